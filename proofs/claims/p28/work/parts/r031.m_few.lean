theorem m93 : Cond.selects RX12 yX12_layNeeds yX12_layNeeds ∈ gd := gds_6 13 rfl
theorem m108 : Cond.selects RX12 yX12_layWays yX12_layWays ∈ gd := gds_7 12 rfl
theorem m109 : Cond.selects RX12 yX12_hasWay yX12_hasWay ∈ gd := gds_7 13 rfl
theorem m110 : Cond.selects RX12 yX12_layWins yX12_layWins ∈ gd := gds_7 14 rfl
theorem m1846 : Cond.methodLink RX12 509 yX12_layNeeds ∈ gd := gdc_8_3 2 rfl gw_methodLink
theorem m1848 : Cond.instanceMethod yX12_layNeeds ∈ gd := gdc_8_3 4 rfl gw_instanceMethod
theorem m1849 : Cond.code yX12_layNeeds cX12_layNeeds 3 none ∈ gd := gdc_8_3 5 rfl gw_code
theorem m1971 : Cond.methodLink RX12 575 yX12_layWays ∈ gd := gdc_8_10 15 rfl gw_methodLink
theorem m1973 : Cond.instanceMethod yX12_layWays ∈ gd := gdc_8_11 1 rfl gw_instanceMethod
theorem m1974 : Cond.code yX12_layWays cX12_layWays 4 none ∈ gd := gdc_8_11 2 rfl gw_code
theorem m1975 : Cond.methodLink RX12 572 yX12_hasWay ∈ gd := gdc_8_11 3 rfl gw_methodLink
theorem m1977 : Cond.instanceMethod yX12_hasWay ∈ gd := gdc_8_11 5 rfl gw_instanceMethod
theorem m1978 : Cond.code yX12_hasWay cX12_hasWay 6 (some .boolean) ∈ gd := gdc_8_11 6 rfl gw_code
theorem m1979 : Cond.methodLink RX12 578 yX12_layWins ∈ gd := gdc_8_11 7 rfl gw_methodLink
theorem m1981 : Cond.instanceMethod yX12_layWins ∈ gd := gdc_8_11 9 rfl gw_instanceMethod
theorem m1982 : Cond.code yX12_layWins cX12_layWins 4 none ∈ gd := gdc_8_11 10 rfl gw_code
noncomputable def rbX12_fewest_0 : List (Nat × List Nat) := [(0, [42]), (1, [3]), (2, [181, 1, 190]), (5, [42]), (6, [27]), (7, [28]), (8, [29]), (9, [182, 1, 234]), (12, [153, 0, 13]), (15, [21, 4]), (17, [3]), (18, [5]), (19, [184, 1, 193]), (22, [154, 0, 5]), (25, [2]), (26, [172]), (27, [42]), (28, [27]), (29, [28]), (30, [29]), (31, [182, 1, 237]), (34, [42]), (35, [182, 1, 253]), (38, [2])]
theorem rcX12_fewest_0 : dgo (lb cX12_fewest) 0 rbX12_fewest_0 = true := by decide +kernel
theorem dX12_fewest_0 : decode cX12_fewest 0 = .ok (.aload_n 0, 1) := dk_42 (dw rcX12_fewest_0 0 rfl)
theorem dX12_fewest_1 : decode cX12_fewest 1 = .ok (.iconst 0, 1) := dk_3 (dw rcX12_fewest_0 1 rfl)
theorem dX12_fewest_2 : decode cX12_fewest 2 = .ok (.putfield 446, 3) := dk_181 (dw rcX12_fewest_0 2 rfl) rfl
theorem dX12_fewest_5 : decode cX12_fewest 5 = .ok (.aload_n 0, 1) := dk_42 (dw rcX12_fewest_0 3 rfl)
theorem dX12_fewest_6 : decode cX12_fewest 6 = .ok (.iload_n 1, 1) := dk_27 (dw rcX12_fewest_0 4 rfl)
theorem dX12_fewest_7 : decode cX12_fewest 7 = .ok (.iload_n 2, 1) := dk_28 (dw rcX12_fewest_0 5 rfl)
theorem dX12_fewest_8 : decode cX12_fewest 8 = .ok (.iload_n 3, 1) := dk_29 (dw rcX12_fewest_0 6 rfl)
theorem dX12_fewest_9 : decode cX12_fewest 9 = .ok (.invokevirtual 490, 3) := dk_182 (dw rcX12_fewest_0 7 rfl) rfl
theorem dX12_fewest_12 : decode cX12_fewest 12 = .ok (.ifCond .eq 13, 3) := dk_153 (dw rcX12_fewest_0 8 rfl) rfl
theorem dX12_fewest_15 : decode cX12_fewest 15 = .ok (.iload 4, 2) := dk_21 (dw rcX12_fewest_0 9 rfl)
theorem dX12_fewest_17 : decode cX12_fewest 17 = .ok (.iconst 0, 1) := dk_3 (dw rcX12_fewest_0 10 rfl)
theorem dX12_fewest_18 : decode cX12_fewest 18 = .ok (.iconst 2, 1) := dk_5 (dw rcX12_fewest_0 11 rfl)
theorem dX12_fewest_19 : decode cX12_fewest 19 = .ok (.invokestatic 449, 3) := dk_184 (dw rcX12_fewest_0 12 rfl) rfl
theorem dX12_fewest_22 : decode cX12_fewest 22 = .ok (.ifCond .ne 5, 3) := dk_154 (dw rcX12_fewest_0 13 rfl) rfl
theorem dX12_fewest_25 : decode cX12_fewest 25 = .ok (.iconst (-1), 1) := dk_2 (dw rcX12_fewest_0 14 rfl)
theorem dX12_fewest_26 : decode cX12_fewest 26 = .ok (.ireturn, 1) := dk_172 (dw rcX12_fewest_0 15 rfl)
theorem dX12_fewest_27 : decode cX12_fewest 27 = .ok (.aload_n 0, 1) := dk_42 (dw rcX12_fewest_0 16 rfl)
theorem dX12_fewest_28 : decode cX12_fewest 28 = .ok (.iload_n 1, 1) := dk_27 (dw rcX12_fewest_0 17 rfl)
theorem dX12_fewest_29 : decode cX12_fewest 29 = .ok (.iload_n 2, 1) := dk_28 (dw rcX12_fewest_0 18 rfl)
theorem dX12_fewest_30 : decode cX12_fewest 30 = .ok (.iload_n 3, 1) := dk_29 (dw rcX12_fewest_0 19 rfl)
theorem dX12_fewest_31 : decode cX12_fewest 31 = .ok (.invokevirtual 493, 3) := dk_182 (dw rcX12_fewest_0 20 rfl) rfl
theorem dX12_fewest_34 : decode cX12_fewest 34 = .ok (.aload_n 0, 1) := dk_42 (dw rcX12_fewest_0 21 rfl)
theorem dX12_fewest_35 : decode cX12_fewest 35 = .ok (.invokevirtual 509, 3) := dk_182 (dw rcX12_fewest_0 22 rfl) rfl
theorem dX12_fewest_38 : decode cX12_fewest 38 = .ok (.iconst (-1), 1) := dk_2 (dw rcX12_fewest_0 23 rfl)
noncomputable def rbX12_fewest_39 : List (Nat × List Nat) := [(39, [54, 5]), (41, [3]), (42, [54, 6]), (44, [21, 6]), (46, [42]), (47, [180, 1, 222]), (50, [162, 0, 54]), (53, [42]), (54, [21, 6]), (56, [3]), (57, [21, 4]), (59, [182, 1, 247]), (62, [19, 1, 246]), (65, [162, 0, 33]), (68, [21, 5]), (70, [155, 0, 24]), (73, [42]), (74, [21, 6]), (76, [3]), (77, [21, 4]), (79, [182, 1, 247]), (82, [42]), (83, [21, 5]), (85, [3])]
theorem rcX12_fewest_39 : dgo (lb cX12_fewest) 0 rbX12_fewest_39 = true := by decide +kernel
theorem dX12_fewest_39 : decode cX12_fewest 39 = .ok (.istore 5, 2) := dk_54 (dw rcX12_fewest_39 0 rfl)
theorem dX12_fewest_41 : decode cX12_fewest 41 = .ok (.iconst 0, 1) := dk_3 (dw rcX12_fewest_39 1 rfl)
theorem dX12_fewest_42 : decode cX12_fewest 42 = .ok (.istore 6, 2) := dk_54 (dw rcX12_fewest_39 2 rfl)
theorem dX12_fewest_44 : decode cX12_fewest 44 = .ok (.iload 6, 2) := dk_21 (dw rcX12_fewest_39 3 rfl)
theorem dX12_fewest_46 : decode cX12_fewest 46 = .ok (.aload_n 0, 1) := dk_42 (dw rcX12_fewest_39 4 rfl)
theorem dX12_fewest_47 : decode cX12_fewest 47 = .ok (.getfield 478, 3) := dk_180 (dw rcX12_fewest_39 5 rfl) rfl
theorem dX12_fewest_50 : decode cX12_fewest 50 = .ok (.if_icmp .ge 54, 3) := dk_162 (dw rcX12_fewest_39 6 rfl) rfl
theorem dX12_fewest_53 : decode cX12_fewest 53 = .ok (.aload_n 0, 1) := dk_42 (dw rcX12_fewest_39 7 rfl)
theorem dX12_fewest_54 : decode cX12_fewest 54 = .ok (.iload 6, 2) := dk_21 (dw rcX12_fewest_39 8 rfl)
theorem dX12_fewest_56 : decode cX12_fewest 56 = .ok (.iconst 0, 1) := dk_3 (dw rcX12_fewest_39 9 rfl)
theorem dX12_fewest_57 : decode cX12_fewest 57 = .ok (.iload 4, 2) := dk_21 (dw rcX12_fewest_39 10 rfl)
theorem dX12_fewest_59 : decode cX12_fewest 59 = .ok (.invokevirtual 503, 3) := dk_182 (dw rcX12_fewest_39 11 rfl) rfl
theorem dX12_fewest_62 : decode cX12_fewest 62 = .ok (.ldc_w 502, 3) := dk_19 (dw rcX12_fewest_39 12 rfl) rfl
theorem dX12_fewest_65 : decode cX12_fewest 65 = .ok (.if_icmp .ge 33, 3) := dk_162 (dw rcX12_fewest_39 13 rfl) rfl
theorem dX12_fewest_68 : decode cX12_fewest 68 = .ok (.iload 5, 2) := dk_21 (dw rcX12_fewest_39 14 rfl)
theorem dX12_fewest_70 : decode cX12_fewest 70 = .ok (.ifCond .lt 24, 3) := dk_155 (dw rcX12_fewest_39 15 rfl) rfl
theorem dX12_fewest_73 : decode cX12_fewest 73 = .ok (.aload_n 0, 1) := dk_42 (dw rcX12_fewest_39 16 rfl)
theorem dX12_fewest_74 : decode cX12_fewest 74 = .ok (.iload 6, 2) := dk_21 (dw rcX12_fewest_39 17 rfl)
theorem dX12_fewest_76 : decode cX12_fewest 76 = .ok (.iconst 0, 1) := dk_3 (dw rcX12_fewest_39 18 rfl)
theorem dX12_fewest_77 : decode cX12_fewest 77 = .ok (.iload 4, 2) := dk_21 (dw rcX12_fewest_39 19 rfl)
theorem dX12_fewest_79 : decode cX12_fewest 79 = .ok (.invokevirtual 503, 3) := dk_182 (dw rcX12_fewest_39 20 rfl) rfl
theorem dX12_fewest_82 : decode cX12_fewest 82 = .ok (.aload_n 0, 1) := dk_42 (dw rcX12_fewest_39 21 rfl)
theorem dX12_fewest_83 : decode cX12_fewest 83 = .ok (.iload 5, 2) := dk_21 (dw rcX12_fewest_39 22 rfl)
theorem dX12_fewest_85 : decode cX12_fewest 85 = .ok (.iconst 0, 1) := dk_3 (dw rcX12_fewest_39 23 rfl)
noncomputable def rbX12_fewest_86 : List (Nat × List Nat) := [(86, [21, 4]), (88, [182, 1, 247]), (91, [162, 0, 7]), (94, [21, 6]), (96, [54, 5]), (98, [132, 6, 1]), (101, [167, 255, 199]), (104, [21, 5]), (106, [156, 0, 5]), (109, [2]), (110, [172]), (111, [42]), (112, [21, 5]), (114, [3]), (115, [21, 4]), (117, [182, 1, 247]), (120, [54, 6]), (122, [21, 5]), (124, [54, 7]), (126, [21, 4]), (128, [54, 8]), (130, [42]), (131, [21, 7]), (133, [182, 2, 0])]
theorem rcX12_fewest_86 : dgo (lb cX12_fewest) 0 rbX12_fewest_86 = true := by decide +kernel
theorem dX12_fewest_86 : decode cX12_fewest 86 = .ok (.iload 4, 2) := dk_21 (dw rcX12_fewest_86 0 rfl)
theorem dX12_fewest_88 : decode cX12_fewest 88 = .ok (.invokevirtual 503, 3) := dk_182 (dw rcX12_fewest_86 1 rfl) rfl
theorem dX12_fewest_91 : decode cX12_fewest 91 = .ok (.if_icmp .ge 7, 3) := dk_162 (dw rcX12_fewest_86 2 rfl) rfl
theorem dX12_fewest_94 : decode cX12_fewest 94 = .ok (.iload 6, 2) := dk_21 (dw rcX12_fewest_86 3 rfl)
theorem dX12_fewest_96 : decode cX12_fewest 96 = .ok (.istore 5, 2) := dk_54 (dw rcX12_fewest_86 4 rfl)
theorem dX12_fewest_98 : decode cX12_fewest 98 = .ok (.iinc 6 1, 3) := dk_132 (dw rcX12_fewest_86 5 rfl) rfl
theorem dX12_fewest_101 : decode cX12_fewest 101 = .ok (.goto (-57), 3) := dk_167 (dw rcX12_fewest_86 6 rfl) rfl
theorem dX12_fewest_104 : decode cX12_fewest 104 = .ok (.iload 5, 2) := dk_21 (dw rcX12_fewest_86 7 rfl)
theorem dX12_fewest_106 : decode cX12_fewest 106 = .ok (.ifCond .ge 5, 3) := dk_156 (dw rcX12_fewest_86 8 rfl) rfl
theorem dX12_fewest_109 : decode cX12_fewest 109 = .ok (.iconst (-1), 1) := dk_2 (dw rcX12_fewest_86 9 rfl)
theorem dX12_fewest_110 : decode cX12_fewest 110 = .ok (.ireturn, 1) := dk_172 (dw rcX12_fewest_86 10 rfl)
theorem dX12_fewest_111 : decode cX12_fewest 111 = .ok (.aload_n 0, 1) := dk_42 (dw rcX12_fewest_86 11 rfl)
theorem dX12_fewest_112 : decode cX12_fewest 112 = .ok (.iload 5, 2) := dk_21 (dw rcX12_fewest_86 12 rfl)
theorem dX12_fewest_114 : decode cX12_fewest 114 = .ok (.iconst 0, 1) := dk_3 (dw rcX12_fewest_86 13 rfl)
theorem dX12_fewest_115 : decode cX12_fewest 115 = .ok (.iload 4, 2) := dk_21 (dw rcX12_fewest_86 14 rfl)
theorem dX12_fewest_117 : decode cX12_fewest 117 = .ok (.invokevirtual 503, 3) := dk_182 (dw rcX12_fewest_86 15 rfl) rfl
theorem dX12_fewest_120 : decode cX12_fewest 120 = .ok (.istore 6, 2) := dk_54 (dw rcX12_fewest_86 16 rfl)
theorem dX12_fewest_122 : decode cX12_fewest 122 = .ok (.iload 5, 2) := dk_21 (dw rcX12_fewest_86 17 rfl)
theorem dX12_fewest_124 : decode cX12_fewest 124 = .ok (.istore 7, 2) := dk_54 (dw rcX12_fewest_86 18 rfl)
theorem dX12_fewest_126 : decode cX12_fewest 126 = .ok (.iload 4, 2) := dk_21 (dw rcX12_fewest_86 19 rfl)
theorem dX12_fewest_128 : decode cX12_fewest 128 = .ok (.istore 8, 2) := dk_54 (dw rcX12_fewest_86 20 rfl)
theorem dX12_fewest_130 : decode cX12_fewest 130 = .ok (.aload_n 0, 1) := dk_42 (dw rcX12_fewest_86 21 rfl)
theorem dX12_fewest_131 : decode cX12_fewest 131 = .ok (.iload 7, 2) := dk_21 (dw rcX12_fewest_86 22 rfl)
theorem dX12_fewest_133 : decode cX12_fewest 133 = .ok (.invokevirtual 512, 3) := dk_182 (dw rcX12_fewest_86 23 rfl) rfl
noncomputable def rbX12_fewest_136 : List (Nat × List Nat) := [(136, [42]), (137, [180, 1, 190]), (140, [21, 6]), (142, [162, 0, 101]), (145, [21, 6]), (147, [42]), (148, [180, 1, 190]), (151, [100]), (152, [54, 9]), (154, [21, 8]), (156, [154, 0, 7]), (159, [3]), (160, [167, 0, 7]), (163, [6]), (164, [21, 8]), (166, [100]), (167, [54, 8]), (169, [42]), (170, [180, 1, 219]), (173, [54, 10]), (175, [42]), (176, [180, 0, 115]), (179, [21, 7]), (181, [21, 10])]
theorem rcX12_fewest_136 : dgo (lb cX12_fewest) 0 rbX12_fewest_136 = true := by decide +kernel
theorem dX12_fewest_136 : decode cX12_fewest 136 = .ok (.aload_n 0, 1) := dk_42 (dw rcX12_fewest_136 0 rfl)
theorem dX12_fewest_137 : decode cX12_fewest 137 = .ok (.getfield 446, 3) := dk_180 (dw rcX12_fewest_136 1 rfl) rfl
theorem dX12_fewest_140 : decode cX12_fewest 140 = .ok (.iload 6, 2) := dk_21 (dw rcX12_fewest_136 2 rfl)
theorem dX12_fewest_142 : decode cX12_fewest 142 = .ok (.if_icmp .ge 101, 3) := dk_162 (dw rcX12_fewest_136 3 rfl) rfl
theorem dX12_fewest_145 : decode cX12_fewest 145 = .ok (.iload 6, 2) := dk_21 (dw rcX12_fewest_136 4 rfl)
theorem dX12_fewest_147 : decode cX12_fewest 147 = .ok (.aload_n 0, 1) := dk_42 (dw rcX12_fewest_136 5 rfl)
theorem dX12_fewest_148 : decode cX12_fewest 148 = .ok (.getfield 446, 3) := dk_180 (dw rcX12_fewest_136 6 rfl) rfl
theorem dX12_fewest_151 : decode cX12_fewest 151 = .ok (.isub, 1) := dk_100 (dw rcX12_fewest_136 7 rfl)
theorem dX12_fewest_152 : decode cX12_fewest 152 = .ok (.istore 9, 2) := dk_54 (dw rcX12_fewest_136 8 rfl)
theorem dX12_fewest_154 : decode cX12_fewest 154 = .ok (.iload 8, 2) := dk_21 (dw rcX12_fewest_136 9 rfl)
theorem dX12_fewest_156 : decode cX12_fewest 156 = .ok (.ifCond .ne 7, 3) := dk_154 (dw rcX12_fewest_136 10 rfl) rfl
theorem dX12_fewest_159 : decode cX12_fewest 159 = .ok (.iconst 0, 1) := dk_3 (dw rcX12_fewest_136 11 rfl)
theorem dX12_fewest_160 : decode cX12_fewest 160 = .ok (.goto 7, 3) := dk_167 (dw rcX12_fewest_136 12 rfl) rfl
theorem dX12_fewest_163 : decode cX12_fewest 163 = .ok (.iconst 3, 1) := dk_6 (dw rcX12_fewest_136 13 rfl)
theorem dX12_fewest_164 : decode cX12_fewest 164 = .ok (.iload 8, 2) := dk_21 (dw rcX12_fewest_136 14 rfl)
theorem dX12_fewest_166 : decode cX12_fewest 166 = .ok (.isub, 1) := dk_100 (dw rcX12_fewest_136 15 rfl)
theorem dX12_fewest_167 : decode cX12_fewest 167 = .ok (.istore 8, 2) := dk_54 (dw rcX12_fewest_136 16 rfl)
theorem dX12_fewest_169 : decode cX12_fewest 169 = .ok (.aload_n 0, 1) := dk_42 (dw rcX12_fewest_136 17 rfl)
theorem dX12_fewest_170 : decode cX12_fewest 170 = .ok (.getfield 475, 3) := dk_180 (dw rcX12_fewest_136 18 rfl) rfl
theorem dX12_fewest_173 : decode cX12_fewest 173 = .ok (.istore 10, 2) := dk_54 (dw rcX12_fewest_136 19 rfl)
theorem dX12_fewest_175 : decode cX12_fewest 175 = .ok (.aload_n 0, 1) := dk_42 (dw rcX12_fewest_136 20 rfl)
theorem dX12_fewest_176 : decode cX12_fewest 176 = .ok (.getfield 115, 3) := dk_180 (dw rcX12_fewest_136 21 rfl) rfl
theorem dX12_fewest_179 : decode cX12_fewest 179 = .ok (.iload 7, 2) := dk_21 (dw rcX12_fewest_136 22 rfl)
theorem dX12_fewest_181 : decode cX12_fewest 181 = .ok (.iload 10, 2) := dk_21 (dw rcX12_fewest_136 23 rfl)
noncomputable def rbX12_fewest_183 : List (Nat × List Nat) := [(183, [96]), (184, [51]), (185, [153, 0, 36]), (188, [42]), (189, [21, 7]), (191, [21, 10]), (193, [96]), (194, [21, 10]), (196, [42]), (197, [180, 1, 222]), (200, [164, 0, 7]), (203, [4]), (204, [167, 0, 4]), (207, [3]), (208, [184, 1, 92]), (211, [21, 8]), (213, [182, 1, 247]), (216, [21, 9]), (218, [159, 0, 9]), (221, [132, 10, 1]), (224, [167, 255, 207]), (227, [21, 7]), (229, [21, 10]), (231, [96])]
theorem rcX12_fewest_183 : dgo (lb cX12_fewest) 0 rbX12_fewest_183 = true := by decide +kernel
theorem dX12_fewest_183 : decode cX12_fewest 183 = .ok (.iadd, 1) := dk_96 (dw rcX12_fewest_183 0 rfl)
theorem dX12_fewest_184 : decode cX12_fewest 184 = .ok (.baload, 1) := dk_51 (dw rcX12_fewest_183 1 rfl)
theorem dX12_fewest_185 : decode cX12_fewest 185 = .ok (.ifCond .eq 36, 3) := dk_153 (dw rcX12_fewest_183 2 rfl) rfl
theorem dX12_fewest_188 : decode cX12_fewest 188 = .ok (.aload_n 0, 1) := dk_42 (dw rcX12_fewest_183 3 rfl)
theorem dX12_fewest_189 : decode cX12_fewest 189 = .ok (.iload 7, 2) := dk_21 (dw rcX12_fewest_183 4 rfl)
theorem dX12_fewest_191 : decode cX12_fewest 191 = .ok (.iload 10, 2) := dk_21 (dw rcX12_fewest_183 5 rfl)
theorem dX12_fewest_193 : decode cX12_fewest 193 = .ok (.iadd, 1) := dk_96 (dw rcX12_fewest_183 6 rfl)
theorem dX12_fewest_194 : decode cX12_fewest 194 = .ok (.iload 10, 2) := dk_21 (dw rcX12_fewest_183 7 rfl)
theorem dX12_fewest_196 : decode cX12_fewest 196 = .ok (.aload_n 0, 1) := dk_42 (dw rcX12_fewest_183 8 rfl)
theorem dX12_fewest_197 : decode cX12_fewest 197 = .ok (.getfield 478, 3) := dk_180 (dw rcX12_fewest_183 9 rfl) rfl
theorem dX12_fewest_200 : decode cX12_fewest 200 = .ok (.if_icmp .le 7, 3) := dk_164 (dw rcX12_fewest_183 10 rfl) rfl
theorem dX12_fewest_203 : decode cX12_fewest 203 = .ok (.iconst 1, 1) := dk_4 (dw rcX12_fewest_183 11 rfl)
theorem dX12_fewest_204 : decode cX12_fewest 204 = .ok (.goto 4, 3) := dk_167 (dw rcX12_fewest_183 12 rfl) rfl
theorem dX12_fewest_207 : decode cX12_fewest 207 = .ok (.iconst 0, 1) := dk_3 (dw rcX12_fewest_183 13 rfl)
theorem dX12_fewest_208 : decode cX12_fewest 208 = .ok (.invokestatic 348, 3) := dk_184 (dw rcX12_fewest_183 14 rfl) rfl
theorem dX12_fewest_211 : decode cX12_fewest 211 = .ok (.iload 8, 2) := dk_21 (dw rcX12_fewest_183 15 rfl)
theorem dX12_fewest_213 : decode cX12_fewest 213 = .ok (.invokevirtual 503, 3) := dk_182 (dw rcX12_fewest_183 16 rfl) rfl
theorem dX12_fewest_216 : decode cX12_fewest 216 = .ok (.iload 9, 2) := dk_21 (dw rcX12_fewest_183 17 rfl)
theorem dX12_fewest_218 : decode cX12_fewest 218 = .ok (.if_icmp .eq 9, 3) := dk_159 (dw rcX12_fewest_183 18 rfl) rfl
theorem dX12_fewest_221 : decode cX12_fewest 221 = .ok (.iinc 10 1, 3) := dk_132 (dw rcX12_fewest_183 19 rfl) rfl
theorem dX12_fewest_224 : decode cX12_fewest 224 = .ok (.goto (-49), 3) := dk_167 (dw rcX12_fewest_183 20 rfl) rfl
theorem dX12_fewest_227 : decode cX12_fewest 227 = .ok (.iload 7, 2) := dk_21 (dw rcX12_fewest_183 21 rfl)
theorem dX12_fewest_229 : decode cX12_fewest 229 = .ok (.iload 10, 2) := dk_21 (dw rcX12_fewest_183 22 rfl)
theorem dX12_fewest_231 : decode cX12_fewest 231 = .ok (.iadd, 1) := dk_96 (dw rcX12_fewest_183 23 rfl)
noncomputable def rbX12_fewest_232 : List (Nat × List Nat) := [(232, [54, 7]), (234, [42]), (235, [21, 7]), (237, [182, 2, 0]), (240, [167, 255, 152]), (243, [21, 6]), (245, [172])]
theorem rcX12_fewest_232 : dgo (lb cX12_fewest) 0 rbX12_fewest_232 = true := by decide +kernel
theorem dX12_fewest_232 : decode cX12_fewest 232 = .ok (.istore 7, 2) := dk_54 (dw rcX12_fewest_232 0 rfl)
theorem dX12_fewest_234 : decode cX12_fewest 234 = .ok (.aload_n 0, 1) := dk_42 (dw rcX12_fewest_232 1 rfl)
theorem dX12_fewest_235 : decode cX12_fewest 235 = .ok (.iload 7, 2) := dk_21 (dw rcX12_fewest_232 2 rfl)
theorem dX12_fewest_237 : decode cX12_fewest 237 = .ok (.invokevirtual 512, 3) := dk_182 (dw rcX12_fewest_232 3 rfl) rfl
theorem dX12_fewest_240 : decode cX12_fewest 240 = .ok (.goto (-104), 3) := dk_167 (dw rcX12_fewest_232 4 rfl) rfl
theorem dX12_fewest_243 : decode cX12_fewest 243 = .ok (.iload 6, 2) := dk_21 (dw rcX12_fewest_232 5 rfl)
theorem dX12_fewest_245 : decode cX12_fewest 245 = .ok (.ireturn, 1) := dk_172 (dw rcX12_fewest_232 6 rfl)
noncomputable def rbX12_hasWay_0 : List (Nat × List Nat) := [(0, [42]), (1, [27]), (2, [28]), (3, [29]), (4, [182, 1, 237]), (7, [42]), (8, [182, 1, 253]), (11, [3]), (12, [54, 4]), (14, [3]), (15, [54, 5]), (17, [21, 5]), (19, [42]), (20, [180, 1, 222]), (23, [162, 0, 43]), (26, [21, 5]), (28, [17, 1, 144]), (31, [162, 0, 35]), (34, [21, 4]), (36, [154, 0, 17]), (39, [42]), (40, [21, 5]), (42, [3]), (43, [3])]
theorem rcX12_hasWay_0 : dgo (lb cX12_hasWay) 0 rbX12_hasWay_0 = true := by decide +kernel
theorem dX12_hasWay_0 : decode cX12_hasWay 0 = .ok (.aload_n 0, 1) := dk_42 (dw rcX12_hasWay_0 0 rfl)
theorem dX12_hasWay_1 : decode cX12_hasWay 1 = .ok (.iload_n 1, 1) := dk_27 (dw rcX12_hasWay_0 1 rfl)
theorem dX12_hasWay_2 : decode cX12_hasWay 2 = .ok (.iload_n 2, 1) := dk_28 (dw rcX12_hasWay_0 2 rfl)
theorem dX12_hasWay_3 : decode cX12_hasWay 3 = .ok (.iload_n 3, 1) := dk_29 (dw rcX12_hasWay_0 3 rfl)
theorem dX12_hasWay_4 : decode cX12_hasWay 4 = .ok (.invokevirtual 493, 3) := dk_182 (dw rcX12_hasWay_0 4 rfl) rfl
theorem dX12_hasWay_7 : decode cX12_hasWay 7 = .ok (.aload_n 0, 1) := dk_42 (dw rcX12_hasWay_0 5 rfl)
theorem dX12_hasWay_8 : decode cX12_hasWay 8 = .ok (.invokevirtual 509, 3) := dk_182 (dw rcX12_hasWay_0 6 rfl) rfl
theorem dX12_hasWay_11 : decode cX12_hasWay 11 = .ok (.iconst 0, 1) := dk_3 (dw rcX12_hasWay_0 7 rfl)
theorem dX12_hasWay_12 : decode cX12_hasWay 12 = .ok (.istore 4, 2) := dk_54 (dw rcX12_hasWay_0 8 rfl)
theorem dX12_hasWay_14 : decode cX12_hasWay 14 = .ok (.iconst 0, 1) := dk_3 (dw rcX12_hasWay_0 9 rfl)
theorem dX12_hasWay_15 : decode cX12_hasWay 15 = .ok (.istore 5, 2) := dk_54 (dw rcX12_hasWay_0 10 rfl)
theorem dX12_hasWay_17 : decode cX12_hasWay 17 = .ok (.iload 5, 2) := dk_21 (dw rcX12_hasWay_0 11 rfl)
theorem dX12_hasWay_19 : decode cX12_hasWay 19 = .ok (.aload_n 0, 1) := dk_42 (dw rcX12_hasWay_0 12 rfl)
theorem dX12_hasWay_20 : decode cX12_hasWay 20 = .ok (.getfield 478, 3) := dk_180 (dw rcX12_hasWay_0 13 rfl) rfl
theorem dX12_hasWay_23 : decode cX12_hasWay 23 = .ok (.if_icmp .ge 43, 3) := dk_162 (dw rcX12_hasWay_0 14 rfl) rfl
theorem dX12_hasWay_26 : decode cX12_hasWay 26 = .ok (.iload 5, 2) := dk_21 (dw rcX12_hasWay_0 15 rfl)
theorem dX12_hasWay_28 : decode cX12_hasWay 28 = .ok (.sipush 400, 3) := dk_17 (dw rcX12_hasWay_0 16 rfl) rfl
theorem dX12_hasWay_31 : decode cX12_hasWay 31 = .ok (.if_icmp .ge 35, 3) := dk_162 (dw rcX12_hasWay_0 17 rfl) rfl
theorem dX12_hasWay_34 : decode cX12_hasWay 34 = .ok (.iload 4, 2) := dk_21 (dw rcX12_hasWay_0 18 rfl)
theorem dX12_hasWay_36 : decode cX12_hasWay 36 = .ok (.ifCond .ne 17, 3) := dk_154 (dw rcX12_hasWay_0 19 rfl) rfl
theorem dX12_hasWay_39 : decode cX12_hasWay 39 = .ok (.aload_n 0, 1) := dk_42 (dw rcX12_hasWay_0 20 rfl)
theorem dX12_hasWay_40 : decode cX12_hasWay 40 = .ok (.iload 5, 2) := dk_21 (dw rcX12_hasWay_0 21 rfl)
theorem dX12_hasWay_42 : decode cX12_hasWay 42 = .ok (.iconst 0, 1) := dk_3 (dw rcX12_hasWay_0 22 rfl)
theorem dX12_hasWay_43 : decode cX12_hasWay 43 = .ok (.iconst 0, 1) := dk_3 (dw rcX12_hasWay_0 23 rfl)
noncomputable def rbX12_hasWay_44 : List (Nat × List Nat) := [(44, [182, 1, 247]), (47, [19, 1, 246]), (50, [162, 0, 7]), (53, [4]), (54, [167, 0, 4]), (57, [3]), (58, [54, 4]), (60, [132, 5, 1]), (63, [167, 255, 210]), (66, [21, 4]), (68, [172])]
theorem rcX12_hasWay_44 : dgo (lb cX12_hasWay) 0 rbX12_hasWay_44 = true := by decide +kernel
theorem dX12_hasWay_44 : decode cX12_hasWay 44 = .ok (.invokevirtual 503, 3) := dk_182 (dw rcX12_hasWay_44 0 rfl) rfl
theorem dX12_hasWay_47 : decode cX12_hasWay 47 = .ok (.ldc_w 502, 3) := dk_19 (dw rcX12_hasWay_44 1 rfl) rfl
theorem dX12_hasWay_50 : decode cX12_hasWay 50 = .ok (.if_icmp .ge 7, 3) := dk_162 (dw rcX12_hasWay_44 2 rfl) rfl
theorem dX12_hasWay_53 : decode cX12_hasWay 53 = .ok (.iconst 1, 1) := dk_4 (dw rcX12_hasWay_44 3 rfl)
theorem dX12_hasWay_54 : decode cX12_hasWay 54 = .ok (.goto 4, 3) := dk_167 (dw rcX12_hasWay_44 4 rfl) rfl
theorem dX12_hasWay_57 : decode cX12_hasWay 57 = .ok (.iconst 0, 1) := dk_3 (dw rcX12_hasWay_44 5 rfl)
theorem dX12_hasWay_58 : decode cX12_hasWay 58 = .ok (.istore 4, 2) := dk_54 (dw rcX12_hasWay_44 6 rfl)
theorem dX12_hasWay_60 : decode cX12_hasWay 60 = .ok (.iinc 5 1, 3) := dk_132 (dw rcX12_hasWay_44 7 rfl) rfl
theorem dX12_hasWay_63 : decode cX12_hasWay 63 = .ok (.goto (-46), 3) := dk_167 (dw rcX12_hasWay_44 8 rfl) rfl
theorem dX12_hasWay_66 : decode cX12_hasWay 66 = .ok (.iload 4, 2) := dk_21 (dw rcX12_hasWay_44 9 rfl)
theorem dX12_hasWay_68 : decode cX12_hasWay 68 = .ok (.ireturn, 1) := dk_172 (dw rcX12_hasWay_44 10 rfl)
noncomputable def rbX12_layWays_0 : List (Nat × List Nat) := [(0, [3]), (1, [62]), (2, [29]), (3, [4]), (4, [42]), (5, [180, 1, 175]), (8, [120]), (9, [162, 0, 22]), (12, [42]), (13, [180, 0, 142]), (16, [29]), (17, [42]), (18, [27]), (19, [28]), (20, [29]), (21, [182, 2, 60]), (24, [84]), (25, [132, 3, 1]), (28, [167, 255, 230]), (31, [177])]
theorem rcX12_layWays_0 : dgo (lb cX12_layWays) 0 rbX12_layWays_0 = true := by decide +kernel
theorem dX12_layWays_0 : decode cX12_layWays 0 = .ok (.iconst 0, 1) := dk_3 (dw rcX12_layWays_0 0 rfl)
theorem dX12_layWays_1 : decode cX12_layWays 1 = .ok (.istore_n 3, 1) := dk_62 (dw rcX12_layWays_0 1 rfl)
theorem dX12_layWays_2 : decode cX12_layWays 2 = .ok (.iload_n 3, 1) := dk_29 (dw rcX12_layWays_0 2 rfl)
theorem dX12_layWays_3 : decode cX12_layWays 3 = .ok (.iconst 1, 1) := dk_4 (dw rcX12_layWays_0 3 rfl)
theorem dX12_layWays_4 : decode cX12_layWays 4 = .ok (.aload_n 0, 1) := dk_42 (dw rcX12_layWays_0 4 rfl)
theorem dX12_layWays_5 : decode cX12_layWays 5 = .ok (.getfield 431, 3) := dk_180 (dw rcX12_layWays_0 5 rfl) rfl
theorem dX12_layWays_8 : decode cX12_layWays 8 = .ok (.ishl, 1) := dk_120 (dw rcX12_layWays_0 6 rfl)
theorem dX12_layWays_9 : decode cX12_layWays 9 = .ok (.if_icmp .ge 22, 3) := dk_162 (dw rcX12_layWays_0 7 rfl) rfl
theorem dX12_layWays_12 : decode cX12_layWays 12 = .ok (.aload_n 0, 1) := dk_42 (dw rcX12_layWays_0 8 rfl)
theorem dX12_layWays_13 : decode cX12_layWays 13 = .ok (.getfield 142, 3) := dk_180 (dw rcX12_layWays_0 9 rfl) rfl
theorem dX12_layWays_16 : decode cX12_layWays 16 = .ok (.iload_n 3, 1) := dk_29 (dw rcX12_layWays_0 10 rfl)
theorem dX12_layWays_17 : decode cX12_layWays 17 = .ok (.aload_n 0, 1) := dk_42 (dw rcX12_layWays_0 11 rfl)
theorem dX12_layWays_18 : decode cX12_layWays 18 = .ok (.iload_n 1, 1) := dk_27 (dw rcX12_layWays_0 12 rfl)
theorem dX12_layWays_19 : decode cX12_layWays 19 = .ok (.iload_n 2, 1) := dk_28 (dw rcX12_layWays_0 13 rfl)
theorem dX12_layWays_20 : decode cX12_layWays 20 = .ok (.iload_n 3, 1) := dk_29 (dw rcX12_layWays_0 14 rfl)
theorem dX12_layWays_21 : decode cX12_layWays 21 = .ok (.invokevirtual 572, 3) := dk_182 (dw rcX12_layWays_0 15 rfl) rfl
theorem dX12_layWays_24 : decode cX12_layWays 24 = .ok (.bastore, 1) := dk_84 (dw rcX12_layWays_0 16 rfl)
theorem dX12_layWays_25 : decode cX12_layWays 25 = .ok (.iinc 3 1, 3) := dk_132 (dw rcX12_layWays_0 17 rfl) rfl
theorem dX12_layWays_28 : decode cX12_layWays 28 = .ok (.goto (-26), 3) := dk_167 (dw rcX12_layWays_0 18 rfl) rfl
theorem dX12_layWays_31 : decode cX12_layWays 31 = .ok (.return_, 1) := dk_177 (dw rcX12_layWays_0 19 rfl)
noncomputable def rbX12_leave_0 : List (Nat × List Nat) := [(0, [42]), (1, [27]), (2, [182, 1, 231]), (5, [153, 0, 11]), (8, [42]), (9, [28]), (10, [182, 1, 197]), (13, [154, 0, 5]), (16, [2]), (17, [172]), (18, [42]), (19, [27]), (20, [28]), (21, [182, 2, 63]), (24, [3]), (25, [62]), (26, [3]), (27, [54, 4]), (29, [21, 4]), (31, [4]), (32, [42]), (33, [180, 1, 175]), (36, [120]), (37, [162, 0, 22])]
theorem rcX12_leave_0 : dgo (lb cX12_leave) 0 rbX12_leave_0 = true := by decide +kernel
theorem dX12_leave_0 : decode cX12_leave 0 = .ok (.aload_n 0, 1) := dk_42 (dw rcX12_leave_0 0 rfl)
theorem dX12_leave_1 : decode cX12_leave 1 = .ok (.iload_n 1, 1) := dk_27 (dw rcX12_leave_0 1 rfl)
theorem dX12_leave_2 : decode cX12_leave 2 = .ok (.invokevirtual 487, 3) := dk_182 (dw rcX12_leave_0 2 rfl) rfl
theorem dX12_leave_5 : decode cX12_leave 5 = .ok (.ifCond .eq 11, 3) := dk_153 (dw rcX12_leave_0 3 rfl) rfl
theorem dX12_leave_8 : decode cX12_leave 8 = .ok (.aload_n 0, 1) := dk_42 (dw rcX12_leave_0 4 rfl)
theorem dX12_leave_9 : decode cX12_leave 9 = .ok (.iload_n 2, 1) := dk_28 (dw rcX12_leave_0 5 rfl)
theorem dX12_leave_10 : decode cX12_leave 10 = .ok (.invokevirtual 453, 3) := dk_182 (dw rcX12_leave_0 6 rfl) rfl
theorem dX12_leave_13 : decode cX12_leave 13 = .ok (.ifCond .ne 5, 3) := dk_154 (dw rcX12_leave_0 7 rfl) rfl
theorem dX12_leave_16 : decode cX12_leave 16 = .ok (.iconst (-1), 1) := dk_2 (dw rcX12_leave_0 8 rfl)
theorem dX12_leave_17 : decode cX12_leave 17 = .ok (.ireturn, 1) := dk_172 (dw rcX12_leave_0 9 rfl)
theorem dX12_leave_18 : decode cX12_leave 18 = .ok (.aload_n 0, 1) := dk_42 (dw rcX12_leave_0 10 rfl)
theorem dX12_leave_19 : decode cX12_leave 19 = .ok (.iload_n 1, 1) := dk_27 (dw rcX12_leave_0 11 rfl)
theorem dX12_leave_20 : decode cX12_leave 20 = .ok (.iload_n 2, 1) := dk_28 (dw rcX12_leave_0 12 rfl)
theorem dX12_leave_21 : decode cX12_leave 21 = .ok (.invokevirtual 575, 3) := dk_182 (dw rcX12_leave_0 13 rfl) rfl
theorem dX12_leave_24 : decode cX12_leave 24 = .ok (.iconst 0, 1) := dk_3 (dw rcX12_leave_0 14 rfl)
theorem dX12_leave_25 : decode cX12_leave 25 = .ok (.istore_n 3, 1) := dk_62 (dw rcX12_leave_0 15 rfl)
theorem dX12_leave_26 : decode cX12_leave 26 = .ok (.iconst 0, 1) := dk_3 (dw rcX12_leave_0 16 rfl)
theorem dX12_leave_27 : decode cX12_leave 27 = .ok (.istore 4, 2) := dk_54 (dw rcX12_leave_0 17 rfl)
theorem dX12_leave_29 : decode cX12_leave 29 = .ok (.iload 4, 2) := dk_21 (dw rcX12_leave_0 18 rfl)
theorem dX12_leave_31 : decode cX12_leave 31 = .ok (.iconst 1, 1) := dk_4 (dw rcX12_leave_0 19 rfl)
theorem dX12_leave_32 : decode cX12_leave 32 = .ok (.aload_n 0, 1) := dk_42 (dw rcX12_leave_0 20 rfl)
theorem dX12_leave_33 : decode cX12_leave 33 = .ok (.getfield 431, 3) := dk_180 (dw rcX12_leave_0 21 rfl) rfl
theorem dX12_leave_36 : decode cX12_leave 36 = .ok (.ishl, 1) := dk_120 (dw rcX12_leave_0 22 rfl)
theorem dX12_leave_37 : decode cX12_leave 37 = .ok (.if_icmp .ge 22, 3) := dk_162 (dw rcX12_leave_0 23 rfl) rfl
noncomputable def rbX12_leave_40 : List (Nat × List Nat) := [(40, [29]), (41, [42]), (42, [180, 0, 142]), (45, [21, 4]), (47, [51]), (48, [184, 1, 92]), (51, [96]), (52, [62]), (53, [132, 4, 1]), (56, [167, 255, 229]), (59, [29]), (60, [172])]
theorem rcX12_leave_40 : dgo (lb cX12_leave) 0 rbX12_leave_40 = true := by decide +kernel
theorem dX12_leave_40 : decode cX12_leave 40 = .ok (.iload_n 3, 1) := dk_29 (dw rcX12_leave_40 0 rfl)
theorem dX12_leave_41 : decode cX12_leave 41 = .ok (.aload_n 0, 1) := dk_42 (dw rcX12_leave_40 1 rfl)
theorem dX12_leave_42 : decode cX12_leave 42 = .ok (.getfield 142, 3) := dk_180 (dw rcX12_leave_40 2 rfl) rfl
theorem dX12_leave_45 : decode cX12_leave 45 = .ok (.iload 4, 2) := dk_21 (dw rcX12_leave_40 3 rfl)
theorem dX12_leave_47 : decode cX12_leave 47 = .ok (.baload, 1) := dk_51 (dw rcX12_leave_40 4 rfl)
theorem dX12_leave_48 : decode cX12_leave 48 = .ok (.invokestatic 348, 3) := dk_184 (dw rcX12_leave_40 5 rfl) rfl
theorem dX12_leave_51 : decode cX12_leave 51 = .ok (.iadd, 1) := dk_96 (dw rcX12_leave_40 6 rfl)
theorem dX12_leave_52 : decode cX12_leave 52 = .ok (.istore_n 3, 1) := dk_62 (dw rcX12_leave_40 7 rfl)
theorem dX12_leave_53 : decode cX12_leave 53 = .ok (.iinc 4 1, 3) := dk_132 (dw rcX12_leave_40 8 rfl) rfl
theorem dX12_leave_56 : decode cX12_leave 56 = .ok (.goto (-27), 3) := dk_167 (dw rcX12_leave_40 9 rfl) rfl
theorem dX12_leave_59 : decode cX12_leave 59 = .ok (.iload_n 3, 1) := dk_29 (dw rcX12_leave_40 10 rfl)
theorem dX12_leave_60 : decode cX12_leave 60 = .ok (.ireturn, 1) := dk_172 (dw rcX12_leave_40 11 rfl)
noncomputable def rbX12_wager_0 : List (Nat × List Nat) := [(0, [42]), (1, [27]), (2, [28]), (3, [29]), (4, [182, 1, 234]), (7, [153, 0, 13]), (10, [21, 4]), (12, [3]), (13, [4]), (14, [184, 1, 193]), (17, [154, 0, 5]), (20, [2]), (21, [172]), (22, [42]), (23, [27]), (24, [28]), (25, [182, 2, 63]), (28, [4]), (29, [42]), (30, [180, 1, 175]), (33, [120]), (34, [4]), (35, [100]), (36, [54, 5])]
theorem rcX12_wager_0 : dgo (lb cX12_wager) 0 rbX12_wager_0 = true := by decide +kernel
theorem dX12_wager_0 : decode cX12_wager 0 = .ok (.aload_n 0, 1) := dk_42 (dw rcX12_wager_0 0 rfl)
theorem dX12_wager_1 : decode cX12_wager 1 = .ok (.iload_n 1, 1) := dk_27 (dw rcX12_wager_0 1 rfl)
theorem dX12_wager_2 : decode cX12_wager 2 = .ok (.iload_n 2, 1) := dk_28 (dw rcX12_wager_0 2 rfl)
theorem dX12_wager_3 : decode cX12_wager 3 = .ok (.iload_n 3, 1) := dk_29 (dw rcX12_wager_0 3 rfl)
theorem dX12_wager_4 : decode cX12_wager 4 = .ok (.invokevirtual 490, 3) := dk_182 (dw rcX12_wager_0 4 rfl) rfl
theorem dX12_wager_7 : decode cX12_wager 7 = .ok (.ifCond .eq 13, 3) := dk_153 (dw rcX12_wager_0 5 rfl) rfl
theorem dX12_wager_10 : decode cX12_wager 10 = .ok (.iload 4, 2) := dk_21 (dw rcX12_wager_0 6 rfl)
theorem dX12_wager_12 : decode cX12_wager 12 = .ok (.iconst 0, 1) := dk_3 (dw rcX12_wager_0 7 rfl)
theorem dX12_wager_13 : decode cX12_wager 13 = .ok (.iconst 1, 1) := dk_4 (dw rcX12_wager_0 8 rfl)
theorem dX12_wager_14 : decode cX12_wager 14 = .ok (.invokestatic 449, 3) := dk_184 (dw rcX12_wager_0 9 rfl) rfl
theorem dX12_wager_17 : decode cX12_wager 17 = .ok (.ifCond .ne 5, 3) := dk_154 (dw rcX12_wager_0 10 rfl) rfl
theorem dX12_wager_20 : decode cX12_wager 20 = .ok (.iconst (-1), 1) := dk_2 (dw rcX12_wager_0 11 rfl)
theorem dX12_wager_21 : decode cX12_wager 21 = .ok (.ireturn, 1) := dk_172 (dw rcX12_wager_0 12 rfl)
theorem dX12_wager_22 : decode cX12_wager 22 = .ok (.aload_n 0, 1) := dk_42 (dw rcX12_wager_0 13 rfl)
theorem dX12_wager_23 : decode cX12_wager 23 = .ok (.iload_n 1, 1) := dk_27 (dw rcX12_wager_0 14 rfl)
theorem dX12_wager_24 : decode cX12_wager 24 = .ok (.iload_n 2, 1) := dk_28 (dw rcX12_wager_0 15 rfl)
theorem dX12_wager_25 : decode cX12_wager 25 = .ok (.invokevirtual 575, 3) := dk_182 (dw rcX12_wager_0 16 rfl) rfl
theorem dX12_wager_28 : decode cX12_wager 28 = .ok (.iconst 1, 1) := dk_4 (dw rcX12_wager_0 17 rfl)
theorem dX12_wager_29 : decode cX12_wager 29 = .ok (.aload_n 0, 1) := dk_42 (dw rcX12_wager_0 18 rfl)
theorem dX12_wager_30 : decode cX12_wager 30 = .ok (.getfield 431, 3) := dk_180 (dw rcX12_wager_0 19 rfl) rfl
theorem dX12_wager_33 : decode cX12_wager 33 = .ok (.ishl, 1) := dk_120 (dw rcX12_wager_0 20 rfl)
theorem dX12_wager_34 : decode cX12_wager 34 = .ok (.iconst 1, 1) := dk_4 (dw rcX12_wager_0 21 rfl)
theorem dX12_wager_35 : decode cX12_wager 35 = .ok (.isub, 1) := dk_100 (dw rcX12_wager_0 22 rfl)
theorem dX12_wager_36 : decode cX12_wager 36 = .ok (.istore 5, 2) := dk_54 (dw rcX12_wager_0 23 rfl)
noncomputable def rbX12_wager_38 : List (Nat × List Nat) := [(38, [21, 5]), (40, [155, 0, 15]), (43, [42]), (44, [21, 5]), (46, [182, 2, 66]), (49, [132, 5, 255]), (52, [167, 255, 242]), (55, [21, 4]), (57, [154, 0, 15]), (60, [42]), (61, [180, 0, 145]), (64, [29]), (65, [51]), (66, [184, 1, 92]), (69, [167, 0, 9]), (72, [42]), (73, [180, 0, 148]), (76, [29]), (77, [46]), (78, [172])]
theorem rcX12_wager_38 : dgo (lb cX12_wager) 0 rbX12_wager_38 = true := by decide +kernel
theorem dX12_wager_38 : decode cX12_wager 38 = .ok (.iload 5, 2) := dk_21 (dw rcX12_wager_38 0 rfl)
theorem dX12_wager_40 : decode cX12_wager 40 = .ok (.ifCond .lt 15, 3) := dk_155 (dw rcX12_wager_38 1 rfl) rfl
theorem dX12_wager_43 : decode cX12_wager 43 = .ok (.aload_n 0, 1) := dk_42 (dw rcX12_wager_38 2 rfl)
theorem dX12_wager_44 : decode cX12_wager 44 = .ok (.iload 5, 2) := dk_21 (dw rcX12_wager_38 3 rfl)
theorem dX12_wager_46 : decode cX12_wager 46 = .ok (.invokevirtual 578, 3) := dk_182 (dw rcX12_wager_38 4 rfl) rfl
theorem dX12_wager_49 : decode cX12_wager 49 = .ok (.iinc 5 (-1), 3) := dk_132 (dw rcX12_wager_38 5 rfl) rfl
theorem dX12_wager_52 : decode cX12_wager 52 = .ok (.goto (-14), 3) := dk_167 (dw rcX12_wager_38 6 rfl) rfl
theorem dX12_wager_55 : decode cX12_wager 55 = .ok (.iload 4, 2) := dk_21 (dw rcX12_wager_38 7 rfl)
theorem dX12_wager_57 : decode cX12_wager 57 = .ok (.ifCond .ne 15, 3) := dk_154 (dw rcX12_wager_38 8 rfl) rfl
theorem dX12_wager_60 : decode cX12_wager 60 = .ok (.aload_n 0, 1) := dk_42 (dw rcX12_wager_38 9 rfl)
theorem dX12_wager_61 : decode cX12_wager 61 = .ok (.getfield 145, 3) := dk_180 (dw rcX12_wager_38 10 rfl) rfl
theorem dX12_wager_64 : decode cX12_wager 64 = .ok (.iload_n 3, 1) := dk_29 (dw rcX12_wager_38 11 rfl)
theorem dX12_wager_65 : decode cX12_wager 65 = .ok (.baload, 1) := dk_51 (dw rcX12_wager_38 12 rfl)
theorem dX12_wager_66 : decode cX12_wager 66 = .ok (.invokestatic 348, 3) := dk_184 (dw rcX12_wager_38 13 rfl) rfl
theorem dX12_wager_69 : decode cX12_wager 69 = .ok (.goto 9, 3) := dk_167 (dw rcX12_wager_38 14 rfl) rfl
theorem dX12_wager_72 : decode cX12_wager 72 = .ok (.aload_n 0, 1) := dk_42 (dw rcX12_wager_38 15 rfl)
theorem dX12_wager_73 : decode cX12_wager 73 = .ok (.getfield 148, 3) := dk_180 (dw rcX12_wager_38 16 rfl) rfl
theorem dX12_wager_76 : decode cX12_wager 76 = .ok (.iload_n 3, 1) := dk_29 (dw rcX12_wager_38 17 rfl)
theorem dX12_wager_77 : decode cX12_wager 77 = .ok (.iaload, 1) := dk_46 (dw rcX12_wager_38 18 rfl)
theorem dX12_wager_78 : decode cX12_wager 78 = .ok (.ireturn, 1) := dk_172 (dw rcX12_wager_38 19 rfl)
set_option maxHeartbeats 4000000 in
set_option maxRecDepth 100000 in
theorem n_hasWay (l : Launch) (D : va_G) (k : KT) (A : Nat → Prop) (a : Nat → Nat) (z : SK) (G : GS) (p0 : Int32) (p1 : Int32) (p2 : Int32) (ha_p0 : 0 ≤ p0.toInt ∧ p0.toInt ≤ 3) (ha_p1 : 0 ≤ p1.toInt ∧ p1.toInt ≤ 2) (hP9 : gP G = 1) (hW9 : gW G = 1) (hpw : p0.toInt < (G.1 66 53).toInt) : Met l yX12_hasWay (WS yX12_hasWay cX12_hasWay 6 (some .boolean)) ({ frames := 5, cells := 0, slots := 0, locals := 117 }) (va_Pc [.ref (a 66), .int p0, .int p1, .int p2] (cW D k A a z G)) (va_Qi (fun (r : Int32) (G1 : GS) => Q_hasWay p0 p1 p2 G r G1) (fun (G1 : GS) t => Wd D k A a G1 t.heap) A) 0 0 A := by
  refine Met.ofW (cc := cX12_hasWay) (maxL := 6) (ret := (some .boolean)) (by decide) rfl ?_
  intro p e s m args below meth c s₁ B hml hv
  obtain ⟨rfl, hW, hB_G, hK, hZ⟩ := hv
  have hx := B.exec
  have hb := B.bytes
  have hr := B.returns
  have hts := atoms_spec (ws := WS yX12_hasWay cX12_hasWay 6 (some .boolean)) B.pre
  have hgd : ∀ w ∈ gd, w ∈ WS yX12_hasWay cX12_hasWay 6 (some .boolean) := fun w h => List.mem_cons_of_mem _ h
  have hg : ∀ w ∈ gd, w.before _ s = true := fun w h => hts w (hgd w h)
  have hown : s.vm.findClass RX12 = some m.cls := findClass_of_methodNamed B.named
  have hS : va_S A s.heap s.heap [] := va_S.rf
  have hF : Fr [76, 97, 98, 99] [(66, 59), (66, 60), (66, 61), (66, 62), (66, 63)] G G := Fr.rf
  have hl := lv_entry ([.ref (a 66), .int p0, .int p1, .int p2]) (n := 6) (Nat.le_of_ble_eq_true rfl)
  rw [lg_entry_eq]
  generalize (lg_sl ([.ref (a 66), .int p0, .int p1, .int p2]) ++ List.replicate (6 - (lg_sl ([.ref (a 66), .int p0, .int p1, .int p2])).length) Slot.unset).toArray = ls at hl ⊢
  have hl : lv_has ls 6 [(0, .ref (a 66)), (1, .int p0), (2, .int p1), (3, .int p2)] := hl
  refine lv_aload_n hx hb dX12_hasWay_0 rfl (lv_at hl 0 rfl) ?_
  refine lv_iload_n hx hb dX12_hasWay_1 rfl (lv_at hl 1 rfl) ?_
  refine lv_iload_n hx hb dX12_hasWay_2 rfl (lv_at hl 2 rfl) ?_
  refine lv_iload_n hx hb dX12_hasWay_3 rfl (lv_at hl 3 rfl) ?_
  refine S_callv (va_runV (As := [.int p0, .int p1, .int p2]) (rest := []) ⟨hx, hb, hml, hown, hts⟩ (n_layStreet l D k A a z G p0 p1 p2 ⟨(by first | exact ha_p0.1 | omega), (by first | exact ha_p0.2 | omega)⟩ ⟨(by first | exact ha_p1.1 | omega), (by first | exact ha_p1.2 | omega)⟩ ((by first | exact hP9 | omega))) (cwV 3 hts (gd_V hgd m1834 m1836 m91 m131 m1837) rfl rfl rfl hd_X12_layStreet ⟨Nat.le_of_ble_eq_true rfl, Nat.le_of_ble_eq_true rfl⟩) (pre_W hW hB_G hK hZ hS kd_66 rfl) rfl rfl hl.1 rfl (lv_room (Nat.le_of_ble_eq_true rfl)) dX12_hasWay_4 ⟨Nat.le_of_ble_eq_true rfl, Nat.le_of_ble_eq_true rfl⟩) hS (fun G_2 H locs hpo hW hS => ?_)
  have hX_5 : Q_layStreet p0 p1 p2 G G_2 := hpo
  obtain ⟨hB_G_2, hq_3, ⟨d_1, d_2, d_3, d_4, d_5, d_6⟩, -⟩ := hpo
  have hF := hF.call9 hq_3 rfl rfl
  have b_6 : 0 ≤ (G.1 66 53).toInt ∧ (G.1 66 53).toInt ≤ 4 := hB_G.i 66 53 rfl rfl
  have u_7 := gW_at hW9 p0 (by first | (clear ha_p1 hP9 hW9 d_1; omega) | omega) (by first | (clear ha_p1 hP9 hW9 d_1; omega) | omega)
  have b_8 : 0 ≤ (G_2.1 66 60).toInt ∧ (G_2.1 66 60).toInt ≤ 12 := bd_66_60 hB_G_2
  have b_9 : 0 ≤ (G_2.1 66 61).toInt ∧ (G_2.1 66 61).toInt ≤ 60 := bd_66_61 hB_G_2
  have b_10 : 0 ≤ (G_2.1 66 62).toInt ∧ (G_2.1 66 62).toInt ≤ 60 := bd_66_62 hB_G_2
  have b_11 : 0 ≤ (G_2.1 66 63).toInt ∧ (G_2.1 66 63).toInt ≤ 99 := bd_66_63 hB_G_2
  refine lv_aload_n hx hb dX12_hasWay_7 rfl (lv_at hl 0 rfl) ?_
  have b_12 : 0 ≤ (G_2.1 98 400).toInt ∧ (G_2.1 98 400).toInt ≤ 1 := bd_98_400 hB_G_2
  refine S_callv (va_runV (As := []) (rest := []) ⟨hx, hb, hml, hown, hts⟩ (n_layNeeds l D k A a z G_2  ((by first | (clear ha_p1 hP9 hW9 d_1; omega) | omega)) ((by first | exact ⟨((by first | (clear ha_p1 hP9 hW9 d_1; omega) | omega)), ((by first | (clear ha_p1 hP9 hW9 d_1; omega) | omega))⟩ | omega)) ((by first | (clear ha_p1 hP9 hW9 d_1 b_6; omega) | omega))) (cwV 0 hts (gd_V hgd m1846 m1848 m93 m131 m1849) rfl rfl rfl hd_X12_layNeeds ⟨Nat.le_of_ble_eq_true rfl, Nat.le_of_ble_eq_true rfl⟩) (pre_W hW hB_G_2 hK hZ hS kd_66 rfl) rfl rfl hl.1 rfl (lv_room (Nat.le_of_ble_eq_true rfl)) dX12_hasWay_8 ⟨Nat.le_of_ble_eq_true rfl, Nat.le_of_ble_eq_true rfl⟩) hS (fun G_14 H locs hpo hW hS => ?_)
  have hX_17 : Q_layNeeds G_2 G_14 := hpo
  obtain ⟨hB_G_14, hq_15, hp_16, -⟩ := hpo
  have hF := hF.call9 hq_15 rfl rfl
  refine ic_0 hx hb dX12_hasWay_11 ?_
  refine lv_istore (lv' := [(4, .int 0), (0, .ref (a 66)), (1, .int p0), (2, .int p1), (3, .int p2)]) hx hb dX12_hasWay_12 hl (lt_b rfl) rfl (fun ls hl => ?_)
  refine ic_0 hx hb dX12_hasWay_14 ?_
  refine lv_istore (lv' := [(5, .int 0), (4, .int 0), (0, .ref (a 66)), (1, .int p0), (2, .int p1), (3, .int p2)]) hx hb dX12_hasWay_15 hl (lt_b rfl) rfl (fun ls hl => ?_)
  have qc_25 : (0 : Int32).toInt = 0 := rfl
  refine loop_N (Inv := fun n H locs ls => ∃ (G_18 : GS) (x_22 : Int32) (x_23 : Int32), (n : Int) = 60 - x_22.toInt ∧ (0 ≤ x_22.toInt ∧ x_22.toInt ≤ 60) ∧ (0 ≤ x_23.toInt ∧ x_23.toInt ≤ 1) ∧ Rc (St_n_hasWay_1 G_2) (0, 0, G_14) (x_22, x_23, G_18) ∧ Wd D k A a G_18 H ∧ Bd G_18 ∧ Fr [76, 97, 98, 99] [(66, 59), (66, 60), (66, 61), (66, 62), (66, 63)] G G_18 ∧ Fr [] [] G_14 G_18 ∧ va_S A s.heap H locs ∧ lv_has ls 6 [(5, .int x_22), (4, .int x_23), (0, .ref (a 66))]) (fun n_21 H locs ls ih_20 hI => ?_) (60 - 0 : Int).toNat ⟨G_14, 0, 0, (Int.toNat_of_nonneg ((by decide))), ⟨(by decide), (by decide)⟩, ⟨(by decide), (by decide)⟩, Rc.rf, hW, hB_G_14, hF, Fr.rf, hS, lv_sub hl [0, 1, 2] rfl⟩
  obtain ⟨G_18, x_22, x_23, hn_28, f_26, f_27, hX_24, hW, hB_G_18, hF, hq_19, hS, hl⟩ := hI
  refine lv_iload hx hb dX12_hasWay_17 (lv_at hl 0 rfl) ?_
  refine lv_aload_n hx hb dX12_hasWay_19 rfl (lv_at hl 2 rfl) ?_
  refine S_getI (v := (G_2.1 66 62)) (C := RX12) (T := TX12) (N := 89) hx hb hg iX12 hown hK hW kd_66 rfl 62 (lt_b rfl) (hg (Cond.fieldLink RX12 478 "SlabWalkModel" "most" "I") m1376) (fun _ h9 => h9) rfl ((hq_19.i9 66 62 rfl rfl).trans ((hq_15.i9 66 62 rfl rfl).trans (rfl))) dX12_hasWay_20 ?_
  refine lv_icmp_ge (tgt := 66) hx hb dX12_hasWay_23 rfl (fun c_29 => ?_) (fun c_29 => ?_)
  · have c_29 : (G_2.1 66 62).toInt ≤ x_22.toInt := xI_le rfl rfl c_29
    refine lv_iload hx hb dX12_hasWay_66 (lv_at hl 1 rfl) ?_
    exact W.zret (v := x_23) hx hb hr (nar_z ((by first | exact f_27.1 | omega)) ((by first | exact f_27.2 | omega))) (fun t ht _ => ⟨⟨x_23, G_18, rfl, (Q_hasWay_mk ⟨hB_G_18, hF, ⟨(by first | exact f_27.1 | omega), (by first | exact f_27.2 | omega)⟩, ⟨G_2, hX_5, ⟨G_14, hX_17, ⟨x_22, x_23, G_18, hX_24, f_26, f_27, hB_G_18, hq_19, ⟨c_29, ⟨rfl, rfl⟩⟩⟩⟩⟩⟩), wd_t ht hW⟩, hS.F ht⟩) hS.2.2 dX12_hasWay_68
  · have c_29 : x_22.toInt < (G_2.1 66 62).toInt := xI_nle rfl rfl c_29
    refine lv_iload hx hb dX12_hasWay_26 (lv_at hl 0 rfl) ?_
    refine lv_sipush (v := 400) hx hb dX12_hasWay_28 (by decide) ?_
    refine lv_icmp_ge (tgt := 66) hx hb dX12_hasWay_31 rfl (fun c_30 => ?_) (fun c_30 => ?_)
    · have c_30 : 400 ≤ x_22.toInt := xI_le rfl rfl c_30
      exfalso; first | exact ok_1193 f_26.2 c_30 | omega
    · have c_30 : x_22.toInt < 400 := xI_nle rfl rfl c_30
      refine lv_iload hx hb dX12_hasWay_34 (lv_at hl 1 rfl) ?_
      refine lv_if_ne (tgt := 53) hx hb dX12_hasWay_36 rfl (fun c_31 => ?_) (fun c_31 => ?_)
      · have c_31 : x_23.toInt ≠ 0 := xI_ne rfl rfl c_31
        refine ic_1 hx hb dX12_hasWay_53 ?_
        refine lv_goto (tgt := 58) hx hb dX12_hasWay_54 rfl ?_
        refine lv_istore (lv' := [(4, .int 1), (5, .int x_22), (0, .ref (a 66))]) hx hb dX12_hasWay_58 hl (lt_b rfl) rfl (fun ls hl => ?_)
        obtain ⟨y_32, ey_32⟩ : ∃ q, q = x_22 + 1 := ⟨_, rfl⟩
        have ty_32 : y_32.toInt = x_22.toInt + 1 := xI_add rfl rfl ey_32 ((by first | exact ok_21 f_26.1 | omega)) ((by first | exact ok_238 f_26.2 | omega))
        refine lv_iinc (v := y_32) (lv' := [(5, .int y_32), (4, .int 1), (0, .ref (a 66))]) hx hb dX12_hasWay_60 hl (k := 1) rfl (by rw [ey_32]; rfl) (lt_b rfl) rfl (fun ls hl => ?_)
        refine lv_goto (tgt := 17) hx hb dX12_hasWay_63 rfl ?_
        have qc_33 : (1 : Int32).toInt = 1 := rfl
        exact ih_20 (60 - y_32.toInt : Int).toNat ((by first | (clear ha_p1 hP9 hW9 d_1 b_6 b_12 f_27 c_31; omega) | omega)) _ _ _ ⟨G_18, y_32, 1, (Int.toNat_of_nonneg ((by first | exact ok_239 b_10.2 f_26.2 c_29 ty_32 | omega))), ⟨(by first | exact ok_23 f_26.1 ty_32 | omega), (by first | exact ok_241 b_10.2 f_26.2 c_29 ty_32 | omega)⟩, ⟨(by decide), (by decide)⟩, (hX_24.st (St_n_hasWay_1_mk ⟨x_22, x_23, G_18, y_32, 1, G_18, rfl, rfl, f_26, f_27, hB_G_18, ⟨c_29, (Or.inr ⟨c_31, ⟨y_32, ty_32, ⟨rfl, rfl, rfl⟩⟩⟩)⟩⟩)), hW, hB_G_18, hF, (Fr.call9 (rs := []) (fs := []) Fr.rf hq_19 rfl rfl), hS, lv_sub hl [0, 1, 2] rfl⟩
      · have c_31 : x_23.toInt = 0 := xI_eq rfl rfl c_31
        refine lv_aload_n hx hb dX12_hasWay_39 rfl (lv_at hl 2 rfl) ?_
        refine lv_iload hx hb dX12_hasWay_40 (lv_at hl 0 rfl) ?_
        refine ic_0 hx hb dX12_hasWay_42 ?_
        refine ic_0 hx hb dX12_hasWay_43 ?_
        have qc_34 : (0 : Int32).toInt = 0 := rfl
        have qc_35 : (0 : Int32).toInt = 0 := rfl
        refine S_calli (va_runV (As := [.int x_22, .int 0, .int 0]) (rest := []) ⟨hx, hb, hml, hown, hts⟩ (n_needOf l D k A a z G_18 x_22 0 0 ⟨(by first | exact f_26.1 | omega), (by first | exact ok_1194 f_26.2 | omega)⟩ ⟨by decide, by decide⟩ ⟨by decide, by decide⟩) (cwV 3 hts (gd_V hgd m1859 m1861 m96 m131 m1862) rfl rfl rfl hd_X12_needOf ⟨Nat.le_of_ble_eq_true rfl, Nat.le_of_ble_eq_true rfl⟩) (pre_W hW hB_G_18 hK hZ hS kd_66 rfl) rfl rfl hl.1 rfl (lv_room (Nat.le_of_ble_eq_true rfl)) dX12_hasWay_44 ⟨Nat.le_of_ble_eq_true rfl, Nat.le_of_ble_eq_true rfl⟩) hS (fun r_36 G_37 H locs hpo hW hS => ?_)
        have hX_40 : Q_needOf x_22 0 0 G_18 r_36 G_37 := hpo
        obtain ⟨hB_G_37, hq_38, f_41, hp_39, -⟩ := hpo
        have hF := hF.call9 hq_38 rfl rfl
        refine lv_ldcw (v := 100000) hx hb hown (hg (Cond.constant RX12 502 100000) m1858) dX12_hasWay_47 ?_
        refine lv_icmp_ge (tgt := 57) hx hb dX12_hasWay_50 rfl (fun c_42 => ?_) (fun c_42 => ?_)
        · have c_42 : 100000 ≤ r_36.toInt := xI_le rfl rfl c_42
          refine ic_0 hx hb dX12_hasWay_57 ?_
          refine lv_istore (lv' := [(4, .int 0), (5, .int x_22), (0, .ref (a 66))]) hx hb dX12_hasWay_58 hl (lt_b rfl) rfl (fun ls hl => ?_)
          obtain ⟨y_43, ey_43⟩ : ∃ q, q = x_22 + 1 := ⟨_, rfl⟩
          have ty_43 : y_43.toInt = x_22.toInt + 1 := xI_add rfl rfl ey_43 ((by first | exact ok_21 f_26.1 | omega)) ((by first | exact ok_238 f_26.2 | omega))
          refine lv_iinc (v := y_43) (lv' := [(5, .int y_43), (4, .int 0), (0, .ref (a 66))]) hx hb dX12_hasWay_60 hl (k := 1) rfl (by rw [ey_43]; rfl) (lt_b rfl) rfl (fun ls hl => ?_)
          refine lv_goto (tgt := 17) hx hb dX12_hasWay_63 rfl ?_
          have qc_44 : (0 : Int32).toInt = 0 := rfl
          exact ih_20 (60 - y_43.toInt : Int).toNat ((by first | (clear ha_p1 hP9 hW9 d_1 b_6 b_12 f_27 c_31; omega) | omega)) _ _ _ ⟨G_37, y_43, 0, (Int.toNat_of_nonneg ((by first | exact ok_239 b_10.2 f_26.2 c_29 ty_43 | omega))), ⟨(by first | exact ok_23 f_26.1 ty_43 | omega), (by first | exact ok_241 b_10.2 f_26.2 c_29 ty_43 | omega)⟩, ⟨(by decide), (by decide)⟩, (hX_24.st (St_n_hasWay_1_mk ⟨x_22, x_23, G_18, y_43, 0, G_37, rfl, rfl, f_26, f_27, hB_G_18, ⟨c_29, (Or.inl ⟨c_31, ⟨r_36, G_37, hX_40, (Or.inl ⟨c_42, ⟨y_43, ty_43, ⟨rfl, rfl, rfl⟩⟩⟩)⟩⟩)⟩⟩)), hW, hB_G_37, hF, (Fr.call9 (rs := []) (fs := []) (Fr.call9 (rs := []) (fs := []) Fr.rf hq_19 rfl rfl) hq_38 rfl rfl), hS, lv_sub hl [0, 1, 2] rfl⟩
        · have c_42 : r_36.toInt < 100000 := xI_nle rfl rfl c_42
          refine ic_1 hx hb dX12_hasWay_53 ?_
          refine lv_goto (tgt := 58) hx hb dX12_hasWay_54 rfl ?_
          refine lv_istore (lv' := [(4, .int 1), (5, .int x_22), (0, .ref (a 66))]) hx hb dX12_hasWay_58 hl (lt_b rfl) rfl (fun ls hl => ?_)
          obtain ⟨y_45, ey_45⟩ : ∃ q, q = x_22 + 1 := ⟨_, rfl⟩
          have ty_45 : y_45.toInt = x_22.toInt + 1 := xI_add rfl rfl ey_45 ((by first | exact ok_21 f_26.1 | omega)) ((by first | exact ok_238 f_26.2 | omega))
          refine lv_iinc (v := y_45) (lv' := [(5, .int y_45), (4, .int 1), (0, .ref (a 66))]) hx hb dX12_hasWay_60 hl (k := 1) rfl (by rw [ey_45]; rfl) (lt_b rfl) rfl (fun ls hl => ?_)
          refine lv_goto (tgt := 17) hx hb dX12_hasWay_63 rfl ?_
          have qc_46 : (1 : Int32).toInt = 1 := rfl
          exact ih_20 (60 - y_45.toInt : Int).toNat ((by first | (clear ha_p1 hP9 hW9 d_1 b_6 b_12 f_27 c_31; omega) | omega)) _ _ _ ⟨G_37, y_45, 1, (Int.toNat_of_nonneg ((by first | exact ok_239 b_10.2 f_26.2 c_29 ty_45 | omega))), ⟨(by first | exact ok_23 f_26.1 ty_45 | omega), (by first | exact ok_241 b_10.2 f_26.2 c_29 ty_45 | omega)⟩, ⟨(by decide), (by decide)⟩, (hX_24.st (St_n_hasWay_1_mk ⟨x_22, x_23, G_18, y_45, 1, G_37, rfl, rfl, f_26, f_27, hB_G_18, ⟨c_29, (Or.inl ⟨c_31, ⟨r_36, G_37, hX_40, (Or.inr ⟨c_42, ⟨y_45, ty_45, ⟨rfl, rfl, rfl⟩⟩⟩)⟩⟩)⟩⟩)), hW, hB_G_37, hF, (Fr.call9 (rs := []) (fs := []) (Fr.call9 (rs := []) (fs := []) Fr.rf hq_19 rfl rfl) hq_38 rfl rfl), hS, lv_sub hl [0, 1, 2] rfl⟩

set_option maxHeartbeats 4000000 in
set_option maxRecDepth 100000 in
theorem n_layWays (l : Launch) (D : va_G) (k : KT) (A : Nat → Prop) (a : Nat → Nat) (z : SK) (G : GS) (p0 : Int32) (p1 : Int32) (ha_p0 : 0 ≤ p0.toInt ∧ p0.toInt ≤ 3) (ha_p1 : 0 ≤ p1.toInt ∧ p1.toInt ≤ 2) (hP9 : gP G = 1) (hW9 : gW G = 1) (hpw : p0.toInt < (G.1 66 53).toInt) : Met l yX12_layWays (WS yX12_layWays cX12_layWays 4 none) ({ frames := 6, cells := 0, slots := 0, locals := 142 }) (va_Pc [.ref (a 66), .int p0, .int p1] (cW D k A a z G)) (va_Qv (fun (G1 : GS) => Q_layWays p0 p1 G G1) (fun (G1 : GS) t => Wd D k A a G1 t.heap) A) 0 0 A := by
  refine Met.ofW (cc := cX12_layWays) (maxL := 4) (ret := none) (by decide) rfl ?_
  intro p e s m args below meth c s₁ B hml hv
  obtain ⟨rfl, hW, hB_G, hK, hZ⟩ := hv
  have hx := B.exec
  have hb := B.bytes
  have hr := B.returns
  have hts := atoms_spec (ws := WS yX12_layWays cX12_layWays 4 none) B.pre
  have hgd : ∀ w ∈ gd, w ∈ WS yX12_layWays cX12_layWays 4 none := fun w h => List.mem_cons_of_mem _ h
  have hg : ∀ w ∈ gd, w.before _ s = true := fun w h => hts w (hgd w h)
  have hown : s.vm.findClass RX12 = some m.cls := findClass_of_methodNamed B.named
  have hS : va_S A s.heap s.heap [] := va_S.rf
  have hF : Fr [107, 76, 97, 98, 99] [(66, 59), (66, 60), (66, 61), (66, 62), (66, 63)] G G := Fr.rf
  have hl := lv_entry ([.ref (a 66), .int p0, .int p1]) (n := 4) (Nat.le_of_ble_eq_true rfl)
  rw [lg_entry_eq]
  generalize (lg_sl ([.ref (a 66), .int p0, .int p1]) ++ List.replicate (4 - (lg_sl ([.ref (a 66), .int p0, .int p1])).length) Slot.unset).toArray = ls at hl ⊢
  have hl : lv_has ls 4 [(0, .ref (a 66)), (1, .int p0), (2, .int p1)] := hl
  refine ic_0 hx hb dX12_layWays_0 ?_
  refine lv_istore_n (lv' := [(3, .int 0), (0, .ref (a 66)), (1, .int p0), (2, .int p1)]) hx hb dX12_layWays_1 rfl hl (lt_b rfl) rfl (fun ls hl => ?_)
  have qc_7 : (0 : Int32).toInt = 0 := rfl
  refine loop_N (Inv := fun n H locs ls => ∃ (G_1 : GS) (x_5 : Int32), (n : Int) = 64 - x_5.toInt ∧ (0 ≤ x_5.toInt ∧ x_5.toInt ≤ 64) ∧ Rc (St_n_layWays_1 p0 p1 G) (0, G) (x_5, G_1) ∧ Wd D k A a G_1 H ∧ Bd G_1 ∧ Fr [107, 76, 97, 98, 99] [(66, 59), (66, 60), (66, 61), (66, 62), (66, 63)] G G_1 ∧ Fr [107, 76, 97, 98, 99] [(66, 59), (66, 60), (66, 61), (66, 62), (66, 63)] G G_1 ∧ va_S A s.heap H locs ∧ lv_has ls 4 [(3, .int x_5), (0, .ref (a 66)), (1, .int p0), (2, .int p1)]) (fun n_4 H locs ls ih_3 hI => ?_) (64 - 0 : Int).toNat ⟨G, 0, (Int.toNat_of_nonneg ((by decide))), ⟨(by decide), (by decide)⟩, Rc.rf, hW, hB_G, hF, Fr.rf, hS, lv_sub hl [0, 1, 2, 3] rfl⟩
  obtain ⟨G_1, x_5, hn_9, f_8, hX_6, hW, hB_G_1, hF, hq_2, hS, hl⟩ := hI
  refine lv_iload_n hx hb dX12_layWays_2 rfl (lv_at hl 0 rfl) ?_
  refine ic_1 hx hb dX12_layWays_3 ?_
  refine lv_aload_n hx hb dX12_layWays_4 rfl (lv_at hl 1 rfl) ?_
  have b_10 : 0 ≤ (G.1 66 54).toInt ∧ (G.1 66 54).toInt ≤ 6 := bd_66_54 hB_G
  refine S_getI (v := (G.1 66 54)) (C := RX12) (T := TX12) (N := 89) hx hb hg iX12 hown hK hW kd_66 rfl 54 (lt_b rfl) (hg (Cond.fieldLink RX12 431 "SlabWalkModel" "rules" "I") m1368) (fun _ h9 => h9) rfl (hq_2.i9 66 54 rfl rfl) dX12_layWays_5 ?_
  refine lv_ishl hx hb dX12_layWays_8 ?_
  refine lv_topi (fun y_11 ey_11 => ?_)
  have ty_11 := sh6 (Y := (G.1 66 54).toInt) rfl ey_11 rfl (by first | (clear ha_p0 ha_p1 hP9 hW9 hpw hn_9 f_8; omega) | omega) (by first | (clear ha_p0 ha_p1 hP9 hW9 hpw hn_9 f_8; omega) | omega)
  refine lv_icmp_ge (tgt := 31) hx hb dX12_layWays_9 rfl (fun c_12 => ?_) (fun c_12 => ?_)
  · have c_12 : y_11.toInt ≤ x_5.toInt := xI_le rfl rfl c_12
    exact W.vret hx hb hr (fun t ht _ => ⟨⟨G_1, rfl, (Q_layWays_mk ⟨hB_G_1, hF, ⟨x_5, G_1, hX_6, f_8, hB_G_1, hq_2, ⟨y_11, ey_11, ⟨c_12, rfl⟩⟩⟩⟩), wd_t ht hW⟩, hS.F ht⟩) hS.2.2 dX12_layWays_31
  · have c_12 : x_5.toInt < y_11.toInt := xI_nle rfl rfl c_12
    refine lv_aload_n hx hb dX12_layWays_12 rfl (lv_at hl 1 rfl) ?_
    refine S_getR (n := 107) (C := RX12) (T := TX12) (N := 89) hx hb hg iX12 hown hK hW kd_66 rfl 73 (lt_b rfl) (hg (Cond.fieldLink RX12 142 "SlabWalkModel" "hasWays" "[Z") m1387) (fun _ h9 => h9) rfl dX12_layWays_13 ?_
    refine lv_iload_n hx hb dX12_layWays_16 rfl (lv_at hl 0 rfl) ?_
    refine lv_aload_n hx hb dX12_layWays_17 rfl (lv_at hl 1 rfl) ?_
    refine lv_iload_n hx hb dX12_layWays_18 rfl (lv_at hl 2 rfl) ?_
    refine lv_iload_n hx hb dX12_layWays_19 rfl (lv_at hl 3 rfl) ?_
    refine lv_iload_n hx hb dX12_layWays_20 rfl (lv_at hl 0 rfl) ?_
    have fr_13 : Fr [107, 76, 97, 98, 99] [(66, 59), (66, 60), (66, 61), (66, 62), (66, 63)] G G_1 := (Fr.call9 (rs := [107, 76, 97, 98, 99]) (fs := [(66, 59), (66, 60), (66, 61), (66, 62), (66, 63)]) Fr.rf hq_2 rfl rfl)
    have g_14 : gP G_1 = gP G := gP_fr fr_13 (gr_q rfl) (gf_q rfl)
    have g_15 : gW G_1 = gW G := gW_fr fr_13 (gr_q rfl) (gf_q rfl)
    have b_16 : 0 ≤ (G.1 66 53).toInt ∧ (G.1 66 53).toInt ≤ 4 := bd_66_53 hB_G
    have g_17 : (G_1.1 66 53).toInt = (G.1 66 53).toInt := (congrArg Int32.toInt (show G_1.1 66 53 = (G.1 66 53) from (hq_2.i9 66 53 rfl rfl)))
    refine S_calli (va_runV (As := [.int p0, .int p1, .int x_5]) (rest := [.int x_5, .ref (a 107)]) ⟨hx, hb, hml, hown, hts⟩ (n_hasWay l D k A a z G_1 p0 p1 x_5 ⟨(by first | exact ha_p0.1 | omega), (by first | exact ha_p0.2 | omega)⟩ ⟨(by first | exact ha_p1.1 | omega), (by first | exact ha_p1.2 | omega)⟩ ((by first | exact ok_796 hP9 g_14 | omega)) ((by first | exact ok_796 hW9 g_15 | omega)) ((by first | exact ok_461 hpw g_17 | omega))) (cwV 3 hts (gd_V hgd m1975 m1977 m109 m131 m1978) rfl rfl rfl hd_X12_hasWay ⟨Nat.le_of_ble_eq_true rfl, Nat.le_of_ble_eq_true rfl⟩) (pre_W hW hB_G_1 hK hZ hS kd_66 rfl) rfl rfl hl.1 rfl (lv_room (Nat.le_of_ble_eq_true rfl)) dX12_layWays_21 ⟨Nat.le_of_ble_eq_true rfl, Nat.le_of_ble_eq_true rfl⟩) hS (fun r_18 G_19 H locs hpo hW hS => ?_)
    have hX_22 : Q_hasWay p0 p1 x_5 G_1 r_18 G_19 := hpo
    obtain ⟨hB_G_19, hq_20, f_23, -⟩ := hpo
    have hF := hF.call9 hq_20 rfl rfl
    refine S_zast hx hb hK hW hS kd_107 (vin ((by first | exact f_8.1 | omega)) ((by first | exact ok_1195 f_8.2 ty_11.2 c_12 | omega))) dX12_layWays_24 (fun G_24 H locs eG_24 hW hS => ?_)
    have hB_G_24 : Bd G_24 := hB_G_19.put (lo := 0) (hi := 1) eG_24 rfl rfl rfl nz_bool.1 nz_bool.2 (hB_G_19.2.put eG_24 rfl)
    have hF := hF.put eG_24 (Or.inl (by decide))
    obtain ⟨y_25, ey_25⟩ : ∃ q, q = x_5 + 1 := ⟨_, rfl⟩
    have ty_25 : y_25.toInt = x_5.toInt + 1 := xI_add rfl rfl ey_25 ((by first | exact ok_21 f_8.1 | omega)) ((by first | exact ok_565 f_8.2 | omega))
    refine lv_iinc (v := y_25) (lv' := [(3, .int y_25), (0, .ref (a 66)), (1, .int p0), (2, .int p1)]) hx hb dX12_layWays_25 hl (k := 0) rfl (by rw [ey_25]; rfl) (lt_b rfl) rfl (fun ls hl => ?_)
    refine lv_goto (tgt := 2) hx hb dX12_layWays_28 rfl ?_
    exact ih_3 (64 - y_25.toInt : Int).toNat ((by first | (clear ha_p0 ha_p1 hP9 hW9 hpw b_10 g_14 g_15 b_16 g_17 f_23; omega) | omega)) _ _ _ ⟨G_24, y_25, (Int.toNat_of_nonneg ((by first | exact ok_566 f_8.2 ty_11.2 c_12 ty_25 | omega))), ⟨(by first | exact ok_23 f_8.1 ty_25 | omega), (by first | exact ok_567 f_8.2 ty_11.2 c_12 ty_25 | omega)⟩, (hX_6.st (St_n_layWays_1_mk ⟨x_5, G_1, y_25, G_24, rfl, rfl, f_8, hB_G_1, ⟨y_11, ey_11, ⟨c_12, ⟨r_18, G_19, hX_22, ⟨y_25, ty_25, ⟨rfl, (Fr.put (rs := [107]) (fs := []) Fr.rf eG_24 (Or.inl (by decide))), rw_ast eG_24⟩⟩⟩⟩⟩⟩)), hW, hB_G_24, hF, (Fr.put (rs := [107, 76, 97, 98, 99]) (fs := [(66, 59), (66, 60), (66, 61), (66, 62), (66, 63)]) (Fr.call9 (rs := [107, 76, 97, 98, 99]) (fs := [(66, 59), (66, 60), (66, 61), (66, 62), (66, 63)]) (Fr.call9 (rs := [107, 76, 97, 98, 99]) (fs := [(66, 59), (66, 60), (66, 61), (66, 62), (66, 63)]) Fr.rf hq_2 rfl rfl) hq_20 rfl rfl) eG_24 (Or.inl (by decide))), hS, lv_sub hl [0, 1, 2, 3] rfl⟩

set_option maxHeartbeats 4000000 in
set_option maxRecDepth 100000 in
theorem n_wager (l : Launch) (D : va_G) (k : KT) (A : Nat → Prop) (a : Nat → Nat) (z : SK) (G : GS) (p0 : Int32) (p1 : Int32) (p2 : Int32) (p3 : Int32) (hP9 : gP G = 1) (hW9 : gW G = 1) : Met l yX12_wager (WS yX12_wager cX12_wager 6 (some .int)) ({ frames := 7, cells := 0, slots := 0, locals := 165 }) (va_Pc [.ref (a 66), .int p0, .int p1, .int p2, .int p3] (cW D k A a z G)) (va_Qi (fun (r : Int32) (G1 : GS) => Q_wager p0 p1 p2 p3 G r G1) (fun (G1 : GS) t => Wd D k A a G1 t.heap) A) 0 0 A := by
  refine Met.ofW (cc := cX12_wager) (maxL := 6) (ret := (some .int)) (by decide) rfl ?_
  intro p e s m args below meth c s₁ B hml hv
  obtain ⟨rfl, hW, hB_G, hK, hZ⟩ := hv
  have hx := B.exec
  have hb := B.bytes
  have hr := B.returns
  have hts := atoms_spec (ws := WS yX12_wager cX12_wager 6 (some .int)) B.pre
  have hgd : ∀ w ∈ gd, w ∈ WS yX12_wager cX12_wager 6 (some .int) := fun w h => List.mem_cons_of_mem _ h
  have hg : ∀ w ∈ gd, w.before _ s = true := fun w h => hts w (hgd w h)
  have hown : s.vm.findClass RX12 = some m.cls := findClass_of_methodNamed B.named
  have hS : va_S A s.heap s.heap [] := va_S.rf
  have hF : Fr [107, 108, 109, 76, 97, 98, 99] [(66, 59), (66, 60), (66, 61), (66, 62), (66, 63)] G G := Fr.rf
  have hl := lv_entry ([.ref (a 66), .int p0, .int p1, .int p2, .int p3]) (n := 6) (Nat.le_of_ble_eq_true rfl)
  rw [lg_entry_eq]
  generalize (lg_sl ([.ref (a 66), .int p0, .int p1, .int p2, .int p3]) ++ List.replicate (6 - (lg_sl ([.ref (a 66), .int p0, .int p1, .int p2, .int p3])).length) Slot.unset).toArray = ls at hl ⊢
  have hl : lv_has ls 6 [(0, .ref (a 66)), (1, .int p0), (2, .int p1), (3, .int p2), (4, .int p3)] := hl
  refine lv_aload_n hx hb dX12_wager_0 rfl (lv_at hl 0 rfl) ?_
  refine lv_iload_n hx hb dX12_wager_1 rfl (lv_at hl 1 rfl) ?_
  refine lv_iload_n hx hb dX12_wager_2 rfl (lv_at hl 2 rfl) ?_
  refine lv_iload_n hx hb dX12_wager_3 rfl (lv_at hl 3 rfl) ?_
  refine S_calli (va_runV (As := [.int p0, .int p1, .int p2]) (rest := []) ⟨hx, hb, hml, hown, hts⟩ (n_isAsked l D k A a z G p0 p1 p2 ) (cwV 3 hts (gd_V hgd m1826 m1828 m89 m131 m1829) rfl rfl rfl hd_X12_isAsked ⟨Nat.le_of_ble_eq_true rfl, Nat.le_of_ble_eq_true rfl⟩) (pre_W hW hB_G hK hZ hS kd_66 rfl) rfl rfl hl.1 rfl (lv_room (Nat.le_of_ble_eq_true rfl)) dX12_wager_4 ⟨Nat.le_of_ble_eq_true rfl, Nat.le_of_ble_eq_true rfl⟩) hS (fun r_1 G_2 H locs hpo hW hS => ?_)
  have hX_5 : Q_isAsked p0 p1 p2 G r_1 G_2 := hpo
  obtain ⟨hB_G_2, hq_3, f_6, hp_4, -⟩ := hpo
  have hF := hF.call9 hq_3 rfl rfl
  refine lv_if_eq (tgt := 20) hx hb dX12_wager_7 rfl (fun c_7 => ?_) (fun c_7 => ?_)
  · have c_7 : r_1.toInt = 0 := xI_eq rfl rfl c_7
    refine ic_m1 hx hb dX12_wager_20 ?_
    exact W.iret (v := (-1)) hx hb hr (fun t ht _ => ⟨⟨(-1), G_2, rfl, (Q_wager_mk ⟨hB_G_2, hF, ⟨r_1, G_2, hX_5, (Or.inl ⟨c_7, ⟨rfl, rfl⟩⟩)⟩⟩), wd_t ht hW⟩, hS.F ht⟩) hS.2.2 dX12_wager_21
  · have c_7 : r_1.toInt ≠ 0 := xI_ne rfl rfl c_7
    refine lv_iload hx hb dX12_wager_10 (lv_at hl 4 rfl) ?_
    refine ic_0 hx hb dX12_wager_12 ?_
    refine ic_1 hx hb dX12_wager_13 ?_
    have qc_8 : (0 : Int32).toInt = 0 := rfl
    have qc_9 : (1 : Int32).toInt = 1 := rfl
    refine S_calli (va_runS (As := [.int p3, .int 0, .int 1]) (rest := []) ⟨hx, hb, hml, hown, hts⟩ (n_isIn l D k A a z G_2 p3 0 1 ) (va_cwS 3 hts (gd_S hgd m1781 m1782 m131 m1783) rfl rfl rfl hd_X12_isIn.2 ⟨Nat.le_of_ble_eq_true rfl, Nat.le_of_ble_eq_true rfl⟩) (pre_S hW hB_G_2 hK hZ hS) rfl rfl hl.1 rfl (lv_room (Nat.le_of_ble_eq_true rfl)) dX12_wager_14 ⟨Nat.le_of_ble_eq_true rfl, Nat.le_of_ble_eq_true rfl⟩) hS (fun r_10 G_11 H locs hpo hW hS => ?_)
    have hX_14 : Q_isIn p3 0 1 G_2 r_10 G_11 := hpo
    obtain ⟨hB_G_11, hq_12, f_15, ⟨d_1, d_2⟩, -⟩ := hpo
    have hF := hF.call9 hq_12 rfl rfl
    refine lv_if_ne (tgt := 22) hx hb dX12_wager_17 rfl (fun c_16 => ?_) (fun c_16 => ?_)
    · have c_16 : r_10.toInt ≠ 0 := xI_ne rfl rfl c_16
      refine lv_aload_n hx hb dX12_wager_22 rfl (lv_at hl 0 rfl) ?_
      refine lv_iload_n hx hb dX12_wager_23 rfl (lv_at hl 1 rfl) ?_
      refine lv_iload_n hx hb dX12_wager_24 rfl (lv_at hl 2 rfl) ?_
      have fr_17 : Fr [] [] G G_11 := (Fr.call9 (rs := []) (fs := []) (Fr.call9 (rs := []) (fs := []) Fr.rf hq_3 rfl rfl) hq_12 rfl rfl)
      have g_18 : gP G_11 = gP G := gP_fr fr_17 (gr_q rfl) (gf_q rfl)
      have g_19 : gW G_11 = gW G := gW_fr fr_17 (gr_q rfl) (gf_q rfl)
      have b_20 : 0 ≤ (G.1 66 53).toInt ∧ (G.1 66 53).toInt ≤ 4 := bd_66_53 hB_G
      have g_21 : (G_11.1 66 53).toInt = (G.1 66 53).toInt := (congrArg Int32.toInt (show G_11.1 66 53 = (G.1 66 53) from ((hq_12.i9 66 53 rfl rfl).trans (hq_3.i9 66 53 rfl rfl))))
      refine S_callv (va_runV (As := [.int p0, .int p1]) (rest := []) ⟨hx, hb, hml, hown, hts⟩ (n_layWays l D k A a z G_11 p0 p1 ⟨(by first | exact ok_1103 f_6.1 f_6.2 hp_4 c_7 | omega), (by first | exact ok_1104 f_6.1 f_6.2 hp_4 c_7 | omega)⟩ ⟨(by first | exact ok_1101 f_6.1 f_6.2 hp_4 c_7 | omega), (by first | exact ok_1102 f_6.1 f_6.2 hp_4 c_7 | omega)⟩ ((by first | exact ok_796 hP9 g_18 | omega)) ((by first | exact ok_796 hW9 g_19 | omega)) ((by first | exact ok_1196 f_6.1 f_6.2 hp_4 c_7 g_21 | omega))) (cwV 2 hts (gd_V hgd m1971 m1973 m108 m131 m1974) rfl rfl rfl hd_X12_layWays ⟨Nat.le_of_ble_eq_true rfl, Nat.le_of_ble_eq_true rfl⟩) (pre_W hW hB_G_11 hK hZ hS kd_66 rfl) rfl rfl hl.1 rfl (lv_room (Nat.le_of_ble_eq_true rfl)) dX12_wager_25 ⟨Nat.le_of_ble_eq_true rfl, Nat.le_of_ble_eq_true rfl⟩) hS (fun G_23 H locs hpo hW hS => ?_)
      have hX_26 : Q_layWays p0 p1 G_11 G_23 := hpo
      obtain ⟨hB_G_23, hq_24, -⟩ := hpo
      have hF := hF.call9 hq_24 rfl rfl
      refine ic_1 hx hb dX12_wager_28 ?_
      refine lv_aload_n hx hb dX12_wager_29 rfl (lv_at hl 0 rfl) ?_
      have b_27 : 0 ≤ (G.1 66 54).toInt ∧ (G.1 66 54).toInt ≤ 6 := bd_66_54 hB_G
      refine S_getI (v := (G.1 66 54)) (C := RX12) (T := TX12) (N := 89) hx hb hg iX12 hown hK hW kd_66 rfl 54 (lt_b rfl) (hg (Cond.fieldLink RX12 431 "SlabWalkModel" "rules" "I") m1368) (fun _ h9 => h9) rfl ((hq_24.i9 66 54 rfl rfl).trans ((hq_12.i9 66 54 rfl rfl).trans (hq_3.i9 66 54 rfl rfl))) dX12_wager_30 ?_
      refine lv_ishl hx hb dX12_wager_33 ?_
      refine lv_topi (fun y_28 ey_28 => ?_)
      have ty_28 := sh6 (Y := (G.1 66 54).toInt) rfl ey_28 rfl (by first | (clear hP9 hW9 f_6 hp_4 c_7 f_15 d_1 d_2 c_16 g_18 g_19 b_20 g_21; omega) | omega) (by first | (clear hP9 hW9 f_6 hp_4 c_7 f_15 d_1 d_2 c_16 g_18 g_19 b_20 g_21; omega) | omega)
      refine ic_1 hx hb dX12_wager_34 ?_
      refine lv_isub hx hb dX12_wager_35 ?_
      refine lv_topi (fun y_29 ey_29 => ?_)
      have ty_29 : y_29.toInt = y_28.toInt - 1 := xI_sub rfl rfl ey_29 ((by first | exact ok_275 ty_28.1 | omega)) ((by first | exact ok_462 ty_28.2 | omega))
      refine lv_istore (lv' := [(5, .int y_29), (0, .ref (a 66)), (1, .int p0), (2, .int p1), (3, .int p2), (4, .int p3)]) hx hb dX12_wager_36 hl (lt_b rfl) rfl (fun ls hl => ?_)
      refine loop_N (Inv := fun n H locs ls => ∃ (G_30 : GS) (x_34 : Int32), (n : Int) = x_34.toInt - (-1) ∧ ((-1) ≤ x_34.toInt ∧ x_34.toInt ≤ 63) ∧ Rc (St_n_wager_1) (y_29, G_23) (x_34, G_30) ∧ Wd D k A a G_30 H ∧ Bd G_30 ∧ Fr [107, 108, 109, 76, 97, 98, 99] [(66, 59), (66, 60), (66, 61), (66, 62), (66, 63)] G G_30 ∧ Fr [108, 109] [] G_23 G_30 ∧ va_S A s.heap H locs ∧ lv_has ls 6 [(5, .int x_34), (0, .ref (a 66)), (3, .int p2), (4, .int p3)]) (fun n_33 H locs ls ih_32 hI => ?_) (y_29.toInt - (-1) : Int).toNat ⟨G_23, y_29, (Int.toNat_of_nonneg ((by first | exact ok_463 ty_28.1 ty_29 | omega))), ⟨(by first | exact ok_464 ty_28.1 ty_29 | omega), (by first | exact ok_465 ty_28.2 ty_29 | omega)⟩, Rc.rf, hW, hB_G_23, hF, Fr.rf, hS, lv_sub hl [0, 1, 4, 5] rfl⟩
      obtain ⟨G_30, x_34, hn_37, f_36, hX_35, hW, hB_G_30, hF, hq_31, hS, hl⟩ := hI
      refine lv_iload hx hb dX12_wager_38 (lv_at hl 0 rfl) ?_
      refine lv_if_lt (tgt := 55) hx hb dX12_wager_40 rfl (fun c_38 => ?_) (fun c_38 => ?_)
      · have c_38 : x_34.toInt < 0 := xI_lt rfl rfl c_38
        refine lv_iload hx hb dX12_wager_55 (lv_at hl 3 rfl) ?_
        refine lv_if_ne (tgt := 72) hx hb dX12_wager_57 rfl (fun c_39 => ?_) (fun c_39 => ?_)
        · have c_39 : p3.toInt ≠ 0 := xI_ne rfl rfl c_39
          refine lv_aload_n hx hb dX12_wager_72 rfl (lv_at hl 1 rfl) ?_
          refine S_getR (n := 109) (C := RX12) (T := TX12) (N := 89) hx hb hg iX12 hown hK hW kd_66 rfl 75 (lt_b rfl) (hg (Cond.fieldLink RX12 148 "SlabWalkModel" "winsBy" "[I") m1389) (fun _ h9 => h9) rfl dX12_wager_73 ?_
          refine lv_iload_n hx hb dX12_wager_76 rfl (lv_at hl 2 rfl) ?_
          refine S_iald hx hb hK hW kd_109 (vin ((by first | exact ok_1197 f_6.1 f_6.2 hp_4 c_7 | omega)) ((by first | exact ok_1198 f_6.1 f_6.2 hp_4 c_7 | omega))) dX12_wager_77 (fun y_40 ey_40 => ?_)
          exact W.iret (v := y_40) hx hb hr (fun t ht _ => ⟨⟨y_40, G_30, rfl, (Q_wager_mk ⟨hB_G_30, hF, ⟨r_1, G_2, hX_5, (Or.inr ⟨c_7, ⟨r_10, G_11, hX_14, (Or.inr ⟨c_16, ⟨G_23, hX_26, ⟨y_28, ey_28, ⟨y_29, ty_29, ⟨x_34, G_30, hX_35, f_36, hB_G_30, hq_31, ⟨c_38, (Or.inr ⟨c_39, ⟨y_40, ey_40, ⟨rfl, rfl⟩⟩⟩)⟩⟩⟩⟩⟩⟩)⟩⟩)⟩⟩), wd_t ht hW⟩, hS.F ht⟩) hS.2.2 dX12_wager_78
        · have c_39 : p3.toInt = 0 := xI_eq rfl rfl c_39
          refine lv_aload_n hx hb dX12_wager_60 rfl (lv_at hl 1 rfl) ?_
          refine S_getR (n := 108) (C := RX12) (T := TX12) (N := 89) hx hb hg iX12 hown hK hW kd_66 rfl 74 (lt_b rfl) (hg (Cond.fieldLink RX12 145 "SlabWalkModel" "wins" "[Z") m1388) (fun _ h9 => h9) rfl dX12_wager_61 ?_
          refine lv_iload_n hx hb dX12_wager_64 rfl (lv_at hl 2 rfl) ?_
          refine S_zald hx hb hK hW kd_108 (vin ((by first | exact ok_1197 f_6.1 f_6.2 hp_4 c_7 | omega)) ((by first | exact ok_1198 f_6.1 f_6.2 hp_4 c_7 | omega))) dX12_wager_65 (fun y_41 ey_41 => ?_)
          have ty_41 : 0 ≤ y_41.toInt ∧ y_41.toInt ≤ 1 := bv_108 hB_G_30 ey_41
          refine S_calli (va_runS (As := [.int y_41]) (rest := []) ⟨hx, hb, hml, hown, hts⟩ (n_truth l D k A a z G_30 y_41 ⟨(by first | exact ty_41.1 | omega), (by first | exact ty_41.2 | omega)⟩) (va_cwS 1 hts (gd_S hgd m1788 m1789 m131 m1790) rfl rfl rfl hd_X12_truth.2 ⟨Nat.le_of_ble_eq_true rfl, Nat.le_of_ble_eq_true rfl⟩) (pre_S hW hB_G_30 hK hZ hS) rfl rfl hl.1 rfl (lv_room (Nat.le_of_ble_eq_true rfl)) dX12_wager_66 ⟨Nat.le_of_ble_eq_true rfl, Nat.le_of_ble_eq_true rfl⟩) hS (fun r_42 G_43 H locs hpo hW hS => ?_)
          have hX_46 : Q_truth y_41 G_30 r_42 G_43 := hpo
          obtain ⟨hB_G_43, hq_44, f_47, hp_45, -⟩ := hpo
          have hF := hF.call9 hq_44 rfl rfl
          refine lv_goto (tgt := 78) hx hb dX12_wager_69 rfl ?_
          exact W.iret (v := r_42) hx hb hr (fun t ht _ => ⟨⟨r_42, G_43, rfl, (Q_wager_mk ⟨hB_G_43, hF, ⟨r_1, G_2, hX_5, (Or.inr ⟨c_7, ⟨r_10, G_11, hX_14, (Or.inr ⟨c_16, ⟨G_23, hX_26, ⟨y_28, ey_28, ⟨y_29, ty_29, ⟨x_34, G_30, hX_35, f_36, hB_G_30, hq_31, ⟨c_38, (Or.inl ⟨c_39, ⟨y_41, ey_41, ⟨r_42, G_43, hX_46, ⟨rfl, rfl⟩⟩⟩⟩)⟩⟩⟩⟩⟩⟩)⟩⟩)⟩⟩), wd_t ht hW⟩, hS.F ht⟩) hS.2.2 dX12_wager_78
      · have c_38 : 0 ≤ x_34.toInt := xI_nlt rfl rfl c_38
        refine lv_aload_n hx hb dX12_wager_43 rfl (lv_at hl 1 rfl) ?_
        refine lv_iload hx hb dX12_wager_44 (lv_at hl 0 rfl) ?_
        refine S_callv (va_runV (As := [.int x_34]) (rest := []) ⟨hx, hb, hml, hown, hts⟩ (n_layWins l D k A a z G_30 x_34 ⟨(by first | exact c_38 | omega), (by first | exact f_36.2 | omega)⟩) (cwV 1 hts (gd_V hgd m1979 m1981 m110 m131 m1982) rfl rfl rfl hd_X12_layWins ⟨Nat.le_of_ble_eq_true rfl, Nat.le_of_ble_eq_true rfl⟩) (pre_W hW hB_G_30 hK hZ hS kd_66 rfl) rfl rfl hl.1 rfl (lv_room (Nat.le_of_ble_eq_true rfl)) dX12_wager_46 ⟨Nat.le_of_ble_eq_true rfl, Nat.le_of_ble_eq_true rfl⟩) hS (fun G_49 H locs hpo hW hS => ?_)
        have hX_52 : Q_layWins x_34 G_30 G_49 := hpo
        obtain ⟨hB_G_49, hq_50, -⟩ := hpo
        have hF := hF.call9 hq_50 rfl rfl
        obtain ⟨y_53, ey_53⟩ : ∃ q, q = x_34 + (-1) := ⟨_, rfl⟩
        have ty_53 : y_53.toInt = x_34.toInt + (-1) := xI_add rfl rfl ey_53 ((by first | exact ok_190 c_38 | omega)) ((by first | exact ok_467 f_36.2 | omega))
        refine lv_iinc (v := y_53) (lv' := [(5, .int y_53), (0, .ref (a 66)), (3, .int p2), (4, .int p3)]) hx hb dX12_wager_49 hl (k := 0) rfl (by rw [ey_53]; rfl) (lt_b rfl) rfl (fun ls hl => ?_)
        refine lv_goto (tgt := 38) hx hb dX12_wager_52 rfl ?_
        exact ih_32 (y_53.toInt - (-1) : Int).toNat ((by first | (clear hP9 hW9 f_6 hp_4 c_7 f_15 d_1 d_2 c_16 g_18 g_19 b_20 g_21 b_27 ty_28 ty_29; omega) | omega)) _ _ _ ⟨G_49, y_53, (Int.toNat_of_nonneg ((by first | exact ok_192 c_38 ty_53 | omega))), ⟨(by first | exact ok_193 c_38 ty_53 | omega), (by first | exact ok_470 f_36.2 ty_53 | omega)⟩, (hX_35.st (St_n_wager_1_mk ⟨x_34, G_30, y_53, G_49, rfl, rfl, f_36, hB_G_30, ⟨c_38, ⟨G_49, hX_52, ⟨y_53, ty_53, ⟨rfl, rfl⟩⟩⟩⟩⟩)), hW, hB_G_49, hF, (Fr.call9 (rs := [108, 109]) (fs := []) (Fr.call9 (rs := [108, 109]) (fs := []) Fr.rf hq_31 rfl rfl) hq_50 rfl rfl), hS, lv_sub hl [0, 1, 2, 3] rfl⟩
    · have c_16 : r_10.toInt = 0 := xI_eq rfl rfl c_16
      refine ic_m1 hx hb dX12_wager_20 ?_
      exact W.iret (v := (-1)) hx hb hr (fun t ht _ => ⟨⟨(-1), G_11, rfl, (Q_wager_mk ⟨hB_G_11, hF, ⟨r_1, G_2, hX_5, (Or.inr ⟨c_7, ⟨r_10, G_11, hX_14, (Or.inl ⟨c_16, ⟨rfl, rfl⟩⟩)⟩⟩)⟩⟩), wd_t ht hW⟩, hS.F ht⟩) hS.2.2 dX12_wager_21

set_option maxHeartbeats 4000000 in
set_option maxRecDepth 100000 in
theorem n_leave (l : Launch) (D : va_G) (k : KT) (A : Nat → Prop) (a : Nat → Nat) (z : SK) (G : GS) (p0 : Int32) (p1 : Int32) (hP9 : gP G = 1) (hW9 : gW G = 1) : Met l yX12_leave (WS yX12_leave cX12_leave 5 (some .int)) ({ frames := 7, cells := 0, slots := 0, locals := 165 }) (va_Pc [.ref (a 66), .int p0, .int p1] (cW D k A a z G)) (va_Qi (fun (r : Int32) (G1 : GS) => Q_leave p0 p1 G r G1) (fun (G1 : GS) t => Wd D k A a G1 t.heap) A) 0 0 A := by
  refine Met.ofW (cc := cX12_leave) (maxL := 5) (ret := (some .int)) (by decide) rfl ?_
  intro p e s m args below meth c s₁ B hml hv
  obtain ⟨rfl, hW, hB_G, hK, hZ⟩ := hv
  have hx := B.exec
  have hb := B.bytes
  have hr := B.returns
  have hts := atoms_spec (ws := WS yX12_leave cX12_leave 5 (some .int)) B.pre
  have hgd : ∀ w ∈ gd, w ∈ WS yX12_leave cX12_leave 5 (some .int) := fun w h => List.mem_cons_of_mem _ h
  have hg : ∀ w ∈ gd, w.before _ s = true := fun w h => hts w (hgd w h)
  have hown : s.vm.findClass RX12 = some m.cls := findClass_of_methodNamed B.named
  have hS : va_S A s.heap s.heap [] := va_S.rf
  have hF : Fr [107, 76, 97, 98, 99] [(66, 59), (66, 60), (66, 61), (66, 62), (66, 63)] G G := Fr.rf
  have hl := lv_entry ([.ref (a 66), .int p0, .int p1]) (n := 5) (Nat.le_of_ble_eq_true rfl)
  rw [lg_entry_eq]
  generalize (lg_sl ([.ref (a 66), .int p0, .int p1]) ++ List.replicate (5 - (lg_sl ([.ref (a 66), .int p0, .int p1])).length) Slot.unset).toArray = ls at hl ⊢
  have hl : lv_has ls 5 [(0, .ref (a 66)), (1, .int p0), (2, .int p1)] := hl
  refine lv_aload_n hx hb dX12_leave_0 rfl (lv_at hl 0 rfl) ?_
  refine lv_iload_n hx hb dX12_leave_1 rfl (lv_at hl 1 rfl) ?_
  refine S_calli (va_runV (As := [.int p0]) (rest := []) ⟨hx, hb, hml, hown, hts⟩ (n_isWalker l D k A a z G p0 ) (cwV 1 hts (gd_V hgd m1830 m1832 m90 m131 m1833) rfl rfl rfl hd_X12_isWalker ⟨Nat.le_of_ble_eq_true rfl, Nat.le_of_ble_eq_true rfl⟩) (pre_W hW hB_G hK hZ hS kd_66 rfl) rfl rfl hl.1 rfl (lv_room (Nat.le_of_ble_eq_true rfl)) dX12_leave_2 ⟨Nat.le_of_ble_eq_true rfl, Nat.le_of_ble_eq_true rfl⟩) hS (fun r_1 G_2 H locs hpo hW hS => ?_)
  have hX_5 : Q_isWalker p0 G r_1 G_2 := hpo
  obtain ⟨hB_G_2, hq_3, f_6, hp_4, -⟩ := hpo
  have hF := hF.call9 hq_3 rfl rfl
  refine lv_if_eq (tgt := 16) hx hb dX12_leave_5 rfl (fun c_7 => ?_) (fun c_7 => ?_)
  · have c_7 : r_1.toInt = 0 := xI_eq rfl rfl c_7
    refine ic_m1 hx hb dX12_leave_16 ?_
    exact W.iret (v := (-1)) hx hb hr (fun t ht _ => ⟨⟨(-1), G_2, rfl, (Q_leave_mk ⟨hB_G_2, hF, ⟨r_1, G_2, hX_5, (Or.inl ⟨c_7, ⟨rfl, rfl⟩⟩)⟩⟩), wd_t ht hW⟩, hS.F ht⟩) hS.2.2 dX12_leave_17
  · have c_7 : r_1.toInt ≠ 0 := xI_ne rfl rfl c_7
    refine lv_aload_n hx hb dX12_leave_8 rfl (lv_at hl 0 rfl) ?_
    refine lv_iload_n hx hb dX12_leave_9 rfl (lv_at hl 2 rfl) ?_
    have b_8 : 0 ≤ (G.1 66 52).toInt ∧ (G.1 66 52).toInt ≤ 3 := bd_66_52 hB_G
    have g_9 : (G_2.1 66 52).toInt = (G.1 66 52).toInt := (congrArg Int32.toInt (show G_2.1 66 52 = (G.1 66 52) from (hq_3.i9 66 52 rfl rfl)))
    refine S_calli (va_runV (As := [.int p1]) (rest := []) ⟨hx, hb, hml, hown, hts⟩ (n_isStreet l D k A a z G_2 p1 ) (cwV 1 hts (gd_V hgd m1777 m1779 m83 m131 m1780) rfl rfl rfl hd_X12_isStreet ⟨Nat.le_of_ble_eq_true rfl, Nat.le_of_ble_eq_true rfl⟩) (pre_W hW hB_G_2 hK hZ hS kd_66 rfl) rfl rfl hl.1 rfl (lv_room (Nat.le_of_ble_eq_true rfl)) dX12_leave_10 ⟨Nat.le_of_ble_eq_true rfl, Nat.le_of_ble_eq_true rfl⟩) hS (fun r_10 G_11 H locs hpo hW hS => ?_)
    have hX_14 : Q_isStreet p1 G_2 r_10 G_11 := hpo
    obtain ⟨hB_G_11, hq_12, f_15, hp_13, -⟩ := hpo
    have hF := hF.call9 hq_12 rfl rfl
    refine lv_if_ne (tgt := 18) hx hb dX12_leave_13 rfl (fun c_16 => ?_) (fun c_16 => ?_)
    · have c_16 : r_10.toInt ≠ 0 := xI_ne rfl rfl c_16
      refine lv_aload_n hx hb dX12_leave_18 rfl (lv_at hl 0 rfl) ?_
      refine lv_iload_n hx hb dX12_leave_19 rfl (lv_at hl 1 rfl) ?_
      refine lv_iload_n hx hb dX12_leave_20 rfl (lv_at hl 2 rfl) ?_
      have fr_17 : Fr [] [] G G_11 := (Fr.call9 (rs := []) (fs := []) (Fr.call9 (rs := []) (fs := []) Fr.rf hq_3 rfl rfl) hq_12 rfl rfl)
      have g_18 : gP G_11 = gP G := gP_fr fr_17 (gr_q rfl) (gf_q rfl)
      have g_19 : gW G_11 = gW G := gW_fr fr_17 (gr_q rfl) (gf_q rfl)
      have b_20 : 0 ≤ (G.1 66 53).toInt ∧ (G.1 66 53).toInt ≤ 4 := bd_66_53 hB_G
      have g_21 : (G_11.1 66 53).toInt = (G.1 66 53).toInt := (congrArg Int32.toInt (show G_11.1 66 53 = (G.1 66 53) from ((hq_12.i9 66 53 rfl rfl).trans (hq_3.i9 66 53 rfl rfl))))
      refine S_callv (va_runV (As := [.int p0, .int p1]) (rest := []) ⟨hx, hb, hml, hown, hts⟩ (n_layWays l D k A a z G_11 p0 p1 ⟨(by first | exact ok_1149 f_6.1 f_6.2 hp_4 c_7 | omega), (by first | exact ok_1151 f_6.1 f_6.2 hp_4 c_7 | omega)⟩ ⟨(by first | exact ok_647 f_15.1 f_15.2 hp_13 c_16 | omega), (by first | exact ok_649 f_15.1 f_15.2 hp_13 c_16 | omega)⟩ ((by first | exact ok_796 hP9 g_18 | omega)) ((by first | exact ok_796 hW9 g_19 | omega)) ((by first | exact ok_1199 f_6.1 f_6.2 hp_4 c_7 g_21 | omega))) (cwV 2 hts (gd_V hgd m1971 m1973 m108 m131 m1974) rfl rfl rfl hd_X12_layWays ⟨Nat.le_of_ble_eq_true rfl, Nat.le_of_ble_eq_true rfl⟩) (pre_W hW hB_G_11 hK hZ hS kd_66 rfl) rfl rfl hl.1 rfl (lv_room (Nat.le_of_ble_eq_true rfl)) dX12_leave_21 ⟨Nat.le_of_ble_eq_true rfl, Nat.le_of_ble_eq_true rfl⟩) hS (fun G_23 H locs hpo hW hS => ?_)
      have hX_26 : Q_layWays p0 p1 G_11 G_23 := hpo
      obtain ⟨hB_G_23, hq_24, -⟩ := hpo
      have hF := hF.call9 hq_24 rfl rfl
      refine ic_0 hx hb dX12_leave_24 ?_
      refine lv_istore_n (lv' := [(3, .int 0), (0, .ref (a 66)), (1, .int p0), (2, .int p1)]) hx hb dX12_leave_25 rfl hl (lt_b rfl) rfl (fun ls hl => ?_)
      refine ic_0 hx hb dX12_leave_26 ?_
      refine lv_istore (lv' := [(4, .int 0), (3, .int 0), (0, .ref (a 66)), (1, .int p0), (2, .int p1)]) hx hb dX12_leave_27 hl (lt_b rfl) rfl (fun ls hl => ?_)
      have qc_34 : (0 : Int32).toInt = 0 := rfl
      refine loop_N (Inv := fun n H locs ls => ∃ (G_27 : GS) (x_31 : Int32) (x_32 : Int32), (n : Int) = 64 - x_31.toInt ∧ (0 ≤ x_31.toInt ∧ x_31.toInt ≤ 64) ∧ Rc (St_n_leave_1 G) (0, 0, G_23) (x_31, x_32, G_27) ∧ Wd D k A a G_27 H ∧ Bd G_27 ∧ Fr [107, 76, 97, 98, 99] [(66, 59), (66, 60), (66, 61), (66, 62), (66, 63)] G G_27 ∧ Fr [] [] G_23 G_27 ∧ va_S A s.heap H locs ∧ lv_has ls 5 [(4, .int x_31), (3, .int x_32), (0, .ref (a 66))]) (fun n_30 H locs ls ih_29 hI => ?_) (64 - 0 : Int).toNat ⟨G_23, 0, 0, (Int.toNat_of_nonneg ((by decide))), ⟨(by decide), (by decide)⟩, Rc.rf, hW, hB_G_23, hF, Fr.rf, hS, lv_sub hl [0, 1, 2] rfl⟩
      obtain ⟨G_27, x_31, x_32, hn_36, f_35, hX_33, hW, hB_G_27, hF, hq_28, hS, hl⟩ := hI
      refine lv_iload hx hb dX12_leave_29 (lv_at hl 0 rfl) ?_
      refine ic_1 hx hb dX12_leave_31 ?_
      refine lv_aload_n hx hb dX12_leave_32 rfl (lv_at hl 2 rfl) ?_
      have b_37 : 0 ≤ (G.1 66 54).toInt ∧ (G.1 66 54).toInt ≤ 6 := bd_66_54 hB_G
      refine S_getI (v := (G.1 66 54)) (C := RX12) (T := TX12) (N := 89) hx hb hg iX12 hown hK hW kd_66 rfl 54 (lt_b rfl) (hg (Cond.fieldLink RX12 431 "SlabWalkModel" "rules" "I") m1368) (fun _ h9 => h9) rfl ((hq_28.i9 66 54 rfl rfl).trans ((hq_24.i9 66 54 rfl rfl).trans ((hq_12.i9 66 54 rfl rfl).trans (hq_3.i9 66 54 rfl rfl)))) dX12_leave_33 ?_
      refine lv_ishl hx hb dX12_leave_36 ?_
      refine lv_topi (fun y_38 ey_38 => ?_)
      have ty_38 := sh6 (Y := (G.1 66 54).toInt) rfl ey_38 rfl (by first | (clear hP9 hW9 f_6 hp_4 c_7 b_8 g_9 f_15 hp_13 c_16 g_18 g_19 b_20 g_21 hn_36 f_35; omega) | omega) (by first | (clear hP9 hW9 f_6 hp_4 c_7 b_8 g_9 f_15 hp_13 c_16 g_18 g_19 b_20 g_21 hn_36 f_35; omega) | omega)
      refine lv_icmp_ge (tgt := 59) hx hb dX12_leave_37 rfl (fun c_39 => ?_) (fun c_39 => ?_)
      · have c_39 : y_38.toInt ≤ x_31.toInt := xI_le rfl rfl c_39
        refine lv_iload_n hx hb dX12_leave_59 rfl (lv_at hl 1 rfl) ?_
        exact W.iret (v := x_32) hx hb hr (fun t ht _ => ⟨⟨x_32, G_27, rfl, (Q_leave_mk ⟨hB_G_27, hF, ⟨r_1, G_2, hX_5, (Or.inr ⟨c_7, ⟨r_10, G_11, hX_14, (Or.inr ⟨c_16, ⟨G_23, hX_26, ⟨x_31, x_32, G_27, hX_33, f_35, hB_G_27, hq_28, ⟨y_38, ey_38, ⟨c_39, ⟨rfl, rfl⟩⟩⟩⟩⟩⟩)⟩⟩)⟩⟩), wd_t ht hW⟩, hS.F ht⟩) hS.2.2 dX12_leave_60
      · have c_39 : x_31.toInt < y_38.toInt := xI_nle rfl rfl c_39
        refine lv_iload_n hx hb dX12_leave_40 rfl (lv_at hl 1 rfl) ?_
        refine lv_aload_n hx hb dX12_leave_41 rfl (lv_at hl 2 rfl) ?_
        refine S_getR (n := 107) (C := RX12) (T := TX12) (N := 89) hx hb hg iX12 hown hK hW kd_66 rfl 73 (lt_b rfl) (hg (Cond.fieldLink RX12 142 "SlabWalkModel" "hasWays" "[Z") m1387) (fun _ h9 => h9) rfl dX12_leave_42 ?_
        refine lv_iload hx hb dX12_leave_45 (lv_at hl 0 rfl) ?_
        refine S_zald hx hb hK hW kd_107 (vin ((by first | exact f_35.1 | omega)) ((by first | exact ok_1195 f_35.2 ty_38.2 c_39 | omega))) dX12_leave_47 (fun y_40 ey_40 => ?_)
        have ty_40 : 0 ≤ y_40.toInt ∧ y_40.toInt ≤ 1 := bv_107 hB_G_27 ey_40
        refine S_calli (va_runS (As := [.int y_40]) (rest := [.int x_32]) ⟨hx, hb, hml, hown, hts⟩ (n_truth l D k A a z G_27 y_40 ⟨(by first | exact ty_40.1 | omega), (by first | exact ty_40.2 | omega)⟩) (va_cwS 1 hts (gd_S hgd m1788 m1789 m131 m1790) rfl rfl rfl hd_X12_truth.2 ⟨Nat.le_of_ble_eq_true rfl, Nat.le_of_ble_eq_true rfl⟩) (pre_S hW hB_G_27 hK hZ hS) rfl rfl hl.1 rfl (lv_room (Nat.le_of_ble_eq_true rfl)) dX12_leave_48 ⟨Nat.le_of_ble_eq_true rfl, Nat.le_of_ble_eq_true rfl⟩) hS (fun r_41 G_42 H locs hpo hW hS => ?_)
        have hX_45 : Q_truth y_40 G_27 r_41 G_42 := hpo
        obtain ⟨hB_G_42, hq_43, f_46, hp_44, -⟩ := hpo
        have hF := hF.call9 hq_43 rfl rfl
        refine lv_iadd hx hb dX12_leave_51 ?_
        refine lv_topi (fun y_47 ey_47 => ?_)
        refine lv_istore_n (lv' := [(3, .int y_47), (4, .int x_31), (0, .ref (a 66))]) hx hb dX12_leave_52 rfl hl (lt_b rfl) rfl (fun ls hl => ?_)
        obtain ⟨y_48, ey_48⟩ : ∃ q, q = x_31 + 1 := ⟨_, rfl⟩
        have ty_48 : y_48.toInt = x_31.toInt + 1 := xI_add rfl rfl ey_48 ((by first | exact ok_21 f_35.1 | omega)) ((by first | exact ok_565 f_35.2 | omega))
        refine lv_iinc (v := y_48) (lv' := [(4, .int y_48), (3, .int y_47), (0, .ref (a 66))]) hx hb dX12_leave_53 hl (k := 1) rfl (by rw [ey_48]; rfl) (lt_b rfl) rfl (fun ls hl => ?_)
        refine lv_goto (tgt := 29) hx hb dX12_leave_56 rfl ?_
        exact ih_29 (64 - y_48.toInt : Int).toNat ((by first | (clear hP9 hW9 f_6 hp_4 c_7 b_8 g_9 f_15 hp_13 c_16 g_18 g_19 b_20 g_21 b_37 ty_40 f_46 hp_44; omega) | omega)) _ _ _ ⟨G_42, y_48, y_47, (Int.toNat_of_nonneg ((by first | exact ok_566 f_35.2 ty_38.2 c_39 ty_48 | omega))), ⟨(by first | exact ok_23 f_35.1 ty_48 | omega), (by first | exact ok_567 f_35.2 ty_38.2 c_39 ty_48 | omega)⟩, (hX_33.st (St_n_leave_1_mk ⟨x_31, x_32, G_27, y_48, y_47, G_42, rfl, rfl, f_35, hB_G_27, ⟨y_38, ey_38, ⟨c_39, ⟨y_40, ey_40, ⟨r_41, G_42, hX_45, ⟨y_47, ey_47, ⟨y_48, ty_48, ⟨rfl, rfl, rfl⟩⟩⟩⟩⟩⟩⟩⟩)), hW, hB_G_42, hF, (Fr.call9 (rs := []) (fs := []) (Fr.call9 (rs := []) (fs := []) Fr.rf hq_28 rfl rfl) hq_43 rfl rfl), hS, lv_sub hl [0, 1, 2] rfl⟩
    · have c_16 : r_10.toInt = 0 := xI_eq rfl rfl c_16
      refine ic_m1 hx hb dX12_leave_16 ?_
      exact W.iret (v := (-1)) hx hb hr (fun t ht _ => ⟨⟨(-1), G_11, rfl, (Q_leave_mk ⟨hB_G_11, hF, ⟨r_1, G_2, hX_5, (Or.inr ⟨c_7, ⟨r_10, G_11, hX_14, (Or.inl ⟨c_16, ⟨rfl, rfl⟩⟩)⟩⟩)⟩⟩), wd_t ht hW⟩, hS.F ht⟩) hS.2.2 dX12_leave_17

set_option maxHeartbeats 4000000 in
set_option maxRecDepth 100000 in
theorem n_fewest (l : Launch) (D : va_G) (k : KT) (A : Nat → Prop) (a : Nat → Nat) (z : SK) (G : GS) (p0 : Int32) (p1 : Int32) (p2 : Int32) (p3 : Int32) (hP9 : gP G = 1) (hW9 : gW G = 1) : Met l yX12_fewest (WS yX12_fewest cX12_fewest 11 (some .int)) ({ frames := 5, cells := 0, slots := 0, locals := 117 }) (va_Pc [.ref (a 66), .int p0, .int p1, .int p2, .int p3] (cW D k A a z G)) (va_Qi (fun (r : Int32) (G1 : GS) => Q_fewest p0 p1 p2 p3 G r G1) (fun (G1 : GS) t => Wd D k A a G1 t.heap) A) 0 0 A := by
  refine Met.ofW (cc := cX12_fewest) (maxL := 11) (ret := (some .int)) (by decide) rfl ?_
  intro p e s m args below meth c s₁ B hml hv
  obtain ⟨rfl, hW, hB_G, hK, hZ⟩ := hv
  have hx := B.exec
  have hb := B.bytes
  have hr := B.returns
  have hts := atoms_spec (ws := WS yX12_fewest cX12_fewest 11 (some .int)) B.pre
  have hgd : ∀ w ∈ gd, w ∈ WS yX12_fewest cX12_fewest 11 (some .int) := fun w h => List.mem_cons_of_mem _ h
  have hg : ∀ w ∈ gd, w.before _ s = true := fun w h => hts w (hgd w h)
  have hown : s.vm.findClass RX12 = some m.cls := findClass_of_methodNamed B.named
  have hS : va_S A s.heap s.heap [] := va_S.rf
  have hF : Fr [100, 76, 97, 98, 99] [(66, 59), (66, 60), (66, 61), (66, 62), (66, 63), (66, 66)] G G := Fr.rf
  have hl := lv_entry ([.ref (a 66), .int p0, .int p1, .int p2, .int p3]) (n := 11) (Nat.le_of_ble_eq_true rfl)
  rw [lg_entry_eq]
  generalize (lg_sl ([.ref (a 66), .int p0, .int p1, .int p2, .int p3]) ++ List.replicate (11 - (lg_sl ([.ref (a 66), .int p0, .int p1, .int p2, .int p3])).length) Slot.unset).toArray = ls at hl ⊢
  have hl : lv_has ls 11 [(0, .ref (a 66)), (1, .int p0), (2, .int p1), (3, .int p2), (4, .int p3)] := hl
  refine lv_aload_n hx hb dX12_fewest_0 rfl (lv_at hl 0 rfl) ?_
  refine ic_0 hx hb dX12_fewest_1 ?_
  refine S_putI (ty := .int) (C := RX12) (T := TX12) (N := 89) hx hb hg iX12 tyX12 tyX12_ok nmX12 hown hK hW hS kd_66 rfl 66 (lt_b rfl) (hg (Cond.fieldLink RX12 446 "SlabWalkModel" "lain" "I") m1380) (fun _ h9 => h9) rfl (by decide +kernel) rfl rfl rfl dX12_fewest_2 (fun G_1 H locs eG_1 hW hS => ?_)
  have hB_G_1 : Bd G_1 := hB_G.put (V := 0) (lo := 0) (hi := 400) eG_1 rfl rfl rfl (by decide) (by decide) (hB_G.2.put eG_1 rfl)
  have hF := hF.put eG_1 (Or.inr (by decide))
  refine lv_aload_n hx hb dX12_fewest_5 rfl (lv_at hl 0 rfl) ?_
  refine lv_iload_n hx hb dX12_fewest_6 rfl (lv_at hl 1 rfl) ?_
  refine lv_iload_n hx hb dX12_fewest_7 rfl (lv_at hl 2 rfl) ?_
  refine lv_iload_n hx hb dX12_fewest_8 rfl (lv_at hl 3 rfl) ?_
  have b_2 : 0 ≤ (G.1 66 52).toInt ∧ (G.1 66 52).toInt ≤ 3 := bd_66_52 hB_G
  have g_3 : (G_1.1 66 52).toInt = (G.1 66 52).toInt := (congrArg Int32.toInt (show G_1.1 66 52 = (G.1 66 52) from (gp_ne eG_1 (by decide))))
  have b_4 : 0 ≤ (G.1 66 53).toInt ∧ (G.1 66 53).toInt ≤ 4 := bd_66_53 hB_G
  have g_5 : (G_1.1 66 53).toInt = (G.1 66 53).toInt := (congrArg Int32.toInt (show G_1.1 66 53 = (G.1 66 53) from (gp_ne eG_1 (by decide))))
  refine S_calli (va_runV (As := [.int p0, .int p1, .int p2]) (rest := []) ⟨hx, hb, hml, hown, hts⟩ (n_isAsked l D k A a z G_1 p0 p1 p2 ) (cwV 3 hts (gd_V hgd m1826 m1828 m89 m131 m1829) rfl rfl rfl hd_X12_isAsked ⟨Nat.le_of_ble_eq_true rfl, Nat.le_of_ble_eq_true rfl⟩) (pre_W hW hB_G_1 hK hZ hS kd_66 rfl) rfl rfl hl.1 rfl (lv_room (Nat.le_of_ble_eq_true rfl)) dX12_fewest_9 ⟨Nat.le_of_ble_eq_true rfl, Nat.le_of_ble_eq_true rfl⟩) hS (fun r_6 G_7 H locs hpo hW hS => ?_)
  have hX_10 : Q_isAsked p0 p1 p2 G_1 r_6 G_7 := hpo
  obtain ⟨hB_G_7, hq_8, f_11, hp_9, -⟩ := hpo
  have hF := hF.call9 hq_8 rfl rfl
  refine lv_if_eq (tgt := 25) hx hb dX12_fewest_12 rfl (fun c_12 => ?_) (fun c_12 => ?_)
  · have c_12 : r_6.toInt = 0 := xI_eq rfl rfl c_12
    refine ic_m1 hx hb dX12_fewest_25 ?_
    exact W.iret (v := (-1)) hx hb hr (fun t ht _ => ⟨⟨(-1), G_7, rfl, (Q_fewest_mk ⟨hB_G_7, hF, ⟨G_1, hB_G_1, (Fr.put (rs := []) (fs := [(66, 66)]) Fr.rf eG_1 (Or.inr (by decide))), (gp_eq eG_1), ⟨r_6, G_7, hX_10, (Or.inl ⟨c_12, ⟨rfl, rfl⟩⟩)⟩⟩⟩), wd_t ht hW⟩, hS.F ht⟩) hS.2.2 dX12_fewest_26
  · have c_12 : r_6.toInt ≠ 0 := xI_ne rfl rfl c_12
    refine lv_iload hx hb dX12_fewest_15 (lv_at hl 4 rfl) ?_
    refine ic_0 hx hb dX12_fewest_17 ?_
    refine ic_2 hx hb dX12_fewest_18 ?_
    have qc_13 : (0 : Int32).toInt = 0 := rfl
    have qc_14 : (2 : Int32).toInt = 2 := rfl
    refine S_calli (va_runS (As := [.int p3, .int 0, .int 2]) (rest := []) ⟨hx, hb, hml, hown, hts⟩ (n_isIn l D k A a z G_7 p3 0 2 ) (va_cwS 3 hts (gd_S hgd m1781 m1782 m131 m1783) rfl rfl rfl hd_X12_isIn.2 ⟨Nat.le_of_ble_eq_true rfl, Nat.le_of_ble_eq_true rfl⟩) (pre_S hW hB_G_7 hK hZ hS) rfl rfl hl.1 rfl (lv_room (Nat.le_of_ble_eq_true rfl)) dX12_fewest_19 ⟨Nat.le_of_ble_eq_true rfl, Nat.le_of_ble_eq_true rfl⟩) hS (fun r_15 G_16 H locs hpo hW hS => ?_)
    have hX_19 : Q_isIn p3 0 2 G_7 r_15 G_16 := hpo
    obtain ⟨hB_G_16, hq_17, f_20, ⟨d_1, d_2⟩, -⟩ := hpo
    have hF := hF.call9 hq_17 rfl rfl
    refine lv_if_ne (tgt := 27) hx hb dX12_fewest_22 rfl (fun c_21 => ?_) (fun c_21 => ?_)
    · have c_21 : r_15.toInt ≠ 0 := xI_ne rfl rfl c_21
      refine lv_aload_n hx hb dX12_fewest_27 rfl (lv_at hl 0 rfl) ?_
      refine lv_iload_n hx hb dX12_fewest_28 rfl (lv_at hl 1 rfl) ?_
      refine lv_iload_n hx hb dX12_fewest_29 rfl (lv_at hl 2 rfl) ?_
      refine lv_iload_n hx hb dX12_fewest_30 rfl (lv_at hl 3 rfl) ?_
      have fr_22 : Fr [] [(66, 66)] G G_16 := (Fr.call9 (rs := []) (fs := [(66, 66)]) (Fr.call9 (rs := []) (fs := [(66, 66)]) (Fr.put (rs := []) (fs := [(66, 66)]) Fr.rf eG_1 (Or.inr (by decide))) hq_8 rfl rfl) hq_17 rfl rfl)
      have g_23 : gP G_16 = gP G := gP_fr fr_22 (gr_q rfl) (gf_q rfl)
      refine S_callv (va_runV (As := [.int p0, .int p1, .int p2]) (rest := []) ⟨hx, hb, hml, hown, hts⟩ (n_layStreet l D k A a z G_16 p0 p1 p2 ⟨(by first | exact ok_1103 f_11.1 f_11.2 hp_9 c_12 | omega), (by first | exact ok_1104 f_11.1 f_11.2 hp_9 c_12 | omega)⟩ ⟨(by first | exact ok_1101 f_11.1 f_11.2 hp_9 c_12 | omega), (by first | exact ok_1102 f_11.1 f_11.2 hp_9 c_12 | omega)⟩ ((by first | exact ok_796 hP9 g_23 | omega))) (cwV 3 hts (gd_V hgd m1834 m1836 m91 m131 m1837) rfl rfl rfl hd_X12_layStreet ⟨Nat.le_of_ble_eq_true rfl, Nat.le_of_ble_eq_true rfl⟩) (pre_W hW hB_G_16 hK hZ hS kd_66 rfl) rfl rfl hl.1 rfl (lv_room (Nat.le_of_ble_eq_true rfl)) dX12_fewest_31 ⟨Nat.le_of_ble_eq_true rfl, Nat.le_of_ble_eq_true rfl⟩) hS (fun G_25 H locs hpo hW hS => ?_)
      have hX_28 : Q_layStreet p0 p1 p2 G_16 G_25 := hpo
      obtain ⟨hB_G_25, hq_26, ⟨d_3, d_4, d_5, d_6, d_7, d_8⟩, -⟩ := hpo
      have hF := hF.call9 hq_26 rfl rfl
      have b_29 : 0 ≤ (G.1 66 53).toInt ∧ (G.1 66 53).toInt ≤ 4 := hB_G.i 66 53 rfl rfl
      have u_30 := gW_at hW9 p0 (by first | (clear hP9 hW9 f_20 d_1 d_2 c_21 g_23; omega) | omega) (by first | (clear hP9 hW9 f_20 d_1 d_2 c_21 g_23; omega) | omega)
      have u_31 : (G_16.1 92 p0.toNatClampNeg).toInt = (G.1 92 p0.toNatClampNeg).toInt := congrArg Int32.toInt (((hq_17.ri9 92 rfl p0.toNatClampNeg).trans ((hq_8.ri9 92 rfl p0.toNatClampNeg).trans (gp_ne eG_1 (fun q => absurd q.1 (Nat.ne_of_beq_eq_false rfl))))))
      have u_32 : (G_16.1 93 p0.toNatClampNeg).toInt = (G.1 93 p0.toNatClampNeg).toInt := congrArg Int32.toInt (((hq_17.ri9 93 rfl p0.toNatClampNeg).trans ((hq_8.ri9 93 rfl p0.toNatClampNeg).trans (gp_ne eG_1 (fun q => absurd q.1 (Nat.ne_of_beq_eq_false rfl))))))
      have u_33 : (G_16.1 94 p0.toNatClampNeg).toInt = (G.1 94 p0.toNatClampNeg).toInt := congrArg Int32.toInt (((hq_17.ri9 94 rfl p0.toNatClampNeg).trans ((hq_8.ri9 94 rfl p0.toNatClampNeg).trans (gp_ne eG_1 (fun q => absurd q.1 (Nat.ne_of_beq_eq_false rfl))))))
      have u_34 : (G_16.1 95 p0.toNatClampNeg).toInt = (G.1 95 p0.toNatClampNeg).toInt := congrArg Int32.toInt (((hq_17.ri9 95 rfl p0.toNatClampNeg).trans ((hq_8.ri9 95 rfl p0.toNatClampNeg).trans (gp_ne eG_1 (fun q => absurd q.1 (Nat.ne_of_beq_eq_false rfl))))))
      have b_35 : 0 ≤ (G_25.1 66 60).toInt ∧ (G_25.1 66 60).toInt ≤ 12 := bd_66_60 hB_G_25
      have b_36 : 0 ≤ (G_25.1 66 61).toInt ∧ (G_25.1 66 61).toInt ≤ 60 := bd_66_61 hB_G_25
      have b_37 : 0 ≤ (G_25.1 66 62).toInt ∧ (G_25.1 66 62).toInt ≤ 60 := bd_66_62 hB_G_25
      have b_38 : 0 ≤ (G_25.1 66 63).toInt ∧ (G_25.1 66 63).toInt ≤ 99 := bd_66_63 hB_G_25
      refine lv_aload_n hx hb dX12_fewest_34 rfl (lv_at hl 0 rfl) ?_
      have b_39 : 0 ≤ (G_25.1 98 400).toInt ∧ (G_25.1 98 400).toInt ≤ 1 := bd_98_400 hB_G_25
      refine S_callv (va_runV (As := []) (rest := []) ⟨hx, hb, hml, hown, hts⟩ (n_layNeeds l D k A a z G_25  ((by first | (clear hP9 hW9 f_20 d_1 d_2 c_21 g_23; omega) | omega)) ((by first | exact ⟨((by first | (clear hP9 hW9 f_20 d_1 d_2 c_21 g_23; omega) | omega)), ((by first | (clear hP9 hW9 f_20 d_1 d_2 c_21 g_23; omega) | omega))⟩ | omega)) ((by first | (clear hP9 hW9 b_2 b_4 f_11 c_12 f_20 d_1 d_2 c_21 g_23 b_29; omega) | omega))) (cwV 0 hts (gd_V hgd m1846 m1848 m93 m131 m1849) rfl rfl rfl hd_X12_layNeeds ⟨Nat.le_of_ble_eq_true rfl, Nat.le_of_ble_eq_true rfl⟩) (pre_W hW hB_G_25 hK hZ hS kd_66 rfl) rfl rfl hl.1 rfl (lv_room (Nat.le_of_ble_eq_true rfl)) dX12_fewest_35 ⟨Nat.le_of_ble_eq_true rfl, Nat.le_of_ble_eq_true rfl⟩) hS (fun G_41 H locs hpo hW hS => ?_)
      have hX_44 : Q_layNeeds G_25 G_41 := hpo
      obtain ⟨hB_G_41, hq_42, hp_43, -⟩ := hpo
      have hF := hF.call9 hq_42 rfl rfl
      have g_45 : (G_41.1 66 61).toInt = (G_25.1 66 61).toInt := (congrArg Int32.toInt (show G_41.1 66 61 = (G_25.1 66 61) from ((hq_42.i9 66 61 rfl rfl).trans (rfl))))
      have g_46 : (G_41.1 66 62).toInt = (G_25.1 66 62).toInt := (congrArg Int32.toInt (show G_41.1 66 62 = (G_25.1 66 62) from ((hq_42.i9 66 62 rfl rfl).trans (rfl))))
      have g_47 : (G_41.1 66 63).toInt = (G_25.1 66 63).toInt := (congrArg Int32.toInt (show G_41.1 66 63 = (G_25.1 66 63) from ((hq_42.i9 66 63 rfl rfl).trans (rfl))))
      have g_48 : (G_41.1 98 400).toInt = (G_25.1 98 400).toInt := (congrArg Int32.toInt (show G_41.1 98 400 = (G_25.1 98 400) from ((hq_42.i9 98 400 rfl rfl).trans (rfl))))
      have hrow98 : G_41.1 98 = G_25.1 98 := (funext fun j => ((fun (j : Nat) (_ : True) => (hq_42.ri9 98 rfl j))) j trivial)
      refine ic_m1 hx hb dX12_fewest_38 ?_
      refine lv_istore (lv' := [(5, .int (-1)), (0, .ref (a 66)), (1, .int p0), (2, .int p1), (3, .int p2), (4, .int p3)]) hx hb dX12_fewest_39 hl (lt_b rfl) rfl (fun ls hl => ?_)
      refine ic_0 hx hb dX12_fewest_41 ?_
      refine lv_istore (lv' := [(6, .int 0), (5, .int (-1)), (0, .ref (a 66)), (1, .int p0), (2, .int p1), (3, .int p2), (4, .int p3)]) hx hb dX12_fewest_42 hl (lt_b rfl) rfl (fun ls hl => ?_)
      have qc_56 : ((-1) : Int32).toInt = (-1) := rfl
      have qc_57 : (0 : Int32).toInt = 0 := rfl
      refine loop_N (Inv := fun n H locs ls => ∃ (G_49 : GS) (x_53 : Int32) (x_54 : Int32), (n : Int) = 60 - x_53.toInt ∧ (0 ≤ x_53.toInt ∧ x_53.toInt ≤ 60) ∧ ((-1) ≤ x_54.toInt ∧ x_54.toInt ≤ 59) ∧ (x_54.toInt = -1 ∨ ndv (G_41.1 99) x_54.toInt 0 p3.toInt < 100000) ∧ Rc (St_n_fewest_1 p3 G_25 G_41) (0, (-1), G_41) (x_53, x_54, G_49) ∧ Wd D k A a G_49 H ∧ Bd G_49 ∧ Fr [100, 76, 97, 98, 99] [(66, 59), (66, 60), (66, 61), (66, 62), (66, 63), (66, 66)] G G_49 ∧ Fr [] [] G_41 G_49 ∧ va_S A s.heap H locs ∧ lv_has ls 11 [(6, .int x_53), (5, .int x_54), (0, .ref (a 66)), (4, .int p3)]) (fun n_52 H locs ls ih_51 hI => ?_) (60 - 0 : Int).toNat ⟨G_41, 0, (-1), (Int.toNat_of_nonneg ((by decide))), ⟨(by decide), (by decide)⟩, ⟨(by decide), (by decide)⟩, ((by first | exact ok_1200 | omega)), Rc.rf, hW, hB_G_41, hF, Fr.rf, hS, lv_sub hl [0, 1, 2, 6] rfl⟩
      obtain ⟨G_49, x_53, x_54, hn_61, f_58, f_59, f_60, hX_55, hW, hB_G_49, hF, hq_50, hS, hl⟩ := hI
      refine lv_iload hx hb dX12_fewest_44 (lv_at hl 0 rfl) ?_
      refine lv_aload_n hx hb dX12_fewest_46 rfl (lv_at hl 2 rfl) ?_
      refine S_getI (v := (G_25.1 66 62)) (C := RX12) (T := TX12) (N := 89) hx hb hg iX12 hown hK hW kd_66 rfl 62 (lt_b rfl) (hg (Cond.fieldLink RX12 478 "SlabWalkModel" "most" "I") m1376) (fun _ h9 => h9) rfl ((hq_50.i9 66 62 rfl rfl).trans ((hq_42.i9 66 62 rfl rfl).trans (rfl))) dX12_fewest_47 ?_
      refine lv_icmp_ge (tgt := 104) hx hb dX12_fewest_50 rfl (fun c_62 => ?_) (fun c_62 => ?_)
      · have c_62 : (G_25.1 66 62).toInt ≤ x_53.toInt := xI_le rfl rfl c_62
        refine lv_iload hx hb dX12_fewest_104 (lv_at hl 1 rfl) ?_
        refine lv_if_ge (tgt := 111) hx hb dX12_fewest_106 rfl (fun c_63 => ?_) (fun c_63 => ?_)
        · have c_63 : 0 ≤ x_54.toInt := xI_le rfl rfl c_63
          refine lv_aload_n hx hb dX12_fewest_111 rfl (lv_at hl 2 rfl) ?_
          refine lv_iload hx hb dX12_fewest_112 (lv_at hl 1 rfl) ?_
          refine ic_0 hx hb dX12_fewest_114 ?_
          refine lv_iload hx hb dX12_fewest_115 (lv_at hl 3 rfl) ?_
          have qc_64 : (0 : Int32).toInt = 0 := rfl
          refine S_calli (va_runV (As := [.int x_54, .int 0, .int p3]) (rest := []) ⟨hx, hb, hml, hown, hts⟩ (n_needOf l D k A a z G_49 x_54 0 p3 ⟨(by first | exact c_63 | omega), (by first | exact ok_1201 f_59.2 | omega)⟩ ⟨by decide, by decide⟩ ⟨(by first | exact ok_415 qc_13 f_20.1 f_20.2 d_1 c_21 | omega), (by first | exact ok_1202 qc_14 f_20.1 f_20.2 d_1 c_21 | omega)⟩) (cwV 3 hts (gd_V hgd m1859 m1861 m96 m131 m1862) rfl rfl rfl hd_X12_needOf ⟨Nat.le_of_ble_eq_true rfl, Nat.le_of_ble_eq_true rfl⟩) (pre_W hW hB_G_49 hK hZ hS kd_66 rfl) rfl rfl hl.1 rfl (lv_room (Nat.le_of_ble_eq_true rfl)) dX12_fewest_117 ⟨Nat.le_of_ble_eq_true rfl, Nat.le_of_ble_eq_true rfl⟩) hS (fun r_65 G_66 H locs hpo hW hS => ?_)
          have hX_69 : Q_needOf x_54 0 p3 G_49 r_65 G_66 := hpo
          obtain ⟨hB_G_66, hq_67, f_70, hp_68, -⟩ := hpo
          have hF := hF.call9 hq_67 rfl rfl
          have hm_71 : r_65.toInt = ndv (G_41.1 99) x_54.toInt 0 p3.toInt := hp_68.trans (ndv_eq3 (show G_49.1 99 = G_41.1 99 from (funext fun j => ((fun (j : Nat) (_ : True) => (hq_50.ri9 99 rfl j))) j trivial)) rfl rfl rfl)
          have u_72 := PRG_1 hp_43 (x := x_54.toInt) (l := 0) (i := p3.toInt) (by first | (clear hP9 hW9 b_2 g_3 b_4 g_5 f_11 hp_9 c_12 g_23 d_3 d_4 d_5 d_6 d_7 d_8 b_29 u_31 u_32 u_33 u_34 b_35 b_36 b_37 b_38 b_39 g_45 g_46 g_47 g_48 hrow98 hn_61 f_58 c_62; omega) | omega) (by first | (clear hP9 hW9 b_2 g_3 b_4 g_5 f_11 hp_9 c_12 g_23 d_3 d_4 d_5 d_6 d_7 d_8 b_29 u_31 u_32 u_33 u_34 b_35 b_36 b_37 b_38 b_39 g_45 g_46 g_47 g_48 hrow98 hn_61 f_58 c_62; omega) | omega) (by first | (clear hP9 hW9 b_2 g_3 b_4 g_5 f_11 hp_9 c_12 g_23 d_3 d_4 d_5 d_6 d_7 d_8 b_29 u_31 u_32 u_33 u_34 b_35 b_36 b_37 b_38 b_39 g_45 g_46 g_47 g_48 hrow98 hn_61 f_58 c_62; omega) | omega) (by first | (clear hP9 hW9 b_2 g_3 b_4 g_5 f_11 hp_9 c_12 g_23 d_3 d_4 d_5 d_6 d_7 d_8 b_29 u_31 u_32 u_33 u_34 b_35 b_36 b_37 b_38 b_39 g_45 g_46 g_47 g_48 hrow98 hn_61 f_58 c_62; omega) | omega) (by first | (clear hP9 hW9 b_2 g_3 b_4 g_5 f_11 hp_9 c_12 g_23 d_3 d_4 d_5 d_6 d_7 d_8 b_29 u_31 u_32 u_33 u_34 b_35 b_36 b_37 b_38 b_39 g_45 g_46 g_47 g_48 hrow98 hn_61 f_58 c_62; omega) | omega)
          refine lv_istore (lv' := [(6, .int r_65), (5, .int x_54), (0, .ref (a 66)), (4, .int p3)]) hx hb dX12_fewest_120 hl (lt_b rfl) rfl (fun ls hl => ?_)
          refine lv_iload hx hb dX12_fewest_122 (lv_at hl 1 rfl) ?_
          refine lv_istore (lv' := [(7, .int x_54), (6, .int r_65), (5, .int x_54), (0, .ref (a 66)), (4, .int p3)]) hx hb dX12_fewest_124 hl (lt_b rfl) rfl (fun ls hl => ?_)
          refine lv_iload hx hb dX12_fewest_126 (lv_at hl 4 rfl) ?_
          refine lv_istore (lv' := [(8, .int p3), (7, .int x_54), (6, .int r_65), (5, .int x_54), (0, .ref (a 66)), (4, .int p3)]) hx hb dX12_fewest_128 hl (lt_b rfl) rfl (fun ls hl => ?_)
          refine lv_aload_n hx hb dX12_fewest_130 rfl (lv_at hl 4 rfl) ?_
          refine lv_iload hx hb dX12_fewest_131 (lv_at hl 1 rfl) ?_
          have g_73 : (G_66.1 66 66).toInt = 0 := (congrArg Int32.toInt (show G_66.1 66 66 = 0 from ((hq_67.i9 66 66 rfl rfl).trans ((hq_50.i9 66 66 rfl rfl).trans ((hq_42.i9 66 66 rfl rfl).trans ((hq_26.i9 66 66 rfl rfl).trans ((hq_17.i9 66 66 rfl rfl).trans ((hq_8.i9 66 66 rfl rfl).trans (gp_eq eG_1))))))))).trans rfl
          have g_74 : (G_66.1 66 66).toInt = 0 := (congrArg Int32.toInt (show G_66.1 66 66 = 0 from ((hq_67.i9 66 66 rfl rfl).trans ((hq_50.i9 66 66 rfl rfl).trans ((hq_42.i9 66 66 rfl rfl).trans ((hq_26.i9 66 66 rfl rfl).trans ((hq_17.i9 66 66 rfl rfl).trans ((hq_8.i9 66 66 rfl rfl).trans (gp_eq eG_1))))))))).trans rfl
          refine S_callv (va_runV (As := [.int x_54]) (rest := []) ⟨hx, hb, hml, hown, hts⟩ (n_lay l D k A a z G_66 x_54 ((by first | exact ok_1203 g_73 | omega))) (cwV 1 hts (gd_V hgd m1866 m1868 m97 m131 m1869) rfl rfl rfl hd_X12_lay ⟨Nat.le_of_ble_eq_true rfl, Nat.le_of_ble_eq_true rfl⟩) (pre_W hW hB_G_66 hK hZ hS kd_66 rfl) rfl rfl hl.1 rfl (lv_room (Nat.le_of_ble_eq_true rfl)) dX12_fewest_133 ⟨Nat.le_of_ble_eq_true rfl, Nat.le_of_ble_eq_true rfl⟩) hS (fun G_76 H locs hpo hW hS => ?_)
          have hX_79 : Q_lay x_54 G_66 G_76 := hpo
          obtain ⟨hB_G_76, hq_77, hp_78, -⟩ := hpo
          have hF := hF.call9 hq_77 rfl rfl
          have b_80 : 0 ≤ (G_76.1 66 66).toInt ∧ (G_76.1 66 66).toInt ≤ 400 := bd_66_66 hB_G_76
          have hf_81 : FWp (G_41.1 99) x_54.toInt p3.toInt (r_65.toInt - (G_76.1 66 66).toInt + 1) := ⟨0, Or.inl rfl, by omega⟩
          refine loop_N (Inv := fun n H locs ls => ∃ (G_82 : GS) (x_86 : Int32) (x_87 : Int32), (n : Int) = r_65.toInt - (G_82.1 66 66).toInt ∧ (0 ≤ x_86.toInt ∧ x_86.toInt ≤ 2) ∧ (0 ≤ x_87.toInt ∧ x_87.toInt ≤ 399) ∧ (1 ≤ (G_82.1 66 66).toInt ∧ (G_82.1 66 66).toInt ≤ x_87.toInt + 1 ∧ (G_82.1 66 66).toInt ≤ r_65.toInt) ∧ (FWp (G_41.1 99) x_87.toInt x_86.toInt (r_65.toInt - (G_82.1 66 66).toInt + 1)) ∧ Rc (St_n_fewest_2 r_65 G_25 G_41) (p3, x_54, G_76) (x_86, x_87, G_82) ∧ Wd D k A a G_82 H ∧ Bd G_82 ∧ Fr [100, 76, 97, 98, 99] [(66, 59), (66, 60), (66, 61), (66, 62), (66, 63), (66, 66)] G G_82 ∧ Fr [100] [(66, 66)] G_76 G_82 ∧ va_S A s.heap H locs ∧ lv_has ls 11 [(8, .int x_86), (7, .int x_87), (6, .int r_65), (0, .ref (a 66))]) (fun n_85 H locs ls ih_84 hI => ?_) (r_65.toInt - (G_76.1 66 66).toInt : Int).toNat ⟨G_76, p3, x_54, (Int.toNat_of_nonneg ((by first | (clear hP9 hW9 b_2 g_3 b_4 g_5 f_11 hp_9 c_12 g_23 d_3 d_4 d_5 d_6 d_7 d_8 b_29 u_31 u_32 u_33 u_34 b_35 b_36 b_37 b_38 b_39 g_45 g_46 g_47 g_48 hrow98 hn_61 f_58 c_62; omega) | omega))), ⟨(by first | exact ok_415 qc_13 f_20.1 f_20.2 d_1 c_21 | omega), (by first | exact ok_1202 qc_14 f_20.1 f_20.2 d_1 c_21 | omega)⟩, ⟨(by first | exact c_63 | omega), (by first | exact ok_1201 f_59.2 | omega)⟩, ((by first | exact ⟨(by first | exact ok_1204 g_73 hp_78 b_80.1 | omega), ⟨(by first | exact ok_1205 c_63 g_73 hp_78 b_80.2 | omega), ((by first | (clear hP9 hW9 b_2 g_3 b_4 g_5 f_11 hp_9 c_12 g_23 d_3 d_4 d_5 d_6 d_7 d_8 b_29 u_31 u_32 u_33 u_34 b_35 b_36 b_37 b_38 b_39 g_45 g_46 g_47 g_48 hrow98 hn_61 f_58 c_62; omega) | omega))⟩⟩ | omega)), (by assumption), Rc.rf, hW, hB_G_76, hF, Fr.rf, hS, lv_sub hl [0, 1, 2, 4] rfl⟩
          obtain ⟨G_82, x_86, x_87, hn_93, f_89, f_90, f_91, f_92, hX_88, hW, hB_G_82, hF, hq_83, hS, hl⟩ := hI
          have b_94 : 0 ≤ (G_82.1 66 66).toInt ∧ (G_82.1 66 66).toInt ≤ 400 := bd_66_66 hB_G_82
          refine lv_aload_n hx hb dX12_fewest_136 rfl (lv_at hl 3 rfl) ?_
          refine S_getI (v := (G_82.1 66 66)) (C := RX12) (T := TX12) (N := 89) hx hb hg iX12 hown hK hW kd_66 rfl 66 (lt_b rfl) (hg (Cond.fieldLink RX12 446 "SlabWalkModel" "lain" "I") m1380) (fun _ h9 => h9) rfl rfl dX12_fewest_137 ?_
          refine lv_iload hx hb dX12_fewest_140 (lv_at hl 2 rfl) ?_
          refine lv_icmp_ge (tgt := 243) hx hb dX12_fewest_142 rfl (fun c_95 => ?_) (fun c_95 => ?_)
          · have c_95 : r_65.toInt ≤ (G_82.1 66 66).toInt := xI_le rfl rfl c_95
            refine lv_iload hx hb dX12_fewest_243 (lv_at hl 2 rfl) ?_
            exact W.iret (v := r_65) hx hb hr (fun t ht _ => ⟨⟨r_65, G_82, rfl, (Q_fewest_mk ⟨hB_G_82, hF, ⟨G_1, hB_G_1, (Fr.put (rs := []) (fs := [(66, 66)]) Fr.rf eG_1 (Or.inr (by decide))), (gp_eq eG_1), ⟨r_6, G_7, hX_10, (Or.inr ⟨c_12, ⟨r_15, G_16, hX_19, (Or.inr ⟨c_21, ⟨G_25, hX_28, ⟨G_41, hX_44, ⟨x_53, x_54, G_49, hX_55, f_58, f_59, f_60, hB_G_49, hq_50, ⟨c_62, (Or.inl ⟨c_63, ⟨r_65, G_66, hX_69, ⟨G_76, hX_79, ⟨x_86, x_87, G_82, hX_88, f_89, f_90, f_91, f_92, hB_G_82, hq_83, ⟨c_95, ⟨rfl, rfl⟩⟩⟩⟩⟩⟩)⟩⟩⟩⟩⟩)⟩⟩)⟩⟩⟩), wd_t ht hW⟩, hS.F ht⟩) hS.2.2 dX12_fewest_245
          · have c_95 : (G_82.1 66 66).toInt < r_65.toInt := xI_nle rfl rfl c_95
            refine lv_iload hx hb dX12_fewest_145 (lv_at hl 2 rfl) ?_
            refine lv_aload_n hx hb dX12_fewest_147 rfl (lv_at hl 3 rfl) ?_
            refine S_getI (v := (G_82.1 66 66)) (C := RX12) (T := TX12) (N := 89) hx hb hg iX12 hown hK hW kd_66 rfl 66 (lt_b rfl) (hg (Cond.fieldLink RX12 446 "SlabWalkModel" "lain" "I") m1380) (fun _ h9 => h9) rfl rfl dX12_fewest_148 ?_
            refine lv_isub hx hb dX12_fewest_151 ?_
            refine lv_topi (fun y_96 ey_96 => ?_)
            have ty_96 : y_96.toInt = r_65.toInt - (G_82.1 66 66).toInt := xI_sub rfl rfl ey_96 ((by first | exact ok_1206 c_95 | omega)) ((by first | exact ok_1207 f_70.2 f_91.1 | omega))
            refine lv_istore (lv' := [(9, .int y_96), (8, .int x_86), (7, .int x_87), (6, .int r_65), (0, .ref (a 66))]) hx hb dX12_fewest_152 hl (lt_b rfl) rfl (fun ls hl => ?_)
            refine lv_iload hx hb dX12_fewest_154 (lv_at hl 1 rfl) ?_
            refine lv_if_ne (tgt := 163) hx hb dX12_fewest_156 rfl (fun c_97 => ?_) (fun c_97 => ?_)
            · have c_97 : x_86.toInt ≠ 0 := xI_ne rfl rfl c_97
              refine ic_3 hx hb dX12_fewest_163 ?_
              refine lv_iload hx hb dX12_fewest_164 (lv_at hl 1 rfl) ?_
              refine lv_isub hx hb dX12_fewest_166 ?_
              refine lv_topi (fun y_98 ey_98 => ?_)
              have ty_98 : y_98.toInt = 3 - x_86.toInt := xI_sub rfl rfl ey_98 ((by first | exact ok_1208 f_89.2 | omega)) ((by first | exact ok_1209 f_89.1 | omega))
              refine lv_istore (lv' := [(8, .int y_98), (9, .int y_96), (7, .int x_87), (6, .int r_65), (0, .ref (a 66))]) hx hb dX12_fewest_167 hl (lt_b rfl) rfl (fun ls hl => ?_)
              refine lv_aload_n hx hb dX12_fewest_169 rfl (lv_at hl 4 rfl) ?_
              refine S_getI (v := (G_25.1 66 61)) (C := RX12) (T := TX12) (N := 89) hx hb hg iX12 hown hK hW kd_66 rfl 61 (lt_b rfl) (hg (Cond.fieldLink RX12 475 "SlabWalkModel" "least" "I") m1375) (fun _ h9 => h9) rfl ((hq_83.i9 66 61 rfl rfl).trans ((hq_77.i9 66 61 rfl rfl).trans ((hq_67.i9 66 61 rfl rfl).trans ((hq_50.i9 66 61 rfl rfl).trans ((hq_42.i9 66 61 rfl rfl).trans (rfl)))))) dX12_fewest_170 ?_
              obtain ⟨l9, hl9, he9⟩ := (show FWp (G_41.1 99) x_87.toInt x_86.toInt (r_65.toInt - (G_82.1 66 66).toInt + 1) by assumption)
              obtain ⟨b9, hb1, hb2, hb3, hb4⟩ := (PRG_ex hp_43 (x := x_87.toInt) (l := l9) (i := x_86.toInt) (by first | (clear hP9 hW9 b_2 g_3 b_4 g_5 f_11 hp_9 c_12 f_20 c_21 g_23 d_3 d_4 d_5 d_6 d_7 d_8 b_29 u_31 u_32 u_33 u_34 b_35 b_36 b_37 b_38 b_39 g_45 g_46 g_47 g_48 hrow98 hn_61 f_58 c_62 g_73 g_74 hp_78 b_80 hn_93; omega) | omega) (by first | (clear hP9 hW9 b_2 g_3 b_4 g_5 f_11 hp_9 c_12 f_20 c_21 g_23 d_3 d_4 d_5 d_6 d_7 d_8 b_29 u_31 u_32 u_33 u_34 b_35 b_36 b_37 b_38 b_39 g_45 g_46 g_47 g_48 hrow98 hn_61 f_58 c_62 g_73 g_74 hp_78 b_80 hn_93; omega) | omega) hl9 (by first | (clear hP9 hW9 b_2 g_3 b_4 g_5 f_11 hp_9 c_12 f_20 c_21 g_23 d_3 d_4 d_5 d_6 d_7 d_8 b_29 u_31 u_32 u_33 u_34 b_35 b_36 b_37 b_38 b_39 g_45 g_46 g_47 g_48 hrow98 hn_61 f_58 c_62 g_73 g_74 hp_78 b_80 hn_93; omega) | omega) (by first | (clear hP9 hW9 b_2 g_3 b_4 g_5 f_11 hp_9 c_12 f_20 c_21 g_23 d_3 d_4 d_5 d_6 d_7 d_8 b_29 u_31 u_32 u_33 u_34 b_35 b_36 b_37 b_38 b_39 g_45 g_46 g_47 g_48 hrow98 hn_61 f_58 c_62 g_73 g_74 hp_78 b_80 hn_93; omega) | omega)).2 (by first | (clear hP9 hW9 b_2 g_3 b_4 g_5 f_11 hp_9 c_12 f_20 c_21 g_23 d_3 d_4 d_5 d_6 d_7 d_8 b_29 u_31 u_32 u_33 u_34 b_35 b_36 b_37 b_38 b_39 g_45 g_46 g_47 g_48 hrow98 hn_61 f_58 c_62 g_73 g_74 hp_78 b_80 hn_93; omega) | omega) (by first | (clear hP9 hW9 b_2 g_3 b_4 g_5 f_11 hp_9 c_12 f_20 c_21 g_23 d_3 d_4 d_5 d_6 d_7 d_8 b_29 u_31 u_32 u_33 u_34 b_35 b_36 b_37 b_38 b_39 g_45 g_46 g_47 g_48 hrow98 hn_61 f_58 c_62 g_73 g_74 hp_78 b_80 hn_93; omega) | omega)
              have hb5 := lw400 hB_G_41 (by omega) _ (by omega) hb3
              rw [hrow98] at hb3
              have hfl := flI_v x_86.toInt
              have htr := trI_v b9 (G_41.1 66 62).toInt
              have d_9 := htr.1
              have d_10 := htr.2
              have hlz : (G_25.1 66 61).toInt = (G_41.1 66 61).toInt := by omega
              refine lv_istore (lv' := [(10, .int (G_25.1 66 61)), (8, .int y_98), (9, .int y_96), (7, .int x_87), (6, .int r_65), (0, .ref (a 66))]) hx hb dX12_fewest_173 hl (lt_b rfl) rfl (fun ls hl => ?_)
              refine loop_N (Inv := fun n H locs ls => ∃ (G_99 : GS) (x_103 : Int32), (n : Int) = b9 - x_103.toInt ∧ (0 ≤ x_103.toInt ∧ x_103.toInt ≤ 99) ∧ (x_103.toInt ≤ b9) ∧ ((G_41.1 66 61).toInt ≤ x_103.toInt) ∧ Rc (St_n_fewest_3 x_87 y_96 y_98 G_25 G_41) ((G_25.1 66 61), G_82) (x_103, G_99) ∧ Wd D k A a G_99 H ∧ Bd G_99 ∧ Fr [100, 76, 97, 98, 99] [(66, 59), (66, 60), (66, 61), (66, 62), (66, 63), (66, 66)] G G_99 ∧ Fr [] [] G_82 G_99 ∧ va_S A s.heap H locs ∧ lv_has ls 11 [(10, .int x_103), (8, .int y_98), (9, .int y_96), (7, .int x_87), (6, .int r_65), (0, .ref (a 66))]) (fun n_102 H locs ls ih_101 hI => ?_) (b9 - (G_25.1 66 61).toInt : Int).toNat ⟨G_82, (G_25.1 66 61), (Int.toNat_of_nonneg ((by first | (clear hP9 hW9 f_20 d_1 d_2 c_21 g_23 hrow98 hn_61 f_59 f_60 c_63 f_70 hp_68 hm_71 u_72 g_73 g_74 hp_78 b_80 hn_93 f_89 f_90 f_91 b_94 c_95 ty_96 c_97 ty_98 htr; omega) | omega))), ⟨(by first | exact b_36.1 | omega), (by first | exact ok_768 b_36.2 | omega)⟩, ((by first | (clear hP9 hW9 f_20 d_1 d_2 c_21 g_23 hrow98 hn_61 f_59 f_60 c_63 f_70 hp_68 hm_71 u_72 g_73 g_74 hp_78 b_80 hn_93 f_89 f_90 f_91 b_94 c_95 ty_96 c_97 ty_98 htr; omega) | omega)), ((by first | exact ok_1210 g_45 | omega)), Rc.rf, hW, hB_G_82, hF, Fr.rf, hS, lv_sub hl [0, 1, 2, 3, 4, 5] rfl⟩
              obtain ⟨G_99, x_103, hn_108, f_105, f_106, f_107, hX_104, hW, hB_G_99, hF, hq_100, hS, hl⟩ := hI
              refine lv_aload_n hx hb dX12_fewest_175 rfl (lv_at hl 5 rfl) ?_
              refine S_getR (n := 98) (C := RX12) (T := TX12) (N := 89) hx hb hg iX12 hown hK hW kd_66 rfl 58 (lt_b rfl) (hg (Cond.fieldLink RX12 115 "SlabWalkModel" "lawful" "[Z") m1372) (fun _ h9 => h9) rfl dX12_fewest_176 ?_
              refine lv_iload hx hb dX12_fewest_179 (lv_at hl 3 rfl) ?_
              refine lv_iload hx hb dX12_fewest_181 (lv_at hl 0 rfl) ?_
              refine lv_iadd hx hb dX12_fewest_183 ?_
              refine lv_topi (fun y_109 ey_109 => ?_)
              have ty_109 : y_109.toInt = x_87.toInt + x_103.toInt := xI_add rfl rfl ey_109 ((by first | exact ok_15 f_90.1 f_105.1 | omega)) ((by first | exact ok_309 f_90.2 f_105.2 | omega))
              refine S_zald hx hb hK hW kd_98 (vin ((by first | exact ok_105 f_90.1 f_105.1 ty_109 | omega)) ((by first | exact ok_1211 f_90.2 f_105.2 ty_109 | omega))) dX12_fewest_184 (fun y_110 ey_110 => ?_)
              have ty_110 := hB_G_99.law ey_110
              have u_111 : y_110.toInt = (G_25.1 98 y_109.toNatClampNeg).toInt := congrArg Int32.toInt (ey_110.trans (((hq_100.ri9 98 rfl y_109.toNatClampNeg).trans ((hq_83.ri9 98 rfl y_109.toNatClampNeg).trans ((hq_77.ri9 98 rfl y_109.toNatClampNeg).trans ((hq_67.ri9 98 rfl y_109.toNatClampNeg).trans ((hq_50.ri9 98 rfl y_109.toNatClampNeg).trans (hq_42.ri9 98 rfl y_109.toNatClampNeg))))))))
              have u_112 : x_103.toInt = b9 → y_110.toInt = 1 := fun q => (lw_iff (L := G_25.1 98) (x := y_109) (y := y_110) (X := x_87.toInt + b9) (by first | (clear hP9 hW9 b_2 b_4 f_11 c_12 f_20 c_21 g_23 b_29 b_39 hrow98 hn_61 f_58 g_73 g_74 hp_78 b_80 hn_93 f_89 c_97 ty_98 htr hn_108; omega) | omega) (by first | (clear hP9 hW9 b_2 b_4 f_11 c_12 f_20 c_21 g_23 b_29 b_39 hrow98 hn_61 f_58 g_73 g_74 hp_78 b_80 hn_93 f_89 c_97 ty_98 htr hn_108; omega) | omega)).mp hb3
              refine lv_if_eq (tgt := 221) hx hb dX12_fewest_185 rfl (fun c_113 => ?_) (fun c_113 => ?_)
              · have c_113 : y_110.toInt = 0 := xI_eq rfl rfl c_113
                obtain ⟨y_114, ey_114⟩ : ∃ q, q = x_103 + 1 := ⟨_, rfl⟩
                have ty_114 : y_114.toInt = x_103.toInt + 1 := xI_add rfl rfl ey_114 ((by first | exact ok_21 f_105.1 | omega)) ((by first | exact ok_1212 f_105.2 | omega))
                refine lv_iinc (v := y_114) (lv' := [(10, .int y_114), (8, .int y_98), (9, .int y_96), (7, .int x_87), (6, .int r_65), (0, .ref (a 66))]) hx hb dX12_fewest_221 hl (k := 0) rfl (by rw [ey_114]; rfl) (lt_b rfl) rfl (fun ls hl => ?_)
                refine lv_goto (tgt := 175) hx hb dX12_fewest_224 rfl ?_
                exact ih_101 (b9 - y_114.toInt : Int).toNat ((by first | (clear hP9 hW9 b_2 b_4 f_11 c_12 f_20 c_21 g_23 b_29 b_39 hrow98 f_58 g_73 g_74 hp_78 b_80 f_89 c_97 ty_98 htr; omega) | omega)) _ _ _ ⟨G_99, y_114, (Int.toNat_of_nonneg ((by first | (clear hP9 hW9 b_2 b_4 f_11 c_12 f_20 c_21 g_23 b_29 b_39 hrow98 hn_61 f_58 g_73 g_74 hp_78 b_80 hn_93 f_89 c_97 ty_98 htr hn_108; omega) | omega))), ⟨(by first | exact ok_23 f_105.1 ty_114 | omega), (by first | (clear hP9 hW9 b_2 b_4 f_11 c_12 f_20 c_21 g_23 b_29 b_39 hrow98 hn_61 f_58 g_73 g_74 hp_78 b_80 hn_93 f_89 c_97 ty_98 htr hn_108; omega) | omega)⟩, ((by first | (clear hP9 hW9 b_2 b_4 f_11 c_12 f_20 c_21 g_23 b_29 b_39 hrow98 hn_61 f_58 g_73 g_74 hp_78 b_80 hn_93 f_89 c_97 ty_98 htr hn_108; omega) | omega)), ((by first | exact ok_1093 f_107 ty_114 | omega)), (hX_104.st (St_n_fewest_3_mk ⟨x_103, G_99, y_114, G_99, rfl, rfl, f_105, f_107, hB_G_99, ⟨y_109, ty_109, ⟨y_110, ey_110, (Or.inl ⟨c_113, ⟨y_114, ty_114, ⟨rfl, rfl⟩⟩⟩)⟩⟩⟩)), hW, hB_G_99, hF, (Fr.call9 (rs := []) (fs := []) Fr.rf hq_100 rfl rfl), hS, lv_sub hl [0, 1, 2, 3, 4, 5] rfl⟩
              · have c_113 : y_110.toInt ≠ 0 := xI_ne rfl rfl c_113
                refine lv_aload_n hx hb dX12_fewest_188 rfl (lv_at hl 5 rfl) ?_
                refine lv_iload hx hb dX12_fewest_189 (lv_at hl 3 rfl) ?_
                refine lv_iload hx hb dX12_fewest_191 (lv_at hl 0 rfl) ?_
                refine lv_iadd hx hb dX12_fewest_193 ?_
                refine lv_topi (fun y_115 ey_115 => ?_)
                have ty_115 : y_115.toInt = x_87.toInt + x_103.toInt := xI_add rfl rfl ey_115 ((by first | exact ok_15 f_90.1 f_105.1 | omega)) ((by first | exact ok_309 f_90.2 f_105.2 | omega))
                refine lv_iload hx hb dX12_fewest_194 (lv_at hl 0 rfl) ?_
                refine lv_aload_n hx hb dX12_fewest_196 rfl (lv_at hl 5 rfl) ?_
                refine S_getI (v := (G_25.1 66 62)) (C := RX12) (T := TX12) (N := 89) hx hb hg iX12 hown hK hW kd_66 rfl 62 (lt_b rfl) (hg (Cond.fieldLink RX12 478 "SlabWalkModel" "most" "I") m1376) (fun _ h9 => h9) rfl ((hq_100.i9 66 62 rfl rfl).trans ((hq_83.i9 66 62 rfl rfl).trans ((hq_77.i9 66 62 rfl rfl).trans ((hq_67.i9 66 62 rfl rfl).trans ((hq_50.i9 66 62 rfl rfl).trans ((hq_42.i9 66 62 rfl rfl).trans (rfl))))))) dX12_fewest_197 ?_
                refine lv_icmp_le (tgt := 207) hx hb dX12_fewest_200 rfl (fun c_116 => ?_) (fun c_116 => ?_)
                · have c_116 : x_103.toInt ≤ (G_25.1 66 62).toInt := xI_le rfl rfl c_116
                  refine ic_0 hx hb dX12_fewest_207 ?_
                  have qc_117 : (0 : Int32).toInt = 0 := rfl
                  refine S_calli (va_runS (As := [.int 0]) (rest := [.int y_115, .ref (a 66)]) ⟨hx, hb, hml, hown, hts⟩ (n_truth l D k A a z G_99 0 ⟨by decide, by decide⟩) (va_cwS 1 hts (gd_S hgd m1788 m1789 m131 m1790) rfl rfl rfl hd_X12_truth.2 ⟨Nat.le_of_ble_eq_true rfl, Nat.le_of_ble_eq_true rfl⟩) (pre_S hW hB_G_99 hK hZ hS) rfl rfl hl.1 rfl (lv_room (Nat.le_of_ble_eq_true rfl)) dX12_fewest_208 ⟨Nat.le_of_ble_eq_true rfl, Nat.le_of_ble_eq_true rfl⟩) hS (fun r_118 G_119 H locs hpo hW hS => ?_)
                  have hX_122 : Q_truth 0 G_99 r_118 G_119 := hpo
                  obtain ⟨hB_G_119, hq_120, f_123, hp_121, -⟩ := hpo
                  have hF := hF.call9 hq_120 rfl rfl
                  refine lv_iload hx hb dX12_fewest_211 (lv_at hl 1 rfl) ?_
                  refine S_calli (va_runV (As := [.int y_115, .int r_118, .int y_98]) (rest := []) ⟨hx, hb, hml, hown, hts⟩ (n_needOf l D k A a z G_119 y_115 r_118 y_98 ⟨(by first | exact ok_105 f_90.1 f_105.1 ty_115 | omega), (by first | (clear hP9 hW9 b_2 b_4 f_11 c_12 f_20 c_21 g_23 b_29 b_39 hrow98 hn_61 f_58 g_73 g_74 hp_78 b_80 hn_93 f_89 c_97 ty_98 htr hn_108 f_123 hp_121; omega) | omega)⟩ ⟨(by first | exact f_123.1 | omega), (by first | exact f_123.2 | omega)⟩ ⟨(by first | exact ok_1213 f_89.2 ty_98 | omega), (by first | exact ok_1214 f_89.1 c_97 ty_98 | omega)⟩) (cwV 3 hts (gd_V hgd m1859 m1861 m96 m131 m1862) rfl rfl rfl hd_X12_needOf ⟨Nat.le_of_ble_eq_true rfl, Nat.le_of_ble_eq_true rfl⟩) (pre_W hW hB_G_119 hK hZ hS kd_66 rfl) rfl rfl hl.1 rfl (lv_room (Nat.le_of_ble_eq_true rfl)) dX12_fewest_213 ⟨Nat.le_of_ble_eq_true rfl, Nat.le_of_ble_eq_true rfl⟩) hS (fun r_124 G_125 H locs hpo hW hS => ?_)
                  have hX_128 : Q_needOf y_115 r_118 y_98 G_119 r_124 G_125 := hpo
                  obtain ⟨hB_G_125, hq_126, f_129, hp_127, -⟩ := hpo
                  have hF := hF.call9 hq_126 rfl rfl
                  have hm_130 : r_124.toInt = ndv (G_41.1 99) y_115.toInt r_118.toInt y_98.toInt := hp_127.trans (ndv_eq3 (show G_119.1 99 = G_41.1 99 from (funext fun j => ((fun (j : Nat) (_ : True) => ((hq_120.ri9 99 rfl j).trans ((hq_100.ri9 99 rfl j).trans ((hq_83.ri9 99 rfl j).trans ((hq_77.ri9 99 rfl j).trans ((hq_67.ri9 99 rfl j).trans (hq_50.ri9 99 rfl j)))))))) j trivial)) rfl rfl rfl)
                  have u_131 := PRG_1 hp_43 (x := y_115.toInt) (l := r_118.toInt) (i := y_98.toInt) (by first | (clear hP9 hW9 b_2 b_4 f_11 c_12 f_20 c_21 g_23 b_29 b_39 hrow98 hn_61 f_58 g_73 g_74 hp_78 b_80 hn_93 htr hn_108; omega) | omega) (by first | (clear hP9 hW9 b_2 b_4 f_11 c_12 f_20 c_21 g_23 b_29 b_39 hrow98 hn_61 f_58 g_73 g_74 hp_78 b_80 hn_93 htr hn_108; omega) | omega) (by first | (clear hP9 hW9 b_2 b_4 f_11 c_12 f_20 c_21 g_23 b_29 b_39 hrow98 hn_61 f_58 g_73 g_74 hp_78 b_80 hn_93 htr hn_108; omega) | omega) (by first | (clear hP9 hW9 b_2 b_4 f_11 c_12 f_20 c_21 g_23 b_29 b_39 hrow98 hn_61 f_58 g_73 g_74 hp_78 b_80 hn_93 htr hn_108; omega) | omega) (by first | (clear hP9 hW9 b_2 b_4 f_11 c_12 f_20 c_21 g_23 b_29 b_39 hrow98 hn_61 f_58 g_73 g_74 hp_78 b_80 hn_93 htr hn_108; omega) | omega)
                  have u_132 : x_103.toInt = b9 → r_124.toInt = y_96.toInt := fun q => (hm_130.trans ((ndv_eq3 rfl (by first | (clear hP9 hW9 b_2 b_4 f_11 c_12 g_23 b_29 b_39 hrow98 hn_61 f_58 g_73 g_74 hp_78 b_80 hn_93 htr hn_108; omega) | omega) (by first | (clear hP9 hW9 b_2 b_4 f_11 c_12 g_23 b_29 b_39 hrow98 hn_61 f_58 g_73 g_74 hp_78 b_80 hn_93 htr hn_108; omega) | omega) (by first | (clear hP9 hW9 b_2 b_4 f_11 c_12 g_23 b_29 b_39 hrow98 hn_61 f_58 g_73 g_74 hp_78 b_80 hn_93 htr hn_108; omega) | omega)).trans hb4)).trans (by first | (clear hP9 hW9 b_2 b_4 f_11 c_12 g_23 b_29 b_39 hrow98 hn_61 f_58 g_73 g_74 hp_78 b_80 hn_93 htr hn_108; omega) | omega)
                  refine lv_iload hx hb dX12_fewest_216 (lv_at hl 2 rfl) ?_
                  refine lv_icmp_eq (tgt := 227) hx hb dX12_fewest_218 rfl (fun c_133 => ?_) (fun c_133 => ?_)
                  · have c_133 : r_124.toInt = y_96.toInt := xI_eq rfl rfl c_133
                    refine lv_iload hx hb dX12_fewest_227 (lv_at hl 3 rfl) ?_
                    refine lv_iload hx hb dX12_fewest_229 (lv_at hl 0 rfl) ?_
                    refine lv_iadd hx hb dX12_fewest_231 ?_
                    refine lv_topi (fun y_134 ey_134 => ?_)
                    have ty_134 : y_134.toInt = x_87.toInt + x_103.toInt := xI_add rfl rfl ey_134 ((by first | exact ok_15 f_90.1 f_105.1 | omega)) ((by first | exact ok_309 f_90.2 f_105.2 | omega))
                    refine lv_istore (lv' := [(7, .int y_134), (10, .int x_103), (8, .int y_98), (9, .int y_96), (6, .int r_65), (0, .ref (a 66))]) hx hb dX12_fewest_232 hl (lt_b rfl) rfl (fun ls hl => ?_)
                    refine lv_aload_n hx hb dX12_fewest_234 rfl (lv_at hl 5 rfl) ?_
                    refine lv_iload hx hb dX12_fewest_235 (lv_at hl 0 rfl) ?_
                    have g_135 : (G_125.1 66 66).toInt = (G_82.1 66 66).toInt := (congrArg Int32.toInt (show G_125.1 66 66 = (G_82.1 66 66) from ((hq_126.i9 66 66 rfl rfl).trans ((hq_120.i9 66 66 rfl rfl).trans ((hq_100.i9 66 66 rfl rfl).trans (rfl))))))
                    have g_136 : (G_125.1 66 66).toInt = (G_82.1 66 66).toInt := (congrArg Int32.toInt (show G_125.1 66 66 = (G_82.1 66 66) from ((hq_126.i9 66 66 rfl rfl).trans ((hq_120.i9 66 66 rfl rfl).trans ((hq_100.i9 66 66 rfl rfl).trans (rfl))))))
                    refine S_callv (va_runV (As := [.int y_134]) (rest := []) ⟨hx, hb, hml, hown, hts⟩ (n_lay l D k A a z G_125 y_134 ((by first | (clear hP9 hW9 b_2 b_4 f_11 c_12 g_23 b_29 b_39 hrow98 hn_61 f_58 g_73 g_74 hp_78 b_80 hn_93 htr hn_108; omega) | omega))) (cwV 1 hts (gd_V hgd m1866 m1868 m97 m131 m1869) rfl rfl rfl hd_X12_lay ⟨Nat.le_of_ble_eq_true rfl, Nat.le_of_ble_eq_true rfl⟩) (pre_W hW hB_G_125 hK hZ hS kd_66 rfl) rfl rfl hl.1 rfl (lv_room (Nat.le_of_ble_eq_true rfl)) dX12_fewest_237 ⟨Nat.le_of_ble_eq_true rfl, Nat.le_of_ble_eq_true rfl⟩) hS (fun G_138 H locs hpo hW hS => ?_)
                    have hX_141 : Q_lay y_134 G_125 G_138 := hpo
                    obtain ⟨hB_G_138, hq_139, hp_140, -⟩ := hpo
                    have hF := hF.call9 hq_139 rfl rfl
                    have b_142 : 0 ≤ (G_138.1 66 66).toInt ∧ (G_138.1 66 66).toInt ≤ 400 := bd_66_66 hB_G_138
                    have hf_143 : FWp (G_41.1 99) y_134.toInt y_98.toInt (r_65.toInt - (G_138.1 66 66).toInt + 1) := ⟨r_118.toInt, by omega, (ndv_eq3 rfl (by first | (clear hP9 hW9 b_2 b_4 f_11 c_12 g_23 b_29 b_39 hrow98 hn_61 f_58 g_73 g_74 hp_78 b_80 hn_93 htr hn_108; omega) | omega) rfl rfl).trans (hm_130.symm.trans (by first | (clear hP9 hW9 b_2 b_4 f_11 c_12 g_23 b_29 b_39 hrow98 hn_61 f_58 g_73 g_74 hp_78 b_80 hn_93 htr hn_108; omega) | omega))⟩
                    refine lv_goto (tgt := 136) hx hb dX12_fewest_240 rfl ?_
                    exact ih_84 (r_65.toInt - (G_138.1 66 66).toInt : Int).toNat ((by first | (clear hP9 hW9 b_2 b_4 f_11 c_12 g_23 b_29 b_39 hrow98 f_58 g_73 g_74 hp_78 b_80 htr; omega) | omega)) _ _ _ ⟨G_138, y_98, y_134, (Int.toNat_of_nonneg ((by first | exact ok_1215 f_70.1 c_95 g_135 hp_140 b_142.2 | omega))), ⟨(by first | exact ok_1213 f_89.2 ty_98 | omega), (by first | exact ok_1214 f_89.1 c_97 ty_98 | omega)⟩, ⟨(by first | exact ok_105 f_90.1 f_105.1 ty_134 | omega), (by first | (clear hP9 hW9 b_2 b_4 f_11 c_12 g_23 b_29 b_39 hrow98 hn_61 f_58 g_73 g_74 hp_78 b_80 hn_93 htr hn_108; omega) | omega)⟩, ((by first | exact ⟨(by first | exact ok_1216 f_91.1 g_135 hp_140 b_142.1 | omega), ⟨((by first | (clear hP9 hW9 b_2 b_4 f_11 c_12 g_23 b_29 b_39 hrow98 hn_61 f_58 g_73 g_74 hp_78 b_80 hn_93 htr hn_108; omega) | omega)), (by first | exact ok_1217 f_70.1 c_95 g_135 hp_140 b_142.2 | omega)⟩⟩ | omega)), (by assumption), (hX_88.st (St_n_fewest_2_mk ⟨x_86, x_87, G_82, y_98, y_134, G_138, rfl, rfl, f_89, f_90, f_91, f_92, hB_G_82, ⟨c_95, ⟨y_96, ty_96, (Or.inr ⟨c_97, ⟨y_98, ty_98, ⟨x_103, G_99, hX_104, f_105, f_107, hB_G_99, hq_100, ⟨y_109, ty_109, ⟨y_110, ey_110, ⟨c_113, ⟨y_115, ty_115, (Or.inl ⟨c_116, ⟨r_118, G_119, hX_122, ⟨r_124, G_125, hX_128, ⟨c_133, ⟨y_134, ty_134, ⟨G_138, hX_141, ⟨rfl, rfl, rfl⟩⟩⟩⟩⟩⟩⟩)⟩⟩⟩⟩⟩⟩⟩)⟩⟩⟩)), hW, hB_G_138, hF, (Fr.call9 (rs := [100]) (fs := [(66, 66)]) (Fr.call9 (rs := [100]) (fs := [(66, 66)]) (Fr.call9 (rs := [100]) (fs := [(66, 66)]) (Fr.call9 (rs := [100]) (fs := [(66, 66)]) (Fr.call9 (rs := [100]) (fs := [(66, 66)]) Fr.rf hq_83 rfl rfl) hq_100 rfl rfl) hq_120 rfl rfl) hq_126 rfl rfl) hq_139 rfl rfl), hS, lv_sub hl [2, 0, 4, 5] rfl⟩
                  · have c_133 : r_124.toInt ≠ y_96.toInt := xI_ne rfl rfl c_133
                    obtain ⟨y_144, ey_144⟩ : ∃ q, q = x_103 + 1 := ⟨_, rfl⟩
                    have ty_144 : y_144.toInt = x_103.toInt + 1 := xI_add rfl rfl ey_144 ((by first | exact ok_21 f_105.1 | omega)) ((by first | exact ok_1212 f_105.2 | omega))
                    refine lv_iinc (v := y_144) (lv' := [(10, .int y_144), (8, .int y_98), (9, .int y_96), (7, .int x_87), (6, .int r_65), (0, .ref (a 66))]) hx hb dX12_fewest_221 hl (k := 0) rfl (by rw [ey_144]; rfl) (lt_b rfl) rfl (fun ls hl => ?_)
                    refine lv_goto (tgt := 175) hx hb dX12_fewest_224 rfl ?_
                    exact ih_101 (b9 - y_144.toInt : Int).toNat ((by first | (clear hP9 hW9 b_2 b_4 f_11 c_12 f_20 c_21 g_23 b_29 b_39 hrow98 f_58 g_73 g_74 hp_78 b_80 htr; omega) | omega)) _ _ _ ⟨G_125, y_144, (Int.toNat_of_nonneg ((by first | (clear hP9 hW9 b_2 b_4 f_11 c_12 f_20 c_21 g_23 b_29 b_39 hrow98 hn_61 f_58 g_73 g_74 hp_78 b_80 hn_93 htr hn_108; omega) | omega))), ⟨(by first | exact ok_23 f_105.1 ty_144 | omega), (by first | exact ok_1218 b_37.2 f_105.2 c_116 ty_144 | omega)⟩, ((by first | (clear hP9 hW9 b_2 b_4 f_11 c_12 f_20 c_21 g_23 b_29 b_39 hrow98 hn_61 f_58 g_73 g_74 hp_78 b_80 hn_93 htr hn_108; omega) | omega)), ((by first | exact ok_1093 f_107 ty_144 | omega)), (hX_104.st (St_n_fewest_3_mk ⟨x_103, G_99, y_144, G_125, rfl, rfl, f_105, f_107, hB_G_99, ⟨y_109, ty_109, ⟨y_110, ey_110, (Or.inr ⟨c_113, ⟨y_115, ty_115, (Or.inl ⟨c_116, ⟨r_118, G_119, hX_122, ⟨r_124, G_125, hX_128, ⟨c_133, ⟨y_144, ty_144, ⟨rfl, rfl⟩⟩⟩⟩⟩⟩)⟩⟩)⟩⟩⟩)), hW, hB_G_125, hF, (Fr.call9 (rs := []) (fs := []) (Fr.call9 (rs := []) (fs := []) (Fr.call9 (rs := []) (fs := []) Fr.rf hq_100 rfl rfl) hq_120 rfl rfl) hq_126 rfl rfl), hS, lv_sub hl [0, 1, 2, 3, 4, 5] rfl⟩
                · have c_116 : (G_25.1 66 62).toInt < x_103.toInt := xI_nle rfl rfl c_116
                  refine ic_1 hx hb dX12_fewest_203 ?_
                  refine lv_goto (tgt := 208) hx hb dX12_fewest_204 rfl ?_
                  have qc_145 : (1 : Int32).toInt = 1 := rfl
                  refine S_calli (va_runS (As := [.int 1]) (rest := [.int y_115, .ref (a 66)]) ⟨hx, hb, hml, hown, hts⟩ (n_truth l D k A a z G_99 1 ⟨by decide, by decide⟩) (va_cwS 1 hts (gd_S hgd m1788 m1789 m131 m1790) rfl rfl rfl hd_X12_truth.2 ⟨Nat.le_of_ble_eq_true rfl, Nat.le_of_ble_eq_true rfl⟩) (pre_S hW hB_G_99 hK hZ hS) rfl rfl hl.1 rfl (lv_room (Nat.le_of_ble_eq_true rfl)) dX12_fewest_208 ⟨Nat.le_of_ble_eq_true rfl, Nat.le_of_ble_eq_true rfl⟩) hS (fun r_146 G_147 H locs hpo hW hS => ?_)
                  have hX_150 : Q_truth 1 G_99 r_146 G_147 := hpo
                  obtain ⟨hB_G_147, hq_148, f_151, hp_149, -⟩ := hpo
                  have hF := hF.call9 hq_148 rfl rfl
                  refine lv_iload hx hb dX12_fewest_211 (lv_at hl 1 rfl) ?_
                  refine S_calli (va_runV (As := [.int y_115, .int r_146, .int y_98]) (rest := []) ⟨hx, hb, hml, hown, hts⟩ (n_needOf l D k A a z G_147 y_115 r_146 y_98 ⟨(by first | exact ok_105 f_90.1 f_105.1 ty_115 | omega), (by first | (clear hP9 hW9 b_2 b_4 f_11 c_12 f_20 c_21 g_23 b_29 b_39 hrow98 hn_61 f_58 g_73 g_74 hp_78 b_80 hn_93 f_89 c_97 ty_98 htr hn_108 f_151 hp_149; omega) | omega)⟩ ⟨(by first | exact f_151.1 | omega), (by first | exact f_151.2 | omega)⟩ ⟨(by first | exact ok_1213 f_89.2 ty_98 | omega), (by first | exact ok_1214 f_89.1 c_97 ty_98 | omega)⟩) (cwV 3 hts (gd_V hgd m1859 m1861 m96 m131 m1862) rfl rfl rfl hd_X12_needOf ⟨Nat.le_of_ble_eq_true rfl, Nat.le_of_ble_eq_true rfl⟩) (pre_W hW hB_G_147 hK hZ hS kd_66 rfl) rfl rfl hl.1 rfl (lv_room (Nat.le_of_ble_eq_true rfl)) dX12_fewest_213 ⟨Nat.le_of_ble_eq_true rfl, Nat.le_of_ble_eq_true rfl⟩) hS (fun r_152 G_153 H locs hpo hW hS => ?_)
                  have hX_156 : Q_needOf y_115 r_146 y_98 G_147 r_152 G_153 := hpo
                  obtain ⟨hB_G_153, hq_154, f_157, hp_155, -⟩ := hpo
                  have hF := hF.call9 hq_154 rfl rfl
                  have hm_158 : r_152.toInt = ndv (G_41.1 99) y_115.toInt r_146.toInt y_98.toInt := hp_155.trans (ndv_eq3 (show G_147.1 99 = G_41.1 99 from (funext fun j => ((fun (j : Nat) (_ : True) => ((hq_148.ri9 99 rfl j).trans ((hq_100.ri9 99 rfl j).trans ((hq_83.ri9 99 rfl j).trans ((hq_77.ri9 99 rfl j).trans ((hq_67.ri9 99 rfl j).trans (hq_50.ri9 99 rfl j)))))))) j trivial)) rfl rfl rfl)
                  have u_159 := PRG_1 hp_43 (x := y_115.toInt) (l := r_146.toInt) (i := y_98.toInt) (by first | (clear hP9 hW9 b_2 b_4 f_11 c_12 f_20 c_21 g_23 b_29 b_39 hrow98 hn_61 f_58 g_73 g_74 hp_78 b_80 hn_93 htr hn_108; omega) | omega) (by first | (clear hP9 hW9 b_2 b_4 f_11 c_12 f_20 c_21 g_23 b_29 b_39 hrow98 hn_61 f_58 g_73 g_74 hp_78 b_80 hn_93 htr hn_108; omega) | omega) (by first | (clear hP9 hW9 b_2 b_4 f_11 c_12 f_20 c_21 g_23 b_29 b_39 hrow98 hn_61 f_58 g_73 g_74 hp_78 b_80 hn_93 htr hn_108; omega) | omega) (by first | (clear hP9 hW9 b_2 b_4 f_11 c_12 f_20 c_21 g_23 b_29 b_39 hrow98 hn_61 f_58 g_73 g_74 hp_78 b_80 hn_93 htr hn_108; omega) | omega) (by first | (clear hP9 hW9 b_2 b_4 f_11 c_12 f_20 c_21 g_23 b_29 b_39 hrow98 hn_61 f_58 g_73 g_74 hp_78 b_80 hn_93 htr hn_108; omega) | omega)
                  have u_160 : x_103.toInt = b9 → r_152.toInt = y_96.toInt := fun q => (hm_158.trans ((ndv_eq3 rfl (by first | (clear hP9 hW9 b_2 b_4 f_11 c_12 g_23 b_29 b_39 hrow98 hn_61 f_58 g_73 g_74 hp_78 b_80 hn_93 htr hn_108; omega) | omega) (by first | (clear hP9 hW9 b_2 b_4 f_11 c_12 g_23 b_29 b_39 hrow98 hn_61 f_58 g_73 g_74 hp_78 b_80 hn_93 htr hn_108; omega) | omega) (by first | (clear hP9 hW9 b_2 b_4 f_11 c_12 g_23 b_29 b_39 hrow98 hn_61 f_58 g_73 g_74 hp_78 b_80 hn_93 htr hn_108; omega) | omega)).trans hb4)).trans (by first | (clear hP9 hW9 b_2 b_4 f_11 c_12 g_23 b_29 b_39 hrow98 hn_61 f_58 g_73 g_74 hp_78 b_80 hn_93 htr hn_108; omega) | omega)
                  refine lv_iload hx hb dX12_fewest_216 (lv_at hl 2 rfl) ?_
                  refine lv_icmp_eq (tgt := 227) hx hb dX12_fewest_218 rfl (fun c_161 => ?_) (fun c_161 => ?_)
                  · have c_161 : r_152.toInt = y_96.toInt := xI_eq rfl rfl c_161
                    refine lv_iload hx hb dX12_fewest_227 (lv_at hl 3 rfl) ?_
                    refine lv_iload hx hb dX12_fewest_229 (lv_at hl 0 rfl) ?_
                    refine lv_iadd hx hb dX12_fewest_231 ?_
                    refine lv_topi (fun y_162 ey_162 => ?_)
                    have ty_162 : y_162.toInt = x_87.toInt + x_103.toInt := xI_add rfl rfl ey_162 ((by first | exact ok_15 f_90.1 f_105.1 | omega)) ((by first | exact ok_309 f_90.2 f_105.2 | omega))
                    refine lv_istore (lv' := [(7, .int y_162), (10, .int x_103), (8, .int y_98), (9, .int y_96), (6, .int r_65), (0, .ref (a 66))]) hx hb dX12_fewest_232 hl (lt_b rfl) rfl (fun ls hl => ?_)
                    refine lv_aload_n hx hb dX12_fewest_234 rfl (lv_at hl 5 rfl) ?_
                    refine lv_iload hx hb dX12_fewest_235 (lv_at hl 0 rfl) ?_
                    have g_163 : (G_153.1 66 66).toInt = (G_82.1 66 66).toInt := (congrArg Int32.toInt (show G_153.1 66 66 = (G_82.1 66 66) from ((hq_154.i9 66 66 rfl rfl).trans ((hq_148.i9 66 66 rfl rfl).trans ((hq_100.i9 66 66 rfl rfl).trans (rfl))))))
                    have g_164 : (G_153.1 66 66).toInt = (G_82.1 66 66).toInt := (congrArg Int32.toInt (show G_153.1 66 66 = (G_82.1 66 66) from ((hq_154.i9 66 66 rfl rfl).trans ((hq_148.i9 66 66 rfl rfl).trans ((hq_100.i9 66 66 rfl rfl).trans (rfl))))))
                    refine S_callv (va_runV (As := [.int y_162]) (rest := []) ⟨hx, hb, hml, hown, hts⟩ (n_lay l D k A a z G_153 y_162 ((by first | (clear hP9 hW9 b_2 b_4 f_11 c_12 g_23 b_29 b_39 hrow98 hn_61 f_58 g_73 g_74 hp_78 b_80 hn_93 htr hn_108; omega) | omega))) (cwV 1 hts (gd_V hgd m1866 m1868 m97 m131 m1869) rfl rfl rfl hd_X12_lay ⟨Nat.le_of_ble_eq_true rfl, Nat.le_of_ble_eq_true rfl⟩) (pre_W hW hB_G_153 hK hZ hS kd_66 rfl) rfl rfl hl.1 rfl (lv_room (Nat.le_of_ble_eq_true rfl)) dX12_fewest_237 ⟨Nat.le_of_ble_eq_true rfl, Nat.le_of_ble_eq_true rfl⟩) hS (fun G_166 H locs hpo hW hS => ?_)
                    have hX_169 : Q_lay y_162 G_153 G_166 := hpo
                    obtain ⟨hB_G_166, hq_167, hp_168, -⟩ := hpo
                    have hF := hF.call9 hq_167 rfl rfl
                    have b_170 : 0 ≤ (G_166.1 66 66).toInt ∧ (G_166.1 66 66).toInt ≤ 400 := bd_66_66 hB_G_166
                    have hf_171 : FWp (G_41.1 99) y_162.toInt y_98.toInt (r_65.toInt - (G_166.1 66 66).toInt + 1) := ⟨r_146.toInt, by omega, (ndv_eq3 rfl (by first | (clear hP9 hW9 b_2 b_4 f_11 c_12 g_23 b_29 b_39 hrow98 hn_61 f_58 g_73 g_74 hp_78 b_80 hn_93 htr hn_108; omega) | omega) rfl rfl).trans (hm_158.symm.trans (by first | (clear hP9 hW9 b_2 b_4 f_11 c_12 g_23 b_29 b_39 hrow98 hn_61 f_58 g_73 g_74 hp_78 b_80 hn_93 htr hn_108; omega) | omega))⟩
                    refine lv_goto (tgt := 136) hx hb dX12_fewest_240 rfl ?_
                    exact ih_84 (r_65.toInt - (G_166.1 66 66).toInt : Int).toNat ((by first | (clear hP9 hW9 b_2 b_4 f_11 c_12 g_23 b_29 b_39 hrow98 f_58 g_73 g_74 hp_78 b_80 htr; omega) | omega)) _ _ _ ⟨G_166, y_98, y_162, (Int.toNat_of_nonneg ((by first | exact ok_1215 f_70.1 c_95 g_163 hp_168 b_170.2 | omega))), ⟨(by first | exact ok_1213 f_89.2 ty_98 | omega), (by first | exact ok_1214 f_89.1 c_97 ty_98 | omega)⟩, ⟨(by first | exact ok_105 f_90.1 f_105.1 ty_162 | omega), (by first | (clear hP9 hW9 b_2 b_4 f_11 c_12 g_23 b_29 b_39 hrow98 hn_61 f_58 g_73 g_74 hp_78 b_80 hn_93 htr hn_108; omega) | omega)⟩, ((by first | exact ⟨(by first | exact ok_1216 f_91.1 g_163 hp_168 b_170.1 | omega), ⟨(by first | exact ok_1219 b_37.1 f_91.2.1 f_105.1 c_116 ty_162 g_163 hp_168 | omega), (by first | exact ok_1217 f_70.1 c_95 g_163 hp_168 b_170.2 | omega)⟩⟩ | omega)), (by assumption), (hX_88.st (St_n_fewest_2_mk ⟨x_86, x_87, G_82, y_98, y_162, G_166, rfl, rfl, f_89, f_90, f_91, f_92, hB_G_82, ⟨c_95, ⟨y_96, ty_96, (Or.inr ⟨c_97, ⟨y_98, ty_98, ⟨x_103, G_99, hX_104, f_105, f_107, hB_G_99, hq_100, ⟨y_109, ty_109, ⟨y_110, ey_110, ⟨c_113, ⟨y_115, ty_115, (Or.inr ⟨c_116, ⟨r_146, G_147, hX_150, ⟨r_152, G_153, hX_156, ⟨c_161, ⟨y_162, ty_162, ⟨G_166, hX_169, ⟨rfl, rfl, rfl⟩⟩⟩⟩⟩⟩⟩)⟩⟩⟩⟩⟩⟩⟩)⟩⟩⟩)), hW, hB_G_166, hF, (Fr.call9 (rs := [100]) (fs := [(66, 66)]) (Fr.call9 (rs := [100]) (fs := [(66, 66)]) (Fr.call9 (rs := [100]) (fs := [(66, 66)]) (Fr.call9 (rs := [100]) (fs := [(66, 66)]) (Fr.call9 (rs := [100]) (fs := [(66, 66)]) Fr.rf hq_83 rfl rfl) hq_100 rfl rfl) hq_148 rfl rfl) hq_154 rfl rfl) hq_167 rfl rfl), hS, lv_sub hl [2, 0, 4, 5] rfl⟩
                  · have c_161 : r_152.toInt ≠ y_96.toInt := xI_ne rfl rfl c_161
                    obtain ⟨y_172, ey_172⟩ : ∃ q, q = x_103 + 1 := ⟨_, rfl⟩
                    have ty_172 : y_172.toInt = x_103.toInt + 1 := xI_add rfl rfl ey_172 ((by first | exact ok_21 f_105.1 | omega)) ((by first | exact ok_1212 f_105.2 | omega))
                    refine lv_iinc (v := y_172) (lv' := [(10, .int y_172), (8, .int y_98), (9, .int y_96), (7, .int x_87), (6, .int r_65), (0, .ref (a 66))]) hx hb dX12_fewest_221 hl (k := 0) rfl (by rw [ey_172]; rfl) (lt_b rfl) rfl (fun ls hl => ?_)
                    refine lv_goto (tgt := 175) hx hb dX12_fewest_224 rfl ?_
                    exact ih_101 (b9 - y_172.toInt : Int).toNat ((by first | (clear hP9 hW9 b_2 b_4 f_11 c_12 f_20 c_21 g_23 b_29 b_39 hrow98 f_58 g_73 g_74 hp_78 b_80 htr; omega) | omega)) _ _ _ ⟨G_153, y_172, (Int.toNat_of_nonneg ((by first | (clear hP9 hW9 b_2 b_4 f_11 c_12 f_20 c_21 g_23 b_29 b_39 hrow98 hn_61 f_58 g_73 g_74 hp_78 b_80 hn_93 htr hn_108; omega) | omega))), ⟨(by first | exact ok_23 f_105.1 ty_172 | omega), (by first | (clear hP9 hW9 b_2 b_4 f_11 c_12 f_20 c_21 g_23 b_29 b_39 hrow98 hn_61 f_58 g_73 g_74 hp_78 b_80 hn_93 htr hn_108; omega) | omega)⟩, ((by first | (clear hP9 hW9 b_2 b_4 f_11 c_12 f_20 c_21 g_23 b_29 b_39 hrow98 hn_61 f_58 g_73 g_74 hp_78 b_80 hn_93 htr hn_108; omega) | omega)), ((by first | exact ok_1093 f_107 ty_172 | omega)), (hX_104.st (St_n_fewest_3_mk ⟨x_103, G_99, y_172, G_153, rfl, rfl, f_105, f_107, hB_G_99, ⟨y_109, ty_109, ⟨y_110, ey_110, (Or.inr ⟨c_113, ⟨y_115, ty_115, (Or.inr ⟨c_116, ⟨r_146, G_147, hX_150, ⟨r_152, G_153, hX_156, ⟨c_161, ⟨y_172, ty_172, ⟨rfl, rfl⟩⟩⟩⟩⟩⟩)⟩⟩)⟩⟩⟩)), hW, hB_G_153, hF, (Fr.call9 (rs := []) (fs := []) (Fr.call9 (rs := []) (fs := []) (Fr.call9 (rs := []) (fs := []) Fr.rf hq_100 rfl rfl) hq_148 rfl rfl) hq_154 rfl rfl), hS, lv_sub hl [0, 1, 2, 3, 4, 5] rfl⟩
            · have c_97 : x_86.toInt = 0 := xI_eq rfl rfl c_97
              refine ic_0 hx hb dX12_fewest_159 ?_
              refine lv_goto (tgt := 167) hx hb dX12_fewest_160 rfl ?_
              refine lv_istore (lv' := [(8, .int 0), (9, .int y_96), (7, .int x_87), (6, .int r_65), (0, .ref (a 66))]) hx hb dX12_fewest_167 hl (lt_b rfl) rfl (fun ls hl => ?_)
              refine lv_aload_n hx hb dX12_fewest_169 rfl (lv_at hl 4 rfl) ?_
              refine S_getI (v := (G_25.1 66 61)) (C := RX12) (T := TX12) (N := 89) hx hb hg iX12 hown hK hW kd_66 rfl 61 (lt_b rfl) (hg (Cond.fieldLink RX12 475 "SlabWalkModel" "least" "I") m1375) (fun _ h9 => h9) rfl ((hq_83.i9 66 61 rfl rfl).trans ((hq_77.i9 66 61 rfl rfl).trans ((hq_67.i9 66 61 rfl rfl).trans ((hq_50.i9 66 61 rfl rfl).trans ((hq_42.i9 66 61 rfl rfl).trans (rfl)))))) dX12_fewest_170 ?_
              obtain ⟨l9, hl9, he9⟩ := (show FWp (G_41.1 99) x_87.toInt x_86.toInt (r_65.toInt - (G_82.1 66 66).toInt + 1) by assumption)
              obtain ⟨b9, hb1, hb2, hb3, hb4⟩ := (PRG_ex hp_43 (x := x_87.toInt) (l := l9) (i := x_86.toInt) (by first | (clear hP9 hW9 b_2 g_3 b_4 g_5 f_11 hp_9 c_12 f_20 c_21 g_23 d_3 d_4 d_5 d_6 d_7 d_8 b_29 u_31 u_32 u_33 u_34 b_35 b_36 b_37 b_38 b_39 g_45 g_46 g_47 g_48 hrow98 hn_61 f_58 c_62 g_73 g_74 hp_78 b_80 hn_93; omega) | omega) (by first | (clear hP9 hW9 b_2 g_3 b_4 g_5 f_11 hp_9 c_12 f_20 c_21 g_23 d_3 d_4 d_5 d_6 d_7 d_8 b_29 u_31 u_32 u_33 u_34 b_35 b_36 b_37 b_38 b_39 g_45 g_46 g_47 g_48 hrow98 hn_61 f_58 c_62 g_73 g_74 hp_78 b_80 hn_93; omega) | omega) hl9 (by first | (clear hP9 hW9 b_2 g_3 b_4 g_5 f_11 hp_9 c_12 f_20 c_21 g_23 d_3 d_4 d_5 d_6 d_7 d_8 b_29 u_31 u_32 u_33 u_34 b_35 b_36 b_37 b_38 b_39 g_45 g_46 g_47 g_48 hrow98 hn_61 f_58 c_62 g_73 g_74 hp_78 b_80 hn_93; omega) | omega) (by first | (clear hP9 hW9 b_2 g_3 b_4 g_5 f_11 hp_9 c_12 f_20 c_21 g_23 d_3 d_4 d_5 d_6 d_7 d_8 b_29 u_31 u_32 u_33 u_34 b_35 b_36 b_37 b_38 b_39 g_45 g_46 g_47 g_48 hrow98 hn_61 f_58 c_62 g_73 g_74 hp_78 b_80 hn_93; omega) | omega)).2 (by first | (clear hP9 hW9 b_2 g_3 b_4 g_5 f_11 hp_9 c_12 f_20 c_21 g_23 d_3 d_4 d_5 d_6 d_7 d_8 b_29 u_31 u_32 u_33 u_34 b_35 b_36 b_37 b_38 b_39 g_45 g_46 g_47 g_48 hrow98 hn_61 f_58 c_62 g_73 g_74 hp_78 b_80 hn_93; omega) | omega) (by first | (clear hP9 hW9 b_2 g_3 b_4 g_5 f_11 hp_9 c_12 f_20 c_21 g_23 d_3 d_4 d_5 d_6 d_7 d_8 b_29 u_31 u_32 u_33 u_34 b_35 b_36 b_37 b_38 b_39 g_45 g_46 g_47 g_48 hrow98 hn_61 f_58 c_62 g_73 g_74 hp_78 b_80 hn_93; omega) | omega)
              have hb5 := lw400 hB_G_41 (by omega) _ (by omega) hb3
              rw [hrow98] at hb3
              have hfl := flI_v x_86.toInt
              have htr := trI_v b9 (G_41.1 66 62).toInt
              have d_11 := htr.1
              have d_12 := htr.2
              have hlz : (G_25.1 66 61).toInt = (G_41.1 66 61).toInt := by omega
              refine lv_istore (lv' := [(10, .int (G_25.1 66 61)), (8, .int 0), (9, .int y_96), (7, .int x_87), (6, .int r_65), (0, .ref (a 66))]) hx hb dX12_fewest_173 hl (lt_b rfl) rfl (fun ls hl => ?_)
              refine loop_N (Inv := fun n H locs ls => ∃ (G_173 : GS) (x_177 : Int32), (n : Int) = b9 - x_177.toInt ∧ (0 ≤ x_177.toInt ∧ x_177.toInt ≤ 99) ∧ (x_177.toInt ≤ b9) ∧ ((G_41.1 66 61).toInt ≤ x_177.toInt) ∧ Rc (St_n_fewest_4 x_87 y_96 G_25 G_41) ((G_25.1 66 61), G_82) (x_177, G_173) ∧ Wd D k A a G_173 H ∧ Bd G_173 ∧ Fr [100, 76, 97, 98, 99] [(66, 59), (66, 60), (66, 61), (66, 62), (66, 63), (66, 66)] G G_173 ∧ Fr [] [] G_82 G_173 ∧ va_S A s.heap H locs ∧ lv_has ls 11 [(10, .int x_177), (8, .int 0), (9, .int y_96), (7, .int x_87), (6, .int r_65), (0, .ref (a 66))]) (fun n_176 H locs ls ih_175 hI => ?_) (b9 - (G_25.1 66 61).toInt : Int).toNat ⟨G_82, (G_25.1 66 61), (Int.toNat_of_nonneg ((by first | (clear hP9 hW9 f_20 d_1 d_2 c_21 g_23 hrow98 hn_61 f_59 f_60 c_63 f_70 hp_68 hm_71 u_72 g_73 g_74 hp_78 b_80 hn_93 f_89 f_90 f_91 b_94 c_95 ty_96 c_97 htr; omega) | omega))), ⟨(by first | exact b_36.1 | omega), (by first | exact ok_768 b_36.2 | omega)⟩, ((by first | (clear hP9 hW9 f_20 d_1 d_2 c_21 g_23 hrow98 hn_61 f_59 f_60 c_63 f_70 hp_68 hm_71 u_72 g_73 g_74 hp_78 b_80 hn_93 f_89 f_90 f_91 b_94 c_95 ty_96 c_97 htr; omega) | omega)), ((by first | exact ok_1210 g_45 | omega)), Rc.rf, hW, hB_G_82, hF, Fr.rf, hS, lv_sub hl [0, 1, 2, 3, 4, 5] rfl⟩
              obtain ⟨G_173, x_177, hn_182, f_179, f_180, f_181, hX_178, hW, hB_G_173, hF, hq_174, hS, hl⟩ := hI
              refine lv_aload_n hx hb dX12_fewest_175 rfl (lv_at hl 5 rfl) ?_
              refine S_getR (n := 98) (C := RX12) (T := TX12) (N := 89) hx hb hg iX12 hown hK hW kd_66 rfl 58 (lt_b rfl) (hg (Cond.fieldLink RX12 115 "SlabWalkModel" "lawful" "[Z") m1372) (fun _ h9 => h9) rfl dX12_fewest_176 ?_
              refine lv_iload hx hb dX12_fewest_179 (lv_at hl 3 rfl) ?_
              refine lv_iload hx hb dX12_fewest_181 (lv_at hl 0 rfl) ?_
              refine lv_iadd hx hb dX12_fewest_183 ?_
              refine lv_topi (fun y_183 ey_183 => ?_)
              have ty_183 : y_183.toInt = x_87.toInt + x_177.toInt := xI_add rfl rfl ey_183 ((by first | exact ok_15 f_90.1 f_179.1 | omega)) ((by first | exact ok_309 f_90.2 f_179.2 | omega))
              refine S_zald hx hb hK hW kd_98 (vin ((by first | exact ok_105 f_90.1 f_179.1 ty_183 | omega)) ((by first | exact ok_1211 f_90.2 f_179.2 ty_183 | omega))) dX12_fewest_184 (fun y_184 ey_184 => ?_)
              have ty_184 := hB_G_173.law ey_184
              have u_185 : y_184.toInt = (G_25.1 98 y_183.toNatClampNeg).toInt := congrArg Int32.toInt (ey_184.trans (((hq_174.ri9 98 rfl y_183.toNatClampNeg).trans ((hq_83.ri9 98 rfl y_183.toNatClampNeg).trans ((hq_77.ri9 98 rfl y_183.toNatClampNeg).trans ((hq_67.ri9 98 rfl y_183.toNatClampNeg).trans ((hq_50.ri9 98 rfl y_183.toNatClampNeg).trans (hq_42.ri9 98 rfl y_183.toNatClampNeg))))))))
              have u_186 : x_177.toInt = b9 → y_184.toInt = 1 := fun q => (lw_iff (L := G_25.1 98) (x := y_183) (y := y_184) (X := x_87.toInt + b9) (by first | (clear hP9 hW9 b_2 b_4 f_11 c_12 f_20 c_21 g_23 b_29 b_39 hrow98 hn_61 f_58 g_73 g_74 hp_78 b_80 hn_93 f_89 c_97 htr hn_182; omega) | omega) (by first | (clear hP9 hW9 b_2 b_4 f_11 c_12 f_20 c_21 g_23 b_29 b_39 hrow98 hn_61 f_58 g_73 g_74 hp_78 b_80 hn_93 f_89 c_97 htr hn_182; omega) | omega)).mp hb3
              refine lv_if_eq (tgt := 221) hx hb dX12_fewest_185 rfl (fun c_187 => ?_) (fun c_187 => ?_)
              · have c_187 : y_184.toInt = 0 := xI_eq rfl rfl c_187
                obtain ⟨y_188, ey_188⟩ : ∃ q, q = x_177 + 1 := ⟨_, rfl⟩
                have ty_188 : y_188.toInt = x_177.toInt + 1 := xI_add rfl rfl ey_188 ((by first | exact ok_21 f_179.1 | omega)) ((by first | exact ok_1212 f_179.2 | omega))
                refine lv_iinc (v := y_188) (lv' := [(10, .int y_188), (8, .int 0), (9, .int y_96), (7, .int x_87), (6, .int r_65), (0, .ref (a 66))]) hx hb dX12_fewest_221 hl (k := 0) rfl (by rw [ey_188]; rfl) (lt_b rfl) rfl (fun ls hl => ?_)
                refine lv_goto (tgt := 175) hx hb dX12_fewest_224 rfl ?_
                exact ih_175 (b9 - y_188.toInt : Int).toNat ((by first | (clear hP9 hW9 b_2 b_4 f_11 c_12 f_20 c_21 g_23 b_29 b_39 hrow98 f_58 g_73 g_74 hp_78 b_80 f_89 c_97 htr; omega) | omega)) _ _ _ ⟨G_173, y_188, (Int.toNat_of_nonneg ((by first | (clear hP9 hW9 b_2 b_4 f_11 c_12 f_20 c_21 g_23 b_29 b_39 hrow98 hn_61 f_58 g_73 g_74 hp_78 b_80 hn_93 f_89 c_97 htr hn_182; omega) | omega))), ⟨(by first | exact ok_23 f_179.1 ty_188 | omega), (by first | (clear hP9 hW9 b_2 b_4 f_11 c_12 f_20 c_21 g_23 b_29 b_39 hrow98 hn_61 f_58 g_73 g_74 hp_78 b_80 hn_93 f_89 c_97 htr hn_182; omega) | omega)⟩, ((by first | (clear hP9 hW9 b_2 b_4 f_11 c_12 f_20 c_21 g_23 b_29 b_39 hrow98 hn_61 f_58 g_73 g_74 hp_78 b_80 hn_93 f_89 c_97 htr hn_182; omega) | omega)), ((by first | exact ok_1093 f_181 ty_188 | omega)), (hX_178.st (St_n_fewest_4_mk ⟨x_177, G_173, y_188, G_173, rfl, rfl, f_179, f_181, hB_G_173, ⟨y_183, ty_183, ⟨y_184, ey_184, (Or.inl ⟨c_187, ⟨y_188, ty_188, ⟨rfl, rfl⟩⟩⟩)⟩⟩⟩)), hW, hB_G_173, hF, (Fr.call9 (rs := []) (fs := []) Fr.rf hq_174 rfl rfl), hS, lv_sub hl [0, 1, 2, 3, 4, 5] rfl⟩
              · have c_187 : y_184.toInt ≠ 0 := xI_ne rfl rfl c_187
                refine lv_aload_n hx hb dX12_fewest_188 rfl (lv_at hl 5 rfl) ?_
                refine lv_iload hx hb dX12_fewest_189 (lv_at hl 3 rfl) ?_
                refine lv_iload hx hb dX12_fewest_191 (lv_at hl 0 rfl) ?_
                refine lv_iadd hx hb dX12_fewest_193 ?_
                refine lv_topi (fun y_189 ey_189 => ?_)
                have ty_189 : y_189.toInt = x_87.toInt + x_177.toInt := xI_add rfl rfl ey_189 ((by first | exact ok_15 f_90.1 f_179.1 | omega)) ((by first | exact ok_309 f_90.2 f_179.2 | omega))
                refine lv_iload hx hb dX12_fewest_194 (lv_at hl 0 rfl) ?_
                refine lv_aload_n hx hb dX12_fewest_196 rfl (lv_at hl 5 rfl) ?_
                refine S_getI (v := (G_25.1 66 62)) (C := RX12) (T := TX12) (N := 89) hx hb hg iX12 hown hK hW kd_66 rfl 62 (lt_b rfl) (hg (Cond.fieldLink RX12 478 "SlabWalkModel" "most" "I") m1376) (fun _ h9 => h9) rfl ((hq_174.i9 66 62 rfl rfl).trans ((hq_83.i9 66 62 rfl rfl).trans ((hq_77.i9 66 62 rfl rfl).trans ((hq_67.i9 66 62 rfl rfl).trans ((hq_50.i9 66 62 rfl rfl).trans ((hq_42.i9 66 62 rfl rfl).trans (rfl))))))) dX12_fewest_197 ?_
                refine lv_icmp_le (tgt := 207) hx hb dX12_fewest_200 rfl (fun c_190 => ?_) (fun c_190 => ?_)
                · have c_190 : x_177.toInt ≤ (G_25.1 66 62).toInt := xI_le rfl rfl c_190
                  refine ic_0 hx hb dX12_fewest_207 ?_
                  have qc_191 : (0 : Int32).toInt = 0 := rfl
                  refine S_calli (va_runS (As := [.int 0]) (rest := [.int y_189, .ref (a 66)]) ⟨hx, hb, hml, hown, hts⟩ (n_truth l D k A a z G_173 0 ⟨by decide, by decide⟩) (va_cwS 1 hts (gd_S hgd m1788 m1789 m131 m1790) rfl rfl rfl hd_X12_truth.2 ⟨Nat.le_of_ble_eq_true rfl, Nat.le_of_ble_eq_true rfl⟩) (pre_S hW hB_G_173 hK hZ hS) rfl rfl hl.1 rfl (lv_room (Nat.le_of_ble_eq_true rfl)) dX12_fewest_208 ⟨Nat.le_of_ble_eq_true rfl, Nat.le_of_ble_eq_true rfl⟩) hS (fun r_192 G_193 H locs hpo hW hS => ?_)
                  have hX_196 : Q_truth 0 G_173 r_192 G_193 := hpo
                  obtain ⟨hB_G_193, hq_194, f_197, hp_195, -⟩ := hpo
                  have hF := hF.call9 hq_194 rfl rfl
                  refine lv_iload hx hb dX12_fewest_211 (lv_at hl 1 rfl) ?_
                  have qc_198 : (0 : Int32).toInt = 0 := rfl
                  refine S_calli (va_runV (As := [.int y_189, .int r_192, .int 0]) (rest := []) ⟨hx, hb, hml, hown, hts⟩ (n_needOf l D k A a z G_193 y_189 r_192 0 ⟨(by first | exact ok_105 f_90.1 f_179.1 ty_189 | omega), (by first | (clear hP9 hW9 b_2 b_4 f_11 c_12 f_20 c_21 g_23 b_29 b_39 hrow98 hn_61 f_58 g_73 g_74 hp_78 b_80 hn_93 f_89 c_97 htr hn_182 f_197 hp_195; omega) | omega)⟩ ⟨(by first | exact f_197.1 | omega), (by first | exact f_197.2 | omega)⟩ ⟨by decide, by decide⟩) (cwV 3 hts (gd_V hgd m1859 m1861 m96 m131 m1862) rfl rfl rfl hd_X12_needOf ⟨Nat.le_of_ble_eq_true rfl, Nat.le_of_ble_eq_true rfl⟩) (pre_W hW hB_G_193 hK hZ hS kd_66 rfl) rfl rfl hl.1 rfl (lv_room (Nat.le_of_ble_eq_true rfl)) dX12_fewest_213 ⟨Nat.le_of_ble_eq_true rfl, Nat.le_of_ble_eq_true rfl⟩) hS (fun r_199 G_200 H locs hpo hW hS => ?_)
                  have hX_203 : Q_needOf y_189 r_192 0 G_193 r_199 G_200 := hpo
                  obtain ⟨hB_G_200, hq_201, f_204, hp_202, -⟩ := hpo
                  have hF := hF.call9 hq_201 rfl rfl
                  have hm_205 : r_199.toInt = ndv (G_41.1 99) y_189.toInt r_192.toInt 0 := hp_202.trans (ndv_eq3 (show G_193.1 99 = G_41.1 99 from (funext fun j => ((fun (j : Nat) (_ : True) => ((hq_194.ri9 99 rfl j).trans ((hq_174.ri9 99 rfl j).trans ((hq_83.ri9 99 rfl j).trans ((hq_77.ri9 99 rfl j).trans ((hq_67.ri9 99 rfl j).trans (hq_50.ri9 99 rfl j)))))))) j trivial)) rfl rfl rfl)
                  have u_206 := PRG_1 hp_43 (x := y_189.toInt) (l := r_192.toInt) (i := 0) (by first | (clear hP9 hW9 b_2 b_4 f_11 c_12 f_20 c_21 g_23 b_29 b_39 hrow98 hn_61 f_58 g_73 g_74 hp_78 b_80 hn_93 f_89 c_97 htr hn_182; omega) | omega) (by first | (clear hP9 hW9 b_2 b_4 f_11 c_12 f_20 c_21 g_23 b_29 b_39 hrow98 hn_61 f_58 g_73 g_74 hp_78 b_80 hn_93 f_89 c_97 htr hn_182; omega) | omega) (by first | (clear hP9 hW9 b_2 b_4 f_11 c_12 f_20 c_21 g_23 b_29 b_39 hrow98 hn_61 f_58 g_73 g_74 hp_78 b_80 hn_93 f_89 c_97 htr hn_182; omega) | omega) (by first | (clear hP9 hW9 b_2 b_4 f_11 c_12 f_20 c_21 g_23 b_29 b_39 hrow98 hn_61 f_58 g_73 g_74 hp_78 b_80 hn_93 f_89 c_97 htr hn_182; omega) | omega) (by first | (clear hP9 hW9 b_2 b_4 f_11 c_12 f_20 c_21 g_23 b_29 b_39 hrow98 hn_61 f_58 g_73 g_74 hp_78 b_80 hn_93 f_89 c_97 htr hn_182; omega) | omega)
                  have u_207 : x_177.toInt = b9 → r_199.toInt = y_96.toInt := fun q => (hm_205.trans ((ndv_eq3 rfl (by first | (clear hP9 hW9 b_2 b_4 f_11 c_12 g_23 b_29 b_39 hrow98 hn_61 f_58 g_73 g_74 hp_78 b_80 hn_93 f_89 c_97 htr hn_182; omega) | omega) (by first | (clear hP9 hW9 b_2 b_4 f_11 c_12 g_23 b_29 b_39 hrow98 hn_61 f_58 g_73 g_74 hp_78 b_80 hn_93 f_89 c_97 htr hn_182; omega) | omega) (by first | (clear hP9 hW9 b_2 b_4 f_11 c_12 g_23 b_29 b_39 hrow98 hn_61 f_58 g_73 g_74 hp_78 b_80 hn_93 f_89 c_97 htr hn_182; omega) | omega)).trans hb4)).trans (by first | (clear hP9 hW9 b_2 b_4 f_11 c_12 g_23 b_29 b_39 hrow98 hn_61 f_58 g_73 g_74 hp_78 b_80 hn_93 f_89 c_97 htr hn_182; omega) | omega)
                  refine lv_iload hx hb dX12_fewest_216 (lv_at hl 2 rfl) ?_
                  refine lv_icmp_eq (tgt := 227) hx hb dX12_fewest_218 rfl (fun c_208 => ?_) (fun c_208 => ?_)
                  · have c_208 : r_199.toInt = y_96.toInt := xI_eq rfl rfl c_208
                    refine lv_iload hx hb dX12_fewest_227 (lv_at hl 3 rfl) ?_
                    refine lv_iload hx hb dX12_fewest_229 (lv_at hl 0 rfl) ?_
                    refine lv_iadd hx hb dX12_fewest_231 ?_
                    refine lv_topi (fun y_209 ey_209 => ?_)
                    have ty_209 : y_209.toInt = x_87.toInt + x_177.toInt := xI_add rfl rfl ey_209 ((by first | exact ok_15 f_90.1 f_179.1 | omega)) ((by first | exact ok_309 f_90.2 f_179.2 | omega))
                    refine lv_istore (lv' := [(7, .int y_209), (10, .int x_177), (8, .int 0), (9, .int y_96), (6, .int r_65), (0, .ref (a 66))]) hx hb dX12_fewest_232 hl (lt_b rfl) rfl (fun ls hl => ?_)
                    refine lv_aload_n hx hb dX12_fewest_234 rfl (lv_at hl 5 rfl) ?_
                    refine lv_iload hx hb dX12_fewest_235 (lv_at hl 0 rfl) ?_
                    have g_210 : (G_200.1 66 66).toInt = (G_82.1 66 66).toInt := (congrArg Int32.toInt (show G_200.1 66 66 = (G_82.1 66 66) from ((hq_201.i9 66 66 rfl rfl).trans ((hq_194.i9 66 66 rfl rfl).trans ((hq_174.i9 66 66 rfl rfl).trans (rfl))))))
                    have g_211 : (G_200.1 66 66).toInt = (G_82.1 66 66).toInt := (congrArg Int32.toInt (show G_200.1 66 66 = (G_82.1 66 66) from ((hq_201.i9 66 66 rfl rfl).trans ((hq_194.i9 66 66 rfl rfl).trans ((hq_174.i9 66 66 rfl rfl).trans (rfl))))))
                    refine S_callv (va_runV (As := [.int y_209]) (rest := []) ⟨hx, hb, hml, hown, hts⟩ (n_lay l D k A a z G_200 y_209 ((by first | (clear hP9 hW9 b_2 b_4 f_11 c_12 g_23 b_29 b_39 hrow98 hn_61 f_58 g_73 g_74 hp_78 b_80 hn_93 f_89 c_97 htr hn_182; omega) | omega))) (cwV 1 hts (gd_V hgd m1866 m1868 m97 m131 m1869) rfl rfl rfl hd_X12_lay ⟨Nat.le_of_ble_eq_true rfl, Nat.le_of_ble_eq_true rfl⟩) (pre_W hW hB_G_200 hK hZ hS kd_66 rfl) rfl rfl hl.1 rfl (lv_room (Nat.le_of_ble_eq_true rfl)) dX12_fewest_237 ⟨Nat.le_of_ble_eq_true rfl, Nat.le_of_ble_eq_true rfl⟩) hS (fun G_213 H locs hpo hW hS => ?_)
                    have hX_216 : Q_lay y_209 G_200 G_213 := hpo
                    obtain ⟨hB_G_213, hq_214, hp_215, -⟩ := hpo
                    have hF := hF.call9 hq_214 rfl rfl
                    have b_217 : 0 ≤ (G_213.1 66 66).toInt ∧ (G_213.1 66 66).toInt ≤ 400 := bd_66_66 hB_G_213
                    have hf_218 : FWp (G_41.1 99) y_209.toInt 0 (r_65.toInt - (G_213.1 66 66).toInt + 1) := ⟨r_192.toInt, by omega, (ndv_eq3 rfl (by first | (clear hP9 hW9 b_2 b_4 f_11 c_12 g_23 b_29 b_39 hrow98 hn_61 f_58 g_73 g_74 hp_78 b_80 hn_93 f_89 c_97 htr hn_182; omega) | omega) rfl rfl).trans (hm_205.symm.trans (by first | (clear hP9 hW9 b_2 b_4 f_11 c_12 g_23 b_29 b_39 hrow98 hn_61 f_58 g_73 g_74 hp_78 b_80 hn_93 f_89 c_97 htr hn_182; omega) | omega))⟩
                    refine lv_goto (tgt := 136) hx hb dX12_fewest_240 rfl ?_
                    have qc_219 : (0 : Int32).toInt = 0 := rfl
                    exact ih_84 (r_65.toInt - (G_213.1 66 66).toInt : Int).toNat ((by first | (clear hP9 hW9 b_2 b_4 f_11 c_12 g_23 b_29 b_39 hrow98 f_58 g_73 g_74 hp_78 b_80 f_89 c_97 htr; omega) | omega)) _ _ _ ⟨G_213, 0, y_209, (Int.toNat_of_nonneg ((by first | exact ok_1215 f_70.1 c_95 g_210 hp_215 b_217.2 | omega))), ⟨(by decide), (by decide)⟩, ⟨(by first | exact ok_105 f_90.1 f_179.1 ty_209 | omega), (by first | (clear hP9 hW9 b_2 b_4 f_11 c_12 g_23 b_29 b_39 hrow98 hn_61 f_58 g_73 g_74 hp_78 b_80 hn_93 f_89 c_97 htr hn_182; omega) | omega)⟩, ((by first | exact ⟨(by first | exact ok_1216 f_91.1 g_210 hp_215 b_217.1 | omega), ⟨((by first | (clear hP9 hW9 b_2 b_4 f_11 c_12 g_23 b_29 b_39 hrow98 hn_61 f_58 g_73 g_74 hp_78 b_80 hn_93 f_89 c_97 htr hn_182; omega) | omega)), (by first | exact ok_1217 f_70.1 c_95 g_210 hp_215 b_217.2 | omega)⟩⟩ | omega)), (by assumption), (hX_88.st (St_n_fewest_2_mk ⟨x_86, x_87, G_82, 0, y_209, G_213, rfl, rfl, f_89, f_90, f_91, f_92, hB_G_82, ⟨c_95, ⟨y_96, ty_96, (Or.inl ⟨c_97, ⟨x_177, G_173, hX_178, f_179, f_181, hB_G_173, hq_174, ⟨y_183, ty_183, ⟨y_184, ey_184, ⟨c_187, ⟨y_189, ty_189, (Or.inl ⟨c_190, ⟨r_192, G_193, hX_196, ⟨r_199, G_200, hX_203, ⟨c_208, ⟨y_209, ty_209, ⟨G_213, hX_216, ⟨rfl, rfl, rfl⟩⟩⟩⟩⟩⟩⟩)⟩⟩⟩⟩⟩⟩)⟩⟩⟩)), hW, hB_G_213, hF, (Fr.call9 (rs := [100]) (fs := [(66, 66)]) (Fr.call9 (rs := [100]) (fs := [(66, 66)]) (Fr.call9 (rs := [100]) (fs := [(66, 66)]) (Fr.call9 (rs := [100]) (fs := [(66, 66)]) (Fr.call9 (rs := [100]) (fs := [(66, 66)]) Fr.rf hq_83 rfl rfl) hq_174 rfl rfl) hq_194 rfl rfl) hq_201 rfl rfl) hq_214 rfl rfl), hS, lv_sub hl [2, 0, 4, 5] rfl⟩
                  · have c_208 : r_199.toInt ≠ y_96.toInt := xI_ne rfl rfl c_208
                    obtain ⟨y_220, ey_220⟩ : ∃ q, q = x_177 + 1 := ⟨_, rfl⟩
                    have ty_220 : y_220.toInt = x_177.toInt + 1 := xI_add rfl rfl ey_220 ((by first | exact ok_21 f_179.1 | omega)) ((by first | exact ok_1212 f_179.2 | omega))
                    refine lv_iinc (v := y_220) (lv' := [(10, .int y_220), (8, .int 0), (9, .int y_96), (7, .int x_87), (6, .int r_65), (0, .ref (a 66))]) hx hb dX12_fewest_221 hl (k := 0) rfl (by rw [ey_220]; rfl) (lt_b rfl) rfl (fun ls hl => ?_)
                    refine lv_goto (tgt := 175) hx hb dX12_fewest_224 rfl ?_
                    exact ih_175 (b9 - y_220.toInt : Int).toNat ((by first | (clear hP9 hW9 b_2 b_4 f_11 c_12 f_20 c_21 g_23 b_29 b_39 hrow98 f_58 g_73 g_74 hp_78 b_80 f_89 c_97 htr; omega) | omega)) _ _ _ ⟨G_200, y_220, (Int.toNat_of_nonneg ((by first | (clear hP9 hW9 b_2 b_4 f_11 c_12 f_20 c_21 g_23 b_29 b_39 hrow98 hn_61 f_58 g_73 g_74 hp_78 b_80 hn_93 f_89 c_97 htr hn_182; omega) | omega))), ⟨(by first | exact ok_23 f_179.1 ty_220 | omega), (by first | exact ok_1218 b_37.2 f_179.2 c_190 ty_220 | omega)⟩, ((by first | (clear hP9 hW9 b_2 b_4 f_11 c_12 f_20 c_21 g_23 b_29 b_39 hrow98 hn_61 f_58 g_73 g_74 hp_78 b_80 hn_93 f_89 c_97 htr hn_182; omega) | omega)), ((by first | exact ok_1093 f_181 ty_220 | omega)), (hX_178.st (St_n_fewest_4_mk ⟨x_177, G_173, y_220, G_200, rfl, rfl, f_179, f_181, hB_G_173, ⟨y_183, ty_183, ⟨y_184, ey_184, (Or.inr ⟨c_187, ⟨y_189, ty_189, (Or.inl ⟨c_190, ⟨r_192, G_193, hX_196, ⟨r_199, G_200, hX_203, ⟨c_208, ⟨y_220, ty_220, ⟨rfl, rfl⟩⟩⟩⟩⟩⟩)⟩⟩)⟩⟩⟩)), hW, hB_G_200, hF, (Fr.call9 (rs := []) (fs := []) (Fr.call9 (rs := []) (fs := []) (Fr.call9 (rs := []) (fs := []) Fr.rf hq_174 rfl rfl) hq_194 rfl rfl) hq_201 rfl rfl), hS, lv_sub hl [0, 1, 2, 3, 4, 5] rfl⟩
                · have c_190 : (G_25.1 66 62).toInt < x_177.toInt := xI_nle rfl rfl c_190
                  refine ic_1 hx hb dX12_fewest_203 ?_
                  refine lv_goto (tgt := 208) hx hb dX12_fewest_204 rfl ?_
                  have qc_221 : (1 : Int32).toInt = 1 := rfl
                  refine S_calli (va_runS (As := [.int 1]) (rest := [.int y_189, .ref (a 66)]) ⟨hx, hb, hml, hown, hts⟩ (n_truth l D k A a z G_173 1 ⟨by decide, by decide⟩) (va_cwS 1 hts (gd_S hgd m1788 m1789 m131 m1790) rfl rfl rfl hd_X12_truth.2 ⟨Nat.le_of_ble_eq_true rfl, Nat.le_of_ble_eq_true rfl⟩) (pre_S hW hB_G_173 hK hZ hS) rfl rfl hl.1 rfl (lv_room (Nat.le_of_ble_eq_true rfl)) dX12_fewest_208 ⟨Nat.le_of_ble_eq_true rfl, Nat.le_of_ble_eq_true rfl⟩) hS (fun r_222 G_223 H locs hpo hW hS => ?_)
                  have hX_226 : Q_truth 1 G_173 r_222 G_223 := hpo
                  obtain ⟨hB_G_223, hq_224, f_227, hp_225, -⟩ := hpo
                  have hF := hF.call9 hq_224 rfl rfl
                  refine lv_iload hx hb dX12_fewest_211 (lv_at hl 1 rfl) ?_
                  have qc_228 : (0 : Int32).toInt = 0 := rfl
                  refine S_calli (va_runV (As := [.int y_189, .int r_222, .int 0]) (rest := []) ⟨hx, hb, hml, hown, hts⟩ (n_needOf l D k A a z G_223 y_189 r_222 0 ⟨(by first | exact ok_105 f_90.1 f_179.1 ty_189 | omega), (by first | (clear hP9 hW9 b_2 b_4 f_11 c_12 f_20 c_21 g_23 b_29 b_39 hrow98 hn_61 f_58 g_73 g_74 hp_78 b_80 hn_93 f_89 c_97 htr hn_182 f_227 hp_225; omega) | omega)⟩ ⟨(by first | exact f_227.1 | omega), (by first | exact f_227.2 | omega)⟩ ⟨by decide, by decide⟩) (cwV 3 hts (gd_V hgd m1859 m1861 m96 m131 m1862) rfl rfl rfl hd_X12_needOf ⟨Nat.le_of_ble_eq_true rfl, Nat.le_of_ble_eq_true rfl⟩) (pre_W hW hB_G_223 hK hZ hS kd_66 rfl) rfl rfl hl.1 rfl (lv_room (Nat.le_of_ble_eq_true rfl)) dX12_fewest_213 ⟨Nat.le_of_ble_eq_true rfl, Nat.le_of_ble_eq_true rfl⟩) hS (fun r_229 G_230 H locs hpo hW hS => ?_)
                  have hX_233 : Q_needOf y_189 r_222 0 G_223 r_229 G_230 := hpo
                  obtain ⟨hB_G_230, hq_231, f_234, hp_232, -⟩ := hpo
                  have hF := hF.call9 hq_231 rfl rfl
                  have hm_235 : r_229.toInt = ndv (G_41.1 99) y_189.toInt r_222.toInt 0 := hp_232.trans (ndv_eq3 (show G_223.1 99 = G_41.1 99 from (funext fun j => ((fun (j : Nat) (_ : True) => ((hq_224.ri9 99 rfl j).trans ((hq_174.ri9 99 rfl j).trans ((hq_83.ri9 99 rfl j).trans ((hq_77.ri9 99 rfl j).trans ((hq_67.ri9 99 rfl j).trans (hq_50.ri9 99 rfl j)))))))) j trivial)) rfl rfl rfl)
                  have u_236 := PRG_1 hp_43 (x := y_189.toInt) (l := r_222.toInt) (i := 0) (by first | (clear hP9 hW9 b_2 b_4 f_11 c_12 f_20 c_21 g_23 b_29 b_39 hrow98 hn_61 f_58 g_73 g_74 hp_78 b_80 hn_93 f_89 c_97 htr hn_182; omega) | omega) (by first | (clear hP9 hW9 b_2 b_4 f_11 c_12 f_20 c_21 g_23 b_29 b_39 hrow98 hn_61 f_58 g_73 g_74 hp_78 b_80 hn_93 f_89 c_97 htr hn_182; omega) | omega) (by first | (clear hP9 hW9 b_2 b_4 f_11 c_12 f_20 c_21 g_23 b_29 b_39 hrow98 hn_61 f_58 g_73 g_74 hp_78 b_80 hn_93 f_89 c_97 htr hn_182; omega) | omega) (by first | (clear hP9 hW9 b_2 b_4 f_11 c_12 f_20 c_21 g_23 b_29 b_39 hrow98 hn_61 f_58 g_73 g_74 hp_78 b_80 hn_93 f_89 c_97 htr hn_182; omega) | omega) (by first | (clear hP9 hW9 b_2 b_4 f_11 c_12 f_20 c_21 g_23 b_29 b_39 hrow98 hn_61 f_58 g_73 g_74 hp_78 b_80 hn_93 f_89 c_97 htr hn_182; omega) | omega)
                  have u_237 : x_177.toInt = b9 → r_229.toInt = y_96.toInt := fun q => (hm_235.trans ((ndv_eq3 rfl (by first | (clear hP9 hW9 b_2 b_4 f_11 c_12 g_23 b_29 b_39 hrow98 hn_61 f_58 g_73 g_74 hp_78 b_80 hn_93 f_89 c_97 htr hn_182; omega) | omega) (by first | (clear hP9 hW9 b_2 b_4 f_11 c_12 g_23 b_29 b_39 hrow98 hn_61 f_58 g_73 g_74 hp_78 b_80 hn_93 f_89 c_97 htr hn_182; omega) | omega) (by first | (clear hP9 hW9 b_2 b_4 f_11 c_12 g_23 b_29 b_39 hrow98 hn_61 f_58 g_73 g_74 hp_78 b_80 hn_93 f_89 c_97 htr hn_182; omega) | omega)).trans hb4)).trans (by first | (clear hP9 hW9 b_2 b_4 f_11 c_12 g_23 b_29 b_39 hrow98 hn_61 f_58 g_73 g_74 hp_78 b_80 hn_93 f_89 c_97 htr hn_182; omega) | omega)
                  refine lv_iload hx hb dX12_fewest_216 (lv_at hl 2 rfl) ?_
                  refine lv_icmp_eq (tgt := 227) hx hb dX12_fewest_218 rfl (fun c_238 => ?_) (fun c_238 => ?_)
                  · have c_238 : r_229.toInt = y_96.toInt := xI_eq rfl rfl c_238
                    refine lv_iload hx hb dX12_fewest_227 (lv_at hl 3 rfl) ?_
                    refine lv_iload hx hb dX12_fewest_229 (lv_at hl 0 rfl) ?_
                    refine lv_iadd hx hb dX12_fewest_231 ?_
                    refine lv_topi (fun y_239 ey_239 => ?_)
                    have ty_239 : y_239.toInt = x_87.toInt + x_177.toInt := xI_add rfl rfl ey_239 ((by first | exact ok_15 f_90.1 f_179.1 | omega)) ((by first | exact ok_309 f_90.2 f_179.2 | omega))
                    refine lv_istore (lv' := [(7, .int y_239), (10, .int x_177), (8, .int 0), (9, .int y_96), (6, .int r_65), (0, .ref (a 66))]) hx hb dX12_fewest_232 hl (lt_b rfl) rfl (fun ls hl => ?_)
                    refine lv_aload_n hx hb dX12_fewest_234 rfl (lv_at hl 5 rfl) ?_
                    refine lv_iload hx hb dX12_fewest_235 (lv_at hl 0 rfl) ?_
                    have g_240 : (G_230.1 66 66).toInt = (G_82.1 66 66).toInt := (congrArg Int32.toInt (show G_230.1 66 66 = (G_82.1 66 66) from ((hq_231.i9 66 66 rfl rfl).trans ((hq_224.i9 66 66 rfl rfl).trans ((hq_174.i9 66 66 rfl rfl).trans (rfl))))))
                    have g_241 : (G_230.1 66 66).toInt = (G_82.1 66 66).toInt := (congrArg Int32.toInt (show G_230.1 66 66 = (G_82.1 66 66) from ((hq_231.i9 66 66 rfl rfl).trans ((hq_224.i9 66 66 rfl rfl).trans ((hq_174.i9 66 66 rfl rfl).trans (rfl))))))
                    refine S_callv (va_runV (As := [.int y_239]) (rest := []) ⟨hx, hb, hml, hown, hts⟩ (n_lay l D k A a z G_230 y_239 ((by first | (clear hP9 hW9 b_2 b_4 f_11 c_12 g_23 b_29 b_39 hrow98 hn_61 f_58 g_73 g_74 hp_78 b_80 hn_93 f_89 c_97 htr hn_182; omega) | omega))) (cwV 1 hts (gd_V hgd m1866 m1868 m97 m131 m1869) rfl rfl rfl hd_X12_lay ⟨Nat.le_of_ble_eq_true rfl, Nat.le_of_ble_eq_true rfl⟩) (pre_W hW hB_G_230 hK hZ hS kd_66 rfl) rfl rfl hl.1 rfl (lv_room (Nat.le_of_ble_eq_true rfl)) dX12_fewest_237 ⟨Nat.le_of_ble_eq_true rfl, Nat.le_of_ble_eq_true rfl⟩) hS (fun G_243 H locs hpo hW hS => ?_)
                    have hX_246 : Q_lay y_239 G_230 G_243 := hpo
                    obtain ⟨hB_G_243, hq_244, hp_245, -⟩ := hpo
                    have hF := hF.call9 hq_244 rfl rfl
                    have b_247 : 0 ≤ (G_243.1 66 66).toInt ∧ (G_243.1 66 66).toInt ≤ 400 := bd_66_66 hB_G_243
                    have hf_248 : FWp (G_41.1 99) y_239.toInt 0 (r_65.toInt - (G_243.1 66 66).toInt + 1) := ⟨r_222.toInt, by omega, (ndv_eq3 rfl (by first | (clear hP9 hW9 b_2 b_4 f_11 c_12 g_23 b_29 b_39 hrow98 hn_61 f_58 g_73 g_74 hp_78 b_80 hn_93 f_89 c_97 htr hn_182; omega) | omega) rfl rfl).trans (hm_235.symm.trans (by first | (clear hP9 hW9 b_2 b_4 f_11 c_12 g_23 b_29 b_39 hrow98 hn_61 f_58 g_73 g_74 hp_78 b_80 hn_93 f_89 c_97 htr hn_182; omega) | omega))⟩
                    refine lv_goto (tgt := 136) hx hb dX12_fewest_240 rfl ?_
                    have qc_249 : (0 : Int32).toInt = 0 := rfl
                    exact ih_84 (r_65.toInt - (G_243.1 66 66).toInt : Int).toNat ((by first | (clear hP9 hW9 b_2 b_4 f_11 c_12 g_23 b_29 b_39 hrow98 f_58 g_73 g_74 hp_78 b_80 f_89 c_97 htr; omega) | omega)) _ _ _ ⟨G_243, 0, y_239, (Int.toNat_of_nonneg ((by first | exact ok_1215 f_70.1 c_95 g_240 hp_245 b_247.2 | omega))), ⟨(by decide), (by decide)⟩, ⟨(by first | exact ok_105 f_90.1 f_179.1 ty_239 | omega), (by first | (clear hP9 hW9 b_2 b_4 f_11 c_12 g_23 b_29 b_39 hrow98 hn_61 f_58 g_73 g_74 hp_78 b_80 hn_93 f_89 c_97 htr hn_182; omega) | omega)⟩, ((by first | exact ⟨(by first | exact ok_1216 f_91.1 g_240 hp_245 b_247.1 | omega), ⟨(by first | exact ok_1219 b_37.1 f_91.2.1 f_179.1 c_190 ty_239 g_240 hp_245 | omega), (by first | exact ok_1217 f_70.1 c_95 g_240 hp_245 b_247.2 | omega)⟩⟩ | omega)), (by assumption), (hX_88.st (St_n_fewest_2_mk ⟨x_86, x_87, G_82, 0, y_239, G_243, rfl, rfl, f_89, f_90, f_91, f_92, hB_G_82, ⟨c_95, ⟨y_96, ty_96, (Or.inl ⟨c_97, ⟨x_177, G_173, hX_178, f_179, f_181, hB_G_173, hq_174, ⟨y_183, ty_183, ⟨y_184, ey_184, ⟨c_187, ⟨y_189, ty_189, (Or.inr ⟨c_190, ⟨r_222, G_223, hX_226, ⟨r_229, G_230, hX_233, ⟨c_238, ⟨y_239, ty_239, ⟨G_243, hX_246, ⟨rfl, rfl, rfl⟩⟩⟩⟩⟩⟩⟩)⟩⟩⟩⟩⟩⟩)⟩⟩⟩)), hW, hB_G_243, hF, (Fr.call9 (rs := [100]) (fs := [(66, 66)]) (Fr.call9 (rs := [100]) (fs := [(66, 66)]) (Fr.call9 (rs := [100]) (fs := [(66, 66)]) (Fr.call9 (rs := [100]) (fs := [(66, 66)]) (Fr.call9 (rs := [100]) (fs := [(66, 66)]) Fr.rf hq_83 rfl rfl) hq_174 rfl rfl) hq_224 rfl rfl) hq_231 rfl rfl) hq_244 rfl rfl), hS, lv_sub hl [2, 0, 4, 5] rfl⟩
                  · have c_238 : r_229.toInt ≠ y_96.toInt := xI_ne rfl rfl c_238
                    obtain ⟨y_250, ey_250⟩ : ∃ q, q = x_177 + 1 := ⟨_, rfl⟩
                    have ty_250 : y_250.toInt = x_177.toInt + 1 := xI_add rfl rfl ey_250 ((by first | exact ok_21 f_179.1 | omega)) ((by first | exact ok_1212 f_179.2 | omega))
                    refine lv_iinc (v := y_250) (lv' := [(10, .int y_250), (8, .int 0), (9, .int y_96), (7, .int x_87), (6, .int r_65), (0, .ref (a 66))]) hx hb dX12_fewest_221 hl (k := 0) rfl (by rw [ey_250]; rfl) (lt_b rfl) rfl (fun ls hl => ?_)
                    refine lv_goto (tgt := 175) hx hb dX12_fewest_224 rfl ?_
                    exact ih_175 (b9 - y_250.toInt : Int).toNat ((by first | (clear hP9 hW9 b_2 b_4 f_11 c_12 f_20 c_21 g_23 b_29 b_39 hrow98 f_58 g_73 g_74 hp_78 b_80 f_89 c_97 htr; omega) | omega)) _ _ _ ⟨G_230, y_250, (Int.toNat_of_nonneg ((by first | (clear hP9 hW9 b_2 b_4 f_11 c_12 f_20 c_21 g_23 b_29 b_39 hrow98 hn_61 f_58 g_73 g_74 hp_78 b_80 hn_93 f_89 c_97 htr hn_182; omega) | omega))), ⟨(by first | exact ok_23 f_179.1 ty_250 | omega), (by first | (clear hP9 hW9 b_2 b_4 f_11 c_12 f_20 c_21 g_23 b_29 b_39 hrow98 hn_61 f_58 g_73 g_74 hp_78 b_80 hn_93 f_89 c_97 htr hn_182; omega) | omega)⟩, ((by first | (clear hP9 hW9 b_2 b_4 f_11 c_12 f_20 c_21 g_23 b_29 b_39 hrow98 hn_61 f_58 g_73 g_74 hp_78 b_80 hn_93 f_89 c_97 htr hn_182; omega) | omega)), ((by first | exact ok_1093 f_181 ty_250 | omega)), (hX_178.st (St_n_fewest_4_mk ⟨x_177, G_173, y_250, G_230, rfl, rfl, f_179, f_181, hB_G_173, ⟨y_183, ty_183, ⟨y_184, ey_184, (Or.inr ⟨c_187, ⟨y_189, ty_189, (Or.inr ⟨c_190, ⟨r_222, G_223, hX_226, ⟨r_229, G_230, hX_233, ⟨c_238, ⟨y_250, ty_250, ⟨rfl, rfl⟩⟩⟩⟩⟩⟩)⟩⟩)⟩⟩⟩)), hW, hB_G_230, hF, (Fr.call9 (rs := []) (fs := []) (Fr.call9 (rs := []) (fs := []) (Fr.call9 (rs := []) (fs := []) Fr.rf hq_174 rfl rfl) hq_224 rfl rfl) hq_231 rfl rfl), hS, lv_sub hl [0, 1, 2, 3, 4, 5] rfl⟩
        · have c_63 : x_54.toInt < 0 := xI_nle rfl rfl c_63
          refine ic_m1 hx hb dX12_fewest_109 ?_
          exact W.iret (v := (-1)) hx hb hr (fun t ht _ => ⟨⟨(-1), G_49, rfl, (Q_fewest_mk ⟨hB_G_49, hF, ⟨G_1, hB_G_1, (Fr.put (rs := []) (fs := [(66, 66)]) Fr.rf eG_1 (Or.inr (by decide))), (gp_eq eG_1), ⟨r_6, G_7, hX_10, (Or.inr ⟨c_12, ⟨r_15, G_16, hX_19, (Or.inr ⟨c_21, ⟨G_25, hX_28, ⟨G_41, hX_44, ⟨x_53, x_54, G_49, hX_55, f_58, f_59, f_60, hB_G_49, hq_50, ⟨c_62, (Or.inr ⟨c_63, ⟨rfl, rfl⟩⟩)⟩⟩⟩⟩⟩)⟩⟩)⟩⟩⟩), wd_t ht hW⟩, hS.F ht⟩) hS.2.2 dX12_fewest_110
      · have c_62 : x_53.toInt < (G_25.1 66 62).toInt := xI_nle rfl rfl c_62
        refine lv_aload_n hx hb dX12_fewest_53 rfl (lv_at hl 2 rfl) ?_
        refine lv_iload hx hb dX12_fewest_54 (lv_at hl 0 rfl) ?_
        refine ic_0 hx hb dX12_fewest_56 ?_
        refine lv_iload hx hb dX12_fewest_57 (lv_at hl 3 rfl) ?_
        have qc_251 : (0 : Int32).toInt = 0 := rfl
        refine S_calli (va_runV (As := [.int x_53, .int 0, .int p3]) (rest := []) ⟨hx, hb, hml, hown, hts⟩ (n_needOf l D k A a z G_49 x_53 0 p3 ⟨(by first | exact f_58.1 | omega), (by first | exact ok_1194 f_58.2 | omega)⟩ ⟨by decide, by decide⟩ ⟨(by first | exact ok_415 qc_13 f_20.1 f_20.2 d_1 c_21 | omega), (by first | exact ok_1202 qc_14 f_20.1 f_20.2 d_1 c_21 | omega)⟩) (cwV 3 hts (gd_V hgd m1859 m1861 m96 m131 m1862) rfl rfl rfl hd_X12_needOf ⟨Nat.le_of_ble_eq_true rfl, Nat.le_of_ble_eq_true rfl⟩) (pre_W hW hB_G_49 hK hZ hS kd_66 rfl) rfl rfl hl.1 rfl (lv_room (Nat.le_of_ble_eq_true rfl)) dX12_fewest_59 ⟨Nat.le_of_ble_eq_true rfl, Nat.le_of_ble_eq_true rfl⟩) hS (fun r_252 G_253 H locs hpo hW hS => ?_)
        have hX_256 : Q_needOf x_53 0 p3 G_49 r_252 G_253 := hpo
        obtain ⟨hB_G_253, hq_254, f_257, hp_255, -⟩ := hpo
        have hF := hF.call9 hq_254 rfl rfl
        have hm_258 : r_252.toInt = ndv (G_41.1 99) x_53.toInt 0 p3.toInt := hp_255.trans (ndv_eq3 (show G_49.1 99 = G_41.1 99 from (funext fun j => ((fun (j : Nat) (_ : True) => (hq_50.ri9 99 rfl j))) j trivial)) rfl rfl rfl)
        have u_259 := PRG_1 hp_43 (x := x_53.toInt) (l := 0) (i := p3.toInt) (by first | (clear hP9 hW9 b_2 b_4 f_11 c_12 g_23 b_29 b_39 hrow98 hn_61; omega) | omega) (by first | (clear hP9 hW9 b_2 b_4 f_11 c_12 g_23 b_29 b_39 hrow98 hn_61; omega) | omega) (by first | (clear hP9 hW9 b_2 b_4 f_11 c_12 g_23 b_29 b_39 hrow98 hn_61; omega) | omega) (by first | (clear hP9 hW9 b_2 b_4 f_11 c_12 g_23 b_29 b_39 hrow98 hn_61; omega) | omega) (by first | (clear hP9 hW9 b_2 b_4 f_11 c_12 g_23 b_29 b_39 hrow98 hn_61; omega) | omega)
        refine lv_ldcw (v := 100000) hx hb hown (hg (Cond.constant RX12 502 100000) m1858) dX12_fewest_62 ?_
        refine lv_icmp_ge (tgt := 98) hx hb dX12_fewest_65 rfl (fun c_260 => ?_) (fun c_260 => ?_)
        · have c_260 : 100000 ≤ r_252.toInt := xI_le rfl rfl c_260
          obtain ⟨y_261, ey_261⟩ : ∃ q, q = x_53 + 1 := ⟨_, rfl⟩
          have ty_261 : y_261.toInt = x_53.toInt + 1 := xI_add rfl rfl ey_261 ((by first | exact ok_21 f_58.1 | omega)) ((by first | exact ok_238 f_58.2 | omega))
          refine lv_iinc (v := y_261) (lv' := [(6, .int y_261), (5, .int x_54), (0, .ref (a 66)), (4, .int p3)]) hx hb dX12_fewest_98 hl (k := 0) rfl (by rw [ey_261]; rfl) (lt_b rfl) rfl (fun ls hl => ?_)
          refine lv_goto (tgt := 44) hx hb dX12_fewest_101 rfl ?_
          exact ih_51 (60 - y_261.toInt : Int).toNat ((by first | (clear hP9 hW9 b_2 b_4 f_11 c_12 g_23 b_29 b_39 hrow98; omega) | omega)) _ _ _ ⟨G_253, y_261, x_54, (Int.toNat_of_nonneg ((by first | exact ok_239 b_37.2 f_58.2 c_62 ty_261 | omega))), ⟨(by first | exact ok_23 f_58.1 ty_261 | omega), (by first | exact ok_241 b_37.2 f_58.2 c_62 ty_261 | omega)⟩, ⟨(by first | exact f_59.1 | omega), (by first | exact f_59.2 | omega)⟩, ((by first | exact f_60 | omega)), (hX_55.st (St_n_fewest_1_mk ⟨x_53, x_54, G_49, y_261, x_54, G_253, rfl, rfl, f_58, f_59, f_60, hB_G_49, ⟨c_62, ⟨r_252, G_253, hX_256, (Or.inl ⟨c_260, ⟨y_261, ty_261, ⟨rfl, rfl, rfl⟩⟩⟩)⟩⟩⟩)), hW, hB_G_253, hF, (Fr.call9 (rs := []) (fs := []) (Fr.call9 (rs := []) (fs := []) Fr.rf hq_50 rfl rfl) hq_254 rfl rfl), hS, lv_sub hl [0, 1, 2, 3] rfl⟩
        · have c_260 : r_252.toInt < 100000 := xI_nle rfl rfl c_260
          refine lv_iload hx hb dX12_fewest_68 (lv_at hl 1 rfl) ?_
          refine lv_if_lt (tgt := 94) hx hb dX12_fewest_70 rfl (fun c_262 => ?_) (fun c_262 => ?_)
          · have c_262 : x_54.toInt < 0 := xI_lt rfl rfl c_262
            refine lv_iload hx hb dX12_fewest_94 (lv_at hl 0 rfl) ?_
            refine lv_istore (lv' := [(5, .int x_53), (6, .int x_53), (0, .ref (a 66)), (4, .int p3)]) hx hb dX12_fewest_96 hl (lt_b rfl) rfl (fun ls hl => ?_)
            obtain ⟨y_263, ey_263⟩ : ∃ q, q = x_53 + 1 := ⟨_, rfl⟩
            have ty_263 : y_263.toInt = x_53.toInt + 1 := xI_add rfl rfl ey_263 ((by first | exact ok_21 f_58.1 | omega)) ((by first | exact ok_238 f_58.2 | omega))
            refine lv_iinc (v := y_263) (lv' := [(6, .int y_263), (5, .int x_53), (0, .ref (a 66)), (4, .int p3)]) hx hb dX12_fewest_98 hl (k := 1) rfl (by rw [ey_263]; rfl) (lt_b rfl) rfl (fun ls hl => ?_)
            refine lv_goto (tgt := 44) hx hb dX12_fewest_101 rfl ?_
            exact ih_51 (60 - y_263.toInt : Int).toNat ((by first | (clear hP9 hW9 b_2 b_4 f_11 c_12 g_23 b_29 b_39 hrow98; omega) | omega)) _ _ _ ⟨G_253, y_263, x_53, (Int.toNat_of_nonneg ((by first | exact ok_239 b_37.2 f_58.2 c_62 ty_263 | omega))), ⟨(by first | exact ok_23 f_58.1 ty_263 | omega), (by first | exact ok_241 b_37.2 f_58.2 c_62 ty_263 | omega)⟩, ⟨(by first | exact ok_67 f_58.1 | omega), (by first | exact ok_1220 b_37.2 f_58.2 c_62 | omega)⟩, ((by first | exact ok_1221 f_257.2 hm_258 c_260 | omega)), (hX_55.st (St_n_fewest_1_mk ⟨x_53, x_54, G_49, y_263, x_53, G_253, rfl, rfl, f_58, f_59, f_60, hB_G_49, ⟨c_62, ⟨r_252, G_253, hX_256, (Or.inr ⟨c_260, (Or.inl ⟨c_262, ⟨y_263, ty_263, ⟨rfl, rfl, rfl⟩⟩⟩)⟩)⟩⟩⟩)), hW, hB_G_253, hF, (Fr.call9 (rs := []) (fs := []) (Fr.call9 (rs := []) (fs := []) Fr.rf hq_50 rfl rfl) hq_254 rfl rfl), hS, lv_sub hl [0, 1, 2, 3] rfl⟩
          · have c_262 : 0 ≤ x_54.toInt := xI_nlt rfl rfl c_262
            refine lv_aload_n hx hb dX12_fewest_73 rfl (lv_at hl 2 rfl) ?_
            refine lv_iload hx hb dX12_fewest_74 (lv_at hl 0 rfl) ?_
            refine ic_0 hx hb dX12_fewest_76 ?_
            refine lv_iload hx hb dX12_fewest_77 (lv_at hl 3 rfl) ?_
            have qc_264 : (0 : Int32).toInt = 0 := rfl
            refine S_calli (va_runV (As := [.int x_53, .int 0, .int p3]) (rest := []) ⟨hx, hb, hml, hown, hts⟩ (n_needOf l D k A a z G_253 x_53 0 p3 ⟨(by first | exact f_58.1 | omega), (by first | exact ok_1194 f_58.2 | omega)⟩ ⟨by decide, by decide⟩ ⟨(by first | exact ok_415 qc_13 f_20.1 f_20.2 d_1 c_21 | omega), (by first | exact ok_1202 qc_14 f_20.1 f_20.2 d_1 c_21 | omega)⟩) (cwV 3 hts (gd_V hgd m1859 m1861 m96 m131 m1862) rfl rfl rfl hd_X12_needOf ⟨Nat.le_of_ble_eq_true rfl, Nat.le_of_ble_eq_true rfl⟩) (pre_W hW hB_G_253 hK hZ hS kd_66 rfl) rfl rfl hl.1 rfl (lv_room (Nat.le_of_ble_eq_true rfl)) dX12_fewest_79 ⟨Nat.le_of_ble_eq_true rfl, Nat.le_of_ble_eq_true rfl⟩) hS (fun r_265 G_266 H locs hpo hW hS => ?_)
            have hX_269 : Q_needOf x_53 0 p3 G_253 r_265 G_266 := hpo
            obtain ⟨hB_G_266, hq_267, f_270, hp_268, -⟩ := hpo
            have hF := hF.call9 hq_267 rfl rfl
            have hm_271 : r_265.toInt = ndv (G_41.1 99) x_53.toInt 0 p3.toInt := hp_268.trans (ndv_eq3 (show G_253.1 99 = G_41.1 99 from (funext fun j => ((fun (j : Nat) (_ : True) => ((hq_254.ri9 99 rfl j).trans (hq_50.ri9 99 rfl j)))) j trivial)) rfl rfl rfl)
            have u_272 := PRG_1 hp_43 (x := x_53.toInt) (l := 0) (i := p3.toInt) (by first | (clear hP9 hW9 b_2 b_4 f_11 c_12 g_23 b_29 b_39 hrow98 hn_61; omega) | omega) (by first | (clear hP9 hW9 b_2 b_4 f_11 c_12 g_23 b_29 b_39 hrow98 hn_61; omega) | omega) (by first | (clear hP9 hW9 b_2 b_4 f_11 c_12 g_23 b_29 b_39 hrow98 hn_61; omega) | omega) (by first | (clear hP9 hW9 b_2 b_4 f_11 c_12 g_23 b_29 b_39 hrow98 hn_61; omega) | omega) (by first | (clear hP9 hW9 b_2 b_4 f_11 c_12 g_23 b_29 b_39 hrow98 hn_61; omega) | omega)
            refine lv_aload_n hx hb dX12_fewest_82 rfl (lv_at hl 2 rfl) ?_
            refine lv_iload hx hb dX12_fewest_83 (lv_at hl 1 rfl) ?_
            refine ic_0 hx hb dX12_fewest_85 ?_
            refine lv_iload hx hb dX12_fewest_86 (lv_at hl 3 rfl) ?_
            have qc_273 : (0 : Int32).toInt = 0 := rfl
            refine S_calli (va_runV (As := [.int x_54, .int 0, .int p3]) (rest := [.int r_265]) ⟨hx, hb, hml, hown, hts⟩ (n_needOf l D k A a z G_266 x_54 0 p3 ⟨(by first | exact c_262 | omega), (by first | exact ok_1201 f_59.2 | omega)⟩ ⟨by decide, by decide⟩ ⟨(by first | exact ok_415 qc_13 f_20.1 f_20.2 d_1 c_21 | omega), (by first | exact ok_1202 qc_14 f_20.1 f_20.2 d_1 c_21 | omega)⟩) (cwV 3 hts (gd_V hgd m1859 m1861 m96 m131 m1862) rfl rfl rfl hd_X12_needOf ⟨Nat.le_of_ble_eq_true rfl, Nat.le_of_ble_eq_true rfl⟩) (pre_W hW hB_G_266 hK hZ hS kd_66 rfl) rfl rfl hl.1 rfl (lv_room (Nat.le_of_ble_eq_true rfl)) dX12_fewest_88 ⟨Nat.le_of_ble_eq_true rfl, Nat.le_of_ble_eq_true rfl⟩) hS (fun r_274 G_275 H locs hpo hW hS => ?_)
            have hX_278 : Q_needOf x_54 0 p3 G_266 r_274 G_275 := hpo
            obtain ⟨hB_G_275, hq_276, f_279, hp_277, -⟩ := hpo
            have hF := hF.call9 hq_276 rfl rfl
            have hm_280 : r_274.toInt = ndv (G_41.1 99) x_54.toInt 0 p3.toInt := hp_277.trans (ndv_eq3 (show G_266.1 99 = G_41.1 99 from (funext fun j => ((fun (j : Nat) (_ : True) => ((hq_267.ri9 99 rfl j).trans ((hq_254.ri9 99 rfl j).trans (hq_50.ri9 99 rfl j))))) j trivial)) rfl rfl rfl)
            have u_281 := PRG_1 hp_43 (x := x_54.toInt) (l := 0) (i := p3.toInt) (by first | (clear hP9 hW9 b_2 b_4 f_11 c_12 g_23 b_29 b_39 hrow98 hn_61; omega) | omega) (by first | (clear hP9 hW9 b_2 b_4 f_11 c_12 g_23 b_29 b_39 hrow98 hn_61; omega) | omega) (by first | (clear hP9 hW9 b_2 b_4 f_11 c_12 g_23 b_29 b_39 hrow98 hn_61; omega) | omega) (by first | (clear hP9 hW9 b_2 b_4 f_11 c_12 g_23 b_29 b_39 hrow98 hn_61; omega) | omega) (by first | (clear hP9 hW9 b_2 b_4 f_11 c_12 g_23 b_29 b_39 hrow98 hn_61; omega) | omega)
            refine lv_icmp_ge (tgt := 98) hx hb dX12_fewest_91 rfl (fun c_282 => ?_) (fun c_282 => ?_)
            · have c_282 : r_274.toInt ≤ r_265.toInt := xI_le rfl rfl c_282
              obtain ⟨y_283, ey_283⟩ : ∃ q, q = x_53 + 1 := ⟨_, rfl⟩
              have ty_283 : y_283.toInt = x_53.toInt + 1 := xI_add rfl rfl ey_283 ((by first | exact ok_21 f_58.1 | omega)) ((by first | exact ok_238 f_58.2 | omega))
              refine lv_iinc (v := y_283) (lv' := [(6, .int y_283), (5, .int x_54), (0, .ref (a 66)), (4, .int p3)]) hx hb dX12_fewest_98 hl (k := 0) rfl (by rw [ey_283]; rfl) (lt_b rfl) rfl (fun ls hl => ?_)
              refine lv_goto (tgt := 44) hx hb dX12_fewest_101 rfl ?_
              exact ih_51 (60 - y_283.toInt : Int).toNat ((by first | (clear hP9 hW9 b_2 b_4 f_11 c_12 g_23 b_29 b_39 hrow98; omega) | omega)) _ _ _ ⟨G_275, y_283, x_54, (Int.toNat_of_nonneg ((by first | exact ok_239 b_37.2 f_58.2 c_62 ty_283 | omega))), ⟨(by first | exact ok_23 f_58.1 ty_283 | omega), (by first | exact ok_241 b_37.2 f_58.2 c_62 ty_283 | omega)⟩, ⟨(by first | exact f_59.1 | omega), (by first | exact f_59.2 | omega)⟩, ((by first | exact f_60 | omega)), (hX_55.st (St_n_fewest_1_mk ⟨x_53, x_54, G_49, y_283, x_54, G_275, rfl, rfl, f_58, f_59, f_60, hB_G_49, ⟨c_62, ⟨r_252, G_253, hX_256, (Or.inr ⟨c_260, (Or.inr ⟨c_262, ⟨r_265, G_266, hX_269, ⟨r_274, G_275, hX_278, (Or.inl ⟨c_282, ⟨y_283, ty_283, ⟨rfl, rfl, rfl⟩⟩⟩)⟩⟩⟩)⟩)⟩⟩⟩)), hW, hB_G_275, hF, (Fr.call9 (rs := []) (fs := []) (Fr.call9 (rs := []) (fs := []) (Fr.call9 (rs := []) (fs := []) (Fr.call9 (rs := []) (fs := []) Fr.rf hq_50 rfl rfl) hq_254 rfl rfl) hq_267 rfl rfl) hq_276 rfl rfl), hS, lv_sub hl [0, 1, 2, 3] rfl⟩
            · have c_282 : r_265.toInt < r_274.toInt := xI_nle rfl rfl c_282
              refine lv_iload hx hb dX12_fewest_94 (lv_at hl 0 rfl) ?_
              refine lv_istore (lv' := [(5, .int x_53), (6, .int x_53), (0, .ref (a 66)), (4, .int p3)]) hx hb dX12_fewest_96 hl (lt_b rfl) rfl (fun ls hl => ?_)
              obtain ⟨y_284, ey_284⟩ : ∃ q, q = x_53 + 1 := ⟨_, rfl⟩
              have ty_284 : y_284.toInt = x_53.toInt + 1 := xI_add rfl rfl ey_284 ((by first | exact ok_21 f_58.1 | omega)) ((by first | exact ok_238 f_58.2 | omega))
              refine lv_iinc (v := y_284) (lv' := [(6, .int y_284), (5, .int x_53), (0, .ref (a 66)), (4, .int p3)]) hx hb dX12_fewest_98 hl (k := 1) rfl (by rw [ey_284]; rfl) (lt_b rfl) rfl (fun ls hl => ?_)
              refine lv_goto (tgt := 44) hx hb dX12_fewest_101 rfl ?_
              exact ih_51 (60 - y_284.toInt : Int).toNat ((by first | (clear hP9 hW9 b_2 b_4 f_11 c_12 g_23 b_29 b_39 hrow98; omega) | omega)) _ _ _ ⟨G_275, y_284, x_53, (Int.toNat_of_nonneg ((by first | exact ok_239 b_37.2 f_58.2 c_62 ty_284 | omega))), ⟨(by first | exact ok_23 f_58.1 ty_284 | omega), (by first | exact ok_241 b_37.2 f_58.2 c_62 ty_284 | omega)⟩, ⟨(by first | exact ok_67 f_58.1 | omega), (by first | exact ok_1220 b_37.2 f_58.2 c_62 | omega)⟩, ((by first | exact ok_1222 hm_258 c_260 | omega)), (hX_55.st (St_n_fewest_1_mk ⟨x_53, x_54, G_49, y_284, x_53, G_275, rfl, rfl, f_58, f_59, f_60, hB_G_49, ⟨c_62, ⟨r_252, G_253, hX_256, (Or.inr ⟨c_260, (Or.inr ⟨c_262, ⟨r_265, G_266, hX_269, ⟨r_274, G_275, hX_278, (Or.inr ⟨c_282, ⟨y_284, ty_284, ⟨rfl, rfl, rfl⟩⟩⟩)⟩⟩⟩)⟩)⟩⟩⟩)), hW, hB_G_275, hF, (Fr.call9 (rs := []) (fs := []) (Fr.call9 (rs := []) (fs := []) (Fr.call9 (rs := []) (fs := []) (Fr.call9 (rs := []) (fs := []) Fr.rf hq_50 rfl rfl) hq_254 rfl rfl) hq_267 rfl rfl) hq_276 rfl rfl), hS, lv_sub hl [0, 1, 2, 3] rfl⟩
    · have c_21 : r_15.toInt = 0 := xI_eq rfl rfl c_21
      refine ic_m1 hx hb dX12_fewest_25 ?_
      exact W.iret (v := (-1)) hx hb hr (fun t ht _ => ⟨⟨(-1), G_16, rfl, (Q_fewest_mk ⟨hB_G_16, hF, ⟨G_1, hB_G_1, (Fr.put (rs := []) (fs := [(66, 66)]) Fr.rf eG_1 (Or.inr (by decide))), (gp_eq eG_1), ⟨r_6, G_7, hX_10, (Or.inr ⟨c_12, ⟨r_15, G_16, hX_19, (Or.inl ⟨c_21, ⟨rfl, rfl⟩⟩)⟩⟩)⟩⟩⟩), wd_t ht hW⟩, hS.F ht⟩) hS.2.2 dX12_fewest_26

theorem m1386 : Cond.fieldLink RX12 139 "SlabWalkModel" "odds" "[J" ∈ gd := gdc_6_4 6 rfl gw_fieldLink
noncomputable def rbX12_oddsBy_0 : List (Nat × List Nat) := [(0, [9]), (1, [55, 6]), (3, [3]), (4, [54, 8]), (6, [21, 8]), (8, [6]), (9, [162, 0, 76]), (12, [27]), (13, [28]), (14, [96]), (15, [21, 8]), (17, [96]), (18, [4]), (19, [100]), (20, [54, 9]), (22, [22, 6]), (24, [42]), (25, [180, 0, 102]), (28, [21, 8]), (30, [46]), (31, [133]), (32, [42]), (33, [21, 9]), (35, [182, 1, 228])]
theorem rcX12_oddsBy_0 : dgo (lb cX12_oddsBy) 0 rbX12_oddsBy_0 = true := by decide +kernel
theorem dX12_oddsBy_0 : decode cX12_oddsBy 0 = .ok (.lconst 0, 1) := dk_9 (dw rcX12_oddsBy_0 0 rfl)
theorem dX12_oddsBy_1 : decode cX12_oddsBy 1 = .ok (.lstore 6, 2) := dk_55 (dw rcX12_oddsBy_0 1 rfl)
theorem dX12_oddsBy_3 : decode cX12_oddsBy 3 = .ok (.iconst 0, 1) := dk_3 (dw rcX12_oddsBy_0 2 rfl)
theorem dX12_oddsBy_4 : decode cX12_oddsBy 4 = .ok (.istore 8, 2) := dk_54 (dw rcX12_oddsBy_0 3 rfl)
theorem dX12_oddsBy_6 : decode cX12_oddsBy 6 = .ok (.iload 8, 2) := dk_21 (dw rcX12_oddsBy_0 4 rfl)
theorem dX12_oddsBy_8 : decode cX12_oddsBy 8 = .ok (.iconst 3, 1) := dk_6 (dw rcX12_oddsBy_0 5 rfl)
theorem dX12_oddsBy_9 : decode cX12_oddsBy 9 = .ok (.if_icmp .ge 76, 3) := dk_162 (dw rcX12_oddsBy_0 6 rfl) rfl
theorem dX12_oddsBy_12 : decode cX12_oddsBy 12 = .ok (.iload_n 1, 1) := dk_27 (dw rcX12_oddsBy_0 7 rfl)
theorem dX12_oddsBy_13 : decode cX12_oddsBy 13 = .ok (.iload_n 2, 1) := dk_28 (dw rcX12_oddsBy_0 8 rfl)
theorem dX12_oddsBy_14 : decode cX12_oddsBy 14 = .ok (.iadd, 1) := dk_96 (dw rcX12_oddsBy_0 9 rfl)
theorem dX12_oddsBy_15 : decode cX12_oddsBy 15 = .ok (.iload 8, 2) := dk_21 (dw rcX12_oddsBy_0 10 rfl)
theorem dX12_oddsBy_17 : decode cX12_oddsBy 17 = .ok (.iadd, 1) := dk_96 (dw rcX12_oddsBy_0 11 rfl)
theorem dX12_oddsBy_18 : decode cX12_oddsBy 18 = .ok (.iconst 1, 1) := dk_4 (dw rcX12_oddsBy_0 12 rfl)
theorem dX12_oddsBy_19 : decode cX12_oddsBy 19 = .ok (.isub, 1) := dk_100 (dw rcX12_oddsBy_0 13 rfl)
theorem dX12_oddsBy_20 : decode cX12_oddsBy 20 = .ok (.istore 9, 2) := dk_54 (dw rcX12_oddsBy_0 14 rfl)
theorem dX12_oddsBy_22 : decode cX12_oddsBy 22 = .ok (.lload 6, 2) := dk_22 (dw rcX12_oddsBy_0 15 rfl)
theorem dX12_oddsBy_24 : decode cX12_oddsBy 24 = .ok (.aload_n 0, 1) := dk_42 (dw rcX12_oddsBy_0 16 rfl)
theorem dX12_oddsBy_25 : decode cX12_oddsBy 25 = .ok (.getfield 102, 3) := dk_180 (dw rcX12_oddsBy_0 17 rfl) rfl
theorem dX12_oddsBy_28 : decode cX12_oddsBy 28 = .ok (.iload 8, 2) := dk_21 (dw rcX12_oddsBy_0 18 rfl)
theorem dX12_oddsBy_30 : decode cX12_oddsBy 30 = .ok (.iaload, 1) := dk_46 (dw rcX12_oddsBy_0 19 rfl)
theorem dX12_oddsBy_31 : decode cX12_oddsBy 31 = .ok (.i2l, 1) := dk_133 (dw rcX12_oddsBy_0 20 rfl)
theorem dX12_oddsBy_32 : decode cX12_oddsBy 32 = .ok (.aload_n 0, 1) := dk_42 (dw rcX12_oddsBy_0 21 rfl)
theorem dX12_oddsBy_33 : decode cX12_oddsBy 33 = .ok (.iload 9, 2) := dk_21 (dw rcX12_oddsBy_0 22 rfl)
theorem dX12_oddsBy_35 : decode cX12_oddsBy 35 = .ok (.invokevirtual 484, 3) := dk_182 (dw rcX12_oddsBy_0 23 rfl) rfl
noncomputable def rbX12_oddsBy_38 : List (Nat × List Nat) := [(38, [154, 0, 8]), (41, [22, 4]), (43, [167, 0, 32]), (46, [42]), (47, [180, 0, 115]), (50, [21, 9]), (52, [51]), (53, [153, 0, 21]), (56, [42]), (57, [180, 0, 139]), (60, [17, 2, 0]), (63, [29]), (64, [4]), (65, [100]), (66, [104]), (67, [21, 9]), (69, [96]), (70, [47]), (71, [167, 0, 4]), (74, [9]), (75, [105]), (76, [97]), (77, [55, 6]), (79, [132, 8, 1])]
theorem rcX12_oddsBy_38 : dgo (lb cX12_oddsBy) 0 rbX12_oddsBy_38 = true := by decide +kernel
theorem dX12_oddsBy_38 : decode cX12_oddsBy 38 = .ok (.ifCond .ne 8, 3) := dk_154 (dw rcX12_oddsBy_38 0 rfl) rfl
theorem dX12_oddsBy_41 : decode cX12_oddsBy 41 = .ok (.lload 4, 2) := dk_22 (dw rcX12_oddsBy_38 1 rfl)
theorem dX12_oddsBy_43 : decode cX12_oddsBy 43 = .ok (.goto 32, 3) := dk_167 (dw rcX12_oddsBy_38 2 rfl) rfl
theorem dX12_oddsBy_46 : decode cX12_oddsBy 46 = .ok (.aload_n 0, 1) := dk_42 (dw rcX12_oddsBy_38 3 rfl)
theorem dX12_oddsBy_47 : decode cX12_oddsBy 47 = .ok (.getfield 115, 3) := dk_180 (dw rcX12_oddsBy_38 4 rfl) rfl
theorem dX12_oddsBy_50 : decode cX12_oddsBy 50 = .ok (.iload 9, 2) := dk_21 (dw rcX12_oddsBy_38 5 rfl)
theorem dX12_oddsBy_52 : decode cX12_oddsBy 52 = .ok (.baload, 1) := dk_51 (dw rcX12_oddsBy_38 6 rfl)
theorem dX12_oddsBy_53 : decode cX12_oddsBy 53 = .ok (.ifCond .eq 21, 3) := dk_153 (dw rcX12_oddsBy_38 7 rfl) rfl
theorem dX12_oddsBy_56 : decode cX12_oddsBy 56 = .ok (.aload_n 0, 1) := dk_42 (dw rcX12_oddsBy_38 8 rfl)
theorem dX12_oddsBy_57 : decode cX12_oddsBy 57 = .ok (.getfield 139, 3) := dk_180 (dw rcX12_oddsBy_38 9 rfl) rfl
theorem dX12_oddsBy_60 : decode cX12_oddsBy 60 = .ok (.sipush 512, 3) := dk_17 (dw rcX12_oddsBy_38 10 rfl) rfl
theorem dX12_oddsBy_63 : decode cX12_oddsBy 63 = .ok (.iload_n 3, 1) := dk_29 (dw rcX12_oddsBy_38 11 rfl)
theorem dX12_oddsBy_64 : decode cX12_oddsBy 64 = .ok (.iconst 1, 1) := dk_4 (dw rcX12_oddsBy_38 12 rfl)
theorem dX12_oddsBy_65 : decode cX12_oddsBy 65 = .ok (.isub, 1) := dk_100 (dw rcX12_oddsBy_38 13 rfl)
theorem dX12_oddsBy_66 : decode cX12_oddsBy 66 = .ok (.imul, 1) := dk_104 (dw rcX12_oddsBy_38 14 rfl)
theorem dX12_oddsBy_67 : decode cX12_oddsBy 67 = .ok (.iload 9, 2) := dk_21 (dw rcX12_oddsBy_38 15 rfl)
theorem dX12_oddsBy_69 : decode cX12_oddsBy 69 = .ok (.iadd, 1) := dk_96 (dw rcX12_oddsBy_38 16 rfl)
theorem dX12_oddsBy_70 : decode cX12_oddsBy 70 = .ok (.laload, 1) := dk_47 (dw rcX12_oddsBy_38 17 rfl)
theorem dX12_oddsBy_71 : decode cX12_oddsBy 71 = .ok (.goto 4, 3) := dk_167 (dw rcX12_oddsBy_38 18 rfl) rfl
theorem dX12_oddsBy_74 : decode cX12_oddsBy 74 = .ok (.lconst 0, 1) := dk_9 (dw rcX12_oddsBy_38 19 rfl)
theorem dX12_oddsBy_75 : decode cX12_oddsBy 75 = .ok (.lmul, 1) := dk_105 (dw rcX12_oddsBy_38 20 rfl)
theorem dX12_oddsBy_76 : decode cX12_oddsBy 76 = .ok (.ladd, 1) := dk_97 (dw rcX12_oddsBy_38 21 rfl)
theorem dX12_oddsBy_77 : decode cX12_oddsBy 77 = .ok (.lstore 6, 2) := dk_55 (dw rcX12_oddsBy_38 22 rfl)
theorem dX12_oddsBy_79 : decode cX12_oddsBy 79 = .ok (.iinc 8 1, 3) := dk_132 (dw rcX12_oddsBy_38 23 rfl) rfl
noncomputable def rbX12_oddsBy_82 : List (Nat × List Nat) := [(82, [167, 255, 180]), (85, [22, 6]), (87, [173])]
theorem rcX12_oddsBy_82 : dgo (lb cX12_oddsBy) 0 rbX12_oddsBy_82 = true := by decide +kernel
theorem dX12_oddsBy_82 : decode cX12_oddsBy 82 = .ok (.goto (-76), 3) := dk_167 (dw rcX12_oddsBy_82 0 rfl) rfl
theorem dX12_oddsBy_85 : decode cX12_oddsBy 85 = .ok (.lload 6, 2) := dk_22 (dw rcX12_oddsBy_82 1 rfl)
theorem dX12_oddsBy_87 : decode cX12_oddsBy 87 = .ok (.lreturn, 1) := dk_173 (dw rcX12_oddsBy_82 2 rfl)
noncomputable def rbX12_rest_0 : List (Nat × List Nat) := [(0, [10]), (1, [65]), (2, [3]), (3, [54, 4]), (5, [21, 4]), (7, [27]), (8, [162, 0, 17]), (11, [32]), (12, [42]), (13, [182, 2, 41]), (16, [133]), (17, [105]), (18, [65]), (19, [132, 4, 1]), (22, [167, 255, 239]), (25, [32]), (26, [173])]
theorem rcX12_rest_0 : dgo (lb cX12_rest) 0 rbX12_rest_0 = true := by decide +kernel
theorem dX12_rest_0 : decode cX12_rest 0 = .ok (.lconst 1, 1) := dk_10 (dw rcX12_rest_0 0 rfl)
theorem dX12_rest_1 : decode cX12_rest 1 = .ok (.lstore_n 2, 1) := dk_65 (dw rcX12_rest_0 1 rfl)
theorem dX12_rest_2 : decode cX12_rest 2 = .ok (.iconst 0, 1) := dk_3 (dw rcX12_rest_0 2 rfl)
theorem dX12_rest_3 : decode cX12_rest 3 = .ok (.istore 4, 2) := dk_54 (dw rcX12_rest_0 3 rfl)
theorem dX12_rest_5 : decode cX12_rest 5 = .ok (.iload 4, 2) := dk_21 (dw rcX12_rest_0 4 rfl)
theorem dX12_rest_7 : decode cX12_rest 7 = .ok (.iload_n 1, 1) := dk_27 (dw rcX12_rest_0 5 rfl)
theorem dX12_rest_8 : decode cX12_rest 8 = .ok (.if_icmp .ge 17, 3) := dk_162 (dw rcX12_rest_0 6 rfl) rfl
theorem dX12_rest_11 : decode cX12_rest 11 = .ok (.lload_n 2, 1) := dk_32 (dw rcX12_rest_0 7 rfl)
theorem dX12_rest_12 : decode cX12_rest 12 = .ok (.aload_n 0, 1) := dk_42 (dw rcX12_rest_0 8 rfl)
theorem dX12_rest_13 : decode cX12_rest 13 = .ok (.invokevirtual 553, 3) := dk_182 (dw rcX12_rest_0 9 rfl) rfl
theorem dX12_rest_16 : decode cX12_rest 16 = .ok (.i2l, 1) := dk_133 (dw rcX12_rest_0 10 rfl)
theorem dX12_rest_17 : decode cX12_rest 17 = .ok (.lmul, 1) := dk_105 (dw rcX12_rest_0 11 rfl)
theorem dX12_rest_18 : decode cX12_rest 18 = .ok (.lstore_n 2, 1) := dk_65 (dw rcX12_rest_0 12 rfl)
theorem dX12_rest_19 : decode cX12_rest 19 = .ok (.iinc 4 1, 3) := dk_132 (dw rcX12_rest_0 13 rfl) rfl
theorem dX12_rest_22 : decode cX12_rest 22 = .ok (.goto (-17), 3) := dk_167 (dw rcX12_rest_0 14 rfl) rfl
theorem dX12_rest_25 : decode cX12_rest 25 = .ok (.lload_n 2, 1) := dk_32 (dw rcX12_rest_0 15 rfl)
theorem dX12_rest_26 : decode cX12_rest 26 = .ok (.lreturn, 1) := dk_173 (dw rcX12_rest_0 16 rfl)
set_option maxHeartbeats 4000000 in
set_option maxRecDepth 100000 in
theorem n_oddsBy (l : Launch) (D : va_G) (k : KT) (A : Nat → Prop) (a : Nat → Nat) (z : SK) (G : GS) (p0 : Int32) (p1 : Int32) (p2 : Int32) (p3 : Int64) (ha_p0 : 0 ≤ p0.toInt ∧ p0.toInt ≤ 399) (ha_p1 : 0 ≤ p1.toInt ∧ p1.toInt ≤ 60) (ha_p2 : 1 ≤ p2.toInt ∧ p2.toInt ≤ 8) : Met l yX12_oddsBy (WS yX12_oddsBy cX12_oddsBy 10 (some .long)) ({ frames := 1, cells := 0, slots := 0, locals := 21 }) (va_Pc [.ref (a 66), .int p0, .int p1, .int p2, .long p3] (cW D k A a z G)) (va_Ql (fun (r : Int64) (G1 : GS) => Q_oddsBy p0 p1 p2 p3 G r G1) (fun (G1 : GS) t => Wd D k A a G1 t.heap) A) 0 0 A := by
  refine Met.ofW (cc := cX12_oddsBy) (maxL := 10) (ret := (some .long)) (by decide) rfl ?_
  intro p e s m args below meth c s₁ B hml hv
  obtain ⟨rfl, hW, hB_G, hK, hZ⟩ := hv
  have hx := B.exec
  have hb := B.bytes
  have hr := B.returns
  have hts := atoms_spec (ws := WS yX12_oddsBy cX12_oddsBy 10 (some .long)) B.pre
  have hgd : ∀ w ∈ gd, w ∈ WS yX12_oddsBy cX12_oddsBy 10 (some .long) := fun w h => List.mem_cons_of_mem _ h
  have hg : ∀ w ∈ gd, w.before _ s = true := fun w h => hts w (hgd w h)
  have hown : s.vm.findClass RX12 = some m.cls := findClass_of_methodNamed B.named
  have hS : va_S A s.heap s.heap [] := va_S.rf
  have hF : Fr [] [] G G := Fr.rf
  have hl := lv_entry ([.ref (a 66), .int p0, .int p1, .int p2, .long p3]) (n := 10) (Nat.le_of_ble_eq_true rfl)
  rw [lg_entry_eq]
  generalize (lg_sl ([.ref (a 66), .int p0, .int p1, .int p2, .long p3]) ++ List.replicate (10 - (lg_sl ([.ref (a 66), .int p0, .int p1, .int p2, .long p3])).length) Slot.unset).toArray = ls at hl ⊢
  have hl : lv_has ls 10 [(0, .ref (a 66)), (1, .int p0), (2, .int p1), (3, .int p2), (4, .long p3)] := hl
  refine lv_lconst (v := 0) hx hb dX12_oddsBy_0 (by decide) ?_
  refine lv_lstore (lv' := [(6, .long 0), (0, .ref (a 66)), (1, .int p0), (2, .int p1), (3, .int p2), (4, .long p3)]) hx hb dX12_oddsBy_1 hl (lt_b rfl) rfl (fun ls hl => ?_)
  have ho_1 : (0 : Int64) = oS (G.1 96) (G.1 98) (G.2.1 106) (G.1 66 59).toInt (G.1 66 60).toInt (p0.toInt + p1.toInt) p2.toInt p3 ((0 : Int32).toInt).toNat := rfl
  refine ic_0 hx hb dX12_oddsBy_3 ?_
  refine lv_istore (lv' := [(8, .int 0), (6, .long 0), (0, .ref (a 66)), (1, .int p0), (2, .int p1), (3, .int p2), (4, .long p3)]) hx hb dX12_oddsBy_4 hl (lt_b rfl) rfl (fun ls hl => ?_)
  have b_9 : 0 ≤ (G.1 66 59).toInt ∧ (G.1 66 59).toInt ≤ 400 := bd_66_59 hB_G
  have b_10 : 0 ≤ (G.1 66 60).toInt ∧ (G.1 66 60).toInt ≤ 12 := bd_66_60 hB_G
  have qc_11 : (0 : Int32).toInt = 0 := rfl
  refine loop_N (Inv := fun n H locs ls => ∃ (G_2 : GS) (x_6 : Int32) (x_7 : Int64), (n : Int) = 3 - x_6.toInt ∧ (0 ≤ x_6.toInt ∧ x_6.toInt ≤ 3) ∧ (x_7 = oS (G.1 96) (G.1 98) (G.2.1 106) (G.1 66 59).toInt (G.1 66 60).toInt (p0.toInt + p1.toInt) p2.toInt p3 (x_6.toInt).toNat) ∧ Rc (St_n_oddsBy_1 p0 p1 p2 p3 G) (0, 0, G) (x_6, x_7, G_2) ∧ Wd D k A a G_2 H ∧ Bd G_2 ∧ Fr [] [] G G_2 ∧ Fr [] [] G G_2 ∧ va_S A s.heap H locs ∧ lv_has ls 10 [(8, .int x_6), (6, .long x_7), (0, .ref (a 66)), (1, .int p0), (2, .int p1), (3, .int p2), (4, .long p3)]) (fun n_5 H locs ls ih_4 hI => ?_) (3 - 0 : Int).toNat ⟨G, 0, 0, (Int.toNat_of_nonneg ((by decide))), ⟨(by decide), (by decide)⟩, (by assumption), Rc.rf, hW, hB_G, hF, Fr.rf, hS, lv_sub hl [0, 1, 2, 3, 4, 5, 6] rfl⟩
  obtain ⟨G_2, x_6, x_7, hn_14, f_12, f_13, hX_8, hW, hB_G_2, hF, hq_3, hS, hl⟩ := hI
  refine lv_iload hx hb dX12_oddsBy_6 (lv_at hl 0 rfl) ?_
  refine ic_3 hx hb dX12_oddsBy_8 ?_
  refine lv_icmp_ge (tgt := 85) hx hb dX12_oddsBy_9 rfl (fun c_15 => ?_) (fun c_15 => ?_)
  · have c_15 : 3 ≤ x_6.toInt := xI_le rfl rfl c_15
    refine lv_lload hx hb dX12_oddsBy_85 (lv_at hl 1 rfl) ?_
    exact W.lret (v := x_7) hx hb hr (fun t ht _ => ⟨⟨x_7, G_2, rfl, (Q_oddsBy_mk ⟨hB_G_2, hF, (show x_7 = oS (G.1 96) (G.1 98) (G.2.1 106) (G.1 66 59).toInt (G.1 66 60).toInt (p0.toInt + p1.toInt) p2.toInt p3 3 from by have h : x_7 = oS (G.1 96) (G.1 98) (G.2.1 106) (G.1 66 59).toInt (G.1 66 60).toInt (p0.toInt + p1.toInt) p2.toInt p3 (x_6.toInt).toNat := (by assumption); rw [show x_6.toInt = 3 from by omega] at h; exact h), ⟨x_6, x_7, G_2, hX_8, f_12, f_13, hB_G_2, hq_3, ⟨c_15, ⟨rfl, rfl⟩⟩⟩⟩), wd_t ht hW⟩, hS.F ht⟩) hS.2.2 dX12_oddsBy_87
  · have c_15 : x_6.toInt < 3 := xI_nle rfl rfl c_15
    refine lv_iload_n hx hb dX12_oddsBy_12 rfl (lv_at hl 3 rfl) ?_
    refine lv_iload_n hx hb dX12_oddsBy_13 rfl (lv_at hl 4 rfl) ?_
    refine lv_iadd hx hb dX12_oddsBy_14 ?_
    refine lv_topi (fun y_16 ey_16 => ?_)
    have ty_16 : y_16.toInt = p0.toInt + p1.toInt := xI_add rfl rfl ey_16 ((by first | exact ok_15 ha_p0.1 ha_p1.1 | omega)) ((by first | exact ok_305 ha_p0.2 ha_p1.2 | omega))
    refine lv_iload hx hb dX12_oddsBy_15 (lv_at hl 0 rfl) ?_
    refine lv_iadd hx hb dX12_oddsBy_17 ?_
    refine lv_topi (fun y_17 ey_17 => ?_)
    have ty_17 : y_17.toInt = y_16.toInt + x_6.toInt := xI_add rfl rfl ey_17 ((by first | exact ok_1223 ha_p0.1 ha_p1.1 f_12.1 ty_16 | omega)) ((by first | exact ok_1224 ha_p0.2 ha_p1.2 f_12.2 ty_16 | omega))
    refine ic_1 hx hb dX12_oddsBy_18 ?_
    refine lv_isub hx hb dX12_oddsBy_19 ?_
    refine lv_topi (fun y_18 ey_18 => ?_)
    have ty_18 : y_18.toInt = y_17.toInt - 1 := xI_sub rfl rfl ey_18 ((by first | exact ok_1225 ha_p0.1 ha_p1.1 f_12.1 ty_16 ty_17 | omega)) ((by first | exact ok_1226 ha_p0.2 ha_p1.2 f_12.2 ty_16 ty_17 | omega))
    refine lv_istore (lv' := [(9, .int y_18), (8, .int x_6), (6, .long x_7), (0, .ref (a 66)), (1, .int p0), (2, .int p1), (3, .int p2), (4, .long p3)]) hx hb dX12_oddsBy_20 hl (lt_b rfl) rfl (fun ls hl => ?_)
    refine lv_lload hx hb dX12_oddsBy_22 (lv_at hl 2 rfl) ?_
    refine lv_aload_n hx hb dX12_oddsBy_24 rfl (lv_at hl 3 rfl) ?_
    refine S_getR (n := 96) (C := RX12) (T := TX12) (N := 89) hx hb hg iX12 hown hK hW kd_66 rfl 44 (lt_b rfl) (hg (Cond.fieldLink RX12 102 "SlabWalkModel" "slips" "[I") m1358) (fun _ h9 => h9) rfl dX12_oddsBy_25 ?_
    refine lv_iload hx hb dX12_oddsBy_28 (lv_at hl 1 rfl) ?_
    refine S_iald hx hb hK hW kd_96 (vin ((by first | exact f_12.1 | omega)) ((by first | exact ok_26 f_12.2 c_15 | omega))) dX12_oddsBy_30 (fun y_19 ey_19 => ?_)
    have ty_19 : 0 ≤ y_19.toInt ∧ y_19.toInt ≤ 9 := bv_96 hB_G_2 ey_19
    have u_20 : y_19.toInt = (G.1 96 x_6.toNatClampNeg).toInt := congrArg Int32.toInt (ey_19.trans ((hq_3.ri9 96 rfl x_6.toNatClampNeg)))
    refine lv_i2l hx hb dX12_oddsBy_31 rfl ?_
    refine lv_topl (fun y_21 ey_21 => ?_)
    refine lv_aload_n hx hb dX12_oddsBy_32 rfl (lv_at hl 3 rfl) ?_
    refine lv_iload hx hb dX12_oddsBy_33 (lv_at hl 0 rfl) ?_
    have g_22 : (G_2.1 66 59).toInt = (G.1 66 59).toInt := (congrArg Int32.toInt (show G_2.1 66 59 = (G.1 66 59) from ((hq_3.i9 66 59 rfl rfl).trans (rfl))))
    have g_23 : (G_2.1 66 60).toInt = (G.1 66 60).toInt := (congrArg Int32.toInt (show G_2.1 66 60 = (G.1 66 60) from ((hq_3.i9 66 60 rfl rfl).trans (rfl))))
    refine S_calli (va_runV (As := [.int y_18]) (rest := [.long y_21, .long x_7]) ⟨hx, hb, hml, hown, hts⟩ (n_stands1 l D k A a z G_2 y_18 ) (cwV 1 hts (gd_V hgd m1838 m1840 m92 m131 m1841) rfl rfl rfl hd_X12_doesStand ⟨Nat.le_of_ble_eq_true rfl, Nat.le_of_ble_eq_true rfl⟩) (pre_W hW hB_G_2 hK hZ hS kd_66 rfl) rfl rfl hl.1 rfl (lv_room (Nat.le_of_ble_eq_true rfl)) dX12_oddsBy_35 ⟨Nat.le_of_ble_eq_true rfl, Nat.le_of_ble_eq_true rfl⟩) hS (fun r_24 G_25 H locs hpo hW hS => ?_)
    have hX_28 : Q_stands1 y_18 G_2 r_24 G_25 := hpo
    obtain ⟨hB_G_25, hq_26, f_29, ⟨d_1, d_2⟩, -⟩ := hpo
    have hF := hF.call9 hq_26 rfl rfl
    refine lv_if_ne (tgt := 46) hx hb dX12_oddsBy_38 rfl (fun c_30 => ?_) (fun c_30 => ?_)
    · have c_30 : r_24.toInt ≠ 0 := xI_ne rfl rfl c_30
      refine lv_aload_n hx hb dX12_oddsBy_46 rfl (lv_at hl 3 rfl) ?_
      refine S_getR (n := 98) (C := RX12) (T := TX12) (N := 89) hx hb hg iX12 hown hK hW kd_66 rfl 58 (lt_b rfl) (hg (Cond.fieldLink RX12 115 "SlabWalkModel" "lawful" "[Z") m1372) (fun _ h9 => h9) rfl dX12_oddsBy_47 ?_
      refine lv_iload hx hb dX12_oddsBy_50 (lv_at hl 0 rfl) ?_
      refine S_zald hx hb hK hW kd_98 (vin ((by first | exact ok_1152 f_29.1 f_29.2 d_1 c_30 | omega)) ((by first | exact ok_1227 ha_p0.2 ha_p1.2 f_12.2 ty_16 ty_17 ty_18 | omega))) dX12_oddsBy_52 (fun y_31 ey_31 => ?_)
      have ty_31 := hB_G_25.law ey_31
      have u_32 : y_31.toInt = (G.1 98 y_18.toNatClampNeg).toInt := congrArg Int32.toInt (ey_31.trans (((hq_26.ri9 98 rfl y_18.toNatClampNeg).trans (hq_3.ri9 98 rfl y_18.toNatClampNeg))))
      refine lv_if_eq (tgt := 74) hx hb dX12_oddsBy_53 rfl (fun c_33 => ?_) (fun c_33 => ?_)
      · have c_33 : y_31.toInt = 0 := xI_eq rfl rfl c_33
        refine lv_lconst (v := 0) hx hb dX12_oddsBy_74 (by decide) ?_
        have ht_ : (0 : Int64) = tv (G.1 98) (G.2.1 106) (G.1 66 59).toInt (G.1 66 60).toInt (p0.toInt + p1.toInt + x_6.toInt - 1) p2.toInt p3 := tv_no (x := y_18) (y := y_31) (by omega) (by omega) (by omega) (by omega)
        refine lv_lmul hx hb dX12_oddsBy_75 ?_
        refine lv_topl (fun y_34 ey_34 => ?_)
        refine lv_ladd hx hb dX12_oddsBy_76 ?_
        refine lv_topl (fun y_35 ey_35 => ?_)
        refine lv_lstore (lv' := [(6, .long y_35), (9, .int y_18), (8, .int x_6), (0, .ref (a 66)), (1, .int p0), (2, .int p1), (3, .int p2), (4, .long p3)]) hx hb dX12_oddsBy_77 hl (lt_b rfl) rfl (fun ls hl => ?_)
        obtain ⟨y_36, ey_36⟩ : ∃ q, q = x_6 + 1 := ⟨_, rfl⟩
        have ty_36 : y_36.toInt = x_6.toInt + 1 := xI_add rfl rfl ey_36 ((by first | exact ok_21 f_12.1 | omega)) ((by first | exact ok_43 f_12.2 | omega))
        refine lv_iinc (v := y_36) (lv' := [(8, .int y_36), (6, .long y_35), (9, .int y_18), (0, .ref (a 66)), (1, .int p0), (2, .int p1), (3, .int p2), (4, .long p3)]) hx hb dX12_oddsBy_79 hl (k := 2) rfl (by rw [ey_36]; rfl) (lt_b rfl) rfl (fun ls hl => ?_)
        have ho_37 : y_35 = oS (G.1 96) (G.1 98) (G.2.1 106) (G.1 66 59).toInt (G.1 66 60).toInt (p0.toInt + p1.toInt) p2.toInt p3 (y_36.toInt).toNat := oS_step (k := x_6) (by assumption) (by omega) (y := y_19) (by omega) ey_21 ey_34 ey_35 ht_ (by omega)
        refine lv_goto (tgt := 6) hx hb dX12_oddsBy_82 rfl ?_
        exact ih_4 (3 - y_36.toInt : Int).toNat (by omega) _ _ _ ⟨G_25, y_36, y_35, (Int.toNat_of_nonneg ((by first | exact ok_44 f_12.2 c_15 ty_36 | omega))), ⟨(by first | exact ok_23 f_12.1 ty_36 | omega), (by first | exact ok_45 f_12.2 c_15 ty_36 | omega)⟩, (by assumption), (hX_8.st (St_n_oddsBy_1_mk ⟨x_6, x_7, G_2, y_36, y_35, G_25, rfl, rfl, f_12, f_13, hB_G_2, ⟨c_15, ⟨y_16, ty_16, ⟨y_17, ty_17, ⟨y_18, ty_18, ⟨y_19, ey_19, ⟨y_21, ey_21, ⟨r_24, G_25, hX_28, (Or.inr ⟨c_30, ⟨y_31, ey_31, (Or.inl ⟨c_33, ⟨y_34, ey_34, ⟨y_35, ey_35, ⟨y_36, ty_36, ⟨rfl, rfl, rfl⟩⟩⟩⟩⟩)⟩⟩)⟩⟩⟩⟩⟩⟩⟩⟩)), hW, hB_G_25, hF, (Fr.call9 (rs := []) (fs := []) (Fr.call9 (rs := []) (fs := []) Fr.rf hq_3 rfl rfl) hq_26 rfl rfl), hS, lv_sub hl [0, 1, 3, 4, 5, 6, 7] rfl⟩
      · have c_33 : y_31.toInt ≠ 0 := xI_ne rfl rfl c_33
        refine lv_aload_n hx hb dX12_oddsBy_56 rfl (lv_at hl 3 rfl) ?_
        refine S_getR (n := 106) (C := RX12) (T := TX12) (N := 89) hx hb hg iX12 hown hK hW kd_66 rfl 72 (lt_b rfl) (hg (Cond.fieldLink RX12 139 "SlabWalkModel" "odds" "[J") m1386) (fun _ h9 => h9) rfl dX12_oddsBy_57 ?_
        refine lv_sipush (v := 512) hx hb dX12_oddsBy_60 (by decide) ?_
        refine lv_iload_n hx hb dX12_oddsBy_63 rfl (lv_at hl 6 rfl) ?_
        refine ic_1 hx hb dX12_oddsBy_64 ?_
        refine lv_isub hx hb dX12_oddsBy_65 ?_
        refine lv_topi (fun y_38 ey_38 => ?_)
        have ty_38 : y_38.toInt = p2.toInt - 1 := xI_sub rfl rfl ey_38 ((by first | exact ok_275 ha_p2.1 | omega)) ((by first | exact ok_1228 ha_p2.2 | omega))
        refine lv_imul hx hb dX12_oddsBy_66 ?_
        refine lv_topi (fun y_39 ey_39 => ?_)
        have ty_39 : y_39.toInt = 512 * y_38.toInt := xI_mul rfl rfl ey_39 ((by first | exact ok_1229 ha_p2.1 ty_38 | omega)) ((by first | exact ok_1230 ha_p2.2 ty_38 | omega))
        refine lv_iload hx hb dX12_oddsBy_67 (lv_at hl 0 rfl) ?_
        refine lv_iadd hx hb dX12_oddsBy_69 ?_
        refine lv_topi (fun y_40 ey_40 => ?_)
        have ty_40 : y_40.toInt = y_39.toInt + y_18.toInt := xI_add rfl rfl ey_40 ((by first | exact ok_1231 ha_p0.1 ha_p1.1 ha_p2.1 f_12.1 ty_16 ty_17 ty_18 ty_38 ty_39 | omega)) ((by first | exact ok_1232 ha_p0.2 ha_p1.2 ha_p2.2 f_12.2 ty_16 ty_17 ty_18 ty_38 ty_39 | omega))
        refine S_lald hx hb hK hW kd_106 (vin ((by first | exact ok_1233 ha_p2.1 f_29.1 f_29.2 d_1 c_30 ty_38 ty_39 ty_40 | omega)) ((by first | exact ok_1234 ha_p0.2 ha_p1.2 ha_p2.2 f_12.2 ty_16 ty_17 ty_18 ty_38 ty_39 ty_40 | omega))) dX12_oddsBy_70 (fun y_41 ey_41 => ?_)
        refine lv_goto (tgt := 75) hx hb dX12_oddsBy_71 rfl ?_
        have ht_ : y_41 = tv (G.1 98) (G.2.1 106) (G.1 66 59).toInt (G.1 66 60).toInt (p0.toInt + p1.toInt + x_6.toInt - 1) p2.toInt p3 := tv_law (x := y_18) (y := y_31) (by omega) (by omega) (by omega) (by omega) (v := y_40) (by omega) (ey_41.trans (congrFun (show G_25.2.1 106 = G.2.1 106 from (Fr.rowsl (rs := []) (fs := []) (i := 106) (Fr.call9 (rs := []) (fs := []) (Fr.call9 (rs := []) (fs := []) Fr.rf hq_3 rfl rfl) hq_26 rfl rfl) (by decide))) _))
        refine lv_lmul hx hb dX12_oddsBy_75 ?_
        refine lv_topl (fun y_42 ey_42 => ?_)
        refine lv_ladd hx hb dX12_oddsBy_76 ?_
        refine lv_topl (fun y_43 ey_43 => ?_)
        refine lv_lstore (lv' := [(6, .long y_43), (9, .int y_18), (8, .int x_6), (0, .ref (a 66)), (1, .int p0), (2, .int p1), (3, .int p2), (4, .long p3)]) hx hb dX12_oddsBy_77 hl (lt_b rfl) rfl (fun ls hl => ?_)
        obtain ⟨y_44, ey_44⟩ : ∃ q, q = x_6 + 1 := ⟨_, rfl⟩
        have ty_44 : y_44.toInt = x_6.toInt + 1 := xI_add rfl rfl ey_44 ((by first | exact ok_21 f_12.1 | omega)) ((by first | exact ok_43 f_12.2 | omega))
        refine lv_iinc (v := y_44) (lv' := [(8, .int y_44), (6, .long y_43), (9, .int y_18), (0, .ref (a 66)), (1, .int p0), (2, .int p1), (3, .int p2), (4, .long p3)]) hx hb dX12_oddsBy_79 hl (k := 2) rfl (by rw [ey_44]; rfl) (lt_b rfl) rfl (fun ls hl => ?_)
        have ho_45 : y_43 = oS (G.1 96) (G.1 98) (G.2.1 106) (G.1 66 59).toInt (G.1 66 60).toInt (p0.toInt + p1.toInt) p2.toInt p3 (y_44.toInt).toNat := oS_step (k := x_6) (by assumption) (by omega) (y := y_19) (by omega) ey_21 ey_42 ey_43 ht_ (by omega)
        refine lv_goto (tgt := 6) hx hb dX12_oddsBy_82 rfl ?_
        exact ih_4 (3 - y_44.toInt : Int).toNat (by omega) _ _ _ ⟨G_25, y_44, y_43, (Int.toNat_of_nonneg ((by first | exact ok_44 f_12.2 c_15 ty_44 | omega))), ⟨(by first | exact ok_23 f_12.1 ty_44 | omega), (by first | exact ok_45 f_12.2 c_15 ty_44 | omega)⟩, (by assumption), (hX_8.st (St_n_oddsBy_1_mk ⟨x_6, x_7, G_2, y_44, y_43, G_25, rfl, rfl, f_12, f_13, hB_G_2, ⟨c_15, ⟨y_16, ty_16, ⟨y_17, ty_17, ⟨y_18, ty_18, ⟨y_19, ey_19, ⟨y_21, ey_21, ⟨r_24, G_25, hX_28, (Or.inr ⟨c_30, ⟨y_31, ey_31, (Or.inr ⟨c_33, ⟨y_38, ty_38, ⟨y_39, ty_39, ⟨y_40, ty_40, ⟨y_41, ey_41, ⟨y_42, ey_42, ⟨y_43, ey_43, ⟨y_44, ty_44, ⟨rfl, rfl, rfl⟩⟩⟩⟩⟩⟩⟩⟩⟩)⟩⟩)⟩⟩⟩⟩⟩⟩⟩⟩)), hW, hB_G_25, hF, (Fr.call9 (rs := []) (fs := []) (Fr.call9 (rs := []) (fs := []) Fr.rf hq_3 rfl rfl) hq_26 rfl rfl), hS, lv_sub hl [0, 1, 3, 4, 5, 6, 7] rfl⟩
    · have c_30 : r_24.toInt = 0 := xI_eq rfl rfl c_30
      refine lv_lload hx hb dX12_oddsBy_41 (lv_at hl 7 rfl) ?_
      refine lv_goto (tgt := 75) hx hb dX12_oddsBy_43 rfl ?_
      have ht_ : p3 = tv (G.1 98) (G.2.1 106) (G.1 66 59).toInt (G.1 66 60).toInt (p0.toInt + p1.toInt + x_6.toInt - 1) p2.toInt p3 := tv_out (by omega)
      refine lv_lmul hx hb dX12_oddsBy_75 ?_
      refine lv_topl (fun y_46 ey_46 => ?_)
      refine lv_ladd hx hb dX12_oddsBy_76 ?_
      refine lv_topl (fun y_47 ey_47 => ?_)
      refine lv_lstore (lv' := [(6, .long y_47), (9, .int y_18), (8, .int x_6), (0, .ref (a 66)), (1, .int p0), (2, .int p1), (3, .int p2), (4, .long p3)]) hx hb dX12_oddsBy_77 hl (lt_b rfl) rfl (fun ls hl => ?_)
      obtain ⟨y_48, ey_48⟩ : ∃ q, q = x_6 + 1 := ⟨_, rfl⟩
      have ty_48 : y_48.toInt = x_6.toInt + 1 := xI_add rfl rfl ey_48 ((by first | exact ok_21 f_12.1 | omega)) ((by first | exact ok_43 f_12.2 | omega))
      refine lv_iinc (v := y_48) (lv' := [(8, .int y_48), (6, .long y_47), (9, .int y_18), (0, .ref (a 66)), (1, .int p0), (2, .int p1), (3, .int p2), (4, .long p3)]) hx hb dX12_oddsBy_79 hl (k := 2) rfl (by rw [ey_48]; rfl) (lt_b rfl) rfl (fun ls hl => ?_)
      have ho_49 : y_47 = oS (G.1 96) (G.1 98) (G.2.1 106) (G.1 66 59).toInt (G.1 66 60).toInt (p0.toInt + p1.toInt) p2.toInt p3 (y_48.toInt).toNat := oS_step (k := x_6) (by assumption) (by omega) (y := y_19) (by omega) ey_21 ey_46 ey_47 ht_ (by omega)
      refine lv_goto (tgt := 6) hx hb dX12_oddsBy_82 rfl ?_
      exact ih_4 (3 - y_48.toInt : Int).toNat (by omega) _ _ _ ⟨G_25, y_48, y_47, (Int.toNat_of_nonneg ((by first | exact ok_44 f_12.2 c_15 ty_48 | omega))), ⟨(by first | exact ok_23 f_12.1 ty_48 | omega), (by first | exact ok_45 f_12.2 c_15 ty_48 | omega)⟩, (by assumption), (hX_8.st (St_n_oddsBy_1_mk ⟨x_6, x_7, G_2, y_48, y_47, G_25, rfl, rfl, f_12, f_13, hB_G_2, ⟨c_15, ⟨y_16, ty_16, ⟨y_17, ty_17, ⟨y_18, ty_18, ⟨y_19, ey_19, ⟨y_21, ey_21, ⟨r_24, G_25, hX_28, (Or.inl ⟨c_30, ⟨y_46, ey_46, ⟨y_47, ey_47, ⟨y_48, ty_48, ⟨rfl, rfl, rfl⟩⟩⟩⟩⟩)⟩⟩⟩⟩⟩⟩⟩⟩)), hW, hB_G_25, hF, (Fr.call9 (rs := []) (fs := []) (Fr.call9 (rs := []) (fs := []) Fr.rf hq_3 rfl rfl) hq_26 rfl rfl), hS, lv_sub hl [0, 1, 3, 4, 5, 6, 7] rfl⟩

set_option maxHeartbeats 4000000 in
set_option maxRecDepth 100000 in
theorem n_rest (l : Launch) (D : va_G) (k : KT) (A : Nat → Prop) (a : Nat → Nat) (z : SK) (G : GS) (p0 : Int32) (ha_p0 : 0 ≤ p0.toInt ∧ p0.toInt ≤ 7) : Met l yX12_rest (WS yX12_rest cX12_rest 5 (some .long)) ({ frames := 1, cells := 0, slots := 0, locals := 20 }) (va_Pc [.ref (a 66), .int p0] (cW D k A a z G)) (va_Ql (fun (r : Int64) (G1 : GS) => Q_rest p0 G r G1) (fun (G1 : GS) t => Wd D k A a G1 t.heap) A) 0 0 A := by
  refine Met.ofW (cc := cX12_rest) (maxL := 5) (ret := (some .long)) (by decide) rfl ?_
  intro p e s m args below meth c s₁ B hml hv
  obtain ⟨rfl, hW, hB_G, hK, hZ⟩ := hv
  have hx := B.exec
  have hb := B.bytes
  have hr := B.returns
  have hts := atoms_spec (ws := WS yX12_rest cX12_rest 5 (some .long)) B.pre
  have hgd : ∀ w ∈ gd, w ∈ WS yX12_rest cX12_rest 5 (some .long) := fun w h => List.mem_cons_of_mem _ h
  have hg : ∀ w ∈ gd, w.before _ s = true := fun w h => hts w (hgd w h)
  have hown : s.vm.findClass RX12 = some m.cls := findClass_of_methodNamed B.named
  have hS : va_S A s.heap s.heap [] := va_S.rf
  have hF : Fr [] [] G G := Fr.rf
  have hl := lv_entry ([.ref (a 66), .int p0]) (n := 5) (Nat.le_of_ble_eq_true rfl)
  rw [lg_entry_eq]
  generalize (lg_sl ([.ref (a 66), .int p0]) ++ List.replicate (5 - (lg_sl ([.ref (a 66), .int p0])).length) Slot.unset).toArray = ls at hl ⊢
  have hl : lv_has ls 5 [(0, .ref (a 66)), (1, .int p0)] := hl
  refine lv_lconst (v := 1) hx hb dX12_rest_0 (by decide) ?_
  refine lv_lstore_n (lv' := [(2, .long 1), (0, .ref (a 66)), (1, .int p0)]) hx hb dX12_rest_1 rfl hl (lt_b rfl) rfl (fun ls hl => ?_)
  have ho_1 : (1 : Int64) = rS (aS G).toInt64 ((0 : Int32).toInt).toNat := rfl
  refine ic_0 hx hb dX12_rest_2 ?_
  refine lv_istore (lv' := [(4, .int 0), (2, .long 1), (0, .ref (a 66)), (1, .int p0)]) hx hb dX12_rest_3 hl (lt_b rfl) rfl (fun ls hl => ?_)
  have qc_9 : (0 : Int32).toInt = 0 := rfl
  refine loop_N (Inv := fun n H locs ls => ∃ (G_2 : GS) (x_6 : Int32) (x_7 : Int64), (n : Int) = 7 - x_6.toInt ∧ (0 ≤ x_6.toInt ∧ x_6.toInt ≤ 7) ∧ (x_7 = rS (aS G).toInt64 (x_6.toInt).toNat) ∧ (x_6.toInt ≤ p0.toInt) ∧ Rc (St_n_rest_1 p0 G) (0, 1, G) (x_6, x_7, G_2) ∧ Wd D k A a G_2 H ∧ Bd G_2 ∧ Fr [] [] G G_2 ∧ Fr [] [] G G_2 ∧ va_S A s.heap H locs ∧ lv_has ls 5 [(4, .int x_6), (2, .long x_7), (0, .ref (a 66)), (1, .int p0)]) (fun n_5 H locs ls ih_4 hI => ?_) (7 - 0 : Int).toNat ⟨G, 0, 1, (Int.toNat_of_nonneg ((by decide))), ⟨(by decide), (by decide)⟩, (by assumption), ((by first | exact ha_p0.1 | omega)), Rc.rf, hW, hB_G, hF, Fr.rf, hS, lv_sub hl [0, 1, 2, 3] rfl⟩
  obtain ⟨G_2, x_6, x_7, hn_13, f_10, f_11, f_12, hX_8, hW, hB_G_2, hF, hq_3, hS, hl⟩ := hI
  refine lv_iload hx hb dX12_rest_5 (lv_at hl 0 rfl) ?_
  refine lv_iload_n hx hb dX12_rest_7 rfl (lv_at hl 3 rfl) ?_
  refine lv_icmp_ge (tgt := 25) hx hb dX12_rest_8 rfl (fun c_14 => ?_) (fun c_14 => ?_)
  · have c_14 : p0.toInt ≤ x_6.toInt := xI_le rfl rfl c_14
    refine lv_lload_n hx hb dX12_rest_25 rfl (lv_at hl 1 rfl) ?_
    exact W.lret (v := x_7) hx hb hr (fun t ht _ => ⟨⟨x_7, G_2, rfl, (Q_rest_mk ⟨hB_G_2, hF, (show x_7 = rS (aS G).toInt64 p0.toInt.toNat from by have h : x_7 = rS (aS G).toInt64 (x_6.toInt).toNat := (by assumption); rw [show x_6.toInt = p0.toInt from by omega] at h; exact h), ⟨x_6, x_7, G_2, hX_8, f_10, f_11, f_12, hB_G_2, hq_3, ⟨c_14, ⟨rfl, rfl⟩⟩⟩⟩), wd_t ht hW⟩, hS.F ht⟩) hS.2.2 dX12_rest_26
  · have c_14 : x_6.toInt < p0.toInt := xI_nle rfl rfl c_14
    refine lv_lload_n hx hb dX12_rest_11 rfl (lv_at hl 1 rfl) ?_
    refine lv_aload_n hx hb dX12_rest_12 rfl (lv_at hl 2 rfl) ?_
    have b_15 : 0 ≤ (G.1 96 0).toInt ∧ (G.1 96 0).toInt ≤ 9 := bd_96_0 hB_G
    have g_16 : (G_2.1 96 0).toInt = (G.1 96 0).toInt := (congrArg Int32.toInt (show G_2.1 96 0 = (G.1 96 0) from (hq_3.i9 96 0 rfl rfl)))
    have b_17 : 0 ≤ (G.1 96 1).toInt ∧ (G.1 96 1).toInt ≤ 9 := bd_96_1 hB_G
    have g_18 : (G_2.1 96 1).toInt = (G.1 96 1).toInt := (congrArg Int32.toInt (show G_2.1 96 1 = (G.1 96 1) from (hq_3.i9 96 1 rfl rfl)))
    have b_19 : 0 ≤ (G.1 96 2).toInt ∧ (G.1 96 2).toInt ≤ 9 := bd_96_2 hB_G
    have g_20 : (G_2.1 96 2).toInt = (G.1 96 2).toInt := (congrArg Int32.toInt (show G_2.1 96 2 = (G.1 96 2) from (hq_3.i9 96 2 rfl rfl)))
    refine S_calli (va_runV (As := []) (rest := [.long x_7]) ⟨hx, hb, hml, hown, hts⟩ (n_allSlips l D k A a z G_2  ) (cwV 0 hts (gd_V hgd m1955 m1957 m106 m131 m1958) rfl rfl rfl hd_X12_allSlips ⟨Nat.le_of_ble_eq_true rfl, Nat.le_of_ble_eq_true rfl⟩) (pre_W hW hB_G_2 hK hZ hS kd_66 rfl) rfl rfl hl.1 rfl (lv_room (Nat.le_of_ble_eq_true rfl)) dX12_rest_13 ⟨Nat.le_of_ble_eq_true rfl, Nat.le_of_ble_eq_true rfl⟩) hS (fun r_21 G_22 H locs hpo hW hS => ?_)
    have hX_25 : Q_allSlips G_2 r_21 G_22 := hpo
    obtain ⟨hB_G_22, hq_23, f_26, hp_24, -⟩ := hpo
    have hF := hF.call9 hq_23 rfl rfl
    have g_27 : (G_2.1 96 0).toInt = (G.1 96 0).toInt := (congrArg Int32.toInt (show G_2.1 96 0 = (G.1 96 0) from ((hq_3.i9 96 0 rfl rfl).trans (rfl))))
    have g_28 : (G_2.1 96 1).toInt = (G.1 96 1).toInt := (congrArg Int32.toInt (show G_2.1 96 1 = (G.1 96 1) from ((hq_3.i9 96 1 rfl rfl).trans (rfl))))
    have g_29 : (G_2.1 96 2).toInt = (G.1 96 2).toInt := (congrArg Int32.toInt (show G_2.1 96 2 = (G.1 96 2) from ((hq_3.i9 96 2 rfl rfl).trans (rfl))))
    have hra_ := aS_eq (G := G) (r := r_21) (by first | (clear ha_p0 hn_13 f_10 f_11 f_12 c_14; omega) | omega)
    refine lv_i2l hx hb dX12_rest_16 rfl ?_
    refine lv_topl (fun y_30 ey_30 => ?_)
    refine lv_lmul hx hb dX12_rest_17 ?_
    refine lv_topl (fun y_31 ey_31 => ?_)
    refine lv_lstore_n (lv' := [(2, .long y_31), (4, .int x_6), (0, .ref (a 66)), (1, .int p0)]) hx hb dX12_rest_18 rfl hl (lt_b rfl) rfl (fun ls hl => ?_)
    obtain ⟨y_32, ey_32⟩ : ∃ q, q = x_6 + 1 := ⟨_, rfl⟩
    have ty_32 : y_32.toInt = x_6.toInt + 1 := xI_add rfl rfl ey_32 ((by first | exact ok_21 f_10.1 | omega)) ((by first | exact ok_381 f_10.2 | omega))
    refine lv_iinc (v := y_32) (lv' := [(4, .int y_32), (2, .long y_31), (0, .ref (a 66)), (1, .int p0)]) hx hb dX12_rest_19 hl (k := 1) rfl (by rw [ey_32]; rfl) (lt_b rfl) rfl (fun ls hl => ?_)
    have ho_33 : y_31 = rS (aS G).toInt64 (y_32.toInt).toNat := rS_step (n := 0) (k := x_6) (r := r_21) (by assumption) (by omega) ey_30 ey_31 (by rw [hra_]) (by omega)
    refine lv_goto (tgt := 5) hx hb dX12_rest_22 rfl ?_
    exact ih_4 (7 - y_32.toInt : Int).toNat ((by first | (clear b_15 g_16 b_17 g_18 b_19 g_20 f_26 hp_24 g_27 g_28 g_29; omega) | omega)) _ _ _ ⟨G_22, y_32, y_31, (Int.toNat_of_nonneg ((by first | exact ok_1235 ha_p0.2 f_10.2 c_14 ty_32 | omega))), ⟨(by first | exact ok_23 f_10.1 ty_32 | omega), (by first | exact ok_1236 ha_p0.2 f_10.2 c_14 ty_32 | omega)⟩, (by assumption), ((by first | exact ok_738 c_14 ty_32 | omega)), (hX_8.st (St_n_rest_1_mk ⟨x_6, x_7, G_2, y_32, y_31, G_22, rfl, rfl, f_10, f_11, f_12, hB_G_2, ⟨c_14, ⟨r_21, G_22, hX_25, ⟨y_30, ey_30, ⟨y_31, ey_31, ⟨y_32, ty_32, ⟨rfl, rfl, rfl⟩⟩⟩⟩⟩⟩⟩)), hW, hB_G_22, hF, (Fr.call9 (rs := []) (fs := []) (Fr.call9 (rs := []) (fs := []) Fr.rf hq_3 rfl rfl) hq_23 rfl rfl), hS, lv_sub hl [0, 1, 2, 3] rfl⟩

theorem m103 : Cond.selects RX12 yX12_layBold yX12_layBold ∈ gd := gds_7 7 rfl
theorem m104 : Cond.selects RX12 yX12_bestOdds yX12_bestOdds ∈ gd := gds_7 8 rfl
theorem m105 : Cond.selects RX12 yX12_rest yX12_rest ∈ gd := gds_7 9 rfl
theorem m107 : Cond.selects RX12 yX12_oddsBy yX12_oddsBy ∈ gd := gds_7 11 rfl
theorem m1943 : Cond.methodLink RX12 568 yX12_layBold ∈ gd := gdc_8_9 3 rfl gw_methodLink
theorem m1945 : Cond.instanceMethod yX12_layBold ∈ gd := gdc_8_9 5 rfl gw_instanceMethod
theorem m1946 : Cond.code yX12_layBold cX12_layBold 8 (some .boolean) ∈ gd := gdc_8_9 6 rfl gw_code
theorem m1947 : Cond.methodLink RX12 564 yX12_bestOdds ∈ gd := gdc_8_9 7 rfl gw_methodLink
theorem m1949 : Cond.instanceMethod yX12_bestOdds ∈ gd := gdc_8_9 9 rfl gw_instanceMethod
theorem m1950 : Cond.code yX12_bestOdds cX12_bestOdds 8 (some .long) ∈ gd := gdc_8_9 10 rfl gw_code
theorem m1951 : Cond.methodLink RX12 556 yX12_rest ∈ gd := gdc_8_9 11 rfl gw_methodLink
theorem m1953 : Cond.instanceMethod yX12_rest ∈ gd := gdc_8_9 13 rfl gw_instanceMethod
theorem m1954 : Cond.code yX12_rest cX12_rest 5 (some .long) ∈ gd := gdc_8_9 14 rfl gw_code
theorem m1959 : Cond.methodLink RX12 560 yX12_oddsBy ∈ gd := gdc_8_10 3 rfl gw_methodLink
theorem m1961 : Cond.instanceMethod yX12_oddsBy ∈ gd := gdc_8_10 5 rfl gw_instanceMethod
theorem m1962 : Cond.code yX12_oddsBy cX12_oddsBy 10 (some .long) ∈ gd := gdc_8_10 6 rfl gw_code
noncomputable def rbX12_bestOdds_0 : List (Nat × List Nat) := [(0, [9]), (1, [66]), (2, [42]), (3, [180, 1, 219]), (6, [54, 5]), (8, [21, 5]), (10, [42]), (11, [180, 1, 222]), (14, [163, 0, 40]), (17, [42]), (18, [27]), (19, [21, 5]), (21, [28]), (22, [42]), (23, [28]), (24, [4]), (25, [100]), (26, [182, 2, 44]), (29, [182, 2, 48]), (32, [55, 6]), (34, [22, 6]), (36, [33]), (37, [148]), (38, [158, 0, 8])]
theorem rcX12_bestOdds_0 : dgo (lb cX12_bestOdds) 0 rbX12_bestOdds_0 = true := by decide +kernel
theorem dX12_bestOdds_0 : decode cX12_bestOdds 0 = .ok (.lconst 0, 1) := dk_9 (dw rcX12_bestOdds_0 0 rfl)
theorem dX12_bestOdds_1 : decode cX12_bestOdds 1 = .ok (.lstore_n 3, 1) := dk_66 (dw rcX12_bestOdds_0 1 rfl)
theorem dX12_bestOdds_2 : decode cX12_bestOdds 2 = .ok (.aload_n 0, 1) := dk_42 (dw rcX12_bestOdds_0 2 rfl)
theorem dX12_bestOdds_3 : decode cX12_bestOdds 3 = .ok (.getfield 475, 3) := dk_180 (dw rcX12_bestOdds_0 3 rfl) rfl
theorem dX12_bestOdds_6 : decode cX12_bestOdds 6 = .ok (.istore 5, 2) := dk_54 (dw rcX12_bestOdds_0 4 rfl)
theorem dX12_bestOdds_8 : decode cX12_bestOdds 8 = .ok (.iload 5, 2) := dk_21 (dw rcX12_bestOdds_0 5 rfl)
theorem dX12_bestOdds_10 : decode cX12_bestOdds 10 = .ok (.aload_n 0, 1) := dk_42 (dw rcX12_bestOdds_0 6 rfl)
theorem dX12_bestOdds_11 : decode cX12_bestOdds 11 = .ok (.getfield 478, 3) := dk_180 (dw rcX12_bestOdds_0 7 rfl) rfl
theorem dX12_bestOdds_14 : decode cX12_bestOdds 14 = .ok (.if_icmp .gt 40, 3) := dk_163 (dw rcX12_bestOdds_0 8 rfl) rfl
theorem dX12_bestOdds_17 : decode cX12_bestOdds 17 = .ok (.aload_n 0, 1) := dk_42 (dw rcX12_bestOdds_0 9 rfl)
theorem dX12_bestOdds_18 : decode cX12_bestOdds 18 = .ok (.iload_n 1, 1) := dk_27 (dw rcX12_bestOdds_0 10 rfl)
theorem dX12_bestOdds_19 : decode cX12_bestOdds 19 = .ok (.iload 5, 2) := dk_21 (dw rcX12_bestOdds_0 11 rfl)
theorem dX12_bestOdds_21 : decode cX12_bestOdds 21 = .ok (.iload_n 2, 1) := dk_28 (dw rcX12_bestOdds_0 12 rfl)
theorem dX12_bestOdds_22 : decode cX12_bestOdds 22 = .ok (.aload_n 0, 1) := dk_42 (dw rcX12_bestOdds_0 13 rfl)
theorem dX12_bestOdds_23 : decode cX12_bestOdds 23 = .ok (.iload_n 2, 1) := dk_28 (dw rcX12_bestOdds_0 14 rfl)
theorem dX12_bestOdds_24 : decode cX12_bestOdds 24 = .ok (.iconst 1, 1) := dk_4 (dw rcX12_bestOdds_0 15 rfl)
theorem dX12_bestOdds_25 : decode cX12_bestOdds 25 = .ok (.isub, 1) := dk_100 (dw rcX12_bestOdds_0 16 rfl)
theorem dX12_bestOdds_26 : decode cX12_bestOdds 26 = .ok (.invokevirtual 556, 3) := dk_182 (dw rcX12_bestOdds_0 17 rfl) rfl
theorem dX12_bestOdds_29 : decode cX12_bestOdds 29 = .ok (.invokevirtual 560, 3) := dk_182 (dw rcX12_bestOdds_0 18 rfl) rfl
theorem dX12_bestOdds_32 : decode cX12_bestOdds 32 = .ok (.lstore 6, 2) := dk_55 (dw rcX12_bestOdds_0 19 rfl)
theorem dX12_bestOdds_34 : decode cX12_bestOdds 34 = .ok (.lload 6, 2) := dk_22 (dw rcX12_bestOdds_0 20 rfl)
theorem dX12_bestOdds_36 : decode cX12_bestOdds 36 = .ok (.lload_n 3, 1) := dk_33 (dw rcX12_bestOdds_0 21 rfl)
theorem dX12_bestOdds_37 : decode cX12_bestOdds 37 = .ok (.lcmp, 1) := dk_148 (dw rcX12_bestOdds_0 22 rfl)
theorem dX12_bestOdds_38 : decode cX12_bestOdds 38 = .ok (.ifCond .le 8, 3) := dk_158 (dw rcX12_bestOdds_0 23 rfl) rfl
noncomputable def rbX12_bestOdds_41 : List (Nat × List Nat) := [(41, [22, 6]), (43, [167, 0, 4]), (46, [33]), (47, [66]), (48, [132, 5, 1]), (51, [167, 255, 213]), (54, [33]), (55, [173])]
theorem rcX12_bestOdds_41 : dgo (lb cX12_bestOdds) 0 rbX12_bestOdds_41 = true := by decide +kernel
theorem dX12_bestOdds_41 : decode cX12_bestOdds 41 = .ok (.lload 6, 2) := dk_22 (dw rcX12_bestOdds_41 0 rfl)
theorem dX12_bestOdds_43 : decode cX12_bestOdds 43 = .ok (.goto 4, 3) := dk_167 (dw rcX12_bestOdds_41 1 rfl) rfl
theorem dX12_bestOdds_46 : decode cX12_bestOdds 46 = .ok (.lload_n 3, 1) := dk_33 (dw rcX12_bestOdds_41 2 rfl)
theorem dX12_bestOdds_47 : decode cX12_bestOdds 47 = .ok (.lstore_n 3, 1) := dk_66 (dw rcX12_bestOdds_41 3 rfl)
theorem dX12_bestOdds_48 : decode cX12_bestOdds 48 = .ok (.iinc 5 1, 3) := dk_132 (dw rcX12_bestOdds_41 4 rfl) rfl
theorem dX12_bestOdds_51 : decode cX12_bestOdds 51 = .ok (.goto (-43), 3) := dk_167 (dw rcX12_bestOdds_41 5 rfl) rfl
theorem dX12_bestOdds_54 : decode cX12_bestOdds 54 = .ok (.lload_n 3, 1) := dk_33 (dw rcX12_bestOdds_41 6 rfl)
theorem dX12_bestOdds_55 : decode cX12_bestOdds 55 = .ok (.lreturn, 1) := dk_173 (dw rcX12_bestOdds_41 7 rfl)
noncomputable def rbX12_boldest_0 : List (Nat × List Nat) := [(0, [42]), (1, [27]), (2, [28]), (3, [29]), (4, [21, 4]), (6, [21, 5]), (8, [182, 2, 56]), (11, [154, 0, 5]), (14, [2]), (15, [172]), (16, [42]), (17, [21, 4]), (19, [21, 5]), (21, [182, 2, 52]), (24, [55, 6]), (26, [42]), (27, [180, 1, 219]), (30, [54, 8]), (32, [42]), (33, [21, 4]), (35, [21, 8]), (37, [21, 5]), (39, [42]), (40, [21, 5])]
theorem rcX12_boldest_0 : dgo (lb cX12_boldest) 0 rbX12_boldest_0 = true := by decide +kernel
theorem dX12_boldest_0 : decode cX12_boldest 0 = .ok (.aload_n 0, 1) := dk_42 (dw rcX12_boldest_0 0 rfl)
theorem dX12_boldest_1 : decode cX12_boldest 1 = .ok (.iload_n 1, 1) := dk_27 (dw rcX12_boldest_0 1 rfl)
theorem dX12_boldest_2 : decode cX12_boldest 2 = .ok (.iload_n 2, 1) := dk_28 (dw rcX12_boldest_0 2 rfl)
theorem dX12_boldest_3 : decode cX12_boldest 3 = .ok (.iload_n 3, 1) := dk_29 (dw rcX12_boldest_0 3 rfl)
theorem dX12_boldest_4 : decode cX12_boldest 4 = .ok (.iload 4, 2) := dk_21 (dw rcX12_boldest_0 4 rfl)
theorem dX12_boldest_6 : decode cX12_boldest 6 = .ok (.iload 5, 2) := dk_21 (dw rcX12_boldest_0 5 rfl)
theorem dX12_boldest_8 : decode cX12_boldest 8 = .ok (.invokevirtual 568, 3) := dk_182 (dw rcX12_boldest_0 6 rfl) rfl
theorem dX12_boldest_11 : decode cX12_boldest 11 = .ok (.ifCond .ne 5, 3) := dk_154 (dw rcX12_boldest_0 7 rfl) rfl
theorem dX12_boldest_14 : decode cX12_boldest 14 = .ok (.iconst (-1), 1) := dk_2 (dw rcX12_boldest_0 8 rfl)
theorem dX12_boldest_15 : decode cX12_boldest 15 = .ok (.ireturn, 1) := dk_172 (dw rcX12_boldest_0 9 rfl)
theorem dX12_boldest_16 : decode cX12_boldest 16 = .ok (.aload_n 0, 1) := dk_42 (dw rcX12_boldest_0 10 rfl)
theorem dX12_boldest_17 : decode cX12_boldest 17 = .ok (.iload 4, 2) := dk_21 (dw rcX12_boldest_0 11 rfl)
theorem dX12_boldest_19 : decode cX12_boldest 19 = .ok (.iload 5, 2) := dk_21 (dw rcX12_boldest_0 12 rfl)
theorem dX12_boldest_21 : decode cX12_boldest 21 = .ok (.invokevirtual 564, 3) := dk_182 (dw rcX12_boldest_0 13 rfl) rfl
theorem dX12_boldest_24 : decode cX12_boldest 24 = .ok (.lstore 6, 2) := dk_55 (dw rcX12_boldest_0 14 rfl)
theorem dX12_boldest_26 : decode cX12_boldest 26 = .ok (.aload_n 0, 1) := dk_42 (dw rcX12_boldest_0 15 rfl)
theorem dX12_boldest_27 : decode cX12_boldest 27 = .ok (.getfield 475, 3) := dk_180 (dw rcX12_boldest_0 16 rfl) rfl
theorem dX12_boldest_30 : decode cX12_boldest 30 = .ok (.istore 8, 2) := dk_54 (dw rcX12_boldest_0 17 rfl)
theorem dX12_boldest_32 : decode cX12_boldest 32 = .ok (.aload_n 0, 1) := dk_42 (dw rcX12_boldest_0 18 rfl)
theorem dX12_boldest_33 : decode cX12_boldest 33 = .ok (.iload 4, 2) := dk_21 (dw rcX12_boldest_0 19 rfl)
theorem dX12_boldest_35 : decode cX12_boldest 35 = .ok (.iload 8, 2) := dk_21 (dw rcX12_boldest_0 20 rfl)
theorem dX12_boldest_37 : decode cX12_boldest 37 = .ok (.iload 5, 2) := dk_21 (dw rcX12_boldest_0 21 rfl)
theorem dX12_boldest_39 : decode cX12_boldest 39 = .ok (.aload_n 0, 1) := dk_42 (dw rcX12_boldest_0 22 rfl)
theorem dX12_boldest_40 : decode cX12_boldest 40 = .ok (.iload 5, 2) := dk_21 (dw rcX12_boldest_0 23 rfl)
noncomputable def rbX12_boldest_42 : List (Nat × List Nat) := [(42, [4]), (43, [100]), (44, [182, 2, 44]), (47, [182, 2, 48]), (50, [22, 6]), (52, [148]), (53, [153, 0, 9]), (56, [132, 8, 1]), (59, [167, 255, 229]), (62, [21, 8]), (64, [172])]
theorem rcX12_boldest_42 : dgo (lb cX12_boldest) 0 rbX12_boldest_42 = true := by decide +kernel
theorem dX12_boldest_42 : decode cX12_boldest 42 = .ok (.iconst 1, 1) := dk_4 (dw rcX12_boldest_42 0 rfl)
theorem dX12_boldest_43 : decode cX12_boldest 43 = .ok (.isub, 1) := dk_100 (dw rcX12_boldest_42 1 rfl)
theorem dX12_boldest_44 : decode cX12_boldest 44 = .ok (.invokevirtual 556, 3) := dk_182 (dw rcX12_boldest_42 2 rfl) rfl
theorem dX12_boldest_47 : decode cX12_boldest 47 = .ok (.invokevirtual 560, 3) := dk_182 (dw rcX12_boldest_42 3 rfl) rfl
theorem dX12_boldest_50 : decode cX12_boldest 50 = .ok (.lload 6, 2) := dk_22 (dw rcX12_boldest_42 4 rfl)
theorem dX12_boldest_52 : decode cX12_boldest 52 = .ok (.lcmp, 1) := dk_148 (dw rcX12_boldest_42 5 rfl)
theorem dX12_boldest_53 : decode cX12_boldest 53 = .ok (.ifCond .eq 9, 3) := dk_153 (dw rcX12_boldest_42 6 rfl) rfl
theorem dX12_boldest_56 : decode cX12_boldest 56 = .ok (.iinc 8 1, 3) := dk_132 (dw rcX12_boldest_42 7 rfl) rfl
theorem dX12_boldest_59 : decode cX12_boldest 59 = .ok (.goto (-27), 3) := dk_167 (dw rcX12_boldest_42 8 rfl) rfl
theorem dX12_boldest_62 : decode cX12_boldest 62 = .ok (.iload 8, 2) := dk_21 (dw rcX12_boldest_42 9 rfl)
theorem dX12_boldest_64 : decode cX12_boldest 64 = .ok (.ireturn, 1) := dk_172 (dw rcX12_boldest_42 10 rfl)
noncomputable def rbX12_brave_0 : List (Nat × List Nat) := [(0, [42]), (1, [27]), (2, [28]), (3, [29]), (4, [21, 4]), (6, [21, 5]), (8, [182, 2, 56]), (11, [153, 0, 14]), (14, [42]), (15, [21, 4]), (17, [21, 5]), (19, [182, 2, 52]), (22, [167, 0, 6]), (25, [20, 2, 5]), (28, [173])]
theorem rcX12_brave_0 : dgo (lb cX12_brave) 0 rbX12_brave_0 = true := by decide +kernel
theorem dX12_brave_0 : decode cX12_brave 0 = .ok (.aload_n 0, 1) := dk_42 (dw rcX12_brave_0 0 rfl)
theorem dX12_brave_1 : decode cX12_brave 1 = .ok (.iload_n 1, 1) := dk_27 (dw rcX12_brave_0 1 rfl)
theorem dX12_brave_2 : decode cX12_brave 2 = .ok (.iload_n 2, 1) := dk_28 (dw rcX12_brave_0 2 rfl)
theorem dX12_brave_3 : decode cX12_brave 3 = .ok (.iload_n 3, 1) := dk_29 (dw rcX12_brave_0 3 rfl)
theorem dX12_brave_4 : decode cX12_brave 4 = .ok (.iload 4, 2) := dk_21 (dw rcX12_brave_0 4 rfl)
theorem dX12_brave_6 : decode cX12_brave 6 = .ok (.iload 5, 2) := dk_21 (dw rcX12_brave_0 5 rfl)
theorem dX12_brave_8 : decode cX12_brave 8 = .ok (.invokevirtual 568, 3) := dk_182 (dw rcX12_brave_0 6 rfl) rfl
theorem dX12_brave_11 : decode cX12_brave 11 = .ok (.ifCond .eq 14, 3) := dk_153 (dw rcX12_brave_0 7 rfl) rfl
theorem dX12_brave_14 : decode cX12_brave 14 = .ok (.aload_n 0, 1) := dk_42 (dw rcX12_brave_0 8 rfl)
theorem dX12_brave_15 : decode cX12_brave 15 = .ok (.iload 4, 2) := dk_21 (dw rcX12_brave_0 9 rfl)
theorem dX12_brave_17 : decode cX12_brave 17 = .ok (.iload 5, 2) := dk_21 (dw rcX12_brave_0 10 rfl)
theorem dX12_brave_19 : decode cX12_brave 19 = .ok (.invokevirtual 564, 3) := dk_182 (dw rcX12_brave_0 11 rfl) rfl
theorem dX12_brave_22 : decode cX12_brave 22 = .ok (.goto 6, 3) := dk_167 (dw rcX12_brave_0 12 rfl) rfl
theorem dX12_brave_25 : decode cX12_brave 25 = .ok (.ldc2_w 517, 3) := dk_20 (dw rcX12_brave_0 13 rfl) rfl
theorem dX12_brave_28 : decode cX12_brave 28 = .ok (.lreturn, 1) := dk_173 (dw rcX12_brave_0 14 rfl)
noncomputable def rbX12_layBold_0 : List (Nat × List Nat) := [(0, [42]), (1, [27]), (2, [28]), (3, [29]), (4, [182, 1, 234]), (7, [153, 0, 14]), (10, [21, 5]), (12, [4]), (13, [16, 8]), (15, [184, 1, 193]), (18, [154, 0, 5]), (21, [3]), (22, [172]), (23, [42]), (24, [27]), (25, [28]), (26, [29]), (27, [182, 1, 237]), (30, [42]), (31, [21, 4]), (33, [182, 1, 228]), (36, [154, 0, 5]), (39, [3]), (40, [172])]
theorem rcX12_layBold_0 : dgo (lb cX12_layBold) 0 rbX12_layBold_0 = true := by decide +kernel
theorem dX12_layBold_0 : decode cX12_layBold 0 = .ok (.aload_n 0, 1) := dk_42 (dw rcX12_layBold_0 0 rfl)
theorem dX12_layBold_1 : decode cX12_layBold 1 = .ok (.iload_n 1, 1) := dk_27 (dw rcX12_layBold_0 1 rfl)
theorem dX12_layBold_2 : decode cX12_layBold 2 = .ok (.iload_n 2, 1) := dk_28 (dw rcX12_layBold_0 2 rfl)
theorem dX12_layBold_3 : decode cX12_layBold 3 = .ok (.iload_n 3, 1) := dk_29 (dw rcX12_layBold_0 3 rfl)
theorem dX12_layBold_4 : decode cX12_layBold 4 = .ok (.invokevirtual 490, 3) := dk_182 (dw rcX12_layBold_0 4 rfl) rfl
theorem dX12_layBold_7 : decode cX12_layBold 7 = .ok (.ifCond .eq 14, 3) := dk_153 (dw rcX12_layBold_0 5 rfl) rfl
theorem dX12_layBold_10 : decode cX12_layBold 10 = .ok (.iload 5, 2) := dk_21 (dw rcX12_layBold_0 6 rfl)
theorem dX12_layBold_12 : decode cX12_layBold 12 = .ok (.iconst 1, 1) := dk_4 (dw rcX12_layBold_0 7 rfl)
theorem dX12_layBold_13 : decode cX12_layBold 13 = .ok (.bipush 8, 2) := dk_16 (dw rcX12_layBold_0 8 rfl) rfl
theorem dX12_layBold_15 : decode cX12_layBold 15 = .ok (.invokestatic 449, 3) := dk_184 (dw rcX12_layBold_0 9 rfl) rfl
theorem dX12_layBold_18 : decode cX12_layBold 18 = .ok (.ifCond .ne 5, 3) := dk_154 (dw rcX12_layBold_0 10 rfl) rfl
theorem dX12_layBold_21 : decode cX12_layBold 21 = .ok (.iconst 0, 1) := dk_3 (dw rcX12_layBold_0 11 rfl)
theorem dX12_layBold_22 : decode cX12_layBold 22 = .ok (.ireturn, 1) := dk_172 (dw rcX12_layBold_0 12 rfl)
theorem dX12_layBold_23 : decode cX12_layBold 23 = .ok (.aload_n 0, 1) := dk_42 (dw rcX12_layBold_0 13 rfl)
theorem dX12_layBold_24 : decode cX12_layBold 24 = .ok (.iload_n 1, 1) := dk_27 (dw rcX12_layBold_0 14 rfl)
theorem dX12_layBold_25 : decode cX12_layBold 25 = .ok (.iload_n 2, 1) := dk_28 (dw rcX12_layBold_0 15 rfl)
theorem dX12_layBold_26 : decode cX12_layBold 26 = .ok (.iload_n 3, 1) := dk_29 (dw rcX12_layBold_0 16 rfl)
theorem dX12_layBold_27 : decode cX12_layBold 27 = .ok (.invokevirtual 493, 3) := dk_182 (dw rcX12_layBold_0 17 rfl) rfl
theorem dX12_layBold_30 : decode cX12_layBold 30 = .ok (.aload_n 0, 1) := dk_42 (dw rcX12_layBold_0 18 rfl)
theorem dX12_layBold_31 : decode cX12_layBold 31 = .ok (.iload 4, 2) := dk_21 (dw rcX12_layBold_0 19 rfl)
theorem dX12_layBold_33 : decode cX12_layBold 33 = .ok (.invokevirtual 484, 3) := dk_182 (dw rcX12_layBold_0 20 rfl) rfl
theorem dX12_layBold_36 : decode cX12_layBold 36 = .ok (.ifCond .ne 5, 3) := dk_154 (dw rcX12_layBold_0 21 rfl) rfl
theorem dX12_layBold_39 : decode cX12_layBold 39 = .ok (.iconst 0, 1) := dk_3 (dw rcX12_layBold_0 22 rfl)
theorem dX12_layBold_40 : decode cX12_layBold 40 = .ok (.ireturn, 1) := dk_172 (dw rcX12_layBold_0 23 rfl)
noncomputable def rbX12_layBold_41 : List (Nat × List Nat) := [(41, [3]), (42, [54, 6]), (44, [21, 6]), (46, [17, 2, 0]), (49, [162, 0, 17]), (52, [42]), (53, [180, 0, 139]), (56, [21, 6]), (58, [10]), (59, [80]), (60, [132, 6, 1]), (63, [167, 255, 237]), (66, [4]), (67, [54, 6]), (69, [21, 6]), (71, [21, 5]), (73, [162, 0, 61]), (76, [3]), (77, [54, 7]), (79, [21, 7]), (81, [17, 1, 144]), (84, [162, 0, 44]), (87, [42]), (88, [180, 0, 139])]
theorem rcX12_layBold_41 : dgo (lb cX12_layBold) 0 rbX12_layBold_41 = true := by decide +kernel
theorem dX12_layBold_41 : decode cX12_layBold 41 = .ok (.iconst 0, 1) := dk_3 (dw rcX12_layBold_41 0 rfl)
theorem dX12_layBold_42 : decode cX12_layBold 42 = .ok (.istore 6, 2) := dk_54 (dw rcX12_layBold_41 1 rfl)
theorem dX12_layBold_44 : decode cX12_layBold 44 = .ok (.iload 6, 2) := dk_21 (dw rcX12_layBold_41 2 rfl)
theorem dX12_layBold_46 : decode cX12_layBold 46 = .ok (.sipush 512, 3) := dk_17 (dw rcX12_layBold_41 3 rfl) rfl
theorem dX12_layBold_49 : decode cX12_layBold 49 = .ok (.if_icmp .ge 17, 3) := dk_162 (dw rcX12_layBold_41 4 rfl) rfl
theorem dX12_layBold_52 : decode cX12_layBold 52 = .ok (.aload_n 0, 1) := dk_42 (dw rcX12_layBold_41 5 rfl)
theorem dX12_layBold_53 : decode cX12_layBold 53 = .ok (.getfield 139, 3) := dk_180 (dw rcX12_layBold_41 6 rfl) rfl
theorem dX12_layBold_56 : decode cX12_layBold 56 = .ok (.iload 6, 2) := dk_21 (dw rcX12_layBold_41 7 rfl)
theorem dX12_layBold_58 : decode cX12_layBold 58 = .ok (.lconst 1, 1) := dk_10 (dw rcX12_layBold_41 8 rfl)
theorem dX12_layBold_59 : decode cX12_layBold 59 = .ok (.lastore, 1) := dk_80 (dw rcX12_layBold_41 9 rfl)
theorem dX12_layBold_60 : decode cX12_layBold 60 = .ok (.iinc 6 1, 3) := dk_132 (dw rcX12_layBold_41 10 rfl) rfl
theorem dX12_layBold_63 : decode cX12_layBold 63 = .ok (.goto (-19), 3) := dk_167 (dw rcX12_layBold_41 11 rfl) rfl
theorem dX12_layBold_66 : decode cX12_layBold 66 = .ok (.iconst 1, 1) := dk_4 (dw rcX12_layBold_41 12 rfl)
theorem dX12_layBold_67 : decode cX12_layBold 67 = .ok (.istore 6, 2) := dk_54 (dw rcX12_layBold_41 13 rfl)
theorem dX12_layBold_69 : decode cX12_layBold 69 = .ok (.iload 6, 2) := dk_21 (dw rcX12_layBold_41 14 rfl)
theorem dX12_layBold_71 : decode cX12_layBold 71 = .ok (.iload 5, 2) := dk_21 (dw rcX12_layBold_41 15 rfl)
theorem dX12_layBold_73 : decode cX12_layBold 73 = .ok (.if_icmp .ge 61, 3) := dk_162 (dw rcX12_layBold_41 16 rfl) rfl
theorem dX12_layBold_76 : decode cX12_layBold 76 = .ok (.iconst 0, 1) := dk_3 (dw rcX12_layBold_41 17 rfl)
theorem dX12_layBold_77 : decode cX12_layBold 77 = .ok (.istore 7, 2) := dk_54 (dw rcX12_layBold_41 18 rfl)
theorem dX12_layBold_79 : decode cX12_layBold 79 = .ok (.iload 7, 2) := dk_21 (dw rcX12_layBold_41 19 rfl)
theorem dX12_layBold_81 : decode cX12_layBold 81 = .ok (.sipush 400, 3) := dk_17 (dw rcX12_layBold_41 20 rfl) rfl
theorem dX12_layBold_84 : decode cX12_layBold 84 = .ok (.if_icmp .ge 44, 3) := dk_162 (dw rcX12_layBold_41 21 rfl) rfl
theorem dX12_layBold_87 : decode cX12_layBold 87 = .ok (.aload_n 0, 1) := dk_42 (dw rcX12_layBold_41 22 rfl)
theorem dX12_layBold_88 : decode cX12_layBold 88 = .ok (.getfield 139, 3) := dk_180 (dw rcX12_layBold_41 23 rfl) rfl
noncomputable def rbX12_layBold_91 : List (Nat × List Nat) := [(91, [17, 2, 0]), (94, [21, 6]), (96, [104]), (97, [21, 7]), (99, [96]), (100, [42]), (101, [21, 7]), (103, [182, 1, 228]), (106, [153, 0, 14]), (109, [42]), (110, [21, 7]), (112, [21, 6]), (114, [182, 2, 52]), (117, [167, 0, 4]), (120, [9]), (121, [80]), (122, [132, 7, 1]), (125, [167, 255, 210]), (128, [132, 6, 1]), (131, [167, 255, 194]), (134, [4]), (135, [172])]
theorem rcX12_layBold_91 : dgo (lb cX12_layBold) 0 rbX12_layBold_91 = true := by decide +kernel
theorem dX12_layBold_91 : decode cX12_layBold 91 = .ok (.sipush 512, 3) := dk_17 (dw rcX12_layBold_91 0 rfl) rfl
theorem dX12_layBold_94 : decode cX12_layBold 94 = .ok (.iload 6, 2) := dk_21 (dw rcX12_layBold_91 1 rfl)
theorem dX12_layBold_96 : decode cX12_layBold 96 = .ok (.imul, 1) := dk_104 (dw rcX12_layBold_91 2 rfl)
theorem dX12_layBold_97 : decode cX12_layBold 97 = .ok (.iload 7, 2) := dk_21 (dw rcX12_layBold_91 3 rfl)
theorem dX12_layBold_99 : decode cX12_layBold 99 = .ok (.iadd, 1) := dk_96 (dw rcX12_layBold_91 4 rfl)
theorem dX12_layBold_100 : decode cX12_layBold 100 = .ok (.aload_n 0, 1) := dk_42 (dw rcX12_layBold_91 5 rfl)
theorem dX12_layBold_101 : decode cX12_layBold 101 = .ok (.iload 7, 2) := dk_21 (dw rcX12_layBold_91 6 rfl)
theorem dX12_layBold_103 : decode cX12_layBold 103 = .ok (.invokevirtual 484, 3) := dk_182 (dw rcX12_layBold_91 7 rfl) rfl
theorem dX12_layBold_106 : decode cX12_layBold 106 = .ok (.ifCond .eq 14, 3) := dk_153 (dw rcX12_layBold_91 8 rfl) rfl
theorem dX12_layBold_109 : decode cX12_layBold 109 = .ok (.aload_n 0, 1) := dk_42 (dw rcX12_layBold_91 9 rfl)
theorem dX12_layBold_110 : decode cX12_layBold 110 = .ok (.iload 7, 2) := dk_21 (dw rcX12_layBold_91 10 rfl)
theorem dX12_layBold_112 : decode cX12_layBold 112 = .ok (.iload 6, 2) := dk_21 (dw rcX12_layBold_91 11 rfl)
theorem dX12_layBold_114 : decode cX12_layBold 114 = .ok (.invokevirtual 564, 3) := dk_182 (dw rcX12_layBold_91 12 rfl) rfl
theorem dX12_layBold_117 : decode cX12_layBold 117 = .ok (.goto 4, 3) := dk_167 (dw rcX12_layBold_91 13 rfl) rfl
theorem dX12_layBold_120 : decode cX12_layBold 120 = .ok (.lconst 0, 1) := dk_9 (dw rcX12_layBold_91 14 rfl)
theorem dX12_layBold_121 : decode cX12_layBold 121 = .ok (.lastore, 1) := dk_80 (dw rcX12_layBold_91 15 rfl)
theorem dX12_layBold_122 : decode cX12_layBold 122 = .ok (.iinc 7 1, 3) := dk_132 (dw rcX12_layBold_91 16 rfl) rfl
theorem dX12_layBold_125 : decode cX12_layBold 125 = .ok (.goto (-46), 3) := dk_167 (dw rcX12_layBold_91 17 rfl) rfl
theorem dX12_layBold_128 : decode cX12_layBold 128 = .ok (.iinc 6 1, 3) := dk_132 (dw rcX12_layBold_91 18 rfl) rfl
theorem dX12_layBold_131 : decode cX12_layBold 131 = .ok (.goto (-62), 3) := dk_167 (dw rcX12_layBold_91 19 rfl) rfl
theorem dX12_layBold_134 : decode cX12_layBold 134 = .ok (.iconst 1, 1) := dk_4 (dw rcX12_layBold_91 20 rfl)
theorem dX12_layBold_135 : decode cX12_layBold 135 = .ok (.ireturn, 1) := dk_172 (dw rcX12_layBold_91 21 rfl)
set_option maxHeartbeats 4000000 in
set_option maxRecDepth 100000 in
theorem n_bestOdds (l : Launch) (D : va_G) (k : KT) (A : Nat → Prop) (a : Nat → Nat) (z : SK) (G : GS) (p0 : Int32) (p1 : Int32) (ha_p0 : 0 ≤ p0.toInt ∧ p0.toInt ≤ 399) (ha_p1 : 1 ≤ p1.toInt ∧ p1.toInt ≤ 8) (hlm : (G.1 66 61).toInt ≤ (G.1 66 62).toInt) : Met l yX12_bestOdds (WS yX12_bestOdds cX12_bestOdds 8 (some .long)) ({ frames := 2, cells := 0, slots := 0, locals := 50 }) (va_Pc [.ref (a 66), .int p0, .int p1] (cW D k A a z G)) (va_Ql (fun (r : Int64) (G1 : GS) => Q_bestOdds p0 p1 G r G1) (fun (G1 : GS) t => Wd D k A a G1 t.heap) A) 0 0 A := by
  refine Met.ofW (cc := cX12_bestOdds) (maxL := 8) (ret := (some .long)) (by decide) rfl ?_
  intro p e s m args below meth c s₁ B hml hv
  obtain ⟨rfl, hW, hB_G, hK, hZ⟩ := hv
  have hx := B.exec
  have hb := B.bytes
  have hr := B.returns
  have hts := atoms_spec (ws := WS yX12_bestOdds cX12_bestOdds 8 (some .long)) B.pre
  have hgd : ∀ w ∈ gd, w ∈ WS yX12_bestOdds cX12_bestOdds 8 (some .long) := fun w h => List.mem_cons_of_mem _ h
  have hg : ∀ w ∈ gd, w.before _ s = true := fun w h => hts w (hgd w h)
  have hown : s.vm.findClass RX12 = some m.cls := findClass_of_methodNamed B.named
  have hS : va_S A s.heap s.heap [] := va_S.rf
  have hF : Fr [] [] G G := Fr.rf
  have hl := lv_entry ([.ref (a 66), .int p0, .int p1]) (n := 8) (Nat.le_of_ble_eq_true rfl)
  rw [lg_entry_eq]
  generalize (lg_sl ([.ref (a 66), .int p0, .int p1]) ++ List.replicate (8 - (lg_sl ([.ref (a 66), .int p0, .int p1])).length) Slot.unset).toArray = ls at hl ⊢
  have hl : lv_has ls 8 [(0, .ref (a 66)), (1, .int p0), (2, .int p1)] := hl
  refine lv_lconst (v := 0) hx hb dX12_bestOdds_0 (by decide) ?_
  refine lv_lstore_n (lv' := [(3, .long 0), (0, .ref (a 66)), (1, .int p0), (2, .int p1)]) hx hb dX12_bestOdds_1 rfl hl (lt_b rfl) rfl (fun ls hl => ?_)
  refine lv_aload_n hx hb dX12_bestOdds_2 rfl (lv_at hl 1 rfl) ?_
  have b_1 : 0 ≤ (G.1 66 61).toInt ∧ (G.1 66 61).toInt ≤ 60 := bd_66_61 hB_G
  refine S_getI (v := (G.1 66 61)) (C := RX12) (T := TX12) (N := 89) hx hb hg iX12 hown hK hW kd_66 rfl 61 (lt_b rfl) (hg (Cond.fieldLink RX12 475 "SlabWalkModel" "least" "I") m1375) (fun _ h9 => h9) rfl rfl dX12_bestOdds_3 ?_
  have hb_2 : bO (oF G p0.toInt p1.toInt) (G.1 66 61).toInt (G.1 66 61).toInt 0 := bO_0
  refine lv_istore (lv' := [(5, .int (G.1 66 61)), (3, .long 0), (0, .ref (a 66)), (1, .int p0), (2, .int p1)]) hx hb dX12_bestOdds_6 hl (lt_b rfl) rfl (fun ls hl => ?_)
  have b_10 : 0 ≤ (G.1 66 62).toInt ∧ (G.1 66 62).toInt ≤ 60 := bd_66_62 hB_G
  refine loop_N (Inv := fun n H locs ls => ∃ (G_3 : GS) (x_7 : Int32) (x_8 : Int64), (n : Int) = 61 - x_7.toInt ∧ (0 ≤ x_7.toInt ∧ x_7.toInt ≤ 61) ∧ (bO (oF G p0.toInt p1.toInt) (G.1 66 61).toInt x_7.toInt x_8) ∧ ((G.1 66 61).toInt ≤ x_7.toInt) ∧ (x_7.toInt ≤ (G.1 66 62).toInt + 1) ∧ Rc (St_n_bestOdds_1 p0 p1 G) ((G.1 66 61), 0, G) (x_7, x_8, G_3) ∧ Wd D k A a G_3 H ∧ Bd G_3 ∧ Fr [] [] G G_3 ∧ Fr [] [] G G_3 ∧ va_S A s.heap H locs ∧ lv_has ls 8 [(5, .int x_7), (3, .long x_8), (0, .ref (a 66)), (1, .int p0), (2, .int p1)]) (fun n_6 H locs ls ih_5 hI => ?_) (61 - (G.1 66 61).toInt : Int).toNat ⟨G, (G.1 66 61), 0, (Int.toNat_of_nonneg ((by first | exact ok_337 b_1.2 | omega))), ⟨(by first | exact b_1.1 | omega), (by first | exact ok_338 b_1.2 | omega)⟩, (by assumption), ((by first | exact ok_572 | omega)), ((by first | exact ok_1237 hlm | omega)), Rc.rf, hW, hB_G, hF, Fr.rf, hS, lv_sub hl [0, 1, 2, 3, 4] rfl⟩
  obtain ⟨G_3, x_7, x_8, hn_15, f_11, f_12, f_13, f_14, hX_9, hW, hB_G_3, hF, hq_4, hS, hl⟩ := hI
  refine lv_iload hx hb dX12_bestOdds_8 (lv_at hl 0 rfl) ?_
  refine lv_aload_n hx hb dX12_bestOdds_10 rfl (lv_at hl 2 rfl) ?_
  refine S_getI (v := (G.1 66 62)) (C := RX12) (T := TX12) (N := 89) hx hb hg iX12 hown hK hW kd_66 rfl 62 (lt_b rfl) (hg (Cond.fieldLink RX12 478 "SlabWalkModel" "most" "I") m1376) (fun _ h9 => h9) rfl ((hq_4.i9 66 62 rfl rfl).trans (rfl)) dX12_bestOdds_11 ?_
  refine lv_icmp_gt (tgt := 54) hx hb dX12_bestOdds_14 rfl (fun c_16 => ?_) (fun c_16 => ?_)
  · have c_16 : (G.1 66 62).toInt < x_7.toInt := xI_lt rfl rfl c_16
    refine lv_lload_n hx hb dX12_bestOdds_54 rfl (lv_at hl 1 rfl) ?_
    exact W.lret (v := x_8) hx hb hr (fun t ht _ => ⟨⟨x_8, G_3, rfl, (Q_bestOdds_mk ⟨hB_G_3, hF, (show bO (oF G p0.toInt p1.toInt) (G.1 66 61).toInt ((G.1 66 62).toInt + 1) x_8 from by have h : bO (oF G p0.toInt p1.toInt) (G.1 66 61).toInt x_7.toInt x_8 := (by assumption); rw [show x_7.toInt = (G.1 66 62).toInt + 1 from by omega] at h; exact h), ⟨x_7, x_8, G_3, hX_9, f_11, f_12, f_13, f_14, hB_G_3, hq_4, ⟨c_16, ⟨rfl, rfl⟩⟩⟩⟩), wd_t ht hW⟩, hS.F ht⟩) hS.2.2 dX12_bestOdds_55
  · have c_16 : x_7.toInt ≤ (G.1 66 62).toInt := xI_nlt rfl rfl c_16
    refine lv_aload_n hx hb dX12_bestOdds_17 rfl (lv_at hl 2 rfl) ?_
    refine lv_iload_n hx hb dX12_bestOdds_18 rfl (lv_at hl 3 rfl) ?_
    refine lv_iload hx hb dX12_bestOdds_19 (lv_at hl 0 rfl) ?_
    refine lv_iload_n hx hb dX12_bestOdds_21 rfl (lv_at hl 4 rfl) ?_
    refine lv_aload_n hx hb dX12_bestOdds_22 rfl (lv_at hl 2 rfl) ?_
    refine lv_iload_n hx hb dX12_bestOdds_23 rfl (lv_at hl 4 rfl) ?_
    refine ic_1 hx hb dX12_bestOdds_24 ?_
    refine lv_isub hx hb dX12_bestOdds_25 ?_
    refine lv_topi (fun y_17 ey_17 => ?_)
    have ty_17 : y_17.toInt = p1.toInt - 1 := xI_sub rfl rfl ey_17 ((by first | exact ok_275 ha_p1.1 | omega)) ((by first | exact ok_1228 ha_p1.2 | omega))
    refine S_calll (va_runV (As := [.int y_17]) (rest := [.int p1, .int x_7, .int p0, .ref (a 66)]) ⟨hx, hb, hml, hown, hts⟩ (n_rest l D k A a z G_3 y_17 ⟨(by first | exact ok_277 ha_p1.1 ty_17 | omega), (by first | exact ok_1238 ha_p1.2 ty_17 | omega)⟩) (cwV 1 hts (gd_V hgd m1951 m1953 m105 m131 m1954) rfl rfl rfl hd_X12_rest ⟨Nat.le_of_ble_eq_true rfl, Nat.le_of_ble_eq_true rfl⟩) (pre_W hW hB_G_3 hK hZ hS kd_66 rfl) rfl rfl hl.1 rfl (lv_room (Nat.le_of_ble_eq_true rfl)) dX12_bestOdds_26 ⟨Nat.le_of_ble_eq_true rfl, Nat.le_of_ble_eq_true rfl⟩) hS (fun r_18 G_19 H locs hpo hW hS => ?_)
    have hX_22 : Q_rest y_17 G_3 r_18 G_19 := hpo
    obtain ⟨hB_G_19, hq_20, hp_21, -⟩ := hpo
    have hF := hF.call9 hq_20 rfl rfl
    have b_23 : 0 ≤ (G.1 66 59).toInt ∧ (G.1 66 59).toInt ≤ 400 := bd_66_59 hB_G
    have g_24 : (G_19.1 66 59).toInt = (G.1 66 59).toInt := (congrArg Int32.toInt (show G_19.1 66 59 = (G.1 66 59) from ((hq_20.i9 66 59 rfl rfl).trans (hq_4.i9 66 59 rfl rfl))))
    have b_25 : 0 ≤ (G.1 66 60).toInt ∧ (G.1 66 60).toInt ≤ 12 := bd_66_60 hB_G
    have g_26 : (G_19.1 66 60).toInt = (G.1 66 60).toInt := (congrArg Int32.toInt (show G_19.1 66 60 = (G.1 66 60) from ((hq_20.i9 66 60 rfl rfl).trans (hq_4.i9 66 60 rfl rfl))))
    refine S_calll (va_runV (As := [.int p0, .int x_7, .int p1, .long r_18]) (rest := []) ⟨hx, hb, hml, hown, hts⟩ (n_oddsBy l D k A a z G_19 p0 x_7 p1 r_18 ⟨(by first | exact ha_p0.1 | omega), (by first | exact ha_p0.2 | omega)⟩ ⟨(by first | exact f_11.1 | omega), (by first | exact ok_259 b_10.2 f_11.2 c_16 | omega)⟩ ⟨(by first | exact ha_p1.1 | omega), (by first | exact ha_p1.2 | omega)⟩) (cwV 4 hts (gd_V hgd m1959 m1961 m107 m131 m1962) rfl rfl rfl hd_X12_oddsBy ⟨Nat.le_of_ble_eq_true rfl, Nat.le_of_ble_eq_true rfl⟩) (pre_W hW hB_G_19 hK hZ hS kd_66 rfl) rfl rfl hl.1 rfl (lv_room (Nat.le_of_ble_eq_true rfl)) dX12_bestOdds_29 ⟨Nat.le_of_ble_eq_true rfl, Nat.le_of_ble_eq_true rfl⟩) hS (fun r_27 G_28 H locs hpo hW hS => ?_)
    have hX_31 : Q_oddsBy p0 x_7 p1 r_18 G_19 r_27 G_28 := hpo
    obtain ⟨hB_G_28, hq_29, hp_30, -⟩ := hpo
    have hF := hF.call9 hq_29 rfl rfl
    have hof_ : r_27 = oF G p0.toInt p1.toInt x_7.toInt := oF_of (f0 := (Fr.rf.call hq_4 (by decide) (by decide))) (f := ((Fr.rf.call hq_4 (by decide) (by decide)).call hq_20 (by decide) (by decide))) hp_30 hp_21 (by omega) (by omega)
    refine lv_lstore (lv' := [(6, .long r_27), (5, .int x_7), (3, .long x_8), (0, .ref (a 66)), (1, .int p0), (2, .int p1)]) hx hb dX12_bestOdds_32 hl (lt_b rfl) rfl (fun ls hl => ?_)
    refine lv_lload hx hb dX12_bestOdds_34 (lv_at hl 0 rfl) ?_
    refine lv_lload_n hx hb dX12_bestOdds_36 rfl (lv_at hl 2 rfl) ?_
    refine W.lcmp hx hb dX12_bestOdds_37 ?_
    refine lv_topi (fun y_32 ey_32 => ?_)
    have ty_32 := lcmp_rng ey_32
    have u_33 := lc_gt ey_32
    refine lv_if_le (tgt := 46) hx hb dX12_bestOdds_38 rfl (fun c_34 => ?_) (fun c_34 => ?_)
    · have c_34 : y_32.toInt ≤ 0 := xI_le rfl rfl c_34
      refine lv_lload_n hx hb dX12_bestOdds_46 rfl (lv_at hl 2 rfl) ?_
      refine lv_lstore_n (lv' := [(3, .long x_8), (6, .long r_27), (5, .int x_7), (0, .ref (a 66)), (1, .int p0), (2, .int p1)]) hx hb dX12_bestOdds_47 rfl hl (lt_b rfl) rfl (fun ls hl => ?_)
      obtain ⟨y_35, ey_35⟩ : ∃ q, q = x_7 + 1 := ⟨_, rfl⟩
      have ty_35 : y_35.toInt = x_7.toInt + 1 := xI_add rfl rfl ey_35 ((by first | exact ok_21 f_11.1 | omega)) ((by first | exact ok_256 f_11.2 | omega))
      refine lv_iinc (v := y_35) (lv' := [(5, .int y_35), (3, .long x_8), (6, .long r_27), (0, .ref (a 66)), (1, .int p0), (2, .int p1)]) hx hb dX12_bestOdds_48 hl (k := 2) rfl (by rw [ey_35]; rfl) (lt_b rfl) rfl (fun ls hl => ?_)
      have hb_36 : bO (oF G p0.toInt p1.toInt) (G.1 66 61).toInt y_35.toInt x_8 := bO_keep (show bO (oF G p0.toInt p1.toInt) (G.1 66 61).toInt x_7.toInt x_8 by assumption) hof_ (by first | (clear hn_15 ty_32 u_33 c_34; omega) | omega) (by first | (clear hn_15 ty_32 u_33 c_34; omega) | omega)
      refine lv_goto (tgt := 8) hx hb dX12_bestOdds_51 rfl ?_
      exact ih_5 (61 - y_35.toInt : Int).toNat ((by first | (clear ty_32 u_33 c_34; omega) | omega)) _ _ _ ⟨G_28, y_35, x_8, (Int.toNat_of_nonneg ((by first | exact ok_257 b_10.2 f_11.2 c_16 ty_35 | omega))), ⟨(by first | exact ok_23 f_11.1 ty_35 | omega), (by first | exact ok_258 b_10.2 f_11.2 c_16 ty_35 | omega)⟩, (by assumption), ((by first | exact ok_1093 f_13 ty_35 | omega)), ((by first | exact ok_1179 f_14 c_16 ty_35 | omega)), (hX_9.st (St_n_bestOdds_1_mk ⟨x_7, x_8, G_3, y_35, x_8, G_28, rfl, rfl, f_11, f_12, f_13, f_14, hB_G_3, ⟨c_16, ⟨y_17, ty_17, ⟨r_18, G_19, hX_22, ⟨r_27, G_28, hX_31, ⟨y_32, ey_32, (Or.inl ⟨c_34, ⟨y_35, ty_35, ⟨rfl, rfl, rfl⟩⟩⟩)⟩⟩⟩⟩⟩⟩)), hW, hB_G_28, hF, (Fr.call9 (rs := []) (fs := []) (Fr.call9 (rs := []) (fs := []) (Fr.call9 (rs := []) (fs := []) Fr.rf hq_4 rfl rfl) hq_20 rfl rfl) hq_29 rfl rfl), hS, lv_sub hl [0, 1, 3, 4, 5] rfl⟩
    · have c_34 : 0 < y_32.toInt := xI_nle rfl rfl c_34
      refine lv_lload hx hb dX12_bestOdds_41 (lv_at hl 0 rfl) ?_
      refine lv_goto (tgt := 47) hx hb dX12_bestOdds_43 rfl ?_
      refine lv_lstore_n (lv' := [(3, .long r_27), (6, .long r_27), (5, .int x_7), (0, .ref (a 66)), (1, .int p0), (2, .int p1)]) hx hb dX12_bestOdds_47 rfl hl (lt_b rfl) rfl (fun ls hl => ?_)
      obtain ⟨y_37, ey_37⟩ : ∃ q, q = x_7 + 1 := ⟨_, rfl⟩
      have ty_37 : y_37.toInt = x_7.toInt + 1 := xI_add rfl rfl ey_37 ((by first | exact ok_21 f_11.1 | omega)) ((by first | exact ok_256 f_11.2 | omega))
      refine lv_iinc (v := y_37) (lv' := [(5, .int y_37), (3, .long r_27), (6, .long r_27), (0, .ref (a 66)), (1, .int p0), (2, .int p1)]) hx hb dX12_bestOdds_48 hl (k := 2) rfl (by rw [ey_37]; rfl) (lt_b rfl) rfl (fun ls hl => ?_)
      have hb_38 : bO (oF G p0.toInt p1.toInt) (G.1 66 61).toInt y_37.toInt r_27 := bO_more (show bO (oF G p0.toInt p1.toInt) (G.1 66 61).toInt x_7.toInt x_8 by assumption) (by first | (clear hn_15 ty_32 u_33 c_34; omega) | omega) hof_ (by first | (clear hn_15 ty_32 u_33 c_34; omega) | omega) (by first | (clear hn_15 ty_32 u_33 c_34; omega) | omega)
      refine lv_goto (tgt := 8) hx hb dX12_bestOdds_51 rfl ?_
      exact ih_5 (61 - y_37.toInt : Int).toNat ((by first | (clear ty_32 u_33 c_34; omega) | omega)) _ _ _ ⟨G_28, y_37, r_27, (Int.toNat_of_nonneg ((by first | exact ok_257 b_10.2 f_11.2 c_16 ty_37 | omega))), ⟨(by first | exact ok_23 f_11.1 ty_37 | omega), (by first | exact ok_258 b_10.2 f_11.2 c_16 ty_37 | omega)⟩, (by assumption), ((by first | exact ok_1093 f_13 ty_37 | omega)), ((by first | exact ok_1179 f_14 c_16 ty_37 | omega)), (hX_9.st (St_n_bestOdds_1_mk ⟨x_7, x_8, G_3, y_37, r_27, G_28, rfl, rfl, f_11, f_12, f_13, f_14, hB_G_3, ⟨c_16, ⟨y_17, ty_17, ⟨r_18, G_19, hX_22, ⟨r_27, G_28, hX_31, ⟨y_32, ey_32, (Or.inr ⟨c_34, ⟨y_37, ty_37, ⟨rfl, rfl, rfl⟩⟩⟩)⟩⟩⟩⟩⟩⟩)), hW, hB_G_28, hF, (Fr.call9 (rs := []) (fs := []) (Fr.call9 (rs := []) (fs := []) (Fr.call9 (rs := []) (fs := []) Fr.rf hq_4 rfl rfl) hq_20 rfl rfl) hq_29 rfl rfl), hS, lv_sub hl [0, 1, 3, 4, 5] rfl⟩

set_option maxHeartbeats 4000000 in
set_option maxRecDepth 100000 in
theorem n_layBold (l : Launch) (D : va_G) (k : KT) (A : Nat → Prop) (a : Nat → Nat) (z : SK) (G : GS) (p0 : Int32) (p1 : Int32) (p2 : Int32) (p3 : Int32) (p4 : Int32) (hP9 : gP G = 1) (hW9 : gW G = 1) (hO9 : gO G = 1) : Met l yX12_layBold (WS yX12_layBold cX12_layBold 8 (some .boolean)) ({ frames := 5, cells := 0, slots := 0, locals := 117 }) (va_Pc [.ref (a 66), .int p0, .int p1, .int p2, .int p3, .int p4] (cW D k A a z G)) (va_Qi (fun (r : Int32) (G1 : GS) => Q_layBold p0 p1 p2 p3 p4 G r G1) (fun (G1 : GS) t => Wd D k A a G1 t.heap) A) 0 0 A := by
  refine Met.ofW (cc := cX12_layBold) (maxL := 8) (ret := (some .boolean)) (by decide) rfl ?_
  intro p e s m args below meth c s₁ B hml hv
  obtain ⟨rfl, hW, hB_G, hK, hZ⟩ := hv
  have hx := B.exec
  have hb := B.bytes
  have hr := B.returns
  have hts := atoms_spec (ws := WS yX12_layBold cX12_layBold 8 (some .boolean)) B.pre
  have hgd : ∀ w ∈ gd, w ∈ WS yX12_layBold cX12_layBold 8 (some .boolean) := fun w h => List.mem_cons_of_mem _ h
  have hg : ∀ w ∈ gd, w.before _ s = true := fun w h => hts w (hgd w h)
  have hown : s.vm.findClass RX12 = some m.cls := findClass_of_methodNamed B.named
  have hS : va_S A s.heap s.heap [] := va_S.rf
  have hF : Fr [106, 76, 97, 98] [(66, 59), (66, 60), (66, 61), (66, 62), (66, 63)] G G := Fr.rf
  have hl := lv_entry ([.ref (a 66), .int p0, .int p1, .int p2, .int p3, .int p4]) (n := 8) (Nat.le_of_ble_eq_true rfl)
  rw [lg_entry_eq]
  generalize (lg_sl ([.ref (a 66), .int p0, .int p1, .int p2, .int p3, .int p4]) ++ List.replicate (8 - (lg_sl ([.ref (a 66), .int p0, .int p1, .int p2, .int p3, .int p4])).length) Slot.unset).toArray = ls at hl ⊢
  have hl : lv_has ls 8 [(0, .ref (a 66)), (1, .int p0), (2, .int p1), (3, .int p2), (4, .int p3), (5, .int p4)] := hl
  refine lv_aload_n hx hb dX12_layBold_0 rfl (lv_at hl 0 rfl) ?_
  refine lv_iload_n hx hb dX12_layBold_1 rfl (lv_at hl 1 rfl) ?_
  refine lv_iload_n hx hb dX12_layBold_2 rfl (lv_at hl 2 rfl) ?_
  refine lv_iload_n hx hb dX12_layBold_3 rfl (lv_at hl 3 rfl) ?_
  refine S_calli (va_runV (As := [.int p0, .int p1, .int p2]) (rest := []) ⟨hx, hb, hml, hown, hts⟩ (n_isAsked l D k A a z G p0 p1 p2 ) (cwV 3 hts (gd_V hgd m1826 m1828 m89 m131 m1829) rfl rfl rfl hd_X12_isAsked ⟨Nat.le_of_ble_eq_true rfl, Nat.le_of_ble_eq_true rfl⟩) (pre_W hW hB_G hK hZ hS kd_66 rfl) rfl rfl hl.1 rfl (lv_room (Nat.le_of_ble_eq_true rfl)) dX12_layBold_4 ⟨Nat.le_of_ble_eq_true rfl, Nat.le_of_ble_eq_true rfl⟩) hS (fun r_1 G_2 H locs hpo hW hS => ?_)
  have hX_5 : Q_isAsked p0 p1 p2 G r_1 G_2 := hpo
  obtain ⟨hB_G_2, hq_3, f_6, hp_4, -⟩ := hpo
  have hF := hF.call9 hq_3 rfl rfl
  refine lv_if_eq (tgt := 21) hx hb dX12_layBold_7 rfl (fun c_7 => ?_) (fun c_7 => ?_)
  · have c_7 : r_1.toInt = 0 := xI_eq rfl rfl c_7
    refine ic_0 hx hb dX12_layBold_21 ?_
    have fr_8 : Fr [] [] G G_2 := (Fr.call9 (rs := []) (fs := []) Fr.rf hq_3 rfl rfl)
    have g_9 : gO G_2 = gO G := gO_fr fr_8 (gr_q rfl) (gf_q rfl)
    have b_10 : 0 ≤ (G.1 66 61).toInt ∧ (G.1 66 61).toInt ≤ 60 := bd_66_61 hB_G
    have g_11 : (G_2.1 66 61).toInt = (G.1 66 61).toInt := (congrArg Int32.toInt (show G_2.1 66 61 = (G.1 66 61) from (hq_3.i9 66 61 rfl rfl)))
    have b_12 : 0 ≤ (G.1 66 62).toInt ∧ (G.1 66 62).toInt ≤ 60 := bd_66_62 hB_G
    have g_13 : (G_2.1 66 62).toInt = (G.1 66 62).toInt := (congrArg Int32.toInt (show G_2.1 66 62 = (G.1 66 62) from (hq_3.i9 66 62 rfl rfl)))
    exact W.zret (v := 0) hx hb hr (by decide) (fun t ht _ => ⟨⟨0, G_2, rfl, (Q_layBold_mk ⟨hB_G_2, hF, ⟨by decide, by decide⟩, (by have hq : (0 : Int32).toInt = 0 := rfl; (try dsimp only); omega), ⟨r_1, G_2, hX_5, (Or.inl ⟨c_7, ⟨rfl, rfl⟩⟩)⟩⟩), wd_t ht hW⟩, hS.F ht⟩) hS.2.2 dX12_layBold_22
  · have c_7 : r_1.toInt ≠ 0 := xI_ne rfl rfl c_7
    refine lv_iload hx hb dX12_layBold_10 (lv_at hl 5 rfl) ?_
    refine ic_1 hx hb dX12_layBold_12 ?_
    refine lv_bipush (v := 8) hx hb dX12_layBold_13 (by decide) ?_
    have qc_14 : (1 : Int32).toInt = 1 := rfl
    have qc_15 : (8 : Int32).toInt = 8 := rfl
    refine S_calli (va_runS (As := [.int p4, .int 1, .int 8]) (rest := []) ⟨hx, hb, hml, hown, hts⟩ (n_isIn l D k A a z G_2 p4 1 8 ) (va_cwS 3 hts (gd_S hgd m1781 m1782 m131 m1783) rfl rfl rfl hd_X12_isIn.2 ⟨Nat.le_of_ble_eq_true rfl, Nat.le_of_ble_eq_true rfl⟩) (pre_S hW hB_G_2 hK hZ hS) rfl rfl hl.1 rfl (lv_room (Nat.le_of_ble_eq_true rfl)) dX12_layBold_15 ⟨Nat.le_of_ble_eq_true rfl, Nat.le_of_ble_eq_true rfl⟩) hS (fun r_16 G_17 H locs hpo hW hS => ?_)
    have hX_20 : Q_isIn p4 1 8 G_2 r_16 G_17 := hpo
    obtain ⟨hB_G_17, hq_18, f_21, ⟨d_1, d_2⟩, -⟩ := hpo
    have hF := hF.call9 hq_18 rfl rfl
    refine lv_if_ne (tgt := 23) hx hb dX12_layBold_18 rfl (fun c_22 => ?_) (fun c_22 => ?_)
    · have c_22 : r_16.toInt ≠ 0 := xI_ne rfl rfl c_22
      refine lv_aload_n hx hb dX12_layBold_23 rfl (lv_at hl 0 rfl) ?_
      refine lv_iload_n hx hb dX12_layBold_24 rfl (lv_at hl 1 rfl) ?_
      refine lv_iload_n hx hb dX12_layBold_25 rfl (lv_at hl 2 rfl) ?_
      refine lv_iload_n hx hb dX12_layBold_26 rfl (lv_at hl 3 rfl) ?_
      have fr_23 : Fr [] [] G G_17 := (Fr.call9 (rs := []) (fs := []) (Fr.call9 (rs := []) (fs := []) Fr.rf hq_3 rfl rfl) hq_18 rfl rfl)
      have g_24 : gP G_17 = gP G := gP_fr fr_23 (gr_q rfl) (gf_q rfl)
      refine S_callv (va_runV (As := [.int p0, .int p1, .int p2]) (rest := []) ⟨hx, hb, hml, hown, hts⟩ (n_layStreet l D k A a z G_17 p0 p1 p2 ⟨(by first | exact ok_1103 f_6.1 f_6.2 hp_4 c_7 | omega), (by first | exact ok_1104 f_6.1 f_6.2 hp_4 c_7 | omega)⟩ ⟨(by first | exact ok_1101 f_6.1 f_6.2 hp_4 c_7 | omega), (by first | exact ok_1102 f_6.1 f_6.2 hp_4 c_7 | omega)⟩ ((by first | exact ok_796 hP9 g_24 | omega))) (cwV 3 hts (gd_V hgd m1834 m1836 m91 m131 m1837) rfl rfl rfl hd_X12_layStreet ⟨Nat.le_of_ble_eq_true rfl, Nat.le_of_ble_eq_true rfl⟩) (pre_W hW hB_G_17 hK hZ hS kd_66 rfl) rfl rfl hl.1 rfl (lv_room (Nat.le_of_ble_eq_true rfl)) dX12_layBold_27 ⟨Nat.le_of_ble_eq_true rfl, Nat.le_of_ble_eq_true rfl⟩) hS (fun G_26 H locs hpo hW hS => ?_)
      have hX_29 : Q_layStreet p0 p1 p2 G_17 G_26 := hpo
      obtain ⟨hB_G_26, hq_27, ⟨d_3, d_4, d_5, d_6, d_7, d_8⟩, -⟩ := hpo
      have hF := hF.call9 hq_27 rfl rfl
      have b_30 : 0 ≤ (G.1 66 53).toInt ∧ (G.1 66 53).toInt ≤ 4 := hB_G.i 66 53 rfl rfl
      have u_31 := gW_at hW9 p0 (by first | (clear hP9 hW9 hO9 f_21 d_1 d_2 c_22 g_24; omega) | omega) (by first | (clear hP9 hW9 hO9 f_21 d_1 d_2 c_22 g_24; omega) | omega)
      have u_32 : (G_17.1 92 p0.toNatClampNeg).toInt = (G.1 92 p0.toNatClampNeg).toInt := congrArg Int32.toInt (((hq_18.ri9 92 rfl p0.toNatClampNeg).trans (hq_3.ri9 92 rfl p0.toNatClampNeg)))
      have u_33 : (G_17.1 93 p0.toNatClampNeg).toInt = (G.1 93 p0.toNatClampNeg).toInt := congrArg Int32.toInt (((hq_18.ri9 93 rfl p0.toNatClampNeg).trans (hq_3.ri9 93 rfl p0.toNatClampNeg)))
      have u_34 : (G_17.1 94 p0.toNatClampNeg).toInt = (G.1 94 p0.toNatClampNeg).toInt := congrArg Int32.toInt (((hq_18.ri9 94 rfl p0.toNatClampNeg).trans (hq_3.ri9 94 rfl p0.toNatClampNeg)))
      have u_35 : (G_17.1 95 p0.toNatClampNeg).toInt = (G.1 95 p0.toNatClampNeg).toInt := congrArg Int32.toInt (((hq_18.ri9 95 rfl p0.toNatClampNeg).trans (hq_3.ri9 95 rfl p0.toNatClampNeg)))
      have b_36 : 0 ≤ (G_26.1 66 60).toInt ∧ (G_26.1 66 60).toInt ≤ 12 := bd_66_60 hB_G_26
      have b_37 : 0 ≤ (G_26.1 66 61).toInt ∧ (G_26.1 66 61).toInt ≤ 60 := bd_66_61 hB_G_26
      have b_38 : 0 ≤ (G_26.1 66 62).toInt ∧ (G_26.1 66 62).toInt ≤ 60 := bd_66_62 hB_G_26
      have b_39 : 0 ≤ (G_26.1 66 63).toInt ∧ (G_26.1 66 63).toInt ≤ 99 := bd_66_63 hB_G_26
      refine lv_aload_n hx hb dX12_layBold_30 rfl (lv_at hl 0 rfl) ?_
      refine lv_iload hx hb dX12_layBold_31 (lv_at hl 4 rfl) ?_
      have b_40 : 0 ≤ (G_26.1 66 59).toInt ∧ (G_26.1 66 59).toInt ≤ 400 := bd_66_59 hB_G_26
      refine S_calli (va_runV (As := [.int p3]) (rest := []) ⟨hx, hb, hml, hown, hts⟩ (n_stands1 l D k A a z G_26 p3 ) (cwV 1 hts (gd_V hgd m1838 m1840 m92 m131 m1841) rfl rfl rfl hd_X12_doesStand ⟨Nat.le_of_ble_eq_true rfl, Nat.le_of_ble_eq_true rfl⟩) (pre_W hW hB_G_26 hK hZ hS kd_66 rfl) rfl rfl hl.1 rfl (lv_room (Nat.le_of_ble_eq_true rfl)) dX12_layBold_33 ⟨Nat.le_of_ble_eq_true rfl, Nat.le_of_ble_eq_true rfl⟩) hS (fun r_41 G_42 H locs hpo hW hS => ?_)
      have hX_45 : Q_stands1 p3 G_26 r_41 G_42 := hpo
      obtain ⟨hB_G_42, hq_43, f_46, ⟨d_9, d_10⟩, -⟩ := hpo
      have hF := hF.call9 hq_43 rfl rfl
      refine lv_if_ne (tgt := 41) hx hb dX12_layBold_36 rfl (fun c_47 => ?_) (fun c_47 => ?_)
      · have c_47 : r_41.toInt ≠ 0 := xI_ne rfl rfl c_47
        refine ic_0 hx hb dX12_layBold_41 ?_
        refine lv_istore (lv' := [(6, .int 0), (0, .ref (a 66)), (1, .int p0), (2, .int p1), (3, .int p2), (4, .int p3), (5, .int p4)]) hx hb dX12_layBold_42 hl (lt_b rfl) rfl (fun ls hl => ?_)
        have fr_54 : Fr [76, 97, 98] [(66, 59), (66, 60), (66, 61), (66, 62), (66, 63)] G G_42 := (Fr.call9 (rs := [76, 97, 98]) (fs := [(66, 59), (66, 60), (66, 61), (66, 62), (66, 63)]) (Fr.call9 (rs := [76, 97, 98]) (fs := [(66, 59), (66, 60), (66, 61), (66, 62), (66, 63)]) (Fr.call9 (rs := [76, 97, 98]) (fs := [(66, 59), (66, 60), (66, 61), (66, 62), (66, 63)]) (Fr.call9 (rs := [76, 97, 98]) (fs := [(66, 59), (66, 60), (66, 61), (66, 62), (66, 63)]) Fr.rf hq_3 rfl rfl) hq_18 rfl rfl) hq_27 rfl rfl) hq_43 rfl rfl)
        have g_55 : gO G_42 = gO G := gO_fr fr_54 (gr_q rfl) (gf_q rfl)
        have qc_56 : (0 : Int32).toInt = 0 := rfl
        refine loop_N (Inv := fun n H locs ls => ∃ (G_48 : GS) (x_52 : Int32), (n : Int) = 512 - x_52.toInt ∧ (0 ≤ x_52.toInt ∧ x_52.toInt ≤ 512) ∧ (gO G_48 = 1) ∧ Rc (St_n_layBold_1) (0, G_42) (x_52, G_48) ∧ Wd D k A a G_48 H ∧ Bd G_48 ∧ Fr [106, 76, 97, 98] [(66, 59), (66, 60), (66, 61), (66, 62), (66, 63)] G G_48 ∧ Fr [106] [] G_42 G_48 ∧ va_S A s.heap H locs ∧ lv_has ls 8 [(6, .int x_52), (0, .ref (a 66)), (5, .int p4)]) (fun n_51 H locs ls ih_50 hI => ?_) (512 - 0 : Int).toNat ⟨G_42, 0, (Int.toNat_of_nonneg ((by decide))), ⟨(by decide), (by decide)⟩, ((by first | exact ok_796 hO9 g_55 | omega)), Rc.rf, hW, hB_G_42, hF, Fr.rf, hS, lv_sub hl [0, 1, 6] rfl⟩
        obtain ⟨G_48, x_52, hn_59, f_57, f_58, hX_53, hW, hB_G_48, hF, hq_49, hS, hl⟩ := hI
        refine lv_iload hx hb dX12_layBold_44 (lv_at hl 0 rfl) ?_
        refine lv_sipush (v := 512) hx hb dX12_layBold_46 (by decide) ?_
        refine lv_icmp_ge (tgt := 66) hx hb dX12_layBold_49 rfl (fun c_60 => ?_) (fun c_60 => ?_)
        · have c_60 : 512 ≤ x_52.toInt := xI_le rfl rfl c_60
          refine ic_1 hx hb dX12_layBold_66 ?_
          refine lv_istore (lv' := [(6, .int 1), (0, .ref (a 66)), (5, .int p4)]) hx hb dX12_layBold_67 hl (lt_b rfl) rfl (fun ls hl => ?_)
          have qc_67 : (1 : Int32).toInt = 1 := rfl
          refine loop_N (Inv := fun n H locs ls => ∃ (G_61 : GS) (x_65 : Int32), (n : Int) = 8 - x_65.toInt ∧ (1 ≤ x_65.toInt ∧ x_65.toInt ≤ 8) ∧ (gO G_61 = 1) ∧ Rc (St_n_layBold_2 p4) (1, G_48) (x_65, G_61) ∧ Wd D k A a G_61 H ∧ Bd G_61 ∧ Fr [106, 76, 97, 98] [(66, 59), (66, 60), (66, 61), (66, 62), (66, 63)] G G_61 ∧ Fr [106] [] G_48 G_61 ∧ va_S A s.heap H locs ∧ lv_has ls 8 [(6, .int x_65), (0, .ref (a 66)), (5, .int p4)]) (fun n_64 H locs ls ih_63 hI => ?_) (8 - 1 : Int).toNat ⟨G_48, 1, (Int.toNat_of_nonneg ((by decide))), ⟨(by decide), (by decide)⟩, ((by first | exact f_58 | omega)), Rc.rf, hW, hB_G_48, hF, Fr.rf, hS, lv_sub hl [0, 1, 2] rfl⟩
          obtain ⟨G_61, x_65, hn_70, f_68, f_69, hX_66, hW, hB_G_61, hF, hq_62, hS, hl⟩ := hI
          refine lv_iload hx hb dX12_layBold_69 (lv_at hl 0 rfl) ?_
          refine lv_iload hx hb dX12_layBold_71 (lv_at hl 2 rfl) ?_
          refine lv_icmp_ge (tgt := 134) hx hb dX12_layBold_73 rfl (fun c_71 => ?_) (fun c_71 => ?_)
          · have c_71 : p4.toInt ≤ x_65.toInt := xI_le rfl rfl c_71
            refine ic_1 hx hb dX12_layBold_134 ?_
            have g_72 : (G_61.1 66 61).toInt = (G_26.1 66 61).toInt := (congrArg Int32.toInt (show G_61.1 66 61 = (G_26.1 66 61) from ((hq_62.i9 66 61 rfl rfl).trans ((hq_49.i9 66 61 rfl rfl).trans ((hq_43.i9 66 61 rfl rfl).trans (rfl))))))
            have g_73 : (G_61.1 66 62).toInt = (G_26.1 66 62).toInt := (congrArg Int32.toInt (show G_61.1 66 62 = (G_26.1 66 62) from ((hq_62.i9 66 62 rfl rfl).trans ((hq_49.i9 66 62 rfl rfl).trans ((hq_43.i9 66 62 rfl rfl).trans (rfl))))))
            exact W.zret (v := 1) hx hb hr (by decide) (fun t ht _ => ⟨⟨1, G_61, rfl, (Q_layBold_mk ⟨hB_G_61, hF, ⟨by decide, by decide⟩, (by have hq : (1 : Int32).toInt = 1 := rfl; (try dsimp only); omega), ⟨r_1, G_2, hX_5, (Or.inr ⟨c_7, ⟨r_16, G_17, hX_20, (Or.inr ⟨c_22, ⟨G_26, hX_29, ⟨r_41, G_42, hX_45, (Or.inr ⟨c_47, ⟨x_52, G_48, hX_53, f_57, f_58, hB_G_48, hq_49, ⟨c_60, ⟨x_65, G_61, hX_66, f_68, f_69, hB_G_61, hq_62, ⟨c_71, ⟨rfl, rfl⟩⟩⟩⟩⟩⟩)⟩⟩⟩)⟩⟩)⟩⟩), wd_t ht hW⟩, hS.F ht⟩) hS.2.2 dX12_layBold_135
          · have c_71 : x_65.toInt < p4.toInt := xI_nle rfl rfl c_71
            refine ic_0 hx hb dX12_layBold_76 ?_
            refine lv_istore (lv' := [(7, .int 0), (6, .int x_65), (0, .ref (a 66)), (5, .int p4)]) hx hb dX12_layBold_77 hl (lt_b rfl) rfl (fun ls hl => ?_)
            have qc_80 : (0 : Int32).toInt = 0 := rfl
            refine loop_N (Inv := fun n H locs ls => ∃ (G_74 : GS) (x_78 : Int32), (n : Int) = 400 - x_78.toInt ∧ (0 ≤ x_78.toInt ∧ x_78.toInt ≤ 400) ∧ (gO G_74 = 1) ∧ Rc (St_n_layBold_3 x_65) (0, G_61) (x_78, G_74) ∧ Wd D k A a G_74 H ∧ Bd G_74 ∧ Fr [106, 76, 97, 98] [(66, 59), (66, 60), (66, 61), (66, 62), (66, 63)] G G_74 ∧ Fr [106] [] G_61 G_74 ∧ va_S A s.heap H locs ∧ lv_has ls 8 [(7, .int x_78), (6, .int x_65), (0, .ref (a 66)), (5, .int p4)]) (fun n_77 H locs ls ih_76 hI => ?_) (400 - 0 : Int).toNat ⟨G_61, 0, (Int.toNat_of_nonneg ((by decide))), ⟨(by decide), (by decide)⟩, ((by first | exact f_69 | omega)), Rc.rf, hW, hB_G_61, hF, Fr.rf, hS, lv_sub hl [0, 1, 2, 3] rfl⟩
            obtain ⟨G_74, x_78, hn_83, f_81, f_82, hX_79, hW, hB_G_74, hF, hq_75, hS, hl⟩ := hI
            refine lv_iload hx hb dX12_layBold_79 (lv_at hl 0 rfl) ?_
            refine lv_sipush (v := 400) hx hb dX12_layBold_81 (by decide) ?_
            refine lv_icmp_ge (tgt := 128) hx hb dX12_layBold_84 rfl (fun c_84 => ?_) (fun c_84 => ?_)
            · have c_84 : 400 ≤ x_78.toInt := xI_le rfl rfl c_84
              obtain ⟨y_85, ey_85⟩ : ∃ q, q = x_65 + 1 := ⟨_, rfl⟩
              have ty_85 : y_85.toInt = x_65.toInt + 1 := xI_add rfl rfl ey_85 ((by first | exact ok_237 f_68.1 | omega)) ((by first | exact ok_112 f_68.2 | omega))
              refine lv_iinc (v := y_85) (lv' := [(6, .int y_85), (7, .int x_78), (0, .ref (a 66)), (5, .int p4)]) hx hb dX12_layBold_128 hl (k := 1) rfl (by rw [ey_85]; rfl) (lt_b rfl) rfl (fun ls hl => ?_)
              refine lv_goto (tgt := 69) hx hb dX12_layBold_131 rfl ?_
              exact ih_63 (8 - y_85.toInt : Int).toNat ((by first | (clear hP9 hW9 hO9 f_6 hp_4 c_7 f_21 c_22 g_24 d_3 d_4 d_5 d_6 d_7 d_8 b_30 u_32 u_33 u_34 u_35 b_36 b_37 b_38 b_39 b_40 f_46 d_9 d_10 c_47 g_55 hn_59 f_57 f_58 c_60 f_69 hn_83 f_81 f_82 c_84; omega) | omega)) _ _ _ ⟨G_74, y_85, (Int.toNat_of_nonneg ((by first | exact ok_1239 qc_15 f_21.1 f_21.2 d_1 c_22 f_68.2 c_71 ty_85 | omega))), ⟨(by first | exact ok_240 f_68.1 ty_85 | omega), (by first | exact ok_1240 qc_15 f_21.1 f_21.2 d_1 c_22 f_68.2 c_71 ty_85 | omega)⟩, ((by first | exact f_82 | omega)), (hX_66.st (St_n_layBold_2_mk ⟨x_65, G_61, y_85, G_74, rfl, rfl, f_68, f_69, hB_G_61, ⟨c_71, ⟨x_78, G_74, hX_79, f_81, f_82, hB_G_74, hq_75, ⟨c_84, ⟨y_85, ty_85, ⟨rfl, rfl⟩⟩⟩⟩⟩⟩)), hW, hB_G_74, hF, (Fr.call9 (rs := [106]) (fs := []) (Fr.call9 (rs := [106]) (fs := []) Fr.rf hq_62 rfl rfl) hq_75 rfl rfl), hS, lv_sub hl [0, 2, 3] rfl⟩
            · have c_84 : x_78.toInt < 400 := xI_nle rfl rfl c_84
              refine lv_aload_n hx hb dX12_layBold_87 rfl (lv_at hl 2 rfl) ?_
              refine S_getR (n := 106) (C := RX12) (T := TX12) (N := 89) hx hb hg iX12 hown hK hW kd_66 rfl 72 (lt_b rfl) (hg (Cond.fieldLink RX12 139 "SlabWalkModel" "odds" "[J") m1386) (fun _ h9 => h9) rfl dX12_layBold_88 ?_
              refine lv_sipush (v := 512) hx hb dX12_layBold_91 (by decide) ?_
              refine lv_iload hx hb dX12_layBold_94 (lv_at hl 1 rfl) ?_
              refine lv_imul hx hb dX12_layBold_96 ?_
              refine lv_topi (fun y_86 ey_86 => ?_)
              have ty_86 : y_86.toInt = 512 * x_65.toInt := xI_mul rfl rfl ey_86 ((by first | exact ok_1241 f_68.1 | omega)) ((by first | exact ok_1242 f_68.2 | omega))
              refine lv_iload hx hb dX12_layBold_97 (lv_at hl 0 rfl) ?_
              refine lv_iadd hx hb dX12_layBold_99 ?_
              refine lv_topi (fun y_87 ey_87 => ?_)
              have ty_87 : y_87.toInt = y_86.toInt + x_78.toInt := xI_add rfl rfl ey_87 ((by first | exact ok_1243 f_68.1 f_81.1 ty_86 | omega)) ((by first | exact ok_1244 f_68.2 f_81.2 ty_86 | omega))
              refine lv_aload_n hx hb dX12_layBold_100 rfl (lv_at hl 2 rfl) ?_
              refine lv_iload hx hb dX12_layBold_101 (lv_at hl 0 rfl) ?_
              have g_88 : (G_74.1 66 59).toInt = (G_26.1 66 59).toInt := (congrArg Int32.toInt (show G_74.1 66 59 = (G_26.1 66 59) from ((hq_75.i9 66 59 rfl rfl).trans ((hq_62.i9 66 59 rfl rfl).trans ((hq_49.i9 66 59 rfl rfl).trans ((hq_43.i9 66 59 rfl rfl).trans (rfl)))))))
              have g_89 : (G_74.1 66 60).toInt = (G_26.1 66 60).toInt := (congrArg Int32.toInt (show G_74.1 66 60 = (G_26.1 66 60) from ((hq_75.i9 66 60 rfl rfl).trans ((hq_62.i9 66 60 rfl rfl).trans ((hq_49.i9 66 60 rfl rfl).trans ((hq_43.i9 66 60 rfl rfl).trans (rfl)))))))
              refine S_calli (va_runV (As := [.int x_78]) (rest := [.int y_87, .ref (a 106)]) ⟨hx, hb, hml, hown, hts⟩ (n_stands1 l D k A a z G_74 x_78 ) (cwV 1 hts (gd_V hgd m1838 m1840 m92 m131 m1841) rfl rfl rfl hd_X12_doesStand ⟨Nat.le_of_ble_eq_true rfl, Nat.le_of_ble_eq_true rfl⟩) (pre_W hW hB_G_74 hK hZ hS kd_66 rfl) rfl rfl hl.1 rfl (lv_room (Nat.le_of_ble_eq_true rfl)) dX12_layBold_103 ⟨Nat.le_of_ble_eq_true rfl, Nat.le_of_ble_eq_true rfl⟩) hS (fun r_90 G_91 H locs hpo hW hS => ?_)
              have hX_94 : Q_stands1 x_78 G_74 r_90 G_91 := hpo
              obtain ⟨hB_G_91, hq_92, f_95, ⟨d_11, d_12⟩, -⟩ := hpo
              have hF := hF.call9 hq_92 rfl rfl
              refine lv_if_eq (tgt := 120) hx hb dX12_layBold_106 rfl (fun c_96 => ?_) (fun c_96 => ?_)
              · have c_96 : r_90.toInt = 0 := xI_eq rfl rfl c_96
                refine lv_lconst (v := 0) hx hb dX12_layBold_120 (by decide) ?_
                have fr_97 : Fr [] [] G_74 G_91 := (Fr.call9 (rs := []) (fs := []) Fr.rf hq_92 rfl rfl)
                have g_98 : gO G_91 = gO G_74 := gO_fr fr_97 (gr_q rfl) (gf_q rfl)
                refine S_last hx hb hK hW hS kd_106 (vin ((by first | exact ok_1245 f_68.1 f_81.1 ty_86 ty_87 | omega)) ((by first | exact ok_1246 qc_15 f_21.1 f_21.2 d_1 c_22 f_68.2 c_71 c_84 ty_86 ty_87 | omega))) dX12_layBold_121 (fun G_99 H locs eG_99 hW hS => ?_)
                have hB_G_99 : Bd G_99 := hB_G_91.putl eG_99
                have hF := hF.putl eG_99 (Or.inl (by decide))
                have u_100 := p27_pos (x_65.toInt).toNat
                have u_101 : (0 : Int64).toInt = 0 := rfl
                have u_102 : gO G_99 = 1 := gO_put (x := y_87) (n := (x_65.toInt).toNat) (by first | (clear hP9 hW9 hO9 f_6 c_7 f_21 c_22 g_24 b_30 f_46 c_47 g_55 hn_59 f_57 f_58 c_60 hn_70 f_69 hn_83 f_82 g_98; omega) | omega) eG_99 (by first | (clear hP9 hW9 hO9 f_6 c_7 f_21 c_22 g_24 b_30 f_46 c_47 g_55 hn_59 f_57 f_58 c_60 hn_70 f_69 hn_83 f_82 g_98; omega) | omega) (by first | (clear hP9 hW9 hO9 f_6 c_7 f_21 c_22 g_24 b_30 f_46 c_47 g_55 hn_59 f_57 f_58 c_60 hn_70 f_69 hn_83 f_82 g_98; omega) | omega) (by first | (clear hP9 hW9 hO9 f_6 c_7 f_21 c_22 g_24 b_30 f_46 c_47 g_55 hn_59 f_57 f_58 c_60 hn_70 f_69 hn_83 f_82 g_98; omega) | omega) (by first | (clear hP9 hW9 hO9 f_6 c_7 f_21 c_22 g_24 b_30 f_46 c_47 g_55 hn_59 f_57 f_58 c_60 hn_70 f_69 hn_83 f_82 g_98; omega) | omega)
                obtain ⟨y_103, ey_103⟩ : ∃ q, q = x_78 + 1 := ⟨_, rfl⟩
                have ty_103 : y_103.toInt = x_78.toInt + 1 := xI_add rfl rfl ey_103 ((by first | exact ok_21 f_81.1 | omega)) ((by first | exact ok_40 f_81.2 | omega))
                refine lv_iinc (v := y_103) (lv' := [(7, .int y_103), (6, .int x_65), (0, .ref (a 66)), (5, .int p4)]) hx hb dX12_layBold_122 hl (k := 0) rfl (by rw [ey_103]; rfl) (lt_b rfl) rfl (fun ls hl => ?_)
                refine lv_goto (tgt := 79) hx hb dX12_layBold_125 rfl ?_
                exact ih_76 (400 - y_103.toInt : Int).toNat ((by first | (clear hP9 hW9 hO9 f_6 c_7 f_21 c_22 g_24 b_30 f_46 c_47 g_55 hn_59 f_57 f_58 c_60 f_69 f_82 g_98 u_102; omega) | omega)) _ _ _ ⟨G_99, y_103, (Int.toNat_of_nonneg ((by first | exact ok_324 f_81.2 c_84 ty_103 | omega))), ⟨(by first | exact ok_23 f_81.1 ty_103 | omega), (by first | exact ok_55 f_81.2 c_84 ty_103 | omega)⟩, ((by first | exact u_102 | omega)), (hX_79.st (St_n_layBold_3_mk ⟨x_78, G_74, y_103, G_99, rfl, rfl, f_81, f_82, hB_G_74, ⟨c_84, ⟨y_86, ty_86, ⟨y_87, ty_87, ⟨r_90, G_91, hX_94, (Or.inl ⟨c_96, ⟨y_103, ty_103, ⟨rfl, (Fr.putl (rs := [106]) (fs := []) Fr.rf eG_99 (Or.inl (by decide))), rl_ast eG_99⟩⟩⟩)⟩⟩⟩⟩⟩)), hW, hB_G_99, hF, (Fr.putl (rs := [106]) (fs := []) (Fr.call9 (rs := [106]) (fs := []) (Fr.call9 (rs := [106]) (fs := []) Fr.rf hq_75 rfl rfl) hq_92 rfl rfl) eG_99 (Or.inl (by decide))), hS, lv_sub hl [0, 1, 2, 3] rfl⟩
              · have c_96 : r_90.toInt ≠ 0 := xI_ne rfl rfl c_96
                refine lv_aload_n hx hb dX12_layBold_109 rfl (lv_at hl 2 rfl) ?_
                refine lv_iload hx hb dX12_layBold_110 (lv_at hl 0 rfl) ?_
                refine lv_iload hx hb dX12_layBold_112 (lv_at hl 1 rfl) ?_
                have g_104 : (G_91.1 66 61).toInt = (G_26.1 66 61).toInt := (congrArg Int32.toInt (show G_91.1 66 61 = (G_26.1 66 61) from ((hq_92.i9 66 61 rfl rfl).trans ((hq_75.i9 66 61 rfl rfl).trans ((hq_62.i9 66 61 rfl rfl).trans ((hq_49.i9 66 61 rfl rfl).trans ((hq_43.i9 66 61 rfl rfl).trans (rfl))))))))
                have g_105 : (G_91.1 66 62).toInt = (G_26.1 66 62).toInt := (congrArg Int32.toInt (show G_91.1 66 62 = (G_26.1 66 62) from ((hq_92.i9 66 62 rfl rfl).trans ((hq_75.i9 66 62 rfl rfl).trans ((hq_62.i9 66 62 rfl rfl).trans ((hq_49.i9 66 62 rfl rfl).trans ((hq_43.i9 66 62 rfl rfl).trans (rfl))))))))
                have g_106 : (G_91.1 66 61).toInt = (G_26.1 66 61).toInt := (congrArg Int32.toInt (show G_91.1 66 61 = (G_26.1 66 61) from ((hq_92.i9 66 61 rfl rfl).trans ((hq_75.i9 66 61 rfl rfl).trans ((hq_62.i9 66 61 rfl rfl).trans ((hq_49.i9 66 61 rfl rfl).trans ((hq_43.i9 66 61 rfl rfl).trans (rfl))))))))
                have g_107 : (G_91.1 66 62).toInt = (G_26.1 66 62).toInt := (congrArg Int32.toInt (show G_91.1 66 62 = (G_26.1 66 62) from ((hq_92.i9 66 62 rfl rfl).trans ((hq_75.i9 66 62 rfl rfl).trans ((hq_62.i9 66 62 rfl rfl).trans ((hq_49.i9 66 62 rfl rfl).trans ((hq_43.i9 66 62 rfl rfl).trans (rfl))))))))
                refine S_calll (va_runV (As := [.int x_78, .int x_65]) (rest := [.int y_87, .ref (a 106)]) ⟨hx, hb, hml, hown, hts⟩ (n_bestOdds l D k A a z G_91 x_78 x_65 ⟨(by first | exact f_81.1 | omega), (by first | exact ok_1247 f_81.2 c_84 | omega)⟩ ⟨(by first | exact f_68.1 | omega), (by first | exact f_68.2 | omega)⟩ ((by first | (clear hP9 hW9 hO9 f_21 d_1 d_2 c_22 g_24 g_55 hn_59 f_57 f_58 c_60 hn_70 f_69 hn_83 f_82; omega) | omega))) (cwV 2 hts (gd_V hgd m1947 m1949 m104 m131 m1950) rfl rfl rfl hd_X12_bestOdds ⟨Nat.le_of_ble_eq_true rfl, Nat.le_of_ble_eq_true rfl⟩) (pre_W hW hB_G_91 hK hZ hS kd_66 rfl) rfl rfl hl.1 rfl (lv_room (Nat.le_of_ble_eq_true rfl)) dX12_layBold_114 ⟨Nat.le_of_ble_eq_true rfl, Nat.le_of_ble_eq_true rfl⟩) hS (fun r_108 G_109 H locs hpo hW hS => ?_)
                have hX_112 : Q_bestOdds x_78 x_65 G_91 r_108 G_109 := hpo
                obtain ⟨hB_G_109, hq_110, hp_111, -⟩ := hpo
                have hF := hF.call9 hq_110 rfl rfl
                have fr_113 : Fr [] [] G_74 G_91 := (Fr.call9 (rs := []) (fs := []) Fr.rf hq_92 rfl rfl)
                have g_114 : gO G_91 = gO G_74 := gO_fr fr_113 (gr_q rfl) (gf_q rfl)
                have u_115 := bO_rng hB_G_91 (by omega) (by omega) (by omega) hp_111
                refine lv_goto (tgt := 121) hx hb dX12_layBold_117 rfl ?_
                have fr_116 : Fr [] [] G_74 G_109 := (Fr.call9 (rs := []) (fs := []) (Fr.call9 (rs := []) (fs := []) Fr.rf hq_92 rfl rfl) hq_110 rfl rfl)
                have g_117 : gO G_109 = gO G_74 := gO_fr fr_116 (gr_q rfl) (gf_q rfl)
                refine S_last hx hb hK hW hS kd_106 (vin ((by first | exact ok_1245 f_68.1 f_81.1 ty_86 ty_87 | omega)) ((by first | exact ok_1246 qc_15 f_21.1 f_21.2 d_1 c_22 f_68.2 c_71 c_84 ty_86 ty_87 | omega))) dX12_layBold_121 (fun G_118 H locs eG_118 hW hS => ?_)
                have hB_G_118 : Bd G_118 := hB_G_109.putl eG_118
                have hF := hF.putl eG_118 (Or.inl (by decide))
                have u_119 : gO G_118 = 1 := gO_put (x := y_87) (n := (x_65.toInt).toNat) (by first | (clear hP9 hW9 hO9 f_6 c_7 f_21 c_22 g_24 b_30 f_46 c_47 g_55 hn_59 f_57 f_58 c_60 hn_70 f_69 hn_83 f_82 g_114 g_117; omega) | omega) eG_118 (by first | (clear hP9 hW9 hO9 f_6 c_7 f_21 c_22 g_24 b_30 f_46 c_47 g_55 hn_59 f_57 f_58 c_60 hn_70 f_69 hn_83 f_82 g_114 g_117; omega) | omega) (by first | (clear hP9 hW9 hO9 f_6 c_7 f_21 c_22 g_24 b_30 f_46 c_47 g_55 hn_59 f_57 f_58 c_60 hn_70 f_69 hn_83 f_82 g_114 g_117; omega) | omega) (by first | (clear hP9 hW9 hO9 f_6 c_7 f_21 c_22 g_24 b_30 f_46 c_47 g_55 hn_59 f_57 f_58 c_60 hn_70 f_69 hn_83 f_82 g_114 g_117; omega) | omega) (by first | (clear hP9 hW9 hO9 f_6 c_7 f_21 c_22 g_24 b_30 f_46 c_47 g_55 hn_59 f_57 f_58 c_60 hn_70 f_69 hn_83 f_82 g_114 g_117; omega) | omega)
                obtain ⟨y_120, ey_120⟩ : ∃ q, q = x_78 + 1 := ⟨_, rfl⟩
                have ty_120 : y_120.toInt = x_78.toInt + 1 := xI_add rfl rfl ey_120 ((by first | exact ok_21 f_81.1 | omega)) ((by first | exact ok_40 f_81.2 | omega))
                refine lv_iinc (v := y_120) (lv' := [(7, .int y_120), (6, .int x_65), (0, .ref (a 66)), (5, .int p4)]) hx hb dX12_layBold_122 hl (k := 0) rfl (by rw [ey_120]; rfl) (lt_b rfl) rfl (fun ls hl => ?_)
                refine lv_goto (tgt := 79) hx hb dX12_layBold_125 rfl ?_
                exact ih_76 (400 - y_120.toInt : Int).toNat ((by first | (clear hP9 hW9 hO9 f_6 c_7 f_21 c_22 g_24 b_30 f_46 c_47 g_55 hn_59 f_57 f_58 c_60 f_69 f_82 g_114 g_117 u_119; omega) | omega)) _ _ _ ⟨G_118, y_120, (Int.toNat_of_nonneg ((by first | exact ok_324 f_81.2 c_84 ty_120 | omega))), ⟨(by first | exact ok_23 f_81.1 ty_120 | omega), (by first | exact ok_55 f_81.2 c_84 ty_120 | omega)⟩, ((by first | exact u_119 | omega)), (hX_79.st (St_n_layBold_3_mk ⟨x_78, G_74, y_120, G_118, rfl, rfl, f_81, f_82, hB_G_74, ⟨c_84, ⟨y_86, ty_86, ⟨y_87, ty_87, ⟨r_90, G_91, hX_94, (Or.inr ⟨c_96, ⟨r_108, G_109, hX_112, ⟨y_120, ty_120, ⟨rfl, (Fr.putl (rs := [106]) (fs := []) Fr.rf eG_118 (Or.inl (by decide))), rl_ast eG_118⟩⟩⟩⟩)⟩⟩⟩⟩⟩)), hW, hB_G_118, hF, (Fr.putl (rs := [106]) (fs := []) (Fr.call9 (rs := [106]) (fs := []) (Fr.call9 (rs := [106]) (fs := []) (Fr.call9 (rs := [106]) (fs := []) Fr.rf hq_75 rfl rfl) hq_92 rfl rfl) hq_110 rfl rfl) eG_118 (Or.inl (by decide))), hS, lv_sub hl [0, 1, 2, 3] rfl⟩
        · have c_60 : x_52.toInt < 512 := xI_nle rfl rfl c_60
          refine lv_aload_n hx hb dX12_layBold_52 rfl (lv_at hl 1 rfl) ?_
          refine S_getR (n := 106) (C := RX12) (T := TX12) (N := 89) hx hb hg iX12 hown hK hW kd_66 rfl 72 (lt_b rfl) (hg (Cond.fieldLink RX12 139 "SlabWalkModel" "odds" "[J") m1386) (fun _ h9 => h9) rfl dX12_layBold_53 ?_
          refine lv_iload hx hb dX12_layBold_56 (lv_at hl 0 rfl) ?_
          refine lv_lconst (v := 1) hx hb dX12_layBold_58 (by decide) ?_
          refine S_last hx hb hK hW hS kd_106 (vin ((by first | exact f_57.1 | omega)) ((by first | exact ok_1248 f_57.2 | omega))) dX12_layBold_59 (fun G_121 H locs eG_121 hW hS => ?_)
          have hB_G_121 : Bd G_121 := hB_G_48.putl eG_121
          have hF := hF.putl eG_121 (Or.inl (by decide))
          have u_122 : gO G_121 = 1 := gO_put (x := x_52) (n := 0) (by first | (clear hP9 hW9 hO9 f_6 hp_4 c_7 f_21 d_1 d_2 c_22 g_24 d_3 d_4 d_5 d_6 d_7 d_8 b_30 u_32 u_33 u_34 u_35 b_36 b_37 b_38 b_39 b_40 f_46 d_9 d_10 c_47 g_55 hn_59 f_58; omega) | omega) eG_121 (by first | (clear hP9 hW9 hO9 f_6 hp_4 c_7 f_21 d_1 d_2 c_22 g_24 d_3 d_4 d_5 d_6 d_7 d_8 b_30 u_32 u_33 u_34 u_35 b_36 b_37 b_38 b_39 b_40 f_46 d_9 d_10 c_47 g_55 hn_59 f_58; omega) | omega) (by first | (clear hP9 hW9 hO9 f_6 hp_4 c_7 f_21 d_1 d_2 c_22 g_24 d_3 d_4 d_5 d_6 d_7 d_8 b_30 u_32 u_33 u_34 u_35 b_36 b_37 b_38 b_39 b_40 f_46 d_9 d_10 c_47 g_55 hn_59 f_58; omega) | omega) (by decide) (by decide)
          obtain ⟨y_123, ey_123⟩ : ∃ q, q = x_52 + 1 := ⟨_, rfl⟩
          have ty_123 : y_123.toInt = x_52.toInt + 1 := xI_add rfl rfl ey_123 ((by first | exact ok_21 f_57.1 | omega)) ((by first | exact ok_1086 f_57.2 | omega))
          refine lv_iinc (v := y_123) (lv' := [(6, .int y_123), (0, .ref (a 66)), (5, .int p4)]) hx hb dX12_layBold_60 hl (k := 0) rfl (by rw [ey_123]; rfl) (lt_b rfl) rfl (fun ls hl => ?_)
          refine lv_goto (tgt := 44) hx hb dX12_layBold_63 rfl ?_
          exact ih_50 (512 - y_123.toInt : Int).toNat ((by first | (clear hP9 hW9 hO9 f_6 hp_4 c_7 f_21 d_1 d_2 c_22 g_24 d_3 d_4 d_5 d_6 d_7 d_8 b_30 u_32 u_33 u_34 u_35 b_36 b_37 b_38 b_39 b_40 f_46 d_9 d_10 c_47 g_55 f_58 u_122; omega) | omega)) _ _ _ ⟨G_121, y_123, (Int.toNat_of_nonneg ((by first | exact ok_1087 f_57.2 c_60 ty_123 | omega))), ⟨(by first | exact ok_23 f_57.1 ty_123 | omega), (by first | exact ok_1088 f_57.2 c_60 ty_123 | omega)⟩, ((by first | exact u_122 | omega)), (hX_53.st (St_n_layBold_1_mk ⟨x_52, G_48, y_123, G_121, rfl, rfl, f_57, f_58, hB_G_48, ⟨c_60, ⟨y_123, ty_123, ⟨rfl, (Fr.putl (rs := [106]) (fs := []) Fr.rf eG_121 (Or.inl (by decide))), rl_ast eG_121⟩⟩⟩⟩)), hW, hB_G_121, hF, (Fr.putl (rs := [106]) (fs := []) (Fr.call9 (rs := [106]) (fs := []) Fr.rf hq_49 rfl rfl) eG_121 (Or.inl (by decide))), hS, lv_sub hl [0, 1, 2] rfl⟩
      · have c_47 : r_41.toInt = 0 := xI_eq rfl rfl c_47
        refine ic_0 hx hb dX12_layBold_39 ?_
        have fr_124 : Fr [76, 97, 98] [(66, 59), (66, 60), (66, 61), (66, 62), (66, 63)] G G_42 := (Fr.call9 (rs := [76, 97, 98]) (fs := [(66, 59), (66, 60), (66, 61), (66, 62), (66, 63)]) (Fr.call9 (rs := [76, 97, 98]) (fs := [(66, 59), (66, 60), (66, 61), (66, 62), (66, 63)]) (Fr.call9 (rs := [76, 97, 98]) (fs := [(66, 59), (66, 60), (66, 61), (66, 62), (66, 63)]) (Fr.call9 (rs := [76, 97, 98]) (fs := [(66, 59), (66, 60), (66, 61), (66, 62), (66, 63)]) Fr.rf hq_3 rfl rfl) hq_18 rfl rfl) hq_27 rfl rfl) hq_43 rfl rfl)
        have g_125 : gO G_42 = gO G := gO_fr fr_124 (gr_q rfl) (gf_q rfl)
        have g_126 : (G_42.1 66 61).toInt = (G_26.1 66 61).toInt := (congrArg Int32.toInt (show G_42.1 66 61 = (G_26.1 66 61) from ((hq_43.i9 66 61 rfl rfl).trans (rfl))))
        have g_127 : (G_42.1 66 62).toInt = (G_26.1 66 62).toInt := (congrArg Int32.toInt (show G_42.1 66 62 = (G_26.1 66 62) from ((hq_43.i9 66 62 rfl rfl).trans (rfl))))
        exact W.zret (v := 0) hx hb hr (by decide) (fun t ht _ => ⟨⟨0, G_42, rfl, (Q_layBold_mk ⟨hB_G_42, hF, ⟨by decide, by decide⟩, (by have hq : (0 : Int32).toInt = 0 := rfl; (try dsimp only); omega), ⟨r_1, G_2, hX_5, (Or.inr ⟨c_7, ⟨r_16, G_17, hX_20, (Or.inr ⟨c_22, ⟨G_26, hX_29, ⟨r_41, G_42, hX_45, (Or.inl ⟨c_47, ⟨rfl, rfl⟩⟩)⟩⟩⟩)⟩⟩)⟩⟩), wd_t ht hW⟩, hS.F ht⟩) hS.2.2 dX12_layBold_40
    · have c_22 : r_16.toInt = 0 := xI_eq rfl rfl c_22
      refine ic_0 hx hb dX12_layBold_21 ?_
      have fr_128 : Fr [] [] G G_17 := (Fr.call9 (rs := []) (fs := []) (Fr.call9 (rs := []) (fs := []) Fr.rf hq_3 rfl rfl) hq_18 rfl rfl)
      have g_129 : gO G_17 = gO G := gO_fr fr_128 (gr_q rfl) (gf_q rfl)
      have b_130 : 0 ≤ (G.1 66 61).toInt ∧ (G.1 66 61).toInt ≤ 60 := bd_66_61 hB_G
      have g_131 : (G_17.1 66 61).toInt = (G.1 66 61).toInt := (congrArg Int32.toInt (show G_17.1 66 61 = (G.1 66 61) from ((hq_18.i9 66 61 rfl rfl).trans (hq_3.i9 66 61 rfl rfl))))
      have b_132 : 0 ≤ (G.1 66 62).toInt ∧ (G.1 66 62).toInt ≤ 60 := bd_66_62 hB_G
      have g_133 : (G_17.1 66 62).toInt = (G.1 66 62).toInt := (congrArg Int32.toInt (show G_17.1 66 62 = (G.1 66 62) from ((hq_18.i9 66 62 rfl rfl).trans (hq_3.i9 66 62 rfl rfl))))
      exact W.zret (v := 0) hx hb hr (by decide) (fun t ht _ => ⟨⟨0, G_17, rfl, (Q_layBold_mk ⟨hB_G_17, hF, ⟨by decide, by decide⟩, (by have hq : (0 : Int32).toInt = 0 := rfl; (try dsimp only); omega), ⟨r_1, G_2, hX_5, (Or.inr ⟨c_7, ⟨r_16, G_17, hX_20, (Or.inl ⟨c_22, ⟨rfl, rfl⟩⟩)⟩⟩)⟩⟩), wd_t ht hW⟩, hS.F ht⟩) hS.2.2 dX12_layBold_22

set_option maxHeartbeats 4000000 in
set_option maxRecDepth 100000 in
theorem n_brave (l : Launch) (D : va_G) (k : KT) (A : Nat → Prop) (a : Nat → Nat) (z : SK) (G : GS) (p0 : Int32) (p1 : Int32) (p2 : Int32) (p3 : Int32) (p4 : Int32) (hP9 : gP G = 1) (hW9 : gW G = 1) (hO9 : gO G = 1) : Met l yX12_brave (WS yX12_brave cX12_brave 6 (some .long)) ({ frames := 6, cells := 0, slots := 0, locals := 144 }) (va_Pc [.ref (a 66), .int p0, .int p1, .int p2, .int p3, .int p4] (cW D k A a z G)) (va_Ql (fun (r : Int64) (G1 : GS) => Q_brave p0 p1 p2 p3 p4 G r G1) (fun (G1 : GS) t => Wd D k A a G1 t.heap) A) 0 0 A := by
  refine Met.ofW (cc := cX12_brave) (maxL := 6) (ret := (some .long)) (by decide) rfl ?_
  intro p e s m args below meth c s₁ B hml hv
  obtain ⟨rfl, hW, hB_G, hK, hZ⟩ := hv
  have hx := B.exec
  have hb := B.bytes
  have hr := B.returns
  have hts := atoms_spec (ws := WS yX12_brave cX12_brave 6 (some .long)) B.pre
  have hgd : ∀ w ∈ gd, w ∈ WS yX12_brave cX12_brave 6 (some .long) := fun w h => List.mem_cons_of_mem _ h
  have hg : ∀ w ∈ gd, w.before _ s = true := fun w h => hts w (hgd w h)
  have hown : s.vm.findClass RX12 = some m.cls := findClass_of_methodNamed B.named
  have hS : va_S A s.heap s.heap [] := va_S.rf
  have hF : Fr [106, 76, 97, 98] [(66, 59), (66, 60), (66, 61), (66, 62), (66, 63)] G G := Fr.rf
  have hl := lv_entry ([.ref (a 66), .int p0, .int p1, .int p2, .int p3, .int p4]) (n := 6) (Nat.le_of_ble_eq_true rfl)
  rw [lg_entry_eq]
  generalize (lg_sl ([.ref (a 66), .int p0, .int p1, .int p2, .int p3, .int p4]) ++ List.replicate (6 - (lg_sl ([.ref (a 66), .int p0, .int p1, .int p2, .int p3, .int p4])).length) Slot.unset).toArray = ls at hl ⊢
  have hl : lv_has ls 6 [(0, .ref (a 66)), (1, .int p0), (2, .int p1), (3, .int p2), (4, .int p3), (5, .int p4)] := hl
  refine lv_aload_n hx hb dX12_brave_0 rfl (lv_at hl 0 rfl) ?_
  refine lv_iload_n hx hb dX12_brave_1 rfl (lv_at hl 1 rfl) ?_
  refine lv_iload_n hx hb dX12_brave_2 rfl (lv_at hl 2 rfl) ?_
  refine lv_iload_n hx hb dX12_brave_3 rfl (lv_at hl 3 rfl) ?_
  refine lv_iload hx hb dX12_brave_4 (lv_at hl 4 rfl) ?_
  refine lv_iload hx hb dX12_brave_6 (lv_at hl 5 rfl) ?_
  refine S_calli (va_runV (As := [.int p0, .int p1, .int p2, .int p3, .int p4]) (rest := []) ⟨hx, hb, hml, hown, hts⟩ (n_layBold l D k A a z G p0 p1 p2 p3 p4 ((by first | exact hP9 | omega)) ((by first | exact hW9 | omega)) ((by first | exact hO9 | omega))) (cwV 5 hts (gd_V hgd m1943 m1945 m103 m131 m1946) rfl rfl rfl hd_X12_layBold ⟨Nat.le_of_ble_eq_true rfl, Nat.le_of_ble_eq_true rfl⟩) (pre_W hW hB_G hK hZ hS kd_66 rfl) rfl rfl hl.1 rfl (lv_room (Nat.le_of_ble_eq_true rfl)) dX12_brave_8 ⟨Nat.le_of_ble_eq_true rfl, Nat.le_of_ble_eq_true rfl⟩) hS (fun r_1 G_2 H locs hpo hW hS => ?_)
  have hX_5 : Q_layBold p0 p1 p2 p3 p4 G r_1 G_2 := hpo
  obtain ⟨hB_G_2, hq_3, f_6, ⟨d_1, d_2⟩, -⟩ := hpo
  have hF := hF.call9 hq_3 rfl rfl
  refine lv_if_eq (tgt := 25) hx hb dX12_brave_11 rfl (fun c_7 => ?_) (fun c_7 => ?_)
  · have c_7 : r_1.toInt = 0 := xI_eq rfl rfl c_7
    refine lv_ldc2 (v := (-1)) hx hb hown (hg (Cond.constantLong RX12 517 (-1)) m1874) dX12_brave_25 ?_
    exact W.lret (v := (-1)) hx hb hr (fun t ht _ => ⟨⟨(-1), G_2, rfl, (Q_brave_mk ⟨hB_G_2, hF, (by have hq : ((-1) : Int32).toInt = (-1) := rfl; (try dsimp only); omega), ⟨r_1, G_2, hX_5, (Or.inl ⟨c_7, ⟨rfl, rfl⟩⟩)⟩⟩), wd_t ht hW⟩, hS.F ht⟩) hS.2.2 dX12_brave_28
  · have c_7 : r_1.toInt ≠ 0 := xI_ne rfl rfl c_7
    refine lv_aload_n hx hb dX12_brave_14 rfl (lv_at hl 0 rfl) ?_
    refine lv_iload hx hb dX12_brave_15 (lv_at hl 4 rfl) ?_
    refine lv_iload hx hb dX12_brave_17 (lv_at hl 5 rfl) ?_
    have b_8 : 0 ≤ (G_2.1 66 61).toInt ∧ (G_2.1 66 61).toInt ≤ 60 := bd_66_61 hB_G_2
    have b_9 : 0 ≤ (G_2.1 66 62).toInt ∧ (G_2.1 66 62).toInt ≤ 60 := bd_66_62 hB_G_2
    refine S_calll (va_runV (As := [.int p3, .int p4]) (rest := []) ⟨hx, hb, hml, hown, hts⟩ (n_bestOdds l D k A a z G_2 p3 p4 ⟨(by first | exact ok_1249 f_6.1 f_6.2 d_2 c_7 | omega), (by first | exact ok_1250 f_6.1 f_6.2 d_2 c_7 | omega)⟩ ⟨(by first | exact ok_1251 f_6.1 f_6.2 d_2 c_7 | omega), (by first | exact ok_1252 f_6.1 f_6.2 d_2 c_7 | omega)⟩ ((by first | exact ok_1253 f_6.1 f_6.2 d_2 c_7 | omega))) (cwV 2 hts (gd_V hgd m1947 m1949 m104 m131 m1950) rfl rfl rfl hd_X12_bestOdds ⟨Nat.le_of_ble_eq_true rfl, Nat.le_of_ble_eq_true rfl⟩) (pre_W hW hB_G_2 hK hZ hS kd_66 rfl) rfl rfl hl.1 rfl (lv_room (Nat.le_of_ble_eq_true rfl)) dX12_brave_19 ⟨Nat.le_of_ble_eq_true rfl, Nat.le_of_ble_eq_true rfl⟩) hS (fun r_10 G_11 H locs hpo hW hS => ?_)
    have hX_14 : Q_bestOdds p3 p4 G_2 r_10 G_11 := hpo
    obtain ⟨hB_G_11, hq_12, hp_13, -⟩ := hpo
    have hF := hF.call9 hq_12 rfl rfl
    refine lv_goto (tgt := 28) hx hb dX12_brave_22 rfl ?_
    have fr_15 : Fr [] [] G_2 G_11 := (Fr.call9 (rs := []) (fs := []) Fr.rf hq_12 rfl rfl)
    have g_16 : gO G_11 = gO G_2 := gO_fr fr_15 (gr_q rfl) (gf_q rfl)
    exact W.lret (v := r_10) hx hb hr (fun t ht _ => ⟨⟨r_10, G_11, rfl, (Q_brave_mk ⟨hB_G_11, hF, ((by first | exact ok_796 d_1 g_16 | omega)), ⟨r_1, G_2, hX_5, (Or.inr ⟨c_7, ⟨r_10, G_11, hX_14, ⟨rfl, rfl⟩⟩⟩)⟩⟩), wd_t ht hW⟩, hS.F ht⟩) hS.2.2 dX12_brave_28

set_option maxHeartbeats 4000000 in
set_option maxRecDepth 100000 in
theorem n_boldest (l : Launch) (D : va_G) (k : KT) (A : Nat → Prop) (a : Nat → Nat) (z : SK) (G : GS) (p0 : Int32) (p1 : Int32) (p2 : Int32) (p3 : Int32) (p4 : Int32) (hP9 : gP G = 1) (hW9 : gW G = 1) (hO9 : gO G = 1) : Met l yX12_boldest (WS yX12_boldest cX12_boldest 9 (some .int)) ({ frames := 6, cells := 0, slots := 0, locals := 144 }) (va_Pc [.ref (a 66), .int p0, .int p1, .int p2, .int p3, .int p4] (cW D k A a z G)) (va_Qi (fun (r : Int32) (G1 : GS) => Q_boldest p0 p1 p2 p3 p4 G r G1) (fun (G1 : GS) t => Wd D k A a G1 t.heap) A) 0 0 A := by
  refine Met.ofW (cc := cX12_boldest) (maxL := 9) (ret := (some .int)) (by decide) rfl ?_
  intro p e s m args below meth c s₁ B hml hv
  obtain ⟨rfl, hW, hB_G, hK, hZ⟩ := hv
  have hx := B.exec
  have hb := B.bytes
  have hr := B.returns
  have hts := atoms_spec (ws := WS yX12_boldest cX12_boldest 9 (some .int)) B.pre
  have hgd : ∀ w ∈ gd, w ∈ WS yX12_boldest cX12_boldest 9 (some .int) := fun w h => List.mem_cons_of_mem _ h
  have hg : ∀ w ∈ gd, w.before _ s = true := fun w h => hts w (hgd w h)
  have hown : s.vm.findClass RX12 = some m.cls := findClass_of_methodNamed B.named
  have hS : va_S A s.heap s.heap [] := va_S.rf
  have hF : Fr [106, 76, 97, 98] [(66, 59), (66, 60), (66, 61), (66, 62), (66, 63)] G G := Fr.rf
  have hl := lv_entry ([.ref (a 66), .int p0, .int p1, .int p2, .int p3, .int p4]) (n := 9) (Nat.le_of_ble_eq_true rfl)
  rw [lg_entry_eq]
  generalize (lg_sl ([.ref (a 66), .int p0, .int p1, .int p2, .int p3, .int p4]) ++ List.replicate (9 - (lg_sl ([.ref (a 66), .int p0, .int p1, .int p2, .int p3, .int p4])).length) Slot.unset).toArray = ls at hl ⊢
  have hl : lv_has ls 9 [(0, .ref (a 66)), (1, .int p0), (2, .int p1), (3, .int p2), (4, .int p3), (5, .int p4)] := hl
  refine lv_aload_n hx hb dX12_boldest_0 rfl (lv_at hl 0 rfl) ?_
  refine lv_iload_n hx hb dX12_boldest_1 rfl (lv_at hl 1 rfl) ?_
  refine lv_iload_n hx hb dX12_boldest_2 rfl (lv_at hl 2 rfl) ?_
  refine lv_iload_n hx hb dX12_boldest_3 rfl (lv_at hl 3 rfl) ?_
  refine lv_iload hx hb dX12_boldest_4 (lv_at hl 4 rfl) ?_
  refine lv_iload hx hb dX12_boldest_6 (lv_at hl 5 rfl) ?_
  refine S_calli (va_runV (As := [.int p0, .int p1, .int p2, .int p3, .int p4]) (rest := []) ⟨hx, hb, hml, hown, hts⟩ (n_layBold l D k A a z G p0 p1 p2 p3 p4 ((by first | exact hP9 | omega)) ((by first | exact hW9 | omega)) ((by first | exact hO9 | omega))) (cwV 5 hts (gd_V hgd m1943 m1945 m103 m131 m1946) rfl rfl rfl hd_X12_layBold ⟨Nat.le_of_ble_eq_true rfl, Nat.le_of_ble_eq_true rfl⟩) (pre_W hW hB_G hK hZ hS kd_66 rfl) rfl rfl hl.1 rfl (lv_room (Nat.le_of_ble_eq_true rfl)) dX12_boldest_8 ⟨Nat.le_of_ble_eq_true rfl, Nat.le_of_ble_eq_true rfl⟩) hS (fun r_1 G_2 H locs hpo hW hS => ?_)
  have hX_5 : Q_layBold p0 p1 p2 p3 p4 G r_1 G_2 := hpo
  obtain ⟨hB_G_2, hq_3, f_6, ⟨d_1, d_2⟩, -⟩ := hpo
  have hF := hF.call9 hq_3 rfl rfl
  refine lv_if_ne (tgt := 16) hx hb dX12_boldest_11 rfl (fun c_7 => ?_) (fun c_7 => ?_)
  · have c_7 : r_1.toInt ≠ 0 := xI_ne rfl rfl c_7
    refine lv_aload_n hx hb dX12_boldest_16 rfl (lv_at hl 0 rfl) ?_
    refine lv_iload hx hb dX12_boldest_17 (lv_at hl 4 rfl) ?_
    refine lv_iload hx hb dX12_boldest_19 (lv_at hl 5 rfl) ?_
    have b_8 : 0 ≤ (G_2.1 66 61).toInt ∧ (G_2.1 66 61).toInt ≤ 60 := bd_66_61 hB_G_2
    have b_9 : 0 ≤ (G_2.1 66 62).toInt ∧ (G_2.1 66 62).toInt ≤ 60 := bd_66_62 hB_G_2
    refine S_calll (va_runV (As := [.int p3, .int p4]) (rest := []) ⟨hx, hb, hml, hown, hts⟩ (n_bestOdds l D k A a z G_2 p3 p4 ⟨(by first | exact ok_1249 f_6.1 f_6.2 d_2 c_7 | omega), (by first | exact ok_1250 f_6.1 f_6.2 d_2 c_7 | omega)⟩ ⟨(by first | exact ok_1251 f_6.1 f_6.2 d_2 c_7 | omega), (by first | exact ok_1252 f_6.1 f_6.2 d_2 c_7 | omega)⟩ ((by first | exact ok_1253 f_6.1 f_6.2 d_2 c_7 | omega))) (cwV 2 hts (gd_V hgd m1947 m1949 m104 m131 m1950) rfl rfl rfl hd_X12_bestOdds ⟨Nat.le_of_ble_eq_true rfl, Nat.le_of_ble_eq_true rfl⟩) (pre_W hW hB_G_2 hK hZ hS kd_66 rfl) rfl rfl hl.1 rfl (lv_room (Nat.le_of_ble_eq_true rfl)) dX12_boldest_21 ⟨Nat.le_of_ble_eq_true rfl, Nat.le_of_ble_eq_true rfl⟩) hS (fun r_10 G_11 H locs hpo hW hS => ?_)
    have hX_14 : Q_bestOdds p3 p4 G_2 r_10 G_11 := hpo
    obtain ⟨hB_G_11, hq_12, hp_13, -⟩ := hpo
    have hF := hF.call9 hq_12 rfl rfl
    obtain ⟨b9, hb1, hb2, hb3⟩ := bO_wit hp_13 (by first | (clear hP9 hW9 hO9 f_6 d_1 d_2 c_7 b_8 b_9; omega) | omega) (fun b _ _ => (oF_rng hB_G_2 (by first | (clear hP9 hW9 hO9 f_6 d_1 d_2 c_7 b_8 b_9; omega) | omega) (by first | (clear hP9 hW9 hO9 f_6 d_1 d_2 c_7 b_8 b_9; omega) | omega) (by first | (clear hP9 hW9 hO9 f_6 d_1 d_2 c_7 b_8 b_9; omega) | omega)).1)
    refine lv_lstore (lv' := [(6, .long r_10), (0, .ref (a 66)), (1, .int p0), (2, .int p1), (3, .int p2), (4, .int p3), (5, .int p4)]) hx hb dX12_boldest_24 hl (lt_b rfl) rfl (fun ls hl => ?_)
    refine lv_aload_n hx hb dX12_boldest_26 rfl (lv_at hl 1 rfl) ?_
    refine S_getI (v := (G_2.1 66 61)) (C := RX12) (T := TX12) (N := 89) hx hb hg iX12 hown hK hW kd_66 rfl 61 (lt_b rfl) (hg (Cond.fieldLink RX12 475 "SlabWalkModel" "least" "I") m1375) (fun _ h9 => h9) rfl ((hq_12.i9 66 61 rfl rfl).trans (rfl)) dX12_boldest_27 ?_
    refine lv_istore (lv' := [(8, .int (G_2.1 66 61)), (6, .long r_10), (0, .ref (a 66)), (1, .int p0), (2, .int p1), (3, .int p2), (4, .int p3), (5, .int p4)]) hx hb dX12_boldest_30 hl (lt_b rfl) rfl (fun ls hl => ?_)
    refine loop_N (Inv := fun n H locs ls => ∃ (G_15 : GS) (x_19 : Int32), (n : Int) = b9 - x_19.toInt ∧ (0 ≤ x_19.toInt ∧ x_19.toInt ≤ 60) ∧ (x_19.toInt ≤ b9) ∧ Rc (St_n_boldest_1 p3 p4 r_10) ((G_2.1 66 61), G_11) (x_19, G_15) ∧ Wd D k A a G_15 H ∧ Bd G_15 ∧ Fr [106, 76, 97, 98] [(66, 59), (66, 60), (66, 61), (66, 62), (66, 63)] G G_15 ∧ Fr [] [] G_11 G_15 ∧ va_S A s.heap H locs ∧ lv_has ls 9 [(8, .int x_19), (6, .long r_10), (0, .ref (a 66)), (4, .int p3), (5, .int p4)]) (fun n_18 H locs ls ih_17 hI => ?_) (b9 - (G_2.1 66 61).toInt : Int).toNat ⟨G_11, (G_2.1 66 61), (Int.toNat_of_nonneg ((by first | (clear hP9 hW9 hO9 d_1; omega) | omega))), ⟨(by first | exact b_8.1 | omega), (by first | exact b_8.2 | omega)⟩, ((by first | (clear hP9 hW9 hO9 d_1; omega) | omega)), Rc.rf, hW, hB_G_11, hF, Fr.rf, hS, lv_sub hl [0, 1, 2, 6, 7] rfl⟩
    obtain ⟨G_15, x_19, hn_23, f_21, f_22, hX_20, hW, hB_G_15, hF, hq_16, hS, hl⟩ := hI
    refine lv_aload_n hx hb dX12_boldest_32 rfl (lv_at hl 2 rfl) ?_
    refine lv_iload hx hb dX12_boldest_33 (lv_at hl 3 rfl) ?_
    refine lv_iload hx hb dX12_boldest_35 (lv_at hl 0 rfl) ?_
    refine lv_iload hx hb dX12_boldest_37 (lv_at hl 4 rfl) ?_
    refine lv_aload_n hx hb dX12_boldest_39 rfl (lv_at hl 2 rfl) ?_
    refine lv_iload hx hb dX12_boldest_40 (lv_at hl 4 rfl) ?_
    refine ic_1 hx hb dX12_boldest_42 ?_
    refine lv_isub hx hb dX12_boldest_43 ?_
    refine lv_topi (fun y_24 ey_24 => ?_)
    have ty_24 : y_24.toInt = p4.toInt - 1 := xI_sub rfl rfl ey_24 ((by first | exact ok_1254 f_6.1 f_6.2 d_2 c_7 | omega)) ((by first | exact ok_1255 f_6.1 f_6.2 d_2 c_7 | omega))
    refine S_calll (va_runV (As := [.int y_24]) (rest := [.int p4, .int x_19, .int p3, .ref (a 66)]) ⟨hx, hb, hml, hown, hts⟩ (n_rest l D k A a z G_15 y_24 ⟨(by first | exact ok_1256 f_6.1 f_6.2 d_2 c_7 ty_24 | omega), (by first | exact ok_1257 f_6.1 f_6.2 d_2 c_7 ty_24 | omega)⟩) (cwV 1 hts (gd_V hgd m1951 m1953 m105 m131 m1954) rfl rfl rfl hd_X12_rest ⟨Nat.le_of_ble_eq_true rfl, Nat.le_of_ble_eq_true rfl⟩) (pre_W hW hB_G_15 hK hZ hS kd_66 rfl) rfl rfl hl.1 rfl (lv_room (Nat.le_of_ble_eq_true rfl)) dX12_boldest_44 ⟨Nat.le_of_ble_eq_true rfl, Nat.le_of_ble_eq_true rfl⟩) hS (fun r_25 G_26 H locs hpo hW hS => ?_)
    have hX_29 : Q_rest y_24 G_15 r_25 G_26 := hpo
    obtain ⟨hB_G_26, hq_27, hp_28, -⟩ := hpo
    have hF := hF.call9 hq_27 rfl rfl
    have b_30 : 0 ≤ (G_2.1 66 59).toInt ∧ (G_2.1 66 59).toInt ≤ 400 := bd_66_59 hB_G_2
    have g_31 : (G_26.1 66 59).toInt = (G_2.1 66 59).toInt := (congrArg Int32.toInt (show G_26.1 66 59 = (G_2.1 66 59) from ((hq_27.i9 66 59 rfl rfl).trans ((hq_16.i9 66 59 rfl rfl).trans (hq_12.i9 66 59 rfl rfl)))))
    have b_32 : 0 ≤ (G_2.1 66 60).toInt ∧ (G_2.1 66 60).toInt ≤ 12 := bd_66_60 hB_G_2
    have g_33 : (G_26.1 66 60).toInt = (G_2.1 66 60).toInt := (congrArg Int32.toInt (show G_26.1 66 60 = (G_2.1 66 60) from ((hq_27.i9 66 60 rfl rfl).trans ((hq_16.i9 66 60 rfl rfl).trans (hq_12.i9 66 60 rfl rfl)))))
    refine S_calll (va_runV (As := [.int p3, .int x_19, .int p4, .long r_25]) (rest := []) ⟨hx, hb, hml, hown, hts⟩ (n_oddsBy l D k A a z G_26 p3 x_19 p4 r_25 ⟨(by first | exact ok_1249 f_6.1 f_6.2 d_2 c_7 | omega), (by first | exact ok_1250 f_6.1 f_6.2 d_2 c_7 | omega)⟩ ⟨(by first | exact f_21.1 | omega), (by first | exact f_21.2 | omega)⟩ ⟨(by first | exact ok_1251 f_6.1 f_6.2 d_2 c_7 | omega), (by first | exact ok_1252 f_6.1 f_6.2 d_2 c_7 | omega)⟩) (cwV 4 hts (gd_V hgd m1959 m1961 m107 m131 m1962) rfl rfl rfl hd_X12_oddsBy ⟨Nat.le_of_ble_eq_true rfl, Nat.le_of_ble_eq_true rfl⟩) (pre_W hW hB_G_26 hK hZ hS kd_66 rfl) rfl rfl hl.1 rfl (lv_room (Nat.le_of_ble_eq_true rfl)) dX12_boldest_47 ⟨Nat.le_of_ble_eq_true rfl, Nat.le_of_ble_eq_true rfl⟩) hS (fun r_34 G_35 H locs hpo hW hS => ?_)
    have hX_38 : Q_oddsBy p3 x_19 p4 r_25 G_26 r_34 G_35 := hpo
    obtain ⟨hB_G_35, hq_36, hp_37, -⟩ := hpo
    have hF := hF.call9 hq_36 rfl rfl
    have hof_ : r_34 = oF G_2 p3.toInt p4.toInt x_19.toInt := oF_of (f0 := ((Fr.rf.call hq_12 (by decide) (by decide)).call hq_16 (by decide) (by decide))) (f := (((Fr.rf.call hq_12 (by decide) (by decide)).call hq_16 (by decide) (by decide)).call hq_27 (by decide) (by decide))) hp_37 hp_28 (by first | (clear hP9 hW9 hO9 d_1 hn_23; omega) | omega) (by first | (clear hP9 hW9 hO9 d_1 hn_23; omega) | omega)
    refine lv_lload hx hb dX12_boldest_50 (lv_at hl 1 rfl) ?_
    refine W.lcmp hx hb dX12_boldest_52 ?_
    refine lv_topi (fun y_39 ey_39 => ?_)
    have ty_39 := lcmp_rng ey_39
    refine lv_if_eq (tgt := 62) hx hb dX12_boldest_53 rfl (fun c_40 => ?_) (fun c_40 => ?_)
    · have c_40 : y_39.toInt = 0 := xI_eq rfl rfl c_40
      refine lv_iload hx hb dX12_boldest_62 (lv_at hl 0 rfl) ?_
      have fr_41 : Fr [] [] G_2 G_35 := (Fr.call9 (rs := []) (fs := []) (Fr.call9 (rs := []) (fs := []) (Fr.call9 (rs := []) (fs := []) (Fr.call9 (rs := []) (fs := []) Fr.rf hq_12 rfl rfl) hq_16 rfl rfl) hq_27 rfl rfl) hq_36 rfl rfl)
      have g_42 : gO G_35 = gO G_2 := gO_fr fr_41 (gr_q rfl) (gf_q rfl)
      exact W.iret (v := x_19) hx hb hr (fun t ht _ => ⟨⟨x_19, G_35, rfl, (Q_boldest_mk ⟨hB_G_35, hF, ((by first | exact ok_796 d_1 g_42 | omega)), ⟨r_1, G_2, hX_5, (Or.inr ⟨c_7, ⟨r_10, G_11, hX_14, ⟨x_19, G_15, hX_20, f_21, hB_G_15, hq_16, ⟨y_24, ty_24, ⟨r_25, G_26, hX_29, ⟨r_34, G_35, hX_38, ⟨y_39, ey_39, ⟨c_40, ⟨rfl, rfl⟩⟩⟩⟩⟩⟩⟩⟩⟩)⟩⟩), wd_t ht hW⟩, hS.F ht⟩) hS.2.2 dX12_boldest_64
    · have c_40 : y_39.toInt ≠ 0 := xI_ne rfl rfl c_40
      have u_43 : x_19.toInt ≠ b9 := fun q => lc_ne ey_39 (by first | (clear hP9 hW9 hO9 d_1 hn_23; omega) | omega) (hof_.trans (by rw [q]; exact hb3))
      obtain ⟨y_44, ey_44⟩ : ∃ q, q = x_19 + 1 := ⟨_, rfl⟩
      have ty_44 : y_44.toInt = x_19.toInt + 1 := xI_add rfl rfl ey_44 ((by first | exact ok_21 f_21.1 | omega)) ((by first | exact ok_238 f_21.2 | omega))
      refine lv_iinc (v := y_44) (lv' := [(8, .int y_44), (6, .long r_10), (0, .ref (a 66)), (4, .int p3), (5, .int p4)]) hx hb dX12_boldest_56 hl (k := 0) rfl (by rw [ey_44]; rfl) (lt_b rfl) rfl (fun ls hl => ?_)
      refine lv_goto (tgt := 32) hx hb dX12_boldest_59 rfl ?_
      exact ih_17 (b9 - y_44.toInt : Int).toNat ((by first | (clear hP9 hW9 hO9 d_1 ty_39 c_40; omega) | omega)) _ _ _ ⟨G_35, y_44, (Int.toNat_of_nonneg ((by first | exact ok_1258 f_22 u_43 ty_44 | omega))), ⟨(by first | exact ok_23 f_21.1 ty_44 | omega), (by first | (clear hP9 hW9 hO9 d_1 hn_23 ty_39 c_40; omega) | omega)⟩, ((by first | exact ok_1259 f_22 u_43 ty_44 | omega)), (hX_20.st (St_n_boldest_1_mk ⟨x_19, G_15, y_44, G_35, rfl, rfl, f_21, hB_G_15, ⟨y_24, ty_24, ⟨r_25, G_26, hX_29, ⟨r_34, G_35, hX_38, ⟨y_39, ey_39, ⟨c_40, ⟨y_44, ty_44, ⟨rfl, rfl⟩⟩⟩⟩⟩⟩⟩⟩)), hW, hB_G_35, hF, (Fr.call9 (rs := []) (fs := []) (Fr.call9 (rs := []) (fs := []) (Fr.call9 (rs := []) (fs := []) Fr.rf hq_16 rfl rfl) hq_27 rfl rfl) hq_36 rfl rfl), hS, lv_sub hl [0, 1, 2, 3, 4] rfl⟩
  · have c_7 : r_1.toInt = 0 := xI_eq rfl rfl c_7
    refine ic_m1 hx hb dX12_boldest_14 ?_
    exact W.iret (v := (-1)) hx hb hr (fun t ht _ => ⟨⟨(-1), G_2, rfl, (Q_boldest_mk ⟨hB_G_2, hF, (by have hq : ((-1) : Int32).toInt = (-1) := rfl; (try dsimp only); omega), ⟨r_1, G_2, hX_5, (Or.inl ⟨c_7, ⟨rfl, rfl⟩⟩)⟩⟩), wd_t ht hW⟩, hS.F ht⟩) hS.2.2 dX12_boldest_15

theorem m2063 : Cond.methodLink RX12 599 yX12_common ∈ gd := gdc_9_1 11 rfl gw_methodLink
theorem m2064 : Cond.static yX12_common ∈ gd := gdc_9_1 12 rfl gw_static
theorem m2065 : Cond.code yX12_common cX12_common 10 (some .long) ∈ gd := gdc_9_1 13 rfl gw_code
noncomputable def rbX12_chance_0 : List (Nat × List Nat) := [(0, [42]), (1, [27]), (2, [182, 2, 75]), (5, [153, 0, 12]), (8, [28]), (9, [3]), (10, [4]), (11, [184, 1, 193]), (14, [154, 0, 7]), (17, [20, 2, 5]), (20, [173]), (21, [10]), (22, [55, 4]), (24, [10]), (25, [55, 6]), (27, [3]), (28, [54, 8]), (30, [21, 8]), (32, [42]), (33, [180, 1, 187]), (36, [162, 0, 126]), (39, [42]), (40, [21, 8]), (42, [29])]
theorem rcX12_chance_0 : dgo (lb cX12_chance) 0 rbX12_chance_0 = true := by decide +kernel
theorem dX12_chance_0 : decode cX12_chance 0 = .ok (.aload_n 0, 1) := dk_42 (dw rcX12_chance_0 0 rfl)
theorem dX12_chance_1 : decode cX12_chance 1 = .ok (.iload_n 1, 1) := dk_27 (dw rcX12_chance_0 1 rfl)
theorem dX12_chance_2 : decode cX12_chance 2 = .ok (.invokevirtual 587, 3) := dk_182 (dw rcX12_chance_0 2 rfl) rfl
theorem dX12_chance_5 : decode cX12_chance 5 = .ok (.ifCond .eq 12, 3) := dk_153 (dw rcX12_chance_0 3 rfl) rfl
theorem dX12_chance_8 : decode cX12_chance 8 = .ok (.iload_n 2, 1) := dk_28 (dw rcX12_chance_0 4 rfl)
theorem dX12_chance_9 : decode cX12_chance 9 = .ok (.iconst 0, 1) := dk_3 (dw rcX12_chance_0 5 rfl)
theorem dX12_chance_10 : decode cX12_chance 10 = .ok (.iconst 1, 1) := dk_4 (dw rcX12_chance_0 6 rfl)
theorem dX12_chance_11 : decode cX12_chance 11 = .ok (.invokestatic 449, 3) := dk_184 (dw rcX12_chance_0 7 rfl) rfl
theorem dX12_chance_14 : decode cX12_chance 14 = .ok (.ifCond .ne 7, 3) := dk_154 (dw rcX12_chance_0 8 rfl) rfl
theorem dX12_chance_17 : decode cX12_chance 17 = .ok (.ldc2_w 517, 3) := dk_20 (dw rcX12_chance_0 9 rfl) rfl
theorem dX12_chance_20 : decode cX12_chance 20 = .ok (.lreturn, 1) := dk_173 (dw rcX12_chance_0 10 rfl)
theorem dX12_chance_21 : decode cX12_chance 21 = .ok (.lconst 1, 1) := dk_10 (dw rcX12_chance_0 11 rfl)
theorem dX12_chance_22 : decode cX12_chance 22 = .ok (.lstore 4, 2) := dk_55 (dw rcX12_chance_0 12 rfl)
theorem dX12_chance_24 : decode cX12_chance 24 = .ok (.lconst 1, 1) := dk_10 (dw rcX12_chance_0 13 rfl)
theorem dX12_chance_25 : decode cX12_chance 25 = .ok (.lstore 6, 2) := dk_55 (dw rcX12_chance_0 14 rfl)
theorem dX12_chance_27 : decode cX12_chance 27 = .ok (.iconst 0, 1) := dk_3 (dw rcX12_chance_0 15 rfl)
theorem dX12_chance_28 : decode cX12_chance 28 = .ok (.istore 8, 2) := dk_54 (dw rcX12_chance_0 16 rfl)
theorem dX12_chance_30 : decode cX12_chance 30 = .ok (.iload 8, 2) := dk_21 (dw rcX12_chance_0 17 rfl)
theorem dX12_chance_32 : decode cX12_chance 32 = .ok (.aload_n 0, 1) := dk_42 (dw rcX12_chance_0 18 rfl)
theorem dX12_chance_33 : decode cX12_chance 33 = .ok (.getfield 443, 3) := dk_180 (dw rcX12_chance_0 19 rfl) rfl
theorem dX12_chance_36 : decode cX12_chance 36 = .ok (.if_icmp .ge 126, 3) := dk_162 (dw rcX12_chance_0 20 rfl) rfl
theorem dX12_chance_39 : decode cX12_chance 39 = .ok (.aload_n 0, 1) := dk_42 (dw rcX12_chance_0 21 rfl)
theorem dX12_chance_40 : decode cX12_chance 40 = .ok (.iload 8, 2) := dk_21 (dw rcX12_chance_0 22 rfl)
theorem dX12_chance_42 : decode cX12_chance 42 = .ok (.iload_n 3, 1) := dk_29 (dw rcX12_chance_0 23 rfl)
noncomputable def rbX12_chance_43 : List (Nat × List Nat) := [(43, [182, 2, 84]), (46, [154, 0, 6]), (49, [167, 0, 107]), (52, [42]), (53, [42]), (54, [180, 0, 157]), (57, [21, 8]), (59, [46]), (60, [42]), (61, [180, 0, 160]), (64, [21, 8]), (66, [46]), (67, [4]), (68, [27]), (69, [120]), (70, [182, 1, 237]), (73, [3]), (74, [54, 9]), (76, [3]), (77, [54, 10]), (79, [42]), (80, [180, 0, 163]), (83, [21, 8]), (85, [46])]
theorem rcX12_chance_43 : dgo (lb cX12_chance) 0 rbX12_chance_43 = true := by decide +kernel
theorem dX12_chance_43 : decode cX12_chance 43 = .ok (.invokevirtual 596, 3) := dk_182 (dw rcX12_chance_43 0 rfl) rfl
theorem dX12_chance_46 : decode cX12_chance 46 = .ok (.ifCond .ne 6, 3) := dk_154 (dw rcX12_chance_43 1 rfl) rfl
theorem dX12_chance_49 : decode cX12_chance 49 = .ok (.goto 107, 3) := dk_167 (dw rcX12_chance_43 2 rfl) rfl
theorem dX12_chance_52 : decode cX12_chance 52 = .ok (.aload_n 0, 1) := dk_42 (dw rcX12_chance_43 3 rfl)
theorem dX12_chance_53 : decode cX12_chance 53 = .ok (.aload_n 0, 1) := dk_42 (dw rcX12_chance_43 4 rfl)
theorem dX12_chance_54 : decode cX12_chance 54 = .ok (.getfield 157, 3) := dk_180 (dw rcX12_chance_43 5 rfl) rfl
theorem dX12_chance_57 : decode cX12_chance 57 = .ok (.iload 8, 2) := dk_21 (dw rcX12_chance_43 6 rfl)
theorem dX12_chance_59 : decode cX12_chance 59 = .ok (.iaload, 1) := dk_46 (dw rcX12_chance_43 7 rfl)
theorem dX12_chance_60 : decode cX12_chance 60 = .ok (.aload_n 0, 1) := dk_42 (dw rcX12_chance_43 8 rfl)
theorem dX12_chance_61 : decode cX12_chance 61 = .ok (.getfield 160, 3) := dk_180 (dw rcX12_chance_43 9 rfl) rfl
theorem dX12_chance_64 : decode cX12_chance 64 = .ok (.iload 8, 2) := dk_21 (dw rcX12_chance_43 10 rfl)
theorem dX12_chance_66 : decode cX12_chance 66 = .ok (.iaload, 1) := dk_46 (dw rcX12_chance_43 11 rfl)
theorem dX12_chance_67 : decode cX12_chance 67 = .ok (.iconst 1, 1) := dk_4 (dw rcX12_chance_43 12 rfl)
theorem dX12_chance_68 : decode cX12_chance 68 = .ok (.iload_n 1, 1) := dk_27 (dw rcX12_chance_43 13 rfl)
theorem dX12_chance_69 : decode cX12_chance 69 = .ok (.ishl, 1) := dk_120 (dw rcX12_chance_43 14 rfl)
theorem dX12_chance_70 : decode cX12_chance 70 = .ok (.invokevirtual 493, 3) := dk_182 (dw rcX12_chance_43 15 rfl) rfl
theorem dX12_chance_73 : decode cX12_chance 73 = .ok (.iconst 0, 1) := dk_3 (dw rcX12_chance_43 16 rfl)
theorem dX12_chance_74 : decode cX12_chance 74 = .ok (.istore 9, 2) := dk_54 (dw rcX12_chance_43 17 rfl)
theorem dX12_chance_76 : decode cX12_chance 76 = .ok (.iconst 0, 1) := dk_3 (dw rcX12_chance_43 18 rfl)
theorem dX12_chance_77 : decode cX12_chance 77 = .ok (.istore 10, 2) := dk_54 (dw rcX12_chance_43 19 rfl)
theorem dX12_chance_79 : decode cX12_chance 79 = .ok (.aload_n 0, 1) := dk_42 (dw rcX12_chance_43 20 rfl)
theorem dX12_chance_80 : decode cX12_chance 80 = .ok (.getfield 163, 3) := dk_180 (dw rcX12_chance_43 21 rfl) rfl
theorem dX12_chance_83 : decode cX12_chance 83 = .ok (.iload 8, 2) := dk_21 (dw rcX12_chance_43 22 rfl)
theorem dX12_chance_85 : decode cX12_chance 85 = .ok (.iaload, 1) := dk_46 (dw rcX12_chance_43 23 rfl)
noncomputable def rbX12_chance_86 : List (Nat × List Nat) := [(86, [6]), (87, [100]), (88, [54, 11]), (90, [21, 11]), (92, [42]), (93, [180, 0, 163]), (96, [21, 8]), (98, [46]), (99, [6]), (100, [96]), (101, [163, 0, 39]), (104, [42]), (105, [21, 11]), (107, [182, 1, 228]), (110, [154, 0, 6]), (113, [167, 0, 21]), (116, [132, 10, 1]), (119, [21, 9]), (121, [42]), (122, [180, 0, 115]), (125, [21, 11]), (127, [51]), (128, [184, 1, 92]), (131, [96])]
theorem rcX12_chance_86 : dgo (lb cX12_chance) 0 rbX12_chance_86 = true := by decide +kernel
theorem dX12_chance_86 : decode cX12_chance 86 = .ok (.iconst 3, 1) := dk_6 (dw rcX12_chance_86 0 rfl)
theorem dX12_chance_87 : decode cX12_chance 87 = .ok (.isub, 1) := dk_100 (dw rcX12_chance_86 1 rfl)
theorem dX12_chance_88 : decode cX12_chance 88 = .ok (.istore 11, 2) := dk_54 (dw rcX12_chance_86 2 rfl)
theorem dX12_chance_90 : decode cX12_chance 90 = .ok (.iload 11, 2) := dk_21 (dw rcX12_chance_86 3 rfl)
theorem dX12_chance_92 : decode cX12_chance 92 = .ok (.aload_n 0, 1) := dk_42 (dw rcX12_chance_86 4 rfl)
theorem dX12_chance_93 : decode cX12_chance 93 = .ok (.getfield 163, 3) := dk_180 (dw rcX12_chance_86 5 rfl) rfl
theorem dX12_chance_96 : decode cX12_chance 96 = .ok (.iload 8, 2) := dk_21 (dw rcX12_chance_86 6 rfl)
theorem dX12_chance_98 : decode cX12_chance 98 = .ok (.iaload, 1) := dk_46 (dw rcX12_chance_86 7 rfl)
theorem dX12_chance_99 : decode cX12_chance 99 = .ok (.iconst 3, 1) := dk_6 (dw rcX12_chance_86 8 rfl)
theorem dX12_chance_100 : decode cX12_chance 100 = .ok (.iadd, 1) := dk_96 (dw rcX12_chance_86 9 rfl)
theorem dX12_chance_101 : decode cX12_chance 101 = .ok (.if_icmp .gt 39, 3) := dk_163 (dw rcX12_chance_86 10 rfl) rfl
theorem dX12_chance_104 : decode cX12_chance 104 = .ok (.aload_n 0, 1) := dk_42 (dw rcX12_chance_86 11 rfl)
theorem dX12_chance_105 : decode cX12_chance 105 = .ok (.iload 11, 2) := dk_21 (dw rcX12_chance_86 12 rfl)
theorem dX12_chance_107 : decode cX12_chance 107 = .ok (.invokevirtual 484, 3) := dk_182 (dw rcX12_chance_86 13 rfl) rfl
theorem dX12_chance_110 : decode cX12_chance 110 = .ok (.ifCond .ne 6, 3) := dk_154 (dw rcX12_chance_86 14 rfl) rfl
theorem dX12_chance_113 : decode cX12_chance 113 = .ok (.goto 21, 3) := dk_167 (dw rcX12_chance_86 15 rfl) rfl
theorem dX12_chance_116 : decode cX12_chance 116 = .ok (.iinc 10 1, 3) := dk_132 (dw rcX12_chance_86 16 rfl) rfl
theorem dX12_chance_119 : decode cX12_chance 119 = .ok (.iload 9, 2) := dk_21 (dw rcX12_chance_86 17 rfl)
theorem dX12_chance_121 : decode cX12_chance 121 = .ok (.aload_n 0, 1) := dk_42 (dw rcX12_chance_86 18 rfl)
theorem dX12_chance_122 : decode cX12_chance 122 = .ok (.getfield 115, 3) := dk_180 (dw rcX12_chance_86 19 rfl) rfl
theorem dX12_chance_125 : decode cX12_chance 125 = .ok (.iload 11, 2) := dk_21 (dw rcX12_chance_86 20 rfl)
theorem dX12_chance_127 : decode cX12_chance 127 = .ok (.baload, 1) := dk_51 (dw rcX12_chance_86 21 rfl)
theorem dX12_chance_128 : decode cX12_chance 128 = .ok (.invokestatic 348, 3) := dk_184 (dw rcX12_chance_86 22 rfl) rfl
theorem dX12_chance_131 : decode cX12_chance 131 = .ok (.iadd, 1) := dk_96 (dw rcX12_chance_86 23 rfl)
noncomputable def rbX12_chance_132 : List (Nat × List Nat) := [(132, [54, 9]), (134, [132, 11, 1]), (137, [167, 255, 209]), (140, [22, 4]), (142, [21, 9]), (144, [133]), (145, [105]), (146, [55, 4]), (148, [22, 6]), (150, [21, 10]), (152, [133]), (153, [105]), (154, [55, 6]), (156, [132, 8, 1]), (159, [167, 255, 127]), (162, [22, 4]), (164, [22, 6]), (166, [184, 2, 87]), (169, [55, 8]), (171, [28]), (172, [154, 0, 11]), (175, [22, 4]), (177, [22, 8]), (179, [109])]
theorem rcX12_chance_132 : dgo (lb cX12_chance) 0 rbX12_chance_132 = true := by decide +kernel
theorem dX12_chance_132 : decode cX12_chance 132 = .ok (.istore 9, 2) := dk_54 (dw rcX12_chance_132 0 rfl)
theorem dX12_chance_134 : decode cX12_chance 134 = .ok (.iinc 11 1, 3) := dk_132 (dw rcX12_chance_132 1 rfl) rfl
theorem dX12_chance_137 : decode cX12_chance 137 = .ok (.goto (-47), 3) := dk_167 (dw rcX12_chance_132 2 rfl) rfl
theorem dX12_chance_140 : decode cX12_chance 140 = .ok (.lload 4, 2) := dk_22 (dw rcX12_chance_132 3 rfl)
theorem dX12_chance_142 : decode cX12_chance 142 = .ok (.iload 9, 2) := dk_21 (dw rcX12_chance_132 4 rfl)
theorem dX12_chance_144 : decode cX12_chance 144 = .ok (.i2l, 1) := dk_133 (dw rcX12_chance_132 5 rfl)
theorem dX12_chance_145 : decode cX12_chance 145 = .ok (.lmul, 1) := dk_105 (dw rcX12_chance_132 6 rfl)
theorem dX12_chance_146 : decode cX12_chance 146 = .ok (.lstore 4, 2) := dk_55 (dw rcX12_chance_132 7 rfl)
theorem dX12_chance_148 : decode cX12_chance 148 = .ok (.lload 6, 2) := dk_22 (dw rcX12_chance_132 8 rfl)
theorem dX12_chance_150 : decode cX12_chance 150 = .ok (.iload 10, 2) := dk_21 (dw rcX12_chance_132 9 rfl)
theorem dX12_chance_152 : decode cX12_chance 152 = .ok (.i2l, 1) := dk_133 (dw rcX12_chance_132 10 rfl)
theorem dX12_chance_153 : decode cX12_chance 153 = .ok (.lmul, 1) := dk_105 (dw rcX12_chance_132 11 rfl)
theorem dX12_chance_154 : decode cX12_chance 154 = .ok (.lstore 6, 2) := dk_55 (dw rcX12_chance_132 12 rfl)
theorem dX12_chance_156 : decode cX12_chance 156 = .ok (.iinc 8 1, 3) := dk_132 (dw rcX12_chance_132 13 rfl) rfl
theorem dX12_chance_159 : decode cX12_chance 159 = .ok (.goto (-129), 3) := dk_167 (dw rcX12_chance_132 14 rfl) rfl
theorem dX12_chance_162 : decode cX12_chance 162 = .ok (.lload 4, 2) := dk_22 (dw rcX12_chance_132 15 rfl)
theorem dX12_chance_164 : decode cX12_chance 164 = .ok (.lload 6, 2) := dk_22 (dw rcX12_chance_132 16 rfl)
theorem dX12_chance_166 : decode cX12_chance 166 = .ok (.invokestatic 599, 3) := dk_184 (dw rcX12_chance_132 17 rfl) rfl
theorem dX12_chance_169 : decode cX12_chance 169 = .ok (.lstore 8, 2) := dk_55 (dw rcX12_chance_132 18 rfl)
theorem dX12_chance_171 : decode cX12_chance 171 = .ok (.iload_n 2, 1) := dk_28 (dw rcX12_chance_132 19 rfl)
theorem dX12_chance_172 : decode cX12_chance 172 = .ok (.ifCond .ne 11, 3) := dk_154 (dw rcX12_chance_132 20 rfl) rfl
theorem dX12_chance_175 : decode cX12_chance 175 = .ok (.lload 4, 2) := dk_22 (dw rcX12_chance_132 21 rfl)
theorem dX12_chance_177 : decode cX12_chance 177 = .ok (.lload 8, 2) := dk_22 (dw rcX12_chance_132 22 rfl)
theorem dX12_chance_179 : decode cX12_chance 179 = .ok (.ldiv, 1) := dk_109 (dw rcX12_chance_132 23 rfl)
noncomputable def rbX12_chance_180 : List (Nat × List Nat) := [(180, [167, 0, 8]), (183, [22, 6]), (185, [22, 8]), (187, [109]), (188, [173])]
theorem rcX12_chance_180 : dgo (lb cX12_chance) 0 rbX12_chance_180 = true := by decide +kernel
theorem dX12_chance_180 : decode cX12_chance 180 = .ok (.goto 8, 3) := dk_167 (dw rcX12_chance_180 0 rfl) rfl
theorem dX12_chance_183 : decode cX12_chance 183 = .ok (.lload 6, 2) := dk_22 (dw rcX12_chance_180 1 rfl)
theorem dX12_chance_185 : decode cX12_chance 185 = .ok (.lload 8, 2) := dk_22 (dw rcX12_chance_180 2 rfl)
theorem dX12_chance_187 : decode cX12_chance 187 = .ok (.ldiv, 1) := dk_109 (dw rcX12_chance_180 3 rfl)
theorem dX12_chance_188 : decode cX12_chance 188 = .ok (.lreturn, 1) := dk_173 (dw rcX12_chance_180 4 rfl)
noncomputable def rbX12_common_0 : List (Nat × List Nat) := [(0, [30]), (1, [55, 4]), (3, [32]), (4, [55, 6]), (6, [22, 6]), (8, [9]), (9, [148]), (10, [158, 0, 21]), (13, [22, 4]), (15, [22, 6]), (17, [113]), (18, [55, 8]), (20, [22, 6]), (22, [55, 4]), (24, [22, 8]), (26, [55, 6]), (28, [167, 255, 234]), (31, [22, 4]), (33, [173])]
theorem rcX12_common_0 : dgo (lb cX12_common) 0 rbX12_common_0 = true := by decide +kernel
theorem dX12_common_0 : decode cX12_common 0 = .ok (.lload_n 0, 1) := dk_30 (dw rcX12_common_0 0 rfl)
theorem dX12_common_1 : decode cX12_common 1 = .ok (.lstore 4, 2) := dk_55 (dw rcX12_common_0 1 rfl)
theorem dX12_common_3 : decode cX12_common 3 = .ok (.lload_n 2, 1) := dk_32 (dw rcX12_common_0 2 rfl)
theorem dX12_common_4 : decode cX12_common 4 = .ok (.lstore 6, 2) := dk_55 (dw rcX12_common_0 3 rfl)
theorem dX12_common_6 : decode cX12_common 6 = .ok (.lload 6, 2) := dk_22 (dw rcX12_common_0 4 rfl)
theorem dX12_common_8 : decode cX12_common 8 = .ok (.lconst 0, 1) := dk_9 (dw rcX12_common_0 5 rfl)
theorem dX12_common_9 : decode cX12_common 9 = .ok (.lcmp, 1) := dk_148 (dw rcX12_common_0 6 rfl)
theorem dX12_common_10 : decode cX12_common 10 = .ok (.ifCond .le 21, 3) := dk_158 (dw rcX12_common_0 7 rfl) rfl
theorem dX12_common_13 : decode cX12_common 13 = .ok (.lload 4, 2) := dk_22 (dw rcX12_common_0 8 rfl)
theorem dX12_common_15 : decode cX12_common 15 = .ok (.lload 6, 2) := dk_22 (dw rcX12_common_0 9 rfl)
theorem dX12_common_17 : decode cX12_common 17 = .ok (.lrem, 1) := dk_113 (dw rcX12_common_0 10 rfl)
theorem dX12_common_18 : decode cX12_common 18 = .ok (.lstore 8, 2) := dk_55 (dw rcX12_common_0 11 rfl)
theorem dX12_common_20 : decode cX12_common 20 = .ok (.lload 6, 2) := dk_22 (dw rcX12_common_0 12 rfl)
theorem dX12_common_22 : decode cX12_common 22 = .ok (.lstore 4, 2) := dk_55 (dw rcX12_common_0 13 rfl)
theorem dX12_common_24 : decode cX12_common 24 = .ok (.lload 8, 2) := dk_22 (dw rcX12_common_0 14 rfl)
theorem dX12_common_26 : decode cX12_common 26 = .ok (.lstore 6, 2) := dk_55 (dw rcX12_common_0 15 rfl)
theorem dX12_common_28 : decode cX12_common 28 = .ok (.goto (-22), 3) := dk_167 (dw rcX12_common_0 16 rfl) rfl
theorem dX12_common_31 : decode cX12_common 31 = .ok (.lload 4, 2) := dk_22 (dw rcX12_common_0 17 rfl)
theorem dX12_common_33 : decode cX12_common 33 = .ok (.lreturn, 1) := dk_173 (dw rcX12_common_0 18 rfl)
noncomputable def rbX12_sight_0 : List (Nat × List Nat) := [(0, [42]), (1, [27]), (2, [182, 1, 231]), (5, [153, 0, 41]), (8, [42]), (9, [28]), (10, [182, 1, 197]), (13, [153, 0, 33]), (16, [29]), (17, [155, 0, 29]), (20, [29]), (21, [42]), (22, [180, 0, 87]), (25, [28]), (26, [46]), (27, [42]), (28, [180, 0, 90]), (31, [27]), (32, [46]), (33, [100]), (34, [163, 0, 12]), (37, [42]), (38, [180, 1, 187]), (41, [16, 20])]
theorem rcX12_sight_0 : dgo (lb cX12_sight) 0 rbX12_sight_0 = true := by decide +kernel
theorem dX12_sight_0 : decode cX12_sight 0 = .ok (.aload_n 0, 1) := dk_42 (dw rcX12_sight_0 0 rfl)
theorem dX12_sight_1 : decode cX12_sight 1 = .ok (.iload_n 1, 1) := dk_27 (dw rcX12_sight_0 1 rfl)
theorem dX12_sight_2 : decode cX12_sight 2 = .ok (.invokevirtual 487, 3) := dk_182 (dw rcX12_sight_0 2 rfl) rfl
theorem dX12_sight_5 : decode cX12_sight 5 = .ok (.ifCond .eq 41, 3) := dk_153 (dw rcX12_sight_0 3 rfl) rfl
theorem dX12_sight_8 : decode cX12_sight 8 = .ok (.aload_n 0, 1) := dk_42 (dw rcX12_sight_0 4 rfl)
theorem dX12_sight_9 : decode cX12_sight 9 = .ok (.iload_n 2, 1) := dk_28 (dw rcX12_sight_0 5 rfl)
theorem dX12_sight_10 : decode cX12_sight 10 = .ok (.invokevirtual 453, 3) := dk_182 (dw rcX12_sight_0 6 rfl) rfl
theorem dX12_sight_13 : decode cX12_sight 13 = .ok (.ifCond .eq 33, 3) := dk_153 (dw rcX12_sight_0 7 rfl) rfl
theorem dX12_sight_16 : decode cX12_sight 16 = .ok (.iload_n 3, 1) := dk_29 (dw rcX12_sight_0 8 rfl)
theorem dX12_sight_17 : decode cX12_sight 17 = .ok (.ifCond .lt 29, 3) := dk_155 (dw rcX12_sight_0 9 rfl) rfl
theorem dX12_sight_20 : decode cX12_sight 20 = .ok (.iload_n 3, 1) := dk_29 (dw rcX12_sight_0 10 rfl)
theorem dX12_sight_21 : decode cX12_sight 21 = .ok (.aload_n 0, 1) := dk_42 (dw rcX12_sight_0 11 rfl)
theorem dX12_sight_22 : decode cX12_sight 22 = .ok (.getfield 87, 3) := dk_180 (dw rcX12_sight_0 12 rfl) rfl
theorem dX12_sight_25 : decode cX12_sight 25 = .ok (.iload_n 2, 1) := dk_28 (dw rcX12_sight_0 13 rfl)
theorem dX12_sight_26 : decode cX12_sight 26 = .ok (.iaload, 1) := dk_46 (dw rcX12_sight_0 14 rfl)
theorem dX12_sight_27 : decode cX12_sight 27 = .ok (.aload_n 0, 1) := dk_42 (dw rcX12_sight_0 15 rfl)
theorem dX12_sight_28 : decode cX12_sight 28 = .ok (.getfield 90, 3) := dk_180 (dw rcX12_sight_0 16 rfl) rfl
theorem dX12_sight_31 : decode cX12_sight 31 = .ok (.iload_n 1, 1) := dk_27 (dw rcX12_sight_0 17 rfl)
theorem dX12_sight_32 : decode cX12_sight 32 = .ok (.iaload, 1) := dk_46 (dw rcX12_sight_0 18 rfl)
theorem dX12_sight_33 : decode cX12_sight 33 = .ok (.isub, 1) := dk_100 (dw rcX12_sight_0 19 rfl)
theorem dX12_sight_34 : decode cX12_sight 34 = .ok (.if_icmp .gt 12, 3) := dk_163 (dw rcX12_sight_0 20 rfl) rfl
theorem dX12_sight_37 : decode cX12_sight 37 = .ok (.aload_n 0, 1) := dk_42 (dw rcX12_sight_0 21 rfl)
theorem dX12_sight_38 : decode cX12_sight 38 = .ok (.getfield 443, 3) := dk_180 (dw rcX12_sight_0 22 rfl) rfl
theorem dX12_sight_41 : decode cX12_sight 41 = .ok (.bipush 20, 2) := dk_16 (dw rcX12_sight_0 23 rfl) rfl
noncomputable def rbX12_sight_43 : List (Nat × List Nat) := [(43, [160, 0, 5]), (46, [2]), (47, [172]), (48, [42]), (49, [180, 0, 157]), (52, [42]), (53, [180, 1, 187]), (56, [27]), (57, [79]), (58, [42]), (59, [180, 0, 160]), (62, [42]), (63, [180, 1, 187]), (66, [28]), (67, [79]), (68, [42]), (69, [180, 0, 163]), (72, [42]), (73, [180, 1, 187]), (76, [29]), (77, [79]), (78, [42]), (79, [180, 0, 166]), (82, [42])]
theorem rcX12_sight_43 : dgo (lb cX12_sight) 0 rbX12_sight_43 = true := by decide +kernel
theorem dX12_sight_43 : decode cX12_sight 43 = .ok (.if_icmp .ne 5, 3) := dk_160 (dw rcX12_sight_43 0 rfl) rfl
theorem dX12_sight_46 : decode cX12_sight 46 = .ok (.iconst (-1), 1) := dk_2 (dw rcX12_sight_43 1 rfl)
theorem dX12_sight_47 : decode cX12_sight 47 = .ok (.ireturn, 1) := dk_172 (dw rcX12_sight_43 2 rfl)
theorem dX12_sight_48 : decode cX12_sight 48 = .ok (.aload_n 0, 1) := dk_42 (dw rcX12_sight_43 3 rfl)
theorem dX12_sight_49 : decode cX12_sight 49 = .ok (.getfield 157, 3) := dk_180 (dw rcX12_sight_43 4 rfl) rfl
theorem dX12_sight_52 : decode cX12_sight 52 = .ok (.aload_n 0, 1) := dk_42 (dw rcX12_sight_43 5 rfl)
theorem dX12_sight_53 : decode cX12_sight 53 = .ok (.getfield 443, 3) := dk_180 (dw rcX12_sight_43 6 rfl) rfl
theorem dX12_sight_56 : decode cX12_sight 56 = .ok (.iload_n 1, 1) := dk_27 (dw rcX12_sight_43 7 rfl)
theorem dX12_sight_57 : decode cX12_sight 57 = .ok (.iastore, 1) := dk_79 (dw rcX12_sight_43 8 rfl)
theorem dX12_sight_58 : decode cX12_sight 58 = .ok (.aload_n 0, 1) := dk_42 (dw rcX12_sight_43 9 rfl)
theorem dX12_sight_59 : decode cX12_sight 59 = .ok (.getfield 160, 3) := dk_180 (dw rcX12_sight_43 10 rfl) rfl
theorem dX12_sight_62 : decode cX12_sight 62 = .ok (.aload_n 0, 1) := dk_42 (dw rcX12_sight_43 11 rfl)
theorem dX12_sight_63 : decode cX12_sight 63 = .ok (.getfield 443, 3) := dk_180 (dw rcX12_sight_43 12 rfl) rfl
theorem dX12_sight_66 : decode cX12_sight 66 = .ok (.iload_n 2, 1) := dk_28 (dw rcX12_sight_43 13 rfl)
theorem dX12_sight_67 : decode cX12_sight 67 = .ok (.iastore, 1) := dk_79 (dw rcX12_sight_43 14 rfl)
theorem dX12_sight_68 : decode cX12_sight 68 = .ok (.aload_n 0, 1) := dk_42 (dw rcX12_sight_43 15 rfl)
theorem dX12_sight_69 : decode cX12_sight 69 = .ok (.getfield 163, 3) := dk_180 (dw rcX12_sight_43 16 rfl) rfl
theorem dX12_sight_72 : decode cX12_sight 72 = .ok (.aload_n 0, 1) := dk_42 (dw rcX12_sight_43 17 rfl)
theorem dX12_sight_73 : decode cX12_sight 73 = .ok (.getfield 443, 3) := dk_180 (dw rcX12_sight_43 18 rfl) rfl
theorem dX12_sight_76 : decode cX12_sight 76 = .ok (.iload_n 3, 1) := dk_29 (dw rcX12_sight_43 19 rfl)
theorem dX12_sight_77 : decode cX12_sight 77 = .ok (.iastore, 1) := dk_79 (dw rcX12_sight_43 20 rfl)
theorem dX12_sight_78 : decode cX12_sight 78 = .ok (.aload_n 0, 1) := dk_42 (dw rcX12_sight_43 21 rfl)
theorem dX12_sight_79 : decode cX12_sight 79 = .ok (.getfield 166, 3) := dk_180 (dw rcX12_sight_43 22 rfl) rfl
theorem dX12_sight_82 : decode cX12_sight 82 = .ok (.aload_n 0, 1) := dk_42 (dw rcX12_sight_43 23 rfl)
noncomputable def rbX12_sight_83 : List (Nat × List Nat) := [(83, [180, 1, 187]), (86, [42]), (87, [180, 2, 81]), (90, [79]), (91, [42]), (92, [180, 0, 169]), (95, [42]), (96, [180, 1, 187]), (99, [2]), (100, [79]), (101, [42]), (102, [89]), (103, [180, 1, 187]), (106, [4]), (107, [96]), (108, [181, 1, 187]), (111, [42]), (112, [180, 1, 187]), (115, [4]), (116, [100]), (117, [172])]
theorem rcX12_sight_83 : dgo (lb cX12_sight) 0 rbX12_sight_83 = true := by decide +kernel
theorem dX12_sight_83 : decode cX12_sight 83 = .ok (.getfield 443, 3) := dk_180 (dw rcX12_sight_83 0 rfl) rfl
theorem dX12_sight_86 : decode cX12_sight 86 = .ok (.aload_n 0, 1) := dk_42 (dw rcX12_sight_83 1 rfl)
theorem dX12_sight_87 : decode cX12_sight 87 = .ok (.getfield 593, 3) := dk_180 (dw rcX12_sight_83 2 rfl) rfl
theorem dX12_sight_90 : decode cX12_sight 90 = .ok (.iastore, 1) := dk_79 (dw rcX12_sight_83 3 rfl)
theorem dX12_sight_91 : decode cX12_sight 91 = .ok (.aload_n 0, 1) := dk_42 (dw rcX12_sight_83 4 rfl)
theorem dX12_sight_92 : decode cX12_sight 92 = .ok (.getfield 169, 3) := dk_180 (dw rcX12_sight_83 5 rfl) rfl
theorem dX12_sight_95 : decode cX12_sight 95 = .ok (.aload_n 0, 1) := dk_42 (dw rcX12_sight_83 6 rfl)
theorem dX12_sight_96 : decode cX12_sight 96 = .ok (.getfield 443, 3) := dk_180 (dw rcX12_sight_83 7 rfl) rfl
theorem dX12_sight_99 : decode cX12_sight 99 = .ok (.iconst (-1), 1) := dk_2 (dw rcX12_sight_83 8 rfl)
theorem dX12_sight_100 : decode cX12_sight 100 = .ok (.iastore, 1) := dk_79 (dw rcX12_sight_83 9 rfl)
theorem dX12_sight_101 : decode cX12_sight 101 = .ok (.aload_n 0, 1) := dk_42 (dw rcX12_sight_83 10 rfl)
theorem dX12_sight_102 : decode cX12_sight 102 = .ok (.dup, 1) := dk_89 (dw rcX12_sight_83 11 rfl)
theorem dX12_sight_103 : decode cX12_sight 103 = .ok (.getfield 443, 3) := dk_180 (dw rcX12_sight_83 12 rfl) rfl
theorem dX12_sight_106 : decode cX12_sight 106 = .ok (.iconst 1, 1) := dk_4 (dw rcX12_sight_83 13 rfl)
theorem dX12_sight_107 : decode cX12_sight 107 = .ok (.iadd, 1) := dk_96 (dw rcX12_sight_83 14 rfl)
theorem dX12_sight_108 : decode cX12_sight 108 = .ok (.putfield 443, 3) := dk_181 (dw rcX12_sight_83 15 rfl) rfl
theorem dX12_sight_111 : decode cX12_sight 111 = .ok (.aload_n 0, 1) := dk_42 (dw rcX12_sight_83 16 rfl)
theorem dX12_sight_112 : decode cX12_sight 112 = .ok (.getfield 443, 3) := dk_180 (dw rcX12_sight_83 17 rfl) rfl
theorem dX12_sight_115 : decode cX12_sight 115 = .ok (.iconst 1, 1) := dk_4 (dw rcX12_sight_83 18 rfl)
theorem dX12_sight_116 : decode cX12_sight 116 = .ok (.isub, 1) := dk_100 (dw rcX12_sight_83 19 rfl)
theorem dX12_sight_117 : decode cX12_sight 117 = .ok (.ireturn, 1) := dk_172 (dw rcX12_sight_83 20 rfl)
set_option maxHeartbeats 4000000 in
set_option maxRecDepth 100000 in
theorem n_sight (l : Launch) (D : va_G) (k : KT) (A : Nat → Prop) (a : Nat → Nat) (z : SK) (G : GS) (p0 : Int32) (p1 : Int32) (p2 : Int32) (hW9 : gW G = 1) (hS9 : gS G = 1) : Met l yX12_sight (WS yX12_sight cX12_sight 4 (some .int)) ({ frames := 2, cells := 0, slots := 0, locals := 43 }) (va_Pc [.ref (a 66), .int p0, .int p1, .int p2] (cW D k A a z G)) (va_Qi (fun (r : Int32) (G1 : GS) => Q_sight p0 p1 p2 G r G1) (fun (G1 : GS) t => Wd D k A a G1 t.heap) A) 0 0 A := by
  refine Met.ofW (cc := cX12_sight) (maxL := 4) (ret := (some .int)) (by decide) rfl ?_
  intro p e s m args below meth c s₁ B hml hv
  obtain ⟨rfl, hW, hB_G, hK, hZ⟩ := hv
  have hx := B.exec
  have hb := B.bytes
  have hr := B.returns
  have hts := atoms_spec (ws := WS yX12_sight cX12_sight 4 (some .int)) B.pre
  have hgd : ∀ w ∈ gd, w ∈ WS yX12_sight cX12_sight 4 (some .int) := fun w h => List.mem_cons_of_mem _ h
  have hg : ∀ w ∈ gd, w.before _ s = true := fun w h => hts w (hgd w h)
  have hown : s.vm.findClass RX12 = some m.cls := findClass_of_methodNamed B.named
  have hS : va_S A s.heap s.heap [] := va_S.rf
  have hF : Fr [112, 113, 114, 115, 116] [(66, 85)] G G := Fr.rf
  have hl := lv_entry ([.ref (a 66), .int p0, .int p1, .int p2]) (n := 4) (Nat.le_of_ble_eq_true rfl)
  rw [lg_entry_eq]
  generalize (lg_sl ([.ref (a 66), .int p0, .int p1, .int p2]) ++ List.replicate (4 - (lg_sl ([.ref (a 66), .int p0, .int p1, .int p2])).length) Slot.unset).toArray = ls at hl ⊢
  have hl : lv_has ls 4 [(0, .ref (a 66)), (1, .int p0), (2, .int p1), (3, .int p2)] := hl
  refine lv_aload_n hx hb dX12_sight_0 rfl (lv_at hl 0 rfl) ?_
  refine lv_iload_n hx hb dX12_sight_1 rfl (lv_at hl 1 rfl) ?_
  refine S_calli (va_runV (As := [.int p0]) (rest := []) ⟨hx, hb, hml, hown, hts⟩ (n_isWalker l D k A a z G p0 ) (cwV 1 hts (gd_V hgd m1830 m1832 m90 m131 m1833) rfl rfl rfl hd_X12_isWalker ⟨Nat.le_of_ble_eq_true rfl, Nat.le_of_ble_eq_true rfl⟩) (pre_W hW hB_G hK hZ hS kd_66 rfl) rfl rfl hl.1 rfl (lv_room (Nat.le_of_ble_eq_true rfl)) dX12_sight_2 ⟨Nat.le_of_ble_eq_true rfl, Nat.le_of_ble_eq_true rfl⟩) hS (fun r_1 G_2 H locs hpo hW hS => ?_)
  have hX_5 : Q_isWalker p0 G r_1 G_2 := hpo
  obtain ⟨hB_G_2, hq_3, f_6, hp_4, -⟩ := hpo
  have hF := hF.call9 hq_3 rfl rfl
  refine lv_if_eq (tgt := 46) hx hb dX12_sight_5 rfl (fun c_7 => ?_) (fun c_7 => ?_)
  · have c_7 : r_1.toInt = 0 := xI_eq rfl rfl c_7
    refine ic_m1 hx hb dX12_sight_46 ?_
    have fr_8 : Fr [] [] G G_2 := (Fr.call9 (rs := []) (fs := []) Fr.rf hq_3 rfl rfl)
    have g_9 : gS G_2 = gS G := gS_fr fr_8 (gr_q rfl) (gf_q rfl)
    exact W.iret (v := (-1)) hx hb hr (fun t ht _ => ⟨⟨(-1), G_2, rfl, (Q_sight_mk ⟨hB_G_2, hF, (by have hq : ((-1) : Int32).toInt = (-1) := rfl; (try dsimp only); omega), ⟨r_1, G_2, hX_5, (Or.inl ⟨c_7, ⟨rfl, rfl⟩⟩)⟩⟩), wd_t ht hW⟩, hS.F ht⟩) hS.2.2 dX12_sight_47
  · have c_7 : r_1.toInt ≠ 0 := xI_ne rfl rfl c_7
    refine lv_aload_n hx hb dX12_sight_8 rfl (lv_at hl 0 rfl) ?_
    refine lv_iload_n hx hb dX12_sight_9 rfl (lv_at hl 2 rfl) ?_
    have b_10 : 0 ≤ (G.1 66 52).toInt ∧ (G.1 66 52).toInt ≤ 3 := bd_66_52 hB_G
    have g_11 : (G_2.1 66 52).toInt = (G.1 66 52).toInt := (congrArg Int32.toInt (show G_2.1 66 52 = (G.1 66 52) from (hq_3.i9 66 52 rfl rfl)))
    refine S_calli (va_runV (As := [.int p1]) (rest := []) ⟨hx, hb, hml, hown, hts⟩ (n_isStreet l D k A a z G_2 p1 ) (cwV 1 hts (gd_V hgd m1777 m1779 m83 m131 m1780) rfl rfl rfl hd_X12_isStreet ⟨Nat.le_of_ble_eq_true rfl, Nat.le_of_ble_eq_true rfl⟩) (pre_W hW hB_G_2 hK hZ hS kd_66 rfl) rfl rfl hl.1 rfl (lv_room (Nat.le_of_ble_eq_true rfl)) dX12_sight_10 ⟨Nat.le_of_ble_eq_true rfl, Nat.le_of_ble_eq_true rfl⟩) hS (fun r_12 G_13 H locs hpo hW hS => ?_)
    have hX_16 : Q_isStreet p1 G_2 r_12 G_13 := hpo
    obtain ⟨hB_G_13, hq_14, f_17, hp_15, -⟩ := hpo
    have hF := hF.call9 hq_14 rfl rfl
    refine lv_if_eq (tgt := 46) hx hb dX12_sight_13 rfl (fun c_18 => ?_) (fun c_18 => ?_)
    · have c_18 : r_12.toInt = 0 := xI_eq rfl rfl c_18
      refine ic_m1 hx hb dX12_sight_46 ?_
      have fr_19 : Fr [] [] G G_13 := (Fr.call9 (rs := []) (fs := []) (Fr.call9 (rs := []) (fs := []) Fr.rf hq_3 rfl rfl) hq_14 rfl rfl)
      have g_20 : gS G_13 = gS G := gS_fr fr_19 (gr_q rfl) (gf_q rfl)
      exact W.iret (v := (-1)) hx hb hr (fun t ht _ => ⟨⟨(-1), G_13, rfl, (Q_sight_mk ⟨hB_G_13, hF, (by have hq : ((-1) : Int32).toInt = (-1) := rfl; (try dsimp only); omega), ⟨r_1, G_2, hX_5, (Or.inr ⟨c_7, ⟨r_12, G_13, hX_16, (Or.inl ⟨c_18, ⟨rfl, rfl⟩⟩)⟩⟩)⟩⟩), wd_t ht hW⟩, hS.F ht⟩) hS.2.2 dX12_sight_47
    · have c_18 : r_12.toInt ≠ 0 := xI_ne rfl rfl c_18
      refine lv_iload_n hx hb dX12_sight_16 rfl (lv_at hl 3 rfl) ?_
      refine lv_if_lt (tgt := 46) hx hb dX12_sight_17 rfl (fun c_21 => ?_) (fun c_21 => ?_)
      · have c_21 : p2.toInt < 0 := xI_lt rfl rfl c_21
        refine ic_m1 hx hb dX12_sight_46 ?_
        have fr_22 : Fr [] [] G G_13 := (Fr.call9 (rs := []) (fs := []) (Fr.call9 (rs := []) (fs := []) Fr.rf hq_3 rfl rfl) hq_14 rfl rfl)
        have g_23 : gS G_13 = gS G := gS_fr fr_22 (gr_q rfl) (gf_q rfl)
        exact W.iret (v := (-1)) hx hb hr (fun t ht _ => ⟨⟨(-1), G_13, rfl, (Q_sight_mk ⟨hB_G_13, hF, (by have hq : ((-1) : Int32).toInt = (-1) := rfl; (try dsimp only); omega), ⟨r_1, G_2, hX_5, (Or.inr ⟨c_7, ⟨r_12, G_13, hX_16, (Or.inr ⟨c_18, (Or.inl ⟨c_21, ⟨rfl, rfl⟩⟩)⟩)⟩⟩)⟩⟩), wd_t ht hW⟩, hS.F ht⟩) hS.2.2 dX12_sight_47
      · have c_21 : 0 ≤ p2.toInt := xI_nlt rfl rfl c_21
        refine lv_iload_n hx hb dX12_sight_20 rfl (lv_at hl 3 rfl) ?_
        refine lv_aload_n hx hb dX12_sight_21 rfl (lv_at hl 0 rfl) ?_
        refine S_getR (n := 91) (C := RX12) (T := TX12) (N := 89) hx hb hg iX12 hown hK hW kd_66 rfl 39 (lt_b rfl) (hg (Cond.fieldLink RX12 87 "SlabWalkModel" "lengths" "[I") m1353) (fun _ h9 => h9) rfl dX12_sight_22 ?_
        refine lv_iload_n hx hb dX12_sight_25 rfl (lv_at hl 2 rfl) ?_
        refine S_iald hx hb hK hW kd_91 (vin ((by first | exact ok_647 f_17.1 f_17.2 hp_15 c_18 | omega)) ((by first | exact ok_648 f_17.1 f_17.2 hp_15 c_18 | omega))) dX12_sight_26 (fun y_24 ey_24 => ?_)
        have ty_24 : 0 ≤ y_24.toInt ∧ y_24.toInt ≤ 400 := bv_91 hB_G_13 ey_24
        have u_25 : y_24.toInt = (G.1 91 p1.toNatClampNeg).toInt := congrArg Int32.toInt (ey_24.trans (((hq_14.ri9 91 rfl p1.toNatClampNeg).trans (hq_3.ri9 91 rfl p1.toNatClampNeg))))
        refine lv_aload_n hx hb dX12_sight_27 rfl (lv_at hl 0 rfl) ?_
        refine S_getR (n := 92) (C := RX12) (T := TX12) (N := 89) hx hb hg iX12 hown hK hW kd_66 rfl 40 (lt_b rfl) (hg (Cond.fieldLink RX12 90 "SlabWalkModel" "foots" "[I") m1354) (fun _ h9 => h9) rfl dX12_sight_28 ?_
        refine lv_iload_n hx hb dX12_sight_31 rfl (lv_at hl 1 rfl) ?_
        refine S_iald hx hb hK hW kd_92 (vin ((by first | exact ok_1149 f_6.1 f_6.2 hp_4 c_7 | omega)) ((by first | exact ok_1150 f_6.1 f_6.2 hp_4 c_7 | omega))) dX12_sight_32 (fun y_26 ey_26 => ?_)
        have ty_26 : 0 ≤ y_26.toInt ∧ y_26.toInt ≤ 12 := bv_92 hB_G_13 ey_26
        have u_27 : y_26.toInt = (G.1 92 p0.toNatClampNeg).toInt := congrArg Int32.toInt (ey_26.trans (((hq_14.ri9 92 rfl p0.toNatClampNeg).trans (hq_3.ri9 92 rfl p0.toNatClampNeg))))
        refine lv_isub hx hb dX12_sight_33 ?_
        refine lv_topi (fun y_28 ey_28 => ?_)
        have ty_28 : y_28.toInt = y_24.toInt - y_26.toInt := xI_sub rfl rfl ey_28 ((by first | exact ok_7 ty_24.1 ty_26.2 | omega)) ((by first | exact ok_225 ty_24.2 ty_26.1 | omega))
        refine lv_icmp_gt (tgt := 46) hx hb dX12_sight_34 rfl (fun c_29 => ?_) (fun c_29 => ?_)
        · have c_29 : y_28.toInt < p2.toInt := xI_lt rfl rfl c_29
          refine ic_m1 hx hb dX12_sight_46 ?_
          have fr_30 : Fr [] [] G G_13 := (Fr.call9 (rs := []) (fs := []) (Fr.call9 (rs := []) (fs := []) Fr.rf hq_3 rfl rfl) hq_14 rfl rfl)
          have g_31 : gS G_13 = gS G := gS_fr fr_30 (gr_q rfl) (gf_q rfl)
          exact W.iret (v := (-1)) hx hb hr (fun t ht _ => ⟨⟨(-1), G_13, rfl, (Q_sight_mk ⟨hB_G_13, hF, (by have hq : ((-1) : Int32).toInt = (-1) := rfl; (try dsimp only); omega), ⟨r_1, G_2, hX_5, (Or.inr ⟨c_7, ⟨r_12, G_13, hX_16, (Or.inr ⟨c_18, (Or.inr ⟨c_21, ⟨y_24, ey_24, ⟨y_26, ey_26, ⟨y_28, ty_28, (Or.inl ⟨c_29, ⟨rfl, rfl⟩⟩)⟩⟩⟩⟩)⟩)⟩⟩)⟩⟩), wd_t ht hW⟩, hS.F ht⟩) hS.2.2 dX12_sight_47
        · have c_29 : p2.toInt ≤ y_28.toInt := xI_nlt rfl rfl c_29
          refine lv_aload_n hx hb dX12_sight_37 rfl (lv_at hl 0 rfl) ?_
          have b_32 : 0 ≤ (G.1 66 85).toInt ∧ (G.1 66 85).toInt ≤ 20 := bd_66_85 hB_G
          refine S_getI (v := (G.1 66 85)) (C := RX12) (T := TX12) (N := 89) hx hb hg iX12 hown hK hW kd_66 rfl 85 (lt_b rfl) (hg (Cond.fieldLink RX12 443 "SlabWalkModel" "sights" "I") m1399) (fun _ h9 => h9) rfl ((hq_14.i9 66 85 rfl rfl).trans (hq_3.i9 66 85 rfl rfl)) dX12_sight_38 ?_
          refine lv_bipush (v := 20) hx hb dX12_sight_41 (by decide) ?_
          refine lv_icmp_ne (tgt := 48) hx hb dX12_sight_43 rfl (fun c_33 => ?_) (fun c_33 => ?_)
          · have c_33 : (G.1 66 85).toInt ≠ 20 := xI_ne rfl rfl c_33
            have b_34 : 0 ≤ (G.1 66 53).toInt ∧ (G.1 66 53).toInt ≤ 4 := bd_66_53 hB_G
            have u_35 := gW_at hW9 p0 (by first | (clear hW9 hS9 b_32 c_33; omega) | omega) (by first | (clear hW9 hS9 b_32 c_33; omega) | omega)
            refine lv_aload_n hx hb dX12_sight_48 rfl (lv_at hl 0 rfl) ?_
            refine S_getR (n := 112) (C := RX12) (T := TX12) (N := 89) hx hb hg iX12 hown hK hW kd_66 rfl 80 (lt_b rfl) (hg (Cond.fieldLink RX12 157 "SlabWalkModel" "sightWho" "[I") m1394) (fun _ h9 => h9) rfl dX12_sight_49 ?_
            refine lv_aload_n hx hb dX12_sight_52 rfl (lv_at hl 0 rfl) ?_
            refine S_getI (v := (G.1 66 85)) (C := RX12) (T := TX12) (N := 89) hx hb hg iX12 hown hK hW kd_66 rfl 85 (lt_b rfl) (hg (Cond.fieldLink RX12 443 "SlabWalkModel" "sights" "I") m1399) (fun _ h9 => h9) rfl ((hq_14.i9 66 85 rfl rfl).trans ((hq_3.i9 66 85 rfl rfl).trans (rfl))) dX12_sight_53 ?_
            refine lv_iload_n hx hb dX12_sight_56 rfl (lv_at hl 1 rfl) ?_
            refine S_iast hx hb hK hW hS kd_112 (vin ((by first | exact b_32.1 | omega)) ((by first | exact ok_1260 b_32.2 c_33 | omega))) dX12_sight_57 (fun G_36 H locs eG_36 hW hS => ?_)
            have hB_G_36 : Bd G_36 := hB_G_13.put (V := p0.toInt) (lo := 0) (hi := 3) eG_36 rfl rfl rfl ((by first | exact ok_1149 f_6.1 f_6.2 hp_4 c_7 | omega)) ((by first | exact ok_1151 f_6.1 f_6.2 hp_4 c_7 | omega)) (hB_G_13.2.put eG_36 rfl)
            have hF := hF.put eG_36 (Or.inl (by decide))
            refine lv_aload_n hx hb dX12_sight_58 rfl (lv_at hl 0 rfl) ?_
            refine S_getR (n := 113) (C := RX12) (T := TX12) (N := 89) hx hb hg iX12 hown hK hW kd_66 rfl 81 (lt_b rfl) (hg (Cond.fieldLink RX12 160 "SlabWalkModel" "sightWhere" "[I") m1395) (fun _ h9 => h9) rfl dX12_sight_59 ?_
            refine lv_aload_n hx hb dX12_sight_62 rfl (lv_at hl 0 rfl) ?_
            refine S_getI (v := (G.1 66 85)) (C := RX12) (T := TX12) (N := 89) hx hb hg iX12 hown hK hW kd_66 rfl 85 (lt_b rfl) (hg (Cond.fieldLink RX12 443 "SlabWalkModel" "sights" "I") m1399) (fun _ h9 => h9) rfl ((gp_ne eG_36 (fun q => absurd q.1 (Nat.ne_of_beq_eq_false rfl))).trans ((hq_14.i9 66 85 rfl rfl).trans ((hq_3.i9 66 85 rfl rfl).trans (rfl)))) dX12_sight_63 ?_
            refine lv_iload_n hx hb dX12_sight_66 rfl (lv_at hl 2 rfl) ?_
            refine S_iast hx hb hK hW hS kd_113 (vin ((by first | exact b_32.1 | omega)) ((by first | exact ok_1260 b_32.2 c_33 | omega))) dX12_sight_67 (fun G_37 H locs eG_37 hW hS => ?_)
            have hB_G_37 : Bd G_37 := hB_G_36.put (V := p1.toInt) (lo := 0) (hi := 2) eG_37 rfl rfl rfl ((by first | exact ok_647 f_17.1 f_17.2 hp_15 c_18 | omega)) ((by first | exact ok_649 f_17.1 f_17.2 hp_15 c_18 | omega)) (hB_G_36.2.put eG_37 rfl)
            have hF := hF.put eG_37 (Or.inl (by decide))
            refine lv_aload_n hx hb dX12_sight_68 rfl (lv_at hl 0 rfl) ?_
            refine S_getR (n := 114) (C := RX12) (T := TX12) (N := 89) hx hb hg iX12 hown hK hW kd_66 rfl 82 (lt_b rfl) (hg (Cond.fieldLink RX12 163 "SlabWalkModel" "sightHeel" "[I") m1396) (fun _ h9 => h9) rfl dX12_sight_69 ?_
            refine lv_aload_n hx hb dX12_sight_72 rfl (lv_at hl 0 rfl) ?_
            refine S_getI (v := (G.1 66 85)) (C := RX12) (T := TX12) (N := 89) hx hb hg iX12 hown hK hW kd_66 rfl 85 (lt_b rfl) (hg (Cond.fieldLink RX12 443 "SlabWalkModel" "sights" "I") m1399) (fun _ h9 => h9) rfl ((gp_ne eG_37 (fun q => absurd q.1 (Nat.ne_of_beq_eq_false rfl))).trans ((gp_ne eG_36 (fun q => absurd q.1 (Nat.ne_of_beq_eq_false rfl))).trans ((hq_14.i9 66 85 rfl rfl).trans ((hq_3.i9 66 85 rfl rfl).trans (rfl))))) dX12_sight_73 ?_
            refine lv_iload_n hx hb dX12_sight_76 rfl (lv_at hl 3 rfl) ?_
            refine S_iast hx hb hK hW hS kd_114 (vin ((by first | exact b_32.1 | omega)) ((by first | exact ok_1260 b_32.2 c_33 | omega))) dX12_sight_77 (fun G_38 H locs eG_38 hW hS => ?_)
            have hB_G_38 : Bd G_38 := hB_G_37.put (V := p2.toInt) (lo := 0) (hi := 399) eG_38 rfl rfl rfl ((by first | exact c_21 | omega)) ((by first | (clear hW9 hS9 f_6 c_7 b_10 f_17 c_18 b_32 c_33 b_34; omega) | omega)) (hB_G_37.2.put eG_38 rfl)
            have hF := hF.put eG_38 (Or.inl (by decide))
            refine lv_aload_n hx hb dX12_sight_78 rfl (lv_at hl 0 rfl) ?_
            refine S_getR (n := 115) (C := RX12) (T := TX12) (N := 89) hx hb hg iX12 hown hK hW kd_66 rfl 83 (lt_b rfl) (hg (Cond.fieldLink RX12 166 "SlabWalkModel" "sightTold" "[I") m1397) (fun _ h9 => h9) rfl dX12_sight_79 ?_
            refine lv_aload_n hx hb dX12_sight_82 rfl (lv_at hl 0 rfl) ?_
            refine S_getI (v := (G.1 66 85)) (C := RX12) (T := TX12) (N := 89) hx hb hg iX12 hown hK hW kd_66 rfl 85 (lt_b rfl) (hg (Cond.fieldLink RX12 443 "SlabWalkModel" "sights" "I") m1399) (fun _ h9 => h9) rfl ((gp_ne eG_38 (fun q => absurd q.1 (Nat.ne_of_beq_eq_false rfl))).trans ((gp_ne eG_37 (fun q => absurd q.1 (Nat.ne_of_beq_eq_false rfl))).trans ((gp_ne eG_36 (fun q => absurd q.1 (Nat.ne_of_beq_eq_false rfl))).trans ((hq_14.i9 66 85 rfl rfl).trans ((hq_3.i9 66 85 rfl rfl).trans (rfl)))))) dX12_sight_83 ?_
            refine lv_aload_n hx hb dX12_sight_86 rfl (lv_at hl 0 rfl) ?_
            have b_39 : 0 ≤ (G.1 66 86).toInt ∧ (G.1 66 86).toInt ≤ 100000 := bd_66_86 hB_G
            refine S_getI (v := (G.1 66 86)) (C := RX12) (T := TX12) (N := 89) hx hb hg iX12 hown hK hW kd_66 rfl 86 (lt_b rfl) (hg (Cond.fieldLink RX12 593 "SlabWalkModel" "time" "I") m1400) (fun _ h9 => h9) rfl ((gp_ne eG_38 (fun q => absurd q.1 (Nat.ne_of_beq_eq_false rfl))).trans ((gp_ne eG_37 (fun q => absurd q.1 (Nat.ne_of_beq_eq_false rfl))).trans ((gp_ne eG_36 (fun q => absurd q.1 (Nat.ne_of_beq_eq_false rfl))).trans ((hq_14.i9 66 86 rfl rfl).trans (hq_3.i9 66 86 rfl rfl))))) dX12_sight_87 ?_
            refine S_iast hx hb hK hW hS kd_115 (vin ((by first | exact b_32.1 | omega)) ((by first | exact ok_1260 b_32.2 c_33 | omega))) dX12_sight_90 (fun G_40 H locs eG_40 hW hS => ?_)
            have hB_G_40 : Bd G_40 := hB_G_38.put (lo := (-2147483648)) (hi := 2147483647) eG_40 rfl rfl rfl (tI_rng _).1 (tI_rng _).2 (hB_G_38.2.put eG_40 rfl)
            have hF := hF.put eG_40 (Or.inl (by decide))
            refine lv_aload_n hx hb dX12_sight_91 rfl (lv_at hl 0 rfl) ?_
            refine S_getR (n := 116) (C := RX12) (T := TX12) (N := 89) hx hb hg iX12 hown hK hW kd_66 rfl 84 (lt_b rfl) (hg (Cond.fieldLink RX12 169 "SlabWalkModel" "sightUntold" "[I") m1398) (fun _ h9 => h9) rfl dX12_sight_92 ?_
            refine lv_aload_n hx hb dX12_sight_95 rfl (lv_at hl 0 rfl) ?_
            refine S_getI (v := (G.1 66 85)) (C := RX12) (T := TX12) (N := 89) hx hb hg iX12 hown hK hW kd_66 rfl 85 (lt_b rfl) (hg (Cond.fieldLink RX12 443 "SlabWalkModel" "sights" "I") m1399) (fun _ h9 => h9) rfl ((gp_ne eG_40 (fun q => absurd q.1 (Nat.ne_of_beq_eq_false rfl))).trans ((gp_ne eG_38 (fun q => absurd q.1 (Nat.ne_of_beq_eq_false rfl))).trans ((gp_ne eG_37 (fun q => absurd q.1 (Nat.ne_of_beq_eq_false rfl))).trans ((gp_ne eG_36 (fun q => absurd q.1 (Nat.ne_of_beq_eq_false rfl))).trans ((hq_14.i9 66 85 rfl rfl).trans ((hq_3.i9 66 85 rfl rfl).trans (rfl))))))) dX12_sight_96 ?_
            refine ic_m1 hx hb dX12_sight_99 ?_
            refine S_iast hx hb hK hW hS kd_116 (vin ((by first | exact b_32.1 | omega)) ((by first | exact ok_1260 b_32.2 c_33 | omega))) dX12_sight_100 (fun G_41 H locs eG_41 hW hS => ?_)
            have hB_G_41 : Bd G_41 := hB_G_40.put (lo := (-2147483648)) (hi := 2147483647) eG_41 rfl rfl rfl (tI_rng _).1 (tI_rng _).2 (hB_G_40.2.put eG_41 rfl)
            have hF := hF.put eG_41 (Or.inl (by decide))
            refine lv_aload_n hx hb dX12_sight_101 rfl (lv_at hl 0 rfl) ?_
            refine lv_dup hx hb dX12_sight_102 rfl ?_
            refine S_getI (v := (G.1 66 85)) (C := RX12) (T := TX12) (N := 89) hx hb hg iX12 hown hK hW kd_66 rfl 85 (lt_b rfl) (hg (Cond.fieldLink RX12 443 "SlabWalkModel" "sights" "I") m1399) (fun _ h9 => h9) rfl ((gp_ne eG_41 (fun q => absurd q.1 (Nat.ne_of_beq_eq_false rfl))).trans ((gp_ne eG_40 (fun q => absurd q.1 (Nat.ne_of_beq_eq_false rfl))).trans ((gp_ne eG_38 (fun q => absurd q.1 (Nat.ne_of_beq_eq_false rfl))).trans ((gp_ne eG_37 (fun q => absurd q.1 (Nat.ne_of_beq_eq_false rfl))).trans ((gp_ne eG_36 (fun q => absurd q.1 (Nat.ne_of_beq_eq_false rfl))).trans ((hq_14.i9 66 85 rfl rfl).trans ((hq_3.i9 66 85 rfl rfl).trans (rfl)))))))) dX12_sight_103 ?_
            refine ic_1 hx hb dX12_sight_106 ?_
            refine lv_iadd hx hb dX12_sight_107 ?_
            refine lv_topi (fun y_42 ey_42 => ?_)
            have ty_42 : y_42.toInt = (G.1 66 85).toInt + 1 := xI_add rfl rfl ey_42 ((by first | exact ok_21 b_32.1 | omega)) ((by first | exact ok_196 b_32.2 | omega))
            refine S_putI (ty := .int) (C := RX12) (T := TX12) (N := 89) hx hb hg iX12 tyX12 tyX12_ok nmX12 hown hK hW hS kd_66 rfl 85 (lt_b rfl) (hg (Cond.fieldLink RX12 443 "SlabWalkModel" "sights" "I") m1399) (fun _ h9 => h9) rfl (by decide +kernel) rfl rfl rfl dX12_sight_108 (fun G_43 H locs eG_43 hW hS => ?_)
            have hB_G_43 : Bd G_43 := hB_G_41.put (V := y_42.toInt) (lo := 0) (hi := 20) eG_43 rfl rfl rfl ((by first | exact ok_23 b_32.1 ty_42 | omega)) ((by first | exact ok_1261 b_32.2 c_33 ty_42 | omega)) (hB_G_41.2.put eG_43 rfl)
            have hF := hF.put eG_43 (Or.inr (by decide))
            have u_44 : gS G_43 = 1 := gS_step (G := G) (x := (G.1 66 85)) hS9 rfl (by omega) (gp_eq eG_43) (by omega) (fun j hj => ((gp_ne eG_43 (fun q => absurd q.1 (Nat.ne_of_beq_eq_false rfl))).trans ((gp_ne eG_41 (fun q => absurd q.1 (Nat.ne_of_beq_eq_false rfl))).trans ((gp_ne eG_40 (fun q => absurd q.1 (Nat.ne_of_beq_eq_false rfl))).trans ((gp_ne eG_38 (fun q => absurd q.1 (Nat.ne_of_beq_eq_false rfl))).trans ((gp_ne eG_37 (fun q => absurd q.1 (Nat.ne_of_beq_eq_false rfl))).trans ((gp_ne eG_36 (fun q => hj q.2)).trans ((hq_14.ri9 112 rfl j).trans (hq_3.ri9 112 rfl j))))))))) (fun j hj => ((gp_ne eG_43 (fun q => absurd q.1 (Nat.ne_of_beq_eq_false rfl))).trans ((gp_ne eG_41 (fun q => absurd q.1 (Nat.ne_of_beq_eq_false rfl))).trans ((gp_ne eG_40 (fun q => absurd q.1 (Nat.ne_of_beq_eq_false rfl))).trans ((gp_ne eG_38 (fun q => absurd q.1 (Nat.ne_of_beq_eq_false rfl))).trans ((gp_ne eG_37 (fun q => hj q.2)).trans ((gp_ne eG_36 (fun q => absurd q.1 (Nat.ne_of_beq_eq_false rfl))).trans ((hq_14.ri9 113 rfl j).trans (hq_3.ri9 113 rfl j))))))))) (fun j hj => ((gp_ne eG_43 (fun q => absurd q.1 (Nat.ne_of_beq_eq_false rfl))).trans ((gp_ne eG_41 (fun q => absurd q.1 (Nat.ne_of_beq_eq_false rfl))).trans ((gp_ne eG_40 (fun q => absurd q.1 (Nat.ne_of_beq_eq_false rfl))).trans ((gp_ne eG_38 (fun q => hj q.2)).trans ((gp_ne eG_37 (fun q => absurd q.1 (Nat.ne_of_beq_eq_false rfl))).trans ((gp_ne eG_36 (fun q => absurd q.1 (Nat.ne_of_beq_eq_false rfl))).trans ((hq_14.ri9 114 rfl j).trans (hq_3.ri9 114 rfl j))))))))) (fun j hj => ((gp_ne eG_43 (fun q => absurd q.1 (Nat.ne_of_beq_eq_false rfl))).trans ((gp_ne eG_41 (fun q => absurd q.1 (Nat.ne_of_beq_eq_false rfl))).trans ((gp_ne eG_40 (fun q => absurd q.1 (Nat.ne_of_beq_eq_false rfl))).trans ((gp_ne eG_38 (fun q => absurd q.1 (Nat.ne_of_beq_eq_false rfl))).trans ((gp_ne eG_37 (fun q => absurd q.1 (Nat.ne_of_beq_eq_false rfl))).trans ((gp_ne eG_36 (fun q => absurd q.1 (Nat.ne_of_beq_eq_false rfl))).trans ((hq_14.ri9 92 rfl j).trans (hq_3.ri9 92 rfl j))))))))) (fun j hj => ((gp_ne eG_43 (fun q => absurd q.1 (Nat.ne_of_beq_eq_false rfl))).trans ((gp_ne eG_41 (fun q => absurd q.1 (Nat.ne_of_beq_eq_false rfl))).trans ((gp_ne eG_40 (fun q => absurd q.1 (Nat.ne_of_beq_eq_false rfl))).trans ((gp_ne eG_38 (fun q => absurd q.1 (Nat.ne_of_beq_eq_false rfl))).trans ((gp_ne eG_37 (fun q => absurd q.1 (Nat.ne_of_beq_eq_false rfl))).trans ((gp_ne eG_36 (fun q => absurd q.1 (Nat.ne_of_beq_eq_false rfl))).trans ((hq_14.ri9 91 rfl j).trans (hq_3.ri9 91 rfl j))))))))) ((gp_ne eG_43 (fun q => absurd q.1 (Nat.ne_of_beq_eq_false rfl))).trans ((gp_ne eG_41 (fun q => absurd q.1 (Nat.ne_of_beq_eq_false rfl))).trans ((gp_ne eG_40 (fun q => absurd q.1 (Nat.ne_of_beq_eq_false rfl))).trans ((gp_ne eG_38 (fun q => absurd q.1 (Nat.ne_of_beq_eq_false rfl))).trans ((gp_ne eG_37 (fun q => absurd q.1 (Nat.ne_of_beq_eq_false rfl))).trans (gp_eq eG_36)))))) ((gp_ne eG_43 (fun q => absurd q.1 (Nat.ne_of_beq_eq_false rfl))).trans ((gp_ne eG_41 (fun q => absurd q.1 (Nat.ne_of_beq_eq_false rfl))).trans ((gp_ne eG_40 (fun q => absurd q.1 (Nat.ne_of_beq_eq_false rfl))).trans ((gp_ne eG_38 (fun q => absurd q.1 (Nat.ne_of_beq_eq_false rfl))).trans (gp_eq eG_37))))) ((gp_ne eG_43 (fun q => absurd q.1 (Nat.ne_of_beq_eq_false rfl))).trans ((gp_ne eG_41 (fun q => absurd q.1 (Nat.ne_of_beq_eq_false rfl))).trans ((gp_ne eG_40 (fun q => absurd q.1 (Nat.ne_of_beq_eq_false rfl))).trans (gp_eq eG_38)))) (by omega)
            refine lv_aload_n hx hb dX12_sight_111 rfl (lv_at hl 0 rfl) ?_
            refine S_getI (v := y_42) (C := RX12) (T := TX12) (N := 89) hx hb hg iX12 hown hK hW kd_66 rfl 85 (lt_b rfl) (hg (Cond.fieldLink RX12 443 "SlabWalkModel" "sights" "I") m1399) (fun _ h9 => h9) rfl (gp_eq eG_43) dX12_sight_112 ?_
            refine ic_1 hx hb dX12_sight_115 ?_
            refine lv_isub hx hb dX12_sight_116 ?_
            refine lv_topi (fun y_45 ey_45 => ?_)
            have ty_45 : y_45.toInt = y_42.toInt - 1 := xI_sub rfl rfl ey_45 ((by first | exact ok_1262 b_32.1 ty_42 | omega)) ((by first | exact ok_1263 b_32.2 ty_42 | omega))
            exact W.iret (v := y_45) hx hb hr (fun t ht _ => ⟨⟨y_45, G_43, rfl, (Q_sight_mk ⟨hB_G_43, hF, ((by first | exact u_44 | omega)), ⟨r_1, G_2, hX_5, (Or.inr ⟨c_7, ⟨r_12, G_13, hX_16, (Or.inr ⟨c_18, (Or.inr ⟨c_21, ⟨y_24, ey_24, ⟨y_26, ey_26, ⟨y_28, ty_28, (Or.inr ⟨c_29, (Or.inr ⟨c_33, ⟨y_42, ty_42, ⟨y_45, ty_45, ⟨rfl, (Fr.put (rs := [112, 113, 114, 115, 116]) (fs := [(66, 85)]) (Fr.put (rs := [112, 113, 114, 115, 116]) (fs := [(66, 85)]) (Fr.put (rs := [112, 113, 114, 115, 116]) (fs := [(66, 85)]) (Fr.put (rs := [112, 113, 114, 115, 116]) (fs := [(66, 85)]) (Fr.put (rs := [112, 113, 114, 115, 116]) (fs := [(66, 85)]) (Fr.put (rs := [112, 113, 114, 115, 116]) (fs := [(66, 85)]) Fr.rf eG_36 (Or.inl (by decide))) eG_37 (Or.inl (by decide))) eG_38 (Or.inl (by decide))) eG_40 (Or.inl (by decide))) eG_41 (Or.inl (by decide))) eG_43 (Or.inr (by decide))), (gp_eq eG_43), (rw_put eG_43 (by decide)).trans ((rw_put eG_41 (by decide)).trans ((rw_put eG_40 (by decide)).trans ((rw_put eG_38 (by decide)).trans ((rw_put eG_37 (by decide)).trans (rw_ast eG_36))))), (rw_put eG_43 (by decide)).trans ((rw_put eG_41 (by decide)).trans ((rw_put eG_40 (by decide)).trans ((rw_put eG_38 (by decide)).trans ((rw_ast eG_37).trans (congrArg (fun q => upd q ((G.1 66 85).toNatClampNeg) p1) (rw_put eG_36 (by decide))))))), (rw_put eG_43 (by decide)).trans ((rw_put eG_41 (by decide)).trans ((rw_put eG_40 (by decide)).trans ((rw_ast eG_38).trans (congrArg (fun q => upd q ((G.1 66 85).toNatClampNeg) p2) ((rw_put eG_37 (by decide)).trans (rw_put eG_36 (by decide))))))), (rw_put eG_43 (by decide)).trans ((rw_put eG_41 (by decide)).trans ((rw_ast eG_40).trans (congrArg (fun q => upd q ((G.1 66 85).toNatClampNeg) (G.1 66 86)) ((rw_put eG_38 (by decide)).trans ((rw_put eG_37 (by decide)).trans (rw_put eG_36 (by decide))))))), (rw_put eG_43 (by decide)).trans ((rw_ast eG_41).trans (congrArg (fun q => upd q ((G.1 66 85).toNatClampNeg) (-1)) ((rw_put eG_40 (by decide)).trans ((rw_put eG_38 (by decide)).trans ((rw_put eG_37 (by decide)).trans (rw_put eG_36 (by decide)))))))⟩⟩⟩⟩)⟩)⟩⟩⟩⟩)⟩)⟩⟩)⟩⟩), wd_t ht hW⟩, hS.F ht⟩) hS.2.2 dX12_sight_117
          · have c_33 : (G.1 66 85).toInt = 20 := xI_eq rfl rfl c_33
            refine ic_m1 hx hb dX12_sight_46 ?_
            have fr_46 : Fr [] [] G G_13 := (Fr.call9 (rs := []) (fs := []) (Fr.call9 (rs := []) (fs := []) Fr.rf hq_3 rfl rfl) hq_14 rfl rfl)
            have g_47 : gS G_13 = gS G := gS_fr fr_46 (gr_q rfl) (gf_q rfl)
            exact W.iret (v := (-1)) hx hb hr (fun t ht _ => ⟨⟨(-1), G_13, rfl, (Q_sight_mk ⟨hB_G_13, hF, (by have hq : ((-1) : Int32).toInt = (-1) := rfl; (try dsimp only); omega), ⟨r_1, G_2, hX_5, (Or.inr ⟨c_7, ⟨r_12, G_13, hX_16, (Or.inr ⟨c_18, (Or.inr ⟨c_21, ⟨y_24, ey_24, ⟨y_26, ey_26, ⟨y_28, ty_28, (Or.inr ⟨c_29, (Or.inl ⟨c_33, ⟨rfl, rfl⟩⟩)⟩)⟩⟩⟩⟩)⟩)⟩⟩)⟩⟩), wd_t ht hW⟩, hS.F ht⟩) hS.2.2 dX12_sight_47

set_option maxHeartbeats 4000000 in
set_option maxRecDepth 100000 in
theorem n_common (l : Launch) (D : va_G) (k : KT) (A : Nat → Prop) (a : Nat → Nat) (z : SK) (G : GS) (p0 : Int64) (p1 : Int64) (hc0 : 0 ≤ p0.toInt) (hc1 : 1 ≤ p1.toInt) : Met l yX12_common (WS yX12_common cX12_common 10 (some .long)) ({ frames := 0, cells := 0, slots := 0, locals := 0 }) (va_Pc [.long p0, .long p1] (cW D k A a z G)) (va_Ql (fun (r : Int64) (G1 : GS) => Q_common p0 p1 G r G1) (fun (G1 : GS) t => Wd D k A a G1 t.heap) A) 0 0 A := by
  refine Met.ofW (cc := cX12_common) (maxL := 10) (ret := (some .long)) (by decide) rfl ?_
  intro p e s m args below meth c s₁ B hml hv
  obtain ⟨rfl, hW, hB_G, hK, hZ⟩ := hv
  have hx := B.exec
  have hb := B.bytes
  have hr := B.returns
  have hts := atoms_spec (ws := WS yX12_common cX12_common 10 (some .long)) B.pre
  have hgd : ∀ w ∈ gd, w ∈ WS yX12_common cX12_common 10 (some .long) := fun w h => List.mem_cons_of_mem _ h
  have hg : ∀ w ∈ gd, w.before _ s = true := fun w h => hts w (hgd w h)
  have hown : s.vm.findClass RX12 = some m.cls := findClass_of_methodNamed B.named
  have hS : va_S A s.heap s.heap [] := va_S.rf
  have hF : Fr [] [] G G := Fr.rf
  have hl := lv_entry ([.long p0, .long p1]) (n := 10) (Nat.le_of_ble_eq_true rfl)
  rw [lg_entry_eq]
  generalize (lg_sl ([.long p0, .long p1]) ++ List.replicate (10 - (lg_sl ([.long p0, .long p1])).length) Slot.unset).toArray = ls at hl ⊢
  have hl : lv_has ls 10 [(0, .long p0), (2, .long p1)] := hl
  refine lv_lload_n hx hb dX12_common_0 rfl (lv_at hl 0 rfl) ?_
  refine lv_lstore (lv' := [(4, .long p0), (0, .long p0), (2, .long p1)]) hx hb dX12_common_1 hl (lt_b rfl) rfl (fun ls hl => ?_)
  refine lv_lload_n hx hb dX12_common_3 rfl (lv_at hl 2 rfl) ?_
  refine lv_lstore (lv' := [(6, .long p1), (4, .long p0), (0, .long p0), (2, .long p1)]) hx hb dX12_common_4 hl (lt_b rfl) rfl (fun ls hl => ?_)
  refine loop_N (Inv := fun n H locs ls => ∃ (G_1 : GS) (x_5 : Int64) (x_6 : Int64), (n : Int) = (x_5).toInt ∧ (0 ≤ (x_6).toInt) ∧ (0 ≤ (x_5).toInt) ∧ (1 ≤ (x_6).toInt ∨ 1 ≤ (x_5).toInt) ∧ Rc (St_n_common_1) (p1, p0, G) (x_5, x_6, G_1) ∧ Wd D k A a G_1 H ∧ Bd G_1 ∧ Fr [] [] G G_1 ∧ Fr [] [] G G_1 ∧ va_S A s.heap H locs ∧ lv_has ls 10 [(6, .long x_5), (4, .long x_6)]) (fun n_4 H locs ls ih_3 hI => ?_) ((p1).toInt : Int).toNat ⟨G, p1, p0, (Int.toNat_of_nonneg (by omega)), (by omega), (by omega), (by omega), Rc.rf, hW, hB_G, hF, Fr.rf, hS, lv_sub hl [0, 1] rfl⟩
  obtain ⟨G_1, x_5, x_6, hn_11, f_8, f_9, f_10, hX_7, hW, hB_G_1, hF, hq_2, hS, hl⟩ := hI
  refine lv_lload hx hb dX12_common_6 (lv_at hl 0 rfl) ?_
  refine lv_lconst (v := 0) hx hb dX12_common_8 (by decide) ?_
  refine W.lcmp hx hb dX12_common_9 ?_
  refine lv_topi (fun y_12 ey_12 => ?_)
  have ty_12 := lcmp_rng ey_12
  have u_13 := lc_gt ey_12
  have u_14 : (0 : Int64).toInt = 0 := rfl
  refine lv_if_le (tgt := 31) hx hb dX12_common_10 rfl (fun c_15 => ?_) (fun c_15 => ?_)
  · have c_15 : y_12.toInt ≤ 0 := xI_le rfl rfl c_15
    refine lv_lload hx hb dX12_common_31 (lv_at hl 1 rfl) ?_
    exact W.lret (v := x_6) hx hb hr (fun t ht _ => ⟨⟨x_6, G_1, rfl, (Q_common_mk ⟨hB_G_1, hF, ((by first | (clear hc0 hc1 hn_11 ty_12 u_13 c_15; omega) | omega)), ⟨x_5, x_6, G_1, hX_7, f_8, f_9, f_10, hB_G_1, hq_2, ⟨y_12, ey_12, ⟨c_15, ⟨rfl, rfl⟩⟩⟩⟩⟩), wd_t ht hW⟩, hS.F ht⟩) hS.2.2 dX12_common_33
  · have c_15 : 0 < y_12.toInt := xI_nle rfl rfl c_15
    refine lv_lload hx hb dX12_common_13 (lv_at hl 1 rfl) ?_
    refine lv_lload hx hb dX12_common_15 (lv_at hl 0 rfl) ?_
    refine lv_lrem hx hb dX12_common_17 (l_ne0 (by omega)) ?_
    refine lv_topl (fun y_16 ey_16 => ?_)
    have u_17 := l_mod ey_16 (by first | (clear hc0 hc1 hn_11 f_8 f_9 f_10 ty_12 u_13 c_15; omega) | omega) (by first | (clear hc0 hc1 hn_11 f_8 f_9 f_10 ty_12 u_13 c_15; omega) | omega)
    refine lv_lstore (lv' := [(8, .long y_16), (6, .long x_5), (4, .long x_6)]) hx hb dX12_common_18 hl (lt_b rfl) rfl (fun ls hl => ?_)
    refine lv_lload hx hb dX12_common_20 (lv_at hl 1 rfl) ?_
    refine lv_lstore (lv' := [(4, .long x_5), (8, .long y_16), (6, .long x_5)]) hx hb dX12_common_22 hl (lt_b rfl) rfl (fun ls hl => ?_)
    refine lv_lload hx hb dX12_common_24 (lv_at hl 1 rfl) ?_
    refine lv_lstore (lv' := [(6, .long y_16), (4, .long x_5), (8, .long y_16)]) hx hb dX12_common_26 hl (lt_b rfl) rfl (fun ls hl => ?_)
    refine lv_goto (tgt := 6) hx hb dX12_common_28 rfl ?_
    exact ih_3 ((y_16).toInt : Int).toNat ((by first | (clear hc0 hc1 ty_12 u_13 c_15; omega) | omega)) _ _ _ ⟨G_1, y_16, x_5, (Int.toNat_of_nonneg ((by first | (clear hc0 hc1 hn_11 f_8 f_9 f_10 ty_12 u_13 c_15; omega) | omega))), ((by first | exact f_9 | omega)), ((by first | (clear hc0 hc1 hn_11 f_8 f_9 f_10 ty_12 u_13 c_15; omega) | omega)), ((by first | (clear hc0 hc1 hn_11 ty_12 u_13 c_15; omega) | omega)), (hX_7.st (St_n_common_1_mk ⟨x_5, x_6, G_1, y_16, x_5, G_1, rfl, rfl, f_8, f_9, f_10, hB_G_1, ⟨y_12, ey_12, ⟨c_15, ⟨y_16, ey_16, ⟨rfl, rfl, rfl⟩⟩⟩⟩⟩)), hW, hB_G_1, hF, (Fr.call9 (rs := []) (fs := []) Fr.rf hq_2 rfl rfl), hS, lv_sub hl [0, 1] rfl⟩

set_option maxHeartbeats 4000000 in
set_option maxRecDepth 100000 in
theorem n_chance (l : Launch) (D : va_G) (k : KT) (A : Nat → Prop) (a : Nat → Nat) (z : SK) (G : GS) (p0 : Int32) (p1 : Int32) (p2 : Int32) (hP9 : gP G = 1) (hS9 : gS G = 1) : Met l yX12_chance (WS yX12_chance cX12_chance 12 (some .long)) ({ frames := 5, cells := 0, slots := 0, locals := 117 }) (va_Pc [.ref (a 66), .int p0, .int p1, .int p2] (cW D k A a z G)) (va_Ql (fun (r : Int64) (G1 : GS) => Q_chance p0 p1 p2 G r G1) (fun (G1 : GS) t => Wd D k A a G1 t.heap) A) 0 0 A := by
  refine Met.ofW (cc := cX12_chance) (maxL := 12) (ret := (some .long)) (by decide) rfl ?_
  intro p e s m args below meth c s₁ B hml hv
  obtain ⟨rfl, hW, hB_G, hK, hZ⟩ := hv
  have hx := B.exec
  have hb := B.bytes
  have hr := B.returns
  have hts := atoms_spec (ws := WS yX12_chance cX12_chance 12 (some .long)) B.pre
  have hgd : ∀ w ∈ gd, w ∈ WS yX12_chance cX12_chance 12 (some .long) := fun w h => List.mem_cons_of_mem _ h
  have hg : ∀ w ∈ gd, w.before _ s = true := fun w h => hts w (hgd w h)
  have hown : s.vm.findClass RX12 = some m.cls := findClass_of_methodNamed B.named
  have hS : va_S A s.heap s.heap [] := va_S.rf
  have hF : Fr [76, 97, 98] [(66, 59), (66, 60), (66, 61), (66, 62), (66, 63)] G G := Fr.rf
  have hl := lv_entry ([.ref (a 66), .int p0, .int p1, .int p2]) (n := 12) (Nat.le_of_ble_eq_true rfl)
  rw [lg_entry_eq]
  generalize (lg_sl ([.ref (a 66), .int p0, .int p1, .int p2]) ++ List.replicate (12 - (lg_sl ([.ref (a 66), .int p0, .int p1, .int p2])).length) Slot.unset).toArray = ls at hl ⊢
  have hl : lv_has ls 12 [(0, .ref (a 66)), (1, .int p0), (2, .int p1), (3, .int p2)] := hl
  refine lv_aload_n hx hb dX12_chance_0 rfl (lv_at hl 0 rfl) ?_
  refine lv_iload_n hx hb dX12_chance_1 rfl (lv_at hl 1 rfl) ?_
  refine S_calli (va_runV (As := [.int p0]) (rest := []) ⟨hx, hb, hml, hown, hts⟩ (n_isRule l D k A a z G p0 ) (cwV 1 hts (gd_V hgd m2007 m2009 m113 m131 m2010) rfl rfl rfl hd_X12_isRule ⟨Nat.le_of_ble_eq_true rfl, Nat.le_of_ble_eq_true rfl⟩) (pre_W hW hB_G hK hZ hS kd_66 rfl) rfl rfl hl.1 rfl (lv_room (Nat.le_of_ble_eq_true rfl)) dX12_chance_2 ⟨Nat.le_of_ble_eq_true rfl, Nat.le_of_ble_eq_true rfl⟩) hS (fun r_1 G_2 H locs hpo hW hS => ?_)
  have hX_5 : Q_isRule p0 G r_1 G_2 := hpo
  obtain ⟨hB_G_2, hq_3, f_6, hp_4, -⟩ := hpo
  have hF := hF.call9 hq_3 rfl rfl
  refine lv_if_eq (tgt := 17) hx hb dX12_chance_5 rfl (fun c_7 => ?_) (fun c_7 => ?_)
  · have c_7 : r_1.toInt = 0 := xI_eq rfl rfl c_7
    refine lv_ldc2 (v := (-1)) hx hb hown (hg (Cond.constantLong RX12 517 (-1)) m1874) dX12_chance_17 ?_
    exact W.lret (v := (-1)) hx hb hr (fun t ht _ => ⟨⟨(-1), G_2, rfl, (Q_chance_mk ⟨hB_G_2, hF, ⟨r_1, G_2, hX_5, (Or.inl ⟨c_7, ⟨rfl, rfl⟩⟩)⟩⟩), wd_t ht hW⟩, hS.F ht⟩) hS.2.2 dX12_chance_20
  · have c_7 : r_1.toInt ≠ 0 := xI_ne rfl rfl c_7
    refine lv_iload_n hx hb dX12_chance_8 rfl (lv_at hl 2 rfl) ?_
    refine ic_0 hx hb dX12_chance_9 ?_
    refine ic_1 hx hb dX12_chance_10 ?_
    have qc_8 : (0 : Int32).toInt = 0 := rfl
    have qc_9 : (1 : Int32).toInt = 1 := rfl
    refine S_calli (va_runS (As := [.int p1, .int 0, .int 1]) (rest := []) ⟨hx, hb, hml, hown, hts⟩ (n_isIn l D k A a z G_2 p1 0 1 ) (va_cwS 3 hts (gd_S hgd m1781 m1782 m131 m1783) rfl rfl rfl hd_X12_isIn.2 ⟨Nat.le_of_ble_eq_true rfl, Nat.le_of_ble_eq_true rfl⟩) (pre_S hW hB_G_2 hK hZ hS) rfl rfl hl.1 rfl (lv_room (Nat.le_of_ble_eq_true rfl)) dX12_chance_11 ⟨Nat.le_of_ble_eq_true rfl, Nat.le_of_ble_eq_true rfl⟩) hS (fun r_10 G_11 H locs hpo hW hS => ?_)
    have hX_14 : Q_isIn p1 0 1 G_2 r_10 G_11 := hpo
    obtain ⟨hB_G_11, hq_12, f_15, ⟨d_1, d_2⟩, -⟩ := hpo
    have hF := hF.call9 hq_12 rfl rfl
    refine lv_if_ne (tgt := 21) hx hb dX12_chance_14 rfl (fun c_16 => ?_) (fun c_16 => ?_)
    · have c_16 : r_10.toInt ≠ 0 := xI_ne rfl rfl c_16
      refine lv_lconst (v := 1) hx hb dX12_chance_21 (by decide) ?_
      refine lv_lstore (lv' := [(4, .long 1), (0, .ref (a 66)), (1, .int p0), (2, .int p1), (3, .int p2)]) hx hb dX12_chance_22 hl (lt_b rfl) rfl (fun ls hl => ?_)
      refine lv_lconst (v := 1) hx hb dX12_chance_24 (by decide) ?_
      refine lv_lstore (lv' := [(6, .long 1), (4, .long 1), (0, .ref (a 66)), (1, .int p0), (2, .int p1), (3, .int p2)]) hx hb dX12_chance_25 hl (lt_b rfl) rfl (fun ls hl => ?_)
      refine ic_0 hx hb dX12_chance_27 ?_
      have u_17 : p7I (0 : Int32).toInt = 1 := rfl
      have u_18 : (1 : Int64).toInt = 1 := rfl
      refine lv_istore (lv' := [(8, .int 0), (6, .long 1), (4, .long 1), (0, .ref (a 66)), (1, .int p0), (2, .int p1), (3, .int p2)]) hx hb dX12_chance_28 hl (lt_b rfl) rfl (fun ls hl => ?_)
      have qc_27 : (0 : Int32).toInt = 0 := rfl
      refine loop_N (Inv := fun n H locs ls => ∃ (G_19 : GS) (x_23 : Int32) (x_24 : Int64) (x_25 : Int64), (n : Int) = 20 - x_23.toInt ∧ (0 ≤ x_23.toInt ∧ x_23.toInt ≤ 20) ∧ (0 ≤ (x_25).toInt ∧ (x_25).toInt ≤ p7I x_23.toInt) ∧ (1 ≤ (x_24).toInt ∧ (x_24).toInt ≤ p7I x_23.toInt) ∧ Rc (St_n_chance_1 p0 p2 G) (0, 1, 1, G_11) (x_23, x_24, x_25, G_19) ∧ Wd D k A a G_19 H ∧ Bd G_19 ∧ Fr [76, 97, 98] [(66, 59), (66, 60), (66, 61), (66, 62), (66, 63)] G G_19 ∧ Fr [76, 97, 98] [(66, 59), (66, 60), (66, 61), (66, 62), (66, 63)] G_11 G_19 ∧ va_S A s.heap H locs ∧ lv_has ls 12 [(8, .int x_23), (6, .long x_24), (4, .long x_25), (0, .ref (a 66)), (1, .int p0), (2, .int p1), (3, .int p2)]) (fun n_22 H locs ls ih_21 hI => ?_) (20 - 0 : Int).toNat ⟨G_11, 0, 1, 1, (Int.toNat_of_nonneg ((by decide))), ⟨(by decide), (by decide)⟩, ((by first | exact ⟨((by first | (clear hP9 hS9 f_6 hp_4 c_7 f_15 d_1 d_2 c_16; omega) | omega)), ((by first | (clear hP9 hS9 f_6 hp_4 c_7 f_15 d_1 d_2 c_16; omega) | omega))⟩ | omega)), ((by first | exact ⟨((by first | (clear hP9 hS9 f_6 hp_4 c_7 f_15 d_1 d_2 c_16; omega) | omega)), ((by first | (clear hP9 hS9 f_6 hp_4 c_7 f_15 d_1 d_2 c_16; omega) | omega))⟩ | omega)), Rc.rf, hW, hB_G_11, hF, Fr.rf, hS, lv_sub hl [0, 1, 2, 3, 4, 5, 6] rfl⟩
      obtain ⟨G_19, x_23, x_24, x_25, hn_31, f_28, f_29, f_30, hX_26, hW, hB_G_19, hF, hq_20, hS, hl⟩ := hI
      have u_32 := p7_at x_23.toInt (by first | (clear hP9 hS9 f_6 hp_4 c_7 f_15 d_1 d_2 c_16 hn_31; omega) | omega) (by first | (clear hP9 hS9 f_6 hp_4 c_7 f_15 d_1 d_2 c_16 hn_31; omega) | omega)
      refine lv_iload hx hb dX12_chance_30 (lv_at hl 0 rfl) ?_
      refine lv_aload_n hx hb dX12_chance_32 rfl (lv_at hl 3 rfl) ?_
      have b_33 : 0 ≤ (G.1 66 85).toInt ∧ (G.1 66 85).toInt ≤ 20 := bd_66_85 hB_G
      refine S_getI (v := (G.1 66 85)) (C := RX12) (T := TX12) (N := 89) hx hb hg iX12 hown hK hW kd_66 rfl 85 (lt_b rfl) (hg (Cond.fieldLink RX12 443 "SlabWalkModel" "sights" "I") m1399) (fun _ h9 => h9) rfl ((hq_20.i9 66 85 rfl rfl).trans ((hq_12.i9 66 85 rfl rfl).trans (hq_3.i9 66 85 rfl rfl))) dX12_chance_33 ?_
      refine lv_icmp_ge (tgt := 162) hx hb dX12_chance_36 rfl (fun c_34 => ?_) (fun c_34 => ?_)
      · have c_34 : (G.1 66 85).toInt ≤ x_23.toInt := xI_le rfl rfl c_34
        refine lv_lload hx hb dX12_chance_162 (lv_at hl 2 rfl) ?_
        refine lv_lload hx hb dX12_chance_164 (lv_at hl 1 rfl) ?_
        refine S_calll (va_runS (As := [.long x_25, .long x_24]) (rest := []) ⟨hx, hb, hml, hown, hts⟩ (n_common l D k A a z G_19 x_25 x_24 ((by first | (clear hP9 hS9 f_6 hp_4 c_7 f_15 d_1 d_2 c_16 hn_31 b_33; omega) | omega)) ((by first | (clear hP9 hS9 f_6 hp_4 c_7 f_15 d_1 d_2 c_16 hn_31 b_33; omega) | omega))) (va_cwS 2 hts (gd_S hgd m2063 m2064 m131 m2065) rfl rfl rfl hd_X12_common.2 ⟨Nat.le_of_ble_eq_true rfl, Nat.le_of_ble_eq_true rfl⟩) (pre_S hW hB_G_19 hK hZ hS) rfl rfl hl.1 rfl (lv_room (Nat.le_of_ble_eq_true rfl)) dX12_chance_166 ⟨Nat.le_of_ble_eq_true rfl, Nat.le_of_ble_eq_true rfl⟩) hS (fun r_35 G_36 H locs hpo hW hS => ?_)
        have hX_39 : Q_common x_25 x_24 G_19 r_35 G_36 := hpo
        obtain ⟨hB_G_36, hq_37, hp_38, -⟩ := hpo
        have hF := hF.call9 hq_37 rfl rfl
        refine lv_lstore (lv' := [(8, .long r_35), (6, .long x_24), (4, .long x_25), (0, .ref (a 66)), (1, .int p0), (2, .int p1), (3, .int p2)]) hx hb dX12_chance_169 hl (lt_b rfl) rfl (fun ls hl => ?_)
        refine lv_iload_n hx hb dX12_chance_171 rfl (lv_at hl 5 rfl) ?_
        refine lv_if_ne (tgt := 183) hx hb dX12_chance_172 rfl (fun c_40 => ?_) (fun c_40 => ?_)
        · have c_40 : p1.toInt ≠ 0 := xI_ne rfl rfl c_40
          refine lv_lload hx hb dX12_chance_183 (lv_at hl 1 rfl) ?_
          refine lv_lload hx hb dX12_chance_185 (lv_at hl 0 rfl) ?_
          refine lv_ldiv hx hb dX12_chance_187 (l_ne0 (by omega)) ?_
          refine lv_topl (fun y_41 ey_41 => ?_)
          exact W.lret (v := y_41) hx hb hr (fun t ht _ => ⟨⟨y_41, G_36, rfl, (Q_chance_mk ⟨hB_G_36, hF, ⟨r_1, G_2, hX_5, (Or.inr ⟨c_7, ⟨r_10, G_11, hX_14, (Or.inr ⟨c_16, ⟨x_23, x_24, x_25, G_19, hX_26, f_28, f_29, f_30, hB_G_19, hq_20, ⟨c_34, ⟨r_35, G_36, hX_39, (Or.inr ⟨c_40, ⟨y_41, ey_41, ⟨rfl, rfl⟩⟩⟩)⟩⟩⟩⟩)⟩⟩)⟩⟩), wd_t ht hW⟩, hS.F ht⟩) hS.2.2 dX12_chance_188
        · have c_40 : p1.toInt = 0 := xI_eq rfl rfl c_40
          refine lv_lload hx hb dX12_chance_175 (lv_at hl 2 rfl) ?_
          refine lv_lload hx hb dX12_chance_177 (lv_at hl 0 rfl) ?_
          refine lv_ldiv hx hb dX12_chance_179 (l_ne0 (by omega)) ?_
          refine lv_topl (fun y_42 ey_42 => ?_)
          refine lv_goto (tgt := 188) hx hb dX12_chance_180 rfl ?_
          exact W.lret (v := y_42) hx hb hr (fun t ht _ => ⟨⟨y_42, G_36, rfl, (Q_chance_mk ⟨hB_G_36, hF, ⟨r_1, G_2, hX_5, (Or.inr ⟨c_7, ⟨r_10, G_11, hX_14, (Or.inr ⟨c_16, ⟨x_23, x_24, x_25, G_19, hX_26, f_28, f_29, f_30, hB_G_19, hq_20, ⟨c_34, ⟨r_35, G_36, hX_39, (Or.inl ⟨c_40, ⟨y_42, ey_42, ⟨rfl, rfl⟩⟩⟩)⟩⟩⟩⟩)⟩⟩)⟩⟩), wd_t ht hW⟩, hS.F ht⟩) hS.2.2 dX12_chance_188
      · have c_34 : x_23.toInt < (G.1 66 85).toInt := xI_nle rfl rfl c_34
        refine lv_aload_n hx hb dX12_chance_39 rfl (lv_at hl 3 rfl) ?_
        refine lv_iload hx hb dX12_chance_40 (lv_at hl 0 rfl) ?_
        refine lv_iload_n hx hb dX12_chance_42 rfl (lv_at hl 6 rfl) ?_
        refine S_calli (va_runV (As := [.int x_23, .int p2]) (rest := []) ⟨hx, hb, hml, hown, hts⟩ (n_counts l D k A a z G_19 x_23 p2 ⟨(by first | exact f_28.1 | omega), (by first | exact ok_472 f_28.2 b_33.2 c_34 | omega)⟩) (cwV 2 hts (gd_V hgd m2055 m2057 m115 m131 m2058) rfl rfl rfl hd_X12_counts ⟨Nat.le_of_ble_eq_true rfl, Nat.le_of_ble_eq_true rfl⟩) (pre_W hW hB_G_19 hK hZ hS kd_66 rfl) rfl rfl hl.1 rfl (lv_room (Nat.le_of_ble_eq_true rfl)) dX12_chance_43 ⟨Nat.le_of_ble_eq_true rfl, Nat.le_of_ble_eq_true rfl⟩) hS (fun r_43 G_44 H locs hpo hW hS => ?_)
        have hX_47 : Q_counts x_23 p2 G_19 r_43 G_44 := hpo
        obtain ⟨hB_G_44, hq_45, f_48, -⟩ := hpo
        have hF := hF.call9 hq_45 rfl rfl
        refine lv_if_ne (tgt := 52) hx hb dX12_chance_46 rfl (fun c_49 => ?_) (fun c_49 => ?_)
        · have c_49 : r_43.toInt ≠ 0 := xI_ne rfl rfl c_49
          refine lv_aload_n hx hb dX12_chance_52 rfl (lv_at hl 3 rfl) ?_
          refine lv_aload_n hx hb dX12_chance_53 rfl (lv_at hl 3 rfl) ?_
          refine S_getR (n := 112) (C := RX12) (T := TX12) (N := 89) hx hb hg iX12 hown hK hW kd_66 rfl 80 (lt_b rfl) (hg (Cond.fieldLink RX12 157 "SlabWalkModel" "sightWho" "[I") m1394) (fun _ h9 => h9) rfl dX12_chance_54 ?_
          refine lv_iload hx hb dX12_chance_57 (lv_at hl 0 rfl) ?_
          refine S_iald hx hb hK hW kd_112 (vin ((by first | exact f_28.1 | omega)) ((by first | exact ok_1155 f_28.2 b_33.2 c_34 | omega))) dX12_chance_59 (fun y_50 ey_50 => ?_)
          have ty_50 : 0 ≤ y_50.toInt ∧ y_50.toInt ≤ 3 := bv_112 hB_G_44 ey_50
          have u_51 : y_50.toInt = (G.1 112 x_23.toNatClampNeg).toInt := congrArg Int32.toInt (ey_50.trans (((hq_45.ri9 112 rfl x_23.toNatClampNeg).trans ((hq_20.ri9 112 rfl x_23.toNatClampNeg).trans ((hq_12.ri9 112 rfl x_23.toNatClampNeg).trans (hq_3.ri9 112 rfl x_23.toNatClampNeg))))))
          refine lv_aload_n hx hb dX12_chance_60 rfl (lv_at hl 3 rfl) ?_
          refine S_getR (n := 113) (C := RX12) (T := TX12) (N := 89) hx hb hg iX12 hown hK hW kd_66 rfl 81 (lt_b rfl) (hg (Cond.fieldLink RX12 160 "SlabWalkModel" "sightWhere" "[I") m1395) (fun _ h9 => h9) rfl dX12_chance_61 ?_
          refine lv_iload hx hb dX12_chance_64 (lv_at hl 0 rfl) ?_
          refine S_iald hx hb hK hW kd_113 (vin ((by first | exact f_28.1 | omega)) ((by first | exact ok_1155 f_28.2 b_33.2 c_34 | omega))) dX12_chance_66 (fun y_52 ey_52 => ?_)
          have ty_52 : 0 ≤ y_52.toInt ∧ y_52.toInt ≤ 2 := bv_113 hB_G_44 ey_52
          have u_53 : y_52.toInt = (G.1 113 x_23.toNatClampNeg).toInt := congrArg Int32.toInt (ey_52.trans (((hq_45.ri9 113 rfl x_23.toNatClampNeg).trans ((hq_20.ri9 113 rfl x_23.toNatClampNeg).trans ((hq_12.ri9 113 rfl x_23.toNatClampNeg).trans (hq_3.ri9 113 rfl x_23.toNatClampNeg))))))
          refine ic_1 hx hb dX12_chance_67 ?_
          refine lv_iload_n hx hb dX12_chance_68 rfl (lv_at hl 4 rfl) ?_
          refine lv_ishl hx hb dX12_chance_69 ?_
          refine lv_topi (fun y_54 ey_54 => ?_)
          have ty_54 := sh5 (Y := p0.toInt) rfl ey_54 rfl (by first | (clear hP9 hS9 f_15 d_1 d_2 c_16 hn_31 f_28 f_29 f_30 u_32 b_33 c_34 f_48 c_49 ty_50 u_51 ty_52 u_53; omega) | omega) (by first | (clear hP9 hS9 f_15 d_1 d_2 c_16 hn_31 f_28 f_29 f_30 u_32 b_33 c_34 f_48 c_49 ty_50 u_51 ty_52 u_53; omega) | omega)
          have fr_55 : Fr [76, 97, 98] [(66, 59), (66, 60), (66, 61), (66, 62), (66, 63)] G G_44 := (Fr.call9 (rs := [76, 97, 98]) (fs := [(66, 59), (66, 60), (66, 61), (66, 62), (66, 63)]) (Fr.call9 (rs := [76, 97, 98]) (fs := [(66, 59), (66, 60), (66, 61), (66, 62), (66, 63)]) (Fr.call9 (rs := [76, 97, 98]) (fs := [(66, 59), (66, 60), (66, 61), (66, 62), (66, 63)]) (Fr.call9 (rs := [76, 97, 98]) (fs := [(66, 59), (66, 60), (66, 61), (66, 62), (66, 63)]) Fr.rf hq_3 rfl rfl) hq_12 rfl rfl) hq_20 rfl rfl) hq_45 rfl rfl)
          have g_56 : gP G_44 = gP G := gP_fr fr_55 (gr_q rfl) (gf_q rfl)
          refine S_callv (va_runV (As := [.int y_50, .int y_52, .int y_54]) (rest := []) ⟨hx, hb, hml, hown, hts⟩ (n_layStreet l D k A a z G_44 y_50 y_52 y_54 ⟨(by first | exact ty_50.1 | omega), (by first | exact ty_50.2 | omega)⟩ ⟨(by first | exact ty_52.1 | omega), (by first | exact ty_52.2 | omega)⟩ ((by first | exact ok_796 hP9 g_56 | omega))) (cwV 3 hts (gd_V hgd m1834 m1836 m91 m131 m1837) rfl rfl rfl hd_X12_layStreet ⟨Nat.le_of_ble_eq_true rfl, Nat.le_of_ble_eq_true rfl⟩) (pre_W hW hB_G_44 hK hZ hS kd_66 rfl) rfl rfl hl.1 rfl (lv_room (Nat.le_of_ble_eq_true rfl)) dX12_chance_70 ⟨Nat.le_of_ble_eq_true rfl, Nat.le_of_ble_eq_true rfl⟩) hS (fun G_58 H locs hpo hW hS => ?_)
          have hX_61 : Q_layStreet y_50 y_52 y_54 G_44 G_58 := hpo
          obtain ⟨hB_G_58, hq_59, ⟨d_3, d_4, d_5, d_6, d_7, d_8⟩, -⟩ := hpo
          have hF := hF.call9 hq_59 rfl rfl
          have u_62 := gS_at hS9 (s := x_23) (w := y_50) (r := y_52) (q := G.1 114 x_23.toNatClampNeg) (by first | (clear hP9 hS9 f_6 hp_4 c_7 f_15 d_1 d_2 c_16 hn_31 f_48 c_49 ty_54 g_56; omega) | omega) (by first | (clear hP9 hS9 f_6 hp_4 c_7 f_15 d_1 d_2 c_16 hn_31 f_48 c_49 ty_54 g_56; omega) | omega) (by first | (clear hP9 hS9 f_6 hp_4 c_7 f_15 d_1 d_2 c_16 hn_31 f_48 c_49 ty_54 g_56; omega) | omega) (by first | (clear hP9 hS9 f_6 hp_4 c_7 f_15 d_1 d_2 c_16 hn_31 f_48 c_49 ty_54 g_56; omega) | omega) rfl
          have b_63 : 0 ≤ (G.1 114 x_23.toNatClampNeg).toInt ∧ (G.1 114 x_23.toNatClampNeg).toInt ≤ 399 := hB_G.i 114 _ rfl rfl
          have u_64 : (G_44.1 92 y_50.toNatClampNeg).toInt = (G.1 92 y_50.toNatClampNeg).toInt := congrArg Int32.toInt (((hq_45.ri9 92 rfl y_50.toNatClampNeg).trans ((hq_20.ri9 92 rfl y_50.toNatClampNeg).trans ((hq_12.ri9 92 rfl y_50.toNatClampNeg).trans (hq_3.ri9 92 rfl y_50.toNatClampNeg)))))
          have u_65 : (G_44.1 91 y_52.toNatClampNeg).toInt = (G.1 91 y_52.toNatClampNeg).toInt := congrArg Int32.toInt (((hq_45.ri9 91 rfl y_52.toNatClampNeg).trans ((hq_20.ri9 91 rfl y_52.toNatClampNeg).trans ((hq_12.ri9 91 rfl y_52.toNatClampNeg).trans (hq_3.ri9 91 rfl y_52.toNatClampNeg)))))
          have b_66 : 0 ≤ (G_58.1 66 60).toInt ∧ (G_58.1 66 60).toInt ≤ 12 := bd_66_60 hB_G_58
          have b_67 : 0 ≤ (G_58.1 66 59).toInt ∧ (G_58.1 66 59).toInt ≤ 400 := bd_66_59 hB_G_58
          refine ic_0 hx hb dX12_chance_73 ?_
          refine lv_istore (lv' := [(9, .int 0), (8, .int x_23), (6, .long x_24), (4, .long x_25), (0, .ref (a 66)), (1, .int p0), (2, .int p1), (3, .int p2)]) hx hb dX12_chance_74 hl (lt_b rfl) rfl (fun ls hl => ?_)
          refine ic_0 hx hb dX12_chance_76 ?_
          refine lv_istore (lv' := [(10, .int 0), (9, .int 0), (8, .int x_23), (6, .long x_24), (4, .long x_25), (0, .ref (a 66)), (1, .int p0), (2, .int p1), (3, .int p2)]) hx hb dX12_chance_77 hl (lt_b rfl) rfl (fun ls hl => ?_)
          refine lv_aload_n hx hb dX12_chance_79 rfl (lv_at hl 5 rfl) ?_
          refine S_getR (n := 114) (C := RX12) (T := TX12) (N := 89) hx hb hg iX12 hown hK hW kd_66 rfl 82 (lt_b rfl) (hg (Cond.fieldLink RX12 163 "SlabWalkModel" "sightHeel" "[I") m1396) (fun _ h9 => h9) rfl dX12_chance_80 ?_
          refine lv_iload hx hb dX12_chance_83 (lv_at hl 2 rfl) ?_
          refine S_iald hx hb hK hW kd_114 (vin ((by first | exact f_28.1 | omega)) ((by first | exact ok_1155 f_28.2 b_33.2 c_34 | omega))) dX12_chance_85 (fun y_68 ey_68 => ?_)
          have ty_68 : 0 ≤ y_68.toInt ∧ y_68.toInt ≤ 399 := bv_114 hB_G_58 ey_68
          have u_69 : y_68.toInt = (G.1 114 x_23.toNatClampNeg).toInt := congrArg Int32.toInt (ey_68.trans (((hq_59.ri9 114 rfl x_23.toNatClampNeg).trans ((hq_45.ri9 114 rfl x_23.toNatClampNeg).trans ((hq_20.ri9 114 rfl x_23.toNatClampNeg).trans ((hq_12.ri9 114 rfl x_23.toNatClampNeg).trans (hq_3.ri9 114 rfl x_23.toNatClampNeg)))))))
          refine ic_3 hx hb dX12_chance_86 ?_
          refine lv_isub hx hb dX12_chance_87 ?_
          refine lv_topi (fun y_70 ey_70 => ?_)
          have ty_70 : y_70.toInt = y_68.toInt - 3 := xI_sub rfl rfl ey_70 ((by first | exact ok_1264 ty_68.1 | omega)) ((by first | exact ok_1265 ty_68.2 | omega))
          refine lv_istore (lv' := [(11, .int y_70), (10, .int 0), (9, .int 0), (8, .int x_23), (6, .long x_24), (4, .long x_25), (0, .ref (a 66)), (1, .int p0), (2, .int p1), (3, .int p2)]) hx hb dX12_chance_88 hl (lt_b rfl) rfl (fun ls hl => ?_)
          have qc_79 : (0 : Int32).toInt = 0 := rfl
          refine loop_N (Inv := fun n H locs ls => ∃ (G_71 : GS) (x_75 : Int32) (x_76 : Int32) (x_77 : Int32), (n : Int) = 403 - x_75.toInt ∧ ((-3) ≤ x_75.toInt ∧ x_75.toInt ≤ 403) ∧ (0 ≤ x_76.toInt ∧ x_76.toInt ≤ 7) ∧ (0 ≤ x_77.toInt ∧ x_77.toInt ≤ 7) ∧ (x_77.toInt ≤ x_76.toInt) ∧ (x_76.toInt ≤ x_75.toInt - (G.1 114 x_23.toNatClampNeg).toInt + 3) ∧ ((G.1 114 x_23.toNatClampNeg).toInt - 3 ≤ x_75.toInt) ∧ (x_75.toInt ≤ (G.1 114 x_23.toNatClampNeg).toInt + 4) ∧ (x_75.toInt ≤ (G.1 114 x_23.toNatClampNeg).toInt ∨ 1 ≤ x_76.toInt) ∧ Rc (St_n_chance_2 x_23 G) (y_70, 0, 0, G_58) (x_75, x_76, x_77, G_71) ∧ Wd D k A a G_71 H ∧ Bd G_71 ∧ Fr [76, 97, 98] [(66, 59), (66, 60), (66, 61), (66, 62), (66, 63)] G G_71 ∧ Fr [] [] G_58 G_71 ∧ va_S A s.heap H locs ∧ lv_has ls 12 [(11, .int x_75), (10, .int x_76), (9, .int x_77), (8, .int x_23), (6, .long x_24), (4, .long x_25), (0, .ref (a 66)), (1, .int p0), (2, .int p1), (3, .int p2)]) (fun n_74 H locs ls ih_73 hI => ?_) (403 - y_70.toInt : Int).toNat ⟨G_58, y_70, 0, 0, (Int.toNat_of_nonneg ((by first | exact ok_1266 ty_68.2 ty_70 | omega))), ⟨(by first | exact ok_1267 ty_68.1 ty_70 | omega), (by first | exact ok_1268 ty_68.2 ty_70 | omega)⟩, ⟨(by decide), (by decide)⟩, ⟨(by decide), (by decide)⟩, ((by decide)), ((by first | exact ok_1269 u_69 ty_70 | omega)), ((by first | exact ok_1270 u_69 ty_70 | omega)), ((by first | exact ok_1271 u_69 ty_70 | omega)), ((by first | exact ok_1272 u_69 ty_70 | omega)), Rc.rf, hW, hB_G_58, hF, Fr.rf, hS, lv_sub hl [0, 1, 2, 3, 4, 5, 6, 7, 8, 9] rfl⟩
          obtain ⟨G_71, x_75, x_76, x_77, hn_88, f_80, f_81, f_82, f_83, f_84, f_85, f_86, f_87, hX_78, hW, hB_G_71, hF, hq_72, hS, hl⟩ := hI
          refine lv_iload hx hb dX12_chance_90 (lv_at hl 0 rfl) ?_
          refine lv_aload_n hx hb dX12_chance_92 rfl (lv_at hl 6 rfl) ?_
          refine S_getR (n := 114) (C := RX12) (T := TX12) (N := 89) hx hb hg iX12 hown hK hW kd_66 rfl 82 (lt_b rfl) (hg (Cond.fieldLink RX12 163 "SlabWalkModel" "sightHeel" "[I") m1396) (fun _ h9 => h9) rfl dX12_chance_93 ?_
          refine lv_iload hx hb dX12_chance_96 (lv_at hl 3 rfl) ?_
          refine S_iald hx hb hK hW kd_114 (vin ((by first | exact f_28.1 | omega)) ((by first | exact ok_1155 f_28.2 b_33.2 c_34 | omega))) dX12_chance_98 (fun y_89 ey_89 => ?_)
          have ty_89 : 0 ≤ y_89.toInt ∧ y_89.toInt ≤ 399 := bv_114 hB_G_71 ey_89
          have u_90 : y_89.toInt = y_68.toInt := congrArg Int32.toInt (ey_89.trans (((hq_72.ri9 114 rfl x_23.toNatClampNeg).trans (ey_68.symm))))
          refine ic_3 hx hb dX12_chance_99 ?_
          refine lv_iadd hx hb dX12_chance_100 ?_
          refine lv_topi (fun y_91 ey_91 => ?_)
          have ty_91 : y_91.toInt = y_89.toInt + 3 := xI_add rfl rfl ey_91 ((by first | exact ok_1273 ty_89.1 | omega)) ((by first | exact ok_269 ty_89.2 | omega))
          refine lv_icmp_gt (tgt := 140) hx hb dX12_chance_101 rfl (fun c_92 => ?_) (fun c_92 => ?_)
          · have c_92 : y_91.toInt < x_75.toInt := xI_lt rfl rfl c_92
            refine lv_lload hx hb dX12_chance_140 (lv_at hl 5 rfl) ?_
            refine lv_iload hx hb dX12_chance_142 (lv_at hl 2 rfl) ?_
            refine lv_i2l hx hb dX12_chance_144 rfl ?_
            refine lv_topl (fun y_93 ey_93 => ?_)
            refine lv_lmul hx hb dX12_chance_145 ?_
            refine lv_topl (fun y_94 ey_94 => ?_)
            have u_95 := l_mulB (x := x_25) (y := x_77) (P := p7I x_23.toInt) ey_93 ey_94 (by first | (clear hP9 hS9 f_6 hp_4 c_7 f_15 d_1 d_2 c_16 hn_31 f_48 c_49 ty_54 g_56 hn_88; omega) | omega) (by first | (clear hP9 hS9 f_6 hp_4 c_7 f_15 d_1 d_2 c_16 hn_31 f_48 c_49 ty_54 g_56 hn_88; omega) | omega) (by first | (clear hP9 hS9 f_6 hp_4 c_7 f_15 d_1 d_2 c_16 hn_31 f_48 c_49 ty_54 g_56 hn_88; omega) | omega) (by first | (clear hP9 hS9 f_6 hp_4 c_7 f_15 d_1 d_2 c_16 hn_31 f_48 c_49 ty_54 g_56 hn_88; omega) | omega) (by first | (clear hP9 hS9 f_6 hp_4 c_7 f_15 d_1 d_2 c_16 hn_31 f_48 c_49 ty_54 g_56 hn_88; omega) | omega)
            refine lv_lstore (lv' := [(4, .long y_94), (11, .int x_75), (10, .int x_76), (9, .int x_77), (8, .int x_23), (6, .long x_24), (0, .ref (a 66)), (1, .int p0), (2, .int p1), (3, .int p2)]) hx hb dX12_chance_146 hl (lt_b rfl) rfl (fun ls hl => ?_)
            refine lv_lload hx hb dX12_chance_148 (lv_at hl 5 rfl) ?_
            refine lv_iload hx hb dX12_chance_150 (lv_at hl 2 rfl) ?_
            refine lv_i2l hx hb dX12_chance_152 rfl ?_
            refine lv_topl (fun y_96 ey_96 => ?_)
            refine lv_lmul hx hb dX12_chance_153 ?_
            refine lv_topl (fun y_97 ey_97 => ?_)
            have u_98 := l_mulB (x := x_24) (y := x_76) (P := p7I x_23.toInt) ey_96 ey_97 (by first | (clear hP9 hS9 f_6 hp_4 c_7 f_15 d_1 d_2 c_16 hn_31 f_48 c_49 ty_54 g_56 hn_88; omega) | omega) (by first | (clear hP9 hS9 f_6 hp_4 c_7 f_15 d_1 d_2 c_16 hn_31 f_48 c_49 ty_54 g_56 hn_88; omega) | omega) (by first | (clear hP9 hS9 f_6 hp_4 c_7 f_15 d_1 d_2 c_16 hn_31 f_48 c_49 ty_54 g_56 hn_88; omega) | omega) (by first | (clear hP9 hS9 f_6 hp_4 c_7 f_15 d_1 d_2 c_16 hn_31 f_48 c_49 ty_54 g_56 hn_88; omega) | omega) (by first | (clear hP9 hS9 f_6 hp_4 c_7 f_15 d_1 d_2 c_16 hn_31 f_48 c_49 ty_54 g_56 hn_88; omega) | omega)
            refine lv_lstore (lv' := [(6, .long y_97), (4, .long y_94), (11, .int x_75), (10, .int x_76), (9, .int x_77), (8, .int x_23), (0, .ref (a 66)), (1, .int p0), (2, .int p1), (3, .int p2)]) hx hb dX12_chance_154 hl (lt_b rfl) rfl (fun ls hl => ?_)
            obtain ⟨y_99, ey_99⟩ : ∃ q, q = x_23 + 1 := ⟨_, rfl⟩
            have ty_99 : y_99.toInt = x_23.toInt + 1 := xI_add rfl rfl ey_99 ((by first | exact ok_21 f_28.1 | omega)) ((by first | exact ok_196 f_28.2 | omega))
            refine lv_iinc (v := y_99) (lv' := [(8, .int y_99), (6, .long y_97), (4, .long y_94), (11, .int x_75), (10, .int x_76), (9, .int x_77), (0, .ref (a 66)), (1, .int p0), (2, .int p1), (3, .int p2)]) hx hb dX12_chance_156 hl (k := 5) rfl (by rw [ey_99]; rfl) (lt_b rfl) rfl (fun ls hl => ?_)
            have u_100 : p7I y_99.toInt = p7I (x_23.toInt + 1) := by rw [ty_99]
            refine lv_goto (tgt := 30) hx hb dX12_chance_159 rfl ?_
            exact ih_21 (20 - y_99.toInt : Int).toNat ((by first | (clear hP9 hS9 f_6 hp_4 c_7 f_15 d_1 d_2 c_16 f_48 c_49 ty_54 g_56; omega) | omega)) _ _ _ ⟨G_71, y_99, y_97, y_94, (Int.toNat_of_nonneg ((by first | exact ok_473 f_28.2 b_33.2 c_34 ty_99 | omega))), ⟨(by first | exact ok_23 f_28.1 ty_99 | omega), (by first | exact ok_474 f_28.2 b_33.2 c_34 ty_99 | omega)⟩, ((by first | exact ⟨((by first | (clear hP9 hS9 f_6 hp_4 c_7 f_15 d_1 d_2 c_16 hn_31 b_33 f_48 c_49 ty_54 g_56 hn_88 f_80 f_81; omega) | omega)), ((by first | (clear hP9 hS9 f_6 hp_4 c_7 f_15 d_1 d_2 c_16 hn_31 f_48 c_49 ty_54 g_56 hn_88; omega) | omega))⟩ | omega)), ((by first | exact ⟨((by first | (clear hP9 hS9 f_6 hp_4 c_7 f_15 d_1 d_2 c_16 hn_31 b_33 f_48 c_49 ty_54 g_56 hn_88 f_80 f_82; omega) | omega)), ((by first | (clear hP9 hS9 f_6 hp_4 c_7 f_15 d_1 d_2 c_16 hn_31 f_48 c_49 ty_54 g_56 hn_88; omega) | omega))⟩ | omega)), (hX_26.st (St_n_chance_1_mk ⟨x_23, x_24, x_25, G_19, y_99, y_97, y_94, G_71, rfl, rfl, f_28, f_29, f_30, hB_G_19, ⟨c_34, ⟨r_43, G_44, hX_47, (Or.inr ⟨c_49, ⟨y_50, ey_50, ⟨y_52, ey_52, ⟨y_54, ey_54, ⟨G_58, hX_61, ⟨y_68, ey_68, ⟨y_70, ty_70, ⟨x_75, x_76, x_77, G_71, hX_78, f_80, f_81, f_82, f_83, f_84, f_85, f_86, f_87, hB_G_71, hq_72, ⟨y_89, ey_89, ⟨y_91, ty_91, ⟨c_92, ⟨y_93, ey_93, ⟨y_94, ey_94, ⟨y_96, ey_96, ⟨y_97, ey_97, ⟨y_99, ty_99, ⟨rfl, rfl, rfl, rfl⟩⟩⟩⟩⟩⟩⟩⟩⟩⟩⟩⟩⟩⟩⟩⟩⟩)⟩⟩⟩)), hW, hB_G_71, hF, (Fr.call9 (rs := [76, 97, 98]) (fs := [(66, 59), (66, 60), (66, 61), (66, 62), (66, 63)]) (Fr.call9 (rs := [76, 97, 98]) (fs := [(66, 59), (66, 60), (66, 61), (66, 62), (66, 63)]) (Fr.call9 (rs := [76, 97, 98]) (fs := [(66, 59), (66, 60), (66, 61), (66, 62), (66, 63)]) (Fr.call9 (rs := [76, 97, 98]) (fs := [(66, 59), (66, 60), (66, 61), (66, 62), (66, 63)]) Fr.rf hq_20 rfl rfl) hq_45 rfl rfl) hq_59 rfl rfl) hq_72 rfl rfl), hS, lv_sub hl [0, 1, 2, 6, 7, 8, 9] rfl⟩
          · have c_92 : x_75.toInt ≤ y_91.toInt := xI_nlt rfl rfl c_92
            refine lv_aload_n hx hb dX12_chance_104 rfl (lv_at hl 6 rfl) ?_
            refine lv_iload hx hb dX12_chance_105 (lv_at hl 0 rfl) ?_
            have g_101 : (G_71.1 66 59).toInt = (G_58.1 66 59).toInt := (congrArg Int32.toInt (show G_71.1 66 59 = (G_58.1 66 59) from ((hq_72.i9 66 59 rfl rfl).trans (rfl))))
            have g_102 : (G_71.1 66 60).toInt = (G_58.1 66 60).toInt := (congrArg Int32.toInt (show G_71.1 66 60 = (G_58.1 66 60) from ((hq_72.i9 66 60 rfl rfl).trans (rfl))))
            refine S_calli (va_runV (As := [.int x_75]) (rest := []) ⟨hx, hb, hml, hown, hts⟩ (n_stands1 l D k A a z G_71 x_75 ) (cwV 1 hts (gd_V hgd m1838 m1840 m92 m131 m1841) rfl rfl rfl hd_X12_doesStand ⟨Nat.le_of_ble_eq_true rfl, Nat.le_of_ble_eq_true rfl⟩) (pre_W hW hB_G_71 hK hZ hS kd_66 rfl) rfl rfl hl.1 rfl (lv_room (Nat.le_of_ble_eq_true rfl)) dX12_chance_107 ⟨Nat.le_of_ble_eq_true rfl, Nat.le_of_ble_eq_true rfl⟩) hS (fun r_103 G_104 H locs hpo hW hS => ?_)
            have hX_107 : Q_stands1 x_75 G_71 r_103 G_104 := hpo
            obtain ⟨hB_G_104, hq_105, f_108, ⟨d_9, d_10⟩, -⟩ := hpo
            have hF := hF.call9 hq_105 rfl rfl
            refine lv_if_ne (tgt := 116) hx hb dX12_chance_110 rfl (fun c_109 => ?_) (fun c_109 => ?_)
            · have c_109 : r_103.toInt ≠ 0 := xI_ne rfl rfl c_109
              obtain ⟨y_110, ey_110⟩ : ∃ q, q = x_76 + 1 := ⟨_, rfl⟩
              have ty_110 : y_110.toInt = x_76.toInt + 1 := xI_add rfl rfl ey_110 ((by first | exact ok_21 f_81.1 | omega)) ((by first | exact ok_381 f_81.2 | omega))
              refine lv_iinc (v := y_110) (lv' := [(10, .int y_110), (11, .int x_75), (9, .int x_77), (8, .int x_23), (6, .long x_24), (4, .long x_25), (0, .ref (a 66)), (1, .int p0), (2, .int p1), (3, .int p2)]) hx hb dX12_chance_116 hl (k := 1) rfl (by rw [ey_110]; rfl) (lt_b rfl) rfl (fun ls hl => ?_)
              refine lv_iload hx hb dX12_chance_119 (lv_at hl 2 rfl) ?_
              refine lv_aload_n hx hb dX12_chance_121 rfl (lv_at hl 6 rfl) ?_
              refine S_getR (n := 98) (C := RX12) (T := TX12) (N := 89) hx hb hg iX12 hown hK hW kd_66 rfl 58 (lt_b rfl) (hg (Cond.fieldLink RX12 115 "SlabWalkModel" "lawful" "[Z") m1372) (fun _ h9 => h9) rfl dX12_chance_122 ?_
              refine lv_iload hx hb dX12_chance_125 (lv_at hl 1 rfl) ?_
              refine S_zald hx hb hK hW kd_98 (vin ((by first | exact ok_1152 f_108.1 f_108.2 d_9 c_109 | omega)) ((by first | exact ok_1274 f_80.2 | omega))) dX12_chance_127 (fun y_111 ey_111 => ?_)
              have ty_111 := hB_G_104.law ey_111
              have u_112 : y_111.toInt = (G_58.1 98 x_75.toNatClampNeg).toInt := congrArg Int32.toInt (ey_111.trans (((hq_105.ri9 98 rfl x_75.toNatClampNeg).trans (hq_72.ri9 98 rfl x_75.toNatClampNeg))))
              refine S_calli (va_runS (As := [.int y_111]) (rest := [.int x_77]) ⟨hx, hb, hml, hown, hts⟩ (n_truth l D k A a z G_104 y_111 ⟨(by first | (clear hP9 hS9 f_6 hp_4 c_7 f_15 d_1 d_2 c_16 hn_31 b_33 f_48 c_49 ty_54 g_56 hn_88 f_82; omega) | omega), (by first | (clear hP9 hS9 f_6 hp_4 c_7 f_15 d_1 d_2 c_16 hn_31 b_33 f_48 c_49 ty_54 g_56 hn_88 f_82; omega) | omega)⟩) (va_cwS 1 hts (gd_S hgd m1788 m1789 m131 m1790) rfl rfl rfl hd_X12_truth.2 ⟨Nat.le_of_ble_eq_true rfl, Nat.le_of_ble_eq_true rfl⟩) (pre_S hW hB_G_104 hK hZ hS) rfl rfl hl.1 rfl (lv_room (Nat.le_of_ble_eq_true rfl)) dX12_chance_128 ⟨Nat.le_of_ble_eq_true rfl, Nat.le_of_ble_eq_true rfl⟩) hS (fun r_113 G_114 H locs hpo hW hS => ?_)
              have hX_117 : Q_truth y_111 G_104 r_113 G_114 := hpo
              obtain ⟨hB_G_114, hq_115, f_118, hp_116, -⟩ := hpo
              have hF := hF.call9 hq_115 rfl rfl
              refine lv_iadd hx hb dX12_chance_131 ?_
              refine lv_topi (fun y_119 ey_119 => ?_)
              have ty_119 : y_119.toInt = x_77.toInt + r_113.toInt := xI_add rfl rfl ey_119 ((by first | exact ok_15 f_82.1 f_118.1 | omega)) ((by first | exact ok_1275 f_82.2 f_118.2 | omega))
              refine lv_istore (lv' := [(9, .int y_119), (10, .int y_110), (11, .int x_75), (8, .int x_23), (6, .long x_24), (4, .long x_25), (0, .ref (a 66)), (1, .int p0), (2, .int p1), (3, .int p2)]) hx hb dX12_chance_132 hl (lt_b rfl) rfl (fun ls hl => ?_)
              obtain ⟨y_120, ey_120⟩ : ∃ q, q = x_75 + 1 := ⟨_, rfl⟩
              have ty_120 : y_120.toInt = x_75.toInt + 1 := xI_add rfl rfl ey_120 ((by first | exact ok_475 f_80.1 | omega)) ((by first | exact ok_285 f_80.2 | omega))
              refine lv_iinc (v := y_120) (lv' := [(11, .int y_120), (9, .int y_119), (10, .int y_110), (8, .int x_23), (6, .long x_24), (4, .long x_25), (0, .ref (a 66)), (1, .int p0), (2, .int p1), (3, .int p2)]) hx hb dX12_chance_134 hl (k := 2) rfl (by rw [ey_120]; rfl) (lt_b rfl) rfl (fun ls hl => ?_)
              refine lv_goto (tgt := 90) hx hb dX12_chance_137 rfl ?_
              exact ih_73 (403 - y_120.toInt : Int).toNat ((by first | (clear hP9 hS9 f_6 hp_4 c_7 f_15 d_1 d_2 c_16 b_33 f_48 c_49 ty_54 g_56; omega) | omega)) _ _ _ ⟨G_114, y_120, y_110, y_119, (Int.toNat_of_nonneg ((by first | exact ok_1276 f_80.2 ty_89.2 ty_91 c_92 ty_120 | omega))), ⟨(by first | exact ok_477 f_80.1 ty_120 | omega), (by first | exact ok_1277 f_80.2 ty_89.2 ty_91 c_92 ty_120 | omega)⟩, ⟨(by first | exact ok_23 f_81.1 ty_110 | omega), (by first | exact ok_1278 u_69 f_81.2 f_84 u_90 ty_91 c_92 ty_110 | omega)⟩, ⟨(by first | exact ok_105 f_82.1 f_118.1 ty_119 | omega), (by first | exact ok_1279 u_69 f_82.2 f_83 f_84 u_90 ty_91 c_92 f_118.2 ty_119 | omega)⟩, ((by first | exact ok_1280 f_83 ty_110 f_118.2 ty_119 | omega)), ((by first | exact ok_1281 f_84 ty_110 ty_120 | omega)), ((by first | exact ok_1282 f_85 ty_120 | omega)), ((by first | exact ok_1283 u_69 f_86 u_90 ty_91 c_92 ty_120 | omega)), ((by first | exact ok_1284 f_81.1 ty_110 | omega)), (hX_78.st (St_n_chance_2_mk ⟨x_75, x_76, x_77, G_71, y_120, y_110, y_119, G_114, rfl, rfl, f_80, f_81, f_82, f_83, f_84, f_85, f_86, f_87, hB_G_71, ⟨y_89, ey_89, ⟨y_91, ty_91, ⟨c_92, ⟨r_103, G_104, hX_107, (Or.inr ⟨c_109, ⟨y_110, ty_110, ⟨y_111, ey_111, ⟨r_113, G_114, hX_117, ⟨y_119, ty_119, ⟨y_120, ty_120, ⟨rfl, rfl, rfl, rfl⟩⟩⟩⟩⟩⟩⟩)⟩⟩⟩⟩⟩)), hW, hB_G_114, hF, (Fr.call9 (rs := []) (fs := []) (Fr.call9 (rs := []) (fs := []) (Fr.call9 (rs := []) (fs := []) Fr.rf hq_72 rfl rfl) hq_105 rfl rfl) hq_115 rfl rfl), hS, lv_sub hl [0, 2, 1, 3, 4, 5, 6, 7, 8, 9] rfl⟩
            · have c_109 : r_103.toInt = 0 := xI_eq rfl rfl c_109
              refine lv_goto (tgt := 134) hx hb dX12_chance_113 rfl ?_
              obtain ⟨y_121, ey_121⟩ : ∃ q, q = x_75 + 1 := ⟨_, rfl⟩
              have ty_121 : y_121.toInt = x_75.toInt + 1 := xI_add rfl rfl ey_121 ((by first | exact ok_475 f_80.1 | omega)) ((by first | exact ok_285 f_80.2 | omega))
              refine lv_iinc (v := y_121) (lv' := [(11, .int y_121), (10, .int x_76), (9, .int x_77), (8, .int x_23), (6, .long x_24), (4, .long x_25), (0, .ref (a 66)), (1, .int p0), (2, .int p1), (3, .int p2)]) hx hb dX12_chance_134 hl (k := 0) rfl (by rw [ey_121]; rfl) (lt_b rfl) rfl (fun ls hl => ?_)
              refine lv_goto (tgt := 90) hx hb dX12_chance_137 rfl ?_
              exact ih_73 (403 - y_121.toInt : Int).toNat ((by first | (clear hP9 hS9 f_6 hp_4 c_7 f_15 d_1 d_2 c_16 b_33 f_48 c_49 ty_54 g_56 f_82; omega) | omega)) _ _ _ ⟨G_104, y_121, x_76, x_77, (Int.toNat_of_nonneg ((by first | exact ok_1276 f_80.2 ty_89.2 ty_91 c_92 ty_121 | omega))), ⟨(by first | exact ok_477 f_80.1 ty_121 | omega), (by first | exact ok_1277 f_80.2 ty_89.2 ty_91 c_92 ty_121 | omega)⟩, ⟨(by first | exact f_81.1 | omega), (by first | exact f_81.2 | omega)⟩, ⟨(by first | exact f_82.1 | omega), (by first | exact f_82.2 | omega)⟩, ((by first | exact f_83 | omega)), ((by first | exact ok_1285 f_84 ty_121 | omega)), ((by first | exact ok_1282 f_85 ty_121 | omega)), ((by first | exact ok_1283 u_69 f_86 u_90 ty_91 c_92 ty_121 | omega)), ((by first | (clear hP9 hS9 f_6 hp_4 c_7 f_15 d_1 d_2 c_16 hn_31 f_48 c_49 ty_54 g_56 hn_88; omega) | omega)), (hX_78.st (St_n_chance_2_mk ⟨x_75, x_76, x_77, G_71, y_121, x_76, x_77, G_104, rfl, rfl, f_80, f_81, f_82, f_83, f_84, f_85, f_86, f_87, hB_G_71, ⟨y_89, ey_89, ⟨y_91, ty_91, ⟨c_92, ⟨r_103, G_104, hX_107, (Or.inl ⟨c_109, ⟨y_121, ty_121, ⟨rfl, rfl, rfl, rfl⟩⟩⟩)⟩⟩⟩⟩⟩)), hW, hB_G_104, hF, (Fr.call9 (rs := []) (fs := []) (Fr.call9 (rs := []) (fs := []) Fr.rf hq_72 rfl rfl) hq_105 rfl rfl), hS, lv_sub hl [0, 1, 2, 3, 4, 5, 6, 7, 8, 9] rfl⟩
        · have c_49 : r_43.toInt = 0 := xI_eq rfl rfl c_49
          refine lv_goto (tgt := 156) hx hb dX12_chance_49 rfl ?_
          obtain ⟨y_122, ey_122⟩ : ∃ q, q = x_23 + 1 := ⟨_, rfl⟩
          have ty_122 : y_122.toInt = x_23.toInt + 1 := xI_add rfl rfl ey_122 ((by first | exact ok_21 f_28.1 | omega)) ((by first | exact ok_196 f_28.2 | omega))
          refine lv_iinc (v := y_122) (lv' := [(8, .int y_122), (6, .long x_24), (4, .long x_25), (0, .ref (a 66)), (1, .int p0), (2, .int p1), (3, .int p2)]) hx hb dX12_chance_156 hl (k := 0) rfl (by rw [ey_122]; rfl) (lt_b rfl) rfl (fun ls hl => ?_)
          have u_123 : p7I y_122.toInt = p7I (x_23.toInt + 1) := by rw [ty_122]
          refine lv_goto (tgt := 30) hx hb dX12_chance_159 rfl ?_
          exact ih_21 (20 - y_122.toInt : Int).toNat ((by first | (clear hP9 hS9 f_6 hp_4 c_7 f_15 d_1 d_2 c_16 f_48 c_49; omega) | omega)) _ _ _ ⟨G_44, y_122, x_24, x_25, (Int.toNat_of_nonneg ((by first | exact ok_473 f_28.2 b_33.2 c_34 ty_122 | omega))), ⟨(by first | exact ok_23 f_28.1 ty_122 | omega), (by first | exact ok_474 f_28.2 b_33.2 c_34 ty_122 | omega)⟩, ((by first | exact ⟨(by first | exact f_29.1 | omega), ((by first | (clear hP9 hS9 f_6 hp_4 c_7 f_15 d_1 d_2 c_16 hn_31 f_48 c_49; omega) | omega))⟩ | omega)), ((by first | exact ⟨(by first | exact f_30.1 | omega), ((by first | (clear hP9 hS9 f_6 hp_4 c_7 f_15 d_1 d_2 c_16 hn_31 f_48 c_49; omega) | omega))⟩ | omega)), (hX_26.st (St_n_chance_1_mk ⟨x_23, x_24, x_25, G_19, y_122, x_24, x_25, G_44, rfl, rfl, f_28, f_29, f_30, hB_G_19, ⟨c_34, ⟨r_43, G_44, hX_47, (Or.inl ⟨c_49, ⟨y_122, ty_122, ⟨rfl, rfl, rfl, rfl⟩⟩⟩)⟩⟩⟩)), hW, hB_G_44, hF, (Fr.call9 (rs := [76, 97, 98]) (fs := [(66, 59), (66, 60), (66, 61), (66, 62), (66, 63)]) (Fr.call9 (rs := [76, 97, 98]) (fs := [(66, 59), (66, 60), (66, 61), (66, 62), (66, 63)]) Fr.rf hq_20 rfl rfl) hq_45 rfl rfl), hS, lv_sub hl [0, 1, 2, 3, 4, 5, 6] rfl⟩
    · have c_16 : r_10.toInt = 0 := xI_eq rfl rfl c_16
      refine lv_ldc2 (v := (-1)) hx hb hown (hg (Cond.constantLong RX12 517 (-1)) m1874) dX12_chance_17 ?_
      exact W.lret (v := (-1)) hx hb hr (fun t ht _ => ⟨⟨(-1), G_11, rfl, (Q_chance_mk ⟨hB_G_11, hF, ⟨r_1, G_2, hX_5, (Or.inr ⟨c_7, ⟨r_10, G_11, hX_14, (Or.inl ⟨c_16, ⟨rfl, rfl⟩⟩)⟩⟩)⟩⟩), wd_t ht hW⟩, hS.F ht⟩) hS.2.2 dX12_chance_20
