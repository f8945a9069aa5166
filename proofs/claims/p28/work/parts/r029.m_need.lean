theorem m96 : Cond.selects RX12 yX12_needOf yX12_needOf ∈ gd := gds_7 0 rfl
theorem m1859 : Cond.methodLink RX12 503 yX12_needOf ∈ gd := gdc_8_3 15 rfl gw_methodLink
theorem m1861 : Cond.instanceMethod yX12_needOf ∈ gd := gdc_8_4 1 rfl gw_instanceMethod
theorem m1862 : Cond.code yX12_needOf cX12_needOf 4 (some .int) ∈ gd := gdc_8_4 2 rfl gw_code
noncomputable def rbX12_layNeed_0 : List (Nat × List Nat) := [(0, [6]), (1, [5]), (2, [27]), (3, [104]), (4, [28]), (5, [96]), (6, [104]), (7, [62]), (8, [42]), (9, [180, 0, 118]), (12, [29]), (13, [4]), (14, [96]), (15, [42]), (16, [180, 0, 115]), (19, [27]), (20, [51]), (21, [153, 0, 15]), (24, [42]), (25, [27]), (26, [182, 1, 243]), (29, [153, 0, 7]), (32, [4]), (33, [167, 0, 6])]
theorem rcX12_layNeed_0 : dgo (lb cX12_layNeed) 0 rbX12_layNeed_0 = true := by decide +kernel
theorem dX12_layNeed_0 : decode cX12_layNeed 0 = .ok (.iconst 3, 1) := dk_6 (dw rcX12_layNeed_0 0 rfl)
theorem dX12_layNeed_1 : decode cX12_layNeed 1 = .ok (.iconst 2, 1) := dk_5 (dw rcX12_layNeed_0 1 rfl)
theorem dX12_layNeed_2 : decode cX12_layNeed 2 = .ok (.iload_n 1, 1) := dk_27 (dw rcX12_layNeed_0 2 rfl)
theorem dX12_layNeed_3 : decode cX12_layNeed 3 = .ok (.imul, 1) := dk_104 (dw rcX12_layNeed_0 3 rfl)
theorem dX12_layNeed_4 : decode cX12_layNeed 4 = .ok (.iload_n 2, 1) := dk_28 (dw rcX12_layNeed_0 4 rfl)
theorem dX12_layNeed_5 : decode cX12_layNeed 5 = .ok (.iadd, 1) := dk_96 (dw rcX12_layNeed_0 5 rfl)
theorem dX12_layNeed_6 : decode cX12_layNeed 6 = .ok (.imul, 1) := dk_104 (dw rcX12_layNeed_0 6 rfl)
theorem dX12_layNeed_7 : decode cX12_layNeed 7 = .ok (.istore_n 3, 1) := dk_62 (dw rcX12_layNeed_0 7 rfl)
theorem dX12_layNeed_8 : decode cX12_layNeed 8 = .ok (.aload_n 0, 1) := dk_42 (dw rcX12_layNeed_0 8 rfl)
theorem dX12_layNeed_9 : decode cX12_layNeed 9 = .ok (.getfield 118, 3) := dk_180 (dw rcX12_layNeed_0 9 rfl) rfl
theorem dX12_layNeed_12 : decode cX12_layNeed 12 = .ok (.iload_n 3, 1) := dk_29 (dw rcX12_layNeed_0 10 rfl)
theorem dX12_layNeed_13 : decode cX12_layNeed 13 = .ok (.iconst 1, 1) := dk_4 (dw rcX12_layNeed_0 11 rfl)
theorem dX12_layNeed_14 : decode cX12_layNeed 14 = .ok (.iadd, 1) := dk_96 (dw rcX12_layNeed_0 12 rfl)
theorem dX12_layNeed_15 : decode cX12_layNeed 15 = .ok (.aload_n 0, 1) := dk_42 (dw rcX12_layNeed_0 13 rfl)
theorem dX12_layNeed_16 : decode cX12_layNeed 16 = .ok (.getfield 115, 3) := dk_180 (dw rcX12_layNeed_0 14 rfl) rfl
theorem dX12_layNeed_19 : decode cX12_layNeed 19 = .ok (.iload_n 1, 1) := dk_27 (dw rcX12_layNeed_0 15 rfl)
theorem dX12_layNeed_20 : decode cX12_layNeed 20 = .ok (.baload, 1) := dk_51 (dw rcX12_layNeed_0 16 rfl)
theorem dX12_layNeed_21 : decode cX12_layNeed 21 = .ok (.ifCond .eq 15, 3) := dk_153 (dw rcX12_layNeed_0 17 rfl) rfl
theorem dX12_layNeed_24 : decode cX12_layNeed 24 = .ok (.aload_n 0, 1) := dk_42 (dw rcX12_layNeed_0 18 rfl)
theorem dX12_layNeed_25 : decode cX12_layNeed 25 = .ok (.iload_n 1, 1) := dk_27 (dw rcX12_layNeed_0 19 rfl)
theorem dX12_layNeed_26 : decode cX12_layNeed 26 = .ok (.invokevirtual 499, 3) := dk_182 (dw rcX12_layNeed_0 20 rfl) rfl
theorem dX12_layNeed_29 : decode cX12_layNeed 29 = .ok (.ifCond .eq 7, 3) := dk_153 (dw rcX12_layNeed_0 21 rfl) rfl
theorem dX12_layNeed_32 : decode cX12_layNeed 32 = .ok (.iconst 1, 1) := dk_4 (dw rcX12_layNeed_0 22 rfl)
theorem dX12_layNeed_33 : decode cX12_layNeed 33 = .ok (.goto 6, 3) := dk_167 (dw rcX12_layNeed_0 23 rfl) rfl
noncomputable def rbX12_layNeed_36 : List (Nat × List Nat) := [(36, [19, 1, 246]), (39, [79]), (40, [42]), (41, [180, 0, 118]), (44, [29]), (45, [5]), (46, [96]), (47, [19, 1, 246]), (50, [79]), (51, [42]), (52, [180, 0, 115]), (55, [27]), (56, [51]), (57, [153, 0, 142]), (60, [42]), (61, [27]), (62, [182, 1, 243]), (65, [154, 0, 134]), (68, [42]), (69, [180, 1, 219]), (72, [54, 4]), (74, [21, 4]), (76, [28]), (77, [4])]
theorem rcX12_layNeed_36 : dgo (lb cX12_layNeed) 0 rbX12_layNeed_36 = true := by decide +kernel
theorem dX12_layNeed_36 : decode cX12_layNeed 36 = .ok (.ldc_w 502, 3) := dk_19 (dw rcX12_layNeed_36 0 rfl) rfl
theorem dX12_layNeed_39 : decode cX12_layNeed 39 = .ok (.iastore, 1) := dk_79 (dw rcX12_layNeed_36 1 rfl)
theorem dX12_layNeed_40 : decode cX12_layNeed 40 = .ok (.aload_n 0, 1) := dk_42 (dw rcX12_layNeed_36 2 rfl)
theorem dX12_layNeed_41 : decode cX12_layNeed 41 = .ok (.getfield 118, 3) := dk_180 (dw rcX12_layNeed_36 3 rfl) rfl
theorem dX12_layNeed_44 : decode cX12_layNeed 44 = .ok (.iload_n 3, 1) := dk_29 (dw rcX12_layNeed_36 4 rfl)
theorem dX12_layNeed_45 : decode cX12_layNeed 45 = .ok (.iconst 2, 1) := dk_5 (dw rcX12_layNeed_36 5 rfl)
theorem dX12_layNeed_46 : decode cX12_layNeed 46 = .ok (.iadd, 1) := dk_96 (dw rcX12_layNeed_36 6 rfl)
theorem dX12_layNeed_47 : decode cX12_layNeed 47 = .ok (.ldc_w 502, 3) := dk_19 (dw rcX12_layNeed_36 7 rfl) rfl
theorem dX12_layNeed_50 : decode cX12_layNeed 50 = .ok (.iastore, 1) := dk_79 (dw rcX12_layNeed_36 8 rfl)
theorem dX12_layNeed_51 : decode cX12_layNeed 51 = .ok (.aload_n 0, 1) := dk_42 (dw rcX12_layNeed_36 9 rfl)
theorem dX12_layNeed_52 : decode cX12_layNeed 52 = .ok (.getfield 115, 3) := dk_180 (dw rcX12_layNeed_36 10 rfl) rfl
theorem dX12_layNeed_55 : decode cX12_layNeed 55 = .ok (.iload_n 1, 1) := dk_27 (dw rcX12_layNeed_36 11 rfl)
theorem dX12_layNeed_56 : decode cX12_layNeed 56 = .ok (.baload, 1) := dk_51 (dw rcX12_layNeed_36 12 rfl)
theorem dX12_layNeed_57 : decode cX12_layNeed 57 = .ok (.ifCond .eq 142, 3) := dk_153 (dw rcX12_layNeed_36 13 rfl) rfl
theorem dX12_layNeed_60 : decode cX12_layNeed 60 = .ok (.aload_n 0, 1) := dk_42 (dw rcX12_layNeed_36 14 rfl)
theorem dX12_layNeed_61 : decode cX12_layNeed 61 = .ok (.iload_n 1, 1) := dk_27 (dw rcX12_layNeed_36 15 rfl)
theorem dX12_layNeed_62 : decode cX12_layNeed 62 = .ok (.invokevirtual 499, 3) := dk_182 (dw rcX12_layNeed_36 16 rfl) rfl
theorem dX12_layNeed_65 : decode cX12_layNeed 65 = .ok (.ifCond .ne 134, 3) := dk_154 (dw rcX12_layNeed_36 17 rfl) rfl
theorem dX12_layNeed_68 : decode cX12_layNeed 68 = .ok (.aload_n 0, 1) := dk_42 (dw rcX12_layNeed_36 18 rfl)
theorem dX12_layNeed_69 : decode cX12_layNeed 69 = .ok (.getfield 475, 3) := dk_180 (dw rcX12_layNeed_36 19 rfl) rfl
theorem dX12_layNeed_72 : decode cX12_layNeed 72 = .ok (.istore 4, 2) := dk_54 (dw rcX12_layNeed_36 20 rfl)
theorem dX12_layNeed_74 : decode cX12_layNeed 74 = .ok (.iload 4, 2) := dk_21 (dw rcX12_layNeed_36 21 rfl)
theorem dX12_layNeed_76 : decode cX12_layNeed 76 = .ok (.iload_n 2, 1) := dk_28 (dw rcX12_layNeed_36 22 rfl)
theorem dX12_layNeed_77 : decode cX12_layNeed 77 = .ok (.iconst 1, 1) := dk_4 (dw rcX12_layNeed_36 23 rfl)
noncomputable def rbX12_layNeed_78 : List (Nat × List Nat) := [(78, [160, 0, 10]), (81, [42]), (82, [180, 1, 222]), (85, [167, 0, 7]), (88, [42]), (89, [180, 1, 225]), (92, [163, 0, 107]), (95, [42]), (96, [180, 0, 115]), (99, [27]), (100, [21, 4]), (102, [96]), (103, [51]), (104, [154, 0, 6]), (107, [167, 0, 86]), (110, [21, 4]), (112, [42]), (113, [180, 1, 222]), (116, [164, 0, 7]), (119, [4]), (120, [167, 0, 4]), (123, [3]), (124, [184, 1, 92]), (127, [54, 5])]
theorem rcX12_layNeed_78 : dgo (lb cX12_layNeed) 0 rbX12_layNeed_78 = true := by decide +kernel
theorem dX12_layNeed_78 : decode cX12_layNeed 78 = .ok (.if_icmp .ne 10, 3) := dk_160 (dw rcX12_layNeed_78 0 rfl) rfl
theorem dX12_layNeed_81 : decode cX12_layNeed 81 = .ok (.aload_n 0, 1) := dk_42 (dw rcX12_layNeed_78 1 rfl)
theorem dX12_layNeed_82 : decode cX12_layNeed 82 = .ok (.getfield 478, 3) := dk_180 (dw rcX12_layNeed_78 2 rfl) rfl
theorem dX12_layNeed_85 : decode cX12_layNeed 85 = .ok (.goto 7, 3) := dk_167 (dw rcX12_layNeed_78 3 rfl) rfl
theorem dX12_layNeed_88 : decode cX12_layNeed 88 = .ok (.aload_n 0, 1) := dk_42 (dw rcX12_layNeed_78 4 rfl)
theorem dX12_layNeed_89 : decode cX12_layNeed 89 = .ok (.getfield 481, 3) := dk_180 (dw rcX12_layNeed_78 5 rfl) rfl
theorem dX12_layNeed_92 : decode cX12_layNeed 92 = .ok (.if_icmp .gt 107, 3) := dk_163 (dw rcX12_layNeed_78 6 rfl) rfl
theorem dX12_layNeed_95 : decode cX12_layNeed 95 = .ok (.aload_n 0, 1) := dk_42 (dw rcX12_layNeed_78 7 rfl)
theorem dX12_layNeed_96 : decode cX12_layNeed 96 = .ok (.getfield 115, 3) := dk_180 (dw rcX12_layNeed_78 8 rfl) rfl
theorem dX12_layNeed_99 : decode cX12_layNeed 99 = .ok (.iload_n 1, 1) := dk_27 (dw rcX12_layNeed_78 9 rfl)
theorem dX12_layNeed_100 : decode cX12_layNeed 100 = .ok (.iload 4, 2) := dk_21 (dw rcX12_layNeed_78 10 rfl)
theorem dX12_layNeed_102 : decode cX12_layNeed 102 = .ok (.iadd, 1) := dk_96 (dw rcX12_layNeed_78 11 rfl)
theorem dX12_layNeed_103 : decode cX12_layNeed 103 = .ok (.baload, 1) := dk_51 (dw rcX12_layNeed_78 12 rfl)
theorem dX12_layNeed_104 : decode cX12_layNeed 104 = .ok (.ifCond .ne 6, 3) := dk_154 (dw rcX12_layNeed_78 13 rfl) rfl
theorem dX12_layNeed_107 : decode cX12_layNeed 107 = .ok (.goto 86, 3) := dk_167 (dw rcX12_layNeed_78 14 rfl) rfl
theorem dX12_layNeed_110 : decode cX12_layNeed 110 = .ok (.iload 4, 2) := dk_21 (dw rcX12_layNeed_78 15 rfl)
theorem dX12_layNeed_112 : decode cX12_layNeed 112 = .ok (.aload_n 0, 1) := dk_42 (dw rcX12_layNeed_78 16 rfl)
theorem dX12_layNeed_113 : decode cX12_layNeed 113 = .ok (.getfield 478, 3) := dk_180 (dw rcX12_layNeed_78 17 rfl) rfl
theorem dX12_layNeed_116 : decode cX12_layNeed 116 = .ok (.if_icmp .le 7, 3) := dk_164 (dw rcX12_layNeed_78 18 rfl) rfl
theorem dX12_layNeed_119 : decode cX12_layNeed 119 = .ok (.iconst 1, 1) := dk_4 (dw rcX12_layNeed_78 19 rfl)
theorem dX12_layNeed_120 : decode cX12_layNeed 120 = .ok (.goto 4, 3) := dk_167 (dw rcX12_layNeed_78 20 rfl) rfl
theorem dX12_layNeed_123 : decode cX12_layNeed 123 = .ok (.iconst 0, 1) := dk_3 (dw rcX12_layNeed_78 21 rfl)
theorem dX12_layNeed_124 : decode cX12_layNeed 124 = .ok (.invokestatic 348, 3) := dk_184 (dw rcX12_layNeed_78 22 rfl) rfl
theorem dX12_layNeed_127 : decode cX12_layNeed 127 = .ok (.istore 5, 2) := dk_54 (dw rcX12_layNeed_78 23 rfl)
noncomputable def rbX12_layNeed_129 : List (Nat × List Nat) := [(129, [42]), (130, [180, 0, 118]), (133, [29]), (134, [4]), (135, [96]), (136, [42]), (137, [180, 0, 118]), (140, [29]), (141, [4]), (142, [96]), (143, [46]), (144, [4]), (145, [42]), (146, [27]), (147, [21, 4]), (149, [96]), (150, [21, 5]), (152, [5]), (153, [182, 1, 247]), (156, [96]), (157, [184, 1, 250]), (160, [79]), (161, [42]), (162, [180, 0, 118])]
theorem rcX12_layNeed_129 : dgo (lb cX12_layNeed) 0 rbX12_layNeed_129 = true := by decide +kernel
theorem dX12_layNeed_129 : decode cX12_layNeed 129 = .ok (.aload_n 0, 1) := dk_42 (dw rcX12_layNeed_129 0 rfl)
theorem dX12_layNeed_130 : decode cX12_layNeed 130 = .ok (.getfield 118, 3) := dk_180 (dw rcX12_layNeed_129 1 rfl) rfl
theorem dX12_layNeed_133 : decode cX12_layNeed 133 = .ok (.iload_n 3, 1) := dk_29 (dw rcX12_layNeed_129 2 rfl)
theorem dX12_layNeed_134 : decode cX12_layNeed 134 = .ok (.iconst 1, 1) := dk_4 (dw rcX12_layNeed_129 3 rfl)
theorem dX12_layNeed_135 : decode cX12_layNeed 135 = .ok (.iadd, 1) := dk_96 (dw rcX12_layNeed_129 4 rfl)
theorem dX12_layNeed_136 : decode cX12_layNeed 136 = .ok (.aload_n 0, 1) := dk_42 (dw rcX12_layNeed_129 5 rfl)
theorem dX12_layNeed_137 : decode cX12_layNeed 137 = .ok (.getfield 118, 3) := dk_180 (dw rcX12_layNeed_129 6 rfl) rfl
theorem dX12_layNeed_140 : decode cX12_layNeed 140 = .ok (.iload_n 3, 1) := dk_29 (dw rcX12_layNeed_129 7 rfl)
theorem dX12_layNeed_141 : decode cX12_layNeed 141 = .ok (.iconst 1, 1) := dk_4 (dw rcX12_layNeed_129 8 rfl)
theorem dX12_layNeed_142 : decode cX12_layNeed 142 = .ok (.iadd, 1) := dk_96 (dw rcX12_layNeed_129 9 rfl)
theorem dX12_layNeed_143 : decode cX12_layNeed 143 = .ok (.iaload, 1) := dk_46 (dw rcX12_layNeed_129 10 rfl)
theorem dX12_layNeed_144 : decode cX12_layNeed 144 = .ok (.iconst 1, 1) := dk_4 (dw rcX12_layNeed_129 11 rfl)
theorem dX12_layNeed_145 : decode cX12_layNeed 145 = .ok (.aload_n 0, 1) := dk_42 (dw rcX12_layNeed_129 12 rfl)
theorem dX12_layNeed_146 : decode cX12_layNeed 146 = .ok (.iload_n 1, 1) := dk_27 (dw rcX12_layNeed_129 13 rfl)
theorem dX12_layNeed_147 : decode cX12_layNeed 147 = .ok (.iload 4, 2) := dk_21 (dw rcX12_layNeed_129 14 rfl)
theorem dX12_layNeed_149 : decode cX12_layNeed 149 = .ok (.iadd, 1) := dk_96 (dw rcX12_layNeed_129 15 rfl)
theorem dX12_layNeed_150 : decode cX12_layNeed 150 = .ok (.iload 5, 2) := dk_21 (dw rcX12_layNeed_129 16 rfl)
theorem dX12_layNeed_152 : decode cX12_layNeed 152 = .ok (.iconst 2, 1) := dk_5 (dw rcX12_layNeed_129 17 rfl)
theorem dX12_layNeed_153 : decode cX12_layNeed 153 = .ok (.invokevirtual 503, 3) := dk_182 (dw rcX12_layNeed_129 18 rfl) rfl
theorem dX12_layNeed_156 : decode cX12_layNeed 156 = .ok (.iadd, 1) := dk_96 (dw rcX12_layNeed_129 19 rfl)
theorem dX12_layNeed_157 : decode cX12_layNeed 157 = .ok (.invokestatic 506, 3) := dk_184 (dw rcX12_layNeed_129 20 rfl) rfl
theorem dX12_layNeed_160 : decode cX12_layNeed 160 = .ok (.iastore, 1) := dk_79 (dw rcX12_layNeed_129 21 rfl)
theorem dX12_layNeed_161 : decode cX12_layNeed 161 = .ok (.aload_n 0, 1) := dk_42 (dw rcX12_layNeed_129 22 rfl)
theorem dX12_layNeed_162 : decode cX12_layNeed 162 = .ok (.getfield 118, 3) := dk_180 (dw rcX12_layNeed_129 23 rfl) rfl
noncomputable def rbX12_layNeed_165 : List (Nat × List Nat) := [(165, [29]), (166, [5]), (167, [96]), (168, [42]), (169, [180, 0, 118]), (172, [29]), (173, [5]), (174, [96]), (175, [46]), (176, [4]), (177, [42]), (178, [27]), (179, [21, 4]), (181, [96]), (182, [21, 5]), (184, [4]), (185, [182, 1, 247]), (188, [96]), (189, [184, 1, 250]), (192, [79]), (193, [132, 4, 1]), (196, [167, 255, 134]), (199, [42]), (200, [180, 0, 118])]
theorem rcX12_layNeed_165 : dgo (lb cX12_layNeed) 0 rbX12_layNeed_165 = true := by decide +kernel
theorem dX12_layNeed_165 : decode cX12_layNeed 165 = .ok (.iload_n 3, 1) := dk_29 (dw rcX12_layNeed_165 0 rfl)
theorem dX12_layNeed_166 : decode cX12_layNeed 166 = .ok (.iconst 2, 1) := dk_5 (dw rcX12_layNeed_165 1 rfl)
theorem dX12_layNeed_167 : decode cX12_layNeed 167 = .ok (.iadd, 1) := dk_96 (dw rcX12_layNeed_165 2 rfl)
theorem dX12_layNeed_168 : decode cX12_layNeed 168 = .ok (.aload_n 0, 1) := dk_42 (dw rcX12_layNeed_165 3 rfl)
theorem dX12_layNeed_169 : decode cX12_layNeed 169 = .ok (.getfield 118, 3) := dk_180 (dw rcX12_layNeed_165 4 rfl) rfl
theorem dX12_layNeed_172 : decode cX12_layNeed 172 = .ok (.iload_n 3, 1) := dk_29 (dw rcX12_layNeed_165 5 rfl)
theorem dX12_layNeed_173 : decode cX12_layNeed 173 = .ok (.iconst 2, 1) := dk_5 (dw rcX12_layNeed_165 6 rfl)
theorem dX12_layNeed_174 : decode cX12_layNeed 174 = .ok (.iadd, 1) := dk_96 (dw rcX12_layNeed_165 7 rfl)
theorem dX12_layNeed_175 : decode cX12_layNeed 175 = .ok (.iaload, 1) := dk_46 (dw rcX12_layNeed_165 8 rfl)
theorem dX12_layNeed_176 : decode cX12_layNeed 176 = .ok (.iconst 1, 1) := dk_4 (dw rcX12_layNeed_165 9 rfl)
theorem dX12_layNeed_177 : decode cX12_layNeed 177 = .ok (.aload_n 0, 1) := dk_42 (dw rcX12_layNeed_165 10 rfl)
theorem dX12_layNeed_178 : decode cX12_layNeed 178 = .ok (.iload_n 1, 1) := dk_27 (dw rcX12_layNeed_165 11 rfl)
theorem dX12_layNeed_179 : decode cX12_layNeed 179 = .ok (.iload 4, 2) := dk_21 (dw rcX12_layNeed_165 12 rfl)
theorem dX12_layNeed_181 : decode cX12_layNeed 181 = .ok (.iadd, 1) := dk_96 (dw rcX12_layNeed_165 13 rfl)
theorem dX12_layNeed_182 : decode cX12_layNeed 182 = .ok (.iload 5, 2) := dk_21 (dw rcX12_layNeed_165 14 rfl)
theorem dX12_layNeed_184 : decode cX12_layNeed 184 = .ok (.iconst 1, 1) := dk_4 (dw rcX12_layNeed_165 15 rfl)
theorem dX12_layNeed_185 : decode cX12_layNeed 185 = .ok (.invokevirtual 503, 3) := dk_182 (dw rcX12_layNeed_165 16 rfl) rfl
theorem dX12_layNeed_188 : decode cX12_layNeed 188 = .ok (.iadd, 1) := dk_96 (dw rcX12_layNeed_165 17 rfl)
theorem dX12_layNeed_189 : decode cX12_layNeed 189 = .ok (.invokestatic 506, 3) := dk_184 (dw rcX12_layNeed_165 18 rfl) rfl
theorem dX12_layNeed_192 : decode cX12_layNeed 192 = .ok (.iastore, 1) := dk_79 (dw rcX12_layNeed_165 19 rfl)
theorem dX12_layNeed_193 : decode cX12_layNeed 193 = .ok (.iinc 4 1, 3) := dk_132 (dw rcX12_layNeed_165 20 rfl) rfl
theorem dX12_layNeed_196 : decode cX12_layNeed 196 = .ok (.goto (-122), 3) := dk_167 (dw rcX12_layNeed_165 21 rfl) rfl
theorem dX12_layNeed_199 : decode cX12_layNeed 199 = .ok (.aload_n 0, 1) := dk_42 (dw rcX12_layNeed_165 22 rfl)
theorem dX12_layNeed_200 : decode cX12_layNeed 200 = .ok (.getfield 118, 3) := dk_180 (dw rcX12_layNeed_165 23 rfl) rfl
noncomputable def rbX12_layNeed_203 : List (Nat × List Nat) := [(203, [29]), (204, [42]), (205, [180, 0, 118]), (208, [29]), (209, [4]), (210, [96]), (211, [46]), (212, [42]), (213, [180, 0, 118]), (216, [29]), (217, [5]), (218, [96]), (219, [46]), (220, [184, 1, 250]), (223, [79]), (224, [177])]
theorem rcX12_layNeed_203 : dgo (lb cX12_layNeed) 0 rbX12_layNeed_203 = true := by decide +kernel
theorem dX12_layNeed_203 : decode cX12_layNeed 203 = .ok (.iload_n 3, 1) := dk_29 (dw rcX12_layNeed_203 0 rfl)
theorem dX12_layNeed_204 : decode cX12_layNeed 204 = .ok (.aload_n 0, 1) := dk_42 (dw rcX12_layNeed_203 1 rfl)
theorem dX12_layNeed_205 : decode cX12_layNeed 205 = .ok (.getfield 118, 3) := dk_180 (dw rcX12_layNeed_203 2 rfl) rfl
theorem dX12_layNeed_208 : decode cX12_layNeed 208 = .ok (.iload_n 3, 1) := dk_29 (dw rcX12_layNeed_203 3 rfl)
theorem dX12_layNeed_209 : decode cX12_layNeed 209 = .ok (.iconst 1, 1) := dk_4 (dw rcX12_layNeed_203 4 rfl)
theorem dX12_layNeed_210 : decode cX12_layNeed 210 = .ok (.iadd, 1) := dk_96 (dw rcX12_layNeed_203 5 rfl)
theorem dX12_layNeed_211 : decode cX12_layNeed 211 = .ok (.iaload, 1) := dk_46 (dw rcX12_layNeed_203 6 rfl)
theorem dX12_layNeed_212 : decode cX12_layNeed 212 = .ok (.aload_n 0, 1) := dk_42 (dw rcX12_layNeed_203 7 rfl)
theorem dX12_layNeed_213 : decode cX12_layNeed 213 = .ok (.getfield 118, 3) := dk_180 (dw rcX12_layNeed_203 8 rfl) rfl
theorem dX12_layNeed_216 : decode cX12_layNeed 216 = .ok (.iload_n 3, 1) := dk_29 (dw rcX12_layNeed_203 9 rfl)
theorem dX12_layNeed_217 : decode cX12_layNeed 217 = .ok (.iconst 2, 1) := dk_5 (dw rcX12_layNeed_203 10 rfl)
theorem dX12_layNeed_218 : decode cX12_layNeed 218 = .ok (.iadd, 1) := dk_96 (dw rcX12_layNeed_203 11 rfl)
theorem dX12_layNeed_219 : decode cX12_layNeed 219 = .ok (.iaload, 1) := dk_46 (dw rcX12_layNeed_203 12 rfl)
theorem dX12_layNeed_220 : decode cX12_layNeed 220 = .ok (.invokestatic 506, 3) := dk_184 (dw rcX12_layNeed_203 13 rfl) rfl
theorem dX12_layNeed_223 : decode cX12_layNeed 223 = .ok (.iastore, 1) := dk_79 (dw rcX12_layNeed_203 14 rfl)
theorem dX12_layNeed_224 : decode cX12_layNeed 224 = .ok (.return_, 1) := dk_177 (dw rcX12_layNeed_203 15 rfl)
set_option maxHeartbeats 4000000 in
set_option maxRecDepth 100000 in
theorem n_layNeed (l : Launch) (D : va_G) (k : KT) (A : Nat → Prop) (a : Nat → Nat) (z : SK) (G : GS) (p0 : Int32) (p1 : Int32) (ha_p0 : 0 ≤ p0.toInt ∧ p0.toInt ≤ 399) (ha_p1 : 0 ≤ p1.toInt ∧ p1.toInt ≤ 1) (hle1 : 1 ≤ (G.1 66 61).toInt) (hml9 : (G.1 66 61).toInt ≤ (G.1 66 62).toInt ∧ (G.1 66 62).toInt ≤ (G.1 66 63).toInt) (h400 : (G.1 98 400).toInt = 0) (hpr : PRG G p0.toInt p1.toInt) : Met l yX12_layNeed (WS yX12_layNeed cX12_layNeed 6 none) ({ frames := 2, cells := 0, slots := 0, locals := 42 }) (va_Pc [.ref (a 66), .int p0, .int p1] (cW D k A a z G)) (va_Qv (fun (G1 : GS) => Q_layNeed p0 p1 G G1) (fun (G1 : GS) t => Wd D k A a G1 t.heap) A) 0 0 A := by
  refine Met.ofW (cc := cX12_layNeed) (maxL := 6) (ret := none) (by decide) rfl ?_
  intro p e s m args below meth c s₁ B hml hv
  obtain ⟨rfl, hW, hB_G, hK, hZ⟩ := hv
  have hx := B.exec
  have hb := B.bytes
  have hr := B.returns
  have hts := atoms_spec (ws := WS yX12_layNeed cX12_layNeed 6 none) B.pre
  have hgd : ∀ w ∈ gd, w ∈ WS yX12_layNeed cX12_layNeed 6 none := fun w h => List.mem_cons_of_mem _ h
  have hg : ∀ w ∈ gd, w.before _ s = true := fun w h => hts w (hgd w h)
  have hown : s.vm.findClass RX12 = some m.cls := findClass_of_methodNamed B.named
  have hS : va_S A s.heap s.heap [] := va_S.rf
  have hF : Fr [99] [] G G := Fr.rf
  have hl := lv_entry ([.ref (a 66), .int p0, .int p1]) (n := 6) (Nat.le_of_ble_eq_true rfl)
  rw [lg_entry_eq]
  generalize (lg_sl ([.ref (a 66), .int p0, .int p1]) ++ List.replicate (6 - (lg_sl ([.ref (a 66), .int p0, .int p1])).length) Slot.unset).toArray = ls at hl ⊢
  have hl : lv_has ls 6 [(0, .ref (a 66)), (1, .int p0), (2, .int p1)] := hl
  refine ic_3 hx hb dX12_layNeed_0 ?_
  refine ic_2 hx hb dX12_layNeed_1 ?_
  refine lv_iload_n hx hb dX12_layNeed_2 rfl (lv_at hl 1 rfl) ?_
  refine lv_imul hx hb dX12_layNeed_3 ?_
  refine lv_topi (fun y_1 ey_1 => ?_)
  have ty_1 : y_1.toInt = 2 * p0.toInt := xI_mul rfl rfl ey_1 ((by first | exact ok_294 ha_p0.1 | omega)) ((by first | exact ok_741 ha_p0.2 | omega))
  refine lv_iload_n hx hb dX12_layNeed_4 rfl (lv_at hl 2 rfl) ?_
  refine lv_iadd hx hb dX12_layNeed_5 ?_
  refine lv_topi (fun y_2 ey_2 => ?_)
  have ty_2 : y_2.toInt = y_1.toInt + p1.toInt := xI_add rfl rfl ey_2 ((by first | exact ok_742 ha_p0.1 ha_p1.1 ty_1 | omega)) ((by first | exact ok_743 ha_p0.2 ha_p1.2 ty_1 | omega))
  refine lv_imul hx hb dX12_layNeed_6 ?_
  refine lv_topi (fun y_3 ey_3 => ?_)
  have ty_3 : y_3.toInt = 3 * y_2.toInt := xI_mul rfl rfl ey_3 ((by first | exact ok_744 ha_p0.1 ha_p1.1 ty_1 ty_2 | omega)) ((by first | exact ok_745 ha_p0.2 ha_p1.2 ty_1 ty_2 | omega))
  refine lv_istore_n (lv' := [(3, .int y_3), (0, .ref (a 66)), (1, .int p0), (2, .int p1)]) hx hb dX12_layNeed_7 rfl hl (lt_b rfl) rfl (fun ls hl => ?_)
  refine lv_aload_n hx hb dX12_layNeed_8 rfl (lv_at hl 1 rfl) ?_
  refine S_getR (n := 99) (C := RX12) (T := TX12) (N := 89) hx hb hg iX12 hown hK hW kd_66 rfl 64 (lt_b rfl) (hg (Cond.fieldLink RX12 118 "SlabWalkModel" "need" "[I") m1378) (fun _ h9 => h9) rfl dX12_layNeed_9 ?_
  refine lv_iload_n hx hb dX12_layNeed_12 rfl (lv_at hl 0 rfl) ?_
  refine ic_1 hx hb dX12_layNeed_13 ?_
  refine lv_iadd hx hb dX12_layNeed_14 ?_
  refine lv_topi (fun y_4 ey_4 => ?_)
  have ty_4 : y_4.toInt = y_3.toInt + 1 := xI_add rfl rfl ey_4 ((by first | exact ok_1156 ha_p0.1 ha_p1.1 ty_1 ty_2 ty_3 | omega)) ((by first | exact ok_1157 ha_p0.2 ha_p1.2 ty_1 ty_2 ty_3 | omega))
  refine lv_aload_n hx hb dX12_layNeed_15 rfl (lv_at hl 1 rfl) ?_
  refine S_getR (n := 98) (C := RX12) (T := TX12) (N := 89) hx hb hg iX12 hown hK hW kd_66 rfl 58 (lt_b rfl) (hg (Cond.fieldLink RX12 115 "SlabWalkModel" "lawful" "[Z") m1372) (fun _ h9 => h9) rfl dX12_layNeed_16 ?_
  refine lv_iload_n hx hb dX12_layNeed_19 rfl (lv_at hl 2 rfl) ?_
  refine S_zald hx hb hK hW kd_98 (vin ((by first | exact ha_p0.1 | omega)) ((by first | exact ok_773 ha_p0.2 | omega))) dX12_layNeed_20 (fun y_5 ey_5 => ?_)
  have ty_5 := hB_G.law ey_5
  have u_6 : y_5.toInt = (G.1 98 p0.toNatClampNeg).toInt := congrArg Int32.toInt (ey_5)
  refine lv_if_eq (tgt := 36) hx hb dX12_layNeed_21 rfl (fun c_7 => ?_) (fun c_7 => ?_)
  · have c_7 : y_5.toInt = 0 := xI_eq rfl rfl c_7
    refine lv_ldcw (v := 100000) hx hb hown (hg (Cond.constant RX12 502 100000) m1858) dX12_layNeed_36 ?_
    refine S_iast hx hb hK hW hS kd_99 (vin ((by first | exact ok_1158 ha_p0.1 ha_p1.1 ty_1 ty_2 ty_3 ty_4 | omega)) ((by first | exact ok_1159 ha_p0.2 ha_p1.2 ty_1 ty_2 ty_3 ty_4 | omega))) dX12_layNeed_39 (fun G_8 H locs eG_8 hW hS => ?_)
    have hB_G_8 : Bd G_8 := hB_G.put (V := 100000) (lo := 0) (hi := 100000) eG_8 rfl rfl rfl (by decide) (by decide) (hB_G.2.put eG_8 rfl)
    have hF := hF.put eG_8 (Or.inl (by decide))
    refine lv_aload_n hx hb dX12_layNeed_40 rfl (lv_at hl 1 rfl) ?_
    refine S_getR (n := 99) (C := RX12) (T := TX12) (N := 89) hx hb hg iX12 hown hK hW kd_66 rfl 64 (lt_b rfl) (hg (Cond.fieldLink RX12 118 "SlabWalkModel" "need" "[I") m1378) (fun _ h9 => h9) rfl dX12_layNeed_41 ?_
    refine lv_iload_n hx hb dX12_layNeed_44 rfl (lv_at hl 0 rfl) ?_
    refine ic_2 hx hb dX12_layNeed_45 ?_
    refine lv_iadd hx hb dX12_layNeed_46 ?_
    refine lv_topi (fun y_9 ey_9 => ?_)
    have ty_9 : y_9.toInt = y_3.toInt + 2 := xI_add rfl rfl ey_9 ((by first | exact ok_1160 ha_p0.1 ha_p1.1 ty_1 ty_2 ty_3 | omega)) ((by first | exact ok_1161 ha_p0.2 ha_p1.2 ty_1 ty_2 ty_3 | omega))
    refine lv_ldcw (v := 100000) hx hb hown (hg (Cond.constant RX12 502 100000) m1858) dX12_layNeed_47 ?_
    refine S_iast hx hb hK hW hS kd_99 (vin ((by first | exact ok_1162 ha_p0.1 ha_p1.1 ty_1 ty_2 ty_3 ty_9 | omega)) ((by first | exact ok_1163 ha_p0.2 ha_p1.2 ty_1 ty_2 ty_3 ty_9 | omega))) dX12_layNeed_50 (fun G_10 H locs eG_10 hW hS => ?_)
    have hB_G_10 : Bd G_10 := hB_G_8.put (V := 100000) (lo := 0) (hi := 100000) eG_10 rfl rfl rfl (by decide) (by decide) (hB_G_8.2.put eG_10 rfl)
    have hF := hF.put eG_10 (Or.inl (by decide))
    have qc_11 : (100000 : Int32).toInt = 100000 := rfl
    have hp0_ : PR (G.1 99) (G.1 98) (G.1 66 61).toInt (G.1 66 62).toInt (G.1 66 63).toInt (p0.toInt) (p1.toInt) := by rw [show G.1 99 = G.1 99 from (funext fun j => ((fun (j : Nat) (_ : True) => rfl)) j trivial)]; exact hpr
    have hp1_ : PR (G_8.1 99) (G.1 98) (G.1 66 61).toInt (G.1 66 62).toInt (G.1 66 63).toInt (p0.toInt) (p1.toInt) := PR_put (i := 1) eG_8 ((by first | exact ok_1164 ty_1 ty_2 ty_3 ty_4 | omega)) ((by first | exact ha_p0.1 | omega)) ((by first | exact ⟨(by first | exact ha_p1.1 | omega), (by first | exact ha_p1.2 | omega)⟩ | omega)) (by omega) hle1 hp0_
    have hp2_ : PR (G_8.1 99) (G.1 98) (G.1 66 61).toInt (G.1 66 62).toInt (G.1 66 63).toInt (p0.toInt) (p1.toInt) := by rw [show G_8.1 99 = G_8.1 99 from (funext fun j => ((fun (j : Nat) (_ : True) => rfl)) j trivial)]; exact hp1_
    have hp3_ : PR (G_10.1 99) (G.1 98) (G.1 66 61).toInt (G.1 66 62).toInt (G.1 66 63).toInt (p0.toInt) (p1.toInt) := PR_put (i := 2) eG_10 ((by first | exact ok_1165 ty_1 ty_2 ty_3 ty_9 | omega)) ((by first | exact ha_p0.1 | omega)) ((by first | exact ⟨(by first | exact ha_p1.1 | omega), (by first | exact ha_p1.2 | omega)⟩ | omega)) (by omega) hle1 hp2_
    have hz1_ := ndv_put (x := p0.toInt) (l := p1.toInt) (i := 1) eG_8 (by first | (clear hle1 hml9 h400; omega) | omega) (by first | (clear hle1 hml9 h400; omega) | omega) (by first | (clear hle1 hml9 h400; omega) | omega) (by first | (clear hle1 hml9 h400; omega) | omega)
    have hz2_ := ndv_put (x := p0.toInt) (l := p1.toInt) (i := 2) eG_10 (by first | (clear hle1 hml9 h400; omega) | omega) (by first | (clear hle1 hml9 h400; omega) | omega) (by first | (clear hle1 hml9 h400; omega) | omega) (by first | (clear hle1 hml9 h400; omega) | omega)
    have hy1_ := hz2_.2 p0.toInt p1.toInt 1 (by first | (clear hle1 hml9 h400; omega) | omega) (by first | (clear hle1 hml9 h400; omega) | omega) (by first | (clear hle1 hml9 h400; omega) | omega) (by first | (clear hle1 hml9 h400; omega) | omega)
    rw [show G_8.1 99 = G_8.1 99 from (funext fun j => ((fun (j : Nat) (_ : True) => rfl)) j trivial), hz1_.1] at hy1_
    have hy2_ := hz2_.1
    refine lv_aload_n hx hb dX12_layNeed_51 rfl (lv_at hl 1 rfl) ?_
    refine S_getR (n := 98) (C := RX12) (T := TX12) (N := 89) hx hb hg iX12 hown hK hW kd_66 rfl 58 (lt_b rfl) (hg (Cond.fieldLink RX12 115 "SlabWalkModel" "lawful" "[Z") m1372) (fun _ h9 => h9) rfl dX12_layNeed_52 ?_
    refine lv_iload_n hx hb dX12_layNeed_55 rfl (lv_at hl 2 rfl) ?_
    refine S_zald hx hb hK hW kd_98 (vin ((by first | exact ha_p0.1 | omega)) ((by first | exact ok_773 ha_p0.2 | omega))) dX12_layNeed_56 (fun y_12 ey_12 => ?_)
    have ty_12 := hB_G_10.law ey_12
    have u_13 : y_12.toInt = y_5.toInt := congrArg Int32.toInt (ey_12.trans (((gp_ne eG_10 (fun q => absurd q.1 (Nat.ne_of_beq_eq_false rfl))).trans ((gp_ne eG_8 (fun q => absurd q.1 (Nat.ne_of_beq_eq_false rfl))).trans (ey_5.symm)))))
    refine lv_if_eq (tgt := 199) hx hb dX12_layNeed_57 rfl (fun c_14 => ?_) (fun c_14 => ?_)
    · have c_14 : y_12.toInt = 0 := xI_eq rfl rfl c_14
      have hpF_ : PR (G_10.1 99) (G.1 98) (G.1 66 61).toInt (G.1 66 62).toInt (G.1 66 63).toInt (p0.toInt) (p1.toInt) := by rw [show G_10.1 99 = G_10.1 99 from (funext fun j => ((fun (j : Nat) (_ : True) => rfl)) j trivial)]; exact hp3_
      have hy1F_ : ndv (G_10.1 99) p0.toInt p1.toInt 1 = 100000 := by rw [show G_10.1 99 = G_10.1 99 from (funext fun j => ((fun (j : Nat) (_ : True) => rfl)) j trivial)]; exact (hy1_.trans (by decide))
      have hy2F_ : ndv (G_10.1 99) p0.toInt p1.toInt 2 = 100000 := by rw [show G_10.1 99 = G_10.1 99 from (funext fun j => ((fun (j : Nat) (_ : True) => rfl)) j trivial)]; exact (hy2_.trans (by decide))
      refine lv_aload_n hx hb dX12_layNeed_199 rfl (lv_at hl 1 rfl) ?_
      refine S_getR (n := 99) (C := RX12) (T := TX12) (N := 89) hx hb hg iX12 hown hK hW kd_66 rfl 64 (lt_b rfl) (hg (Cond.fieldLink RX12 118 "SlabWalkModel" "need" "[I") m1378) (fun _ h9 => h9) rfl dX12_layNeed_200 ?_
      refine lv_iload_n hx hb dX12_layNeed_203 rfl (lv_at hl 0 rfl) ?_
      refine lv_aload_n hx hb dX12_layNeed_204 rfl (lv_at hl 1 rfl) ?_
      refine S_getR (n := 99) (C := RX12) (T := TX12) (N := 89) hx hb hg iX12 hown hK hW kd_66 rfl 64 (lt_b rfl) (hg (Cond.fieldLink RX12 118 "SlabWalkModel" "need" "[I") m1378) (fun _ h9 => h9) rfl dX12_layNeed_205 ?_
      refine lv_iload_n hx hb dX12_layNeed_208 rfl (lv_at hl 0 rfl) ?_
      refine ic_1 hx hb dX12_layNeed_209 ?_
      refine lv_iadd hx hb dX12_layNeed_210 ?_
      refine lv_topi (fun y_15 ey_15 => ?_)
      have ty_15 : y_15.toInt = y_3.toInt + 1 := xI_add rfl rfl ey_15 ((by first | exact ok_1156 ha_p0.1 ha_p1.1 ty_1 ty_2 ty_3 | omega)) ((by first | exact ok_1157 ha_p0.2 ha_p1.2 ty_1 ty_2 ty_3 | omega))
      refine S_iald hx hb hK hW kd_99 (vin ((by first | exact ok_1158 ha_p0.1 ha_p1.1 ty_1 ty_2 ty_3 ty_15 | omega)) ((by first | exact ok_1159 ha_p0.2 ha_p1.2 ty_1 ty_2 ty_3 ty_15 | omega))) dX12_layNeed_211 (fun y_16 ey_16 => ?_)
      have ty_16 : 0 ≤ y_16.toInt ∧ y_16.toInt ≤ 100000 := bv_99 hB_G_10 ey_16
      have u_17 : y_16.toInt = (G_10.1 99 y_15.toNatClampNeg).toInt := congrArg Int32.toInt (ey_16)
      have hn1_ : y_16.toInt = ndv (G_10.1 99) p0.toInt p1.toInt 1 := (ndv_at (f := G_10.1 99) (x := y_15) ((by first | exact ok_1164 ty_1 ty_2 ty_3 ty_15 | omega)) (congrArg Int32.toInt ey_16)).trans (ndv_eq (show G_10.1 99 = G_10.1 99 from (funext fun j => ((fun (j : Nat) (_ : True) => rfl)) j trivial)) rfl rfl)
      refine lv_aload_n hx hb dX12_layNeed_212 rfl (lv_at hl 1 rfl) ?_
      refine S_getR (n := 99) (C := RX12) (T := TX12) (N := 89) hx hb hg iX12 hown hK hW kd_66 rfl 64 (lt_b rfl) (hg (Cond.fieldLink RX12 118 "SlabWalkModel" "need" "[I") m1378) (fun _ h9 => h9) rfl dX12_layNeed_213 ?_
      refine lv_iload_n hx hb dX12_layNeed_216 rfl (lv_at hl 0 rfl) ?_
      refine ic_2 hx hb dX12_layNeed_217 ?_
      refine lv_iadd hx hb dX12_layNeed_218 ?_
      refine lv_topi (fun y_18 ey_18 => ?_)
      have ty_18 : y_18.toInt = y_3.toInt + 2 := xI_add rfl rfl ey_18 ((by first | exact ok_1160 ha_p0.1 ha_p1.1 ty_1 ty_2 ty_3 | omega)) ((by first | exact ok_1161 ha_p0.2 ha_p1.2 ty_1 ty_2 ty_3 | omega))
      refine S_iald hx hb hK hW kd_99 (vin ((by first | exact ok_1162 ha_p0.1 ha_p1.1 ty_1 ty_2 ty_3 ty_18 | omega)) ((by first | exact ok_1163 ha_p0.2 ha_p1.2 ty_1 ty_2 ty_3 ty_18 | omega))) dX12_layNeed_219 (fun y_19 ey_19 => ?_)
      have ty_19 : 0 ≤ y_19.toInt ∧ y_19.toInt ≤ 100000 := bv_99 hB_G_10 ey_19
      have u_20 : y_19.toInt = (G_10.1 99 y_18.toNatClampNeg).toInt := congrArg Int32.toInt (ey_19)
      have hn2_ : y_19.toInt = ndv (G_10.1 99) p0.toInt p1.toInt 2 := (ndv_at (f := G_10.1 99) (x := y_18) ((by first | exact ok_1165 ty_1 ty_2 ty_3 ty_18 | omega)) (congrArg Int32.toInt ey_19)).trans (ndv_eq (show G_10.1 99 = G_10.1 99 from (funext fun j => ((fun (j : Nat) (_ : True) => rfl)) j trivial)) rfl rfl)
      refine S_calli (va_runS (As := [.int y_16, .int y_19]) (rest := [.int y_3, .ref (a 99)]) ⟨hx, hb, hml, hown, hts⟩ (n_lesser l D k A a z G_10 y_16 y_19 ) (va_cwS 2 hts (gd_S hgd m1863 m1864 m131 m1865) rfl rfl rfl hd_X12_lesser.2 ⟨Nat.le_of_ble_eq_true rfl, Nat.le_of_ble_eq_true rfl⟩) (pre_S hW hB_G_10 hK hZ hS) rfl rfl hl.1 rfl (lv_room (Nat.le_of_ble_eq_true rfl)) dX12_layNeed_220 ⟨Nat.le_of_ble_eq_true rfl, Nat.le_of_ble_eq_true rfl⟩) hS (fun r_21 G_22 H locs hpo hW hS => ?_)
      have hX_25 : Q_lesser y_16 y_19 G_10 r_21 G_22 := hpo
      obtain ⟨hB_G_22, hq_23, hp_24, -⟩ := hpo
      have hF := hF.call9 hq_23 rfl rfl
      refine S_iast hx hb hK hW hS kd_99 (vin ((by first | exact ok_1166 ha_p0.1 ha_p1.1 ty_1 ty_2 ty_3 | omega)) ((by first | exact ok_1167 ha_p0.2 ha_p1.2 ty_1 ty_2 ty_3 | omega))) dX12_layNeed_223 (fun G_26 H locs eG_26 hW hS => ?_)
      have hB_G_26 : Bd G_26 := hB_G_22.put (V := r_21.toInt) (lo := 0) (hi := 100000) eG_26 rfl rfl rfl ((by first | exact ok_1168 ty_16.1 ty_19.1 hp_24.2.2 | omega)) ((by first | exact ok_1169 ty_19.2 hp_24.2.1 | omega)) (hB_G_22.2.put eG_26 rfl)
      have hF := hF.put eG_26 (Or.inl (by decide))
      have hpL_ : PR (G_22.1 99) (G.1 98) (G.1 66 61).toInt (G.1 66 62).toInt (G.1 66 63).toInt (p0.toInt) (p1.toInt) := by rw [show G_22.1 99 = G_10.1 99 from (funext fun j => ((fun (j : Nat) (_ : True) => (hq_23.ri9 99 rfl j))) j trivial)]; exact hpF_
      have hfL_ : ((ndv (G_22.1 99) p0.toInt p1.toInt 1 = 1 ∨ ndv (G_22.1 99) p0.toInt p1.toInt 1 = 100000) ∧ ndv (G_22.1 99) p0.toInt p1.toInt 2 = 100000) ∨ ∃ u, NJ (G_22.1 99) (G.1 98) (G.1 66 61).toInt (G.1 66 62).toInt p0.toInt p1.toInt u ∧ u ≤ (G.1 66 63).toInt + 1 := by rw [show G_22.1 99 = G_10.1 99 from (funext fun j => ((fun (j : Nat) (_ : True) => (hq_23.ri9 99 rfl j))) j trivial)]; exact Or.inl ⟨Or.inr hy1F_, hy2F_⟩
      have hr1_ := hn1_.trans (show ndv (G_10.1 99) p0.toInt p1.toInt 1 = ndv (G_22.1 99) p0.toInt p1.toInt 1 by rw [show G_22.1 99 = G_10.1 99 from (funext fun j => ((fun (j : Nat) (_ : True) => (hq_23.ri9 99 rfl j))) j trivial)])
      have hr2_ := hn2_.trans (show ndv (G_10.1 99) p0.toInt p1.toInt 2 = ndv (G_22.1 99) p0.toInt p1.toInt 2 by rw [show G_22.1 99 = G_10.1 99 from (funext fun j => ((fun (j : Nat) (_ : True) => (hq_23.ri9 99 rfl j))) j trivial)])
      have hEnd_ : PR (G_26.1 99) (G.1 98) (G.1 66 61).toInt (G.1 66 62).toInt (G.1 66 63).toInt (p0.toInt) (p1.toInt + 1) := PR_next eG_26 (by omega) (by omega) (by omega) hle1 hpL_ (lw400 hB_G h400) (by omega) (by omega) (by omega) hfL_
      have hPG_ : PRG G_26 p0.toInt (p1.toInt + 1) := PRG_of hF (by decide) (by decide) hEnd_
      exact W.vret hx hb hr (fun t ht _ => ⟨⟨G_26, rfl, (Q_layNeed_mk ⟨hB_G_26, hF, (hPG_), ⟨y_1, ty_1, ⟨y_2, ty_2, ⟨y_3, ty_3, ⟨y_4, ty_4, ⟨y_5, ey_5, (Or.inl ⟨c_7, ⟨y_9, ty_9, ⟨y_12, ey_12.trans (congrFun ((rw_put eG_10 (by decide)).trans (rw_put eG_8 (by decide))) _), (Or.inl ⟨c_14, ⟨y_15, ty_15, ⟨y_16, ey_16.trans (congrFun ((rw_ast eG_10).trans (congrArg (fun q => upd q (y_9.toNatClampNeg) 100000) (rw_ast eG_8))) _), ⟨y_18, ty_18, ⟨y_19, ey_19.trans (congrFun ((rw_ast eG_10).trans (congrArg (fun q => upd q (y_9.toNatClampNeg) 100000) (rw_ast eG_8))) _), ⟨G_10, hB_G_10, (Fr.put (rs := [99]) (fs := []) (Fr.put (rs := [99]) (fs := []) Fr.rf eG_8 (Or.inl (by decide))) eG_10 (Or.inl (by decide))), (rw_ast eG_10).trans (congrArg (fun q => upd q (y_9.toNatClampNeg) 100000) (rw_ast eG_8)), ⟨r_21, G_22, hX_25, ⟨(Fr.put (rs := [99]) (fs := []) Fr.rf eG_26 (Or.inl (by decide))), rw_ast eG_26⟩⟩⟩⟩⟩⟩⟩⟩)⟩⟩⟩)⟩⟩⟩⟩⟩⟩), wd_t ht hW⟩, hS.F ht⟩) hS.2.2 dX12_layNeed_224
    · have c_14 : y_12.toInt ≠ 0 := xI_ne rfl rfl c_14
      refine lv_aload_n hx hb dX12_layNeed_60 rfl (lv_at hl 1 rfl) ?_
      refine lv_iload_n hx hb dX12_layNeed_61 rfl (lv_at hl 2 rfl) ?_
      have b_27 : 0 ≤ (G.1 66 59).toInt ∧ (G.1 66 59).toInt ≤ 400 := bd_66_59 hB_G
      have g_28 : (G_10.1 66 59).toInt = (G.1 66 59).toInt := (congrArg Int32.toInt (show G_10.1 66 59 = (G.1 66 59) from ((gp_ne eG_10 (fun q => absurd q.1 (Nat.ne_of_beq_eq_false rfl))).trans (gp_ne eG_8 (fun q => absurd q.1 (Nat.ne_of_beq_eq_false rfl))))))
      have b_29 : 0 ≤ (G.1 66 60).toInt ∧ (G.1 66 60).toInt ≤ 12 := bd_66_60 hB_G
      have g_30 : (G_10.1 66 60).toInt = (G.1 66 60).toInt := (congrArg Int32.toInt (show G_10.1 66 60 = (G.1 66 60) from ((gp_ne eG_10 (fun q => absurd q.1 (Nat.ne_of_beq_eq_false rfl))).trans (gp_ne eG_8 (fun q => absurd q.1 (Nat.ne_of_beq_eq_false rfl))))))
      have b_31 : 0 ≤ (G.1 66 62).toInt ∧ (G.1 66 62).toInt ≤ 60 := bd_66_62 hB_G
      have g_32 : (G_10.1 66 62).toInt = (G.1 66 62).toInt := (congrArg Int32.toInt (show G_10.1 66 62 = (G.1 66 62) from ((gp_ne eG_10 (fun q => absurd q.1 (Nat.ne_of_beq_eq_false rfl))).trans (gp_ne eG_8 (fun q => absurd q.1 (Nat.ne_of_beq_eq_false rfl))))))
      refine S_calli (va_runV (As := [.int p0]) (rest := []) ⟨hx, hb, hml, hown, hts⟩ (n_isEnd l D k A a z G_10 p0 ⟨(by first | exact ok_774 ha_p0.1 | omega), (by first | exact ok_775 ha_p0.2 | omega)⟩) (cwV 1 hts (gd_V hgd m1854 m1856 m95 m131 m1857) rfl rfl rfl hd_X12_isEnd ⟨Nat.le_of_ble_eq_true rfl, Nat.le_of_ble_eq_true rfl⟩) (pre_W hW hB_G_10 hK hZ hS kd_66 rfl) rfl rfl hl.1 rfl (lv_room (Nat.le_of_ble_eq_true rfl)) dX12_layNeed_62 ⟨Nat.le_of_ble_eq_true rfl, Nat.le_of_ble_eq_true rfl⟩) hS (fun r_33 G_34 H locs hpo hW hS => ?_)
      have hX_37 : Q_isEnd p0 G_10 r_33 G_34 := hpo
      obtain ⟨hB_G_34, hq_35, f_38, ⟨d_1, d_2⟩, -⟩ := hpo
      have hF := hF.call9 hq_35 rfl rfl
      refine lv_if_ne (tgt := 199) hx hb dX12_layNeed_65 rfl (fun c_39 => ?_) (fun c_39 => ?_)
      · have c_39 : r_33.toInt ≠ 0 := xI_ne rfl rfl c_39
        have hpF_ : PR (G_34.1 99) (G.1 98) (G.1 66 61).toInt (G.1 66 62).toInt (G.1 66 63).toInt (p0.toInt) (p1.toInt) := by rw [show G_34.1 99 = G_10.1 99 from (funext fun j => ((fun (j : Nat) (_ : True) => (hq_35.ri9 99 rfl j))) j trivial)]; exact hp3_
        have hy1F_ : ndv (G_34.1 99) p0.toInt p1.toInt 1 = 100000 := by rw [show G_34.1 99 = G_10.1 99 from (funext fun j => ((fun (j : Nat) (_ : True) => (hq_35.ri9 99 rfl j))) j trivial)]; exact (hy1_.trans (by decide))
        have hy2F_ : ndv (G_34.1 99) p0.toInt p1.toInt 2 = 100000 := by rw [show G_34.1 99 = G_10.1 99 from (funext fun j => ((fun (j : Nat) (_ : True) => (hq_35.ri9 99 rfl j))) j trivial)]; exact (hy2_.trans (by decide))
        refine lv_aload_n hx hb dX12_layNeed_199 rfl (lv_at hl 1 rfl) ?_
        refine S_getR (n := 99) (C := RX12) (T := TX12) (N := 89) hx hb hg iX12 hown hK hW kd_66 rfl 64 (lt_b rfl) (hg (Cond.fieldLink RX12 118 "SlabWalkModel" "need" "[I") m1378) (fun _ h9 => h9) rfl dX12_layNeed_200 ?_
        refine lv_iload_n hx hb dX12_layNeed_203 rfl (lv_at hl 0 rfl) ?_
        refine lv_aload_n hx hb dX12_layNeed_204 rfl (lv_at hl 1 rfl) ?_
        refine S_getR (n := 99) (C := RX12) (T := TX12) (N := 89) hx hb hg iX12 hown hK hW kd_66 rfl 64 (lt_b rfl) (hg (Cond.fieldLink RX12 118 "SlabWalkModel" "need" "[I") m1378) (fun _ h9 => h9) rfl dX12_layNeed_205 ?_
        refine lv_iload_n hx hb dX12_layNeed_208 rfl (lv_at hl 0 rfl) ?_
        refine ic_1 hx hb dX12_layNeed_209 ?_
        refine lv_iadd hx hb dX12_layNeed_210 ?_
        refine lv_topi (fun y_40 ey_40 => ?_)
        have ty_40 : y_40.toInt = y_3.toInt + 1 := xI_add rfl rfl ey_40 ((by first | exact ok_1156 ha_p0.1 ha_p1.1 ty_1 ty_2 ty_3 | omega)) ((by first | exact ok_1157 ha_p0.2 ha_p1.2 ty_1 ty_2 ty_3 | omega))
        refine S_iald hx hb hK hW kd_99 (vin ((by first | exact ok_1158 ha_p0.1 ha_p1.1 ty_1 ty_2 ty_3 ty_40 | omega)) ((by first | exact ok_1159 ha_p0.2 ha_p1.2 ty_1 ty_2 ty_3 ty_40 | omega))) dX12_layNeed_211 (fun y_41 ey_41 => ?_)
        have ty_41 : 0 ≤ y_41.toInt ∧ y_41.toInt ≤ 100000 := bv_99 hB_G_34 ey_41
        have u_42 : y_41.toInt = (G_10.1 99 y_40.toNatClampNeg).toInt := congrArg Int32.toInt (ey_41.trans ((hq_35.ri9 99 rfl y_40.toNatClampNeg)))
        have hn1_ : y_41.toInt = ndv (G_10.1 99) p0.toInt p1.toInt 1 := (ndv_at (f := G_34.1 99) (x := y_40) ((by first | exact ok_1164 ty_1 ty_2 ty_3 ty_40 | omega)) (congrArg Int32.toInt ey_41)).trans (ndv_eq (show G_34.1 99 = G_10.1 99 from (funext fun j => ((fun (j : Nat) (_ : True) => (hq_35.ri9 99 rfl j))) j trivial)) rfl rfl)
        refine lv_aload_n hx hb dX12_layNeed_212 rfl (lv_at hl 1 rfl) ?_
        refine S_getR (n := 99) (C := RX12) (T := TX12) (N := 89) hx hb hg iX12 hown hK hW kd_66 rfl 64 (lt_b rfl) (hg (Cond.fieldLink RX12 118 "SlabWalkModel" "need" "[I") m1378) (fun _ h9 => h9) rfl dX12_layNeed_213 ?_
        refine lv_iload_n hx hb dX12_layNeed_216 rfl (lv_at hl 0 rfl) ?_
        refine ic_2 hx hb dX12_layNeed_217 ?_
        refine lv_iadd hx hb dX12_layNeed_218 ?_
        refine lv_topi (fun y_43 ey_43 => ?_)
        have ty_43 : y_43.toInt = y_3.toInt + 2 := xI_add rfl rfl ey_43 ((by first | exact ok_1160 ha_p0.1 ha_p1.1 ty_1 ty_2 ty_3 | omega)) ((by first | exact ok_1161 ha_p0.2 ha_p1.2 ty_1 ty_2 ty_3 | omega))
        refine S_iald hx hb hK hW kd_99 (vin ((by first | exact ok_1162 ha_p0.1 ha_p1.1 ty_1 ty_2 ty_3 ty_43 | omega)) ((by first | exact ok_1163 ha_p0.2 ha_p1.2 ty_1 ty_2 ty_3 ty_43 | omega))) dX12_layNeed_219 (fun y_44 ey_44 => ?_)
        have ty_44 : 0 ≤ y_44.toInt ∧ y_44.toInt ≤ 100000 := bv_99 hB_G_34 ey_44
        have u_45 : y_44.toInt = (G_10.1 99 y_43.toNatClampNeg).toInt := congrArg Int32.toInt (ey_44.trans ((hq_35.ri9 99 rfl y_43.toNatClampNeg)))
        have hn2_ : y_44.toInt = ndv (G_10.1 99) p0.toInt p1.toInt 2 := (ndv_at (f := G_34.1 99) (x := y_43) ((by first | exact ok_1165 ty_1 ty_2 ty_3 ty_43 | omega)) (congrArg Int32.toInt ey_44)).trans (ndv_eq (show G_34.1 99 = G_10.1 99 from (funext fun j => ((fun (j : Nat) (_ : True) => (hq_35.ri9 99 rfl j))) j trivial)) rfl rfl)
        refine S_calli (va_runS (As := [.int y_41, .int y_44]) (rest := [.int y_3, .ref (a 99)]) ⟨hx, hb, hml, hown, hts⟩ (n_lesser l D k A a z G_34 y_41 y_44 ) (va_cwS 2 hts (gd_S hgd m1863 m1864 m131 m1865) rfl rfl rfl hd_X12_lesser.2 ⟨Nat.le_of_ble_eq_true rfl, Nat.le_of_ble_eq_true rfl⟩) (pre_S hW hB_G_34 hK hZ hS) rfl rfl hl.1 rfl (lv_room (Nat.le_of_ble_eq_true rfl)) dX12_layNeed_220 ⟨Nat.le_of_ble_eq_true rfl, Nat.le_of_ble_eq_true rfl⟩) hS (fun r_46 G_47 H locs hpo hW hS => ?_)
        have hX_50 : Q_lesser y_41 y_44 G_34 r_46 G_47 := hpo
        obtain ⟨hB_G_47, hq_48, hp_49, -⟩ := hpo
        have hF := hF.call9 hq_48 rfl rfl
        refine S_iast hx hb hK hW hS kd_99 (vin ((by first | exact ok_1166 ha_p0.1 ha_p1.1 ty_1 ty_2 ty_3 | omega)) ((by first | exact ok_1167 ha_p0.2 ha_p1.2 ty_1 ty_2 ty_3 | omega))) dX12_layNeed_223 (fun G_51 H locs eG_51 hW hS => ?_)
        have hB_G_51 : Bd G_51 := hB_G_47.put (V := r_46.toInt) (lo := 0) (hi := 100000) eG_51 rfl rfl rfl ((by first | exact ok_1168 ty_41.1 ty_44.1 hp_49.2.2 | omega)) ((by first | exact ok_1169 ty_41.2 hp_49.1 | omega)) (hB_G_47.2.put eG_51 rfl)
        have hF := hF.put eG_51 (Or.inl (by decide))
        have hpL_ : PR (G_47.1 99) (G.1 98) (G.1 66 61).toInt (G.1 66 62).toInt (G.1 66 63).toInt (p0.toInt) (p1.toInt) := by rw [show G_47.1 99 = G_34.1 99 from (funext fun j => ((fun (j : Nat) (_ : True) => (hq_48.ri9 99 rfl j))) j trivial)]; exact hpF_
        have hfL_ : ((ndv (G_47.1 99) p0.toInt p1.toInt 1 = 1 ∨ ndv (G_47.1 99) p0.toInt p1.toInt 1 = 100000) ∧ ndv (G_47.1 99) p0.toInt p1.toInt 2 = 100000) ∨ ∃ u, NJ (G_47.1 99) (G.1 98) (G.1 66 61).toInt (G.1 66 62).toInt p0.toInt p1.toInt u ∧ u ≤ (G.1 66 63).toInt + 1 := by rw [show G_47.1 99 = G_34.1 99 from (funext fun j => ((fun (j : Nat) (_ : True) => (hq_48.ri9 99 rfl j))) j trivial)]; exact Or.inl ⟨Or.inr hy1F_, hy2F_⟩
        have hr1_ := hn1_.trans (show ndv (G_10.1 99) p0.toInt p1.toInt 1 = ndv (G_47.1 99) p0.toInt p1.toInt 1 by rw [show G_47.1 99 = G_10.1 99 from (funext fun j => ((fun (j : Nat) (_ : True) => ((hq_48.ri9 99 rfl j).trans (hq_35.ri9 99 rfl j)))) j trivial)])
        have hr2_ := hn2_.trans (show ndv (G_10.1 99) p0.toInt p1.toInt 2 = ndv (G_47.1 99) p0.toInt p1.toInt 2 by rw [show G_47.1 99 = G_10.1 99 from (funext fun j => ((fun (j : Nat) (_ : True) => ((hq_48.ri9 99 rfl j).trans (hq_35.ri9 99 rfl j)))) j trivial)])
        have hEnd_ : PR (G_51.1 99) (G.1 98) (G.1 66 61).toInt (G.1 66 62).toInt (G.1 66 63).toInt (p0.toInt) (p1.toInt + 1) := PR_next eG_51 (by first | (clear h400 d_1; omega) | omega) (by first | (clear h400 d_1; omega) | omega) (by first | (clear h400 d_1; omega) | omega) hle1 hpL_ (lw400 hB_G h400) (by first | (clear h400 d_1; omega) | omega) (by first | (clear h400 d_1; omega) | omega) (by first | (clear h400 d_1; omega) | omega) hfL_
        have hPG_ : PRG G_51 p0.toInt (p1.toInt + 1) := PRG_of hF (by decide) (by decide) hEnd_
        exact W.vret hx hb hr (fun t ht _ => ⟨⟨G_51, rfl, (Q_layNeed_mk ⟨hB_G_51, hF, (hPG_), ⟨y_1, ty_1, ⟨y_2, ty_2, ⟨y_3, ty_3, ⟨y_4, ty_4, ⟨y_5, ey_5, (Or.inl ⟨c_7, ⟨y_9, ty_9, ⟨y_12, ey_12.trans (congrFun ((rw_put eG_10 (by decide)).trans (rw_put eG_8 (by decide))) _), (Or.inr ⟨c_14, ⟨G_10, hB_G_10, (Fr.put (rs := [99]) (fs := []) (Fr.put (rs := [99]) (fs := []) Fr.rf eG_8 (Or.inl (by decide))) eG_10 (Or.inl (by decide))), (rw_ast eG_10).trans (congrArg (fun q => upd q (y_9.toNatClampNeg) 100000) (rw_ast eG_8)), ⟨r_33, G_34, hX_37, (Or.inr ⟨c_39, ⟨y_40, ty_40, ⟨y_41, ey_41, ⟨y_43, ty_43, ⟨y_44, ey_44, ⟨r_46, G_47, hX_50, ⟨(Fr.put (rs := [99]) (fs := []) Fr.rf eG_51 (Or.inl (by decide))), rw_ast eG_51⟩⟩⟩⟩⟩⟩⟩)⟩⟩⟩)⟩⟩⟩)⟩⟩⟩⟩⟩⟩), wd_t ht hW⟩, hS.F ht⟩) hS.2.2 dX12_layNeed_224
      · have c_39 : r_33.toInt = 0 := xI_eq rfl rfl c_39
        have d_3 := d_1 c_39
        refine lv_aload_n hx hb dX12_layNeed_68 rfl (lv_at hl 1 rfl) ?_
        have b_52 : 0 ≤ (G.1 66 61).toInt ∧ (G.1 66 61).toInt ≤ 60 := bd_66_61 hB_G
        refine S_getI (v := (G.1 66 61)) (C := RX12) (T := TX12) (N := 89) hx hb hg iX12 hown hK hW kd_66 rfl 61 (lt_b rfl) (hg (Cond.fieldLink RX12 475 "SlabWalkModel" "least" "I") m1375) (fun _ h9 => h9) rfl ((hq_35.i9 66 61 rfl rfl).trans ((gp_ne eG_10 (fun q => absurd q.1 (Nat.ne_of_beq_eq_false rfl))).trans (gp_ne eG_8 (fun q => absurd q.1 (Nat.ne_of_beq_eq_false rfl))))) dX12_layNeed_69 ?_
        have hpE_ : PR (G_34.1 99) (G.1 98) (G.1 66 61).toInt (G.1 66 62).toInt (G.1 66 63).toInt (p0.toInt) (p1.toInt) := by rw [show G_34.1 99 = G_10.1 99 from (funext fun j => ((fun (j : Nat) (_ : True) => (hq_35.ri9 99 rfl j))) j trivial)]; exact hp3_
        have hq1_ : ndv (G_34.1 99) p0.toInt p1.toInt 1 = 100000 := by rw [show G_34.1 99 = G_10.1 99 from (funext fun j => ((fun (j : Nat) (_ : True) => (hq_35.ri9 99 rfl j))) j trivial)]; exact (hy1_.trans (by decide))
        have hq2_ : ndv (G_34.1 99) p0.toInt p1.toInt 2 = 100000 := by rw [show G_34.1 99 = G_10.1 99 from (funext fun j => ((fun (j : Nat) (_ : True) => (hq_35.ri9 99 rfl j))) j trivial)]; exact (hy2_.trans (by decide))
        have hnj_ : NJ (G_34.1 99) (G.1 98) (G.1 66 61).toInt (G.1 66 62).toInt p0.toInt p1.toInt ((G.1 66 61).toInt) := by rw [show (G.1 66 61).toInt = (G.1 66 61).toInt from by omega]; exact NJ_0 hq1_ hq2_
        refine lv_istore (lv' := [(4, .int (G.1 66 61)), (3, .int y_3), (0, .ref (a 66)), (1, .int p0), (2, .int p1)]) hx hb dX12_layNeed_72 hl (lt_b rfl) rfl (fun ls hl => ?_)
        refine loop_N (Inv := fun n H locs ls => ∃ (G_53 : GS) (x_57 : Int32), (n : Int) = 100 - x_57.toInt ∧ (1 ≤ x_57.toInt ∧ x_57.toInt ≤ 100) ∧ (PR (G_53.1 99) (G.1 98) (G.1 66 61).toInt (G.1 66 62).toInt (G.1 66 63).toInt (p0.toInt) (p1.toInt)) ∧ (NJ (G_53.1 99) (G.1 98) (G.1 66 61).toInt (G.1 66 62).toInt p0.toInt p1.toInt (x_57.toInt)) ∧ ((G.1 66 61).toInt ≤ x_57.toInt) ∧ (x_57.toInt ≤ (G.1 66 63).toInt + 1) ∧ Rc (St_n_layNeed_1 p0 p1 y_3 G) ((G.1 66 61), G_34) (x_57, G_53) ∧ Wd D k A a G_53 H ∧ Bd G_53 ∧ Fr [99] [] G G_53 ∧ Fr [99] [] G_34 G_53 ∧ va_S A s.heap H locs ∧ lv_has ls 6 [(4, .int x_57), (3, .int y_3), (0, .ref (a 66)), (1, .int p0), (2, .int p1)]) (fun n_56 H locs ls ih_55 hI => ?_) (100 - (G.1 66 61).toInt : Int).toNat ⟨G_34, (G.1 66 61), (Int.toNat_of_nonneg ((by first | exact ok_754 b_52.2 | omega))), ⟨(by first | exact hle1 | omega), (by first | exact ok_755 b_52.2 | omega)⟩, (by assumption), (by assumption), ((by first | exact ok_572 | omega)), ((by first | exact ok_1170 hml9.1 hml9.2 | omega)), Rc.rf, hW, hB_G_34, hF, Fr.rf, hS, lv_sub hl [0, 1, 2, 3, 4] rfl⟩
        obtain ⟨G_53, x_57, hn_64, f_59, f_60, f_61, f_62, f_63, hX_58, hW, hB_G_53, hF, hq_54, hS, hl⟩ := hI
        refine lv_iload hx hb dX12_layNeed_74 (lv_at hl 0 rfl) ?_
        refine lv_iload_n hx hb dX12_layNeed_76 rfl (lv_at hl 4 rfl) ?_
        refine ic_1 hx hb dX12_layNeed_77 ?_
        refine lv_icmp_ne (tgt := 88) hx hb dX12_layNeed_78 rfl (fun c_65 => ?_) (fun c_65 => ?_)
        · have c_65 : p1.toInt ≠ 1 := xI_ne rfl rfl c_65
          refine lv_aload_n hx hb dX12_layNeed_88 rfl (lv_at hl 2 rfl) ?_
          have b_66 : 0 ≤ (G.1 66 63).toInt ∧ (G.1 66 63).toInt ≤ 99 := bd_66_63 hB_G
          refine S_getI (v := (G.1 66 63)) (C := RX12) (T := TX12) (N := 89) hx hb hg iX12 hown hK hW kd_66 rfl 63 (lt_b rfl) (hg (Cond.fieldLink RX12 481 "SlabWalkModel" "leap" "I") m1377) (fun _ h9 => h9) rfl ((hq_54.i9 66 63 rfl rfl).trans ((hq_35.i9 66 63 rfl rfl).trans ((gp_ne eG_10 (fun q => absurd q.1 (Nat.ne_of_beq_eq_false rfl))).trans (gp_ne eG_8 (fun q => absurd q.1 (Nat.ne_of_beq_eq_false rfl)))))) dX12_layNeed_89 ?_
          refine lv_icmp_gt (tgt := 199) hx hb dX12_layNeed_92 rfl (fun c_67 => ?_) (fun c_67 => ?_)
          · have c_67 : (G.1 66 63).toInt < x_57.toInt := xI_lt rfl rfl c_67
            have hpF_ : PR (G_53.1 99) (G.1 98) (G.1 66 61).toInt (G.1 66 62).toInt (G.1 66 63).toInt (p0.toInt) (p1.toInt) := by rw [show G_53.1 99 = G_53.1 99 from (funext fun j => ((fun (j : Nat) (_ : True) => rfl)) j trivial)]; exact (show PR (G_53.1 99) (G.1 98) (G.1 66 61).toInt (G.1 66 62).toInt (G.1 66 63).toInt (p0.toInt) (p1.toInt) by assumption)
            have hjF_ : NJ (G_53.1 99) (G.1 98) (G.1 66 61).toInt (G.1 66 62).toInt p0.toInt p1.toInt (x_57.toInt) := by rw [show G_53.1 99 = G_53.1 99 from (funext fun j => ((fun (j : Nat) (_ : True) => rfl)) j trivial)]; exact (show NJ (G_53.1 99) (G.1 98) (G.1 66 61).toInt (G.1 66 62).toInt p0.toInt p1.toInt (x_57.toInt) by assumption)
            refine lv_aload_n hx hb dX12_layNeed_199 rfl (lv_at hl 2 rfl) ?_
            refine S_getR (n := 99) (C := RX12) (T := TX12) (N := 89) hx hb hg iX12 hown hK hW kd_66 rfl 64 (lt_b rfl) (hg (Cond.fieldLink RX12 118 "SlabWalkModel" "need" "[I") m1378) (fun _ h9 => h9) rfl dX12_layNeed_200 ?_
            refine lv_iload_n hx hb dX12_layNeed_203 rfl (lv_at hl 1 rfl) ?_
            refine lv_aload_n hx hb dX12_layNeed_204 rfl (lv_at hl 2 rfl) ?_
            refine S_getR (n := 99) (C := RX12) (T := TX12) (N := 89) hx hb hg iX12 hown hK hW kd_66 rfl 64 (lt_b rfl) (hg (Cond.fieldLink RX12 118 "SlabWalkModel" "need" "[I") m1378) (fun _ h9 => h9) rfl dX12_layNeed_205 ?_
            refine lv_iload_n hx hb dX12_layNeed_208 rfl (lv_at hl 1 rfl) ?_
            refine ic_1 hx hb dX12_layNeed_209 ?_
            refine lv_iadd hx hb dX12_layNeed_210 ?_
            refine lv_topi (fun y_68 ey_68 => ?_)
            have ty_68 : y_68.toInt = y_3.toInt + 1 := xI_add rfl rfl ey_68 ((by first | exact ok_1156 ha_p0.1 ha_p1.1 ty_1 ty_2 ty_3 | omega)) ((by first | exact ok_1157 ha_p0.2 ha_p1.2 ty_1 ty_2 ty_3 | omega))
            refine S_iald hx hb hK hW kd_99 (vin ((by first | exact ok_1158 ha_p0.1 ha_p1.1 ty_1 ty_2 ty_3 ty_68 | omega)) ((by first | exact ok_1159 ha_p0.2 ha_p1.2 ty_1 ty_2 ty_3 ty_68 | omega))) dX12_layNeed_211 (fun y_69 ey_69 => ?_)
            have ty_69 : 0 ≤ y_69.toInt ∧ y_69.toInt ≤ 100000 := bv_99 hB_G_53 ey_69
            have u_70 : y_69.toInt = (G_53.1 99 y_68.toNatClampNeg).toInt := congrArg Int32.toInt (ey_69)
            have hn1_ : y_69.toInt = ndv (G_53.1 99) p0.toInt p1.toInt 1 := (ndv_at (f := G_53.1 99) (x := y_68) ((by first | exact ok_1164 ty_1 ty_2 ty_3 ty_68 | omega)) (congrArg Int32.toInt ey_69)).trans (ndv_eq (show G_53.1 99 = G_53.1 99 from (funext fun j => ((fun (j : Nat) (_ : True) => rfl)) j trivial)) rfl rfl)
            refine lv_aload_n hx hb dX12_layNeed_212 rfl (lv_at hl 2 rfl) ?_
            refine S_getR (n := 99) (C := RX12) (T := TX12) (N := 89) hx hb hg iX12 hown hK hW kd_66 rfl 64 (lt_b rfl) (hg (Cond.fieldLink RX12 118 "SlabWalkModel" "need" "[I") m1378) (fun _ h9 => h9) rfl dX12_layNeed_213 ?_
            refine lv_iload_n hx hb dX12_layNeed_216 rfl (lv_at hl 1 rfl) ?_
            refine ic_2 hx hb dX12_layNeed_217 ?_
            refine lv_iadd hx hb dX12_layNeed_218 ?_
            refine lv_topi (fun y_71 ey_71 => ?_)
            have ty_71 : y_71.toInt = y_3.toInt + 2 := xI_add rfl rfl ey_71 ((by first | exact ok_1160 ha_p0.1 ha_p1.1 ty_1 ty_2 ty_3 | omega)) ((by first | exact ok_1161 ha_p0.2 ha_p1.2 ty_1 ty_2 ty_3 | omega))
            refine S_iald hx hb hK hW kd_99 (vin ((by first | exact ok_1162 ha_p0.1 ha_p1.1 ty_1 ty_2 ty_3 ty_71 | omega)) ((by first | exact ok_1163 ha_p0.2 ha_p1.2 ty_1 ty_2 ty_3 ty_71 | omega))) dX12_layNeed_219 (fun y_72 ey_72 => ?_)
            have ty_72 : 0 ≤ y_72.toInt ∧ y_72.toInt ≤ 100000 := bv_99 hB_G_53 ey_72
            have u_73 : y_72.toInt = (G_53.1 99 y_71.toNatClampNeg).toInt := congrArg Int32.toInt (ey_72)
            have hn2_ : y_72.toInt = ndv (G_53.1 99) p0.toInt p1.toInt 2 := (ndv_at (f := G_53.1 99) (x := y_71) ((by first | exact ok_1165 ty_1 ty_2 ty_3 ty_71 | omega)) (congrArg Int32.toInt ey_72)).trans (ndv_eq (show G_53.1 99 = G_53.1 99 from (funext fun j => ((fun (j : Nat) (_ : True) => rfl)) j trivial)) rfl rfl)
            refine S_calli (va_runS (As := [.int y_69, .int y_72]) (rest := [.int y_3, .ref (a 99)]) ⟨hx, hb, hml, hown, hts⟩ (n_lesser l D k A a z G_53 y_69 y_72 ) (va_cwS 2 hts (gd_S hgd m1863 m1864 m131 m1865) rfl rfl rfl hd_X12_lesser.2 ⟨Nat.le_of_ble_eq_true rfl, Nat.le_of_ble_eq_true rfl⟩) (pre_S hW hB_G_53 hK hZ hS) rfl rfl hl.1 rfl (lv_room (Nat.le_of_ble_eq_true rfl)) dX12_layNeed_220 ⟨Nat.le_of_ble_eq_true rfl, Nat.le_of_ble_eq_true rfl⟩) hS (fun r_74 G_75 H locs hpo hW hS => ?_)
            have hX_78 : Q_lesser y_69 y_72 G_53 r_74 G_75 := hpo
            obtain ⟨hB_G_75, hq_76, hp_77, -⟩ := hpo
            have hF := hF.call9 hq_76 rfl rfl
            refine S_iast hx hb hK hW hS kd_99 (vin ((by first | exact ok_1166 ha_p0.1 ha_p1.1 ty_1 ty_2 ty_3 | omega)) ((by first | exact ok_1167 ha_p0.2 ha_p1.2 ty_1 ty_2 ty_3 | omega))) dX12_layNeed_223 (fun G_79 H locs eG_79 hW hS => ?_)
            have hB_G_79 : Bd G_79 := hB_G_75.put (V := r_74.toInt) (lo := 0) (hi := 100000) eG_79 rfl rfl rfl ((by first | exact ok_1168 ty_69.1 ty_72.1 hp_77.2.2 | omega)) ((by first | exact ok_1169 ty_69.2 hp_77.1 | omega)) (hB_G_75.2.put eG_79 rfl)
            have hF := hF.put eG_79 (Or.inl (by decide))
            have hpL_ : PR (G_75.1 99) (G.1 98) (G.1 66 61).toInt (G.1 66 62).toInt (G.1 66 63).toInt (p0.toInt) (p1.toInt) := by rw [show G_75.1 99 = G_53.1 99 from (funext fun j => ((fun (j : Nat) (_ : True) => (hq_76.ri9 99 rfl j))) j trivial)]; exact hpF_
            have hfL_ : ((ndv (G_75.1 99) p0.toInt p1.toInt 1 = 1 ∨ ndv (G_75.1 99) p0.toInt p1.toInt 1 = 100000) ∧ ndv (G_75.1 99) p0.toInt p1.toInt 2 = 100000) ∨ ∃ u, NJ (G_75.1 99) (G.1 98) (G.1 66 61).toInt (G.1 66 62).toInt p0.toInt p1.toInt u ∧ u ≤ (G.1 66 63).toInt + 1 := by rw [show G_75.1 99 = G_53.1 99 from (funext fun j => ((fun (j : Nat) (_ : True) => (hq_76.ri9 99 rfl j))) j trivial)]; exact Or.inr ⟨_, hjF_, by omega⟩
            have hr1_ := hn1_.trans (show ndv (G_53.1 99) p0.toInt p1.toInt 1 = ndv (G_75.1 99) p0.toInt p1.toInt 1 by rw [show G_75.1 99 = G_53.1 99 from (funext fun j => ((fun (j : Nat) (_ : True) => (hq_76.ri9 99 rfl j))) j trivial)])
            have hr2_ := hn2_.trans (show ndv (G_53.1 99) p0.toInt p1.toInt 2 = ndv (G_75.1 99) p0.toInt p1.toInt 2 by rw [show G_75.1 99 = G_53.1 99 from (funext fun j => ((fun (j : Nat) (_ : True) => (hq_76.ri9 99 rfl j))) j trivial)])
            have hEnd_ : PR (G_79.1 99) (G.1 98) (G.1 66 61).toInt (G.1 66 62).toInt (G.1 66 63).toInt (p0.toInt) (p1.toInt + 1) := PR_next eG_79 (by first | (clear h400 d_1 hn_64; omega) | omega) (by first | (clear h400 d_1 hn_64; omega) | omega) (by first | (clear h400 d_1 hn_64; omega) | omega) hle1 hpL_ (lw400 hB_G h400) (by first | (clear h400 d_1 hn_64; omega) | omega) (by first | (clear h400 d_1 hn_64; omega) | omega) (by first | (clear h400 d_1 hn_64; omega) | omega) hfL_
            have hPG_ : PRG G_79 p0.toInt (p1.toInt + 1) := PRG_of hF (by decide) (by decide) hEnd_
            exact W.vret hx hb hr (fun t ht _ => ⟨⟨G_79, rfl, (Q_layNeed_mk ⟨hB_G_79, hF, (hPG_), ⟨y_1, ty_1, ⟨y_2, ty_2, ⟨y_3, ty_3, ⟨y_4, ty_4, ⟨y_5, ey_5, (Or.inl ⟨c_7, ⟨y_9, ty_9, ⟨y_12, ey_12.trans (congrFun ((rw_put eG_10 (by decide)).trans (rw_put eG_8 (by decide))) _), (Or.inr ⟨c_14, ⟨G_10, hB_G_10, (Fr.put (rs := [99]) (fs := []) (Fr.put (rs := [99]) (fs := []) Fr.rf eG_8 (Or.inl (by decide))) eG_10 (Or.inl (by decide))), (rw_ast eG_10).trans (congrArg (fun q => upd q (y_9.toNatClampNeg) 100000) (rw_ast eG_8)), ⟨r_33, G_34, hX_37, (Or.inl ⟨c_39, ⟨x_57, G_53, hX_58, f_59, f_60, f_61, f_62, f_63, hB_G_53, hq_54, (Or.inr ⟨c_65, ⟨c_67, ⟨y_68, ty_68, ⟨y_69, ey_69, ⟨y_71, ty_71, ⟨y_72, ey_72, ⟨r_74, G_75, hX_78, ⟨(Fr.put (rs := [99]) (fs := []) Fr.rf eG_79 (Or.inl (by decide))), rw_ast eG_79⟩⟩⟩⟩⟩⟩⟩⟩)⟩⟩)⟩⟩⟩)⟩⟩⟩)⟩⟩⟩⟩⟩⟩), wd_t ht hW⟩, hS.F ht⟩) hS.2.2 dX12_layNeed_224
          · have c_67 : x_57.toInt ≤ (G.1 66 63).toInt := xI_nlt rfl rfl c_67
            refine lv_aload_n hx hb dX12_layNeed_95 rfl (lv_at hl 2 rfl) ?_
            refine S_getR (n := 98) (C := RX12) (T := TX12) (N := 89) hx hb hg iX12 hown hK hW kd_66 rfl 58 (lt_b rfl) (hg (Cond.fieldLink RX12 115 "SlabWalkModel" "lawful" "[Z") m1372) (fun _ h9 => h9) rfl dX12_layNeed_96 ?_
            refine lv_iload_n hx hb dX12_layNeed_99 rfl (lv_at hl 3 rfl) ?_
            refine lv_iload hx hb dX12_layNeed_100 (lv_at hl 0 rfl) ?_
            refine lv_iadd hx hb dX12_layNeed_102 ?_
            refine lv_topi (fun y_80 ey_80 => ?_)
            have ty_80 : y_80.toInt = p0.toInt + x_57.toInt := xI_add rfl rfl ey_80 ((by first | exact ok_252 ha_p0.1 f_59.1 | omega)) ((by first | exact ok_1171 ha_p0.2 f_59.2 | omega))
            refine S_zald hx hb hK hW kd_98 (vin ((by first | exact ok_254 ha_p0.1 f_59.1 ty_80 | omega)) ((by first | exact ok_1172 ha_p0.2 f_59.2 ty_80 | omega))) dX12_layNeed_103 (fun y_81 ey_81 => ?_)
            have ty_81 := hB_G_53.law ey_81
            have u_82 : y_81.toInt = (G.1 98 y_80.toNatClampNeg).toInt := congrArg Int32.toInt (ey_81.trans (((hq_54.ri9 98 rfl y_80.toNatClampNeg).trans ((hq_35.ri9 98 rfl y_80.toNatClampNeg).trans ((gp_ne eG_10 (fun q => absurd q.1 (Nat.ne_of_beq_eq_false rfl))).trans (gp_ne eG_8 (fun q => absurd q.1 (Nat.ne_of_beq_eq_false rfl))))))))
            have b_83 : 0 ≤ (G.1 98 400).toInt ∧ (G.1 98 400).toInt ≤ 1 := bd_98_400 hB_G
            have g_84 : (G_53.1 98 400).toInt = (G.1 98 400).toInt := (congrArg Int32.toInt (show G_53.1 98 400 = (G.1 98 400) from ((hq_54.i9 98 400 rfl rfl).trans ((hq_35.i9 98 400 rfl rfl).trans ((gp_ne eG_10 (fun q => absurd q.1 (Nat.ne_of_beq_eq_false rfl))).trans (gp_ne eG_8 (fun q => absurd q.1 (Nat.ne_of_beq_eq_false rfl))))))))
            have u_85 := law4 (G := G_53) (by first | (clear h400 d_1 hn_64 b_83 g_84; omega) | omega) ey_81
            refine lv_if_ne (tgt := 110) hx hb dX12_layNeed_104 rfl (fun c_86 => ?_) (fun c_86 => ?_)
            · have c_86 : y_81.toInt ≠ 0 := xI_ne rfl rfl c_86
              refine lv_iload hx hb dX12_layNeed_110 (lv_at hl 0 rfl) ?_
              refine lv_aload_n hx hb dX12_layNeed_112 rfl (lv_at hl 2 rfl) ?_
              refine S_getI (v := (G.1 66 62)) (C := RX12) (T := TX12) (N := 89) hx hb hg iX12 hown hK hW kd_66 rfl 62 (lt_b rfl) (hg (Cond.fieldLink RX12 478 "SlabWalkModel" "most" "I") m1376) (fun _ h9 => h9) rfl ((hq_54.i9 66 62 rfl rfl).trans ((hq_35.i9 66 62 rfl rfl).trans ((gp_ne eG_10 (fun q => absurd q.1 (Nat.ne_of_beq_eq_false rfl))).trans ((gp_ne eG_8 (fun q => absurd q.1 (Nat.ne_of_beq_eq_false rfl))).trans (rfl))))) dX12_layNeed_113 ?_
              refine lv_icmp_le (tgt := 123) hx hb dX12_layNeed_116 rfl (fun c_87 => ?_) (fun c_87 => ?_)
              · have c_87 : x_57.toInt ≤ (G.1 66 62).toInt := xI_le rfl rfl c_87
                refine ic_0 hx hb dX12_layNeed_123 ?_
                have qc_88 : (0 : Int32).toInt = 0 := rfl
                refine S_calli (va_runS (As := [.int 0]) (rest := []) ⟨hx, hb, hml, hown, hts⟩ (n_truth l D k A a z G_53 0 ⟨by decide, by decide⟩) (va_cwS 1 hts (gd_S hgd m1788 m1789 m131 m1790) rfl rfl rfl hd_X12_truth.2 ⟨Nat.le_of_ble_eq_true rfl, Nat.le_of_ble_eq_true rfl⟩) (pre_S hW hB_G_53 hK hZ hS) rfl rfl hl.1 rfl (lv_room (Nat.le_of_ble_eq_true rfl)) dX12_layNeed_124 ⟨Nat.le_of_ble_eq_true rfl, Nat.le_of_ble_eq_true rfl⟩) hS (fun r_89 G_90 H locs hpo hW hS => ?_)
                have hX_93 : Q_truth 0 G_53 r_89 G_90 := hpo
                obtain ⟨hB_G_90, hq_91, f_94, hp_92, -⟩ := hpo
                have hF := hF.call9 hq_91 rfl rfl
                refine lv_istore (lv' := [(5, .int r_89), (4, .int x_57), (3, .int y_3), (0, .ref (a 66)), (1, .int p0), (2, .int p1)]) hx hb dX12_layNeed_127 hl (lt_b rfl) rfl (fun ls hl => ?_)
                refine lv_aload_n hx hb dX12_layNeed_129 rfl (lv_at hl 3 rfl) ?_
                refine S_getR (n := 99) (C := RX12) (T := TX12) (N := 89) hx hb hg iX12 hown hK hW kd_66 rfl 64 (lt_b rfl) (hg (Cond.fieldLink RX12 118 "SlabWalkModel" "need" "[I") m1378) (fun _ h9 => h9) rfl dX12_layNeed_130 ?_
                refine lv_iload_n hx hb dX12_layNeed_133 rfl (lv_at hl 2 rfl) ?_
                refine ic_1 hx hb dX12_layNeed_134 ?_
                refine lv_iadd hx hb dX12_layNeed_135 ?_
                refine lv_topi (fun y_95 ey_95 => ?_)
                have ty_95 : y_95.toInt = y_3.toInt + 1 := xI_add rfl rfl ey_95 ((by first | exact ok_1156 ha_p0.1 ha_p1.1 ty_1 ty_2 ty_3 | omega)) ((by first | exact ok_1157 ha_p0.2 ha_p1.2 ty_1 ty_2 ty_3 | omega))
                refine lv_aload_n hx hb dX12_layNeed_136 rfl (lv_at hl 3 rfl) ?_
                refine S_getR (n := 99) (C := RX12) (T := TX12) (N := 89) hx hb hg iX12 hown hK hW kd_66 rfl 64 (lt_b rfl) (hg (Cond.fieldLink RX12 118 "SlabWalkModel" "need" "[I") m1378) (fun _ h9 => h9) rfl dX12_layNeed_137 ?_
                refine lv_iload_n hx hb dX12_layNeed_140 rfl (lv_at hl 2 rfl) ?_
                refine ic_1 hx hb dX12_layNeed_141 ?_
                refine lv_iadd hx hb dX12_layNeed_142 ?_
                refine lv_topi (fun y_96 ey_96 => ?_)
                have ty_96 : y_96.toInt = y_3.toInt + 1 := xI_add rfl rfl ey_96 ((by first | exact ok_1156 ha_p0.1 ha_p1.1 ty_1 ty_2 ty_3 | omega)) ((by first | exact ok_1157 ha_p0.2 ha_p1.2 ty_1 ty_2 ty_3 | omega))
                refine S_iald hx hb hK hW kd_99 (vin ((by first | exact ok_1158 ha_p0.1 ha_p1.1 ty_1 ty_2 ty_3 ty_96 | omega)) ((by first | exact ok_1159 ha_p0.2 ha_p1.2 ty_1 ty_2 ty_3 ty_96 | omega))) dX12_layNeed_143 (fun y_97 ey_97 => ?_)
                have ty_97 : 0 ≤ y_97.toInt ∧ y_97.toInt ≤ 100000 := bv_99 hB_G_90 ey_97
                have u_98 : y_97.toInt = (G_53.1 99 y_96.toNatClampNeg).toInt := congrArg Int32.toInt (ey_97.trans ((hq_91.ri9 99 rfl y_96.toNatClampNeg)))
                have hn1_ : y_97.toInt = ndv (G_53.1 99) p0.toInt p1.toInt 1 := (ndv_at (f := G_90.1 99) (x := y_96) ((by first | exact ok_1164 ty_1 ty_2 ty_3 ty_96 | omega)) (congrArg Int32.toInt ey_97)).trans (ndv_eq (show G_90.1 99 = G_53.1 99 from (funext fun j => ((fun (j : Nat) (_ : True) => (hq_91.ri9 99 rfl j))) j trivial)) rfl rfl)
                refine ic_1 hx hb dX12_layNeed_144 ?_
                refine lv_aload_n hx hb dX12_layNeed_145 rfl (lv_at hl 3 rfl) ?_
                refine lv_iload_n hx hb dX12_layNeed_146 rfl (lv_at hl 4 rfl) ?_
                refine lv_iload hx hb dX12_layNeed_147 (lv_at hl 1 rfl) ?_
                refine lv_iadd hx hb dX12_layNeed_149 ?_
                refine lv_topi (fun y_99 ey_99 => ?_)
                have ty_99 : y_99.toInt = p0.toInt + x_57.toInt := xI_add rfl rfl ey_99 ((by first | exact ok_252 ha_p0.1 f_59.1 | omega)) ((by first | exact ok_1171 ha_p0.2 f_59.2 | omega))
                refine lv_iload hx hb dX12_layNeed_150 (lv_at hl 0 rfl) ?_
                refine ic_2 hx hb dX12_layNeed_152 ?_
                have qc_100 : (2 : Int32).toInt = 2 := rfl
                refine S_calli (va_runV (As := [.int y_99, .int r_89, .int 2]) (rest := [.int 1, .int y_97, .int y_95, .ref (a 99)]) ⟨hx, hb, hml, hown, hts⟩ (n_needOf l D k A a z G_90 y_99 r_89 2 ⟨(by first | exact ok_254 ha_p0.1 f_59.1 ty_99 | omega), (by first | (clear h400 d_1 hn_64 b_83 g_84 f_94 hp_92; omega) | omega)⟩ ⟨(by first | exact f_94.1 | omega), (by first | exact f_94.2 | omega)⟩ ⟨by decide, by decide⟩) (cwV 3 hts (gd_V hgd m1859 m1861 m96 m131 m1862) rfl rfl rfl hd_X12_needOf ⟨Nat.le_of_ble_eq_true rfl, Nat.le_of_ble_eq_true rfl⟩) (pre_W hW hB_G_90 hK hZ hS kd_66 rfl) rfl rfl hl.1 rfl (lv_room (Nat.le_of_ble_eq_true rfl)) dX12_layNeed_153 ⟨Nat.le_of_ble_eq_true rfl, Nat.le_of_ble_eq_true rfl⟩) hS (fun r_101 G_102 H locs hpo hW hS => ?_)
                have hX_105 : Q_needOf y_99 r_89 2 G_90 r_101 G_102 := hpo
                obtain ⟨hB_G_102, hq_103, f_106, hp_104, -⟩ := hpo
                have hF := hF.call9 hq_103 rfl rfl
                have u_107 := trI_v x_57.toInt (G.1 66 62).toInt
                have d_4 := u_107.1
                have d_5 := u_107.2 c_87
                have hm2_ : r_101.toInt = ndv (G_53.1 99) (p0.toInt + x_57.toInt) (trI x_57.toInt (G.1 66 62).toInt) 2 := hp_104.trans (ndv_eq (show G_90.1 99 = G_53.1 99 from (funext fun j => ((fun (j : Nat) (_ : True) => (hq_91.ri9 99 rfl j))) j trivial)) ((by first | exact ty_99 | omega)) ((by first | exact ok_1173 qc_88 f_94.1 f_94.2 hp_92 d_5 | omega)))
                refine lv_iadd hx hb dX12_layNeed_156 ?_
                refine lv_topi (fun y_108 ey_108 => ?_)
                have ty_108 : y_108.toInt = 1 + r_101.toInt := xI_add rfl rfl ey_108 ((by first | exact ok_1174 f_106.1 | omega)) ((by first | exact ok_1175 f_106.2 | omega))
                refine S_calli (va_runS (As := [.int y_97, .int y_108]) (rest := [.int y_95, .ref (a 99)]) ⟨hx, hb, hml, hown, hts⟩ (n_lesser l D k A a z G_102 y_97 y_108 ) (va_cwS 2 hts (gd_S hgd m1863 m1864 m131 m1865) rfl rfl rfl hd_X12_lesser.2 ⟨Nat.le_of_ble_eq_true rfl, Nat.le_of_ble_eq_true rfl⟩) (pre_S hW hB_G_102 hK hZ hS) rfl rfl hl.1 rfl (lv_room (Nat.le_of_ble_eq_true rfl)) dX12_layNeed_157 ⟨Nat.le_of_ble_eq_true rfl, Nat.le_of_ble_eq_true rfl⟩) hS (fun r_109 G_110 H locs hpo hW hS => ?_)
                have hX_113 : Q_lesser y_97 y_108 G_102 r_109 G_110 := hpo
                obtain ⟨hB_G_110, hq_111, hp_112, -⟩ := hpo
                have hF := hF.call9 hq_111 rfl rfl
                refine S_iast hx hb hK hW hS kd_99 (vin ((by first | exact ok_1158 ha_p0.1 ha_p1.1 ty_1 ty_2 ty_3 ty_95 | omega)) ((by first | exact ok_1159 ha_p0.2 ha_p1.2 ty_1 ty_2 ty_3 ty_95 | omega))) dX12_layNeed_160 (fun G_114 H locs eG_114 hW hS => ?_)
                have hB_G_114 : Bd G_114 := hB_G_110.put (V := r_109.toInt) (lo := 0) (hi := 100000) eG_114 rfl rfl rfl ((by first | exact ok_1176 ty_97.1 f_106.1 ty_108 hp_112.2.2 | omega)) ((by first | exact ok_1169 ty_97.2 hp_112.1 | omega)) (hB_G_110.2.put eG_114 rfl)
                have hF := hF.put eG_114 (Or.inl (by decide))
                refine lv_aload_n hx hb dX12_layNeed_161 rfl (lv_at hl 3 rfl) ?_
                refine S_getR (n := 99) (C := RX12) (T := TX12) (N := 89) hx hb hg iX12 hown hK hW kd_66 rfl 64 (lt_b rfl) (hg (Cond.fieldLink RX12 118 "SlabWalkModel" "need" "[I") m1378) (fun _ h9 => h9) rfl dX12_layNeed_162 ?_
                refine lv_iload_n hx hb dX12_layNeed_165 rfl (lv_at hl 2 rfl) ?_
                refine ic_2 hx hb dX12_layNeed_166 ?_
                refine lv_iadd hx hb dX12_layNeed_167 ?_
                refine lv_topi (fun y_115 ey_115 => ?_)
                have ty_115 : y_115.toInt = y_3.toInt + 2 := xI_add rfl rfl ey_115 ((by first | exact ok_1160 ha_p0.1 ha_p1.1 ty_1 ty_2 ty_3 | omega)) ((by first | exact ok_1161 ha_p0.2 ha_p1.2 ty_1 ty_2 ty_3 | omega))
                refine lv_aload_n hx hb dX12_layNeed_168 rfl (lv_at hl 3 rfl) ?_
                refine S_getR (n := 99) (C := RX12) (T := TX12) (N := 89) hx hb hg iX12 hown hK hW kd_66 rfl 64 (lt_b rfl) (hg (Cond.fieldLink RX12 118 "SlabWalkModel" "need" "[I") m1378) (fun _ h9 => h9) rfl dX12_layNeed_169 ?_
                refine lv_iload_n hx hb dX12_layNeed_172 rfl (lv_at hl 2 rfl) ?_
                refine ic_2 hx hb dX12_layNeed_173 ?_
                refine lv_iadd hx hb dX12_layNeed_174 ?_
                refine lv_topi (fun y_116 ey_116 => ?_)
                have ty_116 : y_116.toInt = y_3.toInt + 2 := xI_add rfl rfl ey_116 ((by first | exact ok_1160 ha_p0.1 ha_p1.1 ty_1 ty_2 ty_3 | omega)) ((by first | exact ok_1161 ha_p0.2 ha_p1.2 ty_1 ty_2 ty_3 | omega))
                refine S_iald hx hb hK hW kd_99 (vin ((by first | exact ok_1162 ha_p0.1 ha_p1.1 ty_1 ty_2 ty_3 ty_116 | omega)) ((by first | exact ok_1163 ha_p0.2 ha_p1.2 ty_1 ty_2 ty_3 ty_116 | omega))) dX12_layNeed_175 (fun y_117 ey_117 => ?_)
                have ty_117 : 0 ≤ y_117.toInt ∧ y_117.toInt ≤ 100000 := bv_99 hB_G_114 ey_117
                have u_118 : y_117.toInt = (G_114.1 99 y_116.toNatClampNeg).toInt := congrArg Int32.toInt (ey_117)
                have hn2_ : y_117.toInt = ndv (G_114.1 99) p0.toInt p1.toInt 2 := (ndv_at (f := G_114.1 99) (x := y_116) ((by first | exact ok_1165 ty_1 ty_2 ty_3 ty_116 | omega)) (congrArg Int32.toInt ey_117)).trans (ndv_eq (show G_114.1 99 = G_114.1 99 from (funext fun j => ((fun (j : Nat) (_ : True) => rfl)) j trivial)) rfl rfl)
                refine ic_1 hx hb dX12_layNeed_176 ?_
                refine lv_aload_n hx hb dX12_layNeed_177 rfl (lv_at hl 3 rfl) ?_
                refine lv_iload_n hx hb dX12_layNeed_178 rfl (lv_at hl 4 rfl) ?_
                refine lv_iload hx hb dX12_layNeed_179 (lv_at hl 1 rfl) ?_
                refine lv_iadd hx hb dX12_layNeed_181 ?_
                refine lv_topi (fun y_119 ey_119 => ?_)
                have ty_119 : y_119.toInt = p0.toInt + x_57.toInt := xI_add rfl rfl ey_119 ((by first | exact ok_252 ha_p0.1 f_59.1 | omega)) ((by first | exact ok_1171 ha_p0.2 f_59.2 | omega))
                refine lv_iload hx hb dX12_layNeed_182 (lv_at hl 0 rfl) ?_
                refine ic_1 hx hb dX12_layNeed_184 ?_
                have qc_120 : (1 : Int32).toInt = 1 := rfl
                refine S_calli (va_runV (As := [.int y_119, .int r_89, .int 1]) (rest := [.int 1, .int y_117, .int y_115, .ref (a 99)]) ⟨hx, hb, hml, hown, hts⟩ (n_needOf l D k A a z G_114 y_119 r_89 1 ⟨(by first | exact ok_254 ha_p0.1 f_59.1 ty_119 | omega), (by first | (clear h400 d_1 hn_64 b_83 g_84 u_107; omega) | omega)⟩ ⟨(by first | exact f_94.1 | omega), (by first | exact f_94.2 | omega)⟩ ⟨by decide, by decide⟩) (cwV 3 hts (gd_V hgd m1859 m1861 m96 m131 m1862) rfl rfl rfl hd_X12_needOf ⟨Nat.le_of_ble_eq_true rfl, Nat.le_of_ble_eq_true rfl⟩) (pre_W hW hB_G_114 hK hZ hS kd_66 rfl) rfl rfl hl.1 rfl (lv_room (Nat.le_of_ble_eq_true rfl)) dX12_layNeed_185 ⟨Nat.le_of_ble_eq_true rfl, Nat.le_of_ble_eq_true rfl⟩) hS (fun r_121 G_122 H locs hpo hW hS => ?_)
                have hX_125 : Q_needOf y_119 r_89 1 G_114 r_121 G_122 := hpo
                obtain ⟨hB_G_122, hq_123, f_126, hp_124, -⟩ := hpo
                have hF := hF.call9 hq_123 rfl rfl
                have u_127 := trI_v x_57.toInt (G.1 66 62).toInt
                have d_6 := u_127.1
                have d_7 := u_127.2 c_87
                have hm1_ : r_121.toInt = ndv (G_114.1 99) (p0.toInt + x_57.toInt) (trI x_57.toInt (G.1 66 62).toInt) 1 := hp_124.trans (ndv_eq (show G_114.1 99 = G_114.1 99 from (funext fun j => ((fun (j : Nat) (_ : True) => rfl)) j trivial)) ((by first | exact ty_119 | omega)) ((by first | exact ok_1173 qc_88 f_94.1 f_94.2 hp_92 d_5 | omega)))
                refine lv_iadd hx hb dX12_layNeed_188 ?_
                refine lv_topi (fun y_128 ey_128 => ?_)
                have ty_128 : y_128.toInt = 1 + r_121.toInt := xI_add rfl rfl ey_128 ((by first | exact ok_1174 f_126.1 | omega)) ((by first | exact ok_1175 f_126.2 | omega))
                refine S_calli (va_runS (As := [.int y_117, .int y_128]) (rest := [.int y_115, .ref (a 99)]) ⟨hx, hb, hml, hown, hts⟩ (n_lesser l D k A a z G_122 y_117 y_128 ) (va_cwS 2 hts (gd_S hgd m1863 m1864 m131 m1865) rfl rfl rfl hd_X12_lesser.2 ⟨Nat.le_of_ble_eq_true rfl, Nat.le_of_ble_eq_true rfl⟩) (pre_S hW hB_G_122 hK hZ hS) rfl rfl hl.1 rfl (lv_room (Nat.le_of_ble_eq_true rfl)) dX12_layNeed_189 ⟨Nat.le_of_ble_eq_true rfl, Nat.le_of_ble_eq_true rfl⟩) hS (fun r_129 G_130 H locs hpo hW hS => ?_)
                have hX_133 : Q_lesser y_117 y_128 G_122 r_129 G_130 := hpo
                obtain ⟨hB_G_130, hq_131, hp_132, -⟩ := hpo
                have hF := hF.call9 hq_131 rfl rfl
                refine S_iast hx hb hK hW hS kd_99 (vin ((by first | exact ok_1162 ha_p0.1 ha_p1.1 ty_1 ty_2 ty_3 ty_115 | omega)) ((by first | exact ok_1163 ha_p0.2 ha_p1.2 ty_1 ty_2 ty_3 ty_115 | omega))) dX12_layNeed_192 (fun G_134 H locs eG_134 hW hS => ?_)
                have hB_G_134 : Bd G_134 := hB_G_130.put (V := r_129.toInt) (lo := 0) (hi := 100000) eG_134 rfl rfl rfl ((by first | exact ok_1176 ty_117.1 f_126.1 ty_128 hp_132.2.2 | omega)) ((by first | exact ok_1169 ty_117.2 hp_132.1 | omega)) (hB_G_130.2.put eG_134 rfl)
                have hF := hF.put eG_134 (Or.inl (by decide))
                have hpa_ : PR (G_110.1 99) (G.1 98) (G.1 66 61).toInt (G.1 66 62).toInt (G.1 66 63).toInt (p0.toInt) (p1.toInt) := by rw [show G_110.1 99 = G_53.1 99 from (funext fun j => ((fun (j : Nat) (_ : True) => ((hq_111.ri9 99 rfl j).trans ((hq_103.ri9 99 rfl j).trans (hq_91.ri9 99 rfl j))))) j trivial)]; exact (show PR (G_53.1 99) (G.1 98) (G.1 66 61).toInt (G.1 66 62).toInt (G.1 66 63).toInt (p0.toInt) (p1.toInt) by assumption)
                have hpb_ : PR (G_114.1 99) (G.1 98) (G.1 66 61).toInt (G.1 66 62).toInt (G.1 66 63).toInt (p0.toInt) (p1.toInt) := PR_put (i := 1) eG_114 ((by first | exact ok_1164 ty_1 ty_2 ty_3 ty_95 | omega)) ((by first | exact ha_p0.1 | omega)) ((by first | exact ⟨(by first | exact ha_p1.1 | omega), (by first | exact ha_p1.2 | omega)⟩ | omega)) (by first | (clear h400 d_1 hn_64 b_83 g_84 u_107 u_127; omega) | omega) hle1 hpa_
                have hpc_ : PR (G_130.1 99) (G.1 98) (G.1 66 61).toInt (G.1 66 62).toInt (G.1 66 63).toInt (p0.toInt) (p1.toInt) := by rw [show G_130.1 99 = G_114.1 99 from (funext fun j => ((fun (j : Nat) (_ : True) => ((hq_131.ri9 99 rfl j).trans (hq_123.ri9 99 rfl j)))) j trivial)]; exact hpb_
                have hpN_ : PR (G_134.1 99) (G.1 98) (G.1 66 61).toInt (G.1 66 62).toInt (G.1 66 63).toInt (p0.toInt) (p1.toInt) := PR_put (i := 2) eG_134 ((by first | exact ok_1165 ty_1 ty_2 ty_3 ty_115 | omega)) ((by first | exact ha_p0.1 | omega)) ((by first | exact ⟨(by first | exact ha_p1.1 | omega), (by first | exact ha_p1.2 | omega)⟩ | omega)) (by first | (clear h400 d_1 hn_64 b_83 g_84 u_107 u_127; omega) | omega) hle1 hpc_
                have hja_ : NJ (G_110.1 99) (G.1 98) (G.1 66 61).toInt (G.1 66 62).toInt p0.toInt p1.toInt (x_57.toInt) := by rw [show G_110.1 99 = G_53.1 99 from (funext fun j => ((fun (j : Nat) (_ : True) => ((hq_111.ri9 99 rfl j).trans ((hq_103.ri9 99 rfl j).trans (hq_91.ri9 99 rfl j))))) j trivial)]; exact (show NJ (G_53.1 99) (G.1 98) (G.1 66 61).toInt (G.1 66 62).toInt p0.toInt p1.toInt (x_57.toInt) by assumption)
                have hnN_ : NJ (G_134.1 99) (G.1 98) (G.1 66 61).toInt (G.1 66 62).toInt p0.toInt p1.toInt (x_57.toInt + 1) := NJ_step_ hja_ eG_114 (by first | (clear h400 d_1 hn_64 b_83 g_84 u_107 u_127; omega) | omega) (show G_130.1 99 = G_114.1 99 from (funext fun j => ((fun (j : Nat) (_ : True) => ((hq_131.ri9 99 rfl j).trans (hq_123.ri9 99 rfl j)))) j trivial)) eG_134 (by first | (clear h400 d_1 hn_64 b_83 g_84 u_107 u_127; omega) | omega) (by first | (clear h400 d_1 hn_64 b_83 g_84 u_107 u_127; omega) | omega) (by first | (clear h400 d_1 hn_64 b_83 g_84 u_107 u_127; omega) | omega) hle1 (by first | (clear h400 d_1 hn_64 b_83 g_84 u_107 u_127; omega) | omega) ((lw_iff (x := y_80) (y := y_81) (by first | (clear h400 d_1 hn_64 b_83 g_84 u_107 u_127; omega) | omega) (by first | (clear h400 d_1 hn_64 b_83 g_84 u_107 u_127; omega) | omega)).mpr (by first | (clear h400 d_1 hn_64 b_83 g_84 u_107 u_127; omega) | omega)) (hn1_.trans (by rw [show G_110.1 99 = G_53.1 99 from (funext fun j => ((fun (j : Nat) (_ : True) => ((hq_111.ri9 99 rfl j).trans ((hq_103.ri9 99 rfl j).trans (hq_91.ri9 99 rfl j))))) j trivial)])) hn2_ (hm2_.trans (by rw [show G_110.1 99 = G_53.1 99 from (funext fun j => ((fun (j : Nat) (_ : True) => ((hq_111.ri9 99 rfl j).trans ((hq_103.ri9 99 rfl j).trans (hq_91.ri9 99 rfl j))))) j trivial)])) hm1_ (by first | (clear h400 d_1 hn_64 b_83 g_84 u_107 u_127; omega) | omega) (by first | (clear h400 d_1 hn_64 b_83 g_84 u_107 u_127; omega) | omega) (by first | (clear h400 d_1 hn_64 b_83 g_84 u_107 u_127; omega) | omega) (by first | (clear h400 d_1 hn_64 b_83 g_84 u_107 u_127; omega) | omega) (by first | (clear h400 d_1 hn_64 b_83 g_84 u_107 u_127; omega) | omega) (by first | (clear h400 d_1 hn_64 b_83 g_84 u_107 u_127; omega) | omega)
                obtain ⟨y_135, ey_135⟩ : ∃ q, q = x_57 + 1 := ⟨_, rfl⟩
                have ty_135 : y_135.toInt = x_57.toInt + 1 := xI_add rfl rfl ey_135 ((by first | exact ok_237 f_59.1 | omega)) ((by first | exact ok_134 f_59.2 | omega))
                refine lv_iinc (v := y_135) (lv' := [(4, .int y_135), (5, .int r_89), (3, .int y_3), (0, .ref (a 66)), (1, .int p0), (2, .int p1)]) hx hb dX12_layNeed_193 hl (k := 1) rfl (by rw [ey_135]; rfl) (lt_b rfl) rfl (fun ls hl => ?_)
                have hj_136 : NJ (G_134.1 99) (G.1 98) (G.1 66 61).toInt (G.1 66 62).toInt p0.toInt p1.toInt (y_135.toInt) := by rw [ty_135]; exact hnN_
                refine lv_goto (tgt := 74) hx hb dX12_layNeed_196 rfl ?_
                exact ih_55 (100 - y_135.toInt : Int).toNat ((by first | (clear h400 d_1 b_83 g_84 u_107 u_127; omega) | omega)) _ _ _ ⟨G_134, y_135, (Int.toNat_of_nonneg ((by first | exact ok_1177 b_31.2 f_59.2 c_87 ty_135 | omega))), ⟨(by first | exact ok_240 f_59.1 ty_135 | omega), (by first | exact ok_1178 b_31.2 f_59.2 c_87 ty_135 | omega)⟩, (by assumption), (by assumption), ((by first | exact ok_1093 f_62 ty_135 | omega)), ((by first | exact ok_1179 f_63 c_67 ty_135 | omega)), (hX_58.st (St_n_layNeed_1_mk ⟨x_57, G_53, y_135, G_134, rfl, rfl, f_59, f_60, f_61, f_62, f_63, hB_G_53, (Or.inr ⟨c_65, ⟨c_67, ⟨y_80, ty_80, ⟨y_81, ey_81, (Or.inr ⟨c_86, (Or.inl ⟨c_87, ⟨r_89, G_90, hX_93, ⟨y_95, ty_95, ⟨y_96, ty_96, ⟨y_97, ey_97, ⟨y_99, ty_99, ⟨r_101, G_102, hX_105, ⟨y_108, ty_108, ⟨r_109, G_110, hX_113, ⟨y_115, ty_115, ⟨y_116, ty_116, ⟨y_117, ey_117.trans (congrFun (rw_ast eG_114) _), ⟨y_119, ty_119, ⟨G_114, hB_G_114, (Fr.put (rs := [99]) (fs := []) Fr.rf eG_114 (Or.inl (by decide))), rw_ast eG_114, ⟨r_121, G_122, hX_125, ⟨y_128, ty_128, ⟨r_129, G_130, hX_133, ⟨y_135, ty_135, ⟨rfl, (Fr.put (rs := [99]) (fs := []) Fr.rf eG_134 (Or.inl (by decide))), rw_ast eG_134⟩⟩⟩⟩⟩⟩⟩⟩⟩⟩⟩⟩⟩⟩⟩⟩⟩⟩⟩)⟩)⟩⟩⟩⟩)⟩)), hW, hB_G_134, hF, (Fr.put (rs := [99]) (fs := []) (Fr.call9 (rs := [99]) (fs := []) (Fr.call9 (rs := [99]) (fs := []) (Fr.put (rs := [99]) (fs := []) (Fr.call9 (rs := [99]) (fs := []) (Fr.call9 (rs := [99]) (fs := []) (Fr.call9 (rs := [99]) (fs := []) (Fr.call9 (rs := [99]) (fs := []) Fr.rf hq_54 rfl rfl) hq_91 rfl rfl) hq_103 rfl rfl) hq_111 rfl rfl) eG_114 (Or.inl (by decide))) hq_123 rfl rfl) hq_131 rfl rfl) eG_134 (Or.inl (by decide))), hS, lv_sub hl [0, 2, 3, 4, 5] rfl⟩
              · have c_87 : (G.1 66 62).toInt < x_57.toInt := xI_nle rfl rfl c_87
                refine ic_1 hx hb dX12_layNeed_119 ?_
                refine lv_goto (tgt := 124) hx hb dX12_layNeed_120 rfl ?_
                have qc_137 : (1 : Int32).toInt = 1 := rfl
                refine S_calli (va_runS (As := [.int 1]) (rest := []) ⟨hx, hb, hml, hown, hts⟩ (n_truth l D k A a z G_53 1 ⟨by decide, by decide⟩) (va_cwS 1 hts (gd_S hgd m1788 m1789 m131 m1790) rfl rfl rfl hd_X12_truth.2 ⟨Nat.le_of_ble_eq_true rfl, Nat.le_of_ble_eq_true rfl⟩) (pre_S hW hB_G_53 hK hZ hS) rfl rfl hl.1 rfl (lv_room (Nat.le_of_ble_eq_true rfl)) dX12_layNeed_124 ⟨Nat.le_of_ble_eq_true rfl, Nat.le_of_ble_eq_true rfl⟩) hS (fun r_138 G_139 H locs hpo hW hS => ?_)
                have hX_142 : Q_truth 1 G_53 r_138 G_139 := hpo
                obtain ⟨hB_G_139, hq_140, f_143, hp_141, -⟩ := hpo
                have hF := hF.call9 hq_140 rfl rfl
                refine lv_istore (lv' := [(5, .int r_138), (4, .int x_57), (3, .int y_3), (0, .ref (a 66)), (1, .int p0), (2, .int p1)]) hx hb dX12_layNeed_127 hl (lt_b rfl) rfl (fun ls hl => ?_)
                refine lv_aload_n hx hb dX12_layNeed_129 rfl (lv_at hl 3 rfl) ?_
                refine S_getR (n := 99) (C := RX12) (T := TX12) (N := 89) hx hb hg iX12 hown hK hW kd_66 rfl 64 (lt_b rfl) (hg (Cond.fieldLink RX12 118 "SlabWalkModel" "need" "[I") m1378) (fun _ h9 => h9) rfl dX12_layNeed_130 ?_
                refine lv_iload_n hx hb dX12_layNeed_133 rfl (lv_at hl 2 rfl) ?_
                refine ic_1 hx hb dX12_layNeed_134 ?_
                refine lv_iadd hx hb dX12_layNeed_135 ?_
                refine lv_topi (fun y_144 ey_144 => ?_)
                have ty_144 : y_144.toInt = y_3.toInt + 1 := xI_add rfl rfl ey_144 ((by first | exact ok_1156 ha_p0.1 ha_p1.1 ty_1 ty_2 ty_3 | omega)) ((by first | exact ok_1157 ha_p0.2 ha_p1.2 ty_1 ty_2 ty_3 | omega))
                refine lv_aload_n hx hb dX12_layNeed_136 rfl (lv_at hl 3 rfl) ?_
                refine S_getR (n := 99) (C := RX12) (T := TX12) (N := 89) hx hb hg iX12 hown hK hW kd_66 rfl 64 (lt_b rfl) (hg (Cond.fieldLink RX12 118 "SlabWalkModel" "need" "[I") m1378) (fun _ h9 => h9) rfl dX12_layNeed_137 ?_
                refine lv_iload_n hx hb dX12_layNeed_140 rfl (lv_at hl 2 rfl) ?_
                refine ic_1 hx hb dX12_layNeed_141 ?_
                refine lv_iadd hx hb dX12_layNeed_142 ?_
                refine lv_topi (fun y_145 ey_145 => ?_)
                have ty_145 : y_145.toInt = y_3.toInt + 1 := xI_add rfl rfl ey_145 ((by first | exact ok_1156 ha_p0.1 ha_p1.1 ty_1 ty_2 ty_3 | omega)) ((by first | exact ok_1157 ha_p0.2 ha_p1.2 ty_1 ty_2 ty_3 | omega))
                refine S_iald hx hb hK hW kd_99 (vin ((by first | exact ok_1158 ha_p0.1 ha_p1.1 ty_1 ty_2 ty_3 ty_145 | omega)) ((by first | exact ok_1159 ha_p0.2 ha_p1.2 ty_1 ty_2 ty_3 ty_145 | omega))) dX12_layNeed_143 (fun y_146 ey_146 => ?_)
                have ty_146 : 0 ≤ y_146.toInt ∧ y_146.toInt ≤ 100000 := bv_99 hB_G_139 ey_146
                have u_147 : y_146.toInt = (G_53.1 99 y_145.toNatClampNeg).toInt := congrArg Int32.toInt (ey_146.trans ((hq_140.ri9 99 rfl y_145.toNatClampNeg)))
                have hn1_ : y_146.toInt = ndv (G_53.1 99) p0.toInt p1.toInt 1 := (ndv_at (f := G_139.1 99) (x := y_145) ((by first | exact ok_1164 ty_1 ty_2 ty_3 ty_145 | omega)) (congrArg Int32.toInt ey_146)).trans (ndv_eq (show G_139.1 99 = G_53.1 99 from (funext fun j => ((fun (j : Nat) (_ : True) => (hq_140.ri9 99 rfl j))) j trivial)) rfl rfl)
                refine ic_1 hx hb dX12_layNeed_144 ?_
                refine lv_aload_n hx hb dX12_layNeed_145 rfl (lv_at hl 3 rfl) ?_
                refine lv_iload_n hx hb dX12_layNeed_146 rfl (lv_at hl 4 rfl) ?_
                refine lv_iload hx hb dX12_layNeed_147 (lv_at hl 1 rfl) ?_
                refine lv_iadd hx hb dX12_layNeed_149 ?_
                refine lv_topi (fun y_148 ey_148 => ?_)
                have ty_148 : y_148.toInt = p0.toInt + x_57.toInt := xI_add rfl rfl ey_148 ((by first | exact ok_252 ha_p0.1 f_59.1 | omega)) ((by first | exact ok_1171 ha_p0.2 f_59.2 | omega))
                refine lv_iload hx hb dX12_layNeed_150 (lv_at hl 0 rfl) ?_
                refine ic_2 hx hb dX12_layNeed_152 ?_
                have qc_149 : (2 : Int32).toInt = 2 := rfl
                refine S_calli (va_runV (As := [.int y_148, .int r_138, .int 2]) (rest := [.int 1, .int y_146, .int y_144, .ref (a 99)]) ⟨hx, hb, hml, hown, hts⟩ (n_needOf l D k A a z G_139 y_148 r_138 2 ⟨(by first | exact ok_254 ha_p0.1 f_59.1 ty_148 | omega), (by first | (clear h400 d_1 hn_64 b_83 g_84 f_143 hp_141; omega) | omega)⟩ ⟨(by first | exact f_143.1 | omega), (by first | exact f_143.2 | omega)⟩ ⟨by decide, by decide⟩) (cwV 3 hts (gd_V hgd m1859 m1861 m96 m131 m1862) rfl rfl rfl hd_X12_needOf ⟨Nat.le_of_ble_eq_true rfl, Nat.le_of_ble_eq_true rfl⟩) (pre_W hW hB_G_139 hK hZ hS kd_66 rfl) rfl rfl hl.1 rfl (lv_room (Nat.le_of_ble_eq_true rfl)) dX12_layNeed_153 ⟨Nat.le_of_ble_eq_true rfl, Nat.le_of_ble_eq_true rfl⟩) hS (fun r_150 G_151 H locs hpo hW hS => ?_)
                have hX_154 : Q_needOf y_148 r_138 2 G_139 r_150 G_151 := hpo
                obtain ⟨hB_G_151, hq_152, f_155, hp_153, -⟩ := hpo
                have hF := hF.call9 hq_152 rfl rfl
                have u_156 := trI_v x_57.toInt (G.1 66 62).toInt
                have d_8 := u_156.1 c_87
                have d_9 := u_156.2
                have hm2_ : r_150.toInt = ndv (G_53.1 99) (p0.toInt + x_57.toInt) (trI x_57.toInt (G.1 66 62).toInt) 2 := hp_153.trans (ndv_eq (show G_139.1 99 = G_53.1 99 from (funext fun j => ((fun (j : Nat) (_ : True) => (hq_140.ri9 99 rfl j))) j trivial)) ((by first | exact ty_148 | omega)) ((by first | exact ok_1180 qc_137 f_143.1 f_143.2 hp_141 d_8 | omega)))
                refine lv_iadd hx hb dX12_layNeed_156 ?_
                refine lv_topi (fun y_157 ey_157 => ?_)
                have ty_157 : y_157.toInt = 1 + r_150.toInt := xI_add rfl rfl ey_157 ((by first | exact ok_1174 f_155.1 | omega)) ((by first | exact ok_1175 f_155.2 | omega))
                refine S_calli (va_runS (As := [.int y_146, .int y_157]) (rest := [.int y_144, .ref (a 99)]) ⟨hx, hb, hml, hown, hts⟩ (n_lesser l D k A a z G_151 y_146 y_157 ) (va_cwS 2 hts (gd_S hgd m1863 m1864 m131 m1865) rfl rfl rfl hd_X12_lesser.2 ⟨Nat.le_of_ble_eq_true rfl, Nat.le_of_ble_eq_true rfl⟩) (pre_S hW hB_G_151 hK hZ hS) rfl rfl hl.1 rfl (lv_room (Nat.le_of_ble_eq_true rfl)) dX12_layNeed_157 ⟨Nat.le_of_ble_eq_true rfl, Nat.le_of_ble_eq_true rfl⟩) hS (fun r_158 G_159 H locs hpo hW hS => ?_)
                have hX_162 : Q_lesser y_146 y_157 G_151 r_158 G_159 := hpo
                obtain ⟨hB_G_159, hq_160, hp_161, -⟩ := hpo
                have hF := hF.call9 hq_160 rfl rfl
                refine S_iast hx hb hK hW hS kd_99 (vin ((by first | exact ok_1158 ha_p0.1 ha_p1.1 ty_1 ty_2 ty_3 ty_144 | omega)) ((by first | exact ok_1159 ha_p0.2 ha_p1.2 ty_1 ty_2 ty_3 ty_144 | omega))) dX12_layNeed_160 (fun G_163 H locs eG_163 hW hS => ?_)
                have hB_G_163 : Bd G_163 := hB_G_159.put (V := r_158.toInt) (lo := 0) (hi := 100000) eG_163 rfl rfl rfl ((by first | exact ok_1176 ty_146.1 f_155.1 ty_157 hp_161.2.2 | omega)) ((by first | exact ok_1169 ty_146.2 hp_161.1 | omega)) (hB_G_159.2.put eG_163 rfl)
                have hF := hF.put eG_163 (Or.inl (by decide))
                refine lv_aload_n hx hb dX12_layNeed_161 rfl (lv_at hl 3 rfl) ?_
                refine S_getR (n := 99) (C := RX12) (T := TX12) (N := 89) hx hb hg iX12 hown hK hW kd_66 rfl 64 (lt_b rfl) (hg (Cond.fieldLink RX12 118 "SlabWalkModel" "need" "[I") m1378) (fun _ h9 => h9) rfl dX12_layNeed_162 ?_
                refine lv_iload_n hx hb dX12_layNeed_165 rfl (lv_at hl 2 rfl) ?_
                refine ic_2 hx hb dX12_layNeed_166 ?_
                refine lv_iadd hx hb dX12_layNeed_167 ?_
                refine lv_topi (fun y_164 ey_164 => ?_)
                have ty_164 : y_164.toInt = y_3.toInt + 2 := xI_add rfl rfl ey_164 ((by first | exact ok_1160 ha_p0.1 ha_p1.1 ty_1 ty_2 ty_3 | omega)) ((by first | exact ok_1161 ha_p0.2 ha_p1.2 ty_1 ty_2 ty_3 | omega))
                refine lv_aload_n hx hb dX12_layNeed_168 rfl (lv_at hl 3 rfl) ?_
                refine S_getR (n := 99) (C := RX12) (T := TX12) (N := 89) hx hb hg iX12 hown hK hW kd_66 rfl 64 (lt_b rfl) (hg (Cond.fieldLink RX12 118 "SlabWalkModel" "need" "[I") m1378) (fun _ h9 => h9) rfl dX12_layNeed_169 ?_
                refine lv_iload_n hx hb dX12_layNeed_172 rfl (lv_at hl 2 rfl) ?_
                refine ic_2 hx hb dX12_layNeed_173 ?_
                refine lv_iadd hx hb dX12_layNeed_174 ?_
                refine lv_topi (fun y_165 ey_165 => ?_)
                have ty_165 : y_165.toInt = y_3.toInt + 2 := xI_add rfl rfl ey_165 ((by first | exact ok_1160 ha_p0.1 ha_p1.1 ty_1 ty_2 ty_3 | omega)) ((by first | exact ok_1161 ha_p0.2 ha_p1.2 ty_1 ty_2 ty_3 | omega))
                refine S_iald hx hb hK hW kd_99 (vin ((by first | exact ok_1162 ha_p0.1 ha_p1.1 ty_1 ty_2 ty_3 ty_165 | omega)) ((by first | exact ok_1163 ha_p0.2 ha_p1.2 ty_1 ty_2 ty_3 ty_165 | omega))) dX12_layNeed_175 (fun y_166 ey_166 => ?_)
                have ty_166 : 0 ≤ y_166.toInt ∧ y_166.toInt ≤ 100000 := bv_99 hB_G_163 ey_166
                have u_167 : y_166.toInt = (G_163.1 99 y_165.toNatClampNeg).toInt := congrArg Int32.toInt (ey_166)
                have hn2_ : y_166.toInt = ndv (G_163.1 99) p0.toInt p1.toInt 2 := (ndv_at (f := G_163.1 99) (x := y_165) ((by first | exact ok_1165 ty_1 ty_2 ty_3 ty_165 | omega)) (congrArg Int32.toInt ey_166)).trans (ndv_eq (show G_163.1 99 = G_163.1 99 from (funext fun j => ((fun (j : Nat) (_ : True) => rfl)) j trivial)) rfl rfl)
                refine ic_1 hx hb dX12_layNeed_176 ?_
                refine lv_aload_n hx hb dX12_layNeed_177 rfl (lv_at hl 3 rfl) ?_
                refine lv_iload_n hx hb dX12_layNeed_178 rfl (lv_at hl 4 rfl) ?_
                refine lv_iload hx hb dX12_layNeed_179 (lv_at hl 1 rfl) ?_
                refine lv_iadd hx hb dX12_layNeed_181 ?_
                refine lv_topi (fun y_168 ey_168 => ?_)
                have ty_168 : y_168.toInt = p0.toInt + x_57.toInt := xI_add rfl rfl ey_168 ((by first | exact ok_252 ha_p0.1 f_59.1 | omega)) ((by first | exact ok_1171 ha_p0.2 f_59.2 | omega))
                refine lv_iload hx hb dX12_layNeed_182 (lv_at hl 0 rfl) ?_
                refine ic_1 hx hb dX12_layNeed_184 ?_
                have qc_169 : (1 : Int32).toInt = 1 := rfl
                refine S_calli (va_runV (As := [.int y_168, .int r_138, .int 1]) (rest := [.int 1, .int y_166, .int y_164, .ref (a 99)]) ⟨hx, hb, hml, hown, hts⟩ (n_needOf l D k A a z G_163 y_168 r_138 1 ⟨(by first | exact ok_254 ha_p0.1 f_59.1 ty_168 | omega), (by first | (clear h400 d_1 hn_64 b_83 g_84 u_156; omega) | omega)⟩ ⟨(by first | exact f_143.1 | omega), (by first | exact f_143.2 | omega)⟩ ⟨by decide, by decide⟩) (cwV 3 hts (gd_V hgd m1859 m1861 m96 m131 m1862) rfl rfl rfl hd_X12_needOf ⟨Nat.le_of_ble_eq_true rfl, Nat.le_of_ble_eq_true rfl⟩) (pre_W hW hB_G_163 hK hZ hS kd_66 rfl) rfl rfl hl.1 rfl (lv_room (Nat.le_of_ble_eq_true rfl)) dX12_layNeed_185 ⟨Nat.le_of_ble_eq_true rfl, Nat.le_of_ble_eq_true rfl⟩) hS (fun r_170 G_171 H locs hpo hW hS => ?_)
                have hX_174 : Q_needOf y_168 r_138 1 G_163 r_170 G_171 := hpo
                obtain ⟨hB_G_171, hq_172, f_175, hp_173, -⟩ := hpo
                have hF := hF.call9 hq_172 rfl rfl
                have u_176 := trI_v x_57.toInt (G.1 66 62).toInt
                have d_10 := u_176.1 c_87
                have d_11 := u_176.2
                have hm1_ : r_170.toInt = ndv (G_163.1 99) (p0.toInt + x_57.toInt) (trI x_57.toInt (G.1 66 62).toInt) 1 := hp_173.trans (ndv_eq (show G_163.1 99 = G_163.1 99 from (funext fun j => ((fun (j : Nat) (_ : True) => rfl)) j trivial)) ((by first | exact ty_168 | omega)) ((by first | exact ok_1180 qc_137 f_143.1 f_143.2 hp_141 d_8 | omega)))
                refine lv_iadd hx hb dX12_layNeed_188 ?_
                refine lv_topi (fun y_177 ey_177 => ?_)
                have ty_177 : y_177.toInt = 1 + r_170.toInt := xI_add rfl rfl ey_177 ((by first | exact ok_1174 f_175.1 | omega)) ((by first | exact ok_1175 f_175.2 | omega))
                refine S_calli (va_runS (As := [.int y_166, .int y_177]) (rest := [.int y_164, .ref (a 99)]) ⟨hx, hb, hml, hown, hts⟩ (n_lesser l D k A a z G_171 y_166 y_177 ) (va_cwS 2 hts (gd_S hgd m1863 m1864 m131 m1865) rfl rfl rfl hd_X12_lesser.2 ⟨Nat.le_of_ble_eq_true rfl, Nat.le_of_ble_eq_true rfl⟩) (pre_S hW hB_G_171 hK hZ hS) rfl rfl hl.1 rfl (lv_room (Nat.le_of_ble_eq_true rfl)) dX12_layNeed_189 ⟨Nat.le_of_ble_eq_true rfl, Nat.le_of_ble_eq_true rfl⟩) hS (fun r_178 G_179 H locs hpo hW hS => ?_)
                have hX_182 : Q_lesser y_166 y_177 G_171 r_178 G_179 := hpo
                obtain ⟨hB_G_179, hq_180, hp_181, -⟩ := hpo
                have hF := hF.call9 hq_180 rfl rfl
                refine S_iast hx hb hK hW hS kd_99 (vin ((by first | exact ok_1162 ha_p0.1 ha_p1.1 ty_1 ty_2 ty_3 ty_164 | omega)) ((by first | exact ok_1163 ha_p0.2 ha_p1.2 ty_1 ty_2 ty_3 ty_164 | omega))) dX12_layNeed_192 (fun G_183 H locs eG_183 hW hS => ?_)
                have hB_G_183 : Bd G_183 := hB_G_179.put (V := r_178.toInt) (lo := 0) (hi := 100000) eG_183 rfl rfl rfl ((by first | exact ok_1176 ty_166.1 f_175.1 ty_177 hp_181.2.2 | omega)) ((by first | exact ok_1169 ty_166.2 hp_181.1 | omega)) (hB_G_179.2.put eG_183 rfl)
                have hF := hF.put eG_183 (Or.inl (by decide))
                have hpa_ : PR (G_159.1 99) (G.1 98) (G.1 66 61).toInt (G.1 66 62).toInt (G.1 66 63).toInt (p0.toInt) (p1.toInt) := by rw [show G_159.1 99 = G_53.1 99 from (funext fun j => ((fun (j : Nat) (_ : True) => ((hq_160.ri9 99 rfl j).trans ((hq_152.ri9 99 rfl j).trans (hq_140.ri9 99 rfl j))))) j trivial)]; exact (show PR (G_53.1 99) (G.1 98) (G.1 66 61).toInt (G.1 66 62).toInt (G.1 66 63).toInt (p0.toInt) (p1.toInt) by assumption)
                have hpb_ : PR (G_163.1 99) (G.1 98) (G.1 66 61).toInt (G.1 66 62).toInt (G.1 66 63).toInt (p0.toInt) (p1.toInt) := PR_put (i := 1) eG_163 ((by first | exact ok_1164 ty_1 ty_2 ty_3 ty_144 | omega)) ((by first | exact ha_p0.1 | omega)) ((by first | exact ⟨(by first | exact ha_p1.1 | omega), (by first | exact ha_p1.2 | omega)⟩ | omega)) (by first | (clear h400 d_1 hn_64 b_83 g_84 u_156 u_176; omega) | omega) hle1 hpa_
                have hpc_ : PR (G_179.1 99) (G.1 98) (G.1 66 61).toInt (G.1 66 62).toInt (G.1 66 63).toInt (p0.toInt) (p1.toInt) := by rw [show G_179.1 99 = G_163.1 99 from (funext fun j => ((fun (j : Nat) (_ : True) => ((hq_180.ri9 99 rfl j).trans (hq_172.ri9 99 rfl j)))) j trivial)]; exact hpb_
                have hpN_ : PR (G_183.1 99) (G.1 98) (G.1 66 61).toInt (G.1 66 62).toInt (G.1 66 63).toInt (p0.toInt) (p1.toInt) := PR_put (i := 2) eG_183 ((by first | exact ok_1165 ty_1 ty_2 ty_3 ty_164 | omega)) ((by first | exact ha_p0.1 | omega)) ((by first | exact ⟨(by first | exact ha_p1.1 | omega), (by first | exact ha_p1.2 | omega)⟩ | omega)) (by first | (clear h400 d_1 hn_64 b_83 g_84 u_156 u_176; omega) | omega) hle1 hpc_
                have hja_ : NJ (G_159.1 99) (G.1 98) (G.1 66 61).toInt (G.1 66 62).toInt p0.toInt p1.toInt (x_57.toInt) := by rw [show G_159.1 99 = G_53.1 99 from (funext fun j => ((fun (j : Nat) (_ : True) => ((hq_160.ri9 99 rfl j).trans ((hq_152.ri9 99 rfl j).trans (hq_140.ri9 99 rfl j))))) j trivial)]; exact (show NJ (G_53.1 99) (G.1 98) (G.1 66 61).toInt (G.1 66 62).toInt p0.toInt p1.toInt (x_57.toInt) by assumption)
                have hnN_ : NJ (G_183.1 99) (G.1 98) (G.1 66 61).toInt (G.1 66 62).toInt p0.toInt p1.toInt (x_57.toInt + 1) := NJ_step_ hja_ eG_163 (by first | (clear h400 d_1 hn_64 b_83 g_84 u_156 u_176; omega) | omega) (show G_179.1 99 = G_163.1 99 from (funext fun j => ((fun (j : Nat) (_ : True) => ((hq_180.ri9 99 rfl j).trans (hq_172.ri9 99 rfl j)))) j trivial)) eG_183 (by first | (clear h400 d_1 hn_64 b_83 g_84 u_156 u_176; omega) | omega) (by first | (clear h400 d_1 hn_64 b_83 g_84 u_156 u_176; omega) | omega) (by first | (clear h400 d_1 hn_64 b_83 g_84 u_156 u_176; omega) | omega) hle1 (by first | (clear h400 d_1 hn_64 b_83 g_84 u_156 u_176; omega) | omega) ((lw_iff (x := y_80) (y := y_81) (by first | (clear h400 d_1 hn_64 b_83 g_84 u_156 u_176; omega) | omega) (by first | (clear h400 d_1 hn_64 b_83 g_84 u_156 u_176; omega) | omega)).mpr (by first | (clear h400 d_1 hn_64 b_83 g_84 u_156 u_176; omega) | omega)) (hn1_.trans (by rw [show G_159.1 99 = G_53.1 99 from (funext fun j => ((fun (j : Nat) (_ : True) => ((hq_160.ri9 99 rfl j).trans ((hq_152.ri9 99 rfl j).trans (hq_140.ri9 99 rfl j))))) j trivial)])) hn2_ (hm2_.trans (by rw [show G_159.1 99 = G_53.1 99 from (funext fun j => ((fun (j : Nat) (_ : True) => ((hq_160.ri9 99 rfl j).trans ((hq_152.ri9 99 rfl j).trans (hq_140.ri9 99 rfl j))))) j trivial)])) hm1_ (by first | (clear h400 d_1 hn_64 b_83 g_84 u_156 u_176; omega) | omega) (by first | (clear h400 d_1 hn_64 b_83 g_84 u_156 u_176; omega) | omega) (by first | (clear h400 d_1 hn_64 b_83 g_84 u_156 u_176; omega) | omega) (by first | (clear h400 d_1 hn_64 b_83 g_84 u_156 u_176; omega) | omega) (by first | (clear h400 d_1 hn_64 b_83 g_84 u_156 u_176; omega) | omega) (by first | (clear h400 d_1 hn_64 b_83 g_84 u_156 u_176; omega) | omega)
                obtain ⟨y_184, ey_184⟩ : ∃ q, q = x_57 + 1 := ⟨_, rfl⟩
                have ty_184 : y_184.toInt = x_57.toInt + 1 := xI_add rfl rfl ey_184 ((by first | exact ok_237 f_59.1 | omega)) ((by first | exact ok_134 f_59.2 | omega))
                refine lv_iinc (v := y_184) (lv' := [(4, .int y_184), (5, .int r_138), (3, .int y_3), (0, .ref (a 66)), (1, .int p0), (2, .int p1)]) hx hb dX12_layNeed_193 hl (k := 1) rfl (by rw [ey_184]; rfl) (lt_b rfl) rfl (fun ls hl => ?_)
                have hj_185 : NJ (G_183.1 99) (G.1 98) (G.1 66 61).toInt (G.1 66 62).toInt p0.toInt p1.toInt (y_184.toInt) := by rw [ty_184]; exact hnN_
                refine lv_goto (tgt := 74) hx hb dX12_layNeed_196 rfl ?_
                exact ih_55 (100 - y_184.toInt : Int).toNat ((by first | (clear h400 d_1 b_83 g_84 u_156 u_176; omega) | omega)) _ _ _ ⟨G_183, y_184, (Int.toNat_of_nonneg ((by first | exact ok_766 f_59.2 b_66.2 c_67 ty_184 | omega))), ⟨(by first | exact ok_240 f_59.1 ty_184 | omega), (by first | exact ok_767 f_59.2 b_66.2 c_67 ty_184 | omega)⟩, (by assumption), (by assumption), ((by first | exact ok_1093 f_62 ty_184 | omega)), ((by first | exact ok_1179 f_63 c_67 ty_184 | omega)), (hX_58.st (St_n_layNeed_1_mk ⟨x_57, G_53, y_184, G_183, rfl, rfl, f_59, f_60, f_61, f_62, f_63, hB_G_53, (Or.inr ⟨c_65, ⟨c_67, ⟨y_80, ty_80, ⟨y_81, ey_81, (Or.inr ⟨c_86, (Or.inr ⟨c_87, ⟨r_138, G_139, hX_142, ⟨y_144, ty_144, ⟨y_145, ty_145, ⟨y_146, ey_146, ⟨y_148, ty_148, ⟨r_150, G_151, hX_154, ⟨y_157, ty_157, ⟨r_158, G_159, hX_162, ⟨y_164, ty_164, ⟨y_165, ty_165, ⟨y_166, ey_166.trans (congrFun (rw_ast eG_163) _), ⟨y_168, ty_168, ⟨G_163, hB_G_163, (Fr.put (rs := [99]) (fs := []) Fr.rf eG_163 (Or.inl (by decide))), rw_ast eG_163, ⟨r_170, G_171, hX_174, ⟨y_177, ty_177, ⟨r_178, G_179, hX_182, ⟨y_184, ty_184, ⟨rfl, (Fr.put (rs := [99]) (fs := []) Fr.rf eG_183 (Or.inl (by decide))), rw_ast eG_183⟩⟩⟩⟩⟩⟩⟩⟩⟩⟩⟩⟩⟩⟩⟩⟩⟩⟩⟩)⟩)⟩⟩⟩⟩)⟩)), hW, hB_G_183, hF, (Fr.put (rs := [99]) (fs := []) (Fr.call9 (rs := [99]) (fs := []) (Fr.call9 (rs := [99]) (fs := []) (Fr.put (rs := [99]) (fs := []) (Fr.call9 (rs := [99]) (fs := []) (Fr.call9 (rs := [99]) (fs := []) (Fr.call9 (rs := [99]) (fs := []) (Fr.call9 (rs := [99]) (fs := []) Fr.rf hq_54 rfl rfl) hq_140 rfl rfl) hq_152 rfl rfl) hq_160 rfl rfl) eG_163 (Or.inl (by decide))) hq_172 rfl rfl) hq_180 rfl rfl) eG_183 (Or.inl (by decide))), hS, lv_sub hl [0, 2, 3, 4, 5] rfl⟩
            · have c_86 : y_81.toInt = 0 := xI_eq rfl rfl c_86
              refine lv_goto (tgt := 193) hx hb dX12_layNeed_107 rfl ?_
              have hpN_ : PR (G_53.1 99) (G.1 98) (G.1 66 61).toInt (G.1 66 62).toInt (G.1 66 63).toInt (p0.toInt) (p1.toInt) := by rw [show G_53.1 99 = G_53.1 99 from (funext fun j => ((fun (j : Nat) (_ : True) => rfl)) j trivial)]; exact (show PR (G_53.1 99) (G.1 98) (G.1 66 61).toInt (G.1 66 62).toInt (G.1 66 63).toInt (p0.toInt) (p1.toInt) by assumption)
              have hnN_ : NJ (G_53.1 99) (G.1 98) (G.1 66 61).toInt (G.1 66 62).toInt p0.toInt p1.toInt (x_57.toInt + 1) := by rw [show G_53.1 99 = G_53.1 99 from (funext fun j => ((fun (j : Nat) (_ : True) => rfl)) j trivial)]; exact (NJ_skip (show NJ (G_53.1 99) (G.1 98) (G.1 66 61).toInt (G.1 66 62).toInt p0.toInt p1.toInt (x_57.toInt) by assumption) (fun q => by have q := (lw_iff (x := y_80) (y := y_81) (by first | (clear h400 d_1 hn_64 b_83 g_84; omega) | omega) (by first | (clear h400 d_1 hn_64 b_83 g_84; omega) | omega)).mp q; omega))
              obtain ⟨y_186, ey_186⟩ : ∃ q, q = x_57 + 1 := ⟨_, rfl⟩
              have ty_186 : y_186.toInt = x_57.toInt + 1 := xI_add rfl rfl ey_186 ((by first | exact ok_237 f_59.1 | omega)) ((by first | exact ok_134 f_59.2 | omega))
              refine lv_iinc (v := y_186) (lv' := [(4, .int y_186), (3, .int y_3), (0, .ref (a 66)), (1, .int p0), (2, .int p1)]) hx hb dX12_layNeed_193 hl (k := 0) rfl (by rw [ey_186]; rfl) (lt_b rfl) rfl (fun ls hl => ?_)
              have hj_187 : NJ (G_53.1 99) (G.1 98) (G.1 66 61).toInt (G.1 66 62).toInt p0.toInt p1.toInt (y_186.toInt) := by rw [ty_186]; exact hnN_
              refine lv_goto (tgt := 74) hx hb dX12_layNeed_196 rfl ?_
              exact ih_55 (100 - y_186.toInt : Int).toNat ((by first | (clear h400 d_1 b_83 g_84; omega) | omega)) _ _ _ ⟨G_53, y_186, (Int.toNat_of_nonneg ((by first | exact ok_766 f_59.2 b_66.2 c_67 ty_186 | omega))), ⟨(by first | exact ok_240 f_59.1 ty_186 | omega), (by first | exact ok_767 f_59.2 b_66.2 c_67 ty_186 | omega)⟩, (by assumption), (by assumption), ((by first | exact ok_1093 f_62 ty_186 | omega)), ((by first | exact ok_1179 f_63 c_67 ty_186 | omega)), (hX_58.st (St_n_layNeed_1_mk ⟨x_57, G_53, y_186, G_53, rfl, rfl, f_59, f_60, f_61, f_62, f_63, hB_G_53, (Or.inr ⟨c_65, ⟨c_67, ⟨y_80, ty_80, ⟨y_81, ey_81, (Or.inl ⟨c_86, ⟨y_186, ty_186, ⟨rfl, rfl⟩⟩⟩)⟩⟩⟩⟩)⟩)), hW, hB_G_53, hF, (Fr.call9 (rs := [99]) (fs := []) Fr.rf hq_54 rfl rfl), hS, lv_sub hl [0, 1, 2, 3, 4] rfl⟩
        · have c_65 : p1.toInt = 1 := xI_eq rfl rfl c_65
          refine lv_aload_n hx hb dX12_layNeed_81 rfl (lv_at hl 2 rfl) ?_
          refine S_getI (v := (G.1 66 62)) (C := RX12) (T := TX12) (N := 89) hx hb hg iX12 hown hK hW kd_66 rfl 62 (lt_b rfl) (hg (Cond.fieldLink RX12 478 "SlabWalkModel" "most" "I") m1376) (fun _ h9 => h9) rfl ((hq_54.i9 66 62 rfl rfl).trans ((hq_35.i9 66 62 rfl rfl).trans ((gp_ne eG_10 (fun q => absurd q.1 (Nat.ne_of_beq_eq_false rfl))).trans ((gp_ne eG_8 (fun q => absurd q.1 (Nat.ne_of_beq_eq_false rfl))).trans (rfl))))) dX12_layNeed_82 ?_
          refine lv_goto (tgt := 92) hx hb dX12_layNeed_85 rfl ?_
          refine lv_icmp_gt (tgt := 199) hx hb dX12_layNeed_92 rfl (fun c_188 => ?_) (fun c_188 => ?_)
          · have c_188 : (G.1 66 62).toInt < x_57.toInt := xI_lt rfl rfl c_188
            have hpF_ : PR (G_53.1 99) (G.1 98) (G.1 66 61).toInt (G.1 66 62).toInt (G.1 66 63).toInt (p0.toInt) (p1.toInt) := by rw [show G_53.1 99 = G_53.1 99 from (funext fun j => ((fun (j : Nat) (_ : True) => rfl)) j trivial)]; exact (show PR (G_53.1 99) (G.1 98) (G.1 66 61).toInt (G.1 66 62).toInt (G.1 66 63).toInt (p0.toInt) (p1.toInt) by assumption)
            have hjF_ : NJ (G_53.1 99) (G.1 98) (G.1 66 61).toInt (G.1 66 62).toInt p0.toInt p1.toInt (x_57.toInt) := by rw [show G_53.1 99 = G_53.1 99 from (funext fun j => ((fun (j : Nat) (_ : True) => rfl)) j trivial)]; exact (show NJ (G_53.1 99) (G.1 98) (G.1 66 61).toInt (G.1 66 62).toInt p0.toInt p1.toInt (x_57.toInt) by assumption)
            refine lv_aload_n hx hb dX12_layNeed_199 rfl (lv_at hl 2 rfl) ?_
            refine S_getR (n := 99) (C := RX12) (T := TX12) (N := 89) hx hb hg iX12 hown hK hW kd_66 rfl 64 (lt_b rfl) (hg (Cond.fieldLink RX12 118 "SlabWalkModel" "need" "[I") m1378) (fun _ h9 => h9) rfl dX12_layNeed_200 ?_
            refine lv_iload_n hx hb dX12_layNeed_203 rfl (lv_at hl 1 rfl) ?_
            refine lv_aload_n hx hb dX12_layNeed_204 rfl (lv_at hl 2 rfl) ?_
            refine S_getR (n := 99) (C := RX12) (T := TX12) (N := 89) hx hb hg iX12 hown hK hW kd_66 rfl 64 (lt_b rfl) (hg (Cond.fieldLink RX12 118 "SlabWalkModel" "need" "[I") m1378) (fun _ h9 => h9) rfl dX12_layNeed_205 ?_
            refine lv_iload_n hx hb dX12_layNeed_208 rfl (lv_at hl 1 rfl) ?_
            refine ic_1 hx hb dX12_layNeed_209 ?_
            refine lv_iadd hx hb dX12_layNeed_210 ?_
            refine lv_topi (fun y_189 ey_189 => ?_)
            have ty_189 : y_189.toInt = y_3.toInt + 1 := xI_add rfl rfl ey_189 ((by first | exact ok_1181 ha_p0.1 ty_1 ty_2 ty_3 c_65 | omega)) ((by first | exact ok_1157 ha_p0.2 ha_p1.2 ty_1 ty_2 ty_3 | omega))
            refine S_iald hx hb hK hW kd_99 (vin ((by first | exact ok_1182 ha_p0.1 ty_1 ty_2 ty_3 c_65 ty_189 | omega)) ((by first | exact ok_1159 ha_p0.2 ha_p1.2 ty_1 ty_2 ty_3 ty_189 | omega))) dX12_layNeed_211 (fun y_190 ey_190 => ?_)
            have ty_190 : 0 ≤ y_190.toInt ∧ y_190.toInt ≤ 100000 := bv_99 hB_G_53 ey_190
            have u_191 : y_190.toInt = (G_53.1 99 y_189.toNatClampNeg).toInt := congrArg Int32.toInt (ey_190)
            have hn1_ : y_190.toInt = ndv (G_53.1 99) p0.toInt p1.toInt 1 := (ndv_at (f := G_53.1 99) (x := y_189) ((by first | exact ok_1164 ty_1 ty_2 ty_3 ty_189 | omega)) (congrArg Int32.toInt ey_190)).trans (ndv_eq (show G_53.1 99 = G_53.1 99 from (funext fun j => ((fun (j : Nat) (_ : True) => rfl)) j trivial)) rfl rfl)
            refine lv_aload_n hx hb dX12_layNeed_212 rfl (lv_at hl 2 rfl) ?_
            refine S_getR (n := 99) (C := RX12) (T := TX12) (N := 89) hx hb hg iX12 hown hK hW kd_66 rfl 64 (lt_b rfl) (hg (Cond.fieldLink RX12 118 "SlabWalkModel" "need" "[I") m1378) (fun _ h9 => h9) rfl dX12_layNeed_213 ?_
            refine lv_iload_n hx hb dX12_layNeed_216 rfl (lv_at hl 1 rfl) ?_
            refine ic_2 hx hb dX12_layNeed_217 ?_
            refine lv_iadd hx hb dX12_layNeed_218 ?_
            refine lv_topi (fun y_192 ey_192 => ?_)
            have ty_192 : y_192.toInt = y_3.toInt + 2 := xI_add rfl rfl ey_192 ((by first | exact ok_1183 ha_p0.1 ty_1 ty_2 ty_3 c_65 | omega)) ((by first | exact ok_1161 ha_p0.2 ha_p1.2 ty_1 ty_2 ty_3 | omega))
            refine S_iald hx hb hK hW kd_99 (vin ((by first | exact ok_1184 ha_p0.1 ty_1 ty_2 ty_3 c_65 ty_192 | omega)) ((by first | exact ok_1163 ha_p0.2 ha_p1.2 ty_1 ty_2 ty_3 ty_192 | omega))) dX12_layNeed_219 (fun y_193 ey_193 => ?_)
            have ty_193 : 0 ≤ y_193.toInt ∧ y_193.toInt ≤ 100000 := bv_99 hB_G_53 ey_193
            have u_194 : y_193.toInt = (G_53.1 99 y_192.toNatClampNeg).toInt := congrArg Int32.toInt (ey_193)
            have hn2_ : y_193.toInt = ndv (G_53.1 99) p0.toInt p1.toInt 2 := (ndv_at (f := G_53.1 99) (x := y_192) ((by first | exact ok_1165 ty_1 ty_2 ty_3 ty_192 | omega)) (congrArg Int32.toInt ey_193)).trans (ndv_eq (show G_53.1 99 = G_53.1 99 from (funext fun j => ((fun (j : Nat) (_ : True) => rfl)) j trivial)) rfl rfl)
            refine S_calli (va_runS (As := [.int y_190, .int y_193]) (rest := [.int y_3, .ref (a 99)]) ⟨hx, hb, hml, hown, hts⟩ (n_lesser l D k A a z G_53 y_190 y_193 ) (va_cwS 2 hts (gd_S hgd m1863 m1864 m131 m1865) rfl rfl rfl hd_X12_lesser.2 ⟨Nat.le_of_ble_eq_true rfl, Nat.le_of_ble_eq_true rfl⟩) (pre_S hW hB_G_53 hK hZ hS) rfl rfl hl.1 rfl (lv_room (Nat.le_of_ble_eq_true rfl)) dX12_layNeed_220 ⟨Nat.le_of_ble_eq_true rfl, Nat.le_of_ble_eq_true rfl⟩) hS (fun r_195 G_196 H locs hpo hW hS => ?_)
            have hX_199 : Q_lesser y_190 y_193 G_53 r_195 G_196 := hpo
            obtain ⟨hB_G_196, hq_197, hp_198, -⟩ := hpo
            have hF := hF.call9 hq_197 rfl rfl
            refine S_iast hx hb hK hW hS kd_99 (vin ((by first | exact ok_1185 ha_p0.1 ty_1 ty_2 ty_3 c_65 | omega)) ((by first | exact ok_1167 ha_p0.2 ha_p1.2 ty_1 ty_2 ty_3 | omega))) dX12_layNeed_223 (fun G_200 H locs eG_200 hW hS => ?_)
            have hB_G_200 : Bd G_200 := hB_G_196.put (V := r_195.toInt) (lo := 0) (hi := 100000) eG_200 rfl rfl rfl ((by first | exact ok_1168 ty_190.1 ty_193.1 hp_198.2.2 | omega)) ((by first | exact ok_1169 ty_190.2 hp_198.1 | omega)) (hB_G_196.2.put eG_200 rfl)
            have hF := hF.put eG_200 (Or.inl (by decide))
            have hpL_ : PR (G_196.1 99) (G.1 98) (G.1 66 61).toInt (G.1 66 62).toInt (G.1 66 63).toInt (p0.toInt) (p1.toInt) := by rw [show G_196.1 99 = G_53.1 99 from (funext fun j => ((fun (j : Nat) (_ : True) => (hq_197.ri9 99 rfl j))) j trivial)]; exact hpF_
            have hfL_ : ((ndv (G_196.1 99) p0.toInt p1.toInt 1 = 1 ∨ ndv (G_196.1 99) p0.toInt p1.toInt 1 = 100000) ∧ ndv (G_196.1 99) p0.toInt p1.toInt 2 = 100000) ∨ ∃ u, NJ (G_196.1 99) (G.1 98) (G.1 66 61).toInt (G.1 66 62).toInt p0.toInt p1.toInt u ∧ u ≤ (G.1 66 63).toInt + 1 := by rw [show G_196.1 99 = G_53.1 99 from (funext fun j => ((fun (j : Nat) (_ : True) => (hq_197.ri9 99 rfl j))) j trivial)]; exact Or.inr ⟨_, hjF_, by omega⟩
            have hr1_ := hn1_.trans (show ndv (G_53.1 99) p0.toInt p1.toInt 1 = ndv (G_196.1 99) p0.toInt p1.toInt 1 by rw [show G_196.1 99 = G_53.1 99 from (funext fun j => ((fun (j : Nat) (_ : True) => (hq_197.ri9 99 rfl j))) j trivial)])
            have hr2_ := hn2_.trans (show ndv (G_53.1 99) p0.toInt p1.toInt 2 = ndv (G_196.1 99) p0.toInt p1.toInt 2 by rw [show G_196.1 99 = G_53.1 99 from (funext fun j => ((fun (j : Nat) (_ : True) => (hq_197.ri9 99 rfl j))) j trivial)])
            have hEnd_ : PR (G_200.1 99) (G.1 98) (G.1 66 61).toInt (G.1 66 62).toInt (G.1 66 63).toInt (p0.toInt) (p1.toInt + 1) := PR_next eG_200 (by first | (clear h400 d_1 hn_64; omega) | omega) (by first | (clear h400 d_1 hn_64; omega) | omega) (by first | (clear h400 d_1 hn_64; omega) | omega) hle1 hpL_ (lw400 hB_G h400) (by first | (clear h400 d_1 hn_64; omega) | omega) (by first | (clear h400 d_1 hn_64; omega) | omega) (by first | (clear h400 d_1 hn_64; omega) | omega) hfL_
            have hPG_ : PRG G_200 p0.toInt (p1.toInt + 1) := PRG_of hF (by decide) (by decide) hEnd_
            exact W.vret hx hb hr (fun t ht _ => ⟨⟨G_200, rfl, (Q_layNeed_mk ⟨hB_G_200, hF, (hPG_), ⟨y_1, ty_1, ⟨y_2, ty_2, ⟨y_3, ty_3, ⟨y_4, ty_4, ⟨y_5, ey_5, (Or.inl ⟨c_7, ⟨y_9, ty_9, ⟨y_12, ey_12.trans (congrFun ((rw_put eG_10 (by decide)).trans (rw_put eG_8 (by decide))) _), (Or.inr ⟨c_14, ⟨G_10, hB_G_10, (Fr.put (rs := [99]) (fs := []) (Fr.put (rs := [99]) (fs := []) Fr.rf eG_8 (Or.inl (by decide))) eG_10 (Or.inl (by decide))), (rw_ast eG_10).trans (congrArg (fun q => upd q (y_9.toNatClampNeg) 100000) (rw_ast eG_8)), ⟨r_33, G_34, hX_37, (Or.inl ⟨c_39, ⟨x_57, G_53, hX_58, f_59, f_60, f_61, f_62, f_63, hB_G_53, hq_54, (Or.inl ⟨c_65, ⟨c_188, ⟨y_189, ty_189, ⟨y_190, ey_190, ⟨y_192, ty_192, ⟨y_193, ey_193, ⟨r_195, G_196, hX_199, ⟨(Fr.put (rs := [99]) (fs := []) Fr.rf eG_200 (Or.inl (by decide))), rw_ast eG_200⟩⟩⟩⟩⟩⟩⟩⟩)⟩⟩)⟩⟩⟩)⟩⟩⟩)⟩⟩⟩⟩⟩⟩), wd_t ht hW⟩, hS.F ht⟩) hS.2.2 dX12_layNeed_224
          · have c_188 : x_57.toInt ≤ (G.1 66 62).toInt := xI_nlt rfl rfl c_188
            refine lv_aload_n hx hb dX12_layNeed_95 rfl (lv_at hl 2 rfl) ?_
            refine S_getR (n := 98) (C := RX12) (T := TX12) (N := 89) hx hb hg iX12 hown hK hW kd_66 rfl 58 (lt_b rfl) (hg (Cond.fieldLink RX12 115 "SlabWalkModel" "lawful" "[Z") m1372) (fun _ h9 => h9) rfl dX12_layNeed_96 ?_
            refine lv_iload_n hx hb dX12_layNeed_99 rfl (lv_at hl 3 rfl) ?_
            refine lv_iload hx hb dX12_layNeed_100 (lv_at hl 0 rfl) ?_
            refine lv_iadd hx hb dX12_layNeed_102 ?_
            refine lv_topi (fun y_201 ey_201 => ?_)
            have ty_201 : y_201.toInt = p0.toInt + x_57.toInt := xI_add rfl rfl ey_201 ((by first | exact ok_252 ha_p0.1 f_59.1 | omega)) ((by first | exact ok_1171 ha_p0.2 f_59.2 | omega))
            refine S_zald hx hb hK hW kd_98 (vin ((by first | exact ok_254 ha_p0.1 f_59.1 ty_201 | omega)) ((by first | exact ok_1172 ha_p0.2 f_59.2 ty_201 | omega))) dX12_layNeed_103 (fun y_202 ey_202 => ?_)
            have ty_202 := hB_G_53.law ey_202
            have u_203 : y_202.toInt = (G.1 98 y_201.toNatClampNeg).toInt := congrArg Int32.toInt (ey_202.trans (((hq_54.ri9 98 rfl y_201.toNatClampNeg).trans ((hq_35.ri9 98 rfl y_201.toNatClampNeg).trans ((gp_ne eG_10 (fun q => absurd q.1 (Nat.ne_of_beq_eq_false rfl))).trans (gp_ne eG_8 (fun q => absurd q.1 (Nat.ne_of_beq_eq_false rfl))))))))
            have b_204 : 0 ≤ (G.1 98 400).toInt ∧ (G.1 98 400).toInt ≤ 1 := bd_98_400 hB_G
            have g_205 : (G_53.1 98 400).toInt = (G.1 98 400).toInt := (congrArg Int32.toInt (show G_53.1 98 400 = (G.1 98 400) from ((hq_54.i9 98 400 rfl rfl).trans ((hq_35.i9 98 400 rfl rfl).trans ((gp_ne eG_10 (fun q => absurd q.1 (Nat.ne_of_beq_eq_false rfl))).trans (gp_ne eG_8 (fun q => absurd q.1 (Nat.ne_of_beq_eq_false rfl))))))))
            have u_206 := law4 (G := G_53) (by first | (clear h400 d_1 hn_64 b_204 g_205; omega) | omega) ey_202
            refine lv_if_ne (tgt := 110) hx hb dX12_layNeed_104 rfl (fun c_207 => ?_) (fun c_207 => ?_)
            · have c_207 : y_202.toInt ≠ 0 := xI_ne rfl rfl c_207
              refine lv_iload hx hb dX12_layNeed_110 (lv_at hl 0 rfl) ?_
              refine lv_aload_n hx hb dX12_layNeed_112 rfl (lv_at hl 2 rfl) ?_
              refine S_getI (v := (G.1 66 62)) (C := RX12) (T := TX12) (N := 89) hx hb hg iX12 hown hK hW kd_66 rfl 62 (lt_b rfl) (hg (Cond.fieldLink RX12 478 "SlabWalkModel" "most" "I") m1376) (fun _ h9 => h9) rfl ((hq_54.i9 66 62 rfl rfl).trans ((hq_35.i9 66 62 rfl rfl).trans ((gp_ne eG_10 (fun q => absurd q.1 (Nat.ne_of_beq_eq_false rfl))).trans ((gp_ne eG_8 (fun q => absurd q.1 (Nat.ne_of_beq_eq_false rfl))).trans (rfl))))) dX12_layNeed_113 ?_
              refine lv_icmp_le (tgt := 123) hx hb dX12_layNeed_116 rfl (fun c_208 => ?_) (fun c_208 => ?_)
              · have c_208 : x_57.toInt ≤ (G.1 66 62).toInt := xI_le rfl rfl c_208
                refine ic_0 hx hb dX12_layNeed_123 ?_
                have qc_209 : (0 : Int32).toInt = 0 := rfl
                refine S_calli (va_runS (As := [.int 0]) (rest := []) ⟨hx, hb, hml, hown, hts⟩ (n_truth l D k A a z G_53 0 ⟨by decide, by decide⟩) (va_cwS 1 hts (gd_S hgd m1788 m1789 m131 m1790) rfl rfl rfl hd_X12_truth.2 ⟨Nat.le_of_ble_eq_true rfl, Nat.le_of_ble_eq_true rfl⟩) (pre_S hW hB_G_53 hK hZ hS) rfl rfl hl.1 rfl (lv_room (Nat.le_of_ble_eq_true rfl)) dX12_layNeed_124 ⟨Nat.le_of_ble_eq_true rfl, Nat.le_of_ble_eq_true rfl⟩) hS (fun r_210 G_211 H locs hpo hW hS => ?_)
                have hX_214 : Q_truth 0 G_53 r_210 G_211 := hpo
                obtain ⟨hB_G_211, hq_212, f_215, hp_213, -⟩ := hpo
                have hF := hF.call9 hq_212 rfl rfl
                refine lv_istore (lv' := [(5, .int r_210), (4, .int x_57), (3, .int y_3), (0, .ref (a 66)), (1, .int p0), (2, .int p1)]) hx hb dX12_layNeed_127 hl (lt_b rfl) rfl (fun ls hl => ?_)
                refine lv_aload_n hx hb dX12_layNeed_129 rfl (lv_at hl 3 rfl) ?_
                refine S_getR (n := 99) (C := RX12) (T := TX12) (N := 89) hx hb hg iX12 hown hK hW kd_66 rfl 64 (lt_b rfl) (hg (Cond.fieldLink RX12 118 "SlabWalkModel" "need" "[I") m1378) (fun _ h9 => h9) rfl dX12_layNeed_130 ?_
                refine lv_iload_n hx hb dX12_layNeed_133 rfl (lv_at hl 2 rfl) ?_
                refine ic_1 hx hb dX12_layNeed_134 ?_
                refine lv_iadd hx hb dX12_layNeed_135 ?_
                refine lv_topi (fun y_216 ey_216 => ?_)
                have ty_216 : y_216.toInt = y_3.toInt + 1 := xI_add rfl rfl ey_216 ((by first | exact ok_1181 ha_p0.1 ty_1 ty_2 ty_3 c_65 | omega)) ((by first | exact ok_1157 ha_p0.2 ha_p1.2 ty_1 ty_2 ty_3 | omega))
                refine lv_aload_n hx hb dX12_layNeed_136 rfl (lv_at hl 3 rfl) ?_
                refine S_getR (n := 99) (C := RX12) (T := TX12) (N := 89) hx hb hg iX12 hown hK hW kd_66 rfl 64 (lt_b rfl) (hg (Cond.fieldLink RX12 118 "SlabWalkModel" "need" "[I") m1378) (fun _ h9 => h9) rfl dX12_layNeed_137 ?_
                refine lv_iload_n hx hb dX12_layNeed_140 rfl (lv_at hl 2 rfl) ?_
                refine ic_1 hx hb dX12_layNeed_141 ?_
                refine lv_iadd hx hb dX12_layNeed_142 ?_
                refine lv_topi (fun y_217 ey_217 => ?_)
                have ty_217 : y_217.toInt = y_3.toInt + 1 := xI_add rfl rfl ey_217 ((by first | exact ok_1181 ha_p0.1 ty_1 ty_2 ty_3 c_65 | omega)) ((by first | exact ok_1157 ha_p0.2 ha_p1.2 ty_1 ty_2 ty_3 | omega))
                refine S_iald hx hb hK hW kd_99 (vin ((by first | exact ok_1182 ha_p0.1 ty_1 ty_2 ty_3 c_65 ty_217 | omega)) ((by first | exact ok_1159 ha_p0.2 ha_p1.2 ty_1 ty_2 ty_3 ty_217 | omega))) dX12_layNeed_143 (fun y_218 ey_218 => ?_)
                have ty_218 : 0 ≤ y_218.toInt ∧ y_218.toInt ≤ 100000 := bv_99 hB_G_211 ey_218
                have u_219 : y_218.toInt = (G_53.1 99 y_217.toNatClampNeg).toInt := congrArg Int32.toInt (ey_218.trans ((hq_212.ri9 99 rfl y_217.toNatClampNeg)))
                have hn1_ : y_218.toInt = ndv (G_53.1 99) p0.toInt p1.toInt 1 := (ndv_at (f := G_211.1 99) (x := y_217) ((by first | exact ok_1164 ty_1 ty_2 ty_3 ty_217 | omega)) (congrArg Int32.toInt ey_218)).trans (ndv_eq (show G_211.1 99 = G_53.1 99 from (funext fun j => ((fun (j : Nat) (_ : True) => (hq_212.ri9 99 rfl j))) j trivial)) rfl rfl)
                refine ic_1 hx hb dX12_layNeed_144 ?_
                refine lv_aload_n hx hb dX12_layNeed_145 rfl (lv_at hl 3 rfl) ?_
                refine lv_iload_n hx hb dX12_layNeed_146 rfl (lv_at hl 4 rfl) ?_
                refine lv_iload hx hb dX12_layNeed_147 (lv_at hl 1 rfl) ?_
                refine lv_iadd hx hb dX12_layNeed_149 ?_
                refine lv_topi (fun y_220 ey_220 => ?_)
                have ty_220 : y_220.toInt = p0.toInt + x_57.toInt := xI_add rfl rfl ey_220 ((by first | exact ok_252 ha_p0.1 f_59.1 | omega)) ((by first | exact ok_1171 ha_p0.2 f_59.2 | omega))
                refine lv_iload hx hb dX12_layNeed_150 (lv_at hl 0 rfl) ?_
                refine ic_2 hx hb dX12_layNeed_152 ?_
                have qc_221 : (2 : Int32).toInt = 2 := rfl
                refine S_calli (va_runV (As := [.int y_220, .int r_210, .int 2]) (rest := [.int 1, .int y_218, .int y_216, .ref (a 99)]) ⟨hx, hb, hml, hown, hts⟩ (n_needOf l D k A a z G_211 y_220 r_210 2 ⟨(by first | exact ok_254 ha_p0.1 f_59.1 ty_220 | omega), (by first | (clear h400 d_1 hn_64 b_204 g_205 f_215 hp_213; omega) | omega)⟩ ⟨(by first | exact f_215.1 | omega), (by first | exact f_215.2 | omega)⟩ ⟨by decide, by decide⟩) (cwV 3 hts (gd_V hgd m1859 m1861 m96 m131 m1862) rfl rfl rfl hd_X12_needOf ⟨Nat.le_of_ble_eq_true rfl, Nat.le_of_ble_eq_true rfl⟩) (pre_W hW hB_G_211 hK hZ hS kd_66 rfl) rfl rfl hl.1 rfl (lv_room (Nat.le_of_ble_eq_true rfl)) dX12_layNeed_153 ⟨Nat.le_of_ble_eq_true rfl, Nat.le_of_ble_eq_true rfl⟩) hS (fun r_222 G_223 H locs hpo hW hS => ?_)
                have hX_226 : Q_needOf y_220 r_210 2 G_211 r_222 G_223 := hpo
                obtain ⟨hB_G_223, hq_224, f_227, hp_225, -⟩ := hpo
                have hF := hF.call9 hq_224 rfl rfl
                have u_228 := trI_v x_57.toInt (G.1 66 62).toInt
                have d_12 := u_228.1
                have d_13 := u_228.2 c_208
                have hm2_ : r_222.toInt = ndv (G_53.1 99) (p0.toInt + x_57.toInt) (trI x_57.toInt (G.1 66 62).toInt) 2 := hp_225.trans (ndv_eq (show G_211.1 99 = G_53.1 99 from (funext fun j => ((fun (j : Nat) (_ : True) => (hq_212.ri9 99 rfl j))) j trivial)) ((by first | exact ty_220 | omega)) ((by first | exact ok_1173 qc_209 f_215.1 f_215.2 hp_213 d_13 | omega)))
                refine lv_iadd hx hb dX12_layNeed_156 ?_
                refine lv_topi (fun y_229 ey_229 => ?_)
                have ty_229 : y_229.toInt = 1 + r_222.toInt := xI_add rfl rfl ey_229 ((by first | exact ok_1174 f_227.1 | omega)) ((by first | exact ok_1175 f_227.2 | omega))
                refine S_calli (va_runS (As := [.int y_218, .int y_229]) (rest := [.int y_216, .ref (a 99)]) ⟨hx, hb, hml, hown, hts⟩ (n_lesser l D k A a z G_223 y_218 y_229 ) (va_cwS 2 hts (gd_S hgd m1863 m1864 m131 m1865) rfl rfl rfl hd_X12_lesser.2 ⟨Nat.le_of_ble_eq_true rfl, Nat.le_of_ble_eq_true rfl⟩) (pre_S hW hB_G_223 hK hZ hS) rfl rfl hl.1 rfl (lv_room (Nat.le_of_ble_eq_true rfl)) dX12_layNeed_157 ⟨Nat.le_of_ble_eq_true rfl, Nat.le_of_ble_eq_true rfl⟩) hS (fun r_230 G_231 H locs hpo hW hS => ?_)
                have hX_234 : Q_lesser y_218 y_229 G_223 r_230 G_231 := hpo
                obtain ⟨hB_G_231, hq_232, hp_233, -⟩ := hpo
                have hF := hF.call9 hq_232 rfl rfl
                refine S_iast hx hb hK hW hS kd_99 (vin ((by first | exact ok_1182 ha_p0.1 ty_1 ty_2 ty_3 c_65 ty_216 | omega)) ((by first | exact ok_1159 ha_p0.2 ha_p1.2 ty_1 ty_2 ty_3 ty_216 | omega))) dX12_layNeed_160 (fun G_235 H locs eG_235 hW hS => ?_)
                have hB_G_235 : Bd G_235 := hB_G_231.put (V := r_230.toInt) (lo := 0) (hi := 100000) eG_235 rfl rfl rfl ((by first | exact ok_1176 ty_218.1 f_227.1 ty_229 hp_233.2.2 | omega)) ((by first | exact ok_1169 ty_218.2 hp_233.1 | omega)) (hB_G_231.2.put eG_235 rfl)
                have hF := hF.put eG_235 (Or.inl (by decide))
                refine lv_aload_n hx hb dX12_layNeed_161 rfl (lv_at hl 3 rfl) ?_
                refine S_getR (n := 99) (C := RX12) (T := TX12) (N := 89) hx hb hg iX12 hown hK hW kd_66 rfl 64 (lt_b rfl) (hg (Cond.fieldLink RX12 118 "SlabWalkModel" "need" "[I") m1378) (fun _ h9 => h9) rfl dX12_layNeed_162 ?_
                refine lv_iload_n hx hb dX12_layNeed_165 rfl (lv_at hl 2 rfl) ?_
                refine ic_2 hx hb dX12_layNeed_166 ?_
                refine lv_iadd hx hb dX12_layNeed_167 ?_
                refine lv_topi (fun y_236 ey_236 => ?_)
                have ty_236 : y_236.toInt = y_3.toInt + 2 := xI_add rfl rfl ey_236 ((by first | exact ok_1183 ha_p0.1 ty_1 ty_2 ty_3 c_65 | omega)) ((by first | exact ok_1161 ha_p0.2 ha_p1.2 ty_1 ty_2 ty_3 | omega))
                refine lv_aload_n hx hb dX12_layNeed_168 rfl (lv_at hl 3 rfl) ?_
                refine S_getR (n := 99) (C := RX12) (T := TX12) (N := 89) hx hb hg iX12 hown hK hW kd_66 rfl 64 (lt_b rfl) (hg (Cond.fieldLink RX12 118 "SlabWalkModel" "need" "[I") m1378) (fun _ h9 => h9) rfl dX12_layNeed_169 ?_
                refine lv_iload_n hx hb dX12_layNeed_172 rfl (lv_at hl 2 rfl) ?_
                refine ic_2 hx hb dX12_layNeed_173 ?_
                refine lv_iadd hx hb dX12_layNeed_174 ?_
                refine lv_topi (fun y_237 ey_237 => ?_)
                have ty_237 : y_237.toInt = y_3.toInt + 2 := xI_add rfl rfl ey_237 ((by first | exact ok_1183 ha_p0.1 ty_1 ty_2 ty_3 c_65 | omega)) ((by first | exact ok_1161 ha_p0.2 ha_p1.2 ty_1 ty_2 ty_3 | omega))
                refine S_iald hx hb hK hW kd_99 (vin ((by first | exact ok_1184 ha_p0.1 ty_1 ty_2 ty_3 c_65 ty_237 | omega)) ((by first | exact ok_1163 ha_p0.2 ha_p1.2 ty_1 ty_2 ty_3 ty_237 | omega))) dX12_layNeed_175 (fun y_238 ey_238 => ?_)
                have ty_238 : 0 ≤ y_238.toInt ∧ y_238.toInt ≤ 100000 := bv_99 hB_G_235 ey_238
                have u_239 : y_238.toInt = (G_235.1 99 y_237.toNatClampNeg).toInt := congrArg Int32.toInt (ey_238)
                have hn2_ : y_238.toInt = ndv (G_235.1 99) p0.toInt p1.toInt 2 := (ndv_at (f := G_235.1 99) (x := y_237) ((by first | exact ok_1165 ty_1 ty_2 ty_3 ty_237 | omega)) (congrArg Int32.toInt ey_238)).trans (ndv_eq (show G_235.1 99 = G_235.1 99 from (funext fun j => ((fun (j : Nat) (_ : True) => rfl)) j trivial)) rfl rfl)
                refine ic_1 hx hb dX12_layNeed_176 ?_
                refine lv_aload_n hx hb dX12_layNeed_177 rfl (lv_at hl 3 rfl) ?_
                refine lv_iload_n hx hb dX12_layNeed_178 rfl (lv_at hl 4 rfl) ?_
                refine lv_iload hx hb dX12_layNeed_179 (lv_at hl 1 rfl) ?_
                refine lv_iadd hx hb dX12_layNeed_181 ?_
                refine lv_topi (fun y_240 ey_240 => ?_)
                have ty_240 : y_240.toInt = p0.toInt + x_57.toInt := xI_add rfl rfl ey_240 ((by first | exact ok_252 ha_p0.1 f_59.1 | omega)) ((by first | exact ok_1171 ha_p0.2 f_59.2 | omega))
                refine lv_iload hx hb dX12_layNeed_182 (lv_at hl 0 rfl) ?_
                refine ic_1 hx hb dX12_layNeed_184 ?_
                have qc_241 : (1 : Int32).toInt = 1 := rfl
                refine S_calli (va_runV (As := [.int y_240, .int r_210, .int 1]) (rest := [.int 1, .int y_238, .int y_236, .ref (a 99)]) ⟨hx, hb, hml, hown, hts⟩ (n_needOf l D k A a z G_235 y_240 r_210 1 ⟨(by first | exact ok_254 ha_p0.1 f_59.1 ty_240 | omega), (by first | (clear h400 d_1 hn_64 b_204 g_205 u_228; omega) | omega)⟩ ⟨(by first | exact f_215.1 | omega), (by first | exact f_215.2 | omega)⟩ ⟨by decide, by decide⟩) (cwV 3 hts (gd_V hgd m1859 m1861 m96 m131 m1862) rfl rfl rfl hd_X12_needOf ⟨Nat.le_of_ble_eq_true rfl, Nat.le_of_ble_eq_true rfl⟩) (pre_W hW hB_G_235 hK hZ hS kd_66 rfl) rfl rfl hl.1 rfl (lv_room (Nat.le_of_ble_eq_true rfl)) dX12_layNeed_185 ⟨Nat.le_of_ble_eq_true rfl, Nat.le_of_ble_eq_true rfl⟩) hS (fun r_242 G_243 H locs hpo hW hS => ?_)
                have hX_246 : Q_needOf y_240 r_210 1 G_235 r_242 G_243 := hpo
                obtain ⟨hB_G_243, hq_244, f_247, hp_245, -⟩ := hpo
                have hF := hF.call9 hq_244 rfl rfl
                have u_248 := trI_v x_57.toInt (G.1 66 62).toInt
                have d_14 := u_248.1
                have d_15 := u_248.2 c_208
                have hm1_ : r_242.toInt = ndv (G_235.1 99) (p0.toInt + x_57.toInt) (trI x_57.toInt (G.1 66 62).toInt) 1 := hp_245.trans (ndv_eq (show G_235.1 99 = G_235.1 99 from (funext fun j => ((fun (j : Nat) (_ : True) => rfl)) j trivial)) ((by first | exact ty_240 | omega)) ((by first | exact ok_1173 qc_209 f_215.1 f_215.2 hp_213 d_13 | omega)))
                refine lv_iadd hx hb dX12_layNeed_188 ?_
                refine lv_topi (fun y_249 ey_249 => ?_)
                have ty_249 : y_249.toInt = 1 + r_242.toInt := xI_add rfl rfl ey_249 ((by first | exact ok_1174 f_247.1 | omega)) ((by first | exact ok_1175 f_247.2 | omega))
                refine S_calli (va_runS (As := [.int y_238, .int y_249]) (rest := [.int y_236, .ref (a 99)]) ⟨hx, hb, hml, hown, hts⟩ (n_lesser l D k A a z G_243 y_238 y_249 ) (va_cwS 2 hts (gd_S hgd m1863 m1864 m131 m1865) rfl rfl rfl hd_X12_lesser.2 ⟨Nat.le_of_ble_eq_true rfl, Nat.le_of_ble_eq_true rfl⟩) (pre_S hW hB_G_243 hK hZ hS) rfl rfl hl.1 rfl (lv_room (Nat.le_of_ble_eq_true rfl)) dX12_layNeed_189 ⟨Nat.le_of_ble_eq_true rfl, Nat.le_of_ble_eq_true rfl⟩) hS (fun r_250 G_251 H locs hpo hW hS => ?_)
                have hX_254 : Q_lesser y_238 y_249 G_243 r_250 G_251 := hpo
                obtain ⟨hB_G_251, hq_252, hp_253, -⟩ := hpo
                have hF := hF.call9 hq_252 rfl rfl
                refine S_iast hx hb hK hW hS kd_99 (vin ((by first | exact ok_1184 ha_p0.1 ty_1 ty_2 ty_3 c_65 ty_236 | omega)) ((by first | exact ok_1163 ha_p0.2 ha_p1.2 ty_1 ty_2 ty_3 ty_236 | omega))) dX12_layNeed_192 (fun G_255 H locs eG_255 hW hS => ?_)
                have hB_G_255 : Bd G_255 := hB_G_251.put (V := r_250.toInt) (lo := 0) (hi := 100000) eG_255 rfl rfl rfl ((by first | exact ok_1176 ty_238.1 f_247.1 ty_249 hp_253.2.2 | omega)) ((by first | exact ok_1169 ty_238.2 hp_253.1 | omega)) (hB_G_251.2.put eG_255 rfl)
                have hF := hF.put eG_255 (Or.inl (by decide))
                have hpa_ : PR (G_231.1 99) (G.1 98) (G.1 66 61).toInt (G.1 66 62).toInt (G.1 66 63).toInt (p0.toInt) (p1.toInt) := by rw [show G_231.1 99 = G_53.1 99 from (funext fun j => ((fun (j : Nat) (_ : True) => ((hq_232.ri9 99 rfl j).trans ((hq_224.ri9 99 rfl j).trans (hq_212.ri9 99 rfl j))))) j trivial)]; exact (show PR (G_53.1 99) (G.1 98) (G.1 66 61).toInt (G.1 66 62).toInt (G.1 66 63).toInt (p0.toInt) (p1.toInt) by assumption)
                have hpb_ : PR (G_235.1 99) (G.1 98) (G.1 66 61).toInt (G.1 66 62).toInt (G.1 66 63).toInt (p0.toInt) (p1.toInt) := PR_put (i := 1) eG_235 ((by first | exact ok_1164 ty_1 ty_2 ty_3 ty_216 | omega)) ((by first | exact ha_p0.1 | omega)) ((by first | exact ⟨(by first | exact ha_p1.1 | omega), (by first | exact ha_p1.2 | omega)⟩ | omega)) (by first | (clear h400 d_1 hn_64 b_204 g_205 u_228 u_248; omega) | omega) hle1 hpa_
                have hpc_ : PR (G_251.1 99) (G.1 98) (G.1 66 61).toInt (G.1 66 62).toInt (G.1 66 63).toInt (p0.toInt) (p1.toInt) := by rw [show G_251.1 99 = G_235.1 99 from (funext fun j => ((fun (j : Nat) (_ : True) => ((hq_252.ri9 99 rfl j).trans (hq_244.ri9 99 rfl j)))) j trivial)]; exact hpb_
                have hpN_ : PR (G_255.1 99) (G.1 98) (G.1 66 61).toInt (G.1 66 62).toInt (G.1 66 63).toInt (p0.toInt) (p1.toInt) := PR_put (i := 2) eG_255 ((by first | exact ok_1165 ty_1 ty_2 ty_3 ty_236 | omega)) ((by first | exact ha_p0.1 | omega)) ((by first | exact ⟨(by first | exact ha_p1.1 | omega), (by first | exact ha_p1.2 | omega)⟩ | omega)) (by first | (clear h400 d_1 hn_64 b_204 g_205 u_228 u_248; omega) | omega) hle1 hpc_
                have hja_ : NJ (G_231.1 99) (G.1 98) (G.1 66 61).toInt (G.1 66 62).toInt p0.toInt p1.toInt (x_57.toInt) := by rw [show G_231.1 99 = G_53.1 99 from (funext fun j => ((fun (j : Nat) (_ : True) => ((hq_232.ri9 99 rfl j).trans ((hq_224.ri9 99 rfl j).trans (hq_212.ri9 99 rfl j))))) j trivial)]; exact (show NJ (G_53.1 99) (G.1 98) (G.1 66 61).toInt (G.1 66 62).toInt p0.toInt p1.toInt (x_57.toInt) by assumption)
                have hnN_ : NJ (G_255.1 99) (G.1 98) (G.1 66 61).toInt (G.1 66 62).toInt p0.toInt p1.toInt (x_57.toInt + 1) := NJ_step_ hja_ eG_235 (by first | (clear h400 d_1 hn_64 b_204 g_205 u_228 u_248; omega) | omega) (show G_251.1 99 = G_235.1 99 from (funext fun j => ((fun (j : Nat) (_ : True) => ((hq_252.ri9 99 rfl j).trans (hq_244.ri9 99 rfl j)))) j trivial)) eG_255 (by first | (clear h400 d_1 hn_64 b_204 g_205 u_228 u_248; omega) | omega) (by first | (clear h400 d_1 hn_64 b_204 g_205 u_228 u_248; omega) | omega) (by first | (clear h400 d_1 hn_64 b_204 g_205 u_228 u_248; omega) | omega) hle1 (by first | (clear h400 d_1 hn_64 b_204 g_205 u_228 u_248; omega) | omega) ((lw_iff (x := y_201) (y := y_202) (by first | (clear h400 d_1 hn_64 b_204 g_205 u_228 u_248; omega) | omega) (by first | (clear h400 d_1 hn_64 b_204 g_205 u_228 u_248; omega) | omega)).mpr (by first | (clear h400 d_1 hn_64 b_204 g_205 u_228 u_248; omega) | omega)) (hn1_.trans (by rw [show G_231.1 99 = G_53.1 99 from (funext fun j => ((fun (j : Nat) (_ : True) => ((hq_232.ri9 99 rfl j).trans ((hq_224.ri9 99 rfl j).trans (hq_212.ri9 99 rfl j))))) j trivial)])) hn2_ (hm2_.trans (by rw [show G_231.1 99 = G_53.1 99 from (funext fun j => ((fun (j : Nat) (_ : True) => ((hq_232.ri9 99 rfl j).trans ((hq_224.ri9 99 rfl j).trans (hq_212.ri9 99 rfl j))))) j trivial)])) hm1_ (by first | (clear h400 d_1 hn_64 b_204 g_205 u_228 u_248; omega) | omega) (by first | (clear h400 d_1 hn_64 b_204 g_205 u_228 u_248; omega) | omega) (by first | (clear h400 d_1 hn_64 b_204 g_205 u_228 u_248; omega) | omega) (by first | (clear h400 d_1 hn_64 b_204 g_205 u_228 u_248; omega) | omega) (by first | (clear h400 d_1 hn_64 b_204 g_205 u_228 u_248; omega) | omega) (by first | (clear h400 d_1 hn_64 b_204 g_205 u_228 u_248; omega) | omega)
                obtain ⟨y_256, ey_256⟩ : ∃ q, q = x_57 + 1 := ⟨_, rfl⟩
                have ty_256 : y_256.toInt = x_57.toInt + 1 := xI_add rfl rfl ey_256 ((by first | exact ok_237 f_59.1 | omega)) ((by first | exact ok_134 f_59.2 | omega))
                refine lv_iinc (v := y_256) (lv' := [(4, .int y_256), (5, .int r_210), (3, .int y_3), (0, .ref (a 66)), (1, .int p0), (2, .int p1)]) hx hb dX12_layNeed_193 hl (k := 1) rfl (by rw [ey_256]; rfl) (lt_b rfl) rfl (fun ls hl => ?_)
                have hj_257 : NJ (G_255.1 99) (G.1 98) (G.1 66 61).toInt (G.1 66 62).toInt p0.toInt p1.toInt (y_256.toInt) := by rw [ty_256]; exact hnN_
                refine lv_goto (tgt := 74) hx hb dX12_layNeed_196 rfl ?_
                exact ih_55 (100 - y_256.toInt : Int).toNat ((by first | (clear h400 d_1 b_204 g_205 u_228 u_248; omega) | omega)) _ _ _ ⟨G_255, y_256, (Int.toNat_of_nonneg ((by first | exact ok_1177 b_31.2 f_59.2 c_188 ty_256 | omega))), ⟨(by first | exact ok_240 f_59.1 ty_256 | omega), (by first | exact ok_1178 b_31.2 f_59.2 c_188 ty_256 | omega)⟩, (by assumption), (by assumption), ((by first | exact ok_1093 f_62 ty_256 | omega)), ((by first | exact ok_1186 hml9.2 f_63 c_188 ty_256 | omega)), (hX_58.st (St_n_layNeed_1_mk ⟨x_57, G_53, y_256, G_255, rfl, rfl, f_59, f_60, f_61, f_62, f_63, hB_G_53, (Or.inl ⟨c_65, ⟨c_188, ⟨y_201, ty_201, ⟨y_202, ey_202, (Or.inr ⟨c_207, (Or.inl ⟨c_208, ⟨r_210, G_211, hX_214, ⟨y_216, ty_216, ⟨y_217, ty_217, ⟨y_218, ey_218, ⟨y_220, ty_220, ⟨r_222, G_223, hX_226, ⟨y_229, ty_229, ⟨r_230, G_231, hX_234, ⟨y_236, ty_236, ⟨y_237, ty_237, ⟨y_238, ey_238.trans (congrFun (rw_ast eG_235) _), ⟨y_240, ty_240, ⟨G_235, hB_G_235, (Fr.put (rs := [99]) (fs := []) Fr.rf eG_235 (Or.inl (by decide))), rw_ast eG_235, ⟨r_242, G_243, hX_246, ⟨y_249, ty_249, ⟨r_250, G_251, hX_254, ⟨y_256, ty_256, ⟨rfl, (Fr.put (rs := [99]) (fs := []) Fr.rf eG_255 (Or.inl (by decide))), rw_ast eG_255⟩⟩⟩⟩⟩⟩⟩⟩⟩⟩⟩⟩⟩⟩⟩⟩⟩⟩⟩)⟩)⟩⟩⟩⟩)⟩)), hW, hB_G_255, hF, (Fr.put (rs := [99]) (fs := []) (Fr.call9 (rs := [99]) (fs := []) (Fr.call9 (rs := [99]) (fs := []) (Fr.put (rs := [99]) (fs := []) (Fr.call9 (rs := [99]) (fs := []) (Fr.call9 (rs := [99]) (fs := []) (Fr.call9 (rs := [99]) (fs := []) (Fr.call9 (rs := [99]) (fs := []) Fr.rf hq_54 rfl rfl) hq_212 rfl rfl) hq_224 rfl rfl) hq_232 rfl rfl) eG_235 (Or.inl (by decide))) hq_244 rfl rfl) hq_252 rfl rfl) eG_255 (Or.inl (by decide))), hS, lv_sub hl [0, 2, 3, 4, 5] rfl⟩
              · have c_208 : (G.1 66 62).toInt < x_57.toInt := xI_nle rfl rfl c_208
                refine ic_1 hx hb dX12_layNeed_119 ?_
                refine lv_goto (tgt := 124) hx hb dX12_layNeed_120 rfl ?_
                have qc_258 : (1 : Int32).toInt = 1 := rfl
                refine S_calli (va_runS (As := [.int 1]) (rest := []) ⟨hx, hb, hml, hown, hts⟩ (n_truth l D k A a z G_53 1 ⟨by decide, by decide⟩) (va_cwS 1 hts (gd_S hgd m1788 m1789 m131 m1790) rfl rfl rfl hd_X12_truth.2 ⟨Nat.le_of_ble_eq_true rfl, Nat.le_of_ble_eq_true rfl⟩) (pre_S hW hB_G_53 hK hZ hS) rfl rfl hl.1 rfl (lv_room (Nat.le_of_ble_eq_true rfl)) dX12_layNeed_124 ⟨Nat.le_of_ble_eq_true rfl, Nat.le_of_ble_eq_true rfl⟩) hS (fun r_259 G_260 H locs hpo hW hS => ?_)
                have hX_263 : Q_truth 1 G_53 r_259 G_260 := hpo
                obtain ⟨hB_G_260, hq_261, f_264, hp_262, -⟩ := hpo
                have hF := hF.call9 hq_261 rfl rfl
                refine lv_istore (lv' := [(5, .int r_259), (4, .int x_57), (3, .int y_3), (0, .ref (a 66)), (1, .int p0), (2, .int p1)]) hx hb dX12_layNeed_127 hl (lt_b rfl) rfl (fun ls hl => ?_)
                refine lv_aload_n hx hb dX12_layNeed_129 rfl (lv_at hl 3 rfl) ?_
                refine S_getR (n := 99) (C := RX12) (T := TX12) (N := 89) hx hb hg iX12 hown hK hW kd_66 rfl 64 (lt_b rfl) (hg (Cond.fieldLink RX12 118 "SlabWalkModel" "need" "[I") m1378) (fun _ h9 => h9) rfl dX12_layNeed_130 ?_
                refine lv_iload_n hx hb dX12_layNeed_133 rfl (lv_at hl 2 rfl) ?_
                refine ic_1 hx hb dX12_layNeed_134 ?_
                refine lv_iadd hx hb dX12_layNeed_135 ?_
                refine lv_topi (fun y_265 ey_265 => ?_)
                have ty_265 : y_265.toInt = y_3.toInt + 1 := xI_add rfl rfl ey_265 ((by first | exact ok_1181 ha_p0.1 ty_1 ty_2 ty_3 c_65 | omega)) ((by first | exact ok_1157 ha_p0.2 ha_p1.2 ty_1 ty_2 ty_3 | omega))
                refine lv_aload_n hx hb dX12_layNeed_136 rfl (lv_at hl 3 rfl) ?_
                refine S_getR (n := 99) (C := RX12) (T := TX12) (N := 89) hx hb hg iX12 hown hK hW kd_66 rfl 64 (lt_b rfl) (hg (Cond.fieldLink RX12 118 "SlabWalkModel" "need" "[I") m1378) (fun _ h9 => h9) rfl dX12_layNeed_137 ?_
                refine lv_iload_n hx hb dX12_layNeed_140 rfl (lv_at hl 2 rfl) ?_
                refine ic_1 hx hb dX12_layNeed_141 ?_
                refine lv_iadd hx hb dX12_layNeed_142 ?_
                refine lv_topi (fun y_266 ey_266 => ?_)
                have ty_266 : y_266.toInt = y_3.toInt + 1 := xI_add rfl rfl ey_266 ((by first | exact ok_1181 ha_p0.1 ty_1 ty_2 ty_3 c_65 | omega)) ((by first | exact ok_1157 ha_p0.2 ha_p1.2 ty_1 ty_2 ty_3 | omega))
                refine S_iald hx hb hK hW kd_99 (vin ((by first | exact ok_1182 ha_p0.1 ty_1 ty_2 ty_3 c_65 ty_266 | omega)) ((by first | exact ok_1159 ha_p0.2 ha_p1.2 ty_1 ty_2 ty_3 ty_266 | omega))) dX12_layNeed_143 (fun y_267 ey_267 => ?_)
                have ty_267 : 0 ≤ y_267.toInt ∧ y_267.toInt ≤ 100000 := bv_99 hB_G_260 ey_267
                have u_268 : y_267.toInt = (G_53.1 99 y_266.toNatClampNeg).toInt := congrArg Int32.toInt (ey_267.trans ((hq_261.ri9 99 rfl y_266.toNatClampNeg)))
                have hn1_ : y_267.toInt = ndv (G_53.1 99) p0.toInt p1.toInt 1 := (ndv_at (f := G_260.1 99) (x := y_266) ((by first | exact ok_1164 ty_1 ty_2 ty_3 ty_266 | omega)) (congrArg Int32.toInt ey_267)).trans (ndv_eq (show G_260.1 99 = G_53.1 99 from (funext fun j => ((fun (j : Nat) (_ : True) => (hq_261.ri9 99 rfl j))) j trivial)) rfl rfl)
                refine ic_1 hx hb dX12_layNeed_144 ?_
                refine lv_aload_n hx hb dX12_layNeed_145 rfl (lv_at hl 3 rfl) ?_
                refine lv_iload_n hx hb dX12_layNeed_146 rfl (lv_at hl 4 rfl) ?_
                refine lv_iload hx hb dX12_layNeed_147 (lv_at hl 1 rfl) ?_
                refine lv_iadd hx hb dX12_layNeed_149 ?_
                refine lv_topi (fun y_269 ey_269 => ?_)
                have ty_269 : y_269.toInt = p0.toInt + x_57.toInt := xI_add rfl rfl ey_269 ((by first | exact ok_252 ha_p0.1 f_59.1 | omega)) ((by first | exact ok_1171 ha_p0.2 f_59.2 | omega))
                refine lv_iload hx hb dX12_layNeed_150 (lv_at hl 0 rfl) ?_
                refine ic_2 hx hb dX12_layNeed_152 ?_
                have qc_270 : (2 : Int32).toInt = 2 := rfl
                refine S_calli (va_runV (As := [.int y_269, .int r_259, .int 2]) (rest := [.int 1, .int y_267, .int y_265, .ref (a 99)]) ⟨hx, hb, hml, hown, hts⟩ (n_needOf l D k A a z G_260 y_269 r_259 2 ⟨(by first | exact ok_254 ha_p0.1 f_59.1 ty_269 | omega), (by first | exact ok_1187 b_27.2 g_28 b_29.1 g_30 g_32 d_3 c_188 c_208 ty_269 | omega)⟩ ⟨(by first | exact f_264.1 | omega), (by first | exact f_264.2 | omega)⟩ ⟨by decide, by decide⟩) (cwV 3 hts (gd_V hgd m1859 m1861 m96 m131 m1862) rfl rfl rfl hd_X12_needOf ⟨Nat.le_of_ble_eq_true rfl, Nat.le_of_ble_eq_true rfl⟩) (pre_W hW hB_G_260 hK hZ hS kd_66 rfl) rfl rfl hl.1 rfl (lv_room (Nat.le_of_ble_eq_true rfl)) dX12_layNeed_153 ⟨Nat.le_of_ble_eq_true rfl, Nat.le_of_ble_eq_true rfl⟩) hS (fun r_271 G_272 H locs hpo hW hS => ?_)
                have hX_275 : Q_needOf y_269 r_259 2 G_260 r_271 G_272 := hpo
                obtain ⟨hB_G_272, hq_273, f_276, hp_274, -⟩ := hpo
                have hF := hF.call9 hq_273 rfl rfl
                have u_277 := trI_v x_57.toInt (G.1 66 62).toInt
                have d_16 := u_277.1 c_208
                have d_17 := u_277.2 c_188
                have hm2_ : r_271.toInt = ndv (G_53.1 99) (p0.toInt + x_57.toInt) (trI x_57.toInt (G.1 66 62).toInt) 2 := hp_274.trans (ndv_eq (show G_260.1 99 = G_53.1 99 from (funext fun j => ((fun (j : Nat) (_ : True) => (hq_261.ri9 99 rfl j))) j trivial)) ((by first | exact ty_269 | omega)) ((by first | exact ok_1188 f_264.1 f_264.2 d_16 d_17 | omega)))
                refine lv_iadd hx hb dX12_layNeed_156 ?_
                refine lv_topi (fun y_278 ey_278 => ?_)
                have ty_278 : y_278.toInt = 1 + r_271.toInt := xI_add rfl rfl ey_278 ((by first | exact ok_1174 f_276.1 | omega)) ((by first | exact ok_1175 f_276.2 | omega))
                refine S_calli (va_runS (As := [.int y_267, .int y_278]) (rest := [.int y_265, .ref (a 99)]) ⟨hx, hb, hml, hown, hts⟩ (n_lesser l D k A a z G_272 y_267 y_278 ) (va_cwS 2 hts (gd_S hgd m1863 m1864 m131 m1865) rfl rfl rfl hd_X12_lesser.2 ⟨Nat.le_of_ble_eq_true rfl, Nat.le_of_ble_eq_true rfl⟩) (pre_S hW hB_G_272 hK hZ hS) rfl rfl hl.1 rfl (lv_room (Nat.le_of_ble_eq_true rfl)) dX12_layNeed_157 ⟨Nat.le_of_ble_eq_true rfl, Nat.le_of_ble_eq_true rfl⟩) hS (fun r_279 G_280 H locs hpo hW hS => ?_)
                have hX_283 : Q_lesser y_267 y_278 G_272 r_279 G_280 := hpo
                obtain ⟨hB_G_280, hq_281, hp_282, -⟩ := hpo
                have hF := hF.call9 hq_281 rfl rfl
                refine S_iast hx hb hK hW hS kd_99 (vin ((by first | exact ok_1182 ha_p0.1 ty_1 ty_2 ty_3 c_65 ty_265 | omega)) ((by first | exact ok_1159 ha_p0.2 ha_p1.2 ty_1 ty_2 ty_3 ty_265 | omega))) dX12_layNeed_160 (fun G_284 H locs eG_284 hW hS => ?_)
                have hB_G_284 : Bd G_284 := hB_G_280.put (V := r_279.toInt) (lo := 0) (hi := 100000) eG_284 rfl rfl rfl ((by first | exact ok_1176 ty_267.1 f_276.1 ty_278 hp_282.2.2 | omega)) ((by first | exact ok_1169 ty_267.2 hp_282.1 | omega)) (hB_G_280.2.put eG_284 rfl)
                have hF := hF.put eG_284 (Or.inl (by decide))
                refine lv_aload_n hx hb dX12_layNeed_161 rfl (lv_at hl 3 rfl) ?_
                refine S_getR (n := 99) (C := RX12) (T := TX12) (N := 89) hx hb hg iX12 hown hK hW kd_66 rfl 64 (lt_b rfl) (hg (Cond.fieldLink RX12 118 "SlabWalkModel" "need" "[I") m1378) (fun _ h9 => h9) rfl dX12_layNeed_162 ?_
                refine lv_iload_n hx hb dX12_layNeed_165 rfl (lv_at hl 2 rfl) ?_
                refine ic_2 hx hb dX12_layNeed_166 ?_
                refine lv_iadd hx hb dX12_layNeed_167 ?_
                refine lv_topi (fun y_285 ey_285 => ?_)
                have ty_285 : y_285.toInt = y_3.toInt + 2 := xI_add rfl rfl ey_285 ((by first | exact ok_1183 ha_p0.1 ty_1 ty_2 ty_3 c_65 | omega)) ((by first | exact ok_1161 ha_p0.2 ha_p1.2 ty_1 ty_2 ty_3 | omega))
                refine lv_aload_n hx hb dX12_layNeed_168 rfl (lv_at hl 3 rfl) ?_
                refine S_getR (n := 99) (C := RX12) (T := TX12) (N := 89) hx hb hg iX12 hown hK hW kd_66 rfl 64 (lt_b rfl) (hg (Cond.fieldLink RX12 118 "SlabWalkModel" "need" "[I") m1378) (fun _ h9 => h9) rfl dX12_layNeed_169 ?_
                refine lv_iload_n hx hb dX12_layNeed_172 rfl (lv_at hl 2 rfl) ?_
                refine ic_2 hx hb dX12_layNeed_173 ?_
                refine lv_iadd hx hb dX12_layNeed_174 ?_
                refine lv_topi (fun y_286 ey_286 => ?_)
                have ty_286 : y_286.toInt = y_3.toInt + 2 := xI_add rfl rfl ey_286 ((by first | exact ok_1183 ha_p0.1 ty_1 ty_2 ty_3 c_65 | omega)) ((by first | exact ok_1161 ha_p0.2 ha_p1.2 ty_1 ty_2 ty_3 | omega))
                refine S_iald hx hb hK hW kd_99 (vin ((by first | exact ok_1184 ha_p0.1 ty_1 ty_2 ty_3 c_65 ty_286 | omega)) ((by first | exact ok_1163 ha_p0.2 ha_p1.2 ty_1 ty_2 ty_3 ty_286 | omega))) dX12_layNeed_175 (fun y_287 ey_287 => ?_)
                have ty_287 : 0 ≤ y_287.toInt ∧ y_287.toInt ≤ 100000 := bv_99 hB_G_284 ey_287
                have u_288 : y_287.toInt = (G_284.1 99 y_286.toNatClampNeg).toInt := congrArg Int32.toInt (ey_287)
                have hn2_ : y_287.toInt = ndv (G_284.1 99) p0.toInt p1.toInt 2 := (ndv_at (f := G_284.1 99) (x := y_286) ((by first | exact ok_1165 ty_1 ty_2 ty_3 ty_286 | omega)) (congrArg Int32.toInt ey_287)).trans (ndv_eq (show G_284.1 99 = G_284.1 99 from (funext fun j => ((fun (j : Nat) (_ : True) => rfl)) j trivial)) rfl rfl)
                refine ic_1 hx hb dX12_layNeed_176 ?_
                refine lv_aload_n hx hb dX12_layNeed_177 rfl (lv_at hl 3 rfl) ?_
                refine lv_iload_n hx hb dX12_layNeed_178 rfl (lv_at hl 4 rfl) ?_
                refine lv_iload hx hb dX12_layNeed_179 (lv_at hl 1 rfl) ?_
                refine lv_iadd hx hb dX12_layNeed_181 ?_
                refine lv_topi (fun y_289 ey_289 => ?_)
                have ty_289 : y_289.toInt = p0.toInt + x_57.toInt := xI_add rfl rfl ey_289 ((by first | exact ok_252 ha_p0.1 f_59.1 | omega)) ((by first | exact ok_1171 ha_p0.2 f_59.2 | omega))
                refine lv_iload hx hb dX12_layNeed_182 (lv_at hl 0 rfl) ?_
                refine ic_1 hx hb dX12_layNeed_184 ?_
                have qc_290 : (1 : Int32).toInt = 1 := rfl
                refine S_calli (va_runV (As := [.int y_289, .int r_259, .int 1]) (rest := [.int 1, .int y_287, .int y_285, .ref (a 99)]) ⟨hx, hb, hml, hown, hts⟩ (n_needOf l D k A a z G_284 y_289 r_259 1 ⟨(by first | exact ok_254 ha_p0.1 f_59.1 ty_289 | omega), (by first | exact ok_1187 b_27.2 g_28 b_29.1 g_30 g_32 d_3 c_188 c_208 ty_289 | omega)⟩ ⟨(by first | exact f_264.1 | omega), (by first | exact f_264.2 | omega)⟩ ⟨by decide, by decide⟩) (cwV 3 hts (gd_V hgd m1859 m1861 m96 m131 m1862) rfl rfl rfl hd_X12_needOf ⟨Nat.le_of_ble_eq_true rfl, Nat.le_of_ble_eq_true rfl⟩) (pre_W hW hB_G_284 hK hZ hS kd_66 rfl) rfl rfl hl.1 rfl (lv_room (Nat.le_of_ble_eq_true rfl)) dX12_layNeed_185 ⟨Nat.le_of_ble_eq_true rfl, Nat.le_of_ble_eq_true rfl⟩) hS (fun r_291 G_292 H locs hpo hW hS => ?_)
                have hX_295 : Q_needOf y_289 r_259 1 G_284 r_291 G_292 := hpo
                obtain ⟨hB_G_292, hq_293, f_296, hp_294, -⟩ := hpo
                have hF := hF.call9 hq_293 rfl rfl
                have u_297 := trI_v x_57.toInt (G.1 66 62).toInt
                have d_18 := u_297.1 c_208
                have d_19 := u_297.2 c_188
                have hm1_ : r_291.toInt = ndv (G_284.1 99) (p0.toInt + x_57.toInt) (trI x_57.toInt (G.1 66 62).toInt) 1 := hp_294.trans (ndv_eq (show G_284.1 99 = G_284.1 99 from (funext fun j => ((fun (j : Nat) (_ : True) => rfl)) j trivial)) ((by first | exact ty_289 | omega)) ((by first | exact ok_1188 f_264.1 f_264.2 d_16 d_17 | omega)))
                refine lv_iadd hx hb dX12_layNeed_188 ?_
                refine lv_topi (fun y_298 ey_298 => ?_)
                have ty_298 : y_298.toInt = 1 + r_291.toInt := xI_add rfl rfl ey_298 ((by first | exact ok_1174 f_296.1 | omega)) ((by first | exact ok_1175 f_296.2 | omega))
                refine S_calli (va_runS (As := [.int y_287, .int y_298]) (rest := [.int y_285, .ref (a 99)]) ⟨hx, hb, hml, hown, hts⟩ (n_lesser l D k A a z G_292 y_287 y_298 ) (va_cwS 2 hts (gd_S hgd m1863 m1864 m131 m1865) rfl rfl rfl hd_X12_lesser.2 ⟨Nat.le_of_ble_eq_true rfl, Nat.le_of_ble_eq_true rfl⟩) (pre_S hW hB_G_292 hK hZ hS) rfl rfl hl.1 rfl (lv_room (Nat.le_of_ble_eq_true rfl)) dX12_layNeed_189 ⟨Nat.le_of_ble_eq_true rfl, Nat.le_of_ble_eq_true rfl⟩) hS (fun r_299 G_300 H locs hpo hW hS => ?_)
                have hX_303 : Q_lesser y_287 y_298 G_292 r_299 G_300 := hpo
                obtain ⟨hB_G_300, hq_301, hp_302, -⟩ := hpo
                have hF := hF.call9 hq_301 rfl rfl
                refine S_iast hx hb hK hW hS kd_99 (vin ((by first | exact ok_1184 ha_p0.1 ty_1 ty_2 ty_3 c_65 ty_285 | omega)) ((by first | exact ok_1163 ha_p0.2 ha_p1.2 ty_1 ty_2 ty_3 ty_285 | omega))) dX12_layNeed_192 (fun G_304 H locs eG_304 hW hS => ?_)
                have hB_G_304 : Bd G_304 := hB_G_300.put (V := r_299.toInt) (lo := 0) (hi := 100000) eG_304 rfl rfl rfl ((by first | exact ok_1176 ty_287.1 f_296.1 ty_298 hp_302.2.2 | omega)) ((by first | exact ok_1169 ty_287.2 hp_302.1 | omega)) (hB_G_300.2.put eG_304 rfl)
                have hF := hF.put eG_304 (Or.inl (by decide))
                have hpa_ : PR (G_280.1 99) (G.1 98) (G.1 66 61).toInt (G.1 66 62).toInt (G.1 66 63).toInt (p0.toInt) (p1.toInt) := by rw [show G_280.1 99 = G_53.1 99 from (funext fun j => ((fun (j : Nat) (_ : True) => ((hq_281.ri9 99 rfl j).trans ((hq_273.ri9 99 rfl j).trans (hq_261.ri9 99 rfl j))))) j trivial)]; exact (show PR (G_53.1 99) (G.1 98) (G.1 66 61).toInt (G.1 66 62).toInt (G.1 66 63).toInt (p0.toInt) (p1.toInt) by assumption)
                have hpb_ : PR (G_284.1 99) (G.1 98) (G.1 66 61).toInt (G.1 66 62).toInt (G.1 66 63).toInt (p0.toInt) (p1.toInt) := PR_put (i := 1) eG_284 ((by first | exact ok_1164 ty_1 ty_2 ty_3 ty_265 | omega)) ((by first | exact ha_p0.1 | omega)) ((by first | exact ⟨(by first | exact ha_p1.1 | omega), (by first | exact ha_p1.2 | omega)⟩ | omega)) (by first | (clear h400 d_1 hn_64 b_204 g_205 u_277 u_297; omega) | omega) hle1 hpa_
                have hpc_ : PR (G_300.1 99) (G.1 98) (G.1 66 61).toInt (G.1 66 62).toInt (G.1 66 63).toInt (p0.toInt) (p1.toInt) := by rw [show G_300.1 99 = G_284.1 99 from (funext fun j => ((fun (j : Nat) (_ : True) => ((hq_301.ri9 99 rfl j).trans (hq_293.ri9 99 rfl j)))) j trivial)]; exact hpb_
                have hpN_ : PR (G_304.1 99) (G.1 98) (G.1 66 61).toInt (G.1 66 62).toInt (G.1 66 63).toInt (p0.toInt) (p1.toInt) := PR_put (i := 2) eG_304 ((by first | exact ok_1165 ty_1 ty_2 ty_3 ty_285 | omega)) ((by first | exact ha_p0.1 | omega)) ((by first | exact ⟨(by first | exact ha_p1.1 | omega), (by first | exact ha_p1.2 | omega)⟩ | omega)) (by first | (clear h400 d_1 hn_64 b_204 g_205 u_277 u_297; omega) | omega) hle1 hpc_
                have hja_ : NJ (G_280.1 99) (G.1 98) (G.1 66 61).toInt (G.1 66 62).toInt p0.toInt p1.toInt (x_57.toInt) := by rw [show G_280.1 99 = G_53.1 99 from (funext fun j => ((fun (j : Nat) (_ : True) => ((hq_281.ri9 99 rfl j).trans ((hq_273.ri9 99 rfl j).trans (hq_261.ri9 99 rfl j))))) j trivial)]; exact (show NJ (G_53.1 99) (G.1 98) (G.1 66 61).toInt (G.1 66 62).toInt p0.toInt p1.toInt (x_57.toInt) by assumption)
                have hnN_ : NJ (G_304.1 99) (G.1 98) (G.1 66 61).toInt (G.1 66 62).toInt p0.toInt p1.toInt (x_57.toInt + 1) := NJ_step_ hja_ eG_284 (by first | (clear h400 d_1 hn_64 b_204 g_205 u_277 u_297; omega) | omega) (show G_300.1 99 = G_284.1 99 from (funext fun j => ((fun (j : Nat) (_ : True) => ((hq_301.ri9 99 rfl j).trans (hq_293.ri9 99 rfl j)))) j trivial)) eG_304 (by first | (clear h400 d_1 hn_64 b_204 g_205 u_277 u_297; omega) | omega) (by first | (clear h400 d_1 hn_64 b_204 g_205 u_277 u_297; omega) | omega) (by first | (clear h400 d_1 hn_64 b_204 g_205 u_277 u_297; omega) | omega) hle1 (by first | (clear h400 d_1 hn_64 b_204 g_205 u_277 u_297; omega) | omega) ((lw_iff (x := y_201) (y := y_202) (by first | (clear h400 d_1 hn_64 b_204 g_205 u_277 u_297; omega) | omega) (by first | (clear h400 d_1 hn_64 b_204 g_205 u_277 u_297; omega) | omega)).mpr (by first | (clear h400 d_1 hn_64 b_204 g_205 u_277 u_297; omega) | omega)) (hn1_.trans (by rw [show G_280.1 99 = G_53.1 99 from (funext fun j => ((fun (j : Nat) (_ : True) => ((hq_281.ri9 99 rfl j).trans ((hq_273.ri9 99 rfl j).trans (hq_261.ri9 99 rfl j))))) j trivial)])) hn2_ (hm2_.trans (by rw [show G_280.1 99 = G_53.1 99 from (funext fun j => ((fun (j : Nat) (_ : True) => ((hq_281.ri9 99 rfl j).trans ((hq_273.ri9 99 rfl j).trans (hq_261.ri9 99 rfl j))))) j trivial)])) hm1_ (by first | (clear h400 d_1 hn_64 b_204 g_205 u_277 u_297; omega) | omega) (by first | (clear h400 d_1 hn_64 b_204 g_205 u_277 u_297; omega) | omega) (by first | (clear h400 d_1 hn_64 b_204 g_205 u_277 u_297; omega) | omega) (by first | (clear h400 d_1 hn_64 b_204 g_205 u_277 u_297; omega) | omega) (by first | (clear h400 d_1 hn_64 b_204 g_205 u_277 u_297; omega) | omega) (by first | (clear h400 d_1 hn_64 b_204 g_205 u_277 u_297; omega) | omega)
                obtain ⟨y_305, ey_305⟩ : ∃ q, q = x_57 + 1 := ⟨_, rfl⟩
                have ty_305 : y_305.toInt = x_57.toInt + 1 := xI_add rfl rfl ey_305 ((by first | exact ok_237 f_59.1 | omega)) ((by first | exact ok_134 f_59.2 | omega))
                refine lv_iinc (v := y_305) (lv' := [(4, .int y_305), (5, .int r_259), (3, .int y_3), (0, .ref (a 66)), (1, .int p0), (2, .int p1)]) hx hb dX12_layNeed_193 hl (k := 1) rfl (by rw [ey_305]; rfl) (lt_b rfl) rfl (fun ls hl => ?_)
                have hj_306 : NJ (G_304.1 99) (G.1 98) (G.1 66 61).toInt (G.1 66 62).toInt p0.toInt p1.toInt (y_305.toInt) := by rw [ty_305]; exact hnN_
                refine lv_goto (tgt := 74) hx hb dX12_layNeed_196 rfl ?_
                exact ih_55 (100 - y_305.toInt : Int).toNat ((by first | (clear h400 d_1 b_204 g_205 u_277 u_297; omega) | omega)) _ _ _ ⟨G_304, y_305, (Int.toNat_of_nonneg ((by first | exact ok_1177 b_31.2 f_59.2 c_188 ty_305 | omega))), ⟨(by first | exact ok_240 f_59.1 ty_305 | omega), (by first | exact ok_1178 b_31.2 f_59.2 c_188 ty_305 | omega)⟩, (by assumption), (by assumption), ((by first | exact ok_1093 f_62 ty_305 | omega)), ((by first | exact ok_1186 hml9.2 f_63 c_188 ty_305 | omega)), (hX_58.st (St_n_layNeed_1_mk ⟨x_57, G_53, y_305, G_304, rfl, rfl, f_59, f_60, f_61, f_62, f_63, hB_G_53, (Or.inl ⟨c_65, ⟨c_188, ⟨y_201, ty_201, ⟨y_202, ey_202, (Or.inr ⟨c_207, (Or.inr ⟨c_208, ⟨r_259, G_260, hX_263, ⟨y_265, ty_265, ⟨y_266, ty_266, ⟨y_267, ey_267, ⟨y_269, ty_269, ⟨r_271, G_272, hX_275, ⟨y_278, ty_278, ⟨r_279, G_280, hX_283, ⟨y_285, ty_285, ⟨y_286, ty_286, ⟨y_287, ey_287.trans (congrFun (rw_ast eG_284) _), ⟨y_289, ty_289, ⟨G_284, hB_G_284, (Fr.put (rs := [99]) (fs := []) Fr.rf eG_284 (Or.inl (by decide))), rw_ast eG_284, ⟨r_291, G_292, hX_295, ⟨y_298, ty_298, ⟨r_299, G_300, hX_303, ⟨y_305, ty_305, ⟨rfl, (Fr.put (rs := [99]) (fs := []) Fr.rf eG_304 (Or.inl (by decide))), rw_ast eG_304⟩⟩⟩⟩⟩⟩⟩⟩⟩⟩⟩⟩⟩⟩⟩⟩⟩⟩⟩)⟩)⟩⟩⟩⟩)⟩)), hW, hB_G_304, hF, (Fr.put (rs := [99]) (fs := []) (Fr.call9 (rs := [99]) (fs := []) (Fr.call9 (rs := [99]) (fs := []) (Fr.put (rs := [99]) (fs := []) (Fr.call9 (rs := [99]) (fs := []) (Fr.call9 (rs := [99]) (fs := []) (Fr.call9 (rs := [99]) (fs := []) (Fr.call9 (rs := [99]) (fs := []) Fr.rf hq_54 rfl rfl) hq_261 rfl rfl) hq_273 rfl rfl) hq_281 rfl rfl) eG_284 (Or.inl (by decide))) hq_293 rfl rfl) hq_301 rfl rfl) eG_304 (Or.inl (by decide))), hS, lv_sub hl [0, 2, 3, 4, 5] rfl⟩
            · have c_207 : y_202.toInt = 0 := xI_eq rfl rfl c_207
              refine lv_goto (tgt := 193) hx hb dX12_layNeed_107 rfl ?_
              have hpN_ : PR (G_53.1 99) (G.1 98) (G.1 66 61).toInt (G.1 66 62).toInt (G.1 66 63).toInt (p0.toInt) (p1.toInt) := by rw [show G_53.1 99 = G_53.1 99 from (funext fun j => ((fun (j : Nat) (_ : True) => rfl)) j trivial)]; exact (show PR (G_53.1 99) (G.1 98) (G.1 66 61).toInt (G.1 66 62).toInt (G.1 66 63).toInt (p0.toInt) (p1.toInt) by assumption)
              have hnN_ : NJ (G_53.1 99) (G.1 98) (G.1 66 61).toInt (G.1 66 62).toInt p0.toInt p1.toInt (x_57.toInt + 1) := by rw [show G_53.1 99 = G_53.1 99 from (funext fun j => ((fun (j : Nat) (_ : True) => rfl)) j trivial)]; exact (NJ_skip (show NJ (G_53.1 99) (G.1 98) (G.1 66 61).toInt (G.1 66 62).toInt p0.toInt p1.toInt (x_57.toInt) by assumption) (fun q => by have q := (lw_iff (x := y_201) (y := y_202) (by first | (clear h400 d_1 hn_64 b_204 g_205; omega) | omega) (by first | (clear h400 d_1 hn_64 b_204 g_205; omega) | omega)).mp q; omega))
              obtain ⟨y_307, ey_307⟩ : ∃ q, q = x_57 + 1 := ⟨_, rfl⟩
              have ty_307 : y_307.toInt = x_57.toInt + 1 := xI_add rfl rfl ey_307 ((by first | exact ok_237 f_59.1 | omega)) ((by first | exact ok_134 f_59.2 | omega))
              refine lv_iinc (v := y_307) (lv' := [(4, .int y_307), (3, .int y_3), (0, .ref (a 66)), (1, .int p0), (2, .int p1)]) hx hb dX12_layNeed_193 hl (k := 0) rfl (by rw [ey_307]; rfl) (lt_b rfl) rfl (fun ls hl => ?_)
              have hj_308 : NJ (G_53.1 99) (G.1 98) (G.1 66 61).toInt (G.1 66 62).toInt p0.toInt p1.toInt (y_307.toInt) := by rw [ty_307]; exact hnN_
              refine lv_goto (tgt := 74) hx hb dX12_layNeed_196 rfl ?_
              exact ih_55 (100 - y_307.toInt : Int).toNat ((by first | (clear h400 d_1 b_204 g_205; omega) | omega)) _ _ _ ⟨G_53, y_307, (Int.toNat_of_nonneg ((by first | exact ok_1177 b_31.2 f_59.2 c_188 ty_307 | omega))), ⟨(by first | exact ok_240 f_59.1 ty_307 | omega), (by first | exact ok_1178 b_31.2 f_59.2 c_188 ty_307 | omega)⟩, (by assumption), (by assumption), ((by first | exact ok_1093 f_62 ty_307 | omega)), ((by first | exact ok_1186 hml9.2 f_63 c_188 ty_307 | omega)), (hX_58.st (St_n_layNeed_1_mk ⟨x_57, G_53, y_307, G_53, rfl, rfl, f_59, f_60, f_61, f_62, f_63, hB_G_53, (Or.inl ⟨c_65, ⟨c_188, ⟨y_201, ty_201, ⟨y_202, ey_202, (Or.inl ⟨c_207, ⟨y_307, ty_307, ⟨rfl, rfl⟩⟩⟩)⟩⟩⟩⟩)⟩)), hW, hB_G_53, hF, (Fr.call9 (rs := [99]) (fs := []) Fr.rf hq_54 rfl rfl), hS, lv_sub hl [0, 1, 2, 3, 4] rfl⟩
  · have c_7 : y_5.toInt ≠ 0 := xI_ne rfl rfl c_7
    refine lv_aload_n hx hb dX12_layNeed_24 rfl (lv_at hl 1 rfl) ?_
    refine lv_iload_n hx hb dX12_layNeed_25 rfl (lv_at hl 2 rfl) ?_
    refine S_calli (va_runV (As := [.int p0]) (rest := [.int y_4, .ref (a 99)]) ⟨hx, hb, hml, hown, hts⟩ (n_isEnd l D k A a z G p0 ⟨(by first | exact ok_774 ha_p0.1 | omega), (by first | exact ok_775 ha_p0.2 | omega)⟩) (cwV 1 hts (gd_V hgd m1854 m1856 m95 m131 m1857) rfl rfl rfl hd_X12_isEnd ⟨Nat.le_of_ble_eq_true rfl, Nat.le_of_ble_eq_true rfl⟩) (pre_W hW hB_G hK hZ hS kd_66 rfl) rfl rfl hl.1 rfl (lv_room (Nat.le_of_ble_eq_true rfl)) dX12_layNeed_26 ⟨Nat.le_of_ble_eq_true rfl, Nat.le_of_ble_eq_true rfl⟩) hS (fun r_309 G_310 H locs hpo hW hS => ?_)
    have hX_313 : Q_isEnd p0 G r_309 G_310 := hpo
    obtain ⟨hB_G_310, hq_311, f_314, ⟨d_20, d_21⟩, -⟩ := hpo
    have hF := hF.call9 hq_311 rfl rfl
    refine lv_if_eq (tgt := 36) hx hb dX12_layNeed_29 rfl (fun c_315 => ?_) (fun c_315 => ?_)
    · have c_315 : r_309.toInt = 0 := xI_eq rfl rfl c_315
      have d_22 := d_20 c_315
      refine lv_ldcw (v := 100000) hx hb hown (hg (Cond.constant RX12 502 100000) m1858) dX12_layNeed_36 ?_
      refine S_iast hx hb hK hW hS kd_99 (vin ((by first | exact ok_1158 ha_p0.1 ha_p1.1 ty_1 ty_2 ty_3 ty_4 | omega)) ((by first | exact ok_1159 ha_p0.2 ha_p1.2 ty_1 ty_2 ty_3 ty_4 | omega))) dX12_layNeed_39 (fun G_316 H locs eG_316 hW hS => ?_)
      have hB_G_316 : Bd G_316 := hB_G_310.put (V := 100000) (lo := 0) (hi := 100000) eG_316 rfl rfl rfl (by decide) (by decide) (hB_G_310.2.put eG_316 rfl)
      have hF := hF.put eG_316 (Or.inl (by decide))
      refine lv_aload_n hx hb dX12_layNeed_40 rfl (lv_at hl 1 rfl) ?_
      refine S_getR (n := 99) (C := RX12) (T := TX12) (N := 89) hx hb hg iX12 hown hK hW kd_66 rfl 64 (lt_b rfl) (hg (Cond.fieldLink RX12 118 "SlabWalkModel" "need" "[I") m1378) (fun _ h9 => h9) rfl dX12_layNeed_41 ?_
      refine lv_iload_n hx hb dX12_layNeed_44 rfl (lv_at hl 0 rfl) ?_
      refine ic_2 hx hb dX12_layNeed_45 ?_
      refine lv_iadd hx hb dX12_layNeed_46 ?_
      refine lv_topi (fun y_317 ey_317 => ?_)
      have ty_317 : y_317.toInt = y_3.toInt + 2 := xI_add rfl rfl ey_317 ((by first | exact ok_1160 ha_p0.1 ha_p1.1 ty_1 ty_2 ty_3 | omega)) ((by first | exact ok_1161 ha_p0.2 ha_p1.2 ty_1 ty_2 ty_3 | omega))
      refine lv_ldcw (v := 100000) hx hb hown (hg (Cond.constant RX12 502 100000) m1858) dX12_layNeed_47 ?_
      refine S_iast hx hb hK hW hS kd_99 (vin ((by first | exact ok_1162 ha_p0.1 ha_p1.1 ty_1 ty_2 ty_3 ty_317 | omega)) ((by first | exact ok_1163 ha_p0.2 ha_p1.2 ty_1 ty_2 ty_3 ty_317 | omega))) dX12_layNeed_50 (fun G_318 H locs eG_318 hW hS => ?_)
      have hB_G_318 : Bd G_318 := hB_G_316.put (V := 100000) (lo := 0) (hi := 100000) eG_318 rfl rfl rfl (by decide) (by decide) (hB_G_316.2.put eG_318 rfl)
      have hF := hF.put eG_318 (Or.inl (by decide))
      have qc_319 : (100000 : Int32).toInt = 100000 := rfl
      have hp0_ : PR (G_310.1 99) (G.1 98) (G.1 66 61).toInt (G.1 66 62).toInt (G.1 66 63).toInt (p0.toInt) (p1.toInt) := by rw [show G_310.1 99 = G.1 99 from (funext fun j => ((fun (j : Nat) (_ : True) => (hq_311.ri9 99 rfl j))) j trivial)]; exact hpr
      have hp1_ : PR (G_316.1 99) (G.1 98) (G.1 66 61).toInt (G.1 66 62).toInt (G.1 66 63).toInt (p0.toInt) (p1.toInt) := PR_put (i := 1) eG_316 ((by first | exact ok_1164 ty_1 ty_2 ty_3 ty_4 | omega)) ((by first | exact ha_p0.1 | omega)) ((by first | exact ⟨(by first | exact ha_p1.1 | omega), (by first | exact ha_p1.2 | omega)⟩ | omega)) (by first | (clear h400 d_20; omega) | omega) hle1 hp0_
      have hp2_ : PR (G_316.1 99) (G.1 98) (G.1 66 61).toInt (G.1 66 62).toInt (G.1 66 63).toInt (p0.toInt) (p1.toInt) := by rw [show G_316.1 99 = G_316.1 99 from (funext fun j => ((fun (j : Nat) (_ : True) => rfl)) j trivial)]; exact hp1_
      have hp3_ : PR (G_318.1 99) (G.1 98) (G.1 66 61).toInt (G.1 66 62).toInt (G.1 66 63).toInt (p0.toInt) (p1.toInt) := PR_put (i := 2) eG_318 ((by first | exact ok_1165 ty_1 ty_2 ty_3 ty_317 | omega)) ((by first | exact ha_p0.1 | omega)) ((by first | exact ⟨(by first | exact ha_p1.1 | omega), (by first | exact ha_p1.2 | omega)⟩ | omega)) (by first | (clear h400 d_20; omega) | omega) hle1 hp2_
      have hz1_ := ndv_put (x := p0.toInt) (l := p1.toInt) (i := 1) eG_316 (by first | (clear hle1 h400 d_20; omega) | omega) (by first | (clear hle1 h400 d_20; omega) | omega) (by first | (clear hle1 h400 d_20; omega) | omega) (by first | (clear hle1 h400 d_20; omega) | omega)
      have hz2_ := ndv_put (x := p0.toInt) (l := p1.toInt) (i := 2) eG_318 (by first | (clear hle1 h400 d_20; omega) | omega) (by first | (clear hle1 h400 d_20; omega) | omega) (by first | (clear hle1 h400 d_20; omega) | omega) (by first | (clear hle1 h400 d_20; omega) | omega)
      have hy1_ := hz2_.2 p0.toInt p1.toInt 1 (by first | (clear hle1 h400 d_20; omega) | omega) (by first | (clear hle1 h400 d_20; omega) | omega) (by first | (clear hle1 h400 d_20; omega) | omega) (by first | (clear hle1 h400 d_20; omega) | omega)
      rw [show G_316.1 99 = G_316.1 99 from (funext fun j => ((fun (j : Nat) (_ : True) => rfl)) j trivial), hz1_.1] at hy1_
      have hy2_ := hz2_.1
      refine lv_aload_n hx hb dX12_layNeed_51 rfl (lv_at hl 1 rfl) ?_
      refine S_getR (n := 98) (C := RX12) (T := TX12) (N := 89) hx hb hg iX12 hown hK hW kd_66 rfl 58 (lt_b rfl) (hg (Cond.fieldLink RX12 115 "SlabWalkModel" "lawful" "[Z") m1372) (fun _ h9 => h9) rfl dX12_layNeed_52 ?_
      refine lv_iload_n hx hb dX12_layNeed_55 rfl (lv_at hl 2 rfl) ?_
      refine S_zald hx hb hK hW kd_98 (vin ((by first | exact ha_p0.1 | omega)) ((by first | exact ok_773 ha_p0.2 | omega))) dX12_layNeed_56 (fun y_320 ey_320 => ?_)
      have ty_320 := hB_G_318.law ey_320
      have u_321 : y_320.toInt = y_5.toInt := congrArg Int32.toInt (ey_320.trans (((gp_ne eG_318 (fun q => absurd q.1 (Nat.ne_of_beq_eq_false rfl))).trans ((gp_ne eG_316 (fun q => absurd q.1 (Nat.ne_of_beq_eq_false rfl))).trans ((hq_311.ri9 98 rfl p0.toNatClampNeg).trans (ey_5.symm))))))
      refine lv_if_eq (tgt := 199) hx hb dX12_layNeed_57 rfl (fun c_322 => ?_) (fun c_322 => ?_)
      · have c_322 : y_320.toInt = 0 := xI_eq rfl rfl c_322
        have hpF_ : PR (G_318.1 99) (G.1 98) (G.1 66 61).toInt (G.1 66 62).toInt (G.1 66 63).toInt (p0.toInt) (p1.toInt) := by rw [show G_318.1 99 = G_318.1 99 from (funext fun j => ((fun (j : Nat) (_ : True) => rfl)) j trivial)]; exact hp3_
        have hy1F_ : ndv (G_318.1 99) p0.toInt p1.toInt 1 = 100000 := by rw [show G_318.1 99 = G_318.1 99 from (funext fun j => ((fun (j : Nat) (_ : True) => rfl)) j trivial)]; exact (hy1_.trans (by decide))
        have hy2F_ : ndv (G_318.1 99) p0.toInt p1.toInt 2 = 100000 := by rw [show G_318.1 99 = G_318.1 99 from (funext fun j => ((fun (j : Nat) (_ : True) => rfl)) j trivial)]; exact (hy2_.trans (by decide))
        refine lv_aload_n hx hb dX12_layNeed_199 rfl (lv_at hl 1 rfl) ?_
        refine S_getR (n := 99) (C := RX12) (T := TX12) (N := 89) hx hb hg iX12 hown hK hW kd_66 rfl 64 (lt_b rfl) (hg (Cond.fieldLink RX12 118 "SlabWalkModel" "need" "[I") m1378) (fun _ h9 => h9) rfl dX12_layNeed_200 ?_
        refine lv_iload_n hx hb dX12_layNeed_203 rfl (lv_at hl 0 rfl) ?_
        refine lv_aload_n hx hb dX12_layNeed_204 rfl (lv_at hl 1 rfl) ?_
        refine S_getR (n := 99) (C := RX12) (T := TX12) (N := 89) hx hb hg iX12 hown hK hW kd_66 rfl 64 (lt_b rfl) (hg (Cond.fieldLink RX12 118 "SlabWalkModel" "need" "[I") m1378) (fun _ h9 => h9) rfl dX12_layNeed_205 ?_
        refine lv_iload_n hx hb dX12_layNeed_208 rfl (lv_at hl 0 rfl) ?_
        refine ic_1 hx hb dX12_layNeed_209 ?_
        refine lv_iadd hx hb dX12_layNeed_210 ?_
        refine lv_topi (fun y_323 ey_323 => ?_)
        have ty_323 : y_323.toInt = y_3.toInt + 1 := xI_add rfl rfl ey_323 ((by first | exact ok_1156 ha_p0.1 ha_p1.1 ty_1 ty_2 ty_3 | omega)) ((by first | exact ok_1157 ha_p0.2 ha_p1.2 ty_1 ty_2 ty_3 | omega))
        refine S_iald hx hb hK hW kd_99 (vin ((by first | exact ok_1158 ha_p0.1 ha_p1.1 ty_1 ty_2 ty_3 ty_323 | omega)) ((by first | exact ok_1159 ha_p0.2 ha_p1.2 ty_1 ty_2 ty_3 ty_323 | omega))) dX12_layNeed_211 (fun y_324 ey_324 => ?_)
        have ty_324 : 0 ≤ y_324.toInt ∧ y_324.toInt ≤ 100000 := bv_99 hB_G_318 ey_324
        have u_325 : y_324.toInt = (G_318.1 99 y_323.toNatClampNeg).toInt := congrArg Int32.toInt (ey_324)
        have hn1_ : y_324.toInt = ndv (G_318.1 99) p0.toInt p1.toInt 1 := (ndv_at (f := G_318.1 99) (x := y_323) ((by first | exact ok_1164 ty_1 ty_2 ty_3 ty_323 | omega)) (congrArg Int32.toInt ey_324)).trans (ndv_eq (show G_318.1 99 = G_318.1 99 from (funext fun j => ((fun (j : Nat) (_ : True) => rfl)) j trivial)) rfl rfl)
        refine lv_aload_n hx hb dX12_layNeed_212 rfl (lv_at hl 1 rfl) ?_
        refine S_getR (n := 99) (C := RX12) (T := TX12) (N := 89) hx hb hg iX12 hown hK hW kd_66 rfl 64 (lt_b rfl) (hg (Cond.fieldLink RX12 118 "SlabWalkModel" "need" "[I") m1378) (fun _ h9 => h9) rfl dX12_layNeed_213 ?_
        refine lv_iload_n hx hb dX12_layNeed_216 rfl (lv_at hl 0 rfl) ?_
        refine ic_2 hx hb dX12_layNeed_217 ?_
        refine lv_iadd hx hb dX12_layNeed_218 ?_
        refine lv_topi (fun y_326 ey_326 => ?_)
        have ty_326 : y_326.toInt = y_3.toInt + 2 := xI_add rfl rfl ey_326 ((by first | exact ok_1160 ha_p0.1 ha_p1.1 ty_1 ty_2 ty_3 | omega)) ((by first | exact ok_1161 ha_p0.2 ha_p1.2 ty_1 ty_2 ty_3 | omega))
        refine S_iald hx hb hK hW kd_99 (vin ((by first | exact ok_1162 ha_p0.1 ha_p1.1 ty_1 ty_2 ty_3 ty_326 | omega)) ((by first | exact ok_1163 ha_p0.2 ha_p1.2 ty_1 ty_2 ty_3 ty_326 | omega))) dX12_layNeed_219 (fun y_327 ey_327 => ?_)
        have ty_327 : 0 ≤ y_327.toInt ∧ y_327.toInt ≤ 100000 := bv_99 hB_G_318 ey_327
        have u_328 : y_327.toInt = (G_318.1 99 y_326.toNatClampNeg).toInt := congrArg Int32.toInt (ey_327)
        have hn2_ : y_327.toInt = ndv (G_318.1 99) p0.toInt p1.toInt 2 := (ndv_at (f := G_318.1 99) (x := y_326) ((by first | exact ok_1165 ty_1 ty_2 ty_3 ty_326 | omega)) (congrArg Int32.toInt ey_327)).trans (ndv_eq (show G_318.1 99 = G_318.1 99 from (funext fun j => ((fun (j : Nat) (_ : True) => rfl)) j trivial)) rfl rfl)
        refine S_calli (va_runS (As := [.int y_324, .int y_327]) (rest := [.int y_3, .ref (a 99)]) ⟨hx, hb, hml, hown, hts⟩ (n_lesser l D k A a z G_318 y_324 y_327 ) (va_cwS 2 hts (gd_S hgd m1863 m1864 m131 m1865) rfl rfl rfl hd_X12_lesser.2 ⟨Nat.le_of_ble_eq_true rfl, Nat.le_of_ble_eq_true rfl⟩) (pre_S hW hB_G_318 hK hZ hS) rfl rfl hl.1 rfl (lv_room (Nat.le_of_ble_eq_true rfl)) dX12_layNeed_220 ⟨Nat.le_of_ble_eq_true rfl, Nat.le_of_ble_eq_true rfl⟩) hS (fun r_329 G_330 H locs hpo hW hS => ?_)
        have hX_333 : Q_lesser y_324 y_327 G_318 r_329 G_330 := hpo
        obtain ⟨hB_G_330, hq_331, hp_332, -⟩ := hpo
        have hF := hF.call9 hq_331 rfl rfl
        refine S_iast hx hb hK hW hS kd_99 (vin ((by first | exact ok_1166 ha_p0.1 ha_p1.1 ty_1 ty_2 ty_3 | omega)) ((by first | exact ok_1167 ha_p0.2 ha_p1.2 ty_1 ty_2 ty_3 | omega))) dX12_layNeed_223 (fun G_334 H locs eG_334 hW hS => ?_)
        have hB_G_334 : Bd G_334 := hB_G_330.put (V := r_329.toInt) (lo := 0) (hi := 100000) eG_334 rfl rfl rfl ((by first | exact ok_1168 ty_324.1 ty_327.1 hp_332.2.2 | omega)) ((by first | exact ok_1169 ty_327.2 hp_332.2.1 | omega)) (hB_G_330.2.put eG_334 rfl)
        have hF := hF.put eG_334 (Or.inl (by decide))
        have hpL_ : PR (G_330.1 99) (G.1 98) (G.1 66 61).toInt (G.1 66 62).toInt (G.1 66 63).toInt (p0.toInt) (p1.toInt) := by rw [show G_330.1 99 = G_318.1 99 from (funext fun j => ((fun (j : Nat) (_ : True) => (hq_331.ri9 99 rfl j))) j trivial)]; exact hpF_
        have hfL_ : ((ndv (G_330.1 99) p0.toInt p1.toInt 1 = 1 ∨ ndv (G_330.1 99) p0.toInt p1.toInt 1 = 100000) ∧ ndv (G_330.1 99) p0.toInt p1.toInt 2 = 100000) ∨ ∃ u, NJ (G_330.1 99) (G.1 98) (G.1 66 61).toInt (G.1 66 62).toInt p0.toInt p1.toInt u ∧ u ≤ (G.1 66 63).toInt + 1 := by rw [show G_330.1 99 = G_318.1 99 from (funext fun j => ((fun (j : Nat) (_ : True) => (hq_331.ri9 99 rfl j))) j trivial)]; exact Or.inl ⟨Or.inr hy1F_, hy2F_⟩
        have hr1_ := hn1_.trans (show ndv (G_318.1 99) p0.toInt p1.toInt 1 = ndv (G_330.1 99) p0.toInt p1.toInt 1 by rw [show G_330.1 99 = G_318.1 99 from (funext fun j => ((fun (j : Nat) (_ : True) => (hq_331.ri9 99 rfl j))) j trivial)])
        have hr2_ := hn2_.trans (show ndv (G_318.1 99) p0.toInt p1.toInt 2 = ndv (G_330.1 99) p0.toInt p1.toInt 2 by rw [show G_330.1 99 = G_318.1 99 from (funext fun j => ((fun (j : Nat) (_ : True) => (hq_331.ri9 99 rfl j))) j trivial)])
        have hEnd_ : PR (G_334.1 99) (G.1 98) (G.1 66 61).toInt (G.1 66 62).toInt (G.1 66 63).toInt (p0.toInt) (p1.toInt + 1) := PR_next eG_334 (by first | (clear h400 d_20; omega) | omega) (by first | (clear h400 d_20; omega) | omega) (by first | (clear h400 d_20; omega) | omega) hle1 hpL_ (lw400 hB_G h400) (by first | (clear h400 d_20; omega) | omega) (by first | (clear h400 d_20; omega) | omega) (by first | (clear h400 d_20; omega) | omega) hfL_
        have hPG_ : PRG G_334 p0.toInt (p1.toInt + 1) := PRG_of hF (by decide) (by decide) hEnd_
        exact W.vret hx hb hr (fun t ht _ => ⟨⟨G_334, rfl, (Q_layNeed_mk ⟨hB_G_334, hF, (hPG_), ⟨y_1, ty_1, ⟨y_2, ty_2, ⟨y_3, ty_3, ⟨y_4, ty_4, ⟨y_5, ey_5, (Or.inr ⟨c_7, ⟨r_309, G_310, hX_313, (Or.inl ⟨c_315, ⟨y_317, ty_317, ⟨y_320, ey_320.trans (congrFun ((rw_put eG_318 (by decide)).trans (rw_put eG_316 (by decide))) _), (Or.inl ⟨c_322, ⟨y_323, ty_323, ⟨y_324, ey_324.trans (congrFun ((rw_ast eG_318).trans (congrArg (fun q => upd q (y_317.toNatClampNeg) 100000) (rw_ast eG_316))) _), ⟨y_326, ty_326, ⟨y_327, ey_327.trans (congrFun ((rw_ast eG_318).trans (congrArg (fun q => upd q (y_317.toNatClampNeg) 100000) (rw_ast eG_316))) _), ⟨G_318, hB_G_318, (Fr.put (rs := [99]) (fs := []) (Fr.put (rs := [99]) (fs := []) Fr.rf eG_316 (Or.inl (by decide))) eG_318 (Or.inl (by decide))), (rw_ast eG_318).trans (congrArg (fun q => upd q (y_317.toNatClampNeg) 100000) (rw_ast eG_316)), ⟨r_329, G_330, hX_333, ⟨(Fr.put (rs := [99]) (fs := []) Fr.rf eG_334 (Or.inl (by decide))), rw_ast eG_334⟩⟩⟩⟩⟩⟩⟩⟩)⟩⟩⟩)⟩⟩)⟩⟩⟩⟩⟩⟩), wd_t ht hW⟩, hS.F ht⟩) hS.2.2 dX12_layNeed_224
      · have c_322 : y_320.toInt ≠ 0 := xI_ne rfl rfl c_322
        refine lv_aload_n hx hb dX12_layNeed_60 rfl (lv_at hl 1 rfl) ?_
        refine lv_iload_n hx hb dX12_layNeed_61 rfl (lv_at hl 2 rfl) ?_
        have b_335 : 0 ≤ (G.1 66 59).toInt ∧ (G.1 66 59).toInt ≤ 400 := bd_66_59 hB_G
        have g_336 : (G_318.1 66 59).toInt = (G.1 66 59).toInt := (congrArg Int32.toInt (show G_318.1 66 59 = (G.1 66 59) from ((gp_ne eG_318 (fun q => absurd q.1 (Nat.ne_of_beq_eq_false rfl))).trans ((gp_ne eG_316 (fun q => absurd q.1 (Nat.ne_of_beq_eq_false rfl))).trans (hq_311.i9 66 59 rfl rfl)))))
        have b_337 : 0 ≤ (G.1 66 60).toInt ∧ (G.1 66 60).toInt ≤ 12 := bd_66_60 hB_G
        have g_338 : (G_318.1 66 60).toInt = (G.1 66 60).toInt := (congrArg Int32.toInt (show G_318.1 66 60 = (G.1 66 60) from ((gp_ne eG_318 (fun q => absurd q.1 (Nat.ne_of_beq_eq_false rfl))).trans ((gp_ne eG_316 (fun q => absurd q.1 (Nat.ne_of_beq_eq_false rfl))).trans (hq_311.i9 66 60 rfl rfl)))))
        have b_339 : 0 ≤ (G.1 66 62).toInt ∧ (G.1 66 62).toInt ≤ 60 := bd_66_62 hB_G
        have g_340 : (G_318.1 66 62).toInt = (G.1 66 62).toInt := (congrArg Int32.toInt (show G_318.1 66 62 = (G.1 66 62) from ((gp_ne eG_318 (fun q => absurd q.1 (Nat.ne_of_beq_eq_false rfl))).trans ((gp_ne eG_316 (fun q => absurd q.1 (Nat.ne_of_beq_eq_false rfl))).trans (hq_311.i9 66 62 rfl rfl)))))
        refine S_calli (va_runV (As := [.int p0]) (rest := []) ⟨hx, hb, hml, hown, hts⟩ (n_isEnd l D k A a z G_318 p0 ⟨(by first | exact ok_774 ha_p0.1 | omega), (by first | exact ok_775 ha_p0.2 | omega)⟩) (cwV 1 hts (gd_V hgd m1854 m1856 m95 m131 m1857) rfl rfl rfl hd_X12_isEnd ⟨Nat.le_of_ble_eq_true rfl, Nat.le_of_ble_eq_true rfl⟩) (pre_W hW hB_G_318 hK hZ hS kd_66 rfl) rfl rfl hl.1 rfl (lv_room (Nat.le_of_ble_eq_true rfl)) dX12_layNeed_62 ⟨Nat.le_of_ble_eq_true rfl, Nat.le_of_ble_eq_true rfl⟩) hS (fun r_341 G_342 H locs hpo hW hS => ?_)
        have hX_345 : Q_isEnd p0 G_318 r_341 G_342 := hpo
        obtain ⟨hB_G_342, hq_343, f_346, ⟨d_23, d_24⟩, -⟩ := hpo
        have hF := hF.call9 hq_343 rfl rfl
        refine lv_if_ne (tgt := 199) hx hb dX12_layNeed_65 rfl (fun c_347 => ?_) (fun c_347 => ?_)
        · have c_347 : r_341.toInt ≠ 0 := xI_ne rfl rfl c_347
          have hpF_ : PR (G_342.1 99) (G.1 98) (G.1 66 61).toInt (G.1 66 62).toInt (G.1 66 63).toInt (p0.toInt) (p1.toInt) := by rw [show G_342.1 99 = G_318.1 99 from (funext fun j => ((fun (j : Nat) (_ : True) => (hq_343.ri9 99 rfl j))) j trivial)]; exact hp3_
          have hy1F_ : ndv (G_342.1 99) p0.toInt p1.toInt 1 = 100000 := by rw [show G_342.1 99 = G_318.1 99 from (funext fun j => ((fun (j : Nat) (_ : True) => (hq_343.ri9 99 rfl j))) j trivial)]; exact (hy1_.trans (by decide))
          have hy2F_ : ndv (G_342.1 99) p0.toInt p1.toInt 2 = 100000 := by rw [show G_342.1 99 = G_318.1 99 from (funext fun j => ((fun (j : Nat) (_ : True) => (hq_343.ri9 99 rfl j))) j trivial)]; exact (hy2_.trans (by decide))
          refine lv_aload_n hx hb dX12_layNeed_199 rfl (lv_at hl 1 rfl) ?_
          refine S_getR (n := 99) (C := RX12) (T := TX12) (N := 89) hx hb hg iX12 hown hK hW kd_66 rfl 64 (lt_b rfl) (hg (Cond.fieldLink RX12 118 "SlabWalkModel" "need" "[I") m1378) (fun _ h9 => h9) rfl dX12_layNeed_200 ?_
          refine lv_iload_n hx hb dX12_layNeed_203 rfl (lv_at hl 0 rfl) ?_
          refine lv_aload_n hx hb dX12_layNeed_204 rfl (lv_at hl 1 rfl) ?_
          refine S_getR (n := 99) (C := RX12) (T := TX12) (N := 89) hx hb hg iX12 hown hK hW kd_66 rfl 64 (lt_b rfl) (hg (Cond.fieldLink RX12 118 "SlabWalkModel" "need" "[I") m1378) (fun _ h9 => h9) rfl dX12_layNeed_205 ?_
          refine lv_iload_n hx hb dX12_layNeed_208 rfl (lv_at hl 0 rfl) ?_
          refine ic_1 hx hb dX12_layNeed_209 ?_
          refine lv_iadd hx hb dX12_layNeed_210 ?_
          refine lv_topi (fun y_348 ey_348 => ?_)
          have ty_348 : y_348.toInt = y_3.toInt + 1 := xI_add rfl rfl ey_348 ((by first | exact ok_1156 ha_p0.1 ha_p1.1 ty_1 ty_2 ty_3 | omega)) ((by first | exact ok_1157 ha_p0.2 ha_p1.2 ty_1 ty_2 ty_3 | omega))
          refine S_iald hx hb hK hW kd_99 (vin ((by first | exact ok_1158 ha_p0.1 ha_p1.1 ty_1 ty_2 ty_3 ty_348 | omega)) ((by first | exact ok_1159 ha_p0.2 ha_p1.2 ty_1 ty_2 ty_3 ty_348 | omega))) dX12_layNeed_211 (fun y_349 ey_349 => ?_)
          have ty_349 : 0 ≤ y_349.toInt ∧ y_349.toInt ≤ 100000 := bv_99 hB_G_342 ey_349
          have u_350 : y_349.toInt = (G_318.1 99 y_348.toNatClampNeg).toInt := congrArg Int32.toInt (ey_349.trans ((hq_343.ri9 99 rfl y_348.toNatClampNeg)))
          have hn1_ : y_349.toInt = ndv (G_318.1 99) p0.toInt p1.toInt 1 := (ndv_at (f := G_342.1 99) (x := y_348) ((by first | exact ok_1164 ty_1 ty_2 ty_3 ty_348 | omega)) (congrArg Int32.toInt ey_349)).trans (ndv_eq (show G_342.1 99 = G_318.1 99 from (funext fun j => ((fun (j : Nat) (_ : True) => (hq_343.ri9 99 rfl j))) j trivial)) rfl rfl)
          refine lv_aload_n hx hb dX12_layNeed_212 rfl (lv_at hl 1 rfl) ?_
          refine S_getR (n := 99) (C := RX12) (T := TX12) (N := 89) hx hb hg iX12 hown hK hW kd_66 rfl 64 (lt_b rfl) (hg (Cond.fieldLink RX12 118 "SlabWalkModel" "need" "[I") m1378) (fun _ h9 => h9) rfl dX12_layNeed_213 ?_
          refine lv_iload_n hx hb dX12_layNeed_216 rfl (lv_at hl 0 rfl) ?_
          refine ic_2 hx hb dX12_layNeed_217 ?_
          refine lv_iadd hx hb dX12_layNeed_218 ?_
          refine lv_topi (fun y_351 ey_351 => ?_)
          have ty_351 : y_351.toInt = y_3.toInt + 2 := xI_add rfl rfl ey_351 ((by first | exact ok_1160 ha_p0.1 ha_p1.1 ty_1 ty_2 ty_3 | omega)) ((by first | exact ok_1161 ha_p0.2 ha_p1.2 ty_1 ty_2 ty_3 | omega))
          refine S_iald hx hb hK hW kd_99 (vin ((by first | exact ok_1162 ha_p0.1 ha_p1.1 ty_1 ty_2 ty_3 ty_351 | omega)) ((by first | exact ok_1163 ha_p0.2 ha_p1.2 ty_1 ty_2 ty_3 ty_351 | omega))) dX12_layNeed_219 (fun y_352 ey_352 => ?_)
          have ty_352 : 0 ≤ y_352.toInt ∧ y_352.toInt ≤ 100000 := bv_99 hB_G_342 ey_352
          have u_353 : y_352.toInt = (G_318.1 99 y_351.toNatClampNeg).toInt := congrArg Int32.toInt (ey_352.trans ((hq_343.ri9 99 rfl y_351.toNatClampNeg)))
          have hn2_ : y_352.toInt = ndv (G_318.1 99) p0.toInt p1.toInt 2 := (ndv_at (f := G_342.1 99) (x := y_351) ((by first | exact ok_1165 ty_1 ty_2 ty_3 ty_351 | omega)) (congrArg Int32.toInt ey_352)).trans (ndv_eq (show G_342.1 99 = G_318.1 99 from (funext fun j => ((fun (j : Nat) (_ : True) => (hq_343.ri9 99 rfl j))) j trivial)) rfl rfl)
          refine S_calli (va_runS (As := [.int y_349, .int y_352]) (rest := [.int y_3, .ref (a 99)]) ⟨hx, hb, hml, hown, hts⟩ (n_lesser l D k A a z G_342 y_349 y_352 ) (va_cwS 2 hts (gd_S hgd m1863 m1864 m131 m1865) rfl rfl rfl hd_X12_lesser.2 ⟨Nat.le_of_ble_eq_true rfl, Nat.le_of_ble_eq_true rfl⟩) (pre_S hW hB_G_342 hK hZ hS) rfl rfl hl.1 rfl (lv_room (Nat.le_of_ble_eq_true rfl)) dX12_layNeed_220 ⟨Nat.le_of_ble_eq_true rfl, Nat.le_of_ble_eq_true rfl⟩) hS (fun r_354 G_355 H locs hpo hW hS => ?_)
          have hX_358 : Q_lesser y_349 y_352 G_342 r_354 G_355 := hpo
          obtain ⟨hB_G_355, hq_356, hp_357, -⟩ := hpo
          have hF := hF.call9 hq_356 rfl rfl
          refine S_iast hx hb hK hW hS kd_99 (vin ((by first | exact ok_1166 ha_p0.1 ha_p1.1 ty_1 ty_2 ty_3 | omega)) ((by first | exact ok_1167 ha_p0.2 ha_p1.2 ty_1 ty_2 ty_3 | omega))) dX12_layNeed_223 (fun G_359 H locs eG_359 hW hS => ?_)
          have hB_G_359 : Bd G_359 := hB_G_355.put (V := r_354.toInt) (lo := 0) (hi := 100000) eG_359 rfl rfl rfl ((by first | exact ok_1168 ty_349.1 ty_352.1 hp_357.2.2 | omega)) ((by first | exact ok_1169 ty_349.2 hp_357.1 | omega)) (hB_G_355.2.put eG_359 rfl)
          have hF := hF.put eG_359 (Or.inl (by decide))
          have hpL_ : PR (G_355.1 99) (G.1 98) (G.1 66 61).toInt (G.1 66 62).toInt (G.1 66 63).toInt (p0.toInt) (p1.toInt) := by rw [show G_355.1 99 = G_342.1 99 from (funext fun j => ((fun (j : Nat) (_ : True) => (hq_356.ri9 99 rfl j))) j trivial)]; exact hpF_
          have hfL_ : ((ndv (G_355.1 99) p0.toInt p1.toInt 1 = 1 ∨ ndv (G_355.1 99) p0.toInt p1.toInt 1 = 100000) ∧ ndv (G_355.1 99) p0.toInt p1.toInt 2 = 100000) ∨ ∃ u, NJ (G_355.1 99) (G.1 98) (G.1 66 61).toInt (G.1 66 62).toInt p0.toInt p1.toInt u ∧ u ≤ (G.1 66 63).toInt + 1 := by rw [show G_355.1 99 = G_342.1 99 from (funext fun j => ((fun (j : Nat) (_ : True) => (hq_356.ri9 99 rfl j))) j trivial)]; exact Or.inl ⟨Or.inr hy1F_, hy2F_⟩
          have hr1_ := hn1_.trans (show ndv (G_318.1 99) p0.toInt p1.toInt 1 = ndv (G_355.1 99) p0.toInt p1.toInt 1 by rw [show G_355.1 99 = G_318.1 99 from (funext fun j => ((fun (j : Nat) (_ : True) => ((hq_356.ri9 99 rfl j).trans (hq_343.ri9 99 rfl j)))) j trivial)])
          have hr2_ := hn2_.trans (show ndv (G_318.1 99) p0.toInt p1.toInt 2 = ndv (G_355.1 99) p0.toInt p1.toInt 2 by rw [show G_355.1 99 = G_318.1 99 from (funext fun j => ((fun (j : Nat) (_ : True) => ((hq_356.ri9 99 rfl j).trans (hq_343.ri9 99 rfl j)))) j trivial)])
          have hEnd_ : PR (G_359.1 99) (G.1 98) (G.1 66 61).toInt (G.1 66 62).toInt (G.1 66 63).toInt (p0.toInt) (p1.toInt + 1) := PR_next eG_359 (by first | (clear h400 d_20 d_23; omega) | omega) (by first | (clear h400 d_20 d_23; omega) | omega) (by first | (clear h400 d_20 d_23; omega) | omega) hle1 hpL_ (lw400 hB_G h400) (by first | (clear h400 d_20 d_23; omega) | omega) (by first | (clear h400 d_20 d_23; omega) | omega) (by first | (clear h400 d_20 d_23; omega) | omega) hfL_
          have hPG_ : PRG G_359 p0.toInt (p1.toInt + 1) := PRG_of hF (by decide) (by decide) hEnd_
          exact W.vret hx hb hr (fun t ht _ => ⟨⟨G_359, rfl, (Q_layNeed_mk ⟨hB_G_359, hF, (hPG_), ⟨y_1, ty_1, ⟨y_2, ty_2, ⟨y_3, ty_3, ⟨y_4, ty_4, ⟨y_5, ey_5, (Or.inr ⟨c_7, ⟨r_309, G_310, hX_313, (Or.inl ⟨c_315, ⟨y_317, ty_317, ⟨y_320, ey_320.trans (congrFun ((rw_put eG_318 (by decide)).trans (rw_put eG_316 (by decide))) _), (Or.inr ⟨c_322, ⟨G_318, hB_G_318, (Fr.put (rs := [99]) (fs := []) (Fr.put (rs := [99]) (fs := []) Fr.rf eG_316 (Or.inl (by decide))) eG_318 (Or.inl (by decide))), (rw_ast eG_318).trans (congrArg (fun q => upd q (y_317.toNatClampNeg) 100000) (rw_ast eG_316)), ⟨r_341, G_342, hX_345, (Or.inr ⟨c_347, ⟨y_348, ty_348, ⟨y_349, ey_349, ⟨y_351, ty_351, ⟨y_352, ey_352, ⟨r_354, G_355, hX_358, ⟨(Fr.put (rs := [99]) (fs := []) Fr.rf eG_359 (Or.inl (by decide))), rw_ast eG_359⟩⟩⟩⟩⟩⟩⟩)⟩⟩⟩)⟩⟩⟩)⟩⟩)⟩⟩⟩⟩⟩⟩), wd_t ht hW⟩, hS.F ht⟩) hS.2.2 dX12_layNeed_224
        · have c_347 : r_341.toInt = 0 := xI_eq rfl rfl c_347
          have d_25 := d_23 c_347
          refine lv_aload_n hx hb dX12_layNeed_68 rfl (lv_at hl 1 rfl) ?_
          have b_360 : 0 ≤ (G.1 66 61).toInt ∧ (G.1 66 61).toInt ≤ 60 := bd_66_61 hB_G
          refine S_getI (v := (G.1 66 61)) (C := RX12) (T := TX12) (N := 89) hx hb hg iX12 hown hK hW kd_66 rfl 61 (lt_b rfl) (hg (Cond.fieldLink RX12 475 "SlabWalkModel" "least" "I") m1375) (fun _ h9 => h9) rfl ((hq_343.i9 66 61 rfl rfl).trans ((gp_ne eG_318 (fun q => absurd q.1 (Nat.ne_of_beq_eq_false rfl))).trans ((gp_ne eG_316 (fun q => absurd q.1 (Nat.ne_of_beq_eq_false rfl))).trans (hq_311.i9 66 61 rfl rfl)))) dX12_layNeed_69 ?_
          have hpE_ : PR (G_342.1 99) (G.1 98) (G.1 66 61).toInt (G.1 66 62).toInt (G.1 66 63).toInt (p0.toInt) (p1.toInt) := by rw [show G_342.1 99 = G_318.1 99 from (funext fun j => ((fun (j : Nat) (_ : True) => (hq_343.ri9 99 rfl j))) j trivial)]; exact hp3_
          have hq1_ : ndv (G_342.1 99) p0.toInt p1.toInt 1 = 100000 := by rw [show G_342.1 99 = G_318.1 99 from (funext fun j => ((fun (j : Nat) (_ : True) => (hq_343.ri9 99 rfl j))) j trivial)]; exact (hy1_.trans (by decide))
          have hq2_ : ndv (G_342.1 99) p0.toInt p1.toInt 2 = 100000 := by rw [show G_342.1 99 = G_318.1 99 from (funext fun j => ((fun (j : Nat) (_ : True) => (hq_343.ri9 99 rfl j))) j trivial)]; exact (hy2_.trans (by decide))
          have hnj_ : NJ (G_342.1 99) (G.1 98) (G.1 66 61).toInt (G.1 66 62).toInt p0.toInt p1.toInt ((G.1 66 61).toInt) := by rw [show (G.1 66 61).toInt = (G.1 66 61).toInt from by omega]; exact NJ_0 hq1_ hq2_
          refine lv_istore (lv' := [(4, .int (G.1 66 61)), (3, .int y_3), (0, .ref (a 66)), (1, .int p0), (2, .int p1)]) hx hb dX12_layNeed_72 hl (lt_b rfl) rfl (fun ls hl => ?_)
          refine loop_N (Inv := fun n H locs ls => ∃ (G_361 : GS) (x_365 : Int32), (n : Int) = 100 - x_365.toInt ∧ (1 ≤ x_365.toInt ∧ x_365.toInt ≤ 100) ∧ (PR (G_361.1 99) (G.1 98) (G.1 66 61).toInt (G.1 66 62).toInt (G.1 66 63).toInt (p0.toInt) (p1.toInt)) ∧ (NJ (G_361.1 99) (G.1 98) (G.1 66 61).toInt (G.1 66 62).toInt p0.toInt p1.toInt (x_365.toInt)) ∧ ((G.1 66 61).toInt ≤ x_365.toInt) ∧ (x_365.toInt ≤ (G.1 66 63).toInt + 1) ∧ Rc (St_n_layNeed_2 p0 p1 y_3 G) ((G.1 66 61), G_342) (x_365, G_361) ∧ Wd D k A a G_361 H ∧ Bd G_361 ∧ Fr [99] [] G G_361 ∧ Fr [99] [] G_342 G_361 ∧ va_S A s.heap H locs ∧ lv_has ls 6 [(4, .int x_365), (3, .int y_3), (0, .ref (a 66)), (1, .int p0), (2, .int p1)]) (fun n_364 H locs ls ih_363 hI => ?_) (100 - (G.1 66 61).toInt : Int).toNat ⟨G_342, (G.1 66 61), (Int.toNat_of_nonneg ((by first | exact ok_754 b_360.2 | omega))), ⟨(by first | exact hle1 | omega), (by first | exact ok_755 b_360.2 | omega)⟩, (by assumption), (by assumption), ((by first | exact ok_572 | omega)), ((by first | exact ok_1170 hml9.1 hml9.2 | omega)), Rc.rf, hW, hB_G_342, hF, Fr.rf, hS, lv_sub hl [0, 1, 2, 3, 4] rfl⟩
          obtain ⟨G_361, x_365, hn_372, f_367, f_368, f_369, f_370, f_371, hX_366, hW, hB_G_361, hF, hq_362, hS, hl⟩ := hI
          refine lv_iload hx hb dX12_layNeed_74 (lv_at hl 0 rfl) ?_
          refine lv_iload_n hx hb dX12_layNeed_76 rfl (lv_at hl 4 rfl) ?_
          refine ic_1 hx hb dX12_layNeed_77 ?_
          refine lv_icmp_ne (tgt := 88) hx hb dX12_layNeed_78 rfl (fun c_373 => ?_) (fun c_373 => ?_)
          · have c_373 : p1.toInt ≠ 1 := xI_ne rfl rfl c_373
            refine lv_aload_n hx hb dX12_layNeed_88 rfl (lv_at hl 2 rfl) ?_
            have b_374 : 0 ≤ (G.1 66 63).toInt ∧ (G.1 66 63).toInt ≤ 99 := bd_66_63 hB_G
            refine S_getI (v := (G.1 66 63)) (C := RX12) (T := TX12) (N := 89) hx hb hg iX12 hown hK hW kd_66 rfl 63 (lt_b rfl) (hg (Cond.fieldLink RX12 481 "SlabWalkModel" "leap" "I") m1377) (fun _ h9 => h9) rfl ((hq_362.i9 66 63 rfl rfl).trans ((hq_343.i9 66 63 rfl rfl).trans ((gp_ne eG_318 (fun q => absurd q.1 (Nat.ne_of_beq_eq_false rfl))).trans ((gp_ne eG_316 (fun q => absurd q.1 (Nat.ne_of_beq_eq_false rfl))).trans (hq_311.i9 66 63 rfl rfl))))) dX12_layNeed_89 ?_
            refine lv_icmp_gt (tgt := 199) hx hb dX12_layNeed_92 rfl (fun c_375 => ?_) (fun c_375 => ?_)
            · have c_375 : (G.1 66 63).toInt < x_365.toInt := xI_lt rfl rfl c_375
              have hpF_ : PR (G_361.1 99) (G.1 98) (G.1 66 61).toInt (G.1 66 62).toInt (G.1 66 63).toInt (p0.toInt) (p1.toInt) := by rw [show G_361.1 99 = G_361.1 99 from (funext fun j => ((fun (j : Nat) (_ : True) => rfl)) j trivial)]; exact (show PR (G_361.1 99) (G.1 98) (G.1 66 61).toInt (G.1 66 62).toInt (G.1 66 63).toInt (p0.toInt) (p1.toInt) by assumption)
              have hjF_ : NJ (G_361.1 99) (G.1 98) (G.1 66 61).toInt (G.1 66 62).toInt p0.toInt p1.toInt (x_365.toInt) := by rw [show G_361.1 99 = G_361.1 99 from (funext fun j => ((fun (j : Nat) (_ : True) => rfl)) j trivial)]; exact (show NJ (G_361.1 99) (G.1 98) (G.1 66 61).toInt (G.1 66 62).toInt p0.toInt p1.toInt (x_365.toInt) by assumption)
              refine lv_aload_n hx hb dX12_layNeed_199 rfl (lv_at hl 2 rfl) ?_
              refine S_getR (n := 99) (C := RX12) (T := TX12) (N := 89) hx hb hg iX12 hown hK hW kd_66 rfl 64 (lt_b rfl) (hg (Cond.fieldLink RX12 118 "SlabWalkModel" "need" "[I") m1378) (fun _ h9 => h9) rfl dX12_layNeed_200 ?_
              refine lv_iload_n hx hb dX12_layNeed_203 rfl (lv_at hl 1 rfl) ?_
              refine lv_aload_n hx hb dX12_layNeed_204 rfl (lv_at hl 2 rfl) ?_
              refine S_getR (n := 99) (C := RX12) (T := TX12) (N := 89) hx hb hg iX12 hown hK hW kd_66 rfl 64 (lt_b rfl) (hg (Cond.fieldLink RX12 118 "SlabWalkModel" "need" "[I") m1378) (fun _ h9 => h9) rfl dX12_layNeed_205 ?_
              refine lv_iload_n hx hb dX12_layNeed_208 rfl (lv_at hl 1 rfl) ?_
              refine ic_1 hx hb dX12_layNeed_209 ?_
              refine lv_iadd hx hb dX12_layNeed_210 ?_
              refine lv_topi (fun y_376 ey_376 => ?_)
              have ty_376 : y_376.toInt = y_3.toInt + 1 := xI_add rfl rfl ey_376 ((by first | exact ok_1156 ha_p0.1 ha_p1.1 ty_1 ty_2 ty_3 | omega)) ((by first | exact ok_1157 ha_p0.2 ha_p1.2 ty_1 ty_2 ty_3 | omega))
              refine S_iald hx hb hK hW kd_99 (vin ((by first | exact ok_1158 ha_p0.1 ha_p1.1 ty_1 ty_2 ty_3 ty_376 | omega)) ((by first | exact ok_1159 ha_p0.2 ha_p1.2 ty_1 ty_2 ty_3 ty_376 | omega))) dX12_layNeed_211 (fun y_377 ey_377 => ?_)
              have ty_377 : 0 ≤ y_377.toInt ∧ y_377.toInt ≤ 100000 := bv_99 hB_G_361 ey_377
              have u_378 : y_377.toInt = (G_361.1 99 y_376.toNatClampNeg).toInt := congrArg Int32.toInt (ey_377)
              have hn1_ : y_377.toInt = ndv (G_361.1 99) p0.toInt p1.toInt 1 := (ndv_at (f := G_361.1 99) (x := y_376) ((by first | exact ok_1164 ty_1 ty_2 ty_3 ty_376 | omega)) (congrArg Int32.toInt ey_377)).trans (ndv_eq (show G_361.1 99 = G_361.1 99 from (funext fun j => ((fun (j : Nat) (_ : True) => rfl)) j trivial)) rfl rfl)
              refine lv_aload_n hx hb dX12_layNeed_212 rfl (lv_at hl 2 rfl) ?_
              refine S_getR (n := 99) (C := RX12) (T := TX12) (N := 89) hx hb hg iX12 hown hK hW kd_66 rfl 64 (lt_b rfl) (hg (Cond.fieldLink RX12 118 "SlabWalkModel" "need" "[I") m1378) (fun _ h9 => h9) rfl dX12_layNeed_213 ?_
              refine lv_iload_n hx hb dX12_layNeed_216 rfl (lv_at hl 1 rfl) ?_
              refine ic_2 hx hb dX12_layNeed_217 ?_
              refine lv_iadd hx hb dX12_layNeed_218 ?_
              refine lv_topi (fun y_379 ey_379 => ?_)
              have ty_379 : y_379.toInt = y_3.toInt + 2 := xI_add rfl rfl ey_379 ((by first | exact ok_1160 ha_p0.1 ha_p1.1 ty_1 ty_2 ty_3 | omega)) ((by first | exact ok_1161 ha_p0.2 ha_p1.2 ty_1 ty_2 ty_3 | omega))
              refine S_iald hx hb hK hW kd_99 (vin ((by first | exact ok_1162 ha_p0.1 ha_p1.1 ty_1 ty_2 ty_3 ty_379 | omega)) ((by first | exact ok_1163 ha_p0.2 ha_p1.2 ty_1 ty_2 ty_3 ty_379 | omega))) dX12_layNeed_219 (fun y_380 ey_380 => ?_)
              have ty_380 : 0 ≤ y_380.toInt ∧ y_380.toInt ≤ 100000 := bv_99 hB_G_361 ey_380
              have u_381 : y_380.toInt = (G_361.1 99 y_379.toNatClampNeg).toInt := congrArg Int32.toInt (ey_380)
              have hn2_ : y_380.toInt = ndv (G_361.1 99) p0.toInt p1.toInt 2 := (ndv_at (f := G_361.1 99) (x := y_379) ((by first | exact ok_1165 ty_1 ty_2 ty_3 ty_379 | omega)) (congrArg Int32.toInt ey_380)).trans (ndv_eq (show G_361.1 99 = G_361.1 99 from (funext fun j => ((fun (j : Nat) (_ : True) => rfl)) j trivial)) rfl rfl)
              refine S_calli (va_runS (As := [.int y_377, .int y_380]) (rest := [.int y_3, .ref (a 99)]) ⟨hx, hb, hml, hown, hts⟩ (n_lesser l D k A a z G_361 y_377 y_380 ) (va_cwS 2 hts (gd_S hgd m1863 m1864 m131 m1865) rfl rfl rfl hd_X12_lesser.2 ⟨Nat.le_of_ble_eq_true rfl, Nat.le_of_ble_eq_true rfl⟩) (pre_S hW hB_G_361 hK hZ hS) rfl rfl hl.1 rfl (lv_room (Nat.le_of_ble_eq_true rfl)) dX12_layNeed_220 ⟨Nat.le_of_ble_eq_true rfl, Nat.le_of_ble_eq_true rfl⟩) hS (fun r_382 G_383 H locs hpo hW hS => ?_)
              have hX_386 : Q_lesser y_377 y_380 G_361 r_382 G_383 := hpo
              obtain ⟨hB_G_383, hq_384, hp_385, -⟩ := hpo
              have hF := hF.call9 hq_384 rfl rfl
              refine S_iast hx hb hK hW hS kd_99 (vin ((by first | exact ok_1166 ha_p0.1 ha_p1.1 ty_1 ty_2 ty_3 | omega)) ((by first | exact ok_1167 ha_p0.2 ha_p1.2 ty_1 ty_2 ty_3 | omega))) dX12_layNeed_223 (fun G_387 H locs eG_387 hW hS => ?_)
              have hB_G_387 : Bd G_387 := hB_G_383.put (V := r_382.toInt) (lo := 0) (hi := 100000) eG_387 rfl rfl rfl ((by first | exact ok_1168 ty_377.1 ty_380.1 hp_385.2.2 | omega)) ((by first | exact ok_1169 ty_377.2 hp_385.1 | omega)) (hB_G_383.2.put eG_387 rfl)
              have hF := hF.put eG_387 (Or.inl (by decide))
              have hpL_ : PR (G_383.1 99) (G.1 98) (G.1 66 61).toInt (G.1 66 62).toInt (G.1 66 63).toInt (p0.toInt) (p1.toInt) := by rw [show G_383.1 99 = G_361.1 99 from (funext fun j => ((fun (j : Nat) (_ : True) => (hq_384.ri9 99 rfl j))) j trivial)]; exact hpF_
              have hfL_ : ((ndv (G_383.1 99) p0.toInt p1.toInt 1 = 1 ∨ ndv (G_383.1 99) p0.toInt p1.toInt 1 = 100000) ∧ ndv (G_383.1 99) p0.toInt p1.toInt 2 = 100000) ∨ ∃ u, NJ (G_383.1 99) (G.1 98) (G.1 66 61).toInt (G.1 66 62).toInt p0.toInt p1.toInt u ∧ u ≤ (G.1 66 63).toInt + 1 := by rw [show G_383.1 99 = G_361.1 99 from (funext fun j => ((fun (j : Nat) (_ : True) => (hq_384.ri9 99 rfl j))) j trivial)]; exact Or.inr ⟨_, hjF_, by omega⟩
              have hr1_ := hn1_.trans (show ndv (G_361.1 99) p0.toInt p1.toInt 1 = ndv (G_383.1 99) p0.toInt p1.toInt 1 by rw [show G_383.1 99 = G_361.1 99 from (funext fun j => ((fun (j : Nat) (_ : True) => (hq_384.ri9 99 rfl j))) j trivial)])
              have hr2_ := hn2_.trans (show ndv (G_361.1 99) p0.toInt p1.toInt 2 = ndv (G_383.1 99) p0.toInt p1.toInt 2 by rw [show G_383.1 99 = G_361.1 99 from (funext fun j => ((fun (j : Nat) (_ : True) => (hq_384.ri9 99 rfl j))) j trivial)])
              have hEnd_ : PR (G_387.1 99) (G.1 98) (G.1 66 61).toInt (G.1 66 62).toInt (G.1 66 63).toInt (p0.toInt) (p1.toInt + 1) := PR_next eG_387 (by first | (clear h400 d_20 d_23 hn_372; omega) | omega) (by first | (clear h400 d_20 d_23 hn_372; omega) | omega) (by first | (clear h400 d_20 d_23 hn_372; omega) | omega) hle1 hpL_ (lw400 hB_G h400) (by first | (clear h400 d_20 d_23 hn_372; omega) | omega) (by first | (clear h400 d_20 d_23 hn_372; omega) | omega) (by first | (clear h400 d_20 d_23 hn_372; omega) | omega) hfL_
              have hPG_ : PRG G_387 p0.toInt (p1.toInt + 1) := PRG_of hF (by decide) (by decide) hEnd_
              exact W.vret hx hb hr (fun t ht _ => ⟨⟨G_387, rfl, (Q_layNeed_mk ⟨hB_G_387, hF, (hPG_), ⟨y_1, ty_1, ⟨y_2, ty_2, ⟨y_3, ty_3, ⟨y_4, ty_4, ⟨y_5, ey_5, (Or.inr ⟨c_7, ⟨r_309, G_310, hX_313, (Or.inl ⟨c_315, ⟨y_317, ty_317, ⟨y_320, ey_320.trans (congrFun ((rw_put eG_318 (by decide)).trans (rw_put eG_316 (by decide))) _), (Or.inr ⟨c_322, ⟨G_318, hB_G_318, (Fr.put (rs := [99]) (fs := []) (Fr.put (rs := [99]) (fs := []) Fr.rf eG_316 (Or.inl (by decide))) eG_318 (Or.inl (by decide))), (rw_ast eG_318).trans (congrArg (fun q => upd q (y_317.toNatClampNeg) 100000) (rw_ast eG_316)), ⟨r_341, G_342, hX_345, (Or.inl ⟨c_347, ⟨x_365, G_361, hX_366, f_367, f_368, f_369, f_370, f_371, hB_G_361, hq_362, (Or.inr ⟨c_373, ⟨c_375, ⟨y_376, ty_376, ⟨y_377, ey_377, ⟨y_379, ty_379, ⟨y_380, ey_380, ⟨r_382, G_383, hX_386, ⟨(Fr.put (rs := [99]) (fs := []) Fr.rf eG_387 (Or.inl (by decide))), rw_ast eG_387⟩⟩⟩⟩⟩⟩⟩⟩)⟩⟩)⟩⟩⟩)⟩⟩⟩)⟩⟩)⟩⟩⟩⟩⟩⟩), wd_t ht hW⟩, hS.F ht⟩) hS.2.2 dX12_layNeed_224
            · have c_375 : x_365.toInt ≤ (G.1 66 63).toInt := xI_nlt rfl rfl c_375
              refine lv_aload_n hx hb dX12_layNeed_95 rfl (lv_at hl 2 rfl) ?_
              refine S_getR (n := 98) (C := RX12) (T := TX12) (N := 89) hx hb hg iX12 hown hK hW kd_66 rfl 58 (lt_b rfl) (hg (Cond.fieldLink RX12 115 "SlabWalkModel" "lawful" "[Z") m1372) (fun _ h9 => h9) rfl dX12_layNeed_96 ?_
              refine lv_iload_n hx hb dX12_layNeed_99 rfl (lv_at hl 3 rfl) ?_
              refine lv_iload hx hb dX12_layNeed_100 (lv_at hl 0 rfl) ?_
              refine lv_iadd hx hb dX12_layNeed_102 ?_
              refine lv_topi (fun y_388 ey_388 => ?_)
              have ty_388 : y_388.toInt = p0.toInt + x_365.toInt := xI_add rfl rfl ey_388 ((by first | exact ok_252 ha_p0.1 f_367.1 | omega)) ((by first | exact ok_1171 ha_p0.2 f_367.2 | omega))
              refine S_zald hx hb hK hW kd_98 (vin ((by first | exact ok_254 ha_p0.1 f_367.1 ty_388 | omega)) ((by first | exact ok_1172 ha_p0.2 f_367.2 ty_388 | omega))) dX12_layNeed_103 (fun y_389 ey_389 => ?_)
              have ty_389 := hB_G_361.law ey_389
              have u_390 : y_389.toInt = (G.1 98 y_388.toNatClampNeg).toInt := congrArg Int32.toInt (ey_389.trans (((hq_362.ri9 98 rfl y_388.toNatClampNeg).trans ((hq_343.ri9 98 rfl y_388.toNatClampNeg).trans ((gp_ne eG_318 (fun q => absurd q.1 (Nat.ne_of_beq_eq_false rfl))).trans ((gp_ne eG_316 (fun q => absurd q.1 (Nat.ne_of_beq_eq_false rfl))).trans (hq_311.ri9 98 rfl y_388.toNatClampNeg)))))))
              have b_391 : 0 ≤ (G.1 98 400).toInt ∧ (G.1 98 400).toInt ≤ 1 := bd_98_400 hB_G
              have g_392 : (G_361.1 98 400).toInt = (G.1 98 400).toInt := (congrArg Int32.toInt (show G_361.1 98 400 = (G.1 98 400) from ((hq_362.i9 98 400 rfl rfl).trans ((hq_343.i9 98 400 rfl rfl).trans ((gp_ne eG_318 (fun q => absurd q.1 (Nat.ne_of_beq_eq_false rfl))).trans ((gp_ne eG_316 (fun q => absurd q.1 (Nat.ne_of_beq_eq_false rfl))).trans (hq_311.i9 98 400 rfl rfl)))))))
              have u_393 := law4 (G := G_361) (by first | (clear h400 d_20 d_23 hn_372 b_391 g_392; omega) | omega) ey_389
              refine lv_if_ne (tgt := 110) hx hb dX12_layNeed_104 rfl (fun c_394 => ?_) (fun c_394 => ?_)
              · have c_394 : y_389.toInt ≠ 0 := xI_ne rfl rfl c_394
                refine lv_iload hx hb dX12_layNeed_110 (lv_at hl 0 rfl) ?_
                refine lv_aload_n hx hb dX12_layNeed_112 rfl (lv_at hl 2 rfl) ?_
                refine S_getI (v := (G.1 66 62)) (C := RX12) (T := TX12) (N := 89) hx hb hg iX12 hown hK hW kd_66 rfl 62 (lt_b rfl) (hg (Cond.fieldLink RX12 478 "SlabWalkModel" "most" "I") m1376) (fun _ h9 => h9) rfl ((hq_362.i9 66 62 rfl rfl).trans ((hq_343.i9 66 62 rfl rfl).trans ((gp_ne eG_318 (fun q => absurd q.1 (Nat.ne_of_beq_eq_false rfl))).trans ((gp_ne eG_316 (fun q => absurd q.1 (Nat.ne_of_beq_eq_false rfl))).trans ((hq_311.i9 66 62 rfl rfl).trans (rfl)))))) dX12_layNeed_113 ?_
                refine lv_icmp_le (tgt := 123) hx hb dX12_layNeed_116 rfl (fun c_395 => ?_) (fun c_395 => ?_)
                · have c_395 : x_365.toInt ≤ (G.1 66 62).toInt := xI_le rfl rfl c_395
                  refine ic_0 hx hb dX12_layNeed_123 ?_
                  have qc_396 : (0 : Int32).toInt = 0 := rfl
                  refine S_calli (va_runS (As := [.int 0]) (rest := []) ⟨hx, hb, hml, hown, hts⟩ (n_truth l D k A a z G_361 0 ⟨by decide, by decide⟩) (va_cwS 1 hts (gd_S hgd m1788 m1789 m131 m1790) rfl rfl rfl hd_X12_truth.2 ⟨Nat.le_of_ble_eq_true rfl, Nat.le_of_ble_eq_true rfl⟩) (pre_S hW hB_G_361 hK hZ hS) rfl rfl hl.1 rfl (lv_room (Nat.le_of_ble_eq_true rfl)) dX12_layNeed_124 ⟨Nat.le_of_ble_eq_true rfl, Nat.le_of_ble_eq_true rfl⟩) hS (fun r_397 G_398 H locs hpo hW hS => ?_)
                  have hX_401 : Q_truth 0 G_361 r_397 G_398 := hpo
                  obtain ⟨hB_G_398, hq_399, f_402, hp_400, -⟩ := hpo
                  have hF := hF.call9 hq_399 rfl rfl
                  refine lv_istore (lv' := [(5, .int r_397), (4, .int x_365), (3, .int y_3), (0, .ref (a 66)), (1, .int p0), (2, .int p1)]) hx hb dX12_layNeed_127 hl (lt_b rfl) rfl (fun ls hl => ?_)
                  refine lv_aload_n hx hb dX12_layNeed_129 rfl (lv_at hl 3 rfl) ?_
                  refine S_getR (n := 99) (C := RX12) (T := TX12) (N := 89) hx hb hg iX12 hown hK hW kd_66 rfl 64 (lt_b rfl) (hg (Cond.fieldLink RX12 118 "SlabWalkModel" "need" "[I") m1378) (fun _ h9 => h9) rfl dX12_layNeed_130 ?_
                  refine lv_iload_n hx hb dX12_layNeed_133 rfl (lv_at hl 2 rfl) ?_
                  refine ic_1 hx hb dX12_layNeed_134 ?_
                  refine lv_iadd hx hb dX12_layNeed_135 ?_
                  refine lv_topi (fun y_403 ey_403 => ?_)
                  have ty_403 : y_403.toInt = y_3.toInt + 1 := xI_add rfl rfl ey_403 ((by first | exact ok_1156 ha_p0.1 ha_p1.1 ty_1 ty_2 ty_3 | omega)) ((by first | exact ok_1157 ha_p0.2 ha_p1.2 ty_1 ty_2 ty_3 | omega))
                  refine lv_aload_n hx hb dX12_layNeed_136 rfl (lv_at hl 3 rfl) ?_
                  refine S_getR (n := 99) (C := RX12) (T := TX12) (N := 89) hx hb hg iX12 hown hK hW kd_66 rfl 64 (lt_b rfl) (hg (Cond.fieldLink RX12 118 "SlabWalkModel" "need" "[I") m1378) (fun _ h9 => h9) rfl dX12_layNeed_137 ?_
                  refine lv_iload_n hx hb dX12_layNeed_140 rfl (lv_at hl 2 rfl) ?_
                  refine ic_1 hx hb dX12_layNeed_141 ?_
                  refine lv_iadd hx hb dX12_layNeed_142 ?_
                  refine lv_topi (fun y_404 ey_404 => ?_)
                  have ty_404 : y_404.toInt = y_3.toInt + 1 := xI_add rfl rfl ey_404 ((by first | exact ok_1156 ha_p0.1 ha_p1.1 ty_1 ty_2 ty_3 | omega)) ((by first | exact ok_1157 ha_p0.2 ha_p1.2 ty_1 ty_2 ty_3 | omega))
                  refine S_iald hx hb hK hW kd_99 (vin ((by first | exact ok_1158 ha_p0.1 ha_p1.1 ty_1 ty_2 ty_3 ty_404 | omega)) ((by first | exact ok_1159 ha_p0.2 ha_p1.2 ty_1 ty_2 ty_3 ty_404 | omega))) dX12_layNeed_143 (fun y_405 ey_405 => ?_)
                  have ty_405 : 0 ≤ y_405.toInt ∧ y_405.toInt ≤ 100000 := bv_99 hB_G_398 ey_405
                  have u_406 : y_405.toInt = (G_361.1 99 y_404.toNatClampNeg).toInt := congrArg Int32.toInt (ey_405.trans ((hq_399.ri9 99 rfl y_404.toNatClampNeg)))
                  have hn1_ : y_405.toInt = ndv (G_361.1 99) p0.toInt p1.toInt 1 := (ndv_at (f := G_398.1 99) (x := y_404) ((by first | exact ok_1164 ty_1 ty_2 ty_3 ty_404 | omega)) (congrArg Int32.toInt ey_405)).trans (ndv_eq (show G_398.1 99 = G_361.1 99 from (funext fun j => ((fun (j : Nat) (_ : True) => (hq_399.ri9 99 rfl j))) j trivial)) rfl rfl)
                  refine ic_1 hx hb dX12_layNeed_144 ?_
                  refine lv_aload_n hx hb dX12_layNeed_145 rfl (lv_at hl 3 rfl) ?_
                  refine lv_iload_n hx hb dX12_layNeed_146 rfl (lv_at hl 4 rfl) ?_
                  refine lv_iload hx hb dX12_layNeed_147 (lv_at hl 1 rfl) ?_
                  refine lv_iadd hx hb dX12_layNeed_149 ?_
                  refine lv_topi (fun y_407 ey_407 => ?_)
                  have ty_407 : y_407.toInt = p0.toInt + x_365.toInt := xI_add rfl rfl ey_407 ((by first | exact ok_252 ha_p0.1 f_367.1 | omega)) ((by first | exact ok_1171 ha_p0.2 f_367.2 | omega))
                  refine lv_iload hx hb dX12_layNeed_150 (lv_at hl 0 rfl) ?_
                  refine ic_2 hx hb dX12_layNeed_152 ?_
                  have qc_408 : (2 : Int32).toInt = 2 := rfl
                  refine S_calli (va_runV (As := [.int y_407, .int r_397, .int 2]) (rest := [.int 1, .int y_405, .int y_403, .ref (a 99)]) ⟨hx, hb, hml, hown, hts⟩ (n_needOf l D k A a z G_398 y_407 r_397 2 ⟨(by first | exact ok_254 ha_p0.1 f_367.1 ty_407 | omega), (by first | (clear h400 d_20 d_23 hn_372 b_391 g_392 f_402 hp_400; omega) | omega)⟩ ⟨(by first | exact f_402.1 | omega), (by first | exact f_402.2 | omega)⟩ ⟨by decide, by decide⟩) (cwV 3 hts (gd_V hgd m1859 m1861 m96 m131 m1862) rfl rfl rfl hd_X12_needOf ⟨Nat.le_of_ble_eq_true rfl, Nat.le_of_ble_eq_true rfl⟩) (pre_W hW hB_G_398 hK hZ hS kd_66 rfl) rfl rfl hl.1 rfl (lv_room (Nat.le_of_ble_eq_true rfl)) dX12_layNeed_153 ⟨Nat.le_of_ble_eq_true rfl, Nat.le_of_ble_eq_true rfl⟩) hS (fun r_409 G_410 H locs hpo hW hS => ?_)
                  have hX_413 : Q_needOf y_407 r_397 2 G_398 r_409 G_410 := hpo
                  obtain ⟨hB_G_410, hq_411, f_414, hp_412, -⟩ := hpo
                  have hF := hF.call9 hq_411 rfl rfl
                  have u_415 := trI_v x_365.toInt (G.1 66 62).toInt
                  have d_26 := u_415.1
                  have d_27 := u_415.2 c_395
                  have hm2_ : r_409.toInt = ndv (G_361.1 99) (p0.toInt + x_365.toInt) (trI x_365.toInt (G.1 66 62).toInt) 2 := hp_412.trans (ndv_eq (show G_398.1 99 = G_361.1 99 from (funext fun j => ((fun (j : Nat) (_ : True) => (hq_399.ri9 99 rfl j))) j trivial)) ((by first | exact ty_407 | omega)) ((by first | exact ok_1173 qc_396 f_402.1 f_402.2 hp_400 d_27 | omega)))
                  refine lv_iadd hx hb dX12_layNeed_156 ?_
                  refine lv_topi (fun y_416 ey_416 => ?_)
                  have ty_416 : y_416.toInt = 1 + r_409.toInt := xI_add rfl rfl ey_416 ((by first | exact ok_1174 f_414.1 | omega)) ((by first | exact ok_1175 f_414.2 | omega))
                  refine S_calli (va_runS (As := [.int y_405, .int y_416]) (rest := [.int y_403, .ref (a 99)]) ⟨hx, hb, hml, hown, hts⟩ (n_lesser l D k A a z G_410 y_405 y_416 ) (va_cwS 2 hts (gd_S hgd m1863 m1864 m131 m1865) rfl rfl rfl hd_X12_lesser.2 ⟨Nat.le_of_ble_eq_true rfl, Nat.le_of_ble_eq_true rfl⟩) (pre_S hW hB_G_410 hK hZ hS) rfl rfl hl.1 rfl (lv_room (Nat.le_of_ble_eq_true rfl)) dX12_layNeed_157 ⟨Nat.le_of_ble_eq_true rfl, Nat.le_of_ble_eq_true rfl⟩) hS (fun r_417 G_418 H locs hpo hW hS => ?_)
                  have hX_421 : Q_lesser y_405 y_416 G_410 r_417 G_418 := hpo
                  obtain ⟨hB_G_418, hq_419, hp_420, -⟩ := hpo
                  have hF := hF.call9 hq_419 rfl rfl
                  refine S_iast hx hb hK hW hS kd_99 (vin ((by first | exact ok_1158 ha_p0.1 ha_p1.1 ty_1 ty_2 ty_3 ty_403 | omega)) ((by first | exact ok_1159 ha_p0.2 ha_p1.2 ty_1 ty_2 ty_3 ty_403 | omega))) dX12_layNeed_160 (fun G_422 H locs eG_422 hW hS => ?_)
                  have hB_G_422 : Bd G_422 := hB_G_418.put (V := r_417.toInt) (lo := 0) (hi := 100000) eG_422 rfl rfl rfl ((by first | exact ok_1176 ty_405.1 f_414.1 ty_416 hp_420.2.2 | omega)) ((by first | exact ok_1169 ty_405.2 hp_420.1 | omega)) (hB_G_418.2.put eG_422 rfl)
                  have hF := hF.put eG_422 (Or.inl (by decide))
                  refine lv_aload_n hx hb dX12_layNeed_161 rfl (lv_at hl 3 rfl) ?_
                  refine S_getR (n := 99) (C := RX12) (T := TX12) (N := 89) hx hb hg iX12 hown hK hW kd_66 rfl 64 (lt_b rfl) (hg (Cond.fieldLink RX12 118 "SlabWalkModel" "need" "[I") m1378) (fun _ h9 => h9) rfl dX12_layNeed_162 ?_
                  refine lv_iload_n hx hb dX12_layNeed_165 rfl (lv_at hl 2 rfl) ?_
                  refine ic_2 hx hb dX12_layNeed_166 ?_
                  refine lv_iadd hx hb dX12_layNeed_167 ?_
                  refine lv_topi (fun y_423 ey_423 => ?_)
                  have ty_423 : y_423.toInt = y_3.toInt + 2 := xI_add rfl rfl ey_423 ((by first | exact ok_1160 ha_p0.1 ha_p1.1 ty_1 ty_2 ty_3 | omega)) ((by first | exact ok_1161 ha_p0.2 ha_p1.2 ty_1 ty_2 ty_3 | omega))
                  refine lv_aload_n hx hb dX12_layNeed_168 rfl (lv_at hl 3 rfl) ?_
                  refine S_getR (n := 99) (C := RX12) (T := TX12) (N := 89) hx hb hg iX12 hown hK hW kd_66 rfl 64 (lt_b rfl) (hg (Cond.fieldLink RX12 118 "SlabWalkModel" "need" "[I") m1378) (fun _ h9 => h9) rfl dX12_layNeed_169 ?_
                  refine lv_iload_n hx hb dX12_layNeed_172 rfl (lv_at hl 2 rfl) ?_
                  refine ic_2 hx hb dX12_layNeed_173 ?_
                  refine lv_iadd hx hb dX12_layNeed_174 ?_
                  refine lv_topi (fun y_424 ey_424 => ?_)
                  have ty_424 : y_424.toInt = y_3.toInt + 2 := xI_add rfl rfl ey_424 ((by first | exact ok_1160 ha_p0.1 ha_p1.1 ty_1 ty_2 ty_3 | omega)) ((by first | exact ok_1161 ha_p0.2 ha_p1.2 ty_1 ty_2 ty_3 | omega))
                  refine S_iald hx hb hK hW kd_99 (vin ((by first | exact ok_1162 ha_p0.1 ha_p1.1 ty_1 ty_2 ty_3 ty_424 | omega)) ((by first | exact ok_1163 ha_p0.2 ha_p1.2 ty_1 ty_2 ty_3 ty_424 | omega))) dX12_layNeed_175 (fun y_425 ey_425 => ?_)
                  have ty_425 : 0 ≤ y_425.toInt ∧ y_425.toInt ≤ 100000 := bv_99 hB_G_422 ey_425
                  have u_426 : y_425.toInt = (G_422.1 99 y_424.toNatClampNeg).toInt := congrArg Int32.toInt (ey_425)
                  have hn2_ : y_425.toInt = ndv (G_422.1 99) p0.toInt p1.toInt 2 := (ndv_at (f := G_422.1 99) (x := y_424) ((by first | exact ok_1165 ty_1 ty_2 ty_3 ty_424 | omega)) (congrArg Int32.toInt ey_425)).trans (ndv_eq (show G_422.1 99 = G_422.1 99 from (funext fun j => ((fun (j : Nat) (_ : True) => rfl)) j trivial)) rfl rfl)
                  refine ic_1 hx hb dX12_layNeed_176 ?_
                  refine lv_aload_n hx hb dX12_layNeed_177 rfl (lv_at hl 3 rfl) ?_
                  refine lv_iload_n hx hb dX12_layNeed_178 rfl (lv_at hl 4 rfl) ?_
                  refine lv_iload hx hb dX12_layNeed_179 (lv_at hl 1 rfl) ?_
                  refine lv_iadd hx hb dX12_layNeed_181 ?_
                  refine lv_topi (fun y_427 ey_427 => ?_)
                  have ty_427 : y_427.toInt = p0.toInt + x_365.toInt := xI_add rfl rfl ey_427 ((by first | exact ok_252 ha_p0.1 f_367.1 | omega)) ((by first | exact ok_1171 ha_p0.2 f_367.2 | omega))
                  refine lv_iload hx hb dX12_layNeed_182 (lv_at hl 0 rfl) ?_
                  refine ic_1 hx hb dX12_layNeed_184 ?_
                  have qc_428 : (1 : Int32).toInt = 1 := rfl
                  refine S_calli (va_runV (As := [.int y_427, .int r_397, .int 1]) (rest := [.int 1, .int y_425, .int y_423, .ref (a 99)]) ⟨hx, hb, hml, hown, hts⟩ (n_needOf l D k A a z G_422 y_427 r_397 1 ⟨(by first | exact ok_254 ha_p0.1 f_367.1 ty_427 | omega), (by first | (clear h400 d_20 d_23 hn_372 b_391 g_392 u_415; omega) | omega)⟩ ⟨(by first | exact f_402.1 | omega), (by first | exact f_402.2 | omega)⟩ ⟨by decide, by decide⟩) (cwV 3 hts (gd_V hgd m1859 m1861 m96 m131 m1862) rfl rfl rfl hd_X12_needOf ⟨Nat.le_of_ble_eq_true rfl, Nat.le_of_ble_eq_true rfl⟩) (pre_W hW hB_G_422 hK hZ hS kd_66 rfl) rfl rfl hl.1 rfl (lv_room (Nat.le_of_ble_eq_true rfl)) dX12_layNeed_185 ⟨Nat.le_of_ble_eq_true rfl, Nat.le_of_ble_eq_true rfl⟩) hS (fun r_429 G_430 H locs hpo hW hS => ?_)
                  have hX_433 : Q_needOf y_427 r_397 1 G_422 r_429 G_430 := hpo
                  obtain ⟨hB_G_430, hq_431, f_434, hp_432, -⟩ := hpo
                  have hF := hF.call9 hq_431 rfl rfl
                  have u_435 := trI_v x_365.toInt (G.1 66 62).toInt
                  have d_28 := u_435.1
                  have d_29 := u_435.2 c_395
                  have hm1_ : r_429.toInt = ndv (G_422.1 99) (p0.toInt + x_365.toInt) (trI x_365.toInt (G.1 66 62).toInt) 1 := hp_432.trans (ndv_eq (show G_422.1 99 = G_422.1 99 from (funext fun j => ((fun (j : Nat) (_ : True) => rfl)) j trivial)) ((by first | exact ty_427 | omega)) ((by first | exact ok_1173 qc_396 f_402.1 f_402.2 hp_400 d_27 | omega)))
                  refine lv_iadd hx hb dX12_layNeed_188 ?_
                  refine lv_topi (fun y_436 ey_436 => ?_)
                  have ty_436 : y_436.toInt = 1 + r_429.toInt := xI_add rfl rfl ey_436 ((by first | exact ok_1174 f_434.1 | omega)) ((by first | exact ok_1175 f_434.2 | omega))
                  refine S_calli (va_runS (As := [.int y_425, .int y_436]) (rest := [.int y_423, .ref (a 99)]) ⟨hx, hb, hml, hown, hts⟩ (n_lesser l D k A a z G_430 y_425 y_436 ) (va_cwS 2 hts (gd_S hgd m1863 m1864 m131 m1865) rfl rfl rfl hd_X12_lesser.2 ⟨Nat.le_of_ble_eq_true rfl, Nat.le_of_ble_eq_true rfl⟩) (pre_S hW hB_G_430 hK hZ hS) rfl rfl hl.1 rfl (lv_room (Nat.le_of_ble_eq_true rfl)) dX12_layNeed_189 ⟨Nat.le_of_ble_eq_true rfl, Nat.le_of_ble_eq_true rfl⟩) hS (fun r_437 G_438 H locs hpo hW hS => ?_)
                  have hX_441 : Q_lesser y_425 y_436 G_430 r_437 G_438 := hpo
                  obtain ⟨hB_G_438, hq_439, hp_440, -⟩ := hpo
                  have hF := hF.call9 hq_439 rfl rfl
                  refine S_iast hx hb hK hW hS kd_99 (vin ((by first | exact ok_1162 ha_p0.1 ha_p1.1 ty_1 ty_2 ty_3 ty_423 | omega)) ((by first | exact ok_1163 ha_p0.2 ha_p1.2 ty_1 ty_2 ty_3 ty_423 | omega))) dX12_layNeed_192 (fun G_442 H locs eG_442 hW hS => ?_)
                  have hB_G_442 : Bd G_442 := hB_G_438.put (V := r_437.toInt) (lo := 0) (hi := 100000) eG_442 rfl rfl rfl ((by first | exact ok_1176 ty_425.1 f_434.1 ty_436 hp_440.2.2 | omega)) ((by first | exact ok_1169 ty_425.2 hp_440.1 | omega)) (hB_G_438.2.put eG_442 rfl)
                  have hF := hF.put eG_442 (Or.inl (by decide))
                  have hpa_ : PR (G_418.1 99) (G.1 98) (G.1 66 61).toInt (G.1 66 62).toInt (G.1 66 63).toInt (p0.toInt) (p1.toInt) := by rw [show G_418.1 99 = G_361.1 99 from (funext fun j => ((fun (j : Nat) (_ : True) => ((hq_419.ri9 99 rfl j).trans ((hq_411.ri9 99 rfl j).trans (hq_399.ri9 99 rfl j))))) j trivial)]; exact (show PR (G_361.1 99) (G.1 98) (G.1 66 61).toInt (G.1 66 62).toInt (G.1 66 63).toInt (p0.toInt) (p1.toInt) by assumption)
                  have hpb_ : PR (G_422.1 99) (G.1 98) (G.1 66 61).toInt (G.1 66 62).toInt (G.1 66 63).toInt (p0.toInt) (p1.toInt) := PR_put (i := 1) eG_422 ((by first | exact ok_1164 ty_1 ty_2 ty_3 ty_403 | omega)) ((by first | exact ha_p0.1 | omega)) ((by first | exact ⟨(by first | exact ha_p1.1 | omega), (by first | exact ha_p1.2 | omega)⟩ | omega)) (by first | (clear h400 d_20 d_23 hn_372 b_391 g_392 u_415 u_435; omega) | omega) hle1 hpa_
                  have hpc_ : PR (G_438.1 99) (G.1 98) (G.1 66 61).toInt (G.1 66 62).toInt (G.1 66 63).toInt (p0.toInt) (p1.toInt) := by rw [show G_438.1 99 = G_422.1 99 from (funext fun j => ((fun (j : Nat) (_ : True) => ((hq_439.ri9 99 rfl j).trans (hq_431.ri9 99 rfl j)))) j trivial)]; exact hpb_
                  have hpN_ : PR (G_442.1 99) (G.1 98) (G.1 66 61).toInt (G.1 66 62).toInt (G.1 66 63).toInt (p0.toInt) (p1.toInt) := PR_put (i := 2) eG_442 ((by first | exact ok_1165 ty_1 ty_2 ty_3 ty_423 | omega)) ((by first | exact ha_p0.1 | omega)) ((by first | exact ⟨(by first | exact ha_p1.1 | omega), (by first | exact ha_p1.2 | omega)⟩ | omega)) (by first | (clear h400 d_20 d_23 hn_372 b_391 g_392 u_415 u_435; omega) | omega) hle1 hpc_
                  have hja_ : NJ (G_418.1 99) (G.1 98) (G.1 66 61).toInt (G.1 66 62).toInt p0.toInt p1.toInt (x_365.toInt) := by rw [show G_418.1 99 = G_361.1 99 from (funext fun j => ((fun (j : Nat) (_ : True) => ((hq_419.ri9 99 rfl j).trans ((hq_411.ri9 99 rfl j).trans (hq_399.ri9 99 rfl j))))) j trivial)]; exact (show NJ (G_361.1 99) (G.1 98) (G.1 66 61).toInt (G.1 66 62).toInt p0.toInt p1.toInt (x_365.toInt) by assumption)
                  have hnN_ : NJ (G_442.1 99) (G.1 98) (G.1 66 61).toInt (G.1 66 62).toInt p0.toInt p1.toInt (x_365.toInt + 1) := NJ_step_ hja_ eG_422 (by first | (clear h400 d_20 d_23 hn_372 b_391 g_392 u_415 u_435; omega) | omega) (show G_438.1 99 = G_422.1 99 from (funext fun j => ((fun (j : Nat) (_ : True) => ((hq_439.ri9 99 rfl j).trans (hq_431.ri9 99 rfl j)))) j trivial)) eG_442 (by first | (clear h400 d_20 d_23 hn_372 b_391 g_392 u_415 u_435; omega) | omega) (by first | (clear h400 d_20 d_23 hn_372 b_391 g_392 u_415 u_435; omega) | omega) (by first | (clear h400 d_20 d_23 hn_372 b_391 g_392 u_415 u_435; omega) | omega) hle1 (by first | (clear h400 d_20 d_23 hn_372 b_391 g_392 u_415 u_435; omega) | omega) ((lw_iff (x := y_388) (y := y_389) (by first | (clear h400 d_20 d_23 hn_372 b_391 g_392 u_415 u_435; omega) | omega) (by first | (clear h400 d_20 d_23 hn_372 b_391 g_392 u_415 u_435; omega) | omega)).mpr (by first | (clear h400 d_20 d_23 hn_372 b_391 g_392 u_415 u_435; omega) | omega)) (hn1_.trans (by rw [show G_418.1 99 = G_361.1 99 from (funext fun j => ((fun (j : Nat) (_ : True) => ((hq_419.ri9 99 rfl j).trans ((hq_411.ri9 99 rfl j).trans (hq_399.ri9 99 rfl j))))) j trivial)])) hn2_ (hm2_.trans (by rw [show G_418.1 99 = G_361.1 99 from (funext fun j => ((fun (j : Nat) (_ : True) => ((hq_419.ri9 99 rfl j).trans ((hq_411.ri9 99 rfl j).trans (hq_399.ri9 99 rfl j))))) j trivial)])) hm1_ (by first | (clear h400 d_20 d_23 hn_372 b_391 g_392 u_415 u_435; omega) | omega) (by first | (clear h400 d_20 d_23 hn_372 b_391 g_392 u_415 u_435; omega) | omega) (by first | (clear h400 d_20 d_23 hn_372 b_391 g_392 u_415 u_435; omega) | omega) (by first | (clear h400 d_20 d_23 hn_372 b_391 g_392 u_415 u_435; omega) | omega) (by first | (clear h400 d_20 d_23 hn_372 b_391 g_392 u_415 u_435; omega) | omega) (by first | (clear h400 d_20 d_23 hn_372 b_391 g_392 u_415 u_435; omega) | omega)
                  obtain ⟨y_443, ey_443⟩ : ∃ q, q = x_365 + 1 := ⟨_, rfl⟩
                  have ty_443 : y_443.toInt = x_365.toInt + 1 := xI_add rfl rfl ey_443 ((by first | exact ok_237 f_367.1 | omega)) ((by first | exact ok_134 f_367.2 | omega))
                  refine lv_iinc (v := y_443) (lv' := [(4, .int y_443), (5, .int r_397), (3, .int y_3), (0, .ref (a 66)), (1, .int p0), (2, .int p1)]) hx hb dX12_layNeed_193 hl (k := 1) rfl (by rw [ey_443]; rfl) (lt_b rfl) rfl (fun ls hl => ?_)
                  have hj_444 : NJ (G_442.1 99) (G.1 98) (G.1 66 61).toInt (G.1 66 62).toInt p0.toInt p1.toInt (y_443.toInt) := by rw [ty_443]; exact hnN_
                  refine lv_goto (tgt := 74) hx hb dX12_layNeed_196 rfl ?_
                  exact ih_363 (100 - y_443.toInt : Int).toNat ((by first | (clear h400 d_20 d_23 b_391 g_392 u_415 u_435; omega) | omega)) _ _ _ ⟨G_442, y_443, (Int.toNat_of_nonneg ((by first | exact ok_1177 b_339.2 f_367.2 c_395 ty_443 | omega))), ⟨(by first | exact ok_240 f_367.1 ty_443 | omega), (by first | exact ok_1178 b_339.2 f_367.2 c_395 ty_443 | omega)⟩, (by assumption), (by assumption), ((by first | exact ok_1093 f_370 ty_443 | omega)), ((by first | exact ok_1179 f_371 c_375 ty_443 | omega)), (hX_366.st (St_n_layNeed_2_mk ⟨x_365, G_361, y_443, G_442, rfl, rfl, f_367, f_368, f_369, f_370, f_371, hB_G_361, (Or.inr ⟨c_373, ⟨c_375, ⟨y_388, ty_388, ⟨y_389, ey_389, (Or.inr ⟨c_394, (Or.inl ⟨c_395, ⟨r_397, G_398, hX_401, ⟨y_403, ty_403, ⟨y_404, ty_404, ⟨y_405, ey_405, ⟨y_407, ty_407, ⟨r_409, G_410, hX_413, ⟨y_416, ty_416, ⟨r_417, G_418, hX_421, ⟨y_423, ty_423, ⟨y_424, ty_424, ⟨y_425, ey_425.trans (congrFun (rw_ast eG_422) _), ⟨y_427, ty_427, ⟨G_422, hB_G_422, (Fr.put (rs := [99]) (fs := []) Fr.rf eG_422 (Or.inl (by decide))), rw_ast eG_422, ⟨r_429, G_430, hX_433, ⟨y_436, ty_436, ⟨r_437, G_438, hX_441, ⟨y_443, ty_443, ⟨rfl, (Fr.put (rs := [99]) (fs := []) Fr.rf eG_442 (Or.inl (by decide))), rw_ast eG_442⟩⟩⟩⟩⟩⟩⟩⟩⟩⟩⟩⟩⟩⟩⟩⟩⟩⟩⟩)⟩)⟩⟩⟩⟩)⟩)), hW, hB_G_442, hF, (Fr.put (rs := [99]) (fs := []) (Fr.call9 (rs := [99]) (fs := []) (Fr.call9 (rs := [99]) (fs := []) (Fr.put (rs := [99]) (fs := []) (Fr.call9 (rs := [99]) (fs := []) (Fr.call9 (rs := [99]) (fs := []) (Fr.call9 (rs := [99]) (fs := []) (Fr.call9 (rs := [99]) (fs := []) Fr.rf hq_362 rfl rfl) hq_399 rfl rfl) hq_411 rfl rfl) hq_419 rfl rfl) eG_422 (Or.inl (by decide))) hq_431 rfl rfl) hq_439 rfl rfl) eG_442 (Or.inl (by decide))), hS, lv_sub hl [0, 2, 3, 4, 5] rfl⟩
                · have c_395 : (G.1 66 62).toInt < x_365.toInt := xI_nle rfl rfl c_395
                  refine ic_1 hx hb dX12_layNeed_119 ?_
                  refine lv_goto (tgt := 124) hx hb dX12_layNeed_120 rfl ?_
                  have qc_445 : (1 : Int32).toInt = 1 := rfl
                  refine S_calli (va_runS (As := [.int 1]) (rest := []) ⟨hx, hb, hml, hown, hts⟩ (n_truth l D k A a z G_361 1 ⟨by decide, by decide⟩) (va_cwS 1 hts (gd_S hgd m1788 m1789 m131 m1790) rfl rfl rfl hd_X12_truth.2 ⟨Nat.le_of_ble_eq_true rfl, Nat.le_of_ble_eq_true rfl⟩) (pre_S hW hB_G_361 hK hZ hS) rfl rfl hl.1 rfl (lv_room (Nat.le_of_ble_eq_true rfl)) dX12_layNeed_124 ⟨Nat.le_of_ble_eq_true rfl, Nat.le_of_ble_eq_true rfl⟩) hS (fun r_446 G_447 H locs hpo hW hS => ?_)
                  have hX_450 : Q_truth 1 G_361 r_446 G_447 := hpo
                  obtain ⟨hB_G_447, hq_448, f_451, hp_449, -⟩ := hpo
                  have hF := hF.call9 hq_448 rfl rfl
                  refine lv_istore (lv' := [(5, .int r_446), (4, .int x_365), (3, .int y_3), (0, .ref (a 66)), (1, .int p0), (2, .int p1)]) hx hb dX12_layNeed_127 hl (lt_b rfl) rfl (fun ls hl => ?_)
                  refine lv_aload_n hx hb dX12_layNeed_129 rfl (lv_at hl 3 rfl) ?_
                  refine S_getR (n := 99) (C := RX12) (T := TX12) (N := 89) hx hb hg iX12 hown hK hW kd_66 rfl 64 (lt_b rfl) (hg (Cond.fieldLink RX12 118 "SlabWalkModel" "need" "[I") m1378) (fun _ h9 => h9) rfl dX12_layNeed_130 ?_
                  refine lv_iload_n hx hb dX12_layNeed_133 rfl (lv_at hl 2 rfl) ?_
                  refine ic_1 hx hb dX12_layNeed_134 ?_
                  refine lv_iadd hx hb dX12_layNeed_135 ?_
                  refine lv_topi (fun y_452 ey_452 => ?_)
                  have ty_452 : y_452.toInt = y_3.toInt + 1 := xI_add rfl rfl ey_452 ((by first | exact ok_1156 ha_p0.1 ha_p1.1 ty_1 ty_2 ty_3 | omega)) ((by first | exact ok_1157 ha_p0.2 ha_p1.2 ty_1 ty_2 ty_3 | omega))
                  refine lv_aload_n hx hb dX12_layNeed_136 rfl (lv_at hl 3 rfl) ?_
                  refine S_getR (n := 99) (C := RX12) (T := TX12) (N := 89) hx hb hg iX12 hown hK hW kd_66 rfl 64 (lt_b rfl) (hg (Cond.fieldLink RX12 118 "SlabWalkModel" "need" "[I") m1378) (fun _ h9 => h9) rfl dX12_layNeed_137 ?_
                  refine lv_iload_n hx hb dX12_layNeed_140 rfl (lv_at hl 2 rfl) ?_
                  refine ic_1 hx hb dX12_layNeed_141 ?_
                  refine lv_iadd hx hb dX12_layNeed_142 ?_
                  refine lv_topi (fun y_453 ey_453 => ?_)
                  have ty_453 : y_453.toInt = y_3.toInt + 1 := xI_add rfl rfl ey_453 ((by first | exact ok_1156 ha_p0.1 ha_p1.1 ty_1 ty_2 ty_3 | omega)) ((by first | exact ok_1157 ha_p0.2 ha_p1.2 ty_1 ty_2 ty_3 | omega))
                  refine S_iald hx hb hK hW kd_99 (vin ((by first | exact ok_1158 ha_p0.1 ha_p1.1 ty_1 ty_2 ty_3 ty_453 | omega)) ((by first | exact ok_1159 ha_p0.2 ha_p1.2 ty_1 ty_2 ty_3 ty_453 | omega))) dX12_layNeed_143 (fun y_454 ey_454 => ?_)
                  have ty_454 : 0 ≤ y_454.toInt ∧ y_454.toInt ≤ 100000 := bv_99 hB_G_447 ey_454
                  have u_455 : y_454.toInt = (G_361.1 99 y_453.toNatClampNeg).toInt := congrArg Int32.toInt (ey_454.trans ((hq_448.ri9 99 rfl y_453.toNatClampNeg)))
                  have hn1_ : y_454.toInt = ndv (G_361.1 99) p0.toInt p1.toInt 1 := (ndv_at (f := G_447.1 99) (x := y_453) ((by first | exact ok_1164 ty_1 ty_2 ty_3 ty_453 | omega)) (congrArg Int32.toInt ey_454)).trans (ndv_eq (show G_447.1 99 = G_361.1 99 from (funext fun j => ((fun (j : Nat) (_ : True) => (hq_448.ri9 99 rfl j))) j trivial)) rfl rfl)
                  refine ic_1 hx hb dX12_layNeed_144 ?_
                  refine lv_aload_n hx hb dX12_layNeed_145 rfl (lv_at hl 3 rfl) ?_
                  refine lv_iload_n hx hb dX12_layNeed_146 rfl (lv_at hl 4 rfl) ?_
                  refine lv_iload hx hb dX12_layNeed_147 (lv_at hl 1 rfl) ?_
                  refine lv_iadd hx hb dX12_layNeed_149 ?_
                  refine lv_topi (fun y_456 ey_456 => ?_)
                  have ty_456 : y_456.toInt = p0.toInt + x_365.toInt := xI_add rfl rfl ey_456 ((by first | exact ok_252 ha_p0.1 f_367.1 | omega)) ((by first | exact ok_1171 ha_p0.2 f_367.2 | omega))
                  refine lv_iload hx hb dX12_layNeed_150 (lv_at hl 0 rfl) ?_
                  refine ic_2 hx hb dX12_layNeed_152 ?_
                  have qc_457 : (2 : Int32).toInt = 2 := rfl
                  refine S_calli (va_runV (As := [.int y_456, .int r_446, .int 2]) (rest := [.int 1, .int y_454, .int y_452, .ref (a 99)]) ⟨hx, hb, hml, hown, hts⟩ (n_needOf l D k A a z G_447 y_456 r_446 2 ⟨(by first | exact ok_254 ha_p0.1 f_367.1 ty_456 | omega), (by first | (clear h400 d_20 d_23 hn_372 b_391 g_392 f_451 hp_449; omega) | omega)⟩ ⟨(by first | exact f_451.1 | omega), (by first | exact f_451.2 | omega)⟩ ⟨by decide, by decide⟩) (cwV 3 hts (gd_V hgd m1859 m1861 m96 m131 m1862) rfl rfl rfl hd_X12_needOf ⟨Nat.le_of_ble_eq_true rfl, Nat.le_of_ble_eq_true rfl⟩) (pre_W hW hB_G_447 hK hZ hS kd_66 rfl) rfl rfl hl.1 rfl (lv_room (Nat.le_of_ble_eq_true rfl)) dX12_layNeed_153 ⟨Nat.le_of_ble_eq_true rfl, Nat.le_of_ble_eq_true rfl⟩) hS (fun r_458 G_459 H locs hpo hW hS => ?_)
                  have hX_462 : Q_needOf y_456 r_446 2 G_447 r_458 G_459 := hpo
                  obtain ⟨hB_G_459, hq_460, f_463, hp_461, -⟩ := hpo
                  have hF := hF.call9 hq_460 rfl rfl
                  have u_464 := trI_v x_365.toInt (G.1 66 62).toInt
                  have d_30 := u_464.1 c_395
                  have d_31 := u_464.2
                  have hm2_ : r_458.toInt = ndv (G_361.1 99) (p0.toInt + x_365.toInt) (trI x_365.toInt (G.1 66 62).toInt) 2 := hp_461.trans (ndv_eq (show G_447.1 99 = G_361.1 99 from (funext fun j => ((fun (j : Nat) (_ : True) => (hq_448.ri9 99 rfl j))) j trivial)) ((by first | exact ty_456 | omega)) ((by first | exact ok_1180 qc_445 f_451.1 f_451.2 hp_449 d_30 | omega)))
                  refine lv_iadd hx hb dX12_layNeed_156 ?_
                  refine lv_topi (fun y_465 ey_465 => ?_)
                  have ty_465 : y_465.toInt = 1 + r_458.toInt := xI_add rfl rfl ey_465 ((by first | exact ok_1174 f_463.1 | omega)) ((by first | exact ok_1175 f_463.2 | omega))
                  refine S_calli (va_runS (As := [.int y_454, .int y_465]) (rest := [.int y_452, .ref (a 99)]) ⟨hx, hb, hml, hown, hts⟩ (n_lesser l D k A a z G_459 y_454 y_465 ) (va_cwS 2 hts (gd_S hgd m1863 m1864 m131 m1865) rfl rfl rfl hd_X12_lesser.2 ⟨Nat.le_of_ble_eq_true rfl, Nat.le_of_ble_eq_true rfl⟩) (pre_S hW hB_G_459 hK hZ hS) rfl rfl hl.1 rfl (lv_room (Nat.le_of_ble_eq_true rfl)) dX12_layNeed_157 ⟨Nat.le_of_ble_eq_true rfl, Nat.le_of_ble_eq_true rfl⟩) hS (fun r_466 G_467 H locs hpo hW hS => ?_)
                  have hX_470 : Q_lesser y_454 y_465 G_459 r_466 G_467 := hpo
                  obtain ⟨hB_G_467, hq_468, hp_469, -⟩ := hpo
                  have hF := hF.call9 hq_468 rfl rfl
                  refine S_iast hx hb hK hW hS kd_99 (vin ((by first | exact ok_1158 ha_p0.1 ha_p1.1 ty_1 ty_2 ty_3 ty_452 | omega)) ((by first | exact ok_1159 ha_p0.2 ha_p1.2 ty_1 ty_2 ty_3 ty_452 | omega))) dX12_layNeed_160 (fun G_471 H locs eG_471 hW hS => ?_)
                  have hB_G_471 : Bd G_471 := hB_G_467.put (V := r_466.toInt) (lo := 0) (hi := 100000) eG_471 rfl rfl rfl ((by first | exact ok_1176 ty_454.1 f_463.1 ty_465 hp_469.2.2 | omega)) ((by first | exact ok_1169 ty_454.2 hp_469.1 | omega)) (hB_G_467.2.put eG_471 rfl)
                  have hF := hF.put eG_471 (Or.inl (by decide))
                  refine lv_aload_n hx hb dX12_layNeed_161 rfl (lv_at hl 3 rfl) ?_
                  refine S_getR (n := 99) (C := RX12) (T := TX12) (N := 89) hx hb hg iX12 hown hK hW kd_66 rfl 64 (lt_b rfl) (hg (Cond.fieldLink RX12 118 "SlabWalkModel" "need" "[I") m1378) (fun _ h9 => h9) rfl dX12_layNeed_162 ?_
                  refine lv_iload_n hx hb dX12_layNeed_165 rfl (lv_at hl 2 rfl) ?_
                  refine ic_2 hx hb dX12_layNeed_166 ?_
                  refine lv_iadd hx hb dX12_layNeed_167 ?_
                  refine lv_topi (fun y_472 ey_472 => ?_)
                  have ty_472 : y_472.toInt = y_3.toInt + 2 := xI_add rfl rfl ey_472 ((by first | exact ok_1160 ha_p0.1 ha_p1.1 ty_1 ty_2 ty_3 | omega)) ((by first | exact ok_1161 ha_p0.2 ha_p1.2 ty_1 ty_2 ty_3 | omega))
                  refine lv_aload_n hx hb dX12_layNeed_168 rfl (lv_at hl 3 rfl) ?_
                  refine S_getR (n := 99) (C := RX12) (T := TX12) (N := 89) hx hb hg iX12 hown hK hW kd_66 rfl 64 (lt_b rfl) (hg (Cond.fieldLink RX12 118 "SlabWalkModel" "need" "[I") m1378) (fun _ h9 => h9) rfl dX12_layNeed_169 ?_
                  refine lv_iload_n hx hb dX12_layNeed_172 rfl (lv_at hl 2 rfl) ?_
                  refine ic_2 hx hb dX12_layNeed_173 ?_
                  refine lv_iadd hx hb dX12_layNeed_174 ?_
                  refine lv_topi (fun y_473 ey_473 => ?_)
                  have ty_473 : y_473.toInt = y_3.toInt + 2 := xI_add rfl rfl ey_473 ((by first | exact ok_1160 ha_p0.1 ha_p1.1 ty_1 ty_2 ty_3 | omega)) ((by first | exact ok_1161 ha_p0.2 ha_p1.2 ty_1 ty_2 ty_3 | omega))
                  refine S_iald hx hb hK hW kd_99 (vin ((by first | exact ok_1162 ha_p0.1 ha_p1.1 ty_1 ty_2 ty_3 ty_473 | omega)) ((by first | exact ok_1163 ha_p0.2 ha_p1.2 ty_1 ty_2 ty_3 ty_473 | omega))) dX12_layNeed_175 (fun y_474 ey_474 => ?_)
                  have ty_474 : 0 ≤ y_474.toInt ∧ y_474.toInt ≤ 100000 := bv_99 hB_G_471 ey_474
                  have u_475 : y_474.toInt = (G_471.1 99 y_473.toNatClampNeg).toInt := congrArg Int32.toInt (ey_474)
                  have hn2_ : y_474.toInt = ndv (G_471.1 99) p0.toInt p1.toInt 2 := (ndv_at (f := G_471.1 99) (x := y_473) ((by first | exact ok_1165 ty_1 ty_2 ty_3 ty_473 | omega)) (congrArg Int32.toInt ey_474)).trans (ndv_eq (show G_471.1 99 = G_471.1 99 from (funext fun j => ((fun (j : Nat) (_ : True) => rfl)) j trivial)) rfl rfl)
                  refine ic_1 hx hb dX12_layNeed_176 ?_
                  refine lv_aload_n hx hb dX12_layNeed_177 rfl (lv_at hl 3 rfl) ?_
                  refine lv_iload_n hx hb dX12_layNeed_178 rfl (lv_at hl 4 rfl) ?_
                  refine lv_iload hx hb dX12_layNeed_179 (lv_at hl 1 rfl) ?_
                  refine lv_iadd hx hb dX12_layNeed_181 ?_
                  refine lv_topi (fun y_476 ey_476 => ?_)
                  have ty_476 : y_476.toInt = p0.toInt + x_365.toInt := xI_add rfl rfl ey_476 ((by first | exact ok_252 ha_p0.1 f_367.1 | omega)) ((by first | exact ok_1171 ha_p0.2 f_367.2 | omega))
                  refine lv_iload hx hb dX12_layNeed_182 (lv_at hl 0 rfl) ?_
                  refine ic_1 hx hb dX12_layNeed_184 ?_
                  have qc_477 : (1 : Int32).toInt = 1 := rfl
                  refine S_calli (va_runV (As := [.int y_476, .int r_446, .int 1]) (rest := [.int 1, .int y_474, .int y_472, .ref (a 99)]) ⟨hx, hb, hml, hown, hts⟩ (n_needOf l D k A a z G_471 y_476 r_446 1 ⟨(by first | exact ok_254 ha_p0.1 f_367.1 ty_476 | omega), (by first | (clear h400 d_20 d_23 hn_372 b_391 g_392 u_464; omega) | omega)⟩ ⟨(by first | exact f_451.1 | omega), (by first | exact f_451.2 | omega)⟩ ⟨by decide, by decide⟩) (cwV 3 hts (gd_V hgd m1859 m1861 m96 m131 m1862) rfl rfl rfl hd_X12_needOf ⟨Nat.le_of_ble_eq_true rfl, Nat.le_of_ble_eq_true rfl⟩) (pre_W hW hB_G_471 hK hZ hS kd_66 rfl) rfl rfl hl.1 rfl (lv_room (Nat.le_of_ble_eq_true rfl)) dX12_layNeed_185 ⟨Nat.le_of_ble_eq_true rfl, Nat.le_of_ble_eq_true rfl⟩) hS (fun r_478 G_479 H locs hpo hW hS => ?_)
                  have hX_482 : Q_needOf y_476 r_446 1 G_471 r_478 G_479 := hpo
                  obtain ⟨hB_G_479, hq_480, f_483, hp_481, -⟩ := hpo
                  have hF := hF.call9 hq_480 rfl rfl
                  have u_484 := trI_v x_365.toInt (G.1 66 62).toInt
                  have d_32 := u_484.1 c_395
                  have d_33 := u_484.2
                  have hm1_ : r_478.toInt = ndv (G_471.1 99) (p0.toInt + x_365.toInt) (trI x_365.toInt (G.1 66 62).toInt) 1 := hp_481.trans (ndv_eq (show G_471.1 99 = G_471.1 99 from (funext fun j => ((fun (j : Nat) (_ : True) => rfl)) j trivial)) ((by first | exact ty_476 | omega)) ((by first | exact ok_1180 qc_445 f_451.1 f_451.2 hp_449 d_30 | omega)))
                  refine lv_iadd hx hb dX12_layNeed_188 ?_
                  refine lv_topi (fun y_485 ey_485 => ?_)
                  have ty_485 : y_485.toInt = 1 + r_478.toInt := xI_add rfl rfl ey_485 ((by first | exact ok_1174 f_483.1 | omega)) ((by first | exact ok_1175 f_483.2 | omega))
                  refine S_calli (va_runS (As := [.int y_474, .int y_485]) (rest := [.int y_472, .ref (a 99)]) ⟨hx, hb, hml, hown, hts⟩ (n_lesser l D k A a z G_479 y_474 y_485 ) (va_cwS 2 hts (gd_S hgd m1863 m1864 m131 m1865) rfl rfl rfl hd_X12_lesser.2 ⟨Nat.le_of_ble_eq_true rfl, Nat.le_of_ble_eq_true rfl⟩) (pre_S hW hB_G_479 hK hZ hS) rfl rfl hl.1 rfl (lv_room (Nat.le_of_ble_eq_true rfl)) dX12_layNeed_189 ⟨Nat.le_of_ble_eq_true rfl, Nat.le_of_ble_eq_true rfl⟩) hS (fun r_486 G_487 H locs hpo hW hS => ?_)
                  have hX_490 : Q_lesser y_474 y_485 G_479 r_486 G_487 := hpo
                  obtain ⟨hB_G_487, hq_488, hp_489, -⟩ := hpo
                  have hF := hF.call9 hq_488 rfl rfl
                  refine S_iast hx hb hK hW hS kd_99 (vin ((by first | exact ok_1162 ha_p0.1 ha_p1.1 ty_1 ty_2 ty_3 ty_472 | omega)) ((by first | exact ok_1163 ha_p0.2 ha_p1.2 ty_1 ty_2 ty_3 ty_472 | omega))) dX12_layNeed_192 (fun G_491 H locs eG_491 hW hS => ?_)
                  have hB_G_491 : Bd G_491 := hB_G_487.put (V := r_486.toInt) (lo := 0) (hi := 100000) eG_491 rfl rfl rfl ((by first | exact ok_1176 ty_474.1 f_483.1 ty_485 hp_489.2.2 | omega)) ((by first | exact ok_1169 ty_474.2 hp_489.1 | omega)) (hB_G_487.2.put eG_491 rfl)
                  have hF := hF.put eG_491 (Or.inl (by decide))
                  have hpa_ : PR (G_467.1 99) (G.1 98) (G.1 66 61).toInt (G.1 66 62).toInt (G.1 66 63).toInt (p0.toInt) (p1.toInt) := by rw [show G_467.1 99 = G_361.1 99 from (funext fun j => ((fun (j : Nat) (_ : True) => ((hq_468.ri9 99 rfl j).trans ((hq_460.ri9 99 rfl j).trans (hq_448.ri9 99 rfl j))))) j trivial)]; exact (show PR (G_361.1 99) (G.1 98) (G.1 66 61).toInt (G.1 66 62).toInt (G.1 66 63).toInt (p0.toInt) (p1.toInt) by assumption)
                  have hpb_ : PR (G_471.1 99) (G.1 98) (G.1 66 61).toInt (G.1 66 62).toInt (G.1 66 63).toInt (p0.toInt) (p1.toInt) := PR_put (i := 1) eG_471 ((by first | exact ok_1164 ty_1 ty_2 ty_3 ty_452 | omega)) ((by first | exact ha_p0.1 | omega)) ((by first | exact ⟨(by first | exact ha_p1.1 | omega), (by first | exact ha_p1.2 | omega)⟩ | omega)) (by first | (clear h400 d_20 d_23 hn_372 b_391 g_392 u_464 u_484; omega) | omega) hle1 hpa_
                  have hpc_ : PR (G_487.1 99) (G.1 98) (G.1 66 61).toInt (G.1 66 62).toInt (G.1 66 63).toInt (p0.toInt) (p1.toInt) := by rw [show G_487.1 99 = G_471.1 99 from (funext fun j => ((fun (j : Nat) (_ : True) => ((hq_488.ri9 99 rfl j).trans (hq_480.ri9 99 rfl j)))) j trivial)]; exact hpb_
                  have hpN_ : PR (G_491.1 99) (G.1 98) (G.1 66 61).toInt (G.1 66 62).toInt (G.1 66 63).toInt (p0.toInt) (p1.toInt) := PR_put (i := 2) eG_491 ((by first | exact ok_1165 ty_1 ty_2 ty_3 ty_472 | omega)) ((by first | exact ha_p0.1 | omega)) ((by first | exact ⟨(by first | exact ha_p1.1 | omega), (by first | exact ha_p1.2 | omega)⟩ | omega)) (by first | (clear h400 d_20 d_23 hn_372 b_391 g_392 u_464 u_484; omega) | omega) hle1 hpc_
                  have hja_ : NJ (G_467.1 99) (G.1 98) (G.1 66 61).toInt (G.1 66 62).toInt p0.toInt p1.toInt (x_365.toInt) := by rw [show G_467.1 99 = G_361.1 99 from (funext fun j => ((fun (j : Nat) (_ : True) => ((hq_468.ri9 99 rfl j).trans ((hq_460.ri9 99 rfl j).trans (hq_448.ri9 99 rfl j))))) j trivial)]; exact (show NJ (G_361.1 99) (G.1 98) (G.1 66 61).toInt (G.1 66 62).toInt p0.toInt p1.toInt (x_365.toInt) by assumption)
                  have hnN_ : NJ (G_491.1 99) (G.1 98) (G.1 66 61).toInt (G.1 66 62).toInt p0.toInt p1.toInt (x_365.toInt + 1) := NJ_step_ hja_ eG_471 (by first | (clear h400 d_20 d_23 hn_372 b_391 g_392 u_464 u_484; omega) | omega) (show G_487.1 99 = G_471.1 99 from (funext fun j => ((fun (j : Nat) (_ : True) => ((hq_488.ri9 99 rfl j).trans (hq_480.ri9 99 rfl j)))) j trivial)) eG_491 (by first | (clear h400 d_20 d_23 hn_372 b_391 g_392 u_464 u_484; omega) | omega) (by first | (clear h400 d_20 d_23 hn_372 b_391 g_392 u_464 u_484; omega) | omega) (by first | (clear h400 d_20 d_23 hn_372 b_391 g_392 u_464 u_484; omega) | omega) hle1 (by first | (clear h400 d_20 d_23 hn_372 b_391 g_392 u_464 u_484; omega) | omega) ((lw_iff (x := y_388) (y := y_389) (by first | (clear h400 d_20 d_23 hn_372 b_391 g_392 u_464 u_484; omega) | omega) (by first | (clear h400 d_20 d_23 hn_372 b_391 g_392 u_464 u_484; omega) | omega)).mpr (by first | (clear h400 d_20 d_23 hn_372 b_391 g_392 u_464 u_484; omega) | omega)) (hn1_.trans (by rw [show G_467.1 99 = G_361.1 99 from (funext fun j => ((fun (j : Nat) (_ : True) => ((hq_468.ri9 99 rfl j).trans ((hq_460.ri9 99 rfl j).trans (hq_448.ri9 99 rfl j))))) j trivial)])) hn2_ (hm2_.trans (by rw [show G_467.1 99 = G_361.1 99 from (funext fun j => ((fun (j : Nat) (_ : True) => ((hq_468.ri9 99 rfl j).trans ((hq_460.ri9 99 rfl j).trans (hq_448.ri9 99 rfl j))))) j trivial)])) hm1_ (by first | (clear h400 d_20 d_23 hn_372 b_391 g_392 u_464 u_484; omega) | omega) (by first | (clear h400 d_20 d_23 hn_372 b_391 g_392 u_464 u_484; omega) | omega) (by first | (clear h400 d_20 d_23 hn_372 b_391 g_392 u_464 u_484; omega) | omega) (by first | (clear h400 d_20 d_23 hn_372 b_391 g_392 u_464 u_484; omega) | omega) (by first | (clear h400 d_20 d_23 hn_372 b_391 g_392 u_464 u_484; omega) | omega) (by first | (clear h400 d_20 d_23 hn_372 b_391 g_392 u_464 u_484; omega) | omega)
                  obtain ⟨y_492, ey_492⟩ : ∃ q, q = x_365 + 1 := ⟨_, rfl⟩
                  have ty_492 : y_492.toInt = x_365.toInt + 1 := xI_add rfl rfl ey_492 ((by first | exact ok_237 f_367.1 | omega)) ((by first | exact ok_134 f_367.2 | omega))
                  refine lv_iinc (v := y_492) (lv' := [(4, .int y_492), (5, .int r_446), (3, .int y_3), (0, .ref (a 66)), (1, .int p0), (2, .int p1)]) hx hb dX12_layNeed_193 hl (k := 1) rfl (by rw [ey_492]; rfl) (lt_b rfl) rfl (fun ls hl => ?_)
                  have hj_493 : NJ (G_491.1 99) (G.1 98) (G.1 66 61).toInt (G.1 66 62).toInt p0.toInt p1.toInt (y_492.toInt) := by rw [ty_492]; exact hnN_
                  refine lv_goto (tgt := 74) hx hb dX12_layNeed_196 rfl ?_
                  exact ih_363 (100 - y_492.toInt : Int).toNat ((by first | (clear h400 d_20 d_23 b_391 g_392 u_464 u_484; omega) | omega)) _ _ _ ⟨G_491, y_492, (Int.toNat_of_nonneg ((by first | exact ok_766 f_367.2 b_374.2 c_375 ty_492 | omega))), ⟨(by first | exact ok_240 f_367.1 ty_492 | omega), (by first | exact ok_767 f_367.2 b_374.2 c_375 ty_492 | omega)⟩, (by assumption), (by assumption), ((by first | exact ok_1093 f_370 ty_492 | omega)), ((by first | exact ok_1179 f_371 c_375 ty_492 | omega)), (hX_366.st (St_n_layNeed_2_mk ⟨x_365, G_361, y_492, G_491, rfl, rfl, f_367, f_368, f_369, f_370, f_371, hB_G_361, (Or.inr ⟨c_373, ⟨c_375, ⟨y_388, ty_388, ⟨y_389, ey_389, (Or.inr ⟨c_394, (Or.inr ⟨c_395, ⟨r_446, G_447, hX_450, ⟨y_452, ty_452, ⟨y_453, ty_453, ⟨y_454, ey_454, ⟨y_456, ty_456, ⟨r_458, G_459, hX_462, ⟨y_465, ty_465, ⟨r_466, G_467, hX_470, ⟨y_472, ty_472, ⟨y_473, ty_473, ⟨y_474, ey_474.trans (congrFun (rw_ast eG_471) _), ⟨y_476, ty_476, ⟨G_471, hB_G_471, (Fr.put (rs := [99]) (fs := []) Fr.rf eG_471 (Or.inl (by decide))), rw_ast eG_471, ⟨r_478, G_479, hX_482, ⟨y_485, ty_485, ⟨r_486, G_487, hX_490, ⟨y_492, ty_492, ⟨rfl, (Fr.put (rs := [99]) (fs := []) Fr.rf eG_491 (Or.inl (by decide))), rw_ast eG_491⟩⟩⟩⟩⟩⟩⟩⟩⟩⟩⟩⟩⟩⟩⟩⟩⟩⟩⟩)⟩)⟩⟩⟩⟩)⟩)), hW, hB_G_491, hF, (Fr.put (rs := [99]) (fs := []) (Fr.call9 (rs := [99]) (fs := []) (Fr.call9 (rs := [99]) (fs := []) (Fr.put (rs := [99]) (fs := []) (Fr.call9 (rs := [99]) (fs := []) (Fr.call9 (rs := [99]) (fs := []) (Fr.call9 (rs := [99]) (fs := []) (Fr.call9 (rs := [99]) (fs := []) Fr.rf hq_362 rfl rfl) hq_448 rfl rfl) hq_460 rfl rfl) hq_468 rfl rfl) eG_471 (Or.inl (by decide))) hq_480 rfl rfl) hq_488 rfl rfl) eG_491 (Or.inl (by decide))), hS, lv_sub hl [0, 2, 3, 4, 5] rfl⟩
              · have c_394 : y_389.toInt = 0 := xI_eq rfl rfl c_394
                refine lv_goto (tgt := 193) hx hb dX12_layNeed_107 rfl ?_
                have hpN_ : PR (G_361.1 99) (G.1 98) (G.1 66 61).toInt (G.1 66 62).toInt (G.1 66 63).toInt (p0.toInt) (p1.toInt) := by rw [show G_361.1 99 = G_361.1 99 from (funext fun j => ((fun (j : Nat) (_ : True) => rfl)) j trivial)]; exact (show PR (G_361.1 99) (G.1 98) (G.1 66 61).toInt (G.1 66 62).toInt (G.1 66 63).toInt (p0.toInt) (p1.toInt) by assumption)
                have hnN_ : NJ (G_361.1 99) (G.1 98) (G.1 66 61).toInt (G.1 66 62).toInt p0.toInt p1.toInt (x_365.toInt + 1) := by rw [show G_361.1 99 = G_361.1 99 from (funext fun j => ((fun (j : Nat) (_ : True) => rfl)) j trivial)]; exact (NJ_skip (show NJ (G_361.1 99) (G.1 98) (G.1 66 61).toInt (G.1 66 62).toInt p0.toInt p1.toInt (x_365.toInt) by assumption) (fun q => by have q := (lw_iff (x := y_388) (y := y_389) (by first | (clear h400 d_20 d_23 hn_372 b_391 g_392; omega) | omega) (by first | (clear h400 d_20 d_23 hn_372 b_391 g_392; omega) | omega)).mp q; omega))
                obtain ⟨y_494, ey_494⟩ : ∃ q, q = x_365 + 1 := ⟨_, rfl⟩
                have ty_494 : y_494.toInt = x_365.toInt + 1 := xI_add rfl rfl ey_494 ((by first | exact ok_237 f_367.1 | omega)) ((by first | exact ok_134 f_367.2 | omega))
                refine lv_iinc (v := y_494) (lv' := [(4, .int y_494), (3, .int y_3), (0, .ref (a 66)), (1, .int p0), (2, .int p1)]) hx hb dX12_layNeed_193 hl (k := 0) rfl (by rw [ey_494]; rfl) (lt_b rfl) rfl (fun ls hl => ?_)
                have hj_495 : NJ (G_361.1 99) (G.1 98) (G.1 66 61).toInt (G.1 66 62).toInt p0.toInt p1.toInt (y_494.toInt) := by rw [ty_494]; exact hnN_
                refine lv_goto (tgt := 74) hx hb dX12_layNeed_196 rfl ?_
                exact ih_363 (100 - y_494.toInt : Int).toNat ((by first | (clear h400 d_20 d_23 b_391 g_392; omega) | omega)) _ _ _ ⟨G_361, y_494, (Int.toNat_of_nonneg ((by first | exact ok_766 f_367.2 b_374.2 c_375 ty_494 | omega))), ⟨(by first | exact ok_240 f_367.1 ty_494 | omega), (by first | exact ok_767 f_367.2 b_374.2 c_375 ty_494 | omega)⟩, (by assumption), (by assumption), ((by first | exact ok_1093 f_370 ty_494 | omega)), ((by first | exact ok_1179 f_371 c_375 ty_494 | omega)), (hX_366.st (St_n_layNeed_2_mk ⟨x_365, G_361, y_494, G_361, rfl, rfl, f_367, f_368, f_369, f_370, f_371, hB_G_361, (Or.inr ⟨c_373, ⟨c_375, ⟨y_388, ty_388, ⟨y_389, ey_389, (Or.inl ⟨c_394, ⟨y_494, ty_494, ⟨rfl, rfl⟩⟩⟩)⟩⟩⟩⟩)⟩)), hW, hB_G_361, hF, (Fr.call9 (rs := [99]) (fs := []) Fr.rf hq_362 rfl rfl), hS, lv_sub hl [0, 1, 2, 3, 4] rfl⟩
          · have c_373 : p1.toInt = 1 := xI_eq rfl rfl c_373
            refine lv_aload_n hx hb dX12_layNeed_81 rfl (lv_at hl 2 rfl) ?_
            refine S_getI (v := (G.1 66 62)) (C := RX12) (T := TX12) (N := 89) hx hb hg iX12 hown hK hW kd_66 rfl 62 (lt_b rfl) (hg (Cond.fieldLink RX12 478 "SlabWalkModel" "most" "I") m1376) (fun _ h9 => h9) rfl ((hq_362.i9 66 62 rfl rfl).trans ((hq_343.i9 66 62 rfl rfl).trans ((gp_ne eG_318 (fun q => absurd q.1 (Nat.ne_of_beq_eq_false rfl))).trans ((gp_ne eG_316 (fun q => absurd q.1 (Nat.ne_of_beq_eq_false rfl))).trans ((hq_311.i9 66 62 rfl rfl).trans (rfl)))))) dX12_layNeed_82 ?_
            refine lv_goto (tgt := 92) hx hb dX12_layNeed_85 rfl ?_
            refine lv_icmp_gt (tgt := 199) hx hb dX12_layNeed_92 rfl (fun c_496 => ?_) (fun c_496 => ?_)
            · have c_496 : (G.1 66 62).toInt < x_365.toInt := xI_lt rfl rfl c_496
              have hpF_ : PR (G_361.1 99) (G.1 98) (G.1 66 61).toInt (G.1 66 62).toInt (G.1 66 63).toInt (p0.toInt) (p1.toInt) := by rw [show G_361.1 99 = G_361.1 99 from (funext fun j => ((fun (j : Nat) (_ : True) => rfl)) j trivial)]; exact (show PR (G_361.1 99) (G.1 98) (G.1 66 61).toInt (G.1 66 62).toInt (G.1 66 63).toInt (p0.toInt) (p1.toInt) by assumption)
              have hjF_ : NJ (G_361.1 99) (G.1 98) (G.1 66 61).toInt (G.1 66 62).toInt p0.toInt p1.toInt (x_365.toInt) := by rw [show G_361.1 99 = G_361.1 99 from (funext fun j => ((fun (j : Nat) (_ : True) => rfl)) j trivial)]; exact (show NJ (G_361.1 99) (G.1 98) (G.1 66 61).toInt (G.1 66 62).toInt p0.toInt p1.toInt (x_365.toInt) by assumption)
              refine lv_aload_n hx hb dX12_layNeed_199 rfl (lv_at hl 2 rfl) ?_
              refine S_getR (n := 99) (C := RX12) (T := TX12) (N := 89) hx hb hg iX12 hown hK hW kd_66 rfl 64 (lt_b rfl) (hg (Cond.fieldLink RX12 118 "SlabWalkModel" "need" "[I") m1378) (fun _ h9 => h9) rfl dX12_layNeed_200 ?_
              refine lv_iload_n hx hb dX12_layNeed_203 rfl (lv_at hl 1 rfl) ?_
              refine lv_aload_n hx hb dX12_layNeed_204 rfl (lv_at hl 2 rfl) ?_
              refine S_getR (n := 99) (C := RX12) (T := TX12) (N := 89) hx hb hg iX12 hown hK hW kd_66 rfl 64 (lt_b rfl) (hg (Cond.fieldLink RX12 118 "SlabWalkModel" "need" "[I") m1378) (fun _ h9 => h9) rfl dX12_layNeed_205 ?_
              refine lv_iload_n hx hb dX12_layNeed_208 rfl (lv_at hl 1 rfl) ?_
              refine ic_1 hx hb dX12_layNeed_209 ?_
              refine lv_iadd hx hb dX12_layNeed_210 ?_
              refine lv_topi (fun y_497 ey_497 => ?_)
              have ty_497 : y_497.toInt = y_3.toInt + 1 := xI_add rfl rfl ey_497 ((by first | exact ok_1181 ha_p0.1 ty_1 ty_2 ty_3 c_373 | omega)) ((by first | exact ok_1157 ha_p0.2 ha_p1.2 ty_1 ty_2 ty_3 | omega))
              refine S_iald hx hb hK hW kd_99 (vin ((by first | exact ok_1182 ha_p0.1 ty_1 ty_2 ty_3 c_373 ty_497 | omega)) ((by first | exact ok_1159 ha_p0.2 ha_p1.2 ty_1 ty_2 ty_3 ty_497 | omega))) dX12_layNeed_211 (fun y_498 ey_498 => ?_)
              have ty_498 : 0 ≤ y_498.toInt ∧ y_498.toInt ≤ 100000 := bv_99 hB_G_361 ey_498
              have u_499 : y_498.toInt = (G_361.1 99 y_497.toNatClampNeg).toInt := congrArg Int32.toInt (ey_498)
              have hn1_ : y_498.toInt = ndv (G_361.1 99) p0.toInt p1.toInt 1 := (ndv_at (f := G_361.1 99) (x := y_497) ((by first | exact ok_1164 ty_1 ty_2 ty_3 ty_497 | omega)) (congrArg Int32.toInt ey_498)).trans (ndv_eq (show G_361.1 99 = G_361.1 99 from (funext fun j => ((fun (j : Nat) (_ : True) => rfl)) j trivial)) rfl rfl)
              refine lv_aload_n hx hb dX12_layNeed_212 rfl (lv_at hl 2 rfl) ?_
              refine S_getR (n := 99) (C := RX12) (T := TX12) (N := 89) hx hb hg iX12 hown hK hW kd_66 rfl 64 (lt_b rfl) (hg (Cond.fieldLink RX12 118 "SlabWalkModel" "need" "[I") m1378) (fun _ h9 => h9) rfl dX12_layNeed_213 ?_
              refine lv_iload_n hx hb dX12_layNeed_216 rfl (lv_at hl 1 rfl) ?_
              refine ic_2 hx hb dX12_layNeed_217 ?_
              refine lv_iadd hx hb dX12_layNeed_218 ?_
              refine lv_topi (fun y_500 ey_500 => ?_)
              have ty_500 : y_500.toInt = y_3.toInt + 2 := xI_add rfl rfl ey_500 ((by first | exact ok_1183 ha_p0.1 ty_1 ty_2 ty_3 c_373 | omega)) ((by first | exact ok_1161 ha_p0.2 ha_p1.2 ty_1 ty_2 ty_3 | omega))
              refine S_iald hx hb hK hW kd_99 (vin ((by first | exact ok_1184 ha_p0.1 ty_1 ty_2 ty_3 c_373 ty_500 | omega)) ((by first | exact ok_1163 ha_p0.2 ha_p1.2 ty_1 ty_2 ty_3 ty_500 | omega))) dX12_layNeed_219 (fun y_501 ey_501 => ?_)
              have ty_501 : 0 ≤ y_501.toInt ∧ y_501.toInt ≤ 100000 := bv_99 hB_G_361 ey_501
              have u_502 : y_501.toInt = (G_361.1 99 y_500.toNatClampNeg).toInt := congrArg Int32.toInt (ey_501)
              have hn2_ : y_501.toInt = ndv (G_361.1 99) p0.toInt p1.toInt 2 := (ndv_at (f := G_361.1 99) (x := y_500) ((by first | exact ok_1165 ty_1 ty_2 ty_3 ty_500 | omega)) (congrArg Int32.toInt ey_501)).trans (ndv_eq (show G_361.1 99 = G_361.1 99 from (funext fun j => ((fun (j : Nat) (_ : True) => rfl)) j trivial)) rfl rfl)
              refine S_calli (va_runS (As := [.int y_498, .int y_501]) (rest := [.int y_3, .ref (a 99)]) ⟨hx, hb, hml, hown, hts⟩ (n_lesser l D k A a z G_361 y_498 y_501 ) (va_cwS 2 hts (gd_S hgd m1863 m1864 m131 m1865) rfl rfl rfl hd_X12_lesser.2 ⟨Nat.le_of_ble_eq_true rfl, Nat.le_of_ble_eq_true rfl⟩) (pre_S hW hB_G_361 hK hZ hS) rfl rfl hl.1 rfl (lv_room (Nat.le_of_ble_eq_true rfl)) dX12_layNeed_220 ⟨Nat.le_of_ble_eq_true rfl, Nat.le_of_ble_eq_true rfl⟩) hS (fun r_503 G_504 H locs hpo hW hS => ?_)
              have hX_507 : Q_lesser y_498 y_501 G_361 r_503 G_504 := hpo
              obtain ⟨hB_G_504, hq_505, hp_506, -⟩ := hpo
              have hF := hF.call9 hq_505 rfl rfl
              refine S_iast hx hb hK hW hS kd_99 (vin ((by first | exact ok_1185 ha_p0.1 ty_1 ty_2 ty_3 c_373 | omega)) ((by first | exact ok_1167 ha_p0.2 ha_p1.2 ty_1 ty_2 ty_3 | omega))) dX12_layNeed_223 (fun G_508 H locs eG_508 hW hS => ?_)
              have hB_G_508 : Bd G_508 := hB_G_504.put (V := r_503.toInt) (lo := 0) (hi := 100000) eG_508 rfl rfl rfl ((by first | exact ok_1168 ty_498.1 ty_501.1 hp_506.2.2 | omega)) ((by first | exact ok_1169 ty_498.2 hp_506.1 | omega)) (hB_G_504.2.put eG_508 rfl)
              have hF := hF.put eG_508 (Or.inl (by decide))
              have hpL_ : PR (G_504.1 99) (G.1 98) (G.1 66 61).toInt (G.1 66 62).toInt (G.1 66 63).toInt (p0.toInt) (p1.toInt) := by rw [show G_504.1 99 = G_361.1 99 from (funext fun j => ((fun (j : Nat) (_ : True) => (hq_505.ri9 99 rfl j))) j trivial)]; exact hpF_
              have hfL_ : ((ndv (G_504.1 99) p0.toInt p1.toInt 1 = 1 ∨ ndv (G_504.1 99) p0.toInt p1.toInt 1 = 100000) ∧ ndv (G_504.1 99) p0.toInt p1.toInt 2 = 100000) ∨ ∃ u, NJ (G_504.1 99) (G.1 98) (G.1 66 61).toInt (G.1 66 62).toInt p0.toInt p1.toInt u ∧ u ≤ (G.1 66 63).toInt + 1 := by rw [show G_504.1 99 = G_361.1 99 from (funext fun j => ((fun (j : Nat) (_ : True) => (hq_505.ri9 99 rfl j))) j trivial)]; exact Or.inr ⟨_, hjF_, by omega⟩
              have hr1_ := hn1_.trans (show ndv (G_361.1 99) p0.toInt p1.toInt 1 = ndv (G_504.1 99) p0.toInt p1.toInt 1 by rw [show G_504.1 99 = G_361.1 99 from (funext fun j => ((fun (j : Nat) (_ : True) => (hq_505.ri9 99 rfl j))) j trivial)])
              have hr2_ := hn2_.trans (show ndv (G_361.1 99) p0.toInt p1.toInt 2 = ndv (G_504.1 99) p0.toInt p1.toInt 2 by rw [show G_504.1 99 = G_361.1 99 from (funext fun j => ((fun (j : Nat) (_ : True) => (hq_505.ri9 99 rfl j))) j trivial)])
              have hEnd_ : PR (G_508.1 99) (G.1 98) (G.1 66 61).toInt (G.1 66 62).toInt (G.1 66 63).toInt (p0.toInt) (p1.toInt + 1) := PR_next eG_508 (by first | (clear h400 d_20 d_23 hn_372; omega) | omega) (by first | (clear h400 d_20 d_23 hn_372; omega) | omega) (by first | (clear h400 d_20 d_23 hn_372; omega) | omega) hle1 hpL_ (lw400 hB_G h400) (by first | (clear h400 d_20 d_23 hn_372; omega) | omega) (by first | (clear h400 d_20 d_23 hn_372; omega) | omega) (by first | (clear h400 d_20 d_23 hn_372; omega) | omega) hfL_
              have hPG_ : PRG G_508 p0.toInt (p1.toInt + 1) := PRG_of hF (by decide) (by decide) hEnd_
              exact W.vret hx hb hr (fun t ht _ => ⟨⟨G_508, rfl, (Q_layNeed_mk ⟨hB_G_508, hF, (hPG_), ⟨y_1, ty_1, ⟨y_2, ty_2, ⟨y_3, ty_3, ⟨y_4, ty_4, ⟨y_5, ey_5, (Or.inr ⟨c_7, ⟨r_309, G_310, hX_313, (Or.inl ⟨c_315, ⟨y_317, ty_317, ⟨y_320, ey_320.trans (congrFun ((rw_put eG_318 (by decide)).trans (rw_put eG_316 (by decide))) _), (Or.inr ⟨c_322, ⟨G_318, hB_G_318, (Fr.put (rs := [99]) (fs := []) (Fr.put (rs := [99]) (fs := []) Fr.rf eG_316 (Or.inl (by decide))) eG_318 (Or.inl (by decide))), (rw_ast eG_318).trans (congrArg (fun q => upd q (y_317.toNatClampNeg) 100000) (rw_ast eG_316)), ⟨r_341, G_342, hX_345, (Or.inl ⟨c_347, ⟨x_365, G_361, hX_366, f_367, f_368, f_369, f_370, f_371, hB_G_361, hq_362, (Or.inl ⟨c_373, ⟨c_496, ⟨y_497, ty_497, ⟨y_498, ey_498, ⟨y_500, ty_500, ⟨y_501, ey_501, ⟨r_503, G_504, hX_507, ⟨(Fr.put (rs := [99]) (fs := []) Fr.rf eG_508 (Or.inl (by decide))), rw_ast eG_508⟩⟩⟩⟩⟩⟩⟩⟩)⟩⟩)⟩⟩⟩)⟩⟩⟩)⟩⟩)⟩⟩⟩⟩⟩⟩), wd_t ht hW⟩, hS.F ht⟩) hS.2.2 dX12_layNeed_224
            · have c_496 : x_365.toInt ≤ (G.1 66 62).toInt := xI_nlt rfl rfl c_496
              refine lv_aload_n hx hb dX12_layNeed_95 rfl (lv_at hl 2 rfl) ?_
              refine S_getR (n := 98) (C := RX12) (T := TX12) (N := 89) hx hb hg iX12 hown hK hW kd_66 rfl 58 (lt_b rfl) (hg (Cond.fieldLink RX12 115 "SlabWalkModel" "lawful" "[Z") m1372) (fun _ h9 => h9) rfl dX12_layNeed_96 ?_
              refine lv_iload_n hx hb dX12_layNeed_99 rfl (lv_at hl 3 rfl) ?_
              refine lv_iload hx hb dX12_layNeed_100 (lv_at hl 0 rfl) ?_
              refine lv_iadd hx hb dX12_layNeed_102 ?_
              refine lv_topi (fun y_509 ey_509 => ?_)
              have ty_509 : y_509.toInt = p0.toInt + x_365.toInt := xI_add rfl rfl ey_509 ((by first | exact ok_252 ha_p0.1 f_367.1 | omega)) ((by first | exact ok_1171 ha_p0.2 f_367.2 | omega))
              refine S_zald hx hb hK hW kd_98 (vin ((by first | exact ok_254 ha_p0.1 f_367.1 ty_509 | omega)) ((by first | exact ok_1172 ha_p0.2 f_367.2 ty_509 | omega))) dX12_layNeed_103 (fun y_510 ey_510 => ?_)
              have ty_510 := hB_G_361.law ey_510
              have u_511 : y_510.toInt = (G.1 98 y_509.toNatClampNeg).toInt := congrArg Int32.toInt (ey_510.trans (((hq_362.ri9 98 rfl y_509.toNatClampNeg).trans ((hq_343.ri9 98 rfl y_509.toNatClampNeg).trans ((gp_ne eG_318 (fun q => absurd q.1 (Nat.ne_of_beq_eq_false rfl))).trans ((gp_ne eG_316 (fun q => absurd q.1 (Nat.ne_of_beq_eq_false rfl))).trans (hq_311.ri9 98 rfl y_509.toNatClampNeg)))))))
              have b_512 : 0 ≤ (G.1 98 400).toInt ∧ (G.1 98 400).toInt ≤ 1 := bd_98_400 hB_G
              have g_513 : (G_361.1 98 400).toInt = (G.1 98 400).toInt := (congrArg Int32.toInt (show G_361.1 98 400 = (G.1 98 400) from ((hq_362.i9 98 400 rfl rfl).trans ((hq_343.i9 98 400 rfl rfl).trans ((gp_ne eG_318 (fun q => absurd q.1 (Nat.ne_of_beq_eq_false rfl))).trans ((gp_ne eG_316 (fun q => absurd q.1 (Nat.ne_of_beq_eq_false rfl))).trans (hq_311.i9 98 400 rfl rfl)))))))
              have u_514 := law4 (G := G_361) (by first | (clear h400 d_20 d_23 hn_372 b_512 g_513; omega) | omega) ey_510
              refine lv_if_ne (tgt := 110) hx hb dX12_layNeed_104 rfl (fun c_515 => ?_) (fun c_515 => ?_)
              · have c_515 : y_510.toInt ≠ 0 := xI_ne rfl rfl c_515
                refine lv_iload hx hb dX12_layNeed_110 (lv_at hl 0 rfl) ?_
                refine lv_aload_n hx hb dX12_layNeed_112 rfl (lv_at hl 2 rfl) ?_
                refine S_getI (v := (G.1 66 62)) (C := RX12) (T := TX12) (N := 89) hx hb hg iX12 hown hK hW kd_66 rfl 62 (lt_b rfl) (hg (Cond.fieldLink RX12 478 "SlabWalkModel" "most" "I") m1376) (fun _ h9 => h9) rfl ((hq_362.i9 66 62 rfl rfl).trans ((hq_343.i9 66 62 rfl rfl).trans ((gp_ne eG_318 (fun q => absurd q.1 (Nat.ne_of_beq_eq_false rfl))).trans ((gp_ne eG_316 (fun q => absurd q.1 (Nat.ne_of_beq_eq_false rfl))).trans ((hq_311.i9 66 62 rfl rfl).trans (rfl)))))) dX12_layNeed_113 ?_
                refine lv_icmp_le (tgt := 123) hx hb dX12_layNeed_116 rfl (fun c_516 => ?_) (fun c_516 => ?_)
                · have c_516 : x_365.toInt ≤ (G.1 66 62).toInt := xI_le rfl rfl c_516
                  refine ic_0 hx hb dX12_layNeed_123 ?_
                  have qc_517 : (0 : Int32).toInt = 0 := rfl
                  refine S_calli (va_runS (As := [.int 0]) (rest := []) ⟨hx, hb, hml, hown, hts⟩ (n_truth l D k A a z G_361 0 ⟨by decide, by decide⟩) (va_cwS 1 hts (gd_S hgd m1788 m1789 m131 m1790) rfl rfl rfl hd_X12_truth.2 ⟨Nat.le_of_ble_eq_true rfl, Nat.le_of_ble_eq_true rfl⟩) (pre_S hW hB_G_361 hK hZ hS) rfl rfl hl.1 rfl (lv_room (Nat.le_of_ble_eq_true rfl)) dX12_layNeed_124 ⟨Nat.le_of_ble_eq_true rfl, Nat.le_of_ble_eq_true rfl⟩) hS (fun r_518 G_519 H locs hpo hW hS => ?_)
                  have hX_522 : Q_truth 0 G_361 r_518 G_519 := hpo
                  obtain ⟨hB_G_519, hq_520, f_523, hp_521, -⟩ := hpo
                  have hF := hF.call9 hq_520 rfl rfl
                  refine lv_istore (lv' := [(5, .int r_518), (4, .int x_365), (3, .int y_3), (0, .ref (a 66)), (1, .int p0), (2, .int p1)]) hx hb dX12_layNeed_127 hl (lt_b rfl) rfl (fun ls hl => ?_)
                  refine lv_aload_n hx hb dX12_layNeed_129 rfl (lv_at hl 3 rfl) ?_
                  refine S_getR (n := 99) (C := RX12) (T := TX12) (N := 89) hx hb hg iX12 hown hK hW kd_66 rfl 64 (lt_b rfl) (hg (Cond.fieldLink RX12 118 "SlabWalkModel" "need" "[I") m1378) (fun _ h9 => h9) rfl dX12_layNeed_130 ?_
                  refine lv_iload_n hx hb dX12_layNeed_133 rfl (lv_at hl 2 rfl) ?_
                  refine ic_1 hx hb dX12_layNeed_134 ?_
                  refine lv_iadd hx hb dX12_layNeed_135 ?_
                  refine lv_topi (fun y_524 ey_524 => ?_)
                  have ty_524 : y_524.toInt = y_3.toInt + 1 := xI_add rfl rfl ey_524 ((by first | exact ok_1181 ha_p0.1 ty_1 ty_2 ty_3 c_373 | omega)) ((by first | exact ok_1157 ha_p0.2 ha_p1.2 ty_1 ty_2 ty_3 | omega))
                  refine lv_aload_n hx hb dX12_layNeed_136 rfl (lv_at hl 3 rfl) ?_
                  refine S_getR (n := 99) (C := RX12) (T := TX12) (N := 89) hx hb hg iX12 hown hK hW kd_66 rfl 64 (lt_b rfl) (hg (Cond.fieldLink RX12 118 "SlabWalkModel" "need" "[I") m1378) (fun _ h9 => h9) rfl dX12_layNeed_137 ?_
                  refine lv_iload_n hx hb dX12_layNeed_140 rfl (lv_at hl 2 rfl) ?_
                  refine ic_1 hx hb dX12_layNeed_141 ?_
                  refine lv_iadd hx hb dX12_layNeed_142 ?_
                  refine lv_topi (fun y_525 ey_525 => ?_)
                  have ty_525 : y_525.toInt = y_3.toInt + 1 := xI_add rfl rfl ey_525 ((by first | exact ok_1181 ha_p0.1 ty_1 ty_2 ty_3 c_373 | omega)) ((by first | exact ok_1157 ha_p0.2 ha_p1.2 ty_1 ty_2 ty_3 | omega))
                  refine S_iald hx hb hK hW kd_99 (vin ((by first | exact ok_1182 ha_p0.1 ty_1 ty_2 ty_3 c_373 ty_525 | omega)) ((by first | exact ok_1159 ha_p0.2 ha_p1.2 ty_1 ty_2 ty_3 ty_525 | omega))) dX12_layNeed_143 (fun y_526 ey_526 => ?_)
                  have ty_526 : 0 ≤ y_526.toInt ∧ y_526.toInt ≤ 100000 := bv_99 hB_G_519 ey_526
                  have u_527 : y_526.toInt = (G_361.1 99 y_525.toNatClampNeg).toInt := congrArg Int32.toInt (ey_526.trans ((hq_520.ri9 99 rfl y_525.toNatClampNeg)))
                  have hn1_ : y_526.toInt = ndv (G_361.1 99) p0.toInt p1.toInt 1 := (ndv_at (f := G_519.1 99) (x := y_525) ((by first | exact ok_1164 ty_1 ty_2 ty_3 ty_525 | omega)) (congrArg Int32.toInt ey_526)).trans (ndv_eq (show G_519.1 99 = G_361.1 99 from (funext fun j => ((fun (j : Nat) (_ : True) => (hq_520.ri9 99 rfl j))) j trivial)) rfl rfl)
                  refine ic_1 hx hb dX12_layNeed_144 ?_
                  refine lv_aload_n hx hb dX12_layNeed_145 rfl (lv_at hl 3 rfl) ?_
                  refine lv_iload_n hx hb dX12_layNeed_146 rfl (lv_at hl 4 rfl) ?_
                  refine lv_iload hx hb dX12_layNeed_147 (lv_at hl 1 rfl) ?_
                  refine lv_iadd hx hb dX12_layNeed_149 ?_
                  refine lv_topi (fun y_528 ey_528 => ?_)
                  have ty_528 : y_528.toInt = p0.toInt + x_365.toInt := xI_add rfl rfl ey_528 ((by first | exact ok_252 ha_p0.1 f_367.1 | omega)) ((by first | exact ok_1171 ha_p0.2 f_367.2 | omega))
                  refine lv_iload hx hb dX12_layNeed_150 (lv_at hl 0 rfl) ?_
                  refine ic_2 hx hb dX12_layNeed_152 ?_
                  have qc_529 : (2 : Int32).toInt = 2 := rfl
                  refine S_calli (va_runV (As := [.int y_528, .int r_518, .int 2]) (rest := [.int 1, .int y_526, .int y_524, .ref (a 99)]) ⟨hx, hb, hml, hown, hts⟩ (n_needOf l D k A a z G_519 y_528 r_518 2 ⟨(by first | exact ok_254 ha_p0.1 f_367.1 ty_528 | omega), (by first | (clear h400 d_20 d_23 hn_372 b_512 g_513 f_523 hp_521; omega) | omega)⟩ ⟨(by first | exact f_523.1 | omega), (by first | exact f_523.2 | omega)⟩ ⟨by decide, by decide⟩) (cwV 3 hts (gd_V hgd m1859 m1861 m96 m131 m1862) rfl rfl rfl hd_X12_needOf ⟨Nat.le_of_ble_eq_true rfl, Nat.le_of_ble_eq_true rfl⟩) (pre_W hW hB_G_519 hK hZ hS kd_66 rfl) rfl rfl hl.1 rfl (lv_room (Nat.le_of_ble_eq_true rfl)) dX12_layNeed_153 ⟨Nat.le_of_ble_eq_true rfl, Nat.le_of_ble_eq_true rfl⟩) hS (fun r_530 G_531 H locs hpo hW hS => ?_)
                  have hX_534 : Q_needOf y_528 r_518 2 G_519 r_530 G_531 := hpo
                  obtain ⟨hB_G_531, hq_532, f_535, hp_533, -⟩ := hpo
                  have hF := hF.call9 hq_532 rfl rfl
                  have u_536 := trI_v x_365.toInt (G.1 66 62).toInt
                  have d_34 := u_536.1
                  have d_35 := u_536.2 c_516
                  have hm2_ : r_530.toInt = ndv (G_361.1 99) (p0.toInt + x_365.toInt) (trI x_365.toInt (G.1 66 62).toInt) 2 := hp_533.trans (ndv_eq (show G_519.1 99 = G_361.1 99 from (funext fun j => ((fun (j : Nat) (_ : True) => (hq_520.ri9 99 rfl j))) j trivial)) ((by first | exact ty_528 | omega)) ((by first | exact ok_1173 qc_517 f_523.1 f_523.2 hp_521 d_35 | omega)))
                  refine lv_iadd hx hb dX12_layNeed_156 ?_
                  refine lv_topi (fun y_537 ey_537 => ?_)
                  have ty_537 : y_537.toInt = 1 + r_530.toInt := xI_add rfl rfl ey_537 ((by first | exact ok_1174 f_535.1 | omega)) ((by first | exact ok_1175 f_535.2 | omega))
                  refine S_calli (va_runS (As := [.int y_526, .int y_537]) (rest := [.int y_524, .ref (a 99)]) ⟨hx, hb, hml, hown, hts⟩ (n_lesser l D k A a z G_531 y_526 y_537 ) (va_cwS 2 hts (gd_S hgd m1863 m1864 m131 m1865) rfl rfl rfl hd_X12_lesser.2 ⟨Nat.le_of_ble_eq_true rfl, Nat.le_of_ble_eq_true rfl⟩) (pre_S hW hB_G_531 hK hZ hS) rfl rfl hl.1 rfl (lv_room (Nat.le_of_ble_eq_true rfl)) dX12_layNeed_157 ⟨Nat.le_of_ble_eq_true rfl, Nat.le_of_ble_eq_true rfl⟩) hS (fun r_538 G_539 H locs hpo hW hS => ?_)
                  have hX_542 : Q_lesser y_526 y_537 G_531 r_538 G_539 := hpo
                  obtain ⟨hB_G_539, hq_540, hp_541, -⟩ := hpo
                  have hF := hF.call9 hq_540 rfl rfl
                  refine S_iast hx hb hK hW hS kd_99 (vin ((by first | exact ok_1182 ha_p0.1 ty_1 ty_2 ty_3 c_373 ty_524 | omega)) ((by first | exact ok_1159 ha_p0.2 ha_p1.2 ty_1 ty_2 ty_3 ty_524 | omega))) dX12_layNeed_160 (fun G_543 H locs eG_543 hW hS => ?_)
                  have hB_G_543 : Bd G_543 := hB_G_539.put (V := r_538.toInt) (lo := 0) (hi := 100000) eG_543 rfl rfl rfl ((by first | exact ok_1176 ty_526.1 f_535.1 ty_537 hp_541.2.2 | omega)) ((by first | exact ok_1169 ty_526.2 hp_541.1 | omega)) (hB_G_539.2.put eG_543 rfl)
                  have hF := hF.put eG_543 (Or.inl (by decide))
                  refine lv_aload_n hx hb dX12_layNeed_161 rfl (lv_at hl 3 rfl) ?_
                  refine S_getR (n := 99) (C := RX12) (T := TX12) (N := 89) hx hb hg iX12 hown hK hW kd_66 rfl 64 (lt_b rfl) (hg (Cond.fieldLink RX12 118 "SlabWalkModel" "need" "[I") m1378) (fun _ h9 => h9) rfl dX12_layNeed_162 ?_
                  refine lv_iload_n hx hb dX12_layNeed_165 rfl (lv_at hl 2 rfl) ?_
                  refine ic_2 hx hb dX12_layNeed_166 ?_
                  refine lv_iadd hx hb dX12_layNeed_167 ?_
                  refine lv_topi (fun y_544 ey_544 => ?_)
                  have ty_544 : y_544.toInt = y_3.toInt + 2 := xI_add rfl rfl ey_544 ((by first | exact ok_1183 ha_p0.1 ty_1 ty_2 ty_3 c_373 | omega)) ((by first | exact ok_1161 ha_p0.2 ha_p1.2 ty_1 ty_2 ty_3 | omega))
                  refine lv_aload_n hx hb dX12_layNeed_168 rfl (lv_at hl 3 rfl) ?_
                  refine S_getR (n := 99) (C := RX12) (T := TX12) (N := 89) hx hb hg iX12 hown hK hW kd_66 rfl 64 (lt_b rfl) (hg (Cond.fieldLink RX12 118 "SlabWalkModel" "need" "[I") m1378) (fun _ h9 => h9) rfl dX12_layNeed_169 ?_
                  refine lv_iload_n hx hb dX12_layNeed_172 rfl (lv_at hl 2 rfl) ?_
                  refine ic_2 hx hb dX12_layNeed_173 ?_
                  refine lv_iadd hx hb dX12_layNeed_174 ?_
                  refine lv_topi (fun y_545 ey_545 => ?_)
                  have ty_545 : y_545.toInt = y_3.toInt + 2 := xI_add rfl rfl ey_545 ((by first | exact ok_1183 ha_p0.1 ty_1 ty_2 ty_3 c_373 | omega)) ((by first | exact ok_1161 ha_p0.2 ha_p1.2 ty_1 ty_2 ty_3 | omega))
                  refine S_iald hx hb hK hW kd_99 (vin ((by first | exact ok_1184 ha_p0.1 ty_1 ty_2 ty_3 c_373 ty_545 | omega)) ((by first | exact ok_1163 ha_p0.2 ha_p1.2 ty_1 ty_2 ty_3 ty_545 | omega))) dX12_layNeed_175 (fun y_546 ey_546 => ?_)
                  have ty_546 : 0 ≤ y_546.toInt ∧ y_546.toInt ≤ 100000 := bv_99 hB_G_543 ey_546
                  have u_547 : y_546.toInt = (G_543.1 99 y_545.toNatClampNeg).toInt := congrArg Int32.toInt (ey_546)
                  have hn2_ : y_546.toInt = ndv (G_543.1 99) p0.toInt p1.toInt 2 := (ndv_at (f := G_543.1 99) (x := y_545) ((by first | exact ok_1165 ty_1 ty_2 ty_3 ty_545 | omega)) (congrArg Int32.toInt ey_546)).trans (ndv_eq (show G_543.1 99 = G_543.1 99 from (funext fun j => ((fun (j : Nat) (_ : True) => rfl)) j trivial)) rfl rfl)
                  refine ic_1 hx hb dX12_layNeed_176 ?_
                  refine lv_aload_n hx hb dX12_layNeed_177 rfl (lv_at hl 3 rfl) ?_
                  refine lv_iload_n hx hb dX12_layNeed_178 rfl (lv_at hl 4 rfl) ?_
                  refine lv_iload hx hb dX12_layNeed_179 (lv_at hl 1 rfl) ?_
                  refine lv_iadd hx hb dX12_layNeed_181 ?_
                  refine lv_topi (fun y_548 ey_548 => ?_)
                  have ty_548 : y_548.toInt = p0.toInt + x_365.toInt := xI_add rfl rfl ey_548 ((by first | exact ok_252 ha_p0.1 f_367.1 | omega)) ((by first | exact ok_1171 ha_p0.2 f_367.2 | omega))
                  refine lv_iload hx hb dX12_layNeed_182 (lv_at hl 0 rfl) ?_
                  refine ic_1 hx hb dX12_layNeed_184 ?_
                  have qc_549 : (1 : Int32).toInt = 1 := rfl
                  refine S_calli (va_runV (As := [.int y_548, .int r_518, .int 1]) (rest := [.int 1, .int y_546, .int y_544, .ref (a 99)]) ⟨hx, hb, hml, hown, hts⟩ (n_needOf l D k A a z G_543 y_548 r_518 1 ⟨(by first | exact ok_254 ha_p0.1 f_367.1 ty_548 | omega), (by first | (clear h400 d_20 d_23 hn_372 b_512 g_513 u_536; omega) | omega)⟩ ⟨(by first | exact f_523.1 | omega), (by first | exact f_523.2 | omega)⟩ ⟨by decide, by decide⟩) (cwV 3 hts (gd_V hgd m1859 m1861 m96 m131 m1862) rfl rfl rfl hd_X12_needOf ⟨Nat.le_of_ble_eq_true rfl, Nat.le_of_ble_eq_true rfl⟩) (pre_W hW hB_G_543 hK hZ hS kd_66 rfl) rfl rfl hl.1 rfl (lv_room (Nat.le_of_ble_eq_true rfl)) dX12_layNeed_185 ⟨Nat.le_of_ble_eq_true rfl, Nat.le_of_ble_eq_true rfl⟩) hS (fun r_550 G_551 H locs hpo hW hS => ?_)
                  have hX_554 : Q_needOf y_548 r_518 1 G_543 r_550 G_551 := hpo
                  obtain ⟨hB_G_551, hq_552, f_555, hp_553, -⟩ := hpo
                  have hF := hF.call9 hq_552 rfl rfl
                  have u_556 := trI_v x_365.toInt (G.1 66 62).toInt
                  have d_36 := u_556.1
                  have d_37 := u_556.2 c_516
                  have hm1_ : r_550.toInt = ndv (G_543.1 99) (p0.toInt + x_365.toInt) (trI x_365.toInt (G.1 66 62).toInt) 1 := hp_553.trans (ndv_eq (show G_543.1 99 = G_543.1 99 from (funext fun j => ((fun (j : Nat) (_ : True) => rfl)) j trivial)) ((by first | exact ty_548 | omega)) ((by first | exact ok_1173 qc_517 f_523.1 f_523.2 hp_521 d_35 | omega)))
                  refine lv_iadd hx hb dX12_layNeed_188 ?_
                  refine lv_topi (fun y_557 ey_557 => ?_)
                  have ty_557 : y_557.toInt = 1 + r_550.toInt := xI_add rfl rfl ey_557 ((by first | exact ok_1174 f_555.1 | omega)) ((by first | exact ok_1175 f_555.2 | omega))
                  refine S_calli (va_runS (As := [.int y_546, .int y_557]) (rest := [.int y_544, .ref (a 99)]) ⟨hx, hb, hml, hown, hts⟩ (n_lesser l D k A a z G_551 y_546 y_557 ) (va_cwS 2 hts (gd_S hgd m1863 m1864 m131 m1865) rfl rfl rfl hd_X12_lesser.2 ⟨Nat.le_of_ble_eq_true rfl, Nat.le_of_ble_eq_true rfl⟩) (pre_S hW hB_G_551 hK hZ hS) rfl rfl hl.1 rfl (lv_room (Nat.le_of_ble_eq_true rfl)) dX12_layNeed_189 ⟨Nat.le_of_ble_eq_true rfl, Nat.le_of_ble_eq_true rfl⟩) hS (fun r_558 G_559 H locs hpo hW hS => ?_)
                  have hX_562 : Q_lesser y_546 y_557 G_551 r_558 G_559 := hpo
                  obtain ⟨hB_G_559, hq_560, hp_561, -⟩ := hpo
                  have hF := hF.call9 hq_560 rfl rfl
                  refine S_iast hx hb hK hW hS kd_99 (vin ((by first | exact ok_1184 ha_p0.1 ty_1 ty_2 ty_3 c_373 ty_544 | omega)) ((by first | exact ok_1163 ha_p0.2 ha_p1.2 ty_1 ty_2 ty_3 ty_544 | omega))) dX12_layNeed_192 (fun G_563 H locs eG_563 hW hS => ?_)
                  have hB_G_563 : Bd G_563 := hB_G_559.put (V := r_558.toInt) (lo := 0) (hi := 100000) eG_563 rfl rfl rfl ((by first | exact ok_1176 ty_546.1 f_555.1 ty_557 hp_561.2.2 | omega)) ((by first | exact ok_1169 ty_546.2 hp_561.1 | omega)) (hB_G_559.2.put eG_563 rfl)
                  have hF := hF.put eG_563 (Or.inl (by decide))
                  have hpa_ : PR (G_539.1 99) (G.1 98) (G.1 66 61).toInt (G.1 66 62).toInt (G.1 66 63).toInt (p0.toInt) (p1.toInt) := by rw [show G_539.1 99 = G_361.1 99 from (funext fun j => ((fun (j : Nat) (_ : True) => ((hq_540.ri9 99 rfl j).trans ((hq_532.ri9 99 rfl j).trans (hq_520.ri9 99 rfl j))))) j trivial)]; exact (show PR (G_361.1 99) (G.1 98) (G.1 66 61).toInt (G.1 66 62).toInt (G.1 66 63).toInt (p0.toInt) (p1.toInt) by assumption)
                  have hpb_ : PR (G_543.1 99) (G.1 98) (G.1 66 61).toInt (G.1 66 62).toInt (G.1 66 63).toInt (p0.toInt) (p1.toInt) := PR_put (i := 1) eG_543 ((by first | exact ok_1164 ty_1 ty_2 ty_3 ty_524 | omega)) ((by first | exact ha_p0.1 | omega)) ((by first | exact ⟨(by first | exact ha_p1.1 | omega), (by first | exact ha_p1.2 | omega)⟩ | omega)) (by first | (clear h400 d_20 d_23 hn_372 b_512 g_513 u_536 u_556; omega) | omega) hle1 hpa_
                  have hpc_ : PR (G_559.1 99) (G.1 98) (G.1 66 61).toInt (G.1 66 62).toInt (G.1 66 63).toInt (p0.toInt) (p1.toInt) := by rw [show G_559.1 99 = G_543.1 99 from (funext fun j => ((fun (j : Nat) (_ : True) => ((hq_560.ri9 99 rfl j).trans (hq_552.ri9 99 rfl j)))) j trivial)]; exact hpb_
                  have hpN_ : PR (G_563.1 99) (G.1 98) (G.1 66 61).toInt (G.1 66 62).toInt (G.1 66 63).toInt (p0.toInt) (p1.toInt) := PR_put (i := 2) eG_563 ((by first | exact ok_1165 ty_1 ty_2 ty_3 ty_544 | omega)) ((by first | exact ha_p0.1 | omega)) ((by first | exact ⟨(by first | exact ha_p1.1 | omega), (by first | exact ha_p1.2 | omega)⟩ | omega)) (by first | (clear h400 d_20 d_23 hn_372 b_512 g_513 u_536 u_556; omega) | omega) hle1 hpc_
                  have hja_ : NJ (G_539.1 99) (G.1 98) (G.1 66 61).toInt (G.1 66 62).toInt p0.toInt p1.toInt (x_365.toInt) := by rw [show G_539.1 99 = G_361.1 99 from (funext fun j => ((fun (j : Nat) (_ : True) => ((hq_540.ri9 99 rfl j).trans ((hq_532.ri9 99 rfl j).trans (hq_520.ri9 99 rfl j))))) j trivial)]; exact (show NJ (G_361.1 99) (G.1 98) (G.1 66 61).toInt (G.1 66 62).toInt p0.toInt p1.toInt (x_365.toInt) by assumption)
                  have hnN_ : NJ (G_563.1 99) (G.1 98) (G.1 66 61).toInt (G.1 66 62).toInt p0.toInt p1.toInt (x_365.toInt + 1) := NJ_step_ hja_ eG_543 (by first | (clear h400 d_20 d_23 hn_372 b_512 g_513 u_536 u_556; omega) | omega) (show G_559.1 99 = G_543.1 99 from (funext fun j => ((fun (j : Nat) (_ : True) => ((hq_560.ri9 99 rfl j).trans (hq_552.ri9 99 rfl j)))) j trivial)) eG_563 (by first | (clear h400 d_20 d_23 hn_372 b_512 g_513 u_536 u_556; omega) | omega) (by first | (clear h400 d_20 d_23 hn_372 b_512 g_513 u_536 u_556; omega) | omega) (by first | (clear h400 d_20 d_23 hn_372 b_512 g_513 u_536 u_556; omega) | omega) hle1 (by first | (clear h400 d_20 d_23 hn_372 b_512 g_513 u_536 u_556; omega) | omega) ((lw_iff (x := y_509) (y := y_510) (by first | (clear h400 d_20 d_23 hn_372 b_512 g_513 u_536 u_556; omega) | omega) (by first | (clear h400 d_20 d_23 hn_372 b_512 g_513 u_536 u_556; omega) | omega)).mpr (by first | (clear h400 d_20 d_23 hn_372 b_512 g_513 u_536 u_556; omega) | omega)) (hn1_.trans (by rw [show G_539.1 99 = G_361.1 99 from (funext fun j => ((fun (j : Nat) (_ : True) => ((hq_540.ri9 99 rfl j).trans ((hq_532.ri9 99 rfl j).trans (hq_520.ri9 99 rfl j))))) j trivial)])) hn2_ (hm2_.trans (by rw [show G_539.1 99 = G_361.1 99 from (funext fun j => ((fun (j : Nat) (_ : True) => ((hq_540.ri9 99 rfl j).trans ((hq_532.ri9 99 rfl j).trans (hq_520.ri9 99 rfl j))))) j trivial)])) hm1_ (by first | (clear h400 d_20 d_23 hn_372 b_512 g_513 u_536 u_556; omega) | omega) (by first | (clear h400 d_20 d_23 hn_372 b_512 g_513 u_536 u_556; omega) | omega) (by first | (clear h400 d_20 d_23 hn_372 b_512 g_513 u_536 u_556; omega) | omega) (by first | (clear h400 d_20 d_23 hn_372 b_512 g_513 u_536 u_556; omega) | omega) (by first | (clear h400 d_20 d_23 hn_372 b_512 g_513 u_536 u_556; omega) | omega) (by first | (clear h400 d_20 d_23 hn_372 b_512 g_513 u_536 u_556; omega) | omega)
                  obtain ⟨y_564, ey_564⟩ : ∃ q, q = x_365 + 1 := ⟨_, rfl⟩
                  have ty_564 : y_564.toInt = x_365.toInt + 1 := xI_add rfl rfl ey_564 ((by first | exact ok_237 f_367.1 | omega)) ((by first | exact ok_134 f_367.2 | omega))
                  refine lv_iinc (v := y_564) (lv' := [(4, .int y_564), (5, .int r_518), (3, .int y_3), (0, .ref (a 66)), (1, .int p0), (2, .int p1)]) hx hb dX12_layNeed_193 hl (k := 1) rfl (by rw [ey_564]; rfl) (lt_b rfl) rfl (fun ls hl => ?_)
                  have hj_565 : NJ (G_563.1 99) (G.1 98) (G.1 66 61).toInt (G.1 66 62).toInt p0.toInt p1.toInt (y_564.toInt) := by rw [ty_564]; exact hnN_
                  refine lv_goto (tgt := 74) hx hb dX12_layNeed_196 rfl ?_
                  exact ih_363 (100 - y_564.toInt : Int).toNat ((by first | (clear h400 d_20 d_23 b_512 g_513 u_536 u_556; omega) | omega)) _ _ _ ⟨G_563, y_564, (Int.toNat_of_nonneg ((by first | exact ok_1177 b_339.2 f_367.2 c_496 ty_564 | omega))), ⟨(by first | exact ok_240 f_367.1 ty_564 | omega), (by first | exact ok_1178 b_339.2 f_367.2 c_496 ty_564 | omega)⟩, (by assumption), (by assumption), ((by first | exact ok_1093 f_370 ty_564 | omega)), ((by first | exact ok_1186 hml9.2 f_371 c_496 ty_564 | omega)), (hX_366.st (St_n_layNeed_2_mk ⟨x_365, G_361, y_564, G_563, rfl, rfl, f_367, f_368, f_369, f_370, f_371, hB_G_361, (Or.inl ⟨c_373, ⟨c_496, ⟨y_509, ty_509, ⟨y_510, ey_510, (Or.inr ⟨c_515, (Or.inl ⟨c_516, ⟨r_518, G_519, hX_522, ⟨y_524, ty_524, ⟨y_525, ty_525, ⟨y_526, ey_526, ⟨y_528, ty_528, ⟨r_530, G_531, hX_534, ⟨y_537, ty_537, ⟨r_538, G_539, hX_542, ⟨y_544, ty_544, ⟨y_545, ty_545, ⟨y_546, ey_546.trans (congrFun (rw_ast eG_543) _), ⟨y_548, ty_548, ⟨G_543, hB_G_543, (Fr.put (rs := [99]) (fs := []) Fr.rf eG_543 (Or.inl (by decide))), rw_ast eG_543, ⟨r_550, G_551, hX_554, ⟨y_557, ty_557, ⟨r_558, G_559, hX_562, ⟨y_564, ty_564, ⟨rfl, (Fr.put (rs := [99]) (fs := []) Fr.rf eG_563 (Or.inl (by decide))), rw_ast eG_563⟩⟩⟩⟩⟩⟩⟩⟩⟩⟩⟩⟩⟩⟩⟩⟩⟩⟩⟩)⟩)⟩⟩⟩⟩)⟩)), hW, hB_G_563, hF, (Fr.put (rs := [99]) (fs := []) (Fr.call9 (rs := [99]) (fs := []) (Fr.call9 (rs := [99]) (fs := []) (Fr.put (rs := [99]) (fs := []) (Fr.call9 (rs := [99]) (fs := []) (Fr.call9 (rs := [99]) (fs := []) (Fr.call9 (rs := [99]) (fs := []) (Fr.call9 (rs := [99]) (fs := []) Fr.rf hq_362 rfl rfl) hq_520 rfl rfl) hq_532 rfl rfl) hq_540 rfl rfl) eG_543 (Or.inl (by decide))) hq_552 rfl rfl) hq_560 rfl rfl) eG_563 (Or.inl (by decide))), hS, lv_sub hl [0, 2, 3, 4, 5] rfl⟩
                · have c_516 : (G.1 66 62).toInt < x_365.toInt := xI_nle rfl rfl c_516
                  refine ic_1 hx hb dX12_layNeed_119 ?_
                  refine lv_goto (tgt := 124) hx hb dX12_layNeed_120 rfl ?_
                  have qc_566 : (1 : Int32).toInt = 1 := rfl
                  refine S_calli (va_runS (As := [.int 1]) (rest := []) ⟨hx, hb, hml, hown, hts⟩ (n_truth l D k A a z G_361 1 ⟨by decide, by decide⟩) (va_cwS 1 hts (gd_S hgd m1788 m1789 m131 m1790) rfl rfl rfl hd_X12_truth.2 ⟨Nat.le_of_ble_eq_true rfl, Nat.le_of_ble_eq_true rfl⟩) (pre_S hW hB_G_361 hK hZ hS) rfl rfl hl.1 rfl (lv_room (Nat.le_of_ble_eq_true rfl)) dX12_layNeed_124 ⟨Nat.le_of_ble_eq_true rfl, Nat.le_of_ble_eq_true rfl⟩) hS (fun r_567 G_568 H locs hpo hW hS => ?_)
                  have hX_571 : Q_truth 1 G_361 r_567 G_568 := hpo
                  obtain ⟨hB_G_568, hq_569, f_572, hp_570, -⟩ := hpo
                  have hF := hF.call9 hq_569 rfl rfl
                  refine lv_istore (lv' := [(5, .int r_567), (4, .int x_365), (3, .int y_3), (0, .ref (a 66)), (1, .int p0), (2, .int p1)]) hx hb dX12_layNeed_127 hl (lt_b rfl) rfl (fun ls hl => ?_)
                  refine lv_aload_n hx hb dX12_layNeed_129 rfl (lv_at hl 3 rfl) ?_
                  refine S_getR (n := 99) (C := RX12) (T := TX12) (N := 89) hx hb hg iX12 hown hK hW kd_66 rfl 64 (lt_b rfl) (hg (Cond.fieldLink RX12 118 "SlabWalkModel" "need" "[I") m1378) (fun _ h9 => h9) rfl dX12_layNeed_130 ?_
                  refine lv_iload_n hx hb dX12_layNeed_133 rfl (lv_at hl 2 rfl) ?_
                  refine ic_1 hx hb dX12_layNeed_134 ?_
                  refine lv_iadd hx hb dX12_layNeed_135 ?_
                  refine lv_topi (fun y_573 ey_573 => ?_)
                  have ty_573 : y_573.toInt = y_3.toInt + 1 := xI_add rfl rfl ey_573 ((by first | exact ok_1181 ha_p0.1 ty_1 ty_2 ty_3 c_373 | omega)) ((by first | exact ok_1157 ha_p0.2 ha_p1.2 ty_1 ty_2 ty_3 | omega))
                  refine lv_aload_n hx hb dX12_layNeed_136 rfl (lv_at hl 3 rfl) ?_
                  refine S_getR (n := 99) (C := RX12) (T := TX12) (N := 89) hx hb hg iX12 hown hK hW kd_66 rfl 64 (lt_b rfl) (hg (Cond.fieldLink RX12 118 "SlabWalkModel" "need" "[I") m1378) (fun _ h9 => h9) rfl dX12_layNeed_137 ?_
                  refine lv_iload_n hx hb dX12_layNeed_140 rfl (lv_at hl 2 rfl) ?_
                  refine ic_1 hx hb dX12_layNeed_141 ?_
                  refine lv_iadd hx hb dX12_layNeed_142 ?_
                  refine lv_topi (fun y_574 ey_574 => ?_)
                  have ty_574 : y_574.toInt = y_3.toInt + 1 := xI_add rfl rfl ey_574 ((by first | exact ok_1181 ha_p0.1 ty_1 ty_2 ty_3 c_373 | omega)) ((by first | exact ok_1157 ha_p0.2 ha_p1.2 ty_1 ty_2 ty_3 | omega))
                  refine S_iald hx hb hK hW kd_99 (vin ((by first | exact ok_1182 ha_p0.1 ty_1 ty_2 ty_3 c_373 ty_574 | omega)) ((by first | exact ok_1159 ha_p0.2 ha_p1.2 ty_1 ty_2 ty_3 ty_574 | omega))) dX12_layNeed_143 (fun y_575 ey_575 => ?_)
                  have ty_575 : 0 ≤ y_575.toInt ∧ y_575.toInt ≤ 100000 := bv_99 hB_G_568 ey_575
                  have u_576 : y_575.toInt = (G_361.1 99 y_574.toNatClampNeg).toInt := congrArg Int32.toInt (ey_575.trans ((hq_569.ri9 99 rfl y_574.toNatClampNeg)))
                  have hn1_ : y_575.toInt = ndv (G_361.1 99) p0.toInt p1.toInt 1 := (ndv_at (f := G_568.1 99) (x := y_574) ((by first | exact ok_1164 ty_1 ty_2 ty_3 ty_574 | omega)) (congrArg Int32.toInt ey_575)).trans (ndv_eq (show G_568.1 99 = G_361.1 99 from (funext fun j => ((fun (j : Nat) (_ : True) => (hq_569.ri9 99 rfl j))) j trivial)) rfl rfl)
                  refine ic_1 hx hb dX12_layNeed_144 ?_
                  refine lv_aload_n hx hb dX12_layNeed_145 rfl (lv_at hl 3 rfl) ?_
                  refine lv_iload_n hx hb dX12_layNeed_146 rfl (lv_at hl 4 rfl) ?_
                  refine lv_iload hx hb dX12_layNeed_147 (lv_at hl 1 rfl) ?_
                  refine lv_iadd hx hb dX12_layNeed_149 ?_
                  refine lv_topi (fun y_577 ey_577 => ?_)
                  have ty_577 : y_577.toInt = p0.toInt + x_365.toInt := xI_add rfl rfl ey_577 ((by first | exact ok_252 ha_p0.1 f_367.1 | omega)) ((by first | exact ok_1171 ha_p0.2 f_367.2 | omega))
                  refine lv_iload hx hb dX12_layNeed_150 (lv_at hl 0 rfl) ?_
                  refine ic_2 hx hb dX12_layNeed_152 ?_
                  have qc_578 : (2 : Int32).toInt = 2 := rfl
                  refine S_calli (va_runV (As := [.int y_577, .int r_567, .int 2]) (rest := [.int 1, .int y_575, .int y_573, .ref (a 99)]) ⟨hx, hb, hml, hown, hts⟩ (n_needOf l D k A a z G_568 y_577 r_567 2 ⟨(by first | exact ok_254 ha_p0.1 f_367.1 ty_577 | omega), (by first | exact ok_1189 d_22 b_335.2 b_337.1 c_496 c_516 ty_577 | omega)⟩ ⟨(by first | exact f_572.1 | omega), (by first | exact f_572.2 | omega)⟩ ⟨by decide, by decide⟩) (cwV 3 hts (gd_V hgd m1859 m1861 m96 m131 m1862) rfl rfl rfl hd_X12_needOf ⟨Nat.le_of_ble_eq_true rfl, Nat.le_of_ble_eq_true rfl⟩) (pre_W hW hB_G_568 hK hZ hS kd_66 rfl) rfl rfl hl.1 rfl (lv_room (Nat.le_of_ble_eq_true rfl)) dX12_layNeed_153 ⟨Nat.le_of_ble_eq_true rfl, Nat.le_of_ble_eq_true rfl⟩) hS (fun r_579 G_580 H locs hpo hW hS => ?_)
                  have hX_583 : Q_needOf y_577 r_567 2 G_568 r_579 G_580 := hpo
                  obtain ⟨hB_G_580, hq_581, f_584, hp_582, -⟩ := hpo
                  have hF := hF.call9 hq_581 rfl rfl
                  have u_585 := trI_v x_365.toInt (G.1 66 62).toInt
                  have d_38 := u_585.1 c_516
                  have d_39 := u_585.2 c_496
                  have hm2_ : r_579.toInt = ndv (G_361.1 99) (p0.toInt + x_365.toInt) (trI x_365.toInt (G.1 66 62).toInt) 2 := hp_582.trans (ndv_eq (show G_568.1 99 = G_361.1 99 from (funext fun j => ((fun (j : Nat) (_ : True) => (hq_569.ri9 99 rfl j))) j trivial)) ((by first | exact ty_577 | omega)) ((by first | exact ok_1188 f_572.1 f_572.2 d_38 d_39 | omega)))
                  refine lv_iadd hx hb dX12_layNeed_156 ?_
                  refine lv_topi (fun y_586 ey_586 => ?_)
                  have ty_586 : y_586.toInt = 1 + r_579.toInt := xI_add rfl rfl ey_586 ((by first | exact ok_1174 f_584.1 | omega)) ((by first | exact ok_1175 f_584.2 | omega))
                  refine S_calli (va_runS (As := [.int y_575, .int y_586]) (rest := [.int y_573, .ref (a 99)]) ⟨hx, hb, hml, hown, hts⟩ (n_lesser l D k A a z G_580 y_575 y_586 ) (va_cwS 2 hts (gd_S hgd m1863 m1864 m131 m1865) rfl rfl rfl hd_X12_lesser.2 ⟨Nat.le_of_ble_eq_true rfl, Nat.le_of_ble_eq_true rfl⟩) (pre_S hW hB_G_580 hK hZ hS) rfl rfl hl.1 rfl (lv_room (Nat.le_of_ble_eq_true rfl)) dX12_layNeed_157 ⟨Nat.le_of_ble_eq_true rfl, Nat.le_of_ble_eq_true rfl⟩) hS (fun r_587 G_588 H locs hpo hW hS => ?_)
                  have hX_591 : Q_lesser y_575 y_586 G_580 r_587 G_588 := hpo
                  obtain ⟨hB_G_588, hq_589, hp_590, -⟩ := hpo
                  have hF := hF.call9 hq_589 rfl rfl
                  refine S_iast hx hb hK hW hS kd_99 (vin ((by first | exact ok_1182 ha_p0.1 ty_1 ty_2 ty_3 c_373 ty_573 | omega)) ((by first | exact ok_1159 ha_p0.2 ha_p1.2 ty_1 ty_2 ty_3 ty_573 | omega))) dX12_layNeed_160 (fun G_592 H locs eG_592 hW hS => ?_)
                  have hB_G_592 : Bd G_592 := hB_G_588.put (V := r_587.toInt) (lo := 0) (hi := 100000) eG_592 rfl rfl rfl ((by first | exact ok_1176 ty_575.1 f_584.1 ty_586 hp_590.2.2 | omega)) ((by first | exact ok_1169 ty_575.2 hp_590.1 | omega)) (hB_G_588.2.put eG_592 rfl)
                  have hF := hF.put eG_592 (Or.inl (by decide))
                  refine lv_aload_n hx hb dX12_layNeed_161 rfl (lv_at hl 3 rfl) ?_
                  refine S_getR (n := 99) (C := RX12) (T := TX12) (N := 89) hx hb hg iX12 hown hK hW kd_66 rfl 64 (lt_b rfl) (hg (Cond.fieldLink RX12 118 "SlabWalkModel" "need" "[I") m1378) (fun _ h9 => h9) rfl dX12_layNeed_162 ?_
                  refine lv_iload_n hx hb dX12_layNeed_165 rfl (lv_at hl 2 rfl) ?_
                  refine ic_2 hx hb dX12_layNeed_166 ?_
                  refine lv_iadd hx hb dX12_layNeed_167 ?_
                  refine lv_topi (fun y_593 ey_593 => ?_)
                  have ty_593 : y_593.toInt = y_3.toInt + 2 := xI_add rfl rfl ey_593 ((by first | exact ok_1183 ha_p0.1 ty_1 ty_2 ty_3 c_373 | omega)) ((by first | exact ok_1161 ha_p0.2 ha_p1.2 ty_1 ty_2 ty_3 | omega))
                  refine lv_aload_n hx hb dX12_layNeed_168 rfl (lv_at hl 3 rfl) ?_
                  refine S_getR (n := 99) (C := RX12) (T := TX12) (N := 89) hx hb hg iX12 hown hK hW kd_66 rfl 64 (lt_b rfl) (hg (Cond.fieldLink RX12 118 "SlabWalkModel" "need" "[I") m1378) (fun _ h9 => h9) rfl dX12_layNeed_169 ?_
                  refine lv_iload_n hx hb dX12_layNeed_172 rfl (lv_at hl 2 rfl) ?_
                  refine ic_2 hx hb dX12_layNeed_173 ?_
                  refine lv_iadd hx hb dX12_layNeed_174 ?_
                  refine lv_topi (fun y_594 ey_594 => ?_)
                  have ty_594 : y_594.toInt = y_3.toInt + 2 := xI_add rfl rfl ey_594 ((by first | exact ok_1183 ha_p0.1 ty_1 ty_2 ty_3 c_373 | omega)) ((by first | exact ok_1161 ha_p0.2 ha_p1.2 ty_1 ty_2 ty_3 | omega))
                  refine S_iald hx hb hK hW kd_99 (vin ((by first | exact ok_1184 ha_p0.1 ty_1 ty_2 ty_3 c_373 ty_594 | omega)) ((by first | exact ok_1163 ha_p0.2 ha_p1.2 ty_1 ty_2 ty_3 ty_594 | omega))) dX12_layNeed_175 (fun y_595 ey_595 => ?_)
                  have ty_595 : 0 ≤ y_595.toInt ∧ y_595.toInt ≤ 100000 := bv_99 hB_G_592 ey_595
                  have u_596 : y_595.toInt = (G_592.1 99 y_594.toNatClampNeg).toInt := congrArg Int32.toInt (ey_595)
                  have hn2_ : y_595.toInt = ndv (G_592.1 99) p0.toInt p1.toInt 2 := (ndv_at (f := G_592.1 99) (x := y_594) ((by first | exact ok_1165 ty_1 ty_2 ty_3 ty_594 | omega)) (congrArg Int32.toInt ey_595)).trans (ndv_eq (show G_592.1 99 = G_592.1 99 from (funext fun j => ((fun (j : Nat) (_ : True) => rfl)) j trivial)) rfl rfl)
                  refine ic_1 hx hb dX12_layNeed_176 ?_
                  refine lv_aload_n hx hb dX12_layNeed_177 rfl (lv_at hl 3 rfl) ?_
                  refine lv_iload_n hx hb dX12_layNeed_178 rfl (lv_at hl 4 rfl) ?_
                  refine lv_iload hx hb dX12_layNeed_179 (lv_at hl 1 rfl) ?_
                  refine lv_iadd hx hb dX12_layNeed_181 ?_
                  refine lv_topi (fun y_597 ey_597 => ?_)
                  have ty_597 : y_597.toInt = p0.toInt + x_365.toInt := xI_add rfl rfl ey_597 ((by first | exact ok_252 ha_p0.1 f_367.1 | omega)) ((by first | exact ok_1171 ha_p0.2 f_367.2 | omega))
                  refine lv_iload hx hb dX12_layNeed_182 (lv_at hl 0 rfl) ?_
                  refine ic_1 hx hb dX12_layNeed_184 ?_
                  have qc_598 : (1 : Int32).toInt = 1 := rfl
                  refine S_calli (va_runV (As := [.int y_597, .int r_567, .int 1]) (rest := [.int 1, .int y_595, .int y_593, .ref (a 99)]) ⟨hx, hb, hml, hown, hts⟩ (n_needOf l D k A a z G_592 y_597 r_567 1 ⟨(by first | exact ok_254 ha_p0.1 f_367.1 ty_597 | omega), (by first | exact ok_1189 d_22 b_335.2 b_337.1 c_496 c_516 ty_597 | omega)⟩ ⟨(by first | exact f_572.1 | omega), (by first | exact f_572.2 | omega)⟩ ⟨by decide, by decide⟩) (cwV 3 hts (gd_V hgd m1859 m1861 m96 m131 m1862) rfl rfl rfl hd_X12_needOf ⟨Nat.le_of_ble_eq_true rfl, Nat.le_of_ble_eq_true rfl⟩) (pre_W hW hB_G_592 hK hZ hS kd_66 rfl) rfl rfl hl.1 rfl (lv_room (Nat.le_of_ble_eq_true rfl)) dX12_layNeed_185 ⟨Nat.le_of_ble_eq_true rfl, Nat.le_of_ble_eq_true rfl⟩) hS (fun r_599 G_600 H locs hpo hW hS => ?_)
                  have hX_603 : Q_needOf y_597 r_567 1 G_592 r_599 G_600 := hpo
                  obtain ⟨hB_G_600, hq_601, f_604, hp_602, -⟩ := hpo
                  have hF := hF.call9 hq_601 rfl rfl
                  have u_605 := trI_v x_365.toInt (G.1 66 62).toInt
                  have d_40 := u_605.1 c_516
                  have d_41 := u_605.2 c_496
                  have hm1_ : r_599.toInt = ndv (G_592.1 99) (p0.toInt + x_365.toInt) (trI x_365.toInt (G.1 66 62).toInt) 1 := hp_602.trans (ndv_eq (show G_592.1 99 = G_592.1 99 from (funext fun j => ((fun (j : Nat) (_ : True) => rfl)) j trivial)) ((by first | exact ty_597 | omega)) ((by first | exact ok_1188 f_572.1 f_572.2 d_38 d_39 | omega)))
                  refine lv_iadd hx hb dX12_layNeed_188 ?_
                  refine lv_topi (fun y_606 ey_606 => ?_)
                  have ty_606 : y_606.toInt = 1 + r_599.toInt := xI_add rfl rfl ey_606 ((by first | exact ok_1174 f_604.1 | omega)) ((by first | exact ok_1175 f_604.2 | omega))
                  refine S_calli (va_runS (As := [.int y_595, .int y_606]) (rest := [.int y_593, .ref (a 99)]) ⟨hx, hb, hml, hown, hts⟩ (n_lesser l D k A a z G_600 y_595 y_606 ) (va_cwS 2 hts (gd_S hgd m1863 m1864 m131 m1865) rfl rfl rfl hd_X12_lesser.2 ⟨Nat.le_of_ble_eq_true rfl, Nat.le_of_ble_eq_true rfl⟩) (pre_S hW hB_G_600 hK hZ hS) rfl rfl hl.1 rfl (lv_room (Nat.le_of_ble_eq_true rfl)) dX12_layNeed_189 ⟨Nat.le_of_ble_eq_true rfl, Nat.le_of_ble_eq_true rfl⟩) hS (fun r_607 G_608 H locs hpo hW hS => ?_)
                  have hX_611 : Q_lesser y_595 y_606 G_600 r_607 G_608 := hpo
                  obtain ⟨hB_G_608, hq_609, hp_610, -⟩ := hpo
                  have hF := hF.call9 hq_609 rfl rfl
                  refine S_iast hx hb hK hW hS kd_99 (vin ((by first | exact ok_1184 ha_p0.1 ty_1 ty_2 ty_3 c_373 ty_593 | omega)) ((by first | exact ok_1163 ha_p0.2 ha_p1.2 ty_1 ty_2 ty_3 ty_593 | omega))) dX12_layNeed_192 (fun G_612 H locs eG_612 hW hS => ?_)
                  have hB_G_612 : Bd G_612 := hB_G_608.put (V := r_607.toInt) (lo := 0) (hi := 100000) eG_612 rfl rfl rfl ((by first | exact ok_1176 ty_595.1 f_604.1 ty_606 hp_610.2.2 | omega)) ((by first | exact ok_1169 ty_595.2 hp_610.1 | omega)) (hB_G_608.2.put eG_612 rfl)
                  have hF := hF.put eG_612 (Or.inl (by decide))
                  have hpa_ : PR (G_588.1 99) (G.1 98) (G.1 66 61).toInt (G.1 66 62).toInt (G.1 66 63).toInt (p0.toInt) (p1.toInt) := by rw [show G_588.1 99 = G_361.1 99 from (funext fun j => ((fun (j : Nat) (_ : True) => ((hq_589.ri9 99 rfl j).trans ((hq_581.ri9 99 rfl j).trans (hq_569.ri9 99 rfl j))))) j trivial)]; exact (show PR (G_361.1 99) (G.1 98) (G.1 66 61).toInt (G.1 66 62).toInt (G.1 66 63).toInt (p0.toInt) (p1.toInt) by assumption)
                  have hpb_ : PR (G_592.1 99) (G.1 98) (G.1 66 61).toInt (G.1 66 62).toInt (G.1 66 63).toInt (p0.toInt) (p1.toInt) := PR_put (i := 1) eG_592 ((by first | exact ok_1164 ty_1 ty_2 ty_3 ty_573 | omega)) ((by first | exact ha_p0.1 | omega)) ((by first | exact ⟨(by first | exact ha_p1.1 | omega), (by first | exact ha_p1.2 | omega)⟩ | omega)) (by first | (clear h400 d_20 d_23 hn_372 b_512 g_513 u_585 u_605; omega) | omega) hle1 hpa_
                  have hpc_ : PR (G_608.1 99) (G.1 98) (G.1 66 61).toInt (G.1 66 62).toInt (G.1 66 63).toInt (p0.toInt) (p1.toInt) := by rw [show G_608.1 99 = G_592.1 99 from (funext fun j => ((fun (j : Nat) (_ : True) => ((hq_609.ri9 99 rfl j).trans (hq_601.ri9 99 rfl j)))) j trivial)]; exact hpb_
                  have hpN_ : PR (G_612.1 99) (G.1 98) (G.1 66 61).toInt (G.1 66 62).toInt (G.1 66 63).toInt (p0.toInt) (p1.toInt) := PR_put (i := 2) eG_612 ((by first | exact ok_1165 ty_1 ty_2 ty_3 ty_593 | omega)) ((by first | exact ha_p0.1 | omega)) ((by first | exact ⟨(by first | exact ha_p1.1 | omega), (by first | exact ha_p1.2 | omega)⟩ | omega)) (by first | (clear h400 d_20 d_23 hn_372 b_512 g_513 u_585 u_605; omega) | omega) hle1 hpc_
                  have hja_ : NJ (G_588.1 99) (G.1 98) (G.1 66 61).toInt (G.1 66 62).toInt p0.toInt p1.toInt (x_365.toInt) := by rw [show G_588.1 99 = G_361.1 99 from (funext fun j => ((fun (j : Nat) (_ : True) => ((hq_589.ri9 99 rfl j).trans ((hq_581.ri9 99 rfl j).trans (hq_569.ri9 99 rfl j))))) j trivial)]; exact (show NJ (G_361.1 99) (G.1 98) (G.1 66 61).toInt (G.1 66 62).toInt p0.toInt p1.toInt (x_365.toInt) by assumption)
                  have hnN_ : NJ (G_612.1 99) (G.1 98) (G.1 66 61).toInt (G.1 66 62).toInt p0.toInt p1.toInt (x_365.toInt + 1) := NJ_step_ hja_ eG_592 (by first | (clear h400 d_20 d_23 hn_372 b_512 g_513 u_585 u_605; omega) | omega) (show G_608.1 99 = G_592.1 99 from (funext fun j => ((fun (j : Nat) (_ : True) => ((hq_609.ri9 99 rfl j).trans (hq_601.ri9 99 rfl j)))) j trivial)) eG_612 (by first | (clear h400 d_20 d_23 hn_372 b_512 g_513 u_585 u_605; omega) | omega) (by first | (clear h400 d_20 d_23 hn_372 b_512 g_513 u_585 u_605; omega) | omega) (by first | (clear h400 d_20 d_23 hn_372 b_512 g_513 u_585 u_605; omega) | omega) hle1 (by first | (clear h400 d_20 d_23 hn_372 b_512 g_513 u_585 u_605; omega) | omega) ((lw_iff (x := y_509) (y := y_510) (by first | (clear h400 d_20 d_23 hn_372 b_512 g_513 u_585 u_605; omega) | omega) (by first | (clear h400 d_20 d_23 hn_372 b_512 g_513 u_585 u_605; omega) | omega)).mpr (by first | (clear h400 d_20 d_23 hn_372 b_512 g_513 u_585 u_605; omega) | omega)) (hn1_.trans (by rw [show G_588.1 99 = G_361.1 99 from (funext fun j => ((fun (j : Nat) (_ : True) => ((hq_589.ri9 99 rfl j).trans ((hq_581.ri9 99 rfl j).trans (hq_569.ri9 99 rfl j))))) j trivial)])) hn2_ (hm2_.trans (by rw [show G_588.1 99 = G_361.1 99 from (funext fun j => ((fun (j : Nat) (_ : True) => ((hq_589.ri9 99 rfl j).trans ((hq_581.ri9 99 rfl j).trans (hq_569.ri9 99 rfl j))))) j trivial)])) hm1_ (by first | (clear h400 d_20 d_23 hn_372 b_512 g_513 u_585 u_605; omega) | omega) (by first | (clear h400 d_20 d_23 hn_372 b_512 g_513 u_585 u_605; omega) | omega) (by first | (clear h400 d_20 d_23 hn_372 b_512 g_513 u_585 u_605; omega) | omega) (by first | (clear h400 d_20 d_23 hn_372 b_512 g_513 u_585 u_605; omega) | omega) (by first | (clear h400 d_20 d_23 hn_372 b_512 g_513 u_585 u_605; omega) | omega) (by first | (clear h400 d_20 d_23 hn_372 b_512 g_513 u_585 u_605; omega) | omega)
                  obtain ⟨y_613, ey_613⟩ : ∃ q, q = x_365 + 1 := ⟨_, rfl⟩
                  have ty_613 : y_613.toInt = x_365.toInt + 1 := xI_add rfl rfl ey_613 ((by first | exact ok_237 f_367.1 | omega)) ((by first | exact ok_134 f_367.2 | omega))
                  refine lv_iinc (v := y_613) (lv' := [(4, .int y_613), (5, .int r_567), (3, .int y_3), (0, .ref (a 66)), (1, .int p0), (2, .int p1)]) hx hb dX12_layNeed_193 hl (k := 1) rfl (by rw [ey_613]; rfl) (lt_b rfl) rfl (fun ls hl => ?_)
                  have hj_614 : NJ (G_612.1 99) (G.1 98) (G.1 66 61).toInt (G.1 66 62).toInt p0.toInt p1.toInt (y_613.toInt) := by rw [ty_613]; exact hnN_
                  refine lv_goto (tgt := 74) hx hb dX12_layNeed_196 rfl ?_
                  exact ih_363 (100 - y_613.toInt : Int).toNat ((by first | (clear h400 d_20 d_23 b_512 g_513 u_585 u_605; omega) | omega)) _ _ _ ⟨G_612, y_613, (Int.toNat_of_nonneg ((by first | exact ok_1177 b_339.2 f_367.2 c_496 ty_613 | omega))), ⟨(by first | exact ok_240 f_367.1 ty_613 | omega), (by first | exact ok_1178 b_339.2 f_367.2 c_496 ty_613 | omega)⟩, (by assumption), (by assumption), ((by first | exact ok_1093 f_370 ty_613 | omega)), ((by first | exact ok_1186 hml9.2 f_371 c_496 ty_613 | omega)), (hX_366.st (St_n_layNeed_2_mk ⟨x_365, G_361, y_613, G_612, rfl, rfl, f_367, f_368, f_369, f_370, f_371, hB_G_361, (Or.inl ⟨c_373, ⟨c_496, ⟨y_509, ty_509, ⟨y_510, ey_510, (Or.inr ⟨c_515, (Or.inr ⟨c_516, ⟨r_567, G_568, hX_571, ⟨y_573, ty_573, ⟨y_574, ty_574, ⟨y_575, ey_575, ⟨y_577, ty_577, ⟨r_579, G_580, hX_583, ⟨y_586, ty_586, ⟨r_587, G_588, hX_591, ⟨y_593, ty_593, ⟨y_594, ty_594, ⟨y_595, ey_595.trans (congrFun (rw_ast eG_592) _), ⟨y_597, ty_597, ⟨G_592, hB_G_592, (Fr.put (rs := [99]) (fs := []) Fr.rf eG_592 (Or.inl (by decide))), rw_ast eG_592, ⟨r_599, G_600, hX_603, ⟨y_606, ty_606, ⟨r_607, G_608, hX_611, ⟨y_613, ty_613, ⟨rfl, (Fr.put (rs := [99]) (fs := []) Fr.rf eG_612 (Or.inl (by decide))), rw_ast eG_612⟩⟩⟩⟩⟩⟩⟩⟩⟩⟩⟩⟩⟩⟩⟩⟩⟩⟩⟩)⟩)⟩⟩⟩⟩)⟩)), hW, hB_G_612, hF, (Fr.put (rs := [99]) (fs := []) (Fr.call9 (rs := [99]) (fs := []) (Fr.call9 (rs := [99]) (fs := []) (Fr.put (rs := [99]) (fs := []) (Fr.call9 (rs := [99]) (fs := []) (Fr.call9 (rs := [99]) (fs := []) (Fr.call9 (rs := [99]) (fs := []) (Fr.call9 (rs := [99]) (fs := []) Fr.rf hq_362 rfl rfl) hq_569 rfl rfl) hq_581 rfl rfl) hq_589 rfl rfl) eG_592 (Or.inl (by decide))) hq_601 rfl rfl) hq_609 rfl rfl) eG_612 (Or.inl (by decide))), hS, lv_sub hl [0, 2, 3, 4, 5] rfl⟩
              · have c_515 : y_510.toInt = 0 := xI_eq rfl rfl c_515
                refine lv_goto (tgt := 193) hx hb dX12_layNeed_107 rfl ?_
                have hpN_ : PR (G_361.1 99) (G.1 98) (G.1 66 61).toInt (G.1 66 62).toInt (G.1 66 63).toInt (p0.toInt) (p1.toInt) := by rw [show G_361.1 99 = G_361.1 99 from (funext fun j => ((fun (j : Nat) (_ : True) => rfl)) j trivial)]; exact (show PR (G_361.1 99) (G.1 98) (G.1 66 61).toInt (G.1 66 62).toInt (G.1 66 63).toInt (p0.toInt) (p1.toInt) by assumption)
                have hnN_ : NJ (G_361.1 99) (G.1 98) (G.1 66 61).toInt (G.1 66 62).toInt p0.toInt p1.toInt (x_365.toInt + 1) := by rw [show G_361.1 99 = G_361.1 99 from (funext fun j => ((fun (j : Nat) (_ : True) => rfl)) j trivial)]; exact (NJ_skip (show NJ (G_361.1 99) (G.1 98) (G.1 66 61).toInt (G.1 66 62).toInt p0.toInt p1.toInt (x_365.toInt) by assumption) (fun q => by have q := (lw_iff (x := y_509) (y := y_510) (by first | (clear h400 d_20 d_23 hn_372 b_512 g_513; omega) | omega) (by first | (clear h400 d_20 d_23 hn_372 b_512 g_513; omega) | omega)).mp q; omega))
                obtain ⟨y_615, ey_615⟩ : ∃ q, q = x_365 + 1 := ⟨_, rfl⟩
                have ty_615 : y_615.toInt = x_365.toInt + 1 := xI_add rfl rfl ey_615 ((by first | exact ok_237 f_367.1 | omega)) ((by first | exact ok_134 f_367.2 | omega))
                refine lv_iinc (v := y_615) (lv' := [(4, .int y_615), (3, .int y_3), (0, .ref (a 66)), (1, .int p0), (2, .int p1)]) hx hb dX12_layNeed_193 hl (k := 0) rfl (by rw [ey_615]; rfl) (lt_b rfl) rfl (fun ls hl => ?_)
                have hj_616 : NJ (G_361.1 99) (G.1 98) (G.1 66 61).toInt (G.1 66 62).toInt p0.toInt p1.toInt (y_615.toInt) := by rw [ty_615]; exact hnN_
                refine lv_goto (tgt := 74) hx hb dX12_layNeed_196 rfl ?_
                exact ih_363 (100 - y_615.toInt : Int).toNat ((by first | (clear h400 d_20 d_23 b_512 g_513; omega) | omega)) _ _ _ ⟨G_361, y_615, (Int.toNat_of_nonneg ((by first | exact ok_1177 b_339.2 f_367.2 c_496 ty_615 | omega))), ⟨(by first | exact ok_240 f_367.1 ty_615 | omega), (by first | exact ok_1178 b_339.2 f_367.2 c_496 ty_615 | omega)⟩, (by assumption), (by assumption), ((by first | exact ok_1093 f_370 ty_615 | omega)), ((by first | exact ok_1186 hml9.2 f_371 c_496 ty_615 | omega)), (hX_366.st (St_n_layNeed_2_mk ⟨x_365, G_361, y_615, G_361, rfl, rfl, f_367, f_368, f_369, f_370, f_371, hB_G_361, (Or.inl ⟨c_373, ⟨c_496, ⟨y_509, ty_509, ⟨y_510, ey_510, (Or.inl ⟨c_515, ⟨y_615, ty_615, ⟨rfl, rfl⟩⟩⟩)⟩⟩⟩⟩)⟩)), hW, hB_G_361, hF, (Fr.call9 (rs := [99]) (fs := []) Fr.rf hq_362 rfl rfl), hS, lv_sub hl [0, 1, 2, 3, 4] rfl⟩
    · have c_315 : r_309.toInt ≠ 0 := xI_ne rfl rfl c_315
      refine ic_1 hx hb dX12_layNeed_32 ?_
      refine lv_goto (tgt := 39) hx hb dX12_layNeed_33 rfl ?_
      refine S_iast hx hb hK hW hS kd_99 (vin ((by first | exact ok_1158 ha_p0.1 ha_p1.1 ty_1 ty_2 ty_3 ty_4 | omega)) ((by first | exact ok_1159 ha_p0.2 ha_p1.2 ty_1 ty_2 ty_3 ty_4 | omega))) dX12_layNeed_39 (fun G_617 H locs eG_617 hW hS => ?_)
      have hB_G_617 : Bd G_617 := hB_G_310.put (V := 1) (lo := 0) (hi := 100000) eG_617 rfl rfl rfl (by decide) (by decide) (hB_G_310.2.put eG_617 rfl)
      have hF := hF.put eG_617 (Or.inl (by decide))
      refine lv_aload_n hx hb dX12_layNeed_40 rfl (lv_at hl 1 rfl) ?_
      refine S_getR (n := 99) (C := RX12) (T := TX12) (N := 89) hx hb hg iX12 hown hK hW kd_66 rfl 64 (lt_b rfl) (hg (Cond.fieldLink RX12 118 "SlabWalkModel" "need" "[I") m1378) (fun _ h9 => h9) rfl dX12_layNeed_41 ?_
      refine lv_iload_n hx hb dX12_layNeed_44 rfl (lv_at hl 0 rfl) ?_
      refine ic_2 hx hb dX12_layNeed_45 ?_
      refine lv_iadd hx hb dX12_layNeed_46 ?_
      refine lv_topi (fun y_618 ey_618 => ?_)
      have ty_618 : y_618.toInt = y_3.toInt + 2 := xI_add rfl rfl ey_618 ((by first | exact ok_1160 ha_p0.1 ha_p1.1 ty_1 ty_2 ty_3 | omega)) ((by first | exact ok_1161 ha_p0.2 ha_p1.2 ty_1 ty_2 ty_3 | omega))
      refine lv_ldcw (v := 100000) hx hb hown (hg (Cond.constant RX12 502 100000) m1858) dX12_layNeed_47 ?_
      refine S_iast hx hb hK hW hS kd_99 (vin ((by first | exact ok_1162 ha_p0.1 ha_p1.1 ty_1 ty_2 ty_3 ty_618 | omega)) ((by first | exact ok_1163 ha_p0.2 ha_p1.2 ty_1 ty_2 ty_3 ty_618 | omega))) dX12_layNeed_50 (fun G_619 H locs eG_619 hW hS => ?_)
      have hB_G_619 : Bd G_619 := hB_G_617.put (V := 100000) (lo := 0) (hi := 100000) eG_619 rfl rfl rfl (by decide) (by decide) (hB_G_617.2.put eG_619 rfl)
      have hF := hF.put eG_619 (Or.inl (by decide))
      have qc_620 : (1 : Int32).toInt = 1 := rfl
      have qc_621 : (100000 : Int32).toInt = 100000 := rfl
      have hp0_ : PR (G_310.1 99) (G.1 98) (G.1 66 61).toInt (G.1 66 62).toInt (G.1 66 63).toInt (p0.toInt) (p1.toInt) := by rw [show G_310.1 99 = G.1 99 from (funext fun j => ((fun (j : Nat) (_ : True) => (hq_311.ri9 99 rfl j))) j trivial)]; exact hpr
      have hp1_ : PR (G_617.1 99) (G.1 98) (G.1 66 61).toInt (G.1 66 62).toInt (G.1 66 63).toInt (p0.toInt) (p1.toInt) := PR_put (i := 1) eG_617 ((by first | exact ok_1164 ty_1 ty_2 ty_3 ty_4 | omega)) ((by first | exact ha_p0.1 | omega)) ((by first | exact ⟨(by first | exact ha_p1.1 | omega), (by first | exact ha_p1.2 | omega)⟩ | omega)) (by first | (clear h400 d_20; omega) | omega) hle1 hp0_
      have hp2_ : PR (G_617.1 99) (G.1 98) (G.1 66 61).toInt (G.1 66 62).toInt (G.1 66 63).toInt (p0.toInt) (p1.toInt) := by rw [show G_617.1 99 = G_617.1 99 from (funext fun j => ((fun (j : Nat) (_ : True) => rfl)) j trivial)]; exact hp1_
      have hp3_ : PR (G_619.1 99) (G.1 98) (G.1 66 61).toInt (G.1 66 62).toInt (G.1 66 63).toInt (p0.toInt) (p1.toInt) := PR_put (i := 2) eG_619 ((by first | exact ok_1165 ty_1 ty_2 ty_3 ty_618 | omega)) ((by first | exact ha_p0.1 | omega)) ((by first | exact ⟨(by first | exact ha_p1.1 | omega), (by first | exact ha_p1.2 | omega)⟩ | omega)) (by first | (clear h400 d_20; omega) | omega) hle1 hp2_
      have hz1_ := ndv_put (x := p0.toInt) (l := p1.toInt) (i := 1) eG_617 (by first | (clear hle1 h400 d_20; omega) | omega) (by first | (clear hle1 h400 d_20; omega) | omega) (by first | (clear hle1 h400 d_20; omega) | omega) (by first | (clear hle1 h400 d_20; omega) | omega)
      have hz2_ := ndv_put (x := p0.toInt) (l := p1.toInt) (i := 2) eG_619 (by first | (clear hle1 h400 d_20; omega) | omega) (by first | (clear hle1 h400 d_20; omega) | omega) (by first | (clear hle1 h400 d_20; omega) | omega) (by first | (clear hle1 h400 d_20; omega) | omega)
      have hy1_ := hz2_.2 p0.toInt p1.toInt 1 (by first | (clear hle1 h400 d_20; omega) | omega) (by first | (clear hle1 h400 d_20; omega) | omega) (by first | (clear hle1 h400 d_20; omega) | omega) (by first | (clear hle1 h400 d_20; omega) | omega)
      rw [show G_617.1 99 = G_617.1 99 from (funext fun j => ((fun (j : Nat) (_ : True) => rfl)) j trivial), hz1_.1] at hy1_
      have hy2_ := hz2_.1
      refine lv_aload_n hx hb dX12_layNeed_51 rfl (lv_at hl 1 rfl) ?_
      refine S_getR (n := 98) (C := RX12) (T := TX12) (N := 89) hx hb hg iX12 hown hK hW kd_66 rfl 58 (lt_b rfl) (hg (Cond.fieldLink RX12 115 "SlabWalkModel" "lawful" "[Z") m1372) (fun _ h9 => h9) rfl dX12_layNeed_52 ?_
      refine lv_iload_n hx hb dX12_layNeed_55 rfl (lv_at hl 2 rfl) ?_
      refine S_zald hx hb hK hW kd_98 (vin ((by first | exact ha_p0.1 | omega)) ((by first | exact ok_773 ha_p0.2 | omega))) dX12_layNeed_56 (fun y_622 ey_622 => ?_)
      have ty_622 := hB_G_619.law ey_622
      have u_623 : y_622.toInt = y_5.toInt := congrArg Int32.toInt (ey_622.trans (((gp_ne eG_619 (fun q => absurd q.1 (Nat.ne_of_beq_eq_false rfl))).trans ((gp_ne eG_617 (fun q => absurd q.1 (Nat.ne_of_beq_eq_false rfl))).trans ((hq_311.ri9 98 rfl p0.toNatClampNeg).trans (ey_5.symm))))))
      refine lv_if_eq (tgt := 199) hx hb dX12_layNeed_57 rfl (fun c_624 => ?_) (fun c_624 => ?_)
      · have c_624 : y_622.toInt = 0 := xI_eq rfl rfl c_624
        have hpF_ : PR (G_619.1 99) (G.1 98) (G.1 66 61).toInt (G.1 66 62).toInt (G.1 66 63).toInt (p0.toInt) (p1.toInt) := by rw [show G_619.1 99 = G_619.1 99 from (funext fun j => ((fun (j : Nat) (_ : True) => rfl)) j trivial)]; exact hp3_
        have hy1F_ : ndv (G_619.1 99) p0.toInt p1.toInt 1 = 1 := by rw [show G_619.1 99 = G_619.1 99 from (funext fun j => ((fun (j : Nat) (_ : True) => rfl)) j trivial)]; exact (hy1_.trans (by decide))
        have hy2F_ : ndv (G_619.1 99) p0.toInt p1.toInt 2 = 100000 := by rw [show G_619.1 99 = G_619.1 99 from (funext fun j => ((fun (j : Nat) (_ : True) => rfl)) j trivial)]; exact (hy2_.trans (by decide))
        refine lv_aload_n hx hb dX12_layNeed_199 rfl (lv_at hl 1 rfl) ?_
        refine S_getR (n := 99) (C := RX12) (T := TX12) (N := 89) hx hb hg iX12 hown hK hW kd_66 rfl 64 (lt_b rfl) (hg (Cond.fieldLink RX12 118 "SlabWalkModel" "need" "[I") m1378) (fun _ h9 => h9) rfl dX12_layNeed_200 ?_
        refine lv_iload_n hx hb dX12_layNeed_203 rfl (lv_at hl 0 rfl) ?_
        refine lv_aload_n hx hb dX12_layNeed_204 rfl (lv_at hl 1 rfl) ?_
        refine S_getR (n := 99) (C := RX12) (T := TX12) (N := 89) hx hb hg iX12 hown hK hW kd_66 rfl 64 (lt_b rfl) (hg (Cond.fieldLink RX12 118 "SlabWalkModel" "need" "[I") m1378) (fun _ h9 => h9) rfl dX12_layNeed_205 ?_
        refine lv_iload_n hx hb dX12_layNeed_208 rfl (lv_at hl 0 rfl) ?_
        refine ic_1 hx hb dX12_layNeed_209 ?_
        refine lv_iadd hx hb dX12_layNeed_210 ?_
        refine lv_topi (fun y_625 ey_625 => ?_)
        have ty_625 : y_625.toInt = y_3.toInt + 1 := xI_add rfl rfl ey_625 ((by first | exact ok_1156 ha_p0.1 ha_p1.1 ty_1 ty_2 ty_3 | omega)) ((by first | exact ok_1157 ha_p0.2 ha_p1.2 ty_1 ty_2 ty_3 | omega))
        refine S_iald hx hb hK hW kd_99 (vin ((by first | exact ok_1158 ha_p0.1 ha_p1.1 ty_1 ty_2 ty_3 ty_625 | omega)) ((by first | exact ok_1159 ha_p0.2 ha_p1.2 ty_1 ty_2 ty_3 ty_625 | omega))) dX12_layNeed_211 (fun y_626 ey_626 => ?_)
        have ty_626 : 0 ≤ y_626.toInt ∧ y_626.toInt ≤ 100000 := bv_99 hB_G_619 ey_626
        have u_627 : y_626.toInt = (G_619.1 99 y_625.toNatClampNeg).toInt := congrArg Int32.toInt (ey_626)
        have hn1_ : y_626.toInt = ndv (G_619.1 99) p0.toInt p1.toInt 1 := (ndv_at (f := G_619.1 99) (x := y_625) ((by first | exact ok_1164 ty_1 ty_2 ty_3 ty_625 | omega)) (congrArg Int32.toInt ey_626)).trans (ndv_eq (show G_619.1 99 = G_619.1 99 from (funext fun j => ((fun (j : Nat) (_ : True) => rfl)) j trivial)) rfl rfl)
        refine lv_aload_n hx hb dX12_layNeed_212 rfl (lv_at hl 1 rfl) ?_
        refine S_getR (n := 99) (C := RX12) (T := TX12) (N := 89) hx hb hg iX12 hown hK hW kd_66 rfl 64 (lt_b rfl) (hg (Cond.fieldLink RX12 118 "SlabWalkModel" "need" "[I") m1378) (fun _ h9 => h9) rfl dX12_layNeed_213 ?_
        refine lv_iload_n hx hb dX12_layNeed_216 rfl (lv_at hl 0 rfl) ?_
        refine ic_2 hx hb dX12_layNeed_217 ?_
        refine lv_iadd hx hb dX12_layNeed_218 ?_
        refine lv_topi (fun y_628 ey_628 => ?_)
        have ty_628 : y_628.toInt = y_3.toInt + 2 := xI_add rfl rfl ey_628 ((by first | exact ok_1160 ha_p0.1 ha_p1.1 ty_1 ty_2 ty_3 | omega)) ((by first | exact ok_1161 ha_p0.2 ha_p1.2 ty_1 ty_2 ty_3 | omega))
        refine S_iald hx hb hK hW kd_99 (vin ((by first | exact ok_1162 ha_p0.1 ha_p1.1 ty_1 ty_2 ty_3 ty_628 | omega)) ((by first | exact ok_1163 ha_p0.2 ha_p1.2 ty_1 ty_2 ty_3 ty_628 | omega))) dX12_layNeed_219 (fun y_629 ey_629 => ?_)
        have ty_629 : 0 ≤ y_629.toInt ∧ y_629.toInt ≤ 100000 := bv_99 hB_G_619 ey_629
        have u_630 : y_629.toInt = (G_619.1 99 y_628.toNatClampNeg).toInt := congrArg Int32.toInt (ey_629)
        have hn2_ : y_629.toInt = ndv (G_619.1 99) p0.toInt p1.toInt 2 := (ndv_at (f := G_619.1 99) (x := y_628) ((by first | exact ok_1165 ty_1 ty_2 ty_3 ty_628 | omega)) (congrArg Int32.toInt ey_629)).trans (ndv_eq (show G_619.1 99 = G_619.1 99 from (funext fun j => ((fun (j : Nat) (_ : True) => rfl)) j trivial)) rfl rfl)
        refine S_calli (va_runS (As := [.int y_626, .int y_629]) (rest := [.int y_3, .ref (a 99)]) ⟨hx, hb, hml, hown, hts⟩ (n_lesser l D k A a z G_619 y_626 y_629 ) (va_cwS 2 hts (gd_S hgd m1863 m1864 m131 m1865) rfl rfl rfl hd_X12_lesser.2 ⟨Nat.le_of_ble_eq_true rfl, Nat.le_of_ble_eq_true rfl⟩) (pre_S hW hB_G_619 hK hZ hS) rfl rfl hl.1 rfl (lv_room (Nat.le_of_ble_eq_true rfl)) dX12_layNeed_220 ⟨Nat.le_of_ble_eq_true rfl, Nat.le_of_ble_eq_true rfl⟩) hS (fun r_631 G_632 H locs hpo hW hS => ?_)
        have hX_635 : Q_lesser y_626 y_629 G_619 r_631 G_632 := hpo
        obtain ⟨hB_G_632, hq_633, hp_634, -⟩ := hpo
        have hF := hF.call9 hq_633 rfl rfl
        refine S_iast hx hb hK hW hS kd_99 (vin ((by first | exact ok_1166 ha_p0.1 ha_p1.1 ty_1 ty_2 ty_3 | omega)) ((by first | exact ok_1167 ha_p0.2 ha_p1.2 ty_1 ty_2 ty_3 | omega))) dX12_layNeed_223 (fun G_636 H locs eG_636 hW hS => ?_)
        have hB_G_636 : Bd G_636 := hB_G_632.put (V := r_631.toInt) (lo := 0) (hi := 100000) eG_636 rfl rfl rfl ((by first | exact ok_1168 ty_626.1 ty_629.1 hp_634.2.2 | omega)) ((by first | exact ok_1169 ty_626.2 hp_634.1 | omega)) (hB_G_632.2.put eG_636 rfl)
        have hF := hF.put eG_636 (Or.inl (by decide))
        have hpL_ : PR (G_632.1 99) (G.1 98) (G.1 66 61).toInt (G.1 66 62).toInt (G.1 66 63).toInt (p0.toInt) (p1.toInt) := by rw [show G_632.1 99 = G_619.1 99 from (funext fun j => ((fun (j : Nat) (_ : True) => (hq_633.ri9 99 rfl j))) j trivial)]; exact hpF_
        have hfL_ : ((ndv (G_632.1 99) p0.toInt p1.toInt 1 = 1 ∨ ndv (G_632.1 99) p0.toInt p1.toInt 1 = 100000) ∧ ndv (G_632.1 99) p0.toInt p1.toInt 2 = 100000) ∨ ∃ u, NJ (G_632.1 99) (G.1 98) (G.1 66 61).toInt (G.1 66 62).toInt p0.toInt p1.toInt u ∧ u ≤ (G.1 66 63).toInt + 1 := by rw [show G_632.1 99 = G_619.1 99 from (funext fun j => ((fun (j : Nat) (_ : True) => (hq_633.ri9 99 rfl j))) j trivial)]; exact Or.inl ⟨Or.inl hy1F_, hy2F_⟩
        have hr1_ := hn1_.trans (show ndv (G_619.1 99) p0.toInt p1.toInt 1 = ndv (G_632.1 99) p0.toInt p1.toInt 1 by rw [show G_632.1 99 = G_619.1 99 from (funext fun j => ((fun (j : Nat) (_ : True) => (hq_633.ri9 99 rfl j))) j trivial)])
        have hr2_ := hn2_.trans (show ndv (G_619.1 99) p0.toInt p1.toInt 2 = ndv (G_632.1 99) p0.toInt p1.toInt 2 by rw [show G_632.1 99 = G_619.1 99 from (funext fun j => ((fun (j : Nat) (_ : True) => (hq_633.ri9 99 rfl j))) j trivial)])
        have hEnd_ : PR (G_636.1 99) (G.1 98) (G.1 66 61).toInt (G.1 66 62).toInt (G.1 66 63).toInt (p0.toInt) (p1.toInt + 1) := PR_next eG_636 (by first | (clear h400 d_20; omega) | omega) (by first | (clear h400 d_20; omega) | omega) (by first | (clear h400 d_20; omega) | omega) hle1 hpL_ (lw400 hB_G h400) (by first | (clear h400 d_20; omega) | omega) (by first | (clear h400 d_20; omega) | omega) (by first | (clear h400 d_20; omega) | omega) hfL_
        have hPG_ : PRG G_636 p0.toInt (p1.toInt + 1) := PRG_of hF (by decide) (by decide) hEnd_
        exact W.vret hx hb hr (fun t ht _ => ⟨⟨G_636, rfl, (Q_layNeed_mk ⟨hB_G_636, hF, (hPG_), ⟨y_1, ty_1, ⟨y_2, ty_2, ⟨y_3, ty_3, ⟨y_4, ty_4, ⟨y_5, ey_5, (Or.inr ⟨c_7, ⟨r_309, G_310, hX_313, (Or.inr ⟨c_315, ⟨y_618, ty_618, ⟨y_622, ey_622.trans (congrFun ((rw_put eG_619 (by decide)).trans (rw_put eG_617 (by decide))) _), (Or.inl ⟨c_624, ⟨y_625, ty_625, ⟨y_626, ey_626.trans (congrFun ((rw_ast eG_619).trans (congrArg (fun q => upd q (y_618.toNatClampNeg) 100000) (rw_ast eG_617))) _), ⟨y_628, ty_628, ⟨y_629, ey_629.trans (congrFun ((rw_ast eG_619).trans (congrArg (fun q => upd q (y_618.toNatClampNeg) 100000) (rw_ast eG_617))) _), ⟨G_619, hB_G_619, (Fr.put (rs := [99]) (fs := []) (Fr.put (rs := [99]) (fs := []) Fr.rf eG_617 (Or.inl (by decide))) eG_619 (Or.inl (by decide))), (rw_ast eG_619).trans (congrArg (fun q => upd q (y_618.toNatClampNeg) 100000) (rw_ast eG_617)), ⟨r_631, G_632, hX_635, ⟨(Fr.put (rs := [99]) (fs := []) Fr.rf eG_636 (Or.inl (by decide))), rw_ast eG_636⟩⟩⟩⟩⟩⟩⟩⟩)⟩⟩⟩)⟩⟩)⟩⟩⟩⟩⟩⟩), wd_t ht hW⟩, hS.F ht⟩) hS.2.2 dX12_layNeed_224
      · have c_624 : y_622.toInt ≠ 0 := xI_ne rfl rfl c_624
        refine lv_aload_n hx hb dX12_layNeed_60 rfl (lv_at hl 1 rfl) ?_
        refine lv_iload_n hx hb dX12_layNeed_61 rfl (lv_at hl 2 rfl) ?_
        have b_637 : 0 ≤ (G.1 66 59).toInt ∧ (G.1 66 59).toInt ≤ 400 := bd_66_59 hB_G
        have g_638 : (G_619.1 66 59).toInt = (G.1 66 59).toInt := (congrArg Int32.toInt (show G_619.1 66 59 = (G.1 66 59) from ((gp_ne eG_619 (fun q => absurd q.1 (Nat.ne_of_beq_eq_false rfl))).trans ((gp_ne eG_617 (fun q => absurd q.1 (Nat.ne_of_beq_eq_false rfl))).trans (hq_311.i9 66 59 rfl rfl)))))
        have b_639 : 0 ≤ (G.1 66 60).toInt ∧ (G.1 66 60).toInt ≤ 12 := bd_66_60 hB_G
        have g_640 : (G_619.1 66 60).toInt = (G.1 66 60).toInt := (congrArg Int32.toInt (show G_619.1 66 60 = (G.1 66 60) from ((gp_ne eG_619 (fun q => absurd q.1 (Nat.ne_of_beq_eq_false rfl))).trans ((gp_ne eG_617 (fun q => absurd q.1 (Nat.ne_of_beq_eq_false rfl))).trans (hq_311.i9 66 60 rfl rfl)))))
        have b_641 : 0 ≤ (G.1 66 62).toInt ∧ (G.1 66 62).toInt ≤ 60 := bd_66_62 hB_G
        have g_642 : (G_619.1 66 62).toInt = (G.1 66 62).toInt := (congrArg Int32.toInt (show G_619.1 66 62 = (G.1 66 62) from ((gp_ne eG_619 (fun q => absurd q.1 (Nat.ne_of_beq_eq_false rfl))).trans ((gp_ne eG_617 (fun q => absurd q.1 (Nat.ne_of_beq_eq_false rfl))).trans (hq_311.i9 66 62 rfl rfl)))))
        refine S_calli (va_runV (As := [.int p0]) (rest := []) ⟨hx, hb, hml, hown, hts⟩ (n_isEnd l D k A a z G_619 p0 ⟨(by first | exact ok_774 ha_p0.1 | omega), (by first | exact ok_775 ha_p0.2 | omega)⟩) (cwV 1 hts (gd_V hgd m1854 m1856 m95 m131 m1857) rfl rfl rfl hd_X12_isEnd ⟨Nat.le_of_ble_eq_true rfl, Nat.le_of_ble_eq_true rfl⟩) (pre_W hW hB_G_619 hK hZ hS kd_66 rfl) rfl rfl hl.1 rfl (lv_room (Nat.le_of_ble_eq_true rfl)) dX12_layNeed_62 ⟨Nat.le_of_ble_eq_true rfl, Nat.le_of_ble_eq_true rfl⟩) hS (fun r_643 G_644 H locs hpo hW hS => ?_)
        have hX_647 : Q_isEnd p0 G_619 r_643 G_644 := hpo
        obtain ⟨hB_G_644, hq_645, f_648, ⟨d_42, d_43⟩, -⟩ := hpo
        have hF := hF.call9 hq_645 rfl rfl
        refine lv_if_ne (tgt := 199) hx hb dX12_layNeed_65 rfl (fun c_649 => ?_) (fun c_649 => ?_)
        · have c_649 : r_643.toInt ≠ 0 := xI_ne rfl rfl c_649
          have hpF_ : PR (G_644.1 99) (G.1 98) (G.1 66 61).toInt (G.1 66 62).toInt (G.1 66 63).toInt (p0.toInt) (p1.toInt) := by rw [show G_644.1 99 = G_619.1 99 from (funext fun j => ((fun (j : Nat) (_ : True) => (hq_645.ri9 99 rfl j))) j trivial)]; exact hp3_
          have hy1F_ : ndv (G_644.1 99) p0.toInt p1.toInt 1 = 1 := by rw [show G_644.1 99 = G_619.1 99 from (funext fun j => ((fun (j : Nat) (_ : True) => (hq_645.ri9 99 rfl j))) j trivial)]; exact (hy1_.trans (by decide))
          have hy2F_ : ndv (G_644.1 99) p0.toInt p1.toInt 2 = 100000 := by rw [show G_644.1 99 = G_619.1 99 from (funext fun j => ((fun (j : Nat) (_ : True) => (hq_645.ri9 99 rfl j))) j trivial)]; exact (hy2_.trans (by decide))
          refine lv_aload_n hx hb dX12_layNeed_199 rfl (lv_at hl 1 rfl) ?_
          refine S_getR (n := 99) (C := RX12) (T := TX12) (N := 89) hx hb hg iX12 hown hK hW kd_66 rfl 64 (lt_b rfl) (hg (Cond.fieldLink RX12 118 "SlabWalkModel" "need" "[I") m1378) (fun _ h9 => h9) rfl dX12_layNeed_200 ?_
          refine lv_iload_n hx hb dX12_layNeed_203 rfl (lv_at hl 0 rfl) ?_
          refine lv_aload_n hx hb dX12_layNeed_204 rfl (lv_at hl 1 rfl) ?_
          refine S_getR (n := 99) (C := RX12) (T := TX12) (N := 89) hx hb hg iX12 hown hK hW kd_66 rfl 64 (lt_b rfl) (hg (Cond.fieldLink RX12 118 "SlabWalkModel" "need" "[I") m1378) (fun _ h9 => h9) rfl dX12_layNeed_205 ?_
          refine lv_iload_n hx hb dX12_layNeed_208 rfl (lv_at hl 0 rfl) ?_
          refine ic_1 hx hb dX12_layNeed_209 ?_
          refine lv_iadd hx hb dX12_layNeed_210 ?_
          refine lv_topi (fun y_650 ey_650 => ?_)
          have ty_650 : y_650.toInt = y_3.toInt + 1 := xI_add rfl rfl ey_650 ((by first | exact ok_1156 ha_p0.1 ha_p1.1 ty_1 ty_2 ty_3 | omega)) ((by first | exact ok_1157 ha_p0.2 ha_p1.2 ty_1 ty_2 ty_3 | omega))
          refine S_iald hx hb hK hW kd_99 (vin ((by first | exact ok_1158 ha_p0.1 ha_p1.1 ty_1 ty_2 ty_3 ty_650 | omega)) ((by first | exact ok_1159 ha_p0.2 ha_p1.2 ty_1 ty_2 ty_3 ty_650 | omega))) dX12_layNeed_211 (fun y_651 ey_651 => ?_)
          have ty_651 : 0 ≤ y_651.toInt ∧ y_651.toInt ≤ 100000 := bv_99 hB_G_644 ey_651
          have u_652 : y_651.toInt = (G_619.1 99 y_650.toNatClampNeg).toInt := congrArg Int32.toInt (ey_651.trans ((hq_645.ri9 99 rfl y_650.toNatClampNeg)))
          have hn1_ : y_651.toInt = ndv (G_619.1 99) p0.toInt p1.toInt 1 := (ndv_at (f := G_644.1 99) (x := y_650) ((by first | exact ok_1164 ty_1 ty_2 ty_3 ty_650 | omega)) (congrArg Int32.toInt ey_651)).trans (ndv_eq (show G_644.1 99 = G_619.1 99 from (funext fun j => ((fun (j : Nat) (_ : True) => (hq_645.ri9 99 rfl j))) j trivial)) rfl rfl)
          refine lv_aload_n hx hb dX12_layNeed_212 rfl (lv_at hl 1 rfl) ?_
          refine S_getR (n := 99) (C := RX12) (T := TX12) (N := 89) hx hb hg iX12 hown hK hW kd_66 rfl 64 (lt_b rfl) (hg (Cond.fieldLink RX12 118 "SlabWalkModel" "need" "[I") m1378) (fun _ h9 => h9) rfl dX12_layNeed_213 ?_
          refine lv_iload_n hx hb dX12_layNeed_216 rfl (lv_at hl 0 rfl) ?_
          refine ic_2 hx hb dX12_layNeed_217 ?_
          refine lv_iadd hx hb dX12_layNeed_218 ?_
          refine lv_topi (fun y_653 ey_653 => ?_)
          have ty_653 : y_653.toInt = y_3.toInt + 2 := xI_add rfl rfl ey_653 ((by first | exact ok_1160 ha_p0.1 ha_p1.1 ty_1 ty_2 ty_3 | omega)) ((by first | exact ok_1161 ha_p0.2 ha_p1.2 ty_1 ty_2 ty_3 | omega))
          refine S_iald hx hb hK hW kd_99 (vin ((by first | exact ok_1162 ha_p0.1 ha_p1.1 ty_1 ty_2 ty_3 ty_653 | omega)) ((by first | exact ok_1163 ha_p0.2 ha_p1.2 ty_1 ty_2 ty_3 ty_653 | omega))) dX12_layNeed_219 (fun y_654 ey_654 => ?_)
          have ty_654 : 0 ≤ y_654.toInt ∧ y_654.toInt ≤ 100000 := bv_99 hB_G_644 ey_654
          have u_655 : y_654.toInt = (G_619.1 99 y_653.toNatClampNeg).toInt := congrArg Int32.toInt (ey_654.trans ((hq_645.ri9 99 rfl y_653.toNatClampNeg)))
          have hn2_ : y_654.toInt = ndv (G_619.1 99) p0.toInt p1.toInt 2 := (ndv_at (f := G_644.1 99) (x := y_653) ((by first | exact ok_1165 ty_1 ty_2 ty_3 ty_653 | omega)) (congrArg Int32.toInt ey_654)).trans (ndv_eq (show G_644.1 99 = G_619.1 99 from (funext fun j => ((fun (j : Nat) (_ : True) => (hq_645.ri9 99 rfl j))) j trivial)) rfl rfl)
          refine S_calli (va_runS (As := [.int y_651, .int y_654]) (rest := [.int y_3, .ref (a 99)]) ⟨hx, hb, hml, hown, hts⟩ (n_lesser l D k A a z G_644 y_651 y_654 ) (va_cwS 2 hts (gd_S hgd m1863 m1864 m131 m1865) rfl rfl rfl hd_X12_lesser.2 ⟨Nat.le_of_ble_eq_true rfl, Nat.le_of_ble_eq_true rfl⟩) (pre_S hW hB_G_644 hK hZ hS) rfl rfl hl.1 rfl (lv_room (Nat.le_of_ble_eq_true rfl)) dX12_layNeed_220 ⟨Nat.le_of_ble_eq_true rfl, Nat.le_of_ble_eq_true rfl⟩) hS (fun r_656 G_657 H locs hpo hW hS => ?_)
          have hX_660 : Q_lesser y_651 y_654 G_644 r_656 G_657 := hpo
          obtain ⟨hB_G_657, hq_658, hp_659, -⟩ := hpo
          have hF := hF.call9 hq_658 rfl rfl
          refine S_iast hx hb hK hW hS kd_99 (vin ((by first | exact ok_1166 ha_p0.1 ha_p1.1 ty_1 ty_2 ty_3 | omega)) ((by first | exact ok_1167 ha_p0.2 ha_p1.2 ty_1 ty_2 ty_3 | omega))) dX12_layNeed_223 (fun G_661 H locs eG_661 hW hS => ?_)
          have hB_G_661 : Bd G_661 := hB_G_657.put (V := r_656.toInt) (lo := 0) (hi := 100000) eG_661 rfl rfl rfl ((by first | exact ok_1168 ty_651.1 ty_654.1 hp_659.2.2 | omega)) ((by first | exact ok_1169 ty_651.2 hp_659.1 | omega)) (hB_G_657.2.put eG_661 rfl)
          have hF := hF.put eG_661 (Or.inl (by decide))
          have hpL_ : PR (G_657.1 99) (G.1 98) (G.1 66 61).toInt (G.1 66 62).toInt (G.1 66 63).toInt (p0.toInt) (p1.toInt) := by rw [show G_657.1 99 = G_644.1 99 from (funext fun j => ((fun (j : Nat) (_ : True) => (hq_658.ri9 99 rfl j))) j trivial)]; exact hpF_
          have hfL_ : ((ndv (G_657.1 99) p0.toInt p1.toInt 1 = 1 ∨ ndv (G_657.1 99) p0.toInt p1.toInt 1 = 100000) ∧ ndv (G_657.1 99) p0.toInt p1.toInt 2 = 100000) ∨ ∃ u, NJ (G_657.1 99) (G.1 98) (G.1 66 61).toInt (G.1 66 62).toInt p0.toInt p1.toInt u ∧ u ≤ (G.1 66 63).toInt + 1 := by rw [show G_657.1 99 = G_644.1 99 from (funext fun j => ((fun (j : Nat) (_ : True) => (hq_658.ri9 99 rfl j))) j trivial)]; exact Or.inl ⟨Or.inl hy1F_, hy2F_⟩
          have hr1_ := hn1_.trans (show ndv (G_619.1 99) p0.toInt p1.toInt 1 = ndv (G_657.1 99) p0.toInt p1.toInt 1 by rw [show G_657.1 99 = G_619.1 99 from (funext fun j => ((fun (j : Nat) (_ : True) => ((hq_658.ri9 99 rfl j).trans (hq_645.ri9 99 rfl j)))) j trivial)])
          have hr2_ := hn2_.trans (show ndv (G_619.1 99) p0.toInt p1.toInt 2 = ndv (G_657.1 99) p0.toInt p1.toInt 2 by rw [show G_657.1 99 = G_619.1 99 from (funext fun j => ((fun (j : Nat) (_ : True) => ((hq_658.ri9 99 rfl j).trans (hq_645.ri9 99 rfl j)))) j trivial)])
          have hEnd_ : PR (G_661.1 99) (G.1 98) (G.1 66 61).toInt (G.1 66 62).toInt (G.1 66 63).toInt (p0.toInt) (p1.toInt + 1) := PR_next eG_661 (by first | (clear h400 d_20 d_42; omega) | omega) (by first | (clear h400 d_20 d_42; omega) | omega) (by first | (clear h400 d_20 d_42; omega) | omega) hle1 hpL_ (lw400 hB_G h400) (by first | (clear h400 d_20 d_42; omega) | omega) (by first | (clear h400 d_20 d_42; omega) | omega) (by first | (clear h400 d_20 d_42; omega) | omega) hfL_
          have hPG_ : PRG G_661 p0.toInt (p1.toInt + 1) := PRG_of hF (by decide) (by decide) hEnd_
          exact W.vret hx hb hr (fun t ht _ => ⟨⟨G_661, rfl, (Q_layNeed_mk ⟨hB_G_661, hF, (hPG_), ⟨y_1, ty_1, ⟨y_2, ty_2, ⟨y_3, ty_3, ⟨y_4, ty_4, ⟨y_5, ey_5, (Or.inr ⟨c_7, ⟨r_309, G_310, hX_313, (Or.inr ⟨c_315, ⟨y_618, ty_618, ⟨y_622, ey_622.trans (congrFun ((rw_put eG_619 (by decide)).trans (rw_put eG_617 (by decide))) _), (Or.inr ⟨c_624, ⟨G_619, hB_G_619, (Fr.put (rs := [99]) (fs := []) (Fr.put (rs := [99]) (fs := []) Fr.rf eG_617 (Or.inl (by decide))) eG_619 (Or.inl (by decide))), (rw_ast eG_619).trans (congrArg (fun q => upd q (y_618.toNatClampNeg) 100000) (rw_ast eG_617)), ⟨r_643, G_644, hX_647, ⟨c_649, ⟨y_650, ty_650, ⟨y_651, ey_651, ⟨y_653, ty_653, ⟨y_654, ey_654, ⟨r_656, G_657, hX_660, ⟨(Fr.put (rs := [99]) (fs := []) Fr.rf eG_661 (Or.inl (by decide))), rw_ast eG_661⟩⟩⟩⟩⟩⟩⟩⟩⟩⟩)⟩⟩⟩)⟩⟩)⟩⟩⟩⟩⟩⟩), wd_t ht hW⟩, hS.F ht⟩) hS.2.2 dX12_layNeed_224
        · have c_649 : r_643.toInt = 0 := xI_eq rfl rfl c_649
          have d_44 := d_42 c_649
          exfalso; first | (clear d_20 d_42; omega) | omega

theorem m94 : Cond.selects RX12 yX12_layNeed yX12_layNeed ∈ gd := gds_6 14 rfl
theorem m1850 : Cond.methodLink RX12 496 yX12_layNeed ∈ gd := gdc_8_3 6 rfl gw_methodLink
theorem m1852 : Cond.instanceMethod yX12_layNeed ∈ gd := gdc_8_3 8 rfl gw_instanceMethod
theorem m1853 : Cond.code yX12_layNeed cX12_layNeed 6 none ∈ gd := gdc_8_3 9 rfl gw_code
noncomputable def rbX12_layNeeds_0 : List (Nat × List Nat) := [(0, [17, 1, 143]), (3, [60]), (4, [27]), (5, [155, 0, 28]), (8, [3]), (9, [61]), (10, [28]), (11, [5]), (12, [162, 0, 15]), (15, [42]), (16, [27]), (17, [28]), (18, [182, 1, 240]), (21, [132, 2, 1]), (24, [167, 255, 242]), (27, [132, 1, 255]), (30, [167, 255, 230]), (33, [177])]
theorem rcX12_layNeeds_0 : dgo (lb cX12_layNeeds) 0 rbX12_layNeeds_0 = true := by decide +kernel
theorem dX12_layNeeds_0 : decode cX12_layNeeds 0 = .ok (.sipush 399, 3) := dk_17 (dw rcX12_layNeeds_0 0 rfl) rfl
theorem dX12_layNeeds_3 : decode cX12_layNeeds 3 = .ok (.istore_n 1, 1) := dk_60 (dw rcX12_layNeeds_0 1 rfl)
theorem dX12_layNeeds_4 : decode cX12_layNeeds 4 = .ok (.iload_n 1, 1) := dk_27 (dw rcX12_layNeeds_0 2 rfl)
theorem dX12_layNeeds_5 : decode cX12_layNeeds 5 = .ok (.ifCond .lt 28, 3) := dk_155 (dw rcX12_layNeeds_0 3 rfl) rfl
theorem dX12_layNeeds_8 : decode cX12_layNeeds 8 = .ok (.iconst 0, 1) := dk_3 (dw rcX12_layNeeds_0 4 rfl)
theorem dX12_layNeeds_9 : decode cX12_layNeeds 9 = .ok (.istore_n 2, 1) := dk_61 (dw rcX12_layNeeds_0 5 rfl)
theorem dX12_layNeeds_10 : decode cX12_layNeeds 10 = .ok (.iload_n 2, 1) := dk_28 (dw rcX12_layNeeds_0 6 rfl)
theorem dX12_layNeeds_11 : decode cX12_layNeeds 11 = .ok (.iconst 2, 1) := dk_5 (dw rcX12_layNeeds_0 7 rfl)
theorem dX12_layNeeds_12 : decode cX12_layNeeds 12 = .ok (.if_icmp .ge 15, 3) := dk_162 (dw rcX12_layNeeds_0 8 rfl) rfl
theorem dX12_layNeeds_15 : decode cX12_layNeeds 15 = .ok (.aload_n 0, 1) := dk_42 (dw rcX12_layNeeds_0 9 rfl)
theorem dX12_layNeeds_16 : decode cX12_layNeeds 16 = .ok (.iload_n 1, 1) := dk_27 (dw rcX12_layNeeds_0 10 rfl)
theorem dX12_layNeeds_17 : decode cX12_layNeeds 17 = .ok (.iload_n 2, 1) := dk_28 (dw rcX12_layNeeds_0 11 rfl)
theorem dX12_layNeeds_18 : decode cX12_layNeeds 18 = .ok (.invokevirtual 496, 3) := dk_182 (dw rcX12_layNeeds_0 12 rfl) rfl
theorem dX12_layNeeds_21 : decode cX12_layNeeds 21 = .ok (.iinc 2 1, 3) := dk_132 (dw rcX12_layNeeds_0 13 rfl) rfl
theorem dX12_layNeeds_24 : decode cX12_layNeeds 24 = .ok (.goto (-14), 3) := dk_167 (dw rcX12_layNeeds_0 14 rfl) rfl
theorem dX12_layNeeds_27 : decode cX12_layNeeds 27 = .ok (.iinc 1 (-1), 3) := dk_132 (dw rcX12_layNeeds_0 15 rfl) rfl
theorem dX12_layNeeds_30 : decode cX12_layNeeds 30 = .ok (.goto (-26), 3) := dk_167 (dw rcX12_layNeeds_0 16 rfl) rfl
theorem dX12_layNeeds_33 : decode cX12_layNeeds 33 = .ok (.return_, 1) := dk_177 (dw rcX12_layNeeds_0 17 rfl)
set_option maxHeartbeats 4000000 in
set_option maxRecDepth 100000 in
theorem n_layNeeds (l : Launch) (D : va_G) (k : KT) (A : Nat → Prop) (a : Nat → Nat) (z : SK) (G : GS)  (hle1 : 1 ≤ (G.1 66 61).toInt) (hml9 : (G.1 66 61).toInt ≤ (G.1 66 62).toInt ∧ (G.1 66 62).toInt ≤ (G.1 66 63).toInt) (h400 : (G.1 98 400).toInt = 0) : Met l yX12_layNeeds (WS yX12_layNeeds cX12_layNeeds 3 none) ({ frames := 3, cells := 0, slots := 0, locals := 67 }) (va_Pc [.ref (a 66)] (cW D k A a z G)) (va_Qv (fun (G1 : GS) => Q_layNeeds G G1) (fun (G1 : GS) t => Wd D k A a G1 t.heap) A) 0 0 A := by
  refine Met.ofW (cc := cX12_layNeeds) (maxL := 3) (ret := none) (by decide) rfl ?_
  intro p e s m args below meth c s₁ B hml hv
  obtain ⟨rfl, hW, hB_G, hK, hZ⟩ := hv
  have hx := B.exec
  have hb := B.bytes
  have hr := B.returns
  have hts := atoms_spec (ws := WS yX12_layNeeds cX12_layNeeds 3 none) B.pre
  have hgd : ∀ w ∈ gd, w ∈ WS yX12_layNeeds cX12_layNeeds 3 none := fun w h => List.mem_cons_of_mem _ h
  have hg : ∀ w ∈ gd, w.before _ s = true := fun w h => hts w (hgd w h)
  have hown : s.vm.findClass RX12 = some m.cls := findClass_of_methodNamed B.named
  have hS : va_S A s.heap s.heap [] := va_S.rf
  have hF : Fr [99] [] G G := Fr.rf
  have hl := lv_entry ([.ref (a 66)]) (n := 3) (Nat.le_of_ble_eq_true rfl)
  rw [lg_entry_eq]
  generalize (lg_sl ([.ref (a 66)]) ++ List.replicate (3 - (lg_sl ([.ref (a 66)])).length) Slot.unset).toArray = ls at hl ⊢
  have hl : lv_has ls 3 [(0, .ref (a 66))] := hl
  refine lv_sipush (v := 399) hx hb dX12_layNeeds_0 (by decide) ?_
  have hq_1 : PRG G (399 : Int32).toInt 0 := PRG_0 G
  refine lv_istore_n (lv' := [(1, .int 399), (0, .ref (a 66))]) hx hb dX12_layNeeds_3 rfl hl (lt_b rfl) rfl (fun ls hl => ?_)
  have qc_8 : (399 : Int32).toInt = 399 := rfl
  refine loop_N (Inv := fun n H locs ls => ∃ (G_2 : GS) (x_6 : Int32), (n : Int) = x_6.toInt - (-1) ∧ ((-1) ≤ x_6.toInt ∧ x_6.toInt ≤ 399) ∧ (PRG G_2 x_6.toInt 0) ∧ Rc (St_n_layNeeds_1) (399, G) (x_6, G_2) ∧ Wd D k A a G_2 H ∧ Bd G_2 ∧ Fr [99] [] G G_2 ∧ Fr [99] [] G G_2 ∧ va_S A s.heap H locs ∧ lv_has ls 3 [(1, .int x_6), (0, .ref (a 66))]) (fun n_5 H locs ls ih_4 hI => ?_) (399 - (-1) : Int).toNat ⟨G, 399, (Int.toNat_of_nonneg ((by decide))), ⟨(by decide), (by decide)⟩, (by assumption), Rc.rf, hW, hB_G, hF, Fr.rf, hS, lv_sub hl [0, 1] rfl⟩
  obtain ⟨G_2, x_6, hn_11, f_9, f_10, hX_7, hW, hB_G_2, hF, hq_3, hS, hl⟩ := hI
  refine lv_iload_n hx hb dX12_layNeeds_4 rfl (lv_at hl 0 rfl) ?_
  refine lv_if_lt (tgt := 33) hx hb dX12_layNeeds_5 rfl (fun c_12 => ?_) (fun c_12 => ?_)
  · have c_12 : x_6.toInt < 0 := xI_lt rfl rfl c_12
    have hqE_ : PRG G_2 (-1) 0 := by rw [show (-1 : Int) = x_6.toInt from by omega]; assumption
    exact W.vret hx hb hr (fun t ht _ => ⟨⟨G_2, rfl, (Q_layNeeds_mk ⟨hB_G_2, hF, (show PRG G_2 (-1) 0 from hqE_), ⟨x_6, G_2, hX_7, f_9, f_10, hB_G_2, hq_3, ⟨c_12, rfl⟩⟩⟩), wd_t ht hW⟩, hS.F ht⟩) hS.2.2 dX12_layNeeds_33
  · have c_12 : 0 ≤ x_6.toInt := xI_nlt rfl rfl c_12
    refine ic_0 hx hb dX12_layNeeds_8 ?_
    have hq_13 : PRG G_2 x_6.toInt (0 : Int32).toInt := by assumption
    refine lv_istore_n (lv' := [(2, .int 0), (1, .int x_6), (0, .ref (a 66))]) hx hb dX12_layNeeds_9 rfl hl (lt_b rfl) rfl (fun ls hl => ?_)
    have qc_20 : (0 : Int32).toInt = 0 := rfl
    refine loop_N (Inv := fun n H locs ls => ∃ (G_14 : GS) (x_18 : Int32), (n : Int) = 2 - x_18.toInt ∧ (0 ≤ x_18.toInt ∧ x_18.toInt ≤ 2) ∧ (PRG G_14 x_6.toInt x_18.toInt) ∧ Rc (St_n_layNeeds_2 x_6) (0, G_2) (x_18, G_14) ∧ Wd D k A a G_14 H ∧ Bd G_14 ∧ Fr [99] [] G G_14 ∧ Fr [99] [] G_2 G_14 ∧ va_S A s.heap H locs ∧ lv_has ls 3 [(2, .int x_18), (1, .int x_6), (0, .ref (a 66))]) (fun n_17 H locs ls ih_16 hI => ?_) (2 - 0 : Int).toNat ⟨G_2, 0, (Int.toNat_of_nonneg ((by decide))), ⟨(by decide), (by decide)⟩, (by assumption), Rc.rf, hW, hB_G_2, hF, Fr.rf, hS, lv_sub hl [0, 1, 2] rfl⟩
    obtain ⟨G_14, x_18, hn_23, f_21, f_22, hX_19, hW, hB_G_14, hF, hq_15, hS, hl⟩ := hI
    refine lv_iload_n hx hb dX12_layNeeds_10 rfl (lv_at hl 0 rfl) ?_
    refine ic_2 hx hb dX12_layNeeds_11 ?_
    refine lv_icmp_ge (tgt := 27) hx hb dX12_layNeeds_12 rfl (fun c_24 => ?_) (fun c_24 => ?_)
    · have c_24 : 2 ≤ x_18.toInt := xI_le rfl rfl c_24
      obtain ⟨y_25, ey_25⟩ : ∃ q, q = x_6 + (-1) := ⟨_, rfl⟩
      have ty_25 : y_25.toInt = x_6.toInt + (-1) := xI_add rfl rfl ey_25 ((by first | exact ok_190 c_12 | omega)) ((by first | exact ok_191 f_9.2 | omega))
      refine lv_iinc (v := y_25) (lv' := [(1, .int y_25), (2, .int x_18), (0, .ref (a 66))]) hx hb dX12_layNeeds_27 hl (k := 1) rfl (by rw [ey_25]; rfl) (lt_b rfl) rfl (fun ls hl => ?_)
      have hq_26 : PRG G_14 y_25.toInt 0 := PRG_dn (show PRG G_14 x_6.toInt x_18.toInt by assumption) (by first | (clear hle1 hml9 h400 hn_11 hn_23; omega) | omega) (by first | (clear hle1 hml9 h400 hn_11 hn_23; omega) | omega)
      refine lv_goto (tgt := 4) hx hb dX12_layNeeds_30 rfl ?_
      exact ih_4 (y_25.toInt - (-1) : Int).toNat ((by first | (clear hle1 hml9 h400 hn_23 f_21 c_24; omega) | omega)) _ _ _ ⟨G_14, y_25, (Int.toNat_of_nonneg ((by first | exact ok_192 c_12 ty_25 | omega))), ⟨(by first | exact ok_193 c_12 ty_25 | omega), (by first | exact ok_194 f_9.2 ty_25 | omega)⟩, (by assumption), (hX_7.st (St_n_layNeeds_1_mk ⟨x_6, G_2, y_25, G_14, rfl, rfl, f_9, f_10, hB_G_2, ⟨c_12, ⟨x_18, G_14, hX_19, f_21, f_22, hB_G_14, hq_15, ⟨c_24, ⟨y_25, ty_25, ⟨rfl, rfl⟩⟩⟩⟩⟩⟩)), hW, hB_G_14, hF, (Fr.call9 (rs := [99]) (fs := []) (Fr.call9 (rs := [99]) (fs := []) Fr.rf hq_3 rfl rfl) hq_15 rfl rfl), hS, lv_sub hl [0, 2] rfl⟩
    · have c_24 : x_18.toInt < 2 := xI_nle rfl rfl c_24
      refine lv_aload_n hx hb dX12_layNeeds_15 rfl (lv_at hl 2 rfl) ?_
      refine lv_iload_n hx hb dX12_layNeeds_16 rfl (lv_at hl 1 rfl) ?_
      refine lv_iload_n hx hb dX12_layNeeds_17 rfl (lv_at hl 0 rfl) ?_
      have b_27 : 0 ≤ (G.1 66 61).toInt ∧ (G.1 66 61).toInt ≤ 60 := bd_66_61 hB_G
      have g_28 : (G_14.1 66 61).toInt = (G.1 66 61).toInt := (congrArg Int32.toInt (show G_14.1 66 61 = (G.1 66 61) from ((hq_15.i9 66 61 rfl rfl).trans (hq_3.i9 66 61 rfl rfl))))
      have g_29 : (G_14.1 66 61).toInt = (G.1 66 61).toInt := (congrArg Int32.toInt (show G_14.1 66 61 = (G.1 66 61) from ((hq_15.i9 66 61 rfl rfl).trans ((hq_3.i9 66 61 rfl rfl).trans (rfl)))))
      have b_30 : 0 ≤ (G.1 66 62).toInt ∧ (G.1 66 62).toInt ≤ 60 := bd_66_62 hB_G
      have g_31 : (G_14.1 66 62).toInt = (G.1 66 62).toInt := (congrArg Int32.toInt (show G_14.1 66 62 = (G.1 66 62) from ((hq_15.i9 66 62 rfl rfl).trans (hq_3.i9 66 62 rfl rfl))))
      have b_32 : 0 ≤ (G.1 66 63).toInt ∧ (G.1 66 63).toInt ≤ 99 := bd_66_63 hB_G
      have g_33 : (G_14.1 66 63).toInt = (G.1 66 63).toInt := (congrArg Int32.toInt (show G_14.1 66 63 = (G.1 66 63) from ((hq_15.i9 66 63 rfl rfl).trans (hq_3.i9 66 63 rfl rfl))))
      have b_34 : 0 ≤ (G.1 98 400).toInt ∧ (G.1 98 400).toInt ≤ 1 := bd_98_400 hB_G
      have g_35 : (G_14.1 98 400).toInt = (G.1 98 400).toInt := (congrArg Int32.toInt (show G_14.1 98 400 = (G.1 98 400) from ((hq_15.i9 98 400 rfl rfl).trans (hq_3.i9 98 400 rfl rfl))))
      refine S_callv (va_runV (As := [.int x_6, .int x_18]) (rest := []) ⟨hx, hb, hml, hown, hts⟩ (n_layNeed l D k A a z G_14 x_6 x_18 ⟨(by first | exact c_12 | omega), (by first | exact f_9.2 | omega)⟩ ⟨(by first | exact f_21.1 | omega), (by first | exact ok_1190 f_21.2 c_24 | omega)⟩ ((by first | exact ok_616 hle1 g_28 | omega)) ((by first | exact ⟨(by first | exact ok_185 hml9.1 g_28 g_31 | omega), (by first | exact ok_185 hml9.2 g_31 g_33 | omega)⟩ | omega)) ((by first | exact ok_911 h400 g_35 | omega)) (by assumption)) (cwV 2 hts (gd_V hgd m1850 m1852 m94 m131 m1853) rfl rfl rfl hd_X12_layNeed ⟨Nat.le_of_ble_eq_true rfl, Nat.le_of_ble_eq_true rfl⟩) (pre_W hW hB_G_14 hK hZ hS kd_66 rfl) rfl rfl hl.1 rfl (lv_room (Nat.le_of_ble_eq_true rfl)) dX12_layNeeds_18 ⟨Nat.le_of_ble_eq_true rfl, Nat.le_of_ble_eq_true rfl⟩) hS (fun G_37 H locs hpo hW hS => ?_)
      have hX_40 : Q_layNeed x_6 x_18 G_14 G_37 := hpo
      obtain ⟨hB_G_37, hq_38, hp_39, -⟩ := hpo
      have hF := hF.call9 hq_38 rfl rfl
      obtain ⟨y_41, ey_41⟩ : ∃ q, q = x_18 + 1 := ⟨_, rfl⟩
      have ty_41 : y_41.toInt = x_18.toInt + 1 := xI_add rfl rfl ey_41 ((by first | exact ok_21 f_21.1 | omega)) ((by first | exact ok_391 f_21.2 | omega))
      refine lv_iinc (v := y_41) (lv' := [(2, .int y_41), (1, .int x_6), (0, .ref (a 66))]) hx hb dX12_layNeeds_21 hl (k := 0) rfl (by rw [ey_41]; rfl) (lt_b rfl) rfl (fun ls hl => ?_)
      have hq_42 : PRG G_37 x_6.toInt y_41.toInt := by rw [ty_41]; assumption
      refine lv_goto (tgt := 10) hx hb dX12_layNeeds_24 rfl ?_
      exact ih_16 (2 - y_41.toInt : Int).toNat ((by first | (clear hle1 hml9 h400 hn_11 f_9 c_12 b_27 g_28 g_29 b_30 g_31 b_32 g_33 b_34 g_35; omega) | omega)) _ _ _ ⟨G_37, y_41, (Int.toNat_of_nonneg ((by first | exact ok_1191 f_21.2 c_24 ty_41 | omega))), ⟨(by first | exact ok_23 f_21.1 ty_41 | omega), (by first | exact ok_1192 f_21.2 c_24 ty_41 | omega)⟩, (by assumption), (hX_19.st (St_n_layNeeds_2_mk ⟨x_18, G_14, y_41, G_37, rfl, rfl, f_21, f_22, hB_G_14, ⟨c_24, ⟨G_37, hX_40, ⟨y_41, ty_41, ⟨rfl, rfl⟩⟩⟩⟩⟩)), hW, hB_G_37, hF, (Fr.call9 (rs := [99]) (fs := []) (Fr.call9 (rs := [99]) (fs := []) Fr.rf hq_15 rfl rfl) hq_38 rfl rfl), hS, lv_sub hl [0, 1, 2] rfl⟩
