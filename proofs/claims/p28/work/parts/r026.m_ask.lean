theorem m98 : Cond.selects RX12 yX12_goOn yX12_goOn ∈ gd := gds_7 2 rfl
theorem m102 : Cond.selects RX12 yX12_keepOn yX12_keepOn ∈ gd := gds_7 6 rfl
theorem m1875 : Cond.methodLink RX12 519 yX12_goOn ∈ gd := gdc_8_4 15 rfl gw_methodLink
theorem m1877 : Cond.instanceMethod yX12_goOn ∈ gd := gdc_8_5 1 rfl gw_instanceMethod
theorem m1878 : Cond.code yX12_goOn cX12_goOn 5 none ∈ gd := gdc_8_5 2 rfl gw_code
theorem m1935 : Cond.methodLink RX12 550 yX12_keepOn ∈ gd := gdc_8_8 11 rfl gw_methodLink
theorem m1937 : Cond.instanceMethod yX12_keepOn ∈ gd := gdc_8_8 13 rfl gw_instanceMethod
theorem m1938 : Cond.code yX12_keepOn cX12_keepOn 6 none ∈ gd := gdc_8_8 14 rfl gw_code
noncomputable def rbX12_keeps_0 : List (Nat × List Nat) := [(0, [42]), (1, [27]), (2, [28]), (3, [29]), (4, [182, 1, 234]), (7, [154, 0, 5]), (10, [2]), (11, [172]), (12, [42]), (13, [27]), (14, [28]), (15, [29]), (16, [182, 1, 237]), (19, [3]), (20, [54, 4]), (22, [21, 4]), (24, [17, 4, 0]), (27, [162, 0, 75]), (30, [42]), (31, [180, 0, 133]), (34, [21, 4]), (36, [21, 4]), (38, [5]), (39, [112])]
theorem rcX12_keeps_0 : dgo (lb cX12_keeps) 0 rbX12_keeps_0 = true := by decide +kernel
theorem dX12_keeps_0 : decode cX12_keeps 0 = .ok (.aload_n 0, 1) := dk_42 (dw rcX12_keeps_0 0 rfl)
theorem dX12_keeps_1 : decode cX12_keeps 1 = .ok (.iload_n 1, 1) := dk_27 (dw rcX12_keeps_0 1 rfl)
theorem dX12_keeps_2 : decode cX12_keeps 2 = .ok (.iload_n 2, 1) := dk_28 (dw rcX12_keeps_0 2 rfl)
theorem dX12_keeps_3 : decode cX12_keeps 3 = .ok (.iload_n 3, 1) := dk_29 (dw rcX12_keeps_0 3 rfl)
theorem dX12_keeps_4 : decode cX12_keeps 4 = .ok (.invokevirtual 490, 3) := dk_182 (dw rcX12_keeps_0 4 rfl) rfl
theorem dX12_keeps_7 : decode cX12_keeps 7 = .ok (.ifCond .ne 5, 3) := dk_154 (dw rcX12_keeps_0 5 rfl) rfl
theorem dX12_keeps_10 : decode cX12_keeps 10 = .ok (.iconst (-1), 1) := dk_2 (dw rcX12_keeps_0 6 rfl)
theorem dX12_keeps_11 : decode cX12_keeps 11 = .ok (.ireturn, 1) := dk_172 (dw rcX12_keeps_0 7 rfl)
theorem dX12_keeps_12 : decode cX12_keeps 12 = .ok (.aload_n 0, 1) := dk_42 (dw rcX12_keeps_0 8 rfl)
theorem dX12_keeps_13 : decode cX12_keeps 13 = .ok (.iload_n 1, 1) := dk_27 (dw rcX12_keeps_0 9 rfl)
theorem dX12_keeps_14 : decode cX12_keeps 14 = .ok (.iload_n 2, 1) := dk_28 (dw rcX12_keeps_0 10 rfl)
theorem dX12_keeps_15 : decode cX12_keeps 15 = .ok (.iload_n 3, 1) := dk_29 (dw rcX12_keeps_0 11 rfl)
theorem dX12_keeps_16 : decode cX12_keeps 16 = .ok (.invokevirtual 493, 3) := dk_182 (dw rcX12_keeps_0 12 rfl) rfl
theorem dX12_keeps_19 : decode cX12_keeps 19 = .ok (.iconst 0, 1) := dk_3 (dw rcX12_keeps_0 13 rfl)
theorem dX12_keeps_20 : decode cX12_keeps 20 = .ok (.istore 4, 2) := dk_54 (dw rcX12_keeps_0 14 rfl)
theorem dX12_keeps_22 : decode cX12_keeps 22 = .ok (.iload 4, 2) := dk_21 (dw rcX12_keeps_0 15 rfl)
theorem dX12_keeps_24 : decode cX12_keeps 24 = .ok (.sipush 1024, 3) := dk_17 (dw rcX12_keeps_0 16 rfl) rfl
theorem dX12_keeps_27 : decode cX12_keeps 27 = .ok (.if_icmp .ge 75, 3) := dk_162 (dw rcX12_keeps_0 17 rfl) rfl
theorem dX12_keeps_30 : decode cX12_keeps 30 = .ok (.aload_n 0, 1) := dk_42 (dw rcX12_keeps_0 18 rfl)
theorem dX12_keeps_31 : decode cX12_keeps 31 = .ok (.getfield 133, 3) := dk_180 (dw rcX12_keeps_0 19 rfl) rfl
theorem dX12_keeps_34 : decode cX12_keeps 34 = .ok (.iload 4, 2) := dk_21 (dw rcX12_keeps_0 20 rfl)
theorem dX12_keeps_36 : decode cX12_keeps 36 = .ok (.iload 4, 2) := dk_21 (dw rcX12_keeps_0 21 rfl)
theorem dX12_keeps_38 : decode cX12_keeps 38 = .ok (.iconst 2, 1) := dk_5 (dw rcX12_keeps_0 22 rfl)
theorem dX12_keeps_39 : decode cX12_keeps 39 = .ok (.irem, 1) := dk_112 (dw rcX12_keeps_0 23 rfl)
noncomputable def rbX12_keeps_40 : List (Nat × List Nat) := [(40, [154, 0, 52]), (43, [21, 4]), (45, [5]), (46, [108]), (47, [42]), (48, [180, 1, 222]), (51, [162, 0, 41]), (54, [21, 4]), (56, [5]), (57, [108]), (58, [17, 1, 144]), (61, [162, 0, 31]), (64, [42]), (65, [180, 0, 115]), (68, [21, 4]), (70, [5]), (71, [108]), (72, [51]), (73, [153, 0, 19]), (76, [42]), (77, [21, 4]), (79, [5]), (80, [108]), (81, [3])]
theorem rcX12_keeps_40 : dgo (lb cX12_keeps) 0 rbX12_keeps_40 = true := by decide +kernel
theorem dX12_keeps_40 : decode cX12_keeps 40 = .ok (.ifCond .ne 52, 3) := dk_154 (dw rcX12_keeps_40 0 rfl) rfl
theorem dX12_keeps_43 : decode cX12_keeps 43 = .ok (.iload 4, 2) := dk_21 (dw rcX12_keeps_40 1 rfl)
theorem dX12_keeps_45 : decode cX12_keeps 45 = .ok (.iconst 2, 1) := dk_5 (dw rcX12_keeps_40 2 rfl)
theorem dX12_keeps_46 : decode cX12_keeps 46 = .ok (.idiv, 1) := dk_108 (dw rcX12_keeps_40 3 rfl)
theorem dX12_keeps_47 : decode cX12_keeps 47 = .ok (.aload_n 0, 1) := dk_42 (dw rcX12_keeps_40 4 rfl)
theorem dX12_keeps_48 : decode cX12_keeps 48 = .ok (.getfield 478, 3) := dk_180 (dw rcX12_keeps_40 5 rfl) rfl
theorem dX12_keeps_51 : decode cX12_keeps 51 = .ok (.if_icmp .ge 41, 3) := dk_162 (dw rcX12_keeps_40 6 rfl) rfl
theorem dX12_keeps_54 : decode cX12_keeps 54 = .ok (.iload 4, 2) := dk_21 (dw rcX12_keeps_40 7 rfl)
theorem dX12_keeps_56 : decode cX12_keeps 56 = .ok (.iconst 2, 1) := dk_5 (dw rcX12_keeps_40 8 rfl)
theorem dX12_keeps_57 : decode cX12_keeps 57 = .ok (.idiv, 1) := dk_108 (dw rcX12_keeps_40 9 rfl)
theorem dX12_keeps_58 : decode cX12_keeps 58 = .ok (.sipush 400, 3) := dk_17 (dw rcX12_keeps_40 10 rfl) rfl
theorem dX12_keeps_61 : decode cX12_keeps 61 = .ok (.if_icmp .ge 31, 3) := dk_162 (dw rcX12_keeps_40 11 rfl) rfl
theorem dX12_keeps_64 : decode cX12_keeps 64 = .ok (.aload_n 0, 1) := dk_42 (dw rcX12_keeps_40 12 rfl)
theorem dX12_keeps_65 : decode cX12_keeps 65 = .ok (.getfield 115, 3) := dk_180 (dw rcX12_keeps_40 13 rfl) rfl
theorem dX12_keeps_68 : decode cX12_keeps 68 = .ok (.iload 4, 2) := dk_21 (dw rcX12_keeps_40 14 rfl)
theorem dX12_keeps_70 : decode cX12_keeps 70 = .ok (.iconst 2, 1) := dk_5 (dw rcX12_keeps_40 15 rfl)
theorem dX12_keeps_71 : decode cX12_keeps 71 = .ok (.idiv, 1) := dk_108 (dw rcX12_keeps_40 16 rfl)
theorem dX12_keeps_72 : decode cX12_keeps 72 = .ok (.baload, 1) := dk_51 (dw rcX12_keeps_40 17 rfl)
theorem dX12_keeps_73 : decode cX12_keeps 73 = .ok (.ifCond .eq 19, 3) := dk_153 (dw rcX12_keeps_40 18 rfl) rfl
theorem dX12_keeps_76 : decode cX12_keeps 76 = .ok (.aload_n 0, 1) := dk_42 (dw rcX12_keeps_40 19 rfl)
theorem dX12_keeps_77 : decode cX12_keeps 77 = .ok (.iload 4, 2) := dk_21 (dw rcX12_keeps_40 20 rfl)
theorem dX12_keeps_79 : decode cX12_keeps 79 = .ok (.iconst 2, 1) := dk_5 (dw rcX12_keeps_40 21 rfl)
theorem dX12_keeps_80 : decode cX12_keeps 80 = .ok (.idiv, 1) := dk_108 (dw rcX12_keeps_40 22 rfl)
theorem dX12_keeps_81 : decode cX12_keeps 81 = .ok (.iconst 0, 1) := dk_3 (dw rcX12_keeps_40 23 rfl)
noncomputable def rbX12_keeps_82 : List (Nat × List Nat) := [(82, [182, 2, 35]), (85, [153, 0, 7]), (88, [3]), (89, [167, 0, 6]), (92, [19, 1, 246]), (95, [79]), (96, [132, 4, 1]), (99, [167, 255, 179]), (102, [19, 1, 246]), (105, [54, 4]), (107, [4]), (108, [54, 5]), (110, [21, 5]), (112, [17, 1, 144]), (115, [163, 0, 136]), (118, [3]), (119, [54, 6]), (121, [21, 6]), (123, [17, 4, 0]), (126, [162, 0, 19]), (129, [42]), (130, [180, 0, 136]), (133, [21, 6]), (135, [19, 1, 246])]
theorem rcX12_keeps_82 : dgo (lb cX12_keeps) 0 rbX12_keeps_82 = true := by decide +kernel
theorem dX12_keeps_82 : decode cX12_keeps 82 = .ok (.invokevirtual 547, 3) := dk_182 (dw rcX12_keeps_82 0 rfl) rfl
theorem dX12_keeps_85 : decode cX12_keeps 85 = .ok (.ifCond .eq 7, 3) := dk_153 (dw rcX12_keeps_82 1 rfl) rfl
theorem dX12_keeps_88 : decode cX12_keeps 88 = .ok (.iconst 0, 1) := dk_3 (dw rcX12_keeps_82 2 rfl)
theorem dX12_keeps_89 : decode cX12_keeps 89 = .ok (.goto 6, 3) := dk_167 (dw rcX12_keeps_82 3 rfl) rfl
theorem dX12_keeps_92 : decode cX12_keeps 92 = .ok (.ldc_w 502, 3) := dk_19 (dw rcX12_keeps_82 4 rfl) rfl
theorem dX12_keeps_95 : decode cX12_keeps 95 = .ok (.iastore, 1) := dk_79 (dw rcX12_keeps_82 5 rfl)
theorem dX12_keeps_96 : decode cX12_keeps 96 = .ok (.iinc 4 1, 3) := dk_132 (dw rcX12_keeps_82 6 rfl) rfl
theorem dX12_keeps_99 : decode cX12_keeps 99 = .ok (.goto (-77), 3) := dk_167 (dw rcX12_keeps_82 7 rfl) rfl
theorem dX12_keeps_102 : decode cX12_keeps 102 = .ok (.ldc_w 502, 3) := dk_19 (dw rcX12_keeps_82 8 rfl) rfl
theorem dX12_keeps_105 : decode cX12_keeps 105 = .ok (.istore 4, 2) := dk_54 (dw rcX12_keeps_82 9 rfl)
theorem dX12_keeps_107 : decode cX12_keeps 107 = .ok (.iconst 1, 1) := dk_4 (dw rcX12_keeps_82 10 rfl)
theorem dX12_keeps_108 : decode cX12_keeps 108 = .ok (.istore 5, 2) := dk_54 (dw rcX12_keeps_82 11 rfl)
theorem dX12_keeps_110 : decode cX12_keeps 110 = .ok (.iload 5, 2) := dk_21 (dw rcX12_keeps_82 12 rfl)
theorem dX12_keeps_112 : decode cX12_keeps 112 = .ok (.sipush 400, 3) := dk_17 (dw rcX12_keeps_82 13 rfl) rfl
theorem dX12_keeps_115 : decode cX12_keeps 115 = .ok (.if_icmp .gt 136, 3) := dk_163 (dw rcX12_keeps_82 14 rfl) rfl
theorem dX12_keeps_118 : decode cX12_keeps 118 = .ok (.iconst 0, 1) := dk_3 (dw rcX12_keeps_82 15 rfl)
theorem dX12_keeps_119 : decode cX12_keeps 119 = .ok (.istore 6, 2) := dk_54 (dw rcX12_keeps_82 16 rfl)
theorem dX12_keeps_121 : decode cX12_keeps 121 = .ok (.iload 6, 2) := dk_21 (dw rcX12_keeps_82 17 rfl)
theorem dX12_keeps_123 : decode cX12_keeps 123 = .ok (.sipush 1024, 3) := dk_17 (dw rcX12_keeps_82 18 rfl) rfl
theorem dX12_keeps_126 : decode cX12_keeps 126 = .ok (.if_icmp .ge 19, 3) := dk_162 (dw rcX12_keeps_82 19 rfl) rfl
theorem dX12_keeps_129 : decode cX12_keeps 129 = .ok (.aload_n 0, 1) := dk_42 (dw rcX12_keeps_82 20 rfl)
theorem dX12_keeps_130 : decode cX12_keeps 130 = .ok (.getfield 136, 3) := dk_180 (dw rcX12_keeps_82 21 rfl) rfl
theorem dX12_keeps_133 : decode cX12_keeps 133 = .ok (.iload 6, 2) := dk_21 (dw rcX12_keeps_82 22 rfl)
theorem dX12_keeps_135 : decode cX12_keeps 135 = .ok (.ldc_w 502, 3) := dk_19 (dw rcX12_keeps_82 23 rfl) rfl
noncomputable def rbX12_keeps_138 : List (Nat × List Nat) := [(138, [79]), (139, [132, 6, 1]), (142, [167, 255, 235]), (145, [3]), (146, [54, 6]), (148, [21, 6]), (150, [17, 3, 32]), (153, [162, 0, 61]), (156, [42]), (157, [180, 0, 133]), (160, [21, 6]), (162, [46]), (163, [19, 1, 246]), (166, [160, 0, 6]), (169, [167, 0, 39]), (172, [42]), (173, [21, 6]), (175, [5]), (176, [108]), (177, [182, 1, 243]), (180, [153, 0, 20]), (183, [21, 4]), (185, [42]), (186, [180, 0, 133])]
theorem rcX12_keeps_138 : dgo (lb cX12_keeps) 0 rbX12_keeps_138 = true := by decide +kernel
theorem dX12_keeps_138 : decode cX12_keeps 138 = .ok (.iastore, 1) := dk_79 (dw rcX12_keeps_138 0 rfl)
theorem dX12_keeps_139 : decode cX12_keeps 139 = .ok (.iinc 6 1, 3) := dk_132 (dw rcX12_keeps_138 1 rfl) rfl
theorem dX12_keeps_142 : decode cX12_keeps 142 = .ok (.goto (-21), 3) := dk_167 (dw rcX12_keeps_138 2 rfl) rfl
theorem dX12_keeps_145 : decode cX12_keeps 145 = .ok (.iconst 0, 1) := dk_3 (dw rcX12_keeps_138 3 rfl)
theorem dX12_keeps_146 : decode cX12_keeps 146 = .ok (.istore 6, 2) := dk_54 (dw rcX12_keeps_138 4 rfl)
theorem dX12_keeps_148 : decode cX12_keeps 148 = .ok (.iload 6, 2) := dk_21 (dw rcX12_keeps_138 5 rfl)
theorem dX12_keeps_150 : decode cX12_keeps 150 = .ok (.sipush 800, 3) := dk_17 (dw rcX12_keeps_138 6 rfl) rfl
theorem dX12_keeps_153 : decode cX12_keeps 153 = .ok (.if_icmp .ge 61, 3) := dk_162 (dw rcX12_keeps_138 7 rfl) rfl
theorem dX12_keeps_156 : decode cX12_keeps 156 = .ok (.aload_n 0, 1) := dk_42 (dw rcX12_keeps_138 8 rfl)
theorem dX12_keeps_157 : decode cX12_keeps 157 = .ok (.getfield 133, 3) := dk_180 (dw rcX12_keeps_138 9 rfl) rfl
theorem dX12_keeps_160 : decode cX12_keeps 160 = .ok (.iload 6, 2) := dk_21 (dw rcX12_keeps_138 10 rfl)
theorem dX12_keeps_162 : decode cX12_keeps 162 = .ok (.iaload, 1) := dk_46 (dw rcX12_keeps_138 11 rfl)
theorem dX12_keeps_163 : decode cX12_keeps 163 = .ok (.ldc_w 502, 3) := dk_19 (dw rcX12_keeps_138 12 rfl) rfl
theorem dX12_keeps_166 : decode cX12_keeps 166 = .ok (.if_icmp .ne 6, 3) := dk_160 (dw rcX12_keeps_138 13 rfl) rfl
theorem dX12_keeps_169 : decode cX12_keeps 169 = .ok (.goto 39, 3) := dk_167 (dw rcX12_keeps_138 14 rfl) rfl
theorem dX12_keeps_172 : decode cX12_keeps 172 = .ok (.aload_n 0, 1) := dk_42 (dw rcX12_keeps_138 15 rfl)
theorem dX12_keeps_173 : decode cX12_keeps 173 = .ok (.iload 6, 2) := dk_21 (dw rcX12_keeps_138 16 rfl)
theorem dX12_keeps_175 : decode cX12_keeps 175 = .ok (.iconst 2, 1) := dk_5 (dw rcX12_keeps_138 17 rfl)
theorem dX12_keeps_176 : decode cX12_keeps 176 = .ok (.idiv, 1) := dk_108 (dw rcX12_keeps_138 18 rfl)
theorem dX12_keeps_177 : decode cX12_keeps 177 = .ok (.invokevirtual 499, 3) := dk_182 (dw rcX12_keeps_138 19 rfl) rfl
theorem dX12_keeps_180 : decode cX12_keeps 180 = .ok (.ifCond .eq 20, 3) := dk_153 (dw rcX12_keeps_138 20 rfl) rfl
theorem dX12_keeps_183 : decode cX12_keeps 183 = .ok (.iload 4, 2) := dk_21 (dw rcX12_keeps_138 21 rfl)
theorem dX12_keeps_185 : decode cX12_keeps 185 = .ok (.aload_n 0, 1) := dk_42 (dw rcX12_keeps_138 22 rfl)
theorem dX12_keeps_186 : decode cX12_keeps 186 = .ok (.getfield 133, 3) := dk_180 (dw rcX12_keeps_138 23 rfl) rfl
noncomputable def rbX12_keeps_189 : List (Nat × List Nat) := [(189, [21, 6]), (191, [46]), (192, [184, 1, 250]), (195, [54, 4]), (197, [167, 0, 11]), (200, [42]), (201, [21, 6]), (203, [21, 5]), (205, [182, 2, 38]), (208, [132, 6, 1]), (211, [167, 255, 193]), (214, [3]), (215, [54, 6]), (217, [21, 6]), (219, [17, 4, 0]), (222, [162, 0, 23]), (225, [42]), (226, [180, 0, 133]), (229, [21, 6]), (231, [42]), (232, [180, 0, 136]), (235, [21, 6]), (237, [46]), (238, [79])]
theorem rcX12_keeps_189 : dgo (lb cX12_keeps) 0 rbX12_keeps_189 = true := by decide +kernel
theorem dX12_keeps_189 : decode cX12_keeps 189 = .ok (.iload 6, 2) := dk_21 (dw rcX12_keeps_189 0 rfl)
theorem dX12_keeps_191 : decode cX12_keeps 191 = .ok (.iaload, 1) := dk_46 (dw rcX12_keeps_189 1 rfl)
theorem dX12_keeps_192 : decode cX12_keeps 192 = .ok (.invokestatic 506, 3) := dk_184 (dw rcX12_keeps_189 2 rfl) rfl
theorem dX12_keeps_195 : decode cX12_keeps 195 = .ok (.istore 4, 2) := dk_54 (dw rcX12_keeps_189 3 rfl)
theorem dX12_keeps_197 : decode cX12_keeps 197 = .ok (.goto 11, 3) := dk_167 (dw rcX12_keeps_189 4 rfl) rfl
theorem dX12_keeps_200 : decode cX12_keeps 200 = .ok (.aload_n 0, 1) := dk_42 (dw rcX12_keeps_189 5 rfl)
theorem dX12_keeps_201 : decode cX12_keeps 201 = .ok (.iload 6, 2) := dk_21 (dw rcX12_keeps_189 6 rfl)
theorem dX12_keeps_203 : decode cX12_keeps 203 = .ok (.iload 5, 2) := dk_21 (dw rcX12_keeps_189 7 rfl)
theorem dX12_keeps_205 : decode cX12_keeps 205 = .ok (.invokevirtual 550, 3) := dk_182 (dw rcX12_keeps_189 8 rfl) rfl
theorem dX12_keeps_208 : decode cX12_keeps 208 = .ok (.iinc 6 1, 3) := dk_132 (dw rcX12_keeps_189 9 rfl) rfl
theorem dX12_keeps_211 : decode cX12_keeps 211 = .ok (.goto (-63), 3) := dk_167 (dw rcX12_keeps_189 10 rfl) rfl
theorem dX12_keeps_214 : decode cX12_keeps 214 = .ok (.iconst 0, 1) := dk_3 (dw rcX12_keeps_189 11 rfl)
theorem dX12_keeps_215 : decode cX12_keeps 215 = .ok (.istore 6, 2) := dk_54 (dw rcX12_keeps_189 12 rfl)
theorem dX12_keeps_217 : decode cX12_keeps 217 = .ok (.iload 6, 2) := dk_21 (dw rcX12_keeps_189 13 rfl)
theorem dX12_keeps_219 : decode cX12_keeps 219 = .ok (.sipush 1024, 3) := dk_17 (dw rcX12_keeps_189 14 rfl) rfl
theorem dX12_keeps_222 : decode cX12_keeps 222 = .ok (.if_icmp .ge 23, 3) := dk_162 (dw rcX12_keeps_189 15 rfl) rfl
theorem dX12_keeps_225 : decode cX12_keeps 225 = .ok (.aload_n 0, 1) := dk_42 (dw rcX12_keeps_189 16 rfl)
theorem dX12_keeps_226 : decode cX12_keeps 226 = .ok (.getfield 133, 3) := dk_180 (dw rcX12_keeps_189 17 rfl) rfl
theorem dX12_keeps_229 : decode cX12_keeps 229 = .ok (.iload 6, 2) := dk_21 (dw rcX12_keeps_189 18 rfl)
theorem dX12_keeps_231 : decode cX12_keeps 231 = .ok (.aload_n 0, 1) := dk_42 (dw rcX12_keeps_189 19 rfl)
theorem dX12_keeps_232 : decode cX12_keeps 232 = .ok (.getfield 136, 3) := dk_180 (dw rcX12_keeps_189 20 rfl) rfl
theorem dX12_keeps_235 : decode cX12_keeps 235 = .ok (.iload 6, 2) := dk_21 (dw rcX12_keeps_189 21 rfl)
theorem dX12_keeps_237 : decode cX12_keeps 237 = .ok (.iaload, 1) := dk_46 (dw rcX12_keeps_189 22 rfl)
theorem dX12_keeps_238 : decode cX12_keeps 238 = .ok (.iastore, 1) := dk_79 (dw rcX12_keeps_189 23 rfl)
noncomputable def rbX12_keeps_239 : List (Nat × List Nat) := [(239, [132, 6, 1]), (242, [167, 255, 231]), (245, [132, 5, 1]), (248, [167, 255, 118]), (251, [21, 4]), (253, [19, 1, 246]), (256, [160, 0, 7]), (259, [2]), (260, [167, 0, 5]), (263, [21, 4]), (265, [172])]
theorem rcX12_keeps_239 : dgo (lb cX12_keeps) 0 rbX12_keeps_239 = true := by decide +kernel
theorem dX12_keeps_239 : decode cX12_keeps 239 = .ok (.iinc 6 1, 3) := dk_132 (dw rcX12_keeps_239 0 rfl) rfl
theorem dX12_keeps_242 : decode cX12_keeps 242 = .ok (.goto (-25), 3) := dk_167 (dw rcX12_keeps_239 1 rfl) rfl
theorem dX12_keeps_245 : decode cX12_keeps 245 = .ok (.iinc 5 1, 3) := dk_132 (dw rcX12_keeps_239 2 rfl) rfl
theorem dX12_keeps_248 : decode cX12_keeps 248 = .ok (.goto (-138), 3) := dk_167 (dw rcX12_keeps_239 3 rfl) rfl
theorem dX12_keeps_251 : decode cX12_keeps 251 = .ok (.iload 4, 2) := dk_21 (dw rcX12_keeps_239 4 rfl)
theorem dX12_keeps_253 : decode cX12_keeps 253 = .ok (.ldc_w 502, 3) := dk_19 (dw rcX12_keeps_239 5 rfl) rfl
theorem dX12_keeps_256 : decode cX12_keeps 256 = .ok (.if_icmp .ne 7, 3) := dk_160 (dw rcX12_keeps_239 6 rfl) rfl
theorem dX12_keeps_259 : decode cX12_keeps 259 = .ok (.iconst (-1), 1) := dk_2 (dw rcX12_keeps_239 7 rfl)
theorem dX12_keeps_260 : decode cX12_keeps 260 = .ok (.goto 5, 3) := dk_167 (dw rcX12_keeps_239 8 rfl) rfl
theorem dX12_keeps_263 : decode cX12_keeps 263 = .ok (.iload 4, 2) := dk_21 (dw rcX12_keeps_239 9 rfl)
theorem dX12_keeps_265 : decode cX12_keeps 265 = .ok (.ireturn, 1) := dk_172 (dw rcX12_keeps_239 10 rfl)
noncomputable def rbX12_ways_0 : List (Nat × List Nat) := [(0, [42]), (1, [27]), (2, [28]), (3, [29]), (4, [182, 1, 234]), (7, [153, 0, 14]), (10, [21, 4]), (12, [4]), (13, [16, 60]), (15, [184, 1, 193]), (18, [154, 0, 7]), (21, [20, 2, 5]), (24, [173]), (25, [42]), (26, [27]), (27, [28]), (28, [29]), (29, [182, 1, 237]), (32, [3]), (33, [54, 5]), (35, [21, 5]), (37, [17, 4, 0]), (40, [162, 0, 61]), (43, [42])]
theorem rcX12_ways_0 : dgo (lb cX12_ways) 0 rbX12_ways_0 = true := by decide +kernel
theorem dX12_ways_0 : decode cX12_ways 0 = .ok (.aload_n 0, 1) := dk_42 (dw rcX12_ways_0 0 rfl)
theorem dX12_ways_1 : decode cX12_ways 1 = .ok (.iload_n 1, 1) := dk_27 (dw rcX12_ways_0 1 rfl)
theorem dX12_ways_2 : decode cX12_ways 2 = .ok (.iload_n 2, 1) := dk_28 (dw rcX12_ways_0 2 rfl)
theorem dX12_ways_3 : decode cX12_ways 3 = .ok (.iload_n 3, 1) := dk_29 (dw rcX12_ways_0 3 rfl)
theorem dX12_ways_4 : decode cX12_ways 4 = .ok (.invokevirtual 490, 3) := dk_182 (dw rcX12_ways_0 4 rfl) rfl
theorem dX12_ways_7 : decode cX12_ways 7 = .ok (.ifCond .eq 14, 3) := dk_153 (dw rcX12_ways_0 5 rfl) rfl
theorem dX12_ways_10 : decode cX12_ways 10 = .ok (.iload 4, 2) := dk_21 (dw rcX12_ways_0 6 rfl)
theorem dX12_ways_12 : decode cX12_ways 12 = .ok (.iconst 1, 1) := dk_4 (dw rcX12_ways_0 7 rfl)
theorem dX12_ways_13 : decode cX12_ways 13 = .ok (.bipush 60, 2) := dk_16 (dw rcX12_ways_0 8 rfl) rfl
theorem dX12_ways_15 : decode cX12_ways 15 = .ok (.invokestatic 449, 3) := dk_184 (dw rcX12_ways_0 9 rfl) rfl
theorem dX12_ways_18 : decode cX12_ways 18 = .ok (.ifCond .ne 7, 3) := dk_154 (dw rcX12_ways_0 10 rfl) rfl
theorem dX12_ways_21 : decode cX12_ways 21 = .ok (.ldc2_w 517, 3) := dk_20 (dw rcX12_ways_0 11 rfl) rfl
theorem dX12_ways_24 : decode cX12_ways 24 = .ok (.lreturn, 1) := dk_173 (dw rcX12_ways_0 12 rfl)
theorem dX12_ways_25 : decode cX12_ways 25 = .ok (.aload_n 0, 1) := dk_42 (dw rcX12_ways_0 13 rfl)
theorem dX12_ways_26 : decode cX12_ways 26 = .ok (.iload_n 1, 1) := dk_27 (dw rcX12_ways_0 14 rfl)
theorem dX12_ways_27 : decode cX12_ways 27 = .ok (.iload_n 2, 1) := dk_28 (dw rcX12_ways_0 15 rfl)
theorem dX12_ways_28 : decode cX12_ways 28 = .ok (.iload_n 3, 1) := dk_29 (dw rcX12_ways_0 16 rfl)
theorem dX12_ways_29 : decode cX12_ways 29 = .ok (.invokevirtual 493, 3) := dk_182 (dw rcX12_ways_0 17 rfl) rfl
theorem dX12_ways_32 : decode cX12_ways 32 = .ok (.iconst 0, 1) := dk_3 (dw rcX12_ways_0 18 rfl)
theorem dX12_ways_33 : decode cX12_ways 33 = .ok (.istore 5, 2) := dk_54 (dw rcX12_ways_0 19 rfl)
theorem dX12_ways_35 : decode cX12_ways 35 = .ok (.iload 5, 2) := dk_21 (dw rcX12_ways_0 20 rfl)
theorem dX12_ways_37 : decode cX12_ways 37 = .ok (.sipush 1024, 3) := dk_17 (dw rcX12_ways_0 21 rfl) rfl
theorem dX12_ways_40 : decode cX12_ways 40 = .ok (.if_icmp .ge 61, 3) := dk_162 (dw rcX12_ways_0 22 rfl) rfl
theorem dX12_ways_43 : decode cX12_ways 43 = .ok (.aload_n 0, 1) := dk_42 (dw rcX12_ways_0 23 rfl)
noncomputable def rbX12_ways_44 : List (Nat × List Nat) := [(44, [180, 0, 124]), (47, [21, 5]), (49, [21, 5]), (51, [5]), (52, [112]), (53, [154, 0, 40]), (56, [21, 5]), (58, [5]), (59, [108]), (60, [42]), (61, [180, 1, 222]), (64, [162, 0, 29]), (67, [21, 5]), (69, [5]), (70, [108]), (71, [17, 1, 144]), (74, [162, 0, 19]), (77, [42]), (78, [180, 0, 115]), (81, [21, 5]), (83, [5]), (84, [108]), (85, [51]), (86, [153, 0, 7])]
theorem rcX12_ways_44 : dgo (lb cX12_ways) 0 rbX12_ways_44 = true := by decide +kernel
theorem dX12_ways_44 : decode cX12_ways 44 = .ok (.getfield 124, 3) := dk_180 (dw rcX12_ways_44 0 rfl) rfl
theorem dX12_ways_47 : decode cX12_ways 47 = .ok (.iload 5, 2) := dk_21 (dw rcX12_ways_44 1 rfl)
theorem dX12_ways_49 : decode cX12_ways 49 = .ok (.iload 5, 2) := dk_21 (dw rcX12_ways_44 2 rfl)
theorem dX12_ways_51 : decode cX12_ways 51 = .ok (.iconst 2, 1) := dk_5 (dw rcX12_ways_44 3 rfl)
theorem dX12_ways_52 : decode cX12_ways 52 = .ok (.irem, 1) := dk_112 (dw rcX12_ways_44 4 rfl)
theorem dX12_ways_53 : decode cX12_ways 53 = .ok (.ifCond .ne 40, 3) := dk_154 (dw rcX12_ways_44 5 rfl) rfl
theorem dX12_ways_56 : decode cX12_ways 56 = .ok (.iload 5, 2) := dk_21 (dw rcX12_ways_44 6 rfl)
theorem dX12_ways_58 : decode cX12_ways 58 = .ok (.iconst 2, 1) := dk_5 (dw rcX12_ways_44 7 rfl)
theorem dX12_ways_59 : decode cX12_ways 59 = .ok (.idiv, 1) := dk_108 (dw rcX12_ways_44 8 rfl)
theorem dX12_ways_60 : decode cX12_ways 60 = .ok (.aload_n 0, 1) := dk_42 (dw rcX12_ways_44 9 rfl)
theorem dX12_ways_61 : decode cX12_ways 61 = .ok (.getfield 478, 3) := dk_180 (dw rcX12_ways_44 10 rfl) rfl
theorem dX12_ways_64 : decode cX12_ways 64 = .ok (.if_icmp .ge 29, 3) := dk_162 (dw rcX12_ways_44 11 rfl) rfl
theorem dX12_ways_67 : decode cX12_ways 67 = .ok (.iload 5, 2) := dk_21 (dw rcX12_ways_44 12 rfl)
theorem dX12_ways_69 : decode cX12_ways 69 = .ok (.iconst 2, 1) := dk_5 (dw rcX12_ways_44 13 rfl)
theorem dX12_ways_70 : decode cX12_ways 70 = .ok (.idiv, 1) := dk_108 (dw rcX12_ways_44 14 rfl)
theorem dX12_ways_71 : decode cX12_ways 71 = .ok (.sipush 400, 3) := dk_17 (dw rcX12_ways_44 15 rfl) rfl
theorem dX12_ways_74 : decode cX12_ways 74 = .ok (.if_icmp .ge 19, 3) := dk_162 (dw rcX12_ways_44 16 rfl) rfl
theorem dX12_ways_77 : decode cX12_ways 77 = .ok (.aload_n 0, 1) := dk_42 (dw rcX12_ways_44 17 rfl)
theorem dX12_ways_78 : decode cX12_ways 78 = .ok (.getfield 115, 3) := dk_180 (dw rcX12_ways_44 18 rfl) rfl
theorem dX12_ways_81 : decode cX12_ways 81 = .ok (.iload 5, 2) := dk_21 (dw rcX12_ways_44 19 rfl)
theorem dX12_ways_83 : decode cX12_ways 83 = .ok (.iconst 2, 1) := dk_5 (dw rcX12_ways_44 20 rfl)
theorem dX12_ways_84 : decode cX12_ways 84 = .ok (.idiv, 1) := dk_108 (dw rcX12_ways_44 21 rfl)
theorem dX12_ways_85 : decode cX12_ways 85 = .ok (.baload, 1) := dk_51 (dw rcX12_ways_44 22 rfl)
theorem dX12_ways_86 : decode cX12_ways 86 = .ok (.ifCond .eq 7, 3) := dk_153 (dw rcX12_ways_44 23 rfl) rfl
noncomputable def rbX12_ways_89 : List (Nat × List Nat) := [(89, [10]), (90, [167, 0, 4]), (93, [9]), (94, [80]), (95, [132, 5, 1]), (98, [167, 255, 193]), (101, [4]), (102, [54, 5]), (104, [21, 5]), (106, [21, 4]), (108, [162, 0, 111]), (111, [3]), (112, [54, 6]), (114, [21, 6]), (116, [17, 4, 0]), (119, [162, 0, 17]), (122, [42]), (123, [180, 0, 127]), (126, [21, 6]), (128, [9]), (129, [80]), (130, [132, 6, 1]), (133, [167, 255, 237]), (136, [3])]
theorem rcX12_ways_89 : dgo (lb cX12_ways) 0 rbX12_ways_89 = true := by decide +kernel
theorem dX12_ways_89 : decode cX12_ways 89 = .ok (.lconst 1, 1) := dk_10 (dw rcX12_ways_89 0 rfl)
theorem dX12_ways_90 : decode cX12_ways 90 = .ok (.goto 4, 3) := dk_167 (dw rcX12_ways_89 1 rfl) rfl
theorem dX12_ways_93 : decode cX12_ways 93 = .ok (.lconst 0, 1) := dk_9 (dw rcX12_ways_89 2 rfl)
theorem dX12_ways_94 : decode cX12_ways 94 = .ok (.lastore, 1) := dk_80 (dw rcX12_ways_89 3 rfl)
theorem dX12_ways_95 : decode cX12_ways 95 = .ok (.iinc 5 1, 3) := dk_132 (dw rcX12_ways_89 4 rfl) rfl
theorem dX12_ways_98 : decode cX12_ways 98 = .ok (.goto (-63), 3) := dk_167 (dw rcX12_ways_89 5 rfl) rfl
theorem dX12_ways_101 : decode cX12_ways 101 = .ok (.iconst 1, 1) := dk_4 (dw rcX12_ways_89 6 rfl)
theorem dX12_ways_102 : decode cX12_ways 102 = .ok (.istore 5, 2) := dk_54 (dw rcX12_ways_89 7 rfl)
theorem dX12_ways_104 : decode cX12_ways 104 = .ok (.iload 5, 2) := dk_21 (dw rcX12_ways_89 8 rfl)
theorem dX12_ways_106 : decode cX12_ways 106 = .ok (.iload 4, 2) := dk_21 (dw rcX12_ways_89 9 rfl)
theorem dX12_ways_108 : decode cX12_ways 108 = .ok (.if_icmp .ge 111, 3) := dk_162 (dw rcX12_ways_89 10 rfl) rfl
theorem dX12_ways_111 : decode cX12_ways 111 = .ok (.iconst 0, 1) := dk_3 (dw rcX12_ways_89 11 rfl)
theorem dX12_ways_112 : decode cX12_ways 112 = .ok (.istore 6, 2) := dk_54 (dw rcX12_ways_89 12 rfl)
theorem dX12_ways_114 : decode cX12_ways 114 = .ok (.iload 6, 2) := dk_21 (dw rcX12_ways_89 13 rfl)
theorem dX12_ways_116 : decode cX12_ways 116 = .ok (.sipush 1024, 3) := dk_17 (dw rcX12_ways_89 14 rfl) rfl
theorem dX12_ways_119 : decode cX12_ways 119 = .ok (.if_icmp .ge 17, 3) := dk_162 (dw rcX12_ways_89 15 rfl) rfl
theorem dX12_ways_122 : decode cX12_ways 122 = .ok (.aload_n 0, 1) := dk_42 (dw rcX12_ways_89 16 rfl)
theorem dX12_ways_123 : decode cX12_ways 123 = .ok (.getfield 127, 3) := dk_180 (dw rcX12_ways_89 17 rfl) rfl
theorem dX12_ways_126 : decode cX12_ways 126 = .ok (.iload 6, 2) := dk_21 (dw rcX12_ways_89 18 rfl)
theorem dX12_ways_128 : decode cX12_ways 128 = .ok (.lconst 0, 1) := dk_9 (dw rcX12_ways_89 19 rfl)
theorem dX12_ways_129 : decode cX12_ways 129 = .ok (.lastore, 1) := dk_80 (dw rcX12_ways_89 20 rfl)
theorem dX12_ways_130 : decode cX12_ways 130 = .ok (.iinc 6 1, 3) := dk_132 (dw rcX12_ways_89 21 rfl) rfl
theorem dX12_ways_133 : decode cX12_ways 133 = .ok (.goto (-19), 3) := dk_167 (dw rcX12_ways_89 22 rfl) rfl
theorem dX12_ways_136 : decode cX12_ways 136 = .ok (.iconst 0, 1) := dk_3 (dw rcX12_ways_89 23 rfl)
noncomputable def rbX12_ways_137 : List (Nat × List Nat) := [(137, [54, 6]), (139, [21, 6]), (141, [17, 3, 32]), (144, [162, 0, 38]), (147, [42]), (148, [180, 0, 124]), (151, [21, 6]), (153, [47]), (154, [9]), (155, [148]), (156, [158, 0, 20]), (159, [42]), (160, [21, 6]), (162, [5]), (163, [108]), (164, [182, 1, 243]), (167, [154, 0, 9]), (170, [42]), (171, [21, 6]), (173, [182, 2, 7]), (176, [132, 6, 1]), (179, [167, 255, 216]), (182, [3]), (183, [54, 6])]
theorem rcX12_ways_137 : dgo (lb cX12_ways) 0 rbX12_ways_137 = true := by decide +kernel
theorem dX12_ways_137 : decode cX12_ways 137 = .ok (.istore 6, 2) := dk_54 (dw rcX12_ways_137 0 rfl)
theorem dX12_ways_139 : decode cX12_ways 139 = .ok (.iload 6, 2) := dk_21 (dw rcX12_ways_137 1 rfl)
theorem dX12_ways_141 : decode cX12_ways 141 = .ok (.sipush 800, 3) := dk_17 (dw rcX12_ways_137 2 rfl) rfl
theorem dX12_ways_144 : decode cX12_ways 144 = .ok (.if_icmp .ge 38, 3) := dk_162 (dw rcX12_ways_137 3 rfl) rfl
theorem dX12_ways_147 : decode cX12_ways 147 = .ok (.aload_n 0, 1) := dk_42 (dw rcX12_ways_137 4 rfl)
theorem dX12_ways_148 : decode cX12_ways 148 = .ok (.getfield 124, 3) := dk_180 (dw rcX12_ways_137 5 rfl) rfl
theorem dX12_ways_151 : decode cX12_ways 151 = .ok (.iload 6, 2) := dk_21 (dw rcX12_ways_137 6 rfl)
theorem dX12_ways_153 : decode cX12_ways 153 = .ok (.laload, 1) := dk_47 (dw rcX12_ways_137 7 rfl)
theorem dX12_ways_154 : decode cX12_ways 154 = .ok (.lconst 0, 1) := dk_9 (dw rcX12_ways_137 8 rfl)
theorem dX12_ways_155 : decode cX12_ways 155 = .ok (.lcmp, 1) := dk_148 (dw rcX12_ways_137 9 rfl)
theorem dX12_ways_156 : decode cX12_ways 156 = .ok (.ifCond .le 20, 3) := dk_158 (dw rcX12_ways_137 10 rfl) rfl
theorem dX12_ways_159 : decode cX12_ways 159 = .ok (.aload_n 0, 1) := dk_42 (dw rcX12_ways_137 11 rfl)
theorem dX12_ways_160 : decode cX12_ways 160 = .ok (.iload 6, 2) := dk_21 (dw rcX12_ways_137 12 rfl)
theorem dX12_ways_162 : decode cX12_ways 162 = .ok (.iconst 2, 1) := dk_5 (dw rcX12_ways_137 13 rfl)
theorem dX12_ways_163 : decode cX12_ways 163 = .ok (.idiv, 1) := dk_108 (dw rcX12_ways_137 14 rfl)
theorem dX12_ways_164 : decode cX12_ways 164 = .ok (.invokevirtual 499, 3) := dk_182 (dw rcX12_ways_137 15 rfl) rfl
theorem dX12_ways_167 : decode cX12_ways 167 = .ok (.ifCond .ne 9, 3) := dk_154 (dw rcX12_ways_137 16 rfl) rfl
theorem dX12_ways_170 : decode cX12_ways 170 = .ok (.aload_n 0, 1) := dk_42 (dw rcX12_ways_137 17 rfl)
theorem dX12_ways_171 : decode cX12_ways 171 = .ok (.iload 6, 2) := dk_21 (dw rcX12_ways_137 18 rfl)
theorem dX12_ways_173 : decode cX12_ways 173 = .ok (.invokevirtual 519, 3) := dk_182 (dw rcX12_ways_137 19 rfl) rfl
theorem dX12_ways_176 : decode cX12_ways 176 = .ok (.iinc 6 1, 3) := dk_132 (dw rcX12_ways_137 20 rfl) rfl
theorem dX12_ways_179 : decode cX12_ways 179 = .ok (.goto (-40), 3) := dk_167 (dw rcX12_ways_137 21 rfl) rfl
theorem dX12_ways_182 : decode cX12_ways 182 = .ok (.iconst 0, 1) := dk_3 (dw rcX12_ways_137 22 rfl)
theorem dX12_ways_183 : decode cX12_ways 183 = .ok (.istore 6, 2) := dk_54 (dw rcX12_ways_137 23 rfl)
noncomputable def rbX12_ways_185 : List (Nat × List Nat) := [(185, [21, 6]), (187, [17, 4, 0]), (190, [162, 0, 23]), (193, [42]), (194, [180, 0, 124]), (197, [21, 6]), (199, [42]), (200, [180, 0, 127]), (203, [21, 6]), (205, [47]), (206, [80]), (207, [132, 6, 1]), (210, [167, 255, 231]), (213, [132, 5, 1]), (216, [167, 255, 144]), (219, [9]), (220, [55, 5]), (222, [3]), (223, [54, 7]), (225, [21, 7]), (227, [17, 3, 32]), (230, [162, 0, 35]), (233, [42]), (234, [21, 7])]
theorem rcX12_ways_185 : dgo (lb cX12_ways) 0 rbX12_ways_185 = true := by decide +kernel
theorem dX12_ways_185 : decode cX12_ways 185 = .ok (.iload 6, 2) := dk_21 (dw rcX12_ways_185 0 rfl)
theorem dX12_ways_187 : decode cX12_ways 187 = .ok (.sipush 1024, 3) := dk_17 (dw rcX12_ways_185 1 rfl) rfl
theorem dX12_ways_190 : decode cX12_ways 190 = .ok (.if_icmp .ge 23, 3) := dk_162 (dw rcX12_ways_185 2 rfl) rfl
theorem dX12_ways_193 : decode cX12_ways 193 = .ok (.aload_n 0, 1) := dk_42 (dw rcX12_ways_185 3 rfl)
theorem dX12_ways_194 : decode cX12_ways 194 = .ok (.getfield 124, 3) := dk_180 (dw rcX12_ways_185 4 rfl) rfl
theorem dX12_ways_197 : decode cX12_ways 197 = .ok (.iload 6, 2) := dk_21 (dw rcX12_ways_185 5 rfl)
theorem dX12_ways_199 : decode cX12_ways 199 = .ok (.aload_n 0, 1) := dk_42 (dw rcX12_ways_185 6 rfl)
theorem dX12_ways_200 : decode cX12_ways 200 = .ok (.getfield 127, 3) := dk_180 (dw rcX12_ways_185 7 rfl) rfl
theorem dX12_ways_203 : decode cX12_ways 203 = .ok (.iload 6, 2) := dk_21 (dw rcX12_ways_185 8 rfl)
theorem dX12_ways_205 : decode cX12_ways 205 = .ok (.laload, 1) := dk_47 (dw rcX12_ways_185 9 rfl)
theorem dX12_ways_206 : decode cX12_ways 206 = .ok (.lastore, 1) := dk_80 (dw rcX12_ways_185 10 rfl)
theorem dX12_ways_207 : decode cX12_ways 207 = .ok (.iinc 6 1, 3) := dk_132 (dw rcX12_ways_185 11 rfl) rfl
theorem dX12_ways_210 : decode cX12_ways 210 = .ok (.goto (-25), 3) := dk_167 (dw rcX12_ways_185 12 rfl) rfl
theorem dX12_ways_213 : decode cX12_ways 213 = .ok (.iinc 5 1, 3) := dk_132 (dw rcX12_ways_185 13 rfl) rfl
theorem dX12_ways_216 : decode cX12_ways 216 = .ok (.goto (-112), 3) := dk_167 (dw rcX12_ways_185 14 rfl) rfl
theorem dX12_ways_219 : decode cX12_ways 219 = .ok (.lconst 0, 1) := dk_9 (dw rcX12_ways_185 15 rfl)
theorem dX12_ways_220 : decode cX12_ways 220 = .ok (.lstore 5, 2) := dk_55 (dw rcX12_ways_185 16 rfl)
theorem dX12_ways_222 : decode cX12_ways 222 = .ok (.iconst 0, 1) := dk_3 (dw rcX12_ways_185 17 rfl)
theorem dX12_ways_223 : decode cX12_ways 223 = .ok (.istore 7, 2) := dk_54 (dw rcX12_ways_185 18 rfl)
theorem dX12_ways_225 : decode cX12_ways 225 = .ok (.iload 7, 2) := dk_21 (dw rcX12_ways_185 19 rfl)
theorem dX12_ways_227 : decode cX12_ways 227 = .ok (.sipush 800, 3) := dk_17 (dw rcX12_ways_185 20 rfl) rfl
theorem dX12_ways_230 : decode cX12_ways 230 = .ok (.if_icmp .ge 35, 3) := dk_162 (dw rcX12_ways_185 21 rfl) rfl
theorem dX12_ways_233 : decode cX12_ways 233 = .ok (.aload_n 0, 1) := dk_42 (dw rcX12_ways_185 22 rfl)
theorem dX12_ways_234 : decode cX12_ways 234 = .ok (.iload 7, 2) := dk_21 (dw rcX12_ways_185 23 rfl)
noncomputable def rbX12_ways_236 : List (Nat × List Nat) := [(236, [5]), (237, [108]), (238, [182, 1, 243]), (241, [153, 0, 18]), (244, [22, 5]), (246, [42]), (247, [180, 0, 124]), (250, [21, 7]), (252, [47]), (253, [97]), (254, [184, 2, 10]), (257, [55, 5]), (259, [132, 7, 1]), (262, [167, 255, 219]), (265, [22, 5]), (267, [173])]
theorem rcX12_ways_236 : dgo (lb cX12_ways) 0 rbX12_ways_236 = true := by decide +kernel
theorem dX12_ways_236 : decode cX12_ways 236 = .ok (.iconst 2, 1) := dk_5 (dw rcX12_ways_236 0 rfl)
theorem dX12_ways_237 : decode cX12_ways 237 = .ok (.idiv, 1) := dk_108 (dw rcX12_ways_236 1 rfl)
theorem dX12_ways_238 : decode cX12_ways 238 = .ok (.invokevirtual 499, 3) := dk_182 (dw rcX12_ways_236 2 rfl) rfl
theorem dX12_ways_241 : decode cX12_ways 241 = .ok (.ifCond .eq 18, 3) := dk_153 (dw rcX12_ways_236 3 rfl) rfl
theorem dX12_ways_244 : decode cX12_ways 244 = .ok (.lload 5, 2) := dk_22 (dw rcX12_ways_236 4 rfl)
theorem dX12_ways_246 : decode cX12_ways 246 = .ok (.aload_n 0, 1) := dk_42 (dw rcX12_ways_236 5 rfl)
theorem dX12_ways_247 : decode cX12_ways 247 = .ok (.getfield 124, 3) := dk_180 (dw rcX12_ways_236 6 rfl) rfl
theorem dX12_ways_250 : decode cX12_ways 250 = .ok (.iload 7, 2) := dk_21 (dw rcX12_ways_236 7 rfl)
theorem dX12_ways_252 : decode cX12_ways 252 = .ok (.laload, 1) := dk_47 (dw rcX12_ways_236 8 rfl)
theorem dX12_ways_253 : decode cX12_ways 253 = .ok (.ladd, 1) := dk_97 (dw rcX12_ways_236 9 rfl)
theorem dX12_ways_254 : decode cX12_ways 254 = .ok (.invokestatic 522, 3) := dk_184 (dw rcX12_ways_236 10 rfl) rfl
theorem dX12_ways_257 : decode cX12_ways 257 = .ok (.lstore 5, 2) := dk_55 (dw rcX12_ways_236 11 rfl)
theorem dX12_ways_259 : decode cX12_ways 259 = .ok (.iinc 7 1, 3) := dk_132 (dw rcX12_ways_236 12 rfl) rfl
theorem dX12_ways_262 : decode cX12_ways 262 = .ok (.goto (-37), 3) := dk_167 (dw rcX12_ways_236 13 rfl) rfl
theorem dX12_ways_265 : decode cX12_ways 265 = .ok (.lload 5, 2) := dk_22 (dw rcX12_ways_236 14 rfl)
theorem dX12_ways_267 : decode cX12_ways 267 = .ok (.lreturn, 1) := dk_173 (dw rcX12_ways_236 15 rfl)
set_option maxHeartbeats 4000000 in
set_option maxRecDepth 100000 in
theorem n_ways (l : Launch) (D : va_G) (k : KT) (A : Nat → Prop) (a : Nat → Nat) (z : SK) (G : GS) (p0 : Int32) (p1 : Int32) (p2 : Int32) (p3 : Int32) (hP9 : gP G = 1) : Met l yX12_ways (WS yX12_ways cX12_ways 8 (some .long)) ({ frames := 5, cells := 0, slots := 0, locals := 117 }) (va_Pc [.ref (a 66), .int p0, .int p1, .int p2, .int p3] (cW D k A a z G)) (va_Ql (fun (r : Int64) (G1 : GS) => Q_ways p0 p1 p2 p3 G r G1) (fun (G1 : GS) t => Wd D k A a G1 t.heap) A) 0 0 A := by
  refine Met.ofW (cc := cX12_ways) (maxL := 8) (ret := (some .long)) (by decide) rfl ?_
  intro p e s m args below meth c s₁ B hml hv
  obtain ⟨rfl, hW, hB_G, hK, hZ⟩ := hv
  have hx := B.exec
  have hb := B.bytes
  have hr := B.returns
  have hts := atoms_spec (ws := WS yX12_ways cX12_ways 8 (some .long)) B.pre
  have hgd : ∀ w ∈ gd, w ∈ WS yX12_ways cX12_ways 8 (some .long) := fun w h => List.mem_cons_of_mem _ h
  have hg : ∀ w ∈ gd, w.before _ s = true := fun w h => hts w (hgd w h)
  have hown : s.vm.findClass RX12 = some m.cls := findClass_of_methodNamed B.named
  have hS : va_S A s.heap s.heap [] := va_S.rf
  have hF : Fr [101, 102, 76, 97, 98] [(66, 59), (66, 60), (66, 61), (66, 62), (66, 63)] G G := Fr.rf
  have hl := lv_entry ([.ref (a 66), .int p0, .int p1, .int p2, .int p3]) (n := 8) (Nat.le_of_ble_eq_true rfl)
  rw [lg_entry_eq]
  generalize (lg_sl ([.ref (a 66), .int p0, .int p1, .int p2, .int p3]) ++ List.replicate (8 - (lg_sl ([.ref (a 66), .int p0, .int p1, .int p2, .int p3])).length) Slot.unset).toArray = ls at hl ⊢
  have hl : lv_has ls 8 [(0, .ref (a 66)), (1, .int p0), (2, .int p1), (3, .int p2), (4, .int p3)] := hl
  refine lv_aload_n hx hb dX12_ways_0 rfl (lv_at hl 0 rfl) ?_
  refine lv_iload_n hx hb dX12_ways_1 rfl (lv_at hl 1 rfl) ?_
  refine lv_iload_n hx hb dX12_ways_2 rfl (lv_at hl 2 rfl) ?_
  refine lv_iload_n hx hb dX12_ways_3 rfl (lv_at hl 3 rfl) ?_
  refine S_calli (va_runV (As := [.int p0, .int p1, .int p2]) (rest := []) ⟨hx, hb, hml, hown, hts⟩ (n_isAsked l D k A a z G p0 p1 p2 ) (cwV 3 hts (gd_V hgd m1826 m1828 m89 m131 m1829) rfl rfl rfl hd_X12_isAsked ⟨Nat.le_of_ble_eq_true rfl, Nat.le_of_ble_eq_true rfl⟩) (pre_W hW hB_G hK hZ hS kd_66 rfl) rfl rfl hl.1 rfl (lv_room (Nat.le_of_ble_eq_true rfl)) dX12_ways_4 ⟨Nat.le_of_ble_eq_true rfl, Nat.le_of_ble_eq_true rfl⟩) hS (fun r_1 G_2 H locs hpo hW hS => ?_)
  have hX_5 : Q_isAsked p0 p1 p2 G r_1 G_2 := hpo
  obtain ⟨hB_G_2, hq_3, f_6, hp_4, -⟩ := hpo
  have hF := hF.call9 hq_3 rfl rfl
  refine lv_if_eq (tgt := 21) hx hb dX12_ways_7 rfl (fun c_7 => ?_) (fun c_7 => ?_)
  · have c_7 : r_1.toInt = 0 := xI_eq rfl rfl c_7
    refine lv_ldc2 (v := (-1)) hx hb hown (hg (Cond.constantLong RX12 517 (-1)) m1874) dX12_ways_21 ?_
    exact W.lret (v := (-1)) hx hb hr (fun t ht _ => ⟨⟨(-1), G_2, rfl, (Q_ways_mk ⟨hB_G_2, hF, ⟨r_1, G_2, hX_5, (Or.inl ⟨c_7, ⟨rfl, rfl⟩⟩)⟩⟩), wd_t ht hW⟩, hS.F ht⟩) hS.2.2 dX12_ways_24
  · have c_7 : r_1.toInt ≠ 0 := xI_ne rfl rfl c_7
    refine lv_iload hx hb dX12_ways_10 (lv_at hl 4 rfl) ?_
    refine ic_1 hx hb dX12_ways_12 ?_
    refine lv_bipush (v := 60) hx hb dX12_ways_13 (by decide) ?_
    have qc_8 : (1 : Int32).toInt = 1 := rfl
    have qc_9 : (60 : Int32).toInt = 60 := rfl
    refine S_calli (va_runS (As := [.int p3, .int 1, .int 60]) (rest := []) ⟨hx, hb, hml, hown, hts⟩ (n_isIn l D k A a z G_2 p3 1 60 ) (va_cwS 3 hts (gd_S hgd m1781 m1782 m131 m1783) rfl rfl rfl hd_X12_isIn.2 ⟨Nat.le_of_ble_eq_true rfl, Nat.le_of_ble_eq_true rfl⟩) (pre_S hW hB_G_2 hK hZ hS) rfl rfl hl.1 rfl (lv_room (Nat.le_of_ble_eq_true rfl)) dX12_ways_15 ⟨Nat.le_of_ble_eq_true rfl, Nat.le_of_ble_eq_true rfl⟩) hS (fun r_10 G_11 H locs hpo hW hS => ?_)
    have hX_14 : Q_isIn p3 1 60 G_2 r_10 G_11 := hpo
    obtain ⟨hB_G_11, hq_12, f_15, ⟨d_1, d_2⟩, -⟩ := hpo
    have hF := hF.call9 hq_12 rfl rfl
    refine lv_if_ne (tgt := 25) hx hb dX12_ways_18 rfl (fun c_16 => ?_) (fun c_16 => ?_)
    · have c_16 : r_10.toInt ≠ 0 := xI_ne rfl rfl c_16
      refine lv_aload_n hx hb dX12_ways_25 rfl (lv_at hl 0 rfl) ?_
      refine lv_iload_n hx hb dX12_ways_26 rfl (lv_at hl 1 rfl) ?_
      refine lv_iload_n hx hb dX12_ways_27 rfl (lv_at hl 2 rfl) ?_
      refine lv_iload_n hx hb dX12_ways_28 rfl (lv_at hl 3 rfl) ?_
      have fr_17 : Fr [] [] G G_11 := (Fr.call9 (rs := []) (fs := []) (Fr.call9 (rs := []) (fs := []) Fr.rf hq_3 rfl rfl) hq_12 rfl rfl)
      have g_18 : gP G_11 = gP G := gP_fr fr_17 (gr_q rfl) (gf_q rfl)
      refine S_callv (va_runV (As := [.int p0, .int p1, .int p2]) (rest := []) ⟨hx, hb, hml, hown, hts⟩ (n_layStreet l D k A a z G_11 p0 p1 p2 ⟨(by first | exact ok_1103 f_6.1 f_6.2 hp_4 c_7 | omega), (by first | exact ok_1104 f_6.1 f_6.2 hp_4 c_7 | omega)⟩ ⟨(by first | exact ok_1101 f_6.1 f_6.2 hp_4 c_7 | omega), (by first | exact ok_1102 f_6.1 f_6.2 hp_4 c_7 | omega)⟩ ((by first | exact ok_796 hP9 g_18 | omega))) (cwV 3 hts (gd_V hgd m1834 m1836 m91 m131 m1837) rfl rfl rfl hd_X12_layStreet ⟨Nat.le_of_ble_eq_true rfl, Nat.le_of_ble_eq_true rfl⟩) (pre_W hW hB_G_11 hK hZ hS kd_66 rfl) rfl rfl hl.1 rfl (lv_room (Nat.le_of_ble_eq_true rfl)) dX12_ways_29 ⟨Nat.le_of_ble_eq_true rfl, Nat.le_of_ble_eq_true rfl⟩) hS (fun G_20 H locs hpo hW hS => ?_)
      have hX_23 : Q_layStreet p0 p1 p2 G_11 G_20 := hpo
      obtain ⟨hB_G_20, hq_21, ⟨d_3, d_4, d_5, d_6, d_7, d_8⟩, -⟩ := hpo
      have hF := hF.call9 hq_21 rfl rfl
      refine ic_0 hx hb dX12_ways_32 ?_
      refine lv_istore (lv' := [(5, .int 0), (0, .ref (a 66)), (1, .int p0), (2, .int p1), (3, .int p2), (4, .int p3)]) hx hb dX12_ways_33 hl (lt_b rfl) rfl (fun ls hl => ?_)
      have qc_30 : (0 : Int32).toInt = 0 := rfl
      refine loop_N (Inv := fun n H locs ls => ∃ (G_24 : GS) (x_28 : Int32), (n : Int) = 1024 - x_28.toInt ∧ (0 ≤ x_28.toInt ∧ x_28.toInt ≤ 1024) ∧ Rc (St_n_ways_1 G_20) (0, G_20) (x_28, G_24) ∧ Wd D k A a G_24 H ∧ Bd G_24 ∧ Fr [101, 102, 76, 97, 98] [(66, 59), (66, 60), (66, 61), (66, 62), (66, 63)] G G_24 ∧ Fr [101] [] G_20 G_24 ∧ va_S A s.heap H locs ∧ lv_has ls 8 [(5, .int x_28), (0, .ref (a 66)), (4, .int p3)]) (fun n_27 H locs ls ih_26 hI => ?_) (1024 - 0 : Int).toNat ⟨G_20, 0, (Int.toNat_of_nonneg ((by decide))), ⟨(by decide), (by decide)⟩, Rc.rf, hW, hB_G_20, hF, Fr.rf, hS, lv_sub hl [0, 1, 5] rfl⟩
      obtain ⟨G_24, x_28, hn_32, f_31, hX_29, hW, hB_G_24, hF, hq_25, hS, hl⟩ := hI
      refine lv_iload hx hb dX12_ways_35 (lv_at hl 0 rfl) ?_
      refine lv_sipush (v := 1024) hx hb dX12_ways_37 (by decide) ?_
      refine lv_icmp_ge (tgt := 101) hx hb dX12_ways_40 rfl (fun c_33 => ?_) (fun c_33 => ?_)
      · have c_33 : 1024 ≤ x_28.toInt := xI_le rfl rfl c_33
        refine ic_1 hx hb dX12_ways_101 ?_
        refine lv_istore (lv' := [(5, .int 1), (0, .ref (a 66)), (4, .int p3)]) hx hb dX12_ways_102 hl (lt_b rfl) rfl (fun ls hl => ?_)
        have qc_40 : (1 : Int32).toInt = 1 := rfl
        refine loop_N (Inv := fun n H locs ls => ∃ (G_34 : GS) (x_38 : Int32), (n : Int) = 60 - x_38.toInt ∧ (1 ≤ x_38.toInt ∧ x_38.toInt ≤ 60) ∧ Rc (St_n_ways_2 p3) (1, G_24) (x_38, G_34) ∧ Wd D k A a G_34 H ∧ Bd G_34 ∧ Fr [101, 102, 76, 97, 98] [(66, 59), (66, 60), (66, 61), (66, 62), (66, 63)] G G_34 ∧ Fr [101, 102] [] G_24 G_34 ∧ va_S A s.heap H locs ∧ lv_has ls 8 [(5, .int x_38), (0, .ref (a 66)), (4, .int p3)]) (fun n_37 H locs ls ih_36 hI => ?_) (60 - 1 : Int).toNat ⟨G_24, 1, (Int.toNat_of_nonneg ((by decide))), ⟨(by decide), (by decide)⟩, Rc.rf, hW, hB_G_24, hF, Fr.rf, hS, lv_sub hl [0, 1, 2] rfl⟩
        obtain ⟨G_34, x_38, hn_42, f_41, hX_39, hW, hB_G_34, hF, hq_35, hS, hl⟩ := hI
        refine lv_iload hx hb dX12_ways_104 (lv_at hl 0 rfl) ?_
        refine lv_iload hx hb dX12_ways_106 (lv_at hl 2 rfl) ?_
        refine lv_icmp_ge (tgt := 219) hx hb dX12_ways_108 rfl (fun c_43 => ?_) (fun c_43 => ?_)
        · have c_43 : p3.toInt ≤ x_38.toInt := xI_le rfl rfl c_43
          refine lv_lconst (v := 0) hx hb dX12_ways_219 (by decide) ?_
          refine lv_lstore (lv' := [(5, .long 0), (0, .ref (a 66)), (4, .int p3)]) hx hb dX12_ways_220 hl (lt_b rfl) rfl (fun ls hl => ?_)
          refine ic_0 hx hb dX12_ways_222 ?_
          refine lv_istore (lv' := [(7, .int 0), (5, .long 0), (0, .ref (a 66)), (4, .int p3)]) hx hb dX12_ways_223 hl (lt_b rfl) rfl (fun ls hl => ?_)
          have qc_51 : (0 : Int32).toInt = 0 := rfl
          refine loop_N (Inv := fun n H locs ls => ∃ (G_44 : GS) (x_48 : Int32) (x_49 : Int64), (n : Int) = 800 - x_48.toInt ∧ (0 ≤ x_48.toInt ∧ x_48.toInt ≤ 800) ∧ Rc (St_n_ways_3) (0, 0, G_34) (x_48, x_49, G_44) ∧ Wd D k A a G_44 H ∧ Bd G_44 ∧ Fr [101, 102, 76, 97, 98] [(66, 59), (66, 60), (66, 61), (66, 62), (66, 63)] G G_44 ∧ Fr [] [] G_34 G_44 ∧ va_S A s.heap H locs ∧ lv_has ls 8 [(7, .int x_48), (5, .long x_49), (0, .ref (a 66))]) (fun n_47 H locs ls ih_46 hI => ?_) (800 - 0 : Int).toNat ⟨G_34, 0, 0, (Int.toNat_of_nonneg ((by decide))), ⟨(by decide), (by decide)⟩, Rc.rf, hW, hB_G_34, hF, Fr.rf, hS, lv_sub hl [0, 1, 2] rfl⟩
          obtain ⟨G_44, x_48, x_49, hn_53, f_52, hX_50, hW, hB_G_44, hF, hq_45, hS, hl⟩ := hI
          refine lv_iload hx hb dX12_ways_225 (lv_at hl 0 rfl) ?_
          refine lv_sipush (v := 800) hx hb dX12_ways_227 (by decide) ?_
          refine lv_icmp_ge (tgt := 265) hx hb dX12_ways_230 rfl (fun c_54 => ?_) (fun c_54 => ?_)
          · have c_54 : 800 ≤ x_48.toInt := xI_le rfl rfl c_54
            refine lv_lload hx hb dX12_ways_265 (lv_at hl 1 rfl) ?_
            exact W.lret (v := x_49) hx hb hr (fun t ht _ => ⟨⟨x_49, G_44, rfl, (Q_ways_mk ⟨hB_G_44, hF, ⟨r_1, G_2, hX_5, (Or.inr ⟨c_7, ⟨r_10, G_11, hX_14, (Or.inr ⟨c_16, ⟨G_20, hX_23, ⟨x_28, G_24, hX_29, f_31, hB_G_24, hq_25, ⟨c_33, ⟨x_38, G_34, hX_39, f_41, hB_G_34, hq_35, ⟨c_43, ⟨x_48, x_49, G_44, hX_50, f_52, hB_G_44, hq_45, ⟨c_54, ⟨rfl, rfl⟩⟩⟩⟩⟩⟩⟩⟩⟩)⟩⟩)⟩⟩), wd_t ht hW⟩, hS.F ht⟩) hS.2.2 dX12_ways_267
          · have c_54 : x_48.toInt < 800 := xI_nle rfl rfl c_54
            refine lv_aload_n hx hb dX12_ways_233 rfl (lv_at hl 2 rfl) ?_
            refine lv_iload hx hb dX12_ways_234 (lv_at hl 0 rfl) ?_
            refine ic_2 hx hb dX12_ways_236 ?_
            refine lv_idiv hx hb dX12_ways_237 (by decide) ?_
            refine lv_topi (fun y_55 ey_55 => ?_)
            have ty_55 : y_55.toInt = x_48.toInt / 2 := xI_div rfl ey_55 (by decide) ((by first | exact f_52.1 | omega))
            have b_56 : 0 ≤ (G_20.1 66 59).toInt ∧ (G_20.1 66 59).toInt ≤ 400 := bd_66_59 hB_G_20
            have g_57 : (G_44.1 66 59).toInt = (G_20.1 66 59).toInt := (congrArg Int32.toInt (show G_44.1 66 59 = (G_20.1 66 59) from ((hq_45.i9 66 59 rfl rfl).trans ((hq_35.i9 66 59 rfl rfl).trans (hq_25.i9 66 59 rfl rfl)))))
            have b_58 : 0 ≤ (G_20.1 66 60).toInt ∧ (G_20.1 66 60).toInt ≤ 12 := bd_66_60 hB_G_20
            have g_59 : (G_44.1 66 60).toInt = (G_20.1 66 60).toInt := (congrArg Int32.toInt (show G_44.1 66 60 = (G_20.1 66 60) from ((hq_45.i9 66 60 rfl rfl).trans ((hq_35.i9 66 60 rfl rfl).trans (hq_25.i9 66 60 rfl rfl)))))
            have b_60 : 0 ≤ (G_20.1 66 62).toInt ∧ (G_20.1 66 62).toInt ≤ 60 := bd_66_62 hB_G_20
            have g_61 : (G_44.1 66 62).toInt = (G_20.1 66 62).toInt := (congrArg Int32.toInt (show G_44.1 66 62 = (G_20.1 66 62) from ((hq_45.i9 66 62 rfl rfl).trans ((hq_35.i9 66 62 rfl rfl).trans (hq_25.i9 66 62 rfl rfl)))))
            refine S_calli (va_runV (As := [.int y_55]) (rest := []) ⟨hx, hb, hml, hown, hts⟩ (n_isEnd l D k A a z G_44 y_55 ⟨(by first | exact ok_1129 f_52.1 ty_55 | omega), (by first | exact ok_1130 f_52.2 ty_55 | omega)⟩) (cwV 1 hts (gd_V hgd m1854 m1856 m95 m131 m1857) rfl rfl rfl hd_X12_isEnd ⟨Nat.le_of_ble_eq_true rfl, Nat.le_of_ble_eq_true rfl⟩) (pre_W hW hB_G_44 hK hZ hS kd_66 rfl) rfl rfl hl.1 rfl (lv_room (Nat.le_of_ble_eq_true rfl)) dX12_ways_238 ⟨Nat.le_of_ble_eq_true rfl, Nat.le_of_ble_eq_true rfl⟩) hS (fun r_62 G_63 H locs hpo hW hS => ?_)
            have hX_66 : Q_isEnd y_55 G_44 r_62 G_63 := hpo
            obtain ⟨hB_G_63, hq_64, f_67, ⟨d_9, d_10⟩, -⟩ := hpo
            have hF := hF.call9 hq_64 rfl rfl
            refine lv_if_eq (tgt := 259) hx hb dX12_ways_241 rfl (fun c_68 => ?_) (fun c_68 => ?_)
            · have c_68 : r_62.toInt = 0 := xI_eq rfl rfl c_68
              have d_11 := d_9 c_68
              obtain ⟨y_69, ey_69⟩ : ∃ q, q = x_48 + 1 := ⟨_, rfl⟩
              have ty_69 : y_69.toInt = x_48.toInt + 1 := xI_add rfl rfl ey_69 ((by first | exact ok_21 f_52.1 | omega)) ((by first | exact ok_1131 f_52.2 | omega))
              refine lv_iinc (v := y_69) (lv' := [(7, .int y_69), (5, .long x_49), (0, .ref (a 66))]) hx hb dX12_ways_259 hl (k := 0) rfl (by rw [ey_69]; rfl) (lt_b rfl) rfl (fun ls hl => ?_)
              refine lv_goto (tgt := 225) hx hb dX12_ways_262 rfl ?_
              exact ih_46 (800 - y_69.toInt : Int).toNat ((by first | (clear hP9 f_6 c_7 f_15 d_1 d_2 c_16 g_18 hn_32 f_31 c_33 hn_42 f_41 c_43 d_9; omega) | omega)) _ _ _ ⟨G_63, y_69, x_49, (Int.toNat_of_nonneg ((by first | exact ok_1132 f_52.2 c_54 ty_69 | omega))), ⟨(by first | exact ok_23 f_52.1 ty_69 | omega), (by first | exact ok_1133 f_52.2 c_54 ty_69 | omega)⟩, (hX_50.st (St_n_ways_3_mk ⟨x_48, x_49, G_44, y_69, x_49, G_63, rfl, rfl, f_52, hB_G_44, ⟨c_54, ⟨y_55, ty_55, ⟨r_62, G_63, hX_66, (Or.inl ⟨c_68, ⟨y_69, ty_69, ⟨rfl, rfl, rfl⟩⟩⟩)⟩⟩⟩⟩)), hW, hB_G_63, hF, (Fr.call9 (rs := []) (fs := []) (Fr.call9 (rs := []) (fs := []) Fr.rf hq_45 rfl rfl) hq_64 rfl rfl), hS, lv_sub hl [0, 1, 2] rfl⟩
            · have c_68 : r_62.toInt ≠ 0 := xI_ne rfl rfl c_68
              refine lv_lload hx hb dX12_ways_244 (lv_at hl 1 rfl) ?_
              refine lv_aload_n hx hb dX12_ways_246 rfl (lv_at hl 2 rfl) ?_
              refine S_getR (n := 101) (C := RX12) (T := TX12) (N := 89) hx hb hg iX12 hown hK hW kd_66 rfl 67 (lt_b rfl) (hg (Cond.fieldLink RX12 124 "SlabWalkModel" "ways" "[J") m1381) (fun _ h9 => h9) rfl dX12_ways_247 ?_
              refine lv_iload hx hb dX12_ways_250 (lv_at hl 0 rfl) ?_
              refine S_lald hx hb hK hW kd_101 (vin ((by first | exact f_52.1 | omega)) ((by first | exact ok_1134 f_52.2 | omega))) dX12_ways_252 (fun y_70 ey_70 => ?_)
              refine lv_ladd hx hb dX12_ways_253 ?_
              refine lv_topl (fun y_71 ey_71 => ?_)
              refine S_calll (va_runS (As := [.long y_71]) (rest := []) ⟨hx, hb, hml, hown, hts⟩ (n_capped l D k A a z G_63 y_71 ) (va_cwS 1 hts (gd_S hgd m1879 m1880 m131 m1881) rfl rfl rfl hd_X12_capped.2 ⟨Nat.le_of_ble_eq_true rfl, Nat.le_of_ble_eq_true rfl⟩) (pre_S hW hB_G_63 hK hZ hS) rfl rfl hl.1 rfl (lv_room (Nat.le_of_ble_eq_true rfl)) dX12_ways_254 ⟨Nat.le_of_ble_eq_true rfl, Nat.le_of_ble_eq_true rfl⟩) hS (fun r_72 G_73 H locs hpo hW hS => ?_)
              have hX_76 : Q_capped y_71 G_63 r_72 G_73 := hpo
              obtain ⟨hB_G_73, hq_74, -⟩ := hpo
              have hF := hF.call9 hq_74 rfl rfl
              refine lv_lstore (lv' := [(5, .long r_72), (7, .int x_48), (0, .ref (a 66))]) hx hb dX12_ways_257 hl (lt_b rfl) rfl (fun ls hl => ?_)
              obtain ⟨y_77, ey_77⟩ : ∃ q, q = x_48 + 1 := ⟨_, rfl⟩
              have ty_77 : y_77.toInt = x_48.toInt + 1 := xI_add rfl rfl ey_77 ((by first | exact ok_21 f_52.1 | omega)) ((by first | exact ok_1131 f_52.2 | omega))
              refine lv_iinc (v := y_77) (lv' := [(7, .int y_77), (5, .long r_72), (0, .ref (a 66))]) hx hb dX12_ways_259 hl (k := 1) rfl (by rw [ey_77]; rfl) (lt_b rfl) rfl (fun ls hl => ?_)
              refine lv_goto (tgt := 225) hx hb dX12_ways_262 rfl ?_
              exact ih_46 (800 - y_77.toInt : Int).toNat ((by first | (clear hP9 f_6 c_7 f_15 d_1 d_2 c_16 g_18 hn_32 f_31 c_33 hn_42 f_41 c_43 d_9; omega) | omega)) _ _ _ ⟨G_73, y_77, r_72, (Int.toNat_of_nonneg ((by first | exact ok_1132 f_52.2 c_54 ty_77 | omega))), ⟨(by first | exact ok_23 f_52.1 ty_77 | omega), (by first | exact ok_1133 f_52.2 c_54 ty_77 | omega)⟩, (hX_50.st (St_n_ways_3_mk ⟨x_48, x_49, G_44, y_77, r_72, G_73, rfl, rfl, f_52, hB_G_44, ⟨c_54, ⟨y_55, ty_55, ⟨r_62, G_63, hX_66, (Or.inr ⟨c_68, ⟨y_70, ey_70, ⟨y_71, ey_71, ⟨r_72, G_73, hX_76, ⟨y_77, ty_77, ⟨rfl, rfl, rfl⟩⟩⟩⟩⟩⟩)⟩⟩⟩⟩)), hW, hB_G_73, hF, (Fr.call9 (rs := []) (fs := []) (Fr.call9 (rs := []) (fs := []) (Fr.call9 (rs := []) (fs := []) Fr.rf hq_45 rfl rfl) hq_64 rfl rfl) hq_74 rfl rfl), hS, lv_sub hl [0, 1, 2] rfl⟩
        · have c_43 : x_38.toInt < p3.toInt := xI_nle rfl rfl c_43
          refine ic_0 hx hb dX12_ways_111 ?_
          refine lv_istore (lv' := [(6, .int 0), (5, .int x_38), (0, .ref (a 66)), (4, .int p3)]) hx hb dX12_ways_112 hl (lt_b rfl) rfl (fun ls hl => ?_)
          have qc_84 : (0 : Int32).toInt = 0 := rfl
          refine loop_N (Inv := fun n H locs ls => ∃ (G_78 : GS) (x_82 : Int32), (n : Int) = 1024 - x_82.toInt ∧ (0 ≤ x_82.toInt ∧ x_82.toInt ≤ 1024) ∧ Rc (St_n_ways_4) (0, G_34) (x_82, G_78) ∧ Wd D k A a G_78 H ∧ Bd G_78 ∧ Fr [101, 102, 76, 97, 98] [(66, 59), (66, 60), (66, 61), (66, 62), (66, 63)] G G_78 ∧ Fr [102] [] G_34 G_78 ∧ va_S A s.heap H locs ∧ lv_has ls 8 [(6, .int x_82), (5, .int x_38), (0, .ref (a 66)), (4, .int p3)]) (fun n_81 H locs ls ih_80 hI => ?_) (1024 - 0 : Int).toNat ⟨G_34, 0, (Int.toNat_of_nonneg ((by decide))), ⟨(by decide), (by decide)⟩, Rc.rf, hW, hB_G_34, hF, Fr.rf, hS, lv_sub hl [0, 1, 2, 3] rfl⟩
          obtain ⟨G_78, x_82, hn_86, f_85, hX_83, hW, hB_G_78, hF, hq_79, hS, hl⟩ := hI
          refine lv_iload hx hb dX12_ways_114 (lv_at hl 0 rfl) ?_
          refine lv_sipush (v := 1024) hx hb dX12_ways_116 (by decide) ?_
          refine lv_icmp_ge (tgt := 136) hx hb dX12_ways_119 rfl (fun c_87 => ?_) (fun c_87 => ?_)
          · have c_87 : 1024 ≤ x_82.toInt := xI_le rfl rfl c_87
            refine ic_0 hx hb dX12_ways_136 ?_
            refine lv_istore (lv' := [(6, .int 0), (5, .int x_38), (0, .ref (a 66)), (4, .int p3)]) hx hb dX12_ways_137 hl (lt_b rfl) rfl (fun ls hl => ?_)
            have qc_94 : (0 : Int32).toInt = 0 := rfl
            refine loop_N (Inv := fun n H locs ls => ∃ (G_88 : GS) (x_92 : Int32), (n : Int) = 800 - x_92.toInt ∧ (0 ≤ x_92.toInt ∧ x_92.toInt ≤ 800) ∧ Rc (St_n_ways_5) (0, G_78) (x_92, G_88) ∧ Wd D k A a G_88 H ∧ Bd G_88 ∧ Fr [101, 102, 76, 97, 98] [(66, 59), (66, 60), (66, 61), (66, 62), (66, 63)] G G_88 ∧ Fr [102] [] G_78 G_88 ∧ va_S A s.heap H locs ∧ lv_has ls 8 [(6, .int x_92), (5, .int x_38), (0, .ref (a 66)), (4, .int p3)]) (fun n_91 H locs ls ih_90 hI => ?_) (800 - 0 : Int).toNat ⟨G_78, 0, (Int.toNat_of_nonneg ((by decide))), ⟨(by decide), (by decide)⟩, Rc.rf, hW, hB_G_78, hF, Fr.rf, hS, lv_sub hl [0, 1, 2, 3] rfl⟩
            obtain ⟨G_88, x_92, hn_96, f_95, hX_93, hW, hB_G_88, hF, hq_89, hS, hl⟩ := hI
            refine lv_iload hx hb dX12_ways_139 (lv_at hl 0 rfl) ?_
            refine lv_sipush (v := 800) hx hb dX12_ways_141 (by decide) ?_
            refine lv_icmp_ge (tgt := 182) hx hb dX12_ways_144 rfl (fun c_97 => ?_) (fun c_97 => ?_)
            · have c_97 : 800 ≤ x_92.toInt := xI_le rfl rfl c_97
              refine ic_0 hx hb dX12_ways_182 ?_
              refine lv_istore (lv' := [(6, .int 0), (5, .int x_38), (0, .ref (a 66)), (4, .int p3)]) hx hb dX12_ways_183 hl (lt_b rfl) rfl (fun ls hl => ?_)
              have qc_104 : (0 : Int32).toInt = 0 := rfl
              refine loop_N (Inv := fun n H locs ls => ∃ (G_98 : GS) (x_102 : Int32), (n : Int) = 1024 - x_102.toInt ∧ (0 ≤ x_102.toInt ∧ x_102.toInt ≤ 1024) ∧ Rc (St_n_ways_6) (0, G_88) (x_102, G_98) ∧ Wd D k A a G_98 H ∧ Bd G_98 ∧ Fr [101, 102, 76, 97, 98] [(66, 59), (66, 60), (66, 61), (66, 62), (66, 63)] G G_98 ∧ Fr [101] [] G_88 G_98 ∧ va_S A s.heap H locs ∧ lv_has ls 8 [(6, .int x_102), (5, .int x_38), (0, .ref (a 66)), (4, .int p3)]) (fun n_101 H locs ls ih_100 hI => ?_) (1024 - 0 : Int).toNat ⟨G_88, 0, (Int.toNat_of_nonneg ((by decide))), ⟨(by decide), (by decide)⟩, Rc.rf, hW, hB_G_88, hF, Fr.rf, hS, lv_sub hl [0, 1, 2, 3] rfl⟩
              obtain ⟨G_98, x_102, hn_106, f_105, hX_103, hW, hB_G_98, hF, hq_99, hS, hl⟩ := hI
              refine lv_iload hx hb dX12_ways_185 (lv_at hl 0 rfl) ?_
              refine lv_sipush (v := 1024) hx hb dX12_ways_187 (by decide) ?_
              refine lv_icmp_ge (tgt := 213) hx hb dX12_ways_190 rfl (fun c_107 => ?_) (fun c_107 => ?_)
              · have c_107 : 1024 ≤ x_102.toInt := xI_le rfl rfl c_107
                obtain ⟨y_108, ey_108⟩ : ∃ q, q = x_38 + 1 := ⟨_, rfl⟩
                have ty_108 : y_108.toInt = x_38.toInt + 1 := xI_add rfl rfl ey_108 ((by first | exact ok_237 f_41.1 | omega)) ((by first | exact ok_238 f_41.2 | omega))
                refine lv_iinc (v := y_108) (lv' := [(5, .int y_108), (6, .int x_102), (0, .ref (a 66)), (4, .int p3)]) hx hb dX12_ways_213 hl (k := 1) rfl (by rw [ey_108]; rfl) (lt_b rfl) rfl (fun ls hl => ?_)
                refine lv_goto (tgt := 104) hx hb dX12_ways_216 rfl ?_
                exact ih_36 (60 - y_108.toInt : Int).toNat ((by first | (clear hP9 f_6 hp_4 c_7 f_15 c_16 g_18 d_3 d_4 d_5 d_6 d_7 d_8 hn_32 f_31 c_33 hn_86 f_85 c_87 hn_96 f_95 c_97 hn_106 f_105 c_107; omega) | omega)) _ _ _ ⟨G_98, y_108, (Int.toNat_of_nonneg ((by first | exact ok_1135 qc_9 f_15.1 f_15.2 d_1 c_16 f_41.2 c_43 ty_108 | omega))), ⟨(by first | exact ok_240 f_41.1 ty_108 | omega), (by first | exact ok_1136 qc_9 f_15.1 f_15.2 d_1 c_16 f_41.2 c_43 ty_108 | omega)⟩, (hX_39.st (St_n_ways_2_mk ⟨x_38, G_34, y_108, G_98, rfl, rfl, f_41, hB_G_34, ⟨c_43, ⟨x_82, G_78, hX_83, f_85, hB_G_78, hq_79, ⟨c_87, ⟨x_92, G_88, hX_93, f_95, hB_G_88, hq_89, ⟨c_97, ⟨x_102, G_98, hX_103, f_105, hB_G_98, hq_99, ⟨c_107, ⟨y_108, ty_108, ⟨rfl, rfl⟩⟩⟩⟩⟩⟩⟩⟩⟩⟩)), hW, hB_G_98, hF, (Fr.call9 (rs := [101, 102]) (fs := []) (Fr.call9 (rs := [101, 102]) (fs := []) (Fr.call9 (rs := [101, 102]) (fs := []) (Fr.call9 (rs := [101, 102]) (fs := []) Fr.rf hq_35 rfl rfl) hq_79 rfl rfl) hq_89 rfl rfl) hq_99 rfl rfl), hS, lv_sub hl [0, 2, 3] rfl⟩
              · have c_107 : x_102.toInt < 1024 := xI_nle rfl rfl c_107
                refine lv_aload_n hx hb dX12_ways_193 rfl (lv_at hl 2 rfl) ?_
                refine S_getR (n := 101) (C := RX12) (T := TX12) (N := 89) hx hb hg iX12 hown hK hW kd_66 rfl 67 (lt_b rfl) (hg (Cond.fieldLink RX12 124 "SlabWalkModel" "ways" "[J") m1381) (fun _ h9 => h9) rfl dX12_ways_194 ?_
                refine lv_iload hx hb dX12_ways_197 (lv_at hl 0 rfl) ?_
                refine lv_aload_n hx hb dX12_ways_199 rfl (lv_at hl 2 rfl) ?_
                refine S_getR (n := 102) (C := RX12) (T := TX12) (N := 89) hx hb hg iX12 hown hK hW kd_66 rfl 68 (lt_b rfl) (hg (Cond.fieldLink RX12 127 "SlabWalkModel" "next" "[J") m1382) (fun _ h9 => h9) rfl dX12_ways_200 ?_
                refine lv_iload hx hb dX12_ways_203 (lv_at hl 0 rfl) ?_
                refine S_lald hx hb hK hW kd_102 (vin ((by first | exact f_105.1 | omega)) ((by first | exact ok_1137 f_105.2 c_107 | omega))) dX12_ways_205 (fun y_109 ey_109 => ?_)
                refine S_last hx hb hK hW hS kd_101 (vin ((by first | exact f_105.1 | omega)) ((by first | exact ok_1137 f_105.2 c_107 | omega))) dX12_ways_206 (fun G_110 H locs eG_110 hW hS => ?_)
                have hB_G_110 : Bd G_110 := hB_G_98.putl eG_110
                have hF := hF.putl eG_110 (Or.inl (by decide))
                obtain ⟨y_111, ey_111⟩ : ∃ q, q = x_102 + 1 := ⟨_, rfl⟩
                have ty_111 : y_111.toInt = x_102.toInt + 1 := xI_add rfl rfl ey_111 ((by first | exact ok_21 f_105.1 | omega)) ((by first | exact ok_1138 f_105.2 | omega))
                refine lv_iinc (v := y_111) (lv' := [(6, .int y_111), (5, .int x_38), (0, .ref (a 66)), (4, .int p3)]) hx hb dX12_ways_207 hl (k := 0) rfl (by rw [ey_111]; rfl) (lt_b rfl) rfl (fun ls hl => ?_)
                refine lv_goto (tgt := 185) hx hb dX12_ways_210 rfl ?_
                exact ih_100 (1024 - y_111.toInt : Int).toNat ((by first | (clear hP9 f_6 hp_4 c_7 f_15 d_1 d_2 c_16 g_18 d_3 d_4 d_5 d_6 d_7 d_8 hn_32 f_31 c_33 hn_42 f_41 c_43 hn_86 f_85 c_87 hn_96 f_95 c_97; omega) | omega)) _ _ _ ⟨G_110, y_111, (Int.toNat_of_nonneg ((by first | exact ok_1139 f_105.2 c_107 ty_111 | omega))), ⟨(by first | exact ok_23 f_105.1 ty_111 | omega), (by first | exact ok_1140 f_105.2 c_107 ty_111 | omega)⟩, (hX_103.st (St_n_ways_6_mk ⟨x_102, G_98, y_111, G_110, rfl, rfl, f_105, hB_G_98, ⟨c_107, ⟨y_109, ey_109, ⟨y_111, ty_111, ⟨rfl, (Fr.putl (rs := [101]) (fs := []) Fr.rf eG_110 (Or.inl (by decide))), rl_ast eG_110⟩⟩⟩⟩⟩)), hW, hB_G_110, hF, (Fr.putl (rs := [101]) (fs := []) (Fr.call9 (rs := [101]) (fs := []) Fr.rf hq_99 rfl rfl) eG_110 (Or.inl (by decide))), hS, lv_sub hl [0, 1, 2, 3] rfl⟩
            · have c_97 : x_92.toInt < 800 := xI_nle rfl rfl c_97
              refine lv_aload_n hx hb dX12_ways_147 rfl (lv_at hl 2 rfl) ?_
              refine S_getR (n := 101) (C := RX12) (T := TX12) (N := 89) hx hb hg iX12 hown hK hW kd_66 rfl 67 (lt_b rfl) (hg (Cond.fieldLink RX12 124 "SlabWalkModel" "ways" "[J") m1381) (fun _ h9 => h9) rfl dX12_ways_148 ?_
              refine lv_iload hx hb dX12_ways_151 (lv_at hl 0 rfl) ?_
              refine S_lald hx hb hK hW kd_101 (vin ((by first | exact f_95.1 | omega)) ((by first | exact ok_1134 f_95.2 | omega))) dX12_ways_153 (fun y_112 ey_112 => ?_)
              refine lv_lconst (v := 0) hx hb dX12_ways_154 (by decide) ?_
              refine W.lcmp hx hb dX12_ways_155 ?_
              refine lv_topi (fun y_113 ey_113 => ?_)
              have ty_113 := lcmp_rng ey_113
              refine lv_if_le (tgt := 176) hx hb dX12_ways_156 rfl (fun c_114 => ?_) (fun c_114 => ?_)
              · have c_114 : y_113.toInt ≤ 0 := xI_le rfl rfl c_114
                obtain ⟨y_115, ey_115⟩ : ∃ q, q = x_92 + 1 := ⟨_, rfl⟩
                have ty_115 : y_115.toInt = x_92.toInt + 1 := xI_add rfl rfl ey_115 ((by first | exact ok_21 f_95.1 | omega)) ((by first | exact ok_1131 f_95.2 | omega))
                refine lv_iinc (v := y_115) (lv' := [(6, .int y_115), (5, .int x_38), (0, .ref (a 66)), (4, .int p3)]) hx hb dX12_ways_176 hl (k := 0) rfl (by rw [ey_115]; rfl) (lt_b rfl) rfl (fun ls hl => ?_)
                refine lv_goto (tgt := 139) hx hb dX12_ways_179 rfl ?_
                exact ih_90 (800 - y_115.toInt : Int).toNat ((by first | (clear hP9 f_6 hp_4 c_7 f_15 d_1 d_2 c_16 g_18 d_3 d_4 d_5 d_6 d_7 d_8 hn_32 f_31 c_33 hn_42 f_41 c_43 hn_86 f_85 c_87 ty_113 c_114; omega) | omega)) _ _ _ ⟨G_88, y_115, (Int.toNat_of_nonneg ((by first | exact ok_1132 f_95.2 c_97 ty_115 | omega))), ⟨(by first | exact ok_23 f_95.1 ty_115 | omega), (by first | exact ok_1133 f_95.2 c_97 ty_115 | omega)⟩, (hX_93.st (St_n_ways_5_mk ⟨x_92, G_88, y_115, G_88, rfl, rfl, f_95, hB_G_88, ⟨c_97, ⟨y_112, ey_112, ⟨y_113, ey_113, (Or.inl ⟨c_114, ⟨y_115, ty_115, ⟨rfl, rfl⟩⟩⟩)⟩⟩⟩⟩)), hW, hB_G_88, hF, (Fr.call9 (rs := [102]) (fs := []) Fr.rf hq_89 rfl rfl), hS, lv_sub hl [0, 1, 2, 3] rfl⟩
              · have c_114 : 0 < y_113.toInt := xI_nle rfl rfl c_114
                refine lv_aload_n hx hb dX12_ways_159 rfl (lv_at hl 2 rfl) ?_
                refine lv_iload hx hb dX12_ways_160 (lv_at hl 0 rfl) ?_
                refine ic_2 hx hb dX12_ways_162 ?_
                refine lv_idiv hx hb dX12_ways_163 (by decide) ?_
                refine lv_topi (fun y_116 ey_116 => ?_)
                have ty_116 : y_116.toInt = x_92.toInt / 2 := xI_div rfl ey_116 (by decide) ((by first | exact f_95.1 | omega))
                have b_117 : 0 ≤ (G_20.1 66 59).toInt ∧ (G_20.1 66 59).toInt ≤ 400 := bd_66_59 hB_G_20
                have g_118 : (G_88.1 66 59).toInt = (G_20.1 66 59).toInt := (congrArg Int32.toInt (show G_88.1 66 59 = (G_20.1 66 59) from ((hq_89.i9 66 59 rfl rfl).trans ((hq_79.i9 66 59 rfl rfl).trans ((hq_35.i9 66 59 rfl rfl).trans (hq_25.i9 66 59 rfl rfl))))))
                have b_119 : 0 ≤ (G_20.1 66 60).toInt ∧ (G_20.1 66 60).toInt ≤ 12 := bd_66_60 hB_G_20
                have g_120 : (G_88.1 66 60).toInt = (G_20.1 66 60).toInt := (congrArg Int32.toInt (show G_88.1 66 60 = (G_20.1 66 60) from ((hq_89.i9 66 60 rfl rfl).trans ((hq_79.i9 66 60 rfl rfl).trans ((hq_35.i9 66 60 rfl rfl).trans (hq_25.i9 66 60 rfl rfl))))))
                have b_121 : 0 ≤ (G_20.1 66 62).toInt ∧ (G_20.1 66 62).toInt ≤ 60 := bd_66_62 hB_G_20
                have g_122 : (G_88.1 66 62).toInt = (G_20.1 66 62).toInt := (congrArg Int32.toInt (show G_88.1 66 62 = (G_20.1 66 62) from ((hq_89.i9 66 62 rfl rfl).trans ((hq_79.i9 66 62 rfl rfl).trans ((hq_35.i9 66 62 rfl rfl).trans (hq_25.i9 66 62 rfl rfl))))))
                refine S_calli (va_runV (As := [.int y_116]) (rest := []) ⟨hx, hb, hml, hown, hts⟩ (n_isEnd l D k A a z G_88 y_116 ⟨(by first | exact ok_1129 f_95.1 ty_116 | omega), (by first | exact ok_1130 f_95.2 ty_116 | omega)⟩) (cwV 1 hts (gd_V hgd m1854 m1856 m95 m131 m1857) rfl rfl rfl hd_X12_isEnd ⟨Nat.le_of_ble_eq_true rfl, Nat.le_of_ble_eq_true rfl⟩) (pre_W hW hB_G_88 hK hZ hS kd_66 rfl) rfl rfl hl.1 rfl (lv_room (Nat.le_of_ble_eq_true rfl)) dX12_ways_164 ⟨Nat.le_of_ble_eq_true rfl, Nat.le_of_ble_eq_true rfl⟩) hS (fun r_123 G_124 H locs hpo hW hS => ?_)
                have hX_127 : Q_isEnd y_116 G_88 r_123 G_124 := hpo
                obtain ⟨hB_G_124, hq_125, f_128, ⟨d_12, d_13⟩, -⟩ := hpo
                have hF := hF.call9 hq_125 rfl rfl
                refine lv_if_ne (tgt := 176) hx hb dX12_ways_167 rfl (fun c_129 => ?_) (fun c_129 => ?_)
                · have c_129 : r_123.toInt ≠ 0 := xI_ne rfl rfl c_129
                  obtain ⟨y_130, ey_130⟩ : ∃ q, q = x_92 + 1 := ⟨_, rfl⟩
                  have ty_130 : y_130.toInt = x_92.toInt + 1 := xI_add rfl rfl ey_130 ((by first | exact ok_21 f_95.1 | omega)) ((by first | exact ok_1131 f_95.2 | omega))
                  refine lv_iinc (v := y_130) (lv' := [(6, .int y_130), (5, .int x_38), (0, .ref (a 66)), (4, .int p3)]) hx hb dX12_ways_176 hl (k := 0) rfl (by rw [ey_130]; rfl) (lt_b rfl) rfl (fun ls hl => ?_)
                  refine lv_goto (tgt := 139) hx hb dX12_ways_179 rfl ?_
                  exact ih_90 (800 - y_130.toInt : Int).toNat ((by first | (clear hP9 f_6 c_7 f_15 d_1 d_2 c_16 g_18 hn_32 f_31 c_33 hn_42 f_41 c_43 hn_86 f_85 c_87 ty_113 c_114 d_12; omega) | omega)) _ _ _ ⟨G_124, y_130, (Int.toNat_of_nonneg ((by first | exact ok_1132 f_95.2 c_97 ty_130 | omega))), ⟨(by first | exact ok_23 f_95.1 ty_130 | omega), (by first | exact ok_1133 f_95.2 c_97 ty_130 | omega)⟩, (hX_93.st (St_n_ways_5_mk ⟨x_92, G_88, y_130, G_124, rfl, rfl, f_95, hB_G_88, ⟨c_97, ⟨y_112, ey_112, ⟨y_113, ey_113, (Or.inr ⟨c_114, ⟨y_116, ty_116, ⟨r_123, G_124, hX_127, (Or.inr ⟨c_129, ⟨y_130, ty_130, ⟨rfl, rfl⟩⟩⟩)⟩⟩⟩)⟩⟩⟩⟩)), hW, hB_G_124, hF, (Fr.call9 (rs := [102]) (fs := []) (Fr.call9 (rs := [102]) (fs := []) Fr.rf hq_89 rfl rfl) hq_125 rfl rfl), hS, lv_sub hl [0, 1, 2, 3] rfl⟩
                · have c_129 : r_123.toInt = 0 := xI_eq rfl rfl c_129
                  have d_14 := d_12 c_129
                  refine lv_aload_n hx hb dX12_ways_170 rfl (lv_at hl 2 rfl) ?_
                  refine lv_iload hx hb dX12_ways_171 (lv_at hl 0 rfl) ?_
                  refine S_callv (va_runV (As := [.int x_92]) (rest := []) ⟨hx, hb, hml, hown, hts⟩ (n_goOn l D k A a z G_124 x_92 ⟨(by first | exact f_95.1 | omega), (by first | exact ok_1141 f_95.2 c_97 | omega)⟩) (cwV 1 hts (gd_V hgd m1875 m1877 m98 m131 m1878) rfl rfl rfl hd_X12_goOn ⟨Nat.le_of_ble_eq_true rfl, Nat.le_of_ble_eq_true rfl⟩) (pre_W hW hB_G_124 hK hZ hS kd_66 rfl) rfl rfl hl.1 rfl (lv_room (Nat.le_of_ble_eq_true rfl)) dX12_ways_173 ⟨Nat.le_of_ble_eq_true rfl, Nat.le_of_ble_eq_true rfl⟩) hS (fun G_132 H locs hpo hW hS => ?_)
                  have hX_135 : Q_goOn x_92 G_124 G_132 := hpo
                  obtain ⟨hB_G_132, hq_133, -⟩ := hpo
                  have hF := hF.call9 hq_133 rfl rfl
                  obtain ⟨y_136, ey_136⟩ : ∃ q, q = x_92 + 1 := ⟨_, rfl⟩
                  have ty_136 : y_136.toInt = x_92.toInt + 1 := xI_add rfl rfl ey_136 ((by first | exact ok_21 f_95.1 | omega)) ((by first | exact ok_1131 f_95.2 | omega))
                  refine lv_iinc (v := y_136) (lv' := [(6, .int y_136), (5, .int x_38), (0, .ref (a 66)), (4, .int p3)]) hx hb dX12_ways_176 hl (k := 0) rfl (by rw [ey_136]; rfl) (lt_b rfl) rfl (fun ls hl => ?_)
                  refine lv_goto (tgt := 139) hx hb dX12_ways_179 rfl ?_
                  exact ih_90 (800 - y_136.toInt : Int).toNat ((by first | (clear hP9 f_6 c_7 f_15 d_1 d_2 c_16 g_18 hn_32 f_31 c_33 hn_42 f_41 c_43 hn_86 f_85 c_87 ty_113 c_114 d_12; omega) | omega)) _ _ _ ⟨G_132, y_136, (Int.toNat_of_nonneg ((by first | exact ok_1132 f_95.2 c_97 ty_136 | omega))), ⟨(by first | exact ok_23 f_95.1 ty_136 | omega), (by first | exact ok_1133 f_95.2 c_97 ty_136 | omega)⟩, (hX_93.st (St_n_ways_5_mk ⟨x_92, G_88, y_136, G_132, rfl, rfl, f_95, hB_G_88, ⟨c_97, ⟨y_112, ey_112, ⟨y_113, ey_113, (Or.inr ⟨c_114, ⟨y_116, ty_116, ⟨r_123, G_124, hX_127, (Or.inl ⟨c_129, ⟨G_132, hX_135, ⟨y_136, ty_136, ⟨rfl, rfl⟩⟩⟩⟩)⟩⟩⟩)⟩⟩⟩⟩)), hW, hB_G_132, hF, (Fr.call9 (rs := [102]) (fs := []) (Fr.call9 (rs := [102]) (fs := []) (Fr.call9 (rs := [102]) (fs := []) Fr.rf hq_89 rfl rfl) hq_125 rfl rfl) hq_133 rfl rfl), hS, lv_sub hl [0, 1, 2, 3] rfl⟩
          · have c_87 : x_82.toInt < 1024 := xI_nle rfl rfl c_87
            refine lv_aload_n hx hb dX12_ways_122 rfl (lv_at hl 2 rfl) ?_
            refine S_getR (n := 102) (C := RX12) (T := TX12) (N := 89) hx hb hg iX12 hown hK hW kd_66 rfl 68 (lt_b rfl) (hg (Cond.fieldLink RX12 127 "SlabWalkModel" "next" "[J") m1382) (fun _ h9 => h9) rfl dX12_ways_123 ?_
            refine lv_iload hx hb dX12_ways_126 (lv_at hl 0 rfl) ?_
            refine lv_lconst (v := 0) hx hb dX12_ways_128 (by decide) ?_
            refine S_last hx hb hK hW hS kd_102 (vin ((by first | exact f_85.1 | omega)) ((by first | exact ok_1137 f_85.2 c_87 | omega))) dX12_ways_129 (fun G_137 H locs eG_137 hW hS => ?_)
            have hB_G_137 : Bd G_137 := hB_G_78.putl eG_137
            have hF := hF.putl eG_137 (Or.inl (by decide))
            obtain ⟨y_138, ey_138⟩ : ∃ q, q = x_82 + 1 := ⟨_, rfl⟩
            have ty_138 : y_138.toInt = x_82.toInt + 1 := xI_add rfl rfl ey_138 ((by first | exact ok_21 f_85.1 | omega)) ((by first | exact ok_1138 f_85.2 | omega))
            refine lv_iinc (v := y_138) (lv' := [(6, .int y_138), (5, .int x_38), (0, .ref (a 66)), (4, .int p3)]) hx hb dX12_ways_130 hl (k := 0) rfl (by rw [ey_138]; rfl) (lt_b rfl) rfl (fun ls hl => ?_)
            refine lv_goto (tgt := 114) hx hb dX12_ways_133 rfl ?_
            exact ih_80 (1024 - y_138.toInt : Int).toNat ((by first | (clear hP9 f_6 hp_4 c_7 f_15 d_1 d_2 c_16 g_18 d_3 d_4 d_5 d_6 d_7 d_8 hn_32 f_31 c_33 hn_42 f_41 c_43; omega) | omega)) _ _ _ ⟨G_137, y_138, (Int.toNat_of_nonneg ((by first | exact ok_1139 f_85.2 c_87 ty_138 | omega))), ⟨(by first | exact ok_23 f_85.1 ty_138 | omega), (by first | exact ok_1140 f_85.2 c_87 ty_138 | omega)⟩, (hX_83.st (St_n_ways_4_mk ⟨x_82, G_78, y_138, G_137, rfl, rfl, f_85, hB_G_78, ⟨c_87, ⟨y_138, ty_138, ⟨rfl, (Fr.putl (rs := [102]) (fs := []) Fr.rf eG_137 (Or.inl (by decide))), rl_ast eG_137⟩⟩⟩⟩)), hW, hB_G_137, hF, (Fr.putl (rs := [102]) (fs := []) (Fr.call9 (rs := [102]) (fs := []) Fr.rf hq_79 rfl rfl) eG_137 (Or.inl (by decide))), hS, lv_sub hl [0, 1, 2, 3] rfl⟩
      · have c_33 : x_28.toInt < 1024 := xI_nle rfl rfl c_33
        refine lv_aload_n hx hb dX12_ways_43 rfl (lv_at hl 1 rfl) ?_
        refine S_getR (n := 101) (C := RX12) (T := TX12) (N := 89) hx hb hg iX12 hown hK hW kd_66 rfl 67 (lt_b rfl) (hg (Cond.fieldLink RX12 124 "SlabWalkModel" "ways" "[J") m1381) (fun _ h9 => h9) rfl dX12_ways_44 ?_
        refine lv_iload hx hb dX12_ways_47 (lv_at hl 0 rfl) ?_
        refine lv_iload hx hb dX12_ways_49 (lv_at hl 0 rfl) ?_
        refine ic_2 hx hb dX12_ways_51 ?_
        refine lv_irem hx hb dX12_ways_52 (by decide) ?_
        refine lv_topi (fun y_139 ey_139 => ?_)
        have ty_139 : y_139.toInt = x_28.toInt % 2 := xI_mod rfl ey_139 (by decide) ((by first | exact f_31.1 | omega))
        refine lv_if_ne (tgt := 93) hx hb dX12_ways_53 rfl (fun c_140 => ?_) (fun c_140 => ?_)
        · have c_140 : y_139.toInt ≠ 0 := xI_ne rfl rfl c_140
          refine lv_lconst (v := 0) hx hb dX12_ways_93 (by decide) ?_
          refine S_last hx hb hK hW hS kd_101 (vin ((by first | exact f_31.1 | omega)) ((by first | exact ok_1137 f_31.2 c_33 | omega))) dX12_ways_94 (fun G_141 H locs eG_141 hW hS => ?_)
          have hB_G_141 : Bd G_141 := hB_G_24.putl eG_141
          have hF := hF.putl eG_141 (Or.inl (by decide))
          obtain ⟨y_142, ey_142⟩ : ∃ q, q = x_28 + 1 := ⟨_, rfl⟩
          have ty_142 : y_142.toInt = x_28.toInt + 1 := xI_add rfl rfl ey_142 ((by first | exact ok_21 f_31.1 | omega)) ((by first | exact ok_1138 f_31.2 | omega))
          refine lv_iinc (v := y_142) (lv' := [(5, .int y_142), (0, .ref (a 66)), (4, .int p3)]) hx hb dX12_ways_95 hl (k := 0) rfl (by rw [ey_142]; rfl) (lt_b rfl) rfl (fun ls hl => ?_)
          refine lv_goto (tgt := 35) hx hb dX12_ways_98 rfl ?_
          exact ih_26 (1024 - y_142.toInt : Int).toNat ((by first | (clear hP9 f_6 hp_4 c_7 f_15 d_1 d_2 c_16 g_18 d_3 d_4 d_5 d_6 d_7 d_8; omega) | omega)) _ _ _ ⟨G_141, y_142, (Int.toNat_of_nonneg ((by first | exact ok_1139 f_31.2 c_33 ty_142 | omega))), ⟨(by first | exact ok_23 f_31.1 ty_142 | omega), (by first | exact ok_1140 f_31.2 c_33 ty_142 | omega)⟩, (hX_29.st (St_n_ways_1_mk ⟨x_28, G_24, y_142, G_141, rfl, rfl, f_31, hB_G_24, ⟨c_33, ⟨y_139, ty_139, (Or.inr ⟨c_140, ⟨y_142, ty_142, ⟨rfl, (Fr.putl (rs := [101]) (fs := []) Fr.rf eG_141 (Or.inl (by decide))), rl_ast eG_141⟩⟩⟩)⟩⟩⟩)), hW, hB_G_141, hF, (Fr.putl (rs := [101]) (fs := []) (Fr.call9 (rs := [101]) (fs := []) Fr.rf hq_25 rfl rfl) eG_141 (Or.inl (by decide))), hS, lv_sub hl [0, 1, 2] rfl⟩
        · have c_140 : y_139.toInt = 0 := xI_eq rfl rfl c_140
          refine lv_iload hx hb dX12_ways_56 (lv_at hl 0 rfl) ?_
          refine ic_2 hx hb dX12_ways_58 ?_
          refine lv_idiv hx hb dX12_ways_59 (by decide) ?_
          refine lv_topi (fun y_143 ey_143 => ?_)
          have ty_143 : y_143.toInt = x_28.toInt / 2 := xI_div rfl ey_143 (by decide) ((by first | exact f_31.1 | omega))
          refine lv_aload_n hx hb dX12_ways_60 rfl (lv_at hl 1 rfl) ?_
          have b_144 : 0 ≤ (G_20.1 66 62).toInt ∧ (G_20.1 66 62).toInt ≤ 60 := bd_66_62 hB_G_20
          refine S_getI (v := (G_20.1 66 62)) (C := RX12) (T := TX12) (N := 89) hx hb hg iX12 hown hK hW kd_66 rfl 62 (lt_b rfl) (hg (Cond.fieldLink RX12 478 "SlabWalkModel" "most" "I") m1376) (fun _ h9 => h9) rfl (hq_25.i9 66 62 rfl rfl) dX12_ways_61 ?_
          refine lv_icmp_ge (tgt := 93) hx hb dX12_ways_64 rfl (fun c_145 => ?_) (fun c_145 => ?_)
          · have c_145 : (G_20.1 66 62).toInt ≤ y_143.toInt := xI_le rfl rfl c_145
            refine lv_lconst (v := 0) hx hb dX12_ways_93 (by decide) ?_
            refine S_last hx hb hK hW hS kd_101 (vin ((by first | exact f_31.1 | omega)) ((by first | exact ok_1137 f_31.2 c_33 | omega))) dX12_ways_94 (fun G_146 H locs eG_146 hW hS => ?_)
            have hB_G_146 : Bd G_146 := hB_G_24.putl eG_146
            have hF := hF.putl eG_146 (Or.inl (by decide))
            obtain ⟨y_147, ey_147⟩ : ∃ q, q = x_28 + 1 := ⟨_, rfl⟩
            have ty_147 : y_147.toInt = x_28.toInt + 1 := xI_add rfl rfl ey_147 ((by first | exact ok_21 f_31.1 | omega)) ((by first | exact ok_1138 f_31.2 | omega))
            refine lv_iinc (v := y_147) (lv' := [(5, .int y_147), (0, .ref (a 66)), (4, .int p3)]) hx hb dX12_ways_95 hl (k := 0) rfl (by rw [ey_147]; rfl) (lt_b rfl) rfl (fun ls hl => ?_)
            refine lv_goto (tgt := 35) hx hb dX12_ways_98 rfl ?_
            exact ih_26 (1024 - y_147.toInt : Int).toNat ((by first | (clear hP9 f_6 c_7 f_15 d_1 d_2 c_16 g_18; omega) | omega)) _ _ _ ⟨G_146, y_147, (Int.toNat_of_nonneg ((by first | exact ok_1139 f_31.2 c_33 ty_147 | omega))), ⟨(by first | exact ok_23 f_31.1 ty_147 | omega), (by first | exact ok_1140 f_31.2 c_33 ty_147 | omega)⟩, (hX_29.st (St_n_ways_1_mk ⟨x_28, G_24, y_147, G_146, rfl, rfl, f_31, hB_G_24, ⟨c_33, ⟨y_139, ty_139, (Or.inl ⟨c_140, ⟨y_143, ty_143, (Or.inl ⟨c_145, ⟨y_147, ty_147, ⟨rfl, (Fr.putl (rs := [101]) (fs := []) Fr.rf eG_146 (Or.inl (by decide))), rl_ast eG_146⟩⟩⟩)⟩⟩)⟩⟩⟩)), hW, hB_G_146, hF, (Fr.putl (rs := [101]) (fs := []) (Fr.call9 (rs := [101]) (fs := []) Fr.rf hq_25 rfl rfl) eG_146 (Or.inl (by decide))), hS, lv_sub hl [0, 1, 2] rfl⟩
          · have c_145 : y_143.toInt < (G_20.1 66 62).toInt := xI_nle rfl rfl c_145
            refine lv_iload hx hb dX12_ways_67 (lv_at hl 0 rfl) ?_
            refine ic_2 hx hb dX12_ways_69 ?_
            refine lv_idiv hx hb dX12_ways_70 (by decide) ?_
            refine lv_topi (fun y_148 ey_148 => ?_)
            have ty_148 : y_148.toInt = x_28.toInt / 2 := xI_div rfl ey_148 (by decide) ((by first | exact f_31.1 | omega))
            refine lv_sipush (v := 400) hx hb dX12_ways_71 (by decide) ?_
            refine lv_icmp_ge (tgt := 93) hx hb dX12_ways_74 rfl (fun c_149 => ?_) (fun c_149 => ?_)
            · have c_149 : 400 ≤ y_148.toInt := xI_le rfl rfl c_149
              refine lv_lconst (v := 0) hx hb dX12_ways_93 (by decide) ?_
              refine S_last hx hb hK hW hS kd_101 (vin ((by first | exact f_31.1 | omega)) ((by first | exact ok_1137 f_31.2 c_33 | omega))) dX12_ways_94 (fun G_150 H locs eG_150 hW hS => ?_)
              have hB_G_150 : Bd G_150 := hB_G_24.putl eG_150
              have hF := hF.putl eG_150 (Or.inl (by decide))
              obtain ⟨y_151, ey_151⟩ : ∃ q, q = x_28 + 1 := ⟨_, rfl⟩
              have ty_151 : y_151.toInt = x_28.toInt + 1 := xI_add rfl rfl ey_151 ((by first | exact ok_21 f_31.1 | omega)) ((by first | exact ok_1138 f_31.2 | omega))
              refine lv_iinc (v := y_151) (lv' := [(5, .int y_151), (0, .ref (a 66)), (4, .int p3)]) hx hb dX12_ways_95 hl (k := 0) rfl (by rw [ey_151]; rfl) (lt_b rfl) rfl (fun ls hl => ?_)
              refine lv_goto (tgt := 35) hx hb dX12_ways_98 rfl ?_
              exact ih_26 (1024 - y_151.toInt : Int).toNat ((by first | (clear hP9 f_6 c_7 f_15 d_1 d_2 c_16 g_18; omega) | omega)) _ _ _ ⟨G_150, y_151, (Int.toNat_of_nonneg ((by first | exact ok_1139 f_31.2 c_33 ty_151 | omega))), ⟨(by first | exact ok_23 f_31.1 ty_151 | omega), (by first | exact ok_1140 f_31.2 c_33 ty_151 | omega)⟩, (hX_29.st (St_n_ways_1_mk ⟨x_28, G_24, y_151, G_150, rfl, rfl, f_31, hB_G_24, ⟨c_33, ⟨y_139, ty_139, (Or.inl ⟨c_140, ⟨y_143, ty_143, (Or.inr ⟨c_145, ⟨y_148, ty_148, (Or.inl ⟨c_149, ⟨y_151, ty_151, ⟨rfl, (Fr.putl (rs := [101]) (fs := []) Fr.rf eG_150 (Or.inl (by decide))), rl_ast eG_150⟩⟩⟩)⟩⟩)⟩⟩)⟩⟩⟩)), hW, hB_G_150, hF, (Fr.putl (rs := [101]) (fs := []) (Fr.call9 (rs := [101]) (fs := []) Fr.rf hq_25 rfl rfl) eG_150 (Or.inl (by decide))), hS, lv_sub hl [0, 1, 2] rfl⟩
            · have c_149 : y_148.toInt < 400 := xI_nle rfl rfl c_149
              refine lv_aload_n hx hb dX12_ways_77 rfl (lv_at hl 1 rfl) ?_
              refine S_getR (n := 98) (C := RX12) (T := TX12) (N := 89) hx hb hg iX12 hown hK hW kd_66 rfl 58 (lt_b rfl) (hg (Cond.fieldLink RX12 115 "SlabWalkModel" "lawful" "[Z") m1372) (fun _ h9 => h9) rfl dX12_ways_78 ?_
              refine lv_iload hx hb dX12_ways_81 (lv_at hl 0 rfl) ?_
              refine ic_2 hx hb dX12_ways_83 ?_
              refine lv_idiv hx hb dX12_ways_84 (by decide) ?_
              refine lv_topi (fun y_152 ey_152 => ?_)
              have ty_152 : y_152.toInt = x_28.toInt / 2 := xI_div rfl ey_152 (by decide) ((by first | exact f_31.1 | omega))
              refine S_zald hx hb hK hW kd_98 (vin ((by first | exact ok_1142 f_31.1 ty_152 | omega)) ((by first | exact ok_1143 f_31.2 c_33 ty_152 | omega))) dX12_ways_85 (fun y_153 ey_153 => ?_)
              have ty_153 := hB_G_24.law ey_153
              refine lv_if_eq (tgt := 93) hx hb dX12_ways_86 rfl (fun c_154 => ?_) (fun c_154 => ?_)
              · have c_154 : y_153.toInt = 0 := xI_eq rfl rfl c_154
                refine lv_lconst (v := 0) hx hb dX12_ways_93 (by decide) ?_
                refine S_last hx hb hK hW hS kd_101 (vin ((by first | exact f_31.1 | omega)) ((by first | exact ok_1144 c_33 | omega))) dX12_ways_94 (fun G_155 H locs eG_155 hW hS => ?_)
                have hB_G_155 : Bd G_155 := hB_G_24.putl eG_155
                have hF := hF.putl eG_155 (Or.inl (by decide))
                obtain ⟨y_156, ey_156⟩ : ∃ q, q = x_28 + 1 := ⟨_, rfl⟩
                have ty_156 : y_156.toInt = x_28.toInt + 1 := xI_add rfl rfl ey_156 ((by first | exact ok_21 f_31.1 | omega)) ((by first | exact ok_1145 c_33 | omega))
                refine lv_iinc (v := y_156) (lv' := [(5, .int y_156), (0, .ref (a 66)), (4, .int p3)]) hx hb dX12_ways_95 hl (k := 0) rfl (by rw [ey_156]; rfl) (lt_b rfl) rfl (fun ls hl => ?_)
                refine lv_goto (tgt := 35) hx hb dX12_ways_98 rfl ?_
                exact ih_26 (1024 - y_156.toInt : Int).toNat ((by first | (clear hP9 f_6 c_7 f_15 d_1 d_2 c_16 g_18 c_154; omega) | omega)) _ _ _ ⟨G_155, y_156, (Int.toNat_of_nonneg ((by first | exact ok_1146 c_33 ty_156 | omega))), ⟨(by first | exact ok_23 f_31.1 ty_156 | omega), (by first | exact ok_1147 c_33 ty_156 | omega)⟩, (hX_29.st (St_n_ways_1_mk ⟨x_28, G_24, y_156, G_155, rfl, rfl, f_31, hB_G_24, ⟨c_33, ⟨y_139, ty_139, (Or.inl ⟨c_140, ⟨y_143, ty_143, (Or.inr ⟨c_145, ⟨y_148, ty_148, (Or.inr ⟨c_149, ⟨y_152, ty_152, ⟨y_153, ey_153, (Or.inl ⟨c_154, ⟨y_156, ty_156, ⟨rfl, (Fr.putl (rs := [101]) (fs := []) Fr.rf eG_155 (Or.inl (by decide))), rl_ast eG_155⟩⟩⟩)⟩⟩⟩)⟩⟩)⟩⟩)⟩⟩⟩)), hW, hB_G_155, hF, (Fr.putl (rs := [101]) (fs := []) (Fr.call9 (rs := [101]) (fs := []) Fr.rf hq_25 rfl rfl) eG_155 (Or.inl (by decide))), hS, lv_sub hl [0, 1, 2] rfl⟩
              · have c_154 : y_153.toInt ≠ 0 := xI_ne rfl rfl c_154
                refine lv_lconst (v := 1) hx hb dX12_ways_89 (by decide) ?_
                refine lv_goto (tgt := 94) hx hb dX12_ways_90 rfl ?_
                refine S_last hx hb hK hW hS kd_101 (vin ((by first | exact f_31.1 | omega)) ((by first | exact ok_1144 c_33 | omega))) dX12_ways_94 (fun G_157 H locs eG_157 hW hS => ?_)
                have hB_G_157 : Bd G_157 := hB_G_24.putl eG_157
                have hF := hF.putl eG_157 (Or.inl (by decide))
                obtain ⟨y_158, ey_158⟩ : ∃ q, q = x_28 + 1 := ⟨_, rfl⟩
                have ty_158 : y_158.toInt = x_28.toInt + 1 := xI_add rfl rfl ey_158 ((by first | exact ok_21 f_31.1 | omega)) ((by first | exact ok_1145 c_33 | omega))
                refine lv_iinc (v := y_158) (lv' := [(5, .int y_158), (0, .ref (a 66)), (4, .int p3)]) hx hb dX12_ways_95 hl (k := 0) rfl (by rw [ey_158]; rfl) (lt_b rfl) rfl (fun ls hl => ?_)
                refine lv_goto (tgt := 35) hx hb dX12_ways_98 rfl ?_
                exact ih_26 (1024 - y_158.toInt : Int).toNat ((by first | (clear hP9 f_6 c_7 f_15 d_1 d_2 c_16 g_18 c_154; omega) | omega)) _ _ _ ⟨G_157, y_158, (Int.toNat_of_nonneg ((by first | exact ok_1146 c_33 ty_158 | omega))), ⟨(by first | exact ok_23 f_31.1 ty_158 | omega), (by first | exact ok_1147 c_33 ty_158 | omega)⟩, (hX_29.st (St_n_ways_1_mk ⟨x_28, G_24, y_158, G_157, rfl, rfl, f_31, hB_G_24, ⟨c_33, ⟨y_139, ty_139, (Or.inl ⟨c_140, ⟨y_143, ty_143, (Or.inr ⟨c_145, ⟨y_148, ty_148, (Or.inr ⟨c_149, ⟨y_152, ty_152, ⟨y_153, ey_153, (Or.inr ⟨c_154, ⟨y_158, ty_158, ⟨rfl, (Fr.putl (rs := [101]) (fs := []) Fr.rf eG_157 (Or.inl (by decide))), rl_ast eG_157⟩⟩⟩)⟩⟩⟩)⟩⟩)⟩⟩)⟩⟩⟩)), hW, hB_G_157, hF, (Fr.putl (rs := [101]) (fs := []) (Fr.call9 (rs := [101]) (fs := []) Fr.rf hq_25 rfl rfl) eG_157 (Or.inl (by decide))), hS, lv_sub hl [0, 1, 2] rfl⟩
    · have c_16 : r_10.toInt = 0 := xI_eq rfl rfl c_16
      refine lv_ldc2 (v := (-1)) hx hb hown (hg (Cond.constantLong RX12 517 (-1)) m1874) dX12_ways_21 ?_
      exact W.lret (v := (-1)) hx hb hr (fun t ht _ => ⟨⟨(-1), G_11, rfl, (Q_ways_mk ⟨hB_G_11, hF, ⟨r_1, G_2, hX_5, (Or.inr ⟨c_7, ⟨r_10, G_11, hX_14, (Or.inl ⟨c_16, ⟨rfl, rfl⟩⟩)⟩⟩)⟩⟩), wd_t ht hW⟩, hS.F ht⟩) hS.2.2 dX12_ways_24

set_option maxHeartbeats 4000000 in
set_option maxRecDepth 100000 in
theorem n_keeps (l : Launch) (D : va_G) (k : KT) (A : Nat → Prop) (a : Nat → Nat) (z : SK) (G : GS) (p0 : Int32) (p1 : Int32) (p2 : Int32) (hP9 : gP G = 1) : Met l yX12_keeps (WS yX12_keeps cX12_keeps 7 (some .int)) ({ frames := 5, cells := 0, slots := 0, locals := 117 }) (va_Pc [.ref (a 66), .int p0, .int p1, .int p2] (cW D k A a z G)) (va_Qi (fun (r : Int32) (G1 : GS) => Q_keeps p0 p1 p2 G r G1) (fun (G1 : GS) t => Wd D k A a G1 t.heap) A) 0 0 A := by
  refine Met.ofW (cc := cX12_keeps) (maxL := 7) (ret := (some .int)) (by decide) rfl ?_
  intro p e s m args below meth c s₁ B hml hv
  obtain ⟨rfl, hW, hB_G, hK, hZ⟩ := hv
  have hx := B.exec
  have hb := B.bytes
  have hr := B.returns
  have hts := atoms_spec (ws := WS yX12_keeps cX12_keeps 7 (some .int)) B.pre
  have hgd : ∀ w ∈ gd, w ∈ WS yX12_keeps cX12_keeps 7 (some .int) := fun w h => List.mem_cons_of_mem _ h
  have hg : ∀ w ∈ gd, w.before _ s = true := fun w h => hts w (hgd w h)
  have hown : s.vm.findClass RX12 = some m.cls := findClass_of_methodNamed B.named
  have hS : va_S A s.heap s.heap [] := va_S.rf
  have hF : Fr [104, 105, 76, 97, 98] [(66, 59), (66, 60), (66, 61), (66, 62), (66, 63)] G G := Fr.rf
  have hl := lv_entry ([.ref (a 66), .int p0, .int p1, .int p2]) (n := 7) (Nat.le_of_ble_eq_true rfl)
  rw [lg_entry_eq]
  generalize (lg_sl ([.ref (a 66), .int p0, .int p1, .int p2]) ++ List.replicate (7 - (lg_sl ([.ref (a 66), .int p0, .int p1, .int p2])).length) Slot.unset).toArray = ls at hl ⊢
  have hl : lv_has ls 7 [(0, .ref (a 66)), (1, .int p0), (2, .int p1), (3, .int p2)] := hl
  refine lv_aload_n hx hb dX12_keeps_0 rfl (lv_at hl 0 rfl) ?_
  refine lv_iload_n hx hb dX12_keeps_1 rfl (lv_at hl 1 rfl) ?_
  refine lv_iload_n hx hb dX12_keeps_2 rfl (lv_at hl 2 rfl) ?_
  refine lv_iload_n hx hb dX12_keeps_3 rfl (lv_at hl 3 rfl) ?_
  refine S_calli (va_runV (As := [.int p0, .int p1, .int p2]) (rest := []) ⟨hx, hb, hml, hown, hts⟩ (n_isAsked l D k A a z G p0 p1 p2 ) (cwV 3 hts (gd_V hgd m1826 m1828 m89 m131 m1829) rfl rfl rfl hd_X12_isAsked ⟨Nat.le_of_ble_eq_true rfl, Nat.le_of_ble_eq_true rfl⟩) (pre_W hW hB_G hK hZ hS kd_66 rfl) rfl rfl hl.1 rfl (lv_room (Nat.le_of_ble_eq_true rfl)) dX12_keeps_4 ⟨Nat.le_of_ble_eq_true rfl, Nat.le_of_ble_eq_true rfl⟩) hS (fun r_1 G_2 H locs hpo hW hS => ?_)
  have hX_5 : Q_isAsked p0 p1 p2 G r_1 G_2 := hpo
  obtain ⟨hB_G_2, hq_3, f_6, hp_4, -⟩ := hpo
  have hF := hF.call9 hq_3 rfl rfl
  refine lv_if_ne (tgt := 12) hx hb dX12_keeps_7 rfl (fun c_7 => ?_) (fun c_7 => ?_)
  · have c_7 : r_1.toInt ≠ 0 := xI_ne rfl rfl c_7
    refine lv_aload_n hx hb dX12_keeps_12 rfl (lv_at hl 0 rfl) ?_
    refine lv_iload_n hx hb dX12_keeps_13 rfl (lv_at hl 1 rfl) ?_
    refine lv_iload_n hx hb dX12_keeps_14 rfl (lv_at hl 2 rfl) ?_
    refine lv_iload_n hx hb dX12_keeps_15 rfl (lv_at hl 3 rfl) ?_
    have fr_8 : Fr [] [] G G_2 := (Fr.call9 (rs := []) (fs := []) Fr.rf hq_3 rfl rfl)
    have g_9 : gP G_2 = gP G := gP_fr fr_8 (gr_q rfl) (gf_q rfl)
    refine S_callv (va_runV (As := [.int p0, .int p1, .int p2]) (rest := []) ⟨hx, hb, hml, hown, hts⟩ (n_layStreet l D k A a z G_2 p0 p1 p2 ⟨(by first | exact ok_1103 f_6.1 f_6.2 hp_4 c_7 | omega), (by first | exact ok_1104 f_6.1 f_6.2 hp_4 c_7 | omega)⟩ ⟨(by first | exact ok_1101 f_6.1 f_6.2 hp_4 c_7 | omega), (by first | exact ok_1102 f_6.1 f_6.2 hp_4 c_7 | omega)⟩ ((by first | exact ok_796 hP9 g_9 | omega))) (cwV 3 hts (gd_V hgd m1834 m1836 m91 m131 m1837) rfl rfl rfl hd_X12_layStreet ⟨Nat.le_of_ble_eq_true rfl, Nat.le_of_ble_eq_true rfl⟩) (pre_W hW hB_G_2 hK hZ hS kd_66 rfl) rfl rfl hl.1 rfl (lv_room (Nat.le_of_ble_eq_true rfl)) dX12_keeps_16 ⟨Nat.le_of_ble_eq_true rfl, Nat.le_of_ble_eq_true rfl⟩) hS (fun G_11 H locs hpo hW hS => ?_)
    have hX_14 : Q_layStreet p0 p1 p2 G_2 G_11 := hpo
    obtain ⟨hB_G_11, hq_12, ⟨d_1, d_2, d_3, d_4, d_5, d_6⟩, -⟩ := hpo
    have hF := hF.call9 hq_12 rfl rfl
    refine ic_0 hx hb dX12_keeps_19 ?_
    refine lv_istore (lv' := [(4, .int 0), (0, .ref (a 66)), (1, .int p0), (2, .int p1), (3, .int p2)]) hx hb dX12_keeps_20 hl (lt_b rfl) rfl (fun ls hl => ?_)
    have qc_21 : (0 : Int32).toInt = 0 := rfl
    refine loop_N (Inv := fun n H locs ls => ∃ (G_15 : GS) (x_19 : Int32), (n : Int) = 1024 - x_19.toInt ∧ (0 ≤ x_19.toInt ∧ x_19.toInt ≤ 1024) ∧ Rc (St_n_keeps_1 G_11) (0, G_11) (x_19, G_15) ∧ Wd D k A a G_15 H ∧ Bd G_15 ∧ Fr [104, 105, 76, 97, 98] [(66, 59), (66, 60), (66, 61), (66, 62), (66, 63)] G G_15 ∧ Fr [104] [] G_11 G_15 ∧ va_S A s.heap H locs ∧ lv_has ls 7 [(4, .int x_19), (0, .ref (a 66))]) (fun n_18 H locs ls ih_17 hI => ?_) (1024 - 0 : Int).toNat ⟨G_11, 0, (Int.toNat_of_nonneg ((by decide))), ⟨(by decide), (by decide)⟩, Rc.rf, hW, hB_G_11, hF, Fr.rf, hS, lv_sub hl [0, 1] rfl⟩
    obtain ⟨G_15, x_19, hn_23, f_22, hX_20, hW, hB_G_15, hF, hq_16, hS, hl⟩ := hI
    refine lv_iload hx hb dX12_keeps_22 (lv_at hl 0 rfl) ?_
    refine lv_sipush (v := 1024) hx hb dX12_keeps_24 (by decide) ?_
    refine lv_icmp_ge (tgt := 102) hx hb dX12_keeps_27 rfl (fun c_24 => ?_) (fun c_24 => ?_)
    · have c_24 : 1024 ≤ x_19.toInt := xI_le rfl rfl c_24
      refine lv_ldcw (v := 100000) hx hb hown (hg (Cond.constant RX12 502 100000) m1858) dX12_keeps_102 ?_
      refine lv_istore (lv' := [(4, .int 100000), (0, .ref (a 66))]) hx hb dX12_keeps_105 hl (lt_b rfl) rfl (fun ls hl => ?_)
      refine ic_1 hx hb dX12_keeps_107 ?_
      refine lv_istore (lv' := [(5, .int 1), (4, .int 100000), (0, .ref (a 66))]) hx hb dX12_keeps_108 hl (lt_b rfl) rfl (fun ls hl => ?_)
      have qc_32 : (1 : Int32).toInt = 1 := rfl
      have qc_33 : (100000 : Int32).toInt = 100000 := rfl
      refine loop_N (Inv := fun n H locs ls => ∃ (G_25 : GS) (x_29 : Int32) (x_30 : Int32), (n : Int) = 401 - x_29.toInt ∧ (1 ≤ x_29.toInt ∧ x_29.toInt ≤ 401) ∧ Rc (St_n_keeps_2) (1, 100000, G_15) (x_29, x_30, G_25) ∧ Wd D k A a G_25 H ∧ Bd G_25 ∧ Fr [104, 105, 76, 97, 98] [(66, 59), (66, 60), (66, 61), (66, 62), (66, 63)] G G_25 ∧ Fr [104, 105] [] G_15 G_25 ∧ va_S A s.heap H locs ∧ lv_has ls 7 [(5, .int x_29), (4, .int x_30), (0, .ref (a 66))]) (fun n_28 H locs ls ih_27 hI => ?_) (401 - 1 : Int).toNat ⟨G_15, 1, 100000, (Int.toNat_of_nonneg ((by decide))), ⟨(by decide), (by decide)⟩, Rc.rf, hW, hB_G_15, hF, Fr.rf, hS, lv_sub hl [0, 1, 2] rfl⟩
      obtain ⟨G_25, x_29, x_30, hn_35, f_34, hX_31, hW, hB_G_25, hF, hq_26, hS, hl⟩ := hI
      refine lv_iload hx hb dX12_keeps_110 (lv_at hl 0 rfl) ?_
      refine lv_sipush (v := 400) hx hb dX12_keeps_112 (by decide) ?_
      refine lv_icmp_gt (tgt := 251) hx hb dX12_keeps_115 rfl (fun c_36 => ?_) (fun c_36 => ?_)
      · have c_36 : 400 < x_29.toInt := xI_lt rfl rfl c_36
        refine lv_iload hx hb dX12_keeps_251 (lv_at hl 1 rfl) ?_
        refine lv_ldcw (v := 100000) hx hb hown (hg (Cond.constant RX12 502 100000) m1858) dX12_keeps_253 ?_
        refine lv_icmp_ne (tgt := 263) hx hb dX12_keeps_256 rfl (fun c_37 => ?_) (fun c_37 => ?_)
        · have c_37 : x_30.toInt ≠ 100000 := xI_ne rfl rfl c_37
          refine lv_iload hx hb dX12_keeps_263 (lv_at hl 1 rfl) ?_
          exact W.iret (v := x_30) hx hb hr (fun t ht _ => ⟨⟨x_30, G_25, rfl, (Q_keeps_mk ⟨hB_G_25, hF, ⟨r_1, G_2, hX_5, (Or.inr ⟨c_7, ⟨G_11, hX_14, ⟨x_19, G_15, hX_20, f_22, hB_G_15, hq_16, ⟨c_24, ⟨x_29, x_30, G_25, hX_31, f_34, hB_G_25, hq_26, ⟨c_36, (Or.inr ⟨c_37, ⟨rfl, rfl⟩⟩)⟩⟩⟩⟩⟩⟩)⟩⟩), wd_t ht hW⟩, hS.F ht⟩) hS.2.2 dX12_keeps_265
        · have c_37 : x_30.toInt = 100000 := xI_eq rfl rfl c_37
          refine ic_m1 hx hb dX12_keeps_259 ?_
          refine lv_goto (tgt := 265) hx hb dX12_keeps_260 rfl ?_
          exact W.iret (v := (-1)) hx hb hr (fun t ht _ => ⟨⟨(-1), G_25, rfl, (Q_keeps_mk ⟨hB_G_25, hF, ⟨r_1, G_2, hX_5, (Or.inr ⟨c_7, ⟨G_11, hX_14, ⟨x_19, G_15, hX_20, f_22, hB_G_15, hq_16, ⟨c_24, ⟨x_29, x_30, G_25, hX_31, f_34, hB_G_25, hq_26, ⟨c_36, (Or.inl ⟨c_37, ⟨rfl, rfl⟩⟩)⟩⟩⟩⟩⟩⟩)⟩⟩), wd_t ht hW⟩, hS.F ht⟩) hS.2.2 dX12_keeps_265
      · have c_36 : x_29.toInt ≤ 400 := xI_nlt rfl rfl c_36
        refine ic_0 hx hb dX12_keeps_118 ?_
        refine lv_istore (lv' := [(6, .int 0), (5, .int x_29), (4, .int x_30), (0, .ref (a 66))]) hx hb dX12_keeps_119 hl (lt_b rfl) rfl (fun ls hl => ?_)
        have qc_44 : (0 : Int32).toInt = 0 := rfl
        refine loop_N (Inv := fun n H locs ls => ∃ (G_38 : GS) (x_42 : Int32), (n : Int) = 1024 - x_42.toInt ∧ (0 ≤ x_42.toInt ∧ x_42.toInt ≤ 1024) ∧ Rc (St_n_keeps_3) (0, G_25) (x_42, G_38) ∧ Wd D k A a G_38 H ∧ Bd G_38 ∧ Fr [104, 105, 76, 97, 98] [(66, 59), (66, 60), (66, 61), (66, 62), (66, 63)] G G_38 ∧ Fr [105] [] G_25 G_38 ∧ va_S A s.heap H locs ∧ lv_has ls 7 [(6, .int x_42), (5, .int x_29), (4, .int x_30), (0, .ref (a 66))]) (fun n_41 H locs ls ih_40 hI => ?_) (1024 - 0 : Int).toNat ⟨G_25, 0, (Int.toNat_of_nonneg ((by decide))), ⟨(by decide), (by decide)⟩, Rc.rf, hW, hB_G_25, hF, Fr.rf, hS, lv_sub hl [0, 1, 2, 3] rfl⟩
        obtain ⟨G_38, x_42, hn_46, f_45, hX_43, hW, hB_G_38, hF, hq_39, hS, hl⟩ := hI
        refine lv_iload hx hb dX12_keeps_121 (lv_at hl 0 rfl) ?_
        refine lv_sipush (v := 1024) hx hb dX12_keeps_123 (by decide) ?_
        refine lv_icmp_ge (tgt := 145) hx hb dX12_keeps_126 rfl (fun c_47 => ?_) (fun c_47 => ?_)
        · have c_47 : 1024 ≤ x_42.toInt := xI_le rfl rfl c_47
          refine ic_0 hx hb dX12_keeps_145 ?_
          refine lv_istore (lv' := [(6, .int 0), (5, .int x_29), (4, .int x_30), (0, .ref (a 66))]) hx hb dX12_keeps_146 hl (lt_b rfl) rfl (fun ls hl => ?_)
          have qc_55 : (0 : Int32).toInt = 0 := rfl
          refine loop_N (Inv := fun n H locs ls => ∃ (G_48 : GS) (x_52 : Int32) (x_53 : Int32), (n : Int) = 800 - x_52.toInt ∧ (0 ≤ x_52.toInt ∧ x_52.toInt ≤ 800) ∧ Rc (St_n_keeps_4 x_29) (0, x_30, G_38) (x_52, x_53, G_48) ∧ Wd D k A a G_48 H ∧ Bd G_48 ∧ Fr [104, 105, 76, 97, 98] [(66, 59), (66, 60), (66, 61), (66, 62), (66, 63)] G G_48 ∧ Fr [105] [] G_38 G_48 ∧ va_S A s.heap H locs ∧ lv_has ls 7 [(6, .int x_52), (5, .int x_29), (4, .int x_53), (0, .ref (a 66))]) (fun n_51 H locs ls ih_50 hI => ?_) (800 - 0 : Int).toNat ⟨G_38, 0, x_30, (Int.toNat_of_nonneg ((by decide))), ⟨(by decide), (by decide)⟩, Rc.rf, hW, hB_G_38, hF, Fr.rf, hS, lv_sub hl [0, 1, 2, 3] rfl⟩
          obtain ⟨G_48, x_52, x_53, hn_57, f_56, hX_54, hW, hB_G_48, hF, hq_49, hS, hl⟩ := hI
          refine lv_iload hx hb dX12_keeps_148 (lv_at hl 0 rfl) ?_
          refine lv_sipush (v := 800) hx hb dX12_keeps_150 (by decide) ?_
          refine lv_icmp_ge (tgt := 214) hx hb dX12_keeps_153 rfl (fun c_58 => ?_) (fun c_58 => ?_)
          · have c_58 : 800 ≤ x_52.toInt := xI_le rfl rfl c_58
            refine ic_0 hx hb dX12_keeps_214 ?_
            refine lv_istore (lv' := [(6, .int 0), (5, .int x_29), (4, .int x_53), (0, .ref (a 66))]) hx hb dX12_keeps_215 hl (lt_b rfl) rfl (fun ls hl => ?_)
            have qc_65 : (0 : Int32).toInt = 0 := rfl
            refine loop_N (Inv := fun n H locs ls => ∃ (G_59 : GS) (x_63 : Int32), (n : Int) = 1024 - x_63.toInt ∧ (0 ≤ x_63.toInt ∧ x_63.toInt ≤ 1024) ∧ Rc (St_n_keeps_5) (0, G_48) (x_63, G_59) ∧ Wd D k A a G_59 H ∧ Bd G_59 ∧ Fr [104, 105, 76, 97, 98] [(66, 59), (66, 60), (66, 61), (66, 62), (66, 63)] G G_59 ∧ Fr [104] [] G_48 G_59 ∧ va_S A s.heap H locs ∧ lv_has ls 7 [(6, .int x_63), (5, .int x_29), (4, .int x_53), (0, .ref (a 66))]) (fun n_62 H locs ls ih_61 hI => ?_) (1024 - 0 : Int).toNat ⟨G_48, 0, (Int.toNat_of_nonneg ((by decide))), ⟨(by decide), (by decide)⟩, Rc.rf, hW, hB_G_48, hF, Fr.rf, hS, lv_sub hl [0, 1, 2, 3] rfl⟩
            obtain ⟨G_59, x_63, hn_67, f_66, hX_64, hW, hB_G_59, hF, hq_60, hS, hl⟩ := hI
            refine lv_iload hx hb dX12_keeps_217 (lv_at hl 0 rfl) ?_
            refine lv_sipush (v := 1024) hx hb dX12_keeps_219 (by decide) ?_
            refine lv_icmp_ge (tgt := 245) hx hb dX12_keeps_222 rfl (fun c_68 => ?_) (fun c_68 => ?_)
            · have c_68 : 1024 ≤ x_63.toInt := xI_le rfl rfl c_68
              obtain ⟨y_69, ey_69⟩ : ∃ q, q = x_29 + 1 := ⟨_, rfl⟩
              have ty_69 : y_69.toInt = x_29.toInt + 1 := xI_add rfl rfl ey_69 ((by first | exact ok_237 f_34.1 | omega)) ((by first | exact ok_372 f_34.2 | omega))
              refine lv_iinc (v := y_69) (lv' := [(5, .int y_69), (6, .int x_63), (4, .int x_53), (0, .ref (a 66))]) hx hb dX12_keeps_245 hl (k := 1) rfl (by rw [ey_69]; rfl) (lt_b rfl) rfl (fun ls hl => ?_)
              refine lv_goto (tgt := 110) hx hb dX12_keeps_248 rfl ?_
              exact ih_27 (401 - y_69.toInt : Int).toNat ((by first | (clear hP9 f_6 hp_4 c_7 g_9 d_1 d_2 d_3 d_4 d_5 d_6 hn_23 f_22 c_24 hn_46 f_45 c_47 hn_57 f_56 c_58 hn_67 f_66 c_68; omega) | omega)) _ _ _ ⟨G_59, y_69, x_53, (Int.toNat_of_nonneg ((by first | exact ok_373 f_34.2 c_36 ty_69 | omega))), ⟨(by first | exact ok_240 f_34.1 ty_69 | omega), (by first | exact ok_374 f_34.2 c_36 ty_69 | omega)⟩, (hX_31.st (St_n_keeps_2_mk ⟨x_29, x_30, G_25, y_69, x_53, G_59, rfl, rfl, f_34, hB_G_25, ⟨c_36, ⟨x_42, G_38, hX_43, f_45, hB_G_38, hq_39, ⟨c_47, ⟨x_52, x_53, G_48, hX_54, f_56, hB_G_48, hq_49, ⟨c_58, ⟨x_63, G_59, hX_64, f_66, hB_G_59, hq_60, ⟨c_68, ⟨y_69, ty_69, ⟨rfl, rfl, rfl⟩⟩⟩⟩⟩⟩⟩⟩⟩⟩)), hW, hB_G_59, hF, (Fr.call9 (rs := [104, 105]) (fs := []) (Fr.call9 (rs := [104, 105]) (fs := []) (Fr.call9 (rs := [104, 105]) (fs := []) (Fr.call9 (rs := [104, 105]) (fs := []) Fr.rf hq_26 rfl rfl) hq_39 rfl rfl) hq_49 rfl rfl) hq_60 rfl rfl), hS, lv_sub hl [0, 2, 3] rfl⟩
            · have c_68 : x_63.toInt < 1024 := xI_nle rfl rfl c_68
              refine lv_aload_n hx hb dX12_keeps_225 rfl (lv_at hl 3 rfl) ?_
              refine S_getR (n := 104) (C := RX12) (T := TX12) (N := 89) hx hb hg iX12 hown hK hW kd_66 rfl 70 (lt_b rfl) (hg (Cond.fieldLink RX12 133 "SlabWalkModel" "leapt" "[I") m1384) (fun _ h9 => h9) rfl dX12_keeps_226 ?_
              refine lv_iload hx hb dX12_keeps_229 (lv_at hl 0 rfl) ?_
              refine lv_aload_n hx hb dX12_keeps_231 rfl (lv_at hl 3 rfl) ?_
              refine S_getR (n := 105) (C := RX12) (T := TX12) (N := 89) hx hb hg iX12 hown hK hW kd_66 rfl 71 (lt_b rfl) (hg (Cond.fieldLink RX12 136 "SlabWalkModel" "leaptNext" "[I") m1385) (fun _ h9 => h9) rfl dX12_keeps_232 ?_
              refine lv_iload hx hb dX12_keeps_235 (lv_at hl 0 rfl) ?_
              refine S_iald hx hb hK hW kd_105 (vin ((by first | exact f_66.1 | omega)) ((by first | exact ok_1137 f_66.2 c_68 | omega))) dX12_keeps_237 (fun y_70 ey_70 => ?_)
              refine S_iast hx hb hK hW hS kd_104 (vin ((by first | exact f_66.1 | omega)) ((by first | exact ok_1137 f_66.2 c_68 | omega))) dX12_keeps_238 (fun G_71 H locs eG_71 hW hS => ?_)
              have hB_G_71 : Bd G_71 := hB_G_59.put (lo := (-2147483648)) (hi := 2147483647) eG_71 rfl rfl rfl (tI_rng _).1 (tI_rng _).2 (hB_G_59.2.put eG_71 rfl)
              have hF := hF.put eG_71 (Or.inl (by decide))
              obtain ⟨y_72, ey_72⟩ : ∃ q, q = x_63 + 1 := ⟨_, rfl⟩
              have ty_72 : y_72.toInt = x_63.toInt + 1 := xI_add rfl rfl ey_72 ((by first | exact ok_21 f_66.1 | omega)) ((by first | exact ok_1138 f_66.2 | omega))
              refine lv_iinc (v := y_72) (lv' := [(6, .int y_72), (5, .int x_29), (4, .int x_53), (0, .ref (a 66))]) hx hb dX12_keeps_239 hl (k := 0) rfl (by rw [ey_72]; rfl) (lt_b rfl) rfl (fun ls hl => ?_)
              refine lv_goto (tgt := 217) hx hb dX12_keeps_242 rfl ?_
              exact ih_61 (1024 - y_72.toInt : Int).toNat ((by first | (clear hP9 f_6 hp_4 c_7 g_9 d_1 d_2 d_3 d_4 d_5 d_6 hn_23 f_22 c_24 hn_35 f_34 c_36 hn_46 f_45 c_47 hn_57 f_56 c_58; omega) | omega)) _ _ _ ⟨G_71, y_72, (Int.toNat_of_nonneg ((by first | exact ok_1139 f_66.2 c_68 ty_72 | omega))), ⟨(by first | exact ok_23 f_66.1 ty_72 | omega), (by first | exact ok_1140 f_66.2 c_68 ty_72 | omega)⟩, (hX_64.st (St_n_keeps_5_mk ⟨x_63, G_59, y_72, G_71, rfl, rfl, f_66, hB_G_59, ⟨c_68, ⟨y_70, ey_70, ⟨y_72, ty_72, ⟨rfl, (Fr.put (rs := [104]) (fs := []) Fr.rf eG_71 (Or.inl (by decide))), rw_ast eG_71⟩⟩⟩⟩⟩)), hW, hB_G_71, hF, (Fr.put (rs := [104]) (fs := []) (Fr.call9 (rs := [104]) (fs := []) Fr.rf hq_60 rfl rfl) eG_71 (Or.inl (by decide))), hS, lv_sub hl [0, 1, 2, 3] rfl⟩
          · have c_58 : x_52.toInt < 800 := xI_nle rfl rfl c_58
            refine lv_aload_n hx hb dX12_keeps_156 rfl (lv_at hl 3 rfl) ?_
            refine S_getR (n := 104) (C := RX12) (T := TX12) (N := 89) hx hb hg iX12 hown hK hW kd_66 rfl 70 (lt_b rfl) (hg (Cond.fieldLink RX12 133 "SlabWalkModel" "leapt" "[I") m1384) (fun _ h9 => h9) rfl dX12_keeps_157 ?_
            refine lv_iload hx hb dX12_keeps_160 (lv_at hl 0 rfl) ?_
            refine S_iald hx hb hK hW kd_104 (vin ((by first | exact f_56.1 | omega)) ((by first | exact ok_1134 f_56.2 | omega))) dX12_keeps_162 (fun y_73 ey_73 => ?_)
            refine lv_ldcw (v := 100000) hx hb hown (hg (Cond.constant RX12 502 100000) m1858) dX12_keeps_163 ?_
            refine lv_icmp_ne (tgt := 172) hx hb dX12_keeps_166 rfl (fun c_74 => ?_) (fun c_74 => ?_)
            · have c_74 : y_73.toInt ≠ 100000 := xI_ne rfl rfl c_74
              refine lv_aload_n hx hb dX12_keeps_172 rfl (lv_at hl 3 rfl) ?_
              refine lv_iload hx hb dX12_keeps_173 (lv_at hl 0 rfl) ?_
              refine ic_2 hx hb dX12_keeps_175 ?_
              refine lv_idiv hx hb dX12_keeps_176 (by decide) ?_
              refine lv_topi (fun y_75 ey_75 => ?_)
              have ty_75 : y_75.toInt = x_52.toInt / 2 := xI_div rfl ey_75 (by decide) ((by first | exact f_56.1 | omega))
              have b_76 : 0 ≤ (G_11.1 66 59).toInt ∧ (G_11.1 66 59).toInt ≤ 400 := bd_66_59 hB_G_11
              have g_77 : (G_48.1 66 59).toInt = (G_11.1 66 59).toInt := (congrArg Int32.toInt (show G_48.1 66 59 = (G_11.1 66 59) from ((hq_49.i9 66 59 rfl rfl).trans ((hq_39.i9 66 59 rfl rfl).trans ((hq_26.i9 66 59 rfl rfl).trans (hq_16.i9 66 59 rfl rfl))))))
              have b_78 : 0 ≤ (G_11.1 66 60).toInt ∧ (G_11.1 66 60).toInt ≤ 12 := bd_66_60 hB_G_11
              have g_79 : (G_48.1 66 60).toInt = (G_11.1 66 60).toInt := (congrArg Int32.toInt (show G_48.1 66 60 = (G_11.1 66 60) from ((hq_49.i9 66 60 rfl rfl).trans ((hq_39.i9 66 60 rfl rfl).trans ((hq_26.i9 66 60 rfl rfl).trans (hq_16.i9 66 60 rfl rfl))))))
              have b_80 : 0 ≤ (G_11.1 66 62).toInt ∧ (G_11.1 66 62).toInt ≤ 60 := bd_66_62 hB_G_11
              have g_81 : (G_48.1 66 62).toInt = (G_11.1 66 62).toInt := (congrArg Int32.toInt (show G_48.1 66 62 = (G_11.1 66 62) from ((hq_49.i9 66 62 rfl rfl).trans ((hq_39.i9 66 62 rfl rfl).trans ((hq_26.i9 66 62 rfl rfl).trans (hq_16.i9 66 62 rfl rfl))))))
              refine S_calli (va_runV (As := [.int y_75]) (rest := []) ⟨hx, hb, hml, hown, hts⟩ (n_isEnd l D k A a z G_48 y_75 ⟨(by first | exact ok_1129 f_56.1 ty_75 | omega), (by first | exact ok_1130 f_56.2 ty_75 | omega)⟩) (cwV 1 hts (gd_V hgd m1854 m1856 m95 m131 m1857) rfl rfl rfl hd_X12_isEnd ⟨Nat.le_of_ble_eq_true rfl, Nat.le_of_ble_eq_true rfl⟩) (pre_W hW hB_G_48 hK hZ hS kd_66 rfl) rfl rfl hl.1 rfl (lv_room (Nat.le_of_ble_eq_true rfl)) dX12_keeps_177 ⟨Nat.le_of_ble_eq_true rfl, Nat.le_of_ble_eq_true rfl⟩) hS (fun r_82 G_83 H locs hpo hW hS => ?_)
              have hX_86 : Q_isEnd y_75 G_48 r_82 G_83 := hpo
              obtain ⟨hB_G_83, hq_84, f_87, ⟨d_7, d_8⟩, -⟩ := hpo
              have hF := hF.call9 hq_84 rfl rfl
              refine lv_if_eq (tgt := 200) hx hb dX12_keeps_180 rfl (fun c_88 => ?_) (fun c_88 => ?_)
              · have c_88 : r_82.toInt = 0 := xI_eq rfl rfl c_88
                have d_9 := d_7 c_88
                refine lv_aload_n hx hb dX12_keeps_200 rfl (lv_at hl 3 rfl) ?_
                refine lv_iload hx hb dX12_keeps_201 (lv_at hl 0 rfl) ?_
                refine lv_iload hx hb dX12_keeps_203 (lv_at hl 1 rfl) ?_
                refine S_callv (va_runV (As := [.int x_52, .int x_29]) (rest := []) ⟨hx, hb, hml, hown, hts⟩ (n_keepOn l D k A a z G_83 x_52 x_29 ⟨(by first | exact f_56.1 | omega), (by first | exact ok_1141 f_56.2 c_58 | omega)⟩ ⟨(by first | exact f_34.1 | omega), (by first | exact c_36 | omega)⟩) (cwV 2 hts (gd_V hgd m1935 m1937 m102 m131 m1938) rfl rfl rfl hd_X12_keepOn ⟨Nat.le_of_ble_eq_true rfl, Nat.le_of_ble_eq_true rfl⟩) (pre_W hW hB_G_83 hK hZ hS kd_66 rfl) rfl rfl hl.1 rfl (lv_room (Nat.le_of_ble_eq_true rfl)) dX12_keeps_205 ⟨Nat.le_of_ble_eq_true rfl, Nat.le_of_ble_eq_true rfl⟩) hS (fun G_90 H locs hpo hW hS => ?_)
                have hX_93 : Q_keepOn x_52 x_29 G_83 G_90 := hpo
                obtain ⟨hB_G_90, hq_91, -⟩ := hpo
                have hF := hF.call9 hq_91 rfl rfl
                obtain ⟨y_94, ey_94⟩ : ∃ q, q = x_52 + 1 := ⟨_, rfl⟩
                have ty_94 : y_94.toInt = x_52.toInt + 1 := xI_add rfl rfl ey_94 ((by first | exact ok_21 f_56.1 | omega)) ((by first | exact ok_1131 f_56.2 | omega))
                refine lv_iinc (v := y_94) (lv' := [(6, .int y_94), (5, .int x_29), (4, .int x_53), (0, .ref (a 66))]) hx hb dX12_keeps_208 hl (k := 0) rfl (by rw [ey_94]; rfl) (lt_b rfl) rfl (fun ls hl => ?_)
                refine lv_goto (tgt := 148) hx hb dX12_keeps_211 rfl ?_
                exact ih_50 (800 - y_94.toInt : Int).toNat ((by first | (clear hP9 f_6 c_7 g_9 hn_23 f_22 c_24 hn_35 f_34 c_36 hn_46 f_45 c_47 c_74 d_7; omega) | omega)) _ _ _ ⟨G_90, y_94, x_53, (Int.toNat_of_nonneg ((by first | exact ok_1132 f_56.2 c_58 ty_94 | omega))), ⟨(by first | exact ok_23 f_56.1 ty_94 | omega), (by first | exact ok_1133 f_56.2 c_58 ty_94 | omega)⟩, (hX_54.st (St_n_keeps_4_mk ⟨x_52, x_53, G_48, y_94, x_53, G_90, rfl, rfl, f_56, hB_G_48, ⟨c_58, ⟨y_73, ey_73, (Or.inr ⟨c_74, ⟨y_75, ty_75, ⟨r_82, G_83, hX_86, (Or.inl ⟨c_88, ⟨G_90, hX_93, ⟨y_94, ty_94, ⟨rfl, rfl, rfl⟩⟩⟩⟩)⟩⟩⟩)⟩⟩⟩)), hW, hB_G_90, hF, (Fr.call9 (rs := [105]) (fs := []) (Fr.call9 (rs := [105]) (fs := []) (Fr.call9 (rs := [105]) (fs := []) Fr.rf hq_49 rfl rfl) hq_84 rfl rfl) hq_91 rfl rfl), hS, lv_sub hl [0, 1, 2, 3] rfl⟩
              · have c_88 : r_82.toInt ≠ 0 := xI_ne rfl rfl c_88
                refine lv_iload hx hb dX12_keeps_183 (lv_at hl 2 rfl) ?_
                refine lv_aload_n hx hb dX12_keeps_185 rfl (lv_at hl 3 rfl) ?_
                refine S_getR (n := 104) (C := RX12) (T := TX12) (N := 89) hx hb hg iX12 hown hK hW kd_66 rfl 70 (lt_b rfl) (hg (Cond.fieldLink RX12 133 "SlabWalkModel" "leapt" "[I") m1384) (fun _ h9 => h9) rfl dX12_keeps_186 ?_
                refine lv_iload hx hb dX12_keeps_189 (lv_at hl 0 rfl) ?_
                refine S_iald hx hb hK hW kd_104 (vin ((by first | exact f_56.1 | omega)) ((by first | exact ok_1134 f_56.2 | omega))) dX12_keeps_191 (fun y_95 ey_95 => ?_)
                refine S_calli (va_runS (As := [.int x_53, .int y_95]) (rest := []) ⟨hx, hb, hml, hown, hts⟩ (n_lesser l D k A a z G_83 x_53 y_95 ) (va_cwS 2 hts (gd_S hgd m1863 m1864 m131 m1865) rfl rfl rfl hd_X12_lesser.2 ⟨Nat.le_of_ble_eq_true rfl, Nat.le_of_ble_eq_true rfl⟩) (pre_S hW hB_G_83 hK hZ hS) rfl rfl hl.1 rfl (lv_room (Nat.le_of_ble_eq_true rfl)) dX12_keeps_192 ⟨Nat.le_of_ble_eq_true rfl, Nat.le_of_ble_eq_true rfl⟩) hS (fun r_96 G_97 H locs hpo hW hS => ?_)
                have hX_100 : Q_lesser x_53 y_95 G_83 r_96 G_97 := hpo
                obtain ⟨hB_G_97, hq_98, hp_99, -⟩ := hpo
                have hF := hF.call9 hq_98 rfl rfl
                refine lv_istore (lv' := [(4, .int r_96), (6, .int x_52), (5, .int x_29), (0, .ref (a 66))]) hx hb dX12_keeps_195 hl (lt_b rfl) rfl (fun ls hl => ?_)
                refine lv_goto (tgt := 208) hx hb dX12_keeps_197 rfl ?_
                obtain ⟨y_101, ey_101⟩ : ∃ q, q = x_52 + 1 := ⟨_, rfl⟩
                have ty_101 : y_101.toInt = x_52.toInt + 1 := xI_add rfl rfl ey_101 ((by first | exact ok_21 f_56.1 | omega)) ((by first | exact ok_1131 f_56.2 | omega))
                refine lv_iinc (v := y_101) (lv' := [(6, .int y_101), (4, .int r_96), (5, .int x_29), (0, .ref (a 66))]) hx hb dX12_keeps_208 hl (k := 1) rfl (by rw [ey_101]; rfl) (lt_b rfl) rfl (fun ls hl => ?_)
                refine lv_goto (tgt := 148) hx hb dX12_keeps_211 rfl ?_
                exact ih_50 (800 - y_101.toInt : Int).toNat ((by first | (clear hP9 f_6 c_7 g_9 hn_23 f_22 c_24 hn_35 f_34 c_36 hn_46 f_45 c_47 c_74 d_7 hp_99; omega) | omega)) _ _ _ ⟨G_97, y_101, r_96, (Int.toNat_of_nonneg ((by first | exact ok_1132 f_56.2 c_58 ty_101 | omega))), ⟨(by first | exact ok_23 f_56.1 ty_101 | omega), (by first | exact ok_1133 f_56.2 c_58 ty_101 | omega)⟩, (hX_54.st (St_n_keeps_4_mk ⟨x_52, x_53, G_48, y_101, r_96, G_97, rfl, rfl, f_56, hB_G_48, ⟨c_58, ⟨y_73, ey_73, (Or.inr ⟨c_74, ⟨y_75, ty_75, ⟨r_82, G_83, hX_86, (Or.inr ⟨c_88, ⟨y_95, ey_95, ⟨r_96, G_97, hX_100, ⟨y_101, ty_101, ⟨rfl, rfl, rfl⟩⟩⟩⟩⟩)⟩⟩⟩)⟩⟩⟩)), hW, hB_G_97, hF, (Fr.call9 (rs := [105]) (fs := []) (Fr.call9 (rs := [105]) (fs := []) (Fr.call9 (rs := [105]) (fs := []) Fr.rf hq_49 rfl rfl) hq_84 rfl rfl) hq_98 rfl rfl), hS, lv_sub hl [0, 2, 1, 3] rfl⟩
            · have c_74 : y_73.toInt = 100000 := xI_eq rfl rfl c_74
              refine lv_goto (tgt := 208) hx hb dX12_keeps_169 rfl ?_
              obtain ⟨y_102, ey_102⟩ : ∃ q, q = x_52 + 1 := ⟨_, rfl⟩
              have ty_102 : y_102.toInt = x_52.toInt + 1 := xI_add rfl rfl ey_102 ((by first | exact ok_21 f_56.1 | omega)) ((by first | exact ok_1131 f_56.2 | omega))
              refine lv_iinc (v := y_102) (lv' := [(6, .int y_102), (5, .int x_29), (4, .int x_53), (0, .ref (a 66))]) hx hb dX12_keeps_208 hl (k := 0) rfl (by rw [ey_102]; rfl) (lt_b rfl) rfl (fun ls hl => ?_)
              refine lv_goto (tgt := 148) hx hb dX12_keeps_211 rfl ?_
              exact ih_50 (800 - y_102.toInt : Int).toNat ((by first | (clear hP9 f_6 hp_4 c_7 g_9 d_1 d_2 d_3 d_4 d_5 d_6 hn_23 f_22 c_24 hn_35 f_34 c_36 hn_46 f_45 c_47 c_74; omega) | omega)) _ _ _ ⟨G_48, y_102, x_53, (Int.toNat_of_nonneg ((by first | exact ok_1132 f_56.2 c_58 ty_102 | omega))), ⟨(by first | exact ok_23 f_56.1 ty_102 | omega), (by first | exact ok_1133 f_56.2 c_58 ty_102 | omega)⟩, (hX_54.st (St_n_keeps_4_mk ⟨x_52, x_53, G_48, y_102, x_53, G_48, rfl, rfl, f_56, hB_G_48, ⟨c_58, ⟨y_73, ey_73, (Or.inl ⟨c_74, ⟨y_102, ty_102, ⟨rfl, rfl, rfl⟩⟩⟩)⟩⟩⟩)), hW, hB_G_48, hF, (Fr.call9 (rs := [105]) (fs := []) Fr.rf hq_49 rfl rfl), hS, lv_sub hl [0, 1, 2, 3] rfl⟩
        · have c_47 : x_42.toInt < 1024 := xI_nle rfl rfl c_47
          refine lv_aload_n hx hb dX12_keeps_129 rfl (lv_at hl 3 rfl) ?_
          refine S_getR (n := 105) (C := RX12) (T := TX12) (N := 89) hx hb hg iX12 hown hK hW kd_66 rfl 71 (lt_b rfl) (hg (Cond.fieldLink RX12 136 "SlabWalkModel" "leaptNext" "[I") m1385) (fun _ h9 => h9) rfl dX12_keeps_130 ?_
          refine lv_iload hx hb dX12_keeps_133 (lv_at hl 0 rfl) ?_
          refine lv_ldcw (v := 100000) hx hb hown (hg (Cond.constant RX12 502 100000) m1858) dX12_keeps_135 ?_
          refine S_iast hx hb hK hW hS kd_105 (vin ((by first | exact f_45.1 | omega)) ((by first | exact ok_1137 f_45.2 c_47 | omega))) dX12_keeps_138 (fun G_103 H locs eG_103 hW hS => ?_)
          have hB_G_103 : Bd G_103 := hB_G_38.put (lo := (-2147483648)) (hi := 2147483647) eG_103 rfl rfl rfl (tI_rng _).1 (tI_rng _).2 (hB_G_38.2.put eG_103 rfl)
          have hF := hF.put eG_103 (Or.inl (by decide))
          obtain ⟨y_104, ey_104⟩ : ∃ q, q = x_42 + 1 := ⟨_, rfl⟩
          have ty_104 : y_104.toInt = x_42.toInt + 1 := xI_add rfl rfl ey_104 ((by first | exact ok_21 f_45.1 | omega)) ((by first | exact ok_1138 f_45.2 | omega))
          refine lv_iinc (v := y_104) (lv' := [(6, .int y_104), (5, .int x_29), (4, .int x_30), (0, .ref (a 66))]) hx hb dX12_keeps_139 hl (k := 0) rfl (by rw [ey_104]; rfl) (lt_b rfl) rfl (fun ls hl => ?_)
          refine lv_goto (tgt := 121) hx hb dX12_keeps_142 rfl ?_
          exact ih_40 (1024 - y_104.toInt : Int).toNat ((by first | (clear hP9 f_6 hp_4 c_7 g_9 d_1 d_2 d_3 d_4 d_5 d_6 hn_23 f_22 c_24 hn_35 f_34 c_36; omega) | omega)) _ _ _ ⟨G_103, y_104, (Int.toNat_of_nonneg ((by first | exact ok_1139 f_45.2 c_47 ty_104 | omega))), ⟨(by first | exact ok_23 f_45.1 ty_104 | omega), (by first | exact ok_1140 f_45.2 c_47 ty_104 | omega)⟩, (hX_43.st (St_n_keeps_3_mk ⟨x_42, G_38, y_104, G_103, rfl, rfl, f_45, hB_G_38, ⟨c_47, ⟨y_104, ty_104, ⟨rfl, (Fr.put (rs := [105]) (fs := []) Fr.rf eG_103 (Or.inl (by decide))), rw_ast eG_103⟩⟩⟩⟩)), hW, hB_G_103, hF, (Fr.put (rs := [105]) (fs := []) (Fr.call9 (rs := [105]) (fs := []) Fr.rf hq_39 rfl rfl) eG_103 (Or.inl (by decide))), hS, lv_sub hl [0, 1, 2, 3] rfl⟩
    · have c_24 : x_19.toInt < 1024 := xI_nle rfl rfl c_24
      refine lv_aload_n hx hb dX12_keeps_30 rfl (lv_at hl 1 rfl) ?_
      refine S_getR (n := 104) (C := RX12) (T := TX12) (N := 89) hx hb hg iX12 hown hK hW kd_66 rfl 70 (lt_b rfl) (hg (Cond.fieldLink RX12 133 "SlabWalkModel" "leapt" "[I") m1384) (fun _ h9 => h9) rfl dX12_keeps_31 ?_
      refine lv_iload hx hb dX12_keeps_34 (lv_at hl 0 rfl) ?_
      refine lv_iload hx hb dX12_keeps_36 (lv_at hl 0 rfl) ?_
      refine ic_2 hx hb dX12_keeps_38 ?_
      refine lv_irem hx hb dX12_keeps_39 (by decide) ?_
      refine lv_topi (fun y_105 ey_105 => ?_)
      have ty_105 : y_105.toInt = x_19.toInt % 2 := xI_mod rfl ey_105 (by decide) ((by first | exact f_22.1 | omega))
      refine lv_if_ne (tgt := 92) hx hb dX12_keeps_40 rfl (fun c_106 => ?_) (fun c_106 => ?_)
      · have c_106 : y_105.toInt ≠ 0 := xI_ne rfl rfl c_106
        refine lv_ldcw (v := 100000) hx hb hown (hg (Cond.constant RX12 502 100000) m1858) dX12_keeps_92 ?_
        refine S_iast hx hb hK hW hS kd_104 (vin ((by first | exact f_22.1 | omega)) ((by first | exact ok_1137 f_22.2 c_24 | omega))) dX12_keeps_95 (fun G_107 H locs eG_107 hW hS => ?_)
        have hB_G_107 : Bd G_107 := hB_G_15.put (lo := (-2147483648)) (hi := 2147483647) eG_107 rfl rfl rfl (tI_rng _).1 (tI_rng _).2 (hB_G_15.2.put eG_107 rfl)
        have hF := hF.put eG_107 (Or.inl (by decide))
        obtain ⟨y_108, ey_108⟩ : ∃ q, q = x_19 + 1 := ⟨_, rfl⟩
        have ty_108 : y_108.toInt = x_19.toInt + 1 := xI_add rfl rfl ey_108 ((by first | exact ok_21 f_22.1 | omega)) ((by first | exact ok_1138 f_22.2 | omega))
        refine lv_iinc (v := y_108) (lv' := [(4, .int y_108), (0, .ref (a 66))]) hx hb dX12_keeps_96 hl (k := 0) rfl (by rw [ey_108]; rfl) (lt_b rfl) rfl (fun ls hl => ?_)
        refine lv_goto (tgt := 22) hx hb dX12_keeps_99 rfl ?_
        exact ih_17 (1024 - y_108.toInt : Int).toNat ((by first | (clear hP9 f_6 hp_4 c_7 g_9 d_1 d_2 d_3 d_4 d_5 d_6; omega) | omega)) _ _ _ ⟨G_107, y_108, (Int.toNat_of_nonneg ((by first | exact ok_1139 f_22.2 c_24 ty_108 | omega))), ⟨(by first | exact ok_23 f_22.1 ty_108 | omega), (by first | exact ok_1140 f_22.2 c_24 ty_108 | omega)⟩, (hX_20.st (St_n_keeps_1_mk ⟨x_19, G_15, y_108, G_107, rfl, rfl, f_22, hB_G_15, ⟨c_24, ⟨y_105, ty_105, (Or.inr ⟨c_106, ⟨y_108, ty_108, ⟨rfl, (Fr.put (rs := [104]) (fs := []) Fr.rf eG_107 (Or.inl (by decide))), rw_ast eG_107⟩⟩⟩)⟩⟩⟩)), hW, hB_G_107, hF, (Fr.put (rs := [104]) (fs := []) (Fr.call9 (rs := [104]) (fs := []) Fr.rf hq_16 rfl rfl) eG_107 (Or.inl (by decide))), hS, lv_sub hl [0, 1] rfl⟩
      · have c_106 : y_105.toInt = 0 := xI_eq rfl rfl c_106
        refine lv_iload hx hb dX12_keeps_43 (lv_at hl 0 rfl) ?_
        refine ic_2 hx hb dX12_keeps_45 ?_
        refine lv_idiv hx hb dX12_keeps_46 (by decide) ?_
        refine lv_topi (fun y_109 ey_109 => ?_)
        have ty_109 : y_109.toInt = x_19.toInt / 2 := xI_div rfl ey_109 (by decide) ((by first | exact f_22.1 | omega))
        refine lv_aload_n hx hb dX12_keeps_47 rfl (lv_at hl 1 rfl) ?_
        have b_110 : 0 ≤ (G_11.1 66 62).toInt ∧ (G_11.1 66 62).toInt ≤ 60 := bd_66_62 hB_G_11
        refine S_getI (v := (G_11.1 66 62)) (C := RX12) (T := TX12) (N := 89) hx hb hg iX12 hown hK hW kd_66 rfl 62 (lt_b rfl) (hg (Cond.fieldLink RX12 478 "SlabWalkModel" "most" "I") m1376) (fun _ h9 => h9) rfl (hq_16.i9 66 62 rfl rfl) dX12_keeps_48 ?_
        refine lv_icmp_ge (tgt := 92) hx hb dX12_keeps_51 rfl (fun c_111 => ?_) (fun c_111 => ?_)
        · have c_111 : (G_11.1 66 62).toInt ≤ y_109.toInt := xI_le rfl rfl c_111
          refine lv_ldcw (v := 100000) hx hb hown (hg (Cond.constant RX12 502 100000) m1858) dX12_keeps_92 ?_
          refine S_iast hx hb hK hW hS kd_104 (vin ((by first | exact f_22.1 | omega)) ((by first | exact ok_1137 f_22.2 c_24 | omega))) dX12_keeps_95 (fun G_112 H locs eG_112 hW hS => ?_)
          have hB_G_112 : Bd G_112 := hB_G_15.put (lo := (-2147483648)) (hi := 2147483647) eG_112 rfl rfl rfl (tI_rng _).1 (tI_rng _).2 (hB_G_15.2.put eG_112 rfl)
          have hF := hF.put eG_112 (Or.inl (by decide))
          obtain ⟨y_113, ey_113⟩ : ∃ q, q = x_19 + 1 := ⟨_, rfl⟩
          have ty_113 : y_113.toInt = x_19.toInt + 1 := xI_add rfl rfl ey_113 ((by first | exact ok_21 f_22.1 | omega)) ((by first | exact ok_1138 f_22.2 | omega))
          refine lv_iinc (v := y_113) (lv' := [(4, .int y_113), (0, .ref (a 66))]) hx hb dX12_keeps_96 hl (k := 0) rfl (by rw [ey_113]; rfl) (lt_b rfl) rfl (fun ls hl => ?_)
          refine lv_goto (tgt := 22) hx hb dX12_keeps_99 rfl ?_
          exact ih_17 (1024 - y_113.toInt : Int).toNat ((by first | (clear hP9 f_6 c_7 g_9; omega) | omega)) _ _ _ ⟨G_112, y_113, (Int.toNat_of_nonneg ((by first | exact ok_1139 f_22.2 c_24 ty_113 | omega))), ⟨(by first | exact ok_23 f_22.1 ty_113 | omega), (by first | exact ok_1140 f_22.2 c_24 ty_113 | omega)⟩, (hX_20.st (St_n_keeps_1_mk ⟨x_19, G_15, y_113, G_112, rfl, rfl, f_22, hB_G_15, ⟨c_24, ⟨y_105, ty_105, (Or.inl ⟨c_106, ⟨y_109, ty_109, (Or.inl ⟨c_111, ⟨y_113, ty_113, ⟨rfl, (Fr.put (rs := [104]) (fs := []) Fr.rf eG_112 (Or.inl (by decide))), rw_ast eG_112⟩⟩⟩)⟩⟩)⟩⟩⟩)), hW, hB_G_112, hF, (Fr.put (rs := [104]) (fs := []) (Fr.call9 (rs := [104]) (fs := []) Fr.rf hq_16 rfl rfl) eG_112 (Or.inl (by decide))), hS, lv_sub hl [0, 1] rfl⟩
        · have c_111 : y_109.toInt < (G_11.1 66 62).toInt := xI_nle rfl rfl c_111
          refine lv_iload hx hb dX12_keeps_54 (lv_at hl 0 rfl) ?_
          refine ic_2 hx hb dX12_keeps_56 ?_
          refine lv_idiv hx hb dX12_keeps_57 (by decide) ?_
          refine lv_topi (fun y_114 ey_114 => ?_)
          have ty_114 : y_114.toInt = x_19.toInt / 2 := xI_div rfl ey_114 (by decide) ((by first | exact f_22.1 | omega))
          refine lv_sipush (v := 400) hx hb dX12_keeps_58 (by decide) ?_
          refine lv_icmp_ge (tgt := 92) hx hb dX12_keeps_61 rfl (fun c_115 => ?_) (fun c_115 => ?_)
          · have c_115 : 400 ≤ y_114.toInt := xI_le rfl rfl c_115
            refine lv_ldcw (v := 100000) hx hb hown (hg (Cond.constant RX12 502 100000) m1858) dX12_keeps_92 ?_
            refine S_iast hx hb hK hW hS kd_104 (vin ((by first | exact f_22.1 | omega)) ((by first | exact ok_1137 f_22.2 c_24 | omega))) dX12_keeps_95 (fun G_116 H locs eG_116 hW hS => ?_)
            have hB_G_116 : Bd G_116 := hB_G_15.put (lo := (-2147483648)) (hi := 2147483647) eG_116 rfl rfl rfl (tI_rng _).1 (tI_rng _).2 (hB_G_15.2.put eG_116 rfl)
            have hF := hF.put eG_116 (Or.inl (by decide))
            obtain ⟨y_117, ey_117⟩ : ∃ q, q = x_19 + 1 := ⟨_, rfl⟩
            have ty_117 : y_117.toInt = x_19.toInt + 1 := xI_add rfl rfl ey_117 ((by first | exact ok_21 f_22.1 | omega)) ((by first | exact ok_1138 f_22.2 | omega))
            refine lv_iinc (v := y_117) (lv' := [(4, .int y_117), (0, .ref (a 66))]) hx hb dX12_keeps_96 hl (k := 0) rfl (by rw [ey_117]; rfl) (lt_b rfl) rfl (fun ls hl => ?_)
            refine lv_goto (tgt := 22) hx hb dX12_keeps_99 rfl ?_
            exact ih_17 (1024 - y_117.toInt : Int).toNat ((by first | (clear hP9 f_6 c_7 g_9; omega) | omega)) _ _ _ ⟨G_116, y_117, (Int.toNat_of_nonneg ((by first | exact ok_1139 f_22.2 c_24 ty_117 | omega))), ⟨(by first | exact ok_23 f_22.1 ty_117 | omega), (by first | exact ok_1140 f_22.2 c_24 ty_117 | omega)⟩, (hX_20.st (St_n_keeps_1_mk ⟨x_19, G_15, y_117, G_116, rfl, rfl, f_22, hB_G_15, ⟨c_24, ⟨y_105, ty_105, (Or.inl ⟨c_106, ⟨y_109, ty_109, (Or.inr ⟨c_111, ⟨y_114, ty_114, (Or.inl ⟨c_115, ⟨y_117, ty_117, ⟨rfl, (Fr.put (rs := [104]) (fs := []) Fr.rf eG_116 (Or.inl (by decide))), rw_ast eG_116⟩⟩⟩)⟩⟩)⟩⟩)⟩⟩⟩)), hW, hB_G_116, hF, (Fr.put (rs := [104]) (fs := []) (Fr.call9 (rs := [104]) (fs := []) Fr.rf hq_16 rfl rfl) eG_116 (Or.inl (by decide))), hS, lv_sub hl [0, 1] rfl⟩
          · have c_115 : y_114.toInt < 400 := xI_nle rfl rfl c_115
            refine lv_aload_n hx hb dX12_keeps_64 rfl (lv_at hl 1 rfl) ?_
            refine S_getR (n := 98) (C := RX12) (T := TX12) (N := 89) hx hb hg iX12 hown hK hW kd_66 rfl 58 (lt_b rfl) (hg (Cond.fieldLink RX12 115 "SlabWalkModel" "lawful" "[Z") m1372) (fun _ h9 => h9) rfl dX12_keeps_65 ?_
            refine lv_iload hx hb dX12_keeps_68 (lv_at hl 0 rfl) ?_
            refine ic_2 hx hb dX12_keeps_70 ?_
            refine lv_idiv hx hb dX12_keeps_71 (by decide) ?_
            refine lv_topi (fun y_118 ey_118 => ?_)
            have ty_118 : y_118.toInt = x_19.toInt / 2 := xI_div rfl ey_118 (by decide) ((by first | exact f_22.1 | omega))
            refine S_zald hx hb hK hW kd_98 (vin ((by first | exact ok_1142 f_22.1 ty_118 | omega)) ((by first | exact ok_1143 f_22.2 c_24 ty_118 | omega))) dX12_keeps_72 (fun y_119 ey_119 => ?_)
            have ty_119 := hB_G_15.law ey_119
            refine lv_if_eq (tgt := 92) hx hb dX12_keeps_73 rfl (fun c_120 => ?_) (fun c_120 => ?_)
            · have c_120 : y_119.toInt = 0 := xI_eq rfl rfl c_120
              refine lv_ldcw (v := 100000) hx hb hown (hg (Cond.constant RX12 502 100000) m1858) dX12_keeps_92 ?_
              refine S_iast hx hb hK hW hS kd_104 (vin ((by first | exact f_22.1 | omega)) ((by first | exact ok_1144 c_24 | omega))) dX12_keeps_95 (fun G_121 H locs eG_121 hW hS => ?_)
              have hB_G_121 : Bd G_121 := hB_G_15.put (lo := (-2147483648)) (hi := 2147483647) eG_121 rfl rfl rfl (tI_rng _).1 (tI_rng _).2 (hB_G_15.2.put eG_121 rfl)
              have hF := hF.put eG_121 (Or.inl (by decide))
              obtain ⟨y_122, ey_122⟩ : ∃ q, q = x_19 + 1 := ⟨_, rfl⟩
              have ty_122 : y_122.toInt = x_19.toInt + 1 := xI_add rfl rfl ey_122 ((by first | exact ok_21 f_22.1 | omega)) ((by first | exact ok_1145 c_24 | omega))
              refine lv_iinc (v := y_122) (lv' := [(4, .int y_122), (0, .ref (a 66))]) hx hb dX12_keeps_96 hl (k := 0) rfl (by rw [ey_122]; rfl) (lt_b rfl) rfl (fun ls hl => ?_)
              refine lv_goto (tgt := 22) hx hb dX12_keeps_99 rfl ?_
              exact ih_17 (1024 - y_122.toInt : Int).toNat ((by first | (clear hP9 f_6 c_7 g_9 c_120; omega) | omega)) _ _ _ ⟨G_121, y_122, (Int.toNat_of_nonneg ((by first | exact ok_1146 c_24 ty_122 | omega))), ⟨(by first | exact ok_23 f_22.1 ty_122 | omega), (by first | exact ok_1147 c_24 ty_122 | omega)⟩, (hX_20.st (St_n_keeps_1_mk ⟨x_19, G_15, y_122, G_121, rfl, rfl, f_22, hB_G_15, ⟨c_24, ⟨y_105, ty_105, (Or.inl ⟨c_106, ⟨y_109, ty_109, (Or.inr ⟨c_111, ⟨y_114, ty_114, (Or.inr ⟨c_115, ⟨y_118, ty_118, ⟨y_119, ey_119, (Or.inl ⟨c_120, ⟨y_122, ty_122, ⟨rfl, (Fr.put (rs := [104]) (fs := []) Fr.rf eG_121 (Or.inl (by decide))), rw_ast eG_121⟩⟩⟩)⟩⟩⟩)⟩⟩)⟩⟩)⟩⟩⟩)), hW, hB_G_121, hF, (Fr.put (rs := [104]) (fs := []) (Fr.call9 (rs := [104]) (fs := []) Fr.rf hq_16 rfl rfl) eG_121 (Or.inl (by decide))), hS, lv_sub hl [0, 1] rfl⟩
            · have c_120 : y_119.toInt ≠ 0 := xI_ne rfl rfl c_120
              refine lv_aload_n hx hb dX12_keeps_76 rfl (lv_at hl 1 rfl) ?_
              refine lv_iload hx hb dX12_keeps_77 (lv_at hl 0 rfl) ?_
              refine ic_2 hx hb dX12_keeps_79 ?_
              refine lv_idiv hx hb dX12_keeps_80 (by decide) ?_
              refine lv_topi (fun y_123 ey_123 => ?_)
              have ty_123 : y_123.toInt = x_19.toInt / 2 := xI_div rfl ey_123 (by decide) ((by first | exact f_22.1 | omega))
              refine ic_0 hx hb dX12_keeps_81 ?_
              refine S_calli (va_runV (As := [.int y_123, .int 0]) (rest := [.int x_19, .ref (a 104)]) ⟨hx, hb, hml, hown, hts⟩ (n_isHeld l D k A a z G_15 y_123 0 ⟨(by first | exact ok_1142 f_22.1 ty_123 | omega), (by first | exact ok_1148 f_22.2 ty_123 | omega)⟩ ⟨by decide, by decide⟩) (cwV 2 hts (gd_V hgd m1931 m1933 m101 m131 m1934) rfl rfl rfl hd_X12_isHeld ⟨Nat.le_of_ble_eq_true rfl, Nat.le_of_ble_eq_true rfl⟩) (pre_W hW hB_G_15 hK hZ hS kd_66 rfl) rfl rfl hl.1 rfl (lv_room (Nat.le_of_ble_eq_true rfl)) dX12_keeps_82 ⟨Nat.le_of_ble_eq_true rfl, Nat.le_of_ble_eq_true rfl⟩) hS (fun r_124 G_125 H locs hpo hW hS => ?_)
              have hX_128 : Q_isHeld y_123 0 G_15 r_124 G_125 := hpo
              obtain ⟨hB_G_125, hq_126, f_129, -⟩ := hpo
              have hF := hF.call9 hq_126 rfl rfl
              refine lv_if_eq (tgt := 92) hx hb dX12_keeps_85 rfl (fun c_130 => ?_) (fun c_130 => ?_)
              · have c_130 : r_124.toInt = 0 := xI_eq rfl rfl c_130
                refine lv_ldcw (v := 100000) hx hb hown (hg (Cond.constant RX12 502 100000) m1858) dX12_keeps_92 ?_
                refine S_iast hx hb hK hW hS kd_104 (vin ((by first | exact f_22.1 | omega)) ((by first | exact ok_1144 c_24 | omega))) dX12_keeps_95 (fun G_131 H locs eG_131 hW hS => ?_)
                have hB_G_131 : Bd G_131 := hB_G_125.put (lo := (-2147483648)) (hi := 2147483647) eG_131 rfl rfl rfl (tI_rng _).1 (tI_rng _).2 (hB_G_125.2.put eG_131 rfl)
                have hF := hF.put eG_131 (Or.inl (by decide))
                obtain ⟨y_132, ey_132⟩ : ∃ q, q = x_19 + 1 := ⟨_, rfl⟩
                have ty_132 : y_132.toInt = x_19.toInt + 1 := xI_add rfl rfl ey_132 ((by first | exact ok_21 f_22.1 | omega)) ((by first | exact ok_1145 c_24 | omega))
                refine lv_iinc (v := y_132) (lv' := [(4, .int y_132), (0, .ref (a 66))]) hx hb dX12_keeps_96 hl (k := 0) rfl (by rw [ey_132]; rfl) (lt_b rfl) rfl (fun ls hl => ?_)
                refine lv_goto (tgt := 22) hx hb dX12_keeps_99 rfl ?_
                exact ih_17 (1024 - y_132.toInt : Int).toNat ((by first | (clear hP9 f_6 c_7 g_9 c_120 f_129 c_130; omega) | omega)) _ _ _ ⟨G_131, y_132, (Int.toNat_of_nonneg ((by first | exact ok_1146 c_24 ty_132 | omega))), ⟨(by first | exact ok_23 f_22.1 ty_132 | omega), (by first | exact ok_1147 c_24 ty_132 | omega)⟩, (hX_20.st (St_n_keeps_1_mk ⟨x_19, G_15, y_132, G_131, rfl, rfl, f_22, hB_G_15, ⟨c_24, ⟨y_105, ty_105, (Or.inl ⟨c_106, ⟨y_109, ty_109, (Or.inr ⟨c_111, ⟨y_114, ty_114, (Or.inr ⟨c_115, ⟨y_118, ty_118, ⟨y_119, ey_119, (Or.inr ⟨c_120, ⟨y_123, ty_123, ⟨r_124, G_125, hX_128, (Or.inl ⟨c_130, ⟨y_132, ty_132, ⟨rfl, (Fr.put (rs := [104]) (fs := []) Fr.rf eG_131 (Or.inl (by decide))), rw_ast eG_131⟩⟩⟩)⟩⟩⟩)⟩⟩⟩)⟩⟩)⟩⟩)⟩⟩⟩)), hW, hB_G_131, hF, (Fr.put (rs := [104]) (fs := []) (Fr.call9 (rs := [104]) (fs := []) (Fr.call9 (rs := [104]) (fs := []) Fr.rf hq_16 rfl rfl) hq_126 rfl rfl) eG_131 (Or.inl (by decide))), hS, lv_sub hl [0, 1] rfl⟩
              · have c_130 : r_124.toInt ≠ 0 := xI_ne rfl rfl c_130
                refine ic_0 hx hb dX12_keeps_88 ?_
                refine lv_goto (tgt := 95) hx hb dX12_keeps_89 rfl ?_
                refine S_iast hx hb hK hW hS kd_104 (vin ((by first | exact f_22.1 | omega)) ((by first | exact ok_1144 c_24 | omega))) dX12_keeps_95 (fun G_133 H locs eG_133 hW hS => ?_)
                have hB_G_133 : Bd G_133 := hB_G_125.put (lo := (-2147483648)) (hi := 2147483647) eG_133 rfl rfl rfl (tI_rng _).1 (tI_rng _).2 (hB_G_125.2.put eG_133 rfl)
                have hF := hF.put eG_133 (Or.inl (by decide))
                obtain ⟨y_134, ey_134⟩ : ∃ q, q = x_19 + 1 := ⟨_, rfl⟩
                have ty_134 : y_134.toInt = x_19.toInt + 1 := xI_add rfl rfl ey_134 ((by first | exact ok_21 f_22.1 | omega)) ((by first | exact ok_1145 c_24 | omega))
                refine lv_iinc (v := y_134) (lv' := [(4, .int y_134), (0, .ref (a 66))]) hx hb dX12_keeps_96 hl (k := 0) rfl (by rw [ey_134]; rfl) (lt_b rfl) rfl (fun ls hl => ?_)
                refine lv_goto (tgt := 22) hx hb dX12_keeps_99 rfl ?_
                exact ih_17 (1024 - y_134.toInt : Int).toNat ((by first | (clear hP9 f_6 c_7 g_9 c_120 f_129 c_130; omega) | omega)) _ _ _ ⟨G_133, y_134, (Int.toNat_of_nonneg ((by first | exact ok_1146 c_24 ty_134 | omega))), ⟨(by first | exact ok_23 f_22.1 ty_134 | omega), (by first | exact ok_1147 c_24 ty_134 | omega)⟩, (hX_20.st (St_n_keeps_1_mk ⟨x_19, G_15, y_134, G_133, rfl, rfl, f_22, hB_G_15, ⟨c_24, ⟨y_105, ty_105, (Or.inl ⟨c_106, ⟨y_109, ty_109, (Or.inr ⟨c_111, ⟨y_114, ty_114, (Or.inr ⟨c_115, ⟨y_118, ty_118, ⟨y_119, ey_119, (Or.inr ⟨c_120, ⟨y_123, ty_123, ⟨r_124, G_125, hX_128, (Or.inr ⟨c_130, ⟨y_134, ty_134, ⟨rfl, (Fr.put (rs := [104]) (fs := []) Fr.rf eG_133 (Or.inl (by decide))), rw_ast eG_133⟩⟩⟩)⟩⟩⟩)⟩⟩⟩)⟩⟩)⟩⟩)⟩⟩⟩)), hW, hB_G_133, hF, (Fr.put (rs := [104]) (fs := []) (Fr.call9 (rs := [104]) (fs := []) (Fr.call9 (rs := [104]) (fs := []) Fr.rf hq_16 rfl rfl) hq_126 rfl rfl) eG_133 (Or.inl (by decide))), hS, lv_sub hl [0, 1] rfl⟩
  · have c_7 : r_1.toInt = 0 := xI_eq rfl rfl c_7
    refine ic_m1 hx hb dX12_keeps_10 ?_
    exact W.iret (v := (-1)) hx hb hr (fun t ht _ => ⟨⟨(-1), G_2, rfl, (Q_keeps_mk ⟨hB_G_2, hF, ⟨r_1, G_2, hX_5, (Or.inl ⟨c_7, ⟨rfl, rfl⟩⟩)⟩⟩), wd_t ht hW⟩, hS.F ht⟩) hS.2.2 dX12_keeps_11

theorem m112 : Cond.selects RX12 yX12_stands yX12_stands ∈ gd := gds_8 0 rfl
theorem m1995 : Cond.methodLink RX12 584 yX12_stands ∈ gd := gdc_8_12 7 rfl gw_methodLink
theorem m1997 : Cond.instanceMethod yX12_stands ∈ gd := gdc_8_12 9 rfl gw_instanceMethod
theorem m1998 : Cond.code yX12_stands cX12_stands 2 (some .int) ∈ gd := gdc_8_12 10 rfl gw_code
noncomputable def rbX12_go_0 : List (Nat × List Nat) := [(0, [42]), (1, [180, 0, 151]), (4, [3]), (5, [46]), (6, [155, 0, 13]), (9, [42]), (10, [180, 0, 151]), (13, [7]), (14, [46]), (15, [4]), (16, [159, 0, 5]), (19, [2]), (20, [172]), (21, [42]), (22, [180, 0, 151]), (25, [3]), (26, [46]), (27, [61]), (28, [27]), (29, [42]), (30, [180, 0, 93]), (33, [28]), (34, [46]), (35, [42])]
theorem rcX12_go_0 : dgo (lb cX12_go) 0 rbX12_go_0 = true := by decide +kernel
theorem dX12_go_0 : decode cX12_go 0 = .ok (.aload_n 0, 1) := dk_42 (dw rcX12_go_0 0 rfl)
theorem dX12_go_1 : decode cX12_go 1 = .ok (.getfield 151, 3) := dk_180 (dw rcX12_go_0 1 rfl) rfl
theorem dX12_go_4 : decode cX12_go 4 = .ok (.iconst 0, 1) := dk_3 (dw rcX12_go_0 2 rfl)
theorem dX12_go_5 : decode cX12_go 5 = .ok (.iaload, 1) := dk_46 (dw rcX12_go_0 3 rfl)
theorem dX12_go_6 : decode cX12_go 6 = .ok (.ifCond .lt 13, 3) := dk_155 (dw rcX12_go_0 4 rfl) rfl
theorem dX12_go_9 : decode cX12_go 9 = .ok (.aload_n 0, 1) := dk_42 (dw rcX12_go_0 5 rfl)
theorem dX12_go_10 : decode cX12_go 10 = .ok (.getfield 151, 3) := dk_180 (dw rcX12_go_0 6 rfl) rfl
theorem dX12_go_13 : decode cX12_go 13 = .ok (.iconst 4, 1) := dk_7 (dw rcX12_go_0 7 rfl)
theorem dX12_go_14 : decode cX12_go 14 = .ok (.iaload, 1) := dk_46 (dw rcX12_go_0 8 rfl)
theorem dX12_go_15 : decode cX12_go 15 = .ok (.iconst 1, 1) := dk_4 (dw rcX12_go_0 9 rfl)
theorem dX12_go_16 : decode cX12_go 16 = .ok (.if_icmp .eq 5, 3) := dk_159 (dw rcX12_go_0 10 rfl) rfl
theorem dX12_go_19 : decode cX12_go 19 = .ok (.iconst (-1), 1) := dk_2 (dw rcX12_go_0 11 rfl)
theorem dX12_go_20 : decode cX12_go 20 = .ok (.ireturn, 1) := dk_172 (dw rcX12_go_0 12 rfl)
theorem dX12_go_21 : decode cX12_go 21 = .ok (.aload_n 0, 1) := dk_42 (dw rcX12_go_0 13 rfl)
theorem dX12_go_22 : decode cX12_go 22 = .ok (.getfield 151, 3) := dk_180 (dw rcX12_go_0 14 rfl) rfl
theorem dX12_go_25 : decode cX12_go 25 = .ok (.iconst 0, 1) := dk_3 (dw rcX12_go_0 15 rfl)
theorem dX12_go_26 : decode cX12_go 26 = .ok (.iaload, 1) := dk_46 (dw rcX12_go_0 16 rfl)
theorem dX12_go_27 : decode cX12_go 27 = .ok (.istore_n 2, 1) := dk_61 (dw rcX12_go_0 17 rfl)
theorem dX12_go_28 : decode cX12_go 28 = .ok (.iload_n 1, 1) := dk_27 (dw rcX12_go_0 18 rfl)
theorem dX12_go_29 : decode cX12_go 29 = .ok (.aload_n 0, 1) := dk_42 (dw rcX12_go_0 19 rfl)
theorem dX12_go_30 : decode cX12_go 30 = .ok (.getfield 93, 3) := dk_180 (dw rcX12_go_0 20 rfl) rfl
theorem dX12_go_33 : decode cX12_go 33 = .ok (.iload_n 2, 1) := dk_28 (dw rcX12_go_0 21 rfl)
theorem dX12_go_34 : decode cX12_go 34 = .ok (.iaload, 1) := dk_46 (dw rcX12_go_0 22 rfl)
theorem dX12_go_35 : decode cX12_go 35 = .ok (.aload_n 0, 1) := dk_42 (dw rcX12_go_0 23 rfl)
noncomputable def rbX12_go_36 : List (Nat × List Nat) := [(36, [180, 0, 151]), (39, [8]), (40, [46]), (41, [4]), (42, [160, 0, 12]), (45, [42]), (46, [180, 0, 96]), (49, [28]), (50, [46]), (51, [167, 0, 9]), (54, [42]), (55, [180, 0, 99]), (58, [28]), (59, [46]), (60, [184, 1, 193]), (63, [154, 0, 5]), (66, [2]), (67, [172]), (68, [42]), (69, [182, 2, 69]), (72, [42]), (73, [28]), (74, [42]), (75, [180, 0, 151])]
theorem rcX12_go_36 : dgo (lb cX12_go) 0 rbX12_go_36 = true := by decide +kernel
theorem dX12_go_36 : decode cX12_go 36 = .ok (.getfield 151, 3) := dk_180 (dw rcX12_go_36 0 rfl) rfl
theorem dX12_go_39 : decode cX12_go 39 = .ok (.iconst 5, 1) := dk_8 (dw rcX12_go_36 1 rfl)
theorem dX12_go_40 : decode cX12_go 40 = .ok (.iaload, 1) := dk_46 (dw rcX12_go_36 2 rfl)
theorem dX12_go_41 : decode cX12_go 41 = .ok (.iconst 1, 1) := dk_4 (dw rcX12_go_36 3 rfl)
theorem dX12_go_42 : decode cX12_go 42 = .ok (.if_icmp .ne 12, 3) := dk_160 (dw rcX12_go_36 4 rfl) rfl
theorem dX12_go_45 : decode cX12_go 45 = .ok (.aload_n 0, 1) := dk_42 (dw rcX12_go_36 5 rfl)
theorem dX12_go_46 : decode cX12_go 46 = .ok (.getfield 96, 3) := dk_180 (dw rcX12_go_36 6 rfl) rfl
theorem dX12_go_49 : decode cX12_go 49 = .ok (.iload_n 2, 1) := dk_28 (dw rcX12_go_36 7 rfl)
theorem dX12_go_50 : decode cX12_go 50 = .ok (.iaload, 1) := dk_46 (dw rcX12_go_36 8 rfl)
theorem dX12_go_51 : decode cX12_go 51 = .ok (.goto 9, 3) := dk_167 (dw rcX12_go_36 9 rfl) rfl
theorem dX12_go_54 : decode cX12_go 54 = .ok (.aload_n 0, 1) := dk_42 (dw rcX12_go_36 10 rfl)
theorem dX12_go_55 : decode cX12_go 55 = .ok (.getfield 99, 3) := dk_180 (dw rcX12_go_36 11 rfl) rfl
theorem dX12_go_58 : decode cX12_go 58 = .ok (.iload_n 2, 1) := dk_28 (dw rcX12_go_36 12 rfl)
theorem dX12_go_59 : decode cX12_go 59 = .ok (.iaload, 1) := dk_46 (dw rcX12_go_36 13 rfl)
theorem dX12_go_60 : decode cX12_go 60 = .ok (.invokestatic 449, 3) := dk_184 (dw rcX12_go_36 14 rfl) rfl
theorem dX12_go_63 : decode cX12_go 63 = .ok (.ifCond .ne 5, 3) := dk_154 (dw rcX12_go_36 15 rfl) rfl
theorem dX12_go_66 : decode cX12_go 66 = .ok (.iconst (-1), 1) := dk_2 (dw rcX12_go_36 16 rfl)
theorem dX12_go_67 : decode cX12_go 67 = .ok (.ireturn, 1) := dk_172 (dw rcX12_go_36 17 rfl)
theorem dX12_go_68 : decode cX12_go 68 = .ok (.aload_n 0, 1) := dk_42 (dw rcX12_go_36 18 rfl)
theorem dX12_go_69 : decode cX12_go 69 = .ok (.invokevirtual 581, 3) := dk_182 (dw rcX12_go_36 19 rfl) rfl
theorem dX12_go_72 : decode cX12_go 72 = .ok (.aload_n 0, 1) := dk_42 (dw rcX12_go_36 20 rfl)
theorem dX12_go_73 : decode cX12_go 73 = .ok (.iload_n 2, 1) := dk_28 (dw rcX12_go_36 21 rfl)
theorem dX12_go_74 : decode cX12_go 74 = .ok (.aload_n 0, 1) := dk_42 (dw rcX12_go_36 22 rfl)
theorem dX12_go_75 : decode cX12_go 75 = .ok (.getfield 151, 3) := dk_180 (dw rcX12_go_36 23 rfl) rfl
noncomputable def rbX12_go_78 : List (Nat × List Nat) := [(78, [4]), (79, [46]), (80, [42]), (81, [180, 0, 151]), (84, [16, 8]), (86, [46]), (87, [182, 1, 237]), (90, [42]), (91, [180, 0, 151]), (94, [16, 7]), (96, [42]), (97, [180, 0, 151]), (100, [16, 7]), (102, [46]), (103, [17, 0, 137]), (106, [104]), (107, [16, 71]), (109, [96]), (110, [17, 3, 232]), (113, [112]), (114, [79]), (115, [42]), (116, [180, 0, 151]), (119, [16, 7])]
theorem rcX12_go_78 : dgo (lb cX12_go) 0 rbX12_go_78 = true := by decide +kernel
theorem dX12_go_78 : decode cX12_go 78 = .ok (.iconst 1, 1) := dk_4 (dw rcX12_go_78 0 rfl)
theorem dX12_go_79 : decode cX12_go 79 = .ok (.iaload, 1) := dk_46 (dw rcX12_go_78 1 rfl)
theorem dX12_go_80 : decode cX12_go 80 = .ok (.aload_n 0, 1) := dk_42 (dw rcX12_go_78 2 rfl)
theorem dX12_go_81 : decode cX12_go 81 = .ok (.getfield 151, 3) := dk_180 (dw rcX12_go_78 3 rfl) rfl
theorem dX12_go_84 : decode cX12_go 84 = .ok (.bipush 8, 2) := dk_16 (dw rcX12_go_78 4 rfl) rfl
theorem dX12_go_86 : decode cX12_go 86 = .ok (.iaload, 1) := dk_46 (dw rcX12_go_78 5 rfl)
theorem dX12_go_87 : decode cX12_go 87 = .ok (.invokevirtual 493, 3) := dk_182 (dw rcX12_go_78 6 rfl) rfl
theorem dX12_go_90 : decode cX12_go 90 = .ok (.aload_n 0, 1) := dk_42 (dw rcX12_go_78 7 rfl)
theorem dX12_go_91 : decode cX12_go 91 = .ok (.getfield 151, 3) := dk_180 (dw rcX12_go_78 8 rfl) rfl
theorem dX12_go_94 : decode cX12_go 94 = .ok (.bipush 7, 2) := dk_16 (dw rcX12_go_78 9 rfl) rfl
theorem dX12_go_96 : decode cX12_go 96 = .ok (.aload_n 0, 1) := dk_42 (dw rcX12_go_78 10 rfl)
theorem dX12_go_97 : decode cX12_go 97 = .ok (.getfield 151, 3) := dk_180 (dw rcX12_go_78 11 rfl) rfl
theorem dX12_go_100 : decode cX12_go 100 = .ok (.bipush 7, 2) := dk_16 (dw rcX12_go_78 12 rfl) rfl
theorem dX12_go_102 : decode cX12_go 102 = .ok (.iaload, 1) := dk_46 (dw rcX12_go_78 13 rfl)
theorem dX12_go_103 : decode cX12_go 103 = .ok (.sipush 137, 3) := dk_17 (dw rcX12_go_78 14 rfl) rfl
theorem dX12_go_106 : decode cX12_go 106 = .ok (.imul, 1) := dk_104 (dw rcX12_go_78 15 rfl)
theorem dX12_go_107 : decode cX12_go 107 = .ok (.bipush 71, 2) := dk_16 (dw rcX12_go_78 16 rfl) rfl
theorem dX12_go_109 : decode cX12_go 109 = .ok (.iadd, 1) := dk_96 (dw rcX12_go_78 17 rfl)
theorem dX12_go_110 : decode cX12_go 110 = .ok (.sipush 1000, 3) := dk_17 (dw rcX12_go_78 18 rfl) rfl
theorem dX12_go_113 : decode cX12_go 113 = .ok (.irem, 1) := dk_112 (dw rcX12_go_78 19 rfl)
theorem dX12_go_114 : decode cX12_go 114 = .ok (.iastore, 1) := dk_79 (dw rcX12_go_78 20 rfl)
theorem dX12_go_115 : decode cX12_go 115 = .ok (.aload_n 0, 1) := dk_42 (dw rcX12_go_78 21 rfl)
theorem dX12_go_116 : decode cX12_go 116 = .ok (.getfield 151, 3) := dk_180 (dw rcX12_go_78 22 rfl) rfl
theorem dX12_go_119 : decode cX12_go 119 = .ok (.bipush 7, 2) := dk_16 (dw rcX12_go_78 23 rfl) rfl
noncomputable def rbX12_go_121 : List (Nat × List Nat) := [(121, [46]), (122, [42]), (123, [182, 2, 41]), (126, [112]), (127, [62]), (128, [42]), (129, [180, 0, 151]), (132, [5]), (133, [46]), (134, [27]), (135, [96]), (136, [29]), (137, [42]), (138, [180, 0, 102]), (141, [3]), (142, [46]), (143, [162, 0, 7]), (146, [2]), (147, [167, 0, 25]), (150, [29]), (151, [42]), (152, [180, 0, 102]), (155, [3]), (156, [46])]
theorem rcX12_go_121 : dgo (lb cX12_go) 0 rbX12_go_121 = true := by decide +kernel
theorem dX12_go_121 : decode cX12_go 121 = .ok (.iaload, 1) := dk_46 (dw rcX12_go_121 0 rfl)
theorem dX12_go_122 : decode cX12_go 122 = .ok (.aload_n 0, 1) := dk_42 (dw rcX12_go_121 1 rfl)
theorem dX12_go_123 : decode cX12_go 123 = .ok (.invokevirtual 553, 3) := dk_182 (dw rcX12_go_121 2 rfl) rfl
theorem dX12_go_126 : decode cX12_go 126 = .ok (.irem, 1) := dk_112 (dw rcX12_go_121 3 rfl)
theorem dX12_go_127 : decode cX12_go 127 = .ok (.istore_n 3, 1) := dk_62 (dw rcX12_go_121 4 rfl)
theorem dX12_go_128 : decode cX12_go 128 = .ok (.aload_n 0, 1) := dk_42 (dw rcX12_go_121 5 rfl)
theorem dX12_go_129 : decode cX12_go 129 = .ok (.getfield 151, 3) := dk_180 (dw rcX12_go_121 6 rfl) rfl
theorem dX12_go_132 : decode cX12_go 132 = .ok (.iconst 2, 1) := dk_5 (dw rcX12_go_121 7 rfl)
theorem dX12_go_133 : decode cX12_go 133 = .ok (.iaload, 1) := dk_46 (dw rcX12_go_121 8 rfl)
theorem dX12_go_134 : decode cX12_go 134 = .ok (.iload_n 1, 1) := dk_27 (dw rcX12_go_121 9 rfl)
theorem dX12_go_135 : decode cX12_go 135 = .ok (.iadd, 1) := dk_96 (dw rcX12_go_121 10 rfl)
theorem dX12_go_136 : decode cX12_go 136 = .ok (.iload_n 3, 1) := dk_29 (dw rcX12_go_121 11 rfl)
theorem dX12_go_137 : decode cX12_go 137 = .ok (.aload_n 0, 1) := dk_42 (dw rcX12_go_121 12 rfl)
theorem dX12_go_138 : decode cX12_go 138 = .ok (.getfield 102, 3) := dk_180 (dw rcX12_go_121 13 rfl) rfl
theorem dX12_go_141 : decode cX12_go 141 = .ok (.iconst 0, 1) := dk_3 (dw rcX12_go_121 14 rfl)
theorem dX12_go_142 : decode cX12_go 142 = .ok (.iaload, 1) := dk_46 (dw rcX12_go_121 15 rfl)
theorem dX12_go_143 : decode cX12_go 143 = .ok (.if_icmp .ge 7, 3) := dk_162 (dw rcX12_go_121 16 rfl) rfl
theorem dX12_go_146 : decode cX12_go 146 = .ok (.iconst (-1), 1) := dk_2 (dw rcX12_go_121 17 rfl)
theorem dX12_go_147 : decode cX12_go 147 = .ok (.goto 25, 3) := dk_167 (dw rcX12_go_121 18 rfl) rfl
theorem dX12_go_150 : decode cX12_go 150 = .ok (.iload_n 3, 1) := dk_29 (dw rcX12_go_121 19 rfl)
theorem dX12_go_151 : decode cX12_go 151 = .ok (.aload_n 0, 1) := dk_42 (dw rcX12_go_121 20 rfl)
theorem dX12_go_152 : decode cX12_go 152 = .ok (.getfield 102, 3) := dk_180 (dw rcX12_go_121 21 rfl) rfl
theorem dX12_go_155 : decode cX12_go 155 = .ok (.iconst 0, 1) := dk_3 (dw rcX12_go_121 22 rfl)
theorem dX12_go_156 : decode cX12_go 156 = .ok (.iaload, 1) := dk_46 (dw rcX12_go_121 23 rfl)
noncomputable def rbX12_go_157 : List (Nat × List Nat) := [(157, [42]), (158, [180, 0, 102]), (161, [4]), (162, [46]), (163, [96]), (164, [162, 0, 7]), (167, [3]), (168, [167, 0, 4]), (171, [4]), (172, [96]), (173, [54, 4]), (175, [42]), (176, [180, 0, 151]), (179, [8]), (180, [27]), (181, [42]), (182, [180, 0, 96]), (185, [28]), (186, [46]), (187, [164, 0, 7]), (190, [4]), (191, [167, 0, 4]), (194, [3]), (195, [184, 1, 92])]
theorem rcX12_go_157 : dgo (lb cX12_go) 0 rbX12_go_157 = true := by decide +kernel
theorem dX12_go_157 : decode cX12_go 157 = .ok (.aload_n 0, 1) := dk_42 (dw rcX12_go_157 0 rfl)
theorem dX12_go_158 : decode cX12_go 158 = .ok (.getfield 102, 3) := dk_180 (dw rcX12_go_157 1 rfl) rfl
theorem dX12_go_161 : decode cX12_go 161 = .ok (.iconst 1, 1) := dk_4 (dw rcX12_go_157 2 rfl)
theorem dX12_go_162 : decode cX12_go 162 = .ok (.iaload, 1) := dk_46 (dw rcX12_go_157 3 rfl)
theorem dX12_go_163 : decode cX12_go 163 = .ok (.iadd, 1) := dk_96 (dw rcX12_go_157 4 rfl)
theorem dX12_go_164 : decode cX12_go 164 = .ok (.if_icmp .ge 7, 3) := dk_162 (dw rcX12_go_157 5 rfl) rfl
theorem dX12_go_167 : decode cX12_go 167 = .ok (.iconst 0, 1) := dk_3 (dw rcX12_go_157 6 rfl)
theorem dX12_go_168 : decode cX12_go 168 = .ok (.goto 4, 3) := dk_167 (dw rcX12_go_157 7 rfl) rfl
theorem dX12_go_171 : decode cX12_go 171 = .ok (.iconst 1, 1) := dk_4 (dw rcX12_go_157 8 rfl)
theorem dX12_go_172 : decode cX12_go 172 = .ok (.iadd, 1) := dk_96 (dw rcX12_go_157 9 rfl)
theorem dX12_go_173 : decode cX12_go 173 = .ok (.istore 4, 2) := dk_54 (dw rcX12_go_157 10 rfl)
theorem dX12_go_175 : decode cX12_go 175 = .ok (.aload_n 0, 1) := dk_42 (dw rcX12_go_157 11 rfl)
theorem dX12_go_176 : decode cX12_go 176 = .ok (.getfield 151, 3) := dk_180 (dw rcX12_go_157 12 rfl) rfl
theorem dX12_go_179 : decode cX12_go 179 = .ok (.iconst 5, 1) := dk_8 (dw rcX12_go_157 13 rfl)
theorem dX12_go_180 : decode cX12_go 180 = .ok (.iload_n 1, 1) := dk_27 (dw rcX12_go_157 14 rfl)
theorem dX12_go_181 : decode cX12_go 181 = .ok (.aload_n 0, 1) := dk_42 (dw rcX12_go_157 15 rfl)
theorem dX12_go_182 : decode cX12_go 182 = .ok (.getfield 96, 3) := dk_180 (dw rcX12_go_157 16 rfl) rfl
theorem dX12_go_185 : decode cX12_go 185 = .ok (.iload_n 2, 1) := dk_28 (dw rcX12_go_157 17 rfl)
theorem dX12_go_186 : decode cX12_go 186 = .ok (.iaload, 1) := dk_46 (dw rcX12_go_157 18 rfl)
theorem dX12_go_187 : decode cX12_go 187 = .ok (.if_icmp .le 7, 3) := dk_164 (dw rcX12_go_157 19 rfl) rfl
theorem dX12_go_190 : decode cX12_go 190 = .ok (.iconst 1, 1) := dk_4 (dw rcX12_go_157 20 rfl)
theorem dX12_go_191 : decode cX12_go 191 = .ok (.goto 4, 3) := dk_167 (dw rcX12_go_157 21 rfl) rfl
theorem dX12_go_194 : decode cX12_go 194 = .ok (.iconst 0, 1) := dk_3 (dw rcX12_go_157 22 rfl)
theorem dX12_go_195 : decode cX12_go 195 = .ok (.invokestatic 348, 3) := dk_184 (dw rcX12_go_157 23 rfl) rfl
noncomputable def rbX12_go_198 : List (Nat × List Nat) := [(198, [79]), (199, [42]), (200, [21, 4]), (202, [182, 1, 228]), (205, [154, 0, 12]), (208, [42]), (209, [180, 0, 151]), (212, [7]), (213, [5]), (214, [79]), (215, [5]), (216, [172]), (217, [42]), (218, [180, 0, 151]), (221, [5]), (222, [21, 4]), (224, [79]), (225, [42]), (226, [180, 0, 151]), (229, [6]), (230, [92]), (231, [46]), (232, [4]), (233, [96])]
theorem rcX12_go_198 : dgo (lb cX12_go) 0 rbX12_go_198 = true := by decide +kernel
theorem dX12_go_198 : decode cX12_go 198 = .ok (.iastore, 1) := dk_79 (dw rcX12_go_198 0 rfl)
theorem dX12_go_199 : decode cX12_go 199 = .ok (.aload_n 0, 1) := dk_42 (dw rcX12_go_198 1 rfl)
theorem dX12_go_200 : decode cX12_go 200 = .ok (.iload 4, 2) := dk_21 (dw rcX12_go_198 2 rfl)
theorem dX12_go_202 : decode cX12_go 202 = .ok (.invokevirtual 484, 3) := dk_182 (dw rcX12_go_198 3 rfl) rfl
theorem dX12_go_205 : decode cX12_go 205 = .ok (.ifCond .ne 12, 3) := dk_154 (dw rcX12_go_198 4 rfl) rfl
theorem dX12_go_208 : decode cX12_go 208 = .ok (.aload_n 0, 1) := dk_42 (dw rcX12_go_198 5 rfl)
theorem dX12_go_209 : decode cX12_go 209 = .ok (.getfield 151, 3) := dk_180 (dw rcX12_go_198 6 rfl) rfl
theorem dX12_go_212 : decode cX12_go 212 = .ok (.iconst 4, 1) := dk_7 (dw rcX12_go_198 7 rfl)
theorem dX12_go_213 : decode cX12_go 213 = .ok (.iconst 2, 1) := dk_5 (dw rcX12_go_198 8 rfl)
theorem dX12_go_214 : decode cX12_go 214 = .ok (.iastore, 1) := dk_79 (dw rcX12_go_198 9 rfl)
theorem dX12_go_215 : decode cX12_go 215 = .ok (.iconst 2, 1) := dk_5 (dw rcX12_go_198 10 rfl)
theorem dX12_go_216 : decode cX12_go 216 = .ok (.ireturn, 1) := dk_172 (dw rcX12_go_198 11 rfl)
theorem dX12_go_217 : decode cX12_go 217 = .ok (.aload_n 0, 1) := dk_42 (dw rcX12_go_198 12 rfl)
theorem dX12_go_218 : decode cX12_go 218 = .ok (.getfield 151, 3) := dk_180 (dw rcX12_go_198 13 rfl) rfl
theorem dX12_go_221 : decode cX12_go 221 = .ok (.iconst 2, 1) := dk_5 (dw rcX12_go_198 14 rfl)
theorem dX12_go_222 : decode cX12_go 222 = .ok (.iload 4, 2) := dk_21 (dw rcX12_go_198 15 rfl)
theorem dX12_go_224 : decode cX12_go 224 = .ok (.iastore, 1) := dk_79 (dw rcX12_go_198 16 rfl)
theorem dX12_go_225 : decode cX12_go 225 = .ok (.aload_n 0, 1) := dk_42 (dw rcX12_go_198 17 rfl)
theorem dX12_go_226 : decode cX12_go 226 = .ok (.getfield 151, 3) := dk_180 (dw rcX12_go_198 18 rfl) rfl
theorem dX12_go_229 : decode cX12_go 229 = .ok (.iconst 3, 1) := dk_6 (dw rcX12_go_198 19 rfl)
theorem dX12_go_230 : decode cX12_go 230 = .ok (.dup2, 1) := dk_92 (dw rcX12_go_198 20 rfl)
theorem dX12_go_231 : decode cX12_go 231 = .ok (.iaload, 1) := dk_46 (dw rcX12_go_198 21 rfl)
theorem dX12_go_232 : decode cX12_go 232 = .ok (.iconst 1, 1) := dk_4 (dw rcX12_go_198 22 rfl)
theorem dX12_go_233 : decode cX12_go 233 = .ok (.iadd, 1) := dk_96 (dw rcX12_go_198 23 rfl)
noncomputable def rbX12_go_234 : List (Nat × List Nat) := [(234, [79]), (235, [42]), (236, [180, 0, 151]), (239, [7]), (240, [42]), (241, [21, 4]), (243, [182, 2, 72]), (246, [79]), (247, [42]), (248, [180, 0, 151]), (251, [7]), (252, [46]), (253, [172])]
theorem rcX12_go_234 : dgo (lb cX12_go) 0 rbX12_go_234 = true := by decide +kernel
theorem dX12_go_234 : decode cX12_go 234 = .ok (.iastore, 1) := dk_79 (dw rcX12_go_234 0 rfl)
theorem dX12_go_235 : decode cX12_go 235 = .ok (.aload_n 0, 1) := dk_42 (dw rcX12_go_234 1 rfl)
theorem dX12_go_236 : decode cX12_go 236 = .ok (.getfield 151, 3) := dk_180 (dw rcX12_go_234 2 rfl) rfl
theorem dX12_go_239 : decode cX12_go 239 = .ok (.iconst 4, 1) := dk_7 (dw rcX12_go_234 3 rfl)
theorem dX12_go_240 : decode cX12_go 240 = .ok (.aload_n 0, 1) := dk_42 (dw rcX12_go_234 4 rfl)
theorem dX12_go_241 : decode cX12_go 241 = .ok (.iload 4, 2) := dk_21 (dw rcX12_go_234 5 rfl)
theorem dX12_go_243 : decode cX12_go 243 = .ok (.invokevirtual 584, 3) := dk_182 (dw rcX12_go_234 6 rfl) rfl
theorem dX12_go_246 : decode cX12_go 246 = .ok (.iastore, 1) := dk_79 (dw rcX12_go_234 7 rfl)
theorem dX12_go_247 : decode cX12_go 247 = .ok (.aload_n 0, 1) := dk_42 (dw rcX12_go_234 8 rfl)
theorem dX12_go_248 : decode cX12_go 248 = .ok (.getfield 151, 3) := dk_180 (dw rcX12_go_234 9 rfl) rfl
theorem dX12_go_251 : decode cX12_go 251 = .ok (.iconst 4, 1) := dk_7 (dw rcX12_go_234 10 rfl)
theorem dX12_go_252 : decode cX12_go 252 = .ok (.iaload, 1) := dk_46 (dw rcX12_go_234 11 rfl)
theorem dX12_go_253 : decode cX12_go 253 = .ok (.ireturn, 1) := dk_172 (dw rcX12_go_234 12 rfl)
noncomputable def rbX12_walk_0 : List (Nat × List Nat) := [(0, [42]), (1, [27]), (2, [182, 1, 231]), (5, [153, 0, 27]), (8, [42]), (9, [28]), (10, [182, 1, 197]), (13, [153, 0, 19]), (16, [29]), (17, [3]), (18, [42]), (19, [180, 0, 96]), (22, [27]), (23, [46]), (24, [4]), (25, [100]), (26, [184, 1, 193]), (29, [154, 0, 5]), (32, [2]), (33, [172]), (34, [42]), (35, [27]), (36, [28]), (37, [42])]
theorem rcX12_walk_0 : dgo (lb cX12_walk) 0 rbX12_walk_0 = true := by decide +kernel
theorem dX12_walk_0 : decode cX12_walk 0 = .ok (.aload_n 0, 1) := dk_42 (dw rcX12_walk_0 0 rfl)
theorem dX12_walk_1 : decode cX12_walk 1 = .ok (.iload_n 1, 1) := dk_27 (dw rcX12_walk_0 1 rfl)
theorem dX12_walk_2 : decode cX12_walk 2 = .ok (.invokevirtual 487, 3) := dk_182 (dw rcX12_walk_0 2 rfl) rfl
theorem dX12_walk_5 : decode cX12_walk 5 = .ok (.ifCond .eq 27, 3) := dk_153 (dw rcX12_walk_0 3 rfl) rfl
theorem dX12_walk_8 : decode cX12_walk 8 = .ok (.aload_n 0, 1) := dk_42 (dw rcX12_walk_0 4 rfl)
theorem dX12_walk_9 : decode cX12_walk 9 = .ok (.iload_n 2, 1) := dk_28 (dw rcX12_walk_0 5 rfl)
theorem dX12_walk_10 : decode cX12_walk 10 = .ok (.invokevirtual 453, 3) := dk_182 (dw rcX12_walk_0 6 rfl) rfl
theorem dX12_walk_13 : decode cX12_walk 13 = .ok (.ifCond .eq 19, 3) := dk_153 (dw rcX12_walk_0 7 rfl) rfl
theorem dX12_walk_16 : decode cX12_walk 16 = .ok (.iload_n 3, 1) := dk_29 (dw rcX12_walk_0 8 rfl)
theorem dX12_walk_17 : decode cX12_walk 17 = .ok (.iconst 0, 1) := dk_3 (dw rcX12_walk_0 9 rfl)
theorem dX12_walk_18 : decode cX12_walk 18 = .ok (.aload_n 0, 1) := dk_42 (dw rcX12_walk_0 10 rfl)
theorem dX12_walk_19 : decode cX12_walk 19 = .ok (.getfield 96, 3) := dk_180 (dw rcX12_walk_0 11 rfl) rfl
theorem dX12_walk_22 : decode cX12_walk 22 = .ok (.iload_n 1, 1) := dk_27 (dw rcX12_walk_0 12 rfl)
theorem dX12_walk_23 : decode cX12_walk 23 = .ok (.iaload, 1) := dk_46 (dw rcX12_walk_0 13 rfl)
theorem dX12_walk_24 : decode cX12_walk 24 = .ok (.iconst 1, 1) := dk_4 (dw rcX12_walk_0 14 rfl)
theorem dX12_walk_25 : decode cX12_walk 25 = .ok (.isub, 1) := dk_100 (dw rcX12_walk_0 15 rfl)
theorem dX12_walk_26 : decode cX12_walk 26 = .ok (.invokestatic 449, 3) := dk_184 (dw rcX12_walk_0 16 rfl) rfl
theorem dX12_walk_29 : decode cX12_walk 29 = .ok (.ifCond .ne 5, 3) := dk_154 (dw rcX12_walk_0 17 rfl) rfl
theorem dX12_walk_32 : decode cX12_walk 32 = .ok (.iconst (-1), 1) := dk_2 (dw rcX12_walk_0 18 rfl)
theorem dX12_walk_33 : decode cX12_walk 33 = .ok (.ireturn, 1) := dk_172 (dw rcX12_walk_0 19 rfl)
theorem dX12_walk_34 : decode cX12_walk 34 = .ok (.aload_n 0, 1) := dk_42 (dw rcX12_walk_0 20 rfl)
theorem dX12_walk_35 : decode cX12_walk 35 = .ok (.iload_n 1, 1) := dk_27 (dw rcX12_walk_0 21 rfl)
theorem dX12_walk_36 : decode cX12_walk 36 = .ok (.iload_n 2, 1) := dk_28 (dw rcX12_walk_0 22 rfl)
theorem dX12_walk_37 : decode cX12_walk 37 = .ok (.aload_n 0, 1) := dk_42 (dw rcX12_walk_0 23 rfl)
noncomputable def rbX12_walk_38 : List (Nat × List Nat) := [(38, [180, 0, 151]), (41, [16, 8]), (43, [46]), (44, [182, 1, 237]), (47, [42]), (48, [29]), (49, [182, 1, 228]), (52, [154, 0, 5]), (55, [2]), (56, [172]), (57, [42]), (58, [182, 2, 69]), (61, [42]), (62, [180, 0, 151]), (65, [3]), (66, [27]), (67, [79]), (68, [42]), (69, [180, 0, 151]), (72, [4]), (73, [28]), (74, [79]), (75, [42]), (76, [180, 0, 151])]
theorem rcX12_walk_38 : dgo (lb cX12_walk) 0 rbX12_walk_38 = true := by decide +kernel
theorem dX12_walk_38 : decode cX12_walk 38 = .ok (.getfield 151, 3) := dk_180 (dw rcX12_walk_38 0 rfl) rfl
theorem dX12_walk_41 : decode cX12_walk 41 = .ok (.bipush 8, 2) := dk_16 (dw rcX12_walk_38 1 rfl) rfl
theorem dX12_walk_43 : decode cX12_walk 43 = .ok (.iaload, 1) := dk_46 (dw rcX12_walk_38 2 rfl)
theorem dX12_walk_44 : decode cX12_walk 44 = .ok (.invokevirtual 493, 3) := dk_182 (dw rcX12_walk_38 3 rfl) rfl
theorem dX12_walk_47 : decode cX12_walk 47 = .ok (.aload_n 0, 1) := dk_42 (dw rcX12_walk_38 4 rfl)
theorem dX12_walk_48 : decode cX12_walk 48 = .ok (.iload_n 3, 1) := dk_29 (dw rcX12_walk_38 5 rfl)
theorem dX12_walk_49 : decode cX12_walk 49 = .ok (.invokevirtual 484, 3) := dk_182 (dw rcX12_walk_38 6 rfl) rfl
theorem dX12_walk_52 : decode cX12_walk 52 = .ok (.ifCond .ne 5, 3) := dk_154 (dw rcX12_walk_38 7 rfl) rfl
theorem dX12_walk_55 : decode cX12_walk 55 = .ok (.iconst (-1), 1) := dk_2 (dw rcX12_walk_38 8 rfl)
theorem dX12_walk_56 : decode cX12_walk 56 = .ok (.ireturn, 1) := dk_172 (dw rcX12_walk_38 9 rfl)
theorem dX12_walk_57 : decode cX12_walk 57 = .ok (.aload_n 0, 1) := dk_42 (dw rcX12_walk_38 10 rfl)
theorem dX12_walk_58 : decode cX12_walk 58 = .ok (.invokevirtual 581, 3) := dk_182 (dw rcX12_walk_38 11 rfl) rfl
theorem dX12_walk_61 : decode cX12_walk 61 = .ok (.aload_n 0, 1) := dk_42 (dw rcX12_walk_38 12 rfl)
theorem dX12_walk_62 : decode cX12_walk 62 = .ok (.getfield 151, 3) := dk_180 (dw rcX12_walk_38 13 rfl) rfl
theorem dX12_walk_65 : decode cX12_walk 65 = .ok (.iconst 0, 1) := dk_3 (dw rcX12_walk_38 14 rfl)
theorem dX12_walk_66 : decode cX12_walk 66 = .ok (.iload_n 1, 1) := dk_27 (dw rcX12_walk_38 15 rfl)
theorem dX12_walk_67 : decode cX12_walk 67 = .ok (.iastore, 1) := dk_79 (dw rcX12_walk_38 16 rfl)
theorem dX12_walk_68 : decode cX12_walk 68 = .ok (.aload_n 0, 1) := dk_42 (dw rcX12_walk_38 17 rfl)
theorem dX12_walk_69 : decode cX12_walk 69 = .ok (.getfield 151, 3) := dk_180 (dw rcX12_walk_38 18 rfl) rfl
theorem dX12_walk_72 : decode cX12_walk 72 = .ok (.iconst 1, 1) := dk_4 (dw rcX12_walk_38 19 rfl)
theorem dX12_walk_73 : decode cX12_walk 73 = .ok (.iload_n 2, 1) := dk_28 (dw rcX12_walk_38 20 rfl)
theorem dX12_walk_74 : decode cX12_walk 74 = .ok (.iastore, 1) := dk_79 (dw rcX12_walk_38 21 rfl)
theorem dX12_walk_75 : decode cX12_walk 75 = .ok (.aload_n 0, 1) := dk_42 (dw rcX12_walk_38 22 rfl)
theorem dX12_walk_76 : decode cX12_walk 76 = .ok (.getfield 151, 3) := dk_180 (dw rcX12_walk_38 23 rfl) rfl
noncomputable def rbX12_walk_79 : List (Nat × List Nat) := [(79, [5]), (80, [29]), (81, [79]), (82, [42]), (83, [180, 0, 151]), (86, [6]), (87, [4]), (88, [79]), (89, [42]), (90, [180, 0, 151]), (93, [7]), (94, [42]), (95, [29]), (96, [182, 2, 72]), (99, [79]), (100, [42]), (101, [180, 0, 151]), (104, [8]), (105, [3]), (106, [79]), (107, [42]), (108, [180, 0, 151]), (111, [7]), (112, [46])]
theorem rcX12_walk_79 : dgo (lb cX12_walk) 0 rbX12_walk_79 = true := by decide +kernel
theorem dX12_walk_79 : decode cX12_walk 79 = .ok (.iconst 2, 1) := dk_5 (dw rcX12_walk_79 0 rfl)
theorem dX12_walk_80 : decode cX12_walk 80 = .ok (.iload_n 3, 1) := dk_29 (dw rcX12_walk_79 1 rfl)
theorem dX12_walk_81 : decode cX12_walk 81 = .ok (.iastore, 1) := dk_79 (dw rcX12_walk_79 2 rfl)
theorem dX12_walk_82 : decode cX12_walk 82 = .ok (.aload_n 0, 1) := dk_42 (dw rcX12_walk_79 3 rfl)
theorem dX12_walk_83 : decode cX12_walk 83 = .ok (.getfield 151, 3) := dk_180 (dw rcX12_walk_79 4 rfl) rfl
theorem dX12_walk_86 : decode cX12_walk 86 = .ok (.iconst 3, 1) := dk_6 (dw rcX12_walk_79 5 rfl)
theorem dX12_walk_87 : decode cX12_walk 87 = .ok (.iconst 1, 1) := dk_4 (dw rcX12_walk_79 6 rfl)
theorem dX12_walk_88 : decode cX12_walk 88 = .ok (.iastore, 1) := dk_79 (dw rcX12_walk_79 7 rfl)
theorem dX12_walk_89 : decode cX12_walk 89 = .ok (.aload_n 0, 1) := dk_42 (dw rcX12_walk_79 8 rfl)
theorem dX12_walk_90 : decode cX12_walk 90 = .ok (.getfield 151, 3) := dk_180 (dw rcX12_walk_79 9 rfl) rfl
theorem dX12_walk_93 : decode cX12_walk 93 = .ok (.iconst 4, 1) := dk_7 (dw rcX12_walk_79 10 rfl)
theorem dX12_walk_94 : decode cX12_walk 94 = .ok (.aload_n 0, 1) := dk_42 (dw rcX12_walk_79 11 rfl)
theorem dX12_walk_95 : decode cX12_walk 95 = .ok (.iload_n 3, 1) := dk_29 (dw rcX12_walk_79 12 rfl)
theorem dX12_walk_96 : decode cX12_walk 96 = .ok (.invokevirtual 584, 3) := dk_182 (dw rcX12_walk_79 13 rfl) rfl
theorem dX12_walk_99 : decode cX12_walk 99 = .ok (.iastore, 1) := dk_79 (dw rcX12_walk_79 14 rfl)
theorem dX12_walk_100 : decode cX12_walk 100 = .ok (.aload_n 0, 1) := dk_42 (dw rcX12_walk_79 15 rfl)
theorem dX12_walk_101 : decode cX12_walk 101 = .ok (.getfield 151, 3) := dk_180 (dw rcX12_walk_79 16 rfl) rfl
theorem dX12_walk_104 : decode cX12_walk 104 = .ok (.iconst 5, 1) := dk_8 (dw rcX12_walk_79 17 rfl)
theorem dX12_walk_105 : decode cX12_walk 105 = .ok (.iconst 0, 1) := dk_3 (dw rcX12_walk_79 18 rfl)
theorem dX12_walk_106 : decode cX12_walk 106 = .ok (.iastore, 1) := dk_79 (dw rcX12_walk_79 19 rfl)
theorem dX12_walk_107 : decode cX12_walk 107 = .ok (.aload_n 0, 1) := dk_42 (dw rcX12_walk_79 20 rfl)
theorem dX12_walk_108 : decode cX12_walk 108 = .ok (.getfield 151, 3) := dk_180 (dw rcX12_walk_79 21 rfl) rfl
theorem dX12_walk_111 : decode cX12_walk 111 = .ok (.iconst 4, 1) := dk_7 (dw rcX12_walk_79 22 rfl)
theorem dX12_walk_112 : decode cX12_walk 112 = .ok (.iaload, 1) := dk_46 (dw rcX12_walk_79 23 rfl)
theorem dX12_walk_113 : decode cX12_walk 113 = .ok (.ireturn, 1) := dq_of (by decide +kernel)
set_option maxHeartbeats 4000000 in
set_option maxRecDepth 100000 in
theorem n_walk (l : Launch) (D : va_G) (k : KT) (A : Nat → Prop) (a : Nat → Nat) (z : SK) (G : GS) (p0 : Int32) (p1 : Int32) (p2 : Int32) (hP9 : gP G = 1) (hac : (G.1 66 78).toInt + (G.1 66 79).toInt ≤ 40) : Met l yX12_walk (WS yX12_walk cX12_walk 4 (some .int)) ({ frames := 5, cells := 0, slots := 0, locals := 117 }) (va_Pc [.ref (a 66), .int p0, .int p1, .int p2] (cW D k A a z G)) (va_Qi (fun (r : Int32) (G1 : GS) => Q_walk p0 p1 p2 G r G1) (fun (G1 : GS) t => Wd D k A a G1 t.heap) A) 0 0 A := by
  refine Met.ofW (cc := cX12_walk) (maxL := 4) (ret := (some .int)) (by decide) rfl ?_
  intro p e s m args below meth c s₁ B hml hv
  obtain ⟨rfl, hW, hB_G, hK, hZ⟩ := hv
  have hx := B.exec
  have hb := B.bytes
  have hr := B.returns
  have hts := atoms_spec (ws := WS yX12_walk cX12_walk 4 (some .int)) B.pre
  have hgd : ∀ w ∈ gd, w ∈ WS yX12_walk cX12_walk 4 (some .int) := fun w h => List.mem_cons_of_mem _ h
  have hg : ∀ w ∈ gd, w.before _ s = true := fun w h => hts w (hgd w h)
  have hown : s.vm.findClass RX12 = some m.cls := findClass_of_methodNamed B.named
  have hS : va_S A s.heap s.heap [] := va_S.rf
  have hF : Fr [110, 111, 76, 97, 98] [(66, 59), (66, 60), (66, 61), (66, 62), (66, 63), (66, 78), (66, 79)] G G := Fr.rf
  have hl := lv_entry ([.ref (a 66), .int p0, .int p1, .int p2]) (n := 4) (Nat.le_of_ble_eq_true rfl)
  rw [lg_entry_eq]
  generalize (lg_sl ([.ref (a 66), .int p0, .int p1, .int p2]) ++ List.replicate (4 - (lg_sl ([.ref (a 66), .int p0, .int p1, .int p2])).length) Slot.unset).toArray = ls at hl ⊢
  have hl : lv_has ls 4 [(0, .ref (a 66)), (1, .int p0), (2, .int p1), (3, .int p2)] := hl
  refine lv_aload_n hx hb dX12_walk_0 rfl (lv_at hl 0 rfl) ?_
  refine lv_iload_n hx hb dX12_walk_1 rfl (lv_at hl 1 rfl) ?_
  refine S_calli (va_runV (As := [.int p0]) (rest := []) ⟨hx, hb, hml, hown, hts⟩ (n_isWalker l D k A a z G p0 ) (cwV 1 hts (gd_V hgd m1830 m1832 m90 m131 m1833) rfl rfl rfl hd_X12_isWalker ⟨Nat.le_of_ble_eq_true rfl, Nat.le_of_ble_eq_true rfl⟩) (pre_W hW hB_G hK hZ hS kd_66 rfl) rfl rfl hl.1 rfl (lv_room (Nat.le_of_ble_eq_true rfl)) dX12_walk_2 ⟨Nat.le_of_ble_eq_true rfl, Nat.le_of_ble_eq_true rfl⟩) hS (fun r_1 G_2 H locs hpo hW hS => ?_)
  have hX_5 : Q_isWalker p0 G r_1 G_2 := hpo
  obtain ⟨hB_G_2, hq_3, f_6, hp_4, -⟩ := hpo
  have hF := hF.call9 hq_3 rfl rfl
  refine lv_if_eq (tgt := 32) hx hb dX12_walk_5 rfl (fun c_7 => ?_) (fun c_7 => ?_)
  · have c_7 : r_1.toInt = 0 := xI_eq rfl rfl c_7
    refine ic_m1 hx hb dX12_walk_32 ?_
    have b_8 : 0 ≤ (G.1 66 78).toInt ∧ (G.1 66 78).toInt ≤ 40 := bd_66_78 hB_G
    have g_9 : (G_2.1 66 78).toInt = (G.1 66 78).toInt := (congrArg Int32.toInt (show G_2.1 66 78 = (G.1 66 78) from (hq_3.i9 66 78 rfl rfl)))
    have b_10 : 0 ≤ (G.1 66 79).toInt ∧ (G.1 66 79).toInt ≤ 40 := bd_66_79 hB_G
    have g_11 : (G_2.1 66 79).toInt = (G.1 66 79).toInt := (congrArg Int32.toInt (show G_2.1 66 79 = (G.1 66 79) from (hq_3.i9 66 79 rfl rfl)))
    exact W.iret (v := (-1)) hx hb hr (fun t ht _ => ⟨⟨(-1), G_2, rfl, (Q_walk_mk ⟨hB_G_2, hF, (by have hq : ((-1) : Int32).toInt = (-1) := rfl; (try dsimp only); omega), ⟨r_1, G_2, hX_5, (Or.inl ⟨c_7, ⟨rfl, rfl⟩⟩)⟩⟩), wd_t ht hW⟩, hS.F ht⟩) hS.2.2 dX12_walk_33
  · have c_7 : r_1.toInt ≠ 0 := xI_ne rfl rfl c_7
    refine lv_aload_n hx hb dX12_walk_8 rfl (lv_at hl 0 rfl) ?_
    refine lv_iload_n hx hb dX12_walk_9 rfl (lv_at hl 2 rfl) ?_
    have b_12 : 0 ≤ (G.1 66 52).toInt ∧ (G.1 66 52).toInt ≤ 3 := bd_66_52 hB_G
    have g_13 : (G_2.1 66 52).toInt = (G.1 66 52).toInt := (congrArg Int32.toInt (show G_2.1 66 52 = (G.1 66 52) from (hq_3.i9 66 52 rfl rfl)))
    refine S_calli (va_runV (As := [.int p1]) (rest := []) ⟨hx, hb, hml, hown, hts⟩ (n_isStreet l D k A a z G_2 p1 ) (cwV 1 hts (gd_V hgd m1777 m1779 m83 m131 m1780) rfl rfl rfl hd_X12_isStreet ⟨Nat.le_of_ble_eq_true rfl, Nat.le_of_ble_eq_true rfl⟩) (pre_W hW hB_G_2 hK hZ hS kd_66 rfl) rfl rfl hl.1 rfl (lv_room (Nat.le_of_ble_eq_true rfl)) dX12_walk_10 ⟨Nat.le_of_ble_eq_true rfl, Nat.le_of_ble_eq_true rfl⟩) hS (fun r_14 G_15 H locs hpo hW hS => ?_)
    have hX_18 : Q_isStreet p1 G_2 r_14 G_15 := hpo
    obtain ⟨hB_G_15, hq_16, f_19, hp_17, -⟩ := hpo
    have hF := hF.call9 hq_16 rfl rfl
    refine lv_if_eq (tgt := 32) hx hb dX12_walk_13 rfl (fun c_20 => ?_) (fun c_20 => ?_)
    · have c_20 : r_14.toInt = 0 := xI_eq rfl rfl c_20
      refine ic_m1 hx hb dX12_walk_32 ?_
      have b_21 : 0 ≤ (G.1 66 78).toInt ∧ (G.1 66 78).toInt ≤ 40 := bd_66_78 hB_G
      have g_22 : (G_15.1 66 78).toInt = (G.1 66 78).toInt := (congrArg Int32.toInt (show G_15.1 66 78 = (G.1 66 78) from ((hq_16.i9 66 78 rfl rfl).trans (hq_3.i9 66 78 rfl rfl))))
      have b_23 : 0 ≤ (G.1 66 79).toInt ∧ (G.1 66 79).toInt ≤ 40 := bd_66_79 hB_G
      have g_24 : (G_15.1 66 79).toInt = (G.1 66 79).toInt := (congrArg Int32.toInt (show G_15.1 66 79 = (G.1 66 79) from ((hq_16.i9 66 79 rfl rfl).trans (hq_3.i9 66 79 rfl rfl))))
      exact W.iret (v := (-1)) hx hb hr (fun t ht _ => ⟨⟨(-1), G_15, rfl, (Q_walk_mk ⟨hB_G_15, hF, (by have hq : ((-1) : Int32).toInt = (-1) := rfl; (try dsimp only); omega), ⟨r_1, G_2, hX_5, (Or.inr ⟨c_7, ⟨r_14, G_15, hX_18, (Or.inl ⟨c_20, ⟨rfl, rfl⟩⟩)⟩⟩)⟩⟩), wd_t ht hW⟩, hS.F ht⟩) hS.2.2 dX12_walk_33
    · have c_20 : r_14.toInt ≠ 0 := xI_ne rfl rfl c_20
      refine lv_iload_n hx hb dX12_walk_16 rfl (lv_at hl 3 rfl) ?_
      refine ic_0 hx hb dX12_walk_17 ?_
      refine lv_aload_n hx hb dX12_walk_18 rfl (lv_at hl 0 rfl) ?_
      refine S_getR (n := 94) (C := RX12) (T := TX12) (N := 89) hx hb hg iX12 hown hK hW kd_66 rfl 42 (lt_b rfl) (hg (Cond.fieldLink RX12 96 "SlabWalkModel" "mosts" "[I") m1356) (fun _ h9 => h9) rfl dX12_walk_19 ?_
      refine lv_iload_n hx hb dX12_walk_22 rfl (lv_at hl 1 rfl) ?_
      refine S_iald hx hb hK hW kd_94 (vin ((by first | exact ok_1149 f_6.1 f_6.2 hp_4 c_7 | omega)) ((by first | exact ok_1150 f_6.1 f_6.2 hp_4 c_7 | omega))) dX12_walk_23 (fun y_25 ey_25 => ?_)
      have ty_25 : 0 ≤ y_25.toInt ∧ y_25.toInt ≤ 60 := bv_94 hB_G_15 ey_25
      refine ic_1 hx hb dX12_walk_24 ?_
      refine lv_isub hx hb dX12_walk_25 ?_
      refine lv_topi (fun y_26 ey_26 => ?_)
      have ty_26 : y_26.toInt = y_25.toInt - 1 := xI_sub rfl rfl ey_26 ((by first | exact ok_56 ty_25.1 | omega)) ((by first | exact ok_170 ty_25.2 | omega))
      have qc_27 : (0 : Int32).toInt = 0 := rfl
      refine S_calli (va_runS (As := [.int p2, .int 0, .int y_26]) (rest := []) ⟨hx, hb, hml, hown, hts⟩ (n_isIn l D k A a z G_15 p2 0 y_26 ) (va_cwS 3 hts (gd_S hgd m1781 m1782 m131 m1783) rfl rfl rfl hd_X12_isIn.2 ⟨Nat.le_of_ble_eq_true rfl, Nat.le_of_ble_eq_true rfl⟩) (pre_S hW hB_G_15 hK hZ hS) rfl rfl hl.1 rfl (lv_room (Nat.le_of_ble_eq_true rfl)) dX12_walk_26 ⟨Nat.le_of_ble_eq_true rfl, Nat.le_of_ble_eq_true rfl⟩) hS (fun r_28 G_29 H locs hpo hW hS => ?_)
      have hX_32 : Q_isIn p2 0 y_26 G_15 r_28 G_29 := hpo
      obtain ⟨hB_G_29, hq_30, f_33, ⟨d_1, d_2⟩, -⟩ := hpo
      have hF := hF.call9 hq_30 rfl rfl
      refine lv_if_ne (tgt := 34) hx hb dX12_walk_29 rfl (fun c_34 => ?_) (fun c_34 => ?_)
      · have c_34 : r_28.toInt ≠ 0 := xI_ne rfl rfl c_34
        refine lv_aload_n hx hb dX12_walk_34 rfl (lv_at hl 0 rfl) ?_
        refine lv_iload_n hx hb dX12_walk_35 rfl (lv_at hl 1 rfl) ?_
        refine lv_iload_n hx hb dX12_walk_36 rfl (lv_at hl 2 rfl) ?_
        refine lv_aload_n hx hb dX12_walk_37 rfl (lv_at hl 0 rfl) ?_
        refine S_getR (n := 110) (C := RX12) (T := TX12) (N := 89) hx hb hg iX12 hown hK hW kd_66 rfl 76 (lt_b rfl) (hg (Cond.fieldLink RX12 151 "SlabWalkModel" "now" "[I") m1390) (fun _ h9 => h9) rfl dX12_walk_38 ?_
        refine lv_bipush (v := 8) hx hb dX12_walk_41 (by decide) ?_
        refine S_iald hx hb hK hW kd_110 (vin (by decide) (by decide)) dX12_walk_43 (fun y_35 ey_35 => ?_)
        have fr_36 : Fr [] [] G G_29 := (Fr.call9 (rs := []) (fs := []) (Fr.call9 (rs := []) (fs := []) (Fr.call9 (rs := []) (fs := []) Fr.rf hq_3 rfl rfl) hq_16 rfl rfl) hq_30 rfl rfl)
        have g_37 : gP G_29 = gP G := gP_fr fr_36 (gr_q rfl) (gf_q rfl)
        refine S_callv (va_runV (As := [.int p0, .int p1, .int y_35]) (rest := []) ⟨hx, hb, hml, hown, hts⟩ (n_layStreet l D k A a z G_29 p0 p1 y_35 ⟨(by first | exact ok_1149 f_6.1 f_6.2 hp_4 c_7 | omega), (by first | exact ok_1151 f_6.1 f_6.2 hp_4 c_7 | omega)⟩ ⟨(by first | exact ok_647 f_19.1 f_19.2 hp_17 c_20 | omega), (by first | exact ok_649 f_19.1 f_19.2 hp_17 c_20 | omega)⟩ ((by first | exact ok_796 hP9 g_37 | omega))) (cwV 3 hts (gd_V hgd m1834 m1836 m91 m131 m1837) rfl rfl rfl hd_X12_layStreet ⟨Nat.le_of_ble_eq_true rfl, Nat.le_of_ble_eq_true rfl⟩) (pre_W hW hB_G_29 hK hZ hS kd_66 rfl) rfl rfl hl.1 rfl (lv_room (Nat.le_of_ble_eq_true rfl)) dX12_walk_44 ⟨Nat.le_of_ble_eq_true rfl, Nat.le_of_ble_eq_true rfl⟩) hS (fun G_39 H locs hpo hW hS => ?_)
        have hX_42 : Q_layStreet p0 p1 y_35 G_29 G_39 := hpo
        obtain ⟨hB_G_39, hq_40, ⟨d_3, d_4, d_5, d_6, d_7, d_8⟩, -⟩ := hpo
        have hF := hF.call9 hq_40 rfl rfl
        refine lv_aload_n hx hb dX12_walk_47 rfl (lv_at hl 0 rfl) ?_
        refine lv_iload_n hx hb dX12_walk_48 rfl (lv_at hl 3 rfl) ?_
        have b_43 : 0 ≤ (G_39.1 66 59).toInt ∧ (G_39.1 66 59).toInt ≤ 400 := bd_66_59 hB_G_39
        have b_44 : 0 ≤ (G_39.1 66 60).toInt ∧ (G_39.1 66 60).toInt ≤ 12 := bd_66_60 hB_G_39
        refine S_calli (va_runV (As := [.int p2]) (rest := []) ⟨hx, hb, hml, hown, hts⟩ (n_stands1 l D k A a z G_39 p2 ) (cwV 1 hts (gd_V hgd m1838 m1840 m92 m131 m1841) rfl rfl rfl hd_X12_doesStand ⟨Nat.le_of_ble_eq_true rfl, Nat.le_of_ble_eq_true rfl⟩) (pre_W hW hB_G_39 hK hZ hS kd_66 rfl) rfl rfl hl.1 rfl (lv_room (Nat.le_of_ble_eq_true rfl)) dX12_walk_49 ⟨Nat.le_of_ble_eq_true rfl, Nat.le_of_ble_eq_true rfl⟩) hS (fun r_45 G_46 H locs hpo hW hS => ?_)
        have hX_49 : Q_stands1 p2 G_39 r_45 G_46 := hpo
        obtain ⟨hB_G_46, hq_47, f_50, ⟨d_9, d_10⟩, -⟩ := hpo
        have hF := hF.call9 hq_47 rfl rfl
        refine lv_if_ne (tgt := 57) hx hb dX12_walk_52 rfl (fun c_51 => ?_) (fun c_51 => ?_)
        · have c_51 : r_45.toInt ≠ 0 := xI_ne rfl rfl c_51
          refine lv_aload_n hx hb dX12_walk_57 rfl (lv_at hl 0 rfl) ?_
          refine S_callv (va_runV (As := []) (rest := []) ⟨hx, hb, hml, hown, hts⟩ (n_act l D k A a z G_46  ) (cwV 0 hts (gd_V hgd m1991 m1993 m111 m131 m1994) rfl rfl rfl hd_X12_act ⟨Nat.le_of_ble_eq_true rfl, Nat.le_of_ble_eq_true rfl⟩) (pre_W hW hB_G_46 hK hZ hS kd_66 rfl) rfl rfl hl.1 rfl (lv_room (Nat.le_of_ble_eq_true rfl)) dX12_walk_58 ⟨Nat.le_of_ble_eq_true rfl, Nat.le_of_ble_eq_true rfl⟩) hS (fun G_53 H locs hpo hW hS => ?_)
          have hX_56 : Q_act G_46 G_53 := hpo
          obtain ⟨hB_G_53, hq_54, hp_55, -⟩ := hpo
          have hF := hF.call9 hq_54 rfl rfl
          refine lv_aload_n hx hb dX12_walk_61 rfl (lv_at hl 0 rfl) ?_
          refine S_getR (n := 110) (C := RX12) (T := TX12) (N := 89) hx hb hg iX12 hown hK hW kd_66 rfl 76 (lt_b rfl) (hg (Cond.fieldLink RX12 151 "SlabWalkModel" "now" "[I") m1390) (fun _ h9 => h9) rfl dX12_walk_62 ?_
          refine ic_0 hx hb dX12_walk_65 ?_
          refine lv_iload_n hx hb dX12_walk_66 rfl (lv_at hl 1 rfl) ?_
          refine S_iast hx hb hK hW hS kd_110 (vin (by decide) (by decide)) dX12_walk_67 (fun G_57 H locs eG_57 hW hS => ?_)
          have qc_58 : (0 : Int32).toInt = 0 := rfl
          have hB_G_57 : Bd G_57 := hB_G_53.putNow 110 (by decide) eG_57 (by first | (clear hP9 hac b_12 f_19 c_20 ty_25 f_33 c_34 g_37 hp_55; omega) | omega) (by first | (clear hP9 hac b_12 f_19 c_20 ty_25 f_33 c_34 g_37 hp_55; omega) | omega) (by first | (clear hP9 hac b_12 f_19 c_20 ty_25 f_33 c_34 g_37 hp_55; omega) | omega) rfl
          have hF := hF.put eG_57 (Or.inl (by decide))
          refine lv_aload_n hx hb dX12_walk_68 rfl (lv_at hl 0 rfl) ?_
          refine S_getR (n := 110) (C := RX12) (T := TX12) (N := 89) hx hb hg iX12 hown hK hW kd_66 rfl 76 (lt_b rfl) (hg (Cond.fieldLink RX12 151 "SlabWalkModel" "now" "[I") m1390) (fun _ h9 => h9) rfl dX12_walk_69 ?_
          refine ic_1 hx hb dX12_walk_72 ?_
          refine lv_iload_n hx hb dX12_walk_73 rfl (lv_at hl 2 rfl) ?_
          refine S_iast hx hb hK hW hS kd_110 (vin (by decide) (by decide)) dX12_walk_74 (fun G_59 H locs eG_59 hW hS => ?_)
          have qc_60 : (1 : Int32).toInt = 1 := rfl
          have hB_G_59 : Bd G_59 := hB_G_57.putNow 110 (by decide) eG_59 (by first | (clear hP9 hac f_6 c_7 ty_25 f_33 c_34 g_37 hp_55; omega) | omega) (by first | (clear hP9 hac f_6 c_7 ty_25 f_33 c_34 g_37 hp_55; omega) | omega) (by first | (clear hP9 hac f_6 c_7 ty_25 f_33 c_34 g_37 hp_55; omega) | omega) rfl
          have hF := hF.put eG_59 (Or.inl (by decide))
          refine lv_aload_n hx hb dX12_walk_75 rfl (lv_at hl 0 rfl) ?_
          refine S_getR (n := 110) (C := RX12) (T := TX12) (N := 89) hx hb hg iX12 hown hK hW kd_66 rfl 76 (lt_b rfl) (hg (Cond.fieldLink RX12 151 "SlabWalkModel" "now" "[I") m1390) (fun _ h9 => h9) rfl dX12_walk_76 ?_
          refine ic_2 hx hb dX12_walk_79 ?_
          refine lv_iload_n hx hb dX12_walk_80 rfl (lv_at hl 3 rfl) ?_
          refine S_iast hx hb hK hW hS kd_110 (vin (by decide) (by decide)) dX12_walk_81 (fun G_61 H locs eG_61 hW hS => ?_)
          have qc_62 : (2 : Int32).toInt = 2 := rfl
          have hB_G_61 : Bd G_61 := hB_G_59.putNow 110 (by decide) eG_61 (by first | (clear hP9 hac f_6 c_7 b_12 f_19 c_20 g_37 hp_55; omega) | omega) (by first | (clear hP9 hac f_6 c_7 b_12 f_19 c_20 g_37 hp_55; omega) | omega) (by first | (clear hP9 hac f_6 c_7 b_12 f_19 c_20 g_37 hp_55; omega) | omega) rfl
          have hF := hF.put eG_61 (Or.inl (by decide))
          refine lv_aload_n hx hb dX12_walk_82 rfl (lv_at hl 0 rfl) ?_
          refine S_getR (n := 110) (C := RX12) (T := TX12) (N := 89) hx hb hg iX12 hown hK hW kd_66 rfl 76 (lt_b rfl) (hg (Cond.fieldLink RX12 151 "SlabWalkModel" "now" "[I") m1390) (fun _ h9 => h9) rfl dX12_walk_83 ?_
          refine ic_3 hx hb dX12_walk_86 ?_
          refine ic_1 hx hb dX12_walk_87 ?_
          refine S_iast hx hb hK hW hS kd_110 (vin (by decide) (by decide)) dX12_walk_88 (fun G_63 H locs eG_63 hW hS => ?_)
          have qc_64 : (1 : Int32).toInt = 1 := rfl
          have qc_65 : (3 : Int32).toInt = 3 := rfl
          have hB_G_63 : Bd G_63 := hB_G_61.putNow 110 (by decide) eG_63 (by omega) (by omega) (by omega) rfl
          have hF := hF.put eG_63 (Or.inl (by decide))
          refine lv_aload_n hx hb dX12_walk_89 rfl (lv_at hl 0 rfl) ?_
          refine S_getR (n := 110) (C := RX12) (T := TX12) (N := 89) hx hb hg iX12 hown hK hW kd_66 rfl 76 (lt_b rfl) (hg (Cond.fieldLink RX12 151 "SlabWalkModel" "now" "[I") m1390) (fun _ h9 => h9) rfl dX12_walk_90 ?_
          refine ic_4 hx hb dX12_walk_93 ?_
          refine lv_aload_n hx hb dX12_walk_94 rfl (lv_at hl 0 rfl) ?_
          refine lv_iload_n hx hb dX12_walk_95 rfl (lv_at hl 3 rfl) ?_
          refine S_calli (va_runV (As := [.int p2]) (rest := [.int 4, .ref (a 110)]) ⟨hx, hb, hml, hown, hts⟩ (n_stands l D k A a z G_63 p2 ⟨(by first | exact ok_1152 f_50.1 f_50.2 d_9 c_51 | omega), (by first | exact ok_1153 ty_25.2 ty_26 f_33.1 f_33.2 d_1 c_34 | omega)⟩) (cwV 1 hts (gd_V hgd m1995 m1997 m112 m131 m1998) rfl rfl rfl hd_X12_stands ⟨Nat.le_of_ble_eq_true rfl, Nat.le_of_ble_eq_true rfl⟩) (pre_W hW hB_G_63 hK hZ hS kd_66 rfl) rfl rfl hl.1 rfl (lv_room (Nat.le_of_ble_eq_true rfl)) dX12_walk_96 ⟨Nat.le_of_ble_eq_true rfl, Nat.le_of_ble_eq_true rfl⟩) hS (fun r_66 G_67 H locs hpo hW hS => ?_)
          have hX_70 : Q_stands p2 G_63 r_66 G_67 := hpo
          obtain ⟨hB_G_67, hq_68, f_71, -⟩ := hpo
          have hF := hF.call9 hq_68 rfl rfl
          refine S_iast hx hb hK hW hS kd_110 (vin (by decide) (by decide)) dX12_walk_99 (fun G_72 H locs eG_72 hW hS => ?_)
          have qc_73 : (4 : Int32).toInt = 4 := rfl
          have hB_G_72 : Bd G_72 := hB_G_67.putNow 110 (by decide) eG_72 (by first | (clear hP9 hac f_6 hp_4 c_7 b_12 g_13 f_19 hp_17 c_20 ty_25 ty_26 f_33 d_1 d_2 c_34 g_37 d_3 d_4 d_5 d_6 d_7 d_8 b_43 b_44 f_50 d_9 d_10 c_51 hp_55; omega) | omega) (by first | (clear hP9 hac f_6 hp_4 c_7 b_12 g_13 f_19 hp_17 c_20 ty_25 ty_26 f_33 d_1 d_2 c_34 g_37 d_3 d_4 d_5 d_6 d_7 d_8 b_43 b_44 f_50 d_9 d_10 c_51 hp_55; omega) | omega) (by first | (clear hP9 hac f_6 hp_4 c_7 b_12 g_13 f_19 hp_17 c_20 ty_25 ty_26 f_33 d_1 d_2 c_34 g_37 d_3 d_4 d_5 d_6 d_7 d_8 b_43 b_44 f_50 d_9 d_10 c_51 hp_55; omega) | omega) rfl
          have hF := hF.put eG_72 (Or.inl (by decide))
          refine lv_aload_n hx hb dX12_walk_100 rfl (lv_at hl 0 rfl) ?_
          refine S_getR (n := 110) (C := RX12) (T := TX12) (N := 89) hx hb hg iX12 hown hK hW kd_66 rfl 76 (lt_b rfl) (hg (Cond.fieldLink RX12 151 "SlabWalkModel" "now" "[I") m1390) (fun _ h9 => h9) rfl dX12_walk_101 ?_
          refine ic_5 hx hb dX12_walk_104 ?_
          refine ic_0 hx hb dX12_walk_105 ?_
          refine S_iast hx hb hK hW hS kd_110 (vin (by decide) (by decide)) dX12_walk_106 (fun G_74 H locs eG_74 hW hS => ?_)
          have qc_75 : (0 : Int32).toInt = 0 := rfl
          have qc_76 : (5 : Int32).toInt = 5 := rfl
          have hB_G_74 : Bd G_74 := hB_G_72.putNow 110 (by decide) eG_74 (by omega) (by omega) (by omega) rfl
          have hF := hF.put eG_74 (Or.inl (by decide))
          refine lv_aload_n hx hb dX12_walk_107 rfl (lv_at hl 0 rfl) ?_
          refine S_getR (n := 110) (C := RX12) (T := TX12) (N := 89) hx hb hg iX12 hown hK hW kd_66 rfl 76 (lt_b rfl) (hg (Cond.fieldLink RX12 151 "SlabWalkModel" "now" "[I") m1390) (fun _ h9 => h9) rfl dX12_walk_108 ?_
          refine ic_4 hx hb dX12_walk_111 ?_
          refine S_iald hx hb hK hW kd_110 (vin (by decide) (by decide)) dX12_walk_112 (fun y_77 ey_77 => ?_)
          have b_78 : 0 ≤ (G_53.1 66 78).toInt ∧ (G_53.1 66 78).toInt ≤ 40 := bd_66_78 hB_G_53
          have g_79 : (G_74.1 66 78).toInt = (G_53.1 66 78).toInt := (congrArg Int32.toInt (show G_74.1 66 78 = (G_53.1 66 78) from ((gp_ne eG_74 (fun q => absurd q.1 (Nat.ne_of_beq_eq_false rfl))).trans ((gp_ne eG_72 (fun q => absurd q.1 (Nat.ne_of_beq_eq_false rfl))).trans ((hq_68.i9 66 78 rfl rfl).trans ((gp_ne eG_63 (fun q => absurd q.1 (Nat.ne_of_beq_eq_false rfl))).trans ((gp_ne eG_61 (fun q => absurd q.1 (Nat.ne_of_beq_eq_false rfl))).trans ((gp_ne eG_59 (fun q => absurd q.1 (Nat.ne_of_beq_eq_false rfl))).trans (gp_ne eG_57 (fun q => absurd q.1 (Nat.ne_of_beq_eq_false rfl)))))))))))
          have b_80 : 0 ≤ (G_53.1 66 79).toInt ∧ (G_53.1 66 79).toInt ≤ 40 := bd_66_79 hB_G_53
          have g_81 : (G_74.1 66 79).toInt = (G_53.1 66 79).toInt := (congrArg Int32.toInt (show G_74.1 66 79 = (G_53.1 66 79) from ((gp_ne eG_74 (fun q => absurd q.1 (Nat.ne_of_beq_eq_false rfl))).trans ((gp_ne eG_72 (fun q => absurd q.1 (Nat.ne_of_beq_eq_false rfl))).trans ((hq_68.i9 66 79 rfl rfl).trans ((gp_ne eG_63 (fun q => absurd q.1 (Nat.ne_of_beq_eq_false rfl))).trans ((gp_ne eG_61 (fun q => absurd q.1 (Nat.ne_of_beq_eq_false rfl))).trans ((gp_ne eG_59 (fun q => absurd q.1 (Nat.ne_of_beq_eq_false rfl))).trans (gp_ne eG_57 (fun q => absurd q.1 (Nat.ne_of_beq_eq_false rfl)))))))))))
          exact W.iret (v := y_77) hx hb hr (fun t ht _ => ⟨⟨y_77, G_74, rfl, (Q_walk_mk ⟨hB_G_74, hF, ((by first | exact ok_504 hp_55.1 g_79 g_81 | omega)), ⟨r_1, G_2, hX_5, (Or.inr ⟨c_7, ⟨r_14, G_15, hX_18, (Or.inr ⟨c_20, ⟨y_25, ey_25, ⟨y_26, ty_26, ⟨r_28, G_29, hX_32, (Or.inr ⟨c_34, ⟨y_35, ey_35, ⟨G_39, hX_42, ⟨r_45, G_46, hX_49, (Or.inr ⟨c_51, ⟨G_53, hX_56, ⟨G_63, hB_G_63, (Fr.put (rs := [110]) (fs := []) (Fr.put (rs := [110]) (fs := []) (Fr.put (rs := [110]) (fs := []) (Fr.put (rs := [110]) (fs := []) Fr.rf eG_57 (Or.inl (by decide))) eG_59 (Or.inl (by decide))) eG_61 (Or.inl (by decide))) eG_63 (Or.inl (by decide))), (rw_ast eG_63).trans (congrArg (fun q => upd q ((3 : Int32).toNatClampNeg) 1) ((rw_ast eG_61).trans (congrArg (fun q => upd q ((2 : Int32).toNatClampNeg) p2) ((rw_ast eG_59).trans (congrArg (fun q => upd q ((1 : Int32).toNatClampNeg) p1) (rw_ast eG_57)))))), ⟨r_66, G_67, hX_70, ⟨y_77, ey_77.trans (congrFun ((rw_ast eG_74).trans (congrArg (fun q => upd q ((5 : Int32).toNatClampNeg) 0) (rw_ast eG_72))) _), ⟨rfl, (Fr.put (rs := [110]) (fs := []) (Fr.put (rs := [110]) (fs := []) Fr.rf eG_72 (Or.inl (by decide))) eG_74 (Or.inl (by decide))), (rw_ast eG_74).trans (congrArg (fun q => upd q ((5 : Int32).toNatClampNeg) 0) (rw_ast eG_72))⟩⟩⟩⟩⟩⟩)⟩⟩⟩⟩)⟩⟩⟩⟩)⟩⟩)⟩⟩), wd_t ht hW⟩, hS.F ht⟩) hS.2.2 dX12_walk_113
        · have c_51 : r_45.toInt = 0 := xI_eq rfl rfl c_51
          refine ic_m1 hx hb dX12_walk_55 ?_
          have b_82 : 0 ≤ (G.1 66 78).toInt ∧ (G.1 66 78).toInt ≤ 40 := bd_66_78 hB_G
          have g_83 : (G_46.1 66 78).toInt = (G.1 66 78).toInt := (congrArg Int32.toInt (show G_46.1 66 78 = (G.1 66 78) from ((hq_47.i9 66 78 rfl rfl).trans ((hq_40.i9 66 78 rfl rfl).trans ((hq_30.i9 66 78 rfl rfl).trans ((hq_16.i9 66 78 rfl rfl).trans (hq_3.i9 66 78 rfl rfl)))))))
          have b_84 : 0 ≤ (G.1 66 79).toInt ∧ (G.1 66 79).toInt ≤ 40 := bd_66_79 hB_G
          have g_85 : (G_46.1 66 79).toInt = (G.1 66 79).toInt := (congrArg Int32.toInt (show G_46.1 66 79 = (G.1 66 79) from ((hq_47.i9 66 79 rfl rfl).trans ((hq_40.i9 66 79 rfl rfl).trans ((hq_30.i9 66 79 rfl rfl).trans ((hq_16.i9 66 79 rfl rfl).trans (hq_3.i9 66 79 rfl rfl)))))))
          exact W.iret (v := (-1)) hx hb hr (fun t ht _ => ⟨⟨(-1), G_46, rfl, (Q_walk_mk ⟨hB_G_46, hF, (by have hq : ((-1) : Int32).toInt = (-1) := rfl; (try dsimp only); omega), ⟨r_1, G_2, hX_5, (Or.inr ⟨c_7, ⟨r_14, G_15, hX_18, (Or.inr ⟨c_20, ⟨y_25, ey_25, ⟨y_26, ty_26, ⟨r_28, G_29, hX_32, (Or.inr ⟨c_34, ⟨y_35, ey_35, ⟨G_39, hX_42, ⟨r_45, G_46, hX_49, (Or.inl ⟨c_51, ⟨rfl, rfl⟩⟩)⟩⟩⟩⟩)⟩⟩⟩⟩)⟩⟩)⟩⟩), wd_t ht hW⟩, hS.F ht⟩) hS.2.2 dX12_walk_56
      · have c_34 : r_28.toInt = 0 := xI_eq rfl rfl c_34
        refine ic_m1 hx hb dX12_walk_32 ?_
        have b_86 : 0 ≤ (G.1 66 78).toInt ∧ (G.1 66 78).toInt ≤ 40 := bd_66_78 hB_G
        have g_87 : (G_29.1 66 78).toInt = (G.1 66 78).toInt := (congrArg Int32.toInt (show G_29.1 66 78 = (G.1 66 78) from ((hq_30.i9 66 78 rfl rfl).trans ((hq_16.i9 66 78 rfl rfl).trans (hq_3.i9 66 78 rfl rfl)))))
        have b_88 : 0 ≤ (G.1 66 79).toInt ∧ (G.1 66 79).toInt ≤ 40 := bd_66_79 hB_G
        have g_89 : (G_29.1 66 79).toInt = (G.1 66 79).toInt := (congrArg Int32.toInt (show G_29.1 66 79 = (G.1 66 79) from ((hq_30.i9 66 79 rfl rfl).trans ((hq_16.i9 66 79 rfl rfl).trans (hq_3.i9 66 79 rfl rfl)))))
        exact W.iret (v := (-1)) hx hb hr (fun t ht _ => ⟨⟨(-1), G_29, rfl, (Q_walk_mk ⟨hB_G_29, hF, (by have hq : ((-1) : Int32).toInt = (-1) := rfl; (try dsimp only); omega), ⟨r_1, G_2, hX_5, (Or.inr ⟨c_7, ⟨r_14, G_15, hX_18, (Or.inr ⟨c_20, ⟨y_25, ey_25, ⟨y_26, ty_26, ⟨r_28, G_29, hX_32, (Or.inl ⟨c_34, ⟨rfl, rfl⟩⟩)⟩⟩⟩⟩)⟩⟩)⟩⟩), wd_t ht hW⟩, hS.F ht⟩) hS.2.2 dX12_walk_33

set_option maxHeartbeats 4000000 in
set_option maxRecDepth 100000 in
theorem n_go (l : Launch) (D : va_G) (k : KT) (A : Nat → Prop) (a : Nat → Nat) (z : SK) (G : GS) (p0 : Int32) (hP9 : gP G = 1) (hac : (G.1 66 78).toInt + (G.1 66 79).toInt ≤ 40) (hsl : 1 ≤ (G.1 96 0).toInt + (G.1 96 1).toInt + (G.1 96 2).toInt) : Met l yX12_go (WS yX12_go cX12_go 5 (some .int)) ({ frames := 5, cells := 0, slots := 0, locals := 117 }) (va_Pc [.ref (a 66), .int p0] (cW D k A a z G)) (va_Qi (fun (r : Int32) (G1 : GS) => Q_go p0 G r G1) (fun (G1 : GS) t => Wd D k A a G1 t.heap) A) 0 0 A := by
  refine Met.ofW (cc := cX12_go) (maxL := 5) (ret := (some .int)) (by decide) rfl ?_
  intro p e s m args below meth c s₁ B hml hv
  obtain ⟨rfl, hW, hB_G, hK, hZ⟩ := hv
  have hx := B.exec
  have hb := B.bytes
  have hr := B.returns
  have hts := atoms_spec (ws := WS yX12_go cX12_go 5 (some .int)) B.pre
  have hgd : ∀ w ∈ gd, w ∈ WS yX12_go cX12_go 5 (some .int) := fun w h => List.mem_cons_of_mem _ h
  have hg : ∀ w ∈ gd, w.before _ s = true := fun w h => hts w (hgd w h)
  have hown : s.vm.findClass RX12 = some m.cls := findClass_of_methodNamed B.named
  have hS : va_S A s.heap s.heap [] := va_S.rf
  have hF : Fr [110, 111, 76, 97, 98] [(66, 59), (66, 60), (66, 61), (66, 62), (66, 63), (66, 78), (66, 79)] G G := Fr.rf
  have hl := lv_entry ([.ref (a 66), .int p0]) (n := 5) (Nat.le_of_ble_eq_true rfl)
  rw [lg_entry_eq]
  generalize (lg_sl ([.ref (a 66), .int p0]) ++ List.replicate (5 - (lg_sl ([.ref (a 66), .int p0])).length) Slot.unset).toArray = ls at hl ⊢
  have hl : lv_has ls 5 [(0, .ref (a 66)), (1, .int p0)] := hl
  refine lv_aload_n hx hb dX12_go_0 rfl (lv_at hl 0 rfl) ?_
  refine S_getR (n := 110) (C := RX12) (T := TX12) (N := 89) hx hb hg iX12 hown hK hW kd_66 rfl 76 (lt_b rfl) (hg (Cond.fieldLink RX12 151 "SlabWalkModel" "now" "[I") m1390) (fun _ h9 => h9) rfl dX12_go_1 ?_
  refine ic_0 hx hb dX12_go_4 ?_
  refine S_iald hx hb hK hW kd_110 (vin (by decide) (by decide)) dX12_go_5 (fun y_1 ey_1 => ?_)
  have ty_1 := hB_G.now0 110 (by decide) ey_1
  refine lv_if_lt (tgt := 19) hx hb dX12_go_6 rfl (fun c_2 => ?_) (fun c_2 => ?_)
  · have c_2 : y_1.toInt < 0 := xI_lt rfl rfl c_2
    refine ic_m1 hx hb dX12_go_19 ?_
    have b_3 : 0 ≤ (G.1 66 78).toInt ∧ (G.1 66 78).toInt ≤ 40 := bd_66_78 hB_G
    have b_4 : 0 ≤ (G.1 66 79).toInt ∧ (G.1 66 79).toInt ≤ 40 := bd_66_79 hB_G
    exact W.iret (v := (-1)) hx hb hr (fun t ht _ => ⟨⟨(-1), G, rfl, (Q_go_mk ⟨hB_G, hF, (by have hq : ((-1) : Int32).toInt = (-1) := rfl; (try dsimp only); omega), ⟨y_1, ey_1, (Or.inl ⟨c_2, ⟨rfl, rfl⟩⟩)⟩⟩), wd_t ht hW⟩, hS.F ht⟩) hS.2.2 dX12_go_20
  · have c_2 : 0 ≤ y_1.toInt := xI_nlt rfl rfl c_2
    refine lv_aload_n hx hb dX12_go_9 rfl (lv_at hl 0 rfl) ?_
    refine S_getR (n := 110) (C := RX12) (T := TX12) (N := 89) hx hb hg iX12 hown hK hW kd_66 rfl 76 (lt_b rfl) (hg (Cond.fieldLink RX12 151 "SlabWalkModel" "now" "[I") m1390) (fun _ h9 => h9) rfl dX12_go_10 ?_
    refine ic_4 hx hb dX12_go_13 ?_
    refine S_iald hx hb hK hW kd_110 (vin (by decide) (by decide)) dX12_go_14 (fun y_5 ey_5 => ?_)
    refine ic_1 hx hb dX12_go_15 ?_
    refine lv_icmp_eq (tgt := 21) hx hb dX12_go_16 rfl (fun c_6 => ?_) (fun c_6 => ?_)
    · have c_6 : y_5.toInt = 1 := xI_eq rfl rfl c_6
      refine lv_aload_n hx hb dX12_go_21 rfl (lv_at hl 0 rfl) ?_
      refine S_getR (n := 110) (C := RX12) (T := TX12) (N := 89) hx hb hg iX12 hown hK hW kd_66 rfl 76 (lt_b rfl) (hg (Cond.fieldLink RX12 151 "SlabWalkModel" "now" "[I") m1390) (fun _ h9 => h9) rfl dX12_go_22 ?_
      refine ic_0 hx hb dX12_go_25 ?_
      refine S_iald hx hb hK hW kd_110 (vin (by decide) (by decide)) dX12_go_26 (fun y_7 ey_7 => ?_)
      have ty_7 := hB_G.now0 110 (by decide) ey_7
      have u_8 : y_7.toInt = y_1.toInt := congrArg Int32.toInt (ey_7.trans (ey_1.symm))
      refine lv_istore_n (lv' := [(2, .int y_7), (0, .ref (a 66)), (1, .int p0)]) hx hb dX12_go_27 rfl hl (lt_b rfl) rfl (fun ls hl => ?_)
      refine lv_iload_n hx hb dX12_go_28 rfl (lv_at hl 2 rfl) ?_
      refine lv_aload_n hx hb dX12_go_29 rfl (lv_at hl 1 rfl) ?_
      refine S_getR (n := 93) (C := RX12) (T := TX12) (N := 89) hx hb hg iX12 hown hK hW kd_66 rfl 41 (lt_b rfl) (hg (Cond.fieldLink RX12 93 "SlabWalkModel" "leasts" "[I") m1355) (fun _ h9 => h9) rfl dX12_go_30 ?_
      refine lv_iload_n hx hb dX12_go_33 rfl (lv_at hl 0 rfl) ?_
      refine S_iald hx hb hK hW kd_93 (vin ((by first | exact ok_992 c_2 u_8 | omega)) ((by first | (clear hP9 hac hsl c_6; omega) | omega))) dX12_go_34 (fun y_9 ey_9 => ?_)
      have ty_9 : 0 ≤ y_9.toInt ∧ y_9.toInt ≤ 60 := bv_93 hB_G ey_9
      have u_10 : y_9.toInt = (G.1 93 y_7.toNatClampNeg).toInt := congrArg Int32.toInt (ey_9)
      refine lv_aload_n hx hb dX12_go_35 rfl (lv_at hl 1 rfl) ?_
      refine S_getR (n := 110) (C := RX12) (T := TX12) (N := 89) hx hb hg iX12 hown hK hW kd_66 rfl 76 (lt_b rfl) (hg (Cond.fieldLink RX12 151 "SlabWalkModel" "now" "[I") m1390) (fun _ h9 => h9) rfl dX12_go_36 ?_
      refine ic_5 hx hb dX12_go_39 ?_
      refine S_iald hx hb hK hW kd_110 (vin (by decide) (by decide)) dX12_go_40 (fun y_11 ey_11 => ?_)
      refine ic_1 hx hb dX12_go_41 ?_
      refine W.cut (σ := Int32) (pcJ := 60) (J := fun y H locs ls => ∃ (G_18 : GS), (0 ≤ y.toInt ∧ y.toInt ≤ 99) ∧ Jn_n_go_1 y_7 y_11 G y G_18 ∧ Wd D k A a G_18 H ∧ Bd G_18 ∧ Fr [110, 111, 76, 97, 98] [(66, 59), (66, 60), (66, 61), (66, 62), (66, 63), (66, 78), (66, 79)] G G_18 ∧ Fr [] [] G G_18 ∧ va_S A s.heap H locs ∧ lv_has ls 5 [(2, .int y_7), (0, .ref (a 66)), (1, .int p0)]) (stJ := fun y => [.int y, .int y_9, .int p0]) ?_ (fun hJ_19 => ?_)
      · intro y H locs ls hI
        obtain ⟨w_15, hy⟩ : ∃ q, q = y := ⟨_, rfl⟩
        subst hy
        obtain ⟨G_18, f_22, hX_21, hW, hB_G_18, hF, hq_20, hS, hl⟩ := hI
        refine S_calli (va_runS (As := [.int p0, .int y_9, .int w_15]) (rest := []) ⟨hx, hb, hml, hown, hts⟩ (n_isIn l D k A a z G_18 p0 y_9 w_15 ) (va_cwS 3 hts (gd_S hgd m1781 m1782 m131 m1783) rfl rfl rfl hd_X12_isIn.2 ⟨Nat.le_of_ble_eq_true rfl, Nat.le_of_ble_eq_true rfl⟩) (pre_S hW hB_G_18 hK hZ hS) rfl rfl hl.1 rfl (lv_room (Nat.le_of_ble_eq_true rfl)) dX12_go_60 ⟨Nat.le_of_ble_eq_true rfl, Nat.le_of_ble_eq_true rfl⟩) hS (fun r_23 G_24 H locs hpo hW hS => ?_)
        have hX_27 : Q_isIn p0 y_9 w_15 G_18 r_23 G_24 := hpo
        obtain ⟨hB_G_24, hq_25, f_28, ⟨d_1, d_2⟩, -⟩ := hpo
        have hF := hF.call9 hq_25 rfl rfl
        refine lv_if_ne (tgt := 68) hx hb dX12_go_63 rfl (fun c_29 => ?_) (fun c_29 => ?_)
        · have c_29 : r_23.toInt ≠ 0 := xI_ne rfl rfl c_29
          refine lv_aload_n hx hb dX12_go_68 rfl (lv_at hl 1 rfl) ?_
          refine S_callv (va_runV (As := []) (rest := []) ⟨hx, hb, hml, hown, hts⟩ (n_act l D k A a z G_24  ) (cwV 0 hts (gd_V hgd m1991 m1993 m111 m131 m1994) rfl rfl rfl hd_X12_act ⟨Nat.le_of_ble_eq_true rfl, Nat.le_of_ble_eq_true rfl⟩) (pre_W hW hB_G_24 hK hZ hS kd_66 rfl) rfl rfl hl.1 rfl (lv_room (Nat.le_of_ble_eq_true rfl)) dX12_go_69 ⟨Nat.le_of_ble_eq_true rfl, Nat.le_of_ble_eq_true rfl⟩) hS (fun G_31 H locs hpo hW hS => ?_)
          have hX_34 : Q_act G_24 G_31 := hpo
          obtain ⟨hB_G_31, hq_32, hp_33, -⟩ := hpo
          have hF := hF.call9 hq_32 rfl rfl
          refine lv_aload_n hx hb dX12_go_72 rfl (lv_at hl 1 rfl) ?_
          refine lv_iload_n hx hb dX12_go_73 rfl (lv_at hl 0 rfl) ?_
          refine lv_aload_n hx hb dX12_go_74 rfl (lv_at hl 1 rfl) ?_
          refine S_getR (n := 110) (C := RX12) (T := TX12) (N := 89) hx hb hg iX12 hown hK hW kd_66 rfl 76 (lt_b rfl) (hg (Cond.fieldLink RX12 151 "SlabWalkModel" "now" "[I") m1390) (fun _ h9 => h9) rfl dX12_go_75 ?_
          refine ic_1 hx hb dX12_go_78 ?_
          refine S_iald hx hb hK hW kd_110 (vin (by decide) (by decide)) dX12_go_79 (fun y_35 ey_35 => ?_)
          have ty_35 := hB_G_31.now1 110 (by decide) ey_35
          refine lv_aload_n hx hb dX12_go_80 rfl (lv_at hl 1 rfl) ?_
          refine S_getR (n := 110) (C := RX12) (T := TX12) (N := 89) hx hb hg iX12 hown hK hW kd_66 rfl 76 (lt_b rfl) (hg (Cond.fieldLink RX12 151 "SlabWalkModel" "now" "[I") m1390) (fun _ h9 => h9) rfl dX12_go_81 ?_
          refine lv_bipush (v := 8) hx hb dX12_go_84 (by decide) ?_
          refine S_iald hx hb hK hW kd_110 (vin (by decide) (by decide)) dX12_go_86 (fun y_36 ey_36 => ?_)
          have fr_37 : Fr [111] [(66, 78), (66, 79)] G G_31 := (Fr.call9 (rs := [111]) (fs := [(66, 78), (66, 79)]) (Fr.call9 (rs := [111]) (fs := [(66, 78), (66, 79)]) (Fr.call9 (rs := [111]) (fs := [(66, 78), (66, 79)]) Fr.rf hq_20 rfl rfl) hq_25 rfl rfl) hq_32 rfl rfl)
          have g_38 : gP G_31 = gP G := gP_fr fr_37 (gr_q rfl) (gf_q rfl)
          refine S_callv (va_runV (As := [.int y_7, .int y_35, .int y_36]) (rest := []) ⟨hx, hb, hml, hown, hts⟩ (n_layStreet l D k A a z G_31 y_7 y_35 y_36 ⟨(by first | exact ok_992 c_2 u_8 | omega), (by first | (clear hP9 hac hsl c_6 hp_33 g_38; omega) | omega)⟩ ⟨(by first | (clear hP9 hac hsl c_2 c_6 u_8 ty_9 u_10 f_22 f_28 d_1 d_2 c_29 hp_33 g_38; omega) | omega), (by first | (clear hP9 hac hsl c_2 c_6 u_8 ty_9 u_10 f_22 f_28 d_1 d_2 c_29 hp_33 g_38; omega) | omega)⟩ ((by first | exact ok_796 hP9 g_38 | omega))) (cwV 3 hts (gd_V hgd m1834 m1836 m91 m131 m1837) rfl rfl rfl hd_X12_layStreet ⟨Nat.le_of_ble_eq_true rfl, Nat.le_of_ble_eq_true rfl⟩) (pre_W hW hB_G_31 hK hZ hS kd_66 rfl) rfl rfl hl.1 rfl (lv_room (Nat.le_of_ble_eq_true rfl)) dX12_go_87 ⟨Nat.le_of_ble_eq_true rfl, Nat.le_of_ble_eq_true rfl⟩) hS (fun G_40 H locs hpo hW hS => ?_)
          have hX_43 : Q_layStreet y_7 y_35 y_36 G_31 G_40 := hpo
          obtain ⟨hB_G_40, hq_41, ⟨d_3, d_4, d_5, d_6, d_7, d_8⟩, -⟩ := hpo
          have hF := hF.call9 hq_41 rfl rfl
          refine lv_aload_n hx hb dX12_go_90 rfl (lv_at hl 1 rfl) ?_
          refine S_getR (n := 110) (C := RX12) (T := TX12) (N := 89) hx hb hg iX12 hown hK hW kd_66 rfl 76 (lt_b rfl) (hg (Cond.fieldLink RX12 151 "SlabWalkModel" "now" "[I") m1390) (fun _ h9 => h9) rfl dX12_go_91 ?_
          refine lv_bipush (v := 7) hx hb dX12_go_94 (by decide) ?_
          refine lv_aload_n hx hb dX12_go_96 rfl (lv_at hl 1 rfl) ?_
          refine S_getR (n := 110) (C := RX12) (T := TX12) (N := 89) hx hb hg iX12 hown hK hW kd_66 rfl 76 (lt_b rfl) (hg (Cond.fieldLink RX12 151 "SlabWalkModel" "now" "[I") m1390) (fun _ h9 => h9) rfl dX12_go_97 ?_
          refine lv_bipush (v := 7) hx hb dX12_go_100 (by decide) ?_
          refine S_iald hx hb hK hW kd_110 (vin (by decide) (by decide)) dX12_go_102 (fun y_44 ey_44 => ?_)
          refine lv_sipush (v := 137) hx hb dX12_go_103 (by decide) ?_
          refine lv_imul hx hb dX12_go_106 ?_
          refine lv_topi (fun y_45 ey_45 => ?_)
          refine lv_bipush (v := 71) hx hb dX12_go_107 (by decide) ?_
          refine lv_iadd hx hb dX12_go_109 ?_
          refine lv_topi (fun y_46 ey_46 => ?_)
          refine lv_sipush (v := 1000) hx hb dX12_go_110 (by decide) ?_
          refine lv_irem hx hb dX12_go_113 (by decide) ?_
          refine lv_topi (fun y_47 ey_47 => ?_)
          refine S_iast hx hb hK hW hS kd_110 (vin (by decide) (by decide)) dX12_go_114 (fun G_48 H locs eG_48 hW hS => ?_)
          have qc_49 : (7 : Int32).toInt = 7 := rfl
          have hB_G_48 : Bd G_48 := hB_G_40.putNow 110 (by decide) eG_48 (by first | (clear hP9 hac hsl c_2 c_6 u_8 ty_9 u_10 f_22 f_28 d_1 d_2 c_29 hp_33 g_38 d_3 d_4 d_5 d_6 d_7 d_8; omega) | omega) (by first | (clear hP9 hac hsl c_2 c_6 u_8 ty_9 u_10 f_22 f_28 d_1 d_2 c_29 hp_33 g_38 d_3 d_4 d_5 d_6 d_7 d_8; omega) | omega) (by first | (clear hP9 hac hsl c_2 c_6 u_8 ty_9 u_10 f_22 f_28 d_1 d_2 c_29 hp_33 g_38 d_3 d_4 d_5 d_6 d_7 d_8; omega) | omega) rfl
          have hF := hF.put eG_48 (Or.inl (by decide))
          refine lv_aload_n hx hb dX12_go_115 rfl (lv_at hl 1 rfl) ?_
          refine S_getR (n := 110) (C := RX12) (T := TX12) (N := 89) hx hb hg iX12 hown hK hW kd_66 rfl 76 (lt_b rfl) (hg (Cond.fieldLink RX12 151 "SlabWalkModel" "now" "[I") m1390) (fun _ h9 => h9) rfl dX12_go_116 ?_
          refine lv_bipush (v := 7) hx hb dX12_go_119 (by decide) ?_
          refine S_iald hx hb hK hW kd_110 (vin (by decide) (by decide)) dX12_go_121 (fun y_50 ey_50 => ?_)
          have u_51 : y_50.toInt = y_47.toInt := congrArg Int32.toInt (ey_50.trans ((gp_eq eG_48)))
          refine lv_aload_n hx hb dX12_go_122 rfl (lv_at hl 1 rfl) ?_
          have b_52 : 0 ≤ (G.1 96 0).toInt ∧ (G.1 96 0).toInt ≤ 9 := bd_96_0 hB_G
          have g_53 : (G_48.1 96 0).toInt = (G.1 96 0).toInt := (congrArg Int32.toInt (show G_48.1 96 0 = (G.1 96 0) from ((gp_ne eG_48 (fun q => absurd q.1 (Nat.ne_of_beq_eq_false rfl))).trans ((hq_41.i9 96 0 rfl rfl).trans ((hq_32.i9 96 0 rfl rfl).trans ((hq_25.i9 96 0 rfl rfl).trans (hq_20.i9 96 0 rfl rfl)))))))
          have b_54 : 0 ≤ (G.1 96 1).toInt ∧ (G.1 96 1).toInt ≤ 9 := bd_96_1 hB_G
          have g_55 : (G_48.1 96 1).toInt = (G.1 96 1).toInt := (congrArg Int32.toInt (show G_48.1 96 1 = (G.1 96 1) from ((gp_ne eG_48 (fun q => absurd q.1 (Nat.ne_of_beq_eq_false rfl))).trans ((hq_41.i9 96 1 rfl rfl).trans ((hq_32.i9 96 1 rfl rfl).trans ((hq_25.i9 96 1 rfl rfl).trans (hq_20.i9 96 1 rfl rfl)))))))
          have b_56 : 0 ≤ (G.1 96 2).toInt ∧ (G.1 96 2).toInt ≤ 9 := bd_96_2 hB_G
          have g_57 : (G_48.1 96 2).toInt = (G.1 96 2).toInt := (congrArg Int32.toInt (show G_48.1 96 2 = (G.1 96 2) from ((gp_ne eG_48 (fun q => absurd q.1 (Nat.ne_of_beq_eq_false rfl))).trans ((hq_41.i9 96 2 rfl rfl).trans ((hq_32.i9 96 2 rfl rfl).trans ((hq_25.i9 96 2 rfl rfl).trans (hq_20.i9 96 2 rfl rfl)))))))
          refine S_calli (va_runV (As := []) (rest := [.int y_50]) ⟨hx, hb, hml, hown, hts⟩ (n_allSlips l D k A a z G_48  ) (cwV 0 hts (gd_V hgd m1955 m1957 m106 m131 m1958) rfl rfl rfl hd_X12_allSlips ⟨Nat.le_of_ble_eq_true rfl, Nat.le_of_ble_eq_true rfl⟩) (pre_W hW hB_G_48 hK hZ hS kd_66 rfl) rfl rfl hl.1 rfl (lv_room (Nat.le_of_ble_eq_true rfl)) dX12_go_123 ⟨Nat.le_of_ble_eq_true rfl, Nat.le_of_ble_eq_true rfl⟩) hS (fun r_58 G_59 H locs hpo hW hS => ?_)
          have hX_62 : Q_allSlips G_48 r_58 G_59 := hpo
          obtain ⟨hB_G_59, hq_60, f_63, hp_61, -⟩ := hpo
          have hF := hF.call9 hq_60 rfl rfl
          refine lv_irem hx hb dX12_go_126 (fun q => by have q := xI_eq (Y := 0) rfl rfl q; omega) ?_
          refine lv_topi (fun y_64 ey_64 => ?_)
          refine lv_istore_n (lv' := [(3, .int y_64), (2, .int y_7), (0, .ref (a 66)), (1, .int p0)]) hx hb dX12_go_127 rfl hl (lt_b rfl) rfl (fun ls hl => ?_)
          refine lv_aload_n hx hb dX12_go_128 rfl (lv_at hl 2 rfl) ?_
          refine S_getR (n := 110) (C := RX12) (T := TX12) (N := 89) hx hb hg iX12 hown hK hW kd_66 rfl 76 (lt_b rfl) (hg (Cond.fieldLink RX12 151 "SlabWalkModel" "now" "[I") m1390) (fun _ h9 => h9) rfl dX12_go_129 ?_
          refine ic_2 hx hb dX12_go_132 ?_
          refine S_iald hx hb hK hW kd_110 (vin (by decide) (by decide)) dX12_go_133 (fun y_65 ey_65 => ?_)
          refine lv_iload_n hx hb dX12_go_134 rfl (lv_at hl 3 rfl) ?_
          refine lv_iadd hx hb dX12_go_135 ?_
          refine lv_topi (fun y_66 ey_66 => ?_)
          refine lv_iload_n hx hb dX12_go_136 rfl (lv_at hl 0 rfl) ?_
          refine lv_aload_n hx hb dX12_go_137 rfl (lv_at hl 2 rfl) ?_
          refine S_getR (n := 96) (C := RX12) (T := TX12) (N := 89) hx hb hg iX12 hown hK hW kd_66 rfl 44 (lt_b rfl) (hg (Cond.fieldLink RX12 102 "SlabWalkModel" "slips" "[I") m1358) (fun _ h9 => h9) rfl dX12_go_138 ?_
          refine ic_0 hx hb dX12_go_141 ?_
          refine S_iald hx hb hK hW kd_96 (vin (by decide) (by decide)) dX12_go_142 (fun y_67 ey_67 => ?_)
          have ty_67 : 0 ≤ y_67.toInt ∧ y_67.toInt ≤ 9 := bv_96 hB_G_59 ey_67
          have u_68 : y_67.toInt = (G.1 96 0).toInt := congrArg Int32.toInt (ey_67.trans (((hq_60.i9 96 0 rfl rfl).trans ((gp_ne eG_48 (fun q => absurd q.1 (Nat.ne_of_beq_eq_false rfl))).trans ((hq_41.i9 96 0 rfl rfl).trans ((hq_32.i9 96 0 rfl rfl).trans ((hq_25.i9 96 0 rfl rfl).trans ((hq_20.i9 96 0 rfl rfl).trans (rfl)))))))))
          refine W.cut (σ := Int32) (pcJ := 195) (J := fun y H locs ls => ∃ (G_74 : GS) (x_69 : Int32), (0 ≤ y.toInt ∧ y.toInt ≤ 1) ∧ Jn_n_go_2 p0 y_7 y_64 y_66 y_67 G_59 x_69 y G_74 ∧ Wd D k A a G_74 H ∧ Bd G_74 ∧ Fr [110, 111, 76, 97, 98] [(66, 59), (66, 60), (66, 61), (66, 62), (66, 63), (66, 78), (66, 79)] G G_74 ∧ Fr [] [] G_59 G_74 ∧ va_S A s.heap H locs ∧ lv_has ls 5 [(4, .int x_69), (0, .ref (a 66))]) (stJ := fun y => [.int y, .int 5, .ref (a 110)]) ?_ (fun hJ_75 => ?_)
          · intro y H locs ls hI
            obtain ⟨w_71, hy⟩ : ∃ q, q = y := ⟨_, rfl⟩
            subst hy
            obtain ⟨G_74, x_69, f_78, hX_77, hW, hB_G_74, hF, hq_76, hS, hl⟩ := hI
            refine S_calli (va_runS (As := [.int w_71]) (rest := [.int 5, .ref (a 110)]) ⟨hx, hb, hml, hown, hts⟩ (n_truth l D k A a z G_74 w_71 ⟨(by first | exact f_78.1 | omega), (by first | exact f_78.2 | omega)⟩) (va_cwS 1 hts (gd_S hgd m1788 m1789 m131 m1790) rfl rfl rfl hd_X12_truth.2 ⟨Nat.le_of_ble_eq_true rfl, Nat.le_of_ble_eq_true rfl⟩) (pre_S hW hB_G_74 hK hZ hS) rfl rfl hl.1 rfl (lv_room (Nat.le_of_ble_eq_true rfl)) dX12_go_195 ⟨Nat.le_of_ble_eq_true rfl, Nat.le_of_ble_eq_true rfl⟩) hS (fun r_79 G_80 H locs hpo hW hS => ?_)
            have hX_83 : Q_truth w_71 G_74 r_79 G_80 := hpo
            obtain ⟨hB_G_80, hq_81, f_84, hp_82, -⟩ := hpo
            have hF := hF.call9 hq_81 rfl rfl
            refine S_iast hx hb hK hW hS kd_110 (vin (by decide) (by decide)) dX12_go_198 (fun G_85 H locs eG_85 hW hS => ?_)
            have qc_86 : (5 : Int32).toInt = 5 := rfl
            have hB_G_85 : Bd G_85 := hB_G_80.putNow 110 (by decide) eG_85 (by first | (clear hP9 hac hsl c_2 c_6 u_8 ty_9 u_10 f_22 f_28 d_1 d_2 c_29 hp_33 g_38 d_3 d_4 d_5 d_6 d_7 d_8 u_51 b_52 g_53 b_54 g_55 b_56 g_57 f_63 hp_61 ty_67 u_68; omega) | omega) (by first | (clear hP9 hac hsl c_2 c_6 u_8 ty_9 u_10 f_22 f_28 d_1 d_2 c_29 hp_33 g_38 d_3 d_4 d_5 d_6 d_7 d_8 u_51 b_52 g_53 b_54 g_55 b_56 g_57 f_63 hp_61 ty_67 u_68; omega) | omega) (by first | (clear hP9 hac hsl c_2 c_6 u_8 ty_9 u_10 f_22 f_28 d_1 d_2 c_29 hp_33 g_38 d_3 d_4 d_5 d_6 d_7 d_8 u_51 b_52 g_53 b_54 g_55 b_56 g_57 f_63 hp_61 ty_67 u_68; omega) | omega) rfl
            have hF := hF.put eG_85 (Or.inl (by decide))
            refine lv_aload_n hx hb dX12_go_199 rfl (lv_at hl 1 rfl) ?_
            refine lv_iload hx hb dX12_go_200 (lv_at hl 0 rfl) ?_
            have b_87 : 0 ≤ (G_40.1 66 59).toInt ∧ (G_40.1 66 59).toInt ≤ 400 := bd_66_59 hB_G_40
            have g_88 : (G_85.1 66 59).toInt = (G_40.1 66 59).toInt := (congrArg Int32.toInt (show G_85.1 66 59 = (G_40.1 66 59) from ((gp_ne eG_85 (fun q => absurd q.1 (Nat.ne_of_beq_eq_false rfl))).trans ((hq_81.i9 66 59 rfl rfl).trans ((hq_76.i9 66 59 rfl rfl).trans ((hq_60.i9 66 59 rfl rfl).trans (gp_ne eG_48 (fun q => absurd q.1 (Nat.ne_of_beq_eq_false rfl)))))))))
            have b_89 : 0 ≤ (G_40.1 66 60).toInt ∧ (G_40.1 66 60).toInt ≤ 12 := bd_66_60 hB_G_40
            have g_90 : (G_85.1 66 60).toInt = (G_40.1 66 60).toInt := (congrArg Int32.toInt (show G_85.1 66 60 = (G_40.1 66 60) from ((gp_ne eG_85 (fun q => absurd q.1 (Nat.ne_of_beq_eq_false rfl))).trans ((hq_81.i9 66 60 rfl rfl).trans ((hq_76.i9 66 60 rfl rfl).trans ((hq_60.i9 66 60 rfl rfl).trans (gp_ne eG_48 (fun q => absurd q.1 (Nat.ne_of_beq_eq_false rfl)))))))))
            refine S_calli (va_runV (As := [.int x_69]) (rest := []) ⟨hx, hb, hml, hown, hts⟩ (n_stands1 l D k A a z G_85 x_69 ) (cwV 1 hts (gd_V hgd m1838 m1840 m92 m131 m1841) rfl rfl rfl hd_X12_doesStand ⟨Nat.le_of_ble_eq_true rfl, Nat.le_of_ble_eq_true rfl⟩) (pre_W hW hB_G_85 hK hZ hS kd_66 rfl) rfl rfl hl.1 rfl (lv_room (Nat.le_of_ble_eq_true rfl)) dX12_go_202 ⟨Nat.le_of_ble_eq_true rfl, Nat.le_of_ble_eq_true rfl⟩) hS (fun r_91 G_92 H locs hpo hW hS => ?_)
            have hX_95 : Q_stands1 x_69 G_85 r_91 G_92 := hpo
            obtain ⟨hB_G_92, hq_93, f_96, ⟨d_9, d_10⟩, -⟩ := hpo
            have hF := hF.call9 hq_93 rfl rfl
            refine lv_if_ne (tgt := 217) hx hb dX12_go_205 rfl (fun c_97 => ?_) (fun c_97 => ?_)
            · have c_97 : r_91.toInt ≠ 0 := xI_ne rfl rfl c_97
              refine lv_aload_n hx hb dX12_go_217 rfl (lv_at hl 1 rfl) ?_
              refine S_getR (n := 110) (C := RX12) (T := TX12) (N := 89) hx hb hg iX12 hown hK hW kd_66 rfl 76 (lt_b rfl) (hg (Cond.fieldLink RX12 151 "SlabWalkModel" "now" "[I") m1390) (fun _ h9 => h9) rfl dX12_go_218 ?_
              refine ic_2 hx hb dX12_go_221 ?_
              refine lv_iload hx hb dX12_go_222 (lv_at hl 0 rfl) ?_
              refine S_iast hx hb hK hW hS kd_110 (vin (by decide) (by decide)) dX12_go_224 (fun G_98 H locs eG_98 hW hS => ?_)
              have qc_99 : (2 : Int32).toInt = 2 := rfl
              have hB_G_98 : Bd G_98 := hB_G_92.putNow 110 (by decide) eG_98 (by first | (clear hP9 hac hsl c_6 f_22 f_28 c_29 hp_33 g_38 u_51 b_52 g_53 b_54 g_55 b_56 g_57 f_63 hp_61 ty_67 u_68 f_78 f_84 hp_82; omega) | omega) (by first | (clear hP9 hac hsl c_6 f_22 f_28 c_29 hp_33 g_38 u_51 b_52 g_53 b_54 g_55 b_56 g_57 f_63 hp_61 ty_67 u_68 f_78 f_84 hp_82; omega) | omega) (by first | (clear hP9 hac hsl c_6 f_22 f_28 c_29 hp_33 g_38 u_51 b_52 g_53 b_54 g_55 b_56 g_57 f_63 hp_61 ty_67 u_68 f_78 f_84 hp_82; omega) | omega) rfl
              have hF := hF.put eG_98 (Or.inl (by decide))
              refine lv_aload_n hx hb dX12_go_225 rfl (lv_at hl 1 rfl) ?_
              refine S_getR (n := 110) (C := RX12) (T := TX12) (N := 89) hx hb hg iX12 hown hK hW kd_66 rfl 76 (lt_b rfl) (hg (Cond.fieldLink RX12 151 "SlabWalkModel" "now" "[I") m1390) (fun _ h9 => h9) rfl dX12_go_226 ?_
              refine ic_3 hx hb dX12_go_229 ?_
              refine lv_dup2_11 hx hb dX12_go_230 rfl rfl ?_
              refine S_iald hx hb hK hW kd_110 (vin (by decide) (by decide)) dX12_go_231 (fun y_100 ey_100 => ?_)
              refine ic_1 hx hb dX12_go_232 ?_
              refine lv_iadd hx hb dX12_go_233 ?_
              refine lv_topi (fun y_101 ey_101 => ?_)
              refine S_iast hx hb hK hW hS kd_110 (vin (by decide) (by decide)) dX12_go_234 (fun G_102 H locs eG_102 hW hS => ?_)
              have qc_103 : (3 : Int32).toInt = 3 := rfl
              have hB_G_102 : Bd G_102 := hB_G_98.putNow 110 (by decide) eG_102 (by first | (clear hP9 hac hsl c_2 c_6 u_8 ty_9 u_10 f_22 f_28 d_1 d_2 c_29 hp_33 g_38 d_3 d_4 d_5 d_6 d_7 d_8 u_51 b_52 g_53 b_54 g_55 b_56 g_57 f_63 hp_61 ty_67 u_68 f_78 f_84 hp_82 b_87 g_88 b_89 g_90 f_96 d_9 d_10 c_97; omega) | omega) (by first | (clear hP9 hac hsl c_2 c_6 u_8 ty_9 u_10 f_22 f_28 d_1 d_2 c_29 hp_33 g_38 d_3 d_4 d_5 d_6 d_7 d_8 u_51 b_52 g_53 b_54 g_55 b_56 g_57 f_63 hp_61 ty_67 u_68 f_78 f_84 hp_82 b_87 g_88 b_89 g_90 f_96 d_9 d_10 c_97; omega) | omega) (by first | (clear hP9 hac hsl c_2 c_6 u_8 ty_9 u_10 f_22 f_28 d_1 d_2 c_29 hp_33 g_38 d_3 d_4 d_5 d_6 d_7 d_8 u_51 b_52 g_53 b_54 g_55 b_56 g_57 f_63 hp_61 ty_67 u_68 f_78 f_84 hp_82 b_87 g_88 b_89 g_90 f_96 d_9 d_10 c_97; omega) | omega) rfl
              have hF := hF.put eG_102 (Or.inl (by decide))
              refine lv_aload_n hx hb dX12_go_235 rfl (lv_at hl 1 rfl) ?_
              refine S_getR (n := 110) (C := RX12) (T := TX12) (N := 89) hx hb hg iX12 hown hK hW kd_66 rfl 76 (lt_b rfl) (hg (Cond.fieldLink RX12 151 "SlabWalkModel" "now" "[I") m1390) (fun _ h9 => h9) rfl dX12_go_236 ?_
              refine ic_4 hx hb dX12_go_239 ?_
              refine lv_aload_n hx hb dX12_go_240 rfl (lv_at hl 1 rfl) ?_
              refine lv_iload hx hb dX12_go_241 (lv_at hl 0 rfl) ?_
              refine S_calli (va_runV (As := [.int x_69]) (rest := [.int 4, .ref (a 110)]) ⟨hx, hb, hml, hown, hts⟩ (n_stands l D k A a z G_102 x_69 ⟨(by first | exact ok_1152 f_96.1 f_96.2 d_9 c_97 | omega), (by first | exact ok_1154 b_87.2 g_88 b_89.1 g_90 f_96.1 f_96.2 d_9 c_97 | omega)⟩) (cwV 1 hts (gd_V hgd m1995 m1997 m112 m131 m1998) rfl rfl rfl hd_X12_stands ⟨Nat.le_of_ble_eq_true rfl, Nat.le_of_ble_eq_true rfl⟩) (pre_W hW hB_G_102 hK hZ hS kd_66 rfl) rfl rfl hl.1 rfl (lv_room (Nat.le_of_ble_eq_true rfl)) dX12_go_243 ⟨Nat.le_of_ble_eq_true rfl, Nat.le_of_ble_eq_true rfl⟩) hS (fun r_104 G_105 H locs hpo hW hS => ?_)
              have hX_108 : Q_stands x_69 G_102 r_104 G_105 := hpo
              obtain ⟨hB_G_105, hq_106, f_109, -⟩ := hpo
              have hF := hF.call9 hq_106 rfl rfl
              refine S_iast hx hb hK hW hS kd_110 (vin (by decide) (by decide)) dX12_go_246 (fun G_110 H locs eG_110 hW hS => ?_)
              have qc_111 : (4 : Int32).toInt = 4 := rfl
              have hB_G_110 : Bd G_110 := hB_G_105.putNow 110 (by decide) eG_110 (by first | (clear hP9 hac hsl c_2 c_6 u_8 ty_9 u_10 f_22 f_28 d_1 d_2 c_29 hp_33 g_38 d_3 d_4 d_5 d_6 d_7 d_8 u_51 b_52 g_53 b_54 g_55 b_56 g_57 f_63 hp_61 ty_67 u_68 f_78 f_84 hp_82 b_87 g_88 b_89 g_90 f_96 d_9 d_10 c_97; omega) | omega) (by first | (clear hP9 hac hsl c_2 c_6 u_8 ty_9 u_10 f_22 f_28 d_1 d_2 c_29 hp_33 g_38 d_3 d_4 d_5 d_6 d_7 d_8 u_51 b_52 g_53 b_54 g_55 b_56 g_57 f_63 hp_61 ty_67 u_68 f_78 f_84 hp_82 b_87 g_88 b_89 g_90 f_96 d_9 d_10 c_97; omega) | omega) (by first | (clear hP9 hac hsl c_2 c_6 u_8 ty_9 u_10 f_22 f_28 d_1 d_2 c_29 hp_33 g_38 d_3 d_4 d_5 d_6 d_7 d_8 u_51 b_52 g_53 b_54 g_55 b_56 g_57 f_63 hp_61 ty_67 u_68 f_78 f_84 hp_82 b_87 g_88 b_89 g_90 f_96 d_9 d_10 c_97; omega) | omega) rfl
              have hF := hF.put eG_110 (Or.inl (by decide))
              refine lv_aload_n hx hb dX12_go_247 rfl (lv_at hl 1 rfl) ?_
              refine S_getR (n := 110) (C := RX12) (T := TX12) (N := 89) hx hb hg iX12 hown hK hW kd_66 rfl 76 (lt_b rfl) (hg (Cond.fieldLink RX12 151 "SlabWalkModel" "now" "[I") m1390) (fun _ h9 => h9) rfl dX12_go_248 ?_
              refine ic_4 hx hb dX12_go_251 ?_
              refine S_iald hx hb hK hW kd_110 (vin (by decide) (by decide)) dX12_go_252 (fun y_112 ey_112 => ?_)
              have u_113 : y_112.toInt = r_104.toInt := congrArg Int32.toInt (ey_112.trans ((gp_eq eG_110)))
              have b_114 : 0 ≤ (G_31.1 66 78).toInt ∧ (G_31.1 66 78).toInt ≤ 40 := bd_66_78 hB_G_31
              have g_115 : (G_110.1 66 78).toInt = (G_31.1 66 78).toInt := (congrArg Int32.toInt (show G_110.1 66 78 = (G_31.1 66 78) from ((gp_ne eG_110 (fun q => absurd q.1 (Nat.ne_of_beq_eq_false rfl))).trans ((hq_106.i9 66 78 rfl rfl).trans ((gp_ne eG_102 (fun q => absurd q.1 (Nat.ne_of_beq_eq_false rfl))).trans ((gp_ne eG_98 (fun q => absurd q.1 (Nat.ne_of_beq_eq_false rfl))).trans ((hq_93.i9 66 78 rfl rfl).trans ((gp_ne eG_85 (fun q => absurd q.1 (Nat.ne_of_beq_eq_false rfl))).trans ((hq_81.i9 66 78 rfl rfl).trans ((hq_76.i9 66 78 rfl rfl).trans ((hq_60.i9 66 78 rfl rfl).trans ((gp_ne eG_48 (fun q => absurd q.1 (Nat.ne_of_beq_eq_false rfl))).trans (hq_41.i9 66 78 rfl rfl)))))))))))))
              have b_116 : 0 ≤ (G_31.1 66 79).toInt ∧ (G_31.1 66 79).toInt ≤ 40 := bd_66_79 hB_G_31
              have g_117 : (G_110.1 66 79).toInt = (G_31.1 66 79).toInt := (congrArg Int32.toInt (show G_110.1 66 79 = (G_31.1 66 79) from ((gp_ne eG_110 (fun q => absurd q.1 (Nat.ne_of_beq_eq_false rfl))).trans ((hq_106.i9 66 79 rfl rfl).trans ((gp_ne eG_102 (fun q => absurd q.1 (Nat.ne_of_beq_eq_false rfl))).trans ((gp_ne eG_98 (fun q => absurd q.1 (Nat.ne_of_beq_eq_false rfl))).trans ((hq_93.i9 66 79 rfl rfl).trans ((gp_ne eG_85 (fun q => absurd q.1 (Nat.ne_of_beq_eq_false rfl))).trans ((hq_81.i9 66 79 rfl rfl).trans ((hq_76.i9 66 79 rfl rfl).trans ((hq_60.i9 66 79 rfl rfl).trans ((gp_ne eG_48 (fun q => absurd q.1 (Nat.ne_of_beq_eq_false rfl))).trans (hq_41.i9 66 79 rfl rfl)))))))))))))
              exact W.iret (v := y_112) hx hb hr (fun t ht _ => ⟨⟨y_112, G_110, rfl, (Q_go_mk ⟨hB_G_110, hF, ((by first | exact ok_504 hp_33.1 g_115 g_117 | omega)), ⟨y_1, ey_1, (Or.inr ⟨c_2, ⟨y_5, ey_5, (Or.inl ⟨c_6, ⟨y_7, ey_7, ⟨y_9, ey_9, ⟨y_11, ey_11, ⟨w_15, G_18, hX_21, f_22, hB_G_18, hq_20, ⟨r_23, G_24, hX_27, (Or.inr ⟨c_29, ⟨G_31, hX_34, ⟨y_35, ey_35, ⟨y_36, ey_36, ⟨G_40, hX_43, ⟨y_44, ey_44, ⟨y_45, ey_45, ⟨y_46, ey_46, ⟨y_47, ey_47, ⟨y_50, ey_50.trans (congrFun (rw_ast eG_48) _), ⟨G_48, hB_G_48, (Fr.put (rs := [110]) (fs := []) Fr.rf eG_48 (Or.inl (by decide))), rw_ast eG_48, ⟨r_58, G_59, hX_62, ⟨y_64, ey_64, ⟨y_65, ey_65, ⟨y_66, ey_66, ⟨y_67, ey_67, ⟨x_69, w_71, G_74, hX_77, f_78, hB_G_74, hq_76, ⟨r_79, G_80, hX_83, ⟨G_85, hB_G_85, (Fr.put (rs := [110]) (fs := []) Fr.rf eG_85 (Or.inl (by decide))), rw_ast eG_85, ⟨r_91, G_92, hX_95, (Or.inr ⟨c_97, ⟨y_100, ey_100.trans (congrFun (rw_ast eG_98) _), ⟨y_101, ey_101, ⟨G_102, hB_G_102, (Fr.put (rs := [110]) (fs := []) (Fr.put (rs := [110]) (fs := []) Fr.rf eG_98 (Or.inl (by decide))) eG_102 (Or.inl (by decide))), (rw_ast eG_102).trans (congrArg (fun q => upd q ((3 : Int32).toNatClampNeg) y_101) (rw_ast eG_98)), ⟨r_104, G_105, hX_108, ⟨y_112, ey_112.trans (congrFun (rw_ast eG_110) _), ⟨rfl, (Fr.put (rs := [110]) (fs := []) Fr.rf eG_110 (Or.inl (by decide))), rw_ast eG_110⟩⟩⟩⟩⟩⟩⟩)⟩⟩⟩⟩⟩⟩⟩⟩⟩⟩⟩⟩⟩⟩⟩⟩⟩⟩⟩⟩)⟩⟩⟩⟩⟩⟩)⟩⟩)⟩⟩), wd_t ht hW⟩, hS.F ht⟩) hS.2.2 dX12_go_253
            · have c_97 : r_91.toInt = 0 := xI_eq rfl rfl c_97
              refine lv_aload_n hx hb dX12_go_208 rfl (lv_at hl 1 rfl) ?_
              refine S_getR (n := 110) (C := RX12) (T := TX12) (N := 89) hx hb hg iX12 hown hK hW kd_66 rfl 76 (lt_b rfl) (hg (Cond.fieldLink RX12 151 "SlabWalkModel" "now" "[I") m1390) (fun _ h9 => h9) rfl dX12_go_209 ?_
              refine ic_4 hx hb dX12_go_212 ?_
              refine ic_2 hx hb dX12_go_213 ?_
              refine S_iast hx hb hK hW hS kd_110 (vin (by decide) (by decide)) dX12_go_214 (fun G_118 H locs eG_118 hW hS => ?_)
              have qc_119 : (2 : Int32).toInt = 2 := rfl
              have qc_120 : (4 : Int32).toInt = 4 := rfl
              have hB_G_118 : Bd G_118 := hB_G_92.putNow 110 (by decide) eG_118 (by omega) (by omega) (by omega) rfl
              have hF := hF.put eG_118 (Or.inl (by decide))
              refine ic_2 hx hb dX12_go_215 ?_
              have b_121 : 0 ≤ (G_31.1 66 78).toInt ∧ (G_31.1 66 78).toInt ≤ 40 := bd_66_78 hB_G_31
              have g_122 : (G_118.1 66 78).toInt = (G_31.1 66 78).toInt := (congrArg Int32.toInt (show G_118.1 66 78 = (G_31.1 66 78) from ((gp_ne eG_118 (fun q => absurd q.1 (Nat.ne_of_beq_eq_false rfl))).trans ((hq_93.i9 66 78 rfl rfl).trans ((gp_ne eG_85 (fun q => absurd q.1 (Nat.ne_of_beq_eq_false rfl))).trans ((hq_81.i9 66 78 rfl rfl).trans ((hq_76.i9 66 78 rfl rfl).trans ((hq_60.i9 66 78 rfl rfl).trans ((gp_ne eG_48 (fun q => absurd q.1 (Nat.ne_of_beq_eq_false rfl))).trans (hq_41.i9 66 78 rfl rfl))))))))))
              have b_123 : 0 ≤ (G_31.1 66 79).toInt ∧ (G_31.1 66 79).toInt ≤ 40 := bd_66_79 hB_G_31
              have g_124 : (G_118.1 66 79).toInt = (G_31.1 66 79).toInt := (congrArg Int32.toInt (show G_118.1 66 79 = (G_31.1 66 79) from ((gp_ne eG_118 (fun q => absurd q.1 (Nat.ne_of_beq_eq_false rfl))).trans ((hq_93.i9 66 79 rfl rfl).trans ((gp_ne eG_85 (fun q => absurd q.1 (Nat.ne_of_beq_eq_false rfl))).trans ((hq_81.i9 66 79 rfl rfl).trans ((hq_76.i9 66 79 rfl rfl).trans ((hq_60.i9 66 79 rfl rfl).trans ((gp_ne eG_48 (fun q => absurd q.1 (Nat.ne_of_beq_eq_false rfl))).trans (hq_41.i9 66 79 rfl rfl))))))))))
              exact W.iret (v := 2) hx hb hr (fun t ht _ => ⟨⟨2, G_118, rfl, (Q_go_mk ⟨hB_G_118, hF, (by have hq : (2 : Int32).toInt = 2 := rfl; (try dsimp only); omega), ⟨y_1, ey_1, (Or.inr ⟨c_2, ⟨y_5, ey_5, (Or.inl ⟨c_6, ⟨y_7, ey_7, ⟨y_9, ey_9, ⟨y_11, ey_11, ⟨w_15, G_18, hX_21, f_22, hB_G_18, hq_20, ⟨r_23, G_24, hX_27, (Or.inr ⟨c_29, ⟨G_31, hX_34, ⟨y_35, ey_35, ⟨y_36, ey_36, ⟨G_40, hX_43, ⟨y_44, ey_44, ⟨y_45, ey_45, ⟨y_46, ey_46, ⟨y_47, ey_47, ⟨y_50, ey_50.trans (congrFun (rw_ast eG_48) _), ⟨G_48, hB_G_48, (Fr.put (rs := [110]) (fs := []) Fr.rf eG_48 (Or.inl (by decide))), rw_ast eG_48, ⟨r_58, G_59, hX_62, ⟨y_64, ey_64, ⟨y_65, ey_65, ⟨y_66, ey_66, ⟨y_67, ey_67, ⟨x_69, w_71, G_74, hX_77, f_78, hB_G_74, hq_76, ⟨r_79, G_80, hX_83, ⟨G_85, hB_G_85, (Fr.put (rs := [110]) (fs := []) Fr.rf eG_85 (Or.inl (by decide))), rw_ast eG_85, ⟨r_91, G_92, hX_95, (Or.inl ⟨c_97, ⟨rfl, (Fr.put (rs := [110]) (fs := []) Fr.rf eG_118 (Or.inl (by decide))), rw_ast eG_118⟩⟩)⟩⟩⟩⟩⟩⟩⟩⟩⟩⟩⟩⟩⟩⟩⟩⟩⟩⟩⟩⟩)⟩⟩⟩⟩⟩⟩)⟩⟩)⟩⟩), wd_t ht hW⟩, hS.F ht⟩) hS.2.2 dX12_go_216
          refine lv_icmp_ge (tgt := 150) hx hb dX12_go_143 rfl (fun c_125 => ?_) (fun c_125 => ?_)
          · have c_125 : y_67.toInt ≤ y_64.toInt := xI_le rfl rfl c_125
            refine lv_iload_n hx hb dX12_go_150 rfl (lv_at hl 0 rfl) ?_
            refine lv_aload_n hx hb dX12_go_151 rfl (lv_at hl 2 rfl) ?_
            refine S_getR (n := 96) (C := RX12) (T := TX12) (N := 89) hx hb hg iX12 hown hK hW kd_66 rfl 44 (lt_b rfl) (hg (Cond.fieldLink RX12 102 "SlabWalkModel" "slips" "[I") m1358) (fun _ h9 => h9) rfl dX12_go_152 ?_
            refine ic_0 hx hb dX12_go_155 ?_
            refine S_iald hx hb hK hW kd_96 (vin (by decide) (by decide)) dX12_go_156 (fun y_126 ey_126 => ?_)
            have ty_126 : 0 ≤ y_126.toInt ∧ y_126.toInt ≤ 9 := bv_96 hB_G_59 ey_126
            have u_127 : y_126.toInt = y_67.toInt := congrArg Int32.toInt (ey_126.trans (ey_67.symm))
            refine lv_aload_n hx hb dX12_go_157 rfl (lv_at hl 2 rfl) ?_
            refine S_getR (n := 96) (C := RX12) (T := TX12) (N := 89) hx hb hg iX12 hown hK hW kd_66 rfl 44 (lt_b rfl) (hg (Cond.fieldLink RX12 102 "SlabWalkModel" "slips" "[I") m1358) (fun _ h9 => h9) rfl dX12_go_158 ?_
            refine ic_1 hx hb dX12_go_161 ?_
            refine S_iald hx hb hK hW kd_96 (vin (by decide) (by decide)) dX12_go_162 (fun y_128 ey_128 => ?_)
            have ty_128 : 0 ≤ y_128.toInt ∧ y_128.toInt ≤ 9 := bv_96 hB_G_59 ey_128
            have u_129 : y_128.toInt = (G.1 96 1).toInt := congrArg Int32.toInt (ey_128.trans (((hq_60.i9 96 1 rfl rfl).trans ((gp_ne eG_48 (fun q => absurd q.1 (Nat.ne_of_beq_eq_false rfl))).trans ((hq_41.i9 96 1 rfl rfl).trans ((hq_32.i9 96 1 rfl rfl).trans ((hq_25.i9 96 1 rfl rfl).trans ((hq_20.i9 96 1 rfl rfl).trans (rfl)))))))))
            refine lv_iadd hx hb dX12_go_163 ?_
            refine lv_topi (fun y_130 ey_130 => ?_)
            have ty_130 : y_130.toInt = y_126.toInt + y_128.toInt := xI_add rfl rfl ey_130 ((by first | exact ok_15 ty_126.1 ty_128.1 | omega)) ((by first | exact ok_16 ty_126.2 ty_128.2 | omega))
            refine lv_icmp_ge (tgt := 171) hx hb dX12_go_164 rfl (fun c_131 => ?_) (fun c_131 => ?_)
            · have c_131 : y_130.toInt ≤ y_64.toInt := xI_le rfl rfl c_131
              refine ic_1 hx hb dX12_go_171 ?_
              refine lv_iadd hx hb dX12_go_172 ?_
              refine lv_topi (fun y_132 ey_132 => ?_)
              refine lv_istore (lv' := [(4, .int y_132), (3, .int y_64), (2, .int y_7), (0, .ref (a 66)), (1, .int p0)]) hx hb dX12_go_173 hl (lt_b rfl) rfl (fun ls hl => ?_)
              refine lv_aload_n hx hb dX12_go_175 rfl (lv_at hl 3 rfl) ?_
              refine S_getR (n := 110) (C := RX12) (T := TX12) (N := 89) hx hb hg iX12 hown hK hW kd_66 rfl 76 (lt_b rfl) (hg (Cond.fieldLink RX12 151 "SlabWalkModel" "now" "[I") m1390) (fun _ h9 => h9) rfl dX12_go_176 ?_
              refine ic_5 hx hb dX12_go_179 ?_
              refine lv_iload_n hx hb dX12_go_180 rfl (lv_at hl 4 rfl) ?_
              refine lv_aload_n hx hb dX12_go_181 rfl (lv_at hl 3 rfl) ?_
              refine S_getR (n := 94) (C := RX12) (T := TX12) (N := 89) hx hb hg iX12 hown hK hW kd_66 rfl 42 (lt_b rfl) (hg (Cond.fieldLink RX12 96 "SlabWalkModel" "mosts" "[I") m1356) (fun _ h9 => h9) rfl dX12_go_182 ?_
              refine lv_iload_n hx hb dX12_go_185 rfl (lv_at hl 2 rfl) ?_
              refine S_iald hx hb hK hW kd_94 (vin ((by first | exact ok_992 c_2 u_8 | omega)) ((by first | (clear hP9 hac hsl c_6 hp_33 g_38 d_3 u_51 b_52 g_53 b_54 g_55 b_56 g_57 f_63 hp_61 ty_67 u_68 c_125 ty_126 u_127 ty_128 u_129 ty_130 c_131; omega) | omega))) dX12_go_186 (fun y_133 ey_133 => ?_)
              have ty_133 : 0 ≤ y_133.toInt ∧ y_133.toInt ≤ 60 := bv_94 hB_G_59 ey_133
              have u_134 : y_133.toInt = (G.1 94 y_7.toNatClampNeg).toInt := congrArg Int32.toInt (ey_133.trans (((hq_60.ri9 94 rfl y_7.toNatClampNeg).trans ((gp_ne eG_48 (fun q => absurd q.1 (Nat.ne_of_beq_eq_false rfl))).trans ((hq_41.ri9 94 rfl y_7.toNatClampNeg).trans ((hq_32.ri9 94 rfl y_7.toNatClampNeg).trans ((hq_25.ri9 94 rfl y_7.toNatClampNeg).trans (hq_20.ri9 94 rfl y_7.toNatClampNeg))))))))
              refine lv_icmp_le (tgt := 194) hx hb dX12_go_187 rfl (fun c_135 => ?_) (fun c_135 => ?_)
              · have c_135 : p0.toInt ≤ y_133.toInt := xI_le rfl rfl c_135
                refine ic_0 hx hb dX12_go_194 ?_
                have qc_136 : (0 : Int32).toInt = 0 := rfl
                exact hJ_75 0 _ _ _ ⟨G_59, y_132, ⟨(by decide), (by decide)⟩, (Jn_n_go_2_mk (Or.inl ⟨c_125, ⟨y_126, ey_126, ⟨y_128, ey_128, ⟨y_130, ty_130, (Or.inl ⟨c_131, ⟨y_132, ey_132, ⟨y_133, ey_133, (Or.inl ⟨c_135, ⟨rfl, rfl, rfl⟩⟩)⟩⟩⟩)⟩⟩⟩⟩)), hW, hB_G_59, hF, (Fr.rf (rs := []) (fs := [])), hS, lv_sub hl [0, 3] rfl⟩
              · have c_135 : y_133.toInt < p0.toInt := xI_nle rfl rfl c_135
                refine ic_1 hx hb dX12_go_190 ?_
                refine lv_goto (tgt := 195) hx hb dX12_go_191 rfl ?_
                have qc_137 : (1 : Int32).toInt = 1 := rfl
                exact hJ_75 1 _ _ _ ⟨G_59, y_132, ⟨(by decide), (by decide)⟩, (Jn_n_go_2_mk (Or.inl ⟨c_125, ⟨y_126, ey_126, ⟨y_128, ey_128, ⟨y_130, ty_130, (Or.inl ⟨c_131, ⟨y_132, ey_132, ⟨y_133, ey_133, (Or.inr ⟨c_135, ⟨rfl, rfl, rfl⟩⟩)⟩⟩⟩)⟩⟩⟩⟩)), hW, hB_G_59, hF, (Fr.rf (rs := []) (fs := [])), hS, lv_sub hl [0, 3] rfl⟩
            · have c_131 : y_64.toInt < y_130.toInt := xI_nle rfl rfl c_131
              refine ic_0 hx hb dX12_go_167 ?_
              refine lv_goto (tgt := 172) hx hb dX12_go_168 rfl ?_
              refine lv_iadd hx hb dX12_go_172 ?_
              refine lv_topi (fun y_138 ey_138 => ?_)
              have e_139 := tI_rng y_66
              have ty_138 : y_138.toInt = y_66.toInt + 0 := xI_add rfl rfl ey_138 ((by first | exact ok_563 e_139.1 | omega)) ((by first | exact ok_564 e_139.2 | omega))
              refine lv_istore (lv' := [(4, .int y_138), (3, .int y_64), (2, .int y_7), (0, .ref (a 66)), (1, .int p0)]) hx hb dX12_go_173 hl (lt_b rfl) rfl (fun ls hl => ?_)
              refine lv_aload_n hx hb dX12_go_175 rfl (lv_at hl 3 rfl) ?_
              refine S_getR (n := 110) (C := RX12) (T := TX12) (N := 89) hx hb hg iX12 hown hK hW kd_66 rfl 76 (lt_b rfl) (hg (Cond.fieldLink RX12 151 "SlabWalkModel" "now" "[I") m1390) (fun _ h9 => h9) rfl dX12_go_176 ?_
              refine ic_5 hx hb dX12_go_179 ?_
              refine lv_iload_n hx hb dX12_go_180 rfl (lv_at hl 4 rfl) ?_
              refine lv_aload_n hx hb dX12_go_181 rfl (lv_at hl 3 rfl) ?_
              refine S_getR (n := 94) (C := RX12) (T := TX12) (N := 89) hx hb hg iX12 hown hK hW kd_66 rfl 42 (lt_b rfl) (hg (Cond.fieldLink RX12 96 "SlabWalkModel" "mosts" "[I") m1356) (fun _ h9 => h9) rfl dX12_go_182 ?_
              refine lv_iload_n hx hb dX12_go_185 rfl (lv_at hl 2 rfl) ?_
              refine S_iald hx hb hK hW kd_94 (vin ((by first | exact ok_992 c_2 u_8 | omega)) ((by first | (clear hP9 hac hsl c_6 hp_33 g_38 d_3 u_51 b_52 g_53 b_54 g_55 b_56 g_57 f_63 hp_61 ty_67 u_68 c_125 ty_126 u_127 ty_128 u_129 ty_130 c_131 e_139 ty_138; omega) | omega))) dX12_go_186 (fun y_140 ey_140 => ?_)
              have ty_140 : 0 ≤ y_140.toInt ∧ y_140.toInt ≤ 60 := bv_94 hB_G_59 ey_140
              have u_141 : y_140.toInt = (G.1 94 y_7.toNatClampNeg).toInt := congrArg Int32.toInt (ey_140.trans (((hq_60.ri9 94 rfl y_7.toNatClampNeg).trans ((gp_ne eG_48 (fun q => absurd q.1 (Nat.ne_of_beq_eq_false rfl))).trans ((hq_41.ri9 94 rfl y_7.toNatClampNeg).trans ((hq_32.ri9 94 rfl y_7.toNatClampNeg).trans ((hq_25.ri9 94 rfl y_7.toNatClampNeg).trans (hq_20.ri9 94 rfl y_7.toNatClampNeg))))))))
              refine lv_icmp_le (tgt := 194) hx hb dX12_go_187 rfl (fun c_142 => ?_) (fun c_142 => ?_)
              · have c_142 : p0.toInt ≤ y_140.toInt := xI_le rfl rfl c_142
                refine ic_0 hx hb dX12_go_194 ?_
                have qc_143 : (0 : Int32).toInt = 0 := rfl
                exact hJ_75 0 _ _ _ ⟨G_59, y_138, ⟨(by decide), (by decide)⟩, (Jn_n_go_2_mk (Or.inl ⟨c_125, ⟨y_126, ey_126, ⟨y_128, ey_128, ⟨y_130, ty_130, (Or.inr ⟨c_131, ⟨y_138, ty_138, ⟨y_140, ey_140, (Or.inl ⟨c_142, ⟨rfl, rfl, rfl⟩⟩)⟩⟩⟩)⟩⟩⟩⟩)), hW, hB_G_59, hF, (Fr.rf (rs := []) (fs := [])), hS, lv_sub hl [0, 3] rfl⟩
              · have c_142 : y_140.toInt < p0.toInt := xI_nle rfl rfl c_142
                refine ic_1 hx hb dX12_go_190 ?_
                refine lv_goto (tgt := 195) hx hb dX12_go_191 rfl ?_
                have qc_144 : (1 : Int32).toInt = 1 := rfl
                exact hJ_75 1 _ _ _ ⟨G_59, y_138, ⟨(by decide), (by decide)⟩, (Jn_n_go_2_mk (Or.inl ⟨c_125, ⟨y_126, ey_126, ⟨y_128, ey_128, ⟨y_130, ty_130, (Or.inr ⟨c_131, ⟨y_138, ty_138, ⟨y_140, ey_140, (Or.inr ⟨c_142, ⟨rfl, rfl, rfl⟩⟩)⟩⟩⟩)⟩⟩⟩⟩)), hW, hB_G_59, hF, (Fr.rf (rs := []) (fs := [])), hS, lv_sub hl [0, 3] rfl⟩
          · have c_125 : y_64.toInt < y_67.toInt := xI_nle rfl rfl c_125
            refine ic_m1 hx hb dX12_go_146 ?_
            refine lv_goto (tgt := 172) hx hb dX12_go_147 rfl ?_
            refine lv_iadd hx hb dX12_go_172 ?_
            refine lv_topi (fun y_145 ey_145 => ?_)
            refine lv_istore (lv' := [(4, .int y_145), (3, .int y_64), (2, .int y_7), (0, .ref (a 66)), (1, .int p0)]) hx hb dX12_go_173 hl (lt_b rfl) rfl (fun ls hl => ?_)
            refine lv_aload_n hx hb dX12_go_175 rfl (lv_at hl 3 rfl) ?_
            refine S_getR (n := 110) (C := RX12) (T := TX12) (N := 89) hx hb hg iX12 hown hK hW kd_66 rfl 76 (lt_b rfl) (hg (Cond.fieldLink RX12 151 "SlabWalkModel" "now" "[I") m1390) (fun _ h9 => h9) rfl dX12_go_176 ?_
            refine ic_5 hx hb dX12_go_179 ?_
            refine lv_iload_n hx hb dX12_go_180 rfl (lv_at hl 4 rfl) ?_
            refine lv_aload_n hx hb dX12_go_181 rfl (lv_at hl 3 rfl) ?_
            refine S_getR (n := 94) (C := RX12) (T := TX12) (N := 89) hx hb hg iX12 hown hK hW kd_66 rfl 42 (lt_b rfl) (hg (Cond.fieldLink RX12 96 "SlabWalkModel" "mosts" "[I") m1356) (fun _ h9 => h9) rfl dX12_go_182 ?_
            refine lv_iload_n hx hb dX12_go_185 rfl (lv_at hl 2 rfl) ?_
            refine S_iald hx hb hK hW kd_94 (vin ((by first | exact ok_992 c_2 u_8 | omega)) ((by first | (clear hP9 hac hsl c_6 hp_33 g_38 d_3 u_51 b_52 g_53 b_54 g_55 b_56 g_57 f_63 hp_61 ty_67 u_68 c_125; omega) | omega))) dX12_go_186 (fun y_146 ey_146 => ?_)
            have ty_146 : 0 ≤ y_146.toInt ∧ y_146.toInt ≤ 60 := bv_94 hB_G_59 ey_146
            have u_147 : y_146.toInt = (G.1 94 y_7.toNatClampNeg).toInt := congrArg Int32.toInt (ey_146.trans (((hq_60.ri9 94 rfl y_7.toNatClampNeg).trans ((gp_ne eG_48 (fun q => absurd q.1 (Nat.ne_of_beq_eq_false rfl))).trans ((hq_41.ri9 94 rfl y_7.toNatClampNeg).trans ((hq_32.ri9 94 rfl y_7.toNatClampNeg).trans ((hq_25.ri9 94 rfl y_7.toNatClampNeg).trans (hq_20.ri9 94 rfl y_7.toNatClampNeg))))))))
            refine lv_icmp_le (tgt := 194) hx hb dX12_go_187 rfl (fun c_148 => ?_) (fun c_148 => ?_)
            · have c_148 : p0.toInt ≤ y_146.toInt := xI_le rfl rfl c_148
              refine ic_0 hx hb dX12_go_194 ?_
              have qc_149 : (0 : Int32).toInt = 0 := rfl
              exact hJ_75 0 _ _ _ ⟨G_59, y_145, ⟨(by decide), (by decide)⟩, (Jn_n_go_2_mk (Or.inr ⟨c_125, ⟨y_145, ey_145, ⟨y_146, ey_146, (Or.inl ⟨c_148, ⟨rfl, rfl, rfl⟩⟩)⟩⟩⟩)), hW, hB_G_59, hF, (Fr.rf (rs := []) (fs := [])), hS, lv_sub hl [0, 3] rfl⟩
            · have c_148 : y_146.toInt < p0.toInt := xI_nle rfl rfl c_148
              refine ic_1 hx hb dX12_go_190 ?_
              refine lv_goto (tgt := 195) hx hb dX12_go_191 rfl ?_
              have qc_150 : (1 : Int32).toInt = 1 := rfl
              exact hJ_75 1 _ _ _ ⟨G_59, y_145, ⟨(by decide), (by decide)⟩, (Jn_n_go_2_mk (Or.inr ⟨c_125, ⟨y_145, ey_145, ⟨y_146, ey_146, (Or.inr ⟨c_148, ⟨rfl, rfl, rfl⟩⟩)⟩⟩⟩)), hW, hB_G_59, hF, (Fr.rf (rs := []) (fs := [])), hS, lv_sub hl [0, 3] rfl⟩
        · have c_29 : r_23.toInt = 0 := xI_eq rfl rfl c_29
          refine ic_m1 hx hb dX12_go_66 ?_
          have b_151 : 0 ≤ (G.1 66 78).toInt ∧ (G.1 66 78).toInt ≤ 40 := bd_66_78 hB_G
          have g_152 : (G_24.1 66 78).toInt = (G.1 66 78).toInt := (congrArg Int32.toInt (show G_24.1 66 78 = (G.1 66 78) from ((hq_25.i9 66 78 rfl rfl).trans (hq_20.i9 66 78 rfl rfl))))
          have b_153 : 0 ≤ (G.1 66 79).toInt ∧ (G.1 66 79).toInt ≤ 40 := bd_66_79 hB_G
          have g_154 : (G_24.1 66 79).toInt = (G.1 66 79).toInt := (congrArg Int32.toInt (show G_24.1 66 79 = (G.1 66 79) from ((hq_25.i9 66 79 rfl rfl).trans (hq_20.i9 66 79 rfl rfl))))
          exact W.iret (v := (-1)) hx hb hr (fun t ht _ => ⟨⟨(-1), G_24, rfl, (Q_go_mk ⟨hB_G_24, hF, (by have hq : ((-1) : Int32).toInt = (-1) := rfl; (try dsimp only); omega), ⟨y_1, ey_1, (Or.inr ⟨c_2, ⟨y_5, ey_5, (Or.inl ⟨c_6, ⟨y_7, ey_7, ⟨y_9, ey_9, ⟨y_11, ey_11, ⟨w_15, G_18, hX_21, f_22, hB_G_18, hq_20, ⟨r_23, G_24, hX_27, (Or.inl ⟨c_29, ⟨rfl, rfl⟩⟩)⟩⟩⟩⟩⟩⟩)⟩⟩)⟩⟩), wd_t ht hW⟩, hS.F ht⟩) hS.2.2 dX12_go_67
      refine lv_icmp_ne (tgt := 54) hx hb dX12_go_42 rfl (fun c_155 => ?_) (fun c_155 => ?_)
      · have c_155 : y_11.toInt ≠ 1 := xI_ne rfl rfl c_155
        refine lv_aload_n hx hb dX12_go_54 rfl (lv_at hl 1 rfl) ?_
        refine S_getR (n := 95) (C := RX12) (T := TX12) (N := 89) hx hb hg iX12 hown hK hW kd_66 rfl 43 (lt_b rfl) (hg (Cond.fieldLink RX12 99 "SlabWalkModel" "leaps" "[I") m1357) (fun _ h9 => h9) rfl dX12_go_55 ?_
        refine lv_iload_n hx hb dX12_go_58 rfl (lv_at hl 0 rfl) ?_
        refine S_iald hx hb hK hW kd_95 (vin ((by first | exact ok_992 c_2 u_8 | omega)) ((by first | (clear hP9 hac hsl c_6 c_155; omega) | omega))) dX12_go_59 (fun y_156 ey_156 => ?_)
        have ty_156 : 0 ≤ y_156.toInt ∧ y_156.toInt ≤ 99 := bv_95 hB_G ey_156
        have u_157 : y_156.toInt = (G.1 95 y_7.toNatClampNeg).toInt := congrArg Int32.toInt (ey_156)
        exact hJ_19 y_156 _ _ _ ⟨G, ⟨(by first | exact ty_156.1 | omega), (by first | exact ty_156.2 | omega)⟩, (Jn_n_go_1_mk (Or.inr ⟨c_155, ⟨y_156, ey_156, ⟨rfl, rfl⟩⟩⟩)), hW, hB_G, hF, (Fr.rf (rs := []) (fs := [])), hS, lv_sub hl [0, 1, 2] rfl⟩
      · have c_155 : y_11.toInt = 1 := xI_eq rfl rfl c_155
        refine lv_aload_n hx hb dX12_go_45 rfl (lv_at hl 1 rfl) ?_
        refine S_getR (n := 94) (C := RX12) (T := TX12) (N := 89) hx hb hg iX12 hown hK hW kd_66 rfl 42 (lt_b rfl) (hg (Cond.fieldLink RX12 96 "SlabWalkModel" "mosts" "[I") m1356) (fun _ h9 => h9) rfl dX12_go_46 ?_
        refine lv_iload_n hx hb dX12_go_49 rfl (lv_at hl 0 rfl) ?_
        refine S_iald hx hb hK hW kd_94 (vin ((by first | exact ok_992 c_2 u_8 | omega)) ((by first | (clear hP9 hac hsl c_6 c_155; omega) | omega))) dX12_go_50 (fun y_158 ey_158 => ?_)
        have ty_158 : 0 ≤ y_158.toInt ∧ y_158.toInt ≤ 60 := bv_94 hB_G ey_158
        have u_159 : y_158.toInt = (G.1 94 y_7.toNatClampNeg).toInt := congrArg Int32.toInt (ey_158)
        refine lv_goto (tgt := 60) hx hb dX12_go_51 rfl ?_
        exact hJ_19 y_158 _ _ _ ⟨G, ⟨(by first | exact ty_158.1 | omega), (by first | exact ok_768 ty_158.2 | omega)⟩, (Jn_n_go_1_mk (Or.inl ⟨c_155, ⟨y_158, ey_158, ⟨rfl, rfl⟩⟩⟩)), hW, hB_G, hF, (Fr.rf (rs := []) (fs := [])), hS, lv_sub hl [0, 1, 2] rfl⟩
    · have c_6 : y_5.toInt ≠ 1 := xI_ne rfl rfl c_6
      refine ic_m1 hx hb dX12_go_19 ?_
      have b_160 : 0 ≤ (G.1 66 78).toInt ∧ (G.1 66 78).toInt ≤ 40 := bd_66_78 hB_G
      have b_161 : 0 ≤ (G.1 66 79).toInt ∧ (G.1 66 79).toInt ≤ 40 := bd_66_79 hB_G
      exact W.iret (v := (-1)) hx hb hr (fun t ht _ => ⟨⟨(-1), G, rfl, (Q_go_mk ⟨hB_G, hF, (by have hq : ((-1) : Int32).toInt = (-1) := rfl; (try dsimp only); omega), ⟨y_1, ey_1, (Or.inr ⟨c_2, ⟨y_5, ey_5, (Or.inr ⟨c_6, ⟨rfl, rfl⟩⟩)⟩⟩)⟩⟩), wd_t ht hW⟩, hS.F ht⟩) hS.2.2 dX12_go_20

theorem m115 : Cond.selects RX12 yX12_counts yX12_counts ∈ gd := gds_8 3 rfl
theorem m1394 : Cond.fieldLink RX12 157 "SlabWalkModel" "sightWho" "[I" ∈ gd := gdc_6_4 14 rfl gw_fieldLink
theorem m1395 : Cond.fieldLink RX12 160 "SlabWalkModel" "sightWhere" "[I" ∈ gd := gdc_6_4 15 rfl gw_fieldLink
theorem m1396 : Cond.fieldLink RX12 163 "SlabWalkModel" "sightHeel" "[I" ∈ gd := gdc_6_5 0 rfl gw_fieldLink
theorem m2055 : Cond.methodLink RX12 596 yX12_counts ∈ gd := gdc_9_1 3 rfl gw_methodLink
theorem m2057 : Cond.instanceMethod yX12_counts ∈ gd := gdc_9_1 5 rfl gw_instanceMethod
theorem m2058 : Cond.code yX12_counts cX12_counts 3 (some .boolean) ∈ gd := gdc_9_1 6 rfl gw_code
noncomputable def rbX12_fits_0 : List (Nat × List Nat) := [(0, [3]), (1, [61]), (2, [3]), (3, [62]), (4, [29]), (5, [42]), (6, [180, 1, 175]), (9, [162, 0, 98]), (12, [4]), (13, [54, 4]), (15, [3]), (16, [54, 5]), (18, [21, 5]), (20, [42]), (21, [180, 1, 187]), (24, [162, 0, 62]), (27, [21, 4]), (29, [153, 0, 57]), (32, [42]), (33, [21, 5]), (35, [27]), (36, [182, 2, 84]), (39, [154, 0, 6]), (42, [167, 0, 38])]
theorem rcX12_fits_0 : dgo (lb cX12_fits) 0 rbX12_fits_0 = true := by decide +kernel
theorem dX12_fits_0 : decode cX12_fits 0 = .ok (.iconst 0, 1) := dk_3 (dw rcX12_fits_0 0 rfl)
theorem dX12_fits_1 : decode cX12_fits 1 = .ok (.istore_n 2, 1) := dk_61 (dw rcX12_fits_0 1 rfl)
theorem dX12_fits_2 : decode cX12_fits 2 = .ok (.iconst 0, 1) := dk_3 (dw rcX12_fits_0 2 rfl)
theorem dX12_fits_3 : decode cX12_fits 3 = .ok (.istore_n 3, 1) := dk_62 (dw rcX12_fits_0 3 rfl)
theorem dX12_fits_4 : decode cX12_fits 4 = .ok (.iload_n 3, 1) := dk_29 (dw rcX12_fits_0 4 rfl)
theorem dX12_fits_5 : decode cX12_fits 5 = .ok (.aload_n 0, 1) := dk_42 (dw rcX12_fits_0 5 rfl)
theorem dX12_fits_6 : decode cX12_fits 6 = .ok (.getfield 431, 3) := dk_180 (dw rcX12_fits_0 6 rfl) rfl
theorem dX12_fits_9 : decode cX12_fits 9 = .ok (.if_icmp .ge 98, 3) := dk_162 (dw rcX12_fits_0 7 rfl) rfl
theorem dX12_fits_12 : decode cX12_fits 12 = .ok (.iconst 1, 1) := dk_4 (dw rcX12_fits_0 8 rfl)
theorem dX12_fits_13 : decode cX12_fits 13 = .ok (.istore 4, 2) := dk_54 (dw rcX12_fits_0 9 rfl)
theorem dX12_fits_15 : decode cX12_fits 15 = .ok (.iconst 0, 1) := dk_3 (dw rcX12_fits_0 10 rfl)
theorem dX12_fits_16 : decode cX12_fits 16 = .ok (.istore 5, 2) := dk_54 (dw rcX12_fits_0 11 rfl)
theorem dX12_fits_18 : decode cX12_fits 18 = .ok (.iload 5, 2) := dk_21 (dw rcX12_fits_0 12 rfl)
theorem dX12_fits_20 : decode cX12_fits 20 = .ok (.aload_n 0, 1) := dk_42 (dw rcX12_fits_0 13 rfl)
theorem dX12_fits_21 : decode cX12_fits 21 = .ok (.getfield 443, 3) := dk_180 (dw rcX12_fits_0 14 rfl) rfl
theorem dX12_fits_24 : decode cX12_fits 24 = .ok (.if_icmp .ge 62, 3) := dk_162 (dw rcX12_fits_0 15 rfl) rfl
theorem dX12_fits_27 : decode cX12_fits 27 = .ok (.iload 4, 2) := dk_21 (dw rcX12_fits_0 16 rfl)
theorem dX12_fits_29 : decode cX12_fits 29 = .ok (.ifCond .eq 57, 3) := dk_153 (dw rcX12_fits_0 17 rfl) rfl
theorem dX12_fits_32 : decode cX12_fits 32 = .ok (.aload_n 0, 1) := dk_42 (dw rcX12_fits_0 18 rfl)
theorem dX12_fits_33 : decode cX12_fits 33 = .ok (.iload 5, 2) := dk_21 (dw rcX12_fits_0 19 rfl)
theorem dX12_fits_35 : decode cX12_fits 35 = .ok (.iload_n 1, 1) := dk_27 (dw rcX12_fits_0 20 rfl)
theorem dX12_fits_36 : decode cX12_fits 36 = .ok (.invokevirtual 596, 3) := dk_182 (dw rcX12_fits_0 21 rfl) rfl
theorem dX12_fits_39 : decode cX12_fits 39 = .ok (.ifCond .ne 6, 3) := dk_154 (dw rcX12_fits_0 22 rfl) rfl
theorem dX12_fits_42 : decode cX12_fits 42 = .ok (.goto 38, 3) := dk_167 (dw rcX12_fits_0 23 rfl) rfl
noncomputable def rbX12_fits_45 : List (Nat × List Nat) := [(45, [42]), (46, [42]), (47, [180, 0, 157]), (50, [21, 5]), (52, [46]), (53, [42]), (54, [180, 0, 160]), (57, [21, 5]), (59, [46]), (60, [4]), (61, [29]), (62, [120]), (63, [182, 1, 237]), (66, [42]), (67, [180, 0, 115]), (70, [42]), (71, [180, 0, 163]), (74, [21, 5]), (76, [46]), (77, [51]), (78, [54, 4]), (80, [132, 5, 1]), (83, [167, 255, 191]), (86, [28])]
theorem rcX12_fits_45 : dgo (lb cX12_fits) 0 rbX12_fits_45 = true := by decide +kernel
theorem dX12_fits_45 : decode cX12_fits 45 = .ok (.aload_n 0, 1) := dk_42 (dw rcX12_fits_45 0 rfl)
theorem dX12_fits_46 : decode cX12_fits 46 = .ok (.aload_n 0, 1) := dk_42 (dw rcX12_fits_45 1 rfl)
theorem dX12_fits_47 : decode cX12_fits 47 = .ok (.getfield 157, 3) := dk_180 (dw rcX12_fits_45 2 rfl) rfl
theorem dX12_fits_50 : decode cX12_fits 50 = .ok (.iload 5, 2) := dk_21 (dw rcX12_fits_45 3 rfl)
theorem dX12_fits_52 : decode cX12_fits 52 = .ok (.iaload, 1) := dk_46 (dw rcX12_fits_45 4 rfl)
theorem dX12_fits_53 : decode cX12_fits 53 = .ok (.aload_n 0, 1) := dk_42 (dw rcX12_fits_45 5 rfl)
theorem dX12_fits_54 : decode cX12_fits 54 = .ok (.getfield 160, 3) := dk_180 (dw rcX12_fits_45 6 rfl) rfl
theorem dX12_fits_57 : decode cX12_fits 57 = .ok (.iload 5, 2) := dk_21 (dw rcX12_fits_45 7 rfl)
theorem dX12_fits_59 : decode cX12_fits 59 = .ok (.iaload, 1) := dk_46 (dw rcX12_fits_45 8 rfl)
theorem dX12_fits_60 : decode cX12_fits 60 = .ok (.iconst 1, 1) := dk_4 (dw rcX12_fits_45 9 rfl)
theorem dX12_fits_61 : decode cX12_fits 61 = .ok (.iload_n 3, 1) := dk_29 (dw rcX12_fits_45 10 rfl)
theorem dX12_fits_62 : decode cX12_fits 62 = .ok (.ishl, 1) := dk_120 (dw rcX12_fits_45 11 rfl)
theorem dX12_fits_63 : decode cX12_fits 63 = .ok (.invokevirtual 493, 3) := dk_182 (dw rcX12_fits_45 12 rfl) rfl
theorem dX12_fits_66 : decode cX12_fits 66 = .ok (.aload_n 0, 1) := dk_42 (dw rcX12_fits_45 13 rfl)
theorem dX12_fits_67 : decode cX12_fits 67 = .ok (.getfield 115, 3) := dk_180 (dw rcX12_fits_45 14 rfl) rfl
theorem dX12_fits_70 : decode cX12_fits 70 = .ok (.aload_n 0, 1) := dk_42 (dw rcX12_fits_45 15 rfl)
theorem dX12_fits_71 : decode cX12_fits 71 = .ok (.getfield 163, 3) := dk_180 (dw rcX12_fits_45 16 rfl) rfl
theorem dX12_fits_74 : decode cX12_fits 74 = .ok (.iload 5, 2) := dk_21 (dw rcX12_fits_45 17 rfl)
theorem dX12_fits_76 : decode cX12_fits 76 = .ok (.iaload, 1) := dk_46 (dw rcX12_fits_45 18 rfl)
theorem dX12_fits_77 : decode cX12_fits 77 = .ok (.baload, 1) := dk_51 (dw rcX12_fits_45 19 rfl)
theorem dX12_fits_78 : decode cX12_fits 78 = .ok (.istore 4, 2) := dk_54 (dw rcX12_fits_45 20 rfl)
theorem dX12_fits_80 : decode cX12_fits 80 = .ok (.iinc 5 1, 3) := dk_132 (dw rcX12_fits_45 21 rfl) rfl
theorem dX12_fits_83 : decode cX12_fits 83 = .ok (.goto (-65), 3) := dk_167 (dw rcX12_fits_45 22 rfl) rfl
theorem dX12_fits_86 : decode cX12_fits 86 = .ok (.iload_n 2, 1) := dk_28 (dw rcX12_fits_45 23 rfl)
noncomputable def rbX12_fits_87 : List (Nat × List Nat) := [(87, [21, 4]), (89, [153, 0, 9]), (92, [4]), (93, [29]), (94, [120]), (95, [167, 0, 4]), (98, [3]), (99, [128]), (100, [61]), (101, [132, 3, 1]), (104, [167, 255, 156]), (107, [28]), (108, [172])]
theorem rcX12_fits_87 : dgo (lb cX12_fits) 0 rbX12_fits_87 = true := by decide +kernel
theorem dX12_fits_87 : decode cX12_fits 87 = .ok (.iload 4, 2) := dk_21 (dw rcX12_fits_87 0 rfl)
theorem dX12_fits_89 : decode cX12_fits 89 = .ok (.ifCond .eq 9, 3) := dk_153 (dw rcX12_fits_87 1 rfl) rfl
theorem dX12_fits_92 : decode cX12_fits 92 = .ok (.iconst 1, 1) := dk_4 (dw rcX12_fits_87 2 rfl)
theorem dX12_fits_93 : decode cX12_fits 93 = .ok (.iload_n 3, 1) := dk_29 (dw rcX12_fits_87 3 rfl)
theorem dX12_fits_94 : decode cX12_fits 94 = .ok (.ishl, 1) := dk_120 (dw rcX12_fits_87 4 rfl)
theorem dX12_fits_95 : decode cX12_fits 95 = .ok (.goto 4, 3) := dk_167 (dw rcX12_fits_87 5 rfl) rfl
theorem dX12_fits_98 : decode cX12_fits 98 = .ok (.iconst 0, 1) := dk_3 (dw rcX12_fits_87 6 rfl)
theorem dX12_fits_99 : decode cX12_fits 99 = .ok (.ior, 1) := dk_128 (dw rcX12_fits_87 7 rfl)
theorem dX12_fits_100 : decode cX12_fits 100 = .ok (.istore_n 2, 1) := dk_61 (dw rcX12_fits_87 8 rfl)
theorem dX12_fits_101 : decode cX12_fits 101 = .ok (.iinc 3 1, 3) := dk_132 (dw rcX12_fits_87 9 rfl) rfl
theorem dX12_fits_104 : decode cX12_fits 104 = .ok (.goto (-100), 3) := dk_167 (dw rcX12_fits_87 10 rfl) rfl
theorem dX12_fits_107 : decode cX12_fits 107 = .ok (.iload_n 2, 1) := dk_28 (dw rcX12_fits_87 11 rfl)
theorem dX12_fits_108 : decode cX12_fits 108 = .ok (.ireturn, 1) := dk_172 (dw rcX12_fits_87 12 rfl)
set_option maxHeartbeats 4000000 in
set_option maxRecDepth 100000 in
theorem n_fits (l : Launch) (D : va_G) (k : KT) (A : Nat → Prop) (a : Nat → Nat) (z : SK) (G : GS) (p0 : Int32) (hP9 : gP G = 1) : Met l yX12_fits (WS yX12_fits cX12_fits 6 (some .int)) ({ frames := 5, cells := 0, slots := 0, locals := 117 }) (va_Pc [.ref (a 66), .int p0] (cW D k A a z G)) (va_Qi (fun (r : Int32) (G1 : GS) => Q_fits p0 G r G1) (fun (G1 : GS) t => Wd D k A a G1 t.heap) A) 0 0 A := by
  refine Met.ofW (cc := cX12_fits) (maxL := 6) (ret := (some .int)) (by decide) rfl ?_
  intro p e s m args below meth c s₁ B hml hv
  obtain ⟨rfl, hW, hB_G, hK, hZ⟩ := hv
  have hx := B.exec
  have hb := B.bytes
  have hr := B.returns
  have hts := atoms_spec (ws := WS yX12_fits cX12_fits 6 (some .int)) B.pre
  have hgd : ∀ w ∈ gd, w ∈ WS yX12_fits cX12_fits 6 (some .int) := fun w h => List.mem_cons_of_mem _ h
  have hg : ∀ w ∈ gd, w.before _ s = true := fun w h => hts w (hgd w h)
  have hown : s.vm.findClass RX12 = some m.cls := findClass_of_methodNamed B.named
  have hS : va_S A s.heap s.heap [] := va_S.rf
  have hF : Fr [76, 97, 98] [(66, 59), (66, 60), (66, 61), (66, 62), (66, 63)] G G := Fr.rf
  have hl := lv_entry ([.ref (a 66), .int p0]) (n := 6) (Nat.le_of_ble_eq_true rfl)
  rw [lg_entry_eq]
  generalize (lg_sl ([.ref (a 66), .int p0]) ++ List.replicate (6 - (lg_sl ([.ref (a 66), .int p0])).length) Slot.unset).toArray = ls at hl ⊢
  have hl : lv_has ls 6 [(0, .ref (a 66)), (1, .int p0)] := hl
  refine ic_0 hx hb dX12_fits_0 ?_
  refine lv_istore_n (lv' := [(2, .int 0), (0, .ref (a 66)), (1, .int p0)]) hx hb dX12_fits_1 rfl hl (lt_b rfl) rfl (fun ls hl => ?_)
  refine ic_0 hx hb dX12_fits_2 ?_
  refine lv_istore_n (lv' := [(3, .int 0), (2, .int 0), (0, .ref (a 66)), (1, .int p0)]) hx hb dX12_fits_3 rfl hl (lt_b rfl) rfl (fun ls hl => ?_)
  have qc_8 : (0 : Int32).toInt = 0 := rfl
  refine loop_N (Inv := fun n H locs ls => ∃ (G_1 : GS) (x_5 : Int32) (x_6 : Int32), (n : Int) = 6 - x_5.toInt ∧ (0 ≤ x_5.toInt ∧ x_5.toInt ≤ 6) ∧ (0 ≤ x_6.toInt ∧ x_6.toInt ≤ 63) ∧ Rc (St_n_fits_1 p0 G) (0, 0, G) (x_5, x_6, G_1) ∧ Wd D k A a G_1 H ∧ Bd G_1 ∧ Fr [76, 97, 98] [(66, 59), (66, 60), (66, 61), (66, 62), (66, 63)] G G_1 ∧ Fr [76, 97, 98] [(66, 59), (66, 60), (66, 61), (66, 62), (66, 63)] G G_1 ∧ va_S A s.heap H locs ∧ lv_has ls 6 [(3, .int x_5), (2, .int x_6), (0, .ref (a 66)), (1, .int p0)]) (fun n_4 H locs ls ih_3 hI => ?_) (6 - 0 : Int).toNat ⟨G, 0, 0, (Int.toNat_of_nonneg ((by decide))), ⟨(by decide), (by decide)⟩, ⟨(by decide), (by decide)⟩, Rc.rf, hW, hB_G, hF, Fr.rf, hS, lv_sub hl [0, 1, 2, 3] rfl⟩
  obtain ⟨G_1, x_5, x_6, hn_11, f_9, f_10, hX_7, hW, hB_G_1, hF, hq_2, hS, hl⟩ := hI
  refine lv_iload_n hx hb dX12_fits_4 rfl (lv_at hl 0 rfl) ?_
  refine lv_aload_n hx hb dX12_fits_5 rfl (lv_at hl 2 rfl) ?_
  have b_12 : 0 ≤ (G.1 66 54).toInt ∧ (G.1 66 54).toInt ≤ 6 := bd_66_54 hB_G
  refine S_getI (v := (G.1 66 54)) (C := RX12) (T := TX12) (N := 89) hx hb hg iX12 hown hK hW kd_66 rfl 54 (lt_b rfl) (hg (Cond.fieldLink RX12 431 "SlabWalkModel" "rules" "I") m1368) (fun _ h9 => h9) rfl (hq_2.i9 66 54 rfl rfl) dX12_fits_6 ?_
  refine lv_icmp_ge (tgt := 107) hx hb dX12_fits_9 rfl (fun c_13 => ?_) (fun c_13 => ?_)
  · have c_13 : (G.1 66 54).toInt ≤ x_5.toInt := xI_le rfl rfl c_13
    refine lv_iload_n hx hb dX12_fits_107 rfl (lv_at hl 1 rfl) ?_
    exact W.iret (v := x_6) hx hb hr (fun t ht _ => ⟨⟨x_6, G_1, rfl, (Q_fits_mk ⟨hB_G_1, hF, ⟨x_5, x_6, G_1, hX_7, f_9, f_10, hB_G_1, hq_2, ⟨c_13, ⟨rfl, rfl⟩⟩⟩⟩), wd_t ht hW⟩, hS.F ht⟩) hS.2.2 dX12_fits_108
  · have c_13 : x_5.toInt < (G.1 66 54).toInt := xI_nle rfl rfl c_13
    refine ic_1 hx hb dX12_fits_12 ?_
    refine lv_istore (lv' := [(4, .int 1), (3, .int x_5), (2, .int x_6), (0, .ref (a 66)), (1, .int p0)]) hx hb dX12_fits_13 hl (lt_b rfl) rfl (fun ls hl => ?_)
    refine ic_0 hx hb dX12_fits_15 ?_
    refine lv_istore (lv' := [(5, .int 0), (4, .int 1), (3, .int x_5), (2, .int x_6), (0, .ref (a 66)), (1, .int p0)]) hx hb dX12_fits_16 hl (lt_b rfl) rfl (fun ls hl => ?_)
    have qc_21 : (0 : Int32).toInt = 0 := rfl
    have qc_22 : (1 : Int32).toInt = 1 := rfl
    refine loop_N (Inv := fun n H locs ls => ∃ (G_14 : GS) (x_18 : Int32) (x_19 : Int32), (n : Int) = 20 - x_18.toInt ∧ (0 ≤ x_18.toInt ∧ x_18.toInt ≤ 20) ∧ (0 ≤ x_19.toInt ∧ x_19.toInt ≤ 1) ∧ Rc (St_n_fits_2 p0 x_5 G) (0, 1, G_1) (x_18, x_19, G_14) ∧ Wd D k A a G_14 H ∧ Bd G_14 ∧ Fr [76, 97, 98] [(66, 59), (66, 60), (66, 61), (66, 62), (66, 63)] G G_14 ∧ Fr [76, 97, 98] [(66, 59), (66, 60), (66, 61), (66, 62), (66, 63)] G_1 G_14 ∧ va_S A s.heap H locs ∧ lv_has ls 6 [(5, .int x_18), (4, .int x_19), (3, .int x_5), (2, .int x_6), (0, .ref (a 66)), (1, .int p0)]) (fun n_17 H locs ls ih_16 hI => ?_) (20 - 0 : Int).toNat ⟨G_1, 0, 1, (Int.toNat_of_nonneg ((by decide))), ⟨(by decide), (by decide)⟩, ⟨(by decide), (by decide)⟩, Rc.rf, hW, hB_G_1, hF, Fr.rf, hS, lv_sub hl [0, 1, 2, 3, 4, 5] rfl⟩
    obtain ⟨G_14, x_18, x_19, hn_25, f_23, f_24, hX_20, hW, hB_G_14, hF, hq_15, hS, hl⟩ := hI
    refine lv_iload hx hb dX12_fits_18 (lv_at hl 0 rfl) ?_
    refine lv_aload_n hx hb dX12_fits_20 rfl (lv_at hl 4 rfl) ?_
    have b_26 : 0 ≤ (G.1 66 85).toInt ∧ (G.1 66 85).toInt ≤ 20 := bd_66_85 hB_G
    refine S_getI (v := (G.1 66 85)) (C := RX12) (T := TX12) (N := 89) hx hb hg iX12 hown hK hW kd_66 rfl 85 (lt_b rfl) (hg (Cond.fieldLink RX12 443 "SlabWalkModel" "sights" "I") m1399) (fun _ h9 => h9) rfl ((hq_15.i9 66 85 rfl rfl).trans (hq_2.i9 66 85 rfl rfl)) dX12_fits_21 ?_
    refine lv_icmp_ge (tgt := 86) hx hb dX12_fits_24 rfl (fun c_27 => ?_) (fun c_27 => ?_)
    · have c_27 : (G.1 66 85).toInt ≤ x_18.toInt := xI_le rfl rfl c_27
      refine lv_iload_n hx hb dX12_fits_86 rfl (lv_at hl 3 rfl) ?_
      refine lv_iload hx hb dX12_fits_87 (lv_at hl 1 rfl) ?_
      refine lv_if_eq (tgt := 98) hx hb dX12_fits_89 rfl (fun c_28 => ?_) (fun c_28 => ?_)
      · have c_28 : x_19.toInt = 0 := xI_eq rfl rfl c_28
        refine ic_0 hx hb dX12_fits_98 ?_
        refine lv_ior hx hb dX12_fits_99 ?_
        refine lv_topi (fun y_29 ey_29 => ?_)
        have ty_29 := or6 ey_29 ⟨by omega, by omega⟩ ⟨by omega, by omega⟩
        refine lv_istore_n (lv' := [(2, .int y_29), (5, .int x_18), (4, .int x_19), (3, .int x_5), (0, .ref (a 66)), (1, .int p0)]) hx hb dX12_fits_100 rfl hl (lt_b rfl) rfl (fun ls hl => ?_)
        obtain ⟨y_30, ey_30⟩ : ∃ q, q = x_5 + 1 := ⟨_, rfl⟩
        have ty_30 : y_30.toInt = x_5.toInt + 1 := xI_add rfl rfl ey_30 ((by first | exact ok_21 f_9.1 | omega)) ((by first | exact ok_157 f_9.2 | omega))
        refine lv_iinc (v := y_30) (lv' := [(3, .int y_30), (2, .int y_29), (5, .int x_18), (4, .int x_19), (0, .ref (a 66)), (1, .int p0)]) hx hb dX12_fits_101 hl (k := 3) rfl (by rw [ey_30]; rfl) (lt_b rfl) rfl (fun ls hl => ?_)
        refine lv_goto (tgt := 4) hx hb dX12_fits_104 rfl ?_
        exact ih_3 (6 - y_30.toInt : Int).toNat ((by first | (clear hP9 f_10 hn_25 f_23 f_24 b_26 c_27 c_28 ty_29; omega) | omega)) _ _ _ ⟨G_14, y_30, y_29, (Int.toNat_of_nonneg ((by first | exact ok_568 f_9.2 b_12.2 c_13 ty_30 | omega))), ⟨(by first | exact ok_23 f_9.1 ty_30 | omega), (by first | exact ok_569 f_9.2 b_12.2 c_13 ty_30 | omega)⟩, ⟨(by first | exact ty_29.1 | omega), (by first | exact ty_29.2 | omega)⟩, (hX_7.st (St_n_fits_1_mk ⟨x_5, x_6, G_1, y_30, y_29, G_14, rfl, rfl, f_9, f_10, hB_G_1, ⟨c_13, ⟨x_18, x_19, G_14, hX_20, f_23, f_24, hB_G_14, hq_15, (Or.inl ⟨c_27, (Or.inl ⟨c_28, ⟨y_29, ey_29, ⟨y_30, ty_30, ⟨rfl, rfl, rfl⟩⟩⟩⟩)⟩)⟩⟩⟩)), hW, hB_G_14, hF, (Fr.call9 (rs := [76, 97, 98]) (fs := [(66, 59), (66, 60), (66, 61), (66, 62), (66, 63)]) (Fr.call9 (rs := [76, 97, 98]) (fs := [(66, 59), (66, 60), (66, 61), (66, 62), (66, 63)]) Fr.rf hq_2 rfl rfl) hq_15 rfl rfl), hS, lv_sub hl [0, 1, 4, 5] rfl⟩
      · have c_28 : x_19.toInt ≠ 0 := xI_ne rfl rfl c_28
        refine ic_1 hx hb dX12_fits_92 ?_
        refine lv_iload_n hx hb dX12_fits_93 rfl (lv_at hl 2 rfl) ?_
        refine lv_ishl hx hb dX12_fits_94 ?_
        refine lv_topi (fun y_31 ey_31 => ?_)
        have ty_31 := sh5 (Y := x_5.toInt) rfl ey_31 rfl (by first | (clear hP9 hn_11 f_10 hn_25 f_23 f_24 b_26 c_27 c_28; omega) | omega) (by first | (clear hP9 hn_11 f_10 hn_25 f_23 f_24 b_26 c_27 c_28; omega) | omega)
        refine lv_goto (tgt := 99) hx hb dX12_fits_95 rfl ?_
        refine lv_ior hx hb dX12_fits_99 ?_
        refine lv_topi (fun y_32 ey_32 => ?_)
        have ty_32 := or6 ey_32 ⟨by omega, by omega⟩ ⟨by omega, by omega⟩
        refine lv_istore_n (lv' := [(2, .int y_32), (5, .int x_18), (4, .int x_19), (3, .int x_5), (0, .ref (a 66)), (1, .int p0)]) hx hb dX12_fits_100 rfl hl (lt_b rfl) rfl (fun ls hl => ?_)
        obtain ⟨y_33, ey_33⟩ : ∃ q, q = x_5 + 1 := ⟨_, rfl⟩
        have ty_33 : y_33.toInt = x_5.toInt + 1 := xI_add rfl rfl ey_33 ((by first | exact ok_21 f_9.1 | omega)) ((by first | exact ok_157 f_9.2 | omega))
        refine lv_iinc (v := y_33) (lv' := [(3, .int y_33), (2, .int y_32), (5, .int x_18), (4, .int x_19), (0, .ref (a 66)), (1, .int p0)]) hx hb dX12_fits_101 hl (k := 3) rfl (by rw [ey_33]; rfl) (lt_b rfl) rfl (fun ls hl => ?_)
        refine lv_goto (tgt := 4) hx hb dX12_fits_104 rfl ?_
        exact ih_3 (6 - y_33.toInt : Int).toNat ((by first | (clear hP9 f_10 hn_25 f_23 f_24 b_26 c_27 c_28 ty_31 ty_32; omega) | omega)) _ _ _ ⟨G_14, y_33, y_32, (Int.toNat_of_nonneg ((by first | exact ok_568 f_9.2 b_12.2 c_13 ty_33 | omega))), ⟨(by first | exact ok_23 f_9.1 ty_33 | omega), (by first | exact ok_569 f_9.2 b_12.2 c_13 ty_33 | omega)⟩, ⟨(by first | exact ty_32.1 | omega), (by first | exact ty_32.2 | omega)⟩, (hX_7.st (St_n_fits_1_mk ⟨x_5, x_6, G_1, y_33, y_32, G_14, rfl, rfl, f_9, f_10, hB_G_1, ⟨c_13, ⟨x_18, x_19, G_14, hX_20, f_23, f_24, hB_G_14, hq_15, (Or.inl ⟨c_27, (Or.inr ⟨c_28, ⟨y_31, ey_31, ⟨y_32, ey_32, ⟨y_33, ty_33, ⟨rfl, rfl, rfl⟩⟩⟩⟩⟩)⟩)⟩⟩⟩)), hW, hB_G_14, hF, (Fr.call9 (rs := [76, 97, 98]) (fs := [(66, 59), (66, 60), (66, 61), (66, 62), (66, 63)]) (Fr.call9 (rs := [76, 97, 98]) (fs := [(66, 59), (66, 60), (66, 61), (66, 62), (66, 63)]) Fr.rf hq_2 rfl rfl) hq_15 rfl rfl), hS, lv_sub hl [0, 1, 4, 5] rfl⟩
    · have c_27 : x_18.toInt < (G.1 66 85).toInt := xI_nle rfl rfl c_27
      refine lv_iload hx hb dX12_fits_27 (lv_at hl 1 rfl) ?_
      refine lv_if_eq (tgt := 86) hx hb dX12_fits_29 rfl (fun c_34 => ?_) (fun c_34 => ?_)
      · have c_34 : x_19.toInt = 0 := xI_eq rfl rfl c_34
        refine lv_iload_n hx hb dX12_fits_86 rfl (lv_at hl 3 rfl) ?_
        refine lv_iload hx hb dX12_fits_87 (lv_at hl 1 rfl) ?_
        refine lv_if_eq (tgt := 98) hx hb dX12_fits_89 rfl (fun c_35 => ?_) (fun c_35 => ?_)
        · have c_35 : x_19.toInt = 0 := xI_eq rfl rfl c_35
          refine ic_0 hx hb dX12_fits_98 ?_
          refine lv_ior hx hb dX12_fits_99 ?_
          refine lv_topi (fun y_36 ey_36 => ?_)
          have ty_36 := or6 ey_36 ⟨by omega, by omega⟩ ⟨by omega, by omega⟩
          refine lv_istore_n (lv' := [(2, .int y_36), (5, .int x_18), (4, .int x_19), (3, .int x_5), (0, .ref (a 66)), (1, .int p0)]) hx hb dX12_fits_100 rfl hl (lt_b rfl) rfl (fun ls hl => ?_)
          obtain ⟨y_37, ey_37⟩ : ∃ q, q = x_5 + 1 := ⟨_, rfl⟩
          have ty_37 : y_37.toInt = x_5.toInt + 1 := xI_add rfl rfl ey_37 ((by first | exact ok_21 f_9.1 | omega)) ((by first | exact ok_157 f_9.2 | omega))
          refine lv_iinc (v := y_37) (lv' := [(3, .int y_37), (2, .int y_36), (5, .int x_18), (4, .int x_19), (0, .ref (a 66)), (1, .int p0)]) hx hb dX12_fits_101 hl (k := 3) rfl (by rw [ey_37]; rfl) (lt_b rfl) rfl (fun ls hl => ?_)
          refine lv_goto (tgt := 4) hx hb dX12_fits_104 rfl ?_
          exact ih_3 (6 - y_37.toInt : Int).toNat ((by first | (clear hP9 f_10 hn_25 f_23 f_24 b_26 c_27 c_34 c_35 ty_36; omega) | omega)) _ _ _ ⟨G_14, y_37, y_36, (Int.toNat_of_nonneg ((by first | exact ok_568 f_9.2 b_12.2 c_13 ty_37 | omega))), ⟨(by first | exact ok_23 f_9.1 ty_37 | omega), (by first | exact ok_569 f_9.2 b_12.2 c_13 ty_37 | omega)⟩, ⟨(by first | exact ty_36.1 | omega), (by first | exact ty_36.2 | omega)⟩, (hX_7.st (St_n_fits_1_mk ⟨x_5, x_6, G_1, y_37, y_36, G_14, rfl, rfl, f_9, f_10, hB_G_1, ⟨c_13, ⟨x_18, x_19, G_14, hX_20, f_23, f_24, hB_G_14, hq_15, (Or.inr ⟨c_27, ⟨c_34, ⟨y_36, ey_36, ⟨y_37, ty_37, ⟨rfl, rfl, rfl⟩⟩⟩⟩⟩)⟩⟩⟩)), hW, hB_G_14, hF, (Fr.call9 (rs := [76, 97, 98]) (fs := [(66, 59), (66, 60), (66, 61), (66, 62), (66, 63)]) (Fr.call9 (rs := [76, 97, 98]) (fs := [(66, 59), (66, 60), (66, 61), (66, 62), (66, 63)]) Fr.rf hq_2 rfl rfl) hq_15 rfl rfl), hS, lv_sub hl [0, 1, 4, 5] rfl⟩
        · have c_35 : x_19.toInt ≠ 0 := xI_ne rfl rfl c_35
          exfalso; first | exact ok_924 f_24.1 c_34 c_35 | omega
      · have c_34 : x_19.toInt ≠ 0 := xI_ne rfl rfl c_34
        refine lv_aload_n hx hb dX12_fits_32 rfl (lv_at hl 4 rfl) ?_
        refine lv_iload hx hb dX12_fits_33 (lv_at hl 0 rfl) ?_
        refine lv_iload_n hx hb dX12_fits_35 rfl (lv_at hl 5 rfl) ?_
        refine S_calli (va_runV (As := [.int x_18, .int p0]) (rest := []) ⟨hx, hb, hml, hown, hts⟩ (n_counts l D k A a z G_14 x_18 p0 ⟨(by first | exact f_23.1 | omega), (by first | exact ok_472 f_23.2 b_26.2 c_27 | omega)⟩) (cwV 2 hts (gd_V hgd m2055 m2057 m115 m131 m2058) rfl rfl rfl hd_X12_counts ⟨Nat.le_of_ble_eq_true rfl, Nat.le_of_ble_eq_true rfl⟩) (pre_W hW hB_G_14 hK hZ hS kd_66 rfl) rfl rfl hl.1 rfl (lv_room (Nat.le_of_ble_eq_true rfl)) dX12_fits_36 ⟨Nat.le_of_ble_eq_true rfl, Nat.le_of_ble_eq_true rfl⟩) hS (fun r_38 G_39 H locs hpo hW hS => ?_)
        have hX_42 : Q_counts x_18 p0 G_14 r_38 G_39 := hpo
        obtain ⟨hB_G_39, hq_40, f_43, -⟩ := hpo
        have hF := hF.call9 hq_40 rfl rfl
        refine lv_if_ne (tgt := 45) hx hb dX12_fits_39 rfl (fun c_44 => ?_) (fun c_44 => ?_)
        · have c_44 : r_38.toInt ≠ 0 := xI_ne rfl rfl c_44
          refine lv_aload_n hx hb dX12_fits_45 rfl (lv_at hl 4 rfl) ?_
          refine lv_aload_n hx hb dX12_fits_46 rfl (lv_at hl 4 rfl) ?_
          refine S_getR (n := 112) (C := RX12) (T := TX12) (N := 89) hx hb hg iX12 hown hK hW kd_66 rfl 80 (lt_b rfl) (hg (Cond.fieldLink RX12 157 "SlabWalkModel" "sightWho" "[I") m1394) (fun _ h9 => h9) rfl dX12_fits_47 ?_
          refine lv_iload hx hb dX12_fits_50 (lv_at hl 0 rfl) ?_
          refine S_iald hx hb hK hW kd_112 (vin ((by first | exact f_23.1 | omega)) ((by first | exact ok_1155 f_23.2 b_26.2 c_27 | omega))) dX12_fits_52 (fun y_45 ey_45 => ?_)
          have ty_45 : 0 ≤ y_45.toInt ∧ y_45.toInt ≤ 3 := bv_112 hB_G_39 ey_45
          refine lv_aload_n hx hb dX12_fits_53 rfl (lv_at hl 4 rfl) ?_
          refine S_getR (n := 113) (C := RX12) (T := TX12) (N := 89) hx hb hg iX12 hown hK hW kd_66 rfl 81 (lt_b rfl) (hg (Cond.fieldLink RX12 160 "SlabWalkModel" "sightWhere" "[I") m1395) (fun _ h9 => h9) rfl dX12_fits_54 ?_
          refine lv_iload hx hb dX12_fits_57 (lv_at hl 0 rfl) ?_
          refine S_iald hx hb hK hW kd_113 (vin ((by first | exact f_23.1 | omega)) ((by first | exact ok_1155 f_23.2 b_26.2 c_27 | omega))) dX12_fits_59 (fun y_46 ey_46 => ?_)
          have ty_46 : 0 ≤ y_46.toInt ∧ y_46.toInt ≤ 2 := bv_113 hB_G_39 ey_46
          refine ic_1 hx hb dX12_fits_60 ?_
          refine lv_iload_n hx hb dX12_fits_61 rfl (lv_at hl 2 rfl) ?_
          refine lv_ishl hx hb dX12_fits_62 ?_
          refine lv_topi (fun y_47 ey_47 => ?_)
          have ty_47 := sh5 (Y := x_5.toInt) rfl ey_47 rfl (by first | (clear hP9 hn_11 f_10 hn_25 f_23 f_24 b_26 c_27 c_34 f_43 c_44 ty_45 ty_46; omega) | omega) (by first | (clear hP9 hn_11 f_10 hn_25 f_23 f_24 b_26 c_27 c_34 f_43 c_44 ty_45 ty_46; omega) | omega)
          have fr_48 : Fr [76, 97, 98] [(66, 59), (66, 60), (66, 61), (66, 62), (66, 63)] G G_39 := (Fr.call9 (rs := [76, 97, 98]) (fs := [(66, 59), (66, 60), (66, 61), (66, 62), (66, 63)]) (Fr.call9 (rs := [76, 97, 98]) (fs := [(66, 59), (66, 60), (66, 61), (66, 62), (66, 63)]) (Fr.call9 (rs := [76, 97, 98]) (fs := [(66, 59), (66, 60), (66, 61), (66, 62), (66, 63)]) Fr.rf hq_2 rfl rfl) hq_15 rfl rfl) hq_40 rfl rfl)
          have g_49 : gP G_39 = gP G := gP_fr fr_48 (gr_q rfl) (gf_q rfl)
          refine S_callv (va_runV (As := [.int y_45, .int y_46, .int y_47]) (rest := []) ⟨hx, hb, hml, hown, hts⟩ (n_layStreet l D k A a z G_39 y_45 y_46 y_47 ⟨(by first | exact ty_45.1 | omega), (by first | exact ty_45.2 | omega)⟩ ⟨(by first | exact ty_46.1 | omega), (by first | exact ty_46.2 | omega)⟩ ((by first | exact ok_796 hP9 g_49 | omega))) (cwV 3 hts (gd_V hgd m1834 m1836 m91 m131 m1837) rfl rfl rfl hd_X12_layStreet ⟨Nat.le_of_ble_eq_true rfl, Nat.le_of_ble_eq_true rfl⟩) (pre_W hW hB_G_39 hK hZ hS kd_66 rfl) rfl rfl hl.1 rfl (lv_room (Nat.le_of_ble_eq_true rfl)) dX12_fits_63 ⟨Nat.le_of_ble_eq_true rfl, Nat.le_of_ble_eq_true rfl⟩) hS (fun G_51 H locs hpo hW hS => ?_)
          have hX_54 : Q_layStreet y_45 y_46 y_47 G_39 G_51 := hpo
          obtain ⟨hB_G_51, hq_52, ⟨d_1, d_2, d_3, d_4, d_5, d_6⟩, -⟩ := hpo
          have hF := hF.call9 hq_52 rfl rfl
          refine lv_aload_n hx hb dX12_fits_66 rfl (lv_at hl 4 rfl) ?_
          refine S_getR (n := 98) (C := RX12) (T := TX12) (N := 89) hx hb hg iX12 hown hK hW kd_66 rfl 58 (lt_b rfl) (hg (Cond.fieldLink RX12 115 "SlabWalkModel" "lawful" "[Z") m1372) (fun _ h9 => h9) rfl dX12_fits_67 ?_
          refine lv_aload_n hx hb dX12_fits_70 rfl (lv_at hl 4 rfl) ?_
          refine S_getR (n := 114) (C := RX12) (T := TX12) (N := 89) hx hb hg iX12 hown hK hW kd_66 rfl 82 (lt_b rfl) (hg (Cond.fieldLink RX12 163 "SlabWalkModel" "sightHeel" "[I") m1396) (fun _ h9 => h9) rfl dX12_fits_71 ?_
          refine lv_iload hx hb dX12_fits_74 (lv_at hl 0 rfl) ?_
          refine S_iald hx hb hK hW kd_114 (vin ((by first | exact f_23.1 | omega)) ((by first | exact ok_1155 f_23.2 b_26.2 c_27 | omega))) dX12_fits_76 (fun y_55 ey_55 => ?_)
          have ty_55 : 0 ≤ y_55.toInt ∧ y_55.toInt ≤ 399 := bv_114 hB_G_51 ey_55
          refine S_zald hx hb hK hW kd_98 (vin ((by first | exact ty_55.1 | omega)) ((by first | exact ok_773 ty_55.2 | omega))) dX12_fits_77 (fun y_56 ey_56 => ?_)
          have ty_56 := hB_G_51.law ey_56
          refine lv_istore (lv' := [(4, .int y_56), (5, .int x_18), (3, .int x_5), (2, .int x_6), (0, .ref (a 66)), (1, .int p0)]) hx hb dX12_fits_78 hl (lt_b rfl) rfl (fun ls hl => ?_)
          obtain ⟨y_57, ey_57⟩ : ∃ q, q = x_18 + 1 := ⟨_, rfl⟩
          have ty_57 : y_57.toInt = x_18.toInt + 1 := xI_add rfl rfl ey_57 ((by first | exact ok_21 f_23.1 | omega)) ((by first | exact ok_196 f_23.2 | omega))
          refine lv_iinc (v := y_57) (lv' := [(5, .int y_57), (4, .int y_56), (3, .int x_5), (2, .int x_6), (0, .ref (a 66)), (1, .int p0)]) hx hb dX12_fits_80 hl (k := 1) rfl (by rw [ey_57]; rfl) (lt_b rfl) rfl (fun ls hl => ?_)
          refine lv_goto (tgt := 18) hx hb dX12_fits_83 rfl ?_
          exact ih_16 (20 - y_57.toInt : Int).toNat ((by first | (clear hP9 hn_11 f_9 f_10 b_12 c_13 f_24 c_34 f_43 c_44 ty_45 ty_46 ty_47 g_49 d_1 d_2 d_3 d_4 d_5 d_6 ty_55; omega) | omega)) _ _ _ ⟨G_51, y_57, y_56, (Int.toNat_of_nonneg ((by first | exact ok_473 f_23.2 b_26.2 c_27 ty_57 | omega))), ⟨(by first | exact ok_23 f_23.1 ty_57 | omega), (by first | exact ok_474 f_23.2 b_26.2 c_27 ty_57 | omega)⟩, ⟨(by first | (clear hP9 hn_11 f_9 f_10 b_12 c_13 hn_25 f_23 f_24 b_26 c_27 c_34 f_43 c_44 ty_45 ty_46 ty_47 g_49 d_1 d_2 d_3 d_4 d_5 d_6 ty_55 ty_57; omega) | omega), (by first | (clear hP9 hn_11 f_9 f_10 b_12 c_13 hn_25 f_23 f_24 b_26 c_27 c_34 f_43 c_44 ty_45 ty_46 ty_47 g_49 d_1 d_2 d_3 d_4 d_5 d_6 ty_55 ty_57; omega) | omega)⟩, (hX_20.st (St_n_fits_2_mk ⟨x_18, x_19, G_14, y_57, y_56, G_51, rfl, rfl, f_23, f_24, hB_G_14, ⟨c_27, ⟨c_34, ⟨r_38, G_39, hX_42, (Or.inr ⟨c_44, ⟨y_45, ey_45, ⟨y_46, ey_46, ⟨y_47, ey_47, ⟨G_51, hX_54, ⟨y_55, ey_55, ⟨y_56, ey_56, ⟨y_57, ty_57, ⟨rfl, rfl, rfl⟩⟩⟩⟩⟩⟩⟩⟩⟩)⟩⟩⟩⟩)), hW, hB_G_51, hF, (Fr.call9 (rs := [76, 97, 98]) (fs := [(66, 59), (66, 60), (66, 61), (66, 62), (66, 63)]) (Fr.call9 (rs := [76, 97, 98]) (fs := [(66, 59), (66, 60), (66, 61), (66, 62), (66, 63)]) (Fr.call9 (rs := [76, 97, 98]) (fs := [(66, 59), (66, 60), (66, 61), (66, 62), (66, 63)]) Fr.rf hq_15 rfl rfl) hq_40 rfl rfl) hq_52 rfl rfl), hS, lv_sub hl [0, 1, 2, 3, 4, 5] rfl⟩
        · have c_44 : r_38.toInt = 0 := xI_eq rfl rfl c_44
          refine lv_goto (tgt := 80) hx hb dX12_fits_42 rfl ?_
          obtain ⟨y_58, ey_58⟩ : ∃ q, q = x_18 + 1 := ⟨_, rfl⟩
          have ty_58 : y_58.toInt = x_18.toInt + 1 := xI_add rfl rfl ey_58 ((by first | exact ok_21 f_23.1 | omega)) ((by first | exact ok_196 f_23.2 | omega))
          refine lv_iinc (v := y_58) (lv' := [(5, .int y_58), (4, .int x_19), (3, .int x_5), (2, .int x_6), (0, .ref (a 66)), (1, .int p0)]) hx hb dX12_fits_80 hl (k := 0) rfl (by rw [ey_58]; rfl) (lt_b rfl) rfl (fun ls hl => ?_)
          refine lv_goto (tgt := 18) hx hb dX12_fits_83 rfl ?_
          exact ih_16 (20 - y_58.toInt : Int).toNat ((by first | (clear hP9 hn_11 f_9 f_10 b_12 c_13 f_24 c_34 f_43 c_44; omega) | omega)) _ _ _ ⟨G_39, y_58, x_19, (Int.toNat_of_nonneg ((by first | exact ok_473 f_23.2 b_26.2 c_27 ty_58 | omega))), ⟨(by first | exact ok_23 f_23.1 ty_58 | omega), (by first | exact ok_474 f_23.2 b_26.2 c_27 ty_58 | omega)⟩, ⟨(by first | exact f_24.1 | omega), (by first | exact f_24.2 | omega)⟩, (hX_20.st (St_n_fits_2_mk ⟨x_18, x_19, G_14, y_58, x_19, G_39, rfl, rfl, f_23, f_24, hB_G_14, ⟨c_27, ⟨c_34, ⟨r_38, G_39, hX_42, (Or.inl ⟨c_44, ⟨y_58, ty_58, ⟨rfl, rfl, rfl⟩⟩⟩)⟩⟩⟩⟩)), hW, hB_G_39, hF, (Fr.call9 (rs := [76, 97, 98]) (fs := [(66, 59), (66, 60), (66, 61), (66, 62), (66, 63)]) (Fr.call9 (rs := [76, 97, 98]) (fs := [(66, 59), (66, 60), (66, 61), (66, 62), (66, 63)]) Fr.rf hq_15 rfl rfl) hq_40 rfl rfl), hS, lv_sub hl [0, 1, 2, 3, 4, 5] rfl⟩
