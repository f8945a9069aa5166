theorem m49 : Cond.selects RX12 yX12_readAll yX12_readAll ∈ gd := gds_4 1 rfl
theorem m1598 : Cond.methodLink RX12 422 yX12_readAll ∈ gd := gdc_7_2 10 rfl gw_methodLink
theorem m1600 : Cond.instanceMethod yX12_readAll ∈ gd := gdc_7_2 12 rfl gw_instanceMethod
theorem m1601 : Cond.code yX12_readAll cX12_readAll 1 none ∈ gd := gdc_7_2 13 rfl gw_code
noncomputable def rbX12_pavement_0 : List (Nat × List Nat) := [(0, [42]), (1, [182, 1, 166]), (4, [42]), (5, [180, 0, 218]), (8, [158, 0, 5]), (11, [2]), (12, [172]), (13, [42]), (14, [42]), (15, [180, 1, 103]), (18, [181, 1, 169]), (21, [42]), (22, [42]), (23, [180, 1, 123]), (26, [181, 1, 172]), (29, [42]), (30, [42]), (31, [180, 1, 129]), (34, [181, 1, 175]), (37, [42]), (38, [42]), (39, [180, 1, 154]), (42, [181, 0, 105]), (45, [42])]
theorem rcX12_pavement_0 : dgo (lb cX12_pavement) 0 rbX12_pavement_0 = true := by decide +kernel
theorem dX12_pavement_0 : decode cX12_pavement 0 = .ok (.aload_n 0, 1) := dk_42 (dw rcX12_pavement_0 0 rfl)
theorem dX12_pavement_1 : decode cX12_pavement 1 = .ok (.invokevirtual 422, 3) := dk_182 (dw rcX12_pavement_0 1 rfl) rfl
theorem dX12_pavement_4 : decode cX12_pavement 4 = .ok (.aload_n 0, 1) := dk_42 (dw rcX12_pavement_0 2 rfl)
theorem dX12_pavement_5 : decode cX12_pavement 5 = .ok (.getfield 218, 3) := dk_180 (dw rcX12_pavement_0 3 rfl) rfl
theorem dX12_pavement_8 : decode cX12_pavement 8 = .ok (.ifCond .le 5, 3) := dk_158 (dw rcX12_pavement_0 4 rfl) rfl
theorem dX12_pavement_11 : decode cX12_pavement 11 = .ok (.iconst (-1), 1) := dk_2 (dw rcX12_pavement_0 5 rfl)
theorem dX12_pavement_12 : decode cX12_pavement 12 = .ok (.ireturn, 1) := dk_172 (dw rcX12_pavement_0 6 rfl)
theorem dX12_pavement_13 : decode cX12_pavement 13 = .ok (.aload_n 0, 1) := dk_42 (dw rcX12_pavement_0 7 rfl)
theorem dX12_pavement_14 : decode cX12_pavement 14 = .ok (.aload_n 0, 1) := dk_42 (dw rcX12_pavement_0 8 rfl)
theorem dX12_pavement_15 : decode cX12_pavement 15 = .ok (.getfield 359, 3) := dk_180 (dw rcX12_pavement_0 9 rfl) rfl
theorem dX12_pavement_18 : decode cX12_pavement 18 = .ok (.putfield 425, 3) := dk_181 (dw rcX12_pavement_0 10 rfl) rfl
theorem dX12_pavement_21 : decode cX12_pavement 21 = .ok (.aload_n 0, 1) := dk_42 (dw rcX12_pavement_0 11 rfl)
theorem dX12_pavement_22 : decode cX12_pavement 22 = .ok (.aload_n 0, 1) := dk_42 (dw rcX12_pavement_0 12 rfl)
theorem dX12_pavement_23 : decode cX12_pavement 23 = .ok (.getfield 379, 3) := dk_180 (dw rcX12_pavement_0 13 rfl) rfl
theorem dX12_pavement_26 : decode cX12_pavement 26 = .ok (.putfield 428, 3) := dk_181 (dw rcX12_pavement_0 14 rfl) rfl
theorem dX12_pavement_29 : decode cX12_pavement 29 = .ok (.aload_n 0, 1) := dk_42 (dw rcX12_pavement_0 15 rfl)
theorem dX12_pavement_30 : decode cX12_pavement 30 = .ok (.aload_n 0, 1) := dk_42 (dw rcX12_pavement_0 16 rfl)
theorem dX12_pavement_31 : decode cX12_pavement 31 = .ok (.getfield 385, 3) := dk_180 (dw rcX12_pavement_0 17 rfl) rfl
theorem dX12_pavement_34 : decode cX12_pavement 34 = .ok (.putfield 431, 3) := dk_181 (dw rcX12_pavement_0 18 rfl) rfl
theorem dX12_pavement_37 : decode cX12_pavement 37 = .ok (.aload_n 0, 1) := dk_42 (dw rcX12_pavement_0 19 rfl)
theorem dX12_pavement_38 : decode cX12_pavement 38 = .ok (.aload_n 0, 1) := dk_42 (dw rcX12_pavement_0 20 rfl)
theorem dX12_pavement_39 : decode cX12_pavement 39 = .ok (.getfield 410, 3) := dk_180 (dw rcX12_pavement_0 21 rfl) rfl
theorem dX12_pavement_42 : decode cX12_pavement 42 = .ok (.putfield 105, 3) := dk_181 (dw rcX12_pavement_0 22 rfl) rfl
theorem dX12_pavement_45 : decode cX12_pavement 45 = .ok (.aload_n 0, 1) := dk_42 (dw rcX12_pavement_0 23 rfl)
noncomputable def rbX12_pavement_46 : List (Nat × List Nat) := [(46, [42]), (47, [180, 1, 157]), (50, [181, 0, 108]), (53, [42]), (54, [42]), (55, [180, 1, 56]), (58, [181, 1, 178]), (61, [3]), (62, [60]), (63, [27]), (64, [6]), (65, [162, 0, 21]), (68, [42]), (69, [180, 0, 102]), (72, [27]), (73, [42]), (74, [180, 0, 72]), (77, [27]), (78, [46]), (79, [79]), (80, [132, 1, 1]), (83, [167, 255, 236]), (86, [3]), (87, [60])]
theorem rcX12_pavement_46 : dgo (lb cX12_pavement) 0 rbX12_pavement_46 = true := by decide +kernel
theorem dX12_pavement_46 : decode cX12_pavement 46 = .ok (.aload_n 0, 1) := dk_42 (dw rcX12_pavement_46 0 rfl)
theorem dX12_pavement_47 : decode cX12_pavement 47 = .ok (.getfield 413, 3) := dk_180 (dw rcX12_pavement_46 1 rfl) rfl
theorem dX12_pavement_50 : decode cX12_pavement 50 = .ok (.putfield 108, 3) := dk_181 (dw rcX12_pavement_46 2 rfl) rfl
theorem dX12_pavement_53 : decode cX12_pavement 53 = .ok (.aload_n 0, 1) := dk_42 (dw rcX12_pavement_46 3 rfl)
theorem dX12_pavement_54 : decode cX12_pavement 54 = .ok (.aload_n 0, 1) := dk_42 (dw rcX12_pavement_46 4 rfl)
theorem dX12_pavement_55 : decode cX12_pavement 55 = .ok (.getfield 312, 3) := dk_180 (dw rcX12_pavement_46 5 rfl) rfl
theorem dX12_pavement_58 : decode cX12_pavement 58 = .ok (.putfield 434, 3) := dk_181 (dw rcX12_pavement_46 6 rfl) rfl
theorem dX12_pavement_61 : decode cX12_pavement 61 = .ok (.iconst 0, 1) := dk_3 (dw rcX12_pavement_46 7 rfl)
theorem dX12_pavement_62 : decode cX12_pavement 62 = .ok (.istore_n 1, 1) := dk_60 (dw rcX12_pavement_46 8 rfl)
theorem dX12_pavement_63 : decode cX12_pavement 63 = .ok (.iload_n 1, 1) := dk_27 (dw rcX12_pavement_46 9 rfl)
theorem dX12_pavement_64 : decode cX12_pavement 64 = .ok (.iconst 3, 1) := dk_6 (dw rcX12_pavement_46 10 rfl)
theorem dX12_pavement_65 : decode cX12_pavement 65 = .ok (.if_icmp .ge 21, 3) := dk_162 (dw rcX12_pavement_46 11 rfl) rfl
theorem dX12_pavement_68 : decode cX12_pavement 68 = .ok (.aload_n 0, 1) := dk_42 (dw rcX12_pavement_46 12 rfl)
theorem dX12_pavement_69 : decode cX12_pavement 69 = .ok (.getfield 102, 3) := dk_180 (dw rcX12_pavement_46 13 rfl) rfl
theorem dX12_pavement_72 : decode cX12_pavement 72 = .ok (.iload_n 1, 1) := dk_27 (dw rcX12_pavement_46 14 rfl)
theorem dX12_pavement_73 : decode cX12_pavement 73 = .ok (.aload_n 0, 1) := dk_42 (dw rcX12_pavement_46 15 rfl)
theorem dX12_pavement_74 : decode cX12_pavement 74 = .ok (.getfield 72, 3) := dk_180 (dw rcX12_pavement_46 16 rfl) rfl
theorem dX12_pavement_77 : decode cX12_pavement 77 = .ok (.iload_n 1, 1) := dk_27 (dw rcX12_pavement_46 17 rfl)
theorem dX12_pavement_78 : decode cX12_pavement 78 = .ok (.iaload, 1) := dk_46 (dw rcX12_pavement_46 18 rfl)
theorem dX12_pavement_79 : decode cX12_pavement 79 = .ok (.iastore, 1) := dk_79 (dw rcX12_pavement_46 19 rfl)
theorem dX12_pavement_80 : decode cX12_pavement 80 = .ok (.iinc 1 1, 3) := dk_132 (dw rcX12_pavement_46 20 rfl) rfl
theorem dX12_pavement_83 : decode cX12_pavement 83 = .ok (.goto (-20), 3) := dk_167 (dw rcX12_pavement_46 21 rfl) rfl
theorem dX12_pavement_86 : decode cX12_pavement 86 = .ok (.iconst 0, 1) := dk_3 (dw rcX12_pavement_46 22 rfl)
theorem dX12_pavement_87 : decode cX12_pavement 87 = .ok (.istore_n 1, 1) := dk_60 (dw rcX12_pavement_46 23 rfl)
noncomputable def rbX12_pavement_88 : List (Nat × List Nat) := [(88, [27]), (89, [42]), (90, [180, 1, 175]), (93, [162, 0, 73]), (96, [42]), (97, [180, 0, 36]), (100, [27]), (101, [42]), (102, [180, 0, 27]), (105, [27]), (106, [46]), (107, [79]), (108, [17, 1, 64]), (111, [27]), (112, [104]), (113, [61]), (114, [28]), (115, [17, 1, 64]), (118, [27]), (119, [104]), (120, [42]), (121, [180, 0, 36]), (124, [27]), (125, [46])]
theorem rcX12_pavement_88 : dgo (lb cX12_pavement) 0 rbX12_pavement_88 = true := by decide +kernel
theorem dX12_pavement_88 : decode cX12_pavement 88 = .ok (.iload_n 1, 1) := dk_27 (dw rcX12_pavement_88 0 rfl)
theorem dX12_pavement_89 : decode cX12_pavement 89 = .ok (.aload_n 0, 1) := dk_42 (dw rcX12_pavement_88 1 rfl)
theorem dX12_pavement_90 : decode cX12_pavement 90 = .ok (.getfield 431, 3) := dk_180 (dw rcX12_pavement_88 2 rfl) rfl
theorem dX12_pavement_93 : decode cX12_pavement 93 = .ok (.if_icmp .ge 73, 3) := dk_162 (dw rcX12_pavement_88 3 rfl) rfl
theorem dX12_pavement_96 : decode cX12_pavement 96 = .ok (.aload_n 0, 1) := dk_42 (dw rcX12_pavement_88 4 rfl)
theorem dX12_pavement_97 : decode cX12_pavement 97 = .ok (.getfield 36, 3) := dk_180 (dw rcX12_pavement_88 5 rfl) rfl
theorem dX12_pavement_100 : decode cX12_pavement 100 = .ok (.iload_n 1, 1) := dk_27 (dw rcX12_pavement_88 6 rfl)
theorem dX12_pavement_101 : decode cX12_pavement 101 = .ok (.aload_n 0, 1) := dk_42 (dw rcX12_pavement_88 7 rfl)
theorem dX12_pavement_102 : decode cX12_pavement 102 = .ok (.getfield 27, 3) := dk_180 (dw rcX12_pavement_88 8 rfl) rfl
theorem dX12_pavement_105 : decode cX12_pavement 105 = .ok (.iload_n 1, 1) := dk_27 (dw rcX12_pavement_88 9 rfl)
theorem dX12_pavement_106 : decode cX12_pavement 106 = .ok (.iaload, 1) := dk_46 (dw rcX12_pavement_88 10 rfl)
theorem dX12_pavement_107 : decode cX12_pavement 107 = .ok (.iastore, 1) := dk_79 (dw rcX12_pavement_88 11 rfl)
theorem dX12_pavement_108 : decode cX12_pavement 108 = .ok (.sipush 320, 3) := dk_17 (dw rcX12_pavement_88 12 rfl) rfl
theorem dX12_pavement_111 : decode cX12_pavement 111 = .ok (.iload_n 1, 1) := dk_27 (dw rcX12_pavement_88 13 rfl)
theorem dX12_pavement_112 : decode cX12_pavement 112 = .ok (.imul, 1) := dk_104 (dw rcX12_pavement_88 14 rfl)
theorem dX12_pavement_113 : decode cX12_pavement 113 = .ok (.istore_n 2, 1) := dk_61 (dw rcX12_pavement_88 15 rfl)
theorem dX12_pavement_114 : decode cX12_pavement 114 = .ok (.iload_n 2, 1) := dk_28 (dw rcX12_pavement_88 16 rfl)
theorem dX12_pavement_115 : decode cX12_pavement 115 = .ok (.sipush 320, 3) := dk_17 (dw rcX12_pavement_88 17 rfl) rfl
theorem dX12_pavement_118 : decode cX12_pavement 118 = .ok (.iload_n 1, 1) := dk_27 (dw rcX12_pavement_88 18 rfl)
theorem dX12_pavement_119 : decode cX12_pavement 119 = .ok (.imul, 1) := dk_104 (dw rcX12_pavement_88 19 rfl)
theorem dX12_pavement_120 : decode cX12_pavement 120 = .ok (.aload_n 0, 1) := dk_42 (dw rcX12_pavement_88 20 rfl)
theorem dX12_pavement_121 : decode cX12_pavement 121 = .ok (.getfield 36, 3) := dk_180 (dw rcX12_pavement_88 21 rfl) rfl
theorem dX12_pavement_124 : decode cX12_pavement 124 = .ok (.iload_n 1, 1) := dk_27 (dw rcX12_pavement_88 22 rfl)
theorem dX12_pavement_125 : decode cX12_pavement 125 = .ok (.iaload, 1) := dk_46 (dw rcX12_pavement_88 23 rfl)
noncomputable def rbX12_pavement_126 : List (Nat × List Nat) := [(126, [96]), (127, [162, 0, 33]), (130, [42]), (131, [180, 0, 30]), (134, [28]), (135, [42]), (136, [180, 0, 21]), (139, [28]), (140, [46]), (141, [79]), (142, [42]), (143, [180, 0, 33]), (146, [28]), (147, [42]), (148, [180, 0, 24]), (151, [28]), (152, [46]), (153, [79]), (154, [132, 2, 1]), (157, [167, 255, 213]), (160, [132, 1, 1]), (163, [167, 255, 181]), (166, [3]), (167, [60])]
theorem rcX12_pavement_126 : dgo (lb cX12_pavement) 0 rbX12_pavement_126 = true := by decide +kernel
theorem dX12_pavement_126 : decode cX12_pavement 126 = .ok (.iadd, 1) := dk_96 (dw rcX12_pavement_126 0 rfl)
theorem dX12_pavement_127 : decode cX12_pavement 127 = .ok (.if_icmp .ge 33, 3) := dk_162 (dw rcX12_pavement_126 1 rfl) rfl
theorem dX12_pavement_130 : decode cX12_pavement 130 = .ok (.aload_n 0, 1) := dk_42 (dw rcX12_pavement_126 2 rfl)
theorem dX12_pavement_131 : decode cX12_pavement 131 = .ok (.getfield 30, 3) := dk_180 (dw rcX12_pavement_126 3 rfl) rfl
theorem dX12_pavement_134 : decode cX12_pavement 134 = .ok (.iload_n 2, 1) := dk_28 (dw rcX12_pavement_126 4 rfl)
theorem dX12_pavement_135 : decode cX12_pavement 135 = .ok (.aload_n 0, 1) := dk_42 (dw rcX12_pavement_126 5 rfl)
theorem dX12_pavement_136 : decode cX12_pavement 136 = .ok (.getfield 21, 3) := dk_180 (dw rcX12_pavement_126 6 rfl) rfl
theorem dX12_pavement_139 : decode cX12_pavement 139 = .ok (.iload_n 2, 1) := dk_28 (dw rcX12_pavement_126 7 rfl)
theorem dX12_pavement_140 : decode cX12_pavement 140 = .ok (.iaload, 1) := dk_46 (dw rcX12_pavement_126 8 rfl)
theorem dX12_pavement_141 : decode cX12_pavement 141 = .ok (.iastore, 1) := dk_79 (dw rcX12_pavement_126 9 rfl)
theorem dX12_pavement_142 : decode cX12_pavement 142 = .ok (.aload_n 0, 1) := dk_42 (dw rcX12_pavement_126 10 rfl)
theorem dX12_pavement_143 : decode cX12_pavement 143 = .ok (.getfield 33, 3) := dk_180 (dw rcX12_pavement_126 11 rfl) rfl
theorem dX12_pavement_146 : decode cX12_pavement 146 = .ok (.iload_n 2, 1) := dk_28 (dw rcX12_pavement_126 12 rfl)
theorem dX12_pavement_147 : decode cX12_pavement 147 = .ok (.aload_n 0, 1) := dk_42 (dw rcX12_pavement_126 13 rfl)
theorem dX12_pavement_148 : decode cX12_pavement 148 = .ok (.getfield 24, 3) := dk_180 (dw rcX12_pavement_126 14 rfl) rfl
theorem dX12_pavement_151 : decode cX12_pavement 151 = .ok (.iload_n 2, 1) := dk_28 (dw rcX12_pavement_126 15 rfl)
theorem dX12_pavement_152 : decode cX12_pavement 152 = .ok (.iaload, 1) := dk_46 (dw rcX12_pavement_126 16 rfl)
theorem dX12_pavement_153 : decode cX12_pavement 153 = .ok (.iastore, 1) := dk_79 (dw rcX12_pavement_126 17 rfl)
theorem dX12_pavement_154 : decode cX12_pavement 154 = .ok (.iinc 2 1, 3) := dk_132 (dw rcX12_pavement_126 18 rfl) rfl
theorem dX12_pavement_157 : decode cX12_pavement 157 = .ok (.goto (-43), 3) := dk_167 (dw rcX12_pavement_126 19 rfl) rfl
theorem dX12_pavement_160 : decode cX12_pavement 160 = .ok (.iinc 1 1, 3) := dk_132 (dw rcX12_pavement_126 20 rfl) rfl
theorem dX12_pavement_163 : decode cX12_pavement 163 = .ok (.goto (-75), 3) := dk_167 (dw rcX12_pavement_126 21 rfl) rfl
theorem dX12_pavement_166 : decode cX12_pavement 166 = .ok (.iconst 0, 1) := dk_3 (dw rcX12_pavement_126 22 rfl)
theorem dX12_pavement_167 : decode cX12_pavement 167 = .ok (.istore_n 1, 1) := dk_60 (dw rcX12_pavement_126 23 rfl)
noncomputable def rbX12_pavement_168 : List (Nat × List Nat) := [(168, [27]), (169, [42]), (170, [180, 1, 169]), (173, [162, 0, 97]), (176, [42]), (177, [180, 0, 87]), (180, [27]), (181, [42]), (182, [180, 0, 57]), (185, [27]), (186, [46]), (187, [79]), (188, [17, 1, 144]), (191, [27]), (192, [104]), (193, [61]), (194, [28]), (195, [17, 1, 144]), (198, [27]), (199, [104]), (200, [42]), (201, [180, 0, 87]), (204, [27]), (205, [46])]
theorem rcX12_pavement_168 : dgo (lb cX12_pavement) 0 rbX12_pavement_168 = true := by decide +kernel
theorem dX12_pavement_168 : decode cX12_pavement 168 = .ok (.iload_n 1, 1) := dk_27 (dw rcX12_pavement_168 0 rfl)
theorem dX12_pavement_169 : decode cX12_pavement 169 = .ok (.aload_n 0, 1) := dk_42 (dw rcX12_pavement_168 1 rfl)
theorem dX12_pavement_170 : decode cX12_pavement 170 = .ok (.getfield 425, 3) := dk_180 (dw rcX12_pavement_168 2 rfl) rfl
theorem dX12_pavement_173 : decode cX12_pavement 173 = .ok (.if_icmp .ge 97, 3) := dk_162 (dw rcX12_pavement_168 3 rfl) rfl
theorem dX12_pavement_176 : decode cX12_pavement 176 = .ok (.aload_n 0, 1) := dk_42 (dw rcX12_pavement_168 4 rfl)
theorem dX12_pavement_177 : decode cX12_pavement 177 = .ok (.getfield 87, 3) := dk_180 (dw rcX12_pavement_168 5 rfl) rfl
theorem dX12_pavement_180 : decode cX12_pavement 180 = .ok (.iload_n 1, 1) := dk_27 (dw rcX12_pavement_168 6 rfl)
theorem dX12_pavement_181 : decode cX12_pavement 181 = .ok (.aload_n 0, 1) := dk_42 (dw rcX12_pavement_168 7 rfl)
theorem dX12_pavement_182 : decode cX12_pavement 182 = .ok (.getfield 57, 3) := dk_180 (dw rcX12_pavement_168 8 rfl) rfl
theorem dX12_pavement_185 : decode cX12_pavement 185 = .ok (.iload_n 1, 1) := dk_27 (dw rcX12_pavement_168 9 rfl)
theorem dX12_pavement_186 : decode cX12_pavement 186 = .ok (.iaload, 1) := dk_46 (dw rcX12_pavement_168 10 rfl)
theorem dX12_pavement_187 : decode cX12_pavement 187 = .ok (.iastore, 1) := dk_79 (dw rcX12_pavement_168 11 rfl)
theorem dX12_pavement_188 : decode cX12_pavement 188 = .ok (.sipush 400, 3) := dk_17 (dw rcX12_pavement_168 12 rfl) rfl
theorem dX12_pavement_191 : decode cX12_pavement 191 = .ok (.iload_n 1, 1) := dk_27 (dw rcX12_pavement_168 13 rfl)
theorem dX12_pavement_192 : decode cX12_pavement 192 = .ok (.imul, 1) := dk_104 (dw rcX12_pavement_168 14 rfl)
theorem dX12_pavement_193 : decode cX12_pavement 193 = .ok (.istore_n 2, 1) := dk_61 (dw rcX12_pavement_168 15 rfl)
theorem dX12_pavement_194 : decode cX12_pavement 194 = .ok (.iload_n 2, 1) := dk_28 (dw rcX12_pavement_168 16 rfl)
theorem dX12_pavement_195 : decode cX12_pavement 195 = .ok (.sipush 400, 3) := dk_17 (dw rcX12_pavement_168 17 rfl) rfl
theorem dX12_pavement_198 : decode cX12_pavement 198 = .ok (.iload_n 1, 1) := dk_27 (dw rcX12_pavement_168 18 rfl)
theorem dX12_pavement_199 : decode cX12_pavement 199 = .ok (.imul, 1) := dk_104 (dw rcX12_pavement_168 19 rfl)
theorem dX12_pavement_200 : decode cX12_pavement 200 = .ok (.aload_n 0, 1) := dk_42 (dw rcX12_pavement_168 20 rfl)
theorem dX12_pavement_201 : decode cX12_pavement 201 = .ok (.getfield 87, 3) := dk_180 (dw rcX12_pavement_168 21 rfl) rfl
theorem dX12_pavement_204 : decode cX12_pavement 204 = .ok (.iload_n 1, 1) := dk_27 (dw rcX12_pavement_168 22 rfl)
theorem dX12_pavement_205 : decode cX12_pavement 205 = .ok (.iaload, 1) := dk_46 (dw rcX12_pavement_168 23 rfl)
noncomputable def rbX12_pavement_206 : List (Nat × List Nat) := [(206, [96]), (207, [162, 0, 57]), (210, [42]), (211, [180, 0, 75]), (214, [28]), (215, [42]), (216, [180, 0, 45]), (219, [28]), (220, [46]), (221, [79]), (222, [42]), (223, [180, 0, 78]), (226, [28]), (227, [42]), (228, [180, 0, 48]), (231, [28]), (232, [46]), (233, [79]), (234, [42]), (235, [180, 0, 81]), (238, [28]), (239, [42]), (240, [180, 0, 51]), (243, [28])]
theorem rcX12_pavement_206 : dgo (lb cX12_pavement) 0 rbX12_pavement_206 = true := by decide +kernel
theorem dX12_pavement_206 : decode cX12_pavement 206 = .ok (.iadd, 1) := dk_96 (dw rcX12_pavement_206 0 rfl)
theorem dX12_pavement_207 : decode cX12_pavement 207 = .ok (.if_icmp .ge 57, 3) := dk_162 (dw rcX12_pavement_206 1 rfl) rfl
theorem dX12_pavement_210 : decode cX12_pavement 210 = .ok (.aload_n 0, 1) := dk_42 (dw rcX12_pavement_206 2 rfl)
theorem dX12_pavement_211 : decode cX12_pavement 211 = .ok (.getfield 75, 3) := dk_180 (dw rcX12_pavement_206 3 rfl) rfl
theorem dX12_pavement_214 : decode cX12_pavement 214 = .ok (.iload_n 2, 1) := dk_28 (dw rcX12_pavement_206 4 rfl)
theorem dX12_pavement_215 : decode cX12_pavement 215 = .ok (.aload_n 0, 1) := dk_42 (dw rcX12_pavement_206 5 rfl)
theorem dX12_pavement_216 : decode cX12_pavement 216 = .ok (.getfield 45, 3) := dk_180 (dw rcX12_pavement_206 6 rfl) rfl
theorem dX12_pavement_219 : decode cX12_pavement 219 = .ok (.iload_n 2, 1) := dk_28 (dw rcX12_pavement_206 7 rfl)
theorem dX12_pavement_220 : decode cX12_pavement 220 = .ok (.iaload, 1) := dk_46 (dw rcX12_pavement_206 8 rfl)
theorem dX12_pavement_221 : decode cX12_pavement 221 = .ok (.iastore, 1) := dk_79 (dw rcX12_pavement_206 9 rfl)
theorem dX12_pavement_222 : decode cX12_pavement 222 = .ok (.aload_n 0, 1) := dk_42 (dw rcX12_pavement_206 10 rfl)
theorem dX12_pavement_223 : decode cX12_pavement 223 = .ok (.getfield 78, 3) := dk_180 (dw rcX12_pavement_206 11 rfl) rfl
theorem dX12_pavement_226 : decode cX12_pavement 226 = .ok (.iload_n 2, 1) := dk_28 (dw rcX12_pavement_206 12 rfl)
theorem dX12_pavement_227 : decode cX12_pavement 227 = .ok (.aload_n 0, 1) := dk_42 (dw rcX12_pavement_206 13 rfl)
theorem dX12_pavement_228 : decode cX12_pavement 228 = .ok (.getfield 48, 3) := dk_180 (dw rcX12_pavement_206 14 rfl) rfl
theorem dX12_pavement_231 : decode cX12_pavement 231 = .ok (.iload_n 2, 1) := dk_28 (dw rcX12_pavement_206 15 rfl)
theorem dX12_pavement_232 : decode cX12_pavement 232 = .ok (.iaload, 1) := dk_46 (dw rcX12_pavement_206 16 rfl)
theorem dX12_pavement_233 : decode cX12_pavement 233 = .ok (.iastore, 1) := dk_79 (dw rcX12_pavement_206 17 rfl)
theorem dX12_pavement_234 : decode cX12_pavement 234 = .ok (.aload_n 0, 1) := dk_42 (dw rcX12_pavement_206 18 rfl)
theorem dX12_pavement_235 : decode cX12_pavement 235 = .ok (.getfield 81, 3) := dk_180 (dw rcX12_pavement_206 19 rfl) rfl
theorem dX12_pavement_238 : decode cX12_pavement 238 = .ok (.iload_n 2, 1) := dk_28 (dw rcX12_pavement_206 20 rfl)
theorem dX12_pavement_239 : decode cX12_pavement 239 = .ok (.aload_n 0, 1) := dk_42 (dw rcX12_pavement_206 21 rfl)
theorem dX12_pavement_240 : decode cX12_pavement 240 = .ok (.getfield 51, 3) := dk_180 (dw rcX12_pavement_206 22 rfl) rfl
theorem dX12_pavement_243 : decode cX12_pavement 243 = .ok (.iload_n 2, 1) := dk_28 (dw rcX12_pavement_206 23 rfl)
noncomputable def rbX12_pavement_244 : List (Nat × List Nat) := [(244, [46]), (245, [79]), (246, [42]), (247, [180, 0, 84]), (250, [28]), (251, [42]), (252, [180, 0, 54]), (255, [28]), (256, [46]), (257, [79]), (258, [132, 2, 1]), (261, [167, 255, 189]), (264, [132, 1, 1]), (267, [167, 255, 157]), (270, [3]), (271, [60]), (272, [27]), (273, [42]), (274, [180, 1, 172]), (277, [162, 0, 57]), (280, [42]), (281, [180, 0, 90]), (284, [27]), (285, [42])]
theorem rcX12_pavement_244 : dgo (lb cX12_pavement) 0 rbX12_pavement_244 = true := by decide +kernel
theorem dX12_pavement_244 : decode cX12_pavement 244 = .ok (.iaload, 1) := dk_46 (dw rcX12_pavement_244 0 rfl)
theorem dX12_pavement_245 : decode cX12_pavement 245 = .ok (.iastore, 1) := dk_79 (dw rcX12_pavement_244 1 rfl)
theorem dX12_pavement_246 : decode cX12_pavement 246 = .ok (.aload_n 0, 1) := dk_42 (dw rcX12_pavement_244 2 rfl)
theorem dX12_pavement_247 : decode cX12_pavement 247 = .ok (.getfield 84, 3) := dk_180 (dw rcX12_pavement_244 3 rfl) rfl
theorem dX12_pavement_250 : decode cX12_pavement 250 = .ok (.iload_n 2, 1) := dk_28 (dw rcX12_pavement_244 4 rfl)
theorem dX12_pavement_251 : decode cX12_pavement 251 = .ok (.aload_n 0, 1) := dk_42 (dw rcX12_pavement_244 5 rfl)
theorem dX12_pavement_252 : decode cX12_pavement 252 = .ok (.getfield 54, 3) := dk_180 (dw rcX12_pavement_244 6 rfl) rfl
theorem dX12_pavement_255 : decode cX12_pavement 255 = .ok (.iload_n 2, 1) := dk_28 (dw rcX12_pavement_244 7 rfl)
theorem dX12_pavement_256 : decode cX12_pavement 256 = .ok (.iaload, 1) := dk_46 (dw rcX12_pavement_244 8 rfl)
theorem dX12_pavement_257 : decode cX12_pavement 257 = .ok (.iastore, 1) := dk_79 (dw rcX12_pavement_244 9 rfl)
theorem dX12_pavement_258 : decode cX12_pavement 258 = .ok (.iinc 2 1, 3) := dk_132 (dw rcX12_pavement_244 10 rfl) rfl
theorem dX12_pavement_261 : decode cX12_pavement 261 = .ok (.goto (-67), 3) := dk_167 (dw rcX12_pavement_244 11 rfl) rfl
theorem dX12_pavement_264 : decode cX12_pavement 264 = .ok (.iinc 1 1, 3) := dk_132 (dw rcX12_pavement_244 12 rfl) rfl
theorem dX12_pavement_267 : decode cX12_pavement 267 = .ok (.goto (-99), 3) := dk_167 (dw rcX12_pavement_244 13 rfl) rfl
theorem dX12_pavement_270 : decode cX12_pavement 270 = .ok (.iconst 0, 1) := dk_3 (dw rcX12_pavement_244 14 rfl)
theorem dX12_pavement_271 : decode cX12_pavement 271 = .ok (.istore_n 1, 1) := dk_60 (dw rcX12_pavement_244 15 rfl)
theorem dX12_pavement_272 : decode cX12_pavement 272 = .ok (.iload_n 1, 1) := dk_27 (dw rcX12_pavement_244 16 rfl)
theorem dX12_pavement_273 : decode cX12_pavement 273 = .ok (.aload_n 0, 1) := dk_42 (dw rcX12_pavement_244 17 rfl)
theorem dX12_pavement_274 : decode cX12_pavement 274 = .ok (.getfield 428, 3) := dk_180 (dw rcX12_pavement_244 18 rfl) rfl
theorem dX12_pavement_277 : decode cX12_pavement 277 = .ok (.if_icmp .ge 57, 3) := dk_162 (dw rcX12_pavement_244 19 rfl) rfl
theorem dX12_pavement_280 : decode cX12_pavement 280 = .ok (.aload_n 0, 1) := dk_42 (dw rcX12_pavement_244 20 rfl)
theorem dX12_pavement_281 : decode cX12_pavement 281 = .ok (.getfield 90, 3) := dk_180 (dw rcX12_pavement_244 21 rfl) rfl
theorem dX12_pavement_284 : decode cX12_pavement 284 = .ok (.iload_n 1, 1) := dk_27 (dw rcX12_pavement_244 22 rfl)
theorem dX12_pavement_285 : decode cX12_pavement 285 = .ok (.aload_n 0, 1) := dk_42 (dw rcX12_pavement_244 23 rfl)
noncomputable def rbX12_pavement_286 : List (Nat × List Nat) := [(286, [180, 0, 60]), (289, [27]), (290, [46]), (291, [79]), (292, [42]), (293, [180, 0, 93]), (296, [27]), (297, [42]), (298, [180, 0, 63]), (301, [27]), (302, [46]), (303, [79]), (304, [42]), (305, [180, 0, 96]), (308, [27]), (309, [42]), (310, [180, 0, 66]), (313, [27]), (314, [46]), (315, [79]), (316, [42]), (317, [180, 0, 99]), (320, [27]), (321, [42])]
theorem rcX12_pavement_286 : dgo (lb cX12_pavement) 0 rbX12_pavement_286 = true := by decide +kernel
theorem dX12_pavement_286 : decode cX12_pavement 286 = .ok (.getfield 60, 3) := dk_180 (dw rcX12_pavement_286 0 rfl) rfl
theorem dX12_pavement_289 : decode cX12_pavement 289 = .ok (.iload_n 1, 1) := dk_27 (dw rcX12_pavement_286 1 rfl)
theorem dX12_pavement_290 : decode cX12_pavement 290 = .ok (.iaload, 1) := dk_46 (dw rcX12_pavement_286 2 rfl)
theorem dX12_pavement_291 : decode cX12_pavement 291 = .ok (.iastore, 1) := dk_79 (dw rcX12_pavement_286 3 rfl)
theorem dX12_pavement_292 : decode cX12_pavement 292 = .ok (.aload_n 0, 1) := dk_42 (dw rcX12_pavement_286 4 rfl)
theorem dX12_pavement_293 : decode cX12_pavement 293 = .ok (.getfield 93, 3) := dk_180 (dw rcX12_pavement_286 5 rfl) rfl
theorem dX12_pavement_296 : decode cX12_pavement 296 = .ok (.iload_n 1, 1) := dk_27 (dw rcX12_pavement_286 6 rfl)
theorem dX12_pavement_297 : decode cX12_pavement 297 = .ok (.aload_n 0, 1) := dk_42 (dw rcX12_pavement_286 7 rfl)
theorem dX12_pavement_298 : decode cX12_pavement 298 = .ok (.getfield 63, 3) := dk_180 (dw rcX12_pavement_286 8 rfl) rfl
theorem dX12_pavement_301 : decode cX12_pavement 301 = .ok (.iload_n 1, 1) := dk_27 (dw rcX12_pavement_286 9 rfl)
theorem dX12_pavement_302 : decode cX12_pavement 302 = .ok (.iaload, 1) := dk_46 (dw rcX12_pavement_286 10 rfl)
theorem dX12_pavement_303 : decode cX12_pavement 303 = .ok (.iastore, 1) := dk_79 (dw rcX12_pavement_286 11 rfl)
theorem dX12_pavement_304 : decode cX12_pavement 304 = .ok (.aload_n 0, 1) := dk_42 (dw rcX12_pavement_286 12 rfl)
theorem dX12_pavement_305 : decode cX12_pavement 305 = .ok (.getfield 96, 3) := dk_180 (dw rcX12_pavement_286 13 rfl) rfl
theorem dX12_pavement_308 : decode cX12_pavement 308 = .ok (.iload_n 1, 1) := dk_27 (dw rcX12_pavement_286 14 rfl)
theorem dX12_pavement_309 : decode cX12_pavement 309 = .ok (.aload_n 0, 1) := dk_42 (dw rcX12_pavement_286 15 rfl)
theorem dX12_pavement_310 : decode cX12_pavement 310 = .ok (.getfield 66, 3) := dk_180 (dw rcX12_pavement_286 16 rfl) rfl
theorem dX12_pavement_313 : decode cX12_pavement 313 = .ok (.iload_n 1, 1) := dk_27 (dw rcX12_pavement_286 17 rfl)
theorem dX12_pavement_314 : decode cX12_pavement 314 = .ok (.iaload, 1) := dk_46 (dw rcX12_pavement_286 18 rfl)
theorem dX12_pavement_315 : decode cX12_pavement 315 = .ok (.iastore, 1) := dk_79 (dw rcX12_pavement_286 19 rfl)
theorem dX12_pavement_316 : decode cX12_pavement 316 = .ok (.aload_n 0, 1) := dk_42 (dw rcX12_pavement_286 20 rfl)
theorem dX12_pavement_317 : decode cX12_pavement 317 = .ok (.getfield 99, 3) := dk_180 (dw rcX12_pavement_286 21 rfl) rfl
theorem dX12_pavement_320 : decode cX12_pavement 320 = .ok (.iload_n 1, 1) := dk_27 (dw rcX12_pavement_286 22 rfl)
theorem dX12_pavement_321 : decode cX12_pavement 321 = .ok (.aload_n 0, 1) := dk_42 (dw rcX12_pavement_286 23 rfl)
noncomputable def rbX12_pavement_322 : List (Nat × List Nat) := [(322, [180, 0, 69]), (325, [27]), (326, [46]), (327, [79]), (328, [132, 1, 1]), (331, [167, 255, 197]), (334, [3]), (335, [60]), (336, [27]), (337, [16, 10]), (339, [162, 0, 16]), (342, [42]), (343, [180, 0, 151]), (346, [27]), (347, [3]), (348, [79]), (349, [132, 1, 1]), (352, [167, 255, 240]), (355, [42]), (356, [180, 0, 151]), (359, [3]), (360, [2]), (361, [79]), (362, [42])]
theorem rcX12_pavement_322 : dgo (lb cX12_pavement) 0 rbX12_pavement_322 = true := by decide +kernel
theorem dX12_pavement_322 : decode cX12_pavement 322 = .ok (.getfield 69, 3) := dk_180 (dw rcX12_pavement_322 0 rfl) rfl
theorem dX12_pavement_325 : decode cX12_pavement 325 = .ok (.iload_n 1, 1) := dk_27 (dw rcX12_pavement_322 1 rfl)
theorem dX12_pavement_326 : decode cX12_pavement 326 = .ok (.iaload, 1) := dk_46 (dw rcX12_pavement_322 2 rfl)
theorem dX12_pavement_327 : decode cX12_pavement 327 = .ok (.iastore, 1) := dk_79 (dw rcX12_pavement_322 3 rfl)
theorem dX12_pavement_328 : decode cX12_pavement 328 = .ok (.iinc 1 1, 3) := dk_132 (dw rcX12_pavement_322 4 rfl) rfl
theorem dX12_pavement_331 : decode cX12_pavement 331 = .ok (.goto (-59), 3) := dk_167 (dw rcX12_pavement_322 5 rfl) rfl
theorem dX12_pavement_334 : decode cX12_pavement 334 = .ok (.iconst 0, 1) := dk_3 (dw rcX12_pavement_322 6 rfl)
theorem dX12_pavement_335 : decode cX12_pavement 335 = .ok (.istore_n 1, 1) := dk_60 (dw rcX12_pavement_322 7 rfl)
theorem dX12_pavement_336 : decode cX12_pavement 336 = .ok (.iload_n 1, 1) := dk_27 (dw rcX12_pavement_322 8 rfl)
theorem dX12_pavement_337 : decode cX12_pavement 337 = .ok (.bipush 10, 2) := dk_16 (dw rcX12_pavement_322 9 rfl) rfl
theorem dX12_pavement_339 : decode cX12_pavement 339 = .ok (.if_icmp .ge 16, 3) := dk_162 (dw rcX12_pavement_322 10 rfl) rfl
theorem dX12_pavement_342 : decode cX12_pavement 342 = .ok (.aload_n 0, 1) := dk_42 (dw rcX12_pavement_322 11 rfl)
theorem dX12_pavement_343 : decode cX12_pavement 343 = .ok (.getfield 151, 3) := dk_180 (dw rcX12_pavement_322 12 rfl) rfl
theorem dX12_pavement_346 : decode cX12_pavement 346 = .ok (.iload_n 1, 1) := dk_27 (dw rcX12_pavement_322 13 rfl)
theorem dX12_pavement_347 : decode cX12_pavement 347 = .ok (.iconst 0, 1) := dk_3 (dw rcX12_pavement_322 14 rfl)
theorem dX12_pavement_348 : decode cX12_pavement 348 = .ok (.iastore, 1) := dk_79 (dw rcX12_pavement_322 15 rfl)
theorem dX12_pavement_349 : decode cX12_pavement 349 = .ok (.iinc 1 1, 3) := dk_132 (dw rcX12_pavement_322 16 rfl) rfl
theorem dX12_pavement_352 : decode cX12_pavement 352 = .ok (.goto (-16), 3) := dk_167 (dw rcX12_pavement_322 17 rfl) rfl
theorem dX12_pavement_355 : decode cX12_pavement 355 = .ok (.aload_n 0, 1) := dk_42 (dw rcX12_pavement_322 18 rfl)
theorem dX12_pavement_356 : decode cX12_pavement 356 = .ok (.getfield 151, 3) := dk_180 (dw rcX12_pavement_322 19 rfl) rfl
theorem dX12_pavement_359 : decode cX12_pavement 359 = .ok (.iconst 0, 1) := dk_3 (dw rcX12_pavement_322 20 rfl)
theorem dX12_pavement_360 : decode cX12_pavement 360 = .ok (.iconst (-1), 1) := dk_2 (dw rcX12_pavement_322 21 rfl)
theorem dX12_pavement_361 : decode cX12_pavement 361 = .ok (.iastore, 1) := dk_79 (dw rcX12_pavement_322 22 rfl)
theorem dX12_pavement_362 : decode cX12_pavement 362 = .ok (.aload_n 0, 1) := dk_42 (dw rcX12_pavement_322 23 rfl)
noncomputable def rbX12_pavement_363 : List (Nat × List Nat) := [(363, [180, 0, 151]), (366, [16, 7]), (368, [42]), (369, [180, 1, 160]), (372, [79]), (373, [42]), (374, [3]), (375, [181, 1, 181]), (378, [42]), (379, [3]), (380, [181, 1, 184]), (383, [42]), (384, [3]), (385, [181, 1, 187]), (388, [42]), (389, [3]), (390, [181, 1, 190]), (393, [3]), (394, [60]), (395, [27]), (396, [6]), (397, [162, 0, 16]), (400, [42]), (401, [180, 0, 172])]
theorem rcX12_pavement_363 : dgo (lb cX12_pavement) 0 rbX12_pavement_363 = true := by decide +kernel
theorem dX12_pavement_363 : decode cX12_pavement 363 = .ok (.getfield 151, 3) := dk_180 (dw rcX12_pavement_363 0 rfl) rfl
theorem dX12_pavement_366 : decode cX12_pavement 366 = .ok (.bipush 7, 2) := dk_16 (dw rcX12_pavement_363 1 rfl) rfl
theorem dX12_pavement_368 : decode cX12_pavement 368 = .ok (.aload_n 0, 1) := dk_42 (dw rcX12_pavement_363 2 rfl)
theorem dX12_pavement_369 : decode cX12_pavement 369 = .ok (.getfield 416, 3) := dk_180 (dw rcX12_pavement_363 3 rfl) rfl
theorem dX12_pavement_372 : decode cX12_pavement 372 = .ok (.iastore, 1) := dk_79 (dw rcX12_pavement_363 4 rfl)
theorem dX12_pavement_373 : decode cX12_pavement 373 = .ok (.aload_n 0, 1) := dk_42 (dw rcX12_pavement_363 5 rfl)
theorem dX12_pavement_374 : decode cX12_pavement 374 = .ok (.iconst 0, 1) := dk_3 (dw rcX12_pavement_363 6 rfl)
theorem dX12_pavement_375 : decode cX12_pavement 375 = .ok (.putfield 437, 3) := dk_181 (dw rcX12_pavement_363 7 rfl) rfl
theorem dX12_pavement_378 : decode cX12_pavement 378 = .ok (.aload_n 0, 1) := dk_42 (dw rcX12_pavement_363 8 rfl)
theorem dX12_pavement_379 : decode cX12_pavement 379 = .ok (.iconst 0, 1) := dk_3 (dw rcX12_pavement_363 9 rfl)
theorem dX12_pavement_380 : decode cX12_pavement 380 = .ok (.putfield 440, 3) := dk_181 (dw rcX12_pavement_363 10 rfl) rfl
theorem dX12_pavement_383 : decode cX12_pavement 383 = .ok (.aload_n 0, 1) := dk_42 (dw rcX12_pavement_363 11 rfl)
theorem dX12_pavement_384 : decode cX12_pavement 384 = .ok (.iconst 0, 1) := dk_3 (dw rcX12_pavement_363 12 rfl)
theorem dX12_pavement_385 : decode cX12_pavement 385 = .ok (.putfield 443, 3) := dk_181 (dw rcX12_pavement_363 13 rfl) rfl
theorem dX12_pavement_388 : decode cX12_pavement 388 = .ok (.aload_n 0, 1) := dk_42 (dw rcX12_pavement_363 14 rfl)
theorem dX12_pavement_389 : decode cX12_pavement 389 = .ok (.iconst 0, 1) := dk_3 (dw rcX12_pavement_363 15 rfl)
theorem dX12_pavement_390 : decode cX12_pavement 390 = .ok (.putfield 446, 3) := dk_181 (dw rcX12_pavement_363 16 rfl) rfl
theorem dX12_pavement_393 : decode cX12_pavement 393 = .ok (.iconst 0, 1) := dk_3 (dw rcX12_pavement_363 17 rfl)
theorem dX12_pavement_394 : decode cX12_pavement 394 = .ok (.istore_n 1, 1) := dk_60 (dw rcX12_pavement_363 18 rfl)
theorem dX12_pavement_395 : decode cX12_pavement 395 = .ok (.iload_n 1, 1) := dk_27 (dw rcX12_pavement_363 19 rfl)
theorem dX12_pavement_396 : decode cX12_pavement 396 = .ok (.iconst 3, 1) := dk_6 (dw rcX12_pavement_363 20 rfl)
theorem dX12_pavement_397 : decode cX12_pavement 397 = .ok (.if_icmp .ge 16, 3) := dk_162 (dw rcX12_pavement_363 21 rfl) rfl
theorem dX12_pavement_400 : decode cX12_pavement 400 = .ok (.aload_n 0, 1) := dk_42 (dw rcX12_pavement_363 22 rfl)
theorem dX12_pavement_401 : decode cX12_pavement 401 = .ok (.getfield 172, 3) := dk_180 (dw rcX12_pavement_363 23 rfl) rfl
noncomputable def rbX12_pavement_404 : List (Nat × List Nat) := [(404, [27]), (405, [3]), (406, [84]), (407, [132, 1, 1]), (410, [167, 255, 241]), (413, [42]), (414, [180, 1, 169]), (417, [172])]
theorem rcX12_pavement_404 : dgo (lb cX12_pavement) 0 rbX12_pavement_404 = true := by decide +kernel
theorem dX12_pavement_404 : decode cX12_pavement 404 = .ok (.iload_n 1, 1) := dk_27 (dw rcX12_pavement_404 0 rfl)
theorem dX12_pavement_405 : decode cX12_pavement 405 = .ok (.iconst 0, 1) := dk_3 (dw rcX12_pavement_404 1 rfl)
theorem dX12_pavement_406 : decode cX12_pavement 406 = .ok (.bastore, 1) := dk_84 (dw rcX12_pavement_404 2 rfl)
theorem dX12_pavement_407 : decode cX12_pavement 407 = .ok (.iinc 1 1, 3) := dk_132 (dw rcX12_pavement_404 3 rfl) rfl
theorem dX12_pavement_410 : decode cX12_pavement 410 = .ok (.goto (-15), 3) := dk_167 (dw rcX12_pavement_404 4 rfl) rfl
theorem dX12_pavement_413 : decode cX12_pavement 413 = .ok (.aload_n 0, 1) := dk_42 (dw rcX12_pavement_404 5 rfl)
theorem dX12_pavement_414 : decode cX12_pavement 414 = .ok (.getfield 425, 3) := dk_180 (dw rcX12_pavement_404 6 rfl) rfl
theorem dX12_pavement_417 : decode cX12_pavement 417 = .ok (.ireturn, 1) := dk_172 (dw rcX12_pavement_404 7 rfl)
set_option maxHeartbeats 4000000 in
set_option maxRecDepth 100000 in
theorem n_pavement (l : Launch) (D : va_G) (k : KT) (A : Nat → Prop) (a : Nat → Nat) (z : SK) (G : GS)  (hP9 : gP G = 1) (hW9 : gW G = 1) (hS9 : gS G = 1) (hac : (G.1 66 78).toInt + (G.1 66 79).toInt ≤ 40) (hsl : 1 ≤ (G.1 96 0).toInt + (G.1 96 1).toInt + (G.1 96 2).toInt) : Met l yX12_pavement (WS yX12_pavement cX12_pavement 3 (some .int)) ({ frames := 8, cells := 0, slots := 0, locals := 169 }) (va_Pc [.ref (a 66)] (cW D k A a z G)) (va_Qi (fun (r : Int32) (G1 : GS) => Q_pavement G r G1) (fun (G1 : GS) t => Wd D k A a G1 t.heap) A) 0 0 A := by
  refine Met.ofW (cc := cX12_pavement) (maxL := 3) (ret := (some .int)) (by decide) rfl ?_
  intro p e s m args below meth c s₁ B hml hv
  obtain ⟨rfl, hW, hB_G, hK, hZ⟩ := hv
  have hx := B.exec
  have hb := B.bytes
  have hr := B.returns
  have hts := atoms_spec (ws := WS yX12_pavement cX12_pavement 3 (some .int)) B.pre
  have hgd : ∀ w ∈ gd, w ∈ WS yX12_pavement cX12_pavement 3 (some .int) := fun w h => List.mem_cons_of_mem _ h
  have hg : ∀ w ∈ gd, w.before _ s = true := fun w h => hts w (hgd w h)
  have hown : s.vm.findClass RX12 = some m.cls := findClass_of_methodNamed B.named
  have hS : va_S A s.heap s.heap [] := va_S.rf
  have hF : Fr [110, 117, 68, 69, 70, 71, 72, 73, 74, 75, 77, 78, 79, 80, 81, 82, 83, 84, 85, 86, 87, 88, 89, 90, 91, 92, 93, 94, 95, 96] [(66, 1), (66, 2), (66, 3), (66, 4), (66, 5), (66, 6), (66, 7), (66, 8), (66, 9), (66, 19), (66, 20), (66, 21), (66, 22), (66, 23), (66, 24), (66, 45), (66, 46), (66, 47), (66, 48), (66, 49), (66, 50), (66, 51), (66, 52), (66, 53), (66, 54), (66, 55), (66, 56), (66, 66), (66, 78), (66, 79), (66, 85)] G G := Fr.rf
  have hl := lv_entry ([.ref (a 66)]) (n := 3) (Nat.le_of_ble_eq_true rfl)
  rw [lg_entry_eq]
  generalize (lg_sl ([.ref (a 66)]) ++ List.replicate (3 - (lg_sl ([.ref (a 66)])).length) Slot.unset).toArray = ls at hl ⊢
  have hl : lv_has ls 3 [(0, .ref (a 66))] := hl
  refine lv_aload_n hx hb dX12_pavement_0 rfl (lv_at hl 0 rfl) ?_
  refine S_callv (va_runV (As := []) (rest := []) ⟨hx, hb, hml, hown, hts⟩ (n_readAll l D k A a z G  ) (cwV 0 hts (gd_V hgd m1598 m1600 m49 m131 m1601) rfl rfl rfl hd_X12_readAll ⟨Nat.le_of_ble_eq_true rfl, Nat.le_of_ble_eq_true rfl⟩) (pre_W hW hB_G hK hZ hS kd_66 rfl) rfl rfl hl.1 rfl (lv_room (Nat.le_of_ble_eq_true rfl)) dX12_pavement_1 ⟨Nat.le_of_ble_eq_true rfl, Nat.le_of_ble_eq_true rfl⟩) hS (fun G_2 H locs hpo hW hS => ?_)
  have hX_5 : Q_readAll G G_2 := hpo
  obtain ⟨hB_G_2, hq_3, ⟨d_1, d_2⟩, -⟩ := hpo
  have hF := hF.call9 hq_3 rfl rfl
  refine lv_aload_n hx hb dX12_pavement_4 rfl (lv_at hl 0 rfl) ?_
  have b_6 : 0 ≤ (G_2.1 66 2).toInt ∧ (G_2.1 66 2).toInt ≤ 4 := bd_66_2 hB_G_2
  refine S_getI (v := (G_2.1 66 2)) (C := RX12) (T := TX12) (N := 89) hx hb hg iX12 hown hK hW kd_66 rfl 2 (lt_b rfl) (hg (Cond.fieldLink RX12 218 "SlabWalkModel" "fault" "I") m1316) (fun _ h9 => h9) rfl rfl dX12_pavement_5 ?_
  refine lv_if_le (tgt := 13) hx hb dX12_pavement_8 rfl (fun c_7 => ?_) (fun c_7 => ?_)
  · have c_7 : (G_2.1 66 2).toInt ≤ 0 := xI_le rfl rfl c_7
    refine lv_aload_n hx hb dX12_pavement_13 rfl (lv_at hl 0 rfl) ?_
    refine lv_aload_n hx hb dX12_pavement_14 rfl (lv_at hl 0 rfl) ?_
    have b_8 : 0 ≤ (G_2.1 66 45).toInt ∧ (G_2.1 66 45).toInt ≤ 3 := bd_66_45 hB_G_2
    refine S_getI (v := (G_2.1 66 45)) (C := RX12) (T := TX12) (N := 89) hx hb hg iX12 hown hK hW kd_66 rfl 45 (lt_b rfl) (hg (Cond.fieldLink RX12 359 "SlabWalkModel" "nStreets" "I") m1359) (fun _ h9 => h9) rfl rfl dX12_pavement_15 ?_
    refine S_putI (ty := .int) (C := RX12) (T := TX12) (N := 89) hx hb hg iX12 tyX12 tyX12_ok nmX12 hown hK hW hS kd_66 rfl 52 (lt_b rfl) (hg (Cond.fieldLink RX12 425 "SlabWalkModel" "streets" "I") m1366) (fun _ h9 => h9) rfl (by decide +kernel) rfl rfl rfl dX12_pavement_18 (fun G_9 H locs eG_9 hW hS => ?_)
    have hB_G_9 : Bd G_9 := hB_G_2.put (V := (G_2.1 66 45).toInt) (lo := 0) (hi := 3) eG_9 rfl rfl rfl ((by first | exact b_8.1 | omega)) ((by first | exact b_8.2 | omega)) (hB_G_2.2.put eG_9 rfl)
    have hF := hF.put eG_9 (Or.inr (by decide))
    refine lv_aload_n hx hb dX12_pavement_21 rfl (lv_at hl 0 rfl) ?_
    refine lv_aload_n hx hb dX12_pavement_22 rfl (lv_at hl 0 rfl) ?_
    have b_10 : 0 ≤ (G_2.1 66 46).toInt ∧ (G_2.1 66 46).toInt ≤ 4 := bd_66_46 hB_G_2
    refine S_getI (v := (G_2.1 66 46)) (C := RX12) (T := TX12) (N := 89) hx hb hg iX12 hown hK hW kd_66 rfl 46 (lt_b rfl) (hg (Cond.fieldLink RX12 379 "SlabWalkModel" "nWalkers" "I") m1360) (fun _ h9 => h9) rfl (gp_ne eG_9 (by decide)) dX12_pavement_23 ?_
    refine S_putI (ty := .int) (C := RX12) (T := TX12) (N := 89) hx hb hg iX12 tyX12 tyX12_ok nmX12 hown hK hW hS kd_66 rfl 53 (lt_b rfl) (hg (Cond.fieldLink RX12 428 "SlabWalkModel" "walkers" "I") m1367) (fun _ h9 => h9) rfl (by decide +kernel) rfl rfl rfl dX12_pavement_26 (fun G_11 H locs eG_11 hW hS => ?_)
    have hB_G_11 : Bd G_11 := hB_G_9.put (V := (G_2.1 66 46).toInt) (lo := 0) (hi := 4) eG_11 rfl rfl rfl ((by first | exact b_10.1 | omega)) ((by first | exact b_10.2 | omega)) (hB_G_9.2.put eG_11 rfl)
    have hF := hF.put eG_11 (Or.inr (by decide))
    refine lv_aload_n hx hb dX12_pavement_29 rfl (lv_at hl 0 rfl) ?_
    refine lv_aload_n hx hb dX12_pavement_30 rfl (lv_at hl 0 rfl) ?_
    have b_12 : 0 ≤ (G_2.1 66 47).toInt ∧ (G_2.1 66 47).toInt ≤ 6 := bd_66_47 hB_G_2
    refine S_getI (v := (G_2.1 66 47)) (C := RX12) (T := TX12) (N := 89) hx hb hg iX12 hown hK hW kd_66 rfl 47 (lt_b rfl) (hg (Cond.fieldLink RX12 385 "SlabWalkModel" "nRules" "I") m1361) (fun _ h9 => h9) rfl ((gp_ne eG_11 (by decide)).trans (gp_ne eG_9 (by decide))) dX12_pavement_31 ?_
    refine S_putI (ty := .int) (C := RX12) (T := TX12) (N := 89) hx hb hg iX12 tyX12 tyX12_ok nmX12 hown hK hW hS kd_66 rfl 54 (lt_b rfl) (hg (Cond.fieldLink RX12 431 "SlabWalkModel" "rules" "I") m1368) (fun _ h9 => h9) rfl (by decide +kernel) rfl rfl rfl dX12_pavement_34 (fun G_13 H locs eG_13 hW hS => ?_)
    have hB_G_13 : Bd G_13 := hB_G_11.put (V := (G_2.1 66 47).toInt) (lo := 0) (hi := 6) eG_13 rfl rfl rfl ((by first | exact b_12.1 | omega)) ((by first | exact b_12.2 | omega)) (hB_G_11.2.put eG_13 rfl)
    have hF := hF.put eG_13 (Or.inr (by decide))
    refine lv_aload_n hx hb dX12_pavement_37 rfl (lv_at hl 0 rfl) ?_
    refine lv_aload_n hx hb dX12_pavement_38 rfl (lv_at hl 0 rfl) ?_
    refine S_getI (v := (G_2.1 66 48)) (C := RX12) (T := TX12) (N := 89) hx hb hg iX12 hown hK hW kd_66 rfl 48 (lt_b rfl) (hg (Cond.fieldLink RX12 410 "SlabWalkModel" "nHand" "I") m1362) (fun _ h9 => h9) rfl ((gp_ne eG_13 (by decide)).trans ((gp_ne eG_11 (by decide)).trans (gp_ne eG_9 (by decide)))) dX12_pavement_39 ?_
    refine S_putI (ty := .int) (C := RX12) (T := TX12) (N := 89) hx hb hg iX12 tyX12 tyX12_ok nmX12 hown hK hW hS kd_66 rfl 55 (lt_b rfl) (hg (Cond.fieldLink RX12 105 "SlabWalkModel" "hand" "I") m1369) (fun _ h9 => h9) rfl (by decide +kernel) rfl rfl rfl dX12_pavement_42 (fun G_14 H locs eG_14 hW hS => ?_)
    have hB_G_14 : Bd G_14 := hB_G_13.put (lo := (-2147483648)) (hi := 2147483647) eG_14 rfl rfl rfl (tI_rng _).1 (tI_rng _).2 (hB_G_13.2.put eG_14 rfl)
    have hF := hF.put eG_14 (Or.inr (by decide))
    refine lv_aload_n hx hb dX12_pavement_45 rfl (lv_at hl 0 rfl) ?_
    refine lv_aload_n hx hb dX12_pavement_46 rfl (lv_at hl 0 rfl) ?_
    refine S_getI (v := (G_2.1 66 49)) (C := RX12) (T := TX12) (N := 89) hx hb hg iX12 hown hK hW kd_66 rfl 49 (lt_b rfl) (hg (Cond.fieldLink RX12 413 "SlabWalkModel" "nSlack" "I") m1363) (fun _ h9 => h9) rfl ((gp_ne eG_14 (by decide)).trans ((gp_ne eG_13 (by decide)).trans ((gp_ne eG_11 (by decide)).trans (gp_ne eG_9 (by decide))))) dX12_pavement_47 ?_
    refine S_putI (ty := .int) (C := RX12) (T := TX12) (N := 89) hx hb hg iX12 tyX12 tyX12_ok nmX12 hown hK hW hS kd_66 rfl 56 (lt_b rfl) (hg (Cond.fieldLink RX12 108 "SlabWalkModel" "slack" "I") m1370) (fun _ h9 => h9) rfl (by decide +kernel) rfl rfl rfl dX12_pavement_50 (fun G_15 H locs eG_15 hW hS => ?_)
    have hB_G_15 : Bd G_15 := hB_G_14.put (lo := (-2147483648)) (hi := 2147483647) eG_15 rfl rfl rfl (tI_rng _).1 (tI_rng _).2 (hB_G_14.2.put eG_15 rfl)
    have hF := hF.put eG_15 (Or.inr (by decide))
    refine lv_aload_n hx hb dX12_pavement_53 rfl (lv_at hl 0 rfl) ?_
    refine lv_aload_n hx hb dX12_pavement_54 rfl (lv_at hl 0 rfl) ?_
    refine S_getI (v := (G_2.1 66 21)) (C := RX12) (T := TX12) (N := 89) hx hb hg iX12 hown hK hW kd_66 rfl 21 (lt_b rfl) (hg (Cond.fieldLink RX12 312 "SlabWalkModel" "nUnits" "I") m1335) (fun _ h9 => h9) rfl ((gp_ne eG_15 (by decide)).trans ((gp_ne eG_14 (by decide)).trans ((gp_ne eG_13 (by decide)).trans ((gp_ne eG_11 (by decide)).trans (gp_ne eG_9 (by decide)))))) dX12_pavement_55 ?_
    refine S_putI (ty := .int) (C := RX12) (T := TX12) (N := 89) hx hb hg iX12 tyX12 tyX12_ok nmX12 hown hK hW hS kd_66 rfl 22 (lt_b rfl) (hg (Cond.fieldLink RX12 434 "SlabWalkModel" "units" "I") m1336) (fun _ h9 => h9) rfl (by decide +kernel) rfl rfl rfl dX12_pavement_58 (fun G_16 H locs eG_16 hW hS => ?_)
    have hB_G_16 : Bd G_16 := hB_G_15.put (lo := (-2147483648)) (hi := 2147483647) eG_16 rfl rfl rfl (tI_rng _).1 (tI_rng _).2 (hB_G_15.2.put eG_16 rfl)
    have hF := hF.put eG_16 (Or.inr (by decide))
    refine ic_0 hx hb dX12_pavement_61 ?_
    have hsp_17 : SP G_16 (0 : Int32).toInt := SP_0
    refine lv_istore_n (lv' := [(1, .int 0), (0, .ref (a 66))]) hx hb dX12_pavement_62 rfl hl (lt_b rfl) rfl (fun ls hl => ?_)
    have qc_24 : (0 : Int32).toInt = 0 := rfl
    refine loop_N (Inv := fun n H locs ls => ∃ (G_18 : GS) (x_22 : Int32), (n : Int) = 3 - x_22.toInt ∧ (0 ≤ x_22.toInt ∧ x_22.toInt ≤ 3) ∧ (SP G_18 x_22.toInt) ∧ Rc (St_n_pavement_1) (0, G_16) (x_22, G_18) ∧ Wd D k A a G_18 H ∧ Bd G_18 ∧ Fr [110, 117, 68, 69, 70, 71, 72, 73, 74, 75, 77, 78, 79, 80, 81, 82, 83, 84, 85, 86, 87, 88, 89, 90, 91, 92, 93, 94, 95, 96] [(66, 1), (66, 2), (66, 3), (66, 4), (66, 5), (66, 6), (66, 7), (66, 8), (66, 9), (66, 19), (66, 20), (66, 21), (66, 22), (66, 23), (66, 24), (66, 45), (66, 46), (66, 47), (66, 48), (66, 49), (66, 50), (66, 51), (66, 52), (66, 53), (66, 54), (66, 55), (66, 56), (66, 66), (66, 78), (66, 79), (66, 85)] G G_18 ∧ Fr [96] [] G_16 G_18 ∧ va_S A s.heap H locs ∧ lv_has ls 3 [(1, .int x_22), (0, .ref (a 66))]) (fun n_21 H locs ls ih_20 hI => ?_) (3 - 0 : Int).toNat ⟨G_16, 0, (Int.toNat_of_nonneg ((by decide))), ⟨(by decide), (by decide)⟩, (by assumption), Rc.rf, hW, hB_G_16, hF, Fr.rf, hS, lv_sub hl [0, 1] rfl⟩
    obtain ⟨G_18, x_22, hn_27, f_25, f_26, hX_23, hW, hB_G_18, hF, hq_19, hS, hl⟩ := hI
    refine lv_iload_n hx hb dX12_pavement_63 rfl (lv_at hl 0 rfl) ?_
    refine ic_3 hx hb dX12_pavement_64 ?_
    refine lv_icmp_ge (tgt := 86) hx hb dX12_pavement_65 rfl (fun c_28 => ?_) (fun c_28 => ?_)
    · have c_28 : 3 ≤ x_22.toInt := xI_le rfl rfl c_28
      have u_29 := SP_end (G := G_18) (x := x_22.toInt) (by assumption) (by first | (clear hP9 hW9 hS9 hac hsl d_1 d_2 b_6 c_7 b_8 b_10 b_12 hn_27; omega) | omega)
      have g_30 : (G_18.1 86 0).toInt = (G_2.1 86 0).toInt := (congrArg Int32.toInt (show G_18.1 86 0 = (G_2.1 86 0) from ((hq_19.i9 86 0 rfl rfl).trans ((gp_ne eG_16 (by decide)).trans ((gp_ne eG_15 (by decide)).trans ((gp_ne eG_14 (by decide)).trans ((gp_ne eG_13 (by decide)).trans ((gp_ne eG_11 (by decide)).trans (gp_ne eG_9 (by decide))))))))))
      have g_31 : (G_18.1 86 1).toInt = (G_2.1 86 1).toInt := (congrArg Int32.toInt (show G_18.1 86 1 = (G_2.1 86 1) from ((hq_19.i9 86 1 rfl rfl).trans ((gp_ne eG_16 (by decide)).trans ((gp_ne eG_15 (by decide)).trans ((gp_ne eG_14 (by decide)).trans ((gp_ne eG_13 (by decide)).trans ((gp_ne eG_11 (by decide)).trans (gp_ne eG_9 (by decide))))))))))
      have g_32 : (G_18.1 86 2).toInt = (G_2.1 86 2).toInt := (congrArg Int32.toInt (show G_18.1 86 2 = (G_2.1 86 2) from ((hq_19.i9 86 2 rfl rfl).trans ((gp_ne eG_16 (by decide)).trans ((gp_ne eG_15 (by decide)).trans ((gp_ne eG_14 (by decide)).trans ((gp_ne eG_13 (by decide)).trans ((gp_ne eG_11 (by decide)).trans (gp_ne eG_9 (by decide))))))))))
      refine ic_0 hx hb dX12_pavement_86 ?_
      have hcp_33 : CP G_18 (0 : Int32).toInt (320 * (0 : Int32).toInt) := CP_0
      refine lv_istore_n (lv' := [(1, .int 0), (0, .ref (a 66))]) hx hb dX12_pavement_87 rfl hl (lt_b rfl) rfl (fun ls hl => ?_)
      have qc_40 : (0 : Int32).toInt = 0 := rfl
      refine loop_N (Inv := fun n H locs ls => ∃ (G_34 : GS) (x_38 : Int32), (n : Int) = 6 - x_38.toInt ∧ (0 ≤ x_38.toInt ∧ x_38.toInt ≤ 6) ∧ (CP G_34 x_38.toInt (320 * x_38.toInt)) ∧ Rc (St_n_pavement_2 G_2) (0, G_18) (x_38, G_34) ∧ Wd D k A a G_34 H ∧ Bd G_34 ∧ Fr [110, 117, 68, 69, 70, 71, 72, 73, 74, 75, 77, 78, 79, 80, 81, 82, 83, 84, 85, 86, 87, 88, 89, 90, 91, 92, 93, 94, 95, 96] [(66, 1), (66, 2), (66, 3), (66, 4), (66, 5), (66, 6), (66, 7), (66, 8), (66, 9), (66, 19), (66, 20), (66, 21), (66, 22), (66, 23), (66, 24), (66, 45), (66, 46), (66, 47), (66, 48), (66, 49), (66, 50), (66, 51), (66, 52), (66, 53), (66, 54), (66, 55), (66, 56), (66, 66), (66, 78), (66, 79), (66, 85)] G G_34 ∧ Fr [72, 73, 74] [] G_18 G_34 ∧ va_S A s.heap H locs ∧ lv_has ls 3 [(1, .int x_38), (0, .ref (a 66))]) (fun n_37 H locs ls ih_36 hI => ?_) (6 - 0 : Int).toNat ⟨G_18, 0, (Int.toNat_of_nonneg ((by decide))), ⟨(by decide), (by decide)⟩, (by assumption), Rc.rf, hW, hB_G_18, hF, Fr.rf, hS, lv_sub hl [0, 1] rfl⟩
      obtain ⟨G_34, x_38, hn_43, f_41, f_42, hX_39, hW, hB_G_34, hF, hq_35, hS, hl⟩ := hI
      refine lv_iload_n hx hb dX12_pavement_88 rfl (lv_at hl 0 rfl) ?_
      refine lv_aload_n hx hb dX12_pavement_89 rfl (lv_at hl 1 rfl) ?_
      refine S_getI (v := (G_2.1 66 47)) (C := RX12) (T := TX12) (N := 89) hx hb hg iX12 hown hK hW kd_66 rfl 54 (lt_b rfl) (hg (Cond.fieldLink RX12 431 "SlabWalkModel" "rules" "I") m1368) (fun _ h9 => h9) rfl ((hq_35.i9 66 54 rfl rfl).trans ((hq_19.i9 66 54 rfl rfl).trans ((gp_ne eG_16 (by decide)).trans ((gp_ne eG_15 (by decide)).trans ((gp_ne eG_14 (by decide)).trans (gp_eq eG_13)))))) dX12_pavement_90 ?_
      refine lv_icmp_ge (tgt := 166) hx hb dX12_pavement_93 rfl (fun c_44 => ?_) (fun c_44 => ?_)
      · have c_44 : (G_2.1 66 47).toInt ≤ x_38.toInt := xI_le rfl rfl c_44
        have g_45 : (G_34.1 66 54).toInt = (G_2.1 66 47).toInt := (congrArg Int32.toInt (show G_34.1 66 54 = (G_2.1 66 47) from ((hq_35.i9 66 54 rfl rfl).trans ((hq_19.i9 66 54 rfl rfl).trans ((gp_ne eG_16 (by decide)).trans ((gp_ne eG_15 (by decide)).trans ((gp_ne eG_14 (by decide)).trans (gp_eq eG_13))))))))
        have u_46 : gP G_34 = 1 := CP_end (show CP G_34 x_38.toInt (320 * x_38.toInt) by assumption) (by first | (clear hP9 hW9 hS9 hac hsl d_1 d_2 b_6 c_7 b_8 b_10 hn_27 f_25 c_28 u_29 g_30 g_31 g_32 hn_43; omega) | omega) (by first | (clear hP9 hW9 hS9 hac hsl d_1 d_2 b_6 c_7 b_8 b_10 hn_27 f_25 c_28 u_29 g_30 g_31 g_32 hn_43; omega) | omega)
        refine ic_0 hx hb dX12_pavement_166 ?_
        refine lv_istore_n (lv' := [(1, .int 0), (0, .ref (a 66))]) hx hb dX12_pavement_167 rfl hl (lt_b rfl) rfl (fun ls hl => ?_)
        have qc_53 : (0 : Int32).toInt = 0 := rfl
        refine loop_N (Inv := fun n H locs ls => ∃ (G_47 : GS) (x_51 : Int32), (n : Int) = 3 - x_51.toInt ∧ (0 ≤ x_51.toInt ∧ x_51.toInt ≤ 3) ∧ Rc (St_n_pavement_3 G_2) (0, G_34) (x_51, G_47) ∧ Wd D k A a G_47 H ∧ Bd G_47 ∧ Fr [110, 117, 68, 69, 70, 71, 72, 73, 74, 75, 77, 78, 79, 80, 81, 82, 83, 84, 85, 86, 87, 88, 89, 90, 91, 92, 93, 94, 95, 96] [(66, 1), (66, 2), (66, 3), (66, 4), (66, 5), (66, 6), (66, 7), (66, 8), (66, 9), (66, 19), (66, 20), (66, 21), (66, 22), (66, 23), (66, 24), (66, 45), (66, 46), (66, 47), (66, 48), (66, 49), (66, 50), (66, 51), (66, 52), (66, 53), (66, 54), (66, 55), (66, 56), (66, 66), (66, 78), (66, 79), (66, 85)] G G_47 ∧ Fr [87, 88, 89, 90, 91] [] G_34 G_47 ∧ va_S A s.heap H locs ∧ lv_has ls 3 [(1, .int x_51), (0, .ref (a 66))]) (fun n_50 H locs ls ih_49 hI => ?_) (3 - 0 : Int).toNat ⟨G_34, 0, (Int.toNat_of_nonneg ((by decide))), ⟨(by decide), (by decide)⟩, Rc.rf, hW, hB_G_34, hF, Fr.rf, hS, lv_sub hl [0, 1] rfl⟩
        obtain ⟨G_47, x_51, hn_55, f_54, hX_52, hW, hB_G_47, hF, hq_48, hS, hl⟩ := hI
        refine lv_iload_n hx hb dX12_pavement_168 rfl (lv_at hl 0 rfl) ?_
        refine lv_aload_n hx hb dX12_pavement_169 rfl (lv_at hl 1 rfl) ?_
        refine S_getI (v := (G_2.1 66 45)) (C := RX12) (T := TX12) (N := 89) hx hb hg iX12 hown hK hW kd_66 rfl 52 (lt_b rfl) (hg (Cond.fieldLink RX12 425 "SlabWalkModel" "streets" "I") m1366) (fun _ h9 => h9) rfl ((hq_48.i9 66 52 rfl rfl).trans ((hq_35.i9 66 52 rfl rfl).trans ((hq_19.i9 66 52 rfl rfl).trans ((gp_ne eG_16 (by decide)).trans ((gp_ne eG_15 (by decide)).trans ((gp_ne eG_14 (by decide)).trans ((gp_ne eG_13 (by decide)).trans ((gp_ne eG_11 (by decide)).trans (gp_eq eG_9))))))))) dX12_pavement_170 ?_
        refine lv_icmp_ge (tgt := 270) hx hb dX12_pavement_173 rfl (fun c_56 => ?_) (fun c_56 => ?_)
        · have c_56 : (G_2.1 66 45).toInt ≤ x_51.toInt := xI_le rfl rfl c_56
          refine ic_0 hx hb dX12_pavement_270 ?_
          have hwp_57 : WP G_47 (0 : Int32).toInt := WP_0
          refine lv_istore_n (lv' := [(1, .int 0), (0, .ref (a 66))]) hx hb dX12_pavement_271 rfl hl (lt_b rfl) rfl (fun ls hl => ?_)
          have qc_64 : (0 : Int32).toInt = 0 := rfl
          refine loop_N (Inv := fun n H locs ls => ∃ (G_58 : GS) (x_62 : Int32), (n : Int) = 4 - x_62.toInt ∧ (0 ≤ x_62.toInt ∧ x_62.toInt ≤ 4) ∧ (WP G_58 x_62.toInt) ∧ Rc (St_n_pavement_4 G_2) (0, G_47) (x_62, G_58) ∧ Wd D k A a G_58 H ∧ Bd G_58 ∧ Fr [110, 117, 68, 69, 70, 71, 72, 73, 74, 75, 77, 78, 79, 80, 81, 82, 83, 84, 85, 86, 87, 88, 89, 90, 91, 92, 93, 94, 95, 96] [(66, 1), (66, 2), (66, 3), (66, 4), (66, 5), (66, 6), (66, 7), (66, 8), (66, 9), (66, 19), (66, 20), (66, 21), (66, 22), (66, 23), (66, 24), (66, 45), (66, 46), (66, 47), (66, 48), (66, 49), (66, 50), (66, 51), (66, 52), (66, 53), (66, 54), (66, 55), (66, 56), (66, 66), (66, 78), (66, 79), (66, 85)] G G_58 ∧ Fr [92, 93, 94, 95] [] G_47 G_58 ∧ va_S A s.heap H locs ∧ lv_has ls 3 [(1, .int x_62), (0, .ref (a 66))]) (fun n_61 H locs ls ih_60 hI => ?_) (4 - 0 : Int).toNat ⟨G_47, 0, (Int.toNat_of_nonneg ((by decide))), ⟨(by decide), (by decide)⟩, (by assumption), Rc.rf, hW, hB_G_47, hF, Fr.rf, hS, lv_sub hl [0, 1] rfl⟩
          obtain ⟨G_58, x_62, hn_67, f_65, f_66, hX_63, hW, hB_G_58, hF, hq_59, hS, hl⟩ := hI
          refine lv_iload_n hx hb dX12_pavement_272 rfl (lv_at hl 0 rfl) ?_
          refine lv_aload_n hx hb dX12_pavement_273 rfl (lv_at hl 1 rfl) ?_
          refine S_getI (v := (G_2.1 66 46)) (C := RX12) (T := TX12) (N := 89) hx hb hg iX12 hown hK hW kd_66 rfl 53 (lt_b rfl) (hg (Cond.fieldLink RX12 428 "SlabWalkModel" "walkers" "I") m1367) (fun _ h9 => h9) rfl ((hq_59.i9 66 53 rfl rfl).trans ((hq_48.i9 66 53 rfl rfl).trans ((hq_35.i9 66 53 rfl rfl).trans ((hq_19.i9 66 53 rfl rfl).trans ((gp_ne eG_16 (by decide)).trans ((gp_ne eG_15 (by decide)).trans ((gp_ne eG_14 (by decide)).trans ((gp_ne eG_13 (by decide)).trans (gp_eq eG_11))))))))) dX12_pavement_274 ?_
          refine lv_icmp_ge (tgt := 334) hx hb dX12_pavement_277 rfl (fun c_68 => ?_) (fun c_68 => ?_)
          · have c_68 : (G_2.1 66 46).toInt ≤ x_62.toInt := xI_le rfl rfl c_68
            have g_69 : (G_58.1 66 53).toInt = (G_2.1 66 46).toInt := (congrArg Int32.toInt (show G_58.1 66 53 = (G_2.1 66 46) from ((hq_59.i9 66 53 rfl rfl).trans ((hq_48.i9 66 53 rfl rfl).trans ((hq_35.i9 66 53 rfl rfl).trans ((hq_19.i9 66 53 rfl rfl).trans ((gp_ne eG_16 (by decide)).trans ((gp_ne eG_15 (by decide)).trans ((gp_ne eG_14 (by decide)).trans ((gp_ne eG_13 (by decide)).trans (gp_eq eG_11)))))))))))
            have u_70 : gW G_58 = 1 := WP_end (show WP G_58 x_62.toInt by assumption) (by first | (clear hP9 hW9 hS9 hac hsl d_1 d_2 b_6 c_7 b_8 b_12 hn_27 f_25 c_28 u_29 g_30 g_31 g_32 hn_43 f_41 c_44 g_45 u_46 hn_55 f_54 c_56 hn_67; omega) | omega) (by first | (clear hP9 hW9 hS9 hac hsl d_1 d_2 b_6 c_7 b_8 b_12 hn_27 f_25 c_28 u_29 g_30 g_31 g_32 hn_43 f_41 c_44 g_45 u_46 hn_55 f_54 c_56 hn_67; omega) | omega)
            refine ic_0 hx hb dX12_pavement_334 ?_
            refine lv_istore_n (lv' := [(1, .int 0), (0, .ref (a 66))]) hx hb dX12_pavement_335 rfl hl (lt_b rfl) rfl (fun ls hl => ?_)
            have qc_77 : (0 : Int32).toInt = 0 := rfl
            refine loop_N (Inv := fun n H locs ls => ∃ (G_71 : GS) (x_75 : Int32), (n : Int) = 10 - x_75.toInt ∧ (0 ≤ x_75.toInt ∧ x_75.toInt ≤ 10) ∧ Rc (St_n_pavement_5) (0, G_58) (x_75, G_71) ∧ Wd D k A a G_71 H ∧ Bd G_71 ∧ Fr [110, 117, 68, 69, 70, 71, 72, 73, 74, 75, 77, 78, 79, 80, 81, 82, 83, 84, 85, 86, 87, 88, 89, 90, 91, 92, 93, 94, 95, 96] [(66, 1), (66, 2), (66, 3), (66, 4), (66, 5), (66, 6), (66, 7), (66, 8), (66, 9), (66, 19), (66, 20), (66, 21), (66, 22), (66, 23), (66, 24), (66, 45), (66, 46), (66, 47), (66, 48), (66, 49), (66, 50), (66, 51), (66, 52), (66, 53), (66, 54), (66, 55), (66, 56), (66, 66), (66, 78), (66, 79), (66, 85)] G G_71 ∧ Fr [110] [] G_58 G_71 ∧ va_S A s.heap H locs ∧ lv_has ls 3 [(1, .int x_75), (0, .ref (a 66))]) (fun n_74 H locs ls ih_73 hI => ?_) (10 - 0 : Int).toNat ⟨G_58, 0, (Int.toNat_of_nonneg ((by decide))), ⟨(by decide), (by decide)⟩, Rc.rf, hW, hB_G_58, hF, Fr.rf, hS, lv_sub hl [0, 1] rfl⟩
            obtain ⟨G_71, x_75, hn_79, f_78, hX_76, hW, hB_G_71, hF, hq_72, hS, hl⟩ := hI
            refine lv_iload_n hx hb dX12_pavement_336 rfl (lv_at hl 0 rfl) ?_
            refine lv_bipush (v := 10) hx hb dX12_pavement_337 (by decide) ?_
            refine lv_icmp_ge (tgt := 355) hx hb dX12_pavement_339 rfl (fun c_80 => ?_) (fun c_80 => ?_)
            · have c_80 : 10 ≤ x_75.toInt := xI_le rfl rfl c_80
              refine lv_aload_n hx hb dX12_pavement_355 rfl (lv_at hl 1 rfl) ?_
              refine S_getR (n := 110) (C := RX12) (T := TX12) (N := 89) hx hb hg iX12 hown hK hW kd_66 rfl 76 (lt_b rfl) (hg (Cond.fieldLink RX12 151 "SlabWalkModel" "now" "[I") m1390) (fun _ h9 => h9) rfl dX12_pavement_356 ?_
              refine ic_0 hx hb dX12_pavement_359 ?_
              refine ic_m1 hx hb dX12_pavement_360 ?_
              refine S_iast hx hb hK hW hS kd_110 (vin (by decide) (by decide)) dX12_pavement_361 (fun G_81 H locs eG_81 hW hS => ?_)
              have qc_82 : ((-1) : Int32).toInt = (-1) := rfl
              have qc_83 : (0 : Int32).toInt = 0 := rfl
              have hB_G_81 : Bd G_81 := hB_G_71.putNow 110 (by decide) eG_81 (by omega) (by omega) (by omega) rfl
              have hF := hF.put eG_81 (Or.inl (by decide))
              refine lv_aload_n hx hb dX12_pavement_362 rfl (lv_at hl 1 rfl) ?_
              refine S_getR (n := 110) (C := RX12) (T := TX12) (N := 89) hx hb hg iX12 hown hK hW kd_66 rfl 76 (lt_b rfl) (hg (Cond.fieldLink RX12 151 "SlabWalkModel" "now" "[I") m1390) (fun _ h9 => h9) rfl dX12_pavement_363 ?_
              refine lv_bipush (v := 7) hx hb dX12_pavement_366 (by decide) ?_
              refine lv_aload_n hx hb dX12_pavement_368 rfl (lv_at hl 1 rfl) ?_
              refine S_getI (v := (G_2.1 66 50)) (C := RX12) (T := TX12) (N := 89) hx hb hg iX12 hown hK hW kd_66 rfl 50 (lt_b rfl) (hg (Cond.fieldLink RX12 416 "SlabWalkModel" "nDraw" "I") m1364) (fun _ h9 => h9) rfl ((gp_ne eG_81 (fun q => absurd q.1 (Nat.ne_of_beq_eq_false rfl))).trans ((hq_72.i9 66 50 rfl rfl).trans ((hq_59.i9 66 50 rfl rfl).trans ((hq_48.i9 66 50 rfl rfl).trans ((hq_35.i9 66 50 rfl rfl).trans ((hq_19.i9 66 50 rfl rfl).trans ((gp_ne eG_16 (by decide)).trans ((gp_ne eG_15 (by decide)).trans ((gp_ne eG_14 (by decide)).trans ((gp_ne eG_13 (by decide)).trans ((gp_ne eG_11 (by decide)).trans (gp_ne eG_9 (by decide))))))))))))) dX12_pavement_369 ?_
              refine S_iast hx hb hK hW hS kd_110 (vin (by decide) (by decide)) dX12_pavement_372 (fun G_84 H locs eG_84 hW hS => ?_)
              have qc_85 : (7 : Int32).toInt = 7 := rfl
              have hB_G_84 : Bd G_84 := hB_G_81.putNow 110 (by decide) eG_84 (by first | (clear hP9 hW9 hS9 hac hsl d_1 d_2 b_6 c_7 b_8 b_10 b_12 hn_27 f_25 c_28 u_29 g_30 g_31 g_32 hn_43 f_41 c_44 g_45 u_46 hn_55 f_54 c_56 hn_67 f_65 c_68 g_69 u_70 hn_79 f_78 c_80; omega) | omega) (by first | (clear hP9 hW9 hS9 hac hsl d_1 d_2 b_6 c_7 b_8 b_10 b_12 hn_27 f_25 c_28 u_29 g_30 g_31 g_32 hn_43 f_41 c_44 g_45 u_46 hn_55 f_54 c_56 hn_67 f_65 c_68 g_69 u_70 hn_79 f_78 c_80; omega) | omega) (by first | (clear hP9 hW9 hS9 hac hsl d_1 d_2 b_6 c_7 b_8 b_10 b_12 hn_27 f_25 c_28 u_29 g_30 g_31 g_32 hn_43 f_41 c_44 g_45 u_46 hn_55 f_54 c_56 hn_67 f_65 c_68 g_69 u_70 hn_79 f_78 c_80; omega) | omega) rfl
              have hF := hF.put eG_84 (Or.inl (by decide))
              refine lv_aload_n hx hb dX12_pavement_373 rfl (lv_at hl 1 rfl) ?_
              refine ic_0 hx hb dX12_pavement_374 ?_
              refine S_putI (ty := .int) (C := RX12) (T := TX12) (N := 89) hx hb hg iX12 tyX12 tyX12_ok nmX12 hown hK hW hS kd_66 rfl 78 (lt_b rfl) (hg (Cond.fieldLink RX12 437 "SlabWalkModel" "acts" "I") m1392) (fun _ h9 => h9) rfl (by decide +kernel) rfl rfl rfl dX12_pavement_375 (fun G_86 H locs eG_86 hW hS => ?_)
              have hB_G_86 : Bd G_86 := hB_G_84.put (V := 0) (lo := 0) (hi := 40) eG_86 rfl rfl rfl (by decide) (by decide) (hB_G_84.2.put eG_86 rfl)
              have hF := hF.put eG_86 (Or.inr (by decide))
              refine lv_aload_n hx hb dX12_pavement_378 rfl (lv_at hl 1 rfl) ?_
              refine ic_0 hx hb dX12_pavement_379 ?_
              refine S_putI (ty := .int) (C := RX12) (T := TX12) (N := 89) hx hb hg iX12 tyX12 tyX12_ok nmX12 hown hK hW hS kd_66 rfl 79 (lt_b rfl) (hg (Cond.fieldLink RX12 440 "SlabWalkModel" "undone" "I") m1393) (fun _ h9 => h9) rfl (by decide +kernel) rfl rfl rfl dX12_pavement_380 (fun G_87 H locs eG_87 hW hS => ?_)
              have hB_G_87 : Bd G_87 := hB_G_86.put (V := 0) (lo := 0) (hi := 40) eG_87 rfl rfl rfl (by decide) (by decide) (hB_G_86.2.put eG_87 rfl)
              have hF := hF.put eG_87 (Or.inr (by decide))
              refine lv_aload_n hx hb dX12_pavement_383 rfl (lv_at hl 1 rfl) ?_
              refine ic_0 hx hb dX12_pavement_384 ?_
              refine S_putI (ty := .int) (C := RX12) (T := TX12) (N := 89) hx hb hg iX12 tyX12 tyX12_ok nmX12 hown hK hW hS kd_66 rfl 85 (lt_b rfl) (hg (Cond.fieldLink RX12 443 "SlabWalkModel" "sights" "I") m1399) (fun _ h9 => h9) rfl (by decide +kernel) rfl rfl rfl dX12_pavement_385 (fun G_88 H locs eG_88 hW hS => ?_)
              have hB_G_88 : Bd G_88 := hB_G_87.put (V := 0) (lo := 0) (hi := 20) eG_88 rfl rfl rfl (by decide) (by decide) (hB_G_87.2.put eG_88 rfl)
              have hF := hF.put eG_88 (Or.inr (by decide))
              have u_89 := gS_0 (G := G_88) (gp_eq eG_88)
              refine lv_aload_n hx hb dX12_pavement_388 rfl (lv_at hl 1 rfl) ?_
              refine ic_0 hx hb dX12_pavement_389 ?_
              refine S_putI (ty := .int) (C := RX12) (T := TX12) (N := 89) hx hb hg iX12 tyX12 tyX12_ok nmX12 hown hK hW hS kd_66 rfl 66 (lt_b rfl) (hg (Cond.fieldLink RX12 446 "SlabWalkModel" "lain" "I") m1380) (fun _ h9 => h9) rfl (by decide +kernel) rfl rfl rfl dX12_pavement_390 (fun G_90 H locs eG_90 hW hS => ?_)
              have hB_G_90 : Bd G_90 := hB_G_88.put (V := 0) (lo := 0) (hi := 400) eG_90 rfl rfl rfl (by decide) (by decide) (hB_G_88.2.put eG_90 rfl)
              have hF := hF.put eG_90 (Or.inr (by decide))
              refine ic_0 hx hb dX12_pavement_393 ?_
              refine lv_istore_n (lv' := [(1, .int 0), (0, .ref (a 66))]) hx hb dX12_pavement_394 rfl hl (lt_b rfl) rfl (fun ls hl => ?_)
              have qc_97 : (0 : Int32).toInt = 0 := rfl
              refine loop_N (Inv := fun n H locs ls => ∃ (G_91 : GS) (x_95 : Int32), (n : Int) = 3 - x_95.toInt ∧ (0 ≤ x_95.toInt ∧ x_95.toInt ≤ 3) ∧ Rc (St_n_pavement_6) (0, G_90) (x_95, G_91) ∧ Wd D k A a G_91 H ∧ Bd G_91 ∧ Fr [110, 117, 68, 69, 70, 71, 72, 73, 74, 75, 77, 78, 79, 80, 81, 82, 83, 84, 85, 86, 87, 88, 89, 90, 91, 92, 93, 94, 95, 96] [(66, 1), (66, 2), (66, 3), (66, 4), (66, 5), (66, 6), (66, 7), (66, 8), (66, 9), (66, 19), (66, 20), (66, 21), (66, 22), (66, 23), (66, 24), (66, 45), (66, 46), (66, 47), (66, 48), (66, 49), (66, 50), (66, 51), (66, 52), (66, 53), (66, 54), (66, 55), (66, 56), (66, 66), (66, 78), (66, 79), (66, 85)] G G_91 ∧ Fr [117] [] G_90 G_91 ∧ va_S A s.heap H locs ∧ lv_has ls 3 [(1, .int x_95), (0, .ref (a 66))]) (fun n_94 H locs ls ih_93 hI => ?_) (3 - 0 : Int).toNat ⟨G_90, 0, (Int.toNat_of_nonneg ((by decide))), ⟨(by decide), (by decide)⟩, Rc.rf, hW, hB_G_90, hF, Fr.rf, hS, lv_sub hl [0, 1] rfl⟩
              obtain ⟨G_91, x_95, hn_99, f_98, hX_96, hW, hB_G_91, hF, hq_92, hS, hl⟩ := hI
              refine lv_iload_n hx hb dX12_pavement_395 rfl (lv_at hl 0 rfl) ?_
              refine ic_3 hx hb dX12_pavement_396 ?_
              refine lv_icmp_ge (tgt := 413) hx hb dX12_pavement_397 rfl (fun c_100 => ?_) (fun c_100 => ?_)
              · have c_100 : 3 ≤ x_95.toInt := xI_le rfl rfl c_100
                refine lv_aload_n hx hb dX12_pavement_413 rfl (lv_at hl 1 rfl) ?_
                refine S_getI (v := (G_2.1 66 45)) (C := RX12) (T := TX12) (N := 89) hx hb hg iX12 hown hK hW kd_66 rfl 52 (lt_b rfl) (hg (Cond.fieldLink RX12 425 "SlabWalkModel" "streets" "I") m1366) (fun _ h9 => h9) rfl ((hq_92.i9 66 52 rfl rfl).trans ((gp_ne eG_90 (by decide)).trans ((gp_ne eG_88 (by decide)).trans ((gp_ne eG_87 (by decide)).trans ((gp_ne eG_86 (by decide)).trans ((gp_ne eG_84 (fun q => absurd q.1 (Nat.ne_of_beq_eq_false rfl))).trans ((gp_ne eG_81 (fun q => absurd q.1 (Nat.ne_of_beq_eq_false rfl))).trans ((hq_72.i9 66 52 rfl rfl).trans ((hq_59.i9 66 52 rfl rfl).trans ((hq_48.i9 66 52 rfl rfl).trans ((hq_35.i9 66 52 rfl rfl).trans ((hq_19.i9 66 52 rfl rfl).trans ((gp_ne eG_16 (by decide)).trans ((gp_ne eG_15 (by decide)).trans ((gp_ne eG_14 (by decide)).trans ((gp_ne eG_13 (by decide)).trans ((gp_ne eG_11 (by decide)).trans (gp_eq eG_9)))))))))))))))))) dX12_pavement_414 ?_
                have fr_101 : Fr [110, 117, 87, 88, 89, 90, 91, 92, 93, 94, 95] [(66, 66), (66, 78), (66, 79), (66, 85)] G_34 G_91 := (Fr.call9 (rs := [110, 117, 87, 88, 89, 90, 91, 92, 93, 94, 95]) (fs := [(66, 66), (66, 78), (66, 79), (66, 85)]) (Fr.put (rs := [110, 117, 87, 88, 89, 90, 91, 92, 93, 94, 95]) (fs := [(66, 66), (66, 78), (66, 79), (66, 85)]) (Fr.put (rs := [110, 117, 87, 88, 89, 90, 91, 92, 93, 94, 95]) (fs := [(66, 66), (66, 78), (66, 79), (66, 85)]) (Fr.put (rs := [110, 117, 87, 88, 89, 90, 91, 92, 93, 94, 95]) (fs := [(66, 66), (66, 78), (66, 79), (66, 85)]) (Fr.put (rs := [110, 117, 87, 88, 89, 90, 91, 92, 93, 94, 95]) (fs := [(66, 66), (66, 78), (66, 79), (66, 85)]) (Fr.put (rs := [110, 117, 87, 88, 89, 90, 91, 92, 93, 94, 95]) (fs := [(66, 66), (66, 78), (66, 79), (66, 85)]) (Fr.put (rs := [110, 117, 87, 88, 89, 90, 91, 92, 93, 94, 95]) (fs := [(66, 66), (66, 78), (66, 79), (66, 85)]) (Fr.call9 (rs := [110, 117, 87, 88, 89, 90, 91, 92, 93, 94, 95]) (fs := [(66, 66), (66, 78), (66, 79), (66, 85)]) (Fr.call9 (rs := [110, 117, 87, 88, 89, 90, 91, 92, 93, 94, 95]) (fs := [(66, 66), (66, 78), (66, 79), (66, 85)]) (Fr.call9 (rs := [110, 117, 87, 88, 89, 90, 91, 92, 93, 94, 95]) (fs := [(66, 66), (66, 78), (66, 79), (66, 85)]) Fr.rf hq_48 rfl rfl) hq_59 rfl rfl) hq_72 rfl rfl) eG_81 (Or.inl (by decide))) eG_84 (Or.inl (by decide))) eG_86 (Or.inr (by decide))) eG_87 (Or.inr (by decide))) eG_88 (Or.inr (by decide))) eG_90 (Or.inr (by decide))) hq_92 rfl rfl)
                have g_102 : gP G_91 = gP G_34 := gP_fr fr_101 (gr_q rfl) (gf_q rfl)
                have fr_103 : Fr [117] [(66, 66)] G_88 G_91 := (Fr.call9 (rs := [117]) (fs := [(66, 66)]) (Fr.put (rs := [117]) (fs := [(66, 66)]) Fr.rf eG_90 (Or.inr (by decide))) hq_92 rfl rfl)
                have g_104 : gS G_91 = gS G_88 := gS_fr fr_103 (gr_q rfl) (gf_q rfl)
                have fr_105 : Fr [110, 117] [(66, 66), (66, 78), (66, 79), (66, 85)] G_58 G_91 := (Fr.call9 (rs := [110, 117]) (fs := [(66, 66), (66, 78), (66, 79), (66, 85)]) (Fr.put (rs := [110, 117]) (fs := [(66, 66), (66, 78), (66, 79), (66, 85)]) (Fr.put (rs := [110, 117]) (fs := [(66, 66), (66, 78), (66, 79), (66, 85)]) (Fr.put (rs := [110, 117]) (fs := [(66, 66), (66, 78), (66, 79), (66, 85)]) (Fr.put (rs := [110, 117]) (fs := [(66, 66), (66, 78), (66, 79), (66, 85)]) (Fr.put (rs := [110, 117]) (fs := [(66, 66), (66, 78), (66, 79), (66, 85)]) (Fr.put (rs := [110, 117]) (fs := [(66, 66), (66, 78), (66, 79), (66, 85)]) (Fr.call9 (rs := [110, 117]) (fs := [(66, 66), (66, 78), (66, 79), (66, 85)]) Fr.rf hq_72 rfl rfl) eG_81 (Or.inl (by decide))) eG_84 (Or.inl (by decide))) eG_86 (Or.inr (by decide))) eG_87 (Or.inr (by decide))) eG_88 (Or.inr (by decide))) eG_90 (Or.inr (by decide))) hq_92 rfl rfl)
                have g_106 : gW G_91 = gW G_58 := gW_fr fr_105 (gr_q rfl) (gf_q rfl)
                have b_107 : 0 ≤ (G_2.1 66 1).toInt ∧ (G_2.1 66 1).toInt ≤ 1600 := bd_66_1 hB_G_2
                have g_108 : (G_91.1 66 1).toInt = (G_2.1 66 1).toInt := (congrArg Int32.toInt (show G_91.1 66 1 = (G_2.1 66 1) from ((hq_92.i9 66 1 rfl rfl).trans ((gp_ne eG_90 (by decide)).trans ((gp_ne eG_88 (by decide)).trans ((gp_ne eG_87 (by decide)).trans ((gp_ne eG_86 (by decide)).trans ((gp_ne eG_84 (fun q => absurd q.1 (Nat.ne_of_beq_eq_false rfl))).trans ((gp_ne eG_81 (fun q => absurd q.1 (Nat.ne_of_beq_eq_false rfl))).trans ((hq_72.i9 66 1 rfl rfl).trans ((hq_59.i9 66 1 rfl rfl).trans ((hq_48.i9 66 1 rfl rfl).trans ((hq_35.i9 66 1 rfl rfl).trans ((hq_19.i9 66 1 rfl rfl).trans ((gp_ne eG_16 (by decide)).trans ((gp_ne eG_15 (by decide)).trans ((gp_ne eG_14 (by decide)).trans ((gp_ne eG_13 (by decide)).trans ((gp_ne eG_11 (by decide)).trans (gp_ne eG_9 (by decide)))))))))))))))))))))
                have g_109 : (G_91.1 66 78).toInt = 0 := (congrArg Int32.toInt (show G_91.1 66 78 = 0 from ((hq_92.i9 66 78 rfl rfl).trans ((gp_ne eG_90 (by decide)).trans ((gp_ne eG_88 (by decide)).trans ((gp_ne eG_87 (by decide)).trans (gp_eq eG_86))))))).trans rfl
                have g_110 : (G_91.1 66 79).toInt = 0 := (congrArg Int32.toInt (show G_91.1 66 79 = 0 from ((hq_92.i9 66 79 rfl rfl).trans ((gp_ne eG_90 (by decide)).trans ((gp_ne eG_88 (by decide)).trans (gp_eq eG_87)))))).trans rfl
                have b_111 : 0 ≤ (G_18.1 96 0).toInt ∧ (G_18.1 96 0).toInt ≤ 9 := bd_96_0 hB_G_18
                have g_112 : (G_91.1 96 0).toInt = (G_18.1 96 0).toInt := (congrArg Int32.toInt (show G_91.1 96 0 = (G_18.1 96 0) from ((hq_92.i9 96 0 rfl rfl).trans ((gp_ne eG_90 (by decide)).trans ((gp_ne eG_88 (by decide)).trans ((gp_ne eG_87 (by decide)).trans ((gp_ne eG_86 (by decide)).trans ((gp_ne eG_84 (fun q => absurd q.1 (Nat.ne_of_beq_eq_false rfl))).trans ((gp_ne eG_81 (fun q => absurd q.1 (Nat.ne_of_beq_eq_false rfl))).trans ((hq_72.i9 96 0 rfl rfl).trans ((hq_59.i9 96 0 rfl rfl).trans ((hq_48.i9 96 0 rfl rfl).trans (hq_35.i9 96 0 rfl rfl)))))))))))))
                have b_113 : 0 ≤ (G_18.1 96 1).toInt ∧ (G_18.1 96 1).toInt ≤ 9 := bd_96_1 hB_G_18
                have g_114 : (G_91.1 96 1).toInt = (G_18.1 96 1).toInt := (congrArg Int32.toInt (show G_91.1 96 1 = (G_18.1 96 1) from ((hq_92.i9 96 1 rfl rfl).trans ((gp_ne eG_90 (by decide)).trans ((gp_ne eG_88 (by decide)).trans ((gp_ne eG_87 (by decide)).trans ((gp_ne eG_86 (by decide)).trans ((gp_ne eG_84 (fun q => absurd q.1 (Nat.ne_of_beq_eq_false rfl))).trans ((gp_ne eG_81 (fun q => absurd q.1 (Nat.ne_of_beq_eq_false rfl))).trans ((hq_72.i9 96 1 rfl rfl).trans ((hq_59.i9 96 1 rfl rfl).trans ((hq_48.i9 96 1 rfl rfl).trans (hq_35.i9 96 1 rfl rfl)))))))))))))
                have b_115 : 0 ≤ (G_18.1 96 2).toInt ∧ (G_18.1 96 2).toInt ≤ 9 := bd_96_2 hB_G_18
                have g_116 : (G_91.1 96 2).toInt = (G_18.1 96 2).toInt := (congrArg Int32.toInt (show G_91.1 96 2 = (G_18.1 96 2) from ((hq_92.i9 96 2 rfl rfl).trans ((gp_ne eG_90 (by decide)).trans ((gp_ne eG_88 (by decide)).trans ((gp_ne eG_87 (by decide)).trans ((gp_ne eG_86 (by decide)).trans ((gp_ne eG_84 (fun q => absurd q.1 (Nat.ne_of_beq_eq_false rfl))).trans ((gp_ne eG_81 (fun q => absurd q.1 (Nat.ne_of_beq_eq_false rfl))).trans ((hq_72.i9 96 2 rfl rfl).trans ((hq_59.i9 96 2 rfl rfl).trans ((hq_48.i9 96 2 rfl rfl).trans (hq_35.i9 96 2 rfl rfl)))))))))))))
                exact W.iret (v := (G_2.1 66 45)) hx hb hr (fun t ht _ => ⟨⟨(G_2.1 66 45), G_91, rfl, (Q_pavement_mk ⟨hB_G_91, hF, ((by first | exact ⟨(by first | exact ok_911 d_1 g_108 | omega), ⟨(by first | exact ok_796 u_70 g_106 | omega), ⟨(by first | exact ok_796 u_46 g_102 | omega), ⟨((by first | (clear hP9 hW9 hS9 hac hsl d_1 d_2 b_6 c_7 b_8 b_10 b_12 hn_27 f_25 c_28 u_29 g_30 g_31 g_32 hn_43 f_41 c_44 g_45 u_46 hn_55 f_54 c_56 hn_67 f_65 c_68 g_69 u_70 hn_79 f_78 c_80 u_89 hn_99 f_98 c_100 g_102 g_106 b_107 g_108 g_109 g_110 b_111 g_112 b_113 g_114 b_115 g_116; omega) | omega)), ⟨((by first | (clear hP9 hW9 hS9 hac hsl d_1 d_2 b_6 c_7 b_8 b_10 b_12 hn_27 f_25 c_28 u_29 g_30 g_31 g_32 hn_43 f_41 c_44 g_45 u_46 hn_55 f_54 c_56 hn_67 f_65 c_68 g_69 u_70 hn_79 f_78 c_80 u_89 hn_99 f_98 c_100 g_102 g_104 g_106 b_107 g_108 g_109 g_110; omega) | omega)), (by first | exact ok_200 g_109 g_110 | omega)⟩⟩⟩⟩⟩ | omega)), ⟨G_2, hX_5, (Or.inl ⟨c_7, ⟨G_16, hB_G_16, (Fr.put (rs := []) (fs := [(66, 22), (66, 52), (66, 53), (66, 54), (66, 55), (66, 56)]) (Fr.put (rs := []) (fs := [(66, 22), (66, 52), (66, 53), (66, 54), (66, 55), (66, 56)]) (Fr.put (rs := []) (fs := [(66, 22), (66, 52), (66, 53), (66, 54), (66, 55), (66, 56)]) (Fr.put (rs := []) (fs := [(66, 22), (66, 52), (66, 53), (66, 54), (66, 55), (66, 56)]) (Fr.put (rs := []) (fs := [(66, 22), (66, 52), (66, 53), (66, 54), (66, 55), (66, 56)]) (Fr.put (rs := []) (fs := [(66, 22), (66, 52), (66, 53), (66, 54), (66, 55), (66, 56)]) Fr.rf eG_9 (Or.inr (by decide))) eG_11 (Or.inr (by decide))) eG_13 (Or.inr (by decide))) eG_14 (Or.inr (by decide))) eG_15 (Or.inr (by decide))) eG_16 (Or.inr (by decide))), (gp_eq eG_16), ((gp_ne eG_16 (by decide)).trans ((gp_ne eG_15 (by decide)).trans ((gp_ne eG_14 (by decide)).trans ((gp_ne eG_13 (by decide)).trans ((gp_ne eG_11 (by decide)).trans (gp_eq eG_9)))))), ((gp_ne eG_16 (by decide)).trans ((gp_ne eG_15 (by decide)).trans ((gp_ne eG_14 (by decide)).trans ((gp_ne eG_13 (by decide)).trans (gp_eq eG_11))))), ((gp_ne eG_16 (by decide)).trans ((gp_ne eG_15 (by decide)).trans ((gp_ne eG_14 (by decide)).trans (gp_eq eG_13)))), ((gp_ne eG_16 (by decide)).trans ((gp_ne eG_15 (by decide)).trans (gp_eq eG_14))), ((gp_ne eG_16 (by decide)).trans (gp_eq eG_15)), ⟨x_22, G_18, hX_23, f_25, f_26, hB_G_18, hq_19, ⟨c_28, ⟨x_38, G_34, hX_39, f_41, f_42, hB_G_34, hq_35, ⟨c_44, ⟨x_51, G_47, hX_52, f_54, hB_G_47, hq_48, ⟨c_56, ⟨x_62, G_58, hX_63, f_65, f_66, hB_G_58, hq_59, ⟨c_68, ⟨x_75, G_71, hX_76, f_78, hB_G_71, hq_72, ⟨c_80, ⟨G_90, hB_G_90, (Fr.put (rs := [110]) (fs := [(66, 66), (66, 78), (66, 79), (66, 85)]) (Fr.put (rs := [110]) (fs := [(66, 66), (66, 78), (66, 79), (66, 85)]) (Fr.put (rs := [110]) (fs := [(66, 66), (66, 78), (66, 79), (66, 85)]) (Fr.put (rs := [110]) (fs := [(66, 66), (66, 78), (66, 79), (66, 85)]) (Fr.put (rs := [110]) (fs := [(66, 66), (66, 78), (66, 79), (66, 85)]) (Fr.put (rs := [110]) (fs := [(66, 66), (66, 78), (66, 79), (66, 85)]) Fr.rf eG_81 (Or.inl (by decide))) eG_84 (Or.inl (by decide))) eG_86 (Or.inr (by decide))) eG_87 (Or.inr (by decide))) eG_88 (Or.inr (by decide))) eG_90 (Or.inr (by decide))), (gp_eq eG_90), ((gp_ne eG_90 (by decide)).trans ((gp_ne eG_88 (by decide)).trans ((gp_ne eG_87 (by decide)).trans (gp_eq eG_86)))), ((gp_ne eG_90 (by decide)).trans ((gp_ne eG_88 (by decide)).trans (gp_eq eG_87))), ((gp_ne eG_90 (by decide)).trans (gp_eq eG_88)), (rw_put eG_90 (by decide)).trans ((rw_put eG_88 (by decide)).trans ((rw_put eG_87 (by decide)).trans ((rw_put eG_86 (by decide)).trans ((rw_ast eG_84).trans (congrArg (fun q => upd q ((7 : Int32).toNatClampNeg) (G_2.1 66 50)) (rw_ast eG_81)))))), ⟨x_95, G_91, hX_96, f_98, hB_G_91, hq_92, ⟨c_100, ⟨rfl, rfl⟩⟩⟩⟩⟩⟩⟩⟩⟩⟩⟩⟩⟩⟩⟩⟩)⟩⟩), wd_t ht hW⟩, hS.F ht⟩) hS.2.2 dX12_pavement_417
              · have c_100 : x_95.toInt < 3 := xI_nle rfl rfl c_100
                refine lv_aload_n hx hb dX12_pavement_400 rfl (lv_at hl 1 rfl) ?_
                refine S_getR (n := 117) (C := RX12) (T := TX12) (N := 89) hx hb hg iX12 hown hK hW kd_66 rfl 87 (lt_b rfl) (hg (Cond.fieldLink RX12 172 "SlabWalkModel" "hasBox" "[Z") m1401) (fun _ h9 => h9) rfl dX12_pavement_401 ?_
                refine lv_iload_n hx hb dX12_pavement_404 rfl (lv_at hl 0 rfl) ?_
                refine ic_0 hx hb dX12_pavement_405 ?_
                refine S_zast hx hb hK hW hS kd_117 (vin ((by first | exact f_98.1 | omega)) ((by first | exact ok_26 f_98.2 c_100 | omega))) dX12_pavement_406 (fun G_117 H locs eG_117 hW hS => ?_)
                have hB_G_117 : Bd G_117 := hB_G_91.put (lo := 0) (hi := 1) eG_117 rfl rfl rfl nz_bool.1 nz_bool.2 (hB_G_91.2.put eG_117 rfl)
                have hF := hF.put eG_117 (Or.inl (by decide))
                obtain ⟨y_118, ey_118⟩ : ∃ q, q = x_95 + 1 := ⟨_, rfl⟩
                have ty_118 : y_118.toInt = x_95.toInt + 1 := xI_add rfl rfl ey_118 ((by first | exact ok_21 f_98.1 | omega)) ((by first | exact ok_43 f_98.2 | omega))
                refine lv_iinc (v := y_118) (lv' := [(1, .int y_118), (0, .ref (a 66))]) hx hb dX12_pavement_407 hl (k := 0) rfl (by rw [ey_118]; rfl) (lt_b rfl) rfl (fun ls hl => ?_)
                refine lv_goto (tgt := 395) hx hb dX12_pavement_410 rfl ?_
                exact ih_93 (3 - y_118.toInt : Int).toNat ((by first | (clear hP9 hW9 hS9 hac hsl d_1 d_2 b_6 c_7 b_8 b_10 b_12 hn_27 f_25 c_28 u_29 g_30 g_31 g_32 hn_43 f_41 c_44 g_45 u_46 hn_55 f_54 c_56 hn_67 f_65 c_68 g_69 u_70 hn_79 f_78 c_80 u_89; omega) | omega)) _ _ _ ⟨G_117, y_118, (Int.toNat_of_nonneg ((by first | exact ok_44 f_98.2 c_100 ty_118 | omega))), ⟨(by first | exact ok_23 f_98.1 ty_118 | omega), (by first | exact ok_45 f_98.2 c_100 ty_118 | omega)⟩, (hX_96.st (St_n_pavement_6_mk ⟨x_95, G_91, y_118, G_117, rfl, rfl, f_98, hB_G_91, ⟨c_100, ⟨y_118, ty_118, ⟨rfl, (Fr.put (rs := [117]) (fs := []) Fr.rf eG_117 (Or.inl (by decide))), rw_ast eG_117⟩⟩⟩⟩)), hW, hB_G_117, hF, (Fr.put (rs := [117]) (fs := []) (Fr.call9 (rs := [117]) (fs := []) Fr.rf hq_92 rfl rfl) eG_117 (Or.inl (by decide))), hS, lv_sub hl [0, 1] rfl⟩
            · have c_80 : x_75.toInt < 10 := xI_nle rfl rfl c_80
              refine lv_aload_n hx hb dX12_pavement_342 rfl (lv_at hl 1 rfl) ?_
              refine S_getR (n := 110) (C := RX12) (T := TX12) (N := 89) hx hb hg iX12 hown hK hW kd_66 rfl 76 (lt_b rfl) (hg (Cond.fieldLink RX12 151 "SlabWalkModel" "now" "[I") m1390) (fun _ h9 => h9) rfl dX12_pavement_343 ?_
              refine lv_iload_n hx hb dX12_pavement_346 rfl (lv_at hl 0 rfl) ?_
              refine ic_0 hx hb dX12_pavement_347 ?_
              refine S_iast hx hb hK hW hS kd_110 (vin ((by first | exact f_78.1 | omega)) ((by first | exact ok_668 f_78.2 | omega))) dX12_pavement_348 (fun G_119 H locs eG_119 hW hS => ?_)
              have qc_120 : (0 : Int32).toInt = 0 := rfl
              have hB_G_119 : Bd G_119 := hB_G_71.putNow 110 (by decide) eG_119 (by first | (clear hP9 hW9 hS9 hac hsl d_1 d_2 b_6 c_7 b_8 b_10 b_12 hn_27 f_25 c_28 u_29 g_30 g_31 g_32 hn_43 f_41 c_44 g_45 u_46 hn_55 f_54 c_56 hn_67 f_65 c_68 g_69 u_70 hn_79; omega) | omega) (by first | (clear hP9 hW9 hS9 hac hsl d_1 d_2 b_6 c_7 b_8 b_10 b_12 hn_27 f_25 c_28 u_29 g_30 g_31 g_32 hn_43 f_41 c_44 g_45 u_46 hn_55 f_54 c_56 hn_67 f_65 c_68 g_69 u_70 hn_79; omega) | omega) (by first | (clear hP9 hW9 hS9 hac hsl d_1 d_2 b_6 c_7 b_8 b_10 b_12 hn_27 f_25 c_28 u_29 g_30 g_31 g_32 hn_43 f_41 c_44 g_45 u_46 hn_55 f_54 c_56 hn_67 f_65 c_68 g_69 u_70 hn_79; omega) | omega) rfl
              have hF := hF.put eG_119 (Or.inl (by decide))
              obtain ⟨y_121, ey_121⟩ : ∃ q, q = x_75 + 1 := ⟨_, rfl⟩
              have ty_121 : y_121.toInt = x_75.toInt + 1 := xI_add rfl rfl ey_121 ((by first | exact ok_21 f_78.1 | omega)) ((by first | exact ok_47 f_78.2 | omega))
              refine lv_iinc (v := y_121) (lv' := [(1, .int y_121), (0, .ref (a 66))]) hx hb dX12_pavement_349 hl (k := 0) rfl (by rw [ey_121]; rfl) (lt_b rfl) rfl (fun ls hl => ?_)
              refine lv_goto (tgt := 336) hx hb dX12_pavement_352 rfl ?_
              exact ih_73 (10 - y_121.toInt : Int).toNat ((by first | (clear hP9 hW9 hS9 hac hsl d_1 d_2 b_6 c_7 b_8 b_10 b_12 hn_27 f_25 c_28 u_29 g_30 g_31 g_32 hn_43 f_41 c_44 g_45 u_46 hn_55 f_54 c_56 hn_67 f_65 c_68 g_69 u_70; omega) | omega)) _ _ _ ⟨G_119, y_121, (Int.toNat_of_nonneg ((by first | exact ok_48 f_78.2 c_80 ty_121 | omega))), ⟨(by first | exact ok_23 f_78.1 ty_121 | omega), (by first | exact ok_49 f_78.2 c_80 ty_121 | omega)⟩, (hX_76.st (St_n_pavement_5_mk ⟨x_75, G_71, y_121, G_119, rfl, rfl, f_78, hB_G_71, ⟨c_80, ⟨y_121, ty_121, ⟨rfl, (Fr.put (rs := [110]) (fs := []) Fr.rf eG_119 (Or.inl (by decide))), rw_ast eG_119⟩⟩⟩⟩)), hW, hB_G_119, hF, (Fr.put (rs := [110]) (fs := []) (Fr.call9 (rs := [110]) (fs := []) Fr.rf hq_72 rfl rfl) eG_119 (Or.inl (by decide))), hS, lv_sub hl [0, 1] rfl⟩
          · have c_68 : x_62.toInt < (G_2.1 66 46).toInt := xI_nle rfl rfl c_68
            obtain ⟨w1_, w2_, w3_, w4_, w5_, w6_, w7_⟩ := gN_at (G := G_2) (by first | (clear hP9 hW9 hS9 hac hsl d_1 d_2 b_6 c_7 b_8 b_12 hn_27 f_25 c_28 u_29 g_30 g_31 g_32 hn_43 f_41 c_44 g_45 u_46 hn_55 f_54 c_56 hn_67; omega) | omega) x_62 (by first | (clear hP9 hW9 hS9 hac hsl d_1 d_2 b_6 c_7 b_8 b_12 hn_27 f_25 c_28 u_29 g_30 g_31 g_32 hn_43 f_41 c_44 g_45 u_46 hn_55 f_54 c_56 hn_67; omega) | omega) (by first | (clear hP9 hW9 hS9 hac hsl d_1 d_2 b_6 c_7 b_8 b_12 hn_27 f_25 c_28 u_29 g_30 g_31 g_32 hn_43 f_41 c_44 g_45 u_46 hn_55 f_54 c_56 hn_67; omega) | omega)
            refine lv_aload_n hx hb dX12_pavement_280 rfl (lv_at hl 1 rfl) ?_
            refine S_getR (n := 92) (C := RX12) (T := TX12) (N := 89) hx hb hg iX12 hown hK hW kd_66 rfl 40 (lt_b rfl) (hg (Cond.fieldLink RX12 90 "SlabWalkModel" "foots" "[I") m1354) (fun _ h9 => h9) rfl dX12_pavement_281 ?_
            refine lv_iload_n hx hb dX12_pavement_284 rfl (lv_at hl 0 rfl) ?_
            refine lv_aload_n hx hb dX12_pavement_285 rfl (lv_at hl 1 rfl) ?_
            refine S_getR (n := 82) (C := RX12) (T := TX12) (N := 89) hx hb hg iX12 hown hK hW kd_66 rfl 30 (lt_b rfl) (hg (Cond.fieldLink RX12 60 "SlabWalkModel" "nFoot" "[I") m1344) (fun _ h9 => h9) rfl dX12_pavement_286 ?_
            refine lv_iload_n hx hb dX12_pavement_289 rfl (lv_at hl 0 rfl) ?_
            refine S_iald hx hb hK hW kd_82 (vin ((by first | exact f_65.1 | omega)) ((by first | exact ok_1286 b_10.2 f_65.2 c_68 | omega))) dX12_pavement_290 (fun y_122 ey_122 => ?_)
            have u_123 : y_122.toInt = (G_2.1 82 x_62.toNatClampNeg).toInt := congrArg Int32.toInt (ey_122.trans (((hq_59.ri9 82 rfl x_62.toNatClampNeg).trans ((hq_48.ri9 82 rfl x_62.toNatClampNeg).trans ((hq_35.ri9 82 rfl x_62.toNatClampNeg).trans ((hq_19.ri9 82 rfl x_62.toNatClampNeg).trans ((gp_ne eG_16 (fun q => absurd q.1 (Nat.ne_of_beq_eq_false rfl))).trans ((gp_ne eG_15 (fun q => absurd q.1 (Nat.ne_of_beq_eq_false rfl))).trans ((gp_ne eG_14 (fun q => absurd q.1 (Nat.ne_of_beq_eq_false rfl))).trans ((gp_ne eG_13 (fun q => absurd q.1 (Nat.ne_of_beq_eq_false rfl))).trans ((gp_ne eG_11 (fun q => absurd q.1 (Nat.ne_of_beq_eq_false rfl))).trans (gp_ne eG_9 (fun q => absurd q.1 (Nat.ne_of_beq_eq_false rfl))))))))))))))
            refine S_iast hx hb hK hW hS kd_92 (vin ((by first | exact f_65.1 | omega)) ((by first | exact ok_1286 b_10.2 f_65.2 c_68 | omega))) dX12_pavement_291 (fun G_124 H locs eG_124 hW hS => ?_)
            have hB_G_124 : Bd G_124 := hB_G_58.put (V := y_122.toInt) (lo := 0) (hi := 12) eG_124 rfl rfl rfl ((by first | (clear hP9 hW9 hS9 hac hsl d_1 d_2 b_6 c_7 b_8 b_12 hn_27 f_25 c_28 u_29 g_30 g_31 g_32 hn_43 f_41 c_44 g_45 u_46 hn_55 f_54 c_56 hn_67; omega) | omega)) ((by first | (clear hP9 hW9 hS9 hac hsl d_1 d_2 b_6 c_7 b_8 b_12 hn_27 f_25 c_28 u_29 g_30 g_31 g_32 hn_43 f_41 c_44 g_45 u_46 hn_55 f_54 c_56 hn_67; omega) | omega)) (hB_G_58.2.put eG_124 rfl)
            have hF := hF.put eG_124 (Or.inl (by decide))
            refine lv_aload_n hx hb dX12_pavement_292 rfl (lv_at hl 1 rfl) ?_
            refine S_getR (n := 93) (C := RX12) (T := TX12) (N := 89) hx hb hg iX12 hown hK hW kd_66 rfl 41 (lt_b rfl) (hg (Cond.fieldLink RX12 93 "SlabWalkModel" "leasts" "[I") m1355) (fun _ h9 => h9) rfl dX12_pavement_293 ?_
            refine lv_iload_n hx hb dX12_pavement_296 rfl (lv_at hl 0 rfl) ?_
            refine lv_aload_n hx hb dX12_pavement_297 rfl (lv_at hl 1 rfl) ?_
            refine S_getR (n := 83) (C := RX12) (T := TX12) (N := 89) hx hb hg iX12 hown hK hW kd_66 rfl 31 (lt_b rfl) (hg (Cond.fieldLink RX12 63 "SlabWalkModel" "nLeast" "[I") m1345) (fun _ h9 => h9) rfl dX12_pavement_298 ?_
            refine lv_iload_n hx hb dX12_pavement_301 rfl (lv_at hl 0 rfl) ?_
            refine S_iald hx hb hK hW kd_83 (vin ((by first | exact f_65.1 | omega)) ((by first | exact ok_1286 b_10.2 f_65.2 c_68 | omega))) dX12_pavement_302 (fun y_125 ey_125 => ?_)
            have u_126 : y_125.toInt = (G_2.1 83 x_62.toNatClampNeg).toInt := congrArg Int32.toInt (ey_125.trans (((gp_ne eG_124 (fun q => absurd q.1 (Nat.ne_of_beq_eq_false rfl))).trans ((hq_59.ri9 83 rfl x_62.toNatClampNeg).trans ((hq_48.ri9 83 rfl x_62.toNatClampNeg).trans ((hq_35.ri9 83 rfl x_62.toNatClampNeg).trans ((hq_19.ri9 83 rfl x_62.toNatClampNeg).trans ((gp_ne eG_16 (fun q => absurd q.1 (Nat.ne_of_beq_eq_false rfl))).trans ((gp_ne eG_15 (fun q => absurd q.1 (Nat.ne_of_beq_eq_false rfl))).trans ((gp_ne eG_14 (fun q => absurd q.1 (Nat.ne_of_beq_eq_false rfl))).trans ((gp_ne eG_13 (fun q => absurd q.1 (Nat.ne_of_beq_eq_false rfl))).trans ((gp_ne eG_11 (fun q => absurd q.1 (Nat.ne_of_beq_eq_false rfl))).trans (gp_ne eG_9 (fun q => absurd q.1 (Nat.ne_of_beq_eq_false rfl)))))))))))))))
            refine S_iast hx hb hK hW hS kd_93 (vin ((by first | exact f_65.1 | omega)) ((by first | exact ok_1286 b_10.2 f_65.2 c_68 | omega))) dX12_pavement_303 (fun G_127 H locs eG_127 hW hS => ?_)
            have hB_G_127 : Bd G_127 := hB_G_124.put (V := y_125.toInt) (lo := 0) (hi := 60) eG_127 rfl rfl rfl ((by first | (clear hP9 hW9 hS9 hac hsl d_1 d_2 b_6 c_7 b_8 b_12 hn_27 f_25 c_28 u_29 g_30 g_31 g_32 hn_43 f_41 c_44 g_45 u_46 hn_55 f_54 c_56 hn_67; omega) | omega)) ((by first | (clear hP9 hW9 hS9 hac hsl d_1 d_2 b_6 c_7 b_8 b_12 hn_27 f_25 c_28 u_29 g_30 g_31 g_32 hn_43 f_41 c_44 g_45 u_46 hn_55 f_54 c_56 hn_67; omega) | omega)) (hB_G_124.2.put eG_127 rfl)
            have hF := hF.put eG_127 (Or.inl (by decide))
            refine lv_aload_n hx hb dX12_pavement_304 rfl (lv_at hl 1 rfl) ?_
            refine S_getR (n := 94) (C := RX12) (T := TX12) (N := 89) hx hb hg iX12 hown hK hW kd_66 rfl 42 (lt_b rfl) (hg (Cond.fieldLink RX12 96 "SlabWalkModel" "mosts" "[I") m1356) (fun _ h9 => h9) rfl dX12_pavement_305 ?_
            refine lv_iload_n hx hb dX12_pavement_308 rfl (lv_at hl 0 rfl) ?_
            refine lv_aload_n hx hb dX12_pavement_309 rfl (lv_at hl 1 rfl) ?_
            refine S_getR (n := 84) (C := RX12) (T := TX12) (N := 89) hx hb hg iX12 hown hK hW kd_66 rfl 32 (lt_b rfl) (hg (Cond.fieldLink RX12 66 "SlabWalkModel" "nMost" "[I") m1346) (fun _ h9 => h9) rfl dX12_pavement_310 ?_
            refine lv_iload_n hx hb dX12_pavement_313 rfl (lv_at hl 0 rfl) ?_
            refine S_iald hx hb hK hW kd_84 (vin ((by first | exact f_65.1 | omega)) ((by first | exact ok_1286 b_10.2 f_65.2 c_68 | omega))) dX12_pavement_314 (fun y_128 ey_128 => ?_)
            have u_129 : y_128.toInt = (G_2.1 84 x_62.toNatClampNeg).toInt := congrArg Int32.toInt (ey_128.trans (((gp_ne eG_127 (fun q => absurd q.1 (Nat.ne_of_beq_eq_false rfl))).trans ((gp_ne eG_124 (fun q => absurd q.1 (Nat.ne_of_beq_eq_false rfl))).trans ((hq_59.ri9 84 rfl x_62.toNatClampNeg).trans ((hq_48.ri9 84 rfl x_62.toNatClampNeg).trans ((hq_35.ri9 84 rfl x_62.toNatClampNeg).trans ((hq_19.ri9 84 rfl x_62.toNatClampNeg).trans ((gp_ne eG_16 (fun q => absurd q.1 (Nat.ne_of_beq_eq_false rfl))).trans ((gp_ne eG_15 (fun q => absurd q.1 (Nat.ne_of_beq_eq_false rfl))).trans ((gp_ne eG_14 (fun q => absurd q.1 (Nat.ne_of_beq_eq_false rfl))).trans ((gp_ne eG_13 (fun q => absurd q.1 (Nat.ne_of_beq_eq_false rfl))).trans ((gp_ne eG_11 (fun q => absurd q.1 (Nat.ne_of_beq_eq_false rfl))).trans (gp_ne eG_9 (fun q => absurd q.1 (Nat.ne_of_beq_eq_false rfl))))))))))))))))
            refine S_iast hx hb hK hW hS kd_94 (vin ((by first | exact f_65.1 | omega)) ((by first | exact ok_1286 b_10.2 f_65.2 c_68 | omega))) dX12_pavement_315 (fun G_130 H locs eG_130 hW hS => ?_)
            have hB_G_130 : Bd G_130 := hB_G_127.put (V := y_128.toInt) (lo := 0) (hi := 60) eG_130 rfl rfl rfl ((by first | (clear hP9 hW9 hS9 hac hsl d_1 d_2 b_6 c_7 b_8 b_12 hn_27 f_25 c_28 u_29 g_30 g_31 g_32 hn_43 f_41 c_44 g_45 u_46 hn_55 f_54 c_56 hn_67; omega) | omega)) ((by first | (clear hP9 hW9 hS9 hac hsl d_1 d_2 b_6 c_7 b_8 b_12 hn_27 f_25 c_28 u_29 g_30 g_31 g_32 hn_43 f_41 c_44 g_45 u_46 hn_55 f_54 c_56 hn_67; omega) | omega)) (hB_G_127.2.put eG_130 rfl)
            have hF := hF.put eG_130 (Or.inl (by decide))
            refine lv_aload_n hx hb dX12_pavement_316 rfl (lv_at hl 1 rfl) ?_
            refine S_getR (n := 95) (C := RX12) (T := TX12) (N := 89) hx hb hg iX12 hown hK hW kd_66 rfl 43 (lt_b rfl) (hg (Cond.fieldLink RX12 99 "SlabWalkModel" "leaps" "[I") m1357) (fun _ h9 => h9) rfl dX12_pavement_317 ?_
            refine lv_iload_n hx hb dX12_pavement_320 rfl (lv_at hl 0 rfl) ?_
            refine lv_aload_n hx hb dX12_pavement_321 rfl (lv_at hl 1 rfl) ?_
            refine S_getR (n := 85) (C := RX12) (T := TX12) (N := 89) hx hb hg iX12 hown hK hW kd_66 rfl 33 (lt_b rfl) (hg (Cond.fieldLink RX12 69 "SlabWalkModel" "nLeap" "[I") m1347) (fun _ h9 => h9) rfl dX12_pavement_322 ?_
            refine lv_iload_n hx hb dX12_pavement_325 rfl (lv_at hl 0 rfl) ?_
            refine S_iald hx hb hK hW kd_85 (vin ((by first | exact f_65.1 | omega)) ((by first | exact ok_1286 b_10.2 f_65.2 c_68 | omega))) dX12_pavement_326 (fun y_131 ey_131 => ?_)
            have u_132 : y_131.toInt = (G_2.1 85 x_62.toNatClampNeg).toInt := congrArg Int32.toInt (ey_131.trans (((gp_ne eG_130 (fun q => absurd q.1 (Nat.ne_of_beq_eq_false rfl))).trans ((gp_ne eG_127 (fun q => absurd q.1 (Nat.ne_of_beq_eq_false rfl))).trans ((gp_ne eG_124 (fun q => absurd q.1 (Nat.ne_of_beq_eq_false rfl))).trans ((hq_59.ri9 85 rfl x_62.toNatClampNeg).trans ((hq_48.ri9 85 rfl x_62.toNatClampNeg).trans ((hq_35.ri9 85 rfl x_62.toNatClampNeg).trans ((hq_19.ri9 85 rfl x_62.toNatClampNeg).trans ((gp_ne eG_16 (fun q => absurd q.1 (Nat.ne_of_beq_eq_false rfl))).trans ((gp_ne eG_15 (fun q => absurd q.1 (Nat.ne_of_beq_eq_false rfl))).trans ((gp_ne eG_14 (fun q => absurd q.1 (Nat.ne_of_beq_eq_false rfl))).trans ((gp_ne eG_13 (fun q => absurd q.1 (Nat.ne_of_beq_eq_false rfl))).trans ((gp_ne eG_11 (fun q => absurd q.1 (Nat.ne_of_beq_eq_false rfl))).trans (gp_ne eG_9 (fun q => absurd q.1 (Nat.ne_of_beq_eq_false rfl)))))))))))))))))
            refine S_iast hx hb hK hW hS kd_95 (vin ((by first | exact f_65.1 | omega)) ((by first | exact ok_1286 b_10.2 f_65.2 c_68 | omega))) dX12_pavement_327 (fun G_133 H locs eG_133 hW hS => ?_)
            have hB_G_133 : Bd G_133 := hB_G_130.put (V := y_131.toInt) (lo := 0) (hi := 99) eG_133 rfl rfl rfl ((by first | (clear hP9 hW9 hS9 hac hsl d_1 d_2 b_6 c_7 b_8 b_12 hn_27 f_25 c_28 u_29 g_30 g_31 g_32 hn_43 f_41 c_44 g_45 u_46 hn_55 f_54 c_56 hn_67; omega) | omega)) ((by first | (clear hP9 hW9 hS9 hac hsl d_1 d_2 b_6 c_7 b_8 b_12 hn_27 f_25 c_28 u_29 g_30 g_31 g_32 hn_43 f_41 c_44 g_45 u_46 hn_55 f_54 c_56 hn_67; omega) | omega)) (hB_G_130.2.put eG_133 rfl)
            have hF := hF.put eG_133 (Or.inl (by decide))
            obtain ⟨y_134, ey_134⟩ : ∃ q, q = x_62 + 1 := ⟨_, rfl⟩
            have ty_134 : y_134.toInt = x_62.toInt + 1 := xI_add rfl rfl ey_134 ((by first | exact ok_21 f_65.1 | omega)) ((by first | exact ok_427 f_65.2 | omega))
            refine lv_iinc (v := y_134) (lv' := [(1, .int y_134), (0, .ref (a 66))]) hx hb dX12_pavement_328 hl (k := 0) rfl (by rw [ey_134]; rfl) (lt_b rfl) rfl (fun ls hl => ?_)
            have hwp_135 : WP G_133 y_134.toInt := WP_step (x := x_62) (show WP G_58 x_62.toInt by assumption) (by first | (clear hP9 hW9 hS9 hac hsl d_1 d_2 b_6 c_7 b_8 b_12 hn_27 f_25 c_28 u_29 g_30 g_31 g_32 hn_43 f_41 c_44 g_45 u_46 hn_55 f_54 c_56 hn_67; omega) | omega) eG_124 eG_127 eG_130 eG_133 ⟨by omega, by omega, by omega, by omega, by omega, by omega, by omega⟩ (by first | (clear hP9 hW9 hS9 hac hsl d_1 d_2 b_6 c_7 b_8 b_12 hn_27 f_25 c_28 u_29 g_30 g_31 g_32 hn_43 f_41 c_44 g_45 u_46 hn_55 f_54 c_56 hn_67; omega) | omega)
            refine lv_goto (tgt := 272) hx hb dX12_pavement_331 rfl ?_
            exact ih_60 (4 - y_134.toInt : Int).toNat ((by first | (clear hP9 hW9 hS9 hac hsl d_1 d_2 b_6 c_7 b_8 b_12 hn_27 f_25 c_28 u_29 g_30 g_31 g_32 hn_43 f_41 c_44 g_45 u_46 hn_55 f_54 c_56; omega) | omega)) _ _ _ ⟨G_133, y_134, (Int.toNat_of_nonneg ((by first | exact ok_1287 b_10.2 f_65.2 c_68 ty_134 | omega))), ⟨(by first | exact ok_23 f_65.1 ty_134 | omega), (by first | exact ok_1288 b_10.2 f_65.2 c_68 ty_134 | omega)⟩, (by assumption), (hX_63.st (St_n_pavement_4_mk ⟨x_62, G_58, y_134, G_133, rfl, rfl, f_65, f_66, hB_G_58, ⟨c_68, ⟨y_122, ey_122, ⟨y_125, ey_125.trans (congrFun (rw_put eG_124 (by decide)) _), ⟨y_128, ey_128.trans (congrFun ((rw_put eG_127 (by decide)).trans (rw_put eG_124 (by decide))) _), ⟨y_131, ey_131.trans (congrFun ((rw_put eG_130 (by decide)).trans ((rw_put eG_127 (by decide)).trans (rw_put eG_124 (by decide)))) _), ⟨y_134, ty_134, ⟨rfl, (Fr.put (rs := [92, 93, 94, 95]) (fs := []) (Fr.put (rs := [92, 93, 94, 95]) (fs := []) (Fr.put (rs := [92, 93, 94, 95]) (fs := []) (Fr.put (rs := [92, 93, 94, 95]) (fs := []) Fr.rf eG_124 (Or.inl (by decide))) eG_127 (Or.inl (by decide))) eG_130 (Or.inl (by decide))) eG_133 (Or.inl (by decide))), (rw_put eG_133 (by decide)).trans ((rw_put eG_130 (by decide)).trans ((rw_put eG_127 (by decide)).trans (rw_ast eG_124))), (rw_put eG_133 (by decide)).trans ((rw_put eG_130 (by decide)).trans ((rw_ast eG_127).trans (congrArg (fun q => upd q (x_62.toNatClampNeg) y_125) (rw_put eG_124 (by decide))))), (rw_put eG_133 (by decide)).trans ((rw_ast eG_130).trans (congrArg (fun q => upd q (x_62.toNatClampNeg) y_128) ((rw_put eG_127 (by decide)).trans (rw_put eG_124 (by decide))))), (rw_ast eG_133).trans (congrArg (fun q => upd q (x_62.toNatClampNeg) y_131) ((rw_put eG_130 (by decide)).trans ((rw_put eG_127 (by decide)).trans (rw_put eG_124 (by decide)))))⟩⟩⟩⟩⟩⟩⟩⟩)), hW, hB_G_133, hF, (Fr.put (rs := [92, 93, 94, 95]) (fs := []) (Fr.put (rs := [92, 93, 94, 95]) (fs := []) (Fr.put (rs := [92, 93, 94, 95]) (fs := []) (Fr.put (rs := [92, 93, 94, 95]) (fs := []) (Fr.call9 (rs := [92, 93, 94, 95]) (fs := []) Fr.rf hq_59 rfl rfl) eG_124 (Or.inl (by decide))) eG_127 (Or.inl (by decide))) eG_130 (Or.inl (by decide))) eG_133 (Or.inl (by decide))), hS, lv_sub hl [0, 1] rfl⟩
        · have c_56 : x_51.toInt < (G_2.1 66 45).toInt := xI_nle rfl rfl c_56
          refine lv_aload_n hx hb dX12_pavement_176 rfl (lv_at hl 1 rfl) ?_
          refine S_getR (n := 91) (C := RX12) (T := TX12) (N := 89) hx hb hg iX12 hown hK hW kd_66 rfl 39 (lt_b rfl) (hg (Cond.fieldLink RX12 87 "SlabWalkModel" "lengths" "[I") m1353) (fun _ h9 => h9) rfl dX12_pavement_177 ?_
          refine lv_iload_n hx hb dX12_pavement_180 rfl (lv_at hl 0 rfl) ?_
          refine lv_aload_n hx hb dX12_pavement_181 rfl (lv_at hl 1 rfl) ?_
          refine S_getR (n := 81) (C := RX12) (T := TX12) (N := 89) hx hb hg iX12 hown hK hW kd_66 rfl 29 (lt_b rfl) (hg (Cond.fieldLink RX12 57 "SlabWalkModel" "nLength" "[I") m1343) (fun _ h9 => h9) rfl dX12_pavement_182 ?_
          refine lv_iload_n hx hb dX12_pavement_185 rfl (lv_at hl 0 rfl) ?_
          refine S_iald hx hb hK hW kd_81 (vin ((by first | exact f_54.1 | omega)) ((by first | exact ok_1289 b_8.2 f_54.2 c_56 | omega))) dX12_pavement_186 (fun y_136 ey_136 => ?_)
          have ty_136 : 0 ≤ y_136.toInt ∧ y_136.toInt ≤ 400 := bv_81 hB_G_47 ey_136
          have u_137 : y_136.toInt = (G_2.1 81 x_51.toNatClampNeg).toInt := congrArg Int32.toInt (ey_136.trans (((hq_48.ri9 81 rfl x_51.toNatClampNeg).trans ((hq_35.ri9 81 rfl x_51.toNatClampNeg).trans ((hq_19.ri9 81 rfl x_51.toNatClampNeg).trans ((gp_ne eG_16 (fun q => absurd q.1 (Nat.ne_of_beq_eq_false rfl))).trans ((gp_ne eG_15 (fun q => absurd q.1 (Nat.ne_of_beq_eq_false rfl))).trans ((gp_ne eG_14 (fun q => absurd q.1 (Nat.ne_of_beq_eq_false rfl))).trans ((gp_ne eG_13 (fun q => absurd q.1 (Nat.ne_of_beq_eq_false rfl))).trans ((gp_ne eG_11 (fun q => absurd q.1 (Nat.ne_of_beq_eq_false rfl))).trans (gp_ne eG_9 (fun q => absurd q.1 (Nat.ne_of_beq_eq_false rfl)))))))))))))
          refine S_iast hx hb hK hW hS kd_91 (vin ((by first | exact f_54.1 | omega)) ((by first | exact ok_1289 b_8.2 f_54.2 c_56 | omega))) dX12_pavement_187 (fun G_138 H locs eG_138 hW hS => ?_)
          have hB_G_138 : Bd G_138 := hB_G_47.put (V := y_136.toInt) (lo := 0) (hi := 400) eG_138 rfl rfl rfl ((by first | exact ty_136.1 | omega)) ((by first | exact ty_136.2 | omega)) (hB_G_47.2.put eG_138 rfl)
          have hF := hF.put eG_138 (Or.inl (by decide))
          refine lv_sipush (v := 400) hx hb dX12_pavement_188 (by decide) ?_
          refine lv_iload_n hx hb dX12_pavement_191 rfl (lv_at hl 0 rfl) ?_
          refine lv_imul hx hb dX12_pavement_192 ?_
          refine lv_topi (fun y_139 ey_139 => ?_)
          have ty_139 : y_139.toInt = 400 * x_51.toInt := xI_mul rfl rfl ey_139 ((by first | exact ok_732 f_54.1 | omega)) ((by first | exact ok_1290 f_54.2 | omega))
          refine lv_istore_n (lv' := [(2, .int y_139), (1, .int x_51), (0, .ref (a 66))]) hx hb dX12_pavement_193 rfl hl (lt_b rfl) rfl (fun ls hl => ?_)
          refine loop_N (Inv := fun n H locs ls => ∃ (G_140 : GS) (x_144 : Int32), (n : Int) = 1200 - x_144.toInt ∧ (0 ≤ x_144.toInt ∧ x_144.toInt ≤ 1200) ∧ Rc (St_n_pavement_7 x_51) (y_139, G_138) (x_144, G_140) ∧ Wd D k A a G_140 H ∧ Bd G_140 ∧ Fr [110, 117, 68, 69, 70, 71, 72, 73, 74, 75, 77, 78, 79, 80, 81, 82, 83, 84, 85, 86, 87, 88, 89, 90, 91, 92, 93, 94, 95, 96] [(66, 1), (66, 2), (66, 3), (66, 4), (66, 5), (66, 6), (66, 7), (66, 8), (66, 9), (66, 19), (66, 20), (66, 21), (66, 22), (66, 23), (66, 24), (66, 45), (66, 46), (66, 47), (66, 48), (66, 49), (66, 50), (66, 51), (66, 52), (66, 53), (66, 54), (66, 55), (66, 56), (66, 66), (66, 78), (66, 79), (66, 85)] G G_140 ∧ Fr [87, 88, 89, 90] [] G_138 G_140 ∧ va_S A s.heap H locs ∧ lv_has ls 3 [(2, .int x_144), (1, .int x_51), (0, .ref (a 66))]) (fun n_143 H locs ls ih_142 hI => ?_) (1200 - y_139.toInt : Int).toNat ⟨G_138, y_139, (Int.toNat_of_nonneg ((by first | exact ok_1291 f_54.2 ty_139 | omega))), ⟨(by first | exact ok_1292 f_54.1 ty_139 | omega), (by first | exact ok_1293 f_54.2 ty_139 | omega)⟩, Rc.rf, hW, hB_G_138, hF, Fr.rf, hS, lv_sub hl [0, 1, 2] rfl⟩
          obtain ⟨G_140, x_144, hn_147, f_146, hX_145, hW, hB_G_140, hF, hq_141, hS, hl⟩ := hI
          refine lv_iload_n hx hb dX12_pavement_194 rfl (lv_at hl 0 rfl) ?_
          refine lv_sipush (v := 400) hx hb dX12_pavement_195 (by decide) ?_
          refine lv_iload_n hx hb dX12_pavement_198 rfl (lv_at hl 1 rfl) ?_
          refine lv_imul hx hb dX12_pavement_199 ?_
          refine lv_topi (fun y_148 ey_148 => ?_)
          have ty_148 : y_148.toInt = 400 * x_51.toInt := xI_mul rfl rfl ey_148 ((by first | exact ok_732 f_54.1 | omega)) ((by first | exact ok_1290 f_54.2 | omega))
          refine lv_aload_n hx hb dX12_pavement_200 rfl (lv_at hl 2 rfl) ?_
          refine S_getR (n := 91) (C := RX12) (T := TX12) (N := 89) hx hb hg iX12 hown hK hW kd_66 rfl 39 (lt_b rfl) (hg (Cond.fieldLink RX12 87 "SlabWalkModel" "lengths" "[I") m1353) (fun _ h9 => h9) rfl dX12_pavement_201 ?_
          refine lv_iload_n hx hb dX12_pavement_204 rfl (lv_at hl 1 rfl) ?_
          refine S_iald hx hb hK hW kd_91 (vin ((by first | exact f_54.1 | omega)) ((by first | exact ok_1289 b_8.2 f_54.2 c_56 | omega))) dX12_pavement_205 (fun y_149 ey_149 => ?_)
          have ty_149 : 0 ≤ y_149.toInt ∧ y_149.toInt ≤ 400 := bv_91 hB_G_140 ey_149
          have u_150 : y_149.toInt = y_136.toInt := congrArg Int32.toInt (ey_149.trans (((hq_141.ri9 91 rfl x_51.toNatClampNeg).trans (gp_eq eG_138))))
          refine lv_iadd hx hb dX12_pavement_206 ?_
          refine lv_topi (fun y_151 ey_151 => ?_)
          have ty_151 : y_151.toInt = y_148.toInt + y_149.toInt := xI_add rfl rfl ey_151 ((by first | exact ok_734 f_54.1 ty_148 ty_149.1 | omega)) ((by first | exact ok_1294 f_54.2 ty_148 ty_149.2 | omega))
          refine lv_icmp_ge (tgt := 264) hx hb dX12_pavement_207 rfl (fun c_152 => ?_) (fun c_152 => ?_)
          · have c_152 : y_151.toInt ≤ x_144.toInt := xI_le rfl rfl c_152
            obtain ⟨y_153, ey_153⟩ : ∃ q, q = x_51 + 1 := ⟨_, rfl⟩
            have ty_153 : y_153.toInt = x_51.toInt + 1 := xI_add rfl rfl ey_153 ((by first | exact ok_21 f_54.1 | omega)) ((by first | (clear hP9 hW9 hS9 hac hsl d_1 d_2 b_6 c_7 b_10 b_12 hn_27 f_25 c_28 u_29 g_30 g_31 g_32 hn_43 f_41 c_44 g_45 u_46 hn_55 hn_147; omega) | omega))
            refine lv_iinc (v := y_153) (lv' := [(1, .int y_153), (2, .int x_144), (0, .ref (a 66))]) hx hb dX12_pavement_264 hl (k := 1) rfl (by rw [ey_153]; rfl) (lt_b rfl) rfl (fun ls hl => ?_)
            refine lv_goto (tgt := 168) hx hb dX12_pavement_267 rfl ?_
            exact ih_49 (3 - y_153.toInt : Int).toNat ((by first | (clear hP9 hW9 hS9 hac hsl d_1 d_2 b_6 c_7 b_10 b_12 hn_27 f_25 c_28 u_29 g_30 g_31 g_32 hn_43 f_41 c_44 g_45 u_46; omega) | omega)) _ _ _ ⟨G_140, y_153, (Int.toNat_of_nonneg ((by first | (clear hP9 hW9 hS9 hac hsl d_1 d_2 b_6 c_7 b_10 b_12 hn_27 f_25 c_28 u_29 g_30 g_31 g_32 hn_43 f_41 c_44 g_45 u_46 hn_55 hn_147; omega) | omega))), ⟨(by first | exact ok_23 f_54.1 ty_153 | omega), (by first | (clear hP9 hW9 hS9 hac hsl d_1 d_2 b_6 c_7 b_10 b_12 hn_27 f_25 c_28 u_29 g_30 g_31 g_32 hn_43 f_41 c_44 g_45 u_46 hn_55 hn_147; omega) | omega)⟩, (hX_52.st (St_n_pavement_3_mk ⟨x_51, G_47, y_153, G_140, rfl, rfl, f_54, hB_G_47, ⟨c_56, ⟨y_136, ey_136, ⟨y_139, ty_139, ⟨G_138, hB_G_138, (Fr.put (rs := [91]) (fs := []) Fr.rf eG_138 (Or.inl (by decide))), rw_ast eG_138, ⟨x_144, G_140, hX_145, f_146, hB_G_140, hq_141, ⟨y_148, ty_148, ⟨y_149, ey_149, ⟨y_151, ty_151, ⟨c_152, ⟨y_153, ty_153, ⟨rfl, rfl⟩⟩⟩⟩⟩⟩⟩⟩⟩⟩⟩⟩)), hW, hB_G_140, hF, (Fr.call9 (rs := [87, 88, 89, 90, 91]) (fs := []) (Fr.put (rs := [87, 88, 89, 90, 91]) (fs := []) (Fr.call9 (rs := [87, 88, 89, 90, 91]) (fs := []) Fr.rf hq_48 rfl rfl) eG_138 (Or.inl (by decide))) hq_141 rfl rfl), hS, lv_sub hl [0, 2] rfl⟩
          · have c_152 : x_144.toInt < y_151.toInt := xI_nle rfl rfl c_152
            refine lv_aload_n hx hb dX12_pavement_210 rfl (lv_at hl 2 rfl) ?_
            refine S_getR (n := 87) (C := RX12) (T := TX12) (N := 89) hx hb hg iX12 hown hK hW kd_66 rfl 35 (lt_b rfl) (hg (Cond.fieldLink RX12 75 "SlabWalkModel" "marks" "[I") m1349) (fun _ h9 => h9) rfl dX12_pavement_211 ?_
            refine lv_iload_n hx hb dX12_pavement_214 rfl (lv_at hl 0 rfl) ?_
            refine lv_aload_n hx hb dX12_pavement_215 rfl (lv_at hl 2 rfl) ?_
            refine S_getR (n := 77) (C := RX12) (T := TX12) (N := 89) hx hb hg iX12 hown hK hW kd_66 rfl 25 (lt_b rfl) (hg (Cond.fieldLink RX12 45 "SlabWalkModel" "nMarks" "[I") m1339) (fun _ h9 => h9) rfl dX12_pavement_216 ?_
            refine lv_iload_n hx hb dX12_pavement_219 rfl (lv_at hl 0 rfl) ?_
            refine S_iald hx hb hK hW kd_77 (vin ((by first | exact f_146.1 | omega)) ((by first | exact ok_1295 b_8.2 c_56 f_146.2 ty_148 ty_149.2 ty_151 c_152 | omega))) dX12_pavement_220 (fun y_154 ey_154 => ?_)
            have u_155 : y_154.toInt = (G_2.1 77 x_144.toNatClampNeg).toInt := congrArg Int32.toInt (ey_154.trans (((hq_141.ri9 77 rfl x_144.toNatClampNeg).trans ((gp_ne eG_138 (fun q => absurd q.1 (Nat.ne_of_beq_eq_false rfl))).trans ((hq_48.ri9 77 rfl x_144.toNatClampNeg).trans ((hq_35.ri9 77 rfl x_144.toNatClampNeg).trans ((hq_19.ri9 77 rfl x_144.toNatClampNeg).trans ((gp_ne eG_16 (fun q => absurd q.1 (Nat.ne_of_beq_eq_false rfl))).trans ((gp_ne eG_15 (fun q => absurd q.1 (Nat.ne_of_beq_eq_false rfl))).trans ((gp_ne eG_14 (fun q => absurd q.1 (Nat.ne_of_beq_eq_false rfl))).trans ((gp_ne eG_13 (fun q => absurd q.1 (Nat.ne_of_beq_eq_false rfl))).trans ((gp_ne eG_11 (fun q => absurd q.1 (Nat.ne_of_beq_eq_false rfl))).trans (gp_ne eG_9 (fun q => absurd q.1 (Nat.ne_of_beq_eq_false rfl)))))))))))))))
            refine S_iast hx hb hK hW hS kd_87 (vin ((by first | exact f_146.1 | omega)) ((by first | exact ok_1295 b_8.2 c_56 f_146.2 ty_148 ty_149.2 ty_151 c_152 | omega))) dX12_pavement_221 (fun G_156 H locs eG_156 hW hS => ?_)
            have hB_G_156 : Bd G_156 := hB_G_140.put (lo := (-2147483648)) (hi := 2147483647) eG_156 rfl rfl rfl (tI_rng _).1 (tI_rng _).2 (hB_G_140.2.put eG_156 rfl)
            have hF := hF.put eG_156 (Or.inl (by decide))
            refine lv_aload_n hx hb dX12_pavement_222 rfl (lv_at hl 2 rfl) ?_
            refine S_getR (n := 88) (C := RX12) (T := TX12) (N := 89) hx hb hg iX12 hown hK hW kd_66 rfl 36 (lt_b rfl) (hg (Cond.fieldLink RX12 78 "SlabWalkModel" "nths" "[I") m1350) (fun _ h9 => h9) rfl dX12_pavement_223 ?_
            refine lv_iload_n hx hb dX12_pavement_226 rfl (lv_at hl 0 rfl) ?_
            refine lv_aload_n hx hb dX12_pavement_227 rfl (lv_at hl 2 rfl) ?_
            refine S_getR (n := 78) (C := RX12) (T := TX12) (N := 89) hx hb hg iX12 hown hK hW kd_66 rfl 26 (lt_b rfl) (hg (Cond.fieldLink RX12 48 "SlabWalkModel" "nNths" "[I") m1340) (fun _ h9 => h9) rfl dX12_pavement_228 ?_
            refine lv_iload_n hx hb dX12_pavement_231 rfl (lv_at hl 0 rfl) ?_
            refine S_iald hx hb hK hW kd_78 (vin ((by first | exact f_146.1 | omega)) ((by first | exact ok_1295 b_8.2 c_56 f_146.2 ty_148 ty_149.2 ty_151 c_152 | omega))) dX12_pavement_232 (fun y_157 ey_157 => ?_)
            have u_158 : y_157.toInt = (G_2.1 78 x_144.toNatClampNeg).toInt := congrArg Int32.toInt (ey_157.trans (((gp_ne eG_156 (fun q => absurd q.1 (Nat.ne_of_beq_eq_false rfl))).trans ((hq_141.ri9 78 rfl x_144.toNatClampNeg).trans ((gp_ne eG_138 (fun q => absurd q.1 (Nat.ne_of_beq_eq_false rfl))).trans ((hq_48.ri9 78 rfl x_144.toNatClampNeg).trans ((hq_35.ri9 78 rfl x_144.toNatClampNeg).trans ((hq_19.ri9 78 rfl x_144.toNatClampNeg).trans ((gp_ne eG_16 (fun q => absurd q.1 (Nat.ne_of_beq_eq_false rfl))).trans ((gp_ne eG_15 (fun q => absurd q.1 (Nat.ne_of_beq_eq_false rfl))).trans ((gp_ne eG_14 (fun q => absurd q.1 (Nat.ne_of_beq_eq_false rfl))).trans ((gp_ne eG_13 (fun q => absurd q.1 (Nat.ne_of_beq_eq_false rfl))).trans ((gp_ne eG_11 (fun q => absurd q.1 (Nat.ne_of_beq_eq_false rfl))).trans (gp_ne eG_9 (fun q => absurd q.1 (Nat.ne_of_beq_eq_false rfl))))))))))))))))
            refine S_iast hx hb hK hW hS kd_88 (vin ((by first | exact f_146.1 | omega)) ((by first | exact ok_1295 b_8.2 c_56 f_146.2 ty_148 ty_149.2 ty_151 c_152 | omega))) dX12_pavement_233 (fun G_159 H locs eG_159 hW hS => ?_)
            have hB_G_159 : Bd G_159 := hB_G_156.put (lo := (-2147483648)) (hi := 2147483647) eG_159 rfl rfl rfl (tI_rng _).1 (tI_rng _).2 (hB_G_156.2.put eG_159 rfl)
            have hF := hF.put eG_159 (Or.inl (by decide))
            refine lv_aload_n hx hb dX12_pavement_234 rfl (lv_at hl 2 rfl) ?_
            refine S_getR (n := 89) (C := RX12) (T := TX12) (N := 89) hx hb hg iX12 hown hK hW kd_66 rfl 37 (lt_b rfl) (hg (Cond.fieldLink RX12 81 "SlabWalkModel" "inches" "[I") m1351) (fun _ h9 => h9) rfl dX12_pavement_235 ?_
            refine lv_iload_n hx hb dX12_pavement_238 rfl (lv_at hl 0 rfl) ?_
            refine lv_aload_n hx hb dX12_pavement_239 rfl (lv_at hl 2 rfl) ?_
            refine S_getR (n := 79) (C := RX12) (T := TX12) (N := 89) hx hb hg iX12 hown hK hW kd_66 rfl 27 (lt_b rfl) (hg (Cond.fieldLink RX12 51 "SlabWalkModel" "nInches" "[I") m1341) (fun _ h9 => h9) rfl dX12_pavement_240 ?_
            refine lv_iload_n hx hb dX12_pavement_243 rfl (lv_at hl 0 rfl) ?_
            refine S_iald hx hb hK hW kd_79 (vin ((by first | exact f_146.1 | omega)) ((by first | exact ok_1295 b_8.2 c_56 f_146.2 ty_148 ty_149.2 ty_151 c_152 | omega))) dX12_pavement_244 (fun y_160 ey_160 => ?_)
            have u_161 : y_160.toInt = (G_2.1 79 x_144.toNatClampNeg).toInt := congrArg Int32.toInt (ey_160.trans (((gp_ne eG_159 (fun q => absurd q.1 (Nat.ne_of_beq_eq_false rfl))).trans ((gp_ne eG_156 (fun q => absurd q.1 (Nat.ne_of_beq_eq_false rfl))).trans ((hq_141.ri9 79 rfl x_144.toNatClampNeg).trans ((gp_ne eG_138 (fun q => absurd q.1 (Nat.ne_of_beq_eq_false rfl))).trans ((hq_48.ri9 79 rfl x_144.toNatClampNeg).trans ((hq_35.ri9 79 rfl x_144.toNatClampNeg).trans ((hq_19.ri9 79 rfl x_144.toNatClampNeg).trans ((gp_ne eG_16 (fun q => absurd q.1 (Nat.ne_of_beq_eq_false rfl))).trans ((gp_ne eG_15 (fun q => absurd q.1 (Nat.ne_of_beq_eq_false rfl))).trans ((gp_ne eG_14 (fun q => absurd q.1 (Nat.ne_of_beq_eq_false rfl))).trans ((gp_ne eG_13 (fun q => absurd q.1 (Nat.ne_of_beq_eq_false rfl))).trans ((gp_ne eG_11 (fun q => absurd q.1 (Nat.ne_of_beq_eq_false rfl))).trans (gp_ne eG_9 (fun q => absurd q.1 (Nat.ne_of_beq_eq_false rfl)))))))))))))))))
            refine S_iast hx hb hK hW hS kd_89 (vin ((by first | exact f_146.1 | omega)) ((by first | exact ok_1295 b_8.2 c_56 f_146.2 ty_148 ty_149.2 ty_151 c_152 | omega))) dX12_pavement_245 (fun G_162 H locs eG_162 hW hS => ?_)
            have hB_G_162 : Bd G_162 := hB_G_159.put (lo := (-2147483648)) (hi := 2147483647) eG_162 rfl rfl rfl (tI_rng _).1 (tI_rng _).2 (hB_G_159.2.put eG_162 rfl)
            have hF := hF.put eG_162 (Or.inl (by decide))
            refine lv_aload_n hx hb dX12_pavement_246 rfl (lv_at hl 2 rfl) ?_
            refine S_getR (n := 90) (C := RX12) (T := TX12) (N := 89) hx hb hg iX12 hown hK hW kd_66 rfl 38 (lt_b rfl) (hg (Cond.fieldLink RX12 84 "SlabWalkModel" "longs" "[I") m1352) (fun _ h9 => h9) rfl dX12_pavement_247 ?_
            refine lv_iload_n hx hb dX12_pavement_250 rfl (lv_at hl 0 rfl) ?_
            refine lv_aload_n hx hb dX12_pavement_251 rfl (lv_at hl 2 rfl) ?_
            refine S_getR (n := 80) (C := RX12) (T := TX12) (N := 89) hx hb hg iX12 hown hK hW kd_66 rfl 28 (lt_b rfl) (hg (Cond.fieldLink RX12 54 "SlabWalkModel" "nLongs" "[I") m1342) (fun _ h9 => h9) rfl dX12_pavement_252 ?_
            refine lv_iload_n hx hb dX12_pavement_255 rfl (lv_at hl 0 rfl) ?_
            refine S_iald hx hb hK hW kd_80 (vin ((by first | exact f_146.1 | omega)) ((by first | exact ok_1295 b_8.2 c_56 f_146.2 ty_148 ty_149.2 ty_151 c_152 | omega))) dX12_pavement_256 (fun y_163 ey_163 => ?_)
            have u_164 : y_163.toInt = (G_2.1 80 x_144.toNatClampNeg).toInt := congrArg Int32.toInt (ey_163.trans (((gp_ne eG_162 (fun q => absurd q.1 (Nat.ne_of_beq_eq_false rfl))).trans ((gp_ne eG_159 (fun q => absurd q.1 (Nat.ne_of_beq_eq_false rfl))).trans ((gp_ne eG_156 (fun q => absurd q.1 (Nat.ne_of_beq_eq_false rfl))).trans ((hq_141.ri9 80 rfl x_144.toNatClampNeg).trans ((gp_ne eG_138 (fun q => absurd q.1 (Nat.ne_of_beq_eq_false rfl))).trans ((hq_48.ri9 80 rfl x_144.toNatClampNeg).trans ((hq_35.ri9 80 rfl x_144.toNatClampNeg).trans ((hq_19.ri9 80 rfl x_144.toNatClampNeg).trans ((gp_ne eG_16 (fun q => absurd q.1 (Nat.ne_of_beq_eq_false rfl))).trans ((gp_ne eG_15 (fun q => absurd q.1 (Nat.ne_of_beq_eq_false rfl))).trans ((gp_ne eG_14 (fun q => absurd q.1 (Nat.ne_of_beq_eq_false rfl))).trans ((gp_ne eG_13 (fun q => absurd q.1 (Nat.ne_of_beq_eq_false rfl))).trans ((gp_ne eG_11 (fun q => absurd q.1 (Nat.ne_of_beq_eq_false rfl))).trans (gp_ne eG_9 (fun q => absurd q.1 (Nat.ne_of_beq_eq_false rfl))))))))))))))))))
            refine S_iast hx hb hK hW hS kd_90 (vin ((by first | exact f_146.1 | omega)) ((by first | exact ok_1295 b_8.2 c_56 f_146.2 ty_148 ty_149.2 ty_151 c_152 | omega))) dX12_pavement_257 (fun G_165 H locs eG_165 hW hS => ?_)
            have hB_G_165 : Bd G_165 := hB_G_162.put (lo := (-2147483648)) (hi := 2147483647) eG_165 rfl rfl rfl (tI_rng _).1 (tI_rng _).2 (hB_G_162.2.put eG_165 rfl)
            have hF := hF.put eG_165 (Or.inl (by decide))
            obtain ⟨y_166, ey_166⟩ : ∃ q, q = x_144 + 1 := ⟨_, rfl⟩
            have ty_166 : y_166.toInt = x_144.toInt + 1 := xI_add rfl rfl ey_166 ((by first | exact ok_21 f_146.1 | omega)) ((by first | exact ok_1296 f_146.2 | omega))
            refine lv_iinc (v := y_166) (lv' := [(2, .int y_166), (1, .int x_51), (0, .ref (a 66))]) hx hb dX12_pavement_258 hl (k := 0) rfl (by rw [ey_166]; rfl) (lt_b rfl) rfl (fun ls hl => ?_)
            refine lv_goto (tgt := 194) hx hb dX12_pavement_261 rfl ?_
            exact ih_142 (1200 - y_166.toInt : Int).toNat ((by first | (clear hP9 hW9 hS9 hac hsl d_1 d_2 b_6 c_7 b_8 b_10 b_12 hn_27 f_25 c_28 u_29 g_30 g_31 g_32 hn_43 f_41 c_44 g_45 u_46; omega) | omega)) _ _ _ ⟨G_165, y_166, (Int.toNat_of_nonneg ((by first | exact ok_1297 b_8.2 c_56 f_146.2 ty_148 ty_149.2 ty_151 c_152 ty_166 | omega))), ⟨(by first | exact ok_23 f_146.1 ty_166 | omega), (by first | exact ok_1298 b_8.2 c_56 f_146.2 ty_148 ty_149.2 ty_151 c_152 ty_166 | omega)⟩, (hX_145.st (St_n_pavement_7_mk ⟨x_144, G_140, y_166, G_165, rfl, rfl, f_146, hB_G_140, ⟨y_148, ty_148, ⟨y_149, ey_149, ⟨y_151, ty_151, ⟨c_152, ⟨y_154, ey_154, ⟨y_157, ey_157.trans (congrFun (rw_put eG_156 (by decide)) _), ⟨y_160, ey_160.trans (congrFun ((rw_put eG_159 (by decide)).trans (rw_put eG_156 (by decide))) _), ⟨y_163, ey_163.trans (congrFun ((rw_put eG_162 (by decide)).trans ((rw_put eG_159 (by decide)).trans (rw_put eG_156 (by decide)))) _), ⟨y_166, ty_166, ⟨rfl, (Fr.put (rs := [87, 88, 89, 90]) (fs := []) (Fr.put (rs := [87, 88, 89, 90]) (fs := []) (Fr.put (rs := [87, 88, 89, 90]) (fs := []) (Fr.put (rs := [87, 88, 89, 90]) (fs := []) Fr.rf eG_156 (Or.inl (by decide))) eG_159 (Or.inl (by decide))) eG_162 (Or.inl (by decide))) eG_165 (Or.inl (by decide))), (rw_put eG_165 (by decide)).trans ((rw_put eG_162 (by decide)).trans ((rw_put eG_159 (by decide)).trans (rw_ast eG_156))), (rw_put eG_165 (by decide)).trans ((rw_put eG_162 (by decide)).trans ((rw_ast eG_159).trans (congrArg (fun q => upd q (x_144.toNatClampNeg) y_157) (rw_put eG_156 (by decide))))), (rw_put eG_165 (by decide)).trans ((rw_ast eG_162).trans (congrArg (fun q => upd q (x_144.toNatClampNeg) y_160) ((rw_put eG_159 (by decide)).trans (rw_put eG_156 (by decide))))), (rw_ast eG_165).trans (congrArg (fun q => upd q (x_144.toNatClampNeg) y_163) ((rw_put eG_162 (by decide)).trans ((rw_put eG_159 (by decide)).trans (rw_put eG_156 (by decide)))))⟩⟩⟩⟩⟩⟩⟩⟩⟩⟩⟩)), hW, hB_G_165, hF, (Fr.put (rs := [87, 88, 89, 90]) (fs := []) (Fr.put (rs := [87, 88, 89, 90]) (fs := []) (Fr.put (rs := [87, 88, 89, 90]) (fs := []) (Fr.put (rs := [87, 88, 89, 90]) (fs := []) (Fr.call9 (rs := [87, 88, 89, 90]) (fs := []) Fr.rf hq_141 rfl rfl) eG_156 (Or.inl (by decide))) eG_159 (Or.inl (by decide))) eG_162 (Or.inl (by decide))) eG_165 (Or.inl (by decide))), hS, lv_sub hl [0, 1, 2] rfl⟩
      · have c_44 : x_38.toInt < (G_2.1 66 47).toInt := xI_nle rfl rfl c_44
        refine lv_aload_n hx hb dX12_pavement_96 rfl (lv_at hl 1 rfl) ?_
        refine S_getR (n := 74) (C := RX12) (T := TX12) (N := 89) hx hb hg iX12 hown hK hW kd_66 rfl 16 (lt_b rfl) (hg (Cond.fieldLink RX12 36 "SlabWalkModel" "many" "[I") m1330) (fun _ h9 => h9) rfl dX12_pavement_97 ?_
        refine lv_iload_n hx hb dX12_pavement_100 rfl (lv_at hl 0 rfl) ?_
        refine lv_aload_n hx hb dX12_pavement_101 rfl (lv_at hl 1 rfl) ?_
        refine S_getR (n := 71) (C := RX12) (T := TX12) (N := 89) hx hb hg iX12 hown hK hW kd_66 rfl 13 (lt_b rfl) (hg (Cond.fieldLink RX12 27 "SlabWalkModel" "nMany" "[I") m1327) (fun _ h9 => h9) rfl dX12_pavement_102 ?_
        refine lv_iload_n hx hb dX12_pavement_105 rfl (lv_at hl 0 rfl) ?_
        refine S_iald hx hb hK hW kd_71 (vin ((by first | exact f_41.1 | omega)) ((by first | exact ok_1299 b_12.2 f_41.2 c_44 | omega))) dX12_pavement_106 (fun y_167 ey_167 => ?_)
        have ty_167 : 0 ≤ y_167.toInt ∧ y_167.toInt ≤ 320 := bv_71 hB_G_34 ey_167
        have u_168 : y_167.toInt = (G_2.1 71 x_38.toNatClampNeg).toInt := congrArg Int32.toInt (ey_167.trans (((hq_35.ri9 71 rfl x_38.toNatClampNeg).trans ((hq_19.ri9 71 rfl x_38.toNatClampNeg).trans ((gp_ne eG_16 (fun q => absurd q.1 (Nat.ne_of_beq_eq_false rfl))).trans ((gp_ne eG_15 (fun q => absurd q.1 (Nat.ne_of_beq_eq_false rfl))).trans ((gp_ne eG_14 (fun q => absurd q.1 (Nat.ne_of_beq_eq_false rfl))).trans ((gp_ne eG_13 (fun q => absurd q.1 (Nat.ne_of_beq_eq_false rfl))).trans ((gp_ne eG_11 (fun q => absurd q.1 (Nat.ne_of_beq_eq_false rfl))).trans (gp_ne eG_9 (fun q => absurd q.1 (Nat.ne_of_beq_eq_false rfl))))))))))))
        refine S_iast hx hb hK hW hS kd_74 (vin ((by first | exact f_41.1 | omega)) ((by first | exact ok_1299 b_12.2 f_41.2 c_44 | omega))) dX12_pavement_107 (fun G_169 H locs eG_169 hW hS => ?_)
        have hB_G_169 : Bd G_169 := hB_G_34.put (V := y_167.toInt) (lo := 0) (hi := 320) eG_169 rfl rfl rfl ((by first | exact ty_167.1 | omega)) ((by first | exact ty_167.2 | omega)) (hB_G_34.2.put eG_169 rfl)
        have hF := hF.put eG_169 (Or.inl (by decide))
        have hCm_ : CP G_169 x_38.toInt (320 * x_38.toInt) := CP_many (x := x_38) (show CP G_34 x_38.toInt (320 * x_38.toInt) by assumption) eG_169 rfl
        have hmn_170 : G_169.1 74 x_38.toNatClampNeg = G_169.1 71 x_38.toNatClampNeg := (gp_eq eG_169).trans (ey_167.trans (gp_ne eG_169 (fun q => absurd q.1 (by decide))).symm)
        have b_171 : 0 ≤ (G_169.1 74 x_38.toNatClampNeg).toInt ∧ (G_169.1 74 x_38.toNatClampNeg).toInt ≤ 320 := hB_G_169.i 74 _ rfl rfl
        refine lv_sipush (v := 320) hx hb dX12_pavement_108 (by decide) ?_
        refine lv_iload_n hx hb dX12_pavement_111 rfl (lv_at hl 0 rfl) ?_
        refine lv_imul hx hb dX12_pavement_112 ?_
        refine lv_topi (fun y_172 ey_172 => ?_)
        have ty_172 : y_172.toInt = 320 * x_38.toInt := xI_mul rfl rfl ey_172 ((by first | exact ok_782 f_41.1 | omega)) ((by first | exact ok_1300 f_41.2 | omega))
        have hcp_173 : CP G_169 x_38.toInt (y_172.toInt) := by rw [ty_172]; exact hCm_
        refine lv_istore_n (lv' := [(2, .int y_172), (1, .int x_38), (0, .ref (a 66))]) hx hb dX12_pavement_113 rfl hl (lt_b rfl) rfl (fun ls hl => ?_)
        refine loop_N (Inv := fun n H locs ls => ∃ (G_174 : GS) (x_178 : Int32), (n : Int) = 1920 - x_178.toInt ∧ (0 ≤ x_178.toInt ∧ x_178.toInt ≤ 1920) ∧ (CP G_174 x_38.toInt (x_178.toInt)) ∧ (G_174.1 74 x_38.toNatClampNeg = G_174.1 71 x_38.toNatClampNeg) ∧ (320 * x_38.toInt ≤ x_178.toInt) ∧ (x_178.toInt ≤ 320 * x_38.toInt + (G_174.1 74 x_38.toNatClampNeg).toInt) ∧ ((G_174.1 74 x_38.toNatClampNeg).toInt ≤ 320) ∧ Rc (St_n_pavement_8 x_38) (y_172, G_169) (x_178, G_174) ∧ Wd D k A a G_174 H ∧ Bd G_174 ∧ Fr [110, 117, 68, 69, 70, 71, 72, 73, 74, 75, 77, 78, 79, 80, 81, 82, 83, 84, 85, 86, 87, 88, 89, 90, 91, 92, 93, 94, 95, 96] [(66, 1), (66, 2), (66, 3), (66, 4), (66, 5), (66, 6), (66, 7), (66, 8), (66, 9), (66, 19), (66, 20), (66, 21), (66, 22), (66, 23), (66, 24), (66, 45), (66, 46), (66, 47), (66, 48), (66, 49), (66, 50), (66, 51), (66, 52), (66, 53), (66, 54), (66, 55), (66, 56), (66, 66), (66, 78), (66, 79), (66, 85)] G G_174 ∧ Fr [72, 73] [] G_169 G_174 ∧ va_S A s.heap H locs ∧ lv_has ls 3 [(2, .int x_178), (1, .int x_38), (0, .ref (a 66))]) (fun n_177 H locs ls ih_176 hI => ?_) (1920 - y_172.toInt : Int).toNat ⟨G_169, y_172, (Int.toNat_of_nonneg ((by first | exact ok_1301 f_41.2 ty_172 | omega))), ⟨(by first | exact ok_1045 f_41.1 ty_172 | omega), (by first | exact ok_1302 f_41.2 ty_172 | omega)⟩, (by assumption), (by assumption), ((by first | exact ok_1048 ty_172 | omega)), ((by first | exact ok_1303 b_171.1 ty_172 | omega)), ((by first | exact b_171.2 | omega)), Rc.rf, hW, hB_G_169, hF, Fr.rf, hS, lv_sub hl [0, 1, 2] rfl⟩
        obtain ⟨G_174, x_178, hn_186, f_180, f_181, f_182, f_183, f_184, f_185, hX_179, hW, hB_G_174, hF, hq_175, hS, hl⟩ := hI
        have u_187 : (G_174.1 74 x_38.toNatClampNeg).toInt = y_167.toInt := congrArg Int32.toInt (((hq_175.ri9 74 rfl x_38.toNatClampNeg).trans (gp_eq eG_169)))
        refine lv_iload_n hx hb dX12_pavement_114 rfl (lv_at hl 0 rfl) ?_
        refine lv_sipush (v := 320) hx hb dX12_pavement_115 (by decide) ?_
        refine lv_iload_n hx hb dX12_pavement_118 rfl (lv_at hl 1 rfl) ?_
        refine lv_imul hx hb dX12_pavement_119 ?_
        refine lv_topi (fun y_188 ey_188 => ?_)
        have ty_188 : y_188.toInt = 320 * x_38.toInt := xI_mul rfl rfl ey_188 ((by first | exact ok_1304 f_180.1 f_184 f_185 | omega)) ((by first | exact ok_1051 f_180.2 f_183 | omega))
        refine lv_aload_n hx hb dX12_pavement_120 rfl (lv_at hl 2 rfl) ?_
        refine S_getR (n := 74) (C := RX12) (T := TX12) (N := 89) hx hb hg iX12 hown hK hW kd_66 rfl 16 (lt_b rfl) (hg (Cond.fieldLink RX12 36 "SlabWalkModel" "many" "[I") m1330) (fun _ h9 => h9) rfl dX12_pavement_121 ?_
        refine lv_iload_n hx hb dX12_pavement_124 rfl (lv_at hl 1 rfl) ?_
        refine S_iald hx hb hK hW kd_74 (vin ((by first | exact f_41.1 | omega)) ((by first | (clear hP9 hW9 hS9 hac hsl d_1 d_2 b_6 c_7 b_8 b_10 hn_27 f_25 c_28 u_29 g_30 g_31 g_32 hn_43 hn_186; omega) | omega))) dX12_pavement_125 (fun y_189 ey_189 => ?_)
        have ty_189 : 0 ≤ y_189.toInt ∧ y_189.toInt ≤ 320 := bv_74 hB_G_174 ey_189
        have u_190 : y_189.toInt = y_167.toInt := congrArg Int32.toInt (ey_189.trans (((hq_175.ri9 74 rfl x_38.toNatClampNeg).trans (gp_eq eG_169))))
        refine lv_iadd hx hb dX12_pavement_126 ?_
        refine lv_topi (fun y_191 ey_191 => ?_)
        have ty_191 : y_191.toInt = y_188.toInt + y_189.toInt := xI_add rfl rfl ey_191 ((by first | exact ok_1305 f_180.1 f_184 u_187 ty_188 u_190 | omega)) ((by first | exact ok_1053 f_180.2 f_183 ty_188 ty_189.2 | omega))
        refine lv_icmp_ge (tgt := 160) hx hb dX12_pavement_127 rfl (fun c_192 => ?_) (fun c_192 => ?_)
        · have c_192 : y_191.toInt ≤ x_178.toInt := xI_le rfl rfl c_192
          obtain ⟨y_193, ey_193⟩ : ∃ q, q = x_38 + 1 := ⟨_, rfl⟩
          have ty_193 : y_193.toInt = x_38.toInt + 1 := xI_add rfl rfl ey_193 ((by first | (clear hP9 hW9 hS9 hac hsl d_1 d_2 b_6 c_7 b_8 b_10 hn_27 f_25 c_28 u_29 g_30 g_31 g_32 hn_43 hn_186; omega) | omega)) ((by first | (clear hP9 hW9 hS9 hac hsl d_1 d_2 b_6 c_7 b_8 b_10 hn_27 f_25 c_28 u_29 g_30 g_31 g_32 hn_43 hn_186; omega) | omega))
          refine lv_iinc (v := y_193) (lv' := [(1, .int y_193), (2, .int x_178), (0, .ref (a 66))]) hx hb dX12_pavement_160 hl (k := 1) rfl (by rw [ey_193]; rfl) (lt_b rfl) rfl (fun ls hl => ?_)
          have fr_194 : Fr [72, 73, 74, 96] [(66, 22), (66, 52), (66, 53), (66, 54), (66, 55), (66, 56)] G_2 G_174 := (Fr.call9 (rs := [72, 73, 74, 96]) (fs := [(66, 22), (66, 52), (66, 53), (66, 54), (66, 55), (66, 56)]) (Fr.put (rs := [72, 73, 74, 96]) (fs := [(66, 22), (66, 52), (66, 53), (66, 54), (66, 55), (66, 56)]) (Fr.call9 (rs := [72, 73, 74, 96]) (fs := [(66, 22), (66, 52), (66, 53), (66, 54), (66, 55), (66, 56)]) (Fr.call9 (rs := [72, 73, 74, 96]) (fs := [(66, 22), (66, 52), (66, 53), (66, 54), (66, 55), (66, 56)]) (Fr.put (rs := [72, 73, 74, 96]) (fs := [(66, 22), (66, 52), (66, 53), (66, 54), (66, 55), (66, 56)]) (Fr.put (rs := [72, 73, 74, 96]) (fs := [(66, 22), (66, 52), (66, 53), (66, 54), (66, 55), (66, 56)]) (Fr.put (rs := [72, 73, 74, 96]) (fs := [(66, 22), (66, 52), (66, 53), (66, 54), (66, 55), (66, 56)]) (Fr.put (rs := [72, 73, 74, 96]) (fs := [(66, 22), (66, 52), (66, 53), (66, 54), (66, 55), (66, 56)]) (Fr.put (rs := [72, 73, 74, 96]) (fs := [(66, 22), (66, 52), (66, 53), (66, 54), (66, 55), (66, 56)]) (Fr.put (rs := [72, 73, 74, 96]) (fs := [(66, 22), (66, 52), (66, 53), (66, 54), (66, 55), (66, 56)]) Fr.rf eG_9 (Or.inr (by decide))) eG_11 (Or.inr (by decide))) eG_13 (Or.inr (by decide))) eG_14 (Or.inr (by decide))) eG_15 (Or.inr (by decide))) eG_16 (Or.inr (by decide))) hq_19 rfl rfl) hq_35 rfl rfl) eG_169 (Or.inl (by decide))) hq_175 rfl rfl)
          have g_195 : gE G_174 = gE G_2 := gE_fr fr_194 (gr_q rfl) (gf_q rfl)
          have g_196 : (G_174.1 66 47).toInt = (G_2.1 66 47).toInt := (congrArg Int32.toInt (show G_174.1 66 47 = (G_2.1 66 47) from ((hq_175.i9 66 47 rfl rfl).trans ((gp_ne eG_169 (fun q => absurd q.1 (Nat.ne_of_beq_eq_false rfl))).trans ((hq_35.i9 66 47 rfl rfl).trans ((hq_19.i9 66 47 rfl rfl).trans ((gp_ne eG_16 (by decide)).trans ((gp_ne eG_15 (by decide)).trans ((gp_ne eG_14 (by decide)).trans ((gp_ne eG_13 (by decide)).trans ((gp_ne eG_11 (by decide)).trans ((gp_ne eG_9 (by decide)).trans (rfl)))))))))))))
          have hcp_197 : CP G_174 y_193.toInt (320 * y_193.toInt) := CP_next (f := x_38) (show CP G_174 x_38.toInt (x_178.toInt) by assumption) (by first | (clear hP9 hW9 hS9 hac hsl d_1 d_2 b_6 c_7 b_8 b_10 hn_27 f_25 c_28 u_29 g_30 g_31 g_32 hn_43 hn_186 g_195; omega) | omega) (by first | (clear hP9 hW9 hS9 hac hsl d_1 d_2 b_6 c_7 b_8 b_10 hn_27 f_25 c_28 u_29 g_30 g_31 g_32 hn_43 hn_186 g_195; omega) | omega) (by first | (clear hP9 hW9 hS9 hac hsl d_1 d_2 b_6 c_7 b_8 b_10 hn_27 f_25 c_28 u_29 g_30 g_31 g_32 hn_43 hn_186 g_195; omega) | omega) (by assumption) (by first | (clear hP9 hW9 hS9 hac hsl d_1 d_2 b_6 c_7 b_8 b_10 hn_27 f_25 c_28 u_29 g_30 g_31 g_32 hn_43 hn_186 g_195; omega) | omega) (by first | (clear hP9 hW9 hS9 hac hsl d_1 d_2 b_6 c_7 b_8 b_10 hn_27 f_25 c_28 u_29 g_30 g_31 g_32 hn_43 hn_186 g_195; omega) | omega)
          refine lv_goto (tgt := 88) hx hb dX12_pavement_163 rfl ?_
          exact ih_36 (6 - y_193.toInt : Int).toNat ((by first | (clear hP9 hW9 hS9 hac hsl d_1 d_2 b_6 c_7 b_8 b_10 hn_27 f_25 c_28 u_29 g_30 g_31 g_32 g_195; omega) | omega)) _ _ _ ⟨G_174, y_193, (Int.toNat_of_nonneg ((by first | (clear hP9 hW9 hS9 hac hsl d_1 d_2 b_6 c_7 b_8 b_10 hn_27 f_25 c_28 u_29 g_30 g_31 g_32 hn_43 hn_186 g_195; omega) | omega))), ⟨(by first | (clear hP9 hW9 hS9 hac hsl d_1 d_2 b_6 c_7 b_8 b_10 hn_27 f_25 c_28 u_29 g_30 g_31 g_32 hn_43 hn_186 g_195; omega) | omega), (by first | (clear hP9 hW9 hS9 hac hsl d_1 d_2 b_6 c_7 b_8 b_10 hn_27 f_25 c_28 u_29 g_30 g_31 g_32 hn_43 hn_186 g_195; omega) | omega)⟩, (by assumption), (hX_39.st (St_n_pavement_2_mk ⟨x_38, G_34, y_193, G_174, rfl, rfl, f_41, f_42, hB_G_34, ⟨c_44, ⟨y_167, ey_167, ⟨y_172, ty_172, ⟨G_169, hB_G_169, (Fr.put (rs := [74]) (fs := []) Fr.rf eG_169 (Or.inl (by decide))), rw_ast eG_169, ⟨x_178, G_174, hX_179, f_180, f_181, f_182, f_183, f_184, f_185, hB_G_174, hq_175, ⟨y_188, ty_188, ⟨y_189, ey_189, ⟨y_191, ty_191, ⟨c_192, ⟨y_193, ty_193, ⟨rfl, rfl⟩⟩⟩⟩⟩⟩⟩⟩⟩⟩⟩⟩)), hW, hB_G_174, hF, (Fr.call9 (rs := [72, 73, 74]) (fs := []) (Fr.put (rs := [72, 73, 74]) (fs := []) (Fr.call9 (rs := [72, 73, 74]) (fs := []) Fr.rf hq_35 rfl rfl) eG_169 (Or.inl (by decide))) hq_175 rfl rfl), hS, lv_sub hl [0, 2] rfl⟩
        · have c_192 : x_178.toInt < y_191.toInt := xI_nle rfl rfl c_192
          refine lv_aload_n hx hb dX12_pavement_130 rfl (lv_at hl 2 rfl) ?_
          refine S_getR (n := 72) (C := RX12) (T := TX12) (N := 89) hx hb hg iX12 hown hK hW kd_66 rfl 14 (lt_b rfl) (hg (Cond.fieldLink RX12 30 "SlabWalkModel" "step" "[I") m1328) (fun _ h9 => h9) rfl dX12_pavement_131 ?_
          refine lv_iload_n hx hb dX12_pavement_134 rfl (lv_at hl 0 rfl) ?_
          refine lv_aload_n hx hb dX12_pavement_135 rfl (lv_at hl 2 rfl) ?_
          refine S_getR (n := 69) (C := RX12) (T := TX12) (N := 89) hx hb hg iX12 hown hK hW kd_66 rfl 11 (lt_b rfl) (hg (Cond.fieldLink RX12 21 "SlabWalkModel" "nStep" "[I") m1325) (fun _ h9 => h9) rfl dX12_pavement_136 ?_
          refine lv_iload_n hx hb dX12_pavement_139 rfl (lv_at hl 0 rfl) ?_
          refine S_iald hx hb hK hW kd_69 (vin ((by first | exact f_180.1 | omega)) ((by first | exact ok_1306 b_12.2 c_44 f_180.2 ty_188 ty_189.2 ty_191 c_192 | omega))) dX12_pavement_140 (fun y_198 ey_198 => ?_)
          have u_199 : y_198.toInt = (G_2.1 69 x_178.toNatClampNeg).toInt := congrArg Int32.toInt (ey_198.trans (((hq_175.ri9 69 rfl x_178.toNatClampNeg).trans ((gp_ne eG_169 (fun q => absurd q.1 (Nat.ne_of_beq_eq_false rfl))).trans ((hq_35.ri9 69 rfl x_178.toNatClampNeg).trans ((hq_19.ri9 69 rfl x_178.toNatClampNeg).trans ((gp_ne eG_16 (fun q => absurd q.1 (Nat.ne_of_beq_eq_false rfl))).trans ((gp_ne eG_15 (fun q => absurd q.1 (Nat.ne_of_beq_eq_false rfl))).trans ((gp_ne eG_14 (fun q => absurd q.1 (Nat.ne_of_beq_eq_false rfl))).trans ((gp_ne eG_13 (fun q => absurd q.1 (Nat.ne_of_beq_eq_false rfl))).trans ((gp_ne eG_11 (fun q => absurd q.1 (Nat.ne_of_beq_eq_false rfl))).trans (gp_ne eG_9 (fun q => absurd q.1 (Nat.ne_of_beq_eq_false rfl))))))))))))))
          refine S_iast hx hb hK hW hS kd_72 (vin ((by first | exact f_180.1 | omega)) ((by first | exact ok_1306 b_12.2 c_44 f_180.2 ty_188 ty_189.2 ty_191 c_192 | omega))) dX12_pavement_141 (fun G_200 H locs eG_200 hW hS => ?_)
          have hB_G_200 : Bd G_200 := hB_G_174.put (lo := (-2147483648)) (hi := 2147483647) eG_200 rfl rfl rfl (tI_rng _).1 (tI_rng _).2 (hB_G_174.2.put eG_200 rfl)
          have hF := hF.put eG_200 (Or.inl (by decide))
          refine lv_aload_n hx hb dX12_pavement_142 rfl (lv_at hl 2 rfl) ?_
          refine S_getR (n := 73) (C := RX12) (T := TX12) (N := 89) hx hb hg iX12 hown hK hW kd_66 rfl 15 (lt_b rfl) (hg (Cond.fieldLink RX12 33 "SlabWalkModel" "arg" "[I") m1329) (fun _ h9 => h9) rfl dX12_pavement_143 ?_
          refine lv_iload_n hx hb dX12_pavement_146 rfl (lv_at hl 0 rfl) ?_
          refine lv_aload_n hx hb dX12_pavement_147 rfl (lv_at hl 2 rfl) ?_
          refine S_getR (n := 70) (C := RX12) (T := TX12) (N := 89) hx hb hg iX12 hown hK hW kd_66 rfl 12 (lt_b rfl) (hg (Cond.fieldLink RX12 24 "SlabWalkModel" "nArg" "[I") m1326) (fun _ h9 => h9) rfl dX12_pavement_148 ?_
          refine lv_iload_n hx hb dX12_pavement_151 rfl (lv_at hl 0 rfl) ?_
          refine S_iald hx hb hK hW kd_70 (vin ((by first | exact f_180.1 | omega)) ((by first | exact ok_1306 b_12.2 c_44 f_180.2 ty_188 ty_189.2 ty_191 c_192 | omega))) dX12_pavement_152 (fun y_201 ey_201 => ?_)
          have u_202 : y_201.toInt = (G_2.1 70 x_178.toNatClampNeg).toInt := congrArg Int32.toInt (ey_201.trans (((gp_ne eG_200 (fun q => absurd q.1 (Nat.ne_of_beq_eq_false rfl))).trans ((hq_175.ri9 70 rfl x_178.toNatClampNeg).trans ((gp_ne eG_169 (fun q => absurd q.1 (Nat.ne_of_beq_eq_false rfl))).trans ((hq_35.ri9 70 rfl x_178.toNatClampNeg).trans ((hq_19.ri9 70 rfl x_178.toNatClampNeg).trans ((gp_ne eG_16 (fun q => absurd q.1 (Nat.ne_of_beq_eq_false rfl))).trans ((gp_ne eG_15 (fun q => absurd q.1 (Nat.ne_of_beq_eq_false rfl))).trans ((gp_ne eG_14 (fun q => absurd q.1 (Nat.ne_of_beq_eq_false rfl))).trans ((gp_ne eG_13 (fun q => absurd q.1 (Nat.ne_of_beq_eq_false rfl))).trans ((gp_ne eG_11 (fun q => absurd q.1 (Nat.ne_of_beq_eq_false rfl))).trans (gp_ne eG_9 (fun q => absurd q.1 (Nat.ne_of_beq_eq_false rfl)))))))))))))))
          refine S_iast hx hb hK hW hS kd_73 (vin ((by first | exact f_180.1 | omega)) ((by first | exact ok_1306 b_12.2 c_44 f_180.2 ty_188 ty_189.2 ty_191 c_192 | omega))) dX12_pavement_153 (fun G_203 H locs eG_203 hW hS => ?_)
          have hB_G_203 : Bd G_203 := hB_G_200.put (lo := (-2147483648)) (hi := 2147483647) eG_203 rfl rfl rfl (tI_rng _).1 (tI_rng _).2 (hB_G_200.2.put eG_203 rfl)
          have hF := hF.put eG_203 (Or.inl (by decide))
          obtain ⟨y_204, ey_204⟩ : ∃ q, q = x_178 + 1 := ⟨_, rfl⟩
          have ty_204 : y_204.toInt = x_178.toInt + 1 := xI_add rfl rfl ey_204 ((by first | exact ok_21 f_180.1 | omega)) ((by first | exact ok_1057 f_180.2 | omega))
          refine lv_iinc (v := y_204) (lv' := [(2, .int y_204), (1, .int x_38), (0, .ref (a 66))]) hx hb dX12_pavement_154 hl (k := 0) rfl (by rw [ey_204]; rfl) (lt_b rfl) rfl (fun ls hl => ?_)
          have hcp_205 : CP G_203 x_38.toInt (y_204.toInt) := CP_step (k := x_178) hB_G_174 (show CP G_174 x_38.toInt (x_178.toInt) by assumption) eG_200 ey_198 eG_203 (by decide) (by first | (clear hP9 hW9 hS9 hac hsl d_1 d_2 b_6 c_7 b_8 b_10 hn_27 f_25 c_28 u_29 g_30 g_31 g_32 hn_43 hn_186; omega) | omega) (by first | (clear hP9 hW9 hS9 hac hsl d_1 d_2 b_6 c_7 b_8 b_10 hn_27 f_25 c_28 u_29 g_30 g_31 g_32 hn_43 hn_186; omega) | omega) (by first | (clear hP9 hW9 hS9 hac hsl d_1 d_2 b_6 c_7 b_8 b_10 hn_27 f_25 c_28 u_29 g_30 g_31 g_32 hn_43 hn_186; omega) | omega)
          have hk74_ : G_203.1 74 x_38.toNatClampNeg = G_174.1 74 x_38.toNatClampNeg := (gp_ne eG_203 (fun q => absurd q.1 (by decide))).trans (gp_ne eG_200 (fun q => absurd q.1 (by decide)))
          have hk71_ : G_203.1 71 x_38.toNatClampNeg = G_174.1 71 x_38.toNatClampNeg := (gp_ne eG_203 (fun q => absurd q.1 (by decide))).trans (gp_ne eG_200 (fun q => absurd q.1 (by decide)))
          have hmn_206 : G_203.1 74 x_38.toNatClampNeg = G_203.1 71 x_38.toNatClampNeg := hk74_.trans ((show G_174.1 74 x_38.toNatClampNeg = G_174.1 71 x_38.toNatClampNeg by assumption).trans hk71_.symm)
          have u_207 : (G_203.1 74 x_38.toNatClampNeg).toInt = (G_174.1 74 x_38.toNatClampNeg).toInt := congrArg Int32.toInt hk74_
          refine lv_goto (tgt := 114) hx hb dX12_pavement_157 rfl ?_
          exact ih_176 (1920 - y_204.toInt : Int).toNat ((by first | (clear hP9 hW9 hS9 hac hsl d_1 d_2 b_6 c_7 b_8 b_10 b_12 hn_27 f_25 c_28 u_29 g_30 g_31 g_32; omega) | omega)) _ _ _ ⟨G_203, y_204, (Int.toNat_of_nonneg ((by first | exact ok_1307 b_12.2 c_44 f_180.2 ty_188 ty_189.2 ty_191 c_192 ty_204 | omega))), ⟨(by first | exact ok_23 f_180.1 ty_204 | omega), (by first | exact ok_1308 b_12.2 c_44 f_180.2 ty_188 ty_189.2 ty_191 c_192 ty_204 | omega)⟩, (by assumption), (by assumption), ((by first | exact ok_1060 f_183 ty_204 | omega)), ((by first | exact ok_1309 f_184 u_187 ty_188 u_190 ty_191 c_192 ty_204 u_207 | omega)), ((by first | exact ok_1310 f_185 u_207 | omega)), (hX_179.st (St_n_pavement_8_mk ⟨x_178, G_174, y_204, G_203, rfl, rfl, f_180, f_181, f_182, f_183, f_184, f_185, hB_G_174, ⟨y_188, ty_188, ⟨y_189, ey_189, ⟨y_191, ty_191, ⟨c_192, ⟨y_198, ey_198, ⟨y_201, ey_201.trans (congrFun (rw_put eG_200 (by decide)) _), ⟨y_204, ty_204, ⟨rfl, (Fr.put (rs := [72, 73]) (fs := []) (Fr.put (rs := [72, 73]) (fs := []) Fr.rf eG_200 (Or.inl (by decide))) eG_203 (Or.inl (by decide))), (rw_put eG_203 (by decide)).trans (rw_ast eG_200), (rw_ast eG_203).trans (congrArg (fun q => upd q (x_178.toNatClampNeg) y_201) (rw_put eG_200 (by decide)))⟩⟩⟩⟩⟩⟩⟩⟩⟩)), hW, hB_G_203, hF, (Fr.put (rs := [72, 73]) (fs := []) (Fr.put (rs := [72, 73]) (fs := []) (Fr.call9 (rs := [72, 73]) (fs := []) Fr.rf hq_175 rfl rfl) eG_200 (Or.inl (by decide))) eG_203 (Or.inl (by decide))), hS, lv_sub hl [0, 1, 2] rfl⟩
    · have c_28 : x_22.toInt < 3 := xI_nle rfl rfl c_28
      refine lv_aload_n hx hb dX12_pavement_68 rfl (lv_at hl 1 rfl) ?_
      refine S_getR (n := 96) (C := RX12) (T := TX12) (N := 89) hx hb hg iX12 hown hK hW kd_66 rfl 44 (lt_b rfl) (hg (Cond.fieldLink RX12 102 "SlabWalkModel" "slips" "[I") m1358) (fun _ h9 => h9) rfl dX12_pavement_69 ?_
      refine lv_iload_n hx hb dX12_pavement_72 rfl (lv_at hl 0 rfl) ?_
      refine lv_aload_n hx hb dX12_pavement_73 rfl (lv_at hl 1 rfl) ?_
      refine S_getR (n := 86) (C := RX12) (T := TX12) (N := 89) hx hb hg iX12 hown hK hW kd_66 rfl 34 (lt_b rfl) (hg (Cond.fieldLink RX12 72 "SlabWalkModel" "nSlips" "[I") m1348) (fun _ h9 => h9) rfl dX12_pavement_74 ?_
      refine lv_iload_n hx hb dX12_pavement_77 rfl (lv_at hl 0 rfl) ?_
      refine S_iald hx hb hK hW kd_86 (vin ((by first | exact f_25.1 | omega)) ((by first | exact ok_26 f_25.2 c_28 | omega))) dX12_pavement_78 (fun y_208 ey_208 => ?_)
      have u_209 : y_208.toInt = (G_2.1 86 x_22.toNatClampNeg).toInt := congrArg Int32.toInt (ey_208.trans (((hq_19.ri9 86 rfl x_22.toNatClampNeg).trans ((gp_ne eG_16 (fun q => absurd q.1 (Nat.ne_of_beq_eq_false rfl))).trans ((gp_ne eG_15 (fun q => absurd q.1 (Nat.ne_of_beq_eq_false rfl))).trans ((gp_ne eG_14 (fun q => absurd q.1 (Nat.ne_of_beq_eq_false rfl))).trans ((gp_ne eG_13 (fun q => absurd q.1 (Nat.ne_of_beq_eq_false rfl))).trans ((gp_ne eG_11 (fun q => absurd q.1 (Nat.ne_of_beq_eq_false rfl))).trans (gp_ne eG_9 (fun q => absurd q.1 (Nat.ne_of_beq_eq_false rfl)))))))))))
      have u_210 := slN (G := G_2) (x := x_22) (by first | (clear hP9 hW9 hS9 hac hsl d_1 d_2 b_6 c_7 b_8 b_10 b_12 hn_27; omega) | omega) (by first | (clear hP9 hW9 hS9 hac hsl d_1 d_2 b_6 c_7 b_8 b_10 b_12 hn_27; omega) | omega) (by first | (clear hP9 hW9 hS9 hac hsl d_1 d_2 b_6 c_7 b_8 b_10 b_12 hn_27; omega) | omega)
      refine S_iast hx hb hK hW hS kd_96 (vin ((by first | exact f_25.1 | omega)) ((by first | exact ok_26 f_25.2 c_28 | omega))) dX12_pavement_79 (fun G_211 H locs eG_211 hW hS => ?_)
      have hB_G_211 : Bd G_211 := hB_G_18.put (V := y_208.toInt) (lo := 0) (hi := 9) eG_211 rfl rfl rfl ((by first | (clear hP9 hW9 hS9 hac hsl d_1 d_2 b_6 c_7 b_8 b_10 b_12 hn_27; omega) | omega)) ((by first | (clear hP9 hW9 hS9 hac hsl d_1 d_2 b_6 c_7 b_8 b_10 b_12 hn_27; omega) | omega)) (hB_G_18.2.put eG_211 rfl)
      have hF := hF.put eG_211 (Or.inl (by decide))
      obtain ⟨y_212, ey_212⟩ : ∃ q, q = x_22 + 1 := ⟨_, rfl⟩
      have ty_212 : y_212.toInt = x_22.toInt + 1 := xI_add rfl rfl ey_212 ((by first | exact ok_21 f_25.1 | omega)) ((by first | exact ok_43 f_25.2 | omega))
      refine lv_iinc (v := y_212) (lv' := [(1, .int y_212), (0, .ref (a 66))]) hx hb dX12_pavement_80 hl (k := 0) rfl (by rw [ey_212]; rfl) (lt_b rfl) rfl (fun ls hl => ?_)
      have hsp_213 : SP G_211 y_212.toInt := SP_step (x := x_22) (by assumption) (by first | (clear hP9 hW9 hS9 hac hsl d_1 d_2 b_6 c_7 b_8 b_10 b_12 hn_27; omega) | omega) eG_211 ey_208 (by first | (clear hP9 hW9 hS9 hac hsl d_1 d_2 b_6 c_7 b_8 b_10 b_12 hn_27; omega) | omega)
      refine lv_goto (tgt := 63) hx hb dX12_pavement_83 rfl ?_
      exact ih_20 (3 - y_212.toInt : Int).toNat ((by first | (clear hP9 hW9 hS9 hac hsl d_1 d_2 b_6 c_7 b_8 b_10 b_12; omega) | omega)) _ _ _ ⟨G_211, y_212, (Int.toNat_of_nonneg ((by first | exact ok_44 f_25.2 c_28 ty_212 | omega))), ⟨(by first | exact ok_23 f_25.1 ty_212 | omega), (by first | exact ok_45 f_25.2 c_28 ty_212 | omega)⟩, (by assumption), (hX_23.st (St_n_pavement_1_mk ⟨x_22, G_18, y_212, G_211, rfl, rfl, f_25, f_26, hB_G_18, ⟨c_28, ⟨y_208, ey_208, ⟨y_212, ty_212, ⟨rfl, (Fr.put (rs := [96]) (fs := []) Fr.rf eG_211 (Or.inl (by decide))), rw_ast eG_211⟩⟩⟩⟩⟩)), hW, hB_G_211, hF, (Fr.put (rs := [96]) (fs := []) (Fr.call9 (rs := [96]) (fs := []) Fr.rf hq_19 rfl rfl) eG_211 (Or.inl (by decide))), hS, lv_sub hl [0, 1] rfl⟩
  · have c_7 : 0 < (G_2.1 66 2).toInt := xI_nle rfl rfl c_7
    refine ic_m1 hx hb dX12_pavement_11 ?_
    have fr_214 : Fr [68, 69, 70, 71, 75, 77, 78, 79, 80, 81, 82, 83, 84, 85, 86] [(66, 1), (66, 2), (66, 3), (66, 4), (66, 5), (66, 6), (66, 7), (66, 8), (66, 9), (66, 19), (66, 20), (66, 21), (66, 23), (66, 24), (66, 45), (66, 46), (66, 47), (66, 48), (66, 49), (66, 50), (66, 51)] G G_2 := (Fr.call9 (rs := [68, 69, 70, 71, 75, 77, 78, 79, 80, 81, 82, 83, 84, 85, 86]) (fs := [(66, 1), (66, 2), (66, 3), (66, 4), (66, 5), (66, 6), (66, 7), (66, 8), (66, 9), (66, 19), (66, 20), (66, 21), (66, 23), (66, 24), (66, 45), (66, 46), (66, 47), (66, 48), (66, 49), (66, 50), (66, 51)]) Fr.rf hq_3 rfl rfl)
    have g_215 : gP G_2 = gP G := gP_fr fr_214 (gr_q rfl) (gf_q rfl)
    have g_216 : gS G_2 = gS G := gS_fr fr_214 (gr_q rfl) (gf_q rfl)
    have g_217 : gW G_2 = gW G := gW_fr fr_214 (gr_q rfl) (gf_q rfl)
    have b_218 : 0 ≤ (G_2.1 66 1).toInt ∧ (G_2.1 66 1).toInt ≤ 1600 := bd_66_1 hB_G_2
    have b_219 : 0 ≤ (G.1 66 78).toInt ∧ (G.1 66 78).toInt ≤ 40 := bd_66_78 hB_G
    have g_220 : (G_2.1 66 78).toInt = (G.1 66 78).toInt := (congrArg Int32.toInt (show G_2.1 66 78 = (G.1 66 78) from (hq_3.i9 66 78 rfl rfl)))
    have b_221 : 0 ≤ (G.1 66 79).toInt ∧ (G.1 66 79).toInt ≤ 40 := bd_66_79 hB_G
    have g_222 : (G_2.1 66 79).toInt = (G.1 66 79).toInt := (congrArg Int32.toInt (show G_2.1 66 79 = (G.1 66 79) from (hq_3.i9 66 79 rfl rfl)))
    have b_223 : 0 ≤ (G.1 96 0).toInt ∧ (G.1 96 0).toInt ≤ 9 := bd_96_0 hB_G
    have g_224 : (G_2.1 96 0).toInt = (G.1 96 0).toInt := (congrArg Int32.toInt (show G_2.1 96 0 = (G.1 96 0) from (hq_3.i9 96 0 rfl rfl)))
    have b_225 : 0 ≤ (G.1 96 1).toInt ∧ (G.1 96 1).toInt ≤ 9 := bd_96_1 hB_G
    have g_226 : (G_2.1 96 1).toInt = (G.1 96 1).toInt := (congrArg Int32.toInt (show G_2.1 96 1 = (G.1 96 1) from (hq_3.i9 96 1 rfl rfl)))
    have b_227 : 0 ≤ (G.1 96 2).toInt ∧ (G.1 96 2).toInt ≤ 9 := bd_96_2 hB_G
    have g_228 : (G_2.1 96 2).toInt = (G.1 96 2).toInt := (congrArg Int32.toInt (show G_2.1 96 2 = (G.1 96 2) from (hq_3.i9 96 2 rfl rfl)))
    exact W.iret (v := (-1)) hx hb hr (fun t ht _ => ⟨⟨(-1), G_2, rfl, (Q_pavement_mk ⟨hB_G_2, hF, (by have hq : ((-1) : Int32).toInt = (-1) := rfl; (try dsimp only); omega), ⟨G_2, hX_5, (Or.inr ⟨c_7, ⟨rfl, rfl⟩⟩)⟩⟩), wd_t ht hW⟩, hS.F ht⟩) hS.2.2 dX12_pavement_12
