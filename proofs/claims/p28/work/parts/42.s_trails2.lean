theorem m37 : Cond.selects RX10 yX10_followHand yX10_followHand ∈ gd := gds_3 5 rfl
theorem m125 : Cond.initialized RX4 ∈ gd := gdc_1_0 9 rfl gw_initialized
theorem m441 : Cond.fieldLink RX10 19 "SlabWalk$Trails" "steps" "LSlabWalk$Minima;" ∈ gd := gdc_2_5 5 rfl gw_fieldLink
theorem m442 : Cond.fieldLink RX10 23 "SlabWalk$Trails" "leaps" "LSlabWalk$Minima;" ∈ gd := gdc_2_5 6 rfl gw_fieldLink
theorem m1095 : Cond.methodLink RX10 85 yJ7_fill_53178 ∈ gd := gdc_5_1 3 rfl gw_methodLink
theorem m1096 : Cond.methodLink RX10 91 yX10_followHand ∈ gd := gdc_5_1 4 rfl gw_methodLink
theorem m1098 : Cond.instanceMethod yX10_followHand ∈ gd := gdc_5_1 6 rfl gw_instanceMethod
theorem m1099 : Cond.code yX10_followHand cX10_followHand 12 (some .boolean) ∈ gd := gdc_5_1 7 rfl gw_code
theorem m1100 : Cond.methodLink RX10 95 yX4_empty ∈ gd := gdc_5_1 8 rfl gw_methodLink
theorem m1101 : Cond.instanceMethod yX4_empty ∈ gd := gdc_5_1 9 rfl gw_instanceMethod
theorem m1102 : Cond.selects RX4 yX4_empty yX4_empty ∈ gd := gdc_5_1 10 rfl gw_selects
theorem m1103 : Cond.code yX4_empty cX4_empty 1 none ∈ gd := gdc_5_1 11 rfl gw_code
theorem m1104 : Cond.methodLink RX10 98 yX4_add ∈ gd := gdc_5_1 12 rfl gw_methodLink
theorem m1105 : Cond.instanceMethod yX4_add ∈ gd := gdc_5_1 13 rfl gw_instanceMethod
theorem m1106 : Cond.selects RX4 yX4_add yX4_add ∈ gd := gdc_5_1 14 rfl gw_selects
theorem m1107 : Cond.code yX4_add cX4_add 3 none ∈ gd := gdc_5_1 15 rfl gw_code
theorem m1108 : Cond.methodLink RX10 102 yX4_leastFrom ∈ gd := gdc_5_2 0 rfl gw_methodLink
theorem m1109 : Cond.instanceMethod yX4_leastFrom ∈ gd := gdc_5_2 1 rfl gw_instanceMethod
theorem m1110 : Cond.selects RX4 yX4_leastFrom yX4_leastFrom ∈ gd := gdc_5_2 2 rfl gw_selects
theorem m1111 : Cond.code yX4_leastFrom cX4_leastFrom 2 (some .int) ∈ gd := gdc_5_2 3 rfl gw_code
noncomputable def rbX10_fewestLeaps_0 : List (Nat × List Nat) := [(0, [42]), (1, [180, 0, 13]), (4, [3]), (5, [50]), (6, [18, 44]), (8, [184, 0, 85]), (11, [42]), (12, [180, 0, 13]), (15, [4]), (16, [50]), (17, [18, 44]), (19, [184, 0, 85]), (22, [3]), (23, [54, 4]), (25, [21, 4]), (27, [29]), (28, [43]), (29, [182, 0, 45]), (32, [184, 0, 49]), (35, [163, 0, 34]), (38, [42]), (39, [180, 0, 13]), (42, [3]), (43, [50])]
theorem rcX10_fewestLeaps_0 : dgo (lb cX10_fewestLeaps) 0 rbX10_fewestLeaps_0 = true := by decide +kernel
theorem dX10_fewestLeaps_0 : decode cX10_fewestLeaps 0 = .ok (.aload_n 0, 1) := dk_42 (dw rcX10_fewestLeaps_0 0 rfl)
theorem dX10_fewestLeaps_1 : decode cX10_fewestLeaps 1 = .ok (.getfield 13, 3) := dk_180 (dw rcX10_fewestLeaps_0 1 rfl) rfl
theorem dX10_fewestLeaps_4 : decode cX10_fewestLeaps 4 = .ok (.iconst 0, 1) := dk_3 (dw rcX10_fewestLeaps_0 2 rfl)
theorem dX10_fewestLeaps_5 : decode cX10_fewestLeaps 5 = .ok (.aaload, 1) := dk_50 (dw rcX10_fewestLeaps_0 3 rfl)
theorem dX10_fewestLeaps_6 : decode cX10_fewestLeaps 6 = .ok (.ldc 44, 2) := dk_18 (dw rcX10_fewestLeaps_0 4 rfl)
theorem dX10_fewestLeaps_8 : decode cX10_fewestLeaps 8 = .ok (.invokestatic 85, 3) := dk_184 (dw rcX10_fewestLeaps_0 5 rfl) rfl
theorem dX10_fewestLeaps_11 : decode cX10_fewestLeaps 11 = .ok (.aload_n 0, 1) := dk_42 (dw rcX10_fewestLeaps_0 6 rfl)
theorem dX10_fewestLeaps_12 : decode cX10_fewestLeaps 12 = .ok (.getfield 13, 3) := dk_180 (dw rcX10_fewestLeaps_0 7 rfl) rfl
theorem dX10_fewestLeaps_15 : decode cX10_fewestLeaps 15 = .ok (.iconst 1, 1) := dk_4 (dw rcX10_fewestLeaps_0 8 rfl)
theorem dX10_fewestLeaps_16 : decode cX10_fewestLeaps 16 = .ok (.aaload, 1) := dk_50 (dw rcX10_fewestLeaps_0 9 rfl)
theorem dX10_fewestLeaps_17 : decode cX10_fewestLeaps 17 = .ok (.ldc 44, 2) := dk_18 (dw rcX10_fewestLeaps_0 10 rfl)
theorem dX10_fewestLeaps_19 : decode cX10_fewestLeaps 19 = .ok (.invokestatic 85, 3) := dk_184 (dw rcX10_fewestLeaps_0 11 rfl) rfl
theorem dX10_fewestLeaps_22 : decode cX10_fewestLeaps 22 = .ok (.iconst 0, 1) := dk_3 (dw rcX10_fewestLeaps_0 12 rfl)
theorem dX10_fewestLeaps_23 : decode cX10_fewestLeaps 23 = .ok (.istore 4, 2) := dk_54 (dw rcX10_fewestLeaps_0 13 rfl)
theorem dX10_fewestLeaps_25 : decode cX10_fewestLeaps 25 = .ok (.iload 4, 2) := dk_21 (dw rcX10_fewestLeaps_0 14 rfl)
theorem dX10_fewestLeaps_27 : decode cX10_fewestLeaps 27 = .ok (.iload_n 3, 1) := dk_29 (dw rcX10_fewestLeaps_0 15 rfl)
theorem dX10_fewestLeaps_28 : decode cX10_fewestLeaps 28 = .ok (.aload_n 1, 1) := dk_43 (dw rcX10_fewestLeaps_0 16 rfl)
theorem dX10_fewestLeaps_29 : decode cX10_fewestLeaps 29 = .ok (.invokevirtual 45, 3) := dk_182 (dw rcX10_fewestLeaps_0 17 rfl) rfl
theorem dX10_fewestLeaps_32 : decode cX10_fewestLeaps 32 = .ok (.invokestatic 49, 3) := dk_184 (dw rcX10_fewestLeaps_0 18 rfl) rfl
theorem dX10_fewestLeaps_35 : decode cX10_fewestLeaps 35 = .ok (.if_icmp .gt 34, 3) := dk_163 (dw rcX10_fewestLeaps_0 19 rfl) rfl
theorem dX10_fewestLeaps_38 : decode cX10_fewestLeaps 38 = .ok (.aload_n 0, 1) := dk_42 (dw rcX10_fewestLeaps_0 20 rfl)
theorem dX10_fewestLeaps_39 : decode cX10_fewestLeaps 39 = .ok (.getfield 13, 3) := dk_180 (dw rcX10_fewestLeaps_0 21 rfl) rfl
theorem dX10_fewestLeaps_42 : decode cX10_fewestLeaps 42 = .ok (.iconst 0, 1) := dk_3 (dw rcX10_fewestLeaps_0 22 rfl)
theorem dX10_fewestLeaps_43 : decode cX10_fewestLeaps 43 = .ok (.aaload, 1) := dk_50 (dw rcX10_fewestLeaps_0 23 rfl)
noncomputable def rbX10_fewestLeaps_44 : List (Nat × List Nat) := [(44, [21, 4]), (46, [43]), (47, [180, 0, 55]), (50, [21, 4]), (52, [51]), (53, [153, 0, 7]), (56, [3]), (57, [167, 0, 5]), (60, [18, 44]), (62, [79]), (63, [132, 4, 1]), (66, [167, 255, 215]), (69, [18, 44]), (71, [54, 4]), (73, [3]), (74, [54, 5]), (76, [4]), (77, [54, 6]), (79, [4]), (80, [54, 7]), (82, [21, 6]), (84, [153, 0, 96]), (87, [21, 7]), (89, [17, 1, 144])]
theorem rcX10_fewestLeaps_44 : dgo (lb cX10_fewestLeaps) 0 rbX10_fewestLeaps_44 = true := by decide +kernel
theorem dX10_fewestLeaps_44 : decode cX10_fewestLeaps 44 = .ok (.iload 4, 2) := dk_21 (dw rcX10_fewestLeaps_44 0 rfl)
theorem dX10_fewestLeaps_46 : decode cX10_fewestLeaps 46 = .ok (.aload_n 1, 1) := dk_43 (dw rcX10_fewestLeaps_44 1 rfl)
theorem dX10_fewestLeaps_47 : decode cX10_fewestLeaps 47 = .ok (.getfield 55, 3) := dk_180 (dw rcX10_fewestLeaps_44 2 rfl) rfl
theorem dX10_fewestLeaps_50 : decode cX10_fewestLeaps 50 = .ok (.iload 4, 2) := dk_21 (dw rcX10_fewestLeaps_44 3 rfl)
theorem dX10_fewestLeaps_52 : decode cX10_fewestLeaps 52 = .ok (.baload, 1) := dk_51 (dw rcX10_fewestLeaps_44 4 rfl)
theorem dX10_fewestLeaps_53 : decode cX10_fewestLeaps 53 = .ok (.ifCond .eq 7, 3) := dk_153 (dw rcX10_fewestLeaps_44 5 rfl) rfl
theorem dX10_fewestLeaps_56 : decode cX10_fewestLeaps 56 = .ok (.iconst 0, 1) := dk_3 (dw rcX10_fewestLeaps_44 6 rfl)
theorem dX10_fewestLeaps_57 : decode cX10_fewestLeaps 57 = .ok (.goto 5, 3) := dk_167 (dw rcX10_fewestLeaps_44 7 rfl) rfl
theorem dX10_fewestLeaps_60 : decode cX10_fewestLeaps 60 = .ok (.ldc 44, 2) := dk_18 (dw rcX10_fewestLeaps_44 8 rfl)
theorem dX10_fewestLeaps_62 : decode cX10_fewestLeaps 62 = .ok (.iastore, 1) := dk_79 (dw rcX10_fewestLeaps_44 9 rfl)
theorem dX10_fewestLeaps_63 : decode cX10_fewestLeaps 63 = .ok (.iinc 4 1, 3) := dk_132 (dw rcX10_fewestLeaps_44 10 rfl) rfl
theorem dX10_fewestLeaps_66 : decode cX10_fewestLeaps 66 = .ok (.goto (-41), 3) := dk_167 (dw rcX10_fewestLeaps_44 11 rfl) rfl
theorem dX10_fewestLeaps_69 : decode cX10_fewestLeaps 69 = .ok (.ldc 44, 2) := dk_18 (dw rcX10_fewestLeaps_44 12 rfl)
theorem dX10_fewestLeaps_71 : decode cX10_fewestLeaps 71 = .ok (.istore 4, 2) := dk_54 (dw rcX10_fewestLeaps_44 13 rfl)
theorem dX10_fewestLeaps_73 : decode cX10_fewestLeaps 73 = .ok (.iconst 0, 1) := dk_3 (dw rcX10_fewestLeaps_44 14 rfl)
theorem dX10_fewestLeaps_74 : decode cX10_fewestLeaps 74 = .ok (.istore 5, 2) := dk_54 (dw rcX10_fewestLeaps_44 15 rfl)
theorem dX10_fewestLeaps_76 : decode cX10_fewestLeaps 76 = .ok (.iconst 1, 1) := dk_4 (dw rcX10_fewestLeaps_44 16 rfl)
theorem dX10_fewestLeaps_77 : decode cX10_fewestLeaps 77 = .ok (.istore 6, 2) := dk_54 (dw rcX10_fewestLeaps_44 17 rfl)
theorem dX10_fewestLeaps_79 : decode cX10_fewestLeaps 79 = .ok (.iconst 1, 1) := dk_4 (dw rcX10_fewestLeaps_44 18 rfl)
theorem dX10_fewestLeaps_80 : decode cX10_fewestLeaps 80 = .ok (.istore 7, 2) := dk_54 (dw rcX10_fewestLeaps_44 19 rfl)
theorem dX10_fewestLeaps_82 : decode cX10_fewestLeaps 82 = .ok (.iload 6, 2) := dk_21 (dw rcX10_fewestLeaps_44 20 rfl)
theorem dX10_fewestLeaps_84 : decode cX10_fewestLeaps 84 = .ok (.ifCond .eq 96, 3) := dk_153 (dw rcX10_fewestLeaps_44 21 rfl) rfl
theorem dX10_fewestLeaps_87 : decode cX10_fewestLeaps 87 = .ok (.iload 7, 2) := dk_21 (dw rcX10_fewestLeaps_44 22 rfl)
theorem dX10_fewestLeaps_89 : decode cX10_fewestLeaps 89 = .ok (.sipush 400, 3) := dk_17 (dw rcX10_fewestLeaps_44 23 rfl) rfl
noncomputable def rbX10_fewestLeaps_92 : List (Nat × List Nat) := [(92, [163, 0, 88]), (95, [21, 4]), (97, [42]), (98, [180, 0, 13]), (101, [21, 5]), (103, [50]), (104, [43]), (105, [180, 0, 58]), (108, [43]), (109, [180, 0, 34]), (112, [184, 0, 67]), (115, [184, 0, 49]), (118, [54, 4]), (120, [21, 4]), (122, [42]), (123, [180, 0, 13]), (126, [21, 5]), (128, [4]), (129, [96]), (130, [50]), (131, [43]), (132, [180, 0, 58]), (135, [43]), (136, [180, 0, 34])]
theorem rcX10_fewestLeaps_92 : dgo (lb cX10_fewestLeaps) 0 rbX10_fewestLeaps_92 = true := by decide +kernel
theorem dX10_fewestLeaps_92 : decode cX10_fewestLeaps 92 = .ok (.if_icmp .gt 88, 3) := dk_163 (dw rcX10_fewestLeaps_92 0 rfl) rfl
theorem dX10_fewestLeaps_95 : decode cX10_fewestLeaps 95 = .ok (.iload 4, 2) := dk_21 (dw rcX10_fewestLeaps_92 1 rfl)
theorem dX10_fewestLeaps_97 : decode cX10_fewestLeaps 97 = .ok (.aload_n 0, 1) := dk_42 (dw rcX10_fewestLeaps_92 2 rfl)
theorem dX10_fewestLeaps_98 : decode cX10_fewestLeaps 98 = .ok (.getfield 13, 3) := dk_180 (dw rcX10_fewestLeaps_92 3 rfl) rfl
theorem dX10_fewestLeaps_101 : decode cX10_fewestLeaps 101 = .ok (.iload 5, 2) := dk_21 (dw rcX10_fewestLeaps_92 4 rfl)
theorem dX10_fewestLeaps_103 : decode cX10_fewestLeaps 103 = .ok (.aaload, 1) := dk_50 (dw rcX10_fewestLeaps_92 5 rfl)
theorem dX10_fewestLeaps_104 : decode cX10_fewestLeaps 104 = .ok (.aload_n 1, 1) := dk_43 (dw rcX10_fewestLeaps_92 6 rfl)
theorem dX10_fewestLeaps_105 : decode cX10_fewestLeaps 105 = .ok (.getfield 58, 3) := dk_180 (dw rcX10_fewestLeaps_92 7 rfl) rfl
theorem dX10_fewestLeaps_108 : decode cX10_fewestLeaps 108 = .ok (.aload_n 1, 1) := dk_43 (dw rcX10_fewestLeaps_92 8 rfl)
theorem dX10_fewestLeaps_109 : decode cX10_fewestLeaps 109 = .ok (.getfield 34, 3) := dk_180 (dw rcX10_fewestLeaps_92 9 rfl) rfl
theorem dX10_fewestLeaps_112 : decode cX10_fewestLeaps 112 = .ok (.invokestatic 67, 3) := dk_184 (dw rcX10_fewestLeaps_92 10 rfl) rfl
theorem dX10_fewestLeaps_115 : decode cX10_fewestLeaps 115 = .ok (.invokestatic 49, 3) := dk_184 (dw rcX10_fewestLeaps_92 11 rfl) rfl
theorem dX10_fewestLeaps_118 : decode cX10_fewestLeaps 118 = .ok (.istore 4, 2) := dk_54 (dw rcX10_fewestLeaps_92 12 rfl)
theorem dX10_fewestLeaps_120 : decode cX10_fewestLeaps 120 = .ok (.iload 4, 2) := dk_21 (dw rcX10_fewestLeaps_92 13 rfl)
theorem dX10_fewestLeaps_122 : decode cX10_fewestLeaps 122 = .ok (.aload_n 0, 1) := dk_42 (dw rcX10_fewestLeaps_92 14 rfl)
theorem dX10_fewestLeaps_123 : decode cX10_fewestLeaps 123 = .ok (.getfield 13, 3) := dk_180 (dw rcX10_fewestLeaps_92 15 rfl) rfl
theorem dX10_fewestLeaps_126 : decode cX10_fewestLeaps 126 = .ok (.iload 5, 2) := dk_21 (dw rcX10_fewestLeaps_92 16 rfl)
theorem dX10_fewestLeaps_128 : decode cX10_fewestLeaps 128 = .ok (.iconst 1, 1) := dk_4 (dw rcX10_fewestLeaps_92 17 rfl)
theorem dX10_fewestLeaps_129 : decode cX10_fewestLeaps 129 = .ok (.iadd, 1) := dk_96 (dw rcX10_fewestLeaps_92 18 rfl)
theorem dX10_fewestLeaps_130 : decode cX10_fewestLeaps 130 = .ok (.aaload, 1) := dk_50 (dw rcX10_fewestLeaps_92 19 rfl)
theorem dX10_fewestLeaps_131 : decode cX10_fewestLeaps 131 = .ok (.aload_n 1, 1) := dk_43 (dw rcX10_fewestLeaps_92 20 rfl)
theorem dX10_fewestLeaps_132 : decode cX10_fewestLeaps 132 = .ok (.getfield 58, 3) := dk_180 (dw rcX10_fewestLeaps_92 21 rfl) rfl
theorem dX10_fewestLeaps_135 : decode cX10_fewestLeaps 135 = .ok (.aload_n 1, 1) := dk_43 (dw rcX10_fewestLeaps_92 22 rfl)
theorem dX10_fewestLeaps_136 : decode cX10_fewestLeaps 136 = .ok (.getfield 34, 3) := dk_180 (dw rcX10_fewestLeaps_92 23 rfl) rfl
noncomputable def rbX10_fewestLeaps_139 : List (Nat × List Nat) := [(139, [184, 0, 67]), (142, [184, 0, 49]), (145, [54, 4]), (147, [42]), (148, [43]), (149, [21, 5]), (151, [28]), (152, [21, 7]), (154, [104]), (155, [29]), (156, [100]), (157, [28]), (158, [21, 7]), (160, [104]), (161, [29]), (162, [96]), (163, [182, 0, 91]), (166, [54, 6]), (168, [5]), (169, [21, 5]), (171, [100]), (172, [54, 5]), (174, [132, 7, 1]), (177, [167, 255, 161])]
theorem rcX10_fewestLeaps_139 : dgo (lb cX10_fewestLeaps) 0 rbX10_fewestLeaps_139 = true := by decide +kernel
theorem dX10_fewestLeaps_139 : decode cX10_fewestLeaps 139 = .ok (.invokestatic 67, 3) := dk_184 (dw rcX10_fewestLeaps_139 0 rfl) rfl
theorem dX10_fewestLeaps_142 : decode cX10_fewestLeaps 142 = .ok (.invokestatic 49, 3) := dk_184 (dw rcX10_fewestLeaps_139 1 rfl) rfl
theorem dX10_fewestLeaps_145 : decode cX10_fewestLeaps 145 = .ok (.istore 4, 2) := dk_54 (dw rcX10_fewestLeaps_139 2 rfl)
theorem dX10_fewestLeaps_147 : decode cX10_fewestLeaps 147 = .ok (.aload_n 0, 1) := dk_42 (dw rcX10_fewestLeaps_139 3 rfl)
theorem dX10_fewestLeaps_148 : decode cX10_fewestLeaps 148 = .ok (.aload_n 1, 1) := dk_43 (dw rcX10_fewestLeaps_139 4 rfl)
theorem dX10_fewestLeaps_149 : decode cX10_fewestLeaps 149 = .ok (.iload 5, 2) := dk_21 (dw rcX10_fewestLeaps_139 5 rfl)
theorem dX10_fewestLeaps_151 : decode cX10_fewestLeaps 151 = .ok (.iload_n 2, 1) := dk_28 (dw rcX10_fewestLeaps_139 6 rfl)
theorem dX10_fewestLeaps_152 : decode cX10_fewestLeaps 152 = .ok (.iload 7, 2) := dk_21 (dw rcX10_fewestLeaps_139 7 rfl)
theorem dX10_fewestLeaps_154 : decode cX10_fewestLeaps 154 = .ok (.imul, 1) := dk_104 (dw rcX10_fewestLeaps_139 8 rfl)
theorem dX10_fewestLeaps_155 : decode cX10_fewestLeaps 155 = .ok (.iload_n 3, 1) := dk_29 (dw rcX10_fewestLeaps_139 9 rfl)
theorem dX10_fewestLeaps_156 : decode cX10_fewestLeaps 156 = .ok (.isub, 1) := dk_100 (dw rcX10_fewestLeaps_139 10 rfl)
theorem dX10_fewestLeaps_157 : decode cX10_fewestLeaps 157 = .ok (.iload_n 2, 1) := dk_28 (dw rcX10_fewestLeaps_139 11 rfl)
theorem dX10_fewestLeaps_158 : decode cX10_fewestLeaps 158 = .ok (.iload 7, 2) := dk_21 (dw rcX10_fewestLeaps_139 12 rfl)
theorem dX10_fewestLeaps_160 : decode cX10_fewestLeaps 160 = .ok (.imul, 1) := dk_104 (dw rcX10_fewestLeaps_139 13 rfl)
theorem dX10_fewestLeaps_161 : decode cX10_fewestLeaps 161 = .ok (.iload_n 3, 1) := dk_29 (dw rcX10_fewestLeaps_139 14 rfl)
theorem dX10_fewestLeaps_162 : decode cX10_fewestLeaps 162 = .ok (.iadd, 1) := dk_96 (dw rcX10_fewestLeaps_139 15 rfl)
theorem dX10_fewestLeaps_163 : decode cX10_fewestLeaps 163 = .ok (.invokevirtual 91, 3) := dk_182 (dw rcX10_fewestLeaps_139 16 rfl) rfl
theorem dX10_fewestLeaps_166 : decode cX10_fewestLeaps 166 = .ok (.istore 6, 2) := dk_54 (dw rcX10_fewestLeaps_139 17 rfl)
theorem dX10_fewestLeaps_168 : decode cX10_fewestLeaps 168 = .ok (.iconst 2, 1) := dk_5 (dw rcX10_fewestLeaps_139 18 rfl)
theorem dX10_fewestLeaps_169 : decode cX10_fewestLeaps 169 = .ok (.iload 5, 2) := dk_21 (dw rcX10_fewestLeaps_139 19 rfl)
theorem dX10_fewestLeaps_171 : decode cX10_fewestLeaps 171 = .ok (.isub, 1) := dk_100 (dw rcX10_fewestLeaps_139 20 rfl)
theorem dX10_fewestLeaps_172 : decode cX10_fewestLeaps 172 = .ok (.istore 5, 2) := dk_54 (dw rcX10_fewestLeaps_139 21 rfl)
theorem dX10_fewestLeaps_174 : decode cX10_fewestLeaps 174 = .ok (.iinc 7 1, 3) := dk_132 (dw rcX10_fewestLeaps_139 22 rfl) rfl
theorem dX10_fewestLeaps_177 : decode cX10_fewestLeaps 177 = .ok (.goto (-95), 3) := dk_167 (dw rcX10_fewestLeaps_139 23 rfl) rfl
noncomputable def rbX10_fewestLeaps_180 : List (Nat × List Nat) := [(180, [21, 4]), (182, [18, 44]), (184, [161, 0, 7]), (187, [2]), (188, [167, 0, 5]), (191, [21, 4]), (193, [172])]
theorem rcX10_fewestLeaps_180 : dgo (lb cX10_fewestLeaps) 0 rbX10_fewestLeaps_180 = true := by decide +kernel
theorem dX10_fewestLeaps_180 : decode cX10_fewestLeaps 180 = .ok (.iload 4, 2) := dk_21 (dw rcX10_fewestLeaps_180 0 rfl)
theorem dX10_fewestLeaps_182 : decode cX10_fewestLeaps 182 = .ok (.ldc 44, 2) := dk_18 (dw rcX10_fewestLeaps_180 1 rfl)
theorem dX10_fewestLeaps_184 : decode cX10_fewestLeaps 184 = .ok (.if_icmp .lt 7, 3) := dk_161 (dw rcX10_fewestLeaps_180 2 rfl) rfl
theorem dX10_fewestLeaps_187 : decode cX10_fewestLeaps 187 = .ok (.iconst (-1), 1) := dk_2 (dw rcX10_fewestLeaps_180 3 rfl)
theorem dX10_fewestLeaps_188 : decode cX10_fewestLeaps 188 = .ok (.goto 5, 3) := dk_167 (dw rcX10_fewestLeaps_180 4 rfl) rfl
theorem dX10_fewestLeaps_191 : decode cX10_fewestLeaps 191 = .ok (.iload 4, 2) := dk_21 (dw rcX10_fewestLeaps_180 5 rfl)
theorem dX10_fewestLeaps_193 : decode cX10_fewestLeaps 193 = .ok (.ireturn, 1) := dk_172 (dw rcX10_fewestLeaps_180 6 rfl)
noncomputable def rbX10_followHand_0 : List (Nat × List Nat) := [(0, [42]), (1, [180, 0, 13]), (4, [5]), (5, [28]), (6, [100]), (7, [50]), (8, [58, 5]), (10, [42]), (11, [180, 0, 13]), (14, [6]), (15, [28]), (16, [100]), (17, [50]), (18, [58, 6]), (20, [25, 5]), (22, [18, 44]), (24, [184, 0, 85]), (27, [25, 6]), (29, [18, 44]), (31, [184, 0, 85]), (34, [42]), (35, [180, 0, 19]), (38, [182, 0, 95]), (41, [42])]
theorem rcX10_followHand_0 : dgo (lb cX10_followHand) 0 rbX10_followHand_0 = true := by decide +kernel
theorem dX10_followHand_0 : decode cX10_followHand 0 = .ok (.aload_n 0, 1) := dk_42 (dw rcX10_followHand_0 0 rfl)
theorem dX10_followHand_1 : decode cX10_followHand 1 = .ok (.getfield 13, 3) := dk_180 (dw rcX10_followHand_0 1 rfl) rfl
theorem dX10_followHand_4 : decode cX10_followHand 4 = .ok (.iconst 2, 1) := dk_5 (dw rcX10_followHand_0 2 rfl)
theorem dX10_followHand_5 : decode cX10_followHand 5 = .ok (.iload_n 2, 1) := dk_28 (dw rcX10_followHand_0 3 rfl)
theorem dX10_followHand_6 : decode cX10_followHand 6 = .ok (.isub, 1) := dk_100 (dw rcX10_followHand_0 4 rfl)
theorem dX10_followHand_7 : decode cX10_followHand 7 = .ok (.aaload, 1) := dk_50 (dw rcX10_followHand_0 5 rfl)
theorem dX10_followHand_8 : decode cX10_followHand 8 = .ok (.astore 5, 2) := dk_58 (dw rcX10_followHand_0 6 rfl)
theorem dX10_followHand_10 : decode cX10_followHand 10 = .ok (.aload_n 0, 1) := dk_42 (dw rcX10_followHand_0 7 rfl)
theorem dX10_followHand_11 : decode cX10_followHand 11 = .ok (.getfield 13, 3) := dk_180 (dw rcX10_followHand_0 8 rfl) rfl
theorem dX10_followHand_14 : decode cX10_followHand 14 = .ok (.iconst 3, 1) := dk_6 (dw rcX10_followHand_0 9 rfl)
theorem dX10_followHand_15 : decode cX10_followHand 15 = .ok (.iload_n 2, 1) := dk_28 (dw rcX10_followHand_0 10 rfl)
theorem dX10_followHand_16 : decode cX10_followHand 16 = .ok (.isub, 1) := dk_100 (dw rcX10_followHand_0 11 rfl)
theorem dX10_followHand_17 : decode cX10_followHand 17 = .ok (.aaload, 1) := dk_50 (dw rcX10_followHand_0 12 rfl)
theorem dX10_followHand_18 : decode cX10_followHand 18 = .ok (.astore 6, 2) := dk_58 (dw rcX10_followHand_0 13 rfl)
theorem dX10_followHand_20 : decode cX10_followHand 20 = .ok (.aload 5, 2) := dk_25 (dw rcX10_followHand_0 14 rfl)
theorem dX10_followHand_22 : decode cX10_followHand 22 = .ok (.ldc 44, 2) := dk_18 (dw rcX10_followHand_0 15 rfl)
theorem dX10_followHand_24 : decode cX10_followHand 24 = .ok (.invokestatic 85, 3) := dk_184 (dw rcX10_followHand_0 16 rfl) rfl
theorem dX10_followHand_27 : decode cX10_followHand 27 = .ok (.aload 6, 2) := dk_25 (dw rcX10_followHand_0 17 rfl)
theorem dX10_followHand_29 : decode cX10_followHand 29 = .ok (.ldc 44, 2) := dk_18 (dw rcX10_followHand_0 18 rfl)
theorem dX10_followHand_31 : decode cX10_followHand 31 = .ok (.invokestatic 85, 3) := dk_184 (dw rcX10_followHand_0 19 rfl) rfl
theorem dX10_followHand_34 : decode cX10_followHand 34 = .ok (.aload_n 0, 1) := dk_42 (dw rcX10_followHand_0 20 rfl)
theorem dX10_followHand_35 : decode cX10_followHand 35 = .ok (.getfield 19, 3) := dk_180 (dw rcX10_followHand_0 21 rfl) rfl
theorem dX10_followHand_38 : decode cX10_followHand 38 = .ok (.invokevirtual 95, 3) := dk_182 (dw rcX10_followHand_0 22 rfl) rfl
theorem dX10_followHand_41 : decode cX10_followHand 41 = .ok (.aload_n 0, 1) := dk_42 (dw rcX10_followHand_0 23 rfl)
noncomputable def rbX10_followHand_42 : List (Nat × List Nat) := [(42, [180, 0, 23]), (45, [182, 0, 95]), (48, [3]), (49, [54, 7]), (51, [3]), (52, [29]), (53, [184, 0, 82]), (56, [54, 8]), (58, [3]), (59, [21, 8]), (61, [43]), (62, [180, 0, 64]), (65, [100]), (66, [184, 0, 82]), (69, [54, 9]), (71, [3]), (72, [21, 8]), (74, [43]), (75, [180, 0, 71]), (78, [100]), (79, [184, 0, 82]), (82, [54, 10]), (84, [21, 8]), (86, [54, 11])]
theorem rcX10_followHand_42 : dgo (lb cX10_followHand) 0 rbX10_followHand_42 = true := by decide +kernel
theorem dX10_followHand_42 : decode cX10_followHand 42 = .ok (.getfield 23, 3) := dk_180 (dw rcX10_followHand_42 0 rfl) rfl
theorem dX10_followHand_45 : decode cX10_followHand 45 = .ok (.invokevirtual 95, 3) := dk_182 (dw rcX10_followHand_42 1 rfl) rfl
theorem dX10_followHand_48 : decode cX10_followHand 48 = .ok (.iconst 0, 1) := dk_3 (dw rcX10_followHand_42 2 rfl)
theorem dX10_followHand_49 : decode cX10_followHand 49 = .ok (.istore 7, 2) := dk_54 (dw rcX10_followHand_42 3 rfl)
theorem dX10_followHand_51 : decode cX10_followHand 51 = .ok (.iconst 0, 1) := dk_3 (dw rcX10_followHand_42 4 rfl)
theorem dX10_followHand_52 : decode cX10_followHand 52 = .ok (.iload_n 3, 1) := dk_29 (dw rcX10_followHand_42 5 rfl)
theorem dX10_followHand_53 : decode cX10_followHand 53 = .ok (.invokestatic 82, 3) := dk_184 (dw rcX10_followHand_42 6 rfl) rfl
theorem dX10_followHand_56 : decode cX10_followHand 56 = .ok (.istore 8, 2) := dk_54 (dw rcX10_followHand_42 7 rfl)
theorem dX10_followHand_58 : decode cX10_followHand 58 = .ok (.iconst 0, 1) := dk_3 (dw rcX10_followHand_42 8 rfl)
theorem dX10_followHand_59 : decode cX10_followHand 59 = .ok (.iload 8, 2) := dk_21 (dw rcX10_followHand_42 9 rfl)
theorem dX10_followHand_61 : decode cX10_followHand 61 = .ok (.aload_n 1, 1) := dk_43 (dw rcX10_followHand_42 10 rfl)
theorem dX10_followHand_62 : decode cX10_followHand 62 = .ok (.getfield 64, 3) := dk_180 (dw rcX10_followHand_42 11 rfl) rfl
theorem dX10_followHand_65 : decode cX10_followHand 65 = .ok (.isub, 1) := dk_100 (dw rcX10_followHand_42 12 rfl)
theorem dX10_followHand_66 : decode cX10_followHand 66 = .ok (.invokestatic 82, 3) := dk_184 (dw rcX10_followHand_42 13 rfl) rfl
theorem dX10_followHand_69 : decode cX10_followHand 69 = .ok (.istore 9, 2) := dk_54 (dw rcX10_followHand_42 14 rfl)
theorem dX10_followHand_71 : decode cX10_followHand 71 = .ok (.iconst 0, 1) := dk_3 (dw rcX10_followHand_42 15 rfl)
theorem dX10_followHand_72 : decode cX10_followHand 72 = .ok (.iload 8, 2) := dk_21 (dw rcX10_followHand_42 16 rfl)
theorem dX10_followHand_74 : decode cX10_followHand 74 = .ok (.aload_n 1, 1) := dk_43 (dw rcX10_followHand_42 17 rfl)
theorem dX10_followHand_75 : decode cX10_followHand 75 = .ok (.getfield 71, 3) := dk_180 (dw rcX10_followHand_42 18 rfl) rfl
theorem dX10_followHand_78 : decode cX10_followHand 78 = .ok (.isub, 1) := dk_100 (dw rcX10_followHand_42 19 rfl)
theorem dX10_followHand_79 : decode cX10_followHand 79 = .ok (.invokestatic 82, 3) := dk_184 (dw rcX10_followHand_42 20 rfl) rfl
theorem dX10_followHand_82 : decode cX10_followHand 82 = .ok (.istore 10, 2) := dk_54 (dw rcX10_followHand_42 21 rfl)
theorem dX10_followHand_84 : decode cX10_followHand 84 = .ok (.iload 8, 2) := dk_21 (dw rcX10_followHand_42 22 rfl)
theorem dX10_followHand_86 : decode cX10_followHand 86 = .ok (.istore 11, 2) := dk_54 (dw rcX10_followHand_42 23 rfl)
noncomputable def rbX10_followHand_88 : List (Nat × List Nat) := [(88, [21, 11]), (90, [21, 4]), (92, [43]), (93, [180, 0, 34]), (96, [184, 0, 49]), (99, [163, 0, 200]), (102, [21, 9]), (104, [21, 11]), (106, [43]), (107, [180, 0, 61]), (110, [100]), (111, [163, 0, 50]), (114, [21, 9]), (116, [43]), (117, [180, 0, 58]), (120, [162, 0, 41]), (123, [42]), (124, [180, 0, 19]), (127, [21, 9]), (129, [42]), (130, [180, 0, 13]), (133, [28]), (134, [50]), (135, [21, 9])]
theorem rcX10_followHand_88 : dgo (lb cX10_followHand) 0 rbX10_followHand_88 = true := by decide +kernel
theorem dX10_followHand_88 : decode cX10_followHand 88 = .ok (.iload 11, 2) := dk_21 (dw rcX10_followHand_88 0 rfl)
theorem dX10_followHand_90 : decode cX10_followHand 90 = .ok (.iload 4, 2) := dk_21 (dw rcX10_followHand_88 1 rfl)
theorem dX10_followHand_92 : decode cX10_followHand 92 = .ok (.aload_n 1, 1) := dk_43 (dw rcX10_followHand_88 2 rfl)
theorem dX10_followHand_93 : decode cX10_followHand 93 = .ok (.getfield 34, 3) := dk_180 (dw rcX10_followHand_88 3 rfl) rfl
theorem dX10_followHand_96 : decode cX10_followHand 96 = .ok (.invokestatic 49, 3) := dk_184 (dw rcX10_followHand_88 4 rfl) rfl
theorem dX10_followHand_99 : decode cX10_followHand 99 = .ok (.if_icmp .gt 200, 3) := dk_163 (dw rcX10_followHand_88 5 rfl) rfl
theorem dX10_followHand_102 : decode cX10_followHand 102 = .ok (.iload 9, 2) := dk_21 (dw rcX10_followHand_88 6 rfl)
theorem dX10_followHand_104 : decode cX10_followHand 104 = .ok (.iload 11, 2) := dk_21 (dw rcX10_followHand_88 7 rfl)
theorem dX10_followHand_106 : decode cX10_followHand 106 = .ok (.aload_n 1, 1) := dk_43 (dw rcX10_followHand_88 8 rfl)
theorem dX10_followHand_107 : decode cX10_followHand 107 = .ok (.getfield 61, 3) := dk_180 (dw rcX10_followHand_88 9 rfl) rfl
theorem dX10_followHand_110 : decode cX10_followHand 110 = .ok (.isub, 1) := dk_100 (dw rcX10_followHand_88 10 rfl)
theorem dX10_followHand_111 : decode cX10_followHand 111 = .ok (.if_icmp .gt 50, 3) := dk_163 (dw rcX10_followHand_88 11 rfl) rfl
theorem dX10_followHand_114 : decode cX10_followHand 114 = .ok (.iload 9, 2) := dk_21 (dw rcX10_followHand_88 12 rfl)
theorem dX10_followHand_116 : decode cX10_followHand 116 = .ok (.aload_n 1, 1) := dk_43 (dw rcX10_followHand_88 13 rfl)
theorem dX10_followHand_117 : decode cX10_followHand 117 = .ok (.getfield 58, 3) := dk_180 (dw rcX10_followHand_88 14 rfl) rfl
theorem dX10_followHand_120 : decode cX10_followHand 120 = .ok (.if_icmp .ge 41, 3) := dk_162 (dw rcX10_followHand_88 15 rfl) rfl
theorem dX10_followHand_123 : decode cX10_followHand 123 = .ok (.aload_n 0, 1) := dk_42 (dw rcX10_followHand_88 16 rfl)
theorem dX10_followHand_124 : decode cX10_followHand 124 = .ok (.getfield 19, 3) := dk_180 (dw rcX10_followHand_88 17 rfl) rfl
theorem dX10_followHand_127 : decode cX10_followHand 127 = .ok (.iload 9, 2) := dk_21 (dw rcX10_followHand_88 18 rfl)
theorem dX10_followHand_129 : decode cX10_followHand 129 = .ok (.aload_n 0, 1) := dk_42 (dw rcX10_followHand_88 19 rfl)
theorem dX10_followHand_130 : decode cX10_followHand 130 = .ok (.getfield 13, 3) := dk_180 (dw rcX10_followHand_88 20 rfl) rfl
theorem dX10_followHand_133 : decode cX10_followHand 133 = .ok (.iload_n 2, 1) := dk_28 (dw rcX10_followHand_88 21 rfl)
theorem dX10_followHand_134 : decode cX10_followHand 134 = .ok (.aaload, 1) := dk_50 (dw rcX10_followHand_88 22 rfl)
theorem dX10_followHand_135 : decode cX10_followHand 135 = .ok (.iload 9, 2) := dk_21 (dw rcX10_followHand_88 23 rfl)
noncomputable def rbX10_followHand_137 : List (Nat × List Nat) := [(137, [46]), (138, [42]), (139, [180, 0, 13]), (142, [28]), (143, [4]), (144, [96]), (145, [50]), (146, [21, 9]), (148, [46]), (149, [184, 0, 49]), (152, [182, 0, 98]), (155, [132, 9, 1]), (158, [167, 255, 200]), (161, [21, 10]), (163, [21, 11]), (165, [43]), (166, [180, 0, 64]), (169, [100]), (170, [162, 0, 43]), (173, [21, 10]), (175, [43]), (176, [180, 0, 58]), (179, [162, 0, 34]), (182, [42])]
theorem rcX10_followHand_137 : dgo (lb cX10_followHand) 0 rbX10_followHand_137 = true := by decide +kernel
theorem dX10_followHand_137 : decode cX10_followHand 137 = .ok (.iaload, 1) := dk_46 (dw rcX10_followHand_137 0 rfl)
theorem dX10_followHand_138 : decode cX10_followHand 138 = .ok (.aload_n 0, 1) := dk_42 (dw rcX10_followHand_137 1 rfl)
theorem dX10_followHand_139 : decode cX10_followHand 139 = .ok (.getfield 13, 3) := dk_180 (dw rcX10_followHand_137 2 rfl) rfl
theorem dX10_followHand_142 : decode cX10_followHand 142 = .ok (.iload_n 2, 1) := dk_28 (dw rcX10_followHand_137 3 rfl)
theorem dX10_followHand_143 : decode cX10_followHand 143 = .ok (.iconst 1, 1) := dk_4 (dw rcX10_followHand_137 4 rfl)
theorem dX10_followHand_144 : decode cX10_followHand 144 = .ok (.iadd, 1) := dk_96 (dw rcX10_followHand_137 5 rfl)
theorem dX10_followHand_145 : decode cX10_followHand 145 = .ok (.aaload, 1) := dk_50 (dw rcX10_followHand_137 6 rfl)
theorem dX10_followHand_146 : decode cX10_followHand 146 = .ok (.iload 9, 2) := dk_21 (dw rcX10_followHand_137 7 rfl)
theorem dX10_followHand_148 : decode cX10_followHand 148 = .ok (.iaload, 1) := dk_46 (dw rcX10_followHand_137 8 rfl)
theorem dX10_followHand_149 : decode cX10_followHand 149 = .ok (.invokestatic 49, 3) := dk_184 (dw rcX10_followHand_137 9 rfl) rfl
theorem dX10_followHand_152 : decode cX10_followHand 152 = .ok (.invokevirtual 98, 3) := dk_182 (dw rcX10_followHand_137 10 rfl) rfl
theorem dX10_followHand_155 : decode cX10_followHand 155 = .ok (.iinc 9 1, 3) := dk_132 (dw rcX10_followHand_137 11 rfl) rfl
theorem dX10_followHand_158 : decode cX10_followHand 158 = .ok (.goto (-56), 3) := dk_167 (dw rcX10_followHand_137 12 rfl) rfl
theorem dX10_followHand_161 : decode cX10_followHand 161 = .ok (.iload 10, 2) := dk_21 (dw rcX10_followHand_137 13 rfl)
theorem dX10_followHand_163 : decode cX10_followHand 163 = .ok (.iload 11, 2) := dk_21 (dw rcX10_followHand_137 14 rfl)
theorem dX10_followHand_165 : decode cX10_followHand 165 = .ok (.aload_n 1, 1) := dk_43 (dw rcX10_followHand_137 15 rfl)
theorem dX10_followHand_166 : decode cX10_followHand 166 = .ok (.getfield 64, 3) := dk_180 (dw rcX10_followHand_137 16 rfl) rfl
theorem dX10_followHand_169 : decode cX10_followHand 169 = .ok (.isub, 1) := dk_100 (dw rcX10_followHand_137 17 rfl)
theorem dX10_followHand_170 : decode cX10_followHand 170 = .ok (.if_icmp .ge 43, 3) := dk_162 (dw rcX10_followHand_137 18 rfl) rfl
theorem dX10_followHand_173 : decode cX10_followHand 173 = .ok (.iload 10, 2) := dk_21 (dw rcX10_followHand_137 19 rfl)
theorem dX10_followHand_175 : decode cX10_followHand 175 = .ok (.aload_n 1, 1) := dk_43 (dw rcX10_followHand_137 20 rfl)
theorem dX10_followHand_176 : decode cX10_followHand 176 = .ok (.getfield 58, 3) := dk_180 (dw rcX10_followHand_137 21 rfl) rfl
theorem dX10_followHand_179 : decode cX10_followHand 179 = .ok (.if_icmp .ge 34, 3) := dk_162 (dw rcX10_followHand_137 22 rfl) rfl
theorem dX10_followHand_182 : decode cX10_followHand 182 = .ok (.aload_n 0, 1) := dk_42 (dw rcX10_followHand_137 23 rfl)
noncomputable def rbX10_followHand_183 : List (Nat × List Nat) := [(183, [180, 0, 23]), (186, [21, 10]), (188, [18, 44]), (190, [42]), (191, [180, 0, 13]), (194, [28]), (195, [50]), (196, [21, 10]), (198, [46]), (199, [4]), (200, [96]), (201, [184, 0, 49]), (204, [182, 0, 98]), (207, [132, 10, 1]), (210, [167, 255, 207]), (213, [43]), (214, [180, 0, 55]), (217, [21, 11]), (219, [51]), (220, [153, 0, 73]), (223, [25, 5]), (225, [21, 11]), (227, [42]), (228, [180, 0, 19])]
theorem rcX10_followHand_183 : dgo (lb cX10_followHand) 0 rbX10_followHand_183 = true := by decide +kernel
theorem dX10_followHand_183 : decode cX10_followHand 183 = .ok (.getfield 23, 3) := dk_180 (dw rcX10_followHand_183 0 rfl) rfl
theorem dX10_followHand_186 : decode cX10_followHand 186 = .ok (.iload 10, 2) := dk_21 (dw rcX10_followHand_183 1 rfl)
theorem dX10_followHand_188 : decode cX10_followHand 188 = .ok (.ldc 44, 2) := dk_18 (dw rcX10_followHand_183 2 rfl)
theorem dX10_followHand_190 : decode cX10_followHand 190 = .ok (.aload_n 0, 1) := dk_42 (dw rcX10_followHand_183 3 rfl)
theorem dX10_followHand_191 : decode cX10_followHand 191 = .ok (.getfield 13, 3) := dk_180 (dw rcX10_followHand_183 4 rfl) rfl
theorem dX10_followHand_194 : decode cX10_followHand 194 = .ok (.iload_n 2, 1) := dk_28 (dw rcX10_followHand_183 5 rfl)
theorem dX10_followHand_195 : decode cX10_followHand 195 = .ok (.aaload, 1) := dk_50 (dw rcX10_followHand_183 6 rfl)
theorem dX10_followHand_196 : decode cX10_followHand 196 = .ok (.iload 10, 2) := dk_21 (dw rcX10_followHand_183 7 rfl)
theorem dX10_followHand_198 : decode cX10_followHand 198 = .ok (.iaload, 1) := dk_46 (dw rcX10_followHand_183 8 rfl)
theorem dX10_followHand_199 : decode cX10_followHand 199 = .ok (.iconst 1, 1) := dk_4 (dw rcX10_followHand_183 9 rfl)
theorem dX10_followHand_200 : decode cX10_followHand 200 = .ok (.iadd, 1) := dk_96 (dw rcX10_followHand_183 10 rfl)
theorem dX10_followHand_201 : decode cX10_followHand 201 = .ok (.invokestatic 49, 3) := dk_184 (dw rcX10_followHand_183 11 rfl) rfl
theorem dX10_followHand_204 : decode cX10_followHand 204 = .ok (.invokevirtual 98, 3) := dk_182 (dw rcX10_followHand_183 12 rfl) rfl
theorem dX10_followHand_207 : decode cX10_followHand 207 = .ok (.iinc 10 1, 3) := dk_132 (dw rcX10_followHand_183 13 rfl) rfl
theorem dX10_followHand_210 : decode cX10_followHand 210 = .ok (.goto (-49), 3) := dk_167 (dw rcX10_followHand_183 14 rfl) rfl
theorem dX10_followHand_213 : decode cX10_followHand 213 = .ok (.aload_n 1, 1) := dk_43 (dw rcX10_followHand_183 15 rfl)
theorem dX10_followHand_214 : decode cX10_followHand 214 = .ok (.getfield 55, 3) := dk_180 (dw rcX10_followHand_183 16 rfl) rfl
theorem dX10_followHand_217 : decode cX10_followHand 217 = .ok (.iload 11, 2) := dk_21 (dw rcX10_followHand_183 17 rfl)
theorem dX10_followHand_219 : decode cX10_followHand 219 = .ok (.baload, 1) := dk_51 (dw rcX10_followHand_183 18 rfl)
theorem dX10_followHand_220 : decode cX10_followHand 220 = .ok (.ifCond .eq 73, 3) := dk_153 (dw rcX10_followHand_183 19 rfl) rfl
theorem dX10_followHand_223 : decode cX10_followHand 223 = .ok (.aload 5, 2) := dk_25 (dw rcX10_followHand_183 20 rfl)
theorem dX10_followHand_225 : decode cX10_followHand 225 = .ok (.iload 11, 2) := dk_21 (dw rcX10_followHand_183 21 rfl)
theorem dX10_followHand_227 : decode cX10_followHand 227 = .ok (.aload_n 0, 1) := dk_42 (dw rcX10_followHand_183 22 rfl)
theorem dX10_followHand_228 : decode cX10_followHand 228 = .ok (.getfield 19, 3) := dk_180 (dw rcX10_followHand_183 23 rfl) rfl
noncomputable def rbX10_followHand_231 : List (Nat × List Nat) := [(231, [21, 11]), (233, [43]), (234, [180, 0, 64]), (237, [100]), (238, [182, 0, 102]), (241, [79]), (242, [25, 6]), (244, [21, 11]), (246, [42]), (247, [180, 0, 23]), (250, [21, 11]), (252, [43]), (253, [180, 0, 71]), (256, [100]), (257, [182, 0, 102]), (260, [79]), (261, [21, 7]), (263, [154, 0, 23]), (266, [25, 5]), (268, [21, 11]), (270, [46]), (271, [18, 44]), (273, [161, 0, 13]), (276, [25, 6])]
theorem rcX10_followHand_231 : dgo (lb cX10_followHand) 0 rbX10_followHand_231 = true := by decide +kernel
theorem dX10_followHand_231 : decode cX10_followHand 231 = .ok (.iload 11, 2) := dk_21 (dw rcX10_followHand_231 0 rfl)
theorem dX10_followHand_233 : decode cX10_followHand 233 = .ok (.aload_n 1, 1) := dk_43 (dw rcX10_followHand_231 1 rfl)
theorem dX10_followHand_234 : decode cX10_followHand 234 = .ok (.getfield 64, 3) := dk_180 (dw rcX10_followHand_231 2 rfl) rfl
theorem dX10_followHand_237 : decode cX10_followHand 237 = .ok (.isub, 1) := dk_100 (dw rcX10_followHand_231 3 rfl)
theorem dX10_followHand_238 : decode cX10_followHand 238 = .ok (.invokevirtual 102, 3) := dk_182 (dw rcX10_followHand_231 4 rfl) rfl
theorem dX10_followHand_241 : decode cX10_followHand 241 = .ok (.iastore, 1) := dk_79 (dw rcX10_followHand_231 5 rfl)
theorem dX10_followHand_242 : decode cX10_followHand 242 = .ok (.aload 6, 2) := dk_25 (dw rcX10_followHand_231 6 rfl)
theorem dX10_followHand_244 : decode cX10_followHand 244 = .ok (.iload 11, 2) := dk_21 (dw rcX10_followHand_231 7 rfl)
theorem dX10_followHand_246 : decode cX10_followHand 246 = .ok (.aload_n 0, 1) := dk_42 (dw rcX10_followHand_231 8 rfl)
theorem dX10_followHand_247 : decode cX10_followHand 247 = .ok (.getfield 23, 3) := dk_180 (dw rcX10_followHand_231 9 rfl) rfl
theorem dX10_followHand_250 : decode cX10_followHand 250 = .ok (.iload 11, 2) := dk_21 (dw rcX10_followHand_231 10 rfl)
theorem dX10_followHand_252 : decode cX10_followHand 252 = .ok (.aload_n 1, 1) := dk_43 (dw rcX10_followHand_231 11 rfl)
theorem dX10_followHand_253 : decode cX10_followHand 253 = .ok (.getfield 71, 3) := dk_180 (dw rcX10_followHand_231 12 rfl) rfl
theorem dX10_followHand_256 : decode cX10_followHand 256 = .ok (.isub, 1) := dk_100 (dw rcX10_followHand_231 13 rfl)
theorem dX10_followHand_257 : decode cX10_followHand 257 = .ok (.invokevirtual 102, 3) := dk_182 (dw rcX10_followHand_231 14 rfl) rfl
theorem dX10_followHand_260 : decode cX10_followHand 260 = .ok (.iastore, 1) := dk_79 (dw rcX10_followHand_231 15 rfl)
theorem dX10_followHand_261 : decode cX10_followHand 261 = .ok (.iload 7, 2) := dk_21 (dw rcX10_followHand_231 16 rfl)
theorem dX10_followHand_263 : decode cX10_followHand 263 = .ok (.ifCond .ne 23, 3) := dk_154 (dw rcX10_followHand_231 17 rfl) rfl
theorem dX10_followHand_266 : decode cX10_followHand 266 = .ok (.aload 5, 2) := dk_25 (dw rcX10_followHand_231 18 rfl)
theorem dX10_followHand_268 : decode cX10_followHand 268 = .ok (.iload 11, 2) := dk_21 (dw rcX10_followHand_231 19 rfl)
theorem dX10_followHand_270 : decode cX10_followHand 270 = .ok (.iaload, 1) := dk_46 (dw rcX10_followHand_231 20 rfl)
theorem dX10_followHand_271 : decode cX10_followHand 271 = .ok (.ldc 44, 2) := dk_18 (dw rcX10_followHand_231 21 rfl)
theorem dX10_followHand_273 : decode cX10_followHand 273 = .ok (.if_icmp .lt 13, 3) := dk_161 (dw rcX10_followHand_231 22 rfl) rfl
theorem dX10_followHand_276 : decode cX10_followHand 276 = .ok (.aload 6, 2) := dk_25 (dw rcX10_followHand_231 23 rfl)
noncomputable def rbX10_followHand_278 : List (Nat × List Nat) := [(278, [21, 11]), (280, [46]), (281, [18, 44]), (283, [162, 0, 7]), (286, [4]), (287, [167, 0, 4]), (290, [3]), (291, [54, 7]), (293, [132, 11, 1]), (296, [167, 255, 48]), (299, [21, 7]), (301, [172])]
theorem rcX10_followHand_278 : dgo (lb cX10_followHand) 0 rbX10_followHand_278 = true := by decide +kernel
theorem dX10_followHand_278 : decode cX10_followHand 278 = .ok (.iload 11, 2) := dk_21 (dw rcX10_followHand_278 0 rfl)
theorem dX10_followHand_280 : decode cX10_followHand 280 = .ok (.iaload, 1) := dk_46 (dw rcX10_followHand_278 1 rfl)
theorem dX10_followHand_281 : decode cX10_followHand 281 = .ok (.ldc 44, 2) := dk_18 (dw rcX10_followHand_278 2 rfl)
theorem dX10_followHand_283 : decode cX10_followHand 283 = .ok (.if_icmp .ge 7, 3) := dk_162 (dw rcX10_followHand_278 3 rfl) rfl
theorem dX10_followHand_286 : decode cX10_followHand 286 = .ok (.iconst 1, 1) := dk_4 (dw rcX10_followHand_278 4 rfl)
theorem dX10_followHand_287 : decode cX10_followHand 287 = .ok (.goto 4, 3) := dk_167 (dw rcX10_followHand_278 5 rfl) rfl
theorem dX10_followHand_290 : decode cX10_followHand 290 = .ok (.iconst 0, 1) := dk_3 (dw rcX10_followHand_278 6 rfl)
theorem dX10_followHand_291 : decode cX10_followHand 291 = .ok (.istore 7, 2) := dk_54 (dw rcX10_followHand_278 7 rfl)
theorem dX10_followHand_293 : decode cX10_followHand 293 = .ok (.iinc 11 1, 3) := dk_132 (dw rcX10_followHand_278 8 rfl) rfl
theorem dX10_followHand_296 : decode cX10_followHand 296 = .ok (.goto (-208), 3) := dk_167 (dw rcX10_followHand_278 9 rfl) rfl
theorem dX10_followHand_299 : decode cX10_followHand 299 = .ok (.iload 7, 2) := dk_21 (dw rcX10_followHand_278 10 rfl)
theorem dX10_followHand_301 : decode cX10_followHand 301 = .ok (.ireturn, 1) := dk_172 (dw rcX10_followHand_278 11 rfl)
set_option maxHeartbeats 4000000 in
set_option maxRecDepth 100000 in
theorem k_tHand_0 (l : Launch) (D : va_G) (k : KT) (A : Nat → Prop) (a : Nat → Nat) (z : SK) (G : GS) (p0 : Int32) (p1 : Int32) (ha_p0 : -99 ≤ p0.toInt ∧ p0.toInt ≤ 39600) (ha_p1 : -99 ≤ p1.toInt ∧ p1.toInt ≤ 39699) (hci : (G.1 7 6).toInt ≤ 399 ∧ (G.1 7 3).toInt ≤ (G.1 7 4).toInt ∧ ((G.1 7 7).toInt ≤ 0 ∨ (G.1 7 7).toInt + (G.1 7 4).toInt ≤ (G.1 7 6).toInt + 1)) : Met l yX10_followHand (WS yX10_followHand cX10_followHand 12 (some .boolean)) ({ frames := 1, cells := 0, slots := 0, locals := 23 }) (va_Pc [.ref (a 8), .ref (a 7), .int 0, .int p0, .int p1] (cW D k A a z G)) (va_Qi (fun (r : Int32) (G1 : GS) => P_tHand_0 p0 p1 G r G1) (fun (G1 : GS) t => Wd D k A a G1 t.heap) A) 0 0 A := by
  refine Met.ofW (cc := cX10_followHand) (maxL := 12) (ret := (some .boolean)) (by decide) rfl ?_
  intro p e s m args below meth c s₁ B hml hv
  obtain ⟨rfl, hW, hB_G, hK, hZ⟩ := hv
  have hx := B.exec
  have hb := B.bytes
  have hr := B.returns
  have hts := atoms_spec (ws := WS yX10_followHand cX10_followHand 12 (some .boolean)) B.pre
  have hgd : ∀ w ∈ gd, w ∈ WS yX10_followHand cX10_followHand 12 (some .boolean) := fun w h => List.mem_cons_of_mem _ h
  have hg : ∀ w ∈ gd, w.before _ s = true := fun w h => hts w (hgd w h)
  have hown : s.vm.findClass RX10 = some m.cls := findClass_of_methodNamed B.named
  have hS : va_S A s.heap s.heap [] := va_S.rf
  have hF : Fr [44, 45, 48, 49, 50, 51] [(9, 2), (9, 3), (19, 2), (19, 3)] G G := Fr.rf
  have hl := lv_entry ([.ref (a 8), .ref (a 7), .int 0, .int p0, .int p1]) (n := 12) (Nat.le_of_ble_eq_true rfl)
  rw [lg_entry_eq]
  generalize (lg_sl ([.ref (a 8), .ref (a 7), .int 0, .int p0, .int p1]) ++ List.replicate (12 - (lg_sl ([.ref (a 8), .ref (a 7), .int 0, .int p0, .int p1])).length) Slot.unset).toArray = ls at hl ⊢
  have hl : lv_has ls 12 [(0, .ref (a 8)), (1, .ref (a 7)), (2, .int 0), (3, .int p0), (4, .int p1)] := hl
  have b_1 : (-1) ≤ (G.1 7 6).toInt ∧ (G.1 7 6).toInt ≤ 400 := bd_7_6 hB_G
  refine lv_aload_n hx hb dX10_followHand_0 rfl (lv_at hl 0 rfl) ?_
  refine S_getR (n := 41) (C := RX10) (T := TX10) (N := 5) hx hb hg iX10 hown hK hW kd_8 rfl 0 (lt_b rfl) (hg (Cond.fieldLink RX10 13 "SlabWalk$Trails" "rows" "[[I") m440) (fun _ h9 => h9) rfl dX10_followHand_1 ?_
  refine ic_2 hx hb dX10_followHand_4 ?_
  refine lv_iload_n hx hb dX10_followHand_5 rfl (lv_at hl 2 rfl) ?_
  refine lv_isub hx hb dX10_followHand_6 ?_
  refine lv_topi (fun y_2 ey_2 => ?_)
  obtain rfl : y_2 = 2 := ey_2.trans (by decide)
  refine S_aald hx hb hK hW kd_41 (vin (by decide) (by decide)) dX10_followHand_7 ?_
  refine rows_at (n := 44) (rows_c hB_G 2 (by decide)) ?_
  refine lv_astore (lv' := [(5, .ref (a 44)), (0, .ref (a 8)), (1, .ref (a 7)), (2, .int 0), (3, .int p0), (4, .int p1)]) hx hb dX10_followHand_8 hl (lt_b rfl) rfl (fun ls hl => ?_)
  refine lv_aload_n hx hb dX10_followHand_10 rfl (lv_at hl 1 rfl) ?_
  refine S_getR (n := 41) (C := RX10) (T := TX10) (N := 5) hx hb hg iX10 hown hK hW kd_8 rfl 0 (lt_b rfl) (hg (Cond.fieldLink RX10 13 "SlabWalk$Trails" "rows" "[[I") m440) (fun _ h9 => h9) rfl dX10_followHand_11 ?_
  refine ic_3 hx hb dX10_followHand_14 ?_
  refine lv_iload_n hx hb dX10_followHand_15 rfl (lv_at hl 3 rfl) ?_
  refine lv_isub hx hb dX10_followHand_16 ?_
  refine lv_topi (fun y_3 ey_3 => ?_)
  obtain rfl : y_3 = 3 := ey_3.trans (by decide)
  refine S_aald hx hb hK hW kd_41 (vin (by decide) (by decide)) dX10_followHand_17 ?_
  refine rows_at (n := 45) (rows_c hB_G 3 (by decide)) ?_
  refine lv_astore (lv' := [(6, .ref (a 45)), (5, .ref (a 44)), (0, .ref (a 8)), (1, .ref (a 7)), (2, .int 0), (3, .int p0), (4, .int p1)]) hx hb dX10_followHand_18 hl (lt_b rfl) rfl (fun ls hl => ?_)
  refine lv_aload hx hb dX10_followHand_20 (lv_at hl 1 rfl) ?_
  refine lv_ldc (v := 1000000) hx hb hown (hg (Cond.constant RX10 44 1000000) m997) dX10_followHand_22 ?_
  refine S_callv (va_runS (As := [.ref (a 44), .int 1000000]) (rest := []) ⟨hx, hb, hml, hown, hts⟩ (k_fill_44 l D k A a z G 1000000 ) (va_cwS 2 hts (gd_S hgd m1095 m556 m129 m557) rfl rfl rfl hd_J7_fill_53178.2 ⟨Nat.le_of_ble_eq_true rfl, Nat.le_of_ble_eq_true rfl⟩) (pre_S hW hB_G hK hZ hS) rfl rfl hl.1 rfl (lv_room (Nat.le_of_ble_eq_true rfl)) dX10_followHand_24 ⟨Nat.le_of_ble_eq_true rfl, Nat.le_of_ble_eq_true rfl⟩) hS (fun G_5 H locs hpo hW hS => ?_)
  have hX_8 : P_fill_44 1000000 G G_5 := hpo
  obtain ⟨hB_G_5, hq_6, -⟩ := hpo
  have hF := hF.call9 hq_6 rfl rfl
  refine lv_aload hx hb dX10_followHand_27 (lv_at hl 0 rfl) ?_
  refine lv_ldc (v := 1000000) hx hb hown (hg (Cond.constant RX10 44 1000000) m997) dX10_followHand_29 ?_
  refine S_callv (va_runS (As := [.ref (a 45), .int 1000000]) (rest := []) ⟨hx, hb, hml, hown, hts⟩ (k_fill_45 l D k A a z G_5 1000000 ) (va_cwS 2 hts (gd_S hgd m1095 m556 m129 m557) rfl rfl rfl hd_J7_fill_53178.2 ⟨Nat.le_of_ble_eq_true rfl, Nat.le_of_ble_eq_true rfl⟩) (pre_S hW hB_G_5 hK hZ hS) rfl rfl hl.1 rfl (lv_room (Nat.le_of_ble_eq_true rfl)) dX10_followHand_31 ⟨Nat.le_of_ble_eq_true rfl, Nat.le_of_ble_eq_true rfl⟩) hS (fun G_10 H locs hpo hW hS => ?_)
  have hX_13 : P_fill_45 1000000 G_5 G_10 := hpo
  obtain ⟨hB_G_10, hq_11, -⟩ := hpo
  have hF := hF.call9 hq_11 rfl rfl
  refine lv_aload_n hx hb dX10_followHand_34 rfl (lv_at hl 2 rfl) ?_
  refine S_getR (n := 9) (C := RX10) (T := TX10) (N := 5) hx hb hg iX10 hown hK hW kd_8 rfl 1 (lt_b rfl) (hg (Cond.fieldLink RX10 19 "SlabWalk$Trails" "steps" "LSlabWalk$Minima;") m441) (fun _ h9 => h9) rfl dX10_followHand_35 ?_
  refine S_callv (va_runV (As := []) (rest := []) ⟨hx, hb, hml, hown, hts⟩ (k_mempty_9 l D k A a z G_10  ) (cwV 0 hts (gd_V hgd m1100 m1101 m1102 m125 m1103) rfl rfl rfl hd_X4_empty ⟨Nat.le_of_ble_eq_true rfl, Nat.le_of_ble_eq_true rfl⟩) (pre_W hW hB_G_10 hK hZ hS kd_9 rfl) rfl rfl hl.1 rfl (lv_room (Nat.le_of_ble_eq_true rfl)) dX10_followHand_38 ⟨Nat.le_of_ble_eq_true rfl, Nat.le_of_ble_eq_true rfl⟩) hS (fun G_15 H locs hpo hW hS => ?_)
  have hX_18 : P_mempty_9 G_10 G_15 := hpo
  obtain ⟨hB_G_15, hq_16, -⟩ := hpo
  have hF := hF.call9 hq_16 rfl rfl
  refine lv_aload_n hx hb dX10_followHand_41 rfl (lv_at hl 2 rfl) ?_
  refine S_getR (n := 19) (C := RX10) (T := TX10) (N := 5) hx hb hg iX10 hown hK hW kd_8 rfl 2 (lt_b rfl) (hg (Cond.fieldLink RX10 23 "SlabWalk$Trails" "leaps" "LSlabWalk$Minima;") m442) (fun _ h9 => h9) rfl dX10_followHand_42 ?_
  refine S_callv (va_runV (As := []) (rest := []) ⟨hx, hb, hml, hown, hts⟩ (k_mempty_19 l D k A a z G_15  ) (cwV 0 hts (gd_V hgd m1100 m1101 m1102 m125 m1103) rfl rfl rfl hd_X4_empty ⟨Nat.le_of_ble_eq_true rfl, Nat.le_of_ble_eq_true rfl⟩) (pre_W hW hB_G_15 hK hZ hS kd_19 rfl) rfl rfl hl.1 rfl (lv_room (Nat.le_of_ble_eq_true rfl)) dX10_followHand_45 ⟨Nat.le_of_ble_eq_true rfl, Nat.le_of_ble_eq_true rfl⟩) hS (fun G_20 H locs hpo hW hS => ?_)
  have hX_23 : P_mempty_19 G_15 G_20 := hpo
  obtain ⟨hB_G_20, hq_21, -⟩ := hpo
  have hF := hF.call9 hq_21 rfl rfl
  refine ic_0 hx hb dX10_followHand_48 ?_
  refine lv_istore (lv' := [(7, .int 0), (6, .ref (a 45)), (5, .ref (a 44)), (0, .ref (a 8)), (1, .ref (a 7)), (2, .int 0), (3, .int p0), (4, .int p1)]) hx hb dX10_followHand_49 hl (lt_b rfl) rfl (fun ls hl => ?_)
  refine ic_0 hx hb dX10_followHand_51 ?_
  refine lv_iload_n hx hb dX10_followHand_52 rfl (lv_at hl 6 rfl) ?_
  refine va_mmax hx hb (by rw [hml]; exact hl.1.symm) hown (hg (Cond.methodLink RX10 82 Lib.Math.max.name) m1044) (hg (Cond.static Lib.Math.max.name) m728) (hg (Cond.initialized "java/lang/Math") m132) (hg (Cond.code Lib.Math.max.name Lib.Math.max.code 2 (some .int)) m729) (Nat.le_of_ble_eq_true rfl) (Nat.le_of_ble_eq_true rfl) (Nat.le_of_ble_eq_true rfl) (Nat.le_of_ble_eq_true rfl) dX10_followHand_53 ?_
  refine lv_topi (fun y_24 ey_24 => ?_)
  have ty_24 := xI_max (X := 0) (Y := p0.toInt) rfl rfl ey_24
  refine lv_istore (lv' := [(8, .int y_24), (7, .int 0), (6, .ref (a 45)), (5, .ref (a 44)), (0, .ref (a 8)), (1, .ref (a 7)), (2, .int 0), (3, .int p0), (4, .int p1)]) hx hb dX10_followHand_56 hl (lt_b rfl) rfl (fun ls hl => ?_)
  refine ic_0 hx hb dX10_followHand_58 ?_
  refine lv_iload hx hb dX10_followHand_59 (lv_at hl 0 rfl) ?_
  refine lv_aload_n hx hb dX10_followHand_61 rfl (lv_at hl 5 rfl) ?_
  have b_25 : 0 ≤ (G.1 7 4).toInt ∧ (G.1 7 4).toInt ≤ 60 := bd_7_4 hB_G
  refine S_getI (v := (G.1 7 4)) (C := RX0) (T := TX0) (N := 8) hx hb hg iX0 hown hK hW kd_7 rfl 4 (lt_b rfl) (hg (Cond.fieldLink RX10 64 "SlabWalk$Course" "most" "I") m383) (fun _ h9 => h9) rfl ((hq_21.i9 7 4 rfl rfl).trans ((hq_16.i9 7 4 rfl rfl).trans ((hq_11.i9 7 4 rfl rfl).trans (hq_6.i9 7 4 rfl rfl)))) dX10_followHand_62 ?_
  refine lv_isub hx hb dX10_followHand_65 ?_
  refine lv_topi (fun y_26 ey_26 => ?_)
  have ty_26 : y_26.toInt = y_24.toInt - (G.1 7 4).toInt := xI_sub rfl rfl ey_26 ((by first | exact ok_351 ty_24 b_25.2 | omega)) ((by first | exact ok_352 ha_p0.2 ty_24 b_25.1 | omega))
  refine va_mmax hx hb (by rw [hml]; exact hl.1.symm) hown (hg (Cond.methodLink RX10 82 Lib.Math.max.name) m1044) (hg (Cond.static Lib.Math.max.name) m728) (hg (Cond.initialized "java/lang/Math") m132) (hg (Cond.code Lib.Math.max.name Lib.Math.max.code 2 (some .int)) m729) (Nat.le_of_ble_eq_true rfl) (Nat.le_of_ble_eq_true rfl) (Nat.le_of_ble_eq_true rfl) (Nat.le_of_ble_eq_true rfl) dX10_followHand_66 ?_
  refine lv_topi (fun y_27 ey_27 => ?_)
  have ty_27 := xI_max (X := 0) (Y := y_26.toInt) rfl rfl ey_27
  refine lv_istore (lv' := [(9, .int y_27), (8, .int y_24), (7, .int 0), (6, .ref (a 45)), (5, .ref (a 44)), (0, .ref (a 8)), (1, .ref (a 7)), (2, .int 0), (3, .int p0), (4, .int p1)]) hx hb dX10_followHand_69 hl (lt_b rfl) rfl (fun ls hl => ?_)
  refine ic_0 hx hb dX10_followHand_71 ?_
  refine lv_iload hx hb dX10_followHand_72 (lv_at hl 1 rfl) ?_
  refine lv_aload_n hx hb dX10_followHand_74 rfl (lv_at hl 6 rfl) ?_
  have b_28 : 0 ≤ (G.1 7 5).toInt ∧ (G.1 7 5).toInt ≤ 99 := bd_7_5 hB_G
  refine S_getI (v := (G.1 7 5)) (C := RX0) (T := TX0) (N := 8) hx hb hg iX0 hown hK hW kd_7 rfl 5 (lt_b rfl) (hg (Cond.fieldLink RX10 71 "SlabWalk$Course" "leap" "I") m386) (fun _ h9 => h9) rfl ((hq_21.i9 7 5 rfl rfl).trans ((hq_16.i9 7 5 rfl rfl).trans ((hq_11.i9 7 5 rfl rfl).trans (hq_6.i9 7 5 rfl rfl)))) dX10_followHand_75 ?_
  refine lv_isub hx hb dX10_followHand_78 ?_
  refine lv_topi (fun y_29 ey_29 => ?_)
  have ty_29 : y_29.toInt = y_24.toInt - (G.1 7 5).toInt := xI_sub rfl rfl ey_29 ((by first | exact ok_353 ty_24 b_28.2 | omega)) ((by first | exact ok_352 ha_p0.2 ty_24 b_28.1 | omega))
  refine va_mmax hx hb (by rw [hml]; exact hl.1.symm) hown (hg (Cond.methodLink RX10 82 Lib.Math.max.name) m1044) (hg (Cond.static Lib.Math.max.name) m728) (hg (Cond.initialized "java/lang/Math") m132) (hg (Cond.code Lib.Math.max.name Lib.Math.max.code 2 (some .int)) m729) (Nat.le_of_ble_eq_true rfl) (Nat.le_of_ble_eq_true rfl) (Nat.le_of_ble_eq_true rfl) (Nat.le_of_ble_eq_true rfl) dX10_followHand_79 ?_
  refine lv_topi (fun y_30 ey_30 => ?_)
  have ty_30 := xI_max (X := 0) (Y := y_29.toInt) rfl rfl ey_30
  refine lv_istore (lv' := [(10, .int y_30), (9, .int y_27), (8, .int y_24), (7, .int 0), (6, .ref (a 45)), (5, .ref (a 44)), (0, .ref (a 8)), (1, .ref (a 7)), (2, .int 0), (3, .int p0), (4, .int p1)]) hx hb dX10_followHand_82 hl (lt_b rfl) rfl (fun ls hl => ?_)
  refine lv_iload hx hb dX10_followHand_84 (lv_at hl 2 rfl) ?_
  refine lv_istore (lv' := [(11, .int y_24), (10, .int y_30), (9, .int y_27), (8, .int y_24), (7, .int 0), (6, .ref (a 45)), (5, .ref (a 44)), (0, .ref (a 8)), (1, .ref (a 7)), (2, .int 0), (3, .int p0), (4, .int p1)]) hx hb dX10_followHand_86 hl (lt_b rfl) rfl (fun ls hl => ?_)
  have qc_40 : (0 : Int32).toInt = 0 := rfl
  refine loop_N (Inv := fun n H locs ls => ∃ (G_31 : GS) (x_35 : Int32) (x_36 : Int32) (x_37 : Int32) (x_38 : Int32), (n : Int) = 39600 - x_35.toInt ∧ (0 ≤ x_35.toInt ∧ x_35.toInt ≤ 39600) ∧ (0 ≤ x_36.toInt ∧ x_36.toInt ≤ 39600) ∧ (0 ≤ x_37.toInt ∧ x_37.toInt ≤ 39600) ∧ (0 ≤ x_38.toInt ∧ x_38.toInt ≤ 1) ∧ Rc (St_k_tHand_0_1 p1 G) (y_24, y_30, y_27, 0, G_20) (x_35, x_36, x_37, x_38, G_31) ∧ Wd D k A a G_31 H ∧ Bd G_31 ∧ Fr [44, 45, 48, 49, 50, 51] [(9, 2), (9, 3), (19, 2), (19, 3)] G G_31 ∧ Fr [44, 45, 48, 49, 50, 51] [(9, 2), (9, 3), (19, 2), (19, 3)] G_20 G_31 ∧ va_S A s.heap H locs ∧ lv_has ls 12 [(11, .int x_35), (10, .int x_36), (9, .int x_37), (7, .int x_38), (6, .ref (a 45)), (5, .ref (a 44)), (0, .ref (a 8)), (1, .ref (a 7)), (2, .int 0), (4, .int p1)]) (fun n_34 H locs ls ih_33 hI => ?_) (39600 - y_24.toInt : Int).toNat ⟨G_20, y_24, y_30, y_27, 0, (Int.toNat_of_nonneg ((by first | exact ok_354 ha_p0.2 ty_24 | omega))), ⟨(by first | exact ok_182 ty_24 | omega), (by first | exact ok_355 ha_p0.2 ty_24 | omega)⟩, ⟨(by first | exact ok_182 ty_30 | omega), (by first | (clear ha_p0 ha_p1 b_1; omega) | omega)⟩, ⟨(by first | exact ok_182 ty_27 | omega), (by first | (clear ha_p0 ha_p1 b_1; omega) | omega)⟩, ⟨(by decide), (by decide)⟩, Rc.rf, hW, hB_G_20, hF, Fr.rf, hS, lv_sub hl [0, 1, 2, 4, 5, 6, 7, 8, 9, 11] rfl⟩
  obtain ⟨G_31, x_35, x_36, x_37, x_38, hn_45, f_41, f_42, f_43, f_44, hX_39, hW, hB_G_31, hF, hq_32, hS, hl⟩ := hI
  refine lv_iload hx hb dX10_followHand_88 (lv_at hl 0 rfl) ?_
  refine lv_iload hx hb dX10_followHand_90 (lv_at hl 9 rfl) ?_
  refine lv_aload_n hx hb dX10_followHand_92 rfl (lv_at hl 7 rfl) ?_
  refine S_getI (v := (G.1 7 6)) (C := RX0) (T := TX0) (N := 8) hx hb hg iX0 hown hK hW kd_7 rfl 6 (lt_b rfl) (hg (Cond.fieldLink RX10 34 "SlabWalk$Course" "last" "I") m388) (fun _ h9 => h9) rfl ((hq_32.i9 7 6 rfl rfl).trans ((hq_21.i9 7 6 rfl rfl).trans ((hq_16.i9 7 6 rfl rfl).trans ((hq_11.i9 7 6 rfl rfl).trans ((hq_6.i9 7 6 rfl rfl).trans (rfl)))))) dX10_followHand_93 ?_
  refine va_mmin hx hb (by rw [hml]; exact hl.1.symm) hown (hg (Cond.methodLink RX10 49 Lib.Math.min.name) m1001) (hg (Cond.static Lib.Math.min.name) m636) (hg (Cond.initialized "java/lang/Math") m132) (hg (Cond.code Lib.Math.min.name Lib.Math.min.code 2 (some .int)) m637) (Nat.le_of_ble_eq_true rfl) (Nat.le_of_ble_eq_true rfl) (Nat.le_of_ble_eq_true rfl) (Nat.le_of_ble_eq_true rfl) dX10_followHand_96 ?_
  refine lv_topi (fun y_46 ey_46 => ?_)
  have ty_46 := xI_min (X := p1.toInt) (Y := (G.1 7 6).toInt) rfl rfl ey_46
  refine lv_icmp_gt (tgt := 299) hx hb dX10_followHand_99 rfl (fun c_47 => ?_) (fun c_47 => ?_)
  · have c_47 : y_46.toInt < x_35.toInt := xI_lt rfl rfl c_47
    refine lv_iload hx hb dX10_followHand_299 (lv_at hl 3 rfl) ?_
    exact W.zret (v := x_38) hx hb hr (nar_z ((by first | exact f_44.1 | omega)) ((by first | exact f_44.2 | omega))) (fun t ht _ => ⟨⟨x_38, G_31, rfl, (P_tHand_0_mk ⟨hB_G_31, hF, ⟨(by first | exact f_44.1 | omega), (by first | exact f_44.2 | omega)⟩, ⟨G_5, hX_8, ⟨G_10, hX_13, ⟨G_15, hX_18, ⟨G_20, hX_23, ⟨y_24, ty_24, ⟨y_26, ty_26, ⟨y_27, ty_27, ⟨y_29, ty_29, ⟨y_30, ty_30, ⟨x_35, x_36, x_37, x_38, G_31, hX_39, f_41, f_42, f_43, f_44, hB_G_31, hq_32, ⟨y_46, ty_46, ⟨c_47, ⟨rfl, rfl⟩⟩⟩⟩⟩⟩⟩⟩⟩⟩⟩⟩⟩⟩), wd_t ht hW⟩, hS.F ht⟩) hS.2.2 dX10_followHand_301
  · have c_47 : x_35.toInt ≤ y_46.toInt := xI_nlt rfl rfl c_47
    refine loop_N (Inv := fun n H locs ls => ∃ (G_48 : GS) (x_52 : Int32), (n : Int) = 39600 - x_52.toInt ∧ (0 ≤ x_52.toInt ∧ x_52.toInt ≤ 39600) ∧ Rc (St_k_tHand_0_2 x_35 G) (x_37, G_31) (x_52, G_48) ∧ Wd D k A a G_48 H ∧ Bd G_48 ∧ Fr [44, 45, 48, 49, 50, 51] [(9, 2), (9, 3), (19, 2), (19, 3)] G G_48 ∧ Fr [48, 49] [(9, 3)] G_31 G_48 ∧ va_S A s.heap H locs ∧ lv_has ls 12 [(11, .int x_35), (10, .int x_36), (9, .int x_52), (7, .int x_38), (6, .ref (a 45)), (5, .ref (a 44)), (0, .ref (a 8)), (1, .ref (a 7)), (2, .int 0), (4, .int p1)]) (fun n_51 H locs ls ih_50 hI => ?_) (39600 - x_37.toInt : Int).toNat ⟨G_31, x_37, (Int.toNat_of_nonneg ((by first | exact ok_356 f_43.2 | omega))), ⟨(by first | exact f_43.1 | omega), (by first | exact f_43.2 | omega)⟩, Rc.rf, hW, hB_G_31, hF, Fr.rf, hS, lv_sub hl [0, 1, 2, 3, 4, 5, 6, 7, 8, 9] rfl⟩
    obtain ⟨G_48, x_52, hn_55, f_54, hX_53, hW, hB_G_48, hF, hq_49, hS, hl⟩ := hI
    refine lv_iload hx hb dX10_followHand_102 (lv_at hl 2 rfl) ?_
    refine lv_iload hx hb dX10_followHand_104 (lv_at hl 0 rfl) ?_
    refine lv_aload_n hx hb dX10_followHand_106 rfl (lv_at hl 7 rfl) ?_
    have b_56 : 0 ≤ (G.1 7 3).toInt ∧ (G.1 7 3).toInt ≤ 60 := bd_7_3 hB_G
    refine S_getI (v := (G.1 7 3)) (C := RX0) (T := TX0) (N := 8) hx hb hg iX0 hown hK hW kd_7 rfl 3 (lt_b rfl) (hg (Cond.fieldLink RX10 61 "SlabWalk$Course" "least" "I") m378) (fun _ h9 => h9) rfl ((hq_49.i9 7 3 rfl rfl).trans ((hq_32.i9 7 3 rfl rfl).trans ((hq_21.i9 7 3 rfl rfl).trans ((hq_16.i9 7 3 rfl rfl).trans ((hq_11.i9 7 3 rfl rfl).trans (hq_6.i9 7 3 rfl rfl)))))) dX10_followHand_107 ?_
    refine lv_isub hx hb dX10_followHand_110 ?_
    refine lv_topi (fun y_57 ey_57 => ?_)
    have ty_57 : y_57.toInt = x_35.toInt - (G.1 7 3).toInt := xI_sub rfl rfl ey_57 ((by first | exact ok_226 f_41.1 b_56.2 | omega)) ((by first | exact ok_357 f_41.2 b_56.1 | omega))
    refine W.cut (σ := Unit) (pcJ := 161) (J := fun y H locs ls => ∃ (G_68 : GS), Jn_k_tHand_0_3 x_52 y_57 G G_48 G_68 ∧ Wd D k A a G_68 H ∧ Bd G_68 ∧ Fr [44, 45, 48, 49, 50, 51] [(9, 2), (9, 3), (19, 2), (19, 3)] G G_68 ∧ Fr [] [] G_48 G_68 ∧ va_S A s.heap H locs ∧ lv_has ls 12 [(11, .int x_35), (10, .int x_36), (9, .int x_52), (7, .int x_38), (6, .ref (a 45)), (5, .ref (a 44)), (0, .ref (a 8)), (1, .ref (a 7)), (2, .int 0), (4, .int p1)]) (stJ := fun _ => []) ?_ (fun hJ_69 => ?_)
    · intro y H locs ls hI
      obtain ⟨G_68, hX_71, hW, hB_G_68, hF, hq_70, hS, hl⟩ := hI
      refine loop_N (Inv := fun n H locs ls => ∃ (G_72 : GS) (x_76 : Int32), (n : Int) = 39600 - x_76.toInt ∧ (0 ≤ x_76.toInt ∧ x_76.toInt ≤ 39600) ∧ Rc (St_k_tHand_0_4 x_35 G) (x_36, G_68) (x_76, G_72) ∧ Wd D k A a G_72 H ∧ Bd G_72 ∧ Fr [44, 45, 48, 49, 50, 51] [(9, 2), (9, 3), (19, 2), (19, 3)] G G_72 ∧ Fr [50, 51] [(19, 3)] G_68 G_72 ∧ va_S A s.heap H locs ∧ lv_has ls 12 [(11, .int x_35), (10, .int x_76), (9, .int x_52), (7, .int x_38), (6, .ref (a 45)), (5, .ref (a 44)), (0, .ref (a 8)), (1, .ref (a 7)), (2, .int 0), (4, .int p1)]) (fun n_75 H locs ls ih_74 hI => ?_) (39600 - x_36.toInt : Int).toNat ⟨G_68, x_36, (Int.toNat_of_nonneg ((by first | exact ok_356 f_42.2 | omega))), ⟨(by first | exact f_42.1 | omega), (by first | exact f_42.2 | omega)⟩, Rc.rf, hW, hB_G_68, hF, Fr.rf, hS, lv_sub hl [0, 1, 2, 3, 4, 5, 6, 7, 8, 9] rfl⟩
      obtain ⟨G_72, x_76, hn_79, f_78, hX_77, hW, hB_G_72, hF, hq_73, hS, hl⟩ := hI
      refine lv_iload hx hb dX10_followHand_161 (lv_at hl 1 rfl) ?_
      refine lv_iload hx hb dX10_followHand_163 (lv_at hl 0 rfl) ?_
      refine lv_aload_n hx hb dX10_followHand_165 rfl (lv_at hl 7 rfl) ?_
      refine S_getI (v := (G.1 7 4)) (C := RX0) (T := TX0) (N := 8) hx hb hg iX0 hown hK hW kd_7 rfl 4 (lt_b rfl) (hg (Cond.fieldLink RX10 64 "SlabWalk$Course" "most" "I") m383) (fun _ h9 => h9) rfl ((hq_73.i9 7 4 rfl rfl).trans ((hq_70.i9 7 4 rfl rfl).trans ((hq_49.i9 7 4 rfl rfl).trans ((hq_32.i9 7 4 rfl rfl).trans ((hq_21.i9 7 4 rfl rfl).trans ((hq_16.i9 7 4 rfl rfl).trans ((hq_11.i9 7 4 rfl rfl).trans ((hq_6.i9 7 4 rfl rfl).trans (rfl))))))))) dX10_followHand_166 ?_
      refine lv_isub hx hb dX10_followHand_169 ?_
      refine lv_topi (fun y_80 ey_80 => ?_)
      have ty_80 : y_80.toInt = x_35.toInt - (G.1 7 4).toInt := xI_sub rfl rfl ey_80 ((by first | exact ok_358 b_25.2 f_41.1 | omega)) ((by first | exact ok_359 b_25.1 f_41.2 | omega))
      refine W.cut (σ := Unit) (pcJ := 213) (J := fun y H locs ls => ∃ (G_91 : GS), Jn_k_tHand_0_5 x_76 y_80 G G_72 G_91 ∧ Wd D k A a G_91 H ∧ Bd G_91 ∧ Fr [44, 45, 48, 49, 50, 51] [(9, 2), (9, 3), (19, 2), (19, 3)] G G_91 ∧ Fr [] [] G_72 G_91 ∧ va_S A s.heap H locs ∧ lv_has ls 12 [(11, .int x_35), (10, .int x_76), (9, .int x_52), (7, .int x_38), (6, .ref (a 45)), (5, .ref (a 44)), (0, .ref (a 8)), (1, .ref (a 7)), (2, .int 0), (4, .int p1)]) (stJ := fun _ => []) ?_ (fun hJ_92 => ?_)
      · intro y H locs ls hI
        obtain ⟨G_91, hX_94, hW, hB_G_91, hF, hq_93, hS, hl⟩ := hI
        refine lv_aload_n hx hb dX10_followHand_213 rfl (lv_at hl 7 rfl) ?_
        refine S_getR (n := 40) (C := RX0) (T := TX0) (N := 8) hx hb hg iX0 hown hK hW kd_7 rfl 0 (lt_b rfl) (hg (Cond.fieldLink RX10 55 "SlabWalk$Course" "lawful" "[Z") m373) (fun _ h9 => h9) rfl dX10_followHand_214 ?_
        refine lv_iload hx hb dX10_followHand_217 (lv_at hl 0 rfl) ?_
        refine S_zald hx hb hK hW kd_40 (vin ((by first | exact f_41.1 | omega)) ((by first | (clear ha_p1 hn_45 f_42 f_43 f_44 hn_55 f_54 hn_79 f_78; omega) | omega))) dX10_followHand_219 (fun y_95 ey_95 => ?_)
        have ty_95 : 0 ≤ y_95.toInt ∧ y_95.toInt ≤ 1 := bv_40 hB_G_91 ey_95
        refine lv_if_eq (tgt := 293) hx hb dX10_followHand_220 rfl (fun c_96 => ?_) (fun c_96 => ?_)
        · have c_96 : y_95.toInt = 0 := xI_eq rfl rfl c_96
          obtain ⟨y_97, ey_97⟩ : ∃ q, q = x_35 + 1 := ⟨_, rfl⟩
          have ty_97 : y_97.toInt = x_35.toInt + 1 := xI_add rfl rfl ey_97 ((by first | exact ok_21 f_41.1 | omega)) ((by first | exact ok_360 f_41.2 | omega))
          refine lv_iinc (v := y_97) (lv' := [(11, .int y_97), (10, .int x_76), (9, .int x_52), (7, .int x_38), (6, .ref (a 45)), (5, .ref (a 44)), (0, .ref (a 8)), (1, .ref (a 7)), (2, .int 0), (4, .int p1)]) hx hb dX10_followHand_293 hl (k := 0) rfl (by rw [ey_97]; rfl) (lt_b rfl) rfl (fun ls hl => ?_)
          refine lv_goto (tgt := 88) hx hb dX10_followHand_296 rfl ?_
          exact ih_33 (39600 - y_97.toInt : Int).toNat ((by first | (clear ha_p1 f_42 f_43 f_44 hn_55 f_54 hn_79 f_78 ty_95 c_96; omega) | omega)) _ _ _ ⟨G_91, y_97, x_76, x_52, x_38, (Int.toNat_of_nonneg ((by first | (clear ha_p1 hn_45 f_42 f_43 f_44 hn_55 f_54 hn_79 f_78 ty_95 c_96; omega) | omega))), ⟨(by first | exact ok_23 f_41.1 ty_97 | omega), (by first | (clear ha_p1 hn_45 f_42 f_43 f_44 hn_55 f_54 hn_79 f_78 ty_95 c_96; omega) | omega)⟩, ⟨(by first | exact f_78.1 | omega), (by first | exact f_78.2 | omega)⟩, ⟨(by first | exact f_54.1 | omega), (by first | exact f_54.2 | omega)⟩, ⟨(by first | exact f_44.1 | omega), (by first | exact f_44.2 | omega)⟩, (hX_39.st (St_k_tHand_0_1_mk ⟨x_35, x_36, x_37, x_38, G_31, y_97, x_76, x_52, x_38, G_91, rfl, rfl, f_41, f_42, f_43, f_44, hB_G_31, ⟨y_46, ty_46, ⟨c_47, ⟨x_52, G_48, hX_53, f_54, hB_G_48, hq_49, ⟨y_57, ty_57, ⟨G_68, hX_71, hB_G_68, hq_70, ⟨x_76, G_72, hX_77, f_78, hB_G_72, hq_73, ⟨y_80, ty_80, ⟨G_91, hX_94, hB_G_91, hq_93, ⟨y_95, ey_95, (Or.inl ⟨c_96, ⟨y_97, ty_97, ⟨rfl, rfl, rfl, rfl, rfl⟩⟩⟩)⟩⟩⟩⟩⟩⟩⟩⟩⟩⟩)), hW, hB_G_91, hF, (Fr.call9 (rs := [44, 45, 48, 49, 50, 51]) (fs := [(9, 2), (9, 3), (19, 2), (19, 3)]) (Fr.call9 (rs := [44, 45, 48, 49, 50, 51]) (fs := [(9, 2), (9, 3), (19, 2), (19, 3)]) (Fr.call9 (rs := [44, 45, 48, 49, 50, 51]) (fs := [(9, 2), (9, 3), (19, 2), (19, 3)]) (Fr.call9 (rs := [44, 45, 48, 49, 50, 51]) (fs := [(9, 2), (9, 3), (19, 2), (19, 3)]) (Fr.call9 (rs := [44, 45, 48, 49, 50, 51]) (fs := [(9, 2), (9, 3), (19, 2), (19, 3)]) Fr.rf hq_32 rfl rfl) hq_49 rfl rfl) hq_70 rfl rfl) hq_73 rfl rfl) hq_93 rfl rfl), hS, lv_sub hl [0, 1, 2, 3, 4, 5, 6, 7, 8, 9] rfl⟩
        · have c_96 : y_95.toInt ≠ 0 := xI_ne rfl rfl c_96
          refine lv_aload hx hb dX10_followHand_223 (lv_at hl 5 rfl) ?_
          refine lv_iload hx hb dX10_followHand_225 (lv_at hl 0 rfl) ?_
          refine lv_aload_n hx hb dX10_followHand_227 rfl (lv_at hl 6 rfl) ?_
          refine S_getR (n := 9) (C := RX10) (T := TX10) (N := 5) hx hb hg iX10 hown hK hW kd_8 rfl 1 (lt_b rfl) (hg (Cond.fieldLink RX10 19 "SlabWalk$Trails" "steps" "LSlabWalk$Minima;") m441) (fun _ h9 => h9) rfl dX10_followHand_228 ?_
          refine lv_iload hx hb dX10_followHand_231 (lv_at hl 0 rfl) ?_
          refine lv_aload_n hx hb dX10_followHand_233 rfl (lv_at hl 7 rfl) ?_
          refine S_getI (v := (G.1 7 4)) (C := RX0) (T := TX0) (N := 8) hx hb hg iX0 hown hK hW kd_7 rfl 4 (lt_b rfl) (hg (Cond.fieldLink RX10 64 "SlabWalk$Course" "most" "I") m383) (fun _ h9 => h9) rfl ((hq_93.i9 7 4 rfl rfl).trans ((hq_73.i9 7 4 rfl rfl).trans ((hq_70.i9 7 4 rfl rfl).trans ((hq_49.i9 7 4 rfl rfl).trans ((hq_32.i9 7 4 rfl rfl).trans ((hq_21.i9 7 4 rfl rfl).trans ((hq_16.i9 7 4 rfl rfl).trans ((hq_11.i9 7 4 rfl rfl).trans ((hq_6.i9 7 4 rfl rfl).trans (rfl)))))))))) dX10_followHand_234 ?_
          refine lv_isub hx hb dX10_followHand_237 ?_
          refine lv_topi (fun y_98 ey_98 => ?_)
          have ty_98 : y_98.toInt = x_35.toInt - (G.1 7 4).toInt := xI_sub rfl rfl ey_98 ((by first | exact ok_358 b_25.2 f_41.1 | omega)) ((by first | exact ok_359 b_25.1 f_41.2 | omega))
          refine S_calli (va_runV (As := [.int y_98]) (rest := [.int x_35, .ref (a 44)]) ⟨hx, hb, hml, hown, hts⟩ (k_mleast_9 l D k A a z G_91 y_98 ) (cwV 1 hts (gd_V hgd m1108 m1109 m1110 m125 m1111) rfl rfl rfl hd_X4_leastFrom ⟨Nat.le_of_ble_eq_true rfl, Nat.le_of_ble_eq_true rfl⟩) (pre_W hW hB_G_91 hK hZ hS kd_9 rfl) rfl rfl hl.1 rfl (lv_room (Nat.le_of_ble_eq_true rfl)) dX10_followHand_238 ⟨Nat.le_of_ble_eq_true rfl, Nat.le_of_ble_eq_true rfl⟩) hS (fun r_99 G_100 H locs hpo hW hS => ?_)
          have hX_103 : P_mleast_9 y_98 G_91 r_99 G_100 := hpo
          obtain ⟨hB_G_100, hq_101, -⟩ := hpo
          have hF := hF.call9 hq_101 rfl rfl
          refine S_iast hx hb hK hW hS kd_44 (vin ((by first | exact f_41.1 | omega)) ((by first | exact ok_361 hci.1 f_41.2 ty_46 c_47 | omega))) dX10_followHand_241 (fun G_104 H locs eG_104 hW hS => ?_)
          have hB_G_104 : Bd G_104 := hB_G_100.put (lo := (-2147483648)) (hi := 2147483647) eG_104 rfl rfl rfl (tI_rng _).1 (tI_rng _).2 (hB_G_100.2.put eG_104 rfl)
          have hF := hF.put eG_104 (Or.inl (by decide))
          refine lv_aload hx hb dX10_followHand_242 (lv_at hl 4 rfl) ?_
          refine lv_iload hx hb dX10_followHand_244 (lv_at hl 0 rfl) ?_
          refine lv_aload_n hx hb dX10_followHand_246 rfl (lv_at hl 6 rfl) ?_
          refine S_getR (n := 19) (C := RX10) (T := TX10) (N := 5) hx hb hg iX10 hown hK hW kd_8 rfl 2 (lt_b rfl) (hg (Cond.fieldLink RX10 23 "SlabWalk$Trails" "leaps" "LSlabWalk$Minima;") m442) (fun _ h9 => h9) rfl dX10_followHand_247 ?_
          refine lv_iload hx hb dX10_followHand_250 (lv_at hl 0 rfl) ?_
          refine lv_aload_n hx hb dX10_followHand_252 rfl (lv_at hl 7 rfl) ?_
          refine S_getI (v := (G.1 7 5)) (C := RX0) (T := TX0) (N := 8) hx hb hg iX0 hown hK hW kd_7 rfl 5 (lt_b rfl) (hg (Cond.fieldLink RX10 71 "SlabWalk$Course" "leap" "I") m386) (fun _ h9 => h9) rfl ((gp_ne eG_104 (fun q => absurd q.1 (Nat.ne_of_beq_eq_false rfl))).trans ((hq_101.i9 7 5 rfl rfl).trans ((hq_93.i9 7 5 rfl rfl).trans ((hq_73.i9 7 5 rfl rfl).trans ((hq_70.i9 7 5 rfl rfl).trans ((hq_49.i9 7 5 rfl rfl).trans ((hq_32.i9 7 5 rfl rfl).trans ((hq_21.i9 7 5 rfl rfl).trans ((hq_16.i9 7 5 rfl rfl).trans ((hq_11.i9 7 5 rfl rfl).trans ((hq_6.i9 7 5 rfl rfl).trans (rfl)))))))))))) dX10_followHand_253 ?_
          refine lv_isub hx hb dX10_followHand_256 ?_
          refine lv_topi (fun y_105 ey_105 => ?_)
          have ty_105 : y_105.toInt = x_35.toInt - (G.1 7 5).toInt := xI_sub rfl rfl ey_105 ((by first | exact ok_362 b_28.2 f_41.1 | omega)) ((by first | exact ok_359 b_28.1 f_41.2 | omega))
          refine S_calli (va_runV (As := [.int y_105]) (rest := [.int x_35, .ref (a 45)]) ⟨hx, hb, hml, hown, hts⟩ (k_mleast_19 l D k A a z G_104 y_105 ) (cwV 1 hts (gd_V hgd m1108 m1109 m1110 m125 m1111) rfl rfl rfl hd_X4_leastFrom ⟨Nat.le_of_ble_eq_true rfl, Nat.le_of_ble_eq_true rfl⟩) (pre_W hW hB_G_104 hK hZ hS kd_19 rfl) rfl rfl hl.1 rfl (lv_room (Nat.le_of_ble_eq_true rfl)) dX10_followHand_257 ⟨Nat.le_of_ble_eq_true rfl, Nat.le_of_ble_eq_true rfl⟩) hS (fun r_106 G_107 H locs hpo hW hS => ?_)
          have hX_110 : P_mleast_19 y_105 G_104 r_106 G_107 := hpo
          obtain ⟨hB_G_107, hq_108, -⟩ := hpo
          have hF := hF.call9 hq_108 rfl rfl
          refine S_iast hx hb hK hW hS kd_45 (vin ((by first | exact f_41.1 | omega)) ((by first | exact ok_361 hci.1 f_41.2 ty_46 c_47 | omega))) dX10_followHand_260 (fun G_111 H locs eG_111 hW hS => ?_)
          have hB_G_111 : Bd G_111 := hB_G_107.put (lo := (-2147483648)) (hi := 2147483647) eG_111 rfl rfl rfl (tI_rng _).1 (tI_rng _).2 (hB_G_107.2.put eG_111 rfl)
          have hF := hF.put eG_111 (Or.inl (by decide))
          refine lv_iload hx hb dX10_followHand_261 (lv_at hl 3 rfl) ?_
          refine lv_if_ne (tgt := 286) hx hb dX10_followHand_263 rfl (fun c_112 => ?_) (fun c_112 => ?_)
          · have c_112 : x_38.toInt ≠ 0 := xI_ne rfl rfl c_112
            refine ic_1 hx hb dX10_followHand_286 ?_
            refine lv_goto (tgt := 291) hx hb dX10_followHand_287 rfl ?_
            refine lv_istore (lv' := [(7, .int 1), (11, .int x_35), (10, .int x_76), (9, .int x_52), (6, .ref (a 45)), (5, .ref (a 44)), (0, .ref (a 8)), (1, .ref (a 7)), (2, .int 0), (4, .int p1)]) hx hb dX10_followHand_291 hl (lt_b rfl) rfl (fun ls hl => ?_)
            obtain ⟨y_113, ey_113⟩ : ∃ q, q = x_35 + 1 := ⟨_, rfl⟩
            have ty_113 : y_113.toInt = x_35.toInt + 1 := xI_add rfl rfl ey_113 ((by first | exact ok_21 f_41.1 | omega)) ((by first | exact ok_360 f_41.2 | omega))
            refine lv_iinc (v := y_113) (lv' := [(11, .int y_113), (7, .int 1), (10, .int x_76), (9, .int x_52), (6, .ref (a 45)), (5, .ref (a 44)), (0, .ref (a 8)), (1, .ref (a 7)), (2, .int 0), (4, .int p1)]) hx hb dX10_followHand_293 hl (k := 1) rfl (by rw [ey_113]; rfl) (lt_b rfl) rfl (fun ls hl => ?_)
            refine lv_goto (tgt := 88) hx hb dX10_followHand_296 rfl ?_
            have qc_114 : (1 : Int32).toInt = 1 := rfl
            exact ih_33 (39600 - y_113.toInt : Int).toNat ((by first | (clear ha_p1 f_42 f_43 f_44 hn_55 f_54 hn_79 f_78 ty_95 c_96 c_112; omega) | omega)) _ _ _ ⟨G_111, y_113, x_76, x_52, 1, (Int.toNat_of_nonneg ((by first | (clear ha_p1 hn_45 f_42 f_43 f_44 hn_55 f_54 hn_79 f_78 ty_95 c_96 c_112; omega) | omega))), ⟨(by first | exact ok_23 f_41.1 ty_113 | omega), (by first | (clear ha_p1 hn_45 f_42 f_43 f_44 hn_55 f_54 hn_79 f_78 ty_95 c_96 c_112; omega) | omega)⟩, ⟨(by first | exact f_78.1 | omega), (by first | exact f_78.2 | omega)⟩, ⟨(by first | exact f_54.1 | omega), (by first | exact f_54.2 | omega)⟩, ⟨(by decide), (by decide)⟩, (hX_39.st (St_k_tHand_0_1_mk ⟨x_35, x_36, x_37, x_38, G_31, y_113, x_76, x_52, 1, G_111, rfl, rfl, f_41, f_42, f_43, f_44, hB_G_31, ⟨y_46, ty_46, ⟨c_47, ⟨x_52, G_48, hX_53, f_54, hB_G_48, hq_49, ⟨y_57, ty_57, ⟨G_68, hX_71, hB_G_68, hq_70, ⟨x_76, G_72, hX_77, f_78, hB_G_72, hq_73, ⟨y_80, ty_80, ⟨G_91, hX_94, hB_G_91, hq_93, ⟨y_95, ey_95, (Or.inr ⟨c_96, ⟨y_98, ty_98, ⟨r_99, G_100, hX_103, ⟨y_105, ty_105, ⟨G_104, hB_G_104, (Fr.put (rs := [44]) (fs := []) Fr.rf eG_104 (Or.inl (by decide))), rw_ast eG_104, ⟨r_106, G_107, hX_110, (Or.inr ⟨c_112, ⟨y_113, ty_113, ⟨rfl, rfl, rfl, rfl, (Fr.put (rs := [45]) (fs := []) Fr.rf eG_111 (Or.inl (by decide))), rw_ast eG_111⟩⟩⟩)⟩⟩⟩⟩⟩⟩)⟩⟩⟩⟩⟩⟩⟩⟩⟩⟩)), hW, hB_G_111, hF, (Fr.put (rs := [44, 45, 48, 49, 50, 51]) (fs := [(9, 2), (9, 3), (19, 2), (19, 3)]) (Fr.call9 (rs := [44, 45, 48, 49, 50, 51]) (fs := [(9, 2), (9, 3), (19, 2), (19, 3)]) (Fr.put (rs := [44, 45, 48, 49, 50, 51]) (fs := [(9, 2), (9, 3), (19, 2), (19, 3)]) (Fr.call9 (rs := [44, 45, 48, 49, 50, 51]) (fs := [(9, 2), (9, 3), (19, 2), (19, 3)]) (Fr.call9 (rs := [44, 45, 48, 49, 50, 51]) (fs := [(9, 2), (9, 3), (19, 2), (19, 3)]) (Fr.call9 (rs := [44, 45, 48, 49, 50, 51]) (fs := [(9, 2), (9, 3), (19, 2), (19, 3)]) (Fr.call9 (rs := [44, 45, 48, 49, 50, 51]) (fs := [(9, 2), (9, 3), (19, 2), (19, 3)]) (Fr.call9 (rs := [44, 45, 48, 49, 50, 51]) (fs := [(9, 2), (9, 3), (19, 2), (19, 3)]) (Fr.call9 (rs := [44, 45, 48, 49, 50, 51]) (fs := [(9, 2), (9, 3), (19, 2), (19, 3)]) Fr.rf hq_32 rfl rfl) hq_49 rfl rfl) hq_70 rfl rfl) hq_73 rfl rfl) hq_93 rfl rfl) hq_101 rfl rfl) eG_104 (Or.inl (by decide))) hq_108 rfl rfl) eG_111 (Or.inl (by decide))), hS, lv_sub hl [0, 2, 3, 1, 4, 5, 6, 7, 8, 9] rfl⟩
          · have c_112 : x_38.toInt = 0 := xI_eq rfl rfl c_112
            refine lv_aload hx hb dX10_followHand_266 (lv_at hl 5 rfl) ?_
            refine lv_iload hx hb dX10_followHand_268 (lv_at hl 0 rfl) ?_
            refine S_iald hx hb hK hW kd_44 (vin ((by first | exact f_41.1 | omega)) ((by first | exact ok_361 hci.1 f_41.2 ty_46 c_47 | omega))) dX10_followHand_270 (fun y_115 ey_115 => ?_)
            refine lv_ldc (v := 1000000) hx hb hown (hg (Cond.constant RX10 44 1000000) m997) dX10_followHand_271 ?_
            refine lv_icmp_lt (tgt := 286) hx hb dX10_followHand_273 rfl (fun c_116 => ?_) (fun c_116 => ?_)
            · have c_116 : y_115.toInt < 1000000 := xI_lt rfl rfl c_116
              refine ic_1 hx hb dX10_followHand_286 ?_
              refine lv_goto (tgt := 291) hx hb dX10_followHand_287 rfl ?_
              refine lv_istore (lv' := [(7, .int 1), (11, .int x_35), (10, .int x_76), (9, .int x_52), (6, .ref (a 45)), (5, .ref (a 44)), (0, .ref (a 8)), (1, .ref (a 7)), (2, .int 0), (4, .int p1)]) hx hb dX10_followHand_291 hl (lt_b rfl) rfl (fun ls hl => ?_)
              obtain ⟨y_117, ey_117⟩ : ∃ q, q = x_35 + 1 := ⟨_, rfl⟩
              have ty_117 : y_117.toInt = x_35.toInt + 1 := xI_add rfl rfl ey_117 ((by first | exact ok_21 f_41.1 | omega)) ((by first | exact ok_360 f_41.2 | omega))
              refine lv_iinc (v := y_117) (lv' := [(11, .int y_117), (7, .int 1), (10, .int x_76), (9, .int x_52), (6, .ref (a 45)), (5, .ref (a 44)), (0, .ref (a 8)), (1, .ref (a 7)), (2, .int 0), (4, .int p1)]) hx hb dX10_followHand_293 hl (k := 1) rfl (by rw [ey_117]; rfl) (lt_b rfl) rfl (fun ls hl => ?_)
              refine lv_goto (tgt := 88) hx hb dX10_followHand_296 rfl ?_
              have qc_118 : (1 : Int32).toInt = 1 := rfl
              exact ih_33 (39600 - y_117.toInt : Int).toNat ((by first | (clear ha_p1 f_42 f_43 f_44 hn_55 f_54 hn_79 f_78 ty_95 c_96 c_112 c_116; omega) | omega)) _ _ _ ⟨G_111, y_117, x_76, x_52, 1, (Int.toNat_of_nonneg ((by first | (clear ha_p1 hn_45 f_42 f_43 f_44 hn_55 f_54 hn_79 f_78 ty_95 c_96 c_112 c_116; omega) | omega))), ⟨(by first | exact ok_23 f_41.1 ty_117 | omega), (by first | (clear ha_p1 hn_45 f_42 f_43 f_44 hn_55 f_54 hn_79 f_78 ty_95 c_96 c_112 c_116; omega) | omega)⟩, ⟨(by first | exact f_78.1 | omega), (by first | exact f_78.2 | omega)⟩, ⟨(by first | exact f_54.1 | omega), (by first | exact f_54.2 | omega)⟩, ⟨(by decide), (by decide)⟩, (hX_39.st (St_k_tHand_0_1_mk ⟨x_35, x_36, x_37, x_38, G_31, y_117, x_76, x_52, 1, G_111, rfl, rfl, f_41, f_42, f_43, f_44, hB_G_31, ⟨y_46, ty_46, ⟨c_47, ⟨x_52, G_48, hX_53, f_54, hB_G_48, hq_49, ⟨y_57, ty_57, ⟨G_68, hX_71, hB_G_68, hq_70, ⟨x_76, G_72, hX_77, f_78, hB_G_72, hq_73, ⟨y_80, ty_80, ⟨G_91, hX_94, hB_G_91, hq_93, ⟨y_95, ey_95, (Or.inr ⟨c_96, ⟨y_98, ty_98, ⟨r_99, G_100, hX_103, ⟨y_105, ty_105, ⟨G_104, hB_G_104, (Fr.put (rs := [44]) (fs := []) Fr.rf eG_104 (Or.inl (by decide))), rw_ast eG_104, ⟨r_106, G_107, hX_110, (Or.inl ⟨c_112, ⟨y_115, ey_115.trans (congrFun (rw_put eG_111 (by decide)) _), (Or.inl ⟨c_116, ⟨y_117, ty_117, ⟨rfl, rfl, rfl, rfl, (Fr.put (rs := [45]) (fs := []) Fr.rf eG_111 (Or.inl (by decide))), rw_ast eG_111⟩⟩⟩)⟩⟩)⟩⟩⟩⟩⟩⟩)⟩⟩⟩⟩⟩⟩⟩⟩⟩⟩)), hW, hB_G_111, hF, (Fr.put (rs := [44, 45, 48, 49, 50, 51]) (fs := [(9, 2), (9, 3), (19, 2), (19, 3)]) (Fr.call9 (rs := [44, 45, 48, 49, 50, 51]) (fs := [(9, 2), (9, 3), (19, 2), (19, 3)]) (Fr.put (rs := [44, 45, 48, 49, 50, 51]) (fs := [(9, 2), (9, 3), (19, 2), (19, 3)]) (Fr.call9 (rs := [44, 45, 48, 49, 50, 51]) (fs := [(9, 2), (9, 3), (19, 2), (19, 3)]) (Fr.call9 (rs := [44, 45, 48, 49, 50, 51]) (fs := [(9, 2), (9, 3), (19, 2), (19, 3)]) (Fr.call9 (rs := [44, 45, 48, 49, 50, 51]) (fs := [(9, 2), (9, 3), (19, 2), (19, 3)]) (Fr.call9 (rs := [44, 45, 48, 49, 50, 51]) (fs := [(9, 2), (9, 3), (19, 2), (19, 3)]) (Fr.call9 (rs := [44, 45, 48, 49, 50, 51]) (fs := [(9, 2), (9, 3), (19, 2), (19, 3)]) (Fr.call9 (rs := [44, 45, 48, 49, 50, 51]) (fs := [(9, 2), (9, 3), (19, 2), (19, 3)]) Fr.rf hq_32 rfl rfl) hq_49 rfl rfl) hq_70 rfl rfl) hq_73 rfl rfl) hq_93 rfl rfl) hq_101 rfl rfl) eG_104 (Or.inl (by decide))) hq_108 rfl rfl) eG_111 (Or.inl (by decide))), hS, lv_sub hl [0, 2, 3, 1, 4, 5, 6, 7, 8, 9] rfl⟩
            · have c_116 : 1000000 ≤ y_115.toInt := xI_nlt rfl rfl c_116
              refine lv_aload hx hb dX10_followHand_276 (lv_at hl 4 rfl) ?_
              refine lv_iload hx hb dX10_followHand_278 (lv_at hl 0 rfl) ?_
              refine S_iald hx hb hK hW kd_45 (vin ((by first | exact f_41.1 | omega)) ((by first | exact ok_361 hci.1 f_41.2 ty_46 c_47 | omega))) dX10_followHand_280 (fun y_119 ey_119 => ?_)
              refine lv_ldc (v := 1000000) hx hb hown (hg (Cond.constant RX10 44 1000000) m997) dX10_followHand_281 ?_
              refine lv_icmp_ge (tgt := 290) hx hb dX10_followHand_283 rfl (fun c_120 => ?_) (fun c_120 => ?_)
              · have c_120 : 1000000 ≤ y_119.toInt := xI_le rfl rfl c_120
                refine ic_0 hx hb dX10_followHand_290 ?_
                refine lv_istore (lv' := [(7, .int 0), (11, .int x_35), (10, .int x_76), (9, .int x_52), (6, .ref (a 45)), (5, .ref (a 44)), (0, .ref (a 8)), (1, .ref (a 7)), (2, .int 0), (4, .int p1)]) hx hb dX10_followHand_291 hl (lt_b rfl) rfl (fun ls hl => ?_)
                obtain ⟨y_121, ey_121⟩ : ∃ q, q = x_35 + 1 := ⟨_, rfl⟩
                have ty_121 : y_121.toInt = x_35.toInt + 1 := xI_add rfl rfl ey_121 ((by first | exact ok_21 f_41.1 | omega)) ((by first | exact ok_360 f_41.2 | omega))
                refine lv_iinc (v := y_121) (lv' := [(11, .int y_121), (7, .int 0), (10, .int x_76), (9, .int x_52), (6, .ref (a 45)), (5, .ref (a 44)), (0, .ref (a 8)), (1, .ref (a 7)), (2, .int 0), (4, .int p1)]) hx hb dX10_followHand_293 hl (k := 1) rfl (by rw [ey_121]; rfl) (lt_b rfl) rfl (fun ls hl => ?_)
                refine lv_goto (tgt := 88) hx hb dX10_followHand_296 rfl ?_
                have qc_122 : (0 : Int32).toInt = 0 := rfl
                exact ih_33 (39600 - y_121.toInt : Int).toNat ((by first | (clear ha_p1 f_42 f_43 f_44 hn_55 f_54 hn_79 f_78 ty_95 c_96 c_112 c_116 c_120; omega) | omega)) _ _ _ ⟨G_111, y_121, x_76, x_52, 0, (Int.toNat_of_nonneg ((by first | (clear ha_p1 hn_45 f_42 f_43 f_44 hn_55 f_54 hn_79 f_78 ty_95 c_96 c_112 c_116 c_120; omega) | omega))), ⟨(by first | exact ok_23 f_41.1 ty_121 | omega), (by first | (clear ha_p1 hn_45 f_42 f_43 f_44 hn_55 f_54 hn_79 f_78 ty_95 c_96 c_112 c_116 c_120; omega) | omega)⟩, ⟨(by first | exact f_78.1 | omega), (by first | exact f_78.2 | omega)⟩, ⟨(by first | exact f_54.1 | omega), (by first | exact f_54.2 | omega)⟩, ⟨(by decide), (by decide)⟩, (hX_39.st (St_k_tHand_0_1_mk ⟨x_35, x_36, x_37, x_38, G_31, y_121, x_76, x_52, 0, G_111, rfl, rfl, f_41, f_42, f_43, f_44, hB_G_31, ⟨y_46, ty_46, ⟨c_47, ⟨x_52, G_48, hX_53, f_54, hB_G_48, hq_49, ⟨y_57, ty_57, ⟨G_68, hX_71, hB_G_68, hq_70, ⟨x_76, G_72, hX_77, f_78, hB_G_72, hq_73, ⟨y_80, ty_80, ⟨G_91, hX_94, hB_G_91, hq_93, ⟨y_95, ey_95, (Or.inr ⟨c_96, ⟨y_98, ty_98, ⟨r_99, G_100, hX_103, ⟨y_105, ty_105, ⟨G_104, hB_G_104, (Fr.put (rs := [44]) (fs := []) Fr.rf eG_104 (Or.inl (by decide))), rw_ast eG_104, ⟨r_106, G_107, hX_110, (Or.inl ⟨c_112, ⟨y_115, ey_115.trans (congrFun (rw_put eG_111 (by decide)) _), (Or.inr ⟨c_116, ⟨y_119, ey_119.trans (congrFun (rw_ast eG_111) _), (Or.inl ⟨c_120, ⟨y_121, ty_121, ⟨rfl, rfl, rfl, rfl, (Fr.put (rs := [45]) (fs := []) Fr.rf eG_111 (Or.inl (by decide))), rw_ast eG_111⟩⟩⟩)⟩⟩)⟩⟩)⟩⟩⟩⟩⟩⟩)⟩⟩⟩⟩⟩⟩⟩⟩⟩⟩)), hW, hB_G_111, hF, (Fr.put (rs := [44, 45, 48, 49, 50, 51]) (fs := [(9, 2), (9, 3), (19, 2), (19, 3)]) (Fr.call9 (rs := [44, 45, 48, 49, 50, 51]) (fs := [(9, 2), (9, 3), (19, 2), (19, 3)]) (Fr.put (rs := [44, 45, 48, 49, 50, 51]) (fs := [(9, 2), (9, 3), (19, 2), (19, 3)]) (Fr.call9 (rs := [44, 45, 48, 49, 50, 51]) (fs := [(9, 2), (9, 3), (19, 2), (19, 3)]) (Fr.call9 (rs := [44, 45, 48, 49, 50, 51]) (fs := [(9, 2), (9, 3), (19, 2), (19, 3)]) (Fr.call9 (rs := [44, 45, 48, 49, 50, 51]) (fs := [(9, 2), (9, 3), (19, 2), (19, 3)]) (Fr.call9 (rs := [44, 45, 48, 49, 50, 51]) (fs := [(9, 2), (9, 3), (19, 2), (19, 3)]) (Fr.call9 (rs := [44, 45, 48, 49, 50, 51]) (fs := [(9, 2), (9, 3), (19, 2), (19, 3)]) (Fr.call9 (rs := [44, 45, 48, 49, 50, 51]) (fs := [(9, 2), (9, 3), (19, 2), (19, 3)]) Fr.rf hq_32 rfl rfl) hq_49 rfl rfl) hq_70 rfl rfl) hq_73 rfl rfl) hq_93 rfl rfl) hq_101 rfl rfl) eG_104 (Or.inl (by decide))) hq_108 rfl rfl) eG_111 (Or.inl (by decide))), hS, lv_sub hl [0, 2, 3, 1, 4, 5, 6, 7, 8, 9] rfl⟩
              · have c_120 : y_119.toInt < 1000000 := xI_nle rfl rfl c_120
                refine ic_1 hx hb dX10_followHand_286 ?_
                refine lv_goto (tgt := 291) hx hb dX10_followHand_287 rfl ?_
                refine lv_istore (lv' := [(7, .int 1), (11, .int x_35), (10, .int x_76), (9, .int x_52), (6, .ref (a 45)), (5, .ref (a 44)), (0, .ref (a 8)), (1, .ref (a 7)), (2, .int 0), (4, .int p1)]) hx hb dX10_followHand_291 hl (lt_b rfl) rfl (fun ls hl => ?_)
                obtain ⟨y_123, ey_123⟩ : ∃ q, q = x_35 + 1 := ⟨_, rfl⟩
                have ty_123 : y_123.toInt = x_35.toInt + 1 := xI_add rfl rfl ey_123 ((by first | exact ok_21 f_41.1 | omega)) ((by first | exact ok_360 f_41.2 | omega))
                refine lv_iinc (v := y_123) (lv' := [(11, .int y_123), (7, .int 1), (10, .int x_76), (9, .int x_52), (6, .ref (a 45)), (5, .ref (a 44)), (0, .ref (a 8)), (1, .ref (a 7)), (2, .int 0), (4, .int p1)]) hx hb dX10_followHand_293 hl (k := 1) rfl (by rw [ey_123]; rfl) (lt_b rfl) rfl (fun ls hl => ?_)
                refine lv_goto (tgt := 88) hx hb dX10_followHand_296 rfl ?_
                have qc_124 : (1 : Int32).toInt = 1 := rfl
                exact ih_33 (39600 - y_123.toInt : Int).toNat ((by first | (clear ha_p1 f_42 f_43 f_44 hn_55 f_54 hn_79 f_78 ty_95 c_96 c_112 c_116 c_120; omega) | omega)) _ _ _ ⟨G_111, y_123, x_76, x_52, 1, (Int.toNat_of_nonneg ((by first | (clear ha_p1 hn_45 f_42 f_43 f_44 hn_55 f_54 hn_79 f_78 ty_95 c_96 c_112 c_116 c_120; omega) | omega))), ⟨(by first | exact ok_23 f_41.1 ty_123 | omega), (by first | (clear ha_p1 hn_45 f_42 f_43 f_44 hn_55 f_54 hn_79 f_78 ty_95 c_96 c_112 c_116 c_120; omega) | omega)⟩, ⟨(by first | exact f_78.1 | omega), (by first | exact f_78.2 | omega)⟩, ⟨(by first | exact f_54.1 | omega), (by first | exact f_54.2 | omega)⟩, ⟨(by decide), (by decide)⟩, (hX_39.st (St_k_tHand_0_1_mk ⟨x_35, x_36, x_37, x_38, G_31, y_123, x_76, x_52, 1, G_111, rfl, rfl, f_41, f_42, f_43, f_44, hB_G_31, ⟨y_46, ty_46, ⟨c_47, ⟨x_52, G_48, hX_53, f_54, hB_G_48, hq_49, ⟨y_57, ty_57, ⟨G_68, hX_71, hB_G_68, hq_70, ⟨x_76, G_72, hX_77, f_78, hB_G_72, hq_73, ⟨y_80, ty_80, ⟨G_91, hX_94, hB_G_91, hq_93, ⟨y_95, ey_95, (Or.inr ⟨c_96, ⟨y_98, ty_98, ⟨r_99, G_100, hX_103, ⟨y_105, ty_105, ⟨G_104, hB_G_104, (Fr.put (rs := [44]) (fs := []) Fr.rf eG_104 (Or.inl (by decide))), rw_ast eG_104, ⟨r_106, G_107, hX_110, (Or.inl ⟨c_112, ⟨y_115, ey_115.trans (congrFun (rw_put eG_111 (by decide)) _), (Or.inr ⟨c_116, ⟨y_119, ey_119.trans (congrFun (rw_ast eG_111) _), (Or.inr ⟨c_120, ⟨y_123, ty_123, ⟨rfl, rfl, rfl, rfl, (Fr.put (rs := [45]) (fs := []) Fr.rf eG_111 (Or.inl (by decide))), rw_ast eG_111⟩⟩⟩)⟩⟩)⟩⟩)⟩⟩⟩⟩⟩⟩)⟩⟩⟩⟩⟩⟩⟩⟩⟩⟩)), hW, hB_G_111, hF, (Fr.put (rs := [44, 45, 48, 49, 50, 51]) (fs := [(9, 2), (9, 3), (19, 2), (19, 3)]) (Fr.call9 (rs := [44, 45, 48, 49, 50, 51]) (fs := [(9, 2), (9, 3), (19, 2), (19, 3)]) (Fr.put (rs := [44, 45, 48, 49, 50, 51]) (fs := [(9, 2), (9, 3), (19, 2), (19, 3)]) (Fr.call9 (rs := [44, 45, 48, 49, 50, 51]) (fs := [(9, 2), (9, 3), (19, 2), (19, 3)]) (Fr.call9 (rs := [44, 45, 48, 49, 50, 51]) (fs := [(9, 2), (9, 3), (19, 2), (19, 3)]) (Fr.call9 (rs := [44, 45, 48, 49, 50, 51]) (fs := [(9, 2), (9, 3), (19, 2), (19, 3)]) (Fr.call9 (rs := [44, 45, 48, 49, 50, 51]) (fs := [(9, 2), (9, 3), (19, 2), (19, 3)]) (Fr.call9 (rs := [44, 45, 48, 49, 50, 51]) (fs := [(9, 2), (9, 3), (19, 2), (19, 3)]) (Fr.call9 (rs := [44, 45, 48, 49, 50, 51]) (fs := [(9, 2), (9, 3), (19, 2), (19, 3)]) Fr.rf hq_32 rfl rfl) hq_49 rfl rfl) hq_70 rfl rfl) hq_73 rfl rfl) hq_93 rfl rfl) hq_101 rfl rfl) eG_104 (Or.inl (by decide))) hq_108 rfl rfl) eG_111 (Or.inl (by decide))), hS, lv_sub hl [0, 2, 3, 1, 4, 5, 6, 7, 8, 9] rfl⟩
      refine lv_icmp_ge (tgt := 213) hx hb dX10_followHand_170 rfl (fun c_125 => ?_) (fun c_125 => ?_)
      · have c_125 : y_80.toInt ≤ x_76.toInt := xI_le rfl rfl c_125
        exact hJ_92 () _ _ _ ⟨G_72, (Jn_k_tHand_0_5_mk (Or.inl ⟨c_125, rfl⟩)), hW, hB_G_72, hF, (Fr.rf (rs := []) (fs := [])), hS, lv_sub hl [0, 1, 2, 3, 4, 5, 6, 7, 8, 9] rfl⟩
      · have c_125 : x_76.toInt < y_80.toInt := xI_nle rfl rfl c_125
        refine lv_iload hx hb dX10_followHand_173 (lv_at hl 1 rfl) ?_
        refine lv_aload_n hx hb dX10_followHand_175 rfl (lv_at hl 7 rfl) ?_
        have b_126 : 0 ≤ (G.1 7 7).toInt ∧ (G.1 7 7).toInt ≤ 400 := bd_7_7 hB_G
        refine S_getI (v := (G.1 7 7)) (C := RX0) (T := TX0) (N := 8) hx hb hg iX0 hown hK hW kd_7 rfl 7 (lt_b rfl) (hg (Cond.fieldLink RX10 58 "SlabWalk$Course" "end" "I") m394) (fun _ h9 => h9) rfl ((hq_73.i9 7 7 rfl rfl).trans ((hq_70.i9 7 7 rfl rfl).trans ((hq_49.i9 7 7 rfl rfl).trans ((hq_32.i9 7 7 rfl rfl).trans ((hq_21.i9 7 7 rfl rfl).trans ((hq_16.i9 7 7 rfl rfl).trans ((hq_11.i9 7 7 rfl rfl).trans (hq_6.i9 7 7 rfl rfl)))))))) dX10_followHand_176 ?_
        refine lv_icmp_ge (tgt := 213) hx hb dX10_followHand_179 rfl (fun c_127 => ?_) (fun c_127 => ?_)
        · have c_127 : (G.1 7 7).toInt ≤ x_76.toInt := xI_le rfl rfl c_127
          exact hJ_92 () _ _ _ ⟨G_72, (Jn_k_tHand_0_5_mk (Or.inr ⟨c_125, ⟨c_127, rfl⟩⟩)), hW, hB_G_72, hF, (Fr.rf (rs := []) (fs := [])), hS, lv_sub hl [0, 1, 2, 3, 4, 5, 6, 7, 8, 9] rfl⟩
        · have c_127 : x_76.toInt < (G.1 7 7).toInt := xI_nle rfl rfl c_127
          refine lv_aload_n hx hb dX10_followHand_182 rfl (lv_at hl 6 rfl) ?_
          refine S_getR (n := 19) (C := RX10) (T := TX10) (N := 5) hx hb hg iX10 hown hK hW kd_8 rfl 2 (lt_b rfl) (hg (Cond.fieldLink RX10 23 "SlabWalk$Trails" "leaps" "LSlabWalk$Minima;") m442) (fun _ h9 => h9) rfl dX10_followHand_183 ?_
          refine lv_iload hx hb dX10_followHand_186 (lv_at hl 1 rfl) ?_
          refine lv_ldc (v := 1000000) hx hb hown (hg (Cond.constant RX10 44 1000000) m997) dX10_followHand_188 ?_
          refine lv_aload_n hx hb dX10_followHand_190 rfl (lv_at hl 6 rfl) ?_
          refine S_getR (n := 41) (C := RX10) (T := TX10) (N := 5) hx hb hg iX10 hown hK hW kd_8 rfl 0 (lt_b rfl) (hg (Cond.fieldLink RX10 13 "SlabWalk$Trails" "rows" "[[I") m440) (fun _ h9 => h9) rfl dX10_followHand_191 ?_
          refine lv_iload_n hx hb dX10_followHand_194 rfl (lv_at hl 8 rfl) ?_
          refine S_aald hx hb hK hW kd_41 (vin (by decide) (by decide)) dX10_followHand_195 ?_
          refine rows_at (n := 42) (rows_c hB_G_72 0 (by decide)) ?_
          refine lv_iload hx hb dX10_followHand_196 (lv_at hl 1 rfl) ?_
          refine S_iald hx hb hK hW kd_42 (vin ((by first | exact f_78.1 | omega)) ((by first | exact ok_363 f_78.2 b_126.2 c_127 | omega))) dX10_followHand_198 (fun y_128 ey_128 => ?_)
          refine ic_1 hx hb dX10_followHand_199 ?_
          refine lv_iadd hx hb dX10_followHand_200 ?_
          refine lv_topi (fun y_129 ey_129 => ?_)
          refine va_mmin hx hb (by rw [hml]; exact hl.1.symm) hown (hg (Cond.methodLink RX10 49 Lib.Math.min.name) m1001) (hg (Cond.static Lib.Math.min.name) m636) (hg (Cond.initialized "java/lang/Math") m132) (hg (Cond.code Lib.Math.min.name Lib.Math.min.code 2 (some .int)) m637) (Nat.le_of_ble_eq_true rfl) (Nat.le_of_ble_eq_true rfl) (Nat.le_of_ble_eq_true rfl) (Nat.le_of_ble_eq_true rfl) dX10_followHand_201 ?_
          refine lv_topi (fun y_130 ey_130 => ?_)
          have ty_130 := xI_min (X := 1000000) (Y := y_129.toInt) rfl rfl ey_130
          refine S_callv (va_runV (As := [.int x_76, .int y_130]) (rest := []) ⟨hx, hb, hml, hown, hts⟩ (k_madd_19 l D k A a z G_72 x_76 y_130 ) (cwV 2 hts (gd_V hgd m1104 m1105 m1106 m125 m1107) rfl rfl rfl hd_X4_add ⟨Nat.le_of_ble_eq_true rfl, Nat.le_of_ble_eq_true rfl⟩) (pre_W hW hB_G_72 hK hZ hS kd_19 rfl) rfl rfl hl.1 rfl (lv_room (Nat.le_of_ble_eq_true rfl)) dX10_followHand_204 ⟨Nat.le_of_ble_eq_true rfl, Nat.le_of_ble_eq_true rfl⟩) hS (fun G_132 H locs hpo hW hS => ?_)
          have hX_135 : P_madd_19 x_76 y_130 G_72 G_132 := hpo
          obtain ⟨hB_G_132, hq_133, -⟩ := hpo
          have hF := hF.call9 hq_133 rfl rfl
          obtain ⟨y_136, ey_136⟩ : ∃ q, q = x_76 + 1 := ⟨_, rfl⟩
          have ty_136 : y_136.toInt = x_76.toInt + 1 := xI_add rfl rfl ey_136 ((by first | exact ok_21 f_78.1 | omega)) ((by first | exact ok_360 f_78.2 | omega))
          refine lv_iinc (v := y_136) (lv' := [(10, .int y_136), (11, .int x_35), (9, .int x_52), (7, .int x_38), (6, .ref (a 45)), (5, .ref (a 44)), (0, .ref (a 8)), (1, .ref (a 7)), (2, .int 0), (4, .int p1)]) hx hb dX10_followHand_207 hl (k := 1) rfl (by rw [ey_136]; rfl) (lt_b rfl) rfl (fun ls hl => ?_)
          refine lv_goto (tgt := 161) hx hb dX10_followHand_210 rfl ?_
          exact ih_74 (39600 - y_136.toInt : Int).toNat ((by first | (clear ha_p0 ha_p1 b_1 f_42 f_43 f_44 ty_46 hn_55 f_54 ty_130; omega) | omega)) _ _ _ ⟨G_132, y_136, (Int.toNat_of_nonneg ((by first | (clear ha_p0 ha_p1 b_1 hn_45 f_42 f_43 f_44 ty_46 hn_55 f_54 hn_79 ty_130; omega) | omega))), ⟨(by first | exact ok_23 f_78.1 ty_136 | omega), (by first | (clear ha_p0 ha_p1 b_1 hn_45 f_42 f_43 f_44 ty_46 hn_55 f_54 hn_79 ty_130; omega) | omega)⟩, (hX_77.st (St_k_tHand_0_4_mk ⟨x_76, G_72, y_136, G_132, rfl, rfl, f_78, hB_G_72, ⟨y_80, ty_80, ⟨c_125, ⟨c_127, ⟨y_128, ey_128, ⟨y_129, ey_129, ⟨y_130, ty_130, ⟨G_132, hX_135, ⟨y_136, ty_136, ⟨rfl, rfl⟩⟩⟩⟩⟩⟩⟩⟩⟩⟩)), hW, hB_G_132, hF, (Fr.call9 (rs := [50, 51]) (fs := [(19, 3)]) (Fr.call9 (rs := [50, 51]) (fs := [(19, 3)]) Fr.rf hq_73 rfl rfl) hq_133 rfl rfl), hS, lv_sub hl [1, 0, 2, 3, 4, 5, 6, 7, 8, 9] rfl⟩
    refine lv_icmp_gt (tgt := 161) hx hb dX10_followHand_111 rfl (fun c_137 => ?_) (fun c_137 => ?_)
    · have c_137 : y_57.toInt < x_52.toInt := xI_lt rfl rfl c_137
      exact hJ_69 () _ _ _ ⟨G_48, (Jn_k_tHand_0_3_mk (Or.inl ⟨c_137, rfl⟩)), hW, hB_G_48, hF, (Fr.rf (rs := []) (fs := [])), hS, lv_sub hl [0, 1, 2, 3, 4, 5, 6, 7, 8, 9] rfl⟩
    · have c_137 : x_52.toInt ≤ y_57.toInt := xI_nlt rfl rfl c_137
      refine lv_iload hx hb dX10_followHand_114 (lv_at hl 2 rfl) ?_
      refine lv_aload_n hx hb dX10_followHand_116 rfl (lv_at hl 7 rfl) ?_
      have b_138 : 0 ≤ (G.1 7 7).toInt ∧ (G.1 7 7).toInt ≤ 400 := bd_7_7 hB_G
      refine S_getI (v := (G.1 7 7)) (C := RX0) (T := TX0) (N := 8) hx hb hg iX0 hown hK hW kd_7 rfl 7 (lt_b rfl) (hg (Cond.fieldLink RX10 58 "SlabWalk$Course" "end" "I") m394) (fun _ h9 => h9) rfl ((hq_49.i9 7 7 rfl rfl).trans ((hq_32.i9 7 7 rfl rfl).trans ((hq_21.i9 7 7 rfl rfl).trans ((hq_16.i9 7 7 rfl rfl).trans ((hq_11.i9 7 7 rfl rfl).trans (hq_6.i9 7 7 rfl rfl)))))) dX10_followHand_117 ?_
      refine lv_icmp_ge (tgt := 161) hx hb dX10_followHand_120 rfl (fun c_139 => ?_) (fun c_139 => ?_)
      · have c_139 : (G.1 7 7).toInt ≤ x_52.toInt := xI_le rfl rfl c_139
        exact hJ_69 () _ _ _ ⟨G_48, (Jn_k_tHand_0_3_mk (Or.inr ⟨c_137, ⟨c_139, rfl⟩⟩)), hW, hB_G_48, hF, (Fr.rf (rs := []) (fs := [])), hS, lv_sub hl [0, 1, 2, 3, 4, 5, 6, 7, 8, 9] rfl⟩
      · have c_139 : x_52.toInt < (G.1 7 7).toInt := xI_nle rfl rfl c_139
        refine lv_aload_n hx hb dX10_followHand_123 rfl (lv_at hl 6 rfl) ?_
        refine S_getR (n := 9) (C := RX10) (T := TX10) (N := 5) hx hb hg iX10 hown hK hW kd_8 rfl 1 (lt_b rfl) (hg (Cond.fieldLink RX10 19 "SlabWalk$Trails" "steps" "LSlabWalk$Minima;") m441) (fun _ h9 => h9) rfl dX10_followHand_124 ?_
        refine lv_iload hx hb dX10_followHand_127 (lv_at hl 2 rfl) ?_
        refine lv_aload_n hx hb dX10_followHand_129 rfl (lv_at hl 6 rfl) ?_
        refine S_getR (n := 41) (C := RX10) (T := TX10) (N := 5) hx hb hg iX10 hown hK hW kd_8 rfl 0 (lt_b rfl) (hg (Cond.fieldLink RX10 13 "SlabWalk$Trails" "rows" "[[I") m440) (fun _ h9 => h9) rfl dX10_followHand_130 ?_
        refine lv_iload_n hx hb dX10_followHand_133 rfl (lv_at hl 8 rfl) ?_
        refine S_aald hx hb hK hW kd_41 (vin (by decide) (by decide)) dX10_followHand_134 ?_
        refine rows_at (n := 42) (rows_c hB_G_48 0 (by decide)) ?_
        refine lv_iload hx hb dX10_followHand_135 (lv_at hl 2 rfl) ?_
        refine S_iald hx hb hK hW kd_42 (vin ((by first | exact f_54.1 | omega)) ((by first | exact ok_363 f_54.2 b_138.2 c_139 | omega))) dX10_followHand_137 (fun y_140 ey_140 => ?_)
        refine lv_aload_n hx hb dX10_followHand_138 rfl (lv_at hl 6 rfl) ?_
        refine S_getR (n := 41) (C := RX10) (T := TX10) (N := 5) hx hb hg iX10 hown hK hW kd_8 rfl 0 (lt_b rfl) (hg (Cond.fieldLink RX10 13 "SlabWalk$Trails" "rows" "[[I") m440) (fun _ h9 => h9) rfl dX10_followHand_139 ?_
        refine lv_iload_n hx hb dX10_followHand_142 rfl (lv_at hl 8 rfl) ?_
        refine ic_1 hx hb dX10_followHand_143 ?_
        refine lv_iadd hx hb dX10_followHand_144 ?_
        refine lv_topi (fun y_141 ey_141 => ?_)
        obtain rfl : y_141 = 1 := ey_141.trans (by decide)
        refine S_aald hx hb hK hW kd_41 (vin (by decide) (by decide)) dX10_followHand_145 ?_
        refine rows_at (n := 43) (rows_c hB_G_48 1 (by decide)) ?_
        refine lv_iload hx hb dX10_followHand_146 (lv_at hl 2 rfl) ?_
        refine S_iald hx hb hK hW kd_43 (vin ((by first | exact f_54.1 | omega)) ((by first | exact ok_363 f_54.2 b_138.2 c_139 | omega))) dX10_followHand_148 (fun y_142 ey_142 => ?_)
        refine va_mmin hx hb (by rw [hml]; exact hl.1.symm) hown (hg (Cond.methodLink RX10 49 Lib.Math.min.name) m1001) (hg (Cond.static Lib.Math.min.name) m636) (hg (Cond.initialized "java/lang/Math") m132) (hg (Cond.code Lib.Math.min.name Lib.Math.min.code 2 (some .int)) m637) (Nat.le_of_ble_eq_true rfl) (Nat.le_of_ble_eq_true rfl) (Nat.le_of_ble_eq_true rfl) (Nat.le_of_ble_eq_true rfl) dX10_followHand_149 ?_
        refine lv_topi (fun y_143 ey_143 => ?_)
        have ty_143 := xI_min (X := y_140.toInt) (Y := y_142.toInt) rfl rfl ey_143
        refine S_callv (va_runV (As := [.int x_52, .int y_143]) (rest := []) ⟨hx, hb, hml, hown, hts⟩ (k_madd_9 l D k A a z G_48 x_52 y_143 ) (cwV 2 hts (gd_V hgd m1104 m1105 m1106 m125 m1107) rfl rfl rfl hd_X4_add ⟨Nat.le_of_ble_eq_true rfl, Nat.le_of_ble_eq_true rfl⟩) (pre_W hW hB_G_48 hK hZ hS kd_9 rfl) rfl rfl hl.1 rfl (lv_room (Nat.le_of_ble_eq_true rfl)) dX10_followHand_152 ⟨Nat.le_of_ble_eq_true rfl, Nat.le_of_ble_eq_true rfl⟩) hS (fun G_145 H locs hpo hW hS => ?_)
        have hX_148 : P_madd_9 x_52 y_143 G_48 G_145 := hpo
        obtain ⟨hB_G_145, hq_146, -⟩ := hpo
        have hF := hF.call9 hq_146 rfl rfl
        obtain ⟨y_149, ey_149⟩ : ∃ q, q = x_52 + 1 := ⟨_, rfl⟩
        have ty_149 : y_149.toInt = x_52.toInt + 1 := xI_add rfl rfl ey_149 ((by first | exact ok_21 f_54.1 | omega)) ((by first | exact ok_360 f_54.2 | omega))
        refine lv_iinc (v := y_149) (lv' := [(9, .int y_149), (11, .int x_35), (10, .int x_36), (7, .int x_38), (6, .ref (a 45)), (5, .ref (a 44)), (0, .ref (a 8)), (1, .ref (a 7)), (2, .int 0), (4, .int p1)]) hx hb dX10_followHand_155 hl (k := 2) rfl (by rw [ey_149]; rfl) (lt_b rfl) rfl (fun ls hl => ?_)
        refine lv_goto (tgt := 102) hx hb dX10_followHand_158 rfl ?_
        exact ih_50 (39600 - y_149.toInt : Int).toNat ((by first | (clear ha_p0 ha_p1 b_1 ty_24 b_25 ty_27 b_28 ty_30 f_42 f_43 f_44 ty_46 ty_143; omega) | omega)) _ _ _ ⟨G_145, y_149, (Int.toNat_of_nonneg ((by first | (clear ha_p0 ha_p1 b_1 ty_24 b_25 ty_27 b_28 ty_30 hn_45 f_42 f_43 f_44 ty_46 hn_55 ty_143; omega) | omega))), ⟨(by first | exact ok_23 f_54.1 ty_149 | omega), (by first | (clear ha_p0 ha_p1 b_1 ty_24 b_25 ty_27 b_28 ty_30 hn_45 f_42 f_43 f_44 ty_46 hn_55 ty_143; omega) | omega)⟩, (hX_53.st (St_k_tHand_0_2_mk ⟨x_52, G_48, y_149, G_145, rfl, rfl, f_54, hB_G_48, ⟨y_57, ty_57, ⟨c_137, ⟨c_139, ⟨y_140, ey_140, ⟨y_142, ey_142, ⟨y_143, ty_143, ⟨G_145, hX_148, ⟨y_149, ty_149, ⟨rfl, rfl⟩⟩⟩⟩⟩⟩⟩⟩⟩⟩)), hW, hB_G_145, hF, (Fr.call9 (rs := [48, 49]) (fs := [(9, 3)]) (Fr.call9 (rs := [48, 49]) (fs := [(9, 3)]) Fr.rf hq_49 rfl rfl) hq_146 rfl rfl), hS, lv_sub hl [1, 2, 0, 3, 4, 5, 6, 7, 8, 9] rfl⟩

set_option maxHeartbeats 4000000 in
set_option maxRecDepth 100000 in
theorem k_tHand_2 (l : Launch) (D : va_G) (k : KT) (A : Nat → Prop) (a : Nat → Nat) (z : SK) (G : GS) (p0 : Int32) (p1 : Int32) (ha_p0 : -99 ≤ p0.toInt ∧ p0.toInt ≤ 39600) (ha_p1 : -99 ≤ p1.toInt ∧ p1.toInt ≤ 39699) (hci : (G.1 7 6).toInt ≤ 399 ∧ (G.1 7 3).toInt ≤ (G.1 7 4).toInt ∧ ((G.1 7 7).toInt ≤ 0 ∨ (G.1 7 7).toInt + (G.1 7 4).toInt ≤ (G.1 7 6).toInt + 1)) : Met l yX10_followHand (WS yX10_followHand cX10_followHand 12 (some .boolean)) ({ frames := 1, cells := 0, slots := 0, locals := 23 }) (va_Pc [.ref (a 8), .ref (a 7), .int 2, .int p0, .int p1] (cW D k A a z G)) (va_Qi (fun (r : Int32) (G1 : GS) => P_tHand_2 p0 p1 G r G1) (fun (G1 : GS) t => Wd D k A a G1 t.heap) A) 0 0 A := by
  refine Met.ofW (cc := cX10_followHand) (maxL := 12) (ret := (some .boolean)) (by decide) rfl ?_
  intro p e s m args below meth c s₁ B hml hv
  obtain ⟨rfl, hW, hB_G, hK, hZ⟩ := hv
  have hx := B.exec
  have hb := B.bytes
  have hr := B.returns
  have hts := atoms_spec (ws := WS yX10_followHand cX10_followHand 12 (some .boolean)) B.pre
  have hgd : ∀ w ∈ gd, w ∈ WS yX10_followHand cX10_followHand 12 (some .boolean) := fun w h => List.mem_cons_of_mem _ h
  have hg : ∀ w ∈ gd, w.before _ s = true := fun w h => hts w (hgd w h)
  have hown : s.vm.findClass RX10 = some m.cls := findClass_of_methodNamed B.named
  have hS : va_S A s.heap s.heap [] := va_S.rf
  have hF : Fr [42, 43, 48, 49, 50, 51] [(9, 2), (9, 3), (19, 2), (19, 3)] G G := Fr.rf
  have hl := lv_entry ([.ref (a 8), .ref (a 7), .int 2, .int p0, .int p1]) (n := 12) (Nat.le_of_ble_eq_true rfl)
  rw [lg_entry_eq]
  generalize (lg_sl ([.ref (a 8), .ref (a 7), .int 2, .int p0, .int p1]) ++ List.replicate (12 - (lg_sl ([.ref (a 8), .ref (a 7), .int 2, .int p0, .int p1])).length) Slot.unset).toArray = ls at hl ⊢
  have hl : lv_has ls 12 [(0, .ref (a 8)), (1, .ref (a 7)), (2, .int 2), (3, .int p0), (4, .int p1)] := hl
  have b_1 : (-1) ≤ (G.1 7 6).toInt ∧ (G.1 7 6).toInt ≤ 400 := bd_7_6 hB_G
  refine lv_aload_n hx hb dX10_followHand_0 rfl (lv_at hl 0 rfl) ?_
  refine S_getR (n := 41) (C := RX10) (T := TX10) (N := 5) hx hb hg iX10 hown hK hW kd_8 rfl 0 (lt_b rfl) (hg (Cond.fieldLink RX10 13 "SlabWalk$Trails" "rows" "[[I") m440) (fun _ h9 => h9) rfl dX10_followHand_1 ?_
  refine ic_2 hx hb dX10_followHand_4 ?_
  refine lv_iload_n hx hb dX10_followHand_5 rfl (lv_at hl 2 rfl) ?_
  refine lv_isub hx hb dX10_followHand_6 ?_
  refine lv_topi (fun y_2 ey_2 => ?_)
  obtain rfl : y_2 = 0 := ey_2.trans (by decide)
  refine S_aald hx hb hK hW kd_41 (vin (by decide) (by decide)) dX10_followHand_7 ?_
  refine rows_at (n := 42) (rows_c hB_G 0 (by decide)) ?_
  refine lv_astore (lv' := [(5, .ref (a 42)), (0, .ref (a 8)), (1, .ref (a 7)), (2, .int 2), (3, .int p0), (4, .int p1)]) hx hb dX10_followHand_8 hl (lt_b rfl) rfl (fun ls hl => ?_)
  refine lv_aload_n hx hb dX10_followHand_10 rfl (lv_at hl 1 rfl) ?_
  refine S_getR (n := 41) (C := RX10) (T := TX10) (N := 5) hx hb hg iX10 hown hK hW kd_8 rfl 0 (lt_b rfl) (hg (Cond.fieldLink RX10 13 "SlabWalk$Trails" "rows" "[[I") m440) (fun _ h9 => h9) rfl dX10_followHand_11 ?_
  refine ic_3 hx hb dX10_followHand_14 ?_
  refine lv_iload_n hx hb dX10_followHand_15 rfl (lv_at hl 3 rfl) ?_
  refine lv_isub hx hb dX10_followHand_16 ?_
  refine lv_topi (fun y_3 ey_3 => ?_)
  obtain rfl : y_3 = 1 := ey_3.trans (by decide)
  refine S_aald hx hb hK hW kd_41 (vin (by decide) (by decide)) dX10_followHand_17 ?_
  refine rows_at (n := 43) (rows_c hB_G 1 (by decide)) ?_
  refine lv_astore (lv' := [(6, .ref (a 43)), (5, .ref (a 42)), (0, .ref (a 8)), (1, .ref (a 7)), (2, .int 2), (3, .int p0), (4, .int p1)]) hx hb dX10_followHand_18 hl (lt_b rfl) rfl (fun ls hl => ?_)
  refine lv_aload hx hb dX10_followHand_20 (lv_at hl 1 rfl) ?_
  refine lv_ldc (v := 1000000) hx hb hown (hg (Cond.constant RX10 44 1000000) m997) dX10_followHand_22 ?_
  refine S_callv (va_runS (As := [.ref (a 42), .int 1000000]) (rest := []) ⟨hx, hb, hml, hown, hts⟩ (k_fill_42 l D k A a z G 1000000 ) (va_cwS 2 hts (gd_S hgd m1095 m556 m129 m557) rfl rfl rfl hd_J7_fill_53178.2 ⟨Nat.le_of_ble_eq_true rfl, Nat.le_of_ble_eq_true rfl⟩) (pre_S hW hB_G hK hZ hS) rfl rfl hl.1 rfl (lv_room (Nat.le_of_ble_eq_true rfl)) dX10_followHand_24 ⟨Nat.le_of_ble_eq_true rfl, Nat.le_of_ble_eq_true rfl⟩) hS (fun G_5 H locs hpo hW hS => ?_)
  have hX_8 : P_fill_42 1000000 G G_5 := hpo
  obtain ⟨hB_G_5, hq_6, -⟩ := hpo
  have hF := hF.call9 hq_6 rfl rfl
  refine lv_aload hx hb dX10_followHand_27 (lv_at hl 0 rfl) ?_
  refine lv_ldc (v := 1000000) hx hb hown (hg (Cond.constant RX10 44 1000000) m997) dX10_followHand_29 ?_
  refine S_callv (va_runS (As := [.ref (a 43), .int 1000000]) (rest := []) ⟨hx, hb, hml, hown, hts⟩ (k_fill_43 l D k A a z G_5 1000000 ) (va_cwS 2 hts (gd_S hgd m1095 m556 m129 m557) rfl rfl rfl hd_J7_fill_53178.2 ⟨Nat.le_of_ble_eq_true rfl, Nat.le_of_ble_eq_true rfl⟩) (pre_S hW hB_G_5 hK hZ hS) rfl rfl hl.1 rfl (lv_room (Nat.le_of_ble_eq_true rfl)) dX10_followHand_31 ⟨Nat.le_of_ble_eq_true rfl, Nat.le_of_ble_eq_true rfl⟩) hS (fun G_10 H locs hpo hW hS => ?_)
  have hX_13 : P_fill_43 1000000 G_5 G_10 := hpo
  obtain ⟨hB_G_10, hq_11, -⟩ := hpo
  have hF := hF.call9 hq_11 rfl rfl
  refine lv_aload_n hx hb dX10_followHand_34 rfl (lv_at hl 2 rfl) ?_
  refine S_getR (n := 9) (C := RX10) (T := TX10) (N := 5) hx hb hg iX10 hown hK hW kd_8 rfl 1 (lt_b rfl) (hg (Cond.fieldLink RX10 19 "SlabWalk$Trails" "steps" "LSlabWalk$Minima;") m441) (fun _ h9 => h9) rfl dX10_followHand_35 ?_
  refine S_callv (va_runV (As := []) (rest := []) ⟨hx, hb, hml, hown, hts⟩ (k_mempty_9 l D k A a z G_10  ) (cwV 0 hts (gd_V hgd m1100 m1101 m1102 m125 m1103) rfl rfl rfl hd_X4_empty ⟨Nat.le_of_ble_eq_true rfl, Nat.le_of_ble_eq_true rfl⟩) (pre_W hW hB_G_10 hK hZ hS kd_9 rfl) rfl rfl hl.1 rfl (lv_room (Nat.le_of_ble_eq_true rfl)) dX10_followHand_38 ⟨Nat.le_of_ble_eq_true rfl, Nat.le_of_ble_eq_true rfl⟩) hS (fun G_15 H locs hpo hW hS => ?_)
  have hX_18 : P_mempty_9 G_10 G_15 := hpo
  obtain ⟨hB_G_15, hq_16, -⟩ := hpo
  have hF := hF.call9 hq_16 rfl rfl
  refine lv_aload_n hx hb dX10_followHand_41 rfl (lv_at hl 2 rfl) ?_
  refine S_getR (n := 19) (C := RX10) (T := TX10) (N := 5) hx hb hg iX10 hown hK hW kd_8 rfl 2 (lt_b rfl) (hg (Cond.fieldLink RX10 23 "SlabWalk$Trails" "leaps" "LSlabWalk$Minima;") m442) (fun _ h9 => h9) rfl dX10_followHand_42 ?_
  refine S_callv (va_runV (As := []) (rest := []) ⟨hx, hb, hml, hown, hts⟩ (k_mempty_19 l D k A a z G_15  ) (cwV 0 hts (gd_V hgd m1100 m1101 m1102 m125 m1103) rfl rfl rfl hd_X4_empty ⟨Nat.le_of_ble_eq_true rfl, Nat.le_of_ble_eq_true rfl⟩) (pre_W hW hB_G_15 hK hZ hS kd_19 rfl) rfl rfl hl.1 rfl (lv_room (Nat.le_of_ble_eq_true rfl)) dX10_followHand_45 ⟨Nat.le_of_ble_eq_true rfl, Nat.le_of_ble_eq_true rfl⟩) hS (fun G_20 H locs hpo hW hS => ?_)
  have hX_23 : P_mempty_19 G_15 G_20 := hpo
  obtain ⟨hB_G_20, hq_21, -⟩ := hpo
  have hF := hF.call9 hq_21 rfl rfl
  refine ic_0 hx hb dX10_followHand_48 ?_
  refine lv_istore (lv' := [(7, .int 0), (6, .ref (a 43)), (5, .ref (a 42)), (0, .ref (a 8)), (1, .ref (a 7)), (2, .int 2), (3, .int p0), (4, .int p1)]) hx hb dX10_followHand_49 hl (lt_b rfl) rfl (fun ls hl => ?_)
  refine ic_0 hx hb dX10_followHand_51 ?_
  refine lv_iload_n hx hb dX10_followHand_52 rfl (lv_at hl 6 rfl) ?_
  refine va_mmax hx hb (by rw [hml]; exact hl.1.symm) hown (hg (Cond.methodLink RX10 82 Lib.Math.max.name) m1044) (hg (Cond.static Lib.Math.max.name) m728) (hg (Cond.initialized "java/lang/Math") m132) (hg (Cond.code Lib.Math.max.name Lib.Math.max.code 2 (some .int)) m729) (Nat.le_of_ble_eq_true rfl) (Nat.le_of_ble_eq_true rfl) (Nat.le_of_ble_eq_true rfl) (Nat.le_of_ble_eq_true rfl) dX10_followHand_53 ?_
  refine lv_topi (fun y_24 ey_24 => ?_)
  have ty_24 := xI_max (X := 0) (Y := p0.toInt) rfl rfl ey_24
  refine lv_istore (lv' := [(8, .int y_24), (7, .int 0), (6, .ref (a 43)), (5, .ref (a 42)), (0, .ref (a 8)), (1, .ref (a 7)), (2, .int 2), (3, .int p0), (4, .int p1)]) hx hb dX10_followHand_56 hl (lt_b rfl) rfl (fun ls hl => ?_)
  refine ic_0 hx hb dX10_followHand_58 ?_
  refine lv_iload hx hb dX10_followHand_59 (lv_at hl 0 rfl) ?_
  refine lv_aload_n hx hb dX10_followHand_61 rfl (lv_at hl 5 rfl) ?_
  have b_25 : 0 ≤ (G.1 7 4).toInt ∧ (G.1 7 4).toInt ≤ 60 := bd_7_4 hB_G
  refine S_getI (v := (G.1 7 4)) (C := RX0) (T := TX0) (N := 8) hx hb hg iX0 hown hK hW kd_7 rfl 4 (lt_b rfl) (hg (Cond.fieldLink RX10 64 "SlabWalk$Course" "most" "I") m383) (fun _ h9 => h9) rfl ((hq_21.i9 7 4 rfl rfl).trans ((hq_16.i9 7 4 rfl rfl).trans ((hq_11.i9 7 4 rfl rfl).trans (hq_6.i9 7 4 rfl rfl)))) dX10_followHand_62 ?_
  refine lv_isub hx hb dX10_followHand_65 ?_
  refine lv_topi (fun y_26 ey_26 => ?_)
  have ty_26 : y_26.toInt = y_24.toInt - (G.1 7 4).toInt := xI_sub rfl rfl ey_26 ((by first | exact ok_351 ty_24 b_25.2 | omega)) ((by first | exact ok_352 ha_p0.2 ty_24 b_25.1 | omega))
  refine va_mmax hx hb (by rw [hml]; exact hl.1.symm) hown (hg (Cond.methodLink RX10 82 Lib.Math.max.name) m1044) (hg (Cond.static Lib.Math.max.name) m728) (hg (Cond.initialized "java/lang/Math") m132) (hg (Cond.code Lib.Math.max.name Lib.Math.max.code 2 (some .int)) m729) (Nat.le_of_ble_eq_true rfl) (Nat.le_of_ble_eq_true rfl) (Nat.le_of_ble_eq_true rfl) (Nat.le_of_ble_eq_true rfl) dX10_followHand_66 ?_
  refine lv_topi (fun y_27 ey_27 => ?_)
  have ty_27 := xI_max (X := 0) (Y := y_26.toInt) rfl rfl ey_27
  refine lv_istore (lv' := [(9, .int y_27), (8, .int y_24), (7, .int 0), (6, .ref (a 43)), (5, .ref (a 42)), (0, .ref (a 8)), (1, .ref (a 7)), (2, .int 2), (3, .int p0), (4, .int p1)]) hx hb dX10_followHand_69 hl (lt_b rfl) rfl (fun ls hl => ?_)
  refine ic_0 hx hb dX10_followHand_71 ?_
  refine lv_iload hx hb dX10_followHand_72 (lv_at hl 1 rfl) ?_
  refine lv_aload_n hx hb dX10_followHand_74 rfl (lv_at hl 6 rfl) ?_
  have b_28 : 0 ≤ (G.1 7 5).toInt ∧ (G.1 7 5).toInt ≤ 99 := bd_7_5 hB_G
  refine S_getI (v := (G.1 7 5)) (C := RX0) (T := TX0) (N := 8) hx hb hg iX0 hown hK hW kd_7 rfl 5 (lt_b rfl) (hg (Cond.fieldLink RX10 71 "SlabWalk$Course" "leap" "I") m386) (fun _ h9 => h9) rfl ((hq_21.i9 7 5 rfl rfl).trans ((hq_16.i9 7 5 rfl rfl).trans ((hq_11.i9 7 5 rfl rfl).trans (hq_6.i9 7 5 rfl rfl)))) dX10_followHand_75 ?_
  refine lv_isub hx hb dX10_followHand_78 ?_
  refine lv_topi (fun y_29 ey_29 => ?_)
  have ty_29 : y_29.toInt = y_24.toInt - (G.1 7 5).toInt := xI_sub rfl rfl ey_29 ((by first | exact ok_353 ty_24 b_28.2 | omega)) ((by first | exact ok_352 ha_p0.2 ty_24 b_28.1 | omega))
  refine va_mmax hx hb (by rw [hml]; exact hl.1.symm) hown (hg (Cond.methodLink RX10 82 Lib.Math.max.name) m1044) (hg (Cond.static Lib.Math.max.name) m728) (hg (Cond.initialized "java/lang/Math") m132) (hg (Cond.code Lib.Math.max.name Lib.Math.max.code 2 (some .int)) m729) (Nat.le_of_ble_eq_true rfl) (Nat.le_of_ble_eq_true rfl) (Nat.le_of_ble_eq_true rfl) (Nat.le_of_ble_eq_true rfl) dX10_followHand_79 ?_
  refine lv_topi (fun y_30 ey_30 => ?_)
  have ty_30 := xI_max (X := 0) (Y := y_29.toInt) rfl rfl ey_30
  refine lv_istore (lv' := [(10, .int y_30), (9, .int y_27), (8, .int y_24), (7, .int 0), (6, .ref (a 43)), (5, .ref (a 42)), (0, .ref (a 8)), (1, .ref (a 7)), (2, .int 2), (3, .int p0), (4, .int p1)]) hx hb dX10_followHand_82 hl (lt_b rfl) rfl (fun ls hl => ?_)
  refine lv_iload hx hb dX10_followHand_84 (lv_at hl 2 rfl) ?_
  refine lv_istore (lv' := [(11, .int y_24), (10, .int y_30), (9, .int y_27), (8, .int y_24), (7, .int 0), (6, .ref (a 43)), (5, .ref (a 42)), (0, .ref (a 8)), (1, .ref (a 7)), (2, .int 2), (3, .int p0), (4, .int p1)]) hx hb dX10_followHand_86 hl (lt_b rfl) rfl (fun ls hl => ?_)
  have qc_40 : (0 : Int32).toInt = 0 := rfl
  refine loop_N (Inv := fun n H locs ls => ∃ (G_31 : GS) (x_35 : Int32) (x_36 : Int32) (x_37 : Int32) (x_38 : Int32), (n : Int) = 39600 - x_35.toInt ∧ (0 ≤ x_35.toInt ∧ x_35.toInt ≤ 39600) ∧ (0 ≤ x_36.toInt ∧ x_36.toInt ≤ 39600) ∧ (0 ≤ x_37.toInt ∧ x_37.toInt ≤ 39600) ∧ (0 ≤ x_38.toInt ∧ x_38.toInt ≤ 1) ∧ Rc (St_k_tHand_2_1 p1 G) (y_24, y_30, y_27, 0, G_20) (x_35, x_36, x_37, x_38, G_31) ∧ Wd D k A a G_31 H ∧ Bd G_31 ∧ Fr [42, 43, 48, 49, 50, 51] [(9, 2), (9, 3), (19, 2), (19, 3)] G G_31 ∧ Fr [42, 43, 48, 49, 50, 51] [(9, 2), (9, 3), (19, 2), (19, 3)] G_20 G_31 ∧ va_S A s.heap H locs ∧ lv_has ls 12 [(11, .int x_35), (10, .int x_36), (9, .int x_37), (7, .int x_38), (6, .ref (a 43)), (5, .ref (a 42)), (0, .ref (a 8)), (1, .ref (a 7)), (2, .int 2), (4, .int p1)]) (fun n_34 H locs ls ih_33 hI => ?_) (39600 - y_24.toInt : Int).toNat ⟨G_20, y_24, y_30, y_27, 0, (Int.toNat_of_nonneg ((by first | exact ok_354 ha_p0.2 ty_24 | omega))), ⟨(by first | exact ok_182 ty_24 | omega), (by first | exact ok_355 ha_p0.2 ty_24 | omega)⟩, ⟨(by first | exact ok_182 ty_30 | omega), (by first | (clear ha_p0 ha_p1 b_1; omega) | omega)⟩, ⟨(by first | exact ok_182 ty_27 | omega), (by first | (clear ha_p0 ha_p1 b_1; omega) | omega)⟩, ⟨(by decide), (by decide)⟩, Rc.rf, hW, hB_G_20, hF, Fr.rf, hS, lv_sub hl [0, 1, 2, 4, 5, 6, 7, 8, 9, 11] rfl⟩
  obtain ⟨G_31, x_35, x_36, x_37, x_38, hn_45, f_41, f_42, f_43, f_44, hX_39, hW, hB_G_31, hF, hq_32, hS, hl⟩ := hI
  refine lv_iload hx hb dX10_followHand_88 (lv_at hl 0 rfl) ?_
  refine lv_iload hx hb dX10_followHand_90 (lv_at hl 9 rfl) ?_
  refine lv_aload_n hx hb dX10_followHand_92 rfl (lv_at hl 7 rfl) ?_
  refine S_getI (v := (G.1 7 6)) (C := RX0) (T := TX0) (N := 8) hx hb hg iX0 hown hK hW kd_7 rfl 6 (lt_b rfl) (hg (Cond.fieldLink RX10 34 "SlabWalk$Course" "last" "I") m388) (fun _ h9 => h9) rfl ((hq_32.i9 7 6 rfl rfl).trans ((hq_21.i9 7 6 rfl rfl).trans ((hq_16.i9 7 6 rfl rfl).trans ((hq_11.i9 7 6 rfl rfl).trans ((hq_6.i9 7 6 rfl rfl).trans (rfl)))))) dX10_followHand_93 ?_
  refine va_mmin hx hb (by rw [hml]; exact hl.1.symm) hown (hg (Cond.methodLink RX10 49 Lib.Math.min.name) m1001) (hg (Cond.static Lib.Math.min.name) m636) (hg (Cond.initialized "java/lang/Math") m132) (hg (Cond.code Lib.Math.min.name Lib.Math.min.code 2 (some .int)) m637) (Nat.le_of_ble_eq_true rfl) (Nat.le_of_ble_eq_true rfl) (Nat.le_of_ble_eq_true rfl) (Nat.le_of_ble_eq_true rfl) dX10_followHand_96 ?_
  refine lv_topi (fun y_46 ey_46 => ?_)
  have ty_46 := xI_min (X := p1.toInt) (Y := (G.1 7 6).toInt) rfl rfl ey_46
  refine lv_icmp_gt (tgt := 299) hx hb dX10_followHand_99 rfl (fun c_47 => ?_) (fun c_47 => ?_)
  · have c_47 : y_46.toInt < x_35.toInt := xI_lt rfl rfl c_47
    refine lv_iload hx hb dX10_followHand_299 (lv_at hl 3 rfl) ?_
    exact W.zret (v := x_38) hx hb hr (nar_z ((by first | exact f_44.1 | omega)) ((by first | exact f_44.2 | omega))) (fun t ht _ => ⟨⟨x_38, G_31, rfl, (P_tHand_2_mk ⟨hB_G_31, hF, ⟨(by first | exact f_44.1 | omega), (by first | exact f_44.2 | omega)⟩, ⟨G_5, hX_8, ⟨G_10, hX_13, ⟨G_15, hX_18, ⟨G_20, hX_23, ⟨y_24, ty_24, ⟨y_26, ty_26, ⟨y_27, ty_27, ⟨y_29, ty_29, ⟨y_30, ty_30, ⟨x_35, x_36, x_37, x_38, G_31, hX_39, f_41, f_42, f_43, f_44, hB_G_31, hq_32, ⟨y_46, ty_46, ⟨c_47, ⟨rfl, rfl⟩⟩⟩⟩⟩⟩⟩⟩⟩⟩⟩⟩⟩⟩), wd_t ht hW⟩, hS.F ht⟩) hS.2.2 dX10_followHand_301
  · have c_47 : x_35.toInt ≤ y_46.toInt := xI_nlt rfl rfl c_47
    refine loop_N (Inv := fun n H locs ls => ∃ (G_48 : GS) (x_52 : Int32), (n : Int) = 39600 - x_52.toInt ∧ (0 ≤ x_52.toInt ∧ x_52.toInt ≤ 39600) ∧ Rc (St_k_tHand_2_2 x_35 G) (x_37, G_31) (x_52, G_48) ∧ Wd D k A a G_48 H ∧ Bd G_48 ∧ Fr [42, 43, 48, 49, 50, 51] [(9, 2), (9, 3), (19, 2), (19, 3)] G G_48 ∧ Fr [48, 49] [(9, 3)] G_31 G_48 ∧ va_S A s.heap H locs ∧ lv_has ls 12 [(11, .int x_35), (10, .int x_36), (9, .int x_52), (7, .int x_38), (6, .ref (a 43)), (5, .ref (a 42)), (0, .ref (a 8)), (1, .ref (a 7)), (2, .int 2), (4, .int p1)]) (fun n_51 H locs ls ih_50 hI => ?_) (39600 - x_37.toInt : Int).toNat ⟨G_31, x_37, (Int.toNat_of_nonneg ((by first | exact ok_356 f_43.2 | omega))), ⟨(by first | exact f_43.1 | omega), (by first | exact f_43.2 | omega)⟩, Rc.rf, hW, hB_G_31, hF, Fr.rf, hS, lv_sub hl [0, 1, 2, 3, 4, 5, 6, 7, 8, 9] rfl⟩
    obtain ⟨G_48, x_52, hn_55, f_54, hX_53, hW, hB_G_48, hF, hq_49, hS, hl⟩ := hI
    refine lv_iload hx hb dX10_followHand_102 (lv_at hl 2 rfl) ?_
    refine lv_iload hx hb dX10_followHand_104 (lv_at hl 0 rfl) ?_
    refine lv_aload_n hx hb dX10_followHand_106 rfl (lv_at hl 7 rfl) ?_
    have b_56 : 0 ≤ (G.1 7 3).toInt ∧ (G.1 7 3).toInt ≤ 60 := bd_7_3 hB_G
    refine S_getI (v := (G.1 7 3)) (C := RX0) (T := TX0) (N := 8) hx hb hg iX0 hown hK hW kd_7 rfl 3 (lt_b rfl) (hg (Cond.fieldLink RX10 61 "SlabWalk$Course" "least" "I") m378) (fun _ h9 => h9) rfl ((hq_49.i9 7 3 rfl rfl).trans ((hq_32.i9 7 3 rfl rfl).trans ((hq_21.i9 7 3 rfl rfl).trans ((hq_16.i9 7 3 rfl rfl).trans ((hq_11.i9 7 3 rfl rfl).trans (hq_6.i9 7 3 rfl rfl)))))) dX10_followHand_107 ?_
    refine lv_isub hx hb dX10_followHand_110 ?_
    refine lv_topi (fun y_57 ey_57 => ?_)
    have ty_57 : y_57.toInt = x_35.toInt - (G.1 7 3).toInt := xI_sub rfl rfl ey_57 ((by first | exact ok_226 f_41.1 b_56.2 | omega)) ((by first | exact ok_357 f_41.2 b_56.1 | omega))
    refine W.cut (σ := Unit) (pcJ := 161) (J := fun y H locs ls => ∃ (G_68 : GS), Jn_k_tHand_2_3 x_52 y_57 G G_48 G_68 ∧ Wd D k A a G_68 H ∧ Bd G_68 ∧ Fr [42, 43, 48, 49, 50, 51] [(9, 2), (9, 3), (19, 2), (19, 3)] G G_68 ∧ Fr [] [] G_48 G_68 ∧ va_S A s.heap H locs ∧ lv_has ls 12 [(11, .int x_35), (10, .int x_36), (9, .int x_52), (7, .int x_38), (6, .ref (a 43)), (5, .ref (a 42)), (0, .ref (a 8)), (1, .ref (a 7)), (2, .int 2), (4, .int p1)]) (stJ := fun _ => []) ?_ (fun hJ_69 => ?_)
    · intro y H locs ls hI
      obtain ⟨G_68, hX_71, hW, hB_G_68, hF, hq_70, hS, hl⟩ := hI
      refine loop_N (Inv := fun n H locs ls => ∃ (G_72 : GS) (x_76 : Int32), (n : Int) = 39600 - x_76.toInt ∧ (0 ≤ x_76.toInt ∧ x_76.toInt ≤ 39600) ∧ Rc (St_k_tHand_2_4 x_35 G) (x_36, G_68) (x_76, G_72) ∧ Wd D k A a G_72 H ∧ Bd G_72 ∧ Fr [42, 43, 48, 49, 50, 51] [(9, 2), (9, 3), (19, 2), (19, 3)] G G_72 ∧ Fr [50, 51] [(19, 3)] G_68 G_72 ∧ va_S A s.heap H locs ∧ lv_has ls 12 [(11, .int x_35), (10, .int x_76), (9, .int x_52), (7, .int x_38), (6, .ref (a 43)), (5, .ref (a 42)), (0, .ref (a 8)), (1, .ref (a 7)), (2, .int 2), (4, .int p1)]) (fun n_75 H locs ls ih_74 hI => ?_) (39600 - x_36.toInt : Int).toNat ⟨G_68, x_36, (Int.toNat_of_nonneg ((by first | exact ok_356 f_42.2 | omega))), ⟨(by first | exact f_42.1 | omega), (by first | exact f_42.2 | omega)⟩, Rc.rf, hW, hB_G_68, hF, Fr.rf, hS, lv_sub hl [0, 1, 2, 3, 4, 5, 6, 7, 8, 9] rfl⟩
      obtain ⟨G_72, x_76, hn_79, f_78, hX_77, hW, hB_G_72, hF, hq_73, hS, hl⟩ := hI
      refine lv_iload hx hb dX10_followHand_161 (lv_at hl 1 rfl) ?_
      refine lv_iload hx hb dX10_followHand_163 (lv_at hl 0 rfl) ?_
      refine lv_aload_n hx hb dX10_followHand_165 rfl (lv_at hl 7 rfl) ?_
      refine S_getI (v := (G.1 7 4)) (C := RX0) (T := TX0) (N := 8) hx hb hg iX0 hown hK hW kd_7 rfl 4 (lt_b rfl) (hg (Cond.fieldLink RX10 64 "SlabWalk$Course" "most" "I") m383) (fun _ h9 => h9) rfl ((hq_73.i9 7 4 rfl rfl).trans ((hq_70.i9 7 4 rfl rfl).trans ((hq_49.i9 7 4 rfl rfl).trans ((hq_32.i9 7 4 rfl rfl).trans ((hq_21.i9 7 4 rfl rfl).trans ((hq_16.i9 7 4 rfl rfl).trans ((hq_11.i9 7 4 rfl rfl).trans ((hq_6.i9 7 4 rfl rfl).trans (rfl))))))))) dX10_followHand_166 ?_
      refine lv_isub hx hb dX10_followHand_169 ?_
      refine lv_topi (fun y_80 ey_80 => ?_)
      have ty_80 : y_80.toInt = x_35.toInt - (G.1 7 4).toInt := xI_sub rfl rfl ey_80 ((by first | exact ok_358 b_25.2 f_41.1 | omega)) ((by first | exact ok_359 b_25.1 f_41.2 | omega))
      refine W.cut (σ := Unit) (pcJ := 213) (J := fun y H locs ls => ∃ (G_91 : GS), Jn_k_tHand_2_5 x_76 y_80 G G_72 G_91 ∧ Wd D k A a G_91 H ∧ Bd G_91 ∧ Fr [42, 43, 48, 49, 50, 51] [(9, 2), (9, 3), (19, 2), (19, 3)] G G_91 ∧ Fr [] [] G_72 G_91 ∧ va_S A s.heap H locs ∧ lv_has ls 12 [(11, .int x_35), (10, .int x_76), (9, .int x_52), (7, .int x_38), (6, .ref (a 43)), (5, .ref (a 42)), (0, .ref (a 8)), (1, .ref (a 7)), (2, .int 2), (4, .int p1)]) (stJ := fun _ => []) ?_ (fun hJ_92 => ?_)
      · intro y H locs ls hI
        obtain ⟨G_91, hX_94, hW, hB_G_91, hF, hq_93, hS, hl⟩ := hI
        refine lv_aload_n hx hb dX10_followHand_213 rfl (lv_at hl 7 rfl) ?_
        refine S_getR (n := 40) (C := RX0) (T := TX0) (N := 8) hx hb hg iX0 hown hK hW kd_7 rfl 0 (lt_b rfl) (hg (Cond.fieldLink RX10 55 "SlabWalk$Course" "lawful" "[Z") m373) (fun _ h9 => h9) rfl dX10_followHand_214 ?_
        refine lv_iload hx hb dX10_followHand_217 (lv_at hl 0 rfl) ?_
        refine S_zald hx hb hK hW kd_40 (vin ((by first | exact f_41.1 | omega)) ((by first | (clear ha_p1 hn_45 f_42 f_43 f_44 hn_55 f_54 hn_79 f_78; omega) | omega))) dX10_followHand_219 (fun y_95 ey_95 => ?_)
        have ty_95 : 0 ≤ y_95.toInt ∧ y_95.toInt ≤ 1 := bv_40 hB_G_91 ey_95
        refine lv_if_eq (tgt := 293) hx hb dX10_followHand_220 rfl (fun c_96 => ?_) (fun c_96 => ?_)
        · have c_96 : y_95.toInt = 0 := xI_eq rfl rfl c_96
          obtain ⟨y_97, ey_97⟩ : ∃ q, q = x_35 + 1 := ⟨_, rfl⟩
          have ty_97 : y_97.toInt = x_35.toInt + 1 := xI_add rfl rfl ey_97 ((by first | exact ok_21 f_41.1 | omega)) ((by first | exact ok_360 f_41.2 | omega))
          refine lv_iinc (v := y_97) (lv' := [(11, .int y_97), (10, .int x_76), (9, .int x_52), (7, .int x_38), (6, .ref (a 43)), (5, .ref (a 42)), (0, .ref (a 8)), (1, .ref (a 7)), (2, .int 2), (4, .int p1)]) hx hb dX10_followHand_293 hl (k := 0) rfl (by rw [ey_97]; rfl) (lt_b rfl) rfl (fun ls hl => ?_)
          refine lv_goto (tgt := 88) hx hb dX10_followHand_296 rfl ?_
          exact ih_33 (39600 - y_97.toInt : Int).toNat ((by first | (clear ha_p1 f_42 f_43 f_44 hn_55 f_54 hn_79 f_78 ty_95 c_96; omega) | omega)) _ _ _ ⟨G_91, y_97, x_76, x_52, x_38, (Int.toNat_of_nonneg ((by first | (clear ha_p1 hn_45 f_42 f_43 f_44 hn_55 f_54 hn_79 f_78 ty_95 c_96; omega) | omega))), ⟨(by first | exact ok_23 f_41.1 ty_97 | omega), (by first | (clear ha_p1 hn_45 f_42 f_43 f_44 hn_55 f_54 hn_79 f_78 ty_95 c_96; omega) | omega)⟩, ⟨(by first | exact f_78.1 | omega), (by first | exact f_78.2 | omega)⟩, ⟨(by first | exact f_54.1 | omega), (by first | exact f_54.2 | omega)⟩, ⟨(by first | exact f_44.1 | omega), (by first | exact f_44.2 | omega)⟩, (hX_39.st (St_k_tHand_2_1_mk ⟨x_35, x_36, x_37, x_38, G_31, y_97, x_76, x_52, x_38, G_91, rfl, rfl, f_41, f_42, f_43, f_44, hB_G_31, ⟨y_46, ty_46, ⟨c_47, ⟨x_52, G_48, hX_53, f_54, hB_G_48, hq_49, ⟨y_57, ty_57, ⟨G_68, hX_71, hB_G_68, hq_70, ⟨x_76, G_72, hX_77, f_78, hB_G_72, hq_73, ⟨y_80, ty_80, ⟨G_91, hX_94, hB_G_91, hq_93, ⟨y_95, ey_95, (Or.inl ⟨c_96, ⟨y_97, ty_97, ⟨rfl, rfl, rfl, rfl, rfl⟩⟩⟩)⟩⟩⟩⟩⟩⟩⟩⟩⟩⟩)), hW, hB_G_91, hF, (Fr.call9 (rs := [42, 43, 48, 49, 50, 51]) (fs := [(9, 2), (9, 3), (19, 2), (19, 3)]) (Fr.call9 (rs := [42, 43, 48, 49, 50, 51]) (fs := [(9, 2), (9, 3), (19, 2), (19, 3)]) (Fr.call9 (rs := [42, 43, 48, 49, 50, 51]) (fs := [(9, 2), (9, 3), (19, 2), (19, 3)]) (Fr.call9 (rs := [42, 43, 48, 49, 50, 51]) (fs := [(9, 2), (9, 3), (19, 2), (19, 3)]) (Fr.call9 (rs := [42, 43, 48, 49, 50, 51]) (fs := [(9, 2), (9, 3), (19, 2), (19, 3)]) Fr.rf hq_32 rfl rfl) hq_49 rfl rfl) hq_70 rfl rfl) hq_73 rfl rfl) hq_93 rfl rfl), hS, lv_sub hl [0, 1, 2, 3, 4, 5, 6, 7, 8, 9] rfl⟩
        · have c_96 : y_95.toInt ≠ 0 := xI_ne rfl rfl c_96
          refine lv_aload hx hb dX10_followHand_223 (lv_at hl 5 rfl) ?_
          refine lv_iload hx hb dX10_followHand_225 (lv_at hl 0 rfl) ?_
          refine lv_aload_n hx hb dX10_followHand_227 rfl (lv_at hl 6 rfl) ?_
          refine S_getR (n := 9) (C := RX10) (T := TX10) (N := 5) hx hb hg iX10 hown hK hW kd_8 rfl 1 (lt_b rfl) (hg (Cond.fieldLink RX10 19 "SlabWalk$Trails" "steps" "LSlabWalk$Minima;") m441) (fun _ h9 => h9) rfl dX10_followHand_228 ?_
          refine lv_iload hx hb dX10_followHand_231 (lv_at hl 0 rfl) ?_
          refine lv_aload_n hx hb dX10_followHand_233 rfl (lv_at hl 7 rfl) ?_
          refine S_getI (v := (G.1 7 4)) (C := RX0) (T := TX0) (N := 8) hx hb hg iX0 hown hK hW kd_7 rfl 4 (lt_b rfl) (hg (Cond.fieldLink RX10 64 "SlabWalk$Course" "most" "I") m383) (fun _ h9 => h9) rfl ((hq_93.i9 7 4 rfl rfl).trans ((hq_73.i9 7 4 rfl rfl).trans ((hq_70.i9 7 4 rfl rfl).trans ((hq_49.i9 7 4 rfl rfl).trans ((hq_32.i9 7 4 rfl rfl).trans ((hq_21.i9 7 4 rfl rfl).trans ((hq_16.i9 7 4 rfl rfl).trans ((hq_11.i9 7 4 rfl rfl).trans ((hq_6.i9 7 4 rfl rfl).trans (rfl)))))))))) dX10_followHand_234 ?_
          refine lv_isub hx hb dX10_followHand_237 ?_
          refine lv_topi (fun y_98 ey_98 => ?_)
          have ty_98 : y_98.toInt = x_35.toInt - (G.1 7 4).toInt := xI_sub rfl rfl ey_98 ((by first | exact ok_358 b_25.2 f_41.1 | omega)) ((by first | exact ok_359 b_25.1 f_41.2 | omega))
          refine S_calli (va_runV (As := [.int y_98]) (rest := [.int x_35, .ref (a 42)]) ⟨hx, hb, hml, hown, hts⟩ (k_mleast_9 l D k A a z G_91 y_98 ) (cwV 1 hts (gd_V hgd m1108 m1109 m1110 m125 m1111) rfl rfl rfl hd_X4_leastFrom ⟨Nat.le_of_ble_eq_true rfl, Nat.le_of_ble_eq_true rfl⟩) (pre_W hW hB_G_91 hK hZ hS kd_9 rfl) rfl rfl hl.1 rfl (lv_room (Nat.le_of_ble_eq_true rfl)) dX10_followHand_238 ⟨Nat.le_of_ble_eq_true rfl, Nat.le_of_ble_eq_true rfl⟩) hS (fun r_99 G_100 H locs hpo hW hS => ?_)
          have hX_103 : P_mleast_9 y_98 G_91 r_99 G_100 := hpo
          obtain ⟨hB_G_100, hq_101, -⟩ := hpo
          have hF := hF.call9 hq_101 rfl rfl
          refine S_iast hx hb hK hW hS kd_42 (vin ((by first | exact f_41.1 | omega)) ((by first | exact ok_361 hci.1 f_41.2 ty_46 c_47 | omega))) dX10_followHand_241 (fun G_104 H locs eG_104 hW hS => ?_)
          have hB_G_104 : Bd G_104 := hB_G_100.put (lo := (-2147483648)) (hi := 2147483647) eG_104 rfl rfl rfl (tI_rng _).1 (tI_rng _).2 (hB_G_100.2.put eG_104 rfl)
          have hF := hF.put eG_104 (Or.inl (by decide))
          refine lv_aload hx hb dX10_followHand_242 (lv_at hl 4 rfl) ?_
          refine lv_iload hx hb dX10_followHand_244 (lv_at hl 0 rfl) ?_
          refine lv_aload_n hx hb dX10_followHand_246 rfl (lv_at hl 6 rfl) ?_
          refine S_getR (n := 19) (C := RX10) (T := TX10) (N := 5) hx hb hg iX10 hown hK hW kd_8 rfl 2 (lt_b rfl) (hg (Cond.fieldLink RX10 23 "SlabWalk$Trails" "leaps" "LSlabWalk$Minima;") m442) (fun _ h9 => h9) rfl dX10_followHand_247 ?_
          refine lv_iload hx hb dX10_followHand_250 (lv_at hl 0 rfl) ?_
          refine lv_aload_n hx hb dX10_followHand_252 rfl (lv_at hl 7 rfl) ?_
          refine S_getI (v := (G.1 7 5)) (C := RX0) (T := TX0) (N := 8) hx hb hg iX0 hown hK hW kd_7 rfl 5 (lt_b rfl) (hg (Cond.fieldLink RX10 71 "SlabWalk$Course" "leap" "I") m386) (fun _ h9 => h9) rfl ((gp_ne eG_104 (fun q => absurd q.1 (Nat.ne_of_beq_eq_false rfl))).trans ((hq_101.i9 7 5 rfl rfl).trans ((hq_93.i9 7 5 rfl rfl).trans ((hq_73.i9 7 5 rfl rfl).trans ((hq_70.i9 7 5 rfl rfl).trans ((hq_49.i9 7 5 rfl rfl).trans ((hq_32.i9 7 5 rfl rfl).trans ((hq_21.i9 7 5 rfl rfl).trans ((hq_16.i9 7 5 rfl rfl).trans ((hq_11.i9 7 5 rfl rfl).trans ((hq_6.i9 7 5 rfl rfl).trans (rfl)))))))))))) dX10_followHand_253 ?_
          refine lv_isub hx hb dX10_followHand_256 ?_
          refine lv_topi (fun y_105 ey_105 => ?_)
          have ty_105 : y_105.toInt = x_35.toInt - (G.1 7 5).toInt := xI_sub rfl rfl ey_105 ((by first | exact ok_362 b_28.2 f_41.1 | omega)) ((by first | exact ok_359 b_28.1 f_41.2 | omega))
          refine S_calli (va_runV (As := [.int y_105]) (rest := [.int x_35, .ref (a 43)]) ⟨hx, hb, hml, hown, hts⟩ (k_mleast_19 l D k A a z G_104 y_105 ) (cwV 1 hts (gd_V hgd m1108 m1109 m1110 m125 m1111) rfl rfl rfl hd_X4_leastFrom ⟨Nat.le_of_ble_eq_true rfl, Nat.le_of_ble_eq_true rfl⟩) (pre_W hW hB_G_104 hK hZ hS kd_19 rfl) rfl rfl hl.1 rfl (lv_room (Nat.le_of_ble_eq_true rfl)) dX10_followHand_257 ⟨Nat.le_of_ble_eq_true rfl, Nat.le_of_ble_eq_true rfl⟩) hS (fun r_106 G_107 H locs hpo hW hS => ?_)
          have hX_110 : P_mleast_19 y_105 G_104 r_106 G_107 := hpo
          obtain ⟨hB_G_107, hq_108, -⟩ := hpo
          have hF := hF.call9 hq_108 rfl rfl
          refine S_iast hx hb hK hW hS kd_43 (vin ((by first | exact f_41.1 | omega)) ((by first | exact ok_361 hci.1 f_41.2 ty_46 c_47 | omega))) dX10_followHand_260 (fun G_111 H locs eG_111 hW hS => ?_)
          have hB_G_111 : Bd G_111 := hB_G_107.put (lo := (-2147483648)) (hi := 2147483647) eG_111 rfl rfl rfl (tI_rng _).1 (tI_rng _).2 (hB_G_107.2.put eG_111 rfl)
          have hF := hF.put eG_111 (Or.inl (by decide))
          refine lv_iload hx hb dX10_followHand_261 (lv_at hl 3 rfl) ?_
          refine lv_if_ne (tgt := 286) hx hb dX10_followHand_263 rfl (fun c_112 => ?_) (fun c_112 => ?_)
          · have c_112 : x_38.toInt ≠ 0 := xI_ne rfl rfl c_112
            refine ic_1 hx hb dX10_followHand_286 ?_
            refine lv_goto (tgt := 291) hx hb dX10_followHand_287 rfl ?_
            refine lv_istore (lv' := [(7, .int 1), (11, .int x_35), (10, .int x_76), (9, .int x_52), (6, .ref (a 43)), (5, .ref (a 42)), (0, .ref (a 8)), (1, .ref (a 7)), (2, .int 2), (4, .int p1)]) hx hb dX10_followHand_291 hl (lt_b rfl) rfl (fun ls hl => ?_)
            obtain ⟨y_113, ey_113⟩ : ∃ q, q = x_35 + 1 := ⟨_, rfl⟩
            have ty_113 : y_113.toInt = x_35.toInt + 1 := xI_add rfl rfl ey_113 ((by first | exact ok_21 f_41.1 | omega)) ((by first | exact ok_360 f_41.2 | omega))
            refine lv_iinc (v := y_113) (lv' := [(11, .int y_113), (7, .int 1), (10, .int x_76), (9, .int x_52), (6, .ref (a 43)), (5, .ref (a 42)), (0, .ref (a 8)), (1, .ref (a 7)), (2, .int 2), (4, .int p1)]) hx hb dX10_followHand_293 hl (k := 1) rfl (by rw [ey_113]; rfl) (lt_b rfl) rfl (fun ls hl => ?_)
            refine lv_goto (tgt := 88) hx hb dX10_followHand_296 rfl ?_
            have qc_114 : (1 : Int32).toInt = 1 := rfl
            exact ih_33 (39600 - y_113.toInt : Int).toNat ((by first | (clear ha_p1 f_42 f_43 f_44 hn_55 f_54 hn_79 f_78 ty_95 c_96 c_112; omega) | omega)) _ _ _ ⟨G_111, y_113, x_76, x_52, 1, (Int.toNat_of_nonneg ((by first | (clear ha_p1 hn_45 f_42 f_43 f_44 hn_55 f_54 hn_79 f_78 ty_95 c_96 c_112; omega) | omega))), ⟨(by first | exact ok_23 f_41.1 ty_113 | omega), (by first | (clear ha_p1 hn_45 f_42 f_43 f_44 hn_55 f_54 hn_79 f_78 ty_95 c_96 c_112; omega) | omega)⟩, ⟨(by first | exact f_78.1 | omega), (by first | exact f_78.2 | omega)⟩, ⟨(by first | exact f_54.1 | omega), (by first | exact f_54.2 | omega)⟩, ⟨(by decide), (by decide)⟩, (hX_39.st (St_k_tHand_2_1_mk ⟨x_35, x_36, x_37, x_38, G_31, y_113, x_76, x_52, 1, G_111, rfl, rfl, f_41, f_42, f_43, f_44, hB_G_31, ⟨y_46, ty_46, ⟨c_47, ⟨x_52, G_48, hX_53, f_54, hB_G_48, hq_49, ⟨y_57, ty_57, ⟨G_68, hX_71, hB_G_68, hq_70, ⟨x_76, G_72, hX_77, f_78, hB_G_72, hq_73, ⟨y_80, ty_80, ⟨G_91, hX_94, hB_G_91, hq_93, ⟨y_95, ey_95, (Or.inr ⟨c_96, ⟨y_98, ty_98, ⟨r_99, G_100, hX_103, ⟨y_105, ty_105, ⟨G_104, hB_G_104, (Fr.put (rs := [42]) (fs := []) Fr.rf eG_104 (Or.inl (by decide))), rw_ast eG_104, ⟨r_106, G_107, hX_110, (Or.inr ⟨c_112, ⟨y_113, ty_113, ⟨rfl, rfl, rfl, rfl, (Fr.put (rs := [43]) (fs := []) Fr.rf eG_111 (Or.inl (by decide))), rw_ast eG_111⟩⟩⟩)⟩⟩⟩⟩⟩⟩)⟩⟩⟩⟩⟩⟩⟩⟩⟩⟩)), hW, hB_G_111, hF, (Fr.put (rs := [42, 43, 48, 49, 50, 51]) (fs := [(9, 2), (9, 3), (19, 2), (19, 3)]) (Fr.call9 (rs := [42, 43, 48, 49, 50, 51]) (fs := [(9, 2), (9, 3), (19, 2), (19, 3)]) (Fr.put (rs := [42, 43, 48, 49, 50, 51]) (fs := [(9, 2), (9, 3), (19, 2), (19, 3)]) (Fr.call9 (rs := [42, 43, 48, 49, 50, 51]) (fs := [(9, 2), (9, 3), (19, 2), (19, 3)]) (Fr.call9 (rs := [42, 43, 48, 49, 50, 51]) (fs := [(9, 2), (9, 3), (19, 2), (19, 3)]) (Fr.call9 (rs := [42, 43, 48, 49, 50, 51]) (fs := [(9, 2), (9, 3), (19, 2), (19, 3)]) (Fr.call9 (rs := [42, 43, 48, 49, 50, 51]) (fs := [(9, 2), (9, 3), (19, 2), (19, 3)]) (Fr.call9 (rs := [42, 43, 48, 49, 50, 51]) (fs := [(9, 2), (9, 3), (19, 2), (19, 3)]) (Fr.call9 (rs := [42, 43, 48, 49, 50, 51]) (fs := [(9, 2), (9, 3), (19, 2), (19, 3)]) Fr.rf hq_32 rfl rfl) hq_49 rfl rfl) hq_70 rfl rfl) hq_73 rfl rfl) hq_93 rfl rfl) hq_101 rfl rfl) eG_104 (Or.inl (by decide))) hq_108 rfl rfl) eG_111 (Or.inl (by decide))), hS, lv_sub hl [0, 2, 3, 1, 4, 5, 6, 7, 8, 9] rfl⟩
          · have c_112 : x_38.toInt = 0 := xI_eq rfl rfl c_112
            refine lv_aload hx hb dX10_followHand_266 (lv_at hl 5 rfl) ?_
            refine lv_iload hx hb dX10_followHand_268 (lv_at hl 0 rfl) ?_
            refine S_iald hx hb hK hW kd_42 (vin ((by first | exact f_41.1 | omega)) ((by first | exact ok_361 hci.1 f_41.2 ty_46 c_47 | omega))) dX10_followHand_270 (fun y_115 ey_115 => ?_)
            refine lv_ldc (v := 1000000) hx hb hown (hg (Cond.constant RX10 44 1000000) m997) dX10_followHand_271 ?_
            refine lv_icmp_lt (tgt := 286) hx hb dX10_followHand_273 rfl (fun c_116 => ?_) (fun c_116 => ?_)
            · have c_116 : y_115.toInt < 1000000 := xI_lt rfl rfl c_116
              refine ic_1 hx hb dX10_followHand_286 ?_
              refine lv_goto (tgt := 291) hx hb dX10_followHand_287 rfl ?_
              refine lv_istore (lv' := [(7, .int 1), (11, .int x_35), (10, .int x_76), (9, .int x_52), (6, .ref (a 43)), (5, .ref (a 42)), (0, .ref (a 8)), (1, .ref (a 7)), (2, .int 2), (4, .int p1)]) hx hb dX10_followHand_291 hl (lt_b rfl) rfl (fun ls hl => ?_)
              obtain ⟨y_117, ey_117⟩ : ∃ q, q = x_35 + 1 := ⟨_, rfl⟩
              have ty_117 : y_117.toInt = x_35.toInt + 1 := xI_add rfl rfl ey_117 ((by first | exact ok_21 f_41.1 | omega)) ((by first | exact ok_360 f_41.2 | omega))
              refine lv_iinc (v := y_117) (lv' := [(11, .int y_117), (7, .int 1), (10, .int x_76), (9, .int x_52), (6, .ref (a 43)), (5, .ref (a 42)), (0, .ref (a 8)), (1, .ref (a 7)), (2, .int 2), (4, .int p1)]) hx hb dX10_followHand_293 hl (k := 1) rfl (by rw [ey_117]; rfl) (lt_b rfl) rfl (fun ls hl => ?_)
              refine lv_goto (tgt := 88) hx hb dX10_followHand_296 rfl ?_
              have qc_118 : (1 : Int32).toInt = 1 := rfl
              exact ih_33 (39600 - y_117.toInt : Int).toNat ((by first | (clear ha_p1 f_42 f_43 f_44 hn_55 f_54 hn_79 f_78 ty_95 c_96 c_112 c_116; omega) | omega)) _ _ _ ⟨G_111, y_117, x_76, x_52, 1, (Int.toNat_of_nonneg ((by first | (clear ha_p1 hn_45 f_42 f_43 f_44 hn_55 f_54 hn_79 f_78 ty_95 c_96 c_112 c_116; omega) | omega))), ⟨(by first | exact ok_23 f_41.1 ty_117 | omega), (by first | (clear ha_p1 hn_45 f_42 f_43 f_44 hn_55 f_54 hn_79 f_78 ty_95 c_96 c_112 c_116; omega) | omega)⟩, ⟨(by first | exact f_78.1 | omega), (by first | exact f_78.2 | omega)⟩, ⟨(by first | exact f_54.1 | omega), (by first | exact f_54.2 | omega)⟩, ⟨(by decide), (by decide)⟩, (hX_39.st (St_k_tHand_2_1_mk ⟨x_35, x_36, x_37, x_38, G_31, y_117, x_76, x_52, 1, G_111, rfl, rfl, f_41, f_42, f_43, f_44, hB_G_31, ⟨y_46, ty_46, ⟨c_47, ⟨x_52, G_48, hX_53, f_54, hB_G_48, hq_49, ⟨y_57, ty_57, ⟨G_68, hX_71, hB_G_68, hq_70, ⟨x_76, G_72, hX_77, f_78, hB_G_72, hq_73, ⟨y_80, ty_80, ⟨G_91, hX_94, hB_G_91, hq_93, ⟨y_95, ey_95, (Or.inr ⟨c_96, ⟨y_98, ty_98, ⟨r_99, G_100, hX_103, ⟨y_105, ty_105, ⟨G_104, hB_G_104, (Fr.put (rs := [42]) (fs := []) Fr.rf eG_104 (Or.inl (by decide))), rw_ast eG_104, ⟨r_106, G_107, hX_110, (Or.inl ⟨c_112, ⟨y_115, ey_115.trans (congrFun (rw_put eG_111 (by decide)) _), (Or.inl ⟨c_116, ⟨y_117, ty_117, ⟨rfl, rfl, rfl, rfl, (Fr.put (rs := [43]) (fs := []) Fr.rf eG_111 (Or.inl (by decide))), rw_ast eG_111⟩⟩⟩)⟩⟩)⟩⟩⟩⟩⟩⟩)⟩⟩⟩⟩⟩⟩⟩⟩⟩⟩)), hW, hB_G_111, hF, (Fr.put (rs := [42, 43, 48, 49, 50, 51]) (fs := [(9, 2), (9, 3), (19, 2), (19, 3)]) (Fr.call9 (rs := [42, 43, 48, 49, 50, 51]) (fs := [(9, 2), (9, 3), (19, 2), (19, 3)]) (Fr.put (rs := [42, 43, 48, 49, 50, 51]) (fs := [(9, 2), (9, 3), (19, 2), (19, 3)]) (Fr.call9 (rs := [42, 43, 48, 49, 50, 51]) (fs := [(9, 2), (9, 3), (19, 2), (19, 3)]) (Fr.call9 (rs := [42, 43, 48, 49, 50, 51]) (fs := [(9, 2), (9, 3), (19, 2), (19, 3)]) (Fr.call9 (rs := [42, 43, 48, 49, 50, 51]) (fs := [(9, 2), (9, 3), (19, 2), (19, 3)]) (Fr.call9 (rs := [42, 43, 48, 49, 50, 51]) (fs := [(9, 2), (9, 3), (19, 2), (19, 3)]) (Fr.call9 (rs := [42, 43, 48, 49, 50, 51]) (fs := [(9, 2), (9, 3), (19, 2), (19, 3)]) (Fr.call9 (rs := [42, 43, 48, 49, 50, 51]) (fs := [(9, 2), (9, 3), (19, 2), (19, 3)]) Fr.rf hq_32 rfl rfl) hq_49 rfl rfl) hq_70 rfl rfl) hq_73 rfl rfl) hq_93 rfl rfl) hq_101 rfl rfl) eG_104 (Or.inl (by decide))) hq_108 rfl rfl) eG_111 (Or.inl (by decide))), hS, lv_sub hl [0, 2, 3, 1, 4, 5, 6, 7, 8, 9] rfl⟩
            · have c_116 : 1000000 ≤ y_115.toInt := xI_nlt rfl rfl c_116
              refine lv_aload hx hb dX10_followHand_276 (lv_at hl 4 rfl) ?_
              refine lv_iload hx hb dX10_followHand_278 (lv_at hl 0 rfl) ?_
              refine S_iald hx hb hK hW kd_43 (vin ((by first | exact f_41.1 | omega)) ((by first | exact ok_361 hci.1 f_41.2 ty_46 c_47 | omega))) dX10_followHand_280 (fun y_119 ey_119 => ?_)
              refine lv_ldc (v := 1000000) hx hb hown (hg (Cond.constant RX10 44 1000000) m997) dX10_followHand_281 ?_
              refine lv_icmp_ge (tgt := 290) hx hb dX10_followHand_283 rfl (fun c_120 => ?_) (fun c_120 => ?_)
              · have c_120 : 1000000 ≤ y_119.toInt := xI_le rfl rfl c_120
                refine ic_0 hx hb dX10_followHand_290 ?_
                refine lv_istore (lv' := [(7, .int 0), (11, .int x_35), (10, .int x_76), (9, .int x_52), (6, .ref (a 43)), (5, .ref (a 42)), (0, .ref (a 8)), (1, .ref (a 7)), (2, .int 2), (4, .int p1)]) hx hb dX10_followHand_291 hl (lt_b rfl) rfl (fun ls hl => ?_)
                obtain ⟨y_121, ey_121⟩ : ∃ q, q = x_35 + 1 := ⟨_, rfl⟩
                have ty_121 : y_121.toInt = x_35.toInt + 1 := xI_add rfl rfl ey_121 ((by first | exact ok_21 f_41.1 | omega)) ((by first | exact ok_360 f_41.2 | omega))
                refine lv_iinc (v := y_121) (lv' := [(11, .int y_121), (7, .int 0), (10, .int x_76), (9, .int x_52), (6, .ref (a 43)), (5, .ref (a 42)), (0, .ref (a 8)), (1, .ref (a 7)), (2, .int 2), (4, .int p1)]) hx hb dX10_followHand_293 hl (k := 1) rfl (by rw [ey_121]; rfl) (lt_b rfl) rfl (fun ls hl => ?_)
                refine lv_goto (tgt := 88) hx hb dX10_followHand_296 rfl ?_
                have qc_122 : (0 : Int32).toInt = 0 := rfl
                exact ih_33 (39600 - y_121.toInt : Int).toNat ((by first | (clear ha_p1 f_42 f_43 f_44 hn_55 f_54 hn_79 f_78 ty_95 c_96 c_112 c_116 c_120; omega) | omega)) _ _ _ ⟨G_111, y_121, x_76, x_52, 0, (Int.toNat_of_nonneg ((by first | (clear ha_p1 hn_45 f_42 f_43 f_44 hn_55 f_54 hn_79 f_78 ty_95 c_96 c_112 c_116 c_120; omega) | omega))), ⟨(by first | exact ok_23 f_41.1 ty_121 | omega), (by first | (clear ha_p1 hn_45 f_42 f_43 f_44 hn_55 f_54 hn_79 f_78 ty_95 c_96 c_112 c_116 c_120; omega) | omega)⟩, ⟨(by first | exact f_78.1 | omega), (by first | exact f_78.2 | omega)⟩, ⟨(by first | exact f_54.1 | omega), (by first | exact f_54.2 | omega)⟩, ⟨(by decide), (by decide)⟩, (hX_39.st (St_k_tHand_2_1_mk ⟨x_35, x_36, x_37, x_38, G_31, y_121, x_76, x_52, 0, G_111, rfl, rfl, f_41, f_42, f_43, f_44, hB_G_31, ⟨y_46, ty_46, ⟨c_47, ⟨x_52, G_48, hX_53, f_54, hB_G_48, hq_49, ⟨y_57, ty_57, ⟨G_68, hX_71, hB_G_68, hq_70, ⟨x_76, G_72, hX_77, f_78, hB_G_72, hq_73, ⟨y_80, ty_80, ⟨G_91, hX_94, hB_G_91, hq_93, ⟨y_95, ey_95, (Or.inr ⟨c_96, ⟨y_98, ty_98, ⟨r_99, G_100, hX_103, ⟨y_105, ty_105, ⟨G_104, hB_G_104, (Fr.put (rs := [42]) (fs := []) Fr.rf eG_104 (Or.inl (by decide))), rw_ast eG_104, ⟨r_106, G_107, hX_110, (Or.inl ⟨c_112, ⟨y_115, ey_115.trans (congrFun (rw_put eG_111 (by decide)) _), (Or.inr ⟨c_116, ⟨y_119, ey_119.trans (congrFun (rw_ast eG_111) _), (Or.inl ⟨c_120, ⟨y_121, ty_121, ⟨rfl, rfl, rfl, rfl, (Fr.put (rs := [43]) (fs := []) Fr.rf eG_111 (Or.inl (by decide))), rw_ast eG_111⟩⟩⟩)⟩⟩)⟩⟩)⟩⟩⟩⟩⟩⟩)⟩⟩⟩⟩⟩⟩⟩⟩⟩⟩)), hW, hB_G_111, hF, (Fr.put (rs := [42, 43, 48, 49, 50, 51]) (fs := [(9, 2), (9, 3), (19, 2), (19, 3)]) (Fr.call9 (rs := [42, 43, 48, 49, 50, 51]) (fs := [(9, 2), (9, 3), (19, 2), (19, 3)]) (Fr.put (rs := [42, 43, 48, 49, 50, 51]) (fs := [(9, 2), (9, 3), (19, 2), (19, 3)]) (Fr.call9 (rs := [42, 43, 48, 49, 50, 51]) (fs := [(9, 2), (9, 3), (19, 2), (19, 3)]) (Fr.call9 (rs := [42, 43, 48, 49, 50, 51]) (fs := [(9, 2), (9, 3), (19, 2), (19, 3)]) (Fr.call9 (rs := [42, 43, 48, 49, 50, 51]) (fs := [(9, 2), (9, 3), (19, 2), (19, 3)]) (Fr.call9 (rs := [42, 43, 48, 49, 50, 51]) (fs := [(9, 2), (9, 3), (19, 2), (19, 3)]) (Fr.call9 (rs := [42, 43, 48, 49, 50, 51]) (fs := [(9, 2), (9, 3), (19, 2), (19, 3)]) (Fr.call9 (rs := [42, 43, 48, 49, 50, 51]) (fs := [(9, 2), (9, 3), (19, 2), (19, 3)]) Fr.rf hq_32 rfl rfl) hq_49 rfl rfl) hq_70 rfl rfl) hq_73 rfl rfl) hq_93 rfl rfl) hq_101 rfl rfl) eG_104 (Or.inl (by decide))) hq_108 rfl rfl) eG_111 (Or.inl (by decide))), hS, lv_sub hl [0, 2, 3, 1, 4, 5, 6, 7, 8, 9] rfl⟩
              · have c_120 : y_119.toInt < 1000000 := xI_nle rfl rfl c_120
                refine ic_1 hx hb dX10_followHand_286 ?_
                refine lv_goto (tgt := 291) hx hb dX10_followHand_287 rfl ?_
                refine lv_istore (lv' := [(7, .int 1), (11, .int x_35), (10, .int x_76), (9, .int x_52), (6, .ref (a 43)), (5, .ref (a 42)), (0, .ref (a 8)), (1, .ref (a 7)), (2, .int 2), (4, .int p1)]) hx hb dX10_followHand_291 hl (lt_b rfl) rfl (fun ls hl => ?_)
                obtain ⟨y_123, ey_123⟩ : ∃ q, q = x_35 + 1 := ⟨_, rfl⟩
                have ty_123 : y_123.toInt = x_35.toInt + 1 := xI_add rfl rfl ey_123 ((by first | exact ok_21 f_41.1 | omega)) ((by first | exact ok_360 f_41.2 | omega))
                refine lv_iinc (v := y_123) (lv' := [(11, .int y_123), (7, .int 1), (10, .int x_76), (9, .int x_52), (6, .ref (a 43)), (5, .ref (a 42)), (0, .ref (a 8)), (1, .ref (a 7)), (2, .int 2), (4, .int p1)]) hx hb dX10_followHand_293 hl (k := 1) rfl (by rw [ey_123]; rfl) (lt_b rfl) rfl (fun ls hl => ?_)
                refine lv_goto (tgt := 88) hx hb dX10_followHand_296 rfl ?_
                have qc_124 : (1 : Int32).toInt = 1 := rfl
                exact ih_33 (39600 - y_123.toInt : Int).toNat ((by first | (clear ha_p1 f_42 f_43 f_44 hn_55 f_54 hn_79 f_78 ty_95 c_96 c_112 c_116 c_120; omega) | omega)) _ _ _ ⟨G_111, y_123, x_76, x_52, 1, (Int.toNat_of_nonneg ((by first | (clear ha_p1 hn_45 f_42 f_43 f_44 hn_55 f_54 hn_79 f_78 ty_95 c_96 c_112 c_116 c_120; omega) | omega))), ⟨(by first | exact ok_23 f_41.1 ty_123 | omega), (by first | (clear ha_p1 hn_45 f_42 f_43 f_44 hn_55 f_54 hn_79 f_78 ty_95 c_96 c_112 c_116 c_120; omega) | omega)⟩, ⟨(by first | exact f_78.1 | omega), (by first | exact f_78.2 | omega)⟩, ⟨(by first | exact f_54.1 | omega), (by first | exact f_54.2 | omega)⟩, ⟨(by decide), (by decide)⟩, (hX_39.st (St_k_tHand_2_1_mk ⟨x_35, x_36, x_37, x_38, G_31, y_123, x_76, x_52, 1, G_111, rfl, rfl, f_41, f_42, f_43, f_44, hB_G_31, ⟨y_46, ty_46, ⟨c_47, ⟨x_52, G_48, hX_53, f_54, hB_G_48, hq_49, ⟨y_57, ty_57, ⟨G_68, hX_71, hB_G_68, hq_70, ⟨x_76, G_72, hX_77, f_78, hB_G_72, hq_73, ⟨y_80, ty_80, ⟨G_91, hX_94, hB_G_91, hq_93, ⟨y_95, ey_95, (Or.inr ⟨c_96, ⟨y_98, ty_98, ⟨r_99, G_100, hX_103, ⟨y_105, ty_105, ⟨G_104, hB_G_104, (Fr.put (rs := [42]) (fs := []) Fr.rf eG_104 (Or.inl (by decide))), rw_ast eG_104, ⟨r_106, G_107, hX_110, (Or.inl ⟨c_112, ⟨y_115, ey_115.trans (congrFun (rw_put eG_111 (by decide)) _), (Or.inr ⟨c_116, ⟨y_119, ey_119.trans (congrFun (rw_ast eG_111) _), (Or.inr ⟨c_120, ⟨y_123, ty_123, ⟨rfl, rfl, rfl, rfl, (Fr.put (rs := [43]) (fs := []) Fr.rf eG_111 (Or.inl (by decide))), rw_ast eG_111⟩⟩⟩)⟩⟩)⟩⟩)⟩⟩⟩⟩⟩⟩)⟩⟩⟩⟩⟩⟩⟩⟩⟩⟩)), hW, hB_G_111, hF, (Fr.put (rs := [42, 43, 48, 49, 50, 51]) (fs := [(9, 2), (9, 3), (19, 2), (19, 3)]) (Fr.call9 (rs := [42, 43, 48, 49, 50, 51]) (fs := [(9, 2), (9, 3), (19, 2), (19, 3)]) (Fr.put (rs := [42, 43, 48, 49, 50, 51]) (fs := [(9, 2), (9, 3), (19, 2), (19, 3)]) (Fr.call9 (rs := [42, 43, 48, 49, 50, 51]) (fs := [(9, 2), (9, 3), (19, 2), (19, 3)]) (Fr.call9 (rs := [42, 43, 48, 49, 50, 51]) (fs := [(9, 2), (9, 3), (19, 2), (19, 3)]) (Fr.call9 (rs := [42, 43, 48, 49, 50, 51]) (fs := [(9, 2), (9, 3), (19, 2), (19, 3)]) (Fr.call9 (rs := [42, 43, 48, 49, 50, 51]) (fs := [(9, 2), (9, 3), (19, 2), (19, 3)]) (Fr.call9 (rs := [42, 43, 48, 49, 50, 51]) (fs := [(9, 2), (9, 3), (19, 2), (19, 3)]) (Fr.call9 (rs := [42, 43, 48, 49, 50, 51]) (fs := [(9, 2), (9, 3), (19, 2), (19, 3)]) Fr.rf hq_32 rfl rfl) hq_49 rfl rfl) hq_70 rfl rfl) hq_73 rfl rfl) hq_93 rfl rfl) hq_101 rfl rfl) eG_104 (Or.inl (by decide))) hq_108 rfl rfl) eG_111 (Or.inl (by decide))), hS, lv_sub hl [0, 2, 3, 1, 4, 5, 6, 7, 8, 9] rfl⟩
      refine lv_icmp_ge (tgt := 213) hx hb dX10_followHand_170 rfl (fun c_125 => ?_) (fun c_125 => ?_)
      · have c_125 : y_80.toInt ≤ x_76.toInt := xI_le rfl rfl c_125
        exact hJ_92 () _ _ _ ⟨G_72, (Jn_k_tHand_2_5_mk (Or.inl ⟨c_125, rfl⟩)), hW, hB_G_72, hF, (Fr.rf (rs := []) (fs := [])), hS, lv_sub hl [0, 1, 2, 3, 4, 5, 6, 7, 8, 9] rfl⟩
      · have c_125 : x_76.toInt < y_80.toInt := xI_nle rfl rfl c_125
        refine lv_iload hx hb dX10_followHand_173 (lv_at hl 1 rfl) ?_
        refine lv_aload_n hx hb dX10_followHand_175 rfl (lv_at hl 7 rfl) ?_
        have b_126 : 0 ≤ (G.1 7 7).toInt ∧ (G.1 7 7).toInt ≤ 400 := bd_7_7 hB_G
        refine S_getI (v := (G.1 7 7)) (C := RX0) (T := TX0) (N := 8) hx hb hg iX0 hown hK hW kd_7 rfl 7 (lt_b rfl) (hg (Cond.fieldLink RX10 58 "SlabWalk$Course" "end" "I") m394) (fun _ h9 => h9) rfl ((hq_73.i9 7 7 rfl rfl).trans ((hq_70.i9 7 7 rfl rfl).trans ((hq_49.i9 7 7 rfl rfl).trans ((hq_32.i9 7 7 rfl rfl).trans ((hq_21.i9 7 7 rfl rfl).trans ((hq_16.i9 7 7 rfl rfl).trans ((hq_11.i9 7 7 rfl rfl).trans (hq_6.i9 7 7 rfl rfl)))))))) dX10_followHand_176 ?_
        refine lv_icmp_ge (tgt := 213) hx hb dX10_followHand_179 rfl (fun c_127 => ?_) (fun c_127 => ?_)
        · have c_127 : (G.1 7 7).toInt ≤ x_76.toInt := xI_le rfl rfl c_127
          exact hJ_92 () _ _ _ ⟨G_72, (Jn_k_tHand_2_5_mk (Or.inr ⟨c_125, ⟨c_127, rfl⟩⟩)), hW, hB_G_72, hF, (Fr.rf (rs := []) (fs := [])), hS, lv_sub hl [0, 1, 2, 3, 4, 5, 6, 7, 8, 9] rfl⟩
        · have c_127 : x_76.toInt < (G.1 7 7).toInt := xI_nle rfl rfl c_127
          refine lv_aload_n hx hb dX10_followHand_182 rfl (lv_at hl 6 rfl) ?_
          refine S_getR (n := 19) (C := RX10) (T := TX10) (N := 5) hx hb hg iX10 hown hK hW kd_8 rfl 2 (lt_b rfl) (hg (Cond.fieldLink RX10 23 "SlabWalk$Trails" "leaps" "LSlabWalk$Minima;") m442) (fun _ h9 => h9) rfl dX10_followHand_183 ?_
          refine lv_iload hx hb dX10_followHand_186 (lv_at hl 1 rfl) ?_
          refine lv_ldc (v := 1000000) hx hb hown (hg (Cond.constant RX10 44 1000000) m997) dX10_followHand_188 ?_
          refine lv_aload_n hx hb dX10_followHand_190 rfl (lv_at hl 6 rfl) ?_
          refine S_getR (n := 41) (C := RX10) (T := TX10) (N := 5) hx hb hg iX10 hown hK hW kd_8 rfl 0 (lt_b rfl) (hg (Cond.fieldLink RX10 13 "SlabWalk$Trails" "rows" "[[I") m440) (fun _ h9 => h9) rfl dX10_followHand_191 ?_
          refine lv_iload_n hx hb dX10_followHand_194 rfl (lv_at hl 8 rfl) ?_
          refine S_aald hx hb hK hW kd_41 (vin (by decide) (by decide)) dX10_followHand_195 ?_
          refine rows_at (n := 44) (rows_c hB_G_72 2 (by decide)) ?_
          refine lv_iload hx hb dX10_followHand_196 (lv_at hl 1 rfl) ?_
          refine S_iald hx hb hK hW kd_44 (vin ((by first | exact f_78.1 | omega)) ((by first | exact ok_363 f_78.2 b_126.2 c_127 | omega))) dX10_followHand_198 (fun y_128 ey_128 => ?_)
          refine ic_1 hx hb dX10_followHand_199 ?_
          refine lv_iadd hx hb dX10_followHand_200 ?_
          refine lv_topi (fun y_129 ey_129 => ?_)
          refine va_mmin hx hb (by rw [hml]; exact hl.1.symm) hown (hg (Cond.methodLink RX10 49 Lib.Math.min.name) m1001) (hg (Cond.static Lib.Math.min.name) m636) (hg (Cond.initialized "java/lang/Math") m132) (hg (Cond.code Lib.Math.min.name Lib.Math.min.code 2 (some .int)) m637) (Nat.le_of_ble_eq_true rfl) (Nat.le_of_ble_eq_true rfl) (Nat.le_of_ble_eq_true rfl) (Nat.le_of_ble_eq_true rfl) dX10_followHand_201 ?_
          refine lv_topi (fun y_130 ey_130 => ?_)
          have ty_130 := xI_min (X := 1000000) (Y := y_129.toInt) rfl rfl ey_130
          refine S_callv (va_runV (As := [.int x_76, .int y_130]) (rest := []) ⟨hx, hb, hml, hown, hts⟩ (k_madd_19 l D k A a z G_72 x_76 y_130 ) (cwV 2 hts (gd_V hgd m1104 m1105 m1106 m125 m1107) rfl rfl rfl hd_X4_add ⟨Nat.le_of_ble_eq_true rfl, Nat.le_of_ble_eq_true rfl⟩) (pre_W hW hB_G_72 hK hZ hS kd_19 rfl) rfl rfl hl.1 rfl (lv_room (Nat.le_of_ble_eq_true rfl)) dX10_followHand_204 ⟨Nat.le_of_ble_eq_true rfl, Nat.le_of_ble_eq_true rfl⟩) hS (fun G_132 H locs hpo hW hS => ?_)
          have hX_135 : P_madd_19 x_76 y_130 G_72 G_132 := hpo
          obtain ⟨hB_G_132, hq_133, -⟩ := hpo
          have hF := hF.call9 hq_133 rfl rfl
          obtain ⟨y_136, ey_136⟩ : ∃ q, q = x_76 + 1 := ⟨_, rfl⟩
          have ty_136 : y_136.toInt = x_76.toInt + 1 := xI_add rfl rfl ey_136 ((by first | exact ok_21 f_78.1 | omega)) ((by first | exact ok_360 f_78.2 | omega))
          refine lv_iinc (v := y_136) (lv' := [(10, .int y_136), (11, .int x_35), (9, .int x_52), (7, .int x_38), (6, .ref (a 43)), (5, .ref (a 42)), (0, .ref (a 8)), (1, .ref (a 7)), (2, .int 2), (4, .int p1)]) hx hb dX10_followHand_207 hl (k := 1) rfl (by rw [ey_136]; rfl) (lt_b rfl) rfl (fun ls hl => ?_)
          refine lv_goto (tgt := 161) hx hb dX10_followHand_210 rfl ?_
          exact ih_74 (39600 - y_136.toInt : Int).toNat ((by first | (clear ha_p0 ha_p1 b_1 f_42 f_43 f_44 ty_46 hn_55 f_54 ty_130; omega) | omega)) _ _ _ ⟨G_132, y_136, (Int.toNat_of_nonneg ((by first | (clear ha_p0 ha_p1 b_1 hn_45 f_42 f_43 f_44 ty_46 hn_55 f_54 hn_79 ty_130; omega) | omega))), ⟨(by first | exact ok_23 f_78.1 ty_136 | omega), (by first | (clear ha_p0 ha_p1 b_1 hn_45 f_42 f_43 f_44 ty_46 hn_55 f_54 hn_79 ty_130; omega) | omega)⟩, (hX_77.st (St_k_tHand_2_4_mk ⟨x_76, G_72, y_136, G_132, rfl, rfl, f_78, hB_G_72, ⟨y_80, ty_80, ⟨c_125, ⟨c_127, ⟨y_128, ey_128, ⟨y_129, ey_129, ⟨y_130, ty_130, ⟨G_132, hX_135, ⟨y_136, ty_136, ⟨rfl, rfl⟩⟩⟩⟩⟩⟩⟩⟩⟩⟩)), hW, hB_G_132, hF, (Fr.call9 (rs := [50, 51]) (fs := [(19, 3)]) (Fr.call9 (rs := [50, 51]) (fs := [(19, 3)]) Fr.rf hq_73 rfl rfl) hq_133 rfl rfl), hS, lv_sub hl [1, 0, 2, 3, 4, 5, 6, 7, 8, 9] rfl⟩
    refine lv_icmp_gt (tgt := 161) hx hb dX10_followHand_111 rfl (fun c_137 => ?_) (fun c_137 => ?_)
    · have c_137 : y_57.toInt < x_52.toInt := xI_lt rfl rfl c_137
      exact hJ_69 () _ _ _ ⟨G_48, (Jn_k_tHand_2_3_mk (Or.inl ⟨c_137, rfl⟩)), hW, hB_G_48, hF, (Fr.rf (rs := []) (fs := [])), hS, lv_sub hl [0, 1, 2, 3, 4, 5, 6, 7, 8, 9] rfl⟩
    · have c_137 : x_52.toInt ≤ y_57.toInt := xI_nlt rfl rfl c_137
      refine lv_iload hx hb dX10_followHand_114 (lv_at hl 2 rfl) ?_
      refine lv_aload_n hx hb dX10_followHand_116 rfl (lv_at hl 7 rfl) ?_
      have b_138 : 0 ≤ (G.1 7 7).toInt ∧ (G.1 7 7).toInt ≤ 400 := bd_7_7 hB_G
      refine S_getI (v := (G.1 7 7)) (C := RX0) (T := TX0) (N := 8) hx hb hg iX0 hown hK hW kd_7 rfl 7 (lt_b rfl) (hg (Cond.fieldLink RX10 58 "SlabWalk$Course" "end" "I") m394) (fun _ h9 => h9) rfl ((hq_49.i9 7 7 rfl rfl).trans ((hq_32.i9 7 7 rfl rfl).trans ((hq_21.i9 7 7 rfl rfl).trans ((hq_16.i9 7 7 rfl rfl).trans ((hq_11.i9 7 7 rfl rfl).trans (hq_6.i9 7 7 rfl rfl)))))) dX10_followHand_117 ?_
      refine lv_icmp_ge (tgt := 161) hx hb dX10_followHand_120 rfl (fun c_139 => ?_) (fun c_139 => ?_)
      · have c_139 : (G.1 7 7).toInt ≤ x_52.toInt := xI_le rfl rfl c_139
        exact hJ_69 () _ _ _ ⟨G_48, (Jn_k_tHand_2_3_mk (Or.inr ⟨c_137, ⟨c_139, rfl⟩⟩)), hW, hB_G_48, hF, (Fr.rf (rs := []) (fs := [])), hS, lv_sub hl [0, 1, 2, 3, 4, 5, 6, 7, 8, 9] rfl⟩
      · have c_139 : x_52.toInt < (G.1 7 7).toInt := xI_nle rfl rfl c_139
        refine lv_aload_n hx hb dX10_followHand_123 rfl (lv_at hl 6 rfl) ?_
        refine S_getR (n := 9) (C := RX10) (T := TX10) (N := 5) hx hb hg iX10 hown hK hW kd_8 rfl 1 (lt_b rfl) (hg (Cond.fieldLink RX10 19 "SlabWalk$Trails" "steps" "LSlabWalk$Minima;") m441) (fun _ h9 => h9) rfl dX10_followHand_124 ?_
        refine lv_iload hx hb dX10_followHand_127 (lv_at hl 2 rfl) ?_
        refine lv_aload_n hx hb dX10_followHand_129 rfl (lv_at hl 6 rfl) ?_
        refine S_getR (n := 41) (C := RX10) (T := TX10) (N := 5) hx hb hg iX10 hown hK hW kd_8 rfl 0 (lt_b rfl) (hg (Cond.fieldLink RX10 13 "SlabWalk$Trails" "rows" "[[I") m440) (fun _ h9 => h9) rfl dX10_followHand_130 ?_
        refine lv_iload_n hx hb dX10_followHand_133 rfl (lv_at hl 8 rfl) ?_
        refine S_aald hx hb hK hW kd_41 (vin (by decide) (by decide)) dX10_followHand_134 ?_
        refine rows_at (n := 44) (rows_c hB_G_48 2 (by decide)) ?_
        refine lv_iload hx hb dX10_followHand_135 (lv_at hl 2 rfl) ?_
        refine S_iald hx hb hK hW kd_44 (vin ((by first | exact f_54.1 | omega)) ((by first | exact ok_363 f_54.2 b_138.2 c_139 | omega))) dX10_followHand_137 (fun y_140 ey_140 => ?_)
        refine lv_aload_n hx hb dX10_followHand_138 rfl (lv_at hl 6 rfl) ?_
        refine S_getR (n := 41) (C := RX10) (T := TX10) (N := 5) hx hb hg iX10 hown hK hW kd_8 rfl 0 (lt_b rfl) (hg (Cond.fieldLink RX10 13 "SlabWalk$Trails" "rows" "[[I") m440) (fun _ h9 => h9) rfl dX10_followHand_139 ?_
        refine lv_iload_n hx hb dX10_followHand_142 rfl (lv_at hl 8 rfl) ?_
        refine ic_1 hx hb dX10_followHand_143 ?_
        refine lv_iadd hx hb dX10_followHand_144 ?_
        refine lv_topi (fun y_141 ey_141 => ?_)
        obtain rfl : y_141 = 3 := ey_141.trans (by decide)
        refine S_aald hx hb hK hW kd_41 (vin (by decide) (by decide)) dX10_followHand_145 ?_
        refine rows_at (n := 45) (rows_c hB_G_48 3 (by decide)) ?_
        refine lv_iload hx hb dX10_followHand_146 (lv_at hl 2 rfl) ?_
        refine S_iald hx hb hK hW kd_45 (vin ((by first | exact f_54.1 | omega)) ((by first | exact ok_363 f_54.2 b_138.2 c_139 | omega))) dX10_followHand_148 (fun y_142 ey_142 => ?_)
        refine va_mmin hx hb (by rw [hml]; exact hl.1.symm) hown (hg (Cond.methodLink RX10 49 Lib.Math.min.name) m1001) (hg (Cond.static Lib.Math.min.name) m636) (hg (Cond.initialized "java/lang/Math") m132) (hg (Cond.code Lib.Math.min.name Lib.Math.min.code 2 (some .int)) m637) (Nat.le_of_ble_eq_true rfl) (Nat.le_of_ble_eq_true rfl) (Nat.le_of_ble_eq_true rfl) (Nat.le_of_ble_eq_true rfl) dX10_followHand_149 ?_
        refine lv_topi (fun y_143 ey_143 => ?_)
        have ty_143 := xI_min (X := y_140.toInt) (Y := y_142.toInt) rfl rfl ey_143
        refine S_callv (va_runV (As := [.int x_52, .int y_143]) (rest := []) ⟨hx, hb, hml, hown, hts⟩ (k_madd_9 l D k A a z G_48 x_52 y_143 ) (cwV 2 hts (gd_V hgd m1104 m1105 m1106 m125 m1107) rfl rfl rfl hd_X4_add ⟨Nat.le_of_ble_eq_true rfl, Nat.le_of_ble_eq_true rfl⟩) (pre_W hW hB_G_48 hK hZ hS kd_9 rfl) rfl rfl hl.1 rfl (lv_room (Nat.le_of_ble_eq_true rfl)) dX10_followHand_152 ⟨Nat.le_of_ble_eq_true rfl, Nat.le_of_ble_eq_true rfl⟩) hS (fun G_145 H locs hpo hW hS => ?_)
        have hX_148 : P_madd_9 x_52 y_143 G_48 G_145 := hpo
        obtain ⟨hB_G_145, hq_146, -⟩ := hpo
        have hF := hF.call9 hq_146 rfl rfl
        obtain ⟨y_149, ey_149⟩ : ∃ q, q = x_52 + 1 := ⟨_, rfl⟩
        have ty_149 : y_149.toInt = x_52.toInt + 1 := xI_add rfl rfl ey_149 ((by first | exact ok_21 f_54.1 | omega)) ((by first | exact ok_360 f_54.2 | omega))
        refine lv_iinc (v := y_149) (lv' := [(9, .int y_149), (11, .int x_35), (10, .int x_36), (7, .int x_38), (6, .ref (a 43)), (5, .ref (a 42)), (0, .ref (a 8)), (1, .ref (a 7)), (2, .int 2), (4, .int p1)]) hx hb dX10_followHand_155 hl (k := 2) rfl (by rw [ey_149]; rfl) (lt_b rfl) rfl (fun ls hl => ?_)
        refine lv_goto (tgt := 102) hx hb dX10_followHand_158 rfl ?_
        exact ih_50 (39600 - y_149.toInt : Int).toNat ((by first | (clear ha_p0 ha_p1 b_1 ty_24 b_25 ty_27 b_28 ty_30 f_42 f_43 f_44 ty_46 ty_143; omega) | omega)) _ _ _ ⟨G_145, y_149, (Int.toNat_of_nonneg ((by first | (clear ha_p0 ha_p1 b_1 ty_24 b_25 ty_27 b_28 ty_30 hn_45 f_42 f_43 f_44 ty_46 hn_55 ty_143; omega) | omega))), ⟨(by first | exact ok_23 f_54.1 ty_149 | omega), (by first | (clear ha_p0 ha_p1 b_1 ty_24 b_25 ty_27 b_28 ty_30 hn_45 f_42 f_43 f_44 ty_46 hn_55 ty_143; omega) | omega)⟩, (hX_53.st (St_k_tHand_2_2_mk ⟨x_52, G_48, y_149, G_145, rfl, rfl, f_54, hB_G_48, ⟨y_57, ty_57, ⟨c_137, ⟨c_139, ⟨y_140, ey_140, ⟨y_142, ey_142, ⟨y_143, ty_143, ⟨G_145, hX_148, ⟨y_149, ty_149, ⟨rfl, rfl⟩⟩⟩⟩⟩⟩⟩⟩⟩⟩)), hW, hB_G_145, hF, (Fr.call9 (rs := [48, 49]) (fs := [(9, 3)]) (Fr.call9 (rs := [48, 49]) (fs := [(9, 3)]) Fr.rf hq_49 rfl rfl) hq_146 rfl rfl), hS, lv_sub hl [1, 2, 0, 3, 4, 5, 6, 7, 8, 9] rfl⟩

set_option maxHeartbeats 4000000 in
set_option maxRecDepth 100000 in
theorem k_tLeaps (l : Launch) (D : va_G) (k : KT) (A : Nat → Prop) (a : Nat → Nat) (z : SK) (G : GS) (p0 : Int32) (p1 : Int32) (ha_p0 : 0 ≤ p0.toInt ∧ p0.toInt ≤ 99) (ha_p1 : 0 ≤ p1.toInt ∧ p1.toInt ≤ 99) (hci : (G.1 7 6).toInt ≤ 399 ∧ (G.1 7 3).toInt ≤ (G.1 7 4).toInt ∧ ((G.1 7 7).toInt ≤ 0 ∨ (G.1 7 7).toInt + (G.1 7 4).toInt ≤ (G.1 7 6).toInt + 1)) : Met l yX10_fewestLeaps (WS yX10_fewestLeaps cX10_fewestLeaps 8 (some .int)) ({ frames := 2, cells := 0, slots := 0, locals := 54 }) (va_Pc [.ref (a 8), .ref (a 7), .int p0, .int p1] (cW D k A a z G)) (va_Qi (fun (r : Int32) (G1 : GS) => P_tLeaps p0 p1 G r G1) (fun (G1 : GS) t => Wd D k A a G1 t.heap) A) 0 0 A := by
  refine Met.ofW (cc := cX10_fewestLeaps) (maxL := 8) (ret := (some .int)) (by decide) rfl ?_
  intro p e s m args below meth c s₁ B hml hv
  obtain ⟨rfl, hW, hB_G, hK, hZ⟩ := hv
  have hx := B.exec
  have hb := B.bytes
  have hr := B.returns
  have hts := atoms_spec (ws := WS yX10_fewestLeaps cX10_fewestLeaps 8 (some .int)) B.pre
  have hgd : ∀ w ∈ gd, w ∈ WS yX10_fewestLeaps cX10_fewestLeaps 8 (some .int) := fun w h => List.mem_cons_of_mem _ h
  have hg : ∀ w ∈ gd, w.before _ s = true := fun w h => hts w (hgd w h)
  have hown : s.vm.findClass RX10 = some m.cls := findClass_of_methodNamed B.named
  have hS : va_S A s.heap s.heap [] := va_S.rf
  have hF : Fr [42, 43, 44, 45, 48, 49, 50, 51] [(9, 2), (9, 3), (19, 2), (19, 3)] G G := Fr.rf
  have hl := lv_entry ([.ref (a 8), .ref (a 7), .int p0, .int p1]) (n := 8) (Nat.le_of_ble_eq_true rfl)
  rw [lg_entry_eq]
  generalize (lg_sl ([.ref (a 8), .ref (a 7), .int p0, .int p1]) ++ List.replicate (8 - (lg_sl ([.ref (a 8), .ref (a 7), .int p0, .int p1])).length) Slot.unset).toArray = ls at hl ⊢
  have hl : lv_has ls 8 [(0, .ref (a 8)), (1, .ref (a 7)), (2, .int p0), (3, .int p1)] := hl
  have b_1 : (-1) ≤ (G.1 7 6).toInt ∧ (G.1 7 6).toInt ≤ 400 := bd_7_6 hB_G
  refine lv_aload_n hx hb dX10_fewestLeaps_0 rfl (lv_at hl 0 rfl) ?_
  refine S_getR (n := 41) (C := RX10) (T := TX10) (N := 5) hx hb hg iX10 hown hK hW kd_8 rfl 0 (lt_b rfl) (hg (Cond.fieldLink RX10 13 "SlabWalk$Trails" "rows" "[[I") m440) (fun _ h9 => h9) rfl dX10_fewestLeaps_1 ?_
  refine ic_0 hx hb dX10_fewestLeaps_4 ?_
  refine S_aald hx hb hK hW kd_41 (vin (by decide) (by decide)) dX10_fewestLeaps_5 ?_
  refine rows_at (n := 42) (rows_c hB_G 0 (by decide)) ?_
  refine lv_ldc (v := 1000000) hx hb hown (hg (Cond.constant RX10 44 1000000) m997) dX10_fewestLeaps_6 ?_
  refine S_callv (va_runS (As := [.ref (a 42), .int 1000000]) (rest := []) ⟨hx, hb, hml, hown, hts⟩ (k_fill_42 l D k A a z G 1000000 ) (va_cwS 2 hts (gd_S hgd m1095 m556 m129 m557) rfl rfl rfl hd_J7_fill_53178.2 ⟨Nat.le_of_ble_eq_true rfl, Nat.le_of_ble_eq_true rfl⟩) (pre_S hW hB_G hK hZ hS) rfl rfl hl.1 rfl (lv_room (Nat.le_of_ble_eq_true rfl)) dX10_fewestLeaps_8 ⟨Nat.le_of_ble_eq_true rfl, Nat.le_of_ble_eq_true rfl⟩) hS (fun G_3 H locs hpo hW hS => ?_)
  have hX_6 : P_fill_42 1000000 G G_3 := hpo
  obtain ⟨hB_G_3, hq_4, -⟩ := hpo
  have hF := hF.call9 hq_4 rfl rfl
  refine lv_aload_n hx hb dX10_fewestLeaps_11 rfl (lv_at hl 0 rfl) ?_
  refine S_getR (n := 41) (C := RX10) (T := TX10) (N := 5) hx hb hg iX10 hown hK hW kd_8 rfl 0 (lt_b rfl) (hg (Cond.fieldLink RX10 13 "SlabWalk$Trails" "rows" "[[I") m440) (fun _ h9 => h9) rfl dX10_fewestLeaps_12 ?_
  refine ic_1 hx hb dX10_fewestLeaps_15 ?_
  refine S_aald hx hb hK hW kd_41 (vin (by decide) (by decide)) dX10_fewestLeaps_16 ?_
  refine rows_at (n := 43) (rows_c hB_G_3 1 (by decide)) ?_
  refine lv_ldc (v := 1000000) hx hb hown (hg (Cond.constant RX10 44 1000000) m997) dX10_fewestLeaps_17 ?_
  refine S_callv (va_runS (As := [.ref (a 43), .int 1000000]) (rest := []) ⟨hx, hb, hml, hown, hts⟩ (k_fill_43 l D k A a z G_3 1000000 ) (va_cwS 2 hts (gd_S hgd m1095 m556 m129 m557) rfl rfl rfl hd_J7_fill_53178.2 ⟨Nat.le_of_ble_eq_true rfl, Nat.le_of_ble_eq_true rfl⟩) (pre_S hW hB_G_3 hK hZ hS) rfl rfl hl.1 rfl (lv_room (Nat.le_of_ble_eq_true rfl)) dX10_fewestLeaps_19 ⟨Nat.le_of_ble_eq_true rfl, Nat.le_of_ble_eq_true rfl⟩) hS (fun G_8 H locs hpo hW hS => ?_)
  have hX_11 : P_fill_43 1000000 G_3 G_8 := hpo
  obtain ⟨hB_G_8, hq_9, -⟩ := hpo
  have hF := hF.call9 hq_9 rfl rfl
  refine ic_0 hx hb dX10_fewestLeaps_22 ?_
  refine lv_istore (lv' := [(4, .int 0), (0, .ref (a 8)), (1, .ref (a 7)), (2, .int p0), (3, .int p1)]) hx hb dX10_fewestLeaps_23 hl (lt_b rfl) rfl (fun ls hl => ?_)
  have qc_18 : (0 : Int32).toInt = 0 := rfl
  refine loop_N (Inv := fun n H locs ls => ∃ (G_12 : GS) (x_16 : Int32), (n : Int) = 100 - x_16.toInt ∧ (0 ≤ x_16.toInt ∧ x_16.toInt ≤ 100) ∧ Rc (St_k_tLeaps_1 p1) (0, G_8) (x_16, G_12) ∧ Wd D k A a G_12 H ∧ Bd G_12 ∧ Fr [42, 43, 44, 45, 48, 49, 50, 51] [(9, 2), (9, 3), (19, 2), (19, 3)] G G_12 ∧ Fr [42] [] G_8 G_12 ∧ va_S A s.heap H locs ∧ lv_has ls 8 [(4, .int x_16), (0, .ref (a 8)), (1, .ref (a 7)), (2, .int p0), (3, .int p1)]) (fun n_15 H locs ls ih_14 hI => ?_) (100 - 0 : Int).toNat ⟨G_8, 0, (Int.toNat_of_nonneg ((by decide))), ⟨(by decide), (by decide)⟩, Rc.rf, hW, hB_G_8, hF, Fr.rf, hS, lv_sub hl [0, 1, 2, 3, 4] rfl⟩
  obtain ⟨G_12, x_16, hn_20, f_19, hX_17, hW, hB_G_12, hF, hq_13, hS, hl⟩ := hI
  refine lv_iload hx hb dX10_fewestLeaps_25 (lv_at hl 0 rfl) ?_
  refine lv_iload_n hx hb dX10_fewestLeaps_27 rfl (lv_at hl 4 rfl) ?_
  refine lv_aload_n hx hb dX10_fewestLeaps_28 rfl (lv_at hl 2 rfl) ?_
  have b_21 : 0 ≤ (G.1 7 3).toInt ∧ (G.1 7 3).toInt ≤ 60 := bd_7_3 hB_G
  have g_22 : (G_12.1 7 3).toInt = (G.1 7 3).toInt := (congrArg Int32.toInt (show G_12.1 7 3 = (G.1 7 3) from ((hq_13.i9 7 3 rfl rfl).trans ((hq_9.i9 7 3 rfl rfl).trans (hq_4.i9 7 3 rfl rfl)))))
  have b_23 : 0 ≤ (G.1 7 4).toInt ∧ (G.1 7 4).toInt ≤ 60 := bd_7_4 hB_G
  have g_24 : (G_12.1 7 4).toInt = (G.1 7 4).toInt := (congrArg Int32.toInt (show G_12.1 7 4 = (G.1 7 4) from ((hq_13.i9 7 4 rfl rfl).trans ((hq_9.i9 7 4 rfl rfl).trans (hq_4.i9 7 4 rfl rfl)))))
  have g_25 : (G_12.1 7 6).toInt = (G.1 7 6).toInt := (congrArg Int32.toInt (show G_12.1 7 6 = (G.1 7 6) from ((hq_13.i9 7 6 rfl rfl).trans ((hq_9.i9 7 6 rfl rfl).trans ((hq_4.i9 7 6 rfl rfl).trans (rfl))))))
  have b_26 : 0 ≤ (G.1 7 7).toInt ∧ (G.1 7 7).toInt ≤ 400 := bd_7_7 hB_G
  have g_27 : (G_12.1 7 7).toInt = (G.1 7 7).toInt := (congrArg Int32.toInt (show G_12.1 7 7 = (G.1 7 7) from ((hq_13.i9 7 7 rfl rfl).trans ((hq_9.i9 7 7 rfl rfl).trans (hq_4.i9 7 7 rfl rfl)))))
  have g_28 : (G_12.1 7 6).toInt = (G.1 7 6).toInt := (congrArg Int32.toInt (show G_12.1 7 6 = (G.1 7 6) from ((hq_13.i9 7 6 rfl rfl).trans ((hq_9.i9 7 6 rfl rfl).trans ((hq_4.i9 7 6 rfl rfl).trans (rfl))))))
  refine S_calli (va_runV (As := []) (rest := [.int p1, .int x_16]) ⟨hx, hb, hml, hown, hts⟩ (k_cFirst l D k A a z G_12  ((by first | exact ⟨(by first | exact ok_235 hci.1 g_25 | omega), ⟨(by first | exact ok_185 hci.2.1 g_22 g_24 | omega), (by first | exact ok_236 hci.2.2 g_24 g_25 g_27 | omega)⟩⟩ | omega))) (cwV 0 hts (gd_V hgd m1002 m1003 m1004 m123 m1005) rfl rfl rfl hd_X0_lastFirst ⟨Nat.le_of_ble_eq_true rfl, Nat.le_of_ble_eq_true rfl⟩) (pre_W hW hB_G_12 hK hZ hS kd_7 rfl) rfl rfl hl.1 rfl (lv_room (Nat.le_of_ble_eq_true rfl)) dX10_fewestLeaps_29 ⟨Nat.le_of_ble_eq_true rfl, Nat.le_of_ble_eq_true rfl⟩) hS (fun r_29 G_30 H locs hpo hW hS => ?_)
  have hX_33 : P_cFirst G_12 r_29 G_30 := hpo
  obtain ⟨hB_G_30, hq_31, f_34, hp_32, -⟩ := hpo
  have hF := hF.call9 hq_31 rfl rfl
  refine va_mmin hx hb (by rw [hml]; exact hl.1.symm) hown (hg (Cond.methodLink RX10 49 Lib.Math.min.name) m1001) (hg (Cond.static Lib.Math.min.name) m636) (hg (Cond.initialized "java/lang/Math") m132) (hg (Cond.code Lib.Math.min.name Lib.Math.min.code 2 (some .int)) m637) (Nat.le_of_ble_eq_true rfl) (Nat.le_of_ble_eq_true rfl) (Nat.le_of_ble_eq_true rfl) (Nat.le_of_ble_eq_true rfl) dX10_fewestLeaps_32 ?_
  refine lv_topi (fun y_35 ey_35 => ?_)
  have ty_35 := xI_min (X := p1.toInt) (Y := r_29.toInt) rfl rfl ey_35
  refine lv_icmp_gt (tgt := 69) hx hb dX10_fewestLeaps_35 rfl (fun c_36 => ?_) (fun c_36 => ?_)
  · have c_36 : y_35.toInt < x_16.toInt := xI_lt rfl rfl c_36
    refine lv_ldc (v := 1000000) hx hb hown (hg (Cond.constant RX10 44 1000000) m997) dX10_fewestLeaps_69 ?_
    refine lv_istore (lv' := [(4, .int 1000000), (0, .ref (a 8)), (1, .ref (a 7)), (2, .int p0), (3, .int p1)]) hx hb dX10_fewestLeaps_71 hl (lt_b rfl) rfl (fun ls hl => ?_)
    refine ic_0 hx hb dX10_fewestLeaps_73 ?_
    refine lv_istore (lv' := [(5, .int 0), (4, .int 1000000), (0, .ref (a 8)), (1, .ref (a 7)), (2, .int p0), (3, .int p1)]) hx hb dX10_fewestLeaps_74 hl (lt_b rfl) rfl (fun ls hl => ?_)
    refine ic_1 hx hb dX10_fewestLeaps_76 ?_
    refine lv_istore (lv' := [(6, .int 1), (5, .int 0), (4, .int 1000000), (0, .ref (a 8)), (1, .ref (a 7)), (2, .int p0), (3, .int p1)]) hx hb dX10_fewestLeaps_77 hl (lt_b rfl) rfl (fun ls hl => ?_)
    refine ic_1 hx hb dX10_fewestLeaps_79 ?_
    refine lv_istore (lv' := [(7, .int 1), (6, .int 1), (5, .int 0), (4, .int 1000000), (0, .ref (a 8)), (1, .ref (a 7)), (2, .int p0), (3, .int p1)]) hx hb dX10_fewestLeaps_80 hl (lt_b rfl) rfl (fun ls hl => ?_)
    have qc_46 : (0 : Int32).toInt = 0 := rfl
    have qc_47 : (1 : Int32).toInt = 1 := rfl
    have qc_48 : (1000000 : Int32).toInt = 1000000 := rfl
    refine loop_N (Inv := fun n H locs ls => ∃ (G_37 : GS) (x_41 : Int32) (x_42 : Int32) (x_43 : Int32) (x_44 : Int32), (n : Int) = 401 - x_41.toInt ∧ (1 ≤ x_41.toInt ∧ x_41.toInt ≤ 401) ∧ (0 ≤ x_42.toInt ∧ x_42.toInt ≤ 1) ∧ (0 ≤ x_43.toInt ∧ x_43.toInt ≤ 2) ∧ (x_44.toInt ≤ 1000000) ∧ (x_43.toInt = 0 ∨ x_43.toInt = 2) ∧ Rc (St_k_tLeaps_2 p0 p1 G) (1, 1, 0, 1000000, G_30) (x_41, x_42, x_43, x_44, G_37) ∧ Wd D k A a G_37 H ∧ Bd G_37 ∧ Fr [42, 43, 44, 45, 48, 49, 50, 51] [(9, 2), (9, 3), (19, 2), (19, 3)] G G_37 ∧ Fr [42, 43, 44, 45, 48, 49, 50, 51] [(9, 2), (9, 3), (19, 2), (19, 3)] G_30 G_37 ∧ va_S A s.heap H locs ∧ lv_has ls 8 [(7, .int x_41), (6, .int x_42), (5, .int x_43), (4, .int x_44), (0, .ref (a 8)), (1, .ref (a 7)), (2, .int p0), (3, .int p1)]) (fun n_40 H locs ls ih_39 hI => ?_) (401 - 1 : Int).toNat ⟨G_30, 1, 1, 0, 1000000, (Int.toNat_of_nonneg ((by decide))), ⟨(by decide), (by decide)⟩, ⟨(by decide), (by decide)⟩, ⟨(by decide), (by decide)⟩, ((by decide)), ((by first | exact ok_364 | omega)), Rc.rf, hW, hB_G_30, hF, Fr.rf, hS, lv_sub hl [0, 1, 2, 3, 4, 5, 6, 7] rfl⟩
    obtain ⟨G_37, x_41, x_42, x_43, x_44, hn_54, f_49, f_50, f_51, f_52, f_53, hX_45, hW, hB_G_37, hF, hq_38, hS, hl⟩ := hI
    refine lv_iload hx hb dX10_fewestLeaps_82 (lv_at hl 1 rfl) ?_
    refine lv_if_eq (tgt := 180) hx hb dX10_fewestLeaps_84 rfl (fun c_55 => ?_) (fun c_55 => ?_)
    · have c_55 : x_42.toInt = 0 := xI_eq rfl rfl c_55
      refine lv_iload hx hb dX10_fewestLeaps_180 (lv_at hl 3 rfl) ?_
      refine lv_ldc (v := 1000000) hx hb hown (hg (Cond.constant RX10 44 1000000) m997) dX10_fewestLeaps_182 ?_
      refine lv_icmp_lt (tgt := 191) hx hb dX10_fewestLeaps_184 rfl (fun c_56 => ?_) (fun c_56 => ?_)
      · have c_56 : x_44.toInt < 1000000 := xI_lt rfl rfl c_56
        refine lv_iload hx hb dX10_fewestLeaps_191 (lv_at hl 3 rfl) ?_
        exact W.iret (v := x_44) hx hb hr (fun t ht _ => ⟨⟨x_44, G_37, rfl, (P_tLeaps_mk ⟨hB_G_37, hF, ⟨G_3, hX_6, ⟨G_8, hX_11, ⟨x_16, G_12, hX_17, f_19, hB_G_12, hq_13, ⟨r_29, G_30, hX_33, ⟨y_35, ty_35, ⟨c_36, ⟨x_41, x_42, x_43, x_44, G_37, hX_45, f_49, f_50, f_51, f_52, f_53, hB_G_37, hq_38, (Or.inl ⟨c_55, (Or.inl ⟨c_56, ⟨rfl, rfl⟩⟩)⟩)⟩⟩⟩⟩⟩⟩⟩⟩), wd_t ht hW⟩, hS.F ht⟩) hS.2.2 dX10_fewestLeaps_193
      · have c_56 : 1000000 ≤ x_44.toInt := xI_nlt rfl rfl c_56
        refine ic_m1 hx hb dX10_fewestLeaps_187 ?_
        refine lv_goto (tgt := 193) hx hb dX10_fewestLeaps_188 rfl ?_
        exact W.iret (v := (-1)) hx hb hr (fun t ht _ => ⟨⟨(-1), G_37, rfl, (P_tLeaps_mk ⟨hB_G_37, hF, ⟨G_3, hX_6, ⟨G_8, hX_11, ⟨x_16, G_12, hX_17, f_19, hB_G_12, hq_13, ⟨r_29, G_30, hX_33, ⟨y_35, ty_35, ⟨c_36, ⟨x_41, x_42, x_43, x_44, G_37, hX_45, f_49, f_50, f_51, f_52, f_53, hB_G_37, hq_38, (Or.inl ⟨c_55, (Or.inr ⟨c_56, ⟨rfl, rfl⟩⟩)⟩)⟩⟩⟩⟩⟩⟩⟩⟩), wd_t ht hW⟩, hS.F ht⟩) hS.2.2 dX10_fewestLeaps_193
    · have c_55 : x_42.toInt ≠ 0 := xI_ne rfl rfl c_55
      refine lv_iload hx hb dX10_fewestLeaps_87 (lv_at hl 0 rfl) ?_
      refine lv_sipush (v := 400) hx hb dX10_fewestLeaps_89 (by decide) ?_
      refine lv_icmp_gt (tgt := 180) hx hb dX10_fewestLeaps_92 rfl (fun c_57 => ?_) (fun c_57 => ?_)
      · have c_57 : 400 < x_41.toInt := xI_lt rfl rfl c_57
        refine lv_iload hx hb dX10_fewestLeaps_180 (lv_at hl 3 rfl) ?_
        refine lv_ldc (v := 1000000) hx hb hown (hg (Cond.constant RX10 44 1000000) m997) dX10_fewestLeaps_182 ?_
        refine lv_icmp_lt (tgt := 191) hx hb dX10_fewestLeaps_184 rfl (fun c_58 => ?_) (fun c_58 => ?_)
        · have c_58 : x_44.toInt < 1000000 := xI_lt rfl rfl c_58
          refine lv_iload hx hb dX10_fewestLeaps_191 (lv_at hl 3 rfl) ?_
          exact W.iret (v := x_44) hx hb hr (fun t ht _ => ⟨⟨x_44, G_37, rfl, (P_tLeaps_mk ⟨hB_G_37, hF, ⟨G_3, hX_6, ⟨G_8, hX_11, ⟨x_16, G_12, hX_17, f_19, hB_G_12, hq_13, ⟨r_29, G_30, hX_33, ⟨y_35, ty_35, ⟨c_36, ⟨x_41, x_42, x_43, x_44, G_37, hX_45, f_49, f_50, f_51, f_52, f_53, hB_G_37, hq_38, (Or.inr ⟨c_55, ⟨c_57, (Or.inl ⟨c_58, ⟨rfl, rfl⟩⟩)⟩⟩)⟩⟩⟩⟩⟩⟩⟩⟩), wd_t ht hW⟩, hS.F ht⟩) hS.2.2 dX10_fewestLeaps_193
        · have c_58 : 1000000 ≤ x_44.toInt := xI_nlt rfl rfl c_58
          refine ic_m1 hx hb dX10_fewestLeaps_187 ?_
          refine lv_goto (tgt := 193) hx hb dX10_fewestLeaps_188 rfl ?_
          exact W.iret (v := (-1)) hx hb hr (fun t ht _ => ⟨⟨(-1), G_37, rfl, (P_tLeaps_mk ⟨hB_G_37, hF, ⟨G_3, hX_6, ⟨G_8, hX_11, ⟨x_16, G_12, hX_17, f_19, hB_G_12, hq_13, ⟨r_29, G_30, hX_33, ⟨y_35, ty_35, ⟨c_36, ⟨x_41, x_42, x_43, x_44, G_37, hX_45, f_49, f_50, f_51, f_52, f_53, hB_G_37, hq_38, (Or.inr ⟨c_55, ⟨c_57, (Or.inr ⟨c_58, ⟨rfl, rfl⟩⟩)⟩⟩)⟩⟩⟩⟩⟩⟩⟩⟩), wd_t ht hW⟩, hS.F ht⟩) hS.2.2 dX10_fewestLeaps_193
      · have c_57 : x_41.toInt ≤ 400 := xI_nlt rfl rfl c_57
        have h_59 : x_43.toInt = 0 ∨ x_43.toInt = 2 := by omega
        rcases h_59 with h_59 | h_59
        · have eh_59 : x_43 = 0 := Int32.toInt_inj.mp (h_59.trans rfl)
          rw [eh_59] at hl
          refine lv_iload hx hb dX10_fewestLeaps_95 (lv_at hl 3 rfl) ?_
          refine lv_aload_n hx hb dX10_fewestLeaps_97 rfl (lv_at hl 4 rfl) ?_
          refine S_getR (n := 41) (C := RX10) (T := TX10) (N := 5) hx hb hg iX10 hown hK hW kd_8 rfl 0 (lt_b rfl) (hg (Cond.fieldLink RX10 13 "SlabWalk$Trails" "rows" "[[I") m440) (fun _ h9 => h9) rfl dX10_fewestLeaps_98 ?_
          refine lv_iload hx hb dX10_fewestLeaps_101 (lv_at hl 2 rfl) ?_
          refine S_aald hx hb hK hW kd_41 (vin (by decide) (by decide)) dX10_fewestLeaps_103 ?_
          refine rows_at (n := 42) (rows_c hB_G_37 0 (by decide)) ?_
          refine lv_aload_n hx hb dX10_fewestLeaps_104 rfl (lv_at hl 5 rfl) ?_
          refine S_getI (v := (G.1 7 7)) (C := RX0) (T := TX0) (N := 8) hx hb hg iX0 hown hK hW kd_7 rfl 7 (lt_b rfl) (hg (Cond.fieldLink RX10 58 "SlabWalk$Course" "end" "I") m394) (fun _ h9 => h9) rfl ((hq_38.i9 7 7 rfl rfl).trans ((hq_31.i9 7 7 rfl rfl).trans ((hq_13.i9 7 7 rfl rfl).trans ((hq_9.i9 7 7 rfl rfl).trans ((hq_4.i9 7 7 rfl rfl).trans (rfl)))))) dX10_fewestLeaps_105 ?_
          refine lv_aload_n hx hb dX10_fewestLeaps_108 rfl (lv_at hl 5 rfl) ?_
          refine S_getI (v := (G.1 7 6)) (C := RX0) (T := TX0) (N := 8) hx hb hg iX0 hown hK hW kd_7 rfl 6 (lt_b rfl) (hg (Cond.fieldLink RX10 34 "SlabWalk$Course" "last" "I") m388) (fun _ h9 => h9) rfl ((hq_38.i9 7 6 rfl rfl).trans ((hq_31.i9 7 6 rfl rfl).trans ((hq_13.i9 7 6 rfl rfl).trans ((hq_9.i9 7 6 rfl rfl).trans ((hq_4.i9 7 6 rfl rfl).trans (rfl)))))) dX10_fewestLeaps_109 ?_
          refine S_calli (va_runS (As := [.ref (a 42), .int (G.1 7 7), .int (G.1 7 6)]) (rest := [.int x_44]) ⟨hx, hb, hml, hown, hts⟩ (k_tLeast_42 l D k A a z G_37 (G.1 7 7) (G.1 7 6) ⟨(by first | exact b_26.1 | omega), (by first | exact ok_365 b_26.2 | omega)⟩) (va_cwS 3 hts (gd_S hgd m998 m999 m124 m1000) rfl rfl rfl hd_X10_leastOf.2 ⟨Nat.le_of_ble_eq_true rfl, Nat.le_of_ble_eq_true rfl⟩) (pre_S hW hB_G_37 hK hZ hS) rfl rfl hl.1 rfl (lv_room (Nat.le_of_ble_eq_true rfl)) dX10_fewestLeaps_112 ⟨Nat.le_of_ble_eq_true rfl, Nat.le_of_ble_eq_true rfl⟩) hS (fun r_60 G_61 H locs hpo hW hS => ?_)
          have hX_64 : P_tLeast_42 (G.1 7 7) (G.1 7 6) G_37 r_60 G_61 := hpo
          obtain ⟨hB_G_61, hq_62, -⟩ := hpo
          have hF := hF.call9 hq_62 rfl rfl
          refine va_mmin hx hb (by rw [hml]; exact hl.1.symm) hown (hg (Cond.methodLink RX10 49 Lib.Math.min.name) m1001) (hg (Cond.static Lib.Math.min.name) m636) (hg (Cond.initialized "java/lang/Math") m132) (hg (Cond.code Lib.Math.min.name Lib.Math.min.code 2 (some .int)) m637) (Nat.le_of_ble_eq_true rfl) (Nat.le_of_ble_eq_true rfl) (Nat.le_of_ble_eq_true rfl) (Nat.le_of_ble_eq_true rfl) dX10_fewestLeaps_115 ?_
          refine lv_topi (fun y_65 ey_65 => ?_)
          have ty_65 := xI_min (X := x_44.toInt) (Y := r_60.toInt) rfl rfl ey_65
          refine lv_istore (lv' := [(4, .int y_65), (7, .int x_41), (6, .int x_42), (5, .int 0), (0, .ref (a 8)), (1, .ref (a 7)), (2, .int p0), (3, .int p1)]) hx hb dX10_fewestLeaps_118 hl (lt_b rfl) rfl (fun ls hl => ?_)
          refine lv_iload hx hb dX10_fewestLeaps_120 (lv_at hl 0 rfl) ?_
          refine lv_aload_n hx hb dX10_fewestLeaps_122 rfl (lv_at hl 4 rfl) ?_
          refine S_getR (n := 41) (C := RX10) (T := TX10) (N := 5) hx hb hg iX10 hown hK hW kd_8 rfl 0 (lt_b rfl) (hg (Cond.fieldLink RX10 13 "SlabWalk$Trails" "rows" "[[I") m440) (fun _ h9 => h9) rfl dX10_fewestLeaps_123 ?_
          refine lv_iload hx hb dX10_fewestLeaps_126 (lv_at hl 3 rfl) ?_
          refine ic_1 hx hb dX10_fewestLeaps_128 ?_
          refine lv_iadd hx hb dX10_fewestLeaps_129 ?_
          refine lv_topi (fun y_66 ey_66 => ?_)
          obtain rfl : y_66 = 1 := ey_66.trans (by decide)
          refine S_aald hx hb hK hW kd_41 (vin (by decide) (by decide)) dX10_fewestLeaps_130 ?_
          refine rows_at (n := 43) (rows_c hB_G_61 1 (by decide)) ?_
          refine lv_aload_n hx hb dX10_fewestLeaps_131 rfl (lv_at hl 5 rfl) ?_
          refine S_getI (v := (G.1 7 7)) (C := RX0) (T := TX0) (N := 8) hx hb hg iX0 hown hK hW kd_7 rfl 7 (lt_b rfl) (hg (Cond.fieldLink RX10 58 "SlabWalk$Course" "end" "I") m394) (fun _ h9 => h9) rfl ((hq_62.i9 7 7 rfl rfl).trans ((hq_38.i9 7 7 rfl rfl).trans ((hq_31.i9 7 7 rfl rfl).trans ((hq_13.i9 7 7 rfl rfl).trans ((hq_9.i9 7 7 rfl rfl).trans ((hq_4.i9 7 7 rfl rfl).trans (rfl))))))) dX10_fewestLeaps_132 ?_
          refine lv_aload_n hx hb dX10_fewestLeaps_135 rfl (lv_at hl 5 rfl) ?_
          refine S_getI (v := (G.1 7 6)) (C := RX0) (T := TX0) (N := 8) hx hb hg iX0 hown hK hW kd_7 rfl 6 (lt_b rfl) (hg (Cond.fieldLink RX10 34 "SlabWalk$Course" "last" "I") m388) (fun _ h9 => h9) rfl ((hq_62.i9 7 6 rfl rfl).trans ((hq_38.i9 7 6 rfl rfl).trans ((hq_31.i9 7 6 rfl rfl).trans ((hq_13.i9 7 6 rfl rfl).trans ((hq_9.i9 7 6 rfl rfl).trans ((hq_4.i9 7 6 rfl rfl).trans (rfl))))))) dX10_fewestLeaps_136 ?_
          refine S_calli (va_runS (As := [.ref (a 43), .int (G.1 7 7), .int (G.1 7 6)]) (rest := [.int y_65]) ⟨hx, hb, hml, hown, hts⟩ (k_tLeast_43 l D k A a z G_61 (G.1 7 7) (G.1 7 6) ⟨(by first | exact b_26.1 | omega), (by first | exact ok_365 b_26.2 | omega)⟩) (va_cwS 3 hts (gd_S hgd m998 m999 m124 m1000) rfl rfl rfl hd_X10_leastOf.2 ⟨Nat.le_of_ble_eq_true rfl, Nat.le_of_ble_eq_true rfl⟩) (pre_S hW hB_G_61 hK hZ hS) rfl rfl hl.1 rfl (lv_room (Nat.le_of_ble_eq_true rfl)) dX10_fewestLeaps_139 ⟨Nat.le_of_ble_eq_true rfl, Nat.le_of_ble_eq_true rfl⟩) hS (fun r_67 G_68 H locs hpo hW hS => ?_)
          have hX_71 : P_tLeast_43 (G.1 7 7) (G.1 7 6) G_61 r_67 G_68 := hpo
          obtain ⟨hB_G_68, hq_69, -⟩ := hpo
          have hF := hF.call9 hq_69 rfl rfl
          refine va_mmin hx hb (by rw [hml]; exact hl.1.symm) hown (hg (Cond.methodLink RX10 49 Lib.Math.min.name) m1001) (hg (Cond.static Lib.Math.min.name) m636) (hg (Cond.initialized "java/lang/Math") m132) (hg (Cond.code Lib.Math.min.name Lib.Math.min.code 2 (some .int)) m637) (Nat.le_of_ble_eq_true rfl) (Nat.le_of_ble_eq_true rfl) (Nat.le_of_ble_eq_true rfl) (Nat.le_of_ble_eq_true rfl) dX10_fewestLeaps_142 ?_
          refine lv_topi (fun y_72 ey_72 => ?_)
          have ty_72 := xI_min (X := y_65.toInt) (Y := r_67.toInt) rfl rfl ey_72
          refine lv_istore (lv' := [(4, .int y_72), (7, .int x_41), (6, .int x_42), (5, .int 0), (0, .ref (a 8)), (1, .ref (a 7)), (2, .int p0), (3, .int p1)]) hx hb dX10_fewestLeaps_145 hl (lt_b rfl) rfl (fun ls hl => ?_)
          refine lv_aload_n hx hb dX10_fewestLeaps_147 rfl (lv_at hl 4 rfl) ?_
          refine lv_aload_n hx hb dX10_fewestLeaps_148 rfl (lv_at hl 5 rfl) ?_
          refine lv_iload hx hb dX10_fewestLeaps_149 (lv_at hl 3 rfl) ?_
          refine lv_iload_n hx hb dX10_fewestLeaps_151 rfl (lv_at hl 6 rfl) ?_
          refine lv_iload hx hb dX10_fewestLeaps_152 (lv_at hl 1 rfl) ?_
          refine lv_imul hx hb dX10_fewestLeaps_154 ?_
          refine lv_topi (fun y_73 ey_73 => ?_)
          have ty_73 := (xI_mulB (a := 99) (b := 400) ey_73 ((by first | exact ha_p0.1 | omega)) ((by first | exact ha_p0.2 | omega)) ((by first | exact ok_131 f_49.1 | omega)) ((by first | exact c_57 | omega)) (by decide)).2
          refine lv_iload_n hx hb dX10_fewestLeaps_155 rfl (lv_at hl 7 rfl) ?_
          refine lv_isub hx hb dX10_fewestLeaps_156 ?_
          refine lv_topi (fun y_74 ey_74 => ?_)
          have ty_74 : y_74.toInt = y_73.toInt - p1.toInt := xI_sub rfl rfl ey_74 ((by first | exact ok_362 ha_p1.2 ty_73.1 | omega)) ((by first | exact ok_366 ha_p1.1 ty_73.2 | omega))
          refine lv_iload_n hx hb dX10_fewestLeaps_157 rfl (lv_at hl 6 rfl) ?_
          refine lv_iload hx hb dX10_fewestLeaps_158 (lv_at hl 1 rfl) ?_
          refine lv_imul hx hb dX10_fewestLeaps_160 ?_
          refine lv_topi (fun y_75 ey_75 => ?_)
          have ty_75 := (xI_mulB (a := 99) (b := 400) ey_75 ((by first | exact ha_p0.1 | omega)) ((by first | exact ha_p0.2 | omega)) ((by first | exact ok_131 f_49.1 | omega)) ((by first | exact c_57 | omega)) (by decide)).2
          refine lv_iload_n hx hb dX10_fewestLeaps_161 rfl (lv_at hl 7 rfl) ?_
          refine lv_iadd hx hb dX10_fewestLeaps_162 ?_
          refine lv_topi (fun y_76 ey_76 => ?_)
          have ty_76 : y_76.toInt = y_75.toInt + p1.toInt := xI_add rfl rfl ey_76 ((by first | exact ok_27 ha_p1.1 ty_75.1 | omega)) ((by first | exact ok_367 ha_p1.2 ty_75.2 | omega))
          have g_77 : (G_68.1 7 3).toInt = (G.1 7 3).toInt := (congrArg Int32.toInt (show G_68.1 7 3 = (G.1 7 3) from ((hq_69.i9 7 3 rfl rfl).trans ((hq_62.i9 7 3 rfl rfl).trans ((hq_38.i9 7 3 rfl rfl).trans ((hq_31.i9 7 3 rfl rfl).trans ((hq_13.i9 7 3 rfl rfl).trans ((hq_9.i9 7 3 rfl rfl).trans ((hq_4.i9 7 3 rfl rfl).trans (rfl))))))))))
          have g_78 : (G_68.1 7 4).toInt = (G.1 7 4).toInt := (congrArg Int32.toInt (show G_68.1 7 4 = (G.1 7 4) from ((hq_69.i9 7 4 rfl rfl).trans ((hq_62.i9 7 4 rfl rfl).trans ((hq_38.i9 7 4 rfl rfl).trans ((hq_31.i9 7 4 rfl rfl).trans ((hq_13.i9 7 4 rfl rfl).trans ((hq_9.i9 7 4 rfl rfl).trans ((hq_4.i9 7 4 rfl rfl).trans (rfl))))))))))
          have g_79 : (G_68.1 7 6).toInt = (G.1 7 6).toInt := (congrArg Int32.toInt (show G_68.1 7 6 = (G.1 7 6) from ((hq_69.i9 7 6 rfl rfl).trans ((hq_62.i9 7 6 rfl rfl).trans ((hq_38.i9 7 6 rfl rfl).trans ((hq_31.i9 7 6 rfl rfl).trans ((hq_13.i9 7 6 rfl rfl).trans ((hq_9.i9 7 6 rfl rfl).trans ((hq_4.i9 7 6 rfl rfl).trans (rfl))))))))))
          have g_80 : (G_68.1 7 7).toInt = (G.1 7 7).toInt := (congrArg Int32.toInt (show G_68.1 7 7 = (G.1 7 7) from ((hq_69.i9 7 7 rfl rfl).trans ((hq_62.i9 7 7 rfl rfl).trans ((hq_38.i9 7 7 rfl rfl).trans ((hq_31.i9 7 7 rfl rfl).trans ((hq_13.i9 7 7 rfl rfl).trans ((hq_9.i9 7 7 rfl rfl).trans ((hq_4.i9 7 7 rfl rfl).trans (rfl))))))))))
          refine S_calli (va_runV (As := [.ref (a 7), .int 0, .int y_74, .int y_76]) (rest := []) ⟨hx, hb, hml, hown, hts⟩ (k_tHand_0 l D k A a z G_68 y_74 y_76 ⟨(by first | exact ok_368 ha_p1.2 ty_73.1 ty_74 | omega), (by first | exact ok_369 ha_p1.1 ty_73.2 ty_74 | omega)⟩ ⟨(by first | exact ok_370 ha_p1.1 ty_75.1 ty_76 | omega), (by first | exact ok_371 ha_p1.2 ty_75.2 ty_76 | omega)⟩ ((by first | exact ⟨(by first | exact ok_235 hci.1 g_79 | omega), ⟨(by first | exact ok_185 hci.2.1 g_77 g_78 | omega), (by first | exact ok_236 hci.2.2 g_78 g_79 g_80 | omega)⟩⟩ | omega))) (cwV 4 hts (gd_V hgd m1096 m1098 m37 m124 m1099) rfl rfl rfl hd_X10_followHand ⟨Nat.le_of_ble_eq_true rfl, Nat.le_of_ble_eq_true rfl⟩) (pre_W hW hB_G_68 hK hZ hS kd_8 rfl) rfl rfl hl.1 rfl (lv_room (Nat.le_of_ble_eq_true rfl)) dX10_fewestLeaps_163 ⟨Nat.le_of_ble_eq_true rfl, Nat.le_of_ble_eq_true rfl⟩) hS (fun r_81 G_82 H locs hpo hW hS => ?_)
          have hX_85 : P_tHand_0 y_74 y_76 G_68 r_81 G_82 := hpo
          obtain ⟨hB_G_82, hq_83, f_86, -⟩ := hpo
          have hF := hF.call9 hq_83 rfl rfl
          refine lv_istore (lv' := [(6, .int r_81), (4, .int y_72), (7, .int x_41), (5, .int 0), (0, .ref (a 8)), (1, .ref (a 7)), (2, .int p0), (3, .int p1)]) hx hb dX10_fewestLeaps_166 hl (lt_b rfl) rfl (fun ls hl => ?_)
          refine ic_2 hx hb dX10_fewestLeaps_168 ?_
          refine lv_iload hx hb dX10_fewestLeaps_169 (lv_at hl 3 rfl) ?_
          refine lv_isub hx hb dX10_fewestLeaps_171 ?_
          refine lv_topi (fun y_87 ey_87 => ?_)
          obtain rfl : y_87 = 2 := ey_87.trans (by decide)
          refine lv_istore (lv' := [(5, .int 2), (6, .int r_81), (4, .int y_72), (7, .int x_41), (0, .ref (a 8)), (1, .ref (a 7)), (2, .int p0), (3, .int p1)]) hx hb dX10_fewestLeaps_172 hl (lt_b rfl) rfl (fun ls hl => ?_)
          obtain ⟨y_88, ey_88⟩ : ∃ q, q = x_41 + 1 := ⟨_, rfl⟩
          have ty_88 : y_88.toInt = x_41.toInt + 1 := xI_add rfl rfl ey_88 ((by first | exact ok_237 f_49.1 | omega)) ((by first | exact ok_372 f_49.2 | omega))
          refine lv_iinc (v := y_88) (lv' := [(7, .int y_88), (5, .int 2), (6, .int r_81), (4, .int y_72), (0, .ref (a 8)), (1, .ref (a 7)), (2, .int p0), (3, .int p1)]) hx hb dX10_fewestLeaps_174 hl (k := 3) rfl (by rw [ey_88]; rfl) (lt_b rfl) rfl (fun ls hl => ?_)
          refine lv_goto (tgt := 82) hx hb dX10_fewestLeaps_177 rfl ?_
          have qc_89 : (2 : Int32).toInt = 2 := rfl
          exact ih_39 (401 - y_88.toInt : Int).toNat ((by first | (clear ha_p0 ha_p1 hci b_1 hn_20 f_19 b_21 g_22 b_23 g_24 g_25 b_26 g_27 g_28 f_34 hp_32 ty_35 c_36 f_50 f_51 f_52 f_53 c_55 h_59 eh_59 ty_65 ty_72 ty_73 ty_74 ty_75 ty_76 g_77 g_78 g_79 g_80 f_86; omega) | omega)) _ _ _ ⟨G_82, y_88, r_81, 2, y_72, (Int.toNat_of_nonneg ((by first | exact ok_373 f_49.2 c_57 ty_88 | omega))), ⟨(by first | exact ok_240 f_49.1 ty_88 | omega), (by first | exact ok_374 f_49.2 c_57 ty_88 | omega)⟩, ⟨(by first | exact f_86.1 | omega), (by first | exact f_86.2 | omega)⟩, ⟨(by decide), (by decide)⟩, ((by first | (clear ha_p0 ha_p1 hci b_1 hn_20 f_19 b_21 g_22 b_23 g_24 g_25 b_26 g_27 g_28 f_34 hp_32 ty_35 c_36 hn_54 f_49 f_50 f_51 f_52 f_53 c_55 c_57 h_59 eh_59 ty_73 ty_74 ty_75 ty_76 g_77 g_78 g_79 g_80 f_86 ty_88; omega) | omega)), ((by first | exact ok_375 | omega)), (hX_45.st (St_k_tLeaps_2_mk ⟨x_41, x_42, x_43, x_44, G_37, y_88, r_81, 2, y_72, G_82, rfl, rfl, f_49, f_50, f_51, f_52, f_53, hB_G_37, ⟨c_55, ⟨c_57, (Or.inl ⟨h_59, ⟨r_60, G_61, hX_64, ⟨y_65, ty_65, ⟨r_67, G_68, hX_71, ⟨y_72, ty_72, ⟨y_73, ey_73, ⟨y_74, ty_74, ⟨y_75, ey_75, ⟨y_76, ty_76, ⟨r_81, G_82, hX_85, ⟨y_88, ty_88, ⟨rfl, rfl, rfl, rfl, rfl⟩⟩⟩⟩⟩⟩⟩⟩⟩⟩⟩⟩)⟩⟩⟩)), hW, hB_G_82, hF, (Fr.call9 (rs := [42, 43, 44, 45, 48, 49, 50, 51]) (fs := [(9, 2), (9, 3), (19, 2), (19, 3)]) (Fr.call9 (rs := [42, 43, 44, 45, 48, 49, 50, 51]) (fs := [(9, 2), (9, 3), (19, 2), (19, 3)]) (Fr.call9 (rs := [42, 43, 44, 45, 48, 49, 50, 51]) (fs := [(9, 2), (9, 3), (19, 2), (19, 3)]) (Fr.call9 (rs := [42, 43, 44, 45, 48, 49, 50, 51]) (fs := [(9, 2), (9, 3), (19, 2), (19, 3)]) Fr.rf hq_38 rfl rfl) hq_62 rfl rfl) hq_69 rfl rfl) hq_83 rfl rfl), hS, lv_sub hl [0, 2, 1, 3, 4, 5, 6, 7] rfl⟩
        · have eh_59 : x_43 = 2 := Int32.toInt_inj.mp (h_59.trans rfl)
          rw [eh_59] at hl
          refine lv_iload hx hb dX10_fewestLeaps_95 (lv_at hl 3 rfl) ?_
          refine lv_aload_n hx hb dX10_fewestLeaps_97 rfl (lv_at hl 4 rfl) ?_
          refine S_getR (n := 41) (C := RX10) (T := TX10) (N := 5) hx hb hg iX10 hown hK hW kd_8 rfl 0 (lt_b rfl) (hg (Cond.fieldLink RX10 13 "SlabWalk$Trails" "rows" "[[I") m440) (fun _ h9 => h9) rfl dX10_fewestLeaps_98 ?_
          refine lv_iload hx hb dX10_fewestLeaps_101 (lv_at hl 2 rfl) ?_
          refine S_aald hx hb hK hW kd_41 (vin (by decide) (by decide)) dX10_fewestLeaps_103 ?_
          refine rows_at (n := 44) (rows_c hB_G_37 2 (by decide)) ?_
          refine lv_aload_n hx hb dX10_fewestLeaps_104 rfl (lv_at hl 5 rfl) ?_
          refine S_getI (v := (G.1 7 7)) (C := RX0) (T := TX0) (N := 8) hx hb hg iX0 hown hK hW kd_7 rfl 7 (lt_b rfl) (hg (Cond.fieldLink RX10 58 "SlabWalk$Course" "end" "I") m394) (fun _ h9 => h9) rfl ((hq_38.i9 7 7 rfl rfl).trans ((hq_31.i9 7 7 rfl rfl).trans ((hq_13.i9 7 7 rfl rfl).trans ((hq_9.i9 7 7 rfl rfl).trans ((hq_4.i9 7 7 rfl rfl).trans (rfl)))))) dX10_fewestLeaps_105 ?_
          refine lv_aload_n hx hb dX10_fewestLeaps_108 rfl (lv_at hl 5 rfl) ?_
          refine S_getI (v := (G.1 7 6)) (C := RX0) (T := TX0) (N := 8) hx hb hg iX0 hown hK hW kd_7 rfl 6 (lt_b rfl) (hg (Cond.fieldLink RX10 34 "SlabWalk$Course" "last" "I") m388) (fun _ h9 => h9) rfl ((hq_38.i9 7 6 rfl rfl).trans ((hq_31.i9 7 6 rfl rfl).trans ((hq_13.i9 7 6 rfl rfl).trans ((hq_9.i9 7 6 rfl rfl).trans ((hq_4.i9 7 6 rfl rfl).trans (rfl)))))) dX10_fewestLeaps_109 ?_
          refine S_calli (va_runS (As := [.ref (a 44), .int (G.1 7 7), .int (G.1 7 6)]) (rest := [.int x_44]) ⟨hx, hb, hml, hown, hts⟩ (k_tLeast_44 l D k A a z G_37 (G.1 7 7) (G.1 7 6) ⟨(by first | exact b_26.1 | omega), (by first | exact ok_365 b_26.2 | omega)⟩) (va_cwS 3 hts (gd_S hgd m998 m999 m124 m1000) rfl rfl rfl hd_X10_leastOf.2 ⟨Nat.le_of_ble_eq_true rfl, Nat.le_of_ble_eq_true rfl⟩) (pre_S hW hB_G_37 hK hZ hS) rfl rfl hl.1 rfl (lv_room (Nat.le_of_ble_eq_true rfl)) dX10_fewestLeaps_112 ⟨Nat.le_of_ble_eq_true rfl, Nat.le_of_ble_eq_true rfl⟩) hS (fun r_90 G_91 H locs hpo hW hS => ?_)
          have hX_94 : P_tLeast_44 (G.1 7 7) (G.1 7 6) G_37 r_90 G_91 := hpo
          obtain ⟨hB_G_91, hq_92, -⟩ := hpo
          have hF := hF.call9 hq_92 rfl rfl
          refine va_mmin hx hb (by rw [hml]; exact hl.1.symm) hown (hg (Cond.methodLink RX10 49 Lib.Math.min.name) m1001) (hg (Cond.static Lib.Math.min.name) m636) (hg (Cond.initialized "java/lang/Math") m132) (hg (Cond.code Lib.Math.min.name Lib.Math.min.code 2 (some .int)) m637) (Nat.le_of_ble_eq_true rfl) (Nat.le_of_ble_eq_true rfl) (Nat.le_of_ble_eq_true rfl) (Nat.le_of_ble_eq_true rfl) dX10_fewestLeaps_115 ?_
          refine lv_topi (fun y_95 ey_95 => ?_)
          have ty_95 := xI_min (X := x_44.toInt) (Y := r_90.toInt) rfl rfl ey_95
          refine lv_istore (lv' := [(4, .int y_95), (7, .int x_41), (6, .int x_42), (5, .int 2), (0, .ref (a 8)), (1, .ref (a 7)), (2, .int p0), (3, .int p1)]) hx hb dX10_fewestLeaps_118 hl (lt_b rfl) rfl (fun ls hl => ?_)
          refine lv_iload hx hb dX10_fewestLeaps_120 (lv_at hl 0 rfl) ?_
          refine lv_aload_n hx hb dX10_fewestLeaps_122 rfl (lv_at hl 4 rfl) ?_
          refine S_getR (n := 41) (C := RX10) (T := TX10) (N := 5) hx hb hg iX10 hown hK hW kd_8 rfl 0 (lt_b rfl) (hg (Cond.fieldLink RX10 13 "SlabWalk$Trails" "rows" "[[I") m440) (fun _ h9 => h9) rfl dX10_fewestLeaps_123 ?_
          refine lv_iload hx hb dX10_fewestLeaps_126 (lv_at hl 3 rfl) ?_
          refine ic_1 hx hb dX10_fewestLeaps_128 ?_
          refine lv_iadd hx hb dX10_fewestLeaps_129 ?_
          refine lv_topi (fun y_96 ey_96 => ?_)
          obtain rfl : y_96 = 3 := ey_96.trans (by decide)
          refine S_aald hx hb hK hW kd_41 (vin (by decide) (by decide)) dX10_fewestLeaps_130 ?_
          refine rows_at (n := 45) (rows_c hB_G_91 3 (by decide)) ?_
          refine lv_aload_n hx hb dX10_fewestLeaps_131 rfl (lv_at hl 5 rfl) ?_
          refine S_getI (v := (G.1 7 7)) (C := RX0) (T := TX0) (N := 8) hx hb hg iX0 hown hK hW kd_7 rfl 7 (lt_b rfl) (hg (Cond.fieldLink RX10 58 "SlabWalk$Course" "end" "I") m394) (fun _ h9 => h9) rfl ((hq_92.i9 7 7 rfl rfl).trans ((hq_38.i9 7 7 rfl rfl).trans ((hq_31.i9 7 7 rfl rfl).trans ((hq_13.i9 7 7 rfl rfl).trans ((hq_9.i9 7 7 rfl rfl).trans ((hq_4.i9 7 7 rfl rfl).trans (rfl))))))) dX10_fewestLeaps_132 ?_
          refine lv_aload_n hx hb dX10_fewestLeaps_135 rfl (lv_at hl 5 rfl) ?_
          refine S_getI (v := (G.1 7 6)) (C := RX0) (T := TX0) (N := 8) hx hb hg iX0 hown hK hW kd_7 rfl 6 (lt_b rfl) (hg (Cond.fieldLink RX10 34 "SlabWalk$Course" "last" "I") m388) (fun _ h9 => h9) rfl ((hq_92.i9 7 6 rfl rfl).trans ((hq_38.i9 7 6 rfl rfl).trans ((hq_31.i9 7 6 rfl rfl).trans ((hq_13.i9 7 6 rfl rfl).trans ((hq_9.i9 7 6 rfl rfl).trans ((hq_4.i9 7 6 rfl rfl).trans (rfl))))))) dX10_fewestLeaps_136 ?_
          refine S_calli (va_runS (As := [.ref (a 45), .int (G.1 7 7), .int (G.1 7 6)]) (rest := [.int y_95]) ⟨hx, hb, hml, hown, hts⟩ (k_tLeast_45 l D k A a z G_91 (G.1 7 7) (G.1 7 6) ⟨(by first | exact b_26.1 | omega), (by first | exact ok_365 b_26.2 | omega)⟩) (va_cwS 3 hts (gd_S hgd m998 m999 m124 m1000) rfl rfl rfl hd_X10_leastOf.2 ⟨Nat.le_of_ble_eq_true rfl, Nat.le_of_ble_eq_true rfl⟩) (pre_S hW hB_G_91 hK hZ hS) rfl rfl hl.1 rfl (lv_room (Nat.le_of_ble_eq_true rfl)) dX10_fewestLeaps_139 ⟨Nat.le_of_ble_eq_true rfl, Nat.le_of_ble_eq_true rfl⟩) hS (fun r_97 G_98 H locs hpo hW hS => ?_)
          have hX_101 : P_tLeast_45 (G.1 7 7) (G.1 7 6) G_91 r_97 G_98 := hpo
          obtain ⟨hB_G_98, hq_99, -⟩ := hpo
          have hF := hF.call9 hq_99 rfl rfl
          refine va_mmin hx hb (by rw [hml]; exact hl.1.symm) hown (hg (Cond.methodLink RX10 49 Lib.Math.min.name) m1001) (hg (Cond.static Lib.Math.min.name) m636) (hg (Cond.initialized "java/lang/Math") m132) (hg (Cond.code Lib.Math.min.name Lib.Math.min.code 2 (some .int)) m637) (Nat.le_of_ble_eq_true rfl) (Nat.le_of_ble_eq_true rfl) (Nat.le_of_ble_eq_true rfl) (Nat.le_of_ble_eq_true rfl) dX10_fewestLeaps_142 ?_
          refine lv_topi (fun y_102 ey_102 => ?_)
          have ty_102 := xI_min (X := y_95.toInt) (Y := r_97.toInt) rfl rfl ey_102
          refine lv_istore (lv' := [(4, .int y_102), (7, .int x_41), (6, .int x_42), (5, .int 2), (0, .ref (a 8)), (1, .ref (a 7)), (2, .int p0), (3, .int p1)]) hx hb dX10_fewestLeaps_145 hl (lt_b rfl) rfl (fun ls hl => ?_)
          refine lv_aload_n hx hb dX10_fewestLeaps_147 rfl (lv_at hl 4 rfl) ?_
          refine lv_aload_n hx hb dX10_fewestLeaps_148 rfl (lv_at hl 5 rfl) ?_
          refine lv_iload hx hb dX10_fewestLeaps_149 (lv_at hl 3 rfl) ?_
          refine lv_iload_n hx hb dX10_fewestLeaps_151 rfl (lv_at hl 6 rfl) ?_
          refine lv_iload hx hb dX10_fewestLeaps_152 (lv_at hl 1 rfl) ?_
          refine lv_imul hx hb dX10_fewestLeaps_154 ?_
          refine lv_topi (fun y_103 ey_103 => ?_)
          have ty_103 := (xI_mulB (a := 99) (b := 400) ey_103 ((by first | exact ha_p0.1 | omega)) ((by first | exact ha_p0.2 | omega)) ((by first | exact ok_131 f_49.1 | omega)) ((by first | exact c_57 | omega)) (by decide)).2
          refine lv_iload_n hx hb dX10_fewestLeaps_155 rfl (lv_at hl 7 rfl) ?_
          refine lv_isub hx hb dX10_fewestLeaps_156 ?_
          refine lv_topi (fun y_104 ey_104 => ?_)
          have ty_104 : y_104.toInt = y_103.toInt - p1.toInt := xI_sub rfl rfl ey_104 ((by first | exact ok_362 ha_p1.2 ty_103.1 | omega)) ((by first | exact ok_366 ha_p1.1 ty_103.2 | omega))
          refine lv_iload_n hx hb dX10_fewestLeaps_157 rfl (lv_at hl 6 rfl) ?_
          refine lv_iload hx hb dX10_fewestLeaps_158 (lv_at hl 1 rfl) ?_
          refine lv_imul hx hb dX10_fewestLeaps_160 ?_
          refine lv_topi (fun y_105 ey_105 => ?_)
          have ty_105 := (xI_mulB (a := 99) (b := 400) ey_105 ((by first | exact ha_p0.1 | omega)) ((by first | exact ha_p0.2 | omega)) ((by first | exact ok_131 f_49.1 | omega)) ((by first | exact c_57 | omega)) (by decide)).2
          refine lv_iload_n hx hb dX10_fewestLeaps_161 rfl (lv_at hl 7 rfl) ?_
          refine lv_iadd hx hb dX10_fewestLeaps_162 ?_
          refine lv_topi (fun y_106 ey_106 => ?_)
          have ty_106 : y_106.toInt = y_105.toInt + p1.toInt := xI_add rfl rfl ey_106 ((by first | exact ok_27 ha_p1.1 ty_105.1 | omega)) ((by first | exact ok_367 ha_p1.2 ty_105.2 | omega))
          have g_107 : (G_98.1 7 3).toInt = (G.1 7 3).toInt := (congrArg Int32.toInt (show G_98.1 7 3 = (G.1 7 3) from ((hq_99.i9 7 3 rfl rfl).trans ((hq_92.i9 7 3 rfl rfl).trans ((hq_38.i9 7 3 rfl rfl).trans ((hq_31.i9 7 3 rfl rfl).trans ((hq_13.i9 7 3 rfl rfl).trans ((hq_9.i9 7 3 rfl rfl).trans ((hq_4.i9 7 3 rfl rfl).trans (rfl))))))))))
          have g_108 : (G_98.1 7 4).toInt = (G.1 7 4).toInt := (congrArg Int32.toInt (show G_98.1 7 4 = (G.1 7 4) from ((hq_99.i9 7 4 rfl rfl).trans ((hq_92.i9 7 4 rfl rfl).trans ((hq_38.i9 7 4 rfl rfl).trans ((hq_31.i9 7 4 rfl rfl).trans ((hq_13.i9 7 4 rfl rfl).trans ((hq_9.i9 7 4 rfl rfl).trans ((hq_4.i9 7 4 rfl rfl).trans (rfl))))))))))
          have g_109 : (G_98.1 7 6).toInt = (G.1 7 6).toInt := (congrArg Int32.toInt (show G_98.1 7 6 = (G.1 7 6) from ((hq_99.i9 7 6 rfl rfl).trans ((hq_92.i9 7 6 rfl rfl).trans ((hq_38.i9 7 6 rfl rfl).trans ((hq_31.i9 7 6 rfl rfl).trans ((hq_13.i9 7 6 rfl rfl).trans ((hq_9.i9 7 6 rfl rfl).trans ((hq_4.i9 7 6 rfl rfl).trans (rfl))))))))))
          have g_110 : (G_98.1 7 7).toInt = (G.1 7 7).toInt := (congrArg Int32.toInt (show G_98.1 7 7 = (G.1 7 7) from ((hq_99.i9 7 7 rfl rfl).trans ((hq_92.i9 7 7 rfl rfl).trans ((hq_38.i9 7 7 rfl rfl).trans ((hq_31.i9 7 7 rfl rfl).trans ((hq_13.i9 7 7 rfl rfl).trans ((hq_9.i9 7 7 rfl rfl).trans ((hq_4.i9 7 7 rfl rfl).trans (rfl))))))))))
          refine S_calli (va_runV (As := [.ref (a 7), .int 2, .int y_104, .int y_106]) (rest := []) ⟨hx, hb, hml, hown, hts⟩ (k_tHand_2 l D k A a z G_98 y_104 y_106 ⟨(by first | exact ok_368 ha_p1.2 ty_103.1 ty_104 | omega), (by first | exact ok_369 ha_p1.1 ty_103.2 ty_104 | omega)⟩ ⟨(by first | exact ok_370 ha_p1.1 ty_105.1 ty_106 | omega), (by first | exact ok_371 ha_p1.2 ty_105.2 ty_106 | omega)⟩ ((by first | exact ⟨(by first | exact ok_235 hci.1 g_109 | omega), ⟨(by first | exact ok_185 hci.2.1 g_107 g_108 | omega), (by first | exact ok_236 hci.2.2 g_108 g_109 g_110 | omega)⟩⟩ | omega))) (cwV 4 hts (gd_V hgd m1096 m1098 m37 m124 m1099) rfl rfl rfl hd_X10_followHand ⟨Nat.le_of_ble_eq_true rfl, Nat.le_of_ble_eq_true rfl⟩) (pre_W hW hB_G_98 hK hZ hS kd_8 rfl) rfl rfl hl.1 rfl (lv_room (Nat.le_of_ble_eq_true rfl)) dX10_fewestLeaps_163 ⟨Nat.le_of_ble_eq_true rfl, Nat.le_of_ble_eq_true rfl⟩) hS (fun r_111 G_112 H locs hpo hW hS => ?_)
          have hX_115 : P_tHand_2 y_104 y_106 G_98 r_111 G_112 := hpo
          obtain ⟨hB_G_112, hq_113, f_116, -⟩ := hpo
          have hF := hF.call9 hq_113 rfl rfl
          refine lv_istore (lv' := [(6, .int r_111), (4, .int y_102), (7, .int x_41), (5, .int 2), (0, .ref (a 8)), (1, .ref (a 7)), (2, .int p0), (3, .int p1)]) hx hb dX10_fewestLeaps_166 hl (lt_b rfl) rfl (fun ls hl => ?_)
          refine ic_2 hx hb dX10_fewestLeaps_168 ?_
          refine lv_iload hx hb dX10_fewestLeaps_169 (lv_at hl 3 rfl) ?_
          refine lv_isub hx hb dX10_fewestLeaps_171 ?_
          refine lv_topi (fun y_117 ey_117 => ?_)
          obtain rfl : y_117 = 0 := ey_117.trans (by decide)
          refine lv_istore (lv' := [(5, .int 0), (6, .int r_111), (4, .int y_102), (7, .int x_41), (0, .ref (a 8)), (1, .ref (a 7)), (2, .int p0), (3, .int p1)]) hx hb dX10_fewestLeaps_172 hl (lt_b rfl) rfl (fun ls hl => ?_)
          obtain ⟨y_118, ey_118⟩ : ∃ q, q = x_41 + 1 := ⟨_, rfl⟩
          have ty_118 : y_118.toInt = x_41.toInt + 1 := xI_add rfl rfl ey_118 ((by first | exact ok_237 f_49.1 | omega)) ((by first | exact ok_372 f_49.2 | omega))
          refine lv_iinc (v := y_118) (lv' := [(7, .int y_118), (5, .int 0), (6, .int r_111), (4, .int y_102), (0, .ref (a 8)), (1, .ref (a 7)), (2, .int p0), (3, .int p1)]) hx hb dX10_fewestLeaps_174 hl (k := 3) rfl (by rw [ey_118]; rfl) (lt_b rfl) rfl (fun ls hl => ?_)
          refine lv_goto (tgt := 82) hx hb dX10_fewestLeaps_177 rfl ?_
          have qc_119 : (0 : Int32).toInt = 0 := rfl
          exact ih_39 (401 - y_118.toInt : Int).toNat ((by first | (clear ha_p0 ha_p1 hci b_1 hn_20 f_19 b_21 g_22 b_23 g_24 g_25 b_26 g_27 g_28 f_34 hp_32 ty_35 c_36 f_50 f_51 f_52 f_53 c_55 h_59 eh_59 ty_95 ty_102 ty_103 ty_104 ty_105 ty_106 g_107 g_108 g_109 g_110 f_116; omega) | omega)) _ _ _ ⟨G_112, y_118, r_111, 0, y_102, (Int.toNat_of_nonneg ((by first | exact ok_373 f_49.2 c_57 ty_118 | omega))), ⟨(by first | exact ok_240 f_49.1 ty_118 | omega), (by first | exact ok_374 f_49.2 c_57 ty_118 | omega)⟩, ⟨(by first | exact f_116.1 | omega), (by first | exact f_116.2 | omega)⟩, ⟨(by decide), (by decide)⟩, ((by first | (clear ha_p0 ha_p1 hci b_1 hn_20 f_19 b_21 g_22 b_23 g_24 g_25 b_26 g_27 g_28 f_34 hp_32 ty_35 c_36 hn_54 f_49 f_50 f_51 f_52 f_53 c_55 c_57 h_59 eh_59 ty_103 ty_104 ty_105 ty_106 g_107 g_108 g_109 g_110 f_116 ty_118; omega) | omega)), ((by first | exact ok_364 | omega)), (hX_45.st (St_k_tLeaps_2_mk ⟨x_41, x_42, x_43, x_44, G_37, y_118, r_111, 0, y_102, G_112, rfl, rfl, f_49, f_50, f_51, f_52, f_53, hB_G_37, ⟨c_55, ⟨c_57, (Or.inr ⟨h_59, ⟨r_90, G_91, hX_94, ⟨y_95, ty_95, ⟨r_97, G_98, hX_101, ⟨y_102, ty_102, ⟨y_103, ey_103, ⟨y_104, ty_104, ⟨y_105, ey_105, ⟨y_106, ty_106, ⟨r_111, G_112, hX_115, ⟨y_118, ty_118, ⟨rfl, rfl, rfl, rfl, rfl⟩⟩⟩⟩⟩⟩⟩⟩⟩⟩⟩⟩)⟩⟩⟩)), hW, hB_G_112, hF, (Fr.call9 (rs := [42, 43, 44, 45, 48, 49, 50, 51]) (fs := [(9, 2), (9, 3), (19, 2), (19, 3)]) (Fr.call9 (rs := [42, 43, 44, 45, 48, 49, 50, 51]) (fs := [(9, 2), (9, 3), (19, 2), (19, 3)]) (Fr.call9 (rs := [42, 43, 44, 45, 48, 49, 50, 51]) (fs := [(9, 2), (9, 3), (19, 2), (19, 3)]) (Fr.call9 (rs := [42, 43, 44, 45, 48, 49, 50, 51]) (fs := [(9, 2), (9, 3), (19, 2), (19, 3)]) Fr.rf hq_38 rfl rfl) hq_92 rfl rfl) hq_99 rfl rfl) hq_113 rfl rfl), hS, lv_sub hl [0, 2, 1, 3, 4, 5, 6, 7] rfl⟩
  · have c_36 : x_16.toInt ≤ y_35.toInt := xI_nlt rfl rfl c_36
    refine lv_aload_n hx hb dX10_fewestLeaps_38 rfl (lv_at hl 1 rfl) ?_
    refine S_getR (n := 41) (C := RX10) (T := TX10) (N := 5) hx hb hg iX10 hown hK hW kd_8 rfl 0 (lt_b rfl) (hg (Cond.fieldLink RX10 13 "SlabWalk$Trails" "rows" "[[I") m440) (fun _ h9 => h9) rfl dX10_fewestLeaps_39 ?_
    refine ic_0 hx hb dX10_fewestLeaps_42 ?_
    refine S_aald hx hb hK hW kd_41 (vin (by decide) (by decide)) dX10_fewestLeaps_43 ?_
    refine rows_at (n := 42) (rows_c hB_G_30 0 (by decide)) ?_
    refine lv_iload hx hb dX10_fewestLeaps_44 (lv_at hl 0 rfl) ?_
    refine lv_aload_n hx hb dX10_fewestLeaps_46 rfl (lv_at hl 2 rfl) ?_
    refine S_getR (n := 40) (C := RX0) (T := TX0) (N := 8) hx hb hg iX0 hown hK hW kd_7 rfl 0 (lt_b rfl) (hg (Cond.fieldLink RX10 55 "SlabWalk$Course" "lawful" "[Z") m373) (fun _ h9 => h9) rfl dX10_fewestLeaps_47 ?_
    refine lv_iload hx hb dX10_fewestLeaps_50 (lv_at hl 0 rfl) ?_
    refine S_zald hx hb hK hW kd_40 (vin ((by first | exact f_19.1 | omega)) ((by first | exact ok_376 f_19.2 | omega))) dX10_fewestLeaps_52 (fun y_120 ey_120 => ?_)
    have ty_120 : 0 ≤ y_120.toInt ∧ y_120.toInt ≤ 1 := bv_40 hB_G_30 ey_120
    refine lv_if_eq (tgt := 60) hx hb dX10_fewestLeaps_53 rfl (fun c_121 => ?_) (fun c_121 => ?_)
    · have c_121 : y_120.toInt = 0 := xI_eq rfl rfl c_121
      refine lv_ldc (v := 1000000) hx hb hown (hg (Cond.constant RX10 44 1000000) m997) dX10_fewestLeaps_60 ?_
      refine S_iast hx hb hK hW hS kd_42 (vin ((by first | exact f_19.1 | omega)) ((by first | exact ok_377 f_19.2 | omega))) dX10_fewestLeaps_62 (fun G_122 H locs eG_122 hW hS => ?_)
      have hB_G_122 : Bd G_122 := hB_G_30.put (lo := (-2147483648)) (hi := 2147483647) eG_122 rfl rfl rfl (tI_rng _).1 (tI_rng _).2 (hB_G_30.2.put eG_122 rfl)
      have hF := hF.put eG_122 (Or.inl (by decide))
      obtain ⟨y_123, ey_123⟩ : ∃ q, q = x_16 + 1 := ⟨_, rfl⟩
      have ty_123 : y_123.toInt = x_16.toInt + 1 := xI_add rfl rfl ey_123 ((by first | exact ok_21 f_19.1 | omega)) ((by first | exact ok_134 f_19.2 | omega))
      refine lv_iinc (v := y_123) (lv' := [(4, .int y_123), (0, .ref (a 8)), (1, .ref (a 7)), (2, .int p0), (3, .int p1)]) hx hb dX10_fewestLeaps_63 hl (k := 0) rfl (by rw [ey_123]; rfl) (lt_b rfl) rfl (fun ls hl => ?_)
      refine lv_goto (tgt := 25) hx hb dX10_fewestLeaps_66 rfl ?_
      exact ih_14 (100 - y_123.toInt : Int).toNat ((by first | (clear ha_p0 ha_p1 hci b_1 b_21 g_22 b_23 g_24 g_25 b_26 g_27 g_28 f_34 hp_32 ty_120 c_121; omega) | omega)) _ _ _ ⟨G_122, y_123, (Int.toNat_of_nonneg ((by first | exact ok_378 ha_p1.2 f_19.2 ty_35 c_36 ty_123 | omega))), ⟨(by first | exact ok_23 f_19.1 ty_123 | omega), (by first | exact ok_379 ha_p1.2 f_19.2 ty_35 c_36 ty_123 | omega)⟩, (hX_17.st (St_k_tLeaps_1_mk ⟨x_16, G_12, y_123, G_122, rfl, rfl, f_19, hB_G_12, ⟨r_29, G_30, hX_33, ⟨y_35, ty_35, ⟨c_36, ⟨y_120, ey_120, (Or.inl ⟨c_121, ⟨y_123, ty_123, ⟨rfl, (Fr.put (rs := [42]) (fs := []) Fr.rf eG_122 (Or.inl (by decide))), rw_ast eG_122⟩⟩⟩)⟩⟩⟩⟩⟩)), hW, hB_G_122, hF, (Fr.put (rs := [42]) (fs := []) (Fr.call9 (rs := [42]) (fs := []) (Fr.call9 (rs := [42]) (fs := []) Fr.rf hq_13 rfl rfl) hq_31 rfl rfl) eG_122 (Or.inl (by decide))), hS, lv_sub hl [0, 1, 2, 3, 4] rfl⟩
    · have c_121 : y_120.toInt ≠ 0 := xI_ne rfl rfl c_121
      refine ic_0 hx hb dX10_fewestLeaps_56 ?_
      refine lv_goto (tgt := 62) hx hb dX10_fewestLeaps_57 rfl ?_
      refine S_iast hx hb hK hW hS kd_42 (vin ((by first | exact f_19.1 | omega)) ((by first | exact ok_377 f_19.2 | omega))) dX10_fewestLeaps_62 (fun G_124 H locs eG_124 hW hS => ?_)
      have hB_G_124 : Bd G_124 := hB_G_30.put (lo := (-2147483648)) (hi := 2147483647) eG_124 rfl rfl rfl (tI_rng _).1 (tI_rng _).2 (hB_G_30.2.put eG_124 rfl)
      have hF := hF.put eG_124 (Or.inl (by decide))
      obtain ⟨y_125, ey_125⟩ : ∃ q, q = x_16 + 1 := ⟨_, rfl⟩
      have ty_125 : y_125.toInt = x_16.toInt + 1 := xI_add rfl rfl ey_125 ((by first | exact ok_21 f_19.1 | omega)) ((by first | exact ok_134 f_19.2 | omega))
      refine lv_iinc (v := y_125) (lv' := [(4, .int y_125), (0, .ref (a 8)), (1, .ref (a 7)), (2, .int p0), (3, .int p1)]) hx hb dX10_fewestLeaps_63 hl (k := 0) rfl (by rw [ey_125]; rfl) (lt_b rfl) rfl (fun ls hl => ?_)
      refine lv_goto (tgt := 25) hx hb dX10_fewestLeaps_66 rfl ?_
      exact ih_14 (100 - y_125.toInt : Int).toNat ((by first | (clear ha_p0 ha_p1 hci b_1 b_21 g_22 b_23 g_24 g_25 b_26 g_27 g_28 f_34 hp_32 ty_120 c_121; omega) | omega)) _ _ _ ⟨G_124, y_125, (Int.toNat_of_nonneg ((by first | exact ok_378 ha_p1.2 f_19.2 ty_35 c_36 ty_125 | omega))), ⟨(by first | exact ok_23 f_19.1 ty_125 | omega), (by first | exact ok_379 ha_p1.2 f_19.2 ty_35 c_36 ty_125 | omega)⟩, (hX_17.st (St_k_tLeaps_1_mk ⟨x_16, G_12, y_125, G_124, rfl, rfl, f_19, hB_G_12, ⟨r_29, G_30, hX_33, ⟨y_35, ty_35, ⟨c_36, ⟨y_120, ey_120, (Or.inr ⟨c_121, ⟨y_125, ty_125, ⟨rfl, (Fr.put (rs := [42]) (fs := []) Fr.rf eG_124 (Or.inl (by decide))), rw_ast eG_124⟩⟩⟩)⟩⟩⟩⟩⟩)), hW, hB_G_124, hF, (Fr.put (rs := [42]) (fs := []) (Fr.call9 (rs := [42]) (fs := []) (Fr.call9 (rs := [42]) (fs := []) Fr.rf hq_13 rfl rfl) hq_31 rfl rfl) eG_124 (Or.inl (by decide))), hS, lv_sub hl [0, 1, 2, 3, 4] rfl⟩

theorem m443 : Cond.fieldLink RX10 26 "SlabWalk$Trails" "winning" "[I" ∈ gd := gdc_2_5 7 rfl gw_fieldLink
theorem m445 : Cond.fieldLink RX10 30 "SlabWalk$Trails" "leaving" "[Z" ∈ gd := gdc_2_5 9 rfl gw_fieldLink
noncomputable def rbX10_winningFrom_0 : List (Nat × List Nat) := [(0, [3]), (1, [62]), (2, [29]), (3, [16, 6]), (5, [162, 0, 52]), (8, [4]), (9, [29]), (10, [120]), (11, [28]), (12, [163, 0, 45]), (15, [27]), (16, [4]), (17, [29]), (18, [120]), (19, [128]), (20, [54, 4]), (22, [21, 4]), (24, [27]), (25, [159, 0, 26]), (28, [42]), (29, [180, 0, 30]), (32, [21, 4]), (34, [51]), (35, [153, 0, 16])]
theorem rcX10_winningFrom_0 : dgo (lb cX10_winningFrom) 0 rbX10_winningFrom_0 = true := by decide +kernel
theorem dX10_winningFrom_0 : decode cX10_winningFrom 0 = .ok (.iconst 0, 1) := dk_3 (dw rcX10_winningFrom_0 0 rfl)
theorem dX10_winningFrom_1 : decode cX10_winningFrom 1 = .ok (.istore_n 3, 1) := dk_62 (dw rcX10_winningFrom_0 1 rfl)
theorem dX10_winningFrom_2 : decode cX10_winningFrom 2 = .ok (.iload_n 3, 1) := dk_29 (dw rcX10_winningFrom_0 2 rfl)
theorem dX10_winningFrom_3 : decode cX10_winningFrom 3 = .ok (.bipush 6, 2) := dk_16 (dw rcX10_winningFrom_0 3 rfl) rfl
theorem dX10_winningFrom_5 : decode cX10_winningFrom 5 = .ok (.if_icmp .ge 52, 3) := dk_162 (dw rcX10_winningFrom_0 4 rfl) rfl
theorem dX10_winningFrom_8 : decode cX10_winningFrom 8 = .ok (.iconst 1, 1) := dk_4 (dw rcX10_winningFrom_0 5 rfl)
theorem dX10_winningFrom_9 : decode cX10_winningFrom 9 = .ok (.iload_n 3, 1) := dk_29 (dw rcX10_winningFrom_0 6 rfl)
theorem dX10_winningFrom_10 : decode cX10_winningFrom 10 = .ok (.ishl, 1) := dk_120 (dw rcX10_winningFrom_0 7 rfl)
theorem dX10_winningFrom_11 : decode cX10_winningFrom 11 = .ok (.iload_n 2, 1) := dk_28 (dw rcX10_winningFrom_0 8 rfl)
theorem dX10_winningFrom_12 : decode cX10_winningFrom 12 = .ok (.if_icmp .gt 45, 3) := dk_163 (dw rcX10_winningFrom_0 9 rfl) rfl
theorem dX10_winningFrom_15 : decode cX10_winningFrom 15 = .ok (.iload_n 1, 1) := dk_27 (dw rcX10_winningFrom_0 10 rfl)
theorem dX10_winningFrom_16 : decode cX10_winningFrom 16 = .ok (.iconst 1, 1) := dk_4 (dw rcX10_winningFrom_0 11 rfl)
theorem dX10_winningFrom_17 : decode cX10_winningFrom 17 = .ok (.iload_n 3, 1) := dk_29 (dw rcX10_winningFrom_0 12 rfl)
theorem dX10_winningFrom_18 : decode cX10_winningFrom 18 = .ok (.ishl, 1) := dk_120 (dw rcX10_winningFrom_0 13 rfl)
theorem dX10_winningFrom_19 : decode cX10_winningFrom 19 = .ok (.ior, 1) := dk_128 (dw rcX10_winningFrom_0 14 rfl)
theorem dX10_winningFrom_20 : decode cX10_winningFrom 20 = .ok (.istore 4, 2) := dk_54 (dw rcX10_winningFrom_0 15 rfl)
theorem dX10_winningFrom_22 : decode cX10_winningFrom 22 = .ok (.iload 4, 2) := dk_21 (dw rcX10_winningFrom_0 16 rfl)
theorem dX10_winningFrom_24 : decode cX10_winningFrom 24 = .ok (.iload_n 1, 1) := dk_27 (dw rcX10_winningFrom_0 17 rfl)
theorem dX10_winningFrom_25 : decode cX10_winningFrom 25 = .ok (.if_icmp .eq 26, 3) := dk_159 (dw rcX10_winningFrom_0 18 rfl) rfl
theorem dX10_winningFrom_28 : decode cX10_winningFrom 28 = .ok (.aload_n 0, 1) := dk_42 (dw rcX10_winningFrom_0 19 rfl)
theorem dX10_winningFrom_29 : decode cX10_winningFrom 29 = .ok (.getfield 30, 3) := dk_180 (dw rcX10_winningFrom_0 20 rfl) rfl
theorem dX10_winningFrom_32 : decode cX10_winningFrom 32 = .ok (.iload 4, 2) := dk_21 (dw rcX10_winningFrom_0 21 rfl)
theorem dX10_winningFrom_34 : decode cX10_winningFrom 34 = .ok (.baload, 1) := dk_51 (dw rcX10_winningFrom_0 22 rfl)
theorem dX10_winningFrom_35 : decode cX10_winningFrom 35 = .ok (.ifCond .eq 16, 3) := dk_153 (dw rcX10_winningFrom_0 23 rfl) rfl
noncomputable def rbX10_winningFrom_38 : List (Nat × List Nat) := [(38, [42]), (39, [180, 0, 26]), (42, [21, 4]), (44, [46]), (45, [2]), (46, [160, 0, 5]), (49, [29]), (50, [172]), (51, [132, 3, 1]), (54, [167, 255, 204]), (57, [2]), (58, [172])]
theorem rcX10_winningFrom_38 : dgo (lb cX10_winningFrom) 0 rbX10_winningFrom_38 = true := by decide +kernel
theorem dX10_winningFrom_38 : decode cX10_winningFrom 38 = .ok (.aload_n 0, 1) := dk_42 (dw rcX10_winningFrom_38 0 rfl)
theorem dX10_winningFrom_39 : decode cX10_winningFrom 39 = .ok (.getfield 26, 3) := dk_180 (dw rcX10_winningFrom_38 1 rfl) rfl
theorem dX10_winningFrom_42 : decode cX10_winningFrom 42 = .ok (.iload 4, 2) := dk_21 (dw rcX10_winningFrom_38 2 rfl)
theorem dX10_winningFrom_44 : decode cX10_winningFrom 44 = .ok (.iaload, 1) := dk_46 (dw rcX10_winningFrom_38 3 rfl)
theorem dX10_winningFrom_45 : decode cX10_winningFrom 45 = .ok (.iconst (-1), 1) := dk_2 (dw rcX10_winningFrom_38 4 rfl)
theorem dX10_winningFrom_46 : decode cX10_winningFrom 46 = .ok (.if_icmp .ne 5, 3) := dk_160 (dw rcX10_winningFrom_38 5 rfl) rfl
theorem dX10_winningFrom_49 : decode cX10_winningFrom 49 = .ok (.iload_n 3, 1) := dk_29 (dw rcX10_winningFrom_38 6 rfl)
theorem dX10_winningFrom_50 : decode cX10_winningFrom 50 = .ok (.ireturn, 1) := dk_172 (dw rcX10_winningFrom_38 7 rfl)
theorem dX10_winningFrom_51 : decode cX10_winningFrom 51 = .ok (.iinc 3 1, 3) := dk_132 (dw rcX10_winningFrom_38 8 rfl) rfl
theorem dX10_winningFrom_54 : decode cX10_winningFrom 54 = .ok (.goto (-52), 3) := dk_167 (dw rcX10_winningFrom_38 9 rfl) rfl
theorem dX10_winningFrom_57 : decode cX10_winningFrom 57 = .ok (.iconst (-1), 1) := dk_2 (dw rcX10_winningFrom_38 10 rfl)
theorem dX10_winningFrom_58 : decode cX10_winningFrom 58 = .ok (.ireturn, 1) := dk_172 (dw rcX10_winningFrom_38 11 rfl)
set_option maxHeartbeats 4000000 in
set_option maxRecDepth 100000 in
theorem k_tWin (l : Launch) (D : va_G) (k : KT) (A : Nat → Prop) (a : Nat → Nat) (z : SK) (G : GS) (p0 : Int32) (p1 : Int32) (ha_p0 : 0 ≤ p0.toInt ∧ p0.toInt ≤ 63) (ha_p1 : 0 ≤ p1.toInt ∧ p1.toInt ≤ 63) : Met l yX10_winningFrom (WS yX10_winningFrom cX10_winningFrom 5 (some .int)) ({ frames := 0, cells := 0, slots := 0, locals := 0 }) (va_Pc [.ref (a 8), .int p0, .int p1] (cW D k A a z G)) (va_Qi (fun (r : Int32) (G1 : GS) => P_tWin p0 p1 G r G1) (fun (G1 : GS) t => Wd D k A a G1 t.heap) A) 0 0 A := by
  refine Met.ofW (cc := cX10_winningFrom) (maxL := 5) (ret := (some .int)) (by decide) rfl ?_
  intro p e s m args below meth c s₁ B hml hv
  obtain ⟨rfl, hW, hB_G, hK, hZ⟩ := hv
  have hx := B.exec
  have hb := B.bytes
  have hr := B.returns
  have hts := atoms_spec (ws := WS yX10_winningFrom cX10_winningFrom 5 (some .int)) B.pre
  have hgd : ∀ w ∈ gd, w ∈ WS yX10_winningFrom cX10_winningFrom 5 (some .int) := fun w h => List.mem_cons_of_mem _ h
  have hg : ∀ w ∈ gd, w.before _ s = true := fun w h => hts w (hgd w h)
  have hown : s.vm.findClass RX10 = some m.cls := findClass_of_methodNamed B.named
  have hS : va_S A s.heap s.heap [] := va_S.rf
  have hF : Fr [] [] G G := Fr.rf
  have hl := lv_entry ([.ref (a 8), .int p0, .int p1]) (n := 5) (Nat.le_of_ble_eq_true rfl)
  rw [lg_entry_eq]
  generalize (lg_sl ([.ref (a 8), .int p0, .int p1]) ++ List.replicate (5 - (lg_sl ([.ref (a 8), .int p0, .int p1])).length) Slot.unset).toArray = ls at hl ⊢
  have hl : lv_has ls 5 [(0, .ref (a 8)), (1, .int p0), (2, .int p1)] := hl
  refine ic_0 hx hb dX10_winningFrom_0 ?_
  refine lv_istore_n (lv' := [(3, .int 0), (0, .ref (a 8)), (1, .int p0), (2, .int p1)]) hx hb dX10_winningFrom_1 rfl hl (lt_b rfl) rfl (fun ls hl => ?_)
  have qc_7 : (0 : Int32).toInt = 0 := rfl
  refine loop_N (Inv := fun n H locs ls => ∃ (G_1 : GS) (x_5 : Int32), (n : Int) = 6 - x_5.toInt ∧ (0 ≤ x_5.toInt ∧ x_5.toInt ≤ 6) ∧ Rc (St_k_tWin_1 p0 p1) (0, G) (x_5, G_1) ∧ Wd D k A a G_1 H ∧ Bd G_1 ∧ Fr [] [] G G_1 ∧ Fr [] [] G G_1 ∧ va_S A s.heap H locs ∧ lv_has ls 5 [(3, .int x_5), (0, .ref (a 8)), (1, .int p0), (2, .int p1)]) (fun n_4 H locs ls ih_3 hI => ?_) (6 - 0 : Int).toNat ⟨G, 0, (Int.toNat_of_nonneg ((by decide))), ⟨(by decide), (by decide)⟩, Rc.rf, hW, hB_G, hF, Fr.rf, hS, lv_sub hl [0, 1, 2, 3] rfl⟩
  obtain ⟨G_1, x_5, hn_9, f_8, hX_6, hW, hB_G_1, hF, hq_2, hS, hl⟩ := hI
  refine lv_iload_n hx hb dX10_winningFrom_2 rfl (lv_at hl 0 rfl) ?_
  refine lv_bipush (v := 6) hx hb dX10_winningFrom_3 (by decide) ?_
  refine lv_icmp_ge (tgt := 57) hx hb dX10_winningFrom_5 rfl (fun c_10 => ?_) (fun c_10 => ?_)
  · have c_10 : 6 ≤ x_5.toInt := xI_le rfl rfl c_10
    refine ic_m1 hx hb dX10_winningFrom_57 ?_
    exact W.iret (v := (-1)) hx hb hr (fun t ht _ => ⟨⟨(-1), G_1, rfl, (P_tWin_mk ⟨hB_G_1, hF, ⟨x_5, G_1, hX_6, f_8, hB_G_1, hq_2, (Or.inl ⟨c_10, ⟨rfl, rfl⟩⟩)⟩⟩), wd_t ht hW⟩, hS.F ht⟩) hS.2.2 dX10_winningFrom_58
  · have c_10 : x_5.toInt < 6 := xI_nle rfl rfl c_10
    refine ic_1 hx hb dX10_winningFrom_8 ?_
    refine lv_iload_n hx hb dX10_winningFrom_9 rfl (lv_at hl 0 rfl) ?_
    refine lv_ishl hx hb dX10_winningFrom_10 ?_
    refine lv_topi (fun y_11 ey_11 => ?_)
    have ty_11 := sh5 (Y := x_5.toInt) rfl ey_11 rfl (by omega) (by omega)
    refine lv_iload_n hx hb dX10_winningFrom_11 rfl (lv_at hl 3 rfl) ?_
    refine lv_icmp_gt (tgt := 57) hx hb dX10_winningFrom_12 rfl (fun c_12 => ?_) (fun c_12 => ?_)
    · have c_12 : p1.toInt < y_11.toInt := xI_lt rfl rfl c_12
      refine ic_m1 hx hb dX10_winningFrom_57 ?_
      exact W.iret (v := (-1)) hx hb hr (fun t ht _ => ⟨⟨(-1), G_1, rfl, (P_tWin_mk ⟨hB_G_1, hF, ⟨x_5, G_1, hX_6, f_8, hB_G_1, hq_2, (Or.inr ⟨c_10, ⟨y_11, ey_11, (Or.inl ⟨c_12, ⟨rfl, rfl⟩⟩)⟩⟩)⟩⟩), wd_t ht hW⟩, hS.F ht⟩) hS.2.2 dX10_winningFrom_58
    · have c_12 : y_11.toInt ≤ p1.toInt := xI_nlt rfl rfl c_12
      refine lv_iload_n hx hb dX10_winningFrom_15 rfl (lv_at hl 2 rfl) ?_
      refine ic_1 hx hb dX10_winningFrom_16 ?_
      refine lv_iload_n hx hb dX10_winningFrom_17 rfl (lv_at hl 0 rfl) ?_
      refine lv_ishl hx hb dX10_winningFrom_18 ?_
      refine lv_topi (fun y_13 ey_13 => ?_)
      have ty_13 := sh5 (Y := x_5.toInt) rfl ey_13 rfl (by first | (clear ha_p0 ha_p1 hn_9 ty_11 c_12; omega) | omega) (by first | (clear ha_p0 ha_p1 hn_9 ty_11 c_12; omega) | omega)
      refine lv_ior hx hb dX10_winningFrom_19 ?_
      refine lv_topi (fun y_14 ey_14 => ?_)
      have ty_14 := or6 ey_14 ⟨by omega, by omega⟩ ⟨by omega, by omega⟩
      refine lv_istore (lv' := [(4, .int y_14), (3, .int x_5), (0, .ref (a 8)), (1, .int p0), (2, .int p1)]) hx hb dX10_winningFrom_20 hl (lt_b rfl) rfl (fun ls hl => ?_)
      refine lv_iload hx hb dX10_winningFrom_22 (lv_at hl 0 rfl) ?_
      refine lv_iload_n hx hb dX10_winningFrom_24 rfl (lv_at hl 3 rfl) ?_
      refine lv_icmp_eq (tgt := 51) hx hb dX10_winningFrom_25 rfl (fun c_15 => ?_) (fun c_15 => ?_)
      · have c_15 : y_14.toInt = p0.toInt := xI_eq rfl rfl c_15
        obtain ⟨y_16, ey_16⟩ : ∃ q, q = x_5 + 1 := ⟨_, rfl⟩
        have ty_16 : y_16.toInt = x_5.toInt + 1 := xI_add rfl rfl ey_16 ((by first | exact ok_21 f_8.1 | omega)) ((by first | exact ok_157 f_8.2 | omega))
        refine lv_iinc (v := y_16) (lv' := [(3, .int y_16), (4, .int y_14), (0, .ref (a 8)), (1, .int p0), (2, .int p1)]) hx hb dX10_winningFrom_51 hl (k := 1) rfl (by rw [ey_16]; rfl) (lt_b rfl) rfl (fun ls hl => ?_)
        refine lv_goto (tgt := 2) hx hb dX10_winningFrom_54 rfl ?_
        exact ih_3 (6 - y_16.toInt : Int).toNat ((by first | (clear ha_p0 ha_p1 ty_11 c_12 ty_13 ty_14 c_15; omega) | omega)) _ _ _ ⟨G_1, y_16, (Int.toNat_of_nonneg ((by first | exact ok_158 f_8.2 c_10 ty_16 | omega))), ⟨(by first | exact ok_23 f_8.1 ty_16 | omega), (by first | exact ok_159 f_8.2 c_10 ty_16 | omega)⟩, (hX_6.st (St_k_tWin_1_mk ⟨x_5, G_1, y_16, G_1, rfl, rfl, f_8, hB_G_1, ⟨c_10, ⟨y_11, ey_11, ⟨c_12, ⟨y_13, ey_13, ⟨y_14, ey_14, (Or.inl ⟨c_15, ⟨y_16, ty_16, ⟨rfl, rfl⟩⟩⟩)⟩⟩⟩⟩⟩⟩)), hW, hB_G_1, hF, (Fr.call9 (rs := []) (fs := []) Fr.rf hq_2 rfl rfl), hS, lv_sub hl [0, 2, 3, 4] rfl⟩
      · have c_15 : y_14.toInt ≠ p0.toInt := xI_ne rfl rfl c_15
        refine lv_aload_n hx hb dX10_winningFrom_28 rfl (lv_at hl 2 rfl) ?_
        refine S_getR (n := 47) (C := RX10) (T := TX10) (N := 5) hx hb hg iX10 hown hK hW kd_8 rfl 4 (lt_b rfl) (hg (Cond.fieldLink RX10 30 "SlabWalk$Trails" "leaving" "[Z") m445) (fun _ h9 => h9) rfl dX10_winningFrom_29 ?_
        refine lv_iload hx hb dX10_winningFrom_32 (lv_at hl 0 rfl) ?_
        refine S_zald hx hb hK hW kd_47 (vin ((by first | exact ty_14.1 | omega)) ((by first | exact ok_380 ty_14.2 | omega))) dX10_winningFrom_34 (fun y_17 ey_17 => ?_)
        have ty_17 : 0 ≤ y_17.toInt ∧ y_17.toInt ≤ 1 := bv_47 hB_G_1 ey_17
        refine lv_if_eq (tgt := 51) hx hb dX10_winningFrom_35 rfl (fun c_18 => ?_) (fun c_18 => ?_)
        · have c_18 : y_17.toInt = 0 := xI_eq rfl rfl c_18
          obtain ⟨y_19, ey_19⟩ : ∃ q, q = x_5 + 1 := ⟨_, rfl⟩
          have ty_19 : y_19.toInt = x_5.toInt + 1 := xI_add rfl rfl ey_19 ((by first | exact ok_21 f_8.1 | omega)) ((by first | exact ok_157 f_8.2 | omega))
          refine lv_iinc (v := y_19) (lv' := [(3, .int y_19), (4, .int y_14), (0, .ref (a 8)), (1, .int p0), (2, .int p1)]) hx hb dX10_winningFrom_51 hl (k := 1) rfl (by rw [ey_19]; rfl) (lt_b rfl) rfl (fun ls hl => ?_)
          refine lv_goto (tgt := 2) hx hb dX10_winningFrom_54 rfl ?_
          exact ih_3 (6 - y_19.toInt : Int).toNat ((by first | (clear ha_p0 ha_p1 ty_11 c_12 ty_13 ty_14 c_15 ty_17 c_18; omega) | omega)) _ _ _ ⟨G_1, y_19, (Int.toNat_of_nonneg ((by first | exact ok_158 f_8.2 c_10 ty_19 | omega))), ⟨(by first | exact ok_23 f_8.1 ty_19 | omega), (by first | exact ok_159 f_8.2 c_10 ty_19 | omega)⟩, (hX_6.st (St_k_tWin_1_mk ⟨x_5, G_1, y_19, G_1, rfl, rfl, f_8, hB_G_1, ⟨c_10, ⟨y_11, ey_11, ⟨c_12, ⟨y_13, ey_13, ⟨y_14, ey_14, (Or.inr ⟨c_15, ⟨y_17, ey_17, (Or.inl ⟨c_18, ⟨y_19, ty_19, ⟨rfl, rfl⟩⟩⟩)⟩⟩)⟩⟩⟩⟩⟩⟩)), hW, hB_G_1, hF, (Fr.call9 (rs := []) (fs := []) Fr.rf hq_2 rfl rfl), hS, lv_sub hl [0, 2, 3, 4] rfl⟩
        · have c_18 : y_17.toInt ≠ 0 := xI_ne rfl rfl c_18
          refine lv_aload_n hx hb dX10_winningFrom_38 rfl (lv_at hl 2 rfl) ?_
          refine S_getR (n := 46) (C := RX10) (T := TX10) (N := 5) hx hb hg iX10 hown hK hW kd_8 rfl 3 (lt_b rfl) (hg (Cond.fieldLink RX10 26 "SlabWalk$Trails" "winning" "[I") m443) (fun _ h9 => h9) rfl dX10_winningFrom_39 ?_
          refine lv_iload hx hb dX10_winningFrom_42 (lv_at hl 0 rfl) ?_
          refine S_iald hx hb hK hW kd_46 (vin ((by first | exact ty_14.1 | omega)) ((by first | exact ok_380 ty_14.2 | omega))) dX10_winningFrom_44 (fun y_20 ey_20 => ?_)
          refine ic_m1 hx hb dX10_winningFrom_45 ?_
          refine lv_icmp_ne (tgt := 51) hx hb dX10_winningFrom_46 rfl (fun c_21 => ?_) (fun c_21 => ?_)
          · have c_21 : y_20.toInt ≠ (-1) := xI_ne rfl rfl c_21
            obtain ⟨y_22, ey_22⟩ : ∃ q, q = x_5 + 1 := ⟨_, rfl⟩
            have ty_22 : y_22.toInt = x_5.toInt + 1 := xI_add rfl rfl ey_22 ((by first | exact ok_21 f_8.1 | omega)) ((by first | exact ok_157 f_8.2 | omega))
            refine lv_iinc (v := y_22) (lv' := [(3, .int y_22), (4, .int y_14), (0, .ref (a 8)), (1, .int p0), (2, .int p1)]) hx hb dX10_winningFrom_51 hl (k := 1) rfl (by rw [ey_22]; rfl) (lt_b rfl) rfl (fun ls hl => ?_)
            refine lv_goto (tgt := 2) hx hb dX10_winningFrom_54 rfl ?_
            exact ih_3 (6 - y_22.toInt : Int).toNat ((by first | (clear ha_p0 ha_p1 ty_11 c_12 ty_13 ty_14 c_15 ty_17 c_18 c_21; omega) | omega)) _ _ _ ⟨G_1, y_22, (Int.toNat_of_nonneg ((by first | exact ok_158 f_8.2 c_10 ty_22 | omega))), ⟨(by first | exact ok_23 f_8.1 ty_22 | omega), (by first | exact ok_159 f_8.2 c_10 ty_22 | omega)⟩, (hX_6.st (St_k_tWin_1_mk ⟨x_5, G_1, y_22, G_1, rfl, rfl, f_8, hB_G_1, ⟨c_10, ⟨y_11, ey_11, ⟨c_12, ⟨y_13, ey_13, ⟨y_14, ey_14, (Or.inr ⟨c_15, ⟨y_17, ey_17, (Or.inr ⟨c_18, ⟨y_20, ey_20, ⟨c_21, ⟨y_22, ty_22, ⟨rfl, rfl⟩⟩⟩⟩⟩)⟩⟩)⟩⟩⟩⟩⟩⟩)), hW, hB_G_1, hF, (Fr.call9 (rs := []) (fs := []) Fr.rf hq_2 rfl rfl), hS, lv_sub hl [0, 2, 3, 4] rfl⟩
          · have c_21 : y_20.toInt = (-1) := xI_eq rfl rfl c_21
            refine lv_iload_n hx hb dX10_winningFrom_49 rfl (lv_at hl 1 rfl) ?_
            exact W.iret (v := x_5) hx hb hr (fun t ht _ => ⟨⟨x_5, G_1, rfl, (P_tWin_mk ⟨hB_G_1, hF, ⟨x_5, G_1, hX_6, f_8, hB_G_1, hq_2, (Or.inr ⟨c_10, ⟨y_11, ey_11, (Or.inr ⟨c_12, ⟨y_13, ey_13, ⟨y_14, ey_14, ⟨c_15, ⟨y_17, ey_17, ⟨c_18, ⟨y_20, ey_20, ⟨c_21, ⟨rfl, rfl⟩⟩⟩⟩⟩⟩⟩⟩⟩)⟩⟩)⟩⟩), wd_t ht hW⟩, hS.F ht⟩) hS.2.2 dX10_winningFrom_50


noncomputable def rbX2_isTimes_0 : List (Nat × List Nat) := [(0, [26]), (1, [16, 42]), (3, [159, 0, 15]), (6, [26]), (7, [16, 47]), (9, [159, 0, 9]), (12, [26]), (13, [16, 37]), (15, [160, 0, 7]), (18, [4]), (19, [167, 0, 4]), (22, [3]), (23, [172])]
theorem rcX2_isTimes_0 : dgo (lb cX2_isTimes) 0 rbX2_isTimes_0 = true := by decide +kernel
theorem dX2_isTimes_0 : decode cX2_isTimes 0 = .ok (.iload_n 0, 1) := dk_26 (dw rcX2_isTimes_0 0 rfl)
theorem dX2_isTimes_1 : decode cX2_isTimes 1 = .ok (.bipush 42, 2) := dk_16 (dw rcX2_isTimes_0 1 rfl) rfl
theorem dX2_isTimes_3 : decode cX2_isTimes 3 = .ok (.if_icmp .eq 15, 3) := dk_159 (dw rcX2_isTimes_0 2 rfl) rfl
theorem dX2_isTimes_6 : decode cX2_isTimes 6 = .ok (.iload_n 0, 1) := dk_26 (dw rcX2_isTimes_0 3 rfl)
theorem dX2_isTimes_7 : decode cX2_isTimes 7 = .ok (.bipush 47, 2) := dk_16 (dw rcX2_isTimes_0 4 rfl) rfl
theorem dX2_isTimes_9 : decode cX2_isTimes 9 = .ok (.if_icmp .eq 9, 3) := dk_159 (dw rcX2_isTimes_0 5 rfl) rfl
theorem dX2_isTimes_12 : decode cX2_isTimes 12 = .ok (.iload_n 0, 1) := dk_26 (dw rcX2_isTimes_0 6 rfl)
theorem dX2_isTimes_13 : decode cX2_isTimes 13 = .ok (.bipush 37, 2) := dk_16 (dw rcX2_isTimes_0 7 rfl) rfl
theorem dX2_isTimes_15 : decode cX2_isTimes 15 = .ok (.if_icmp .ne 7, 3) := dk_160 (dw rcX2_isTimes_0 8 rfl) rfl
theorem dX2_isTimes_18 : decode cX2_isTimes 18 = .ok (.iconst 1, 1) := dk_4 (dw rcX2_isTimes_0 9 rfl)
theorem dX2_isTimes_19 : decode cX2_isTimes 19 = .ok (.goto 4, 3) := dk_167 (dw rcX2_isTimes_0 10 rfl) rfl
theorem dX2_isTimes_22 : decode cX2_isTimes 22 = .ok (.iconst 0, 1) := dk_3 (dw rcX2_isTimes_0 11 rfl)
theorem dX2_isTimes_23 : decode cX2_isTimes 23 = .ok (.ireturn, 1) := dk_172 (dw rcX2_isTimes_0 12 rfl)
set_option maxHeartbeats 4000000 in
set_option maxRecDepth 100000 in
theorem k_fTimes (l : Launch) (D : va_G) (k : KT) (A : Nat → Prop) (a : Nat → Nat) (z : SK) (G : GS) (p0 : Int32)  : Met l yX2_isTimes (WS yX2_isTimes cX2_isTimes 1 (some .boolean)) ({ frames := 0, cells := 0, slots := 0, locals := 0 }) (va_Pc [.int p0] (cW D k A a z G)) (va_Qi (fun (r : Int32) (G1 : GS) => P_fTimes p0 G r G1) (fun (G1 : GS) t => Wd D k A a G1 t.heap) A) 0 0 A := by
  refine Met.ofW (cc := cX2_isTimes) (maxL := 1) (ret := (some .boolean)) (by decide) rfl ?_
  intro p e s m args below meth c s₁ B hml hv
  obtain ⟨rfl, hW, hB_G, hK, hZ⟩ := hv
  have hx := B.exec
  have hb := B.bytes
  have hr := B.returns
  have hts := atoms_spec (ws := WS yX2_isTimes cX2_isTimes 1 (some .boolean)) B.pre
  have hgd : ∀ w ∈ gd, w ∈ WS yX2_isTimes cX2_isTimes 1 (some .boolean) := fun w h => List.mem_cons_of_mem _ h
  have hg : ∀ w ∈ gd, w.before _ s = true := fun w h => hts w (hgd w h)
  have hown : s.vm.findClass RX2 = some m.cls := findClass_of_methodNamed B.named
  have hS : va_S A s.heap s.heap [] := va_S.rf
  have hF : Fr [] [] G G := Fr.rf
  have hl := lv_entry ([.int p0]) (n := 1) (Nat.le_of_ble_eq_true rfl)
  rw [lg_entry_eq]
  generalize (lg_sl ([.int p0]) ++ List.replicate (1 - (lg_sl ([.int p0])).length) Slot.unset).toArray = ls at hl ⊢
  have hl : lv_has ls 1 [(0, .int p0)] := hl
  refine lv_iload_n hx hb dX2_isTimes_0 rfl (lv_at hl 0 rfl) ?_
  refine lv_bipush (v := 42) hx hb dX2_isTimes_1 (by decide) ?_
  refine lv_icmp_eq (tgt := 18) hx hb dX2_isTimes_3 rfl (fun c_1 => ?_) (fun c_1 => ?_)
  · have c_1 : p0.toInt = 42 := xI_eq rfl rfl c_1
    refine ic_1 hx hb dX2_isTimes_18 ?_
    refine lv_goto (tgt := 23) hx hb dX2_isTimes_19 rfl ?_
    exact W.zret (v := 1) hx hb hr (by decide) (fun t ht _ => ⟨⟨1, G, rfl, (P_fTimes_mk ⟨hB_G, hF, ⟨by decide, by decide⟩, (Or.inl ⟨c_1, ⟨rfl, rfl⟩⟩)⟩), wd_t ht hW⟩, hS.F ht⟩) hS.2.2 dX2_isTimes_23
  · have c_1 : p0.toInt ≠ 42 := xI_ne rfl rfl c_1
    refine lv_iload_n hx hb dX2_isTimes_6 rfl (lv_at hl 0 rfl) ?_
    refine lv_bipush (v := 47) hx hb dX2_isTimes_7 (by decide) ?_
    refine lv_icmp_eq (tgt := 18) hx hb dX2_isTimes_9 rfl (fun c_2 => ?_) (fun c_2 => ?_)
    · have c_2 : p0.toInt = 47 := xI_eq rfl rfl c_2
      refine ic_1 hx hb dX2_isTimes_18 ?_
      refine lv_goto (tgt := 23) hx hb dX2_isTimes_19 rfl ?_
      exact W.zret (v := 1) hx hb hr (by decide) (fun t ht _ => ⟨⟨1, G, rfl, (P_fTimes_mk ⟨hB_G, hF, ⟨by decide, by decide⟩, (Or.inr ⟨c_1, (Or.inl ⟨c_2, ⟨rfl, rfl⟩⟩)⟩)⟩), wd_t ht hW⟩, hS.F ht⟩) hS.2.2 dX2_isTimes_23
    · have c_2 : p0.toInt ≠ 47 := xI_ne rfl rfl c_2
      refine lv_iload_n hx hb dX2_isTimes_12 rfl (lv_at hl 0 rfl) ?_
      refine lv_bipush (v := 37) hx hb dX2_isTimes_13 (by decide) ?_
      refine lv_icmp_ne (tgt := 22) hx hb dX2_isTimes_15 rfl (fun c_3 => ?_) (fun c_3 => ?_)
      · have c_3 : p0.toInt ≠ 37 := xI_ne rfl rfl c_3
        refine ic_0 hx hb dX2_isTimes_22 ?_
        exact W.zret (v := 0) hx hb hr (by decide) (fun t ht _ => ⟨⟨0, G, rfl, (P_fTimes_mk ⟨hB_G, hF, ⟨by decide, by decide⟩, (Or.inr ⟨c_1, (Or.inr ⟨c_2, (Or.inr ⟨c_3, ⟨rfl, rfl⟩⟩)⟩)⟩)⟩), wd_t ht hW⟩, hS.F ht⟩) hS.2.2 dX2_isTimes_23
      · have c_3 : p0.toInt = 37 := xI_eq rfl rfl c_3
        refine ic_1 hx hb dX2_isTimes_18 ?_
        refine lv_goto (tgt := 23) hx hb dX2_isTimes_19 rfl ?_
        exact W.zret (v := 1) hx hb hr (by decide) (fun t ht _ => ⟨⟨1, G, rfl, (P_fTimes_mk ⟨hB_G, hF, ⟨by decide, by decide⟩, (Or.inr ⟨c_1, (Or.inr ⟨c_2, (Or.inl ⟨c_3, ⟨rfl, rfl⟩⟩)⟩)⟩)⟩), wd_t ht hW⟩, hS.F ht⟩) hS.2.2 dX2_isTimes_23

theorem m16 : Cond.selects RX2 yX2_passEither yX2_passEither ∈ gd := gds_2 0 rfl
theorem m17 : Cond.selects RX2 yX2_passBoth yX2_passBoth ∈ gd := gds_2 1 rfl
theorem m18 : Cond.selects RX2 yX2_passOne yX2_passOne ∈ gd := gds_2 2 rfl
theorem m19 : Cond.selects RX2 yX2_passRelation yX2_passRelation ∈ gd := gds_2 3 rfl
theorem m20 : Cond.selects RX2 yX2_passSum yX2_passSum ∈ gd := gds_2 4 rfl
theorem m21 : Cond.selects RX2 yX2_passTerm yX2_passTerm ∈ gd := gds_2 5 rfl
theorem m22 : Cond.selects RX2 yX2_passUnit yX2_passUnit ∈ gd := gds_2 6 rfl
theorem m23 : Cond.selects RX2 yX2_passBracket yX2_passBracket ∈ gd := gds_2 7 rfl
theorem m121 : Cond.initialized RX2 ∈ gd := gdc_1_0 5 rfl gw_initialized
theorem m197 : Cond.fieldLink RX2 66 "SlabWalk$Paving" "units" "I" ∈ gd := gdc_1_5 1 rfl gw_fieldLink
theorem m263 : Cond.fieldLink RX2 30 "SlabWalk$Tokens" "kind" "I" ∈ gd := gdc_1_9 3 rfl gw_fieldLink
theorem m267 : Cond.fieldLink RX2 70 "SlabWalk$Tokens" "number" "I" ∈ gd := gdc_1_9 7 rfl gw_fieldLink
theorem m301 : Cond.fieldLink RX2 9 "SlabWalk$Formulas" "tokens" "LSlabWalk$Tokens;" ∈ gd := gdc_1_11 9 rfl gw_fieldLink
theorem m302 : Cond.fieldLink RX2 15 "SlabWalk$Formulas" "paving" "LSlabWalk$Paving;" ∈ gd := gdc_1_11 10 rfl gw_fieldLink
theorem m303 : Cond.fieldLink RX2 19 "SlabWalk$Formulas" "units" "I" ∈ gd := gdc_1_11 11 rfl gw_fieldLink
theorem m821 : Cond.methodLink RX2 23 yX2_passEither ∈ gd := gdc_3_14 1 rfl gw_methodLink
theorem m823 : Cond.instanceMethod yX2_passEither ∈ gd := gdc_3_14 3 rfl gw_instanceMethod
theorem m824 : Cond.code yX2_passEither cX2_passEither 3 (some .boolean) ∈ gd := gdc_3_14 4 rfl gw_code
theorem m825 : Cond.methodLink RX2 27 yX2_passBoth ∈ gd := gdc_3_14 5 rfl gw_methodLink
theorem m827 : Cond.instanceMethod yX2_passBoth ∈ gd := gdc_3_14 7 rfl gw_instanceMethod
theorem m828 : Cond.code yX2_passBoth cX2_passBoth 3 (some .boolean) ∈ gd := gdc_3_14 8 rfl gw_code
theorem m829 : Cond.methodLink RX2 45 yX2_passOne ∈ gd := gdc_3_14 9 rfl gw_methodLink
theorem m831 : Cond.instanceMethod yX2_passOne ∈ gd := gdc_3_14 11 rfl gw_instanceMethod
theorem m832 : Cond.code yX2_passOne cX2_passOne 2 (some .boolean) ∈ gd := gdc_3_14 12 rfl gw_code
theorem m833 : Cond.methodLink RX2 48 yX2_passRelation ∈ gd := gdc_3_14 13 rfl gw_methodLink
theorem m835 : Cond.instanceMethod yX2_passRelation ∈ gd := gdc_3_14 15 rfl gw_instanceMethod
theorem m836 : Cond.code yX2_passRelation cX2_passRelation 3 (some .boolean) ∈ gd := gdc_4_0 0 rfl gw_code
theorem m837 : Cond.methodLink RX2 54 yX2_passSum ∈ gd := gdc_4_0 1 rfl gw_methodLink
theorem m839 : Cond.instanceMethod yX2_passSum ∈ gd := gdc_4_0 3 rfl gw_instanceMethod
theorem m840 : Cond.code yX2_passSum cX2_passSum 4 (some .boolean) ∈ gd := gdc_4_0 4 rfl gw_code
theorem m841 : Cond.methodLink RX2 57 yX2_passTerm ∈ gd := gdc_4_0 5 rfl gw_methodLink
theorem m843 : Cond.instanceMethod yX2_passTerm ∈ gd := gdc_4_0 7 rfl gw_instanceMethod
theorem m844 : Cond.code yX2_passTerm cX2_passTerm 4 (some .boolean) ∈ gd := gdc_4_0 8 rfl gw_code
theorem m845 : Cond.methodLink RX2 60 yX2_passUnit ∈ gd := gdc_4_0 9 rfl gw_methodLink
theorem m847 : Cond.instanceMethod yX2_passUnit ∈ gd := gdc_4_0 11 rfl gw_instanceMethod
theorem m848 : Cond.code yX2_passUnit cX2_passUnit 2 (some .boolean) ∈ gd := gdc_4_0 12 rfl gw_code
theorem m849 : Cond.methodLink RX2 51 yX9_refuse ∈ gd := gdc_4_0 13 rfl gw_methodLink
theorem m850 : Cond.methodLink RX2 67 yX2_passBracket ∈ gd := gdc_4_0 14 rfl gw_methodLink
theorem m852 : Cond.instanceMethod yX2_passBracket ∈ gd := gdc_4_1 0 rfl gw_instanceMethod
theorem m853 : Cond.code yX2_passBracket cX2_passBracket 2 (some .boolean) ∈ gd := gdc_4_1 1 rfl gw_code
theorem m854 : Cond.methodLink RX2 35 yX9_advance ∈ gd := gdc_4_1 2 rfl gw_methodLink
theorem m855 : Cond.methodLink RX2 39 yX6_emit ∈ gd := gdc_4_1 3 rfl gw_methodLink
theorem m856 : Cond.instanceMethod yX6_emit ∈ gd := gdc_4_1 4 rfl gw_instanceMethod
theorem m857 : Cond.selects RX6 yX6_emit yX6_emit ∈ gd := gdc_4_1 5 rfl gw_selects
theorem m858 : Cond.code yX6_emit cX6_emit 3 none ∈ gd := gdc_4_1 6 rfl gw_code
theorem m859 : Cond.methodLink RX2 63 yX2_isTimes ∈ gd := gdc_4_1 7 rfl gw_methodLink
theorem m860 : Cond.static yX2_isTimes ∈ gd := gdc_4_1 8 rfl gw_static
theorem m861 : Cond.code yX2_isTimes cX2_isTimes 1 (some .boolean) ∈ gd := gdc_4_1 9 rfl gw_code
noncomputable def rbX2_passBoth_0 : List (Nat × List Nat) := [(0, [42]), (1, [27]), (2, [182, 0, 45]), (5, [154, 0, 5]), (8, [3]), (9, [172]), (10, [3]), (11, [61]), (12, [28]), (13, [17, 6, 64]), (16, [162, 0, 51]), (19, [42]), (20, [180, 0, 9]), (23, [180, 0, 30]), (26, [17, 0, 145]), (29, [160, 0, 38]), (32, [42]), (33, [180, 0, 9]), (36, [182, 0, 35]), (39, [87]), (40, [42]), (41, [27]), (42, [182, 0, 45]), (45, [154, 0, 5])]
theorem rcX2_passBoth_0 : dgo (lb cX2_passBoth) 0 rbX2_passBoth_0 = true := by decide +kernel
theorem dX2_passBoth_0 : decode cX2_passBoth 0 = .ok (.aload_n 0, 1) := dk_42 (dw rcX2_passBoth_0 0 rfl)
theorem dX2_passBoth_1 : decode cX2_passBoth 1 = .ok (.iload_n 1, 1) := dk_27 (dw rcX2_passBoth_0 1 rfl)
theorem dX2_passBoth_2 : decode cX2_passBoth 2 = .ok (.invokevirtual 45, 3) := dk_182 (dw rcX2_passBoth_0 2 rfl) rfl
theorem dX2_passBoth_5 : decode cX2_passBoth 5 = .ok (.ifCond .ne 5, 3) := dk_154 (dw rcX2_passBoth_0 3 rfl) rfl
theorem dX2_passBoth_8 : decode cX2_passBoth 8 = .ok (.iconst 0, 1) := dk_3 (dw rcX2_passBoth_0 4 rfl)
theorem dX2_passBoth_9 : decode cX2_passBoth 9 = .ok (.ireturn, 1) := dk_172 (dw rcX2_passBoth_0 5 rfl)
theorem dX2_passBoth_10 : decode cX2_passBoth 10 = .ok (.iconst 0, 1) := dk_3 (dw rcX2_passBoth_0 6 rfl)
theorem dX2_passBoth_11 : decode cX2_passBoth 11 = .ok (.istore_n 2, 1) := dk_61 (dw rcX2_passBoth_0 7 rfl)
theorem dX2_passBoth_12 : decode cX2_passBoth 12 = .ok (.iload_n 2, 1) := dk_28 (dw rcX2_passBoth_0 8 rfl)
theorem dX2_passBoth_13 : decode cX2_passBoth 13 = .ok (.sipush 1600, 3) := dk_17 (dw rcX2_passBoth_0 9 rfl) rfl
theorem dX2_passBoth_16 : decode cX2_passBoth 16 = .ok (.if_icmp .ge 51, 3) := dk_162 (dw rcX2_passBoth_0 10 rfl) rfl
theorem dX2_passBoth_19 : decode cX2_passBoth 19 = .ok (.aload_n 0, 1) := dk_42 (dw rcX2_passBoth_0 11 rfl)
theorem dX2_passBoth_20 : decode cX2_passBoth 20 = .ok (.getfield 9, 3) := dk_180 (dw rcX2_passBoth_0 12 rfl) rfl
theorem dX2_passBoth_23 : decode cX2_passBoth 23 = .ok (.getfield 30, 3) := dk_180 (dw rcX2_passBoth_0 13 rfl) rfl
theorem dX2_passBoth_26 : decode cX2_passBoth 26 = .ok (.sipush 145, 3) := dk_17 (dw rcX2_passBoth_0 14 rfl) rfl
theorem dX2_passBoth_29 : decode cX2_passBoth 29 = .ok (.if_icmp .ne 38, 3) := dk_160 (dw rcX2_passBoth_0 15 rfl) rfl
theorem dX2_passBoth_32 : decode cX2_passBoth 32 = .ok (.aload_n 0, 1) := dk_42 (dw rcX2_passBoth_0 16 rfl)
theorem dX2_passBoth_33 : decode cX2_passBoth 33 = .ok (.getfield 9, 3) := dk_180 (dw rcX2_passBoth_0 17 rfl) rfl
theorem dX2_passBoth_36 : decode cX2_passBoth 36 = .ok (.invokevirtual 35, 3) := dk_182 (dw rcX2_passBoth_0 18 rfl) rfl
theorem dX2_passBoth_39 : decode cX2_passBoth 39 = .ok (.pop, 1) := dk_87 (dw rcX2_passBoth_0 19 rfl)
theorem dX2_passBoth_40 : decode cX2_passBoth 40 = .ok (.aload_n 0, 1) := dk_42 (dw rcX2_passBoth_0 20 rfl)
theorem dX2_passBoth_41 : decode cX2_passBoth 41 = .ok (.iload_n 1, 1) := dk_27 (dw rcX2_passBoth_0 21 rfl)
theorem dX2_passBoth_42 : decode cX2_passBoth 42 = .ok (.invokevirtual 45, 3) := dk_182 (dw rcX2_passBoth_0 22 rfl) rfl
theorem dX2_passBoth_45 : decode cX2_passBoth 45 = .ok (.ifCond .ne 5, 3) := dk_154 (dw rcX2_passBoth_0 23 rfl) rfl
noncomputable def rbX2_passBoth_48 : List (Nat × List Nat) := [(48, [3]), (49, [172]), (50, [42]), (51, [180, 0, 15]), (54, [17, 0, 145]), (57, [3]), (58, [182, 0, 39]), (61, [132, 2, 1]), (64, [167, 255, 204]), (67, [4]), (68, [172])]
theorem rcX2_passBoth_48 : dgo (lb cX2_passBoth) 0 rbX2_passBoth_48 = true := by decide +kernel
theorem dX2_passBoth_48 : decode cX2_passBoth 48 = .ok (.iconst 0, 1) := dk_3 (dw rcX2_passBoth_48 0 rfl)
theorem dX2_passBoth_49 : decode cX2_passBoth 49 = .ok (.ireturn, 1) := dk_172 (dw rcX2_passBoth_48 1 rfl)
theorem dX2_passBoth_50 : decode cX2_passBoth 50 = .ok (.aload_n 0, 1) := dk_42 (dw rcX2_passBoth_48 2 rfl)
theorem dX2_passBoth_51 : decode cX2_passBoth 51 = .ok (.getfield 15, 3) := dk_180 (dw rcX2_passBoth_48 3 rfl) rfl
theorem dX2_passBoth_54 : decode cX2_passBoth 54 = .ok (.sipush 145, 3) := dk_17 (dw rcX2_passBoth_48 4 rfl) rfl
theorem dX2_passBoth_57 : decode cX2_passBoth 57 = .ok (.iconst 0, 1) := dk_3 (dw rcX2_passBoth_48 5 rfl)
theorem dX2_passBoth_58 : decode cX2_passBoth 58 = .ok (.invokevirtual 39, 3) := dk_182 (dw rcX2_passBoth_48 6 rfl) rfl
theorem dX2_passBoth_61 : decode cX2_passBoth 61 = .ok (.iinc 2 1, 3) := dk_132 (dw rcX2_passBoth_48 7 rfl) rfl
theorem dX2_passBoth_64 : decode cX2_passBoth 64 = .ok (.goto (-52), 3) := dk_167 (dw rcX2_passBoth_48 8 rfl) rfl
theorem dX2_passBoth_67 : decode cX2_passBoth 67 = .ok (.iconst 1, 1) := dk_4 (dw rcX2_passBoth_48 9 rfl)
theorem dX2_passBoth_68 : decode cX2_passBoth 68 = .ok (.ireturn, 1) := dk_172 (dw rcX2_passBoth_48 10 rfl)
noncomputable def rbX2_passBracket_0 : List (Nat × List Nat) := [(0, [27]), (1, [16, 6]), (3, [164, 0, 12]), (6, [42]), (7, [180, 0, 9]), (10, [5]), (11, [182, 0, 51]), (14, [172]), (15, [42]), (16, [180, 0, 9]), (19, [182, 0, 35]), (22, [87]), (23, [42]), (24, [27]), (25, [4]), (26, [96]), (27, [182, 0, 23]), (30, [154, 0, 5]), (33, [3]), (34, [172]), (35, [42]), (36, [180, 0, 9]), (39, [180, 0, 30]), (42, [16, 41])]
theorem rcX2_passBracket_0 : dgo (lb cX2_passBracket) 0 rbX2_passBracket_0 = true := by decide +kernel
theorem dX2_passBracket_0 : decode cX2_passBracket 0 = .ok (.iload_n 1, 1) := dk_27 (dw rcX2_passBracket_0 0 rfl)
theorem dX2_passBracket_1 : decode cX2_passBracket 1 = .ok (.bipush 6, 2) := dk_16 (dw rcX2_passBracket_0 1 rfl) rfl
theorem dX2_passBracket_3 : decode cX2_passBracket 3 = .ok (.if_icmp .le 12, 3) := dk_164 (dw rcX2_passBracket_0 2 rfl) rfl
theorem dX2_passBracket_6 : decode cX2_passBracket 6 = .ok (.aload_n 0, 1) := dk_42 (dw rcX2_passBracket_0 3 rfl)
theorem dX2_passBracket_7 : decode cX2_passBracket 7 = .ok (.getfield 9, 3) := dk_180 (dw rcX2_passBracket_0 4 rfl) rfl
theorem dX2_passBracket_10 : decode cX2_passBracket 10 = .ok (.iconst 2, 1) := dk_5 (dw rcX2_passBracket_0 5 rfl)
theorem dX2_passBracket_11 : decode cX2_passBracket 11 = .ok (.invokevirtual 51, 3) := dk_182 (dw rcX2_passBracket_0 6 rfl) rfl
theorem dX2_passBracket_14 : decode cX2_passBracket 14 = .ok (.ireturn, 1) := dk_172 (dw rcX2_passBracket_0 7 rfl)
theorem dX2_passBracket_15 : decode cX2_passBracket 15 = .ok (.aload_n 0, 1) := dk_42 (dw rcX2_passBracket_0 8 rfl)
theorem dX2_passBracket_16 : decode cX2_passBracket 16 = .ok (.getfield 9, 3) := dk_180 (dw rcX2_passBracket_0 9 rfl) rfl
theorem dX2_passBracket_19 : decode cX2_passBracket 19 = .ok (.invokevirtual 35, 3) := dk_182 (dw rcX2_passBracket_0 10 rfl) rfl
theorem dX2_passBracket_22 : decode cX2_passBracket 22 = .ok (.pop, 1) := dk_87 (dw rcX2_passBracket_0 11 rfl)
theorem dX2_passBracket_23 : decode cX2_passBracket 23 = .ok (.aload_n 0, 1) := dk_42 (dw rcX2_passBracket_0 12 rfl)
theorem dX2_passBracket_24 : decode cX2_passBracket 24 = .ok (.iload_n 1, 1) := dk_27 (dw rcX2_passBracket_0 13 rfl)
theorem dX2_passBracket_25 : decode cX2_passBracket 25 = .ok (.iconst 1, 1) := dk_4 (dw rcX2_passBracket_0 14 rfl)
theorem dX2_passBracket_26 : decode cX2_passBracket 26 = .ok (.iadd, 1) := dk_96 (dw rcX2_passBracket_0 15 rfl)
theorem dX2_passBracket_27 : decode cX2_passBracket 27 = .ok (.invokevirtual 23, 3) := dk_182 (dw rcX2_passBracket_0 16 rfl) rfl
theorem dX2_passBracket_30 : decode cX2_passBracket 30 = .ok (.ifCond .ne 5, 3) := dk_154 (dw rcX2_passBracket_0 17 rfl) rfl
theorem dX2_passBracket_33 : decode cX2_passBracket 33 = .ok (.iconst 0, 1) := dk_3 (dw rcX2_passBracket_0 18 rfl)
theorem dX2_passBracket_34 : decode cX2_passBracket 34 = .ok (.ireturn, 1) := dk_172 (dw rcX2_passBracket_0 19 rfl)
theorem dX2_passBracket_35 : decode cX2_passBracket 35 = .ok (.aload_n 0, 1) := dk_42 (dw rcX2_passBracket_0 20 rfl)
theorem dX2_passBracket_36 : decode cX2_passBracket 36 = .ok (.getfield 9, 3) := dk_180 (dw rcX2_passBracket_0 21 rfl) rfl
theorem dX2_passBracket_39 : decode cX2_passBracket 39 = .ok (.getfield 30, 3) := dk_180 (dw rcX2_passBracket_0 22 rfl) rfl
theorem dX2_passBracket_42 : decode cX2_passBracket 42 = .ok (.bipush 41, 2) := dk_16 (dw rcX2_passBracket_0 23 rfl) rfl
noncomputable def rbX2_passBracket_44 : List (Nat × List Nat) := [(44, [160, 0, 13]), (47, [42]), (48, [180, 0, 9]), (51, [182, 0, 35]), (54, [167, 0, 11]), (57, [42]), (58, [180, 0, 9]), (61, [5]), (62, [182, 0, 51]), (65, [172])]
theorem rcX2_passBracket_44 : dgo (lb cX2_passBracket) 0 rbX2_passBracket_44 = true := by decide +kernel
theorem dX2_passBracket_44 : decode cX2_passBracket 44 = .ok (.if_icmp .ne 13, 3) := dk_160 (dw rcX2_passBracket_44 0 rfl) rfl
theorem dX2_passBracket_47 : decode cX2_passBracket 47 = .ok (.aload_n 0, 1) := dk_42 (dw rcX2_passBracket_44 1 rfl)
theorem dX2_passBracket_48 : decode cX2_passBracket 48 = .ok (.getfield 9, 3) := dk_180 (dw rcX2_passBracket_44 2 rfl) rfl
theorem dX2_passBracket_51 : decode cX2_passBracket 51 = .ok (.invokevirtual 35, 3) := dk_182 (dw rcX2_passBracket_44 3 rfl) rfl
theorem dX2_passBracket_54 : decode cX2_passBracket 54 = .ok (.goto 11, 3) := dk_167 (dw rcX2_passBracket_44 4 rfl) rfl
theorem dX2_passBracket_57 : decode cX2_passBracket 57 = .ok (.aload_n 0, 1) := dk_42 (dw rcX2_passBracket_44 5 rfl)
theorem dX2_passBracket_58 : decode cX2_passBracket 58 = .ok (.getfield 9, 3) := dk_180 (dw rcX2_passBracket_44 6 rfl) rfl
theorem dX2_passBracket_61 : decode cX2_passBracket 61 = .ok (.iconst 2, 1) := dk_5 (dw rcX2_passBracket_44 7 rfl)
theorem dX2_passBracket_62 : decode cX2_passBracket 62 = .ok (.invokevirtual 51, 3) := dk_182 (dw rcX2_passBracket_44 8 rfl) rfl
theorem dX2_passBracket_65 : decode cX2_passBracket 65 = .ok (.ireturn, 1) := dk_172 (dw rcX2_passBracket_44 9 rfl)
noncomputable def rbX2_passEither_0 : List (Nat × List Nat) := [(0, [42]), (1, [27]), (2, [182, 0, 27]), (5, [154, 0, 5]), (8, [3]), (9, [172]), (10, [3]), (11, [61]), (12, [28]), (13, [17, 6, 64]), (16, [162, 0, 51]), (19, [42]), (20, [180, 0, 9]), (23, [180, 0, 30]), (26, [17, 0, 144]), (29, [160, 0, 38]), (32, [42]), (33, [180, 0, 9]), (36, [182, 0, 35]), (39, [87]), (40, [42]), (41, [27]), (42, [182, 0, 27]), (45, [154, 0, 5])]
theorem rcX2_passEither_0 : dgo (lb cX2_passEither) 0 rbX2_passEither_0 = true := by decide +kernel
theorem dX2_passEither_0 : decode cX2_passEither 0 = .ok (.aload_n 0, 1) := dk_42 (dw rcX2_passEither_0 0 rfl)
theorem dX2_passEither_1 : decode cX2_passEither 1 = .ok (.iload_n 1, 1) := dk_27 (dw rcX2_passEither_0 1 rfl)
theorem dX2_passEither_2 : decode cX2_passEither 2 = .ok (.invokevirtual 27, 3) := dk_182 (dw rcX2_passEither_0 2 rfl) rfl
theorem dX2_passEither_5 : decode cX2_passEither 5 = .ok (.ifCond .ne 5, 3) := dk_154 (dw rcX2_passEither_0 3 rfl) rfl
theorem dX2_passEither_8 : decode cX2_passEither 8 = .ok (.iconst 0, 1) := dk_3 (dw rcX2_passEither_0 4 rfl)
theorem dX2_passEither_9 : decode cX2_passEither 9 = .ok (.ireturn, 1) := dk_172 (dw rcX2_passEither_0 5 rfl)
theorem dX2_passEither_10 : decode cX2_passEither 10 = .ok (.iconst 0, 1) := dk_3 (dw rcX2_passEither_0 6 rfl)
theorem dX2_passEither_11 : decode cX2_passEither 11 = .ok (.istore_n 2, 1) := dk_61 (dw rcX2_passEither_0 7 rfl)
theorem dX2_passEither_12 : decode cX2_passEither 12 = .ok (.iload_n 2, 1) := dk_28 (dw rcX2_passEither_0 8 rfl)
theorem dX2_passEither_13 : decode cX2_passEither 13 = .ok (.sipush 1600, 3) := dk_17 (dw rcX2_passEither_0 9 rfl) rfl
theorem dX2_passEither_16 : decode cX2_passEither 16 = .ok (.if_icmp .ge 51, 3) := dk_162 (dw rcX2_passEither_0 10 rfl) rfl
theorem dX2_passEither_19 : decode cX2_passEither 19 = .ok (.aload_n 0, 1) := dk_42 (dw rcX2_passEither_0 11 rfl)
theorem dX2_passEither_20 : decode cX2_passEither 20 = .ok (.getfield 9, 3) := dk_180 (dw rcX2_passEither_0 12 rfl) rfl
theorem dX2_passEither_23 : decode cX2_passEither 23 = .ok (.getfield 30, 3) := dk_180 (dw rcX2_passEither_0 13 rfl) rfl
theorem dX2_passEither_26 : decode cX2_passEither 26 = .ok (.sipush 144, 3) := dk_17 (dw rcX2_passEither_0 14 rfl) rfl
theorem dX2_passEither_29 : decode cX2_passEither 29 = .ok (.if_icmp .ne 38, 3) := dk_160 (dw rcX2_passEither_0 15 rfl) rfl
theorem dX2_passEither_32 : decode cX2_passEither 32 = .ok (.aload_n 0, 1) := dk_42 (dw rcX2_passEither_0 16 rfl)
theorem dX2_passEither_33 : decode cX2_passEither 33 = .ok (.getfield 9, 3) := dk_180 (dw rcX2_passEither_0 17 rfl) rfl
theorem dX2_passEither_36 : decode cX2_passEither 36 = .ok (.invokevirtual 35, 3) := dk_182 (dw rcX2_passEither_0 18 rfl) rfl
theorem dX2_passEither_39 : decode cX2_passEither 39 = .ok (.pop, 1) := dk_87 (dw rcX2_passEither_0 19 rfl)
theorem dX2_passEither_40 : decode cX2_passEither 40 = .ok (.aload_n 0, 1) := dk_42 (dw rcX2_passEither_0 20 rfl)
theorem dX2_passEither_41 : decode cX2_passEither 41 = .ok (.iload_n 1, 1) := dk_27 (dw rcX2_passEither_0 21 rfl)
theorem dX2_passEither_42 : decode cX2_passEither 42 = .ok (.invokevirtual 27, 3) := dk_182 (dw rcX2_passEither_0 22 rfl) rfl
theorem dX2_passEither_45 : decode cX2_passEither 45 = .ok (.ifCond .ne 5, 3) := dk_154 (dw rcX2_passEither_0 23 rfl) rfl
noncomputable def rbX2_passEither_48 : List (Nat × List Nat) := [(48, [3]), (49, [172]), (50, [42]), (51, [180, 0, 15]), (54, [17, 0, 144]), (57, [3]), (58, [182, 0, 39]), (61, [132, 2, 1]), (64, [167, 255, 204]), (67, [4]), (68, [172])]
theorem rcX2_passEither_48 : dgo (lb cX2_passEither) 0 rbX2_passEither_48 = true := by decide +kernel
theorem dX2_passEither_48 : decode cX2_passEither 48 = .ok (.iconst 0, 1) := dk_3 (dw rcX2_passEither_48 0 rfl)
theorem dX2_passEither_49 : decode cX2_passEither 49 = .ok (.ireturn, 1) := dk_172 (dw rcX2_passEither_48 1 rfl)
theorem dX2_passEither_50 : decode cX2_passEither 50 = .ok (.aload_n 0, 1) := dk_42 (dw rcX2_passEither_48 2 rfl)
theorem dX2_passEither_51 : decode cX2_passEither 51 = .ok (.getfield 15, 3) := dk_180 (dw rcX2_passEither_48 3 rfl) rfl
theorem dX2_passEither_54 : decode cX2_passEither 54 = .ok (.sipush 144, 3) := dk_17 (dw rcX2_passEither_48 4 rfl) rfl
theorem dX2_passEither_57 : decode cX2_passEither 57 = .ok (.iconst 0, 1) := dk_3 (dw rcX2_passEither_48 5 rfl)
theorem dX2_passEither_58 : decode cX2_passEither 58 = .ok (.invokevirtual 39, 3) := dk_182 (dw rcX2_passEither_48 6 rfl) rfl
theorem dX2_passEither_61 : decode cX2_passEither 61 = .ok (.iinc 2 1, 3) := dk_132 (dw rcX2_passEither_48 7 rfl) rfl
theorem dX2_passEither_64 : decode cX2_passEither 64 = .ok (.goto (-52), 3) := dk_167 (dw rcX2_passEither_48 8 rfl) rfl
theorem dX2_passEither_67 : decode cX2_passEither 67 = .ok (.iconst 1, 1) := dk_4 (dw rcX2_passEither_48 9 rfl)
theorem dX2_passEither_68 : decode cX2_passEither 68 = .ok (.ireturn, 1) := dk_172 (dw rcX2_passEither_48 10 rfl)
noncomputable def rbX2_passOne_0 : List (Nat × List Nat) := [(0, [42]), (1, [180, 0, 9]), (4, [180, 0, 30]), (7, [17, 0, 146]), (10, [159, 0, 9]), (13, [42]), (14, [27]), (15, [182, 0, 48]), (18, [172]), (19, [27]), (20, [16, 6]), (22, [164, 0, 12]), (25, [42]), (26, [180, 0, 9]), (29, [5]), (30, [182, 0, 51]), (33, [172]), (34, [42]), (35, [180, 0, 9]), (38, [182, 0, 35]), (41, [87]), (42, [42]), (43, [27]), (44, [4])]
theorem rcX2_passOne_0 : dgo (lb cX2_passOne) 0 rbX2_passOne_0 = true := by decide +kernel
theorem dX2_passOne_0 : decode cX2_passOne 0 = .ok (.aload_n 0, 1) := dk_42 (dw rcX2_passOne_0 0 rfl)
theorem dX2_passOne_1 : decode cX2_passOne 1 = .ok (.getfield 9, 3) := dk_180 (dw rcX2_passOne_0 1 rfl) rfl
theorem dX2_passOne_4 : decode cX2_passOne 4 = .ok (.getfield 30, 3) := dk_180 (dw rcX2_passOne_0 2 rfl) rfl
theorem dX2_passOne_7 : decode cX2_passOne 7 = .ok (.sipush 146, 3) := dk_17 (dw rcX2_passOne_0 3 rfl) rfl
theorem dX2_passOne_10 : decode cX2_passOne 10 = .ok (.if_icmp .eq 9, 3) := dk_159 (dw rcX2_passOne_0 4 rfl) rfl
theorem dX2_passOne_13 : decode cX2_passOne 13 = .ok (.aload_n 0, 1) := dk_42 (dw rcX2_passOne_0 5 rfl)
theorem dX2_passOne_14 : decode cX2_passOne 14 = .ok (.iload_n 1, 1) := dk_27 (dw rcX2_passOne_0 6 rfl)
theorem dX2_passOne_15 : decode cX2_passOne 15 = .ok (.invokevirtual 48, 3) := dk_182 (dw rcX2_passOne_0 7 rfl) rfl
theorem dX2_passOne_18 : decode cX2_passOne 18 = .ok (.ireturn, 1) := dk_172 (dw rcX2_passOne_0 8 rfl)
theorem dX2_passOne_19 : decode cX2_passOne 19 = .ok (.iload_n 1, 1) := dk_27 (dw rcX2_passOne_0 9 rfl)
theorem dX2_passOne_20 : decode cX2_passOne 20 = .ok (.bipush 6, 2) := dk_16 (dw rcX2_passOne_0 10 rfl) rfl
theorem dX2_passOne_22 : decode cX2_passOne 22 = .ok (.if_icmp .le 12, 3) := dk_164 (dw rcX2_passOne_0 11 rfl) rfl
theorem dX2_passOne_25 : decode cX2_passOne 25 = .ok (.aload_n 0, 1) := dk_42 (dw rcX2_passOne_0 12 rfl)
theorem dX2_passOne_26 : decode cX2_passOne 26 = .ok (.getfield 9, 3) := dk_180 (dw rcX2_passOne_0 13 rfl) rfl
theorem dX2_passOne_29 : decode cX2_passOne 29 = .ok (.iconst 2, 1) := dk_5 (dw rcX2_passOne_0 14 rfl)
theorem dX2_passOne_30 : decode cX2_passOne 30 = .ok (.invokevirtual 51, 3) := dk_182 (dw rcX2_passOne_0 15 rfl) rfl
theorem dX2_passOne_33 : decode cX2_passOne 33 = .ok (.ireturn, 1) := dk_172 (dw rcX2_passOne_0 16 rfl)
theorem dX2_passOne_34 : decode cX2_passOne 34 = .ok (.aload_n 0, 1) := dk_42 (dw rcX2_passOne_0 17 rfl)
theorem dX2_passOne_35 : decode cX2_passOne 35 = .ok (.getfield 9, 3) := dk_180 (dw rcX2_passOne_0 18 rfl) rfl
theorem dX2_passOne_38 : decode cX2_passOne 38 = .ok (.invokevirtual 35, 3) := dk_182 (dw rcX2_passOne_0 19 rfl) rfl
theorem dX2_passOne_41 : decode cX2_passOne 41 = .ok (.pop, 1) := dk_87 (dw rcX2_passOne_0 20 rfl)
theorem dX2_passOne_42 : decode cX2_passOne 42 = .ok (.aload_n 0, 1) := dk_42 (dw rcX2_passOne_0 21 rfl)
theorem dX2_passOne_43 : decode cX2_passOne 43 = .ok (.iload_n 1, 1) := dk_27 (dw rcX2_passOne_0 22 rfl)
theorem dX2_passOne_44 : decode cX2_passOne 44 = .ok (.iconst 1, 1) := dk_4 (dw rcX2_passOne_0 23 rfl)
noncomputable def rbX2_passOne_45 : List (Nat × List Nat) := [(45, [96]), (46, [182, 0, 45]), (49, [154, 0, 5]), (52, [3]), (53, [172]), (54, [42]), (55, [180, 0, 15]), (58, [17, 0, 146]), (61, [3]), (62, [182, 0, 39]), (65, [4]), (66, [172])]
theorem rcX2_passOne_45 : dgo (lb cX2_passOne) 0 rbX2_passOne_45 = true := by decide +kernel
theorem dX2_passOne_45 : decode cX2_passOne 45 = .ok (.iadd, 1) := dk_96 (dw rcX2_passOne_45 0 rfl)
theorem dX2_passOne_46 : decode cX2_passOne 46 = .ok (.invokevirtual 45, 3) := dk_182 (dw rcX2_passOne_45 1 rfl) rfl
theorem dX2_passOne_49 : decode cX2_passOne 49 = .ok (.ifCond .ne 5, 3) := dk_154 (dw rcX2_passOne_45 2 rfl) rfl
theorem dX2_passOne_52 : decode cX2_passOne 52 = .ok (.iconst 0, 1) := dk_3 (dw rcX2_passOne_45 3 rfl)
theorem dX2_passOne_53 : decode cX2_passOne 53 = .ok (.ireturn, 1) := dk_172 (dw rcX2_passOne_45 4 rfl)
theorem dX2_passOne_54 : decode cX2_passOne 54 = .ok (.aload_n 0, 1) := dk_42 (dw rcX2_passOne_45 5 rfl)
theorem dX2_passOne_55 : decode cX2_passOne 55 = .ok (.getfield 15, 3) := dk_180 (dw rcX2_passOne_45 6 rfl) rfl
theorem dX2_passOne_58 : decode cX2_passOne 58 = .ok (.sipush 146, 3) := dk_17 (dw rcX2_passOne_45 7 rfl) rfl
theorem dX2_passOne_61 : decode cX2_passOne 61 = .ok (.iconst 0, 1) := dk_3 (dw rcX2_passOne_45 8 rfl)
theorem dX2_passOne_62 : decode cX2_passOne 62 = .ok (.invokevirtual 39, 3) := dk_182 (dw rcX2_passOne_45 9 rfl) rfl
theorem dX2_passOne_65 : decode cX2_passOne 65 = .ok (.iconst 1, 1) := dk_4 (dw rcX2_passOne_45 10 rfl)
theorem dX2_passOne_66 : decode cX2_passOne 66 = .ok (.ireturn, 1) := dk_172 (dw rcX2_passOne_45 11 rfl)
noncomputable def rbX2_passRelation_0 : List (Nat × List Nat) := [(0, [42]), (1, [27]), (2, [182, 0, 54]), (5, [154, 0, 5]), (8, [3]), (9, [172]), (10, [42]), (11, [180, 0, 9]), (14, [180, 0, 30]), (17, [61]), (18, [28]), (19, [16, 60]), (21, [159, 0, 17]), (24, [28]), (25, [16, 62]), (27, [159, 0, 11]), (30, [28]), (31, [16, 61]), (33, [159, 0, 5]), (36, [4]), (37, [172]), (38, [42]), (39, [180, 0, 9]), (42, [182, 0, 35])]
theorem rcX2_passRelation_0 : dgo (lb cX2_passRelation) 0 rbX2_passRelation_0 = true := by decide +kernel
theorem dX2_passRelation_0 : decode cX2_passRelation 0 = .ok (.aload_n 0, 1) := dk_42 (dw rcX2_passRelation_0 0 rfl)
theorem dX2_passRelation_1 : decode cX2_passRelation 1 = .ok (.iload_n 1, 1) := dk_27 (dw rcX2_passRelation_0 1 rfl)
theorem dX2_passRelation_2 : decode cX2_passRelation 2 = .ok (.invokevirtual 54, 3) := dk_182 (dw rcX2_passRelation_0 2 rfl) rfl
theorem dX2_passRelation_5 : decode cX2_passRelation 5 = .ok (.ifCond .ne 5, 3) := dk_154 (dw rcX2_passRelation_0 3 rfl) rfl
theorem dX2_passRelation_8 : decode cX2_passRelation 8 = .ok (.iconst 0, 1) := dk_3 (dw rcX2_passRelation_0 4 rfl)
theorem dX2_passRelation_9 : decode cX2_passRelation 9 = .ok (.ireturn, 1) := dk_172 (dw rcX2_passRelation_0 5 rfl)
theorem dX2_passRelation_10 : decode cX2_passRelation 10 = .ok (.aload_n 0, 1) := dk_42 (dw rcX2_passRelation_0 6 rfl)
theorem dX2_passRelation_11 : decode cX2_passRelation 11 = .ok (.getfield 9, 3) := dk_180 (dw rcX2_passRelation_0 7 rfl) rfl
theorem dX2_passRelation_14 : decode cX2_passRelation 14 = .ok (.getfield 30, 3) := dk_180 (dw rcX2_passRelation_0 8 rfl) rfl
theorem dX2_passRelation_17 : decode cX2_passRelation 17 = .ok (.istore_n 2, 1) := dk_61 (dw rcX2_passRelation_0 9 rfl)
theorem dX2_passRelation_18 : decode cX2_passRelation 18 = .ok (.iload_n 2, 1) := dk_28 (dw rcX2_passRelation_0 10 rfl)
theorem dX2_passRelation_19 : decode cX2_passRelation 19 = .ok (.bipush 60, 2) := dk_16 (dw rcX2_passRelation_0 11 rfl) rfl
theorem dX2_passRelation_21 : decode cX2_passRelation 21 = .ok (.if_icmp .eq 17, 3) := dk_159 (dw rcX2_passRelation_0 12 rfl) rfl
theorem dX2_passRelation_24 : decode cX2_passRelation 24 = .ok (.iload_n 2, 1) := dk_28 (dw rcX2_passRelation_0 13 rfl)
theorem dX2_passRelation_25 : decode cX2_passRelation 25 = .ok (.bipush 62, 2) := dk_16 (dw rcX2_passRelation_0 14 rfl) rfl
theorem dX2_passRelation_27 : decode cX2_passRelation 27 = .ok (.if_icmp .eq 11, 3) := dk_159 (dw rcX2_passRelation_0 15 rfl) rfl
theorem dX2_passRelation_30 : decode cX2_passRelation 30 = .ok (.iload_n 2, 1) := dk_28 (dw rcX2_passRelation_0 16 rfl)
theorem dX2_passRelation_31 : decode cX2_passRelation 31 = .ok (.bipush 61, 2) := dk_16 (dw rcX2_passRelation_0 17 rfl) rfl
theorem dX2_passRelation_33 : decode cX2_passRelation 33 = .ok (.if_icmp .eq 5, 3) := dk_159 (dw rcX2_passRelation_0 18 rfl) rfl
theorem dX2_passRelation_36 : decode cX2_passRelation 36 = .ok (.iconst 1, 1) := dk_4 (dw rcX2_passRelation_0 19 rfl)
theorem dX2_passRelation_37 : decode cX2_passRelation 37 = .ok (.ireturn, 1) := dk_172 (dw rcX2_passRelation_0 20 rfl)
theorem dX2_passRelation_38 : decode cX2_passRelation 38 = .ok (.aload_n 0, 1) := dk_42 (dw rcX2_passRelation_0 21 rfl)
theorem dX2_passRelation_39 : decode cX2_passRelation 39 = .ok (.getfield 9, 3) := dk_180 (dw rcX2_passRelation_0 22 rfl) rfl
theorem dX2_passRelation_42 : decode cX2_passRelation 42 = .ok (.invokevirtual 35, 3) := dk_182 (dw rcX2_passRelation_0 23 rfl) rfl
noncomputable def rbX2_passRelation_45 : List (Nat × List Nat) := [(45, [87]), (46, [42]), (47, [27]), (48, [182, 0, 54]), (51, [154, 0, 5]), (54, [3]), (55, [172]), (56, [42]), (57, [180, 0, 15]), (60, [28]), (61, [3]), (62, [182, 0, 39]), (65, [4]), (66, [172])]
theorem rcX2_passRelation_45 : dgo (lb cX2_passRelation) 0 rbX2_passRelation_45 = true := by decide +kernel
theorem dX2_passRelation_45 : decode cX2_passRelation 45 = .ok (.pop, 1) := dk_87 (dw rcX2_passRelation_45 0 rfl)
theorem dX2_passRelation_46 : decode cX2_passRelation 46 = .ok (.aload_n 0, 1) := dk_42 (dw rcX2_passRelation_45 1 rfl)
theorem dX2_passRelation_47 : decode cX2_passRelation 47 = .ok (.iload_n 1, 1) := dk_27 (dw rcX2_passRelation_45 2 rfl)
theorem dX2_passRelation_48 : decode cX2_passRelation 48 = .ok (.invokevirtual 54, 3) := dk_182 (dw rcX2_passRelation_45 3 rfl) rfl
theorem dX2_passRelation_51 : decode cX2_passRelation 51 = .ok (.ifCond .ne 5, 3) := dk_154 (dw rcX2_passRelation_45 4 rfl) rfl
theorem dX2_passRelation_54 : decode cX2_passRelation 54 = .ok (.iconst 0, 1) := dk_3 (dw rcX2_passRelation_45 5 rfl)
theorem dX2_passRelation_55 : decode cX2_passRelation 55 = .ok (.ireturn, 1) := dk_172 (dw rcX2_passRelation_45 6 rfl)
theorem dX2_passRelation_56 : decode cX2_passRelation 56 = .ok (.aload_n 0, 1) := dk_42 (dw rcX2_passRelation_45 7 rfl)
theorem dX2_passRelation_57 : decode cX2_passRelation 57 = .ok (.getfield 15, 3) := dk_180 (dw rcX2_passRelation_45 8 rfl) rfl
theorem dX2_passRelation_60 : decode cX2_passRelation 60 = .ok (.iload_n 2, 1) := dk_28 (dw rcX2_passRelation_45 9 rfl)
theorem dX2_passRelation_61 : decode cX2_passRelation 61 = .ok (.iconst 0, 1) := dk_3 (dw rcX2_passRelation_45 10 rfl)
theorem dX2_passRelation_62 : decode cX2_passRelation 62 = .ok (.invokevirtual 39, 3) := dk_182 (dw rcX2_passRelation_45 11 rfl) rfl
theorem dX2_passRelation_65 : decode cX2_passRelation 65 = .ok (.iconst 1, 1) := dk_4 (dw rcX2_passRelation_45 12 rfl)
theorem dX2_passRelation_66 : decode cX2_passRelation 66 = .ok (.ireturn, 1) := dk_172 (dw rcX2_passRelation_45 13 rfl)
noncomputable def rbX2_passSum_0 : List (Nat × List Nat) := [(0, [42]), (1, [27]), (2, [182, 0, 57]), (5, [154, 0, 5]), (8, [3]), (9, [172]), (10, [3]), (11, [61]), (12, [28]), (13, [17, 6, 64]), (16, [162, 0, 68]), (19, [42]), (20, [180, 0, 9]), (23, [180, 0, 30]), (26, [16, 43]), (28, [159, 0, 15]), (31, [42]), (32, [180, 0, 9]), (35, [180, 0, 30]), (38, [16, 45]), (40, [160, 0, 44]), (43, [42]), (44, [180, 0, 9]), (47, [180, 0, 30])]
theorem rcX2_passSum_0 : dgo (lb cX2_passSum) 0 rbX2_passSum_0 = true := by decide +kernel
theorem dX2_passSum_0 : decode cX2_passSum 0 = .ok (.aload_n 0, 1) := dk_42 (dw rcX2_passSum_0 0 rfl)
theorem dX2_passSum_1 : decode cX2_passSum 1 = .ok (.iload_n 1, 1) := dk_27 (dw rcX2_passSum_0 1 rfl)
theorem dX2_passSum_2 : decode cX2_passSum 2 = .ok (.invokevirtual 57, 3) := dk_182 (dw rcX2_passSum_0 2 rfl) rfl
theorem dX2_passSum_5 : decode cX2_passSum 5 = .ok (.ifCond .ne 5, 3) := dk_154 (dw rcX2_passSum_0 3 rfl) rfl
theorem dX2_passSum_8 : decode cX2_passSum 8 = .ok (.iconst 0, 1) := dk_3 (dw rcX2_passSum_0 4 rfl)
theorem dX2_passSum_9 : decode cX2_passSum 9 = .ok (.ireturn, 1) := dk_172 (dw rcX2_passSum_0 5 rfl)
theorem dX2_passSum_10 : decode cX2_passSum 10 = .ok (.iconst 0, 1) := dk_3 (dw rcX2_passSum_0 6 rfl)
theorem dX2_passSum_11 : decode cX2_passSum 11 = .ok (.istore_n 2, 1) := dk_61 (dw rcX2_passSum_0 7 rfl)
theorem dX2_passSum_12 : decode cX2_passSum 12 = .ok (.iload_n 2, 1) := dk_28 (dw rcX2_passSum_0 8 rfl)
theorem dX2_passSum_13 : decode cX2_passSum 13 = .ok (.sipush 1600, 3) := dk_17 (dw rcX2_passSum_0 9 rfl) rfl
theorem dX2_passSum_16 : decode cX2_passSum 16 = .ok (.if_icmp .ge 68, 3) := dk_162 (dw rcX2_passSum_0 10 rfl) rfl
theorem dX2_passSum_19 : decode cX2_passSum 19 = .ok (.aload_n 0, 1) := dk_42 (dw rcX2_passSum_0 11 rfl)
theorem dX2_passSum_20 : decode cX2_passSum 20 = .ok (.getfield 9, 3) := dk_180 (dw rcX2_passSum_0 12 rfl) rfl
theorem dX2_passSum_23 : decode cX2_passSum 23 = .ok (.getfield 30, 3) := dk_180 (dw rcX2_passSum_0 13 rfl) rfl
theorem dX2_passSum_26 : decode cX2_passSum 26 = .ok (.bipush 43, 2) := dk_16 (dw rcX2_passSum_0 14 rfl) rfl
theorem dX2_passSum_28 : decode cX2_passSum 28 = .ok (.if_icmp .eq 15, 3) := dk_159 (dw rcX2_passSum_0 15 rfl) rfl
theorem dX2_passSum_31 : decode cX2_passSum 31 = .ok (.aload_n 0, 1) := dk_42 (dw rcX2_passSum_0 16 rfl)
theorem dX2_passSum_32 : decode cX2_passSum 32 = .ok (.getfield 9, 3) := dk_180 (dw rcX2_passSum_0 17 rfl) rfl
theorem dX2_passSum_35 : decode cX2_passSum 35 = .ok (.getfield 30, 3) := dk_180 (dw rcX2_passSum_0 18 rfl) rfl
theorem dX2_passSum_38 : decode cX2_passSum 38 = .ok (.bipush 45, 2) := dk_16 (dw rcX2_passSum_0 19 rfl) rfl
theorem dX2_passSum_40 : decode cX2_passSum 40 = .ok (.if_icmp .ne 44, 3) := dk_160 (dw rcX2_passSum_0 20 rfl) rfl
theorem dX2_passSum_43 : decode cX2_passSum 43 = .ok (.aload_n 0, 1) := dk_42 (dw rcX2_passSum_0 21 rfl)
theorem dX2_passSum_44 : decode cX2_passSum 44 = .ok (.getfield 9, 3) := dk_180 (dw rcX2_passSum_0 22 rfl) rfl
theorem dX2_passSum_47 : decode cX2_passSum 47 = .ok (.getfield 30, 3) := dk_180 (dw rcX2_passSum_0 23 rfl) rfl
noncomputable def rbX2_passSum_50 : List (Nat × List Nat) := [(50, [62]), (51, [42]), (52, [180, 0, 9]), (55, [182, 0, 35]), (58, [87]), (59, [42]), (60, [27]), (61, [182, 0, 57]), (64, [154, 0, 5]), (67, [3]), (68, [172]), (69, [42]), (70, [180, 0, 15]), (73, [29]), (74, [3]), (75, [182, 0, 39]), (78, [132, 2, 1]), (81, [167, 255, 187]), (84, [4]), (85, [172])]
theorem rcX2_passSum_50 : dgo (lb cX2_passSum) 0 rbX2_passSum_50 = true := by decide +kernel
theorem dX2_passSum_50 : decode cX2_passSum 50 = .ok (.istore_n 3, 1) := dk_62 (dw rcX2_passSum_50 0 rfl)
theorem dX2_passSum_51 : decode cX2_passSum 51 = .ok (.aload_n 0, 1) := dk_42 (dw rcX2_passSum_50 1 rfl)
theorem dX2_passSum_52 : decode cX2_passSum 52 = .ok (.getfield 9, 3) := dk_180 (dw rcX2_passSum_50 2 rfl) rfl
theorem dX2_passSum_55 : decode cX2_passSum 55 = .ok (.invokevirtual 35, 3) := dk_182 (dw rcX2_passSum_50 3 rfl) rfl
theorem dX2_passSum_58 : decode cX2_passSum 58 = .ok (.pop, 1) := dk_87 (dw rcX2_passSum_50 4 rfl)
theorem dX2_passSum_59 : decode cX2_passSum 59 = .ok (.aload_n 0, 1) := dk_42 (dw rcX2_passSum_50 5 rfl)
theorem dX2_passSum_60 : decode cX2_passSum 60 = .ok (.iload_n 1, 1) := dk_27 (dw rcX2_passSum_50 6 rfl)
theorem dX2_passSum_61 : decode cX2_passSum 61 = .ok (.invokevirtual 57, 3) := dk_182 (dw rcX2_passSum_50 7 rfl) rfl
theorem dX2_passSum_64 : decode cX2_passSum 64 = .ok (.ifCond .ne 5, 3) := dk_154 (dw rcX2_passSum_50 8 rfl) rfl
theorem dX2_passSum_67 : decode cX2_passSum 67 = .ok (.iconst 0, 1) := dk_3 (dw rcX2_passSum_50 9 rfl)
theorem dX2_passSum_68 : decode cX2_passSum 68 = .ok (.ireturn, 1) := dk_172 (dw rcX2_passSum_50 10 rfl)
theorem dX2_passSum_69 : decode cX2_passSum 69 = .ok (.aload_n 0, 1) := dk_42 (dw rcX2_passSum_50 11 rfl)
theorem dX2_passSum_70 : decode cX2_passSum 70 = .ok (.getfield 15, 3) := dk_180 (dw rcX2_passSum_50 12 rfl) rfl
theorem dX2_passSum_73 : decode cX2_passSum 73 = .ok (.iload_n 3, 1) := dk_29 (dw rcX2_passSum_50 13 rfl)
theorem dX2_passSum_74 : decode cX2_passSum 74 = .ok (.iconst 0, 1) := dk_3 (dw rcX2_passSum_50 14 rfl)
theorem dX2_passSum_75 : decode cX2_passSum 75 = .ok (.invokevirtual 39, 3) := dk_182 (dw rcX2_passSum_50 15 rfl) rfl
theorem dX2_passSum_78 : decode cX2_passSum 78 = .ok (.iinc 2 1, 3) := dk_132 (dw rcX2_passSum_50 16 rfl) rfl
theorem dX2_passSum_81 : decode cX2_passSum 81 = .ok (.goto (-69), 3) := dk_167 (dw rcX2_passSum_50 17 rfl) rfl
theorem dX2_passSum_84 : decode cX2_passSum 84 = .ok (.iconst 1, 1) := dk_4 (dw rcX2_passSum_50 18 rfl)
theorem dX2_passSum_85 : decode cX2_passSum 85 = .ok (.ireturn, 1) := dk_172 (dw rcX2_passSum_50 19 rfl)
noncomputable def rbX2_passTerm_0 : List (Nat × List Nat) := [(0, [42]), (1, [27]), (2, [182, 0, 60]), (5, [154, 0, 5]), (8, [3]), (9, [172]), (10, [3]), (11, [61]), (12, [28]), (13, [17, 6, 64]), (16, [162, 0, 57]), (19, [42]), (20, [180, 0, 9]), (23, [180, 0, 30]), (26, [184, 0, 63]), (29, [153, 0, 44]), (32, [42]), (33, [180, 0, 9]), (36, [180, 0, 30]), (39, [62]), (40, [42]), (41, [180, 0, 9]), (44, [182, 0, 35]), (47, [87])]
theorem rcX2_passTerm_0 : dgo (lb cX2_passTerm) 0 rbX2_passTerm_0 = true := by decide +kernel
theorem dX2_passTerm_0 : decode cX2_passTerm 0 = .ok (.aload_n 0, 1) := dk_42 (dw rcX2_passTerm_0 0 rfl)
theorem dX2_passTerm_1 : decode cX2_passTerm 1 = .ok (.iload_n 1, 1) := dk_27 (dw rcX2_passTerm_0 1 rfl)
theorem dX2_passTerm_2 : decode cX2_passTerm 2 = .ok (.invokevirtual 60, 3) := dk_182 (dw rcX2_passTerm_0 2 rfl) rfl
theorem dX2_passTerm_5 : decode cX2_passTerm 5 = .ok (.ifCond .ne 5, 3) := dk_154 (dw rcX2_passTerm_0 3 rfl) rfl
theorem dX2_passTerm_8 : decode cX2_passTerm 8 = .ok (.iconst 0, 1) := dk_3 (dw rcX2_passTerm_0 4 rfl)
theorem dX2_passTerm_9 : decode cX2_passTerm 9 = .ok (.ireturn, 1) := dk_172 (dw rcX2_passTerm_0 5 rfl)
theorem dX2_passTerm_10 : decode cX2_passTerm 10 = .ok (.iconst 0, 1) := dk_3 (dw rcX2_passTerm_0 6 rfl)
theorem dX2_passTerm_11 : decode cX2_passTerm 11 = .ok (.istore_n 2, 1) := dk_61 (dw rcX2_passTerm_0 7 rfl)
theorem dX2_passTerm_12 : decode cX2_passTerm 12 = .ok (.iload_n 2, 1) := dk_28 (dw rcX2_passTerm_0 8 rfl)
theorem dX2_passTerm_13 : decode cX2_passTerm 13 = .ok (.sipush 1600, 3) := dk_17 (dw rcX2_passTerm_0 9 rfl) rfl
theorem dX2_passTerm_16 : decode cX2_passTerm 16 = .ok (.if_icmp .ge 57, 3) := dk_162 (dw rcX2_passTerm_0 10 rfl) rfl
theorem dX2_passTerm_19 : decode cX2_passTerm 19 = .ok (.aload_n 0, 1) := dk_42 (dw rcX2_passTerm_0 11 rfl)
theorem dX2_passTerm_20 : decode cX2_passTerm 20 = .ok (.getfield 9, 3) := dk_180 (dw rcX2_passTerm_0 12 rfl) rfl
theorem dX2_passTerm_23 : decode cX2_passTerm 23 = .ok (.getfield 30, 3) := dk_180 (dw rcX2_passTerm_0 13 rfl) rfl
theorem dX2_passTerm_26 : decode cX2_passTerm 26 = .ok (.invokestatic 63, 3) := dk_184 (dw rcX2_passTerm_0 14 rfl) rfl
theorem dX2_passTerm_29 : decode cX2_passTerm 29 = .ok (.ifCond .eq 44, 3) := dk_153 (dw rcX2_passTerm_0 15 rfl) rfl
theorem dX2_passTerm_32 : decode cX2_passTerm 32 = .ok (.aload_n 0, 1) := dk_42 (dw rcX2_passTerm_0 16 rfl)
theorem dX2_passTerm_33 : decode cX2_passTerm 33 = .ok (.getfield 9, 3) := dk_180 (dw rcX2_passTerm_0 17 rfl) rfl
theorem dX2_passTerm_36 : decode cX2_passTerm 36 = .ok (.getfield 30, 3) := dk_180 (dw rcX2_passTerm_0 18 rfl) rfl
theorem dX2_passTerm_39 : decode cX2_passTerm 39 = .ok (.istore_n 3, 1) := dk_62 (dw rcX2_passTerm_0 19 rfl)
theorem dX2_passTerm_40 : decode cX2_passTerm 40 = .ok (.aload_n 0, 1) := dk_42 (dw rcX2_passTerm_0 20 rfl)
theorem dX2_passTerm_41 : decode cX2_passTerm 41 = .ok (.getfield 9, 3) := dk_180 (dw rcX2_passTerm_0 21 rfl) rfl
theorem dX2_passTerm_44 : decode cX2_passTerm 44 = .ok (.invokevirtual 35, 3) := dk_182 (dw rcX2_passTerm_0 22 rfl) rfl
theorem dX2_passTerm_47 : decode cX2_passTerm 47 = .ok (.pop, 1) := dk_87 (dw rcX2_passTerm_0 23 rfl)
noncomputable def rbX2_passTerm_48 : List (Nat × List Nat) := [(48, [42]), (49, [27]), (50, [182, 0, 60]), (53, [154, 0, 5]), (56, [3]), (57, [172]), (58, [42]), (59, [180, 0, 15]), (62, [29]), (63, [3]), (64, [182, 0, 39]), (67, [132, 2, 1]), (70, [167, 255, 198]), (73, [4]), (74, [172])]
theorem rcX2_passTerm_48 : dgo (lb cX2_passTerm) 0 rbX2_passTerm_48 = true := by decide +kernel
theorem dX2_passTerm_48 : decode cX2_passTerm 48 = .ok (.aload_n 0, 1) := dk_42 (dw rcX2_passTerm_48 0 rfl)
theorem dX2_passTerm_49 : decode cX2_passTerm 49 = .ok (.iload_n 1, 1) := dk_27 (dw rcX2_passTerm_48 1 rfl)
theorem dX2_passTerm_50 : decode cX2_passTerm 50 = .ok (.invokevirtual 60, 3) := dk_182 (dw rcX2_passTerm_48 2 rfl) rfl
theorem dX2_passTerm_53 : decode cX2_passTerm 53 = .ok (.ifCond .ne 5, 3) := dk_154 (dw rcX2_passTerm_48 3 rfl) rfl
theorem dX2_passTerm_56 : decode cX2_passTerm 56 = .ok (.iconst 0, 1) := dk_3 (dw rcX2_passTerm_48 4 rfl)
theorem dX2_passTerm_57 : decode cX2_passTerm 57 = .ok (.ireturn, 1) := dk_172 (dw rcX2_passTerm_48 5 rfl)
theorem dX2_passTerm_58 : decode cX2_passTerm 58 = .ok (.aload_n 0, 1) := dk_42 (dw rcX2_passTerm_48 6 rfl)
theorem dX2_passTerm_59 : decode cX2_passTerm 59 = .ok (.getfield 15, 3) := dk_180 (dw rcX2_passTerm_48 7 rfl) rfl
theorem dX2_passTerm_62 : decode cX2_passTerm 62 = .ok (.iload_n 3, 1) := dk_29 (dw rcX2_passTerm_48 8 rfl)
theorem dX2_passTerm_63 : decode cX2_passTerm 63 = .ok (.iconst 0, 1) := dk_3 (dw rcX2_passTerm_48 9 rfl)
theorem dX2_passTerm_64 : decode cX2_passTerm 64 = .ok (.invokevirtual 39, 3) := dk_182 (dw rcX2_passTerm_48 10 rfl) rfl
theorem dX2_passTerm_67 : decode cX2_passTerm 67 = .ok (.iinc 2 1, 3) := dk_132 (dw rcX2_passTerm_48 11 rfl) rfl
theorem dX2_passTerm_70 : decode cX2_passTerm 70 = .ok (.goto (-58), 3) := dk_167 (dw rcX2_passTerm_48 12 rfl) rfl
theorem dX2_passTerm_73 : decode cX2_passTerm 73 = .ok (.iconst 1, 1) := dk_4 (dw rcX2_passTerm_48 13 rfl)
theorem dX2_passTerm_74 : decode cX2_passTerm 74 = .ok (.ireturn, 1) := dk_172 (dw rcX2_passTerm_48 14 rfl)
theorem dX2_passUnit_60 : decode cX2_passUnit 60 = .ok (.lookupswitch 154 #[(40, 100), (139, 131), (140, 131), (141, 131), (142, 131), (143, 131), (147, 131), (148, 131), (149, 131), (150, 131), (201, 106)], 100) := dq_of (by decide +kernel)
noncomputable def rbX2_passUnit_0 : List (Nat × List Nat) := [(0, [42]), (1, [180, 0, 19]), (4, [16, 30]), (6, [162, 0, 15]), (9, [42]), (10, [180, 0, 15]), (13, [180, 0, 66]), (16, [16, 90]), (18, [161, 0, 12]), (21, [42]), (22, [180, 0, 9]), (25, [5]), (26, [182, 0, 51]), (29, [172]), (30, [42]), (31, [89]), (32, [180, 0, 19]), (35, [4]), (36, [96]), (37, [181, 0, 19]), (40, [42]), (41, [180, 0, 15]), (44, [89]), (45, [180, 0, 66])]
theorem rcX2_passUnit_0 : dgo (lb cX2_passUnit) 0 rbX2_passUnit_0 = true := by decide +kernel
theorem dX2_passUnit_0 : decode cX2_passUnit 0 = .ok (.aload_n 0, 1) := dk_42 (dw rcX2_passUnit_0 0 rfl)
theorem dX2_passUnit_1 : decode cX2_passUnit 1 = .ok (.getfield 19, 3) := dk_180 (dw rcX2_passUnit_0 1 rfl) rfl
theorem dX2_passUnit_4 : decode cX2_passUnit 4 = .ok (.bipush 30, 2) := dk_16 (dw rcX2_passUnit_0 2 rfl) rfl
theorem dX2_passUnit_6 : decode cX2_passUnit 6 = .ok (.if_icmp .ge 15, 3) := dk_162 (dw rcX2_passUnit_0 3 rfl) rfl
theorem dX2_passUnit_9 : decode cX2_passUnit 9 = .ok (.aload_n 0, 1) := dk_42 (dw rcX2_passUnit_0 4 rfl)
theorem dX2_passUnit_10 : decode cX2_passUnit 10 = .ok (.getfield 15, 3) := dk_180 (dw rcX2_passUnit_0 5 rfl) rfl
theorem dX2_passUnit_13 : decode cX2_passUnit 13 = .ok (.getfield 66, 3) := dk_180 (dw rcX2_passUnit_0 6 rfl) rfl
theorem dX2_passUnit_16 : decode cX2_passUnit 16 = .ok (.bipush 90, 2) := dk_16 (dw rcX2_passUnit_0 7 rfl) rfl
theorem dX2_passUnit_18 : decode cX2_passUnit 18 = .ok (.if_icmp .lt 12, 3) := dk_161 (dw rcX2_passUnit_0 8 rfl) rfl
theorem dX2_passUnit_21 : decode cX2_passUnit 21 = .ok (.aload_n 0, 1) := dk_42 (dw rcX2_passUnit_0 9 rfl)
theorem dX2_passUnit_22 : decode cX2_passUnit 22 = .ok (.getfield 9, 3) := dk_180 (dw rcX2_passUnit_0 10 rfl) rfl
theorem dX2_passUnit_25 : decode cX2_passUnit 25 = .ok (.iconst 2, 1) := dk_5 (dw rcX2_passUnit_0 11 rfl)
theorem dX2_passUnit_26 : decode cX2_passUnit 26 = .ok (.invokevirtual 51, 3) := dk_182 (dw rcX2_passUnit_0 12 rfl) rfl
theorem dX2_passUnit_29 : decode cX2_passUnit 29 = .ok (.ireturn, 1) := dk_172 (dw rcX2_passUnit_0 13 rfl)
theorem dX2_passUnit_30 : decode cX2_passUnit 30 = .ok (.aload_n 0, 1) := dk_42 (dw rcX2_passUnit_0 14 rfl)
theorem dX2_passUnit_31 : decode cX2_passUnit 31 = .ok (.dup, 1) := dk_89 (dw rcX2_passUnit_0 15 rfl)
theorem dX2_passUnit_32 : decode cX2_passUnit 32 = .ok (.getfield 19, 3) := dk_180 (dw rcX2_passUnit_0 16 rfl) rfl
theorem dX2_passUnit_35 : decode cX2_passUnit 35 = .ok (.iconst 1, 1) := dk_4 (dw rcX2_passUnit_0 17 rfl)
theorem dX2_passUnit_36 : decode cX2_passUnit 36 = .ok (.iadd, 1) := dk_96 (dw rcX2_passUnit_0 18 rfl)
theorem dX2_passUnit_37 : decode cX2_passUnit 37 = .ok (.putfield 19, 3) := dk_181 (dw rcX2_passUnit_0 19 rfl) rfl
theorem dX2_passUnit_40 : decode cX2_passUnit 40 = .ok (.aload_n 0, 1) := dk_42 (dw rcX2_passUnit_0 20 rfl)
theorem dX2_passUnit_41 : decode cX2_passUnit 41 = .ok (.getfield 15, 3) := dk_180 (dw rcX2_passUnit_0 21 rfl) rfl
theorem dX2_passUnit_44 : decode cX2_passUnit 44 = .ok (.dup, 1) := dk_89 (dw rcX2_passUnit_0 22 rfl)
theorem dX2_passUnit_45 : decode cX2_passUnit 45 = .ok (.getfield 66, 3) := dk_180 (dw rcX2_passUnit_0 23 rfl) rfl
noncomputable def rbX2_passUnit_48 : List (Nat × List Nat) := [(48, [4]), (49, [96]), (50, [181, 0, 66]), (53, [42]), (54, [180, 0, 9]), (57, [180, 0, 30]), (160, [42]), (161, [27]), (162, [182, 0, 67]), (165, [172]), (166, [42]), (167, [180, 0, 15]), (170, [17, 0, 201]), (173, [42]), (174, [180, 0, 9]), (177, [180, 0, 70]), (180, [182, 0, 39]), (183, [42]), (184, [180, 0, 9]), (187, [182, 0, 35]), (190, [172]), (191, [42]), (192, [180, 0, 15]), (195, [42])]
theorem rcX2_passUnit_48 : dgo (lb cX2_passUnit) 0 rbX2_passUnit_48 = true := by decide +kernel
theorem dX2_passUnit_48 : decode cX2_passUnit 48 = .ok (.iconst 1, 1) := dk_4 (dw rcX2_passUnit_48 0 rfl)
theorem dX2_passUnit_49 : decode cX2_passUnit 49 = .ok (.iadd, 1) := dk_96 (dw rcX2_passUnit_48 1 rfl)
theorem dX2_passUnit_50 : decode cX2_passUnit 50 = .ok (.putfield 66, 3) := dk_181 (dw rcX2_passUnit_48 2 rfl) rfl
theorem dX2_passUnit_53 : decode cX2_passUnit 53 = .ok (.aload_n 0, 1) := dk_42 (dw rcX2_passUnit_48 3 rfl)
theorem dX2_passUnit_54 : decode cX2_passUnit 54 = .ok (.getfield 9, 3) := dk_180 (dw rcX2_passUnit_48 4 rfl) rfl
theorem dX2_passUnit_57 : decode cX2_passUnit 57 = .ok (.getfield 30, 3) := dk_180 (dw rcX2_passUnit_48 5 rfl) rfl
theorem dX2_passUnit_160 : decode cX2_passUnit 160 = .ok (.aload_n 0, 1) := dk_42 (dw rcX2_passUnit_48 6 rfl)
theorem dX2_passUnit_161 : decode cX2_passUnit 161 = .ok (.iload_n 1, 1) := dk_27 (dw rcX2_passUnit_48 7 rfl)
theorem dX2_passUnit_162 : decode cX2_passUnit 162 = .ok (.invokevirtual 67, 3) := dk_182 (dw rcX2_passUnit_48 8 rfl) rfl
theorem dX2_passUnit_165 : decode cX2_passUnit 165 = .ok (.ireturn, 1) := dk_172 (dw rcX2_passUnit_48 9 rfl)
theorem dX2_passUnit_166 : decode cX2_passUnit 166 = .ok (.aload_n 0, 1) := dk_42 (dw rcX2_passUnit_48 10 rfl)
theorem dX2_passUnit_167 : decode cX2_passUnit 167 = .ok (.getfield 15, 3) := dk_180 (dw rcX2_passUnit_48 11 rfl) rfl
theorem dX2_passUnit_170 : decode cX2_passUnit 170 = .ok (.sipush 201, 3) := dk_17 (dw rcX2_passUnit_48 12 rfl) rfl
theorem dX2_passUnit_173 : decode cX2_passUnit 173 = .ok (.aload_n 0, 1) := dk_42 (dw rcX2_passUnit_48 13 rfl)
theorem dX2_passUnit_174 : decode cX2_passUnit 174 = .ok (.getfield 9, 3) := dk_180 (dw rcX2_passUnit_48 14 rfl) rfl
theorem dX2_passUnit_177 : decode cX2_passUnit 177 = .ok (.getfield 70, 3) := dk_180 (dw rcX2_passUnit_48 15 rfl) rfl
theorem dX2_passUnit_180 : decode cX2_passUnit 180 = .ok (.invokevirtual 39, 3) := dk_182 (dw rcX2_passUnit_48 16 rfl) rfl
theorem dX2_passUnit_183 : decode cX2_passUnit 183 = .ok (.aload_n 0, 1) := dk_42 (dw rcX2_passUnit_48 17 rfl)
theorem dX2_passUnit_184 : decode cX2_passUnit 184 = .ok (.getfield 9, 3) := dk_180 (dw rcX2_passUnit_48 18 rfl) rfl
theorem dX2_passUnit_187 : decode cX2_passUnit 187 = .ok (.invokevirtual 35, 3) := dk_182 (dw rcX2_passUnit_48 19 rfl) rfl
theorem dX2_passUnit_190 : decode cX2_passUnit 190 = .ok (.ireturn, 1) := dk_172 (dw rcX2_passUnit_48 20 rfl)
theorem dX2_passUnit_191 : decode cX2_passUnit 191 = .ok (.aload_n 0, 1) := dk_42 (dw rcX2_passUnit_48 21 rfl)
theorem dX2_passUnit_192 : decode cX2_passUnit 192 = .ok (.getfield 15, 3) := dk_180 (dw rcX2_passUnit_48 22 rfl) rfl
theorem dX2_passUnit_195 : decode cX2_passUnit 195 = .ok (.aload_n 0, 1) := dk_42 (dw rcX2_passUnit_48 23 rfl)
noncomputable def rbX2_passUnit_196 : List (Nat × List Nat) := [(196, [180, 0, 9]), (199, [180, 0, 30]), (202, [3]), (203, [182, 0, 39]), (206, [42]), (207, [180, 0, 9]), (210, [182, 0, 35]), (213, [172]), (214, [42]), (215, [180, 0, 9]), (218, [5]), (219, [182, 0, 51]), (222, [172])]
theorem rcX2_passUnit_196 : dgo (lb cX2_passUnit) 0 rbX2_passUnit_196 = true := by decide +kernel
theorem dX2_passUnit_196 : decode cX2_passUnit 196 = .ok (.getfield 9, 3) := dk_180 (dw rcX2_passUnit_196 0 rfl) rfl
theorem dX2_passUnit_199 : decode cX2_passUnit 199 = .ok (.getfield 30, 3) := dk_180 (dw rcX2_passUnit_196 1 rfl) rfl
theorem dX2_passUnit_202 : decode cX2_passUnit 202 = .ok (.iconst 0, 1) := dk_3 (dw rcX2_passUnit_196 2 rfl)
theorem dX2_passUnit_203 : decode cX2_passUnit 203 = .ok (.invokevirtual 39, 3) := dk_182 (dw rcX2_passUnit_196 3 rfl) rfl
theorem dX2_passUnit_206 : decode cX2_passUnit 206 = .ok (.aload_n 0, 1) := dk_42 (dw rcX2_passUnit_196 4 rfl)
theorem dX2_passUnit_207 : decode cX2_passUnit 207 = .ok (.getfield 9, 3) := dk_180 (dw rcX2_passUnit_196 5 rfl) rfl
theorem dX2_passUnit_210 : decode cX2_passUnit 210 = .ok (.invokevirtual 35, 3) := dk_182 (dw rcX2_passUnit_196 6 rfl) rfl
theorem dX2_passUnit_213 : decode cX2_passUnit 213 = .ok (.ireturn, 1) := dk_172 (dw rcX2_passUnit_196 7 rfl)
theorem dX2_passUnit_214 : decode cX2_passUnit 214 = .ok (.aload_n 0, 1) := dk_42 (dw rcX2_passUnit_196 8 rfl)
theorem dX2_passUnit_215 : decode cX2_passUnit 215 = .ok (.getfield 9, 3) := dk_180 (dw rcX2_passUnit_196 9 rfl) rfl
theorem dX2_passUnit_218 : decode cX2_passUnit 218 = .ok (.iconst 2, 1) := dk_5 (dw rcX2_passUnit_196 10 rfl)
theorem dX2_passUnit_219 : decode cX2_passUnit 219 = .ok (.invokevirtual 51, 3) := dk_182 (dw rcX2_passUnit_196 11 rfl) rfl
theorem dX2_passUnit_222 : decode cX2_passUnit 222 = .ok (.ireturn, 1) := dk_172 (dw rcX2_passUnit_196 12 rfl)
set_option maxHeartbeats 4000000 in
set_option maxRecDepth 100000 in
theorem k_fBracket_1_s (l : Launch) (D : va_G) (k : KT) (A : Nat → Prop) (a : Nat → Nat) (z : SK) (fn ln n : Nat) (E O : XR) (hEb : ∀ (p0 : Int32) (G : GS) (r : Int32) (G1 : GS), E p0 G r G1 → Bd G1 ∧ Fr [17] [(1, 12), (1, 13), (3, 2), (3, 3), (3, 4), (3, 5), (3, 6), (3, 7), (3, 8), (4, 2)] G G1 ∧ (0 ≤ r.toInt ∧ r.toInt ≤ 1)) (hOb : ∀ (p0 : Int32) (G : GS) (r : Int32) (G1 : GS), O p0 G r G1 → Bd G1 ∧ Fr [17] [(1, 12), (1, 13), (3, 2), (3, 3), (3, 4), (3, 5), (3, 6), (3, 7), (3, 8), (4, 2)] G G1 ∧ (0 ≤ r.toInt ∧ r.toInt ≤ 1)) (hE : ∀ (G : GS) (p0 : Int32) (ha_p0 : 0 ≤ p0.toInt ∧ p0.toInt ≤ 7) (hv_4_1 : G.2.2 4 1 = 1) (hd : 8 ≤ p0.toInt + (n : Int)), Met l yX2_passEither (WS yX2_passEither cX2_passEither 3 (some .boolean)) ({ frames := fn + 2, cells := 0, slots := 0, locals := ln + 43 }) (va_Pc [.ref (a 4), .int p0] (cW D k A a z G)) (va_Qi (fun (r : Int32) (G1 : GS) => E p0 G r G1) (fun (G1 : GS) t => Wd D k A a G1 t.heap) A) 0 0 A) (hO : ∀ (G : GS) (p0 : Int32) (ha_p0 : 0 ≤ p0.toInt ∧ p0.toInt ≤ 7) (hv_4_1 : G.2.2 4 1 = 1) (hd : 8 ≤ p0.toInt + (n : Int)), Met l yX2_passOne (WS yX2_passOne cX2_passOne 2 (some .boolean)) ({ frames := fn + 0, cells := 0, slots := 0, locals := ln + 0 }) (va_Pc [.ref (a 4), .int p0] (cW D k A a z G)) (va_Qi (fun (r : Int32) (G1 : GS) => O p0 G r G1) (fun (G1 : GS) t => Wd D k A a G1 t.heap) A) 0 0 A) (G : GS) (p0 : Int32) (ha_p0 : 0 ≤ p0.toInt ∧ p0.toInt ≤ 7) (hv_4_1 : G.2.2 4 1 = 1) (hd : 8 ≤ p0.toInt + (n : Int) + 1) : Met l yX2_passBracket (WS yX2_passBracket cX2_passBracket 2 (some .boolean)) ({ frames := fn + 7, cells := 0, slots := 0, locals := ln + 148 }) (va_Pc [.ref (a 4), .int p0] (cW D k A a z G)) (va_Qi (fun (r : Int32) (G1 : GS) => P_fBracket_1_s E O p0 G r G1) (fun (G1 : GS) t => Wd D k A a G1 t.heap) A) 0 0 A := by
  refine Met.ofW (cc := cX2_passBracket) (maxL := 2) (ret := (some .boolean)) (by decide) rfl ?_
  intro p e s m args below meth c s₁ B hml hv
  obtain ⟨rfl, hW, hB_G, hK, hZ⟩ := hv
  have hx := B.exec
  have hb := B.bytes
  have hr := B.returns
  have hts := atoms_spec (ws := WS yX2_passBracket cX2_passBracket 2 (some .boolean)) B.pre
  have hgd : ∀ w ∈ gd, w ∈ WS yX2_passBracket cX2_passBracket 2 (some .boolean) := fun w h => List.mem_cons_of_mem _ h
  have hg : ∀ w ∈ gd, w.before _ s = true := fun w h => hts w (hgd w h)
  have hown : s.vm.findClass RX2 = some m.cls := findClass_of_methodNamed B.named
  have hS : va_S A s.heap s.heap [] := va_S.rf
  have hF : Fr [17] [(1, 12), (1, 13), (3, 2), (3, 3), (3, 4), (3, 5), (3, 6), (3, 7), (3, 8), (4, 2)] G G := Fr.rf
  have hl := lv_entry ([.ref (a 4), .int p0]) (n := 2) (Nat.le_of_ble_eq_true rfl)
  rw [lg_entry_eq]
  generalize (lg_sl ([.ref (a 4), .int p0]) ++ List.replicate (2 - (lg_sl ([.ref (a 4), .int p0])).length) Slot.unset).toArray = ls at hl ⊢
  have hl : lv_has ls 2 [(0, .ref (a 4)), (1, .int p0)] := hl
  refine lv_iload_n hx hb dX2_passBracket_0 rfl (lv_at hl 1 rfl) ?_
  refine lv_bipush (v := 6) hx hb dX2_passBracket_1 (by decide) ?_
  refine lv_icmp_le (tgt := 15) hx hb dX2_passBracket_3 rfl (fun c_1 => ?_) (fun c_1 => ?_)
  · have c_1 : p0.toInt ≤ 6 := xI_le rfl rfl c_1
    refine lv_aload_n hx hb dX2_passBracket_15 rfl (lv_at hl 0 rfl) ?_
    refine S_getR (n := 3) (C := RX2) (T := TX2) (N := 3) hx hb hg iX2 hown hK hW kd_4 rfl 0 (lt_b rfl) (hg (Cond.fieldLink RX2 9 "SlabWalk$Formulas" "tokens" "LSlabWalk$Tokens;") m301) (fun _ h9 => h9) rfl dX2_passBracket_16 ?_
    refine S_calli (va_runV (As := []) (rest := []) ⟨hx, hb, hml, hown, hts⟩ (k_tAdvance l D k A a z G  ) (cwV 0 hts (gd_V hgd m854 m639 m640 m120 m641) rfl rfl rfl hd_X9_advance ⟨show 6 + 1 ≤ fn + 7 from sy_1 fn (Nat.le_of_ble_eq_true rfl), show 8 + (2 + 11) + (127) ≤ ln + 148 from sy_1 ln (Nat.le_of_ble_eq_true rfl)⟩) (pre_W hW hB_G hK hZ hS kd_3 rfl) rfl rfl hl.1 rfl (lv_room (Nat.le_of_ble_eq_true rfl)) dX2_passBracket_19 ⟨Nat.le_of_ble_eq_true rfl, Nat.le_of_ble_eq_true rfl⟩) hS (fun r_2 G_3 H locs hpo hW hS => ?_)
    have hX_6 : P_tAdvance G r_2 G_3 := hpo
    obtain ⟨hB_G_3, hq_4, f_7, -⟩ := hpo
    have hF := hF.call9 hq_4 rfl rfl
    refine lv_pop hx hb dX2_passBracket_22 rfl ?_
    refine lv_aload_n hx hb dX2_passBracket_23 rfl (lv_at hl 0 rfl) ?_
    refine lv_iload_n hx hb dX2_passBracket_24 rfl (lv_at hl 1 rfl) ?_
    refine ic_1 hx hb dX2_passBracket_25 ?_
    refine lv_iadd hx hb dX2_passBracket_26 ?_
    refine lv_topi (fun y_8 ey_8 => ?_)
    have ty_8 : y_8.toInt = p0.toInt + 1 := xI_add rfl rfl ey_8 ((by first | exact ok_21 ha_p0.1 | omega)) ((by first | exact ok_381 ha_p0.2 | omega))
    refine S_calli (va_runV (As := [.int y_8]) (rest := []) ⟨hx, hb, hml, hown, hts⟩ (hE G_3 y_8 ⟨(by first | exact ok_23 ha_p0.1 ty_8 | omega), (by first | exact ok_382 ha_p0.2 c_1 ty_8 | omega)⟩ (((hq_4.r9 4 1 rfl rfl)).trans (hv_4_1)) ((by first | exact ok_383 hd ty_8 | omega))) (cwV 1 hts (gd_V hgd m821 m823 m16 m121 m824) rfl rfl rfl hd_X2_passEither ⟨show fn + 2 + 1 ≤ fn + 7 from sy_2 fn (Nat.le_of_ble_eq_true rfl), show 8 + (3 + 11) + (ln + 43) ≤ ln + 148 from sy_3 ln (Nat.le_of_ble_eq_true rfl)⟩) (pre_W hW hB_G_3 hK hZ hS kd_4 rfl) rfl rfl hl.1 rfl (lv_room (Nat.le_of_ble_eq_true rfl)) dX2_passBracket_27 ⟨Nat.le_of_ble_eq_true rfl, Nat.le_of_ble_eq_true rfl⟩) hS (fun r_9 G_10 H locs hpo hW hS => ?_)
    have hX_13 : E y_8 G_3 r_9 G_10 := hpo
    obtain ⟨hB_G_10, hq_11, f_14⟩ := hEb _ _ _ _ hpo
    have hF := hF.call9 hq_11 rfl rfl
    refine lv_if_ne (tgt := 35) hx hb dX2_passBracket_30 rfl (fun c_15 => ?_) (fun c_15 => ?_)
    · have c_15 : r_9.toInt ≠ 0 := xI_ne rfl rfl c_15
      refine lv_aload_n hx hb dX2_passBracket_35 rfl (lv_at hl 0 rfl) ?_
      refine S_getR (n := 3) (C := RX2) (T := TX2) (N := 3) hx hb hg iX2 hown hK hW kd_4 rfl 0 (lt_b rfl) (hg (Cond.fieldLink RX2 9 "SlabWalk$Formulas" "tokens" "LSlabWalk$Tokens;") m301) (fun _ h9 => h9) rfl dX2_passBracket_36 ?_
      refine S_getI (v := (G_10.1 3 3)) (C := RX9) (T := TX9) (N := 9) hx hb hg iX9 hown hK hW kd_3 rfl 3 (lt_b rfl) (hg (Cond.fieldLink RX2 30 "SlabWalk$Tokens" "kind" "I") m263) (fun _ h9 => h9) rfl rfl dX2_passBracket_39 ?_
      refine lv_bipush (v := 41) hx hb dX2_passBracket_42 (by decide) ?_
      refine lv_icmp_ne (tgt := 57) hx hb dX2_passBracket_44 rfl (fun c_16 => ?_) (fun c_16 => ?_)
      · have c_16 : (G_10.1 3 3).toInt ≠ 41 := xI_ne rfl rfl c_16
        refine lv_aload_n hx hb dX2_passBracket_57 rfl (lv_at hl 0 rfl) ?_
        refine S_getR (n := 3) (C := RX2) (T := TX2) (N := 3) hx hb hg iX2 hown hK hW kd_4 rfl 0 (lt_b rfl) (hg (Cond.fieldLink RX2 9 "SlabWalk$Formulas" "tokens" "LSlabWalk$Tokens;") m301) (fun _ h9 => h9) rfl dX2_passBracket_58 ?_
        refine ic_2 hx hb dX2_passBracket_61 ?_
        refine S_calli (va_runV (As := [.int 2]) (rest := []) ⟨hx, hb, hml, hown, hts⟩ (k_tRefuse l D k A a z G_10 2 ⟨by decide, by decide⟩) (cwV 1 hts (gd_V hgd m849 m779 m780 m120 m781) rfl rfl rfl hd_X9_refuse ⟨show 0 + 1 ≤ fn + 7 from sy_1 fn (Nat.le_of_ble_eq_true rfl), show 8 + (2 + 11) + (0) ≤ ln + 148 from sy_1 ln (Nat.le_of_ble_eq_true rfl)⟩) (pre_W hW hB_G_10 hK hZ hS kd_3 rfl) rfl rfl hl.1 rfl (lv_room (Nat.le_of_ble_eq_true rfl)) dX2_passBracket_62 ⟨Nat.le_of_ble_eq_true rfl, Nat.le_of_ble_eq_true rfl⟩) hS (fun r_17 G_18 H locs hpo hW hS => ?_)
        have hX_21 : P_tRefuse 2 G_10 r_17 G_18 := hpo
        obtain ⟨hB_G_18, hq_19, f_22, -⟩ := hpo
        have hF := hF.call9 hq_19 rfl rfl
        exact W.zret (v := r_17) hx hb hr (nar_z ((by first | exact f_22.1 | omega)) ((by first | exact ok_130 f_22.2 | omega))) (fun t ht _ => ⟨⟨r_17, G_18, rfl, (P_fBracket_1_s_mk ⟨hB_G_18, hF, ⟨(by first | exact f_22.1 | omega), (by first | exact ok_130 f_22.2 | omega)⟩, (Or.inl ⟨c_1, ⟨r_2, G_3, hX_6, ⟨y_8, ty_8, ⟨r_9, G_10, hX_13, (Or.inr ⟨c_15, (Or.inr ⟨c_16, ⟨r_17, G_18, hX_21, ⟨rfl, rfl⟩⟩⟩)⟩)⟩⟩⟩⟩)⟩), wd_t ht hW⟩, hS.F ht⟩) hS.2.2 dX2_passBracket_65
      · have c_16 : (G_10.1 3 3).toInt = 41 := xI_eq rfl rfl c_16
        refine lv_aload_n hx hb dX2_passBracket_47 rfl (lv_at hl 0 rfl) ?_
        refine S_getR (n := 3) (C := RX2) (T := TX2) (N := 3) hx hb hg iX2 hown hK hW kd_4 rfl 0 (lt_b rfl) (hg (Cond.fieldLink RX2 9 "SlabWalk$Formulas" "tokens" "LSlabWalk$Tokens;") m301) (fun _ h9 => h9) rfl dX2_passBracket_48 ?_
        refine S_calli (va_runV (As := []) (rest := []) ⟨hx, hb, hml, hown, hts⟩ (k_tAdvance l D k A a z G_10  ) (cwV 0 hts (gd_V hgd m854 m639 m640 m120 m641) rfl rfl rfl hd_X9_advance ⟨show 6 + 1 ≤ fn + 7 from sy_1 fn (Nat.le_of_ble_eq_true rfl), show 8 + (2 + 11) + (127) ≤ ln + 148 from sy_1 ln (Nat.le_of_ble_eq_true rfl)⟩) (pre_W hW hB_G_10 hK hZ hS kd_3 rfl) rfl rfl hl.1 rfl (lv_room (Nat.le_of_ble_eq_true rfl)) dX2_passBracket_51 ⟨Nat.le_of_ble_eq_true rfl, Nat.le_of_ble_eq_true rfl⟩) hS (fun r_23 G_24 H locs hpo hW hS => ?_)
        have hX_27 : P_tAdvance G_10 r_23 G_24 := hpo
        obtain ⟨hB_G_24, hq_25, f_28, -⟩ := hpo
        have hF := hF.call9 hq_25 rfl rfl
        refine lv_goto (tgt := 65) hx hb dX2_passBracket_54 rfl ?_
        exact W.zret (v := r_23) hx hb hr (nar_z ((by first | exact ok_131 f_28.1 | omega)) ((by first | exact f_28.2 | omega))) (fun t ht _ => ⟨⟨r_23, G_24, rfl, (P_fBracket_1_s_mk ⟨hB_G_24, hF, ⟨(by first | exact ok_131 f_28.1 | omega), (by first | exact f_28.2 | omega)⟩, (Or.inl ⟨c_1, ⟨r_2, G_3, hX_6, ⟨y_8, ty_8, ⟨r_9, G_10, hX_13, (Or.inr ⟨c_15, (Or.inl ⟨c_16, ⟨r_23, G_24, hX_27, ⟨rfl, rfl⟩⟩⟩)⟩)⟩⟩⟩⟩)⟩), wd_t ht hW⟩, hS.F ht⟩) hS.2.2 dX2_passBracket_65
    · have c_15 : r_9.toInt = 0 := xI_eq rfl rfl c_15
      refine ic_0 hx hb dX2_passBracket_33 ?_
      exact W.zret (v := 0) hx hb hr (by decide) (fun t ht _ => ⟨⟨0, G_10, rfl, (P_fBracket_1_s_mk ⟨hB_G_10, hF, ⟨by decide, by decide⟩, (Or.inl ⟨c_1, ⟨r_2, G_3, hX_6, ⟨y_8, ty_8, ⟨r_9, G_10, hX_13, (Or.inl ⟨c_15, ⟨rfl, rfl⟩⟩)⟩⟩⟩⟩)⟩), wd_t ht hW⟩, hS.F ht⟩) hS.2.2 dX2_passBracket_34
  · have c_1 : 6 < p0.toInt := xI_nle rfl rfl c_1
    refine lv_aload_n hx hb dX2_passBracket_6 rfl (lv_at hl 0 rfl) ?_
    refine S_getR (n := 3) (C := RX2) (T := TX2) (N := 3) hx hb hg iX2 hown hK hW kd_4 rfl 0 (lt_b rfl) (hg (Cond.fieldLink RX2 9 "SlabWalk$Formulas" "tokens" "LSlabWalk$Tokens;") m301) (fun _ h9 => h9) rfl dX2_passBracket_7 ?_
    refine ic_2 hx hb dX2_passBracket_10 ?_
    refine S_calli (va_runV (As := [.int 2]) (rest := []) ⟨hx, hb, hml, hown, hts⟩ (k_tRefuse l D k A a z G 2 ⟨by decide, by decide⟩) (cwV 1 hts (gd_V hgd m849 m779 m780 m120 m781) rfl rfl rfl hd_X9_refuse ⟨show 0 + 1 ≤ fn + 7 from sy_1 fn (Nat.le_of_ble_eq_true rfl), show 8 + (2 + 11) + (0) ≤ ln + 148 from sy_1 ln (Nat.le_of_ble_eq_true rfl)⟩) (pre_W hW hB_G hK hZ hS kd_3 rfl) rfl rfl hl.1 rfl (lv_room (Nat.le_of_ble_eq_true rfl)) dX2_passBracket_11 ⟨Nat.le_of_ble_eq_true rfl, Nat.le_of_ble_eq_true rfl⟩) hS (fun r_29 G_30 H locs hpo hW hS => ?_)
    have hX_33 : P_tRefuse 2 G r_29 G_30 := hpo
    obtain ⟨hB_G_30, hq_31, f_34, -⟩ := hpo
    have hF := hF.call9 hq_31 rfl rfl
    exact W.zret (v := r_29) hx hb hr (nar_z ((by first | exact f_34.1 | omega)) ((by first | exact ok_130 f_34.2 | omega))) (fun t ht _ => ⟨⟨r_29, G_30, rfl, (P_fBracket_1_s_mk ⟨hB_G_30, hF, ⟨(by first | exact f_34.1 | omega), (by first | exact ok_130 f_34.2 | omega)⟩, (Or.inr ⟨c_1, ⟨r_29, G_30, hX_33, ⟨rfl, rfl⟩⟩⟩)⟩), wd_t ht hW⟩, hS.F ht⟩) hS.2.2 dX2_passBracket_14

set_option maxHeartbeats 4000000 in
set_option maxRecDepth 100000 in
theorem k_fUnit_1_s (l : Launch) (D : va_G) (k : KT) (A : Nat → Prop) (a : Nat → Nat) (z : SK) (fn ln n : Nat) (E O : XR) (hEb : ∀ (p0 : Int32) (G : GS) (r : Int32) (G1 : GS), E p0 G r G1 → Bd G1 ∧ Fr [17] [(1, 12), (1, 13), (3, 2), (3, 3), (3, 4), (3, 5), (3, 6), (3, 7), (3, 8), (4, 2)] G G1 ∧ (0 ≤ r.toInt ∧ r.toInt ≤ 1)) (hOb : ∀ (p0 : Int32) (G : GS) (r : Int32) (G1 : GS), O p0 G r G1 → Bd G1 ∧ Fr [17] [(1, 12), (1, 13), (3, 2), (3, 3), (3, 4), (3, 5), (3, 6), (3, 7), (3, 8), (4, 2)] G G1 ∧ (0 ≤ r.toInt ∧ r.toInt ≤ 1)) (hE : ∀ (G : GS) (p0 : Int32) (ha_p0 : 0 ≤ p0.toInt ∧ p0.toInt ≤ 7) (hv_4_1 : G.2.2 4 1 = 1) (hd : 8 ≤ p0.toInt + (n : Int)), Met l yX2_passEither (WS yX2_passEither cX2_passEither 3 (some .boolean)) ({ frames := fn + 2, cells := 0, slots := 0, locals := ln + 43 }) (va_Pc [.ref (a 4), .int p0] (cW D k A a z G)) (va_Qi (fun (r : Int32) (G1 : GS) => E p0 G r G1) (fun (G1 : GS) t => Wd D k A a G1 t.heap) A) 0 0 A) (hO : ∀ (G : GS) (p0 : Int32) (ha_p0 : 0 ≤ p0.toInt ∧ p0.toInt ≤ 7) (hv_4_1 : G.2.2 4 1 = 1) (hd : 8 ≤ p0.toInt + (n : Int)), Met l yX2_passOne (WS yX2_passOne cX2_passOne 2 (some .boolean)) ({ frames := fn + 0, cells := 0, slots := 0, locals := ln + 0 }) (va_Pc [.ref (a 4), .int p0] (cW D k A a z G)) (va_Qi (fun (r : Int32) (G1 : GS) => O p0 G r G1) (fun (G1 : GS) t => Wd D k A a G1 t.heap) A) 0 0 A) (G : GS) (p0 : Int32) (ha_p0 : 0 ≤ p0.toInt ∧ p0.toInt ≤ 7) (hv_4_1 : G.2.2 4 1 = 1) (hd : 8 ≤ p0.toInt + (n : Int) + 1) : Met l yX2_passUnit (WS yX2_passUnit cX2_passUnit 2 (some .boolean)) ({ frames := fn + 8, cells := 0, slots := 0, locals := ln + 169 }) (va_Pc [.ref (a 4), .int p0] (cW D k A a z G)) (va_Qi (fun (r : Int32) (G1 : GS) => P_fUnit_1_s E O p0 G r G1) (fun (G1 : GS) t => Wd D k A a G1 t.heap) A) 0 0 A := by
  refine Met.ofW (cc := cX2_passUnit) (maxL := 2) (ret := (some .boolean)) (by decide) rfl ?_
  intro p e s m args below meth c s₁ B hml hv
  obtain ⟨rfl, hW, hB_G, hK, hZ⟩ := hv
  have hx := B.exec
  have hb := B.bytes
  have hr := B.returns
  have hts := atoms_spec (ws := WS yX2_passUnit cX2_passUnit 2 (some .boolean)) B.pre
  have hgd : ∀ w ∈ gd, w ∈ WS yX2_passUnit cX2_passUnit 2 (some .boolean) := fun w h => List.mem_cons_of_mem _ h
  have hg : ∀ w ∈ gd, w.before _ s = true := fun w h => hts w (hgd w h)
  have hown : s.vm.findClass RX2 = some m.cls := findClass_of_methodNamed B.named
  have hS : va_S A s.heap s.heap [] := va_S.rf
  have hF : Fr [17] [(1, 12), (1, 13), (3, 2), (3, 3), (3, 4), (3, 5), (3, 6), (3, 7), (3, 8), (4, 2)] G G := Fr.rf
  have hl := lv_entry ([.ref (a 4), .int p0]) (n := 2) (Nat.le_of_ble_eq_true rfl)
  rw [lg_entry_eq]
  generalize (lg_sl ([.ref (a 4), .int p0]) ++ List.replicate (2 - (lg_sl ([.ref (a 4), .int p0])).length) Slot.unset).toArray = ls at hl ⊢
  have hl : lv_has ls 2 [(0, .ref (a 4)), (1, .int p0)] := hl
  refine lv_aload_n hx hb dX2_passUnit_0 rfl (lv_at hl 0 rfl) ?_
  have b_1 : 0 ≤ (G.1 4 2).toInt ∧ (G.1 4 2).toInt ≤ 30 := bd_4_2 hB_G
  refine S_getI (v := (G.1 4 2)) (C := RX2) (T := TX2) (N := 3) hx hb hg iX2 hown hK hW kd_4 rfl 2 (lt_b rfl) (hg (Cond.fieldLink RX2 19 "SlabWalk$Formulas" "units" "I") m303) (fun _ h9 => h9) rfl rfl dX2_passUnit_1 ?_
  refine lv_bipush (v := 30) hx hb dX2_passUnit_4 (by decide) ?_
  refine lv_icmp_ge (tgt := 21) hx hb dX2_passUnit_6 rfl (fun c_2 => ?_) (fun c_2 => ?_)
  · have c_2 : 30 ≤ (G.1 4 2).toInt := xI_le rfl rfl c_2
    refine lv_aload_n hx hb dX2_passUnit_21 rfl (lv_at hl 0 rfl) ?_
    refine S_getR (n := 3) (C := RX2) (T := TX2) (N := 3) hx hb hg iX2 hown hK hW kd_4 rfl 0 (lt_b rfl) (hg (Cond.fieldLink RX2 9 "SlabWalk$Formulas" "tokens" "LSlabWalk$Tokens;") m301) (fun _ h9 => h9) rfl dX2_passUnit_22 ?_
    refine ic_2 hx hb dX2_passUnit_25 ?_
    refine S_calli (va_runV (As := [.int 2]) (rest := []) ⟨hx, hb, hml, hown, hts⟩ (k_tRefuse l D k A a z G 2 ⟨by decide, by decide⟩) (cwV 1 hts (gd_V hgd m849 m779 m780 m120 m781) rfl rfl rfl hd_X9_refuse ⟨show 0 + 1 ≤ fn + 8 from sy_1 fn (Nat.le_of_ble_eq_true rfl), show 8 + (2 + 11) + (0) ≤ ln + 169 from sy_1 ln (Nat.le_of_ble_eq_true rfl)⟩) (pre_W hW hB_G hK hZ hS kd_3 rfl) rfl rfl hl.1 rfl (lv_room (Nat.le_of_ble_eq_true rfl)) dX2_passUnit_26 ⟨Nat.le_of_ble_eq_true rfl, Nat.le_of_ble_eq_true rfl⟩) hS (fun r_3 G_4 H locs hpo hW hS => ?_)
    have hX_7 : P_tRefuse 2 G r_3 G_4 := hpo
    obtain ⟨hB_G_4, hq_5, f_8, -⟩ := hpo
    have hF := hF.call9 hq_5 rfl rfl
    exact W.zret (v := r_3) hx hb hr (nar_z ((by first | exact f_8.1 | omega)) ((by first | exact ok_130 f_8.2 | omega))) (fun t ht _ => ⟨⟨r_3, G_4, rfl, (P_fUnit_1_s_mk ⟨hB_G_4, hF, ⟨(by first | exact f_8.1 | omega), (by first | exact ok_130 f_8.2 | omega)⟩, (Or.inl ⟨c_2, ⟨r_3, G_4, hX_7, ⟨rfl, rfl⟩⟩⟩)⟩), wd_t ht hW⟩, hS.F ht⟩) hS.2.2 dX2_passUnit_29
  · have c_2 : (G.1 4 2).toInt < 30 := xI_nle rfl rfl c_2
    refine lv_aload_n hx hb dX2_passUnit_9 rfl (lv_at hl 0 rfl) ?_
    refine S_getV (n := 1) (C := RX2) (T := TX2) (N := 3) hx hb hg iX2 hown hK hW kd_4 rfl 1 (lt_b rfl) (hg (Cond.fieldLink RX2 15 "SlabWalk$Formulas" "paving" "LSlabWalk$Paving;") m302) (fun _ h9 => h9) rfl hv_4_1 dX2_passUnit_10 ?_
    have b_9 : 0 ≤ (G.1 1 12).toInt ∧ (G.1 1 12).toInt ≤ 90 := bd_1_12 hB_G
    refine S_getI (v := (G.1 1 12)) (C := RX6) (T := TX6) (N := 17) hx hb hg iX6 hown hK hW kd_1 rfl 12 (lt_b rfl) (hg (Cond.fieldLink RX2 66 "SlabWalk$Paving" "units" "I") m197) (fun _ h9 => h9) rfl rfl dX2_passUnit_13 ?_
    refine lv_bipush (v := 90) hx hb dX2_passUnit_16 (by decide) ?_
    refine lv_icmp_lt (tgt := 30) hx hb dX2_passUnit_18 rfl (fun c_10 => ?_) (fun c_10 => ?_)
    · have c_10 : (G.1 1 12).toInt < 90 := xI_lt rfl rfl c_10
      refine lv_aload_n hx hb dX2_passUnit_30 rfl (lv_at hl 0 rfl) ?_
      refine lv_dup hx hb dX2_passUnit_31 rfl ?_
      refine S_getI (v := (G.1 4 2)) (C := RX2) (T := TX2) (N := 3) hx hb hg iX2 hown hK hW kd_4 rfl 2 (lt_b rfl) (hg (Cond.fieldLink RX2 19 "SlabWalk$Formulas" "units" "I") m303) (fun _ h9 => h9) rfl rfl dX2_passUnit_32 ?_
      refine ic_1 hx hb dX2_passUnit_35 ?_
      refine lv_iadd hx hb dX2_passUnit_36 ?_
      refine lv_topi (fun y_11 ey_11 => ?_)
      have ty_11 : y_11.toInt = (G.1 4 2).toInt + 1 := xI_add rfl rfl ey_11 ((by first | exact ok_21 b_1.1 | omega)) ((by first | exact ok_384 b_1.2 | omega))
      refine S_putI (ty := .int) (C := RX2) (T := TX2) (N := 3) hx hb hg iX2 tyX2 tyX2_ok nmX2 hown hK hW hS kd_4 rfl 2 (lt_b rfl) (hg (Cond.fieldLink RX2 19 "SlabWalk$Formulas" "units" "I") m303) (fun _ h9 => h9) rfl (by decide +kernel) rfl rfl rfl dX2_passUnit_37 (fun G_12 H locs eG_12 hW hS => ?_)
      have hB_G_12 : Bd G_12 := hB_G.put (V := y_11.toInt) (lo := 0) (hi := 30) eG_12 rfl rfl rfl ((by first | exact ok_23 b_1.1 ty_11 | omega)) ((by first | exact ok_385 b_1.2 c_2 ty_11 | omega)) (hB_G.2.put eG_12 rfl)
      have hF := hF.put eG_12 (Or.inr (by decide))
      refine lv_aload_n hx hb dX2_passUnit_40 rfl (lv_at hl 0 rfl) ?_
      refine S_getV (n := 1) (C := RX2) (T := TX2) (N := 3) hx hb hg iX2 hown hK hW kd_4 rfl 1 (lt_b rfl) (hg (Cond.fieldLink RX2 15 "SlabWalk$Formulas" "paving" "LSlabWalk$Paving;") m302) (fun _ h9 => h9) rfl (((congrFun (congrFun (congrArg (fun q => q.2.2) eG_12) 4) 1)).trans (hv_4_1)) dX2_passUnit_41 ?_
      refine lv_dup hx hb dX2_passUnit_44 rfl ?_
      refine S_getI (v := (G.1 1 12)) (C := RX6) (T := TX6) (N := 17) hx hb hg iX6 hown hK hW kd_1 rfl 12 (lt_b rfl) (hg (Cond.fieldLink RX2 66 "SlabWalk$Paving" "units" "I") m197) (fun _ h9 => h9) rfl ((gp_ne eG_12 (by decide)).trans (rfl)) dX2_passUnit_45 ?_
      refine ic_1 hx hb dX2_passUnit_48 ?_
      refine lv_iadd hx hb dX2_passUnit_49 ?_
      refine lv_topi (fun y_13 ey_13 => ?_)
      have ty_13 : y_13.toInt = (G.1 1 12).toInt + 1 := xI_add rfl rfl ey_13 ((by first | exact ok_21 b_9.1 | omega)) ((by first | exact ok_386 b_9.2 | omega))
      refine S_putI (ty := .int) (C := RX6) (T := TX6) (N := 17) hx hb hg iX6 tyX6 tyX6_ok nmX6 hown hK hW hS kd_1 rfl 12 (lt_b rfl) (hg (Cond.fieldLink RX2 66 "SlabWalk$Paving" "units" "I") m197) (fun _ h9 => h9) rfl (by decide +kernel) rfl rfl rfl dX2_passUnit_50 (fun G_14 H locs eG_14 hW hS => ?_)
      have hB_G_14 : Bd G_14 := hB_G_12.put (V := y_13.toInt) (lo := 0) (hi := 90) eG_14 rfl rfl rfl ((by first | exact ok_23 b_9.1 ty_13 | omega)) ((by first | exact ok_387 b_9.2 c_10 ty_13 | omega)) (hB_G_12.2.put eG_14 rfl)
      have hF := hF.put eG_14 (Or.inr (by decide))
      refine lv_aload_n hx hb dX2_passUnit_53 rfl (lv_at hl 0 rfl) ?_
      refine S_getR (n := 3) (C := RX2) (T := TX2) (N := 3) hx hb hg iX2 hown hK hW kd_4 rfl 0 (lt_b rfl) (hg (Cond.fieldLink RX2 9 "SlabWalk$Formulas" "tokens" "LSlabWalk$Tokens;") m301) (fun _ h9 => h9) rfl dX2_passUnit_54 ?_
      refine S_getI (v := (G.1 3 3)) (C := RX9) (T := TX9) (N := 9) hx hb hg iX9 hown hK hW kd_3 rfl 3 (lt_b rfl) (hg (Cond.fieldLink RX2 30 "SlabWalk$Tokens" "kind" "I") m263) (fun _ h9 => h9) rfl ((gp_ne eG_14 (by decide)).trans (gp_ne eG_12 (by decide))) dX2_passUnit_57 ?_
      by_cases c_15 : (G.1 3 3) = 40
      · refine lv_lookup (tgt := 160) hx hb dX2_passUnit_60 (by decide) (off := 100) (by rw [c_15]; decide) (by decide) ?_
        have c_15 : (G.1 3 3).toInt = 40 := xI_eq rfl rfl c_15
        refine lv_aload_n hx hb dX2_passUnit_160 rfl (lv_at hl 0 rfl) ?_
        refine lv_iload_n hx hb dX2_passUnit_161 rfl (lv_at hl 1 rfl) ?_
        refine S_calli (va_runV (As := [.int p0]) (rest := []) ⟨hx, hb, hml, hown, hts⟩ (k_fBracket_1_s l D k A a z fn ln n E O hEb hOb hE hO G_14 p0 ⟨(by first | exact ha_p0.1 | omega), (by first | exact ha_p0.2 | omega)⟩ ((((congrFun (congrFun (congrArg (fun q => q.2.2) eG_14) 4) 1).trans (congrFun (congrFun (congrArg (fun q => q.2.2) eG_12) 4) 1))).trans (hv_4_1)) ((by first | exact hd | omega))) (cwV 1 hts (gd_V hgd m850 m852 m23 m121 m853) rfl rfl rfl hd_X2_passBracket ⟨show fn + 7 + 1 ≤ fn + 8 from sy_2 fn (Nat.le_of_ble_eq_true rfl), show 8 + (2 + 11) + (ln + 148) ≤ ln + 169 from sy_3 ln (Nat.le_of_ble_eq_true rfl)⟩) (pre_W hW hB_G_14 hK hZ hS kd_4 rfl) rfl rfl hl.1 rfl (lv_room (Nat.le_of_ble_eq_true rfl)) dX2_passUnit_162 ⟨Nat.le_of_ble_eq_true rfl, Nat.le_of_ble_eq_true rfl⟩) hS (fun r_16 G_17 H locs hpo hW hS => ?_)
        have hX_20 : P_fBracket_1_s E O p0 G_14 r_16 G_17 := hpo
        obtain ⟨hB_G_17, hq_18, f_21, -⟩ := hpo
        have hF := hF.call9 hq_18 rfl rfl
        exact W.zret (v := r_16) hx hb hr (nar_z ((by first | exact f_21.1 | omega)) ((by first | exact f_21.2 | omega))) (fun t ht _ => ⟨⟨r_16, G_17, rfl, (P_fUnit_1_s_mk ⟨hB_G_17, hF, ⟨(by first | exact f_21.1 | omega), (by first | exact f_21.2 | omega)⟩, (Or.inr ⟨c_2, (Or.inl ⟨c_10, ⟨y_11, ty_11, ⟨y_13, ty_13, (Or.inl ⟨c_15, ⟨G_14, hB_G_14, (Fr.put (rs := []) (fs := [(1, 12), (4, 2)]) (Fr.put (rs := []) (fs := [(1, 12), (4, 2)]) Fr.rf eG_12 (Or.inr (by decide))) eG_14 (Or.inr (by decide))), (gp_eq eG_14), ((gp_ne eG_14 (by decide)).trans (gp_eq eG_12)), ⟨r_16, G_17, hX_20, ⟨rfl, rfl⟩⟩⟩⟩)⟩⟩⟩)⟩)⟩), wd_t ht hW⟩, hS.F ht⟩) hS.2.2 dX2_passUnit_165
      by_cases c_22 : (G.1 3 3) = 139
      · refine lv_lookup (tgt := 191) hx hb dX2_passUnit_60 (by decide) (off := 131) (by rw [c_22]; decide) (by decide) ?_
        have c_22 : (G.1 3 3).toInt = 139 := xI_eq rfl rfl c_22
        refine lv_aload_n hx hb dX2_passUnit_191 rfl (lv_at hl 0 rfl) ?_
        refine S_getV (n := 1) (C := RX2) (T := TX2) (N := 3) hx hb hg iX2 hown hK hW kd_4 rfl 1 (lt_b rfl) (hg (Cond.fieldLink RX2 15 "SlabWalk$Formulas" "paving" "LSlabWalk$Paving;") m302) (fun _ h9 => h9) rfl ((((congrFun (congrFun (congrArg (fun q => q.2.2) eG_14) 4) 1).trans (congrFun (congrFun (congrArg (fun q => q.2.2) eG_12) 4) 1))).trans (hv_4_1)) dX2_passUnit_192 ?_
        refine lv_aload_n hx hb dX2_passUnit_195 rfl (lv_at hl 0 rfl) ?_
        refine S_getR (n := 3) (C := RX2) (T := TX2) (N := 3) hx hb hg iX2 hown hK hW kd_4 rfl 0 (lt_b rfl) (hg (Cond.fieldLink RX2 9 "SlabWalk$Formulas" "tokens" "LSlabWalk$Tokens;") m301) (fun _ h9 => h9) rfl dX2_passUnit_196 ?_
        refine S_getI (v := (G.1 3 3)) (C := RX9) (T := TX9) (N := 9) hx hb hg iX9 hown hK hW kd_3 rfl 3 (lt_b rfl) (hg (Cond.fieldLink RX2 30 "SlabWalk$Tokens" "kind" "I") m263) (fun _ h9 => h9) rfl ((gp_ne eG_14 (by decide)).trans ((gp_ne eG_12 (by decide)).trans (rfl))) dX2_passUnit_199 ?_
        refine ic_0 hx hb dX2_passUnit_202 ?_
        refine S_callv (va_runV (As := [.int (G.1 3 3), .int 0]) (rest := []) ⟨hx, hb, hml, hown, hts⟩ (k_emit_1 l D k A a z G_14 (G.1 3 3) 0 ) (cwV 2 hts (gd_V hgd m855 m856 m857 m118 m858) rfl rfl rfl hd_X6_emit ⟨show 0 + 1 ≤ fn + 8 from sy_1 fn (Nat.le_of_ble_eq_true rfl), show 8 + (3 + 11) + (0) ≤ ln + 169 from sy_1 ln (Nat.le_of_ble_eq_true rfl)⟩) (pre_W hW hB_G_14 hK hZ hS kd_1 rfl) rfl rfl hl.1 rfl (lv_room (Nat.le_of_ble_eq_true rfl)) dX2_passUnit_203 ⟨Nat.le_of_ble_eq_true rfl, Nat.le_of_ble_eq_true rfl⟩) hS (fun G_24 H locs hpo hW hS => ?_)
        have hX_27 : P_emit_1 (G.1 3 3) 0 G_14 G_24 := hpo
        obtain ⟨hB_G_24, hq_25, -⟩ := hpo
        have hF := hF.call9 hq_25 rfl rfl
        refine lv_aload_n hx hb dX2_passUnit_206 rfl (lv_at hl 0 rfl) ?_
        refine S_getR (n := 3) (C := RX2) (T := TX2) (N := 3) hx hb hg iX2 hown hK hW kd_4 rfl 0 (lt_b rfl) (hg (Cond.fieldLink RX2 9 "SlabWalk$Formulas" "tokens" "LSlabWalk$Tokens;") m301) (fun _ h9 => h9) rfl dX2_passUnit_207 ?_
        refine S_calli (va_runV (As := []) (rest := []) ⟨hx, hb, hml, hown, hts⟩ (k_tAdvance l D k A a z G_24  ) (cwV 0 hts (gd_V hgd m854 m639 m640 m120 m641) rfl rfl rfl hd_X9_advance ⟨show 6 + 1 ≤ fn + 8 from sy_1 fn (Nat.le_of_ble_eq_true rfl), show 8 + (2 + 11) + (127) ≤ ln + 169 from sy_1 ln (Nat.le_of_ble_eq_true rfl)⟩) (pre_W hW hB_G_24 hK hZ hS kd_3 rfl) rfl rfl hl.1 rfl (lv_room (Nat.le_of_ble_eq_true rfl)) dX2_passUnit_210 ⟨Nat.le_of_ble_eq_true rfl, Nat.le_of_ble_eq_true rfl⟩) hS (fun r_28 G_29 H locs hpo hW hS => ?_)
        have hX_32 : P_tAdvance G_24 r_28 G_29 := hpo
        obtain ⟨hB_G_29, hq_30, f_33, -⟩ := hpo
        have hF := hF.call9 hq_30 rfl rfl
        exact W.zret (v := r_28) hx hb hr (nar_z ((by first | exact ok_131 f_33.1 | omega)) ((by first | exact f_33.2 | omega))) (fun t ht _ => ⟨⟨r_28, G_29, rfl, (P_fUnit_1_s_mk ⟨hB_G_29, hF, ⟨(by first | exact ok_131 f_33.1 | omega), (by first | exact f_33.2 | omega)⟩, (Or.inr ⟨c_2, (Or.inl ⟨c_10, ⟨y_11, ty_11, ⟨y_13, ty_13, (Or.inr ⟨(xI_ne (Y := 40) rfl rfl c_15), (Or.inl ⟨c_22, ⟨G_14, hB_G_14, (Fr.put (rs := []) (fs := [(1, 12), (4, 2)]) (Fr.put (rs := []) (fs := [(1, 12), (4, 2)]) Fr.rf eG_12 (Or.inr (by decide))) eG_14 (Or.inr (by decide))), (gp_eq eG_14), ((gp_ne eG_14 (by decide)).trans (gp_eq eG_12)), ⟨G_24, hX_27, ⟨r_28, G_29, hX_32, ⟨rfl, rfl⟩⟩⟩⟩⟩)⟩)⟩⟩⟩)⟩)⟩), wd_t ht hW⟩, hS.F ht⟩) hS.2.2 dX2_passUnit_213
      by_cases c_34 : (G.1 3 3) = 140
      · refine lv_lookup (tgt := 191) hx hb dX2_passUnit_60 (by decide) (off := 131) (by rw [c_34]; decide) (by decide) ?_
        have c_34 : (G.1 3 3).toInt = 140 := xI_eq rfl rfl c_34
        refine lv_aload_n hx hb dX2_passUnit_191 rfl (lv_at hl 0 rfl) ?_
        refine S_getV (n := 1) (C := RX2) (T := TX2) (N := 3) hx hb hg iX2 hown hK hW kd_4 rfl 1 (lt_b rfl) (hg (Cond.fieldLink RX2 15 "SlabWalk$Formulas" "paving" "LSlabWalk$Paving;") m302) (fun _ h9 => h9) rfl ((((congrFun (congrFun (congrArg (fun q => q.2.2) eG_14) 4) 1).trans (congrFun (congrFun (congrArg (fun q => q.2.2) eG_12) 4) 1))).trans (hv_4_1)) dX2_passUnit_192 ?_
        refine lv_aload_n hx hb dX2_passUnit_195 rfl (lv_at hl 0 rfl) ?_
        refine S_getR (n := 3) (C := RX2) (T := TX2) (N := 3) hx hb hg iX2 hown hK hW kd_4 rfl 0 (lt_b rfl) (hg (Cond.fieldLink RX2 9 "SlabWalk$Formulas" "tokens" "LSlabWalk$Tokens;") m301) (fun _ h9 => h9) rfl dX2_passUnit_196 ?_
        refine S_getI (v := (G.1 3 3)) (C := RX9) (T := TX9) (N := 9) hx hb hg iX9 hown hK hW kd_3 rfl 3 (lt_b rfl) (hg (Cond.fieldLink RX2 30 "SlabWalk$Tokens" "kind" "I") m263) (fun _ h9 => h9) rfl ((gp_ne eG_14 (by decide)).trans ((gp_ne eG_12 (by decide)).trans (rfl))) dX2_passUnit_199 ?_
        refine ic_0 hx hb dX2_passUnit_202 ?_
        refine S_callv (va_runV (As := [.int (G.1 3 3), .int 0]) (rest := []) ⟨hx, hb, hml, hown, hts⟩ (k_emit_1 l D k A a z G_14 (G.1 3 3) 0 ) (cwV 2 hts (gd_V hgd m855 m856 m857 m118 m858) rfl rfl rfl hd_X6_emit ⟨show 0 + 1 ≤ fn + 8 from sy_1 fn (Nat.le_of_ble_eq_true rfl), show 8 + (3 + 11) + (0) ≤ ln + 169 from sy_1 ln (Nat.le_of_ble_eq_true rfl)⟩) (pre_W hW hB_G_14 hK hZ hS kd_1 rfl) rfl rfl hl.1 rfl (lv_room (Nat.le_of_ble_eq_true rfl)) dX2_passUnit_203 ⟨Nat.le_of_ble_eq_true rfl, Nat.le_of_ble_eq_true rfl⟩) hS (fun G_36 H locs hpo hW hS => ?_)
        have hX_39 : P_emit_1 (G.1 3 3) 0 G_14 G_36 := hpo
        obtain ⟨hB_G_36, hq_37, -⟩ := hpo
        have hF := hF.call9 hq_37 rfl rfl
        refine lv_aload_n hx hb dX2_passUnit_206 rfl (lv_at hl 0 rfl) ?_
        refine S_getR (n := 3) (C := RX2) (T := TX2) (N := 3) hx hb hg iX2 hown hK hW kd_4 rfl 0 (lt_b rfl) (hg (Cond.fieldLink RX2 9 "SlabWalk$Formulas" "tokens" "LSlabWalk$Tokens;") m301) (fun _ h9 => h9) rfl dX2_passUnit_207 ?_
        refine S_calli (va_runV (As := []) (rest := []) ⟨hx, hb, hml, hown, hts⟩ (k_tAdvance l D k A a z G_36  ) (cwV 0 hts (gd_V hgd m854 m639 m640 m120 m641) rfl rfl rfl hd_X9_advance ⟨show 6 + 1 ≤ fn + 8 from sy_1 fn (Nat.le_of_ble_eq_true rfl), show 8 + (2 + 11) + (127) ≤ ln + 169 from sy_1 ln (Nat.le_of_ble_eq_true rfl)⟩) (pre_W hW hB_G_36 hK hZ hS kd_3 rfl) rfl rfl hl.1 rfl (lv_room (Nat.le_of_ble_eq_true rfl)) dX2_passUnit_210 ⟨Nat.le_of_ble_eq_true rfl, Nat.le_of_ble_eq_true rfl⟩) hS (fun r_40 G_41 H locs hpo hW hS => ?_)
        have hX_44 : P_tAdvance G_36 r_40 G_41 := hpo
        obtain ⟨hB_G_41, hq_42, f_45, -⟩ := hpo
        have hF := hF.call9 hq_42 rfl rfl
        exact W.zret (v := r_40) hx hb hr (nar_z ((by first | exact ok_131 f_45.1 | omega)) ((by first | exact f_45.2 | omega))) (fun t ht _ => ⟨⟨r_40, G_41, rfl, (P_fUnit_1_s_mk ⟨hB_G_41, hF, ⟨(by first | exact ok_131 f_45.1 | omega), (by first | exact f_45.2 | omega)⟩, (Or.inr ⟨c_2, (Or.inl ⟨c_10, ⟨y_11, ty_11, ⟨y_13, ty_13, (Or.inr ⟨(xI_ne (Y := 40) rfl rfl c_15), (Or.inr ⟨(xI_ne (Y := 139) rfl rfl c_22), (Or.inl ⟨c_34, ⟨G_14, hB_G_14, (Fr.put (rs := []) (fs := [(1, 12), (4, 2)]) (Fr.put (rs := []) (fs := [(1, 12), (4, 2)]) Fr.rf eG_12 (Or.inr (by decide))) eG_14 (Or.inr (by decide))), (gp_eq eG_14), ((gp_ne eG_14 (by decide)).trans (gp_eq eG_12)), ⟨G_36, hX_39, ⟨r_40, G_41, hX_44, ⟨rfl, rfl⟩⟩⟩⟩⟩)⟩)⟩)⟩⟩⟩)⟩)⟩), wd_t ht hW⟩, hS.F ht⟩) hS.2.2 dX2_passUnit_213
      by_cases c_46 : (G.1 3 3) = 141
      · refine lv_lookup (tgt := 191) hx hb dX2_passUnit_60 (by decide) (off := 131) (by rw [c_46]; decide) (by decide) ?_
        have c_46 : (G.1 3 3).toInt = 141 := xI_eq rfl rfl c_46
        refine lv_aload_n hx hb dX2_passUnit_191 rfl (lv_at hl 0 rfl) ?_
        refine S_getV (n := 1) (C := RX2) (T := TX2) (N := 3) hx hb hg iX2 hown hK hW kd_4 rfl 1 (lt_b rfl) (hg (Cond.fieldLink RX2 15 "SlabWalk$Formulas" "paving" "LSlabWalk$Paving;") m302) (fun _ h9 => h9) rfl ((((congrFun (congrFun (congrArg (fun q => q.2.2) eG_14) 4) 1).trans (congrFun (congrFun (congrArg (fun q => q.2.2) eG_12) 4) 1))).trans (hv_4_1)) dX2_passUnit_192 ?_
        refine lv_aload_n hx hb dX2_passUnit_195 rfl (lv_at hl 0 rfl) ?_
        refine S_getR (n := 3) (C := RX2) (T := TX2) (N := 3) hx hb hg iX2 hown hK hW kd_4 rfl 0 (lt_b rfl) (hg (Cond.fieldLink RX2 9 "SlabWalk$Formulas" "tokens" "LSlabWalk$Tokens;") m301) (fun _ h9 => h9) rfl dX2_passUnit_196 ?_
        refine S_getI (v := (G.1 3 3)) (C := RX9) (T := TX9) (N := 9) hx hb hg iX9 hown hK hW kd_3 rfl 3 (lt_b rfl) (hg (Cond.fieldLink RX2 30 "SlabWalk$Tokens" "kind" "I") m263) (fun _ h9 => h9) rfl ((gp_ne eG_14 (by decide)).trans ((gp_ne eG_12 (by decide)).trans (rfl))) dX2_passUnit_199 ?_
        refine ic_0 hx hb dX2_passUnit_202 ?_
        refine S_callv (va_runV (As := [.int (G.1 3 3), .int 0]) (rest := []) ⟨hx, hb, hml, hown, hts⟩ (k_emit_1 l D k A a z G_14 (G.1 3 3) 0 ) (cwV 2 hts (gd_V hgd m855 m856 m857 m118 m858) rfl rfl rfl hd_X6_emit ⟨show 0 + 1 ≤ fn + 8 from sy_1 fn (Nat.le_of_ble_eq_true rfl), show 8 + (3 + 11) + (0) ≤ ln + 169 from sy_1 ln (Nat.le_of_ble_eq_true rfl)⟩) (pre_W hW hB_G_14 hK hZ hS kd_1 rfl) rfl rfl hl.1 rfl (lv_room (Nat.le_of_ble_eq_true rfl)) dX2_passUnit_203 ⟨Nat.le_of_ble_eq_true rfl, Nat.le_of_ble_eq_true rfl⟩) hS (fun G_48 H locs hpo hW hS => ?_)
        have hX_51 : P_emit_1 (G.1 3 3) 0 G_14 G_48 := hpo
        obtain ⟨hB_G_48, hq_49, -⟩ := hpo
        have hF := hF.call9 hq_49 rfl rfl
        refine lv_aload_n hx hb dX2_passUnit_206 rfl (lv_at hl 0 rfl) ?_
        refine S_getR (n := 3) (C := RX2) (T := TX2) (N := 3) hx hb hg iX2 hown hK hW kd_4 rfl 0 (lt_b rfl) (hg (Cond.fieldLink RX2 9 "SlabWalk$Formulas" "tokens" "LSlabWalk$Tokens;") m301) (fun _ h9 => h9) rfl dX2_passUnit_207 ?_
        refine S_calli (va_runV (As := []) (rest := []) ⟨hx, hb, hml, hown, hts⟩ (k_tAdvance l D k A a z G_48  ) (cwV 0 hts (gd_V hgd m854 m639 m640 m120 m641) rfl rfl rfl hd_X9_advance ⟨show 6 + 1 ≤ fn + 8 from sy_1 fn (Nat.le_of_ble_eq_true rfl), show 8 + (2 + 11) + (127) ≤ ln + 169 from sy_1 ln (Nat.le_of_ble_eq_true rfl)⟩) (pre_W hW hB_G_48 hK hZ hS kd_3 rfl) rfl rfl hl.1 rfl (lv_room (Nat.le_of_ble_eq_true rfl)) dX2_passUnit_210 ⟨Nat.le_of_ble_eq_true rfl, Nat.le_of_ble_eq_true rfl⟩) hS (fun r_52 G_53 H locs hpo hW hS => ?_)
        have hX_56 : P_tAdvance G_48 r_52 G_53 := hpo
        obtain ⟨hB_G_53, hq_54, f_57, -⟩ := hpo
        have hF := hF.call9 hq_54 rfl rfl
        exact W.zret (v := r_52) hx hb hr (nar_z ((by first | exact ok_131 f_57.1 | omega)) ((by first | exact f_57.2 | omega))) (fun t ht _ => ⟨⟨r_52, G_53, rfl, (P_fUnit_1_s_mk ⟨hB_G_53, hF, ⟨(by first | exact ok_131 f_57.1 | omega), (by first | exact f_57.2 | omega)⟩, (Or.inr ⟨c_2, (Or.inl ⟨c_10, ⟨y_11, ty_11, ⟨y_13, ty_13, (Or.inr ⟨(xI_ne (Y := 40) rfl rfl c_15), (Or.inr ⟨(xI_ne (Y := 139) rfl rfl c_22), (Or.inr ⟨(xI_ne (Y := 140) rfl rfl c_34), (Or.inl ⟨c_46, ⟨G_14, hB_G_14, (Fr.put (rs := []) (fs := [(1, 12), (4, 2)]) (Fr.put (rs := []) (fs := [(1, 12), (4, 2)]) Fr.rf eG_12 (Or.inr (by decide))) eG_14 (Or.inr (by decide))), (gp_eq eG_14), ((gp_ne eG_14 (by decide)).trans (gp_eq eG_12)), ⟨G_48, hX_51, ⟨r_52, G_53, hX_56, ⟨rfl, rfl⟩⟩⟩⟩⟩)⟩)⟩)⟩)⟩⟩⟩)⟩)⟩), wd_t ht hW⟩, hS.F ht⟩) hS.2.2 dX2_passUnit_213
      by_cases c_58 : (G.1 3 3) = 142
      · refine lv_lookup (tgt := 191) hx hb dX2_passUnit_60 (by decide) (off := 131) (by rw [c_58]; decide) (by decide) ?_
        have c_58 : (G.1 3 3).toInt = 142 := xI_eq rfl rfl c_58
        refine lv_aload_n hx hb dX2_passUnit_191 rfl (lv_at hl 0 rfl) ?_
        refine S_getV (n := 1) (C := RX2) (T := TX2) (N := 3) hx hb hg iX2 hown hK hW kd_4 rfl 1 (lt_b rfl) (hg (Cond.fieldLink RX2 15 "SlabWalk$Formulas" "paving" "LSlabWalk$Paving;") m302) (fun _ h9 => h9) rfl ((((congrFun (congrFun (congrArg (fun q => q.2.2) eG_14) 4) 1).trans (congrFun (congrFun (congrArg (fun q => q.2.2) eG_12) 4) 1))).trans (hv_4_1)) dX2_passUnit_192 ?_
        refine lv_aload_n hx hb dX2_passUnit_195 rfl (lv_at hl 0 rfl) ?_
        refine S_getR (n := 3) (C := RX2) (T := TX2) (N := 3) hx hb hg iX2 hown hK hW kd_4 rfl 0 (lt_b rfl) (hg (Cond.fieldLink RX2 9 "SlabWalk$Formulas" "tokens" "LSlabWalk$Tokens;") m301) (fun _ h9 => h9) rfl dX2_passUnit_196 ?_
        refine S_getI (v := (G.1 3 3)) (C := RX9) (T := TX9) (N := 9) hx hb hg iX9 hown hK hW kd_3 rfl 3 (lt_b rfl) (hg (Cond.fieldLink RX2 30 "SlabWalk$Tokens" "kind" "I") m263) (fun _ h9 => h9) rfl ((gp_ne eG_14 (by decide)).trans ((gp_ne eG_12 (by decide)).trans (rfl))) dX2_passUnit_199 ?_
        refine ic_0 hx hb dX2_passUnit_202 ?_
        refine S_callv (va_runV (As := [.int (G.1 3 3), .int 0]) (rest := []) ⟨hx, hb, hml, hown, hts⟩ (k_emit_1 l D k A a z G_14 (G.1 3 3) 0 ) (cwV 2 hts (gd_V hgd m855 m856 m857 m118 m858) rfl rfl rfl hd_X6_emit ⟨show 0 + 1 ≤ fn + 8 from sy_1 fn (Nat.le_of_ble_eq_true rfl), show 8 + (3 + 11) + (0) ≤ ln + 169 from sy_1 ln (Nat.le_of_ble_eq_true rfl)⟩) (pre_W hW hB_G_14 hK hZ hS kd_1 rfl) rfl rfl hl.1 rfl (lv_room (Nat.le_of_ble_eq_true rfl)) dX2_passUnit_203 ⟨Nat.le_of_ble_eq_true rfl, Nat.le_of_ble_eq_true rfl⟩) hS (fun G_60 H locs hpo hW hS => ?_)
        have hX_63 : P_emit_1 (G.1 3 3) 0 G_14 G_60 := hpo
        obtain ⟨hB_G_60, hq_61, -⟩ := hpo
        have hF := hF.call9 hq_61 rfl rfl
        refine lv_aload_n hx hb dX2_passUnit_206 rfl (lv_at hl 0 rfl) ?_
        refine S_getR (n := 3) (C := RX2) (T := TX2) (N := 3) hx hb hg iX2 hown hK hW kd_4 rfl 0 (lt_b rfl) (hg (Cond.fieldLink RX2 9 "SlabWalk$Formulas" "tokens" "LSlabWalk$Tokens;") m301) (fun _ h9 => h9) rfl dX2_passUnit_207 ?_
        refine S_calli (va_runV (As := []) (rest := []) ⟨hx, hb, hml, hown, hts⟩ (k_tAdvance l D k A a z G_60  ) (cwV 0 hts (gd_V hgd m854 m639 m640 m120 m641) rfl rfl rfl hd_X9_advance ⟨show 6 + 1 ≤ fn + 8 from sy_1 fn (Nat.le_of_ble_eq_true rfl), show 8 + (2 + 11) + (127) ≤ ln + 169 from sy_1 ln (Nat.le_of_ble_eq_true rfl)⟩) (pre_W hW hB_G_60 hK hZ hS kd_3 rfl) rfl rfl hl.1 rfl (lv_room (Nat.le_of_ble_eq_true rfl)) dX2_passUnit_210 ⟨Nat.le_of_ble_eq_true rfl, Nat.le_of_ble_eq_true rfl⟩) hS (fun r_64 G_65 H locs hpo hW hS => ?_)
        have hX_68 : P_tAdvance G_60 r_64 G_65 := hpo
        obtain ⟨hB_G_65, hq_66, f_69, -⟩ := hpo
        have hF := hF.call9 hq_66 rfl rfl
        exact W.zret (v := r_64) hx hb hr (nar_z ((by first | exact ok_131 f_69.1 | omega)) ((by first | exact f_69.2 | omega))) (fun t ht _ => ⟨⟨r_64, G_65, rfl, (P_fUnit_1_s_mk ⟨hB_G_65, hF, ⟨(by first | exact ok_131 f_69.1 | omega), (by first | exact f_69.2 | omega)⟩, (Or.inr ⟨c_2, (Or.inl ⟨c_10, ⟨y_11, ty_11, ⟨y_13, ty_13, (Or.inr ⟨(xI_ne (Y := 40) rfl rfl c_15), (Or.inr ⟨(xI_ne (Y := 139) rfl rfl c_22), (Or.inr ⟨(xI_ne (Y := 140) rfl rfl c_34), (Or.inr ⟨(xI_ne (Y := 141) rfl rfl c_46), (Or.inl ⟨c_58, ⟨G_14, hB_G_14, (Fr.put (rs := []) (fs := [(1, 12), (4, 2)]) (Fr.put (rs := []) (fs := [(1, 12), (4, 2)]) Fr.rf eG_12 (Or.inr (by decide))) eG_14 (Or.inr (by decide))), (gp_eq eG_14), ((gp_ne eG_14 (by decide)).trans (gp_eq eG_12)), ⟨G_60, hX_63, ⟨r_64, G_65, hX_68, ⟨rfl, rfl⟩⟩⟩⟩⟩)⟩)⟩)⟩)⟩)⟩⟩⟩)⟩)⟩), wd_t ht hW⟩, hS.F ht⟩) hS.2.2 dX2_passUnit_213
      by_cases c_70 : (G.1 3 3) = 143
      · refine lv_lookup (tgt := 191) hx hb dX2_passUnit_60 (by decide) (off := 131) (by rw [c_70]; decide) (by decide) ?_
        have c_70 : (G.1 3 3).toInt = 143 := xI_eq rfl rfl c_70
        refine lv_aload_n hx hb dX2_passUnit_191 rfl (lv_at hl 0 rfl) ?_
        refine S_getV (n := 1) (C := RX2) (T := TX2) (N := 3) hx hb hg iX2 hown hK hW kd_4 rfl 1 (lt_b rfl) (hg (Cond.fieldLink RX2 15 "SlabWalk$Formulas" "paving" "LSlabWalk$Paving;") m302) (fun _ h9 => h9) rfl ((((congrFun (congrFun (congrArg (fun q => q.2.2) eG_14) 4) 1).trans (congrFun (congrFun (congrArg (fun q => q.2.2) eG_12) 4) 1))).trans (hv_4_1)) dX2_passUnit_192 ?_
        refine lv_aload_n hx hb dX2_passUnit_195 rfl (lv_at hl 0 rfl) ?_
        refine S_getR (n := 3) (C := RX2) (T := TX2) (N := 3) hx hb hg iX2 hown hK hW kd_4 rfl 0 (lt_b rfl) (hg (Cond.fieldLink RX2 9 "SlabWalk$Formulas" "tokens" "LSlabWalk$Tokens;") m301) (fun _ h9 => h9) rfl dX2_passUnit_196 ?_
        refine S_getI (v := (G.1 3 3)) (C := RX9) (T := TX9) (N := 9) hx hb hg iX9 hown hK hW kd_3 rfl 3 (lt_b rfl) (hg (Cond.fieldLink RX2 30 "SlabWalk$Tokens" "kind" "I") m263) (fun _ h9 => h9) rfl ((gp_ne eG_14 (by decide)).trans ((gp_ne eG_12 (by decide)).trans (rfl))) dX2_passUnit_199 ?_
        refine ic_0 hx hb dX2_passUnit_202 ?_
        refine S_callv (va_runV (As := [.int (G.1 3 3), .int 0]) (rest := []) ⟨hx, hb, hml, hown, hts⟩ (k_emit_1 l D k A a z G_14 (G.1 3 3) 0 ) (cwV 2 hts (gd_V hgd m855 m856 m857 m118 m858) rfl rfl rfl hd_X6_emit ⟨show 0 + 1 ≤ fn + 8 from sy_1 fn (Nat.le_of_ble_eq_true rfl), show 8 + (3 + 11) + (0) ≤ ln + 169 from sy_1 ln (Nat.le_of_ble_eq_true rfl)⟩) (pre_W hW hB_G_14 hK hZ hS kd_1 rfl) rfl rfl hl.1 rfl (lv_room (Nat.le_of_ble_eq_true rfl)) dX2_passUnit_203 ⟨Nat.le_of_ble_eq_true rfl, Nat.le_of_ble_eq_true rfl⟩) hS (fun G_72 H locs hpo hW hS => ?_)
        have hX_75 : P_emit_1 (G.1 3 3) 0 G_14 G_72 := hpo
        obtain ⟨hB_G_72, hq_73, -⟩ := hpo
        have hF := hF.call9 hq_73 rfl rfl
        refine lv_aload_n hx hb dX2_passUnit_206 rfl (lv_at hl 0 rfl) ?_
        refine S_getR (n := 3) (C := RX2) (T := TX2) (N := 3) hx hb hg iX2 hown hK hW kd_4 rfl 0 (lt_b rfl) (hg (Cond.fieldLink RX2 9 "SlabWalk$Formulas" "tokens" "LSlabWalk$Tokens;") m301) (fun _ h9 => h9) rfl dX2_passUnit_207 ?_
        refine S_calli (va_runV (As := []) (rest := []) ⟨hx, hb, hml, hown, hts⟩ (k_tAdvance l D k A a z G_72  ) (cwV 0 hts (gd_V hgd m854 m639 m640 m120 m641) rfl rfl rfl hd_X9_advance ⟨show 6 + 1 ≤ fn + 8 from sy_1 fn (Nat.le_of_ble_eq_true rfl), show 8 + (2 + 11) + (127) ≤ ln + 169 from sy_1 ln (Nat.le_of_ble_eq_true rfl)⟩) (pre_W hW hB_G_72 hK hZ hS kd_3 rfl) rfl rfl hl.1 rfl (lv_room (Nat.le_of_ble_eq_true rfl)) dX2_passUnit_210 ⟨Nat.le_of_ble_eq_true rfl, Nat.le_of_ble_eq_true rfl⟩) hS (fun r_76 G_77 H locs hpo hW hS => ?_)
        have hX_80 : P_tAdvance G_72 r_76 G_77 := hpo
        obtain ⟨hB_G_77, hq_78, f_81, -⟩ := hpo
        have hF := hF.call9 hq_78 rfl rfl
        exact W.zret (v := r_76) hx hb hr (nar_z ((by first | exact ok_131 f_81.1 | omega)) ((by first | exact f_81.2 | omega))) (fun t ht _ => ⟨⟨r_76, G_77, rfl, (P_fUnit_1_s_mk ⟨hB_G_77, hF, ⟨(by first | exact ok_131 f_81.1 | omega), (by first | exact f_81.2 | omega)⟩, (Or.inr ⟨c_2, (Or.inl ⟨c_10, ⟨y_11, ty_11, ⟨y_13, ty_13, (Or.inr ⟨(xI_ne (Y := 40) rfl rfl c_15), (Or.inr ⟨(xI_ne (Y := 139) rfl rfl c_22), (Or.inr ⟨(xI_ne (Y := 140) rfl rfl c_34), (Or.inr ⟨(xI_ne (Y := 141) rfl rfl c_46), (Or.inr ⟨(xI_ne (Y := 142) rfl rfl c_58), (Or.inl ⟨c_70, ⟨G_14, hB_G_14, (Fr.put (rs := []) (fs := [(1, 12), (4, 2)]) (Fr.put (rs := []) (fs := [(1, 12), (4, 2)]) Fr.rf eG_12 (Or.inr (by decide))) eG_14 (Or.inr (by decide))), (gp_eq eG_14), ((gp_ne eG_14 (by decide)).trans (gp_eq eG_12)), ⟨G_72, hX_75, ⟨r_76, G_77, hX_80, ⟨rfl, rfl⟩⟩⟩⟩⟩)⟩)⟩)⟩)⟩)⟩)⟩⟩⟩)⟩)⟩), wd_t ht hW⟩, hS.F ht⟩) hS.2.2 dX2_passUnit_213
      by_cases c_82 : (G.1 3 3) = 147
      · refine lv_lookup (tgt := 191) hx hb dX2_passUnit_60 (by decide) (off := 131) (by rw [c_82]; decide) (by decide) ?_
        have c_82 : (G.1 3 3).toInt = 147 := xI_eq rfl rfl c_82
        refine lv_aload_n hx hb dX2_passUnit_191 rfl (lv_at hl 0 rfl) ?_
        refine S_getV (n := 1) (C := RX2) (T := TX2) (N := 3) hx hb hg iX2 hown hK hW kd_4 rfl 1 (lt_b rfl) (hg (Cond.fieldLink RX2 15 "SlabWalk$Formulas" "paving" "LSlabWalk$Paving;") m302) (fun _ h9 => h9) rfl ((((congrFun (congrFun (congrArg (fun q => q.2.2) eG_14) 4) 1).trans (congrFun (congrFun (congrArg (fun q => q.2.2) eG_12) 4) 1))).trans (hv_4_1)) dX2_passUnit_192 ?_
        refine lv_aload_n hx hb dX2_passUnit_195 rfl (lv_at hl 0 rfl) ?_
        refine S_getR (n := 3) (C := RX2) (T := TX2) (N := 3) hx hb hg iX2 hown hK hW kd_4 rfl 0 (lt_b rfl) (hg (Cond.fieldLink RX2 9 "SlabWalk$Formulas" "tokens" "LSlabWalk$Tokens;") m301) (fun _ h9 => h9) rfl dX2_passUnit_196 ?_
        refine S_getI (v := (G.1 3 3)) (C := RX9) (T := TX9) (N := 9) hx hb hg iX9 hown hK hW kd_3 rfl 3 (lt_b rfl) (hg (Cond.fieldLink RX2 30 "SlabWalk$Tokens" "kind" "I") m263) (fun _ h9 => h9) rfl ((gp_ne eG_14 (by decide)).trans ((gp_ne eG_12 (by decide)).trans (rfl))) dX2_passUnit_199 ?_
        refine ic_0 hx hb dX2_passUnit_202 ?_
        refine S_callv (va_runV (As := [.int (G.1 3 3), .int 0]) (rest := []) ⟨hx, hb, hml, hown, hts⟩ (k_emit_1 l D k A a z G_14 (G.1 3 3) 0 ) (cwV 2 hts (gd_V hgd m855 m856 m857 m118 m858) rfl rfl rfl hd_X6_emit ⟨show 0 + 1 ≤ fn + 8 from sy_1 fn (Nat.le_of_ble_eq_true rfl), show 8 + (3 + 11) + (0) ≤ ln + 169 from sy_1 ln (Nat.le_of_ble_eq_true rfl)⟩) (pre_W hW hB_G_14 hK hZ hS kd_1 rfl) rfl rfl hl.1 rfl (lv_room (Nat.le_of_ble_eq_true rfl)) dX2_passUnit_203 ⟨Nat.le_of_ble_eq_true rfl, Nat.le_of_ble_eq_true rfl⟩) hS (fun G_84 H locs hpo hW hS => ?_)
        have hX_87 : P_emit_1 (G.1 3 3) 0 G_14 G_84 := hpo
        obtain ⟨hB_G_84, hq_85, -⟩ := hpo
        have hF := hF.call9 hq_85 rfl rfl
        refine lv_aload_n hx hb dX2_passUnit_206 rfl (lv_at hl 0 rfl) ?_
        refine S_getR (n := 3) (C := RX2) (T := TX2) (N := 3) hx hb hg iX2 hown hK hW kd_4 rfl 0 (lt_b rfl) (hg (Cond.fieldLink RX2 9 "SlabWalk$Formulas" "tokens" "LSlabWalk$Tokens;") m301) (fun _ h9 => h9) rfl dX2_passUnit_207 ?_
        refine S_calli (va_runV (As := []) (rest := []) ⟨hx, hb, hml, hown, hts⟩ (k_tAdvance l D k A a z G_84  ) (cwV 0 hts (gd_V hgd m854 m639 m640 m120 m641) rfl rfl rfl hd_X9_advance ⟨show 6 + 1 ≤ fn + 8 from sy_1 fn (Nat.le_of_ble_eq_true rfl), show 8 + (2 + 11) + (127) ≤ ln + 169 from sy_1 ln (Nat.le_of_ble_eq_true rfl)⟩) (pre_W hW hB_G_84 hK hZ hS kd_3 rfl) rfl rfl hl.1 rfl (lv_room (Nat.le_of_ble_eq_true rfl)) dX2_passUnit_210 ⟨Nat.le_of_ble_eq_true rfl, Nat.le_of_ble_eq_true rfl⟩) hS (fun r_88 G_89 H locs hpo hW hS => ?_)
        have hX_92 : P_tAdvance G_84 r_88 G_89 := hpo
        obtain ⟨hB_G_89, hq_90, f_93, -⟩ := hpo
        have hF := hF.call9 hq_90 rfl rfl
        exact W.zret (v := r_88) hx hb hr (nar_z ((by first | exact ok_131 f_93.1 | omega)) ((by first | exact f_93.2 | omega))) (fun t ht _ => ⟨⟨r_88, G_89, rfl, (P_fUnit_1_s_mk ⟨hB_G_89, hF, ⟨(by first | exact ok_131 f_93.1 | omega), (by first | exact f_93.2 | omega)⟩, (Or.inr ⟨c_2, (Or.inl ⟨c_10, ⟨y_11, ty_11, ⟨y_13, ty_13, (Or.inr ⟨(xI_ne (Y := 40) rfl rfl c_15), (Or.inr ⟨(xI_ne (Y := 139) rfl rfl c_22), (Or.inr ⟨(xI_ne (Y := 140) rfl rfl c_34), (Or.inr ⟨(xI_ne (Y := 141) rfl rfl c_46), (Or.inr ⟨(xI_ne (Y := 142) rfl rfl c_58), (Or.inr ⟨(xI_ne (Y := 143) rfl rfl c_70), (Or.inl ⟨c_82, ⟨G_14, hB_G_14, (Fr.put (rs := []) (fs := [(1, 12), (4, 2)]) (Fr.put (rs := []) (fs := [(1, 12), (4, 2)]) Fr.rf eG_12 (Or.inr (by decide))) eG_14 (Or.inr (by decide))), (gp_eq eG_14), ((gp_ne eG_14 (by decide)).trans (gp_eq eG_12)), ⟨G_84, hX_87, ⟨r_88, G_89, hX_92, ⟨rfl, rfl⟩⟩⟩⟩⟩)⟩)⟩)⟩)⟩)⟩)⟩)⟩⟩⟩)⟩)⟩), wd_t ht hW⟩, hS.F ht⟩) hS.2.2 dX2_passUnit_213
      by_cases c_94 : (G.1 3 3) = 148
      · refine lv_lookup (tgt := 191) hx hb dX2_passUnit_60 (by decide) (off := 131) (by rw [c_94]; decide) (by decide) ?_
        have c_94 : (G.1 3 3).toInt = 148 := xI_eq rfl rfl c_94
        refine lv_aload_n hx hb dX2_passUnit_191 rfl (lv_at hl 0 rfl) ?_
        refine S_getV (n := 1) (C := RX2) (T := TX2) (N := 3) hx hb hg iX2 hown hK hW kd_4 rfl 1 (lt_b rfl) (hg (Cond.fieldLink RX2 15 "SlabWalk$Formulas" "paving" "LSlabWalk$Paving;") m302) (fun _ h9 => h9) rfl ((((congrFun (congrFun (congrArg (fun q => q.2.2) eG_14) 4) 1).trans (congrFun (congrFun (congrArg (fun q => q.2.2) eG_12) 4) 1))).trans (hv_4_1)) dX2_passUnit_192 ?_
        refine lv_aload_n hx hb dX2_passUnit_195 rfl (lv_at hl 0 rfl) ?_
        refine S_getR (n := 3) (C := RX2) (T := TX2) (N := 3) hx hb hg iX2 hown hK hW kd_4 rfl 0 (lt_b rfl) (hg (Cond.fieldLink RX2 9 "SlabWalk$Formulas" "tokens" "LSlabWalk$Tokens;") m301) (fun _ h9 => h9) rfl dX2_passUnit_196 ?_
        refine S_getI (v := (G.1 3 3)) (C := RX9) (T := TX9) (N := 9) hx hb hg iX9 hown hK hW kd_3 rfl 3 (lt_b rfl) (hg (Cond.fieldLink RX2 30 "SlabWalk$Tokens" "kind" "I") m263) (fun _ h9 => h9) rfl ((gp_ne eG_14 (by decide)).trans ((gp_ne eG_12 (by decide)).trans (rfl))) dX2_passUnit_199 ?_
        refine ic_0 hx hb dX2_passUnit_202 ?_
        refine S_callv (va_runV (As := [.int (G.1 3 3), .int 0]) (rest := []) ⟨hx, hb, hml, hown, hts⟩ (k_emit_1 l D k A a z G_14 (G.1 3 3) 0 ) (cwV 2 hts (gd_V hgd m855 m856 m857 m118 m858) rfl rfl rfl hd_X6_emit ⟨show 0 + 1 ≤ fn + 8 from sy_1 fn (Nat.le_of_ble_eq_true rfl), show 8 + (3 + 11) + (0) ≤ ln + 169 from sy_1 ln (Nat.le_of_ble_eq_true rfl)⟩) (pre_W hW hB_G_14 hK hZ hS kd_1 rfl) rfl rfl hl.1 rfl (lv_room (Nat.le_of_ble_eq_true rfl)) dX2_passUnit_203 ⟨Nat.le_of_ble_eq_true rfl, Nat.le_of_ble_eq_true rfl⟩) hS (fun G_96 H locs hpo hW hS => ?_)
        have hX_99 : P_emit_1 (G.1 3 3) 0 G_14 G_96 := hpo
        obtain ⟨hB_G_96, hq_97, -⟩ := hpo
        have hF := hF.call9 hq_97 rfl rfl
        refine lv_aload_n hx hb dX2_passUnit_206 rfl (lv_at hl 0 rfl) ?_
        refine S_getR (n := 3) (C := RX2) (T := TX2) (N := 3) hx hb hg iX2 hown hK hW kd_4 rfl 0 (lt_b rfl) (hg (Cond.fieldLink RX2 9 "SlabWalk$Formulas" "tokens" "LSlabWalk$Tokens;") m301) (fun _ h9 => h9) rfl dX2_passUnit_207 ?_
        refine S_calli (va_runV (As := []) (rest := []) ⟨hx, hb, hml, hown, hts⟩ (k_tAdvance l D k A a z G_96  ) (cwV 0 hts (gd_V hgd m854 m639 m640 m120 m641) rfl rfl rfl hd_X9_advance ⟨show 6 + 1 ≤ fn + 8 from sy_1 fn (Nat.le_of_ble_eq_true rfl), show 8 + (2 + 11) + (127) ≤ ln + 169 from sy_1 ln (Nat.le_of_ble_eq_true rfl)⟩) (pre_W hW hB_G_96 hK hZ hS kd_3 rfl) rfl rfl hl.1 rfl (lv_room (Nat.le_of_ble_eq_true rfl)) dX2_passUnit_210 ⟨Nat.le_of_ble_eq_true rfl, Nat.le_of_ble_eq_true rfl⟩) hS (fun r_100 G_101 H locs hpo hW hS => ?_)
        have hX_104 : P_tAdvance G_96 r_100 G_101 := hpo
        obtain ⟨hB_G_101, hq_102, f_105, -⟩ := hpo
        have hF := hF.call9 hq_102 rfl rfl
        exact W.zret (v := r_100) hx hb hr (nar_z ((by first | exact ok_131 f_105.1 | omega)) ((by first | exact f_105.2 | omega))) (fun t ht _ => ⟨⟨r_100, G_101, rfl, (P_fUnit_1_s_mk ⟨hB_G_101, hF, ⟨(by first | exact ok_131 f_105.1 | omega), (by first | exact f_105.2 | omega)⟩, (Or.inr ⟨c_2, (Or.inl ⟨c_10, ⟨y_11, ty_11, ⟨y_13, ty_13, (Or.inr ⟨(xI_ne (Y := 40) rfl rfl c_15), (Or.inr ⟨(xI_ne (Y := 139) rfl rfl c_22), (Or.inr ⟨(xI_ne (Y := 140) rfl rfl c_34), (Or.inr ⟨(xI_ne (Y := 141) rfl rfl c_46), (Or.inr ⟨(xI_ne (Y := 142) rfl rfl c_58), (Or.inr ⟨(xI_ne (Y := 143) rfl rfl c_70), (Or.inr ⟨(xI_ne (Y := 147) rfl rfl c_82), (Or.inl ⟨c_94, ⟨G_14, hB_G_14, (Fr.put (rs := []) (fs := [(1, 12), (4, 2)]) (Fr.put (rs := []) (fs := [(1, 12), (4, 2)]) Fr.rf eG_12 (Or.inr (by decide))) eG_14 (Or.inr (by decide))), (gp_eq eG_14), ((gp_ne eG_14 (by decide)).trans (gp_eq eG_12)), ⟨G_96, hX_99, ⟨r_100, G_101, hX_104, ⟨rfl, rfl⟩⟩⟩⟩⟩)⟩)⟩)⟩)⟩)⟩)⟩)⟩)⟩⟩⟩)⟩)⟩), wd_t ht hW⟩, hS.F ht⟩) hS.2.2 dX2_passUnit_213
      by_cases c_106 : (G.1 3 3) = 149
      · refine lv_lookup (tgt := 191) hx hb dX2_passUnit_60 (by decide) (off := 131) (by rw [c_106]; decide) (by decide) ?_
        have c_106 : (G.1 3 3).toInt = 149 := xI_eq rfl rfl c_106
        refine lv_aload_n hx hb dX2_passUnit_191 rfl (lv_at hl 0 rfl) ?_
        refine S_getV (n := 1) (C := RX2) (T := TX2) (N := 3) hx hb hg iX2 hown hK hW kd_4 rfl 1 (lt_b rfl) (hg (Cond.fieldLink RX2 15 "SlabWalk$Formulas" "paving" "LSlabWalk$Paving;") m302) (fun _ h9 => h9) rfl ((((congrFun (congrFun (congrArg (fun q => q.2.2) eG_14) 4) 1).trans (congrFun (congrFun (congrArg (fun q => q.2.2) eG_12) 4) 1))).trans (hv_4_1)) dX2_passUnit_192 ?_
        refine lv_aload_n hx hb dX2_passUnit_195 rfl (lv_at hl 0 rfl) ?_
        refine S_getR (n := 3) (C := RX2) (T := TX2) (N := 3) hx hb hg iX2 hown hK hW kd_4 rfl 0 (lt_b rfl) (hg (Cond.fieldLink RX2 9 "SlabWalk$Formulas" "tokens" "LSlabWalk$Tokens;") m301) (fun _ h9 => h9) rfl dX2_passUnit_196 ?_
        refine S_getI (v := (G.1 3 3)) (C := RX9) (T := TX9) (N := 9) hx hb hg iX9 hown hK hW kd_3 rfl 3 (lt_b rfl) (hg (Cond.fieldLink RX2 30 "SlabWalk$Tokens" "kind" "I") m263) (fun _ h9 => h9) rfl ((gp_ne eG_14 (by decide)).trans ((gp_ne eG_12 (by decide)).trans (rfl))) dX2_passUnit_199 ?_
        refine ic_0 hx hb dX2_passUnit_202 ?_
        refine S_callv (va_runV (As := [.int (G.1 3 3), .int 0]) (rest := []) ⟨hx, hb, hml, hown, hts⟩ (k_emit_1 l D k A a z G_14 (G.1 3 3) 0 ) (cwV 2 hts (gd_V hgd m855 m856 m857 m118 m858) rfl rfl rfl hd_X6_emit ⟨show 0 + 1 ≤ fn + 8 from sy_1 fn (Nat.le_of_ble_eq_true rfl), show 8 + (3 + 11) + (0) ≤ ln + 169 from sy_1 ln (Nat.le_of_ble_eq_true rfl)⟩) (pre_W hW hB_G_14 hK hZ hS kd_1 rfl) rfl rfl hl.1 rfl (lv_room (Nat.le_of_ble_eq_true rfl)) dX2_passUnit_203 ⟨Nat.le_of_ble_eq_true rfl, Nat.le_of_ble_eq_true rfl⟩) hS (fun G_108 H locs hpo hW hS => ?_)
        have hX_111 : P_emit_1 (G.1 3 3) 0 G_14 G_108 := hpo
        obtain ⟨hB_G_108, hq_109, -⟩ := hpo
        have hF := hF.call9 hq_109 rfl rfl
        refine lv_aload_n hx hb dX2_passUnit_206 rfl (lv_at hl 0 rfl) ?_
        refine S_getR (n := 3) (C := RX2) (T := TX2) (N := 3) hx hb hg iX2 hown hK hW kd_4 rfl 0 (lt_b rfl) (hg (Cond.fieldLink RX2 9 "SlabWalk$Formulas" "tokens" "LSlabWalk$Tokens;") m301) (fun _ h9 => h9) rfl dX2_passUnit_207 ?_
        refine S_calli (va_runV (As := []) (rest := []) ⟨hx, hb, hml, hown, hts⟩ (k_tAdvance l D k A a z G_108  ) (cwV 0 hts (gd_V hgd m854 m639 m640 m120 m641) rfl rfl rfl hd_X9_advance ⟨show 6 + 1 ≤ fn + 8 from sy_1 fn (Nat.le_of_ble_eq_true rfl), show 8 + (2 + 11) + (127) ≤ ln + 169 from sy_1 ln (Nat.le_of_ble_eq_true rfl)⟩) (pre_W hW hB_G_108 hK hZ hS kd_3 rfl) rfl rfl hl.1 rfl (lv_room (Nat.le_of_ble_eq_true rfl)) dX2_passUnit_210 ⟨Nat.le_of_ble_eq_true rfl, Nat.le_of_ble_eq_true rfl⟩) hS (fun r_112 G_113 H locs hpo hW hS => ?_)
        have hX_116 : P_tAdvance G_108 r_112 G_113 := hpo
        obtain ⟨hB_G_113, hq_114, f_117, -⟩ := hpo
        have hF := hF.call9 hq_114 rfl rfl
        exact W.zret (v := r_112) hx hb hr (nar_z ((by first | exact ok_131 f_117.1 | omega)) ((by first | exact f_117.2 | omega))) (fun t ht _ => ⟨⟨r_112, G_113, rfl, (P_fUnit_1_s_mk ⟨hB_G_113, hF, ⟨(by first | exact ok_131 f_117.1 | omega), (by first | exact f_117.2 | omega)⟩, (Or.inr ⟨c_2, (Or.inl ⟨c_10, ⟨y_11, ty_11, ⟨y_13, ty_13, (Or.inr ⟨(xI_ne (Y := 40) rfl rfl c_15), (Or.inr ⟨(xI_ne (Y := 139) rfl rfl c_22), (Or.inr ⟨(xI_ne (Y := 140) rfl rfl c_34), (Or.inr ⟨(xI_ne (Y := 141) rfl rfl c_46), (Or.inr ⟨(xI_ne (Y := 142) rfl rfl c_58), (Or.inr ⟨(xI_ne (Y := 143) rfl rfl c_70), (Or.inr ⟨(xI_ne (Y := 147) rfl rfl c_82), (Or.inr ⟨(xI_ne (Y := 148) rfl rfl c_94), (Or.inl ⟨c_106, ⟨G_14, hB_G_14, (Fr.put (rs := []) (fs := [(1, 12), (4, 2)]) (Fr.put (rs := []) (fs := [(1, 12), (4, 2)]) Fr.rf eG_12 (Or.inr (by decide))) eG_14 (Or.inr (by decide))), (gp_eq eG_14), ((gp_ne eG_14 (by decide)).trans (gp_eq eG_12)), ⟨G_108, hX_111, ⟨r_112, G_113, hX_116, ⟨rfl, rfl⟩⟩⟩⟩⟩)⟩)⟩)⟩)⟩)⟩)⟩)⟩)⟩)⟩⟩⟩)⟩)⟩), wd_t ht hW⟩, hS.F ht⟩) hS.2.2 dX2_passUnit_213
      by_cases c_118 : (G.1 3 3) = 150
      · refine lv_lookup (tgt := 191) hx hb dX2_passUnit_60 (by decide) (off := 131) (by rw [c_118]; decide) (by decide) ?_
        have c_118 : (G.1 3 3).toInt = 150 := xI_eq rfl rfl c_118
        refine lv_aload_n hx hb dX2_passUnit_191 rfl (lv_at hl 0 rfl) ?_
        refine S_getV (n := 1) (C := RX2) (T := TX2) (N := 3) hx hb hg iX2 hown hK hW kd_4 rfl 1 (lt_b rfl) (hg (Cond.fieldLink RX2 15 "SlabWalk$Formulas" "paving" "LSlabWalk$Paving;") m302) (fun _ h9 => h9) rfl ((((congrFun (congrFun (congrArg (fun q => q.2.2) eG_14) 4) 1).trans (congrFun (congrFun (congrArg (fun q => q.2.2) eG_12) 4) 1))).trans (hv_4_1)) dX2_passUnit_192 ?_
        refine lv_aload_n hx hb dX2_passUnit_195 rfl (lv_at hl 0 rfl) ?_
        refine S_getR (n := 3) (C := RX2) (T := TX2) (N := 3) hx hb hg iX2 hown hK hW kd_4 rfl 0 (lt_b rfl) (hg (Cond.fieldLink RX2 9 "SlabWalk$Formulas" "tokens" "LSlabWalk$Tokens;") m301) (fun _ h9 => h9) rfl dX2_passUnit_196 ?_
        refine S_getI (v := (G.1 3 3)) (C := RX9) (T := TX9) (N := 9) hx hb hg iX9 hown hK hW kd_3 rfl 3 (lt_b rfl) (hg (Cond.fieldLink RX2 30 "SlabWalk$Tokens" "kind" "I") m263) (fun _ h9 => h9) rfl ((gp_ne eG_14 (by decide)).trans ((gp_ne eG_12 (by decide)).trans (rfl))) dX2_passUnit_199 ?_
        refine ic_0 hx hb dX2_passUnit_202 ?_
        refine S_callv (va_runV (As := [.int (G.1 3 3), .int 0]) (rest := []) ⟨hx, hb, hml, hown, hts⟩ (k_emit_1 l D k A a z G_14 (G.1 3 3) 0 ) (cwV 2 hts (gd_V hgd m855 m856 m857 m118 m858) rfl rfl rfl hd_X6_emit ⟨show 0 + 1 ≤ fn + 8 from sy_1 fn (Nat.le_of_ble_eq_true rfl), show 8 + (3 + 11) + (0) ≤ ln + 169 from sy_1 ln (Nat.le_of_ble_eq_true rfl)⟩) (pre_W hW hB_G_14 hK hZ hS kd_1 rfl) rfl rfl hl.1 rfl (lv_room (Nat.le_of_ble_eq_true rfl)) dX2_passUnit_203 ⟨Nat.le_of_ble_eq_true rfl, Nat.le_of_ble_eq_true rfl⟩) hS (fun G_120 H locs hpo hW hS => ?_)
        have hX_123 : P_emit_1 (G.1 3 3) 0 G_14 G_120 := hpo
        obtain ⟨hB_G_120, hq_121, -⟩ := hpo
        have hF := hF.call9 hq_121 rfl rfl
        refine lv_aload_n hx hb dX2_passUnit_206 rfl (lv_at hl 0 rfl) ?_
        refine S_getR (n := 3) (C := RX2) (T := TX2) (N := 3) hx hb hg iX2 hown hK hW kd_4 rfl 0 (lt_b rfl) (hg (Cond.fieldLink RX2 9 "SlabWalk$Formulas" "tokens" "LSlabWalk$Tokens;") m301) (fun _ h9 => h9) rfl dX2_passUnit_207 ?_
        refine S_calli (va_runV (As := []) (rest := []) ⟨hx, hb, hml, hown, hts⟩ (k_tAdvance l D k A a z G_120  ) (cwV 0 hts (gd_V hgd m854 m639 m640 m120 m641) rfl rfl rfl hd_X9_advance ⟨show 6 + 1 ≤ fn + 8 from sy_1 fn (Nat.le_of_ble_eq_true rfl), show 8 + (2 + 11) + (127) ≤ ln + 169 from sy_1 ln (Nat.le_of_ble_eq_true rfl)⟩) (pre_W hW hB_G_120 hK hZ hS kd_3 rfl) rfl rfl hl.1 rfl (lv_room (Nat.le_of_ble_eq_true rfl)) dX2_passUnit_210 ⟨Nat.le_of_ble_eq_true rfl, Nat.le_of_ble_eq_true rfl⟩) hS (fun r_124 G_125 H locs hpo hW hS => ?_)
        have hX_128 : P_tAdvance G_120 r_124 G_125 := hpo
        obtain ⟨hB_G_125, hq_126, f_129, -⟩ := hpo
        have hF := hF.call9 hq_126 rfl rfl
        exact W.zret (v := r_124) hx hb hr (nar_z ((by first | exact ok_131 f_129.1 | omega)) ((by first | exact f_129.2 | omega))) (fun t ht _ => ⟨⟨r_124, G_125, rfl, (P_fUnit_1_s_mk ⟨hB_G_125, hF, ⟨(by first | exact ok_131 f_129.1 | omega), (by first | exact f_129.2 | omega)⟩, (Or.inr ⟨c_2, (Or.inl ⟨c_10, ⟨y_11, ty_11, ⟨y_13, ty_13, (Or.inr ⟨(xI_ne (Y := 40) rfl rfl c_15), (Or.inr ⟨(xI_ne (Y := 139) rfl rfl c_22), (Or.inr ⟨(xI_ne (Y := 140) rfl rfl c_34), (Or.inr ⟨(xI_ne (Y := 141) rfl rfl c_46), (Or.inr ⟨(xI_ne (Y := 142) rfl rfl c_58), (Or.inr ⟨(xI_ne (Y := 143) rfl rfl c_70), (Or.inr ⟨(xI_ne (Y := 147) rfl rfl c_82), (Or.inr ⟨(xI_ne (Y := 148) rfl rfl c_94), (Or.inr ⟨(xI_ne (Y := 149) rfl rfl c_106), (Or.inl ⟨c_118, ⟨G_14, hB_G_14, (Fr.put (rs := []) (fs := [(1, 12), (4, 2)]) (Fr.put (rs := []) (fs := [(1, 12), (4, 2)]) Fr.rf eG_12 (Or.inr (by decide))) eG_14 (Or.inr (by decide))), (gp_eq eG_14), ((gp_ne eG_14 (by decide)).trans (gp_eq eG_12)), ⟨G_120, hX_123, ⟨r_124, G_125, hX_128, ⟨rfl, rfl⟩⟩⟩⟩⟩)⟩)⟩)⟩)⟩)⟩)⟩)⟩)⟩)⟩)⟩⟩⟩)⟩)⟩), wd_t ht hW⟩, hS.F ht⟩) hS.2.2 dX2_passUnit_213
      by_cases c_130 : (G.1 3 3) = 201
      · refine lv_lookup (tgt := 166) hx hb dX2_passUnit_60 (by decide) (off := 106) (by rw [c_130]; decide) (by decide) ?_
        have c_130 : (G.1 3 3).toInt = 201 := xI_eq rfl rfl c_130
        refine lv_aload_n hx hb dX2_passUnit_166 rfl (lv_at hl 0 rfl) ?_
        refine S_getV (n := 1) (C := RX2) (T := TX2) (N := 3) hx hb hg iX2 hown hK hW kd_4 rfl 1 (lt_b rfl) (hg (Cond.fieldLink RX2 15 "SlabWalk$Formulas" "paving" "LSlabWalk$Paving;") m302) (fun _ h9 => h9) rfl ((((congrFun (congrFun (congrArg (fun q => q.2.2) eG_14) 4) 1).trans (congrFun (congrFun (congrArg (fun q => q.2.2) eG_12) 4) 1))).trans (hv_4_1)) dX2_passUnit_167 ?_
        refine lv_sipush (v := 201) hx hb dX2_passUnit_170 (by decide) ?_
        refine lv_aload_n hx hb dX2_passUnit_173 rfl (lv_at hl 0 rfl) ?_
        refine S_getR (n := 3) (C := RX2) (T := TX2) (N := 3) hx hb hg iX2 hown hK hW kd_4 rfl 0 (lt_b rfl) (hg (Cond.fieldLink RX2 9 "SlabWalk$Formulas" "tokens" "LSlabWalk$Tokens;") m301) (fun _ h9 => h9) rfl dX2_passUnit_174 ?_
        refine S_getI (v := (G.1 3 5)) (C := RX9) (T := TX9) (N := 9) hx hb hg iX9 hown hK hW kd_3 rfl 5 (lt_b rfl) (hg (Cond.fieldLink RX2 70 "SlabWalk$Tokens" "number" "I") m267) (fun _ h9 => h9) rfl ((gp_ne eG_14 (by decide)).trans (gp_ne eG_12 (by decide))) dX2_passUnit_177 ?_
        refine S_callv (va_runV (As := [.int 201, .int (G.1 3 5)]) (rest := []) ⟨hx, hb, hml, hown, hts⟩ (k_emit_1 l D k A a z G_14 201 (G.1 3 5) ) (cwV 2 hts (gd_V hgd m855 m856 m857 m118 m858) rfl rfl rfl hd_X6_emit ⟨show 0 + 1 ≤ fn + 8 from sy_1 fn (Nat.le_of_ble_eq_true rfl), show 8 + (3 + 11) + (0) ≤ ln + 169 from sy_1 ln (Nat.le_of_ble_eq_true rfl)⟩) (pre_W hW hB_G_14 hK hZ hS kd_1 rfl) rfl rfl hl.1 rfl (lv_room (Nat.le_of_ble_eq_true rfl)) dX2_passUnit_180 ⟨Nat.le_of_ble_eq_true rfl, Nat.le_of_ble_eq_true rfl⟩) hS (fun G_132 H locs hpo hW hS => ?_)
        have hX_135 : P_emit_1 201 (G.1 3 5) G_14 G_132 := hpo
        obtain ⟨hB_G_132, hq_133, -⟩ := hpo
        have hF := hF.call9 hq_133 rfl rfl
        refine lv_aload_n hx hb dX2_passUnit_183 rfl (lv_at hl 0 rfl) ?_
        refine S_getR (n := 3) (C := RX2) (T := TX2) (N := 3) hx hb hg iX2 hown hK hW kd_4 rfl 0 (lt_b rfl) (hg (Cond.fieldLink RX2 9 "SlabWalk$Formulas" "tokens" "LSlabWalk$Tokens;") m301) (fun _ h9 => h9) rfl dX2_passUnit_184 ?_
        refine S_calli (va_runV (As := []) (rest := []) ⟨hx, hb, hml, hown, hts⟩ (k_tAdvance l D k A a z G_132  ) (cwV 0 hts (gd_V hgd m854 m639 m640 m120 m641) rfl rfl rfl hd_X9_advance ⟨show 6 + 1 ≤ fn + 8 from sy_1 fn (Nat.le_of_ble_eq_true rfl), show 8 + (2 + 11) + (127) ≤ ln + 169 from sy_1 ln (Nat.le_of_ble_eq_true rfl)⟩) (pre_W hW hB_G_132 hK hZ hS kd_3 rfl) rfl rfl hl.1 rfl (lv_room (Nat.le_of_ble_eq_true rfl)) dX2_passUnit_187 ⟨Nat.le_of_ble_eq_true rfl, Nat.le_of_ble_eq_true rfl⟩) hS (fun r_136 G_137 H locs hpo hW hS => ?_)
        have hX_140 : P_tAdvance G_132 r_136 G_137 := hpo
        obtain ⟨hB_G_137, hq_138, f_141, -⟩ := hpo
        have hF := hF.call9 hq_138 rfl rfl
        exact W.zret (v := r_136) hx hb hr (nar_z ((by first | exact ok_131 f_141.1 | omega)) ((by first | exact f_141.2 | omega))) (fun t ht _ => ⟨⟨r_136, G_137, rfl, (P_fUnit_1_s_mk ⟨hB_G_137, hF, ⟨(by first | exact ok_131 f_141.1 | omega), (by first | exact f_141.2 | omega)⟩, (Or.inr ⟨c_2, (Or.inl ⟨c_10, ⟨y_11, ty_11, ⟨y_13, ty_13, (Or.inr ⟨(xI_ne (Y := 40) rfl rfl c_15), (Or.inr ⟨(xI_ne (Y := 139) rfl rfl c_22), (Or.inr ⟨(xI_ne (Y := 140) rfl rfl c_34), (Or.inr ⟨(xI_ne (Y := 141) rfl rfl c_46), (Or.inr ⟨(xI_ne (Y := 142) rfl rfl c_58), (Or.inr ⟨(xI_ne (Y := 143) rfl rfl c_70), (Or.inr ⟨(xI_ne (Y := 147) rfl rfl c_82), (Or.inr ⟨(xI_ne (Y := 148) rfl rfl c_94), (Or.inr ⟨(xI_ne (Y := 149) rfl rfl c_106), (Or.inr ⟨(xI_ne (Y := 150) rfl rfl c_118), (Or.inl ⟨c_130, ⟨G_14, hB_G_14, (Fr.put (rs := []) (fs := [(1, 12), (4, 2)]) (Fr.put (rs := []) (fs := [(1, 12), (4, 2)]) Fr.rf eG_12 (Or.inr (by decide))) eG_14 (Or.inr (by decide))), (gp_eq eG_14), ((gp_ne eG_14 (by decide)).trans (gp_eq eG_12)), ⟨G_132, hX_135, ⟨r_136, G_137, hX_140, ⟨rfl, rfl⟩⟩⟩⟩⟩)⟩)⟩)⟩)⟩)⟩)⟩)⟩)⟩)⟩)⟩)⟩⟩⟩)⟩)⟩), wd_t ht hW⟩, hS.F ht⟩) hS.2.2 dX2_passUnit_190
      refine lv_lookup (tgt := 214) hx hb dX2_passUnit_60 (by decide) (off := 154) (by show Op.lookupswitch.offset [(40, 100), (139, 131), (140, 131), (141, 131), (142, 131), (143, 131), (147, 131), (148, 131), (149, 131), (150, 131), (201, 106)] _ _ = _; have c_15 := xI_ne (Y := 40) rfl rfl c_15; have c_22 := xI_ne (Y := 139) rfl rfl c_22; have c_34 := xI_ne (Y := 140) rfl rfl c_34; have c_46 := xI_ne (Y := 141) rfl rfl c_46; have c_58 := xI_ne (Y := 142) rfl rfl c_58; have c_70 := xI_ne (Y := 143) rfl rfl c_70; have c_82 := xI_ne (Y := 147) rfl rfl c_82; have c_94 := xI_ne (Y := 148) rfl rfl c_94; have c_106 := xI_ne (Y := 149) rfl rfl c_106; have c_118 := xI_ne (Y := 150) rfl rfl c_118; have c_130 := xI_ne (Y := 201) rfl rfl c_130; rw [Op.lookupswitch.offset_cons, if_neg (by omega), Op.lookupswitch.offset_cons, if_neg (by omega), Op.lookupswitch.offset_cons, if_neg (by omega), Op.lookupswitch.offset_cons, if_neg (by omega), Op.lookupswitch.offset_cons, if_neg (by omega), Op.lookupswitch.offset_cons, if_neg (by omega), Op.lookupswitch.offset_cons, if_neg (by omega), Op.lookupswitch.offset_cons, if_neg (by omega), Op.lookupswitch.offset_cons, if_neg (by omega), Op.lookupswitch.offset_cons, if_neg (by omega), Op.lookupswitch.offset_cons, if_neg (by omega), Op.lookupswitch.offset_nil]) (by decide) ?_
      have c_15 := xI_ne (Y := 40) rfl rfl c_15
      have c_22 := xI_ne (Y := 139) rfl rfl c_22
      have c_34 := xI_ne (Y := 140) rfl rfl c_34
      have c_46 := xI_ne (Y := 141) rfl rfl c_46
      have c_58 := xI_ne (Y := 142) rfl rfl c_58
      have c_70 := xI_ne (Y := 143) rfl rfl c_70
      have c_82 := xI_ne (Y := 147) rfl rfl c_82
      have c_94 := xI_ne (Y := 148) rfl rfl c_94
      have c_106 := xI_ne (Y := 149) rfl rfl c_106
      have c_118 := xI_ne (Y := 150) rfl rfl c_118
      have c_130 := xI_ne (Y := 201) rfl rfl c_130
      refine lv_aload_n hx hb dX2_passUnit_214 rfl (lv_at hl 0 rfl) ?_
      refine S_getR (n := 3) (C := RX2) (T := TX2) (N := 3) hx hb hg iX2 hown hK hW kd_4 rfl 0 (lt_b rfl) (hg (Cond.fieldLink RX2 9 "SlabWalk$Formulas" "tokens" "LSlabWalk$Tokens;") m301) (fun _ h9 => h9) rfl dX2_passUnit_215 ?_
      refine ic_2 hx hb dX2_passUnit_218 ?_
      refine S_calli (va_runV (As := [.int 2]) (rest := []) ⟨hx, hb, hml, hown, hts⟩ (k_tRefuse l D k A a z G_14 2 ⟨by decide, by decide⟩) (cwV 1 hts (gd_V hgd m849 m779 m780 m120 m781) rfl rfl rfl hd_X9_refuse ⟨show 0 + 1 ≤ fn + 8 from sy_1 fn (Nat.le_of_ble_eq_true rfl), show 8 + (2 + 11) + (0) ≤ ln + 169 from sy_1 ln (Nat.le_of_ble_eq_true rfl)⟩) (pre_W hW hB_G_14 hK hZ hS kd_3 rfl) rfl rfl hl.1 rfl (lv_room (Nat.le_of_ble_eq_true rfl)) dX2_passUnit_219 ⟨Nat.le_of_ble_eq_true rfl, Nat.le_of_ble_eq_true rfl⟩) hS (fun r_142 G_143 H locs hpo hW hS => ?_)
      have hX_146 : P_tRefuse 2 G_14 r_142 G_143 := hpo
      obtain ⟨hB_G_143, hq_144, f_147, -⟩ := hpo
      have hF := hF.call9 hq_144 rfl rfl
      exact W.zret (v := r_142) hx hb hr (nar_z ((by first | exact f_147.1 | omega)) ((by first | exact ok_130 f_147.2 | omega))) (fun t ht _ => ⟨⟨r_142, G_143, rfl, (P_fUnit_1_s_mk ⟨hB_G_143, hF, ⟨(by first | exact f_147.1 | omega), (by first | exact ok_130 f_147.2 | omega)⟩, (Or.inr ⟨c_2, (Or.inl ⟨c_10, ⟨y_11, ty_11, ⟨y_13, ty_13, (Or.inr ⟨c_15, (Or.inr ⟨c_22, (Or.inr ⟨c_34, (Or.inr ⟨c_46, (Or.inr ⟨c_58, (Or.inr ⟨c_70, (Or.inr ⟨c_82, (Or.inr ⟨c_94, (Or.inr ⟨c_106, (Or.inr ⟨c_118, (Or.inr ⟨c_130, ⟨G_14, hB_G_14, (Fr.put (rs := []) (fs := [(1, 12), (4, 2)]) (Fr.put (rs := []) (fs := [(1, 12), (4, 2)]) Fr.rf eG_12 (Or.inr (by decide))) eG_14 (Or.inr (by decide))), (gp_eq eG_14), ((gp_ne eG_14 (by decide)).trans (gp_eq eG_12)), ⟨r_142, G_143, hX_146, ⟨rfl, rfl⟩⟩⟩⟩)⟩)⟩)⟩)⟩)⟩)⟩)⟩)⟩)⟩)⟩)⟩⟩⟩)⟩)⟩), wd_t ht hW⟩, hS.F ht⟩) hS.2.2 dX2_passUnit_222
    · have c_10 : 90 ≤ (G.1 1 12).toInt := xI_nlt rfl rfl c_10
      refine lv_aload_n hx hb dX2_passUnit_21 rfl (lv_at hl 0 rfl) ?_
      refine S_getR (n := 3) (C := RX2) (T := TX2) (N := 3) hx hb hg iX2 hown hK hW kd_4 rfl 0 (lt_b rfl) (hg (Cond.fieldLink RX2 9 "SlabWalk$Formulas" "tokens" "LSlabWalk$Tokens;") m301) (fun _ h9 => h9) rfl dX2_passUnit_22 ?_
      refine ic_2 hx hb dX2_passUnit_25 ?_
      refine S_calli (va_runV (As := [.int 2]) (rest := []) ⟨hx, hb, hml, hown, hts⟩ (k_tRefuse l D k A a z G 2 ⟨by decide, by decide⟩) (cwV 1 hts (gd_V hgd m849 m779 m780 m120 m781) rfl rfl rfl hd_X9_refuse ⟨show 0 + 1 ≤ fn + 8 from sy_1 fn (Nat.le_of_ble_eq_true rfl), show 8 + (2 + 11) + (0) ≤ ln + 169 from sy_1 ln (Nat.le_of_ble_eq_true rfl)⟩) (pre_W hW hB_G hK hZ hS kd_3 rfl) rfl rfl hl.1 rfl (lv_room (Nat.le_of_ble_eq_true rfl)) dX2_passUnit_26 ⟨Nat.le_of_ble_eq_true rfl, Nat.le_of_ble_eq_true rfl⟩) hS (fun r_148 G_149 H locs hpo hW hS => ?_)
      have hX_152 : P_tRefuse 2 G r_148 G_149 := hpo
      obtain ⟨hB_G_149, hq_150, f_153, -⟩ := hpo
      have hF := hF.call9 hq_150 rfl rfl
      exact W.zret (v := r_148) hx hb hr (nar_z ((by first | exact f_153.1 | omega)) ((by first | exact ok_130 f_153.2 | omega))) (fun t ht _ => ⟨⟨r_148, G_149, rfl, (P_fUnit_1_s_mk ⟨hB_G_149, hF, ⟨(by first | exact f_153.1 | omega), (by first | exact ok_130 f_153.2 | omega)⟩, (Or.inr ⟨c_2, (Or.inr ⟨c_10, ⟨r_148, G_149, hX_152, ⟨rfl, rfl⟩⟩⟩)⟩)⟩), wd_t ht hW⟩, hS.F ht⟩) hS.2.2 dX2_passUnit_29

set_option maxHeartbeats 4000000 in
set_option maxRecDepth 100000 in
theorem k_fTerm_1_s (l : Launch) (D : va_G) (k : KT) (A : Nat → Prop) (a : Nat → Nat) (z : SK) (fn ln n : Nat) (E O : XR) (hEb : ∀ (p0 : Int32) (G : GS) (r : Int32) (G1 : GS), E p0 G r G1 → Bd G1 ∧ Fr [17] [(1, 12), (1, 13), (3, 2), (3, 3), (3, 4), (3, 5), (3, 6), (3, 7), (3, 8), (4, 2)] G G1 ∧ (0 ≤ r.toInt ∧ r.toInt ≤ 1)) (hOb : ∀ (p0 : Int32) (G : GS) (r : Int32) (G1 : GS), O p0 G r G1 → Bd G1 ∧ Fr [17] [(1, 12), (1, 13), (3, 2), (3, 3), (3, 4), (3, 5), (3, 6), (3, 7), (3, 8), (4, 2)] G G1 ∧ (0 ≤ r.toInt ∧ r.toInt ≤ 1)) (hE : ∀ (G : GS) (p0 : Int32) (ha_p0 : 0 ≤ p0.toInt ∧ p0.toInt ≤ 7) (hv_4_1 : G.2.2 4 1 = 1) (hd : 8 ≤ p0.toInt + (n : Int)), Met l yX2_passEither (WS yX2_passEither cX2_passEither 3 (some .boolean)) ({ frames := fn + 2, cells := 0, slots := 0, locals := ln + 43 }) (va_Pc [.ref (a 4), .int p0] (cW D k A a z G)) (va_Qi (fun (r : Int32) (G1 : GS) => E p0 G r G1) (fun (G1 : GS) t => Wd D k A a G1 t.heap) A) 0 0 A) (hO : ∀ (G : GS) (p0 : Int32) (ha_p0 : 0 ≤ p0.toInt ∧ p0.toInt ≤ 7) (hv_4_1 : G.2.2 4 1 = 1) (hd : 8 ≤ p0.toInt + (n : Int)), Met l yX2_passOne (WS yX2_passOne cX2_passOne 2 (some .boolean)) ({ frames := fn + 0, cells := 0, slots := 0, locals := ln + 0 }) (va_Pc [.ref (a 4), .int p0] (cW D k A a z G)) (va_Qi (fun (r : Int32) (G1 : GS) => O p0 G r G1) (fun (G1 : GS) t => Wd D k A a G1 t.heap) A) 0 0 A) (G : GS) (p0 : Int32) (ha_p0 : 0 ≤ p0.toInt ∧ p0.toInt ≤ 7) (hv_4_1 : G.2.2 4 1 = 1) (hd : 8 ≤ p0.toInt + (n : Int) + 1) : Met l yX2_passTerm (WS yX2_passTerm cX2_passTerm 4 (some .boolean)) ({ frames := fn + 9, cells := 0, slots := 0, locals := ln + 190 }) (va_Pc [.ref (a 4), .int p0] (cW D k A a z G)) (va_Qi (fun (r : Int32) (G1 : GS) => P_fTerm_1_s E O p0 G r G1) (fun (G1 : GS) t => Wd D k A a G1 t.heap) A) 0 0 A := by
  refine Met.ofW (cc := cX2_passTerm) (maxL := 4) (ret := (some .boolean)) (by decide) rfl ?_
  intro p e s m args below meth c s₁ B hml hv
  obtain ⟨rfl, hW, hB_G, hK, hZ⟩ := hv
  have hx := B.exec
  have hb := B.bytes
  have hr := B.returns
  have hts := atoms_spec (ws := WS yX2_passTerm cX2_passTerm 4 (some .boolean)) B.pre
  have hgd : ∀ w ∈ gd, w ∈ WS yX2_passTerm cX2_passTerm 4 (some .boolean) := fun w h => List.mem_cons_of_mem _ h
  have hg : ∀ w ∈ gd, w.before _ s = true := fun w h => hts w (hgd w h)
  have hown : s.vm.findClass RX2 = some m.cls := findClass_of_methodNamed B.named
  have hS : va_S A s.heap s.heap [] := va_S.rf
  have hF : Fr [17] [(1, 12), (1, 13), (3, 2), (3, 3), (3, 4), (3, 5), (3, 6), (3, 7), (3, 8), (4, 2)] G G := Fr.rf
  have hl := lv_entry ([.ref (a 4), .int p0]) (n := 4) (Nat.le_of_ble_eq_true rfl)
  rw [lg_entry_eq]
  generalize (lg_sl ([.ref (a 4), .int p0]) ++ List.replicate (4 - (lg_sl ([.ref (a 4), .int p0])).length) Slot.unset).toArray = ls at hl ⊢
  have hl : lv_has ls 4 [(0, .ref (a 4)), (1, .int p0)] := hl
  refine lv_aload_n hx hb dX2_passTerm_0 rfl (lv_at hl 0 rfl) ?_
  refine lv_iload_n hx hb dX2_passTerm_1 rfl (lv_at hl 1 rfl) ?_
  refine S_calli (va_runV (As := [.int p0]) (rest := []) ⟨hx, hb, hml, hown, hts⟩ (k_fUnit_1_s l D k A a z fn ln n E O hEb hOb hE hO G p0 ⟨(by first | exact ha_p0.1 | omega), (by first | exact ha_p0.2 | omega)⟩ hv_4_1 ((by first | exact hd | omega))) (cwV 1 hts (gd_V hgd m845 m847 m22 m121 m848) rfl rfl rfl hd_X2_passUnit ⟨show fn + 8 + 1 ≤ fn + 9 from sy_2 fn (Nat.le_of_ble_eq_true rfl), show 8 + (2 + 11) + (ln + 169) ≤ ln + 190 from sy_3 ln (Nat.le_of_ble_eq_true rfl)⟩) (pre_W hW hB_G hK hZ hS kd_4 rfl) rfl rfl hl.1 rfl (lv_room (Nat.le_of_ble_eq_true rfl)) dX2_passTerm_2 ⟨Nat.le_of_ble_eq_true rfl, Nat.le_of_ble_eq_true rfl⟩) hS (fun r_1 G_2 H locs hpo hW hS => ?_)
  have hX_5 : P_fUnit_1_s E O p0 G r_1 G_2 := hpo
  obtain ⟨hB_G_2, hq_3, f_6, -⟩ := hpo
  have hF := hF.call9 hq_3 rfl rfl
  refine lv_if_ne (tgt := 10) hx hb dX2_passTerm_5 rfl (fun c_7 => ?_) (fun c_7 => ?_)
  · have c_7 : r_1.toInt ≠ 0 := xI_ne rfl rfl c_7
    refine ic_0 hx hb dX2_passTerm_10 ?_
    refine lv_istore_n (lv' := [(2, .int 0), (0, .ref (a 4)), (1, .int p0)]) hx hb dX2_passTerm_11 rfl hl (lt_b rfl) rfl (fun ls hl => ?_)
    have qc_14 : (0 : Int32).toInt = 0 := rfl
    refine loop_N (Inv := fun n H locs ls => ∃ (G_8 : GS) (x_12 : Int32), (n : Int) = 1600 - x_12.toInt ∧ (0 ≤ x_12.toInt ∧ x_12.toInt ≤ 1600) ∧ Rc (St_k_fTerm_1_s_1 E O p0) (0, G_2) (x_12, G_8) ∧ Wd D k A a G_8 H ∧ Bd G_8 ∧ Fr [17] [(1, 12), (1, 13), (3, 2), (3, 3), (3, 4), (3, 5), (3, 6), (3, 7), (3, 8), (4, 2)] G G_8 ∧ Fr [17] [(1, 12), (1, 13), (3, 2), (3, 3), (3, 4), (3, 5), (3, 6), (3, 7), (3, 8), (4, 2)] G_2 G_8 ∧ va_S A s.heap H locs ∧ lv_has ls 4 [(2, .int x_12), (0, .ref (a 4)), (1, .int p0)]) (fun n_11 H locs ls ih_10 hI => ?_) (1600 - 0 : Int).toNat ⟨G_2, 0, (Int.toNat_of_nonneg ((by decide))), ⟨(by decide), (by decide)⟩, Rc.rf, hW, hB_G_2, hF, Fr.rf, hS, lv_sub hl [0, 1, 2] rfl⟩
    obtain ⟨G_8, x_12, hn_16, f_15, hX_13, hW, hB_G_8, hF, hq_9, hS, hl⟩ := hI
    refine lv_iload_n hx hb dX2_passTerm_12 rfl (lv_at hl 0 rfl) ?_
    refine lv_sipush (v := 1600) hx hb dX2_passTerm_13 (by decide) ?_
    refine lv_icmp_ge (tgt := 73) hx hb dX2_passTerm_16 rfl (fun c_17 => ?_) (fun c_17 => ?_)
    · have c_17 : 1600 ≤ x_12.toInt := xI_le rfl rfl c_17
      refine ic_1 hx hb dX2_passTerm_73 ?_
      exact W.zret (v := 1) hx hb hr (by decide) (fun t ht _ => ⟨⟨1, G_8, rfl, (P_fTerm_1_s_mk ⟨hB_G_8, hF, ⟨by decide, by decide⟩, ⟨r_1, G_2, hX_5, (Or.inr ⟨c_7, ⟨x_12, G_8, hX_13, f_15, hB_G_8, hq_9, (Or.inl ⟨c_17, ⟨rfl, rfl⟩⟩)⟩⟩)⟩⟩), wd_t ht hW⟩, hS.F ht⟩) hS.2.2 dX2_passTerm_74
    · have c_17 : x_12.toInt < 1600 := xI_nle rfl rfl c_17
      refine lv_aload_n hx hb dX2_passTerm_19 rfl (lv_at hl 1 rfl) ?_
      refine S_getR (n := 3) (C := RX2) (T := TX2) (N := 3) hx hb hg iX2 hown hK hW kd_4 rfl 0 (lt_b rfl) (hg (Cond.fieldLink RX2 9 "SlabWalk$Formulas" "tokens" "LSlabWalk$Tokens;") m301) (fun _ h9 => h9) rfl dX2_passTerm_20 ?_
      refine S_getI (v := (G_8.1 3 3)) (C := RX9) (T := TX9) (N := 9) hx hb hg iX9 hown hK hW kd_3 rfl 3 (lt_b rfl) (hg (Cond.fieldLink RX2 30 "SlabWalk$Tokens" "kind" "I") m263) (fun _ h9 => h9) rfl rfl dX2_passTerm_23 ?_
      refine S_calli (va_runS (As := [.int (G_8.1 3 3)]) (rest := []) ⟨hx, hb, hml, hown, hts⟩ (k_fTimes l D k A a z G_8 (G_8.1 3 3) ) (va_cwS 1 hts (gd_S hgd m859 m860 m121 m861) rfl rfl rfl hd_X2_isTimes.2 ⟨show 0 + 1 ≤ fn + 9 from sy_1 fn (Nat.le_of_ble_eq_true rfl), show 8 + (1 + 11) + (0) ≤ ln + 190 from sy_1 ln (Nat.le_of_ble_eq_true rfl)⟩) (pre_S hW hB_G_8 hK hZ hS) rfl rfl hl.1 rfl (lv_room (Nat.le_of_ble_eq_true rfl)) dX2_passTerm_26 ⟨Nat.le_of_ble_eq_true rfl, Nat.le_of_ble_eq_true rfl⟩) hS (fun r_18 G_19 H locs hpo hW hS => ?_)
      have hX_22 : P_fTimes (G_8.1 3 3) G_8 r_18 G_19 := hpo
      obtain ⟨hB_G_19, hq_20, f_23, -⟩ := hpo
      have hF := hF.call9 hq_20 rfl rfl
      refine lv_if_eq (tgt := 73) hx hb dX2_passTerm_29 rfl (fun c_24 => ?_) (fun c_24 => ?_)
      · have c_24 : r_18.toInt = 0 := xI_eq rfl rfl c_24
        refine ic_1 hx hb dX2_passTerm_73 ?_
        exact W.zret (v := 1) hx hb hr (by decide) (fun t ht _ => ⟨⟨1, G_19, rfl, (P_fTerm_1_s_mk ⟨hB_G_19, hF, ⟨by decide, by decide⟩, ⟨r_1, G_2, hX_5, (Or.inr ⟨c_7, ⟨x_12, G_8, hX_13, f_15, hB_G_8, hq_9, (Or.inr ⟨c_17, ⟨r_18, G_19, hX_22, (Or.inl ⟨c_24, ⟨rfl, rfl⟩⟩)⟩⟩)⟩⟩)⟩⟩), wd_t ht hW⟩, hS.F ht⟩) hS.2.2 dX2_passTerm_74
      · have c_24 : r_18.toInt ≠ 0 := xI_ne rfl rfl c_24
        refine lv_aload_n hx hb dX2_passTerm_32 rfl (lv_at hl 1 rfl) ?_
        refine S_getR (n := 3) (C := RX2) (T := TX2) (N := 3) hx hb hg iX2 hown hK hW kd_4 rfl 0 (lt_b rfl) (hg (Cond.fieldLink RX2 9 "SlabWalk$Formulas" "tokens" "LSlabWalk$Tokens;") m301) (fun _ h9 => h9) rfl dX2_passTerm_33 ?_
        refine S_getI (v := (G_8.1 3 3)) (C := RX9) (T := TX9) (N := 9) hx hb hg iX9 hown hK hW kd_3 rfl 3 (lt_b rfl) (hg (Cond.fieldLink RX2 30 "SlabWalk$Tokens" "kind" "I") m263) (fun _ h9 => h9) rfl ((hq_20.i9 3 3 rfl rfl).trans (rfl)) dX2_passTerm_36 ?_
        refine lv_istore_n (lv' := [(3, .int (G_8.1 3 3)), (2, .int x_12), (0, .ref (a 4)), (1, .int p0)]) hx hb dX2_passTerm_39 rfl hl (lt_b rfl) rfl (fun ls hl => ?_)
        refine lv_aload_n hx hb dX2_passTerm_40 rfl (lv_at hl 2 rfl) ?_
        refine S_getR (n := 3) (C := RX2) (T := TX2) (N := 3) hx hb hg iX2 hown hK hW kd_4 rfl 0 (lt_b rfl) (hg (Cond.fieldLink RX2 9 "SlabWalk$Formulas" "tokens" "LSlabWalk$Tokens;") m301) (fun _ h9 => h9) rfl dX2_passTerm_41 ?_
        refine S_calli (va_runV (As := []) (rest := []) ⟨hx, hb, hml, hown, hts⟩ (k_tAdvance l D k A a z G_19  ) (cwV 0 hts (gd_V hgd m854 m639 m640 m120 m641) rfl rfl rfl hd_X9_advance ⟨show 6 + 1 ≤ fn + 9 from sy_1 fn (Nat.le_of_ble_eq_true rfl), show 8 + (2 + 11) + (127) ≤ ln + 190 from sy_1 ln (Nat.le_of_ble_eq_true rfl)⟩) (pre_W hW hB_G_19 hK hZ hS kd_3 rfl) rfl rfl hl.1 rfl (lv_room (Nat.le_of_ble_eq_true rfl)) dX2_passTerm_44 ⟨Nat.le_of_ble_eq_true rfl, Nat.le_of_ble_eq_true rfl⟩) hS (fun r_25 G_26 H locs hpo hW hS => ?_)
        have hX_29 : P_tAdvance G_19 r_25 G_26 := hpo
        obtain ⟨hB_G_26, hq_27, f_30, -⟩ := hpo
        have hF := hF.call9 hq_27 rfl rfl
        refine lv_pop hx hb dX2_passTerm_47 rfl ?_
        refine lv_aload_n hx hb dX2_passTerm_48 rfl (lv_at hl 2 rfl) ?_
        refine lv_iload_n hx hb dX2_passTerm_49 rfl (lv_at hl 3 rfl) ?_
        refine S_calli (va_runV (As := [.int p0]) (rest := []) ⟨hx, hb, hml, hown, hts⟩ (k_fUnit_1_s l D k A a z fn ln n E O hEb hOb hE hO G_26 p0 ⟨(by first | exact ha_p0.1 | omega), (by first | exact ha_p0.2 | omega)⟩ ((((hq_27.r9 4 1 rfl rfl).trans ((hq_20.r9 4 1 rfl rfl).trans ((hq_9.r9 4 1 rfl rfl).trans (hq_3.r9 4 1 rfl rfl))))).trans (hv_4_1)) ((by first | exact hd | omega))) (cwV 1 hts (gd_V hgd m845 m847 m22 m121 m848) rfl rfl rfl hd_X2_passUnit ⟨show fn + 8 + 1 ≤ fn + 9 from sy_2 fn (Nat.le_of_ble_eq_true rfl), show 8 + (2 + 11) + (ln + 169) ≤ ln + 190 from sy_3 ln (Nat.le_of_ble_eq_true rfl)⟩) (pre_W hW hB_G_26 hK hZ hS kd_4 rfl) rfl rfl hl.1 rfl (lv_room (Nat.le_of_ble_eq_true rfl)) dX2_passTerm_50 ⟨Nat.le_of_ble_eq_true rfl, Nat.le_of_ble_eq_true rfl⟩) hS (fun r_31 G_32 H locs hpo hW hS => ?_)
        have hX_35 : P_fUnit_1_s E O p0 G_26 r_31 G_32 := hpo
        obtain ⟨hB_G_32, hq_33, f_36, -⟩ := hpo
        have hF := hF.call9 hq_33 rfl rfl
        refine lv_if_ne (tgt := 58) hx hb dX2_passTerm_53 rfl (fun c_37 => ?_) (fun c_37 => ?_)
        · have c_37 : r_31.toInt ≠ 0 := xI_ne rfl rfl c_37
          refine lv_aload_n hx hb dX2_passTerm_58 rfl (lv_at hl 2 rfl) ?_
          refine S_getV (n := 1) (C := RX2) (T := TX2) (N := 3) hx hb hg iX2 hown hK hW kd_4 rfl 1 (lt_b rfl) (hg (Cond.fieldLink RX2 15 "SlabWalk$Formulas" "paving" "LSlabWalk$Paving;") m302) (fun _ h9 => h9) rfl ((((hq_33.r9 4 1 rfl rfl).trans ((hq_27.r9 4 1 rfl rfl).trans ((hq_20.r9 4 1 rfl rfl).trans ((hq_9.r9 4 1 rfl rfl).trans (hq_3.r9 4 1 rfl rfl)))))).trans (hv_4_1)) dX2_passTerm_59 ?_
          refine lv_iload_n hx hb dX2_passTerm_62 rfl (lv_at hl 0 rfl) ?_
          refine ic_0 hx hb dX2_passTerm_63 ?_
          refine S_callv (va_runV (As := [.int (G_8.1 3 3), .int 0]) (rest := []) ⟨hx, hb, hml, hown, hts⟩ (k_emit_1 l D k A a z G_32 (G_8.1 3 3) 0 ) (cwV 2 hts (gd_V hgd m855 m856 m857 m118 m858) rfl rfl rfl hd_X6_emit ⟨show 0 + 1 ≤ fn + 9 from sy_1 fn (Nat.le_of_ble_eq_true rfl), show 8 + (3 + 11) + (0) ≤ ln + 190 from sy_1 ln (Nat.le_of_ble_eq_true rfl)⟩) (pre_W hW hB_G_32 hK hZ hS kd_1 rfl) rfl rfl hl.1 rfl (lv_room (Nat.le_of_ble_eq_true rfl)) dX2_passTerm_64 ⟨Nat.le_of_ble_eq_true rfl, Nat.le_of_ble_eq_true rfl⟩) hS (fun G_39 H locs hpo hW hS => ?_)
          have hX_42 : P_emit_1 (G_8.1 3 3) 0 G_32 G_39 := hpo
          obtain ⟨hB_G_39, hq_40, -⟩ := hpo
          have hF := hF.call9 hq_40 rfl rfl
          obtain ⟨y_43, ey_43⟩ : ∃ q, q = x_12 + 1 := ⟨_, rfl⟩
          have ty_43 : y_43.toInt = x_12.toInt + 1 := xI_add rfl rfl ey_43 ((by first | exact ok_21 f_15.1 | omega)) ((by first | exact ok_122 f_15.2 | omega))
          refine lv_iinc (v := y_43) (lv' := [(2, .int y_43), (3, .int (G_8.1 3 3)), (0, .ref (a 4)), (1, .int p0)]) hx hb dX2_passTerm_67 hl (k := 1) rfl (by rw [ey_43]; rfl) (lt_b rfl) rfl (fun ls hl => ?_)
          refine lv_goto (tgt := 12) hx hb dX2_passTerm_70 rfl ?_
          exact ih_10 (1600 - y_43.toInt : Int).toNat ((by first | (clear ha_p0 hd f_6 c_7 f_23 c_24 f_30 f_36 c_37; omega) | omega)) _ _ _ ⟨G_39, y_43, (Int.toNat_of_nonneg ((by first | exact ok_388 f_15.2 c_17 ty_43 | omega))), ⟨(by first | exact ok_23 f_15.1 ty_43 | omega), (by first | exact ok_389 f_15.2 c_17 ty_43 | omega)⟩, (hX_13.st (St_k_fTerm_1_s_1_mk ⟨x_12, G_8, y_43, G_39, rfl, rfl, f_15, hB_G_8, ⟨c_17, ⟨r_18, G_19, hX_22, ⟨c_24, ⟨r_25, G_26, hX_29, ⟨r_31, G_32, hX_35, ⟨c_37, ⟨G_39, hX_42, ⟨y_43, ty_43, ⟨rfl, rfl⟩⟩⟩⟩⟩⟩⟩⟩⟩⟩)), hW, hB_G_39, hF, (Fr.call9 (rs := [17]) (fs := [(1, 12), (1, 13), (3, 2), (3, 3), (3, 4), (3, 5), (3, 6), (3, 7), (3, 8), (4, 2)]) (Fr.call9 (rs := [17]) (fs := [(1, 12), (1, 13), (3, 2), (3, 3), (3, 4), (3, 5), (3, 6), (3, 7), (3, 8), (4, 2)]) (Fr.call9 (rs := [17]) (fs := [(1, 12), (1, 13), (3, 2), (3, 3), (3, 4), (3, 5), (3, 6), (3, 7), (3, 8), (4, 2)]) (Fr.call9 (rs := [17]) (fs := [(1, 12), (1, 13), (3, 2), (3, 3), (3, 4), (3, 5), (3, 6), (3, 7), (3, 8), (4, 2)]) (Fr.call9 (rs := [17]) (fs := [(1, 12), (1, 13), (3, 2), (3, 3), (3, 4), (3, 5), (3, 6), (3, 7), (3, 8), (4, 2)]) Fr.rf hq_9 rfl rfl) hq_20 rfl rfl) hq_27 rfl rfl) hq_33 rfl rfl) hq_40 rfl rfl), hS, lv_sub hl [0, 2, 3] rfl⟩
        · have c_37 : r_31.toInt = 0 := xI_eq rfl rfl c_37
          refine ic_0 hx hb dX2_passTerm_56 ?_
          exact W.zret (v := 0) hx hb hr (by decide) (fun t ht _ => ⟨⟨0, G_32, rfl, (P_fTerm_1_s_mk ⟨hB_G_32, hF, ⟨by decide, by decide⟩, ⟨r_1, G_2, hX_5, (Or.inr ⟨c_7, ⟨x_12, G_8, hX_13, f_15, hB_G_8, hq_9, (Or.inr ⟨c_17, ⟨r_18, G_19, hX_22, (Or.inr ⟨c_24, ⟨r_25, G_26, hX_29, ⟨r_31, G_32, hX_35, ⟨c_37, ⟨rfl, rfl⟩⟩⟩⟩⟩)⟩⟩)⟩⟩)⟩⟩), wd_t ht hW⟩, hS.F ht⟩) hS.2.2 dX2_passTerm_57
  · have c_7 : r_1.toInt = 0 := xI_eq rfl rfl c_7
    refine ic_0 hx hb dX2_passTerm_8 ?_
    exact W.zret (v := 0) hx hb hr (by decide) (fun t ht _ => ⟨⟨0, G_2, rfl, (P_fTerm_1_s_mk ⟨hB_G_2, hF, ⟨by decide, by decide⟩, ⟨r_1, G_2, hX_5, (Or.inl ⟨c_7, ⟨rfl, rfl⟩⟩)⟩⟩), wd_t ht hW⟩, hS.F ht⟩) hS.2.2 dX2_passTerm_9

set_option maxHeartbeats 4000000 in
set_option maxRecDepth 100000 in
theorem k_fSum_1_s (l : Launch) (D : va_G) (k : KT) (A : Nat → Prop) (a : Nat → Nat) (z : SK) (fn ln n : Nat) (E O : XR) (hEb : ∀ (p0 : Int32) (G : GS) (r : Int32) (G1 : GS), E p0 G r G1 → Bd G1 ∧ Fr [17] [(1, 12), (1, 13), (3, 2), (3, 3), (3, 4), (3, 5), (3, 6), (3, 7), (3, 8), (4, 2)] G G1 ∧ (0 ≤ r.toInt ∧ r.toInt ≤ 1)) (hOb : ∀ (p0 : Int32) (G : GS) (r : Int32) (G1 : GS), O p0 G r G1 → Bd G1 ∧ Fr [17] [(1, 12), (1, 13), (3, 2), (3, 3), (3, 4), (3, 5), (3, 6), (3, 7), (3, 8), (4, 2)] G G1 ∧ (0 ≤ r.toInt ∧ r.toInt ≤ 1)) (hE : ∀ (G : GS) (p0 : Int32) (ha_p0 : 0 ≤ p0.toInt ∧ p0.toInt ≤ 7) (hv_4_1 : G.2.2 4 1 = 1) (hd : 8 ≤ p0.toInt + (n : Int)), Met l yX2_passEither (WS yX2_passEither cX2_passEither 3 (some .boolean)) ({ frames := fn + 2, cells := 0, slots := 0, locals := ln + 43 }) (va_Pc [.ref (a 4), .int p0] (cW D k A a z G)) (va_Qi (fun (r : Int32) (G1 : GS) => E p0 G r G1) (fun (G1 : GS) t => Wd D k A a G1 t.heap) A) 0 0 A) (hO : ∀ (G : GS) (p0 : Int32) (ha_p0 : 0 ≤ p0.toInt ∧ p0.toInt ≤ 7) (hv_4_1 : G.2.2 4 1 = 1) (hd : 8 ≤ p0.toInt + (n : Int)), Met l yX2_passOne (WS yX2_passOne cX2_passOne 2 (some .boolean)) ({ frames := fn + 0, cells := 0, slots := 0, locals := ln + 0 }) (va_Pc [.ref (a 4), .int p0] (cW D k A a z G)) (va_Qi (fun (r : Int32) (G1 : GS) => O p0 G r G1) (fun (G1 : GS) t => Wd D k A a G1 t.heap) A) 0 0 A) (G : GS) (p0 : Int32) (ha_p0 : 0 ≤ p0.toInt ∧ p0.toInt ≤ 7) (hv_4_1 : G.2.2 4 1 = 1) (hd : 8 ≤ p0.toInt + (n : Int) + 1) : Met l yX2_passSum (WS yX2_passSum cX2_passSum 4 (some .boolean)) ({ frames := fn + 10, cells := 0, slots := 0, locals := ln + 213 }) (va_Pc [.ref (a 4), .int p0] (cW D k A a z G)) (va_Qi (fun (r : Int32) (G1 : GS) => P_fSum_1_s E O p0 G r G1) (fun (G1 : GS) t => Wd D k A a G1 t.heap) A) 0 0 A := by
  refine Met.ofW (cc := cX2_passSum) (maxL := 4) (ret := (some .boolean)) (by decide) rfl ?_
  intro p e s m args below meth c s₁ B hml hv
  obtain ⟨rfl, hW, hB_G, hK, hZ⟩ := hv
  have hx := B.exec
  have hb := B.bytes
  have hr := B.returns
  have hts := atoms_spec (ws := WS yX2_passSum cX2_passSum 4 (some .boolean)) B.pre
  have hgd : ∀ w ∈ gd, w ∈ WS yX2_passSum cX2_passSum 4 (some .boolean) := fun w h => List.mem_cons_of_mem _ h
  have hg : ∀ w ∈ gd, w.before _ s = true := fun w h => hts w (hgd w h)
  have hown : s.vm.findClass RX2 = some m.cls := findClass_of_methodNamed B.named
  have hS : va_S A s.heap s.heap [] := va_S.rf
  have hF : Fr [17] [(1, 12), (1, 13), (3, 2), (3, 3), (3, 4), (3, 5), (3, 6), (3, 7), (3, 8), (4, 2)] G G := Fr.rf
  have hl := lv_entry ([.ref (a 4), .int p0]) (n := 4) (Nat.le_of_ble_eq_true rfl)
  rw [lg_entry_eq]
  generalize (lg_sl ([.ref (a 4), .int p0]) ++ List.replicate (4 - (lg_sl ([.ref (a 4), .int p0])).length) Slot.unset).toArray = ls at hl ⊢
  have hl : lv_has ls 4 [(0, .ref (a 4)), (1, .int p0)] := hl
  refine lv_aload_n hx hb dX2_passSum_0 rfl (lv_at hl 0 rfl) ?_
  refine lv_iload_n hx hb dX2_passSum_1 rfl (lv_at hl 1 rfl) ?_
  refine S_calli (va_runV (As := [.int p0]) (rest := []) ⟨hx, hb, hml, hown, hts⟩ (k_fTerm_1_s l D k A a z fn ln n E O hEb hOb hE hO G p0 ⟨(by first | exact ha_p0.1 | omega), (by first | exact ha_p0.2 | omega)⟩ hv_4_1 ((by first | exact hd | omega))) (cwV 1 hts (gd_V hgd m841 m843 m21 m121 m844) rfl rfl rfl hd_X2_passTerm ⟨show fn + 9 + 1 ≤ fn + 10 from sy_2 fn (Nat.le_of_ble_eq_true rfl), show 8 + (4 + 11) + (ln + 190) ≤ ln + 213 from sy_3 ln (Nat.le_of_ble_eq_true rfl)⟩) (pre_W hW hB_G hK hZ hS kd_4 rfl) rfl rfl hl.1 rfl (lv_room (Nat.le_of_ble_eq_true rfl)) dX2_passSum_2 ⟨Nat.le_of_ble_eq_true rfl, Nat.le_of_ble_eq_true rfl⟩) hS (fun r_1 G_2 H locs hpo hW hS => ?_)
  have hX_5 : P_fTerm_1_s E O p0 G r_1 G_2 := hpo
  obtain ⟨hB_G_2, hq_3, f_6, -⟩ := hpo
  have hF := hF.call9 hq_3 rfl rfl
  refine lv_if_ne (tgt := 10) hx hb dX2_passSum_5 rfl (fun c_7 => ?_) (fun c_7 => ?_)
  · have c_7 : r_1.toInt ≠ 0 := xI_ne rfl rfl c_7
    refine ic_0 hx hb dX2_passSum_10 ?_
    refine lv_istore_n (lv' := [(2, .int 0), (0, .ref (a 4)), (1, .int p0)]) hx hb dX2_passSum_11 rfl hl (lt_b rfl) rfl (fun ls hl => ?_)
    have qc_14 : (0 : Int32).toInt = 0 := rfl
    refine loop_N (Inv := fun n H locs ls => ∃ (G_8 : GS) (x_12 : Int32), (n : Int) = 1600 - x_12.toInt ∧ (0 ≤ x_12.toInt ∧ x_12.toInt ≤ 1600) ∧ Rc (St_k_fSum_1_s_1 E O p0) (0, G_2) (x_12, G_8) ∧ Wd D k A a G_8 H ∧ Bd G_8 ∧ Fr [17] [(1, 12), (1, 13), (3, 2), (3, 3), (3, 4), (3, 5), (3, 6), (3, 7), (3, 8), (4, 2)] G G_8 ∧ Fr [17] [(1, 12), (1, 13), (3, 2), (3, 3), (3, 4), (3, 5), (3, 6), (3, 7), (3, 8), (4, 2)] G_2 G_8 ∧ va_S A s.heap H locs ∧ lv_has ls 4 [(2, .int x_12), (0, .ref (a 4)), (1, .int p0)]) (fun n_11 H locs ls ih_10 hI => ?_) (1600 - 0 : Int).toNat ⟨G_2, 0, (Int.toNat_of_nonneg ((by decide))), ⟨(by decide), (by decide)⟩, Rc.rf, hW, hB_G_2, hF, Fr.rf, hS, lv_sub hl [0, 1, 2] rfl⟩
    obtain ⟨G_8, x_12, hn_16, f_15, hX_13, hW, hB_G_8, hF, hq_9, hS, hl⟩ := hI
    refine lv_iload_n hx hb dX2_passSum_12 rfl (lv_at hl 0 rfl) ?_
    refine lv_sipush (v := 1600) hx hb dX2_passSum_13 (by decide) ?_
    refine lv_icmp_ge (tgt := 84) hx hb dX2_passSum_16 rfl (fun c_17 => ?_) (fun c_17 => ?_)
    · have c_17 : 1600 ≤ x_12.toInt := xI_le rfl rfl c_17
      refine ic_1 hx hb dX2_passSum_84 ?_
      exact W.zret (v := 1) hx hb hr (by decide) (fun t ht _ => ⟨⟨1, G_8, rfl, (P_fSum_1_s_mk ⟨hB_G_8, hF, ⟨by decide, by decide⟩, ⟨r_1, G_2, hX_5, (Or.inr ⟨c_7, ⟨x_12, G_8, hX_13, f_15, hB_G_8, hq_9, (Or.inl ⟨c_17, ⟨rfl, rfl⟩⟩)⟩⟩)⟩⟩), wd_t ht hW⟩, hS.F ht⟩) hS.2.2 dX2_passSum_85
    · have c_17 : x_12.toInt < 1600 := xI_nle rfl rfl c_17
      refine lv_aload_n hx hb dX2_passSum_19 rfl (lv_at hl 1 rfl) ?_
      refine S_getR (n := 3) (C := RX2) (T := TX2) (N := 3) hx hb hg iX2 hown hK hW kd_4 rfl 0 (lt_b rfl) (hg (Cond.fieldLink RX2 9 "SlabWalk$Formulas" "tokens" "LSlabWalk$Tokens;") m301) (fun _ h9 => h9) rfl dX2_passSum_20 ?_
      refine S_getI (v := (G_8.1 3 3)) (C := RX9) (T := TX9) (N := 9) hx hb hg iX9 hown hK hW kd_3 rfl 3 (lt_b rfl) (hg (Cond.fieldLink RX2 30 "SlabWalk$Tokens" "kind" "I") m263) (fun _ h9 => h9) rfl rfl dX2_passSum_23 ?_
      refine lv_bipush (v := 43) hx hb dX2_passSum_26 (by decide) ?_
      refine W.cut (σ := Unit) (pcJ := 43) (J := fun y H locs ls => ∃ (G_21 : GS), Jn_k_fSum_1_s_2 E O G_8 G_21 ∧ Wd D k A a G_21 H ∧ Bd G_21 ∧ Fr [17] [(1, 12), (1, 13), (3, 2), (3, 3), (3, 4), (3, 5), (3, 6), (3, 7), (3, 8), (4, 2)] G G_21 ∧ Fr [] [] G_8 G_21 ∧ va_S A s.heap H locs ∧ lv_has ls 4 [(2, .int x_12), (0, .ref (a 4)), (1, .int p0)]) (stJ := fun _ => []) ?_ (fun hJ_22 => ?_)
      · intro y H locs ls hI
        obtain ⟨G_21, hX_24, hW, hB_G_21, hF, hq_23, hS, hl⟩ := hI
        refine lv_aload_n hx hb dX2_passSum_43 rfl (lv_at hl 1 rfl) ?_
        refine S_getR (n := 3) (C := RX2) (T := TX2) (N := 3) hx hb hg iX2 hown hK hW kd_4 rfl 0 (lt_b rfl) (hg (Cond.fieldLink RX2 9 "SlabWalk$Formulas" "tokens" "LSlabWalk$Tokens;") m301) (fun _ h9 => h9) rfl dX2_passSum_44 ?_
        refine S_getI (v := (G_8.1 3 3)) (C := RX9) (T := TX9) (N := 9) hx hb hg iX9 hown hK hW kd_3 rfl 3 (lt_b rfl) (hg (Cond.fieldLink RX2 30 "SlabWalk$Tokens" "kind" "I") m263) (fun _ h9 => h9) rfl ((hq_23.i9 3 3 rfl rfl).trans (rfl)) dX2_passSum_47 ?_
        refine lv_istore_n (lv' := [(3, .int (G_8.1 3 3)), (2, .int x_12), (0, .ref (a 4)), (1, .int p0)]) hx hb dX2_passSum_50 rfl hl (lt_b rfl) rfl (fun ls hl => ?_)
        refine lv_aload_n hx hb dX2_passSum_51 rfl (lv_at hl 2 rfl) ?_
        refine S_getR (n := 3) (C := RX2) (T := TX2) (N := 3) hx hb hg iX2 hown hK hW kd_4 rfl 0 (lt_b rfl) (hg (Cond.fieldLink RX2 9 "SlabWalk$Formulas" "tokens" "LSlabWalk$Tokens;") m301) (fun _ h9 => h9) rfl dX2_passSum_52 ?_
        refine S_calli (va_runV (As := []) (rest := []) ⟨hx, hb, hml, hown, hts⟩ (k_tAdvance l D k A a z G_21  ) (cwV 0 hts (gd_V hgd m854 m639 m640 m120 m641) rfl rfl rfl hd_X9_advance ⟨show 6 + 1 ≤ fn + 10 from sy_1 fn (Nat.le_of_ble_eq_true rfl), show 8 + (2 + 11) + (127) ≤ ln + 213 from sy_1 ln (Nat.le_of_ble_eq_true rfl)⟩) (pre_W hW hB_G_21 hK hZ hS kd_3 rfl) rfl rfl hl.1 rfl (lv_room (Nat.le_of_ble_eq_true rfl)) dX2_passSum_55 ⟨Nat.le_of_ble_eq_true rfl, Nat.le_of_ble_eq_true rfl⟩) hS (fun r_25 G_26 H locs hpo hW hS => ?_)
        have hX_29 : P_tAdvance G_21 r_25 G_26 := hpo
        obtain ⟨hB_G_26, hq_27, f_30, -⟩ := hpo
        have hF := hF.call9 hq_27 rfl rfl
        refine lv_pop hx hb dX2_passSum_58 rfl ?_
        refine lv_aload_n hx hb dX2_passSum_59 rfl (lv_at hl 2 rfl) ?_
        refine lv_iload_n hx hb dX2_passSum_60 rfl (lv_at hl 3 rfl) ?_
        refine S_calli (va_runV (As := [.int p0]) (rest := []) ⟨hx, hb, hml, hown, hts⟩ (k_fTerm_1_s l D k A a z fn ln n E O hEb hOb hE hO G_26 p0 ⟨(by first | exact ha_p0.1 | omega), (by first | exact ha_p0.2 | omega)⟩ ((((hq_27.r9 4 1 rfl rfl).trans ((hq_23.r9 4 1 rfl rfl).trans ((hq_9.r9 4 1 rfl rfl).trans (hq_3.r9 4 1 rfl rfl))))).trans (hv_4_1)) ((by first | exact hd | omega))) (cwV 1 hts (gd_V hgd m841 m843 m21 m121 m844) rfl rfl rfl hd_X2_passTerm ⟨show fn + 9 + 1 ≤ fn + 10 from sy_2 fn (Nat.le_of_ble_eq_true rfl), show 8 + (4 + 11) + (ln + 190) ≤ ln + 213 from sy_3 ln (Nat.le_of_ble_eq_true rfl)⟩) (pre_W hW hB_G_26 hK hZ hS kd_4 rfl) rfl rfl hl.1 rfl (lv_room (Nat.le_of_ble_eq_true rfl)) dX2_passSum_61 ⟨Nat.le_of_ble_eq_true rfl, Nat.le_of_ble_eq_true rfl⟩) hS (fun r_31 G_32 H locs hpo hW hS => ?_)
        have hX_35 : P_fTerm_1_s E O p0 G_26 r_31 G_32 := hpo
        obtain ⟨hB_G_32, hq_33, f_36, -⟩ := hpo
        have hF := hF.call9 hq_33 rfl rfl
        refine lv_if_ne (tgt := 69) hx hb dX2_passSum_64 rfl (fun c_37 => ?_) (fun c_37 => ?_)
        · have c_37 : r_31.toInt ≠ 0 := xI_ne rfl rfl c_37
          refine lv_aload_n hx hb dX2_passSum_69 rfl (lv_at hl 2 rfl) ?_
          refine S_getV (n := 1) (C := RX2) (T := TX2) (N := 3) hx hb hg iX2 hown hK hW kd_4 rfl 1 (lt_b rfl) (hg (Cond.fieldLink RX2 15 "SlabWalk$Formulas" "paving" "LSlabWalk$Paving;") m302) (fun _ h9 => h9) rfl ((((hq_33.r9 4 1 rfl rfl).trans ((hq_27.r9 4 1 rfl rfl).trans ((hq_23.r9 4 1 rfl rfl).trans ((hq_9.r9 4 1 rfl rfl).trans (hq_3.r9 4 1 rfl rfl)))))).trans (hv_4_1)) dX2_passSum_70 ?_
          refine lv_iload_n hx hb dX2_passSum_73 rfl (lv_at hl 0 rfl) ?_
          refine ic_0 hx hb dX2_passSum_74 ?_
          refine S_callv (va_runV (As := [.int (G_8.1 3 3), .int 0]) (rest := []) ⟨hx, hb, hml, hown, hts⟩ (k_emit_1 l D k A a z G_32 (G_8.1 3 3) 0 ) (cwV 2 hts (gd_V hgd m855 m856 m857 m118 m858) rfl rfl rfl hd_X6_emit ⟨show 0 + 1 ≤ fn + 10 from sy_1 fn (Nat.le_of_ble_eq_true rfl), show 8 + (3 + 11) + (0) ≤ ln + 213 from sy_1 ln (Nat.le_of_ble_eq_true rfl)⟩) (pre_W hW hB_G_32 hK hZ hS kd_1 rfl) rfl rfl hl.1 rfl (lv_room (Nat.le_of_ble_eq_true rfl)) dX2_passSum_75 ⟨Nat.le_of_ble_eq_true rfl, Nat.le_of_ble_eq_true rfl⟩) hS (fun G_39 H locs hpo hW hS => ?_)
          have hX_42 : P_emit_1 (G_8.1 3 3) 0 G_32 G_39 := hpo
          obtain ⟨hB_G_39, hq_40, -⟩ := hpo
          have hF := hF.call9 hq_40 rfl rfl
          obtain ⟨y_43, ey_43⟩ : ∃ q, q = x_12 + 1 := ⟨_, rfl⟩
          have ty_43 : y_43.toInt = x_12.toInt + 1 := xI_add rfl rfl ey_43 ((by first | exact ok_21 f_15.1 | omega)) ((by first | exact ok_122 f_15.2 | omega))
          refine lv_iinc (v := y_43) (lv' := [(2, .int y_43), (3, .int (G_8.1 3 3)), (0, .ref (a 4)), (1, .int p0)]) hx hb dX2_passSum_78 hl (k := 1) rfl (by rw [ey_43]; rfl) (lt_b rfl) rfl (fun ls hl => ?_)
          refine lv_goto (tgt := 12) hx hb dX2_passSum_81 rfl ?_
          exact ih_10 (1600 - y_43.toInt : Int).toNat ((by first | (clear ha_p0 hd f_6 c_7 f_30 f_36 c_37; omega) | omega)) _ _ _ ⟨G_39, y_43, (Int.toNat_of_nonneg ((by first | exact ok_388 f_15.2 c_17 ty_43 | omega))), ⟨(by first | exact ok_23 f_15.1 ty_43 | omega), (by first | exact ok_389 f_15.2 c_17 ty_43 | omega)⟩, (hX_13.st (St_k_fSum_1_s_1_mk ⟨x_12, G_8, y_43, G_39, rfl, rfl, f_15, hB_G_8, ⟨c_17, ⟨G_21, hX_24, hB_G_21, hq_23, ⟨r_25, G_26, hX_29, ⟨r_31, G_32, hX_35, ⟨c_37, ⟨G_39, hX_42, ⟨y_43, ty_43, ⟨rfl, rfl⟩⟩⟩⟩⟩⟩⟩⟩⟩)), hW, hB_G_39, hF, (Fr.call9 (rs := [17]) (fs := [(1, 12), (1, 13), (3, 2), (3, 3), (3, 4), (3, 5), (3, 6), (3, 7), (3, 8), (4, 2)]) (Fr.call9 (rs := [17]) (fs := [(1, 12), (1, 13), (3, 2), (3, 3), (3, 4), (3, 5), (3, 6), (3, 7), (3, 8), (4, 2)]) (Fr.call9 (rs := [17]) (fs := [(1, 12), (1, 13), (3, 2), (3, 3), (3, 4), (3, 5), (3, 6), (3, 7), (3, 8), (4, 2)]) (Fr.call9 (rs := [17]) (fs := [(1, 12), (1, 13), (3, 2), (3, 3), (3, 4), (3, 5), (3, 6), (3, 7), (3, 8), (4, 2)]) (Fr.call9 (rs := [17]) (fs := [(1, 12), (1, 13), (3, 2), (3, 3), (3, 4), (3, 5), (3, 6), (3, 7), (3, 8), (4, 2)]) Fr.rf hq_9 rfl rfl) hq_23 rfl rfl) hq_27 rfl rfl) hq_33 rfl rfl) hq_40 rfl rfl), hS, lv_sub hl [0, 2, 3] rfl⟩
        · have c_37 : r_31.toInt = 0 := xI_eq rfl rfl c_37
          refine ic_0 hx hb dX2_passSum_67 ?_
          exact W.zret (v := 0) hx hb hr (by decide) (fun t ht _ => ⟨⟨0, G_32, rfl, (P_fSum_1_s_mk ⟨hB_G_32, hF, ⟨by decide, by decide⟩, ⟨r_1, G_2, hX_5, (Or.inr ⟨c_7, ⟨x_12, G_8, hX_13, f_15, hB_G_8, hq_9, (Or.inr ⟨c_17, (Or.inr ⟨G_21, hX_24, hB_G_21, hq_23, ⟨r_25, G_26, hX_29, ⟨r_31, G_32, hX_35, ⟨c_37, ⟨rfl, rfl⟩⟩⟩⟩⟩)⟩)⟩⟩)⟩⟩), wd_t ht hW⟩, hS.F ht⟩) hS.2.2 dX2_passSum_68
      refine lv_icmp_eq (tgt := 43) hx hb dX2_passSum_28 rfl (fun c_44 => ?_) (fun c_44 => ?_)
      · have c_44 : (G_8.1 3 3).toInt = 43 := xI_eq rfl rfl c_44
        exact hJ_22 () _ _ _ ⟨G_8, (Jn_k_fSum_1_s_2_mk (Or.inl ⟨c_44, rfl⟩)), hW, hB_G_8, hF, (Fr.rf (rs := []) (fs := [])), hS, lv_sub hl [0, 1, 2] rfl⟩
      · have c_44 : (G_8.1 3 3).toInt ≠ 43 := xI_ne rfl rfl c_44
        refine lv_aload_n hx hb dX2_passSum_31 rfl (lv_at hl 1 rfl) ?_
        refine S_getR (n := 3) (C := RX2) (T := TX2) (N := 3) hx hb hg iX2 hown hK hW kd_4 rfl 0 (lt_b rfl) (hg (Cond.fieldLink RX2 9 "SlabWalk$Formulas" "tokens" "LSlabWalk$Tokens;") m301) (fun _ h9 => h9) rfl dX2_passSum_32 ?_
        refine S_getI (v := (G_8.1 3 3)) (C := RX9) (T := TX9) (N := 9) hx hb hg iX9 hown hK hW kd_3 rfl 3 (lt_b rfl) (hg (Cond.fieldLink RX2 30 "SlabWalk$Tokens" "kind" "I") m263) (fun _ h9 => h9) rfl rfl dX2_passSum_35 ?_
        refine lv_bipush (v := 45) hx hb dX2_passSum_38 (by decide) ?_
        refine lv_icmp_ne (tgt := 84) hx hb dX2_passSum_40 rfl (fun c_45 => ?_) (fun c_45 => ?_)
        · have c_45 : (G_8.1 3 3).toInt ≠ 45 := xI_ne rfl rfl c_45
          refine ic_1 hx hb dX2_passSum_84 ?_
          exact W.zret (v := 1) hx hb hr (by decide) (fun t ht _ => ⟨⟨1, G_8, rfl, (P_fSum_1_s_mk ⟨hB_G_8, hF, ⟨by decide, by decide⟩, ⟨r_1, G_2, hX_5, (Or.inr ⟨c_7, ⟨x_12, G_8, hX_13, f_15, hB_G_8, hq_9, (Or.inr ⟨c_17, (Or.inl ⟨c_44, ⟨c_45, ⟨rfl, rfl⟩⟩⟩)⟩)⟩⟩)⟩⟩), wd_t ht hW⟩, hS.F ht⟩) hS.2.2 dX2_passSum_85
        · have c_45 : (G_8.1 3 3).toInt = 45 := xI_eq rfl rfl c_45
          exact hJ_22 () _ _ _ ⟨G_8, (Jn_k_fSum_1_s_2_mk (Or.inr ⟨c_44, ⟨c_45, rfl⟩⟩)), hW, hB_G_8, hF, (Fr.rf (rs := []) (fs := [])), hS, lv_sub hl [0, 1, 2] rfl⟩
  · have c_7 : r_1.toInt = 0 := xI_eq rfl rfl c_7
    refine ic_0 hx hb dX2_passSum_8 ?_
    exact W.zret (v := 0) hx hb hr (by decide) (fun t ht _ => ⟨⟨0, G_2, rfl, (P_fSum_1_s_mk ⟨hB_G_2, hF, ⟨by decide, by decide⟩, ⟨r_1, G_2, hX_5, (Or.inl ⟨c_7, ⟨rfl, rfl⟩⟩)⟩⟩), wd_t ht hW⟩, hS.F ht⟩) hS.2.2 dX2_passSum_9

set_option maxHeartbeats 4000000 in
set_option maxRecDepth 100000 in
theorem k_fRelation_1_s (l : Launch) (D : va_G) (k : KT) (A : Nat → Prop) (a : Nat → Nat) (z : SK) (fn ln n : Nat) (E O : XR) (hEb : ∀ (p0 : Int32) (G : GS) (r : Int32) (G1 : GS), E p0 G r G1 → Bd G1 ∧ Fr [17] [(1, 12), (1, 13), (3, 2), (3, 3), (3, 4), (3, 5), (3, 6), (3, 7), (3, 8), (4, 2)] G G1 ∧ (0 ≤ r.toInt ∧ r.toInt ≤ 1)) (hOb : ∀ (p0 : Int32) (G : GS) (r : Int32) (G1 : GS), O p0 G r G1 → Bd G1 ∧ Fr [17] [(1, 12), (1, 13), (3, 2), (3, 3), (3, 4), (3, 5), (3, 6), (3, 7), (3, 8), (4, 2)] G G1 ∧ (0 ≤ r.toInt ∧ r.toInt ≤ 1)) (hE : ∀ (G : GS) (p0 : Int32) (ha_p0 : 0 ≤ p0.toInt ∧ p0.toInt ≤ 7) (hv_4_1 : G.2.2 4 1 = 1) (hd : 8 ≤ p0.toInt + (n : Int)), Met l yX2_passEither (WS yX2_passEither cX2_passEither 3 (some .boolean)) ({ frames := fn + 2, cells := 0, slots := 0, locals := ln + 43 }) (va_Pc [.ref (a 4), .int p0] (cW D k A a z G)) (va_Qi (fun (r : Int32) (G1 : GS) => E p0 G r G1) (fun (G1 : GS) t => Wd D k A a G1 t.heap) A) 0 0 A) (hO : ∀ (G : GS) (p0 : Int32) (ha_p0 : 0 ≤ p0.toInt ∧ p0.toInt ≤ 7) (hv_4_1 : G.2.2 4 1 = 1) (hd : 8 ≤ p0.toInt + (n : Int)), Met l yX2_passOne (WS yX2_passOne cX2_passOne 2 (some .boolean)) ({ frames := fn + 0, cells := 0, slots := 0, locals := ln + 0 }) (va_Pc [.ref (a 4), .int p0] (cW D k A a z G)) (va_Qi (fun (r : Int32) (G1 : GS) => O p0 G r G1) (fun (G1 : GS) t => Wd D k A a G1 t.heap) A) 0 0 A) (G : GS) (p0 : Int32) (ha_p0 : 0 ≤ p0.toInt ∧ p0.toInt ≤ 7) (hv_4_1 : G.2.2 4 1 = 1) (hd : 8 ≤ p0.toInt + (n : Int) + 1) : Met l yX2_passRelation (WS yX2_passRelation cX2_passRelation 3 (some .boolean)) ({ frames := fn + 11, cells := 0, slots := 0, locals := ln + 236 }) (va_Pc [.ref (a 4), .int p0] (cW D k A a z G)) (va_Qi (fun (r : Int32) (G1 : GS) => P_fRelation_1_s E O p0 G r G1) (fun (G1 : GS) t => Wd D k A a G1 t.heap) A) 0 0 A := by
  refine Met.ofW (cc := cX2_passRelation) (maxL := 3) (ret := (some .boolean)) (by decide) rfl ?_
  intro p e s m args below meth c s₁ B hml hv
  obtain ⟨rfl, hW, hB_G, hK, hZ⟩ := hv
  have hx := B.exec
  have hb := B.bytes
  have hr := B.returns
  have hts := atoms_spec (ws := WS yX2_passRelation cX2_passRelation 3 (some .boolean)) B.pre
  have hgd : ∀ w ∈ gd, w ∈ WS yX2_passRelation cX2_passRelation 3 (some .boolean) := fun w h => List.mem_cons_of_mem _ h
  have hg : ∀ w ∈ gd, w.before _ s = true := fun w h => hts w (hgd w h)
  have hown : s.vm.findClass RX2 = some m.cls := findClass_of_methodNamed B.named
  have hS : va_S A s.heap s.heap [] := va_S.rf
  have hF : Fr [17] [(1, 12), (1, 13), (3, 2), (3, 3), (3, 4), (3, 5), (3, 6), (3, 7), (3, 8), (4, 2)] G G := Fr.rf
  have hl := lv_entry ([.ref (a 4), .int p0]) (n := 3) (Nat.le_of_ble_eq_true rfl)
  rw [lg_entry_eq]
  generalize (lg_sl ([.ref (a 4), .int p0]) ++ List.replicate (3 - (lg_sl ([.ref (a 4), .int p0])).length) Slot.unset).toArray = ls at hl ⊢
  have hl : lv_has ls 3 [(0, .ref (a 4)), (1, .int p0)] := hl
  refine lv_aload_n hx hb dX2_passRelation_0 rfl (lv_at hl 0 rfl) ?_
  refine lv_iload_n hx hb dX2_passRelation_1 rfl (lv_at hl 1 rfl) ?_
  refine S_calli (va_runV (As := [.int p0]) (rest := []) ⟨hx, hb, hml, hown, hts⟩ (k_fSum_1_s l D k A a z fn ln n E O hEb hOb hE hO G p0 ⟨(by first | exact ha_p0.1 | omega), (by first | exact ha_p0.2 | omega)⟩ hv_4_1 ((by first | exact hd | omega))) (cwV 1 hts (gd_V hgd m837 m839 m20 m121 m840) rfl rfl rfl hd_X2_passSum ⟨show fn + 10 + 1 ≤ fn + 11 from sy_2 fn (Nat.le_of_ble_eq_true rfl), show 8 + (4 + 11) + (ln + 213) ≤ ln + 236 from sy_3 ln (Nat.le_of_ble_eq_true rfl)⟩) (pre_W hW hB_G hK hZ hS kd_4 rfl) rfl rfl hl.1 rfl (lv_room (Nat.le_of_ble_eq_true rfl)) dX2_passRelation_2 ⟨Nat.le_of_ble_eq_true rfl, Nat.le_of_ble_eq_true rfl⟩) hS (fun r_1 G_2 H locs hpo hW hS => ?_)
  have hX_5 : P_fSum_1_s E O p0 G r_1 G_2 := hpo
  obtain ⟨hB_G_2, hq_3, f_6, -⟩ := hpo
  have hF := hF.call9 hq_3 rfl rfl
  refine lv_if_ne (tgt := 10) hx hb dX2_passRelation_5 rfl (fun c_7 => ?_) (fun c_7 => ?_)
  · have c_7 : r_1.toInt ≠ 0 := xI_ne rfl rfl c_7
    refine lv_aload_n hx hb dX2_passRelation_10 rfl (lv_at hl 0 rfl) ?_
    refine S_getR (n := 3) (C := RX2) (T := TX2) (N := 3) hx hb hg iX2 hown hK hW kd_4 rfl 0 (lt_b rfl) (hg (Cond.fieldLink RX2 9 "SlabWalk$Formulas" "tokens" "LSlabWalk$Tokens;") m301) (fun _ h9 => h9) rfl dX2_passRelation_11 ?_
    refine S_getI (v := (G_2.1 3 3)) (C := RX9) (T := TX9) (N := 9) hx hb hg iX9 hown hK hW kd_3 rfl 3 (lt_b rfl) (hg (Cond.fieldLink RX2 30 "SlabWalk$Tokens" "kind" "I") m263) (fun _ h9 => h9) rfl rfl dX2_passRelation_14 ?_
    refine lv_istore_n (lv' := [(2, .int (G_2.1 3 3)), (0, .ref (a 4)), (1, .int p0)]) hx hb dX2_passRelation_17 rfl hl (lt_b rfl) rfl (fun ls hl => ?_)
    refine lv_iload_n hx hb dX2_passRelation_18 rfl (lv_at hl 0 rfl) ?_
    refine lv_bipush (v := 60) hx hb dX2_passRelation_19 (by decide) ?_
    refine W.cut (σ := Unit) (pcJ := 38) (J := fun y H locs ls => ∃ (G_11 : GS), Jn_k_fRelation_1_s_1 E O G_2 G_11 ∧ Wd D k A a G_11 H ∧ Bd G_11 ∧ Fr [17] [(1, 12), (1, 13), (3, 2), (3, 3), (3, 4), (3, 5), (3, 6), (3, 7), (3, 8), (4, 2)] G G_11 ∧ Fr [] [] G_2 G_11 ∧ va_S A s.heap H locs ∧ lv_has ls 3 [(2, .int (G_2.1 3 3)), (0, .ref (a 4)), (1, .int p0)]) (stJ := fun _ => []) ?_ (fun hJ_12 => ?_)
    · intro y H locs ls hI
      obtain ⟨G_11, hX_14, hW, hB_G_11, hF, hq_13, hS, hl⟩ := hI
      refine lv_aload_n hx hb dX2_passRelation_38 rfl (lv_at hl 1 rfl) ?_
      refine S_getR (n := 3) (C := RX2) (T := TX2) (N := 3) hx hb hg iX2 hown hK hW kd_4 rfl 0 (lt_b rfl) (hg (Cond.fieldLink RX2 9 "SlabWalk$Formulas" "tokens" "LSlabWalk$Tokens;") m301) (fun _ h9 => h9) rfl dX2_passRelation_39 ?_
      refine S_calli (va_runV (As := []) (rest := []) ⟨hx, hb, hml, hown, hts⟩ (k_tAdvance l D k A a z G_11  ) (cwV 0 hts (gd_V hgd m854 m639 m640 m120 m641) rfl rfl rfl hd_X9_advance ⟨show 6 + 1 ≤ fn + 11 from sy_1 fn (Nat.le_of_ble_eq_true rfl), show 8 + (2 + 11) + (127) ≤ ln + 236 from sy_1 ln (Nat.le_of_ble_eq_true rfl)⟩) (pre_W hW hB_G_11 hK hZ hS kd_3 rfl) rfl rfl hl.1 rfl (lv_room (Nat.le_of_ble_eq_true rfl)) dX2_passRelation_42 ⟨Nat.le_of_ble_eq_true rfl, Nat.le_of_ble_eq_true rfl⟩) hS (fun r_15 G_16 H locs hpo hW hS => ?_)
      have hX_19 : P_tAdvance G_11 r_15 G_16 := hpo
      obtain ⟨hB_G_16, hq_17, f_20, -⟩ := hpo
      have hF := hF.call9 hq_17 rfl rfl
      refine lv_pop hx hb dX2_passRelation_45 rfl ?_
      refine lv_aload_n hx hb dX2_passRelation_46 rfl (lv_at hl 1 rfl) ?_
      refine lv_iload_n hx hb dX2_passRelation_47 rfl (lv_at hl 2 rfl) ?_
      refine S_calli (va_runV (As := [.int p0]) (rest := []) ⟨hx, hb, hml, hown, hts⟩ (k_fSum_1_s l D k A a z fn ln n E O hEb hOb hE hO G_16 p0 ⟨(by first | exact ha_p0.1 | omega), (by first | exact ha_p0.2 | omega)⟩ ((((hq_17.r9 4 1 rfl rfl).trans ((hq_13.r9 4 1 rfl rfl).trans (hq_3.r9 4 1 rfl rfl)))).trans (hv_4_1)) ((by first | exact hd | omega))) (cwV 1 hts (gd_V hgd m837 m839 m20 m121 m840) rfl rfl rfl hd_X2_passSum ⟨show fn + 10 + 1 ≤ fn + 11 from sy_2 fn (Nat.le_of_ble_eq_true rfl), show 8 + (4 + 11) + (ln + 213) ≤ ln + 236 from sy_3 ln (Nat.le_of_ble_eq_true rfl)⟩) (pre_W hW hB_G_16 hK hZ hS kd_4 rfl) rfl rfl hl.1 rfl (lv_room (Nat.le_of_ble_eq_true rfl)) dX2_passRelation_48 ⟨Nat.le_of_ble_eq_true rfl, Nat.le_of_ble_eq_true rfl⟩) hS (fun r_21 G_22 H locs hpo hW hS => ?_)
      have hX_25 : P_fSum_1_s E O p0 G_16 r_21 G_22 := hpo
      obtain ⟨hB_G_22, hq_23, f_26, -⟩ := hpo
      have hF := hF.call9 hq_23 rfl rfl
      refine lv_if_ne (tgt := 56) hx hb dX2_passRelation_51 rfl (fun c_27 => ?_) (fun c_27 => ?_)
      · have c_27 : r_21.toInt ≠ 0 := xI_ne rfl rfl c_27
        refine lv_aload_n hx hb dX2_passRelation_56 rfl (lv_at hl 1 rfl) ?_
        refine S_getV (n := 1) (C := RX2) (T := TX2) (N := 3) hx hb hg iX2 hown hK hW kd_4 rfl 1 (lt_b rfl) (hg (Cond.fieldLink RX2 15 "SlabWalk$Formulas" "paving" "LSlabWalk$Paving;") m302) (fun _ h9 => h9) rfl ((((hq_23.r9 4 1 rfl rfl).trans ((hq_17.r9 4 1 rfl rfl).trans ((hq_13.r9 4 1 rfl rfl).trans (hq_3.r9 4 1 rfl rfl))))).trans (hv_4_1)) dX2_passRelation_57 ?_
        refine lv_iload_n hx hb dX2_passRelation_60 rfl (lv_at hl 0 rfl) ?_
        refine ic_0 hx hb dX2_passRelation_61 ?_
        refine S_callv (va_runV (As := [.int (G_2.1 3 3), .int 0]) (rest := []) ⟨hx, hb, hml, hown, hts⟩ (k_emit_1 l D k A a z G_22 (G_2.1 3 3) 0 ) (cwV 2 hts (gd_V hgd m855 m856 m857 m118 m858) rfl rfl rfl hd_X6_emit ⟨show 0 + 1 ≤ fn + 11 from sy_1 fn (Nat.le_of_ble_eq_true rfl), show 8 + (3 + 11) + (0) ≤ ln + 236 from sy_1 ln (Nat.le_of_ble_eq_true rfl)⟩) (pre_W hW hB_G_22 hK hZ hS kd_1 rfl) rfl rfl hl.1 rfl (lv_room (Nat.le_of_ble_eq_true rfl)) dX2_passRelation_62 ⟨Nat.le_of_ble_eq_true rfl, Nat.le_of_ble_eq_true rfl⟩) hS (fun G_29 H locs hpo hW hS => ?_)
        have hX_32 : P_emit_1 (G_2.1 3 3) 0 G_22 G_29 := hpo
        obtain ⟨hB_G_29, hq_30, -⟩ := hpo
        have hF := hF.call9 hq_30 rfl rfl
        refine ic_1 hx hb dX2_passRelation_65 ?_
        exact W.zret (v := 1) hx hb hr (by decide) (fun t ht _ => ⟨⟨1, G_29, rfl, (P_fRelation_1_s_mk ⟨hB_G_29, hF, ⟨by decide, by decide⟩, ⟨r_1, G_2, hX_5, (Or.inr ⟨c_7, (Or.inr ⟨G_11, hX_14, hB_G_11, hq_13, ⟨r_15, G_16, hX_19, ⟨r_21, G_22, hX_25, (Or.inr ⟨c_27, ⟨G_29, hX_32, ⟨rfl, rfl⟩⟩⟩)⟩⟩⟩)⟩)⟩⟩), wd_t ht hW⟩, hS.F ht⟩) hS.2.2 dX2_passRelation_66
      · have c_27 : r_21.toInt = 0 := xI_eq rfl rfl c_27
        refine ic_0 hx hb dX2_passRelation_54 ?_
        exact W.zret (v := 0) hx hb hr (by decide) (fun t ht _ => ⟨⟨0, G_22, rfl, (P_fRelation_1_s_mk ⟨hB_G_22, hF, ⟨by decide, by decide⟩, ⟨r_1, G_2, hX_5, (Or.inr ⟨c_7, (Or.inr ⟨G_11, hX_14, hB_G_11, hq_13, ⟨r_15, G_16, hX_19, ⟨r_21, G_22, hX_25, (Or.inl ⟨c_27, ⟨rfl, rfl⟩⟩)⟩⟩⟩)⟩)⟩⟩), wd_t ht hW⟩, hS.F ht⟩) hS.2.2 dX2_passRelation_55
    refine lv_icmp_eq (tgt := 38) hx hb dX2_passRelation_21 rfl (fun c_33 => ?_) (fun c_33 => ?_)
    · have c_33 : (G_2.1 3 3).toInt = 60 := xI_eq rfl rfl c_33
      exact hJ_12 () _ _ _ ⟨G_2, (Jn_k_fRelation_1_s_1_mk (Or.inl ⟨c_33, rfl⟩)), hW, hB_G_2, hF, (Fr.rf (rs := []) (fs := [])), hS, lv_sub hl [0, 1, 2] rfl⟩
    · have c_33 : (G_2.1 3 3).toInt ≠ 60 := xI_ne rfl rfl c_33
      refine lv_iload_n hx hb dX2_passRelation_24 rfl (lv_at hl 0 rfl) ?_
      refine lv_bipush (v := 62) hx hb dX2_passRelation_25 (by decide) ?_
      refine lv_icmp_eq (tgt := 38) hx hb dX2_passRelation_27 rfl (fun c_34 => ?_) (fun c_34 => ?_)
      · have c_34 : (G_2.1 3 3).toInt = 62 := xI_eq rfl rfl c_34
        exact hJ_12 () _ _ _ ⟨G_2, (Jn_k_fRelation_1_s_1_mk (Or.inr ⟨c_33, (Or.inl ⟨c_34, rfl⟩)⟩)), hW, hB_G_2, hF, (Fr.rf (rs := []) (fs := [])), hS, lv_sub hl [0, 1, 2] rfl⟩
      · have c_34 : (G_2.1 3 3).toInt ≠ 62 := xI_ne rfl rfl c_34
        refine lv_iload_n hx hb dX2_passRelation_30 rfl (lv_at hl 0 rfl) ?_
        refine lv_bipush (v := 61) hx hb dX2_passRelation_31 (by decide) ?_
        refine lv_icmp_eq (tgt := 38) hx hb dX2_passRelation_33 rfl (fun c_35 => ?_) (fun c_35 => ?_)
        · have c_35 : (G_2.1 3 3).toInt = 61 := xI_eq rfl rfl c_35
          exact hJ_12 () _ _ _ ⟨G_2, (Jn_k_fRelation_1_s_1_mk (Or.inr ⟨c_33, (Or.inr ⟨c_34, ⟨c_35, rfl⟩⟩)⟩)), hW, hB_G_2, hF, (Fr.rf (rs := []) (fs := [])), hS, lv_sub hl [0, 1, 2] rfl⟩
        · have c_35 : (G_2.1 3 3).toInt ≠ 61 := xI_ne rfl rfl c_35
          refine ic_1 hx hb dX2_passRelation_36 ?_
          exact W.zret (v := 1) hx hb hr (by decide) (fun t ht _ => ⟨⟨1, G_2, rfl, (P_fRelation_1_s_mk ⟨hB_G_2, hF, ⟨by decide, by decide⟩, ⟨r_1, G_2, hX_5, (Or.inr ⟨c_7, (Or.inl ⟨c_33, ⟨c_34, ⟨c_35, ⟨rfl, rfl⟩⟩⟩⟩)⟩)⟩⟩), wd_t ht hW⟩, hS.F ht⟩) hS.2.2 dX2_passRelation_37
  · have c_7 : r_1.toInt = 0 := xI_eq rfl rfl c_7
    refine ic_0 hx hb dX2_passRelation_8 ?_
    exact W.zret (v := 0) hx hb hr (by decide) (fun t ht _ => ⟨⟨0, G_2, rfl, (P_fRelation_1_s_mk ⟨hB_G_2, hF, ⟨by decide, by decide⟩, ⟨r_1, G_2, hX_5, (Or.inl ⟨c_7, ⟨rfl, rfl⟩⟩)⟩⟩), wd_t ht hW⟩, hS.F ht⟩) hS.2.2 dX2_passRelation_9

set_option maxHeartbeats 4000000 in
set_option maxRecDepth 100000 in
theorem k_fOne_1_s (l : Launch) (D : va_G) (k : KT) (A : Nat → Prop) (a : Nat → Nat) (z : SK) (fn ln n : Nat) (E O : XR) (hEb : ∀ (p0 : Int32) (G : GS) (r : Int32) (G1 : GS), E p0 G r G1 → Bd G1 ∧ Fr [17] [(1, 12), (1, 13), (3, 2), (3, 3), (3, 4), (3, 5), (3, 6), (3, 7), (3, 8), (4, 2)] G G1 ∧ (0 ≤ r.toInt ∧ r.toInt ≤ 1)) (hOb : ∀ (p0 : Int32) (G : GS) (r : Int32) (G1 : GS), O p0 G r G1 → Bd G1 ∧ Fr [17] [(1, 12), (1, 13), (3, 2), (3, 3), (3, 4), (3, 5), (3, 6), (3, 7), (3, 8), (4, 2)] G G1 ∧ (0 ≤ r.toInt ∧ r.toInt ≤ 1)) (hE : ∀ (G : GS) (p0 : Int32) (ha_p0 : 0 ≤ p0.toInt ∧ p0.toInt ≤ 7) (hv_4_1 : G.2.2 4 1 = 1) (hd : 8 ≤ p0.toInt + (n : Int)), Met l yX2_passEither (WS yX2_passEither cX2_passEither 3 (some .boolean)) ({ frames := fn + 2, cells := 0, slots := 0, locals := ln + 43 }) (va_Pc [.ref (a 4), .int p0] (cW D k A a z G)) (va_Qi (fun (r : Int32) (G1 : GS) => E p0 G r G1) (fun (G1 : GS) t => Wd D k A a G1 t.heap) A) 0 0 A) (hO : ∀ (G : GS) (p0 : Int32) (ha_p0 : 0 ≤ p0.toInt ∧ p0.toInt ≤ 7) (hv_4_1 : G.2.2 4 1 = 1) (hd : 8 ≤ p0.toInt + (n : Int)), Met l yX2_passOne (WS yX2_passOne cX2_passOne 2 (some .boolean)) ({ frames := fn + 0, cells := 0, slots := 0, locals := ln + 0 }) (va_Pc [.ref (a 4), .int p0] (cW D k A a z G)) (va_Qi (fun (r : Int32) (G1 : GS) => O p0 G r G1) (fun (G1 : GS) t => Wd D k A a G1 t.heap) A) 0 0 A) (G : GS) (p0 : Int32) (ha_p0 : 0 ≤ p0.toInt ∧ p0.toInt ≤ 7) (hv_4_1 : G.2.2 4 1 = 1) (hd : 8 ≤ p0.toInt + (n : Int) + 1) : Met l yX2_passOne (WS yX2_passOne cX2_passOne 2 (some .boolean)) ({ frames := fn + 12, cells := 0, slots := 0, locals := ln + 258 }) (va_Pc [.ref (a 4), .int p0] (cW D k A a z G)) (va_Qi (fun (r : Int32) (G1 : GS) => P_fOne_1_s E O p0 G r G1) (fun (G1 : GS) t => Wd D k A a G1 t.heap) A) 0 0 A := by
  refine Met.ofW (cc := cX2_passOne) (maxL := 2) (ret := (some .boolean)) (by decide) rfl ?_
  intro p e s m args below meth c s₁ B hml hv
  obtain ⟨rfl, hW, hB_G, hK, hZ⟩ := hv
  have hx := B.exec
  have hb := B.bytes
  have hr := B.returns
  have hts := atoms_spec (ws := WS yX2_passOne cX2_passOne 2 (some .boolean)) B.pre
  have hgd : ∀ w ∈ gd, w ∈ WS yX2_passOne cX2_passOne 2 (some .boolean) := fun w h => List.mem_cons_of_mem _ h
  have hg : ∀ w ∈ gd, w.before _ s = true := fun w h => hts w (hgd w h)
  have hown : s.vm.findClass RX2 = some m.cls := findClass_of_methodNamed B.named
  have hS : va_S A s.heap s.heap [] := va_S.rf
  have hF : Fr [17] [(1, 12), (1, 13), (3, 2), (3, 3), (3, 4), (3, 5), (3, 6), (3, 7), (3, 8), (4, 2)] G G := Fr.rf
  have hl := lv_entry ([.ref (a 4), .int p0]) (n := 2) (Nat.le_of_ble_eq_true rfl)
  rw [lg_entry_eq]
  generalize (lg_sl ([.ref (a 4), .int p0]) ++ List.replicate (2 - (lg_sl ([.ref (a 4), .int p0])).length) Slot.unset).toArray = ls at hl ⊢
  have hl : lv_has ls 2 [(0, .ref (a 4)), (1, .int p0)] := hl
  refine lv_aload_n hx hb dX2_passOne_0 rfl (lv_at hl 0 rfl) ?_
  refine S_getR (n := 3) (C := RX2) (T := TX2) (N := 3) hx hb hg iX2 hown hK hW kd_4 rfl 0 (lt_b rfl) (hg (Cond.fieldLink RX2 9 "SlabWalk$Formulas" "tokens" "LSlabWalk$Tokens;") m301) (fun _ h9 => h9) rfl dX2_passOne_1 ?_
  refine S_getI (v := (G.1 3 3)) (C := RX9) (T := TX9) (N := 9) hx hb hg iX9 hown hK hW kd_3 rfl 3 (lt_b rfl) (hg (Cond.fieldLink RX2 30 "SlabWalk$Tokens" "kind" "I") m263) (fun _ h9 => h9) rfl rfl dX2_passOne_4 ?_
  refine lv_sipush (v := 146) hx hb dX2_passOne_7 (by decide) ?_
  refine lv_icmp_eq (tgt := 19) hx hb dX2_passOne_10 rfl (fun c_1 => ?_) (fun c_1 => ?_)
  · have c_1 : (G.1 3 3).toInt = 146 := xI_eq rfl rfl c_1
    refine lv_iload_n hx hb dX2_passOne_19 rfl (lv_at hl 1 rfl) ?_
    refine lv_bipush (v := 6) hx hb dX2_passOne_20 (by decide) ?_
    refine lv_icmp_le (tgt := 34) hx hb dX2_passOne_22 rfl (fun c_2 => ?_) (fun c_2 => ?_)
    · have c_2 : p0.toInt ≤ 6 := xI_le rfl rfl c_2
      refine lv_aload_n hx hb dX2_passOne_34 rfl (lv_at hl 0 rfl) ?_
      refine S_getR (n := 3) (C := RX2) (T := TX2) (N := 3) hx hb hg iX2 hown hK hW kd_4 rfl 0 (lt_b rfl) (hg (Cond.fieldLink RX2 9 "SlabWalk$Formulas" "tokens" "LSlabWalk$Tokens;") m301) (fun _ h9 => h9) rfl dX2_passOne_35 ?_
      refine S_calli (va_runV (As := []) (rest := []) ⟨hx, hb, hml, hown, hts⟩ (k_tAdvance l D k A a z G  ) (cwV 0 hts (gd_V hgd m854 m639 m640 m120 m641) rfl rfl rfl hd_X9_advance ⟨show 6 + 1 ≤ fn + 12 from sy_1 fn (Nat.le_of_ble_eq_true rfl), show 8 + (2 + 11) + (127) ≤ ln + 258 from sy_1 ln (Nat.le_of_ble_eq_true rfl)⟩) (pre_W hW hB_G hK hZ hS kd_3 rfl) rfl rfl hl.1 rfl (lv_room (Nat.le_of_ble_eq_true rfl)) dX2_passOne_38 ⟨Nat.le_of_ble_eq_true rfl, Nat.le_of_ble_eq_true rfl⟩) hS (fun r_3 G_4 H locs hpo hW hS => ?_)
      have hX_7 : P_tAdvance G r_3 G_4 := hpo
      obtain ⟨hB_G_4, hq_5, f_8, -⟩ := hpo
      have hF := hF.call9 hq_5 rfl rfl
      refine lv_pop hx hb dX2_passOne_41 rfl ?_
      refine lv_aload_n hx hb dX2_passOne_42 rfl (lv_at hl 0 rfl) ?_
      refine lv_iload_n hx hb dX2_passOne_43 rfl (lv_at hl 1 rfl) ?_
      refine ic_1 hx hb dX2_passOne_44 ?_
      refine lv_iadd hx hb dX2_passOne_45 ?_
      refine lv_topi (fun y_9 ey_9 => ?_)
      have ty_9 : y_9.toInt = p0.toInt + 1 := xI_add rfl rfl ey_9 ((by first | exact ok_21 ha_p0.1 | omega)) ((by first | exact ok_381 ha_p0.2 | omega))
      refine S_calli (va_runV (As := [.int y_9]) (rest := []) ⟨hx, hb, hml, hown, hts⟩ (hO G_4 y_9 ⟨(by first | exact ok_23 ha_p0.1 ty_9 | omega), (by first | exact ok_382 ha_p0.2 c_2 ty_9 | omega)⟩ (((hq_5.r9 4 1 rfl rfl)).trans (hv_4_1)) ((by first | exact ok_383 hd ty_9 | omega))) (cwV 1 hts (gd_V hgd m829 m831 m18 m121 m832) rfl rfl rfl hd_X2_passOne ⟨show fn + 0 + 1 ≤ fn + 12 from by omega, show 8 + (2 + 11) + (ln + 0) ≤ ln + 258 from by omega⟩) (pre_W hW hB_G_4 hK hZ hS kd_4 rfl) rfl rfl hl.1 rfl (lv_room (Nat.le_of_ble_eq_true rfl)) dX2_passOne_46 ⟨Nat.le_of_ble_eq_true rfl, Nat.le_of_ble_eq_true rfl⟩) hS (fun r_10 G_11 H locs hpo hW hS => ?_)
      have hX_14 : O y_9 G_4 r_10 G_11 := hpo
      obtain ⟨hB_G_11, hq_12, f_15⟩ := hOb _ _ _ _ hpo
      have hF := hF.call9 hq_12 rfl rfl
      refine lv_if_ne (tgt := 54) hx hb dX2_passOne_49 rfl (fun c_16 => ?_) (fun c_16 => ?_)
      · have c_16 : r_10.toInt ≠ 0 := xI_ne rfl rfl c_16
        refine lv_aload_n hx hb dX2_passOne_54 rfl (lv_at hl 0 rfl) ?_
        refine S_getV (n := 1) (C := RX2) (T := TX2) (N := 3) hx hb hg iX2 hown hK hW kd_4 rfl 1 (lt_b rfl) (hg (Cond.fieldLink RX2 15 "SlabWalk$Formulas" "paving" "LSlabWalk$Paving;") m302) (fun _ h9 => h9) rfl ((((hq_12.r9 4 1 rfl rfl).trans (hq_5.r9 4 1 rfl rfl))).trans (hv_4_1)) dX2_passOne_55 ?_
        refine lv_sipush (v := 146) hx hb dX2_passOne_58 (by decide) ?_
        refine ic_0 hx hb dX2_passOne_61 ?_
        refine S_callv (va_runV (As := [.int 146, .int 0]) (rest := []) ⟨hx, hb, hml, hown, hts⟩ (k_emit_1 l D k A a z G_11 146 0 ) (cwV 2 hts (gd_V hgd m855 m856 m857 m118 m858) rfl rfl rfl hd_X6_emit ⟨show 0 + 1 ≤ fn + 12 from sy_1 fn (Nat.le_of_ble_eq_true rfl), show 8 + (3 + 11) + (0) ≤ ln + 258 from sy_1 ln (Nat.le_of_ble_eq_true rfl)⟩) (pre_W hW hB_G_11 hK hZ hS kd_1 rfl) rfl rfl hl.1 rfl (lv_room (Nat.le_of_ble_eq_true rfl)) dX2_passOne_62 ⟨Nat.le_of_ble_eq_true rfl, Nat.le_of_ble_eq_true rfl⟩) hS (fun G_18 H locs hpo hW hS => ?_)
        have hX_21 : P_emit_1 146 0 G_11 G_18 := hpo
        obtain ⟨hB_G_18, hq_19, -⟩ := hpo
        have hF := hF.call9 hq_19 rfl rfl
        refine ic_1 hx hb dX2_passOne_65 ?_
        exact W.zret (v := 1) hx hb hr (by decide) (fun t ht _ => ⟨⟨1, G_18, rfl, (P_fOne_1_s_mk ⟨hB_G_18, hF, ⟨by decide, by decide⟩, (Or.inl ⟨c_1, (Or.inl ⟨c_2, ⟨r_3, G_4, hX_7, ⟨y_9, ty_9, ⟨r_10, G_11, hX_14, (Or.inr ⟨c_16, ⟨G_18, hX_21, ⟨rfl, rfl⟩⟩⟩)⟩⟩⟩⟩)⟩)⟩), wd_t ht hW⟩, hS.F ht⟩) hS.2.2 dX2_passOne_66
      · have c_16 : r_10.toInt = 0 := xI_eq rfl rfl c_16
        refine ic_0 hx hb dX2_passOne_52 ?_
        exact W.zret (v := 0) hx hb hr (by decide) (fun t ht _ => ⟨⟨0, G_11, rfl, (P_fOne_1_s_mk ⟨hB_G_11, hF, ⟨by decide, by decide⟩, (Or.inl ⟨c_1, (Or.inl ⟨c_2, ⟨r_3, G_4, hX_7, ⟨y_9, ty_9, ⟨r_10, G_11, hX_14, (Or.inl ⟨c_16, ⟨rfl, rfl⟩⟩)⟩⟩⟩⟩)⟩)⟩), wd_t ht hW⟩, hS.F ht⟩) hS.2.2 dX2_passOne_53
    · have c_2 : 6 < p0.toInt := xI_nle rfl rfl c_2
      refine lv_aload_n hx hb dX2_passOne_25 rfl (lv_at hl 0 rfl) ?_
      refine S_getR (n := 3) (C := RX2) (T := TX2) (N := 3) hx hb hg iX2 hown hK hW kd_4 rfl 0 (lt_b rfl) (hg (Cond.fieldLink RX2 9 "SlabWalk$Formulas" "tokens" "LSlabWalk$Tokens;") m301) (fun _ h9 => h9) rfl dX2_passOne_26 ?_
      refine ic_2 hx hb dX2_passOne_29 ?_
      refine S_calli (va_runV (As := [.int 2]) (rest := []) ⟨hx, hb, hml, hown, hts⟩ (k_tRefuse l D k A a z G 2 ⟨by decide, by decide⟩) (cwV 1 hts (gd_V hgd m849 m779 m780 m120 m781) rfl rfl rfl hd_X9_refuse ⟨show 0 + 1 ≤ fn + 12 from sy_1 fn (Nat.le_of_ble_eq_true rfl), show 8 + (2 + 11) + (0) ≤ ln + 258 from sy_1 ln (Nat.le_of_ble_eq_true rfl)⟩) (pre_W hW hB_G hK hZ hS kd_3 rfl) rfl rfl hl.1 rfl (lv_room (Nat.le_of_ble_eq_true rfl)) dX2_passOne_30 ⟨Nat.le_of_ble_eq_true rfl, Nat.le_of_ble_eq_true rfl⟩) hS (fun r_22 G_23 H locs hpo hW hS => ?_)
      have hX_26 : P_tRefuse 2 G r_22 G_23 := hpo
      obtain ⟨hB_G_23, hq_24, f_27, -⟩ := hpo
      have hF := hF.call9 hq_24 rfl rfl
      exact W.zret (v := r_22) hx hb hr (nar_z ((by first | exact f_27.1 | omega)) ((by first | exact ok_130 f_27.2 | omega))) (fun t ht _ => ⟨⟨r_22, G_23, rfl, (P_fOne_1_s_mk ⟨hB_G_23, hF, ⟨(by first | exact f_27.1 | omega), (by first | exact ok_130 f_27.2 | omega)⟩, (Or.inl ⟨c_1, (Or.inr ⟨c_2, ⟨r_22, G_23, hX_26, ⟨rfl, rfl⟩⟩⟩)⟩)⟩), wd_t ht hW⟩, hS.F ht⟩) hS.2.2 dX2_passOne_33
  · have c_1 : (G.1 3 3).toInt ≠ 146 := xI_ne rfl rfl c_1
    refine lv_aload_n hx hb dX2_passOne_13 rfl (lv_at hl 0 rfl) ?_
    refine lv_iload_n hx hb dX2_passOne_14 rfl (lv_at hl 1 rfl) ?_
    refine S_calli (va_runV (As := [.int p0]) (rest := []) ⟨hx, hb, hml, hown, hts⟩ (k_fRelation_1_s l D k A a z fn ln n E O hEb hOb hE hO G p0 ⟨(by first | exact ha_p0.1 | omega), (by first | exact ha_p0.2 | omega)⟩ hv_4_1 ((by first | exact hd | omega))) (cwV 1 hts (gd_V hgd m833 m835 m19 m121 m836) rfl rfl rfl hd_X2_passRelation ⟨show fn + 11 + 1 ≤ fn + 12 from sy_2 fn (Nat.le_of_ble_eq_true rfl), show 8 + (3 + 11) + (ln + 236) ≤ ln + 258 from sy_3 ln (Nat.le_of_ble_eq_true rfl)⟩) (pre_W hW hB_G hK hZ hS kd_4 rfl) rfl rfl hl.1 rfl (lv_room (Nat.le_of_ble_eq_true rfl)) dX2_passOne_15 ⟨Nat.le_of_ble_eq_true rfl, Nat.le_of_ble_eq_true rfl⟩) hS (fun r_28 G_29 H locs hpo hW hS => ?_)
    have hX_32 : P_fRelation_1_s E O p0 G r_28 G_29 := hpo
    obtain ⟨hB_G_29, hq_30, f_33, -⟩ := hpo
    have hF := hF.call9 hq_30 rfl rfl
    exact W.zret (v := r_28) hx hb hr (nar_z ((by first | exact f_33.1 | omega)) ((by first | exact f_33.2 | omega))) (fun t ht _ => ⟨⟨r_28, G_29, rfl, (P_fOne_1_s_mk ⟨hB_G_29, hF, ⟨(by first | exact f_33.1 | omega), (by first | exact f_33.2 | omega)⟩, (Or.inr ⟨c_1, ⟨r_28, G_29, hX_32, ⟨rfl, rfl⟩⟩⟩)⟩), wd_t ht hW⟩, hS.F ht⟩) hS.2.2 dX2_passOne_18

set_option maxHeartbeats 4000000 in
set_option maxRecDepth 100000 in
theorem k_fBoth_1_s (l : Launch) (D : va_G) (k : KT) (A : Nat → Prop) (a : Nat → Nat) (z : SK) (fn ln n : Nat) (E O : XR) (hEb : ∀ (p0 : Int32) (G : GS) (r : Int32) (G1 : GS), E p0 G r G1 → Bd G1 ∧ Fr [17] [(1, 12), (1, 13), (3, 2), (3, 3), (3, 4), (3, 5), (3, 6), (3, 7), (3, 8), (4, 2)] G G1 ∧ (0 ≤ r.toInt ∧ r.toInt ≤ 1)) (hOb : ∀ (p0 : Int32) (G : GS) (r : Int32) (G1 : GS), O p0 G r G1 → Bd G1 ∧ Fr [17] [(1, 12), (1, 13), (3, 2), (3, 3), (3, 4), (3, 5), (3, 6), (3, 7), (3, 8), (4, 2)] G G1 ∧ (0 ≤ r.toInt ∧ r.toInt ≤ 1)) (hE : ∀ (G : GS) (p0 : Int32) (ha_p0 : 0 ≤ p0.toInt ∧ p0.toInt ≤ 7) (hv_4_1 : G.2.2 4 1 = 1) (hd : 8 ≤ p0.toInt + (n : Int)), Met l yX2_passEither (WS yX2_passEither cX2_passEither 3 (some .boolean)) ({ frames := fn + 2, cells := 0, slots := 0, locals := ln + 43 }) (va_Pc [.ref (a 4), .int p0] (cW D k A a z G)) (va_Qi (fun (r : Int32) (G1 : GS) => E p0 G r G1) (fun (G1 : GS) t => Wd D k A a G1 t.heap) A) 0 0 A) (hO : ∀ (G : GS) (p0 : Int32) (ha_p0 : 0 ≤ p0.toInt ∧ p0.toInt ≤ 7) (hv_4_1 : G.2.2 4 1 = 1) (hd : 8 ≤ p0.toInt + (n : Int)), Met l yX2_passOne (WS yX2_passOne cX2_passOne 2 (some .boolean)) ({ frames := fn + 0, cells := 0, slots := 0, locals := ln + 0 }) (va_Pc [.ref (a 4), .int p0] (cW D k A a z G)) (va_Qi (fun (r : Int32) (G1 : GS) => O p0 G r G1) (fun (G1 : GS) t => Wd D k A a G1 t.heap) A) 0 0 A) (G : GS) (p0 : Int32) (ha_p0 : 0 ≤ p0.toInt ∧ p0.toInt ≤ 7) (hv_4_1 : G.2.2 4 1 = 1) (hd : 8 ≤ p0.toInt + (n : Int) + 1) : Met l yX2_passBoth (WS yX2_passBoth cX2_passBoth 3 (some .boolean)) ({ frames := fn + 13, cells := 0, slots := 0, locals := ln + 279 }) (va_Pc [.ref (a 4), .int p0] (cW D k A a z G)) (va_Qi (fun (r : Int32) (G1 : GS) => P_fBoth_1_s E O p0 G r G1) (fun (G1 : GS) t => Wd D k A a G1 t.heap) A) 0 0 A := by
  refine Met.ofW (cc := cX2_passBoth) (maxL := 3) (ret := (some .boolean)) (by decide) rfl ?_
  intro p e s m args below meth c s₁ B hml hv
  obtain ⟨rfl, hW, hB_G, hK, hZ⟩ := hv
  have hx := B.exec
  have hb := B.bytes
  have hr := B.returns
  have hts := atoms_spec (ws := WS yX2_passBoth cX2_passBoth 3 (some .boolean)) B.pre
  have hgd : ∀ w ∈ gd, w ∈ WS yX2_passBoth cX2_passBoth 3 (some .boolean) := fun w h => List.mem_cons_of_mem _ h
  have hg : ∀ w ∈ gd, w.before _ s = true := fun w h => hts w (hgd w h)
  have hown : s.vm.findClass RX2 = some m.cls := findClass_of_methodNamed B.named
  have hS : va_S A s.heap s.heap [] := va_S.rf
  have hF : Fr [17] [(1, 12), (1, 13), (3, 2), (3, 3), (3, 4), (3, 5), (3, 6), (3, 7), (3, 8), (4, 2)] G G := Fr.rf
  have hl := lv_entry ([.ref (a 4), .int p0]) (n := 3) (Nat.le_of_ble_eq_true rfl)
  rw [lg_entry_eq]
  generalize (lg_sl ([.ref (a 4), .int p0]) ++ List.replicate (3 - (lg_sl ([.ref (a 4), .int p0])).length) Slot.unset).toArray = ls at hl ⊢
  have hl : lv_has ls 3 [(0, .ref (a 4)), (1, .int p0)] := hl
  refine lv_aload_n hx hb dX2_passBoth_0 rfl (lv_at hl 0 rfl) ?_
  refine lv_iload_n hx hb dX2_passBoth_1 rfl (lv_at hl 1 rfl) ?_
  refine S_calli (va_runV (As := [.int p0]) (rest := []) ⟨hx, hb, hml, hown, hts⟩ (k_fOne_1_s l D k A a z fn ln n E O hEb hOb hE hO G p0 ⟨(by first | exact ha_p0.1 | omega), (by first | exact ha_p0.2 | omega)⟩ hv_4_1 ((by first | exact hd | omega))) (cwV 1 hts (gd_V hgd m829 m831 m18 m121 m832) rfl rfl rfl hd_X2_passOne ⟨show fn + 12 + 1 ≤ fn + 13 from sy_2 fn (Nat.le_of_ble_eq_true rfl), show 8 + (2 + 11) + (ln + 258) ≤ ln + 279 from sy_3 ln (Nat.le_of_ble_eq_true rfl)⟩) (pre_W hW hB_G hK hZ hS kd_4 rfl) rfl rfl hl.1 rfl (lv_room (Nat.le_of_ble_eq_true rfl)) dX2_passBoth_2 ⟨Nat.le_of_ble_eq_true rfl, Nat.le_of_ble_eq_true rfl⟩) hS (fun r_1 G_2 H locs hpo hW hS => ?_)
  have hX_5 : P_fOne_1_s E O p0 G r_1 G_2 := hpo
  obtain ⟨hB_G_2, hq_3, f_6, -⟩ := hpo
  have hF := hF.call9 hq_3 rfl rfl
  refine lv_if_ne (tgt := 10) hx hb dX2_passBoth_5 rfl (fun c_7 => ?_) (fun c_7 => ?_)
  · have c_7 : r_1.toInt ≠ 0 := xI_ne rfl rfl c_7
    refine ic_0 hx hb dX2_passBoth_10 ?_
    refine lv_istore_n (lv' := [(2, .int 0), (0, .ref (a 4)), (1, .int p0)]) hx hb dX2_passBoth_11 rfl hl (lt_b rfl) rfl (fun ls hl => ?_)
    have qc_14 : (0 : Int32).toInt = 0 := rfl
    refine loop_N (Inv := fun n H locs ls => ∃ (G_8 : GS) (x_12 : Int32), (n : Int) = 1600 - x_12.toInt ∧ (0 ≤ x_12.toInt ∧ x_12.toInt ≤ 1600) ∧ Rc (St_k_fBoth_1_s_1 E O p0) (0, G_2) (x_12, G_8) ∧ Wd D k A a G_8 H ∧ Bd G_8 ∧ Fr [17] [(1, 12), (1, 13), (3, 2), (3, 3), (3, 4), (3, 5), (3, 6), (3, 7), (3, 8), (4, 2)] G G_8 ∧ Fr [17] [(1, 12), (1, 13), (3, 2), (3, 3), (3, 4), (3, 5), (3, 6), (3, 7), (3, 8), (4, 2)] G_2 G_8 ∧ va_S A s.heap H locs ∧ lv_has ls 3 [(2, .int x_12), (0, .ref (a 4)), (1, .int p0)]) (fun n_11 H locs ls ih_10 hI => ?_) (1600 - 0 : Int).toNat ⟨G_2, 0, (Int.toNat_of_nonneg ((by decide))), ⟨(by decide), (by decide)⟩, Rc.rf, hW, hB_G_2, hF, Fr.rf, hS, lv_sub hl [0, 1, 2] rfl⟩
    obtain ⟨G_8, x_12, hn_16, f_15, hX_13, hW, hB_G_8, hF, hq_9, hS, hl⟩ := hI
    refine lv_iload_n hx hb dX2_passBoth_12 rfl (lv_at hl 0 rfl) ?_
    refine lv_sipush (v := 1600) hx hb dX2_passBoth_13 (by decide) ?_
    refine lv_icmp_ge (tgt := 67) hx hb dX2_passBoth_16 rfl (fun c_17 => ?_) (fun c_17 => ?_)
    · have c_17 : 1600 ≤ x_12.toInt := xI_le rfl rfl c_17
      refine ic_1 hx hb dX2_passBoth_67 ?_
      exact W.zret (v := 1) hx hb hr (by decide) (fun t ht _ => ⟨⟨1, G_8, rfl, (P_fBoth_1_s_mk ⟨hB_G_8, hF, ⟨by decide, by decide⟩, ⟨r_1, G_2, hX_5, (Or.inr ⟨c_7, ⟨x_12, G_8, hX_13, f_15, hB_G_8, hq_9, (Or.inl ⟨c_17, ⟨rfl, rfl⟩⟩)⟩⟩)⟩⟩), wd_t ht hW⟩, hS.F ht⟩) hS.2.2 dX2_passBoth_68
    · have c_17 : x_12.toInt < 1600 := xI_nle rfl rfl c_17
      refine lv_aload_n hx hb dX2_passBoth_19 rfl (lv_at hl 1 rfl) ?_
      refine S_getR (n := 3) (C := RX2) (T := TX2) (N := 3) hx hb hg iX2 hown hK hW kd_4 rfl 0 (lt_b rfl) (hg (Cond.fieldLink RX2 9 "SlabWalk$Formulas" "tokens" "LSlabWalk$Tokens;") m301) (fun _ h9 => h9) rfl dX2_passBoth_20 ?_
      refine S_getI (v := (G_8.1 3 3)) (C := RX9) (T := TX9) (N := 9) hx hb hg iX9 hown hK hW kd_3 rfl 3 (lt_b rfl) (hg (Cond.fieldLink RX2 30 "SlabWalk$Tokens" "kind" "I") m263) (fun _ h9 => h9) rfl rfl dX2_passBoth_23 ?_
      refine lv_sipush (v := 145) hx hb dX2_passBoth_26 (by decide) ?_
      refine lv_icmp_ne (tgt := 67) hx hb dX2_passBoth_29 rfl (fun c_18 => ?_) (fun c_18 => ?_)
      · have c_18 : (G_8.1 3 3).toInt ≠ 145 := xI_ne rfl rfl c_18
        refine ic_1 hx hb dX2_passBoth_67 ?_
        exact W.zret (v := 1) hx hb hr (by decide) (fun t ht _ => ⟨⟨1, G_8, rfl, (P_fBoth_1_s_mk ⟨hB_G_8, hF, ⟨by decide, by decide⟩, ⟨r_1, G_2, hX_5, (Or.inr ⟨c_7, ⟨x_12, G_8, hX_13, f_15, hB_G_8, hq_9, (Or.inr ⟨c_17, (Or.inr ⟨c_18, ⟨rfl, rfl⟩⟩)⟩)⟩⟩)⟩⟩), wd_t ht hW⟩, hS.F ht⟩) hS.2.2 dX2_passBoth_68
      · have c_18 : (G_8.1 3 3).toInt = 145 := xI_eq rfl rfl c_18
        refine lv_aload_n hx hb dX2_passBoth_32 rfl (lv_at hl 1 rfl) ?_
        refine S_getR (n := 3) (C := RX2) (T := TX2) (N := 3) hx hb hg iX2 hown hK hW kd_4 rfl 0 (lt_b rfl) (hg (Cond.fieldLink RX2 9 "SlabWalk$Formulas" "tokens" "LSlabWalk$Tokens;") m301) (fun _ h9 => h9) rfl dX2_passBoth_33 ?_
        refine S_calli (va_runV (As := []) (rest := []) ⟨hx, hb, hml, hown, hts⟩ (k_tAdvance l D k A a z G_8  ) (cwV 0 hts (gd_V hgd m854 m639 m640 m120 m641) rfl rfl rfl hd_X9_advance ⟨show 6 + 1 ≤ fn + 13 from sy_1 fn (Nat.le_of_ble_eq_true rfl), show 8 + (2 + 11) + (127) ≤ ln + 279 from sy_1 ln (Nat.le_of_ble_eq_true rfl)⟩) (pre_W hW hB_G_8 hK hZ hS kd_3 rfl) rfl rfl hl.1 rfl (lv_room (Nat.le_of_ble_eq_true rfl)) dX2_passBoth_36 ⟨Nat.le_of_ble_eq_true rfl, Nat.le_of_ble_eq_true rfl⟩) hS (fun r_19 G_20 H locs hpo hW hS => ?_)
        have hX_23 : P_tAdvance G_8 r_19 G_20 := hpo
        obtain ⟨hB_G_20, hq_21, f_24, -⟩ := hpo
        have hF := hF.call9 hq_21 rfl rfl
        refine lv_pop hx hb dX2_passBoth_39 rfl ?_
        refine lv_aload_n hx hb dX2_passBoth_40 rfl (lv_at hl 1 rfl) ?_
        refine lv_iload_n hx hb dX2_passBoth_41 rfl (lv_at hl 2 rfl) ?_
        refine S_calli (va_runV (As := [.int p0]) (rest := []) ⟨hx, hb, hml, hown, hts⟩ (k_fOne_1_s l D k A a z fn ln n E O hEb hOb hE hO G_20 p0 ⟨(by first | exact ha_p0.1 | omega), (by first | exact ha_p0.2 | omega)⟩ ((((hq_21.r9 4 1 rfl rfl).trans ((hq_9.r9 4 1 rfl rfl).trans (hq_3.r9 4 1 rfl rfl)))).trans (hv_4_1)) ((by first | exact hd | omega))) (cwV 1 hts (gd_V hgd m829 m831 m18 m121 m832) rfl rfl rfl hd_X2_passOne ⟨show fn + 12 + 1 ≤ fn + 13 from sy_2 fn (Nat.le_of_ble_eq_true rfl), show 8 + (2 + 11) + (ln + 258) ≤ ln + 279 from sy_3 ln (Nat.le_of_ble_eq_true rfl)⟩) (pre_W hW hB_G_20 hK hZ hS kd_4 rfl) rfl rfl hl.1 rfl (lv_room (Nat.le_of_ble_eq_true rfl)) dX2_passBoth_42 ⟨Nat.le_of_ble_eq_true rfl, Nat.le_of_ble_eq_true rfl⟩) hS (fun r_25 G_26 H locs hpo hW hS => ?_)
        have hX_29 : P_fOne_1_s E O p0 G_20 r_25 G_26 := hpo
        obtain ⟨hB_G_26, hq_27, f_30, -⟩ := hpo
        have hF := hF.call9 hq_27 rfl rfl
        refine lv_if_ne (tgt := 50) hx hb dX2_passBoth_45 rfl (fun c_31 => ?_) (fun c_31 => ?_)
        · have c_31 : r_25.toInt ≠ 0 := xI_ne rfl rfl c_31
          refine lv_aload_n hx hb dX2_passBoth_50 rfl (lv_at hl 1 rfl) ?_
          refine S_getV (n := 1) (C := RX2) (T := TX2) (N := 3) hx hb hg iX2 hown hK hW kd_4 rfl 1 (lt_b rfl) (hg (Cond.fieldLink RX2 15 "SlabWalk$Formulas" "paving" "LSlabWalk$Paving;") m302) (fun _ h9 => h9) rfl ((((hq_27.r9 4 1 rfl rfl).trans ((hq_21.r9 4 1 rfl rfl).trans ((hq_9.r9 4 1 rfl rfl).trans (hq_3.r9 4 1 rfl rfl))))).trans (hv_4_1)) dX2_passBoth_51 ?_
          refine lv_sipush (v := 145) hx hb dX2_passBoth_54 (by decide) ?_
          refine ic_0 hx hb dX2_passBoth_57 ?_
          refine S_callv (va_runV (As := [.int 145, .int 0]) (rest := []) ⟨hx, hb, hml, hown, hts⟩ (k_emit_1 l D k A a z G_26 145 0 ) (cwV 2 hts (gd_V hgd m855 m856 m857 m118 m858) rfl rfl rfl hd_X6_emit ⟨show 0 + 1 ≤ fn + 13 from sy_1 fn (Nat.le_of_ble_eq_true rfl), show 8 + (3 + 11) + (0) ≤ ln + 279 from sy_1 ln (Nat.le_of_ble_eq_true rfl)⟩) (pre_W hW hB_G_26 hK hZ hS kd_1 rfl) rfl rfl hl.1 rfl (lv_room (Nat.le_of_ble_eq_true rfl)) dX2_passBoth_58 ⟨Nat.le_of_ble_eq_true rfl, Nat.le_of_ble_eq_true rfl⟩) hS (fun G_33 H locs hpo hW hS => ?_)
          have hX_36 : P_emit_1 145 0 G_26 G_33 := hpo
          obtain ⟨hB_G_33, hq_34, -⟩ := hpo
          have hF := hF.call9 hq_34 rfl rfl
          obtain ⟨y_37, ey_37⟩ : ∃ q, q = x_12 + 1 := ⟨_, rfl⟩
          have ty_37 : y_37.toInt = x_12.toInt + 1 := xI_add rfl rfl ey_37 ((by first | exact ok_21 f_15.1 | omega)) ((by first | exact ok_122 f_15.2 | omega))
          refine lv_iinc (v := y_37) (lv' := [(2, .int y_37), (0, .ref (a 4)), (1, .int p0)]) hx hb dX2_passBoth_61 hl (k := 0) rfl (by rw [ey_37]; rfl) (lt_b rfl) rfl (fun ls hl => ?_)
          refine lv_goto (tgt := 12) hx hb dX2_passBoth_64 rfl ?_
          exact ih_10 (1600 - y_37.toInt : Int).toNat ((by first | (clear ha_p0 hd f_6 c_7 c_18 f_24 f_30 c_31; omega) | omega)) _ _ _ ⟨G_33, y_37, (Int.toNat_of_nonneg ((by first | exact ok_388 f_15.2 c_17 ty_37 | omega))), ⟨(by first | exact ok_23 f_15.1 ty_37 | omega), (by first | exact ok_389 f_15.2 c_17 ty_37 | omega)⟩, (hX_13.st (St_k_fBoth_1_s_1_mk ⟨x_12, G_8, y_37, G_33, rfl, rfl, f_15, hB_G_8, ⟨c_17, ⟨c_18, ⟨r_19, G_20, hX_23, ⟨r_25, G_26, hX_29, ⟨c_31, ⟨G_33, hX_36, ⟨y_37, ty_37, ⟨rfl, rfl⟩⟩⟩⟩⟩⟩⟩⟩⟩)), hW, hB_G_33, hF, (Fr.call9 (rs := [17]) (fs := [(1, 12), (1, 13), (3, 2), (3, 3), (3, 4), (3, 5), (3, 6), (3, 7), (3, 8), (4, 2)]) (Fr.call9 (rs := [17]) (fs := [(1, 12), (1, 13), (3, 2), (3, 3), (3, 4), (3, 5), (3, 6), (3, 7), (3, 8), (4, 2)]) (Fr.call9 (rs := [17]) (fs := [(1, 12), (1, 13), (3, 2), (3, 3), (3, 4), (3, 5), (3, 6), (3, 7), (3, 8), (4, 2)]) (Fr.call9 (rs := [17]) (fs := [(1, 12), (1, 13), (3, 2), (3, 3), (3, 4), (3, 5), (3, 6), (3, 7), (3, 8), (4, 2)]) Fr.rf hq_9 rfl rfl) hq_21 rfl rfl) hq_27 rfl rfl) hq_34 rfl rfl), hS, lv_sub hl [0, 1, 2] rfl⟩
        · have c_31 : r_25.toInt = 0 := xI_eq rfl rfl c_31
          refine ic_0 hx hb dX2_passBoth_48 ?_
          exact W.zret (v := 0) hx hb hr (by decide) (fun t ht _ => ⟨⟨0, G_26, rfl, (P_fBoth_1_s_mk ⟨hB_G_26, hF, ⟨by decide, by decide⟩, ⟨r_1, G_2, hX_5, (Or.inr ⟨c_7, ⟨x_12, G_8, hX_13, f_15, hB_G_8, hq_9, (Or.inr ⟨c_17, (Or.inl ⟨c_18, ⟨r_19, G_20, hX_23, ⟨r_25, G_26, hX_29, ⟨c_31, ⟨rfl, rfl⟩⟩⟩⟩⟩)⟩)⟩⟩)⟩⟩), wd_t ht hW⟩, hS.F ht⟩) hS.2.2 dX2_passBoth_49
  · have c_7 : r_1.toInt = 0 := xI_eq rfl rfl c_7
    refine ic_0 hx hb dX2_passBoth_8 ?_
    exact W.zret (v := 0) hx hb hr (by decide) (fun t ht _ => ⟨⟨0, G_2, rfl, (P_fBoth_1_s_mk ⟨hB_G_2, hF, ⟨by decide, by decide⟩, ⟨r_1, G_2, hX_5, (Or.inl ⟨c_7, ⟨rfl, rfl⟩⟩)⟩⟩), wd_t ht hW⟩, hS.F ht⟩) hS.2.2 dX2_passBoth_9

set_option maxHeartbeats 4000000 in
set_option maxRecDepth 100000 in
theorem k_fEither_1_s (l : Launch) (D : va_G) (k : KT) (A : Nat → Prop) (a : Nat → Nat) (z : SK) (fn ln n : Nat) (E O : XR) (hEb : ∀ (p0 : Int32) (G : GS) (r : Int32) (G1 : GS), E p0 G r G1 → Bd G1 ∧ Fr [17] [(1, 12), (1, 13), (3, 2), (3, 3), (3, 4), (3, 5), (3, 6), (3, 7), (3, 8), (4, 2)] G G1 ∧ (0 ≤ r.toInt ∧ r.toInt ≤ 1)) (hOb : ∀ (p0 : Int32) (G : GS) (r : Int32) (G1 : GS), O p0 G r G1 → Bd G1 ∧ Fr [17] [(1, 12), (1, 13), (3, 2), (3, 3), (3, 4), (3, 5), (3, 6), (3, 7), (3, 8), (4, 2)] G G1 ∧ (0 ≤ r.toInt ∧ r.toInt ≤ 1)) (hE : ∀ (G : GS) (p0 : Int32) (ha_p0 : 0 ≤ p0.toInt ∧ p0.toInt ≤ 7) (hv_4_1 : G.2.2 4 1 = 1) (hd : 8 ≤ p0.toInt + (n : Int)), Met l yX2_passEither (WS yX2_passEither cX2_passEither 3 (some .boolean)) ({ frames := fn + 2, cells := 0, slots := 0, locals := ln + 43 }) (va_Pc [.ref (a 4), .int p0] (cW D k A a z G)) (va_Qi (fun (r : Int32) (G1 : GS) => E p0 G r G1) (fun (G1 : GS) t => Wd D k A a G1 t.heap) A) 0 0 A) (hO : ∀ (G : GS) (p0 : Int32) (ha_p0 : 0 ≤ p0.toInt ∧ p0.toInt ≤ 7) (hv_4_1 : G.2.2 4 1 = 1) (hd : 8 ≤ p0.toInt + (n : Int)), Met l yX2_passOne (WS yX2_passOne cX2_passOne 2 (some .boolean)) ({ frames := fn + 0, cells := 0, slots := 0, locals := ln + 0 }) (va_Pc [.ref (a 4), .int p0] (cW D k A a z G)) (va_Qi (fun (r : Int32) (G1 : GS) => O p0 G r G1) (fun (G1 : GS) t => Wd D k A a G1 t.heap) A) 0 0 A) (G : GS) (p0 : Int32) (ha_p0 : 0 ≤ p0.toInt ∧ p0.toInt ≤ 7) (hv_4_1 : G.2.2 4 1 = 1) (hd : 8 ≤ p0.toInt + (n : Int) + 1) : Met l yX2_passEither (WS yX2_passEither cX2_passEither 3 (some .boolean)) ({ frames := fn + 14, cells := 0, slots := 0, locals := ln + 301 }) (va_Pc [.ref (a 4), .int p0] (cW D k A a z G)) (va_Qi (fun (r : Int32) (G1 : GS) => P_fEither_1_s E O p0 G r G1) (fun (G1 : GS) t => Wd D k A a G1 t.heap) A) 0 0 A := by
  refine Met.ofW (cc := cX2_passEither) (maxL := 3) (ret := (some .boolean)) (by decide) rfl ?_
  intro p e s m args below meth c s₁ B hml hv
  obtain ⟨rfl, hW, hB_G, hK, hZ⟩ := hv
  have hx := B.exec
  have hb := B.bytes
  have hr := B.returns
  have hts := atoms_spec (ws := WS yX2_passEither cX2_passEither 3 (some .boolean)) B.pre
  have hgd : ∀ w ∈ gd, w ∈ WS yX2_passEither cX2_passEither 3 (some .boolean) := fun w h => List.mem_cons_of_mem _ h
  have hg : ∀ w ∈ gd, w.before _ s = true := fun w h => hts w (hgd w h)
  have hown : s.vm.findClass RX2 = some m.cls := findClass_of_methodNamed B.named
  have hS : va_S A s.heap s.heap [] := va_S.rf
  have hF : Fr [17] [(1, 12), (1, 13), (3, 2), (3, 3), (3, 4), (3, 5), (3, 6), (3, 7), (3, 8), (4, 2)] G G := Fr.rf
  have hl := lv_entry ([.ref (a 4), .int p0]) (n := 3) (Nat.le_of_ble_eq_true rfl)
  rw [lg_entry_eq]
  generalize (lg_sl ([.ref (a 4), .int p0]) ++ List.replicate (3 - (lg_sl ([.ref (a 4), .int p0])).length) Slot.unset).toArray = ls at hl ⊢
  have hl : lv_has ls 3 [(0, .ref (a 4)), (1, .int p0)] := hl
  refine lv_aload_n hx hb dX2_passEither_0 rfl (lv_at hl 0 rfl) ?_
  refine lv_iload_n hx hb dX2_passEither_1 rfl (lv_at hl 1 rfl) ?_
  refine S_calli (va_runV (As := [.int p0]) (rest := []) ⟨hx, hb, hml, hown, hts⟩ (k_fBoth_1_s l D k A a z fn ln n E O hEb hOb hE hO G p0 ⟨(by first | exact ha_p0.1 | omega), (by first | exact ha_p0.2 | omega)⟩ hv_4_1 ((by first | exact hd | omega))) (cwV 1 hts (gd_V hgd m825 m827 m17 m121 m828) rfl rfl rfl hd_X2_passBoth ⟨show fn + 13 + 1 ≤ fn + 14 from sy_2 fn (Nat.le_of_ble_eq_true rfl), show 8 + (3 + 11) + (ln + 279) ≤ ln + 301 from sy_3 ln (Nat.le_of_ble_eq_true rfl)⟩) (pre_W hW hB_G hK hZ hS kd_4 rfl) rfl rfl hl.1 rfl (lv_room (Nat.le_of_ble_eq_true rfl)) dX2_passEither_2 ⟨Nat.le_of_ble_eq_true rfl, Nat.le_of_ble_eq_true rfl⟩) hS (fun r_1 G_2 H locs hpo hW hS => ?_)
  have hX_5 : P_fBoth_1_s E O p0 G r_1 G_2 := hpo
  obtain ⟨hB_G_2, hq_3, f_6, -⟩ := hpo
  have hF := hF.call9 hq_3 rfl rfl
  refine lv_if_ne (tgt := 10) hx hb dX2_passEither_5 rfl (fun c_7 => ?_) (fun c_7 => ?_)
  · have c_7 : r_1.toInt ≠ 0 := xI_ne rfl rfl c_7
    refine ic_0 hx hb dX2_passEither_10 ?_
    refine lv_istore_n (lv' := [(2, .int 0), (0, .ref (a 4)), (1, .int p0)]) hx hb dX2_passEither_11 rfl hl (lt_b rfl) rfl (fun ls hl => ?_)
    have qc_14 : (0 : Int32).toInt = 0 := rfl
    refine loop_N (Inv := fun n H locs ls => ∃ (G_8 : GS) (x_12 : Int32), (n : Int) = 1600 - x_12.toInt ∧ (0 ≤ x_12.toInt ∧ x_12.toInt ≤ 1600) ∧ Rc (St_k_fEither_1_s_1 E O p0) (0, G_2) (x_12, G_8) ∧ Wd D k A a G_8 H ∧ Bd G_8 ∧ Fr [17] [(1, 12), (1, 13), (3, 2), (3, 3), (3, 4), (3, 5), (3, 6), (3, 7), (3, 8), (4, 2)] G G_8 ∧ Fr [17] [(1, 12), (1, 13), (3, 2), (3, 3), (3, 4), (3, 5), (3, 6), (3, 7), (3, 8), (4, 2)] G_2 G_8 ∧ va_S A s.heap H locs ∧ lv_has ls 3 [(2, .int x_12), (0, .ref (a 4)), (1, .int p0)]) (fun n_11 H locs ls ih_10 hI => ?_) (1600 - 0 : Int).toNat ⟨G_2, 0, (Int.toNat_of_nonneg ((by decide))), ⟨(by decide), (by decide)⟩, Rc.rf, hW, hB_G_2, hF, Fr.rf, hS, lv_sub hl [0, 1, 2] rfl⟩
    obtain ⟨G_8, x_12, hn_16, f_15, hX_13, hW, hB_G_8, hF, hq_9, hS, hl⟩ := hI
    refine lv_iload_n hx hb dX2_passEither_12 rfl (lv_at hl 0 rfl) ?_
    refine lv_sipush (v := 1600) hx hb dX2_passEither_13 (by decide) ?_
    refine lv_icmp_ge (tgt := 67) hx hb dX2_passEither_16 rfl (fun c_17 => ?_) (fun c_17 => ?_)
    · have c_17 : 1600 ≤ x_12.toInt := xI_le rfl rfl c_17
      refine ic_1 hx hb dX2_passEither_67 ?_
      exact W.zret (v := 1) hx hb hr (by decide) (fun t ht _ => ⟨⟨1, G_8, rfl, (P_fEither_1_s_mk ⟨hB_G_8, hF, ⟨by decide, by decide⟩, ⟨r_1, G_2, hX_5, (Or.inr ⟨c_7, ⟨x_12, G_8, hX_13, f_15, hB_G_8, hq_9, (Or.inl ⟨c_17, ⟨rfl, rfl⟩⟩)⟩⟩)⟩⟩), wd_t ht hW⟩, hS.F ht⟩) hS.2.2 dX2_passEither_68
    · have c_17 : x_12.toInt < 1600 := xI_nle rfl rfl c_17
      refine lv_aload_n hx hb dX2_passEither_19 rfl (lv_at hl 1 rfl) ?_
      refine S_getR (n := 3) (C := RX2) (T := TX2) (N := 3) hx hb hg iX2 hown hK hW kd_4 rfl 0 (lt_b rfl) (hg (Cond.fieldLink RX2 9 "SlabWalk$Formulas" "tokens" "LSlabWalk$Tokens;") m301) (fun _ h9 => h9) rfl dX2_passEither_20 ?_
      refine S_getI (v := (G_8.1 3 3)) (C := RX9) (T := TX9) (N := 9) hx hb hg iX9 hown hK hW kd_3 rfl 3 (lt_b rfl) (hg (Cond.fieldLink RX2 30 "SlabWalk$Tokens" "kind" "I") m263) (fun _ h9 => h9) rfl rfl dX2_passEither_23 ?_
      refine lv_sipush (v := 144) hx hb dX2_passEither_26 (by decide) ?_
      refine lv_icmp_ne (tgt := 67) hx hb dX2_passEither_29 rfl (fun c_18 => ?_) (fun c_18 => ?_)
      · have c_18 : (G_8.1 3 3).toInt ≠ 144 := xI_ne rfl rfl c_18
        refine ic_1 hx hb dX2_passEither_67 ?_
        exact W.zret (v := 1) hx hb hr (by decide) (fun t ht _ => ⟨⟨1, G_8, rfl, (P_fEither_1_s_mk ⟨hB_G_8, hF, ⟨by decide, by decide⟩, ⟨r_1, G_2, hX_5, (Or.inr ⟨c_7, ⟨x_12, G_8, hX_13, f_15, hB_G_8, hq_9, (Or.inr ⟨c_17, (Or.inr ⟨c_18, ⟨rfl, rfl⟩⟩)⟩)⟩⟩)⟩⟩), wd_t ht hW⟩, hS.F ht⟩) hS.2.2 dX2_passEither_68
      · have c_18 : (G_8.1 3 3).toInt = 144 := xI_eq rfl rfl c_18
        refine lv_aload_n hx hb dX2_passEither_32 rfl (lv_at hl 1 rfl) ?_
        refine S_getR (n := 3) (C := RX2) (T := TX2) (N := 3) hx hb hg iX2 hown hK hW kd_4 rfl 0 (lt_b rfl) (hg (Cond.fieldLink RX2 9 "SlabWalk$Formulas" "tokens" "LSlabWalk$Tokens;") m301) (fun _ h9 => h9) rfl dX2_passEither_33 ?_
        refine S_calli (va_runV (As := []) (rest := []) ⟨hx, hb, hml, hown, hts⟩ (k_tAdvance l D k A a z G_8  ) (cwV 0 hts (gd_V hgd m854 m639 m640 m120 m641) rfl rfl rfl hd_X9_advance ⟨show 6 + 1 ≤ fn + 14 from sy_1 fn (Nat.le_of_ble_eq_true rfl), show 8 + (2 + 11) + (127) ≤ ln + 301 from sy_1 ln (Nat.le_of_ble_eq_true rfl)⟩) (pre_W hW hB_G_8 hK hZ hS kd_3 rfl) rfl rfl hl.1 rfl (lv_room (Nat.le_of_ble_eq_true rfl)) dX2_passEither_36 ⟨Nat.le_of_ble_eq_true rfl, Nat.le_of_ble_eq_true rfl⟩) hS (fun r_19 G_20 H locs hpo hW hS => ?_)
        have hX_23 : P_tAdvance G_8 r_19 G_20 := hpo
        obtain ⟨hB_G_20, hq_21, f_24, -⟩ := hpo
        have hF := hF.call9 hq_21 rfl rfl
        refine lv_pop hx hb dX2_passEither_39 rfl ?_
        refine lv_aload_n hx hb dX2_passEither_40 rfl (lv_at hl 1 rfl) ?_
        refine lv_iload_n hx hb dX2_passEither_41 rfl (lv_at hl 2 rfl) ?_
        refine S_calli (va_runV (As := [.int p0]) (rest := []) ⟨hx, hb, hml, hown, hts⟩ (k_fBoth_1_s l D k A a z fn ln n E O hEb hOb hE hO G_20 p0 ⟨(by first | exact ha_p0.1 | omega), (by first | exact ha_p0.2 | omega)⟩ ((((hq_21.r9 4 1 rfl rfl).trans ((hq_9.r9 4 1 rfl rfl).trans (hq_3.r9 4 1 rfl rfl)))).trans (hv_4_1)) ((by first | exact hd | omega))) (cwV 1 hts (gd_V hgd m825 m827 m17 m121 m828) rfl rfl rfl hd_X2_passBoth ⟨show fn + 13 + 1 ≤ fn + 14 from sy_2 fn (Nat.le_of_ble_eq_true rfl), show 8 + (3 + 11) + (ln + 279) ≤ ln + 301 from sy_3 ln (Nat.le_of_ble_eq_true rfl)⟩) (pre_W hW hB_G_20 hK hZ hS kd_4 rfl) rfl rfl hl.1 rfl (lv_room (Nat.le_of_ble_eq_true rfl)) dX2_passEither_42 ⟨Nat.le_of_ble_eq_true rfl, Nat.le_of_ble_eq_true rfl⟩) hS (fun r_25 G_26 H locs hpo hW hS => ?_)
        have hX_29 : P_fBoth_1_s E O p0 G_20 r_25 G_26 := hpo
        obtain ⟨hB_G_26, hq_27, f_30, -⟩ := hpo
        have hF := hF.call9 hq_27 rfl rfl
        refine lv_if_ne (tgt := 50) hx hb dX2_passEither_45 rfl (fun c_31 => ?_) (fun c_31 => ?_)
        · have c_31 : r_25.toInt ≠ 0 := xI_ne rfl rfl c_31
          refine lv_aload_n hx hb dX2_passEither_50 rfl (lv_at hl 1 rfl) ?_
          refine S_getV (n := 1) (C := RX2) (T := TX2) (N := 3) hx hb hg iX2 hown hK hW kd_4 rfl 1 (lt_b rfl) (hg (Cond.fieldLink RX2 15 "SlabWalk$Formulas" "paving" "LSlabWalk$Paving;") m302) (fun _ h9 => h9) rfl ((((hq_27.r9 4 1 rfl rfl).trans ((hq_21.r9 4 1 rfl rfl).trans ((hq_9.r9 4 1 rfl rfl).trans (hq_3.r9 4 1 rfl rfl))))).trans (hv_4_1)) dX2_passEither_51 ?_
          refine lv_sipush (v := 144) hx hb dX2_passEither_54 (by decide) ?_
          refine ic_0 hx hb dX2_passEither_57 ?_
          refine S_callv (va_runV (As := [.int 144, .int 0]) (rest := []) ⟨hx, hb, hml, hown, hts⟩ (k_emit_1 l D k A a z G_26 144 0 ) (cwV 2 hts (gd_V hgd m855 m856 m857 m118 m858) rfl rfl rfl hd_X6_emit ⟨show 0 + 1 ≤ fn + 14 from sy_1 fn (Nat.le_of_ble_eq_true rfl), show 8 + (3 + 11) + (0) ≤ ln + 301 from sy_1 ln (Nat.le_of_ble_eq_true rfl)⟩) (pre_W hW hB_G_26 hK hZ hS kd_1 rfl) rfl rfl hl.1 rfl (lv_room (Nat.le_of_ble_eq_true rfl)) dX2_passEither_58 ⟨Nat.le_of_ble_eq_true rfl, Nat.le_of_ble_eq_true rfl⟩) hS (fun G_33 H locs hpo hW hS => ?_)
          have hX_36 : P_emit_1 144 0 G_26 G_33 := hpo
          obtain ⟨hB_G_33, hq_34, -⟩ := hpo
          have hF := hF.call9 hq_34 rfl rfl
          obtain ⟨y_37, ey_37⟩ : ∃ q, q = x_12 + 1 := ⟨_, rfl⟩
          have ty_37 : y_37.toInt = x_12.toInt + 1 := xI_add rfl rfl ey_37 ((by first | exact ok_21 f_15.1 | omega)) ((by first | exact ok_122 f_15.2 | omega))
          refine lv_iinc (v := y_37) (lv' := [(2, .int y_37), (0, .ref (a 4)), (1, .int p0)]) hx hb dX2_passEither_61 hl (k := 0) rfl (by rw [ey_37]; rfl) (lt_b rfl) rfl (fun ls hl => ?_)
          refine lv_goto (tgt := 12) hx hb dX2_passEither_64 rfl ?_
          exact ih_10 (1600 - y_37.toInt : Int).toNat ((by first | (clear ha_p0 hd f_6 c_7 c_18 f_24 f_30 c_31; omega) | omega)) _ _ _ ⟨G_33, y_37, (Int.toNat_of_nonneg ((by first | exact ok_388 f_15.2 c_17 ty_37 | omega))), ⟨(by first | exact ok_23 f_15.1 ty_37 | omega), (by first | exact ok_389 f_15.2 c_17 ty_37 | omega)⟩, (hX_13.st (St_k_fEither_1_s_1_mk ⟨x_12, G_8, y_37, G_33, rfl, rfl, f_15, hB_G_8, ⟨c_17, ⟨c_18, ⟨r_19, G_20, hX_23, ⟨r_25, G_26, hX_29, ⟨c_31, ⟨G_33, hX_36, ⟨y_37, ty_37, ⟨rfl, rfl⟩⟩⟩⟩⟩⟩⟩⟩⟩)), hW, hB_G_33, hF, (Fr.call9 (rs := [17]) (fs := [(1, 12), (1, 13), (3, 2), (3, 3), (3, 4), (3, 5), (3, 6), (3, 7), (3, 8), (4, 2)]) (Fr.call9 (rs := [17]) (fs := [(1, 12), (1, 13), (3, 2), (3, 3), (3, 4), (3, 5), (3, 6), (3, 7), (3, 8), (4, 2)]) (Fr.call9 (rs := [17]) (fs := [(1, 12), (1, 13), (3, 2), (3, 3), (3, 4), (3, 5), (3, 6), (3, 7), (3, 8), (4, 2)]) (Fr.call9 (rs := [17]) (fs := [(1, 12), (1, 13), (3, 2), (3, 3), (3, 4), (3, 5), (3, 6), (3, 7), (3, 8), (4, 2)]) Fr.rf hq_9 rfl rfl) hq_21 rfl rfl) hq_27 rfl rfl) hq_34 rfl rfl), hS, lv_sub hl [0, 1, 2] rfl⟩
        · have c_31 : r_25.toInt = 0 := xI_eq rfl rfl c_31
          refine ic_0 hx hb dX2_passEither_48 ?_
          exact W.zret (v := 0) hx hb hr (by decide) (fun t ht _ => ⟨⟨0, G_26, rfl, (P_fEither_1_s_mk ⟨hB_G_26, hF, ⟨by decide, by decide⟩, ⟨r_1, G_2, hX_5, (Or.inr ⟨c_7, ⟨x_12, G_8, hX_13, f_15, hB_G_8, hq_9, (Or.inr ⟨c_17, (Or.inl ⟨c_18, ⟨r_19, G_20, hX_23, ⟨r_25, G_26, hX_29, ⟨c_31, ⟨rfl, rfl⟩⟩⟩⟩⟩)⟩)⟩⟩)⟩⟩), wd_t ht hW⟩, hS.F ht⟩) hS.2.2 dX2_passEither_49
  · have c_7 : r_1.toInt = 0 := xI_eq rfl rfl c_7
    refine ic_0 hx hb dX2_passEither_8 ?_
    exact W.zret (v := 0) hx hb hr (by decide) (fun t ht _ => ⟨⟨0, G_2, rfl, (P_fEither_1_s_mk ⟨hB_G_2, hF, ⟨by decide, by decide⟩, ⟨r_1, G_2, hX_5, (Or.inl ⟨c_7, ⟨rfl, rfl⟩⟩)⟩⟩), wd_t ht hW⟩, hS.F ht⟩) hS.2.2 dX2_passEither_9
