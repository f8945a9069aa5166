theorem m89 : Cond.selects RX12 yX12_isAsked yX12_isAsked ∈ gd := gds_6 9 rfl
theorem m91 : Cond.selects RX12 yX12_layStreet yX12_layStreet ∈ gd := gds_6 11 rfl
theorem m1826 : Cond.methodLink RX12 490 yX12_isAsked ∈ gd := gdc_8_1 14 rfl gw_methodLink
theorem m1828 : Cond.instanceMethod yX12_isAsked ∈ gd := gdc_8_2 0 rfl gw_instanceMethod
theorem m1829 : Cond.code yX12_isAsked cX12_isAsked 4 (some .boolean) ∈ gd := gdc_8_2 1 rfl gw_code
theorem m1834 : Cond.methodLink RX12 493 yX12_layStreet ∈ gd := gdc_8_2 6 rfl gw_methodLink
theorem m1836 : Cond.instanceMethod yX12_layStreet ∈ gd := gdc_8_2 8 rfl gw_instanceMethod
theorem m1837 : Cond.code yX12_layStreet cX12_layStreet 6 none ∈ gd := gdc_8_2 9 rfl gw_code
def rbX12_foot_0 : List (Nat × List Nat) := [(0, [42]), (1, [27]), (2, [28]), (3, [29]), (4, [182, 1, 234]), (7, [153, 0, 13]), (10, [42]), (11, [28]), (12, [21, 4]), (14, [182, 1, 200]), (17, [154, 0, 5]), (20, [2]), (21, [172]), (22, [42]), (23, [27]), (24, [28]), (25, [29]), (26, [182, 1, 237]), (29, [42]), (30, [180, 0, 115]), (33, [21, 4]), (35, [51]), (36, [184, 1, 92]), (39, [172])]
theorem rcX12_foot_0 : dgo (lb cX12_foot) 0 rbX12_foot_0 = true := by decide +kernel
theorem dX12_foot_0 : decode cX12_foot 0 = .ok (.aload_n 0, 1) := dk_42 (dw rcX12_foot_0 0 rfl)
theorem dX12_foot_1 : decode cX12_foot 1 = .ok (.iload_n 1, 1) := dk_27 (dw rcX12_foot_0 1 rfl)
theorem dX12_foot_2 : decode cX12_foot 2 = .ok (.iload_n 2, 1) := dk_28 (dw rcX12_foot_0 2 rfl)
theorem dX12_foot_3 : decode cX12_foot 3 = .ok (.iload_n 3, 1) := dk_29 (dw rcX12_foot_0 3 rfl)
theorem dX12_foot_4 : decode cX12_foot 4 = .ok (.invokevirtual 490, 3) := dk_182 (dw rcX12_foot_0 4 rfl) rfl
theorem dX12_foot_7 : decode cX12_foot 7 = .ok (.ifCond .eq 13, 3) := dk_153 (dw rcX12_foot_0 5 rfl) rfl
theorem dX12_foot_10 : decode cX12_foot 10 = .ok (.aload_n 0, 1) := dk_42 (dw rcX12_foot_0 6 rfl)
theorem dX12_foot_11 : decode cX12_foot 11 = .ok (.iload_n 2, 1) := dk_28 (dw rcX12_foot_0 7 rfl)
theorem dX12_foot_12 : decode cX12_foot 12 = .ok (.iload 4, 2) := dk_21 (dw rcX12_foot_0 8 rfl)
theorem dX12_foot_14 : decode cX12_foot 14 = .ok (.invokevirtual 456, 3) := dk_182 (dw rcX12_foot_0 9 rfl) rfl
theorem dX12_foot_17 : decode cX12_foot 17 = .ok (.ifCond .ne 5, 3) := dk_154 (dw rcX12_foot_0 10 rfl) rfl
theorem dX12_foot_20 : decode cX12_foot 20 = .ok (.iconst (-1), 1) := dk_2 (dw rcX12_foot_0 11 rfl)
theorem dX12_foot_21 : decode cX12_foot 21 = .ok (.ireturn, 1) := dk_172 (dw rcX12_foot_0 12 rfl)
theorem dX12_foot_22 : decode cX12_foot 22 = .ok (.aload_n 0, 1) := dk_42 (dw rcX12_foot_0 13 rfl)
theorem dX12_foot_23 : decode cX12_foot 23 = .ok (.iload_n 1, 1) := dk_27 (dw rcX12_foot_0 14 rfl)
theorem dX12_foot_24 : decode cX12_foot 24 = .ok (.iload_n 2, 1) := dk_28 (dw rcX12_foot_0 15 rfl)
theorem dX12_foot_25 : decode cX12_foot 25 = .ok (.iload_n 3, 1) := dk_29 (dw rcX12_foot_0 16 rfl)
theorem dX12_foot_26 : decode cX12_foot 26 = .ok (.invokevirtual 493, 3) := dk_182 (dw rcX12_foot_0 17 rfl) rfl
theorem dX12_foot_29 : decode cX12_foot 29 = .ok (.aload_n 0, 1) := dk_42 (dw rcX12_foot_0 18 rfl)
theorem dX12_foot_30 : decode cX12_foot 30 = .ok (.getfield 115, 3) := dk_180 (dw rcX12_foot_0 19 rfl) rfl
theorem dX12_foot_33 : decode cX12_foot 33 = .ok (.iload 4, 2) := dk_21 (dw rcX12_foot_0 20 rfl)
theorem dX12_foot_35 : decode cX12_foot 35 = .ok (.baload, 1) := dk_51 (dw rcX12_foot_0 21 rfl)
theorem dX12_foot_36 : decode cX12_foot 36 = .ok (.invokestatic 348, 3) := dk_184 (dw rcX12_foot_0 22 rfl) rfl
theorem dX12_foot_39 : decode cX12_foot 39 = .ok (.ireturn, 1) := dk_172 (dw rcX12_foot_0 23 rfl)
def rbX12_gap_0 : List (Nat × List Nat) := [(0, [42]), (1, [27]), (2, [182, 1, 197]), (5, [153, 0, 20]), (8, [42]), (9, [28]), (10, [182, 1, 207]), (13, [153, 0, 12]), (16, [29]), (17, [3]), (18, [5]), (19, [184, 1, 193]), (22, [154, 0, 5]), (25, [2]), (26, [172]), (27, [3]), (28, [54, 4]), (30, [2]), (31, [54, 5]), (33, [3]), (34, [54, 6]), (36, [3]), (37, [54, 7]), (39, [3])]
theorem rcX12_gap_0 : dgo (lb cX12_gap) 0 rbX12_gap_0 = true := by decide +kernel
theorem dX12_gap_0 : decode cX12_gap 0 = .ok (.aload_n 0, 1) := dk_42 (dw rcX12_gap_0 0 rfl)
theorem dX12_gap_1 : decode cX12_gap 1 = .ok (.iload_n 1, 1) := dk_27 (dw rcX12_gap_0 1 rfl)
theorem dX12_gap_2 : decode cX12_gap 2 = .ok (.invokevirtual 453, 3) := dk_182 (dw rcX12_gap_0 2 rfl) rfl
theorem dX12_gap_5 : decode cX12_gap 5 = .ok (.ifCond .eq 20, 3) := dk_153 (dw rcX12_gap_0 3 rfl) rfl
theorem dX12_gap_8 : decode cX12_gap 8 = .ok (.aload_n 0, 1) := dk_42 (dw rcX12_gap_0 4 rfl)
theorem dX12_gap_9 : decode cX12_gap 9 = .ok (.iload_n 2, 1) := dk_28 (dw rcX12_gap_0 5 rfl)
theorem dX12_gap_10 : decode cX12_gap 10 = .ok (.invokevirtual 463, 3) := dk_182 (dw rcX12_gap_0 6 rfl) rfl
theorem dX12_gap_13 : decode cX12_gap 13 = .ok (.ifCond .eq 12, 3) := dk_153 (dw rcX12_gap_0 7 rfl) rfl
theorem dX12_gap_16 : decode cX12_gap 16 = .ok (.iload_n 3, 1) := dk_29 (dw rcX12_gap_0 8 rfl)
theorem dX12_gap_17 : decode cX12_gap 17 = .ok (.iconst 0, 1) := dk_3 (dw rcX12_gap_0 9 rfl)
theorem dX12_gap_18 : decode cX12_gap 18 = .ok (.iconst 2, 1) := dk_5 (dw rcX12_gap_0 10 rfl)
theorem dX12_gap_19 : decode cX12_gap 19 = .ok (.invokestatic 449, 3) := dk_184 (dw rcX12_gap_0 11 rfl) rfl
theorem dX12_gap_22 : decode cX12_gap 22 = .ok (.ifCond .ne 5, 3) := dk_154 (dw rcX12_gap_0 12 rfl) rfl
theorem dX12_gap_25 : decode cX12_gap 25 = .ok (.iconst (-1), 1) := dk_2 (dw rcX12_gap_0 13 rfl)
theorem dX12_gap_26 : decode cX12_gap 26 = .ok (.ireturn, 1) := dk_172 (dw rcX12_gap_0 14 rfl)
theorem dX12_gap_27 : decode cX12_gap 27 = .ok (.iconst 0, 1) := dk_3 (dw rcX12_gap_0 15 rfl)
theorem dX12_gap_28 : decode cX12_gap 28 = .ok (.istore 4, 2) := dk_54 (dw rcX12_gap_0 16 rfl)
theorem dX12_gap_30 : decode cX12_gap 30 = .ok (.iconst (-1), 1) := dk_2 (dw rcX12_gap_0 17 rfl)
theorem dX12_gap_31 : decode cX12_gap 31 = .ok (.istore 5, 2) := dk_54 (dw rcX12_gap_0 18 rfl)
theorem dX12_gap_33 : decode cX12_gap 33 = .ok (.iconst 0, 1) := dk_3 (dw rcX12_gap_0 19 rfl)
theorem dX12_gap_34 : decode cX12_gap 34 = .ok (.istore 6, 2) := dk_54 (dw rcX12_gap_0 20 rfl)
theorem dX12_gap_36 : decode cX12_gap 36 = .ok (.iconst 0, 1) := dk_3 (dw rcX12_gap_0 21 rfl)
theorem dX12_gap_37 : decode cX12_gap 37 = .ok (.istore 7, 2) := dk_54 (dw rcX12_gap_0 22 rfl)
theorem dX12_gap_39 : decode cX12_gap 39 = .ok (.iconst 0, 1) := dk_3 (dw rcX12_gap_0 23 rfl)
def rbX12_gap_40 : List (Nat × List Nat) := [(40, [54, 8]), (42, [21, 8]), (44, [42]), (45, [180, 0, 87]), (48, [27]), (49, [46]), (50, [162, 0, 67]), (53, [42]), (54, [27]), (55, [28]), (56, [21, 8]), (58, [182, 1, 210]), (61, [54, 9]), (63, [21, 7]), (65, [21, 9]), (67, [184, 1, 92]), (70, [96]), (71, [54, 7]), (73, [21, 9]), (75, [153, 0, 7]), (78, [3]), (79, [167, 0, 7]), (82, [21, 6]), (84, [4])]
theorem rcX12_gap_40 : dgo (lb cX12_gap) 0 rbX12_gap_40 = true := by decide +kernel
theorem dX12_gap_40 : decode cX12_gap 40 = .ok (.istore 8, 2) := dk_54 (dw rcX12_gap_40 0 rfl)
theorem dX12_gap_42 : decode cX12_gap 42 = .ok (.iload 8, 2) := dk_21 (dw rcX12_gap_40 1 rfl)
theorem dX12_gap_44 : decode cX12_gap 44 = .ok (.aload_n 0, 1) := dk_42 (dw rcX12_gap_40 2 rfl)
theorem dX12_gap_45 : decode cX12_gap 45 = .ok (.getfield 87, 3) := dk_180 (dw rcX12_gap_40 3 rfl) rfl
theorem dX12_gap_48 : decode cX12_gap 48 = .ok (.iload_n 1, 1) := dk_27 (dw rcX12_gap_40 4 rfl)
theorem dX12_gap_49 : decode cX12_gap 49 = .ok (.iaload, 1) := dk_46 (dw rcX12_gap_40 5 rfl)
theorem dX12_gap_50 : decode cX12_gap 50 = .ok (.if_icmp .ge 67, 3) := dk_162 (dw rcX12_gap_40 6 rfl) rfl
theorem dX12_gap_53 : decode cX12_gap 53 = .ok (.aload_n 0, 1) := dk_42 (dw rcX12_gap_40 7 rfl)
theorem dX12_gap_54 : decode cX12_gap 54 = .ok (.iload_n 1, 1) := dk_27 (dw rcX12_gap_40 8 rfl)
theorem dX12_gap_55 : decode cX12_gap 55 = .ok (.iload_n 2, 1) := dk_28 (dw rcX12_gap_40 9 rfl)
theorem dX12_gap_56 : decode cX12_gap 56 = .ok (.iload 8, 2) := dk_21 (dw rcX12_gap_40 10 rfl)
theorem dX12_gap_58 : decode cX12_gap 58 = .ok (.invokevirtual 466, 3) := dk_182 (dw rcX12_gap_40 11 rfl) rfl
theorem dX12_gap_61 : decode cX12_gap 61 = .ok (.istore 9, 2) := dk_54 (dw rcX12_gap_40 12 rfl)
theorem dX12_gap_63 : decode cX12_gap 63 = .ok (.iload 7, 2) := dk_21 (dw rcX12_gap_40 13 rfl)
theorem dX12_gap_65 : decode cX12_gap 65 = .ok (.iload 9, 2) := dk_21 (dw rcX12_gap_40 14 rfl)
theorem dX12_gap_67 : decode cX12_gap 67 = .ok (.invokestatic 348, 3) := dk_184 (dw rcX12_gap_40 15 rfl) rfl
theorem dX12_gap_70 : decode cX12_gap 70 = .ok (.iadd, 1) := dk_96 (dw rcX12_gap_40 16 rfl)
theorem dX12_gap_71 : decode cX12_gap 71 = .ok (.istore 7, 2) := dk_54 (dw rcX12_gap_40 17 rfl)
theorem dX12_gap_73 : decode cX12_gap 73 = .ok (.iload 9, 2) := dk_21 (dw rcX12_gap_40 18 rfl)
theorem dX12_gap_75 : decode cX12_gap 75 = .ok (.ifCond .eq 7, 3) := dk_153 (dw rcX12_gap_40 19 rfl) rfl
theorem dX12_gap_78 : decode cX12_gap 78 = .ok (.iconst 0, 1) := dk_3 (dw rcX12_gap_40 20 rfl)
theorem dX12_gap_79 : decode cX12_gap 79 = .ok (.goto 7, 3) := dk_167 (dw rcX12_gap_40 21 rfl) rfl
theorem dX12_gap_82 : decode cX12_gap 82 = .ok (.iload 6, 2) := dk_21 (dw rcX12_gap_40 22 rfl)
theorem dX12_gap_84 : decode cX12_gap 84 = .ok (.iconst 1, 1) := dk_4 (dw rcX12_gap_40 23 rfl)
def rbX12_gap_85 : List (Nat × List Nat) := [(85, [96]), (86, [54, 6]), (88, [21, 6]), (90, [21, 4]), (92, [163, 0, 6]), (95, [167, 0, 16]), (98, [21, 6]), (100, [54, 4]), (102, [21, 8]), (104, [21, 6]), (106, [100]), (107, [4]), (108, [96]), (109, [54, 5]), (111, [132, 8, 1]), (114, [167, 255, 184]), (117, [29]), (118, [154, 0, 8]), (121, [21, 4]), (123, [167, 0, 15]), (126, [29]), (127, [4]), (128, [160, 0, 8]), (131, [21, 5])]
theorem rcX12_gap_85 : dgo (lb cX12_gap) 0 rbX12_gap_85 = true := by decide +kernel
theorem dX12_gap_85 : decode cX12_gap 85 = .ok (.iadd, 1) := dk_96 (dw rcX12_gap_85 0 rfl)
theorem dX12_gap_86 : decode cX12_gap 86 = .ok (.istore 6, 2) := dk_54 (dw rcX12_gap_85 1 rfl)
theorem dX12_gap_88 : decode cX12_gap 88 = .ok (.iload 6, 2) := dk_21 (dw rcX12_gap_85 2 rfl)
theorem dX12_gap_90 : decode cX12_gap 90 = .ok (.iload 4, 2) := dk_21 (dw rcX12_gap_85 3 rfl)
theorem dX12_gap_92 : decode cX12_gap 92 = .ok (.if_icmp .gt 6, 3) := dk_163 (dw rcX12_gap_85 4 rfl) rfl
theorem dX12_gap_95 : decode cX12_gap 95 = .ok (.goto 16, 3) := dk_167 (dw rcX12_gap_85 5 rfl) rfl
theorem dX12_gap_98 : decode cX12_gap 98 = .ok (.iload 6, 2) := dk_21 (dw rcX12_gap_85 6 rfl)
theorem dX12_gap_100 : decode cX12_gap 100 = .ok (.istore 4, 2) := dk_54 (dw rcX12_gap_85 7 rfl)
theorem dX12_gap_102 : decode cX12_gap 102 = .ok (.iload 8, 2) := dk_21 (dw rcX12_gap_85 8 rfl)
theorem dX12_gap_104 : decode cX12_gap 104 = .ok (.iload 6, 2) := dk_21 (dw rcX12_gap_85 9 rfl)
theorem dX12_gap_106 : decode cX12_gap 106 = .ok (.isub, 1) := dk_100 (dw rcX12_gap_85 10 rfl)
theorem dX12_gap_107 : decode cX12_gap 107 = .ok (.iconst 1, 1) := dk_4 (dw rcX12_gap_85 11 rfl)
theorem dX12_gap_108 : decode cX12_gap 108 = .ok (.iadd, 1) := dk_96 (dw rcX12_gap_85 12 rfl)
theorem dX12_gap_109 : decode cX12_gap 109 = .ok (.istore 5, 2) := dk_54 (dw rcX12_gap_85 13 rfl)
theorem dX12_gap_111 : decode cX12_gap 111 = .ok (.iinc 8 1, 3) := dk_132 (dw rcX12_gap_85 14 rfl) rfl
theorem dX12_gap_114 : decode cX12_gap 114 = .ok (.goto (-72), 3) := dk_167 (dw rcX12_gap_85 15 rfl) rfl
theorem dX12_gap_117 : decode cX12_gap 117 = .ok (.iload_n 3, 1) := dk_29 (dw rcX12_gap_85 16 rfl)
theorem dX12_gap_118 : decode cX12_gap 118 = .ok (.ifCond .ne 8, 3) := dk_154 (dw rcX12_gap_85 17 rfl) rfl
theorem dX12_gap_121 : decode cX12_gap 121 = .ok (.iload 4, 2) := dk_21 (dw rcX12_gap_85 18 rfl)
theorem dX12_gap_123 : decode cX12_gap 123 = .ok (.goto 15, 3) := dk_167 (dw rcX12_gap_85 19 rfl) rfl
theorem dX12_gap_126 : decode cX12_gap 126 = .ok (.iload_n 3, 1) := dk_29 (dw rcX12_gap_85 20 rfl)
theorem dX12_gap_127 : decode cX12_gap 127 = .ok (.iconst 1, 1) := dk_4 (dw rcX12_gap_85 21 rfl)
theorem dX12_gap_128 : decode cX12_gap 128 = .ok (.if_icmp .ne 8, 3) := dk_160 (dw rcX12_gap_85 22 rfl) rfl
theorem dX12_gap_131 : decode cX12_gap 131 = .ok (.iload 5, 2) := dk_21 (dw rcX12_gap_85 23 rfl)
def rbX12_gap_133 : List (Nat × List Nat) := [(133, [167, 0, 5]), (136, [21, 7]), (138, [172])]
theorem rcX12_gap_133 : dgo (lb cX12_gap) 0 rbX12_gap_133 = true := by decide +kernel
theorem dX12_gap_133 : decode cX12_gap 133 = .ok (.goto 5, 3) := dk_167 (dw rcX12_gap_133 0 rfl) rfl
theorem dX12_gap_136 : decode cX12_gap 136 = .ok (.iload 7, 2) := dk_21 (dw rcX12_gap_133 1 rfl)
theorem dX12_gap_138 : decode cX12_gap 138 = .ok (.ireturn, 1) := dk_172 (dw rcX12_gap_133 2 rfl)
def rbX12_line_0 : List (Nat × List Nat) := [(0, [42]), (1, [27]), (2, [182, 1, 197]), (5, [153, 0, 33]), (8, [42]), (9, [28]), (10, [182, 1, 207]), (13, [153, 0, 25]), (16, [42]), (17, [27]), (18, [29]), (19, [182, 1, 200]), (22, [153, 0, 16]), (25, [42]), (26, [27]), (27, [28]), (28, [29]), (29, [182, 1, 210]), (32, [184, 1, 92]), (35, [167, 0, 4]), (38, [2]), (39, [172])]
theorem rcX12_line_0 : dgo (lb cX12_line) 0 rbX12_line_0 = true := by decide +kernel
theorem dX12_line_0 : decode cX12_line 0 = .ok (.aload_n 0, 1) := dk_42 (dw rcX12_line_0 0 rfl)
theorem dX12_line_1 : decode cX12_line 1 = .ok (.iload_n 1, 1) := dk_27 (dw rcX12_line_0 1 rfl)
theorem dX12_line_2 : decode cX12_line 2 = .ok (.invokevirtual 453, 3) := dk_182 (dw rcX12_line_0 2 rfl) rfl
theorem dX12_line_5 : decode cX12_line 5 = .ok (.ifCond .eq 33, 3) := dk_153 (dw rcX12_line_0 3 rfl) rfl
theorem dX12_line_8 : decode cX12_line 8 = .ok (.aload_n 0, 1) := dk_42 (dw rcX12_line_0 4 rfl)
theorem dX12_line_9 : decode cX12_line 9 = .ok (.iload_n 2, 1) := dk_28 (dw rcX12_line_0 5 rfl)
theorem dX12_line_10 : decode cX12_line 10 = .ok (.invokevirtual 463, 3) := dk_182 (dw rcX12_line_0 6 rfl) rfl
theorem dX12_line_13 : decode cX12_line 13 = .ok (.ifCond .eq 25, 3) := dk_153 (dw rcX12_line_0 7 rfl) rfl
theorem dX12_line_16 : decode cX12_line 16 = .ok (.aload_n 0, 1) := dk_42 (dw rcX12_line_0 8 rfl)
theorem dX12_line_17 : decode cX12_line 17 = .ok (.iload_n 1, 1) := dk_27 (dw rcX12_line_0 9 rfl)
theorem dX12_line_18 : decode cX12_line 18 = .ok (.iload_n 3, 1) := dk_29 (dw rcX12_line_0 10 rfl)
theorem dX12_line_19 : decode cX12_line 19 = .ok (.invokevirtual 456, 3) := dk_182 (dw rcX12_line_0 11 rfl) rfl
theorem dX12_line_22 : decode cX12_line 22 = .ok (.ifCond .eq 16, 3) := dk_153 (dw rcX12_line_0 12 rfl) rfl
theorem dX12_line_25 : decode cX12_line 25 = .ok (.aload_n 0, 1) := dk_42 (dw rcX12_line_0 13 rfl)
theorem dX12_line_26 : decode cX12_line 26 = .ok (.iload_n 1, 1) := dk_27 (dw rcX12_line_0 14 rfl)
theorem dX12_line_27 : decode cX12_line 27 = .ok (.iload_n 2, 1) := dk_28 (dw rcX12_line_0 15 rfl)
theorem dX12_line_28 : decode cX12_line 28 = .ok (.iload_n 3, 1) := dk_29 (dw rcX12_line_0 16 rfl)
theorem dX12_line_29 : decode cX12_line 29 = .ok (.invokevirtual 466, 3) := dk_182 (dw rcX12_line_0 17 rfl) rfl
theorem dX12_line_32 : decode cX12_line 32 = .ok (.invokestatic 348, 3) := dk_184 (dw rcX12_line_0 18 rfl) rfl
theorem dX12_line_35 : decode cX12_line 35 = .ok (.goto 4, 3) := dk_167 (dw rcX12_line_0 19 rfl) rfl
theorem dX12_line_38 : decode cX12_line 38 = .ok (.iconst (-1), 1) := dk_2 (dw rcX12_line_0 20 rfl)
theorem dX12_line_39 : decode cX12_line 39 = .ok (.ireturn, 1) := dk_172 (dw rcX12_line_0 21 rfl)
set_option maxHeartbeats 4000000 in
set_option maxRecDepth 100000 in
theorem n_line (l : Launch) (D : va_G) (k : KT) (A : Nat → Prop) (a : Nat → Nat) (z : SK) (G : GS) (p0 : Int32) (p1 : Int32) (p2 : Int32) (hP9 : gP G = 1) : Met l yX12_line (WS yX12_line cX12_line 4 (some .int)) ({ frames := 4, cells := 0, slots := 0, locals := 92 }) (va_Pc [.ref (a 66), .int p0, .int p1, .int p2] (cW D k A a z G)) (va_Qi (fun (r : Int32) (G1 : GS) => Q_line p0 p1 p2 G r G1) (fun (G1 : GS) t => Wd D k A a G1 t.heap) A) 0 0 A := by
  refine Met.ofW (cc := cX12_line) (maxL := 4) (ret := (some .int)) (by decide) rfl ?_
  intro p e s m args below meth c s₁ B hml hv
  obtain ⟨rfl, hW, hB_G, hK, hZ⟩ := hv
  have hx := B.exec
  have hb := B.bytes
  have hr := B.returns
  have hts := atoms_spec (ws := WS yX12_line cX12_line 4 (some .int)) B.pre
  have hgd : ∀ w ∈ gd, w ∈ WS yX12_line cX12_line 4 (some .int) := fun w h => List.mem_cons_of_mem _ h
  have hg : ∀ w ∈ gd, w.before _ s = true := fun w h => hts w (hgd w h)
  have hown : s.vm.findClass RX12 = some m.cls := findClass_of_methodNamed B.named
  have hS : va_S A s.heap s.heap [] := va_S.rf
  have hF : Fr [76] [] G G := Fr.rf
  have hl := lv_entry ([.ref (a 66), .int p0, .int p1, .int p2]) (n := 4) (Nat.le_of_ble_eq_true rfl)
  rw [lg_entry_eq]
  generalize (lg_sl ([.ref (a 66), .int p0, .int p1, .int p2]) ++ List.replicate (4 - (lg_sl ([.ref (a 66), .int p0, .int p1, .int p2])).length) Slot.unset).toArray = ls at hl ⊢
  have hl : lv_has ls 4 [(0, .ref (a 66)), (1, .int p0), (2, .int p1), (3, .int p2)] := hl
  refine lv_aload_n hx hb dX12_line_0 rfl (lv_at hl 0 rfl) ?_
  refine lv_iload_n hx hb dX12_line_1 rfl (lv_at hl 1 rfl) ?_
  refine S_calli (va_runV (As := [.int p0]) (rest := []) ⟨hx, hb, hml, hown, hts⟩ (n_isStreet l D k A a z G p0 ) (cwV 1 hts (gd_V hgd m1777 m1779 m83 m131 m1780) rfl rfl rfl hd_X12_isStreet ⟨Nat.le_of_ble_eq_true rfl, Nat.le_of_ble_eq_true rfl⟩) (pre_W hW hB_G hK hZ hS kd_66 rfl) rfl rfl hl.1 rfl (lv_room (Nat.le_of_ble_eq_true rfl)) dX12_line_2 ⟨Nat.le_of_ble_eq_true rfl, Nat.le_of_ble_eq_true rfl⟩) hS (fun r_1 G_2 H locs hpo hW hS => ?_)
  have hX_5 : Q_isStreet p0 G r_1 G_2 := hpo
  obtain ⟨hB_G_2, hq_3, f_6, hp_4, -⟩ := hpo
  have hF := hF.call9 hq_3 rfl rfl
  refine lv_if_eq (tgt := 38) hx hb dX12_line_5 rfl (fun c_7 => ?_) (fun c_7 => ?_)
  · have c_7 : r_1.toInt = 0 := xI_eq rfl rfl c_7
    refine ic_m1 hx hb dX12_line_38 ?_
    exact W.iret (v := (-1)) hx hb hr (fun t ht _ => ⟨⟨(-1), G_2, rfl, (Q_line_mk ⟨hB_G_2, hF, ⟨r_1, G_2, hX_5, (Or.inl ⟨c_7, ⟨rfl, rfl⟩⟩)⟩⟩), wd_t ht hW⟩, hS.F ht⟩) hS.2.2 dX12_line_39
  · have c_7 : r_1.toInt ≠ 0 := xI_ne rfl rfl c_7
    refine lv_aload_n hx hb dX12_line_8 rfl (lv_at hl 0 rfl) ?_
    refine lv_iload_n hx hb dX12_line_9 rfl (lv_at hl 2 rfl) ?_
    refine S_calli (va_runV (As := [.int p1]) (rest := []) ⟨hx, hb, hml, hown, hts⟩ (n_areRules l D k A a z G_2 p1 ) (cwV 1 hts (gd_V hgd m1799 m1801 m85 m131 m1802) rfl rfl rfl hd_X12_areRules ⟨Nat.le_of_ble_eq_true rfl, Nat.le_of_ble_eq_true rfl⟩) (pre_W hW hB_G_2 hK hZ hS kd_66 rfl) rfl rfl hl.1 rfl (lv_room (Nat.le_of_ble_eq_true rfl)) dX12_line_10 ⟨Nat.le_of_ble_eq_true rfl, Nat.le_of_ble_eq_true rfl⟩) hS (fun r_8 G_9 H locs hpo hW hS => ?_)
    have hX_12 : Q_areRules p1 G_2 r_8 G_9 := hpo
    obtain ⟨hB_G_9, hq_10, f_13, hp_11, -⟩ := hpo
    have hF := hF.call9 hq_10 rfl rfl
    refine lv_if_eq (tgt := 38) hx hb dX12_line_13 rfl (fun c_14 => ?_) (fun c_14 => ?_)
    · have c_14 : r_8.toInt = 0 := xI_eq rfl rfl c_14
      refine ic_m1 hx hb dX12_line_38 ?_
      exact W.iret (v := (-1)) hx hb hr (fun t ht _ => ⟨⟨(-1), G_9, rfl, (Q_line_mk ⟨hB_G_9, hF, ⟨r_1, G_2, hX_5, (Or.inr ⟨c_7, ⟨r_8, G_9, hX_12, (Or.inl ⟨c_14, ⟨rfl, rfl⟩⟩)⟩⟩)⟩⟩), wd_t ht hW⟩, hS.F ht⟩) hS.2.2 dX12_line_39
    · have c_14 : r_8.toInt ≠ 0 := xI_ne rfl rfl c_14
      refine lv_aload_n hx hb dX12_line_16 rfl (lv_at hl 0 rfl) ?_
      refine lv_iload_n hx hb dX12_line_17 rfl (lv_at hl 1 rfl) ?_
      refine lv_iload_n hx hb dX12_line_18 rfl (lv_at hl 3 rfl) ?_
      refine S_calli (va_runV (As := [.int p0, .int p2]) (rest := []) ⟨hx, hb, hml, hown, hts⟩ (n_isInch l D k A a z G_9 p0 p2 ⟨(by first | (clear hP9 f_13 hp_11 c_14; omega) | omega), (by first | (clear hP9 f_13 hp_11 c_14; omega) | omega)⟩) (cwV 2 hts (gd_V hgd m1784 m1786 m84 m131 m1787) rfl rfl rfl hd_X12_isInch ⟨Nat.le_of_ble_eq_true rfl, Nat.le_of_ble_eq_true rfl⟩) (pre_W hW hB_G_9 hK hZ hS kd_66 rfl) rfl rfl hl.1 rfl (lv_room (Nat.le_of_ble_eq_true rfl)) dX12_line_19 ⟨Nat.le_of_ble_eq_true rfl, Nat.le_of_ble_eq_true rfl⟩) hS (fun r_15 G_16 H locs hpo hW hS => ?_)
      have hX_19 : Q_isInch p0 p2 G_9 r_15 G_16 := hpo
      obtain ⟨hB_G_16, hq_17, f_20, hp_18, -⟩ := hpo
      have hF := hF.call9 hq_17 rfl rfl
      refine lv_if_eq (tgt := 38) hx hb dX12_line_22 rfl (fun c_21 => ?_) (fun c_21 => ?_)
      · have c_21 : r_15.toInt = 0 := xI_eq rfl rfl c_21
        refine ic_m1 hx hb dX12_line_38 ?_
        exact W.iret (v := (-1)) hx hb hr (fun t ht _ => ⟨⟨(-1), G_16, rfl, (Q_line_mk ⟨hB_G_16, hF, ⟨r_1, G_2, hX_5, (Or.inr ⟨c_7, ⟨r_8, G_9, hX_12, (Or.inr ⟨c_14, ⟨r_15, G_16, hX_19, (Or.inl ⟨c_21, ⟨rfl, rfl⟩⟩)⟩⟩)⟩⟩)⟩⟩), wd_t ht hW⟩, hS.F ht⟩) hS.2.2 dX12_line_39
      · have c_21 : r_15.toInt ≠ 0 := xI_ne rfl rfl c_21
        refine lv_aload_n hx hb dX12_line_25 rfl (lv_at hl 0 rfl) ?_
        refine lv_iload_n hx hb dX12_line_26 rfl (lv_at hl 1 rfl) ?_
        refine lv_iload_n hx hb dX12_line_27 rfl (lv_at hl 2 rfl) ?_
        refine lv_iload_n hx hb dX12_line_28 rfl (lv_at hl 3 rfl) ?_
        have fr_22 : Fr [] [] G G_16 := (Fr.call9 (rs := []) (fs := []) (Fr.call9 (rs := []) (fs := []) (Fr.call9 (rs := []) (fs := []) Fr.rf hq_3 rfl rfl) hq_10 rfl rfl) hq_17 rfl rfl)
        have g_23 : gP G_16 = gP G := gP_fr fr_22 (gr_q rfl) (gf_q rfl)
        refine S_calli (va_runV (As := [.int p0, .int p1, .int p2]) (rest := []) ⟨hx, hb, hml, hown, hts⟩ (n_isLine l D k A a z G_16 p0 p1 p2 ⟨(by first | (clear hP9 f_13 hp_11 c_14 f_20 hp_18 c_21 g_23; omega) | omega), (by first | (clear hP9 f_13 hp_11 c_14 f_20 hp_18 c_21 g_23; omega) | omega)⟩ ⟨(by first | (clear hP9 f_6 hp_4 c_7 f_13 hp_11 c_14 g_23; omega) | omega), (by first | (clear hP9 f_6 hp_4 c_7 f_13 hp_11 c_14 g_23; omega) | omega)⟩ ((by first | (clear f_6 hp_4 c_7 f_13 hp_11 c_14 f_20 hp_18 c_21; omega) | omega))) (cwV 3 hts (gd_V hgd m1803 m1805 m86 m131 m1806) rfl rfl rfl hd_X12_isLine ⟨Nat.le_of_ble_eq_true rfl, Nat.le_of_ble_eq_true rfl⟩) (pre_W hW hB_G_16 hK hZ hS kd_66 rfl) rfl rfl hl.1 rfl (lv_room (Nat.le_of_ble_eq_true rfl)) dX12_line_29 ⟨Nat.le_of_ble_eq_true rfl, Nat.le_of_ble_eq_true rfl⟩) hS (fun r_24 G_25 H locs hpo hW hS => ?_)
        have hX_28 : Q_isLine p0 p1 p2 G_16 r_24 G_25 := hpo
        obtain ⟨hB_G_25, hq_26, f_29, -⟩ := hpo
        have hF := hF.call9 hq_26 rfl rfl
        refine S_calli (va_runS (As := [.int r_24]) (rest := []) ⟨hx, hb, hml, hown, hts⟩ (n_truth l D k A a z G_25 r_24 ⟨(by first | (clear hP9 f_6 hp_4 c_7 f_13 hp_11 c_14 f_20 hp_18 c_21 g_23; omega) | omega), (by first | (clear hP9 f_6 hp_4 c_7 f_13 hp_11 c_14 f_20 hp_18 c_21 g_23; omega) | omega)⟩) (va_cwS 1 hts (gd_S hgd m1788 m1789 m131 m1790) rfl rfl rfl hd_X12_truth.2 ⟨Nat.le_of_ble_eq_true rfl, Nat.le_of_ble_eq_true rfl⟩) (pre_S hW hB_G_25 hK hZ hS) rfl rfl hl.1 rfl (lv_room (Nat.le_of_ble_eq_true rfl)) dX12_line_32 ⟨Nat.le_of_ble_eq_true rfl, Nat.le_of_ble_eq_true rfl⟩) hS (fun r_30 G_31 H locs hpo hW hS => ?_)
        have hX_34 : Q_truth r_24 G_25 r_30 G_31 := hpo
        obtain ⟨hB_G_31, hq_32, f_35, hp_33, -⟩ := hpo
        have hF := hF.call9 hq_32 rfl rfl
        refine lv_goto (tgt := 39) hx hb dX12_line_35 rfl ?_
        exact W.iret (v := r_30) hx hb hr (fun t ht _ => ⟨⟨r_30, G_31, rfl, (Q_line_mk ⟨hB_G_31, hF, ⟨r_1, G_2, hX_5, (Or.inr ⟨c_7, ⟨r_8, G_9, hX_12, (Or.inr ⟨c_14, ⟨r_15, G_16, hX_19, (Or.inr ⟨c_21, ⟨r_24, G_25, hX_28, ⟨r_30, G_31, hX_34, ⟨rfl, rfl⟩⟩⟩⟩)⟩⟩)⟩⟩)⟩⟩), wd_t ht hW⟩, hS.F ht⟩) hS.2.2 dX12_line_39

set_option maxHeartbeats 4000000 in
set_option maxRecDepth 100000 in
theorem n_gap (l : Launch) (D : va_G) (k : KT) (A : Nat → Prop) (a : Nat → Nat) (z : SK) (G : GS) (p0 : Int32) (p1 : Int32) (p2 : Int32) (hP9 : gP G = 1) : Met l yX12_gap (WS yX12_gap cX12_gap 10 (some .int)) ({ frames := 4, cells := 0, slots := 0, locals := 92 }) (va_Pc [.ref (a 66), .int p0, .int p1, .int p2] (cW D k A a z G)) (va_Qi (fun (r : Int32) (G1 : GS) => Q_gap p0 p1 p2 G r G1) (fun (G1 : GS) t => Wd D k A a G1 t.heap) A) 0 0 A := by
  refine Met.ofW (cc := cX12_gap) (maxL := 10) (ret := (some .int)) (by decide) rfl ?_
  intro p e s m args below meth c s₁ B hml hv
  obtain ⟨rfl, hW, hB_G, hK, hZ⟩ := hv
  have hx := B.exec
  have hb := B.bytes
  have hr := B.returns
  have hts := atoms_spec (ws := WS yX12_gap cX12_gap 10 (some .int)) B.pre
  have hgd : ∀ w ∈ gd, w ∈ WS yX12_gap cX12_gap 10 (some .int) := fun w h => List.mem_cons_of_mem _ h
  have hg : ∀ w ∈ gd, w.before _ s = true := fun w h => hts w (hgd w h)
  have hown : s.vm.findClass RX12 = some m.cls := findClass_of_methodNamed B.named
  have hS : va_S A s.heap s.heap [] := va_S.rf
  have hF : Fr [76] [] G G := Fr.rf
  have hl := lv_entry ([.ref (a 66), .int p0, .int p1, .int p2]) (n := 10) (Nat.le_of_ble_eq_true rfl)
  rw [lg_entry_eq]
  generalize (lg_sl ([.ref (a 66), .int p0, .int p1, .int p2]) ++ List.replicate (10 - (lg_sl ([.ref (a 66), .int p0, .int p1, .int p2])).length) Slot.unset).toArray = ls at hl ⊢
  have hl : lv_has ls 10 [(0, .ref (a 66)), (1, .int p0), (2, .int p1), (3, .int p2)] := hl
  refine lv_aload_n hx hb dX12_gap_0 rfl (lv_at hl 0 rfl) ?_
  refine lv_iload_n hx hb dX12_gap_1 rfl (lv_at hl 1 rfl) ?_
  refine S_calli (va_runV (As := [.int p0]) (rest := []) ⟨hx, hb, hml, hown, hts⟩ (n_isStreet l D k A a z G p0 ) (cwV 1 hts (gd_V hgd m1777 m1779 m83 m131 m1780) rfl rfl rfl hd_X12_isStreet ⟨Nat.le_of_ble_eq_true rfl, Nat.le_of_ble_eq_true rfl⟩) (pre_W hW hB_G hK hZ hS kd_66 rfl) rfl rfl hl.1 rfl (lv_room (Nat.le_of_ble_eq_true rfl)) dX12_gap_2 ⟨Nat.le_of_ble_eq_true rfl, Nat.le_of_ble_eq_true rfl⟩) hS (fun r_1 G_2 H locs hpo hW hS => ?_)
  have hX_5 : Q_isStreet p0 G r_1 G_2 := hpo
  obtain ⟨hB_G_2, hq_3, f_6, hp_4, -⟩ := hpo
  have hF := hF.call9 hq_3 rfl rfl
  refine lv_if_eq (tgt := 25) hx hb dX12_gap_5 rfl (fun c_7 => ?_) (fun c_7 => ?_)
  · have c_7 : r_1.toInt = 0 := xI_eq rfl rfl c_7
    refine ic_m1 hx hb dX12_gap_25 ?_
    exact W.iret (v := (-1)) hx hb hr (fun t ht _ => ⟨⟨(-1), G_2, rfl, (Q_gap_mk ⟨hB_G_2, hF, ⟨r_1, G_2, hX_5, (Or.inl ⟨c_7, ⟨rfl, rfl⟩⟩)⟩⟩), wd_t ht hW⟩, hS.F ht⟩) hS.2.2 dX12_gap_26
  · have c_7 : r_1.toInt ≠ 0 := xI_ne rfl rfl c_7
    refine lv_aload_n hx hb dX12_gap_8 rfl (lv_at hl 0 rfl) ?_
    refine lv_iload_n hx hb dX12_gap_9 rfl (lv_at hl 2 rfl) ?_
    refine S_calli (va_runV (As := [.int p1]) (rest := []) ⟨hx, hb, hml, hown, hts⟩ (n_areRules l D k A a z G_2 p1 ) (cwV 1 hts (gd_V hgd m1799 m1801 m85 m131 m1802) rfl rfl rfl hd_X12_areRules ⟨Nat.le_of_ble_eq_true rfl, Nat.le_of_ble_eq_true rfl⟩) (pre_W hW hB_G_2 hK hZ hS kd_66 rfl) rfl rfl hl.1 rfl (lv_room (Nat.le_of_ble_eq_true rfl)) dX12_gap_10 ⟨Nat.le_of_ble_eq_true rfl, Nat.le_of_ble_eq_true rfl⟩) hS (fun r_8 G_9 H locs hpo hW hS => ?_)
    have hX_12 : Q_areRules p1 G_2 r_8 G_9 := hpo
    obtain ⟨hB_G_9, hq_10, f_13, hp_11, -⟩ := hpo
    have hF := hF.call9 hq_10 rfl rfl
    refine lv_if_eq (tgt := 25) hx hb dX12_gap_13 rfl (fun c_14 => ?_) (fun c_14 => ?_)
    · have c_14 : r_8.toInt = 0 := xI_eq rfl rfl c_14
      refine ic_m1 hx hb dX12_gap_25 ?_
      exact W.iret (v := (-1)) hx hb hr (fun t ht _ => ⟨⟨(-1), G_9, rfl, (Q_gap_mk ⟨hB_G_9, hF, ⟨r_1, G_2, hX_5, (Or.inr ⟨c_7, ⟨r_8, G_9, hX_12, (Or.inl ⟨c_14, ⟨rfl, rfl⟩⟩)⟩⟩)⟩⟩), wd_t ht hW⟩, hS.F ht⟩) hS.2.2 dX12_gap_26
    · have c_14 : r_8.toInt ≠ 0 := xI_ne rfl rfl c_14
      refine lv_iload_n hx hb dX12_gap_16 rfl (lv_at hl 3 rfl) ?_
      refine ic_0 hx hb dX12_gap_17 ?_
      refine ic_2 hx hb dX12_gap_18 ?_
      have qc_15 : (0 : Int32).toInt = 0 := rfl
      have qc_16 : (2 : Int32).toInt = 2 := rfl
      refine S_calli (va_runS (As := [.int p2, .int 0, .int 2]) (rest := []) ⟨hx, hb, hml, hown, hts⟩ (n_isIn l D k A a z G_9 p2 0 2 ) (va_cwS 3 hts (gd_S hgd m1781 m1782 m131 m1783) rfl rfl rfl hd_X12_isIn.2 ⟨Nat.le_of_ble_eq_true rfl, Nat.le_of_ble_eq_true rfl⟩) (pre_S hW hB_G_9 hK hZ hS) rfl rfl hl.1 rfl (lv_room (Nat.le_of_ble_eq_true rfl)) dX12_gap_19 ⟨Nat.le_of_ble_eq_true rfl, Nat.le_of_ble_eq_true rfl⟩) hS (fun r_17 G_18 H locs hpo hW hS => ?_)
      have hX_21 : Q_isIn p2 0 2 G_9 r_17 G_18 := hpo
      obtain ⟨hB_G_18, hq_19, f_22, ⟨d_1, d_2⟩, -⟩ := hpo
      have hF := hF.call9 hq_19 rfl rfl
      refine lv_if_ne (tgt := 27) hx hb dX12_gap_22 rfl (fun c_23 => ?_) (fun c_23 => ?_)
      · have c_23 : r_17.toInt ≠ 0 := xI_ne rfl rfl c_23
        refine ic_0 hx hb dX12_gap_27 ?_
        refine lv_istore (lv' := [(4, .int 0), (0, .ref (a 66)), (1, .int p0), (2, .int p1), (3, .int p2)]) hx hb dX12_gap_28 hl (lt_b rfl) rfl (fun ls hl => ?_)
        refine ic_m1 hx hb dX12_gap_30 ?_
        refine lv_istore (lv' := [(5, .int (-1)), (4, .int 0), (0, .ref (a 66)), (1, .int p0), (2, .int p1), (3, .int p2)]) hx hb dX12_gap_31 hl (lt_b rfl) rfl (fun ls hl => ?_)
        refine ic_0 hx hb dX12_gap_33 ?_
        refine lv_istore (lv' := [(6, .int 0), (5, .int (-1)), (4, .int 0), (0, .ref (a 66)), (1, .int p0), (2, .int p1), (3, .int p2)]) hx hb dX12_gap_34 hl (lt_b rfl) rfl (fun ls hl => ?_)
        refine ic_0 hx hb dX12_gap_36 ?_
        refine lv_istore (lv' := [(7, .int 0), (6, .int 0), (5, .int (-1)), (4, .int 0), (0, .ref (a 66)), (1, .int p0), (2, .int p1), (3, .int p2)]) hx hb dX12_gap_37 hl (lt_b rfl) rfl (fun ls hl => ?_)
        refine ic_0 hx hb dX12_gap_39 ?_
        refine lv_istore (lv' := [(8, .int 0), (7, .int 0), (6, .int 0), (5, .int (-1)), (4, .int 0), (0, .ref (a 66)), (1, .int p0), (2, .int p1), (3, .int p2)]) hx hb dX12_gap_40 hl (lt_b rfl) rfl (fun ls hl => ?_)
        have qc_34 : ((-1) : Int32).toInt = (-1) := rfl
        have qc_35 : (0 : Int32).toInt = 0 := rfl
        refine loop_N (Inv := fun n H locs ls => ∃ (G_24 : GS) (x_28 : Int32) (x_29 : Int32) (x_30 : Int32) (x_31 : Int32) (x_32 : Int32), (n : Int) = 400 - x_28.toInt ∧ (0 ≤ x_28.toInt ∧ x_28.toInt ≤ 400) ∧ (x_31.toInt ≤ 400) ∧ (0 ≤ x_32.toInt) ∧ Rc (St_n_gap_1 p0 p1) (0, 0, 0, (-1), 0, G_18) (x_28, x_29, x_30, x_31, x_32, G_24) ∧ Wd D k A a G_24 H ∧ Bd G_24 ∧ Fr [76] [] G G_24 ∧ Fr [76] [] G_18 G_24 ∧ va_S A s.heap H locs ∧ lv_has ls 10 [(8, .int x_28), (7, .int x_29), (6, .int x_30), (5, .int x_31), (4, .int x_32), (0, .ref (a 66)), (1, .int p0), (2, .int p1), (3, .int p2)]) (fun n_27 H locs ls ih_26 hI => ?_) (400 - 0 : Int).toNat ⟨G_18, 0, 0, 0, (-1), 0, (Int.toNat_of_nonneg ((by first | (clear hP9 f_6 hp_4 c_7 f_13 hp_11 c_14 f_22 d_1 d_2 c_23; omega) | omega))), ⟨(by first | (clear hP9 f_6 hp_4 c_7 f_13 hp_11 c_14 f_22 d_1 d_2 c_23; omega) | omega), (by first | (clear hP9 f_6 hp_4 c_7 f_13 hp_11 c_14 f_22 d_1 d_2 c_23; omega) | omega)⟩, ((by first | (clear hP9 f_6 hp_4 c_7 f_13 hp_11 c_14 f_22 d_1 d_2 c_23; omega) | omega)), ((by first | (clear hP9 f_6 hp_4 c_7 f_13 hp_11 c_14 f_22 d_1 d_2 c_23; omega) | omega)), Rc.rf, hW, hB_G_18, hF, Fr.rf, hS, lv_sub hl [0, 1, 2, 3, 4, 5, 6, 7, 8] rfl⟩
        obtain ⟨G_24, x_28, x_29, x_30, x_31, x_32, hn_39, f_36, f_37, f_38, hX_33, hW, hB_G_24, hF, hq_25, hS, hl⟩ := hI
        refine lv_iload hx hb dX12_gap_42 (lv_at hl 0 rfl) ?_
        refine lv_aload_n hx hb dX12_gap_44 rfl (lv_at hl 5 rfl) ?_
        refine S_getR (n := 91) (C := RX12) (T := TX12) (N := 89) hx hb hg iX12 hown hK hW kd_66 rfl 39 (lt_b rfl) (hg (Cond.fieldLink RX12 87 "SlabWalkModel" "lengths" "[I") m1353) (fun _ h9 => h9) rfl dX12_gap_45 ?_
        refine lv_iload_n hx hb dX12_gap_48 rfl (lv_at hl 6 rfl) ?_
        refine S_iald hx hb hK hW kd_91 (vin ((by first | (clear hP9 f_13 hp_11 c_14 f_22 d_1 d_2 c_23 hn_39 f_36 f_37 f_38; omega) | omega)) ((by first | (clear hP9 f_13 hp_11 c_14 f_22 d_1 d_2 c_23 hn_39 f_36 f_37 f_38; omega) | omega))) dX12_gap_49 (fun y_40 ey_40 => ?_)
        have ty_40 : 0 ≤ y_40.toInt ∧ y_40.toInt ≤ 400 := bv_91 hB_G_24 ey_40
        refine lv_icmp_ge (tgt := 117) hx hb dX12_gap_50 rfl (fun c_41 => ?_) (fun c_41 => ?_)
        · have c_41 : y_40.toInt ≤ x_28.toInt := xI_le rfl rfl c_41
          refine lv_iload_n hx hb dX12_gap_117 rfl (lv_at hl 8 rfl) ?_
          refine lv_if_ne (tgt := 126) hx hb dX12_gap_118 rfl (fun c_42 => ?_) (fun c_42 => ?_)
          · have c_42 : p2.toInt ≠ 0 := xI_ne rfl rfl c_42
            refine lv_iload_n hx hb dX12_gap_126 rfl (lv_at hl 8 rfl) ?_
            refine ic_1 hx hb dX12_gap_127 ?_
            refine lv_icmp_ne (tgt := 136) hx hb dX12_gap_128 rfl (fun c_43 => ?_) (fun c_43 => ?_)
            · have c_43 : p2.toInt ≠ 1 := xI_ne rfl rfl c_43
              refine lv_iload hx hb dX12_gap_136 (lv_at hl 1 rfl) ?_
              exact W.iret (v := x_29) hx hb hr (fun t ht _ => ⟨⟨x_29, G_24, rfl, (Q_gap_mk ⟨hB_G_24, hF, ⟨r_1, G_2, hX_5, (Or.inr ⟨c_7, ⟨r_8, G_9, hX_12, (Or.inr ⟨c_14, ⟨r_17, G_18, hX_21, (Or.inr ⟨c_23, ⟨x_28, x_29, x_30, x_31, x_32, G_24, hX_33, f_36, f_37, f_38, hB_G_24, hq_25, ⟨y_40, ey_40, ⟨c_41, (Or.inr ⟨c_42, (Or.inr ⟨c_43, ⟨rfl, rfl⟩⟩)⟩)⟩⟩⟩⟩)⟩⟩)⟩⟩)⟩⟩), wd_t ht hW⟩, hS.F ht⟩) hS.2.2 dX12_gap_138
            · have c_43 : p2.toInt = 1 := xI_eq rfl rfl c_43
              refine lv_iload hx hb dX12_gap_131 (lv_at hl 3 rfl) ?_
              refine lv_goto (tgt := 138) hx hb dX12_gap_133 rfl ?_
              exact W.iret (v := x_31) hx hb hr (fun t ht _ => ⟨⟨x_31, G_24, rfl, (Q_gap_mk ⟨hB_G_24, hF, ⟨r_1, G_2, hX_5, (Or.inr ⟨c_7, ⟨r_8, G_9, hX_12, (Or.inr ⟨c_14, ⟨r_17, G_18, hX_21, (Or.inr ⟨c_23, ⟨x_28, x_29, x_30, x_31, x_32, G_24, hX_33, f_36, f_37, f_38, hB_G_24, hq_25, ⟨y_40, ey_40, ⟨c_41, (Or.inr ⟨c_42, (Or.inl ⟨c_43, ⟨rfl, rfl⟩⟩)⟩)⟩⟩⟩⟩)⟩⟩)⟩⟩)⟩⟩), wd_t ht hW⟩, hS.F ht⟩) hS.2.2 dX12_gap_138
          · have c_42 : p2.toInt = 0 := xI_eq rfl rfl c_42
            refine lv_iload hx hb dX12_gap_121 (lv_at hl 4 rfl) ?_
            refine lv_goto (tgt := 138) hx hb dX12_gap_123 rfl ?_
            exact W.iret (v := x_32) hx hb hr (fun t ht _ => ⟨⟨x_32, G_24, rfl, (Q_gap_mk ⟨hB_G_24, hF, ⟨r_1, G_2, hX_5, (Or.inr ⟨c_7, ⟨r_8, G_9, hX_12, (Or.inr ⟨c_14, ⟨r_17, G_18, hX_21, (Or.inr ⟨c_23, ⟨x_28, x_29, x_30, x_31, x_32, G_24, hX_33, f_36, f_37, f_38, hB_G_24, hq_25, ⟨y_40, ey_40, ⟨c_41, (Or.inl ⟨c_42, ⟨rfl, rfl⟩⟩)⟩⟩⟩⟩)⟩⟩)⟩⟩)⟩⟩), wd_t ht hW⟩, hS.F ht⟩) hS.2.2 dX12_gap_138
        · have c_41 : x_28.toInt < y_40.toInt := xI_nle rfl rfl c_41
          refine lv_aload_n hx hb dX12_gap_53 rfl (lv_at hl 5 rfl) ?_
          refine lv_iload_n hx hb dX12_gap_54 rfl (lv_at hl 6 rfl) ?_
          refine lv_iload_n hx hb dX12_gap_55 rfl (lv_at hl 7 rfl) ?_
          refine lv_iload hx hb dX12_gap_56 (lv_at hl 0 rfl) ?_
          have fr_44 : Fr [76] [] G G_24 := (Fr.call9 (rs := [76]) (fs := []) (Fr.call9 (rs := [76]) (fs := []) (Fr.call9 (rs := [76]) (fs := []) (Fr.call9 (rs := [76]) (fs := []) Fr.rf hq_3 rfl rfl) hq_10 rfl rfl) hq_19 rfl rfl) hq_25 rfl rfl)
          have g_45 : gP G_24 = gP G := gP_fr fr_44 (gr_q rfl) (gf_q rfl)
          refine S_calli (va_runV (As := [.int p0, .int p1, .int x_28]) (rest := []) ⟨hx, hb, hml, hown, hts⟩ (n_isLine l D k A a z G_24 p0 p1 x_28 ⟨(by first | (clear hP9 f_13 hp_11 c_14 f_22 d_1 d_2 c_23 hn_39 f_36 f_37 f_38 ty_40 c_41 g_45; omega) | omega), (by first | (clear hP9 f_13 hp_11 c_14 f_22 d_1 d_2 c_23 hn_39 f_36 f_37 f_38 ty_40 c_41 g_45; omega) | omega)⟩ ⟨(by first | (clear hP9 f_6 hp_4 c_7 f_13 hp_11 c_14 f_22 d_1 d_2 c_23 hn_39 f_37 f_38 g_45; omega) | omega), (by first | (clear hP9 f_6 hp_4 c_7 f_13 hp_11 c_14 f_22 d_1 d_2 c_23 hn_39 f_37 f_38 g_45; omega) | omega)⟩ ((by first | (clear f_6 hp_4 c_7 f_13 hp_11 c_14 f_22 d_1 d_2 c_23 hn_39 f_36 f_37 f_38 ty_40 c_41; omega) | omega))) (cwV 3 hts (gd_V hgd m1803 m1805 m86 m131 m1806) rfl rfl rfl hd_X12_isLine ⟨Nat.le_of_ble_eq_true rfl, Nat.le_of_ble_eq_true rfl⟩) (pre_W hW hB_G_24 hK hZ hS kd_66 rfl) rfl rfl hl.1 rfl (lv_room (Nat.le_of_ble_eq_true rfl)) dX12_gap_58 ⟨Nat.le_of_ble_eq_true rfl, Nat.le_of_ble_eq_true rfl⟩) hS (fun r_46 G_47 H locs hpo hW hS => ?_)
          have hX_50 : Q_isLine p0 p1 x_28 G_24 r_46 G_47 := hpo
          obtain ⟨hB_G_47, hq_48, f_51, -⟩ := hpo
          have hF := hF.call9 hq_48 rfl rfl
          refine lv_istore (lv' := [(9, .int r_46), (8, .int x_28), (7, .int x_29), (6, .int x_30), (5, .int x_31), (4, .int x_32), (0, .ref (a 66)), (1, .int p0), (2, .int p1), (3, .int p2)]) hx hb dX12_gap_61 hl (lt_b rfl) rfl (fun ls hl => ?_)
          refine lv_iload hx hb dX12_gap_63 (lv_at hl 2 rfl) ?_
          refine lv_iload hx hb dX12_gap_65 (lv_at hl 0 rfl) ?_
          refine S_calli (va_runS (As := [.int r_46]) (rest := [.int x_29]) ⟨hx, hb, hml, hown, hts⟩ (n_truth l D k A a z G_47 r_46 ⟨(by first | (clear hP9 f_6 hp_4 c_7 f_13 hp_11 c_14 f_22 d_1 d_2 c_23 hn_39 f_36 f_37 f_38 ty_40 c_41 g_45; omega) | omega), (by first | (clear hP9 f_6 hp_4 c_7 f_13 hp_11 c_14 f_22 d_1 d_2 c_23 hn_39 f_36 f_37 f_38 ty_40 c_41 g_45; omega) | omega)⟩) (va_cwS 1 hts (gd_S hgd m1788 m1789 m131 m1790) rfl rfl rfl hd_X12_truth.2 ⟨Nat.le_of_ble_eq_true rfl, Nat.le_of_ble_eq_true rfl⟩) (pre_S hW hB_G_47 hK hZ hS) rfl rfl hl.1 rfl (lv_room (Nat.le_of_ble_eq_true rfl)) dX12_gap_67 ⟨Nat.le_of_ble_eq_true rfl, Nat.le_of_ble_eq_true rfl⟩) hS (fun r_52 G_53 H locs hpo hW hS => ?_)
          have hX_56 : Q_truth r_46 G_47 r_52 G_53 := hpo
          obtain ⟨hB_G_53, hq_54, f_57, hp_55, -⟩ := hpo
          have hF := hF.call9 hq_54 rfl rfl
          refine lv_iadd hx hb dX12_gap_70 ?_
          refine lv_topi (fun y_58 ey_58 => ?_)
          refine lv_istore (lv' := [(7, .int y_58), (9, .int r_46), (8, .int x_28), (6, .int x_30), (5, .int x_31), (4, .int x_32), (0, .ref (a 66)), (1, .int p0), (2, .int p1), (3, .int p2)]) hx hb dX12_gap_71 hl (lt_b rfl) rfl (fun ls hl => ?_)
          refine lv_iload hx hb dX12_gap_73 (lv_at hl 1 rfl) ?_
          refine W.cut (σ := Int32) (pcJ := 86) (J := fun y H locs ls => ∃ (G_68 : GS) (x_59 : Int32), Jn_n_gap_2 r_46 x_30 y_58 G_53 x_59 y G_68 ∧ Wd D k A a G_68 H ∧ Bd G_68 ∧ Fr [76] [] G G_68 ∧ Fr [] [] G_53 G_68 ∧ va_S A s.heap H locs ∧ lv_has ls 10 [(7, .int x_59), (8, .int x_28), (5, .int x_31), (4, .int x_32), (0, .ref (a 66)), (1, .int p0), (2, .int p1), (3, .int p2)]) (stJ := fun y => [.int y]) ?_ (fun hJ_69 => ?_)
          · intro y H locs ls hI
            obtain ⟨w_67, hy⟩ : ∃ q, q = y := ⟨_, rfl⟩
            subst hy
            obtain ⟨G_68, x_59, hX_71, hW, hB_G_68, hF, hq_70, hS, hl⟩ := hI
            refine lv_istore (lv' := [(6, .int w_67), (7, .int x_59), (8, .int x_28), (5, .int x_31), (4, .int x_32), (0, .ref (a 66)), (1, .int p0), (2, .int p1), (3, .int p2)]) hx hb dX12_gap_86 hl (lt_b rfl) rfl (fun ls hl => ?_)
            refine lv_iload hx hb dX12_gap_88 (lv_at hl 0 rfl) ?_
            refine lv_iload hx hb dX12_gap_90 (lv_at hl 4 rfl) ?_
            refine lv_icmp_gt (tgt := 98) hx hb dX12_gap_92 rfl (fun c_72 => ?_) (fun c_72 => ?_)
            · have c_72 : x_32.toInt < w_67.toInt := xI_lt rfl rfl c_72
              refine lv_iload hx hb dX12_gap_98 (lv_at hl 0 rfl) ?_
              refine lv_istore (lv' := [(4, .int w_67), (6, .int w_67), (7, .int x_59), (8, .int x_28), (5, .int x_31), (0, .ref (a 66)), (1, .int p0), (2, .int p1), (3, .int p2)]) hx hb dX12_gap_100 hl (lt_b rfl) rfl (fun ls hl => ?_)
              refine lv_iload hx hb dX12_gap_102 (lv_at hl 3 rfl) ?_
              refine lv_iload hx hb dX12_gap_104 (lv_at hl 1 rfl) ?_
              refine lv_isub hx hb dX12_gap_106 ?_
              refine lv_topi (fun y_73 ey_73 => ?_)
              have e_74 := tI_rng w_67
              have ty_73 : y_73.toInt = x_28.toInt - w_67.toInt := xI_sub rfl rfl ey_73 ((by first | (clear hP9 f_6 hp_4 c_7 f_13 hp_11 c_14 f_22 d_1 d_2 c_23 hn_39 f_37 g_45 f_51 f_57 hp_55; omega) | omega)) ((by first | (clear hP9 f_6 hp_4 c_7 f_13 hp_11 c_14 f_22 d_1 d_2 c_23 hn_39 f_37 g_45 f_51 f_57 hp_55; omega) | omega))
              refine ic_1 hx hb dX12_gap_107 ?_
              refine lv_iadd hx hb dX12_gap_108 ?_
              refine lv_topi (fun y_75 ey_75 => ?_)
              have e_76 := tI_rng y_73
              have ty_75 : y_75.toInt = y_73.toInt + 1 := xI_add rfl rfl ey_75 ((by first | (clear hP9 f_6 hp_4 c_7 f_13 hp_11 c_14 f_22 d_1 d_2 c_23 hn_39 f_37 g_45 f_51 f_57 hp_55; omega) | omega)) ((by first | (clear hP9 f_6 hp_4 c_7 f_13 hp_11 c_14 f_22 d_1 d_2 c_23 hn_39 f_37 g_45 f_51 f_57 hp_55; omega) | omega))
              refine lv_istore (lv' := [(5, .int y_75), (4, .int w_67), (6, .int w_67), (7, .int x_59), (8, .int x_28), (0, .ref (a 66)), (1, .int p0), (2, .int p1), (3, .int p2)]) hx hb dX12_gap_109 hl (lt_b rfl) rfl (fun ls hl => ?_)
              obtain ⟨y_77, ey_77⟩ : ∃ q, q = x_28 + 1 := ⟨_, rfl⟩
              have ty_77 : y_77.toInt = x_28.toInt + 1 := xI_add rfl rfl ey_77 ((by first | (clear hP9 f_6 hp_4 c_7 f_13 hp_11 c_14 f_22 d_1 d_2 c_23 hn_39 f_37 g_45 f_51 f_57 hp_55; omega) | omega)) ((by first | (clear hP9 f_6 hp_4 c_7 f_13 hp_11 c_14 f_22 d_1 d_2 c_23 hn_39 f_37 g_45 f_51 f_57 hp_55; omega) | omega))
              refine lv_iinc (v := y_77) (lv' := [(8, .int y_77), (5, .int y_75), (4, .int w_67), (6, .int w_67), (7, .int x_59), (0, .ref (a 66)), (1, .int p0), (2, .int p1), (3, .int p2)]) hx hb dX12_gap_111 hl (k := 4) rfl (by rw [ey_77]; rfl) (lt_b rfl) rfl (fun ls hl => ?_)
              refine lv_goto (tgt := 42) hx hb dX12_gap_114 rfl ?_
              exact ih_26 (400 - y_77.toInt : Int).toNat ((by first | (clear hP9 f_6 hp_4 c_7 f_13 hp_11 c_14 f_22 d_1 d_2 c_23 f_37 g_45 f_51 f_57 hp_55; omega) | omega)) _ _ _ ⟨G_68, y_77, x_59, w_67, y_75, w_67, (Int.toNat_of_nonneg ((by first | (clear hP9 f_6 hp_4 c_7 f_13 hp_11 c_14 f_22 d_1 d_2 c_23 hn_39 f_37 g_45 f_51 f_57 hp_55; omega) | omega))), ⟨(by first | (clear hP9 f_6 hp_4 c_7 f_13 hp_11 c_14 f_22 d_1 d_2 c_23 hn_39 f_37 g_45 f_51 f_57 hp_55; omega) | omega), (by first | (clear hP9 f_6 hp_4 c_7 f_13 hp_11 c_14 f_22 d_1 d_2 c_23 hn_39 f_37 g_45 f_51 f_57 hp_55; omega) | omega)⟩, ((by first | (clear hP9 f_6 hp_4 c_7 f_13 hp_11 c_14 f_22 d_1 d_2 c_23 hn_39 f_37 g_45 f_51 f_57 hp_55; omega) | omega)), ((by first | (clear hP9 f_6 hp_4 c_7 f_13 hp_11 c_14 f_22 d_1 d_2 c_23 hn_39 f_37 g_45 f_51 f_57 hp_55; omega) | omega)), (hX_33.st (St_n_gap_1_mk ⟨x_28, x_29, x_30, x_31, x_32, G_24, y_77, x_59, w_67, y_75, w_67, G_68, rfl, rfl, f_36, f_37, f_38, hB_G_24, ⟨y_40, ey_40, ⟨c_41, ⟨r_46, G_47, hX_50, ⟨r_52, G_53, hX_56, ⟨y_58, ey_58, ⟨x_59, w_67, G_68, hX_71, hB_G_68, hq_70, (Or.inl ⟨c_72, ⟨y_73, ty_73, ⟨y_75, ty_75, ⟨y_77, ty_77, ⟨rfl, rfl, rfl, rfl, rfl, rfl⟩⟩⟩⟩⟩)⟩⟩⟩⟩⟩⟩⟩)), hW, hB_G_68, hF, (Fr.call9 (rs := [76]) (fs := []) (Fr.call9 (rs := [76]) (fs := []) (Fr.call9 (rs := [76]) (fs := []) (Fr.call9 (rs := [76]) (fs := []) Fr.rf hq_25 rfl rfl) hq_48 rfl rfl) hq_54 rfl rfl) hq_70 rfl rfl), hS, lv_sub hl [0, 4, 3, 1, 2, 5, 6, 7, 8] rfl⟩
            · have c_72 : w_67.toInt ≤ x_32.toInt := xI_nlt rfl rfl c_72
              refine lv_goto (tgt := 111) hx hb dX12_gap_95 rfl ?_
              obtain ⟨y_78, ey_78⟩ : ∃ q, q = x_28 + 1 := ⟨_, rfl⟩
              have ty_78 : y_78.toInt = x_28.toInt + 1 := xI_add rfl rfl ey_78 ((by first | (clear hP9 f_6 hp_4 c_7 f_13 hp_11 c_14 f_22 d_1 d_2 c_23 hn_39 f_37 f_38 g_45 f_51 f_57 hp_55 c_72; omega) | omega)) ((by first | (clear hP9 f_6 hp_4 c_7 f_13 hp_11 c_14 f_22 d_1 d_2 c_23 hn_39 f_37 f_38 g_45 f_51 f_57 hp_55 c_72; omega) | omega))
              refine lv_iinc (v := y_78) (lv' := [(8, .int y_78), (6, .int w_67), (7, .int x_59), (5, .int x_31), (4, .int x_32), (0, .ref (a 66)), (1, .int p0), (2, .int p1), (3, .int p2)]) hx hb dX12_gap_111 hl (k := 2) rfl (by rw [ey_78]; rfl) (lt_b rfl) rfl (fun ls hl => ?_)
              refine lv_goto (tgt := 42) hx hb dX12_gap_114 rfl ?_
              exact ih_26 (400 - y_78.toInt : Int).toNat ((by first | (clear hP9 f_6 hp_4 c_7 f_13 hp_11 c_14 f_22 d_1 d_2 c_23 f_37 f_38 g_45 f_51 f_57 hp_55 c_72; omega) | omega)) _ _ _ ⟨G_68, y_78, x_59, w_67, x_31, x_32, (Int.toNat_of_nonneg ((by first | (clear hP9 f_6 hp_4 c_7 f_13 hp_11 c_14 f_22 d_1 d_2 c_23 hn_39 f_37 f_38 g_45 f_51 f_57 hp_55 c_72; omega) | omega))), ⟨(by first | (clear hP9 f_6 hp_4 c_7 f_13 hp_11 c_14 f_22 d_1 d_2 c_23 hn_39 f_37 f_38 g_45 f_51 f_57 hp_55 c_72; omega) | omega), (by first | (clear hP9 f_6 hp_4 c_7 f_13 hp_11 c_14 f_22 d_1 d_2 c_23 hn_39 f_37 f_38 g_45 f_51 f_57 hp_55 c_72; omega) | omega)⟩, ((by first | (clear hP9 f_6 hp_4 c_7 f_13 hp_11 c_14 f_22 d_1 d_2 c_23 hn_39 f_36 f_38 ty_40 c_41 g_45 f_51 f_57 hp_55 c_72 ty_78; omega) | omega)), ((by first | (clear hP9 f_6 hp_4 c_7 f_13 hp_11 c_14 f_22 d_1 d_2 c_23 hn_39 f_36 f_37 ty_40 c_41 g_45 f_51 f_57 hp_55 ty_78; omega) | omega)), (hX_33.st (St_n_gap_1_mk ⟨x_28, x_29, x_30, x_31, x_32, G_24, y_78, x_59, w_67, x_31, x_32, G_68, rfl, rfl, f_36, f_37, f_38, hB_G_24, ⟨y_40, ey_40, ⟨c_41, ⟨r_46, G_47, hX_50, ⟨r_52, G_53, hX_56, ⟨y_58, ey_58, ⟨x_59, w_67, G_68, hX_71, hB_G_68, hq_70, (Or.inr ⟨c_72, ⟨y_78, ty_78, ⟨rfl, rfl, rfl, rfl, rfl, rfl⟩⟩⟩)⟩⟩⟩⟩⟩⟩⟩)), hW, hB_G_68, hF, (Fr.call9 (rs := [76]) (fs := []) (Fr.call9 (rs := [76]) (fs := []) (Fr.call9 (rs := [76]) (fs := []) (Fr.call9 (rs := [76]) (fs := []) Fr.rf hq_25 rfl rfl) hq_48 rfl rfl) hq_54 rfl rfl) hq_70 rfl rfl), hS, lv_sub hl [0, 2, 1, 3, 4, 5, 6, 7, 8] rfl⟩
          refine lv_if_eq (tgt := 82) hx hb dX12_gap_75 rfl (fun c_79 => ?_) (fun c_79 => ?_)
          · have c_79 : r_46.toInt = 0 := xI_eq rfl rfl c_79
            refine lv_iload hx hb dX12_gap_82 (lv_at hl 3 rfl) ?_
            refine ic_1 hx hb dX12_gap_84 ?_
            refine lv_iadd hx hb dX12_gap_85 ?_
            refine lv_topi (fun y_80 ey_80 => ?_)
            exact hJ_69 y_80 _ _ _ ⟨G_53, y_58, (Jn_n_gap_2_mk (Or.inl ⟨c_79, ⟨y_80, ey_80, ⟨rfl, rfl, rfl⟩⟩⟩)), hW, hB_G_53, hF, (Fr.rf (rs := []) (fs := [])), hS, lv_sub hl [0, 2, 4, 5, 6, 7, 8, 9] rfl⟩
          · have c_79 : r_46.toInt ≠ 0 := xI_ne rfl rfl c_79
            refine ic_0 hx hb dX12_gap_78 ?_
            refine lv_goto (tgt := 86) hx hb dX12_gap_79 rfl ?_
            have qc_81 : (0 : Int32).toInt = 0 := rfl
            exact hJ_69 0 _ _ _ ⟨G_53, y_58, (Jn_n_gap_2_mk (Or.inr ⟨c_79, ⟨rfl, rfl, rfl⟩⟩)), hW, hB_G_53, hF, (Fr.rf (rs := []) (fs := [])), hS, lv_sub hl [0, 2, 4, 5, 6, 7, 8, 9] rfl⟩
      · have c_23 : r_17.toInt = 0 := xI_eq rfl rfl c_23
        refine ic_m1 hx hb dX12_gap_25 ?_
        exact W.iret (v := (-1)) hx hb hr (fun t ht _ => ⟨⟨(-1), G_18, rfl, (Q_gap_mk ⟨hB_G_18, hF, ⟨r_1, G_2, hX_5, (Or.inr ⟨c_7, ⟨r_8, G_9, hX_12, (Or.inr ⟨c_14, ⟨r_17, G_18, hX_21, (Or.inl ⟨c_23, ⟨rfl, rfl⟩⟩)⟩⟩)⟩⟩)⟩⟩), wd_t ht hW⟩, hS.F ht⟩) hS.2.2 dX12_gap_26

set_option maxHeartbeats 4000000 in
set_option maxRecDepth 100000 in
theorem n_foot (l : Launch) (D : va_G) (k : KT) (A : Nat → Prop) (a : Nat → Nat) (z : SK) (G : GS) (p0 : Int32) (p1 : Int32) (p2 : Int32) (p3 : Int32) (hP9 : gP G = 1) : Met l yX12_foot (WS yX12_foot cX12_foot 5 (some .int)) ({ frames := 5, cells := 0, slots := 0, locals := 117 }) (va_Pc [.ref (a 66), .int p0, .int p1, .int p2, .int p3] (cW D k A a z G)) (va_Qi (fun (r : Int32) (G1 : GS) => Q_foot p0 p1 p2 p3 G r G1) (fun (G1 : GS) t => Wd D k A a G1 t.heap) A) 0 0 A := by
  refine Met.ofW (cc := cX12_foot) (maxL := 5) (ret := (some .int)) (by decide) rfl ?_
  intro p e s m args below meth c s₁ B hml hv
  obtain ⟨rfl, hW, hB_G, hK, hZ⟩ := hv
  have hx := B.exec
  have hb := B.bytes
  have hr := B.returns
  have hts := atoms_spec (ws := WS yX12_foot cX12_foot 5 (some .int)) B.pre
  have hgd : ∀ w ∈ gd, w ∈ WS yX12_foot cX12_foot 5 (some .int) := fun w h => List.mem_cons_of_mem _ h
  have hg : ∀ w ∈ gd, w.before _ s = true := fun w h => hts w (hgd w h)
  have hown : s.vm.findClass RX12 = some m.cls := findClass_of_methodNamed B.named
  have hS : va_S A s.heap s.heap [] := va_S.rf
  have hF : Fr [76, 97, 98] [(66, 59), (66, 60), (66, 61), (66, 62), (66, 63)] G G := Fr.rf
  have hl := lv_entry ([.ref (a 66), .int p0, .int p1, .int p2, .int p3]) (n := 5) (Nat.le_of_ble_eq_true rfl)
  rw [lg_entry_eq]
  generalize (lg_sl ([.ref (a 66), .int p0, .int p1, .int p2, .int p3]) ++ List.replicate (5 - (lg_sl ([.ref (a 66), .int p0, .int p1, .int p2, .int p3])).length) Slot.unset).toArray = ls at hl ⊢
  have hl : lv_has ls 5 [(0, .ref (a 66)), (1, .int p0), (2, .int p1), (3, .int p2), (4, .int p3)] := hl
  refine lv_aload_n hx hb dX12_foot_0 rfl (lv_at hl 0 rfl) ?_
  refine lv_iload_n hx hb dX12_foot_1 rfl (lv_at hl 1 rfl) ?_
  refine lv_iload_n hx hb dX12_foot_2 rfl (lv_at hl 2 rfl) ?_
  refine lv_iload_n hx hb dX12_foot_3 rfl (lv_at hl 3 rfl) ?_
  refine S_calli (va_runV (As := [.int p0, .int p1, .int p2]) (rest := []) ⟨hx, hb, hml, hown, hts⟩ (n_isAsked l D k A a z G p0 p1 p2 ) (cwV 3 hts (gd_V hgd m1826 m1828 m89 m131 m1829) rfl rfl rfl hd_X12_isAsked ⟨Nat.le_of_ble_eq_true rfl, Nat.le_of_ble_eq_true rfl⟩) (pre_W hW hB_G hK hZ hS kd_66 rfl) rfl rfl hl.1 rfl (lv_room (Nat.le_of_ble_eq_true rfl)) dX12_foot_4 ⟨Nat.le_of_ble_eq_true rfl, Nat.le_of_ble_eq_true rfl⟩) hS (fun r_1 G_2 H locs hpo hW hS => ?_)
  have hX_5 : Q_isAsked p0 p1 p2 G r_1 G_2 := hpo
  obtain ⟨hB_G_2, hq_3, f_6, hp_4, -⟩ := hpo
  have hF := hF.call9 hq_3 rfl rfl
  refine lv_if_eq (tgt := 20) hx hb dX12_foot_7 rfl (fun c_7 => ?_) (fun c_7 => ?_)
  · have c_7 : r_1.toInt = 0 := xI_eq rfl rfl c_7
    refine ic_m1 hx hb dX12_foot_20 ?_
    exact W.iret (v := (-1)) hx hb hr (fun t ht _ => ⟨⟨(-1), G_2, rfl, (Q_foot_mk ⟨hB_G_2, hF, ⟨r_1, G_2, hX_5, (Or.inl ⟨c_7, ⟨rfl, rfl⟩⟩)⟩⟩), wd_t ht hW⟩, hS.F ht⟩) hS.2.2 dX12_foot_21
  · have c_7 : r_1.toInt ≠ 0 := xI_ne rfl rfl c_7
    refine lv_aload_n hx hb dX12_foot_10 rfl (lv_at hl 0 rfl) ?_
    refine lv_iload_n hx hb dX12_foot_11 rfl (lv_at hl 2 rfl) ?_
    refine lv_iload hx hb dX12_foot_12 (lv_at hl 4 rfl) ?_
    refine S_calli (va_runV (As := [.int p1, .int p3]) (rest := []) ⟨hx, hb, hml, hown, hts⟩ (n_isInch l D k A a z G_2 p1 p3 ⟨by omega, by omega⟩) (cwV 2 hts (gd_V hgd m1784 m1786 m84 m131 m1787) rfl rfl rfl hd_X12_isInch ⟨Nat.le_of_ble_eq_true rfl, Nat.le_of_ble_eq_true rfl⟩) (pre_W hW hB_G_2 hK hZ hS kd_66 rfl) rfl rfl hl.1 rfl (lv_room (Nat.le_of_ble_eq_true rfl)) dX12_foot_14 ⟨Nat.le_of_ble_eq_true rfl, Nat.le_of_ble_eq_true rfl⟩) hS (fun r_8 G_9 H locs hpo hW hS => ?_)
    have hX_12 : Q_isInch p1 p3 G_2 r_8 G_9 := hpo
    obtain ⟨hB_G_9, hq_10, f_13, hp_11, -⟩ := hpo
    have hF := hF.call9 hq_10 rfl rfl
    refine lv_if_ne (tgt := 22) hx hb dX12_foot_17 rfl (fun c_14 => ?_) (fun c_14 => ?_)
    · have c_14 : r_8.toInt ≠ 0 := xI_ne rfl rfl c_14
      refine lv_aload_n hx hb dX12_foot_22 rfl (lv_at hl 0 rfl) ?_
      refine lv_iload_n hx hb dX12_foot_23 rfl (lv_at hl 1 rfl) ?_
      refine lv_iload_n hx hb dX12_foot_24 rfl (lv_at hl 2 rfl) ?_
      refine lv_iload_n hx hb dX12_foot_25 rfl (lv_at hl 3 rfl) ?_
      have fr_15 : Fr [] [] G G_9 := (Fr.call9 (rs := []) (fs := []) (Fr.call9 (rs := []) (fs := []) Fr.rf hq_3 rfl rfl) hq_10 rfl rfl)
      have g_16 : gP G_9 = gP G := gP_fr fr_15 (gr_q rfl) (gf_q rfl)
      refine S_callv (va_runV (As := [.int p0, .int p1, .int p2]) (rest := []) ⟨hx, hb, hml, hown, hts⟩ (n_layStreet l D k A a z G_9 p0 p1 p2 ⟨(by first | (clear hP9 f_13 hp_11 c_14 g_16; omega) | omega), (by first | (clear hP9 f_13 hp_11 c_14 g_16; omega) | omega)⟩ ⟨(by first | (clear hP9 f_13 hp_11 c_14 g_16; omega) | omega), (by first | (clear hP9 f_13 hp_11 c_14 g_16; omega) | omega)⟩ ((by first | (clear f_6 hp_4 c_7 f_13 hp_11 c_14; omega) | omega))) (cwV 3 hts (gd_V hgd m1834 m1836 m91 m131 m1837) rfl rfl rfl hd_X12_layStreet ⟨Nat.le_of_ble_eq_true rfl, Nat.le_of_ble_eq_true rfl⟩) (pre_W hW hB_G_9 hK hZ hS kd_66 rfl) rfl rfl hl.1 rfl (lv_room (Nat.le_of_ble_eq_true rfl)) dX12_foot_26 ⟨Nat.le_of_ble_eq_true rfl, Nat.le_of_ble_eq_true rfl⟩) hS (fun G_18 H locs hpo hW hS => ?_)
      have hX_21 : Q_layStreet p0 p1 p2 G_9 G_18 := hpo
      obtain ⟨hB_G_18, hq_19, ⟨d_1, d_2, d_3, d_4, d_5, d_6⟩, -⟩ := hpo
      have hF := hF.call9 hq_19 rfl rfl
      refine lv_aload_n hx hb dX12_foot_29 rfl (lv_at hl 0 rfl) ?_
      refine S_getR (n := 98) (C := RX12) (T := TX12) (N := 89) hx hb hg iX12 hown hK hW kd_66 rfl 58 (lt_b rfl) (hg (Cond.fieldLink RX12 115 "SlabWalkModel" "lawful" "[Z") m1372) (fun _ h9 => h9) rfl dX12_foot_30 ?_
      refine lv_iload hx hb dX12_foot_33 (lv_at hl 4 rfl) ?_
      refine S_zald hx hb hK hW kd_98 (vin ((by first | (clear hP9 f_6 hp_4 c_7 g_16 d_1 d_2 d_3 d_4 d_5 d_6; omega) | omega)) ((by first | (clear hP9 f_6 hp_4 c_7 g_16 d_1 d_2 d_3 d_4 d_5 d_6; omega) | omega))) dX12_foot_35 (fun y_22 ey_22 => ?_)
      have ty_22 := hB_G_18.law ey_22
      refine S_calli (va_runS (As := [.int y_22]) (rest := []) ⟨hx, hb, hml, hown, hts⟩ (n_truth l D k A a z G_18 y_22 ⟨(by first | (clear hP9 f_6 hp_4 c_7 f_13 hp_11 c_14 g_16 d_1 d_2 d_3 d_4 d_5 d_6; omega) | omega), (by first | (clear hP9 f_6 hp_4 c_7 f_13 hp_11 c_14 g_16 d_1 d_2 d_3 d_4 d_5 d_6; omega) | omega)⟩) (va_cwS 1 hts (gd_S hgd m1788 m1789 m131 m1790) rfl rfl rfl hd_X12_truth.2 ⟨Nat.le_of_ble_eq_true rfl, Nat.le_of_ble_eq_true rfl⟩) (pre_S hW hB_G_18 hK hZ hS) rfl rfl hl.1 rfl (lv_room (Nat.le_of_ble_eq_true rfl)) dX12_foot_36 ⟨Nat.le_of_ble_eq_true rfl, Nat.le_of_ble_eq_true rfl⟩) hS (fun r_23 G_24 H locs hpo hW hS => ?_)
      have hX_27 : Q_truth y_22 G_18 r_23 G_24 := hpo
      obtain ⟨hB_G_24, hq_25, f_28, hp_26, -⟩ := hpo
      have hF := hF.call9 hq_25 rfl rfl
      exact W.iret (v := r_23) hx hb hr (fun t ht _ => ⟨⟨r_23, G_24, rfl, (Q_foot_mk ⟨hB_G_24, hF, ⟨r_1, G_2, hX_5, (Or.inr ⟨c_7, ⟨r_8, G_9, hX_12, (Or.inr ⟨c_14, ⟨G_18, hX_21, ⟨y_22, ey_22, ⟨r_23, G_24, hX_27, ⟨rfl, rfl⟩⟩⟩⟩⟩)⟩⟩)⟩⟩), wd_t ht hW⟩, hS.F ht⟩) hS.2.2 dX12_foot_39
    · have c_14 : r_8.toInt = 0 := xI_eq rfl rfl c_14
      refine ic_m1 hx hb dX12_foot_20 ?_
      exact W.iret (v := (-1)) hx hb hr (fun t ht _ => ⟨⟨(-1), G_9, rfl, (Q_foot_mk ⟨hB_G_9, hF, ⟨r_1, G_2, hX_5, (Or.inr ⟨c_7, ⟨r_8, G_9, hX_12, (Or.inl ⟨c_14, ⟨rfl, rfl⟩⟩)⟩⟩)⟩⟩), wd_t ht hW⟩, hS.F ht⟩) hS.2.2 dX12_foot_21
