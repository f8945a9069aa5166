theorem m86 : Cond.selects RX12 yX12_isLine yX12_isLine ∈ gd := gds_6 6 rfl
theorem m1354 : Cond.fieldLink RX12 90 "SlabWalkModel" "foots" "[I" ∈ gd := gdk_6 38 rfl rfl
theorem m1355 : Cond.fieldLink RX12 93 "SlabWalkModel" "leasts" "[I" ∈ gd := gdk_6 39 rfl rfl
theorem m1356 : Cond.fieldLink RX12 96 "SlabWalkModel" "mosts" "[I" ∈ gd := gdk_6 40 rfl rfl
theorem m1357 : Cond.fieldLink RX12 99 "SlabWalkModel" "leaps" "[I" ∈ gd := gdk_6 41 rfl rfl
theorem m1371 : Cond.fieldLink RX12 111 "SlabWalkModel" "lines" "[Z" ∈ gd := gdk_6 55 rfl rfl
theorem m1803 : Cond.methodLink RX12 466 yX12_isLine ∈ gd := gdk_8 7 rfl rfl
theorem m1805 : Cond.instanceMethod yX12_isLine ∈ gd := gdk_8 9 rfl rfl
theorem m1806 : Cond.code yX12_isLine cX12_isLine 7 (some .boolean) ∈ gd := gdk_8 10 rfl rfl
def rbX12_gap_0 : List (Nat × List Nat) := [(0, [42]), (1, [27]), (2, [182, 1, 197]), (5, [153, 0, 20]), (8, [42]), (9, [28]), (10, [182, 1, 207]), (13, [153, 0, 12]), (16, [29]), (17, [3]), (18, [5]), (19, [184, 1, 193]), (22, [154, 0, 5]), (25, [2]), (26, [172]), (27, [3]), (28, [54, 4]), (30, [2]), (31, [54, 5]), (33, [3]), (34, [54, 6]), (36, [3]), (37, [54, 7]), (39, [3])]
theorem rcX12_gap_0 : dgo (lb cX12_gap) 0 rbX12_gap_0 = true := by decide +kernel
theorem dX12_gap_0 : decode cX12_gap 0 = .ok (.aload_n 0, 1) := dk_42 (dw rcX12_gap_0 0 rfl)
theorem dX12_gap_1 : decode cX12_gap 1 = .ok (.iload_n 1, 1) := dk_27 (dw rcX12_gap_0 1 rfl)
theorem dX12_gap_2 : decode cX12_gap 2 = .ok (.invokevirtual 453, 3) := dk_182 (dw rcX12_gap_0 2 rfl) rfl
theorem dX12_gap_5 : decode cX12_gap 5 = .ok (.ifCond .eq 20, 3) := dk_153 (dw rcX12_gap_0 3 rfl) rfl
theorem dX12_gap_8 : decode cX12_gap 8 = .ok (.aload_n 0, 1) := dk_42 (dw rcX12_gap_0 4 rfl)
theorem dX12_gap_9 : decode cX12_gap 9 = .ok (.iload_n 2, 1) := dk_28 (dw rcX12_gap_0 5 rfl)
theorem dX12_gap_10 : decode cX12_gap 10 = .ok (.invokevirtual 463, 3) := dk_182 (dw rcX12_gap_0 6 rfl) rfl
theorem dX12_gap_13 : decode cX12_gap 13 = .ok (.ifCond .eq 12, 3) := dk_153 (dw rcX12_gap_0 7 rfl) rfl
theorem dX12_gap_16 : decode cX12_gap 16 = .ok (.iload_n 3, 1) := dk_29 (dw rcX12_gap_0 8 rfl)
theorem dX12_gap_17 : decode cX12_gap 17 = .ok (.iconst 0, 1) := dk_3 (dw rcX12_gap_0 9 rfl)
theorem dX12_gap_18 : decode cX12_gap 18 = .ok (.iconst 2, 1) := dk_5 (dw rcX12_gap_0 10 rfl)
theorem dX12_gap_19 : decode cX12_gap 19 = .ok (.invokestatic 449, 3) := dk_184 (dw rcX12_gap_0 11 rfl) rfl
theorem dX12_gap_22 : decode cX12_gap 22 = .ok (.ifCond .ne 5, 3) := dk_154 (dw rcX12_gap_0 12 rfl) rfl
theorem dX12_gap_25 : decode cX12_gap 25 = .ok (.iconst (-1), 1) := dk_2 (dw rcX12_gap_0 13 rfl)
theorem dX12_gap_26 : decode cX12_gap 26 = .ok (.ireturn, 1) := dk_172 (dw rcX12_gap_0 14 rfl)
theorem dX12_gap_27 : decode cX12_gap 27 = .ok (.iconst 0, 1) := dk_3 (dw rcX12_gap_0 15 rfl)
theorem dX12_gap_28 : decode cX12_gap 28 = .ok (.istore 4, 2) := dk_54 (dw rcX12_gap_0 16 rfl)
theorem dX12_gap_30 : decode cX12_gap 30 = .ok (.iconst (-1), 1) := dk_2 (dw rcX12_gap_0 17 rfl)
theorem dX12_gap_31 : decode cX12_gap 31 = .ok (.istore 5, 2) := dk_54 (dw rcX12_gap_0 18 rfl)
theorem dX12_gap_33 : decode cX12_gap 33 = .ok (.iconst 0, 1) := dk_3 (dw rcX12_gap_0 19 rfl)
theorem dX12_gap_34 : decode cX12_gap 34 = .ok (.istore 6, 2) := dk_54 (dw rcX12_gap_0 20 rfl)
theorem dX12_gap_36 : decode cX12_gap 36 = .ok (.iconst 0, 1) := dk_3 (dw rcX12_gap_0 21 rfl)
theorem dX12_gap_37 : decode cX12_gap 37 = .ok (.istore 7, 2) := dk_54 (dw rcX12_gap_0 22 rfl)
theorem dX12_gap_39 : decode cX12_gap 39 = .ok (.iconst 0, 1) := dk_3 (dw rcX12_gap_0 23 rfl)
def rbX12_gap_40 : List (Nat × List Nat) := [(40, [54, 8]), (42, [21, 8]), (44, [42]), (45, [180, 0, 87]), (48, [27]), (49, [46]), (50, [162, 0, 67]), (53, [42]), (54, [27]), (55, [28]), (56, [21, 8]), (58, [182, 1, 210]), (61, [54, 9]), (63, [21, 7]), (65, [21, 9]), (67, [184, 1, 92]), (70, [96]), (71, [54, 7]), (73, [21, 9]), (75, [153, 0, 7]), (78, [3]), (79, [167, 0, 7]), (82, [21, 6]), (84, [4])]
theorem rcX12_gap_40 : dgo (lb cX12_gap) 0 rbX12_gap_40 = true := by decide +kernel
theorem dX12_gap_40 : decode cX12_gap 40 = .ok (.istore 8, 2) := dk_54 (dw rcX12_gap_40 0 rfl)
theorem dX12_gap_42 : decode cX12_gap 42 = .ok (.iload 8, 2) := dk_21 (dw rcX12_gap_40 1 rfl)
theorem dX12_gap_44 : decode cX12_gap 44 = .ok (.aload_n 0, 1) := dk_42 (dw rcX12_gap_40 2 rfl)
theorem dX12_gap_45 : decode cX12_gap 45 = .ok (.getfield 87, 3) := dk_180 (dw rcX12_gap_40 3 rfl) rfl
theorem dX12_gap_48 : decode cX12_gap 48 = .ok (.iload_n 1, 1) := dk_27 (dw rcX12_gap_40 4 rfl)
theorem dX12_gap_49 : decode cX12_gap 49 = .ok (.iaload, 1) := dk_46 (dw rcX12_gap_40 5 rfl)
theorem dX12_gap_50 : decode cX12_gap 50 = .ok (.if_icmp .ge 67, 3) := dk_162 (dw rcX12_gap_40 6 rfl) rfl
theorem dX12_gap_53 : decode cX12_gap 53 = .ok (.aload_n 0, 1) := dk_42 (dw rcX12_gap_40 7 rfl)
theorem dX12_gap_54 : decode cX12_gap 54 = .ok (.iload_n 1, 1) := dk_27 (dw rcX12_gap_40 8 rfl)
theorem dX12_gap_55 : decode cX12_gap 55 = .ok (.iload_n 2, 1) := dk_28 (dw rcX12_gap_40 9 rfl)
theorem dX12_gap_56 : decode cX12_gap 56 = .ok (.iload 8, 2) := dk_21 (dw rcX12_gap_40 10 rfl)
theorem dX12_gap_58 : decode cX12_gap 58 = .ok (.invokevirtual 466, 3) := dk_182 (dw rcX12_gap_40 11 rfl) rfl
theorem dX12_gap_61 : decode cX12_gap 61 = .ok (.istore 9, 2) := dk_54 (dw rcX12_gap_40 12 rfl)
theorem dX12_gap_63 : decode cX12_gap 63 = .ok (.iload 7, 2) := dk_21 (dw rcX12_gap_40 13 rfl)
theorem dX12_gap_65 : decode cX12_gap 65 = .ok (.iload 9, 2) := dk_21 (dw rcX12_gap_40 14 rfl)
theorem dX12_gap_67 : decode cX12_gap 67 = .ok (.invokestatic 348, 3) := dk_184 (dw rcX12_gap_40 15 rfl) rfl
theorem dX12_gap_70 : decode cX12_gap 70 = .ok (.iadd, 1) := dk_96 (dw rcX12_gap_40 16 rfl)
theorem dX12_gap_71 : decode cX12_gap 71 = .ok (.istore 7, 2) := dk_54 (dw rcX12_gap_40 17 rfl)
theorem dX12_gap_73 : decode cX12_gap 73 = .ok (.iload 9, 2) := dk_21 (dw rcX12_gap_40 18 rfl)
theorem dX12_gap_75 : decode cX12_gap 75 = .ok (.ifCond .eq 7, 3) := dk_153 (dw rcX12_gap_40 19 rfl) rfl
theorem dX12_gap_78 : decode cX12_gap 78 = .ok (.iconst 0, 1) := dk_3 (dw rcX12_gap_40 20 rfl)
theorem dX12_gap_79 : decode cX12_gap 79 = .ok (.goto 7, 3) := dk_167 (dw rcX12_gap_40 21 rfl) rfl
theorem dX12_gap_82 : decode cX12_gap 82 = .ok (.iload 6, 2) := dk_21 (dw rcX12_gap_40 22 rfl)
theorem dX12_gap_84 : decode cX12_gap 84 = .ok (.iconst 1, 1) := dk_4 (dw rcX12_gap_40 23 rfl)
def rbX12_gap_85 : List (Nat × List Nat) := [(85, [96]), (86, [54, 6]), (88, [21, 6]), (90, [21, 4]), (92, [163, 0, 6]), (95, [167, 0, 16]), (98, [21, 6]), (100, [54, 4]), (102, [21, 8]), (104, [21, 6]), (106, [100]), (107, [4]), (108, [96]), (109, [54, 5]), (111, [132, 8, 1]), (114, [167, 255, 184]), (117, [29]), (118, [154, 0, 8]), (121, [21, 4]), (123, [167, 0, 15]), (126, [29]), (127, [4]), (128, [160, 0, 8]), (131, [21, 5])]
theorem rcX12_gap_85 : dgo (lb cX12_gap) 0 rbX12_gap_85 = true := by decide +kernel
theorem dX12_gap_85 : decode cX12_gap 85 = .ok (.iadd, 1) := dk_96 (dw rcX12_gap_85 0 rfl)
theorem dX12_gap_86 : decode cX12_gap 86 = .ok (.istore 6, 2) := dk_54 (dw rcX12_gap_85 1 rfl)
theorem dX12_gap_88 : decode cX12_gap 88 = .ok (.iload 6, 2) := dk_21 (dw rcX12_gap_85 2 rfl)
theorem dX12_gap_90 : decode cX12_gap 90 = .ok (.iload 4, 2) := dk_21 (dw rcX12_gap_85 3 rfl)
theorem dX12_gap_92 : decode cX12_gap 92 = .ok (.if_icmp .gt 6, 3) := dk_163 (dw rcX12_gap_85 4 rfl) rfl
theorem dX12_gap_95 : decode cX12_gap 95 = .ok (.goto 16, 3) := dk_167 (dw rcX12_gap_85 5 rfl) rfl
theorem dX12_gap_98 : decode cX12_gap 98 = .ok (.iload 6, 2) := dk_21 (dw rcX12_gap_85 6 rfl)
theorem dX12_gap_100 : decode cX12_gap 100 = .ok (.istore 4, 2) := dk_54 (dw rcX12_gap_85 7 rfl)
theorem dX12_gap_102 : decode cX12_gap 102 = .ok (.iload 8, 2) := dk_21 (dw rcX12_gap_85 8 rfl)
theorem dX12_gap_104 : decode cX12_gap 104 = .ok (.iload 6, 2) := dk_21 (dw rcX12_gap_85 9 rfl)
theorem dX12_gap_106 : decode cX12_gap 106 = .ok (.isub, 1) := dk_100 (dw rcX12_gap_85 10 rfl)
theorem dX12_gap_107 : decode cX12_gap 107 = .ok (.iconst 1, 1) := dk_4 (dw rcX12_gap_85 11 rfl)
theorem dX12_gap_108 : decode cX12_gap 108 = .ok (.iadd, 1) := dk_96 (dw rcX12_gap_85 12 rfl)
theorem dX12_gap_109 : decode cX12_gap 109 = .ok (.istore 5, 2) := dk_54 (dw rcX12_gap_85 13 rfl)
theorem dX12_gap_111 : decode cX12_gap 111 = .ok (.iinc 8 1, 3) := dk_132 (dw rcX12_gap_85 14 rfl) rfl
theorem dX12_gap_114 : decode cX12_gap 114 = .ok (.goto (-72), 3) := dk_167 (dw rcX12_gap_85 15 rfl) rfl
theorem dX12_gap_117 : decode cX12_gap 117 = .ok (.iload_n 3, 1) := dk_29 (dw rcX12_gap_85 16 rfl)
theorem dX12_gap_118 : decode cX12_gap 118 = .ok (.ifCond .ne 8, 3) := dk_154 (dw rcX12_gap_85 17 rfl) rfl
theorem dX12_gap_121 : decode cX12_gap 121 = .ok (.iload 4, 2) := dk_21 (dw rcX12_gap_85 18 rfl)
theorem dX12_gap_123 : decode cX12_gap 123 = .ok (.goto 15, 3) := dk_167 (dw rcX12_gap_85 19 rfl) rfl
theorem dX12_gap_126 : decode cX12_gap 126 = .ok (.iload_n 3, 1) := dk_29 (dw rcX12_gap_85 20 rfl)
theorem dX12_gap_127 : decode cX12_gap 127 = .ok (.iconst 1, 1) := dk_4 (dw rcX12_gap_85 21 rfl)
theorem dX12_gap_128 : decode cX12_gap 128 = .ok (.if_icmp .ne 8, 3) := dk_160 (dw rcX12_gap_85 22 rfl) rfl
theorem dX12_gap_131 : decode cX12_gap 131 = .ok (.iload 5, 2) := dk_21 (dw rcX12_gap_85 23 rfl)
def rbX12_gap_133 : List (Nat × List Nat) := [(133, [167, 0, 5]), (136, [21, 7]), (138, [172])]
theorem rcX12_gap_133 : dgo (lb cX12_gap) 0 rbX12_gap_133 = true := by decide +kernel
theorem dX12_gap_133 : decode cX12_gap 133 = .ok (.goto 5, 3) := dk_167 (dw rcX12_gap_133 0 rfl) rfl
theorem dX12_gap_136 : decode cX12_gap 136 = .ok (.iload 7, 2) := dk_21 (dw rcX12_gap_133 1 rfl)
theorem dX12_gap_138 : decode cX12_gap 138 = .ok (.ireturn, 1) := dk_172 (dw rcX12_gap_133 2 rfl)
def rbX12_layStreet_0 : List (Nat × List Nat) := [(0, [42]), (1, [42]), (2, [180, 0, 87]), (5, [28]), (6, [46]), (7, [181, 1, 213]), (10, [42]), (11, [42]), (12, [180, 0, 90]), (15, [27]), (16, [46]), (17, [181, 1, 216]), (20, [42]), (21, [42]), (22, [180, 0, 93]), (25, [27]), (26, [46]), (27, [181, 1, 219]), (30, [42]), (31, [42]), (32, [180, 0, 96]), (35, [27]), (36, [46]), (37, [181, 1, 222])]
theorem rcX12_layStreet_0 : dgo (lb cX12_layStreet) 0 rbX12_layStreet_0 = true := by decide +kernel
theorem dX12_layStreet_0 : decode cX12_layStreet 0 = .ok (.aload_n 0, 1) := dk_42 (dw rcX12_layStreet_0 0 rfl)
theorem dX12_layStreet_1 : decode cX12_layStreet 1 = .ok (.aload_n 0, 1) := dk_42 (dw rcX12_layStreet_0 1 rfl)
theorem dX12_layStreet_2 : decode cX12_layStreet 2 = .ok (.getfield 87, 3) := dk_180 (dw rcX12_layStreet_0 2 rfl) rfl
theorem dX12_layStreet_5 : decode cX12_layStreet 5 = .ok (.iload_n 2, 1) := dk_28 (dw rcX12_layStreet_0 3 rfl)
theorem dX12_layStreet_6 : decode cX12_layStreet 6 = .ok (.iaload, 1) := dk_46 (dw rcX12_layStreet_0 4 rfl)
theorem dX12_layStreet_7 : decode cX12_layStreet 7 = .ok (.putfield 469, 3) := dk_181 (dw rcX12_layStreet_0 5 rfl) rfl
theorem dX12_layStreet_10 : decode cX12_layStreet 10 = .ok (.aload_n 0, 1) := dk_42 (dw rcX12_layStreet_0 6 rfl)
theorem dX12_layStreet_11 : decode cX12_layStreet 11 = .ok (.aload_n 0, 1) := dk_42 (dw rcX12_layStreet_0 7 rfl)
theorem dX12_layStreet_12 : decode cX12_layStreet 12 = .ok (.getfield 90, 3) := dk_180 (dw rcX12_layStreet_0 8 rfl) rfl
theorem dX12_layStreet_15 : decode cX12_layStreet 15 = .ok (.iload_n 1, 1) := dk_27 (dw rcX12_layStreet_0 9 rfl)
theorem dX12_layStreet_16 : decode cX12_layStreet 16 = .ok (.iaload, 1) := dk_46 (dw rcX12_layStreet_0 10 rfl)
theorem dX12_layStreet_17 : decode cX12_layStreet 17 = .ok (.putfield 472, 3) := dk_181 (dw rcX12_layStreet_0 11 rfl) rfl
theorem dX12_layStreet_20 : decode cX12_layStreet 20 = .ok (.aload_n 0, 1) := dk_42 (dw rcX12_layStreet_0 12 rfl)
theorem dX12_layStreet_21 : decode cX12_layStreet 21 = .ok (.aload_n 0, 1) := dk_42 (dw rcX12_layStreet_0 13 rfl)
theorem dX12_layStreet_22 : decode cX12_layStreet 22 = .ok (.getfield 93, 3) := dk_180 (dw rcX12_layStreet_0 14 rfl) rfl
theorem dX12_layStreet_25 : decode cX12_layStreet 25 = .ok (.iload_n 1, 1) := dk_27 (dw rcX12_layStreet_0 15 rfl)
theorem dX12_layStreet_26 : decode cX12_layStreet 26 = .ok (.iaload, 1) := dk_46 (dw rcX12_layStreet_0 16 rfl)
theorem dX12_layStreet_27 : decode cX12_layStreet 27 = .ok (.putfield 475, 3) := dk_181 (dw rcX12_layStreet_0 17 rfl) rfl
theorem dX12_layStreet_30 : decode cX12_layStreet 30 = .ok (.aload_n 0, 1) := dk_42 (dw rcX12_layStreet_0 18 rfl)
theorem dX12_layStreet_31 : decode cX12_layStreet 31 = .ok (.aload_n 0, 1) := dk_42 (dw rcX12_layStreet_0 19 rfl)
theorem dX12_layStreet_32 : decode cX12_layStreet 32 = .ok (.getfield 96, 3) := dk_180 (dw rcX12_layStreet_0 20 rfl) rfl
theorem dX12_layStreet_35 : decode cX12_layStreet 35 = .ok (.iload_n 1, 1) := dk_27 (dw rcX12_layStreet_0 21 rfl)
theorem dX12_layStreet_36 : decode cX12_layStreet 36 = .ok (.iaload, 1) := dk_46 (dw rcX12_layStreet_0 22 rfl)
theorem dX12_layStreet_37 : decode cX12_layStreet 37 = .ok (.putfield 478, 3) := dk_181 (dw rcX12_layStreet_0 23 rfl) rfl
def rbX12_layStreet_40 : List (Nat × List Nat) := [(40, [42]), (41, [42]), (42, [180, 0, 99]), (45, [27]), (46, [46]), (47, [181, 1, 225]), (50, [3]), (51, [54, 4]), (53, [21, 4]), (55, [42]), (56, [180, 1, 213]), (59, [162, 0, 24]), (62, [42]), (63, [180, 0, 111]), (66, [21, 4]), (68, [42]), (69, [28]), (70, [29]), (71, [21, 4]), (73, [182, 1, 210]), (76, [84]), (77, [132, 4, 1]), (80, [167, 255, 229]), (83, [3])]
theorem rcX12_layStreet_40 : dgo (lb cX12_layStreet) 0 rbX12_layStreet_40 = true := by decide +kernel
theorem dX12_layStreet_40 : decode cX12_layStreet 40 = .ok (.aload_n 0, 1) := dk_42 (dw rcX12_layStreet_40 0 rfl)
theorem dX12_layStreet_41 : decode cX12_layStreet 41 = .ok (.aload_n 0, 1) := dk_42 (dw rcX12_layStreet_40 1 rfl)
theorem dX12_layStreet_42 : decode cX12_layStreet 42 = .ok (.getfield 99, 3) := dk_180 (dw rcX12_layStreet_40 2 rfl) rfl
theorem dX12_layStreet_45 : decode cX12_layStreet 45 = .ok (.iload_n 1, 1) := dk_27 (dw rcX12_layStreet_40 3 rfl)
theorem dX12_layStreet_46 : decode cX12_layStreet 46 = .ok (.iaload, 1) := dk_46 (dw rcX12_layStreet_40 4 rfl)
theorem dX12_layStreet_47 : decode cX12_layStreet 47 = .ok (.putfield 481, 3) := dk_181 (dw rcX12_layStreet_40 5 rfl) rfl
theorem dX12_layStreet_50 : decode cX12_layStreet 50 = .ok (.iconst 0, 1) := dk_3 (dw rcX12_layStreet_40 6 rfl)
theorem dX12_layStreet_51 : decode cX12_layStreet 51 = .ok (.istore 4, 2) := dk_54 (dw rcX12_layStreet_40 7 rfl)
theorem dX12_layStreet_53 : decode cX12_layStreet 53 = .ok (.iload 4, 2) := dk_21 (dw rcX12_layStreet_40 8 rfl)
theorem dX12_layStreet_55 : decode cX12_layStreet 55 = .ok (.aload_n 0, 1) := dk_42 (dw rcX12_layStreet_40 9 rfl)
theorem dX12_layStreet_56 : decode cX12_layStreet 56 = .ok (.getfield 469, 3) := dk_180 (dw rcX12_layStreet_40 10 rfl) rfl
theorem dX12_layStreet_59 : decode cX12_layStreet 59 = .ok (.if_icmp .ge 24, 3) := dk_162 (dw rcX12_layStreet_40 11 rfl) rfl
theorem dX12_layStreet_62 : decode cX12_layStreet 62 = .ok (.aload_n 0, 1) := dk_42 (dw rcX12_layStreet_40 12 rfl)
theorem dX12_layStreet_63 : decode cX12_layStreet 63 = .ok (.getfield 111, 3) := dk_180 (dw rcX12_layStreet_40 13 rfl) rfl
theorem dX12_layStreet_66 : decode cX12_layStreet 66 = .ok (.iload 4, 2) := dk_21 (dw rcX12_layStreet_40 14 rfl)
theorem dX12_layStreet_68 : decode cX12_layStreet 68 = .ok (.aload_n 0, 1) := dk_42 (dw rcX12_layStreet_40 15 rfl)
theorem dX12_layStreet_69 : decode cX12_layStreet 69 = .ok (.iload_n 2, 1) := dk_28 (dw rcX12_layStreet_40 16 rfl)
theorem dX12_layStreet_70 : decode cX12_layStreet 70 = .ok (.iload_n 3, 1) := dk_29 (dw rcX12_layStreet_40 17 rfl)
theorem dX12_layStreet_71 : decode cX12_layStreet 71 = .ok (.iload 4, 2) := dk_21 (dw rcX12_layStreet_40 18 rfl)
theorem dX12_layStreet_73 : decode cX12_layStreet 73 = .ok (.invokevirtual 466, 3) := dk_182 (dw rcX12_layStreet_40 19 rfl) rfl
theorem dX12_layStreet_76 : decode cX12_layStreet 76 = .ok (.bastore, 1) := dk_84 (dw rcX12_layStreet_40 20 rfl)
theorem dX12_layStreet_77 : decode cX12_layStreet 77 = .ok (.iinc 4 1, 3) := dk_132 (dw rcX12_layStreet_40 21 rfl) rfl
theorem dX12_layStreet_80 : decode cX12_layStreet 80 = .ok (.goto (-27), 3) := dk_167 (dw rcX12_layStreet_40 22 rfl) rfl
theorem dX12_layStreet_83 : decode cX12_layStreet 83 = .ok (.iconst 0, 1) := dk_3 (dw rcX12_layStreet_40 23 rfl)
def rbX12_layStreet_84 : List (Nat × List Nat) := [(84, [54, 4]), (86, [21, 4]), (88, [17, 2, 0]), (91, [162, 0, 76]), (94, [42]), (95, [180, 0, 115]), (98, [21, 4]), (100, [42]), (101, [21, 4]), (103, [182, 1, 228]), (106, [84]), (107, [21, 4]), (109, [54, 5]), (111, [21, 5]), (113, [21, 4]), (115, [42]), (116, [180, 1, 216]), (119, [96]), (120, [162, 0, 41]), (123, [42]), (124, [180, 0, 115]), (127, [21, 4]), (129, [51]), (130, [153, 0, 31])]
theorem rcX12_layStreet_84 : dgo (lb cX12_layStreet) 0 rbX12_layStreet_84 = true := by decide +kernel
theorem dX12_layStreet_84 : decode cX12_layStreet 84 = .ok (.istore 4, 2) := dk_54 (dw rcX12_layStreet_84 0 rfl)
theorem dX12_layStreet_86 : decode cX12_layStreet 86 = .ok (.iload 4, 2) := dk_21 (dw rcX12_layStreet_84 1 rfl)
theorem dX12_layStreet_88 : decode cX12_layStreet 88 = .ok (.sipush 512, 3) := dk_17 (dw rcX12_layStreet_84 2 rfl) rfl
theorem dX12_layStreet_91 : decode cX12_layStreet 91 = .ok (.if_icmp .ge 76, 3) := dk_162 (dw rcX12_layStreet_84 3 rfl) rfl
theorem dX12_layStreet_94 : decode cX12_layStreet 94 = .ok (.aload_n 0, 1) := dk_42 (dw rcX12_layStreet_84 4 rfl)
theorem dX12_layStreet_95 : decode cX12_layStreet 95 = .ok (.getfield 115, 3) := dk_180 (dw rcX12_layStreet_84 5 rfl) rfl
theorem dX12_layStreet_98 : decode cX12_layStreet 98 = .ok (.iload 4, 2) := dk_21 (dw rcX12_layStreet_84 6 rfl)
theorem dX12_layStreet_100 : decode cX12_layStreet 100 = .ok (.aload_n 0, 1) := dk_42 (dw rcX12_layStreet_84 7 rfl)
theorem dX12_layStreet_101 : decode cX12_layStreet 101 = .ok (.iload 4, 2) := dk_21 (dw rcX12_layStreet_84 8 rfl)
theorem dX12_layStreet_103 : decode cX12_layStreet 103 = .ok (.invokevirtual 484, 3) := dk_182 (dw rcX12_layStreet_84 9 rfl) rfl
theorem dX12_layStreet_106 : decode cX12_layStreet 106 = .ok (.bastore, 1) := dk_84 (dw rcX12_layStreet_84 10 rfl)
theorem dX12_layStreet_107 : decode cX12_layStreet 107 = .ok (.iload 4, 2) := dk_21 (dw rcX12_layStreet_84 11 rfl)
theorem dX12_layStreet_109 : decode cX12_layStreet 109 = .ok (.istore 5, 2) := dk_54 (dw rcX12_layStreet_84 12 rfl)
theorem dX12_layStreet_111 : decode cX12_layStreet 111 = .ok (.iload 5, 2) := dk_21 (dw rcX12_layStreet_84 13 rfl)
theorem dX12_layStreet_113 : decode cX12_layStreet 113 = .ok (.iload 4, 2) := dk_21 (dw rcX12_layStreet_84 14 rfl)
theorem dX12_layStreet_115 : decode cX12_layStreet 115 = .ok (.aload_n 0, 1) := dk_42 (dw rcX12_layStreet_84 15 rfl)
theorem dX12_layStreet_116 : decode cX12_layStreet 116 = .ok (.getfield 472, 3) := dk_180 (dw rcX12_layStreet_84 16 rfl) rfl
theorem dX12_layStreet_119 : decode cX12_layStreet 119 = .ok (.iadd, 1) := dk_96 (dw rcX12_layStreet_84 17 rfl)
theorem dX12_layStreet_120 : decode cX12_layStreet 120 = .ok (.if_icmp .ge 41, 3) := dk_162 (dw rcX12_layStreet_84 18 rfl) rfl
theorem dX12_layStreet_123 : decode cX12_layStreet 123 = .ok (.aload_n 0, 1) := dk_42 (dw rcX12_layStreet_84 19 rfl)
theorem dX12_layStreet_124 : decode cX12_layStreet 124 = .ok (.getfield 115, 3) := dk_180 (dw rcX12_layStreet_84 20 rfl) rfl
theorem dX12_layStreet_127 : decode cX12_layStreet 127 = .ok (.iload 4, 2) := dk_21 (dw rcX12_layStreet_84 21 rfl)
theorem dX12_layStreet_129 : decode cX12_layStreet 129 = .ok (.baload, 1) := dk_51 (dw rcX12_layStreet_84 22 rfl)
theorem dX12_layStreet_130 : decode cX12_layStreet 130 = .ok (.ifCond .eq 31, 3) := dk_153 (dw rcX12_layStreet_84 23 rfl) rfl
def rbX12_layStreet_133 : List (Nat × List Nat) := [(133, [42]), (134, [180, 0, 115]), (137, [21, 4]), (139, [42]), (140, [180, 0, 111]), (143, [21, 5]), (145, [51]), (146, [154, 0, 7]), (149, [4]), (150, [167, 0, 4]), (153, [3]), (154, [84]), (155, [132, 5, 1]), (158, [167, 255, 209]), (161, [132, 4, 1]), (164, [167, 255, 178]), (167, [177])]
theorem rcX12_layStreet_133 : dgo (lb cX12_layStreet) 0 rbX12_layStreet_133 = true := by decide +kernel
theorem dX12_layStreet_133 : decode cX12_layStreet 133 = .ok (.aload_n 0, 1) := dk_42 (dw rcX12_layStreet_133 0 rfl)
theorem dX12_layStreet_134 : decode cX12_layStreet 134 = .ok (.getfield 115, 3) := dk_180 (dw rcX12_layStreet_133 1 rfl) rfl
theorem dX12_layStreet_137 : decode cX12_layStreet 137 = .ok (.iload 4, 2) := dk_21 (dw rcX12_layStreet_133 2 rfl)
theorem dX12_layStreet_139 : decode cX12_layStreet 139 = .ok (.aload_n 0, 1) := dk_42 (dw rcX12_layStreet_133 3 rfl)
theorem dX12_layStreet_140 : decode cX12_layStreet 140 = .ok (.getfield 111, 3) := dk_180 (dw rcX12_layStreet_133 4 rfl) rfl
theorem dX12_layStreet_143 : decode cX12_layStreet 143 = .ok (.iload 5, 2) := dk_21 (dw rcX12_layStreet_133 5 rfl)
theorem dX12_layStreet_145 : decode cX12_layStreet 145 = .ok (.baload, 1) := dk_51 (dw rcX12_layStreet_133 6 rfl)
theorem dX12_layStreet_146 : decode cX12_layStreet 146 = .ok (.ifCond .ne 7, 3) := dk_154 (dw rcX12_layStreet_133 7 rfl) rfl
theorem dX12_layStreet_149 : decode cX12_layStreet 149 = .ok (.iconst 1, 1) := dk_4 (dw rcX12_layStreet_133 8 rfl)
theorem dX12_layStreet_150 : decode cX12_layStreet 150 = .ok (.goto 4, 3) := dk_167 (dw rcX12_layStreet_133 9 rfl) rfl
theorem dX12_layStreet_153 : decode cX12_layStreet 153 = .ok (.iconst 0, 1) := dk_3 (dw rcX12_layStreet_133 10 rfl)
theorem dX12_layStreet_154 : decode cX12_layStreet 154 = .ok (.bastore, 1) := dk_84 (dw rcX12_layStreet_133 11 rfl)
theorem dX12_layStreet_155 : decode cX12_layStreet 155 = .ok (.iinc 5 1, 3) := dk_132 (dw rcX12_layStreet_133 12 rfl) rfl
theorem dX12_layStreet_158 : decode cX12_layStreet 158 = .ok (.goto (-47), 3) := dk_167 (dw rcX12_layStreet_133 13 rfl) rfl
theorem dX12_layStreet_161 : decode cX12_layStreet 161 = .ok (.iinc 4 1, 3) := dk_132 (dw rcX12_layStreet_133 14 rfl) rfl
theorem dX12_layStreet_164 : decode cX12_layStreet 164 = .ok (.goto (-78), 3) := dk_167 (dw rcX12_layStreet_133 15 rfl) rfl
theorem dX12_layStreet_167 : decode cX12_layStreet 167 = .ok (.return_, 1) := dk_177 (dw rcX12_layStreet_133 16 rfl)
def rbX12_line_0 : List (Nat × List Nat) := [(0, [42]), (1, [27]), (2, [182, 1, 197]), (5, [153, 0, 33]), (8, [42]), (9, [28]), (10, [182, 1, 207]), (13, [153, 0, 25]), (16, [42]), (17, [27]), (18, [29]), (19, [182, 1, 200]), (22, [153, 0, 16]), (25, [42]), (26, [27]), (27, [28]), (28, [29]), (29, [182, 1, 210]), (32, [184, 1, 92]), (35, [167, 0, 4]), (38, [2]), (39, [172])]
theorem rcX12_line_0 : dgo (lb cX12_line) 0 rbX12_line_0 = true := by decide +kernel
theorem dX12_line_0 : decode cX12_line 0 = .ok (.aload_n 0, 1) := dk_42 (dw rcX12_line_0 0 rfl)
theorem dX12_line_1 : decode cX12_line 1 = .ok (.iload_n 1, 1) := dk_27 (dw rcX12_line_0 1 rfl)
theorem dX12_line_2 : decode cX12_line 2 = .ok (.invokevirtual 453, 3) := dk_182 (dw rcX12_line_0 2 rfl) rfl
theorem dX12_line_5 : decode cX12_line 5 = .ok (.ifCond .eq 33, 3) := dk_153 (dw rcX12_line_0 3 rfl) rfl
theorem dX12_line_8 : decode cX12_line 8 = .ok (.aload_n 0, 1) := dk_42 (dw rcX12_line_0 4 rfl)
theorem dX12_line_9 : decode cX12_line 9 = .ok (.iload_n 2, 1) := dk_28 (dw rcX12_line_0 5 rfl)
theorem dX12_line_10 : decode cX12_line 10 = .ok (.invokevirtual 463, 3) := dk_182 (dw rcX12_line_0 6 rfl) rfl
theorem dX12_line_13 : decode cX12_line 13 = .ok (.ifCond .eq 25, 3) := dk_153 (dw rcX12_line_0 7 rfl) rfl
theorem dX12_line_16 : decode cX12_line 16 = .ok (.aload_n 0, 1) := dk_42 (dw rcX12_line_0 8 rfl)
theorem dX12_line_17 : decode cX12_line 17 = .ok (.iload_n 1, 1) := dk_27 (dw rcX12_line_0 9 rfl)
theorem dX12_line_18 : decode cX12_line 18 = .ok (.iload_n 3, 1) := dk_29 (dw rcX12_line_0 10 rfl)
theorem dX12_line_19 : decode cX12_line 19 = .ok (.invokevirtual 456, 3) := dk_182 (dw rcX12_line_0 11 rfl) rfl
theorem dX12_line_22 : decode cX12_line 22 = .ok (.ifCond .eq 16, 3) := dk_153 (dw rcX12_line_0 12 rfl) rfl
theorem dX12_line_25 : decode cX12_line 25 = .ok (.aload_n 0, 1) := dk_42 (dw rcX12_line_0 13 rfl)
theorem dX12_line_26 : decode cX12_line 26 = .ok (.iload_n 1, 1) := dk_27 (dw rcX12_line_0 14 rfl)
theorem dX12_line_27 : decode cX12_line 27 = .ok (.iload_n 2, 1) := dk_28 (dw rcX12_line_0 15 rfl)
theorem dX12_line_28 : decode cX12_line 28 = .ok (.iload_n 3, 1) := dk_29 (dw rcX12_line_0 16 rfl)
theorem dX12_line_29 : decode cX12_line 29 = .ok (.invokevirtual 466, 3) := dk_182 (dw rcX12_line_0 17 rfl) rfl
theorem dX12_line_32 : decode cX12_line 32 = .ok (.invokestatic 348, 3) := dk_184 (dw rcX12_line_0 18 rfl) rfl
theorem dX12_line_35 : decode cX12_line 35 = .ok (.goto 4, 3) := dk_167 (dw rcX12_line_0 19 rfl) rfl
theorem dX12_line_38 : decode cX12_line 38 = .ok (.iconst (-1), 1) := dk_2 (dw rcX12_line_0 20 rfl)
theorem dX12_line_39 : decode cX12_line 39 = .ok (.ireturn, 1) := dk_172 (dw rcX12_line_0 21 rfl)
set_option maxHeartbeats 4000000 in
set_option maxRecDepth 100000 in
theorem n_layStreet (l : Launch) (D : va_G) (k : KT) (A : Nat → Prop) (a : Nat → Nat) (z : SK) (G : GS) (p0 : Int32) (p1 : Int32) (p2 : Int32) (ha_p0 : 0 ≤ p0.toInt ∧ p0.toInt ≤ 3) (ha_p1 : 0 ≤ p1.toInt ∧ p1.toInt ≤ 2) (hP9 : gP G = 1) : Met l yX12_layStreet (WS yX12_layStreet cX12_layStreet 6 none) ({ frames := 4, cells := 0, slots := 0, locals := 92 }) (va_Pc [.ref (a 66), .int p0, .int p1, .int p2] (cW D k A a z G)) (va_Qv (fun (G1 : GS) => Q_layStreet p0 p1 p2 G G1) (fun (G1 : GS) t => Wd D k A a G1 t.heap) A) 0 0 A := by
  refine Met.ofW (cc := cX12_layStreet) (maxL := 6) (ret := none) (by decide) rfl ?_
  intro p e s m args below meth c s₁ B hml hv
  obtain ⟨rfl, hW, hB_G, hK, hZ⟩ := hv
  have hx := B.exec
  have hb := B.bytes
  have hr := B.returns
  have hts := atoms_spec (ws := WS yX12_layStreet cX12_layStreet 6 none) B.pre
  have hgd : ∀ w ∈ gd, w ∈ WS yX12_layStreet cX12_layStreet 6 none := fun w h => List.mem_cons_of_mem _ h
  have hg : ∀ w ∈ gd, w.before _ s = true := fun w h => hts w (hgd w h)
  have hown : s.vm.findClass RX12 = some m.cls := findClass_of_methodNamed B.named
  have hS : va_S A s.heap s.heap [] := va_S.rf
  have hF : Fr [76, 97, 98] [(66, 59), (66, 60), (66, 61), (66, 62), (66, 63)] G G := Fr.rf
  have hl := lv_entry ([.ref (a 66), .int p0, .int p1, .int p2]) (n := 6) (Nat.le_of_ble_eq_true rfl)
  rw [lg_entry_eq]
  generalize (lg_sl ([.ref (a 66), .int p0, .int p1, .int p2]) ++ List.replicate (6 - (lg_sl ([.ref (a 66), .int p0, .int p1, .int p2])).length) Slot.unset).toArray = ls at hl ⊢
  have hl : lv_has ls 6 [(0, .ref (a 66)), (1, .int p0), (2, .int p1), (3, .int p2)] := hl
  refine lv_aload_n hx hb dX12_layStreet_0 rfl (lv_at hl 0 rfl) ?_
  refine lv_aload_n hx hb dX12_layStreet_1 rfl (lv_at hl 0 rfl) ?_
  refine S_getR (n := 91) (C := RX12) (T := TX12) (N := 89) hx hb hg iX12 hown hK hW kd_66 rfl 39 (lt_b rfl) (hg (Cond.fieldLink RX12 87 "SlabWalkModel" "lengths" "[I") m1353) (fun _ h9 => h9) rfl dX12_layStreet_2 ?_
  refine lv_iload_n hx hb dX12_layStreet_5 rfl (lv_at hl 2 rfl) ?_
  refine S_iald hx hb hK hW kd_91 (vin (by omega) (by omega)) dX12_layStreet_6 (fun y_1 ey_1 => ?_)
  have ty_1 : 0 ≤ y_1.toInt ∧ y_1.toInt ≤ 400 := bv_91 hB_G ey_1
  have u_2 : y_1.toInt = (G.1 91 p1.toNatClampNeg).toInt := congrArg Int32.toInt (ey_1)
  refine S_putI (ty := .int) (C := RX12) (T := TX12) (N := 89) hx hb hg iX12 tyX12 tyX12_ok nmX12 hown hK hW hS kd_66 rfl 59 (lt_b rfl) (hg (Cond.fieldLink RX12 469 "SlabWalkModel" "inchesOf" "I") m1373) (fun _ h9 => h9) rfl (by decide +kernel) rfl rfl rfl dX12_layStreet_7 (fun G_3 H locs eG_3 hW hS => ?_)
  have hB_G_3 : Bd G_3 := hB_G.put (V := y_1.toInt) (lo := 0) (hi := 400) eG_3 rfl rfl rfl (by omega) (by omega) (hB_G.2.put eG_3 rfl)
  have hF := hF.put eG_3 (Or.inr (by decide))
  refine lv_aload_n hx hb dX12_layStreet_10 rfl (lv_at hl 0 rfl) ?_
  refine lv_aload_n hx hb dX12_layStreet_11 rfl (lv_at hl 0 rfl) ?_
  refine S_getR (n := 92) (C := RX12) (T := TX12) (N := 89) hx hb hg iX12 hown hK hW kd_66 rfl 40 (lt_b rfl) (hg (Cond.fieldLink RX12 90 "SlabWalkModel" "foots" "[I") m1354) (fun _ h9 => h9) rfl dX12_layStreet_12 ?_
  refine lv_iload_n hx hb dX12_layStreet_15 rfl (lv_at hl 1 rfl) ?_
  refine S_iald hx hb hK hW kd_92 (vin ((by first | (clear ha_p1 hP9 ty_1 u_2; omega) | omega)) ((by first | (clear ha_p1 hP9 ty_1 u_2; omega) | omega))) dX12_layStreet_16 (fun y_4 ey_4 => ?_)
  have ty_4 : 0 ≤ y_4.toInt ∧ y_4.toInt ≤ 12 := bv_92 hB_G_3 ey_4
  have u_5 : y_4.toInt = (G.1 92 p0.toNatClampNeg).toInt := congrArg Int32.toInt (ey_4.trans ((gp_ne eG_3 (fun q => absurd q.1 (Nat.ne_of_beq_eq_false rfl)))))
  refine S_putI (ty := .int) (C := RX12) (T := TX12) (N := 89) hx hb hg iX12 tyX12 tyX12_ok nmX12 hown hK hW hS kd_66 rfl 60 (lt_b rfl) (hg (Cond.fieldLink RX12 472 "SlabWalkModel" "foot" "I") m1374) (fun _ h9 => h9) rfl (by decide +kernel) rfl rfl rfl dX12_layStreet_17 (fun G_6 H locs eG_6 hW hS => ?_)
  have hB_G_6 : Bd G_6 := hB_G_3.put (V := y_4.toInt) (lo := 0) (hi := 12) eG_6 rfl rfl rfl ((by first | (clear ha_p1 hP9 ty_1 u_2; omega) | omega)) ((by first | (clear ha_p1 hP9 ty_1 u_2; omega) | omega)) (hB_G_3.2.put eG_6 rfl)
  have hF := hF.put eG_6 (Or.inr (by decide))
  refine lv_aload_n hx hb dX12_layStreet_20 rfl (lv_at hl 0 rfl) ?_
  refine lv_aload_n hx hb dX12_layStreet_21 rfl (lv_at hl 0 rfl) ?_
  refine S_getR (n := 93) (C := RX12) (T := TX12) (N := 89) hx hb hg iX12 hown hK hW kd_66 rfl 41 (lt_b rfl) (hg (Cond.fieldLink RX12 93 "SlabWalkModel" "leasts" "[I") m1355) (fun _ h9 => h9) rfl dX12_layStreet_22 ?_
  refine lv_iload_n hx hb dX12_layStreet_25 rfl (lv_at hl 1 rfl) ?_
  refine S_iald hx hb hK hW kd_93 (vin ((by first | (clear ha_p1 hP9 ty_1 u_2; omega) | omega)) ((by first | (clear ha_p1 hP9 ty_1 u_2; omega) | omega))) dX12_layStreet_26 (fun y_7 ey_7 => ?_)
  have ty_7 : 0 ≤ y_7.toInt ∧ y_7.toInt ≤ 60 := bv_93 hB_G_6 ey_7
  have u_8 : y_7.toInt = (G.1 93 p0.toNatClampNeg).toInt := congrArg Int32.toInt (ey_7.trans (((gp_ne eG_6 (fun q => absurd q.1 (Nat.ne_of_beq_eq_false rfl))).trans (gp_ne eG_3 (fun q => absurd q.1 (Nat.ne_of_beq_eq_false rfl))))))
  refine S_putI (ty := .int) (C := RX12) (T := TX12) (N := 89) hx hb hg iX12 tyX12 tyX12_ok nmX12 hown hK hW hS kd_66 rfl 61 (lt_b rfl) (hg (Cond.fieldLink RX12 475 "SlabWalkModel" "least" "I") m1375) (fun _ h9 => h9) rfl (by decide +kernel) rfl rfl rfl dX12_layStreet_27 (fun G_9 H locs eG_9 hW hS => ?_)
  have hB_G_9 : Bd G_9 := hB_G_6.put (V := y_7.toInt) (lo := 0) (hi := 60) eG_9 rfl rfl rfl ((by first | (clear ha_p1 hP9 ty_1 u_2; omega) | omega)) ((by first | (clear ha_p1 hP9 ty_1 u_2; omega) | omega)) (hB_G_6.2.put eG_9 rfl)
  have hF := hF.put eG_9 (Or.inr (by decide))
  refine lv_aload_n hx hb dX12_layStreet_30 rfl (lv_at hl 0 rfl) ?_
  refine lv_aload_n hx hb dX12_layStreet_31 rfl (lv_at hl 0 rfl) ?_
  refine S_getR (n := 94) (C := RX12) (T := TX12) (N := 89) hx hb hg iX12 hown hK hW kd_66 rfl 42 (lt_b rfl) (hg (Cond.fieldLink RX12 96 "SlabWalkModel" "mosts" "[I") m1356) (fun _ h9 => h9) rfl dX12_layStreet_32 ?_
  refine lv_iload_n hx hb dX12_layStreet_35 rfl (lv_at hl 1 rfl) ?_
  refine S_iald hx hb hK hW kd_94 (vin ((by first | (clear ha_p1 hP9 ty_1 u_2; omega) | omega)) ((by first | (clear ha_p1 hP9 ty_1 u_2; omega) | omega))) dX12_layStreet_36 (fun y_10 ey_10 => ?_)
  have ty_10 : 0 ≤ y_10.toInt ∧ y_10.toInt ≤ 60 := bv_94 hB_G_9 ey_10
  have u_11 : y_10.toInt = (G.1 94 p0.toNatClampNeg).toInt := congrArg Int32.toInt (ey_10.trans (((gp_ne eG_9 (fun q => absurd q.1 (Nat.ne_of_beq_eq_false rfl))).trans ((gp_ne eG_6 (fun q => absurd q.1 (Nat.ne_of_beq_eq_false rfl))).trans (gp_ne eG_3 (fun q => absurd q.1 (Nat.ne_of_beq_eq_false rfl)))))))
  refine S_putI (ty := .int) (C := RX12) (T := TX12) (N := 89) hx hb hg iX12 tyX12 tyX12_ok nmX12 hown hK hW hS kd_66 rfl 62 (lt_b rfl) (hg (Cond.fieldLink RX12 478 "SlabWalkModel" "most" "I") m1376) (fun _ h9 => h9) rfl (by decide +kernel) rfl rfl rfl dX12_layStreet_37 (fun G_12 H locs eG_12 hW hS => ?_)
  have hB_G_12 : Bd G_12 := hB_G_9.put (V := y_10.toInt) (lo := 0) (hi := 60) eG_12 rfl rfl rfl ((by first | (clear ha_p1 hP9 ty_1 u_2; omega) | omega)) ((by first | (clear ha_p1 hP9 ty_1 u_2; omega) | omega)) (hB_G_9.2.put eG_12 rfl)
  have hF := hF.put eG_12 (Or.inr (by decide))
  refine lv_aload_n hx hb dX12_layStreet_40 rfl (lv_at hl 0 rfl) ?_
  refine lv_aload_n hx hb dX12_layStreet_41 rfl (lv_at hl 0 rfl) ?_
  refine S_getR (n := 95) (C := RX12) (T := TX12) (N := 89) hx hb hg iX12 hown hK hW kd_66 rfl 43 (lt_b rfl) (hg (Cond.fieldLink RX12 99 "SlabWalkModel" "leaps" "[I") m1357) (fun _ h9 => h9) rfl dX12_layStreet_42 ?_
  refine lv_iload_n hx hb dX12_layStreet_45 rfl (lv_at hl 1 rfl) ?_
  refine S_iald hx hb hK hW kd_95 (vin ((by first | (clear ha_p1 hP9 ty_1 u_2; omega) | omega)) ((by first | (clear ha_p1 hP9 ty_1 u_2; omega) | omega))) dX12_layStreet_46 (fun y_13 ey_13 => ?_)
  have ty_13 : 0 ≤ y_13.toInt ∧ y_13.toInt ≤ 99 := bv_95 hB_G_12 ey_13
  have u_14 : y_13.toInt = (G.1 95 p0.toNatClampNeg).toInt := congrArg Int32.toInt (ey_13.trans (((gp_ne eG_12 (fun q => absurd q.1 (Nat.ne_of_beq_eq_false rfl))).trans ((gp_ne eG_9 (fun q => absurd q.1 (Nat.ne_of_beq_eq_false rfl))).trans ((gp_ne eG_6 (fun q => absurd q.1 (Nat.ne_of_beq_eq_false rfl))).trans (gp_ne eG_3 (fun q => absurd q.1 (Nat.ne_of_beq_eq_false rfl))))))))
  refine S_putI (ty := .int) (C := RX12) (T := TX12) (N := 89) hx hb hg iX12 tyX12 tyX12_ok nmX12 hown hK hW hS kd_66 rfl 63 (lt_b rfl) (hg (Cond.fieldLink RX12 481 "SlabWalkModel" "leap" "I") m1377) (fun _ h9 => h9) rfl (by decide +kernel) rfl rfl rfl dX12_layStreet_47 (fun G_15 H locs eG_15 hW hS => ?_)
  have hB_G_15 : Bd G_15 := hB_G_12.put (V := y_13.toInt) (lo := 0) (hi := 99) eG_15 rfl rfl rfl ((by first | (clear ha_p1 hP9 ty_1 u_2; omega) | omega)) ((by first | (clear ha_p1 hP9 ty_1 u_2; omega) | omega)) (hB_G_12.2.put eG_15 rfl)
  have hF := hF.put eG_15 (Or.inr (by decide))
  refine ic_0 hx hb dX12_layStreet_50 ?_
  refine lv_istore (lv' := [(4, .int 0), (0, .ref (a 66)), (1, .int p0), (2, .int p1), (3, .int p2)]) hx hb dX12_layStreet_51 hl (lt_b rfl) rfl (fun ls hl => ?_)
  have qc_22 : (0 : Int32).toInt = 0 := rfl
  refine loop_N (Inv := fun n H locs ls => ∃ (G_16 : GS) (x_20 : Int32), (n : Int) = 400 - x_20.toInt ∧ (0 ≤ x_20.toInt ∧ x_20.toInt ≤ 400) ∧ Rc (St_n_layStreet_1 p1 p2 y_1) (0, G_15) (x_20, G_16) ∧ Wd D k A a G_16 H ∧ Bd G_16 ∧ Fr [76, 97, 98] [(66, 59), (66, 60), (66, 61), (66, 62), (66, 63)] G G_16 ∧ Fr [76, 97] [] G_15 G_16 ∧ va_S A s.heap H locs ∧ lv_has ls 6 [(4, .int x_20), (0, .ref (a 66)), (2, .int p1), (3, .int p2)]) (fun n_19 H locs ls ih_18 hI => ?_) (400 - 0 : Int).toNat ⟨G_15, 0, (Int.toNat_of_nonneg ((by first | (clear ha_p0 ha_p1 hP9 ty_1 u_2 ty_4 u_5 ty_7 u_8 ty_10 u_11 ty_13 u_14; omega) | omega))), ⟨(by first | (clear ha_p0 ha_p1 hP9 ty_1 u_2 ty_4 u_5 ty_7 u_8 ty_10 u_11 ty_13 u_14; omega) | omega), (by first | (clear ha_p0 ha_p1 hP9 ty_1 u_2 ty_4 u_5 ty_7 u_8 ty_10 u_11 ty_13 u_14; omega) | omega)⟩, Rc.rf, hW, hB_G_15, hF, Fr.rf, hS, lv_sub hl [0, 1, 3, 4] rfl⟩
  obtain ⟨G_16, x_20, hn_24, f_23, hX_21, hW, hB_G_16, hF, hq_17, hS, hl⟩ := hI
  refine lv_iload hx hb dX12_layStreet_53 (lv_at hl 0 rfl) ?_
  refine lv_aload_n hx hb dX12_layStreet_55 rfl (lv_at hl 1 rfl) ?_
  refine S_getI (v := y_1) (C := RX12) (T := TX12) (N := 89) hx hb hg iX12 hown hK hW kd_66 rfl 59 (lt_b rfl) (hg (Cond.fieldLink RX12 469 "SlabWalkModel" "inchesOf" "I") m1373) (fun _ h9 => h9) rfl ((hq_17.i9 66 59 rfl rfl).trans ((gp_ne eG_15 (by decide)).trans ((gp_ne eG_12 (by decide)).trans ((gp_ne eG_9 (by decide)).trans ((gp_ne eG_6 (by decide)).trans (gp_eq eG_3)))))) dX12_layStreet_56 ?_
  refine lv_icmp_ge (tgt := 83) hx hb dX12_layStreet_59 rfl (fun c_25 => ?_) (fun c_25 => ?_)
  · have c_25 : y_1.toInt ≤ x_20.toInt := xI_le rfl rfl c_25
    refine ic_0 hx hb dX12_layStreet_83 ?_
    refine lv_istore (lv' := [(4, .int 0), (0, .ref (a 66)), (2, .int p1), (3, .int p2)]) hx hb dX12_layStreet_84 hl (lt_b rfl) rfl (fun ls hl => ?_)
    have g_32 : (G_16.1 66 60).toInt = y_4.toInt := (congrArg Int32.toInt (show G_16.1 66 60 = y_4 from ((hq_17.i9 66 60 rfl rfl).trans ((gp_ne eG_15 (by decide)).trans ((gp_ne eG_12 (by decide)).trans ((gp_ne eG_9 (by decide)).trans (gp_eq eG_6)))))))
    have b_33 : 0 ≤ (G.1 98 400).toInt ∧ (G.1 98 400).toInt ≤ 1 := bd_98_400 hB_G
    have g_34 : (G_16.1 98 400).toInt = (G.1 98 400).toInt := (congrArg Int32.toInt (show G_16.1 98 400 = (G.1 98 400) from ((hq_17.i9 98 400 rfl rfl).trans ((gp_ne eG_15 (by decide)).trans ((gp_ne eG_12 (by decide)).trans ((gp_ne eG_9 (by decide)).trans ((gp_ne eG_6 (by decide)).trans (gp_ne eG_3 (by decide)))))))))
    have qc_35 : (0 : Int32).toInt = 0 := rfl
    refine loop_N (Inv := fun n H locs ls => ∃ (G_26 : GS) (x_30 : Int32), (n : Int) = 512 - x_30.toInt ∧ (0 ≤ x_30.toInt ∧ x_30.toInt ≤ 512) ∧ (x_30.toInt ≤ 400 ∨ (G_26.1 66 60).toInt = 0 ∨ (G_26.1 98 400).toInt = 0) ∧ Rc (St_n_layStreet_2 y_4) (0, G_16) (x_30, G_26) ∧ Wd D k A a G_26 H ∧ Bd G_26 ∧ Fr [76, 97, 98] [(66, 59), (66, 60), (66, 61), (66, 62), (66, 63)] G G_26 ∧ Fr [98] [] G_16 G_26 ∧ va_S A s.heap H locs ∧ lv_has ls 6 [(4, .int x_30), (0, .ref (a 66))]) (fun n_29 H locs ls ih_28 hI => ?_) (512 - 0 : Int).toNat ⟨G_16, 0, (Int.toNat_of_nonneg ((by first | (clear ha_p0 ha_p1 hP9 ty_1 u_2 ty_4 u_5 ty_7 u_8 ty_10 u_11 ty_13 u_14 hn_24 f_23 c_25 g_32 b_33 g_34; omega) | omega))), ⟨(by first | (clear ha_p0 ha_p1 hP9 ty_1 u_2 ty_4 u_5 ty_7 u_8 ty_10 u_11 ty_13 u_14 hn_24 f_23 c_25 g_32 b_33 g_34; omega) | omega), (by first | (clear ha_p0 ha_p1 hP9 ty_1 u_2 ty_4 u_5 ty_7 u_8 ty_10 u_11 ty_13 u_14 hn_24 f_23 c_25 g_32 b_33 g_34; omega) | omega)⟩, ((by first | (clear ha_p1 hP9 ty_1 u_2 hn_24 f_23 c_25; omega) | omega)), Rc.rf, hW, hB_G_16, hF, Fr.rf, hS, lv_sub hl [0, 1] rfl⟩
    obtain ⟨G_26, x_30, hn_38, f_36, f_37, hX_31, hW, hB_G_26, hF, hq_27, hS, hl⟩ := hI
    have g_39 : (G_26.1 66 60).toInt = y_4.toInt := (congrArg Int32.toInt (show G_26.1 66 60 = y_4 from ((hq_27.i9 66 60 rfl rfl).trans ((hq_17.i9 66 60 rfl rfl).trans ((gp_ne eG_15 (by decide)).trans ((gp_ne eG_12 (by decide)).trans ((gp_ne eG_9 (by decide)).trans (gp_eq eG_6))))))))
    have b_40 : 0 ≤ (G_26.1 98 400).toInt ∧ (G_26.1 98 400).toInt ≤ 1 := bd_98_400 hB_G_26
    refine lv_iload hx hb dX12_layStreet_86 (lv_at hl 0 rfl) ?_
    refine lv_sipush (v := 512) hx hb dX12_layStreet_88 (by decide) ?_
    refine lv_icmp_ge (tgt := 167) hx hb dX12_layStreet_91 rfl (fun c_41 => ?_) (fun c_41 => ?_)
    · have c_41 : 512 ≤ x_30.toInt := xI_le rfl rfl c_41
      have g_42 : (G_26.1 66 59).toInt = y_1.toInt := (congrArg Int32.toInt (show G_26.1 66 59 = y_1 from ((hq_27.i9 66 59 rfl rfl).trans ((hq_17.i9 66 59 rfl rfl).trans ((gp_ne eG_15 (by decide)).trans ((gp_ne eG_12 (by decide)).trans ((gp_ne eG_9 (by decide)).trans ((gp_ne eG_6 (by decide)).trans (gp_eq eG_3)))))))))
      have g_43 : (G_26.1 66 60).toInt = y_4.toInt := (congrArg Int32.toInt (show G_26.1 66 60 = y_4 from ((hq_27.i9 66 60 rfl rfl).trans ((hq_17.i9 66 60 rfl rfl).trans ((gp_ne eG_15 (by decide)).trans ((gp_ne eG_12 (by decide)).trans ((gp_ne eG_9 (by decide)).trans (gp_eq eG_6))))))))
      have g_44 : (G_26.1 66 61).toInt = y_7.toInt := (congrArg Int32.toInt (show G_26.1 66 61 = y_7 from ((hq_27.i9 66 61 rfl rfl).trans ((hq_17.i9 66 61 rfl rfl).trans ((gp_ne eG_15 (by decide)).trans ((gp_ne eG_12 (by decide)).trans (gp_eq eG_9)))))))
      have g_45 : (G_26.1 66 62).toInt = y_10.toInt := (congrArg Int32.toInt (show G_26.1 66 62 = y_10 from ((hq_27.i9 66 62 rfl rfl).trans ((hq_17.i9 66 62 rfl rfl).trans ((gp_ne eG_15 (by decide)).trans (gp_eq eG_12))))))
      have g_46 : (G_26.1 66 63).toInt = y_13.toInt := (congrArg Int32.toInt (show G_26.1 66 63 = y_13 from ((hq_27.i9 66 63 rfl rfl).trans ((hq_17.i9 66 63 rfl rfl).trans (gp_eq eG_15)))))
      exact W.vret hx hb hr (fun t ht _ => ⟨⟨G_26, rfl, (Q_layStreet_mk ⟨hB_G_26, hF, ((by first | exact ⟨((by first | (clear ha_p0 hP9 ty_4 u_5 ty_7 u_8 ty_10 u_11 ty_13 u_14 g_32 b_33 g_34 hn_38 f_36 f_37 g_39 b_40 c_41 g_43 g_44 g_45 g_46; omega) | omega)), ⟨((by first | (clear ha_p1 hP9 ty_1 u_2 hn_24 f_23 c_25 b_33 g_34 g_42; omega) | omega)), ⟨((by first | (clear ha_p1 hP9 ty_1 u_2 hn_24 f_23 c_25 b_33 g_34 g_42; omega) | omega)), ⟨((by first | (clear ha_p1 hP9 ty_1 u_2 hn_24 f_23 c_25 b_33 g_34 g_42; omega) | omega)), ⟨((by first | (clear ha_p1 hP9 ty_1 u_2 hn_24 f_23 c_25 b_33 g_34 g_42; omega) | omega)), (fun h9 => ((by first | (clear ha_p1 hP9 ty_1 u_2 hn_24 f_23 c_25 b_33 g_34 g_42; omega) | omega)))⟩⟩⟩⟩⟩ | omega)), ⟨y_1, ey_1, ⟨y_4, ey_4.trans (congrFun (rw_put eG_3 (by decide)) _), ⟨y_7, ey_7.trans (congrFun ((rw_put eG_6 (by decide)).trans (rw_put eG_3 (by decide))) _), ⟨y_10, ey_10.trans (congrFun ((rw_put eG_9 (by decide)).trans ((rw_put eG_6 (by decide)).trans (rw_put eG_3 (by decide)))) _), ⟨y_13, ey_13.trans (congrFun ((rw_put eG_12 (by decide)).trans ((rw_put eG_9 (by decide)).trans ((rw_put eG_6 (by decide)).trans (rw_put eG_3 (by decide))))) _), ⟨G_15, hB_G_15, (Fr.put (rs := []) (fs := [(66, 59), (66, 60), (66, 61), (66, 62), (66, 63)]) (Fr.put (rs := []) (fs := [(66, 59), (66, 60), (66, 61), (66, 62), (66, 63)]) (Fr.put (rs := []) (fs := [(66, 59), (66, 60), (66, 61), (66, 62), (66, 63)]) (Fr.put (rs := []) (fs := [(66, 59), (66, 60), (66, 61), (66, 62), (66, 63)]) (Fr.put (rs := []) (fs := [(66, 59), (66, 60), (66, 61), (66, 62), (66, 63)]) Fr.rf eG_3 (Or.inr (by decide))) eG_6 (Or.inr (by decide))) eG_9 (Or.inr (by decide))) eG_12 (Or.inr (by decide))) eG_15 (Or.inr (by decide))), ((gp_ne eG_15 (by decide)).trans ((gp_ne eG_12 (by decide)).trans ((gp_ne eG_9 (by decide)).trans ((gp_ne eG_6 (by decide)).trans (gp_eq eG_3))))), ((gp_ne eG_15 (by decide)).trans ((gp_ne eG_12 (by decide)).trans ((gp_ne eG_9 (by decide)).trans (gp_eq eG_6)))), ((gp_ne eG_15 (by decide)).trans ((gp_ne eG_12 (by decide)).trans (gp_eq eG_9))), ((gp_ne eG_15 (by decide)).trans (gp_eq eG_12)), (gp_eq eG_15), ⟨x_20, G_16, hX_21, f_23, hB_G_16, hq_17, ⟨c_25, ⟨x_30, G_26, hX_31, f_36, f_37, hB_G_26, hq_27, ⟨c_41, rfl⟩⟩⟩⟩⟩⟩⟩⟩⟩⟩⟩), wd_t ht hW⟩, hS.F ht⟩) hS.2.2 dX12_layStreet_167
    · have c_41 : x_30.toInt < 512 := xI_nle rfl rfl c_41
      refine lv_aload_n hx hb dX12_layStreet_94 rfl (lv_at hl 1 rfl) ?_
      refine S_getR (n := 98) (C := RX12) (T := TX12) (N := 89) hx hb hg iX12 hown hK hW kd_66 rfl 58 (lt_b rfl) (hg (Cond.fieldLink RX12 115 "SlabWalkModel" "lawful" "[Z") m1372) (fun _ h9 => h9) rfl dX12_layStreet_95 ?_
      refine lv_iload hx hb dX12_layStreet_98 (lv_at hl 0 rfl) ?_
      refine lv_aload_n hx hb dX12_layStreet_100 rfl (lv_at hl 1 rfl) ?_
      refine lv_iload hx hb dX12_layStreet_101 (lv_at hl 0 rfl) ?_
      have g_47 : (G_26.1 66 59).toInt = y_1.toInt := (congrArg Int32.toInt (show G_26.1 66 59 = y_1 from ((hq_27.i9 66 59 rfl rfl).trans ((hq_17.i9 66 59 rfl rfl).trans ((gp_ne eG_15 (by decide)).trans ((gp_ne eG_12 (by decide)).trans ((gp_ne eG_9 (by decide)).trans ((gp_ne eG_6 (by decide)).trans (gp_eq eG_3)))))))))
      have g_48 : (G_26.1 66 60).toInt = y_4.toInt := (congrArg Int32.toInt (show G_26.1 66 60 = y_4 from ((hq_27.i9 66 60 rfl rfl).trans ((hq_17.i9 66 60 rfl rfl).trans ((gp_ne eG_15 (by decide)).trans ((gp_ne eG_12 (by decide)).trans ((gp_ne eG_9 (by decide)).trans (gp_eq eG_6))))))))
      refine S_calli (va_runV (As := [.int x_30]) (rest := [.int x_30, .ref (a 98)]) ⟨hx, hb, hml, hown, hts⟩ (n_stands1 l D k A a z G_26 x_30 ) (cwV 1 hts (gd_V hgd m1838 m1840 m92 m131 m1841) rfl rfl rfl hd_X12_doesStand ⟨Nat.le_of_ble_eq_true rfl, Nat.le_of_ble_eq_true rfl⟩) (pre_V hW hB_G_26 hK hZ hS kd_66 rfl) rfl rfl hl.1 rfl (lv_room (Nat.le_of_ble_eq_true rfl)) dX12_layStreet_103 ⟨Nat.le_of_ble_eq_true rfl, Nat.le_of_ble_eq_true rfl⟩) hS (fun r_49 G_50 H locs hpo hW hS => ?_)
      have hX_53 : Q_stands1 x_30 G_26 r_49 G_50 := hpo
      obtain ⟨hB_G_50, hq_51, f_54, hp_52, -⟩ := hpo
      have hF := hF.call9 hq_51 rfl rfl
      have g_55 : (G_50.1 98 400).toInt = (G_26.1 98 400).toInt := (congrArg Int32.toInt (show G_50.1 98 400 = (G_26.1 98 400) from ((hq_51.i9 98 400 rfl rfl).trans (rfl))))
      refine S_zast hx hb hK hW hS kd_98 (vin ((by first | (clear hP9 f_23 b_33 g_34; omega) | omega)) ((by first | (clear hP9 f_23 b_33 g_34; omega) | omega))) dX12_layStreet_106 (fun G_56 H locs eG_56 hW hS => ?_)
      have hB_G_56 : Bd G_56 := hB_G_50.putLaw eG_56 (by omega) (by omega)
      have hF := hF.put eG_56 (Or.inl (by decide))
      have u_57 := st400 eG_56 (by omega)
      have u_58 := nar_at eG_56 (by omega) (by omega)
      refine lv_iload hx hb dX12_layStreet_107 (lv_at hl 0 rfl) ?_
      refine lv_istore (lv' := [(5, .int x_30), (4, .int x_30), (0, .ref (a 66))]) hx hb dX12_layStreet_109 hl (lt_b rfl) rfl (fun ls hl => ?_)
      have g_65 : (G_56.1 66 59).toInt = y_1.toInt := (congrArg Int32.toInt (show G_56.1 66 59 = y_1 from ((gp_ne eG_56 (fun q => absurd q.1 (Nat.ne_of_beq_eq_false rfl))).trans ((hq_51.i9 66 59 rfl rfl).trans ((hq_27.i9 66 59 rfl rfl).trans ((hq_17.i9 66 59 rfl rfl).trans ((gp_ne eG_15 (by decide)).trans ((gp_ne eG_12 (by decide)).trans ((gp_ne eG_9 (by decide)).trans ((gp_ne eG_6 (by decide)).trans (gp_eq eG_3)))))))))))
      have g_66 : (G_56.1 66 60).toInt = y_4.toInt := (congrArg Int32.toInt (show G_56.1 66 60 = y_4 from ((gp_ne eG_56 (fun q => absurd q.1 (Nat.ne_of_beq_eq_false rfl))).trans ((hq_51.i9 66 60 rfl rfl).trans ((hq_27.i9 66 60 rfl rfl).trans ((hq_17.i9 66 60 rfl rfl).trans ((gp_ne eG_15 (by decide)).trans ((gp_ne eG_12 (by decide)).trans ((gp_ne eG_9 (by decide)).trans (gp_eq eG_6))))))))))
      have g_67 : (G_56.1 66 60).toInt = y_4.toInt := (congrArg Int32.toInt (show G_56.1 66 60 = y_4 from ((gp_ne eG_56 (fun q => absurd q.1 (Nat.ne_of_beq_eq_false rfl))).trans ((hq_51.i9 66 60 rfl rfl).trans ((hq_27.i9 66 60 rfl rfl).trans ((hq_17.i9 66 60 rfl rfl).trans ((gp_ne eG_15 (by decide)).trans ((gp_ne eG_12 (by decide)).trans ((gp_ne eG_9 (by decide)).trans (gp_eq eG_6))))))))))
      have b_68 : 0 ≤ (G_56.1 98 400).toInt ∧ (G_56.1 98 400).toInt ≤ 1 := bd_98_400 hB_G_56
      refine loop_N (Inv := fun n H locs ls => ∃ (G_59 : GS) (x_63 : Int32), (n : Int) = 523 - x_63.toInt ∧ (0 ≤ x_63.toInt ∧ x_63.toInt ≤ 523) ∧ (x_30.toInt + (G_59.1 66 60).toInt ≤ (G_59.1 66 59).toInt ∨ (G_59.1 98 x_30.toNatClampNeg).toInt = 0) ∧ (x_30.toInt ≤ x_63.toInt) ∧ (x_30.toInt ≤ 399 ∨ (G_59.1 66 60).toInt = 0 ∨ (G_59.1 98 400).toInt = 0) ∧ Rc (St_n_layStreet_3 y_4 x_30) (x_30, G_56) (x_63, G_59) ∧ Wd D k A a G_59 H ∧ Bd G_59 ∧ Fr [76, 97, 98] [(66, 59), (66, 60), (66, 61), (66, 62), (66, 63)] G G_59 ∧ Fr [98] [] G_56 G_59 ∧ va_S A s.heap H locs ∧ lv_has ls 6 [(5, .int x_63), (4, .int x_30), (0, .ref (a 66))]) (fun n_62 H locs ls ih_61 hI => ?_) (523 - x_30.toInt : Int).toNat ⟨G_56, x_30, (Int.toNat_of_nonneg ((by first | (clear hP9 f_23 b_33 g_34 b_68; omega) | omega))), ⟨(by first | (clear hP9 f_23 b_33 g_34 b_68; omega) | omega), (by first | (clear hP9 f_23 b_33 g_34 b_68; omega) | omega)⟩, ((by first | (clear hP9 b_33 g_34 b_68; omega) | omega)), ((by first | (clear hP9 f_23 b_33 g_34 b_68; omega) | omega)), ((by first | (clear hP9 f_23 b_33 g_34; omega) | omega)), Rc.rf, hW, hB_G_56, hF, Fr.rf, hS, lv_sub hl [0, 1, 2] rfl⟩
      obtain ⟨G_59, x_63, hn_73, f_69, f_70, f_71, f_72, hX_64, hW, hB_G_59, hF, hq_60, hS, hl⟩ := hI
      have g_74 : (G_59.1 66 59).toInt = y_1.toInt := (congrArg Int32.toInt (show G_59.1 66 59 = y_1 from ((hq_60.i9 66 59 rfl rfl).trans ((gp_ne eG_56 (fun q => absurd q.1 (Nat.ne_of_beq_eq_false rfl))).trans ((hq_51.i9 66 59 rfl rfl).trans ((hq_27.i9 66 59 rfl rfl).trans ((hq_17.i9 66 59 rfl rfl).trans ((gp_ne eG_15 (by decide)).trans ((gp_ne eG_12 (by decide)).trans ((gp_ne eG_9 (by decide)).trans ((gp_ne eG_6 (by decide)).trans (gp_eq eG_3))))))))))))
      have g_75 : (G_59.1 66 60).toInt = y_4.toInt := (congrArg Int32.toInt (show G_59.1 66 60 = y_4 from ((hq_60.i9 66 60 rfl rfl).trans ((gp_ne eG_56 (fun q => absurd q.1 (Nat.ne_of_beq_eq_false rfl))).trans ((hq_51.i9 66 60 rfl rfl).trans ((hq_27.i9 66 60 rfl rfl).trans ((hq_17.i9 66 60 rfl rfl).trans ((gp_ne eG_15 (by decide)).trans ((gp_ne eG_12 (by decide)).trans ((gp_ne eG_9 (by decide)).trans (gp_eq eG_6)))))))))))
      have g_76 : (G_59.1 66 60).toInt = y_4.toInt := (congrArg Int32.toInt (show G_59.1 66 60 = y_4 from ((hq_60.i9 66 60 rfl rfl).trans ((gp_ne eG_56 (fun q => absurd q.1 (Nat.ne_of_beq_eq_false rfl))).trans ((hq_51.i9 66 60 rfl rfl).trans ((hq_27.i9 66 60 rfl rfl).trans ((hq_17.i9 66 60 rfl rfl).trans ((gp_ne eG_15 (by decide)).trans ((gp_ne eG_12 (by decide)).trans ((gp_ne eG_9 (by decide)).trans (gp_eq eG_6)))))))))))
      have b_77 : 0 ≤ (G_59.1 98 400).toInt ∧ (G_59.1 98 400).toInt ≤ 1 := bd_98_400 hB_G_59
      refine lv_iload hx hb dX12_layStreet_111 (lv_at hl 0 rfl) ?_
      refine lv_iload hx hb dX12_layStreet_113 (lv_at hl 1 rfl) ?_
      refine lv_aload_n hx hb dX12_layStreet_115 rfl (lv_at hl 2 rfl) ?_
      refine S_getI (v := y_4) (C := RX12) (T := TX12) (N := 89) hx hb hg iX12 hown hK hW kd_66 rfl 60 (lt_b rfl) (hg (Cond.fieldLink RX12 472 "SlabWalkModel" "foot" "I") m1374) (fun _ h9 => h9) rfl ((hq_60.i9 66 60 rfl rfl).trans ((gp_ne eG_56 (fun q => absurd q.1 (Nat.ne_of_beq_eq_false rfl))).trans ((hq_51.i9 66 60 rfl rfl).trans ((hq_27.i9 66 60 rfl rfl).trans ((hq_17.i9 66 60 rfl rfl).trans ((gp_ne eG_15 (by decide)).trans ((gp_ne eG_12 (by decide)).trans ((gp_ne eG_9 (by decide)).trans (gp_eq eG_6))))))))) dX12_layStreet_116 ?_
      refine lv_iadd hx hb dX12_layStreet_119 ?_
      refine lv_topi (fun y_78 ey_78 => ?_)
      have ty_78 : y_78.toInt = x_30.toInt + y_4.toInt := xI_add rfl rfl ey_78 ((by first | (clear hP9 f_23 b_33 g_34 b_68; omega) | omega)) ((by first | (clear hP9 f_23 b_33 g_34 b_68; omega) | omega))
      refine lv_icmp_ge (tgt := 161) hx hb dX12_layStreet_120 rfl (fun c_79 => ?_) (fun c_79 => ?_)
      · have c_79 : y_78.toInt ≤ x_63.toInt := xI_le rfl rfl c_79
        obtain ⟨y_80, ey_80⟩ : ∃ q, q = x_30 + 1 := ⟨_, rfl⟩
        have ty_80 : y_80.toInt = x_30.toInt + 1 := xI_add rfl rfl ey_80 ((by first | (clear hP9 f_23 b_33 g_34 b_68; omega) | omega)) ((by first | (clear hP9 f_23 b_33 g_34 b_68; omega) | omega))
        refine lv_iinc (v := y_80) (lv' := [(4, .int y_80), (5, .int x_63), (0, .ref (a 66))]) hx hb dX12_layStreet_161 hl (k := 1) rfl (by rw [ey_80]; rfl) (lt_b rfl) rfl (fun ls hl => ?_)
        refine lv_goto (tgt := 86) hx hb dX12_layStreet_164 rfl ?_
        have g_81 : (G_59.1 66 60).toInt = y_4.toInt := (congrArg Int32.toInt (show G_59.1 66 60 = y_4 from ((hq_60.i9 66 60 rfl rfl).trans ((gp_ne eG_56 (fun q => absurd q.1 (Nat.ne_of_beq_eq_false rfl))).trans ((hq_51.i9 66 60 rfl rfl).trans ((hq_27.i9 66 60 rfl rfl).trans ((hq_17.i9 66 60 rfl rfl).trans ((gp_ne eG_15 (by decide)).trans ((gp_ne eG_12 (by decide)).trans ((gp_ne eG_9 (by decide)).trans (gp_eq eG_6)))))))))))
        exact ih_28 (512 - y_80.toInt : Int).toNat ((by first | (clear hP9 f_23 b_33 g_34 b_68; omega) | omega)) _ _ _ ⟨G_59, y_80, (Int.toNat_of_nonneg ((by first | (clear hP9 f_23 b_33 g_34 b_68; omega) | omega))), ⟨(by first | (clear hP9 f_23 b_33 g_34 b_68; omega) | omega), (by first | (clear hP9 f_23 b_33 g_34 b_68; omega) | omega)⟩, ((by first | (clear hP9 f_23 b_33 g_34 b_68; omega) | omega)), (hX_31.st (St_n_layStreet_2_mk ⟨x_30, G_26, y_80, G_59, rfl, rfl, f_36, f_37, hB_G_26, ⟨c_41, ⟨r_49, G_50, hX_53, ⟨G_56, hB_G_56, (Fr.put (rs := [98]) (fs := []) Fr.rf eG_56 (Or.inl (by decide))), rw_ast eG_56, ⟨x_63, G_59, hX_64, f_69, f_70, f_71, f_72, hB_G_59, hq_60, ⟨y_78, ty_78, (Or.inl ⟨c_79, ⟨y_80, ty_80, ⟨rfl, rfl⟩⟩⟩)⟩⟩⟩⟩⟩⟩)), hW, hB_G_59, hF, (Fr.call9 (rs := [98]) (fs := []) (Fr.put (rs := [98]) (fs := []) (Fr.call9 (rs := [98]) (fs := []) (Fr.call9 (rs := [98]) (fs := []) Fr.rf hq_27 rfl rfl) hq_51 rfl rfl) eG_56 (Or.inl (by decide))) hq_60 rfl rfl), hS, lv_sub hl [0, 2] rfl⟩
      · have c_79 : x_63.toInt < y_78.toInt := xI_nle rfl rfl c_79
        refine lv_aload_n hx hb dX12_layStreet_123 rfl (lv_at hl 2 rfl) ?_
        refine S_getR (n := 98) (C := RX12) (T := TX12) (N := 89) hx hb hg iX12 hown hK hW kd_66 rfl 58 (lt_b rfl) (hg (Cond.fieldLink RX12 115 "SlabWalkModel" "lawful" "[Z") m1372) (fun _ h9 => h9) rfl dX12_layStreet_124 ?_
        refine lv_iload hx hb dX12_layStreet_127 (lv_at hl 1 rfl) ?_
        refine S_zald hx hb hK hW kd_98 (vin ((by first | (clear hP9 f_23 b_33 g_34 b_68; omega) | omega)) ((by first | (clear hP9 f_23 b_33 g_34 b_68; omega) | omega))) dX12_layStreet_129 (fun y_82 ey_82 => ?_)
        have ty_82 := hB_G_59.law ey_82
        have u_83 : y_82.toInt = (G_59.1 98 x_30.toNatClampNeg).toInt := congrArg Int32.toInt (ey_82)
        refine lv_if_eq (tgt := 161) hx hb dX12_layStreet_130 rfl (fun c_84 => ?_) (fun c_84 => ?_)
        · have c_84 : y_82.toInt = 0 := xI_eq rfl rfl c_84
          obtain ⟨y_85, ey_85⟩ : ∃ q, q = x_30 + 1 := ⟨_, rfl⟩
          have ty_85 : y_85.toInt = x_30.toInt + 1 := xI_add rfl rfl ey_85 ((by first | (clear hP9 f_23 b_33 g_34 b_68; omega) | omega)) ((by first | (clear hP9 f_23 b_33 g_34 b_68; omega) | omega))
          refine lv_iinc (v := y_85) (lv' := [(4, .int y_85), (5, .int x_63), (0, .ref (a 66))]) hx hb dX12_layStreet_161 hl (k := 1) rfl (by rw [ey_85]; rfl) (lt_b rfl) rfl (fun ls hl => ?_)
          refine lv_goto (tgt := 86) hx hb dX12_layStreet_164 rfl ?_
          have g_86 : (G_59.1 66 60).toInt = y_4.toInt := (congrArg Int32.toInt (show G_59.1 66 60 = y_4 from ((hq_60.i9 66 60 rfl rfl).trans ((gp_ne eG_56 (fun q => absurd q.1 (Nat.ne_of_beq_eq_false rfl))).trans ((hq_51.i9 66 60 rfl rfl).trans ((hq_27.i9 66 60 rfl rfl).trans ((hq_17.i9 66 60 rfl rfl).trans ((gp_ne eG_15 (by decide)).trans ((gp_ne eG_12 (by decide)).trans ((gp_ne eG_9 (by decide)).trans (gp_eq eG_6)))))))))))
          exact ih_28 (512 - y_85.toInt : Int).toNat ((by first | (clear hP9 f_23 b_33 g_34 b_68; omega) | omega)) _ _ _ ⟨G_59, y_85, (Int.toNat_of_nonneg ((by first | (clear hP9 f_23 b_33 g_34 b_68; omega) | omega))), ⟨(by first | (clear hP9 f_23 b_33 g_34 b_68; omega) | omega), (by first | (clear hP9 f_23 b_33 g_34 b_68; omega) | omega)⟩, ((by first | (clear hP9 f_23 b_33 g_34 b_68; omega) | omega)), (hX_31.st (St_n_layStreet_2_mk ⟨x_30, G_26, y_85, G_59, rfl, rfl, f_36, f_37, hB_G_26, ⟨c_41, ⟨r_49, G_50, hX_53, ⟨G_56, hB_G_56, (Fr.put (rs := [98]) (fs := []) Fr.rf eG_56 (Or.inl (by decide))), rw_ast eG_56, ⟨x_63, G_59, hX_64, f_69, f_70, f_71, f_72, hB_G_59, hq_60, ⟨y_78, ty_78, (Or.inr ⟨c_79, ⟨y_82, ey_82, ⟨c_84, ⟨y_85, ty_85, ⟨rfl, rfl⟩⟩⟩⟩⟩)⟩⟩⟩⟩⟩⟩)), hW, hB_G_59, hF, (Fr.call9 (rs := [98]) (fs := []) (Fr.put (rs := [98]) (fs := []) (Fr.call9 (rs := [98]) (fs := []) (Fr.call9 (rs := [98]) (fs := []) Fr.rf hq_27 rfl rfl) hq_51 rfl rfl) eG_56 (Or.inl (by decide))) hq_60 rfl rfl), hS, lv_sub hl [0, 2] rfl⟩
        · have c_84 : y_82.toInt ≠ 0 := xI_ne rfl rfl c_84
          refine lv_aload_n hx hb dX12_layStreet_133 rfl (lv_at hl 2 rfl) ?_
          refine S_getR (n := 98) (C := RX12) (T := TX12) (N := 89) hx hb hg iX12 hown hK hW kd_66 rfl 58 (lt_b rfl) (hg (Cond.fieldLink RX12 115 "SlabWalkModel" "lawful" "[Z") m1372) (fun _ h9 => h9) rfl dX12_layStreet_134 ?_
          refine lv_iload hx hb dX12_layStreet_137 (lv_at hl 1 rfl) ?_
          refine lv_aload_n hx hb dX12_layStreet_139 rfl (lv_at hl 2 rfl) ?_
          refine S_getR (n := 97) (C := RX12) (T := TX12) (N := 89) hx hb hg iX12 hown hK hW kd_66 rfl 57 (lt_b rfl) (hg (Cond.fieldLink RX12 111 "SlabWalkModel" "lines" "[Z") m1371) (fun _ h9 => h9) rfl dX12_layStreet_140 ?_
          refine lv_iload hx hb dX12_layStreet_143 (lv_at hl 0 rfl) ?_
          refine S_zald hx hb hK hW kd_97 (vin ((by first | (clear ha_p1 hP9 ty_1 hn_24 f_23 c_25 b_33 g_34 b_40 f_54 b_68 b_77; omega) | omega)) ((by first | (clear ha_p1 hP9 ty_1 hn_24 f_23 c_25 b_33 g_34 b_40 f_54 b_68 b_77; omega) | omega))) dX12_layStreet_145 (fun y_87 ey_87 => ?_)
          have ty_87 : 0 ≤ y_87.toInt ∧ y_87.toInt ≤ 1 := bv_97 hB_G_59 ey_87
          have u_88 : y_87.toInt = (G_16.1 97 x_63.toNatClampNeg).toInt := congrArg Int32.toInt (ey_87.trans (((hq_60.ri9 97 rfl x_63.toNatClampNeg).trans ((gp_ne eG_56 (fun q => absurd q.1 (Nat.ne_of_beq_eq_false rfl))).trans ((hq_51.ri9 97 rfl x_63.toNatClampNeg).trans (hq_27.ri9 97 rfl x_63.toNatClampNeg))))))
          refine lv_if_ne (tgt := 153) hx hb dX12_layStreet_146 rfl (fun c_89 => ?_) (fun c_89 => ?_)
          · have c_89 : y_87.toInt ≠ 0 := xI_ne rfl rfl c_89
            refine ic_0 hx hb dX12_layStreet_153 ?_
            refine S_zast hx hb hK hW hS kd_98 (vin ((by first | (clear hP9 f_23 b_33 g_34 b_68; omega) | omega)) ((by first | (clear hP9 f_23 b_33 g_34 b_68; omega) | omega))) dX12_layStreet_154 (fun G_90 H locs eG_90 hW hS => ?_)
            have qc_91 : (0 : Int32).toInt = 0 := rfl
            have hB_G_90 : Bd G_90 := hB_G_59.putLaw eG_90 (by omega) (by omega)
            have hF := hF.put eG_90 (Or.inl (by decide))
            have u_92 := st400 eG_90 (by omega)
            obtain ⟨y_93, ey_93⟩ : ∃ q, q = x_63 + 1 := ⟨_, rfl⟩
            have ty_93 : y_93.toInt = x_63.toInt + 1 := xI_add rfl rfl ey_93 ((by first | (clear ha_p1 hP9 ty_1 hn_24 f_23 c_25 b_33 g_34 b_40 f_54 b_68 b_77; omega) | omega)) ((by first | (clear ha_p1 hP9 ty_1 hn_24 f_23 c_25 b_33 g_34 b_40 f_54 b_68 b_77; omega) | omega))
            refine lv_iinc (v := y_93) (lv' := [(5, .int y_93), (4, .int x_30), (0, .ref (a 66))]) hx hb dX12_layStreet_155 hl (k := 0) rfl (by rw [ey_93]; rfl) (lt_b rfl) rfl (fun ls hl => ?_)
            refine lv_goto (tgt := 111) hx hb dX12_layStreet_158 rfl ?_
            have g_94 : (G_90.1 66 59).toInt = y_1.toInt := (congrArg Int32.toInt (show G_90.1 66 59 = y_1 from ((gp_ne eG_90 (fun q => absurd q.1 (Nat.ne_of_beq_eq_false rfl))).trans ((hq_60.i9 66 59 rfl rfl).trans ((gp_ne eG_56 (fun q => absurd q.1 (Nat.ne_of_beq_eq_false rfl))).trans ((hq_51.i9 66 59 rfl rfl).trans ((hq_27.i9 66 59 rfl rfl).trans ((hq_17.i9 66 59 rfl rfl).trans ((gp_ne eG_15 (by decide)).trans ((gp_ne eG_12 (by decide)).trans ((gp_ne eG_9 (by decide)).trans ((gp_ne eG_6 (by decide)).trans (gp_eq eG_3)))))))))))))
            have g_95 : (G_90.1 66 60).toInt = y_4.toInt := (congrArg Int32.toInt (show G_90.1 66 60 = y_4 from ((gp_ne eG_90 (fun q => absurd q.1 (Nat.ne_of_beq_eq_false rfl))).trans ((hq_60.i9 66 60 rfl rfl).trans ((gp_ne eG_56 (fun q => absurd q.1 (Nat.ne_of_beq_eq_false rfl))).trans ((hq_51.i9 66 60 rfl rfl).trans ((hq_27.i9 66 60 rfl rfl).trans ((hq_17.i9 66 60 rfl rfl).trans ((gp_ne eG_15 (by decide)).trans ((gp_ne eG_12 (by decide)).trans ((gp_ne eG_9 (by decide)).trans (gp_eq eG_6))))))))))))
            have g_96 : (G_90.1 66 60).toInt = y_4.toInt := (congrArg Int32.toInt (show G_90.1 66 60 = y_4 from ((gp_ne eG_90 (fun q => absurd q.1 (Nat.ne_of_beq_eq_false rfl))).trans ((hq_60.i9 66 60 rfl rfl).trans ((gp_ne eG_56 (fun q => absurd q.1 (Nat.ne_of_beq_eq_false rfl))).trans ((hq_51.i9 66 60 rfl rfl).trans ((hq_27.i9 66 60 rfl rfl).trans ((hq_17.i9 66 60 rfl rfl).trans ((gp_ne eG_15 (by decide)).trans ((gp_ne eG_12 (by decide)).trans ((gp_ne eG_9 (by decide)).trans (gp_eq eG_6))))))))))))
            have b_97 : 0 ≤ (G_90.1 98 400).toInt ∧ (G_90.1 98 400).toInt ≤ 1 := bd_98_400 hB_G_90
            exact ih_61 (523 - y_93.toInt : Int).toNat ((by first | (clear ha_p1 hP9 ty_1 hn_24 f_23 c_25 b_33 g_34 b_40 f_54 b_68 b_77 b_97; omega) | omega)) _ _ _ ⟨G_90, y_93, (Int.toNat_of_nonneg ((by first | (clear ha_p1 hP9 ty_1 hn_24 f_23 c_25 b_33 g_34 b_40 f_54 b_68 b_77 b_97; omega) | omega))), ⟨(by first | (clear ha_p1 hP9 ty_1 hn_24 f_23 c_25 b_33 g_34 b_40 f_54 b_68 b_77 b_97; omega) | omega), (by first | (clear ha_p1 hP9 ty_1 hn_24 f_23 c_25 b_33 g_34 b_40 f_54 b_68 b_77 b_97; omega) | omega)⟩, ((by first | (clear hP9 b_33 g_34 b_68 b_97; omega) | omega)), ((by first | (clear hP9 f_23 b_33 g_34 b_68 b_97; omega) | omega)), ((by first | (clear hP9 f_23 b_33 g_34 b_68; omega) | omega)), (hX_64.st (St_n_layStreet_3_mk ⟨x_63, G_59, y_93, G_90, rfl, rfl, f_69, f_70, f_71, f_72, hB_G_59, ⟨y_78, ty_78, ⟨c_79, ⟨y_82, ey_82, ⟨c_84, ⟨y_87, ey_87, (Or.inr ⟨c_89, ⟨y_93, ty_93, ⟨rfl, (Fr.put (rs := [98]) (fs := []) Fr.rf eG_90 (Or.inl (by decide))), rw_ast eG_90⟩⟩⟩)⟩⟩⟩⟩⟩⟩)), hW, hB_G_90, hF, (Fr.put (rs := [98]) (fs := []) (Fr.call9 (rs := [98]) (fs := []) Fr.rf hq_60 rfl rfl) eG_90 (Or.inl (by decide))), hS, lv_sub hl [0, 1, 2] rfl⟩
          · have c_89 : y_87.toInt = 0 := xI_eq rfl rfl c_89
            refine ic_1 hx hb dX12_layStreet_149 ?_
            refine lv_goto (tgt := 154) hx hb dX12_layStreet_150 rfl ?_
            refine S_zast hx hb hK hW hS kd_98 (vin ((by first | (clear hP9 f_23 b_33 g_34 b_68; omega) | omega)) ((by first | (clear hP9 f_23 b_33 g_34 b_68; omega) | omega))) dX12_layStreet_154 (fun G_98 H locs eG_98 hW hS => ?_)
            have qc_99 : (1 : Int32).toInt = 1 := rfl
            have hB_G_98 : Bd G_98 := hB_G_59.putLaw eG_98 (by omega) (by omega)
            have hF := hF.put eG_98 (Or.inl (by decide))
            have u_100 := st400 eG_98 (by omega)
            obtain ⟨y_101, ey_101⟩ : ∃ q, q = x_63 + 1 := ⟨_, rfl⟩
            have ty_101 : y_101.toInt = x_63.toInt + 1 := xI_add rfl rfl ey_101 ((by first | (clear ha_p1 hP9 ty_1 hn_24 f_23 c_25 b_33 g_34 b_40 f_54 b_68 b_77; omega) | omega)) ((by first | (clear ha_p1 hP9 ty_1 hn_24 f_23 c_25 b_33 g_34 b_40 f_54 b_68 b_77; omega) | omega))
            refine lv_iinc (v := y_101) (lv' := [(5, .int y_101), (4, .int x_30), (0, .ref (a 66))]) hx hb dX12_layStreet_155 hl (k := 0) rfl (by rw [ey_101]; rfl) (lt_b rfl) rfl (fun ls hl => ?_)
            refine lv_goto (tgt := 111) hx hb dX12_layStreet_158 rfl ?_
            have g_102 : (G_98.1 66 59).toInt = y_1.toInt := (congrArg Int32.toInt (show G_98.1 66 59 = y_1 from ((gp_ne eG_98 (fun q => absurd q.1 (Nat.ne_of_beq_eq_false rfl))).trans ((hq_60.i9 66 59 rfl rfl).trans ((gp_ne eG_56 (fun q => absurd q.1 (Nat.ne_of_beq_eq_false rfl))).trans ((hq_51.i9 66 59 rfl rfl).trans ((hq_27.i9 66 59 rfl rfl).trans ((hq_17.i9 66 59 rfl rfl).trans ((gp_ne eG_15 (by decide)).trans ((gp_ne eG_12 (by decide)).trans ((gp_ne eG_9 (by decide)).trans ((gp_ne eG_6 (by decide)).trans (gp_eq eG_3)))))))))))))
            have g_103 : (G_98.1 66 60).toInt = y_4.toInt := (congrArg Int32.toInt (show G_98.1 66 60 = y_4 from ((gp_ne eG_98 (fun q => absurd q.1 (Nat.ne_of_beq_eq_false rfl))).trans ((hq_60.i9 66 60 rfl rfl).trans ((gp_ne eG_56 (fun q => absurd q.1 (Nat.ne_of_beq_eq_false rfl))).trans ((hq_51.i9 66 60 rfl rfl).trans ((hq_27.i9 66 60 rfl rfl).trans ((hq_17.i9 66 60 rfl rfl).trans ((gp_ne eG_15 (by decide)).trans ((gp_ne eG_12 (by decide)).trans ((gp_ne eG_9 (by decide)).trans (gp_eq eG_6))))))))))))
            have g_104 : (G_98.1 66 60).toInt = y_4.toInt := (congrArg Int32.toInt (show G_98.1 66 60 = y_4 from ((gp_ne eG_98 (fun q => absurd q.1 (Nat.ne_of_beq_eq_false rfl))).trans ((hq_60.i9 66 60 rfl rfl).trans ((gp_ne eG_56 (fun q => absurd q.1 (Nat.ne_of_beq_eq_false rfl))).trans ((hq_51.i9 66 60 rfl rfl).trans ((hq_27.i9 66 60 rfl rfl).trans ((hq_17.i9 66 60 rfl rfl).trans ((gp_ne eG_15 (by decide)).trans ((gp_ne eG_12 (by decide)).trans ((gp_ne eG_9 (by decide)).trans (gp_eq eG_6))))))))))))
            have b_105 : 0 ≤ (G_98.1 98 400).toInt ∧ (G_98.1 98 400).toInt ≤ 1 := bd_98_400 hB_G_98
            exact ih_61 (523 - y_101.toInt : Int).toNat ((by first | (clear ha_p1 hP9 ty_1 hn_24 f_23 c_25 b_33 g_34 b_40 f_54 b_68 b_77 b_105; omega) | omega)) _ _ _ ⟨G_98, y_101, (Int.toNat_of_nonneg ((by first | (clear ha_p1 hP9 ty_1 hn_24 f_23 c_25 b_33 g_34 b_40 f_54 b_68 b_77 b_105; omega) | omega))), ⟨(by first | (clear ha_p1 hP9 ty_1 hn_24 f_23 c_25 b_33 g_34 b_40 f_54 b_68 b_77 b_105; omega) | omega), (by first | (clear ha_p1 hP9 ty_1 hn_24 f_23 c_25 b_33 g_34 b_40 f_54 b_68 b_77 b_105; omega) | omega)⟩, ((by first | (clear hP9 b_33 g_34 b_68 b_105; omega) | omega)), ((by first | (clear hP9 f_23 b_33 g_34 b_68 b_105; omega) | omega)), ((by first | (clear hP9 f_23 b_33 g_34 b_68; omega) | omega)), (hX_64.st (St_n_layStreet_3_mk ⟨x_63, G_59, y_101, G_98, rfl, rfl, f_69, f_70, f_71, f_72, hB_G_59, ⟨y_78, ty_78, ⟨c_79, ⟨y_82, ey_82, ⟨c_84, ⟨y_87, ey_87, (Or.inl ⟨c_89, ⟨y_101, ty_101, ⟨rfl, (Fr.put (rs := [98]) (fs := []) Fr.rf eG_98 (Or.inl (by decide))), rw_ast eG_98⟩⟩⟩)⟩⟩⟩⟩⟩⟩)), hW, hB_G_98, hF, (Fr.put (rs := [98]) (fs := []) (Fr.call9 (rs := [98]) (fs := []) Fr.rf hq_60 rfl rfl) eG_98 (Or.inl (by decide))), hS, lv_sub hl [0, 1, 2] rfl⟩
  · have c_25 : x_20.toInt < y_1.toInt := xI_nle rfl rfl c_25
    refine lv_aload_n hx hb dX12_layStreet_62 rfl (lv_at hl 1 rfl) ?_
    refine S_getR (n := 97) (C := RX12) (T := TX12) (N := 89) hx hb hg iX12 hown hK hW kd_66 rfl 57 (lt_b rfl) (hg (Cond.fieldLink RX12 111 "SlabWalkModel" "lines" "[Z") m1371) (fun _ h9 => h9) rfl dX12_layStreet_63 ?_
    refine lv_iload hx hb dX12_layStreet_66 (lv_at hl 0 rfl) ?_
    refine lv_aload_n hx hb dX12_layStreet_68 rfl (lv_at hl 1 rfl) ?_
    refine lv_iload_n hx hb dX12_layStreet_69 rfl (lv_at hl 2 rfl) ?_
    refine lv_iload_n hx hb dX12_layStreet_70 rfl (lv_at hl 3 rfl) ?_
    refine lv_iload hx hb dX12_layStreet_71 (lv_at hl 0 rfl) ?_
    have fr_106 : Fr [76, 97] [(66, 59), (66, 60), (66, 61), (66, 62), (66, 63)] G G_16 := (Fr.call9 (rs := [76, 97]) (fs := [(66, 59), (66, 60), (66, 61), (66, 62), (66, 63)]) (Fr.put (rs := [76, 97]) (fs := [(66, 59), (66, 60), (66, 61), (66, 62), (66, 63)]) (Fr.put (rs := [76, 97]) (fs := [(66, 59), (66, 60), (66, 61), (66, 62), (66, 63)]) (Fr.put (rs := [76, 97]) (fs := [(66, 59), (66, 60), (66, 61), (66, 62), (66, 63)]) (Fr.put (rs := [76, 97]) (fs := [(66, 59), (66, 60), (66, 61), (66, 62), (66, 63)]) (Fr.put (rs := [76, 97]) (fs := [(66, 59), (66, 60), (66, 61), (66, 62), (66, 63)]) Fr.rf eG_3 (Or.inr (by decide))) eG_6 (Or.inr (by decide))) eG_9 (Or.inr (by decide))) eG_12 (Or.inr (by decide))) eG_15 (Or.inr (by decide))) hq_17 rfl rfl)
    have g_107 : gP G_16 = gP G := gP_fr fr_106 (gr_q rfl) (gf_q rfl)
    refine S_calli (va_runV (As := [.int p1, .int p2, .int x_20]) (rest := [.int x_20, .ref (a 97)]) ⟨hx, hb, hml, hown, hts⟩ (n_isLine l D k A a z G_16 p1 p2 x_20 ⟨(by first | (clear ha_p0 hP9 ty_4 u_5 ty_7 u_8 ty_10 u_11 ty_13 u_14 g_107; omega) | omega), (by first | (clear ha_p0 hP9 ty_4 u_5 ty_7 u_8 ty_10 u_11 ty_13 u_14 g_107; omega) | omega)⟩ ⟨(by first | (clear ha_p0 hP9 ty_4 u_5 ty_7 u_8 ty_10 u_11 ty_13 u_14 g_107; omega) | omega), (by first | (clear ha_p0 hP9 ty_4 u_5 ty_7 u_8 ty_10 u_11 ty_13 u_14 g_107; omega) | omega)⟩ ((by first | (clear ha_p0 ha_p1 ty_1 u_2 ty_4 u_5 ty_7 u_8 ty_10 u_11 ty_13 u_14 hn_24 f_23 c_25; omega) | omega))) (cwV 3 hts (gd_V hgd m1803 m1805 m86 m131 m1806) rfl rfl rfl hd_X12_isLine ⟨Nat.le_of_ble_eq_true rfl, Nat.le_of_ble_eq_true rfl⟩) (pre_V hW hB_G_16 hK hZ hS kd_66 rfl) rfl rfl hl.1 rfl (lv_room (Nat.le_of_ble_eq_true rfl)) dX12_layStreet_73 ⟨Nat.le_of_ble_eq_true rfl, Nat.le_of_ble_eq_true rfl⟩) hS (fun r_108 G_109 H locs hpo hW hS => ?_)
    have hX_112 : Q_isLine p1 p2 x_20 G_16 r_108 G_109 := hpo
    obtain ⟨hB_G_109, hq_110, f_113, -⟩ := hpo
    have hF := hF.call9 hq_110 rfl rfl
    refine S_zast hx hb hK hW hS kd_97 (vin ((by first | (clear ha_p0 hP9 ty_4 u_5 ty_7 u_8 ty_10 u_11 ty_13 u_14 g_107 f_113; omega) | omega)) ((by first | (clear ha_p0 hP9 ty_4 u_5 ty_7 u_8 ty_10 u_11 ty_13 u_14 g_107 f_113; omega) | omega))) dX12_layStreet_76 (fun G_114 H locs eG_114 hW hS => ?_)
    have hB_G_114 : Bd G_114 := hB_G_109.put (lo := 0) (hi := 1) eG_114 rfl rfl rfl nz_bool.1 nz_bool.2 (hB_G_109.2.put eG_114 rfl)
    have hF := hF.put eG_114 (Or.inl (by decide))
    obtain ⟨y_115, ey_115⟩ : ∃ q, q = x_20 + 1 := ⟨_, rfl⟩
    have ty_115 : y_115.toInt = x_20.toInt + 1 := xI_add rfl rfl ey_115 ((by first | (clear ha_p0 hP9 ty_4 u_5 ty_7 u_8 ty_10 u_11 ty_13 u_14 g_107 f_113; omega) | omega)) ((by first | (clear ha_p0 hP9 ty_4 u_5 ty_7 u_8 ty_10 u_11 ty_13 u_14 g_107 f_113; omega) | omega))
    refine lv_iinc (v := y_115) (lv' := [(4, .int y_115), (0, .ref (a 66)), (2, .int p1), (3, .int p2)]) hx hb dX12_layStreet_77 hl (k := 0) rfl (by rw [ey_115]; rfl) (lt_b rfl) rfl (fun ls hl => ?_)
    refine lv_goto (tgt := 53) hx hb dX12_layStreet_80 rfl ?_
    exact ih_18 (400 - y_115.toInt : Int).toNat ((by first | (clear ha_p0 hP9 ty_4 u_5 ty_7 u_8 ty_10 u_11 ty_13 u_14 g_107 f_113; omega) | omega)) _ _ _ ⟨G_114, y_115, (Int.toNat_of_nonneg ((by first | (clear ha_p0 hP9 ty_4 u_5 ty_7 u_8 ty_10 u_11 ty_13 u_14 g_107 f_113; omega) | omega))), ⟨(by first | (clear ha_p0 hP9 ty_4 u_5 ty_7 u_8 ty_10 u_11 ty_13 u_14 g_107 f_113; omega) | omega), (by first | (clear ha_p0 hP9 ty_4 u_5 ty_7 u_8 ty_10 u_11 ty_13 u_14 g_107 f_113; omega) | omega)⟩, (hX_21.st (St_n_layStreet_1_mk ⟨x_20, G_16, y_115, G_114, rfl, rfl, f_23, hB_G_16, ⟨c_25, ⟨r_108, G_109, hX_112, ⟨y_115, ty_115, ⟨rfl, (Fr.put (rs := [97]) (fs := []) Fr.rf eG_114 (Or.inl (by decide))), rw_ast eG_114⟩⟩⟩⟩⟩)), hW, hB_G_114, hF, (Fr.put (rs := [76, 97]) (fs := []) (Fr.call9 (rs := [76, 97]) (fs := []) (Fr.call9 (rs := [76, 97]) (fs := []) Fr.rf hq_17 rfl rfl) hq_110 rfl rfl) eG_114 (Or.inl (by decide))), hS, lv_sub hl [0, 1, 2, 3] rfl⟩

set_option maxHeartbeats 4000000 in
set_option maxRecDepth 100000 in
theorem n_line (l : Launch) (D : va_G) (k : KT) (A : Nat → Prop) (a : Nat → Nat) (z : SK) (G : GS) (p0 : Int32) (p1 : Int32) (p2 : Int32) (hP9 : gP G = 1) : Met l yX12_line (WS yX12_line cX12_line 4 (some .int)) ({ frames := 4, cells := 0, slots := 0, locals := 92 }) (va_Pc [.ref (a 66), .int p0, .int p1, .int p2] (cW D k A a z G)) (va_Qi (fun (r : Int32) (G1 : GS) => Q_line p0 p1 p2 G r G1) (fun (G1 : GS) t => Wd D k A a G1 t.heap) A) 0 0 A := by
  refine Met.ofW (cc := cX12_line) (maxL := 4) (ret := (some .int)) (by decide) rfl ?_
  intro p e s m args below meth c s₁ B hml hv
  obtain ⟨rfl, hW, hB_G, hK, hZ⟩ := hv
  have hx := B.exec
  have hb := B.bytes
  have hr := B.returns
  have hts := atoms_spec (ws := WS yX12_line cX12_line 4 (some .int)) B.pre
  have hgd : ∀ w ∈ gd, w ∈ WS yX12_line cX12_line 4 (some .int) := fun w h => List.mem_cons_of_mem _ h
  have hg : ∀ w ∈ gd, w.before _ s = true := fun w h => hts w (hgd w h)
  have hown : s.vm.findClass RX12 = some m.cls := findClass_of_methodNamed B.named
  have hS : va_S A s.heap s.heap [] := va_S.rf
  have hF : Fr [76] [] G G := Fr.rf
  have hl := lv_entry ([.ref (a 66), .int p0, .int p1, .int p2]) (n := 4) (Nat.le_of_ble_eq_true rfl)
  rw [lg_entry_eq]
  generalize (lg_sl ([.ref (a 66), .int p0, .int p1, .int p2]) ++ List.replicate (4 - (lg_sl ([.ref (a 66), .int p0, .int p1, .int p2])).length) Slot.unset).toArray = ls at hl ⊢
  have hl : lv_has ls 4 [(0, .ref (a 66)), (1, .int p0), (2, .int p1), (3, .int p2)] := hl
  refine lv_aload_n hx hb dX12_line_0 rfl (lv_at hl 0 rfl) ?_
  refine lv_iload_n hx hb dX12_line_1 rfl (lv_at hl 1 rfl) ?_
  refine S_calli (va_runV (As := [.int p0]) (rest := []) ⟨hx, hb, hml, hown, hts⟩ (n_isStreet l D k A a z G p0 ) (cwV 1 hts (gd_V hgd m1777 m1779 m83 m131 m1780) rfl rfl rfl hd_X12_isStreet ⟨Nat.le_of_ble_eq_true rfl, Nat.le_of_ble_eq_true rfl⟩) (pre_V hW hB_G hK hZ hS kd_66 rfl) rfl rfl hl.1 rfl (lv_room (Nat.le_of_ble_eq_true rfl)) dX12_line_2 ⟨Nat.le_of_ble_eq_true rfl, Nat.le_of_ble_eq_true rfl⟩) hS (fun r_1 G_2 H locs hpo hW hS => ?_)
  have hX_5 : Q_isStreet p0 G r_1 G_2 := hpo
  obtain ⟨hB_G_2, hq_3, f_6, hp_4, -⟩ := hpo
  have hF := hF.call9 hq_3 rfl rfl
  refine lv_if_eq (tgt := 38) hx hb dX12_line_5 rfl (fun c_7 => ?_) (fun c_7 => ?_)
  · have c_7 : r_1.toInt = 0 := xI_eq rfl rfl c_7
    refine ic_m1 hx hb dX12_line_38 ?_
    exact W.iret (v := (-1)) hx hb hr (fun t ht _ => ⟨⟨(-1), G_2, rfl, (Q_line_mk ⟨hB_G_2, hF, ⟨r_1, G_2, hX_5, (Or.inl ⟨c_7, ⟨rfl, rfl⟩⟩)⟩⟩), wd_t ht hW⟩, hS.F ht⟩) hS.2.2 dX12_line_39
  · have c_7 : r_1.toInt ≠ 0 := xI_ne rfl rfl c_7
    refine lv_aload_n hx hb dX12_line_8 rfl (lv_at hl 0 rfl) ?_
    refine lv_iload_n hx hb dX12_line_9 rfl (lv_at hl 2 rfl) ?_
    refine S_calli (va_runV (As := [.int p1]) (rest := []) ⟨hx, hb, hml, hown, hts⟩ (n_areRules l D k A a z G_2 p1 ) (cwV 1 hts (gd_V hgd m1799 m1801 m85 m131 m1802) rfl rfl rfl hd_X12_areRules ⟨Nat.le_of_ble_eq_true rfl, Nat.le_of_ble_eq_true rfl⟩) (pre_V hW hB_G_2 hK hZ hS kd_66 rfl) rfl rfl hl.1 rfl (lv_room (Nat.le_of_ble_eq_true rfl)) dX12_line_10 ⟨Nat.le_of_ble_eq_true rfl, Nat.le_of_ble_eq_true rfl⟩) hS (fun r_8 G_9 H locs hpo hW hS => ?_)
    have hX_12 : Q_areRules p1 G_2 r_8 G_9 := hpo
    obtain ⟨hB_G_9, hq_10, f_13, hp_11, -⟩ := hpo
    have hF := hF.call9 hq_10 rfl rfl
    refine lv_if_eq (tgt := 38) hx hb dX12_line_13 rfl (fun c_14 => ?_) (fun c_14 => ?_)
    · have c_14 : r_8.toInt = 0 := xI_eq rfl rfl c_14
      refine ic_m1 hx hb dX12_line_38 ?_
      exact W.iret (v := (-1)) hx hb hr (fun t ht _ => ⟨⟨(-1), G_9, rfl, (Q_line_mk ⟨hB_G_9, hF, ⟨r_1, G_2, hX_5, (Or.inr ⟨c_7, ⟨r_8, G_9, hX_12, (Or.inl ⟨c_14, ⟨rfl, rfl⟩⟩)⟩⟩)⟩⟩), wd_t ht hW⟩, hS.F ht⟩) hS.2.2 dX12_line_39
    · have c_14 : r_8.toInt ≠ 0 := xI_ne rfl rfl c_14
      refine lv_aload_n hx hb dX12_line_16 rfl (lv_at hl 0 rfl) ?_
      refine lv_iload_n hx hb dX12_line_17 rfl (lv_at hl 1 rfl) ?_
      refine lv_iload_n hx hb dX12_line_18 rfl (lv_at hl 3 rfl) ?_
      refine S_calli (va_runV (As := [.int p0, .int p2]) (rest := []) ⟨hx, hb, hml, hown, hts⟩ (n_isInch l D k A a z G_9 p0 p2 ⟨(by first | (clear hP9 f_13 hp_11 c_14; omega) | omega), (by first | (clear hP9 f_13 hp_11 c_14; omega) | omega)⟩) (cwV 2 hts (gd_V hgd m1784 m1786 m84 m131 m1787) rfl rfl rfl hd_X12_isInch ⟨Nat.le_of_ble_eq_true rfl, Nat.le_of_ble_eq_true rfl⟩) (pre_V hW hB_G_9 hK hZ hS kd_66 rfl) rfl rfl hl.1 rfl (lv_room (Nat.le_of_ble_eq_true rfl)) dX12_line_19 ⟨Nat.le_of_ble_eq_true rfl, Nat.le_of_ble_eq_true rfl⟩) hS (fun r_15 G_16 H locs hpo hW hS => ?_)
      have hX_19 : Q_isInch p0 p2 G_9 r_15 G_16 := hpo
      obtain ⟨hB_G_16, hq_17, f_20, hp_18, -⟩ := hpo
      have hF := hF.call9 hq_17 rfl rfl
      refine lv_if_eq (tgt := 38) hx hb dX12_line_22 rfl (fun c_21 => ?_) (fun c_21 => ?_)
      · have c_21 : r_15.toInt = 0 := xI_eq rfl rfl c_21
        refine ic_m1 hx hb dX12_line_38 ?_
        exact W.iret (v := (-1)) hx hb hr (fun t ht _ => ⟨⟨(-1), G_16, rfl, (Q_line_mk ⟨hB_G_16, hF, ⟨r_1, G_2, hX_5, (Or.inr ⟨c_7, ⟨r_8, G_9, hX_12, (Or.inr ⟨c_14, ⟨r_15, G_16, hX_19, (Or.inl ⟨c_21, ⟨rfl, rfl⟩⟩)⟩⟩)⟩⟩)⟩⟩), wd_t ht hW⟩, hS.F ht⟩) hS.2.2 dX12_line_39
      · have c_21 : r_15.toInt ≠ 0 := xI_ne rfl rfl c_21
        refine lv_aload_n hx hb dX12_line_25 rfl (lv_at hl 0 rfl) ?_
        refine lv_iload_n hx hb dX12_line_26 rfl (lv_at hl 1 rfl) ?_
        refine lv_iload_n hx hb dX12_line_27 rfl (lv_at hl 2 rfl) ?_
        refine lv_iload_n hx hb dX12_line_28 rfl (lv_at hl 3 rfl) ?_
        have fr_22 : Fr [] [] G G_16 := (Fr.call9 (rs := []) (fs := []) (Fr.call9 (rs := []) (fs := []) (Fr.call9 (rs := []) (fs := []) Fr.rf hq_3 rfl rfl) hq_10 rfl rfl) hq_17 rfl rfl)
        have g_23 : gP G_16 = gP G := gP_fr fr_22 (gr_q rfl) (gf_q rfl)
        refine S_calli (va_runV (As := [.int p0, .int p1, .int p2]) (rest := []) ⟨hx, hb, hml, hown, hts⟩ (n_isLine l D k A a z G_16 p0 p1 p2 ⟨(by first | (clear hP9 f_13 hp_11 c_14 f_20 hp_18 c_21 g_23; omega) | omega), (by first | (clear hP9 f_13 hp_11 c_14 f_20 hp_18 c_21 g_23; omega) | omega)⟩ ⟨(by first | (clear hP9 f_6 hp_4 c_7 f_13 hp_11 c_14 g_23; omega) | omega), (by first | (clear hP9 f_6 hp_4 c_7 f_13 hp_11 c_14 g_23; omega) | omega)⟩ ((by first | (clear f_6 hp_4 c_7 f_13 hp_11 c_14 f_20 hp_18 c_21; omega) | omega))) (cwV 3 hts (gd_V hgd m1803 m1805 m86 m131 m1806) rfl rfl rfl hd_X12_isLine ⟨Nat.le_of_ble_eq_true rfl, Nat.le_of_ble_eq_true rfl⟩) (pre_V hW hB_G_16 hK hZ hS kd_66 rfl) rfl rfl hl.1 rfl (lv_room (Nat.le_of_ble_eq_true rfl)) dX12_line_29 ⟨Nat.le_of_ble_eq_true rfl, Nat.le_of_ble_eq_true rfl⟩) hS (fun r_24 G_25 H locs hpo hW hS => ?_)
        have hX_28 : Q_isLine p0 p1 p2 G_16 r_24 G_25 := hpo
        obtain ⟨hB_G_25, hq_26, f_29, -⟩ := hpo
        have hF := hF.call9 hq_26 rfl rfl
        refine S_calli (va_runS (As := [.int r_24]) (rest := []) ⟨hx, hb, hml, hown, hts⟩ (n_truth l D k A a z G_25 r_24 ⟨(by first | (clear hP9 f_6 hp_4 c_7 f_13 hp_11 c_14 f_20 hp_18 c_21 g_23; omega) | omega), (by first | (clear hP9 f_6 hp_4 c_7 f_13 hp_11 c_14 f_20 hp_18 c_21 g_23; omega) | omega)⟩) (va_cwS 1 hts (gd_S hgd m1788 m1789 m131 m1790) rfl rfl rfl hd_X12_truth.2 ⟨Nat.le_of_ble_eq_true rfl, Nat.le_of_ble_eq_true rfl⟩) (pre_S hW hB_G_25 hK hZ hS) rfl rfl hl.1 rfl (lv_room (Nat.le_of_ble_eq_true rfl)) dX12_line_32 ⟨Nat.le_of_ble_eq_true rfl, Nat.le_of_ble_eq_true rfl⟩) hS (fun r_30 G_31 H locs hpo hW hS => ?_)
        have hX_34 : Q_truth r_24 G_25 r_30 G_31 := hpo
        obtain ⟨hB_G_31, hq_32, f_35, hp_33, -⟩ := hpo
        have hF := hF.call9 hq_32 rfl rfl
        refine lv_goto (tgt := 39) hx hb dX12_line_35 rfl ?_
        exact W.iret (v := r_30) hx hb hr (fun t ht _ => ⟨⟨r_30, G_31, rfl, (Q_line_mk ⟨hB_G_31, hF, ⟨r_1, G_2, hX_5, (Or.inr ⟨c_7, ⟨r_8, G_9, hX_12, (Or.inr ⟨c_14, ⟨r_15, G_16, hX_19, (Or.inr ⟨c_21, ⟨r_24, G_25, hX_28, ⟨r_30, G_31, hX_34, ⟨rfl, rfl⟩⟩⟩⟩)⟩⟩)⟩⟩)⟩⟩), wd_t ht hW⟩, hS.F ht⟩) hS.2.2 dX12_line_39

set_option maxHeartbeats 4000000 in
set_option maxRecDepth 100000 in
theorem n_gap (l : Launch) (D : va_G) (k : KT) (A : Nat → Prop) (a : Nat → Nat) (z : SK) (G : GS) (p0 : Int32) (p1 : Int32) (p2 : Int32) (hP9 : gP G = 1) : Met l yX12_gap (WS yX12_gap cX12_gap 10 (some .int)) ({ frames := 4, cells := 0, slots := 0, locals := 92 }) (va_Pc [.ref (a 66), .int p0, .int p1, .int p2] (cW D k A a z G)) (va_Qi (fun (r : Int32) (G1 : GS) => Q_gap p0 p1 p2 G r G1) (fun (G1 : GS) t => Wd D k A a G1 t.heap) A) 0 0 A := by
  refine Met.ofW (cc := cX12_gap) (maxL := 10) (ret := (some .int)) (by decide) rfl ?_
  intro p e s m args below meth c s₁ B hml hv
  obtain ⟨rfl, hW, hB_G, hK, hZ⟩ := hv
  have hx := B.exec
  have hb := B.bytes
  have hr := B.returns
  have hts := atoms_spec (ws := WS yX12_gap cX12_gap 10 (some .int)) B.pre
  have hgd : ∀ w ∈ gd, w ∈ WS yX12_gap cX12_gap 10 (some .int) := fun w h => List.mem_cons_of_mem _ h
  have hg : ∀ w ∈ gd, w.before _ s = true := fun w h => hts w (hgd w h)
  have hown : s.vm.findClass RX12 = some m.cls := findClass_of_methodNamed B.named
  have hS : va_S A s.heap s.heap [] := va_S.rf
  have hF : Fr [76] [] G G := Fr.rf
  have hl := lv_entry ([.ref (a 66), .int p0, .int p1, .int p2]) (n := 10) (Nat.le_of_ble_eq_true rfl)
  rw [lg_entry_eq]
  generalize (lg_sl ([.ref (a 66), .int p0, .int p1, .int p2]) ++ List.replicate (10 - (lg_sl ([.ref (a 66), .int p0, .int p1, .int p2])).length) Slot.unset).toArray = ls at hl ⊢
  have hl : lv_has ls 10 [(0, .ref (a 66)), (1, .int p0), (2, .int p1), (3, .int p2)] := hl
  refine lv_aload_n hx hb dX12_gap_0 rfl (lv_at hl 0 rfl) ?_
  refine lv_iload_n hx hb dX12_gap_1 rfl (lv_at hl 1 rfl) ?_
  refine S_calli (va_runV (As := [.int p0]) (rest := []) ⟨hx, hb, hml, hown, hts⟩ (n_isStreet l D k A a z G p0 ) (cwV 1 hts (gd_V hgd m1777 m1779 m83 m131 m1780) rfl rfl rfl hd_X12_isStreet ⟨Nat.le_of_ble_eq_true rfl, Nat.le_of_ble_eq_true rfl⟩) (pre_V hW hB_G hK hZ hS kd_66 rfl) rfl rfl hl.1 rfl (lv_room (Nat.le_of_ble_eq_true rfl)) dX12_gap_2 ⟨Nat.le_of_ble_eq_true rfl, Nat.le_of_ble_eq_true rfl⟩) hS (fun r_1 G_2 H locs hpo hW hS => ?_)
  have hX_5 : Q_isStreet p0 G r_1 G_2 := hpo
  obtain ⟨hB_G_2, hq_3, f_6, hp_4, -⟩ := hpo
  have hF := hF.call9 hq_3 rfl rfl
  refine lv_if_eq (tgt := 25) hx hb dX12_gap_5 rfl (fun c_7 => ?_) (fun c_7 => ?_)
  · have c_7 : r_1.toInt = 0 := xI_eq rfl rfl c_7
    refine ic_m1 hx hb dX12_gap_25 ?_
    exact W.iret (v := (-1)) hx hb hr (fun t ht _ => ⟨⟨(-1), G_2, rfl, (Q_gap_mk ⟨hB_G_2, hF, ⟨r_1, G_2, hX_5, (Or.inl ⟨c_7, ⟨rfl, rfl⟩⟩)⟩⟩), wd_t ht hW⟩, hS.F ht⟩) hS.2.2 dX12_gap_26
  · have c_7 : r_1.toInt ≠ 0 := xI_ne rfl rfl c_7
    refine lv_aload_n hx hb dX12_gap_8 rfl (lv_at hl 0 rfl) ?_
    refine lv_iload_n hx hb dX12_gap_9 rfl (lv_at hl 2 rfl) ?_
    refine S_calli (va_runV (As := [.int p1]) (rest := []) ⟨hx, hb, hml, hown, hts⟩ (n_areRules l D k A a z G_2 p1 ) (cwV 1 hts (gd_V hgd m1799 m1801 m85 m131 m1802) rfl rfl rfl hd_X12_areRules ⟨Nat.le_of_ble_eq_true rfl, Nat.le_of_ble_eq_true rfl⟩) (pre_V hW hB_G_2 hK hZ hS kd_66 rfl) rfl rfl hl.1 rfl (lv_room (Nat.le_of_ble_eq_true rfl)) dX12_gap_10 ⟨Nat.le_of_ble_eq_true rfl, Nat.le_of_ble_eq_true rfl⟩) hS (fun r_8 G_9 H locs hpo hW hS => ?_)
    have hX_12 : Q_areRules p1 G_2 r_8 G_9 := hpo
    obtain ⟨hB_G_9, hq_10, f_13, hp_11, -⟩ := hpo
    have hF := hF.call9 hq_10 rfl rfl
    refine lv_if_eq (tgt := 25) hx hb dX12_gap_13 rfl (fun c_14 => ?_) (fun c_14 => ?_)
    · have c_14 : r_8.toInt = 0 := xI_eq rfl rfl c_14
      refine ic_m1 hx hb dX12_gap_25 ?_
      exact W.iret (v := (-1)) hx hb hr (fun t ht _ => ⟨⟨(-1), G_9, rfl, (Q_gap_mk ⟨hB_G_9, hF, ⟨r_1, G_2, hX_5, (Or.inr ⟨c_7, ⟨r_8, G_9, hX_12, (Or.inl ⟨c_14, ⟨rfl, rfl⟩⟩)⟩⟩)⟩⟩), wd_t ht hW⟩, hS.F ht⟩) hS.2.2 dX12_gap_26
    · have c_14 : r_8.toInt ≠ 0 := xI_ne rfl rfl c_14
      refine lv_iload_n hx hb dX12_gap_16 rfl (lv_at hl 3 rfl) ?_
      refine ic_0 hx hb dX12_gap_17 ?_
      refine ic_2 hx hb dX12_gap_18 ?_
      have qc_15 : (0 : Int32).toInt = 0 := rfl
      have qc_16 : (2 : Int32).toInt = 2 := rfl
      refine S_calli (va_runS (As := [.int p2, .int 0, .int 2]) (rest := []) ⟨hx, hb, hml, hown, hts⟩ (n_isIn l D k A a z G_9 p2 0 2 ) (va_cwS 3 hts (gd_S hgd m1781 m1782 m131 m1783) rfl rfl rfl hd_X12_isIn.2 ⟨Nat.le_of_ble_eq_true rfl, Nat.le_of_ble_eq_true rfl⟩) (pre_S hW hB_G_9 hK hZ hS) rfl rfl hl.1 rfl (lv_room (Nat.le_of_ble_eq_true rfl)) dX12_gap_19 ⟨Nat.le_of_ble_eq_true rfl, Nat.le_of_ble_eq_true rfl⟩) hS (fun r_17 G_18 H locs hpo hW hS => ?_)
      have hX_21 : Q_isIn p2 0 2 G_9 r_17 G_18 := hpo
      obtain ⟨hB_G_18, hq_19, f_22, hp_20, -⟩ := hpo
      have hF := hF.call9 hq_19 rfl rfl
      refine lv_if_ne (tgt := 27) hx hb dX12_gap_22 rfl (fun c_23 => ?_) (fun c_23 => ?_)
      · have c_23 : r_17.toInt ≠ 0 := xI_ne rfl rfl c_23
        refine ic_0 hx hb dX12_gap_27 ?_
        refine lv_istore (lv' := [(4, .int 0), (0, .ref (a 66)), (1, .int p0), (2, .int p1), (3, .int p2)]) hx hb dX12_gap_28 hl (lt_b rfl) rfl (fun ls hl => ?_)
        refine ic_m1 hx hb dX12_gap_30 ?_
        refine lv_istore (lv' := [(5, .int (-1)), (4, .int 0), (0, .ref (a 66)), (1, .int p0), (2, .int p1), (3, .int p2)]) hx hb dX12_gap_31 hl (lt_b rfl) rfl (fun ls hl => ?_)
        refine ic_0 hx hb dX12_gap_33 ?_
        refine lv_istore (lv' := [(6, .int 0), (5, .int (-1)), (4, .int 0), (0, .ref (a 66)), (1, .int p0), (2, .int p1), (3, .int p2)]) hx hb dX12_gap_34 hl (lt_b rfl) rfl (fun ls hl => ?_)
        refine ic_0 hx hb dX12_gap_36 ?_
        refine lv_istore (lv' := [(7, .int 0), (6, .int 0), (5, .int (-1)), (4, .int 0), (0, .ref (a 66)), (1, .int p0), (2, .int p1), (3, .int p2)]) hx hb dX12_gap_37 hl (lt_b rfl) rfl (fun ls hl => ?_)
        refine ic_0 hx hb dX12_gap_39 ?_
        refine lv_istore (lv' := [(8, .int 0), (7, .int 0), (6, .int 0), (5, .int (-1)), (4, .int 0), (0, .ref (a 66)), (1, .int p0), (2, .int p1), (3, .int p2)]) hx hb dX12_gap_40 hl (lt_b rfl) rfl (fun ls hl => ?_)
        have qc_34 : ((-1) : Int32).toInt = (-1) := rfl
        have qc_35 : (0 : Int32).toInt = 0 := rfl
        refine loop_N (Inv := fun n H locs ls => ∃ (G_24 : GS) (x_28 : Int32) (x_29 : Int32) (x_30 : Int32) (x_31 : Int32) (x_32 : Int32), (n : Int) = 400 - x_28.toInt ∧ (0 ≤ x_28.toInt ∧ x_28.toInt ≤ 400) ∧ (x_31.toInt ≤ 400) ∧ (0 ≤ x_32.toInt) ∧ Rc (St_n_gap_1 p0 p1) (0, 0, 0, (-1), 0, G_18) (x_28, x_29, x_30, x_31, x_32, G_24) ∧ Wd D k A a G_24 H ∧ Bd G_24 ∧ Fr [76] [] G G_24 ∧ Fr [76] [] G_18 G_24 ∧ va_S A s.heap H locs ∧ lv_has ls 10 [(8, .int x_28), (7, .int x_29), (6, .int x_30), (5, .int x_31), (4, .int x_32), (0, .ref (a 66)), (1, .int p0), (2, .int p1), (3, .int p2)]) (fun n_27 H locs ls ih_26 hI => ?_) (400 - 0 : Int).toNat ⟨G_18, 0, 0, 0, (-1), 0, (Int.toNat_of_nonneg ((by first | (clear hP9 f_6 hp_4 c_7 f_13 hp_11 c_14 f_22 hp_20 c_23; omega) | omega))), ⟨(by first | (clear hP9 f_6 hp_4 c_7 f_13 hp_11 c_14 f_22 hp_20 c_23; omega) | omega), (by first | (clear hP9 f_6 hp_4 c_7 f_13 hp_11 c_14 f_22 hp_20 c_23; omega) | omega)⟩, ((by first | (clear hP9 f_6 hp_4 c_7 f_13 hp_11 c_14 f_22 hp_20 c_23; omega) | omega)), ((by first | (clear hP9 f_6 hp_4 c_7 f_13 hp_11 c_14 f_22 hp_20 c_23; omega) | omega)), Rc.rf, hW, hB_G_18, hF, Fr.rf, hS, lv_sub hl [0, 1, 2, 3, 4, 5, 6, 7, 8] rfl⟩
        obtain ⟨G_24, x_28, x_29, x_30, x_31, x_32, hn_39, f_36, f_37, f_38, hX_33, hW, hB_G_24, hF, hq_25, hS, hl⟩ := hI
        refine lv_iload hx hb dX12_gap_42 (lv_at hl 0 rfl) ?_
        refine lv_aload_n hx hb dX12_gap_44 rfl (lv_at hl 5 rfl) ?_
        refine S_getR (n := 91) (C := RX12) (T := TX12) (N := 89) hx hb hg iX12 hown hK hW kd_66 rfl 39 (lt_b rfl) (hg (Cond.fieldLink RX12 87 "SlabWalkModel" "lengths" "[I") m1353) (fun _ h9 => h9) rfl dX12_gap_45 ?_
        refine lv_iload_n hx hb dX12_gap_48 rfl (lv_at hl 6 rfl) ?_
        refine S_iald hx hb hK hW kd_91 (vin ((by first | (clear hP9 f_13 hp_11 c_14 f_22 hp_20 c_23 hn_39 f_36 f_37 f_38; omega) | omega)) ((by first | (clear hP9 f_13 hp_11 c_14 f_22 hp_20 c_23 hn_39 f_36 f_37 f_38; omega) | omega))) dX12_gap_49 (fun y_40 ey_40 => ?_)
        have ty_40 : 0 ≤ y_40.toInt ∧ y_40.toInt ≤ 400 := bv_91 hB_G_24 ey_40
        refine lv_icmp_ge (tgt := 117) hx hb dX12_gap_50 rfl (fun c_41 => ?_) (fun c_41 => ?_)
        · have c_41 : y_40.toInt ≤ x_28.toInt := xI_le rfl rfl c_41
          refine lv_iload_n hx hb dX12_gap_117 rfl (lv_at hl 8 rfl) ?_
          refine lv_if_ne (tgt := 126) hx hb dX12_gap_118 rfl (fun c_42 => ?_) (fun c_42 => ?_)
          · have c_42 : p2.toInt ≠ 0 := xI_ne rfl rfl c_42
            refine lv_iload_n hx hb dX12_gap_126 rfl (lv_at hl 8 rfl) ?_
            refine ic_1 hx hb dX12_gap_127 ?_
            refine lv_icmp_ne (tgt := 136) hx hb dX12_gap_128 rfl (fun c_43 => ?_) (fun c_43 => ?_)
            · have c_43 : p2.toInt ≠ 1 := xI_ne rfl rfl c_43
              refine lv_iload hx hb dX12_gap_136 (lv_at hl 1 rfl) ?_
              exact W.iret (v := x_29) hx hb hr (fun t ht _ => ⟨⟨x_29, G_24, rfl, (Q_gap_mk ⟨hB_G_24, hF, ⟨r_1, G_2, hX_5, (Or.inr ⟨c_7, ⟨r_8, G_9, hX_12, (Or.inr ⟨c_14, ⟨r_17, G_18, hX_21, (Or.inr ⟨c_23, ⟨x_28, x_29, x_30, x_31, x_32, G_24, hX_33, f_36, f_37, f_38, hB_G_24, hq_25, ⟨y_40, ey_40, ⟨c_41, (Or.inr ⟨c_42, (Or.inr ⟨c_43, ⟨rfl, rfl⟩⟩)⟩)⟩⟩⟩⟩)⟩⟩)⟩⟩)⟩⟩), wd_t ht hW⟩, hS.F ht⟩) hS.2.2 dX12_gap_138
            · have c_43 : p2.toInt = 1 := xI_eq rfl rfl c_43
              refine lv_iload hx hb dX12_gap_131 (lv_at hl 3 rfl) ?_
              refine lv_goto (tgt := 138) hx hb dX12_gap_133 rfl ?_
              exact W.iret (v := x_31) hx hb hr (fun t ht _ => ⟨⟨x_31, G_24, rfl, (Q_gap_mk ⟨hB_G_24, hF, ⟨r_1, G_2, hX_5, (Or.inr ⟨c_7, ⟨r_8, G_9, hX_12, (Or.inr ⟨c_14, ⟨r_17, G_18, hX_21, (Or.inr ⟨c_23, ⟨x_28, x_29, x_30, x_31, x_32, G_24, hX_33, f_36, f_37, f_38, hB_G_24, hq_25, ⟨y_40, ey_40, ⟨c_41, (Or.inr ⟨c_42, (Or.inl ⟨c_43, ⟨rfl, rfl⟩⟩)⟩)⟩⟩⟩⟩)⟩⟩)⟩⟩)⟩⟩), wd_t ht hW⟩, hS.F ht⟩) hS.2.2 dX12_gap_138
          · have c_42 : p2.toInt = 0 := xI_eq rfl rfl c_42
            refine lv_iload hx hb dX12_gap_121 (lv_at hl 4 rfl) ?_
            refine lv_goto (tgt := 138) hx hb dX12_gap_123 rfl ?_
            exact W.iret (v := x_32) hx hb hr (fun t ht _ => ⟨⟨x_32, G_24, rfl, (Q_gap_mk ⟨hB_G_24, hF, ⟨r_1, G_2, hX_5, (Or.inr ⟨c_7, ⟨r_8, G_9, hX_12, (Or.inr ⟨c_14, ⟨r_17, G_18, hX_21, (Or.inr ⟨c_23, ⟨x_28, x_29, x_30, x_31, x_32, G_24, hX_33, f_36, f_37, f_38, hB_G_24, hq_25, ⟨y_40, ey_40, ⟨c_41, (Or.inl ⟨c_42, ⟨rfl, rfl⟩⟩)⟩⟩⟩⟩)⟩⟩)⟩⟩)⟩⟩), wd_t ht hW⟩, hS.F ht⟩) hS.2.2 dX12_gap_138
        · have c_41 : x_28.toInt < y_40.toInt := xI_nle rfl rfl c_41
          refine lv_aload_n hx hb dX12_gap_53 rfl (lv_at hl 5 rfl) ?_
          refine lv_iload_n hx hb dX12_gap_54 rfl (lv_at hl 6 rfl) ?_
          refine lv_iload_n hx hb dX12_gap_55 rfl (lv_at hl 7 rfl) ?_
          refine lv_iload hx hb dX12_gap_56 (lv_at hl 0 rfl) ?_
          have fr_44 : Fr [76] [] G G_24 := (Fr.call9 (rs := [76]) (fs := []) (Fr.call9 (rs := [76]) (fs := []) (Fr.call9 (rs := [76]) (fs := []) (Fr.call9 (rs := [76]) (fs := []) Fr.rf hq_3 rfl rfl) hq_10 rfl rfl) hq_19 rfl rfl) hq_25 rfl rfl)
          have g_45 : gP G_24 = gP G := gP_fr fr_44 (gr_q rfl) (gf_q rfl)
          refine S_calli (va_runV (As := [.int p0, .int p1, .int x_28]) (rest := []) ⟨hx, hb, hml, hown, hts⟩ (n_isLine l D k A a z G_24 p0 p1 x_28 ⟨(by first | (clear hP9 f_13 hp_11 c_14 f_22 hp_20 c_23 hn_39 f_36 f_37 f_38 ty_40 c_41 g_45; omega) | omega), (by first | (clear hP9 f_13 hp_11 c_14 f_22 hp_20 c_23 hn_39 f_36 f_37 f_38 ty_40 c_41 g_45; omega) | omega)⟩ ⟨(by first | (clear hP9 f_6 hp_4 c_7 f_13 hp_11 c_14 f_22 hp_20 c_23 f_37 f_38 g_45; omega) | omega), (by first | (clear hP9 f_6 hp_4 c_7 f_13 hp_11 c_14 f_22 hp_20 c_23 f_37 f_38 g_45; omega) | omega)⟩ ((by first | (clear f_6 hp_4 c_7 f_13 hp_11 c_14 f_22 hp_20 c_23 hn_39 f_36 f_37 f_38 ty_40 c_41; omega) | omega))) (cwV 3 hts (gd_V hgd m1803 m1805 m86 m131 m1806) rfl rfl rfl hd_X12_isLine ⟨Nat.le_of_ble_eq_true rfl, Nat.le_of_ble_eq_true rfl⟩) (pre_V hW hB_G_24 hK hZ hS kd_66 rfl) rfl rfl hl.1 rfl (lv_room (Nat.le_of_ble_eq_true rfl)) dX12_gap_58 ⟨Nat.le_of_ble_eq_true rfl, Nat.le_of_ble_eq_true rfl⟩) hS (fun r_46 G_47 H locs hpo hW hS => ?_)
          have hX_50 : Q_isLine p0 p1 x_28 G_24 r_46 G_47 := hpo
          obtain ⟨hB_G_47, hq_48, f_51, -⟩ := hpo
          have hF := hF.call9 hq_48 rfl rfl
          refine lv_istore (lv' := [(9, .int r_46), (8, .int x_28), (7, .int x_29), (6, .int x_30), (5, .int x_31), (4, .int x_32), (0, .ref (a 66)), (1, .int p0), (2, .int p1), (3, .int p2)]) hx hb dX12_gap_61 hl (lt_b rfl) rfl (fun ls hl => ?_)
          refine lv_iload hx hb dX12_gap_63 (lv_at hl 2 rfl) ?_
          refine lv_iload hx hb dX12_gap_65 (lv_at hl 0 rfl) ?_
          refine S_calli (va_runS (As := [.int r_46]) (rest := [.int x_29]) ⟨hx, hb, hml, hown, hts⟩ (n_truth l D k A a z G_47 r_46 ⟨(by first | (clear hP9 f_6 hp_4 c_7 f_13 hp_11 c_14 f_22 hp_20 c_23 hn_39 f_36 f_37 f_38 ty_40 c_41 g_45; omega) | omega), (by first | (clear hP9 f_6 hp_4 c_7 f_13 hp_11 c_14 f_22 hp_20 c_23 hn_39 f_36 f_37 f_38 ty_40 c_41 g_45; omega) | omega)⟩) (va_cwS 1 hts (gd_S hgd m1788 m1789 m131 m1790) rfl rfl rfl hd_X12_truth.2 ⟨Nat.le_of_ble_eq_true rfl, Nat.le_of_ble_eq_true rfl⟩) (pre_S hW hB_G_47 hK hZ hS) rfl rfl hl.1 rfl (lv_room (Nat.le_of_ble_eq_true rfl)) dX12_gap_67 ⟨Nat.le_of_ble_eq_true rfl, Nat.le_of_ble_eq_true rfl⟩) hS (fun r_52 G_53 H locs hpo hW hS => ?_)
          have hX_56 : Q_truth r_46 G_47 r_52 G_53 := hpo
          obtain ⟨hB_G_53, hq_54, f_57, hp_55, -⟩ := hpo
          have hF := hF.call9 hq_54 rfl rfl
          refine lv_iadd hx hb dX12_gap_70 ?_
          refine lv_topi (fun y_58 ey_58 => ?_)
          refine lv_istore (lv' := [(7, .int y_58), (9, .int r_46), (8, .int x_28), (6, .int x_30), (5, .int x_31), (4, .int x_32), (0, .ref (a 66)), (1, .int p0), (2, .int p1), (3, .int p2)]) hx hb dX12_gap_71 hl (lt_b rfl) rfl (fun ls hl => ?_)
          refine lv_iload hx hb dX12_gap_73 (lv_at hl 1 rfl) ?_
          refine W.cut (σ := Int32) (pcJ := 86) (J := fun y H locs ls => ∃ (G_68 : GS) (x_59 : Int32), Jn_n_gap_2 r_46 x_30 y_58 G_53 x_59 y G_68 ∧ Wd D k A a G_68 H ∧ Bd G_68 ∧ Fr [76] [] G G_68 ∧ Fr [] [] G_53 G_68 ∧ va_S A s.heap H locs ∧ lv_has ls 10 [(7, .int x_59), (8, .int x_28), (5, .int x_31), (4, .int x_32), (0, .ref (a 66)), (1, .int p0), (2, .int p1), (3, .int p2)]) (stJ := fun y => [.int y]) ?_ (fun hJ_69 => ?_)
          · intro y H locs ls hI
            obtain ⟨w_67, hy⟩ : ∃ q, q = y := ⟨_, rfl⟩
            subst hy
            obtain ⟨G_68, x_59, hX_71, hW, hB_G_68, hF, hq_70, hS, hl⟩ := hI
            refine lv_istore (lv' := [(6, .int w_67), (7, .int x_59), (8, .int x_28), (5, .int x_31), (4, .int x_32), (0, .ref (a 66)), (1, .int p0), (2, .int p1), (3, .int p2)]) hx hb dX12_gap_86 hl (lt_b rfl) rfl (fun ls hl => ?_)
            refine lv_iload hx hb dX12_gap_88 (lv_at hl 0 rfl) ?_
            refine lv_iload hx hb dX12_gap_90 (lv_at hl 4 rfl) ?_
            refine lv_icmp_gt (tgt := 98) hx hb dX12_gap_92 rfl (fun c_72 => ?_) (fun c_72 => ?_)
            · have c_72 : x_32.toInt < w_67.toInt := xI_lt rfl rfl c_72
              refine lv_iload hx hb dX12_gap_98 (lv_at hl 0 rfl) ?_
              refine lv_istore (lv' := [(4, .int w_67), (6, .int w_67), (7, .int x_59), (8, .int x_28), (5, .int x_31), (0, .ref (a 66)), (1, .int p0), (2, .int p1), (3, .int p2)]) hx hb dX12_gap_100 hl (lt_b rfl) rfl (fun ls hl => ?_)
              refine lv_iload hx hb dX12_gap_102 (lv_at hl 3 rfl) ?_
              refine lv_iload hx hb dX12_gap_104 (lv_at hl 1 rfl) ?_
              refine lv_isub hx hb dX12_gap_106 ?_
              refine lv_topi (fun y_73 ey_73 => ?_)
              have e_74 := tI_rng w_67
              have ty_73 : y_73.toInt = x_28.toInt - w_67.toInt := xI_sub rfl rfl ey_73 ((by first | (clear hP9 f_6 hp_4 c_7 f_13 hp_11 c_14 f_22 hp_20 c_23 f_37 g_45 f_51 f_57 hp_55; omega) | omega)) ((by first | (clear hP9 f_6 hp_4 c_7 f_13 hp_11 c_14 f_22 hp_20 c_23 f_37 g_45 f_51 f_57 hp_55; omega) | omega))
              refine ic_1 hx hb dX12_gap_107 ?_
              refine lv_iadd hx hb dX12_gap_108 ?_
              refine lv_topi (fun y_75 ey_75 => ?_)
              have e_76 := tI_rng y_73
              have ty_75 : y_75.toInt = y_73.toInt + 1 := xI_add rfl rfl ey_75 ((by first | (clear hP9 f_6 hp_4 c_7 f_13 hp_11 c_14 f_22 hp_20 c_23 f_37 g_45 f_51 f_57 hp_55; omega) | omega)) ((by first | (clear hP9 f_6 hp_4 c_7 f_13 hp_11 c_14 f_22 hp_20 c_23 f_37 g_45 f_51 f_57 hp_55; omega) | omega))
              refine lv_istore (lv' := [(5, .int y_75), (4, .int w_67), (6, .int w_67), (7, .int x_59), (8, .int x_28), (0, .ref (a 66)), (1, .int p0), (2, .int p1), (3, .int p2)]) hx hb dX12_gap_109 hl (lt_b rfl) rfl (fun ls hl => ?_)
              obtain ⟨y_77, ey_77⟩ : ∃ q, q = x_28 + 1 := ⟨_, rfl⟩
              have ty_77 : y_77.toInt = x_28.toInt + 1 := xI_add rfl rfl ey_77 ((by first | (clear hP9 f_6 hp_4 c_7 f_13 hp_11 c_14 f_22 hp_20 c_23 f_37 g_45 f_51 f_57 hp_55; omega) | omega)) ((by first | (clear hP9 f_6 hp_4 c_7 f_13 hp_11 c_14 f_22 hp_20 c_23 f_37 g_45 f_51 f_57 hp_55; omega) | omega))
              refine lv_iinc (v := y_77) (lv' := [(8, .int y_77), (5, .int y_75), (4, .int w_67), (6, .int w_67), (7, .int x_59), (0, .ref (a 66)), (1, .int p0), (2, .int p1), (3, .int p2)]) hx hb dX12_gap_111 hl (k := 4) rfl (by rw [ey_77]; rfl) (lt_b rfl) rfl (fun ls hl => ?_)
              refine lv_goto (tgt := 42) hx hb dX12_gap_114 rfl ?_
              exact ih_26 (400 - y_77.toInt : Int).toNat ((by first | (clear hP9 f_6 hp_4 c_7 f_13 hp_11 c_14 f_22 hp_20 c_23 f_37 g_45 f_51 f_57 hp_55; omega) | omega)) _ _ _ ⟨G_68, y_77, x_59, w_67, y_75, w_67, (Int.toNat_of_nonneg ((by first | (clear hP9 f_6 hp_4 c_7 f_13 hp_11 c_14 f_22 hp_20 c_23 f_37 g_45 f_51 f_57 hp_55; omega) | omega))), ⟨(by first | (clear hP9 f_6 hp_4 c_7 f_13 hp_11 c_14 f_22 hp_20 c_23 f_37 g_45 f_51 f_57 hp_55; omega) | omega), (by first | (clear hP9 f_6 hp_4 c_7 f_13 hp_11 c_14 f_22 hp_20 c_23 f_37 g_45 f_51 f_57 hp_55; omega) | omega)⟩, ((by first | (clear hP9 f_6 hp_4 c_7 f_13 hp_11 c_14 f_22 hp_20 c_23 f_37 g_45 f_51 f_57 hp_55; omega) | omega)), ((by first | (clear hP9 f_6 hp_4 c_7 f_13 hp_11 c_14 f_22 hp_20 c_23 f_37 g_45 f_51 f_57 hp_55; omega) | omega)), (hX_33.st (St_n_gap_1_mk ⟨x_28, x_29, x_30, x_31, x_32, G_24, y_77, x_59, w_67, y_75, w_67, G_68, rfl, rfl, f_36, f_37, f_38, hB_G_24, ⟨y_40, ey_40, ⟨c_41, ⟨r_46, G_47, hX_50, ⟨r_52, G_53, hX_56, ⟨y_58, ey_58, ⟨x_59, w_67, G_68, hX_71, hB_G_68, hq_70, (Or.inl ⟨c_72, ⟨y_73, ty_73, ⟨y_75, ty_75, ⟨y_77, ty_77, ⟨rfl, rfl, rfl, rfl, rfl, rfl⟩⟩⟩⟩⟩)⟩⟩⟩⟩⟩⟩⟩)), hW, hB_G_68, hF, (Fr.call9 (rs := [76]) (fs := []) (Fr.call9 (rs := [76]) (fs := []) (Fr.call9 (rs := [76]) (fs := []) (Fr.call9 (rs := [76]) (fs := []) Fr.rf hq_25 rfl rfl) hq_48 rfl rfl) hq_54 rfl rfl) hq_70 rfl rfl), hS, lv_sub hl [0, 4, 3, 1, 2, 5, 6, 7, 8] rfl⟩
            · have c_72 : w_67.toInt ≤ x_32.toInt := xI_nlt rfl rfl c_72
              refine lv_goto (tgt := 111) hx hb dX12_gap_95 rfl ?_
              obtain ⟨y_78, ey_78⟩ : ∃ q, q = x_28 + 1 := ⟨_, rfl⟩
              have ty_78 : y_78.toInt = x_28.toInt + 1 := xI_add rfl rfl ey_78 ((by first | (clear hP9 f_6 hp_4 c_7 f_13 hp_11 c_14 f_22 hp_20 c_23 f_37 f_38 g_45 f_51 f_57 hp_55 c_72; omega) | omega)) ((by first | (clear hP9 f_6 hp_4 c_7 f_13 hp_11 c_14 f_22 hp_20 c_23 f_37 f_38 g_45 f_51 f_57 hp_55 c_72; omega) | omega))
              refine lv_iinc (v := y_78) (lv' := [(8, .int y_78), (6, .int w_67), (7, .int x_59), (5, .int x_31), (4, .int x_32), (0, .ref (a 66)), (1, .int p0), (2, .int p1), (3, .int p2)]) hx hb dX12_gap_111 hl (k := 2) rfl (by rw [ey_78]; rfl) (lt_b rfl) rfl (fun ls hl => ?_)
              refine lv_goto (tgt := 42) hx hb dX12_gap_114 rfl ?_
              exact ih_26 (400 - y_78.toInt : Int).toNat ((by first | (clear hP9 f_6 hp_4 c_7 f_13 hp_11 c_14 f_22 hp_20 c_23 f_37 f_38 g_45 f_51 f_57 hp_55 c_72; omega) | omega)) _ _ _ ⟨G_68, y_78, x_59, w_67, x_31, x_32, (Int.toNat_of_nonneg ((by first | (clear hP9 f_6 hp_4 c_7 f_13 hp_11 c_14 f_22 hp_20 c_23 f_37 f_38 g_45 f_51 f_57 hp_55 c_72; omega) | omega))), ⟨(by first | (clear hP9 f_6 hp_4 c_7 f_13 hp_11 c_14 f_22 hp_20 c_23 f_37 f_38 g_45 f_51 f_57 hp_55 c_72; omega) | omega), (by first | (clear hP9 f_6 hp_4 c_7 f_13 hp_11 c_14 f_22 hp_20 c_23 f_37 f_38 g_45 f_51 f_57 hp_55 c_72; omega) | omega)⟩, ((by first | (clear hP9 f_6 hp_4 c_7 f_13 hp_11 c_14 f_22 hp_20 c_23 hn_39 f_36 f_38 ty_40 c_41 g_45 f_51 f_57 hp_55 c_72 ty_78; omega) | omega)), ((by first | (clear hP9 f_6 hp_4 c_7 f_13 hp_11 c_14 f_22 hp_20 c_23 hn_39 f_36 f_37 ty_40 c_41 g_45 f_51 f_57 hp_55 ty_78; omega) | omega)), (hX_33.st (St_n_gap_1_mk ⟨x_28, x_29, x_30, x_31, x_32, G_24, y_78, x_59, w_67, x_31, x_32, G_68, rfl, rfl, f_36, f_37, f_38, hB_G_24, ⟨y_40, ey_40, ⟨c_41, ⟨r_46, G_47, hX_50, ⟨r_52, G_53, hX_56, ⟨y_58, ey_58, ⟨x_59, w_67, G_68, hX_71, hB_G_68, hq_70, (Or.inr ⟨c_72, ⟨y_78, ty_78, ⟨rfl, rfl, rfl, rfl, rfl, rfl⟩⟩⟩)⟩⟩⟩⟩⟩⟩⟩)), hW, hB_G_68, hF, (Fr.call9 (rs := [76]) (fs := []) (Fr.call9 (rs := [76]) (fs := []) (Fr.call9 (rs := [76]) (fs := []) (Fr.call9 (rs := [76]) (fs := []) Fr.rf hq_25 rfl rfl) hq_48 rfl rfl) hq_54 rfl rfl) hq_70 rfl rfl), hS, lv_sub hl [0, 2, 1, 3, 4, 5, 6, 7, 8] rfl⟩
          refine lv_if_eq (tgt := 82) hx hb dX12_gap_75 rfl (fun c_79 => ?_) (fun c_79 => ?_)
          · have c_79 : r_46.toInt = 0 := xI_eq rfl rfl c_79
            refine lv_iload hx hb dX12_gap_82 (lv_at hl 3 rfl) ?_
            refine ic_1 hx hb dX12_gap_84 ?_
            refine lv_iadd hx hb dX12_gap_85 ?_
            refine lv_topi (fun y_80 ey_80 => ?_)
            exact hJ_69 y_80 _ _ _ ⟨G_53, y_58, (Jn_n_gap_2_mk (Or.inl ⟨c_79, ⟨y_80, ey_80, ⟨rfl, rfl, rfl⟩⟩⟩)), hW, hB_G_53, hF, (Fr.rf (rs := []) (fs := [])), hS, lv_sub hl [0, 2, 4, 5, 6, 7, 8, 9] rfl⟩
          · have c_79 : r_46.toInt ≠ 0 := xI_ne rfl rfl c_79
            refine ic_0 hx hb dX12_gap_78 ?_
            refine lv_goto (tgt := 86) hx hb dX12_gap_79 rfl ?_
            have qc_81 : (0 : Int32).toInt = 0 := rfl
            exact hJ_69 0 _ _ _ ⟨G_53, y_58, (Jn_n_gap_2_mk (Or.inr ⟨c_79, ⟨rfl, rfl, rfl⟩⟩)), hW, hB_G_53, hF, (Fr.rf (rs := []) (fs := [])), hS, lv_sub hl [0, 2, 4, 5, 6, 7, 8, 9] rfl⟩
      · have c_23 : r_17.toInt = 0 := xI_eq rfl rfl c_23
        refine ic_m1 hx hb dX12_gap_25 ?_
        exact W.iret (v := (-1)) hx hb hr (fun t ht _ => ⟨⟨(-1), G_18, rfl, (Q_gap_mk ⟨hB_G_18, hF, ⟨r_1, G_2, hX_5, (Or.inr ⟨c_7, ⟨r_8, G_9, hX_12, (Or.inr ⟨c_14, ⟨r_17, G_18, hX_21, (Or.inl ⟨c_23, ⟨rfl, rfl⟩⟩)⟩⟩)⟩⟩)⟩⟩), wd_t ht hW⟩, hS.F ht⟩) hS.2.2 dX12_gap_26
