theorem m86 : Cond.selects RX12 yX12_isLine yX12_isLine ∈ gd := gds_6 6 rfl
theorem m87 : Cond.selects RX12 yX12_worked yX12_worked ∈ gd := gds_6 7 rfl
theorem m1354 : Cond.fieldLink RX12 90 "SlabWalkModel" "foots" "[I" ∈ gd := gdc_6_2 6 rfl gw_fieldLink
theorem m1355 : Cond.fieldLink RX12 93 "SlabWalkModel" "leasts" "[I" ∈ gd := gdc_6_2 7 rfl gw_fieldLink
theorem m1356 : Cond.fieldLink RX12 96 "SlabWalkModel" "mosts" "[I" ∈ gd := gdc_6_2 8 rfl gw_fieldLink
theorem m1357 : Cond.fieldLink RX12 99 "SlabWalkModel" "leaps" "[I" ∈ gd := gdc_6_2 9 rfl gw_fieldLink
theorem m1371 : Cond.fieldLink RX12 111 "SlabWalkModel" "lines" "[Z" ∈ gd := gdc_6_3 7 rfl gw_fieldLink
theorem m1803 : Cond.methodLink RX12 466 yX12_isLine ∈ gd := gdc_8_0 7 rfl gw_methodLink
theorem m1805 : Cond.instanceMethod yX12_isLine ∈ gd := gdc_8_0 9 rfl gw_instanceMethod
theorem m1806 : Cond.code yX12_isLine cX12_isLine 7 (some .boolean) ∈ gd := gdc_8_0 10 rfl gw_code
theorem m1807 : Cond.methodLink RX12 460 yX12_worked ∈ gd := gdc_8_0 11 rfl gw_methodLink
theorem m1809 : Cond.instanceMethod yX12_worked ∈ gd := gdc_8_0 13 rfl gw_instanceMethod
theorem m1810 : Cond.code yX12_worked cX12_worked 5 (some .int) ∈ gd := gdc_8_0 14 rfl gw_code
def rbX12_isLine_0 : List (Nat × List Nat) := [(0, [17, 1, 144]), (3, [27]), (4, [104]), (5, [29]), (6, [96]), (7, [54, 4]), (9, [28]), (10, [154, 0, 32]), (13, [42]), (14, [180, 0, 75]), (17, [21, 4]), (19, [46]), (20, [155, 0, 16]), (23, [42]), (24, [180, 0, 75]), (27, [21, 4]), (29, [46]), (30, [16, 6]), (32, [126]), (33, [153, 0, 7]), (36, [4]), (37, [167, 0, 4]), (40, [3]), (41, [172])]
theorem rcX12_isLine_0 : dgo (lb cX12_isLine) 0 rbX12_isLine_0 = true := by decide +kernel
theorem dX12_isLine_0 : decode cX12_isLine 0 = .ok (.sipush 400, 3) := dk_17 (dw rcX12_isLine_0 0 rfl) rfl
theorem dX12_isLine_3 : decode cX12_isLine 3 = .ok (.iload_n 1, 1) := dk_27 (dw rcX12_isLine_0 1 rfl)
theorem dX12_isLine_4 : decode cX12_isLine 4 = .ok (.imul, 1) := dk_104 (dw rcX12_isLine_0 2 rfl)
theorem dX12_isLine_5 : decode cX12_isLine 5 = .ok (.iload_n 3, 1) := dk_29 (dw rcX12_isLine_0 3 rfl)
theorem dX12_isLine_6 : decode cX12_isLine 6 = .ok (.iadd, 1) := dk_96 (dw rcX12_isLine_0 4 rfl)
theorem dX12_isLine_7 : decode cX12_isLine 7 = .ok (.istore 4, 2) := dk_54 (dw rcX12_isLine_0 5 rfl)
theorem dX12_isLine_9 : decode cX12_isLine 9 = .ok (.iload_n 2, 1) := dk_28 (dw rcX12_isLine_0 6 rfl)
theorem dX12_isLine_10 : decode cX12_isLine 10 = .ok (.ifCond .ne 32, 3) := dk_154 (dw rcX12_isLine_0 7 rfl) rfl
theorem dX12_isLine_13 : decode cX12_isLine 13 = .ok (.aload_n 0, 1) := dk_42 (dw rcX12_isLine_0 8 rfl)
theorem dX12_isLine_14 : decode cX12_isLine 14 = .ok (.getfield 75, 3) := dk_180 (dw rcX12_isLine_0 9 rfl) rfl
theorem dX12_isLine_17 : decode cX12_isLine 17 = .ok (.iload 4, 2) := dk_21 (dw rcX12_isLine_0 10 rfl)
theorem dX12_isLine_19 : decode cX12_isLine 19 = .ok (.iaload, 1) := dk_46 (dw rcX12_isLine_0 11 rfl)
theorem dX12_isLine_20 : decode cX12_isLine 20 = .ok (.ifCond .lt 16, 3) := dk_155 (dw rcX12_isLine_0 12 rfl) rfl
theorem dX12_isLine_23 : decode cX12_isLine 23 = .ok (.aload_n 0, 1) := dk_42 (dw rcX12_isLine_0 13 rfl)
theorem dX12_isLine_24 : decode cX12_isLine 24 = .ok (.getfield 75, 3) := dk_180 (dw rcX12_isLine_0 14 rfl) rfl
theorem dX12_isLine_27 : decode cX12_isLine 27 = .ok (.iload 4, 2) := dk_21 (dw rcX12_isLine_0 15 rfl)
theorem dX12_isLine_29 : decode cX12_isLine 29 = .ok (.iaload, 1) := dk_46 (dw rcX12_isLine_0 16 rfl)
theorem dX12_isLine_30 : decode cX12_isLine 30 = .ok (.bipush 6, 2) := dk_16 (dw rcX12_isLine_0 17 rfl) rfl
theorem dX12_isLine_32 : decode cX12_isLine 32 = .ok (.iand, 1) := dk_126 (dw rcX12_isLine_0 18 rfl)
theorem dX12_isLine_33 : decode cX12_isLine 33 = .ok (.ifCond .eq 7, 3) := dk_153 (dw rcX12_isLine_0 19 rfl) rfl
theorem dX12_isLine_36 : decode cX12_isLine 36 = .ok (.iconst 1, 1) := dk_4 (dw rcX12_isLine_0 20 rfl)
theorem dX12_isLine_37 : decode cX12_isLine 37 = .ok (.goto 4, 3) := dk_167 (dw rcX12_isLine_0 21 rfl) rfl
theorem dX12_isLine_40 : decode cX12_isLine 40 = .ok (.iconst 0, 1) := dk_3 (dw rcX12_isLine_0 22 rfl)
theorem dX12_isLine_41 : decode cX12_isLine 41 = .ok (.ireturn, 1) := dk_172 (dw rcX12_isLine_0 23 rfl)
def rbX12_isLine_42 : List (Nat × List Nat) := [(42, [3]), (43, [54, 5]), (45, [3]), (46, [54, 6]), (48, [21, 6]), (50, [42]), (51, [180, 1, 175]), (54, [162, 0, 42]), (57, [21, 5]), (59, [154, 0, 37]), (62, [28]), (63, [21, 6]), (65, [122]), (66, [4]), (67, [126]), (68, [4]), (69, [160, 0, 18]), (72, [42]), (73, [21, 6]), (75, [21, 4]), (77, [182, 1, 204]), (80, [153, 0, 7]), (83, [4]), (84, [167, 0, 4])]
theorem rcX12_isLine_42 : dgo (lb cX12_isLine) 0 rbX12_isLine_42 = true := by decide +kernel
theorem dX12_isLine_42 : decode cX12_isLine 42 = .ok (.iconst 0, 1) := dk_3 (dw rcX12_isLine_42 0 rfl)
theorem dX12_isLine_43 : decode cX12_isLine 43 = .ok (.istore 5, 2) := dk_54 (dw rcX12_isLine_42 1 rfl)
theorem dX12_isLine_45 : decode cX12_isLine 45 = .ok (.iconst 0, 1) := dk_3 (dw rcX12_isLine_42 2 rfl)
theorem dX12_isLine_46 : decode cX12_isLine 46 = .ok (.istore 6, 2) := dk_54 (dw rcX12_isLine_42 3 rfl)
theorem dX12_isLine_48 : decode cX12_isLine 48 = .ok (.iload 6, 2) := dk_21 (dw rcX12_isLine_42 4 rfl)
theorem dX12_isLine_50 : decode cX12_isLine 50 = .ok (.aload_n 0, 1) := dk_42 (dw rcX12_isLine_42 5 rfl)
theorem dX12_isLine_51 : decode cX12_isLine 51 = .ok (.getfield 431, 3) := dk_180 (dw rcX12_isLine_42 6 rfl) rfl
theorem dX12_isLine_54 : decode cX12_isLine 54 = .ok (.if_icmp .ge 42, 3) := dk_162 (dw rcX12_isLine_42 7 rfl) rfl
theorem dX12_isLine_57 : decode cX12_isLine 57 = .ok (.iload 5, 2) := dk_21 (dw rcX12_isLine_42 8 rfl)
theorem dX12_isLine_59 : decode cX12_isLine 59 = .ok (.ifCond .ne 37, 3) := dk_154 (dw rcX12_isLine_42 9 rfl) rfl
theorem dX12_isLine_62 : decode cX12_isLine 62 = .ok (.iload_n 2, 1) := dk_28 (dw rcX12_isLine_42 10 rfl)
theorem dX12_isLine_63 : decode cX12_isLine 63 = .ok (.iload 6, 2) := dk_21 (dw rcX12_isLine_42 11 rfl)
theorem dX12_isLine_65 : decode cX12_isLine 65 = .ok (.ishr, 1) := dk_122 (dw rcX12_isLine_42 12 rfl)
theorem dX12_isLine_66 : decode cX12_isLine 66 = .ok (.iconst 1, 1) := dk_4 (dw rcX12_isLine_42 13 rfl)
theorem dX12_isLine_67 : decode cX12_isLine 67 = .ok (.iand, 1) := dk_126 (dw rcX12_isLine_42 14 rfl)
theorem dX12_isLine_68 : decode cX12_isLine 68 = .ok (.iconst 1, 1) := dk_4 (dw rcX12_isLine_42 15 rfl)
theorem dX12_isLine_69 : decode cX12_isLine 69 = .ok (.if_icmp .ne 18, 3) := dk_160 (dw rcX12_isLine_42 16 rfl) rfl
theorem dX12_isLine_72 : decode cX12_isLine 72 = .ok (.aload_n 0, 1) := dk_42 (dw rcX12_isLine_42 17 rfl)
theorem dX12_isLine_73 : decode cX12_isLine 73 = .ok (.iload 6, 2) := dk_21 (dw rcX12_isLine_42 18 rfl)
theorem dX12_isLine_75 : decode cX12_isLine 75 = .ok (.iload 4, 2) := dk_21 (dw rcX12_isLine_42 19 rfl)
theorem dX12_isLine_77 : decode cX12_isLine 77 = .ok (.invokevirtual 460, 3) := dk_182 (dw rcX12_isLine_42 20 rfl) rfl
theorem dX12_isLine_80 : decode cX12_isLine 80 = .ok (.ifCond .eq 7, 3) := dk_153 (dw rcX12_isLine_42 21 rfl) rfl
theorem dX12_isLine_83 : decode cX12_isLine 83 = .ok (.iconst 1, 1) := dk_4 (dw rcX12_isLine_42 22 rfl)
theorem dX12_isLine_84 : decode cX12_isLine 84 = .ok (.goto 4, 3) := dk_167 (dw rcX12_isLine_42 23 rfl) rfl
def rbX12_isLine_87 : List (Nat × List Nat) := [(87, [3]), (88, [54, 5]), (90, [132, 6, 1]), (93, [167, 255, 211]), (96, [21, 5]), (98, [172])]
theorem rcX12_isLine_87 : dgo (lb cX12_isLine) 0 rbX12_isLine_87 = true := by decide +kernel
theorem dX12_isLine_87 : decode cX12_isLine 87 = .ok (.iconst 0, 1) := dk_3 (dw rcX12_isLine_87 0 rfl)
theorem dX12_isLine_88 : decode cX12_isLine 88 = .ok (.istore 5, 2) := dk_54 (dw rcX12_isLine_87 1 rfl)
theorem dX12_isLine_90 : decode cX12_isLine 90 = .ok (.iinc 6 1, 3) := dk_132 (dw rcX12_isLine_87 2 rfl) rfl
theorem dX12_isLine_93 : decode cX12_isLine 93 = .ok (.goto (-45), 3) := dk_167 (dw rcX12_isLine_87 3 rfl) rfl
theorem dX12_isLine_96 : decode cX12_isLine 96 = .ok (.iload 5, 2) := dk_21 (dw rcX12_isLine_87 4 rfl)
theorem dX12_isLine_98 : decode cX12_isLine 98 = .ok (.ireturn, 1) := dk_172 (dw rcX12_isLine_87 5 rfl)
def rbX12_layStreet_0 : List (Nat × List Nat) := [(0, [42]), (1, [42]), (2, [180, 0, 87]), (5, [28]), (6, [46]), (7, [181, 1, 213]), (10, [42]), (11, [42]), (12, [180, 0, 90]), (15, [27]), (16, [46]), (17, [181, 1, 216]), (20, [42]), (21, [42]), (22, [180, 0, 93]), (25, [27]), (26, [46]), (27, [181, 1, 219]), (30, [42]), (31, [42]), (32, [180, 0, 96]), (35, [27]), (36, [46]), (37, [181, 1, 222])]
theorem rcX12_layStreet_0 : dgo (lb cX12_layStreet) 0 rbX12_layStreet_0 = true := by decide +kernel
theorem dX12_layStreet_0 : decode cX12_layStreet 0 = .ok (.aload_n 0, 1) := dk_42 (dw rcX12_layStreet_0 0 rfl)
theorem dX12_layStreet_1 : decode cX12_layStreet 1 = .ok (.aload_n 0, 1) := dk_42 (dw rcX12_layStreet_0 1 rfl)
theorem dX12_layStreet_2 : decode cX12_layStreet 2 = .ok (.getfield 87, 3) := dk_180 (dw rcX12_layStreet_0 2 rfl) rfl
theorem dX12_layStreet_5 : decode cX12_layStreet 5 = .ok (.iload_n 2, 1) := dk_28 (dw rcX12_layStreet_0 3 rfl)
theorem dX12_layStreet_6 : decode cX12_layStreet 6 = .ok (.iaload, 1) := dk_46 (dw rcX12_layStreet_0 4 rfl)
theorem dX12_layStreet_7 : decode cX12_layStreet 7 = .ok (.putfield 469, 3) := dk_181 (dw rcX12_layStreet_0 5 rfl) rfl
theorem dX12_layStreet_10 : decode cX12_layStreet 10 = .ok (.aload_n 0, 1) := dk_42 (dw rcX12_layStreet_0 6 rfl)
theorem dX12_layStreet_11 : decode cX12_layStreet 11 = .ok (.aload_n 0, 1) := dk_42 (dw rcX12_layStreet_0 7 rfl)
theorem dX12_layStreet_12 : decode cX12_layStreet 12 = .ok (.getfield 90, 3) := dk_180 (dw rcX12_layStreet_0 8 rfl) rfl
theorem dX12_layStreet_15 : decode cX12_layStreet 15 = .ok (.iload_n 1, 1) := dk_27 (dw rcX12_layStreet_0 9 rfl)
theorem dX12_layStreet_16 : decode cX12_layStreet 16 = .ok (.iaload, 1) := dk_46 (dw rcX12_layStreet_0 10 rfl)
theorem dX12_layStreet_17 : decode cX12_layStreet 17 = .ok (.putfield 472, 3) := dk_181 (dw rcX12_layStreet_0 11 rfl) rfl
theorem dX12_layStreet_20 : decode cX12_layStreet 20 = .ok (.aload_n 0, 1) := dk_42 (dw rcX12_layStreet_0 12 rfl)
theorem dX12_layStreet_21 : decode cX12_layStreet 21 = .ok (.aload_n 0, 1) := dk_42 (dw rcX12_layStreet_0 13 rfl)
theorem dX12_layStreet_22 : decode cX12_layStreet 22 = .ok (.getfield 93, 3) := dk_180 (dw rcX12_layStreet_0 14 rfl) rfl
theorem dX12_layStreet_25 : decode cX12_layStreet 25 = .ok (.iload_n 1, 1) := dk_27 (dw rcX12_layStreet_0 15 rfl)
theorem dX12_layStreet_26 : decode cX12_layStreet 26 = .ok (.iaload, 1) := dk_46 (dw rcX12_layStreet_0 16 rfl)
theorem dX12_layStreet_27 : decode cX12_layStreet 27 = .ok (.putfield 475, 3) := dk_181 (dw rcX12_layStreet_0 17 rfl) rfl
theorem dX12_layStreet_30 : decode cX12_layStreet 30 = .ok (.aload_n 0, 1) := dk_42 (dw rcX12_layStreet_0 18 rfl)
theorem dX12_layStreet_31 : decode cX12_layStreet 31 = .ok (.aload_n 0, 1) := dk_42 (dw rcX12_layStreet_0 19 rfl)
theorem dX12_layStreet_32 : decode cX12_layStreet 32 = .ok (.getfield 96, 3) := dk_180 (dw rcX12_layStreet_0 20 rfl) rfl
theorem dX12_layStreet_35 : decode cX12_layStreet 35 = .ok (.iload_n 1, 1) := dk_27 (dw rcX12_layStreet_0 21 rfl)
theorem dX12_layStreet_36 : decode cX12_layStreet 36 = .ok (.iaload, 1) := dk_46 (dw rcX12_layStreet_0 22 rfl)
theorem dX12_layStreet_37 : decode cX12_layStreet 37 = .ok (.putfield 478, 3) := dk_181 (dw rcX12_layStreet_0 23 rfl) rfl
def rbX12_layStreet_40 : List (Nat × List Nat) := [(40, [42]), (41, [42]), (42, [180, 0, 99]), (45, [27]), (46, [46]), (47, [181, 1, 225]), (50, [3]), (51, [54, 4]), (53, [21, 4]), (55, [42]), (56, [180, 1, 213]), (59, [162, 0, 24]), (62, [42]), (63, [180, 0, 111]), (66, [21, 4]), (68, [42]), (69, [28]), (70, [29]), (71, [21, 4]), (73, [182, 1, 210]), (76, [84]), (77, [132, 4, 1]), (80, [167, 255, 229]), (83, [3])]
theorem rcX12_layStreet_40 : dgo (lb cX12_layStreet) 0 rbX12_layStreet_40 = true := by decide +kernel
theorem dX12_layStreet_40 : decode cX12_layStreet 40 = .ok (.aload_n 0, 1) := dk_42 (dw rcX12_layStreet_40 0 rfl)
theorem dX12_layStreet_41 : decode cX12_layStreet 41 = .ok (.aload_n 0, 1) := dk_42 (dw rcX12_layStreet_40 1 rfl)
theorem dX12_layStreet_42 : decode cX12_layStreet 42 = .ok (.getfield 99, 3) := dk_180 (dw rcX12_layStreet_40 2 rfl) rfl
theorem dX12_layStreet_45 : decode cX12_layStreet 45 = .ok (.iload_n 1, 1) := dk_27 (dw rcX12_layStreet_40 3 rfl)
theorem dX12_layStreet_46 : decode cX12_layStreet 46 = .ok (.iaload, 1) := dk_46 (dw rcX12_layStreet_40 4 rfl)
theorem dX12_layStreet_47 : decode cX12_layStreet 47 = .ok (.putfield 481, 3) := dk_181 (dw rcX12_layStreet_40 5 rfl) rfl
theorem dX12_layStreet_50 : decode cX12_layStreet 50 = .ok (.iconst 0, 1) := dk_3 (dw rcX12_layStreet_40 6 rfl)
theorem dX12_layStreet_51 : decode cX12_layStreet 51 = .ok (.istore 4, 2) := dk_54 (dw rcX12_layStreet_40 7 rfl)
theorem dX12_layStreet_53 : decode cX12_layStreet 53 = .ok (.iload 4, 2) := dk_21 (dw rcX12_layStreet_40 8 rfl)
theorem dX12_layStreet_55 : decode cX12_layStreet 55 = .ok (.aload_n 0, 1) := dk_42 (dw rcX12_layStreet_40 9 rfl)
theorem dX12_layStreet_56 : decode cX12_layStreet 56 = .ok (.getfield 469, 3) := dk_180 (dw rcX12_layStreet_40 10 rfl) rfl
theorem dX12_layStreet_59 : decode cX12_layStreet 59 = .ok (.if_icmp .ge 24, 3) := dk_162 (dw rcX12_layStreet_40 11 rfl) rfl
theorem dX12_layStreet_62 : decode cX12_layStreet 62 = .ok (.aload_n 0, 1) := dk_42 (dw rcX12_layStreet_40 12 rfl)
theorem dX12_layStreet_63 : decode cX12_layStreet 63 = .ok (.getfield 111, 3) := dk_180 (dw rcX12_layStreet_40 13 rfl) rfl
theorem dX12_layStreet_66 : decode cX12_layStreet 66 = .ok (.iload 4, 2) := dk_21 (dw rcX12_layStreet_40 14 rfl)
theorem dX12_layStreet_68 : decode cX12_layStreet 68 = .ok (.aload_n 0, 1) := dk_42 (dw rcX12_layStreet_40 15 rfl)
theorem dX12_layStreet_69 : decode cX12_layStreet 69 = .ok (.iload_n 2, 1) := dk_28 (dw rcX12_layStreet_40 16 rfl)
theorem dX12_layStreet_70 : decode cX12_layStreet 70 = .ok (.iload_n 3, 1) := dk_29 (dw rcX12_layStreet_40 17 rfl)
theorem dX12_layStreet_71 : decode cX12_layStreet 71 = .ok (.iload 4, 2) := dk_21 (dw rcX12_layStreet_40 18 rfl)
theorem dX12_layStreet_73 : decode cX12_layStreet 73 = .ok (.invokevirtual 466, 3) := dk_182 (dw rcX12_layStreet_40 19 rfl) rfl
theorem dX12_layStreet_76 : decode cX12_layStreet 76 = .ok (.bastore, 1) := dk_84 (dw rcX12_layStreet_40 20 rfl)
theorem dX12_layStreet_77 : decode cX12_layStreet 77 = .ok (.iinc 4 1, 3) := dk_132 (dw rcX12_layStreet_40 21 rfl) rfl
theorem dX12_layStreet_80 : decode cX12_layStreet 80 = .ok (.goto (-27), 3) := dk_167 (dw rcX12_layStreet_40 22 rfl) rfl
theorem dX12_layStreet_83 : decode cX12_layStreet 83 = .ok (.iconst 0, 1) := dk_3 (dw rcX12_layStreet_40 23 rfl)
def rbX12_layStreet_84 : List (Nat × List Nat) := [(84, [54, 4]), (86, [21, 4]), (88, [17, 2, 0]), (91, [162, 0, 76]), (94, [42]), (95, [180, 0, 115]), (98, [21, 4]), (100, [42]), (101, [21, 4]), (103, [182, 1, 228]), (106, [84]), (107, [21, 4]), (109, [54, 5]), (111, [21, 5]), (113, [21, 4]), (115, [42]), (116, [180, 1, 216]), (119, [96]), (120, [162, 0, 41]), (123, [42]), (124, [180, 0, 115]), (127, [21, 4]), (129, [51]), (130, [153, 0, 31])]
theorem rcX12_layStreet_84 : dgo (lb cX12_layStreet) 0 rbX12_layStreet_84 = true := by decide +kernel
theorem dX12_layStreet_84 : decode cX12_layStreet 84 = .ok (.istore 4, 2) := dk_54 (dw rcX12_layStreet_84 0 rfl)
theorem dX12_layStreet_86 : decode cX12_layStreet 86 = .ok (.iload 4, 2) := dk_21 (dw rcX12_layStreet_84 1 rfl)
theorem dX12_layStreet_88 : decode cX12_layStreet 88 = .ok (.sipush 512, 3) := dk_17 (dw rcX12_layStreet_84 2 rfl) rfl
theorem dX12_layStreet_91 : decode cX12_layStreet 91 = .ok (.if_icmp .ge 76, 3) := dk_162 (dw rcX12_layStreet_84 3 rfl) rfl
theorem dX12_layStreet_94 : decode cX12_layStreet 94 = .ok (.aload_n 0, 1) := dk_42 (dw rcX12_layStreet_84 4 rfl)
theorem dX12_layStreet_95 : decode cX12_layStreet 95 = .ok (.getfield 115, 3) := dk_180 (dw rcX12_layStreet_84 5 rfl) rfl
theorem dX12_layStreet_98 : decode cX12_layStreet 98 = .ok (.iload 4, 2) := dk_21 (dw rcX12_layStreet_84 6 rfl)
theorem dX12_layStreet_100 : decode cX12_layStreet 100 = .ok (.aload_n 0, 1) := dk_42 (dw rcX12_layStreet_84 7 rfl)
theorem dX12_layStreet_101 : decode cX12_layStreet 101 = .ok (.iload 4, 2) := dk_21 (dw rcX12_layStreet_84 8 rfl)
theorem dX12_layStreet_103 : decode cX12_layStreet 103 = .ok (.invokevirtual 484, 3) := dk_182 (dw rcX12_layStreet_84 9 rfl) rfl
theorem dX12_layStreet_106 : decode cX12_layStreet 106 = .ok (.bastore, 1) := dk_84 (dw rcX12_layStreet_84 10 rfl)
theorem dX12_layStreet_107 : decode cX12_layStreet 107 = .ok (.iload 4, 2) := dk_21 (dw rcX12_layStreet_84 11 rfl)
theorem dX12_layStreet_109 : decode cX12_layStreet 109 = .ok (.istore 5, 2) := dk_54 (dw rcX12_layStreet_84 12 rfl)
theorem dX12_layStreet_111 : decode cX12_layStreet 111 = .ok (.iload 5, 2) := dk_21 (dw rcX12_layStreet_84 13 rfl)
theorem dX12_layStreet_113 : decode cX12_layStreet 113 = .ok (.iload 4, 2) := dk_21 (dw rcX12_layStreet_84 14 rfl)
theorem dX12_layStreet_115 : decode cX12_layStreet 115 = .ok (.aload_n 0, 1) := dk_42 (dw rcX12_layStreet_84 15 rfl)
theorem dX12_layStreet_116 : decode cX12_layStreet 116 = .ok (.getfield 472, 3) := dk_180 (dw rcX12_layStreet_84 16 rfl) rfl
theorem dX12_layStreet_119 : decode cX12_layStreet 119 = .ok (.iadd, 1) := dk_96 (dw rcX12_layStreet_84 17 rfl)
theorem dX12_layStreet_120 : decode cX12_layStreet 120 = .ok (.if_icmp .ge 41, 3) := dk_162 (dw rcX12_layStreet_84 18 rfl) rfl
theorem dX12_layStreet_123 : decode cX12_layStreet 123 = .ok (.aload_n 0, 1) := dk_42 (dw rcX12_layStreet_84 19 rfl)
theorem dX12_layStreet_124 : decode cX12_layStreet 124 = .ok (.getfield 115, 3) := dk_180 (dw rcX12_layStreet_84 20 rfl) rfl
theorem dX12_layStreet_127 : decode cX12_layStreet 127 = .ok (.iload 4, 2) := dk_21 (dw rcX12_layStreet_84 21 rfl)
theorem dX12_layStreet_129 : decode cX12_layStreet 129 = .ok (.baload, 1) := dk_51 (dw rcX12_layStreet_84 22 rfl)
theorem dX12_layStreet_130 : decode cX12_layStreet 130 = .ok (.ifCond .eq 31, 3) := dk_153 (dw rcX12_layStreet_84 23 rfl) rfl
def rbX12_layStreet_133 : List (Nat × List Nat) := [(133, [42]), (134, [180, 0, 115]), (137, [21, 4]), (139, [42]), (140, [180, 0, 111]), (143, [21, 5]), (145, [51]), (146, [154, 0, 7]), (149, [4]), (150, [167, 0, 4]), (153, [3]), (154, [84]), (155, [132, 5, 1]), (158, [167, 255, 209]), (161, [132, 4, 1]), (164, [167, 255, 178]), (167, [177])]
theorem rcX12_layStreet_133 : dgo (lb cX12_layStreet) 0 rbX12_layStreet_133 = true := by decide +kernel
theorem dX12_layStreet_133 : decode cX12_layStreet 133 = .ok (.aload_n 0, 1) := dk_42 (dw rcX12_layStreet_133 0 rfl)
theorem dX12_layStreet_134 : decode cX12_layStreet 134 = .ok (.getfield 115, 3) := dk_180 (dw rcX12_layStreet_133 1 rfl) rfl
theorem dX12_layStreet_137 : decode cX12_layStreet 137 = .ok (.iload 4, 2) := dk_21 (dw rcX12_layStreet_133 2 rfl)
theorem dX12_layStreet_139 : decode cX12_layStreet 139 = .ok (.aload_n 0, 1) := dk_42 (dw rcX12_layStreet_133 3 rfl)
theorem dX12_layStreet_140 : decode cX12_layStreet 140 = .ok (.getfield 111, 3) := dk_180 (dw rcX12_layStreet_133 4 rfl) rfl
theorem dX12_layStreet_143 : decode cX12_layStreet 143 = .ok (.iload 5, 2) := dk_21 (dw rcX12_layStreet_133 5 rfl)
theorem dX12_layStreet_145 : decode cX12_layStreet 145 = .ok (.baload, 1) := dk_51 (dw rcX12_layStreet_133 6 rfl)
theorem dX12_layStreet_146 : decode cX12_layStreet 146 = .ok (.ifCond .ne 7, 3) := dk_154 (dw rcX12_layStreet_133 7 rfl) rfl
theorem dX12_layStreet_149 : decode cX12_layStreet 149 = .ok (.iconst 1, 1) := dk_4 (dw rcX12_layStreet_133 8 rfl)
theorem dX12_layStreet_150 : decode cX12_layStreet 150 = .ok (.goto 4, 3) := dk_167 (dw rcX12_layStreet_133 9 rfl) rfl
theorem dX12_layStreet_153 : decode cX12_layStreet 153 = .ok (.iconst 0, 1) := dk_3 (dw rcX12_layStreet_133 10 rfl)
theorem dX12_layStreet_154 : decode cX12_layStreet 154 = .ok (.bastore, 1) := dk_84 (dw rcX12_layStreet_133 11 rfl)
theorem dX12_layStreet_155 : decode cX12_layStreet 155 = .ok (.iinc 5 1, 3) := dk_132 (dw rcX12_layStreet_133 12 rfl) rfl
theorem dX12_layStreet_158 : decode cX12_layStreet 158 = .ok (.goto (-47), 3) := dk_167 (dw rcX12_layStreet_133 13 rfl) rfl
theorem dX12_layStreet_161 : decode cX12_layStreet 161 = .ok (.iinc 4 1, 3) := dk_132 (dw rcX12_layStreet_133 14 rfl) rfl
theorem dX12_layStreet_164 : decode cX12_layStreet 164 = .ok (.goto (-78), 3) := dk_167 (dw rcX12_layStreet_133 15 rfl) rfl
theorem dX12_layStreet_167 : decode cX12_layStreet 167 = .ok (.return_, 1) := dk_177 (dw rcX12_layStreet_133 16 rfl)
set_option maxHeartbeats 4000000 in
set_option maxRecDepth 100000 in
theorem n_isLine (l : Launch) (D : va_G) (k : KT) (A : Nat → Prop) (a : Nat → Nat) (z : SK) (G : GS) (p0 : Int32) (p1 : Int32) (p2 : Int32) (ha_p0 : 0 ≤ p0.toInt ∧ p0.toInt ≤ 2) (ha_p2 : 0 ≤ p2.toInt ∧ p2.toInt ≤ 399) (hP9 : gP G = 1) : Met l yX12_isLine (WS yX12_isLine cX12_isLine 7 (some .boolean)) ({ frames := 3, cells := 0, slots := 0, locals := 66 }) (va_Pc [.ref (a 66), .int p0, .int p1, .int p2] (cW D k A a z G)) (va_Qi (fun (r : Int32) (G1 : GS) => Q_isLine p0 p1 p2 G r G1) (fun (G1 : GS) t => Wd D k A a G1 t.heap) A) 0 0 A := by
  refine Met.ofW (cc := cX12_isLine) (maxL := 7) (ret := (some .boolean)) (by decide) rfl ?_
  intro p e s m args below meth c s₁ B hml hv
  obtain ⟨rfl, hW, hB_G, hK, hZ⟩ := hv
  have hx := B.exec
  have hb := B.bytes
  have hr := B.returns
  have hts := atoms_spec (ws := WS yX12_isLine cX12_isLine 7 (some .boolean)) B.pre
  have hgd : ∀ w ∈ gd, w ∈ WS yX12_isLine cX12_isLine 7 (some .boolean) := fun w h => List.mem_cons_of_mem _ h
  have hg : ∀ w ∈ gd, w.before _ s = true := fun w h => hts w (hgd w h)
  have hown : s.vm.findClass RX12 = some m.cls := findClass_of_methodNamed B.named
  have hS : va_S A s.heap s.heap [] := va_S.rf
  have hF : Fr [76] [] G G := Fr.rf
  have hl := lv_entry ([.ref (a 66), .int p0, .int p1, .int p2]) (n := 7) (Nat.le_of_ble_eq_true rfl)
  rw [lg_entry_eq]
  generalize (lg_sl ([.ref (a 66), .int p0, .int p1, .int p2]) ++ List.replicate (7 - (lg_sl ([.ref (a 66), .int p0, .int p1, .int p2])).length) Slot.unset).toArray = ls at hl ⊢
  have hl : lv_has ls 7 [(0, .ref (a 66)), (1, .int p0), (2, .int p1), (3, .int p2)] := hl
  refine lv_sipush (v := 400) hx hb dX12_isLine_0 (by decide) ?_
  refine lv_iload_n hx hb dX12_isLine_3 rfl (lv_at hl 1 rfl) ?_
  refine lv_imul hx hb dX12_isLine_4 ?_
  refine lv_topi (fun y_1 ey_1 => ?_)
  have ty_1 : y_1.toInt = 400 * p0.toInt := xI_mul rfl rfl ey_1 (by omega) (by omega)
  refine lv_iload_n hx hb dX12_isLine_5 rfl (lv_at hl 3 rfl) ?_
  refine lv_iadd hx hb dX12_isLine_6 ?_
  refine lv_topi (fun y_2 ey_2 => ?_)
  have ty_2 : y_2.toInt = y_1.toInt + p2.toInt := xI_add rfl rfl ey_2 (by omega) (by omega)
  refine lv_istore (lv' := [(4, .int y_2), (0, .ref (a 66)), (1, .int p0), (2, .int p1), (3, .int p2)]) hx hb dX12_isLine_7 hl (lt_b rfl) rfl (fun ls hl => ?_)
  refine lv_iload_n hx hb dX12_isLine_9 rfl (lv_at hl 3 rfl) ?_
  refine lv_if_ne (tgt := 42) hx hb dX12_isLine_10 rfl (fun c_3 => ?_) (fun c_3 => ?_)
  · have c_3 : p1.toInt ≠ 0 := xI_ne rfl rfl c_3
    refine ic_0 hx hb dX12_isLine_42 ?_
    refine lv_istore (lv' := [(5, .int 0), (4, .int y_2), (0, .ref (a 66)), (1, .int p0), (2, .int p1), (3, .int p2)]) hx hb dX12_isLine_43 hl (lt_b rfl) rfl (fun ls hl => ?_)
    refine ic_0 hx hb dX12_isLine_45 ?_
    refine lv_istore (lv' := [(6, .int 0), (5, .int 0), (4, .int y_2), (0, .ref (a 66)), (1, .int p0), (2, .int p1), (3, .int p2)]) hx hb dX12_isLine_46 hl (lt_b rfl) rfl (fun ls hl => ?_)
    have qc_11 : (0 : Int32).toInt = 0 := rfl
    refine loop_N (Inv := fun n H locs ls => ∃ (G_4 : GS) (x_8 : Int32) (x_9 : Int32), (n : Int) = 6 - x_8.toInt ∧ (0 ≤ x_8.toInt ∧ x_8.toInt ≤ 6) ∧ (0 ≤ x_9.toInt ∧ x_9.toInt ≤ 1) ∧ Rc (St_n_isLine_1 p1 y_2 G) (0, 0, G) (x_8, x_9, G_4) ∧ Wd D k A a G_4 H ∧ Bd G_4 ∧ Fr [76] [] G G_4 ∧ Fr [76] [] G G_4 ∧ va_S A s.heap H locs ∧ lv_has ls 7 [(6, .int x_8), (5, .int x_9), (4, .int y_2), (0, .ref (a 66)), (2, .int p1)]) (fun n_7 H locs ls ih_6 hI => ?_) (6 - 0 : Int).toNat ⟨G, 0, 0, (Int.toNat_of_nonneg ((by first | (clear ha_p0 ha_p2 hP9 ty_1 ty_2 c_3; omega) | omega))), ⟨(by first | (clear ha_p0 ha_p2 hP9 ty_1 ty_2 c_3; omega) | omega), (by first | (clear ha_p0 ha_p2 hP9 ty_1 ty_2 c_3; omega) | omega)⟩, ⟨(by first | (clear ha_p0 ha_p2 hP9 ty_1 ty_2 c_3; omega) | omega), (by first | (clear ha_p0 ha_p2 hP9 ty_1 ty_2 c_3; omega) | omega)⟩, Rc.rf, hW, hB_G, hF, Fr.rf, hS, lv_sub hl [0, 1, 2, 3, 5] rfl⟩
    obtain ⟨G_4, x_8, x_9, hn_14, f_12, f_13, hX_10, hW, hB_G_4, hF, hq_5, hS, hl⟩ := hI
    refine lv_iload hx hb dX12_isLine_48 (lv_at hl 0 rfl) ?_
    refine lv_aload_n hx hb dX12_isLine_50 rfl (lv_at hl 3 rfl) ?_
    have b_15 : 0 ≤ (G.1 66 54).toInt ∧ (G.1 66 54).toInt ≤ 6 := bd_66_54 hB_G
    refine S_getI (v := (G.1 66 54)) (C := RX12) (T := TX12) (N := 89) hx hb hg iX12 hown hK hW kd_66 rfl 54 (lt_b rfl) (hg (Cond.fieldLink RX12 431 "SlabWalkModel" "rules" "I") m1368) (fun _ h9 => h9) rfl (hq_5.i9 66 54 rfl rfl) dX12_isLine_51 ?_
    refine lv_icmp_ge (tgt := 96) hx hb dX12_isLine_54 rfl (fun c_16 => ?_) (fun c_16 => ?_)
    · have c_16 : (G.1 66 54).toInt ≤ x_8.toInt := xI_le rfl rfl c_16
      refine lv_iload hx hb dX12_isLine_96 (lv_at hl 1 rfl) ?_
      exact W.zret (v := x_9) hx hb hr (nar_z ((by first | (clear ha_p0 ha_p2 hP9 ty_1 ty_2 c_3 hn_14 f_12 b_15 c_16; omega) | omega)) ((by first | (clear ha_p0 ha_p2 hP9 ty_1 ty_2 c_3 hn_14 f_12 b_15 c_16; omega) | omega))) (fun t ht _ => ⟨⟨x_9, G_4, rfl, (Q_isLine_mk ⟨hB_G_4, hF, ⟨(by first | (clear ha_p0 ha_p2 hP9 ty_1 ty_2 c_3 hn_14 f_12 b_15 c_16; omega) | omega), (by first | (clear ha_p0 ha_p2 hP9 ty_1 ty_2 c_3 hn_14 f_12 b_15 c_16; omega) | omega)⟩, ⟨y_1, ty_1, ⟨y_2, ty_2, (Or.inr ⟨c_3, ⟨x_8, x_9, G_4, hX_10, f_12, f_13, hB_G_4, hq_5, (Or.inl ⟨c_16, ⟨rfl, rfl⟩⟩)⟩⟩)⟩⟩⟩), wd_t ht hW⟩, hS.F ht⟩) hS.2.2 dX12_isLine_98
    · have c_16 : x_8.toInt < (G.1 66 54).toInt := xI_nle rfl rfl c_16
      refine lv_iload hx hb dX12_isLine_57 (lv_at hl 1 rfl) ?_
      refine lv_if_ne (tgt := 96) hx hb dX12_isLine_59 rfl (fun c_17 => ?_) (fun c_17 => ?_)
      · have c_17 : x_9.toInt ≠ 0 := xI_ne rfl rfl c_17
        refine lv_iload hx hb dX12_isLine_96 (lv_at hl 1 rfl) ?_
        exact W.zret (v := x_9) hx hb hr (nar_z ((by first | (clear ha_p0 ha_p2 hP9 ty_1 ty_2 c_3 hn_14 f_12 b_15 c_16; omega) | omega)) ((by first | (clear ha_p0 ha_p2 hP9 ty_1 ty_2 c_3 hn_14 f_12 b_15 c_16; omega) | omega))) (fun t ht _ => ⟨⟨x_9, G_4, rfl, (Q_isLine_mk ⟨hB_G_4, hF, ⟨(by first | (clear ha_p0 ha_p2 hP9 ty_1 ty_2 c_3 hn_14 f_12 b_15 c_16; omega) | omega), (by first | (clear ha_p0 ha_p2 hP9 ty_1 ty_2 c_3 hn_14 f_12 b_15 c_16; omega) | omega)⟩, ⟨y_1, ty_1, ⟨y_2, ty_2, (Or.inr ⟨c_3, ⟨x_8, x_9, G_4, hX_10, f_12, f_13, hB_G_4, hq_5, (Or.inr ⟨c_16, ⟨c_17, ⟨rfl, rfl⟩⟩⟩)⟩⟩)⟩⟩⟩), wd_t ht hW⟩, hS.F ht⟩) hS.2.2 dX12_isLine_98
      · have c_17 : x_9.toInt = 0 := xI_eq rfl rfl c_17
        refine lv_iload_n hx hb dX12_isLine_62 rfl (lv_at hl 4 rfl) ?_
        refine lv_iload hx hb dX12_isLine_63 (lv_at hl 0 rfl) ?_
        refine lv_ishr hx hb dX12_isLine_65 ?_
        refine lv_topi (fun y_18 ey_18 => ?_)
        refine ic_1 hx hb dX12_isLine_66 ?_
        refine lv_iand hx hb dX12_isLine_67 ?_
        refine lv_topi (fun y_19 ey_19 => ?_)
        have ty_19 := xI_and (Y := 1) rfl ey_19 (by decide)
        refine ic_1 hx hb dX12_isLine_68 ?_
        refine lv_icmp_ne (tgt := 87) hx hb dX12_isLine_69 rfl (fun c_20 => ?_) (fun c_20 => ?_)
        · have c_20 : y_19.toInt ≠ 1 := xI_ne rfl rfl c_20
          refine ic_0 hx hb dX12_isLine_87 ?_
          refine lv_istore (lv' := [(5, .int 0), (6, .int x_8), (4, .int y_2), (0, .ref (a 66)), (2, .int p1)]) hx hb dX12_isLine_88 hl (lt_b rfl) rfl (fun ls hl => ?_)
          obtain ⟨y_21, ey_21⟩ : ∃ q, q = x_8 + 1 := ⟨_, rfl⟩
          have ty_21 : y_21.toInt = x_8.toInt + 1 := xI_add rfl rfl ey_21 ((by first | (clear ha_p0 ha_p2 hP9 ty_1 ty_2 c_3 hn_14 f_13 c_17 c_20; omega) | omega)) ((by first | (clear ha_p0 ha_p2 hP9 ty_1 ty_2 c_3 hn_14 f_13 c_17 c_20; omega) | omega))
          refine lv_iinc (v := y_21) (lv' := [(6, .int y_21), (5, .int 0), (4, .int y_2), (0, .ref (a 66)), (2, .int p1)]) hx hb dX12_isLine_90 hl (k := 1) rfl (by rw [ey_21]; rfl) (lt_b rfl) rfl (fun ls hl => ?_)
          refine lv_goto (tgt := 48) hx hb dX12_isLine_93 rfl ?_
          have qc_22 : (0 : Int32).toInt = 0 := rfl
          exact ih_6 (6 - y_21.toInt : Int).toNat ((by first | (clear ha_p0 ha_p2 hP9 ty_1 ty_2 c_3 f_13 c_17 c_20; omega) | omega)) _ _ _ ⟨G_4, y_21, 0, (Int.toNat_of_nonneg ((by first | (clear ha_p0 ha_p2 hP9 ty_1 ty_2 c_3 hn_14 f_13 c_17 c_20; omega) | omega))), ⟨(by first | (clear ha_p0 ha_p2 hP9 ty_1 ty_2 c_3 hn_14 f_13 c_17 c_20; omega) | omega), (by first | (clear ha_p0 ha_p2 hP9 ty_1 ty_2 c_3 hn_14 f_13 c_17 c_20; omega) | omega)⟩, ⟨(by first | (clear ha_p0 ha_p2 hP9 ty_1 ty_2 c_3 hn_14 f_12 f_13 b_15 c_16 c_17 c_20 ty_21; omega) | omega), (by first | (clear ha_p0 ha_p2 hP9 ty_1 ty_2 c_3 hn_14 f_12 f_13 b_15 c_16 c_17 c_20 ty_21; omega) | omega)⟩, (hX_10.st (St_n_isLine_1_mk ⟨x_8, x_9, G_4, y_21, 0, G_4, rfl, rfl, f_12, f_13, hB_G_4, ⟨c_16, ⟨c_17, ⟨y_18, ey_18, ⟨y_19, ey_19, (Or.inr ⟨c_20, ⟨y_21, ty_21, ⟨rfl, rfl, rfl⟩⟩⟩)⟩⟩⟩⟩⟩)), hW, hB_G_4, hF, (Fr.call9 (rs := [76]) (fs := []) Fr.rf hq_5 rfl rfl), hS, lv_sub hl [0, 1, 2, 3, 4] rfl⟩
        · have c_20 : y_19.toInt = 1 := xI_eq rfl rfl c_20
          refine lv_aload_n hx hb dX12_isLine_72 rfl (lv_at hl 3 rfl) ?_
          refine lv_iload hx hb dX12_isLine_73 (lv_at hl 0 rfl) ?_
          refine lv_iload hx hb dX12_isLine_75 (lv_at hl 2 rfl) ?_
          have fr_23 : Fr [76] [] G G_4 := (Fr.call9 (rs := [76]) (fs := []) Fr.rf hq_5 rfl rfl)
          have g_24 : gP G_4 = gP G := gP_fr fr_23 (gr_q rfl) (gf_q rfl)
          have g_25 : (G_4.1 66 54).toInt = (G.1 66 54).toInt := (congrArg Int32.toInt (show G_4.1 66 54 = (G.1 66 54) from ((hq_5.i9 66 54 rfl rfl).trans (rfl))))
          refine S_calli (va_runV (As := [.int x_8, .int y_2]) (rest := []) ⟨hx, hb, hml, hown, hts⟩ (n_worked l D k A a z G_4 x_8 y_2 ⟨(by first | (clear ha_p0 ha_p2 hP9 ty_1 ty_2 c_3 hn_14 f_13 c_17 c_20 g_24; omega) | omega), (by first | (clear ha_p0 ha_p2 hP9 ty_1 ty_2 c_3 hn_14 f_13 c_17 c_20 g_24; omega) | omega)⟩ ⟨(by first | (clear hP9 c_3 hn_14 f_12 f_13 b_15 c_16 c_17 c_20 g_24 g_25; omega) | omega), (by first | (clear hP9 c_3 hn_14 f_12 f_13 b_15 c_16 c_17 c_20 g_24 g_25; omega) | omega)⟩ ((by first | (clear ha_p0 ha_p2 ty_1 ty_2 c_3 hn_14 f_12 f_13 b_15 c_16 c_17 c_20 g_25; omega) | omega)) ((by first | (clear ha_p0 ha_p2 hP9 ty_1 ty_2 c_3 hn_14 f_13 c_17 c_20 g_24; omega) | omega))) (cwV 2 hts (gd_V hgd m1807 m1809 m87 m131 m1810) rfl rfl rfl hd_X12_worked ⟨Nat.le_of_ble_eq_true rfl, Nat.le_of_ble_eq_true rfl⟩) (pre_W hW hB_G_4 hK hZ hS kd_66 rfl) rfl rfl hl.1 rfl (lv_room (Nat.le_of_ble_eq_true rfl)) dX12_isLine_77 ⟨Nat.le_of_ble_eq_true rfl, Nat.le_of_ble_eq_true rfl⟩) hS (fun r_26 G_27 H locs hpo hW hS => ?_)
          have hX_30 : Q_worked x_8 y_2 G_4 r_26 G_27 := hpo
          obtain ⟨hB_G_27, hq_28, -⟩ := hpo
          have hF := hF.call9 hq_28 rfl rfl
          refine lv_if_eq (tgt := 87) hx hb dX12_isLine_80 rfl (fun c_31 => ?_) (fun c_31 => ?_)
          · have c_31 : r_26.toInt = 0 := xI_eq rfl rfl c_31
            refine ic_0 hx hb dX12_isLine_87 ?_
            refine lv_istore (lv' := [(5, .int 0), (6, .int x_8), (4, .int y_2), (0, .ref (a 66)), (2, .int p1)]) hx hb dX12_isLine_88 hl (lt_b rfl) rfl (fun ls hl => ?_)
            obtain ⟨y_32, ey_32⟩ : ∃ q, q = x_8 + 1 := ⟨_, rfl⟩
            have ty_32 : y_32.toInt = x_8.toInt + 1 := xI_add rfl rfl ey_32 ((by first | (clear ha_p0 ha_p2 hP9 ty_1 ty_2 c_3 hn_14 f_13 c_17 c_20 g_24 c_31; omega) | omega)) ((by first | (clear ha_p0 ha_p2 hP9 ty_1 ty_2 c_3 hn_14 f_13 c_17 c_20 g_24 c_31; omega) | omega))
            refine lv_iinc (v := y_32) (lv' := [(6, .int y_32), (5, .int 0), (4, .int y_2), (0, .ref (a 66)), (2, .int p1)]) hx hb dX12_isLine_90 hl (k := 1) rfl (by rw [ey_32]; rfl) (lt_b rfl) rfl (fun ls hl => ?_)
            refine lv_goto (tgt := 48) hx hb dX12_isLine_93 rfl ?_
            have qc_33 : (0 : Int32).toInt = 0 := rfl
            exact ih_6 (6 - y_32.toInt : Int).toNat ((by first | (clear ha_p0 ha_p2 hP9 ty_1 ty_2 c_3 f_13 c_17 c_20 g_24 c_31; omega) | omega)) _ _ _ ⟨G_27, y_32, 0, (Int.toNat_of_nonneg ((by first | (clear ha_p0 ha_p2 hP9 ty_1 ty_2 c_3 hn_14 f_13 c_17 c_20 g_24 c_31; omega) | omega))), ⟨(by first | (clear ha_p0 ha_p2 hP9 ty_1 ty_2 c_3 hn_14 f_13 c_17 c_20 g_24 c_31; omega) | omega), (by first | (clear ha_p0 ha_p2 hP9 ty_1 ty_2 c_3 hn_14 f_13 c_17 c_20 g_24 c_31; omega) | omega)⟩, ⟨(by first | (clear ha_p0 ha_p2 hP9 ty_1 ty_2 c_3 hn_14 f_12 f_13 b_15 c_16 c_17 c_20 g_24 g_25 c_31 ty_32; omega) | omega), (by first | (clear ha_p0 ha_p2 hP9 ty_1 ty_2 c_3 hn_14 f_12 f_13 b_15 c_16 c_17 c_20 g_24 g_25 c_31 ty_32; omega) | omega)⟩, (hX_10.st (St_n_isLine_1_mk ⟨x_8, x_9, G_4, y_32, 0, G_27, rfl, rfl, f_12, f_13, hB_G_4, ⟨c_16, ⟨c_17, ⟨y_18, ey_18, ⟨y_19, ey_19, (Or.inl ⟨c_20, ⟨r_26, G_27, hX_30, (Or.inl ⟨c_31, ⟨y_32, ty_32, ⟨rfl, rfl, rfl⟩⟩⟩)⟩⟩)⟩⟩⟩⟩⟩)), hW, hB_G_27, hF, (Fr.call9 (rs := [76]) (fs := []) (Fr.call9 (rs := [76]) (fs := []) Fr.rf hq_5 rfl rfl) hq_28 rfl rfl), hS, lv_sub hl [0, 1, 2, 3, 4] rfl⟩
          · have c_31 : r_26.toInt ≠ 0 := xI_ne rfl rfl c_31
            refine ic_1 hx hb dX12_isLine_83 ?_
            refine lv_goto (tgt := 88) hx hb dX12_isLine_84 rfl ?_
            refine lv_istore (lv' := [(5, .int 1), (6, .int x_8), (4, .int y_2), (0, .ref (a 66)), (2, .int p1)]) hx hb dX12_isLine_88 hl (lt_b rfl) rfl (fun ls hl => ?_)
            obtain ⟨y_34, ey_34⟩ : ∃ q, q = x_8 + 1 := ⟨_, rfl⟩
            have ty_34 : y_34.toInt = x_8.toInt + 1 := xI_add rfl rfl ey_34 ((by first | (clear ha_p0 ha_p2 hP9 ty_1 ty_2 c_3 hn_14 f_13 c_17 c_20 g_24 c_31; omega) | omega)) ((by first | (clear ha_p0 ha_p2 hP9 ty_1 ty_2 c_3 hn_14 f_13 c_17 c_20 g_24 c_31; omega) | omega))
            refine lv_iinc (v := y_34) (lv' := [(6, .int y_34), (5, .int 1), (4, .int y_2), (0, .ref (a 66)), (2, .int p1)]) hx hb dX12_isLine_90 hl (k := 1) rfl (by rw [ey_34]; rfl) (lt_b rfl) rfl (fun ls hl => ?_)
            refine lv_goto (tgt := 48) hx hb dX12_isLine_93 rfl ?_
            have qc_35 : (1 : Int32).toInt = 1 := rfl
            exact ih_6 (6 - y_34.toInt : Int).toNat ((by first | (clear ha_p0 ha_p2 hP9 ty_1 ty_2 c_3 f_13 c_17 c_20 g_24 c_31; omega) | omega)) _ _ _ ⟨G_27, y_34, 1, (Int.toNat_of_nonneg ((by first | (clear ha_p0 ha_p2 hP9 ty_1 ty_2 c_3 hn_14 f_13 c_17 c_20 g_24 c_31; omega) | omega))), ⟨(by first | (clear ha_p0 ha_p2 hP9 ty_1 ty_2 c_3 hn_14 f_13 c_17 c_20 g_24 c_31; omega) | omega), (by first | (clear ha_p0 ha_p2 hP9 ty_1 ty_2 c_3 hn_14 f_13 c_17 c_20 g_24 c_31; omega) | omega)⟩, ⟨(by first | (clear ha_p0 ha_p2 hP9 ty_1 ty_2 c_3 hn_14 f_12 f_13 b_15 c_16 c_17 c_20 g_24 g_25 c_31 ty_34; omega) | omega), (by first | (clear ha_p0 ha_p2 hP9 ty_1 ty_2 c_3 hn_14 f_12 f_13 b_15 c_16 c_17 c_20 g_24 g_25 c_31 ty_34; omega) | omega)⟩, (hX_10.st (St_n_isLine_1_mk ⟨x_8, x_9, G_4, y_34, 1, G_27, rfl, rfl, f_12, f_13, hB_G_4, ⟨c_16, ⟨c_17, ⟨y_18, ey_18, ⟨y_19, ey_19, (Or.inl ⟨c_20, ⟨r_26, G_27, hX_30, (Or.inr ⟨c_31, ⟨y_34, ty_34, ⟨rfl, rfl, rfl⟩⟩⟩)⟩⟩)⟩⟩⟩⟩⟩)), hW, hB_G_27, hF, (Fr.call9 (rs := [76]) (fs := []) (Fr.call9 (rs := [76]) (fs := []) Fr.rf hq_5 rfl rfl) hq_28 rfl rfl), hS, lv_sub hl [0, 1, 2, 3, 4] rfl⟩
  · have c_3 : p1.toInt = 0 := xI_eq rfl rfl c_3
    refine lv_aload_n hx hb dX12_isLine_13 rfl (lv_at hl 1 rfl) ?_
    refine S_getR (n := 87) (C := RX12) (T := TX12) (N := 89) hx hb hg iX12 hown hK hW kd_66 rfl 35 (lt_b rfl) (hg (Cond.fieldLink RX12 75 "SlabWalkModel" "marks" "[I") m1349) (fun _ h9 => h9) rfl dX12_isLine_14 ?_
    refine lv_iload hx hb dX12_isLine_17 (lv_at hl 0 rfl) ?_
    refine S_iald hx hb hK hW kd_87 (vin (by omega) (by omega)) dX12_isLine_19 (fun y_36 ey_36 => ?_)
    refine lv_if_lt (tgt := 36) hx hb dX12_isLine_20 rfl (fun c_37 => ?_) (fun c_37 => ?_)
    · have c_37 : y_36.toInt < 0 := xI_lt rfl rfl c_37
      refine ic_1 hx hb dX12_isLine_36 ?_
      refine lv_goto (tgt := 41) hx hb dX12_isLine_37 rfl ?_
      exact W.zret (v := 1) hx hb hr (by decide) (fun t ht _ => ⟨⟨1, G, rfl, (Q_isLine_mk ⟨hB_G, hF, ⟨by decide, by decide⟩, ⟨y_1, ty_1, ⟨y_2, ty_2, (Or.inl ⟨c_3, ⟨y_36, ey_36, (Or.inl ⟨c_37, ⟨rfl, rfl⟩⟩)⟩⟩)⟩⟩⟩), wd_t ht hW⟩, hS.F ht⟩) hS.2.2 dX12_isLine_41
    · have c_37 : 0 ≤ y_36.toInt := xI_nlt rfl rfl c_37
      refine lv_aload_n hx hb dX12_isLine_23 rfl (lv_at hl 1 rfl) ?_
      refine S_getR (n := 87) (C := RX12) (T := TX12) (N := 89) hx hb hg iX12 hown hK hW kd_66 rfl 35 (lt_b rfl) (hg (Cond.fieldLink RX12 75 "SlabWalkModel" "marks" "[I") m1349) (fun _ h9 => h9) rfl dX12_isLine_24 ?_
      refine lv_iload hx hb dX12_isLine_27 (lv_at hl 0 rfl) ?_
      refine S_iald hx hb hK hW kd_87 (vin ((by first | (clear hP9 c_3 c_37; omega) | omega)) ((by first | (clear hP9 c_3 c_37; omega) | omega))) dX12_isLine_29 (fun y_38 ey_38 => ?_)
      refine lv_bipush (v := 6) hx hb dX12_isLine_30 (by decide) ?_
      refine lv_iand hx hb dX12_isLine_32 ?_
      refine lv_topi (fun y_39 ey_39 => ?_)
      have ty_39 := xI_and (Y := 6) rfl ey_39 (by decide)
      refine lv_if_eq (tgt := 40) hx hb dX12_isLine_33 rfl (fun c_40 => ?_) (fun c_40 => ?_)
      · have c_40 : y_39.toInt = 0 := xI_eq rfl rfl c_40
        refine ic_0 hx hb dX12_isLine_40 ?_
        exact W.zret (v := 0) hx hb hr (by decide) (fun t ht _ => ⟨⟨0, G, rfl, (Q_isLine_mk ⟨hB_G, hF, ⟨by decide, by decide⟩, ⟨y_1, ty_1, ⟨y_2, ty_2, (Or.inl ⟨c_3, ⟨y_36, ey_36, (Or.inr ⟨c_37, ⟨y_38, ey_38, ⟨y_39, ey_39, (Or.inl ⟨c_40, ⟨rfl, rfl⟩⟩)⟩⟩⟩)⟩⟩)⟩⟩⟩), wd_t ht hW⟩, hS.F ht⟩) hS.2.2 dX12_isLine_41
      · have c_40 : y_39.toInt ≠ 0 := xI_ne rfl rfl c_40
        refine ic_1 hx hb dX12_isLine_36 ?_
        refine lv_goto (tgt := 41) hx hb dX12_isLine_37 rfl ?_
        exact W.zret (v := 1) hx hb hr (by decide) (fun t ht _ => ⟨⟨1, G, rfl, (Q_isLine_mk ⟨hB_G, hF, ⟨by decide, by decide⟩, ⟨y_1, ty_1, ⟨y_2, ty_2, (Or.inl ⟨c_3, ⟨y_36, ey_36, (Or.inr ⟨c_37, ⟨y_38, ey_38, ⟨y_39, ey_39, (Or.inr ⟨c_40, ⟨rfl, rfl⟩⟩)⟩⟩⟩)⟩⟩)⟩⟩⟩), wd_t ht hW⟩, hS.F ht⟩) hS.2.2 dX12_isLine_41

set_option maxHeartbeats 4000000 in
set_option maxRecDepth 100000 in
theorem n_layStreet (l : Launch) (D : va_G) (k : KT) (A : Nat → Prop) (a : Nat → Nat) (z : SK) (G : GS) (p0 : Int32) (p1 : Int32) (p2 : Int32) (ha_p0 : 0 ≤ p0.toInt ∧ p0.toInt ≤ 3) (ha_p1 : 0 ≤ p1.toInt ∧ p1.toInt ≤ 2) (hP9 : gP G = 1) : Met l yX12_layStreet (WS yX12_layStreet cX12_layStreet 6 none) ({ frames := 4, cells := 0, slots := 0, locals := 92 }) (va_Pc [.ref (a 66), .int p0, .int p1, .int p2] (cW D k A a z G)) (va_Qv (fun (G1 : GS) => Q_layStreet p0 p1 p2 G G1) (fun (G1 : GS) t => Wd D k A a G1 t.heap) A) 0 0 A := by
  refine Met.ofW (cc := cX12_layStreet) (maxL := 6) (ret := none) (by decide) rfl ?_
  intro p e s m args below meth c s₁ B hml hv
  obtain ⟨rfl, hW, hB_G, hK, hZ⟩ := hv
  have hx := B.exec
  have hb := B.bytes
  have hr := B.returns
  have hts := atoms_spec (ws := WS yX12_layStreet cX12_layStreet 6 none) B.pre
  have hgd : ∀ w ∈ gd, w ∈ WS yX12_layStreet cX12_layStreet 6 none := fun w h => List.mem_cons_of_mem _ h
  have hg : ∀ w ∈ gd, w.before _ s = true := fun w h => hts w (hgd w h)
  have hown : s.vm.findClass RX12 = some m.cls := findClass_of_methodNamed B.named
  have hS : va_S A s.heap s.heap [] := va_S.rf
  have hF : Fr [76, 97, 98] [(66, 59), (66, 60), (66, 61), (66, 62), (66, 63)] G G := Fr.rf
  have hl := lv_entry ([.ref (a 66), .int p0, .int p1, .int p2]) (n := 6) (Nat.le_of_ble_eq_true rfl)
  rw [lg_entry_eq]
  generalize (lg_sl ([.ref (a 66), .int p0, .int p1, .int p2]) ++ List.replicate (6 - (lg_sl ([.ref (a 66), .int p0, .int p1, .int p2])).length) Slot.unset).toArray = ls at hl ⊢
  have hl : lv_has ls 6 [(0, .ref (a 66)), (1, .int p0), (2, .int p1), (3, .int p2)] := hl
  refine lv_aload_n hx hb dX12_layStreet_0 rfl (lv_at hl 0 rfl) ?_
  refine lv_aload_n hx hb dX12_layStreet_1 rfl (lv_at hl 0 rfl) ?_
  refine S_getR (n := 91) (C := RX12) (T := TX12) (N := 89) hx hb hg iX12 hown hK hW kd_66 rfl 39 (lt_b rfl) (hg (Cond.fieldLink RX12 87 "SlabWalkModel" "lengths" "[I") m1353) (fun _ h9 => h9) rfl dX12_layStreet_2 ?_
  refine lv_iload_n hx hb dX12_layStreet_5 rfl (lv_at hl 2 rfl) ?_
  refine S_iald hx hb hK hW kd_91 (vin (by omega) (by omega)) dX12_layStreet_6 (fun y_1 ey_1 => ?_)
  have ty_1 : 0 ≤ y_1.toInt ∧ y_1.toInt ≤ 400 := bv_91 hB_G ey_1
  have u_2 : y_1.toInt = (G.1 91 p1.toNatClampNeg).toInt := congrArg Int32.toInt (ey_1)
  refine S_putI (ty := .int) (C := RX12) (T := TX12) (N := 89) hx hb hg iX12 tyX12 tyX12_ok nmX12 hown hK hW hS kd_66 rfl 59 (lt_b rfl) (hg (Cond.fieldLink RX12 469 "SlabWalkModel" "inchesOf" "I") m1373) (fun _ h9 => h9) rfl (by decide +kernel) rfl rfl rfl dX12_layStreet_7 (fun G_3 H locs eG_3 hW hS => ?_)
  have hB_G_3 : Bd G_3 := hB_G.put (V := y_1.toInt) (lo := 0) (hi := 400) eG_3 rfl rfl rfl (by omega) (by omega) (hB_G.2.put eG_3 rfl)
  have hF := hF.put eG_3 (Or.inr (by decide))
  refine lv_aload_n hx hb dX12_layStreet_10 rfl (lv_at hl 0 rfl) ?_
  refine lv_aload_n hx hb dX12_layStreet_11 rfl (lv_at hl 0 rfl) ?_
  refine S_getR (n := 92) (C := RX12) (T := TX12) (N := 89) hx hb hg iX12 hown hK hW kd_66 rfl 40 (lt_b rfl) (hg (Cond.fieldLink RX12 90 "SlabWalkModel" "foots" "[I") m1354) (fun _ h9 => h9) rfl dX12_layStreet_12 ?_
  refine lv_iload_n hx hb dX12_layStreet_15 rfl (lv_at hl 1 rfl) ?_
  refine S_iald hx hb hK hW kd_92 (vin ((by first | (clear ha_p1 hP9 ty_1 u_2; omega) | omega)) ((by first | (clear ha_p1 hP9 ty_1 u_2; omega) | omega))) dX12_layStreet_16 (fun y_4 ey_4 => ?_)
  have ty_4 : 0 ≤ y_4.toInt ∧ y_4.toInt ≤ 12 := bv_92 hB_G_3 ey_4
  have u_5 : y_4.toInt = (G.1 92 p0.toNatClampNeg).toInt := congrArg Int32.toInt (ey_4.trans ((gp_ne eG_3 (fun q => absurd q.1 (Nat.ne_of_beq_eq_false rfl)))))
  refine S_putI (ty := .int) (C := RX12) (T := TX12) (N := 89) hx hb hg iX12 tyX12 tyX12_ok nmX12 hown hK hW hS kd_66 rfl 60 (lt_b rfl) (hg (Cond.fieldLink RX12 472 "SlabWalkModel" "foot" "I") m1374) (fun _ h9 => h9) rfl (by decide +kernel) rfl rfl rfl dX12_layStreet_17 (fun G_6 H locs eG_6 hW hS => ?_)
  have hB_G_6 : Bd G_6 := hB_G_3.put (V := y_4.toInt) (lo := 0) (hi := 12) eG_6 rfl rfl rfl ((by first | (clear ha_p1 hP9 ty_1 u_2; omega) | omega)) ((by first | (clear ha_p1 hP9 ty_1 u_2; omega) | omega)) (hB_G_3.2.put eG_6 rfl)
  have hF := hF.put eG_6 (Or.inr (by decide))
  refine lv_aload_n hx hb dX12_layStreet_20 rfl (lv_at hl 0 rfl) ?_
  refine lv_aload_n hx hb dX12_layStreet_21 rfl (lv_at hl 0 rfl) ?_
  refine S_getR (n := 93) (C := RX12) (T := TX12) (N := 89) hx hb hg iX12 hown hK hW kd_66 rfl 41 (lt_b rfl) (hg (Cond.fieldLink RX12 93 "SlabWalkModel" "leasts" "[I") m1355) (fun _ h9 => h9) rfl dX12_layStreet_22 ?_
  refine lv_iload_n hx hb dX12_layStreet_25 rfl (lv_at hl 1 rfl) ?_
  refine S_iald hx hb hK hW kd_93 (vin ((by first | (clear ha_p1 hP9 ty_1 u_2; omega) | omega)) ((by first | (clear ha_p1 hP9 ty_1 u_2; omega) | omega))) dX12_layStreet_26 (fun y_7 ey_7 => ?_)
  have ty_7 : 0 ≤ y_7.toInt ∧ y_7.toInt ≤ 60 := bv_93 hB_G_6 ey_7
  have u_8 : y_7.toInt = (G.1 93 p0.toNatClampNeg).toInt := congrArg Int32.toInt (ey_7.trans (((gp_ne eG_6 (fun q => absurd q.1 (Nat.ne_of_beq_eq_false rfl))).trans (gp_ne eG_3 (fun q => absurd q.1 (Nat.ne_of_beq_eq_false rfl))))))
  refine S_putI (ty := .int) (C := RX12) (T := TX12) (N := 89) hx hb hg iX12 tyX12 tyX12_ok nmX12 hown hK hW hS kd_66 rfl 61 (lt_b rfl) (hg (Cond.fieldLink RX12 475 "SlabWalkModel" "least" "I") m1375) (fun _ h9 => h9) rfl (by decide +kernel) rfl rfl rfl dX12_layStreet_27 (fun G_9 H locs eG_9 hW hS => ?_)
  have hB_G_9 : Bd G_9 := hB_G_6.put (V := y_7.toInt) (lo := 0) (hi := 60) eG_9 rfl rfl rfl ((by first | (clear ha_p1 hP9 ty_1 u_2; omega) | omega)) ((by first | (clear ha_p1 hP9 ty_1 u_2; omega) | omega)) (hB_G_6.2.put eG_9 rfl)
  have hF := hF.put eG_9 (Or.inr (by decide))
  refine lv_aload_n hx hb dX12_layStreet_30 rfl (lv_at hl 0 rfl) ?_
  refine lv_aload_n hx hb dX12_layStreet_31 rfl (lv_at hl 0 rfl) ?_
  refine S_getR (n := 94) (C := RX12) (T := TX12) (N := 89) hx hb hg iX12 hown hK hW kd_66 rfl 42 (lt_b rfl) (hg (Cond.fieldLink RX12 96 "SlabWalkModel" "mosts" "[I") m1356) (fun _ h9 => h9) rfl dX12_layStreet_32 ?_
  refine lv_iload_n hx hb dX12_layStreet_35 rfl (lv_at hl 1 rfl) ?_
  refine S_iald hx hb hK hW kd_94 (vin ((by first | (clear ha_p1 hP9 ty_1 u_2; omega) | omega)) ((by first | (clear ha_p1 hP9 ty_1 u_2; omega) | omega))) dX12_layStreet_36 (fun y_10 ey_10 => ?_)
  have ty_10 : 0 ≤ y_10.toInt ∧ y_10.toInt ≤ 60 := bv_94 hB_G_9 ey_10
  have u_11 : y_10.toInt = (G.1 94 p0.toNatClampNeg).toInt := congrArg Int32.toInt (ey_10.trans (((gp_ne eG_9 (fun q => absurd q.1 (Nat.ne_of_beq_eq_false rfl))).trans ((gp_ne eG_6 (fun q => absurd q.1 (Nat.ne_of_beq_eq_false rfl))).trans (gp_ne eG_3 (fun q => absurd q.1 (Nat.ne_of_beq_eq_false rfl)))))))
  refine S_putI (ty := .int) (C := RX12) (T := TX12) (N := 89) hx hb hg iX12 tyX12 tyX12_ok nmX12 hown hK hW hS kd_66 rfl 62 (lt_b rfl) (hg (Cond.fieldLink RX12 478 "SlabWalkModel" "most" "I") m1376) (fun _ h9 => h9) rfl (by decide +kernel) rfl rfl rfl dX12_layStreet_37 (fun G_12 H locs eG_12 hW hS => ?_)
  have hB_G_12 : Bd G_12 := hB_G_9.put (V := y_10.toInt) (lo := 0) (hi := 60) eG_12 rfl rfl rfl ((by first | (clear ha_p1 hP9 ty_1 u_2; omega) | omega)) ((by first | (clear ha_p1 hP9 ty_1 u_2; omega) | omega)) (hB_G_9.2.put eG_12 rfl)
  have hF := hF.put eG_12 (Or.inr (by decide))
  refine lv_aload_n hx hb dX12_layStreet_40 rfl (lv_at hl 0 rfl) ?_
  refine lv_aload_n hx hb dX12_layStreet_41 rfl (lv_at hl 0 rfl) ?_
  refine S_getR (n := 95) (C := RX12) (T := TX12) (N := 89) hx hb hg iX12 hown hK hW kd_66 rfl 43 (lt_b rfl) (hg (Cond.fieldLink RX12 99 "SlabWalkModel" "leaps" "[I") m1357) (fun _ h9 => h9) rfl dX12_layStreet_42 ?_
  refine lv_iload_n hx hb dX12_layStreet_45 rfl (lv_at hl 1 rfl) ?_
  refine S_iald hx hb hK hW kd_95 (vin ((by first | (clear ha_p1 hP9 ty_1 u_2; omega) | omega)) ((by first | (clear ha_p1 hP9 ty_1 u_2; omega) | omega))) dX12_layStreet_46 (fun y_13 ey_13 => ?_)
  have ty_13 : 0 ≤ y_13.toInt ∧ y_13.toInt ≤ 99 := bv_95 hB_G_12 ey_13
  have u_14 : y_13.toInt = (G.1 95 p0.toNatClampNeg).toInt := congrArg Int32.toInt (ey_13.trans (((gp_ne eG_12 (fun q => absurd q.1 (Nat.ne_of_beq_eq_false rfl))).trans ((gp_ne eG_9 (fun q => absurd q.1 (Nat.ne_of_beq_eq_false rfl))).trans ((gp_ne eG_6 (fun q => absurd q.1 (Nat.ne_of_beq_eq_false rfl))).trans (gp_ne eG_3 (fun q => absurd q.1 (Nat.ne_of_beq_eq_false rfl))))))))
  refine S_putI (ty := .int) (C := RX12) (T := TX12) (N := 89) hx hb hg iX12 tyX12 tyX12_ok nmX12 hown hK hW hS kd_66 rfl 63 (lt_b rfl) (hg (Cond.fieldLink RX12 481 "SlabWalkModel" "leap" "I") m1377) (fun _ h9 => h9) rfl (by decide +kernel) rfl rfl rfl dX12_layStreet_47 (fun G_15 H locs eG_15 hW hS => ?_)
  have hB_G_15 : Bd G_15 := hB_G_12.put (V := y_13.toInt) (lo := 0) (hi := 99) eG_15 rfl rfl rfl ((by first | (clear ha_p1 hP9 ty_1 u_2; omega) | omega)) ((by first | (clear ha_p1 hP9 ty_1 u_2; omega) | omega)) (hB_G_12.2.put eG_15 rfl)
  have hF := hF.put eG_15 (Or.inr (by decide))
  refine ic_0 hx hb dX12_layStreet_50 ?_
  refine lv_istore (lv' := [(4, .int 0), (0, .ref (a 66)), (1, .int p0), (2, .int p1), (3, .int p2)]) hx hb dX12_layStreet_51 hl (lt_b rfl) rfl (fun ls hl => ?_)
  have qc_22 : (0 : Int32).toInt = 0 := rfl
  refine loop_N (Inv := fun n H locs ls => ∃ (G_16 : GS) (x_20 : Int32), (n : Int) = 400 - x_20.toInt ∧ (0 ≤ x_20.toInt ∧ x_20.toInt ≤ 400) ∧ Rc (St_n_layStreet_1 p1 p2 y_1) (0, G_15) (x_20, G_16) ∧ Wd D k A a G_16 H ∧ Bd G_16 ∧ Fr [76, 97, 98] [(66, 59), (66, 60), (66, 61), (66, 62), (66, 63)] G G_16 ∧ Fr [76, 97] [] G_15 G_16 ∧ va_S A s.heap H locs ∧ lv_has ls 6 [(4, .int x_20), (0, .ref (a 66)), (2, .int p1), (3, .int p2)]) (fun n_19 H locs ls ih_18 hI => ?_) (400 - 0 : Int).toNat ⟨G_15, 0, (Int.toNat_of_nonneg ((by first | (clear ha_p0 ha_p1 hP9 ty_1 u_2 ty_4 u_5 ty_7 u_8 ty_10 u_11 ty_13 u_14; omega) | omega))), ⟨(by first | (clear ha_p0 ha_p1 hP9 ty_1 u_2 ty_4 u_5 ty_7 u_8 ty_10 u_11 ty_13 u_14; omega) | omega), (by first | (clear ha_p0 ha_p1 hP9 ty_1 u_2 ty_4 u_5 ty_7 u_8 ty_10 u_11 ty_13 u_14; omega) | omega)⟩, Rc.rf, hW, hB_G_15, hF, Fr.rf, hS, lv_sub hl [0, 1, 3, 4] rfl⟩
  obtain ⟨G_16, x_20, hn_24, f_23, hX_21, hW, hB_G_16, hF, hq_17, hS, hl⟩ := hI
  refine lv_iload hx hb dX12_layStreet_53 (lv_at hl 0 rfl) ?_
  refine lv_aload_n hx hb dX12_layStreet_55 rfl (lv_at hl 1 rfl) ?_
  refine S_getI (v := y_1) (C := RX12) (T := TX12) (N := 89) hx hb hg iX12 hown hK hW kd_66 rfl 59 (lt_b rfl) (hg (Cond.fieldLink RX12 469 "SlabWalkModel" "inchesOf" "I") m1373) (fun _ h9 => h9) rfl ((hq_17.i9 66 59 rfl rfl).trans ((gp_ne eG_15 (by decide)).trans ((gp_ne eG_12 (by decide)).trans ((gp_ne eG_9 (by decide)).trans ((gp_ne eG_6 (by decide)).trans (gp_eq eG_3)))))) dX12_layStreet_56 ?_
  refine lv_icmp_ge (tgt := 83) hx hb dX12_layStreet_59 rfl (fun c_25 => ?_) (fun c_25 => ?_)
  · have c_25 : y_1.toInt ≤ x_20.toInt := xI_le rfl rfl c_25
    refine ic_0 hx hb dX12_layStreet_83 ?_
    refine lv_istore (lv' := [(4, .int 0), (0, .ref (a 66)), (2, .int p1), (3, .int p2)]) hx hb dX12_layStreet_84 hl (lt_b rfl) rfl (fun ls hl => ?_)
    have g_32 : (G_16.1 66 60).toInt = y_4.toInt := (congrArg Int32.toInt (show G_16.1 66 60 = y_4 from ((hq_17.i9 66 60 rfl rfl).trans ((gp_ne eG_15 (by decide)).trans ((gp_ne eG_12 (by decide)).trans ((gp_ne eG_9 (by decide)).trans (gp_eq eG_6)))))))
    have b_33 : 0 ≤ (G.1 98 400).toInt ∧ (G.1 98 400).toInt ≤ 1 := bd_98_400 hB_G
    have g_34 : (G_16.1 98 400).toInt = (G.1 98 400).toInt := (congrArg Int32.toInt (show G_16.1 98 400 = (G.1 98 400) from ((hq_17.i9 98 400 rfl rfl).trans ((gp_ne eG_15 (by decide)).trans ((gp_ne eG_12 (by decide)).trans ((gp_ne eG_9 (by decide)).trans ((gp_ne eG_6 (by decide)).trans (gp_ne eG_3 (by decide)))))))))
    have qc_35 : (0 : Int32).toInt = 0 := rfl
    refine loop_N (Inv := fun n H locs ls => ∃ (G_26 : GS) (x_30 : Int32), (n : Int) = 512 - x_30.toInt ∧ (0 ≤ x_30.toInt ∧ x_30.toInt ≤ 512) ∧ (x_30.toInt ≤ 400 ∨ (G_26.1 66 60).toInt = 0 ∨ (G_26.1 98 400).toInt = 0) ∧ Rc (St_n_layStreet_2 y_4) (0, G_16) (x_30, G_26) ∧ Wd D k A a G_26 H ∧ Bd G_26 ∧ Fr [76, 97, 98] [(66, 59), (66, 60), (66, 61), (66, 62), (66, 63)] G G_26 ∧ Fr [98] [] G_16 G_26 ∧ va_S A s.heap H locs ∧ lv_has ls 6 [(4, .int x_30), (0, .ref (a 66))]) (fun n_29 H locs ls ih_28 hI => ?_) (512 - 0 : Int).toNat ⟨G_16, 0, (Int.toNat_of_nonneg ((by first | (clear ha_p0 ha_p1 hP9 ty_1 u_2 ty_4 u_5 ty_7 u_8 ty_10 u_11 ty_13 u_14 hn_24 f_23 c_25 g_32 b_33 g_34; omega) | omega))), ⟨(by first | (clear ha_p0 ha_p1 hP9 ty_1 u_2 ty_4 u_5 ty_7 u_8 ty_10 u_11 ty_13 u_14 hn_24 f_23 c_25 g_32 b_33 g_34; omega) | omega), (by first | (clear ha_p0 ha_p1 hP9 ty_1 u_2 ty_4 u_5 ty_7 u_8 ty_10 u_11 ty_13 u_14 hn_24 f_23 c_25 g_32 b_33 g_34; omega) | omega)⟩, ((by first | (clear ha_p1 hP9 ty_1 u_2 hn_24 f_23 c_25; omega) | omega)), Rc.rf, hW, hB_G_16, hF, Fr.rf, hS, lv_sub hl [0, 1] rfl⟩
    obtain ⟨G_26, x_30, hn_38, f_36, f_37, hX_31, hW, hB_G_26, hF, hq_27, hS, hl⟩ := hI
    have g_39 : (G_26.1 66 60).toInt = y_4.toInt := (congrArg Int32.toInt (show G_26.1 66 60 = y_4 from ((hq_27.i9 66 60 rfl rfl).trans ((hq_17.i9 66 60 rfl rfl).trans ((gp_ne eG_15 (by decide)).trans ((gp_ne eG_12 (by decide)).trans ((gp_ne eG_9 (by decide)).trans (gp_eq eG_6))))))))
    have b_40 : 0 ≤ (G_26.1 98 400).toInt ∧ (G_26.1 98 400).toInt ≤ 1 := bd_98_400 hB_G_26
    refine lv_iload hx hb dX12_layStreet_86 (lv_at hl 0 rfl) ?_
    refine lv_sipush (v := 512) hx hb dX12_layStreet_88 (by decide) ?_
    refine lv_icmp_ge (tgt := 167) hx hb dX12_layStreet_91 rfl (fun c_41 => ?_) (fun c_41 => ?_)
    · have c_41 : 512 ≤ x_30.toInt := xI_le rfl rfl c_41
      have g_42 : (G_26.1 66 59).toInt = y_1.toInt := (congrArg Int32.toInt (show G_26.1 66 59 = y_1 from ((hq_27.i9 66 59 rfl rfl).trans ((hq_17.i9 66 59 rfl rfl).trans ((gp_ne eG_15 (by decide)).trans ((gp_ne eG_12 (by decide)).trans ((gp_ne eG_9 (by decide)).trans ((gp_ne eG_6 (by decide)).trans (gp_eq eG_3)))))))))
      have g_43 : (G_26.1 66 60).toInt = y_4.toInt := (congrArg Int32.toInt (show G_26.1 66 60 = y_4 from ((hq_27.i9 66 60 rfl rfl).trans ((hq_17.i9 66 60 rfl rfl).trans ((gp_ne eG_15 (by decide)).trans ((gp_ne eG_12 (by decide)).trans ((gp_ne eG_9 (by decide)).trans (gp_eq eG_6))))))))
      have g_44 : (G_26.1 66 61).toInt = y_7.toInt := (congrArg Int32.toInt (show G_26.1 66 61 = y_7 from ((hq_27.i9 66 61 rfl rfl).trans ((hq_17.i9 66 61 rfl rfl).trans ((gp_ne eG_15 (by decide)).trans ((gp_ne eG_12 (by decide)).trans (gp_eq eG_9)))))))
      have g_45 : (G_26.1 66 62).toInt = y_10.toInt := (congrArg Int32.toInt (show G_26.1 66 62 = y_10 from ((hq_27.i9 66 62 rfl rfl).trans ((hq_17.i9 66 62 rfl rfl).trans ((gp_ne eG_15 (by decide)).trans (gp_eq eG_12))))))
      have g_46 : (G_26.1 66 63).toInt = y_13.toInt := (congrArg Int32.toInt (show G_26.1 66 63 = y_13 from ((hq_27.i9 66 63 rfl rfl).trans ((hq_17.i9 66 63 rfl rfl).trans (gp_eq eG_15)))))
      exact W.vret hx hb hr (fun t ht _ => ⟨⟨G_26, rfl, (Q_layStreet_mk ⟨hB_G_26, hF, ((by first | exact ⟨((by first | (clear ha_p0 hP9 ty_4 u_5 ty_7 u_8 ty_10 u_11 ty_13 u_14 hn_24 g_32 b_33 g_34 hn_38 f_36 f_37 g_39 b_40 c_41 g_43 g_44 g_45 g_46; omega) | omega)), ⟨((by first | (clear ha_p1 hP9 ty_1 u_2 hn_24 f_23 c_25 b_33 g_34 hn_38 g_42; omega) | omega)), ⟨((by first | (clear ha_p1 hP9 ty_1 u_2 hn_24 f_23 c_25 b_33 g_34 hn_38 g_42; omega) | omega)), ⟨((by first | (clear ha_p1 hP9 ty_1 u_2 hn_24 f_23 c_25 b_33 g_34 hn_38 g_42; omega) | omega)), ⟨((by first | (clear ha_p1 hP9 ty_1 u_2 hn_24 f_23 c_25 b_33 g_34 hn_38 g_42; omega) | omega)), (fun h9 => ((by first | (clear ha_p1 hP9 ty_1 u_2 hn_24 f_23 c_25 b_33 g_34 hn_38 g_42; omega) | omega)))⟩⟩⟩⟩⟩ | omega)), ⟨y_1, ey_1, ⟨y_4, ey_4.trans (congrFun (rw_put eG_3 (by decide)) _), ⟨y_7, ey_7.trans (congrFun ((rw_put eG_6 (by decide)).trans (rw_put eG_3 (by decide))) _), ⟨y_10, ey_10.trans (congrFun ((rw_put eG_9 (by decide)).trans ((rw_put eG_6 (by decide)).trans (rw_put eG_3 (by decide)))) _), ⟨y_13, ey_13.trans (congrFun ((rw_put eG_12 (by decide)).trans ((rw_put eG_9 (by decide)).trans ((rw_put eG_6 (by decide)).trans (rw_put eG_3 (by decide))))) _), ⟨G_15, hB_G_15, (Fr.put (rs := []) (fs := [(66, 59), (66, 60), (66, 61), (66, 62), (66, 63)]) (Fr.put (rs := []) (fs := [(66, 59), (66, 60), (66, 61), (66, 62), (66, 63)]) (Fr.put (rs := []) (fs := [(66, 59), (66, 60), (66, 61), (66, 62), (66, 63)]) (Fr.put (rs := []) (fs := [(66, 59), (66, 60), (66, 61), (66, 62), (66, 63)]) (Fr.put (rs := []) (fs := [(66, 59), (66, 60), (66, 61), (66, 62), (66, 63)]) Fr.rf eG_3 (Or.inr (by decide))) eG_6 (Or.inr (by decide))) eG_9 (Or.inr (by decide))) eG_12 (Or.inr (by decide))) eG_15 (Or.inr (by decide))), ((gp_ne eG_15 (by decide)).trans ((gp_ne eG_12 (by decide)).trans ((gp_ne eG_9 (by decide)).trans ((gp_ne eG_6 (by decide)).trans (gp_eq eG_3))))), ((gp_ne eG_15 (by decide)).trans ((gp_ne eG_12 (by decide)).trans ((gp_ne eG_9 (by decide)).trans (gp_eq eG_6)))), ((gp_ne eG_15 (by decide)).trans ((gp_ne eG_12 (by decide)).trans (gp_eq eG_9))), ((gp_ne eG_15 (by decide)).trans (gp_eq eG_12)), (gp_eq eG_15), ⟨x_20, G_16, hX_21, f_23, hB_G_16, hq_17, ⟨c_25, ⟨x_30, G_26, hX_31, f_36, f_37, hB_G_26, hq_27, ⟨c_41, rfl⟩⟩⟩⟩⟩⟩⟩⟩⟩⟩⟩), wd_t ht hW⟩, hS.F ht⟩) hS.2.2 dX12_layStreet_167
    · have c_41 : x_30.toInt < 512 := xI_nle rfl rfl c_41
      refine lv_aload_n hx hb dX12_layStreet_94 rfl (lv_at hl 1 rfl) ?_
      refine S_getR (n := 98) (C := RX12) (T := TX12) (N := 89) hx hb hg iX12 hown hK hW kd_66 rfl 58 (lt_b rfl) (hg (Cond.fieldLink RX12 115 "SlabWalkModel" "lawful" "[Z") m1372) (fun _ h9 => h9) rfl dX12_layStreet_95 ?_
      refine lv_iload hx hb dX12_layStreet_98 (lv_at hl 0 rfl) ?_
      refine lv_aload_n hx hb dX12_layStreet_100 rfl (lv_at hl 1 rfl) ?_
      refine lv_iload hx hb dX12_layStreet_101 (lv_at hl 0 rfl) ?_
      have g_47 : (G_26.1 66 59).toInt = y_1.toInt := (congrArg Int32.toInt (show G_26.1 66 59 = y_1 from ((hq_27.i9 66 59 rfl rfl).trans ((hq_17.i9 66 59 rfl rfl).trans ((gp_ne eG_15 (by decide)).trans ((gp_ne eG_12 (by decide)).trans ((gp_ne eG_9 (by decide)).trans ((gp_ne eG_6 (by decide)).trans (gp_eq eG_3)))))))))
      have g_48 : (G_26.1 66 60).toInt = y_4.toInt := (congrArg Int32.toInt (show G_26.1 66 60 = y_4 from ((hq_27.i9 66 60 rfl rfl).trans ((hq_17.i9 66 60 rfl rfl).trans ((gp_ne eG_15 (by decide)).trans ((gp_ne eG_12 (by decide)).trans ((gp_ne eG_9 (by decide)).trans (gp_eq eG_6))))))))
      refine S_calli (va_runV (As := [.int x_30]) (rest := [.int x_30, .ref (a 98)]) ⟨hx, hb, hml, hown, hts⟩ (n_stands1 l D k A a z G_26 x_30 ) (cwV 1 hts (gd_V hgd m1838 m1840 m92 m131 m1841) rfl rfl rfl hd_X12_doesStand ⟨Nat.le_of_ble_eq_true rfl, Nat.le_of_ble_eq_true rfl⟩) (pre_W hW hB_G_26 hK hZ hS kd_66 rfl) rfl rfl hl.1 rfl (lv_room (Nat.le_of_ble_eq_true rfl)) dX12_layStreet_103 ⟨Nat.le_of_ble_eq_true rfl, Nat.le_of_ble_eq_true rfl⟩) hS (fun r_49 G_50 H locs hpo hW hS => ?_)
      have hX_53 : Q_stands1 x_30 G_26 r_49 G_50 := hpo
      obtain ⟨hB_G_50, hq_51, f_54, ⟨d_1, d_2⟩, -⟩ := hpo
      have hF := hF.call9 hq_51 rfl rfl
      have g_55 : (G_50.1 98 400).toInt = (G_26.1 98 400).toInt := (congrArg Int32.toInt (show G_50.1 98 400 = (G_26.1 98 400) from ((hq_51.i9 98 400 rfl rfl).trans (rfl))))
      refine S_zast hx hb hK hW hS kd_98 (vin ((by first | (clear hP9 hn_24 f_23 b_33 g_34 hn_38; omega) | omega)) ((by first | (clear hP9 hn_24 f_23 b_33 g_34 hn_38; omega) | omega))) dX12_layStreet_106 (fun G_56 H locs eG_56 hW hS => ?_)
      have hB_G_56 : Bd G_56 := hB_G_50.putLaw eG_56 (by omega) (by omega)
      have hF := hF.put eG_56 (Or.inl (by decide))
      have u_57 := st400 eG_56 (by omega)
      have u_58 := nar_at eG_56 (by omega) (by omega)
      refine lv_iload hx hb dX12_layStreet_107 (lv_at hl 0 rfl) ?_
      refine lv_istore (lv' := [(5, .int x_30), (4, .int x_30), (0, .ref (a 66))]) hx hb dX12_layStreet_109 hl (lt_b rfl) rfl (fun ls hl => ?_)
      have g_65 : (G_56.1 66 59).toInt = y_1.toInt := (congrArg Int32.toInt (show G_56.1 66 59 = y_1 from ((gp_ne eG_56 (fun q => absurd q.1 (Nat.ne_of_beq_eq_false rfl))).trans ((hq_51.i9 66 59 rfl rfl).trans ((hq_27.i9 66 59 rfl rfl).trans ((hq_17.i9 66 59 rfl rfl).trans ((gp_ne eG_15 (by decide)).trans ((gp_ne eG_12 (by decide)).trans ((gp_ne eG_9 (by decide)).trans ((gp_ne eG_6 (by decide)).trans (gp_eq eG_3)))))))))))
      have g_66 : (G_56.1 66 60).toInt = y_4.toInt := (congrArg Int32.toInt (show G_56.1 66 60 = y_4 from ((gp_ne eG_56 (fun q => absurd q.1 (Nat.ne_of_beq_eq_false rfl))).trans ((hq_51.i9 66 60 rfl rfl).trans ((hq_27.i9 66 60 rfl rfl).trans ((hq_17.i9 66 60 rfl rfl).trans ((gp_ne eG_15 (by decide)).trans ((gp_ne eG_12 (by decide)).trans ((gp_ne eG_9 (by decide)).trans (gp_eq eG_6))))))))))
      have g_67 : (G_56.1 66 60).toInt = y_4.toInt := (congrArg Int32.toInt (show G_56.1 66 60 = y_4 from ((gp_ne eG_56 (fun q => absurd q.1 (Nat.ne_of_beq_eq_false rfl))).trans ((hq_51.i9 66 60 rfl rfl).trans ((hq_27.i9 66 60 rfl rfl).trans ((hq_17.i9 66 60 rfl rfl).trans ((gp_ne eG_15 (by decide)).trans ((gp_ne eG_12 (by decide)).trans ((gp_ne eG_9 (by decide)).trans (gp_eq eG_6))))))))))
      have b_68 : 0 ≤ (G_56.1 98 400).toInt ∧ (G_56.1 98 400).toInt ≤ 1 := bd_98_400 hB_G_56
      refine loop_N (Inv := fun n H locs ls => ∃ (G_59 : GS) (x_63 : Int32), (n : Int) = 523 - x_63.toInt ∧ (0 ≤ x_63.toInt ∧ x_63.toInt ≤ 523) ∧ (x_30.toInt + (G_59.1 66 60).toInt ≤ (G_59.1 66 59).toInt ∨ (G_59.1 98 x_30.toNatClampNeg).toInt = 0) ∧ (x_30.toInt ≤ x_63.toInt) ∧ (x_30.toInt ≤ 399 ∨ (G_59.1 66 60).toInt = 0 ∨ (G_59.1 98 400).toInt = 0) ∧ Rc (St_n_layStreet_3 y_4 x_30) (x_30, G_56) (x_63, G_59) ∧ Wd D k A a G_59 H ∧ Bd G_59 ∧ Fr [76, 97, 98] [(66, 59), (66, 60), (66, 61), (66, 62), (66, 63)] G G_59 ∧ Fr [98] [] G_56 G_59 ∧ va_S A s.heap H locs ∧ lv_has ls 6 [(5, .int x_63), (4, .int x_30), (0, .ref (a 66))]) (fun n_62 H locs ls ih_61 hI => ?_) (523 - x_30.toInt : Int).toNat ⟨G_56, x_30, (Int.toNat_of_nonneg ((by first | (clear hP9 hn_24 f_23 b_33 g_34 hn_38 b_68; omega) | omega))), ⟨(by first | (clear hP9 hn_24 f_23 b_33 g_34 hn_38 b_68; omega) | omega), (by first | (clear hP9 hn_24 f_23 b_33 g_34 hn_38 b_68; omega) | omega)⟩, ((by first | (clear hP9 hn_24 b_33 g_34 hn_38 b_68; omega) | omega)), ((by first | (clear hP9 hn_24 f_23 b_33 g_34 hn_38 b_68; omega) | omega)), ((by first | (clear hP9 hn_24 f_23 b_33 g_34 hn_38; omega) | omega)), Rc.rf, hW, hB_G_56, hF, Fr.rf, hS, lv_sub hl [0, 1, 2] rfl⟩
      obtain ⟨G_59, x_63, hn_73, f_69, f_70, f_71, f_72, hX_64, hW, hB_G_59, hF, hq_60, hS, hl⟩ := hI
      have g_74 : (G_59.1 66 59).toInt = y_1.toInt := (congrArg Int32.toInt (show G_59.1 66 59 = y_1 from ((hq_60.i9 66 59 rfl rfl).trans ((gp_ne eG_56 (fun q => absurd q.1 (Nat.ne_of_beq_eq_false rfl))).trans ((hq_51.i9 66 59 rfl rfl).trans ((hq_27.i9 66 59 rfl rfl).trans ((hq_17.i9 66 59 rfl rfl).trans ((gp_ne eG_15 (by decide)).trans ((gp_ne eG_12 (by decide)).trans ((gp_ne eG_9 (by decide)).trans ((gp_ne eG_6 (by decide)).trans (gp_eq eG_3))))))))))))
      have g_75 : (G_59.1 66 60).toInt = y_4.toInt := (congrArg Int32.toInt (show G_59.1 66 60 = y_4 from ((hq_60.i9 66 60 rfl rfl).trans ((gp_ne eG_56 (fun q => absurd q.1 (Nat.ne_of_beq_eq_false rfl))).trans ((hq_51.i9 66 60 rfl rfl).trans ((hq_27.i9 66 60 rfl rfl).trans ((hq_17.i9 66 60 rfl rfl).trans ((gp_ne eG_15 (by decide)).trans ((gp_ne eG_12 (by decide)).trans ((gp_ne eG_9 (by decide)).trans (gp_eq eG_6)))))))))))
      have g_76 : (G_59.1 66 60).toInt = y_4.toInt := (congrArg Int32.toInt (show G_59.1 66 60 = y_4 from ((hq_60.i9 66 60 rfl rfl).trans ((gp_ne eG_56 (fun q => absurd q.1 (Nat.ne_of_beq_eq_false rfl))).trans ((hq_51.i9 66 60 rfl rfl).trans ((hq_27.i9 66 60 rfl rfl).trans ((hq_17.i9 66 60 rfl rfl).trans ((gp_ne eG_15 (by decide)).trans ((gp_ne eG_12 (by decide)).trans ((gp_ne eG_9 (by decide)).trans (gp_eq eG_6)))))))))))
      have b_77 : 0 ≤ (G_59.1 98 400).toInt ∧ (G_59.1 98 400).toInt ≤ 1 := bd_98_400 hB_G_59
      refine lv_iload hx hb dX12_layStreet_111 (lv_at hl 0 rfl) ?_
      refine lv_iload hx hb dX12_layStreet_113 (lv_at hl 1 rfl) ?_
      refine lv_aload_n hx hb dX12_layStreet_115 rfl (lv_at hl 2 rfl) ?_
      refine S_getI (v := y_4) (C := RX12) (T := TX12) (N := 89) hx hb hg iX12 hown hK hW kd_66 rfl 60 (lt_b rfl) (hg (Cond.fieldLink RX12 472 "SlabWalkModel" "foot" "I") m1374) (fun _ h9 => h9) rfl ((hq_60.i9 66 60 rfl rfl).trans ((gp_ne eG_56 (fun q => absurd q.1 (Nat.ne_of_beq_eq_false rfl))).trans ((hq_51.i9 66 60 rfl rfl).trans ((hq_27.i9 66 60 rfl rfl).trans ((hq_17.i9 66 60 rfl rfl).trans ((gp_ne eG_15 (by decide)).trans ((gp_ne eG_12 (by decide)).trans ((gp_ne eG_9 (by decide)).trans (gp_eq eG_6))))))))) dX12_layStreet_116 ?_
      refine lv_iadd hx hb dX12_layStreet_119 ?_
      refine lv_topi (fun y_78 ey_78 => ?_)
      have ty_78 : y_78.toInt = x_30.toInt + y_4.toInt := xI_add rfl rfl ey_78 ((by first | (clear hP9 hn_24 f_23 b_33 g_34 hn_38 b_68 hn_73; omega) | omega)) ((by first | (clear hP9 hn_24 f_23 b_33 g_34 hn_38 b_68 hn_73; omega) | omega))
      refine lv_icmp_ge (tgt := 161) hx hb dX12_layStreet_120 rfl (fun c_79 => ?_) (fun c_79 => ?_)
      · have c_79 : y_78.toInt ≤ x_63.toInt := xI_le rfl rfl c_79
        obtain ⟨y_80, ey_80⟩ : ∃ q, q = x_30 + 1 := ⟨_, rfl⟩
        have ty_80 : y_80.toInt = x_30.toInt + 1 := xI_add rfl rfl ey_80 ((by first | (clear hP9 hn_24 f_23 b_33 g_34 hn_38 b_68 hn_73; omega) | omega)) ((by first | (clear hP9 hn_24 f_23 b_33 g_34 hn_38 b_68 hn_73; omega) | omega))
        refine lv_iinc (v := y_80) (lv' := [(4, .int y_80), (5, .int x_63), (0, .ref (a 66))]) hx hb dX12_layStreet_161 hl (k := 1) rfl (by rw [ey_80]; rfl) (lt_b rfl) rfl (fun ls hl => ?_)
        refine lv_goto (tgt := 86) hx hb dX12_layStreet_164 rfl ?_
        have g_81 : (G_59.1 66 60).toInt = y_4.toInt := (congrArg Int32.toInt (show G_59.1 66 60 = y_4 from ((hq_60.i9 66 60 rfl rfl).trans ((gp_ne eG_56 (fun q => absurd q.1 (Nat.ne_of_beq_eq_false rfl))).trans ((hq_51.i9 66 60 rfl rfl).trans ((hq_27.i9 66 60 rfl rfl).trans ((hq_17.i9 66 60 rfl rfl).trans ((gp_ne eG_15 (by decide)).trans ((gp_ne eG_12 (by decide)).trans ((gp_ne eG_9 (by decide)).trans (gp_eq eG_6)))))))))))
        exact ih_28 (512 - y_80.toInt : Int).toNat ((by first | (clear hP9 f_23 b_33 g_34 b_68; omega) | omega)) _ _ _ ⟨G_59, y_80, (Int.toNat_of_nonneg ((by first | (clear hP9 hn_24 f_23 b_33 g_34 hn_38 b_68 hn_73; omega) | omega))), ⟨(by first | (clear hP9 hn_24 f_23 b_33 g_34 hn_38 b_68 hn_73; omega) | omega), (by first | (clear hP9 hn_24 f_23 b_33 g_34 hn_38 b_68 hn_73; omega) | omega)⟩, ((by first | (clear hP9 hn_24 f_23 b_33 g_34 hn_38 b_68 hn_73; omega) | omega)), (hX_31.st (St_n_layStreet_2_mk ⟨x_30, G_26, y_80, G_59, rfl, rfl, f_36, f_37, hB_G_26, ⟨c_41, ⟨r_49, G_50, hX_53, ⟨G_56, hB_G_56, (Fr.put (rs := [98]) (fs := []) Fr.rf eG_56 (Or.inl (by decide))), rw_ast eG_56, ⟨x_63, G_59, hX_64, f_69, f_70, f_71, f_72, hB_G_59, hq_60, ⟨y_78, ty_78, (Or.inl ⟨c_79, ⟨y_80, ty_80, ⟨rfl, rfl⟩⟩⟩)⟩⟩⟩⟩⟩⟩)), hW, hB_G_59, hF, (Fr.call9 (rs := [98]) (fs := []) (Fr.put (rs := [98]) (fs := []) (Fr.call9 (rs := [98]) (fs := []) (Fr.call9 (rs := [98]) (fs := []) Fr.rf hq_27 rfl rfl) hq_51 rfl rfl) eG_56 (Or.inl (by decide))) hq_60 rfl rfl), hS, lv_sub hl [0, 2] rfl⟩
      · have c_79 : x_63.toInt < y_78.toInt := xI_nle rfl rfl c_79
        refine lv_aload_n hx hb dX12_layStreet_123 rfl (lv_at hl 2 rfl) ?_
        refine S_getR (n := 98) (C := RX12) (T := TX12) (N := 89) hx hb hg iX12 hown hK hW kd_66 rfl 58 (lt_b rfl) (hg (Cond.fieldLink RX12 115 "SlabWalkModel" "lawful" "[Z") m1372) (fun _ h9 => h9) rfl dX12_layStreet_124 ?_
        refine lv_iload hx hb dX12_layStreet_127 (lv_at hl 1 rfl) ?_
        refine S_zald hx hb hK hW kd_98 (vin ((by first | (clear hP9 hn_24 f_23 b_33 g_34 hn_38 b_68 hn_73; omega) | omega)) ((by first | (clear hP9 hn_24 f_23 b_33 g_34 hn_38 b_68 hn_73; omega) | omega))) dX12_layStreet_129 (fun y_82 ey_82 => ?_)
        have ty_82 := hB_G_59.law ey_82
        have u_83 : y_82.toInt = (G_59.1 98 x_30.toNatClampNeg).toInt := congrArg Int32.toInt (ey_82)
        refine lv_if_eq (tgt := 161) hx hb dX12_layStreet_130 rfl (fun c_84 => ?_) (fun c_84 => ?_)
        · have c_84 : y_82.toInt = 0 := xI_eq rfl rfl c_84
          obtain ⟨y_85, ey_85⟩ : ∃ q, q = x_30 + 1 := ⟨_, rfl⟩
          have ty_85 : y_85.toInt = x_30.toInt + 1 := xI_add rfl rfl ey_85 ((by first | (clear hP9 hn_24 f_23 b_33 g_34 hn_38 b_68 hn_73; omega) | omega)) ((by first | (clear hP9 hn_24 f_23 b_33 g_34 hn_38 b_68 hn_73; omega) | omega))
          refine lv_iinc (v := y_85) (lv' := [(4, .int y_85), (5, .int x_63), (0, .ref (a 66))]) hx hb dX12_layStreet_161 hl (k := 1) rfl (by rw [ey_85]; rfl) (lt_b rfl) rfl (fun ls hl => ?_)
          refine lv_goto (tgt := 86) hx hb dX12_layStreet_164 rfl ?_
          have g_86 : (G_59.1 66 60).toInt = y_4.toInt := (congrArg Int32.toInt (show G_59.1 66 60 = y_4 from ((hq_60.i9 66 60 rfl rfl).trans ((gp_ne eG_56 (fun q => absurd q.1 (Nat.ne_of_beq_eq_false rfl))).trans ((hq_51.i9 66 60 rfl rfl).trans ((hq_27.i9 66 60 rfl rfl).trans ((hq_17.i9 66 60 rfl rfl).trans ((gp_ne eG_15 (by decide)).trans ((gp_ne eG_12 (by decide)).trans ((gp_ne eG_9 (by decide)).trans (gp_eq eG_6)))))))))))
          exact ih_28 (512 - y_85.toInt : Int).toNat ((by first | (clear hP9 f_23 b_33 g_34 b_68; omega) | omega)) _ _ _ ⟨G_59, y_85, (Int.toNat_of_nonneg ((by first | (clear hP9 hn_24 f_23 b_33 g_34 hn_38 b_68 hn_73; omega) | omega))), ⟨(by first | (clear hP9 hn_24 f_23 b_33 g_34 hn_38 b_68 hn_73; omega) | omega), (by first | (clear hP9 hn_24 f_23 b_33 g_34 hn_38 b_68 hn_73; omega) | omega)⟩, ((by first | (clear hP9 hn_24 f_23 b_33 g_34 hn_38 b_68 hn_73; omega) | omega)), (hX_31.st (St_n_layStreet_2_mk ⟨x_30, G_26, y_85, G_59, rfl, rfl, f_36, f_37, hB_G_26, ⟨c_41, ⟨r_49, G_50, hX_53, ⟨G_56, hB_G_56, (Fr.put (rs := [98]) (fs := []) Fr.rf eG_56 (Or.inl (by decide))), rw_ast eG_56, ⟨x_63, G_59, hX_64, f_69, f_70, f_71, f_72, hB_G_59, hq_60, ⟨y_78, ty_78, (Or.inr ⟨c_79, ⟨y_82, ey_82, ⟨c_84, ⟨y_85, ty_85, ⟨rfl, rfl⟩⟩⟩⟩⟩)⟩⟩⟩⟩⟩⟩)), hW, hB_G_59, hF, (Fr.call9 (rs := [98]) (fs := []) (Fr.put (rs := [98]) (fs := []) (Fr.call9 (rs := [98]) (fs := []) (Fr.call9 (rs := [98]) (fs := []) Fr.rf hq_27 rfl rfl) hq_51 rfl rfl) eG_56 (Or.inl (by decide))) hq_60 rfl rfl), hS, lv_sub hl [0, 2] rfl⟩
        · have c_84 : y_82.toInt ≠ 0 := xI_ne rfl rfl c_84
          refine lv_aload_n hx hb dX12_layStreet_133 rfl (lv_at hl 2 rfl) ?_
          refine S_getR (n := 98) (C := RX12) (T := TX12) (N := 89) hx hb hg iX12 hown hK hW kd_66 rfl 58 (lt_b rfl) (hg (Cond.fieldLink RX12 115 "SlabWalkModel" "lawful" "[Z") m1372) (fun _ h9 => h9) rfl dX12_layStreet_134 ?_
          refine lv_iload hx hb dX12_layStreet_137 (lv_at hl 1 rfl) ?_
          refine lv_aload_n hx hb dX12_layStreet_139 rfl (lv_at hl 2 rfl) ?_
          refine S_getR (n := 97) (C := RX12) (T := TX12) (N := 89) hx hb hg iX12 hown hK hW kd_66 rfl 57 (lt_b rfl) (hg (Cond.fieldLink RX12 111 "SlabWalkModel" "lines" "[Z") m1371) (fun _ h9 => h9) rfl dX12_layStreet_140 ?_
          refine lv_iload hx hb dX12_layStreet_143 (lv_at hl 0 rfl) ?_
          refine S_zald hx hb hK hW kd_97 (vin ((by first | (clear ha_p1 hP9 ty_1 hn_24 f_23 c_25 b_33 g_34 hn_38 b_40 f_54 b_68 hn_73 b_77; omega) | omega)) ((by first | (clear ha_p1 hP9 ty_1 hn_24 f_23 c_25 b_33 g_34 hn_38 b_40 f_54 b_68 hn_73 b_77; omega) | omega))) dX12_layStreet_145 (fun y_87 ey_87 => ?_)
          have ty_87 : 0 ≤ y_87.toInt ∧ y_87.toInt ≤ 1 := bv_97 hB_G_59 ey_87
          have u_88 : y_87.toInt = (G_16.1 97 x_63.toNatClampNeg).toInt := congrArg Int32.toInt (ey_87.trans (((hq_60.ri9 97 rfl x_63.toNatClampNeg).trans ((gp_ne eG_56 (fun q => absurd q.1 (Nat.ne_of_beq_eq_false rfl))).trans ((hq_51.ri9 97 rfl x_63.toNatClampNeg).trans (hq_27.ri9 97 rfl x_63.toNatClampNeg))))))
          refine lv_if_ne (tgt := 153) hx hb dX12_layStreet_146 rfl (fun c_89 => ?_) (fun c_89 => ?_)
          · have c_89 : y_87.toInt ≠ 0 := xI_ne rfl rfl c_89
            refine ic_0 hx hb dX12_layStreet_153 ?_
            refine S_zast hx hb hK hW hS kd_98 (vin ((by first | (clear hP9 hn_24 f_23 b_33 g_34 hn_38 b_68 hn_73; omega) | omega)) ((by first | (clear hP9 hn_24 f_23 b_33 g_34 hn_38 b_68 hn_73; omega) | omega))) dX12_layStreet_154 (fun G_90 H locs eG_90 hW hS => ?_)
            have qc_91 : (0 : Int32).toInt = 0 := rfl
            have hB_G_90 : Bd G_90 := hB_G_59.putLaw eG_90 (by omega) (by omega)
            have hF := hF.put eG_90 (Or.inl (by decide))
            have u_92 := st400 eG_90 (by omega)
            obtain ⟨y_93, ey_93⟩ : ∃ q, q = x_63 + 1 := ⟨_, rfl⟩
            have ty_93 : y_93.toInt = x_63.toInt + 1 := xI_add rfl rfl ey_93 ((by first | (clear ha_p1 hP9 ty_1 hn_24 f_23 c_25 b_33 g_34 hn_38 b_40 f_54 b_68 hn_73 b_77; omega) | omega)) ((by first | (clear ha_p1 hP9 ty_1 hn_24 f_23 c_25 b_33 g_34 hn_38 b_40 f_54 b_68 hn_73 b_77; omega) | omega))
            refine lv_iinc (v := y_93) (lv' := [(5, .int y_93), (4, .int x_30), (0, .ref (a 66))]) hx hb dX12_layStreet_155 hl (k := 0) rfl (by rw [ey_93]; rfl) (lt_b rfl) rfl (fun ls hl => ?_)
            refine lv_goto (tgt := 111) hx hb dX12_layStreet_158 rfl ?_
            have g_94 : (G_90.1 66 59).toInt = y_1.toInt := (congrArg Int32.toInt (show G_90.1 66 59 = y_1 from ((gp_ne eG_90 (fun q => absurd q.1 (Nat.ne_of_beq_eq_false rfl))).trans ((hq_60.i9 66 59 rfl rfl).trans ((gp_ne eG_56 (fun q => absurd q.1 (Nat.ne_of_beq_eq_false rfl))).trans ((hq_51.i9 66 59 rfl rfl).trans ((hq_27.i9 66 59 rfl rfl).trans ((hq_17.i9 66 59 rfl rfl).trans ((gp_ne eG_15 (by decide)).trans ((gp_ne eG_12 (by decide)).trans ((gp_ne eG_9 (by decide)).trans ((gp_ne eG_6 (by decide)).trans (gp_eq eG_3)))))))))))))
            have g_95 : (G_90.1 66 60).toInt = y_4.toInt := (congrArg Int32.toInt (show G_90.1 66 60 = y_4 from ((gp_ne eG_90 (fun q => absurd q.1 (Nat.ne_of_beq_eq_false rfl))).trans ((hq_60.i9 66 60 rfl rfl).trans ((gp_ne eG_56 (fun q => absurd q.1 (Nat.ne_of_beq_eq_false rfl))).trans ((hq_51.i9 66 60 rfl rfl).trans ((hq_27.i9 66 60 rfl rfl).trans ((hq_17.i9 66 60 rfl rfl).trans ((gp_ne eG_15 (by decide)).trans ((gp_ne eG_12 (by decide)).trans ((gp_ne eG_9 (by decide)).trans (gp_eq eG_6))))))))))))
            have g_96 : (G_90.1 66 60).toInt = y_4.toInt := (congrArg Int32.toInt (show G_90.1 66 60 = y_4 from ((gp_ne eG_90 (fun q => absurd q.1 (Nat.ne_of_beq_eq_false rfl))).trans ((hq_60.i9 66 60 rfl rfl).trans ((gp_ne eG_56 (fun q => absurd q.1 (Nat.ne_of_beq_eq_false rfl))).trans ((hq_51.i9 66 60 rfl rfl).trans ((hq_27.i9 66 60 rfl rfl).trans ((hq_17.i9 66 60 rfl rfl).trans ((gp_ne eG_15 (by decide)).trans ((gp_ne eG_12 (by decide)).trans ((gp_ne eG_9 (by decide)).trans (gp_eq eG_6))))))))))))
            have b_97 : 0 ≤ (G_90.1 98 400).toInt ∧ (G_90.1 98 400).toInt ≤ 1 := bd_98_400 hB_G_90
            exact ih_61 (523 - y_93.toInt : Int).toNat ((by first | (clear ha_p1 hP9 ty_1 hn_24 f_23 c_25 b_33 g_34 b_40 f_54 b_68 b_77 b_97; omega) | omega)) _ _ _ ⟨G_90, y_93, (Int.toNat_of_nonneg ((by first | (clear ha_p1 hP9 ty_1 hn_24 f_23 c_25 b_33 g_34 hn_38 b_40 f_54 b_68 hn_73 b_77 b_97; omega) | omega))), ⟨(by first | (clear ha_p1 hP9 ty_1 hn_24 f_23 c_25 b_33 g_34 hn_38 b_40 f_54 b_68 hn_73 b_77 b_97; omega) | omega), (by first | (clear ha_p1 hP9 ty_1 hn_24 f_23 c_25 b_33 g_34 hn_38 b_40 f_54 b_68 hn_73 b_77 b_97; omega) | omega)⟩, ((by first | (clear hP9 hn_24 b_33 g_34 hn_38 b_68 hn_73 b_97; omega) | omega)), ((by first | (clear hP9 hn_24 f_23 b_33 g_34 hn_38 b_68 hn_73 b_97; omega) | omega)), ((by first | (clear hP9 hn_24 f_23 b_33 g_34 hn_38 b_68 hn_73; omega) | omega)), (hX_64.st (St_n_layStreet_3_mk ⟨x_63, G_59, y_93, G_90, rfl, rfl, f_69, f_70, f_71, f_72, hB_G_59, ⟨y_78, ty_78, ⟨c_79, ⟨y_82, ey_82, ⟨c_84, ⟨y_87, ey_87, (Or.inr ⟨c_89, ⟨y_93, ty_93, ⟨rfl, (Fr.put (rs := [98]) (fs := []) Fr.rf eG_90 (Or.inl (by decide))), rw_ast eG_90⟩⟩⟩)⟩⟩⟩⟩⟩⟩)), hW, hB_G_90, hF, (Fr.put (rs := [98]) (fs := []) (Fr.call9 (rs := [98]) (fs := []) Fr.rf hq_60 rfl rfl) eG_90 (Or.inl (by decide))), hS, lv_sub hl [0, 1, 2] rfl⟩
          · have c_89 : y_87.toInt = 0 := xI_eq rfl rfl c_89
            refine ic_1 hx hb dX12_layStreet_149 ?_
            refine lv_goto (tgt := 154) hx hb dX12_layStreet_150 rfl ?_
            refine S_zast hx hb hK hW hS kd_98 (vin ((by first | (clear hP9 hn_24 f_23 b_33 g_34 hn_38 b_68 hn_73; omega) | omega)) ((by first | (clear hP9 hn_24 f_23 b_33 g_34 hn_38 b_68 hn_73; omega) | omega))) dX12_layStreet_154 (fun G_98 H locs eG_98 hW hS => ?_)
            have qc_99 : (1 : Int32).toInt = 1 := rfl
            have hB_G_98 : Bd G_98 := hB_G_59.putLaw eG_98 (by omega) (by omega)
            have hF := hF.put eG_98 (Or.inl (by decide))
            have u_100 := st400 eG_98 (by omega)
            obtain ⟨y_101, ey_101⟩ : ∃ q, q = x_63 + 1 := ⟨_, rfl⟩
            have ty_101 : y_101.toInt = x_63.toInt + 1 := xI_add rfl rfl ey_101 ((by first | (clear ha_p1 hP9 ty_1 hn_24 f_23 c_25 b_33 g_34 hn_38 b_40 f_54 b_68 hn_73 b_77; omega) | omega)) ((by first | (clear ha_p1 hP9 ty_1 hn_24 f_23 c_25 b_33 g_34 hn_38 b_40 f_54 b_68 hn_73 b_77; omega) | omega))
            refine lv_iinc (v := y_101) (lv' := [(5, .int y_101), (4, .int x_30), (0, .ref (a 66))]) hx hb dX12_layStreet_155 hl (k := 0) rfl (by rw [ey_101]; rfl) (lt_b rfl) rfl (fun ls hl => ?_)
            refine lv_goto (tgt := 111) hx hb dX12_layStreet_158 rfl ?_
            have g_102 : (G_98.1 66 59).toInt = y_1.toInt := (congrArg Int32.toInt (show G_98.1 66 59 = y_1 from ((gp_ne eG_98 (fun q => absurd q.1 (Nat.ne_of_beq_eq_false rfl))).trans ((hq_60.i9 66 59 rfl rfl).trans ((gp_ne eG_56 (fun q => absurd q.1 (Nat.ne_of_beq_eq_false rfl))).trans ((hq_51.i9 66 59 rfl rfl).trans ((hq_27.i9 66 59 rfl rfl).trans ((hq_17.i9 66 59 rfl rfl).trans ((gp_ne eG_15 (by decide)).trans ((gp_ne eG_12 (by decide)).trans ((gp_ne eG_9 (by decide)).trans ((gp_ne eG_6 (by decide)).trans (gp_eq eG_3)))))))))))))
            have g_103 : (G_98.1 66 60).toInt = y_4.toInt := (congrArg Int32.toInt (show G_98.1 66 60 = y_4 from ((gp_ne eG_98 (fun q => absurd q.1 (Nat.ne_of_beq_eq_false rfl))).trans ((hq_60.i9 66 60 rfl rfl).trans ((gp_ne eG_56 (fun q => absurd q.1 (Nat.ne_of_beq_eq_false rfl))).trans ((hq_51.i9 66 60 rfl rfl).trans ((hq_27.i9 66 60 rfl rfl).trans ((hq_17.i9 66 60 rfl rfl).trans ((gp_ne eG_15 (by decide)).trans ((gp_ne eG_12 (by decide)).trans ((gp_ne eG_9 (by decide)).trans (gp_eq eG_6))))))))))))
            have g_104 : (G_98.1 66 60).toInt = y_4.toInt := (congrArg Int32.toInt (show G_98.1 66 60 = y_4 from ((gp_ne eG_98 (fun q => absurd q.1 (Nat.ne_of_beq_eq_false rfl))).trans ((hq_60.i9 66 60 rfl rfl).trans ((gp_ne eG_56 (fun q => absurd q.1 (Nat.ne_of_beq_eq_false rfl))).trans ((hq_51.i9 66 60 rfl rfl).trans ((hq_27.i9 66 60 rfl rfl).trans ((hq_17.i9 66 60 rfl rfl).trans ((gp_ne eG_15 (by decide)).trans ((gp_ne eG_12 (by decide)).trans ((gp_ne eG_9 (by decide)).trans (gp_eq eG_6))))))))))))
            have b_105 : 0 ≤ (G_98.1 98 400).toInt ∧ (G_98.1 98 400).toInt ≤ 1 := bd_98_400 hB_G_98
            exact ih_61 (523 - y_101.toInt : Int).toNat ((by first | (clear ha_p1 hP9 ty_1 hn_24 f_23 c_25 b_33 g_34 b_40 f_54 b_68 b_77 b_105; omega) | omega)) _ _ _ ⟨G_98, y_101, (Int.toNat_of_nonneg ((by first | (clear ha_p1 hP9 ty_1 hn_24 f_23 c_25 b_33 g_34 hn_38 b_40 f_54 b_68 hn_73 b_77 b_105; omega) | omega))), ⟨(by first | (clear ha_p1 hP9 ty_1 hn_24 f_23 c_25 b_33 g_34 hn_38 b_40 f_54 b_68 hn_73 b_77 b_105; omega) | omega), (by first | (clear ha_p1 hP9 ty_1 hn_24 f_23 c_25 b_33 g_34 hn_38 b_40 f_54 b_68 hn_73 b_77 b_105; omega) | omega)⟩, ((by first | (clear hP9 hn_24 b_33 g_34 hn_38 b_68 hn_73 b_105; omega) | omega)), ((by first | (clear hP9 hn_24 f_23 b_33 g_34 hn_38 b_68 hn_73 b_105; omega) | omega)), ((by first | (clear hP9 hn_24 f_23 b_33 g_34 hn_38 b_68 hn_73; omega) | omega)), (hX_64.st (St_n_layStreet_3_mk ⟨x_63, G_59, y_101, G_98, rfl, rfl, f_69, f_70, f_71, f_72, hB_G_59, ⟨y_78, ty_78, ⟨c_79, ⟨y_82, ey_82, ⟨c_84, ⟨y_87, ey_87, (Or.inl ⟨c_89, ⟨y_101, ty_101, ⟨rfl, (Fr.put (rs := [98]) (fs := []) Fr.rf eG_98 (Or.inl (by decide))), rw_ast eG_98⟩⟩⟩)⟩⟩⟩⟩⟩⟩)), hW, hB_G_98, hF, (Fr.put (rs := [98]) (fs := []) (Fr.call9 (rs := [98]) (fs := []) Fr.rf hq_60 rfl rfl) eG_98 (Or.inl (by decide))), hS, lv_sub hl [0, 1, 2] rfl⟩
  · have c_25 : x_20.toInt < y_1.toInt := xI_nle rfl rfl c_25
    refine lv_aload_n hx hb dX12_layStreet_62 rfl (lv_at hl 1 rfl) ?_
    refine S_getR (n := 97) (C := RX12) (T := TX12) (N := 89) hx hb hg iX12 hown hK hW kd_66 rfl 57 (lt_b rfl) (hg (Cond.fieldLink RX12 111 "SlabWalkModel" "lines" "[Z") m1371) (fun _ h9 => h9) rfl dX12_layStreet_63 ?_
    refine lv_iload hx hb dX12_layStreet_66 (lv_at hl 0 rfl) ?_
    refine lv_aload_n hx hb dX12_layStreet_68 rfl (lv_at hl 1 rfl) ?_
    refine lv_iload_n hx hb dX12_layStreet_69 rfl (lv_at hl 2 rfl) ?_
    refine lv_iload_n hx hb dX12_layStreet_70 rfl (lv_at hl 3 rfl) ?_
    refine lv_iload hx hb dX12_layStreet_71 (lv_at hl 0 rfl) ?_
    have fr_106 : Fr [76, 97] [(66, 59), (66, 60), (66, 61), (66, 62), (66, 63)] G G_16 := (Fr.call9 (rs := [76, 97]) (fs := [(66, 59), (66, 60), (66, 61), (66, 62), (66, 63)]) (Fr.put (rs := [76, 97]) (fs := [(66, 59), (66, 60), (66, 61), (66, 62), (66, 63)]) (Fr.put (rs := [76, 97]) (fs := [(66, 59), (66, 60), (66, 61), (66, 62), (66, 63)]) (Fr.put (rs := [76, 97]) (fs := [(66, 59), (66, 60), (66, 61), (66, 62), (66, 63)]) (Fr.put (rs := [76, 97]) (fs := [(66, 59), (66, 60), (66, 61), (66, 62), (66, 63)]) (Fr.put (rs := [76, 97]) (fs := [(66, 59), (66, 60), (66, 61), (66, 62), (66, 63)]) Fr.rf eG_3 (Or.inr (by decide))) eG_6 (Or.inr (by decide))) eG_9 (Or.inr (by decide))) eG_12 (Or.inr (by decide))) eG_15 (Or.inr (by decide))) hq_17 rfl rfl)
    have g_107 : gP G_16 = gP G := gP_fr fr_106 (gr_q rfl) (gf_q rfl)
    refine S_calli (va_runV (As := [.int p1, .int p2, .int x_20]) (rest := [.int x_20, .ref (a 97)]) ⟨hx, hb, hml, hown, hts⟩ (n_isLine l D k A a z G_16 p1 p2 x_20 ⟨(by first | (clear ha_p0 hP9 ty_4 u_5 ty_7 u_8 ty_10 u_11 ty_13 u_14 hn_24 g_107; omega) | omega), (by first | (clear ha_p0 hP9 ty_4 u_5 ty_7 u_8 ty_10 u_11 ty_13 u_14 hn_24 g_107; omega) | omega)⟩ ⟨(by first | (clear ha_p0 hP9 ty_4 u_5 ty_7 u_8 ty_10 u_11 ty_13 u_14 hn_24 g_107; omega) | omega), (by first | (clear ha_p0 hP9 ty_4 u_5 ty_7 u_8 ty_10 u_11 ty_13 u_14 hn_24 g_107; omega) | omega)⟩ ((by first | (clear ha_p0 ha_p1 ty_1 u_2 ty_4 u_5 ty_7 u_8 ty_10 u_11 ty_13 u_14 hn_24 f_23 c_25; omega) | omega))) (cwV 3 hts (gd_V hgd m1803 m1805 m86 m131 m1806) rfl rfl rfl hd_X12_isLine ⟨Nat.le_of_ble_eq_true rfl, Nat.le_of_ble_eq_true rfl⟩) (pre_W hW hB_G_16 hK hZ hS kd_66 rfl) rfl rfl hl.1 rfl (lv_room (Nat.le_of_ble_eq_true rfl)) dX12_layStreet_73 ⟨Nat.le_of_ble_eq_true rfl, Nat.le_of_ble_eq_true rfl⟩) hS (fun r_108 G_109 H locs hpo hW hS => ?_)
    have hX_112 : Q_isLine p1 p2 x_20 G_16 r_108 G_109 := hpo
    obtain ⟨hB_G_109, hq_110, f_113, -⟩ := hpo
    have hF := hF.call9 hq_110 rfl rfl
    refine S_zast hx hb hK hW hS kd_97 (vin ((by first | (clear ha_p0 hP9 ty_4 u_5 ty_7 u_8 ty_10 u_11 ty_13 u_14 hn_24 g_107 f_113; omega) | omega)) ((by first | (clear ha_p0 hP9 ty_4 u_5 ty_7 u_8 ty_10 u_11 ty_13 u_14 hn_24 g_107 f_113; omega) | omega))) dX12_layStreet_76 (fun G_114 H locs eG_114 hW hS => ?_)
    have hB_G_114 : Bd G_114 := hB_G_109.put (lo := 0) (hi := 1) eG_114 rfl rfl rfl nz_bool.1 nz_bool.2 (hB_G_109.2.put eG_114 rfl)
    have hF := hF.put eG_114 (Or.inl (by decide))
    obtain ⟨y_115, ey_115⟩ : ∃ q, q = x_20 + 1 := ⟨_, rfl⟩
    have ty_115 : y_115.toInt = x_20.toInt + 1 := xI_add rfl rfl ey_115 ((by first | (clear ha_p0 hP9 ty_4 u_5 ty_7 u_8 ty_10 u_11 ty_13 u_14 hn_24 g_107 f_113; omega) | omega)) ((by first | (clear ha_p0 hP9 ty_4 u_5 ty_7 u_8 ty_10 u_11 ty_13 u_14 hn_24 g_107 f_113; omega) | omega))
    refine lv_iinc (v := y_115) (lv' := [(4, .int y_115), (0, .ref (a 66)), (2, .int p1), (3, .int p2)]) hx hb dX12_layStreet_77 hl (k := 0) rfl (by rw [ey_115]; rfl) (lt_b rfl) rfl (fun ls hl => ?_)
    refine lv_goto (tgt := 53) hx hb dX12_layStreet_80 rfl ?_
    exact ih_18 (400 - y_115.toInt : Int).toNat ((by first | (clear ha_p0 hP9 ty_4 u_5 ty_7 u_8 ty_10 u_11 ty_13 u_14 g_107 f_113; omega) | omega)) _ _ _ ⟨G_114, y_115, (Int.toNat_of_nonneg ((by first | (clear ha_p0 hP9 ty_4 u_5 ty_7 u_8 ty_10 u_11 ty_13 u_14 hn_24 g_107 f_113; omega) | omega))), ⟨(by first | (clear ha_p0 hP9 ty_4 u_5 ty_7 u_8 ty_10 u_11 ty_13 u_14 hn_24 g_107 f_113; omega) | omega), (by first | (clear ha_p0 hP9 ty_4 u_5 ty_7 u_8 ty_10 u_11 ty_13 u_14 hn_24 g_107 f_113; omega) | omega)⟩, (hX_21.st (St_n_layStreet_1_mk ⟨x_20, G_16, y_115, G_114, rfl, rfl, f_23, hB_G_16, ⟨c_25, ⟨r_108, G_109, hX_112, ⟨y_115, ty_115, ⟨rfl, (Fr.put (rs := [97]) (fs := []) Fr.rf eG_114 (Or.inl (by decide))), rw_ast eG_114⟩⟩⟩⟩⟩)), hW, hB_G_114, hF, (Fr.put (rs := [76, 97]) (fs := []) (Fr.call9 (rs := [76, 97]) (fs := []) (Fr.call9 (rs := [76, 97]) (fs := []) Fr.rf hq_17 rfl rfl) hq_110 rfl rfl) eG_114 (Or.inl (by decide))), hS, lv_sub hl [0, 1, 2, 3] rfl⟩
