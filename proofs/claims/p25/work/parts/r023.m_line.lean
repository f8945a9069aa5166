theorem m86 : Cond.selects RX12 yX12_isLine yX12_isLine ∈ gd := gds_6 6 rfl
theorem m87 : Cond.selects RX12 yX12_worked yX12_worked ∈ gd := gds_6 7 rfl
theorem m1354 : Cond.fieldLink RX12 90 "SlabWalkModel" "foots" "[I" ∈ gd := gdc_6_2 6 rfl gw_fieldLink
theorem m1355 : Cond.fieldLink RX12 93 "SlabWalkModel" "leasts" "[I" ∈ gd := gdc_6_2 7 rfl gw_fieldLink
theorem m1356 : Cond.fieldLink RX12 96 "SlabWalkModel" "mosts" "[I" ∈ gd := gdc_6_2 8 rfl gw_fieldLink
theorem m1357 : Cond.fieldLink RX12 99 "SlabWalkModel" "leaps" "[I" ∈ gd := gdc_6_2 9 rfl gw_fieldLink
theorem m1371 : Cond.fieldLink RX12 111 "SlabWalkModel" "lines" "[Z" ∈ gd := gdc_6_3 7 rfl gw_fieldLink
theorem m1803 : Cond.methodLink RX12 466 yX12_isLine ∈ gd := gdc_8_0 7 rfl gw_methodLink
theorem m1805 : Cond.instanceMethod yX12_isLine ∈ gd := gdc_8_0 9 rfl gw_instanceMethod
theorem m1806 : Cond.code yX12_isLine cX12_isLine 7 (some .boolean) ∈ gd := gdc_8_0 10 rfl gw_code
theorem m1807 : Cond.methodLink RX12 460 yX12_worked ∈ gd := gdc_8_0 11 rfl gw_methodLink
theorem m1809 : Cond.instanceMethod yX12_worked ∈ gd := gdc_8_0 13 rfl gw_instanceMethod
theorem m1810 : Cond.code yX12_worked cX12_worked 5 (some .int) ∈ gd := gdc_8_0 14 rfl gw_code
noncomputable def rbX12_isLine_0 : List (Nat × List Nat) := [(0, [17, 1, 144]), (3, [27]), (4, [104]), (5, [29]), (6, [96]), (7, [54, 4]), (9, [28]), (10, [154, 0, 32]), (13, [42]), (14, [180, 0, 75]), (17, [21, 4]), (19, [46]), (20, [155, 0, 16]), (23, [42]), (24, [180, 0, 75]), (27, [21, 4]), (29, [46]), (30, [16, 6]), (32, [126]), (33, [153, 0, 7]), (36, [4]), (37, [167, 0, 4]), (40, [3]), (41, [172])]
theorem rcX12_isLine_0 : dgo (lb cX12_isLine) 0 rbX12_isLine_0 = true := by decide +kernel
theorem dX12_isLine_0 : decode cX12_isLine 0 = .ok (.sipush 400, 3) := dk_17 (dw rcX12_isLine_0 0 rfl) rfl
theorem dX12_isLine_3 : decode cX12_isLine 3 = .ok (.iload_n 1, 1) := dk_27 (dw rcX12_isLine_0 1 rfl)
theorem dX12_isLine_4 : decode cX12_isLine 4 = .ok (.imul, 1) := dk_104 (dw rcX12_isLine_0 2 rfl)
theorem dX12_isLine_5 : decode cX12_isLine 5 = .ok (.iload_n 3, 1) := dk_29 (dw rcX12_isLine_0 3 rfl)
theorem dX12_isLine_6 : decode cX12_isLine 6 = .ok (.iadd, 1) := dk_96 (dw rcX12_isLine_0 4 rfl)
theorem dX12_isLine_7 : decode cX12_isLine 7 = .ok (.istore 4, 2) := dk_54 (dw rcX12_isLine_0 5 rfl)
theorem dX12_isLine_9 : decode cX12_isLine 9 = .ok (.iload_n 2, 1) := dk_28 (dw rcX12_isLine_0 6 rfl)
theorem dX12_isLine_10 : decode cX12_isLine 10 = .ok (.ifCond .ne 32, 3) := dk_154 (dw rcX12_isLine_0 7 rfl) rfl
theorem dX12_isLine_13 : decode cX12_isLine 13 = .ok (.aload_n 0, 1) := dk_42 (dw rcX12_isLine_0 8 rfl)
theorem dX12_isLine_14 : decode cX12_isLine 14 = .ok (.getfield 75, 3) := dk_180 (dw rcX12_isLine_0 9 rfl) rfl
theorem dX12_isLine_17 : decode cX12_isLine 17 = .ok (.iload 4, 2) := dk_21 (dw rcX12_isLine_0 10 rfl)
theorem dX12_isLine_19 : decode cX12_isLine 19 = .ok (.iaload, 1) := dk_46 (dw rcX12_isLine_0 11 rfl)
theorem dX12_isLine_20 : decode cX12_isLine 20 = .ok (.ifCond .lt 16, 3) := dk_155 (dw rcX12_isLine_0 12 rfl) rfl
theorem dX12_isLine_23 : decode cX12_isLine 23 = .ok (.aload_n 0, 1) := dk_42 (dw rcX12_isLine_0 13 rfl)
theorem dX12_isLine_24 : decode cX12_isLine 24 = .ok (.getfield 75, 3) := dk_180 (dw rcX12_isLine_0 14 rfl) rfl
theorem dX12_isLine_27 : decode cX12_isLine 27 = .ok (.iload 4, 2) := dk_21 (dw rcX12_isLine_0 15 rfl)
theorem dX12_isLine_29 : decode cX12_isLine 29 = .ok (.iaload, 1) := dk_46 (dw rcX12_isLine_0 16 rfl)
theorem dX12_isLine_30 : decode cX12_isLine 30 = .ok (.bipush 6, 2) := dk_16 (dw rcX12_isLine_0 17 rfl) rfl
theorem dX12_isLine_32 : decode cX12_isLine 32 = .ok (.iand, 1) := dk_126 (dw rcX12_isLine_0 18 rfl)
theorem dX12_isLine_33 : decode cX12_isLine 33 = .ok (.ifCond .eq 7, 3) := dk_153 (dw rcX12_isLine_0 19 rfl) rfl
theorem dX12_isLine_36 : decode cX12_isLine 36 = .ok (.iconst 1, 1) := dk_4 (dw rcX12_isLine_0 20 rfl)
theorem dX12_isLine_37 : decode cX12_isLine 37 = .ok (.goto 4, 3) := dk_167 (dw rcX12_isLine_0 21 rfl) rfl
theorem dX12_isLine_40 : decode cX12_isLine 40 = .ok (.iconst 0, 1) := dk_3 (dw rcX12_isLine_0 22 rfl)
theorem dX12_isLine_41 : decode cX12_isLine 41 = .ok (.ireturn, 1) := dk_172 (dw rcX12_isLine_0 23 rfl)
noncomputable def rbX12_isLine_42 : List (Nat × List Nat) := [(42, [3]), (43, [54, 5]), (45, [3]), (46, [54, 6]), (48, [21, 6]), (50, [42]), (51, [180, 1, 175]), (54, [162, 0, 42]), (57, [21, 5]), (59, [154, 0, 37]), (62, [28]), (63, [21, 6]), (65, [122]), (66, [4]), (67, [126]), (68, [4]), (69, [160, 0, 18]), (72, [42]), (73, [21, 6]), (75, [21, 4]), (77, [182, 1, 204]), (80, [153, 0, 7]), (83, [4]), (84, [167, 0, 4])]
theorem rcX12_isLine_42 : dgo (lb cX12_isLine) 0 rbX12_isLine_42 = true := by decide +kernel
theorem dX12_isLine_42 : decode cX12_isLine 42 = .ok (.iconst 0, 1) := dk_3 (dw rcX12_isLine_42 0 rfl)
theorem dX12_isLine_43 : decode cX12_isLine 43 = .ok (.istore 5, 2) := dk_54 (dw rcX12_isLine_42 1 rfl)
theorem dX12_isLine_45 : decode cX12_isLine 45 = .ok (.iconst 0, 1) := dk_3 (dw rcX12_isLine_42 2 rfl)
theorem dX12_isLine_46 : decode cX12_isLine 46 = .ok (.istore 6, 2) := dk_54 (dw rcX12_isLine_42 3 rfl)
theorem dX12_isLine_48 : decode cX12_isLine 48 = .ok (.iload 6, 2) := dk_21 (dw rcX12_isLine_42 4 rfl)
theorem dX12_isLine_50 : decode cX12_isLine 50 = .ok (.aload_n 0, 1) := dk_42 (dw rcX12_isLine_42 5 rfl)
theorem dX12_isLine_51 : decode cX12_isLine 51 = .ok (.getfield 431, 3) := dk_180 (dw rcX12_isLine_42 6 rfl) rfl
theorem dX12_isLine_54 : decode cX12_isLine 54 = .ok (.if_icmp .ge 42, 3) := dk_162 (dw rcX12_isLine_42 7 rfl) rfl
theorem dX12_isLine_57 : decode cX12_isLine 57 = .ok (.iload 5, 2) := dk_21 (dw rcX12_isLine_42 8 rfl)
theorem dX12_isLine_59 : decode cX12_isLine 59 = .ok (.ifCond .ne 37, 3) := dk_154 (dw rcX12_isLine_42 9 rfl) rfl
theorem dX12_isLine_62 : decode cX12_isLine 62 = .ok (.iload_n 2, 1) := dk_28 (dw rcX12_isLine_42 10 rfl)
theorem dX12_isLine_63 : decode cX12_isLine 63 = .ok (.iload 6, 2) := dk_21 (dw rcX12_isLine_42 11 rfl)
theorem dX12_isLine_65 : decode cX12_isLine 65 = .ok (.ishr, 1) := dk_122 (dw rcX12_isLine_42 12 rfl)
theorem dX12_isLine_66 : decode cX12_isLine 66 = .ok (.iconst 1, 1) := dk_4 (dw rcX12_isLine_42 13 rfl)
theorem dX12_isLine_67 : decode cX12_isLine 67 = .ok (.iand, 1) := dk_126 (dw rcX12_isLine_42 14 rfl)
theorem dX12_isLine_68 : decode cX12_isLine 68 = .ok (.iconst 1, 1) := dk_4 (dw rcX12_isLine_42 15 rfl)
theorem dX12_isLine_69 : decode cX12_isLine 69 = .ok (.if_icmp .ne 18, 3) := dk_160 (dw rcX12_isLine_42 16 rfl) rfl
theorem dX12_isLine_72 : decode cX12_isLine 72 = .ok (.aload_n 0, 1) := dk_42 (dw rcX12_isLine_42 17 rfl)
theorem dX12_isLine_73 : decode cX12_isLine 73 = .ok (.iload 6, 2) := dk_21 (dw rcX12_isLine_42 18 rfl)
theorem dX12_isLine_75 : decode cX12_isLine 75 = .ok (.iload 4, 2) := dk_21 (dw rcX12_isLine_42 19 rfl)
theorem dX12_isLine_77 : decode cX12_isLine 77 = .ok (.invokevirtual 460, 3) := dk_182 (dw rcX12_isLine_42 20 rfl) rfl
theorem dX12_isLine_80 : decode cX12_isLine 80 = .ok (.ifCond .eq 7, 3) := dk_153 (dw rcX12_isLine_42 21 rfl) rfl
theorem dX12_isLine_83 : decode cX12_isLine 83 = .ok (.iconst 1, 1) := dk_4 (dw rcX12_isLine_42 22 rfl)
theorem dX12_isLine_84 : decode cX12_isLine 84 = .ok (.goto 4, 3) := dk_167 (dw rcX12_isLine_42 23 rfl) rfl
noncomputable def rbX12_isLine_87 : List (Nat × List Nat) := [(87, [3]), (88, [54, 5]), (90, [132, 6, 1]), (93, [167, 255, 211]), (96, [21, 5]), (98, [172])]
theorem rcX12_isLine_87 : dgo (lb cX12_isLine) 0 rbX12_isLine_87 = true := by decide +kernel
theorem dX12_isLine_87 : decode cX12_isLine 87 = .ok (.iconst 0, 1) := dk_3 (dw rcX12_isLine_87 0 rfl)
theorem dX12_isLine_88 : decode cX12_isLine 88 = .ok (.istore 5, 2) := dk_54 (dw rcX12_isLine_87 1 rfl)
theorem dX12_isLine_90 : decode cX12_isLine 90 = .ok (.iinc 6 1, 3) := dk_132 (dw rcX12_isLine_87 2 rfl) rfl
theorem dX12_isLine_93 : decode cX12_isLine 93 = .ok (.goto (-45), 3) := dk_167 (dw rcX12_isLine_87 3 rfl) rfl
theorem dX12_isLine_96 : decode cX12_isLine 96 = .ok (.iload 5, 2) := dk_21 (dw rcX12_isLine_87 4 rfl)
theorem dX12_isLine_98 : decode cX12_isLine 98 = .ok (.ireturn, 1) := dk_172 (dw rcX12_isLine_87 5 rfl)
noncomputable def rbX12_layStreet_0 : List (Nat × List Nat) := [(0, [42]), (1, [42]), (2, [180, 0, 87]), (5, [28]), (6, [46]), (7, [181, 1, 213]), (10, [42]), (11, [42]), (12, [180, 0, 90]), (15, [27]), (16, [46]), (17, [181, 1, 216]), (20, [42]), (21, [42]), (22, [180, 0, 93]), (25, [27]), (26, [46]), (27, [181, 1, 219]), (30, [42]), (31, [42]), (32, [180, 0, 96]), (35, [27]), (36, [46]), (37, [181, 1, 222])]
theorem rcX12_layStreet_0 : dgo (lb cX12_layStreet) 0 rbX12_layStreet_0 = true := by decide +kernel
theorem dX12_layStreet_0 : decode cX12_layStreet 0 = .ok (.aload_n 0, 1) := dk_42 (dw rcX12_layStreet_0 0 rfl)
theorem dX12_layStreet_1 : decode cX12_layStreet 1 = .ok (.aload_n 0, 1) := dk_42 (dw rcX12_layStreet_0 1 rfl)
theorem dX12_layStreet_2 : decode cX12_layStreet 2 = .ok (.getfield 87, 3) := dk_180 (dw rcX12_layStreet_0 2 rfl) rfl
theorem dX12_layStreet_5 : decode cX12_layStreet 5 = .ok (.iload_n 2, 1) := dk_28 (dw rcX12_layStreet_0 3 rfl)
theorem dX12_layStreet_6 : decode cX12_layStreet 6 = .ok (.iaload, 1) := dk_46 (dw rcX12_layStreet_0 4 rfl)
theorem dX12_layStreet_7 : decode cX12_layStreet 7 = .ok (.putfield 469, 3) := dk_181 (dw rcX12_layStreet_0 5 rfl) rfl
theorem dX12_layStreet_10 : decode cX12_layStreet 10 = .ok (.aload_n 0, 1) := dk_42 (dw rcX12_layStreet_0 6 rfl)
theorem dX12_layStreet_11 : decode cX12_layStreet 11 = .ok (.aload_n 0, 1) := dk_42 (dw rcX12_layStreet_0 7 rfl)
theorem dX12_layStreet_12 : decode cX12_layStreet 12 = .ok (.getfield 90, 3) := dk_180 (dw rcX12_layStreet_0 8 rfl) rfl
theorem dX12_layStreet_15 : decode cX12_layStreet 15 = .ok (.iload_n 1, 1) := dk_27 (dw rcX12_layStreet_0 9 rfl)
theorem dX12_layStreet_16 : decode cX12_layStreet 16 = .ok (.iaload, 1) := dk_46 (dw rcX12_layStreet_0 10 rfl)
theorem dX12_layStreet_17 : decode cX12_layStreet 17 = .ok (.putfield 472, 3) := dk_181 (dw rcX12_layStreet_0 11 rfl) rfl
theorem dX12_layStreet_20 : decode cX12_layStreet 20 = .ok (.aload_n 0, 1) := dk_42 (dw rcX12_layStreet_0 12 rfl)
theorem dX12_layStreet_21 : decode cX12_layStreet 21 = .ok (.aload_n 0, 1) := dk_42 (dw rcX12_layStreet_0 13 rfl)
theorem dX12_layStreet_22 : decode cX12_layStreet 22 = .ok (.getfield 93, 3) := dk_180 (dw rcX12_layStreet_0 14 rfl) rfl
theorem dX12_layStreet_25 : decode cX12_layStreet 25 = .ok (.iload_n 1, 1) := dk_27 (dw rcX12_layStreet_0 15 rfl)
theorem dX12_layStreet_26 : decode cX12_layStreet 26 = .ok (.iaload, 1) := dk_46 (dw rcX12_layStreet_0 16 rfl)
theorem dX12_layStreet_27 : decode cX12_layStreet 27 = .ok (.putfield 475, 3) := dk_181 (dw rcX12_layStreet_0 17 rfl) rfl
theorem dX12_layStreet_30 : decode cX12_layStreet 30 = .ok (.aload_n 0, 1) := dk_42 (dw rcX12_layStreet_0 18 rfl)
theorem dX12_layStreet_31 : decode cX12_layStreet 31 = .ok (.aload_n 0, 1) := dk_42 (dw rcX12_layStreet_0 19 rfl)
theorem dX12_layStreet_32 : decode cX12_layStreet 32 = .ok (.getfield 96, 3) := dk_180 (dw rcX12_layStreet_0 20 rfl) rfl
theorem dX12_layStreet_35 : decode cX12_layStreet 35 = .ok (.iload_n 1, 1) := dk_27 (dw rcX12_layStreet_0 21 rfl)
theorem dX12_layStreet_36 : decode cX12_layStreet 36 = .ok (.iaload, 1) := dk_46 (dw rcX12_layStreet_0 22 rfl)
theorem dX12_layStreet_37 : decode cX12_layStreet 37 = .ok (.putfield 478, 3) := dk_181 (dw rcX12_layStreet_0 23 rfl) rfl
noncomputable def rbX12_layStreet_40 : List (Nat × List Nat) := [(40, [42]), (41, [42]), (42, [180, 0, 99]), (45, [27]), (46, [46]), (47, [181, 1, 225]), (50, [3]), (51, [54, 4]), (53, [21, 4]), (55, [42]), (56, [180, 1, 213]), (59, [162, 0, 24]), (62, [42]), (63, [180, 0, 111]), (66, [21, 4]), (68, [42]), (69, [28]), (70, [29]), (71, [21, 4]), (73, [182, 1, 210]), (76, [84]), (77, [132, 4, 1]), (80, [167, 255, 229]), (83, [3])]
theorem rcX12_layStreet_40 : dgo (lb cX12_layStreet) 0 rbX12_layStreet_40 = true := by decide +kernel
theorem dX12_layStreet_40 : decode cX12_layStreet 40 = .ok (.aload_n 0, 1) := dk_42 (dw rcX12_layStreet_40 0 rfl)
theorem dX12_layStreet_41 : decode cX12_layStreet 41 = .ok (.aload_n 0, 1) := dk_42 (dw rcX12_layStreet_40 1 rfl)
theorem dX12_layStreet_42 : decode cX12_layStreet 42 = .ok (.getfield 99, 3) := dk_180 (dw rcX12_layStreet_40 2 rfl) rfl
theorem dX12_layStreet_45 : decode cX12_layStreet 45 = .ok (.iload_n 1, 1) := dk_27 (dw rcX12_layStreet_40 3 rfl)
theorem dX12_layStreet_46 : decode cX12_layStreet 46 = .ok (.iaload, 1) := dk_46 (dw rcX12_layStreet_40 4 rfl)
theorem dX12_layStreet_47 : decode cX12_layStreet 47 = .ok (.putfield 481, 3) := dk_181 (dw rcX12_layStreet_40 5 rfl) rfl
theorem dX12_layStreet_50 : decode cX12_layStreet 50 = .ok (.iconst 0, 1) := dk_3 (dw rcX12_layStreet_40 6 rfl)
theorem dX12_layStreet_51 : decode cX12_layStreet 51 = .ok (.istore 4, 2) := dk_54 (dw rcX12_layStreet_40 7 rfl)
theorem dX12_layStreet_53 : decode cX12_layStreet 53 = .ok (.iload 4, 2) := dk_21 (dw rcX12_layStreet_40 8 rfl)
theorem dX12_layStreet_55 : decode cX12_layStreet 55 = .ok (.aload_n 0, 1) := dk_42 (dw rcX12_layStreet_40 9 rfl)
theorem dX12_layStreet_56 : decode cX12_layStreet 56 = .ok (.getfield 469, 3) := dk_180 (dw rcX12_layStreet_40 10 rfl) rfl
theorem dX12_layStreet_59 : decode cX12_layStreet 59 = .ok (.if_icmp .ge 24, 3) := dk_162 (dw rcX12_layStreet_40 11 rfl) rfl
theorem dX12_layStreet_62 : decode cX12_layStreet 62 = .ok (.aload_n 0, 1) := dk_42 (dw rcX12_layStreet_40 12 rfl)
theorem dX12_layStreet_63 : decode cX12_layStreet 63 = .ok (.getfield 111, 3) := dk_180 (dw rcX12_layStreet_40 13 rfl) rfl
theorem dX12_layStreet_66 : decode cX12_layStreet 66 = .ok (.iload 4, 2) := dk_21 (dw rcX12_layStreet_40 14 rfl)
theorem dX12_layStreet_68 : decode cX12_layStreet 68 = .ok (.aload_n 0, 1) := dk_42 (dw rcX12_layStreet_40 15 rfl)
theorem dX12_layStreet_69 : decode cX12_layStreet 69 = .ok (.iload_n 2, 1) := dk_28 (dw rcX12_layStreet_40 16 rfl)
theorem dX12_layStreet_70 : decode cX12_layStreet 70 = .ok (.iload_n 3, 1) := dk_29 (dw rcX12_layStreet_40 17 rfl)
theorem dX12_layStreet_71 : decode cX12_layStreet 71 = .ok (.iload 4, 2) := dk_21 (dw rcX12_layStreet_40 18 rfl)
theorem dX12_layStreet_73 : decode cX12_layStreet 73 = .ok (.invokevirtual 466, 3) := dk_182 (dw rcX12_layStreet_40 19 rfl) rfl
theorem dX12_layStreet_76 : decode cX12_layStreet 76 = .ok (.bastore, 1) := dk_84 (dw rcX12_layStreet_40 20 rfl)
theorem dX12_layStreet_77 : decode cX12_layStreet 77 = .ok (.iinc 4 1, 3) := dk_132 (dw rcX12_layStreet_40 21 rfl) rfl
theorem dX12_layStreet_80 : decode cX12_layStreet 80 = .ok (.goto (-27), 3) := dk_167 (dw rcX12_layStreet_40 22 rfl) rfl
theorem dX12_layStreet_83 : decode cX12_layStreet 83 = .ok (.iconst 0, 1) := dk_3 (dw rcX12_layStreet_40 23 rfl)
noncomputable def rbX12_layStreet_84 : List (Nat × List Nat) := [(84, [54, 4]), (86, [21, 4]), (88, [17, 2, 0]), (91, [162, 0, 76]), (94, [42]), (95, [180, 0, 115]), (98, [21, 4]), (100, [42]), (101, [21, 4]), (103, [182, 1, 228]), (106, [84]), (107, [21, 4]), (109, [54, 5]), (111, [21, 5]), (113, [21, 4]), (115, [42]), (116, [180, 1, 216]), (119, [96]), (120, [162, 0, 41]), (123, [42]), (124, [180, 0, 115]), (127, [21, 4]), (129, [51]), (130, [153, 0, 31])]
theorem rcX12_layStreet_84 : dgo (lb cX12_layStreet) 0 rbX12_layStreet_84 = true := by decide +kernel
theorem dX12_layStreet_84 : decode cX12_layStreet 84 = .ok (.istore 4, 2) := dk_54 (dw rcX12_layStreet_84 0 rfl)
theorem dX12_layStreet_86 : decode cX12_layStreet 86 = .ok (.iload 4, 2) := dk_21 (dw rcX12_layStreet_84 1 rfl)
theorem dX12_layStreet_88 : decode cX12_layStreet 88 = .ok (.sipush 512, 3) := dk_17 (dw rcX12_layStreet_84 2 rfl) rfl
theorem dX12_layStreet_91 : decode cX12_layStreet 91 = .ok (.if_icmp .ge 76, 3) := dk_162 (dw rcX12_layStreet_84 3 rfl) rfl
theorem dX12_layStreet_94 : decode cX12_layStreet 94 = .ok (.aload_n 0, 1) := dk_42 (dw rcX12_layStreet_84 4 rfl)
theorem dX12_layStreet_95 : decode cX12_layStreet 95 = .ok (.getfield 115, 3) := dk_180 (dw rcX12_layStreet_84 5 rfl) rfl
theorem dX12_layStreet_98 : decode cX12_layStreet 98 = .ok (.iload 4, 2) := dk_21 (dw rcX12_layStreet_84 6 rfl)
theorem dX12_layStreet_100 : decode cX12_layStreet 100 = .ok (.aload_n 0, 1) := dk_42 (dw rcX12_layStreet_84 7 rfl)
theorem dX12_layStreet_101 : decode cX12_layStreet 101 = .ok (.iload 4, 2) := dk_21 (dw rcX12_layStreet_84 8 rfl)
theorem dX12_layStreet_103 : decode cX12_layStreet 103 = .ok (.invokevirtual 484, 3) := dk_182 (dw rcX12_layStreet_84 9 rfl) rfl
theorem dX12_layStreet_106 : decode cX12_layStreet 106 = .ok (.bastore, 1) := dk_84 (dw rcX12_layStreet_84 10 rfl)
theorem dX12_layStreet_107 : decode cX12_layStreet 107 = .ok (.iload 4, 2) := dk_21 (dw rcX12_layStreet_84 11 rfl)
theorem dX12_layStreet_109 : decode cX12_layStreet 109 = .ok (.istore 5, 2) := dk_54 (dw rcX12_layStreet_84 12 rfl)
theorem dX12_layStreet_111 : decode cX12_layStreet 111 = .ok (.iload 5, 2) := dk_21 (dw rcX12_layStreet_84 13 rfl)
theorem dX12_layStreet_113 : decode cX12_layStreet 113 = .ok (.iload 4, 2) := dk_21 (dw rcX12_layStreet_84 14 rfl)
theorem dX12_layStreet_115 : decode cX12_layStreet 115 = .ok (.aload_n 0, 1) := dk_42 (dw rcX12_layStreet_84 15 rfl)
theorem dX12_layStreet_116 : decode cX12_layStreet 116 = .ok (.getfield 472, 3) := dk_180 (dw rcX12_layStreet_84 16 rfl) rfl
theorem dX12_layStreet_119 : decode cX12_layStreet 119 = .ok (.iadd, 1) := dk_96 (dw rcX12_layStreet_84 17 rfl)
theorem dX12_layStreet_120 : decode cX12_layStreet 120 = .ok (.if_icmp .ge 41, 3) := dk_162 (dw rcX12_layStreet_84 18 rfl) rfl
theorem dX12_layStreet_123 : decode cX12_layStreet 123 = .ok (.aload_n 0, 1) := dk_42 (dw rcX12_layStreet_84 19 rfl)
theorem dX12_layStreet_124 : decode cX12_layStreet 124 = .ok (.getfield 115, 3) := dk_180 (dw rcX12_layStreet_84 20 rfl) rfl
theorem dX12_layStreet_127 : decode cX12_layStreet 127 = .ok (.iload 4, 2) := dk_21 (dw rcX12_layStreet_84 21 rfl)
theorem dX12_layStreet_129 : decode cX12_layStreet 129 = .ok (.baload, 1) := dk_51 (dw rcX12_layStreet_84 22 rfl)
theorem dX12_layStreet_130 : decode cX12_layStreet 130 = .ok (.ifCond .eq 31, 3) := dk_153 (dw rcX12_layStreet_84 23 rfl) rfl
noncomputable def rbX12_layStreet_133 : List (Nat × List Nat) := [(133, [42]), (134, [180, 0, 115]), (137, [21, 4]), (139, [42]), (140, [180, 0, 111]), (143, [21, 5]), (145, [51]), (146, [154, 0, 7]), (149, [4]), (150, [167, 0, 4]), (153, [3]), (154, [84]), (155, [132, 5, 1]), (158, [167, 255, 209]), (161, [132, 4, 1]), (164, [167, 255, 178]), (167, [177])]
theorem rcX12_layStreet_133 : dgo (lb cX12_layStreet) 0 rbX12_layStreet_133 = true := by decide +kernel
theorem dX12_layStreet_133 : decode cX12_layStreet 133 = .ok (.aload_n 0, 1) := dk_42 (dw rcX12_layStreet_133 0 rfl)
theorem dX12_layStreet_134 : decode cX12_layStreet 134 = .ok (.getfield 115, 3) := dk_180 (dw rcX12_layStreet_133 1 rfl) rfl
theorem dX12_layStreet_137 : decode cX12_layStreet 137 = .ok (.iload 4, 2) := dk_21 (dw rcX12_layStreet_133 2 rfl)
theorem dX12_layStreet_139 : decode cX12_layStreet 139 = .ok (.aload_n 0, 1) := dk_42 (dw rcX12_layStreet_133 3 rfl)
theorem dX12_layStreet_140 : decode cX12_layStreet 140 = .ok (.getfield 111, 3) := dk_180 (dw rcX12_layStreet_133 4 rfl) rfl
theorem dX12_layStreet_143 : decode cX12_layStreet 143 = .ok (.iload 5, 2) := dk_21 (dw rcX12_layStreet_133 5 rfl)
theorem dX12_layStreet_145 : decode cX12_layStreet 145 = .ok (.baload, 1) := dk_51 (dw rcX12_layStreet_133 6 rfl)
theorem dX12_layStreet_146 : decode cX12_layStreet 146 = .ok (.ifCond .ne 7, 3) := dk_154 (dw rcX12_layStreet_133 7 rfl) rfl
theorem dX12_layStreet_149 : decode cX12_layStreet 149 = .ok (.iconst 1, 1) := dk_4 (dw rcX12_layStreet_133 8 rfl)
theorem dX12_layStreet_150 : decode cX12_layStreet 150 = .ok (.goto 4, 3) := dk_167 (dw rcX12_layStreet_133 9 rfl) rfl
theorem dX12_layStreet_153 : decode cX12_layStreet 153 = .ok (.iconst 0, 1) := dk_3 (dw rcX12_layStreet_133 10 rfl)
theorem dX12_layStreet_154 : decode cX12_layStreet 154 = .ok (.bastore, 1) := dk_84 (dw rcX12_layStreet_133 11 rfl)
theorem dX12_layStreet_155 : decode cX12_layStreet 155 = .ok (.iinc 5 1, 3) := dk_132 (dw rcX12_layStreet_133 12 rfl) rfl
theorem dX12_layStreet_158 : decode cX12_layStreet 158 = .ok (.goto (-47), 3) := dk_167 (dw rcX12_layStreet_133 13 rfl) rfl
theorem dX12_layStreet_161 : decode cX12_layStreet 161 = .ok (.iinc 4 1, 3) := dk_132 (dw rcX12_layStreet_133 14 rfl) rfl
theorem dX12_layStreet_164 : decode cX12_layStreet 164 = .ok (.goto (-78), 3) := dk_167 (dw rcX12_layStreet_133 15 rfl) rfl
theorem dX12_layStreet_167 : decode cX12_layStreet 167 = .ok (.return_, 1) := dk_177 (dw rcX12_layStreet_133 16 rfl)
set_option maxHeartbeats 4000000 in
set_option maxRecDepth 100000 in
theorem n_isLine (l : Launch) (D : va_G) (k : KT) (A : Nat → Prop) (a : Nat → Nat) (z : SK) (G : GS) (p0 : Int32) (p1 : Int32) (p2 : Int32) (ha_p0 : 0 ≤ p0.toInt ∧ p0.toInt ≤ 2) (ha_p2 : 0 ≤ p2.toInt ∧ p2.toInt ≤ 399) (hP9 : gP G = 1) : Met l yX12_isLine (WS yX12_isLine cX12_isLine 7 (some .boolean)) ({ frames := 3, cells := 0, slots := 0, locals := 66 }) (va_Pc [.ref (a 66), .int p0, .int p1, .int p2] (cW D k A a z G)) (va_Qi (fun (r : Int32) (G1 : GS) => Q_isLine p0 p1 p2 G r G1) (fun (G1 : GS) t => Wd D k A a G1 t.heap) A) 0 0 A := by
  refine Met.ofW (cc := cX12_isLine) (maxL := 7) (ret := (some .boolean)) (by decide) rfl ?_
  intro p e s m args below meth c s₁ B hml hv
  obtain ⟨rfl, hW, hB_G, hK, hZ⟩ := hv
  have hx := B.exec
  have hb := B.bytes
  have hr := B.returns
  have hts := atoms_spec (ws := WS yX12_isLine cX12_isLine 7 (some .boolean)) B.pre
  have hgd : ∀ w ∈ gd, w ∈ WS yX12_isLine cX12_isLine 7 (some .boolean) := fun w h => List.mem_cons_of_mem _ h
  have hg : ∀ w ∈ gd, w.before _ s = true := fun w h => hts w (hgd w h)
  have hown : s.vm.findClass RX12 = some m.cls := findClass_of_methodNamed B.named
  have hS : va_S A s.heap s.heap [] := va_S.rf
  have hF : Fr [76] [] G G := Fr.rf
  have hl := lv_entry ([.ref (a 66), .int p0, .int p1, .int p2]) (n := 7) (Nat.le_of_ble_eq_true rfl)
  rw [lg_entry_eq]
  generalize (lg_sl ([.ref (a 66), .int p0, .int p1, .int p2]) ++ List.replicate (7 - (lg_sl ([.ref (a 66), .int p0, .int p1, .int p2])).length) Slot.unset).toArray = ls at hl ⊢
  have hl : lv_has ls 7 [(0, .ref (a 66)), (1, .int p0), (2, .int p1), (3, .int p2)] := hl
  refine lv_sipush (v := 400) hx hb dX12_isLine_0 (by decide) ?_
  refine lv_iload_n hx hb dX12_isLine_3 rfl (lv_at hl 1 rfl) ?_
  refine lv_imul hx hb dX12_isLine_4 ?_
  refine lv_topi (fun y_1 ey_1 => ?_)
  have ty_1 : y_1.toInt = 400 * p0.toInt := xI_mul rfl rfl ey_1 (by omega) (by omega)
  refine lv_iload_n hx hb dX12_isLine_5 rfl (lv_at hl 3 rfl) ?_
  refine lv_iadd hx hb dX12_isLine_6 ?_
  refine lv_topi (fun y_2 ey_2 => ?_)
  have ty_2 : y_2.toInt = y_1.toInt + p2.toInt := xI_add rfl rfl ey_2 (by omega) (by omega)
  refine lv_istore (lv' := [(4, .int y_2), (0, .ref (a 66)), (1, .int p0), (2, .int p1), (3, .int p2)]) hx hb dX12_isLine_7 hl (lt_b rfl) rfl (fun ls hl => ?_)
  refine lv_iload_n hx hb dX12_isLine_9 rfl (lv_at hl 3 rfl) ?_
  refine lv_if_ne (tgt := 42) hx hb dX12_isLine_10 rfl (fun c_3 => ?_) (fun c_3 => ?_)
  · have c_3 : p1.toInt ≠ 0 := xI_ne rfl rfl c_3
    refine ic_0 hx hb dX12_isLine_42 ?_
    refine lv_istore (lv' := [(5, .int 0), (4, .int y_2), (0, .ref (a 66)), (1, .int p0), (2, .int p1), (3, .int p2)]) hx hb dX12_isLine_43 hl (lt_b rfl) rfl (fun ls hl => ?_)
    refine ic_0 hx hb dX12_isLine_45 ?_
    refine lv_istore (lv' := [(6, .int 0), (5, .int 0), (4, .int y_2), (0, .ref (a 66)), (1, .int p0), (2, .int p1), (3, .int p2)]) hx hb dX12_isLine_46 hl (lt_b rfl) rfl (fun ls hl => ?_)
    have qc_11 : (0 : Int32).toInt = 0 := rfl
    refine loop_N (Inv := fun n H locs ls => ∃ (G_4 : GS) (x_8 : Int32) (x_9 : Int32), (n : Int) = 6 - x_8.toInt ∧ (0 ≤ x_8.toInt ∧ x_8.toInt ≤ 6) ∧ (0 ≤ x_9.toInt ∧ x_9.toInt ≤ 1) ∧ Rc (St_n_isLine_1 p1 y_2 G) (0, 0, G) (x_8, x_9, G_4) ∧ Wd D k A a G_4 H ∧ Bd G_4 ∧ Fr [76] [] G G_4 ∧ Fr [76] [] G G_4 ∧ va_S A s.heap H locs ∧ lv_has ls 7 [(6, .int x_8), (5, .int x_9), (4, .int y_2), (0, .ref (a 66)), (2, .int p1)]) (fun n_7 H locs ls ih_6 hI => ?_) (6 - 0 : Int).toNat ⟨G, 0, 0, (Int.toNat_of_nonneg ((by first | (clear ha_p0 ha_p2 hP9 ty_1 ty_2 c_3; omega) | omega))), ⟨(by first | (clear ha_p0 ha_p2 hP9 ty_1 ty_2 c_3; omega) | omega), (by first | (clear ha_p0 ha_p2 hP9 ty_1 ty_2 c_3; omega) | omega)⟩, ⟨(by first | (clear ha_p0 ha_p2 hP9 ty_1 ty_2 c_3; omega) | omega), (by first | (clear ha_p0 ha_p2 hP9 ty_1 ty_2 c_3; omega) | omega)⟩, Rc.rf, hW, hB_G, hF, Fr.rf, hS, lv_sub hl [0, 1, 2, 3, 5] rfl⟩
    obtain ⟨G_4, x_8, x_9, hn_14, f_12, f_13, hX_10, hW, hB_G_4, hF, hq_5, hS, hl⟩ := hI
    refine lv_iload hx hb dX12_isLine_48 (lv_at hl 0 rfl) ?_
    refine lv_aload_n hx hb dX12_isLine_50 rfl (lv_at hl 3 rfl) ?_
    have b_15 : 0 ≤ (G.1 66 54).toInt ∧ (G.1 66 54).toInt ≤ 6 := bd_66_54 hB_G
    refine S_getI (v := (G.1 66 54)) (C := RX12) (T := TX12) (N := 89) hx hb hg iX12 hown hK hW kd_66 rfl 54 (lt_b rfl) (hg (Cond.fieldLink RX12 431 "SlabWalkModel" "rules" "I") m1368) (fun _ h9 => h9) rfl (hq_5.i9 66 54 rfl rfl) dX12_isLine_51 ?_
    refine lv_icmp_ge (tgt := 96) hx hb dX12_isLine_54 rfl (fun c_16 => ?_) (fun c_16 => ?_)
    · have c_16 : (G.1 66 54).toInt ≤ x_8.toInt := xI_le rfl rfl c_16
      refine lv_iload hx hb dX12_isLine_96 (lv_at hl 1 rfl) ?_
      exact W.zret (v := x_9) hx hb hr (nar_z ((by first | (clear ha_p0 ha_p2 hP9 ty_1 ty_2 c_3 hn_14 f_12 b_15 c_16; omega) | omega)) ((by first | (clear ha_p0 ha_p2 hP9 ty_1 ty_2 c_3 hn_14 f_12 b_15 c_16; omega) | omega))) (fun t ht _ => ⟨⟨x_9, G_4, rfl, (Q_isLine_mk ⟨hB_G_4, hF, ⟨(by first | (clear ha_p0 ha_p2 hP9 ty_1 ty_2 c_3 hn_14 f_12 b_15 c_16; omega) | omega), (by first | (clear ha_p0 ha_p2 hP9 ty_1 ty_2 c_3 hn_14 f_12 b_15 c_16; omega) | omega)⟩, ⟨y_1, ty_1, ⟨y_2, ty_2, (Or.inr ⟨c_3, ⟨x_8, x_9, G_4, hX_10, f_12, f_13, hB_G_4, hq_5, (Or.inl ⟨c_16, ⟨rfl, rfl⟩⟩)⟩⟩)⟩⟩⟩), wd_t ht hW⟩, hS.F ht⟩) hS.2.2 dX12_isLine_98
    · have c_16 : x_8.toInt < (G.1 66 54).toInt := xI_nle rfl rfl c_16
      refine lv_iload hx hb dX12_isLine_57 (lv_at hl 1 rfl) ?_
      refine lv_if_ne (tgt := 96) hx hb dX12_isLine_59 rfl (fun c_17 => ?_) (fun c_17 => ?_)
      · have c_17 : x_9.toInt ≠ 0 := xI_ne rfl rfl c_17
        refine lv_iload hx hb dX12_isLine_96 (lv_at hl 1 rfl) ?_
        exact W.zret (v := x_9) hx hb hr (nar_z ((by first | (clear ha_p0 ha_p2 hP9 ty_1 ty_2 c_3 hn_14 f_12 b_15 c_16; omega) | omega)) ((by first | (clear ha_p0 ha_p2 hP9 ty_1 ty_2 c_3 hn_14 f_12 b_15 c_16; omega) | omega))) (fun t ht _ => ⟨⟨x_9, G_4, rfl, (Q_isLine_mk ⟨hB_G_4, hF, ⟨(by first | (clear ha_p0 ha_p2 hP9 ty_1 ty_2 c_3 hn_14 f_12 b_15 c_16; omega) | omega), (by first | (clear ha_p0 ha_p2 hP9 ty_1 ty_2 c_3 hn_14 f_12 b_15 c_16; omega) | omega)⟩, ⟨y_1, ty_1, ⟨y_2, ty_2, (Or.inr ⟨c_3, ⟨x_8, x_9, G_4, hX_10, f_12, f_13, hB_G_4, hq_5, (Or.inr ⟨c_16, ⟨c_17, ⟨rfl, rfl⟩⟩⟩)⟩⟩)⟩⟩⟩), wd_t ht hW⟩, hS.F ht⟩) hS.2.2 dX12_isLine_98
      · have c_17 : x_9.toInt = 0 := xI_eq rfl rfl c_17
        refine lv_iload_n hx hb dX12_isLine_62 rfl (lv_at hl 4 rfl) ?_
        refine lv_iload hx hb dX12_isLine_63 (lv_at hl 0 rfl) ?_
        refine lv_ishr hx hb dX12_isLine_65 ?_
        refine lv_topi (fun y_18 ey_18 => ?_)
        refine ic_1 hx hb dX12_isLine_66 ?_
        refine lv_iand hx hb dX12_isLine_67 ?_
        refine lv_topi (fun y_19 ey_19 => ?_)
        have ty_19 := xI_and (Y := 1) rfl ey_19 (by decide)
        refine ic_1 hx hb dX12_isLine_68 ?_
        refine lv_icmp_ne (tgt := 87) hx hb dX12_isLine_69 rfl (fun c_20 => ?_) (fun c_20 => ?_)
        · have c_20 : y_19.toInt ≠ 1 := xI_ne rfl rfl c_20
          refine ic_0 hx hb dX12_isLine_87 ?_
          refine lv_istore (lv' := [(5, .int 0), (6, .int x_8), (4, .int y_2), (0, .ref (a 66)), (2, .int p1)]) hx hb dX12_isLine_88 hl (lt_b rfl) rfl (fun ls hl => ?_)
          obtain ⟨y_21, ey_21⟩ : ∃ q, q = x_8 + 1 := ⟨_, rfl⟩
          have ty_21 : y_21.toInt = x_8.toInt + 1 := xI_add rfl rfl ey_21 ((by first | (clear ha_p0 ha_p2 hP9 ty_1 ty_2 c_3 hn_14 f_13 c_17 c_20; omega) | omega)) ((by first | (clear ha_p0 ha_p2 hP9 ty_1 ty_2 c_3 hn_14 f_13 c_17 c_20; omega) | omega))
          refine lv_iinc (v := y_21) (lv' := [(6, .int y_21), (5, .int 0), (4, .int y_2), (0, .ref (a 66)), (2, .int p1)]) hx hb dX12_isLine_90 hl (k := 1) rfl (by rw [ey_21]; rfl) (lt_b rfl) rfl (fun ls hl => ?_)
          refine lv_goto (tgt := 48) hx hb dX12_isLine_93 rfl ?_
          have qc_22 : (0 : Int32).toInt = 0 := rfl
          exact ih_6 (6 - y_21.toInt : Int).toNat ((by first | (clear ha_p0 ha_p2 hP9 ty_1 ty_2 c_3 f_13 c_17 c_20; omega) | omega)) _ _ _ ⟨G_4, y_21, 0, (Int.toNat_of_nonneg ((by first | (clear ha_p0 ha_p2 hP9 ty_1 ty_2 c_3 hn_14 f_13 c_17 c_20; omega) | omega))), ⟨(by first | (clear ha_p0 ha_p2 hP9 ty_1 ty_2 c_3 hn_14 f_13 c_17 c_20; omega) | omega), (by first | (clear ha_p0 ha_p2 hP9 ty_1 ty_2 c_3 hn_14 f_13 c_17 c_20; omega) | omega)⟩, ⟨(by first | (clear ha_p0 ha_p2 hP9 ty_1 ty_2 c_3 hn_14 f_12 f_13 b_15 c_16 c_17 c_20 ty_21; omega) | omega), (by first | (clear ha_p0 ha_p2 hP9 ty_1 ty_2 c_3 hn_14 f_12 f_13 b_15 c_16 c_17 c_20 ty_21; omega) | omega)⟩, (hX_10.st (St_n_isLine_1_mk ⟨x_8, x_9, G_4, y_21, 0, G_4, rfl, rfl, f_12, f_13, hB_G_4, ⟨c_16, ⟨c_17, ⟨y_18, ey_18, ⟨y_19, ey_19, (Or.inr ⟨c_20, ⟨y_21, ty_21, ⟨rfl, rfl, rfl⟩⟩⟩)⟩⟩⟩⟩⟩)), hW, hB_G_4, hF, (Fr.call9 (rs := [76]) (fs := []) Fr.rf hq_5 rfl rfl), hS, lv_sub hl [0, 1, 2, 3, 4] rfl⟩
        · have c_20 : y_19.toInt = 1 := xI_eq rfl rfl c_20
          refine lv_aload_n hx hb dX12_isLine_72 rfl (lv_at hl 3 rfl) ?_
          refine lv_iload hx hb dX12_isLine_73 (lv_at hl 0 rfl) ?_
          refine lv_iload hx hb dX12_isLine_75 (lv_at hl 2 rfl) ?_
          have fr_23 : Fr [76] [] G G_4 := (Fr.call9 (rs := [76]) (fs := []) Fr.rf hq_5 rfl rfl)
          have g_24 : gP G_4 = gP G := gP_fr fr_23 (gr_q rfl) (gf_q rfl)
          have g_25 : (G_4.1 66 54).toInt = (G.1 66 54).toInt := (congrArg Int32.toInt (show G_4.1 66 54 = (G.1 66 54) from ((hq_5.i9 66 54 rfl rfl).trans (rfl))))
          refine S_calli (va_runV (As := [.int x_8, .int y_2]) (rest := []) ⟨hx, hb, hml, hown, hts⟩ (n_worked l D k A a z G_4 x_8 y_2 ⟨(by first | (clear ha_p0 ha_p2 hP9 ty_1 ty_2 c_3 hn_14 f_13 c_17 c_20 g_24; omega) | omega), (by first | (clear ha_p0 ha_p2 hP9 ty_1 ty_2 c_3 hn_14 f_13 c_17 c_20 g_24; omega) | omega)⟩ ⟨(by first | (clear hP9 c_3 hn_14 f_12 f_13 b_15 c_16 c_17 c_20 g_24 g_25; omega) | omega), (by first | (clear hP9 c_3 hn_14 f_12 f_13 b_15 c_16 c_17 c_20 g_24 g_25; omega) | omega)⟩ ((by first | (clear ha_p0 ha_p2 ty_1 ty_2 c_3 hn_14 f_12 f_13 b_15 c_16 c_17 c_20 g_25; omega) | omega)) ((by first | (clear ha_p0 ha_p2 hP9 ty_1 ty_2 c_3 hn_14 f_13 c_17 c_20 g_24; omega) | omega))) (cwV 2 hts (gd_V hgd m1807 m1809 m87 m131 m1810) rfl rfl rfl hd_X12_worked ⟨Nat.le_of_ble_eq_true rfl, Nat.le_of_ble_eq_true rfl⟩) (pre_W hW hB_G_4 hK hZ hS kd_66 rfl) rfl rfl hl.1 rfl (lv_room (Nat.le_of_ble_eq_true rfl)) dX12_isLine_77 ⟨Nat.le_of_ble_eq_true rfl, Nat.le_of_ble_eq_true rfl⟩) hS (fun r_26 G_27 H locs hpo hW hS => ?_)
          have hX_30 : Q_worked x_8 y_2 G_4 r_26 G_27 := hpo
          obtain ⟨hB_G_27, hq_28, -⟩ := hpo
          have hF := hF.call9 hq_28 rfl rfl
          refine lv_if_eq (tgt := 87) hx hb dX12_isLine_80 rfl (fun c_31 => ?_) (fun c_31 => ?_)
          · have c_31 : r_26.toInt = 0 := xI_eq rfl rfl c_31
            refine ic_0 hx hb dX12_isLine_87 ?_
            refine lv_istore (lv' := [(5, .int 0), (6, .int x_8), (4, .int y_2), (0, .ref (a 66)), (2, .int p1)]) hx hb dX12_isLine_88 hl (lt_b rfl) rfl (fun ls hl => ?_)
            obtain ⟨y_32, ey_32⟩ : ∃ q, q = x_8 + 1 := ⟨_, rfl⟩
            have ty_32 : y_32.toInt = x_8.toInt + 1 := xI_add rfl rfl ey_32 ((by first | (clear ha_p0 ha_p2 hP9 ty_1 ty_2 c_3 hn_14 f_13 c_17 c_20 g_24 c_31; omega) | omega)) ((by first | (clear ha_p0 ha_p2 hP9 ty_1 ty_2 c_3 hn_14 f_13 c_17 c_20 g_24 c_31; omega) | omega))
            refine lv_iinc (v := y_32) (lv' := [(6, .int y_32), (5, .int 0), (4, .int y_2), (0, .ref (a 66)), (2, .int p1)]) hx hb dX12_isLine_90 hl (k := 1) rfl (by rw [ey_32]; rfl) (lt_b rfl) rfl (fun ls hl => ?_)
            refine lv_goto (tgt := 48) hx hb dX12_isLine_93 rfl ?_
            have qc_33 : (0 : Int32).toInt = 0 := rfl
            exact ih_6 (6 - y_32.toInt : Int).toNat ((by first | (clear ha_p0 ha_p2 hP9 ty_1 ty_2 c_3 f_13 c_17 c_20 g_24 c_31; omega) | omega)) _ _ _ ⟨G_27, y_32, 0, (Int.toNat_of_nonneg ((by first | (clear ha_p0 ha_p2 hP9 ty_1 ty_2 c_3 hn_14 f_13 c_17 c_20 g_24 c_31; omega) | omega))), ⟨(by first | (clear ha_p0 ha_p2 hP9 ty_1 ty_2 c_3 hn_14 f_13 c_17 c_20 g_24 c_31; omega) | omega), (by first | (clear ha_p0 ha_p2 hP9 ty_1 ty_2 c_3 hn_14 f_13 c_17 c_20 g_24 c_31; omega) | omega)⟩, ⟨(by first | (clear ha_p0 ha_p2 hP9 ty_1 ty_2 c_3 hn_14 f_12 f_13 b_15 c_16 c_17 c_20 g_24 g_25 c_31 ty_32; omega) | omega), (by first | (clear ha_p0 ha_p2 hP9 ty_1 ty_2 c_3 hn_14 f_12 f_13 b_15 c_16 c_17 c_20 g_24 g_25 c_31 ty_32; omega) | omega)⟩, (hX_10.st (St_n_isLine_1_mk ⟨x_8, x_9, G_4, y_32, 0, G_27, rfl, rfl, f_12, f_13, hB_G_4, ⟨c_16, ⟨c_17, ⟨y_18, ey_18, ⟨y_19, ey_19, (Or.inl ⟨c_20, ⟨r_26, G_27, hX_30, (Or.inl ⟨c_31, ⟨y_32, ty_32, ⟨rfl, rfl, rfl⟩⟩⟩)⟩⟩)⟩⟩⟩⟩⟩)), hW, hB_G_27, hF, (Fr.call9 (rs := [76]) (fs := []) (Fr.call9 (rs := [76]) (fs := []) Fr.rf hq_5 rfl rfl) hq_28 rfl rfl), hS, lv_sub hl [0, 1, 2, 3, 4] rfl⟩
          · have c_31 : r_26.toInt ≠ 0 := xI_ne rfl rfl c_31
            refine ic_1 hx hb dX12_isLine_83 ?_
            refine lv_goto (tgt := 88) hx hb dX12_isLine_84 rfl ?_
            refine lv_istore (lv' := [(5, .int 1), (6, .int x_8), (4, .int y_2), (0, .ref (a 66)), (2, .int p1)]) hx hb dX12_isLine_88 hl (lt_b rfl) rfl (fun ls hl => ?_)
            obtain ⟨y_34, ey_34⟩ : ∃ q, q = x_8 + 1 := ⟨_, rfl⟩
            have ty_34 : y_34.toInt = x_8.toInt + 1 := xI_add rfl rfl ey_34 ((by first | (clear ha_p0 ha_p2 hP9 ty_1 ty_2 c_3 hn_14 f_13 c_17 c_20 g_24 c_31; omega) | omega)) ((by first | (clear ha_p0 ha_p2 hP9 ty_1 ty_2 c_3 hn_14 f_13 c_17 c_20 g_24 c_31; omega) | omega))
            refine lv_iinc (v := y_34) (lv' := [(6, .int y_34), (5, .int 1), (4, .int y_2), (0, .ref (a 66)), (2, .int p1)]) hx hb dX12_isLine_90 hl (k := 1) rfl (by rw [ey_34]; rfl) (lt_b rfl) rfl (fun ls hl => ?_)
            refine lv_goto (tgt := 48) hx hb dX12_isLine_93 rfl ?_
            have qc_35 : (1 : Int32).toInt = 1 := rfl
            exact ih_6 (6 - y_34.toInt : Int).toNat ((by first | (clear ha_p0 ha_p2 hP9 ty_1 ty_2 c_3 f_13 c_17 c_20 g_24 c_31; omega) | omega)) _ _ _ ⟨G_27, y_34, 1, (Int.toNat_of_nonneg ((by first | (clear ha_p0 ha_p2 hP9 ty_1 ty_2 c_3 hn_14 f_13 c_17 c_20 g_24 c_31; omega) | omega))), ⟨(by first | (clear ha_p0 ha_p2 hP9 ty_1 ty_2 c_3 hn_14 f_13 c_17 c_20 g_24 c_31; omega) | omega), (by first | (clear ha_p0 ha_p2 hP9 ty_1 ty_2 c_3 hn_14 f_13 c_17 c_20 g_24 c_31; omega) | omega)⟩, ⟨(by first | (clear ha_p0 ha_p2 hP9 ty_1 ty_2 c_3 hn_14 f_12 f_13 b_15 c_16 c_17 c_20 g_24 g_25 c_31 ty_34; omega) | omega), (by first | (clear ha_p0 ha_p2 hP9 ty_1 ty_2 c_3 hn_14 f_12 f_13 b_15 c_16 c_17 c_20 g_24 g_25 c_31 ty_34; omega) | omega)⟩, (hX_10.st (St_n_isLine_1_mk ⟨x_8, x_9, G_4, y_34, 1, G_27, rfl, rfl, f_12, f_13, hB_G_4, ⟨c_16, ⟨c_17, ⟨y_18, ey_18, ⟨y_19, ey_19, (Or.inl ⟨c_20, ⟨r_26, G_27, hX_30, (Or.inr ⟨c_31, ⟨y_34, ty_34, ⟨rfl, rfl, rfl⟩⟩⟩)⟩⟩)⟩⟩⟩⟩⟩)), hW, hB_G_27, hF, (Fr.call9 (rs := [76]) (fs := []) (Fr.call9 (rs := [76]) (fs := []) Fr.rf hq_5 rfl rfl) hq_28 rfl rfl), hS, lv_sub hl [0, 1, 2, 3, 4] rfl⟩
  · have c_3 : p1.toInt = 0 := xI_eq rfl rfl c_3
    refine lv_aload_n hx hb dX12_isLine_13 rfl (lv_at hl 1 rfl) ?_
    refine S_getR (n := 87) (C := RX12) (T := TX12) (N := 89) hx hb hg iX12 hown hK hW kd_66 rfl 35 (lt_b rfl) (hg (Cond.fieldLink RX12 75 "SlabWalkModel" "marks" "[I") m1349) (fun _ h9 => h9) rfl dX12_isLine_14 ?_
    refine lv_iload hx hb dX12_isLine_17 (lv_at hl 0 rfl) ?_
    refine S_iald hx hb hK hW kd_87 (vin (by omega) (by omega)) dX12_isLine_19 (fun y_36 ey_36 => ?_)
    refine lv_if_lt (tgt := 36) hx hb dX12_isLine_20 rfl (fun c_37 => ?_) (fun c_37 => ?_)
    · have c_37 : y_36.toInt < 0 := xI_lt rfl rfl c_37
      refine ic_1 hx hb dX12_isLine_36 ?_
      refine lv_goto (tgt := 41) hx hb dX12_isLine_37 rfl ?_
      exact W.zret (v := 1) hx hb hr (by decide) (fun t ht _ => ⟨⟨1, G, rfl, (Q_isLine_mk ⟨hB_G, hF, ⟨by decide, by decide⟩, ⟨y_1, ty_1, ⟨y_2, ty_2, (Or.inl ⟨c_3, ⟨y_36, ey_36, (Or.inl ⟨c_37, ⟨rfl, rfl⟩⟩)⟩⟩)⟩⟩⟩), wd_t ht hW⟩, hS.F ht⟩) hS.2.2 dX12_isLine_41
    · have c_37 : 0 ≤ y_36.toInt := xI_nlt rfl rfl c_37
      refine lv_aload_n hx hb dX12_isLine_23 rfl (lv_at hl 1 rfl) ?_
      refine S_getR (n := 87) (C := RX12) (T := TX12) (N := 89) hx hb hg iX12 hown hK hW kd_66 rfl 35 (lt_b rfl) (hg (Cond.fieldLink RX12 75 "SlabWalkModel" "marks" "[I") m1349) (fun _ h9 => h9) rfl dX12_isLine_24 ?_
      refine lv_iload hx hb dX12_isLine_27 (lv_at hl 0 rfl) ?_
      refine S_iald hx hb hK hW kd_87 (vin ((by first | (clear hP9 c_3 c_37; omega) | omega)) ((by first | (clear hP9 c_3 c_37; omega) | omega))) dX12_isLine_29 (fun y_38 ey_38 => ?_)
      refine lv_bipush (v := 6) hx hb dX12_isLine_30 (by decide) ?_
      refine lv_iand hx hb dX12_isLine_32 ?_
      refine lv_topi (fun y_39 ey_39 => ?_)
      have ty_39 := xI_and (Y := 6) rfl ey_39 (by decide)
      refine lv_if_eq (tgt := 40) hx hb dX12_isLine_33 rfl (fun c_40 => ?_) (fun c_40 => ?_)
      · have c_40 : y_39.toInt = 0 := xI_eq rfl rfl c_40
        refine ic_0 hx hb dX12_isLine_40 ?_
        exact W.zret (v := 0) hx hb hr (by decide) (fun t ht _ => ⟨⟨0, G, rfl, (Q_isLine_mk ⟨hB_G, hF, ⟨by decide, by decide⟩, ⟨y_1, ty_1, ⟨y_2, ty_2, (Or.inl ⟨c_3, ⟨y_36, ey_36, (Or.inr ⟨c_37, ⟨y_38, ey_38, ⟨y_39, ey_39, (Or.inl ⟨c_40, ⟨rfl, rfl⟩⟩)⟩⟩⟩)⟩⟩)⟩⟩⟩), wd_t ht hW⟩, hS.F ht⟩) hS.2.2 dX12_isLine_41
      · have c_40 : y_39.toInt ≠ 0 := xI_ne rfl rfl c_40
        refine ic_1 hx hb dX12_isLine_36 ?_
        refine lv_goto (tgt := 41) hx hb dX12_isLine_37 rfl ?_
        exact W.zret (v := 1) hx hb hr (by decide) (fun t ht _ => ⟨⟨1, G, rfl, (Q_isLine_mk ⟨hB_G, hF, ⟨by decide, by decide⟩, ⟨y_1, ty_1, ⟨y_2, ty_2, (Or.inl ⟨c_3, ⟨y_36, ey_36, (Or.inr ⟨c_37, ⟨y_38, ey_38, ⟨y_39, ey_39, (Or.inr ⟨c_40, ⟨rfl, rfl⟩⟩)⟩⟩⟩)⟩⟩)⟩⟩⟩), wd_t ht hW⟩, hS.F ht⟩) hS.2.2 dX12_isLine_41

set_option maxHeartbeats 4000000 in
set_option maxRecDepth 100000 in
theorem n_layStreet (l : Launch) (D : va_G) (k : KT) (A : Nat → Prop) (a : Nat → Nat) (z : SK) (G : GS) (p0 : Int32) (p1 : Int32) (p2 : Int32) (ha_p0 : 0 ≤ p0.toInt ∧ p0.toInt ≤ 3) (ha_p1 : 0 ≤ p1.toInt ∧ p1.toInt ≤ 2) (hP9 : gP G = 1) : Met l yX12_layStreet (WS yX12_layStreet cX12_layStreet 6 none) ({ frames := 4, cells := 0, slots := 0, locals := 92 }) (va_Pc [.ref (a 66), .int p0, .int p1, .int p2] (cW D k A a z G)) (va_Qv (fun (G1 : GS) => Q_layStreet p0 p1 p2 G G1) (fun (G1 : GS) t => Wd D k A a G1 t.heap) A) 0 0 A := by
  refine Met.ofW (cc := cX12_layStreet) (maxL := 6) (ret := none) (by decide) rfl ?_
  intro p e s m args below meth c s₁ B hml hv
  obtain ⟨rfl, hW, hB_G, hK, hZ⟩ := hv
  have hx := B.exec
  have hb := B.bytes
  have hr := B.returns
  have hts := atoms_spec (ws := WS yX12_layStreet cX12_layStreet 6 none) B.pre
  have hgd : ∀ w ∈ gd, w ∈ WS yX12_layStreet cX12_layStreet 6 none := fun w h => List.mem_cons_of_mem _ h
  have hg : ∀ w ∈ gd, w.before _ s = true := fun w h => hts w (hgd w h)
  have hown : s.vm.findClass RX12 = some m.cls := findClass_of_methodNamed B.named
  have hS : va_S A s.heap s.heap [] := va_S.rf
  have hF : Fr [76, 97, 98] [(66, 59), (66, 60), (66, 61), (66, 62), (66, 63)] G G := Fr.rf
  have hl := lv_entry ([.ref (a 66), .int p0, .int p1, .int p2]) (n := 6) (Nat.le_of_ble_eq_true rfl)
  rw [lg_entry_eq]
  generalize (lg_sl ([.ref (a 66), .int p0, .int p1, .int p2]) ++ List.replicate (6 - (lg_sl ([.ref (a 66), .int p0, .int p1, .int p2])).length) Slot.unset).toArray = ls at hl ⊢
  have hl : lv_has ls 6 [(0, .ref (a 66)), (1, .int p0), (2, .int p1), (3, .int p2)] := hl
  refine lv_aload_n hx hb dX12_layStreet_0 rfl (lv_at hl 0 rfl) ?_
  refine lv_aload_n hx hb dX12_layStreet_1 rfl (lv_at hl 0 rfl) ?_
  refine S_getR (n := 91) (C := RX12) (T := TX12) (N := 89) hx hb hg iX12 hown hK hW kd_66 rfl 39 (lt_b rfl) (hg (Cond.fieldLink RX12 87 "SlabWalkModel" "lengths" "[I") m1353) (fun _ h9 => h9) rfl dX12_layStreet_2 ?_
  refine lv_iload_n hx hb dX12_layStreet_5 rfl (lv_at hl 2 rfl) ?_
  refine S_iald hx hb hK hW kd_91 (vin (by omega) (by omega)) dX12_layStreet_6 (fun y_1 ey_1 => ?_)
  have ty_1 : 0 ≤ y_1.toInt ∧ y_1.toInt ≤ 400 := bv_91 hB_G ey_1
  have u_2 : y_1.toInt = (G.1 91 p1.toNatClampNeg).toInt := congrArg Int32.toInt (ey_1)
  refine S_putI (ty := .int) (C := RX12) (T := TX12) (N := 89) hx hb hg iX12 tyX12 tyX12_ok nmX12 hown hK hW hS kd_66 rfl 59 (lt_b rfl) (hg (Cond.fieldLink RX12 469 "SlabWalkModel" "inchesOf" "I") m1373) (fun _ h9 => h9) rfl (by decide +kernel) rfl rfl rfl dX12_layStreet_7 (fun G_3 H locs eG_3 hW hS => ?_)
  have hB_G_3 : Bd G_3 := hB_G.put (V := y_1.toInt) (lo := 0) (hi := 400) eG_3 rfl rfl rfl (by omega) (by omega) (hB_G.2.put eG_3 rfl)
  have hF := hF.put eG_3 (Or.inr (by decide))
  refine lv_aload_n hx hb dX12_layStreet_10 rfl (lv_at hl 0 rfl) ?_
  refine lv_aload_n hx hb dX12_layStreet_11 rfl (lv_at hl 0 rfl) ?_
  refine S_getR (n := 92) (C := RX12) (T := TX12) (N := 89) hx hb hg iX12 hown hK hW kd_66 rfl 40 (lt_b rfl) (hg (Cond.fieldLink RX12 90 "SlabWalkModel" "foots" "[I") m1354) (fun _ h9 => h9) rfl dX12_layStreet_12 ?_
  refine lv_iload_n hx hb dX12_layStreet_15 rfl (lv_at hl 1 rfl) ?_
  refine S_iald hx hb hK hW kd_92 (vin ((by first | (clear ha_p1 hP9 ty_1 u_2; omega) | omega)) ((by first | (clear ha_p1 hP9 ty_1 u_2; omega) | omega))) dX12_layStreet_16 (fun y_4 ey_4 => ?_)
  have ty_4 : 0 ≤ y_4.toInt ∧ y_4.toInt ≤ 12 := bv_92 hB_G_3 ey_4
  have u_5 : y_4.toInt = (G.1 92 p0.toNatClampNeg).toInt := congrArg Int32.toInt (ey_4.trans ((gp_ne eG_3 (fun q => absurd q.1 (Nat.ne_of_beq_eq_false rfl)))))
  refine S_putI (ty := .int) (C := RX12) (T := TX12) (N := 89) hx hb hg iX12 tyX12 tyX12_ok nmX12 hown hK hW hS kd_66 rfl 60 (lt_b rfl) (hg (Cond.fieldLink RX12 472 "SlabWalkModel" "foot" "I") m1374) (fun _ h9 => h9) rfl (by decide +kernel) rfl rfl rfl dX12_layStreet_17 (fun G_6 H locs eG_6 hW hS => ?_)
  have hB_G_6 : Bd G_6 := hB_G_3.put (V := y_4.toInt) (lo := 0) (hi := 12) eG_6 rfl rfl rfl ((by first | (clear ha_p1 hP9 ty_1 u_2; omega) | omega)) ((by first | (clear ha_p1 hP9 ty_1 u_2; omega) | omega)) (hB_G_3.2.put eG_6 rfl)
  have hF := hF.put eG_6 (Or.inr (by decide))
  refine lv_aload_n hx hb dX12_layStreet_20 rfl (lv_at hl 0 rfl) ?_
  refine lv_aload_n hx hb dX12_layStreet_21 rfl (lv_at hl 0 rfl) ?_
  refine S_getR (n := 93) (C := RX12) (T := TX12) (N := 89) hx hb hg iX12 hown hK hW kd_66 rfl 41 (lt_b rfl) (hg (Cond.fieldLink RX12 93 "SlabWalkModel" "leasts" "[I") m1355) (fun _ h9 => h9) rfl dX12_layStreet_22 ?_
  refine lv_iload_n hx hb dX12_layStreet_25 rfl (lv_at hl 1 rfl) ?_
  refine S_iald hx hb hK hW kd_93 (vin ((by first | (clear ha_p1 hP9 ty_1 u_2; omega) | omega)) ((by first | (clear ha_p1 hP9 ty_1 u_2; omega) | omega))) dX12_layStreet_26 (fun y_7 ey_7 => ?_)
  have ty_7 : 0 ≤ y_7.toInt ∧ y_7.toInt ≤ 60 := bv_93 hB_G_6 ey_7
  have u_8 : y_7.toInt = (G.1 93 p0.toNatClampNeg).toInt := congrArg Int32.toInt (ey_7.trans (((gp_ne eG_6 (fun q => absurd q.1 (Nat.ne_of_beq_eq_false rfl))).trans (gp_ne eG_3 (fun q => absurd q.1 (Nat.ne_of_beq_eq_false rfl))))))
  refine S_putI (ty := .int) (C := RX12) (T := TX12) (N := 89) hx hb hg iX12 tyX12 tyX12_ok nmX12 hown hK hW hS kd_66 rfl 61 (lt_b rfl) (hg (Cond.fieldLink RX12 475 "SlabWalkModel" "least" "I") m1375) (fun _ h9 => h9) rfl (by decide +kernel) rfl rfl rfl dX12_layStreet_27 (fun G_9 H locs eG_9 hW hS => ?_)
  have hB_G_9 : Bd G_9 := hB_G_6.put (V := y_7.toInt) (lo := 0) (hi := 60) eG_9 rfl rfl rfl ((by first | (clear ha_p1 hP9 ty_1 u_2; omega) | omega)) ((by first | (clear ha_p1 hP9 ty_1 u_2; omega) | omega)) (hB_G_6.2.put eG_9 rfl)
  have hF := hF.put eG_9 (Or.inr (by decide))
  refine lv_aload_n hx hb dX12_layStreet_30 rfl (lv_at hl 0 rfl) ?_
  refine lv_aload_n hx hb dX12_layStreet_31 rfl (lv_at hl 0 rfl) ?_
  refine S_getR (n := 94) (C := RX12) (T := TX12) (N := 89) hx hb hg iX12 hown hK hW kd_66 rfl 42 (lt_b rfl) (hg (Cond.fieldLink RX12 96 "SlabWalkModel" "mosts" "[I") m1356) (fun _ h9 => h9) rfl dX12_layStreet_32 ?_
  refine lv_iload_n hx hb dX12_layStreet_35 rfl (lv_at hl 1 rfl) ?_
  refine S_iald hx hb hK hW kd_94 (vin ((by first | (clear ha_p1 hP9 ty_1 u_2; omega) | omega)) ((by first | (clear ha_p1 hP9 ty_1 u_2; omega) | omega))) dX12_layStreet_36 (fun y_10 ey_10 => ?_)
  have ty_10 : 0 ≤ y_10.toInt ∧ y_10.toInt ≤ 60 := bv_94 hB_G_9 ey_10
  have u_11 : y_10.toInt = (G.1 94 p0.toNatClampNeg).toInt := congrArg Int32.toInt (ey_10.trans (((gp_ne eG_9 (fun q => absurd q.1 (Nat.ne_of_beq_eq_false rfl))).trans ((gp_ne eG_6 (fun q => absurd q.1 (Nat.ne_of_beq_eq_false rfl))).trans (gp_ne eG_3 (fun q => absurd q.1 (Nat.ne_of_beq_eq_false rfl)))))))
  refine S_putI (ty := .int) (C := RX12) (T := TX12) (N := 89) hx hb hg iX12 tyX12 tyX12_ok nmX12 hown hK hW hS kd_66 rfl 62 (lt_b rfl) (hg (Cond.fieldLink RX12 478 "SlabWalkModel" "most" "I") m1376) (fun _ h9 => h9) rfl (by decide +kernel) rfl rfl rfl dX12_layStreet_37 (fun G_12 H locs eG_12 hW hS => ?_)
  have hB_G_12 : Bd G_12 := hB_G_9.put (V := y_10.toInt) (lo := 0) (hi := 60) eG_12 rfl rfl rfl ((by first | (clear ha_p1 hP9 ty_1 u_2; omega) | omega)) ((by first | (clear ha_p1 hP9 ty_1 u_2; omega) | omega)) (hB_G_9.2.put eG_12 rfl)
  have hF := hF.put eG_12 (Or.inr (by decide))
  refine lv_aload_n hx hb dX12_layStreet_40 rfl (lv_at hl 0 rfl) ?_
  refine lv_aload_n hx hb dX12_layStreet_41 rfl (lv_at hl 0 rfl) ?_
  refine S_getR (n := 95) (C := RX12) (T := TX12) (N := 89) hx hb hg iX12 hown hK hW kd_66 rfl 43 (lt_b rfl) (hg (Cond.fieldLink RX12 99 "SlabWalkModel" "leaps" "[I") m1357) (fun _ h9 => h9) rfl dX12_layStreet_42 ?_
  refine lv_iload_n hx hb dX12_layStreet_45 rfl (lv_at hl 1 rfl) ?_
  refine S_iald hx hb hK hW kd_95 (vin ((by first | (clear ha_p1 hP9 ty_1 u_2; omega) | omega)) ((by first | (clear ha_p1 hP9 ty_1 u_2; omega) | omega))) dX12_layStreet_46 (fun y_13 ey_13 => ?_)
  have ty_13 : 0 ≤ y_13.toInt ∧ y_13.toInt ≤ 99 := bv_95 hB_G_12 ey_13
  have u_14 : y_13.toInt = (G.1 95 p0.toNatClampNeg).toInt := congrArg Int32.toInt (ey_13.trans (((gp_ne eG_12 (fun q => absurd q.1 (Nat.ne_of_beq_eq_false rfl))).trans ((gp_ne eG_9 (fun q => absurd q.1 (Nat.ne_of_beq_eq_false rfl))).trans ((gp_ne eG_6 (fun q => absurd q.1 (Nat.ne_of_beq_eq_false rfl))).trans (gp_ne eG_3 (fun q => absurd q.1 (Nat.ne_of_beq_eq_false rfl))))))))
  refine S_putI (ty := .int) (C := RX12) (T := TX12) (N := 89) hx hb hg iX12 tyX12 tyX12_ok nmX12 hown hK hW hS kd_66 rfl 63 (lt_b rfl) (hg (Cond.fieldLink RX12 481 "SlabWalkModel" "leap" "I") m1377) (fun _ h9 => h9) rfl (by decide +kernel) rfl rfl rfl dX12_layStreet_47 (fun G_15 H locs eG_15 hW hS => ?_)
  have hB_G_15 : Bd G_15 := hB_G_12.put (V := y_13.toInt) (lo := 0) (hi := 99) eG_15 rfl rfl rfl ((by first | (clear ha_p1 hP9 ty_1 u_2; omega) | omega)) ((by first | (clear ha_p1 hP9 ty_1 u_2; omega) | omega)) (hB_G_12.2.put eG_15 rfl)
  have hF := hF.put eG_15 (Or.inr (by decide))
  refine ic_0 hx hb dX12_layStreet_50 ?_
  refine lv_istore (lv' := [(4, .int 0), (0, .ref (a 66)), (1, .int p0), (2, .int p1), (3, .int p2)]) hx hb dX12_layStreet_51 hl (lt_b rfl) rfl (fun ls hl => ?_)
  have qc_22 : (0 : Int32).toInt = 0 := rfl
  refine loop_N (Inv := fun n H locs ls => ∃ (G_16 : GS) (x_20 : Int32), (n : Int) = 400 - x_20.toInt ∧ (0 ≤ x_20.toInt ∧ x_20.toInt ≤ 400) ∧ Rc (St_n_layStreet_1 p1 p2 y_1) (0, G_15) (x_20, G_16) ∧ Wd D k A a G_16 H ∧ Bd G_16 ∧ Fr [76, 97, 98] [(66, 59), (66, 60), (66, 61), (66, 62), (66, 63)] G G_16 ∧ Fr [76, 97] [] G_15 G_16 ∧ va_S A s.heap H locs ∧ lv_has ls 6 [(4, .int x_20), (0, .ref (a 66)), (2, .int p1), (3, .int p2)]) (fun n_19 H locs ls ih_18 hI => ?_) (400 - 0 : Int).toNat ⟨G_15, 0, (Int.toNat_of_nonneg ((by first | (clear ha_p0 ha_p1 hP9 ty_1 u_2 ty_4 u_5 ty_7 u_8 ty_10 u_11 ty_13 u_14; omega) | omega))), ⟨(by first | (clear ha_p0 ha_p1 hP9 ty_1 u_2 ty_4 u_5 ty_7 u_8 ty_10 u_11 ty_13 u_14; omega) | omega), (by first | (clear ha_p0 ha_p1 hP9 ty_1 u_2 ty_4 u_5 ty_7 u_8 ty_10 u_11 ty_13 u_14; omega) | omega)⟩, Rc.rf, hW, hB_G_15, hF, Fr.rf, hS, lv_sub hl [0, 1, 3, 4] rfl⟩
  obtain ⟨G_16, x_20, hn_24, f_23, hX_21, hW, hB_G_16, hF, hq_17, hS, hl⟩ := hI
  refine lv_iload hx hb dX12_layStreet_53 (lv_at hl 0 rfl) ?_
  refine lv_aload_n hx hb dX12_layStreet_55 rfl (lv_at hl 1 rfl) ?_
  refine S_getI (v := y_1) (C := RX12) (T := TX12) (N := 89) hx hb hg iX12 hown hK hW kd_66 rfl 59 (lt_b rfl) (hg (Cond.fieldLink RX12 469 "SlabWalkModel" "inchesOf" "I") m1373) (fun _ h9 => h9) rfl ((hq_17.i9 66 59 rfl rfl).trans ((gp_ne eG_15 (by decide)).trans ((gp_ne eG_12 (by decide)).trans ((gp_ne eG_9 (by decide)).trans ((gp_ne eG_6 (by decide)).trans (gp_eq eG_3)))))) dX12_layStreet_56 ?_
  refine lv_icmp_ge (tgt := 83) hx hb dX12_layStreet_59 rfl (fun c_25 => ?_) (fun c_25 => ?_)
  · have c_25 : y_1.toInt ≤ x_20.toInt := xI_le rfl rfl c_25
    refine ic_0 hx hb dX12_layStreet_83 ?_
    refine lv_istore (lv' := [(4, .int 0), (0, .ref (a 66)), (2, .int p1), (3, .int p2)]) hx hb dX12_layStreet_84 hl (lt_b rfl) rfl (fun ls hl => ?_)
    have g_32 : (G_16.1 66 60).toInt = y_4.toInt := (congrArg Int32.toInt (show G_16.1 66 60 = y_4 from ((hq_17.i9 66 60 rfl rfl).trans ((gp_ne eG_15 (by decide)).trans ((gp_ne eG_12 (by decide)).trans ((gp_ne eG_9 (by decide)).trans (gp_eq eG_6)))))))
    have b_33 : 0 ≤ (G.1 98 400).toInt ∧ (G.1 98 400).toInt ≤ 1 := bd_98_400 hB_G
    have g_34 : (G_16.1 98 400).toInt = (G.1 98 400).toInt := (congrArg Int32.toInt (show G_16.1 98 400 = (G.1 98 400) from ((hq_17.i9 98 400 rfl rfl).trans ((gp_ne eG_15 (by decide)).trans ((gp_ne eG_12 (by decide)).trans ((gp_ne eG_9 (by decide)).trans ((gp_ne eG_6 (by decide)).trans (gp_ne eG_3 (by decide)))))))))
    have qc_35 : (0 : Int32).toInt = 0 := rfl
    refine loop_N (Inv := fun n H locs ls => ∃ (G_26 : GS) (x_30 : Int32), (n : Int) = 512 - x_30.toInt ∧ (0 ≤ x_30.toInt ∧ x_30.toInt ≤ 512) ∧ (x_30.toInt ≤ 400 ∨ (G_26.1 66 60).toInt = 0 ∨ (G_26.1 98 400).toInt = 0) ∧ Rc (St_n_layStreet_2 y_4) (0, G_16) (x_30, G_26) ∧ Wd D k A a G_26 H ∧ Bd G_26 ∧ Fr [76, 97, 98] [(66, 59), (66, 60), (66, 61), (66, 62), (66, 63)] G G_26 ∧ Fr [98] [] G_16 G_26 ∧ va_S A s.heap H locs ∧ lv_has ls 6 [(4, .int x_30), (0, .ref (a 66))]) (fun n_29 H locs ls ih_28 hI => ?_) (512 - 0 : Int).toNat ⟨G_16, 0, (Int.toNat_of_nonneg ((by first | (clear ha_p0 ha_p1 hP9 ty_1 u_2 ty_4 u_5 ty_7 u_8 ty_10 u_11 ty_13 u_14 hn_24 f_23 c_25 g_32 b_33 g_34; omega) | omega))), ⟨(by first | (clear ha_p0 ha_p1 hP9 ty_1 u_2 ty_4 u_5 ty_7 u_8 ty_10 u_11 ty_13 u_14 hn_24 f_23 c_25 g_32 b_33 g_34; omega) | omega), (by first | (clear ha_p0 ha_p1 hP9 ty_1 u_2 ty_4 u_5 ty_7 u_8 ty_10 u_11 ty_13 u_14 hn_24 f_23 c_25 g_32 b_33 g_34; omega) | omega)⟩, ((by first | (clear ha_p1 hP9 ty_1 u_2 hn_24 f_23 c_25; omega) | omega)), Rc.rf, hW, hB_G_16, hF, Fr.rf, hS, lv_sub hl [0, 1] rfl⟩
    obtain ⟨G_26, x_30, hn_38, f_36, f_37, hX_31, hW, hB_G_26, hF, hq_27, hS, hl⟩ := hI
    have g_39 : (G_26.1 66 60).toInt = y_4.toInt := (congrArg Int32.toInt (show G_26.1 66 60 = y_4 from ((hq_27.i9 66 60 rfl rfl).trans ((hq_17.i9 66 60 rfl rfl).trans ((gp_ne eG_15 (by decide)).trans ((gp_ne eG_12 (by decide)).trans ((gp_ne eG_9 (by decide)).trans (gp_eq eG_6))))))))
    have b_40 : 0 ≤ (G_26.1 98 400).toInt ∧ (G_26.1 98 400).toInt ≤ 1 := bd_98_400 hB_G_26
    refine lv_iload hx hb dX12_layStreet_86 (lv_at hl 0 rfl) ?_
    refine lv_sipush (v := 512) hx hb dX12_layStreet_88 (by decide) ?_
    refine lv_icmp_ge (tgt := 167) hx hb dX12_layStreet_91 rfl (fun c_41 => ?_) (fun c_41 => ?_)
    · have c_41 : 512 ≤ x_30.toInt := xI_le rfl rfl c_41
      have g_42 : (G_26.1 66 59).toInt = y_1.toInt := (congrArg Int32.toInt (show G_26.1 66 59 = y_1 from ((hq_27.i9 66 59 rfl rfl).trans ((hq_17.i9 66 59 rfl rfl).trans ((gp_ne eG_15 (by decide)).trans ((gp_ne eG_12 (by decide)).trans ((gp_ne eG_9 (by decide)).trans ((gp_ne eG_6 (by decide)).trans (gp_eq eG_3)))))))))
      have g_43 : (G_26.1 66 60).toInt = y_4.toInt := (congrArg Int32.toInt (show G_26.1 66 60 = y_4 from ((hq_27.i9 66 60 rfl rfl).trans ((hq_17.i9 66 60 rfl rfl).trans ((gp_ne eG_15 (by decide)).trans ((gp_ne eG_12 (by decide)).trans ((gp_ne eG_9 (by decide)).trans (gp_eq eG_6))))))))
      have g_44 : (G_26.1 66 61).toInt = y_7.toInt := (congrArg Int32.toInt (show G_26.1 66 61 = y_7 from ((hq_27.i9 66 61 rfl rfl).trans ((hq_17.i9 66 61 rfl rfl).trans ((gp_ne eG_15 (by decide)).trans ((gp_ne eG_12 (by decide)).trans (gp_eq eG_9)))))))
      have g_45 : (G_26.1 66 62).toInt = y_10.toInt := (congrArg Int32.toInt (show G_26.1 66 62 = y_10 from ((hq_27.i9 66 62 rfl rfl).trans ((hq_17.i9 66 62 rfl rfl).trans ((gp_ne eG_15 (by decide)).trans (gp_eq eG_12))))))
      have g_46 : (G_26.1 66 63).toInt = y_13.toInt := (congrArg Int32.toInt (show G_26.1 66 63 = y_13 from ((hq_27.i9 66 63 rfl rfl).trans ((hq_17.i9 66 63 rfl rfl).trans (gp_eq eG_15)))))
      exact W.vret hx hb hr (fun t ht _ => ⟨⟨G_26, rfl, (Q_layStreet_mk ⟨hB_G_26, hF, ((by first | exact ⟨((by first | (clear ha_p0 hP9 ty_4 u_5 ty_7 u_8 ty_10 u_11 ty_13 u_14 hn_24 g_32 b_33 g_34 hn_38 f_36 f_37 g_39 b_40 c_41 g_43 g_44 g_45 g_46; omega) | omega)), ⟨((by first | (clear ha_p1 hP9 ty_1 u_2 hn_24 f_23 c_25 b_33 g_34 hn_38 g_42; omega) | omega)), ⟨((by first | (clear ha_p1 hP9 ty_1 u_2 hn_24 f_23 c_25 b_33 g_34 hn_38 g_42; omega) | omega)), ⟨((by first | (clear ha_p1 hP9 ty_1 u_2 hn_24 f_23 c_25 b_33 g_34 hn_38 g_42; omega) | omega)), ⟨((by first | (clear ha_p1 hP9 ty_1 u_2 hn_24 f_23 c_25 b_33 g_34 hn_38 g_42; omega) | omega)), (fun h9 => ((by first | (clear ha_p1 hP9 ty_1 u_2 hn_24 f_23 c_25 b_33 g_34 hn_38 g_42; omega) | omega)))⟩⟩⟩⟩⟩ | omega)), ⟨y_1, ey_1, ⟨y_4, ey_4.trans (congrFun (rw_put eG_3 (by decide)) _), ⟨y_7, ey_7.trans (congrFun ((rw_put eG_6 (by decide)).trans (rw_put eG_3 (by decide))) _), ⟨y_10, ey_10.trans (congrFun ((rw_put eG_9 (by decide)).trans ((rw_put eG_6 (by decide)).trans (rw_put eG_3 (by decide)))) _), ⟨y_13, ey_13.trans (congrFun ((rw_put eG_12 (by decide)).trans ((rw_put eG_9 (by decide)).trans ((rw_put eG_6 (by decide)).trans (rw_put eG_3 (by decide))))) _), ⟨G_15, hB_G_15, (Fr.put (rs := []) (fs := [(66, 59), (66, 60), (66, 61), (66, 62), (66, 63)]) (Fr.put (rs := []) (fs := [(66, 59), (66, 60), (66, 61), (66, 62), (66, 63)]) (Fr.put (rs := []) (fs := [(66, 59), (66, 60), (66, 61), (66, 62), (66, 63)]) (Fr.put (rs := []) (fs := [(66, 59), (66, 60), (66, 61), (66, 62), (66, 63)]) (Fr.put (rs := []) (fs := [(66, 59), (66, 60), (66, 61), (66, 62), (66, 63)]) Fr.rf eG_3 (Or.inr (by decide))) eG_6 (Or.inr (by decide))) eG_9 (Or.inr (by decide))) eG_12 (Or.inr (by decide))) eG_15 (Or.inr (by decide))), ((gp_ne eG_15 (by decide)).trans ((gp_ne eG_12 (by decide)).trans ((gp_ne eG_9 (by decide)).trans ((gp_ne eG_6 (by decide)).trans (gp_eq eG_3))))), ((gp_ne eG_15 (by decide)).trans ((gp_ne eG_12 (by decide)).trans ((gp_ne eG_9 (by decide)).trans (gp_eq eG_6)))), ((gp_ne eG_15 (by decide)).trans ((gp_ne eG_12 (by decide)).trans (gp_eq eG_9))), ((gp_ne eG_15 (by decide)).trans (gp_eq eG_12)), (gp_eq eG_15), ⟨x_20, G_16, hX_21, f_23, hB_G_16, hq_17, ⟨c_25, ⟨x_30, G_26, hX_31, f_36, f_37, hB_G_26, hq_27, ⟨c_41, rfl⟩⟩⟩⟩⟩⟩⟩⟩⟩⟩⟩), wd_t ht hW⟩, hS.F ht⟩) hS.2.2 dX12_layStreet_167
    · have c_41 : x_30.toInt < 512 := xI_nle rfl rfl c_41
      refine lv_aload_n hx hb dX12_layStreet_94 rfl (lv_at hl 1 rfl) ?_
      refine S_getR (n := 98) (C := RX12) (T := TX12) (N := 89) hx hb hg iX12 hown hK hW kd_66 rfl 58 (lt_b rfl) (hg (Cond.fieldLink RX12 115 "SlabWalkModel" "lawful" "[Z") m1372) (fun _ h9 => h9) rfl dX12_layStreet_95 ?_
      refine lv_iload hx hb dX12_layStreet_98 (lv_at hl 0 rfl) ?_
      refine lv_aload_n hx hb dX12_layStreet_100 rfl (lv_at hl 1 rfl) ?_
      refine lv_iload hx hb dX12_layStreet_101 (lv_at hl 0 rfl) ?_
      have g_47 : (G_26.1 66 59).toInt = y_1.toInt := (congrArg Int32.toInt (show G_26.1 66 59 = y_1 from ((hq_27.i9 66 59 rfl rfl).trans ((hq_17.i9 66 59 rfl rfl).trans ((gp_ne eG_15 (by decide)).trans ((gp_ne eG_12 (by decide)).trans ((gp_ne eG_9 (by decide)).trans ((gp_ne eG_6 (by decide)).trans (gp_eq eG_3)))))))))
      have g_48 : (G_26.1 66 60).toInt = y_4.toInt := (congrArg Int32.toInt (show G_26.1 66 60 = y_4 from ((hq_27.i9 66 60 rfl rfl).trans ((hq_17.i9 66 60 rfl rfl).trans ((gp_ne eG_15 (by decide)).trans ((gp_ne eG_12 (by decide)).trans ((gp_ne eG_9 (by decide)).trans (gp_eq eG_6))))))))
      refine S_calli (va_runV (As := [.int x_30]) (rest := [.int x_30, .ref (a 98)]) ⟨hx, hb, hml, hown, hts⟩ (n_stands1 l D k A a z G_26 x_30 ) (cwV 1 hts (gd_V hgd m1838 m1840 m92 m131 m1841) rfl rfl rfl hd_X12_doesStand ⟨Nat.le_of_ble_eq_true rfl, Nat.le_of_ble_eq_true rfl⟩) (pre_W hW hB_G_26 hK hZ hS kd_66 rfl) rfl rfl hl.1 rfl (lv_room (Nat.le_of_ble_eq_true rfl)) dX12_layStreet_103 ⟨Nat.le_of_ble_eq_true rfl, Nat.le_of_ble_eq_true rfl⟩) hS (fun r_49 G_50 H locs hpo hW hS => ?_)
      have hX_53 : Q_stands1 x_30 G_26 r_49 G_50 := hpo
      obtain ⟨hB_G_50, hq_51, f_54, ⟨d_1, d_2⟩, -⟩ := hpo
      have hF := hF.call9 hq_51 rfl rfl
      have g_55 : (G_50.1 98 400).toInt = (G_26.1 98 400).toInt := (congrArg Int32.toInt (show G_50.1 98 400 = (G_26.1 98 400) from ((hq_51.i9 98 400 rfl rfl).trans (rfl))))
      refine S_zast hx hb hK hW hS kd_98 (vin ((by first | (clear hP9 hn_24 f_23 b_33 g_34 hn_38; omega) | omega)) ((by first | (clear hP9 hn_24 f_23 b_33 g_34 hn_38; omega) | omega))) dX12_layStreet_106 (fun G_56 H locs eG_56 hW hS => ?_)
      have hB_G_56 : Bd G_56 := hB_G_50.putLaw eG_56 (by first | (clear hP9 hn_24 f_23 b_33 g_34 hn_38; omega) | omega) (by first | (clear hP9 hn_24 f_23 b_33 g_34 hn_38; omega) | omega)
      have hF := hF.put eG_56 (Or.inl (by decide))
      have u_57 := st400 eG_56 (by first | (clear hP9 hn_24 f_23 b_33 g_34 hn_38; omega) | omega)
      have u_58 := nar_at eG_56 (by first | (clear hP9 hn_24 f_23 b_33 g_34 hn_38 u_57; omega) | omega) (by first | (clear hP9 hn_24 f_23 b_33 g_34 hn_38 u_57; omega) | omega)
      refine lv_iload hx hb dX12_layStreet_107 (lv_at hl 0 rfl) ?_
      refine lv_istore (lv' := [(5, .int x_30), (4, .int x_30), (0, .ref (a 66))]) hx hb dX12_layStreet_109 hl (lt_b rfl) rfl (fun ls hl => ?_)
      have g_65 : (G_56.1 66 59).toInt = y_1.toInt := (congrArg Int32.toInt (show G_56.1 66 59 = y_1 from ((gp_ne eG_56 (fun q => absurd q.1 (Nat.ne_of_beq_eq_false rfl))).trans ((hq_51.i9 66 59 rfl rfl).trans ((hq_27.i9 66 59 rfl rfl).trans ((hq_17.i9 66 59 rfl rfl).trans ((gp_ne eG_15 (by decide)).trans ((gp_ne eG_12 (by decide)).trans ((gp_ne eG_9 (by decide)).trans ((gp_ne eG_6 (by decide)).trans (gp_eq eG_3)))))))))))
      have g_66 : (G_56.1 66 60).toInt = y_4.toInt := (congrArg Int32.toInt (show G_56.1 66 60 = y_4 from ((gp_ne eG_56 (fun q => absurd q.1 (Nat.ne_of_beq_eq_false rfl))).trans ((hq_51.i9 66 60 rfl rfl).trans ((hq_27.i9 66 60 rfl rfl).trans ((hq_17.i9 66 60 rfl rfl).trans ((gp_ne eG_15 (by decide)).trans ((gp_ne eG_12 (by decide)).trans ((gp_ne eG_9 (by decide)).trans (gp_eq eG_6))))))))))
      have g_67 : (G_56.1 66 60).toInt = y_4.toInt := (congrArg Int32.toInt (show G_56.1 66 60 = y_4 from ((gp_ne eG_56 (fun q => absurd q.1 (Nat.ne_of_beq_eq_false rfl))).trans ((hq_51.i9 66 60 rfl rfl).trans ((hq_27.i9 66 60 rfl rfl).trans ((hq_17.i9 66 60 rfl rfl).trans ((gp_ne eG_15 (by decide)).trans ((gp_ne eG_12 (by decide)).trans ((gp_ne eG_9 (by decide)).trans (gp_eq eG_6))))))))))
      have b_68 : 0 ≤ (G_56.1 98 400).toInt ∧ (G_56.1 98 400).toInt ≤ 1 := bd_98_400 hB_G_56
      refine loop_N (Inv := fun n H locs ls => ∃ (G_59 : GS) (x_63 : Int32), (n : Int) = 523 - x_63.toInt ∧ (0 ≤ x_63.toInt ∧ x_63.toInt ≤ 523) ∧ (x_30.toInt + (G_59.1 66 60).toInt ≤ (G_59.1 66 59).toInt ∨ (G_59.1 98 x_30.toNatClampNeg).toInt = 0) ∧ (x_30.toInt ≤ x_63.toInt) ∧ (x_30.toInt ≤ 399 ∨ (G_59.1 66 60).toInt = 0 ∨ (G_59.1 98 400).toInt = 0) ∧ Rc (St_n_layStreet_3 y_4 x_30) (x_30, G_56) (x_63, G_59) ∧ Wd D k A a G_59 H ∧ Bd G_59 ∧ Fr [76, 97, 98] [(66, 59), (66, 60), (66, 61), (66, 62), (66, 63)] G G_59 ∧ Fr [98] [] G_56 G_59 ∧ va_S A s.heap H locs ∧ lv_has ls 6 [(5, .int x_63), (4, .int x_30), (0, .ref (a 66))]) (fun n_62 H locs ls ih_61 hI => ?_) (523 - x_30.toInt : Int).toNat ⟨G_56, x_30, (Int.toNat_of_nonneg ((by first | (clear hP9 hn_24 f_23 b_33 g_34 hn_38 u_57 u_58 b_68; omega) | omega))), ⟨(by first | (clear hP9 hn_24 f_23 b_33 g_34 hn_38 u_57 u_58 b_68; omega) | omega), (by first | (clear hP9 hn_24 f_23 b_33 g_34 hn_38 u_57 u_58 b_68; omega) | omega)⟩, ((by first | (clear hP9 hn_24 b_33 g_34 hn_38 b_68; omega) | omega)), ((by first | (clear hP9 hn_24 f_23 b_33 g_34 hn_38 u_57 u_58 b_68; omega) | omega)), ((by first | (clear hP9 hn_24 f_23 b_33 g_34 hn_38; omega) | omega)), Rc.rf, hW, hB_G_56, hF, Fr.rf, hS, lv_sub hl [0, 1, 2] rfl⟩
      obtain ⟨G_59, x_63, hn_73, f_69, f_70, f_71, f_72, hX_64, hW, hB_G_59, hF, hq_60, hS, hl⟩ := hI
      have g_74 : (G_59.1 66 59).toInt = y_1.toInt := (congrArg Int32.toInt (show G_59.1 66 59 = y_1 from ((hq_60.i9 66 59 rfl rfl).trans ((gp_ne eG_56 (fun q => absurd q.1 (Nat.ne_of_beq_eq_false rfl))).trans ((hq_51.i9 66 59 rfl rfl).trans ((hq_27.i9 66 59 rfl rfl).trans ((hq_17.i9 66 59 rfl rfl).trans ((gp_ne eG_15 (by decide)).trans ((gp_ne eG_12 (by decide)).trans ((gp_ne eG_9 (by decide)).trans ((gp_ne eG_6 (by decide)).trans (gp_eq eG_3))))))))))))
      have g_75 : (G_59.1 66 60).toInt = y_4.toInt := (congrArg Int32.toInt (show G_59.1 66 60 = y_4 from ((hq_60.i9 66 60 rfl rfl).trans ((gp_ne eG_56 (fun q => absurd q.1 (Nat.ne_of_beq_eq_false rfl))).trans ((hq_51.i9 66 60 rfl rfl).trans ((hq_27.i9 66 60 rfl rfl).trans ((hq_17.i9 66 60 rfl rfl).trans ((gp_ne eG_15 (by decide)).trans ((gp_ne eG_12 (by decide)).trans ((gp_ne eG_9 (by decide)).trans (gp_eq eG_6)))))))))))
      have g_76 : (G_59.1 66 60).toInt = y_4.toInt := (congrArg Int32.toInt (show G_59.1 66 60 = y_4 from ((hq_60.i9 66 60 rfl rfl).trans ((gp_ne eG_56 (fun q => absurd q.1 (Nat.ne_of_beq_eq_false rfl))).trans ((hq_51.i9 66 60 rfl rfl).trans ((hq_27.i9 66 60 rfl rfl).trans ((hq_17.i9 66 60 rfl rfl).trans ((gp_ne eG_15 (by decide)).trans ((gp_ne eG_12 (by decide)).trans ((gp_ne eG_9 (by decide)).trans (gp_eq eG_6)))))))))))
      have b_77 : 0 ≤ (G_59.1 98 400).toInt ∧ (G_59.1 98 400).toInt ≤ 1 := bd_98_400 hB_G_59
      refine lv_iload hx hb dX12_layStreet_111 (lv_at hl 0 rfl) ?_
      refine lv_iload hx hb dX12_layStreet_113 (lv_at hl 1 rfl) ?_
      refine lv_aload_n hx hb dX12_layStreet_115 rfl (lv_at hl 2 rfl) ?_
      refine S_getI (v := y_4) (C := RX12) (T := TX12) (N := 89) hx hb hg iX12 hown hK hW kd_66 rfl 60 (lt_b rfl) (hg (Cond.fieldLink RX12 472 "SlabWalkModel" "foot" "I") m1374) (fun _ h9 => h9) rfl ((hq_60.i9 66 60 rfl rfl).trans ((gp_ne eG_56 (fun q => absurd q.1 (Nat.ne_of_beq_eq_false rfl))).trans ((hq_51.i9 66 60 rfl rfl).trans ((hq_27.i9 66 60 rfl rfl).trans ((hq_17.i9 66 60 rfl rfl).trans ((gp_ne eG_15 (by decide)).trans ((gp_ne eG_12 (by decide)).trans ((gp_ne eG_9 (by decide)).trans (gp_eq eG_6))))))))) dX12_layStreet_116 ?_
      refine lv_iadd hx hb dX12_layStreet_119 ?_
      refine lv_topi (fun y_78 ey_78 => ?_)
      have ty_78 : y_78.toInt = x_30.toInt + y_4.toInt := xI_add rfl rfl ey_78 ((by first | (clear hP9 hn_24 f_23 b_33 g_34 hn_38 u_57 u_58 b_68 hn_73; omega) | omega)) ((by first | (clear hP9 hn_24 f_23 b_33 g_34 hn_38 u_57 u_58 b_68 hn_73; omega) | omega))
      refine lv_icmp_ge (tgt := 161) hx hb dX12_layStreet_120 rfl (fun c_79 => ?_) (fun c_79 => ?_)
      · have c_79 : y_78.toInt ≤ x_63.toInt := xI_le rfl rfl c_79
        obtain ⟨y_80, ey_80⟩ : ∃ q, q = x_30 + 1 := ⟨_, rfl⟩
        have ty_80 : y_80.toInt = x_30.toInt + 1 := xI_add rfl rfl ey_80 ((by first | (clear hP9 hn_24 f_23 b_33 g_34 hn_38 u_57 u_58 b_68 hn_73; omega) | omega)) ((by first | (clear hP9 hn_24 f_23 b_33 g_34 hn_38 u_57 u_58 b_68 hn_73; omega) | omega))
        refine lv_iinc (v := y_80) (lv' := [(4, .int y_80), (5, .int x_63), (0, .ref (a 66))]) hx hb dX12_layStreet_161 hl (k := 1) rfl (by rw [ey_80]; rfl) (lt_b rfl) rfl (fun ls hl => ?_)
        refine lv_goto (tgt := 86) hx hb dX12_layStreet_164 rfl ?_
        have g_81 : (G_59.1 66 60).toInt = y_4.toInt := (congrArg Int32.toInt (show G_59.1 66 60 = y_4 from ((hq_60.i9 66 60 rfl rfl).trans ((gp_ne eG_56 (fun q => absurd q.1 (Nat.ne_of_beq_eq_false rfl))).trans ((hq_51.i9 66 60 rfl rfl).trans ((hq_27.i9 66 60 rfl rfl).trans ((hq_17.i9 66 60 rfl rfl).trans ((gp_ne eG_15 (by decide)).trans ((gp_ne eG_12 (by decide)).trans ((gp_ne eG_9 (by decide)).trans (gp_eq eG_6)))))))))))
        exact ih_28 (512 - y_80.toInt : Int).toNat ((by first | (clear hP9 f_23 b_33 g_34 u_57 u_58 b_68; omega) | omega)) _ _ _ ⟨G_59, y_80, (Int.toNat_of_nonneg ((by first | (clear hP9 hn_24 f_23 b_33 g_34 hn_38 u_57 u_58 b_68 hn_73; omega) | omega))), ⟨(by first | (clear hP9 hn_24 f_23 b_33 g_34 hn_38 u_57 u_58 b_68 hn_73; omega) | omega), (by first | (clear hP9 hn_24 f_23 b_33 g_34 hn_38 u_57 u_58 b_68 hn_73; omega) | omega)⟩, ((by first | (clear hP9 hn_24 f_23 b_33 g_34 hn_38 u_57 u_58 b_68 hn_73; omega) | omega)), (hX_31.st (St_n_layStreet_2_mk ⟨x_30, G_26, y_80, G_59, rfl, rfl, f_36, f_37, hB_G_26, ⟨c_41, ⟨r_49, G_50, hX_53, ⟨G_56, hB_G_56, (Fr.put (rs := [98]) (fs := []) Fr.rf eG_56 (Or.inl (by decide))), rw_ast eG_56, ⟨x_63, G_59, hX_64, f_69, f_70, f_71, f_72, hB_G_59, hq_60, ⟨y_78, ty_78, (Or.inl ⟨c_79, ⟨y_80, ty_80, ⟨rfl, rfl⟩⟩⟩)⟩⟩⟩⟩⟩⟩)), hW, hB_G_59, hF, (Fr.call9 (rs := [98]) (fs := []) (Fr.put (rs := [98]) (fs := []) (Fr.call9 (rs := [98]) (fs := []) (Fr.call9 (rs := [98]) (fs := []) Fr.rf hq_27 rfl rfl) hq_51 rfl rfl) eG_56 (Or.inl (by decide))) hq_60 rfl rfl), hS, lv_sub hl [0, 2] rfl⟩
      · have c_79 : x_63.toInt < y_78.toInt := xI_nle rfl rfl c_79
        refine lv_aload_n hx hb dX12_layStreet_123 rfl (lv_at hl 2 rfl) ?_
        refine S_getR (n := 98) (C := RX12) (T := TX12) (N := 89) hx hb hg iX12 hown hK hW kd_66 rfl 58 (lt_b rfl) (hg (Cond.fieldLink RX12 115 "SlabWalkModel" "lawful" "[Z") m1372) (fun _ h9 => h9) rfl dX12_layStreet_124 ?_
        refine lv_iload hx hb dX12_layStreet_127 (lv_at hl 1 rfl) ?_
        refine S_zald hx hb hK hW kd_98 (vin ((by first | (clear hP9 hn_24 f_23 b_33 g_34 hn_38 u_57 u_58 b_68 hn_73; omega) | omega)) ((by first | (clear hP9 hn_24 f_23 b_33 g_34 hn_38 u_57 u_58 b_68 hn_73; omega) | omega))) dX12_layStreet_129 (fun y_82 ey_82 => ?_)
        have ty_82 := hB_G_59.law ey_82
        have u_83 : y_82.toInt = (G_59.1 98 x_30.toNatClampNeg).toInt := congrArg Int32.toInt (ey_82)
        refine lv_if_eq (tgt := 161) hx hb dX12_layStreet_130 rfl (fun c_84 => ?_) (fun c_84 => ?_)
        · have c_84 : y_82.toInt = 0 := xI_eq rfl rfl c_84
          obtain ⟨y_85, ey_85⟩ : ∃ q, q = x_30 + 1 := ⟨_, rfl⟩
          have ty_85 : y_85.toInt = x_30.toInt + 1 := xI_add rfl rfl ey_85 ((by first | (clear hP9 hn_24 f_23 b_33 g_34 hn_38 u_57 u_58 b_68 hn_73; omega) | omega)) ((by first | (clear hP9 hn_24 f_23 b_33 g_34 hn_38 u_57 u_58 b_68 hn_73; omega) | omega))
          refine lv_iinc (v := y_85) (lv' := [(4, .int y_85), (5, .int x_63), (0, .ref (a 66))]) hx hb dX12_layStreet_161 hl (k := 1) rfl (by rw [ey_85]; rfl) (lt_b rfl) rfl (fun ls hl => ?_)
          refine lv_goto (tgt := 86) hx hb dX12_layStreet_164 rfl ?_
          have g_86 : (G_59.1 66 60).toInt = y_4.toInt := (congrArg Int32.toInt (show G_59.1 66 60 = y_4 from ((hq_60.i9 66 60 rfl rfl).trans ((gp_ne eG_56 (fun q => absurd q.1 (Nat.ne_of_beq_eq_false rfl))).trans ((hq_51.i9 66 60 rfl rfl).trans ((hq_27.i9 66 60 rfl rfl).trans ((hq_17.i9 66 60 rfl rfl).trans ((gp_ne eG_15 (by decide)).trans ((gp_ne eG_12 (by decide)).trans ((gp_ne eG_9 (by decide)).trans (gp_eq eG_6)))))))))))
          exact ih_28 (512 - y_85.toInt : Int).toNat ((by first | (clear hP9 f_23 b_33 g_34 u_57 u_58 b_68; omega) | omega)) _ _ _ ⟨G_59, y_85, (Int.toNat_of_nonneg ((by first | (clear hP9 hn_24 f_23 b_33 g_34 hn_38 u_57 u_58 b_68 hn_73; omega) | omega))), ⟨(by first | (clear hP9 hn_24 f_23 b_33 g_34 hn_38 u_57 u_58 b_68 hn_73; omega) | omega), (by first | (clear hP9 hn_24 f_23 b_33 g_34 hn_38 u_57 u_58 b_68 hn_73; omega) | omega)⟩, ((by first | (clear hP9 hn_24 f_23 b_33 g_34 hn_38 u_57 u_58 b_68 hn_73; omega) | omega)), (hX_31.st (St_n_layStreet_2_mk ⟨x_30, G_26, y_85, G_59, rfl, rfl, f_36, f_37, hB_G_26, ⟨c_41, ⟨r_49, G_50, hX_53, ⟨G_56, hB_G_56, (Fr.put (rs := [98]) (fs := []) Fr.rf eG_56 (Or.inl (by decide))), rw_ast eG_56, ⟨x_63, G_59, hX_64, f_69, f_70, f_71, f_72, hB_G_59, hq_60, ⟨y_78, ty_78, (Or.inr ⟨c_79, ⟨y_82, ey_82, ⟨c_84, ⟨y_85, ty_85, ⟨rfl, rfl⟩⟩⟩⟩⟩)⟩⟩⟩⟩⟩⟩)), hW, hB_G_59, hF, (Fr.call9 (rs := [98]) (fs := []) (Fr.put (rs := [98]) (fs := []) (Fr.call9 (rs := [98]) (fs := []) (Fr.call9 (rs := [98]) (fs := []) Fr.rf hq_27 rfl rfl) hq_51 rfl rfl) eG_56 (Or.inl (by decide))) hq_60 rfl rfl), hS, lv_sub hl [0, 2] rfl⟩
        · have c_84 : y_82.toInt ≠ 0 := xI_ne rfl rfl c_84
          refine lv_aload_n hx hb dX12_layStreet_133 rfl (lv_at hl 2 rfl) ?_
          refine S_getR (n := 98) (C := RX12) (T := TX12) (N := 89) hx hb hg iX12 hown hK hW kd_66 rfl 58 (lt_b rfl) (hg (Cond.fieldLink RX12 115 "SlabWalkModel" "lawful" "[Z") m1372) (fun _ h9 => h9) rfl dX12_layStreet_134 ?_
          refine lv_iload hx hb dX12_layStreet_137 (lv_at hl 1 rfl) ?_
          refine lv_aload_n hx hb dX12_layStreet_139 rfl (lv_at hl 2 rfl) ?_
          refine S_getR (n := 97) (C := RX12) (T := TX12) (N := 89) hx hb hg iX12 hown hK hW kd_66 rfl 57 (lt_b rfl) (hg (Cond.fieldLink RX12 111 "SlabWalkModel" "lines" "[Z") m1371) (fun _ h9 => h9) rfl dX12_layStreet_140 ?_
          refine lv_iload hx hb dX12_layStreet_143 (lv_at hl 0 rfl) ?_
          refine S_zald hx hb hK hW kd_97 (vin ((by first | (clear ha_p1 hP9 ty_1 hn_24 f_23 c_25 b_33 g_34 hn_38 b_40 f_54 u_57 u_58 b_68 hn_73 b_77; omega) | omega)) ((by first | (clear ha_p1 hP9 ty_1 hn_24 f_23 c_25 b_33 g_34 hn_38 b_40 f_54 u_57 u_58 b_68 hn_73 b_77; omega) | omega))) dX12_layStreet_145 (fun y_87 ey_87 => ?_)
          have ty_87 : 0 ≤ y_87.toInt ∧ y_87.toInt ≤ 1 := bv_97 hB_G_59 ey_87
          have u_88 : y_87.toInt = (G_16.1 97 x_63.toNatClampNeg).toInt := congrArg Int32.toInt (ey_87.trans (((hq_60.ri9 97 rfl x_63.toNatClampNeg).trans ((gp_ne eG_56 (fun q => absurd q.1 (Nat.ne_of_beq_eq_false rfl))).trans ((hq_51.ri9 97 rfl x_63.toNatClampNeg).trans (hq_27.ri9 97 rfl x_63.toNatClampNeg))))))
          refine lv_if_ne (tgt := 153) hx hb dX12_layStreet_146 rfl (fun c_89 => ?_) (fun c_89 => ?_)
          · have c_89 : y_87.toInt ≠ 0 := xI_ne rfl rfl c_89
            refine ic_0 hx hb dX12_layStreet_153 ?_
            refine S_zast hx hb hK hW hS kd_98 (vin ((by first | (clear hP9 hn_24 f_23 b_33 g_34 hn_38 u_57 u_58 b_68 hn_73; omega) | omega)) ((by first | (clear hP9 hn_24 f_23 b_33 g_34 hn_38 u_57 u_58 b_68 hn_73; omega) | omega))) dX12_layStreet_154 (fun G_90 H locs eG_90 hW hS => ?_)
            have qc_91 : (0 : Int32).toInt = 0 := rfl
            have hB_G_90 : Bd G_90 := hB_G_59.putLaw eG_90 (by first | (clear hP9 hn_24 f_23 b_33 g_34 hn_38 u_57 u_58 b_68 hn_73; omega) | omega) (by first | (clear hP9 hn_24 f_23 b_33 g_34 hn_38 u_57 u_58 b_68 hn_73; omega) | omega)
            have hF := hF.put eG_90 (Or.inl (by decide))
            have u_92 := st400 eG_90 (by first | (clear hP9 hn_24 f_23 b_33 g_34 hn_38 u_57 u_58 b_68 hn_73; omega) | omega)
            obtain ⟨y_93, ey_93⟩ : ∃ q, q = x_63 + 1 := ⟨_, rfl⟩
            have ty_93 : y_93.toInt = x_63.toInt + 1 := xI_add rfl rfl ey_93 ((by first | (clear ha_p1 hP9 ty_1 hn_24 f_23 c_25 b_33 g_34 hn_38 b_40 f_54 u_57 u_58 b_68 hn_73 b_77 u_92; omega) | omega)) ((by first | (clear ha_p1 hP9 ty_1 hn_24 f_23 c_25 b_33 g_34 hn_38 b_40 f_54 u_57 u_58 b_68 hn_73 b_77 u_92; omega) | omega))
            refine lv_iinc (v := y_93) (lv' := [(5, .int y_93), (4, .int x_30), (0, .ref (a 66))]) hx hb dX12_layStreet_155 hl (k := 0) rfl (by rw [ey_93]; rfl) (lt_b rfl) rfl (fun ls hl => ?_)
            refine lv_goto (tgt := 111) hx hb dX12_layStreet_158 rfl ?_
            have g_94 : (G_90.1 66 59).toInt = y_1.toInt := (congrArg Int32.toInt (show G_90.1 66 59 = y_1 from ((gp_ne eG_90 (fun q => absurd q.1 (Nat.ne_of_beq_eq_false rfl))).trans ((hq_60.i9 66 59 rfl rfl).trans ((gp_ne eG_56 (fun q => absurd q.1 (Nat.ne_of_beq_eq_false rfl))).trans ((hq_51.i9 66 59 rfl rfl).trans ((hq_27.i9 66 59 rfl rfl).trans ((hq_17.i9 66 59 rfl rfl).trans ((gp_ne eG_15 (by decide)).trans ((gp_ne eG_12 (by decide)).trans ((gp_ne eG_9 (by decide)).trans ((gp_ne eG_6 (by decide)).trans (gp_eq eG_3)))))))))))))
            have g_95 : (G_90.1 66 60).toInt = y_4.toInt := (congrArg Int32.toInt (show G_90.1 66 60 = y_4 from ((gp_ne eG_90 (fun q => absurd q.1 (Nat.ne_of_beq_eq_false rfl))).trans ((hq_60.i9 66 60 rfl rfl).trans ((gp_ne eG_56 (fun q => absurd q.1 (Nat.ne_of_beq_eq_false rfl))).trans ((hq_51.i9 66 60 rfl rfl).trans ((hq_27.i9 66 60 rfl rfl).trans ((hq_17.i9 66 60 rfl rfl).trans ((gp_ne eG_15 (by decide)).trans ((gp_ne eG_12 (by decide)).trans ((gp_ne eG_9 (by decide)).trans (gp_eq eG_6))))))))))))
            have g_96 : (G_90.1 66 60).toInt = y_4.toInt := (congrArg Int32.toInt (show G_90.1 66 60 = y_4 from ((gp_ne eG_90 (fun q => absurd q.1 (Nat.ne_of_beq_eq_false rfl))).trans ((hq_60.i9 66 60 rfl rfl).trans ((gp_ne eG_56 (fun q => absurd q.1 (Nat.ne_of_beq_eq_false rfl))).trans ((hq_51.i9 66 60 rfl rfl).trans ((hq_27.i9 66 60 rfl rfl).trans ((hq_17.i9 66 60 rfl rfl).trans ((gp_ne eG_15 (by decide)).trans ((gp_ne eG_12 (by decide)).trans ((gp_ne eG_9 (by decide)).trans (gp_eq eG_6))))))))))))
            have b_97 : 0 ≤ (G_90.1 98 400).toInt ∧ (G_90.1 98 400).toInt ≤ 1 := bd_98_400 hB_G_90
            exact ih_61 (523 - y_93.toInt : Int).toNat ((by first | (clear ha_p1 hP9 ty_1 hn_24 f_23 c_25 b_33 g_34 b_40 f_54 u_57 u_58 b_68 b_77 u_92 b_97; omega) | omega)) _ _ _ ⟨G_90, y_93, (Int.toNat_of_nonneg ((by first | (clear ha_p1 hP9 ty_1 hn_24 f_23 c_25 b_33 g_34 hn_38 b_40 f_54 u_57 u_58 b_68 hn_73 b_77 u_92 b_97; omega) | omega))), ⟨(by first | (clear ha_p1 hP9 ty_1 hn_24 f_23 c_25 b_33 g_34 hn_38 b_40 f_54 u_57 u_58 b_68 hn_73 b_77 u_92 b_97; omega) | omega), (by first | (clear ha_p1 hP9 ty_1 hn_24 f_23 c_25 b_33 g_34 hn_38 b_40 f_54 u_57 u_58 b_68 hn_73 b_77 u_92 b_97; omega) | omega)⟩, ((by first | (clear hP9 hn_24 b_33 g_34 hn_38 u_57 u_58 b_68 hn_73 b_97; omega) | omega)), ((by first | (clear hP9 hn_24 f_23 b_33 g_34 hn_38 u_57 u_58 b_68 hn_73 u_92 b_97; omega) | omega)), ((by first | (clear hP9 hn_24 f_23 b_33 g_34 hn_38 u_57 u_58 b_68 hn_73; omega) | omega)), (hX_64.st (St_n_layStreet_3_mk ⟨x_63, G_59, y_93, G_90, rfl, rfl, f_69, f_70, f_71, f_72, hB_G_59, ⟨y_78, ty_78, ⟨c_79, ⟨y_82, ey_82, ⟨c_84, ⟨y_87, ey_87, (Or.inr ⟨c_89, ⟨y_93, ty_93, ⟨rfl, (Fr.put (rs := [98]) (fs := []) Fr.rf eG_90 (Or.inl (by decide))), rw_ast eG_90⟩⟩⟩)⟩⟩⟩⟩⟩⟩)), hW, hB_G_90, hF, (Fr.put (rs := [98]) (fs := []) (Fr.call9 (rs := [98]) (fs := []) Fr.rf hq_60 rfl rfl) eG_90 (Or.inl (by decide))), hS, lv_sub hl [0, 1, 2] rfl⟩
          · have c_89 : y_87.toInt = 0 := xI_eq rfl rfl c_89
            refine ic_1 hx hb dX12_layStreet_149 ?_
            refine lv_goto (tgt := 154) hx hb dX12_layStreet_150 rfl ?_
            refine S_zast hx hb hK hW hS kd_98 (vin ((by first | (clear hP9 hn_24 f_23 b_33 g_34 hn_38 u_57 u_58 b_68 hn_73; omega) | omega)) ((by first | (clear hP9 hn_24 f_23 b_33 g_34 hn_38 u_57 u_58 b_68 hn_73; omega) | omega))) dX12_layStreet_154 (fun G_98 H locs eG_98 hW hS => ?_)
            have qc_99 : (1 : Int32).toInt = 1 := rfl
            have hB_G_98 : Bd G_98 := hB_G_59.putLaw eG_98 (by first | (clear hP9 hn_24 f_23 b_33 g_34 hn_38 u_57 u_58 b_68 hn_73; omega) | omega) (by first | (clear hP9 hn_24 f_23 b_33 g_34 hn_38 u_57 u_58 b_68 hn_73; omega) | omega)
            have hF := hF.put eG_98 (Or.inl (by decide))
            have u_100 := st400 eG_98 (by first | (clear hP9 hn_24 f_23 b_33 g_34 hn_38 u_57 u_58 b_68 hn_73; omega) | omega)
            obtain ⟨y_101, ey_101⟩ : ∃ q, q = x_63 + 1 := ⟨_, rfl⟩
            have ty_101 : y_101.toInt = x_63.toInt + 1 := xI_add rfl rfl ey_101 ((by first | (clear ha_p1 hP9 ty_1 hn_24 f_23 c_25 b_33 g_34 hn_38 b_40 f_54 u_57 u_58 b_68 hn_73 b_77 u_100; omega) | omega)) ((by first | (clear ha_p1 hP9 ty_1 hn_24 f_23 c_25 b_33 g_34 hn_38 b_40 f_54 u_57 u_58 b_68 hn_73 b_77 u_100; omega) | omega))
            refine lv_iinc (v := y_101) (lv' := [(5, .int y_101), (4, .int x_30), (0, .ref (a 66))]) hx hb dX12_layStreet_155 hl (k := 0) rfl (by rw [ey_101]; rfl) (lt_b rfl) rfl (fun ls hl => ?_)
            refine lv_goto (tgt := 111) hx hb dX12_layStreet_158 rfl ?_
            have g_102 : (G_98.1 66 59).toInt = y_1.toInt := (congrArg Int32.toInt (show G_98.1 66 59 = y_1 from ((gp_ne eG_98 (fun q => absurd q.1 (Nat.ne_of_beq_eq_false rfl))).trans ((hq_60.i9 66 59 rfl rfl).trans ((gp_ne eG_56 (fun q => absurd q.1 (Nat.ne_of_beq_eq_false rfl))).trans ((hq_51.i9 66 59 rfl rfl).trans ((hq_27.i9 66 59 rfl rfl).trans ((hq_17.i9 66 59 rfl rfl).trans ((gp_ne eG_15 (by decide)).trans ((gp_ne eG_12 (by decide)).trans ((gp_ne eG_9 (by decide)).trans ((gp_ne eG_6 (by decide)).trans (gp_eq eG_3)))))))))))))
            have g_103 : (G_98.1 66 60).toInt = y_4.toInt := (congrArg Int32.toInt (show G_98.1 66 60 = y_4 from ((gp_ne eG_98 (fun q => absurd q.1 (Nat.ne_of_beq_eq_false rfl))).trans ((hq_60.i9 66 60 rfl rfl).trans ((gp_ne eG_56 (fun q => absurd q.1 (Nat.ne_of_beq_eq_false rfl))).trans ((hq_51.i9 66 60 rfl rfl).trans ((hq_27.i9 66 60 rfl rfl).trans ((hq_17.i9 66 60 rfl rfl).trans ((gp_ne eG_15 (by decide)).trans ((gp_ne eG_12 (by decide)).trans ((gp_ne eG_9 (by decide)).trans (gp_eq eG_6))))))))))))
            have g_104 : (G_98.1 66 60).toInt = y_4.toInt := (congrArg Int32.toInt (show G_98.1 66 60 = y_4 from ((gp_ne eG_98 (fun q => absurd q.1 (Nat.ne_of_beq_eq_false rfl))).trans ((hq_60.i9 66 60 rfl rfl).trans ((gp_ne eG_56 (fun q => absurd q.1 (Nat.ne_of_beq_eq_false rfl))).trans ((hq_51.i9 66 60 rfl rfl).trans ((hq_27.i9 66 60 rfl rfl).trans ((hq_17.i9 66 60 rfl rfl).trans ((gp_ne eG_15 (by decide)).trans ((gp_ne eG_12 (by decide)).trans ((gp_ne eG_9 (by decide)).trans (gp_eq eG_6))))))))))))
            have b_105 : 0 ≤ (G_98.1 98 400).toInt ∧ (G_98.1 98 400).toInt ≤ 1 := bd_98_400 hB_G_98
            exact ih_61 (523 - y_101.toInt : Int).toNat ((by first | (clear ha_p1 hP9 ty_1 hn_24 f_23 c_25 b_33 g_34 b_40 f_54 u_57 u_58 b_68 b_77 u_100 b_105; omega) | omega)) _ _ _ ⟨G_98, y_101, (Int.toNat_of_nonneg ((by first | (clear ha_p1 hP9 ty_1 hn_24 f_23 c_25 b_33 g_34 hn_38 b_40 f_54 u_57 u_58 b_68 hn_73 b_77 u_100 b_105; omega) | omega))), ⟨(by first | (clear ha_p1 hP9 ty_1 hn_24 f_23 c_25 b_33 g_34 hn_38 b_40 f_54 u_57 u_58 b_68 hn_73 b_77 u_100 b_105; omega) | omega), (by first | (clear ha_p1 hP9 ty_1 hn_24 f_23 c_25 b_33 g_34 hn_38 b_40 f_54 u_57 u_58 b_68 hn_73 b_77 u_100 b_105; omega) | omega)⟩, ((by first | (clear hP9 hn_24 b_33 g_34 hn_38 u_57 u_58 b_68 hn_73 b_105; omega) | omega)), ((by first | (clear hP9 hn_24 f_23 b_33 g_34 hn_38 u_57 u_58 b_68 hn_73 u_100 b_105; omega) | omega)), ((by first | (clear hP9 hn_24 f_23 b_33 g_34 hn_38 u_57 u_58 b_68 hn_73; omega) | omega)), (hX_64.st (St_n_layStreet_3_mk ⟨x_63, G_59, y_101, G_98, rfl, rfl, f_69, f_70, f_71, f_72, hB_G_59, ⟨y_78, ty_78, ⟨c_79, ⟨y_82, ey_82, ⟨c_84, ⟨y_87, ey_87, (Or.inl ⟨c_89, ⟨y_101, ty_101, ⟨rfl, (Fr.put (rs := [98]) (fs := []) Fr.rf eG_98 (Or.inl (by decide))), rw_ast eG_98⟩⟩⟩)⟩⟩⟩⟩⟩⟩)), hW, hB_G_98, hF, (Fr.put (rs := [98]) (fs := []) (Fr.call9 (rs := [98]) (fs := []) Fr.rf hq_60 rfl rfl) eG_98 (Or.inl (by decide))), hS, lv_sub hl [0, 1, 2] rfl⟩
  · have c_25 : x_20.toInt < y_1.toInt := xI_nle rfl rfl c_25
    refine lv_aload_n hx hb dX12_layStreet_62 rfl (lv_at hl 1 rfl) ?_
    refine S_getR (n := 97) (C := RX12) (T := TX12) (N := 89) hx hb hg iX12 hown hK hW kd_66 rfl 57 (lt_b rfl) (hg (Cond.fieldLink RX12 111 "SlabWalkModel" "lines" "[Z") m1371) (fun _ h9 => h9) rfl dX12_layStreet_63 ?_
    refine lv_iload hx hb dX12_layStreet_66 (lv_at hl 0 rfl) ?_
    refine lv_aload_n hx hb dX12_layStreet_68 rfl (lv_at hl 1 rfl) ?_
    refine lv_iload_n hx hb dX12_layStreet_69 rfl (lv_at hl 2 rfl) ?_
    refine lv_iload_n hx hb dX12_layStreet_70 rfl (lv_at hl 3 rfl) ?_
    refine lv_iload hx hb dX12_layStreet_71 (lv_at hl 0 rfl) ?_
    have fr_106 : Fr [76, 97] [(66, 59), (66, 60), (66, 61), (66, 62), (66, 63)] G G_16 := (Fr.call9 (rs := [76, 97]) (fs := [(66, 59), (66, 60), (66, 61), (66, 62), (66, 63)]) (Fr.put (rs := [76, 97]) (fs := [(66, 59), (66, 60), (66, 61), (66, 62), (66, 63)]) (Fr.put (rs := [76, 97]) (fs := [(66, 59), (66, 60), (66, 61), (66, 62), (66, 63)]) (Fr.put (rs := [76, 97]) (fs := [(66, 59), (66, 60), (66, 61), (66, 62), (66, 63)]) (Fr.put (rs := [76, 97]) (fs := [(66, 59), (66, 60), (66, 61), (66, 62), (66, 63)]) (Fr.put (rs := [76, 97]) (fs := [(66, 59), (66, 60), (66, 61), (66, 62), (66, 63)]) Fr.rf eG_3 (Or.inr (by decide))) eG_6 (Or.inr (by decide))) eG_9 (Or.inr (by decide))) eG_12 (Or.inr (by decide))) eG_15 (Or.inr (by decide))) hq_17 rfl rfl)
    have g_107 : gP G_16 = gP G := gP_fr fr_106 (gr_q rfl) (gf_q rfl)
    refine S_calli (va_runV (As := [.int p1, .int p2, .int x_20]) (rest := [.int x_20, .ref (a 97)]) ⟨hx, hb, hml, hown, hts⟩ (n_isLine l D k A a z G_16 p1 p2 x_20 ⟨(by first | (clear ha_p0 hP9 ty_4 u_5 ty_7 u_8 ty_10 u_11 ty_13 u_14 hn_24 g_107; omega) | omega), (by first | (clear ha_p0 hP9 ty_4 u_5 ty_7 u_8 ty_10 u_11 ty_13 u_14 hn_24 g_107; omega) | omega)⟩ ⟨(by first | (clear ha_p0 hP9 ty_4 u_5 ty_7 u_8 ty_10 u_11 ty_13 u_14 hn_24 g_107; omega) | omega), (by first | (clear ha_p0 hP9 ty_4 u_5 ty_7 u_8 ty_10 u_11 ty_13 u_14 hn_24 g_107; omega) | omega)⟩ ((by first | (clear ha_p0 ha_p1 ty_1 u_2 ty_4 u_5 ty_7 u_8 ty_10 u_11 ty_13 u_14 hn_24 f_23 c_25; omega) | omega))) (cwV 3 hts (gd_V hgd m1803 m1805 m86 m131 m1806) rfl rfl rfl hd_X12_isLine ⟨Nat.le_of_ble_eq_true rfl, Nat.le_of_ble_eq_true rfl⟩) (pre_W hW hB_G_16 hK hZ hS kd_66 rfl) rfl rfl hl.1 rfl (lv_room (Nat.le_of_ble_eq_true rfl)) dX12_layStreet_73 ⟨Nat.le_of_ble_eq_true rfl, Nat.le_of_ble_eq_true rfl⟩) hS (fun r_108 G_109 H locs hpo hW hS => ?_)
    have hX_112 : Q_isLine p1 p2 x_20 G_16 r_108 G_109 := hpo
    obtain ⟨hB_G_109, hq_110, f_113, -⟩ := hpo
    have hF := hF.call9 hq_110 rfl rfl
    refine S_zast hx hb hK hW hS kd_97 (vin ((by first | (clear ha_p0 hP9 ty_4 u_5 ty_7 u_8 ty_10 u_11 ty_13 u_14 hn_24 g_107 f_113; omega) | omega)) ((by first | (clear ha_p0 hP9 ty_4 u_5 ty_7 u_8 ty_10 u_11 ty_13 u_14 hn_24 g_107 f_113; omega) | omega))) dX12_layStreet_76 (fun G_114 H locs eG_114 hW hS => ?_)
    have hB_G_114 : Bd G_114 := hB_G_109.put (lo := 0) (hi := 1) eG_114 rfl rfl rfl nz_bool.1 nz_bool.2 (hB_G_109.2.put eG_114 rfl)
    have hF := hF.put eG_114 (Or.inl (by decide))
    obtain ⟨y_115, ey_115⟩ : ∃ q, q = x_20 + 1 := ⟨_, rfl⟩
    have ty_115 : y_115.toInt = x_20.toInt + 1 := xI_add rfl rfl ey_115 ((by first | (clear ha_p0 hP9 ty_4 u_5 ty_7 u_8 ty_10 u_11 ty_13 u_14 hn_24 g_107 f_113; omega) | omega)) ((by first | (clear ha_p0 hP9 ty_4 u_5 ty_7 u_8 ty_10 u_11 ty_13 u_14 hn_24 g_107 f_113; omega) | omega))
    refine lv_iinc (v := y_115) (lv' := [(4, .int y_115), (0, .ref (a 66)), (2, .int p1), (3, .int p2)]) hx hb dX12_layStreet_77 hl (k := 0) rfl (by rw [ey_115]; rfl) (lt_b rfl) rfl (fun ls hl => ?_)
    refine lv_goto (tgt := 53) hx hb dX12_layStreet_80 rfl ?_
    exact ih_18 (400 - y_115.toInt : Int).toNat ((by first | (clear ha_p0 hP9 ty_4 u_5 ty_7 u_8 ty_10 u_11 ty_13 u_14 g_107 f_113; omega) | omega)) _ _ _ ⟨G_114, y_115, (Int.toNat_of_nonneg ((by first | (clear ha_p0 hP9 ty_4 u_5 ty_7 u_8 ty_10 u_11 ty_13 u_14 hn_24 g_107 f_113; omega) | omega))), ⟨(by first | (clear ha_p0 hP9 ty_4 u_5 ty_7 u_8 ty_10 u_11 ty_13 u_14 hn_24 g_107 f_113; omega) | omega), (by first | (clear ha_p0 hP9 ty_4 u_5 ty_7 u_8 ty_10 u_11 ty_13 u_14 hn_24 g_107 f_113; omega) | omega)⟩, (hX_21.st (St_n_layStreet_1_mk ⟨x_20, G_16, y_115, G_114, rfl, rfl, f_23, hB_G_16, ⟨c_25, ⟨r_108, G_109, hX_112, ⟨y_115, ty_115, ⟨rfl, (Fr.put (rs := [97]) (fs := []) Fr.rf eG_114 (Or.inl (by decide))), rw_ast eG_114⟩⟩⟩⟩⟩)), hW, hB_G_114, hF, (Fr.put (rs := [76, 97]) (fs := []) (Fr.call9 (rs := [76, 97]) (fs := []) (Fr.call9 (rs := [76, 97]) (fs := []) Fr.rf hq_17 rfl rfl) hq_110 rfl rfl) eG_114 (Or.inl (by decide))), hS, lv_sub hl [0, 1, 2, 3] rfl⟩

theorem m89 : Cond.selects RX12 yX12_isAsked yX12_isAsked ∈ gd := gds_6 9 rfl
theorem m91 : Cond.selects RX12 yX12_layStreet yX12_layStreet ∈ gd := gds_6 11 rfl
theorem m1826 : Cond.methodLink RX12 490 yX12_isAsked ∈ gd := gdc_8_1 14 rfl gw_methodLink
theorem m1828 : Cond.instanceMethod yX12_isAsked ∈ gd := gdc_8_2 0 rfl gw_instanceMethod
theorem m1829 : Cond.code yX12_isAsked cX12_isAsked 4 (some .boolean) ∈ gd := gdc_8_2 1 rfl gw_code
theorem m1834 : Cond.methodLink RX12 493 yX12_layStreet ∈ gd := gdc_8_2 6 rfl gw_methodLink
theorem m1836 : Cond.instanceMethod yX12_layStreet ∈ gd := gdc_8_2 8 rfl gw_instanceMethod
theorem m1837 : Cond.code yX12_layStreet cX12_layStreet 6 none ∈ gd := gdc_8_2 9 rfl gw_code
noncomputable def rbX12_foot_0 : List (Nat × List Nat) := [(0, [42]), (1, [27]), (2, [28]), (3, [29]), (4, [182, 1, 234]), (7, [153, 0, 13]), (10, [42]), (11, [28]), (12, [21, 4]), (14, [182, 1, 200]), (17, [154, 0, 5]), (20, [2]), (21, [172]), (22, [42]), (23, [27]), (24, [28]), (25, [29]), (26, [182, 1, 237]), (29, [42]), (30, [180, 0, 115]), (33, [21, 4]), (35, [51]), (36, [184, 1, 92]), (39, [172])]
theorem rcX12_foot_0 : dgo (lb cX12_foot) 0 rbX12_foot_0 = true := by decide +kernel
theorem dX12_foot_0 : decode cX12_foot 0 = .ok (.aload_n 0, 1) := dk_42 (dw rcX12_foot_0 0 rfl)
theorem dX12_foot_1 : decode cX12_foot 1 = .ok (.iload_n 1, 1) := dk_27 (dw rcX12_foot_0 1 rfl)
theorem dX12_foot_2 : decode cX12_foot 2 = .ok (.iload_n 2, 1) := dk_28 (dw rcX12_foot_0 2 rfl)
theorem dX12_foot_3 : decode cX12_foot 3 = .ok (.iload_n 3, 1) := dk_29 (dw rcX12_foot_0 3 rfl)
theorem dX12_foot_4 : decode cX12_foot 4 = .ok (.invokevirtual 490, 3) := dk_182 (dw rcX12_foot_0 4 rfl) rfl
theorem dX12_foot_7 : decode cX12_foot 7 = .ok (.ifCond .eq 13, 3) := dk_153 (dw rcX12_foot_0 5 rfl) rfl
theorem dX12_foot_10 : decode cX12_foot 10 = .ok (.aload_n 0, 1) := dk_42 (dw rcX12_foot_0 6 rfl)
theorem dX12_foot_11 : decode cX12_foot 11 = .ok (.iload_n 2, 1) := dk_28 (dw rcX12_foot_0 7 rfl)
theorem dX12_foot_12 : decode cX12_foot 12 = .ok (.iload 4, 2) := dk_21 (dw rcX12_foot_0 8 rfl)
theorem dX12_foot_14 : decode cX12_foot 14 = .ok (.invokevirtual 456, 3) := dk_182 (dw rcX12_foot_0 9 rfl) rfl
theorem dX12_foot_17 : decode cX12_foot 17 = .ok (.ifCond .ne 5, 3) := dk_154 (dw rcX12_foot_0 10 rfl) rfl
theorem dX12_foot_20 : decode cX12_foot 20 = .ok (.iconst (-1), 1) := dk_2 (dw rcX12_foot_0 11 rfl)
theorem dX12_foot_21 : decode cX12_foot 21 = .ok (.ireturn, 1) := dk_172 (dw rcX12_foot_0 12 rfl)
theorem dX12_foot_22 : decode cX12_foot 22 = .ok (.aload_n 0, 1) := dk_42 (dw rcX12_foot_0 13 rfl)
theorem dX12_foot_23 : decode cX12_foot 23 = .ok (.iload_n 1, 1) := dk_27 (dw rcX12_foot_0 14 rfl)
theorem dX12_foot_24 : decode cX12_foot 24 = .ok (.iload_n 2, 1) := dk_28 (dw rcX12_foot_0 15 rfl)
theorem dX12_foot_25 : decode cX12_foot 25 = .ok (.iload_n 3, 1) := dk_29 (dw rcX12_foot_0 16 rfl)
theorem dX12_foot_26 : decode cX12_foot 26 = .ok (.invokevirtual 493, 3) := dk_182 (dw rcX12_foot_0 17 rfl) rfl
theorem dX12_foot_29 : decode cX12_foot 29 = .ok (.aload_n 0, 1) := dk_42 (dw rcX12_foot_0 18 rfl)
theorem dX12_foot_30 : decode cX12_foot 30 = .ok (.getfield 115, 3) := dk_180 (dw rcX12_foot_0 19 rfl) rfl
theorem dX12_foot_33 : decode cX12_foot 33 = .ok (.iload 4, 2) := dk_21 (dw rcX12_foot_0 20 rfl)
theorem dX12_foot_35 : decode cX12_foot 35 = .ok (.baload, 1) := dk_51 (dw rcX12_foot_0 21 rfl)
theorem dX12_foot_36 : decode cX12_foot 36 = .ok (.invokestatic 348, 3) := dk_184 (dw rcX12_foot_0 22 rfl) rfl
theorem dX12_foot_39 : decode cX12_foot 39 = .ok (.ireturn, 1) := dk_172 (dw rcX12_foot_0 23 rfl)
noncomputable def rbX12_gap_0 : List (Nat × List Nat) := [(0, [42]), (1, [27]), (2, [182, 1, 197]), (5, [153, 0, 20]), (8, [42]), (9, [28]), (10, [182, 1, 207]), (13, [153, 0, 12]), (16, [29]), (17, [3]), (18, [5]), (19, [184, 1, 193]), (22, [154, 0, 5]), (25, [2]), (26, [172]), (27, [3]), (28, [54, 4]), (30, [2]), (31, [54, 5]), (33, [3]), (34, [54, 6]), (36, [3]), (37, [54, 7]), (39, [3])]
theorem rcX12_gap_0 : dgo (lb cX12_gap) 0 rbX12_gap_0 = true := by decide +kernel
theorem dX12_gap_0 : decode cX12_gap 0 = .ok (.aload_n 0, 1) := dk_42 (dw rcX12_gap_0 0 rfl)
theorem dX12_gap_1 : decode cX12_gap 1 = .ok (.iload_n 1, 1) := dk_27 (dw rcX12_gap_0 1 rfl)
theorem dX12_gap_2 : decode cX12_gap 2 = .ok (.invokevirtual 453, 3) := dk_182 (dw rcX12_gap_0 2 rfl) rfl
theorem dX12_gap_5 : decode cX12_gap 5 = .ok (.ifCond .eq 20, 3) := dk_153 (dw rcX12_gap_0 3 rfl) rfl
theorem dX12_gap_8 : decode cX12_gap 8 = .ok (.aload_n 0, 1) := dk_42 (dw rcX12_gap_0 4 rfl)
theorem dX12_gap_9 : decode cX12_gap 9 = .ok (.iload_n 2, 1) := dk_28 (dw rcX12_gap_0 5 rfl)
theorem dX12_gap_10 : decode cX12_gap 10 = .ok (.invokevirtual 463, 3) := dk_182 (dw rcX12_gap_0 6 rfl) rfl
theorem dX12_gap_13 : decode cX12_gap 13 = .ok (.ifCond .eq 12, 3) := dk_153 (dw rcX12_gap_0 7 rfl) rfl
theorem dX12_gap_16 : decode cX12_gap 16 = .ok (.iload_n 3, 1) := dk_29 (dw rcX12_gap_0 8 rfl)
theorem dX12_gap_17 : decode cX12_gap 17 = .ok (.iconst 0, 1) := dk_3 (dw rcX12_gap_0 9 rfl)
theorem dX12_gap_18 : decode cX12_gap 18 = .ok (.iconst 2, 1) := dk_5 (dw rcX12_gap_0 10 rfl)
theorem dX12_gap_19 : decode cX12_gap 19 = .ok (.invokestatic 449, 3) := dk_184 (dw rcX12_gap_0 11 rfl) rfl
theorem dX12_gap_22 : decode cX12_gap 22 = .ok (.ifCond .ne 5, 3) := dk_154 (dw rcX12_gap_0 12 rfl) rfl
theorem dX12_gap_25 : decode cX12_gap 25 = .ok (.iconst (-1), 1) := dk_2 (dw rcX12_gap_0 13 rfl)
theorem dX12_gap_26 : decode cX12_gap 26 = .ok (.ireturn, 1) := dk_172 (dw rcX12_gap_0 14 rfl)
theorem dX12_gap_27 : decode cX12_gap 27 = .ok (.iconst 0, 1) := dk_3 (dw rcX12_gap_0 15 rfl)
theorem dX12_gap_28 : decode cX12_gap 28 = .ok (.istore 4, 2) := dk_54 (dw rcX12_gap_0 16 rfl)
theorem dX12_gap_30 : decode cX12_gap 30 = .ok (.iconst (-1), 1) := dk_2 (dw rcX12_gap_0 17 rfl)
theorem dX12_gap_31 : decode cX12_gap 31 = .ok (.istore 5, 2) := dk_54 (dw rcX12_gap_0 18 rfl)
theorem dX12_gap_33 : decode cX12_gap 33 = .ok (.iconst 0, 1) := dk_3 (dw rcX12_gap_0 19 rfl)
theorem dX12_gap_34 : decode cX12_gap 34 = .ok (.istore 6, 2) := dk_54 (dw rcX12_gap_0 20 rfl)
theorem dX12_gap_36 : decode cX12_gap 36 = .ok (.iconst 0, 1) := dk_3 (dw rcX12_gap_0 21 rfl)
theorem dX12_gap_37 : decode cX12_gap 37 = .ok (.istore 7, 2) := dk_54 (dw rcX12_gap_0 22 rfl)
theorem dX12_gap_39 : decode cX12_gap 39 = .ok (.iconst 0, 1) := dk_3 (dw rcX12_gap_0 23 rfl)
noncomputable def rbX12_gap_40 : List (Nat × List Nat) := [(40, [54, 8]), (42, [21, 8]), (44, [42]), (45, [180, 0, 87]), (48, [27]), (49, [46]), (50, [162, 0, 67]), (53, [42]), (54, [27]), (55, [28]), (56, [21, 8]), (58, [182, 1, 210]), (61, [54, 9]), (63, [21, 7]), (65, [21, 9]), (67, [184, 1, 92]), (70, [96]), (71, [54, 7]), (73, [21, 9]), (75, [153, 0, 7]), (78, [3]), (79, [167, 0, 7]), (82, [21, 6]), (84, [4])]
theorem rcX12_gap_40 : dgo (lb cX12_gap) 0 rbX12_gap_40 = true := by decide +kernel
theorem dX12_gap_40 : decode cX12_gap 40 = .ok (.istore 8, 2) := dk_54 (dw rcX12_gap_40 0 rfl)
theorem dX12_gap_42 : decode cX12_gap 42 = .ok (.iload 8, 2) := dk_21 (dw rcX12_gap_40 1 rfl)
theorem dX12_gap_44 : decode cX12_gap 44 = .ok (.aload_n 0, 1) := dk_42 (dw rcX12_gap_40 2 rfl)
theorem dX12_gap_45 : decode cX12_gap 45 = .ok (.getfield 87, 3) := dk_180 (dw rcX12_gap_40 3 rfl) rfl
theorem dX12_gap_48 : decode cX12_gap 48 = .ok (.iload_n 1, 1) := dk_27 (dw rcX12_gap_40 4 rfl)
theorem dX12_gap_49 : decode cX12_gap 49 = .ok (.iaload, 1) := dk_46 (dw rcX12_gap_40 5 rfl)
theorem dX12_gap_50 : decode cX12_gap 50 = .ok (.if_icmp .ge 67, 3) := dk_162 (dw rcX12_gap_40 6 rfl) rfl
theorem dX12_gap_53 : decode cX12_gap 53 = .ok (.aload_n 0, 1) := dk_42 (dw rcX12_gap_40 7 rfl)
theorem dX12_gap_54 : decode cX12_gap 54 = .ok (.iload_n 1, 1) := dk_27 (dw rcX12_gap_40 8 rfl)
theorem dX12_gap_55 : decode cX12_gap 55 = .ok (.iload_n 2, 1) := dk_28 (dw rcX12_gap_40 9 rfl)
theorem dX12_gap_56 : decode cX12_gap 56 = .ok (.iload 8, 2) := dk_21 (dw rcX12_gap_40 10 rfl)
theorem dX12_gap_58 : decode cX12_gap 58 = .ok (.invokevirtual 466, 3) := dk_182 (dw rcX12_gap_40 11 rfl) rfl
theorem dX12_gap_61 : decode cX12_gap 61 = .ok (.istore 9, 2) := dk_54 (dw rcX12_gap_40 12 rfl)
theorem dX12_gap_63 : decode cX12_gap 63 = .ok (.iload 7, 2) := dk_21 (dw rcX12_gap_40 13 rfl)
theorem dX12_gap_65 : decode cX12_gap 65 = .ok (.iload 9, 2) := dk_21 (dw rcX12_gap_40 14 rfl)
theorem dX12_gap_67 : decode cX12_gap 67 = .ok (.invokestatic 348, 3) := dk_184 (dw rcX12_gap_40 15 rfl) rfl
theorem dX12_gap_70 : decode cX12_gap 70 = .ok (.iadd, 1) := dk_96 (dw rcX12_gap_40 16 rfl)
theorem dX12_gap_71 : decode cX12_gap 71 = .ok (.istore 7, 2) := dk_54 (dw rcX12_gap_40 17 rfl)
theorem dX12_gap_73 : decode cX12_gap 73 = .ok (.iload 9, 2) := dk_21 (dw rcX12_gap_40 18 rfl)
theorem dX12_gap_75 : decode cX12_gap 75 = .ok (.ifCond .eq 7, 3) := dk_153 (dw rcX12_gap_40 19 rfl) rfl
theorem dX12_gap_78 : decode cX12_gap 78 = .ok (.iconst 0, 1) := dk_3 (dw rcX12_gap_40 20 rfl)
theorem dX12_gap_79 : decode cX12_gap 79 = .ok (.goto 7, 3) := dk_167 (dw rcX12_gap_40 21 rfl) rfl
theorem dX12_gap_82 : decode cX12_gap 82 = .ok (.iload 6, 2) := dk_21 (dw rcX12_gap_40 22 rfl)
theorem dX12_gap_84 : decode cX12_gap 84 = .ok (.iconst 1, 1) := dk_4 (dw rcX12_gap_40 23 rfl)
noncomputable def rbX12_gap_85 : List (Nat × List Nat) := [(85, [96]), (86, [54, 6]), (88, [21, 6]), (90, [21, 4]), (92, [163, 0, 6]), (95, [167, 0, 16]), (98, [21, 6]), (100, [54, 4]), (102, [21, 8]), (104, [21, 6]), (106, [100]), (107, [4]), (108, [96]), (109, [54, 5]), (111, [132, 8, 1]), (114, [167, 255, 184]), (117, [29]), (118, [154, 0, 8]), (121, [21, 4]), (123, [167, 0, 15]), (126, [29]), (127, [4]), (128, [160, 0, 8]), (131, [21, 5])]
theorem rcX12_gap_85 : dgo (lb cX12_gap) 0 rbX12_gap_85 = true := by decide +kernel
theorem dX12_gap_85 : decode cX12_gap 85 = .ok (.iadd, 1) := dk_96 (dw rcX12_gap_85 0 rfl)
theorem dX12_gap_86 : decode cX12_gap 86 = .ok (.istore 6, 2) := dk_54 (dw rcX12_gap_85 1 rfl)
theorem dX12_gap_88 : decode cX12_gap 88 = .ok (.iload 6, 2) := dk_21 (dw rcX12_gap_85 2 rfl)
theorem dX12_gap_90 : decode cX12_gap 90 = .ok (.iload 4, 2) := dk_21 (dw rcX12_gap_85 3 rfl)
theorem dX12_gap_92 : decode cX12_gap 92 = .ok (.if_icmp .gt 6, 3) := dk_163 (dw rcX12_gap_85 4 rfl) rfl
theorem dX12_gap_95 : decode cX12_gap 95 = .ok (.goto 16, 3) := dk_167 (dw rcX12_gap_85 5 rfl) rfl
theorem dX12_gap_98 : decode cX12_gap 98 = .ok (.iload 6, 2) := dk_21 (dw rcX12_gap_85 6 rfl)
theorem dX12_gap_100 : decode cX12_gap 100 = .ok (.istore 4, 2) := dk_54 (dw rcX12_gap_85 7 rfl)
theorem dX12_gap_102 : decode cX12_gap 102 = .ok (.iload 8, 2) := dk_21 (dw rcX12_gap_85 8 rfl)
theorem dX12_gap_104 : decode cX12_gap 104 = .ok (.iload 6, 2) := dk_21 (dw rcX12_gap_85 9 rfl)
theorem dX12_gap_106 : decode cX12_gap 106 = .ok (.isub, 1) := dk_100 (dw rcX12_gap_85 10 rfl)
theorem dX12_gap_107 : decode cX12_gap 107 = .ok (.iconst 1, 1) := dk_4 (dw rcX12_gap_85 11 rfl)
theorem dX12_gap_108 : decode cX12_gap 108 = .ok (.iadd, 1) := dk_96 (dw rcX12_gap_85 12 rfl)
theorem dX12_gap_109 : decode cX12_gap 109 = .ok (.istore 5, 2) := dk_54 (dw rcX12_gap_85 13 rfl)
theorem dX12_gap_111 : decode cX12_gap 111 = .ok (.iinc 8 1, 3) := dk_132 (dw rcX12_gap_85 14 rfl) rfl
theorem dX12_gap_114 : decode cX12_gap 114 = .ok (.goto (-72), 3) := dk_167 (dw rcX12_gap_85 15 rfl) rfl
theorem dX12_gap_117 : decode cX12_gap 117 = .ok (.iload_n 3, 1) := dk_29 (dw rcX12_gap_85 16 rfl)
theorem dX12_gap_118 : decode cX12_gap 118 = .ok (.ifCond .ne 8, 3) := dk_154 (dw rcX12_gap_85 17 rfl) rfl
theorem dX12_gap_121 : decode cX12_gap 121 = .ok (.iload 4, 2) := dk_21 (dw rcX12_gap_85 18 rfl)
theorem dX12_gap_123 : decode cX12_gap 123 = .ok (.goto 15, 3) := dk_167 (dw rcX12_gap_85 19 rfl) rfl
theorem dX12_gap_126 : decode cX12_gap 126 = .ok (.iload_n 3, 1) := dk_29 (dw rcX12_gap_85 20 rfl)
theorem dX12_gap_127 : decode cX12_gap 127 = .ok (.iconst 1, 1) := dk_4 (dw rcX12_gap_85 21 rfl)
theorem dX12_gap_128 : decode cX12_gap 128 = .ok (.if_icmp .ne 8, 3) := dk_160 (dw rcX12_gap_85 22 rfl) rfl
theorem dX12_gap_131 : decode cX12_gap 131 = .ok (.iload 5, 2) := dk_21 (dw rcX12_gap_85 23 rfl)
noncomputable def rbX12_gap_133 : List (Nat × List Nat) := [(133, [167, 0, 5]), (136, [21, 7]), (138, [172])]
theorem rcX12_gap_133 : dgo (lb cX12_gap) 0 rbX12_gap_133 = true := by decide +kernel
theorem dX12_gap_133 : decode cX12_gap 133 = .ok (.goto 5, 3) := dk_167 (dw rcX12_gap_133 0 rfl) rfl
theorem dX12_gap_136 : decode cX12_gap 136 = .ok (.iload 7, 2) := dk_21 (dw rcX12_gap_133 1 rfl)
theorem dX12_gap_138 : decode cX12_gap 138 = .ok (.ireturn, 1) := dk_172 (dw rcX12_gap_133 2 rfl)
noncomputable def rbX12_line_0 : List (Nat × List Nat) := [(0, [42]), (1, [27]), (2, [182, 1, 197]), (5, [153, 0, 33]), (8, [42]), (9, [28]), (10, [182, 1, 207]), (13, [153, 0, 25]), (16, [42]), (17, [27]), (18, [29]), (19, [182, 1, 200]), (22, [153, 0, 16]), (25, [42]), (26, [27]), (27, [28]), (28, [29]), (29, [182, 1, 210]), (32, [184, 1, 92]), (35, [167, 0, 4]), (38, [2]), (39, [172])]
theorem rcX12_line_0 : dgo (lb cX12_line) 0 rbX12_line_0 = true := by decide +kernel
theorem dX12_line_0 : decode cX12_line 0 = .ok (.aload_n 0, 1) := dk_42 (dw rcX12_line_0 0 rfl)
theorem dX12_line_1 : decode cX12_line 1 = .ok (.iload_n 1, 1) := dk_27 (dw rcX12_line_0 1 rfl)
theorem dX12_line_2 : decode cX12_line 2 = .ok (.invokevirtual 453, 3) := dk_182 (dw rcX12_line_0 2 rfl) rfl
theorem dX12_line_5 : decode cX12_line 5 = .ok (.ifCond .eq 33, 3) := dk_153 (dw rcX12_line_0 3 rfl) rfl
theorem dX12_line_8 : decode cX12_line 8 = .ok (.aload_n 0, 1) := dk_42 (dw rcX12_line_0 4 rfl)
theorem dX12_line_9 : decode cX12_line 9 = .ok (.iload_n 2, 1) := dk_28 (dw rcX12_line_0 5 rfl)
theorem dX12_line_10 : decode cX12_line 10 = .ok (.invokevirtual 463, 3) := dk_182 (dw rcX12_line_0 6 rfl) rfl
theorem dX12_line_13 : decode cX12_line 13 = .ok (.ifCond .eq 25, 3) := dk_153 (dw rcX12_line_0 7 rfl) rfl
theorem dX12_line_16 : decode cX12_line 16 = .ok (.aload_n 0, 1) := dk_42 (dw rcX12_line_0 8 rfl)
theorem dX12_line_17 : decode cX12_line 17 = .ok (.iload_n 1, 1) := dk_27 (dw rcX12_line_0 9 rfl)
theorem dX12_line_18 : decode cX12_line 18 = .ok (.iload_n 3, 1) := dk_29 (dw rcX12_line_0 10 rfl)
theorem dX12_line_19 : decode cX12_line 19 = .ok (.invokevirtual 456, 3) := dk_182 (dw rcX12_line_0 11 rfl) rfl
theorem dX12_line_22 : decode cX12_line 22 = .ok (.ifCond .eq 16, 3) := dk_153 (dw rcX12_line_0 12 rfl) rfl
theorem dX12_line_25 : decode cX12_line 25 = .ok (.aload_n 0, 1) := dk_42 (dw rcX12_line_0 13 rfl)
theorem dX12_line_26 : decode cX12_line 26 = .ok (.iload_n 1, 1) := dk_27 (dw rcX12_line_0 14 rfl)
theorem dX12_line_27 : decode cX12_line 27 = .ok (.iload_n 2, 1) := dk_28 (dw rcX12_line_0 15 rfl)
theorem dX12_line_28 : decode cX12_line 28 = .ok (.iload_n 3, 1) := dk_29 (dw rcX12_line_0 16 rfl)
theorem dX12_line_29 : decode cX12_line 29 = .ok (.invokevirtual 466, 3) := dk_182 (dw rcX12_line_0 17 rfl) rfl
theorem dX12_line_32 : decode cX12_line 32 = .ok (.invokestatic 348, 3) := dk_184 (dw rcX12_line_0 18 rfl) rfl
theorem dX12_line_35 : decode cX12_line 35 = .ok (.goto 4, 3) := dk_167 (dw rcX12_line_0 19 rfl) rfl
theorem dX12_line_38 : decode cX12_line 38 = .ok (.iconst (-1), 1) := dk_2 (dw rcX12_line_0 20 rfl)
theorem dX12_line_39 : decode cX12_line 39 = .ok (.ireturn, 1) := dk_172 (dw rcX12_line_0 21 rfl)
set_option maxHeartbeats 4000000 in
set_option maxRecDepth 100000 in
theorem n_line (l : Launch) (D : va_G) (k : KT) (A : Nat → Prop) (a : Nat → Nat) (z : SK) (G : GS) (p0 : Int32) (p1 : Int32) (p2 : Int32) (hP9 : gP G = 1) : Met l yX12_line (WS yX12_line cX12_line 4 (some .int)) ({ frames := 4, cells := 0, slots := 0, locals := 92 }) (va_Pc [.ref (a 66), .int p0, .int p1, .int p2] (cW D k A a z G)) (va_Qi (fun (r : Int32) (G1 : GS) => Q_line p0 p1 p2 G r G1) (fun (G1 : GS) t => Wd D k A a G1 t.heap) A) 0 0 A := by
  refine Met.ofW (cc := cX12_line) (maxL := 4) (ret := (some .int)) (by decide) rfl ?_
  intro p e s m args below meth c s₁ B hml hv
  obtain ⟨rfl, hW, hB_G, hK, hZ⟩ := hv
  have hx := B.exec
  have hb := B.bytes
  have hr := B.returns
  have hts := atoms_spec (ws := WS yX12_line cX12_line 4 (some .int)) B.pre
  have hgd : ∀ w ∈ gd, w ∈ WS yX12_line cX12_line 4 (some .int) := fun w h => List.mem_cons_of_mem _ h
  have hg : ∀ w ∈ gd, w.before _ s = true := fun w h => hts w (hgd w h)
  have hown : s.vm.findClass RX12 = some m.cls := findClass_of_methodNamed B.named
  have hS : va_S A s.heap s.heap [] := va_S.rf
  have hF : Fr [76] [] G G := Fr.rf
  have hl := lv_entry ([.ref (a 66), .int p0, .int p1, .int p2]) (n := 4) (Nat.le_of_ble_eq_true rfl)
  rw [lg_entry_eq]
  generalize (lg_sl ([.ref (a 66), .int p0, .int p1, .int p2]) ++ List.replicate (4 - (lg_sl ([.ref (a 66), .int p0, .int p1, .int p2])).length) Slot.unset).toArray = ls at hl ⊢
  have hl : lv_has ls 4 [(0, .ref (a 66)), (1, .int p0), (2, .int p1), (3, .int p2)] := hl
  refine lv_aload_n hx hb dX12_line_0 rfl (lv_at hl 0 rfl) ?_
  refine lv_iload_n hx hb dX12_line_1 rfl (lv_at hl 1 rfl) ?_
  refine S_calli (va_runV (As := [.int p0]) (rest := []) ⟨hx, hb, hml, hown, hts⟩ (n_isStreet l D k A a z G p0 ) (cwV 1 hts (gd_V hgd m1777 m1779 m83 m131 m1780) rfl rfl rfl hd_X12_isStreet ⟨Nat.le_of_ble_eq_true rfl, Nat.le_of_ble_eq_true rfl⟩) (pre_W hW hB_G hK hZ hS kd_66 rfl) rfl rfl hl.1 rfl (lv_room (Nat.le_of_ble_eq_true rfl)) dX12_line_2 ⟨Nat.le_of_ble_eq_true rfl, Nat.le_of_ble_eq_true rfl⟩) hS (fun r_1 G_2 H locs hpo hW hS => ?_)
  have hX_5 : Q_isStreet p0 G r_1 G_2 := hpo
  obtain ⟨hB_G_2, hq_3, f_6, hp_4, -⟩ := hpo
  have hF := hF.call9 hq_3 rfl rfl
  refine lv_if_eq (tgt := 38) hx hb dX12_line_5 rfl (fun c_7 => ?_) (fun c_7 => ?_)
  · have c_7 : r_1.toInt = 0 := xI_eq rfl rfl c_7
    refine ic_m1 hx hb dX12_line_38 ?_
    exact W.iret (v := (-1)) hx hb hr (fun t ht _ => ⟨⟨(-1), G_2, rfl, (Q_line_mk ⟨hB_G_2, hF, ⟨r_1, G_2, hX_5, (Or.inl ⟨c_7, ⟨rfl, rfl⟩⟩)⟩⟩), wd_t ht hW⟩, hS.F ht⟩) hS.2.2 dX12_line_39
  · have c_7 : r_1.toInt ≠ 0 := xI_ne rfl rfl c_7
    refine lv_aload_n hx hb dX12_line_8 rfl (lv_at hl 0 rfl) ?_
    refine lv_iload_n hx hb dX12_line_9 rfl (lv_at hl 2 rfl) ?_
    refine S_calli (va_runV (As := [.int p1]) (rest := []) ⟨hx, hb, hml, hown, hts⟩ (n_areRules l D k A a z G_2 p1 ) (cwV 1 hts (gd_V hgd m1799 m1801 m85 m131 m1802) rfl rfl rfl hd_X12_areRules ⟨Nat.le_of_ble_eq_true rfl, Nat.le_of_ble_eq_true rfl⟩) (pre_W hW hB_G_2 hK hZ hS kd_66 rfl) rfl rfl hl.1 rfl (lv_room (Nat.le_of_ble_eq_true rfl)) dX12_line_10 ⟨Nat.le_of_ble_eq_true rfl, Nat.le_of_ble_eq_true rfl⟩) hS (fun r_8 G_9 H locs hpo hW hS => ?_)
    have hX_12 : Q_areRules p1 G_2 r_8 G_9 := hpo
    obtain ⟨hB_G_9, hq_10, f_13, hp_11, -⟩ := hpo
    have hF := hF.call9 hq_10 rfl rfl
    refine lv_if_eq (tgt := 38) hx hb dX12_line_13 rfl (fun c_14 => ?_) (fun c_14 => ?_)
    · have c_14 : r_8.toInt = 0 := xI_eq rfl rfl c_14
      refine ic_m1 hx hb dX12_line_38 ?_
      exact W.iret (v := (-1)) hx hb hr (fun t ht _ => ⟨⟨(-1), G_9, rfl, (Q_line_mk ⟨hB_G_9, hF, ⟨r_1, G_2, hX_5, (Or.inr ⟨c_7, ⟨r_8, G_9, hX_12, (Or.inl ⟨c_14, ⟨rfl, rfl⟩⟩)⟩⟩)⟩⟩), wd_t ht hW⟩, hS.F ht⟩) hS.2.2 dX12_line_39
    · have c_14 : r_8.toInt ≠ 0 := xI_ne rfl rfl c_14
      refine lv_aload_n hx hb dX12_line_16 rfl (lv_at hl 0 rfl) ?_
      refine lv_iload_n hx hb dX12_line_17 rfl (lv_at hl 1 rfl) ?_
      refine lv_iload_n hx hb dX12_line_18 rfl (lv_at hl 3 rfl) ?_
      refine S_calli (va_runV (As := [.int p0, .int p2]) (rest := []) ⟨hx, hb, hml, hown, hts⟩ (n_isInch l D k A a z G_9 p0 p2 ⟨(by first | (clear hP9 f_13 hp_11 c_14; omega) | omega), (by first | (clear hP9 f_13 hp_11 c_14; omega) | omega)⟩) (cwV 2 hts (gd_V hgd m1784 m1786 m84 m131 m1787) rfl rfl rfl hd_X12_isInch ⟨Nat.le_of_ble_eq_true rfl, Nat.le_of_ble_eq_true rfl⟩) (pre_W hW hB_G_9 hK hZ hS kd_66 rfl) rfl rfl hl.1 rfl (lv_room (Nat.le_of_ble_eq_true rfl)) dX12_line_19 ⟨Nat.le_of_ble_eq_true rfl, Nat.le_of_ble_eq_true rfl⟩) hS (fun r_15 G_16 H locs hpo hW hS => ?_)
      have hX_19 : Q_isInch p0 p2 G_9 r_15 G_16 := hpo
      obtain ⟨hB_G_16, hq_17, f_20, hp_18, -⟩ := hpo
      have hF := hF.call9 hq_17 rfl rfl
      refine lv_if_eq (tgt := 38) hx hb dX12_line_22 rfl (fun c_21 => ?_) (fun c_21 => ?_)
      · have c_21 : r_15.toInt = 0 := xI_eq rfl rfl c_21
        refine ic_m1 hx hb dX12_line_38 ?_
        exact W.iret (v := (-1)) hx hb hr (fun t ht _ => ⟨⟨(-1), G_16, rfl, (Q_line_mk ⟨hB_G_16, hF, ⟨r_1, G_2, hX_5, (Or.inr ⟨c_7, ⟨r_8, G_9, hX_12, (Or.inr ⟨c_14, ⟨r_15, G_16, hX_19, (Or.inl ⟨c_21, ⟨rfl, rfl⟩⟩)⟩⟩)⟩⟩)⟩⟩), wd_t ht hW⟩, hS.F ht⟩) hS.2.2 dX12_line_39
      · have c_21 : r_15.toInt ≠ 0 := xI_ne rfl rfl c_21
        refine lv_aload_n hx hb dX12_line_25 rfl (lv_at hl 0 rfl) ?_
        refine lv_iload_n hx hb dX12_line_26 rfl (lv_at hl 1 rfl) ?_
        refine lv_iload_n hx hb dX12_line_27 rfl (lv_at hl 2 rfl) ?_
        refine lv_iload_n hx hb dX12_line_28 rfl (lv_at hl 3 rfl) ?_
        have fr_22 : Fr [] [] G G_16 := (Fr.call9 (rs := []) (fs := []) (Fr.call9 (rs := []) (fs := []) (Fr.call9 (rs := []) (fs := []) Fr.rf hq_3 rfl rfl) hq_10 rfl rfl) hq_17 rfl rfl)
        have g_23 : gP G_16 = gP G := gP_fr fr_22 (gr_q rfl) (gf_q rfl)
        refine S_calli (va_runV (As := [.int p0, .int p1, .int p2]) (rest := []) ⟨hx, hb, hml, hown, hts⟩ (n_isLine l D k A a z G_16 p0 p1 p2 ⟨(by first | (clear hP9 f_13 hp_11 c_14 f_20 hp_18 c_21 g_23; omega) | omega), (by first | (clear hP9 f_13 hp_11 c_14 f_20 hp_18 c_21 g_23; omega) | omega)⟩ ⟨(by first | (clear hP9 f_6 hp_4 c_7 f_13 hp_11 c_14 g_23; omega) | omega), (by first | (clear hP9 f_6 hp_4 c_7 f_13 hp_11 c_14 g_23; omega) | omega)⟩ ((by first | (clear f_6 hp_4 c_7 f_13 hp_11 c_14 f_20 hp_18 c_21; omega) | omega))) (cwV 3 hts (gd_V hgd m1803 m1805 m86 m131 m1806) rfl rfl rfl hd_X12_isLine ⟨Nat.le_of_ble_eq_true rfl, Nat.le_of_ble_eq_true rfl⟩) (pre_W hW hB_G_16 hK hZ hS kd_66 rfl) rfl rfl hl.1 rfl (lv_room (Nat.le_of_ble_eq_true rfl)) dX12_line_29 ⟨Nat.le_of_ble_eq_true rfl, Nat.le_of_ble_eq_true rfl⟩) hS (fun r_24 G_25 H locs hpo hW hS => ?_)
        have hX_28 : Q_isLine p0 p1 p2 G_16 r_24 G_25 := hpo
        obtain ⟨hB_G_25, hq_26, f_29, -⟩ := hpo
        have hF := hF.call9 hq_26 rfl rfl
        refine S_calli (va_runS (As := [.int r_24]) (rest := []) ⟨hx, hb, hml, hown, hts⟩ (n_truth l D k A a z G_25 r_24 ⟨(by first | (clear hP9 f_6 hp_4 c_7 f_13 hp_11 c_14 f_20 hp_18 c_21 g_23; omega) | omega), (by first | (clear hP9 f_6 hp_4 c_7 f_13 hp_11 c_14 f_20 hp_18 c_21 g_23; omega) | omega)⟩) (va_cwS 1 hts (gd_S hgd m1788 m1789 m131 m1790) rfl rfl rfl hd_X12_truth.2 ⟨Nat.le_of_ble_eq_true rfl, Nat.le_of_ble_eq_true rfl⟩) (pre_S hW hB_G_25 hK hZ hS) rfl rfl hl.1 rfl (lv_room (Nat.le_of_ble_eq_true rfl)) dX12_line_32 ⟨Nat.le_of_ble_eq_true rfl, Nat.le_of_ble_eq_true rfl⟩) hS (fun r_30 G_31 H locs hpo hW hS => ?_)
        have hX_34 : Q_truth r_24 G_25 r_30 G_31 := hpo
        obtain ⟨hB_G_31, hq_32, f_35, hp_33, -⟩ := hpo
        have hF := hF.call9 hq_32 rfl rfl
        refine lv_goto (tgt := 39) hx hb dX12_line_35 rfl ?_
        exact W.iret (v := r_30) hx hb hr (fun t ht _ => ⟨⟨r_30, G_31, rfl, (Q_line_mk ⟨hB_G_31, hF, ⟨r_1, G_2, hX_5, (Or.inr ⟨c_7, ⟨r_8, G_9, hX_12, (Or.inr ⟨c_14, ⟨r_15, G_16, hX_19, (Or.inr ⟨c_21, ⟨r_24, G_25, hX_28, ⟨r_30, G_31, hX_34, ⟨rfl, rfl⟩⟩⟩⟩)⟩⟩)⟩⟩)⟩⟩), wd_t ht hW⟩, hS.F ht⟩) hS.2.2 dX12_line_39

set_option maxHeartbeats 4000000 in
set_option maxRecDepth 100000 in
theorem n_gap (l : Launch) (D : va_G) (k : KT) (A : Nat → Prop) (a : Nat → Nat) (z : SK) (G : GS) (p0 : Int32) (p1 : Int32) (p2 : Int32) (hP9 : gP G = 1) : Met l yX12_gap (WS yX12_gap cX12_gap 10 (some .int)) ({ frames := 4, cells := 0, slots := 0, locals := 92 }) (va_Pc [.ref (a 66), .int p0, .int p1, .int p2] (cW D k A a z G)) (va_Qi (fun (r : Int32) (G1 : GS) => Q_gap p0 p1 p2 G r G1) (fun (G1 : GS) t => Wd D k A a G1 t.heap) A) 0 0 A := by
  refine Met.ofW (cc := cX12_gap) (maxL := 10) (ret := (some .int)) (by decide) rfl ?_
  intro p e s m args below meth c s₁ B hml hv
  obtain ⟨rfl, hW, hB_G, hK, hZ⟩ := hv
  have hx := B.exec
  have hb := B.bytes
  have hr := B.returns
  have hts := atoms_spec (ws := WS yX12_gap cX12_gap 10 (some .int)) B.pre
  have hgd : ∀ w ∈ gd, w ∈ WS yX12_gap cX12_gap 10 (some .int) := fun w h => List.mem_cons_of_mem _ h
  have hg : ∀ w ∈ gd, w.before _ s = true := fun w h => hts w (hgd w h)
  have hown : s.vm.findClass RX12 = some m.cls := findClass_of_methodNamed B.named
  have hS : va_S A s.heap s.heap [] := va_S.rf
  have hF : Fr [76] [] G G := Fr.rf
  have hl := lv_entry ([.ref (a 66), .int p0, .int p1, .int p2]) (n := 10) (Nat.le_of_ble_eq_true rfl)
  rw [lg_entry_eq]
  generalize (lg_sl ([.ref (a 66), .int p0, .int p1, .int p2]) ++ List.replicate (10 - (lg_sl ([.ref (a 66), .int p0, .int p1, .int p2])).length) Slot.unset).toArray = ls at hl ⊢
  have hl : lv_has ls 10 [(0, .ref (a 66)), (1, .int p0), (2, .int p1), (3, .int p2)] := hl
  refine lv_aload_n hx hb dX12_gap_0 rfl (lv_at hl 0 rfl) ?_
  refine lv_iload_n hx hb dX12_gap_1 rfl (lv_at hl 1 rfl) ?_
  refine S_calli (va_runV (As := [.int p0]) (rest := []) ⟨hx, hb, hml, hown, hts⟩ (n_isStreet l D k A a z G p0 ) (cwV 1 hts (gd_V hgd m1777 m1779 m83 m131 m1780) rfl rfl rfl hd_X12_isStreet ⟨Nat.le_of_ble_eq_true rfl, Nat.le_of_ble_eq_true rfl⟩) (pre_W hW hB_G hK hZ hS kd_66 rfl) rfl rfl hl.1 rfl (lv_room (Nat.le_of_ble_eq_true rfl)) dX12_gap_2 ⟨Nat.le_of_ble_eq_true rfl, Nat.le_of_ble_eq_true rfl⟩) hS (fun r_1 G_2 H locs hpo hW hS => ?_)
  have hX_5 : Q_isStreet p0 G r_1 G_2 := hpo
  obtain ⟨hB_G_2, hq_3, f_6, hp_4, -⟩ := hpo
  have hF := hF.call9 hq_3 rfl rfl
  refine lv_if_eq (tgt := 25) hx hb dX12_gap_5 rfl (fun c_7 => ?_) (fun c_7 => ?_)
  · have c_7 : r_1.toInt = 0 := xI_eq rfl rfl c_7
    refine ic_m1 hx hb dX12_gap_25 ?_
    exact W.iret (v := (-1)) hx hb hr (fun t ht _ => ⟨⟨(-1), G_2, rfl, (Q_gap_mk ⟨hB_G_2, hF, ⟨r_1, G_2, hX_5, (Or.inl ⟨c_7, ⟨rfl, rfl⟩⟩)⟩⟩), wd_t ht hW⟩, hS.F ht⟩) hS.2.2 dX12_gap_26
  · have c_7 : r_1.toInt ≠ 0 := xI_ne rfl rfl c_7
    refine lv_aload_n hx hb dX12_gap_8 rfl (lv_at hl 0 rfl) ?_
    refine lv_iload_n hx hb dX12_gap_9 rfl (lv_at hl 2 rfl) ?_
    refine S_calli (va_runV (As := [.int p1]) (rest := []) ⟨hx, hb, hml, hown, hts⟩ (n_areRules l D k A a z G_2 p1 ) (cwV 1 hts (gd_V hgd m1799 m1801 m85 m131 m1802) rfl rfl rfl hd_X12_areRules ⟨Nat.le_of_ble_eq_true rfl, Nat.le_of_ble_eq_true rfl⟩) (pre_W hW hB_G_2 hK hZ hS kd_66 rfl) rfl rfl hl.1 rfl (lv_room (Nat.le_of_ble_eq_true rfl)) dX12_gap_10 ⟨Nat.le_of_ble_eq_true rfl, Nat.le_of_ble_eq_true rfl⟩) hS (fun r_8 G_9 H locs hpo hW hS => ?_)
    have hX_12 : Q_areRules p1 G_2 r_8 G_9 := hpo
    obtain ⟨hB_G_9, hq_10, f_13, hp_11, -⟩ := hpo
    have hF := hF.call9 hq_10 rfl rfl
    refine lv_if_eq (tgt := 25) hx hb dX12_gap_13 rfl (fun c_14 => ?_) (fun c_14 => ?_)
    · have c_14 : r_8.toInt = 0 := xI_eq rfl rfl c_14
      refine ic_m1 hx hb dX12_gap_25 ?_
      exact W.iret (v := (-1)) hx hb hr (fun t ht _ => ⟨⟨(-1), G_9, rfl, (Q_gap_mk ⟨hB_G_9, hF, ⟨r_1, G_2, hX_5, (Or.inr ⟨c_7, ⟨r_8, G_9, hX_12, (Or.inl ⟨c_14, ⟨rfl, rfl⟩⟩)⟩⟩)⟩⟩), wd_t ht hW⟩, hS.F ht⟩) hS.2.2 dX12_gap_26
    · have c_14 : r_8.toInt ≠ 0 := xI_ne rfl rfl c_14
      refine lv_iload_n hx hb dX12_gap_16 rfl (lv_at hl 3 rfl) ?_
      refine ic_0 hx hb dX12_gap_17 ?_
      refine ic_2 hx hb dX12_gap_18 ?_
      have qc_15 : (0 : Int32).toInt = 0 := rfl
      have qc_16 : (2 : Int32).toInt = 2 := rfl
      refine S_calli (va_runS (As := [.int p2, .int 0, .int 2]) (rest := []) ⟨hx, hb, hml, hown, hts⟩ (n_isIn l D k A a z G_9 p2 0 2 ) (va_cwS 3 hts (gd_S hgd m1781 m1782 m131 m1783) rfl rfl rfl hd_X12_isIn.2 ⟨Nat.le_of_ble_eq_true rfl, Nat.le_of_ble_eq_true rfl⟩) (pre_S hW hB_G_9 hK hZ hS) rfl rfl hl.1 rfl (lv_room (Nat.le_of_ble_eq_true rfl)) dX12_gap_19 ⟨Nat.le_of_ble_eq_true rfl, Nat.le_of_ble_eq_true rfl⟩) hS (fun r_17 G_18 H locs hpo hW hS => ?_)
      have hX_21 : Q_isIn p2 0 2 G_9 r_17 G_18 := hpo
      obtain ⟨hB_G_18, hq_19, f_22, ⟨d_1, d_2⟩, -⟩ := hpo
      have hF := hF.call9 hq_19 rfl rfl
      refine lv_if_ne (tgt := 27) hx hb dX12_gap_22 rfl (fun c_23 => ?_) (fun c_23 => ?_)
      · have c_23 : r_17.toInt ≠ 0 := xI_ne rfl rfl c_23
        refine ic_0 hx hb dX12_gap_27 ?_
        refine lv_istore (lv' := [(4, .int 0), (0, .ref (a 66)), (1, .int p0), (2, .int p1), (3, .int p2)]) hx hb dX12_gap_28 hl (lt_b rfl) rfl (fun ls hl => ?_)
        refine ic_m1 hx hb dX12_gap_30 ?_
        refine lv_istore (lv' := [(5, .int (-1)), (4, .int 0), (0, .ref (a 66)), (1, .int p0), (2, .int p1), (3, .int p2)]) hx hb dX12_gap_31 hl (lt_b rfl) rfl (fun ls hl => ?_)
        refine ic_0 hx hb dX12_gap_33 ?_
        refine lv_istore (lv' := [(6, .int 0), (5, .int (-1)), (4, .int 0), (0, .ref (a 66)), (1, .int p0), (2, .int p1), (3, .int p2)]) hx hb dX12_gap_34 hl (lt_b rfl) rfl (fun ls hl => ?_)
        refine ic_0 hx hb dX12_gap_36 ?_
        refine lv_istore (lv' := [(7, .int 0), (6, .int 0), (5, .int (-1)), (4, .int 0), (0, .ref (a 66)), (1, .int p0), (2, .int p1), (3, .int p2)]) hx hb dX12_gap_37 hl (lt_b rfl) rfl (fun ls hl => ?_)
        refine ic_0 hx hb dX12_gap_39 ?_
        refine lv_istore (lv' := [(8, .int 0), (7, .int 0), (6, .int 0), (5, .int (-1)), (4, .int 0), (0, .ref (a 66)), (1, .int p0), (2, .int p1), (3, .int p2)]) hx hb dX12_gap_40 hl (lt_b rfl) rfl (fun ls hl => ?_)
        have qc_34 : ((-1) : Int32).toInt = (-1) := rfl
        have qc_35 : (0 : Int32).toInt = 0 := rfl
        refine loop_N (Inv := fun n H locs ls => ∃ (G_24 : GS) (x_28 : Int32) (x_29 : Int32) (x_30 : Int32) (x_31 : Int32) (x_32 : Int32), (n : Int) = 400 - x_28.toInt ∧ (0 ≤ x_28.toInt ∧ x_28.toInt ≤ 400) ∧ (x_31.toInt ≤ 400) ∧ (0 ≤ x_32.toInt) ∧ Rc (St_n_gap_1 p0 p1) (0, 0, 0, (-1), 0, G_18) (x_28, x_29, x_30, x_31, x_32, G_24) ∧ Wd D k A a G_24 H ∧ Bd G_24 ∧ Fr [76] [] G G_24 ∧ Fr [76] [] G_18 G_24 ∧ va_S A s.heap H locs ∧ lv_has ls 10 [(8, .int x_28), (7, .int x_29), (6, .int x_30), (5, .int x_31), (4, .int x_32), (0, .ref (a 66)), (1, .int p0), (2, .int p1), (3, .int p2)]) (fun n_27 H locs ls ih_26 hI => ?_) (400 - 0 : Int).toNat ⟨G_18, 0, 0, 0, (-1), 0, (Int.toNat_of_nonneg ((by first | (clear hP9 f_6 hp_4 c_7 f_13 hp_11 c_14 f_22 d_1 d_2 c_23; omega) | omega))), ⟨(by first | (clear hP9 f_6 hp_4 c_7 f_13 hp_11 c_14 f_22 d_1 d_2 c_23; omega) | omega), (by first | (clear hP9 f_6 hp_4 c_7 f_13 hp_11 c_14 f_22 d_1 d_2 c_23; omega) | omega)⟩, ((by first | (clear hP9 f_6 hp_4 c_7 f_13 hp_11 c_14 f_22 d_1 d_2 c_23; omega) | omega)), ((by first | (clear hP9 f_6 hp_4 c_7 f_13 hp_11 c_14 f_22 d_1 d_2 c_23; omega) | omega)), Rc.rf, hW, hB_G_18, hF, Fr.rf, hS, lv_sub hl [0, 1, 2, 3, 4, 5, 6, 7, 8] rfl⟩
        obtain ⟨G_24, x_28, x_29, x_30, x_31, x_32, hn_39, f_36, f_37, f_38, hX_33, hW, hB_G_24, hF, hq_25, hS, hl⟩ := hI
        refine lv_iload hx hb dX12_gap_42 (lv_at hl 0 rfl) ?_
        refine lv_aload_n hx hb dX12_gap_44 rfl (lv_at hl 5 rfl) ?_
        refine S_getR (n := 91) (C := RX12) (T := TX12) (N := 89) hx hb hg iX12 hown hK hW kd_66 rfl 39 (lt_b rfl) (hg (Cond.fieldLink RX12 87 "SlabWalkModel" "lengths" "[I") m1353) (fun _ h9 => h9) rfl dX12_gap_45 ?_
        refine lv_iload_n hx hb dX12_gap_48 rfl (lv_at hl 6 rfl) ?_
        refine S_iald hx hb hK hW kd_91 (vin ((by first | (clear hP9 f_13 hp_11 c_14 f_22 d_1 d_2 c_23 hn_39 f_36 f_37 f_38; omega) | omega)) ((by first | (clear hP9 f_13 hp_11 c_14 f_22 d_1 d_2 c_23 hn_39 f_36 f_37 f_38; omega) | omega))) dX12_gap_49 (fun y_40 ey_40 => ?_)
        have ty_40 : 0 ≤ y_40.toInt ∧ y_40.toInt ≤ 400 := bv_91 hB_G_24 ey_40
        refine lv_icmp_ge (tgt := 117) hx hb dX12_gap_50 rfl (fun c_41 => ?_) (fun c_41 => ?_)
        · have c_41 : y_40.toInt ≤ x_28.toInt := xI_le rfl rfl c_41
          refine lv_iload_n hx hb dX12_gap_117 rfl (lv_at hl 8 rfl) ?_
          refine lv_if_ne (tgt := 126) hx hb dX12_gap_118 rfl (fun c_42 => ?_) (fun c_42 => ?_)
          · have c_42 : p2.toInt ≠ 0 := xI_ne rfl rfl c_42
            refine lv_iload_n hx hb dX12_gap_126 rfl (lv_at hl 8 rfl) ?_
            refine ic_1 hx hb dX12_gap_127 ?_
            refine lv_icmp_ne (tgt := 136) hx hb dX12_gap_128 rfl (fun c_43 => ?_) (fun c_43 => ?_)
            · have c_43 : p2.toInt ≠ 1 := xI_ne rfl rfl c_43
              refine lv_iload hx hb dX12_gap_136 (lv_at hl 1 rfl) ?_
              exact W.iret (v := x_29) hx hb hr (fun t ht _ => ⟨⟨x_29, G_24, rfl, (Q_gap_mk ⟨hB_G_24, hF, ⟨r_1, G_2, hX_5, (Or.inr ⟨c_7, ⟨r_8, G_9, hX_12, (Or.inr ⟨c_14, ⟨r_17, G_18, hX_21, (Or.inr ⟨c_23, ⟨x_28, x_29, x_30, x_31, x_32, G_24, hX_33, f_36, f_37, f_38, hB_G_24, hq_25, ⟨y_40, ey_40, ⟨c_41, (Or.inr ⟨c_42, (Or.inr ⟨c_43, ⟨rfl, rfl⟩⟩)⟩)⟩⟩⟩⟩)⟩⟩)⟩⟩)⟩⟩), wd_t ht hW⟩, hS.F ht⟩) hS.2.2 dX12_gap_138
            · have c_43 : p2.toInt = 1 := xI_eq rfl rfl c_43
              refine lv_iload hx hb dX12_gap_131 (lv_at hl 3 rfl) ?_
              refine lv_goto (tgt := 138) hx hb dX12_gap_133 rfl ?_
              exact W.iret (v := x_31) hx hb hr (fun t ht _ => ⟨⟨x_31, G_24, rfl, (Q_gap_mk ⟨hB_G_24, hF, ⟨r_1, G_2, hX_5, (Or.inr ⟨c_7, ⟨r_8, G_9, hX_12, (Or.inr ⟨c_14, ⟨r_17, G_18, hX_21, (Or.inr ⟨c_23, ⟨x_28, x_29, x_30, x_31, x_32, G_24, hX_33, f_36, f_37, f_38, hB_G_24, hq_25, ⟨y_40, ey_40, ⟨c_41, (Or.inr ⟨c_42, (Or.inl ⟨c_43, ⟨rfl, rfl⟩⟩)⟩)⟩⟩⟩⟩)⟩⟩)⟩⟩)⟩⟩), wd_t ht hW⟩, hS.F ht⟩) hS.2.2 dX12_gap_138
          · have c_42 : p2.toInt = 0 := xI_eq rfl rfl c_42
            refine lv_iload hx hb dX12_gap_121 (lv_at hl 4 rfl) ?_
            refine lv_goto (tgt := 138) hx hb dX12_gap_123 rfl ?_
            exact W.iret (v := x_32) hx hb hr (fun t ht _ => ⟨⟨x_32, G_24, rfl, (Q_gap_mk ⟨hB_G_24, hF, ⟨r_1, G_2, hX_5, (Or.inr ⟨c_7, ⟨r_8, G_9, hX_12, (Or.inr ⟨c_14, ⟨r_17, G_18, hX_21, (Or.inr ⟨c_23, ⟨x_28, x_29, x_30, x_31, x_32, G_24, hX_33, f_36, f_37, f_38, hB_G_24, hq_25, ⟨y_40, ey_40, ⟨c_41, (Or.inl ⟨c_42, ⟨rfl, rfl⟩⟩)⟩⟩⟩⟩)⟩⟩)⟩⟩)⟩⟩), wd_t ht hW⟩, hS.F ht⟩) hS.2.2 dX12_gap_138
        · have c_41 : x_28.toInt < y_40.toInt := xI_nle rfl rfl c_41
          refine lv_aload_n hx hb dX12_gap_53 rfl (lv_at hl 5 rfl) ?_
          refine lv_iload_n hx hb dX12_gap_54 rfl (lv_at hl 6 rfl) ?_
          refine lv_iload_n hx hb dX12_gap_55 rfl (lv_at hl 7 rfl) ?_
          refine lv_iload hx hb dX12_gap_56 (lv_at hl 0 rfl) ?_
          have fr_44 : Fr [76] [] G G_24 := (Fr.call9 (rs := [76]) (fs := []) (Fr.call9 (rs := [76]) (fs := []) (Fr.call9 (rs := [76]) (fs := []) (Fr.call9 (rs := [76]) (fs := []) Fr.rf hq_3 rfl rfl) hq_10 rfl rfl) hq_19 rfl rfl) hq_25 rfl rfl)
          have g_45 : gP G_24 = gP G := gP_fr fr_44 (gr_q rfl) (gf_q rfl)
          refine S_calli (va_runV (As := [.int p0, .int p1, .int x_28]) (rest := []) ⟨hx, hb, hml, hown, hts⟩ (n_isLine l D k A a z G_24 p0 p1 x_28 ⟨(by first | (clear hP9 f_13 hp_11 c_14 f_22 d_1 d_2 c_23 hn_39 f_36 f_37 f_38 ty_40 c_41 g_45; omega) | omega), (by first | (clear hP9 f_13 hp_11 c_14 f_22 d_1 d_2 c_23 hn_39 f_36 f_37 f_38 ty_40 c_41 g_45; omega) | omega)⟩ ⟨(by first | (clear hP9 f_6 hp_4 c_7 f_13 hp_11 c_14 f_22 d_1 d_2 c_23 hn_39 f_37 f_38 g_45; omega) | omega), (by first | (clear hP9 f_6 hp_4 c_7 f_13 hp_11 c_14 f_22 d_1 d_2 c_23 hn_39 f_37 f_38 g_45; omega) | omega)⟩ ((by first | (clear f_6 hp_4 c_7 f_13 hp_11 c_14 f_22 d_1 d_2 c_23 hn_39 f_36 f_37 f_38 ty_40 c_41; omega) | omega))) (cwV 3 hts (gd_V hgd m1803 m1805 m86 m131 m1806) rfl rfl rfl hd_X12_isLine ⟨Nat.le_of_ble_eq_true rfl, Nat.le_of_ble_eq_true rfl⟩) (pre_W hW hB_G_24 hK hZ hS kd_66 rfl) rfl rfl hl.1 rfl (lv_room (Nat.le_of_ble_eq_true rfl)) dX12_gap_58 ⟨Nat.le_of_ble_eq_true rfl, Nat.le_of_ble_eq_true rfl⟩) hS (fun r_46 G_47 H locs hpo hW hS => ?_)
          have hX_50 : Q_isLine p0 p1 x_28 G_24 r_46 G_47 := hpo
          obtain ⟨hB_G_47, hq_48, f_51, -⟩ := hpo
          have hF := hF.call9 hq_48 rfl rfl
          refine lv_istore (lv' := [(9, .int r_46), (8, .int x_28), (7, .int x_29), (6, .int x_30), (5, .int x_31), (4, .int x_32), (0, .ref (a 66)), (1, .int p0), (2, .int p1), (3, .int p2)]) hx hb dX12_gap_61 hl (lt_b rfl) rfl (fun ls hl => ?_)
          refine lv_iload hx hb dX12_gap_63 (lv_at hl 2 rfl) ?_
          refine lv_iload hx hb dX12_gap_65 (lv_at hl 0 rfl) ?_
          refine S_calli (va_runS (As := [.int r_46]) (rest := [.int x_29]) ⟨hx, hb, hml, hown, hts⟩ (n_truth l D k A a z G_47 r_46 ⟨(by first | (clear hP9 f_6 hp_4 c_7 f_13 hp_11 c_14 f_22 d_1 d_2 c_23 hn_39 f_36 f_37 f_38 ty_40 c_41 g_45; omega) | omega), (by first | (clear hP9 f_6 hp_4 c_7 f_13 hp_11 c_14 f_22 d_1 d_2 c_23 hn_39 f_36 f_37 f_38 ty_40 c_41 g_45; omega) | omega)⟩) (va_cwS 1 hts (gd_S hgd m1788 m1789 m131 m1790) rfl rfl rfl hd_X12_truth.2 ⟨Nat.le_of_ble_eq_true rfl, Nat.le_of_ble_eq_true rfl⟩) (pre_S hW hB_G_47 hK hZ hS) rfl rfl hl.1 rfl (lv_room (Nat.le_of_ble_eq_true rfl)) dX12_gap_67 ⟨Nat.le_of_ble_eq_true rfl, Nat.le_of_ble_eq_true rfl⟩) hS (fun r_52 G_53 H locs hpo hW hS => ?_)
          have hX_56 : Q_truth r_46 G_47 r_52 G_53 := hpo
          obtain ⟨hB_G_53, hq_54, f_57, hp_55, -⟩ := hpo
          have hF := hF.call9 hq_54 rfl rfl
          refine lv_iadd hx hb dX12_gap_70 ?_
          refine lv_topi (fun y_58 ey_58 => ?_)
          refine lv_istore (lv' := [(7, .int y_58), (9, .int r_46), (8, .int x_28), (6, .int x_30), (5, .int x_31), (4, .int x_32), (0, .ref (a 66)), (1, .int p0), (2, .int p1), (3, .int p2)]) hx hb dX12_gap_71 hl (lt_b rfl) rfl (fun ls hl => ?_)
          refine lv_iload hx hb dX12_gap_73 (lv_at hl 1 rfl) ?_
          refine W.cut (σ := Int32) (pcJ := 86) (J := fun y H locs ls => ∃ (G_68 : GS) (x_59 : Int32), Jn_n_gap_2 r_46 x_30 y_58 G_53 x_59 y G_68 ∧ Wd D k A a G_68 H ∧ Bd G_68 ∧ Fr [76] [] G G_68 ∧ Fr [] [] G_53 G_68 ∧ va_S A s.heap H locs ∧ lv_has ls 10 [(7, .int x_59), (8, .int x_28), (5, .int x_31), (4, .int x_32), (0, .ref (a 66)), (1, .int p0), (2, .int p1), (3, .int p2)]) (stJ := fun y => [.int y]) ?_ (fun hJ_69 => ?_)
          · intro y H locs ls hI
            obtain ⟨w_67, hy⟩ : ∃ q, q = y := ⟨_, rfl⟩
            subst hy
            obtain ⟨G_68, x_59, hX_71, hW, hB_G_68, hF, hq_70, hS, hl⟩ := hI
            refine lv_istore (lv' := [(6, .int w_67), (7, .int x_59), (8, .int x_28), (5, .int x_31), (4, .int x_32), (0, .ref (a 66)), (1, .int p0), (2, .int p1), (3, .int p2)]) hx hb dX12_gap_86 hl (lt_b rfl) rfl (fun ls hl => ?_)
            refine lv_iload hx hb dX12_gap_88 (lv_at hl 0 rfl) ?_
            refine lv_iload hx hb dX12_gap_90 (lv_at hl 4 rfl) ?_
            refine lv_icmp_gt (tgt := 98) hx hb dX12_gap_92 rfl (fun c_72 => ?_) (fun c_72 => ?_)
            · have c_72 : x_32.toInt < w_67.toInt := xI_lt rfl rfl c_72
              refine lv_iload hx hb dX12_gap_98 (lv_at hl 0 rfl) ?_
              refine lv_istore (lv' := [(4, .int w_67), (6, .int w_67), (7, .int x_59), (8, .int x_28), (5, .int x_31), (0, .ref (a 66)), (1, .int p0), (2, .int p1), (3, .int p2)]) hx hb dX12_gap_100 hl (lt_b rfl) rfl (fun ls hl => ?_)
              refine lv_iload hx hb dX12_gap_102 (lv_at hl 3 rfl) ?_
              refine lv_iload hx hb dX12_gap_104 (lv_at hl 1 rfl) ?_
              refine lv_isub hx hb dX12_gap_106 ?_
              refine lv_topi (fun y_73 ey_73 => ?_)
              have e_74 := tI_rng w_67
              have ty_73 : y_73.toInt = x_28.toInt - w_67.toInt := xI_sub rfl rfl ey_73 ((by first | (clear hP9 f_6 hp_4 c_7 f_13 hp_11 c_14 f_22 d_1 d_2 c_23 hn_39 f_37 g_45 f_51 f_57 hp_55; omega) | omega)) ((by first | (clear hP9 f_6 hp_4 c_7 f_13 hp_11 c_14 f_22 d_1 d_2 c_23 hn_39 f_37 g_45 f_51 f_57 hp_55; omega) | omega))
              refine ic_1 hx hb dX12_gap_107 ?_
              refine lv_iadd hx hb dX12_gap_108 ?_
              refine lv_topi (fun y_75 ey_75 => ?_)
              have e_76 := tI_rng y_73
              have ty_75 : y_75.toInt = y_73.toInt + 1 := xI_add rfl rfl ey_75 ((by first | (clear hP9 f_6 hp_4 c_7 f_13 hp_11 c_14 f_22 d_1 d_2 c_23 hn_39 f_37 g_45 f_51 f_57 hp_55; omega) | omega)) ((by first | (clear hP9 f_6 hp_4 c_7 f_13 hp_11 c_14 f_22 d_1 d_2 c_23 hn_39 f_37 g_45 f_51 f_57 hp_55; omega) | omega))
              refine lv_istore (lv' := [(5, .int y_75), (4, .int w_67), (6, .int w_67), (7, .int x_59), (8, .int x_28), (0, .ref (a 66)), (1, .int p0), (2, .int p1), (3, .int p2)]) hx hb dX12_gap_109 hl (lt_b rfl) rfl (fun ls hl => ?_)
              obtain ⟨y_77, ey_77⟩ : ∃ q, q = x_28 + 1 := ⟨_, rfl⟩
              have ty_77 : y_77.toInt = x_28.toInt + 1 := xI_add rfl rfl ey_77 ((by first | (clear hP9 f_6 hp_4 c_7 f_13 hp_11 c_14 f_22 d_1 d_2 c_23 hn_39 f_37 g_45 f_51 f_57 hp_55; omega) | omega)) ((by first | (clear hP9 f_6 hp_4 c_7 f_13 hp_11 c_14 f_22 d_1 d_2 c_23 hn_39 f_37 g_45 f_51 f_57 hp_55; omega) | omega))
              refine lv_iinc (v := y_77) (lv' := [(8, .int y_77), (5, .int y_75), (4, .int w_67), (6, .int w_67), (7, .int x_59), (0, .ref (a 66)), (1, .int p0), (2, .int p1), (3, .int p2)]) hx hb dX12_gap_111 hl (k := 4) rfl (by rw [ey_77]; rfl) (lt_b rfl) rfl (fun ls hl => ?_)
              refine lv_goto (tgt := 42) hx hb dX12_gap_114 rfl ?_
              exact ih_26 (400 - y_77.toInt : Int).toNat ((by first | (clear hP9 f_6 hp_4 c_7 f_13 hp_11 c_14 f_22 d_1 d_2 c_23 f_37 g_45 f_51 f_57 hp_55; omega) | omega)) _ _ _ ⟨G_68, y_77, x_59, w_67, y_75, w_67, (Int.toNat_of_nonneg ((by first | (clear hP9 f_6 hp_4 c_7 f_13 hp_11 c_14 f_22 d_1 d_2 c_23 hn_39 f_37 g_45 f_51 f_57 hp_55; omega) | omega))), ⟨(by first | (clear hP9 f_6 hp_4 c_7 f_13 hp_11 c_14 f_22 d_1 d_2 c_23 hn_39 f_37 g_45 f_51 f_57 hp_55; omega) | omega), (by first | (clear hP9 f_6 hp_4 c_7 f_13 hp_11 c_14 f_22 d_1 d_2 c_23 hn_39 f_37 g_45 f_51 f_57 hp_55; omega) | omega)⟩, ((by first | (clear hP9 f_6 hp_4 c_7 f_13 hp_11 c_14 f_22 d_1 d_2 c_23 hn_39 f_37 g_45 f_51 f_57 hp_55; omega) | omega)), ((by first | (clear hP9 f_6 hp_4 c_7 f_13 hp_11 c_14 f_22 d_1 d_2 c_23 hn_39 f_37 g_45 f_51 f_57 hp_55; omega) | omega)), (hX_33.st (St_n_gap_1_mk ⟨x_28, x_29, x_30, x_31, x_32, G_24, y_77, x_59, w_67, y_75, w_67, G_68, rfl, rfl, f_36, f_37, f_38, hB_G_24, ⟨y_40, ey_40, ⟨c_41, ⟨r_46, G_47, hX_50, ⟨r_52, G_53, hX_56, ⟨y_58, ey_58, ⟨x_59, w_67, G_68, hX_71, hB_G_68, hq_70, (Or.inl ⟨c_72, ⟨y_73, ty_73, ⟨y_75, ty_75, ⟨y_77, ty_77, ⟨rfl, rfl, rfl, rfl, rfl, rfl⟩⟩⟩⟩⟩)⟩⟩⟩⟩⟩⟩⟩)), hW, hB_G_68, hF, (Fr.call9 (rs := [76]) (fs := []) (Fr.call9 (rs := [76]) (fs := []) (Fr.call9 (rs := [76]) (fs := []) (Fr.call9 (rs := [76]) (fs := []) Fr.rf hq_25 rfl rfl) hq_48 rfl rfl) hq_54 rfl rfl) hq_70 rfl rfl), hS, lv_sub hl [0, 4, 3, 1, 2, 5, 6, 7, 8] rfl⟩
            · have c_72 : w_67.toInt ≤ x_32.toInt := xI_nlt rfl rfl c_72
              refine lv_goto (tgt := 111) hx hb dX12_gap_95 rfl ?_
              obtain ⟨y_78, ey_78⟩ : ∃ q, q = x_28 + 1 := ⟨_, rfl⟩
              have ty_78 : y_78.toInt = x_28.toInt + 1 := xI_add rfl rfl ey_78 ((by first | (clear hP9 f_6 hp_4 c_7 f_13 hp_11 c_14 f_22 d_1 d_2 c_23 hn_39 f_37 f_38 g_45 f_51 f_57 hp_55 c_72; omega) | omega)) ((by first | (clear hP9 f_6 hp_4 c_7 f_13 hp_11 c_14 f_22 d_1 d_2 c_23 hn_39 f_37 f_38 g_45 f_51 f_57 hp_55 c_72; omega) | omega))
              refine lv_iinc (v := y_78) (lv' := [(8, .int y_78), (6, .int w_67), (7, .int x_59), (5, .int x_31), (4, .int x_32), (0, .ref (a 66)), (1, .int p0), (2, .int p1), (3, .int p2)]) hx hb dX12_gap_111 hl (k := 2) rfl (by rw [ey_78]; rfl) (lt_b rfl) rfl (fun ls hl => ?_)
              refine lv_goto (tgt := 42) hx hb dX12_gap_114 rfl ?_
              exact ih_26 (400 - y_78.toInt : Int).toNat ((by first | (clear hP9 f_6 hp_4 c_7 f_13 hp_11 c_14 f_22 d_1 d_2 c_23 f_37 f_38 g_45 f_51 f_57 hp_55 c_72; omega) | omega)) _ _ _ ⟨G_68, y_78, x_59, w_67, x_31, x_32, (Int.toNat_of_nonneg ((by first | (clear hP9 f_6 hp_4 c_7 f_13 hp_11 c_14 f_22 d_1 d_2 c_23 hn_39 f_37 f_38 g_45 f_51 f_57 hp_55 c_72; omega) | omega))), ⟨(by first | (clear hP9 f_6 hp_4 c_7 f_13 hp_11 c_14 f_22 d_1 d_2 c_23 hn_39 f_37 f_38 g_45 f_51 f_57 hp_55 c_72; omega) | omega), (by first | (clear hP9 f_6 hp_4 c_7 f_13 hp_11 c_14 f_22 d_1 d_2 c_23 hn_39 f_37 f_38 g_45 f_51 f_57 hp_55 c_72; omega) | omega)⟩, ((by first | (clear hP9 f_6 hp_4 c_7 f_13 hp_11 c_14 f_22 d_1 d_2 c_23 hn_39 f_36 f_38 ty_40 c_41 g_45 f_51 f_57 hp_55 c_72 ty_78; omega) | omega)), ((by first | (clear hP9 f_6 hp_4 c_7 f_13 hp_11 c_14 f_22 d_1 d_2 c_23 hn_39 f_36 f_37 ty_40 c_41 g_45 f_51 f_57 hp_55 ty_78; omega) | omega)), (hX_33.st (St_n_gap_1_mk ⟨x_28, x_29, x_30, x_31, x_32, G_24, y_78, x_59, w_67, x_31, x_32, G_68, rfl, rfl, f_36, f_37, f_38, hB_G_24, ⟨y_40, ey_40, ⟨c_41, ⟨r_46, G_47, hX_50, ⟨r_52, G_53, hX_56, ⟨y_58, ey_58, ⟨x_59, w_67, G_68, hX_71, hB_G_68, hq_70, (Or.inr ⟨c_72, ⟨y_78, ty_78, ⟨rfl, rfl, rfl, rfl, rfl, rfl⟩⟩⟩)⟩⟩⟩⟩⟩⟩⟩)), hW, hB_G_68, hF, (Fr.call9 (rs := [76]) (fs := []) (Fr.call9 (rs := [76]) (fs := []) (Fr.call9 (rs := [76]) (fs := []) (Fr.call9 (rs := [76]) (fs := []) Fr.rf hq_25 rfl rfl) hq_48 rfl rfl) hq_54 rfl rfl) hq_70 rfl rfl), hS, lv_sub hl [0, 2, 1, 3, 4, 5, 6, 7, 8] rfl⟩
          refine lv_if_eq (tgt := 82) hx hb dX12_gap_75 rfl (fun c_79 => ?_) (fun c_79 => ?_)
          · have c_79 : r_46.toInt = 0 := xI_eq rfl rfl c_79
            refine lv_iload hx hb dX12_gap_82 (lv_at hl 3 rfl) ?_
            refine ic_1 hx hb dX12_gap_84 ?_
            refine lv_iadd hx hb dX12_gap_85 ?_
            refine lv_topi (fun y_80 ey_80 => ?_)
            exact hJ_69 y_80 _ _ _ ⟨G_53, y_58, (Jn_n_gap_2_mk (Or.inl ⟨c_79, ⟨y_80, ey_80, ⟨rfl, rfl, rfl⟩⟩⟩)), hW, hB_G_53, hF, (Fr.rf (rs := []) (fs := [])), hS, lv_sub hl [0, 2, 4, 5, 6, 7, 8, 9] rfl⟩
          · have c_79 : r_46.toInt ≠ 0 := xI_ne rfl rfl c_79
            refine ic_0 hx hb dX12_gap_78 ?_
            refine lv_goto (tgt := 86) hx hb dX12_gap_79 rfl ?_
            have qc_81 : (0 : Int32).toInt = 0 := rfl
            exact hJ_69 0 _ _ _ ⟨G_53, y_58, (Jn_n_gap_2_mk (Or.inr ⟨c_79, ⟨rfl, rfl, rfl⟩⟩)), hW, hB_G_53, hF, (Fr.rf (rs := []) (fs := [])), hS, lv_sub hl [0, 2, 4, 5, 6, 7, 8, 9] rfl⟩
      · have c_23 : r_17.toInt = 0 := xI_eq rfl rfl c_23
        refine ic_m1 hx hb dX12_gap_25 ?_
        exact W.iret (v := (-1)) hx hb hr (fun t ht _ => ⟨⟨(-1), G_18, rfl, (Q_gap_mk ⟨hB_G_18, hF, ⟨r_1, G_2, hX_5, (Or.inr ⟨c_7, ⟨r_8, G_9, hX_12, (Or.inr ⟨c_14, ⟨r_17, G_18, hX_21, (Or.inl ⟨c_23, ⟨rfl, rfl⟩⟩)⟩⟩)⟩⟩)⟩⟩), wd_t ht hW⟩, hS.F ht⟩) hS.2.2 dX12_gap_26

set_option maxHeartbeats 4000000 in
set_option maxRecDepth 100000 in
theorem n_foot (l : Launch) (D : va_G) (k : KT) (A : Nat → Prop) (a : Nat → Nat) (z : SK) (G : GS) (p0 : Int32) (p1 : Int32) (p2 : Int32) (p3 : Int32) (hP9 : gP G = 1) : Met l yX12_foot (WS yX12_foot cX12_foot 5 (some .int)) ({ frames := 5, cells := 0, slots := 0, locals := 117 }) (va_Pc [.ref (a 66), .int p0, .int p1, .int p2, .int p3] (cW D k A a z G)) (va_Qi (fun (r : Int32) (G1 : GS) => Q_foot p0 p1 p2 p3 G r G1) (fun (G1 : GS) t => Wd D k A a G1 t.heap) A) 0 0 A := by
  refine Met.ofW (cc := cX12_foot) (maxL := 5) (ret := (some .int)) (by decide) rfl ?_
  intro p e s m args below meth c s₁ B hml hv
  obtain ⟨rfl, hW, hB_G, hK, hZ⟩ := hv
  have hx := B.exec
  have hb := B.bytes
  have hr := B.returns
  have hts := atoms_spec (ws := WS yX12_foot cX12_foot 5 (some .int)) B.pre
  have hgd : ∀ w ∈ gd, w ∈ WS yX12_foot cX12_foot 5 (some .int) := fun w h => List.mem_cons_of_mem _ h
  have hg : ∀ w ∈ gd, w.before _ s = true := fun w h => hts w (hgd w h)
  have hown : s.vm.findClass RX12 = some m.cls := findClass_of_methodNamed B.named
  have hS : va_S A s.heap s.heap [] := va_S.rf
  have hF : Fr [76, 97, 98] [(66, 59), (66, 60), (66, 61), (66, 62), (66, 63)] G G := Fr.rf
  have hl := lv_entry ([.ref (a 66), .int p0, .int p1, .int p2, .int p3]) (n := 5) (Nat.le_of_ble_eq_true rfl)
  rw [lg_entry_eq]
  generalize (lg_sl ([.ref (a 66), .int p0, .int p1, .int p2, .int p3]) ++ List.replicate (5 - (lg_sl ([.ref (a 66), .int p0, .int p1, .int p2, .int p3])).length) Slot.unset).toArray = ls at hl ⊢
  have hl : lv_has ls 5 [(0, .ref (a 66)), (1, .int p0), (2, .int p1), (3, .int p2), (4, .int p3)] := hl
  refine lv_aload_n hx hb dX12_foot_0 rfl (lv_at hl 0 rfl) ?_
  refine lv_iload_n hx hb dX12_foot_1 rfl (lv_at hl 1 rfl) ?_
  refine lv_iload_n hx hb dX12_foot_2 rfl (lv_at hl 2 rfl) ?_
  refine lv_iload_n hx hb dX12_foot_3 rfl (lv_at hl 3 rfl) ?_
  refine S_calli (va_runV (As := [.int p0, .int p1, .int p2]) (rest := []) ⟨hx, hb, hml, hown, hts⟩ (n_isAsked l D k A a z G p0 p1 p2 ) (cwV 3 hts (gd_V hgd m1826 m1828 m89 m131 m1829) rfl rfl rfl hd_X12_isAsked ⟨Nat.le_of_ble_eq_true rfl, Nat.le_of_ble_eq_true rfl⟩) (pre_W hW hB_G hK hZ hS kd_66 rfl) rfl rfl hl.1 rfl (lv_room (Nat.le_of_ble_eq_true rfl)) dX12_foot_4 ⟨Nat.le_of_ble_eq_true rfl, Nat.le_of_ble_eq_true rfl⟩) hS (fun r_1 G_2 H locs hpo hW hS => ?_)
  have hX_5 : Q_isAsked p0 p1 p2 G r_1 G_2 := hpo
  obtain ⟨hB_G_2, hq_3, f_6, hp_4, -⟩ := hpo
  have hF := hF.call9 hq_3 rfl rfl
  refine lv_if_eq (tgt := 20) hx hb dX12_foot_7 rfl (fun c_7 => ?_) (fun c_7 => ?_)
  · have c_7 : r_1.toInt = 0 := xI_eq rfl rfl c_7
    refine ic_m1 hx hb dX12_foot_20 ?_
    exact W.iret (v := (-1)) hx hb hr (fun t ht _ => ⟨⟨(-1), G_2, rfl, (Q_foot_mk ⟨hB_G_2, hF, ⟨r_1, G_2, hX_5, (Or.inl ⟨c_7, ⟨rfl, rfl⟩⟩)⟩⟩), wd_t ht hW⟩, hS.F ht⟩) hS.2.2 dX12_foot_21
  · have c_7 : r_1.toInt ≠ 0 := xI_ne rfl rfl c_7
    refine lv_aload_n hx hb dX12_foot_10 rfl (lv_at hl 0 rfl) ?_
    refine lv_iload_n hx hb dX12_foot_11 rfl (lv_at hl 2 rfl) ?_
    refine lv_iload hx hb dX12_foot_12 (lv_at hl 4 rfl) ?_
    refine S_calli (va_runV (As := [.int p1, .int p3]) (rest := []) ⟨hx, hb, hml, hown, hts⟩ (n_isInch l D k A a z G_2 p1 p3 ⟨by omega, by omega⟩) (cwV 2 hts (gd_V hgd m1784 m1786 m84 m131 m1787) rfl rfl rfl hd_X12_isInch ⟨Nat.le_of_ble_eq_true rfl, Nat.le_of_ble_eq_true rfl⟩) (pre_W hW hB_G_2 hK hZ hS kd_66 rfl) rfl rfl hl.1 rfl (lv_room (Nat.le_of_ble_eq_true rfl)) dX12_foot_14 ⟨Nat.le_of_ble_eq_true rfl, Nat.le_of_ble_eq_true rfl⟩) hS (fun r_8 G_9 H locs hpo hW hS => ?_)
    have hX_12 : Q_isInch p1 p3 G_2 r_8 G_9 := hpo
    obtain ⟨hB_G_9, hq_10, f_13, hp_11, -⟩ := hpo
    have hF := hF.call9 hq_10 rfl rfl
    refine lv_if_ne (tgt := 22) hx hb dX12_foot_17 rfl (fun c_14 => ?_) (fun c_14 => ?_)
    · have c_14 : r_8.toInt ≠ 0 := xI_ne rfl rfl c_14
      refine lv_aload_n hx hb dX12_foot_22 rfl (lv_at hl 0 rfl) ?_
      refine lv_iload_n hx hb dX12_foot_23 rfl (lv_at hl 1 rfl) ?_
      refine lv_iload_n hx hb dX12_foot_24 rfl (lv_at hl 2 rfl) ?_
      refine lv_iload_n hx hb dX12_foot_25 rfl (lv_at hl 3 rfl) ?_
      have fr_15 : Fr [] [] G G_9 := (Fr.call9 (rs := []) (fs := []) (Fr.call9 (rs := []) (fs := []) Fr.rf hq_3 rfl rfl) hq_10 rfl rfl)
      have g_16 : gP G_9 = gP G := gP_fr fr_15 (gr_q rfl) (gf_q rfl)
      refine S_callv (va_runV (As := [.int p0, .int p1, .int p2]) (rest := []) ⟨hx, hb, hml, hown, hts⟩ (n_layStreet l D k A a z G_9 p0 p1 p2 ⟨(by first | (clear hP9 f_13 hp_11 c_14 g_16; omega) | omega), (by first | (clear hP9 f_13 hp_11 c_14 g_16; omega) | omega)⟩ ⟨(by first | (clear hP9 f_13 hp_11 c_14 g_16; omega) | omega), (by first | (clear hP9 f_13 hp_11 c_14 g_16; omega) | omega)⟩ ((by first | (clear f_6 hp_4 c_7 f_13 hp_11 c_14; omega) | omega))) (cwV 3 hts (gd_V hgd m1834 m1836 m91 m131 m1837) rfl rfl rfl hd_X12_layStreet ⟨Nat.le_of_ble_eq_true rfl, Nat.le_of_ble_eq_true rfl⟩) (pre_W hW hB_G_9 hK hZ hS kd_66 rfl) rfl rfl hl.1 rfl (lv_room (Nat.le_of_ble_eq_true rfl)) dX12_foot_26 ⟨Nat.le_of_ble_eq_true rfl, Nat.le_of_ble_eq_true rfl⟩) hS (fun G_18 H locs hpo hW hS => ?_)
      have hX_21 : Q_layStreet p0 p1 p2 G_9 G_18 := hpo
      obtain ⟨hB_G_18, hq_19, ⟨d_1, d_2, d_3, d_4, d_5, d_6⟩, -⟩ := hpo
      have hF := hF.call9 hq_19 rfl rfl
      refine lv_aload_n hx hb dX12_foot_29 rfl (lv_at hl 0 rfl) ?_
      refine S_getR (n := 98) (C := RX12) (T := TX12) (N := 89) hx hb hg iX12 hown hK hW kd_66 rfl 58 (lt_b rfl) (hg (Cond.fieldLink RX12 115 "SlabWalkModel" "lawful" "[Z") m1372) (fun _ h9 => h9) rfl dX12_foot_30 ?_
      refine lv_iload hx hb dX12_foot_33 (lv_at hl 4 rfl) ?_
      refine S_zald hx hb hK hW kd_98 (vin ((by first | (clear hP9 f_6 hp_4 c_7 g_16 d_1 d_2 d_3 d_4 d_5 d_6; omega) | omega)) ((by first | (clear hP9 f_6 hp_4 c_7 g_16 d_1 d_2 d_3 d_4 d_5 d_6; omega) | omega))) dX12_foot_35 (fun y_22 ey_22 => ?_)
      have ty_22 := hB_G_18.law ey_22
      refine S_calli (va_runS (As := [.int y_22]) (rest := []) ⟨hx, hb, hml, hown, hts⟩ (n_truth l D k A a z G_18 y_22 ⟨(by first | (clear hP9 f_6 hp_4 c_7 f_13 hp_11 c_14 g_16 d_1 d_2 d_3 d_4 d_5 d_6; omega) | omega), (by first | (clear hP9 f_6 hp_4 c_7 f_13 hp_11 c_14 g_16 d_1 d_2 d_3 d_4 d_5 d_6; omega) | omega)⟩) (va_cwS 1 hts (gd_S hgd m1788 m1789 m131 m1790) rfl rfl rfl hd_X12_truth.2 ⟨Nat.le_of_ble_eq_true rfl, Nat.le_of_ble_eq_true rfl⟩) (pre_S hW hB_G_18 hK hZ hS) rfl rfl hl.1 rfl (lv_room (Nat.le_of_ble_eq_true rfl)) dX12_foot_36 ⟨Nat.le_of_ble_eq_true rfl, Nat.le_of_ble_eq_true rfl⟩) hS (fun r_23 G_24 H locs hpo hW hS => ?_)
      have hX_27 : Q_truth y_22 G_18 r_23 G_24 := hpo
      obtain ⟨hB_G_24, hq_25, f_28, hp_26, -⟩ := hpo
      have hF := hF.call9 hq_25 rfl rfl
      exact W.iret (v := r_23) hx hb hr (fun t ht _ => ⟨⟨r_23, G_24, rfl, (Q_foot_mk ⟨hB_G_24, hF, ⟨r_1, G_2, hX_5, (Or.inr ⟨c_7, ⟨r_8, G_9, hX_12, (Or.inr ⟨c_14, ⟨G_18, hX_21, ⟨y_22, ey_22, ⟨r_23, G_24, hX_27, ⟨rfl, rfl⟩⟩⟩⟩⟩)⟩⟩)⟩⟩), wd_t ht hW⟩, hS.F ht⟩) hS.2.2 dX12_foot_39
    · have c_14 : r_8.toInt = 0 := xI_eq rfl rfl c_14
      refine ic_m1 hx hb dX12_foot_20 ?_
      exact W.iret (v := (-1)) hx hb hr (fun t ht _ => ⟨⟨(-1), G_9, rfl, (Q_foot_mk ⟨hB_G_9, hF, ⟨r_1, G_2, hX_5, (Or.inr ⟨c_7, ⟨r_8, G_9, hX_12, (Or.inl ⟨c_14, ⟨rfl, rfl⟩⟩)⟩⟩)⟩⟩), wd_t ht hW⟩, hS.F ht⟩) hS.2.2 dX12_foot_21

theorem m97 : Cond.selects RX12 yX12_lay yX12_lay ∈ gd := gds_7 1 rfl
theorem m99 : Cond.selects RX12 yX12_isEven yX12_isEven ∈ gd := gds_7 3 rfl
theorem m100 : Cond.selects RX12 yX12_comesToEnd yX12_comesToEnd ∈ gd := gds_7 4 rfl
theorem m1866 : Cond.methodLink RX12 512 yX12_lay ∈ gd := gdc_8_4 6 rfl gw_methodLink
theorem m1868 : Cond.instanceMethod yX12_lay ∈ gd := gdc_8_4 8 rfl gw_instanceMethod
theorem m1869 : Cond.code yX12_lay cX12_lay 2 none ∈ gd := gdc_8_4 9 rfl gw_code
theorem m1887 : Cond.methodLink RX12 526 yX12_isEven ∈ gd := gdc_8_5 11 rfl gw_methodLink
theorem m1889 : Cond.instanceMethod yX12_isEven ∈ gd := gdc_8_5 13 rfl gw_instanceMethod
theorem m1890 : Cond.code yX12_isEven cX12_isEven 6 (some .boolean) ∈ gd := gdc_8_5 14 rfl gw_code
theorem m1899 : Cond.methodLink RX12 529 yX12_comesToEnd ∈ gd := gdc_8_6 7 rfl gw_methodLink
theorem m1901 : Cond.instanceMethod yX12_comesToEnd ∈ gd := gdc_8_6 9 rfl gw_instanceMethod
theorem m1902 : Cond.code yX12_comesToEnd cX12_comesToEnd 4 (some .boolean) ∈ gd := gdc_8_6 10 rfl gw_code
noncomputable def rbX12_comesToEnd_0 : List (Nat × List Nat) := [(0, [27]), (1, [62]), (2, [42]), (3, [180, 0, 115]), (6, [29]), (7, [51]), (8, [153, 0, 18]), (11, [42]), (12, [29]), (13, [182, 1, 243]), (16, [154, 0, 10]), (19, [29]), (20, [28]), (21, [96]), (22, [62]), (23, [167, 255, 235]), (26, [42]), (27, [180, 0, 115]), (30, [29]), (31, [51]), (32, [172])]
theorem rcX12_comesToEnd_0 : dgo (lb cX12_comesToEnd) 0 rbX12_comesToEnd_0 = true := by decide +kernel
theorem dX12_comesToEnd_0 : decode cX12_comesToEnd 0 = .ok (.iload_n 1, 1) := dk_27 (dw rcX12_comesToEnd_0 0 rfl)
theorem dX12_comesToEnd_1 : decode cX12_comesToEnd 1 = .ok (.istore_n 3, 1) := dk_62 (dw rcX12_comesToEnd_0 1 rfl)
theorem dX12_comesToEnd_2 : decode cX12_comesToEnd 2 = .ok (.aload_n 0, 1) := dk_42 (dw rcX12_comesToEnd_0 2 rfl)
theorem dX12_comesToEnd_3 : decode cX12_comesToEnd 3 = .ok (.getfield 115, 3) := dk_180 (dw rcX12_comesToEnd_0 3 rfl) rfl
theorem dX12_comesToEnd_6 : decode cX12_comesToEnd 6 = .ok (.iload_n 3, 1) := dk_29 (dw rcX12_comesToEnd_0 4 rfl)
theorem dX12_comesToEnd_7 : decode cX12_comesToEnd 7 = .ok (.baload, 1) := dk_51 (dw rcX12_comesToEnd_0 5 rfl)
theorem dX12_comesToEnd_8 : decode cX12_comesToEnd 8 = .ok (.ifCond .eq 18, 3) := dk_153 (dw rcX12_comesToEnd_0 6 rfl) rfl
theorem dX12_comesToEnd_11 : decode cX12_comesToEnd 11 = .ok (.aload_n 0, 1) := dk_42 (dw rcX12_comesToEnd_0 7 rfl)
theorem dX12_comesToEnd_12 : decode cX12_comesToEnd 12 = .ok (.iload_n 3, 1) := dk_29 (dw rcX12_comesToEnd_0 8 rfl)
theorem dX12_comesToEnd_13 : decode cX12_comesToEnd 13 = .ok (.invokevirtual 499, 3) := dk_182 (dw rcX12_comesToEnd_0 9 rfl) rfl
theorem dX12_comesToEnd_16 : decode cX12_comesToEnd 16 = .ok (.ifCond .ne 10, 3) := dk_154 (dw rcX12_comesToEnd_0 10 rfl) rfl
theorem dX12_comesToEnd_19 : decode cX12_comesToEnd 19 = .ok (.iload_n 3, 1) := dk_29 (dw rcX12_comesToEnd_0 11 rfl)
theorem dX12_comesToEnd_20 : decode cX12_comesToEnd 20 = .ok (.iload_n 2, 1) := dk_28 (dw rcX12_comesToEnd_0 12 rfl)
theorem dX12_comesToEnd_21 : decode cX12_comesToEnd 21 = .ok (.iadd, 1) := dk_96 (dw rcX12_comesToEnd_0 13 rfl)
theorem dX12_comesToEnd_22 : decode cX12_comesToEnd 22 = .ok (.istore_n 3, 1) := dk_62 (dw rcX12_comesToEnd_0 14 rfl)
theorem dX12_comesToEnd_23 : decode cX12_comesToEnd 23 = .ok (.goto (-21), 3) := dk_167 (dw rcX12_comesToEnd_0 15 rfl) rfl
theorem dX12_comesToEnd_26 : decode cX12_comesToEnd 26 = .ok (.aload_n 0, 1) := dk_42 (dw rcX12_comesToEnd_0 16 rfl)
theorem dX12_comesToEnd_27 : decode cX12_comesToEnd 27 = .ok (.getfield 115, 3) := dk_180 (dw rcX12_comesToEnd_0 17 rfl) rfl
theorem dX12_comesToEnd_30 : decode cX12_comesToEnd 30 = .ok (.iload_n 3, 1) := dk_29 (dw rcX12_comesToEnd_0 18 rfl)
theorem dX12_comesToEnd_31 : decode cX12_comesToEnd 31 = .ok (.baload, 1) := dk_51 (dw rcX12_comesToEnd_0 19 rfl)
theorem dX12_comesToEnd_32 : decode cX12_comesToEnd 32 = .ok (.ireturn, 1) := dk_172 (dw rcX12_comesToEnd_0 20 rfl)
noncomputable def rbX12_even_0 : List (Nat × List Nat) := [(0, [42]), (1, [27]), (2, [28]), (3, [29]), (4, [182, 1, 234]), (7, [153, 0, 24]), (10, [42]), (11, [28]), (12, [21, 4]), (14, [182, 1, 200]), (17, [153, 0, 14]), (20, [21, 5]), (22, [4]), (23, [16, 99]), (25, [184, 1, 193]), (28, [154, 0, 5]), (31, [2]), (32, [172]), (33, [42]), (34, [27]), (35, [28]), (36, [29]), (37, [182, 1, 237]), (40, [3])]
theorem rcX12_even_0 : dgo (lb cX12_even) 0 rbX12_even_0 = true := by decide +kernel
theorem dX12_even_0 : decode cX12_even 0 = .ok (.aload_n 0, 1) := dk_42 (dw rcX12_even_0 0 rfl)
theorem dX12_even_1 : decode cX12_even 1 = .ok (.iload_n 1, 1) := dk_27 (dw rcX12_even_0 1 rfl)
theorem dX12_even_2 : decode cX12_even 2 = .ok (.iload_n 2, 1) := dk_28 (dw rcX12_even_0 2 rfl)
theorem dX12_even_3 : decode cX12_even 3 = .ok (.iload_n 3, 1) := dk_29 (dw rcX12_even_0 3 rfl)
theorem dX12_even_4 : decode cX12_even 4 = .ok (.invokevirtual 490, 3) := dk_182 (dw rcX12_even_0 4 rfl) rfl
theorem dX12_even_7 : decode cX12_even 7 = .ok (.ifCond .eq 24, 3) := dk_153 (dw rcX12_even_0 5 rfl) rfl
theorem dX12_even_10 : decode cX12_even 10 = .ok (.aload_n 0, 1) := dk_42 (dw rcX12_even_0 6 rfl)
theorem dX12_even_11 : decode cX12_even 11 = .ok (.iload_n 2, 1) := dk_28 (dw rcX12_even_0 7 rfl)
theorem dX12_even_12 : decode cX12_even 12 = .ok (.iload 4, 2) := dk_21 (dw rcX12_even_0 8 rfl)
theorem dX12_even_14 : decode cX12_even 14 = .ok (.invokevirtual 456, 3) := dk_182 (dw rcX12_even_0 9 rfl) rfl
theorem dX12_even_17 : decode cX12_even 17 = .ok (.ifCond .eq 14, 3) := dk_153 (dw rcX12_even_0 10 rfl) rfl
theorem dX12_even_20 : decode cX12_even 20 = .ok (.iload 5, 2) := dk_21 (dw rcX12_even_0 11 rfl)
theorem dX12_even_22 : decode cX12_even 22 = .ok (.iconst 1, 1) := dk_4 (dw rcX12_even_0 12 rfl)
theorem dX12_even_23 : decode cX12_even 23 = .ok (.bipush 99, 2) := dk_16 (dw rcX12_even_0 13 rfl) rfl
theorem dX12_even_25 : decode cX12_even 25 = .ok (.invokestatic 449, 3) := dk_184 (dw rcX12_even_0 14 rfl) rfl
theorem dX12_even_28 : decode cX12_even 28 = .ok (.ifCond .ne 5, 3) := dk_154 (dw rcX12_even_0 15 rfl) rfl
theorem dX12_even_31 : decode cX12_even 31 = .ok (.iconst (-1), 1) := dk_2 (dw rcX12_even_0 16 rfl)
theorem dX12_even_32 : decode cX12_even 32 = .ok (.ireturn, 1) := dk_172 (dw rcX12_even_0 17 rfl)
theorem dX12_even_33 : decode cX12_even 33 = .ok (.aload_n 0, 1) := dk_42 (dw rcX12_even_0 18 rfl)
theorem dX12_even_34 : decode cX12_even 34 = .ok (.iload_n 1, 1) := dk_27 (dw rcX12_even_0 19 rfl)
theorem dX12_even_35 : decode cX12_even 35 = .ok (.iload_n 2, 1) := dk_28 (dw rcX12_even_0 20 rfl)
theorem dX12_even_36 : decode cX12_even 36 = .ok (.iload_n 3, 1) := dk_29 (dw rcX12_even_0 21 rfl)
theorem dX12_even_37 : decode cX12_even 37 = .ok (.invokevirtual 493, 3) := dk_182 (dw rcX12_even_0 22 rfl) rfl
theorem dX12_even_40 : decode cX12_even 40 = .ok (.iconst 0, 1) := dk_3 (dw rcX12_even_0 23 rfl)
noncomputable def rbX12_even_41 : List (Nat × List Nat) := [(41, [54, 6]), (43, [21, 4]), (45, [54, 7]), (47, [21, 7]), (49, [17, 1, 144]), (52, [162, 0, 26]), (55, [42]), (56, [180, 0, 115]), (59, [21, 7]), (61, [51]), (62, [153, 0, 16]), (65, [132, 6, 1]), (68, [21, 7]), (70, [21, 5]), (72, [96]), (73, [54, 7]), (75, [167, 255, 228]), (78, [21, 6]), (80, [172])]
theorem rcX12_even_41 : dgo (lb cX12_even) 0 rbX12_even_41 = true := by decide +kernel
theorem dX12_even_41 : decode cX12_even 41 = .ok (.istore 6, 2) := dk_54 (dw rcX12_even_41 0 rfl)
theorem dX12_even_43 : decode cX12_even 43 = .ok (.iload 4, 2) := dk_21 (dw rcX12_even_41 1 rfl)
theorem dX12_even_45 : decode cX12_even 45 = .ok (.istore 7, 2) := dk_54 (dw rcX12_even_41 2 rfl)
theorem dX12_even_47 : decode cX12_even 47 = .ok (.iload 7, 2) := dk_21 (dw rcX12_even_41 3 rfl)
theorem dX12_even_49 : decode cX12_even 49 = .ok (.sipush 400, 3) := dk_17 (dw rcX12_even_41 4 rfl) rfl
theorem dX12_even_52 : decode cX12_even 52 = .ok (.if_icmp .ge 26, 3) := dk_162 (dw rcX12_even_41 5 rfl) rfl
theorem dX12_even_55 : decode cX12_even 55 = .ok (.aload_n 0, 1) := dk_42 (dw rcX12_even_41 6 rfl)
theorem dX12_even_56 : decode cX12_even 56 = .ok (.getfield 115, 3) := dk_180 (dw rcX12_even_41 7 rfl) rfl
theorem dX12_even_59 : decode cX12_even 59 = .ok (.iload 7, 2) := dk_21 (dw rcX12_even_41 8 rfl)
theorem dX12_even_61 : decode cX12_even 61 = .ok (.baload, 1) := dk_51 (dw rcX12_even_41 9 rfl)
theorem dX12_even_62 : decode cX12_even 62 = .ok (.ifCond .eq 16, 3) := dk_153 (dw rcX12_even_41 10 rfl) rfl
theorem dX12_even_65 : decode cX12_even 65 = .ok (.iinc 6 1, 3) := dk_132 (dw rcX12_even_41 11 rfl) rfl
theorem dX12_even_68 : decode cX12_even 68 = .ok (.iload 7, 2) := dk_21 (dw rcX12_even_41 12 rfl)
theorem dX12_even_70 : decode cX12_even 70 = .ok (.iload 5, 2) := dk_21 (dw rcX12_even_41 13 rfl)
theorem dX12_even_72 : decode cX12_even 72 = .ok (.iadd, 1) := dk_96 (dw rcX12_even_41 14 rfl)
theorem dX12_even_73 : decode cX12_even 73 = .ok (.istore 7, 2) := dk_54 (dw rcX12_even_41 15 rfl)
theorem dX12_even_75 : decode cX12_even 75 = .ok (.goto (-28), 3) := dk_167 (dw rcX12_even_41 16 rfl) rfl
theorem dX12_even_78 : decode cX12_even 78 = .ok (.iload 6, 2) := dk_21 (dw rcX12_even_41 17 rfl)
theorem dX12_even_80 : decode cX12_even 80 = .ok (.ireturn, 1) := dk_172 (dw rcX12_even_41 18 rfl)
noncomputable def rbX12_evenest_0 : List (Nat × List Nat) := [(0, [42]), (1, [27]), (2, [28]), (3, [29]), (4, [182, 1, 234]), (7, [153, 0, 13]), (10, [21, 4]), (12, [3]), (13, [4]), (14, [184, 1, 193]), (17, [154, 0, 5]), (20, [2]), (21, [172]), (22, [42]), (23, [27]), (24, [28]), (25, [29]), (26, [182, 1, 237]), (29, [3]), (30, [54, 5]), (32, [21, 5]), (34, [42]), (35, [180, 1, 222]), (38, [42])]
theorem rcX12_evenest_0 : dgo (lb cX12_evenest) 0 rbX12_evenest_0 = true := by decide +kernel
theorem dX12_evenest_0 : decode cX12_evenest 0 = .ok (.aload_n 0, 1) := dk_42 (dw rcX12_evenest_0 0 rfl)
theorem dX12_evenest_1 : decode cX12_evenest 1 = .ok (.iload_n 1, 1) := dk_27 (dw rcX12_evenest_0 1 rfl)
theorem dX12_evenest_2 : decode cX12_evenest 2 = .ok (.iload_n 2, 1) := dk_28 (dw rcX12_evenest_0 2 rfl)
theorem dX12_evenest_3 : decode cX12_evenest 3 = .ok (.iload_n 3, 1) := dk_29 (dw rcX12_evenest_0 3 rfl)
theorem dX12_evenest_4 : decode cX12_evenest 4 = .ok (.invokevirtual 490, 3) := dk_182 (dw rcX12_evenest_0 4 rfl) rfl
theorem dX12_evenest_7 : decode cX12_evenest 7 = .ok (.ifCond .eq 13, 3) := dk_153 (dw rcX12_evenest_0 5 rfl) rfl
theorem dX12_evenest_10 : decode cX12_evenest 10 = .ok (.iload 4, 2) := dk_21 (dw rcX12_evenest_0 6 rfl)
theorem dX12_evenest_12 : decode cX12_evenest 12 = .ok (.iconst 0, 1) := dk_3 (dw rcX12_evenest_0 7 rfl)
theorem dX12_evenest_13 : decode cX12_evenest 13 = .ok (.iconst 1, 1) := dk_4 (dw rcX12_evenest_0 8 rfl)
theorem dX12_evenest_14 : decode cX12_evenest 14 = .ok (.invokestatic 449, 3) := dk_184 (dw rcX12_evenest_0 9 rfl) rfl
theorem dX12_evenest_17 : decode cX12_evenest 17 = .ok (.ifCond .ne 5, 3) := dk_154 (dw rcX12_evenest_0 10 rfl) rfl
theorem dX12_evenest_20 : decode cX12_evenest 20 = .ok (.iconst (-1), 1) := dk_2 (dw rcX12_evenest_0 11 rfl)
theorem dX12_evenest_21 : decode cX12_evenest 21 = .ok (.ireturn, 1) := dk_172 (dw rcX12_evenest_0 12 rfl)
theorem dX12_evenest_22 : decode cX12_evenest 22 = .ok (.aload_n 0, 1) := dk_42 (dw rcX12_evenest_0 13 rfl)
theorem dX12_evenest_23 : decode cX12_evenest 23 = .ok (.iload_n 1, 1) := dk_27 (dw rcX12_evenest_0 14 rfl)
theorem dX12_evenest_24 : decode cX12_evenest 24 = .ok (.iload_n 2, 1) := dk_28 (dw rcX12_evenest_0 15 rfl)
theorem dX12_evenest_25 : decode cX12_evenest 25 = .ok (.iload_n 3, 1) := dk_29 (dw rcX12_evenest_0 16 rfl)
theorem dX12_evenest_26 : decode cX12_evenest 26 = .ok (.invokevirtual 493, 3) := dk_182 (dw rcX12_evenest_0 17 rfl) rfl
theorem dX12_evenest_29 : decode cX12_evenest 29 = .ok (.iconst 0, 1) := dk_3 (dw rcX12_evenest_0 18 rfl)
theorem dX12_evenest_30 : decode cX12_evenest 30 = .ok (.istore 5, 2) := dk_54 (dw rcX12_evenest_0 19 rfl)
theorem dX12_evenest_32 : decode cX12_evenest 32 = .ok (.iload 5, 2) := dk_21 (dw rcX12_evenest_0 20 rfl)
theorem dX12_evenest_34 : decode cX12_evenest 34 = .ok (.aload_n 0, 1) := dk_42 (dw rcX12_evenest_0 21 rfl)
theorem dX12_evenest_35 : decode cX12_evenest 35 = .ok (.getfield 478, 3) := dk_180 (dw rcX12_evenest_0 22 rfl) rfl
theorem dX12_evenest_38 : decode cX12_evenest 38 = .ok (.aload_n 0, 1) := dk_42 (dw rcX12_evenest_0 23 rfl)
noncomputable def rbX12_evenest_39 : List (Nat × List Nat) := [(39, [180, 1, 219]), (42, [100]), (43, [163, 0, 60]), (46, [42]), (47, [180, 1, 219]), (50, [54, 6]), (52, [21, 6]), (54, [21, 5]), (56, [96]), (57, [42]), (58, [180, 1, 222]), (61, [163, 0, 36]), (64, [42]), (65, [21, 6]), (67, [21, 6]), (69, [21, 5]), (71, [96]), (72, [182, 2, 14]), (75, [153, 0, 16]), (78, [21, 4]), (80, [154, 0, 8]), (83, [21, 5]), (85, [167, 0, 5]), (88, [21, 6])]
theorem rcX12_evenest_39 : dgo (lb cX12_evenest) 0 rbX12_evenest_39 = true := by decide +kernel
theorem dX12_evenest_39 : decode cX12_evenest 39 = .ok (.getfield 475, 3) := dk_180 (dw rcX12_evenest_39 0 rfl) rfl
theorem dX12_evenest_42 : decode cX12_evenest 42 = .ok (.isub, 1) := dk_100 (dw rcX12_evenest_39 1 rfl)
theorem dX12_evenest_43 : decode cX12_evenest 43 = .ok (.if_icmp .gt 60, 3) := dk_163 (dw rcX12_evenest_39 2 rfl) rfl
theorem dX12_evenest_46 : decode cX12_evenest 46 = .ok (.aload_n 0, 1) := dk_42 (dw rcX12_evenest_39 3 rfl)
theorem dX12_evenest_47 : decode cX12_evenest 47 = .ok (.getfield 475, 3) := dk_180 (dw rcX12_evenest_39 4 rfl) rfl
theorem dX12_evenest_50 : decode cX12_evenest 50 = .ok (.istore 6, 2) := dk_54 (dw rcX12_evenest_39 5 rfl)
theorem dX12_evenest_52 : decode cX12_evenest 52 = .ok (.iload 6, 2) := dk_21 (dw rcX12_evenest_39 6 rfl)
theorem dX12_evenest_54 : decode cX12_evenest 54 = .ok (.iload 5, 2) := dk_21 (dw rcX12_evenest_39 7 rfl)
theorem dX12_evenest_56 : decode cX12_evenest 56 = .ok (.iadd, 1) := dk_96 (dw rcX12_evenest_39 8 rfl)
theorem dX12_evenest_57 : decode cX12_evenest 57 = .ok (.aload_n 0, 1) := dk_42 (dw rcX12_evenest_39 9 rfl)
theorem dX12_evenest_58 : decode cX12_evenest 58 = .ok (.getfield 478, 3) := dk_180 (dw rcX12_evenest_39 10 rfl) rfl
theorem dX12_evenest_61 : decode cX12_evenest 61 = .ok (.if_icmp .gt 36, 3) := dk_163 (dw rcX12_evenest_39 11 rfl) rfl
theorem dX12_evenest_64 : decode cX12_evenest 64 = .ok (.aload_n 0, 1) := dk_42 (dw rcX12_evenest_39 12 rfl)
theorem dX12_evenest_65 : decode cX12_evenest 65 = .ok (.iload 6, 2) := dk_21 (dw rcX12_evenest_39 13 rfl)
theorem dX12_evenest_67 : decode cX12_evenest 67 = .ok (.iload 6, 2) := dk_21 (dw rcX12_evenest_39 14 rfl)
theorem dX12_evenest_69 : decode cX12_evenest 69 = .ok (.iload 5, 2) := dk_21 (dw rcX12_evenest_39 15 rfl)
theorem dX12_evenest_71 : decode cX12_evenest 71 = .ok (.iadd, 1) := dk_96 (dw rcX12_evenest_39 16 rfl)
theorem dX12_evenest_72 : decode cX12_evenest 72 = .ok (.invokevirtual 526, 3) := dk_182 (dw rcX12_evenest_39 17 rfl) rfl
theorem dX12_evenest_75 : decode cX12_evenest 75 = .ok (.ifCond .eq 16, 3) := dk_153 (dw rcX12_evenest_39 18 rfl) rfl
theorem dX12_evenest_78 : decode cX12_evenest 78 = .ok (.iload 4, 2) := dk_21 (dw rcX12_evenest_39 19 rfl)
theorem dX12_evenest_80 : decode cX12_evenest 80 = .ok (.ifCond .ne 8, 3) := dk_154 (dw rcX12_evenest_39 20 rfl) rfl
theorem dX12_evenest_83 : decode cX12_evenest 83 = .ok (.iload 5, 2) := dk_21 (dw rcX12_evenest_39 21 rfl)
theorem dX12_evenest_85 : decode cX12_evenest 85 = .ok (.goto 5, 3) := dk_167 (dw rcX12_evenest_39 22 rfl) rfl
theorem dX12_evenest_88 : decode cX12_evenest 88 = .ok (.iload 6, 2) := dk_21 (dw rcX12_evenest_39 23 rfl)
noncomputable def rbX12_evenest_90 : List (Nat × List Nat) := [(90, [172]), (91, [132, 6, 1]), (94, [167, 255, 214]), (97, [132, 5, 1]), (100, [167, 255, 188]), (103, [2]), (104, [172])]
theorem rcX12_evenest_90 : dgo (lb cX12_evenest) 0 rbX12_evenest_90 = true := by decide +kernel
theorem dX12_evenest_90 : decode cX12_evenest 90 = .ok (.ireturn, 1) := dk_172 (dw rcX12_evenest_90 0 rfl)
theorem dX12_evenest_91 : decode cX12_evenest 91 = .ok (.iinc 6 1, 3) := dk_132 (dw rcX12_evenest_90 1 rfl) rfl
theorem dX12_evenest_94 : decode cX12_evenest 94 = .ok (.goto (-42), 3) := dk_167 (dw rcX12_evenest_90 2 rfl) rfl
theorem dX12_evenest_97 : decode cX12_evenest 97 = .ok (.iinc 5 1, 3) := dk_132 (dw rcX12_evenest_90 3 rfl) rfl
theorem dX12_evenest_100 : decode cX12_evenest 100 = .ok (.goto (-68), 3) := dk_167 (dw rcX12_evenest_90 4 rfl) rfl
theorem dX12_evenest_103 : decode cX12_evenest 103 = .ok (.iconst (-1), 1) := dk_2 (dw rcX12_evenest_90 5 rfl)
theorem dX12_evenest_104 : decode cX12_evenest 104 = .ok (.ireturn, 1) := dk_172 (dw rcX12_evenest_90 6 rfl)
noncomputable def rbX12_evens_0 : List (Nat × List Nat) := [(0, [42]), (1, [3]), (2, [181, 1, 190]), (5, [42]), (6, [27]), (7, [28]), (8, [29]), (9, [182, 1, 234]), (12, [154, 0, 5]), (15, [2]), (16, [172]), (17, [42]), (18, [27]), (19, [28]), (20, [29]), (21, [182, 1, 237]), (24, [42]), (25, [180, 1, 219]), (28, [54, 4]), (30, [21, 4]), (32, [42]), (33, [180, 1, 222]), (36, [163, 0, 56]), (39, [3])]
theorem rcX12_evens_0 : dgo (lb cX12_evens) 0 rbX12_evens_0 = true := by decide +kernel
theorem dX12_evens_0 : decode cX12_evens 0 = .ok (.aload_n 0, 1) := dk_42 (dw rcX12_evens_0 0 rfl)
theorem dX12_evens_1 : decode cX12_evens 1 = .ok (.iconst 0, 1) := dk_3 (dw rcX12_evens_0 1 rfl)
theorem dX12_evens_2 : decode cX12_evens 2 = .ok (.putfield 446, 3) := dk_181 (dw rcX12_evens_0 2 rfl) rfl
theorem dX12_evens_5 : decode cX12_evens 5 = .ok (.aload_n 0, 1) := dk_42 (dw rcX12_evens_0 3 rfl)
theorem dX12_evens_6 : decode cX12_evens 6 = .ok (.iload_n 1, 1) := dk_27 (dw rcX12_evens_0 4 rfl)
theorem dX12_evens_7 : decode cX12_evens 7 = .ok (.iload_n 2, 1) := dk_28 (dw rcX12_evens_0 5 rfl)
theorem dX12_evens_8 : decode cX12_evens 8 = .ok (.iload_n 3, 1) := dk_29 (dw rcX12_evens_0 6 rfl)
theorem dX12_evens_9 : decode cX12_evens 9 = .ok (.invokevirtual 490, 3) := dk_182 (dw rcX12_evens_0 7 rfl) rfl
theorem dX12_evens_12 : decode cX12_evens 12 = .ok (.ifCond .ne 5, 3) := dk_154 (dw rcX12_evens_0 8 rfl) rfl
theorem dX12_evens_15 : decode cX12_evens 15 = .ok (.iconst (-1), 1) := dk_2 (dw rcX12_evens_0 9 rfl)
theorem dX12_evens_16 : decode cX12_evens 16 = .ok (.ireturn, 1) := dk_172 (dw rcX12_evens_0 10 rfl)
theorem dX12_evens_17 : decode cX12_evens 17 = .ok (.aload_n 0, 1) := dk_42 (dw rcX12_evens_0 11 rfl)
theorem dX12_evens_18 : decode cX12_evens 18 = .ok (.iload_n 1, 1) := dk_27 (dw rcX12_evens_0 12 rfl)
theorem dX12_evens_19 : decode cX12_evens 19 = .ok (.iload_n 2, 1) := dk_28 (dw rcX12_evens_0 13 rfl)
theorem dX12_evens_20 : decode cX12_evens 20 = .ok (.iload_n 3, 1) := dk_29 (dw rcX12_evens_0 14 rfl)
theorem dX12_evens_21 : decode cX12_evens 21 = .ok (.invokevirtual 493, 3) := dk_182 (dw rcX12_evens_0 15 rfl) rfl
theorem dX12_evens_24 : decode cX12_evens 24 = .ok (.aload_n 0, 1) := dk_42 (dw rcX12_evens_0 16 rfl)
theorem dX12_evens_25 : decode cX12_evens 25 = .ok (.getfield 475, 3) := dk_180 (dw rcX12_evens_0 17 rfl) rfl
theorem dX12_evens_28 : decode cX12_evens 28 = .ok (.istore 4, 2) := dk_54 (dw rcX12_evens_0 18 rfl)
theorem dX12_evens_30 : decode cX12_evens 30 = .ok (.iload 4, 2) := dk_21 (dw rcX12_evens_0 19 rfl)
theorem dX12_evens_32 : decode cX12_evens 32 = .ok (.aload_n 0, 1) := dk_42 (dw rcX12_evens_0 20 rfl)
theorem dX12_evens_33 : decode cX12_evens 33 = .ok (.getfield 478, 3) := dk_180 (dw rcX12_evens_0 21 rfl) rfl
theorem dX12_evens_36 : decode cX12_evens 36 = .ok (.if_icmp .gt 56, 3) := dk_163 (dw rcX12_evens_0 22 rfl) rfl
theorem dX12_evens_39 : decode cX12_evens 39 = .ok (.iconst 0, 1) := dk_3 (dw rcX12_evens_0 23 rfl)
noncomputable def rbX12_evens_40 : List (Nat × List Nat) := [(40, [54, 5]), (42, [3]), (43, [54, 6]), (45, [21, 6]), (47, [42]), (48, [180, 1, 222]), (51, [162, 0, 24]), (54, [21, 5]), (56, [154, 0, 19]), (59, [42]), (60, [21, 6]), (62, [21, 4]), (64, [182, 2, 17]), (67, [54, 5]), (69, [132, 6, 1]), (72, [167, 255, 229]), (75, [21, 5]), (77, [153, 0, 9]), (80, [42]), (81, [21, 4]), (83, [182, 2, 0]), (86, [132, 4, 1]), (89, [167, 255, 197]), (92, [42])]
theorem rcX12_evens_40 : dgo (lb cX12_evens) 0 rbX12_evens_40 = true := by decide +kernel
theorem dX12_evens_40 : decode cX12_evens 40 = .ok (.istore 5, 2) := dk_54 (dw rcX12_evens_40 0 rfl)
theorem dX12_evens_42 : decode cX12_evens 42 = .ok (.iconst 0, 1) := dk_3 (dw rcX12_evens_40 1 rfl)
theorem dX12_evens_43 : decode cX12_evens 43 = .ok (.istore 6, 2) := dk_54 (dw rcX12_evens_40 2 rfl)
theorem dX12_evens_45 : decode cX12_evens 45 = .ok (.iload 6, 2) := dk_21 (dw rcX12_evens_40 3 rfl)
theorem dX12_evens_47 : decode cX12_evens 47 = .ok (.aload_n 0, 1) := dk_42 (dw rcX12_evens_40 4 rfl)
theorem dX12_evens_48 : decode cX12_evens 48 = .ok (.getfield 478, 3) := dk_180 (dw rcX12_evens_40 5 rfl) rfl
theorem dX12_evens_51 : decode cX12_evens 51 = .ok (.if_icmp .ge 24, 3) := dk_162 (dw rcX12_evens_40 6 rfl) rfl
theorem dX12_evens_54 : decode cX12_evens 54 = .ok (.iload 5, 2) := dk_21 (dw rcX12_evens_40 7 rfl)
theorem dX12_evens_56 : decode cX12_evens 56 = .ok (.ifCond .ne 19, 3) := dk_154 (dw rcX12_evens_40 8 rfl) rfl
theorem dX12_evens_59 : decode cX12_evens 59 = .ok (.aload_n 0, 1) := dk_42 (dw rcX12_evens_40 9 rfl)
theorem dX12_evens_60 : decode cX12_evens 60 = .ok (.iload 6, 2) := dk_21 (dw rcX12_evens_40 10 rfl)
theorem dX12_evens_62 : decode cX12_evens 62 = .ok (.iload 4, 2) := dk_21 (dw rcX12_evens_40 11 rfl)
theorem dX12_evens_64 : decode cX12_evens 64 = .ok (.invokevirtual 529, 3) := dk_182 (dw rcX12_evens_40 12 rfl) rfl
theorem dX12_evens_67 : decode cX12_evens 67 = .ok (.istore 5, 2) := dk_54 (dw rcX12_evens_40 13 rfl)
theorem dX12_evens_69 : decode cX12_evens 69 = .ok (.iinc 6 1, 3) := dk_132 (dw rcX12_evens_40 14 rfl) rfl
theorem dX12_evens_72 : decode cX12_evens 72 = .ok (.goto (-27), 3) := dk_167 (dw rcX12_evens_40 15 rfl) rfl
theorem dX12_evens_75 : decode cX12_evens 75 = .ok (.iload 5, 2) := dk_21 (dw rcX12_evens_40 16 rfl)
theorem dX12_evens_77 : decode cX12_evens 77 = .ok (.ifCond .eq 9, 3) := dk_153 (dw rcX12_evens_40 17 rfl) rfl
theorem dX12_evens_80 : decode cX12_evens 80 = .ok (.aload_n 0, 1) := dk_42 (dw rcX12_evens_40 18 rfl)
theorem dX12_evens_81 : decode cX12_evens 81 = .ok (.iload 4, 2) := dk_21 (dw rcX12_evens_40 19 rfl)
theorem dX12_evens_83 : decode cX12_evens 83 = .ok (.invokevirtual 512, 3) := dk_182 (dw rcX12_evens_40 20 rfl) rfl
theorem dX12_evens_86 : decode cX12_evens 86 = .ok (.iinc 4 1, 3) := dk_132 (dw rcX12_evens_40 21 rfl) rfl
theorem dX12_evens_89 : decode cX12_evens 89 = .ok (.goto (-59), 3) := dk_167 (dw rcX12_evens_40 22 rfl) rfl
theorem dX12_evens_92 : decode cX12_evens 92 = .ok (.aload_n 0, 1) := dk_42 (dw rcX12_evens_40 23 rfl)
noncomputable def rbX12_evens_93 : List (Nat × List Nat) := [(93, [180, 1, 190]), (96, [172])]
theorem rcX12_evens_93 : dgo (lb cX12_evens) 0 rbX12_evens_93 = true := by decide +kernel
theorem dX12_evens_93 : decode cX12_evens 93 = .ok (.getfield 446, 3) := dk_180 (dw rcX12_evens_93 0 rfl) rfl
theorem dX12_evens_96 : decode cX12_evens 96 = .ok (.ireturn, 1) := dk_172 (dw rcX12_evens_93 1 rfl)
set_option maxHeartbeats 4000000 in
set_option maxRecDepth 100000 in
theorem n_comesToEnd (l : Launch) (D : va_G) (k : KT) (A : Nat → Prop) (a : Nat → Nat) (z : SK) (G : GS) (p0 : Int32) (p1 : Int32) (ha_p0 : 0 ≤ p0.toInt ∧ p0.toInt ≤ 60) (ha_p1 : 1 ≤ p1.toInt ∧ p1.toInt ≤ 60) : Met l yX12_comesToEnd (WS yX12_comesToEnd cX12_comesToEnd 4 (some .boolean)) ({ frames := 2, cells := 0, slots := 0, locals := 42 }) (va_Pc [.ref (a 66), .int p0, .int p1] (cW D k A a z G)) (va_Qi (fun (r : Int32) (G1 : GS) => Q_comesToEnd p0 p1 G r G1) (fun (G1 : GS) t => Wd D k A a G1 t.heap) A) 0 0 A := by
  refine Met.ofW (cc := cX12_comesToEnd) (maxL := 4) (ret := (some .boolean)) (by decide) rfl ?_
  intro p e s m args below meth c s₁ B hml hv
  obtain ⟨rfl, hW, hB_G, hK, hZ⟩ := hv
  have hx := B.exec
  have hb := B.bytes
  have hr := B.returns
  have hts := atoms_spec (ws := WS yX12_comesToEnd cX12_comesToEnd 4 (some .boolean)) B.pre
  have hgd : ∀ w ∈ gd, w ∈ WS yX12_comesToEnd cX12_comesToEnd 4 (some .boolean) := fun w h => List.mem_cons_of_mem _ h
  have hg : ∀ w ∈ gd, w.before _ s = true := fun w h => hts w (hgd w h)
  have hown : s.vm.findClass RX12 = some m.cls := findClass_of_methodNamed B.named
  have hS : va_S A s.heap s.heap [] := va_S.rf
  have hF : Fr [] [] G G := Fr.rf
  have hl := lv_entry ([.ref (a 66), .int p0, .int p1]) (n := 4) (Nat.le_of_ble_eq_true rfl)
  rw [lg_entry_eq]
  generalize (lg_sl ([.ref (a 66), .int p0, .int p1]) ++ List.replicate (4 - (lg_sl ([.ref (a 66), .int p0, .int p1])).length) Slot.unset).toArray = ls at hl ⊢
  have hl : lv_has ls 4 [(0, .ref (a 66)), (1, .int p0), (2, .int p1)] := hl
  refine lv_iload_n hx hb dX12_comesToEnd_0 rfl (lv_at hl 1 rfl) ?_
  refine lv_istore_n (lv' := [(3, .int p0), (0, .ref (a 66)), (1, .int p0), (2, .int p1)]) hx hb dX12_comesToEnd_1 rfl hl (lt_b rfl) rfl (fun ls hl => ?_)
  refine loop_N (Inv := fun n H locs ls => ∃ (G_1 : GS) (x_5 : Int32), (n : Int) = 511 - x_5.toInt ∧ (0 ≤ x_5.toInt ∧ x_5.toInt ≤ 511) ∧ Rc (St_n_comesToEnd_1 p1) (p0, G) (x_5, G_1) ∧ Wd D k A a G_1 H ∧ Bd G_1 ∧ Fr [] [] G G_1 ∧ Fr [] [] G G_1 ∧ va_S A s.heap H locs ∧ lv_has ls 4 [(3, .int x_5), (0, .ref (a 66)), (2, .int p1)]) (fun n_4 H locs ls ih_3 hI => ?_) (511 - p0.toInt : Int).toNat ⟨G, p0, (Int.toNat_of_nonneg (by omega)), ⟨by omega, by omega⟩, Rc.rf, hW, hB_G, hF, Fr.rf, hS, lv_sub hl [0, 1, 3] rfl⟩
  obtain ⟨G_1, x_5, hn_8, f_7, hX_6, hW, hB_G_1, hF, hq_2, hS, hl⟩ := hI
  refine lv_aload_n hx hb dX12_comesToEnd_2 rfl (lv_at hl 1 rfl) ?_
  refine S_getR (n := 98) (C := RX12) (T := TX12) (N := 89) hx hb hg iX12 hown hK hW kd_66 rfl 58 (lt_b rfl) (hg (Cond.fieldLink RX12 115 "SlabWalkModel" "lawful" "[Z") m1372) (fun _ h9 => h9) rfl dX12_comesToEnd_3 ?_
  refine lv_iload_n hx hb dX12_comesToEnd_6 rfl (lv_at hl 0 rfl) ?_
  refine S_zald hx hb hK hW kd_98 (vin ((by first | (clear ha_p0 ha_p1 hn_8; omega) | omega)) ((by first | (clear ha_p0 ha_p1 hn_8; omega) | omega))) dX12_comesToEnd_7 (fun y_9 ey_9 => ?_)
  have ty_9 := hB_G_1.law ey_9
  refine lv_if_eq (tgt := 26) hx hb dX12_comesToEnd_8 rfl (fun c_10 => ?_) (fun c_10 => ?_)
  · have c_10 : y_9.toInt = 0 := xI_eq rfl rfl c_10
    refine lv_aload_n hx hb dX12_comesToEnd_26 rfl (lv_at hl 1 rfl) ?_
    refine S_getR (n := 98) (C := RX12) (T := TX12) (N := 89) hx hb hg iX12 hown hK hW kd_66 rfl 58 (lt_b rfl) (hg (Cond.fieldLink RX12 115 "SlabWalkModel" "lawful" "[Z") m1372) (fun _ h9 => h9) rfl dX12_comesToEnd_27 ?_
    refine lv_iload_n hx hb dX12_comesToEnd_30 rfl (lv_at hl 0 rfl) ?_
    refine S_zald hx hb hK hW kd_98 (vin ((by first | (clear ha_p0 ha_p1 hn_8 c_10; omega) | omega)) ((by first | (clear ha_p0 ha_p1 hn_8 c_10; omega) | omega))) dX12_comesToEnd_31 (fun y_11 ey_11 => ?_)
    have ty_11 := hB_G_1.law ey_11
    exact W.zret (v := y_11) hx hb hr (nar_z ((by first | (clear ha_p0 ha_p1 hn_8 f_7 c_10; omega) | omega)) ((by first | (clear ha_p0 ha_p1 hn_8 f_7 c_10; omega) | omega))) (fun t ht _ => ⟨⟨y_11, G_1, rfl, (Q_comesToEnd_mk ⟨hB_G_1, hF, ⟨(by first | (clear ha_p0 ha_p1 hn_8 f_7 c_10; omega) | omega), (by first | (clear ha_p0 ha_p1 hn_8 f_7 c_10; omega) | omega)⟩, ⟨x_5, G_1, hX_6, f_7, hB_G_1, hq_2, ⟨y_9, ey_9, (Or.inl ⟨c_10, ⟨y_11, ey_11, ⟨rfl, rfl⟩⟩⟩)⟩⟩⟩), wd_t ht hW⟩, hS.F ht⟩) hS.2.2 dX12_comesToEnd_32
  · have c_10 : y_9.toInt ≠ 0 := xI_ne rfl rfl c_10
    refine lv_aload_n hx hb dX12_comesToEnd_11 rfl (lv_at hl 1 rfl) ?_
    refine lv_iload_n hx hb dX12_comesToEnd_12 rfl (lv_at hl 0 rfl) ?_
    have b_12 : 0 ≤ (G.1 66 59).toInt ∧ (G.1 66 59).toInt ≤ 400 := bd_66_59 hB_G
    have g_13 : (G_1.1 66 59).toInt = (G.1 66 59).toInt := (congrArg Int32.toInt (show G_1.1 66 59 = (G.1 66 59) from (hq_2.i9 66 59 rfl rfl)))
    have b_14 : 0 ≤ (G.1 66 60).toInt ∧ (G.1 66 60).toInt ≤ 12 := bd_66_60 hB_G
    have g_15 : (G_1.1 66 60).toInt = (G.1 66 60).toInt := (congrArg Int32.toInt (show G_1.1 66 60 = (G.1 66 60) from (hq_2.i9 66 60 rfl rfl)))
    have b_16 : 0 ≤ (G.1 66 62).toInt ∧ (G.1 66 62).toInt ≤ 60 := bd_66_62 hB_G
    have g_17 : (G_1.1 66 62).toInt = (G.1 66 62).toInt := (congrArg Int32.toInt (show G_1.1 66 62 = (G.1 66 62) from (hq_2.i9 66 62 rfl rfl)))
    refine S_calli (va_runV (As := [.int x_5]) (rest := []) ⟨hx, hb, hml, hown, hts⟩ (n_isEnd l D k A a z G_1 x_5 ⟨(by first | (clear ha_p0 ha_p1 hn_8 c_10 b_12 g_13 b_14 g_15 b_16 g_17; omega) | omega), (by first | (clear ha_p0 ha_p1 hn_8 c_10 b_12 g_13 b_14 g_15 b_16 g_17; omega) | omega)⟩) (cwV 1 hts (gd_V hgd m1854 m1856 m95 m131 m1857) rfl rfl rfl hd_X12_isEnd ⟨Nat.le_of_ble_eq_true rfl, Nat.le_of_ble_eq_true rfl⟩) (pre_W hW hB_G_1 hK hZ hS kd_66 rfl) rfl rfl hl.1 rfl (lv_room (Nat.le_of_ble_eq_true rfl)) dX12_comesToEnd_13 ⟨Nat.le_of_ble_eq_true rfl, Nat.le_of_ble_eq_true rfl⟩) hS (fun r_18 G_19 H locs hpo hW hS => ?_)
    have hX_22 : Q_isEnd x_5 G_1 r_18 G_19 := hpo
    obtain ⟨hB_G_19, hq_20, f_23, ⟨d_1, d_2⟩, -⟩ := hpo
    have hF := hF.call9 hq_20 rfl rfl
    refine lv_if_ne (tgt := 26) hx hb dX12_comesToEnd_16 rfl (fun c_24 => ?_) (fun c_24 => ?_)
    · have c_24 : r_18.toInt ≠ 0 := xI_ne rfl rfl c_24
      refine lv_aload_n hx hb dX12_comesToEnd_26 rfl (lv_at hl 1 rfl) ?_
      refine S_getR (n := 98) (C := RX12) (T := TX12) (N := 89) hx hb hg iX12 hown hK hW kd_66 rfl 58 (lt_b rfl) (hg (Cond.fieldLink RX12 115 "SlabWalkModel" "lawful" "[Z") m1372) (fun _ h9 => h9) rfl dX12_comesToEnd_27 ?_
      refine lv_iload_n hx hb dX12_comesToEnd_30 rfl (lv_at hl 0 rfl) ?_
      refine S_zald hx hb hK hW kd_98 (vin ((by first | (clear ha_p0 ha_p1 hn_8 c_10 d_1; omega) | omega)) ((by first | (clear ha_p0 ha_p1 hn_8 c_10 d_1; omega) | omega))) dX12_comesToEnd_31 (fun y_25 ey_25 => ?_)
      have ty_25 := hB_G_19.law ey_25
      exact W.zret (v := y_25) hx hb hr (nar_z ((by first | (clear ha_p0 ha_p1 hn_8 f_7 c_10 b_12 g_13 b_14 g_15 b_16 g_17 f_23 d_1 d_2 c_24; omega) | omega)) ((by first | (clear ha_p0 ha_p1 hn_8 f_7 c_10 b_12 g_13 b_14 g_15 b_16 g_17 f_23 d_1 d_2 c_24; omega) | omega))) (fun t ht _ => ⟨⟨y_25, G_19, rfl, (Q_comesToEnd_mk ⟨hB_G_19, hF, ⟨(by first | (clear ha_p0 ha_p1 hn_8 f_7 c_10 b_12 g_13 b_14 g_15 b_16 g_17 f_23 d_1 d_2 c_24; omega) | omega), (by first | (clear ha_p0 ha_p1 hn_8 f_7 c_10 b_12 g_13 b_14 g_15 b_16 g_17 f_23 d_1 d_2 c_24; omega) | omega)⟩, ⟨x_5, G_1, hX_6, f_7, hB_G_1, hq_2, ⟨y_9, ey_9, (Or.inr ⟨c_10, ⟨r_18, G_19, hX_22, ⟨c_24, ⟨y_25, ey_25, ⟨rfl, rfl⟩⟩⟩⟩⟩)⟩⟩⟩), wd_t ht hW⟩, hS.F ht⟩) hS.2.2 dX12_comesToEnd_32
    · have c_24 : r_18.toInt = 0 := xI_eq rfl rfl c_24
      have d_3 := d_1 c_24
      refine lv_iload_n hx hb dX12_comesToEnd_19 rfl (lv_at hl 0 rfl) ?_
      refine lv_iload_n hx hb dX12_comesToEnd_20 rfl (lv_at hl 2 rfl) ?_
      refine lv_iadd hx hb dX12_comesToEnd_21 ?_
      refine lv_topi (fun y_26 ey_26 => ?_)
      have ty_26 : y_26.toInt = x_5.toInt + p1.toInt := xI_add rfl rfl ey_26 ((by first | (clear ha_p0 hn_8 c_10 d_1; omega) | omega)) ((by first | (clear ha_p0 hn_8 c_10 d_1; omega) | omega))
      refine lv_istore_n (lv' := [(3, .int y_26), (0, .ref (a 66)), (2, .int p1)]) hx hb dX12_comesToEnd_22 rfl hl (lt_b rfl) rfl (fun ls hl => ?_)
      refine lv_goto (tgt := 2) hx hb dX12_comesToEnd_23 rfl ?_
      exact ih_3 (511 - y_26.toInt : Int).toNat ((by first | (clear ha_p0 c_10 d_1; omega) | omega)) _ _ _ ⟨G_19, y_26, (Int.toNat_of_nonneg ((by first | (clear ha_p0 hn_8 c_10 d_1; omega) | omega))), ⟨(by first | (clear ha_p0 hn_8 c_10 d_1; omega) | omega), (by first | (clear ha_p0 hn_8 c_10 d_1; omega) | omega)⟩, (hX_6.st (St_n_comesToEnd_1_mk ⟨x_5, G_1, y_26, G_19, rfl, rfl, f_7, hB_G_1, ⟨y_9, ey_9, ⟨c_10, ⟨r_18, G_19, hX_22, ⟨c_24, ⟨y_26, ty_26, ⟨rfl, rfl⟩⟩⟩⟩⟩⟩⟩)), hW, hB_G_19, hF, (Fr.call9 (rs := []) (fs := []) (Fr.call9 (rs := []) (fs := []) Fr.rf hq_2 rfl rfl) hq_20 rfl rfl), hS, lv_sub hl [0, 1, 2] rfl⟩

set_option maxHeartbeats 4000000 in
set_option maxRecDepth 100000 in
theorem n_even (l : Launch) (D : va_G) (k : KT) (A : Nat → Prop) (a : Nat → Nat) (z : SK) (G : GS) (p0 : Int32) (p1 : Int32) (p2 : Int32) (p3 : Int32) (p4 : Int32) (hP9 : gP G = 1) : Met l yX12_even (WS yX12_even cX12_even 8 (some .int)) ({ frames := 5, cells := 0, slots := 0, locals := 117 }) (va_Pc [.ref (a 66), .int p0, .int p1, .int p2, .int p3, .int p4] (cW D k A a z G)) (va_Qi (fun (r : Int32) (G1 : GS) => Q_even p0 p1 p2 p3 p4 G r G1) (fun (G1 : GS) t => Wd D k A a G1 t.heap) A) 0 0 A := by
  refine Met.ofW (cc := cX12_even) (maxL := 8) (ret := (some .int)) (by decide) rfl ?_
  intro p e s m args below meth c s₁ B hml hv
  obtain ⟨rfl, hW, hB_G, hK, hZ⟩ := hv
  have hx := B.exec
  have hb := B.bytes
  have hr := B.returns
  have hts := atoms_spec (ws := WS yX12_even cX12_even 8 (some .int)) B.pre
  have hgd : ∀ w ∈ gd, w ∈ WS yX12_even cX12_even 8 (some .int) := fun w h => List.mem_cons_of_mem _ h
  have hg : ∀ w ∈ gd, w.before _ s = true := fun w h => hts w (hgd w h)
  have hown : s.vm.findClass RX12 = some m.cls := findClass_of_methodNamed B.named
  have hS : va_S A s.heap s.heap [] := va_S.rf
  have hF : Fr [76, 97, 98] [(66, 59), (66, 60), (66, 61), (66, 62), (66, 63)] G G := Fr.rf
  have hl := lv_entry ([.ref (a 66), .int p0, .int p1, .int p2, .int p3, .int p4]) (n := 8) (Nat.le_of_ble_eq_true rfl)
  rw [lg_entry_eq]
  generalize (lg_sl ([.ref (a 66), .int p0, .int p1, .int p2, .int p3, .int p4]) ++ List.replicate (8 - (lg_sl ([.ref (a 66), .int p0, .int p1, .int p2, .int p3, .int p4])).length) Slot.unset).toArray = ls at hl ⊢
  have hl : lv_has ls 8 [(0, .ref (a 66)), (1, .int p0), (2, .int p1), (3, .int p2), (4, .int p3), (5, .int p4)] := hl
  refine lv_aload_n hx hb dX12_even_0 rfl (lv_at hl 0 rfl) ?_
  refine lv_iload_n hx hb dX12_even_1 rfl (lv_at hl 1 rfl) ?_
  refine lv_iload_n hx hb dX12_even_2 rfl (lv_at hl 2 rfl) ?_
  refine lv_iload_n hx hb dX12_even_3 rfl (lv_at hl 3 rfl) ?_
  refine S_calli (va_runV (As := [.int p0, .int p1, .int p2]) (rest := []) ⟨hx, hb, hml, hown, hts⟩ (n_isAsked l D k A a z G p0 p1 p2 ) (cwV 3 hts (gd_V hgd m1826 m1828 m89 m131 m1829) rfl rfl rfl hd_X12_isAsked ⟨Nat.le_of_ble_eq_true rfl, Nat.le_of_ble_eq_true rfl⟩) (pre_W hW hB_G hK hZ hS kd_66 rfl) rfl rfl hl.1 rfl (lv_room (Nat.le_of_ble_eq_true rfl)) dX12_even_4 ⟨Nat.le_of_ble_eq_true rfl, Nat.le_of_ble_eq_true rfl⟩) hS (fun r_1 G_2 H locs hpo hW hS => ?_)
  have hX_5 : Q_isAsked p0 p1 p2 G r_1 G_2 := hpo
  obtain ⟨hB_G_2, hq_3, f_6, hp_4, -⟩ := hpo
  have hF := hF.call9 hq_3 rfl rfl
  refine lv_if_eq (tgt := 31) hx hb dX12_even_7 rfl (fun c_7 => ?_) (fun c_7 => ?_)
  · have c_7 : r_1.toInt = 0 := xI_eq rfl rfl c_7
    refine ic_m1 hx hb dX12_even_31 ?_
    exact W.iret (v := (-1)) hx hb hr (fun t ht _ => ⟨⟨(-1), G_2, rfl, (Q_even_mk ⟨hB_G_2, hF, ⟨r_1, G_2, hX_5, (Or.inl ⟨c_7, ⟨rfl, rfl⟩⟩)⟩⟩), wd_t ht hW⟩, hS.F ht⟩) hS.2.2 dX12_even_32
  · have c_7 : r_1.toInt ≠ 0 := xI_ne rfl rfl c_7
    refine lv_aload_n hx hb dX12_even_10 rfl (lv_at hl 0 rfl) ?_
    refine lv_iload_n hx hb dX12_even_11 rfl (lv_at hl 2 rfl) ?_
    refine lv_iload hx hb dX12_even_12 (lv_at hl 4 rfl) ?_
    refine S_calli (va_runV (As := [.int p1, .int p3]) (rest := []) ⟨hx, hb, hml, hown, hts⟩ (n_isInch l D k A a z G_2 p1 p3 ⟨by omega, by omega⟩) (cwV 2 hts (gd_V hgd m1784 m1786 m84 m131 m1787) rfl rfl rfl hd_X12_isInch ⟨Nat.le_of_ble_eq_true rfl, Nat.le_of_ble_eq_true rfl⟩) (pre_W hW hB_G_2 hK hZ hS kd_66 rfl) rfl rfl hl.1 rfl (lv_room (Nat.le_of_ble_eq_true rfl)) dX12_even_14 ⟨Nat.le_of_ble_eq_true rfl, Nat.le_of_ble_eq_true rfl⟩) hS (fun r_8 G_9 H locs hpo hW hS => ?_)
    have hX_12 : Q_isInch p1 p3 G_2 r_8 G_9 := hpo
    obtain ⟨hB_G_9, hq_10, f_13, hp_11, -⟩ := hpo
    have hF := hF.call9 hq_10 rfl rfl
    refine lv_if_eq (tgt := 31) hx hb dX12_even_17 rfl (fun c_14 => ?_) (fun c_14 => ?_)
    · have c_14 : r_8.toInt = 0 := xI_eq rfl rfl c_14
      refine ic_m1 hx hb dX12_even_31 ?_
      exact W.iret (v := (-1)) hx hb hr (fun t ht _ => ⟨⟨(-1), G_9, rfl, (Q_even_mk ⟨hB_G_9, hF, ⟨r_1, G_2, hX_5, (Or.inr ⟨c_7, ⟨r_8, G_9, hX_12, (Or.inl ⟨c_14, ⟨rfl, rfl⟩⟩)⟩⟩)⟩⟩), wd_t ht hW⟩, hS.F ht⟩) hS.2.2 dX12_even_32
    · have c_14 : r_8.toInt ≠ 0 := xI_ne rfl rfl c_14
      refine lv_iload hx hb dX12_even_20 (lv_at hl 5 rfl) ?_
      refine ic_1 hx hb dX12_even_22 ?_
      refine lv_bipush (v := 99) hx hb dX12_even_23 (by decide) ?_
      have qc_15 : (1 : Int32).toInt = 1 := rfl
      have qc_16 : (99 : Int32).toInt = 99 := rfl
      refine S_calli (va_runS (As := [.int p4, .int 1, .int 99]) (rest := []) ⟨hx, hb, hml, hown, hts⟩ (n_isIn l D k A a z G_9 p4 1 99 ) (va_cwS 3 hts (gd_S hgd m1781 m1782 m131 m1783) rfl rfl rfl hd_X12_isIn.2 ⟨Nat.le_of_ble_eq_true rfl, Nat.le_of_ble_eq_true rfl⟩) (pre_S hW hB_G_9 hK hZ hS) rfl rfl hl.1 rfl (lv_room (Nat.le_of_ble_eq_true rfl)) dX12_even_25 ⟨Nat.le_of_ble_eq_true rfl, Nat.le_of_ble_eq_true rfl⟩) hS (fun r_17 G_18 H locs hpo hW hS => ?_)
      have hX_21 : Q_isIn p4 1 99 G_9 r_17 G_18 := hpo
      obtain ⟨hB_G_18, hq_19, f_22, ⟨d_1, d_2⟩, -⟩ := hpo
      have hF := hF.call9 hq_19 rfl rfl
      refine lv_if_ne (tgt := 33) hx hb dX12_even_28 rfl (fun c_23 => ?_) (fun c_23 => ?_)
      · have c_23 : r_17.toInt ≠ 0 := xI_ne rfl rfl c_23
        refine lv_aload_n hx hb dX12_even_33 rfl (lv_at hl 0 rfl) ?_
        refine lv_iload_n hx hb dX12_even_34 rfl (lv_at hl 1 rfl) ?_
        refine lv_iload_n hx hb dX12_even_35 rfl (lv_at hl 2 rfl) ?_
        refine lv_iload_n hx hb dX12_even_36 rfl (lv_at hl 3 rfl) ?_
        have fr_24 : Fr [] [] G G_18 := (Fr.call9 (rs := []) (fs := []) (Fr.call9 (rs := []) (fs := []) (Fr.call9 (rs := []) (fs := []) Fr.rf hq_3 rfl rfl) hq_10 rfl rfl) hq_19 rfl rfl)
        have g_25 : gP G_18 = gP G := gP_fr fr_24 (gr_q rfl) (gf_q rfl)
        refine S_callv (va_runV (As := [.int p0, .int p1, .int p2]) (rest := []) ⟨hx, hb, hml, hown, hts⟩ (n_layStreet l D k A a z G_18 p0 p1 p2 ⟨(by first | (clear hP9 f_13 hp_11 c_14 f_22 d_1 d_2 c_23 g_25; omega) | omega), (by first | (clear hP9 f_13 hp_11 c_14 f_22 d_1 d_2 c_23 g_25; omega) | omega)⟩ ⟨(by first | (clear hP9 f_13 hp_11 c_14 f_22 d_1 d_2 c_23 g_25; omega) | omega), (by first | (clear hP9 f_13 hp_11 c_14 f_22 d_1 d_2 c_23 g_25; omega) | omega)⟩ ((by first | (clear f_6 hp_4 c_7 f_13 hp_11 c_14 f_22 d_1 d_2 c_23; omega) | omega))) (cwV 3 hts (gd_V hgd m1834 m1836 m91 m131 m1837) rfl rfl rfl hd_X12_layStreet ⟨Nat.le_of_ble_eq_true rfl, Nat.le_of_ble_eq_true rfl⟩) (pre_W hW hB_G_18 hK hZ hS kd_66 rfl) rfl rfl hl.1 rfl (lv_room (Nat.le_of_ble_eq_true rfl)) dX12_even_37 ⟨Nat.le_of_ble_eq_true rfl, Nat.le_of_ble_eq_true rfl⟩) hS (fun G_27 H locs hpo hW hS => ?_)
        have hX_30 : Q_layStreet p0 p1 p2 G_18 G_27 := hpo
        obtain ⟨hB_G_27, hq_28, ⟨d_3, d_4, d_5, d_6, d_7, d_8⟩, -⟩ := hpo
        have hF := hF.call9 hq_28 rfl rfl
        refine ic_0 hx hb dX12_even_40 ?_
        refine lv_istore (lv' := [(6, .int 0), (0, .ref (a 66)), (1, .int p0), (2, .int p1), (3, .int p2), (4, .int p3), (5, .int p4)]) hx hb dX12_even_41 hl (lt_b rfl) rfl (fun ls hl => ?_)
        refine lv_iload hx hb dX12_even_43 (lv_at hl 5 rfl) ?_
        refine lv_istore (lv' := [(7, .int p3), (6, .int 0), (0, .ref (a 66)), (1, .int p0), (2, .int p1), (3, .int p2), (4, .int p3), (5, .int p4)]) hx hb dX12_even_45 hl (lt_b rfl) rfl (fun ls hl => ?_)
        have qc_38 : (0 : Int32).toInt = 0 := rfl
        refine loop_N (Inv := fun n H locs ls => ∃ (G_31 : GS) (x_35 : Int32) (x_36 : Int32), (n : Int) = 600 - x_35.toInt ∧ (0 ≤ x_35.toInt ∧ x_35.toInt ≤ 500) ∧ Rc (St_n_even_1 p4) (p3, 0, G_27) (x_35, x_36, G_31) ∧ Wd D k A a G_31 H ∧ Bd G_31 ∧ Fr [76, 97, 98] [(66, 59), (66, 60), (66, 61), (66, 62), (66, 63)] G G_31 ∧ Fr [] [] G_27 G_31 ∧ va_S A s.heap H locs ∧ lv_has ls 8 [(7, .int x_35), (6, .int x_36), (0, .ref (a 66)), (5, .int p4)]) (fun n_34 H locs ls ih_33 hI => ?_) (600 - p3.toInt : Int).toNat ⟨G_27, p3, 0, (Int.toNat_of_nonneg ((by first | (clear hP9 f_6 hp_4 c_7 f_22 d_1 d_2 c_23 g_25 d_3 d_4 d_5 d_6 d_7 d_8; omega) | omega))), ⟨(by first | (clear hP9 f_6 hp_4 c_7 f_22 d_1 d_2 c_23 g_25 d_3 d_4 d_5 d_6 d_7 d_8; omega) | omega), (by first | (clear hP9 f_6 hp_4 c_7 f_22 d_1 d_2 c_23 g_25 d_3 d_4 d_5 d_6 d_7 d_8; omega) | omega)⟩, Rc.rf, hW, hB_G_27, hF, Fr.rf, hS, lv_sub hl [0, 1, 2, 7] rfl⟩
        obtain ⟨G_31, x_35, x_36, hn_40, f_39, hX_37, hW, hB_G_31, hF, hq_32, hS, hl⟩ := hI
        refine lv_iload hx hb dX12_even_47 (lv_at hl 0 rfl) ?_
        refine lv_sipush (v := 400) hx hb dX12_even_49 (by decide) ?_
        refine lv_icmp_ge (tgt := 78) hx hb dX12_even_52 rfl (fun c_41 => ?_) (fun c_41 => ?_)
        · have c_41 : 400 ≤ x_35.toInt := xI_le rfl rfl c_41
          refine lv_iload hx hb dX12_even_78 (lv_at hl 1 rfl) ?_
          exact W.iret (v := x_36) hx hb hr (fun t ht _ => ⟨⟨x_36, G_31, rfl, (Q_even_mk ⟨hB_G_31, hF, ⟨r_1, G_2, hX_5, (Or.inr ⟨c_7, ⟨r_8, G_9, hX_12, (Or.inr ⟨c_14, ⟨r_17, G_18, hX_21, (Or.inr ⟨c_23, ⟨G_27, hX_30, ⟨x_35, x_36, G_31, hX_37, f_39, hB_G_31, hq_32, (Or.inl ⟨c_41, ⟨rfl, rfl⟩⟩)⟩⟩⟩)⟩⟩)⟩⟩)⟩⟩), wd_t ht hW⟩, hS.F ht⟩) hS.2.2 dX12_even_80
        · have c_41 : x_35.toInt < 400 := xI_nle rfl rfl c_41
          refine lv_aload_n hx hb dX12_even_55 rfl (lv_at hl 2 rfl) ?_
          refine S_getR (n := 98) (C := RX12) (T := TX12) (N := 89) hx hb hg iX12 hown hK hW kd_66 rfl 58 (lt_b rfl) (hg (Cond.fieldLink RX12 115 "SlabWalkModel" "lawful" "[Z") m1372) (fun _ h9 => h9) rfl dX12_even_56 ?_
          refine lv_iload hx hb dX12_even_59 (lv_at hl 0 rfl) ?_
          refine S_zald hx hb hK hW kd_98 (vin ((by first | (clear hP9 f_6 hp_4 c_7 f_13 hp_11 c_14 f_22 d_1 d_2 c_23 g_25 d_3 d_4 d_5 d_6 d_7 d_8 hn_40; omega) | omega)) ((by first | (clear hP9 f_6 hp_4 c_7 f_13 hp_11 c_14 f_22 d_1 d_2 c_23 g_25 d_3 d_4 d_5 d_6 d_7 d_8 hn_40; omega) | omega))) dX12_even_61 (fun y_42 ey_42 => ?_)
          have ty_42 := hB_G_31.law ey_42
          refine lv_if_eq (tgt := 78) hx hb dX12_even_62 rfl (fun c_43 => ?_) (fun c_43 => ?_)
          · have c_43 : y_42.toInt = 0 := xI_eq rfl rfl c_43
            refine lv_iload hx hb dX12_even_78 (lv_at hl 1 rfl) ?_
            exact W.iret (v := x_36) hx hb hr (fun t ht _ => ⟨⟨x_36, G_31, rfl, (Q_even_mk ⟨hB_G_31, hF, ⟨r_1, G_2, hX_5, (Or.inr ⟨c_7, ⟨r_8, G_9, hX_12, (Or.inr ⟨c_14, ⟨r_17, G_18, hX_21, (Or.inr ⟨c_23, ⟨G_27, hX_30, ⟨x_35, x_36, G_31, hX_37, f_39, hB_G_31, hq_32, (Or.inr ⟨c_41, ⟨y_42, ey_42, ⟨c_43, ⟨rfl, rfl⟩⟩⟩⟩)⟩⟩⟩)⟩⟩)⟩⟩)⟩⟩), wd_t ht hW⟩, hS.F ht⟩) hS.2.2 dX12_even_80
          · have c_43 : y_42.toInt ≠ 0 := xI_ne rfl rfl c_43
            obtain ⟨y_44, ey_44⟩ : ∃ q, q = x_36 + 1 := ⟨_, rfl⟩
            refine lv_iinc (v := y_44) (lv' := [(6, .int y_44), (7, .int x_35), (0, .ref (a 66)), (5, .int p4)]) hx hb dX12_even_65 hl (k := 1) rfl (by rw [ey_44]; rfl) (lt_b rfl) rfl (fun ls hl => ?_)
            refine lv_iload hx hb dX12_even_68 (lv_at hl 1 rfl) ?_
            refine lv_iload hx hb dX12_even_70 (lv_at hl 3 rfl) ?_
            refine lv_iadd hx hb dX12_even_72 ?_
            refine lv_topi (fun y_45 ey_45 => ?_)
            have ty_45 : y_45.toInt = x_35.toInt + p4.toInt := xI_add rfl rfl ey_45 ((by first | (clear hP9 f_6 hp_4 c_7 f_13 hp_11 c_14 g_25 d_3 d_4 d_5 d_6 d_7 d_8 hn_40 c_43; omega) | omega)) ((by first | (clear hP9 f_6 hp_4 c_7 f_13 hp_11 c_14 g_25 d_3 d_4 d_5 d_6 d_7 d_8 hn_40 c_43; omega) | omega))
            refine lv_istore (lv' := [(7, .int y_45), (6, .int y_44), (0, .ref (a 66)), (5, .int p4)]) hx hb dX12_even_73 hl (lt_b rfl) rfl (fun ls hl => ?_)
            refine lv_goto (tgt := 47) hx hb dX12_even_75 rfl ?_
            exact ih_33 (600 - y_45.toInt : Int).toNat ((by first | (clear hP9 f_6 hp_4 c_7 f_13 hp_11 c_14 g_25 d_3 d_4 d_5 d_6 d_7 d_8 c_43; omega) | omega)) _ _ _ ⟨G_31, y_45, y_44, (Int.toNat_of_nonneg ((by first | (clear hP9 f_6 hp_4 c_7 f_13 hp_11 c_14 g_25 d_3 d_4 d_5 d_6 d_7 d_8 hn_40 c_43; omega) | omega))), ⟨(by first | (clear hP9 f_6 hp_4 c_7 f_13 hp_11 c_14 g_25 d_3 d_4 d_5 d_6 d_7 d_8 hn_40 c_43; omega) | omega), (by first | (clear hP9 f_6 hp_4 c_7 f_13 hp_11 c_14 g_25 d_3 d_4 d_5 d_6 d_7 d_8 hn_40 c_43; omega) | omega)⟩, (hX_37.st (St_n_even_1_mk ⟨x_35, x_36, G_31, y_45, y_44, G_31, rfl, rfl, f_39, hB_G_31, ⟨c_41, ⟨y_42, ey_42, ⟨c_43, ⟨y_44, ey_44, ⟨y_45, ty_45, ⟨rfl, rfl, rfl⟩⟩⟩⟩⟩⟩⟩)), hW, hB_G_31, hF, (Fr.call9 (rs := []) (fs := []) Fr.rf hq_32 rfl rfl), hS, lv_sub hl [0, 1, 2, 3] rfl⟩
      · have c_23 : r_17.toInt = 0 := xI_eq rfl rfl c_23
        refine ic_m1 hx hb dX12_even_31 ?_
        exact W.iret (v := (-1)) hx hb hr (fun t ht _ => ⟨⟨(-1), G_18, rfl, (Q_even_mk ⟨hB_G_18, hF, ⟨r_1, G_2, hX_5, (Or.inr ⟨c_7, ⟨r_8, G_9, hX_12, (Or.inr ⟨c_14, ⟨r_17, G_18, hX_21, (Or.inl ⟨c_23, ⟨rfl, rfl⟩⟩)⟩⟩)⟩⟩)⟩⟩), wd_t ht hW⟩, hS.F ht⟩) hS.2.2 dX12_even_32

set_option maxHeartbeats 4000000 in
set_option maxRecDepth 100000 in
theorem n_evens (l : Launch) (D : va_G) (k : KT) (A : Nat → Prop) (a : Nat → Nat) (z : SK) (G : GS) (p0 : Int32) (p1 : Int32) (p2 : Int32) (hP9 : gP G = 1) (hW9 : gW G = 1) : Met l yX12_evens (WS yX12_evens cX12_evens 7 (some .int)) ({ frames := 5, cells := 0, slots := 0, locals := 117 }) (va_Pc [.ref (a 66), .int p0, .int p1, .int p2] (cW D k A a z G)) (va_Qi (fun (r : Int32) (G1 : GS) => Q_evens p0 p1 p2 G r G1) (fun (G1 : GS) t => Wd D k A a G1 t.heap) A) 0 0 A := by
  refine Met.ofW (cc := cX12_evens) (maxL := 7) (ret := (some .int)) (by decide) rfl ?_
  intro p e s m args below meth c s₁ B hml hv
  obtain ⟨rfl, hW, hB_G, hK, hZ⟩ := hv
  have hx := B.exec
  have hb := B.bytes
  have hr := B.returns
  have hts := atoms_spec (ws := WS yX12_evens cX12_evens 7 (some .int)) B.pre
  have hgd : ∀ w ∈ gd, w ∈ WS yX12_evens cX12_evens 7 (some .int) := fun w h => List.mem_cons_of_mem _ h
  have hg : ∀ w ∈ gd, w.before _ s = true := fun w h => hts w (hgd w h)
  have hown : s.vm.findClass RX12 = some m.cls := findClass_of_methodNamed B.named
  have hS : va_S A s.heap s.heap [] := va_S.rf
  have hF : Fr [100, 76, 97, 98] [(66, 59), (66, 60), (66, 61), (66, 62), (66, 63), (66, 66)] G G := Fr.rf
  have hl := lv_entry ([.ref (a 66), .int p0, .int p1, .int p2]) (n := 7) (Nat.le_of_ble_eq_true rfl)
  rw [lg_entry_eq]
  generalize (lg_sl ([.ref (a 66), .int p0, .int p1, .int p2]) ++ List.replicate (7 - (lg_sl ([.ref (a 66), .int p0, .int p1, .int p2])).length) Slot.unset).toArray = ls at hl ⊢
  have hl : lv_has ls 7 [(0, .ref (a 66)), (1, .int p0), (2, .int p1), (3, .int p2)] := hl
  refine lv_aload_n hx hb dX12_evens_0 rfl (lv_at hl 0 rfl) ?_
  refine ic_0 hx hb dX12_evens_1 ?_
  refine S_putI (ty := .int) (C := RX12) (T := TX12) (N := 89) hx hb hg iX12 tyX12 tyX12_ok nmX12 hown hK hW hS kd_66 rfl 66 (lt_b rfl) (hg (Cond.fieldLink RX12 446 "SlabWalkModel" "lain" "I") m1380) (fun _ h9 => h9) rfl (by decide +kernel) rfl rfl rfl dX12_evens_2 (fun G_1 H locs eG_1 hW hS => ?_)
  have hB_G_1 : Bd G_1 := hB_G.put (V := 0) (lo := 0) (hi := 400) eG_1 rfl rfl rfl (by decide) (by decide) (hB_G.2.put eG_1 rfl)
  have hF := hF.put eG_1 (Or.inr (by decide))
  refine lv_aload_n hx hb dX12_evens_5 rfl (lv_at hl 0 rfl) ?_
  refine lv_iload_n hx hb dX12_evens_6 rfl (lv_at hl 1 rfl) ?_
  refine lv_iload_n hx hb dX12_evens_7 rfl (lv_at hl 2 rfl) ?_
  refine lv_iload_n hx hb dX12_evens_8 rfl (lv_at hl 3 rfl) ?_
  have b_2 : 0 ≤ (G.1 66 52).toInt ∧ (G.1 66 52).toInt ≤ 3 := bd_66_52 hB_G
  have g_3 : (G_1.1 66 52).toInt = (G.1 66 52).toInt := (congrArg Int32.toInt (show G_1.1 66 52 = (G.1 66 52) from (gp_ne eG_1 (by decide))))
  have b_4 : 0 ≤ (G.1 66 53).toInt ∧ (G.1 66 53).toInt ≤ 4 := bd_66_53 hB_G
  have g_5 : (G_1.1 66 53).toInt = (G.1 66 53).toInt := (congrArg Int32.toInt (show G_1.1 66 53 = (G.1 66 53) from (gp_ne eG_1 (by decide))))
  refine S_calli (va_runV (As := [.int p0, .int p1, .int p2]) (rest := []) ⟨hx, hb, hml, hown, hts⟩ (n_isAsked l D k A a z G_1 p0 p1 p2 ) (cwV 3 hts (gd_V hgd m1826 m1828 m89 m131 m1829) rfl rfl rfl hd_X12_isAsked ⟨Nat.le_of_ble_eq_true rfl, Nat.le_of_ble_eq_true rfl⟩) (pre_W hW hB_G_1 hK hZ hS kd_66 rfl) rfl rfl hl.1 rfl (lv_room (Nat.le_of_ble_eq_true rfl)) dX12_evens_9 ⟨Nat.le_of_ble_eq_true rfl, Nat.le_of_ble_eq_true rfl⟩) hS (fun r_6 G_7 H locs hpo hW hS => ?_)
  have hX_10 : Q_isAsked p0 p1 p2 G_1 r_6 G_7 := hpo
  obtain ⟨hB_G_7, hq_8, f_11, hp_9, -⟩ := hpo
  have hF := hF.call9 hq_8 rfl rfl
  refine lv_if_ne (tgt := 17) hx hb dX12_evens_12 rfl (fun c_12 => ?_) (fun c_12 => ?_)
  · have c_12 : r_6.toInt ≠ 0 := xI_ne rfl rfl c_12
    refine lv_aload_n hx hb dX12_evens_17 rfl (lv_at hl 0 rfl) ?_
    refine lv_iload_n hx hb dX12_evens_18 rfl (lv_at hl 1 rfl) ?_
    refine lv_iload_n hx hb dX12_evens_19 rfl (lv_at hl 2 rfl) ?_
    refine lv_iload_n hx hb dX12_evens_20 rfl (lv_at hl 3 rfl) ?_
    have fr_13 : Fr [] [(66, 66)] G G_7 := (Fr.call9 (rs := []) (fs := [(66, 66)]) (Fr.put (rs := []) (fs := [(66, 66)]) Fr.rf eG_1 (Or.inr (by decide))) hq_8 rfl rfl)
    have g_14 : gP G_7 = gP G := gP_fr fr_13 (gr_q rfl) (gf_q rfl)
    refine S_callv (va_runV (As := [.int p0, .int p1, .int p2]) (rest := []) ⟨hx, hb, hml, hown, hts⟩ (n_layStreet l D k A a z G_7 p0 p1 p2 ⟨(by first | (clear hP9 hW9 g_14; omega) | omega), (by first | (clear hP9 hW9 g_14; omega) | omega)⟩ ⟨(by first | (clear hP9 hW9 g_14; omega) | omega), (by first | (clear hP9 hW9 g_14; omega) | omega)⟩ ((by first | (clear hW9 b_2 g_3 b_4 g_5 f_11 hp_9 c_12; omega) | omega))) (cwV 3 hts (gd_V hgd m1834 m1836 m91 m131 m1837) rfl rfl rfl hd_X12_layStreet ⟨Nat.le_of_ble_eq_true rfl, Nat.le_of_ble_eq_true rfl⟩) (pre_W hW hB_G_7 hK hZ hS kd_66 rfl) rfl rfl hl.1 rfl (lv_room (Nat.le_of_ble_eq_true rfl)) dX12_evens_21 ⟨Nat.le_of_ble_eq_true rfl, Nat.le_of_ble_eq_true rfl⟩) hS (fun G_16 H locs hpo hW hS => ?_)
    have hX_19 : Q_layStreet p0 p1 p2 G_7 G_16 := hpo
    obtain ⟨hB_G_16, hq_17, ⟨d_1, d_2, d_3, d_4, d_5, d_6⟩, -⟩ := hpo
    have hF := hF.call9 hq_17 rfl rfl
    have b_20 : 0 ≤ (G.1 66 53).toInt ∧ (G.1 66 53).toInt ≤ 4 := hB_G.i 66 53 rfl rfl
    have u_21 := gW_at hW9 p0 (by first | (clear hP9 hW9 g_14; omega) | omega) (by first | (clear hP9 hW9 g_14; omega) | omega)
    have u_22 : (G_7.1 92 p0.toNatClampNeg).toInt = (G.1 92 p0.toNatClampNeg).toInt := congrArg Int32.toInt (((hq_8.ri9 92 rfl p0.toNatClampNeg).trans (gp_ne eG_1 (fun q => absurd q.1 (Nat.ne_of_beq_eq_false rfl)))))
    have u_23 : (G_7.1 93 p0.toNatClampNeg).toInt = (G.1 93 p0.toNatClampNeg).toInt := congrArg Int32.toInt (((hq_8.ri9 93 rfl p0.toNatClampNeg).trans (gp_ne eG_1 (fun q => absurd q.1 (Nat.ne_of_beq_eq_false rfl)))))
    have u_24 : (G_7.1 94 p0.toNatClampNeg).toInt = (G.1 94 p0.toNatClampNeg).toInt := congrArg Int32.toInt (((hq_8.ri9 94 rfl p0.toNatClampNeg).trans (gp_ne eG_1 (fun q => absurd q.1 (Nat.ne_of_beq_eq_false rfl)))))
    have u_25 : (G_7.1 95 p0.toNatClampNeg).toInt = (G.1 95 p0.toNatClampNeg).toInt := congrArg Int32.toInt (((hq_8.ri9 95 rfl p0.toNatClampNeg).trans (gp_ne eG_1 (fun q => absurd q.1 (Nat.ne_of_beq_eq_false rfl)))))
    have b_26 : 0 ≤ (G_16.1 66 60).toInt ∧ (G_16.1 66 60).toInt ≤ 12 := bd_66_60 hB_G_16
    have b_27 : 0 ≤ (G_16.1 66 61).toInt ∧ (G_16.1 66 61).toInt ≤ 60 := bd_66_61 hB_G_16
    have b_28 : 0 ≤ (G_16.1 66 62).toInt ∧ (G_16.1 66 62).toInt ≤ 60 := bd_66_62 hB_G_16
    have b_29 : 0 ≤ (G_16.1 66 63).toInt ∧ (G_16.1 66 63).toInt ≤ 99 := bd_66_63 hB_G_16
    refine lv_aload_n hx hb dX12_evens_24 rfl (lv_at hl 0 rfl) ?_
    refine S_getI (v := (G_16.1 66 61)) (C := RX12) (T := TX12) (N := 89) hx hb hg iX12 hown hK hW kd_66 rfl 61 (lt_b rfl) (hg (Cond.fieldLink RX12 475 "SlabWalkModel" "least" "I") m1375) (fun _ h9 => h9) rfl rfl dX12_evens_25 ?_
    refine lv_istore (lv' := [(4, .int (G_16.1 66 61)), (0, .ref (a 66)), (1, .int p0), (2, .int p1), (3, .int p2)]) hx hb dX12_evens_28 hl (lt_b rfl) rfl (fun ls hl => ?_)
    have g_36 : (G_16.1 66 66).toInt = 0 := (congrArg Int32.toInt (show G_16.1 66 66 = 0 from ((hq_17.i9 66 66 rfl rfl).trans ((hq_8.i9 66 66 rfl rfl).trans (gp_eq eG_1))))).trans rfl
    refine loop_N (Inv := fun n H locs ls => ∃ (G_30 : GS) (x_34 : Int32), (n : Int) = 61 - x_34.toInt ∧ (1 ≤ x_34.toInt ∧ x_34.toInt ≤ 61) ∧ ((G_30.1 66 66).toInt ≤ x_34.toInt) ∧ Rc (St_n_evens_1 G_16) ((G_16.1 66 61), G_16) (x_34, G_30) ∧ Wd D k A a G_30 H ∧ Bd G_30 ∧ Fr [100, 76, 97, 98] [(66, 59), (66, 60), (66, 61), (66, 62), (66, 63), (66, 66)] G G_30 ∧ Fr [100] [(66, 66)] G_16 G_30 ∧ va_S A s.heap H locs ∧ lv_has ls 7 [(4, .int x_34), (0, .ref (a 66))]) (fun n_33 H locs ls ih_32 hI => ?_) (61 - (G_16.1 66 61).toInt : Int).toNat ⟨G_16, (G_16.1 66 61), (Int.toNat_of_nonneg ((by first | (clear hP9 hW9 g_14 g_36; omega) | omega))), ⟨(by first | (clear hP9 hW9 g_14 g_36; omega) | omega), (by first | (clear hP9 hW9 g_14 g_36; omega) | omega)⟩, ((by first | (clear hP9 hW9 g_14; omega) | omega)), Rc.rf, hW, hB_G_16, hF, Fr.rf, hS, lv_sub hl [0, 1] rfl⟩
    obtain ⟨G_30, x_34, hn_39, f_37, f_38, hX_35, hW, hB_G_30, hF, hq_31, hS, hl⟩ := hI
    have b_40 : 0 ≤ (G_30.1 66 66).toInt ∧ (G_30.1 66 66).toInt ≤ 400 := bd_66_66 hB_G_30
    refine lv_iload hx hb dX12_evens_30 (lv_at hl 0 rfl) ?_
    refine lv_aload_n hx hb dX12_evens_32 rfl (lv_at hl 1 rfl) ?_
    refine S_getI (v := (G_16.1 66 62)) (C := RX12) (T := TX12) (N := 89) hx hb hg iX12 hown hK hW kd_66 rfl 62 (lt_b rfl) (hg (Cond.fieldLink RX12 478 "SlabWalkModel" "most" "I") m1376) (fun _ h9 => h9) rfl ((hq_31.i9 66 62 rfl rfl).trans (rfl)) dX12_evens_33 ?_
    refine lv_icmp_gt (tgt := 92) hx hb dX12_evens_36 rfl (fun c_41 => ?_) (fun c_41 => ?_)
    · have c_41 : (G_16.1 66 62).toInt < x_34.toInt := xI_lt rfl rfl c_41
      refine lv_aload_n hx hb dX12_evens_92 rfl (lv_at hl 1 rfl) ?_
      refine S_getI (v := (G_30.1 66 66)) (C := RX12) (T := TX12) (N := 89) hx hb hg iX12 hown hK hW kd_66 rfl 66 (lt_b rfl) (hg (Cond.fieldLink RX12 446 "SlabWalkModel" "lain" "I") m1380) (fun _ h9 => h9) rfl rfl dX12_evens_93 ?_
      exact W.iret (v := (G_30.1 66 66)) hx hb hr (fun t ht _ => ⟨⟨(G_30.1 66 66), G_30, rfl, (Q_evens_mk ⟨hB_G_30, hF, ⟨G_1, hB_G_1, (Fr.put (rs := []) (fs := [(66, 66)]) Fr.rf eG_1 (Or.inr (by decide))), (gp_eq eG_1), ⟨r_6, G_7, hX_10, (Or.inr ⟨c_12, ⟨G_16, hX_19, ⟨x_34, G_30, hX_35, f_37, f_38, hB_G_30, hq_31, ⟨c_41, ⟨rfl, rfl⟩⟩⟩⟩⟩)⟩⟩⟩), wd_t ht hW⟩, hS.F ht⟩) hS.2.2 dX12_evens_96
    · have c_41 : x_34.toInt ≤ (G_16.1 66 62).toInt := xI_nlt rfl rfl c_41
      refine ic_0 hx hb dX12_evens_39 ?_
      refine lv_istore (lv' := [(5, .int 0), (4, .int x_34), (0, .ref (a 66))]) hx hb dX12_evens_40 hl (lt_b rfl) rfl (fun ls hl => ?_)
      refine ic_0 hx hb dX12_evens_42 ?_
      refine lv_istore (lv' := [(6, .int 0), (5, .int 0), (4, .int x_34), (0, .ref (a 66))]) hx hb dX12_evens_43 hl (lt_b rfl) rfl (fun ls hl => ?_)
      have qc_49 : (0 : Int32).toInt = 0 := rfl
      refine loop_N (Inv := fun n H locs ls => ∃ (G_42 : GS) (x_46 : Int32) (x_47 : Int32), (n : Int) = 60 - x_46.toInt ∧ (0 ≤ x_46.toInt ∧ x_46.toInt ≤ 60) ∧ (0 ≤ x_47.toInt ∧ x_47.toInt ≤ 1) ∧ Rc (St_n_evens_2 x_34 G_16) (0, 0, G_30) (x_46, x_47, G_42) ∧ Wd D k A a G_42 H ∧ Bd G_42 ∧ Fr [100, 76, 97, 98] [(66, 59), (66, 60), (66, 61), (66, 62), (66, 63), (66, 66)] G G_42 ∧ Fr [] [] G_30 G_42 ∧ va_S A s.heap H locs ∧ lv_has ls 7 [(6, .int x_46), (5, .int x_47), (4, .int x_34), (0, .ref (a 66))]) (fun n_45 H locs ls ih_44 hI => ?_) (60 - 0 : Int).toNat ⟨G_30, 0, 0, (Int.toNat_of_nonneg ((by first | (clear hP9 hW9 b_2 g_3 b_4 g_5 f_11 hp_9 c_12 g_14 d_1 d_2 d_3 d_4 d_5 d_6 b_20 u_22 u_23 u_24 u_25 b_26 b_27 b_28 b_29 g_36 hn_39 f_37 f_38 b_40 c_41; omega) | omega))), ⟨(by first | (clear hP9 hW9 b_2 g_3 b_4 g_5 f_11 hp_9 c_12 g_14 d_1 d_2 d_3 d_4 d_5 d_6 b_20 u_22 u_23 u_24 u_25 b_26 b_27 b_28 b_29 g_36 hn_39 f_37 f_38 b_40 c_41; omega) | omega), (by first | (clear hP9 hW9 b_2 g_3 b_4 g_5 f_11 hp_9 c_12 g_14 d_1 d_2 d_3 d_4 d_5 d_6 b_20 u_22 u_23 u_24 u_25 b_26 b_27 b_28 b_29 g_36 hn_39 f_37 f_38 b_40 c_41; omega) | omega)⟩, ⟨(by first | (clear hP9 hW9 b_2 g_3 b_4 g_5 f_11 hp_9 c_12 g_14 d_1 d_2 d_3 d_4 d_5 d_6 b_20 u_22 u_23 u_24 u_25 b_26 b_27 b_28 b_29 g_36 hn_39 f_37 f_38 b_40 c_41; omega) | omega), (by first | (clear hP9 hW9 b_2 g_3 b_4 g_5 f_11 hp_9 c_12 g_14 d_1 d_2 d_3 d_4 d_5 d_6 b_20 u_22 u_23 u_24 u_25 b_26 b_27 b_28 b_29 g_36 hn_39 f_37 f_38 b_40 c_41; omega) | omega)⟩, Rc.rf, hW, hB_G_30, hF, Fr.rf, hS, lv_sub hl [0, 1, 2, 3] rfl⟩
      obtain ⟨G_42, x_46, x_47, hn_52, f_50, f_51, hX_48, hW, hB_G_42, hF, hq_43, hS, hl⟩ := hI
      refine lv_iload hx hb dX12_evens_45 (lv_at hl 0 rfl) ?_
      refine lv_aload_n hx hb dX12_evens_47 rfl (lv_at hl 3 rfl) ?_
      refine S_getI (v := (G_16.1 66 62)) (C := RX12) (T := TX12) (N := 89) hx hb hg iX12 hown hK hW kd_66 rfl 62 (lt_b rfl) (hg (Cond.fieldLink RX12 478 "SlabWalkModel" "most" "I") m1376) (fun _ h9 => h9) rfl ((hq_43.i9 66 62 rfl rfl).trans ((hq_31.i9 66 62 rfl rfl).trans (rfl))) dX12_evens_48 ?_
      refine lv_icmp_ge (tgt := 75) hx hb dX12_evens_51 rfl (fun c_53 => ?_) (fun c_53 => ?_)
      · have c_53 : (G_16.1 66 62).toInt ≤ x_46.toInt := xI_le rfl rfl c_53
        refine lv_iload hx hb dX12_evens_75 (lv_at hl 1 rfl) ?_
        refine lv_if_eq (tgt := 86) hx hb dX12_evens_77 rfl (fun c_54 => ?_) (fun c_54 => ?_)
        · have c_54 : x_47.toInt = 0 := xI_eq rfl rfl c_54
          obtain ⟨y_55, ey_55⟩ : ∃ q, q = x_34 + 1 := ⟨_, rfl⟩
          have ty_55 : y_55.toInt = x_34.toInt + 1 := xI_add rfl rfl ey_55 ((by first | (clear hP9 hW9 b_2 b_4 f_11 c_12 g_14 b_20 g_36 hn_39 hn_52 f_50 f_51 c_54; omega) | omega)) ((by first | (clear hP9 hW9 b_2 b_4 f_11 c_12 g_14 b_20 g_36 hn_39 hn_52 f_50 f_51 c_54; omega) | omega))
          refine lv_iinc (v := y_55) (lv' := [(4, .int y_55), (6, .int x_46), (5, .int x_47), (0, .ref (a 66))]) hx hb dX12_evens_86 hl (k := 2) rfl (by rw [ey_55]; rfl) (lt_b rfl) rfl (fun ls hl => ?_)
          refine lv_goto (tgt := 30) hx hb dX12_evens_89 rfl ?_
          have g_56 : (G_42.1 66 66).toInt = (G_30.1 66 66).toInt := (congrArg Int32.toInt (show G_42.1 66 66 = (G_30.1 66 66) from ((hq_43.i9 66 66 rfl rfl).trans (rfl))))
          exact ih_32 (61 - y_55.toInt : Int).toNat ((by first | (clear hP9 hW9 b_2 b_4 f_11 c_12 g_14 b_20 g_36 f_50 f_51 c_54; omega) | omega)) _ _ _ ⟨G_42, y_55, (Int.toNat_of_nonneg ((by first | (clear hP9 hW9 b_2 b_4 f_11 c_12 g_14 b_20 g_36 hn_39 hn_52 f_50 f_51 c_54; omega) | omega))), ⟨(by first | (clear hP9 hW9 b_2 b_4 f_11 c_12 g_14 b_20 g_36 hn_39 hn_52 f_50 f_51 c_54; omega) | omega), (by first | (clear hP9 hW9 b_2 b_4 f_11 c_12 g_14 b_20 g_36 hn_39 hn_52 f_50 f_51 c_54; omega) | omega)⟩, ((by first | (clear hP9 hW9 b_2 b_4 f_11 c_12 g_14 b_20 g_36 hn_39 hn_52 f_50 f_51 c_54; omega) | omega)), (hX_35.st (St_n_evens_1_mk ⟨x_34, G_30, y_55, G_42, rfl, rfl, f_37, f_38, hB_G_30, ⟨c_41, ⟨x_46, x_47, G_42, hX_48, f_50, f_51, hB_G_42, hq_43, (Or.inl ⟨c_53, (Or.inl ⟨c_54, ⟨y_55, ty_55, ⟨rfl, rfl⟩⟩⟩)⟩)⟩⟩⟩)), hW, hB_G_42, hF, (Fr.call9 (rs := [100]) (fs := [(66, 66)]) (Fr.call9 (rs := [100]) (fs := [(66, 66)]) Fr.rf hq_31 rfl rfl) hq_43 rfl rfl), hS, lv_sub hl [0, 3] rfl⟩
        · have c_54 : x_47.toInt ≠ 0 := xI_ne rfl rfl c_54
          refine lv_aload_n hx hb dX12_evens_80 rfl (lv_at hl 3 rfl) ?_
          refine lv_iload hx hb dX12_evens_81 (lv_at hl 2 rfl) ?_
          have g_57 : (G_42.1 66 66).toInt = (G_30.1 66 66).toInt := (congrArg Int32.toInt (show G_42.1 66 66 = (G_30.1 66 66) from ((hq_43.i9 66 66 rfl rfl).trans (rfl))))
          have g_58 : (G_42.1 66 66).toInt = (G_30.1 66 66).toInt := (congrArg Int32.toInt (show G_42.1 66 66 = (G_30.1 66 66) from ((hq_43.i9 66 66 rfl rfl).trans (rfl))))
          refine S_callv (va_runV (As := [.int x_34]) (rest := []) ⟨hx, hb, hml, hown, hts⟩ (n_lay l D k A a z G_42 x_34 ((by first | (clear hP9 hW9 b_2 g_3 b_4 g_5 f_11 hp_9 c_12 g_14 d_1 d_6 b_20 b_26 b_27 b_28 b_29 g_36 hn_39 hn_52 f_50 f_51 c_53 c_54; omega) | omega))) (cwV 1 hts (gd_V hgd m1866 m1868 m97 m131 m1869) rfl rfl rfl hd_X12_lay ⟨Nat.le_of_ble_eq_true rfl, Nat.le_of_ble_eq_true rfl⟩) (pre_W hW hB_G_42 hK hZ hS kd_66 rfl) rfl rfl hl.1 rfl (lv_room (Nat.le_of_ble_eq_true rfl)) dX12_evens_83 ⟨Nat.le_of_ble_eq_true rfl, Nat.le_of_ble_eq_true rfl⟩) hS (fun G_60 H locs hpo hW hS => ?_)
          have hX_63 : Q_lay x_34 G_42 G_60 := hpo
          obtain ⟨hB_G_60, hq_61, hp_62, -⟩ := hpo
          have hF := hF.call9 hq_61 rfl rfl
          obtain ⟨y_64, ey_64⟩ : ∃ q, q = x_34 + 1 := ⟨_, rfl⟩
          have ty_64 : y_64.toInt = x_34.toInt + 1 := xI_add rfl rfl ey_64 ((by first | (clear hP9 hW9 b_2 b_4 f_11 c_12 g_14 b_20 g_36 hn_39 hn_52 f_50 f_51 c_54; omega) | omega)) ((by first | (clear hP9 hW9 b_2 b_4 f_11 c_12 g_14 b_20 g_36 hn_39 hn_52 f_50 f_51 c_54; omega) | omega))
          refine lv_iinc (v := y_64) (lv' := [(4, .int y_64), (6, .int x_46), (5, .int x_47), (0, .ref (a 66))]) hx hb dX12_evens_86 hl (k := 2) rfl (by rw [ey_64]; rfl) (lt_b rfl) rfl (fun ls hl => ?_)
          refine lv_goto (tgt := 30) hx hb dX12_evens_89 rfl ?_
          have b_65 : 0 ≤ (G_60.1 66 66).toInt ∧ (G_60.1 66 66).toInt ≤ 400 := bd_66_66 hB_G_60
          exact ih_32 (61 - y_64.toInt : Int).toNat ((by first | (clear hP9 hW9 b_2 b_4 f_11 c_12 g_14 b_20 g_36 f_50 f_51 c_54; omega) | omega)) _ _ _ ⟨G_60, y_64, (Int.toNat_of_nonneg ((by first | (clear hP9 hW9 b_2 b_4 f_11 c_12 g_14 b_20 g_36 hn_39 hn_52 f_50 f_51 c_54; omega) | omega))), ⟨(by first | (clear hP9 hW9 b_2 b_4 f_11 c_12 g_14 b_20 g_36 hn_39 hn_52 f_50 f_51 c_54; omega) | omega), (by first | (clear hP9 hW9 b_2 b_4 f_11 c_12 g_14 b_20 g_36 hn_39 hn_52 f_50 f_51 c_54; omega) | omega)⟩, ((by first | (clear hP9 hW9 b_2 b_4 f_11 c_12 g_14 b_20 g_36 hn_39 hn_52 f_50 f_51 c_54; omega) | omega)), (hX_35.st (St_n_evens_1_mk ⟨x_34, G_30, y_64, G_60, rfl, rfl, f_37, f_38, hB_G_30, ⟨c_41, ⟨x_46, x_47, G_42, hX_48, f_50, f_51, hB_G_42, hq_43, (Or.inl ⟨c_53, (Or.inr ⟨c_54, ⟨G_60, hX_63, ⟨y_64, ty_64, ⟨rfl, rfl⟩⟩⟩⟩)⟩)⟩⟩⟩)), hW, hB_G_60, hF, (Fr.call9 (rs := [100]) (fs := [(66, 66)]) (Fr.call9 (rs := [100]) (fs := [(66, 66)]) (Fr.call9 (rs := [100]) (fs := [(66, 66)]) Fr.rf hq_31 rfl rfl) hq_43 rfl rfl) hq_61 rfl rfl), hS, lv_sub hl [0, 3] rfl⟩
      · have c_53 : x_46.toInt < (G_16.1 66 62).toInt := xI_nle rfl rfl c_53
        refine lv_iload hx hb dX12_evens_54 (lv_at hl 1 rfl) ?_
        refine lv_if_ne (tgt := 75) hx hb dX12_evens_56 rfl (fun c_66 => ?_) (fun c_66 => ?_)
        · have c_66 : x_47.toInt ≠ 0 := xI_ne rfl rfl c_66
          refine lv_iload hx hb dX12_evens_75 (lv_at hl 1 rfl) ?_
          refine lv_if_eq (tgt := 86) hx hb dX12_evens_77 rfl (fun c_67 => ?_) (fun c_67 => ?_)
          · have c_67 : x_47.toInt = 0 := xI_eq rfl rfl c_67
            exfalso; first | (clear hP9 hW9 b_2 g_3 b_4 g_5 f_11 hp_9 c_12 g_14 d_1 d_2 d_3 d_4 d_5 d_6 b_20 u_22 u_23 u_24 u_25 b_26 b_27 b_28 b_29 g_36 hn_39 f_37 f_38 b_40 c_41 hn_52 f_50 c_53; omega) | omega
          · have c_67 : x_47.toInt ≠ 0 := xI_ne rfl rfl c_67
            refine lv_aload_n hx hb dX12_evens_80 rfl (lv_at hl 3 rfl) ?_
            refine lv_iload hx hb dX12_evens_81 (lv_at hl 2 rfl) ?_
            have g_68 : (G_42.1 66 66).toInt = (G_30.1 66 66).toInt := (congrArg Int32.toInt (show G_42.1 66 66 = (G_30.1 66 66) from ((hq_43.i9 66 66 rfl rfl).trans (rfl))))
            have g_69 : (G_42.1 66 66).toInt = (G_30.1 66 66).toInt := (congrArg Int32.toInt (show G_42.1 66 66 = (G_30.1 66 66) from ((hq_43.i9 66 66 rfl rfl).trans (rfl))))
            refine S_callv (va_runV (As := [.int x_34]) (rest := []) ⟨hx, hb, hml, hown, hts⟩ (n_lay l D k A a z G_42 x_34 ((by first | (clear hP9 hW9 b_2 g_3 b_4 g_5 f_11 hp_9 c_12 g_14 d_1 d_6 b_20 b_26 b_27 b_28 b_29 g_36 hn_39 hn_52 f_50 f_51 c_53 c_66 c_67; omega) | omega))) (cwV 1 hts (gd_V hgd m1866 m1868 m97 m131 m1869) rfl rfl rfl hd_X12_lay ⟨Nat.le_of_ble_eq_true rfl, Nat.le_of_ble_eq_true rfl⟩) (pre_W hW hB_G_42 hK hZ hS kd_66 rfl) rfl rfl hl.1 rfl (lv_room (Nat.le_of_ble_eq_true rfl)) dX12_evens_83 ⟨Nat.le_of_ble_eq_true rfl, Nat.le_of_ble_eq_true rfl⟩) hS (fun G_71 H locs hpo hW hS => ?_)
            have hX_74 : Q_lay x_34 G_42 G_71 := hpo
            obtain ⟨hB_G_71, hq_72, hp_73, -⟩ := hpo
            have hF := hF.call9 hq_72 rfl rfl
            obtain ⟨y_75, ey_75⟩ : ∃ q, q = x_34 + 1 := ⟨_, rfl⟩
            have ty_75 : y_75.toInt = x_34.toInt + 1 := xI_add rfl rfl ey_75 ((by first | (clear hP9 hW9 b_2 b_4 f_11 c_12 g_14 b_20 g_36 hn_39 hn_52 f_50 f_51 c_66 c_67; omega) | omega)) ((by first | (clear hP9 hW9 b_2 b_4 f_11 c_12 g_14 b_20 g_36 hn_39 hn_52 f_50 f_51 c_66 c_67; omega) | omega))
            refine lv_iinc (v := y_75) (lv' := [(4, .int y_75), (6, .int x_46), (5, .int x_47), (0, .ref (a 66))]) hx hb dX12_evens_86 hl (k := 2) rfl (by rw [ey_75]; rfl) (lt_b rfl) rfl (fun ls hl => ?_)
            refine lv_goto (tgt := 30) hx hb dX12_evens_89 rfl ?_
            have b_76 : 0 ≤ (G_71.1 66 66).toInt ∧ (G_71.1 66 66).toInt ≤ 400 := bd_66_66 hB_G_71
            exact ih_32 (61 - y_75.toInt : Int).toNat ((by first | (clear hP9 hW9 b_2 b_4 f_11 c_12 g_14 b_20 g_36 f_50 f_51 c_66 c_67; omega) | omega)) _ _ _ ⟨G_71, y_75, (Int.toNat_of_nonneg ((by first | (clear hP9 hW9 b_2 b_4 f_11 c_12 g_14 b_20 g_36 hn_39 hn_52 f_50 f_51 c_66 c_67; omega) | omega))), ⟨(by first | (clear hP9 hW9 b_2 b_4 f_11 c_12 g_14 b_20 g_36 hn_39 hn_52 f_50 f_51 c_66 c_67; omega) | omega), (by first | (clear hP9 hW9 b_2 b_4 f_11 c_12 g_14 b_20 g_36 hn_39 hn_52 f_50 f_51 c_66 c_67; omega) | omega)⟩, ((by first | (clear hP9 hW9 b_2 b_4 f_11 c_12 g_14 b_20 g_36 hn_39 hn_52 f_50 f_51 c_66 c_67; omega) | omega)), (hX_35.st (St_n_evens_1_mk ⟨x_34, G_30, y_75, G_71, rfl, rfl, f_37, f_38, hB_G_30, ⟨c_41, ⟨x_46, x_47, G_42, hX_48, f_50, f_51, hB_G_42, hq_43, (Or.inr ⟨c_53, ⟨c_66, ⟨G_71, hX_74, ⟨y_75, ty_75, ⟨rfl, rfl⟩⟩⟩⟩⟩)⟩⟩⟩)), hW, hB_G_71, hF, (Fr.call9 (rs := [100]) (fs := [(66, 66)]) (Fr.call9 (rs := [100]) (fs := [(66, 66)]) (Fr.call9 (rs := [100]) (fs := [(66, 66)]) Fr.rf hq_31 rfl rfl) hq_43 rfl rfl) hq_72 rfl rfl), hS, lv_sub hl [0, 3] rfl⟩
        · have c_66 : x_47.toInt = 0 := xI_eq rfl rfl c_66
          refine lv_aload_n hx hb dX12_evens_59 rfl (lv_at hl 3 rfl) ?_
          refine lv_iload hx hb dX12_evens_60 (lv_at hl 0 rfl) ?_
          refine lv_iload hx hb dX12_evens_62 (lv_at hl 2 rfl) ?_
          refine S_calli (va_runV (As := [.int x_46, .int x_34]) (rest := []) ⟨hx, hb, hml, hown, hts⟩ (n_comesToEnd l D k A a z G_42 x_46 x_34 ⟨(by first | (clear hP9 hW9 b_2 b_4 f_11 c_12 g_14 b_20 g_36 hn_39 f_37 f_38 b_40 hn_52 f_51 c_66; omega) | omega), (by first | (clear hP9 hW9 b_2 b_4 f_11 c_12 g_14 b_20 g_36 hn_39 f_37 f_38 b_40 hn_52 f_51 c_66; omega) | omega)⟩ ⟨(by first | (clear hP9 hW9 b_2 b_4 f_11 c_12 g_14 b_20 g_36 hn_39 hn_52 f_50 f_51 c_66; omega) | omega), (by first | (clear hP9 hW9 b_2 b_4 f_11 c_12 g_14 b_20 g_36 hn_39 hn_52 f_50 f_51 c_66; omega) | omega)⟩) (cwV 2 hts (gd_V hgd m1899 m1901 m100 m131 m1902) rfl rfl rfl hd_X12_comesToEnd ⟨Nat.le_of_ble_eq_true rfl, Nat.le_of_ble_eq_true rfl⟩) (pre_W hW hB_G_42 hK hZ hS kd_66 rfl) rfl rfl hl.1 rfl (lv_room (Nat.le_of_ble_eq_true rfl)) dX12_evens_64 ⟨Nat.le_of_ble_eq_true rfl, Nat.le_of_ble_eq_true rfl⟩) hS (fun r_77 G_78 H locs hpo hW hS => ?_)
          have hX_81 : Q_comesToEnd x_46 x_34 G_42 r_77 G_78 := hpo
          obtain ⟨hB_G_78, hq_79, f_82, -⟩ := hpo
          have hF := hF.call9 hq_79 rfl rfl
          refine lv_istore (lv' := [(5, .int r_77), (6, .int x_46), (4, .int x_34), (0, .ref (a 66))]) hx hb dX12_evens_67 hl (lt_b rfl) rfl (fun ls hl => ?_)
          obtain ⟨y_83, ey_83⟩ : ∃ q, q = x_46 + 1 := ⟨_, rfl⟩
          have ty_83 : y_83.toInt = x_46.toInt + 1 := xI_add rfl rfl ey_83 ((by first | (clear hP9 hW9 b_2 b_4 f_11 c_12 g_14 b_20 g_36 hn_39 f_37 f_38 b_40 hn_52 f_51 c_66 f_82; omega) | omega)) ((by first | (clear hP9 hW9 b_2 b_4 f_11 c_12 g_14 b_20 g_36 hn_39 f_37 f_38 b_40 hn_52 f_51 c_66 f_82; omega) | omega))
          refine lv_iinc (v := y_83) (lv' := [(6, .int y_83), (5, .int r_77), (4, .int x_34), (0, .ref (a 66))]) hx hb dX12_evens_69 hl (k := 1) rfl (by rw [ey_83]; rfl) (lt_b rfl) rfl (fun ls hl => ?_)
          refine lv_goto (tgt := 45) hx hb dX12_evens_72 rfl ?_
          exact ih_44 (60 - y_83.toInt : Int).toNat ((by first | (clear hP9 hW9 b_2 b_4 f_11 c_12 g_14 b_20 g_36 f_37 f_38 b_40 f_51 c_66 f_82; omega) | omega)) _ _ _ ⟨G_78, y_83, r_77, (Int.toNat_of_nonneg ((by first | (clear hP9 hW9 b_2 b_4 f_11 c_12 g_14 b_20 g_36 hn_39 f_37 f_38 b_40 hn_52 f_51 c_66 f_82; omega) | omega))), ⟨(by first | (clear hP9 hW9 b_2 b_4 f_11 c_12 g_14 b_20 g_36 hn_39 f_37 f_38 b_40 hn_52 f_51 c_66 f_82; omega) | omega), (by first | (clear hP9 hW9 b_2 b_4 f_11 c_12 g_14 b_20 g_36 hn_39 f_37 f_38 b_40 hn_52 f_51 c_66 f_82; omega) | omega)⟩, ⟨(by first | (clear hP9 hW9 b_2 g_3 b_4 g_5 f_11 hp_9 c_12 g_14 d_1 d_2 d_3 d_4 d_5 d_6 b_20 u_22 u_23 u_24 u_25 b_26 b_27 b_28 b_29 g_36 hn_39 f_37 f_38 b_40 c_41 hn_52 f_50 f_51 c_53 c_66 ty_83; omega) | omega), (by first | (clear hP9 hW9 b_2 g_3 b_4 g_5 f_11 hp_9 c_12 g_14 d_1 d_2 d_3 d_4 d_5 d_6 b_20 u_22 u_23 u_24 u_25 b_26 b_27 b_28 b_29 g_36 hn_39 f_37 f_38 b_40 c_41 hn_52 f_50 f_51 c_53 c_66 ty_83; omega) | omega)⟩, (hX_48.st (St_n_evens_2_mk ⟨x_46, x_47, G_42, y_83, r_77, G_78, rfl, rfl, f_50, f_51, hB_G_42, ⟨c_53, ⟨c_66, ⟨r_77, G_78, hX_81, ⟨y_83, ty_83, ⟨rfl, rfl, rfl⟩⟩⟩⟩⟩⟩)), hW, hB_G_78, hF, (Fr.call9 (rs := []) (fs := []) (Fr.call9 (rs := []) (fs := []) Fr.rf hq_43 rfl rfl) hq_79 rfl rfl), hS, lv_sub hl [0, 1, 2, 3] rfl⟩
  · have c_12 : r_6.toInt = 0 := xI_eq rfl rfl c_12
    refine ic_m1 hx hb dX12_evens_15 ?_
    exact W.iret (v := (-1)) hx hb hr (fun t ht _ => ⟨⟨(-1), G_7, rfl, (Q_evens_mk ⟨hB_G_7, hF, ⟨G_1, hB_G_1, (Fr.put (rs := []) (fs := [(66, 66)]) Fr.rf eG_1 (Or.inr (by decide))), (gp_eq eG_1), ⟨r_6, G_7, hX_10, (Or.inl ⟨c_12, ⟨rfl, rfl⟩⟩)⟩⟩⟩), wd_t ht hW⟩, hS.F ht⟩) hS.2.2 dX12_evens_16

set_option maxHeartbeats 4000000 in
set_option maxRecDepth 100000 in
theorem n_evenest (l : Launch) (D : va_G) (k : KT) (A : Nat → Prop) (a : Nat → Nat) (z : SK) (G : GS) (p0 : Int32) (p1 : Int32) (p2 : Int32) (p3 : Int32) (hP9 : gP G = 1) (hW9 : gW G = 1) : Met l yX12_evenest (WS yX12_evenest cX12_evenest 7 (some .int)) ({ frames := 5, cells := 0, slots := 0, locals := 117 }) (va_Pc [.ref (a 66), .int p0, .int p1, .int p2, .int p3] (cW D k A a z G)) (va_Qi (fun (r : Int32) (G1 : GS) => Q_evenest p0 p1 p2 p3 G r G1) (fun (G1 : GS) t => Wd D k A a G1 t.heap) A) 0 0 A := by
  refine Met.ofW (cc := cX12_evenest) (maxL := 7) (ret := (some .int)) (by decide) rfl ?_
  intro p e s m args below meth c s₁ B hml hv
  obtain ⟨rfl, hW, hB_G, hK, hZ⟩ := hv
  have hx := B.exec
  have hb := B.bytes
  have hr := B.returns
  have hts := atoms_spec (ws := WS yX12_evenest cX12_evenest 7 (some .int)) B.pre
  have hgd : ∀ w ∈ gd, w ∈ WS yX12_evenest cX12_evenest 7 (some .int) := fun w h => List.mem_cons_of_mem _ h
  have hg : ∀ w ∈ gd, w.before _ s = true := fun w h => hts w (hgd w h)
  have hown : s.vm.findClass RX12 = some m.cls := findClass_of_methodNamed B.named
  have hS : va_S A s.heap s.heap [] := va_S.rf
  have hF : Fr [103, 76, 97, 98] [(66, 59), (66, 60), (66, 61), (66, 62), (66, 63)] G G := Fr.rf
  have hl := lv_entry ([.ref (a 66), .int p0, .int p1, .int p2, .int p3]) (n := 7) (Nat.le_of_ble_eq_true rfl)
  rw [lg_entry_eq]
  generalize (lg_sl ([.ref (a 66), .int p0, .int p1, .int p2, .int p3]) ++ List.replicate (7 - (lg_sl ([.ref (a 66), .int p0, .int p1, .int p2, .int p3])).length) Slot.unset).toArray = ls at hl ⊢
  have hl : lv_has ls 7 [(0, .ref (a 66)), (1, .int p0), (2, .int p1), (3, .int p2), (4, .int p3)] := hl
  refine lv_aload_n hx hb dX12_evenest_0 rfl (lv_at hl 0 rfl) ?_
  refine lv_iload_n hx hb dX12_evenest_1 rfl (lv_at hl 1 rfl) ?_
  refine lv_iload_n hx hb dX12_evenest_2 rfl (lv_at hl 2 rfl) ?_
  refine lv_iload_n hx hb dX12_evenest_3 rfl (lv_at hl 3 rfl) ?_
  refine S_calli (va_runV (As := [.int p0, .int p1, .int p2]) (rest := []) ⟨hx, hb, hml, hown, hts⟩ (n_isAsked l D k A a z G p0 p1 p2 ) (cwV 3 hts (gd_V hgd m1826 m1828 m89 m131 m1829) rfl rfl rfl hd_X12_isAsked ⟨Nat.le_of_ble_eq_true rfl, Nat.le_of_ble_eq_true rfl⟩) (pre_W hW hB_G hK hZ hS kd_66 rfl) rfl rfl hl.1 rfl (lv_room (Nat.le_of_ble_eq_true rfl)) dX12_evenest_4 ⟨Nat.le_of_ble_eq_true rfl, Nat.le_of_ble_eq_true rfl⟩) hS (fun r_1 G_2 H locs hpo hW hS => ?_)
  have hX_5 : Q_isAsked p0 p1 p2 G r_1 G_2 := hpo
  obtain ⟨hB_G_2, hq_3, f_6, hp_4, -⟩ := hpo
  have hF := hF.call9 hq_3 rfl rfl
  refine lv_if_eq (tgt := 20) hx hb dX12_evenest_7 rfl (fun c_7 => ?_) (fun c_7 => ?_)
  · have c_7 : r_1.toInt = 0 := xI_eq rfl rfl c_7
    refine ic_m1 hx hb dX12_evenest_20 ?_
    exact W.iret (v := (-1)) hx hb hr (fun t ht _ => ⟨⟨(-1), G_2, rfl, (Q_evenest_mk ⟨hB_G_2, hF, ⟨r_1, G_2, hX_5, (Or.inl ⟨c_7, ⟨rfl, rfl⟩⟩)⟩⟩), wd_t ht hW⟩, hS.F ht⟩) hS.2.2 dX12_evenest_21
  · have c_7 : r_1.toInt ≠ 0 := xI_ne rfl rfl c_7
    refine lv_iload hx hb dX12_evenest_10 (lv_at hl 4 rfl) ?_
    refine ic_0 hx hb dX12_evenest_12 ?_
    refine ic_1 hx hb dX12_evenest_13 ?_
    have qc_8 : (0 : Int32).toInt = 0 := rfl
    have qc_9 : (1 : Int32).toInt = 1 := rfl
    refine S_calli (va_runS (As := [.int p3, .int 0, .int 1]) (rest := []) ⟨hx, hb, hml, hown, hts⟩ (n_isIn l D k A a z G_2 p3 0 1 ) (va_cwS 3 hts (gd_S hgd m1781 m1782 m131 m1783) rfl rfl rfl hd_X12_isIn.2 ⟨Nat.le_of_ble_eq_true rfl, Nat.le_of_ble_eq_true rfl⟩) (pre_S hW hB_G_2 hK hZ hS) rfl rfl hl.1 rfl (lv_room (Nat.le_of_ble_eq_true rfl)) dX12_evenest_14 ⟨Nat.le_of_ble_eq_true rfl, Nat.le_of_ble_eq_true rfl⟩) hS (fun r_10 G_11 H locs hpo hW hS => ?_)
    have hX_14 : Q_isIn p3 0 1 G_2 r_10 G_11 := hpo
    obtain ⟨hB_G_11, hq_12, f_15, ⟨d_1, d_2⟩, -⟩ := hpo
    have hF := hF.call9 hq_12 rfl rfl
    refine lv_if_ne (tgt := 22) hx hb dX12_evenest_17 rfl (fun c_16 => ?_) (fun c_16 => ?_)
    · have c_16 : r_10.toInt ≠ 0 := xI_ne rfl rfl c_16
      refine lv_aload_n hx hb dX12_evenest_22 rfl (lv_at hl 0 rfl) ?_
      refine lv_iload_n hx hb dX12_evenest_23 rfl (lv_at hl 1 rfl) ?_
      refine lv_iload_n hx hb dX12_evenest_24 rfl (lv_at hl 2 rfl) ?_
      refine lv_iload_n hx hb dX12_evenest_25 rfl (lv_at hl 3 rfl) ?_
      have fr_17 : Fr [] [] G G_11 := (Fr.call9 (rs := []) (fs := []) (Fr.call9 (rs := []) (fs := []) Fr.rf hq_3 rfl rfl) hq_12 rfl rfl)
      have g_18 : gP G_11 = gP G := gP_fr fr_17 (gr_q rfl) (gf_q rfl)
      refine S_callv (va_runV (As := [.int p0, .int p1, .int p2]) (rest := []) ⟨hx, hb, hml, hown, hts⟩ (n_layStreet l D k A a z G_11 p0 p1 p2 ⟨(by first | (clear hP9 hW9 f_15 d_1 d_2 c_16 g_18; omega) | omega), (by first | (clear hP9 hW9 f_15 d_1 d_2 c_16 g_18; omega) | omega)⟩ ⟨(by first | (clear hP9 hW9 f_15 d_1 d_2 c_16 g_18; omega) | omega), (by first | (clear hP9 hW9 f_15 d_1 d_2 c_16 g_18; omega) | omega)⟩ ((by first | (clear hW9 f_6 hp_4 c_7 f_15 d_1 d_2 c_16; omega) | omega))) (cwV 3 hts (gd_V hgd m1834 m1836 m91 m131 m1837) rfl rfl rfl hd_X12_layStreet ⟨Nat.le_of_ble_eq_true rfl, Nat.le_of_ble_eq_true rfl⟩) (pre_W hW hB_G_11 hK hZ hS kd_66 rfl) rfl rfl hl.1 rfl (lv_room (Nat.le_of_ble_eq_true rfl)) dX12_evenest_26 ⟨Nat.le_of_ble_eq_true rfl, Nat.le_of_ble_eq_true rfl⟩) hS (fun G_20 H locs hpo hW hS => ?_)
      have hX_23 : Q_layStreet p0 p1 p2 G_11 G_20 := hpo
      obtain ⟨hB_G_20, hq_21, ⟨d_3, d_4, d_5, d_6, d_7, d_8⟩, -⟩ := hpo
      have hF := hF.call9 hq_21 rfl rfl
      have b_24 : 0 ≤ (G.1 66 53).toInt ∧ (G.1 66 53).toInt ≤ 4 := hB_G.i 66 53 rfl rfl
      have u_25 := gW_at hW9 p0 (by first | (clear hP9 hW9 f_15 d_1 d_2 c_16 g_18; omega) | omega) (by first | (clear hP9 hW9 f_15 d_1 d_2 c_16 g_18; omega) | omega)
      have u_26 : (G_11.1 92 p0.toNatClampNeg).toInt = (G.1 92 p0.toNatClampNeg).toInt := congrArg Int32.toInt (((hq_12.ri9 92 rfl p0.toNatClampNeg).trans (hq_3.ri9 92 rfl p0.toNatClampNeg)))
      have u_27 : (G_11.1 93 p0.toNatClampNeg).toInt = (G.1 93 p0.toNatClampNeg).toInt := congrArg Int32.toInt (((hq_12.ri9 93 rfl p0.toNatClampNeg).trans (hq_3.ri9 93 rfl p0.toNatClampNeg)))
      have u_28 : (G_11.1 94 p0.toNatClampNeg).toInt = (G.1 94 p0.toNatClampNeg).toInt := congrArg Int32.toInt (((hq_12.ri9 94 rfl p0.toNatClampNeg).trans (hq_3.ri9 94 rfl p0.toNatClampNeg)))
      have u_29 : (G_11.1 95 p0.toNatClampNeg).toInt = (G.1 95 p0.toNatClampNeg).toInt := congrArg Int32.toInt (((hq_12.ri9 95 rfl p0.toNatClampNeg).trans (hq_3.ri9 95 rfl p0.toNatClampNeg)))
      have b_30 : 0 ≤ (G_20.1 66 60).toInt ∧ (G_20.1 66 60).toInt ≤ 12 := bd_66_60 hB_G_20
      have b_31 : 0 ≤ (G_20.1 66 61).toInt ∧ (G_20.1 66 61).toInt ≤ 60 := bd_66_61 hB_G_20
      have b_32 : 0 ≤ (G_20.1 66 62).toInt ∧ (G_20.1 66 62).toInt ≤ 60 := bd_66_62 hB_G_20
      have b_33 : 0 ≤ (G_20.1 66 63).toInt ∧ (G_20.1 66 63).toInt ≤ 99 := bd_66_63 hB_G_20
      refine ic_0 hx hb dX12_evenest_29 ?_
      refine lv_istore (lv' := [(5, .int 0), (0, .ref (a 66)), (1, .int p0), (2, .int p1), (3, .int p2), (4, .int p3)]) hx hb dX12_evenest_30 hl (lt_b rfl) rfl (fun ls hl => ?_)
      have qc_40 : (0 : Int32).toInt = 0 := rfl
      refine loop_N (Inv := fun n H locs ls => ∃ (G_34 : GS) (x_38 : Int32), (n : Int) = 60 - x_38.toInt ∧ (0 ≤ x_38.toInt ∧ x_38.toInt ≤ 60) ∧ Rc (St_n_evenest_1 G_20) (0, G_20) (x_38, G_34) ∧ Wd D k A a G_34 H ∧ Bd G_34 ∧ Fr [103, 76, 97, 98] [(66, 59), (66, 60), (66, 61), (66, 62), (66, 63)] G G_34 ∧ Fr [103] [] G_20 G_34 ∧ va_S A s.heap H locs ∧ lv_has ls 7 [(5, .int x_38), (0, .ref (a 66)), (4, .int p3)]) (fun n_37 H locs ls ih_36 hI => ?_) (60 - 0 : Int).toNat ⟨G_20, 0, (Int.toNat_of_nonneg ((by first | (clear hP9 hW9 f_6 hp_4 c_7 f_15 d_1 d_2 c_16 g_18 d_3 d_4 d_5 d_6 d_7 d_8 b_24 u_26 u_27 u_28 u_29 b_30 b_31 b_32 b_33; omega) | omega))), ⟨(by first | (clear hP9 hW9 f_6 hp_4 c_7 f_15 d_1 d_2 c_16 g_18 d_3 d_4 d_5 d_6 d_7 d_8 b_24 u_26 u_27 u_28 u_29 b_30 b_31 b_32 b_33; omega) | omega), (by first | (clear hP9 hW9 f_6 hp_4 c_7 f_15 d_1 d_2 c_16 g_18 d_3 d_4 d_5 d_6 d_7 d_8 b_24 u_26 u_27 u_28 u_29 b_30 b_31 b_32 b_33; omega) | omega)⟩, Rc.rf, hW, hB_G_20, hF, Fr.rf, hS, lv_sub hl [0, 1, 5] rfl⟩
      obtain ⟨G_34, x_38, hn_42, f_41, hX_39, hW, hB_G_34, hF, hq_35, hS, hl⟩ := hI
      refine lv_iload hx hb dX12_evenest_32 (lv_at hl 0 rfl) ?_
      refine lv_aload_n hx hb dX12_evenest_34 rfl (lv_at hl 1 rfl) ?_
      refine S_getI (v := (G_20.1 66 62)) (C := RX12) (T := TX12) (N := 89) hx hb hg iX12 hown hK hW kd_66 rfl 62 (lt_b rfl) (hg (Cond.fieldLink RX12 478 "SlabWalkModel" "most" "I") m1376) (fun _ h9 => h9) rfl ((hq_35.i9 66 62 rfl rfl).trans (rfl)) dX12_evenest_35 ?_
      refine lv_aload_n hx hb dX12_evenest_38 rfl (lv_at hl 1 rfl) ?_
      refine S_getI (v := (G_20.1 66 61)) (C := RX12) (T := TX12) (N := 89) hx hb hg iX12 hown hK hW kd_66 rfl 61 (lt_b rfl) (hg (Cond.fieldLink RX12 475 "SlabWalkModel" "least" "I") m1375) (fun _ h9 => h9) rfl ((hq_35.i9 66 61 rfl rfl).trans (rfl)) dX12_evenest_39 ?_
      refine lv_isub hx hb dX12_evenest_42 ?_
      refine lv_topi (fun y_43 ey_43 => ?_)
      have ty_43 : y_43.toInt = (G_20.1 66 62).toInt - (G_20.1 66 61).toInt := xI_sub rfl rfl ey_43 ((by first | (clear hP9 hW9 f_15 d_1 d_2 c_16 g_18 hn_42 f_41; omega) | omega)) ((by first | (clear hP9 hW9 f_15 d_1 d_2 c_16 g_18 hn_42 f_41; omega) | omega))
      refine lv_icmp_gt (tgt := 103) hx hb dX12_evenest_43 rfl (fun c_44 => ?_) (fun c_44 => ?_)
      · have c_44 : y_43.toInt < x_38.toInt := xI_lt rfl rfl c_44
        refine ic_m1 hx hb dX12_evenest_103 ?_
        exact W.iret (v := (-1)) hx hb hr (fun t ht _ => ⟨⟨(-1), G_34, rfl, (Q_evenest_mk ⟨hB_G_34, hF, ⟨r_1, G_2, hX_5, (Or.inr ⟨c_7, ⟨r_10, G_11, hX_14, (Or.inr ⟨c_16, ⟨G_20, hX_23, ⟨x_38, G_34, hX_39, f_41, hB_G_34, hq_35, ⟨y_43, ty_43, (Or.inl ⟨c_44, ⟨rfl, rfl⟩⟩)⟩⟩⟩⟩)⟩⟩)⟩⟩), wd_t ht hW⟩, hS.F ht⟩) hS.2.2 dX12_evenest_104
      · have c_44 : x_38.toInt ≤ y_43.toInt := xI_nlt rfl rfl c_44
        refine lv_aload_n hx hb dX12_evenest_46 rfl (lv_at hl 1 rfl) ?_
        refine S_getI (v := (G_20.1 66 61)) (C := RX12) (T := TX12) (N := 89) hx hb hg iX12 hown hK hW kd_66 rfl 61 (lt_b rfl) (hg (Cond.fieldLink RX12 475 "SlabWalkModel" "least" "I") m1375) (fun _ h9 => h9) rfl ((hq_35.i9 66 61 rfl rfl).trans (rfl)) dX12_evenest_47 ?_
        refine lv_istore (lv' := [(6, .int (G_20.1 66 61)), (5, .int x_38), (0, .ref (a 66)), (4, .int p3)]) hx hb dX12_evenest_50 hl (lt_b rfl) rfl (fun ls hl => ?_)
        refine loop_N (Inv := fun n H locs ls => ∃ (G_45 : GS) (x_49 : Int32), (n : Int) = 61 - x_49.toInt ∧ (0 ≤ x_49.toInt ∧ x_49.toInt ≤ 61) ∧ Rc (St_n_evenest_2 x_38 G_20) ((G_20.1 66 61), G_34) (x_49, G_45) ∧ Wd D k A a G_45 H ∧ Bd G_45 ∧ Fr [103, 76, 97, 98] [(66, 59), (66, 60), (66, 61), (66, 62), (66, 63)] G G_45 ∧ Fr [103] [] G_34 G_45 ∧ va_S A s.heap H locs ∧ lv_has ls 7 [(6, .int x_49), (5, .int x_38), (0, .ref (a 66)), (4, .int p3)]) (fun n_48 H locs ls ih_47 hI => ?_) (61 - (G_20.1 66 61).toInt : Int).toNat ⟨G_34, (G_20.1 66 61), (Int.toNat_of_nonneg ((by first | (clear hP9 hW9 f_15 d_1 d_2 c_16 g_18 hn_42; omega) | omega))), ⟨(by first | (clear hP9 hW9 f_15 d_1 d_2 c_16 g_18 hn_42; omega) | omega), (by first | (clear hP9 hW9 f_15 d_1 d_2 c_16 g_18 hn_42; omega) | omega)⟩, Rc.rf, hW, hB_G_34, hF, Fr.rf, hS, lv_sub hl [0, 1, 2, 3] rfl⟩
        obtain ⟨G_45, x_49, hn_52, f_51, hX_50, hW, hB_G_45, hF, hq_46, hS, hl⟩ := hI
        refine lv_iload hx hb dX12_evenest_52 (lv_at hl 0 rfl) ?_
        refine lv_iload hx hb dX12_evenest_54 (lv_at hl 1 rfl) ?_
        refine lv_iadd hx hb dX12_evenest_56 ?_
        refine lv_topi (fun y_53 ey_53 => ?_)
        have ty_53 : y_53.toInt = x_49.toInt + x_38.toInt := xI_add rfl rfl ey_53 ((by first | (clear hP9 hW9 f_6 c_7 f_15 d_1 d_2 c_16 g_18 b_24 hn_42 hn_52; omega) | omega)) ((by first | (clear hP9 hW9 f_6 c_7 f_15 d_1 d_2 c_16 g_18 b_24 hn_42 hn_52; omega) | omega))
        refine lv_aload_n hx hb dX12_evenest_57 rfl (lv_at hl 2 rfl) ?_
        refine S_getI (v := (G_20.1 66 62)) (C := RX12) (T := TX12) (N := 89) hx hb hg iX12 hown hK hW kd_66 rfl 62 (lt_b rfl) (hg (Cond.fieldLink RX12 478 "SlabWalkModel" "most" "I") m1376) (fun _ h9 => h9) rfl ((hq_46.i9 66 62 rfl rfl).trans ((hq_35.i9 66 62 rfl rfl).trans (rfl))) dX12_evenest_58 ?_
        refine lv_icmp_gt (tgt := 97) hx hb dX12_evenest_61 rfl (fun c_54 => ?_) (fun c_54 => ?_)
        · have c_54 : (G_20.1 66 62).toInt < y_53.toInt := xI_lt rfl rfl c_54
          obtain ⟨y_55, ey_55⟩ : ∃ q, q = x_38 + 1 := ⟨_, rfl⟩
          have ty_55 : y_55.toInt = x_38.toInt + 1 := xI_add rfl rfl ey_55 ((by first | (clear hP9 hW9 f_6 c_7 f_15 d_1 d_2 c_16 g_18 b_24 hn_42 hn_52; omega) | omega)) ((by first | (clear hP9 hW9 f_6 c_7 f_15 d_1 d_2 c_16 g_18 b_24 hn_42 hn_52; omega) | omega))
          refine lv_iinc (v := y_55) (lv' := [(5, .int y_55), (6, .int x_49), (0, .ref (a 66)), (4, .int p3)]) hx hb dX12_evenest_97 hl (k := 1) rfl (by rw [ey_55]; rfl) (lt_b rfl) rfl (fun ls hl => ?_)
          refine lv_goto (tgt := 32) hx hb dX12_evenest_100 rfl ?_
          exact ih_36 (60 - y_55.toInt : Int).toNat ((by first | (clear hP9 hW9 f_6 c_7 f_15 d_1 d_2 c_16 g_18 b_24; omega) | omega)) _ _ _ ⟨G_45, y_55, (Int.toNat_of_nonneg ((by first | (clear hP9 hW9 f_6 c_7 f_15 d_1 d_2 c_16 g_18 b_24 hn_42 hn_52; omega) | omega))), ⟨(by first | (clear hP9 hW9 f_6 c_7 f_15 d_1 d_2 c_16 g_18 b_24 hn_42 hn_52; omega) | omega), (by first | (clear hP9 hW9 f_6 c_7 f_15 d_1 d_2 c_16 g_18 b_24 hn_42 hn_52; omega) | omega)⟩, (hX_39.st (St_n_evenest_1_mk ⟨x_38, G_34, y_55, G_45, rfl, rfl, f_41, hB_G_34, ⟨y_43, ty_43, ⟨c_44, ⟨x_49, G_45, hX_50, f_51, hB_G_45, hq_46, ⟨y_53, ty_53, ⟨c_54, ⟨y_55, ty_55, ⟨rfl, rfl⟩⟩⟩⟩⟩⟩⟩⟩)), hW, hB_G_45, hF, (Fr.call9 (rs := [103]) (fs := []) (Fr.call9 (rs := [103]) (fs := []) Fr.rf hq_35 rfl rfl) hq_46 rfl rfl), hS, lv_sub hl [0, 2, 3] rfl⟩
        · have c_54 : y_53.toInt ≤ (G_20.1 66 62).toInt := xI_nlt rfl rfl c_54
          refine lv_aload_n hx hb dX12_evenest_64 rfl (lv_at hl 2 rfl) ?_
          refine lv_iload hx hb dX12_evenest_65 (lv_at hl 0 rfl) ?_
          refine lv_iload hx hb dX12_evenest_67 (lv_at hl 0 rfl) ?_
          refine lv_iload hx hb dX12_evenest_69 (lv_at hl 1 rfl) ?_
          refine lv_iadd hx hb dX12_evenest_71 ?_
          refine lv_topi (fun y_56 ey_56 => ?_)
          have ty_56 : y_56.toInt = x_49.toInt + x_38.toInt := xI_add rfl rfl ey_56 ((by first | (clear hP9 hW9 f_6 c_7 f_15 d_1 d_2 c_16 g_18 b_24 hn_42 hn_52; omega) | omega)) ((by first | (clear hP9 hW9 f_6 c_7 f_15 d_1 d_2 c_16 g_18 b_24 hn_42 hn_52; omega) | omega))
          refine S_calli (va_runV (As := [.int x_49, .int y_56]) (rest := []) ⟨hx, hb, hml, hown, hts⟩ (n_isEven l D k A a z G_45 x_49 y_56 ⟨(by first | (clear hP9 hW9 f_6 c_7 f_15 d_1 d_2 c_16 g_18 b_24 hn_42 hn_52; omega) | omega), (by first | (clear hP9 hW9 f_6 c_7 f_15 d_1 d_2 c_16 g_18 b_24 hn_42 hn_52; omega) | omega)⟩ ⟨(by first | (clear hP9 hW9 f_6 c_7 f_15 d_1 d_2 c_16 g_18 b_24 hn_42 hn_52; omega) | omega), (by first | (clear hP9 hW9 f_6 c_7 f_15 d_1 d_2 c_16 g_18 b_24 hn_42 hn_52; omega) | omega)⟩) (cwV 2 hts (gd_V hgd m1887 m1889 m99 m131 m1890) rfl rfl rfl hd_X12_isEven ⟨Nat.le_of_ble_eq_true rfl, Nat.le_of_ble_eq_true rfl⟩) (pre_W hW hB_G_45 hK hZ hS kd_66 rfl) rfl rfl hl.1 rfl (lv_room (Nat.le_of_ble_eq_true rfl)) dX12_evenest_72 ⟨Nat.le_of_ble_eq_true rfl, Nat.le_of_ble_eq_true rfl⟩) hS (fun r_57 G_58 H locs hpo hW hS => ?_)
          have hX_61 : Q_isEven x_49 y_56 G_45 r_57 G_58 := hpo
          obtain ⟨hB_G_58, hq_59, f_62, -⟩ := hpo
          have hF := hF.call9 hq_59 rfl rfl
          refine lv_if_eq (tgt := 91) hx hb dX12_evenest_75 rfl (fun c_63 => ?_) (fun c_63 => ?_)
          · have c_63 : r_57.toInt = 0 := xI_eq rfl rfl c_63
            obtain ⟨y_64, ey_64⟩ : ∃ q, q = x_49 + 1 := ⟨_, rfl⟩
            have ty_64 : y_64.toInt = x_49.toInt + 1 := xI_add rfl rfl ey_64 ((by first | (clear hP9 hW9 f_6 c_7 f_15 d_1 d_2 c_16 g_18 b_24 hn_42 hn_52 f_62 c_63; omega) | omega)) ((by first | (clear hP9 hW9 f_6 c_7 f_15 d_1 d_2 c_16 g_18 b_24 hn_42 hn_52 f_62 c_63; omega) | omega))
            refine lv_iinc (v := y_64) (lv' := [(6, .int y_64), (5, .int x_38), (0, .ref (a 66)), (4, .int p3)]) hx hb dX12_evenest_91 hl (k := 0) rfl (by rw [ey_64]; rfl) (lt_b rfl) rfl (fun ls hl => ?_)
            refine lv_goto (tgt := 52) hx hb dX12_evenest_94 rfl ?_
            exact ih_47 (61 - y_64.toInt : Int).toNat ((by first | (clear hP9 hW9 f_6 c_7 f_15 d_1 d_2 c_16 g_18 b_24 f_62 c_63; omega) | omega)) _ _ _ ⟨G_58, y_64, (Int.toNat_of_nonneg ((by first | (clear hP9 hW9 f_6 c_7 f_15 d_1 d_2 c_16 g_18 b_24 hn_42 hn_52 f_62 c_63; omega) | omega))), ⟨(by first | (clear hP9 hW9 f_6 c_7 f_15 d_1 d_2 c_16 g_18 b_24 hn_42 hn_52 f_62 c_63; omega) | omega), (by first | (clear hP9 hW9 f_6 c_7 f_15 d_1 d_2 c_16 g_18 b_24 hn_42 hn_52 f_62 c_63; omega) | omega)⟩, (hX_50.st (St_n_evenest_2_mk ⟨x_49, G_45, y_64, G_58, rfl, rfl, f_51, hB_G_45, ⟨y_53, ty_53, ⟨c_54, ⟨y_56, ty_56, ⟨r_57, G_58, hX_61, ⟨c_63, ⟨y_64, ty_64, ⟨rfl, rfl⟩⟩⟩⟩⟩⟩⟩⟩)), hW, hB_G_58, hF, (Fr.call9 (rs := [103]) (fs := []) (Fr.call9 (rs := [103]) (fs := []) Fr.rf hq_46 rfl rfl) hq_59 rfl rfl), hS, lv_sub hl [0, 1, 2, 3] rfl⟩
          · have c_63 : r_57.toInt ≠ 0 := xI_ne rfl rfl c_63
            refine lv_iload hx hb dX12_evenest_78 (lv_at hl 3 rfl) ?_
            refine lv_if_ne (tgt := 88) hx hb dX12_evenest_80 rfl (fun c_65 => ?_) (fun c_65 => ?_)
            · have c_65 : p3.toInt ≠ 0 := xI_ne rfl rfl c_65
              refine lv_iload hx hb dX12_evenest_88 (lv_at hl 0 rfl) ?_
              exact W.iret (v := x_49) hx hb hr (fun t ht _ => ⟨⟨x_49, G_58, rfl, (Q_evenest_mk ⟨hB_G_58, hF, ⟨r_1, G_2, hX_5, (Or.inr ⟨c_7, ⟨r_10, G_11, hX_14, (Or.inr ⟨c_16, ⟨G_20, hX_23, ⟨x_38, G_34, hX_39, f_41, hB_G_34, hq_35, ⟨y_43, ty_43, (Or.inr ⟨c_44, ⟨x_49, G_45, hX_50, f_51, hB_G_45, hq_46, ⟨y_53, ty_53, ⟨c_54, ⟨y_56, ty_56, ⟨r_57, G_58, hX_61, ⟨c_63, (Or.inr ⟨c_65, ⟨rfl, rfl⟩⟩)⟩⟩⟩⟩⟩⟩⟩)⟩⟩⟩⟩)⟩⟩)⟩⟩), wd_t ht hW⟩, hS.F ht⟩) hS.2.2 dX12_evenest_90
            · have c_65 : p3.toInt = 0 := xI_eq rfl rfl c_65
              refine lv_iload hx hb dX12_evenest_83 (lv_at hl 1 rfl) ?_
              refine lv_goto (tgt := 90) hx hb dX12_evenest_85 rfl ?_
              exact W.iret (v := x_38) hx hb hr (fun t ht _ => ⟨⟨x_38, G_58, rfl, (Q_evenest_mk ⟨hB_G_58, hF, ⟨r_1, G_2, hX_5, (Or.inr ⟨c_7, ⟨r_10, G_11, hX_14, (Or.inr ⟨c_16, ⟨G_20, hX_23, ⟨x_38, G_34, hX_39, f_41, hB_G_34, hq_35, ⟨y_43, ty_43, (Or.inr ⟨c_44, ⟨x_49, G_45, hX_50, f_51, hB_G_45, hq_46, ⟨y_53, ty_53, ⟨c_54, ⟨y_56, ty_56, ⟨r_57, G_58, hX_61, ⟨c_63, (Or.inl ⟨c_65, ⟨rfl, rfl⟩⟩)⟩⟩⟩⟩⟩⟩⟩)⟩⟩⟩⟩)⟩⟩)⟩⟩), wd_t ht hW⟩, hS.F ht⟩) hS.2.2 dX12_evenest_90
    · have c_16 : r_10.toInt = 0 := xI_eq rfl rfl c_16
      refine ic_m1 hx hb dX12_evenest_20 ?_
      exact W.iret (v := (-1)) hx hb hr (fun t ht _ => ⟨⟨(-1), G_11, rfl, (Q_evenest_mk ⟨hB_G_11, hF, ⟨r_1, G_2, hX_5, (Or.inr ⟨c_7, ⟨r_10, G_11, hX_14, (Or.inl ⟨c_16, ⟨rfl, rfl⟩⟩)⟩⟩)⟩⟩), wd_t ht hW⟩, hS.F ht⟩) hS.2.2 dX12_evenest_21

theorem m98 : Cond.selects RX12 yX12_goOn yX12_goOn ∈ gd := gds_7 2 rfl
theorem m102 : Cond.selects RX12 yX12_keepOn yX12_keepOn ∈ gd := gds_7 6 rfl
theorem m1875 : Cond.methodLink RX12 519 yX12_goOn ∈ gd := gdc_8_4 15 rfl gw_methodLink
theorem m1877 : Cond.instanceMethod yX12_goOn ∈ gd := gdc_8_5 1 rfl gw_instanceMethod
theorem m1878 : Cond.code yX12_goOn cX12_goOn 5 none ∈ gd := gdc_8_5 2 rfl gw_code
theorem m1935 : Cond.methodLink RX12 550 yX12_keepOn ∈ gd := gdc_8_8 11 rfl gw_methodLink
theorem m1937 : Cond.instanceMethod yX12_keepOn ∈ gd := gdc_8_8 13 rfl gw_instanceMethod
theorem m1938 : Cond.code yX12_keepOn cX12_keepOn 6 none ∈ gd := gdc_8_8 14 rfl gw_code
noncomputable def rbX12_keeps_0 : List (Nat × List Nat) := [(0, [42]), (1, [27]), (2, [28]), (3, [29]), (4, [182, 1, 234]), (7, [154, 0, 5]), (10, [2]), (11, [172]), (12, [42]), (13, [27]), (14, [28]), (15, [29]), (16, [182, 1, 237]), (19, [3]), (20, [54, 4]), (22, [21, 4]), (24, [17, 4, 0]), (27, [162, 0, 75]), (30, [42]), (31, [180, 0, 133]), (34, [21, 4]), (36, [21, 4]), (38, [5]), (39, [112])]
theorem rcX12_keeps_0 : dgo (lb cX12_keeps) 0 rbX12_keeps_0 = true := by decide +kernel
theorem dX12_keeps_0 : decode cX12_keeps 0 = .ok (.aload_n 0, 1) := dk_42 (dw rcX12_keeps_0 0 rfl)
theorem dX12_keeps_1 : decode cX12_keeps 1 = .ok (.iload_n 1, 1) := dk_27 (dw rcX12_keeps_0 1 rfl)
theorem dX12_keeps_2 : decode cX12_keeps 2 = .ok (.iload_n 2, 1) := dk_28 (dw rcX12_keeps_0 2 rfl)
theorem dX12_keeps_3 : decode cX12_keeps 3 = .ok (.iload_n 3, 1) := dk_29 (dw rcX12_keeps_0 3 rfl)
theorem dX12_keeps_4 : decode cX12_keeps 4 = .ok (.invokevirtual 490, 3) := dk_182 (dw rcX12_keeps_0 4 rfl) rfl
theorem dX12_keeps_7 : decode cX12_keeps 7 = .ok (.ifCond .ne 5, 3) := dk_154 (dw rcX12_keeps_0 5 rfl) rfl
theorem dX12_keeps_10 : decode cX12_keeps 10 = .ok (.iconst (-1), 1) := dk_2 (dw rcX12_keeps_0 6 rfl)
theorem dX12_keeps_11 : decode cX12_keeps 11 = .ok (.ireturn, 1) := dk_172 (dw rcX12_keeps_0 7 rfl)
theorem dX12_keeps_12 : decode cX12_keeps 12 = .ok (.aload_n 0, 1) := dk_42 (dw rcX12_keeps_0 8 rfl)
theorem dX12_keeps_13 : decode cX12_keeps 13 = .ok (.iload_n 1, 1) := dk_27 (dw rcX12_keeps_0 9 rfl)
theorem dX12_keeps_14 : decode cX12_keeps 14 = .ok (.iload_n 2, 1) := dk_28 (dw rcX12_keeps_0 10 rfl)
theorem dX12_keeps_15 : decode cX12_keeps 15 = .ok (.iload_n 3, 1) := dk_29 (dw rcX12_keeps_0 11 rfl)
theorem dX12_keeps_16 : decode cX12_keeps 16 = .ok (.invokevirtual 493, 3) := dk_182 (dw rcX12_keeps_0 12 rfl) rfl
theorem dX12_keeps_19 : decode cX12_keeps 19 = .ok (.iconst 0, 1) := dk_3 (dw rcX12_keeps_0 13 rfl)
theorem dX12_keeps_20 : decode cX12_keeps 20 = .ok (.istore 4, 2) := dk_54 (dw rcX12_keeps_0 14 rfl)
theorem dX12_keeps_22 : decode cX12_keeps 22 = .ok (.iload 4, 2) := dk_21 (dw rcX12_keeps_0 15 rfl)
theorem dX12_keeps_24 : decode cX12_keeps 24 = .ok (.sipush 1024, 3) := dk_17 (dw rcX12_keeps_0 16 rfl) rfl
theorem dX12_keeps_27 : decode cX12_keeps 27 = .ok (.if_icmp .ge 75, 3) := dk_162 (dw rcX12_keeps_0 17 rfl) rfl
theorem dX12_keeps_30 : decode cX12_keeps 30 = .ok (.aload_n 0, 1) := dk_42 (dw rcX12_keeps_0 18 rfl)
theorem dX12_keeps_31 : decode cX12_keeps 31 = .ok (.getfield 133, 3) := dk_180 (dw rcX12_keeps_0 19 rfl) rfl
theorem dX12_keeps_34 : decode cX12_keeps 34 = .ok (.iload 4, 2) := dk_21 (dw rcX12_keeps_0 20 rfl)
theorem dX12_keeps_36 : decode cX12_keeps 36 = .ok (.iload 4, 2) := dk_21 (dw rcX12_keeps_0 21 rfl)
theorem dX12_keeps_38 : decode cX12_keeps 38 = .ok (.iconst 2, 1) := dk_5 (dw rcX12_keeps_0 22 rfl)
theorem dX12_keeps_39 : decode cX12_keeps 39 = .ok (.irem, 1) := dk_112 (dw rcX12_keeps_0 23 rfl)
noncomputable def rbX12_keeps_40 : List (Nat × List Nat) := [(40, [154, 0, 52]), (43, [21, 4]), (45, [5]), (46, [108]), (47, [42]), (48, [180, 1, 222]), (51, [162, 0, 41]), (54, [21, 4]), (56, [5]), (57, [108]), (58, [17, 1, 144]), (61, [162, 0, 31]), (64, [42]), (65, [180, 0, 115]), (68, [21, 4]), (70, [5]), (71, [108]), (72, [51]), (73, [153, 0, 19]), (76, [42]), (77, [21, 4]), (79, [5]), (80, [108]), (81, [3])]
theorem rcX12_keeps_40 : dgo (lb cX12_keeps) 0 rbX12_keeps_40 = true := by decide +kernel
theorem dX12_keeps_40 : decode cX12_keeps 40 = .ok (.ifCond .ne 52, 3) := dk_154 (dw rcX12_keeps_40 0 rfl) rfl
theorem dX12_keeps_43 : decode cX12_keeps 43 = .ok (.iload 4, 2) := dk_21 (dw rcX12_keeps_40 1 rfl)
theorem dX12_keeps_45 : decode cX12_keeps 45 = .ok (.iconst 2, 1) := dk_5 (dw rcX12_keeps_40 2 rfl)
theorem dX12_keeps_46 : decode cX12_keeps 46 = .ok (.idiv, 1) := dk_108 (dw rcX12_keeps_40 3 rfl)
theorem dX12_keeps_47 : decode cX12_keeps 47 = .ok (.aload_n 0, 1) := dk_42 (dw rcX12_keeps_40 4 rfl)
theorem dX12_keeps_48 : decode cX12_keeps 48 = .ok (.getfield 478, 3) := dk_180 (dw rcX12_keeps_40 5 rfl) rfl
theorem dX12_keeps_51 : decode cX12_keeps 51 = .ok (.if_icmp .ge 41, 3) := dk_162 (dw rcX12_keeps_40 6 rfl) rfl
theorem dX12_keeps_54 : decode cX12_keeps 54 = .ok (.iload 4, 2) := dk_21 (dw rcX12_keeps_40 7 rfl)
theorem dX12_keeps_56 : decode cX12_keeps 56 = .ok (.iconst 2, 1) := dk_5 (dw rcX12_keeps_40 8 rfl)
theorem dX12_keeps_57 : decode cX12_keeps 57 = .ok (.idiv, 1) := dk_108 (dw rcX12_keeps_40 9 rfl)
theorem dX12_keeps_58 : decode cX12_keeps 58 = .ok (.sipush 400, 3) := dk_17 (dw rcX12_keeps_40 10 rfl) rfl
theorem dX12_keeps_61 : decode cX12_keeps 61 = .ok (.if_icmp .ge 31, 3) := dk_162 (dw rcX12_keeps_40 11 rfl) rfl
theorem dX12_keeps_64 : decode cX12_keeps 64 = .ok (.aload_n 0, 1) := dk_42 (dw rcX12_keeps_40 12 rfl)
theorem dX12_keeps_65 : decode cX12_keeps 65 = .ok (.getfield 115, 3) := dk_180 (dw rcX12_keeps_40 13 rfl) rfl
theorem dX12_keeps_68 : decode cX12_keeps 68 = .ok (.iload 4, 2) := dk_21 (dw rcX12_keeps_40 14 rfl)
theorem dX12_keeps_70 : decode cX12_keeps 70 = .ok (.iconst 2, 1) := dk_5 (dw rcX12_keeps_40 15 rfl)
theorem dX12_keeps_71 : decode cX12_keeps 71 = .ok (.idiv, 1) := dk_108 (dw rcX12_keeps_40 16 rfl)
theorem dX12_keeps_72 : decode cX12_keeps 72 = .ok (.baload, 1) := dk_51 (dw rcX12_keeps_40 17 rfl)
theorem dX12_keeps_73 : decode cX12_keeps 73 = .ok (.ifCond .eq 19, 3) := dk_153 (dw rcX12_keeps_40 18 rfl) rfl
theorem dX12_keeps_76 : decode cX12_keeps 76 = .ok (.aload_n 0, 1) := dk_42 (dw rcX12_keeps_40 19 rfl)
theorem dX12_keeps_77 : decode cX12_keeps 77 = .ok (.iload 4, 2) := dk_21 (dw rcX12_keeps_40 20 rfl)
theorem dX12_keeps_79 : decode cX12_keeps 79 = .ok (.iconst 2, 1) := dk_5 (dw rcX12_keeps_40 21 rfl)
theorem dX12_keeps_80 : decode cX12_keeps 80 = .ok (.idiv, 1) := dk_108 (dw rcX12_keeps_40 22 rfl)
theorem dX12_keeps_81 : decode cX12_keeps 81 = .ok (.iconst 0, 1) := dk_3 (dw rcX12_keeps_40 23 rfl)
noncomputable def rbX12_keeps_82 : List (Nat × List Nat) := [(82, [182, 2, 35]), (85, [153, 0, 7]), (88, [3]), (89, [167, 0, 6]), (92, [19, 1, 246]), (95, [79]), (96, [132, 4, 1]), (99, [167, 255, 179]), (102, [19, 1, 246]), (105, [54, 4]), (107, [4]), (108, [54, 5]), (110, [21, 5]), (112, [17, 1, 144]), (115, [163, 0, 136]), (118, [3]), (119, [54, 6]), (121, [21, 6]), (123, [17, 4, 0]), (126, [162, 0, 19]), (129, [42]), (130, [180, 0, 136]), (133, [21, 6]), (135, [19, 1, 246])]
theorem rcX12_keeps_82 : dgo (lb cX12_keeps) 0 rbX12_keeps_82 = true := by decide +kernel
theorem dX12_keeps_82 : decode cX12_keeps 82 = .ok (.invokevirtual 547, 3) := dk_182 (dw rcX12_keeps_82 0 rfl) rfl
theorem dX12_keeps_85 : decode cX12_keeps 85 = .ok (.ifCond .eq 7, 3) := dk_153 (dw rcX12_keeps_82 1 rfl) rfl
theorem dX12_keeps_88 : decode cX12_keeps 88 = .ok (.iconst 0, 1) := dk_3 (dw rcX12_keeps_82 2 rfl)
theorem dX12_keeps_89 : decode cX12_keeps 89 = .ok (.goto 6, 3) := dk_167 (dw rcX12_keeps_82 3 rfl) rfl
theorem dX12_keeps_92 : decode cX12_keeps 92 = .ok (.ldc_w 502, 3) := dk_19 (dw rcX12_keeps_82 4 rfl) rfl
theorem dX12_keeps_95 : decode cX12_keeps 95 = .ok (.iastore, 1) := dk_79 (dw rcX12_keeps_82 5 rfl)
theorem dX12_keeps_96 : decode cX12_keeps 96 = .ok (.iinc 4 1, 3) := dk_132 (dw rcX12_keeps_82 6 rfl) rfl
theorem dX12_keeps_99 : decode cX12_keeps 99 = .ok (.goto (-77), 3) := dk_167 (dw rcX12_keeps_82 7 rfl) rfl
theorem dX12_keeps_102 : decode cX12_keeps 102 = .ok (.ldc_w 502, 3) := dk_19 (dw rcX12_keeps_82 8 rfl) rfl
theorem dX12_keeps_105 : decode cX12_keeps 105 = .ok (.istore 4, 2) := dk_54 (dw rcX12_keeps_82 9 rfl)
theorem dX12_keeps_107 : decode cX12_keeps 107 = .ok (.iconst 1, 1) := dk_4 (dw rcX12_keeps_82 10 rfl)
theorem dX12_keeps_108 : decode cX12_keeps 108 = .ok (.istore 5, 2) := dk_54 (dw rcX12_keeps_82 11 rfl)
theorem dX12_keeps_110 : decode cX12_keeps 110 = .ok (.iload 5, 2) := dk_21 (dw rcX12_keeps_82 12 rfl)
theorem dX12_keeps_112 : decode cX12_keeps 112 = .ok (.sipush 400, 3) := dk_17 (dw rcX12_keeps_82 13 rfl) rfl
theorem dX12_keeps_115 : decode cX12_keeps 115 = .ok (.if_icmp .gt 136, 3) := dk_163 (dw rcX12_keeps_82 14 rfl) rfl
theorem dX12_keeps_118 : decode cX12_keeps 118 = .ok (.iconst 0, 1) := dk_3 (dw rcX12_keeps_82 15 rfl)
theorem dX12_keeps_119 : decode cX12_keeps 119 = .ok (.istore 6, 2) := dk_54 (dw rcX12_keeps_82 16 rfl)
theorem dX12_keeps_121 : decode cX12_keeps 121 = .ok (.iload 6, 2) := dk_21 (dw rcX12_keeps_82 17 rfl)
theorem dX12_keeps_123 : decode cX12_keeps 123 = .ok (.sipush 1024, 3) := dk_17 (dw rcX12_keeps_82 18 rfl) rfl
theorem dX12_keeps_126 : decode cX12_keeps 126 = .ok (.if_icmp .ge 19, 3) := dk_162 (dw rcX12_keeps_82 19 rfl) rfl
theorem dX12_keeps_129 : decode cX12_keeps 129 = .ok (.aload_n 0, 1) := dk_42 (dw rcX12_keeps_82 20 rfl)
theorem dX12_keeps_130 : decode cX12_keeps 130 = .ok (.getfield 136, 3) := dk_180 (dw rcX12_keeps_82 21 rfl) rfl
theorem dX12_keeps_133 : decode cX12_keeps 133 = .ok (.iload 6, 2) := dk_21 (dw rcX12_keeps_82 22 rfl)
theorem dX12_keeps_135 : decode cX12_keeps 135 = .ok (.ldc_w 502, 3) := dk_19 (dw rcX12_keeps_82 23 rfl) rfl
noncomputable def rbX12_keeps_138 : List (Nat × List Nat) := [(138, [79]), (139, [132, 6, 1]), (142, [167, 255, 235]), (145, [3]), (146, [54, 6]), (148, [21, 6]), (150, [17, 3, 32]), (153, [162, 0, 61]), (156, [42]), (157, [180, 0, 133]), (160, [21, 6]), (162, [46]), (163, [19, 1, 246]), (166, [160, 0, 6]), (169, [167, 0, 39]), (172, [42]), (173, [21, 6]), (175, [5]), (176, [108]), (177, [182, 1, 243]), (180, [153, 0, 20]), (183, [21, 4]), (185, [42]), (186, [180, 0, 133])]
theorem rcX12_keeps_138 : dgo (lb cX12_keeps) 0 rbX12_keeps_138 = true := by decide +kernel
theorem dX12_keeps_138 : decode cX12_keeps 138 = .ok (.iastore, 1) := dk_79 (dw rcX12_keeps_138 0 rfl)
theorem dX12_keeps_139 : decode cX12_keeps 139 = .ok (.iinc 6 1, 3) := dk_132 (dw rcX12_keeps_138 1 rfl) rfl
theorem dX12_keeps_142 : decode cX12_keeps 142 = .ok (.goto (-21), 3) := dk_167 (dw rcX12_keeps_138 2 rfl) rfl
theorem dX12_keeps_145 : decode cX12_keeps 145 = .ok (.iconst 0, 1) := dk_3 (dw rcX12_keeps_138 3 rfl)
theorem dX12_keeps_146 : decode cX12_keeps 146 = .ok (.istore 6, 2) := dk_54 (dw rcX12_keeps_138 4 rfl)
theorem dX12_keeps_148 : decode cX12_keeps 148 = .ok (.iload 6, 2) := dk_21 (dw rcX12_keeps_138 5 rfl)
theorem dX12_keeps_150 : decode cX12_keeps 150 = .ok (.sipush 800, 3) := dk_17 (dw rcX12_keeps_138 6 rfl) rfl
theorem dX12_keeps_153 : decode cX12_keeps 153 = .ok (.if_icmp .ge 61, 3) := dk_162 (dw rcX12_keeps_138 7 rfl) rfl
theorem dX12_keeps_156 : decode cX12_keeps 156 = .ok (.aload_n 0, 1) := dk_42 (dw rcX12_keeps_138 8 rfl)
theorem dX12_keeps_157 : decode cX12_keeps 157 = .ok (.getfield 133, 3) := dk_180 (dw rcX12_keeps_138 9 rfl) rfl
theorem dX12_keeps_160 : decode cX12_keeps 160 = .ok (.iload 6, 2) := dk_21 (dw rcX12_keeps_138 10 rfl)
theorem dX12_keeps_162 : decode cX12_keeps 162 = .ok (.iaload, 1) := dk_46 (dw rcX12_keeps_138 11 rfl)
theorem dX12_keeps_163 : decode cX12_keeps 163 = .ok (.ldc_w 502, 3) := dk_19 (dw rcX12_keeps_138 12 rfl) rfl
theorem dX12_keeps_166 : decode cX12_keeps 166 = .ok (.if_icmp .ne 6, 3) := dk_160 (dw rcX12_keeps_138 13 rfl) rfl
theorem dX12_keeps_169 : decode cX12_keeps 169 = .ok (.goto 39, 3) := dk_167 (dw rcX12_keeps_138 14 rfl) rfl
theorem dX12_keeps_172 : decode cX12_keeps 172 = .ok (.aload_n 0, 1) := dk_42 (dw rcX12_keeps_138 15 rfl)
theorem dX12_keeps_173 : decode cX12_keeps 173 = .ok (.iload 6, 2) := dk_21 (dw rcX12_keeps_138 16 rfl)
theorem dX12_keeps_175 : decode cX12_keeps 175 = .ok (.iconst 2, 1) := dk_5 (dw rcX12_keeps_138 17 rfl)
theorem dX12_keeps_176 : decode cX12_keeps 176 = .ok (.idiv, 1) := dk_108 (dw rcX12_keeps_138 18 rfl)
theorem dX12_keeps_177 : decode cX12_keeps 177 = .ok (.invokevirtual 499, 3) := dk_182 (dw rcX12_keeps_138 19 rfl) rfl
theorem dX12_keeps_180 : decode cX12_keeps 180 = .ok (.ifCond .eq 20, 3) := dk_153 (dw rcX12_keeps_138 20 rfl) rfl
theorem dX12_keeps_183 : decode cX12_keeps 183 = .ok (.iload 4, 2) := dk_21 (dw rcX12_keeps_138 21 rfl)
theorem dX12_keeps_185 : decode cX12_keeps 185 = .ok (.aload_n 0, 1) := dk_42 (dw rcX12_keeps_138 22 rfl)
theorem dX12_keeps_186 : decode cX12_keeps 186 = .ok (.getfield 133, 3) := dk_180 (dw rcX12_keeps_138 23 rfl) rfl
noncomputable def rbX12_keeps_189 : List (Nat × List Nat) := [(189, [21, 6]), (191, [46]), (192, [184, 1, 250]), (195, [54, 4]), (197, [167, 0, 11]), (200, [42]), (201, [21, 6]), (203, [21, 5]), (205, [182, 2, 38]), (208, [132, 6, 1]), (211, [167, 255, 193]), (214, [3]), (215, [54, 6]), (217, [21, 6]), (219, [17, 4, 0]), (222, [162, 0, 23]), (225, [42]), (226, [180, 0, 133]), (229, [21, 6]), (231, [42]), (232, [180, 0, 136]), (235, [21, 6]), (237, [46]), (238, [79])]
theorem rcX12_keeps_189 : dgo (lb cX12_keeps) 0 rbX12_keeps_189 = true := by decide +kernel
theorem dX12_keeps_189 : decode cX12_keeps 189 = .ok (.iload 6, 2) := dk_21 (dw rcX12_keeps_189 0 rfl)
theorem dX12_keeps_191 : decode cX12_keeps 191 = .ok (.iaload, 1) := dk_46 (dw rcX12_keeps_189 1 rfl)
theorem dX12_keeps_192 : decode cX12_keeps 192 = .ok (.invokestatic 506, 3) := dk_184 (dw rcX12_keeps_189 2 rfl) rfl
theorem dX12_keeps_195 : decode cX12_keeps 195 = .ok (.istore 4, 2) := dk_54 (dw rcX12_keeps_189 3 rfl)
theorem dX12_keeps_197 : decode cX12_keeps 197 = .ok (.goto 11, 3) := dk_167 (dw rcX12_keeps_189 4 rfl) rfl
theorem dX12_keeps_200 : decode cX12_keeps 200 = .ok (.aload_n 0, 1) := dk_42 (dw rcX12_keeps_189 5 rfl)
theorem dX12_keeps_201 : decode cX12_keeps 201 = .ok (.iload 6, 2) := dk_21 (dw rcX12_keeps_189 6 rfl)
theorem dX12_keeps_203 : decode cX12_keeps 203 = .ok (.iload 5, 2) := dk_21 (dw rcX12_keeps_189 7 rfl)
theorem dX12_keeps_205 : decode cX12_keeps 205 = .ok (.invokevirtual 550, 3) := dk_182 (dw rcX12_keeps_189 8 rfl) rfl
theorem dX12_keeps_208 : decode cX12_keeps 208 = .ok (.iinc 6 1, 3) := dk_132 (dw rcX12_keeps_189 9 rfl) rfl
theorem dX12_keeps_211 : decode cX12_keeps 211 = .ok (.goto (-63), 3) := dk_167 (dw rcX12_keeps_189 10 rfl) rfl
theorem dX12_keeps_214 : decode cX12_keeps 214 = .ok (.iconst 0, 1) := dk_3 (dw rcX12_keeps_189 11 rfl)
theorem dX12_keeps_215 : decode cX12_keeps 215 = .ok (.istore 6, 2) := dk_54 (dw rcX12_keeps_189 12 rfl)
theorem dX12_keeps_217 : decode cX12_keeps 217 = .ok (.iload 6, 2) := dk_21 (dw rcX12_keeps_189 13 rfl)
theorem dX12_keeps_219 : decode cX12_keeps 219 = .ok (.sipush 1024, 3) := dk_17 (dw rcX12_keeps_189 14 rfl) rfl
theorem dX12_keeps_222 : decode cX12_keeps 222 = .ok (.if_icmp .ge 23, 3) := dk_162 (dw rcX12_keeps_189 15 rfl) rfl
theorem dX12_keeps_225 : decode cX12_keeps 225 = .ok (.aload_n 0, 1) := dk_42 (dw rcX12_keeps_189 16 rfl)
theorem dX12_keeps_226 : decode cX12_keeps 226 = .ok (.getfield 133, 3) := dk_180 (dw rcX12_keeps_189 17 rfl) rfl
theorem dX12_keeps_229 : decode cX12_keeps 229 = .ok (.iload 6, 2) := dk_21 (dw rcX12_keeps_189 18 rfl)
theorem dX12_keeps_231 : decode cX12_keeps 231 = .ok (.aload_n 0, 1) := dk_42 (dw rcX12_keeps_189 19 rfl)
theorem dX12_keeps_232 : decode cX12_keeps 232 = .ok (.getfield 136, 3) := dk_180 (dw rcX12_keeps_189 20 rfl) rfl
theorem dX12_keeps_235 : decode cX12_keeps 235 = .ok (.iload 6, 2) := dk_21 (dw rcX12_keeps_189 21 rfl)
theorem dX12_keeps_237 : decode cX12_keeps 237 = .ok (.iaload, 1) := dk_46 (dw rcX12_keeps_189 22 rfl)
theorem dX12_keeps_238 : decode cX12_keeps 238 = .ok (.iastore, 1) := dk_79 (dw rcX12_keeps_189 23 rfl)
noncomputable def rbX12_keeps_239 : List (Nat × List Nat) := [(239, [132, 6, 1]), (242, [167, 255, 231]), (245, [132, 5, 1]), (248, [167, 255, 118]), (251, [21, 4]), (253, [19, 1, 246]), (256, [160, 0, 7]), (259, [2]), (260, [167, 0, 5]), (263, [21, 4]), (265, [172])]
theorem rcX12_keeps_239 : dgo (lb cX12_keeps) 0 rbX12_keeps_239 = true := by decide +kernel
theorem dX12_keeps_239 : decode cX12_keeps 239 = .ok (.iinc 6 1, 3) := dk_132 (dw rcX12_keeps_239 0 rfl) rfl
theorem dX12_keeps_242 : decode cX12_keeps 242 = .ok (.goto (-25), 3) := dk_167 (dw rcX12_keeps_239 1 rfl) rfl
theorem dX12_keeps_245 : decode cX12_keeps 245 = .ok (.iinc 5 1, 3) := dk_132 (dw rcX12_keeps_239 2 rfl) rfl
theorem dX12_keeps_248 : decode cX12_keeps 248 = .ok (.goto (-138), 3) := dk_167 (dw rcX12_keeps_239 3 rfl) rfl
theorem dX12_keeps_251 : decode cX12_keeps 251 = .ok (.iload 4, 2) := dk_21 (dw rcX12_keeps_239 4 rfl)
theorem dX12_keeps_253 : decode cX12_keeps 253 = .ok (.ldc_w 502, 3) := dk_19 (dw rcX12_keeps_239 5 rfl) rfl
theorem dX12_keeps_256 : decode cX12_keeps 256 = .ok (.if_icmp .ne 7, 3) := dk_160 (dw rcX12_keeps_239 6 rfl) rfl
theorem dX12_keeps_259 : decode cX12_keeps 259 = .ok (.iconst (-1), 1) := dk_2 (dw rcX12_keeps_239 7 rfl)
theorem dX12_keeps_260 : decode cX12_keeps 260 = .ok (.goto 5, 3) := dk_167 (dw rcX12_keeps_239 8 rfl) rfl
theorem dX12_keeps_263 : decode cX12_keeps 263 = .ok (.iload 4, 2) := dk_21 (dw rcX12_keeps_239 9 rfl)
theorem dX12_keeps_265 : decode cX12_keeps 265 = .ok (.ireturn, 1) := dk_172 (dw rcX12_keeps_239 10 rfl)
noncomputable def rbX12_ways_0 : List (Nat × List Nat) := [(0, [42]), (1, [27]), (2, [28]), (3, [29]), (4, [182, 1, 234]), (7, [153, 0, 14]), (10, [21, 4]), (12, [4]), (13, [16, 60]), (15, [184, 1, 193]), (18, [154, 0, 7]), (21, [20, 2, 5]), (24, [173]), (25, [42]), (26, [27]), (27, [28]), (28, [29]), (29, [182, 1, 237]), (32, [3]), (33, [54, 5]), (35, [21, 5]), (37, [17, 4, 0]), (40, [162, 0, 61]), (43, [42])]
theorem rcX12_ways_0 : dgo (lb cX12_ways) 0 rbX12_ways_0 = true := by decide +kernel
theorem dX12_ways_0 : decode cX12_ways 0 = .ok (.aload_n 0, 1) := dk_42 (dw rcX12_ways_0 0 rfl)
theorem dX12_ways_1 : decode cX12_ways 1 = .ok (.iload_n 1, 1) := dk_27 (dw rcX12_ways_0 1 rfl)
theorem dX12_ways_2 : decode cX12_ways 2 = .ok (.iload_n 2, 1) := dk_28 (dw rcX12_ways_0 2 rfl)
theorem dX12_ways_3 : decode cX12_ways 3 = .ok (.iload_n 3, 1) := dk_29 (dw rcX12_ways_0 3 rfl)
theorem dX12_ways_4 : decode cX12_ways 4 = .ok (.invokevirtual 490, 3) := dk_182 (dw rcX12_ways_0 4 rfl) rfl
theorem dX12_ways_7 : decode cX12_ways 7 = .ok (.ifCond .eq 14, 3) := dk_153 (dw rcX12_ways_0 5 rfl) rfl
theorem dX12_ways_10 : decode cX12_ways 10 = .ok (.iload 4, 2) := dk_21 (dw rcX12_ways_0 6 rfl)
theorem dX12_ways_12 : decode cX12_ways 12 = .ok (.iconst 1, 1) := dk_4 (dw rcX12_ways_0 7 rfl)
theorem dX12_ways_13 : decode cX12_ways 13 = .ok (.bipush 60, 2) := dk_16 (dw rcX12_ways_0 8 rfl) rfl
theorem dX12_ways_15 : decode cX12_ways 15 = .ok (.invokestatic 449, 3) := dk_184 (dw rcX12_ways_0 9 rfl) rfl
theorem dX12_ways_18 : decode cX12_ways 18 = .ok (.ifCond .ne 7, 3) := dk_154 (dw rcX12_ways_0 10 rfl) rfl
theorem dX12_ways_21 : decode cX12_ways 21 = .ok (.ldc2_w 517, 3) := dk_20 (dw rcX12_ways_0 11 rfl) rfl
theorem dX12_ways_24 : decode cX12_ways 24 = .ok (.lreturn, 1) := dk_173 (dw rcX12_ways_0 12 rfl)
theorem dX12_ways_25 : decode cX12_ways 25 = .ok (.aload_n 0, 1) := dk_42 (dw rcX12_ways_0 13 rfl)
theorem dX12_ways_26 : decode cX12_ways 26 = .ok (.iload_n 1, 1) := dk_27 (dw rcX12_ways_0 14 rfl)
theorem dX12_ways_27 : decode cX12_ways 27 = .ok (.iload_n 2, 1) := dk_28 (dw rcX12_ways_0 15 rfl)
theorem dX12_ways_28 : decode cX12_ways 28 = .ok (.iload_n 3, 1) := dk_29 (dw rcX12_ways_0 16 rfl)
theorem dX12_ways_29 : decode cX12_ways 29 = .ok (.invokevirtual 493, 3) := dk_182 (dw rcX12_ways_0 17 rfl) rfl
theorem dX12_ways_32 : decode cX12_ways 32 = .ok (.iconst 0, 1) := dk_3 (dw rcX12_ways_0 18 rfl)
theorem dX12_ways_33 : decode cX12_ways 33 = .ok (.istore 5, 2) := dk_54 (dw rcX12_ways_0 19 rfl)
theorem dX12_ways_35 : decode cX12_ways 35 = .ok (.iload 5, 2) := dk_21 (dw rcX12_ways_0 20 rfl)
theorem dX12_ways_37 : decode cX12_ways 37 = .ok (.sipush 1024, 3) := dk_17 (dw rcX12_ways_0 21 rfl) rfl
theorem dX12_ways_40 : decode cX12_ways 40 = .ok (.if_icmp .ge 61, 3) := dk_162 (dw rcX12_ways_0 22 rfl) rfl
theorem dX12_ways_43 : decode cX12_ways 43 = .ok (.aload_n 0, 1) := dk_42 (dw rcX12_ways_0 23 rfl)
noncomputable def rbX12_ways_44 : List (Nat × List Nat) := [(44, [180, 0, 124]), (47, [21, 5]), (49, [21, 5]), (51, [5]), (52, [112]), (53, [154, 0, 40]), (56, [21, 5]), (58, [5]), (59, [108]), (60, [42]), (61, [180, 1, 222]), (64, [162, 0, 29]), (67, [21, 5]), (69, [5]), (70, [108]), (71, [17, 1, 144]), (74, [162, 0, 19]), (77, [42]), (78, [180, 0, 115]), (81, [21, 5]), (83, [5]), (84, [108]), (85, [51]), (86, [153, 0, 7])]
theorem rcX12_ways_44 : dgo (lb cX12_ways) 0 rbX12_ways_44 = true := by decide +kernel
theorem dX12_ways_44 : decode cX12_ways 44 = .ok (.getfield 124, 3) := dk_180 (dw rcX12_ways_44 0 rfl) rfl
theorem dX12_ways_47 : decode cX12_ways 47 = .ok (.iload 5, 2) := dk_21 (dw rcX12_ways_44 1 rfl)
theorem dX12_ways_49 : decode cX12_ways 49 = .ok (.iload 5, 2) := dk_21 (dw rcX12_ways_44 2 rfl)
theorem dX12_ways_51 : decode cX12_ways 51 = .ok (.iconst 2, 1) := dk_5 (dw rcX12_ways_44 3 rfl)
theorem dX12_ways_52 : decode cX12_ways 52 = .ok (.irem, 1) := dk_112 (dw rcX12_ways_44 4 rfl)
theorem dX12_ways_53 : decode cX12_ways 53 = .ok (.ifCond .ne 40, 3) := dk_154 (dw rcX12_ways_44 5 rfl) rfl
theorem dX12_ways_56 : decode cX12_ways 56 = .ok (.iload 5, 2) := dk_21 (dw rcX12_ways_44 6 rfl)
theorem dX12_ways_58 : decode cX12_ways 58 = .ok (.iconst 2, 1) := dk_5 (dw rcX12_ways_44 7 rfl)
theorem dX12_ways_59 : decode cX12_ways 59 = .ok (.idiv, 1) := dk_108 (dw rcX12_ways_44 8 rfl)
theorem dX12_ways_60 : decode cX12_ways 60 = .ok (.aload_n 0, 1) := dk_42 (dw rcX12_ways_44 9 rfl)
theorem dX12_ways_61 : decode cX12_ways 61 = .ok (.getfield 478, 3) := dk_180 (dw rcX12_ways_44 10 rfl) rfl
theorem dX12_ways_64 : decode cX12_ways 64 = .ok (.if_icmp .ge 29, 3) := dk_162 (dw rcX12_ways_44 11 rfl) rfl
theorem dX12_ways_67 : decode cX12_ways 67 = .ok (.iload 5, 2) := dk_21 (dw rcX12_ways_44 12 rfl)
theorem dX12_ways_69 : decode cX12_ways 69 = .ok (.iconst 2, 1) := dk_5 (dw rcX12_ways_44 13 rfl)
theorem dX12_ways_70 : decode cX12_ways 70 = .ok (.idiv, 1) := dk_108 (dw rcX12_ways_44 14 rfl)
theorem dX12_ways_71 : decode cX12_ways 71 = .ok (.sipush 400, 3) := dk_17 (dw rcX12_ways_44 15 rfl) rfl
theorem dX12_ways_74 : decode cX12_ways 74 = .ok (.if_icmp .ge 19, 3) := dk_162 (dw rcX12_ways_44 16 rfl) rfl
theorem dX12_ways_77 : decode cX12_ways 77 = .ok (.aload_n 0, 1) := dk_42 (dw rcX12_ways_44 17 rfl)
theorem dX12_ways_78 : decode cX12_ways 78 = .ok (.getfield 115, 3) := dk_180 (dw rcX12_ways_44 18 rfl) rfl
theorem dX12_ways_81 : decode cX12_ways 81 = .ok (.iload 5, 2) := dk_21 (dw rcX12_ways_44 19 rfl)
theorem dX12_ways_83 : decode cX12_ways 83 = .ok (.iconst 2, 1) := dk_5 (dw rcX12_ways_44 20 rfl)
theorem dX12_ways_84 : decode cX12_ways 84 = .ok (.idiv, 1) := dk_108 (dw rcX12_ways_44 21 rfl)
theorem dX12_ways_85 : decode cX12_ways 85 = .ok (.baload, 1) := dk_51 (dw rcX12_ways_44 22 rfl)
theorem dX12_ways_86 : decode cX12_ways 86 = .ok (.ifCond .eq 7, 3) := dk_153 (dw rcX12_ways_44 23 rfl) rfl
noncomputable def rbX12_ways_89 : List (Nat × List Nat) := [(89, [10]), (90, [167, 0, 4]), (93, [9]), (94, [80]), (95, [132, 5, 1]), (98, [167, 255, 193]), (101, [4]), (102, [54, 5]), (104, [21, 5]), (106, [21, 4]), (108, [162, 0, 111]), (111, [3]), (112, [54, 6]), (114, [21, 6]), (116, [17, 4, 0]), (119, [162, 0, 17]), (122, [42]), (123, [180, 0, 127]), (126, [21, 6]), (128, [9]), (129, [80]), (130, [132, 6, 1]), (133, [167, 255, 237]), (136, [3])]
theorem rcX12_ways_89 : dgo (lb cX12_ways) 0 rbX12_ways_89 = true := by decide +kernel
theorem dX12_ways_89 : decode cX12_ways 89 = .ok (.lconst 1, 1) := dk_10 (dw rcX12_ways_89 0 rfl)
theorem dX12_ways_90 : decode cX12_ways 90 = .ok (.goto 4, 3) := dk_167 (dw rcX12_ways_89 1 rfl) rfl
theorem dX12_ways_93 : decode cX12_ways 93 = .ok (.lconst 0, 1) := dk_9 (dw rcX12_ways_89 2 rfl)
theorem dX12_ways_94 : decode cX12_ways 94 = .ok (.lastore, 1) := dk_80 (dw rcX12_ways_89 3 rfl)
theorem dX12_ways_95 : decode cX12_ways 95 = .ok (.iinc 5 1, 3) := dk_132 (dw rcX12_ways_89 4 rfl) rfl
theorem dX12_ways_98 : decode cX12_ways 98 = .ok (.goto (-63), 3) := dk_167 (dw rcX12_ways_89 5 rfl) rfl
theorem dX12_ways_101 : decode cX12_ways 101 = .ok (.iconst 1, 1) := dk_4 (dw rcX12_ways_89 6 rfl)
theorem dX12_ways_102 : decode cX12_ways 102 = .ok (.istore 5, 2) := dk_54 (dw rcX12_ways_89 7 rfl)
theorem dX12_ways_104 : decode cX12_ways 104 = .ok (.iload 5, 2) := dk_21 (dw rcX12_ways_89 8 rfl)
theorem dX12_ways_106 : decode cX12_ways 106 = .ok (.iload 4, 2) := dk_21 (dw rcX12_ways_89 9 rfl)
theorem dX12_ways_108 : decode cX12_ways 108 = .ok (.if_icmp .ge 111, 3) := dk_162 (dw rcX12_ways_89 10 rfl) rfl
theorem dX12_ways_111 : decode cX12_ways 111 = .ok (.iconst 0, 1) := dk_3 (dw rcX12_ways_89 11 rfl)
theorem dX12_ways_112 : decode cX12_ways 112 = .ok (.istore 6, 2) := dk_54 (dw rcX12_ways_89 12 rfl)
theorem dX12_ways_114 : decode cX12_ways 114 = .ok (.iload 6, 2) := dk_21 (dw rcX12_ways_89 13 rfl)
theorem dX12_ways_116 : decode cX12_ways 116 = .ok (.sipush 1024, 3) := dk_17 (dw rcX12_ways_89 14 rfl) rfl
theorem dX12_ways_119 : decode cX12_ways 119 = .ok (.if_icmp .ge 17, 3) := dk_162 (dw rcX12_ways_89 15 rfl) rfl
theorem dX12_ways_122 : decode cX12_ways 122 = .ok (.aload_n 0, 1) := dk_42 (dw rcX12_ways_89 16 rfl)
theorem dX12_ways_123 : decode cX12_ways 123 = .ok (.getfield 127, 3) := dk_180 (dw rcX12_ways_89 17 rfl) rfl
theorem dX12_ways_126 : decode cX12_ways 126 = .ok (.iload 6, 2) := dk_21 (dw rcX12_ways_89 18 rfl)
theorem dX12_ways_128 : decode cX12_ways 128 = .ok (.lconst 0, 1) := dk_9 (dw rcX12_ways_89 19 rfl)
theorem dX12_ways_129 : decode cX12_ways 129 = .ok (.lastore, 1) := dk_80 (dw rcX12_ways_89 20 rfl)
theorem dX12_ways_130 : decode cX12_ways 130 = .ok (.iinc 6 1, 3) := dk_132 (dw rcX12_ways_89 21 rfl) rfl
theorem dX12_ways_133 : decode cX12_ways 133 = .ok (.goto (-19), 3) := dk_167 (dw rcX12_ways_89 22 rfl) rfl
theorem dX12_ways_136 : decode cX12_ways 136 = .ok (.iconst 0, 1) := dk_3 (dw rcX12_ways_89 23 rfl)
noncomputable def rbX12_ways_137 : List (Nat × List Nat) := [(137, [54, 6]), (139, [21, 6]), (141, [17, 3, 32]), (144, [162, 0, 38]), (147, [42]), (148, [180, 0, 124]), (151, [21, 6]), (153, [47]), (154, [9]), (155, [148]), (156, [158, 0, 20]), (159, [42]), (160, [21, 6]), (162, [5]), (163, [108]), (164, [182, 1, 243]), (167, [154, 0, 9]), (170, [42]), (171, [21, 6]), (173, [182, 2, 7]), (176, [132, 6, 1]), (179, [167, 255, 216]), (182, [3]), (183, [54, 6])]
theorem rcX12_ways_137 : dgo (lb cX12_ways) 0 rbX12_ways_137 = true := by decide +kernel
theorem dX12_ways_137 : decode cX12_ways 137 = .ok (.istore 6, 2) := dk_54 (dw rcX12_ways_137 0 rfl)
theorem dX12_ways_139 : decode cX12_ways 139 = .ok (.iload 6, 2) := dk_21 (dw rcX12_ways_137 1 rfl)
theorem dX12_ways_141 : decode cX12_ways 141 = .ok (.sipush 800, 3) := dk_17 (dw rcX12_ways_137 2 rfl) rfl
theorem dX12_ways_144 : decode cX12_ways 144 = .ok (.if_icmp .ge 38, 3) := dk_162 (dw rcX12_ways_137 3 rfl) rfl
theorem dX12_ways_147 : decode cX12_ways 147 = .ok (.aload_n 0, 1) := dk_42 (dw rcX12_ways_137 4 rfl)
theorem dX12_ways_148 : decode cX12_ways 148 = .ok (.getfield 124, 3) := dk_180 (dw rcX12_ways_137 5 rfl) rfl
theorem dX12_ways_151 : decode cX12_ways 151 = .ok (.iload 6, 2) := dk_21 (dw rcX12_ways_137 6 rfl)
theorem dX12_ways_153 : decode cX12_ways 153 = .ok (.laload, 1) := dk_47 (dw rcX12_ways_137 7 rfl)
theorem dX12_ways_154 : decode cX12_ways 154 = .ok (.lconst 0, 1) := dk_9 (dw rcX12_ways_137 8 rfl)
theorem dX12_ways_155 : decode cX12_ways 155 = .ok (.lcmp, 1) := dk_148 (dw rcX12_ways_137 9 rfl)
theorem dX12_ways_156 : decode cX12_ways 156 = .ok (.ifCond .le 20, 3) := dk_158 (dw rcX12_ways_137 10 rfl) rfl
theorem dX12_ways_159 : decode cX12_ways 159 = .ok (.aload_n 0, 1) := dk_42 (dw rcX12_ways_137 11 rfl)
theorem dX12_ways_160 : decode cX12_ways 160 = .ok (.iload 6, 2) := dk_21 (dw rcX12_ways_137 12 rfl)
theorem dX12_ways_162 : decode cX12_ways 162 = .ok (.iconst 2, 1) := dk_5 (dw rcX12_ways_137 13 rfl)
theorem dX12_ways_163 : decode cX12_ways 163 = .ok (.idiv, 1) := dk_108 (dw rcX12_ways_137 14 rfl)
theorem dX12_ways_164 : decode cX12_ways 164 = .ok (.invokevirtual 499, 3) := dk_182 (dw rcX12_ways_137 15 rfl) rfl
theorem dX12_ways_167 : decode cX12_ways 167 = .ok (.ifCond .ne 9, 3) := dk_154 (dw rcX12_ways_137 16 rfl) rfl
theorem dX12_ways_170 : decode cX12_ways 170 = .ok (.aload_n 0, 1) := dk_42 (dw rcX12_ways_137 17 rfl)
theorem dX12_ways_171 : decode cX12_ways 171 = .ok (.iload 6, 2) := dk_21 (dw rcX12_ways_137 18 rfl)
theorem dX12_ways_173 : decode cX12_ways 173 = .ok (.invokevirtual 519, 3) := dk_182 (dw rcX12_ways_137 19 rfl) rfl
theorem dX12_ways_176 : decode cX12_ways 176 = .ok (.iinc 6 1, 3) := dk_132 (dw rcX12_ways_137 20 rfl) rfl
theorem dX12_ways_179 : decode cX12_ways 179 = .ok (.goto (-40), 3) := dk_167 (dw rcX12_ways_137 21 rfl) rfl
theorem dX12_ways_182 : decode cX12_ways 182 = .ok (.iconst 0, 1) := dk_3 (dw rcX12_ways_137 22 rfl)
theorem dX12_ways_183 : decode cX12_ways 183 = .ok (.istore 6, 2) := dk_54 (dw rcX12_ways_137 23 rfl)
noncomputable def rbX12_ways_185 : List (Nat × List Nat) := [(185, [21, 6]), (187, [17, 4, 0]), (190, [162, 0, 23]), (193, [42]), (194, [180, 0, 124]), (197, [21, 6]), (199, [42]), (200, [180, 0, 127]), (203, [21, 6]), (205, [47]), (206, [80]), (207, [132, 6, 1]), (210, [167, 255, 231]), (213, [132, 5, 1]), (216, [167, 255, 144]), (219, [9]), (220, [55, 5]), (222, [3]), (223, [54, 7]), (225, [21, 7]), (227, [17, 3, 32]), (230, [162, 0, 35]), (233, [42]), (234, [21, 7])]
theorem rcX12_ways_185 : dgo (lb cX12_ways) 0 rbX12_ways_185 = true := by decide +kernel
theorem dX12_ways_185 : decode cX12_ways 185 = .ok (.iload 6, 2) := dk_21 (dw rcX12_ways_185 0 rfl)
theorem dX12_ways_187 : decode cX12_ways 187 = .ok (.sipush 1024, 3) := dk_17 (dw rcX12_ways_185 1 rfl) rfl
theorem dX12_ways_190 : decode cX12_ways 190 = .ok (.if_icmp .ge 23, 3) := dk_162 (dw rcX12_ways_185 2 rfl) rfl
theorem dX12_ways_193 : decode cX12_ways 193 = .ok (.aload_n 0, 1) := dk_42 (dw rcX12_ways_185 3 rfl)
theorem dX12_ways_194 : decode cX12_ways 194 = .ok (.getfield 124, 3) := dk_180 (dw rcX12_ways_185 4 rfl) rfl
theorem dX12_ways_197 : decode cX12_ways 197 = .ok (.iload 6, 2) := dk_21 (dw rcX12_ways_185 5 rfl)
theorem dX12_ways_199 : decode cX12_ways 199 = .ok (.aload_n 0, 1) := dk_42 (dw rcX12_ways_185 6 rfl)
theorem dX12_ways_200 : decode cX12_ways 200 = .ok (.getfield 127, 3) := dk_180 (dw rcX12_ways_185 7 rfl) rfl
theorem dX12_ways_203 : decode cX12_ways 203 = .ok (.iload 6, 2) := dk_21 (dw rcX12_ways_185 8 rfl)
theorem dX12_ways_205 : decode cX12_ways 205 = .ok (.laload, 1) := dk_47 (dw rcX12_ways_185 9 rfl)
theorem dX12_ways_206 : decode cX12_ways 206 = .ok (.lastore, 1) := dk_80 (dw rcX12_ways_185 10 rfl)
theorem dX12_ways_207 : decode cX12_ways 207 = .ok (.iinc 6 1, 3) := dk_132 (dw rcX12_ways_185 11 rfl) rfl
theorem dX12_ways_210 : decode cX12_ways 210 = .ok (.goto (-25), 3) := dk_167 (dw rcX12_ways_185 12 rfl) rfl
theorem dX12_ways_213 : decode cX12_ways 213 = .ok (.iinc 5 1, 3) := dk_132 (dw rcX12_ways_185 13 rfl) rfl
theorem dX12_ways_216 : decode cX12_ways 216 = .ok (.goto (-112), 3) := dk_167 (dw rcX12_ways_185 14 rfl) rfl
theorem dX12_ways_219 : decode cX12_ways 219 = .ok (.lconst 0, 1) := dk_9 (dw rcX12_ways_185 15 rfl)
theorem dX12_ways_220 : decode cX12_ways 220 = .ok (.lstore 5, 2) := dk_55 (dw rcX12_ways_185 16 rfl)
theorem dX12_ways_222 : decode cX12_ways 222 = .ok (.iconst 0, 1) := dk_3 (dw rcX12_ways_185 17 rfl)
theorem dX12_ways_223 : decode cX12_ways 223 = .ok (.istore 7, 2) := dk_54 (dw rcX12_ways_185 18 rfl)
theorem dX12_ways_225 : decode cX12_ways 225 = .ok (.iload 7, 2) := dk_21 (dw rcX12_ways_185 19 rfl)
theorem dX12_ways_227 : decode cX12_ways 227 = .ok (.sipush 800, 3) := dk_17 (dw rcX12_ways_185 20 rfl) rfl
theorem dX12_ways_230 : decode cX12_ways 230 = .ok (.if_icmp .ge 35, 3) := dk_162 (dw rcX12_ways_185 21 rfl) rfl
theorem dX12_ways_233 : decode cX12_ways 233 = .ok (.aload_n 0, 1) := dk_42 (dw rcX12_ways_185 22 rfl)
theorem dX12_ways_234 : decode cX12_ways 234 = .ok (.iload 7, 2) := dk_21 (dw rcX12_ways_185 23 rfl)
noncomputable def rbX12_ways_236 : List (Nat × List Nat) := [(236, [5]), (237, [108]), (238, [182, 1, 243]), (241, [153, 0, 18]), (244, [22, 5]), (246, [42]), (247, [180, 0, 124]), (250, [21, 7]), (252, [47]), (253, [97]), (254, [184, 2, 10]), (257, [55, 5]), (259, [132, 7, 1]), (262, [167, 255, 219]), (265, [22, 5]), (267, [173])]
theorem rcX12_ways_236 : dgo (lb cX12_ways) 0 rbX12_ways_236 = true := by decide +kernel
theorem dX12_ways_236 : decode cX12_ways 236 = .ok (.iconst 2, 1) := dk_5 (dw rcX12_ways_236 0 rfl)
theorem dX12_ways_237 : decode cX12_ways 237 = .ok (.idiv, 1) := dk_108 (dw rcX12_ways_236 1 rfl)
theorem dX12_ways_238 : decode cX12_ways 238 = .ok (.invokevirtual 499, 3) := dk_182 (dw rcX12_ways_236 2 rfl) rfl
theorem dX12_ways_241 : decode cX12_ways 241 = .ok (.ifCond .eq 18, 3) := dk_153 (dw rcX12_ways_236 3 rfl) rfl
theorem dX12_ways_244 : decode cX12_ways 244 = .ok (.lload 5, 2) := dk_22 (dw rcX12_ways_236 4 rfl)
theorem dX12_ways_246 : decode cX12_ways 246 = .ok (.aload_n 0, 1) := dk_42 (dw rcX12_ways_236 5 rfl)
theorem dX12_ways_247 : decode cX12_ways 247 = .ok (.getfield 124, 3) := dk_180 (dw rcX12_ways_236 6 rfl) rfl
theorem dX12_ways_250 : decode cX12_ways 250 = .ok (.iload 7, 2) := dk_21 (dw rcX12_ways_236 7 rfl)
theorem dX12_ways_252 : decode cX12_ways 252 = .ok (.laload, 1) := dk_47 (dw rcX12_ways_236 8 rfl)
theorem dX12_ways_253 : decode cX12_ways 253 = .ok (.ladd, 1) := dk_97 (dw rcX12_ways_236 9 rfl)
theorem dX12_ways_254 : decode cX12_ways 254 = .ok (.invokestatic 522, 3) := dk_184 (dw rcX12_ways_236 10 rfl) rfl
theorem dX12_ways_257 : decode cX12_ways 257 = .ok (.lstore 5, 2) := dk_55 (dw rcX12_ways_236 11 rfl)
theorem dX12_ways_259 : decode cX12_ways 259 = .ok (.iinc 7 1, 3) := dk_132 (dw rcX12_ways_236 12 rfl) rfl
theorem dX12_ways_262 : decode cX12_ways 262 = .ok (.goto (-37), 3) := dk_167 (dw rcX12_ways_236 13 rfl) rfl
theorem dX12_ways_265 : decode cX12_ways 265 = .ok (.lload 5, 2) := dk_22 (dw rcX12_ways_236 14 rfl)
theorem dX12_ways_267 : decode cX12_ways 267 = .ok (.lreturn, 1) := dk_173 (dw rcX12_ways_236 15 rfl)
set_option maxHeartbeats 4000000 in
set_option maxRecDepth 100000 in
theorem n_ways (l : Launch) (D : va_G) (k : KT) (A : Nat → Prop) (a : Nat → Nat) (z : SK) (G : GS) (p0 : Int32) (p1 : Int32) (p2 : Int32) (p3 : Int32) (hP9 : gP G = 1) : Met l yX12_ways (WS yX12_ways cX12_ways 8 (some .long)) ({ frames := 5, cells := 0, slots := 0, locals := 117 }) (va_Pc [.ref (a 66), .int p0, .int p1, .int p2, .int p3] (cW D k A a z G)) (va_Ql (fun (r : Int64) (G1 : GS) => Q_ways p0 p1 p2 p3 G r G1) (fun (G1 : GS) t => Wd D k A a G1 t.heap) A) 0 0 A := by
  refine Met.ofW (cc := cX12_ways) (maxL := 8) (ret := (some .long)) (by decide) rfl ?_
  intro p e s m args below meth c s₁ B hml hv
  obtain ⟨rfl, hW, hB_G, hK, hZ⟩ := hv
  have hx := B.exec
  have hb := B.bytes
  have hr := B.returns
  have hts := atoms_spec (ws := WS yX12_ways cX12_ways 8 (some .long)) B.pre
  have hgd : ∀ w ∈ gd, w ∈ WS yX12_ways cX12_ways 8 (some .long) := fun w h => List.mem_cons_of_mem _ h
  have hg : ∀ w ∈ gd, w.before _ s = true := fun w h => hts w (hgd w h)
  have hown : s.vm.findClass RX12 = some m.cls := findClass_of_methodNamed B.named
  have hS : va_S A s.heap s.heap [] := va_S.rf
  have hF : Fr [101, 102, 76, 97, 98] [(66, 59), (66, 60), (66, 61), (66, 62), (66, 63)] G G := Fr.rf
  have hl := lv_entry ([.ref (a 66), .int p0, .int p1, .int p2, .int p3]) (n := 8) (Nat.le_of_ble_eq_true rfl)
  rw [lg_entry_eq]
  generalize (lg_sl ([.ref (a 66), .int p0, .int p1, .int p2, .int p3]) ++ List.replicate (8 - (lg_sl ([.ref (a 66), .int p0, .int p1, .int p2, .int p3])).length) Slot.unset).toArray = ls at hl ⊢
  have hl : lv_has ls 8 [(0, .ref (a 66)), (1, .int p0), (2, .int p1), (3, .int p2), (4, .int p3)] := hl
  refine lv_aload_n hx hb dX12_ways_0 rfl (lv_at hl 0 rfl) ?_
  refine lv_iload_n hx hb dX12_ways_1 rfl (lv_at hl 1 rfl) ?_
  refine lv_iload_n hx hb dX12_ways_2 rfl (lv_at hl 2 rfl) ?_
  refine lv_iload_n hx hb dX12_ways_3 rfl (lv_at hl 3 rfl) ?_
  refine S_calli (va_runV (As := [.int p0, .int p1, .int p2]) (rest := []) ⟨hx, hb, hml, hown, hts⟩ (n_isAsked l D k A a z G p0 p1 p2 ) (cwV 3 hts (gd_V hgd m1826 m1828 m89 m131 m1829) rfl rfl rfl hd_X12_isAsked ⟨Nat.le_of_ble_eq_true rfl, Nat.le_of_ble_eq_true rfl⟩) (pre_W hW hB_G hK hZ hS kd_66 rfl) rfl rfl hl.1 rfl (lv_room (Nat.le_of_ble_eq_true rfl)) dX12_ways_4 ⟨Nat.le_of_ble_eq_true rfl, Nat.le_of_ble_eq_true rfl⟩) hS (fun r_1 G_2 H locs hpo hW hS => ?_)
  have hX_5 : Q_isAsked p0 p1 p2 G r_1 G_2 := hpo
  obtain ⟨hB_G_2, hq_3, f_6, hp_4, -⟩ := hpo
  have hF := hF.call9 hq_3 rfl rfl
  refine lv_if_eq (tgt := 21) hx hb dX12_ways_7 rfl (fun c_7 => ?_) (fun c_7 => ?_)
  · have c_7 : r_1.toInt = 0 := xI_eq rfl rfl c_7
    refine lv_ldc2 (v := (-1)) hx hb hown (hg (Cond.constantLong RX12 517 (-1)) m1874) dX12_ways_21 ?_
    exact W.lret (v := (-1)) hx hb hr (fun t ht _ => ⟨⟨(-1), G_2, rfl, (Q_ways_mk ⟨hB_G_2, hF, ⟨r_1, G_2, hX_5, (Or.inl ⟨c_7, ⟨rfl, rfl⟩⟩)⟩⟩), wd_t ht hW⟩, hS.F ht⟩) hS.2.2 dX12_ways_24
  · have c_7 : r_1.toInt ≠ 0 := xI_ne rfl rfl c_7
    refine lv_iload hx hb dX12_ways_10 (lv_at hl 4 rfl) ?_
    refine ic_1 hx hb dX12_ways_12 ?_
    refine lv_bipush (v := 60) hx hb dX12_ways_13 (by decide) ?_
    have qc_8 : (1 : Int32).toInt = 1 := rfl
    have qc_9 : (60 : Int32).toInt = 60 := rfl
    refine S_calli (va_runS (As := [.int p3, .int 1, .int 60]) (rest := []) ⟨hx, hb, hml, hown, hts⟩ (n_isIn l D k A a z G_2 p3 1 60 ) (va_cwS 3 hts (gd_S hgd m1781 m1782 m131 m1783) rfl rfl rfl hd_X12_isIn.2 ⟨Nat.le_of_ble_eq_true rfl, Nat.le_of_ble_eq_true rfl⟩) (pre_S hW hB_G_2 hK hZ hS) rfl rfl hl.1 rfl (lv_room (Nat.le_of_ble_eq_true rfl)) dX12_ways_15 ⟨Nat.le_of_ble_eq_true rfl, Nat.le_of_ble_eq_true rfl⟩) hS (fun r_10 G_11 H locs hpo hW hS => ?_)
    have hX_14 : Q_isIn p3 1 60 G_2 r_10 G_11 := hpo
    obtain ⟨hB_G_11, hq_12, f_15, ⟨d_1, d_2⟩, -⟩ := hpo
    have hF := hF.call9 hq_12 rfl rfl
    refine lv_if_ne (tgt := 25) hx hb dX12_ways_18 rfl (fun c_16 => ?_) (fun c_16 => ?_)
    · have c_16 : r_10.toInt ≠ 0 := xI_ne rfl rfl c_16
      refine lv_aload_n hx hb dX12_ways_25 rfl (lv_at hl 0 rfl) ?_
      refine lv_iload_n hx hb dX12_ways_26 rfl (lv_at hl 1 rfl) ?_
      refine lv_iload_n hx hb dX12_ways_27 rfl (lv_at hl 2 rfl) ?_
      refine lv_iload_n hx hb dX12_ways_28 rfl (lv_at hl 3 rfl) ?_
      have fr_17 : Fr [] [] G G_11 := (Fr.call9 (rs := []) (fs := []) (Fr.call9 (rs := []) (fs := []) Fr.rf hq_3 rfl rfl) hq_12 rfl rfl)
      have g_18 : gP G_11 = gP G := gP_fr fr_17 (gr_q rfl) (gf_q rfl)
      refine S_callv (va_runV (As := [.int p0, .int p1, .int p2]) (rest := []) ⟨hx, hb, hml, hown, hts⟩ (n_layStreet l D k A a z G_11 p0 p1 p2 ⟨(by first | (clear hP9 f_15 d_1 d_2 c_16 g_18; omega) | omega), (by first | (clear hP9 f_15 d_1 d_2 c_16 g_18; omega) | omega)⟩ ⟨(by first | (clear hP9 f_15 d_1 d_2 c_16 g_18; omega) | omega), (by first | (clear hP9 f_15 d_1 d_2 c_16 g_18; omega) | omega)⟩ ((by first | (clear f_6 hp_4 c_7 f_15 d_1 d_2 c_16; omega) | omega))) (cwV 3 hts (gd_V hgd m1834 m1836 m91 m131 m1837) rfl rfl rfl hd_X12_layStreet ⟨Nat.le_of_ble_eq_true rfl, Nat.le_of_ble_eq_true rfl⟩) (pre_W hW hB_G_11 hK hZ hS kd_66 rfl) rfl rfl hl.1 rfl (lv_room (Nat.le_of_ble_eq_true rfl)) dX12_ways_29 ⟨Nat.le_of_ble_eq_true rfl, Nat.le_of_ble_eq_true rfl⟩) hS (fun G_20 H locs hpo hW hS => ?_)
      have hX_23 : Q_layStreet p0 p1 p2 G_11 G_20 := hpo
      obtain ⟨hB_G_20, hq_21, ⟨d_3, d_4, d_5, d_6, d_7, d_8⟩, -⟩ := hpo
      have hF := hF.call9 hq_21 rfl rfl
      refine ic_0 hx hb dX12_ways_32 ?_
      refine lv_istore (lv' := [(5, .int 0), (0, .ref (a 66)), (1, .int p0), (2, .int p1), (3, .int p2), (4, .int p3)]) hx hb dX12_ways_33 hl (lt_b rfl) rfl (fun ls hl => ?_)
      have qc_30 : (0 : Int32).toInt = 0 := rfl
      refine loop_N (Inv := fun n H locs ls => ∃ (G_24 : GS) (x_28 : Int32), (n : Int) = 1024 - x_28.toInt ∧ (0 ≤ x_28.toInt ∧ x_28.toInt ≤ 1024) ∧ Rc (St_n_ways_1 G_20) (0, G_20) (x_28, G_24) ∧ Wd D k A a G_24 H ∧ Bd G_24 ∧ Fr [101, 102, 76, 97, 98] [(66, 59), (66, 60), (66, 61), (66, 62), (66, 63)] G G_24 ∧ Fr [101] [] G_20 G_24 ∧ va_S A s.heap H locs ∧ lv_has ls 8 [(5, .int x_28), (0, .ref (a 66)), (4, .int p3)]) (fun n_27 H locs ls ih_26 hI => ?_) (1024 - 0 : Int).toNat ⟨G_20, 0, (Int.toNat_of_nonneg ((by first | (clear hP9 f_6 hp_4 c_7 f_15 d_1 d_2 c_16 g_18 d_3 d_4 d_5 d_6 d_7 d_8; omega) | omega))), ⟨(by first | (clear hP9 f_6 hp_4 c_7 f_15 d_1 d_2 c_16 g_18 d_3 d_4 d_5 d_6 d_7 d_8; omega) | omega), (by first | (clear hP9 f_6 hp_4 c_7 f_15 d_1 d_2 c_16 g_18 d_3 d_4 d_5 d_6 d_7 d_8; omega) | omega)⟩, Rc.rf, hW, hB_G_20, hF, Fr.rf, hS, lv_sub hl [0, 1, 5] rfl⟩
      obtain ⟨G_24, x_28, hn_32, f_31, hX_29, hW, hB_G_24, hF, hq_25, hS, hl⟩ := hI
      refine lv_iload hx hb dX12_ways_35 (lv_at hl 0 rfl) ?_
      refine lv_sipush (v := 1024) hx hb dX12_ways_37 (by decide) ?_
      refine lv_icmp_ge (tgt := 101) hx hb dX12_ways_40 rfl (fun c_33 => ?_) (fun c_33 => ?_)
      · have c_33 : 1024 ≤ x_28.toInt := xI_le rfl rfl c_33
        refine ic_1 hx hb dX12_ways_101 ?_
        refine lv_istore (lv' := [(5, .int 1), (0, .ref (a 66)), (4, .int p3)]) hx hb dX12_ways_102 hl (lt_b rfl) rfl (fun ls hl => ?_)
        have qc_40 : (1 : Int32).toInt = 1 := rfl
        refine loop_N (Inv := fun n H locs ls => ∃ (G_34 : GS) (x_38 : Int32), (n : Int) = 60 - x_38.toInt ∧ (1 ≤ x_38.toInt ∧ x_38.toInt ≤ 60) ∧ Rc (St_n_ways_2 p3) (1, G_24) (x_38, G_34) ∧ Wd D k A a G_34 H ∧ Bd G_34 ∧ Fr [101, 102, 76, 97, 98] [(66, 59), (66, 60), (66, 61), (66, 62), (66, 63)] G G_34 ∧ Fr [101, 102] [] G_24 G_34 ∧ va_S A s.heap H locs ∧ lv_has ls 8 [(5, .int x_38), (0, .ref (a 66)), (4, .int p3)]) (fun n_37 H locs ls ih_36 hI => ?_) (60 - 1 : Int).toNat ⟨G_24, 1, (Int.toNat_of_nonneg ((by first | (clear hP9 f_6 hp_4 c_7 f_15 d_1 d_2 c_16 g_18 d_3 d_4 d_5 d_6 d_7 d_8 hn_32 f_31 c_33; omega) | omega))), ⟨(by first | (clear hP9 f_6 hp_4 c_7 f_15 d_1 d_2 c_16 g_18 d_3 d_4 d_5 d_6 d_7 d_8 hn_32 f_31 c_33; omega) | omega), (by first | (clear hP9 f_6 hp_4 c_7 f_15 d_1 d_2 c_16 g_18 d_3 d_4 d_5 d_6 d_7 d_8 hn_32 f_31 c_33; omega) | omega)⟩, Rc.rf, hW, hB_G_24, hF, Fr.rf, hS, lv_sub hl [0, 1, 2] rfl⟩
        obtain ⟨G_34, x_38, hn_42, f_41, hX_39, hW, hB_G_34, hF, hq_35, hS, hl⟩ := hI
        refine lv_iload hx hb dX12_ways_104 (lv_at hl 0 rfl) ?_
        refine lv_iload hx hb dX12_ways_106 (lv_at hl 2 rfl) ?_
        refine lv_icmp_ge (tgt := 219) hx hb dX12_ways_108 rfl (fun c_43 => ?_) (fun c_43 => ?_)
        · have c_43 : p3.toInt ≤ x_38.toInt := xI_le rfl rfl c_43
          refine lv_lconst (v := 0) hx hb dX12_ways_219 (by decide) ?_
          refine lv_lstore (lv' := [(5, .long 0), (0, .ref (a 66)), (4, .int p3)]) hx hb dX12_ways_220 hl (lt_b rfl) rfl (fun ls hl => ?_)
          refine ic_0 hx hb dX12_ways_222 ?_
          refine lv_istore (lv' := [(7, .int 0), (5, .long 0), (0, .ref (a 66)), (4, .int p3)]) hx hb dX12_ways_223 hl (lt_b rfl) rfl (fun ls hl => ?_)
          have qc_51 : (0 : Int32).toInt = 0 := rfl
          refine loop_N (Inv := fun n H locs ls => ∃ (G_44 : GS) (x_48 : Int32) (x_49 : Int64), (n : Int) = 800 - x_48.toInt ∧ (0 ≤ x_48.toInt ∧ x_48.toInt ≤ 800) ∧ Rc (St_n_ways_3) (0, 0, G_34) (x_48, x_49, G_44) ∧ Wd D k A a G_44 H ∧ Bd G_44 ∧ Fr [101, 102, 76, 97, 98] [(66, 59), (66, 60), (66, 61), (66, 62), (66, 63)] G G_44 ∧ Fr [] [] G_34 G_44 ∧ va_S A s.heap H locs ∧ lv_has ls 8 [(7, .int x_48), (5, .long x_49), (0, .ref (a 66))]) (fun n_47 H locs ls ih_46 hI => ?_) (800 - 0 : Int).toNat ⟨G_34, 0, 0, (Int.toNat_of_nonneg ((by first | (clear hP9 f_6 hp_4 c_7 f_15 d_1 d_2 c_16 g_18 d_3 d_4 d_5 d_6 d_7 d_8 hn_32 f_31 c_33 hn_42 f_41 c_43; omega) | omega))), ⟨(by first | (clear hP9 f_6 hp_4 c_7 f_15 d_1 d_2 c_16 g_18 d_3 d_4 d_5 d_6 d_7 d_8 hn_32 f_31 c_33 hn_42 f_41 c_43; omega) | omega), (by first | (clear hP9 f_6 hp_4 c_7 f_15 d_1 d_2 c_16 g_18 d_3 d_4 d_5 d_6 d_7 d_8 hn_32 f_31 c_33 hn_42 f_41 c_43; omega) | omega)⟩, Rc.rf, hW, hB_G_34, hF, Fr.rf, hS, lv_sub hl [0, 1, 2] rfl⟩
          obtain ⟨G_44, x_48, x_49, hn_53, f_52, hX_50, hW, hB_G_44, hF, hq_45, hS, hl⟩ := hI
          refine lv_iload hx hb dX12_ways_225 (lv_at hl 0 rfl) ?_
          refine lv_sipush (v := 800) hx hb dX12_ways_227 (by decide) ?_
          refine lv_icmp_ge (tgt := 265) hx hb dX12_ways_230 rfl (fun c_54 => ?_) (fun c_54 => ?_)
          · have c_54 : 800 ≤ x_48.toInt := xI_le rfl rfl c_54
            refine lv_lload hx hb dX12_ways_265 (lv_at hl 1 rfl) ?_
            exact W.lret (v := x_49) hx hb hr (fun t ht _ => ⟨⟨x_49, G_44, rfl, (Q_ways_mk ⟨hB_G_44, hF, ⟨r_1, G_2, hX_5, (Or.inr ⟨c_7, ⟨r_10, G_11, hX_14, (Or.inr ⟨c_16, ⟨G_20, hX_23, ⟨x_28, G_24, hX_29, f_31, hB_G_24, hq_25, ⟨c_33, ⟨x_38, G_34, hX_39, f_41, hB_G_34, hq_35, ⟨c_43, ⟨x_48, x_49, G_44, hX_50, f_52, hB_G_44, hq_45, ⟨c_54, ⟨rfl, rfl⟩⟩⟩⟩⟩⟩⟩⟩⟩)⟩⟩)⟩⟩), wd_t ht hW⟩, hS.F ht⟩) hS.2.2 dX12_ways_267
          · have c_54 : x_48.toInt < 800 := xI_nle rfl rfl c_54
            refine lv_aload_n hx hb dX12_ways_233 rfl (lv_at hl 2 rfl) ?_
            refine lv_iload hx hb dX12_ways_234 (lv_at hl 0 rfl) ?_
            refine ic_2 hx hb dX12_ways_236 ?_
            refine lv_idiv hx hb dX12_ways_237 (by decide) ?_
            refine lv_topi (fun y_55 ey_55 => ?_)
            have ty_55 : y_55.toInt = x_48.toInt / 2 := xI_div rfl ey_55 (by decide) ((by first | (clear hP9 f_6 hp_4 c_7 f_15 d_1 d_2 c_16 g_18 d_3 d_4 d_5 d_6 d_7 d_8 hn_32 f_31 c_33 hn_42 f_41 c_43 hn_53; omega) | omega))
            have b_56 : 0 ≤ (G_20.1 66 59).toInt ∧ (G_20.1 66 59).toInt ≤ 400 := bd_66_59 hB_G_20
            have g_57 : (G_44.1 66 59).toInt = (G_20.1 66 59).toInt := (congrArg Int32.toInt (show G_44.1 66 59 = (G_20.1 66 59) from ((hq_45.i9 66 59 rfl rfl).trans ((hq_35.i9 66 59 rfl rfl).trans (hq_25.i9 66 59 rfl rfl)))))
            have b_58 : 0 ≤ (G_20.1 66 60).toInt ∧ (G_20.1 66 60).toInt ≤ 12 := bd_66_60 hB_G_20
            have g_59 : (G_44.1 66 60).toInt = (G_20.1 66 60).toInt := (congrArg Int32.toInt (show G_44.1 66 60 = (G_20.1 66 60) from ((hq_45.i9 66 60 rfl rfl).trans ((hq_35.i9 66 60 rfl rfl).trans (hq_25.i9 66 60 rfl rfl)))))
            have b_60 : 0 ≤ (G_20.1 66 62).toInt ∧ (G_20.1 66 62).toInt ≤ 60 := bd_66_62 hB_G_20
            have g_61 : (G_44.1 66 62).toInt = (G_20.1 66 62).toInt := (congrArg Int32.toInt (show G_44.1 66 62 = (G_20.1 66 62) from ((hq_45.i9 66 62 rfl rfl).trans ((hq_35.i9 66 62 rfl rfl).trans (hq_25.i9 66 62 rfl rfl)))))
            refine S_calli (va_runV (As := [.int y_55]) (rest := []) ⟨hx, hb, hml, hown, hts⟩ (n_isEnd l D k A a z G_44 y_55 ⟨(by first | (clear hP9 f_6 hp_4 c_7 f_15 d_1 d_2 c_16 g_18 d_3 d_4 d_5 d_6 d_7 d_8 hn_32 f_31 c_33 hn_42 f_41 c_43 hn_53 b_56 g_57 b_58 g_59 b_60 g_61; omega) | omega), (by first | (clear hP9 f_6 hp_4 c_7 f_15 d_1 d_2 c_16 g_18 d_3 d_4 d_5 d_6 d_7 d_8 hn_32 f_31 c_33 hn_42 f_41 c_43 hn_53 b_56 g_57 b_58 g_59 b_60 g_61; omega) | omega)⟩) (cwV 1 hts (gd_V hgd m1854 m1856 m95 m131 m1857) rfl rfl rfl hd_X12_isEnd ⟨Nat.le_of_ble_eq_true rfl, Nat.le_of_ble_eq_true rfl⟩) (pre_W hW hB_G_44 hK hZ hS kd_66 rfl) rfl rfl hl.1 rfl (lv_room (Nat.le_of_ble_eq_true rfl)) dX12_ways_238 ⟨Nat.le_of_ble_eq_true rfl, Nat.le_of_ble_eq_true rfl⟩) hS (fun r_62 G_63 H locs hpo hW hS => ?_)
            have hX_66 : Q_isEnd y_55 G_44 r_62 G_63 := hpo
            obtain ⟨hB_G_63, hq_64, f_67, ⟨d_9, d_10⟩, -⟩ := hpo
            have hF := hF.call9 hq_64 rfl rfl
            refine lv_if_eq (tgt := 259) hx hb dX12_ways_241 rfl (fun c_68 => ?_) (fun c_68 => ?_)
            · have c_68 : r_62.toInt = 0 := xI_eq rfl rfl c_68
              have d_11 := d_9 c_68
              obtain ⟨y_69, ey_69⟩ : ∃ q, q = x_48 + 1 := ⟨_, rfl⟩
              have ty_69 : y_69.toInt = x_48.toInt + 1 := xI_add rfl rfl ey_69 ((by first | (clear hP9 f_6 c_7 f_15 d_1 d_2 c_16 g_18 hn_32 f_31 c_33 hn_42 f_41 c_43 hn_53 d_9; omega) | omega)) ((by first | (clear hP9 f_6 c_7 f_15 d_1 d_2 c_16 g_18 hn_32 f_31 c_33 hn_42 f_41 c_43 hn_53 d_9; omega) | omega))
              refine lv_iinc (v := y_69) (lv' := [(7, .int y_69), (5, .long x_49), (0, .ref (a 66))]) hx hb dX12_ways_259 hl (k := 0) rfl (by rw [ey_69]; rfl) (lt_b rfl) rfl (fun ls hl => ?_)
              refine lv_goto (tgt := 225) hx hb dX12_ways_262 rfl ?_
              exact ih_46 (800 - y_69.toInt : Int).toNat ((by first | (clear hP9 f_6 c_7 f_15 d_1 d_2 c_16 g_18 hn_32 f_31 c_33 hn_42 f_41 c_43 d_9; omega) | omega)) _ _ _ ⟨G_63, y_69, x_49, (Int.toNat_of_nonneg ((by first | (clear hP9 f_6 c_7 f_15 d_1 d_2 c_16 g_18 hn_32 f_31 c_33 hn_42 f_41 c_43 hn_53 d_9; omega) | omega))), ⟨(by first | (clear hP9 f_6 c_7 f_15 d_1 d_2 c_16 g_18 hn_32 f_31 c_33 hn_42 f_41 c_43 hn_53 d_9; omega) | omega), (by first | (clear hP9 f_6 c_7 f_15 d_1 d_2 c_16 g_18 hn_32 f_31 c_33 hn_42 f_41 c_43 hn_53 d_9; omega) | omega)⟩, (hX_50.st (St_n_ways_3_mk ⟨x_48, x_49, G_44, y_69, x_49, G_63, rfl, rfl, f_52, hB_G_44, ⟨c_54, ⟨y_55, ty_55, ⟨r_62, G_63, hX_66, (Or.inl ⟨c_68, ⟨y_69, ty_69, ⟨rfl, rfl, rfl⟩⟩⟩)⟩⟩⟩⟩)), hW, hB_G_63, hF, (Fr.call9 (rs := []) (fs := []) (Fr.call9 (rs := []) (fs := []) Fr.rf hq_45 rfl rfl) hq_64 rfl rfl), hS, lv_sub hl [0, 1, 2] rfl⟩
            · have c_68 : r_62.toInt ≠ 0 := xI_ne rfl rfl c_68
              refine lv_lload hx hb dX12_ways_244 (lv_at hl 1 rfl) ?_
              refine lv_aload_n hx hb dX12_ways_246 rfl (lv_at hl 2 rfl) ?_
              refine S_getR (n := 101) (C := RX12) (T := TX12) (N := 89) hx hb hg iX12 hown hK hW kd_66 rfl 67 (lt_b rfl) (hg (Cond.fieldLink RX12 124 "SlabWalkModel" "ways" "[J") m1381) (fun _ h9 => h9) rfl dX12_ways_247 ?_
              refine lv_iload hx hb dX12_ways_250 (lv_at hl 0 rfl) ?_
              refine S_lald hx hb hK hW kd_101 (vin ((by first | (clear hP9 f_6 c_7 f_15 d_1 d_2 c_16 g_18 hn_32 f_31 c_33 hn_42 f_41 c_43 hn_53 d_9; omega) | omega)) ((by first | (clear hP9 f_6 c_7 f_15 d_1 d_2 c_16 g_18 hn_32 f_31 c_33 hn_42 f_41 c_43 hn_53 d_9; omega) | omega))) dX12_ways_252 (fun y_70 ey_70 => ?_)
              refine lv_ladd hx hb dX12_ways_253 ?_
              refine lv_topl (fun y_71 ey_71 => ?_)
              refine S_calll (va_runS (As := [.long y_71]) (rest := []) ⟨hx, hb, hml, hown, hts⟩ (n_capped l D k A a z G_63 y_71 ) (va_cwS 1 hts (gd_S hgd m1879 m1880 m131 m1881) rfl rfl rfl hd_X12_capped.2 ⟨Nat.le_of_ble_eq_true rfl, Nat.le_of_ble_eq_true rfl⟩) (pre_S hW hB_G_63 hK hZ hS) rfl rfl hl.1 rfl (lv_room (Nat.le_of_ble_eq_true rfl)) dX12_ways_254 ⟨Nat.le_of_ble_eq_true rfl, Nat.le_of_ble_eq_true rfl⟩) hS (fun r_72 G_73 H locs hpo hW hS => ?_)
              have hX_76 : Q_capped y_71 G_63 r_72 G_73 := hpo
              obtain ⟨hB_G_73, hq_74, -⟩ := hpo
              have hF := hF.call9 hq_74 rfl rfl
              refine lv_lstore (lv' := [(5, .long r_72), (7, .int x_48), (0, .ref (a 66))]) hx hb dX12_ways_257 hl (lt_b rfl) rfl (fun ls hl => ?_)
              obtain ⟨y_77, ey_77⟩ : ∃ q, q = x_48 + 1 := ⟨_, rfl⟩
              have ty_77 : y_77.toInt = x_48.toInt + 1 := xI_add rfl rfl ey_77 ((by first | (clear hP9 f_6 c_7 f_15 d_1 d_2 c_16 g_18 hn_32 f_31 c_33 hn_42 f_41 c_43 hn_53 d_9; omega) | omega)) ((by first | (clear hP9 f_6 c_7 f_15 d_1 d_2 c_16 g_18 hn_32 f_31 c_33 hn_42 f_41 c_43 hn_53 d_9; omega) | omega))
              refine lv_iinc (v := y_77) (lv' := [(7, .int y_77), (5, .long r_72), (0, .ref (a 66))]) hx hb dX12_ways_259 hl (k := 1) rfl (by rw [ey_77]; rfl) (lt_b rfl) rfl (fun ls hl => ?_)
              refine lv_goto (tgt := 225) hx hb dX12_ways_262 rfl ?_
              exact ih_46 (800 - y_77.toInt : Int).toNat ((by first | (clear hP9 f_6 c_7 f_15 d_1 d_2 c_16 g_18 hn_32 f_31 c_33 hn_42 f_41 c_43 d_9; omega) | omega)) _ _ _ ⟨G_73, y_77, r_72, (Int.toNat_of_nonneg ((by first | (clear hP9 f_6 c_7 f_15 d_1 d_2 c_16 g_18 hn_32 f_31 c_33 hn_42 f_41 c_43 hn_53 d_9; omega) | omega))), ⟨(by first | (clear hP9 f_6 c_7 f_15 d_1 d_2 c_16 g_18 hn_32 f_31 c_33 hn_42 f_41 c_43 hn_53 d_9; omega) | omega), (by first | (clear hP9 f_6 c_7 f_15 d_1 d_2 c_16 g_18 hn_32 f_31 c_33 hn_42 f_41 c_43 hn_53 d_9; omega) | omega)⟩, (hX_50.st (St_n_ways_3_mk ⟨x_48, x_49, G_44, y_77, r_72, G_73, rfl, rfl, f_52, hB_G_44, ⟨c_54, ⟨y_55, ty_55, ⟨r_62, G_63, hX_66, (Or.inr ⟨c_68, ⟨y_70, ey_70, ⟨y_71, ey_71, ⟨r_72, G_73, hX_76, ⟨y_77, ty_77, ⟨rfl, rfl, rfl⟩⟩⟩⟩⟩⟩)⟩⟩⟩⟩)), hW, hB_G_73, hF, (Fr.call9 (rs := []) (fs := []) (Fr.call9 (rs := []) (fs := []) (Fr.call9 (rs := []) (fs := []) Fr.rf hq_45 rfl rfl) hq_64 rfl rfl) hq_74 rfl rfl), hS, lv_sub hl [0, 1, 2] rfl⟩
        · have c_43 : x_38.toInt < p3.toInt := xI_nle rfl rfl c_43
          refine ic_0 hx hb dX12_ways_111 ?_
          refine lv_istore (lv' := [(6, .int 0), (5, .int x_38), (0, .ref (a 66)), (4, .int p3)]) hx hb dX12_ways_112 hl (lt_b rfl) rfl (fun ls hl => ?_)
          have qc_84 : (0 : Int32).toInt = 0 := rfl
          refine loop_N (Inv := fun n H locs ls => ∃ (G_78 : GS) (x_82 : Int32), (n : Int) = 1024 - x_82.toInt ∧ (0 ≤ x_82.toInt ∧ x_82.toInt ≤ 1024) ∧ Rc (St_n_ways_4) (0, G_34) (x_82, G_78) ∧ Wd D k A a G_78 H ∧ Bd G_78 ∧ Fr [101, 102, 76, 97, 98] [(66, 59), (66, 60), (66, 61), (66, 62), (66, 63)] G G_78 ∧ Fr [102] [] G_34 G_78 ∧ va_S A s.heap H locs ∧ lv_has ls 8 [(6, .int x_82), (5, .int x_38), (0, .ref (a 66)), (4, .int p3)]) (fun n_81 H locs ls ih_80 hI => ?_) (1024 - 0 : Int).toNat ⟨G_34, 0, (Int.toNat_of_nonneg ((by first | (clear hP9 f_6 hp_4 c_7 f_15 d_1 d_2 c_16 g_18 d_3 d_4 d_5 d_6 d_7 d_8 hn_32 f_31 c_33 hn_42 f_41 c_43; omega) | omega))), ⟨(by first | (clear hP9 f_6 hp_4 c_7 f_15 d_1 d_2 c_16 g_18 d_3 d_4 d_5 d_6 d_7 d_8 hn_32 f_31 c_33 hn_42 f_41 c_43; omega) | omega), (by first | (clear hP9 f_6 hp_4 c_7 f_15 d_1 d_2 c_16 g_18 d_3 d_4 d_5 d_6 d_7 d_8 hn_32 f_31 c_33 hn_42 f_41 c_43; omega) | omega)⟩, Rc.rf, hW, hB_G_34, hF, Fr.rf, hS, lv_sub hl [0, 1, 2, 3] rfl⟩
          obtain ⟨G_78, x_82, hn_86, f_85, hX_83, hW, hB_G_78, hF, hq_79, hS, hl⟩ := hI
          refine lv_iload hx hb dX12_ways_114 (lv_at hl 0 rfl) ?_
          refine lv_sipush (v := 1024) hx hb dX12_ways_116 (by decide) ?_
          refine lv_icmp_ge (tgt := 136) hx hb dX12_ways_119 rfl (fun c_87 => ?_) (fun c_87 => ?_)
          · have c_87 : 1024 ≤ x_82.toInt := xI_le rfl rfl c_87
            refine ic_0 hx hb dX12_ways_136 ?_
            refine lv_istore (lv' := [(6, .int 0), (5, .int x_38), (0, .ref (a 66)), (4, .int p3)]) hx hb dX12_ways_137 hl (lt_b rfl) rfl (fun ls hl => ?_)
            have qc_94 : (0 : Int32).toInt = 0 := rfl
            refine loop_N (Inv := fun n H locs ls => ∃ (G_88 : GS) (x_92 : Int32), (n : Int) = 800 - x_92.toInt ∧ (0 ≤ x_92.toInt ∧ x_92.toInt ≤ 800) ∧ Rc (St_n_ways_5) (0, G_78) (x_92, G_88) ∧ Wd D k A a G_88 H ∧ Bd G_88 ∧ Fr [101, 102, 76, 97, 98] [(66, 59), (66, 60), (66, 61), (66, 62), (66, 63)] G G_88 ∧ Fr [102] [] G_78 G_88 ∧ va_S A s.heap H locs ∧ lv_has ls 8 [(6, .int x_92), (5, .int x_38), (0, .ref (a 66)), (4, .int p3)]) (fun n_91 H locs ls ih_90 hI => ?_) (800 - 0 : Int).toNat ⟨G_78, 0, (Int.toNat_of_nonneg ((by first | (clear hP9 f_6 hp_4 c_7 f_15 d_1 d_2 c_16 g_18 d_3 d_4 d_5 d_6 d_7 d_8 hn_32 f_31 c_33 hn_42 f_41 c_43 hn_86 f_85 c_87; omega) | omega))), ⟨(by first | (clear hP9 f_6 hp_4 c_7 f_15 d_1 d_2 c_16 g_18 d_3 d_4 d_5 d_6 d_7 d_8 hn_32 f_31 c_33 hn_42 f_41 c_43 hn_86 f_85 c_87; omega) | omega), (by first | (clear hP9 f_6 hp_4 c_7 f_15 d_1 d_2 c_16 g_18 d_3 d_4 d_5 d_6 d_7 d_8 hn_32 f_31 c_33 hn_42 f_41 c_43 hn_86 f_85 c_87; omega) | omega)⟩, Rc.rf, hW, hB_G_78, hF, Fr.rf, hS, lv_sub hl [0, 1, 2, 3] rfl⟩
            obtain ⟨G_88, x_92, hn_96, f_95, hX_93, hW, hB_G_88, hF, hq_89, hS, hl⟩ := hI
            refine lv_iload hx hb dX12_ways_139 (lv_at hl 0 rfl) ?_
            refine lv_sipush (v := 800) hx hb dX12_ways_141 (by decide) ?_
            refine lv_icmp_ge (tgt := 182) hx hb dX12_ways_144 rfl (fun c_97 => ?_) (fun c_97 => ?_)
            · have c_97 : 800 ≤ x_92.toInt := xI_le rfl rfl c_97
              refine ic_0 hx hb dX12_ways_182 ?_
              refine lv_istore (lv' := [(6, .int 0), (5, .int x_38), (0, .ref (a 66)), (4, .int p3)]) hx hb dX12_ways_183 hl (lt_b rfl) rfl (fun ls hl => ?_)
              have qc_104 : (0 : Int32).toInt = 0 := rfl
              refine loop_N (Inv := fun n H locs ls => ∃ (G_98 : GS) (x_102 : Int32), (n : Int) = 1024 - x_102.toInt ∧ (0 ≤ x_102.toInt ∧ x_102.toInt ≤ 1024) ∧ Rc (St_n_ways_6) (0, G_88) (x_102, G_98) ∧ Wd D k A a G_98 H ∧ Bd G_98 ∧ Fr [101, 102, 76, 97, 98] [(66, 59), (66, 60), (66, 61), (66, 62), (66, 63)] G G_98 ∧ Fr [101] [] G_88 G_98 ∧ va_S A s.heap H locs ∧ lv_has ls 8 [(6, .int x_102), (5, .int x_38), (0, .ref (a 66)), (4, .int p3)]) (fun n_101 H locs ls ih_100 hI => ?_) (1024 - 0 : Int).toNat ⟨G_88, 0, (Int.toNat_of_nonneg ((by first | (clear hP9 f_6 hp_4 c_7 f_15 d_1 d_2 c_16 g_18 d_3 d_4 d_5 d_6 d_7 d_8 hn_32 f_31 c_33 hn_42 f_41 c_43 hn_86 f_85 c_87 hn_96 f_95 c_97; omega) | omega))), ⟨(by first | (clear hP9 f_6 hp_4 c_7 f_15 d_1 d_2 c_16 g_18 d_3 d_4 d_5 d_6 d_7 d_8 hn_32 f_31 c_33 hn_42 f_41 c_43 hn_86 f_85 c_87 hn_96 f_95 c_97; omega) | omega), (by first | (clear hP9 f_6 hp_4 c_7 f_15 d_1 d_2 c_16 g_18 d_3 d_4 d_5 d_6 d_7 d_8 hn_32 f_31 c_33 hn_42 f_41 c_43 hn_86 f_85 c_87 hn_96 f_95 c_97; omega) | omega)⟩, Rc.rf, hW, hB_G_88, hF, Fr.rf, hS, lv_sub hl [0, 1, 2, 3] rfl⟩
              obtain ⟨G_98, x_102, hn_106, f_105, hX_103, hW, hB_G_98, hF, hq_99, hS, hl⟩ := hI
              refine lv_iload hx hb dX12_ways_185 (lv_at hl 0 rfl) ?_
              refine lv_sipush (v := 1024) hx hb dX12_ways_187 (by decide) ?_
              refine lv_icmp_ge (tgt := 213) hx hb dX12_ways_190 rfl (fun c_107 => ?_) (fun c_107 => ?_)
              · have c_107 : 1024 ≤ x_102.toInt := xI_le rfl rfl c_107
                obtain ⟨y_108, ey_108⟩ : ∃ q, q = x_38 + 1 := ⟨_, rfl⟩
                have ty_108 : y_108.toInt = x_38.toInt + 1 := xI_add rfl rfl ey_108 ((by first | (clear hP9 f_6 hp_4 c_7 f_15 c_16 g_18 d_3 d_4 d_5 d_6 d_7 d_8 hn_32 f_31 c_33 hn_42 hn_86 f_85 c_87 hn_96 f_95 c_97 hn_106 f_105 c_107; omega) | omega)) ((by first | (clear hP9 f_6 hp_4 c_7 f_15 c_16 g_18 d_3 d_4 d_5 d_6 d_7 d_8 hn_32 f_31 c_33 hn_42 hn_86 f_85 c_87 hn_96 f_95 c_97 hn_106 f_105 c_107; omega) | omega))
                refine lv_iinc (v := y_108) (lv' := [(5, .int y_108), (6, .int x_102), (0, .ref (a 66)), (4, .int p3)]) hx hb dX12_ways_213 hl (k := 1) rfl (by rw [ey_108]; rfl) (lt_b rfl) rfl (fun ls hl => ?_)
                refine lv_goto (tgt := 104) hx hb dX12_ways_216 rfl ?_
                exact ih_36 (60 - y_108.toInt : Int).toNat ((by first | (clear hP9 f_6 hp_4 c_7 f_15 c_16 g_18 d_3 d_4 d_5 d_6 d_7 d_8 hn_32 f_31 c_33 hn_86 f_85 c_87 hn_96 f_95 c_97 hn_106 f_105 c_107; omega) | omega)) _ _ _ ⟨G_98, y_108, (Int.toNat_of_nonneg ((by first | (clear hP9 f_6 hp_4 c_7 f_15 c_16 g_18 d_3 d_4 d_5 d_6 d_7 d_8 hn_32 f_31 c_33 hn_42 hn_86 f_85 c_87 hn_96 f_95 c_97 hn_106 f_105 c_107; omega) | omega))), ⟨(by first | (clear hP9 f_6 hp_4 c_7 f_15 c_16 g_18 d_3 d_4 d_5 d_6 d_7 d_8 hn_32 f_31 c_33 hn_42 hn_86 f_85 c_87 hn_96 f_95 c_97 hn_106 f_105 c_107; omega) | omega), (by first | (clear hP9 f_6 hp_4 c_7 f_15 c_16 g_18 d_3 d_4 d_5 d_6 d_7 d_8 hn_32 f_31 c_33 hn_42 hn_86 f_85 c_87 hn_96 f_95 c_97 hn_106 f_105 c_107; omega) | omega)⟩, (hX_39.st (St_n_ways_2_mk ⟨x_38, G_34, y_108, G_98, rfl, rfl, f_41, hB_G_34, ⟨c_43, ⟨x_82, G_78, hX_83, f_85, hB_G_78, hq_79, ⟨c_87, ⟨x_92, G_88, hX_93, f_95, hB_G_88, hq_89, ⟨c_97, ⟨x_102, G_98, hX_103, f_105, hB_G_98, hq_99, ⟨c_107, ⟨y_108, ty_108, ⟨rfl, rfl⟩⟩⟩⟩⟩⟩⟩⟩⟩⟩)), hW, hB_G_98, hF, (Fr.call9 (rs := [101, 102]) (fs := []) (Fr.call9 (rs := [101, 102]) (fs := []) (Fr.call9 (rs := [101, 102]) (fs := []) (Fr.call9 (rs := [101, 102]) (fs := []) Fr.rf hq_35 rfl rfl) hq_79 rfl rfl) hq_89 rfl rfl) hq_99 rfl rfl), hS, lv_sub hl [0, 2, 3] rfl⟩
              · have c_107 : x_102.toInt < 1024 := xI_nle rfl rfl c_107
                refine lv_aload_n hx hb dX12_ways_193 rfl (lv_at hl 2 rfl) ?_
                refine S_getR (n := 101) (C := RX12) (T := TX12) (N := 89) hx hb hg iX12 hown hK hW kd_66 rfl 67 (lt_b rfl) (hg (Cond.fieldLink RX12 124 "SlabWalkModel" "ways" "[J") m1381) (fun _ h9 => h9) rfl dX12_ways_194 ?_
                refine lv_iload hx hb dX12_ways_197 (lv_at hl 0 rfl) ?_
                refine lv_aload_n hx hb dX12_ways_199 rfl (lv_at hl 2 rfl) ?_
                refine S_getR (n := 102) (C := RX12) (T := TX12) (N := 89) hx hb hg iX12 hown hK hW kd_66 rfl 68 (lt_b rfl) (hg (Cond.fieldLink RX12 127 "SlabWalkModel" "next" "[J") m1382) (fun _ h9 => h9) rfl dX12_ways_200 ?_
                refine lv_iload hx hb dX12_ways_203 (lv_at hl 0 rfl) ?_
                refine S_lald hx hb hK hW kd_102 (vin ((by first | (clear hP9 f_6 hp_4 c_7 f_15 d_1 d_2 c_16 g_18 d_3 d_4 d_5 d_6 d_7 d_8 hn_32 f_31 c_33 hn_42 f_41 c_43 hn_86 f_85 c_87 hn_96 f_95 c_97 hn_106; omega) | omega)) ((by first | (clear hP9 f_6 hp_4 c_7 f_15 d_1 d_2 c_16 g_18 d_3 d_4 d_5 d_6 d_7 d_8 hn_32 f_31 c_33 hn_42 f_41 c_43 hn_86 f_85 c_87 hn_96 f_95 c_97 hn_106; omega) | omega))) dX12_ways_205 (fun y_109 ey_109 => ?_)
                refine S_last hx hb hK hW hS kd_101 (vin ((by first | (clear hP9 f_6 hp_4 c_7 f_15 d_1 d_2 c_16 g_18 d_3 d_4 d_5 d_6 d_7 d_8 hn_32 f_31 c_33 hn_42 f_41 c_43 hn_86 f_85 c_87 hn_96 f_95 c_97 hn_106; omega) | omega)) ((by first | (clear hP9 f_6 hp_4 c_7 f_15 d_1 d_2 c_16 g_18 d_3 d_4 d_5 d_6 d_7 d_8 hn_32 f_31 c_33 hn_42 f_41 c_43 hn_86 f_85 c_87 hn_96 f_95 c_97 hn_106; omega) | omega))) dX12_ways_206 (fun G_110 H locs eG_110 hW hS => ?_)
                have hB_G_110 : Bd G_110 := hB_G_98.putl eG_110
                have hF := hF.putl eG_110 (Or.inl (by decide))
                obtain ⟨y_111, ey_111⟩ : ∃ q, q = x_102 + 1 := ⟨_, rfl⟩
                have ty_111 : y_111.toInt = x_102.toInt + 1 := xI_add rfl rfl ey_111 ((by first | (clear hP9 f_6 hp_4 c_7 f_15 d_1 d_2 c_16 g_18 d_3 d_4 d_5 d_6 d_7 d_8 hn_32 f_31 c_33 hn_42 f_41 c_43 hn_86 f_85 c_87 hn_96 f_95 c_97 hn_106; omega) | omega)) ((by first | (clear hP9 f_6 hp_4 c_7 f_15 d_1 d_2 c_16 g_18 d_3 d_4 d_5 d_6 d_7 d_8 hn_32 f_31 c_33 hn_42 f_41 c_43 hn_86 f_85 c_87 hn_96 f_95 c_97 hn_106; omega) | omega))
                refine lv_iinc (v := y_111) (lv' := [(6, .int y_111), (5, .int x_38), (0, .ref (a 66)), (4, .int p3)]) hx hb dX12_ways_207 hl (k := 0) rfl (by rw [ey_111]; rfl) (lt_b rfl) rfl (fun ls hl => ?_)
                refine lv_goto (tgt := 185) hx hb dX12_ways_210 rfl ?_
                exact ih_100 (1024 - y_111.toInt : Int).toNat ((by first | (clear hP9 f_6 hp_4 c_7 f_15 d_1 d_2 c_16 g_18 d_3 d_4 d_5 d_6 d_7 d_8 hn_32 f_31 c_33 hn_42 f_41 c_43 hn_86 f_85 c_87 hn_96 f_95 c_97; omega) | omega)) _ _ _ ⟨G_110, y_111, (Int.toNat_of_nonneg ((by first | (clear hP9 f_6 hp_4 c_7 f_15 d_1 d_2 c_16 g_18 d_3 d_4 d_5 d_6 d_7 d_8 hn_32 f_31 c_33 hn_42 f_41 c_43 hn_86 f_85 c_87 hn_96 f_95 c_97 hn_106; omega) | omega))), ⟨(by first | (clear hP9 f_6 hp_4 c_7 f_15 d_1 d_2 c_16 g_18 d_3 d_4 d_5 d_6 d_7 d_8 hn_32 f_31 c_33 hn_42 f_41 c_43 hn_86 f_85 c_87 hn_96 f_95 c_97 hn_106; omega) | omega), (by first | (clear hP9 f_6 hp_4 c_7 f_15 d_1 d_2 c_16 g_18 d_3 d_4 d_5 d_6 d_7 d_8 hn_32 f_31 c_33 hn_42 f_41 c_43 hn_86 f_85 c_87 hn_96 f_95 c_97 hn_106; omega) | omega)⟩, (hX_103.st (St_n_ways_6_mk ⟨x_102, G_98, y_111, G_110, rfl, rfl, f_105, hB_G_98, ⟨c_107, ⟨y_109, ey_109, ⟨y_111, ty_111, ⟨rfl, (Fr.putl (rs := [101]) (fs := []) Fr.rf eG_110 (Or.inl (by decide))), rl_ast eG_110⟩⟩⟩⟩⟩)), hW, hB_G_110, hF, (Fr.putl (rs := [101]) (fs := []) (Fr.call9 (rs := [101]) (fs := []) Fr.rf hq_99 rfl rfl) eG_110 (Or.inl (by decide))), hS, lv_sub hl [0, 1, 2, 3] rfl⟩
            · have c_97 : x_92.toInt < 800 := xI_nle rfl rfl c_97
              refine lv_aload_n hx hb dX12_ways_147 rfl (lv_at hl 2 rfl) ?_
              refine S_getR (n := 101) (C := RX12) (T := TX12) (N := 89) hx hb hg iX12 hown hK hW kd_66 rfl 67 (lt_b rfl) (hg (Cond.fieldLink RX12 124 "SlabWalkModel" "ways" "[J") m1381) (fun _ h9 => h9) rfl dX12_ways_148 ?_
              refine lv_iload hx hb dX12_ways_151 (lv_at hl 0 rfl) ?_
              refine S_lald hx hb hK hW kd_101 (vin ((by first | (clear hP9 f_6 hp_4 c_7 f_15 d_1 d_2 c_16 g_18 d_3 d_4 d_5 d_6 d_7 d_8 hn_32 f_31 c_33 hn_42 f_41 c_43 hn_86 f_85 c_87 hn_96; omega) | omega)) ((by first | (clear hP9 f_6 hp_4 c_7 f_15 d_1 d_2 c_16 g_18 d_3 d_4 d_5 d_6 d_7 d_8 hn_32 f_31 c_33 hn_42 f_41 c_43 hn_86 f_85 c_87 hn_96; omega) | omega))) dX12_ways_153 (fun y_112 ey_112 => ?_)
              refine lv_lconst (v := 0) hx hb dX12_ways_154 (by decide) ?_
              refine W.lcmp hx hb dX12_ways_155 ?_
              refine lv_topi (fun y_113 ey_113 => ?_)
              have ty_113 := lcmp_rng ey_113
              refine lv_if_le (tgt := 176) hx hb dX12_ways_156 rfl (fun c_114 => ?_) (fun c_114 => ?_)
              · have c_114 : y_113.toInt ≤ 0 := xI_le rfl rfl c_114
                obtain ⟨y_115, ey_115⟩ : ∃ q, q = x_92 + 1 := ⟨_, rfl⟩
                have ty_115 : y_115.toInt = x_92.toInt + 1 := xI_add rfl rfl ey_115 ((by first | (clear hP9 f_6 hp_4 c_7 f_15 d_1 d_2 c_16 g_18 d_3 d_4 d_5 d_6 d_7 d_8 hn_32 f_31 c_33 hn_42 f_41 c_43 hn_86 f_85 c_87 hn_96 c_114; omega) | omega)) ((by first | (clear hP9 f_6 hp_4 c_7 f_15 d_1 d_2 c_16 g_18 d_3 d_4 d_5 d_6 d_7 d_8 hn_32 f_31 c_33 hn_42 f_41 c_43 hn_86 f_85 c_87 hn_96 c_114; omega) | omega))
                refine lv_iinc (v := y_115) (lv' := [(6, .int y_115), (5, .int x_38), (0, .ref (a 66)), (4, .int p3)]) hx hb dX12_ways_176 hl (k := 0) rfl (by rw [ey_115]; rfl) (lt_b rfl) rfl (fun ls hl => ?_)
                refine lv_goto (tgt := 139) hx hb dX12_ways_179 rfl ?_
                exact ih_90 (800 - y_115.toInt : Int).toNat ((by first | (clear hP9 f_6 hp_4 c_7 f_15 d_1 d_2 c_16 g_18 d_3 d_4 d_5 d_6 d_7 d_8 hn_32 f_31 c_33 hn_42 f_41 c_43 hn_86 f_85 c_87 c_114; omega) | omega)) _ _ _ ⟨G_88, y_115, (Int.toNat_of_nonneg ((by first | (clear hP9 f_6 hp_4 c_7 f_15 d_1 d_2 c_16 g_18 d_3 d_4 d_5 d_6 d_7 d_8 hn_32 f_31 c_33 hn_42 f_41 c_43 hn_86 f_85 c_87 hn_96 c_114; omega) | omega))), ⟨(by first | (clear hP9 f_6 hp_4 c_7 f_15 d_1 d_2 c_16 g_18 d_3 d_4 d_5 d_6 d_7 d_8 hn_32 f_31 c_33 hn_42 f_41 c_43 hn_86 f_85 c_87 hn_96 c_114; omega) | omega), (by first | (clear hP9 f_6 hp_4 c_7 f_15 d_1 d_2 c_16 g_18 d_3 d_4 d_5 d_6 d_7 d_8 hn_32 f_31 c_33 hn_42 f_41 c_43 hn_86 f_85 c_87 hn_96 c_114; omega) | omega)⟩, (hX_93.st (St_n_ways_5_mk ⟨x_92, G_88, y_115, G_88, rfl, rfl, f_95, hB_G_88, ⟨c_97, ⟨y_112, ey_112, ⟨y_113, ey_113, (Or.inl ⟨c_114, ⟨y_115, ty_115, ⟨rfl, rfl⟩⟩⟩)⟩⟩⟩⟩)), hW, hB_G_88, hF, (Fr.call9 (rs := [102]) (fs := []) Fr.rf hq_89 rfl rfl), hS, lv_sub hl [0, 1, 2, 3] rfl⟩
              · have c_114 : 0 < y_113.toInt := xI_nle rfl rfl c_114
                refine lv_aload_n hx hb dX12_ways_159 rfl (lv_at hl 2 rfl) ?_
                refine lv_iload hx hb dX12_ways_160 (lv_at hl 0 rfl) ?_
                refine ic_2 hx hb dX12_ways_162 ?_
                refine lv_idiv hx hb dX12_ways_163 (by decide) ?_
                refine lv_topi (fun y_116 ey_116 => ?_)
                have ty_116 : y_116.toInt = x_92.toInt / 2 := xI_div rfl ey_116 (by decide) ((by first | (clear hP9 f_6 hp_4 c_7 f_15 d_1 d_2 c_16 g_18 d_3 d_4 d_5 d_6 d_7 d_8 hn_32 f_31 c_33 hn_42 f_41 c_43 hn_86 f_85 c_87 hn_96 c_114; omega) | omega))
                have b_117 : 0 ≤ (G_20.1 66 59).toInt ∧ (G_20.1 66 59).toInt ≤ 400 := bd_66_59 hB_G_20
                have g_118 : (G_88.1 66 59).toInt = (G_20.1 66 59).toInt := (congrArg Int32.toInt (show G_88.1 66 59 = (G_20.1 66 59) from ((hq_89.i9 66 59 rfl rfl).trans ((hq_79.i9 66 59 rfl rfl).trans ((hq_35.i9 66 59 rfl rfl).trans (hq_25.i9 66 59 rfl rfl))))))
                have b_119 : 0 ≤ (G_20.1 66 60).toInt ∧ (G_20.1 66 60).toInt ≤ 12 := bd_66_60 hB_G_20
                have g_120 : (G_88.1 66 60).toInt = (G_20.1 66 60).toInt := (congrArg Int32.toInt (show G_88.1 66 60 = (G_20.1 66 60) from ((hq_89.i9 66 60 rfl rfl).trans ((hq_79.i9 66 60 rfl rfl).trans ((hq_35.i9 66 60 rfl rfl).trans (hq_25.i9 66 60 rfl rfl))))))
                have b_121 : 0 ≤ (G_20.1 66 62).toInt ∧ (G_20.1 66 62).toInt ≤ 60 := bd_66_62 hB_G_20
                have g_122 : (G_88.1 66 62).toInt = (G_20.1 66 62).toInt := (congrArg Int32.toInt (show G_88.1 66 62 = (G_20.1 66 62) from ((hq_89.i9 66 62 rfl rfl).trans ((hq_79.i9 66 62 rfl rfl).trans ((hq_35.i9 66 62 rfl rfl).trans (hq_25.i9 66 62 rfl rfl))))))
                refine S_calli (va_runV (As := [.int y_116]) (rest := []) ⟨hx, hb, hml, hown, hts⟩ (n_isEnd l D k A a z G_88 y_116 ⟨(by first | (clear hP9 f_6 hp_4 c_7 f_15 d_1 d_2 c_16 g_18 d_3 d_4 d_5 d_6 d_7 d_8 hn_32 f_31 c_33 hn_42 f_41 c_43 hn_86 f_85 c_87 hn_96 c_114 b_117 g_118 b_119 g_120 b_121 g_122; omega) | omega), (by first | (clear hP9 f_6 hp_4 c_7 f_15 d_1 d_2 c_16 g_18 d_3 d_4 d_5 d_6 d_7 d_8 hn_32 f_31 c_33 hn_42 f_41 c_43 hn_86 f_85 c_87 hn_96 c_114 b_117 g_118 b_119 g_120 b_121 g_122; omega) | omega)⟩) (cwV 1 hts (gd_V hgd m1854 m1856 m95 m131 m1857) rfl rfl rfl hd_X12_isEnd ⟨Nat.le_of_ble_eq_true rfl, Nat.le_of_ble_eq_true rfl⟩) (pre_W hW hB_G_88 hK hZ hS kd_66 rfl) rfl rfl hl.1 rfl (lv_room (Nat.le_of_ble_eq_true rfl)) dX12_ways_164 ⟨Nat.le_of_ble_eq_true rfl, Nat.le_of_ble_eq_true rfl⟩) hS (fun r_123 G_124 H locs hpo hW hS => ?_)
                have hX_127 : Q_isEnd y_116 G_88 r_123 G_124 := hpo
                obtain ⟨hB_G_124, hq_125, f_128, ⟨d_12, d_13⟩, -⟩ := hpo
                have hF := hF.call9 hq_125 rfl rfl
                refine lv_if_ne (tgt := 176) hx hb dX12_ways_167 rfl (fun c_129 => ?_) (fun c_129 => ?_)
                · have c_129 : r_123.toInt ≠ 0 := xI_ne rfl rfl c_129
                  obtain ⟨y_130, ey_130⟩ : ∃ q, q = x_92 + 1 := ⟨_, rfl⟩
                  have ty_130 : y_130.toInt = x_92.toInt + 1 := xI_add rfl rfl ey_130 ((by first | (clear hP9 f_6 c_7 f_15 d_1 d_2 c_16 g_18 hn_32 f_31 c_33 hn_42 f_41 c_43 hn_86 f_85 c_87 hn_96 c_114 d_12; omega) | omega)) ((by first | (clear hP9 f_6 c_7 f_15 d_1 d_2 c_16 g_18 hn_32 f_31 c_33 hn_42 f_41 c_43 hn_86 f_85 c_87 hn_96 c_114 d_12; omega) | omega))
                  refine lv_iinc (v := y_130) (lv' := [(6, .int y_130), (5, .int x_38), (0, .ref (a 66)), (4, .int p3)]) hx hb dX12_ways_176 hl (k := 0) rfl (by rw [ey_130]; rfl) (lt_b rfl) rfl (fun ls hl => ?_)
                  refine lv_goto (tgt := 139) hx hb dX12_ways_179 rfl ?_
                  exact ih_90 (800 - y_130.toInt : Int).toNat ((by first | (clear hP9 f_6 c_7 f_15 d_1 d_2 c_16 g_18 hn_32 f_31 c_33 hn_42 f_41 c_43 hn_86 f_85 c_87 c_114 d_12; omega) | omega)) _ _ _ ⟨G_124, y_130, (Int.toNat_of_nonneg ((by first | (clear hP9 f_6 c_7 f_15 d_1 d_2 c_16 g_18 hn_32 f_31 c_33 hn_42 f_41 c_43 hn_86 f_85 c_87 hn_96 c_114 d_12; omega) | omega))), ⟨(by first | (clear hP9 f_6 c_7 f_15 d_1 d_2 c_16 g_18 hn_32 f_31 c_33 hn_42 f_41 c_43 hn_86 f_85 c_87 hn_96 c_114 d_12; omega) | omega), (by first | (clear hP9 f_6 c_7 f_15 d_1 d_2 c_16 g_18 hn_32 f_31 c_33 hn_42 f_41 c_43 hn_86 f_85 c_87 hn_96 c_114 d_12; omega) | omega)⟩, (hX_93.st (St_n_ways_5_mk ⟨x_92, G_88, y_130, G_124, rfl, rfl, f_95, hB_G_88, ⟨c_97, ⟨y_112, ey_112, ⟨y_113, ey_113, (Or.inr ⟨c_114, ⟨y_116, ty_116, ⟨r_123, G_124, hX_127, (Or.inr ⟨c_129, ⟨y_130, ty_130, ⟨rfl, rfl⟩⟩⟩)⟩⟩⟩)⟩⟩⟩⟩)), hW, hB_G_124, hF, (Fr.call9 (rs := [102]) (fs := []) (Fr.call9 (rs := [102]) (fs := []) Fr.rf hq_89 rfl rfl) hq_125 rfl rfl), hS, lv_sub hl [0, 1, 2, 3] rfl⟩
                · have c_129 : r_123.toInt = 0 := xI_eq rfl rfl c_129
                  have d_14 := d_12 c_129
                  refine lv_aload_n hx hb dX12_ways_170 rfl (lv_at hl 2 rfl) ?_
                  refine lv_iload hx hb dX12_ways_171 (lv_at hl 0 rfl) ?_
                  refine S_callv (va_runV (As := [.int x_92]) (rest := []) ⟨hx, hb, hml, hown, hts⟩ (n_goOn l D k A a z G_124 x_92 ⟨(by first | (clear hP9 f_6 c_7 f_15 d_1 d_2 c_16 g_18 hn_32 f_31 c_33 hn_42 f_41 c_43 hn_86 f_85 c_87 hn_96 c_114 d_12; omega) | omega), (by first | (clear hP9 f_6 c_7 f_15 d_1 d_2 c_16 g_18 hn_32 f_31 c_33 hn_42 f_41 c_43 hn_86 f_85 c_87 hn_96 c_114 d_12; omega) | omega)⟩) (cwV 1 hts (gd_V hgd m1875 m1877 m98 m131 m1878) rfl rfl rfl hd_X12_goOn ⟨Nat.le_of_ble_eq_true rfl, Nat.le_of_ble_eq_true rfl⟩) (pre_W hW hB_G_124 hK hZ hS kd_66 rfl) rfl rfl hl.1 rfl (lv_room (Nat.le_of_ble_eq_true rfl)) dX12_ways_173 ⟨Nat.le_of_ble_eq_true rfl, Nat.le_of_ble_eq_true rfl⟩) hS (fun G_132 H locs hpo hW hS => ?_)
                  have hX_135 : Q_goOn x_92 G_124 G_132 := hpo
                  obtain ⟨hB_G_132, hq_133, -⟩ := hpo
                  have hF := hF.call9 hq_133 rfl rfl
                  obtain ⟨y_136, ey_136⟩ : ∃ q, q = x_92 + 1 := ⟨_, rfl⟩
                  have ty_136 : y_136.toInt = x_92.toInt + 1 := xI_add rfl rfl ey_136 ((by first | (clear hP9 f_6 c_7 f_15 d_1 d_2 c_16 g_18 hn_32 f_31 c_33 hn_42 f_41 c_43 hn_86 f_85 c_87 hn_96 c_114 d_12; omega) | omega)) ((by first | (clear hP9 f_6 c_7 f_15 d_1 d_2 c_16 g_18 hn_32 f_31 c_33 hn_42 f_41 c_43 hn_86 f_85 c_87 hn_96 c_114 d_12; omega) | omega))
                  refine lv_iinc (v := y_136) (lv' := [(6, .int y_136), (5, .int x_38), (0, .ref (a 66)), (4, .int p3)]) hx hb dX12_ways_176 hl (k := 0) rfl (by rw [ey_136]; rfl) (lt_b rfl) rfl (fun ls hl => ?_)
                  refine lv_goto (tgt := 139) hx hb dX12_ways_179 rfl ?_
                  exact ih_90 (800 - y_136.toInt : Int).toNat ((by first | (clear hP9 f_6 c_7 f_15 d_1 d_2 c_16 g_18 hn_32 f_31 c_33 hn_42 f_41 c_43 hn_86 f_85 c_87 c_114 d_12; omega) | omega)) _ _ _ ⟨G_132, y_136, (Int.toNat_of_nonneg ((by first | (clear hP9 f_6 c_7 f_15 d_1 d_2 c_16 g_18 hn_32 f_31 c_33 hn_42 f_41 c_43 hn_86 f_85 c_87 hn_96 c_114 d_12; omega) | omega))), ⟨(by first | (clear hP9 f_6 c_7 f_15 d_1 d_2 c_16 g_18 hn_32 f_31 c_33 hn_42 f_41 c_43 hn_86 f_85 c_87 hn_96 c_114 d_12; omega) | omega), (by first | (clear hP9 f_6 c_7 f_15 d_1 d_2 c_16 g_18 hn_32 f_31 c_33 hn_42 f_41 c_43 hn_86 f_85 c_87 hn_96 c_114 d_12; omega) | omega)⟩, (hX_93.st (St_n_ways_5_mk ⟨x_92, G_88, y_136, G_132, rfl, rfl, f_95, hB_G_88, ⟨c_97, ⟨y_112, ey_112, ⟨y_113, ey_113, (Or.inr ⟨c_114, ⟨y_116, ty_116, ⟨r_123, G_124, hX_127, (Or.inl ⟨c_129, ⟨G_132, hX_135, ⟨y_136, ty_136, ⟨rfl, rfl⟩⟩⟩⟩)⟩⟩⟩)⟩⟩⟩⟩)), hW, hB_G_132, hF, (Fr.call9 (rs := [102]) (fs := []) (Fr.call9 (rs := [102]) (fs := []) (Fr.call9 (rs := [102]) (fs := []) Fr.rf hq_89 rfl rfl) hq_125 rfl rfl) hq_133 rfl rfl), hS, lv_sub hl [0, 1, 2, 3] rfl⟩
          · have c_87 : x_82.toInt < 1024 := xI_nle rfl rfl c_87
            refine lv_aload_n hx hb dX12_ways_122 rfl (lv_at hl 2 rfl) ?_
            refine S_getR (n := 102) (C := RX12) (T := TX12) (N := 89) hx hb hg iX12 hown hK hW kd_66 rfl 68 (lt_b rfl) (hg (Cond.fieldLink RX12 127 "SlabWalkModel" "next" "[J") m1382) (fun _ h9 => h9) rfl dX12_ways_123 ?_
            refine lv_iload hx hb dX12_ways_126 (lv_at hl 0 rfl) ?_
            refine lv_lconst (v := 0) hx hb dX12_ways_128 (by decide) ?_
            refine S_last hx hb hK hW hS kd_102 (vin ((by first | (clear hP9 f_6 hp_4 c_7 f_15 d_1 d_2 c_16 g_18 d_3 d_4 d_5 d_6 d_7 d_8 hn_32 f_31 c_33 hn_42 f_41 c_43 hn_86; omega) | omega)) ((by first | (clear hP9 f_6 hp_4 c_7 f_15 d_1 d_2 c_16 g_18 d_3 d_4 d_5 d_6 d_7 d_8 hn_32 f_31 c_33 hn_42 f_41 c_43 hn_86; omega) | omega))) dX12_ways_129 (fun G_137 H locs eG_137 hW hS => ?_)
            have hB_G_137 : Bd G_137 := hB_G_78.putl eG_137
            have hF := hF.putl eG_137 (Or.inl (by decide))
            obtain ⟨y_138, ey_138⟩ : ∃ q, q = x_82 + 1 := ⟨_, rfl⟩
            have ty_138 : y_138.toInt = x_82.toInt + 1 := xI_add rfl rfl ey_138 ((by first | (clear hP9 f_6 hp_4 c_7 f_15 d_1 d_2 c_16 g_18 d_3 d_4 d_5 d_6 d_7 d_8 hn_32 f_31 c_33 hn_42 f_41 c_43 hn_86; omega) | omega)) ((by first | (clear hP9 f_6 hp_4 c_7 f_15 d_1 d_2 c_16 g_18 d_3 d_4 d_5 d_6 d_7 d_8 hn_32 f_31 c_33 hn_42 f_41 c_43 hn_86; omega) | omega))
            refine lv_iinc (v := y_138) (lv' := [(6, .int y_138), (5, .int x_38), (0, .ref (a 66)), (4, .int p3)]) hx hb dX12_ways_130 hl (k := 0) rfl (by rw [ey_138]; rfl) (lt_b rfl) rfl (fun ls hl => ?_)
            refine lv_goto (tgt := 114) hx hb dX12_ways_133 rfl ?_
            exact ih_80 (1024 - y_138.toInt : Int).toNat ((by first | (clear hP9 f_6 hp_4 c_7 f_15 d_1 d_2 c_16 g_18 d_3 d_4 d_5 d_6 d_7 d_8 hn_32 f_31 c_33 hn_42 f_41 c_43; omega) | omega)) _ _ _ ⟨G_137, y_138, (Int.toNat_of_nonneg ((by first | (clear hP9 f_6 hp_4 c_7 f_15 d_1 d_2 c_16 g_18 d_3 d_4 d_5 d_6 d_7 d_8 hn_32 f_31 c_33 hn_42 f_41 c_43 hn_86; omega) | omega))), ⟨(by first | (clear hP9 f_6 hp_4 c_7 f_15 d_1 d_2 c_16 g_18 d_3 d_4 d_5 d_6 d_7 d_8 hn_32 f_31 c_33 hn_42 f_41 c_43 hn_86; omega) | omega), (by first | (clear hP9 f_6 hp_4 c_7 f_15 d_1 d_2 c_16 g_18 d_3 d_4 d_5 d_6 d_7 d_8 hn_32 f_31 c_33 hn_42 f_41 c_43 hn_86; omega) | omega)⟩, (hX_83.st (St_n_ways_4_mk ⟨x_82, G_78, y_138, G_137, rfl, rfl, f_85, hB_G_78, ⟨c_87, ⟨y_138, ty_138, ⟨rfl, (Fr.putl (rs := [102]) (fs := []) Fr.rf eG_137 (Or.inl (by decide))), rl_ast eG_137⟩⟩⟩⟩)), hW, hB_G_137, hF, (Fr.putl (rs := [102]) (fs := []) (Fr.call9 (rs := [102]) (fs := []) Fr.rf hq_79 rfl rfl) eG_137 (Or.inl (by decide))), hS, lv_sub hl [0, 1, 2, 3] rfl⟩
      · have c_33 : x_28.toInt < 1024 := xI_nle rfl rfl c_33
        refine lv_aload_n hx hb dX12_ways_43 rfl (lv_at hl 1 rfl) ?_
        refine S_getR (n := 101) (C := RX12) (T := TX12) (N := 89) hx hb hg iX12 hown hK hW kd_66 rfl 67 (lt_b rfl) (hg (Cond.fieldLink RX12 124 "SlabWalkModel" "ways" "[J") m1381) (fun _ h9 => h9) rfl dX12_ways_44 ?_
        refine lv_iload hx hb dX12_ways_47 (lv_at hl 0 rfl) ?_
        refine lv_iload hx hb dX12_ways_49 (lv_at hl 0 rfl) ?_
        refine ic_2 hx hb dX12_ways_51 ?_
        refine lv_irem hx hb dX12_ways_52 (by decide) ?_
        refine lv_topi (fun y_139 ey_139 => ?_)
        have ty_139 : y_139.toInt = x_28.toInt % 2 := xI_mod rfl ey_139 (by decide) ((by first | (clear hP9 f_6 hp_4 c_7 f_15 d_1 d_2 c_16 g_18 d_3 d_4 d_5 d_6 d_7 d_8 hn_32; omega) | omega))
        refine lv_if_ne (tgt := 93) hx hb dX12_ways_53 rfl (fun c_140 => ?_) (fun c_140 => ?_)
        · have c_140 : y_139.toInt ≠ 0 := xI_ne rfl rfl c_140
          refine lv_lconst (v := 0) hx hb dX12_ways_93 (by decide) ?_
          refine S_last hx hb hK hW hS kd_101 (vin ((by first | (clear hP9 f_6 hp_4 c_7 f_15 d_1 d_2 c_16 g_18 d_3 d_4 d_5 d_6 d_7 d_8 hn_32; omega) | omega)) ((by first | (clear hP9 f_6 hp_4 c_7 f_15 d_1 d_2 c_16 g_18 d_3 d_4 d_5 d_6 d_7 d_8 hn_32; omega) | omega))) dX12_ways_94 (fun G_141 H locs eG_141 hW hS => ?_)
          have hB_G_141 : Bd G_141 := hB_G_24.putl eG_141
          have hF := hF.putl eG_141 (Or.inl (by decide))
          obtain ⟨y_142, ey_142⟩ : ∃ q, q = x_28 + 1 := ⟨_, rfl⟩
          have ty_142 : y_142.toInt = x_28.toInt + 1 := xI_add rfl rfl ey_142 ((by first | (clear hP9 f_6 hp_4 c_7 f_15 d_1 d_2 c_16 g_18 d_3 d_4 d_5 d_6 d_7 d_8 hn_32; omega) | omega)) ((by first | (clear hP9 f_6 hp_4 c_7 f_15 d_1 d_2 c_16 g_18 d_3 d_4 d_5 d_6 d_7 d_8 hn_32; omega) | omega))
          refine lv_iinc (v := y_142) (lv' := [(5, .int y_142), (0, .ref (a 66)), (4, .int p3)]) hx hb dX12_ways_95 hl (k := 0) rfl (by rw [ey_142]; rfl) (lt_b rfl) rfl (fun ls hl => ?_)
          refine lv_goto (tgt := 35) hx hb dX12_ways_98 rfl ?_
          exact ih_26 (1024 - y_142.toInt : Int).toNat ((by first | (clear hP9 f_6 hp_4 c_7 f_15 d_1 d_2 c_16 g_18 d_3 d_4 d_5 d_6 d_7 d_8; omega) | omega)) _ _ _ ⟨G_141, y_142, (Int.toNat_of_nonneg ((by first | (clear hP9 f_6 hp_4 c_7 f_15 d_1 d_2 c_16 g_18 d_3 d_4 d_5 d_6 d_7 d_8 hn_32; omega) | omega))), ⟨(by first | (clear hP9 f_6 hp_4 c_7 f_15 d_1 d_2 c_16 g_18 d_3 d_4 d_5 d_6 d_7 d_8 hn_32; omega) | omega), (by first | (clear hP9 f_6 hp_4 c_7 f_15 d_1 d_2 c_16 g_18 d_3 d_4 d_5 d_6 d_7 d_8 hn_32; omega) | omega)⟩, (hX_29.st (St_n_ways_1_mk ⟨x_28, G_24, y_142, G_141, rfl, rfl, f_31, hB_G_24, ⟨c_33, ⟨y_139, ty_139, (Or.inr ⟨c_140, ⟨y_142, ty_142, ⟨rfl, (Fr.putl (rs := [101]) (fs := []) Fr.rf eG_141 (Or.inl (by decide))), rl_ast eG_141⟩⟩⟩)⟩⟩⟩)), hW, hB_G_141, hF, (Fr.putl (rs := [101]) (fs := []) (Fr.call9 (rs := [101]) (fs := []) Fr.rf hq_25 rfl rfl) eG_141 (Or.inl (by decide))), hS, lv_sub hl [0, 1, 2] rfl⟩
        · have c_140 : y_139.toInt = 0 := xI_eq rfl rfl c_140
          refine lv_iload hx hb dX12_ways_56 (lv_at hl 0 rfl) ?_
          refine ic_2 hx hb dX12_ways_58 ?_
          refine lv_idiv hx hb dX12_ways_59 (by decide) ?_
          refine lv_topi (fun y_143 ey_143 => ?_)
          have ty_143 : y_143.toInt = x_28.toInt / 2 := xI_div rfl ey_143 (by decide) ((by first | (clear hP9 f_6 hp_4 c_7 f_15 d_1 d_2 c_16 g_18 d_3 d_4 d_5 d_6 d_7 d_8 hn_32; omega) | omega))
          refine lv_aload_n hx hb dX12_ways_60 rfl (lv_at hl 1 rfl) ?_
          have b_144 : 0 ≤ (G_20.1 66 62).toInt ∧ (G_20.1 66 62).toInt ≤ 60 := bd_66_62 hB_G_20
          refine S_getI (v := (G_20.1 66 62)) (C := RX12) (T := TX12) (N := 89) hx hb hg iX12 hown hK hW kd_66 rfl 62 (lt_b rfl) (hg (Cond.fieldLink RX12 478 "SlabWalkModel" "most" "I") m1376) (fun _ h9 => h9) rfl (hq_25.i9 66 62 rfl rfl) dX12_ways_61 ?_
          refine lv_icmp_ge (tgt := 93) hx hb dX12_ways_64 rfl (fun c_145 => ?_) (fun c_145 => ?_)
          · have c_145 : (G_20.1 66 62).toInt ≤ y_143.toInt := xI_le rfl rfl c_145
            refine lv_lconst (v := 0) hx hb dX12_ways_93 (by decide) ?_
            refine S_last hx hb hK hW hS kd_101 (vin ((by first | (clear hP9 f_6 c_7 f_15 d_1 d_2 c_16 g_18 hn_32; omega) | omega)) ((by first | (clear hP9 f_6 c_7 f_15 d_1 d_2 c_16 g_18 hn_32; omega) | omega))) dX12_ways_94 (fun G_146 H locs eG_146 hW hS => ?_)
            have hB_G_146 : Bd G_146 := hB_G_24.putl eG_146
            have hF := hF.putl eG_146 (Or.inl (by decide))
            obtain ⟨y_147, ey_147⟩ : ∃ q, q = x_28 + 1 := ⟨_, rfl⟩
            have ty_147 : y_147.toInt = x_28.toInt + 1 := xI_add rfl rfl ey_147 ((by first | (clear hP9 f_6 c_7 f_15 d_1 d_2 c_16 g_18 hn_32; omega) | omega)) ((by first | (clear hP9 f_6 c_7 f_15 d_1 d_2 c_16 g_18 hn_32; omega) | omega))
            refine lv_iinc (v := y_147) (lv' := [(5, .int y_147), (0, .ref (a 66)), (4, .int p3)]) hx hb dX12_ways_95 hl (k := 0) rfl (by rw [ey_147]; rfl) (lt_b rfl) rfl (fun ls hl => ?_)
            refine lv_goto (tgt := 35) hx hb dX12_ways_98 rfl ?_
            exact ih_26 (1024 - y_147.toInt : Int).toNat ((by first | (clear hP9 f_6 c_7 f_15 d_1 d_2 c_16 g_18; omega) | omega)) _ _ _ ⟨G_146, y_147, (Int.toNat_of_nonneg ((by first | (clear hP9 f_6 c_7 f_15 d_1 d_2 c_16 g_18 hn_32; omega) | omega))), ⟨(by first | (clear hP9 f_6 c_7 f_15 d_1 d_2 c_16 g_18 hn_32; omega) | omega), (by first | (clear hP9 f_6 c_7 f_15 d_1 d_2 c_16 g_18 hn_32; omega) | omega)⟩, (hX_29.st (St_n_ways_1_mk ⟨x_28, G_24, y_147, G_146, rfl, rfl, f_31, hB_G_24, ⟨c_33, ⟨y_139, ty_139, (Or.inl ⟨c_140, ⟨y_143, ty_143, (Or.inl ⟨c_145, ⟨y_147, ty_147, ⟨rfl, (Fr.putl (rs := [101]) (fs := []) Fr.rf eG_146 (Or.inl (by decide))), rl_ast eG_146⟩⟩⟩)⟩⟩)⟩⟩⟩)), hW, hB_G_146, hF, (Fr.putl (rs := [101]) (fs := []) (Fr.call9 (rs := [101]) (fs := []) Fr.rf hq_25 rfl rfl) eG_146 (Or.inl (by decide))), hS, lv_sub hl [0, 1, 2] rfl⟩
          · have c_145 : y_143.toInt < (G_20.1 66 62).toInt := xI_nle rfl rfl c_145
            refine lv_iload hx hb dX12_ways_67 (lv_at hl 0 rfl) ?_
            refine ic_2 hx hb dX12_ways_69 ?_
            refine lv_idiv hx hb dX12_ways_70 (by decide) ?_
            refine lv_topi (fun y_148 ey_148 => ?_)
            have ty_148 : y_148.toInt = x_28.toInt / 2 := xI_div rfl ey_148 (by decide) ((by first | (clear hP9 f_6 c_7 f_15 d_1 d_2 c_16 g_18 hn_32; omega) | omega))
            refine lv_sipush (v := 400) hx hb dX12_ways_71 (by decide) ?_
            refine lv_icmp_ge (tgt := 93) hx hb dX12_ways_74 rfl (fun c_149 => ?_) (fun c_149 => ?_)
            · have c_149 : 400 ≤ y_148.toInt := xI_le rfl rfl c_149
              refine lv_lconst (v := 0) hx hb dX12_ways_93 (by decide) ?_
              refine S_last hx hb hK hW hS kd_101 (vin ((by first | (clear hP9 f_6 c_7 f_15 d_1 d_2 c_16 g_18 hn_32; omega) | omega)) ((by first | (clear hP9 f_6 c_7 f_15 d_1 d_2 c_16 g_18 hn_32; omega) | omega))) dX12_ways_94 (fun G_150 H locs eG_150 hW hS => ?_)
              have hB_G_150 : Bd G_150 := hB_G_24.putl eG_150
              have hF := hF.putl eG_150 (Or.inl (by decide))
              obtain ⟨y_151, ey_151⟩ : ∃ q, q = x_28 + 1 := ⟨_, rfl⟩
              have ty_151 : y_151.toInt = x_28.toInt + 1 := xI_add rfl rfl ey_151 ((by first | (clear hP9 f_6 c_7 f_15 d_1 d_2 c_16 g_18 hn_32; omega) | omega)) ((by first | (clear hP9 f_6 c_7 f_15 d_1 d_2 c_16 g_18 hn_32; omega) | omega))
              refine lv_iinc (v := y_151) (lv' := [(5, .int y_151), (0, .ref (a 66)), (4, .int p3)]) hx hb dX12_ways_95 hl (k := 0) rfl (by rw [ey_151]; rfl) (lt_b rfl) rfl (fun ls hl => ?_)
              refine lv_goto (tgt := 35) hx hb dX12_ways_98 rfl ?_
              exact ih_26 (1024 - y_151.toInt : Int).toNat ((by first | (clear hP9 f_6 c_7 f_15 d_1 d_2 c_16 g_18; omega) | omega)) _ _ _ ⟨G_150, y_151, (Int.toNat_of_nonneg ((by first | (clear hP9 f_6 c_7 f_15 d_1 d_2 c_16 g_18 hn_32; omega) | omega))), ⟨(by first | (clear hP9 f_6 c_7 f_15 d_1 d_2 c_16 g_18 hn_32; omega) | omega), (by first | (clear hP9 f_6 c_7 f_15 d_1 d_2 c_16 g_18 hn_32; omega) | omega)⟩, (hX_29.st (St_n_ways_1_mk ⟨x_28, G_24, y_151, G_150, rfl, rfl, f_31, hB_G_24, ⟨c_33, ⟨y_139, ty_139, (Or.inl ⟨c_140, ⟨y_143, ty_143, (Or.inr ⟨c_145, ⟨y_148, ty_148, (Or.inl ⟨c_149, ⟨y_151, ty_151, ⟨rfl, (Fr.putl (rs := [101]) (fs := []) Fr.rf eG_150 (Or.inl (by decide))), rl_ast eG_150⟩⟩⟩)⟩⟩)⟩⟩)⟩⟩⟩)), hW, hB_G_150, hF, (Fr.putl (rs := [101]) (fs := []) (Fr.call9 (rs := [101]) (fs := []) Fr.rf hq_25 rfl rfl) eG_150 (Or.inl (by decide))), hS, lv_sub hl [0, 1, 2] rfl⟩
            · have c_149 : y_148.toInt < 400 := xI_nle rfl rfl c_149
              refine lv_aload_n hx hb dX12_ways_77 rfl (lv_at hl 1 rfl) ?_
              refine S_getR (n := 98) (C := RX12) (T := TX12) (N := 89) hx hb hg iX12 hown hK hW kd_66 rfl 58 (lt_b rfl) (hg (Cond.fieldLink RX12 115 "SlabWalkModel" "lawful" "[Z") m1372) (fun _ h9 => h9) rfl dX12_ways_78 ?_
              refine lv_iload hx hb dX12_ways_81 (lv_at hl 0 rfl) ?_
              refine ic_2 hx hb dX12_ways_83 ?_
              refine lv_idiv hx hb dX12_ways_84 (by decide) ?_
              refine lv_topi (fun y_152 ey_152 => ?_)
              have ty_152 : y_152.toInt = x_28.toInt / 2 := xI_div rfl ey_152 (by decide) ((by first | (clear hP9 f_6 c_7 f_15 d_1 d_2 c_16 g_18 hn_32; omega) | omega))
              refine S_zald hx hb hK hW kd_98 (vin ((by first | (clear hP9 f_6 c_7 f_15 d_1 d_2 c_16 g_18 hn_32; omega) | omega)) ((by first | (clear hP9 f_6 c_7 f_15 d_1 d_2 c_16 g_18 hn_32; omega) | omega))) dX12_ways_85 (fun y_153 ey_153 => ?_)
              have ty_153 := hB_G_24.law ey_153
              refine lv_if_eq (tgt := 93) hx hb dX12_ways_86 rfl (fun c_154 => ?_) (fun c_154 => ?_)
              · have c_154 : y_153.toInt = 0 := xI_eq rfl rfl c_154
                refine lv_lconst (v := 0) hx hb dX12_ways_93 (by decide) ?_
                refine S_last hx hb hK hW hS kd_101 (vin ((by first | (clear hP9 f_6 c_7 f_15 d_1 d_2 c_16 g_18 hn_32 c_154; omega) | omega)) ((by first | (clear hP9 f_6 c_7 f_15 d_1 d_2 c_16 g_18 hn_32 c_154; omega) | omega))) dX12_ways_94 (fun G_155 H locs eG_155 hW hS => ?_)
                have hB_G_155 : Bd G_155 := hB_G_24.putl eG_155
                have hF := hF.putl eG_155 (Or.inl (by decide))
                obtain ⟨y_156, ey_156⟩ : ∃ q, q = x_28 + 1 := ⟨_, rfl⟩
                have ty_156 : y_156.toInt = x_28.toInt + 1 := xI_add rfl rfl ey_156 ((by first | (clear hP9 f_6 c_7 f_15 d_1 d_2 c_16 g_18 hn_32 c_154; omega) | omega)) ((by first | (clear hP9 f_6 c_7 f_15 d_1 d_2 c_16 g_18 hn_32 c_154; omega) | omega))
                refine lv_iinc (v := y_156) (lv' := [(5, .int y_156), (0, .ref (a 66)), (4, .int p3)]) hx hb dX12_ways_95 hl (k := 0) rfl (by rw [ey_156]; rfl) (lt_b rfl) rfl (fun ls hl => ?_)
                refine lv_goto (tgt := 35) hx hb dX12_ways_98 rfl ?_
                exact ih_26 (1024 - y_156.toInt : Int).toNat ((by first | (clear hP9 f_6 c_7 f_15 d_1 d_2 c_16 g_18 c_154; omega) | omega)) _ _ _ ⟨G_155, y_156, (Int.toNat_of_nonneg ((by first | (clear hP9 f_6 c_7 f_15 d_1 d_2 c_16 g_18 hn_32 c_154; omega) | omega))), ⟨(by first | (clear hP9 f_6 c_7 f_15 d_1 d_2 c_16 g_18 hn_32 c_154; omega) | omega), (by first | (clear hP9 f_6 c_7 f_15 d_1 d_2 c_16 g_18 hn_32 c_154; omega) | omega)⟩, (hX_29.st (St_n_ways_1_mk ⟨x_28, G_24, y_156, G_155, rfl, rfl, f_31, hB_G_24, ⟨c_33, ⟨y_139, ty_139, (Or.inl ⟨c_140, ⟨y_143, ty_143, (Or.inr ⟨c_145, ⟨y_148, ty_148, (Or.inr ⟨c_149, ⟨y_152, ty_152, ⟨y_153, ey_153, (Or.inl ⟨c_154, ⟨y_156, ty_156, ⟨rfl, (Fr.putl (rs := [101]) (fs := []) Fr.rf eG_155 (Or.inl (by decide))), rl_ast eG_155⟩⟩⟩)⟩⟩⟩)⟩⟩)⟩⟩)⟩⟩⟩)), hW, hB_G_155, hF, (Fr.putl (rs := [101]) (fs := []) (Fr.call9 (rs := [101]) (fs := []) Fr.rf hq_25 rfl rfl) eG_155 (Or.inl (by decide))), hS, lv_sub hl [0, 1, 2] rfl⟩
              · have c_154 : y_153.toInt ≠ 0 := xI_ne rfl rfl c_154
                refine lv_lconst (v := 1) hx hb dX12_ways_89 (by decide) ?_
                refine lv_goto (tgt := 94) hx hb dX12_ways_90 rfl ?_
                refine S_last hx hb hK hW hS kd_101 (vin ((by first | (clear hP9 f_6 c_7 f_15 d_1 d_2 c_16 g_18 hn_32 c_154; omega) | omega)) ((by first | (clear hP9 f_6 c_7 f_15 d_1 d_2 c_16 g_18 hn_32 c_154; omega) | omega))) dX12_ways_94 (fun G_157 H locs eG_157 hW hS => ?_)
                have hB_G_157 : Bd G_157 := hB_G_24.putl eG_157
                have hF := hF.putl eG_157 (Or.inl (by decide))
                obtain ⟨y_158, ey_158⟩ : ∃ q, q = x_28 + 1 := ⟨_, rfl⟩
                have ty_158 : y_158.toInt = x_28.toInt + 1 := xI_add rfl rfl ey_158 ((by first | (clear hP9 f_6 c_7 f_15 d_1 d_2 c_16 g_18 hn_32 c_154; omega) | omega)) ((by first | (clear hP9 f_6 c_7 f_15 d_1 d_2 c_16 g_18 hn_32 c_154; omega) | omega))
                refine lv_iinc (v := y_158) (lv' := [(5, .int y_158), (0, .ref (a 66)), (4, .int p3)]) hx hb dX12_ways_95 hl (k := 0) rfl (by rw [ey_158]; rfl) (lt_b rfl) rfl (fun ls hl => ?_)
                refine lv_goto (tgt := 35) hx hb dX12_ways_98 rfl ?_
                exact ih_26 (1024 - y_158.toInt : Int).toNat ((by first | (clear hP9 f_6 c_7 f_15 d_1 d_2 c_16 g_18 c_154; omega) | omega)) _ _ _ ⟨G_157, y_158, (Int.toNat_of_nonneg ((by first | (clear hP9 f_6 c_7 f_15 d_1 d_2 c_16 g_18 hn_32 c_154; omega) | omega))), ⟨(by first | (clear hP9 f_6 c_7 f_15 d_1 d_2 c_16 g_18 hn_32 c_154; omega) | omega), (by first | (clear hP9 f_6 c_7 f_15 d_1 d_2 c_16 g_18 hn_32 c_154; omega) | omega)⟩, (hX_29.st (St_n_ways_1_mk ⟨x_28, G_24, y_158, G_157, rfl, rfl, f_31, hB_G_24, ⟨c_33, ⟨y_139, ty_139, (Or.inl ⟨c_140, ⟨y_143, ty_143, (Or.inr ⟨c_145, ⟨y_148, ty_148, (Or.inr ⟨c_149, ⟨y_152, ty_152, ⟨y_153, ey_153, (Or.inr ⟨c_154, ⟨y_158, ty_158, ⟨rfl, (Fr.putl (rs := [101]) (fs := []) Fr.rf eG_157 (Or.inl (by decide))), rl_ast eG_157⟩⟩⟩)⟩⟩⟩)⟩⟩)⟩⟩)⟩⟩⟩)), hW, hB_G_157, hF, (Fr.putl (rs := [101]) (fs := []) (Fr.call9 (rs := [101]) (fs := []) Fr.rf hq_25 rfl rfl) eG_157 (Or.inl (by decide))), hS, lv_sub hl [0, 1, 2] rfl⟩
    · have c_16 : r_10.toInt = 0 := xI_eq rfl rfl c_16
      refine lv_ldc2 (v := (-1)) hx hb hown (hg (Cond.constantLong RX12 517 (-1)) m1874) dX12_ways_21 ?_
      exact W.lret (v := (-1)) hx hb hr (fun t ht _ => ⟨⟨(-1), G_11, rfl, (Q_ways_mk ⟨hB_G_11, hF, ⟨r_1, G_2, hX_5, (Or.inr ⟨c_7, ⟨r_10, G_11, hX_14, (Or.inl ⟨c_16, ⟨rfl, rfl⟩⟩)⟩⟩)⟩⟩), wd_t ht hW⟩, hS.F ht⟩) hS.2.2 dX12_ways_24

set_option maxHeartbeats 4000000 in
set_option maxRecDepth 100000 in
theorem n_keeps (l : Launch) (D : va_G) (k : KT) (A : Nat → Prop) (a : Nat → Nat) (z : SK) (G : GS) (p0 : Int32) (p1 : Int32) (p2 : Int32) (hP9 : gP G = 1) : Met l yX12_keeps (WS yX12_keeps cX12_keeps 7 (some .int)) ({ frames := 5, cells := 0, slots := 0, locals := 117 }) (va_Pc [.ref (a 66), .int p0, .int p1, .int p2] (cW D k A a z G)) (va_Qi (fun (r : Int32) (G1 : GS) => Q_keeps p0 p1 p2 G r G1) (fun (G1 : GS) t => Wd D k A a G1 t.heap) A) 0 0 A := by
  refine Met.ofW (cc := cX12_keeps) (maxL := 7) (ret := (some .int)) (by decide) rfl ?_
  intro p e s m args below meth c s₁ B hml hv
  obtain ⟨rfl, hW, hB_G, hK, hZ⟩ := hv
  have hx := B.exec
  have hb := B.bytes
  have hr := B.returns
  have hts := atoms_spec (ws := WS yX12_keeps cX12_keeps 7 (some .int)) B.pre
  have hgd : ∀ w ∈ gd, w ∈ WS yX12_keeps cX12_keeps 7 (some .int) := fun w h => List.mem_cons_of_mem _ h
  have hg : ∀ w ∈ gd, w.before _ s = true := fun w h => hts w (hgd w h)
  have hown : s.vm.findClass RX12 = some m.cls := findClass_of_methodNamed B.named
  have hS : va_S A s.heap s.heap [] := va_S.rf
  have hF : Fr [104, 105, 76, 97, 98] [(66, 59), (66, 60), (66, 61), (66, 62), (66, 63)] G G := Fr.rf
  have hl := lv_entry ([.ref (a 66), .int p0, .int p1, .int p2]) (n := 7) (Nat.le_of_ble_eq_true rfl)
  rw [lg_entry_eq]
  generalize (lg_sl ([.ref (a 66), .int p0, .int p1, .int p2]) ++ List.replicate (7 - (lg_sl ([.ref (a 66), .int p0, .int p1, .int p2])).length) Slot.unset).toArray = ls at hl ⊢
  have hl : lv_has ls 7 [(0, .ref (a 66)), (1, .int p0), (2, .int p1), (3, .int p2)] := hl
  refine lv_aload_n hx hb dX12_keeps_0 rfl (lv_at hl 0 rfl) ?_
  refine lv_iload_n hx hb dX12_keeps_1 rfl (lv_at hl 1 rfl) ?_
  refine lv_iload_n hx hb dX12_keeps_2 rfl (lv_at hl 2 rfl) ?_
  refine lv_iload_n hx hb dX12_keeps_3 rfl (lv_at hl 3 rfl) ?_
  refine S_calli (va_runV (As := [.int p0, .int p1, .int p2]) (rest := []) ⟨hx, hb, hml, hown, hts⟩ (n_isAsked l D k A a z G p0 p1 p2 ) (cwV 3 hts (gd_V hgd m1826 m1828 m89 m131 m1829) rfl rfl rfl hd_X12_isAsked ⟨Nat.le_of_ble_eq_true rfl, Nat.le_of_ble_eq_true rfl⟩) (pre_W hW hB_G hK hZ hS kd_66 rfl) rfl rfl hl.1 rfl (lv_room (Nat.le_of_ble_eq_true rfl)) dX12_keeps_4 ⟨Nat.le_of_ble_eq_true rfl, Nat.le_of_ble_eq_true rfl⟩) hS (fun r_1 G_2 H locs hpo hW hS => ?_)
  have hX_5 : Q_isAsked p0 p1 p2 G r_1 G_2 := hpo
  obtain ⟨hB_G_2, hq_3, f_6, hp_4, -⟩ := hpo
  have hF := hF.call9 hq_3 rfl rfl
  refine lv_if_ne (tgt := 12) hx hb dX12_keeps_7 rfl (fun c_7 => ?_) (fun c_7 => ?_)
  · have c_7 : r_1.toInt ≠ 0 := xI_ne rfl rfl c_7
    refine lv_aload_n hx hb dX12_keeps_12 rfl (lv_at hl 0 rfl) ?_
    refine lv_iload_n hx hb dX12_keeps_13 rfl (lv_at hl 1 rfl) ?_
    refine lv_iload_n hx hb dX12_keeps_14 rfl (lv_at hl 2 rfl) ?_
    refine lv_iload_n hx hb dX12_keeps_15 rfl (lv_at hl 3 rfl) ?_
    have fr_8 : Fr [] [] G G_2 := (Fr.call9 (rs := []) (fs := []) Fr.rf hq_3 rfl rfl)
    have g_9 : gP G_2 = gP G := gP_fr fr_8 (gr_q rfl) (gf_q rfl)
    refine S_callv (va_runV (As := [.int p0, .int p1, .int p2]) (rest := []) ⟨hx, hb, hml, hown, hts⟩ (n_layStreet l D k A a z G_2 p0 p1 p2 ⟨by omega, by omega⟩ ⟨by omega, by omega⟩ ((by first | (clear f_6 hp_4 c_7; omega) | omega))) (cwV 3 hts (gd_V hgd m1834 m1836 m91 m131 m1837) rfl rfl rfl hd_X12_layStreet ⟨Nat.le_of_ble_eq_true rfl, Nat.le_of_ble_eq_true rfl⟩) (pre_W hW hB_G_2 hK hZ hS kd_66 rfl) rfl rfl hl.1 rfl (lv_room (Nat.le_of_ble_eq_true rfl)) dX12_keeps_16 ⟨Nat.le_of_ble_eq_true rfl, Nat.le_of_ble_eq_true rfl⟩) hS (fun G_11 H locs hpo hW hS => ?_)
    have hX_14 : Q_layStreet p0 p1 p2 G_2 G_11 := hpo
    obtain ⟨hB_G_11, hq_12, ⟨d_1, d_2, d_3, d_4, d_5, d_6⟩, -⟩ := hpo
    have hF := hF.call9 hq_12 rfl rfl
    refine ic_0 hx hb dX12_keeps_19 ?_
    refine lv_istore (lv' := [(4, .int 0), (0, .ref (a 66)), (1, .int p0), (2, .int p1), (3, .int p2)]) hx hb dX12_keeps_20 hl (lt_b rfl) rfl (fun ls hl => ?_)
    have qc_21 : (0 : Int32).toInt = 0 := rfl
    refine loop_N (Inv := fun n H locs ls => ∃ (G_15 : GS) (x_19 : Int32), (n : Int) = 1024 - x_19.toInt ∧ (0 ≤ x_19.toInt ∧ x_19.toInt ≤ 1024) ∧ Rc (St_n_keeps_1 G_11) (0, G_11) (x_19, G_15) ∧ Wd D k A a G_15 H ∧ Bd G_15 ∧ Fr [104, 105, 76, 97, 98] [(66, 59), (66, 60), (66, 61), (66, 62), (66, 63)] G G_15 ∧ Fr [104] [] G_11 G_15 ∧ va_S A s.heap H locs ∧ lv_has ls 7 [(4, .int x_19), (0, .ref (a 66))]) (fun n_18 H locs ls ih_17 hI => ?_) (1024 - 0 : Int).toNat ⟨G_11, 0, (Int.toNat_of_nonneg ((by first | (clear hP9 f_6 hp_4 c_7 g_9 d_1 d_2 d_3 d_4 d_5 d_6; omega) | omega))), ⟨(by first | (clear hP9 f_6 hp_4 c_7 g_9 d_1 d_2 d_3 d_4 d_5 d_6; omega) | omega), (by first | (clear hP9 f_6 hp_4 c_7 g_9 d_1 d_2 d_3 d_4 d_5 d_6; omega) | omega)⟩, Rc.rf, hW, hB_G_11, hF, Fr.rf, hS, lv_sub hl [0, 1] rfl⟩
    obtain ⟨G_15, x_19, hn_23, f_22, hX_20, hW, hB_G_15, hF, hq_16, hS, hl⟩ := hI
    refine lv_iload hx hb dX12_keeps_22 (lv_at hl 0 rfl) ?_
    refine lv_sipush (v := 1024) hx hb dX12_keeps_24 (by decide) ?_
    refine lv_icmp_ge (tgt := 102) hx hb dX12_keeps_27 rfl (fun c_24 => ?_) (fun c_24 => ?_)
    · have c_24 : 1024 ≤ x_19.toInt := xI_le rfl rfl c_24
      refine lv_ldcw (v := 100000) hx hb hown (hg (Cond.constant RX12 502 100000) m1858) dX12_keeps_102 ?_
      refine lv_istore (lv' := [(4, .int 100000), (0, .ref (a 66))]) hx hb dX12_keeps_105 hl (lt_b rfl) rfl (fun ls hl => ?_)
      refine ic_1 hx hb dX12_keeps_107 ?_
      refine lv_istore (lv' := [(5, .int 1), (4, .int 100000), (0, .ref (a 66))]) hx hb dX12_keeps_108 hl (lt_b rfl) rfl (fun ls hl => ?_)
      have qc_32 : (1 : Int32).toInt = 1 := rfl
      have qc_33 : (100000 : Int32).toInt = 100000 := rfl
      refine loop_N (Inv := fun n H locs ls => ∃ (G_25 : GS) (x_29 : Int32) (x_30 : Int32), (n : Int) = 401 - x_29.toInt ∧ (1 ≤ x_29.toInt ∧ x_29.toInt ≤ 401) ∧ Rc (St_n_keeps_2) (1, 100000, G_15) (x_29, x_30, G_25) ∧ Wd D k A a G_25 H ∧ Bd G_25 ∧ Fr [104, 105, 76, 97, 98] [(66, 59), (66, 60), (66, 61), (66, 62), (66, 63)] G G_25 ∧ Fr [104, 105] [] G_15 G_25 ∧ va_S A s.heap H locs ∧ lv_has ls 7 [(5, .int x_29), (4, .int x_30), (0, .ref (a 66))]) (fun n_28 H locs ls ih_27 hI => ?_) (401 - 1 : Int).toNat ⟨G_15, 1, 100000, (Int.toNat_of_nonneg ((by first | (clear hP9 f_6 hp_4 c_7 g_9 d_1 d_2 d_3 d_4 d_5 d_6 hn_23 f_22 c_24; omega) | omega))), ⟨(by first | (clear hP9 f_6 hp_4 c_7 g_9 d_1 d_2 d_3 d_4 d_5 d_6 hn_23 f_22 c_24; omega) | omega), (by first | (clear hP9 f_6 hp_4 c_7 g_9 d_1 d_2 d_3 d_4 d_5 d_6 hn_23 f_22 c_24; omega) | omega)⟩, Rc.rf, hW, hB_G_15, hF, Fr.rf, hS, lv_sub hl [0, 1, 2] rfl⟩
      obtain ⟨G_25, x_29, x_30, hn_35, f_34, hX_31, hW, hB_G_25, hF, hq_26, hS, hl⟩ := hI
      refine lv_iload hx hb dX12_keeps_110 (lv_at hl 0 rfl) ?_
      refine lv_sipush (v := 400) hx hb dX12_keeps_112 (by decide) ?_
      refine lv_icmp_gt (tgt := 251) hx hb dX12_keeps_115 rfl (fun c_36 => ?_) (fun c_36 => ?_)
      · have c_36 : 400 < x_29.toInt := xI_lt rfl rfl c_36
        refine lv_iload hx hb dX12_keeps_251 (lv_at hl 1 rfl) ?_
        refine lv_ldcw (v := 100000) hx hb hown (hg (Cond.constant RX12 502 100000) m1858) dX12_keeps_253 ?_
        refine lv_icmp_ne (tgt := 263) hx hb dX12_keeps_256 rfl (fun c_37 => ?_) (fun c_37 => ?_)
        · have c_37 : x_30.toInt ≠ 100000 := xI_ne rfl rfl c_37
          refine lv_iload hx hb dX12_keeps_263 (lv_at hl 1 rfl) ?_
          exact W.iret (v := x_30) hx hb hr (fun t ht _ => ⟨⟨x_30, G_25, rfl, (Q_keeps_mk ⟨hB_G_25, hF, ⟨r_1, G_2, hX_5, (Or.inr ⟨c_7, ⟨G_11, hX_14, ⟨x_19, G_15, hX_20, f_22, hB_G_15, hq_16, ⟨c_24, ⟨x_29, x_30, G_25, hX_31, f_34, hB_G_25, hq_26, ⟨c_36, (Or.inr ⟨c_37, ⟨rfl, rfl⟩⟩)⟩⟩⟩⟩⟩⟩)⟩⟩), wd_t ht hW⟩, hS.F ht⟩) hS.2.2 dX12_keeps_265
        · have c_37 : x_30.toInt = 100000 := xI_eq rfl rfl c_37
          refine ic_m1 hx hb dX12_keeps_259 ?_
          refine lv_goto (tgt := 265) hx hb dX12_keeps_260 rfl ?_
          exact W.iret (v := (-1)) hx hb hr (fun t ht _ => ⟨⟨(-1), G_25, rfl, (Q_keeps_mk ⟨hB_G_25, hF, ⟨r_1, G_2, hX_5, (Or.inr ⟨c_7, ⟨G_11, hX_14, ⟨x_19, G_15, hX_20, f_22, hB_G_15, hq_16, ⟨c_24, ⟨x_29, x_30, G_25, hX_31, f_34, hB_G_25, hq_26, ⟨c_36, (Or.inl ⟨c_37, ⟨rfl, rfl⟩⟩)⟩⟩⟩⟩⟩⟩)⟩⟩), wd_t ht hW⟩, hS.F ht⟩) hS.2.2 dX12_keeps_265
      · have c_36 : x_29.toInt ≤ 400 := xI_nlt rfl rfl c_36
        refine ic_0 hx hb dX12_keeps_118 ?_
        refine lv_istore (lv' := [(6, .int 0), (5, .int x_29), (4, .int x_30), (0, .ref (a 66))]) hx hb dX12_keeps_119 hl (lt_b rfl) rfl (fun ls hl => ?_)
        have qc_44 : (0 : Int32).toInt = 0 := rfl
        refine loop_N (Inv := fun n H locs ls => ∃ (G_38 : GS) (x_42 : Int32), (n : Int) = 1024 - x_42.toInt ∧ (0 ≤ x_42.toInt ∧ x_42.toInt ≤ 1024) ∧ Rc (St_n_keeps_3) (0, G_25) (x_42, G_38) ∧ Wd D k A a G_38 H ∧ Bd G_38 ∧ Fr [104, 105, 76, 97, 98] [(66, 59), (66, 60), (66, 61), (66, 62), (66, 63)] G G_38 ∧ Fr [105] [] G_25 G_38 ∧ va_S A s.heap H locs ∧ lv_has ls 7 [(6, .int x_42), (5, .int x_29), (4, .int x_30), (0, .ref (a 66))]) (fun n_41 H locs ls ih_40 hI => ?_) (1024 - 0 : Int).toNat ⟨G_25, 0, (Int.toNat_of_nonneg ((by first | (clear hP9 f_6 hp_4 c_7 g_9 d_1 d_2 d_3 d_4 d_5 d_6 hn_23 f_22 c_24 hn_35 f_34 c_36; omega) | omega))), ⟨(by first | (clear hP9 f_6 hp_4 c_7 g_9 d_1 d_2 d_3 d_4 d_5 d_6 hn_23 f_22 c_24 hn_35 f_34 c_36; omega) | omega), (by first | (clear hP9 f_6 hp_4 c_7 g_9 d_1 d_2 d_3 d_4 d_5 d_6 hn_23 f_22 c_24 hn_35 f_34 c_36; omega) | omega)⟩, Rc.rf, hW, hB_G_25, hF, Fr.rf, hS, lv_sub hl [0, 1, 2, 3] rfl⟩
        obtain ⟨G_38, x_42, hn_46, f_45, hX_43, hW, hB_G_38, hF, hq_39, hS, hl⟩ := hI
        refine lv_iload hx hb dX12_keeps_121 (lv_at hl 0 rfl) ?_
        refine lv_sipush (v := 1024) hx hb dX12_keeps_123 (by decide) ?_
        refine lv_icmp_ge (tgt := 145) hx hb dX12_keeps_126 rfl (fun c_47 => ?_) (fun c_47 => ?_)
        · have c_47 : 1024 ≤ x_42.toInt := xI_le rfl rfl c_47
          refine ic_0 hx hb dX12_keeps_145 ?_
          refine lv_istore (lv' := [(6, .int 0), (5, .int x_29), (4, .int x_30), (0, .ref (a 66))]) hx hb dX12_keeps_146 hl (lt_b rfl) rfl (fun ls hl => ?_)
          have qc_55 : (0 : Int32).toInt = 0 := rfl
          refine loop_N (Inv := fun n H locs ls => ∃ (G_48 : GS) (x_52 : Int32) (x_53 : Int32), (n : Int) = 800 - x_52.toInt ∧ (0 ≤ x_52.toInt ∧ x_52.toInt ≤ 800) ∧ Rc (St_n_keeps_4 x_29) (0, x_30, G_38) (x_52, x_53, G_48) ∧ Wd D k A a G_48 H ∧ Bd G_48 ∧ Fr [104, 105, 76, 97, 98] [(66, 59), (66, 60), (66, 61), (66, 62), (66, 63)] G G_48 ∧ Fr [105] [] G_38 G_48 ∧ va_S A s.heap H locs ∧ lv_has ls 7 [(6, .int x_52), (5, .int x_29), (4, .int x_53), (0, .ref (a 66))]) (fun n_51 H locs ls ih_50 hI => ?_) (800 - 0 : Int).toNat ⟨G_38, 0, x_30, (Int.toNat_of_nonneg ((by first | (clear hP9 f_6 hp_4 c_7 g_9 d_1 d_2 d_3 d_4 d_5 d_6 hn_23 f_22 c_24 hn_35 f_34 c_36 hn_46 f_45 c_47; omega) | omega))), ⟨(by first | (clear hP9 f_6 hp_4 c_7 g_9 d_1 d_2 d_3 d_4 d_5 d_6 hn_23 f_22 c_24 hn_35 f_34 c_36 hn_46 f_45 c_47; omega) | omega), (by first | (clear hP9 f_6 hp_4 c_7 g_9 d_1 d_2 d_3 d_4 d_5 d_6 hn_23 f_22 c_24 hn_35 f_34 c_36 hn_46 f_45 c_47; omega) | omega)⟩, Rc.rf, hW, hB_G_38, hF, Fr.rf, hS, lv_sub hl [0, 1, 2, 3] rfl⟩
          obtain ⟨G_48, x_52, x_53, hn_57, f_56, hX_54, hW, hB_G_48, hF, hq_49, hS, hl⟩ := hI
          refine lv_iload hx hb dX12_keeps_148 (lv_at hl 0 rfl) ?_
          refine lv_sipush (v := 800) hx hb dX12_keeps_150 (by decide) ?_
          refine lv_icmp_ge (tgt := 214) hx hb dX12_keeps_153 rfl (fun c_58 => ?_) (fun c_58 => ?_)
          · have c_58 : 800 ≤ x_52.toInt := xI_le rfl rfl c_58
            refine ic_0 hx hb dX12_keeps_214 ?_
            refine lv_istore (lv' := [(6, .int 0), (5, .int x_29), (4, .int x_53), (0, .ref (a 66))]) hx hb dX12_keeps_215 hl (lt_b rfl) rfl (fun ls hl => ?_)
            have qc_65 : (0 : Int32).toInt = 0 := rfl
            refine loop_N (Inv := fun n H locs ls => ∃ (G_59 : GS) (x_63 : Int32), (n : Int) = 1024 - x_63.toInt ∧ (0 ≤ x_63.toInt ∧ x_63.toInt ≤ 1024) ∧ Rc (St_n_keeps_5) (0, G_48) (x_63, G_59) ∧ Wd D k A a G_59 H ∧ Bd G_59 ∧ Fr [104, 105, 76, 97, 98] [(66, 59), (66, 60), (66, 61), (66, 62), (66, 63)] G G_59 ∧ Fr [104] [] G_48 G_59 ∧ va_S A s.heap H locs ∧ lv_has ls 7 [(6, .int x_63), (5, .int x_29), (4, .int x_53), (0, .ref (a 66))]) (fun n_62 H locs ls ih_61 hI => ?_) (1024 - 0 : Int).toNat ⟨G_48, 0, (Int.toNat_of_nonneg ((by first | (clear hP9 f_6 hp_4 c_7 g_9 d_1 d_2 d_3 d_4 d_5 d_6 hn_23 f_22 c_24 hn_35 f_34 c_36 hn_46 f_45 c_47 hn_57 f_56 c_58; omega) | omega))), ⟨(by first | (clear hP9 f_6 hp_4 c_7 g_9 d_1 d_2 d_3 d_4 d_5 d_6 hn_23 f_22 c_24 hn_35 f_34 c_36 hn_46 f_45 c_47 hn_57 f_56 c_58; omega) | omega), (by first | (clear hP9 f_6 hp_4 c_7 g_9 d_1 d_2 d_3 d_4 d_5 d_6 hn_23 f_22 c_24 hn_35 f_34 c_36 hn_46 f_45 c_47 hn_57 f_56 c_58; omega) | omega)⟩, Rc.rf, hW, hB_G_48, hF, Fr.rf, hS, lv_sub hl [0, 1, 2, 3] rfl⟩
            obtain ⟨G_59, x_63, hn_67, f_66, hX_64, hW, hB_G_59, hF, hq_60, hS, hl⟩ := hI
            refine lv_iload hx hb dX12_keeps_217 (lv_at hl 0 rfl) ?_
            refine lv_sipush (v := 1024) hx hb dX12_keeps_219 (by decide) ?_
            refine lv_icmp_ge (tgt := 245) hx hb dX12_keeps_222 rfl (fun c_68 => ?_) (fun c_68 => ?_)
            · have c_68 : 1024 ≤ x_63.toInt := xI_le rfl rfl c_68
              obtain ⟨y_69, ey_69⟩ : ∃ q, q = x_29 + 1 := ⟨_, rfl⟩
              have ty_69 : y_69.toInt = x_29.toInt + 1 := xI_add rfl rfl ey_69 ((by first | (clear hP9 f_6 hp_4 c_7 g_9 d_1 d_2 d_3 d_4 d_5 d_6 hn_23 f_22 c_24 hn_35 hn_46 f_45 c_47 hn_57 f_56 c_58 hn_67 f_66 c_68; omega) | omega)) ((by first | (clear hP9 f_6 hp_4 c_7 g_9 d_1 d_2 d_3 d_4 d_5 d_6 hn_23 f_22 c_24 hn_35 hn_46 f_45 c_47 hn_57 f_56 c_58 hn_67 f_66 c_68; omega) | omega))
              refine lv_iinc (v := y_69) (lv' := [(5, .int y_69), (6, .int x_63), (4, .int x_53), (0, .ref (a 66))]) hx hb dX12_keeps_245 hl (k := 1) rfl (by rw [ey_69]; rfl) (lt_b rfl) rfl (fun ls hl => ?_)
              refine lv_goto (tgt := 110) hx hb dX12_keeps_248 rfl ?_
              exact ih_27 (401 - y_69.toInt : Int).toNat ((by first | (clear hP9 f_6 hp_4 c_7 g_9 d_1 d_2 d_3 d_4 d_5 d_6 hn_23 f_22 c_24 hn_46 f_45 c_47 hn_57 f_56 c_58 hn_67 f_66 c_68; omega) | omega)) _ _ _ ⟨G_59, y_69, x_53, (Int.toNat_of_nonneg ((by first | (clear hP9 f_6 hp_4 c_7 g_9 d_1 d_2 d_3 d_4 d_5 d_6 hn_23 f_22 c_24 hn_35 hn_46 f_45 c_47 hn_57 f_56 c_58 hn_67 f_66 c_68; omega) | omega))), ⟨(by first | (clear hP9 f_6 hp_4 c_7 g_9 d_1 d_2 d_3 d_4 d_5 d_6 hn_23 f_22 c_24 hn_35 hn_46 f_45 c_47 hn_57 f_56 c_58 hn_67 f_66 c_68; omega) | omega), (by first | (clear hP9 f_6 hp_4 c_7 g_9 d_1 d_2 d_3 d_4 d_5 d_6 hn_23 f_22 c_24 hn_35 hn_46 f_45 c_47 hn_57 f_56 c_58 hn_67 f_66 c_68; omega) | omega)⟩, (hX_31.st (St_n_keeps_2_mk ⟨x_29, x_30, G_25, y_69, x_53, G_59, rfl, rfl, f_34, hB_G_25, ⟨c_36, ⟨x_42, G_38, hX_43, f_45, hB_G_38, hq_39, ⟨c_47, ⟨x_52, x_53, G_48, hX_54, f_56, hB_G_48, hq_49, ⟨c_58, ⟨x_63, G_59, hX_64, f_66, hB_G_59, hq_60, ⟨c_68, ⟨y_69, ty_69, ⟨rfl, rfl, rfl⟩⟩⟩⟩⟩⟩⟩⟩⟩⟩)), hW, hB_G_59, hF, (Fr.call9 (rs := [104, 105]) (fs := []) (Fr.call9 (rs := [104, 105]) (fs := []) (Fr.call9 (rs := [104, 105]) (fs := []) (Fr.call9 (rs := [104, 105]) (fs := []) Fr.rf hq_26 rfl rfl) hq_39 rfl rfl) hq_49 rfl rfl) hq_60 rfl rfl), hS, lv_sub hl [0, 2, 3] rfl⟩
            · have c_68 : x_63.toInt < 1024 := xI_nle rfl rfl c_68
              refine lv_aload_n hx hb dX12_keeps_225 rfl (lv_at hl 3 rfl) ?_
              refine S_getR (n := 104) (C := RX12) (T := TX12) (N := 89) hx hb hg iX12 hown hK hW kd_66 rfl 70 (lt_b rfl) (hg (Cond.fieldLink RX12 133 "SlabWalkModel" "leapt" "[I") m1384) (fun _ h9 => h9) rfl dX12_keeps_226 ?_
              refine lv_iload hx hb dX12_keeps_229 (lv_at hl 0 rfl) ?_
              refine lv_aload_n hx hb dX12_keeps_231 rfl (lv_at hl 3 rfl) ?_
              refine S_getR (n := 105) (C := RX12) (T := TX12) (N := 89) hx hb hg iX12 hown hK hW kd_66 rfl 71 (lt_b rfl) (hg (Cond.fieldLink RX12 136 "SlabWalkModel" "leaptNext" "[I") m1385) (fun _ h9 => h9) rfl dX12_keeps_232 ?_
              refine lv_iload hx hb dX12_keeps_235 (lv_at hl 0 rfl) ?_
              refine S_iald hx hb hK hW kd_105 (vin ((by first | (clear hP9 f_6 hp_4 c_7 g_9 d_1 d_2 d_3 d_4 d_5 d_6 hn_23 f_22 c_24 hn_35 f_34 c_36 hn_46 f_45 c_47 hn_57 f_56 c_58 hn_67; omega) | omega)) ((by first | (clear hP9 f_6 hp_4 c_7 g_9 d_1 d_2 d_3 d_4 d_5 d_6 hn_23 f_22 c_24 hn_35 f_34 c_36 hn_46 f_45 c_47 hn_57 f_56 c_58 hn_67; omega) | omega))) dX12_keeps_237 (fun y_70 ey_70 => ?_)
              refine S_iast hx hb hK hW hS kd_104 (vin ((by first | (clear hP9 f_6 hp_4 c_7 g_9 d_1 d_2 d_3 d_4 d_5 d_6 hn_23 f_22 c_24 hn_35 f_34 c_36 hn_46 f_45 c_47 hn_57 f_56 c_58 hn_67; omega) | omega)) ((by first | (clear hP9 f_6 hp_4 c_7 g_9 d_1 d_2 d_3 d_4 d_5 d_6 hn_23 f_22 c_24 hn_35 f_34 c_36 hn_46 f_45 c_47 hn_57 f_56 c_58 hn_67; omega) | omega))) dX12_keeps_238 (fun G_71 H locs eG_71 hW hS => ?_)
              have hB_G_71 : Bd G_71 := hB_G_59.put (lo := (-2147483648)) (hi := 2147483647) eG_71 rfl rfl rfl (tI_rng _).1 (tI_rng _).2 (hB_G_59.2.put eG_71 rfl)
              have hF := hF.put eG_71 (Or.inl (by decide))
              obtain ⟨y_72, ey_72⟩ : ∃ q, q = x_63 + 1 := ⟨_, rfl⟩
              have ty_72 : y_72.toInt = x_63.toInt + 1 := xI_add rfl rfl ey_72 ((by first | (clear hP9 f_6 hp_4 c_7 g_9 d_1 d_2 d_3 d_4 d_5 d_6 hn_23 f_22 c_24 hn_35 f_34 c_36 hn_46 f_45 c_47 hn_57 f_56 c_58 hn_67; omega) | omega)) ((by first | (clear hP9 f_6 hp_4 c_7 g_9 d_1 d_2 d_3 d_4 d_5 d_6 hn_23 f_22 c_24 hn_35 f_34 c_36 hn_46 f_45 c_47 hn_57 f_56 c_58 hn_67; omega) | omega))
              refine lv_iinc (v := y_72) (lv' := [(6, .int y_72), (5, .int x_29), (4, .int x_53), (0, .ref (a 66))]) hx hb dX12_keeps_239 hl (k := 0) rfl (by rw [ey_72]; rfl) (lt_b rfl) rfl (fun ls hl => ?_)
              refine lv_goto (tgt := 217) hx hb dX12_keeps_242 rfl ?_
              exact ih_61 (1024 - y_72.toInt : Int).toNat ((by first | (clear hP9 f_6 hp_4 c_7 g_9 d_1 d_2 d_3 d_4 d_5 d_6 hn_23 f_22 c_24 hn_35 f_34 c_36 hn_46 f_45 c_47 hn_57 f_56 c_58; omega) | omega)) _ _ _ ⟨G_71, y_72, (Int.toNat_of_nonneg ((by first | (clear hP9 f_6 hp_4 c_7 g_9 d_1 d_2 d_3 d_4 d_5 d_6 hn_23 f_22 c_24 hn_35 f_34 c_36 hn_46 f_45 c_47 hn_57 f_56 c_58 hn_67; omega) | omega))), ⟨(by first | (clear hP9 f_6 hp_4 c_7 g_9 d_1 d_2 d_3 d_4 d_5 d_6 hn_23 f_22 c_24 hn_35 f_34 c_36 hn_46 f_45 c_47 hn_57 f_56 c_58 hn_67; omega) | omega), (by first | (clear hP9 f_6 hp_4 c_7 g_9 d_1 d_2 d_3 d_4 d_5 d_6 hn_23 f_22 c_24 hn_35 f_34 c_36 hn_46 f_45 c_47 hn_57 f_56 c_58 hn_67; omega) | omega)⟩, (hX_64.st (St_n_keeps_5_mk ⟨x_63, G_59, y_72, G_71, rfl, rfl, f_66, hB_G_59, ⟨c_68, ⟨y_70, ey_70, ⟨y_72, ty_72, ⟨rfl, (Fr.put (rs := [104]) (fs := []) Fr.rf eG_71 (Or.inl (by decide))), rw_ast eG_71⟩⟩⟩⟩⟩)), hW, hB_G_71, hF, (Fr.put (rs := [104]) (fs := []) (Fr.call9 (rs := [104]) (fs := []) Fr.rf hq_60 rfl rfl) eG_71 (Or.inl (by decide))), hS, lv_sub hl [0, 1, 2, 3] rfl⟩
          · have c_58 : x_52.toInt < 800 := xI_nle rfl rfl c_58
            refine lv_aload_n hx hb dX12_keeps_156 rfl (lv_at hl 3 rfl) ?_
            refine S_getR (n := 104) (C := RX12) (T := TX12) (N := 89) hx hb hg iX12 hown hK hW kd_66 rfl 70 (lt_b rfl) (hg (Cond.fieldLink RX12 133 "SlabWalkModel" "leapt" "[I") m1384) (fun _ h9 => h9) rfl dX12_keeps_157 ?_
            refine lv_iload hx hb dX12_keeps_160 (lv_at hl 0 rfl) ?_
            refine S_iald hx hb hK hW kd_104 (vin ((by first | (clear hP9 f_6 hp_4 c_7 g_9 d_1 d_2 d_3 d_4 d_5 d_6 hn_23 f_22 c_24 hn_35 f_34 c_36 hn_46 f_45 c_47 hn_57; omega) | omega)) ((by first | (clear hP9 f_6 hp_4 c_7 g_9 d_1 d_2 d_3 d_4 d_5 d_6 hn_23 f_22 c_24 hn_35 f_34 c_36 hn_46 f_45 c_47 hn_57; omega) | omega))) dX12_keeps_162 (fun y_73 ey_73 => ?_)
            refine lv_ldcw (v := 100000) hx hb hown (hg (Cond.constant RX12 502 100000) m1858) dX12_keeps_163 ?_
            refine lv_icmp_ne (tgt := 172) hx hb dX12_keeps_166 rfl (fun c_74 => ?_) (fun c_74 => ?_)
            · have c_74 : y_73.toInt ≠ 100000 := xI_ne rfl rfl c_74
              refine lv_aload_n hx hb dX12_keeps_172 rfl (lv_at hl 3 rfl) ?_
              refine lv_iload hx hb dX12_keeps_173 (lv_at hl 0 rfl) ?_
              refine ic_2 hx hb dX12_keeps_175 ?_
              refine lv_idiv hx hb dX12_keeps_176 (by decide) ?_
              refine lv_topi (fun y_75 ey_75 => ?_)
              have ty_75 : y_75.toInt = x_52.toInt / 2 := xI_div rfl ey_75 (by decide) ((by first | (clear hP9 f_6 hp_4 c_7 g_9 d_1 d_2 d_3 d_4 d_5 d_6 hn_23 f_22 c_24 hn_35 f_34 c_36 hn_46 f_45 c_47 hn_57 c_74; omega) | omega))
              have b_76 : 0 ≤ (G_11.1 66 59).toInt ∧ (G_11.1 66 59).toInt ≤ 400 := bd_66_59 hB_G_11
              have g_77 : (G_48.1 66 59).toInt = (G_11.1 66 59).toInt := (congrArg Int32.toInt (show G_48.1 66 59 = (G_11.1 66 59) from ((hq_49.i9 66 59 rfl rfl).trans ((hq_39.i9 66 59 rfl rfl).trans ((hq_26.i9 66 59 rfl rfl).trans (hq_16.i9 66 59 rfl rfl))))))
              have b_78 : 0 ≤ (G_11.1 66 60).toInt ∧ (G_11.1 66 60).toInt ≤ 12 := bd_66_60 hB_G_11
              have g_79 : (G_48.1 66 60).toInt = (G_11.1 66 60).toInt := (congrArg Int32.toInt (show G_48.1 66 60 = (G_11.1 66 60) from ((hq_49.i9 66 60 rfl rfl).trans ((hq_39.i9 66 60 rfl rfl).trans ((hq_26.i9 66 60 rfl rfl).trans (hq_16.i9 66 60 rfl rfl))))))
              have b_80 : 0 ≤ (G_11.1 66 62).toInt ∧ (G_11.1 66 62).toInt ≤ 60 := bd_66_62 hB_G_11
              have g_81 : (G_48.1 66 62).toInt = (G_11.1 66 62).toInt := (congrArg Int32.toInt (show G_48.1 66 62 = (G_11.1 66 62) from ((hq_49.i9 66 62 rfl rfl).trans ((hq_39.i9 66 62 rfl rfl).trans ((hq_26.i9 66 62 rfl rfl).trans (hq_16.i9 66 62 rfl rfl))))))
              refine S_calli (va_runV (As := [.int y_75]) (rest := []) ⟨hx, hb, hml, hown, hts⟩ (n_isEnd l D k A a z G_48 y_75 ⟨(by first | (clear hP9 f_6 hp_4 c_7 g_9 d_1 d_2 d_3 d_4 d_5 d_6 hn_23 f_22 c_24 hn_35 f_34 c_36 hn_46 f_45 c_47 hn_57 c_74 b_76 g_77 b_78 g_79 b_80 g_81; omega) | omega), (by first | (clear hP9 f_6 hp_4 c_7 g_9 d_1 d_2 d_3 d_4 d_5 d_6 hn_23 f_22 c_24 hn_35 f_34 c_36 hn_46 f_45 c_47 hn_57 c_74 b_76 g_77 b_78 g_79 b_80 g_81; omega) | omega)⟩) (cwV 1 hts (gd_V hgd m1854 m1856 m95 m131 m1857) rfl rfl rfl hd_X12_isEnd ⟨Nat.le_of_ble_eq_true rfl, Nat.le_of_ble_eq_true rfl⟩) (pre_W hW hB_G_48 hK hZ hS kd_66 rfl) rfl rfl hl.1 rfl (lv_room (Nat.le_of_ble_eq_true rfl)) dX12_keeps_177 ⟨Nat.le_of_ble_eq_true rfl, Nat.le_of_ble_eq_true rfl⟩) hS (fun r_82 G_83 H locs hpo hW hS => ?_)
              have hX_86 : Q_isEnd y_75 G_48 r_82 G_83 := hpo
              obtain ⟨hB_G_83, hq_84, f_87, ⟨d_7, d_8⟩, -⟩ := hpo
              have hF := hF.call9 hq_84 rfl rfl
              refine lv_if_eq (tgt := 200) hx hb dX12_keeps_180 rfl (fun c_88 => ?_) (fun c_88 => ?_)
              · have c_88 : r_82.toInt = 0 := xI_eq rfl rfl c_88
                have d_9 := d_7 c_88
                refine lv_aload_n hx hb dX12_keeps_200 rfl (lv_at hl 3 rfl) ?_
                refine lv_iload hx hb dX12_keeps_201 (lv_at hl 0 rfl) ?_
                refine lv_iload hx hb dX12_keeps_203 (lv_at hl 1 rfl) ?_
                refine S_callv (va_runV (As := [.int x_52, .int x_29]) (rest := []) ⟨hx, hb, hml, hown, hts⟩ (n_keepOn l D k A a z G_83 x_52 x_29 ⟨(by first | (clear hP9 f_6 c_7 g_9 hn_23 f_22 c_24 hn_35 f_34 c_36 hn_46 f_45 c_47 hn_57 c_74 d_7; omega) | omega), (by first | (clear hP9 f_6 c_7 g_9 hn_23 f_22 c_24 hn_35 f_34 c_36 hn_46 f_45 c_47 hn_57 c_74 d_7; omega) | omega)⟩ ⟨(by first | (clear hP9 f_6 hp_4 c_7 g_9 d_1 d_2 d_3 d_4 d_5 d_6 hn_23 f_22 c_24 hn_35 hn_46 f_45 c_47 hn_57 f_56 c_58 c_74 ty_75 b_76 g_77 b_78 g_79 b_80 g_81 f_87 d_7 d_8 c_88 d_9; omega) | omega), (by first | (clear hP9 f_6 hp_4 c_7 g_9 d_1 d_2 d_3 d_4 d_5 d_6 hn_23 f_22 c_24 hn_35 hn_46 f_45 c_47 hn_57 f_56 c_58 c_74 ty_75 b_76 g_77 b_78 g_79 b_80 g_81 f_87 d_7 d_8 c_88 d_9; omega) | omega)⟩) (cwV 2 hts (gd_V hgd m1935 m1937 m102 m131 m1938) rfl rfl rfl hd_X12_keepOn ⟨Nat.le_of_ble_eq_true rfl, Nat.le_of_ble_eq_true rfl⟩) (pre_W hW hB_G_83 hK hZ hS kd_66 rfl) rfl rfl hl.1 rfl (lv_room (Nat.le_of_ble_eq_true rfl)) dX12_keeps_205 ⟨Nat.le_of_ble_eq_true rfl, Nat.le_of_ble_eq_true rfl⟩) hS (fun G_90 H locs hpo hW hS => ?_)
                have hX_93 : Q_keepOn x_52 x_29 G_83 G_90 := hpo
                obtain ⟨hB_G_90, hq_91, -⟩ := hpo
                have hF := hF.call9 hq_91 rfl rfl
                obtain ⟨y_94, ey_94⟩ : ∃ q, q = x_52 + 1 := ⟨_, rfl⟩
                have ty_94 : y_94.toInt = x_52.toInt + 1 := xI_add rfl rfl ey_94 ((by first | (clear hP9 f_6 c_7 g_9 hn_23 f_22 c_24 hn_35 f_34 c_36 hn_46 f_45 c_47 hn_57 c_74 d_7; omega) | omega)) ((by first | (clear hP9 f_6 c_7 g_9 hn_23 f_22 c_24 hn_35 f_34 c_36 hn_46 f_45 c_47 hn_57 c_74 d_7; omega) | omega))
                refine lv_iinc (v := y_94) (lv' := [(6, .int y_94), (5, .int x_29), (4, .int x_53), (0, .ref (a 66))]) hx hb dX12_keeps_208 hl (k := 0) rfl (by rw [ey_94]; rfl) (lt_b rfl) rfl (fun ls hl => ?_)
                refine lv_goto (tgt := 148) hx hb dX12_keeps_211 rfl ?_
                exact ih_50 (800 - y_94.toInt : Int).toNat ((by first | (clear hP9 f_6 c_7 g_9 hn_23 f_22 c_24 hn_35 f_34 c_36 hn_46 f_45 c_47 c_74 d_7; omega) | omega)) _ _ _ ⟨G_90, y_94, x_53, (Int.toNat_of_nonneg ((by first | (clear hP9 f_6 c_7 g_9 hn_23 f_22 c_24 hn_35 f_34 c_36 hn_46 f_45 c_47 hn_57 c_74 d_7; omega) | omega))), ⟨(by first | (clear hP9 f_6 c_7 g_9 hn_23 f_22 c_24 hn_35 f_34 c_36 hn_46 f_45 c_47 hn_57 c_74 d_7; omega) | omega), (by first | (clear hP9 f_6 c_7 g_9 hn_23 f_22 c_24 hn_35 f_34 c_36 hn_46 f_45 c_47 hn_57 c_74 d_7; omega) | omega)⟩, (hX_54.st (St_n_keeps_4_mk ⟨x_52, x_53, G_48, y_94, x_53, G_90, rfl, rfl, f_56, hB_G_48, ⟨c_58, ⟨y_73, ey_73, (Or.inr ⟨c_74, ⟨y_75, ty_75, ⟨r_82, G_83, hX_86, (Or.inl ⟨c_88, ⟨G_90, hX_93, ⟨y_94, ty_94, ⟨rfl, rfl, rfl⟩⟩⟩⟩)⟩⟩⟩)⟩⟩⟩)), hW, hB_G_90, hF, (Fr.call9 (rs := [105]) (fs := []) (Fr.call9 (rs := [105]) (fs := []) (Fr.call9 (rs := [105]) (fs := []) Fr.rf hq_49 rfl rfl) hq_84 rfl rfl) hq_91 rfl rfl), hS, lv_sub hl [0, 1, 2, 3] rfl⟩
              · have c_88 : r_82.toInt ≠ 0 := xI_ne rfl rfl c_88
                refine lv_iload hx hb dX12_keeps_183 (lv_at hl 2 rfl) ?_
                refine lv_aload_n hx hb dX12_keeps_185 rfl (lv_at hl 3 rfl) ?_
                refine S_getR (n := 104) (C := RX12) (T := TX12) (N := 89) hx hb hg iX12 hown hK hW kd_66 rfl 70 (lt_b rfl) (hg (Cond.fieldLink RX12 133 "SlabWalkModel" "leapt" "[I") m1384) (fun _ h9 => h9) rfl dX12_keeps_186 ?_
                refine lv_iload hx hb dX12_keeps_189 (lv_at hl 0 rfl) ?_
                refine S_iald hx hb hK hW kd_104 (vin ((by first | (clear hP9 f_6 c_7 g_9 hn_23 f_22 c_24 hn_35 f_34 c_36 hn_46 f_45 c_47 hn_57 c_74 d_7; omega) | omega)) ((by first | (clear hP9 f_6 c_7 g_9 hn_23 f_22 c_24 hn_35 f_34 c_36 hn_46 f_45 c_47 hn_57 c_74 d_7; omega) | omega))) dX12_keeps_191 (fun y_95 ey_95 => ?_)
                refine S_calli (va_runS (As := [.int x_53, .int y_95]) (rest := []) ⟨hx, hb, hml, hown, hts⟩ (n_lesser l D k A a z G_83 x_53 y_95 ) (va_cwS 2 hts (gd_S hgd m1863 m1864 m131 m1865) rfl rfl rfl hd_X12_lesser.2 ⟨Nat.le_of_ble_eq_true rfl, Nat.le_of_ble_eq_true rfl⟩) (pre_S hW hB_G_83 hK hZ hS) rfl rfl hl.1 rfl (lv_room (Nat.le_of_ble_eq_true rfl)) dX12_keeps_192 ⟨Nat.le_of_ble_eq_true rfl, Nat.le_of_ble_eq_true rfl⟩) hS (fun r_96 G_97 H locs hpo hW hS => ?_)
                have hX_100 : Q_lesser x_53 y_95 G_83 r_96 G_97 := hpo
                obtain ⟨hB_G_97, hq_98, hp_99, -⟩ := hpo
                have hF := hF.call9 hq_98 rfl rfl
                refine lv_istore (lv' := [(4, .int r_96), (6, .int x_52), (5, .int x_29), (0, .ref (a 66))]) hx hb dX12_keeps_195 hl (lt_b rfl) rfl (fun ls hl => ?_)
                refine lv_goto (tgt := 208) hx hb dX12_keeps_197 rfl ?_
                obtain ⟨y_101, ey_101⟩ : ∃ q, q = x_52 + 1 := ⟨_, rfl⟩
                have ty_101 : y_101.toInt = x_52.toInt + 1 := xI_add rfl rfl ey_101 ((by first | (clear hP9 f_6 c_7 g_9 hn_23 f_22 c_24 hn_35 f_34 c_36 hn_46 f_45 c_47 hn_57 c_74 d_7 hp_99; omega) | omega)) ((by first | (clear hP9 f_6 c_7 g_9 hn_23 f_22 c_24 hn_35 f_34 c_36 hn_46 f_45 c_47 hn_57 c_74 d_7 hp_99; omega) | omega))
                refine lv_iinc (v := y_101) (lv' := [(6, .int y_101), (4, .int r_96), (5, .int x_29), (0, .ref (a 66))]) hx hb dX12_keeps_208 hl (k := 1) rfl (by rw [ey_101]; rfl) (lt_b rfl) rfl (fun ls hl => ?_)
                refine lv_goto (tgt := 148) hx hb dX12_keeps_211 rfl ?_
                exact ih_50 (800 - y_101.toInt : Int).toNat ((by first | (clear hP9 f_6 c_7 g_9 hn_23 f_22 c_24 hn_35 f_34 c_36 hn_46 f_45 c_47 c_74 d_7 hp_99; omega) | omega)) _ _ _ ⟨G_97, y_101, r_96, (Int.toNat_of_nonneg ((by first | (clear hP9 f_6 c_7 g_9 hn_23 f_22 c_24 hn_35 f_34 c_36 hn_46 f_45 c_47 hn_57 c_74 d_7 hp_99; omega) | omega))), ⟨(by first | (clear hP9 f_6 c_7 g_9 hn_23 f_22 c_24 hn_35 f_34 c_36 hn_46 f_45 c_47 hn_57 c_74 d_7 hp_99; omega) | omega), (by first | (clear hP9 f_6 c_7 g_9 hn_23 f_22 c_24 hn_35 f_34 c_36 hn_46 f_45 c_47 hn_57 c_74 d_7 hp_99; omega) | omega)⟩, (hX_54.st (St_n_keeps_4_mk ⟨x_52, x_53, G_48, y_101, r_96, G_97, rfl, rfl, f_56, hB_G_48, ⟨c_58, ⟨y_73, ey_73, (Or.inr ⟨c_74, ⟨y_75, ty_75, ⟨r_82, G_83, hX_86, (Or.inr ⟨c_88, ⟨y_95, ey_95, ⟨r_96, G_97, hX_100, ⟨y_101, ty_101, ⟨rfl, rfl, rfl⟩⟩⟩⟩⟩)⟩⟩⟩)⟩⟩⟩)), hW, hB_G_97, hF, (Fr.call9 (rs := [105]) (fs := []) (Fr.call9 (rs := [105]) (fs := []) (Fr.call9 (rs := [105]) (fs := []) Fr.rf hq_49 rfl rfl) hq_84 rfl rfl) hq_98 rfl rfl), hS, lv_sub hl [0, 2, 1, 3] rfl⟩
            · have c_74 : y_73.toInt = 100000 := xI_eq rfl rfl c_74
              refine lv_goto (tgt := 208) hx hb dX12_keeps_169 rfl ?_
              obtain ⟨y_102, ey_102⟩ : ∃ q, q = x_52 + 1 := ⟨_, rfl⟩
              have ty_102 : y_102.toInt = x_52.toInt + 1 := xI_add rfl rfl ey_102 ((by first | (clear hP9 f_6 hp_4 c_7 g_9 d_1 d_2 d_3 d_4 d_5 d_6 hn_23 f_22 c_24 hn_35 f_34 c_36 hn_46 f_45 c_47 hn_57 c_74; omega) | omega)) ((by first | (clear hP9 f_6 hp_4 c_7 g_9 d_1 d_2 d_3 d_4 d_5 d_6 hn_23 f_22 c_24 hn_35 f_34 c_36 hn_46 f_45 c_47 hn_57 c_74; omega) | omega))
              refine lv_iinc (v := y_102) (lv' := [(6, .int y_102), (5, .int x_29), (4, .int x_53), (0, .ref (a 66))]) hx hb dX12_keeps_208 hl (k := 0) rfl (by rw [ey_102]; rfl) (lt_b rfl) rfl (fun ls hl => ?_)
              refine lv_goto (tgt := 148) hx hb dX12_keeps_211 rfl ?_
              exact ih_50 (800 - y_102.toInt : Int).toNat ((by first | (clear hP9 f_6 hp_4 c_7 g_9 d_1 d_2 d_3 d_4 d_5 d_6 hn_23 f_22 c_24 hn_35 f_34 c_36 hn_46 f_45 c_47 c_74; omega) | omega)) _ _ _ ⟨G_48, y_102, x_53, (Int.toNat_of_nonneg ((by first | (clear hP9 f_6 hp_4 c_7 g_9 d_1 d_2 d_3 d_4 d_5 d_6 hn_23 f_22 c_24 hn_35 f_34 c_36 hn_46 f_45 c_47 hn_57 c_74; omega) | omega))), ⟨(by first | (clear hP9 f_6 hp_4 c_7 g_9 d_1 d_2 d_3 d_4 d_5 d_6 hn_23 f_22 c_24 hn_35 f_34 c_36 hn_46 f_45 c_47 hn_57 c_74; omega) | omega), (by first | (clear hP9 f_6 hp_4 c_7 g_9 d_1 d_2 d_3 d_4 d_5 d_6 hn_23 f_22 c_24 hn_35 f_34 c_36 hn_46 f_45 c_47 hn_57 c_74; omega) | omega)⟩, (hX_54.st (St_n_keeps_4_mk ⟨x_52, x_53, G_48, y_102, x_53, G_48, rfl, rfl, f_56, hB_G_48, ⟨c_58, ⟨y_73, ey_73, (Or.inl ⟨c_74, ⟨y_102, ty_102, ⟨rfl, rfl, rfl⟩⟩⟩)⟩⟩⟩)), hW, hB_G_48, hF, (Fr.call9 (rs := [105]) (fs := []) Fr.rf hq_49 rfl rfl), hS, lv_sub hl [0, 1, 2, 3] rfl⟩
        · have c_47 : x_42.toInt < 1024 := xI_nle rfl rfl c_47
          refine lv_aload_n hx hb dX12_keeps_129 rfl (lv_at hl 3 rfl) ?_
          refine S_getR (n := 105) (C := RX12) (T := TX12) (N := 89) hx hb hg iX12 hown hK hW kd_66 rfl 71 (lt_b rfl) (hg (Cond.fieldLink RX12 136 "SlabWalkModel" "leaptNext" "[I") m1385) (fun _ h9 => h9) rfl dX12_keeps_130 ?_
          refine lv_iload hx hb dX12_keeps_133 (lv_at hl 0 rfl) ?_
          refine lv_ldcw (v := 100000) hx hb hown (hg (Cond.constant RX12 502 100000) m1858) dX12_keeps_135 ?_
          refine S_iast hx hb hK hW hS kd_105 (vin ((by first | (clear hP9 f_6 hp_4 c_7 g_9 d_1 d_2 d_3 d_4 d_5 d_6 hn_23 f_22 c_24 hn_35 f_34 c_36 hn_46; omega) | omega)) ((by first | (clear hP9 f_6 hp_4 c_7 g_9 d_1 d_2 d_3 d_4 d_5 d_6 hn_23 f_22 c_24 hn_35 f_34 c_36 hn_46; omega) | omega))) dX12_keeps_138 (fun G_103 H locs eG_103 hW hS => ?_)
          have hB_G_103 : Bd G_103 := hB_G_38.put (lo := (-2147483648)) (hi := 2147483647) eG_103 rfl rfl rfl (tI_rng _).1 (tI_rng _).2 (hB_G_38.2.put eG_103 rfl)
          have hF := hF.put eG_103 (Or.inl (by decide))
          obtain ⟨y_104, ey_104⟩ : ∃ q, q = x_42 + 1 := ⟨_, rfl⟩
          have ty_104 : y_104.toInt = x_42.toInt + 1 := xI_add rfl rfl ey_104 ((by first | (clear hP9 f_6 hp_4 c_7 g_9 d_1 d_2 d_3 d_4 d_5 d_6 hn_23 f_22 c_24 hn_35 f_34 c_36 hn_46; omega) | omega)) ((by first | (clear hP9 f_6 hp_4 c_7 g_9 d_1 d_2 d_3 d_4 d_5 d_6 hn_23 f_22 c_24 hn_35 f_34 c_36 hn_46; omega) | omega))
          refine lv_iinc (v := y_104) (lv' := [(6, .int y_104), (5, .int x_29), (4, .int x_30), (0, .ref (a 66))]) hx hb dX12_keeps_139 hl (k := 0) rfl (by rw [ey_104]; rfl) (lt_b rfl) rfl (fun ls hl => ?_)
          refine lv_goto (tgt := 121) hx hb dX12_keeps_142 rfl ?_
          exact ih_40 (1024 - y_104.toInt : Int).toNat ((by first | (clear hP9 f_6 hp_4 c_7 g_9 d_1 d_2 d_3 d_4 d_5 d_6 hn_23 f_22 c_24 hn_35 f_34 c_36; omega) | omega)) _ _ _ ⟨G_103, y_104, (Int.toNat_of_nonneg ((by first | (clear hP9 f_6 hp_4 c_7 g_9 d_1 d_2 d_3 d_4 d_5 d_6 hn_23 f_22 c_24 hn_35 f_34 c_36 hn_46; omega) | omega))), ⟨(by first | (clear hP9 f_6 hp_4 c_7 g_9 d_1 d_2 d_3 d_4 d_5 d_6 hn_23 f_22 c_24 hn_35 f_34 c_36 hn_46; omega) | omega), (by first | (clear hP9 f_6 hp_4 c_7 g_9 d_1 d_2 d_3 d_4 d_5 d_6 hn_23 f_22 c_24 hn_35 f_34 c_36 hn_46; omega) | omega)⟩, (hX_43.st (St_n_keeps_3_mk ⟨x_42, G_38, y_104, G_103, rfl, rfl, f_45, hB_G_38, ⟨c_47, ⟨y_104, ty_104, ⟨rfl, (Fr.put (rs := [105]) (fs := []) Fr.rf eG_103 (Or.inl (by decide))), rw_ast eG_103⟩⟩⟩⟩)), hW, hB_G_103, hF, (Fr.put (rs := [105]) (fs := []) (Fr.call9 (rs := [105]) (fs := []) Fr.rf hq_39 rfl rfl) eG_103 (Or.inl (by decide))), hS, lv_sub hl [0, 1, 2, 3] rfl⟩
    · have c_24 : x_19.toInt < 1024 := xI_nle rfl rfl c_24
      refine lv_aload_n hx hb dX12_keeps_30 rfl (lv_at hl 1 rfl) ?_
      refine S_getR (n := 104) (C := RX12) (T := TX12) (N := 89) hx hb hg iX12 hown hK hW kd_66 rfl 70 (lt_b rfl) (hg (Cond.fieldLink RX12 133 "SlabWalkModel" "leapt" "[I") m1384) (fun _ h9 => h9) rfl dX12_keeps_31 ?_
      refine lv_iload hx hb dX12_keeps_34 (lv_at hl 0 rfl) ?_
      refine lv_iload hx hb dX12_keeps_36 (lv_at hl 0 rfl) ?_
      refine ic_2 hx hb dX12_keeps_38 ?_
      refine lv_irem hx hb dX12_keeps_39 (by decide) ?_
      refine lv_topi (fun y_105 ey_105 => ?_)
      have ty_105 : y_105.toInt = x_19.toInt % 2 := xI_mod rfl ey_105 (by decide) ((by first | (clear hP9 f_6 hp_4 c_7 g_9 d_1 d_2 d_3 d_4 d_5 d_6 hn_23; omega) | omega))
      refine lv_if_ne (tgt := 92) hx hb dX12_keeps_40 rfl (fun c_106 => ?_) (fun c_106 => ?_)
      · have c_106 : y_105.toInt ≠ 0 := xI_ne rfl rfl c_106
        refine lv_ldcw (v := 100000) hx hb hown (hg (Cond.constant RX12 502 100000) m1858) dX12_keeps_92 ?_
        refine S_iast hx hb hK hW hS kd_104 (vin ((by first | (clear hP9 f_6 hp_4 c_7 g_9 d_1 d_2 d_3 d_4 d_5 d_6 hn_23; omega) | omega)) ((by first | (clear hP9 f_6 hp_4 c_7 g_9 d_1 d_2 d_3 d_4 d_5 d_6 hn_23; omega) | omega))) dX12_keeps_95 (fun G_107 H locs eG_107 hW hS => ?_)
        have hB_G_107 : Bd G_107 := hB_G_15.put (lo := (-2147483648)) (hi := 2147483647) eG_107 rfl rfl rfl (tI_rng _).1 (tI_rng _).2 (hB_G_15.2.put eG_107 rfl)
        have hF := hF.put eG_107 (Or.inl (by decide))
        obtain ⟨y_108, ey_108⟩ : ∃ q, q = x_19 + 1 := ⟨_, rfl⟩
        have ty_108 : y_108.toInt = x_19.toInt + 1 := xI_add rfl rfl ey_108 ((by first | (clear hP9 f_6 hp_4 c_7 g_9 d_1 d_2 d_3 d_4 d_5 d_6 hn_23; omega) | omega)) ((by first | (clear hP9 f_6 hp_4 c_7 g_9 d_1 d_2 d_3 d_4 d_5 d_6 hn_23; omega) | omega))
        refine lv_iinc (v := y_108) (lv' := [(4, .int y_108), (0, .ref (a 66))]) hx hb dX12_keeps_96 hl (k := 0) rfl (by rw [ey_108]; rfl) (lt_b rfl) rfl (fun ls hl => ?_)
        refine lv_goto (tgt := 22) hx hb dX12_keeps_99 rfl ?_
        exact ih_17 (1024 - y_108.toInt : Int).toNat ((by first | (clear hP9 f_6 hp_4 c_7 g_9 d_1 d_2 d_3 d_4 d_5 d_6; omega) | omega)) _ _ _ ⟨G_107, y_108, (Int.toNat_of_nonneg ((by first | (clear hP9 f_6 hp_4 c_7 g_9 d_1 d_2 d_3 d_4 d_5 d_6 hn_23; omega) | omega))), ⟨(by first | (clear hP9 f_6 hp_4 c_7 g_9 d_1 d_2 d_3 d_4 d_5 d_6 hn_23; omega) | omega), (by first | (clear hP9 f_6 hp_4 c_7 g_9 d_1 d_2 d_3 d_4 d_5 d_6 hn_23; omega) | omega)⟩, (hX_20.st (St_n_keeps_1_mk ⟨x_19, G_15, y_108, G_107, rfl, rfl, f_22, hB_G_15, ⟨c_24, ⟨y_105, ty_105, (Or.inr ⟨c_106, ⟨y_108, ty_108, ⟨rfl, (Fr.put (rs := [104]) (fs := []) Fr.rf eG_107 (Or.inl (by decide))), rw_ast eG_107⟩⟩⟩)⟩⟩⟩)), hW, hB_G_107, hF, (Fr.put (rs := [104]) (fs := []) (Fr.call9 (rs := [104]) (fs := []) Fr.rf hq_16 rfl rfl) eG_107 (Or.inl (by decide))), hS, lv_sub hl [0, 1] rfl⟩
      · have c_106 : y_105.toInt = 0 := xI_eq rfl rfl c_106
        refine lv_iload hx hb dX12_keeps_43 (lv_at hl 0 rfl) ?_
        refine ic_2 hx hb dX12_keeps_45 ?_
        refine lv_idiv hx hb dX12_keeps_46 (by decide) ?_
        refine lv_topi (fun y_109 ey_109 => ?_)
        have ty_109 : y_109.toInt = x_19.toInt / 2 := xI_div rfl ey_109 (by decide) ((by first | (clear hP9 f_6 hp_4 c_7 g_9 d_1 d_2 d_3 d_4 d_5 d_6 hn_23; omega) | omega))
        refine lv_aload_n hx hb dX12_keeps_47 rfl (lv_at hl 1 rfl) ?_
        have b_110 : 0 ≤ (G_11.1 66 62).toInt ∧ (G_11.1 66 62).toInt ≤ 60 := bd_66_62 hB_G_11
        refine S_getI (v := (G_11.1 66 62)) (C := RX12) (T := TX12) (N := 89) hx hb hg iX12 hown hK hW kd_66 rfl 62 (lt_b rfl) (hg (Cond.fieldLink RX12 478 "SlabWalkModel" "most" "I") m1376) (fun _ h9 => h9) rfl (hq_16.i9 66 62 rfl rfl) dX12_keeps_48 ?_
        refine lv_icmp_ge (tgt := 92) hx hb dX12_keeps_51 rfl (fun c_111 => ?_) (fun c_111 => ?_)
        · have c_111 : (G_11.1 66 62).toInt ≤ y_109.toInt := xI_le rfl rfl c_111
          refine lv_ldcw (v := 100000) hx hb hown (hg (Cond.constant RX12 502 100000) m1858) dX12_keeps_92 ?_
          refine S_iast hx hb hK hW hS kd_104 (vin ((by first | (clear hP9 f_6 c_7 g_9 hn_23; omega) | omega)) ((by first | (clear hP9 f_6 c_7 g_9 hn_23; omega) | omega))) dX12_keeps_95 (fun G_112 H locs eG_112 hW hS => ?_)
          have hB_G_112 : Bd G_112 := hB_G_15.put (lo := (-2147483648)) (hi := 2147483647) eG_112 rfl rfl rfl (tI_rng _).1 (tI_rng _).2 (hB_G_15.2.put eG_112 rfl)
          have hF := hF.put eG_112 (Or.inl (by decide))
          obtain ⟨y_113, ey_113⟩ : ∃ q, q = x_19 + 1 := ⟨_, rfl⟩
          have ty_113 : y_113.toInt = x_19.toInt + 1 := xI_add rfl rfl ey_113 ((by first | (clear hP9 f_6 c_7 g_9 hn_23; omega) | omega)) ((by first | (clear hP9 f_6 c_7 g_9 hn_23; omega) | omega))
          refine lv_iinc (v := y_113) (lv' := [(4, .int y_113), (0, .ref (a 66))]) hx hb dX12_keeps_96 hl (k := 0) rfl (by rw [ey_113]; rfl) (lt_b rfl) rfl (fun ls hl => ?_)
          refine lv_goto (tgt := 22) hx hb dX12_keeps_99 rfl ?_
          exact ih_17 (1024 - y_113.toInt : Int).toNat ((by first | (clear hP9 f_6 c_7 g_9; omega) | omega)) _ _ _ ⟨G_112, y_113, (Int.toNat_of_nonneg ((by first | (clear hP9 f_6 c_7 g_9 hn_23; omega) | omega))), ⟨(by first | (clear hP9 f_6 c_7 g_9 hn_23; omega) | omega), (by first | (clear hP9 f_6 c_7 g_9 hn_23; omega) | omega)⟩, (hX_20.st (St_n_keeps_1_mk ⟨x_19, G_15, y_113, G_112, rfl, rfl, f_22, hB_G_15, ⟨c_24, ⟨y_105, ty_105, (Or.inl ⟨c_106, ⟨y_109, ty_109, (Or.inl ⟨c_111, ⟨y_113, ty_113, ⟨rfl, (Fr.put (rs := [104]) (fs := []) Fr.rf eG_112 (Or.inl (by decide))), rw_ast eG_112⟩⟩⟩)⟩⟩)⟩⟩⟩)), hW, hB_G_112, hF, (Fr.put (rs := [104]) (fs := []) (Fr.call9 (rs := [104]) (fs := []) Fr.rf hq_16 rfl rfl) eG_112 (Or.inl (by decide))), hS, lv_sub hl [0, 1] rfl⟩
        · have c_111 : y_109.toInt < (G_11.1 66 62).toInt := xI_nle rfl rfl c_111
          refine lv_iload hx hb dX12_keeps_54 (lv_at hl 0 rfl) ?_
          refine ic_2 hx hb dX12_keeps_56 ?_
          refine lv_idiv hx hb dX12_keeps_57 (by decide) ?_
          refine lv_topi (fun y_114 ey_114 => ?_)
          have ty_114 : y_114.toInt = x_19.toInt / 2 := xI_div rfl ey_114 (by decide) ((by first | (clear hP9 f_6 c_7 g_9 hn_23; omega) | omega))
          refine lv_sipush (v := 400) hx hb dX12_keeps_58 (by decide) ?_
          refine lv_icmp_ge (tgt := 92) hx hb dX12_keeps_61 rfl (fun c_115 => ?_) (fun c_115 => ?_)
          · have c_115 : 400 ≤ y_114.toInt := xI_le rfl rfl c_115
            refine lv_ldcw (v := 100000) hx hb hown (hg (Cond.constant RX12 502 100000) m1858) dX12_keeps_92 ?_
            refine S_iast hx hb hK hW hS kd_104 (vin ((by first | (clear hP9 f_6 c_7 g_9 hn_23; omega) | omega)) ((by first | (clear hP9 f_6 c_7 g_9 hn_23; omega) | omega))) dX12_keeps_95 (fun G_116 H locs eG_116 hW hS => ?_)
            have hB_G_116 : Bd G_116 := hB_G_15.put (lo := (-2147483648)) (hi := 2147483647) eG_116 rfl rfl rfl (tI_rng _).1 (tI_rng _).2 (hB_G_15.2.put eG_116 rfl)
            have hF := hF.put eG_116 (Or.inl (by decide))
            obtain ⟨y_117, ey_117⟩ : ∃ q, q = x_19 + 1 := ⟨_, rfl⟩
            have ty_117 : y_117.toInt = x_19.toInt + 1 := xI_add rfl rfl ey_117 ((by first | (clear hP9 f_6 c_7 g_9 hn_23; omega) | omega)) ((by first | (clear hP9 f_6 c_7 g_9 hn_23; omega) | omega))
            refine lv_iinc (v := y_117) (lv' := [(4, .int y_117), (0, .ref (a 66))]) hx hb dX12_keeps_96 hl (k := 0) rfl (by rw [ey_117]; rfl) (lt_b rfl) rfl (fun ls hl => ?_)
            refine lv_goto (tgt := 22) hx hb dX12_keeps_99 rfl ?_
            exact ih_17 (1024 - y_117.toInt : Int).toNat ((by first | (clear hP9 f_6 c_7 g_9; omega) | omega)) _ _ _ ⟨G_116, y_117, (Int.toNat_of_nonneg ((by first | (clear hP9 f_6 c_7 g_9 hn_23; omega) | omega))), ⟨(by first | (clear hP9 f_6 c_7 g_9 hn_23; omega) | omega), (by first | (clear hP9 f_6 c_7 g_9 hn_23; omega) | omega)⟩, (hX_20.st (St_n_keeps_1_mk ⟨x_19, G_15, y_117, G_116, rfl, rfl, f_22, hB_G_15, ⟨c_24, ⟨y_105, ty_105, (Or.inl ⟨c_106, ⟨y_109, ty_109, (Or.inr ⟨c_111, ⟨y_114, ty_114, (Or.inl ⟨c_115, ⟨y_117, ty_117, ⟨rfl, (Fr.put (rs := [104]) (fs := []) Fr.rf eG_116 (Or.inl (by decide))), rw_ast eG_116⟩⟩⟩)⟩⟩)⟩⟩)⟩⟩⟩)), hW, hB_G_116, hF, (Fr.put (rs := [104]) (fs := []) (Fr.call9 (rs := [104]) (fs := []) Fr.rf hq_16 rfl rfl) eG_116 (Or.inl (by decide))), hS, lv_sub hl [0, 1] rfl⟩
          · have c_115 : y_114.toInt < 400 := xI_nle rfl rfl c_115
            refine lv_aload_n hx hb dX12_keeps_64 rfl (lv_at hl 1 rfl) ?_
            refine S_getR (n := 98) (C := RX12) (T := TX12) (N := 89) hx hb hg iX12 hown hK hW kd_66 rfl 58 (lt_b rfl) (hg (Cond.fieldLink RX12 115 "SlabWalkModel" "lawful" "[Z") m1372) (fun _ h9 => h9) rfl dX12_keeps_65 ?_
            refine lv_iload hx hb dX12_keeps_68 (lv_at hl 0 rfl) ?_
            refine ic_2 hx hb dX12_keeps_70 ?_
            refine lv_idiv hx hb dX12_keeps_71 (by decide) ?_
            refine lv_topi (fun y_118 ey_118 => ?_)
            have ty_118 : y_118.toInt = x_19.toInt / 2 := xI_div rfl ey_118 (by decide) ((by first | (clear hP9 f_6 c_7 g_9 hn_23; omega) | omega))
            refine S_zald hx hb hK hW kd_98 (vin ((by first | (clear hP9 f_6 c_7 g_9 hn_23; omega) | omega)) ((by first | (clear hP9 f_6 c_7 g_9 hn_23; omega) | omega))) dX12_keeps_72 (fun y_119 ey_119 => ?_)
            have ty_119 := hB_G_15.law ey_119
            refine lv_if_eq (tgt := 92) hx hb dX12_keeps_73 rfl (fun c_120 => ?_) (fun c_120 => ?_)
            · have c_120 : y_119.toInt = 0 := xI_eq rfl rfl c_120
              refine lv_ldcw (v := 100000) hx hb hown (hg (Cond.constant RX12 502 100000) m1858) dX12_keeps_92 ?_
              refine S_iast hx hb hK hW hS kd_104 (vin ((by first | (clear hP9 f_6 c_7 g_9 hn_23 c_120; omega) | omega)) ((by first | (clear hP9 f_6 c_7 g_9 hn_23 c_120; omega) | omega))) dX12_keeps_95 (fun G_121 H locs eG_121 hW hS => ?_)
              have hB_G_121 : Bd G_121 := hB_G_15.put (lo := (-2147483648)) (hi := 2147483647) eG_121 rfl rfl rfl (tI_rng _).1 (tI_rng _).2 (hB_G_15.2.put eG_121 rfl)
              have hF := hF.put eG_121 (Or.inl (by decide))
              obtain ⟨y_122, ey_122⟩ : ∃ q, q = x_19 + 1 := ⟨_, rfl⟩
              have ty_122 : y_122.toInt = x_19.toInt + 1 := xI_add rfl rfl ey_122 ((by first | (clear hP9 f_6 c_7 g_9 hn_23 c_120; omega) | omega)) ((by first | (clear hP9 f_6 c_7 g_9 hn_23 c_120; omega) | omega))
              refine lv_iinc (v := y_122) (lv' := [(4, .int y_122), (0, .ref (a 66))]) hx hb dX12_keeps_96 hl (k := 0) rfl (by rw [ey_122]; rfl) (lt_b rfl) rfl (fun ls hl => ?_)
              refine lv_goto (tgt := 22) hx hb dX12_keeps_99 rfl ?_
              exact ih_17 (1024 - y_122.toInt : Int).toNat ((by first | (clear hP9 f_6 c_7 g_9 c_120; omega) | omega)) _ _ _ ⟨G_121, y_122, (Int.toNat_of_nonneg ((by first | (clear hP9 f_6 c_7 g_9 hn_23 c_120; omega) | omega))), ⟨(by first | (clear hP9 f_6 c_7 g_9 hn_23 c_120; omega) | omega), (by first | (clear hP9 f_6 c_7 g_9 hn_23 c_120; omega) | omega)⟩, (hX_20.st (St_n_keeps_1_mk ⟨x_19, G_15, y_122, G_121, rfl, rfl, f_22, hB_G_15, ⟨c_24, ⟨y_105, ty_105, (Or.inl ⟨c_106, ⟨y_109, ty_109, (Or.inr ⟨c_111, ⟨y_114, ty_114, (Or.inr ⟨c_115, ⟨y_118, ty_118, ⟨y_119, ey_119, (Or.inl ⟨c_120, ⟨y_122, ty_122, ⟨rfl, (Fr.put (rs := [104]) (fs := []) Fr.rf eG_121 (Or.inl (by decide))), rw_ast eG_121⟩⟩⟩)⟩⟩⟩)⟩⟩)⟩⟩)⟩⟩⟩)), hW, hB_G_121, hF, (Fr.put (rs := [104]) (fs := []) (Fr.call9 (rs := [104]) (fs := []) Fr.rf hq_16 rfl rfl) eG_121 (Or.inl (by decide))), hS, lv_sub hl [0, 1] rfl⟩
            · have c_120 : y_119.toInt ≠ 0 := xI_ne rfl rfl c_120
              refine lv_aload_n hx hb dX12_keeps_76 rfl (lv_at hl 1 rfl) ?_
              refine lv_iload hx hb dX12_keeps_77 (lv_at hl 0 rfl) ?_
              refine ic_2 hx hb dX12_keeps_79 ?_
              refine lv_idiv hx hb dX12_keeps_80 (by decide) ?_
              refine lv_topi (fun y_123 ey_123 => ?_)
              have ty_123 : y_123.toInt = x_19.toInt / 2 := xI_div rfl ey_123 (by decide) ((by first | (clear hP9 f_6 c_7 g_9 hn_23 c_120; omega) | omega))
              refine ic_0 hx hb dX12_keeps_81 ?_
              refine S_calli (va_runV (As := [.int y_123, .int 0]) (rest := [.int x_19, .ref (a 104)]) ⟨hx, hb, hml, hown, hts⟩ (n_isHeld l D k A a z G_15 y_123 0 ⟨(by first | (clear hP9 f_6 c_7 g_9 hn_23 c_120; omega) | omega), (by first | (clear hP9 f_6 c_7 g_9 hn_23 c_120; omega) | omega)⟩ ⟨by decide, by decide⟩) (cwV 2 hts (gd_V hgd m1931 m1933 m101 m131 m1934) rfl rfl rfl hd_X12_isHeld ⟨Nat.le_of_ble_eq_true rfl, Nat.le_of_ble_eq_true rfl⟩) (pre_W hW hB_G_15 hK hZ hS kd_66 rfl) rfl rfl hl.1 rfl (lv_room (Nat.le_of_ble_eq_true rfl)) dX12_keeps_82 ⟨Nat.le_of_ble_eq_true rfl, Nat.le_of_ble_eq_true rfl⟩) hS (fun r_124 G_125 H locs hpo hW hS => ?_)
              have hX_128 : Q_isHeld y_123 0 G_15 r_124 G_125 := hpo
              obtain ⟨hB_G_125, hq_126, f_129, -⟩ := hpo
              have hF := hF.call9 hq_126 rfl rfl
              refine lv_if_eq (tgt := 92) hx hb dX12_keeps_85 rfl (fun c_130 => ?_) (fun c_130 => ?_)
              · have c_130 : r_124.toInt = 0 := xI_eq rfl rfl c_130
                refine lv_ldcw (v := 100000) hx hb hown (hg (Cond.constant RX12 502 100000) m1858) dX12_keeps_92 ?_
                refine S_iast hx hb hK hW hS kd_104 (vin ((by first | (clear hP9 f_6 c_7 g_9 hn_23 c_120 f_129 c_130; omega) | omega)) ((by first | (clear hP9 f_6 c_7 g_9 hn_23 c_120 f_129 c_130; omega) | omega))) dX12_keeps_95 (fun G_131 H locs eG_131 hW hS => ?_)
                have hB_G_131 : Bd G_131 := hB_G_125.put (lo := (-2147483648)) (hi := 2147483647) eG_131 rfl rfl rfl (tI_rng _).1 (tI_rng _).2 (hB_G_125.2.put eG_131 rfl)
                have hF := hF.put eG_131 (Or.inl (by decide))
                obtain ⟨y_132, ey_132⟩ : ∃ q, q = x_19 + 1 := ⟨_, rfl⟩
                have ty_132 : y_132.toInt = x_19.toInt + 1 := xI_add rfl rfl ey_132 ((by first | (clear hP9 f_6 c_7 g_9 hn_23 c_120 f_129 c_130; omega) | omega)) ((by first | (clear hP9 f_6 c_7 g_9 hn_23 c_120 f_129 c_130; omega) | omega))
                refine lv_iinc (v := y_132) (lv' := [(4, .int y_132), (0, .ref (a 66))]) hx hb dX12_keeps_96 hl (k := 0) rfl (by rw [ey_132]; rfl) (lt_b rfl) rfl (fun ls hl => ?_)
                refine lv_goto (tgt := 22) hx hb dX12_keeps_99 rfl ?_
                exact ih_17 (1024 - y_132.toInt : Int).toNat ((by first | (clear hP9 f_6 c_7 g_9 c_120 f_129 c_130; omega) | omega)) _ _ _ ⟨G_131, y_132, (Int.toNat_of_nonneg ((by first | (clear hP9 f_6 c_7 g_9 hn_23 c_120 f_129 c_130; omega) | omega))), ⟨(by first | (clear hP9 f_6 c_7 g_9 hn_23 c_120 f_129 c_130; omega) | omega), (by first | (clear hP9 f_6 c_7 g_9 hn_23 c_120 f_129 c_130; omega) | omega)⟩, (hX_20.st (St_n_keeps_1_mk ⟨x_19, G_15, y_132, G_131, rfl, rfl, f_22, hB_G_15, ⟨c_24, ⟨y_105, ty_105, (Or.inl ⟨c_106, ⟨y_109, ty_109, (Or.inr ⟨c_111, ⟨y_114, ty_114, (Or.inr ⟨c_115, ⟨y_118, ty_118, ⟨y_119, ey_119, (Or.inr ⟨c_120, ⟨y_123, ty_123, ⟨r_124, G_125, hX_128, (Or.inl ⟨c_130, ⟨y_132, ty_132, ⟨rfl, (Fr.put (rs := [104]) (fs := []) Fr.rf eG_131 (Or.inl (by decide))), rw_ast eG_131⟩⟩⟩)⟩⟩⟩)⟩⟩⟩)⟩⟩)⟩⟩)⟩⟩⟩)), hW, hB_G_131, hF, (Fr.put (rs := [104]) (fs := []) (Fr.call9 (rs := [104]) (fs := []) (Fr.call9 (rs := [104]) (fs := []) Fr.rf hq_16 rfl rfl) hq_126 rfl rfl) eG_131 (Or.inl (by decide))), hS, lv_sub hl [0, 1] rfl⟩
              · have c_130 : r_124.toInt ≠ 0 := xI_ne rfl rfl c_130
                refine ic_0 hx hb dX12_keeps_88 ?_
                refine lv_goto (tgt := 95) hx hb dX12_keeps_89 rfl ?_
                refine S_iast hx hb hK hW hS kd_104 (vin ((by first | (clear hP9 f_6 c_7 g_9 hn_23 c_120 f_129 c_130; omega) | omega)) ((by first | (clear hP9 f_6 c_7 g_9 hn_23 c_120 f_129 c_130; omega) | omega))) dX12_keeps_95 (fun G_133 H locs eG_133 hW hS => ?_)
                have hB_G_133 : Bd G_133 := hB_G_125.put (lo := (-2147483648)) (hi := 2147483647) eG_133 rfl rfl rfl (tI_rng _).1 (tI_rng _).2 (hB_G_125.2.put eG_133 rfl)
                have hF := hF.put eG_133 (Or.inl (by decide))
                obtain ⟨y_134, ey_134⟩ : ∃ q, q = x_19 + 1 := ⟨_, rfl⟩
                have ty_134 : y_134.toInt = x_19.toInt + 1 := xI_add rfl rfl ey_134 ((by first | (clear hP9 f_6 c_7 g_9 hn_23 c_120 f_129 c_130; omega) | omega)) ((by first | (clear hP9 f_6 c_7 g_9 hn_23 c_120 f_129 c_130; omega) | omega))
                refine lv_iinc (v := y_134) (lv' := [(4, .int y_134), (0, .ref (a 66))]) hx hb dX12_keeps_96 hl (k := 0) rfl (by rw [ey_134]; rfl) (lt_b rfl) rfl (fun ls hl => ?_)
                refine lv_goto (tgt := 22) hx hb dX12_keeps_99 rfl ?_
                exact ih_17 (1024 - y_134.toInt : Int).toNat ((by first | (clear hP9 f_6 c_7 g_9 c_120 f_129 c_130; omega) | omega)) _ _ _ ⟨G_133, y_134, (Int.toNat_of_nonneg ((by first | (clear hP9 f_6 c_7 g_9 hn_23 c_120 f_129 c_130; omega) | omega))), ⟨(by first | (clear hP9 f_6 c_7 g_9 hn_23 c_120 f_129 c_130; omega) | omega), (by first | (clear hP9 f_6 c_7 g_9 hn_23 c_120 f_129 c_130; omega) | omega)⟩, (hX_20.st (St_n_keeps_1_mk ⟨x_19, G_15, y_134, G_133, rfl, rfl, f_22, hB_G_15, ⟨c_24, ⟨y_105, ty_105, (Or.inl ⟨c_106, ⟨y_109, ty_109, (Or.inr ⟨c_111, ⟨y_114, ty_114, (Or.inr ⟨c_115, ⟨y_118, ty_118, ⟨y_119, ey_119, (Or.inr ⟨c_120, ⟨y_123, ty_123, ⟨r_124, G_125, hX_128, (Or.inr ⟨c_130, ⟨y_134, ty_134, ⟨rfl, (Fr.put (rs := [104]) (fs := []) Fr.rf eG_133 (Or.inl (by decide))), rw_ast eG_133⟩⟩⟩)⟩⟩⟩)⟩⟩⟩)⟩⟩)⟩⟩)⟩⟩⟩)), hW, hB_G_133, hF, (Fr.put (rs := [104]) (fs := []) (Fr.call9 (rs := [104]) (fs := []) (Fr.call9 (rs := [104]) (fs := []) Fr.rf hq_16 rfl rfl) hq_126 rfl rfl) eG_133 (Or.inl (by decide))), hS, lv_sub hl [0, 1] rfl⟩
  · have c_7 : r_1.toInt = 0 := xI_eq rfl rfl c_7
    refine ic_m1 hx hb dX12_keeps_10 ?_
    exact W.iret (v := (-1)) hx hb hr (fun t ht _ => ⟨⟨(-1), G_2, rfl, (Q_keeps_mk ⟨hB_G_2, hF, ⟨r_1, G_2, hX_5, (Or.inl ⟨c_7, ⟨rfl, rfl⟩⟩)⟩⟩), wd_t ht hW⟩, hS.F ht⟩) hS.2.2 dX12_keeps_11
