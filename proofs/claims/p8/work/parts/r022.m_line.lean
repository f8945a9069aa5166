theorem m88 : Cond.selects RX12 yX12_askOf yX12_askOf ∈ gd := gds_6 8 rfl
theorem m1328 : Cond.fieldLink RX12 30 "SlabWalkModel" "step" "[I" ∈ gd := gdc_6_0 12 rfl gw_fieldLink
theorem m1329 : Cond.fieldLink RX12 33 "SlabWalkModel" "arg" "[I" ∈ gd := gdc_6_0 13 rfl gw_fieldLink
theorem m1330 : Cond.fieldLink RX12 36 "SlabWalkModel" "many" "[I" ∈ gd := gdc_6_0 14 rfl gw_fieldLink
theorem m1332 : Cond.fieldLink RX12 42 "SlabWalkModel" "values" "[I" ∈ gd := gdc_6_1 0 rfl gw_fieldLink
theorem m1811 : Cond.methodLink RX12 352 yX12_askOf ∈ gd := gdc_8_0 15 rfl gw_methodLink
theorem m1813 : Cond.instanceMethod yX12_askOf ∈ gd := gdc_8_1 1 rfl gw_instanceMethod
theorem m1814 : Cond.code yX12_askOf cX12_askOf 3 (some .int) ∈ gd := gdc_8_1 2 rfl gw_code
theorem m1815 : Cond.methodLink RX12 355 yX12_done ∈ gd := gdc_8_1 3 rfl gw_methodLink
theorem m1816 : Cond.static yX12_done ∈ gd := gdc_8_1 4 rfl gw_static
theorem m1817 : Cond.code yX12_done cX12_done 3 (some .int) ∈ gd := gdc_8_1 5 rfl gw_code
theorem dX12_askOf_1 : decode cX12_askOf 1 = .ok (.tableswitch 112 0 7 #[47, 65, 65, 65, 65, 91, 98, 105], 47) := dq_of (by decide +kernel)
def rbX12_askOf_0 : List (Nat × List Nat) := [(0, [28]), (48, [42]), (49, [180, 0, 75]), (52, [27]), (53, [46]), (54, [156, 0, 7]), (57, [4]), (58, [167, 0, 4]), (61, [3]), (62, [184, 1, 92]), (65, [172]), (66, [42]), (67, [180, 0, 75]), (70, [27]), (71, [46]), (72, [156, 0, 7]), (75, [3]), (76, [167, 0, 15]), (79, [42]), (80, [180, 0, 75]), (83, [27]), (84, [46]), (85, [28]), (86, [4])]
theorem rcX12_askOf_0 : dgo (lb cX12_askOf) 0 rbX12_askOf_0 = true := by decide +kernel
theorem dX12_askOf_0 : decode cX12_askOf 0 = .ok (.iload_n 2, 1) := dk_28 (dw rcX12_askOf_0 0 rfl)
theorem dX12_askOf_48 : decode cX12_askOf 48 = .ok (.aload_n 0, 1) := dk_42 (dw rcX12_askOf_0 1 rfl)
theorem dX12_askOf_49 : decode cX12_askOf 49 = .ok (.getfield 75, 3) := dk_180 (dw rcX12_askOf_0 2 rfl) rfl
theorem dX12_askOf_52 : decode cX12_askOf 52 = .ok (.iload_n 1, 1) := dk_27 (dw rcX12_askOf_0 3 rfl)
theorem dX12_askOf_53 : decode cX12_askOf 53 = .ok (.iaload, 1) := dk_46 (dw rcX12_askOf_0 4 rfl)
theorem dX12_askOf_54 : decode cX12_askOf 54 = .ok (.ifCond .ge 7, 3) := dk_156 (dw rcX12_askOf_0 5 rfl) rfl
theorem dX12_askOf_57 : decode cX12_askOf 57 = .ok (.iconst 1, 1) := dk_4 (dw rcX12_askOf_0 6 rfl)
theorem dX12_askOf_58 : decode cX12_askOf 58 = .ok (.goto 4, 3) := dk_167 (dw rcX12_askOf_0 7 rfl) rfl
theorem dX12_askOf_61 : decode cX12_askOf 61 = .ok (.iconst 0, 1) := dk_3 (dw rcX12_askOf_0 8 rfl)
theorem dX12_askOf_62 : decode cX12_askOf 62 = .ok (.invokestatic 348, 3) := dk_184 (dw rcX12_askOf_0 9 rfl) rfl
theorem dX12_askOf_65 : decode cX12_askOf 65 = .ok (.ireturn, 1) := dk_172 (dw rcX12_askOf_0 10 rfl)
theorem dX12_askOf_66 : decode cX12_askOf 66 = .ok (.aload_n 0, 1) := dk_42 (dw rcX12_askOf_0 11 rfl)
theorem dX12_askOf_67 : decode cX12_askOf 67 = .ok (.getfield 75, 3) := dk_180 (dw rcX12_askOf_0 12 rfl) rfl
theorem dX12_askOf_70 : decode cX12_askOf 70 = .ok (.iload_n 1, 1) := dk_27 (dw rcX12_askOf_0 13 rfl)
theorem dX12_askOf_71 : decode cX12_askOf 71 = .ok (.iaload, 1) := dk_46 (dw rcX12_askOf_0 14 rfl)
theorem dX12_askOf_72 : decode cX12_askOf 72 = .ok (.ifCond .ge 7, 3) := dk_156 (dw rcX12_askOf_0 15 rfl) rfl
theorem dX12_askOf_75 : decode cX12_askOf 75 = .ok (.iconst 0, 1) := dk_3 (dw rcX12_askOf_0 16 rfl)
theorem dX12_askOf_76 : decode cX12_askOf 76 = .ok (.goto 15, 3) := dk_167 (dw rcX12_askOf_0 17 rfl) rfl
theorem dX12_askOf_79 : decode cX12_askOf 79 = .ok (.aload_n 0, 1) := dk_42 (dw rcX12_askOf_0 18 rfl)
theorem dX12_askOf_80 : decode cX12_askOf 80 = .ok (.getfield 75, 3) := dk_180 (dw rcX12_askOf_0 19 rfl) rfl
theorem dX12_askOf_83 : decode cX12_askOf 83 = .ok (.iload_n 1, 1) := dk_27 (dw rcX12_askOf_0 20 rfl)
theorem dX12_askOf_84 : decode cX12_askOf 84 = .ok (.iaload, 1) := dk_46 (dw rcX12_askOf_0 21 rfl)
theorem dX12_askOf_85 : decode cX12_askOf 85 = .ok (.iload_n 2, 1) := dk_28 (dw rcX12_askOf_0 22 rfl)
theorem dX12_askOf_86 : decode cX12_askOf 86 = .ok (.iconst 1, 1) := dk_4 (dw rcX12_askOf_0 23 rfl)
def rbX12_askOf_87 : List (Nat × List Nat) := [(87, [100]), (88, [122]), (89, [4]), (90, [126]), (91, [172]), (92, [42]), (93, [180, 0, 84]), (96, [27]), (97, [46]), (98, [172]), (99, [42]), (100, [180, 0, 78]), (103, [27]), (104, [46]), (105, [172]), (106, [42]), (107, [180, 0, 81]), (110, [27]), (111, [46]), (112, [172]), (113, [42]), (114, [180, 0, 151]), (117, [16, 6]), (119, [46])]
theorem rcX12_askOf_87 : dgo (lb cX12_askOf) 0 rbX12_askOf_87 = true := by decide +kernel
theorem dX12_askOf_87 : decode cX12_askOf 87 = .ok (.isub, 1) := dk_100 (dw rcX12_askOf_87 0 rfl)
theorem dX12_askOf_88 : decode cX12_askOf 88 = .ok (.ishr, 1) := dk_122 (dw rcX12_askOf_87 1 rfl)
theorem dX12_askOf_89 : decode cX12_askOf 89 = .ok (.iconst 1, 1) := dk_4 (dw rcX12_askOf_87 2 rfl)
theorem dX12_askOf_90 : decode cX12_askOf 90 = .ok (.iand, 1) := dk_126 (dw rcX12_askOf_87 3 rfl)
theorem dX12_askOf_91 : decode cX12_askOf 91 = .ok (.ireturn, 1) := dk_172 (dw rcX12_askOf_87 4 rfl)
theorem dX12_askOf_92 : decode cX12_askOf 92 = .ok (.aload_n 0, 1) := dk_42 (dw rcX12_askOf_87 5 rfl)
theorem dX12_askOf_93 : decode cX12_askOf 93 = .ok (.getfield 84, 3) := dk_180 (dw rcX12_askOf_87 6 rfl) rfl
theorem dX12_askOf_96 : decode cX12_askOf 96 = .ok (.iload_n 1, 1) := dk_27 (dw rcX12_askOf_87 7 rfl)
theorem dX12_askOf_97 : decode cX12_askOf 97 = .ok (.iaload, 1) := dk_46 (dw rcX12_askOf_87 8 rfl)
theorem dX12_askOf_98 : decode cX12_askOf 98 = .ok (.ireturn, 1) := dk_172 (dw rcX12_askOf_87 9 rfl)
theorem dX12_askOf_99 : decode cX12_askOf 99 = .ok (.aload_n 0, 1) := dk_42 (dw rcX12_askOf_87 10 rfl)
theorem dX12_askOf_100 : decode cX12_askOf 100 = .ok (.getfield 78, 3) := dk_180 (dw rcX12_askOf_87 11 rfl) rfl
theorem dX12_askOf_103 : decode cX12_askOf 103 = .ok (.iload_n 1, 1) := dk_27 (dw rcX12_askOf_87 12 rfl)
theorem dX12_askOf_104 : decode cX12_askOf 104 = .ok (.iaload, 1) := dk_46 (dw rcX12_askOf_87 13 rfl)
theorem dX12_askOf_105 : decode cX12_askOf 105 = .ok (.ireturn, 1) := dk_172 (dw rcX12_askOf_87 14 rfl)
theorem dX12_askOf_106 : decode cX12_askOf 106 = .ok (.aload_n 0, 1) := dk_42 (dw rcX12_askOf_87 15 rfl)
theorem dX12_askOf_107 : decode cX12_askOf 107 = .ok (.getfield 81, 3) := dk_180 (dw rcX12_askOf_87 16 rfl) rfl
theorem dX12_askOf_110 : decode cX12_askOf 110 = .ok (.iload_n 1, 1) := dk_27 (dw rcX12_askOf_87 17 rfl)
theorem dX12_askOf_111 : decode cX12_askOf 111 = .ok (.iaload, 1) := dk_46 (dw rcX12_askOf_87 18 rfl)
theorem dX12_askOf_112 : decode cX12_askOf 112 = .ok (.ireturn, 1) := dk_172 (dw rcX12_askOf_87 19 rfl)
theorem dX12_askOf_113 : decode cX12_askOf 113 = .ok (.aload_n 0, 1) := dk_42 (dw rcX12_askOf_87 20 rfl)
theorem dX12_askOf_114 : decode cX12_askOf 114 = .ok (.getfield 151, 3) := dk_180 (dw rcX12_askOf_87 21 rfl) rfl
theorem dX12_askOf_117 : decode cX12_askOf 117 = .ok (.bipush 6, 2) := dk_16 (dw rcX12_askOf_87 22 rfl) rfl
theorem dX12_askOf_119 : decode cX12_askOf 119 = .ok (.iaload, 1) := dk_46 (dw rcX12_askOf_87 23 rfl)
theorem dX12_askOf_120 : decode cX12_askOf 120 = .ok (.ireturn, 1) := dq_of (by decide +kernel)
def rbX12_worked_0 : List (Nat × List Nat) := [(0, [3]), (1, [62]), (2, [17, 1, 64]), (5, [27]), (6, [104]), (7, [54, 4]), (9, [21, 4]), (11, [17, 1, 64]), (14, [27]), (15, [104]), (16, [42]), (17, [180, 0, 36]), (20, [27]), (21, [46]), (22, [96]), (23, [162, 0, 150]), (26, [42]), (27, [180, 0, 30]), (30, [21, 4]), (32, [46]), (33, [153, 0, 14]), (36, [42]), (37, [180, 0, 30]), (40, [21, 4])]
theorem rcX12_worked_0 : dgo (lb cX12_worked) 0 rbX12_worked_0 = true := by decide +kernel
theorem dX12_worked_0 : decode cX12_worked 0 = .ok (.iconst 0, 1) := dk_3 (dw rcX12_worked_0 0 rfl)
theorem dX12_worked_1 : decode cX12_worked 1 = .ok (.istore_n 3, 1) := dk_62 (dw rcX12_worked_0 1 rfl)
theorem dX12_worked_2 : decode cX12_worked 2 = .ok (.sipush 320, 3) := dk_17 (dw rcX12_worked_0 2 rfl) rfl
theorem dX12_worked_5 : decode cX12_worked 5 = .ok (.iload_n 1, 1) := dk_27 (dw rcX12_worked_0 3 rfl)
theorem dX12_worked_6 : decode cX12_worked 6 = .ok (.imul, 1) := dk_104 (dw rcX12_worked_0 4 rfl)
theorem dX12_worked_7 : decode cX12_worked 7 = .ok (.istore 4, 2) := dk_54 (dw rcX12_worked_0 5 rfl)
theorem dX12_worked_9 : decode cX12_worked 9 = .ok (.iload 4, 2) := dk_21 (dw rcX12_worked_0 6 rfl)
theorem dX12_worked_11 : decode cX12_worked 11 = .ok (.sipush 320, 3) := dk_17 (dw rcX12_worked_0 7 rfl) rfl
theorem dX12_worked_14 : decode cX12_worked 14 = .ok (.iload_n 1, 1) := dk_27 (dw rcX12_worked_0 8 rfl)
theorem dX12_worked_15 : decode cX12_worked 15 = .ok (.imul, 1) := dk_104 (dw rcX12_worked_0 9 rfl)
theorem dX12_worked_16 : decode cX12_worked 16 = .ok (.aload_n 0, 1) := dk_42 (dw rcX12_worked_0 10 rfl)
theorem dX12_worked_17 : decode cX12_worked 17 = .ok (.getfield 36, 3) := dk_180 (dw rcX12_worked_0 11 rfl) rfl
theorem dX12_worked_20 : decode cX12_worked 20 = .ok (.iload_n 1, 1) := dk_27 (dw rcX12_worked_0 12 rfl)
theorem dX12_worked_21 : decode cX12_worked 21 = .ok (.iaload, 1) := dk_46 (dw rcX12_worked_0 13 rfl)
theorem dX12_worked_22 : decode cX12_worked 22 = .ok (.iadd, 1) := dk_96 (dw rcX12_worked_0 14 rfl)
theorem dX12_worked_23 : decode cX12_worked 23 = .ok (.if_icmp .ge 150, 3) := dk_162 (dw rcX12_worked_0 15 rfl) rfl
theorem dX12_worked_26 : decode cX12_worked 26 = .ok (.aload_n 0, 1) := dk_42 (dw rcX12_worked_0 16 rfl)
theorem dX12_worked_27 : decode cX12_worked 27 = .ok (.getfield 30, 3) := dk_180 (dw rcX12_worked_0 17 rfl) rfl
theorem dX12_worked_30 : decode cX12_worked 30 = .ok (.iload 4, 2) := dk_21 (dw rcX12_worked_0 18 rfl)
theorem dX12_worked_32 : decode cX12_worked 32 = .ok (.iaload, 1) := dk_46 (dw rcX12_worked_0 19 rfl)
theorem dX12_worked_33 : decode cX12_worked 33 = .ok (.ifCond .eq 14, 3) := dk_153 (dw rcX12_worked_0 20 rfl) rfl
theorem dX12_worked_36 : decode cX12_worked 36 = .ok (.aload_n 0, 1) := dk_42 (dw rcX12_worked_0 21 rfl)
theorem dX12_worked_37 : decode cX12_worked 37 = .ok (.getfield 30, 3) := dk_180 (dw rcX12_worked_0 22 rfl) rfl
theorem dX12_worked_40 : decode cX12_worked 40 = .ok (.iload 4, 2) := dk_21 (dw rcX12_worked_0 23 rfl)
def rbX12_worked_42 : List (Nat × List Nat) := [(42, [46]), (43, [4]), (44, [160, 0, 47]), (47, [42]), (48, [180, 0, 42]), (51, [29]), (52, [42]), (53, [180, 0, 30]), (56, [21, 4]), (58, [46]), (59, [154, 0, 13]), (62, [42]), (63, [180, 0, 33]), (66, [21, 4]), (68, [46]), (69, [167, 0, 15]), (72, [42]), (73, [28]), (74, [42]), (75, [180, 0, 33]), (78, [21, 4]), (80, [46]), (81, [182, 1, 96]), (84, [79])]
theorem rcX12_worked_42 : dgo (lb cX12_worked) 0 rbX12_worked_42 = true := by decide +kernel
theorem dX12_worked_42 : decode cX12_worked 42 = .ok (.iaload, 1) := dk_46 (dw rcX12_worked_42 0 rfl)
theorem dX12_worked_43 : decode cX12_worked 43 = .ok (.iconst 1, 1) := dk_4 (dw rcX12_worked_42 1 rfl)
theorem dX12_worked_44 : decode cX12_worked 44 = .ok (.if_icmp .ne 47, 3) := dk_160 (dw rcX12_worked_42 2 rfl) rfl
theorem dX12_worked_47 : decode cX12_worked 47 = .ok (.aload_n 0, 1) := dk_42 (dw rcX12_worked_42 3 rfl)
theorem dX12_worked_48 : decode cX12_worked 48 = .ok (.getfield 42, 3) := dk_180 (dw rcX12_worked_42 4 rfl) rfl
theorem dX12_worked_51 : decode cX12_worked 51 = .ok (.iload_n 3, 1) := dk_29 (dw rcX12_worked_42 5 rfl)
theorem dX12_worked_52 : decode cX12_worked 52 = .ok (.aload_n 0, 1) := dk_42 (dw rcX12_worked_42 6 rfl)
theorem dX12_worked_53 : decode cX12_worked 53 = .ok (.getfield 30, 3) := dk_180 (dw rcX12_worked_42 7 rfl) rfl
theorem dX12_worked_56 : decode cX12_worked 56 = .ok (.iload 4, 2) := dk_21 (dw rcX12_worked_42 8 rfl)
theorem dX12_worked_58 : decode cX12_worked 58 = .ok (.iaload, 1) := dk_46 (dw rcX12_worked_42 9 rfl)
theorem dX12_worked_59 : decode cX12_worked 59 = .ok (.ifCond .ne 13, 3) := dk_154 (dw rcX12_worked_42 10 rfl) rfl
theorem dX12_worked_62 : decode cX12_worked 62 = .ok (.aload_n 0, 1) := dk_42 (dw rcX12_worked_42 11 rfl)
theorem dX12_worked_63 : decode cX12_worked 63 = .ok (.getfield 33, 3) := dk_180 (dw rcX12_worked_42 12 rfl) rfl
theorem dX12_worked_66 : decode cX12_worked 66 = .ok (.iload 4, 2) := dk_21 (dw rcX12_worked_42 13 rfl)
theorem dX12_worked_68 : decode cX12_worked 68 = .ok (.iaload, 1) := dk_46 (dw rcX12_worked_42 14 rfl)
theorem dX12_worked_69 : decode cX12_worked 69 = .ok (.goto 15, 3) := dk_167 (dw rcX12_worked_42 15 rfl) rfl
theorem dX12_worked_72 : decode cX12_worked 72 = .ok (.aload_n 0, 1) := dk_42 (dw rcX12_worked_42 16 rfl)
theorem dX12_worked_73 : decode cX12_worked 73 = .ok (.iload_n 2, 1) := dk_28 (dw rcX12_worked_42 17 rfl)
theorem dX12_worked_74 : decode cX12_worked 74 = .ok (.aload_n 0, 1) := dk_42 (dw rcX12_worked_42 18 rfl)
theorem dX12_worked_75 : decode cX12_worked 75 = .ok (.getfield 33, 3) := dk_180 (dw rcX12_worked_42 19 rfl) rfl
theorem dX12_worked_78 : decode cX12_worked 78 = .ok (.iload 4, 2) := dk_21 (dw rcX12_worked_42 20 rfl)
theorem dX12_worked_80 : decode cX12_worked 80 = .ok (.iaload, 1) := dk_46 (dw rcX12_worked_42 21 rfl)
theorem dX12_worked_81 : decode cX12_worked 81 = .ok (.invokevirtual 352, 3) := dk_182 (dw rcX12_worked_42 22 rfl) rfl
theorem dX12_worked_84 : decode cX12_worked 84 = .ok (.iastore, 1) := dk_79 (dw rcX12_worked_42 23 rfl)
def rbX12_worked_85 : List (Nat × List Nat) := [(85, [132, 3, 1]), (88, [167, 0, 79]), (91, [42]), (92, [180, 0, 30]), (95, [21, 4]), (97, [46]), (98, [5]), (99, [160, 0, 33]), (102, [42]), (103, [180, 0, 42]), (106, [29]), (107, [4]), (108, [100]), (109, [42]), (110, [180, 0, 42]), (113, [29]), (114, [4]), (115, [100]), (116, [46]), (117, [154, 0, 7]), (120, [4]), (121, [167, 0, 4]), (124, [3]), (125, [184, 1, 92])]
theorem rcX12_worked_85 : dgo (lb cX12_worked) 0 rbX12_worked_85 = true := by decide +kernel
theorem dX12_worked_85 : decode cX12_worked 85 = .ok (.iinc 3 1, 3) := dk_132 (dw rcX12_worked_85 0 rfl) rfl
theorem dX12_worked_88 : decode cX12_worked 88 = .ok (.goto 79, 3) := dk_167 (dw rcX12_worked_85 1 rfl) rfl
theorem dX12_worked_91 : decode cX12_worked 91 = .ok (.aload_n 0, 1) := dk_42 (dw rcX12_worked_85 2 rfl)
theorem dX12_worked_92 : decode cX12_worked 92 = .ok (.getfield 30, 3) := dk_180 (dw rcX12_worked_85 3 rfl) rfl
theorem dX12_worked_95 : decode cX12_worked 95 = .ok (.iload 4, 2) := dk_21 (dw rcX12_worked_85 4 rfl)
theorem dX12_worked_97 : decode cX12_worked 97 = .ok (.iaload, 1) := dk_46 (dw rcX12_worked_85 5 rfl)
theorem dX12_worked_98 : decode cX12_worked 98 = .ok (.iconst 2, 1) := dk_5 (dw rcX12_worked_85 6 rfl)
theorem dX12_worked_99 : decode cX12_worked 99 = .ok (.if_icmp .ne 33, 3) := dk_160 (dw rcX12_worked_85 7 rfl) rfl
theorem dX12_worked_102 : decode cX12_worked 102 = .ok (.aload_n 0, 1) := dk_42 (dw rcX12_worked_85 8 rfl)
theorem dX12_worked_103 : decode cX12_worked 103 = .ok (.getfield 42, 3) := dk_180 (dw rcX12_worked_85 9 rfl) rfl
theorem dX12_worked_106 : decode cX12_worked 106 = .ok (.iload_n 3, 1) := dk_29 (dw rcX12_worked_85 10 rfl)
theorem dX12_worked_107 : decode cX12_worked 107 = .ok (.iconst 1, 1) := dk_4 (dw rcX12_worked_85 11 rfl)
theorem dX12_worked_108 : decode cX12_worked 108 = .ok (.isub, 1) := dk_100 (dw rcX12_worked_85 12 rfl)
theorem dX12_worked_109 : decode cX12_worked 109 = .ok (.aload_n 0, 1) := dk_42 (dw rcX12_worked_85 13 rfl)
theorem dX12_worked_110 : decode cX12_worked 110 = .ok (.getfield 42, 3) := dk_180 (dw rcX12_worked_85 14 rfl) rfl
theorem dX12_worked_113 : decode cX12_worked 113 = .ok (.iload_n 3, 1) := dk_29 (dw rcX12_worked_85 15 rfl)
theorem dX12_worked_114 : decode cX12_worked 114 = .ok (.iconst 1, 1) := dk_4 (dw rcX12_worked_85 16 rfl)
theorem dX12_worked_115 : decode cX12_worked 115 = .ok (.isub, 1) := dk_100 (dw rcX12_worked_85 17 rfl)
theorem dX12_worked_116 : decode cX12_worked 116 = .ok (.iaload, 1) := dk_46 (dw rcX12_worked_85 18 rfl)
theorem dX12_worked_117 : decode cX12_worked 117 = .ok (.ifCond .ne 7, 3) := dk_154 (dw rcX12_worked_85 19 rfl) rfl
theorem dX12_worked_120 : decode cX12_worked 120 = .ok (.iconst 1, 1) := dk_4 (dw rcX12_worked_85 20 rfl)
theorem dX12_worked_121 : decode cX12_worked 121 = .ok (.goto 4, 3) := dk_167 (dw rcX12_worked_85 21 rfl) rfl
theorem dX12_worked_124 : decode cX12_worked 124 = .ok (.iconst 0, 1) := dk_3 (dw rcX12_worked_85 22 rfl)
theorem dX12_worked_125 : decode cX12_worked 125 = .ok (.invokestatic 348, 3) := dk_184 (dw rcX12_worked_85 23 rfl) rfl
def rbX12_worked_128 : List (Nat × List Nat) := [(128, [79]), (129, [167, 0, 38]), (132, [132, 3, 255]), (135, [42]), (136, [180, 0, 42]), (139, [29]), (140, [4]), (141, [100]), (142, [42]), (143, [180, 0, 33]), (146, [21, 4]), (148, [46]), (149, [42]), (150, [180, 0, 42]), (153, [29]), (154, [4]), (155, [100]), (156, [46]), (157, [42]), (158, [180, 0, 42]), (161, [29]), (162, [46]), (163, [184, 1, 99]), (166, [79])]
theorem rcX12_worked_128 : dgo (lb cX12_worked) 0 rbX12_worked_128 = true := by decide +kernel
theorem dX12_worked_128 : decode cX12_worked 128 = .ok (.iastore, 1) := dk_79 (dw rcX12_worked_128 0 rfl)
theorem dX12_worked_129 : decode cX12_worked 129 = .ok (.goto 38, 3) := dk_167 (dw rcX12_worked_128 1 rfl) rfl
theorem dX12_worked_132 : decode cX12_worked 132 = .ok (.iinc 3 (-1), 3) := dk_132 (dw rcX12_worked_128 2 rfl) rfl
theorem dX12_worked_135 : decode cX12_worked 135 = .ok (.aload_n 0, 1) := dk_42 (dw rcX12_worked_128 3 rfl)
theorem dX12_worked_136 : decode cX12_worked 136 = .ok (.getfield 42, 3) := dk_180 (dw rcX12_worked_128 4 rfl) rfl
theorem dX12_worked_139 : decode cX12_worked 139 = .ok (.iload_n 3, 1) := dk_29 (dw rcX12_worked_128 5 rfl)
theorem dX12_worked_140 : decode cX12_worked 140 = .ok (.iconst 1, 1) := dk_4 (dw rcX12_worked_128 6 rfl)
theorem dX12_worked_141 : decode cX12_worked 141 = .ok (.isub, 1) := dk_100 (dw rcX12_worked_128 7 rfl)
theorem dX12_worked_142 : decode cX12_worked 142 = .ok (.aload_n 0, 1) := dk_42 (dw rcX12_worked_128 8 rfl)
theorem dX12_worked_143 : decode cX12_worked 143 = .ok (.getfield 33, 3) := dk_180 (dw rcX12_worked_128 9 rfl) rfl
theorem dX12_worked_146 : decode cX12_worked 146 = .ok (.iload 4, 2) := dk_21 (dw rcX12_worked_128 10 rfl)
theorem dX12_worked_148 : decode cX12_worked 148 = .ok (.iaload, 1) := dk_46 (dw rcX12_worked_128 11 rfl)
theorem dX12_worked_149 : decode cX12_worked 149 = .ok (.aload_n 0, 1) := dk_42 (dw rcX12_worked_128 12 rfl)
theorem dX12_worked_150 : decode cX12_worked 150 = .ok (.getfield 42, 3) := dk_180 (dw rcX12_worked_128 13 rfl) rfl
theorem dX12_worked_153 : decode cX12_worked 153 = .ok (.iload_n 3, 1) := dk_29 (dw rcX12_worked_128 14 rfl)
theorem dX12_worked_154 : decode cX12_worked 154 = .ok (.iconst 1, 1) := dk_4 (dw rcX12_worked_128 15 rfl)
theorem dX12_worked_155 : decode cX12_worked 155 = .ok (.isub, 1) := dk_100 (dw rcX12_worked_128 16 rfl)
theorem dX12_worked_156 : decode cX12_worked 156 = .ok (.iaload, 1) := dk_46 (dw rcX12_worked_128 17 rfl)
theorem dX12_worked_157 : decode cX12_worked 157 = .ok (.aload_n 0, 1) := dk_42 (dw rcX12_worked_128 18 rfl)
theorem dX12_worked_158 : decode cX12_worked 158 = .ok (.getfield 42, 3) := dk_180 (dw rcX12_worked_128 19 rfl) rfl
theorem dX12_worked_161 : decode cX12_worked 161 = .ok (.iload_n 3, 1) := dk_29 (dw rcX12_worked_128 20 rfl)
theorem dX12_worked_162 : decode cX12_worked 162 = .ok (.iaload, 1) := dk_46 (dw rcX12_worked_128 21 rfl)
theorem dX12_worked_163 : decode cX12_worked 163 = .ok (.invokestatic 355, 3) := dk_184 (dw rcX12_worked_128 22 rfl) rfl
theorem dX12_worked_166 : decode cX12_worked 166 = .ok (.iastore, 1) := dk_79 (dw rcX12_worked_128 23 rfl)
def rbX12_worked_167 : List (Nat × List Nat) := [(167, [132, 4, 1]), (170, [167, 255, 95]), (173, [42]), (174, [180, 0, 42]), (177, [3]), (178, [46]), (179, [172])]
theorem rcX12_worked_167 : dgo (lb cX12_worked) 0 rbX12_worked_167 = true := by decide +kernel
theorem dX12_worked_167 : decode cX12_worked 167 = .ok (.iinc 4 1, 3) := dk_132 (dw rcX12_worked_167 0 rfl) rfl
theorem dX12_worked_170 : decode cX12_worked 170 = .ok (.goto (-161), 3) := dk_167 (dw rcX12_worked_167 1 rfl) rfl
theorem dX12_worked_173 : decode cX12_worked 173 = .ok (.aload_n 0, 1) := dk_42 (dw rcX12_worked_167 2 rfl)
theorem dX12_worked_174 : decode cX12_worked 174 = .ok (.getfield 42, 3) := dk_180 (dw rcX12_worked_167 3 rfl) rfl
theorem dX12_worked_177 : decode cX12_worked 177 = .ok (.iconst 0, 1) := dk_3 (dw rcX12_worked_167 4 rfl)
theorem dX12_worked_178 : decode cX12_worked 178 = .ok (.iaload, 1) := dk_46 (dw rcX12_worked_167 5 rfl)
theorem dX12_worked_179 : decode cX12_worked 179 = .ok (.ireturn, 1) := dk_172 (dw rcX12_worked_167 6 rfl)
set_option maxHeartbeats 4000000 in
set_option maxRecDepth 100000 in
theorem n_askOf (l : Launch) (D : va_G) (k : KT) (A : Nat → Prop) (a : Nat → Nat) (z : SK) (G : GS) (p0 : Int32) (p1 : Int32) (ha_p0 : 0 ≤ p0.toInt ∧ p0.toInt ≤ 1199) : Met l yX12_askOf (WS yX12_askOf cX12_askOf 3 (some .int)) ({ frames := 1, cells := 0, slots := 0, locals := 20 }) (va_Pc [.ref (a 66), .int p0, .int p1] (cW D k A a z G)) (va_Qi (fun (r : Int32) (G1 : GS) => Q_askOf p0 p1 G r G1) (fun (G1 : GS) t => Wd D k A a G1 t.heap) A) 0 0 A := by
  refine Met.ofW (cc := cX12_askOf) (maxL := 3) (ret := (some .int)) (by decide) rfl ?_
  intro p e s m args below meth c s₁ B hml hv
  obtain ⟨rfl, hW, hB_G, hK, hZ⟩ := hv
  have hx := B.exec
  have hb := B.bytes
  have hr := B.returns
  have hts := atoms_spec (ws := WS yX12_askOf cX12_askOf 3 (some .int)) B.pre
  have hgd : ∀ w ∈ gd, w ∈ WS yX12_askOf cX12_askOf 3 (some .int) := fun w h => List.mem_cons_of_mem _ h
  have hg : ∀ w ∈ gd, w.before _ s = true := fun w h => hts w (hgd w h)
  have hown : s.vm.findClass RX12 = some m.cls := findClass_of_methodNamed B.named
  have hS : va_S A s.heap s.heap [] := va_S.rf
  have hF : Fr [] [] G G := Fr.rf
  have hl := lv_entry ([.ref (a 66), .int p0, .int p1]) (n := 3) (Nat.le_of_ble_eq_true rfl)
  rw [lg_entry_eq]
  generalize (lg_sl ([.ref (a 66), .int p0, .int p1]) ++ List.replicate (3 - (lg_sl ([.ref (a 66), .int p0, .int p1])).length) Slot.unset).toArray = ls at hl ⊢
  have hl : lv_has ls 3 [(0, .ref (a 66)), (1, .int p0), (2, .int p1)] := hl
  refine lv_iload_n hx hb dX12_askOf_0 rfl (lv_at hl 2 rfl) ?_
  by_cases c_1 : p1 = 0
  · refine lv_tableIn (tgt := 48) hx hb dX12_askOf_1 (by rw [c_1]; decide) (by rw [c_1]; decide) (off := 47) (by rw [c_1]; decide) (by decide) ?_
    have c_1 : p1.toInt = 0 := xI_eq rfl rfl c_1
    refine lv_aload_n hx hb dX12_askOf_48 rfl (lv_at hl 0 rfl) ?_
    refine S_getR (n := 87) (C := RX12) (T := TX12) (N := 89) hx hb hg iX12 hown hK hW kd_66 rfl 35 (lt_b rfl) (hg (Cond.fieldLink RX12 75 "SlabWalkModel" "marks" "[I") m1349) (fun _ h9 => h9) rfl dX12_askOf_49 ?_
    refine lv_iload_n hx hb dX12_askOf_52 rfl (lv_at hl 1 rfl) ?_
    refine S_iald hx hb hK hW kd_87 (vin (by omega) (by omega)) dX12_askOf_53 (fun y_2 ey_2 => ?_)
    refine lv_if_ge (tgt := 61) hx hb dX12_askOf_54 rfl (fun c_3 => ?_) (fun c_3 => ?_)
    · have c_3 : 0 ≤ y_2.toInt := xI_le rfl rfl c_3
      refine ic_0 hx hb dX12_askOf_61 ?_
      have qc_4 : (0 : Int32).toInt = 0 := rfl
      refine S_calli (va_runS (As := [.int 0]) (rest := []) ⟨hx, hb, hml, hown, hts⟩ (n_truth l D k A a z G 0 ⟨by decide, by decide⟩) (va_cwS 1 hts (gd_S hgd m1788 m1789 m131 m1790) rfl rfl rfl hd_X12_truth.2 ⟨Nat.le_of_ble_eq_true rfl, Nat.le_of_ble_eq_true rfl⟩) (pre_S hW hB_G hK hZ hS) rfl rfl hl.1 rfl (lv_room (Nat.le_of_ble_eq_true rfl)) dX12_askOf_62 ⟨Nat.le_of_ble_eq_true rfl, Nat.le_of_ble_eq_true rfl⟩) hS (fun r_5 G_6 H locs hpo hW hS => ?_)
      have hX_9 : Q_truth 0 G r_5 G_6 := hpo
      obtain ⟨hB_G_6, hq_7, f_10, hp_8, -⟩ := hpo
      have hF := hF.call9 hq_7 rfl rfl
      exact W.iret (v := r_5) hx hb hr (fun t ht _ => ⟨⟨r_5, G_6, rfl, (Q_askOf_mk ⟨hB_G_6, hF, (Or.inl ⟨c_1, ⟨y_2, ey_2, (Or.inl ⟨c_3, ⟨r_5, G_6, hX_9, ⟨rfl, rfl⟩⟩⟩)⟩⟩)⟩), wd_t ht hW⟩, hS.F ht⟩) hS.2.2 dX12_askOf_65
    · have c_3 : y_2.toInt < 0 := xI_nle rfl rfl c_3
      refine ic_1 hx hb dX12_askOf_57 ?_
      refine lv_goto (tgt := 62) hx hb dX12_askOf_58 rfl ?_
      have qc_11 : (1 : Int32).toInt = 1 := rfl
      refine S_calli (va_runS (As := [.int 1]) (rest := []) ⟨hx, hb, hml, hown, hts⟩ (n_truth l D k A a z G 1 ⟨by decide, by decide⟩) (va_cwS 1 hts (gd_S hgd m1788 m1789 m131 m1790) rfl rfl rfl hd_X12_truth.2 ⟨Nat.le_of_ble_eq_true rfl, Nat.le_of_ble_eq_true rfl⟩) (pre_S hW hB_G hK hZ hS) rfl rfl hl.1 rfl (lv_room (Nat.le_of_ble_eq_true rfl)) dX12_askOf_62 ⟨Nat.le_of_ble_eq_true rfl, Nat.le_of_ble_eq_true rfl⟩) hS (fun r_12 G_13 H locs hpo hW hS => ?_)
      have hX_16 : Q_truth 1 G r_12 G_13 := hpo
      obtain ⟨hB_G_13, hq_14, f_17, hp_15, -⟩ := hpo
      have hF := hF.call9 hq_14 rfl rfl
      exact W.iret (v := r_12) hx hb hr (fun t ht _ => ⟨⟨r_12, G_13, rfl, (Q_askOf_mk ⟨hB_G_13, hF, (Or.inl ⟨c_1, ⟨y_2, ey_2, (Or.inr ⟨c_3, ⟨r_12, G_13, hX_16, ⟨rfl, rfl⟩⟩⟩)⟩⟩)⟩), wd_t ht hW⟩, hS.F ht⟩) hS.2.2 dX12_askOf_65
  by_cases c_18 : p1 = 1
  · refine lv_tableIn (tgt := 66) hx hb dX12_askOf_1 (by rw [c_18]; decide) (by rw [c_18]; decide) (off := 65) (by rw [c_18]; decide) (by decide) ?_
    have c_18 : p1.toInt = 1 := xI_eq rfl rfl c_18
    refine lv_aload_n hx hb dX12_askOf_66 rfl (lv_at hl 0 rfl) ?_
    refine S_getR (n := 87) (C := RX12) (T := TX12) (N := 89) hx hb hg iX12 hown hK hW kd_66 rfl 35 (lt_b rfl) (hg (Cond.fieldLink RX12 75 "SlabWalkModel" "marks" "[I") m1349) (fun _ h9 => h9) rfl dX12_askOf_67 ?_
    refine lv_iload_n hx hb dX12_askOf_70 rfl (lv_at hl 1 rfl) ?_
    refine S_iald hx hb hK hW kd_87 (vin (by omega) (by omega)) dX12_askOf_71 (fun y_19 ey_19 => ?_)
    refine lv_if_ge (tgt := 79) hx hb dX12_askOf_72 rfl (fun c_20 => ?_) (fun c_20 => ?_)
    · have c_20 : 0 ≤ y_19.toInt := xI_le rfl rfl c_20
      refine lv_aload_n hx hb dX12_askOf_79 rfl (lv_at hl 0 rfl) ?_
      refine S_getR (n := 87) (C := RX12) (T := TX12) (N := 89) hx hb hg iX12 hown hK hW kd_66 rfl 35 (lt_b rfl) (hg (Cond.fieldLink RX12 75 "SlabWalkModel" "marks" "[I") m1349) (fun _ h9 => h9) rfl dX12_askOf_80 ?_
      refine lv_iload_n hx hb dX12_askOf_83 rfl (lv_at hl 1 rfl) ?_
      refine S_iald hx hb hK hW kd_87 (vin (by omega) (by omega)) dX12_askOf_84 (fun y_21 ey_21 => ?_)
      refine lv_iload_n hx hb dX12_askOf_85 rfl (lv_at hl 2 rfl) ?_
      refine ic_1 hx hb dX12_askOf_86 ?_
      refine lv_isub hx hb dX12_askOf_87 ?_
      refine lv_topi (fun y_22 ey_22 => ?_)
      have ty_22 : y_22.toInt = p1.toInt - 1 := xI_sub rfl rfl ey_22 (by omega) (by omega)
      refine lv_ishr hx hb dX12_askOf_88 ?_
      refine lv_topi (fun y_23 ey_23 => ?_)
      refine ic_1 hx hb dX12_askOf_89 ?_
      refine lv_iand hx hb dX12_askOf_90 ?_
      refine lv_topi (fun y_24 ey_24 => ?_)
      have ty_24 := xI_and (Y := 1) rfl ey_24 (by decide)
      exact W.iret (v := y_24) hx hb hr (fun t ht _ => ⟨⟨y_24, G, rfl, (Q_askOf_mk ⟨hB_G, hF, (Or.inr ⟨(xI_ne (Y := 0) rfl rfl c_1), (Or.inl ⟨c_18, ⟨y_19, ey_19, (Or.inl ⟨c_20, ⟨y_21, ey_21, ⟨y_22, ty_22, ⟨y_23, ey_23, ⟨y_24, ey_24, ⟨rfl, rfl⟩⟩⟩⟩⟩⟩)⟩⟩)⟩)⟩), wd_t ht hW⟩, hS.F ht⟩) hS.2.2 dX12_askOf_91
    · have c_20 : y_19.toInt < 0 := xI_nle rfl rfl c_20
      refine ic_0 hx hb dX12_askOf_75 ?_
      refine lv_goto (tgt := 91) hx hb dX12_askOf_76 rfl ?_
      exact W.iret (v := 0) hx hb hr (fun t ht _ => ⟨⟨0, G, rfl, (Q_askOf_mk ⟨hB_G, hF, (Or.inr ⟨(xI_ne (Y := 0) rfl rfl c_1), (Or.inl ⟨c_18, ⟨y_19, ey_19, (Or.inr ⟨c_20, ⟨rfl, rfl⟩⟩)⟩⟩)⟩)⟩), wd_t ht hW⟩, hS.F ht⟩) hS.2.2 dX12_askOf_91
  by_cases c_25 : p1 = 2
  · refine lv_tableIn (tgt := 66) hx hb dX12_askOf_1 (by rw [c_25]; decide) (by rw [c_25]; decide) (off := 65) (by rw [c_25]; decide) (by decide) ?_
    have c_25 : p1.toInt = 2 := xI_eq rfl rfl c_25
    refine lv_aload_n hx hb dX12_askOf_66 rfl (lv_at hl 0 rfl) ?_
    refine S_getR (n := 87) (C := RX12) (T := TX12) (N := 89) hx hb hg iX12 hown hK hW kd_66 rfl 35 (lt_b rfl) (hg (Cond.fieldLink RX12 75 "SlabWalkModel" "marks" "[I") m1349) (fun _ h9 => h9) rfl dX12_askOf_67 ?_
    refine lv_iload_n hx hb dX12_askOf_70 rfl (lv_at hl 1 rfl) ?_
    refine S_iald hx hb hK hW kd_87 (vin (by omega) (by omega)) dX12_askOf_71 (fun y_26 ey_26 => ?_)
    refine lv_if_ge (tgt := 79) hx hb dX12_askOf_72 rfl (fun c_27 => ?_) (fun c_27 => ?_)
    · have c_27 : 0 ≤ y_26.toInt := xI_le rfl rfl c_27
      refine lv_aload_n hx hb dX12_askOf_79 rfl (lv_at hl 0 rfl) ?_
      refine S_getR (n := 87) (C := RX12) (T := TX12) (N := 89) hx hb hg iX12 hown hK hW kd_66 rfl 35 (lt_b rfl) (hg (Cond.fieldLink RX12 75 "SlabWalkModel" "marks" "[I") m1349) (fun _ h9 => h9) rfl dX12_askOf_80 ?_
      refine lv_iload_n hx hb dX12_askOf_83 rfl (lv_at hl 1 rfl) ?_
      refine S_iald hx hb hK hW kd_87 (vin (by omega) (by omega)) dX12_askOf_84 (fun y_28 ey_28 => ?_)
      refine lv_iload_n hx hb dX12_askOf_85 rfl (lv_at hl 2 rfl) ?_
      refine ic_1 hx hb dX12_askOf_86 ?_
      refine lv_isub hx hb dX12_askOf_87 ?_
      refine lv_topi (fun y_29 ey_29 => ?_)
      have ty_29 : y_29.toInt = p1.toInt - 1 := xI_sub rfl rfl ey_29 (by omega) (by omega)
      refine lv_ishr hx hb dX12_askOf_88 ?_
      refine lv_topi (fun y_30 ey_30 => ?_)
      refine ic_1 hx hb dX12_askOf_89 ?_
      refine lv_iand hx hb dX12_askOf_90 ?_
      refine lv_topi (fun y_31 ey_31 => ?_)
      have ty_31 := xI_and (Y := 1) rfl ey_31 (by decide)
      exact W.iret (v := y_31) hx hb hr (fun t ht _ => ⟨⟨y_31, G, rfl, (Q_askOf_mk ⟨hB_G, hF, (Or.inr ⟨(xI_ne (Y := 0) rfl rfl c_1), (Or.inr ⟨(xI_ne (Y := 1) rfl rfl c_18), (Or.inl ⟨c_25, ⟨y_26, ey_26, (Or.inl ⟨c_27, ⟨y_28, ey_28, ⟨y_29, ty_29, ⟨y_30, ey_30, ⟨y_31, ey_31, ⟨rfl, rfl⟩⟩⟩⟩⟩⟩)⟩⟩)⟩)⟩)⟩), wd_t ht hW⟩, hS.F ht⟩) hS.2.2 dX12_askOf_91
    · have c_27 : y_26.toInt < 0 := xI_nle rfl rfl c_27
      refine ic_0 hx hb dX12_askOf_75 ?_
      refine lv_goto (tgt := 91) hx hb dX12_askOf_76 rfl ?_
      exact W.iret (v := 0) hx hb hr (fun t ht _ => ⟨⟨0, G, rfl, (Q_askOf_mk ⟨hB_G, hF, (Or.inr ⟨(xI_ne (Y := 0) rfl rfl c_1), (Or.inr ⟨(xI_ne (Y := 1) rfl rfl c_18), (Or.inl ⟨c_25, ⟨y_26, ey_26, (Or.inr ⟨c_27, ⟨rfl, rfl⟩⟩)⟩⟩)⟩)⟩)⟩), wd_t ht hW⟩, hS.F ht⟩) hS.2.2 dX12_askOf_91
  by_cases c_32 : p1 = 3
  · refine lv_tableIn (tgt := 66) hx hb dX12_askOf_1 (by rw [c_32]; decide) (by rw [c_32]; decide) (off := 65) (by rw [c_32]; decide) (by decide) ?_
    have c_32 : p1.toInt = 3 := xI_eq rfl rfl c_32
    refine lv_aload_n hx hb dX12_askOf_66 rfl (lv_at hl 0 rfl) ?_
    refine S_getR (n := 87) (C := RX12) (T := TX12) (N := 89) hx hb hg iX12 hown hK hW kd_66 rfl 35 (lt_b rfl) (hg (Cond.fieldLink RX12 75 "SlabWalkModel" "marks" "[I") m1349) (fun _ h9 => h9) rfl dX12_askOf_67 ?_
    refine lv_iload_n hx hb dX12_askOf_70 rfl (lv_at hl 1 rfl) ?_
    refine S_iald hx hb hK hW kd_87 (vin (by omega) (by omega)) dX12_askOf_71 (fun y_33 ey_33 => ?_)
    refine lv_if_ge (tgt := 79) hx hb dX12_askOf_72 rfl (fun c_34 => ?_) (fun c_34 => ?_)
    · have c_34 : 0 ≤ y_33.toInt := xI_le rfl rfl c_34
      refine lv_aload_n hx hb dX12_askOf_79 rfl (lv_at hl 0 rfl) ?_
      refine S_getR (n := 87) (C := RX12) (T := TX12) (N := 89) hx hb hg iX12 hown hK hW kd_66 rfl 35 (lt_b rfl) (hg (Cond.fieldLink RX12 75 "SlabWalkModel" "marks" "[I") m1349) (fun _ h9 => h9) rfl dX12_askOf_80 ?_
      refine lv_iload_n hx hb dX12_askOf_83 rfl (lv_at hl 1 rfl) ?_
      refine S_iald hx hb hK hW kd_87 (vin (by omega) (by omega)) dX12_askOf_84 (fun y_35 ey_35 => ?_)
      refine lv_iload_n hx hb dX12_askOf_85 rfl (lv_at hl 2 rfl) ?_
      refine ic_1 hx hb dX12_askOf_86 ?_
      refine lv_isub hx hb dX12_askOf_87 ?_
      refine lv_topi (fun y_36 ey_36 => ?_)
      have ty_36 : y_36.toInt = p1.toInt - 1 := xI_sub rfl rfl ey_36 (by omega) (by omega)
      refine lv_ishr hx hb dX12_askOf_88 ?_
      refine lv_topi (fun y_37 ey_37 => ?_)
      refine ic_1 hx hb dX12_askOf_89 ?_
      refine lv_iand hx hb dX12_askOf_90 ?_
      refine lv_topi (fun y_38 ey_38 => ?_)
      have ty_38 := xI_and (Y := 1) rfl ey_38 (by decide)
      exact W.iret (v := y_38) hx hb hr (fun t ht _ => ⟨⟨y_38, G, rfl, (Q_askOf_mk ⟨hB_G, hF, (Or.inr ⟨(xI_ne (Y := 0) rfl rfl c_1), (Or.inr ⟨(xI_ne (Y := 1) rfl rfl c_18), (Or.inr ⟨(xI_ne (Y := 2) rfl rfl c_25), (Or.inl ⟨c_32, ⟨y_33, ey_33, (Or.inl ⟨c_34, ⟨y_35, ey_35, ⟨y_36, ty_36, ⟨y_37, ey_37, ⟨y_38, ey_38, ⟨rfl, rfl⟩⟩⟩⟩⟩⟩)⟩⟩)⟩)⟩)⟩)⟩), wd_t ht hW⟩, hS.F ht⟩) hS.2.2 dX12_askOf_91
    · have c_34 : y_33.toInt < 0 := xI_nle rfl rfl c_34
      refine ic_0 hx hb dX12_askOf_75 ?_
      refine lv_goto (tgt := 91) hx hb dX12_askOf_76 rfl ?_
      exact W.iret (v := 0) hx hb hr (fun t ht _ => ⟨⟨0, G, rfl, (Q_askOf_mk ⟨hB_G, hF, (Or.inr ⟨(xI_ne (Y := 0) rfl rfl c_1), (Or.inr ⟨(xI_ne (Y := 1) rfl rfl c_18), (Or.inr ⟨(xI_ne (Y := 2) rfl rfl c_25), (Or.inl ⟨c_32, ⟨y_33, ey_33, (Or.inr ⟨c_34, ⟨rfl, rfl⟩⟩)⟩⟩)⟩)⟩)⟩)⟩), wd_t ht hW⟩, hS.F ht⟩) hS.2.2 dX12_askOf_91
  by_cases c_39 : p1 = 4
  · refine lv_tableIn (tgt := 66) hx hb dX12_askOf_1 (by rw [c_39]; decide) (by rw [c_39]; decide) (off := 65) (by rw [c_39]; decide) (by decide) ?_
    have c_39 : p1.toInt = 4 := xI_eq rfl rfl c_39
    refine lv_aload_n hx hb dX12_askOf_66 rfl (lv_at hl 0 rfl) ?_
    refine S_getR (n := 87) (C := RX12) (T := TX12) (N := 89) hx hb hg iX12 hown hK hW kd_66 rfl 35 (lt_b rfl) (hg (Cond.fieldLink RX12 75 "SlabWalkModel" "marks" "[I") m1349) (fun _ h9 => h9) rfl dX12_askOf_67 ?_
    refine lv_iload_n hx hb dX12_askOf_70 rfl (lv_at hl 1 rfl) ?_
    refine S_iald hx hb hK hW kd_87 (vin (by omega) (by omega)) dX12_askOf_71 (fun y_40 ey_40 => ?_)
    refine lv_if_ge (tgt := 79) hx hb dX12_askOf_72 rfl (fun c_41 => ?_) (fun c_41 => ?_)
    · have c_41 : 0 ≤ y_40.toInt := xI_le rfl rfl c_41
      refine lv_aload_n hx hb dX12_askOf_79 rfl (lv_at hl 0 rfl) ?_
      refine S_getR (n := 87) (C := RX12) (T := TX12) (N := 89) hx hb hg iX12 hown hK hW kd_66 rfl 35 (lt_b rfl) (hg (Cond.fieldLink RX12 75 "SlabWalkModel" "marks" "[I") m1349) (fun _ h9 => h9) rfl dX12_askOf_80 ?_
      refine lv_iload_n hx hb dX12_askOf_83 rfl (lv_at hl 1 rfl) ?_
      refine S_iald hx hb hK hW kd_87 (vin (by omega) (by omega)) dX12_askOf_84 (fun y_42 ey_42 => ?_)
      refine lv_iload_n hx hb dX12_askOf_85 rfl (lv_at hl 2 rfl) ?_
      refine ic_1 hx hb dX12_askOf_86 ?_
      refine lv_isub hx hb dX12_askOf_87 ?_
      refine lv_topi (fun y_43 ey_43 => ?_)
      have ty_43 : y_43.toInt = p1.toInt - 1 := xI_sub rfl rfl ey_43 (by omega) (by omega)
      refine lv_ishr hx hb dX12_askOf_88 ?_
      refine lv_topi (fun y_44 ey_44 => ?_)
      refine ic_1 hx hb dX12_askOf_89 ?_
      refine lv_iand hx hb dX12_askOf_90 ?_
      refine lv_topi (fun y_45 ey_45 => ?_)
      have ty_45 := xI_and (Y := 1) rfl ey_45 (by decide)
      exact W.iret (v := y_45) hx hb hr (fun t ht _ => ⟨⟨y_45, G, rfl, (Q_askOf_mk ⟨hB_G, hF, (Or.inr ⟨(xI_ne (Y := 0) rfl rfl c_1), (Or.inr ⟨(xI_ne (Y := 1) rfl rfl c_18), (Or.inr ⟨(xI_ne (Y := 2) rfl rfl c_25), (Or.inr ⟨(xI_ne (Y := 3) rfl rfl c_32), (Or.inl ⟨c_39, ⟨y_40, ey_40, (Or.inl ⟨c_41, ⟨y_42, ey_42, ⟨y_43, ty_43, ⟨y_44, ey_44, ⟨y_45, ey_45, ⟨rfl, rfl⟩⟩⟩⟩⟩⟩)⟩⟩)⟩)⟩)⟩)⟩)⟩), wd_t ht hW⟩, hS.F ht⟩) hS.2.2 dX12_askOf_91
    · have c_41 : y_40.toInt < 0 := xI_nle rfl rfl c_41
      refine ic_0 hx hb dX12_askOf_75 ?_
      refine lv_goto (tgt := 91) hx hb dX12_askOf_76 rfl ?_
      exact W.iret (v := 0) hx hb hr (fun t ht _ => ⟨⟨0, G, rfl, (Q_askOf_mk ⟨hB_G, hF, (Or.inr ⟨(xI_ne (Y := 0) rfl rfl c_1), (Or.inr ⟨(xI_ne (Y := 1) rfl rfl c_18), (Or.inr ⟨(xI_ne (Y := 2) rfl rfl c_25), (Or.inr ⟨(xI_ne (Y := 3) rfl rfl c_32), (Or.inl ⟨c_39, ⟨y_40, ey_40, (Or.inr ⟨c_41, ⟨rfl, rfl⟩⟩)⟩⟩)⟩)⟩)⟩)⟩)⟩), wd_t ht hW⟩, hS.F ht⟩) hS.2.2 dX12_askOf_91
  by_cases c_46 : p1 = 5
  · refine lv_tableIn (tgt := 92) hx hb dX12_askOf_1 (by rw [c_46]; decide) (by rw [c_46]; decide) (off := 91) (by rw [c_46]; decide) (by decide) ?_
    have c_46 : p1.toInt = 5 := xI_eq rfl rfl c_46
    refine lv_aload_n hx hb dX12_askOf_92 rfl (lv_at hl 0 rfl) ?_
    refine S_getR (n := 90) (C := RX12) (T := TX12) (N := 89) hx hb hg iX12 hown hK hW kd_66 rfl 38 (lt_b rfl) (hg (Cond.fieldLink RX12 84 "SlabWalkModel" "longs" "[I") m1352) (fun _ h9 => h9) rfl dX12_askOf_93 ?_
    refine lv_iload_n hx hb dX12_askOf_96 rfl (lv_at hl 1 rfl) ?_
    refine S_iald hx hb hK hW kd_90 (vin (by omega) (by omega)) dX12_askOf_97 (fun y_47 ey_47 => ?_)
    exact W.iret (v := y_47) hx hb hr (fun t ht _ => ⟨⟨y_47, G, rfl, (Q_askOf_mk ⟨hB_G, hF, (Or.inr ⟨(xI_ne (Y := 0) rfl rfl c_1), (Or.inr ⟨(xI_ne (Y := 1) rfl rfl c_18), (Or.inr ⟨(xI_ne (Y := 2) rfl rfl c_25), (Or.inr ⟨(xI_ne (Y := 3) rfl rfl c_32), (Or.inr ⟨(xI_ne (Y := 4) rfl rfl c_39), (Or.inl ⟨c_46, ⟨y_47, ey_47, ⟨rfl, rfl⟩⟩⟩)⟩)⟩)⟩)⟩)⟩)⟩), wd_t ht hW⟩, hS.F ht⟩) hS.2.2 dX12_askOf_98
  by_cases c_48 : p1 = 6
  · refine lv_tableIn (tgt := 99) hx hb dX12_askOf_1 (by rw [c_48]; decide) (by rw [c_48]; decide) (off := 98) (by rw [c_48]; decide) (by decide) ?_
    have c_48 : p1.toInt = 6 := xI_eq rfl rfl c_48
    refine lv_aload_n hx hb dX12_askOf_99 rfl (lv_at hl 0 rfl) ?_
    refine S_getR (n := 88) (C := RX12) (T := TX12) (N := 89) hx hb hg iX12 hown hK hW kd_66 rfl 36 (lt_b rfl) (hg (Cond.fieldLink RX12 78 "SlabWalkModel" "nths" "[I") m1350) (fun _ h9 => h9) rfl dX12_askOf_100 ?_
    refine lv_iload_n hx hb dX12_askOf_103 rfl (lv_at hl 1 rfl) ?_
    refine S_iald hx hb hK hW kd_88 (vin (by omega) (by omega)) dX12_askOf_104 (fun y_49 ey_49 => ?_)
    exact W.iret (v := y_49) hx hb hr (fun t ht _ => ⟨⟨y_49, G, rfl, (Q_askOf_mk ⟨hB_G, hF, (Or.inr ⟨(xI_ne (Y := 0) rfl rfl c_1), (Or.inr ⟨(xI_ne (Y := 1) rfl rfl c_18), (Or.inr ⟨(xI_ne (Y := 2) rfl rfl c_25), (Or.inr ⟨(xI_ne (Y := 3) rfl rfl c_32), (Or.inr ⟨(xI_ne (Y := 4) rfl rfl c_39), (Or.inr ⟨(xI_ne (Y := 5) rfl rfl c_46), (Or.inl ⟨c_48, ⟨y_49, ey_49, ⟨rfl, rfl⟩⟩⟩)⟩)⟩)⟩)⟩)⟩)⟩)⟩), wd_t ht hW⟩, hS.F ht⟩) hS.2.2 dX12_askOf_105
  by_cases c_50 : p1 = 7
  · refine lv_tableIn (tgt := 106) hx hb dX12_askOf_1 (by rw [c_50]; decide) (by rw [c_50]; decide) (off := 105) (by rw [c_50]; decide) (by decide) ?_
    have c_50 : p1.toInt = 7 := xI_eq rfl rfl c_50
    refine lv_aload_n hx hb dX12_askOf_106 rfl (lv_at hl 0 rfl) ?_
    refine S_getR (n := 89) (C := RX12) (T := TX12) (N := 89) hx hb hg iX12 hown hK hW kd_66 rfl 37 (lt_b rfl) (hg (Cond.fieldLink RX12 81 "SlabWalkModel" "inches" "[I") m1351) (fun _ h9 => h9) rfl dX12_askOf_107 ?_
    refine lv_iload_n hx hb dX12_askOf_110 rfl (lv_at hl 1 rfl) ?_
    refine S_iald hx hb hK hW kd_89 (vin (by omega) (by omega)) dX12_askOf_111 (fun y_51 ey_51 => ?_)
    exact W.iret (v := y_51) hx hb hr (fun t ht _ => ⟨⟨y_51, G, rfl, (Q_askOf_mk ⟨hB_G, hF, (Or.inr ⟨(xI_ne (Y := 0) rfl rfl c_1), (Or.inr ⟨(xI_ne (Y := 1) rfl rfl c_18), (Or.inr ⟨(xI_ne (Y := 2) rfl rfl c_25), (Or.inr ⟨(xI_ne (Y := 3) rfl rfl c_32), (Or.inr ⟨(xI_ne (Y := 4) rfl rfl c_39), (Or.inr ⟨(xI_ne (Y := 5) rfl rfl c_46), (Or.inr ⟨(xI_ne (Y := 6) rfl rfl c_48), (Or.inl ⟨c_50, ⟨y_51, ey_51, ⟨rfl, rfl⟩⟩⟩)⟩)⟩)⟩)⟩)⟩)⟩)⟩)⟩), wd_t ht hW⟩, hS.F ht⟩) hS.2.2 dX12_askOf_112
  refine lv_tableOut (tgt := 113) hx hb dX12_askOf_1 (tb_out (lo := 0) (hi := 7) (by have c_1 := xI_ne (Y := 0) rfl rfl c_1; have c_18 := xI_ne (Y := 1) rfl rfl c_18; have c_25 := xI_ne (Y := 2) rfl rfl c_25; have c_32 := xI_ne (Y := 3) rfl rfl c_32; have c_39 := xI_ne (Y := 4) rfl rfl c_39; have c_46 := xI_ne (Y := 5) rfl rfl c_46; have c_48 := xI_ne (Y := 6) rfl rfl c_48; have c_50 := xI_ne (Y := 7) rfl rfl c_50; omega)) (by decide) ?_
  have c_1 := xI_ne (Y := 0) rfl rfl c_1
  have c_18 := xI_ne (Y := 1) rfl rfl c_18
  have c_25 := xI_ne (Y := 2) rfl rfl c_25
  have c_32 := xI_ne (Y := 3) rfl rfl c_32
  have c_39 := xI_ne (Y := 4) rfl rfl c_39
  have c_46 := xI_ne (Y := 5) rfl rfl c_46
  have c_48 := xI_ne (Y := 6) rfl rfl c_48
  have c_50 := xI_ne (Y := 7) rfl rfl c_50
  refine lv_aload_n hx hb dX12_askOf_113 rfl (lv_at hl 0 rfl) ?_
  refine S_getR (n := 110) (C := RX12) (T := TX12) (N := 89) hx hb hg iX12 hown hK hW kd_66 rfl 76 (lt_b rfl) (hg (Cond.fieldLink RX12 151 "SlabWalkModel" "now" "[I") m1390) (fun _ h9 => h9) rfl dX12_askOf_114 ?_
  refine lv_bipush (v := 6) hx hb dX12_askOf_117 (by decide) ?_
  refine S_iald hx hb hK hW kd_110 (vin (by decide) (by decide)) dX12_askOf_119 (fun y_52 ey_52 => ?_)
  exact W.iret (v := y_52) hx hb hr (fun t ht _ => ⟨⟨y_52, G, rfl, (Q_askOf_mk ⟨hB_G, hF, (Or.inr ⟨c_1, (Or.inr ⟨c_18, (Or.inr ⟨c_25, (Or.inr ⟨c_32, (Or.inr ⟨c_39, (Or.inr ⟨c_46, (Or.inr ⟨c_48, (Or.inr ⟨c_50, ⟨y_52, ey_52, ⟨rfl, rfl⟩⟩⟩)⟩)⟩)⟩)⟩)⟩)⟩)⟩)⟩), wd_t ht hW⟩, hS.F ht⟩) hS.2.2 dX12_askOf_120

set_option maxHeartbeats 4000000 in
set_option maxRecDepth 100000 in
theorem n_worked (l : Launch) (D : va_G) (k : KT) (A : Nat → Prop) (a : Nat → Nat) (z : SK) (G : GS) (p0 : Int32) (p1 : Int32) (ha_p0 : 0 ≤ p0.toInt ∧ p0.toInt ≤ 5) (ha_p1 : 0 ≤ p1.toInt ∧ p1.toInt ≤ 1199) (hP9 : gP G = 1) (hpr : p0.toInt < (G.1 66 54).toInt) : Met l yX12_worked (WS yX12_worked cX12_worked 5 (some .int)) ({ frames := 2, cells := 0, slots := 0, locals := 42 }) (va_Pc [.ref (a 66), .int p0, .int p1] (cW D k A a z G)) (va_Qi (fun (r : Int32) (G1 : GS) => Q_worked p0 p1 G r G1) (fun (G1 : GS) t => Wd D k A a G1 t.heap) A) 0 0 A := by
  refine Met.ofW (cc := cX12_worked) (maxL := 5) (ret := (some .int)) (by decide) rfl ?_
  intro p e s m args below meth c s₁ B hml hv
  obtain ⟨rfl, hW, hB_G, hK, hZ⟩ := hv
  have hx := B.exec
  have hb := B.bytes
  have hr := B.returns
  have hts := atoms_spec (ws := WS yX12_worked cX12_worked 5 (some .int)) B.pre
  have hgd : ∀ w ∈ gd, w ∈ WS yX12_worked cX12_worked 5 (some .int) := fun w h => List.mem_cons_of_mem _ h
  have hg : ∀ w ∈ gd, w.before _ s = true := fun w h => hts w (hgd w h)
  have hown : s.vm.findClass RX12 = some m.cls := findClass_of_methodNamed B.named
  have hS : va_S A s.heap s.heap [] := va_S.rf
  have hF : Fr [76] [] G G := Fr.rf
  have hl := lv_entry ([.ref (a 66), .int p0, .int p1]) (n := 5) (Nat.le_of_ble_eq_true rfl)
  rw [lg_entry_eq]
  generalize (lg_sl ([.ref (a 66), .int p0, .int p1]) ++ List.replicate (5 - (lg_sl ([.ref (a 66), .int p0, .int p1])).length) Slot.unset).toArray = ls at hl ⊢
  have hl : lv_has ls 5 [(0, .ref (a 66)), (1, .int p0), (2, .int p1)] := hl
  refine ic_0 hx hb dX12_worked_0 ?_
  refine lv_istore_n (lv' := [(3, .int 0), (0, .ref (a 66)), (1, .int p0), (2, .int p1)]) hx hb dX12_worked_1 rfl hl (lt_b rfl) rfl (fun ls hl => ?_)
  refine lv_sipush (v := 320) hx hb dX12_worked_2 (by decide) ?_
  refine lv_iload_n hx hb dX12_worked_5 rfl (lv_at hl 2 rfl) ?_
  refine lv_imul hx hb dX12_worked_6 ?_
  refine lv_topi (fun y_1 ey_1 => ?_)
  have ty_1 : y_1.toInt = 320 * p0.toInt := xI_mul rfl rfl ey_1 (by omega) (by omega)
  have u_2 : dpK (G.1 72) (320 * p0.toInt) y_1.toInt = 0 := by rw [ty_1]; exact dpK_0 _ _
  have u_3 : 0 ≤ (G.1 74 p0.toNatClampNeg).toInt ∧ (G.1 74 p0.toNatClampNeg).toInt ≤ 320 := hB_G.i 74 _ rfl rfl
  refine lv_istore (lv' := [(4, .int y_1), (3, .int 0), (0, .ref (a 66)), (1, .int p0), (2, .int p1)]) hx hb dX12_worked_7 hl (lt_b rfl) rfl (fun ls hl => ?_)
  have qc_11 : (0 : Int32).toInt = 0 := rfl
  refine loop_N (Inv := fun n H locs ls => ∃ (G_4 : GS) (x_8 : Int32) (x_9 : Int32), (n : Int) = 1920 - x_8.toInt ∧ (0 ≤ x_8.toInt ∧ x_8.toInt ≤ 1920) ∧ (0 ≤ x_9.toInt ∧ x_9.toInt ≤ 41) ∧ (x_9.toInt = dpK (G.1 72) (320 * p0.toInt) x_8.toInt) ∧ (320 * p0.toInt ≤ x_8.toInt) ∧ (x_8.toInt ≤ 320 * p0.toInt + (G.1 74 p0.toNatClampNeg).toInt) ∧ Rc (St_n_worked_1 p0 p1 G) (y_1, 0, G) (x_8, x_9, G_4) ∧ Wd D k A a G_4 H ∧ Bd G_4 ∧ Fr [76] [] G G_4 ∧ Fr [76] [] G G_4 ∧ va_S A s.heap H locs ∧ lv_has ls 5 [(4, .int x_8), (3, .int x_9), (0, .ref (a 66)), (1, .int p0), (2, .int p1)]) (fun n_7 H locs ls ih_6 hI => ?_) (1920 - y_1.toInt : Int).toNat ⟨G, y_1, 0, (Int.toNat_of_nonneg (by omega)), ⟨by omega, by omega⟩, ⟨(by first | (clear ha_p0 ha_p1 hP9 hpr ty_1 u_2 u_3; omega) | omega), (by first | (clear ha_p0 ha_p1 hP9 hpr ty_1 u_2 u_3; omega) | omega)⟩, (by omega), (by omega), (by omega), Rc.rf, hW, hB_G, hF, Fr.rf, hS, lv_sub hl [0, 1, 2, 3, 4] rfl⟩
  obtain ⟨G_4, x_8, x_9, hn_17, f_12, f_13, f_14, f_15, f_16, hX_10, hW, hB_G_4, hF, hq_5, hS, hl⟩ := hI
  refine lv_iload hx hb dX12_worked_9 (lv_at hl 0 rfl) ?_
  refine lv_sipush (v := 320) hx hb dX12_worked_11 (by decide) ?_
  refine lv_iload_n hx hb dX12_worked_14 rfl (lv_at hl 3 rfl) ?_
  refine lv_imul hx hb dX12_worked_15 ?_
  refine lv_topi (fun y_18 ey_18 => ?_)
  have ty_18 : y_18.toInt = 320 * p0.toInt := xI_mul rfl rfl ey_18 ((by first | (clear ha_p1 hP9 hn_17; omega) | omega)) ((by first | (clear ha_p1 hP9 hn_17; omega) | omega))
  refine lv_aload_n hx hb dX12_worked_16 rfl (lv_at hl 2 rfl) ?_
  refine S_getR (n := 74) (C := RX12) (T := TX12) (N := 89) hx hb hg iX12 hown hK hW kd_66 rfl 16 (lt_b rfl) (hg (Cond.fieldLink RX12 36 "SlabWalkModel" "many" "[I") m1330) (fun _ h9 => h9) rfl dX12_worked_17 ?_
  refine lv_iload_n hx hb dX12_worked_20 rfl (lv_at hl 3 rfl) ?_
  refine S_iald hx hb hK hW kd_74 (vin ((by first | (clear ha_p1 hP9 hn_17; omega) | omega)) ((by first | (clear ha_p1 hP9 hn_17; omega) | omega))) dX12_worked_21 (fun y_19 ey_19 => ?_)
  have ty_19 : 0 ≤ y_19.toInt ∧ y_19.toInt ≤ 320 := bv_74 hB_G_4 ey_19
  have u_20 : y_19.toInt = (G.1 74 p0.toNatClampNeg).toInt := congrArg Int32.toInt (ey_19.trans ((hq_5.ri9 74 rfl p0.toNatClampNeg)))
  refine lv_iadd hx hb dX12_worked_22 ?_
  refine lv_topi (fun y_21 ey_21 => ?_)
  have ty_21 : y_21.toInt = y_18.toInt + y_19.toInt := xI_add rfl rfl ey_21 ((by first | (clear ha_p1 hP9 hn_17; omega) | omega)) ((by first | (clear ha_p1 hP9 hn_17; omega) | omega))
  refine lv_icmp_ge (tgt := 173) hx hb dX12_worked_23 rfl (fun c_22 => ?_) (fun c_22 => ?_)
  · have c_22 : y_21.toInt ≤ x_8.toInt := xI_le rfl rfl c_22
    refine lv_aload_n hx hb dX12_worked_173 rfl (lv_at hl 2 rfl) ?_
    refine S_getR (n := 76) (C := RX12) (T := TX12) (N := 89) hx hb hg iX12 hown hK hW kd_66 rfl 18 (lt_b rfl) (hg (Cond.fieldLink RX12 42 "SlabWalkModel" "values" "[I") m1332) (fun _ h9 => h9) rfl dX12_worked_174 ?_
    refine ic_0 hx hb dX12_worked_177 ?_
    refine S_iald hx hb hK hW kd_76 (vin (by decide) (by decide)) dX12_worked_178 (fun y_23 ey_23 => ?_)
    exact W.iret (v := y_23) hx hb hr (fun t ht _ => ⟨⟨y_23, G_4, rfl, (Q_worked_mk ⟨hB_G_4, hF, ⟨y_1, ty_1, ⟨x_8, x_9, G_4, hX_10, f_12, f_13, f_14, f_15, f_16, hB_G_4, hq_5, ⟨y_18, ty_18, ⟨y_19, ey_19, ⟨y_21, ty_21, ⟨c_22, ⟨y_23, ey_23, ⟨rfl, rfl⟩⟩⟩⟩⟩⟩⟩⟩⟩), wd_t ht hW⟩, hS.F ht⟩) hS.2.2 dX12_worked_179
  · have c_22 : x_8.toInt < y_21.toInt := xI_nle rfl rfl c_22
    refine lv_aload_n hx hb dX12_worked_26 rfl (lv_at hl 2 rfl) ?_
    refine S_getR (n := 72) (C := RX12) (T := TX12) (N := 89) hx hb hg iX12 hown hK hW kd_66 rfl 14 (lt_b rfl) (hg (Cond.fieldLink RX12 30 "SlabWalkModel" "step" "[I") m1328) (fun _ h9 => h9) rfl dX12_worked_27 ?_
    refine lv_iload hx hb dX12_worked_30 (lv_at hl 0 rfl) ?_
    refine S_iald hx hb hK hW kd_72 (vin ((by first | (clear ha_p1 hP9 hn_17; omega) | omega)) ((by first | (clear ha_p1 hP9 hn_17; omega) | omega))) dX12_worked_32 (fun y_24 ey_24 => ?_)
    have u_25 : y_24.toInt = (G.1 72 x_8.toNatClampNeg).toInt := congrArg Int32.toInt (ey_24.trans ((hq_5.ri9 72 rfl x_8.toNatClampNeg)))
    have u_26 := wk_step (ind_p hP9) (p := p0) (k := x_8) (y := y_24) (by omega) (by rw [tN (by omega)]; omega) (by omega) (by omega) (by omega)
    refine lv_if_eq (tgt := 47) hx hb dX12_worked_33 rfl (fun c_27 => ?_) (fun c_27 => ?_)
    · have c_27 : y_24.toInt = 0 := xI_eq rfl rfl c_27
      refine lv_aload_n hx hb dX12_worked_47 rfl (lv_at hl 2 rfl) ?_
      refine S_getR (n := 76) (C := RX12) (T := TX12) (N := 89) hx hb hg iX12 hown hK hW kd_66 rfl 18 (lt_b rfl) (hg (Cond.fieldLink RX12 42 "SlabWalkModel" "values" "[I") m1332) (fun _ h9 => h9) rfl dX12_worked_48 ?_
      refine lv_iload_n hx hb dX12_worked_51 rfl (lv_at hl 1 rfl) ?_
      refine lv_aload_n hx hb dX12_worked_52 rfl (lv_at hl 2 rfl) ?_
      refine S_getR (n := 72) (C := RX12) (T := TX12) (N := 89) hx hb hg iX12 hown hK hW kd_66 rfl 14 (lt_b rfl) (hg (Cond.fieldLink RX12 30 "SlabWalkModel" "step" "[I") m1328) (fun _ h9 => h9) rfl dX12_worked_53 ?_
      refine lv_iload hx hb dX12_worked_56 (lv_at hl 0 rfl) ?_
      refine S_iald hx hb hK hW kd_72 (vin ((by first | (clear ha_p1 hP9 hn_17; omega) | omega)) ((by first | (clear ha_p1 hP9 hn_17; omega) | omega))) dX12_worked_58 (fun y_28 ey_28 => ?_)
      have u_29 : y_28.toInt = y_24.toInt := congrArg Int32.toInt (ey_28.trans (ey_24.symm))
      refine lv_if_ne (tgt := 72) hx hb dX12_worked_59 rfl (fun c_30 => ?_) (fun c_30 => ?_)
      · have c_30 : y_28.toInt ≠ 0 := xI_ne rfl rfl c_30
        refine lv_aload_n hx hb dX12_worked_72 rfl (lv_at hl 2 rfl) ?_
        refine lv_iload_n hx hb dX12_worked_73 rfl (lv_at hl 4 rfl) ?_
        refine lv_aload_n hx hb dX12_worked_74 rfl (lv_at hl 2 rfl) ?_
        refine S_getR (n := 73) (C := RX12) (T := TX12) (N := 89) hx hb hg iX12 hown hK hW kd_66 rfl 15 (lt_b rfl) (hg (Cond.fieldLink RX12 33 "SlabWalkModel" "arg" "[I") m1329) (fun _ h9 => h9) rfl dX12_worked_75 ?_
        refine lv_iload hx hb dX12_worked_78 (lv_at hl 0 rfl) ?_
        refine S_iald hx hb hK hW kd_73 (vin ((by first | (clear ha_p1 hP9 hn_17; omega) | omega)) ((by first | (clear ha_p1 hP9 hn_17; omega) | omega))) dX12_worked_80 (fun y_31 ey_31 => ?_)
        have u_32 : y_31.toInt = (G.1 73 x_8.toNatClampNeg).toInt := congrArg Int32.toInt (ey_31.trans ((hq_5.ri9 73 rfl x_8.toNatClampNeg)))
        refine S_calli (va_runV (As := [.int p1, .int y_31]) (rest := [.int x_9, .ref (a 76)]) ⟨hx, hb, hml, hown, hts⟩ (n_askOf l D k A a z G_4 p1 y_31 ⟨(by first | (clear ha_p0 hP9 hpr ty_1 u_2 u_3 hn_17 f_12 f_13 f_14 f_15 f_16 ty_18 ty_19 u_20 ty_21 c_22 u_25 c_27 u_29 c_30 u_32; omega) | omega), (by first | (clear ha_p0 hP9 hpr ty_1 u_2 u_3 hn_17 f_12 f_13 f_14 f_15 f_16 ty_18 ty_19 u_20 ty_21 c_22 u_25 c_27 u_29 c_30 u_32; omega) | omega)⟩) (cwV 2 hts (gd_V hgd m1811 m1813 m88 m131 m1814) rfl rfl rfl hd_X12_askOf ⟨Nat.le_of_ble_eq_true rfl, Nat.le_of_ble_eq_true rfl⟩) (pre_W hW hB_G_4 hK hZ hS kd_66 rfl) rfl rfl hl.1 rfl (lv_room (Nat.le_of_ble_eq_true rfl)) dX12_worked_81 ⟨Nat.le_of_ble_eq_true rfl, Nat.le_of_ble_eq_true rfl⟩) hS (fun r_33 G_34 H locs hpo hW hS => ?_)
        have hX_37 : Q_askOf p1 y_31 G_4 r_33 G_34 := hpo
        obtain ⟨hB_G_34, hq_35, -⟩ := hpo
        have hF := hF.call9 hq_35 rfl rfl
        refine S_iast hx hb hK hW hS kd_76 (vin ((by first | (clear ha_p1 hP9 hn_17; omega) | omega)) ((by first | (clear ha_p1 hP9 hn_17; omega) | omega))) dX12_worked_84 (fun G_38 H locs eG_38 hW hS => ?_)
        have hB_G_38 : Bd G_38 := hB_G_34.put (lo := (-2147483648)) (hi := 2147483647) eG_38 rfl rfl rfl (tI_rng _).1 (tI_rng _).2 (hB_G_34.2.put eG_38 rfl)
        have hF := hF.put eG_38 (Or.inl (by decide))
        obtain ⟨y_39, ey_39⟩ : ∃ q, q = x_9 + 1 := ⟨_, rfl⟩
        have ty_39 : y_39.toInt = x_9.toInt + 1 := xI_add rfl rfl ey_39 ((by first | (clear ha_p1 hP9 hn_17; omega) | omega)) ((by first | (clear ha_p1 hP9 hn_17; omega) | omega))
        refine lv_iinc (v := y_39) (lv' := [(3, .int y_39), (4, .int x_8), (0, .ref (a 66)), (1, .int p0), (2, .int p1)]) hx hb dX12_worked_85 hl (k := 1) rfl (by rw [ey_39]; rfl) (lt_b rfl) rfl (fun ls hl => ?_)
        refine lv_goto (tgt := 167) hx hb dX12_worked_88 rfl ?_
        obtain ⟨y_40, ey_40⟩ : ∃ q, q = x_8 + 1 := ⟨_, rfl⟩
        have ty_40 : y_40.toInt = x_8.toInt + 1 := xI_add rfl rfl ey_40 ((by first | (clear ha_p1 hP9 hn_17; omega) | omega)) ((by first | (clear ha_p1 hP9 hn_17; omega) | omega))
        refine lv_iinc (v := y_40) (lv' := [(4, .int y_40), (3, .int y_39), (0, .ref (a 66)), (1, .int p0), (2, .int p1)]) hx hb dX12_worked_167 hl (k := 1) rfl (by rw [ey_40]; rfl) (lt_b rfl) rfl (fun ls hl => ?_)
        have u_41 : dpK (G.1 72) (320 * p0.toInt) y_40.toInt = dpK (G.1 72) (320 * p0.toInt) (x_8.toInt + 1) := by rw [ty_40]
        refine lv_goto (tgt := 9) hx hb dX12_worked_170 rfl ?_
        exact ih_6 (1920 - y_40.toInt : Int).toNat (by omega) _ _ _ ⟨G_38, y_40, y_39, (Int.toNat_of_nonneg ((by first | (clear ha_p1 hP9 hn_17; omega) | omega))), ⟨(by first | (clear ha_p1 hP9 hn_17; omega) | omega), (by first | (clear ha_p1 hP9 hn_17; omega) | omega)⟩, ⟨(by first | (clear ha_p1 hP9 hn_17; omega) | omega), (by first | (clear ha_p1 hP9 hn_17; omega) | omega)⟩, ((by first | (clear ha_p1 hP9 hn_17; omega) | omega)), ((by first | (clear ha_p1 hP9 hn_17; omega) | omega)), ((by first | (clear ha_p1 hP9 hn_17; omega) | omega)), (hX_10.st (St_n_worked_1_mk ⟨x_8, x_9, G_4, y_40, y_39, G_38, rfl, rfl, f_12, f_13, f_14, f_15, f_16, hB_G_4, ⟨y_18, ty_18, ⟨y_19, ey_19, ⟨y_21, ty_21, ⟨c_22, ⟨y_24, ey_24, (Or.inl ⟨c_27, ⟨y_28, ey_28, (Or.inr ⟨c_30, ⟨y_31, ey_31, ⟨r_33, G_34, hX_37, ⟨y_39, ty_39, ⟨y_40, ty_40, ⟨rfl, rfl, (Fr.put (rs := [76]) (fs := []) Fr.rf eG_38 (Or.inl (by decide))), rw_ast eG_38⟩⟩⟩⟩⟩⟩)⟩⟩)⟩⟩⟩⟩⟩⟩)), hW, hB_G_38, hF, (Fr.put (rs := [76]) (fs := []) (Fr.call9 (rs := [76]) (fs := []) (Fr.call9 (rs := [76]) (fs := []) Fr.rf hq_5 rfl rfl) hq_35 rfl rfl) eG_38 (Or.inl (by decide))), hS, lv_sub hl [0, 1, 2, 3, 4] rfl⟩
      · have c_30 : y_28.toInt = 0 := xI_eq rfl rfl c_30
        refine lv_aload_n hx hb dX12_worked_62 rfl (lv_at hl 2 rfl) ?_
        refine S_getR (n := 73) (C := RX12) (T := TX12) (N := 89) hx hb hg iX12 hown hK hW kd_66 rfl 15 (lt_b rfl) (hg (Cond.fieldLink RX12 33 "SlabWalkModel" "arg" "[I") m1329) (fun _ h9 => h9) rfl dX12_worked_63 ?_
        refine lv_iload hx hb dX12_worked_66 (lv_at hl 0 rfl) ?_
        refine S_iald hx hb hK hW kd_73 (vin ((by first | (clear ha_p1 hP9 hn_17; omega) | omega)) ((by first | (clear ha_p1 hP9 hn_17; omega) | omega))) dX12_worked_68 (fun y_42 ey_42 => ?_)
        have u_43 : y_42.toInt = (G.1 73 x_8.toNatClampNeg).toInt := congrArg Int32.toInt (ey_42.trans ((hq_5.ri9 73 rfl x_8.toNatClampNeg)))
        refine lv_goto (tgt := 84) hx hb dX12_worked_69 rfl ?_
        refine S_iast hx hb hK hW hS kd_76 (vin ((by first | (clear ha_p1 hP9 hn_17; omega) | omega)) ((by first | (clear ha_p1 hP9 hn_17; omega) | omega))) dX12_worked_84 (fun G_44 H locs eG_44 hW hS => ?_)
        have hB_G_44 : Bd G_44 := hB_G_4.put (lo := (-2147483648)) (hi := 2147483647) eG_44 rfl rfl rfl (tI_rng _).1 (tI_rng _).2 (hB_G_4.2.put eG_44 rfl)
        have hF := hF.put eG_44 (Or.inl (by decide))
        obtain ⟨y_45, ey_45⟩ : ∃ q, q = x_9 + 1 := ⟨_, rfl⟩
        have ty_45 : y_45.toInt = x_9.toInt + 1 := xI_add rfl rfl ey_45 ((by first | (clear ha_p1 hP9 hn_17; omega) | omega)) ((by first | (clear ha_p1 hP9 hn_17; omega) | omega))
        refine lv_iinc (v := y_45) (lv' := [(3, .int y_45), (4, .int x_8), (0, .ref (a 66)), (1, .int p0), (2, .int p1)]) hx hb dX12_worked_85 hl (k := 1) rfl (by rw [ey_45]; rfl) (lt_b rfl) rfl (fun ls hl => ?_)
        refine lv_goto (tgt := 167) hx hb dX12_worked_88 rfl ?_
        obtain ⟨y_46, ey_46⟩ : ∃ q, q = x_8 + 1 := ⟨_, rfl⟩
        have ty_46 : y_46.toInt = x_8.toInt + 1 := xI_add rfl rfl ey_46 ((by first | (clear ha_p1 hP9 hn_17; omega) | omega)) ((by first | (clear ha_p1 hP9 hn_17; omega) | omega))
        refine lv_iinc (v := y_46) (lv' := [(4, .int y_46), (3, .int y_45), (0, .ref (a 66)), (1, .int p0), (2, .int p1)]) hx hb dX12_worked_167 hl (k := 1) rfl (by rw [ey_46]; rfl) (lt_b rfl) rfl (fun ls hl => ?_)
        have u_47 : dpK (G.1 72) (320 * p0.toInt) y_46.toInt = dpK (G.1 72) (320 * p0.toInt) (x_8.toInt + 1) := by rw [ty_46]
        refine lv_goto (tgt := 9) hx hb dX12_worked_170 rfl ?_
        exact ih_6 (1920 - y_46.toInt : Int).toNat (by omega) _ _ _ ⟨G_44, y_46, y_45, (Int.toNat_of_nonneg ((by first | (clear ha_p1 hP9 hn_17; omega) | omega))), ⟨(by first | (clear ha_p1 hP9 hn_17; omega) | omega), (by first | (clear ha_p1 hP9 hn_17; omega) | omega)⟩, ⟨(by first | (clear ha_p1 hP9 hn_17; omega) | omega), (by first | (clear ha_p1 hP9 hn_17; omega) | omega)⟩, ((by first | (clear ha_p1 hP9 hn_17; omega) | omega)), ((by first | (clear ha_p1 hP9 hn_17; omega) | omega)), ((by first | (clear ha_p1 hP9 hn_17; omega) | omega)), (hX_10.st (St_n_worked_1_mk ⟨x_8, x_9, G_4, y_46, y_45, G_44, rfl, rfl, f_12, f_13, f_14, f_15, f_16, hB_G_4, ⟨y_18, ty_18, ⟨y_19, ey_19, ⟨y_21, ty_21, ⟨c_22, ⟨y_24, ey_24, (Or.inl ⟨c_27, ⟨y_28, ey_28, (Or.inl ⟨c_30, ⟨y_42, ey_42, ⟨y_45, ty_45, ⟨y_46, ty_46, ⟨rfl, rfl, (Fr.put (rs := [76]) (fs := []) Fr.rf eG_44 (Or.inl (by decide))), rw_ast eG_44⟩⟩⟩⟩⟩)⟩⟩)⟩⟩⟩⟩⟩⟩)), hW, hB_G_44, hF, (Fr.put (rs := [76]) (fs := []) (Fr.call9 (rs := [76]) (fs := []) Fr.rf hq_5 rfl rfl) eG_44 (Or.inl (by decide))), hS, lv_sub hl [0, 1, 2, 3, 4] rfl⟩
    · have c_27 : y_24.toInt ≠ 0 := xI_ne rfl rfl c_27
      refine lv_aload_n hx hb dX12_worked_36 rfl (lv_at hl 2 rfl) ?_
      refine S_getR (n := 72) (C := RX12) (T := TX12) (N := 89) hx hb hg iX12 hown hK hW kd_66 rfl 14 (lt_b rfl) (hg (Cond.fieldLink RX12 30 "SlabWalkModel" "step" "[I") m1328) (fun _ h9 => h9) rfl dX12_worked_37 ?_
      refine lv_iload hx hb dX12_worked_40 (lv_at hl 0 rfl) ?_
      refine S_iald hx hb hK hW kd_72 (vin ((by first | (clear ha_p1 hP9 hn_17; omega) | omega)) ((by first | (clear ha_p1 hP9 hn_17; omega) | omega))) dX12_worked_42 (fun y_48 ey_48 => ?_)
      have u_49 : y_48.toInt = y_24.toInt := congrArg Int32.toInt (ey_48.trans (ey_24.symm))
      refine ic_1 hx hb dX12_worked_43 ?_
      refine lv_icmp_ne (tgt := 91) hx hb dX12_worked_44 rfl (fun c_50 => ?_) (fun c_50 => ?_)
      · have c_50 : y_48.toInt ≠ 1 := xI_ne rfl rfl c_50
        refine lv_aload_n hx hb dX12_worked_91 rfl (lv_at hl 2 rfl) ?_
        refine S_getR (n := 72) (C := RX12) (T := TX12) (N := 89) hx hb hg iX12 hown hK hW kd_66 rfl 14 (lt_b rfl) (hg (Cond.fieldLink RX12 30 "SlabWalkModel" "step" "[I") m1328) (fun _ h9 => h9) rfl dX12_worked_92 ?_
        refine lv_iload hx hb dX12_worked_95 (lv_at hl 0 rfl) ?_
        refine S_iald hx hb hK hW kd_72 (vin ((by first | (clear ha_p1 hP9 hn_17; omega) | omega)) ((by first | (clear ha_p1 hP9 hn_17; omega) | omega))) dX12_worked_97 (fun y_51 ey_51 => ?_)
        have u_52 : y_51.toInt = y_48.toInt := congrArg Int32.toInt (ey_51.trans (ey_48.symm))
        refine ic_2 hx hb dX12_worked_98 ?_
        refine lv_icmp_ne (tgt := 132) hx hb dX12_worked_99 rfl (fun c_53 => ?_) (fun c_53 => ?_)
        · have c_53 : y_51.toInt ≠ 2 := xI_ne rfl rfl c_53
          obtain ⟨y_54, ey_54⟩ : ∃ q, q = x_9 + (-1) := ⟨_, rfl⟩
          have ty_54 : y_54.toInt = x_9.toInt + (-1) := xI_add rfl rfl ey_54 ((by first | (clear ha_p1 hP9 hn_17; omega) | omega)) ((by first | (clear ha_p1 hP9 hn_17; omega) | omega))
          refine lv_iinc (v := y_54) (lv' := [(3, .int y_54), (4, .int x_8), (0, .ref (a 66)), (1, .int p0), (2, .int p1)]) hx hb dX12_worked_132 hl (k := 1) rfl (by rw [ey_54]; rfl) (lt_b rfl) rfl (fun ls hl => ?_)
          refine lv_aload_n hx hb dX12_worked_135 rfl (lv_at hl 2 rfl) ?_
          refine S_getR (n := 76) (C := RX12) (T := TX12) (N := 89) hx hb hg iX12 hown hK hW kd_66 rfl 18 (lt_b rfl) (hg (Cond.fieldLink RX12 42 "SlabWalkModel" "values" "[I") m1332) (fun _ h9 => h9) rfl dX12_worked_136 ?_
          refine lv_iload_n hx hb dX12_worked_139 rfl (lv_at hl 0 rfl) ?_
          refine ic_1 hx hb dX12_worked_140 ?_
          refine lv_isub hx hb dX12_worked_141 ?_
          refine lv_topi (fun y_55 ey_55 => ?_)
          have ty_55 : y_55.toInt = y_54.toInt - 1 := xI_sub rfl rfl ey_55 ((by first | (clear ha_p1 hP9 hn_17; omega) | omega)) ((by first | (clear ha_p1 hP9 hn_17; omega) | omega))
          refine lv_aload_n hx hb dX12_worked_142 rfl (lv_at hl 2 rfl) ?_
          refine S_getR (n := 73) (C := RX12) (T := TX12) (N := 89) hx hb hg iX12 hown hK hW kd_66 rfl 15 (lt_b rfl) (hg (Cond.fieldLink RX12 33 "SlabWalkModel" "arg" "[I") m1329) (fun _ h9 => h9) rfl dX12_worked_143 ?_
          refine lv_iload hx hb dX12_worked_146 (lv_at hl 1 rfl) ?_
          refine S_iald hx hb hK hW kd_73 (vin ((by first | (clear ha_p1 hP9 hn_17; omega) | omega)) ((by first | (clear ha_p1 hP9 hn_17; omega) | omega))) dX12_worked_148 (fun y_56 ey_56 => ?_)
          have u_57 : y_56.toInt = (G.1 73 x_8.toNatClampNeg).toInt := congrArg Int32.toInt (ey_56.trans ((hq_5.ri9 73 rfl x_8.toNatClampNeg)))
          refine lv_aload_n hx hb dX12_worked_149 rfl (lv_at hl 2 rfl) ?_
          refine S_getR (n := 76) (C := RX12) (T := TX12) (N := 89) hx hb hg iX12 hown hK hW kd_66 rfl 18 (lt_b rfl) (hg (Cond.fieldLink RX12 42 "SlabWalkModel" "values" "[I") m1332) (fun _ h9 => h9) rfl dX12_worked_150 ?_
          refine lv_iload_n hx hb dX12_worked_153 rfl (lv_at hl 0 rfl) ?_
          refine ic_1 hx hb dX12_worked_154 ?_
          refine lv_isub hx hb dX12_worked_155 ?_
          refine lv_topi (fun y_58 ey_58 => ?_)
          have ty_58 : y_58.toInt = y_54.toInt - 1 := xI_sub rfl rfl ey_58 ((by first | (clear ha_p1 hP9 hn_17; omega) | omega)) ((by first | (clear ha_p1 hP9 hn_17; omega) | omega))
          refine S_iald hx hb hK hW kd_76 (vin ((by first | (clear ha_p1 hP9 hn_17; omega) | omega)) ((by first | (clear ha_p1 hP9 hn_17; omega) | omega))) dX12_worked_156 (fun y_59 ey_59 => ?_)
          have u_60 : y_59.toInt = (G_4.1 76 y_58.toNatClampNeg).toInt := congrArg Int32.toInt (ey_59)
          refine lv_aload_n hx hb dX12_worked_157 rfl (lv_at hl 2 rfl) ?_
          refine S_getR (n := 76) (C := RX12) (T := TX12) (N := 89) hx hb hg iX12 hown hK hW kd_66 rfl 18 (lt_b rfl) (hg (Cond.fieldLink RX12 42 "SlabWalkModel" "values" "[I") m1332) (fun _ h9 => h9) rfl dX12_worked_158 ?_
          refine lv_iload_n hx hb dX12_worked_161 rfl (lv_at hl 0 rfl) ?_
          refine S_iald hx hb hK hW kd_76 (vin ((by first | (clear ha_p1 hP9 hn_17; omega) | omega)) ((by first | (clear ha_p1 hP9 hn_17; omega) | omega))) dX12_worked_162 (fun y_61 ey_61 => ?_)
          have u_62 : y_61.toInt = (G_4.1 76 y_54.toNatClampNeg).toInt := congrArg Int32.toInt (ey_61)
          refine S_calli (va_runS (As := [.int y_56, .int y_59, .int y_61]) (rest := [.int y_55, .ref (a 76)]) ⟨hx, hb, hml, hown, hts⟩ (n_done l D k A a z G_4 y_56 y_59 y_61 ) (va_cwS 3 hts (gd_S hgd m1815 m1816 m131 m1817) rfl rfl rfl hd_X12_done.2 ⟨Nat.le_of_ble_eq_true rfl, Nat.le_of_ble_eq_true rfl⟩) (pre_S hW hB_G_4 hK hZ hS) rfl rfl hl.1 rfl (lv_room (Nat.le_of_ble_eq_true rfl)) dX12_worked_163 ⟨Nat.le_of_ble_eq_true rfl, Nat.le_of_ble_eq_true rfl⟩) hS (fun r_63 G_64 H locs hpo hW hS => ?_)
          have hX_67 : Q_done y_56 y_59 y_61 G_4 r_63 G_64 := hpo
          obtain ⟨hB_G_64, hq_65, -⟩ := hpo
          have hF := hF.call9 hq_65 rfl rfl
          refine S_iast hx hb hK hW hS kd_76 (vin ((by first | (clear ha_p1 hP9 hn_17; omega) | omega)) ((by first | (clear ha_p1 hP9 hn_17; omega) | omega))) dX12_worked_166 (fun G_68 H locs eG_68 hW hS => ?_)
          have hB_G_68 : Bd G_68 := hB_G_64.put (lo := (-2147483648)) (hi := 2147483647) eG_68 rfl rfl rfl (tI_rng _).1 (tI_rng _).2 (hB_G_64.2.put eG_68 rfl)
          have hF := hF.put eG_68 (Or.inl (by decide))
          obtain ⟨y_69, ey_69⟩ : ∃ q, q = x_8 + 1 := ⟨_, rfl⟩
          have ty_69 : y_69.toInt = x_8.toInt + 1 := xI_add rfl rfl ey_69 ((by first | (clear ha_p1 hP9 hn_17; omega) | omega)) ((by first | (clear ha_p1 hP9 hn_17; omega) | omega))
          refine lv_iinc (v := y_69) (lv' := [(4, .int y_69), (3, .int y_54), (0, .ref (a 66)), (1, .int p0), (2, .int p1)]) hx hb dX12_worked_167 hl (k := 1) rfl (by rw [ey_69]; rfl) (lt_b rfl) rfl (fun ls hl => ?_)
          have u_70 : dpK (G.1 72) (320 * p0.toInt) y_69.toInt = dpK (G.1 72) (320 * p0.toInt) (x_8.toInt + 1) := by rw [ty_69]
          refine lv_goto (tgt := 9) hx hb dX12_worked_170 rfl ?_
          exact ih_6 (1920 - y_69.toInt : Int).toNat (by omega) _ _ _ ⟨G_68, y_69, y_54, (Int.toNat_of_nonneg ((by first | (clear ha_p1 hP9 hn_17; omega) | omega))), ⟨(by first | (clear ha_p1 hP9 hn_17; omega) | omega), (by first | (clear ha_p1 hP9 hn_17; omega) | omega)⟩, ⟨(by first | (clear ha_p1 hP9 hn_17; omega) | omega), (by first | (clear ha_p1 hP9 hn_17; omega) | omega)⟩, ((by first | (clear ha_p1 hP9 hn_17; omega) | omega)), ((by first | (clear ha_p1 hP9 hn_17; omega) | omega)), ((by first | (clear ha_p1 hP9 hn_17; omega) | omega)), (hX_10.st (St_n_worked_1_mk ⟨x_8, x_9, G_4, y_69, y_54, G_68, rfl, rfl, f_12, f_13, f_14, f_15, f_16, hB_G_4, ⟨y_18, ty_18, ⟨y_19, ey_19, ⟨y_21, ty_21, ⟨c_22, ⟨y_24, ey_24, (Or.inr ⟨c_27, ⟨y_48, ey_48, (Or.inr ⟨c_50, ⟨y_51, ey_51, (Or.inr ⟨c_53, ⟨y_54, ty_54, ⟨y_55, ty_55, ⟨y_56, ey_56, ⟨y_58, ty_58, ⟨y_59, ey_59, ⟨y_61, ey_61, ⟨r_63, G_64, hX_67, ⟨y_69, ty_69, ⟨rfl, rfl, (Fr.put (rs := [76]) (fs := []) Fr.rf eG_68 (Or.inl (by decide))), rw_ast eG_68⟩⟩⟩⟩⟩⟩⟩⟩⟩⟩)⟩⟩)⟩⟩)⟩⟩⟩⟩⟩⟩)), hW, hB_G_68, hF, (Fr.put (rs := [76]) (fs := []) (Fr.call9 (rs := [76]) (fs := []) (Fr.call9 (rs := [76]) (fs := []) Fr.rf hq_5 rfl rfl) hq_65 rfl rfl) eG_68 (Or.inl (by decide))), hS, lv_sub hl [0, 1, 2, 3, 4] rfl⟩
        · have c_53 : y_51.toInt = 2 := xI_eq rfl rfl c_53
          refine lv_aload_n hx hb dX12_worked_102 rfl (lv_at hl 2 rfl) ?_
          refine S_getR (n := 76) (C := RX12) (T := TX12) (N := 89) hx hb hg iX12 hown hK hW kd_66 rfl 18 (lt_b rfl) (hg (Cond.fieldLink RX12 42 "SlabWalkModel" "values" "[I") m1332) (fun _ h9 => h9) rfl dX12_worked_103 ?_
          refine lv_iload_n hx hb dX12_worked_106 rfl (lv_at hl 1 rfl) ?_
          refine ic_1 hx hb dX12_worked_107 ?_
          refine lv_isub hx hb dX12_worked_108 ?_
          refine lv_topi (fun y_71 ey_71 => ?_)
          have ty_71 : y_71.toInt = x_9.toInt - 1 := xI_sub rfl rfl ey_71 ((by first | (clear ha_p1 hP9 hn_17; omega) | omega)) ((by first | (clear ha_p1 hP9 hn_17; omega) | omega))
          refine lv_aload_n hx hb dX12_worked_109 rfl (lv_at hl 2 rfl) ?_
          refine S_getR (n := 76) (C := RX12) (T := TX12) (N := 89) hx hb hg iX12 hown hK hW kd_66 rfl 18 (lt_b rfl) (hg (Cond.fieldLink RX12 42 "SlabWalkModel" "values" "[I") m1332) (fun _ h9 => h9) rfl dX12_worked_110 ?_
          refine lv_iload_n hx hb dX12_worked_113 rfl (lv_at hl 1 rfl) ?_
          refine ic_1 hx hb dX12_worked_114 ?_
          refine lv_isub hx hb dX12_worked_115 ?_
          refine lv_topi (fun y_72 ey_72 => ?_)
          have ty_72 : y_72.toInt = x_9.toInt - 1 := xI_sub rfl rfl ey_72 ((by first | (clear ha_p1 hP9 hn_17; omega) | omega)) ((by first | (clear ha_p1 hP9 hn_17; omega) | omega))
          refine S_iald hx hb hK hW kd_76 (vin ((by first | (clear ha_p1 hP9 hn_17; omega) | omega)) ((by first | (clear ha_p1 hP9 hn_17; omega) | omega))) dX12_worked_116 (fun y_73 ey_73 => ?_)
          have u_74 : y_73.toInt = (G_4.1 76 y_72.toNatClampNeg).toInt := congrArg Int32.toInt (ey_73)
          refine lv_if_ne (tgt := 124) hx hb dX12_worked_117 rfl (fun c_75 => ?_) (fun c_75 => ?_)
          · have c_75 : y_73.toInt ≠ 0 := xI_ne rfl rfl c_75
            refine ic_0 hx hb dX12_worked_124 ?_
            have qc_76 : (0 : Int32).toInt = 0 := rfl
            refine S_calli (va_runS (As := [.int 0]) (rest := [.int y_71, .ref (a 76)]) ⟨hx, hb, hml, hown, hts⟩ (n_truth l D k A a z G_4 0 ⟨by decide, by decide⟩) (va_cwS 1 hts (gd_S hgd m1788 m1789 m131 m1790) rfl rfl rfl hd_X12_truth.2 ⟨Nat.le_of_ble_eq_true rfl, Nat.le_of_ble_eq_true rfl⟩) (pre_S hW hB_G_4 hK hZ hS) rfl rfl hl.1 rfl (lv_room (Nat.le_of_ble_eq_true rfl)) dX12_worked_125 ⟨Nat.le_of_ble_eq_true rfl, Nat.le_of_ble_eq_true rfl⟩) hS (fun r_77 G_78 H locs hpo hW hS => ?_)
            have hX_81 : Q_truth 0 G_4 r_77 G_78 := hpo
            obtain ⟨hB_G_78, hq_79, f_82, hp_80, -⟩ := hpo
            have hF := hF.call9 hq_79 rfl rfl
            refine S_iast hx hb hK hW hS kd_76 (vin ((by first | (clear ha_p1 hP9 hn_17 f_82 hp_80; omega) | omega)) ((by first | (clear ha_p1 hP9 hn_17 f_82 hp_80; omega) | omega))) dX12_worked_128 (fun G_83 H locs eG_83 hW hS => ?_)
            have hB_G_83 : Bd G_83 := hB_G_78.put (lo := (-2147483648)) (hi := 2147483647) eG_83 rfl rfl rfl (tI_rng _).1 (tI_rng _).2 (hB_G_78.2.put eG_83 rfl)
            have hF := hF.put eG_83 (Or.inl (by decide))
            refine lv_goto (tgt := 167) hx hb dX12_worked_129 rfl ?_
            obtain ⟨y_84, ey_84⟩ : ∃ q, q = x_8 + 1 := ⟨_, rfl⟩
            have ty_84 : y_84.toInt = x_8.toInt + 1 := xI_add rfl rfl ey_84 ((by first | (clear ha_p1 hP9 hn_17 f_82 hp_80; omega) | omega)) ((by first | (clear ha_p1 hP9 hn_17 f_82 hp_80; omega) | omega))
            refine lv_iinc (v := y_84) (lv' := [(4, .int y_84), (3, .int x_9), (0, .ref (a 66)), (1, .int p0), (2, .int p1)]) hx hb dX12_worked_167 hl (k := 0) rfl (by rw [ey_84]; rfl) (lt_b rfl) rfl (fun ls hl => ?_)
            have u_85 : dpK (G.1 72) (320 * p0.toInt) y_84.toInt = dpK (G.1 72) (320 * p0.toInt) (x_8.toInt + 1) := by rw [ty_84]
            refine lv_goto (tgt := 9) hx hb dX12_worked_170 rfl ?_
            exact ih_6 (1920 - y_84.toInt : Int).toNat ((by first | (clear ha_p1 hP9 f_82 hp_80; omega) | omega)) _ _ _ ⟨G_83, y_84, x_9, (Int.toNat_of_nonneg ((by first | (clear ha_p1 hP9 hn_17 f_82 hp_80; omega) | omega))), ⟨(by first | (clear ha_p1 hP9 hn_17 f_82 hp_80; omega) | omega), (by first | (clear ha_p1 hP9 hn_17 f_82 hp_80; omega) | omega)⟩, ⟨(by first | (clear ha_p1 hP9 hn_17 f_82 hp_80; omega) | omega), (by first | (clear ha_p1 hP9 hn_17 f_82 hp_80; omega) | omega)⟩, ((by first | (clear ha_p1 hP9 hn_17 f_82 hp_80; omega) | omega)), ((by first | (clear ha_p1 hP9 hn_17 f_82 hp_80; omega) | omega)), ((by first | (clear ha_p1 hP9 hn_17 f_82 hp_80; omega) | omega)), (hX_10.st (St_n_worked_1_mk ⟨x_8, x_9, G_4, y_84, x_9, G_83, rfl, rfl, f_12, f_13, f_14, f_15, f_16, hB_G_4, ⟨y_18, ty_18, ⟨y_19, ey_19, ⟨y_21, ty_21, ⟨c_22, ⟨y_24, ey_24, (Or.inr ⟨c_27, ⟨y_48, ey_48, (Or.inr ⟨c_50, ⟨y_51, ey_51, (Or.inl ⟨c_53, ⟨y_71, ty_71, ⟨y_72, ty_72, ⟨y_73, ey_73, (Or.inr ⟨c_75, ⟨r_77, G_78, hX_81, ⟨y_84, ty_84, ⟨rfl, rfl, (Fr.put (rs := [76]) (fs := []) Fr.rf eG_83 (Or.inl (by decide))), rw_ast eG_83⟩⟩⟩⟩)⟩⟩⟩⟩)⟩⟩)⟩⟩)⟩⟩⟩⟩⟩⟩)), hW, hB_G_83, hF, (Fr.put (rs := [76]) (fs := []) (Fr.call9 (rs := [76]) (fs := []) (Fr.call9 (rs := [76]) (fs := []) Fr.rf hq_5 rfl rfl) hq_79 rfl rfl) eG_83 (Or.inl (by decide))), hS, lv_sub hl [0, 1, 2, 3, 4] rfl⟩
          · have c_75 : y_73.toInt = 0 := xI_eq rfl rfl c_75
            refine ic_1 hx hb dX12_worked_120 ?_
            refine lv_goto (tgt := 125) hx hb dX12_worked_121 rfl ?_
            have qc_86 : (1 : Int32).toInt = 1 := rfl
            refine S_calli (va_runS (As := [.int 1]) (rest := [.int y_71, .ref (a 76)]) ⟨hx, hb, hml, hown, hts⟩ (n_truth l D k A a z G_4 1 ⟨by decide, by decide⟩) (va_cwS 1 hts (gd_S hgd m1788 m1789 m131 m1790) rfl rfl rfl hd_X12_truth.2 ⟨Nat.le_of_ble_eq_true rfl, Nat.le_of_ble_eq_true rfl⟩) (pre_S hW hB_G_4 hK hZ hS) rfl rfl hl.1 rfl (lv_room (Nat.le_of_ble_eq_true rfl)) dX12_worked_125 ⟨Nat.le_of_ble_eq_true rfl, Nat.le_of_ble_eq_true rfl⟩) hS (fun r_87 G_88 H locs hpo hW hS => ?_)
            have hX_91 : Q_truth 1 G_4 r_87 G_88 := hpo
            obtain ⟨hB_G_88, hq_89, f_92, hp_90, -⟩ := hpo
            have hF := hF.call9 hq_89 rfl rfl
            refine S_iast hx hb hK hW hS kd_76 (vin ((by first | (clear ha_p1 hP9 hn_17 f_92 hp_90; omega) | omega)) ((by first | (clear ha_p1 hP9 hn_17 f_92 hp_90; omega) | omega))) dX12_worked_128 (fun G_93 H locs eG_93 hW hS => ?_)
            have hB_G_93 : Bd G_93 := hB_G_88.put (lo := (-2147483648)) (hi := 2147483647) eG_93 rfl rfl rfl (tI_rng _).1 (tI_rng _).2 (hB_G_88.2.put eG_93 rfl)
            have hF := hF.put eG_93 (Or.inl (by decide))
            refine lv_goto (tgt := 167) hx hb dX12_worked_129 rfl ?_
            obtain ⟨y_94, ey_94⟩ : ∃ q, q = x_8 + 1 := ⟨_, rfl⟩
            have ty_94 : y_94.toInt = x_8.toInt + 1 := xI_add rfl rfl ey_94 ((by first | (clear ha_p1 hP9 hn_17 f_92 hp_90; omega) | omega)) ((by first | (clear ha_p1 hP9 hn_17 f_92 hp_90; omega) | omega))
            refine lv_iinc (v := y_94) (lv' := [(4, .int y_94), (3, .int x_9), (0, .ref (a 66)), (1, .int p0), (2, .int p1)]) hx hb dX12_worked_167 hl (k := 0) rfl (by rw [ey_94]; rfl) (lt_b rfl) rfl (fun ls hl => ?_)
            have u_95 : dpK (G.1 72) (320 * p0.toInt) y_94.toInt = dpK (G.1 72) (320 * p0.toInt) (x_8.toInt + 1) := by rw [ty_94]
            refine lv_goto (tgt := 9) hx hb dX12_worked_170 rfl ?_
            exact ih_6 (1920 - y_94.toInt : Int).toNat ((by first | (clear ha_p1 hP9 f_92 hp_90; omega) | omega)) _ _ _ ⟨G_93, y_94, x_9, (Int.toNat_of_nonneg ((by first | (clear ha_p1 hP9 hn_17 f_92 hp_90; omega) | omega))), ⟨(by first | (clear ha_p1 hP9 hn_17 f_92 hp_90; omega) | omega), (by first | (clear ha_p1 hP9 hn_17 f_92 hp_90; omega) | omega)⟩, ⟨(by first | (clear ha_p1 hP9 hn_17 f_92 hp_90; omega) | omega), (by first | (clear ha_p1 hP9 hn_17 f_92 hp_90; omega) | omega)⟩, ((by first | (clear ha_p1 hP9 hn_17 f_92 hp_90; omega) | omega)), ((by first | (clear ha_p1 hP9 hn_17 f_92 hp_90; omega) | omega)), ((by first | (clear ha_p1 hP9 hn_17 f_92 hp_90; omega) | omega)), (hX_10.st (St_n_worked_1_mk ⟨x_8, x_9, G_4, y_94, x_9, G_93, rfl, rfl, f_12, f_13, f_14, f_15, f_16, hB_G_4, ⟨y_18, ty_18, ⟨y_19, ey_19, ⟨y_21, ty_21, ⟨c_22, ⟨y_24, ey_24, (Or.inr ⟨c_27, ⟨y_48, ey_48, (Or.inr ⟨c_50, ⟨y_51, ey_51, (Or.inl ⟨c_53, ⟨y_71, ty_71, ⟨y_72, ty_72, ⟨y_73, ey_73, (Or.inl ⟨c_75, ⟨r_87, G_88, hX_91, ⟨y_94, ty_94, ⟨rfl, rfl, (Fr.put (rs := [76]) (fs := []) Fr.rf eG_93 (Or.inl (by decide))), rw_ast eG_93⟩⟩⟩⟩)⟩⟩⟩⟩)⟩⟩)⟩⟩)⟩⟩⟩⟩⟩⟩)), hW, hB_G_93, hF, (Fr.put (rs := [76]) (fs := []) (Fr.call9 (rs := [76]) (fs := []) (Fr.call9 (rs := [76]) (fs := []) Fr.rf hq_5 rfl rfl) hq_89 rfl rfl) eG_93 (Or.inl (by decide))), hS, lv_sub hl [0, 1, 2, 3, 4] rfl⟩
      · have c_50 : y_48.toInt = 1 := xI_eq rfl rfl c_50
        refine lv_aload_n hx hb dX12_worked_47 rfl (lv_at hl 2 rfl) ?_
        refine S_getR (n := 76) (C := RX12) (T := TX12) (N := 89) hx hb hg iX12 hown hK hW kd_66 rfl 18 (lt_b rfl) (hg (Cond.fieldLink RX12 42 "SlabWalkModel" "values" "[I") m1332) (fun _ h9 => h9) rfl dX12_worked_48 ?_
        refine lv_iload_n hx hb dX12_worked_51 rfl (lv_at hl 1 rfl) ?_
        refine lv_aload_n hx hb dX12_worked_52 rfl (lv_at hl 2 rfl) ?_
        refine S_getR (n := 72) (C := RX12) (T := TX12) (N := 89) hx hb hg iX12 hown hK hW kd_66 rfl 14 (lt_b rfl) (hg (Cond.fieldLink RX12 30 "SlabWalkModel" "step" "[I") m1328) (fun _ h9 => h9) rfl dX12_worked_53 ?_
        refine lv_iload hx hb dX12_worked_56 (lv_at hl 0 rfl) ?_
        refine S_iald hx hb hK hW kd_72 (vin ((by first | (clear ha_p1 hP9 hn_17; omega) | omega)) ((by first | (clear ha_p1 hP9 hn_17; omega) | omega))) dX12_worked_58 (fun y_96 ey_96 => ?_)
        have u_97 : y_96.toInt = y_48.toInt := congrArg Int32.toInt (ey_96.trans (ey_48.symm))
        refine lv_if_ne (tgt := 72) hx hb dX12_worked_59 rfl (fun c_98 => ?_) (fun c_98 => ?_)
        · have c_98 : y_96.toInt ≠ 0 := xI_ne rfl rfl c_98
          refine lv_aload_n hx hb dX12_worked_72 rfl (lv_at hl 2 rfl) ?_
          refine lv_iload_n hx hb dX12_worked_73 rfl (lv_at hl 4 rfl) ?_
          refine lv_aload_n hx hb dX12_worked_74 rfl (lv_at hl 2 rfl) ?_
          refine S_getR (n := 73) (C := RX12) (T := TX12) (N := 89) hx hb hg iX12 hown hK hW kd_66 rfl 15 (lt_b rfl) (hg (Cond.fieldLink RX12 33 "SlabWalkModel" "arg" "[I") m1329) (fun _ h9 => h9) rfl dX12_worked_75 ?_
          refine lv_iload hx hb dX12_worked_78 (lv_at hl 0 rfl) ?_
          refine S_iald hx hb hK hW kd_73 (vin ((by first | (clear ha_p1 hP9 hn_17; omega) | omega)) ((by first | (clear ha_p1 hP9 hn_17; omega) | omega))) dX12_worked_80 (fun y_99 ey_99 => ?_)
          have u_100 : y_99.toInt = (G.1 73 x_8.toNatClampNeg).toInt := congrArg Int32.toInt (ey_99.trans ((hq_5.ri9 73 rfl x_8.toNatClampNeg)))
          refine S_calli (va_runV (As := [.int p1, .int y_99]) (rest := [.int x_9, .ref (a 76)]) ⟨hx, hb, hml, hown, hts⟩ (n_askOf l D k A a z G_4 p1 y_99 ⟨(by first | (clear ha_p0 hP9 hpr ty_1 u_2 u_3 hn_17 f_12 f_13 f_14 f_15 f_16 ty_18 ty_19 u_20 ty_21 c_22 u_25 c_27 u_49 c_50 u_97 c_98 u_100; omega) | omega), (by first | (clear ha_p0 hP9 hpr ty_1 u_2 u_3 hn_17 f_12 f_13 f_14 f_15 f_16 ty_18 ty_19 u_20 ty_21 c_22 u_25 c_27 u_49 c_50 u_97 c_98 u_100; omega) | omega)⟩) (cwV 2 hts (gd_V hgd m1811 m1813 m88 m131 m1814) rfl rfl rfl hd_X12_askOf ⟨Nat.le_of_ble_eq_true rfl, Nat.le_of_ble_eq_true rfl⟩) (pre_W hW hB_G_4 hK hZ hS kd_66 rfl) rfl rfl hl.1 rfl (lv_room (Nat.le_of_ble_eq_true rfl)) dX12_worked_81 ⟨Nat.le_of_ble_eq_true rfl, Nat.le_of_ble_eq_true rfl⟩) hS (fun r_101 G_102 H locs hpo hW hS => ?_)
          have hX_105 : Q_askOf p1 y_99 G_4 r_101 G_102 := hpo
          obtain ⟨hB_G_102, hq_103, -⟩ := hpo
          have hF := hF.call9 hq_103 rfl rfl
          refine S_iast hx hb hK hW hS kd_76 (vin ((by first | (clear ha_p1 hP9 hn_17; omega) | omega)) ((by first | (clear ha_p1 hP9 hn_17; omega) | omega))) dX12_worked_84 (fun G_106 H locs eG_106 hW hS => ?_)
          have hB_G_106 : Bd G_106 := hB_G_102.put (lo := (-2147483648)) (hi := 2147483647) eG_106 rfl rfl rfl (tI_rng _).1 (tI_rng _).2 (hB_G_102.2.put eG_106 rfl)
          have hF := hF.put eG_106 (Or.inl (by decide))
          obtain ⟨y_107, ey_107⟩ : ∃ q, q = x_9 + 1 := ⟨_, rfl⟩
          have ty_107 : y_107.toInt = x_9.toInt + 1 := xI_add rfl rfl ey_107 ((by first | (clear ha_p1 hP9 hn_17; omega) | omega)) ((by first | (clear ha_p1 hP9 hn_17; omega) | omega))
          refine lv_iinc (v := y_107) (lv' := [(3, .int y_107), (4, .int x_8), (0, .ref (a 66)), (1, .int p0), (2, .int p1)]) hx hb dX12_worked_85 hl (k := 1) rfl (by rw [ey_107]; rfl) (lt_b rfl) rfl (fun ls hl => ?_)
          refine lv_goto (tgt := 167) hx hb dX12_worked_88 rfl ?_
          obtain ⟨y_108, ey_108⟩ : ∃ q, q = x_8 + 1 := ⟨_, rfl⟩
          have ty_108 : y_108.toInt = x_8.toInt + 1 := xI_add rfl rfl ey_108 ((by first | (clear ha_p1 hP9 hn_17; omega) | omega)) ((by first | (clear ha_p1 hP9 hn_17; omega) | omega))
          refine lv_iinc (v := y_108) (lv' := [(4, .int y_108), (3, .int y_107), (0, .ref (a 66)), (1, .int p0), (2, .int p1)]) hx hb dX12_worked_167 hl (k := 1) rfl (by rw [ey_108]; rfl) (lt_b rfl) rfl (fun ls hl => ?_)
          have u_109 : dpK (G.1 72) (320 * p0.toInt) y_108.toInt = dpK (G.1 72) (320 * p0.toInt) (x_8.toInt + 1) := by rw [ty_108]
          refine lv_goto (tgt := 9) hx hb dX12_worked_170 rfl ?_
          exact ih_6 (1920 - y_108.toInt : Int).toNat (by omega) _ _ _ ⟨G_106, y_108, y_107, (Int.toNat_of_nonneg ((by first | (clear ha_p1 hP9 hn_17; omega) | omega))), ⟨(by first | (clear ha_p1 hP9 hn_17; omega) | omega), (by first | (clear ha_p1 hP9 hn_17; omega) | omega)⟩, ⟨(by first | (clear ha_p1 hP9 hn_17; omega) | omega), (by first | (clear ha_p1 hP9 hn_17; omega) | omega)⟩, ((by first | (clear ha_p1 hP9 hn_17; omega) | omega)), ((by first | (clear ha_p1 hP9 hn_17; omega) | omega)), ((by first | (clear ha_p1 hP9 hn_17; omega) | omega)), (hX_10.st (St_n_worked_1_mk ⟨x_8, x_9, G_4, y_108, y_107, G_106, rfl, rfl, f_12, f_13, f_14, f_15, f_16, hB_G_4, ⟨y_18, ty_18, ⟨y_19, ey_19, ⟨y_21, ty_21, ⟨c_22, ⟨y_24, ey_24, (Or.inr ⟨c_27, ⟨y_48, ey_48, (Or.inl ⟨c_50, ⟨y_96, ey_96, (Or.inr ⟨c_98, ⟨y_99, ey_99, ⟨r_101, G_102, hX_105, ⟨y_107, ty_107, ⟨y_108, ty_108, ⟨rfl, rfl, (Fr.put (rs := [76]) (fs := []) Fr.rf eG_106 (Or.inl (by decide))), rw_ast eG_106⟩⟩⟩⟩⟩⟩)⟩⟩)⟩⟩)⟩⟩⟩⟩⟩⟩)), hW, hB_G_106, hF, (Fr.put (rs := [76]) (fs := []) (Fr.call9 (rs := [76]) (fs := []) (Fr.call9 (rs := [76]) (fs := []) Fr.rf hq_5 rfl rfl) hq_103 rfl rfl) eG_106 (Or.inl (by decide))), hS, lv_sub hl [0, 1, 2, 3, 4] rfl⟩
        · have c_98 : y_96.toInt = 0 := xI_eq rfl rfl c_98
          refine lv_aload_n hx hb dX12_worked_62 rfl (lv_at hl 2 rfl) ?_
          refine S_getR (n := 73) (C := RX12) (T := TX12) (N := 89) hx hb hg iX12 hown hK hW kd_66 rfl 15 (lt_b rfl) (hg (Cond.fieldLink RX12 33 "SlabWalkModel" "arg" "[I") m1329) (fun _ h9 => h9) rfl dX12_worked_63 ?_
          refine lv_iload hx hb dX12_worked_66 (lv_at hl 0 rfl) ?_
          refine S_iald hx hb hK hW kd_73 (vin ((by first | (clear ha_p1 hP9 hn_17; omega) | omega)) ((by first | (clear ha_p1 hP9 hn_17; omega) | omega))) dX12_worked_68 (fun y_110 ey_110 => ?_)
          have u_111 : y_110.toInt = (G.1 73 x_8.toNatClampNeg).toInt := congrArg Int32.toInt (ey_110.trans ((hq_5.ri9 73 rfl x_8.toNatClampNeg)))
          refine lv_goto (tgt := 84) hx hb dX12_worked_69 rfl ?_
          refine S_iast hx hb hK hW hS kd_76 (vin ((by first | (clear ha_p1 hP9 hn_17; omega) | omega)) ((by first | (clear ha_p1 hP9 hn_17; omega) | omega))) dX12_worked_84 (fun G_112 H locs eG_112 hW hS => ?_)
          have hB_G_112 : Bd G_112 := hB_G_4.put (lo := (-2147483648)) (hi := 2147483647) eG_112 rfl rfl rfl (tI_rng _).1 (tI_rng _).2 (hB_G_4.2.put eG_112 rfl)
          have hF := hF.put eG_112 (Or.inl (by decide))
          obtain ⟨y_113, ey_113⟩ : ∃ q, q = x_9 + 1 := ⟨_, rfl⟩
          have ty_113 : y_113.toInt = x_9.toInt + 1 := xI_add rfl rfl ey_113 ((by first | (clear ha_p1 hP9 hn_17; omega) | omega)) ((by first | (clear ha_p1 hP9 hn_17; omega) | omega))
          refine lv_iinc (v := y_113) (lv' := [(3, .int y_113), (4, .int x_8), (0, .ref (a 66)), (1, .int p0), (2, .int p1)]) hx hb dX12_worked_85 hl (k := 1) rfl (by rw [ey_113]; rfl) (lt_b rfl) rfl (fun ls hl => ?_)
          refine lv_goto (tgt := 167) hx hb dX12_worked_88 rfl ?_
          obtain ⟨y_114, ey_114⟩ : ∃ q, q = x_8 + 1 := ⟨_, rfl⟩
          have ty_114 : y_114.toInt = x_8.toInt + 1 := xI_add rfl rfl ey_114 ((by first | (clear ha_p1 hP9 hn_17; omega) | omega)) ((by first | (clear ha_p1 hP9 hn_17; omega) | omega))
          refine lv_iinc (v := y_114) (lv' := [(4, .int y_114), (3, .int y_113), (0, .ref (a 66)), (1, .int p0), (2, .int p1)]) hx hb dX12_worked_167 hl (k := 1) rfl (by rw [ey_114]; rfl) (lt_b rfl) rfl (fun ls hl => ?_)
          have u_115 : dpK (G.1 72) (320 * p0.toInt) y_114.toInt = dpK (G.1 72) (320 * p0.toInt) (x_8.toInt + 1) := by rw [ty_114]
          refine lv_goto (tgt := 9) hx hb dX12_worked_170 rfl ?_
          exact ih_6 (1920 - y_114.toInt : Int).toNat (by omega) _ _ _ ⟨G_112, y_114, y_113, (Int.toNat_of_nonneg ((by first | (clear ha_p1 hP9 hn_17; omega) | omega))), ⟨(by first | (clear ha_p1 hP9 hn_17; omega) | omega), (by first | (clear ha_p1 hP9 hn_17; omega) | omega)⟩, ⟨(by first | (clear ha_p1 hP9 hn_17; omega) | omega), (by first | (clear ha_p1 hP9 hn_17; omega) | omega)⟩, ((by first | (clear ha_p1 hP9 hn_17; omega) | omega)), ((by first | (clear ha_p1 hP9 hn_17; omega) | omega)), ((by first | (clear ha_p1 hP9 hn_17; omega) | omega)), (hX_10.st (St_n_worked_1_mk ⟨x_8, x_9, G_4, y_114, y_113, G_112, rfl, rfl, f_12, f_13, f_14, f_15, f_16, hB_G_4, ⟨y_18, ty_18, ⟨y_19, ey_19, ⟨y_21, ty_21, ⟨c_22, ⟨y_24, ey_24, (Or.inr ⟨c_27, ⟨y_48, ey_48, (Or.inl ⟨c_50, ⟨y_96, ey_96, (Or.inl ⟨c_98, ⟨y_110, ey_110, ⟨y_113, ty_113, ⟨y_114, ty_114, ⟨rfl, rfl, (Fr.put (rs := [76]) (fs := []) Fr.rf eG_112 (Or.inl (by decide))), rw_ast eG_112⟩⟩⟩⟩⟩)⟩⟩)⟩⟩)⟩⟩⟩⟩⟩⟩)), hW, hB_G_112, hF, (Fr.put (rs := [76]) (fs := []) (Fr.call9 (rs := [76]) (fs := []) Fr.rf hq_5 rfl rfl) eG_112 (Or.inl (by decide))), hS, lv_sub hl [0, 1, 2, 3, 4] rfl⟩
