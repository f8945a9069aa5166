theorem m83 : Cond.selects RX12 yX12_isStreet yX12_isStreet ∈ gd := gds_6 3 rfl
theorem m84 : Cond.selects RX12 yX12_isInch yX12_isInch ∈ gd := gds_6 4 rfl
theorem m1349 : Cond.fieldLink RX12 75 "SlabWalkModel" "marks" "[I" ∈ gd := gdc_6_2 1 rfl gw_fieldLink
theorem m1350 : Cond.fieldLink RX12 78 "SlabWalkModel" "nths" "[I" ∈ gd := gdc_6_2 2 rfl gw_fieldLink
theorem m1351 : Cond.fieldLink RX12 81 "SlabWalkModel" "inches" "[I" ∈ gd := gdc_6_2 3 rfl gw_fieldLink
theorem m1352 : Cond.fieldLink RX12 84 "SlabWalkModel" "longs" "[I" ∈ gd := gdc_6_2 4 rfl gw_fieldLink
theorem m1353 : Cond.fieldLink RX12 87 "SlabWalkModel" "lengths" "[I" ∈ gd := gdc_6_2 5 rfl gw_fieldLink
theorem m1358 : Cond.fieldLink RX12 102 "SlabWalkModel" "slips" "[I" ∈ gd := gdc_6_2 10 rfl gw_fieldLink
theorem m1366 : Cond.fieldLink RX12 425 "SlabWalkModel" "streets" "I" ∈ gd := gdc_6_3 2 rfl gw_fieldLink
theorem m1367 : Cond.fieldLink RX12 428 "SlabWalkModel" "walkers" "I" ∈ gd := gdc_6_3 3 rfl gw_fieldLink
theorem m1368 : Cond.fieldLink RX12 431 "SlabWalkModel" "rules" "I" ∈ gd := gdc_6_3 4 rfl gw_fieldLink
theorem m1379 : Cond.fieldLink RX12 121 "SlabWalkModel" "lies" "[I" ∈ gd := gdc_6_3 15 rfl gw_fieldLink
theorem m1380 : Cond.fieldLink RX12 446 "SlabWalkModel" "lain" "I" ∈ gd := gdc_6_4 0 rfl gw_fieldLink
theorem m1390 : Cond.fieldLink RX12 151 "SlabWalkModel" "now" "[I" ∈ gd := gdc_6_4 10 rfl gw_fieldLink
theorem m1398 : Cond.fieldLink RX12 169 "SlabWalkModel" "sightUntold" "[I" ∈ gd := gdc_6_5 2 rfl gw_fieldLink
theorem m1399 : Cond.fieldLink RX12 443 "SlabWalkModel" "sights" "I" ∈ gd := gdc_6_5 3 rfl gw_fieldLink
theorem m1400 : Cond.fieldLink RX12 593 "SlabWalkModel" "time" "I" ∈ gd := gdc_6_5 4 rfl gw_fieldLink
theorem m1777 : Cond.methodLink RX12 453 yX12_isStreet ∈ gd := gdc_7_13 13 rfl gw_methodLink
theorem m1779 : Cond.instanceMethod yX12_isStreet ∈ gd := gdc_7_13 15 rfl gw_instanceMethod
theorem m1780 : Cond.code yX12_isStreet cX12_isStreet 2 (some .boolean) ∈ gd := gdc_7_14 0 rfl gw_code
theorem m1781 : Cond.methodLink RX12 449 yX12_isIn ∈ gd := gdc_7_14 1 rfl gw_methodLink
theorem m1782 : Cond.static yX12_isIn ∈ gd := gdc_7_14 2 rfl gw_static
theorem m1783 : Cond.code yX12_isIn cX12_isIn 3 (some .boolean) ∈ gd := gdc_7_14 3 rfl gw_code
theorem m1784 : Cond.methodLink RX12 456 yX12_isInch ∈ gd := gdc_7_14 4 rfl gw_methodLink
theorem m1786 : Cond.instanceMethod yX12_isInch ∈ gd := gdc_7_14 6 rfl gw_instanceMethod
theorem m1787 : Cond.code yX12_isInch cX12_isInch 3 (some .boolean) ∈ gd := gdc_7_14 7 rfl gw_code
theorem m1858 : Cond.constant RX12 502 100000 ∈ gd := gdc_8_3 14 rfl gw_constant
def rbX12_allSlips_0 : List (Nat × List Nat) := [(0, [42]), (1, [180, 0, 102]), (4, [3]), (5, [46]), (6, [42]), (7, [180, 0, 102]), (10, [4]), (11, [46]), (12, [96]), (13, [42]), (14, [180, 0, 102]), (17, [5]), (18, [46]), (19, [96]), (20, [172])]
theorem rcX12_allSlips_0 : dgo (lb cX12_allSlips) 0 rbX12_allSlips_0 = true := by decide +kernel
theorem dX12_allSlips_0 : decode cX12_allSlips 0 = .ok (.aload_n 0, 1) := dk_42 (dw rcX12_allSlips_0 0 rfl)
theorem dX12_allSlips_1 : decode cX12_allSlips 1 = .ok (.getfield 102, 3) := dk_180 (dw rcX12_allSlips_0 1 rfl) rfl
theorem dX12_allSlips_4 : decode cX12_allSlips 4 = .ok (.iconst 0, 1) := dk_3 (dw rcX12_allSlips_0 2 rfl)
theorem dX12_allSlips_5 : decode cX12_allSlips 5 = .ok (.iaload, 1) := dk_46 (dw rcX12_allSlips_0 3 rfl)
theorem dX12_allSlips_6 : decode cX12_allSlips 6 = .ok (.aload_n 0, 1) := dk_42 (dw rcX12_allSlips_0 4 rfl)
theorem dX12_allSlips_7 : decode cX12_allSlips 7 = .ok (.getfield 102, 3) := dk_180 (dw rcX12_allSlips_0 5 rfl) rfl
theorem dX12_allSlips_10 : decode cX12_allSlips 10 = .ok (.iconst 1, 1) := dk_4 (dw rcX12_allSlips_0 6 rfl)
theorem dX12_allSlips_11 : decode cX12_allSlips 11 = .ok (.iaload, 1) := dk_46 (dw rcX12_allSlips_0 7 rfl)
theorem dX12_allSlips_12 : decode cX12_allSlips 12 = .ok (.iadd, 1) := dk_96 (dw rcX12_allSlips_0 8 rfl)
theorem dX12_allSlips_13 : decode cX12_allSlips 13 = .ok (.aload_n 0, 1) := dk_42 (dw rcX12_allSlips_0 9 rfl)
theorem dX12_allSlips_14 : decode cX12_allSlips 14 = .ok (.getfield 102, 3) := dk_180 (dw rcX12_allSlips_0 10 rfl) rfl
theorem dX12_allSlips_17 : decode cX12_allSlips 17 = .ok (.iconst 2, 1) := dk_5 (dw rcX12_allSlips_0 11 rfl)
theorem dX12_allSlips_18 : decode cX12_allSlips 18 = .ok (.iaload, 1) := dk_46 (dw rcX12_allSlips_0 12 rfl)
theorem dX12_allSlips_19 : decode cX12_allSlips 19 = .ok (.iadd, 1) := dk_96 (dw rcX12_allSlips_0 13 rfl)
theorem dX12_allSlips_20 : decode cX12_allSlips 20 = .ok (.ireturn, 1) := dk_172 (dw rcX12_allSlips_0 14 rfl)
def rbX12_areRules_0 : List (Nat × List Nat) := [(0, [27]), (1, [3]), (2, [4]), (3, [42]), (4, [180, 1, 175]), (7, [120]), (8, [4]), (9, [100]), (10, [184, 1, 193]), (13, [172])]
theorem rcX12_areRules_0 : dgo (lb cX12_areRules) 0 rbX12_areRules_0 = true := by decide +kernel
theorem dX12_areRules_0 : decode cX12_areRules 0 = .ok (.iload_n 1, 1) := dk_27 (dw rcX12_areRules_0 0 rfl)
theorem dX12_areRules_1 : decode cX12_areRules 1 = .ok (.iconst 0, 1) := dk_3 (dw rcX12_areRules_0 1 rfl)
theorem dX12_areRules_2 : decode cX12_areRules 2 = .ok (.iconst 1, 1) := dk_4 (dw rcX12_areRules_0 2 rfl)
theorem dX12_areRules_3 : decode cX12_areRules 3 = .ok (.aload_n 0, 1) := dk_42 (dw rcX12_areRules_0 3 rfl)
theorem dX12_areRules_4 : decode cX12_areRules 4 = .ok (.getfield 431, 3) := dk_180 (dw rcX12_areRules_0 4 rfl) rfl
theorem dX12_areRules_7 : decode cX12_areRules 7 = .ok (.ishl, 1) := dk_120 (dw rcX12_areRules_0 5 rfl)
theorem dX12_areRules_8 : decode cX12_areRules 8 = .ok (.iconst 1, 1) := dk_4 (dw rcX12_areRules_0 6 rfl)
theorem dX12_areRules_9 : decode cX12_areRules 9 = .ok (.isub, 1) := dk_100 (dw rcX12_areRules_0 7 rfl)
theorem dX12_areRules_10 : decode cX12_areRules 10 = .ok (.invokestatic 449, 3) := dk_184 (dw rcX12_areRules_0 8 rfl) rfl
theorem dX12_areRules_13 : decode cX12_areRules 13 = .ok (.ireturn, 1) := dk_172 (dw rcX12_areRules_0 9 rfl)
def rbX12_fault_0 : List (Nat × List Nat) := [(0, [27]), (1, [154, 0, 10]), (4, [42]), (5, [180, 0, 218]), (8, [167, 0, 16]), (11, [27]), (12, [4]), (13, [160, 0, 10]), (16, [42]), (17, [180, 0, 13]), (20, [167, 0, 4]), (23, [2]), (24, [172])]
theorem rcX12_fault_0 : dgo (lb cX12_fault) 0 rbX12_fault_0 = true := by decide +kernel
theorem dX12_fault_0 : decode cX12_fault 0 = .ok (.iload_n 1, 1) := dk_27 (dw rcX12_fault_0 0 rfl)
theorem dX12_fault_1 : decode cX12_fault 1 = .ok (.ifCond .ne 10, 3) := dk_154 (dw rcX12_fault_0 1 rfl) rfl
theorem dX12_fault_4 : decode cX12_fault 4 = .ok (.aload_n 0, 1) := dk_42 (dw rcX12_fault_0 2 rfl)
theorem dX12_fault_5 : decode cX12_fault 5 = .ok (.getfield 218, 3) := dk_180 (dw rcX12_fault_0 3 rfl) rfl
theorem dX12_fault_8 : decode cX12_fault 8 = .ok (.goto 16, 3) := dk_167 (dw rcX12_fault_0 4 rfl) rfl
theorem dX12_fault_11 : decode cX12_fault 11 = .ok (.iload_n 1, 1) := dk_27 (dw rcX12_fault_0 5 rfl)
theorem dX12_fault_12 : decode cX12_fault 12 = .ok (.iconst 1, 1) := dk_4 (dw rcX12_fault_0 6 rfl)
theorem dX12_fault_13 : decode cX12_fault 13 = .ok (.if_icmp .ne 10, 3) := dk_160 (dw rcX12_fault_0 7 rfl) rfl
theorem dX12_fault_16 : decode cX12_fault 16 = .ok (.aload_n 0, 1) := dk_42 (dw rcX12_fault_0 8 rfl)
theorem dX12_fault_17 : decode cX12_fault 17 = .ok (.getfield 13, 3) := dk_180 (dw rcX12_fault_0 9 rfl) rfl
theorem dX12_fault_20 : decode cX12_fault 20 = .ok (.goto 4, 3) := dk_167 (dw rcX12_fault_0 10 rfl) rfl
theorem dX12_fault_23 : decode cX12_fault 23 = .ok (.iconst (-1), 1) := dk_2 (dw rcX12_fault_0 11 rfl)
theorem dX12_fault_24 : decode cX12_fault 24 = .ok (.ireturn, 1) := dk_172 (dw rcX12_fault_0 12 rfl)
theorem dX12_inch_29 : decode cX12_inch 29 = .ok (.tableswitch 100 0 4 #[35, 54, 62, 70, 78], 35) := dq_of (by decide +kernel)
def rbX12_inch_0 : List (Nat × List Nat) := [(0, [42]), (1, [27]), (2, [182, 1, 197]), (5, [153, 0, 12]), (8, [42]), (9, [27]), (10, [28]), (11, [182, 1, 200]), (14, [154, 0, 5]), (17, [2]), (18, [172]), (19, [17, 1, 144]), (22, [27]), (23, [104]), (24, [28]), (25, [96]), (26, [54, 4]), (28, [29]), (64, [42]), (65, [180, 0, 75]), (68, [21, 4]), (70, [46]), (71, [156, 0, 7]), (74, [4])]
theorem rcX12_inch_0 : dgo (lb cX12_inch) 0 rbX12_inch_0 = true := by decide +kernel
theorem dX12_inch_0 : decode cX12_inch 0 = .ok (.aload_n 0, 1) := dk_42 (dw rcX12_inch_0 0 rfl)
theorem dX12_inch_1 : decode cX12_inch 1 = .ok (.iload_n 1, 1) := dk_27 (dw rcX12_inch_0 1 rfl)
theorem dX12_inch_2 : decode cX12_inch 2 = .ok (.invokevirtual 453, 3) := dk_182 (dw rcX12_inch_0 2 rfl) rfl
theorem dX12_inch_5 : decode cX12_inch 5 = .ok (.ifCond .eq 12, 3) := dk_153 (dw rcX12_inch_0 3 rfl) rfl
theorem dX12_inch_8 : decode cX12_inch 8 = .ok (.aload_n 0, 1) := dk_42 (dw rcX12_inch_0 4 rfl)
theorem dX12_inch_9 : decode cX12_inch 9 = .ok (.iload_n 1, 1) := dk_27 (dw rcX12_inch_0 5 rfl)
theorem dX12_inch_10 : decode cX12_inch 10 = .ok (.iload_n 2, 1) := dk_28 (dw rcX12_inch_0 6 rfl)
theorem dX12_inch_11 : decode cX12_inch 11 = .ok (.invokevirtual 456, 3) := dk_182 (dw rcX12_inch_0 7 rfl) rfl
theorem dX12_inch_14 : decode cX12_inch 14 = .ok (.ifCond .ne 5, 3) := dk_154 (dw rcX12_inch_0 8 rfl) rfl
theorem dX12_inch_17 : decode cX12_inch 17 = .ok (.iconst (-1), 1) := dk_2 (dw rcX12_inch_0 9 rfl)
theorem dX12_inch_18 : decode cX12_inch 18 = .ok (.ireturn, 1) := dk_172 (dw rcX12_inch_0 10 rfl)
theorem dX12_inch_19 : decode cX12_inch 19 = .ok (.sipush 400, 3) := dk_17 (dw rcX12_inch_0 11 rfl) rfl
theorem dX12_inch_22 : decode cX12_inch 22 = .ok (.iload_n 1, 1) := dk_27 (dw rcX12_inch_0 12 rfl)
theorem dX12_inch_23 : decode cX12_inch 23 = .ok (.imul, 1) := dk_104 (dw rcX12_inch_0 13 rfl)
theorem dX12_inch_24 : decode cX12_inch 24 = .ok (.iload_n 2, 1) := dk_28 (dw rcX12_inch_0 14 rfl)
theorem dX12_inch_25 : decode cX12_inch 25 = .ok (.iadd, 1) := dk_96 (dw rcX12_inch_0 15 rfl)
theorem dX12_inch_26 : decode cX12_inch 26 = .ok (.istore 4, 2) := dk_54 (dw rcX12_inch_0 16 rfl)
theorem dX12_inch_28 : decode cX12_inch 28 = .ok (.iload_n 3, 1) := dk_29 (dw rcX12_inch_0 17 rfl)
theorem dX12_inch_64 : decode cX12_inch 64 = .ok (.aload_n 0, 1) := dk_42 (dw rcX12_inch_0 18 rfl)
theorem dX12_inch_65 : decode cX12_inch 65 = .ok (.getfield 75, 3) := dk_180 (dw rcX12_inch_0 19 rfl) rfl
theorem dX12_inch_68 : decode cX12_inch 68 = .ok (.iload 4, 2) := dk_21 (dw rcX12_inch_0 20 rfl)
theorem dX12_inch_70 : decode cX12_inch 70 = .ok (.iaload, 1) := dk_46 (dw rcX12_inch_0 21 rfl)
theorem dX12_inch_71 : decode cX12_inch 71 = .ok (.ifCond .ge 7, 3) := dk_156 (dw rcX12_inch_0 22 rfl) rfl
theorem dX12_inch_74 : decode cX12_inch 74 = .ok (.iconst 1, 1) := dk_4 (dw rcX12_inch_0 23 rfl)
def rbX12_inch_75 : List (Nat × List Nat) := [(75, [167, 0, 4]), (78, [3]), (79, [184, 1, 92]), (82, [172]), (83, [42]), (84, [180, 0, 78]), (87, [21, 4]), (89, [46]), (90, [172]), (91, [42]), (92, [180, 0, 81]), (95, [21, 4]), (97, [46]), (98, [172]), (99, [42]), (100, [180, 0, 84]), (103, [21, 4]), (105, [46]), (106, [172]), (107, [42]), (108, [180, 0, 75]), (111, [21, 4]), (113, [46]), (114, [156, 0, 7])]
theorem rcX12_inch_75 : dgo (lb cX12_inch) 0 rbX12_inch_75 = true := by decide +kernel
theorem dX12_inch_75 : decode cX12_inch 75 = .ok (.goto 4, 3) := dk_167 (dw rcX12_inch_75 0 rfl) rfl
theorem dX12_inch_78 : decode cX12_inch 78 = .ok (.iconst 0, 1) := dk_3 (dw rcX12_inch_75 1 rfl)
theorem dX12_inch_79 : decode cX12_inch 79 = .ok (.invokestatic 348, 3) := dk_184 (dw rcX12_inch_75 2 rfl) rfl
theorem dX12_inch_82 : decode cX12_inch 82 = .ok (.ireturn, 1) := dk_172 (dw rcX12_inch_75 3 rfl)
theorem dX12_inch_83 : decode cX12_inch 83 = .ok (.aload_n 0, 1) := dk_42 (dw rcX12_inch_75 4 rfl)
theorem dX12_inch_84 : decode cX12_inch 84 = .ok (.getfield 78, 3) := dk_180 (dw rcX12_inch_75 5 rfl) rfl
theorem dX12_inch_87 : decode cX12_inch 87 = .ok (.iload 4, 2) := dk_21 (dw rcX12_inch_75 6 rfl)
theorem dX12_inch_89 : decode cX12_inch 89 = .ok (.iaload, 1) := dk_46 (dw rcX12_inch_75 7 rfl)
theorem dX12_inch_90 : decode cX12_inch 90 = .ok (.ireturn, 1) := dk_172 (dw rcX12_inch_75 8 rfl)
theorem dX12_inch_91 : decode cX12_inch 91 = .ok (.aload_n 0, 1) := dk_42 (dw rcX12_inch_75 9 rfl)
theorem dX12_inch_92 : decode cX12_inch 92 = .ok (.getfield 81, 3) := dk_180 (dw rcX12_inch_75 10 rfl) rfl
theorem dX12_inch_95 : decode cX12_inch 95 = .ok (.iload 4, 2) := dk_21 (dw rcX12_inch_75 11 rfl)
theorem dX12_inch_97 : decode cX12_inch 97 = .ok (.iaload, 1) := dk_46 (dw rcX12_inch_75 12 rfl)
theorem dX12_inch_98 : decode cX12_inch 98 = .ok (.ireturn, 1) := dk_172 (dw rcX12_inch_75 13 rfl)
theorem dX12_inch_99 : decode cX12_inch 99 = .ok (.aload_n 0, 1) := dk_42 (dw rcX12_inch_75 14 rfl)
theorem dX12_inch_100 : decode cX12_inch 100 = .ok (.getfield 84, 3) := dk_180 (dw rcX12_inch_75 15 rfl) rfl
theorem dX12_inch_103 : decode cX12_inch 103 = .ok (.iload 4, 2) := dk_21 (dw rcX12_inch_75 16 rfl)
theorem dX12_inch_105 : decode cX12_inch 105 = .ok (.iaload, 1) := dk_46 (dw rcX12_inch_75 17 rfl)
theorem dX12_inch_106 : decode cX12_inch 106 = .ok (.ireturn, 1) := dk_172 (dw rcX12_inch_75 18 rfl)
theorem dX12_inch_107 : decode cX12_inch 107 = .ok (.aload_n 0, 1) := dk_42 (dw rcX12_inch_75 19 rfl)
theorem dX12_inch_108 : decode cX12_inch 108 = .ok (.getfield 75, 3) := dk_180 (dw rcX12_inch_75 20 rfl) rfl
theorem dX12_inch_111 : decode cX12_inch 111 = .ok (.iload 4, 2) := dk_21 (dw rcX12_inch_75 21 rfl)
theorem dX12_inch_113 : decode cX12_inch 113 = .ok (.iaload, 1) := dk_46 (dw rcX12_inch_75 22 rfl)
theorem dX12_inch_114 : decode cX12_inch 114 = .ok (.ifCond .ge 7, 3) := dk_156 (dw rcX12_inch_75 23 rfl) rfl
def rbX12_inch_117 : List (Nat × List Nat) := [(117, [3]), (118, [167, 0, 10]), (121, [42]), (122, [180, 0, 75]), (125, [21, 4]), (127, [46]), (128, [172]), (129, [2]), (130, [172])]
theorem rcX12_inch_117 : dgo (lb cX12_inch) 0 rbX12_inch_117 = true := by decide +kernel
theorem dX12_inch_117 : decode cX12_inch 117 = .ok (.iconst 0, 1) := dk_3 (dw rcX12_inch_117 0 rfl)
theorem dX12_inch_118 : decode cX12_inch 118 = .ok (.goto 10, 3) := dk_167 (dw rcX12_inch_117 1 rfl) rfl
theorem dX12_inch_121 : decode cX12_inch 121 = .ok (.aload_n 0, 1) := dk_42 (dw rcX12_inch_117 2 rfl)
theorem dX12_inch_122 : decode cX12_inch 122 = .ok (.getfield 75, 3) := dk_180 (dw rcX12_inch_117 3 rfl) rfl
theorem dX12_inch_125 : decode cX12_inch 125 = .ok (.iload 4, 2) := dk_21 (dw rcX12_inch_117 4 rfl)
theorem dX12_inch_127 : decode cX12_inch 127 = .ok (.iaload, 1) := dk_46 (dw rcX12_inch_117 5 rfl)
theorem dX12_inch_128 : decode cX12_inch 128 = .ok (.ireturn, 1) := dk_172 (dw rcX12_inch_117 6 rfl)
theorem dX12_inch_129 : decode cX12_inch 129 = .ok (.iconst (-1), 1) := dk_2 (dw rcX12_inch_117 7 rfl)
theorem dX12_inch_130 : decode cX12_inch 130 = .ok (.ireturn, 1) := dk_172 (dw rcX12_inch_117 8 rfl)
def rbX12_isInch_0 : List (Nat × List Nat) := [(0, [28]), (1, [3]), (2, [42]), (3, [180, 0, 87]), (6, [27]), (7, [46]), (8, [4]), (9, [100]), (10, [184, 1, 193]), (13, [172])]
theorem rcX12_isInch_0 : dgo (lb cX12_isInch) 0 rbX12_isInch_0 = true := by decide +kernel
theorem dX12_isInch_0 : decode cX12_isInch 0 = .ok (.iload_n 2, 1) := dk_28 (dw rcX12_isInch_0 0 rfl)
theorem dX12_isInch_1 : decode cX12_isInch 1 = .ok (.iconst 0, 1) := dk_3 (dw rcX12_isInch_0 1 rfl)
theorem dX12_isInch_2 : decode cX12_isInch 2 = .ok (.aload_n 0, 1) := dk_42 (dw rcX12_isInch_0 2 rfl)
theorem dX12_isInch_3 : decode cX12_isInch 3 = .ok (.getfield 87, 3) := dk_180 (dw rcX12_isInch_0 3 rfl) rfl
theorem dX12_isInch_6 : decode cX12_isInch 6 = .ok (.iload_n 1, 1) := dk_27 (dw rcX12_isInch_0 4 rfl)
theorem dX12_isInch_7 : decode cX12_isInch 7 = .ok (.iaload, 1) := dk_46 (dw rcX12_isInch_0 5 rfl)
theorem dX12_isInch_8 : decode cX12_isInch 8 = .ok (.iconst 1, 1) := dk_4 (dw rcX12_isInch_0 6 rfl)
theorem dX12_isInch_9 : decode cX12_isInch 9 = .ok (.isub, 1) := dk_100 (dw rcX12_isInch_0 7 rfl)
theorem dX12_isInch_10 : decode cX12_isInch 10 = .ok (.invokestatic 449, 3) := dk_184 (dw rcX12_isInch_0 8 rfl) rfl
theorem dX12_isInch_13 : decode cX12_isInch 13 = .ok (.ireturn, 1) := dk_172 (dw rcX12_isInch_0 9 rfl)
def rbX12_isRule_0 : List (Nat × List Nat) := [(0, [27]), (1, [3]), (2, [42]), (3, [180, 1, 175]), (6, [4]), (7, [100]), (8, [184, 1, 193]), (11, [172])]
theorem rcX12_isRule_0 : dgo (lb cX12_isRule) 0 rbX12_isRule_0 = true := by decide +kernel
theorem dX12_isRule_0 : decode cX12_isRule 0 = .ok (.iload_n 1, 1) := dk_27 (dw rcX12_isRule_0 0 rfl)
theorem dX12_isRule_1 : decode cX12_isRule 1 = .ok (.iconst 0, 1) := dk_3 (dw rcX12_isRule_0 1 rfl)
theorem dX12_isRule_2 : decode cX12_isRule 2 = .ok (.aload_n 0, 1) := dk_42 (dw rcX12_isRule_0 2 rfl)
theorem dX12_isRule_3 : decode cX12_isRule 3 = .ok (.getfield 431, 3) := dk_180 (dw rcX12_isRule_0 3 rfl) rfl
theorem dX12_isRule_6 : decode cX12_isRule 6 = .ok (.iconst 1, 1) := dk_4 (dw rcX12_isRule_0 4 rfl)
theorem dX12_isRule_7 : decode cX12_isRule 7 = .ok (.isub, 1) := dk_100 (dw rcX12_isRule_0 5 rfl)
theorem dX12_isRule_8 : decode cX12_isRule 8 = .ok (.invokestatic 449, 3) := dk_184 (dw rcX12_isRule_0 6 rfl) rfl
theorem dX12_isRule_11 : decode cX12_isRule 11 = .ok (.ireturn, 1) := dk_172 (dw rcX12_isRule_0 7 rfl)
def rbX12_isStreet_0 : List (Nat × List Nat) := [(0, [27]), (1, [3]), (2, [42]), (3, [180, 1, 169]), (6, [4]), (7, [100]), (8, [184, 1, 193]), (11, [172])]
theorem rcX12_isStreet_0 : dgo (lb cX12_isStreet) 0 rbX12_isStreet_0 = true := by decide +kernel
theorem dX12_isStreet_0 : decode cX12_isStreet 0 = .ok (.iload_n 1, 1) := dk_27 (dw rcX12_isStreet_0 0 rfl)
theorem dX12_isStreet_1 : decode cX12_isStreet 1 = .ok (.iconst 0, 1) := dk_3 (dw rcX12_isStreet_0 1 rfl)
theorem dX12_isStreet_2 : decode cX12_isStreet 2 = .ok (.aload_n 0, 1) := dk_42 (dw rcX12_isStreet_0 2 rfl)
theorem dX12_isStreet_3 : decode cX12_isStreet 3 = .ok (.getfield 425, 3) := dk_180 (dw rcX12_isStreet_0 3 rfl) rfl
theorem dX12_isStreet_6 : decode cX12_isStreet 6 = .ok (.iconst 1, 1) := dk_4 (dw rcX12_isStreet_0 4 rfl)
theorem dX12_isStreet_7 : decode cX12_isStreet 7 = .ok (.isub, 1) := dk_100 (dw rcX12_isStreet_0 5 rfl)
theorem dX12_isStreet_8 : decode cX12_isStreet 8 = .ok (.invokestatic 449, 3) := dk_184 (dw rcX12_isStreet_0 6 rfl) rfl
theorem dX12_isStreet_11 : decode cX12_isStreet 11 = .ok (.ireturn, 1) := dk_172 (dw rcX12_isStreet_0 7 rfl)
def rbX12_isWalker_0 : List (Nat × List Nat) := [(0, [27]), (1, [3]), (2, [42]), (3, [180, 1, 172]), (6, [4]), (7, [100]), (8, [184, 1, 193]), (11, [172])]
theorem rcX12_isWalker_0 : dgo (lb cX12_isWalker) 0 rbX12_isWalker_0 = true := by decide +kernel
theorem dX12_isWalker_0 : decode cX12_isWalker 0 = .ok (.iload_n 1, 1) := dk_27 (dw rcX12_isWalker_0 0 rfl)
theorem dX12_isWalker_1 : decode cX12_isWalker 1 = .ok (.iconst 0, 1) := dk_3 (dw rcX12_isWalker_0 1 rfl)
theorem dX12_isWalker_2 : decode cX12_isWalker 2 = .ok (.aload_n 0, 1) := dk_42 (dw rcX12_isWalker_0 2 rfl)
theorem dX12_isWalker_3 : decode cX12_isWalker 3 = .ok (.getfield 428, 3) := dk_180 (dw rcX12_isWalker_0 3 rfl) rfl
theorem dX12_isWalker_6 : decode cX12_isWalker 6 = .ok (.iconst 1, 1) := dk_4 (dw rcX12_isWalker_0 4 rfl)
theorem dX12_isWalker_7 : decode cX12_isWalker 7 = .ok (.isub, 1) := dk_100 (dw rcX12_isWalker_0 5 rfl)
theorem dX12_isWalker_8 : decode cX12_isWalker 8 = .ok (.invokestatic 449, 3) := dk_184 (dw rcX12_isWalker_0 6 rfl) rfl
theorem dX12_isWalker_11 : decode cX12_isWalker 11 = .ok (.ireturn, 1) := dk_172 (dw rcX12_isWalker_0 7 rfl)
def rbX12_later_0 : List (Nat × List Nat) := [(0, [27]), (1, [155, 0, 22]), (4, [27]), (5, [17, 3, 232]), (8, [163, 0, 15]), (11, [42]), (12, [180, 2, 81]), (15, [27]), (16, [96]), (17, [19, 1, 246]), (20, [164, 0, 5]), (23, [2]), (24, [172]), (25, [42]), (26, [89]), (27, [180, 2, 81]), (30, [27]), (31, [96]), (32, [181, 2, 81]), (35, [42]), (36, [180, 2, 81]), (39, [172])]
theorem rcX12_later_0 : dgo (lb cX12_later) 0 rbX12_later_0 = true := by decide +kernel
theorem dX12_later_0 : decode cX12_later 0 = .ok (.iload_n 1, 1) := dk_27 (dw rcX12_later_0 0 rfl)
theorem dX12_later_1 : decode cX12_later 1 = .ok (.ifCond .lt 22, 3) := dk_155 (dw rcX12_later_0 1 rfl) rfl
theorem dX12_later_4 : decode cX12_later 4 = .ok (.iload_n 1, 1) := dk_27 (dw rcX12_later_0 2 rfl)
theorem dX12_later_5 : decode cX12_later 5 = .ok (.sipush 1000, 3) := dk_17 (dw rcX12_later_0 3 rfl) rfl
theorem dX12_later_8 : decode cX12_later 8 = .ok (.if_icmp .gt 15, 3) := dk_163 (dw rcX12_later_0 4 rfl) rfl
theorem dX12_later_11 : decode cX12_later 11 = .ok (.aload_n 0, 1) := dk_42 (dw rcX12_later_0 5 rfl)
theorem dX12_later_12 : decode cX12_later 12 = .ok (.getfield 593, 3) := dk_180 (dw rcX12_later_0 6 rfl) rfl
theorem dX12_later_15 : decode cX12_later 15 = .ok (.iload_n 1, 1) := dk_27 (dw rcX12_later_0 7 rfl)
theorem dX12_later_16 : decode cX12_later 16 = .ok (.iadd, 1) := dk_96 (dw rcX12_later_0 8 rfl)
theorem dX12_later_17 : decode cX12_later 17 = .ok (.ldc_w 502, 3) := dk_19 (dw rcX12_later_0 9 rfl) rfl
theorem dX12_later_20 : decode cX12_later 20 = .ok (.if_icmp .le 5, 3) := dk_164 (dw rcX12_later_0 10 rfl) rfl
theorem dX12_later_23 : decode cX12_later 23 = .ok (.iconst (-1), 1) := dk_2 (dw rcX12_later_0 11 rfl)
theorem dX12_later_24 : decode cX12_later 24 = .ok (.ireturn, 1) := dk_172 (dw rcX12_later_0 12 rfl)
theorem dX12_later_25 : decode cX12_later 25 = .ok (.aload_n 0, 1) := dk_42 (dw rcX12_later_0 13 rfl)
theorem dX12_later_26 : decode cX12_later 26 = .ok (.dup, 1) := dk_89 (dw rcX12_later_0 14 rfl)
theorem dX12_later_27 : decode cX12_later 27 = .ok (.getfield 593, 3) := dk_180 (dw rcX12_later_0 15 rfl) rfl
theorem dX12_later_30 : decode cX12_later 30 = .ok (.iload_n 1, 1) := dk_27 (dw rcX12_later_0 16 rfl)
theorem dX12_later_31 : decode cX12_later 31 = .ok (.iadd, 1) := dk_96 (dw rcX12_later_0 17 rfl)
theorem dX12_later_32 : decode cX12_later 32 = .ok (.putfield 593, 3) := dk_181 (dw rcX12_later_0 18 rfl) rfl
theorem dX12_later_35 : decode cX12_later 35 = .ok (.aload_n 0, 1) := dk_42 (dw rcX12_later_0 19 rfl)
theorem dX12_later_36 : decode cX12_later 36 = .ok (.getfield 593, 3) := dk_180 (dw rcX12_later_0 20 rfl) rfl
theorem dX12_later_39 : decode cX12_later 39 = .ok (.ireturn, 1) := dk_172 (dw rcX12_later_0 21 rfl)
def rbX12_length_0 : List (Nat × List Nat) := [(0, [42]), (1, [27]), (2, [182, 1, 197]), (5, [153, 0, 12]), (8, [42]), (9, [180, 0, 87]), (12, [27]), (13, [46]), (14, [167, 0, 4]), (17, [2]), (18, [172])]
theorem rcX12_length_0 : dgo (lb cX12_length) 0 rbX12_length_0 = true := by decide +kernel
theorem dX12_length_0 : decode cX12_length 0 = .ok (.aload_n 0, 1) := dk_42 (dw rcX12_length_0 0 rfl)
theorem dX12_length_1 : decode cX12_length 1 = .ok (.iload_n 1, 1) := dk_27 (dw rcX12_length_0 1 rfl)
theorem dX12_length_2 : decode cX12_length 2 = .ok (.invokevirtual 453, 3) := dk_182 (dw rcX12_length_0 2 rfl) rfl
theorem dX12_length_5 : decode cX12_length 5 = .ok (.ifCond .eq 12, 3) := dk_153 (dw rcX12_length_0 3 rfl) rfl
theorem dX12_length_8 : decode cX12_length 8 = .ok (.aload_n 0, 1) := dk_42 (dw rcX12_length_0 4 rfl)
theorem dX12_length_9 : decode cX12_length 9 = .ok (.getfield 87, 3) := dk_180 (dw rcX12_length_0 5 rfl) rfl
theorem dX12_length_12 : decode cX12_length 12 = .ok (.iload_n 1, 1) := dk_27 (dw rcX12_length_0 6 rfl)
theorem dX12_length_13 : decode cX12_length 13 = .ok (.iaload, 1) := dk_46 (dw rcX12_length_0 7 rfl)
theorem dX12_length_14 : decode cX12_length 14 = .ok (.goto 4, 3) := dk_167 (dw rcX12_length_0 8 rfl) rfl
theorem dX12_length_17 : decode cX12_length 17 = .ok (.iconst (-1), 1) := dk_2 (dw rcX12_length_0 9 rfl)
theorem dX12_length_18 : decode cX12_length 18 = .ok (.ireturn, 1) := dk_172 (dw rcX12_length_0 10 rfl)
def rbX12_lies_0 : List (Nat × List Nat) := [(0, [27]), (1, [3]), (2, [42]), (3, [180, 1, 190]), (6, [4]), (7, [100]), (8, [184, 1, 193]), (11, [153, 0, 12]), (14, [42]), (15, [180, 0, 121]), (18, [27]), (19, [46]), (20, [167, 0, 4]), (23, [2]), (24, [172])]
theorem rcX12_lies_0 : dgo (lb cX12_lies) 0 rbX12_lies_0 = true := by decide +kernel
theorem dX12_lies_0 : decode cX12_lies 0 = .ok (.iload_n 1, 1) := dk_27 (dw rcX12_lies_0 0 rfl)
theorem dX12_lies_1 : decode cX12_lies 1 = .ok (.iconst 0, 1) := dk_3 (dw rcX12_lies_0 1 rfl)
theorem dX12_lies_2 : decode cX12_lies 2 = .ok (.aload_n 0, 1) := dk_42 (dw rcX12_lies_0 2 rfl)
theorem dX12_lies_3 : decode cX12_lies 3 = .ok (.getfield 446, 3) := dk_180 (dw rcX12_lies_0 3 rfl) rfl
theorem dX12_lies_6 : decode cX12_lies 6 = .ok (.iconst 1, 1) := dk_4 (dw rcX12_lies_0 4 rfl)
theorem dX12_lies_7 : decode cX12_lies 7 = .ok (.isub, 1) := dk_100 (dw rcX12_lies_0 5 rfl)
theorem dX12_lies_8 : decode cX12_lies 8 = .ok (.invokestatic 449, 3) := dk_184 (dw rcX12_lies_0 6 rfl) rfl
theorem dX12_lies_11 : decode cX12_lies 11 = .ok (.ifCond .eq 12, 3) := dk_153 (dw rcX12_lies_0 7 rfl) rfl
theorem dX12_lies_14 : decode cX12_lies 14 = .ok (.aload_n 0, 1) := dk_42 (dw rcX12_lies_0 8 rfl)
theorem dX12_lies_15 : decode cX12_lies 15 = .ok (.getfield 121, 3) := dk_180 (dw rcX12_lies_0 9 rfl) rfl
theorem dX12_lies_18 : decode cX12_lies 18 = .ok (.iload_n 1, 1) := dk_27 (dw rcX12_lies_0 10 rfl)
theorem dX12_lies_19 : decode cX12_lies 19 = .ok (.iaload, 1) := dk_46 (dw rcX12_lies_0 11 rfl)
theorem dX12_lies_20 : decode cX12_lies 20 = .ok (.goto 4, 3) := dk_167 (dw rcX12_lies_0 12 rfl) rfl
theorem dX12_lies_23 : decode cX12_lies 23 = .ok (.iconst (-1), 1) := dk_2 (dw rcX12_lies_0 13 rfl)
theorem dX12_lies_24 : decode cX12_lies 24 = .ok (.ireturn, 1) := dk_172 (dw rcX12_lies_0 14 rfl)
def rbX12_untell_0 : List (Nat × List Nat) := [(0, [27]), (1, [3]), (2, [42]), (3, [180, 1, 187]), (6, [4]), (7, [100]), (8, [184, 1, 193]), (11, [153, 0, 12]), (14, [42]), (15, [180, 0, 169]), (18, [27]), (19, [46]), (20, [155, 0, 5]), (23, [3]), (24, [172]), (25, [42]), (26, [180, 0, 169]), (29, [27]), (30, [42]), (31, [180, 2, 81]), (34, [79]), (35, [4]), (36, [172])]
theorem rcX12_untell_0 : dgo (lb cX12_untell) 0 rbX12_untell_0 = true := by decide +kernel
theorem dX12_untell_0 : decode cX12_untell 0 = .ok (.iload_n 1, 1) := dk_27 (dw rcX12_untell_0 0 rfl)
theorem dX12_untell_1 : decode cX12_untell 1 = .ok (.iconst 0, 1) := dk_3 (dw rcX12_untell_0 1 rfl)
theorem dX12_untell_2 : decode cX12_untell 2 = .ok (.aload_n 0, 1) := dk_42 (dw rcX12_untell_0 2 rfl)
theorem dX12_untell_3 : decode cX12_untell 3 = .ok (.getfield 443, 3) := dk_180 (dw rcX12_untell_0 3 rfl) rfl
theorem dX12_untell_6 : decode cX12_untell 6 = .ok (.iconst 1, 1) := dk_4 (dw rcX12_untell_0 4 rfl)
theorem dX12_untell_7 : decode cX12_untell 7 = .ok (.isub, 1) := dk_100 (dw rcX12_untell_0 5 rfl)
theorem dX12_untell_8 : decode cX12_untell 8 = .ok (.invokestatic 449, 3) := dk_184 (dw rcX12_untell_0 6 rfl) rfl
theorem dX12_untell_11 : decode cX12_untell 11 = .ok (.ifCond .eq 12, 3) := dk_153 (dw rcX12_untell_0 7 rfl) rfl
theorem dX12_untell_14 : decode cX12_untell 14 = .ok (.aload_n 0, 1) := dk_42 (dw rcX12_untell_0 8 rfl)
theorem dX12_untell_15 : decode cX12_untell 15 = .ok (.getfield 169, 3) := dk_180 (dw rcX12_untell_0 9 rfl) rfl
theorem dX12_untell_18 : decode cX12_untell 18 = .ok (.iload_n 1, 1) := dk_27 (dw rcX12_untell_0 10 rfl)
theorem dX12_untell_19 : decode cX12_untell 19 = .ok (.iaload, 1) := dk_46 (dw rcX12_untell_0 11 rfl)
theorem dX12_untell_20 : decode cX12_untell 20 = .ok (.ifCond .lt 5, 3) := dk_155 (dw rcX12_untell_0 12 rfl) rfl
theorem dX12_untell_23 : decode cX12_untell 23 = .ok (.iconst 0, 1) := dk_3 (dw rcX12_untell_0 13 rfl)
theorem dX12_untell_24 : decode cX12_untell 24 = .ok (.ireturn, 1) := dk_172 (dw rcX12_untell_0 14 rfl)
theorem dX12_untell_25 : decode cX12_untell 25 = .ok (.aload_n 0, 1) := dk_42 (dw rcX12_untell_0 15 rfl)
theorem dX12_untell_26 : decode cX12_untell 26 = .ok (.getfield 169, 3) := dk_180 (dw rcX12_untell_0 16 rfl) rfl
theorem dX12_untell_29 : decode cX12_untell 29 = .ok (.iload_n 1, 1) := dk_27 (dw rcX12_untell_0 17 rfl)
theorem dX12_untell_30 : decode cX12_untell 30 = .ok (.aload_n 0, 1) := dk_42 (dw rcX12_untell_0 18 rfl)
theorem dX12_untell_31 : decode cX12_untell 31 = .ok (.getfield 593, 3) := dk_180 (dw rcX12_untell_0 19 rfl) rfl
theorem dX12_untell_34 : decode cX12_untell 34 = .ok (.iastore, 1) := dk_79 (dw rcX12_untell_0 20 rfl)
theorem dX12_untell_35 : decode cX12_untell 35 = .ok (.iconst 1, 1) := dk_4 (dw rcX12_untell_0 21 rfl)
theorem dX12_untell_36 : decode cX12_untell 36 = .ok (.ireturn, 1) := dk_172 (dw rcX12_untell_0 22 rfl)
def rbX12_walker_0 : List (Nat × List Nat) := [(0, [42]), (1, [180, 0, 151]), (4, [3]), (5, [46]), (6, [155, 0, 12]), (9, [27]), (10, [3]), (11, [8]), (12, [184, 1, 193]), (15, [154, 0, 7]), (18, [2]), (19, [167, 0, 9]), (22, [42]), (23, [180, 0, 151]), (26, [27]), (27, [46]), (28, [172])]
theorem rcX12_walker_0 : dgo (lb cX12_walker) 0 rbX12_walker_0 = true := by decide +kernel
theorem dX12_walker_0 : decode cX12_walker 0 = .ok (.aload_n 0, 1) := dk_42 (dw rcX12_walker_0 0 rfl)
theorem dX12_walker_1 : decode cX12_walker 1 = .ok (.getfield 151, 3) := dk_180 (dw rcX12_walker_0 1 rfl) rfl
theorem dX12_walker_4 : decode cX12_walker 4 = .ok (.iconst 0, 1) := dk_3 (dw rcX12_walker_0 2 rfl)
theorem dX12_walker_5 : decode cX12_walker 5 = .ok (.iaload, 1) := dk_46 (dw rcX12_walker_0 3 rfl)
theorem dX12_walker_6 : decode cX12_walker 6 = .ok (.ifCond .lt 12, 3) := dk_155 (dw rcX12_walker_0 4 rfl) rfl
theorem dX12_walker_9 : decode cX12_walker 9 = .ok (.iload_n 1, 1) := dk_27 (dw rcX12_walker_0 5 rfl)
theorem dX12_walker_10 : decode cX12_walker 10 = .ok (.iconst 0, 1) := dk_3 (dw rcX12_walker_0 6 rfl)
theorem dX12_walker_11 : decode cX12_walker 11 = .ok (.iconst 5, 1) := dk_8 (dw rcX12_walker_0 7 rfl)
theorem dX12_walker_12 : decode cX12_walker 12 = .ok (.invokestatic 449, 3) := dk_184 (dw rcX12_walker_0 8 rfl) rfl
theorem dX12_walker_15 : decode cX12_walker 15 = .ok (.ifCond .ne 7, 3) := dk_154 (dw rcX12_walker_0 9 rfl) rfl
theorem dX12_walker_18 : decode cX12_walker 18 = .ok (.iconst (-1), 1) := dk_2 (dw rcX12_walker_0 10 rfl)
theorem dX12_walker_19 : decode cX12_walker 19 = .ok (.goto 9, 3) := dk_167 (dw rcX12_walker_0 11 rfl) rfl
theorem dX12_walker_22 : decode cX12_walker 22 = .ok (.aload_n 0, 1) := dk_42 (dw rcX12_walker_0 12 rfl)
theorem dX12_walker_23 : decode cX12_walker 23 = .ok (.getfield 151, 3) := dk_180 (dw rcX12_walker_0 13 rfl) rfl
theorem dX12_walker_26 : decode cX12_walker 26 = .ok (.iload_n 1, 1) := dk_27 (dw rcX12_walker_0 14 rfl)
theorem dX12_walker_27 : decode cX12_walker 27 = .ok (.iaload, 1) := dk_46 (dw rcX12_walker_0 15 rfl)
theorem dX12_walker_28 : decode cX12_walker 28 = .ok (.ireturn, 1) := dk_172 (dw rcX12_walker_0 16 rfl)
set_option maxHeartbeats 4000000 in
set_option maxRecDepth 100000 in
theorem n_isStreet (l : Launch) (D : va_G) (k : KT) (A : Nat → Prop) (a : Nat → Nat) (z : SK) (G : GS) (p0 : Int32)  : Met l yX12_isStreet (WS yX12_isStreet cX12_isStreet 2 (some .boolean)) ({ frames := 1, cells := 0, slots := 0, locals := 22 }) (va_Pc [.ref (a 66), .int p0] (cW D k A a z G)) (va_Qi (fun (r : Int32) (G1 : GS) => Q_isStreet p0 G r G1) (fun (G1 : GS) t => Wd D k A a G1 t.heap) A) 0 0 A := by
  refine Met.ofW (cc := cX12_isStreet) (maxL := 2) (ret := (some .boolean)) (by decide) rfl ?_
  intro p e s m args below meth c s₁ B hml hv
  obtain ⟨rfl, hW, hB_G, hK, hZ⟩ := hv
  have hx := B.exec
  have hb := B.bytes
  have hr := B.returns
  have hts := atoms_spec (ws := WS yX12_isStreet cX12_isStreet 2 (some .boolean)) B.pre
  have hgd : ∀ w ∈ gd, w ∈ WS yX12_isStreet cX12_isStreet 2 (some .boolean) := fun w h => List.mem_cons_of_mem _ h
  have hg : ∀ w ∈ gd, w.before _ s = true := fun w h => hts w (hgd w h)
  have hown : s.vm.findClass RX12 = some m.cls := findClass_of_methodNamed B.named
  have hS : va_S A s.heap s.heap [] := va_S.rf
  have hF : Fr [] [] G G := Fr.rf
  have hl := lv_entry ([.ref (a 66), .int p0]) (n := 2) (Nat.le_of_ble_eq_true rfl)
  rw [lg_entry_eq]
  generalize (lg_sl ([.ref (a 66), .int p0]) ++ List.replicate (2 - (lg_sl ([.ref (a 66), .int p0])).length) Slot.unset).toArray = ls at hl ⊢
  have hl : lv_has ls 2 [(0, .ref (a 66)), (1, .int p0)] := hl
  refine lv_iload_n hx hb dX12_isStreet_0 rfl (lv_at hl 1 rfl) ?_
  refine ic_0 hx hb dX12_isStreet_1 ?_
  refine lv_aload_n hx hb dX12_isStreet_2 rfl (lv_at hl 0 rfl) ?_
  have b_1 : 0 ≤ (G.1 66 52).toInt ∧ (G.1 66 52).toInt ≤ 3 := bd_66_52 hB_G
  refine S_getI (v := (G.1 66 52)) (C := RX12) (T := TX12) (N := 89) hx hb hg iX12 hown hK hW kd_66 rfl 52 (lt_b rfl) (hg (Cond.fieldLink RX12 425 "SlabWalkModel" "streets" "I") m1366) (fun _ h9 => h9) rfl rfl dX12_isStreet_3 ?_
  refine ic_1 hx hb dX12_isStreet_6 ?_
  refine lv_isub hx hb dX12_isStreet_7 ?_
  refine lv_topi (fun y_2 ey_2 => ?_)
  have ty_2 : y_2.toInt = (G.1 66 52).toInt - 1 := xI_sub rfl rfl ey_2 (by omega) (by omega)
  have qc_3 : (0 : Int32).toInt = 0 := rfl
  refine S_calli (va_runS (As := [.int p0, .int 0, .int y_2]) (rest := []) ⟨hx, hb, hml, hown, hts⟩ (n_isIn l D k A a z G p0 0 y_2 ) (va_cwS 3 hts (gd_S hgd m1781 m1782 m131 m1783) rfl rfl rfl hd_X12_isIn.2 ⟨Nat.le_of_ble_eq_true rfl, Nat.le_of_ble_eq_true rfl⟩) (pre_S hW hB_G hK hZ hS) rfl rfl hl.1 rfl (lv_room (Nat.le_of_ble_eq_true rfl)) dX12_isStreet_8 ⟨Nat.le_of_ble_eq_true rfl, Nat.le_of_ble_eq_true rfl⟩) hS (fun r_4 G_5 H locs hpo hW hS => ?_)
  have hX_8 : Q_isIn p0 0 y_2 G r_4 G_5 := hpo
  obtain ⟨hB_G_5, hq_6, f_9, ⟨d_1, d_2⟩, -⟩ := hpo
  have hF := hF.call9 hq_6 rfl rfl
  exact W.zret (v := r_4) hx hb hr (nar_z (by omega) (by omega)) (fun t ht _ => ⟨⟨r_4, G_5, rfl, (Q_isStreet_mk ⟨hB_G_5, hF, ⟨by omega, by omega⟩, ((by first | exact (fun h9 => ⟨(by omega), ⟨(by omega), (by omega)⟩⟩) | omega)), ⟨y_2, ty_2, ⟨r_4, G_5, hX_8, ⟨rfl, rfl⟩⟩⟩⟩), wd_t ht hW⟩, hS.F ht⟩) hS.2.2 dX12_isStreet_11

set_option maxHeartbeats 4000000 in
set_option maxRecDepth 100000 in
theorem n_isWalker (l : Launch) (D : va_G) (k : KT) (A : Nat → Prop) (a : Nat → Nat) (z : SK) (G : GS) (p0 : Int32)  : Met l yX12_isWalker (WS yX12_isWalker cX12_isWalker 2 (some .boolean)) ({ frames := 1, cells := 0, slots := 0, locals := 22 }) (va_Pc [.ref (a 66), .int p0] (cW D k A a z G)) (va_Qi (fun (r : Int32) (G1 : GS) => Q_isWalker p0 G r G1) (fun (G1 : GS) t => Wd D k A a G1 t.heap) A) 0 0 A := by
  refine Met.ofW (cc := cX12_isWalker) (maxL := 2) (ret := (some .boolean)) (by decide) rfl ?_
  intro p e s m args below meth c s₁ B hml hv
  obtain ⟨rfl, hW, hB_G, hK, hZ⟩ := hv
  have hx := B.exec
  have hb := B.bytes
  have hr := B.returns
  have hts := atoms_spec (ws := WS yX12_isWalker cX12_isWalker 2 (some .boolean)) B.pre
  have hgd : ∀ w ∈ gd, w ∈ WS yX12_isWalker cX12_isWalker 2 (some .boolean) := fun w h => List.mem_cons_of_mem _ h
  have hg : ∀ w ∈ gd, w.before _ s = true := fun w h => hts w (hgd w h)
  have hown : s.vm.findClass RX12 = some m.cls := findClass_of_methodNamed B.named
  have hS : va_S A s.heap s.heap [] := va_S.rf
  have hF : Fr [] [] G G := Fr.rf
  have hl := lv_entry ([.ref (a 66), .int p0]) (n := 2) (Nat.le_of_ble_eq_true rfl)
  rw [lg_entry_eq]
  generalize (lg_sl ([.ref (a 66), .int p0]) ++ List.replicate (2 - (lg_sl ([.ref (a 66), .int p0])).length) Slot.unset).toArray = ls at hl ⊢
  have hl : lv_has ls 2 [(0, .ref (a 66)), (1, .int p0)] := hl
  refine lv_iload_n hx hb dX12_isWalker_0 rfl (lv_at hl 1 rfl) ?_
  refine ic_0 hx hb dX12_isWalker_1 ?_
  refine lv_aload_n hx hb dX12_isWalker_2 rfl (lv_at hl 0 rfl) ?_
  have b_1 : 0 ≤ (G.1 66 53).toInt ∧ (G.1 66 53).toInt ≤ 4 := bd_66_53 hB_G
  refine S_getI (v := (G.1 66 53)) (C := RX12) (T := TX12) (N := 89) hx hb hg iX12 hown hK hW kd_66 rfl 53 (lt_b rfl) (hg (Cond.fieldLink RX12 428 "SlabWalkModel" "walkers" "I") m1367) (fun _ h9 => h9) rfl rfl dX12_isWalker_3 ?_
  refine ic_1 hx hb dX12_isWalker_6 ?_
  refine lv_isub hx hb dX12_isWalker_7 ?_
  refine lv_topi (fun y_2 ey_2 => ?_)
  have ty_2 : y_2.toInt = (G.1 66 53).toInt - 1 := xI_sub rfl rfl ey_2 (by omega) (by omega)
  have qc_3 : (0 : Int32).toInt = 0 := rfl
  refine S_calli (va_runS (As := [.int p0, .int 0, .int y_2]) (rest := []) ⟨hx, hb, hml, hown, hts⟩ (n_isIn l D k A a z G p0 0 y_2 ) (va_cwS 3 hts (gd_S hgd m1781 m1782 m131 m1783) rfl rfl rfl hd_X12_isIn.2 ⟨Nat.le_of_ble_eq_true rfl, Nat.le_of_ble_eq_true rfl⟩) (pre_S hW hB_G hK hZ hS) rfl rfl hl.1 rfl (lv_room (Nat.le_of_ble_eq_true rfl)) dX12_isWalker_8 ⟨Nat.le_of_ble_eq_true rfl, Nat.le_of_ble_eq_true rfl⟩) hS (fun r_4 G_5 H locs hpo hW hS => ?_)
  have hX_8 : Q_isIn p0 0 y_2 G r_4 G_5 := hpo
  obtain ⟨hB_G_5, hq_6, f_9, ⟨d_1, d_2⟩, -⟩ := hpo
  have hF := hF.call9 hq_6 rfl rfl
  exact W.zret (v := r_4) hx hb hr (nar_z (by omega) (by omega)) (fun t ht _ => ⟨⟨r_4, G_5, rfl, (Q_isWalker_mk ⟨hB_G_5, hF, ⟨by omega, by omega⟩, ((by first | exact (fun h9 => ⟨(by omega), ⟨(by omega), (by omega)⟩⟩) | omega)), ⟨y_2, ty_2, ⟨r_4, G_5, hX_8, ⟨rfl, rfl⟩⟩⟩⟩), wd_t ht hW⟩, hS.F ht⟩) hS.2.2 dX12_isWalker_11

set_option maxHeartbeats 4000000 in
set_option maxRecDepth 100000 in
theorem n_isRule (l : Launch) (D : va_G) (k : KT) (A : Nat → Prop) (a : Nat → Nat) (z : SK) (G : GS) (p0 : Int32)  : Met l yX12_isRule (WS yX12_isRule cX12_isRule 2 (some .boolean)) ({ frames := 1, cells := 0, slots := 0, locals := 22 }) (va_Pc [.ref (a 66), .int p0] (cW D k A a z G)) (va_Qi (fun (r : Int32) (G1 : GS) => Q_isRule p0 G r G1) (fun (G1 : GS) t => Wd D k A a G1 t.heap) A) 0 0 A := by
  refine Met.ofW (cc := cX12_isRule) (maxL := 2) (ret := (some .boolean)) (by decide) rfl ?_
  intro p e s m args below meth c s₁ B hml hv
  obtain ⟨rfl, hW, hB_G, hK, hZ⟩ := hv
  have hx := B.exec
  have hb := B.bytes
  have hr := B.returns
  have hts := atoms_spec (ws := WS yX12_isRule cX12_isRule 2 (some .boolean)) B.pre
  have hgd : ∀ w ∈ gd, w ∈ WS yX12_isRule cX12_isRule 2 (some .boolean) := fun w h => List.mem_cons_of_mem _ h
  have hg : ∀ w ∈ gd, w.before _ s = true := fun w h => hts w (hgd w h)
  have hown : s.vm.findClass RX12 = some m.cls := findClass_of_methodNamed B.named
  have hS : va_S A s.heap s.heap [] := va_S.rf
  have hF : Fr [] [] G G := Fr.rf
  have hl := lv_entry ([.ref (a 66), .int p0]) (n := 2) (Nat.le_of_ble_eq_true rfl)
  rw [lg_entry_eq]
  generalize (lg_sl ([.ref (a 66), .int p0]) ++ List.replicate (2 - (lg_sl ([.ref (a 66), .int p0])).length) Slot.unset).toArray = ls at hl ⊢
  have hl : lv_has ls 2 [(0, .ref (a 66)), (1, .int p0)] := hl
  refine lv_iload_n hx hb dX12_isRule_0 rfl (lv_at hl 1 rfl) ?_
  refine ic_0 hx hb dX12_isRule_1 ?_
  refine lv_aload_n hx hb dX12_isRule_2 rfl (lv_at hl 0 rfl) ?_
  have b_1 : 0 ≤ (G.1 66 54).toInt ∧ (G.1 66 54).toInt ≤ 6 := bd_66_54 hB_G
  refine S_getI (v := (G.1 66 54)) (C := RX12) (T := TX12) (N := 89) hx hb hg iX12 hown hK hW kd_66 rfl 54 (lt_b rfl) (hg (Cond.fieldLink RX12 431 "SlabWalkModel" "rules" "I") m1368) (fun _ h9 => h9) rfl rfl dX12_isRule_3 ?_
  refine ic_1 hx hb dX12_isRule_6 ?_
  refine lv_isub hx hb dX12_isRule_7 ?_
  refine lv_topi (fun y_2 ey_2 => ?_)
  have ty_2 : y_2.toInt = (G.1 66 54).toInt - 1 := xI_sub rfl rfl ey_2 (by omega) (by omega)
  have qc_3 : (0 : Int32).toInt = 0 := rfl
  refine S_calli (va_runS (As := [.int p0, .int 0, .int y_2]) (rest := []) ⟨hx, hb, hml, hown, hts⟩ (n_isIn l D k A a z G p0 0 y_2 ) (va_cwS 3 hts (gd_S hgd m1781 m1782 m131 m1783) rfl rfl rfl hd_X12_isIn.2 ⟨Nat.le_of_ble_eq_true rfl, Nat.le_of_ble_eq_true rfl⟩) (pre_S hW hB_G hK hZ hS) rfl rfl hl.1 rfl (lv_room (Nat.le_of_ble_eq_true rfl)) dX12_isRule_8 ⟨Nat.le_of_ble_eq_true rfl, Nat.le_of_ble_eq_true rfl⟩) hS (fun r_4 G_5 H locs hpo hW hS => ?_)
  have hX_8 : Q_isIn p0 0 y_2 G r_4 G_5 := hpo
  obtain ⟨hB_G_5, hq_6, f_9, ⟨d_1, d_2⟩, -⟩ := hpo
  have hF := hF.call9 hq_6 rfl rfl
  exact W.zret (v := r_4) hx hb hr (nar_z (by omega) (by omega)) (fun t ht _ => ⟨⟨r_4, G_5, rfl, (Q_isRule_mk ⟨hB_G_5, hF, ⟨by omega, by omega⟩, ((by first | exact (fun h9 => ⟨(by omega), ⟨(by omega), (by omega)⟩⟩) | omega)), ⟨y_2, ty_2, ⟨r_4, G_5, hX_8, ⟨rfl, rfl⟩⟩⟩⟩), wd_t ht hW⟩, hS.F ht⟩) hS.2.2 dX12_isRule_11

set_option maxHeartbeats 4000000 in
set_option maxRecDepth 100000 in
theorem n_areRules (l : Launch) (D : va_G) (k : KT) (A : Nat → Prop) (a : Nat → Nat) (z : SK) (G : GS) (p0 : Int32)  : Met l yX12_areRules (WS yX12_areRules cX12_areRules 2 (some .boolean)) ({ frames := 1, cells := 0, slots := 0, locals := 22 }) (va_Pc [.ref (a 66), .int p0] (cW D k A a z G)) (va_Qi (fun (r : Int32) (G1 : GS) => Q_areRules p0 G r G1) (fun (G1 : GS) t => Wd D k A a G1 t.heap) A) 0 0 A := by
  refine Met.ofW (cc := cX12_areRules) (maxL := 2) (ret := (some .boolean)) (by decide) rfl ?_
  intro p e s m args below meth c s₁ B hml hv
  obtain ⟨rfl, hW, hB_G, hK, hZ⟩ := hv
  have hx := B.exec
  have hb := B.bytes
  have hr := B.returns
  have hts := atoms_spec (ws := WS yX12_areRules cX12_areRules 2 (some .boolean)) B.pre
  have hgd : ∀ w ∈ gd, w ∈ WS yX12_areRules cX12_areRules 2 (some .boolean) := fun w h => List.mem_cons_of_mem _ h
  have hg : ∀ w ∈ gd, w.before _ s = true := fun w h => hts w (hgd w h)
  have hown : s.vm.findClass RX12 = some m.cls := findClass_of_methodNamed B.named
  have hS : va_S A s.heap s.heap [] := va_S.rf
  have hF : Fr [] [] G G := Fr.rf
  have hl := lv_entry ([.ref (a 66), .int p0]) (n := 2) (Nat.le_of_ble_eq_true rfl)
  rw [lg_entry_eq]
  generalize (lg_sl ([.ref (a 66), .int p0]) ++ List.replicate (2 - (lg_sl ([.ref (a 66), .int p0])).length) Slot.unset).toArray = ls at hl ⊢
  have hl : lv_has ls 2 [(0, .ref (a 66)), (1, .int p0)] := hl
  refine lv_iload_n hx hb dX12_areRules_0 rfl (lv_at hl 1 rfl) ?_
  refine ic_0 hx hb dX12_areRules_1 ?_
  refine ic_1 hx hb dX12_areRules_2 ?_
  refine lv_aload_n hx hb dX12_areRules_3 rfl (lv_at hl 0 rfl) ?_
  have b_1 : 0 ≤ (G.1 66 54).toInt ∧ (G.1 66 54).toInt ≤ 6 := bd_66_54 hB_G
  refine S_getI (v := (G.1 66 54)) (C := RX12) (T := TX12) (N := 89) hx hb hg iX12 hown hK hW kd_66 rfl 54 (lt_b rfl) (hg (Cond.fieldLink RX12 431 "SlabWalkModel" "rules" "I") m1368) (fun _ h9 => h9) rfl rfl dX12_areRules_4 ?_
  refine lv_ishl hx hb dX12_areRules_7 ?_
  refine lv_topi (fun y_2 ey_2 => ?_)
  have ty_2 := sh6 (Y := (G.1 66 54).toInt) rfl ey_2 rfl (by omega) (by omega)
  refine ic_1 hx hb dX12_areRules_8 ?_
  refine lv_isub hx hb dX12_areRules_9 ?_
  refine lv_topi (fun y_3 ey_3 => ?_)
  have ty_3 : y_3.toInt = y_2.toInt - 1 := xI_sub rfl rfl ey_3 (by omega) (by omega)
  have qc_4 : (0 : Int32).toInt = 0 := rfl
  refine S_calli (va_runS (As := [.int p0, .int 0, .int y_3]) (rest := []) ⟨hx, hb, hml, hown, hts⟩ (n_isIn l D k A a z G p0 0 y_3 ) (va_cwS 3 hts (gd_S hgd m1781 m1782 m131 m1783) rfl rfl rfl hd_X12_isIn.2 ⟨Nat.le_of_ble_eq_true rfl, Nat.le_of_ble_eq_true rfl⟩) (pre_S hW hB_G hK hZ hS) rfl rfl hl.1 rfl (lv_room (Nat.le_of_ble_eq_true rfl)) dX12_areRules_10 ⟨Nat.le_of_ble_eq_true rfl, Nat.le_of_ble_eq_true rfl⟩) hS (fun r_5 G_6 H locs hpo hW hS => ?_)
  have hX_9 : Q_isIn p0 0 y_3 G r_5 G_6 := hpo
  obtain ⟨hB_G_6, hq_7, f_10, ⟨d_1, d_2⟩, -⟩ := hpo
  have hF := hF.call9 hq_7 rfl rfl
  exact W.zret (v := r_5) hx hb hr (nar_z (by omega) (by omega)) (fun t ht _ => ⟨⟨r_5, G_6, rfl, (Q_areRules_mk ⟨hB_G_6, hF, ⟨by omega, by omega⟩, ((by first | exact (fun h9 => ⟨(by omega), (by omega)⟩) | omega)), ⟨y_2, ey_2, ⟨y_3, ty_3, ⟨r_5, G_6, hX_9, ⟨rfl, rfl⟩⟩⟩⟩⟩), wd_t ht hW⟩, hS.F ht⟩) hS.2.2 dX12_areRules_13

set_option maxHeartbeats 4000000 in
set_option maxRecDepth 100000 in
theorem n_isInch (l : Launch) (D : va_G) (k : KT) (A : Nat → Prop) (a : Nat → Nat) (z : SK) (G : GS) (p0 : Int32) (p1 : Int32) (ha_p0 : 0 ≤ p0.toInt ∧ p0.toInt ≤ 2) : Met l yX12_isInch (WS yX12_isInch cX12_isInch 3 (some .boolean)) ({ frames := 1, cells := 0, slots := 0, locals := 22 }) (va_Pc [.ref (a 66), .int p0, .int p1] (cW D k A a z G)) (va_Qi (fun (r : Int32) (G1 : GS) => Q_isInch p0 p1 G r G1) (fun (G1 : GS) t => Wd D k A a G1 t.heap) A) 0 0 A := by
  refine Met.ofW (cc := cX12_isInch) (maxL := 3) (ret := (some .boolean)) (by decide) rfl ?_
  intro p e s m args below meth c s₁ B hml hv
  obtain ⟨rfl, hW, hB_G, hK, hZ⟩ := hv
  have hx := B.exec
  have hb := B.bytes
  have hr := B.returns
  have hts := atoms_spec (ws := WS yX12_isInch cX12_isInch 3 (some .boolean)) B.pre
  have hgd : ∀ w ∈ gd, w ∈ WS yX12_isInch cX12_isInch 3 (some .boolean) := fun w h => List.mem_cons_of_mem _ h
  have hg : ∀ w ∈ gd, w.before _ s = true := fun w h => hts w (hgd w h)
  have hown : s.vm.findClass RX12 = some m.cls := findClass_of_methodNamed B.named
  have hS : va_S A s.heap s.heap [] := va_S.rf
  have hF : Fr [] [] G G := Fr.rf
  have hl := lv_entry ([.ref (a 66), .int p0, .int p1]) (n := 3) (Nat.le_of_ble_eq_true rfl)
  rw [lg_entry_eq]
  generalize (lg_sl ([.ref (a 66), .int p0, .int p1]) ++ List.replicate (3 - (lg_sl ([.ref (a 66), .int p0, .int p1])).length) Slot.unset).toArray = ls at hl ⊢
  have hl : lv_has ls 3 [(0, .ref (a 66)), (1, .int p0), (2, .int p1)] := hl
  refine lv_iload_n hx hb dX12_isInch_0 rfl (lv_at hl 2 rfl) ?_
  refine ic_0 hx hb dX12_isInch_1 ?_
  refine lv_aload_n hx hb dX12_isInch_2 rfl (lv_at hl 0 rfl) ?_
  refine S_getR (n := 91) (C := RX12) (T := TX12) (N := 89) hx hb hg iX12 hown hK hW kd_66 rfl 39 (lt_b rfl) (hg (Cond.fieldLink RX12 87 "SlabWalkModel" "lengths" "[I") m1353) (fun _ h9 => h9) rfl dX12_isInch_3 ?_
  refine lv_iload_n hx hb dX12_isInch_6 rfl (lv_at hl 1 rfl) ?_
  refine S_iald hx hb hK hW kd_91 (vin (by omega) (by omega)) dX12_isInch_7 (fun y_1 ey_1 => ?_)
  have ty_1 : 0 ≤ y_1.toInt ∧ y_1.toInt ≤ 400 := bv_91 hB_G ey_1
  refine ic_1 hx hb dX12_isInch_8 ?_
  refine lv_isub hx hb dX12_isInch_9 ?_
  refine lv_topi (fun y_2 ey_2 => ?_)
  have ty_2 : y_2.toInt = y_1.toInt - 1 := xI_sub rfl rfl ey_2 (by omega) (by omega)
  have qc_3 : (0 : Int32).toInt = 0 := rfl
  refine S_calli (va_runS (As := [.int p1, .int 0, .int y_2]) (rest := []) ⟨hx, hb, hml, hown, hts⟩ (n_isIn l D k A a z G p1 0 y_2 ) (va_cwS 3 hts (gd_S hgd m1781 m1782 m131 m1783) rfl rfl rfl hd_X12_isIn.2 ⟨Nat.le_of_ble_eq_true rfl, Nat.le_of_ble_eq_true rfl⟩) (pre_S hW hB_G hK hZ hS) rfl rfl hl.1 rfl (lv_room (Nat.le_of_ble_eq_true rfl)) dX12_isInch_10 ⟨Nat.le_of_ble_eq_true rfl, Nat.le_of_ble_eq_true rfl⟩) hS (fun r_4 G_5 H locs hpo hW hS => ?_)
  have hX_8 : Q_isIn p1 0 y_2 G r_4 G_5 := hpo
  obtain ⟨hB_G_5, hq_6, f_9, ⟨d_1, d_2⟩, -⟩ := hpo
  have hF := hF.call9 hq_6 rfl rfl
  exact W.zret (v := r_4) hx hb hr (nar_z (by omega) (by omega)) (fun t ht _ => ⟨⟨r_4, G_5, rfl, (Q_isInch_mk ⟨hB_G_5, hF, ⟨by omega, by omega⟩, ((by first | exact (fun h9 => ⟨(by omega), (by omega)⟩) | omega)), ⟨y_1, ey_1, ⟨y_2, ty_2, ⟨r_4, G_5, hX_8, ⟨rfl, rfl⟩⟩⟩⟩⟩), wd_t ht hW⟩, hS.F ht⟩) hS.2.2 dX12_isInch_13

set_option maxHeartbeats 4000000 in
set_option maxRecDepth 100000 in
theorem n_fault (l : Launch) (D : va_G) (k : KT) (A : Nat → Prop) (a : Nat → Nat) (z : SK) (G : GS) (p0 : Int32)  : Met l yX12_fault (WS yX12_fault cX12_fault 2 (some .int)) ({ frames := 0, cells := 0, slots := 0, locals := 0 }) (va_Pc [.ref (a 66), .int p0] (cW D k A a z G)) (va_Qi (fun (r : Int32) (G1 : GS) => Q_fault p0 G r G1) (fun (G1 : GS) t => Wd D k A a G1 t.heap) A) 0 0 A := by
  refine Met.ofW (cc := cX12_fault) (maxL := 2) (ret := (some .int)) (by decide) rfl ?_
  intro p e s m args below meth c s₁ B hml hv
  obtain ⟨rfl, hW, hB_G, hK, hZ⟩ := hv
  have hx := B.exec
  have hb := B.bytes
  have hr := B.returns
  have hts := atoms_spec (ws := WS yX12_fault cX12_fault 2 (some .int)) B.pre
  have hgd : ∀ w ∈ gd, w ∈ WS yX12_fault cX12_fault 2 (some .int) := fun w h => List.mem_cons_of_mem _ h
  have hg : ∀ w ∈ gd, w.before _ s = true := fun w h => hts w (hgd w h)
  have hown : s.vm.findClass RX12 = some m.cls := findClass_of_methodNamed B.named
  have hS : va_S A s.heap s.heap [] := va_S.rf
  have hF : Fr [] [] G G := Fr.rf
  have hl := lv_entry ([.ref (a 66), .int p0]) (n := 2) (Nat.le_of_ble_eq_true rfl)
  rw [lg_entry_eq]
  generalize (lg_sl ([.ref (a 66), .int p0]) ++ List.replicate (2 - (lg_sl ([.ref (a 66), .int p0])).length) Slot.unset).toArray = ls at hl ⊢
  have hl : lv_has ls 2 [(0, .ref (a 66)), (1, .int p0)] := hl
  refine lv_iload_n hx hb dX12_fault_0 rfl (lv_at hl 1 rfl) ?_
  refine lv_if_ne (tgt := 11) hx hb dX12_fault_1 rfl (fun c_1 => ?_) (fun c_1 => ?_)
  · have c_1 : p0.toInt ≠ 0 := xI_ne rfl rfl c_1
    refine lv_iload_n hx hb dX12_fault_11 rfl (lv_at hl 1 rfl) ?_
    refine ic_1 hx hb dX12_fault_12 ?_
    refine lv_icmp_ne (tgt := 23) hx hb dX12_fault_13 rfl (fun c_2 => ?_) (fun c_2 => ?_)
    · have c_2 : p0.toInt ≠ 1 := xI_ne rfl rfl c_2
      refine ic_m1 hx hb dX12_fault_23 ?_
      exact W.iret (v := (-1)) hx hb hr (fun t ht _ => ⟨⟨(-1), G, rfl, (Q_fault_mk ⟨hB_G, hF, (Or.inr ⟨c_1, (Or.inr ⟨c_2, ⟨rfl, rfl⟩⟩)⟩)⟩), wd_t ht hW⟩, hS.F ht⟩) hS.2.2 dX12_fault_24
    · have c_2 : p0.toInt = 1 := xI_eq rfl rfl c_2
      refine lv_aload_n hx hb dX12_fault_16 rfl (lv_at hl 0 rfl) ?_
      have b_3 : (-1) ≤ (G.1 66 3).toInt ∧ (G.1 66 3).toInt ≤ 1600 := bd_66_3 hB_G
      refine S_getI (v := (G.1 66 3)) (C := RX12) (T := TX12) (N := 89) hx hb hg iX12 hown hK hW kd_66 rfl 3 (lt_b rfl) (hg (Cond.fieldLink RX12 13 "SlabWalkModel" "faultPlace" "I") m1317) (fun _ h9 => h9) rfl rfl dX12_fault_17 ?_
      refine lv_goto (tgt := 24) hx hb dX12_fault_20 rfl ?_
      exact W.iret (v := (G.1 66 3)) hx hb hr (fun t ht _ => ⟨⟨(G.1 66 3), G, rfl, (Q_fault_mk ⟨hB_G, hF, (Or.inr ⟨c_1, (Or.inl ⟨c_2, ⟨rfl, rfl⟩⟩)⟩)⟩), wd_t ht hW⟩, hS.F ht⟩) hS.2.2 dX12_fault_24
  · have c_1 : p0.toInt = 0 := xI_eq rfl rfl c_1
    refine lv_aload_n hx hb dX12_fault_4 rfl (lv_at hl 0 rfl) ?_
    have b_4 : 0 ≤ (G.1 66 2).toInt ∧ (G.1 66 2).toInt ≤ 4 := bd_66_2 hB_G
    refine S_getI (v := (G.1 66 2)) (C := RX12) (T := TX12) (N := 89) hx hb hg iX12 hown hK hW kd_66 rfl 2 (lt_b rfl) (hg (Cond.fieldLink RX12 218 "SlabWalkModel" "fault" "I") m1316) (fun _ h9 => h9) rfl rfl dX12_fault_5 ?_
    refine lv_goto (tgt := 24) hx hb dX12_fault_8 rfl ?_
    exact W.iret (v := (G.1 66 2)) hx hb hr (fun t ht _ => ⟨⟨(G.1 66 2), G, rfl, (Q_fault_mk ⟨hB_G, hF, (Or.inl ⟨c_1, ⟨rfl, rfl⟩⟩)⟩), wd_t ht hW⟩, hS.F ht⟩) hS.2.2 dX12_fault_24

set_option maxHeartbeats 4000000 in
set_option maxRecDepth 100000 in
theorem n_length (l : Launch) (D : va_G) (k : KT) (A : Nat → Prop) (a : Nat → Nat) (z : SK) (G : GS) (p0 : Int32)  : Met l yX12_length (WS yX12_length cX12_length 2 (some .int)) ({ frames := 2, cells := 0, slots := 0, locals := 43 }) (va_Pc [.ref (a 66), .int p0] (cW D k A a z G)) (va_Qi (fun (r : Int32) (G1 : GS) => Q_length p0 G r G1) (fun (G1 : GS) t => Wd D k A a G1 t.heap) A) 0 0 A := by
  refine Met.ofW (cc := cX12_length) (maxL := 2) (ret := (some .int)) (by decide) rfl ?_
  intro p e s m args below meth c s₁ B hml hv
  obtain ⟨rfl, hW, hB_G, hK, hZ⟩ := hv
  have hx := B.exec
  have hb := B.bytes
  have hr := B.returns
  have hts := atoms_spec (ws := WS yX12_length cX12_length 2 (some .int)) B.pre
  have hgd : ∀ w ∈ gd, w ∈ WS yX12_length cX12_length 2 (some .int) := fun w h => List.mem_cons_of_mem _ h
  have hg : ∀ w ∈ gd, w.before _ s = true := fun w h => hts w (hgd w h)
  have hown : s.vm.findClass RX12 = some m.cls := findClass_of_methodNamed B.named
  have hS : va_S A s.heap s.heap [] := va_S.rf
  have hF : Fr [] [] G G := Fr.rf
  have hl := lv_entry ([.ref (a 66), .int p0]) (n := 2) (Nat.le_of_ble_eq_true rfl)
  rw [lg_entry_eq]
  generalize (lg_sl ([.ref (a 66), .int p0]) ++ List.replicate (2 - (lg_sl ([.ref (a 66), .int p0])).length) Slot.unset).toArray = ls at hl ⊢
  have hl : lv_has ls 2 [(0, .ref (a 66)), (1, .int p0)] := hl
  refine lv_aload_n hx hb dX12_length_0 rfl (lv_at hl 0 rfl) ?_
  refine lv_iload_n hx hb dX12_length_1 rfl (lv_at hl 1 rfl) ?_
  refine S_calli (va_runV (As := [.int p0]) (rest := []) ⟨hx, hb, hml, hown, hts⟩ (n_isStreet l D k A a z G p0 ) (cwV 1 hts (gd_V hgd m1777 m1779 m83 m131 m1780) rfl rfl rfl hd_X12_isStreet ⟨Nat.le_of_ble_eq_true rfl, Nat.le_of_ble_eq_true rfl⟩) (pre_W hW hB_G hK hZ hS kd_66 rfl) rfl rfl hl.1 rfl (lv_room (Nat.le_of_ble_eq_true rfl)) dX12_length_2 ⟨Nat.le_of_ble_eq_true rfl, Nat.le_of_ble_eq_true rfl⟩) hS (fun r_1 G_2 H locs hpo hW hS => ?_)
  have hX_5 : Q_isStreet p0 G r_1 G_2 := hpo
  obtain ⟨hB_G_2, hq_3, f_6, hp_4, -⟩ := hpo
  have hF := hF.call9 hq_3 rfl rfl
  refine lv_if_eq (tgt := 17) hx hb dX12_length_5 rfl (fun c_7 => ?_) (fun c_7 => ?_)
  · have c_7 : r_1.toInt = 0 := xI_eq rfl rfl c_7
    refine ic_m1 hx hb dX12_length_17 ?_
    exact W.iret (v := (-1)) hx hb hr (fun t ht _ => ⟨⟨(-1), G_2, rfl, (Q_length_mk ⟨hB_G_2, hF, ⟨r_1, G_2, hX_5, (Or.inl ⟨c_7, ⟨rfl, rfl⟩⟩)⟩⟩), wd_t ht hW⟩, hS.F ht⟩) hS.2.2 dX12_length_18
  · have c_7 : r_1.toInt ≠ 0 := xI_ne rfl rfl c_7
    refine lv_aload_n hx hb dX12_length_8 rfl (lv_at hl 0 rfl) ?_
    refine S_getR (n := 91) (C := RX12) (T := TX12) (N := 89) hx hb hg iX12 hown hK hW kd_66 rfl 39 (lt_b rfl) (hg (Cond.fieldLink RX12 87 "SlabWalkModel" "lengths" "[I") m1353) (fun _ h9 => h9) rfl dX12_length_9 ?_
    refine lv_iload_n hx hb dX12_length_12 rfl (lv_at hl 1 rfl) ?_
    refine S_iald hx hb hK hW kd_91 (vin (by omega) (by omega)) dX12_length_13 (fun y_8 ey_8 => ?_)
    have ty_8 : 0 ≤ y_8.toInt ∧ y_8.toInt ≤ 400 := bv_91 hB_G_2 ey_8
    refine lv_goto (tgt := 18) hx hb dX12_length_14 rfl ?_
    exact W.iret (v := y_8) hx hb hr (fun t ht _ => ⟨⟨y_8, G_2, rfl, (Q_length_mk ⟨hB_G_2, hF, ⟨r_1, G_2, hX_5, (Or.inr ⟨c_7, ⟨y_8, ey_8, ⟨rfl, rfl⟩⟩⟩)⟩⟩), wd_t ht hW⟩, hS.F ht⟩) hS.2.2 dX12_length_18

set_option maxHeartbeats 4000000 in
set_option maxRecDepth 100000 in
theorem n_inch (l : Launch) (D : va_G) (k : KT) (A : Nat → Prop) (a : Nat → Nat) (z : SK) (G : GS) (p0 : Int32) (p1 : Int32) (p2 : Int32)  : Met l yX12_inch (WS yX12_inch cX12_inch 5 (some .int)) ({ frames := 2, cells := 0, slots := 0, locals := 44 }) (va_Pc [.ref (a 66), .int p0, .int p1, .int p2] (cW D k A a z G)) (va_Qi (fun (r : Int32) (G1 : GS) => Q_inch p0 p1 p2 G r G1) (fun (G1 : GS) t => Wd D k A a G1 t.heap) A) 0 0 A := by
  refine Met.ofW (cc := cX12_inch) (maxL := 5) (ret := (some .int)) (by decide) rfl ?_
  intro p e s m args below meth c s₁ B hml hv
  obtain ⟨rfl, hW, hB_G, hK, hZ⟩ := hv
  have hx := B.exec
  have hb := B.bytes
  have hr := B.returns
  have hts := atoms_spec (ws := WS yX12_inch cX12_inch 5 (some .int)) B.pre
  have hgd : ∀ w ∈ gd, w ∈ WS yX12_inch cX12_inch 5 (some .int) := fun w h => List.mem_cons_of_mem _ h
  have hg : ∀ w ∈ gd, w.before _ s = true := fun w h => hts w (hgd w h)
  have hown : s.vm.findClass RX12 = some m.cls := findClass_of_methodNamed B.named
  have hS : va_S A s.heap s.heap [] := va_S.rf
  have hF : Fr [] [] G G := Fr.rf
  have hl := lv_entry ([.ref (a 66), .int p0, .int p1, .int p2]) (n := 5) (Nat.le_of_ble_eq_true rfl)
  rw [lg_entry_eq]
  generalize (lg_sl ([.ref (a 66), .int p0, .int p1, .int p2]) ++ List.replicate (5 - (lg_sl ([.ref (a 66), .int p0, .int p1, .int p2])).length) Slot.unset).toArray = ls at hl ⊢
  have hl : lv_has ls 5 [(0, .ref (a 66)), (1, .int p0), (2, .int p1), (3, .int p2)] := hl
  refine lv_aload_n hx hb dX12_inch_0 rfl (lv_at hl 0 rfl) ?_
  refine lv_iload_n hx hb dX12_inch_1 rfl (lv_at hl 1 rfl) ?_
  refine S_calli (va_runV (As := [.int p0]) (rest := []) ⟨hx, hb, hml, hown, hts⟩ (n_isStreet l D k A a z G p0 ) (cwV 1 hts (gd_V hgd m1777 m1779 m83 m131 m1780) rfl rfl rfl hd_X12_isStreet ⟨Nat.le_of_ble_eq_true rfl, Nat.le_of_ble_eq_true rfl⟩) (pre_W hW hB_G hK hZ hS kd_66 rfl) rfl rfl hl.1 rfl (lv_room (Nat.le_of_ble_eq_true rfl)) dX12_inch_2 ⟨Nat.le_of_ble_eq_true rfl, Nat.le_of_ble_eq_true rfl⟩) hS (fun r_1 G_2 H locs hpo hW hS => ?_)
  have hX_5 : Q_isStreet p0 G r_1 G_2 := hpo
  obtain ⟨hB_G_2, hq_3, f_6, hp_4, -⟩ := hpo
  have hF := hF.call9 hq_3 rfl rfl
  refine lv_if_eq (tgt := 17) hx hb dX12_inch_5 rfl (fun c_7 => ?_) (fun c_7 => ?_)
  · have c_7 : r_1.toInt = 0 := xI_eq rfl rfl c_7
    refine ic_m1 hx hb dX12_inch_17 ?_
    exact W.iret (v := (-1)) hx hb hr (fun t ht _ => ⟨⟨(-1), G_2, rfl, (Q_inch_mk ⟨hB_G_2, hF, ⟨r_1, G_2, hX_5, (Or.inl ⟨c_7, ⟨rfl, rfl⟩⟩)⟩⟩), wd_t ht hW⟩, hS.F ht⟩) hS.2.2 dX12_inch_18
  · have c_7 : r_1.toInt ≠ 0 := xI_ne rfl rfl c_7
    refine lv_aload_n hx hb dX12_inch_8 rfl (lv_at hl 0 rfl) ?_
    refine lv_iload_n hx hb dX12_inch_9 rfl (lv_at hl 1 rfl) ?_
    refine lv_iload_n hx hb dX12_inch_10 rfl (lv_at hl 2 rfl) ?_
    refine S_calli (va_runV (As := [.int p0, .int p1]) (rest := []) ⟨hx, hb, hml, hown, hts⟩ (n_isInch l D k A a z G_2 p0 p1 ⟨by omega, by omega⟩) (cwV 2 hts (gd_V hgd m1784 m1786 m84 m131 m1787) rfl rfl rfl hd_X12_isInch ⟨Nat.le_of_ble_eq_true rfl, Nat.le_of_ble_eq_true rfl⟩) (pre_W hW hB_G_2 hK hZ hS kd_66 rfl) rfl rfl hl.1 rfl (lv_room (Nat.le_of_ble_eq_true rfl)) dX12_inch_11 ⟨Nat.le_of_ble_eq_true rfl, Nat.le_of_ble_eq_true rfl⟩) hS (fun r_8 G_9 H locs hpo hW hS => ?_)
    have hX_12 : Q_isInch p0 p1 G_2 r_8 G_9 := hpo
    obtain ⟨hB_G_9, hq_10, f_13, hp_11, -⟩ := hpo
    have hF := hF.call9 hq_10 rfl rfl
    refine lv_if_ne (tgt := 19) hx hb dX12_inch_14 rfl (fun c_14 => ?_) (fun c_14 => ?_)
    · have c_14 : r_8.toInt ≠ 0 := xI_ne rfl rfl c_14
      refine lv_sipush (v := 400) hx hb dX12_inch_19 (by decide) ?_
      refine lv_iload_n hx hb dX12_inch_22 rfl (lv_at hl 1 rfl) ?_
      refine lv_imul hx hb dX12_inch_23 ?_
      refine lv_topi (fun y_15 ey_15 => ?_)
      have ty_15 : y_15.toInt = 400 * p0.toInt := xI_mul rfl rfl ey_15 ((by first | (clear f_13 hp_11 c_14; omega) | omega)) ((by first | (clear f_13 hp_11 c_14; omega) | omega))
      refine lv_iload_n hx hb dX12_inch_24 rfl (lv_at hl 2 rfl) ?_
      refine lv_iadd hx hb dX12_inch_25 ?_
      refine lv_topi (fun y_16 ey_16 => ?_)
      have ty_16 : y_16.toInt = y_15.toInt + p1.toInt := xI_add rfl rfl ey_16 (by omega) (by omega)
      refine lv_istore (lv' := [(4, .int y_16), (0, .ref (a 66)), (1, .int p0), (2, .int p1), (3, .int p2)]) hx hb dX12_inch_26 hl (lt_b rfl) rfl (fun ls hl => ?_)
      refine lv_iload_n hx hb dX12_inch_28 rfl (lv_at hl 4 rfl) ?_
      by_cases c_17 : p2 = 0
      · refine lv_tableIn (tgt := 64) hx hb dX12_inch_29 (by rw [c_17]; decide) (by rw [c_17]; decide) (off := 35) (by rw [c_17]; decide) (by decide) ?_
        have c_17 : p2.toInt = 0 := xI_eq rfl rfl c_17
        refine lv_aload_n hx hb dX12_inch_64 rfl (lv_at hl 1 rfl) ?_
        refine S_getR (n := 87) (C := RX12) (T := TX12) (N := 89) hx hb hg iX12 hown hK hW kd_66 rfl 35 (lt_b rfl) (hg (Cond.fieldLink RX12 75 "SlabWalkModel" "marks" "[I") m1349) (fun _ h9 => h9) rfl dX12_inch_65 ?_
        refine lv_iload hx hb dX12_inch_68 (lv_at hl 0 rfl) ?_
        refine S_iald hx hb hK hW kd_87 (vin (by omega) (by omega)) dX12_inch_70 (fun y_18 ey_18 => ?_)
        refine lv_if_ge (tgt := 78) hx hb dX12_inch_71 rfl (fun c_19 => ?_) (fun c_19 => ?_)
        · have c_19 : 0 ≤ y_18.toInt := xI_le rfl rfl c_19
          refine ic_0 hx hb dX12_inch_78 ?_
          have qc_20 : (0 : Int32).toInt = 0 := rfl
          refine S_calli (va_runS (As := [.int 0]) (rest := []) ⟨hx, hb, hml, hown, hts⟩ (n_truth l D k A a z G_9 0 ⟨by decide, by decide⟩) (va_cwS 1 hts (gd_S hgd m1788 m1789 m131 m1790) rfl rfl rfl hd_X12_truth.2 ⟨Nat.le_of_ble_eq_true rfl, Nat.le_of_ble_eq_true rfl⟩) (pre_S hW hB_G_9 hK hZ hS) rfl rfl hl.1 rfl (lv_room (Nat.le_of_ble_eq_true rfl)) dX12_inch_79 ⟨Nat.le_of_ble_eq_true rfl, Nat.le_of_ble_eq_true rfl⟩) hS (fun r_21 G_22 H locs hpo hW hS => ?_)
          have hX_25 : Q_truth 0 G_9 r_21 G_22 := hpo
          obtain ⟨hB_G_22, hq_23, f_26, hp_24, -⟩ := hpo
          have hF := hF.call9 hq_23 rfl rfl
          exact W.iret (v := r_21) hx hb hr (fun t ht _ => ⟨⟨r_21, G_22, rfl, (Q_inch_mk ⟨hB_G_22, hF, ⟨r_1, G_2, hX_5, (Or.inr ⟨c_7, ⟨r_8, G_9, hX_12, (Or.inr ⟨c_14, ⟨y_15, ty_15, ⟨y_16, ty_16, (Or.inl ⟨c_17, ⟨y_18, ey_18, (Or.inl ⟨c_19, ⟨r_21, G_22, hX_25, ⟨rfl, rfl⟩⟩⟩)⟩⟩)⟩⟩⟩)⟩⟩)⟩⟩), wd_t ht hW⟩, hS.F ht⟩) hS.2.2 dX12_inch_82
        · have c_19 : y_18.toInt < 0 := xI_nle rfl rfl c_19
          refine ic_1 hx hb dX12_inch_74 ?_
          refine lv_goto (tgt := 79) hx hb dX12_inch_75 rfl ?_
          have qc_27 : (1 : Int32).toInt = 1 := rfl
          refine S_calli (va_runS (As := [.int 1]) (rest := []) ⟨hx, hb, hml, hown, hts⟩ (n_truth l D k A a z G_9 1 ⟨by decide, by decide⟩) (va_cwS 1 hts (gd_S hgd m1788 m1789 m131 m1790) rfl rfl rfl hd_X12_truth.2 ⟨Nat.le_of_ble_eq_true rfl, Nat.le_of_ble_eq_true rfl⟩) (pre_S hW hB_G_9 hK hZ hS) rfl rfl hl.1 rfl (lv_room (Nat.le_of_ble_eq_true rfl)) dX12_inch_79 ⟨Nat.le_of_ble_eq_true rfl, Nat.le_of_ble_eq_true rfl⟩) hS (fun r_28 G_29 H locs hpo hW hS => ?_)
          have hX_32 : Q_truth 1 G_9 r_28 G_29 := hpo
          obtain ⟨hB_G_29, hq_30, f_33, hp_31, -⟩ := hpo
          have hF := hF.call9 hq_30 rfl rfl
          exact W.iret (v := r_28) hx hb hr (fun t ht _ => ⟨⟨r_28, G_29, rfl, (Q_inch_mk ⟨hB_G_29, hF, ⟨r_1, G_2, hX_5, (Or.inr ⟨c_7, ⟨r_8, G_9, hX_12, (Or.inr ⟨c_14, ⟨y_15, ty_15, ⟨y_16, ty_16, (Or.inl ⟨c_17, ⟨y_18, ey_18, (Or.inr ⟨c_19, ⟨r_28, G_29, hX_32, ⟨rfl, rfl⟩⟩⟩)⟩⟩)⟩⟩⟩)⟩⟩)⟩⟩), wd_t ht hW⟩, hS.F ht⟩) hS.2.2 dX12_inch_82
      by_cases c_34 : p2 = 1
      · refine lv_tableIn (tgt := 83) hx hb dX12_inch_29 (by rw [c_34]; decide) (by rw [c_34]; decide) (off := 54) (by rw [c_34]; decide) (by decide) ?_
        have c_34 : p2.toInt = 1 := xI_eq rfl rfl c_34
        refine lv_aload_n hx hb dX12_inch_83 rfl (lv_at hl 1 rfl) ?_
        refine S_getR (n := 88) (C := RX12) (T := TX12) (N := 89) hx hb hg iX12 hown hK hW kd_66 rfl 36 (lt_b rfl) (hg (Cond.fieldLink RX12 78 "SlabWalkModel" "nths" "[I") m1350) (fun _ h9 => h9) rfl dX12_inch_84 ?_
        refine lv_iload hx hb dX12_inch_87 (lv_at hl 0 rfl) ?_
        refine S_iald hx hb hK hW kd_88 (vin (by omega) (by omega)) dX12_inch_89 (fun y_35 ey_35 => ?_)
        exact W.iret (v := y_35) hx hb hr (fun t ht _ => ⟨⟨y_35, G_9, rfl, (Q_inch_mk ⟨hB_G_9, hF, ⟨r_1, G_2, hX_5, (Or.inr ⟨c_7, ⟨r_8, G_9, hX_12, (Or.inr ⟨c_14, ⟨y_15, ty_15, ⟨y_16, ty_16, (Or.inr ⟨(xI_ne (Y := 0) rfl rfl c_17), (Or.inl ⟨c_34, ⟨y_35, ey_35, ⟨rfl, rfl⟩⟩⟩)⟩)⟩⟩⟩)⟩⟩)⟩⟩), wd_t ht hW⟩, hS.F ht⟩) hS.2.2 dX12_inch_90
      by_cases c_36 : p2 = 2
      · refine lv_tableIn (tgt := 91) hx hb dX12_inch_29 (by rw [c_36]; decide) (by rw [c_36]; decide) (off := 62) (by rw [c_36]; decide) (by decide) ?_
        have c_36 : p2.toInt = 2 := xI_eq rfl rfl c_36
        refine lv_aload_n hx hb dX12_inch_91 rfl (lv_at hl 1 rfl) ?_
        refine S_getR (n := 89) (C := RX12) (T := TX12) (N := 89) hx hb hg iX12 hown hK hW kd_66 rfl 37 (lt_b rfl) (hg (Cond.fieldLink RX12 81 "SlabWalkModel" "inches" "[I") m1351) (fun _ h9 => h9) rfl dX12_inch_92 ?_
        refine lv_iload hx hb dX12_inch_95 (lv_at hl 0 rfl) ?_
        refine S_iald hx hb hK hW kd_89 (vin (by omega) (by omega)) dX12_inch_97 (fun y_37 ey_37 => ?_)
        exact W.iret (v := y_37) hx hb hr (fun t ht _ => ⟨⟨y_37, G_9, rfl, (Q_inch_mk ⟨hB_G_9, hF, ⟨r_1, G_2, hX_5, (Or.inr ⟨c_7, ⟨r_8, G_9, hX_12, (Or.inr ⟨c_14, ⟨y_15, ty_15, ⟨y_16, ty_16, (Or.inr ⟨(xI_ne (Y := 0) rfl rfl c_17), (Or.inr ⟨(xI_ne (Y := 1) rfl rfl c_34), (Or.inl ⟨c_36, ⟨y_37, ey_37, ⟨rfl, rfl⟩⟩⟩)⟩)⟩)⟩⟩⟩)⟩⟩)⟩⟩), wd_t ht hW⟩, hS.F ht⟩) hS.2.2 dX12_inch_98
      by_cases c_38 : p2 = 3
      · refine lv_tableIn (tgt := 99) hx hb dX12_inch_29 (by rw [c_38]; decide) (by rw [c_38]; decide) (off := 70) (by rw [c_38]; decide) (by decide) ?_
        have c_38 : p2.toInt = 3 := xI_eq rfl rfl c_38
        refine lv_aload_n hx hb dX12_inch_99 rfl (lv_at hl 1 rfl) ?_
        refine S_getR (n := 90) (C := RX12) (T := TX12) (N := 89) hx hb hg iX12 hown hK hW kd_66 rfl 38 (lt_b rfl) (hg (Cond.fieldLink RX12 84 "SlabWalkModel" "longs" "[I") m1352) (fun _ h9 => h9) rfl dX12_inch_100 ?_
        refine lv_iload hx hb dX12_inch_103 (lv_at hl 0 rfl) ?_
        refine S_iald hx hb hK hW kd_90 (vin (by omega) (by omega)) dX12_inch_105 (fun y_39 ey_39 => ?_)
        exact W.iret (v := y_39) hx hb hr (fun t ht _ => ⟨⟨y_39, G_9, rfl, (Q_inch_mk ⟨hB_G_9, hF, ⟨r_1, G_2, hX_5, (Or.inr ⟨c_7, ⟨r_8, G_9, hX_12, (Or.inr ⟨c_14, ⟨y_15, ty_15, ⟨y_16, ty_16, (Or.inr ⟨(xI_ne (Y := 0) rfl rfl c_17), (Or.inr ⟨(xI_ne (Y := 1) rfl rfl c_34), (Or.inr ⟨(xI_ne (Y := 2) rfl rfl c_36), (Or.inl ⟨c_38, ⟨y_39, ey_39, ⟨rfl, rfl⟩⟩⟩)⟩)⟩)⟩)⟩⟩⟩)⟩⟩)⟩⟩), wd_t ht hW⟩, hS.F ht⟩) hS.2.2 dX12_inch_106
      by_cases c_40 : p2 = 4
      · refine lv_tableIn (tgt := 107) hx hb dX12_inch_29 (by rw [c_40]; decide) (by rw [c_40]; decide) (off := 78) (by rw [c_40]; decide) (by decide) ?_
        have c_40 : p2.toInt = 4 := xI_eq rfl rfl c_40
        refine lv_aload_n hx hb dX12_inch_107 rfl (lv_at hl 1 rfl) ?_
        refine S_getR (n := 87) (C := RX12) (T := TX12) (N := 89) hx hb hg iX12 hown hK hW kd_66 rfl 35 (lt_b rfl) (hg (Cond.fieldLink RX12 75 "SlabWalkModel" "marks" "[I") m1349) (fun _ h9 => h9) rfl dX12_inch_108 ?_
        refine lv_iload hx hb dX12_inch_111 (lv_at hl 0 rfl) ?_
        refine S_iald hx hb hK hW kd_87 (vin (by omega) (by omega)) dX12_inch_113 (fun y_41 ey_41 => ?_)
        refine lv_if_ge (tgt := 121) hx hb dX12_inch_114 rfl (fun c_42 => ?_) (fun c_42 => ?_)
        · have c_42 : 0 ≤ y_41.toInt := xI_le rfl rfl c_42
          refine lv_aload_n hx hb dX12_inch_121 rfl (lv_at hl 1 rfl) ?_
          refine S_getR (n := 87) (C := RX12) (T := TX12) (N := 89) hx hb hg iX12 hown hK hW kd_66 rfl 35 (lt_b rfl) (hg (Cond.fieldLink RX12 75 "SlabWalkModel" "marks" "[I") m1349) (fun _ h9 => h9) rfl dX12_inch_122 ?_
          refine lv_iload hx hb dX12_inch_125 (lv_at hl 0 rfl) ?_
          refine S_iald hx hb hK hW kd_87 (vin (by omega) (by omega)) dX12_inch_127 (fun y_43 ey_43 => ?_)
          exact W.iret (v := y_43) hx hb hr (fun t ht _ => ⟨⟨y_43, G_9, rfl, (Q_inch_mk ⟨hB_G_9, hF, ⟨r_1, G_2, hX_5, (Or.inr ⟨c_7, ⟨r_8, G_9, hX_12, (Or.inr ⟨c_14, ⟨y_15, ty_15, ⟨y_16, ty_16, (Or.inr ⟨(xI_ne (Y := 0) rfl rfl c_17), (Or.inr ⟨(xI_ne (Y := 1) rfl rfl c_34), (Or.inr ⟨(xI_ne (Y := 2) rfl rfl c_36), (Or.inr ⟨(xI_ne (Y := 3) rfl rfl c_38), (Or.inl ⟨c_40, ⟨y_41, ey_41, (Or.inl ⟨c_42, ⟨y_43, ey_43, ⟨rfl, rfl⟩⟩⟩)⟩⟩)⟩)⟩)⟩)⟩)⟩⟩⟩)⟩⟩)⟩⟩), wd_t ht hW⟩, hS.F ht⟩) hS.2.2 dX12_inch_128
        · have c_42 : y_41.toInt < 0 := xI_nle rfl rfl c_42
          refine ic_0 hx hb dX12_inch_117 ?_
          refine lv_goto (tgt := 128) hx hb dX12_inch_118 rfl ?_
          exact W.iret (v := 0) hx hb hr (fun t ht _ => ⟨⟨0, G_9, rfl, (Q_inch_mk ⟨hB_G_9, hF, ⟨r_1, G_2, hX_5, (Or.inr ⟨c_7, ⟨r_8, G_9, hX_12, (Or.inr ⟨c_14, ⟨y_15, ty_15, ⟨y_16, ty_16, (Or.inr ⟨(xI_ne (Y := 0) rfl rfl c_17), (Or.inr ⟨(xI_ne (Y := 1) rfl rfl c_34), (Or.inr ⟨(xI_ne (Y := 2) rfl rfl c_36), (Or.inr ⟨(xI_ne (Y := 3) rfl rfl c_38), (Or.inl ⟨c_40, ⟨y_41, ey_41, (Or.inr ⟨c_42, ⟨rfl, rfl⟩⟩)⟩⟩)⟩)⟩)⟩)⟩)⟩⟩⟩)⟩⟩)⟩⟩), wd_t ht hW⟩, hS.F ht⟩) hS.2.2 dX12_inch_128
      refine lv_tableOut (tgt := 129) hx hb dX12_inch_29 (tb_out (lo := 0) (hi := 4) (by have c_17 := xI_ne (Y := 0) rfl rfl c_17; have c_34 := xI_ne (Y := 1) rfl rfl c_34; have c_36 := xI_ne (Y := 2) rfl rfl c_36; have c_38 := xI_ne (Y := 3) rfl rfl c_38; have c_40 := xI_ne (Y := 4) rfl rfl c_40; omega)) (by decide) ?_
      have c_17 := xI_ne (Y := 0) rfl rfl c_17
      have c_34 := xI_ne (Y := 1) rfl rfl c_34
      have c_36 := xI_ne (Y := 2) rfl rfl c_36
      have c_38 := xI_ne (Y := 3) rfl rfl c_38
      have c_40 := xI_ne (Y := 4) rfl rfl c_40
      refine ic_m1 hx hb dX12_inch_129 ?_
      exact W.iret (v := (-1)) hx hb hr (fun t ht _ => ⟨⟨(-1), G_9, rfl, (Q_inch_mk ⟨hB_G_9, hF, ⟨r_1, G_2, hX_5, (Or.inr ⟨c_7, ⟨r_8, G_9, hX_12, (Or.inr ⟨c_14, ⟨y_15, ty_15, ⟨y_16, ty_16, (Or.inr ⟨c_17, (Or.inr ⟨c_34, (Or.inr ⟨c_36, (Or.inr ⟨c_38, (Or.inr ⟨c_40, ⟨rfl, rfl⟩⟩)⟩)⟩)⟩)⟩)⟩⟩⟩)⟩⟩)⟩⟩), wd_t ht hW⟩, hS.F ht⟩) hS.2.2 dX12_inch_130
    · have c_14 : r_8.toInt = 0 := xI_eq rfl rfl c_14
      refine ic_m1 hx hb dX12_inch_17 ?_
      exact W.iret (v := (-1)) hx hb hr (fun t ht _ => ⟨⟨(-1), G_9, rfl, (Q_inch_mk ⟨hB_G_9, hF, ⟨r_1, G_2, hX_5, (Or.inr ⟨c_7, ⟨r_8, G_9, hX_12, (Or.inl ⟨c_14, ⟨rfl, rfl⟩⟩)⟩⟩)⟩⟩), wd_t ht hW⟩, hS.F ht⟩) hS.2.2 dX12_inch_18

set_option maxHeartbeats 4000000 in
set_option maxRecDepth 100000 in
theorem n_allSlips (l : Launch) (D : va_G) (k : KT) (A : Nat → Prop) (a : Nat → Nat) (z : SK) (G : GS)   : Met l yX12_allSlips (WS yX12_allSlips cX12_allSlips 1 (some .int)) ({ frames := 0, cells := 0, slots := 0, locals := 0 }) (va_Pc [.ref (a 66)] (cW D k A a z G)) (va_Qi (fun (r : Int32) (G1 : GS) => Q_allSlips G r G1) (fun (G1 : GS) t => Wd D k A a G1 t.heap) A) 0 0 A := by
  refine Met.ofW (cc := cX12_allSlips) (maxL := 1) (ret := (some .int)) (by decide) rfl ?_
  intro p e s m args below meth c s₁ B hml hv
  obtain ⟨rfl, hW, hB_G, hK, hZ⟩ := hv
  have hx := B.exec
  have hb := B.bytes
  have hr := B.returns
  have hts := atoms_spec (ws := WS yX12_allSlips cX12_allSlips 1 (some .int)) B.pre
  have hgd : ∀ w ∈ gd, w ∈ WS yX12_allSlips cX12_allSlips 1 (some .int) := fun w h => List.mem_cons_of_mem _ h
  have hg : ∀ w ∈ gd, w.before _ s = true := fun w h => hts w (hgd w h)
  have hown : s.vm.findClass RX12 = some m.cls := findClass_of_methodNamed B.named
  have hS : va_S A s.heap s.heap [] := va_S.rf
  have hF : Fr [] [] G G := Fr.rf
  have hl := lv_entry ([.ref (a 66)]) (n := 1) (Nat.le_of_ble_eq_true rfl)
  rw [lg_entry_eq]
  generalize (lg_sl ([.ref (a 66)]) ++ List.replicate (1 - (lg_sl ([.ref (a 66)])).length) Slot.unset).toArray = ls at hl ⊢
  have hl : lv_has ls 1 [(0, .ref (a 66))] := hl
  refine lv_aload_n hx hb dX12_allSlips_0 rfl (lv_at hl 0 rfl) ?_
  refine S_getR (n := 96) (C := RX12) (T := TX12) (N := 89) hx hb hg iX12 hown hK hW kd_66 rfl 44 (lt_b rfl) (hg (Cond.fieldLink RX12 102 "SlabWalkModel" "slips" "[I") m1358) (fun _ h9 => h9) rfl dX12_allSlips_1 ?_
  refine ic_0 hx hb dX12_allSlips_4 ?_
  refine S_iald hx hb hK hW kd_96 (vin (by decide) (by decide)) dX12_allSlips_5 (fun y_1 ey_1 => ?_)
  have ty_1 : 0 ≤ y_1.toInt ∧ y_1.toInt ≤ 9 := bv_96 hB_G ey_1
  refine lv_aload_n hx hb dX12_allSlips_6 rfl (lv_at hl 0 rfl) ?_
  refine S_getR (n := 96) (C := RX12) (T := TX12) (N := 89) hx hb hg iX12 hown hK hW kd_66 rfl 44 (lt_b rfl) (hg (Cond.fieldLink RX12 102 "SlabWalkModel" "slips" "[I") m1358) (fun _ h9 => h9) rfl dX12_allSlips_7 ?_
  refine ic_1 hx hb dX12_allSlips_10 ?_
  refine S_iald hx hb hK hW kd_96 (vin (by decide) (by decide)) dX12_allSlips_11 (fun y_2 ey_2 => ?_)
  have ty_2 : 0 ≤ y_2.toInt ∧ y_2.toInt ≤ 9 := bv_96 hB_G ey_2
  refine lv_iadd hx hb dX12_allSlips_12 ?_
  refine lv_topi (fun y_3 ey_3 => ?_)
  have ty_3 : y_3.toInt = y_1.toInt + y_2.toInt := xI_add rfl rfl ey_3 (by omega) (by omega)
  refine lv_aload_n hx hb dX12_allSlips_13 rfl (lv_at hl 0 rfl) ?_
  refine S_getR (n := 96) (C := RX12) (T := TX12) (N := 89) hx hb hg iX12 hown hK hW kd_66 rfl 44 (lt_b rfl) (hg (Cond.fieldLink RX12 102 "SlabWalkModel" "slips" "[I") m1358) (fun _ h9 => h9) rfl dX12_allSlips_14 ?_
  refine ic_2 hx hb dX12_allSlips_17 ?_
  refine S_iald hx hb hK hW kd_96 (vin (by decide) (by decide)) dX12_allSlips_18 (fun y_4 ey_4 => ?_)
  have ty_4 : 0 ≤ y_4.toInt ∧ y_4.toInt ≤ 9 := bv_96 hB_G ey_4
  refine lv_iadd hx hb dX12_allSlips_19 ?_
  refine lv_topi (fun y_5 ey_5 => ?_)
  have ty_5 : y_5.toInt = y_3.toInt + y_4.toInt := xI_add rfl rfl ey_5 (by omega) (by omega)
  have g_6 : (G.1 96 0).toInt = y_1.toInt := (congrArg Int32.toInt (show G.1 96 0 = y_1 from ey_1.symm))
  have g_7 : (G.1 96 1).toInt = y_2.toInt := (congrArg Int32.toInt (show G.1 96 1 = y_2 from ey_2.symm))
  have g_8 : (G.1 96 2).toInt = y_4.toInt := (congrArg Int32.toInt (show G.1 96 2 = y_4 from ey_4.symm))
  exact W.iret (v := y_5) hx hb hr (fun t ht _ => ⟨⟨y_5, G, rfl, (Q_allSlips_mk ⟨hB_G, hF, ⟨by omega, by omega⟩, (by omega), ⟨y_1, ey_1, ⟨y_2, ey_2, ⟨y_3, ty_3, ⟨y_4, ey_4, ⟨y_5, ty_5, ⟨rfl, rfl⟩⟩⟩⟩⟩⟩⟩), wd_t ht hW⟩, hS.F ht⟩) hS.2.2 dX12_allSlips_20

set_option maxHeartbeats 4000000 in
set_option maxRecDepth 100000 in
theorem n_later (l : Launch) (D : va_G) (k : KT) (A : Nat → Prop) (a : Nat → Nat) (z : SK) (G : GS) (p0 : Int32)  : Met l yX12_later (WS yX12_later cX12_later 2 (some .int)) ({ frames := 0, cells := 0, slots := 0, locals := 0 }) (va_Pc [.ref (a 66), .int p0] (cW D k A a z G)) (va_Qi (fun (r : Int32) (G1 : GS) => Q_later p0 G r G1) (fun (G1 : GS) t => Wd D k A a G1 t.heap) A) 0 0 A := by
  refine Met.ofW (cc := cX12_later) (maxL := 2) (ret := (some .int)) (by decide) rfl ?_
  intro p e s m args below meth c s₁ B hml hv
  obtain ⟨rfl, hW, hB_G, hK, hZ⟩ := hv
  have hx := B.exec
  have hb := B.bytes
  have hr := B.returns
  have hts := atoms_spec (ws := WS yX12_later cX12_later 2 (some .int)) B.pre
  have hgd : ∀ w ∈ gd, w ∈ WS yX12_later cX12_later 2 (some .int) := fun w h => List.mem_cons_of_mem _ h
  have hg : ∀ w ∈ gd, w.before _ s = true := fun w h => hts w (hgd w h)
  have hown : s.vm.findClass RX12 = some m.cls := findClass_of_methodNamed B.named
  have hS : va_S A s.heap s.heap [] := va_S.rf
  have hF : Fr [] [(66, 86)] G G := Fr.rf
  have hl := lv_entry ([.ref (a 66), .int p0]) (n := 2) (Nat.le_of_ble_eq_true rfl)
  rw [lg_entry_eq]
  generalize (lg_sl ([.ref (a 66), .int p0]) ++ List.replicate (2 - (lg_sl ([.ref (a 66), .int p0])).length) Slot.unset).toArray = ls at hl ⊢
  have hl : lv_has ls 2 [(0, .ref (a 66)), (1, .int p0)] := hl
  refine lv_iload_n hx hb dX12_later_0 rfl (lv_at hl 1 rfl) ?_
  refine lv_if_lt (tgt := 23) hx hb dX12_later_1 rfl (fun c_1 => ?_) (fun c_1 => ?_)
  · have c_1 : p0.toInt < 0 := xI_lt rfl rfl c_1
    refine ic_m1 hx hb dX12_later_23 ?_
    have b_2 : 0 ≤ (G.1 66 86).toInt ∧ (G.1 66 86).toInt ≤ 100000 := bd_66_86 hB_G
    exact W.iret (v := (-1)) hx hb hr (fun t ht _ => ⟨⟨(-1), G, rfl, (Q_later_mk ⟨hB_G, hF, (by have hq : ((-1) : Int32).toInt = (-1) := rfl; (try dsimp only); omega), (Or.inl ⟨c_1, ⟨rfl, rfl⟩⟩)⟩), wd_t ht hW⟩, hS.F ht⟩) hS.2.2 dX12_later_24
  · have c_1 : 0 ≤ p0.toInt := xI_nlt rfl rfl c_1
    refine lv_iload_n hx hb dX12_later_4 rfl (lv_at hl 1 rfl) ?_
    refine lv_sipush (v := 1000) hx hb dX12_later_5 (by decide) ?_
    refine lv_icmp_gt (tgt := 23) hx hb dX12_later_8 rfl (fun c_3 => ?_) (fun c_3 => ?_)
    · have c_3 : 1000 < p0.toInt := xI_lt rfl rfl c_3
      refine ic_m1 hx hb dX12_later_23 ?_
      have b_4 : 0 ≤ (G.1 66 86).toInt ∧ (G.1 66 86).toInt ≤ 100000 := bd_66_86 hB_G
      exact W.iret (v := (-1)) hx hb hr (fun t ht _ => ⟨⟨(-1), G, rfl, (Q_later_mk ⟨hB_G, hF, (by have hq : ((-1) : Int32).toInt = (-1) := rfl; (try dsimp only); omega), (Or.inr ⟨c_1, (Or.inl ⟨c_3, ⟨rfl, rfl⟩⟩)⟩)⟩), wd_t ht hW⟩, hS.F ht⟩) hS.2.2 dX12_later_24
    · have c_3 : p0.toInt ≤ 1000 := xI_nlt rfl rfl c_3
      refine lv_aload_n hx hb dX12_later_11 rfl (lv_at hl 0 rfl) ?_
      have b_5 : 0 ≤ (G.1 66 86).toInt ∧ (G.1 66 86).toInt ≤ 100000 := bd_66_86 hB_G
      refine S_getI (v := (G.1 66 86)) (C := RX12) (T := TX12) (N := 89) hx hb hg iX12 hown hK hW kd_66 rfl 86 (lt_b rfl) (hg (Cond.fieldLink RX12 593 "SlabWalkModel" "time" "I") m1400) (fun _ h9 => h9) rfl rfl dX12_later_12 ?_
      refine lv_iload_n hx hb dX12_later_15 rfl (lv_at hl 1 rfl) ?_
      refine lv_iadd hx hb dX12_later_16 ?_
      refine lv_topi (fun y_6 ey_6 => ?_)
      have ty_6 : y_6.toInt = (G.1 66 86).toInt + p0.toInt := xI_add rfl rfl ey_6 (by omega) (by omega)
      refine lv_ldcw (v := 100000) hx hb hown (hg (Cond.constant RX12 502 100000) m1858) dX12_later_17 ?_
      refine lv_icmp_le (tgt := 25) hx hb dX12_later_20 rfl (fun c_7 => ?_) (fun c_7 => ?_)
      · have c_7 : y_6.toInt ≤ 100000 := xI_le rfl rfl c_7
        refine lv_aload_n hx hb dX12_later_25 rfl (lv_at hl 0 rfl) ?_
        refine lv_dup hx hb dX12_later_26 rfl ?_
        refine S_getI (v := (G.1 66 86)) (C := RX12) (T := TX12) (N := 89) hx hb hg iX12 hown hK hW kd_66 rfl 86 (lt_b rfl) (hg (Cond.fieldLink RX12 593 "SlabWalkModel" "time" "I") m1400) (fun _ h9 => h9) rfl rfl dX12_later_27 ?_
        refine lv_iload_n hx hb dX12_later_30 rfl (lv_at hl 1 rfl) ?_
        refine lv_iadd hx hb dX12_later_31 ?_
        refine lv_topi (fun y_8 ey_8 => ?_)
        have ty_8 : y_8.toInt = (G.1 66 86).toInt + p0.toInt := xI_add rfl rfl ey_8 (by omega) (by omega)
        refine S_putI (ty := .int) (C := RX12) (T := TX12) (N := 89) hx hb hg iX12 tyX12 tyX12_ok nmX12 hown hK hW hS kd_66 rfl 86 (lt_b rfl) (hg (Cond.fieldLink RX12 593 "SlabWalkModel" "time" "I") m1400) (fun _ h9 => h9) rfl (by decide +kernel) rfl rfl rfl dX12_later_32 (fun G_9 H locs eG_9 hW hS => ?_)
        have hB_G_9 : Bd G_9 := hB_G.put (V := y_8.toInt) (lo := 0) (hi := 100000) eG_9 rfl rfl rfl (by omega) (by omega) (hB_G.2.put eG_9 rfl)
        have hF := hF.put eG_9 (Or.inr (by decide))
        refine lv_aload_n hx hb dX12_later_35 rfl (lv_at hl 0 rfl) ?_
        refine S_getI (v := y_8) (C := RX12) (T := TX12) (N := 89) hx hb hg iX12 hown hK hW kd_66 rfl 86 (lt_b rfl) (hg (Cond.fieldLink RX12 593 "SlabWalkModel" "time" "I") m1400) (fun _ h9 => h9) rfl (gp_eq eG_9) dX12_later_36 ?_
        have g_10 : (G_9.1 66 86).toInt = y_8.toInt := (congrArg Int32.toInt (show G_9.1 66 86 = y_8 from (gp_eq eG_9)))
        exact W.iret (v := y_8) hx hb hr (fun t ht _ => ⟨⟨y_8, G_9, rfl, (Q_later_mk ⟨hB_G_9, hF, ((by first | exact ⟨(fun h9 => ⟨(by omega), (by omega)⟩), (fun h9 => ⟨(by omega), (by omega)⟩)⟩ | omega)), (Or.inr ⟨c_1, (Or.inr ⟨c_3, ⟨y_6, ty_6, (Or.inl ⟨c_7, ⟨y_8, ty_8, ⟨rfl, (Fr.put (rs := []) (fs := [(66, 86)]) Fr.rf eG_9 (Or.inr (by decide))), (gp_eq eG_9)⟩⟩⟩)⟩⟩)⟩)⟩), wd_t ht hW⟩, hS.F ht⟩) hS.2.2 dX12_later_39
      · have c_7 : 100000 < y_6.toInt := xI_nle rfl rfl c_7
        refine ic_m1 hx hb dX12_later_23 ?_
        exact W.iret (v := (-1)) hx hb hr (fun t ht _ => ⟨⟨(-1), G, rfl, (Q_later_mk ⟨hB_G, hF, (by have hq : ((-1) : Int32).toInt = (-1) := rfl; (try dsimp only); omega), (Or.inr ⟨c_1, (Or.inr ⟨c_3, ⟨y_6, ty_6, (Or.inr ⟨c_7, ⟨rfl, rfl⟩⟩)⟩⟩)⟩)⟩), wd_t ht hW⟩, hS.F ht⟩) hS.2.2 dX12_later_24

set_option maxHeartbeats 4000000 in
set_option maxRecDepth 100000 in
theorem n_walker (l : Launch) (D : va_G) (k : KT) (A : Nat → Prop) (a : Nat → Nat) (z : SK) (G : GS) (p0 : Int32)  : Met l yX12_walker (WS yX12_walker cX12_walker 2 (some .int)) ({ frames := 1, cells := 0, slots := 0, locals := 22 }) (va_Pc [.ref (a 66), .int p0] (cW D k A a z G)) (va_Qi (fun (r : Int32) (G1 : GS) => Q_walker p0 G r G1) (fun (G1 : GS) t => Wd D k A a G1 t.heap) A) 0 0 A := by
  refine Met.ofW (cc := cX12_walker) (maxL := 2) (ret := (some .int)) (by decide) rfl ?_
  intro p e s m args below meth c s₁ B hml hv
  obtain ⟨rfl, hW, hB_G, hK, hZ⟩ := hv
  have hx := B.exec
  have hb := B.bytes
  have hr := B.returns
  have hts := atoms_spec (ws := WS yX12_walker cX12_walker 2 (some .int)) B.pre
  have hgd : ∀ w ∈ gd, w ∈ WS yX12_walker cX12_walker 2 (some .int) := fun w h => List.mem_cons_of_mem _ h
  have hg : ∀ w ∈ gd, w.before _ s = true := fun w h => hts w (hgd w h)
  have hown : s.vm.findClass RX12 = some m.cls := findClass_of_methodNamed B.named
  have hS : va_S A s.heap s.heap [] := va_S.rf
  have hF : Fr [] [] G G := Fr.rf
  have hl := lv_entry ([.ref (a 66), .int p0]) (n := 2) (Nat.le_of_ble_eq_true rfl)
  rw [lg_entry_eq]
  generalize (lg_sl ([.ref (a 66), .int p0]) ++ List.replicate (2 - (lg_sl ([.ref (a 66), .int p0])).length) Slot.unset).toArray = ls at hl ⊢
  have hl : lv_has ls 2 [(0, .ref (a 66)), (1, .int p0)] := hl
  refine lv_aload_n hx hb dX12_walker_0 rfl (lv_at hl 0 rfl) ?_
  refine S_getR (n := 110) (C := RX12) (T := TX12) (N := 89) hx hb hg iX12 hown hK hW kd_66 rfl 76 (lt_b rfl) (hg (Cond.fieldLink RX12 151 "SlabWalkModel" "now" "[I") m1390) (fun _ h9 => h9) rfl dX12_walker_1 ?_
  refine ic_0 hx hb dX12_walker_4 ?_
  refine S_iald hx hb hK hW kd_110 (vin (by decide) (by decide)) dX12_walker_5 (fun y_1 ey_1 => ?_)
  have ty_1 := hB_G.now0 110 (by decide) ey_1
  refine lv_if_lt (tgt := 18) hx hb dX12_walker_6 rfl (fun c_2 => ?_) (fun c_2 => ?_)
  · have c_2 : y_1.toInt < 0 := xI_lt rfl rfl c_2
    refine ic_m1 hx hb dX12_walker_18 ?_
    refine lv_goto (tgt := 28) hx hb dX12_walker_19 rfl ?_
    exact W.iret (v := (-1)) hx hb hr (fun t ht _ => ⟨⟨(-1), G, rfl, (Q_walker_mk ⟨hB_G, hF, ⟨y_1, ey_1, (Or.inl ⟨c_2, ⟨rfl, rfl⟩⟩)⟩⟩), wd_t ht hW⟩, hS.F ht⟩) hS.2.2 dX12_walker_28
  · have c_2 : 0 ≤ y_1.toInt := xI_nlt rfl rfl c_2
    refine lv_iload_n hx hb dX12_walker_9 rfl (lv_at hl 1 rfl) ?_
    refine ic_0 hx hb dX12_walker_10 ?_
    refine ic_5 hx hb dX12_walker_11 ?_
    have qc_3 : (0 : Int32).toInt = 0 := rfl
    have qc_4 : (5 : Int32).toInt = 5 := rfl
    refine S_calli (va_runS (As := [.int p0, .int 0, .int 5]) (rest := []) ⟨hx, hb, hml, hown, hts⟩ (n_isIn l D k A a z G p0 0 5 ) (va_cwS 3 hts (gd_S hgd m1781 m1782 m131 m1783) rfl rfl rfl hd_X12_isIn.2 ⟨Nat.le_of_ble_eq_true rfl, Nat.le_of_ble_eq_true rfl⟩) (pre_S hW hB_G hK hZ hS) rfl rfl hl.1 rfl (lv_room (Nat.le_of_ble_eq_true rfl)) dX12_walker_12 ⟨Nat.le_of_ble_eq_true rfl, Nat.le_of_ble_eq_true rfl⟩) hS (fun r_5 G_6 H locs hpo hW hS => ?_)
    have hX_9 : Q_isIn p0 0 5 G r_5 G_6 := hpo
    obtain ⟨hB_G_6, hq_7, f_10, ⟨d_1, d_2⟩, -⟩ := hpo
    have hF := hF.call9 hq_7 rfl rfl
    refine lv_if_ne (tgt := 22) hx hb dX12_walker_15 rfl (fun c_11 => ?_) (fun c_11 => ?_)
    · have c_11 : r_5.toInt ≠ 0 := xI_ne rfl rfl c_11
      refine lv_aload_n hx hb dX12_walker_22 rfl (lv_at hl 0 rfl) ?_
      refine S_getR (n := 110) (C := RX12) (T := TX12) (N := 89) hx hb hg iX12 hown hK hW kd_66 rfl 76 (lt_b rfl) (hg (Cond.fieldLink RX12 151 "SlabWalkModel" "now" "[I") m1390) (fun _ h9 => h9) rfl dX12_walker_23 ?_
      refine lv_iload_n hx hb dX12_walker_26 rfl (lv_at hl 1 rfl) ?_
      refine S_iald hx hb hK hW kd_110 (vin (by omega) (by omega)) dX12_walker_27 (fun y_12 ey_12 => ?_)
      have ty_12 := hB_G_6.now 110 (by decide) ey_12 (by omega)
      exact W.iret (v := y_12) hx hb hr (fun t ht _ => ⟨⟨y_12, G_6, rfl, (Q_walker_mk ⟨hB_G_6, hF, ⟨y_1, ey_1, (Or.inr ⟨c_2, ⟨r_5, G_6, hX_9, (Or.inr ⟨c_11, ⟨y_12, ey_12, ⟨rfl, rfl⟩⟩⟩)⟩⟩)⟩⟩), wd_t ht hW⟩, hS.F ht⟩) hS.2.2 dX12_walker_28
    · have c_11 : r_5.toInt = 0 := xI_eq rfl rfl c_11
      refine ic_m1 hx hb dX12_walker_18 ?_
      refine lv_goto (tgt := 28) hx hb dX12_walker_19 rfl ?_
      exact W.iret (v := (-1)) hx hb hr (fun t ht _ => ⟨⟨(-1), G_6, rfl, (Q_walker_mk ⟨hB_G_6, hF, ⟨y_1, ey_1, (Or.inr ⟨c_2, ⟨r_5, G_6, hX_9, (Or.inl ⟨c_11, ⟨rfl, rfl⟩⟩)⟩⟩)⟩⟩), wd_t ht hW⟩, hS.F ht⟩) hS.2.2 dX12_walker_28

set_option maxHeartbeats 4000000 in
set_option maxRecDepth 100000 in
theorem n_lies (l : Launch) (D : va_G) (k : KT) (A : Nat → Prop) (a : Nat → Nat) (z : SK) (G : GS) (p0 : Int32)  : Met l yX12_lies (WS yX12_lies cX12_lies 2 (some .int)) ({ frames := 1, cells := 0, slots := 0, locals := 22 }) (va_Pc [.ref (a 66), .int p0] (cW D k A a z G)) (va_Qi (fun (r : Int32) (G1 : GS) => Q_lies p0 G r G1) (fun (G1 : GS) t => Wd D k A a G1 t.heap) A) 0 0 A := by
  refine Met.ofW (cc := cX12_lies) (maxL := 2) (ret := (some .int)) (by decide) rfl ?_
  intro p e s m args below meth c s₁ B hml hv
  obtain ⟨rfl, hW, hB_G, hK, hZ⟩ := hv
  have hx := B.exec
  have hb := B.bytes
  have hr := B.returns
  have hts := atoms_spec (ws := WS yX12_lies cX12_lies 2 (some .int)) B.pre
  have hgd : ∀ w ∈ gd, w ∈ WS yX12_lies cX12_lies 2 (some .int) := fun w h => List.mem_cons_of_mem _ h
  have hg : ∀ w ∈ gd, w.before _ s = true := fun w h => hts w (hgd w h)
  have hown : s.vm.findClass RX12 = some m.cls := findClass_of_methodNamed B.named
  have hS : va_S A s.heap s.heap [] := va_S.rf
  have hF : Fr [] [] G G := Fr.rf
  have hl := lv_entry ([.ref (a 66), .int p0]) (n := 2) (Nat.le_of_ble_eq_true rfl)
  rw [lg_entry_eq]
  generalize (lg_sl ([.ref (a 66), .int p0]) ++ List.replicate (2 - (lg_sl ([.ref (a 66), .int p0])).length) Slot.unset).toArray = ls at hl ⊢
  have hl : lv_has ls 2 [(0, .ref (a 66)), (1, .int p0)] := hl
  refine lv_iload_n hx hb dX12_lies_0 rfl (lv_at hl 1 rfl) ?_
  refine ic_0 hx hb dX12_lies_1 ?_
  refine lv_aload_n hx hb dX12_lies_2 rfl (lv_at hl 0 rfl) ?_
  have b_1 : 0 ≤ (G.1 66 66).toInt ∧ (G.1 66 66).toInt ≤ 400 := bd_66_66 hB_G
  refine S_getI (v := (G.1 66 66)) (C := RX12) (T := TX12) (N := 89) hx hb hg iX12 hown hK hW kd_66 rfl 66 (lt_b rfl) (hg (Cond.fieldLink RX12 446 "SlabWalkModel" "lain" "I") m1380) (fun _ h9 => h9) rfl rfl dX12_lies_3 ?_
  refine ic_1 hx hb dX12_lies_6 ?_
  refine lv_isub hx hb dX12_lies_7 ?_
  refine lv_topi (fun y_2 ey_2 => ?_)
  have ty_2 : y_2.toInt = (G.1 66 66).toInt - 1 := xI_sub rfl rfl ey_2 (by omega) (by omega)
  have qc_3 : (0 : Int32).toInt = 0 := rfl
  refine S_calli (va_runS (As := [.int p0, .int 0, .int y_2]) (rest := []) ⟨hx, hb, hml, hown, hts⟩ (n_isIn l D k A a z G p0 0 y_2 ) (va_cwS 3 hts (gd_S hgd m1781 m1782 m131 m1783) rfl rfl rfl hd_X12_isIn.2 ⟨Nat.le_of_ble_eq_true rfl, Nat.le_of_ble_eq_true rfl⟩) (pre_S hW hB_G hK hZ hS) rfl rfl hl.1 rfl (lv_room (Nat.le_of_ble_eq_true rfl)) dX12_lies_8 ⟨Nat.le_of_ble_eq_true rfl, Nat.le_of_ble_eq_true rfl⟩) hS (fun r_4 G_5 H locs hpo hW hS => ?_)
  have hX_8 : Q_isIn p0 0 y_2 G r_4 G_5 := hpo
  obtain ⟨hB_G_5, hq_6, f_9, ⟨d_1, d_2⟩, -⟩ := hpo
  have hF := hF.call9 hq_6 rfl rfl
  refine lv_if_eq (tgt := 23) hx hb dX12_lies_11 rfl (fun c_10 => ?_) (fun c_10 => ?_)
  · have c_10 : r_4.toInt = 0 := xI_eq rfl rfl c_10
    refine ic_m1 hx hb dX12_lies_23 ?_
    exact W.iret (v := (-1)) hx hb hr (fun t ht _ => ⟨⟨(-1), G_5, rfl, (Q_lies_mk ⟨hB_G_5, hF, ⟨y_2, ty_2, ⟨r_4, G_5, hX_8, (Or.inl ⟨c_10, ⟨rfl, rfl⟩⟩)⟩⟩⟩), wd_t ht hW⟩, hS.F ht⟩) hS.2.2 dX12_lies_24
  · have c_10 : r_4.toInt ≠ 0 := xI_ne rfl rfl c_10
    refine lv_aload_n hx hb dX12_lies_14 rfl (lv_at hl 0 rfl) ?_
    refine S_getR (n := 100) (C := RX12) (T := TX12) (N := 89) hx hb hg iX12 hown hK hW kd_66 rfl 65 (lt_b rfl) (hg (Cond.fieldLink RX12 121 "SlabWalkModel" "lies" "[I") m1379) (fun _ h9 => h9) rfl dX12_lies_15 ?_
    refine lv_iload_n hx hb dX12_lies_18 rfl (lv_at hl 1 rfl) ?_
    refine S_iald hx hb hK hW kd_100 (vin (by omega) (by omega)) dX12_lies_19 (fun y_11 ey_11 => ?_)
    refine lv_goto (tgt := 24) hx hb dX12_lies_20 rfl ?_
    exact W.iret (v := y_11) hx hb hr (fun t ht _ => ⟨⟨y_11, G_5, rfl, (Q_lies_mk ⟨hB_G_5, hF, ⟨y_2, ty_2, ⟨r_4, G_5, hX_8, (Or.inr ⟨c_10, ⟨y_11, ey_11, ⟨rfl, rfl⟩⟩⟩)⟩⟩⟩), wd_t ht hW⟩, hS.F ht⟩) hS.2.2 dX12_lies_24

set_option maxHeartbeats 4000000 in
set_option maxRecDepth 100000 in
theorem n_untell (l : Launch) (D : va_G) (k : KT) (A : Nat → Prop) (a : Nat → Nat) (z : SK) (G : GS) (p0 : Int32)  : Met l yX12_untell (WS yX12_untell cX12_untell 2 (some .boolean)) ({ frames := 1, cells := 0, slots := 0, locals := 22 }) (va_Pc [.ref (a 66), .int p0] (cW D k A a z G)) (va_Qi (fun (r : Int32) (G1 : GS) => Q_untell p0 G r G1) (fun (G1 : GS) t => Wd D k A a G1 t.heap) A) 0 0 A := by
  refine Met.ofW (cc := cX12_untell) (maxL := 2) (ret := (some .boolean)) (by decide) rfl ?_
  intro p e s m args below meth c s₁ B hml hv
  obtain ⟨rfl, hW, hB_G, hK, hZ⟩ := hv
  have hx := B.exec
  have hb := B.bytes
  have hr := B.returns
  have hts := atoms_spec (ws := WS yX12_untell cX12_untell 2 (some .boolean)) B.pre
  have hgd : ∀ w ∈ gd, w ∈ WS yX12_untell cX12_untell 2 (some .boolean) := fun w h => List.mem_cons_of_mem _ h
  have hg : ∀ w ∈ gd, w.before _ s = true := fun w h => hts w (hgd w h)
  have hown : s.vm.findClass RX12 = some m.cls := findClass_of_methodNamed B.named
  have hS : va_S A s.heap s.heap [] := va_S.rf
  have hF : Fr [116] [] G G := Fr.rf
  have hl := lv_entry ([.ref (a 66), .int p0]) (n := 2) (Nat.le_of_ble_eq_true rfl)
  rw [lg_entry_eq]
  generalize (lg_sl ([.ref (a 66), .int p0]) ++ List.replicate (2 - (lg_sl ([.ref (a 66), .int p0])).length) Slot.unset).toArray = ls at hl ⊢
  have hl : lv_has ls 2 [(0, .ref (a 66)), (1, .int p0)] := hl
  refine lv_iload_n hx hb dX12_untell_0 rfl (lv_at hl 1 rfl) ?_
  refine ic_0 hx hb dX12_untell_1 ?_
  refine lv_aload_n hx hb dX12_untell_2 rfl (lv_at hl 0 rfl) ?_
  have b_1 : 0 ≤ (G.1 66 85).toInt ∧ (G.1 66 85).toInt ≤ 20 := bd_66_85 hB_G
  refine S_getI (v := (G.1 66 85)) (C := RX12) (T := TX12) (N := 89) hx hb hg iX12 hown hK hW kd_66 rfl 85 (lt_b rfl) (hg (Cond.fieldLink RX12 443 "SlabWalkModel" "sights" "I") m1399) (fun _ h9 => h9) rfl rfl dX12_untell_3 ?_
  refine ic_1 hx hb dX12_untell_6 ?_
  refine lv_isub hx hb dX12_untell_7 ?_
  refine lv_topi (fun y_2 ey_2 => ?_)
  have ty_2 : y_2.toInt = (G.1 66 85).toInt - 1 := xI_sub rfl rfl ey_2 (by omega) (by omega)
  have qc_3 : (0 : Int32).toInt = 0 := rfl
  refine S_calli (va_runS (As := [.int p0, .int 0, .int y_2]) (rest := []) ⟨hx, hb, hml, hown, hts⟩ (n_isIn l D k A a z G p0 0 y_2 ) (va_cwS 3 hts (gd_S hgd m1781 m1782 m131 m1783) rfl rfl rfl hd_X12_isIn.2 ⟨Nat.le_of_ble_eq_true rfl, Nat.le_of_ble_eq_true rfl⟩) (pre_S hW hB_G hK hZ hS) rfl rfl hl.1 rfl (lv_room (Nat.le_of_ble_eq_true rfl)) dX12_untell_8 ⟨Nat.le_of_ble_eq_true rfl, Nat.le_of_ble_eq_true rfl⟩) hS (fun r_4 G_5 H locs hpo hW hS => ?_)
  have hX_8 : Q_isIn p0 0 y_2 G r_4 G_5 := hpo
  obtain ⟨hB_G_5, hq_6, f_9, ⟨d_1, d_2⟩, -⟩ := hpo
  have hF := hF.call9 hq_6 rfl rfl
  refine lv_if_eq (tgt := 23) hx hb dX12_untell_11 rfl (fun c_10 => ?_) (fun c_10 => ?_)
  · have c_10 : r_4.toInt = 0 := xI_eq rfl rfl c_10
    refine ic_0 hx hb dX12_untell_23 ?_
    exact W.zret (v := 0) hx hb hr (by decide) (fun t ht _ => ⟨⟨0, G_5, rfl, (Q_untell_mk ⟨hB_G_5, hF, ⟨by decide, by decide⟩, ⟨y_2, ty_2, ⟨r_4, G_5, hX_8, (Or.inl ⟨c_10, ⟨rfl, rfl⟩⟩)⟩⟩⟩), wd_t ht hW⟩, hS.F ht⟩) hS.2.2 dX12_untell_24
  · have c_10 : r_4.toInt ≠ 0 := xI_ne rfl rfl c_10
    refine lv_aload_n hx hb dX12_untell_14 rfl (lv_at hl 0 rfl) ?_
    refine S_getR (n := 116) (C := RX12) (T := TX12) (N := 89) hx hb hg iX12 hown hK hW kd_66 rfl 84 (lt_b rfl) (hg (Cond.fieldLink RX12 169 "SlabWalkModel" "sightUntold" "[I") m1398) (fun _ h9 => h9) rfl dX12_untell_15 ?_
    refine lv_iload_n hx hb dX12_untell_18 rfl (lv_at hl 1 rfl) ?_
    refine S_iald hx hb hK hW kd_116 (vin (by omega) (by omega)) dX12_untell_19 (fun y_11 ey_11 => ?_)
    refine lv_if_lt (tgt := 25) hx hb dX12_untell_20 rfl (fun c_12 => ?_) (fun c_12 => ?_)
    · have c_12 : y_11.toInt < 0 := xI_lt rfl rfl c_12
      refine lv_aload_n hx hb dX12_untell_25 rfl (lv_at hl 0 rfl) ?_
      refine S_getR (n := 116) (C := RX12) (T := TX12) (N := 89) hx hb hg iX12 hown hK hW kd_66 rfl 84 (lt_b rfl) (hg (Cond.fieldLink RX12 169 "SlabWalkModel" "sightUntold" "[I") m1398) (fun _ h9 => h9) rfl dX12_untell_26 ?_
      refine lv_iload_n hx hb dX12_untell_29 rfl (lv_at hl 1 rfl) ?_
      refine lv_aload_n hx hb dX12_untell_30 rfl (lv_at hl 0 rfl) ?_
      have b_13 : 0 ≤ (G.1 66 86).toInt ∧ (G.1 66 86).toInt ≤ 100000 := bd_66_86 hB_G
      refine S_getI (v := (G.1 66 86)) (C := RX12) (T := TX12) (N := 89) hx hb hg iX12 hown hK hW kd_66 rfl 86 (lt_b rfl) (hg (Cond.fieldLink RX12 593 "SlabWalkModel" "time" "I") m1400) (fun _ h9 => h9) rfl (hq_6.i9 66 86 rfl rfl) dX12_untell_31 ?_
      refine S_iast hx hb hK hW hS kd_116 (vin (by omega) (by omega)) dX12_untell_34 (fun G_14 H locs eG_14 hW hS => ?_)
      have hB_G_14 : Bd G_14 := hB_G_5.put (lo := (-2147483648)) (hi := 2147483647) eG_14 rfl rfl rfl (tI_rng _).1 (tI_rng _).2 (hB_G_5.2.put eG_14 rfl)
      have hF := hF.put eG_14 (Or.inl (by decide))
      refine ic_1 hx hb dX12_untell_35 ?_
      exact W.zret (v := 1) hx hb hr (by decide) (fun t ht _ => ⟨⟨1, G_14, rfl, (Q_untell_mk ⟨hB_G_14, hF, ⟨by decide, by decide⟩, ⟨y_2, ty_2, ⟨r_4, G_5, hX_8, (Or.inr ⟨c_10, ⟨y_11, ey_11, (Or.inl ⟨c_12, ⟨rfl, (Fr.put (rs := [116]) (fs := []) Fr.rf eG_14 (Or.inl (by decide))), rw_ast eG_14⟩⟩)⟩⟩)⟩⟩⟩), wd_t ht hW⟩, hS.F ht⟩) hS.2.2 dX12_untell_36
    · have c_12 : 0 ≤ y_11.toInt := xI_nlt rfl rfl c_12
      refine ic_0 hx hb dX12_untell_23 ?_
      exact W.zret (v := 0) hx hb hr (by decide) (fun t ht _ => ⟨⟨0, G_5, rfl, (Q_untell_mk ⟨hB_G_5, hF, ⟨by decide, by decide⟩, ⟨y_2, ty_2, ⟨r_4, G_5, hX_8, (Or.inr ⟨c_10, ⟨y_11, ey_11, (Or.inr ⟨c_12, ⟨rfl, rfl⟩⟩)⟩⟩)⟩⟩⟩), wd_t ht hW⟩, hS.F ht⟩) hS.2.2 dX12_untell_24
