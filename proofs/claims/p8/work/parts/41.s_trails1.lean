theorem m35 : Cond.selects RX10 yX10_firstHeel yX10_firstHeel ∈ gd := gds_3 3 rfl
theorem m1044 : Cond.methodLink RX10 82 Lib.Math.max.name ∈ gd := gdc_4_13 0 rfl gw_methodLink
theorem m1045 : Cond.methodLink RX10 78 yX10_firstHeel ∈ gd := gdc_4_13 1 rfl gw_methodLink
theorem m1047 : Cond.instanceMethod yX10_firstHeel ∈ gd := gdc_4_13 3 rfl gw_instanceMethod
theorem m1048 : Cond.code yX10_firstHeel cX10_firstHeel 7 (some .int) ∈ gd := gdc_4_13 4 rfl gw_code
def rbX10_comesEvenly_0 : List (Nat × List Nat) := [(0, [42]), (1, [43]), (2, [28]), (3, [28]), (4, [182, 0, 78]), (7, [43]), (8, [180, 0, 64]), (11, [162, 0, 7]), (14, [4]), (15, [167, 0, 4]), (18, [3]), (19, [172])]
theorem rcX10_comesEvenly_0 : dgo (lb cX10_comesEvenly) 0 rbX10_comesEvenly_0 = true := by decide +kernel
theorem dX10_comesEvenly_0 : decode cX10_comesEvenly 0 = .ok (.aload_n 0, 1) := dk_42 (dw rcX10_comesEvenly_0 0 rfl)
theorem dX10_comesEvenly_1 : decode cX10_comesEvenly 1 = .ok (.aload_n 1, 1) := dk_43 (dw rcX10_comesEvenly_0 1 rfl)
theorem dX10_comesEvenly_2 : decode cX10_comesEvenly 2 = .ok (.iload_n 2, 1) := dk_28 (dw rcX10_comesEvenly_0 2 rfl)
theorem dX10_comesEvenly_3 : decode cX10_comesEvenly 3 = .ok (.iload_n 2, 1) := dk_28 (dw rcX10_comesEvenly_0 3 rfl)
theorem dX10_comesEvenly_4 : decode cX10_comesEvenly 4 = .ok (.invokevirtual 78, 3) := dk_182 (dw rcX10_comesEvenly_0 4 rfl) rfl
theorem dX10_comesEvenly_7 : decode cX10_comesEvenly 7 = .ok (.aload_n 1, 1) := dk_43 (dw rcX10_comesEvenly_0 5 rfl)
theorem dX10_comesEvenly_8 : decode cX10_comesEvenly 8 = .ok (.getfield 64, 3) := dk_180 (dw rcX10_comesEvenly_0 6 rfl) rfl
theorem dX10_comesEvenly_11 : decode cX10_comesEvenly 11 = .ok (.if_icmp .ge 7, 3) := dk_162 (dw rcX10_comesEvenly_0 7 rfl) rfl
theorem dX10_comesEvenly_14 : decode cX10_comesEvenly 14 = .ok (.iconst 1, 1) := dk_4 (dw rcX10_comesEvenly_0 8 rfl)
theorem dX10_comesEvenly_15 : decode cX10_comesEvenly 15 = .ok (.goto 4, 3) := dk_167 (dw rcX10_comesEvenly_0 9 rfl) rfl
theorem dX10_comesEvenly_18 : decode cX10_comesEvenly 18 = .ok (.iconst 0, 1) := dk_3 (dw rcX10_comesEvenly_0 10 rfl)
theorem dX10_comesEvenly_19 : decode cX10_comesEvenly 19 = .ok (.ireturn, 1) := dk_172 (dw rcX10_comesEvenly_0 11 rfl)
def rbX10_firstHeel_0 : List (Nat × List Nat) := [(0, [42]), (1, [180, 0, 13]), (4, [3]), (5, [50]), (6, [58, 4]), (8, [25, 4]), (10, [43]), (11, [180, 0, 34]), (14, [4]), (15, [96]), (16, [18, 44]), (18, [79]), (19, [43]), (20, [180, 0, 34]), (23, [54, 5]), (25, [21, 5]), (27, [155, 0, 71]), (30, [21, 5]), (32, [43]), (33, [180, 0, 58]), (36, [162, 0, 17]), (39, [25, 4]), (41, [21, 5]), (43, [28])]
theorem rcX10_firstHeel_0 : dgo (lb cX10_firstHeel) 0 rbX10_firstHeel_0 = true := by decide +kernel
theorem dX10_firstHeel_0 : decode cX10_firstHeel 0 = .ok (.aload_n 0, 1) := dk_42 (dw rcX10_firstHeel_0 0 rfl)
theorem dX10_firstHeel_1 : decode cX10_firstHeel 1 = .ok (.getfield 13, 3) := dk_180 (dw rcX10_firstHeel_0 1 rfl) rfl
theorem dX10_firstHeel_4 : decode cX10_firstHeel 4 = .ok (.iconst 0, 1) := dk_3 (dw rcX10_firstHeel_0 2 rfl)
theorem dX10_firstHeel_5 : decode cX10_firstHeel 5 = .ok (.aaload, 1) := dk_50 (dw rcX10_firstHeel_0 3 rfl)
theorem dX10_firstHeel_6 : decode cX10_firstHeel 6 = .ok (.astore 4, 2) := dk_58 (dw rcX10_firstHeel_0 4 rfl)
theorem dX10_firstHeel_8 : decode cX10_firstHeel 8 = .ok (.aload 4, 2) := dk_25 (dw rcX10_firstHeel_0 5 rfl)
theorem dX10_firstHeel_10 : decode cX10_firstHeel 10 = .ok (.aload_n 1, 1) := dk_43 (dw rcX10_firstHeel_0 6 rfl)
theorem dX10_firstHeel_11 : decode cX10_firstHeel 11 = .ok (.getfield 34, 3) := dk_180 (dw rcX10_firstHeel_0 7 rfl) rfl
theorem dX10_firstHeel_14 : decode cX10_firstHeel 14 = .ok (.iconst 1, 1) := dk_4 (dw rcX10_firstHeel_0 8 rfl)
theorem dX10_firstHeel_15 : decode cX10_firstHeel 15 = .ok (.iadd, 1) := dk_96 (dw rcX10_firstHeel_0 9 rfl)
theorem dX10_firstHeel_16 : decode cX10_firstHeel 16 = .ok (.ldc 44, 2) := dk_18 (dw rcX10_firstHeel_0 10 rfl)
theorem dX10_firstHeel_18 : decode cX10_firstHeel 18 = .ok (.iastore, 1) := dk_79 (dw rcX10_firstHeel_0 11 rfl)
theorem dX10_firstHeel_19 : decode cX10_firstHeel 19 = .ok (.aload_n 1, 1) := dk_43 (dw rcX10_firstHeel_0 12 rfl)
theorem dX10_firstHeel_20 : decode cX10_firstHeel 20 = .ok (.getfield 34, 3) := dk_180 (dw rcX10_firstHeel_0 13 rfl) rfl
theorem dX10_firstHeel_23 : decode cX10_firstHeel 23 = .ok (.istore 5, 2) := dk_54 (dw rcX10_firstHeel_0 14 rfl)
theorem dX10_firstHeel_25 : decode cX10_firstHeel 25 = .ok (.iload 5, 2) := dk_21 (dw rcX10_firstHeel_0 15 rfl)
theorem dX10_firstHeel_27 : decode cX10_firstHeel 27 = .ok (.ifCond .lt 71, 3) := dk_155 (dw rcX10_firstHeel_0 16 rfl) rfl
theorem dX10_firstHeel_30 : decode cX10_firstHeel 30 = .ok (.iload 5, 2) := dk_21 (dw rcX10_firstHeel_0 17 rfl)
theorem dX10_firstHeel_32 : decode cX10_firstHeel 32 = .ok (.aload_n 1, 1) := dk_43 (dw rcX10_firstHeel_0 18 rfl)
theorem dX10_firstHeel_33 : decode cX10_firstHeel 33 = .ok (.getfield 58, 3) := dk_180 (dw rcX10_firstHeel_0 19 rfl) rfl
theorem dX10_firstHeel_36 : decode cX10_firstHeel 36 = .ok (.if_icmp .ge 17, 3) := dk_162 (dw rcX10_firstHeel_0 20 rfl) rfl
theorem dX10_firstHeel_39 : decode cX10_firstHeel 39 = .ok (.aload 4, 2) := dk_25 (dw rcX10_firstHeel_0 21 rfl)
theorem dX10_firstHeel_41 : decode cX10_firstHeel 41 = .ok (.iload 5, 2) := dk_21 (dw rcX10_firstHeel_0 22 rfl)
theorem dX10_firstHeel_43 : decode cX10_firstHeel 43 = .ok (.iload_n 2, 1) := dk_28 (dw rcX10_firstHeel_0 23 rfl)
def rbX10_firstHeel_44 : List (Nat × List Nat) := [(44, [96]), (45, [46]), (46, [21, 5]), (48, [29]), (49, [96]), (50, [163, 0, 7]), (53, [4]), (54, [167, 0, 4]), (57, [3]), (58, [54, 6]), (60, [25, 4]), (62, [21, 5]), (64, [43]), (65, [180, 0, 55]), (68, [21, 5]), (70, [51]), (71, [153, 0, 13]), (74, [21, 6]), (76, [153, 0, 8]), (79, [21, 5]), (81, [167, 0, 10]), (84, [25, 4]), (86, [21, 5]), (88, [4])]
theorem rcX10_firstHeel_44 : dgo (lb cX10_firstHeel) 0 rbX10_firstHeel_44 = true := by decide +kernel
theorem dX10_firstHeel_44 : decode cX10_firstHeel 44 = .ok (.iadd, 1) := dk_96 (dw rcX10_firstHeel_44 0 rfl)
theorem dX10_firstHeel_45 : decode cX10_firstHeel 45 = .ok (.iaload, 1) := dk_46 (dw rcX10_firstHeel_44 1 rfl)
theorem dX10_firstHeel_46 : decode cX10_firstHeel 46 = .ok (.iload 5, 2) := dk_21 (dw rcX10_firstHeel_44 2 rfl)
theorem dX10_firstHeel_48 : decode cX10_firstHeel 48 = .ok (.iload_n 3, 1) := dk_29 (dw rcX10_firstHeel_44 3 rfl)
theorem dX10_firstHeel_49 : decode cX10_firstHeel 49 = .ok (.iadd, 1) := dk_96 (dw rcX10_firstHeel_44 4 rfl)
theorem dX10_firstHeel_50 : decode cX10_firstHeel 50 = .ok (.if_icmp .gt 7, 3) := dk_163 (dw rcX10_firstHeel_44 5 rfl) rfl
theorem dX10_firstHeel_53 : decode cX10_firstHeel 53 = .ok (.iconst 1, 1) := dk_4 (dw rcX10_firstHeel_44 6 rfl)
theorem dX10_firstHeel_54 : decode cX10_firstHeel 54 = .ok (.goto 4, 3) := dk_167 (dw rcX10_firstHeel_44 7 rfl) rfl
theorem dX10_firstHeel_57 : decode cX10_firstHeel 57 = .ok (.iconst 0, 1) := dk_3 (dw rcX10_firstHeel_44 8 rfl)
theorem dX10_firstHeel_58 : decode cX10_firstHeel 58 = .ok (.istore 6, 2) := dk_54 (dw rcX10_firstHeel_44 9 rfl)
theorem dX10_firstHeel_60 : decode cX10_firstHeel 60 = .ok (.aload 4, 2) := dk_25 (dw rcX10_firstHeel_44 10 rfl)
theorem dX10_firstHeel_62 : decode cX10_firstHeel 62 = .ok (.iload 5, 2) := dk_21 (dw rcX10_firstHeel_44 11 rfl)
theorem dX10_firstHeel_64 : decode cX10_firstHeel 64 = .ok (.aload_n 1, 1) := dk_43 (dw rcX10_firstHeel_44 12 rfl)
theorem dX10_firstHeel_65 : decode cX10_firstHeel 65 = .ok (.getfield 55, 3) := dk_180 (dw rcX10_firstHeel_44 13 rfl) rfl
theorem dX10_firstHeel_68 : decode cX10_firstHeel 68 = .ok (.iload 5, 2) := dk_21 (dw rcX10_firstHeel_44 14 rfl)
theorem dX10_firstHeel_70 : decode cX10_firstHeel 70 = .ok (.baload, 1) := dk_51 (dw rcX10_firstHeel_44 15 rfl)
theorem dX10_firstHeel_71 : decode cX10_firstHeel 71 = .ok (.ifCond .eq 13, 3) := dk_153 (dw rcX10_firstHeel_44 16 rfl) rfl
theorem dX10_firstHeel_74 : decode cX10_firstHeel 74 = .ok (.iload 6, 2) := dk_21 (dw rcX10_firstHeel_44 17 rfl)
theorem dX10_firstHeel_76 : decode cX10_firstHeel 76 = .ok (.ifCond .eq 8, 3) := dk_153 (dw rcX10_firstHeel_44 18 rfl) rfl
theorem dX10_firstHeel_79 : decode cX10_firstHeel 79 = .ok (.iload 5, 2) := dk_21 (dw rcX10_firstHeel_44 19 rfl)
theorem dX10_firstHeel_81 : decode cX10_firstHeel 81 = .ok (.goto 10, 3) := dk_167 (dw rcX10_firstHeel_44 20 rfl) rfl
theorem dX10_firstHeel_84 : decode cX10_firstHeel 84 = .ok (.aload 4, 2) := dk_25 (dw rcX10_firstHeel_44 21 rfl)
theorem dX10_firstHeel_86 : decode cX10_firstHeel 86 = .ok (.iload 5, 2) := dk_21 (dw rcX10_firstHeel_44 22 rfl)
theorem dX10_firstHeel_88 : decode cX10_firstHeel 88 = .ok (.iconst 1, 1) := dk_4 (dw rcX10_firstHeel_44 23 rfl)
def rbX10_firstHeel_89 : List (Nat × List Nat) := [(89, [96]), (90, [46]), (91, [79]), (92, [132, 5, 255]), (95, [167, 255, 186]), (98, [25, 4]), (100, [3]), (101, [46]), (102, [172])]
theorem rcX10_firstHeel_89 : dgo (lb cX10_firstHeel) 0 rbX10_firstHeel_89 = true := by decide +kernel
theorem dX10_firstHeel_89 : decode cX10_firstHeel 89 = .ok (.iadd, 1) := dk_96 (dw rcX10_firstHeel_89 0 rfl)
theorem dX10_firstHeel_90 : decode cX10_firstHeel 90 = .ok (.iaload, 1) := dk_46 (dw rcX10_firstHeel_89 1 rfl)
theorem dX10_firstHeel_91 : decode cX10_firstHeel 91 = .ok (.iastore, 1) := dk_79 (dw rcX10_firstHeel_89 2 rfl)
theorem dX10_firstHeel_92 : decode cX10_firstHeel 92 = .ok (.iinc 5 (-1), 3) := dk_132 (dw rcX10_firstHeel_89 3 rfl) rfl
theorem dX10_firstHeel_95 : decode cX10_firstHeel 95 = .ok (.goto (-70), 3) := dk_167 (dw rcX10_firstHeel_89 4 rfl) rfl
theorem dX10_firstHeel_98 : decode cX10_firstHeel 98 = .ok (.aload 4, 2) := dk_25 (dw rcX10_firstHeel_89 5 rfl)
theorem dX10_firstHeel_100 : decode cX10_firstHeel 100 = .ok (.iconst 0, 1) := dk_3 (dw rcX10_firstHeel_89 6 rfl)
theorem dX10_firstHeel_101 : decode cX10_firstHeel 101 = .ok (.iaload, 1) := dk_46 (dw rcX10_firstHeel_89 7 rfl)
theorem dX10_firstHeel_102 : decode cX10_firstHeel 102 = .ok (.ireturn, 1) := dk_172 (dw rcX10_firstHeel_89 8 rfl)
def rbX10_mostEven_0 : List (Nat × List Nat) := [(0, [43]), (1, [180, 0, 64]), (4, [43]), (5, [180, 0, 58]), (8, [184, 0, 49]), (11, [62]), (12, [18, 44]), (14, [54, 4]), (16, [2]), (17, [54, 5]), (19, [43]), (20, [180, 0, 61]), (23, [54, 6]), (25, [43]), (26, [180, 0, 61]), (29, [54, 7]), (31, [21, 7]), (33, [43]), (34, [180, 0, 64]), (37, [163, 0, 76]), (40, [21, 6]), (42, [21, 7]), (44, [184, 0, 82]), (47, [54, 6])]
theorem rcX10_mostEven_0 : dgo (lb cX10_mostEven) 0 rbX10_mostEven_0 = true := by decide +kernel
theorem dX10_mostEven_0 : decode cX10_mostEven 0 = .ok (.aload_n 1, 1) := dk_43 (dw rcX10_mostEven_0 0 rfl)
theorem dX10_mostEven_1 : decode cX10_mostEven 1 = .ok (.getfield 64, 3) := dk_180 (dw rcX10_mostEven_0 1 rfl) rfl
theorem dX10_mostEven_4 : decode cX10_mostEven 4 = .ok (.aload_n 1, 1) := dk_43 (dw rcX10_mostEven_0 2 rfl)
theorem dX10_mostEven_5 : decode cX10_mostEven 5 = .ok (.getfield 58, 3) := dk_180 (dw rcX10_mostEven_0 3 rfl) rfl
theorem dX10_mostEven_8 : decode cX10_mostEven 8 = .ok (.invokestatic 49, 3) := dk_184 (dw rcX10_mostEven_0 4 rfl) rfl
theorem dX10_mostEven_11 : decode cX10_mostEven 11 = .ok (.istore_n 3, 1) := dk_62 (dw rcX10_mostEven_0 5 rfl)
theorem dX10_mostEven_12 : decode cX10_mostEven 12 = .ok (.ldc 44, 2) := dk_18 (dw rcX10_mostEven_0 6 rfl)
theorem dX10_mostEven_14 : decode cX10_mostEven 14 = .ok (.istore 4, 2) := dk_54 (dw rcX10_mostEven_0 7 rfl)
theorem dX10_mostEven_16 : decode cX10_mostEven 16 = .ok (.iconst (-1), 1) := dk_2 (dw rcX10_mostEven_0 8 rfl)
theorem dX10_mostEven_17 : decode cX10_mostEven 17 = .ok (.istore 5, 2) := dk_54 (dw rcX10_mostEven_0 9 rfl)
theorem dX10_mostEven_19 : decode cX10_mostEven 19 = .ok (.aload_n 1, 1) := dk_43 (dw rcX10_mostEven_0 10 rfl)
theorem dX10_mostEven_20 : decode cX10_mostEven 20 = .ok (.getfield 61, 3) := dk_180 (dw rcX10_mostEven_0 11 rfl) rfl
theorem dX10_mostEven_23 : decode cX10_mostEven 23 = .ok (.istore 6, 2) := dk_54 (dw rcX10_mostEven_0 12 rfl)
theorem dX10_mostEven_25 : decode cX10_mostEven 25 = .ok (.aload_n 1, 1) := dk_43 (dw rcX10_mostEven_0 13 rfl)
theorem dX10_mostEven_26 : decode cX10_mostEven 26 = .ok (.getfield 61, 3) := dk_180 (dw rcX10_mostEven_0 14 rfl) rfl
theorem dX10_mostEven_29 : decode cX10_mostEven 29 = .ok (.istore 7, 2) := dk_54 (dw rcX10_mostEven_0 15 rfl)
theorem dX10_mostEven_31 : decode cX10_mostEven 31 = .ok (.iload 7, 2) := dk_21 (dw rcX10_mostEven_0 16 rfl)
theorem dX10_mostEven_33 : decode cX10_mostEven 33 = .ok (.aload_n 1, 1) := dk_43 (dw rcX10_mostEven_0 17 rfl)
theorem dX10_mostEven_34 : decode cX10_mostEven 34 = .ok (.getfield 64, 3) := dk_180 (dw rcX10_mostEven_0 18 rfl) rfl
theorem dX10_mostEven_37 : decode cX10_mostEven 37 = .ok (.if_icmp .gt 76, 3) := dk_163 (dw rcX10_mostEven_0 19 rfl) rfl
theorem dX10_mostEven_40 : decode cX10_mostEven 40 = .ok (.iload 6, 2) := dk_21 (dw rcX10_mostEven_0 20 rfl)
theorem dX10_mostEven_42 : decode cX10_mostEven 42 = .ok (.iload 7, 2) := dk_21 (dw rcX10_mostEven_0 21 rfl)
theorem dX10_mostEven_44 : decode cX10_mostEven 44 = .ok (.invokestatic 82, 3) := dk_184 (dw rcX10_mostEven_0 22 rfl) rfl
theorem dX10_mostEven_47 : decode cX10_mostEven 47 = .ok (.istore 6, 2) := dk_54 (dw rcX10_mostEven_0 23 rfl)
def rbX10_mostEven_49 : List (Nat × List Nat) := [(49, [21, 6]), (51, [43]), (52, [180, 0, 64]), (55, [163, 0, 22]), (58, [42]), (59, [43]), (60, [21, 7]), (62, [21, 6]), (64, [182, 0, 78]), (67, [29]), (68, [161, 0, 9]), (71, [132, 6, 1]), (74, [167, 255, 231]), (77, [21, 6]), (79, [43]), (80, [180, 0, 64]), (83, [163, 0, 24]), (86, [21, 6]), (88, [21, 7]), (90, [100]), (91, [21, 4]), (93, [162, 0, 14]), (96, [21, 6]), (98, [21, 7])]
theorem rcX10_mostEven_49 : dgo (lb cX10_mostEven) 0 rbX10_mostEven_49 = true := by decide +kernel
theorem dX10_mostEven_49 : decode cX10_mostEven 49 = .ok (.iload 6, 2) := dk_21 (dw rcX10_mostEven_49 0 rfl)
theorem dX10_mostEven_51 : decode cX10_mostEven 51 = .ok (.aload_n 1, 1) := dk_43 (dw rcX10_mostEven_49 1 rfl)
theorem dX10_mostEven_52 : decode cX10_mostEven 52 = .ok (.getfield 64, 3) := dk_180 (dw rcX10_mostEven_49 2 rfl) rfl
theorem dX10_mostEven_55 : decode cX10_mostEven 55 = .ok (.if_icmp .gt 22, 3) := dk_163 (dw rcX10_mostEven_49 3 rfl) rfl
theorem dX10_mostEven_58 : decode cX10_mostEven 58 = .ok (.aload_n 0, 1) := dk_42 (dw rcX10_mostEven_49 4 rfl)
theorem dX10_mostEven_59 : decode cX10_mostEven 59 = .ok (.aload_n 1, 1) := dk_43 (dw rcX10_mostEven_49 5 rfl)
theorem dX10_mostEven_60 : decode cX10_mostEven 60 = .ok (.iload 7, 2) := dk_21 (dw rcX10_mostEven_49 6 rfl)
theorem dX10_mostEven_62 : decode cX10_mostEven 62 = .ok (.iload 6, 2) := dk_21 (dw rcX10_mostEven_49 7 rfl)
theorem dX10_mostEven_64 : decode cX10_mostEven 64 = .ok (.invokevirtual 78, 3) := dk_182 (dw rcX10_mostEven_49 8 rfl) rfl
theorem dX10_mostEven_67 : decode cX10_mostEven 67 = .ok (.iload_n 3, 1) := dk_29 (dw rcX10_mostEven_49 9 rfl)
theorem dX10_mostEven_68 : decode cX10_mostEven 68 = .ok (.if_icmp .lt 9, 3) := dk_161 (dw rcX10_mostEven_49 10 rfl) rfl
theorem dX10_mostEven_71 : decode cX10_mostEven 71 = .ok (.iinc 6 1, 3) := dk_132 (dw rcX10_mostEven_49 11 rfl) rfl
theorem dX10_mostEven_74 : decode cX10_mostEven 74 = .ok (.goto (-25), 3) := dk_167 (dw rcX10_mostEven_49 12 rfl) rfl
theorem dX10_mostEven_77 : decode cX10_mostEven 77 = .ok (.iload 6, 2) := dk_21 (dw rcX10_mostEven_49 13 rfl)
theorem dX10_mostEven_79 : decode cX10_mostEven 79 = .ok (.aload_n 1, 1) := dk_43 (dw rcX10_mostEven_49 14 rfl)
theorem dX10_mostEven_80 : decode cX10_mostEven 80 = .ok (.getfield 64, 3) := dk_180 (dw rcX10_mostEven_49 15 rfl) rfl
theorem dX10_mostEven_83 : decode cX10_mostEven 83 = .ok (.if_icmp .gt 24, 3) := dk_163 (dw rcX10_mostEven_49 16 rfl) rfl
theorem dX10_mostEven_86 : decode cX10_mostEven 86 = .ok (.iload 6, 2) := dk_21 (dw rcX10_mostEven_49 17 rfl)
theorem dX10_mostEven_88 : decode cX10_mostEven 88 = .ok (.iload 7, 2) := dk_21 (dw rcX10_mostEven_49 18 rfl)
theorem dX10_mostEven_90 : decode cX10_mostEven 90 = .ok (.isub, 1) := dk_100 (dw rcX10_mostEven_49 19 rfl)
theorem dX10_mostEven_91 : decode cX10_mostEven 91 = .ok (.iload 4, 2) := dk_21 (dw rcX10_mostEven_49 20 rfl)
theorem dX10_mostEven_93 : decode cX10_mostEven 93 = .ok (.if_icmp .ge 14, 3) := dk_162 (dw rcX10_mostEven_49 21 rfl) rfl
theorem dX10_mostEven_96 : decode cX10_mostEven 96 = .ok (.iload 6, 2) := dk_21 (dw rcX10_mostEven_49 22 rfl)
theorem dX10_mostEven_98 : decode cX10_mostEven 98 = .ok (.iload 7, 2) := dk_21 (dw rcX10_mostEven_49 23 rfl)
def rbX10_mostEven_100 : List (Nat × List Nat) := [(100, [100]), (101, [54, 4]), (103, [21, 7]), (105, [54, 5]), (107, [132, 7, 1]), (110, [167, 255, 177]), (113, [21, 5]), (115, [2]), (116, [159, 0, 8]), (119, [28]), (120, [4]), (121, [160, 0, 8]), (124, [21, 5]), (126, [167, 0, 5]), (129, [21, 4]), (131, [172])]
theorem rcX10_mostEven_100 : dgo (lb cX10_mostEven) 0 rbX10_mostEven_100 = true := by decide +kernel
theorem dX10_mostEven_100 : decode cX10_mostEven 100 = .ok (.isub, 1) := dk_100 (dw rcX10_mostEven_100 0 rfl)
theorem dX10_mostEven_101 : decode cX10_mostEven 101 = .ok (.istore 4, 2) := dk_54 (dw rcX10_mostEven_100 1 rfl)
theorem dX10_mostEven_103 : decode cX10_mostEven 103 = .ok (.iload 7, 2) := dk_21 (dw rcX10_mostEven_100 2 rfl)
theorem dX10_mostEven_105 : decode cX10_mostEven 105 = .ok (.istore 5, 2) := dk_54 (dw rcX10_mostEven_100 3 rfl)
theorem dX10_mostEven_107 : decode cX10_mostEven 107 = .ok (.iinc 7 1, 3) := dk_132 (dw rcX10_mostEven_100 4 rfl) rfl
theorem dX10_mostEven_110 : decode cX10_mostEven 110 = .ok (.goto (-79), 3) := dk_167 (dw rcX10_mostEven_100 5 rfl) rfl
theorem dX10_mostEven_113 : decode cX10_mostEven 113 = .ok (.iload 5, 2) := dk_21 (dw rcX10_mostEven_100 6 rfl)
theorem dX10_mostEven_115 : decode cX10_mostEven 115 = .ok (.iconst (-1), 1) := dk_2 (dw rcX10_mostEven_100 7 rfl)
theorem dX10_mostEven_116 : decode cX10_mostEven 116 = .ok (.if_icmp .eq 8, 3) := dk_159 (dw rcX10_mostEven_100 8 rfl) rfl
theorem dX10_mostEven_119 : decode cX10_mostEven 119 = .ok (.iload_n 2, 1) := dk_28 (dw rcX10_mostEven_100 9 rfl)
theorem dX10_mostEven_120 : decode cX10_mostEven 120 = .ok (.iconst 1, 1) := dk_4 (dw rcX10_mostEven_100 10 rfl)
theorem dX10_mostEven_121 : decode cX10_mostEven 121 = .ok (.if_icmp .ne 8, 3) := dk_160 (dw rcX10_mostEven_100 11 rfl) rfl
theorem dX10_mostEven_124 : decode cX10_mostEven 124 = .ok (.iload 5, 2) := dk_21 (dw rcX10_mostEven_100 12 rfl)
theorem dX10_mostEven_126 : decode cX10_mostEven 126 = .ok (.goto 5, 3) := dk_167 (dw rcX10_mostEven_100 13 rfl) rfl
theorem dX10_mostEven_129 : decode cX10_mostEven 129 = .ok (.iload 4, 2) := dk_21 (dw rcX10_mostEven_100 14 rfl)
theorem dX10_mostEven_131 : decode cX10_mostEven 131 = .ok (.ireturn, 1) := dk_172 (dw rcX10_mostEven_100 15 rfl)
set_option maxHeartbeats 4000000 in
set_option maxRecDepth 100000 in
theorem k_tFirst (l : Launch) (D : va_G) (k : KT) (A : Nat → Prop) (a : Nat → Nat) (z : SK) (G : GS) (p0 : Int32) (p1 : Int32) (ha_p0 : 0 ≤ p0.toInt ∧ p0.toInt ≤ 60) (ha_p1 : 0 ≤ p1.toInt ∧ p1.toInt ≤ 60) (hci : (G.1 7 6).toInt ≤ 399 ∧ (G.1 7 3).toInt ≤ (G.1 7 4).toInt ∧ ((G.1 7 7).toInt ≤ 0 ∨ (G.1 7 7).toInt + (G.1 7 4).toInt ≤ (G.1 7 6).toInt + 1)) (hs : p0.toInt ≤ (G.1 7 4).toInt) : Met l yX10_firstHeel (WS yX10_firstHeel cX10_firstHeel 7 (some .int)) ({ frames := 0, cells := 0, slots := 0, locals := 0 }) (va_Pc [.ref (a 8), .ref (a 7), .int p0, .int p1] (cW D k A a z G)) (va_Qi (fun (r : Int32) (G1 : GS) => P_tFirst p0 p1 G r G1) (fun (G1 : GS) t => Wd D k A a G1 t.heap) A) 0 0 A := by
  refine Met.ofW (cc := cX10_firstHeel) (maxL := 7) (ret := (some .int)) (by decide) rfl ?_
  intro p e s m args below meth c s₁ B hml hv
  obtain ⟨rfl, hW, hB_G, hK, hZ⟩ := hv
  have hx := B.exec
  have hb := B.bytes
  have hr := B.returns
  have hts := atoms_spec (ws := WS yX10_firstHeel cX10_firstHeel 7 (some .int)) B.pre
  have hgd : ∀ w ∈ gd, w ∈ WS yX10_firstHeel cX10_firstHeel 7 (some .int) := fun w h => List.mem_cons_of_mem _ h
  have hg : ∀ w ∈ gd, w.before _ s = true := fun w h => hts w (hgd w h)
  have hown : s.vm.findClass RX10 = some m.cls := findClass_of_methodNamed B.named
  have hS : va_S A s.heap s.heap [] := va_S.rf
  have hF : Fr [42] [] G G := Fr.rf
  have hl := lv_entry ([.ref (a 8), .ref (a 7), .int p0, .int p1]) (n := 7) (Nat.le_of_ble_eq_true rfl)
  rw [lg_entry_eq]
  generalize (lg_sl ([.ref (a 8), .ref (a 7), .int p0, .int p1]) ++ List.replicate (7 - (lg_sl ([.ref (a 8), .ref (a 7), .int p0, .int p1])).length) Slot.unset).toArray = ls at hl ⊢
  have hl : lv_has ls 7 [(0, .ref (a 8)), (1, .ref (a 7)), (2, .int p0), (3, .int p1)] := hl
  have b_1 : (-1) ≤ (G.1 7 6).toInt ∧ (G.1 7 6).toInt ≤ 400 := bd_7_6 hB_G
  refine lv_aload_n hx hb dX10_firstHeel_0 rfl (lv_at hl 0 rfl) ?_
  refine S_getR (n := 41) (C := RX10) (T := TX10) (N := 5) hx hb hg iX10 hown hK hW kd_8 rfl 0 (lt_b rfl) (hg (Cond.fieldLink RX10 13 "SlabWalk$Trails" "rows" "[[I") m440) (fun _ h9 => h9) rfl dX10_firstHeel_1 ?_
  refine ic_0 hx hb dX10_firstHeel_4 ?_
  refine S_aald hx hb hK hW kd_41 (vin (by decide) (by decide)) dX10_firstHeel_5 ?_
  refine rows_at (n := 42) (rows_c hB_G 0 (by decide)) ?_
  refine lv_astore (lv' := [(4, .ref (a 42)), (0, .ref (a 8)), (1, .ref (a 7)), (2, .int p0), (3, .int p1)]) hx hb dX10_firstHeel_6 hl (lt_b rfl) rfl (fun ls hl => ?_)
  refine lv_aload hx hb dX10_firstHeel_8 (lv_at hl 0 rfl) ?_
  refine lv_aload_n hx hb dX10_firstHeel_10 rfl (lv_at hl 2 rfl) ?_
  refine S_getI (v := (G.1 7 6)) (C := RX0) (T := TX0) (N := 8) hx hb hg iX0 hown hK hW kd_7 rfl 6 (lt_b rfl) (hg (Cond.fieldLink RX10 34 "SlabWalk$Course" "last" "I") m388) (fun _ h9 => h9) rfl rfl dX10_firstHeel_11 ?_
  refine ic_1 hx hb dX10_firstHeel_14 ?_
  refine lv_iadd hx hb dX10_firstHeel_15 ?_
  refine lv_topi (fun y_2 ey_2 => ?_)
  have ty_2 : y_2.toInt = (G.1 7 6).toInt + 1 := xI_add rfl rfl ey_2 (by omega) (by omega)
  refine lv_ldc (v := 1000000) hx hb hown (hg (Cond.constant RX10 44 1000000) m997) dX10_firstHeel_16 ?_
  refine S_iast hx hb hK hW hS kd_42 (vin (by omega) (by omega)) dX10_firstHeel_18 (fun G_3 H locs eG_3 hW hS => ?_)
  have hB_G_3 : Bd G_3 := hB_G.put (lo := (-2147483648)) (hi := 2147483647) eG_3 rfl rfl rfl (tI_rng _).1 (tI_rng _).2 (hB_G.2.put eG_3 rfl)
  have hF := hF.put eG_3 (Or.inl (by decide))
  refine lv_aload_n hx hb dX10_firstHeel_19 rfl (lv_at hl 2 rfl) ?_
  refine S_getI (v := (G.1 7 6)) (C := RX0) (T := TX0) (N := 8) hx hb hg iX0 hown hK hW kd_7 rfl 6 (lt_b rfl) (hg (Cond.fieldLink RX10 34 "SlabWalk$Course" "last" "I") m388) (fun _ h9 => h9) rfl ((gp_ne eG_3 (fun q => absurd q.1 (Nat.ne_of_beq_eq_false rfl))).trans (rfl)) dX10_firstHeel_20 ?_
  refine lv_istore (lv' := [(5, .int (G.1 7 6)), (4, .ref (a 42)), (0, .ref (a 8)), (1, .ref (a 7)), (2, .int p0), (3, .int p1)]) hx hb dX10_firstHeel_23 hl (lt_b rfl) rfl (fun ls hl => ?_)
  refine loop_N (Inv := fun n H locs ls => ∃ (G_4 : GS) (x_8 : Int32), (n : Int) = x_8.toInt - (-1) ∧ ((-1) ≤ x_8.toInt ∧ x_8.toInt ≤ 399) ∧ Rc (St_k_tFirst_1 p0 p1 G) ((G.1 7 6), G_3) (x_8, G_4) ∧ Wd D k A a G_4 H ∧ Bd G_4 ∧ Fr [42] [] G G_4 ∧ Fr [42] [] G_3 G_4 ∧ va_S A s.heap H locs ∧ lv_has ls 7 [(5, .int x_8), (4, .ref (a 42)), (1, .ref (a 7)), (2, .int p0), (3, .int p1)]) (fun n_7 H locs ls ih_6 hI => ?_) ((G.1 7 6).toInt - (-1) : Int).toNat ⟨G_3, (G.1 7 6), (Int.toNat_of_nonneg (by omega)), ⟨by omega, by omega⟩, Rc.rf, hW, hB_G_3, hF, Fr.rf, hS, lv_sub hl [0, 1, 3, 4, 5] rfl⟩
  obtain ⟨G_4, x_8, hn_11, f_10, hX_9, hW, hB_G_4, hF, hq_5, hS, hl⟩ := hI
  refine lv_iload hx hb dX10_firstHeel_25 (lv_at hl 0 rfl) ?_
  refine lv_if_lt (tgt := 98) hx hb dX10_firstHeel_27 rfl (fun c_12 => ?_) (fun c_12 => ?_)
  · have c_12 : x_8.toInt < 0 := xI_lt rfl rfl c_12
    refine lv_aload hx hb dX10_firstHeel_98 (lv_at hl 1 rfl) ?_
    refine ic_0 hx hb dX10_firstHeel_100 ?_
    refine S_iald hx hb hK hW kd_42 (vin (by decide) (by decide)) dX10_firstHeel_101 (fun y_13 ey_13 => ?_)
    exact W.iret (v := y_13) hx hb hr (fun t ht _ => ⟨⟨y_13, G_4, rfl, (P_tFirst_mk ⟨hB_G_4, hF, ⟨y_2, ty_2, ⟨G_3, hB_G_3, (Fr.put (rs := [42]) (fs := []) Fr.rf eG_3 (Or.inl (by decide))), rw_ast eG_3, ⟨x_8, G_4, hX_9, f_10, hB_G_4, hq_5, ⟨c_12, ⟨y_13, ey_13, ⟨rfl, rfl⟩⟩⟩⟩⟩⟩⟩), wd_t ht hW⟩, hS.F ht⟩) hS.2.2 dX10_firstHeel_102
  · have c_12 : 0 ≤ x_8.toInt := xI_nlt rfl rfl c_12
    refine lv_iload hx hb dX10_firstHeel_30 (lv_at hl 0 rfl) ?_
    refine lv_aload_n hx hb dX10_firstHeel_32 rfl (lv_at hl 2 rfl) ?_
    have b_14 : 0 ≤ (G.1 7 7).toInt ∧ (G.1 7 7).toInt ≤ 400 := bd_7_7 hB_G
    refine S_getI (v := (G.1 7 7)) (C := RX0) (T := TX0) (N := 8) hx hb hg iX0 hown hK hW kd_7 rfl 7 (lt_b rfl) (hg (Cond.fieldLink RX10 58 "SlabWalk$Course" "end" "I") m394) (fun _ h9 => h9) rfl ((hq_5.i9 7 7 rfl rfl).trans (gp_ne eG_3 (fun q => absurd q.1 (Nat.ne_of_beq_eq_false rfl)))) dX10_firstHeel_33 ?_
    refine W.cut (σ := Unit) (pcJ := 53) (J := fun y H locs ls => ∃ (G_20 : GS), Jn_k_tFirst_2 p0 p1 x_8 G G_4 G_20 ∧ Wd D k A a G_20 H ∧ Bd G_20 ∧ Fr [42] [] G G_20 ∧ Fr [] [] G_4 G_20 ∧ va_S A s.heap H locs ∧ lv_has ls 7 [(5, .int x_8), (4, .ref (a 42)), (1, .ref (a 7)), (2, .int p0), (3, .int p1)]) (stJ := fun _ => []) ?_ (fun hJ_21 => ?_)
    · intro y H locs ls hI
      obtain ⟨G_20, hX_23, hW, hB_G_20, hF, hq_22, hS, hl⟩ := hI
      refine ic_1 hx hb dX10_firstHeel_53 ?_
      refine lv_goto (tgt := 58) hx hb dX10_firstHeel_54 rfl ?_
      refine lv_istore (lv' := [(6, .int 1), (5, .int x_8), (4, .ref (a 42)), (1, .ref (a 7)), (2, .int p0), (3, .int p1)]) hx hb dX10_firstHeel_58 hl (lt_b rfl) rfl (fun ls hl => ?_)
      refine lv_aload hx hb dX10_firstHeel_60 (lv_at hl 2 rfl) ?_
      refine lv_iload hx hb dX10_firstHeel_62 (lv_at hl 1 rfl) ?_
      refine lv_aload_n hx hb dX10_firstHeel_64 rfl (lv_at hl 3 rfl) ?_
      refine S_getR (n := 40) (C := RX0) (T := TX0) (N := 8) hx hb hg iX0 hown hK hW kd_7 rfl 0 (lt_b rfl) (hg (Cond.fieldLink RX10 55 "SlabWalk$Course" "lawful" "[Z") m373) (fun _ h9 => h9) rfl dX10_firstHeel_65 ?_
      refine lv_iload hx hb dX10_firstHeel_68 (lv_at hl 1 rfl) ?_
      refine S_zald hx hb hK hW kd_40 (vin ((by first | (clear ha_p0 ha_p1 hci hs b_1 ty_2 hn_11 b_14; omega) | omega)) ((by first | (clear ha_p0 ha_p1 hci hs b_1 ty_2 hn_11 b_14; omega) | omega))) dX10_firstHeel_70 (fun y_24 ey_24 => ?_)
      have ty_24 : 0 ≤ y_24.toInt ∧ y_24.toInt ≤ 1 := bv_40 hB_G_20 ey_24
      refine lv_if_eq (tgt := 84) hx hb dX10_firstHeel_71 rfl (fun c_25 => ?_) (fun c_25 => ?_)
      · have c_25 : y_24.toInt = 0 := xI_eq rfl rfl c_25
        refine lv_aload hx hb dX10_firstHeel_84 (lv_at hl 2 rfl) ?_
        refine lv_iload hx hb dX10_firstHeel_86 (lv_at hl 1 rfl) ?_
        refine ic_1 hx hb dX10_firstHeel_88 ?_
        refine lv_iadd hx hb dX10_firstHeel_89 ?_
        refine lv_topi (fun y_26 ey_26 => ?_)
        have ty_26 : y_26.toInt = x_8.toInt + 1 := xI_add rfl rfl ey_26 ((by first | (clear ha_p0 ha_p1 hci hs b_1 ty_2 hn_11 b_14 ty_24 c_25; omega) | omega)) ((by first | (clear ha_p0 ha_p1 hci hs b_1 ty_2 hn_11 b_14 ty_24 c_25; omega) | omega))
        refine S_iald hx hb hK hW kd_42 (vin ((by first | (clear ha_p0 ha_p1 hci hs b_1 ty_2 hn_11 b_14 ty_24 c_25; omega) | omega)) ((by first | (clear ha_p0 ha_p1 hci hs b_1 ty_2 hn_11 b_14 ty_24 c_25; omega) | omega))) dX10_firstHeel_90 (fun y_27 ey_27 => ?_)
        refine S_iast hx hb hK hW hS kd_42 (vin ((by first | (clear ha_p0 ha_p1 hci hs b_1 ty_2 hn_11 b_14 ty_24 c_25; omega) | omega)) ((by first | (clear ha_p0 ha_p1 hci hs b_1 ty_2 hn_11 b_14 ty_24 c_25; omega) | omega))) dX10_firstHeel_91 (fun G_28 H locs eG_28 hW hS => ?_)
        have hB_G_28 : Bd G_28 := hB_G_20.put (lo := (-2147483648)) (hi := 2147483647) eG_28 rfl rfl rfl (tI_rng _).1 (tI_rng _).2 (hB_G_20.2.put eG_28 rfl)
        have hF := hF.put eG_28 (Or.inl (by decide))
        obtain ⟨y_29, ey_29⟩ : ∃ q, q = x_8 + (-1) := ⟨_, rfl⟩
        have ty_29 : y_29.toInt = x_8.toInt + (-1) := xI_add rfl rfl ey_29 ((by first | (clear ha_p0 ha_p1 hci hs b_1 ty_2 hn_11 b_14 ty_24 c_25; omega) | omega)) ((by first | (clear ha_p0 ha_p1 hci hs b_1 ty_2 hn_11 b_14 ty_24 c_25; omega) | omega))
        refine lv_iinc (v := y_29) (lv' := [(5, .int y_29), (6, .int 1), (4, .ref (a 42)), (1, .ref (a 7)), (2, .int p0), (3, .int p1)]) hx hb dX10_firstHeel_92 hl (k := 1) rfl (by rw [ey_29]; rfl) (lt_b rfl) rfl (fun ls hl => ?_)
        refine lv_goto (tgt := 25) hx hb dX10_firstHeel_95 rfl ?_
        exact ih_6 (y_29.toInt - (-1) : Int).toNat ((by first | (clear ha_p0 ha_p1 hci hs b_1 ty_2 b_14 ty_24 c_25; omega) | omega)) _ _ _ ⟨G_28, y_29, (Int.toNat_of_nonneg ((by first | (clear ha_p0 ha_p1 hci hs b_1 ty_2 hn_11 b_14 ty_24 c_25; omega) | omega))), ⟨(by first | (clear ha_p0 ha_p1 hci hs b_1 ty_2 hn_11 b_14 ty_24 c_25; omega) | omega), (by first | (clear ha_p0 ha_p1 hci hs b_1 ty_2 hn_11 b_14 ty_24 c_25; omega) | omega)⟩, (hX_9.st (St_k_tFirst_1_mk ⟨x_8, G_4, y_29, G_28, rfl, rfl, f_10, hB_G_4, ⟨c_12, (Or.inr ⟨G_20, hX_23, hB_G_20, hq_22, ⟨y_24, ey_24, (Or.inl ⟨c_25, ⟨y_26, ty_26, ⟨y_27, ey_27, ⟨y_29, ty_29, ⟨rfl, (Fr.put (rs := [42]) (fs := []) Fr.rf eG_28 (Or.inl (by decide))), rw_ast eG_28⟩⟩⟩⟩⟩)⟩⟩)⟩⟩)), hW, hB_G_28, hF, (Fr.put (rs := [42]) (fs := []) (Fr.call9 (rs := [42]) (fs := []) (Fr.call9 (rs := [42]) (fs := []) Fr.rf hq_5 rfl rfl) hq_22 rfl rfl) eG_28 (Or.inl (by decide))), hS, lv_sub hl [0, 2, 3, 4, 5] rfl⟩
      · have c_25 : y_24.toInt ≠ 0 := xI_ne rfl rfl c_25
        refine lv_iload hx hb dX10_firstHeel_74 (lv_at hl 0 rfl) ?_
        refine lv_if_eq (tgt := 84) hx hb dX10_firstHeel_76 rfl (fun c_30 => ?_) (fun c_30 => ?_)
        · have c_30 : (1 : Int) = (0 : Int) := xI_eq rfl rfl c_30
          exfalso; first | (clear ha_p0 ha_p1 hci hs b_1 ty_2 hn_11 f_10 c_12 b_14 ty_24 c_25; omega) | omega
        · have c_30 : (1 : Int) ≠ (0 : Int) := xI_ne rfl rfl c_30
          refine lv_iload hx hb dX10_firstHeel_79 (lv_at hl 1 rfl) ?_
          refine lv_goto (tgt := 91) hx hb dX10_firstHeel_81 rfl ?_
          refine S_iast hx hb hK hW hS kd_42 (vin ((by first | (clear ha_p0 ha_p1 hci hs b_1 ty_2 hn_11 b_14 ty_24 c_25; omega) | omega)) ((by first | (clear ha_p0 ha_p1 hci hs b_1 ty_2 hn_11 b_14 ty_24 c_25; omega) | omega))) dX10_firstHeel_91 (fun G_31 H locs eG_31 hW hS => ?_)
          have hB_G_31 : Bd G_31 := hB_G_20.put (lo := (-2147483648)) (hi := 2147483647) eG_31 rfl rfl rfl (tI_rng _).1 (tI_rng _).2 (hB_G_20.2.put eG_31 rfl)
          have hF := hF.put eG_31 (Or.inl (by decide))
          obtain ⟨y_32, ey_32⟩ : ∃ q, q = x_8 + (-1) := ⟨_, rfl⟩
          have ty_32 : y_32.toInt = x_8.toInt + (-1) := xI_add rfl rfl ey_32 ((by first | (clear ha_p0 ha_p1 hci hs b_1 ty_2 hn_11 b_14 ty_24 c_25; omega) | omega)) ((by first | (clear ha_p0 ha_p1 hci hs b_1 ty_2 hn_11 b_14 ty_24 c_25; omega) | omega))
          refine lv_iinc (v := y_32) (lv' := [(5, .int y_32), (6, .int 1), (4, .ref (a 42)), (1, .ref (a 7)), (2, .int p0), (3, .int p1)]) hx hb dX10_firstHeel_92 hl (k := 1) rfl (by rw [ey_32]; rfl) (lt_b rfl) rfl (fun ls hl => ?_)
          refine lv_goto (tgt := 25) hx hb dX10_firstHeel_95 rfl ?_
          exact ih_6 (y_32.toInt - (-1) : Int).toNat ((by first | (clear ha_p0 ha_p1 hci hs b_1 ty_2 b_14 ty_24 c_25; omega) | omega)) _ _ _ ⟨G_31, y_32, (Int.toNat_of_nonneg ((by first | (clear ha_p0 ha_p1 hci hs b_1 ty_2 hn_11 b_14 ty_24 c_25; omega) | omega))), ⟨(by first | (clear ha_p0 ha_p1 hci hs b_1 ty_2 hn_11 b_14 ty_24 c_25; omega) | omega), (by first | (clear ha_p0 ha_p1 hci hs b_1 ty_2 hn_11 b_14 ty_24 c_25; omega) | omega)⟩, (hX_9.st (St_k_tFirst_1_mk ⟨x_8, G_4, y_32, G_31, rfl, rfl, f_10, hB_G_4, ⟨c_12, (Or.inr ⟨G_20, hX_23, hB_G_20, hq_22, ⟨y_24, ey_24, (Or.inr ⟨c_25, ⟨y_32, ty_32, ⟨rfl, (Fr.put (rs := [42]) (fs := []) Fr.rf eG_31 (Or.inl (by decide))), rw_ast eG_31⟩⟩⟩)⟩⟩)⟩⟩)), hW, hB_G_31, hF, (Fr.put (rs := [42]) (fs := []) (Fr.call9 (rs := [42]) (fs := []) (Fr.call9 (rs := [42]) (fs := []) Fr.rf hq_5 rfl rfl) hq_22 rfl rfl) eG_31 (Or.inl (by decide))), hS, lv_sub hl [0, 2, 3, 4, 5] rfl⟩
    refine lv_icmp_ge (tgt := 53) hx hb dX10_firstHeel_36 rfl (fun c_33 => ?_) (fun c_33 => ?_)
    · have c_33 : (G.1 7 7).toInt ≤ x_8.toInt := xI_le rfl rfl c_33
      exact hJ_21 () _ _ _ ⟨G_4, (Jn_k_tFirst_2_mk (Or.inl ⟨c_33, rfl⟩)), hW, hB_G_4, hF, (Fr.rf (rs := []) (fs := [])), hS, lv_sub hl [0, 1, 2, 3, 4] rfl⟩
    · have c_33 : x_8.toInt < (G.1 7 7).toInt := xI_nle rfl rfl c_33
      refine lv_aload hx hb dX10_firstHeel_39 (lv_at hl 1 rfl) ?_
      refine lv_iload hx hb dX10_firstHeel_41 (lv_at hl 0 rfl) ?_
      refine lv_iload_n hx hb dX10_firstHeel_43 rfl (lv_at hl 3 rfl) ?_
      refine lv_iadd hx hb dX10_firstHeel_44 ?_
      refine lv_topi (fun y_34 ey_34 => ?_)
      have ty_34 : y_34.toInt = x_8.toInt + p0.toInt := xI_add rfl rfl ey_34 ((by first | (clear ha_p1 b_1 hn_11; omega) | omega)) ((by first | (clear ha_p1 b_1 hn_11; omega) | omega))
      refine S_iald hx hb hK hW kd_42 (vin ((by first | (clear ha_p1 b_1 hn_11; omega) | omega)) ((by first | (clear ha_p1 b_1 hn_11; omega) | omega))) dX10_firstHeel_45 (fun y_35 ey_35 => ?_)
      refine lv_iload hx hb dX10_firstHeel_46 (lv_at hl 0 rfl) ?_
      refine lv_iload_n hx hb dX10_firstHeel_48 rfl (lv_at hl 4 rfl) ?_
      refine lv_iadd hx hb dX10_firstHeel_49 ?_
      refine lv_topi (fun y_36 ey_36 => ?_)
      have ty_36 : y_36.toInt = x_8.toInt + p1.toInt := xI_add rfl rfl ey_36 (by omega) (by omega)
      refine lv_icmp_gt (tgt := 57) hx hb dX10_firstHeel_50 rfl (fun c_37 => ?_) (fun c_37 => ?_)
      · have c_37 : y_36.toInt < y_35.toInt := xI_lt rfl rfl c_37
        refine ic_0 hx hb dX10_firstHeel_57 ?_
        refine lv_istore (lv' := [(6, .int 0), (5, .int x_8), (4, .ref (a 42)), (1, .ref (a 7)), (2, .int p0), (3, .int p1)]) hx hb dX10_firstHeel_58 hl (lt_b rfl) rfl (fun ls hl => ?_)
        refine lv_aload hx hb dX10_firstHeel_60 (lv_at hl 2 rfl) ?_
        refine lv_iload hx hb dX10_firstHeel_62 (lv_at hl 1 rfl) ?_
        refine lv_aload_n hx hb dX10_firstHeel_64 rfl (lv_at hl 3 rfl) ?_
        refine S_getR (n := 40) (C := RX0) (T := TX0) (N := 8) hx hb hg iX0 hown hK hW kd_7 rfl 0 (lt_b rfl) (hg (Cond.fieldLink RX10 55 "SlabWalk$Course" "lawful" "[Z") m373) (fun _ h9 => h9) rfl dX10_firstHeel_65 ?_
        refine lv_iload hx hb dX10_firstHeel_68 (lv_at hl 1 rfl) ?_
        refine S_zald hx hb hK hW kd_40 (vin (by omega) (by omega)) dX10_firstHeel_70 (fun y_38 ey_38 => ?_)
        have ty_38 : 0 ≤ y_38.toInt ∧ y_38.toInt ≤ 1 := bv_40 hB_G_4 ey_38
        refine lv_if_eq (tgt := 84) hx hb dX10_firstHeel_71 rfl (fun c_39 => ?_) (fun c_39 => ?_)
        · have c_39 : y_38.toInt = 0 := xI_eq rfl rfl c_39
          refine lv_aload hx hb dX10_firstHeel_84 (lv_at hl 2 rfl) ?_
          refine lv_iload hx hb dX10_firstHeel_86 (lv_at hl 1 rfl) ?_
          refine ic_1 hx hb dX10_firstHeel_88 ?_
          refine lv_iadd hx hb dX10_firstHeel_89 ?_
          refine lv_topi (fun y_40 ey_40 => ?_)
          have ty_40 : y_40.toInt = x_8.toInt + 1 := xI_add rfl rfl ey_40 ((by first | (clear b_1 hn_11 ty_38 c_39; omega) | omega)) ((by first | (clear b_1 hn_11 ty_38 c_39; omega) | omega))
          refine S_iald hx hb hK hW kd_42 (vin ((by first | (clear b_1 hn_11 ty_38 c_39; omega) | omega)) ((by first | (clear b_1 hn_11 ty_38 c_39; omega) | omega))) dX10_firstHeel_90 (fun y_41 ey_41 => ?_)
          refine S_iast hx hb hK hW hS kd_42 (vin ((by first | (clear b_1 hn_11 ty_38 c_39; omega) | omega)) ((by first | (clear b_1 hn_11 ty_38 c_39; omega) | omega))) dX10_firstHeel_91 (fun G_42 H locs eG_42 hW hS => ?_)
          have hB_G_42 : Bd G_42 := hB_G_4.put (lo := (-2147483648)) (hi := 2147483647) eG_42 rfl rfl rfl (tI_rng _).1 (tI_rng _).2 (hB_G_4.2.put eG_42 rfl)
          have hF := hF.put eG_42 (Or.inl (by decide))
          obtain ⟨y_43, ey_43⟩ : ∃ q, q = x_8 + (-1) := ⟨_, rfl⟩
          have ty_43 : y_43.toInt = x_8.toInt + (-1) := xI_add rfl rfl ey_43 ((by first | (clear b_1 hn_11 ty_38 c_39; omega) | omega)) ((by first | (clear b_1 hn_11 ty_38 c_39; omega) | omega))
          refine lv_iinc (v := y_43) (lv' := [(5, .int y_43), (6, .int 0), (4, .ref (a 42)), (1, .ref (a 7)), (2, .int p0), (3, .int p1)]) hx hb dX10_firstHeel_92 hl (k := 1) rfl (by rw [ey_43]; rfl) (lt_b rfl) rfl (fun ls hl => ?_)
          refine lv_goto (tgt := 25) hx hb dX10_firstHeel_95 rfl ?_
          exact ih_6 (y_43.toInt - (-1) : Int).toNat ((by first | (clear b_1 ty_38 c_39; omega) | omega)) _ _ _ ⟨G_42, y_43, (Int.toNat_of_nonneg ((by first | (clear b_1 hn_11 ty_38 c_39; omega) | omega))), ⟨(by first | (clear b_1 hn_11 ty_38 c_39; omega) | omega), (by first | (clear b_1 hn_11 ty_38 c_39; omega) | omega)⟩, (hX_9.st (St_k_tFirst_1_mk ⟨x_8, G_4, y_43, G_42, rfl, rfl, f_10, hB_G_4, ⟨c_12, (Or.inl ⟨c_33, ⟨y_34, ty_34, ⟨y_35, ey_35, ⟨y_36, ty_36, ⟨c_37, ⟨y_38, ey_38, (Or.inl ⟨c_39, ⟨y_40, ty_40, ⟨y_41, ey_41, ⟨y_43, ty_43, ⟨rfl, (Fr.put (rs := [42]) (fs := []) Fr.rf eG_42 (Or.inl (by decide))), rw_ast eG_42⟩⟩⟩⟩⟩)⟩⟩⟩⟩⟩⟩)⟩⟩)), hW, hB_G_42, hF, (Fr.put (rs := [42]) (fs := []) (Fr.call9 (rs := [42]) (fs := []) Fr.rf hq_5 rfl rfl) eG_42 (Or.inl (by decide))), hS, lv_sub hl [0, 2, 3, 4, 5] rfl⟩
        · have c_39 : y_38.toInt ≠ 0 := xI_ne rfl rfl c_39
          refine lv_iload hx hb dX10_firstHeel_74 (lv_at hl 0 rfl) ?_
          refine lv_if_eq (tgt := 84) hx hb dX10_firstHeel_76 rfl (fun c_44 => ?_) (fun c_44 => ?_)
          · have c_44 : (0 : Int) = (0 : Int) := xI_eq rfl rfl c_44
            refine lv_aload hx hb dX10_firstHeel_84 (lv_at hl 2 rfl) ?_
            refine lv_iload hx hb dX10_firstHeel_86 (lv_at hl 1 rfl) ?_
            refine ic_1 hx hb dX10_firstHeel_88 ?_
            refine lv_iadd hx hb dX10_firstHeel_89 ?_
            refine lv_topi (fun y_45 ey_45 => ?_)
            have ty_45 : y_45.toInt = x_8.toInt + 1 := xI_add rfl rfl ey_45 ((by first | (clear b_1 hn_11 ty_38 c_39; omega) | omega)) ((by first | (clear b_1 hn_11 ty_38 c_39; omega) | omega))
            refine S_iald hx hb hK hW kd_42 (vin ((by first | (clear b_1 hn_11 ty_38 c_39; omega) | omega)) ((by first | (clear b_1 hn_11 ty_38 c_39; omega) | omega))) dX10_firstHeel_90 (fun y_46 ey_46 => ?_)
            refine S_iast hx hb hK hW hS kd_42 (vin ((by first | (clear b_1 hn_11 ty_38 c_39; omega) | omega)) ((by first | (clear b_1 hn_11 ty_38 c_39; omega) | omega))) dX10_firstHeel_91 (fun G_47 H locs eG_47 hW hS => ?_)
            have hB_G_47 : Bd G_47 := hB_G_4.put (lo := (-2147483648)) (hi := 2147483647) eG_47 rfl rfl rfl (tI_rng _).1 (tI_rng _).2 (hB_G_4.2.put eG_47 rfl)
            have hF := hF.put eG_47 (Or.inl (by decide))
            obtain ⟨y_48, ey_48⟩ : ∃ q, q = x_8 + (-1) := ⟨_, rfl⟩
            have ty_48 : y_48.toInt = x_8.toInt + (-1) := xI_add rfl rfl ey_48 ((by first | (clear b_1 hn_11 ty_38 c_39; omega) | omega)) ((by first | (clear b_1 hn_11 ty_38 c_39; omega) | omega))
            refine lv_iinc (v := y_48) (lv' := [(5, .int y_48), (6, .int 0), (4, .ref (a 42)), (1, .ref (a 7)), (2, .int p0), (3, .int p1)]) hx hb dX10_firstHeel_92 hl (k := 1) rfl (by rw [ey_48]; rfl) (lt_b rfl) rfl (fun ls hl => ?_)
            refine lv_goto (tgt := 25) hx hb dX10_firstHeel_95 rfl ?_
            exact ih_6 (y_48.toInt - (-1) : Int).toNat ((by first | (clear b_1 ty_38 c_39; omega) | omega)) _ _ _ ⟨G_47, y_48, (Int.toNat_of_nonneg ((by first | (clear b_1 hn_11 ty_38 c_39; omega) | omega))), ⟨(by first | (clear b_1 hn_11 ty_38 c_39; omega) | omega), (by first | (clear b_1 hn_11 ty_38 c_39; omega) | omega)⟩, (hX_9.st (St_k_tFirst_1_mk ⟨x_8, G_4, y_48, G_47, rfl, rfl, f_10, hB_G_4, ⟨c_12, (Or.inl ⟨c_33, ⟨y_34, ty_34, ⟨y_35, ey_35, ⟨y_36, ty_36, ⟨c_37, ⟨y_38, ey_38, (Or.inr ⟨c_39, ⟨y_45, ty_45, ⟨y_46, ey_46, ⟨y_48, ty_48, ⟨rfl, (Fr.put (rs := [42]) (fs := []) Fr.rf eG_47 (Or.inl (by decide))), rw_ast eG_47⟩⟩⟩⟩⟩)⟩⟩⟩⟩⟩⟩)⟩⟩)), hW, hB_G_47, hF, (Fr.put (rs := [42]) (fs := []) (Fr.call9 (rs := [42]) (fs := []) Fr.rf hq_5 rfl rfl) eG_47 (Or.inl (by decide))), hS, lv_sub hl [0, 2, 3, 4, 5] rfl⟩
          · have c_44 : (0 : Int) ≠ (0 : Int) := xI_ne rfl rfl c_44
            exfalso; first | (clear ha_p0 ha_p1 hci hs b_1 ty_2 hn_11 f_10 c_12 b_14 c_33 ty_34 ty_36 c_37 ty_38 c_39; omega) | omega
      · have c_37 : y_35.toInt ≤ y_36.toInt := xI_nlt rfl rfl c_37
        exact hJ_21 () _ _ _ ⟨G_4, (Jn_k_tFirst_2_mk (Or.inr ⟨c_33, ⟨y_34, ty_34, ⟨y_35, ey_35, ⟨y_36, ty_36, ⟨c_37, rfl⟩⟩⟩⟩⟩)), hW, hB_G_4, hF, (Fr.rf (rs := []) (fs := [])), hS, lv_sub hl [0, 1, 2, 3, 4] rfl⟩

set_option maxHeartbeats 4000000 in
set_option maxRecDepth 100000 in
theorem k_tEvenly (l : Launch) (D : va_G) (k : KT) (A : Nat → Prop) (a : Nat → Nat) (z : SK) (G : GS) (p0 : Int32) (ha_p0 : 0 ≤ p0.toInt ∧ p0.toInt ≤ 60) (hci : (G.1 7 6).toInt ≤ 399 ∧ (G.1 7 3).toInt ≤ (G.1 7 4).toInt ∧ ((G.1 7 7).toInt ≤ 0 ∨ (G.1 7 7).toInt + (G.1 7 4).toInt ≤ (G.1 7 6).toInt + 1)) (hs : p0.toInt ≤ (G.1 7 4).toInt) : Met l yX10_comesEvenly (WS yX10_comesEvenly cX10_comesEvenly 3 (some .boolean)) ({ frames := 1, cells := 0, slots := 0, locals := 26 }) (va_Pc [.ref (a 8), .ref (a 7), .int p0] (cW D k A a z G)) (va_Qi (fun (r : Int32) (G1 : GS) => P_tEvenly p0 G r G1) (fun (G1 : GS) t => Wd D k A a G1 t.heap) A) 0 0 A := by
  refine Met.ofW (cc := cX10_comesEvenly) (maxL := 3) (ret := (some .boolean)) (by decide) rfl ?_
  intro p e s m args below meth c s₁ B hml hv
  obtain ⟨rfl, hW, hB_G, hK, hZ⟩ := hv
  have hx := B.exec
  have hb := B.bytes
  have hr := B.returns
  have hts := atoms_spec (ws := WS yX10_comesEvenly cX10_comesEvenly 3 (some .boolean)) B.pre
  have hgd : ∀ w ∈ gd, w ∈ WS yX10_comesEvenly cX10_comesEvenly 3 (some .boolean) := fun w h => List.mem_cons_of_mem _ h
  have hg : ∀ w ∈ gd, w.before _ s = true := fun w h => hts w (hgd w h)
  have hown : s.vm.findClass RX10 = some m.cls := findClass_of_methodNamed B.named
  have hS : va_S A s.heap s.heap [] := va_S.rf
  have hF : Fr [42] [] G G := Fr.rf
  have hl := lv_entry ([.ref (a 8), .ref (a 7), .int p0]) (n := 3) (Nat.le_of_ble_eq_true rfl)
  rw [lg_entry_eq]
  generalize (lg_sl ([.ref (a 8), .ref (a 7), .int p0]) ++ List.replicate (3 - (lg_sl ([.ref (a 8), .ref (a 7), .int p0])).length) Slot.unset).toArray = ls at hl ⊢
  have hl : lv_has ls 3 [(0, .ref (a 8)), (1, .ref (a 7)), (2, .int p0)] := hl
  have b_1 : (-1) ≤ (G.1 7 6).toInt ∧ (G.1 7 6).toInt ≤ 400 := bd_7_6 hB_G
  refine lv_aload_n hx hb dX10_comesEvenly_0 rfl (lv_at hl 0 rfl) ?_
  refine lv_aload_n hx hb dX10_comesEvenly_1 rfl (lv_at hl 1 rfl) ?_
  refine lv_iload_n hx hb dX10_comesEvenly_2 rfl (lv_at hl 2 rfl) ?_
  refine lv_iload_n hx hb dX10_comesEvenly_3 rfl (lv_at hl 2 rfl) ?_
  have b_2 : 0 ≤ (G.1 7 3).toInt ∧ (G.1 7 3).toInt ≤ 60 := bd_7_3 hB_G
  have b_3 : 0 ≤ (G.1 7 4).toInt ∧ (G.1 7 4).toInt ≤ 60 := bd_7_4 hB_G
  have b_4 : 0 ≤ (G.1 7 7).toInt ∧ (G.1 7 7).toInt ≤ 400 := bd_7_7 hB_G
  refine S_calli (va_runV (As := [.ref (a 7), .int p0, .int p0]) (rest := []) ⟨hx, hb, hml, hown, hts⟩ (k_tFirst l D k A a z G p0 p0 ⟨(by first | (clear b_1 b_2 b_4; omega) | omega), (by first | (clear b_1 b_2 b_4; omega) | omega)⟩ ⟨(by first | (clear b_1 b_2 b_4; omega) | omega), (by first | (clear b_1 b_2 b_4; omega) | omega)⟩ ((by first | exact ⟨(by omega), ⟨(by omega), (by omega)⟩⟩ | omega)) (by omega)) (cwV 3 hts (gd_V hgd m1045 m1047 m35 m124 m1048) rfl rfl rfl hd_X10_firstHeel ⟨Nat.le_of_ble_eq_true rfl, Nat.le_of_ble_eq_true rfl⟩) (pre_W hW hB_G hK hZ hS kd_8 rfl) rfl rfl hl.1 rfl (lv_room (Nat.le_of_ble_eq_true rfl)) dX10_comesEvenly_4 ⟨Nat.le_of_ble_eq_true rfl, Nat.le_of_ble_eq_true rfl⟩) hS (fun r_5 G_6 H locs hpo hW hS => ?_)
  have hX_9 : P_tFirst p0 p0 G r_5 G_6 := hpo
  obtain ⟨hB_G_6, hq_7, -⟩ := hpo
  have hF := hF.call9 hq_7 rfl rfl
  refine lv_aload_n hx hb dX10_comesEvenly_7 rfl (lv_at hl 1 rfl) ?_
  refine S_getI (v := (G.1 7 4)) (C := RX0) (T := TX0) (N := 8) hx hb hg iX0 hown hK hW kd_7 rfl 4 (lt_b rfl) (hg (Cond.fieldLink RX10 64 "SlabWalk$Course" "most" "I") m383) (fun _ h9 => h9) rfl ((hq_7.i9 7 4 rfl rfl).trans (rfl)) dX10_comesEvenly_8 ?_
  refine lv_icmp_ge (tgt := 18) hx hb dX10_comesEvenly_11 rfl (fun c_10 => ?_) (fun c_10 => ?_)
  · have c_10 : (G.1 7 4).toInt ≤ r_5.toInt := xI_le rfl rfl c_10
    refine ic_0 hx hb dX10_comesEvenly_18 ?_
    exact W.zret (v := 0) hx hb hr (by decide) (fun t ht _ => ⟨⟨0, G_6, rfl, (P_tEvenly_mk ⟨hB_G_6, hF, ⟨by decide, by decide⟩, ⟨r_5, G_6, hX_9, (Or.inl ⟨c_10, ⟨rfl, rfl⟩⟩)⟩⟩), wd_t ht hW⟩, hS.F ht⟩) hS.2.2 dX10_comesEvenly_19
  · have c_10 : r_5.toInt < (G.1 7 4).toInt := xI_nle rfl rfl c_10
    refine ic_1 hx hb dX10_comesEvenly_14 ?_
    refine lv_goto (tgt := 19) hx hb dX10_comesEvenly_15 rfl ?_
    exact W.zret (v := 1) hx hb hr (by decide) (fun t ht _ => ⟨⟨1, G_6, rfl, (P_tEvenly_mk ⟨hB_G_6, hF, ⟨by decide, by decide⟩, ⟨r_5, G_6, hX_9, (Or.inr ⟨c_10, ⟨rfl, rfl⟩⟩)⟩⟩), wd_t ht hW⟩, hS.F ht⟩) hS.2.2 dX10_comesEvenly_19

set_option maxHeartbeats 4000000 in
set_option maxRecDepth 100000 in
theorem k_tMost (l : Launch) (D : va_G) (k : KT) (A : Nat → Prop) (a : Nat → Nat) (z : SK) (G : GS) (p0 : Int32) (hci : (G.1 7 6).toInt ≤ 399 ∧ (G.1 7 3).toInt ≤ (G.1 7 4).toInt ∧ ((G.1 7 7).toInt ≤ 0 ∨ (G.1 7 7).toInt + (G.1 7 4).toInt ≤ (G.1 7 6).toInt + 1)) : Met l yX10_mostEven (WS yX10_mostEven cX10_mostEven 8 (some .int)) ({ frames := 1, cells := 0, slots := 0, locals := 26 }) (va_Pc [.ref (a 8), .ref (a 7), .int p0] (cW D k A a z G)) (va_Qi (fun (r : Int32) (G1 : GS) => P_tMost p0 G r G1) (fun (G1 : GS) t => Wd D k A a G1 t.heap) A) 0 0 A := by
  refine Met.ofW (cc := cX10_mostEven) (maxL := 8) (ret := (some .int)) (by decide) rfl ?_
  intro p e s m args below meth c s₁ B hml hv
  obtain ⟨rfl, hW, hB_G, hK, hZ⟩ := hv
  have hx := B.exec
  have hb := B.bytes
  have hr := B.returns
  have hts := atoms_spec (ws := WS yX10_mostEven cX10_mostEven 8 (some .int)) B.pre
  have hgd : ∀ w ∈ gd, w ∈ WS yX10_mostEven cX10_mostEven 8 (some .int) := fun w h => List.mem_cons_of_mem _ h
  have hg : ∀ w ∈ gd, w.before _ s = true := fun w h => hts w (hgd w h)
  have hown : s.vm.findClass RX10 = some m.cls := findClass_of_methodNamed B.named
  have hS : va_S A s.heap s.heap [] := va_S.rf
  have hF : Fr [42] [] G G := Fr.rf
  have hl := lv_entry ([.ref (a 8), .ref (a 7), .int p0]) (n := 8) (Nat.le_of_ble_eq_true rfl)
  rw [lg_entry_eq]
  generalize (lg_sl ([.ref (a 8), .ref (a 7), .int p0]) ++ List.replicate (8 - (lg_sl ([.ref (a 8), .ref (a 7), .int p0])).length) Slot.unset).toArray = ls at hl ⊢
  have hl : lv_has ls 8 [(0, .ref (a 8)), (1, .ref (a 7)), (2, .int p0)] := hl
  have b_1 : (-1) ≤ (G.1 7 6).toInt ∧ (G.1 7 6).toInt ≤ 400 := bd_7_6 hB_G
  refine lv_aload_n hx hb dX10_mostEven_0 rfl (lv_at hl 1 rfl) ?_
  have b_2 : 0 ≤ (G.1 7 4).toInt ∧ (G.1 7 4).toInt ≤ 60 := bd_7_4 hB_G
  refine S_getI (v := (G.1 7 4)) (C := RX0) (T := TX0) (N := 8) hx hb hg iX0 hown hK hW kd_7 rfl 4 (lt_b rfl) (hg (Cond.fieldLink RX10 64 "SlabWalk$Course" "most" "I") m383) (fun _ h9 => h9) rfl rfl dX10_mostEven_1 ?_
  refine lv_aload_n hx hb dX10_mostEven_4 rfl (lv_at hl 1 rfl) ?_
  have b_3 : 0 ≤ (G.1 7 7).toInt ∧ (G.1 7 7).toInt ≤ 400 := bd_7_7 hB_G
  refine S_getI (v := (G.1 7 7)) (C := RX0) (T := TX0) (N := 8) hx hb hg iX0 hown hK hW kd_7 rfl 7 (lt_b rfl) (hg (Cond.fieldLink RX10 58 "SlabWalk$Course" "end" "I") m394) (fun _ h9 => h9) rfl rfl dX10_mostEven_5 ?_
  refine va_mmin hx hb (by rw [hml]; exact hl.1.symm) hown (hg (Cond.methodLink RX10 49 Lib.Math.min.name) m1001) (hg (Cond.static Lib.Math.min.name) m636) (hg (Cond.initialized "java/lang/Math") m132) (hg (Cond.code Lib.Math.min.name Lib.Math.min.code 2 (some .int)) m637) (Nat.le_of_ble_eq_true rfl) (Nat.le_of_ble_eq_true rfl) (Nat.le_of_ble_eq_true rfl) (Nat.le_of_ble_eq_true rfl) dX10_mostEven_8 ?_
  refine lv_topi (fun y_4 ey_4 => ?_)
  have ty_4 := xI_min (X := (G.1 7 4).toInt) (Y := (G.1 7 7).toInt) rfl rfl ey_4
  refine lv_istore_n (lv' := [(3, .int y_4), (0, .ref (a 8)), (1, .ref (a 7)), (2, .int p0)]) hx hb dX10_mostEven_11 rfl hl (lt_b rfl) rfl (fun ls hl => ?_)
  refine lv_ldc (v := 1000000) hx hb hown (hg (Cond.constant RX10 44 1000000) m997) dX10_mostEven_12 ?_
  refine lv_istore (lv' := [(4, .int 1000000), (3, .int y_4), (0, .ref (a 8)), (1, .ref (a 7)), (2, .int p0)]) hx hb dX10_mostEven_14 hl (lt_b rfl) rfl (fun ls hl => ?_)
  refine ic_m1 hx hb dX10_mostEven_16 ?_
  refine lv_istore (lv' := [(5, .int (-1)), (4, .int 1000000), (3, .int y_4), (0, .ref (a 8)), (1, .ref (a 7)), (2, .int p0)]) hx hb dX10_mostEven_17 hl (lt_b rfl) rfl (fun ls hl => ?_)
  refine lv_aload_n hx hb dX10_mostEven_19 rfl (lv_at hl 4 rfl) ?_
  have b_5 : 0 ≤ (G.1 7 3).toInt ∧ (G.1 7 3).toInt ≤ 60 := bd_7_3 hB_G
  refine S_getI (v := (G.1 7 3)) (C := RX0) (T := TX0) (N := 8) hx hb hg iX0 hown hK hW kd_7 rfl 3 (lt_b rfl) (hg (Cond.fieldLink RX10 61 "SlabWalk$Course" "least" "I") m378) (fun _ h9 => h9) rfl rfl dX10_mostEven_20 ?_
  refine lv_istore (lv' := [(6, .int (G.1 7 3)), (5, .int (-1)), (4, .int 1000000), (3, .int y_4), (0, .ref (a 8)), (1, .ref (a 7)), (2, .int p0)]) hx hb dX10_mostEven_23 hl (lt_b rfl) rfl (fun ls hl => ?_)
  refine lv_aload_n hx hb dX10_mostEven_25 rfl (lv_at hl 5 rfl) ?_
  refine S_getI (v := (G.1 7 3)) (C := RX0) (T := TX0) (N := 8) hx hb hg iX0 hown hK hW kd_7 rfl 3 (lt_b rfl) (hg (Cond.fieldLink RX10 61 "SlabWalk$Course" "least" "I") m378) (fun _ h9 => h9) rfl rfl dX10_mostEven_26 ?_
  refine lv_istore (lv' := [(7, .int (G.1 7 3)), (6, .int (G.1 7 3)), (5, .int (-1)), (4, .int 1000000), (3, .int y_4), (0, .ref (a 8)), (1, .ref (a 7)), (2, .int p0)]) hx hb dX10_mostEven_29 hl (lt_b rfl) rfl (fun ls hl => ?_)
  have qc_15 : ((-1) : Int32).toInt = (-1) := rfl
  have qc_16 : (1000000 : Int32).toInt = 1000000 := rfl
  refine loop_N (Inv := fun n H locs ls => ∃ (G_6 : GS) (x_10 : Int32) (x_11 : Int32) (x_12 : Int32) (x_13 : Int32), (n : Int) = 61 - x_10.toInt ∧ (0 ≤ x_10.toInt ∧ x_10.toInt ≤ 61) ∧ (0 ≤ x_11.toInt ∧ x_11.toInt ≤ 63) ∧ ((-1) ≤ x_12.toInt ∧ x_12.toInt ≤ 60) ∧ (x_13.toInt ≤ 1000000) ∧ Rc (St_k_tMost_1 y_4 G) ((G.1 7 3), (G.1 7 3), (-1), 1000000, G) (x_10, x_11, x_12, x_13, G_6) ∧ Wd D k A a G_6 H ∧ Bd G_6 ∧ Fr [42] [] G G_6 ∧ Fr [42] [] G G_6 ∧ va_S A s.heap H locs ∧ lv_has ls 8 [(7, .int x_10), (6, .int x_11), (5, .int x_12), (4, .int x_13), (3, .int y_4), (0, .ref (a 8)), (1, .ref (a 7)), (2, .int p0)]) (fun n_9 H locs ls ih_8 hI => ?_) (61 - (G.1 7 3).toInt : Int).toNat ⟨G, (G.1 7 3), (G.1 7 3), (-1), 1000000, (Int.toNat_of_nonneg (by omega)), ⟨by omega, by omega⟩, ⟨by omega, by omega⟩, ⟨(by first | (clear hci b_1 b_2 b_3 b_5; omega) | omega), (by first | (clear hci b_1 b_2 b_3 b_5; omega) | omega)⟩, ((by first | (clear hci b_1 b_2 b_3 b_5; omega) | omega)), Rc.rf, hW, hB_G, hF, Fr.rf, hS, lv_sub hl [0, 1, 2, 3, 4, 5, 6, 7] rfl⟩
  obtain ⟨G_6, x_10, x_11, x_12, x_13, hn_21, f_17, f_18, f_19, f_20, hX_14, hW, hB_G_6, hF, hq_7, hS, hl⟩ := hI
  refine lv_iload hx hb dX10_mostEven_31 (lv_at hl 0 rfl) ?_
  refine lv_aload_n hx hb dX10_mostEven_33 rfl (lv_at hl 6 rfl) ?_
  refine S_getI (v := (G.1 7 4)) (C := RX0) (T := TX0) (N := 8) hx hb hg iX0 hown hK hW kd_7 rfl 4 (lt_b rfl) (hg (Cond.fieldLink RX10 64 "SlabWalk$Course" "most" "I") m383) (fun _ h9 => h9) rfl ((hq_7.i9 7 4 rfl rfl).trans (rfl)) dX10_mostEven_34 ?_
  refine lv_icmp_gt (tgt := 113) hx hb dX10_mostEven_37 rfl (fun c_22 => ?_) (fun c_22 => ?_)
  · have c_22 : (G.1 7 4).toInt < x_10.toInt := xI_lt rfl rfl c_22
    refine lv_iload hx hb dX10_mostEven_113 (lv_at hl 2 rfl) ?_
    refine ic_m1 hx hb dX10_mostEven_115 ?_
    refine lv_icmp_eq (tgt := 124) hx hb dX10_mostEven_116 rfl (fun c_23 => ?_) (fun c_23 => ?_)
    · have c_23 : x_12.toInt = (-1) := xI_eq rfl rfl c_23
      refine lv_iload hx hb dX10_mostEven_124 (lv_at hl 2 rfl) ?_
      refine lv_goto (tgt := 131) hx hb dX10_mostEven_126 rfl ?_
      exact W.iret (v := x_12) hx hb hr (fun t ht _ => ⟨⟨x_12, G_6, rfl, (P_tMost_mk ⟨hB_G_6, hF, ⟨y_4, ty_4, ⟨x_10, x_11, x_12, x_13, G_6, hX_14, f_17, f_18, f_19, f_20, hB_G_6, hq_7, ⟨c_22, (Or.inl ⟨c_23, ⟨rfl, rfl⟩⟩)⟩⟩⟩⟩), wd_t ht hW⟩, hS.F ht⟩) hS.2.2 dX10_mostEven_131
    · have c_23 : x_12.toInt ≠ (-1) := xI_ne rfl rfl c_23
      refine lv_iload_n hx hb dX10_mostEven_119 rfl (lv_at hl 7 rfl) ?_
      refine ic_1 hx hb dX10_mostEven_120 ?_
      refine lv_icmp_ne (tgt := 129) hx hb dX10_mostEven_121 rfl (fun c_24 => ?_) (fun c_24 => ?_)
      · have c_24 : p0.toInt ≠ 1 := xI_ne rfl rfl c_24
        refine lv_iload hx hb dX10_mostEven_129 (lv_at hl 3 rfl) ?_
        exact W.iret (v := x_13) hx hb hr (fun t ht _ => ⟨⟨x_13, G_6, rfl, (P_tMost_mk ⟨hB_G_6, hF, ⟨y_4, ty_4, ⟨x_10, x_11, x_12, x_13, G_6, hX_14, f_17, f_18, f_19, f_20, hB_G_6, hq_7, ⟨c_22, (Or.inr ⟨c_23, (Or.inr ⟨c_24, ⟨rfl, rfl⟩⟩)⟩)⟩⟩⟩⟩), wd_t ht hW⟩, hS.F ht⟩) hS.2.2 dX10_mostEven_131
      · have c_24 : p0.toInt = 1 := xI_eq rfl rfl c_24
        refine lv_iload hx hb dX10_mostEven_124 (lv_at hl 2 rfl) ?_
        refine lv_goto (tgt := 131) hx hb dX10_mostEven_126 rfl ?_
        exact W.iret (v := x_12) hx hb hr (fun t ht _ => ⟨⟨x_12, G_6, rfl, (P_tMost_mk ⟨hB_G_6, hF, ⟨y_4, ty_4, ⟨x_10, x_11, x_12, x_13, G_6, hX_14, f_17, f_18, f_19, f_20, hB_G_6, hq_7, ⟨c_22, (Or.inr ⟨c_23, (Or.inl ⟨c_24, ⟨rfl, rfl⟩⟩)⟩)⟩⟩⟩⟩), wd_t ht hW⟩, hS.F ht⟩) hS.2.2 dX10_mostEven_131
  · have c_22 : x_10.toInt ≤ (G.1 7 4).toInt := xI_nlt rfl rfl c_22
    refine lv_iload hx hb dX10_mostEven_40 (lv_at hl 1 rfl) ?_
    refine lv_iload hx hb dX10_mostEven_42 (lv_at hl 0 rfl) ?_
    refine va_mmax hx hb (by rw [hml]; exact hl.1.symm) hown (hg (Cond.methodLink RX10 82 Lib.Math.max.name) m1044) (hg (Cond.static Lib.Math.max.name) m728) (hg (Cond.initialized "java/lang/Math") m132) (hg (Cond.code Lib.Math.max.name Lib.Math.max.code 2 (some .int)) m729) (Nat.le_of_ble_eq_true rfl) (Nat.le_of_ble_eq_true rfl) (Nat.le_of_ble_eq_true rfl) (Nat.le_of_ble_eq_true rfl) dX10_mostEven_44 ?_
    refine lv_topi (fun y_25 ey_25 => ?_)
    have ty_25 := xI_max (X := x_11.toInt) (Y := x_10.toInt) rfl rfl ey_25
    refine lv_istore (lv' := [(6, .int y_25), (7, .int x_10), (5, .int x_12), (4, .int x_13), (3, .int y_4), (0, .ref (a 8)), (1, .ref (a 7)), (2, .int p0)]) hx hb dX10_mostEven_47 hl (lt_b rfl) rfl (fun ls hl => ?_)
    refine loop_N (Inv := fun n H locs ls => ∃ (G_26 : GS) (x_30 : Int32), (n : Int) = 63 - x_30.toInt ∧ (0 ≤ x_30.toInt ∧ x_30.toInt ≤ 63) ∧ Rc (St_k_tMost_2 y_4 x_10 G) (y_25, G_6) (x_30, G_26) ∧ Wd D k A a G_26 H ∧ Bd G_26 ∧ Fr [42] [] G G_26 ∧ Fr [42] [] G_6 G_26 ∧ va_S A s.heap H locs ∧ lv_has ls 8 [(6, .int x_30), (7, .int x_10), (5, .int x_12), (4, .int x_13), (3, .int y_4), (0, .ref (a 8)), (1, .ref (a 7)), (2, .int p0)]) (fun n_29 H locs ls ih_28 hI => ?_) (63 - y_25.toInt : Int).toNat ⟨G_6, y_25, (Int.toNat_of_nonneg ((by first | (clear hci b_1 b_2 b_3 b_5 hn_21 f_17 f_18 f_19 f_20 c_22; omega) | omega))), ⟨(by first | (clear hci b_1 b_2 b_3 b_5 hn_21 f_17 f_18 f_19 f_20 c_22; omega) | omega), (by first | (clear hci b_1 b_2 b_3 b_5 hn_21 f_17 f_18 f_19 f_20 c_22; omega) | omega)⟩, Rc.rf, hW, hB_G_6, hF, Fr.rf, hS, lv_sub hl [0, 1, 2, 3, 4, 5, 6, 7] rfl⟩
    obtain ⟨G_26, x_30, hn_33, f_32, hX_31, hW, hB_G_26, hF, hq_27, hS, hl⟩ := hI
    refine lv_iload hx hb dX10_mostEven_49 (lv_at hl 0 rfl) ?_
    refine lv_aload_n hx hb dX10_mostEven_51 rfl (lv_at hl 6 rfl) ?_
    refine S_getI (v := (G.1 7 4)) (C := RX0) (T := TX0) (N := 8) hx hb hg iX0 hown hK hW kd_7 rfl 4 (lt_b rfl) (hg (Cond.fieldLink RX10 64 "SlabWalk$Course" "most" "I") m383) (fun _ h9 => h9) rfl ((hq_27.i9 7 4 rfl rfl).trans ((hq_7.i9 7 4 rfl rfl).trans (rfl))) dX10_mostEven_52 ?_
    refine W.cut (σ := Unit) (pcJ := 77) (J := fun y H locs ls => ∃ (G_42 : GS), Jn_k_tMost_3 y_4 x_10 x_30 G G_26 G_42 ∧ Wd D k A a G_42 H ∧ Bd G_42 ∧ Fr [42] [] G G_42 ∧ Fr [42] [] G_26 G_42 ∧ va_S A s.heap H locs ∧ lv_has ls 8 [(6, .int x_30), (7, .int x_10), (5, .int x_12), (4, .int x_13), (3, .int y_4), (0, .ref (a 8)), (1, .ref (a 7)), (2, .int p0)]) (stJ := fun _ => []) ?_ (fun hJ_43 => ?_)
    · intro y H locs ls hI
      obtain ⟨G_42, hX_45, hW, hB_G_42, hF, hq_44, hS, hl⟩ := hI
      refine lv_iload hx hb dX10_mostEven_77 (lv_at hl 0 rfl) ?_
      refine lv_aload_n hx hb dX10_mostEven_79 rfl (lv_at hl 6 rfl) ?_
      refine S_getI (v := (G.1 7 4)) (C := RX0) (T := TX0) (N := 8) hx hb hg iX0 hown hK hW kd_7 rfl 4 (lt_b rfl) (hg (Cond.fieldLink RX10 64 "SlabWalk$Course" "most" "I") m383) (fun _ h9 => h9) rfl ((hq_44.i9 7 4 rfl rfl).trans ((hq_27.i9 7 4 rfl rfl).trans ((hq_7.i9 7 4 rfl rfl).trans (rfl)))) dX10_mostEven_80 ?_
      refine lv_icmp_gt (tgt := 107) hx hb dX10_mostEven_83 rfl (fun c_46 => ?_) (fun c_46 => ?_)
      · have c_46 : (G.1 7 4).toInt < x_30.toInt := xI_lt rfl rfl c_46
        obtain ⟨y_47, ey_47⟩ : ∃ q, q = x_10 + 1 := ⟨_, rfl⟩
        have ty_47 : y_47.toInt = x_10.toInt + 1 := xI_add rfl rfl ey_47 ((by first | (clear b_1 b_3 b_5 hn_21 f_18 f_19 f_20 hn_33 f_32; omega) | omega)) ((by first | (clear b_1 b_3 b_5 hn_21 f_18 f_19 f_20 hn_33 f_32; omega) | omega))
        refine lv_iinc (v := y_47) (lv' := [(7, .int y_47), (6, .int x_30), (5, .int x_12), (4, .int x_13), (3, .int y_4), (0, .ref (a 8)), (1, .ref (a 7)), (2, .int p0)]) hx hb dX10_mostEven_107 hl (k := 1) rfl (by rw [ey_47]; rfl) (lt_b rfl) rfl (fun ls hl => ?_)
        refine lv_goto (tgt := 31) hx hb dX10_mostEven_110 rfl ?_
        exact ih_8 (61 - y_47.toInt : Int).toNat ((by first | (clear b_1 b_3 b_5 f_18 f_19 f_20 f_32; omega) | omega)) _ _ _ ⟨G_42, y_47, x_30, x_12, x_13, (Int.toNat_of_nonneg ((by first | (clear b_1 b_3 b_5 hn_21 f_18 f_19 f_20 hn_33 f_32; omega) | omega))), ⟨(by first | (clear b_1 b_3 b_5 hn_21 f_18 f_19 f_20 hn_33 f_32; omega) | omega), (by first | (clear b_1 b_3 b_5 hn_21 f_18 f_19 f_20 hn_33 f_32; omega) | omega)⟩, ⟨(by first | (clear b_1 b_3 b_5 hn_21 f_17 f_18 f_19 f_20 hn_33; omega) | omega), (by first | (clear b_1 b_3 b_5 hn_21 f_17 f_18 f_19 f_20 hn_33; omega) | omega)⟩, ⟨(by first | (clear hci b_1 b_2 b_3 b_5 hn_21 f_17 f_18 f_20 c_22 hn_33 f_32 c_46 ty_47; omega) | omega), (by first | (clear hci b_1 b_2 b_3 b_5 hn_21 f_17 f_18 f_20 c_22 hn_33 f_32 c_46 ty_47; omega) | omega)⟩, ((by first | (clear hci b_1 b_2 b_3 b_5 hn_21 f_17 f_18 f_19 c_22 hn_33 f_32 c_46 ty_47; omega) | omega)), (hX_14.st (St_k_tMost_1_mk ⟨x_10, x_11, x_12, x_13, G_6, y_47, x_30, x_12, x_13, G_42, rfl, rfl, f_17, f_18, f_19, f_20, hB_G_6, ⟨c_22, ⟨y_25, ty_25, ⟨x_30, G_26, hX_31, f_32, hB_G_26, hq_27, ⟨G_42, hX_45, hB_G_42, hq_44, (Or.inl ⟨c_46, ⟨y_47, ty_47, ⟨rfl, rfl, rfl, rfl, rfl⟩⟩⟩)⟩⟩⟩⟩⟩)), hW, hB_G_42, hF, (Fr.call9 (rs := [42]) (fs := []) (Fr.call9 (rs := [42]) (fs := []) (Fr.call9 (rs := [42]) (fs := []) Fr.rf hq_7 rfl rfl) hq_27 rfl rfl) hq_44 rfl rfl), hS, lv_sub hl [0, 1, 2, 3, 4, 5, 6, 7] rfl⟩
      · have c_46 : x_30.toInt ≤ (G.1 7 4).toInt := xI_nlt rfl rfl c_46
        refine lv_iload hx hb dX10_mostEven_86 (lv_at hl 0 rfl) ?_
        refine lv_iload hx hb dX10_mostEven_88 (lv_at hl 1 rfl) ?_
        refine lv_isub hx hb dX10_mostEven_90 ?_
        refine lv_topi (fun y_48 ey_48 => ?_)
        have ty_48 : y_48.toInt = x_30.toInt - x_10.toInt := xI_sub rfl rfl ey_48 ((by first | (clear b_1 b_3 b_5 hn_21 f_18 f_19 f_20 hn_33; omega) | omega)) ((by first | (clear b_1 b_3 b_5 hn_21 f_18 f_19 f_20 hn_33; omega) | omega))
        refine lv_iload hx hb dX10_mostEven_91 (lv_at hl 3 rfl) ?_
        refine lv_icmp_ge (tgt := 107) hx hb dX10_mostEven_93 rfl (fun c_49 => ?_) (fun c_49 => ?_)
        · have c_49 : x_13.toInt ≤ y_48.toInt := xI_le rfl rfl c_49
          obtain ⟨y_50, ey_50⟩ : ∃ q, q = x_10 + 1 := ⟨_, rfl⟩
          have ty_50 : y_50.toInt = x_10.toInt + 1 := xI_add rfl rfl ey_50 ((by first | (clear b_1 b_3 b_5 hn_21 f_18 f_19 hn_33; omega) | omega)) ((by first | (clear b_1 b_3 b_5 hn_21 f_18 f_19 hn_33; omega) | omega))
          refine lv_iinc (v := y_50) (lv' := [(7, .int y_50), (6, .int x_30), (5, .int x_12), (4, .int x_13), (3, .int y_4), (0, .ref (a 8)), (1, .ref (a 7)), (2, .int p0)]) hx hb dX10_mostEven_107 hl (k := 1) rfl (by rw [ey_50]; rfl) (lt_b rfl) rfl (fun ls hl => ?_)
          refine lv_goto (tgt := 31) hx hb dX10_mostEven_110 rfl ?_
          exact ih_8 (61 - y_50.toInt : Int).toNat ((by first | (clear b_1 b_3 b_5 f_18 f_19; omega) | omega)) _ _ _ ⟨G_42, y_50, x_30, x_12, x_13, (Int.toNat_of_nonneg ((by first | (clear b_1 b_3 b_5 hn_21 f_18 f_19 hn_33; omega) | omega))), ⟨(by first | (clear b_1 b_3 b_5 hn_21 f_18 f_19 hn_33; omega) | omega), (by first | (clear b_1 b_3 b_5 hn_21 f_18 f_19 hn_33; omega) | omega)⟩, ⟨(by first | (clear b_1 b_3 b_5 hn_21 f_18 f_19 hn_33; omega) | omega), (by first | (clear b_1 b_3 b_5 hn_21 f_18 f_19 hn_33; omega) | omega)⟩, ⟨(by first | (clear hci b_1 b_2 b_3 b_5 hn_21 f_17 f_18 f_20 c_22 hn_33 f_32 c_46 ty_48 c_49 ty_50; omega) | omega), (by first | (clear hci b_1 b_2 b_3 b_5 hn_21 f_17 f_18 f_20 c_22 hn_33 f_32 c_46 ty_48 c_49 ty_50; omega) | omega)⟩, ((by first | (clear hci b_1 b_2 b_3 b_5 hn_21 f_18 f_19 hn_33; omega) | omega)), (hX_14.st (St_k_tMost_1_mk ⟨x_10, x_11, x_12, x_13, G_6, y_50, x_30, x_12, x_13, G_42, rfl, rfl, f_17, f_18, f_19, f_20, hB_G_6, ⟨c_22, ⟨y_25, ty_25, ⟨x_30, G_26, hX_31, f_32, hB_G_26, hq_27, ⟨G_42, hX_45, hB_G_42, hq_44, (Or.inr ⟨c_46, ⟨y_48, ty_48, (Or.inl ⟨c_49, ⟨y_50, ty_50, ⟨rfl, rfl, rfl, rfl, rfl⟩⟩⟩)⟩⟩)⟩⟩⟩⟩⟩)), hW, hB_G_42, hF, (Fr.call9 (rs := [42]) (fs := []) (Fr.call9 (rs := [42]) (fs := []) (Fr.call9 (rs := [42]) (fs := []) Fr.rf hq_7 rfl rfl) hq_27 rfl rfl) hq_44 rfl rfl), hS, lv_sub hl [0, 1, 2, 3, 4, 5, 6, 7] rfl⟩
        · have c_49 : y_48.toInt < x_13.toInt := xI_nle rfl rfl c_49
          refine lv_iload hx hb dX10_mostEven_96 (lv_at hl 0 rfl) ?_
          refine lv_iload hx hb dX10_mostEven_98 (lv_at hl 1 rfl) ?_
          refine lv_isub hx hb dX10_mostEven_100 ?_
          refine lv_topi (fun y_51 ey_51 => ?_)
          have ty_51 : y_51.toInt = x_30.toInt - x_10.toInt := xI_sub rfl rfl ey_51 ((by first | (clear b_1 b_3 b_5 hn_21 f_18 f_19 hn_33; omega) | omega)) ((by first | (clear b_1 b_3 b_5 hn_21 f_18 f_19 hn_33; omega) | omega))
          refine lv_istore (lv' := [(4, .int y_51), (6, .int x_30), (7, .int x_10), (5, .int x_12), (3, .int y_4), (0, .ref (a 8)), (1, .ref (a 7)), (2, .int p0)]) hx hb dX10_mostEven_101 hl (lt_b rfl) rfl (fun ls hl => ?_)
          refine lv_iload hx hb dX10_mostEven_103 (lv_at hl 2 rfl) ?_
          refine lv_istore (lv' := [(5, .int x_10), (4, .int y_51), (6, .int x_30), (7, .int x_10), (3, .int y_4), (0, .ref (a 8)), (1, .ref (a 7)), (2, .int p0)]) hx hb dX10_mostEven_105 hl (lt_b rfl) rfl (fun ls hl => ?_)
          obtain ⟨y_52, ey_52⟩ : ∃ q, q = x_10 + 1 := ⟨_, rfl⟩
          have ty_52 : y_52.toInt = x_10.toInt + 1 := xI_add rfl rfl ey_52 ((by first | (clear b_1 b_3 b_5 hn_21 f_18 f_19 hn_33; omega) | omega)) ((by first | (clear b_1 b_3 b_5 hn_21 f_18 f_19 hn_33; omega) | omega))
          refine lv_iinc (v := y_52) (lv' := [(7, .int y_52), (5, .int x_10), (4, .int y_51), (6, .int x_30), (3, .int y_4), (0, .ref (a 8)), (1, .ref (a 7)), (2, .int p0)]) hx hb dX10_mostEven_107 hl (k := 3) rfl (by rw [ey_52]; rfl) (lt_b rfl) rfl (fun ls hl => ?_)
          refine lv_goto (tgt := 31) hx hb dX10_mostEven_110 rfl ?_
          exact ih_8 (61 - y_52.toInt : Int).toNat ((by first | (clear b_1 b_3 b_5 f_18 f_19; omega) | omega)) _ _ _ ⟨G_42, y_52, x_30, x_10, y_51, (Int.toNat_of_nonneg ((by first | (clear b_1 b_3 b_5 hn_21 f_18 f_19 hn_33; omega) | omega))), ⟨(by first | (clear b_1 b_3 b_5 hn_21 f_18 f_19 hn_33; omega) | omega), (by first | (clear b_1 b_3 b_5 hn_21 f_18 f_19 hn_33; omega) | omega)⟩, ⟨(by first | (clear b_1 b_3 b_5 hn_21 f_18 f_19 hn_33; omega) | omega), (by first | (clear b_1 b_3 b_5 hn_21 f_18 f_19 hn_33; omega) | omega)⟩, ⟨(by first | (clear b_1 b_3 b_5 hn_21 f_18 f_19 hn_33; omega) | omega), (by first | (clear b_1 b_3 b_5 hn_21 f_18 f_19 hn_33; omega) | omega)⟩, ((by first | (clear b_1 b_3 b_5 hn_21 f_18 f_19 hn_33; omega) | omega)), (hX_14.st (St_k_tMost_1_mk ⟨x_10, x_11, x_12, x_13, G_6, y_52, x_30, x_10, y_51, G_42, rfl, rfl, f_17, f_18, f_19, f_20, hB_G_6, ⟨c_22, ⟨y_25, ty_25, ⟨x_30, G_26, hX_31, f_32, hB_G_26, hq_27, ⟨G_42, hX_45, hB_G_42, hq_44, (Or.inr ⟨c_46, ⟨y_48, ty_48, (Or.inr ⟨c_49, ⟨y_51, ty_51, ⟨y_52, ty_52, ⟨rfl, rfl, rfl, rfl, rfl⟩⟩⟩⟩)⟩⟩)⟩⟩⟩⟩⟩)), hW, hB_G_42, hF, (Fr.call9 (rs := [42]) (fs := []) (Fr.call9 (rs := [42]) (fs := []) (Fr.call9 (rs := [42]) (fs := []) Fr.rf hq_7 rfl rfl) hq_27 rfl rfl) hq_44 rfl rfl), hS, lv_sub hl [0, 3, 1, 2, 4, 5, 6, 7] rfl⟩
    refine lv_icmp_gt (tgt := 77) hx hb dX10_mostEven_55 rfl (fun c_53 => ?_) (fun c_53 => ?_)
    · have c_53 : (G.1 7 4).toInt < x_30.toInt := xI_lt rfl rfl c_53
      exact hJ_43 () _ _ _ ⟨G_26, (Jn_k_tMost_3_mk (Or.inl ⟨c_53, rfl⟩)), hW, hB_G_26, hF, (Fr.rf (rs := [42]) (fs := [])), hS, lv_sub hl [0, 1, 2, 3, 4, 5, 6, 7] rfl⟩
    · have c_53 : x_30.toInt ≤ (G.1 7 4).toInt := xI_nlt rfl rfl c_53
      refine lv_aload_n hx hb dX10_mostEven_58 rfl (lv_at hl 5 rfl) ?_
      refine lv_aload_n hx hb dX10_mostEven_59 rfl (lv_at hl 6 rfl) ?_
      refine lv_iload hx hb dX10_mostEven_60 (lv_at hl 1 rfl) ?_
      refine lv_iload hx hb dX10_mostEven_62 (lv_at hl 0 rfl) ?_
      have g_54 : (G_26.1 7 3).toInt = (G.1 7 3).toInt := (congrArg Int32.toInt (show G_26.1 7 3 = (G.1 7 3) from ((hq_27.i9 7 3 rfl rfl).trans ((hq_7.i9 7 3 rfl rfl).trans (rfl)))))
      have g_55 : (G_26.1 7 4).toInt = (G.1 7 4).toInt := (congrArg Int32.toInt (show G_26.1 7 4 = (G.1 7 4) from ((hq_27.i9 7 4 rfl rfl).trans ((hq_7.i9 7 4 rfl rfl).trans (rfl)))))
      have g_56 : (G_26.1 7 6).toInt = (G.1 7 6).toInt := (congrArg Int32.toInt (show G_26.1 7 6 = (G.1 7 6) from ((hq_27.i9 7 6 rfl rfl).trans ((hq_7.i9 7 6 rfl rfl).trans (rfl)))))
      have g_57 : (G_26.1 7 7).toInt = (G.1 7 7).toInt := (congrArg Int32.toInt (show G_26.1 7 7 = (G.1 7 7) from ((hq_27.i9 7 7 rfl rfl).trans ((hq_7.i9 7 7 rfl rfl).trans (rfl)))))
      have g_58 : (G_26.1 7 4).toInt = (G.1 7 4).toInt := (congrArg Int32.toInt (show G_26.1 7 4 = (G.1 7 4) from ((hq_27.i9 7 4 rfl rfl).trans ((hq_7.i9 7 4 rfl rfl).trans (rfl)))))
      refine S_calli (va_runV (As := [.ref (a 7), .int x_10, .int x_30]) (rest := []) ⟨hx, hb, hml, hown, hts⟩ (k_tFirst l D k A a z G_26 x_10 x_30 ⟨(by first | (clear b_1 b_3 b_5 hn_21 f_18 f_19 f_20 hn_33 f_32; omega) | omega), (by first | (clear b_1 b_3 b_5 hn_21 f_18 f_19 f_20 hn_33 f_32; omega) | omega)⟩ ⟨(by first | (clear b_1 b_3 b_5 hn_21 f_17 f_18 f_19 f_20 hn_33; omega) | omega), (by first | (clear b_1 b_3 b_5 hn_21 f_17 f_18 f_19 f_20 hn_33; omega) | omega)⟩ ((by first | exact ⟨((by first | (clear hn_21 f_17 f_18 f_19 f_20 hn_33 f_32; omega) | omega)), ⟨((by first | (clear hn_21 f_18 f_19 f_20 hn_33; omega) | omega)), ((by first | (clear hn_21 f_18 f_19 f_20 hn_33; omega) | omega))⟩⟩ | omega)) ((by first | (clear hn_21 f_18 f_19 f_20 hn_33; omega) | omega))) (cwV 3 hts (gd_V hgd m1045 m1047 m35 m124 m1048) rfl rfl rfl hd_X10_firstHeel ⟨Nat.le_of_ble_eq_true rfl, Nat.le_of_ble_eq_true rfl⟩) (pre_W hW hB_G_26 hK hZ hS kd_8 rfl) rfl rfl hl.1 rfl (lv_room (Nat.le_of_ble_eq_true rfl)) dX10_mostEven_64 ⟨Nat.le_of_ble_eq_true rfl, Nat.le_of_ble_eq_true rfl⟩) hS (fun r_59 G_60 H locs hpo hW hS => ?_)
      have hX_63 : P_tFirst x_10 x_30 G_26 r_59 G_60 := hpo
      obtain ⟨hB_G_60, hq_61, -⟩ := hpo
      have hF := hF.call9 hq_61 rfl rfl
      refine lv_iload_n hx hb dX10_mostEven_67 rfl (lv_at hl 4 rfl) ?_
      refine lv_icmp_lt (tgt := 77) hx hb dX10_mostEven_68 rfl (fun c_64 => ?_) (fun c_64 => ?_)
      · have c_64 : r_59.toInt < y_4.toInt := xI_lt rfl rfl c_64
        exact hJ_43 () _ _ _ ⟨G_60, (Jn_k_tMost_3_mk (Or.inr ⟨c_53, ⟨r_59, G_60, hX_63, ⟨c_64, rfl⟩⟩⟩)), hW, hB_G_60, hF, (Fr.call9 (rs := [42]) (fs := []) Fr.rf hq_61 rfl rfl), hS, lv_sub hl [0, 1, 2, 3, 4, 5, 6, 7] rfl⟩
      · have c_64 : y_4.toInt ≤ r_59.toInt := xI_nlt rfl rfl c_64
        obtain ⟨y_65, ey_65⟩ : ∃ q, q = x_30 + 1 := ⟨_, rfl⟩
        have ty_65 : y_65.toInt = x_30.toInt + 1 := xI_add rfl rfl ey_65 ((by first | (clear b_1 b_3 b_5 hn_21 f_17 f_18 f_19 f_20 hn_33 c_64; omega) | omega)) ((by first | (clear b_1 b_3 b_5 hn_21 f_17 f_18 f_19 f_20 hn_33 c_64; omega) | omega))
        refine lv_iinc (v := y_65) (lv' := [(6, .int y_65), (7, .int x_10), (5, .int x_12), (4, .int x_13), (3, .int y_4), (0, .ref (a 8)), (1, .ref (a 7)), (2, .int p0)]) hx hb dX10_mostEven_71 hl (k := 0) rfl (by rw [ey_65]; rfl) (lt_b rfl) rfl (fun ls hl => ?_)
        refine lv_goto (tgt := 49) hx hb dX10_mostEven_74 rfl ?_
        exact ih_28 (63 - y_65.toInt : Int).toNat ((by first | (clear b_1 b_3 b_5 f_17 f_18 f_19 f_20 c_64; omega) | omega)) _ _ _ ⟨G_60, y_65, (Int.toNat_of_nonneg ((by first | (clear b_1 b_3 b_5 hn_21 f_17 f_18 f_19 f_20 hn_33 c_64; omega) | omega))), ⟨(by first | (clear b_1 b_3 b_5 hn_21 f_17 f_18 f_19 f_20 hn_33 c_64; omega) | omega), (by first | (clear b_1 b_3 b_5 hn_21 f_17 f_18 f_19 f_20 hn_33 c_64; omega) | omega)⟩, (hX_31.st (St_k_tMost_2_mk ⟨x_30, G_26, y_65, G_60, rfl, rfl, f_32, hB_G_26, ⟨c_53, ⟨r_59, G_60, hX_63, ⟨c_64, ⟨y_65, ty_65, ⟨rfl, rfl⟩⟩⟩⟩⟩⟩)), hW, hB_G_60, hF, (Fr.call9 (rs := [42]) (fs := []) (Fr.call9 (rs := [42]) (fs := []) Fr.rf hq_27 rfl rfl) hq_61 rfl rfl), hS, lv_sub hl [0, 1, 2, 3, 4, 5, 6, 7] rfl⟩
