theorem m76 : Cond.selects RX12 yX12_add yX12_add ∈ gd := gds_5 12 rfl
theorem m1325 : Cond.fieldLink RX12 21 "SlabWalkModel" "nStep" "[I" ∈ gd := gdc_6_0 9 rfl gw_fieldLink
theorem m1326 : Cond.fieldLink RX12 24 "SlabWalkModel" "nArg" "[I" ∈ gd := gdc_6_0 10 rfl gw_fieldLink
theorem m1327 : Cond.fieldLink RX12 27 "SlabWalkModel" "nMany" "[I" ∈ gd := gdc_6_0 11 rfl gw_fieldLink
theorem m1331 : Cond.fieldLink RX12 39 "SlabWalkModel" "open" "[I" ∈ gd := gdc_6_0 15 rfl gw_fieldLink
theorem m1333 : Cond.fieldLink RX12 296 "SlabWalkModel" "form" "I" ∈ gd := gdc_6_1 1 rfl gw_fieldLink
theorem m1334 : Cond.fieldLink RX12 299 "SlabWalkModel" "opens" "I" ∈ gd := gdc_6_1 2 rfl gw_fieldLink
theorem m1338 : Cond.fieldLink RX12 309 "SlabWalkModel" "deep" "I" ∈ gd := gdc_6_1 6 rfl gw_fieldLink
theorem m1722 : Cond.methodLink RX12 302 yX12_tight ∈ gd := gdc_7_10 6 rfl gw_methodLink
theorem m1723 : Cond.static yX12_tight ∈ gd := gdc_7_10 7 rfl gw_static
theorem m1724 : Cond.code yX12_tight cX12_tight 1 (some .int) ∈ gd := gdc_7_10 8 rfl gw_code
theorem m1741 : Cond.methodLink RX12 305 yX12_add ∈ gd := gdc_7_11 9 rfl gw_methodLink
theorem m1743 : Cond.instanceMethod yX12_add ∈ gd := gdc_7_11 11 rfl gw_instanceMethod
theorem m1744 : Cond.code yX12_add cX12_add 3 none ∈ gd := gdc_7_11 12 rfl gw_code
def rbX12_add_0 : List (Nat × List Nat) := [(0, [42]), (1, [180, 0, 21]), (4, [17, 1, 64]), (7, [42]), (8, [180, 1, 40]), (11, [104]), (12, [42]), (13, [180, 0, 27]), (16, [42]), (17, [180, 1, 40]), (20, [46]), (21, [96]), (22, [27]), (23, [79]), (24, [42]), (25, [180, 0, 24]), (28, [17, 1, 64]), (31, [42]), (32, [180, 1, 40]), (35, [104]), (36, [42]), (37, [180, 0, 27]), (40, [42]), (41, [180, 1, 40])]
theorem rcX12_add_0 : dgo (lb cX12_add) 0 rbX12_add_0 = true := by decide +kernel
theorem dX12_add_0 : decode cX12_add 0 = .ok (.aload_n 0, 1) := dk_42 (dw rcX12_add_0 0 rfl)
theorem dX12_add_1 : decode cX12_add 1 = .ok (.getfield 21, 3) := dk_180 (dw rcX12_add_0 1 rfl) rfl
theorem dX12_add_4 : decode cX12_add 4 = .ok (.sipush 320, 3) := dk_17 (dw rcX12_add_0 2 rfl) rfl
theorem dX12_add_7 : decode cX12_add 7 = .ok (.aload_n 0, 1) := dk_42 (dw rcX12_add_0 3 rfl)
theorem dX12_add_8 : decode cX12_add 8 = .ok (.getfield 296, 3) := dk_180 (dw rcX12_add_0 4 rfl) rfl
theorem dX12_add_11 : decode cX12_add 11 = .ok (.imul, 1) := dk_104 (dw rcX12_add_0 5 rfl)
theorem dX12_add_12 : decode cX12_add 12 = .ok (.aload_n 0, 1) := dk_42 (dw rcX12_add_0 6 rfl)
theorem dX12_add_13 : decode cX12_add 13 = .ok (.getfield 27, 3) := dk_180 (dw rcX12_add_0 7 rfl) rfl
theorem dX12_add_16 : decode cX12_add 16 = .ok (.aload_n 0, 1) := dk_42 (dw rcX12_add_0 8 rfl)
theorem dX12_add_17 : decode cX12_add 17 = .ok (.getfield 296, 3) := dk_180 (dw rcX12_add_0 9 rfl) rfl
theorem dX12_add_20 : decode cX12_add 20 = .ok (.iaload, 1) := dk_46 (dw rcX12_add_0 10 rfl)
theorem dX12_add_21 : decode cX12_add 21 = .ok (.iadd, 1) := dk_96 (dw rcX12_add_0 11 rfl)
theorem dX12_add_22 : decode cX12_add 22 = .ok (.iload_n 1, 1) := dk_27 (dw rcX12_add_0 12 rfl)
theorem dX12_add_23 : decode cX12_add 23 = .ok (.iastore, 1) := dk_79 (dw rcX12_add_0 13 rfl)
theorem dX12_add_24 : decode cX12_add 24 = .ok (.aload_n 0, 1) := dk_42 (dw rcX12_add_0 14 rfl)
theorem dX12_add_25 : decode cX12_add 25 = .ok (.getfield 24, 3) := dk_180 (dw rcX12_add_0 15 rfl) rfl
theorem dX12_add_28 : decode cX12_add 28 = .ok (.sipush 320, 3) := dk_17 (dw rcX12_add_0 16 rfl) rfl
theorem dX12_add_31 : decode cX12_add 31 = .ok (.aload_n 0, 1) := dk_42 (dw rcX12_add_0 17 rfl)
theorem dX12_add_32 : decode cX12_add 32 = .ok (.getfield 296, 3) := dk_180 (dw rcX12_add_0 18 rfl) rfl
theorem dX12_add_35 : decode cX12_add 35 = .ok (.imul, 1) := dk_104 (dw rcX12_add_0 19 rfl)
theorem dX12_add_36 : decode cX12_add 36 = .ok (.aload_n 0, 1) := dk_42 (dw rcX12_add_0 20 rfl)
theorem dX12_add_37 : decode cX12_add 37 = .ok (.getfield 27, 3) := dk_180 (dw rcX12_add_0 21 rfl) rfl
theorem dX12_add_40 : decode cX12_add 40 = .ok (.aload_n 0, 1) := dk_42 (dw rcX12_add_0 22 rfl)
theorem dX12_add_41 : decode cX12_add 41 = .ok (.getfield 296, 3) := dk_180 (dw rcX12_add_0 23 rfl) rfl
def rbX12_add_44 : List (Nat × List Nat) := [(44, [46]), (45, [96]), (46, [28]), (47, [79]), (48, [42]), (49, [180, 0, 27]), (52, [42]), (53, [180, 1, 40]), (56, [92]), (57, [46]), (58, [4]), (59, [96]), (60, [79]), (61, [177])]
theorem rcX12_add_44 : dgo (lb cX12_add) 0 rbX12_add_44 = true := by decide +kernel
theorem dX12_add_44 : decode cX12_add 44 = .ok (.iaload, 1) := dk_46 (dw rcX12_add_44 0 rfl)
theorem dX12_add_45 : decode cX12_add 45 = .ok (.iadd, 1) := dk_96 (dw rcX12_add_44 1 rfl)
theorem dX12_add_46 : decode cX12_add 46 = .ok (.iload_n 2, 1) := dk_28 (dw rcX12_add_44 2 rfl)
theorem dX12_add_47 : decode cX12_add 47 = .ok (.iastore, 1) := dk_79 (dw rcX12_add_44 3 rfl)
theorem dX12_add_48 : decode cX12_add 48 = .ok (.aload_n 0, 1) := dk_42 (dw rcX12_add_44 4 rfl)
theorem dX12_add_49 : decode cX12_add 49 = .ok (.getfield 27, 3) := dk_180 (dw rcX12_add_44 5 rfl) rfl
theorem dX12_add_52 : decode cX12_add 52 = .ok (.aload_n 0, 1) := dk_42 (dw rcX12_add_44 6 rfl)
theorem dX12_add_53 : decode cX12_add 53 = .ok (.getfield 296, 3) := dk_180 (dw rcX12_add_44 7 rfl) rfl
theorem dX12_add_56 : decode cX12_add 56 = .ok (.dup2, 1) := dk_92 (dw rcX12_add_44 8 rfl)
theorem dX12_add_57 : decode cX12_add 57 = .ok (.iaload, 1) := dk_46 (dw rcX12_add_44 9 rfl)
theorem dX12_add_58 : decode cX12_add 58 = .ok (.iconst 1, 1) := dk_4 (dw rcX12_add_44 10 rfl)
theorem dX12_add_59 : decode cX12_add 59 = .ok (.iadd, 1) := dk_96 (dw rcX12_add_44 11 rfl)
theorem dX12_add_60 : decode cX12_add 60 = .ok (.iastore, 1) := dk_79 (dw rcX12_add_44 12 rfl)
theorem dX12_add_61 : decode cX12_add 61 = .ok (.return_, 1) := dk_177 (dw rcX12_add_44 13 rfl)
def rbX12_close_0 : List (Nat × List Nat) := [(0, [42]), (1, [180, 1, 43]), (4, [158, 0, 97]), (7, [42]), (8, [180, 0, 39]), (11, [42]), (12, [180, 1, 43]), (15, [4]), (16, [100]), (17, [46]), (18, [16, 20]), (20, [159, 0, 81]), (23, [42]), (24, [180, 0, 39]), (27, [42]), (28, [180, 1, 43]), (31, [4]), (32, [100]), (33, [46]), (34, [184, 1, 46]), (37, [27]), (38, [161, 0, 63]), (41, [42]), (42, [89])]
theorem rcX12_close_0 : dgo (lb cX12_close) 0 rbX12_close_0 = true := by decide +kernel
theorem dX12_close_0 : decode cX12_close 0 = .ok (.aload_n 0, 1) := dk_42 (dw rcX12_close_0 0 rfl)
theorem dX12_close_1 : decode cX12_close 1 = .ok (.getfield 299, 3) := dk_180 (dw rcX12_close_0 1 rfl) rfl
theorem dX12_close_4 : decode cX12_close 4 = .ok (.ifCond .le 97, 3) := dk_158 (dw rcX12_close_0 2 rfl) rfl
theorem dX12_close_7 : decode cX12_close 7 = .ok (.aload_n 0, 1) := dk_42 (dw rcX12_close_0 3 rfl)
theorem dX12_close_8 : decode cX12_close 8 = .ok (.getfield 39, 3) := dk_180 (dw rcX12_close_0 4 rfl) rfl
theorem dX12_close_11 : decode cX12_close 11 = .ok (.aload_n 0, 1) := dk_42 (dw rcX12_close_0 5 rfl)
theorem dX12_close_12 : decode cX12_close 12 = .ok (.getfield 299, 3) := dk_180 (dw rcX12_close_0 6 rfl) rfl
theorem dX12_close_15 : decode cX12_close 15 = .ok (.iconst 1, 1) := dk_4 (dw rcX12_close_0 7 rfl)
theorem dX12_close_16 : decode cX12_close 16 = .ok (.isub, 1) := dk_100 (dw rcX12_close_0 8 rfl)
theorem dX12_close_17 : decode cX12_close 17 = .ok (.iaload, 1) := dk_46 (dw rcX12_close_0 9 rfl)
theorem dX12_close_18 : decode cX12_close 18 = .ok (.bipush 20, 2) := dk_16 (dw rcX12_close_0 10 rfl) rfl
theorem dX12_close_20 : decode cX12_close 20 = .ok (.if_icmp .eq 81, 3) := dk_159 (dw rcX12_close_0 11 rfl) rfl
theorem dX12_close_23 : decode cX12_close 23 = .ok (.aload_n 0, 1) := dk_42 (dw rcX12_close_0 12 rfl)
theorem dX12_close_24 : decode cX12_close 24 = .ok (.getfield 39, 3) := dk_180 (dw rcX12_close_0 13 rfl) rfl
theorem dX12_close_27 : decode cX12_close 27 = .ok (.aload_n 0, 1) := dk_42 (dw rcX12_close_0 14 rfl)
theorem dX12_close_28 : decode cX12_close 28 = .ok (.getfield 299, 3) := dk_180 (dw rcX12_close_0 15 rfl) rfl
theorem dX12_close_31 : decode cX12_close 31 = .ok (.iconst 1, 1) := dk_4 (dw rcX12_close_0 16 rfl)
theorem dX12_close_32 : decode cX12_close 32 = .ok (.isub, 1) := dk_100 (dw rcX12_close_0 17 rfl)
theorem dX12_close_33 : decode cX12_close 33 = .ok (.iaload, 1) := dk_46 (dw rcX12_close_0 18 rfl)
theorem dX12_close_34 : decode cX12_close 34 = .ok (.invokestatic 302, 3) := dk_184 (dw rcX12_close_0 19 rfl) rfl
theorem dX12_close_37 : decode cX12_close 37 = .ok (.iload_n 1, 1) := dk_27 (dw rcX12_close_0 20 rfl)
theorem dX12_close_38 : decode cX12_close 38 = .ok (.if_icmp .lt 63, 3) := dk_161 (dw rcX12_close_0 21 rfl) rfl
theorem dX12_close_41 : decode cX12_close 41 = .ok (.aload_n 0, 1) := dk_42 (dw rcX12_close_0 22 rfl)
theorem dX12_close_42 : decode cX12_close 42 = .ok (.dup, 1) := dk_89 (dw rcX12_close_0 23 rfl)
def rbX12_close_43 : List (Nat × List Nat) := [(43, [180, 1, 43]), (46, [4]), (47, [100]), (48, [181, 1, 43]), (51, [42]), (52, [180, 0, 39]), (55, [42]), (56, [180, 1, 43]), (59, [46]), (60, [16, 21]), (62, [160, 0, 22]), (65, [42]), (66, [5]), (67, [3]), (68, [182, 1, 49]), (71, [42]), (72, [89]), (73, [180, 1, 53]), (76, [4]), (77, [100]), (78, [181, 1, 53]), (81, [167, 255, 175]), (84, [42]), (85, [6])]
theorem rcX12_close_43 : dgo (lb cX12_close) 0 rbX12_close_43 = true := by decide +kernel
theorem dX12_close_43 : decode cX12_close 43 = .ok (.getfield 299, 3) := dk_180 (dw rcX12_close_43 0 rfl) rfl
theorem dX12_close_46 : decode cX12_close 46 = .ok (.iconst 1, 1) := dk_4 (dw rcX12_close_43 1 rfl)
theorem dX12_close_47 : decode cX12_close 47 = .ok (.isub, 1) := dk_100 (dw rcX12_close_43 2 rfl)
theorem dX12_close_48 : decode cX12_close 48 = .ok (.putfield 299, 3) := dk_181 (dw rcX12_close_43 3 rfl) rfl
theorem dX12_close_51 : decode cX12_close 51 = .ok (.aload_n 0, 1) := dk_42 (dw rcX12_close_43 4 rfl)
theorem dX12_close_52 : decode cX12_close 52 = .ok (.getfield 39, 3) := dk_180 (dw rcX12_close_43 5 rfl) rfl
theorem dX12_close_55 : decode cX12_close 55 = .ok (.aload_n 0, 1) := dk_42 (dw rcX12_close_43 6 rfl)
theorem dX12_close_56 : decode cX12_close 56 = .ok (.getfield 299, 3) := dk_180 (dw rcX12_close_43 7 rfl) rfl
theorem dX12_close_59 : decode cX12_close 59 = .ok (.iaload, 1) := dk_46 (dw rcX12_close_43 8 rfl)
theorem dX12_close_60 : decode cX12_close 60 = .ok (.bipush 21, 2) := dk_16 (dw rcX12_close_43 9 rfl) rfl
theorem dX12_close_62 : decode cX12_close 62 = .ok (.if_icmp .ne 22, 3) := dk_160 (dw rcX12_close_43 10 rfl) rfl
theorem dX12_close_65 : decode cX12_close 65 = .ok (.aload_n 0, 1) := dk_42 (dw rcX12_close_43 11 rfl)
theorem dX12_close_66 : decode cX12_close 66 = .ok (.iconst 2, 1) := dk_5 (dw rcX12_close_43 12 rfl)
theorem dX12_close_67 : decode cX12_close 67 = .ok (.iconst 0, 1) := dk_3 (dw rcX12_close_43 13 rfl)
theorem dX12_close_68 : decode cX12_close 68 = .ok (.invokevirtual 305, 3) := dk_182 (dw rcX12_close_43 14 rfl) rfl
theorem dX12_close_71 : decode cX12_close 71 = .ok (.aload_n 0, 1) := dk_42 (dw rcX12_close_43 15 rfl)
theorem dX12_close_72 : decode cX12_close 72 = .ok (.dup, 1) := dk_89 (dw rcX12_close_43 16 rfl)
theorem dX12_close_73 : decode cX12_close 73 = .ok (.getfield 309, 3) := dk_180 (dw rcX12_close_43 17 rfl) rfl
theorem dX12_close_76 : decode cX12_close 76 = .ok (.iconst 1, 1) := dk_4 (dw rcX12_close_43 18 rfl)
theorem dX12_close_77 : decode cX12_close 77 = .ok (.isub, 1) := dk_100 (dw rcX12_close_43 19 rfl)
theorem dX12_close_78 : decode cX12_close 78 = .ok (.putfield 309, 3) := dk_181 (dw rcX12_close_43 20 rfl) rfl
theorem dX12_close_81 : decode cX12_close 81 = .ok (.goto (-81), 3) := dk_167 (dw rcX12_close_43 21 rfl) rfl
theorem dX12_close_84 : decode cX12_close 84 = .ok (.aload_n 0, 1) := dk_42 (dw rcX12_close_43 22 rfl)
theorem dX12_close_85 : decode cX12_close 85 = .ok (.iconst 3, 1) := dk_6 (dw rcX12_close_43 23 rfl)
def rbX12_close_86 : List (Nat × List Nat) := [(86, [42]), (87, [180, 0, 39]), (90, [42]), (91, [180, 1, 43]), (94, [46]), (95, [182, 1, 49]), (98, [167, 255, 158]), (101, [177])]
theorem rcX12_close_86 : dgo (lb cX12_close) 0 rbX12_close_86 = true := by decide +kernel
theorem dX12_close_86 : decode cX12_close 86 = .ok (.aload_n 0, 1) := dk_42 (dw rcX12_close_86 0 rfl)
theorem dX12_close_87 : decode cX12_close 87 = .ok (.getfield 39, 3) := dk_180 (dw rcX12_close_86 1 rfl) rfl
theorem dX12_close_90 : decode cX12_close 90 = .ok (.aload_n 0, 1) := dk_42 (dw rcX12_close_86 2 rfl)
theorem dX12_close_91 : decode cX12_close 91 = .ok (.getfield 299, 3) := dk_180 (dw rcX12_close_86 3 rfl) rfl
theorem dX12_close_94 : decode cX12_close 94 = .ok (.iaload, 1) := dk_46 (dw rcX12_close_86 4 rfl)
theorem dX12_close_95 : decode cX12_close 95 = .ok (.invokevirtual 305, 3) := dk_182 (dw rcX12_close_86 5 rfl) rfl
theorem dX12_close_98 : decode cX12_close 98 = .ok (.goto (-98), 3) := dk_167 (dw rcX12_close_86 6 rfl) rfl
theorem dX12_close_101 : decode cX12_close 101 = .ok (.return_, 1) := dk_177 (dw rcX12_close_86 7 rfl)
def rbX12_hasBracket_0 : List (Nat × List Nat) := [(0, [3]), (1, [60]), (2, [3]), (3, [61]), (4, [28]), (5, [42]), (6, [180, 1, 43]), (9, [162, 0, 30]), (12, [27]), (13, [154, 0, 14]), (16, [42]), (17, [180, 0, 39]), (20, [28]), (21, [46]), (22, [16, 20]), (24, [160, 0, 7]), (27, [4]), (28, [167, 0, 4]), (31, [3]), (32, [60]), (33, [132, 2, 1]), (36, [167, 255, 224]), (39, [27]), (40, [172])]
theorem rcX12_hasBracket_0 : dgo (lb cX12_hasBracket) 0 rbX12_hasBracket_0 = true := by decide +kernel
theorem dX12_hasBracket_0 : decode cX12_hasBracket 0 = .ok (.iconst 0, 1) := dk_3 (dw rcX12_hasBracket_0 0 rfl)
theorem dX12_hasBracket_1 : decode cX12_hasBracket 1 = .ok (.istore_n 1, 1) := dk_60 (dw rcX12_hasBracket_0 1 rfl)
theorem dX12_hasBracket_2 : decode cX12_hasBracket 2 = .ok (.iconst 0, 1) := dk_3 (dw rcX12_hasBracket_0 2 rfl)
theorem dX12_hasBracket_3 : decode cX12_hasBracket 3 = .ok (.istore_n 2, 1) := dk_61 (dw rcX12_hasBracket_0 3 rfl)
theorem dX12_hasBracket_4 : decode cX12_hasBracket 4 = .ok (.iload_n 2, 1) := dk_28 (dw rcX12_hasBracket_0 4 rfl)
theorem dX12_hasBracket_5 : decode cX12_hasBracket 5 = .ok (.aload_n 0, 1) := dk_42 (dw rcX12_hasBracket_0 5 rfl)
theorem dX12_hasBracket_6 : decode cX12_hasBracket 6 = .ok (.getfield 299, 3) := dk_180 (dw rcX12_hasBracket_0 6 rfl) rfl
theorem dX12_hasBracket_9 : decode cX12_hasBracket 9 = .ok (.if_icmp .ge 30, 3) := dk_162 (dw rcX12_hasBracket_0 7 rfl) rfl
theorem dX12_hasBracket_12 : decode cX12_hasBracket 12 = .ok (.iload_n 1, 1) := dk_27 (dw rcX12_hasBracket_0 8 rfl)
theorem dX12_hasBracket_13 : decode cX12_hasBracket 13 = .ok (.ifCond .ne 14, 3) := dk_154 (dw rcX12_hasBracket_0 9 rfl) rfl
theorem dX12_hasBracket_16 : decode cX12_hasBracket 16 = .ok (.aload_n 0, 1) := dk_42 (dw rcX12_hasBracket_0 10 rfl)
theorem dX12_hasBracket_17 : decode cX12_hasBracket 17 = .ok (.getfield 39, 3) := dk_180 (dw rcX12_hasBracket_0 11 rfl) rfl
theorem dX12_hasBracket_20 : decode cX12_hasBracket 20 = .ok (.iload_n 2, 1) := dk_28 (dw rcX12_hasBracket_0 12 rfl)
theorem dX12_hasBracket_21 : decode cX12_hasBracket 21 = .ok (.iaload, 1) := dk_46 (dw rcX12_hasBracket_0 13 rfl)
theorem dX12_hasBracket_22 : decode cX12_hasBracket 22 = .ok (.bipush 20, 2) := dk_16 (dw rcX12_hasBracket_0 14 rfl) rfl
theorem dX12_hasBracket_24 : decode cX12_hasBracket 24 = .ok (.if_icmp .ne 7, 3) := dk_160 (dw rcX12_hasBracket_0 15 rfl) rfl
theorem dX12_hasBracket_27 : decode cX12_hasBracket 27 = .ok (.iconst 1, 1) := dk_4 (dw rcX12_hasBracket_0 16 rfl)
theorem dX12_hasBracket_28 : decode cX12_hasBracket 28 = .ok (.goto 4, 3) := dk_167 (dw rcX12_hasBracket_0 17 rfl) rfl
theorem dX12_hasBracket_31 : decode cX12_hasBracket 31 = .ok (.iconst 0, 1) := dk_3 (dw rcX12_hasBracket_0 18 rfl)
theorem dX12_hasBracket_32 : decode cX12_hasBracket 32 = .ok (.istore_n 1, 1) := dk_60 (dw rcX12_hasBracket_0 19 rfl)
theorem dX12_hasBracket_33 : decode cX12_hasBracket 33 = .ok (.iinc 2 1, 3) := dk_132 (dw rcX12_hasBracket_0 20 rfl) rfl
theorem dX12_hasBracket_36 : decode cX12_hasBracket 36 = .ok (.goto (-32), 3) := dk_167 (dw rcX12_hasBracket_0 21 rfl) rfl
theorem dX12_hasBracket_39 : decode cX12_hasBracket 39 = .ok (.iload_n 1, 1) := dk_27 (dw rcX12_hasBracket_0 22 rfl)
theorem dX12_hasBracket_40 : decode cX12_hasBracket 40 = .ok (.ireturn, 1) := dk_172 (dw rcX12_hasBracket_0 23 rfl)
def rbX12_hasRelation_0 : List (Nat × List Nat) := [(0, [42]), (1, [180, 1, 43]), (4, [4]), (5, [100]), (6, [60]), (7, [27]), (8, [155, 0, 33]), (11, [42]), (12, [180, 0, 39]), (15, [27]), (16, [46]), (17, [16, 20]), (19, [159, 0, 22]), (22, [42]), (23, [180, 0, 39]), (26, [27]), (27, [46]), (28, [184, 1, 46]), (31, [7]), (32, [164, 0, 9]), (35, [132, 1, 255]), (38, [167, 255, 225]), (41, [27]), (42, [155, 0, 31])]
theorem rcX12_hasRelation_0 : dgo (lb cX12_hasRelation) 0 rbX12_hasRelation_0 = true := by decide +kernel
theorem dX12_hasRelation_0 : decode cX12_hasRelation 0 = .ok (.aload_n 0, 1) := dk_42 (dw rcX12_hasRelation_0 0 rfl)
theorem dX12_hasRelation_1 : decode cX12_hasRelation 1 = .ok (.getfield 299, 3) := dk_180 (dw rcX12_hasRelation_0 1 rfl) rfl
theorem dX12_hasRelation_4 : decode cX12_hasRelation 4 = .ok (.iconst 1, 1) := dk_4 (dw rcX12_hasRelation_0 2 rfl)
theorem dX12_hasRelation_5 : decode cX12_hasRelation 5 = .ok (.isub, 1) := dk_100 (dw rcX12_hasRelation_0 3 rfl)
theorem dX12_hasRelation_6 : decode cX12_hasRelation 6 = .ok (.istore_n 1, 1) := dk_60 (dw rcX12_hasRelation_0 4 rfl)
theorem dX12_hasRelation_7 : decode cX12_hasRelation 7 = .ok (.iload_n 1, 1) := dk_27 (dw rcX12_hasRelation_0 5 rfl)
theorem dX12_hasRelation_8 : decode cX12_hasRelation 8 = .ok (.ifCond .lt 33, 3) := dk_155 (dw rcX12_hasRelation_0 6 rfl) rfl
theorem dX12_hasRelation_11 : decode cX12_hasRelation 11 = .ok (.aload_n 0, 1) := dk_42 (dw rcX12_hasRelation_0 7 rfl)
theorem dX12_hasRelation_12 : decode cX12_hasRelation 12 = .ok (.getfield 39, 3) := dk_180 (dw rcX12_hasRelation_0 8 rfl) rfl
theorem dX12_hasRelation_15 : decode cX12_hasRelation 15 = .ok (.iload_n 1, 1) := dk_27 (dw rcX12_hasRelation_0 9 rfl)
theorem dX12_hasRelation_16 : decode cX12_hasRelation 16 = .ok (.iaload, 1) := dk_46 (dw rcX12_hasRelation_0 10 rfl)
theorem dX12_hasRelation_17 : decode cX12_hasRelation 17 = .ok (.bipush 20, 2) := dk_16 (dw rcX12_hasRelation_0 11 rfl) rfl
theorem dX12_hasRelation_19 : decode cX12_hasRelation 19 = .ok (.if_icmp .eq 22, 3) := dk_159 (dw rcX12_hasRelation_0 12 rfl) rfl
theorem dX12_hasRelation_22 : decode cX12_hasRelation 22 = .ok (.aload_n 0, 1) := dk_42 (dw rcX12_hasRelation_0 13 rfl)
theorem dX12_hasRelation_23 : decode cX12_hasRelation 23 = .ok (.getfield 39, 3) := dk_180 (dw rcX12_hasRelation_0 14 rfl) rfl
theorem dX12_hasRelation_26 : decode cX12_hasRelation 26 = .ok (.iload_n 1, 1) := dk_27 (dw rcX12_hasRelation_0 15 rfl)
theorem dX12_hasRelation_27 : decode cX12_hasRelation 27 = .ok (.iaload, 1) := dk_46 (dw rcX12_hasRelation_0 16 rfl)
theorem dX12_hasRelation_28 : decode cX12_hasRelation 28 = .ok (.invokestatic 302, 3) := dk_184 (dw rcX12_hasRelation_0 17 rfl) rfl
theorem dX12_hasRelation_31 : decode cX12_hasRelation 31 = .ok (.iconst 4, 1) := dk_7 (dw rcX12_hasRelation_0 18 rfl)
theorem dX12_hasRelation_32 : decode cX12_hasRelation 32 = .ok (.if_icmp .le 9, 3) := dk_164 (dw rcX12_hasRelation_0 19 rfl) rfl
theorem dX12_hasRelation_35 : decode cX12_hasRelation 35 = .ok (.iinc 1 (-1), 3) := dk_132 (dw rcX12_hasRelation_0 20 rfl) rfl
theorem dX12_hasRelation_38 : decode cX12_hasRelation 38 = .ok (.goto (-31), 3) := dk_167 (dw rcX12_hasRelation_0 21 rfl) rfl
theorem dX12_hasRelation_41 : decode cX12_hasRelation 41 = .ok (.iload_n 1, 1) := dk_27 (dw rcX12_hasRelation_0 22 rfl)
theorem dX12_hasRelation_42 : decode cX12_hasRelation 42 = .ok (.ifCond .lt 31, 3) := dk_155 (dw rcX12_hasRelation_0 23 rfl) rfl
def rbX12_hasRelation_45 : List (Nat × List Nat) := [(45, [42]), (46, [180, 0, 39]), (49, [27]), (50, [46]), (51, [16, 20]), (53, [159, 0, 20]), (56, [42]), (57, [180, 0, 39]), (60, [27]), (61, [46]), (62, [184, 1, 46]), (65, [7]), (66, [160, 0, 7]), (69, [4]), (70, [167, 0, 4]), (73, [3]), (74, [172])]
theorem rcX12_hasRelation_45 : dgo (lb cX12_hasRelation) 0 rbX12_hasRelation_45 = true := by decide +kernel
theorem dX12_hasRelation_45 : decode cX12_hasRelation 45 = .ok (.aload_n 0, 1) := dk_42 (dw rcX12_hasRelation_45 0 rfl)
theorem dX12_hasRelation_46 : decode cX12_hasRelation 46 = .ok (.getfield 39, 3) := dk_180 (dw rcX12_hasRelation_45 1 rfl) rfl
theorem dX12_hasRelation_49 : decode cX12_hasRelation 49 = .ok (.iload_n 1, 1) := dk_27 (dw rcX12_hasRelation_45 2 rfl)
theorem dX12_hasRelation_50 : decode cX12_hasRelation 50 = .ok (.iaload, 1) := dk_46 (dw rcX12_hasRelation_45 3 rfl)
theorem dX12_hasRelation_51 : decode cX12_hasRelation 51 = .ok (.bipush 20, 2) := dk_16 (dw rcX12_hasRelation_45 4 rfl) rfl
theorem dX12_hasRelation_53 : decode cX12_hasRelation 53 = .ok (.if_icmp .eq 20, 3) := dk_159 (dw rcX12_hasRelation_45 5 rfl) rfl
theorem dX12_hasRelation_56 : decode cX12_hasRelation 56 = .ok (.aload_n 0, 1) := dk_42 (dw rcX12_hasRelation_45 6 rfl)
theorem dX12_hasRelation_57 : decode cX12_hasRelation 57 = .ok (.getfield 39, 3) := dk_180 (dw rcX12_hasRelation_45 7 rfl) rfl
theorem dX12_hasRelation_60 : decode cX12_hasRelation 60 = .ok (.iload_n 1, 1) := dk_27 (dw rcX12_hasRelation_45 8 rfl)
theorem dX12_hasRelation_61 : decode cX12_hasRelation 61 = .ok (.iaload, 1) := dk_46 (dw rcX12_hasRelation_45 9 rfl)
theorem dX12_hasRelation_62 : decode cX12_hasRelation 62 = .ok (.invokestatic 302, 3) := dk_184 (dw rcX12_hasRelation_45 10 rfl) rfl
theorem dX12_hasRelation_65 : decode cX12_hasRelation 65 = .ok (.iconst 4, 1) := dk_7 (dw rcX12_hasRelation_45 11 rfl)
theorem dX12_hasRelation_66 : decode cX12_hasRelation 66 = .ok (.if_icmp .ne 7, 3) := dk_160 (dw rcX12_hasRelation_45 12 rfl) rfl
theorem dX12_hasRelation_69 : decode cX12_hasRelation 69 = .ok (.iconst 1, 1) := dk_4 (dw rcX12_hasRelation_45 13 rfl)
theorem dX12_hasRelation_70 : decode cX12_hasRelation 70 = .ok (.goto 4, 3) := dk_167 (dw rcX12_hasRelation_45 14 rfl) rfl
theorem dX12_hasRelation_73 : decode cX12_hasRelation 73 = .ok (.iconst 0, 1) := dk_3 (dw rcX12_hasRelation_45 15 rfl)
theorem dX12_hasRelation_74 : decode cX12_hasRelation 74 = .ok (.ireturn, 1) := dk_172 (dw rcX12_hasRelation_45 16 rfl)
def rbX12_mayNot_0 : List (Nat × List Nat) := [(0, [42]), (1, [180, 1, 43]), (4, [153, 0, 37]), (7, [42]), (8, [180, 0, 39]), (11, [42]), (12, [180, 1, 43]), (15, [4]), (16, [100]), (17, [46]), (18, [16, 20]), (20, [159, 0, 21]), (23, [42]), (24, [180, 0, 39]), (27, [42]), (28, [180, 1, 43]), (31, [4]), (32, [100]), (33, [46]), (34, [184, 1, 46]), (37, [7]), (38, [162, 0, 7]), (41, [4]), (42, [167, 0, 4])]
theorem rcX12_mayNot_0 : dgo (lb cX12_mayNot) 0 rbX12_mayNot_0 = true := by decide +kernel
theorem dX12_mayNot_0 : decode cX12_mayNot 0 = .ok (.aload_n 0, 1) := dk_42 (dw rcX12_mayNot_0 0 rfl)
theorem dX12_mayNot_1 : decode cX12_mayNot 1 = .ok (.getfield 299, 3) := dk_180 (dw rcX12_mayNot_0 1 rfl) rfl
theorem dX12_mayNot_4 : decode cX12_mayNot 4 = .ok (.ifCond .eq 37, 3) := dk_153 (dw rcX12_mayNot_0 2 rfl) rfl
theorem dX12_mayNot_7 : decode cX12_mayNot 7 = .ok (.aload_n 0, 1) := dk_42 (dw rcX12_mayNot_0 3 rfl)
theorem dX12_mayNot_8 : decode cX12_mayNot 8 = .ok (.getfield 39, 3) := dk_180 (dw rcX12_mayNot_0 4 rfl) rfl
theorem dX12_mayNot_11 : decode cX12_mayNot 11 = .ok (.aload_n 0, 1) := dk_42 (dw rcX12_mayNot_0 5 rfl)
theorem dX12_mayNot_12 : decode cX12_mayNot 12 = .ok (.getfield 299, 3) := dk_180 (dw rcX12_mayNot_0 6 rfl) rfl
theorem dX12_mayNot_15 : decode cX12_mayNot 15 = .ok (.iconst 1, 1) := dk_4 (dw rcX12_mayNot_0 7 rfl)
theorem dX12_mayNot_16 : decode cX12_mayNot 16 = .ok (.isub, 1) := dk_100 (dw rcX12_mayNot_0 8 rfl)
theorem dX12_mayNot_17 : decode cX12_mayNot 17 = .ok (.iaload, 1) := dk_46 (dw rcX12_mayNot_0 9 rfl)
theorem dX12_mayNot_18 : decode cX12_mayNot 18 = .ok (.bipush 20, 2) := dk_16 (dw rcX12_mayNot_0 10 rfl) rfl
theorem dX12_mayNot_20 : decode cX12_mayNot 20 = .ok (.if_icmp .eq 21, 3) := dk_159 (dw rcX12_mayNot_0 11 rfl) rfl
theorem dX12_mayNot_23 : decode cX12_mayNot 23 = .ok (.aload_n 0, 1) := dk_42 (dw rcX12_mayNot_0 12 rfl)
theorem dX12_mayNot_24 : decode cX12_mayNot 24 = .ok (.getfield 39, 3) := dk_180 (dw rcX12_mayNot_0 13 rfl) rfl
theorem dX12_mayNot_27 : decode cX12_mayNot 27 = .ok (.aload_n 0, 1) := dk_42 (dw rcX12_mayNot_0 14 rfl)
theorem dX12_mayNot_28 : decode cX12_mayNot 28 = .ok (.getfield 299, 3) := dk_180 (dw rcX12_mayNot_0 15 rfl) rfl
theorem dX12_mayNot_31 : decode cX12_mayNot 31 = .ok (.iconst 1, 1) := dk_4 (dw rcX12_mayNot_0 16 rfl)
theorem dX12_mayNot_32 : decode cX12_mayNot 32 = .ok (.isub, 1) := dk_100 (dw rcX12_mayNot_0 17 rfl)
theorem dX12_mayNot_33 : decode cX12_mayNot 33 = .ok (.iaload, 1) := dk_46 (dw rcX12_mayNot_0 18 rfl)
theorem dX12_mayNot_34 : decode cX12_mayNot 34 = .ok (.invokestatic 302, 3) := dk_184 (dw rcX12_mayNot_0 19 rfl) rfl
theorem dX12_mayNot_37 : decode cX12_mayNot 37 = .ok (.iconst 4, 1) := dk_7 (dw rcX12_mayNot_0 20 rfl)
theorem dX12_mayNot_38 : decode cX12_mayNot 38 = .ok (.if_icmp .ge 7, 3) := dk_162 (dw rcX12_mayNot_0 21 rfl) rfl
theorem dX12_mayNot_41 : decode cX12_mayNot 41 = .ok (.iconst 1, 1) := dk_4 (dw rcX12_mayNot_0 22 rfl)
theorem dX12_mayNot_42 : decode cX12_mayNot 42 = .ok (.goto 4, 3) := dk_167 (dw rcX12_mayNot_0 23 rfl) rfl
def rbX12_mayNot_45 : List (Nat × List Nat) := [(45, [3]), (46, [172])]
theorem rcX12_mayNot_45 : dgo (lb cX12_mayNot) 0 rbX12_mayNot_45 = true := by decide +kernel
theorem dX12_mayNot_45 : decode cX12_mayNot 45 = .ok (.iconst 0, 1) := dk_3 (dw rcX12_mayNot_45 0 rfl)
theorem dX12_mayNot_46 : decode cX12_mayNot 46 = .ok (.ireturn, 1) := dk_172 (dw rcX12_mayNot_45 1 rfl)
set_option maxHeartbeats 4000000 in
set_option maxRecDepth 100000 in
theorem n_hasBracket (l : Launch) (D : va_G) (k : KT) (A : Nat → Prop) (a : Nat → Nat) (z : SK) (G : GS)   : Met l yX12_hasBracket (WS yX12_hasBracket cX12_hasBracket 3 (some .boolean)) ({ frames := 0, cells := 0, slots := 0, locals := 0 }) (va_Pc [.ref (a 66)] (cW D k A a z G)) (va_Qi (fun (r : Int32) (G1 : GS) => Q_hasBracket G r G1) (fun (G1 : GS) t => Wd D k A a G1 t.heap) A) 0 0 A := by
  refine Met.ofW (cc := cX12_hasBracket) (maxL := 3) (ret := (some .boolean)) (by decide) rfl ?_
  intro p e s m args below meth c s₁ B hml hv
  obtain ⟨rfl, hW, hB_G, hK, hZ⟩ := hv
  have hx := B.exec
  have hb := B.bytes
  have hr := B.returns
  have hts := atoms_spec (ws := WS yX12_hasBracket cX12_hasBracket 3 (some .boolean)) B.pre
  have hgd : ∀ w ∈ gd, w ∈ WS yX12_hasBracket cX12_hasBracket 3 (some .boolean) := fun w h => List.mem_cons_of_mem _ h
  have hg : ∀ w ∈ gd, w.before _ s = true := fun w h => hts w (hgd w h)
  have hown : s.vm.findClass RX12 = some m.cls := findClass_of_methodNamed B.named
  have hS : va_S A s.heap s.heap [] := va_S.rf
  have hF : Fr [] [] G G := Fr.rf
  have hl := lv_entry ([.ref (a 66)]) (n := 3) (Nat.le_of_ble_eq_true rfl)
  rw [lg_entry_eq]
  generalize (lg_sl ([.ref (a 66)]) ++ List.replicate (3 - (lg_sl ([.ref (a 66)])).length) Slot.unset).toArray = ls at hl ⊢
  have hl : lv_has ls 3 [(0, .ref (a 66))] := hl
  refine ic_0 hx hb dX12_hasBracket_0 ?_
  refine lv_istore_n (lv' := [(1, .int 0), (0, .ref (a 66))]) hx hb dX12_hasBracket_1 rfl hl (lt_b rfl) rfl (fun ls hl => ?_)
  refine ic_0 hx hb dX12_hasBracket_2 ?_
  have u_1 := bk_mono (G.1 75) (0 : Int32).toInt
  refine lv_istore_n (lv' := [(2, .int 0), (1, .int 0), (0, .ref (a 66))]) hx hb dX12_hasBracket_3 rfl hl (lt_b rfl) rfl (fun ls hl => ?_)
  have b_9 : 0 ≤ (G.1 66 20).toInt ∧ (G.1 66 20).toInt ≤ 160 := bd_66_20 hB_G
  have qc_10 : (0 : Int32).toInt = 0 := rfl
  refine loop_N (Inv := fun n H locs ls => ∃ (G_2 : GS) (x_6 : Int32) (x_7 : Int32), (n : Int) = 160 - x_6.toInt ∧ (0 ≤ x_6.toInt ∧ x_6.toInt ≤ 160) ∧ (0 ≤ x_7.toInt ∧ x_7.toInt ≤ 1) ∧ (x_7.toInt ≤ bkI (G.1 75) x_6.toInt) ∧ (x_6.toInt ≤ (G.1 66 20).toInt) ∧ Rc (St_n_hasBracket_1 G) (0, 0, G) (x_6, x_7, G_2) ∧ Wd D k A a G_2 H ∧ Bd G_2 ∧ Fr [] [] G G_2 ∧ Fr [] [] G G_2 ∧ va_S A s.heap H locs ∧ lv_has ls 3 [(2, .int x_6), (1, .int x_7), (0, .ref (a 66))]) (fun n_5 H locs ls ih_4 hI => ?_) (160 - 0 : Int).toNat ⟨G, 0, 0, (Int.toNat_of_nonneg (by omega)), ⟨by omega, by omega⟩, ⟨by omega, by omega⟩, (by omega), (by omega), Rc.rf, hW, hB_G, hF, Fr.rf, hS, lv_sub hl [0, 1, 2] rfl⟩
  obtain ⟨G_2, x_6, x_7, hn_15, f_11, f_12, f_13, f_14, hX_8, hW, hB_G_2, hF, hq_3, hS, hl⟩ := hI
  refine lv_iload_n hx hb dX12_hasBracket_4 rfl (lv_at hl 0 rfl) ?_
  refine lv_aload_n hx hb dX12_hasBracket_5 rfl (lv_at hl 2 rfl) ?_
  refine S_getI (v := (G.1 66 20)) (C := RX12) (T := TX12) (N := 89) hx hb hg iX12 hown hK hW kd_66 rfl 20 (lt_b rfl) (hg (Cond.fieldLink RX12 299 "SlabWalkModel" "opens" "I") m1334) (fun _ h9 => h9) rfl ((hq_3.i9 66 20 rfl rfl).trans (rfl)) dX12_hasBracket_6 ?_
  refine lv_icmp_ge (tgt := 39) hx hb dX12_hasBracket_9 rfl (fun c_16 => ?_) (fun c_16 => ?_)
  · have c_16 : (G.1 66 20).toInt ≤ x_6.toInt := xI_le rfl rfl c_16
    have u_17 := bk_all (G := G) (x := x_6) (by omega) (by omega)
    refine lv_iload_n hx hb dX12_hasBracket_39 rfl (lv_at hl 1 rfl) ?_
    exact W.zret (v := x_7) hx hb hr (nar_z (by omega) (by omega)) (fun t ht _ => ⟨⟨x_7, G_2, rfl, (Q_hasBracket_mk ⟨hB_G_2, hF, ⟨by omega, by omega⟩, (by omega), ⟨x_6, x_7, G_2, hX_8, f_11, f_12, f_13, f_14, hB_G_2, hq_3, ⟨c_16, ⟨rfl, rfl⟩⟩⟩⟩), wd_t ht hW⟩, hS.F ht⟩) hS.2.2 dX12_hasBracket_40
  · have c_16 : x_6.toInt < (G.1 66 20).toInt := xI_nle rfl rfl c_16
    refine lv_iload_n hx hb dX12_hasBracket_12 rfl (lv_at hl 1 rfl) ?_
    refine lv_if_ne (tgt := 27) hx hb dX12_hasBracket_13 rfl (fun c_18 => ?_) (fun c_18 => ?_)
    · have c_18 : x_7.toInt ≠ 0 := xI_ne rfl rfl c_18
      refine ic_1 hx hb dX12_hasBracket_27 ?_
      refine lv_goto (tgt := 32) hx hb dX12_hasBracket_28 rfl ?_
      refine lv_istore_n (lv' := [(1, .int 1), (2, .int x_6), (0, .ref (a 66))]) hx hb dX12_hasBracket_32 rfl hl (lt_b rfl) rfl (fun ls hl => ?_)
      have u_19 := bk_mono (G.1 75) x_6.toInt
      obtain ⟨y_20, ey_20⟩ : ∃ q, q = x_6 + 1 := ⟨_, rfl⟩
      have ty_20 : y_20.toInt = x_6.toInt + 1 := xI_add rfl rfl ey_20 (by omega) (by omega)
      refine lv_iinc (v := y_20) (lv' := [(2, .int y_20), (1, .int 1), (0, .ref (a 66))]) hx hb dX12_hasBracket_33 hl (k := 1) rfl (by rw [ey_20]; rfl) (lt_b rfl) rfl (fun ls hl => ?_)
      have u_21 : bkI (G.1 75) y_20.toInt = bkI (G.1 75) (x_6.toInt + 1) := by rw [ty_20]
      refine lv_goto (tgt := 4) hx hb dX12_hasBracket_36 rfl ?_
      have qc_22 : (1 : Int32).toInt = 1 := rfl
      exact ih_4 (160 - y_20.toInt : Int).toNat (by omega) _ _ _ ⟨G_2, y_20, 1, (Int.toNat_of_nonneg (by omega)), ⟨by omega, by omega⟩, ⟨(by first | (clear b_9 hn_15 f_11 f_12 f_13 f_14 c_16 c_18 ty_20 u_21; omega) | omega), (by first | (clear b_9 hn_15 f_11 f_12 f_13 f_14 c_16 c_18 ty_20 u_21; omega) | omega)⟩, (by omega), (by omega), (hX_8.st (St_n_hasBracket_1_mk ⟨x_6, x_7, G_2, y_20, 1, G_2, rfl, rfl, f_11, f_12, f_13, f_14, hB_G_2, ⟨c_16, (Or.inr ⟨c_18, ⟨y_20, ty_20, ⟨rfl, rfl, rfl⟩⟩⟩)⟩⟩)), hW, hB_G_2, hF, (Fr.call9 (rs := []) (fs := []) Fr.rf hq_3 rfl rfl), hS, lv_sub hl [0, 1, 2] rfl⟩
    · have c_18 : x_7.toInt = 0 := xI_eq rfl rfl c_18
      refine lv_aload_n hx hb dX12_hasBracket_16 rfl (lv_at hl 2 rfl) ?_
      refine S_getR (n := 75) (C := RX12) (T := TX12) (N := 89) hx hb hg iX12 hown hK hW kd_66 rfl 17 (lt_b rfl) (hg (Cond.fieldLink RX12 39 "SlabWalkModel" "open" "[I") m1331) (fun _ h9 => h9) rfl dX12_hasBracket_17 ?_
      refine lv_iload_n hx hb dX12_hasBracket_20 rfl (lv_at hl 0 rfl) ?_
      refine S_iald hx hb hK hW kd_75 (vin (by omega) (by omega)) dX12_hasBracket_21 (fun y_23 ey_23 => ?_)
      have u_24 : y_23.toInt = (G.1 75 x_6.toNatClampNeg).toInt := congrArg Int32.toInt (ey_23.trans ((hq_3.ri9 75 rfl x_6.toNatClampNeg)))
      have u_25 := bk_step (f := G.1 75) (x := x_6) (y := y_23) (by omega) (by omega)
      refine lv_bipush (v := 20) hx hb dX12_hasBracket_22 (by decide) ?_
      refine lv_icmp_ne (tgt := 31) hx hb dX12_hasBracket_24 rfl (fun c_26 => ?_) (fun c_26 => ?_)
      · have c_26 : y_23.toInt ≠ 20 := xI_ne rfl rfl c_26
        refine ic_0 hx hb dX12_hasBracket_31 ?_
        refine lv_istore_n (lv' := [(1, .int 0), (2, .int x_6), (0, .ref (a 66))]) hx hb dX12_hasBracket_32 rfl hl (lt_b rfl) rfl (fun ls hl => ?_)
        have u_27 := bk_mono (G.1 75) x_6.toInt
        obtain ⟨y_28, ey_28⟩ : ∃ q, q = x_6 + 1 := ⟨_, rfl⟩
        have ty_28 : y_28.toInt = x_6.toInt + 1 := xI_add rfl rfl ey_28 (by omega) (by omega)
        refine lv_iinc (v := y_28) (lv' := [(2, .int y_28), (1, .int 0), (0, .ref (a 66))]) hx hb dX12_hasBracket_33 hl (k := 1) rfl (by rw [ey_28]; rfl) (lt_b rfl) rfl (fun ls hl => ?_)
        have u_29 : bkI (G.1 75) y_28.toInt = bkI (G.1 75) (x_6.toInt + 1) := by rw [ty_28]
        refine lv_goto (tgt := 4) hx hb dX12_hasBracket_36 rfl ?_
        have qc_30 : (0 : Int32).toInt = 0 := rfl
        exact ih_4 (160 - y_28.toInt : Int).toNat (by omega) _ _ _ ⟨G_2, y_28, 0, (Int.toNat_of_nonneg (by omega)), ⟨by omega, by omega⟩, ⟨(by first | (clear b_9 hn_15 f_11 f_12 f_13 f_14 c_16 c_18 u_24 c_26 ty_28 u_29; omega) | omega), (by first | (clear b_9 hn_15 f_11 f_12 f_13 f_14 c_16 c_18 u_24 c_26 ty_28 u_29; omega) | omega)⟩, (by omega), (by omega), (hX_8.st (St_n_hasBracket_1_mk ⟨x_6, x_7, G_2, y_28, 0, G_2, rfl, rfl, f_11, f_12, f_13, f_14, hB_G_2, ⟨c_16, (Or.inl ⟨c_18, ⟨y_23, ey_23, (Or.inr ⟨c_26, ⟨y_28, ty_28, ⟨rfl, rfl, rfl⟩⟩⟩)⟩⟩)⟩⟩)), hW, hB_G_2, hF, (Fr.call9 (rs := []) (fs := []) Fr.rf hq_3 rfl rfl), hS, lv_sub hl [0, 1, 2] rfl⟩
      · have c_26 : y_23.toInt = 20 := xI_eq rfl rfl c_26
        refine ic_1 hx hb dX12_hasBracket_27 ?_
        refine lv_goto (tgt := 32) hx hb dX12_hasBracket_28 rfl ?_
        refine lv_istore_n (lv' := [(1, .int 1), (2, .int x_6), (0, .ref (a 66))]) hx hb dX12_hasBracket_32 rfl hl (lt_b rfl) rfl (fun ls hl => ?_)
        have u_31 := bk_mono (G.1 75) x_6.toInt
        obtain ⟨y_32, ey_32⟩ : ∃ q, q = x_6 + 1 := ⟨_, rfl⟩
        have ty_32 : y_32.toInt = x_6.toInt + 1 := xI_add rfl rfl ey_32 (by omega) (by omega)
        refine lv_iinc (v := y_32) (lv' := [(2, .int y_32), (1, .int 1), (0, .ref (a 66))]) hx hb dX12_hasBracket_33 hl (k := 1) rfl (by rw [ey_32]; rfl) (lt_b rfl) rfl (fun ls hl => ?_)
        have u_33 : bkI (G.1 75) y_32.toInt = bkI (G.1 75) (x_6.toInt + 1) := by rw [ty_32]
        refine lv_goto (tgt := 4) hx hb dX12_hasBracket_36 rfl ?_
        have qc_34 : (1 : Int32).toInt = 1 := rfl
        exact ih_4 (160 - y_32.toInt : Int).toNat (by omega) _ _ _ ⟨G_2, y_32, 1, (Int.toNat_of_nonneg (by omega)), ⟨by omega, by omega⟩, ⟨(by first | (clear b_9 hn_15 f_11 f_12 f_13 f_14 c_16 c_18 u_24 c_26 ty_32 u_33; omega) | omega), (by first | (clear b_9 hn_15 f_11 f_12 f_13 f_14 c_16 c_18 u_24 c_26 ty_32 u_33; omega) | omega)⟩, (by omega), (by omega), (hX_8.st (St_n_hasBracket_1_mk ⟨x_6, x_7, G_2, y_32, 1, G_2, rfl, rfl, f_11, f_12, f_13, f_14, hB_G_2, ⟨c_16, (Or.inl ⟨c_18, ⟨y_23, ey_23, (Or.inl ⟨c_26, ⟨y_32, ty_32, ⟨rfl, rfl, rfl⟩⟩⟩)⟩⟩)⟩⟩)), hW, hB_G_2, hF, (Fr.call9 (rs := []) (fs := []) Fr.rf hq_3 rfl rfl), hS, lv_sub hl [0, 1, 2] rfl⟩

set_option maxHeartbeats 4000000 in
set_option maxRecDepth 100000 in
theorem n_add (l : Launch) (D : va_G) (k : KT) (A : Nat → Prop) (a : Nat → Nat) (z : SK) (G : GS) (p0 : Int32) (p1 : Int32) (ha_p0 : 0 ≤ p0.toInt ∧ p0.toInt ≤ 3) (hgm9 : gM G ≤ 319) : Met l yX12_add (WS yX12_add cX12_add 3 none) ({ frames := 0, cells := 0, slots := 0, locals := 0 }) (va_Pc [.ref (a 66), .int p0, .int p1] (cW D k A a z G)) (va_Qv (fun (G1 : GS) => Q_add p0 p1 G G1) (fun (G1 : GS) t => Wd D k A a G1 t.heap) A) 0 0 A := by
  refine Met.ofW (cc := cX12_add) (maxL := 3) (ret := none) (by decide) rfl ?_
  intro p e s m args below meth c s₁ B hml hv
  obtain ⟨rfl, hW, hB_G, hK, hZ⟩ := hv
  have hx := B.exec
  have hb := B.bytes
  have hr := B.returns
  have hts := atoms_spec (ws := WS yX12_add cX12_add 3 none) B.pre
  have hgd : ∀ w ∈ gd, w ∈ WS yX12_add cX12_add 3 none := fun w h => List.mem_cons_of_mem _ h
  have hg : ∀ w ∈ gd, w.before _ s = true := fun w h => hts w (hgd w h)
  have hown : s.vm.findClass RX12 = some m.cls := findClass_of_methodNamed B.named
  have hS : va_S A s.heap s.heap [] := va_S.rf
  have hF : Fr [69, 70, 71] [] G G := Fr.rf
  have hl := lv_entry ([.ref (a 66), .int p0, .int p1]) (n := 3) (Nat.le_of_ble_eq_true rfl)
  rw [lg_entry_eq]
  generalize (lg_sl ([.ref (a 66), .int p0, .int p1]) ++ List.replicate (3 - (lg_sl ([.ref (a 66), .int p0, .int p1])).length) Slot.unset).toArray = ls at hl ⊢
  have hl : lv_has ls 3 [(0, .ref (a 66)), (1, .int p0), (2, .int p1)] := hl
  have hgm : gM G = (G.1 71 (G.1 66 19).toNatClampNeg).toInt := rfl
  refine lv_aload_n hx hb dX12_add_0 rfl (lv_at hl 0 rfl) ?_
  refine S_getR (n := 69) (C := RX12) (T := TX12) (N := 89) hx hb hg iX12 hown hK hW kd_66 rfl 11 (lt_b rfl) (hg (Cond.fieldLink RX12 21 "SlabWalkModel" "nStep" "[I") m1325) (fun _ h9 => h9) rfl dX12_add_1 ?_
  refine lv_sipush (v := 320) hx hb dX12_add_4 (by decide) ?_
  refine lv_aload_n hx hb dX12_add_7 rfl (lv_at hl 0 rfl) ?_
  have b_1 : 0 ≤ (G.1 66 19).toInt ∧ (G.1 66 19).toInt ≤ 5 := bd_66_19 hB_G
  refine S_getI (v := (G.1 66 19)) (C := RX12) (T := TX12) (N := 89) hx hb hg iX12 hown hK hW kd_66 rfl 19 (lt_b rfl) (hg (Cond.fieldLink RX12 296 "SlabWalkModel" "form" "I") m1333) (fun _ h9 => h9) rfl rfl dX12_add_8 ?_
  refine lv_imul hx hb dX12_add_11 ?_
  refine lv_topi (fun y_2 ey_2 => ?_)
  have ty_2 : y_2.toInt = 320 * (G.1 66 19).toInt := xI_mul rfl rfl ey_2 (by omega) (by omega)
  refine lv_aload_n hx hb dX12_add_12 rfl (lv_at hl 0 rfl) ?_
  refine S_getR (n := 71) (C := RX12) (T := TX12) (N := 89) hx hb hg iX12 hown hK hW kd_66 rfl 13 (lt_b rfl) (hg (Cond.fieldLink RX12 27 "SlabWalkModel" "nMany" "[I") m1327) (fun _ h9 => h9) rfl dX12_add_13 ?_
  refine lv_aload_n hx hb dX12_add_16 rfl (lv_at hl 0 rfl) ?_
  refine S_getI (v := (G.1 66 19)) (C := RX12) (T := TX12) (N := 89) hx hb hg iX12 hown hK hW kd_66 rfl 19 (lt_b rfl) (hg (Cond.fieldLink RX12 296 "SlabWalkModel" "form" "I") m1333) (fun _ h9 => h9) rfl rfl dX12_add_17 ?_
  refine S_iald hx hb hK hW kd_71 (vin (by omega) (by omega)) dX12_add_20 (fun y_3 ey_3 => ?_)
  have ty_3 : 0 ≤ y_3.toInt ∧ y_3.toInt ≤ 320 := bv_71 hB_G ey_3
  have u_4 : y_3.toInt = (G.1 71 (G.1 66 19).toNatClampNeg).toInt := congrArg Int32.toInt (ey_3)
  refine lv_iadd hx hb dX12_add_21 ?_
  refine lv_topi (fun y_5 ey_5 => ?_)
  have ty_5 : y_5.toInt = y_2.toInt + y_3.toInt := xI_add rfl rfl ey_5 (by omega) (by omega)
  refine lv_iload_n hx hb dX12_add_22 rfl (lv_at hl 1 rfl) ?_
  refine S_iast hx hb hK hW hS kd_69 (vin (by omega) (by omega)) dX12_add_23 (fun G_6 H locs eG_6 hW hS => ?_)
  have hB_G_6 : Bd G_6 := hB_G.put (lo := (-2147483648)) (hi := 2147483647) eG_6 rfl rfl rfl (tI_rng _).1 (tI_rng _).2 (hB_G.2.put eG_6 rfl)
  have hF := hF.put eG_6 (Or.inl (by decide))
  refine lv_aload_n hx hb dX12_add_24 rfl (lv_at hl 0 rfl) ?_
  refine S_getR (n := 70) (C := RX12) (T := TX12) (N := 89) hx hb hg iX12 hown hK hW kd_66 rfl 12 (lt_b rfl) (hg (Cond.fieldLink RX12 24 "SlabWalkModel" "nArg" "[I") m1326) (fun _ h9 => h9) rfl dX12_add_25 ?_
  refine lv_sipush (v := 320) hx hb dX12_add_28 (by decide) ?_
  refine lv_aload_n hx hb dX12_add_31 rfl (lv_at hl 0 rfl) ?_
  refine S_getI (v := (G.1 66 19)) (C := RX12) (T := TX12) (N := 89) hx hb hg iX12 hown hK hW kd_66 rfl 19 (lt_b rfl) (hg (Cond.fieldLink RX12 296 "SlabWalkModel" "form" "I") m1333) (fun _ h9 => h9) rfl ((gp_ne eG_6 (fun q => absurd q.1 (Nat.ne_of_beq_eq_false rfl))).trans (rfl)) dX12_add_32 ?_
  refine lv_imul hx hb dX12_add_35 ?_
  refine lv_topi (fun y_7 ey_7 => ?_)
  have ty_7 : y_7.toInt = 320 * (G.1 66 19).toInt := xI_mul rfl rfl ey_7 (by omega) (by omega)
  refine lv_aload_n hx hb dX12_add_36 rfl (lv_at hl 0 rfl) ?_
  refine S_getR (n := 71) (C := RX12) (T := TX12) (N := 89) hx hb hg iX12 hown hK hW kd_66 rfl 13 (lt_b rfl) (hg (Cond.fieldLink RX12 27 "SlabWalkModel" "nMany" "[I") m1327) (fun _ h9 => h9) rfl dX12_add_37 ?_
  refine lv_aload_n hx hb dX12_add_40 rfl (lv_at hl 0 rfl) ?_
  refine S_getI (v := (G.1 66 19)) (C := RX12) (T := TX12) (N := 89) hx hb hg iX12 hown hK hW kd_66 rfl 19 (lt_b rfl) (hg (Cond.fieldLink RX12 296 "SlabWalkModel" "form" "I") m1333) (fun _ h9 => h9) rfl ((gp_ne eG_6 (fun q => absurd q.1 (Nat.ne_of_beq_eq_false rfl))).trans (rfl)) dX12_add_41 ?_
  refine S_iald hx hb hK hW kd_71 (vin (by omega) (by omega)) dX12_add_44 (fun y_8 ey_8 => ?_)
  have ty_8 : 0 ≤ y_8.toInt ∧ y_8.toInt ≤ 320 := bv_71 hB_G_6 ey_8
  have u_9 : y_8.toInt = y_3.toInt := congrArg Int32.toInt (ey_8.trans (((gp_ne eG_6 (fun q => absurd q.1 (Nat.ne_of_beq_eq_false rfl))).trans (ey_3.symm))))
  refine lv_iadd hx hb dX12_add_45 ?_
  refine lv_topi (fun y_10 ey_10 => ?_)
  have ty_10 : y_10.toInt = y_7.toInt + y_8.toInt := xI_add rfl rfl ey_10 (by omega) (by omega)
  refine lv_iload_n hx hb dX12_add_46 rfl (lv_at hl 2 rfl) ?_
  refine S_iast hx hb hK hW hS kd_70 (vin (by omega) (by omega)) dX12_add_47 (fun G_11 H locs eG_11 hW hS => ?_)
  have hB_G_11 : Bd G_11 := hB_G_6.put (lo := (-2147483648)) (hi := 2147483647) eG_11 rfl rfl rfl (tI_rng _).1 (tI_rng _).2 (hB_G_6.2.put eG_11 rfl)
  have hF := hF.put eG_11 (Or.inl (by decide))
  refine lv_aload_n hx hb dX12_add_48 rfl (lv_at hl 0 rfl) ?_
  refine S_getR (n := 71) (C := RX12) (T := TX12) (N := 89) hx hb hg iX12 hown hK hW kd_66 rfl 13 (lt_b rfl) (hg (Cond.fieldLink RX12 27 "SlabWalkModel" "nMany" "[I") m1327) (fun _ h9 => h9) rfl dX12_add_49 ?_
  refine lv_aload_n hx hb dX12_add_52 rfl (lv_at hl 0 rfl) ?_
  refine S_getI (v := (G.1 66 19)) (C := RX12) (T := TX12) (N := 89) hx hb hg iX12 hown hK hW kd_66 rfl 19 (lt_b rfl) (hg (Cond.fieldLink RX12 296 "SlabWalkModel" "form" "I") m1333) (fun _ h9 => h9) rfl ((gp_ne eG_11 (fun q => absurd q.1 (Nat.ne_of_beq_eq_false rfl))).trans ((gp_ne eG_6 (fun q => absurd q.1 (Nat.ne_of_beq_eq_false rfl))).trans (rfl))) dX12_add_53 ?_
  refine lv_dup2_11 hx hb dX12_add_56 rfl rfl ?_
  refine S_iald hx hb hK hW kd_71 (vin (by omega) (by omega)) dX12_add_57 (fun y_12 ey_12 => ?_)
  have ty_12 : 0 ≤ y_12.toInt ∧ y_12.toInt ≤ 320 := bv_71 hB_G_11 ey_12
  have u_13 : y_12.toInt = y_8.toInt := congrArg Int32.toInt (ey_12.trans (((gp_ne eG_11 (fun q => absurd q.1 (Nat.ne_of_beq_eq_false rfl))).trans (ey_8.symm))))
  refine ic_1 hx hb dX12_add_58 ?_
  refine lv_iadd hx hb dX12_add_59 ?_
  refine lv_topi (fun y_14 ey_14 => ?_)
  have ty_14 : y_14.toInt = y_12.toInt + 1 := xI_add rfl rfl ey_14 (by omega) (by omega)
  refine S_iast hx hb hK hW hS kd_71 (vin (by omega) (by omega)) dX12_add_60 (fun G_15 H locs eG_15 hW hS => ?_)
  have hB_G_15 : Bd G_15 := hB_G_11.put (V := y_14.toInt) (lo := 0) (hi := 320) eG_15 rfl rfl rfl (by omega) (by omega) (hB_G_11.2.put eG_15 rfl)
  have hF := hF.put eG_15 (Or.inl (by decide))
  exact W.vret hx hb hr (fun t ht _ => ⟨⟨G_15, rfl, (Q_add_mk ⟨hB_G_15, hF, (add_gh hB_G ((gp_ne eG_15 (fun q => absurd q.1 (Nat.ne_of_beq_eq_false rfl))).trans ((gp_ne eG_11 (fun q => absurd q.1 (Nat.ne_of_beq_eq_false rfl))).trans ((gp_ne eG_6 (fun q => absurd q.1 (Nat.ne_of_beq_eq_false rfl))).trans (rfl)))) ha_p0.1 ha_p0.2 hgm9 (x := y_5) (by omega) (fun j hj => ((gp_ne eG_15 (fun q => absurd q.1 (Nat.ne_of_beq_eq_false rfl))).trans ((gp_ne eG_11 (fun q => absurd q.1 (Nat.ne_of_beq_eq_false rfl))).trans (gp_ne eG_6 (fun q => hj q.2))))) ((gp_ne eG_15 (fun q => absurd q.1 (Nat.ne_of_beq_eq_false rfl))).trans ((gp_ne eG_11 (fun q => absurd q.1 (Nat.ne_of_beq_eq_false rfl))).trans (gp_eq eG_6))) (fun j hj => ((gp_ne eG_15 (fun q => hj q.2)).trans ((gp_ne eG_11 (fun q => absurd q.1 (Nat.ne_of_beq_eq_false rfl))).trans (gp_ne eG_6 (fun q => absurd q.1 (Nat.ne_of_beq_eq_false rfl)))))) (by rw [show G_15.1 71 (G.1 66 19).toNatClampNeg = y_14 from (gp_eq eG_15)]; omega)), ⟨y_2, ty_2, ⟨y_3, ey_3, ⟨y_5, ty_5, ⟨y_7, ty_7, ⟨y_8, ey_8.trans (congrFun (rw_put eG_6 (by decide)) _), ⟨y_10, ty_10, ⟨y_12, ey_12.trans (congrFun ((rw_put eG_11 (by decide)).trans (rw_put eG_6 (by decide))) _), ⟨y_14, ty_14, ⟨(Fr.put (rs := [69, 70, 71]) (fs := []) (Fr.put (rs := [69, 70, 71]) (fs := []) (Fr.put (rs := [69, 70, 71]) (fs := []) Fr.rf eG_6 (Or.inl (by decide))) eG_11 (Or.inl (by decide))) eG_15 (Or.inl (by decide))), (rw_put eG_15 (by decide)).trans ((rw_put eG_11 (by decide)).trans (rw_ast eG_6)), (rw_put eG_15 (by decide)).trans ((rw_ast eG_11).trans (congrArg (fun q => upd q (y_10.toNatClampNeg) p1) (rw_put eG_6 (by decide)))), (rw_ast eG_15).trans (congrArg (fun q => upd q ((G.1 66 19).toNatClampNeg) y_14) ((rw_put eG_11 (by decide)).trans (rw_put eG_6 (by decide))))⟩⟩⟩⟩⟩⟩⟩⟩⟩⟩), wd_t ht hW⟩, hS.F ht⟩) hS.2.2 dX12_add_61

set_option maxHeartbeats 4000000 in
set_option maxRecDepth 100000 in
theorem n_close (l : Launch) (D : va_G) (k : KT) (A : Nat → Prop) (a : Nat → Nat) (z : SK) (G : GS) (p0 : Int32) (hcl : gC G = 1 ∧ gD G = gB G + 1 ∧ (G.1 66 24).toInt = (G.1 66 20).toInt - gB G ∧ gM G + (G.1 66 20).toInt ≤ 310 ∧ gD G ≤ 40) : Met l yX12_close (WS yX12_close cX12_close 2 none) ({ frames := 1, cells := 0, slots := 0, locals := 22 }) (va_Pc [.ref (a 66), .int p0] (cW D k A a z G)) (va_Qv (fun (G1 : GS) => Q_close p0 G G1) (fun (G1 : GS) t => Wd D k A a G1 t.heap) A) 0 0 A := by
  refine Met.ofW (cc := cX12_close) (maxL := 2) (ret := none) (by decide) rfl ?_
  intro p e s m args below meth c s₁ B hml hv
  obtain ⟨rfl, hW, hB_G, hK, hZ⟩ := hv
  have hx := B.exec
  have hb := B.bytes
  have hr := B.returns
  have hts := atoms_spec (ws := WS yX12_close cX12_close 2 none) B.pre
  have hgd : ∀ w ∈ gd, w ∈ WS yX12_close cX12_close 2 none := fun w h => List.mem_cons_of_mem _ h
  have hg : ∀ w ∈ gd, w.before _ s = true := fun w h => hts w (hgd w h)
  have hown : s.vm.findClass RX12 = some m.cls := findClass_of_methodNamed B.named
  have hS : va_S A s.heap s.heap [] := va_S.rf
  have hF : Fr [69, 70, 71] [(66, 20), (66, 24)] G G := Fr.rf
  have hl := lv_entry ([.ref (a 66), .int p0]) (n := 2) (Nat.le_of_ble_eq_true rfl)
  rw [lg_entry_eq]
  generalize (lg_sl ([.ref (a 66), .int p0]) ++ List.replicate (2 - (lg_sl ([.ref (a 66), .int p0])).length) Slot.unset).toArray = ls at hl ⊢
  have hl : lv_has ls 2 [(0, .ref (a 66)), (1, .int p0)] := hl
  have b_6 : 0 ≤ (G.1 66 20).toInt ∧ (G.1 66 20).toInt ≤ 160 := bd_66_20 hB_G
  have b_7 : (-1) ≤ (G.1 66 24).toInt ∧ (G.1 66 24).toInt ≤ 200 := bd_66_24 hB_G
  refine loop_N (Inv := fun n H locs ls => ∃ (G_1 : GS), (n : Int) = (G_1.1 66 20).toInt ∧ (gC G_1 = 1) ∧ (gD G_1 = gB G_1 + 1) ∧ ((G_1.1 66 24).toInt = (G_1.1 66 20).toInt - gB G_1) ∧ (gM G_1 + (G_1.1 66 20).toInt = gM G + (G.1 66 20).toInt) ∧ (gK G_1 = gK G) ∧ ((G_1.1 66 20).toInt ≤ (G.1 66 20).toInt) ∧ (gD G_1 ≤ gD G) ∧ ((G_1.1 66 24).toInt ≤ (G.1 66 24).toInt) ∧ Rc (St_n_close_1 p0 G) G G_1 ∧ Wd D k A a G_1 H ∧ Bd G_1 ∧ Fr [69, 70, 71] [(66, 20), (66, 24)] G G_1 ∧ Fr [69, 70, 71] [(66, 20), (66, 24)] G G_1 ∧ va_S A s.heap H locs ∧ lv_has ls 2 [(0, .ref (a 66)), (1, .int p0)]) (fun n_4 H locs ls ih_3 hI => ?_) ((G.1 66 20).toInt : Int).toNat ⟨G, (Int.toNat_of_nonneg (by omega)), (by omega), (by omega), (by omega), (by omega), ((by first | (clear hcl b_6 b_7; omega) | omega)), (by omega), (by omega), (by omega), Rc.rf, hW, hB_G, hF, Fr.rf, hS, lv_sub hl [0, 1] rfl⟩
  obtain ⟨G_1, hn_16, f_8, f_9, f_10, f_11, f_12, f_13, f_14, f_15, hX_5, hW, hB_G_1, hF, hq_2, hS, hl⟩ := hI
  have b_17 : 0 ≤ (G_1.1 66 20).toInt ∧ (G_1.1 66 20).toInt ≤ 160 := bd_66_20 hB_G_1
  have b_18 : (-1) ≤ (G_1.1 66 24).toInt ∧ (G_1.1 66 24).toInt ≤ 200 := bd_66_24 hB_G_1
  have u_19 := gh_pos (G := G_1) (by omega)
  refine lv_aload_n hx hb dX12_close_0 rfl (lv_at hl 0 rfl) ?_
  refine S_getI (v := (G_1.1 66 20)) (C := RX12) (T := TX12) (N := 89) hx hb hg iX12 hown hK hW kd_66 rfl 20 (lt_b rfl) (hg (Cond.fieldLink RX12 299 "SlabWalkModel" "opens" "I") m1334) (fun _ h9 => h9) rfl rfl dX12_close_1 ?_
  refine lv_if_le (tgt := 101) hx hb dX12_close_4 rfl (fun c_20 => ?_) (fun c_20 => ?_)
  · have c_20 : (G_1.1 66 20).toInt ≤ 0 := xI_le rfl rfl c_20
    exact W.vret hx hb hr (fun t ht _ => ⟨⟨G_1, rfl, (Q_close_mk ⟨hB_G_1, hF, ((by first | exact ⟨((by first | (clear hcl b_6 b_7 hn_16 f_9 f_10 f_11 f_12 f_13 f_14 f_15 b_17 b_18 c_20; omega) | omega)), ⟨((by first | (clear hn_16 f_8 f_12; omega) | omega)), ⟨((by first | (clear hn_16 f_8 f_12; omega) | omega)), ⟨((by first | (clear hn_16 f_8 f_12; omega) | omega)), ⟨((by first | (clear hcl b_6 b_7 hn_16 f_8 f_9 f_10 f_11 f_13 f_14 f_15 b_17 b_18 c_20; omega) | omega)), ⟨((by first | (clear hn_16 f_8 f_12; omega) | omega)), ⟨((by first | (clear hn_16 f_8 f_12; omega) | omega)), ⟨((by first | (clear hn_16 f_8 f_12; omega) | omega)), ((by first | (clear hn_16 f_8 f_12; omega) | omega))⟩⟩⟩⟩⟩⟩⟩⟩ | omega)), ⟨G_1, hX_5, f_8, f_9, f_10, f_11, f_12, f_13, f_14, f_15, hB_G_1, hq_2, (Or.inl ⟨c_20, rfl⟩)⟩⟩), wd_t ht hW⟩, hS.F ht⟩) hS.2.2 dX12_close_101
  · have c_20 : 0 < (G_1.1 66 20).toInt := xI_nle rfl rfl c_20
    refine lv_aload_n hx hb dX12_close_7 rfl (lv_at hl 0 rfl) ?_
    refine S_getR (n := 75) (C := RX12) (T := TX12) (N := 89) hx hb hg iX12 hown hK hW kd_66 rfl 17 (lt_b rfl) (hg (Cond.fieldLink RX12 39 "SlabWalkModel" "open" "[I") m1331) (fun _ h9 => h9) rfl dX12_close_8 ?_
    refine lv_aload_n hx hb dX12_close_11 rfl (lv_at hl 0 rfl) ?_
    refine S_getI (v := (G_1.1 66 20)) (C := RX12) (T := TX12) (N := 89) hx hb hg iX12 hown hK hW kd_66 rfl 20 (lt_b rfl) (hg (Cond.fieldLink RX12 299 "SlabWalkModel" "opens" "I") m1334) (fun _ h9 => h9) rfl rfl dX12_close_12 ?_
    refine ic_1 hx hb dX12_close_15 ?_
    refine lv_isub hx hb dX12_close_16 ?_
    refine lv_topi (fun y_21 ey_21 => ?_)
    have ty_21 : y_21.toInt = (G_1.1 66 20).toInt - 1 := xI_sub rfl rfl ey_21 ((by first | (clear hn_16 f_8 f_12; omega) | omega)) ((by first | (clear hn_16 f_8 f_12; omega) | omega))
    refine S_iald hx hb hK hW kd_75 (vin ((by first | (clear hn_16 f_8 f_12; omega) | omega)) ((by first | (clear hn_16 f_8 f_12; omega) | omega))) dX12_close_17 (fun y_22 ey_22 => ?_)
    have u_23 := gT_at ey_22 (by omega) (by omega)
    refine lv_bipush (v := 20) hx hb dX12_close_18 (by decide) ?_
    refine lv_icmp_eq (tgt := 101) hx hb dX12_close_20 rfl (fun c_24 => ?_) (fun c_24 => ?_)
    · have c_24 : y_22.toInt = 20 := xI_eq rfl rfl c_24
      exact W.vret hx hb hr (fun t ht _ => ⟨⟨G_1, rfl, (Q_close_mk ⟨hB_G_1, hF, ((by first | exact ⟨((by first | (clear hcl b_6 b_7 hn_16 f_9 f_10 f_11 f_12 f_13 f_14 f_15 b_17 b_18 c_20 ty_21 c_24; omega) | omega)), ⟨((by first | (clear hn_16 f_8 f_12 c_24; omega) | omega)), ⟨((by first | (clear hn_16 f_8 f_12 c_24; omega) | omega)), ⟨((by first | (clear hn_16 f_8 f_12 c_24; omega) | omega)), ⟨((by first | (clear hcl b_6 b_7 hn_16 f_8 f_9 f_10 f_11 f_13 f_14 f_15 b_17 b_18 c_20 ty_21 c_24; omega) | omega)), ⟨((by first | (clear hn_16 f_8 f_12 c_24; omega) | omega)), ⟨((by first | (clear hn_16 f_8 f_12 c_24; omega) | omega)), ⟨((by first | (clear hn_16 f_8 f_12 c_24; omega) | omega)), ((by first | (clear hn_16 f_8 f_12 c_24; omega) | omega))⟩⟩⟩⟩⟩⟩⟩⟩ | omega)), ⟨G_1, hX_5, f_8, f_9, f_10, f_11, f_12, f_13, f_14, f_15, hB_G_1, hq_2, (Or.inr ⟨c_20, ⟨y_21, ty_21, ⟨y_22, ey_22, (Or.inl ⟨c_24, rfl⟩)⟩⟩⟩)⟩⟩), wd_t ht hW⟩, hS.F ht⟩) hS.2.2 dX12_close_101
    · have c_24 : y_22.toInt ≠ 20 := xI_ne rfl rfl c_24
      refine lv_aload_n hx hb dX12_close_23 rfl (lv_at hl 0 rfl) ?_
      refine S_getR (n := 75) (C := RX12) (T := TX12) (N := 89) hx hb hg iX12 hown hK hW kd_66 rfl 17 (lt_b rfl) (hg (Cond.fieldLink RX12 39 "SlabWalkModel" "open" "[I") m1331) (fun _ h9 => h9) rfl dX12_close_24 ?_
      refine lv_aload_n hx hb dX12_close_27 rfl (lv_at hl 0 rfl) ?_
      refine S_getI (v := (G_1.1 66 20)) (C := RX12) (T := TX12) (N := 89) hx hb hg iX12 hown hK hW kd_66 rfl 20 (lt_b rfl) (hg (Cond.fieldLink RX12 299 "SlabWalkModel" "opens" "I") m1334) (fun _ h9 => h9) rfl rfl dX12_close_28 ?_
      refine ic_1 hx hb dX12_close_31 ?_
      refine lv_isub hx hb dX12_close_32 ?_
      refine lv_topi (fun y_25 ey_25 => ?_)
      have ty_25 : y_25.toInt = (G_1.1 66 20).toInt - 1 := xI_sub rfl rfl ey_25 ((by first | (clear hn_16 f_8 f_12 c_24; omega) | omega)) ((by first | (clear hn_16 f_8 f_12 c_24; omega) | omega))
      refine S_iald hx hb hK hW kd_75 (vin ((by first | (clear hn_16 f_8 f_12 c_24; omega) | omega)) ((by first | (clear hn_16 f_8 f_12 c_24; omega) | omega))) dX12_close_33 (fun y_26 ey_26 => ?_)
      have u_27 := gT_at ey_26 (by omega) (by omega)
      refine S_calli (va_runS (As := [.int y_26]) (rest := []) ⟨hx, hb, hml, hown, hts⟩ (n_tight l D k A a z G_1 y_26 ) (va_cwS 1 hts (gd_S hgd m1722 m1723 m131 m1724) rfl rfl rfl hd_X12_tight.2 ⟨Nat.le_of_ble_eq_true rfl, Nat.le_of_ble_eq_true rfl⟩) (pre_S hW hB_G_1 hK hZ hS) rfl rfl hl.1 rfl (lv_room (Nat.le_of_ble_eq_true rfl)) dX12_close_34 ⟨Nat.le_of_ble_eq_true rfl, Nat.le_of_ble_eq_true rfl⟩) hS (fun r_28 G_29 H locs hpo hW hS => ?_)
      have hX_32 : Q_tight y_26 G_1 r_28 G_29 := hpo
      obtain ⟨hB_G_29, hq_30, f_33, -⟩ := hpo
      have hF := hF.call9 hq_30 rfl rfl
      refine lv_iload_n hx hb dX12_close_37 rfl (lv_at hl 1 rfl) ?_
      refine lv_icmp_lt (tgt := 101) hx hb dX12_close_38 rfl (fun c_34 => ?_) (fun c_34 => ?_)
      · have c_34 : r_28.toInt < p0.toInt := xI_lt rfl rfl c_34
        have fr_35 : Fr [] [] G_1 G_29 := (Fr.call9 (rs := []) (fs := []) Fr.rf hq_30 rfl rfl)
        have g_36 : gB G_29 = gB G_1 := gB_fr fr_35 (gr_q rfl) (gf_q rfl)
        have g_37 : gC G_29 = gC G_1 := gC_fr fr_35 (gr_q rfl) (gf_q rfl)
        have g_38 : gD G_29 = gD G_1 := gD_fr fr_35 (gr_q rfl) (gf_q rfl)
        have g_39 : gK G_29 = gK G_1 := gK_fr fr_35 (gr_q rfl) (gf_q rfl)
        have g_40 : gM G_29 = gM G_1 := gM_fr fr_35 (gr_q rfl) (gf_q rfl)
        have g_41 : gT G_29 = gT G_1 := gT_fr fr_35 (gr_q rfl) (gf_q rfl)
        have g_42 : (G_29.1 66 20).toInt = (G_1.1 66 20).toInt := (congrArg Int32.toInt (show G_29.1 66 20 = (G_1.1 66 20) from ((hq_30.i9 66 20 rfl rfl).trans (rfl))))
        have g_43 : (G_29.1 66 24).toInt = (G_1.1 66 24).toInt := (congrArg Int32.toInt (show G_29.1 66 24 = (G_1.1 66 24) from ((hq_30.i9 66 24 rfl rfl).trans (rfl))))
        exact W.vret hx hb hr (fun t ht _ => ⟨⟨G_29, rfl, (Q_close_mk ⟨hB_G_29, hF, ((by first | exact ⟨((by first | (clear hcl b_6 b_7 hn_16 f_9 f_10 f_11 f_12 f_13 f_14 f_15 b_17 b_18 c_20 ty_21 c_24 ty_25 f_33 c_34 g_36 g_38 g_39 g_40 g_41 g_42 g_43; omega) | omega)), ⟨((by first | (clear hn_16 f_8 f_12 c_24 f_33 c_34 g_37 g_39 g_41; omega) | omega)), ⟨((by first | (clear hn_16 f_8 f_12 c_24 f_33 c_34 g_37 g_39 g_41; omega) | omega)), ⟨((by first | (clear hn_16 f_8 f_12 c_24 f_33 c_34 g_37 g_39 g_41; omega) | omega)), ⟨((by first | (clear hcl b_6 b_7 hn_16 f_8 f_9 f_10 f_11 f_13 f_14 f_15 b_17 b_18 c_20 ty_21 c_24 ty_25 f_33 c_34 g_36 g_37 g_38 g_40 g_41 g_42 g_43; omega) | omega)), ⟨((by first | (clear hn_16 f_8 f_12 c_24 f_33 c_34 g_37 g_39 g_41; omega) | omega)), ⟨((by first | (clear hn_16 f_8 f_12 c_24 f_33 c_34 g_37 g_39 g_41; omega) | omega)), ⟨((by first | (clear hn_16 f_8 f_12 c_24 f_33 c_34 g_37 g_39 g_41; omega) | omega)), ((by first | (clear hn_16 f_8 f_12 c_24 g_37 g_39; omega) | omega))⟩⟩⟩⟩⟩⟩⟩⟩ | omega)), ⟨G_1, hX_5, f_8, f_9, f_10, f_11, f_12, f_13, f_14, f_15, hB_G_1, hq_2, (Or.inr ⟨c_20, ⟨y_21, ty_21, ⟨y_22, ey_22, (Or.inr ⟨c_24, ⟨y_25, ty_25, ⟨y_26, ey_26, ⟨r_28, G_29, hX_32, ⟨c_34, rfl⟩⟩⟩⟩⟩)⟩⟩⟩)⟩⟩), wd_t ht hW⟩, hS.F ht⟩) hS.2.2 dX12_close_101
      · have c_34 : p0.toInt ≤ r_28.toInt := xI_nlt rfl rfl c_34
        have fr_44 : Fr [] [] G_1 G_29 := (Fr.call9 (rs := []) (fs := []) Fr.rf hq_30 rfl rfl)
        have g_45 : gB G_29 = gB G_1 := gB_fr fr_44 (gr_q rfl) (gf_q rfl)
        have g_46 : gC G_29 = gC G_1 := gC_fr fr_44 (gr_q rfl) (gf_q rfl)
        have g_47 : gD G_29 = gD G_1 := gD_fr fr_44 (gr_q rfl) (gf_q rfl)
        have g_48 : gK G_29 = gK G_1 := gK_fr fr_44 (gr_q rfl) (gf_q rfl)
        have g_49 : gM G_29 = gM G_1 := gM_fr fr_44 (gr_q rfl) (gf_q rfl)
        have g_50 : gT G_29 = gT G_1 := gT_fr fr_44 (gr_q rfl) (gf_q rfl)
        have g_51 : (G_29.1 66 20).toInt = (G_1.1 66 20).toInt := (congrArg Int32.toInt (show G_29.1 66 20 = (G_1.1 66 20) from ((hq_30.i9 66 20 rfl rfl).trans (rfl))))
        refine lv_aload_n hx hb dX12_close_41 rfl (lv_at hl 0 rfl) ?_
        refine lv_dup hx hb dX12_close_42 rfl ?_
        refine S_getI (v := (G_1.1 66 20)) (C := RX12) (T := TX12) (N := 89) hx hb hg iX12 hown hK hW kd_66 rfl 20 (lt_b rfl) (hg (Cond.fieldLink RX12 299 "SlabWalkModel" "opens" "I") m1334) (fun _ h9 => h9) rfl ((hq_30.i9 66 20 rfl rfl).trans (rfl)) dX12_close_43 ?_
        refine ic_1 hx hb dX12_close_46 ?_
        refine lv_isub hx hb dX12_close_47 ?_
        refine lv_topi (fun y_52 ey_52 => ?_)
        have ty_52 : y_52.toInt = (G_1.1 66 20).toInt - 1 := xI_sub rfl rfl ey_52 ((by first | (clear hn_16 f_8 f_12 c_24 f_33 c_34 g_46 g_48 g_50; omega) | omega)) ((by first | (clear hn_16 f_8 f_12 c_24 f_33 c_34 g_46 g_48 g_50; omega) | omega))
        refine S_putI (ty := .int) (C := RX12) (T := TX12) (N := 89) hx hb hg iX12 tyX12 tyX12_ok nmX12 hown hK hW hS kd_66 rfl 20 (lt_b rfl) (hg (Cond.fieldLink RX12 299 "SlabWalkModel" "opens" "I") m1334) (fun _ h9 => h9) rfl (by decide +kernel) rfl rfl rfl dX12_close_48 (fun G_53 H locs eG_53 hW hS => ?_)
        have hB_G_53 : Bd G_53 := hB_G_29.put (V := y_52.toInt) (lo := 0) (hi := 160) eG_53 rfl rfl rfl ((by first | (clear hn_16 f_8 f_12 c_24 f_33 c_34 g_46 g_48 g_50; omega) | omega)) ((by first | (clear hn_16 f_8 f_12 c_24 f_33 c_34 g_46 g_48 g_50; omega) | omega)) (hB_G_29.2.put eG_53 rfl)
        have hF := hF.put eG_53 (Or.inr (by decide))
        refine lv_aload_n hx hb dX12_close_51 rfl (lv_at hl 0 rfl) ?_
        refine S_getR (n := 75) (C := RX12) (T := TX12) (N := 89) hx hb hg iX12 hown hK hW kd_66 rfl 17 (lt_b rfl) (hg (Cond.fieldLink RX12 39 "SlabWalkModel" "open" "[I") m1331) (fun _ h9 => h9) rfl dX12_close_52 ?_
        refine lv_aload_n hx hb dX12_close_55 rfl (lv_at hl 0 rfl) ?_
        refine S_getI (v := y_52) (C := RX12) (T := TX12) (N := 89) hx hb hg iX12 hown hK hW kd_66 rfl 20 (lt_b rfl) (hg (Cond.fieldLink RX12 299 "SlabWalkModel" "opens" "I") m1334) (fun _ h9 => h9) rfl (gp_eq eG_53) dX12_close_56 ?_
        refine S_iald hx hb hK hW kd_75 (vin ((by first | (clear hn_16 f_8 f_12 c_24 f_33 c_34 g_46 g_48 g_50; omega) | omega)) ((by first | (clear hn_16 f_8 f_12 c_24 f_33 c_34 g_46 g_48 g_50; omega) | omega))) dX12_close_59 (fun y_54 ey_54 => ?_)
        have u_55 := gT_at2 eG_53 ey_54 (by omega) (by omega)
        have u_56 := gh_pop eG_53 (by omega) (by omega)
        have g_57 : (G_53.1 66 20).toInt = y_52.toInt := (congrArg Int32.toInt (show G_53.1 66 20 = y_52 from (gp_eq eG_53)))
        have u_58 := gh_pos (G := G_53) (by omega)
        refine lv_bipush (v := 21) hx hb dX12_close_60 (by decide) ?_
        refine lv_icmp_ne (tgt := 84) hx hb dX12_close_62 rfl (fun c_59 => ?_) (fun c_59 => ?_)
        · have c_59 : y_54.toInt ≠ 21 := xI_ne rfl rfl c_59
          refine lv_aload_n hx hb dX12_close_84 rfl (lv_at hl 0 rfl) ?_
          refine ic_3 hx hb dX12_close_85 ?_
          refine lv_aload_n hx hb dX12_close_86 rfl (lv_at hl 0 rfl) ?_
          refine S_getR (n := 75) (C := RX12) (T := TX12) (N := 89) hx hb hg iX12 hown hK hW kd_66 rfl 17 (lt_b rfl) (hg (Cond.fieldLink RX12 39 "SlabWalkModel" "open" "[I") m1331) (fun _ h9 => h9) rfl dX12_close_87 ?_
          refine lv_aload_n hx hb dX12_close_90 rfl (lv_at hl 0 rfl) ?_
          refine S_getI (v := y_52) (C := RX12) (T := TX12) (N := 89) hx hb hg iX12 hown hK hW kd_66 rfl 20 (lt_b rfl) (hg (Cond.fieldLink RX12 299 "SlabWalkModel" "opens" "I") m1334) (fun _ h9 => h9) rfl (gp_eq eG_53) dX12_close_91 ?_
          refine S_iald hx hb hK hW kd_75 (vin ((by first | (clear hn_16 f_8 f_12 c_24 f_33 c_34 g_46 g_48 g_50 c_59; omega) | omega)) ((by first | (clear hn_16 f_8 f_12 c_24 f_33 c_34 g_46 g_48 g_50 c_59; omega) | omega))) dX12_close_94 (fun y_60 ey_60 => ?_)
          have fr_61 : Fr [] [(66, 20)] G_1 G_53 := (Fr.put (rs := []) (fs := [(66, 20)]) (Fr.call9 (rs := []) (fs := [(66, 20)]) Fr.rf hq_30 rfl rfl) eG_53 (Or.inr (by decide)))
          have g_62 : gM G_53 = gM G_1 := gM_fr fr_61 (gr_q rfl) (gf_q rfl)
          have qc_63 : (3 : Int32).toInt = 3 := rfl
          have g_64 : gC G_53 = gC G_1 := gC_fr fr_61 (gr_q rfl) (gf_q rfl)
          have g_65 : gD G_53 = gD G_1 := gD_fr fr_61 (gr_q rfl) (gf_q rfl)
          refine S_callv (va_runV (As := [.int 3, .int y_60]) (rest := []) ⟨hx, hb, hml, hown, hts⟩ (n_add l D k A a z G_53 3 y_60 ⟨by decide, by decide⟩ ((by first | (clear hn_16 f_8 f_12 c_24 f_33 c_34 g_46 g_48 g_50 c_59 g_64; omega) | omega))) (cwV 2 hts (gd_V hgd m1741 m1743 m76 m131 m1744) rfl rfl rfl hd_X12_add ⟨Nat.le_of_ble_eq_true rfl, Nat.le_of_ble_eq_true rfl⟩) (pre_W hW hB_G_53 hK hZ hS kd_66 rfl) rfl rfl hl.1 rfl (lv_room (Nat.le_of_ble_eq_true rfl)) dX12_close_95 ⟨Nat.le_of_ble_eq_true rfl, Nat.le_of_ble_eq_true rfl⟩) hS (fun G_67 H locs hpo hW hS => ?_)
          have hX_70 : Q_add 3 y_60 G_53 G_67 := hpo
          obtain ⟨hB_G_67, hq_68, ⟨d_1, d_2, d_3, d_4, d_5⟩, -⟩ := hpo
          have hF := hF.call9 hq_68 rfl rfl
          refine lv_goto (tgt := 0) hx hb dX12_close_98 rfl ?_
          have g_71 : (G_67.1 66 20).toInt = y_52.toInt := (congrArg Int32.toInt (show G_67.1 66 20 = y_52 from ((hq_68.i9 66 20 rfl rfl).trans (gp_eq eG_53))))
          have fr_72 : Fr [69, 70, 71] [] G_53 G_67 := (Fr.call9 (rs := [69, 70, 71]) (fs := []) Fr.rf hq_68 rfl rfl)
          have g_73 : gB G_67 = gB G_53 := gB_fr fr_72 (gr_q rfl) (gf_q rfl)
          have g_74 : (G_67.1 66 20).toInt = y_52.toInt := (congrArg Int32.toInt (show G_67.1 66 20 = y_52 from ((hq_68.i9 66 20 rfl rfl).trans (gp_eq eG_53))))
          have g_75 : (G_67.1 66 24).toInt = (G_1.1 66 24).toInt := (congrArg Int32.toInt (show G_67.1 66 24 = (G_1.1 66 24) from ((hq_68.i9 66 24 rfl rfl).trans ((gp_ne eG_53 (by decide)).trans ((hq_30.i9 66 24 rfl rfl).trans (rfl))))))
          have g_76 : (G_67.1 66 20).toInt = y_52.toInt := (congrArg Int32.toInt (show G_67.1 66 20 = y_52 from ((hq_68.i9 66 20 rfl rfl).trans (gp_eq eG_53))))
          have g_77 : gK G_67 = gK G_53 := gK_fr fr_72 (gr_q rfl) (gf_q rfl)
          have g_78 : (G_67.1 66 20).toInt = y_52.toInt := (congrArg Int32.toInt (show G_67.1 66 20 = y_52 from ((hq_68.i9 66 20 rfl rfl).trans (gp_eq eG_53))))
          have g_79 : (G_67.1 66 24).toInt = (G_1.1 66 24).toInt := (congrArg Int32.toInt (show G_67.1 66 24 = (G_1.1 66 24) from ((hq_68.i9 66 24 rfl rfl).trans ((gp_ne eG_53 (by decide)).trans ((hq_30.i9 66 24 rfl rfl).trans (rfl))))))
          exact ih_3 ((G_67.1 66 20).toInt : Int).toNat ((by first | (clear f_12 c_24 f_33 c_34 g_48 g_50 c_59 g_73 g_77; omega) | omega)) _ _ _ ⟨G_67, (Int.toNat_of_nonneg ((by first | (clear hn_16 f_12 c_24 f_33 c_34 g_48 g_50 c_59 g_73 g_77; omega) | omega))), ((by first | (clear b_7 hn_16 f_12 c_24 f_33 c_34 g_48 g_50 c_59 g_73 g_77; omega) | omega)), ((by first | (clear b_7 hn_16 f_12 c_24 f_33 c_34 g_48 g_50 c_59 g_77; omega) | omega)), ((by first | (clear hn_16 f_12 c_24 f_33 c_34 g_48 g_50 c_59 g_77; omega) | omega)), ((by first | (clear hn_16 f_12 c_24 f_33 c_34 g_48 g_50 c_59 g_73 g_77; omega) | omega)), ((by first | (clear hcl b_6 b_7 hn_16 f_8 f_9 f_10 f_11 f_13 f_14 f_15 b_17 b_18 c_20 ty_21 c_24 ty_25 f_33 c_34 g_45 g_46 g_47 g_49 g_50 g_51 ty_52 g_57 c_59 g_62 g_64 g_65 d_1 d_2 d_3 d_4 d_5 g_71 g_73 g_74 g_75 g_76 g_78 g_79; omega) | omega)), ((by first | (clear hn_16 f_12 c_24 f_33 c_34 g_48 g_50 c_59 g_73 g_77; omega) | omega)), ((by first | (clear hn_16 f_12 c_24 f_33 c_34 g_48 g_50 c_59 g_73 g_77; omega) | omega)), ((by first | (clear hn_16 f_12 c_24 f_33 c_34 g_48 g_50 c_59 g_73 g_77; omega) | omega)), (hX_5.st (St_n_close_1_mk ⟨G_1, G_67, rfl, rfl, f_8, f_9, f_10, f_11, f_12, f_13, f_14, f_15, hB_G_1, ⟨c_20, ⟨y_21, ty_21, ⟨y_22, ey_22, ⟨c_24, ⟨y_25, ty_25, ⟨y_26, ey_26, ⟨r_28, G_29, hX_32, ⟨c_34, ⟨y_52, ty_52, ⟨y_54, ey_54.trans (congrFun (rw_put eG_53 (by decide)) _), (Or.inr ⟨c_59, ⟨y_60, ey_60.trans (congrFun (rw_put eG_53 (by decide)) _), ⟨G_53, hB_G_53, (Fr.put (rs := []) (fs := [(66, 20)]) Fr.rf eG_53 (Or.inr (by decide))), (gp_eq eG_53), ⟨G_67, hX_70, rfl⟩⟩⟩⟩)⟩⟩⟩⟩⟩⟩⟩⟩⟩⟩⟩)), hW, hB_G_67, hF, (Fr.call9 (rs := [69, 70, 71]) (fs := [(66, 20), (66, 24)]) (Fr.put (rs := [69, 70, 71]) (fs := [(66, 20), (66, 24)]) (Fr.call9 (rs := [69, 70, 71]) (fs := [(66, 20), (66, 24)]) (Fr.call9 (rs := [69, 70, 71]) (fs := [(66, 20), (66, 24)]) Fr.rf hq_2 rfl rfl) hq_30 rfl rfl) eG_53 (Or.inr (by decide))) hq_68 rfl rfl), hS, lv_sub hl [0, 1] rfl⟩
        · have c_59 : y_54.toInt = 21 := xI_eq rfl rfl c_59
          refine lv_aload_n hx hb dX12_close_65 rfl (lv_at hl 0 rfl) ?_
          refine ic_2 hx hb dX12_close_66 ?_
          refine ic_0 hx hb dX12_close_67 ?_
          have fr_80 : Fr [] [(66, 20)] G_1 G_53 := (Fr.put (rs := []) (fs := [(66, 20)]) (Fr.call9 (rs := []) (fs := [(66, 20)]) Fr.rf hq_30 rfl rfl) eG_53 (Or.inr (by decide)))
          have g_81 : gM G_53 = gM G_1 := gM_fr fr_80 (gr_q rfl) (gf_q rfl)
          have qc_82 : (2 : Int32).toInt = 2 := rfl
          have qc_83 : (0 : Int32).toInt = 0 := rfl
          have g_84 : gC G_53 = gC G_1 := gC_fr fr_80 (gr_q rfl) (gf_q rfl)
          have g_85 : gD G_53 = gD G_1 := gD_fr fr_80 (gr_q rfl) (gf_q rfl)
          refine S_callv (va_runV (As := [.int 2, .int 0]) (rest := []) ⟨hx, hb, hml, hown, hts⟩ (n_add l D k A a z G_53 2 0 ⟨by decide, by decide⟩ ((by first | (clear hn_16 f_8 f_12 c_24 f_33 c_34 g_46 g_48 g_50 c_59 g_84; omega) | omega))) (cwV 2 hts (gd_V hgd m1741 m1743 m76 m131 m1744) rfl rfl rfl hd_X12_add ⟨Nat.le_of_ble_eq_true rfl, Nat.le_of_ble_eq_true rfl⟩) (pre_W hW hB_G_53 hK hZ hS kd_66 rfl) rfl rfl hl.1 rfl (lv_room (Nat.le_of_ble_eq_true rfl)) dX12_close_68 ⟨Nat.le_of_ble_eq_true rfl, Nat.le_of_ble_eq_true rfl⟩) hS (fun G_87 H locs hpo hW hS => ?_)
          have hX_90 : Q_add 2 0 G_53 G_87 := hpo
          obtain ⟨hB_G_87, hq_88, ⟨d_6, d_7, d_8, d_9, d_10⟩, -⟩ := hpo
          have hF := hF.call9 hq_88 rfl rfl
          refine lv_aload_n hx hb dX12_close_71 rfl (lv_at hl 0 rfl) ?_
          refine lv_dup hx hb dX12_close_72 rfl ?_
          refine S_getI (v := (G_1.1 66 24)) (C := RX12) (T := TX12) (N := 89) hx hb hg iX12 hown hK hW kd_66 rfl 24 (lt_b rfl) (hg (Cond.fieldLink RX12 309 "SlabWalkModel" "deep" "I") m1338) (fun _ h9 => h9) rfl ((hq_88.i9 66 24 rfl rfl).trans ((gp_ne eG_53 (by decide)).trans ((hq_30.i9 66 24 rfl rfl).trans (rfl)))) dX12_close_73 ?_
          refine ic_1 hx hb dX12_close_76 ?_
          refine lv_isub hx hb dX12_close_77 ?_
          refine lv_topi (fun y_91 ey_91 => ?_)
          have ty_91 : y_91.toInt = (G_1.1 66 24).toInt - 1 := xI_sub rfl rfl ey_91 ((by first | (clear hn_16 f_12 c_24 f_33 c_34 g_48 g_50 c_59; omega) | omega)) ((by first | (clear hn_16 f_12 c_24 f_33 c_34 g_48 g_50 c_59; omega) | omega))
          refine S_putI (ty := .int) (C := RX12) (T := TX12) (N := 89) hx hb hg iX12 tyX12 tyX12_ok nmX12 hown hK hW hS kd_66 rfl 24 (lt_b rfl) (hg (Cond.fieldLink RX12 309 "SlabWalkModel" "deep" "I") m1338) (fun _ h9 => h9) rfl (by decide +kernel) rfl rfl rfl dX12_close_78 (fun G_92 H locs eG_92 hW hS => ?_)
          have hB_G_92 : Bd G_92 := hB_G_87.put (V := y_91.toInt) (lo := (-1)) (hi := 200) eG_92 rfl rfl rfl ((by first | (clear hn_16 f_12 c_24 f_33 c_34 g_48 g_50 c_59; omega) | omega)) ((by first | (clear hn_16 f_12 c_24 f_33 c_34 g_48 g_50 c_59; omega) | omega)) (hB_G_87.2.put eG_92 rfl)
          have hF := hF.put eG_92 (Or.inr (by decide))
          refine lv_goto (tgt := 0) hx hb dX12_close_81 rfl ?_
          have g_93 : (G_92.1 66 20).toInt = y_52.toInt := (congrArg Int32.toInt (show G_92.1 66 20 = y_52 from ((gp_ne eG_92 (by decide)).trans ((hq_88.i9 66 20 rfl rfl).trans (gp_eq eG_53)))))
          have fr_94 : Fr [] [(66, 24)] G_87 G_92 := (Fr.put (rs := []) (fs := [(66, 24)]) Fr.rf eG_92 (Or.inr (by decide)))
          have g_95 : gC G_92 = gC G_87 := gC_fr fr_94 (gr_q rfl) (gf_q rfl)
          have fr_96 : Fr [69, 70, 71] [(66, 24)] G_53 G_92 := (Fr.put (rs := [69, 70, 71]) (fs := [(66, 24)]) (Fr.call9 (rs := [69, 70, 71]) (fs := [(66, 24)]) Fr.rf hq_88 rfl rfl) eG_92 (Or.inr (by decide)))
          have g_97 : gB G_92 = gB G_53 := gB_fr fr_96 (gr_q rfl) (gf_q rfl)
          have g_98 : gD G_92 = gD G_87 := gD_fr fr_94 (gr_q rfl) (gf_q rfl)
          have g_99 : (G_92.1 66 20).toInt = y_52.toInt := (congrArg Int32.toInt (show G_92.1 66 20 = y_52 from ((gp_ne eG_92 (by decide)).trans ((hq_88.i9 66 20 rfl rfl).trans (gp_eq eG_53)))))
          have g_100 : (G_92.1 66 24).toInt = y_91.toInt := (congrArg Int32.toInt (show G_92.1 66 24 = y_91 from (gp_eq eG_92)))
          have g_101 : gM G_92 = gM G_87 := gM_fr fr_94 (gr_q rfl) (gf_q rfl)
          have g_102 : (G_92.1 66 20).toInt = y_52.toInt := (congrArg Int32.toInt (show G_92.1 66 20 = y_52 from ((gp_ne eG_92 (by decide)).trans ((hq_88.i9 66 20 rfl rfl).trans (gp_eq eG_53)))))
          have g_103 : gK G_92 = gK G_53 := gK_fr fr_96 (gr_q rfl) (gf_q rfl)
          have g_104 : (G_92.1 66 20).toInt = y_52.toInt := (congrArg Int32.toInt (show G_92.1 66 20 = y_52 from ((gp_ne eG_92 (by decide)).trans ((hq_88.i9 66 20 rfl rfl).trans (gp_eq eG_53)))))
          have g_105 : (G_92.1 66 24).toInt = y_91.toInt := (congrArg Int32.toInt (show G_92.1 66 24 = y_91 from (gp_eq eG_92)))
          exact ih_3 ((G_92.1 66 20).toInt : Int).toNat ((by first | (clear f_12 c_24 f_33 c_34 g_48 g_50 c_59 g_97 g_103; omega) | omega)) _ _ _ ⟨G_92, (Int.toNat_of_nonneg ((by first | (clear hn_16 f_12 c_24 f_33 c_34 g_48 g_50 c_59 g_97 g_103; omega) | omega))), ((by first | (clear b_7 hn_16 f_12 c_24 f_33 c_34 g_48 g_50 c_59 g_97 g_103; omega) | omega)), ((by first | (clear b_7 hn_16 f_12 c_24 f_33 c_34 g_48 g_50 c_59 g_103; omega) | omega)), ((by first | (clear hn_16 f_12 c_24 f_33 c_34 g_48 g_50 c_59 g_103; omega) | omega)), ((by first | (clear hn_16 f_12 c_24 f_33 c_34 g_48 g_50 c_59 g_97 g_103; omega) | omega)), ((by first | (clear hcl b_6 b_7 hn_16 f_8 f_9 f_10 f_11 f_13 f_14 f_15 b_17 b_18 c_20 ty_21 c_24 ty_25 f_33 c_34 g_45 g_46 g_47 g_49 g_50 g_51 ty_52 g_57 c_59 g_81 g_84 g_85 d_6 d_7 d_8 d_9 d_10 ty_91 g_93 g_95 g_97 g_98 g_99 g_100 g_101 g_102 g_104 g_105; omega) | omega)), ((by first | (clear hn_16 f_12 c_24 f_33 c_34 g_48 g_50 c_59 g_97 g_103; omega) | omega)), ((by first | (clear hn_16 f_12 c_24 f_33 c_34 g_48 g_50 c_59 g_97 g_103; omega) | omega)), ((by first | (clear hn_16 f_12 c_24 f_33 c_34 g_48 g_50 c_59 g_97 g_103; omega) | omega)), (hX_5.st (St_n_close_1_mk ⟨G_1, G_92, rfl, rfl, f_8, f_9, f_10, f_11, f_12, f_13, f_14, f_15, hB_G_1, ⟨c_20, ⟨y_21, ty_21, ⟨y_22, ey_22, ⟨c_24, ⟨y_25, ty_25, ⟨y_26, ey_26, ⟨r_28, G_29, hX_32, ⟨c_34, ⟨y_52, ty_52, ⟨y_54, ey_54.trans (congrFun (rw_put eG_53 (by decide)) _), (Or.inl ⟨c_59, ⟨G_53, hB_G_53, (Fr.put (rs := []) (fs := [(66, 20)]) Fr.rf eG_53 (Or.inr (by decide))), (gp_eq eG_53), ⟨G_87, hX_90, ⟨y_91, ty_91, ⟨(Fr.put (rs := []) (fs := [(66, 24)]) Fr.rf eG_92 (Or.inr (by decide))), (gp_eq eG_92)⟩⟩⟩⟩⟩)⟩⟩⟩⟩⟩⟩⟩⟩⟩⟩⟩)), hW, hB_G_92, hF, (Fr.put (rs := [69, 70, 71]) (fs := [(66, 20), (66, 24)]) (Fr.call9 (rs := [69, 70, 71]) (fs := [(66, 20), (66, 24)]) (Fr.put (rs := [69, 70, 71]) (fs := [(66, 20), (66, 24)]) (Fr.call9 (rs := [69, 70, 71]) (fs := [(66, 20), (66, 24)]) (Fr.call9 (rs := [69, 70, 71]) (fs := [(66, 20), (66, 24)]) Fr.rf hq_2 rfl rfl) hq_30 rfl rfl) eG_53 (Or.inr (by decide))) hq_88 rfl rfl) eG_92 (Or.inr (by decide))), hS, lv_sub hl [0, 1] rfl⟩

set_option maxHeartbeats 4000000 in
set_option maxRecDepth 100000 in
theorem n_hasRelation (l : Launch) (D : va_G) (k : KT) (A : Nat → Prop) (a : Nat → Nat) (z : SK) (G : GS)   : Met l yX12_hasRelation (WS yX12_hasRelation cX12_hasRelation 2 (some .boolean)) ({ frames := 1, cells := 0, slots := 0, locals := 20 }) (va_Pc [.ref (a 66)] (cW D k A a z G)) (va_Qi (fun (r : Int32) (G1 : GS) => Q_hasRelation G r G1) (fun (G1 : GS) t => Wd D k A a G1 t.heap) A) 0 0 A := by
  refine Met.ofW (cc := cX12_hasRelation) (maxL := 2) (ret := (some .boolean)) (by decide) rfl ?_
  intro p e s m args below meth c s₁ B hml hv
  obtain ⟨rfl, hW, hB_G, hK, hZ⟩ := hv
  have hx := B.exec
  have hb := B.bytes
  have hr := B.returns
  have hts := atoms_spec (ws := WS yX12_hasRelation cX12_hasRelation 2 (some .boolean)) B.pre
  have hgd : ∀ w ∈ gd, w ∈ WS yX12_hasRelation cX12_hasRelation 2 (some .boolean) := fun w h => List.mem_cons_of_mem _ h
  have hg : ∀ w ∈ gd, w.before _ s = true := fun w h => hts w (hgd w h)
  have hown : s.vm.findClass RX12 = some m.cls := findClass_of_methodNamed B.named
  have hS : va_S A s.heap s.heap [] := va_S.rf
  have hF : Fr [] [] G G := Fr.rf
  have hl := lv_entry ([.ref (a 66)]) (n := 2) (Nat.le_of_ble_eq_true rfl)
  rw [lg_entry_eq]
  generalize (lg_sl ([.ref (a 66)]) ++ List.replicate (2 - (lg_sl ([.ref (a 66)])).length) Slot.unset).toArray = ls at hl ⊢
  have hl : lv_has ls 2 [(0, .ref (a 66))] := hl
  refine lv_aload_n hx hb dX12_hasRelation_0 rfl (lv_at hl 0 rfl) ?_
  have b_1 : 0 ≤ (G.1 66 20).toInt ∧ (G.1 66 20).toInt ≤ 160 := bd_66_20 hB_G
  refine S_getI (v := (G.1 66 20)) (C := RX12) (T := TX12) (N := 89) hx hb hg iX12 hown hK hW kd_66 rfl 20 (lt_b rfl) (hg (Cond.fieldLink RX12 299 "SlabWalkModel" "opens" "I") m1334) (fun _ h9 => h9) rfl rfl dX12_hasRelation_1 ?_
  refine ic_1 hx hb dX12_hasRelation_4 ?_
  refine lv_isub hx hb dX12_hasRelation_5 ?_
  refine lv_topi (fun y_2 ey_2 => ?_)
  have ty_2 : y_2.toInt = (G.1 66 20).toInt - 1 := xI_sub rfl rfl ey_2 (by omega) (by omega)
  refine lv_istore_n (lv' := [(1, .int y_2), (0, .ref (a 66))]) hx hb dX12_hasRelation_6 rfl hl (lt_b rfl) rfl (fun ls hl => ?_)
  refine loop_N (Inv := fun n H locs ls => ∃ (G_3 : GS) (x_7 : Int32), (n : Int) = x_7.toInt - (-1) ∧ ((-1) ≤ x_7.toInt ∧ x_7.toInt ≤ 159) ∧ Rc (St_n_hasRelation_1) (y_2, G) (x_7, G_3) ∧ Wd D k A a G_3 H ∧ Bd G_3 ∧ Fr [] [] G G_3 ∧ Fr [] [] G G_3 ∧ va_S A s.heap H locs ∧ lv_has ls 2 [(1, .int x_7), (0, .ref (a 66))]) (fun n_6 H locs ls ih_5 hI => ?_) (y_2.toInt - (-1) : Int).toNat ⟨G, y_2, (Int.toNat_of_nonneg (by omega)), ⟨by omega, by omega⟩, Rc.rf, hW, hB_G, hF, Fr.rf, hS, lv_sub hl [0, 1] rfl⟩
  obtain ⟨G_3, x_7, hn_10, f_9, hX_8, hW, hB_G_3, hF, hq_4, hS, hl⟩ := hI
  refine lv_iload_n hx hb dX12_hasRelation_7 rfl (lv_at hl 0 rfl) ?_
  refine W.cut (σ := Unit) (pcJ := 41) (J := fun y H locs ls => ∃ (G_13 : GS), Jn_n_hasRelation_2 x_7 G_3 G_13 ∧ Wd D k A a G_13 H ∧ Bd G_13 ∧ Fr [] [] G G_13 ∧ Fr [] [] G_3 G_13 ∧ va_S A s.heap H locs ∧ lv_has ls 2 [(1, .int x_7), (0, .ref (a 66))]) (stJ := fun _ => []) ?_ (fun hJ_14 => ?_)
  · intro y H locs ls hI
    obtain ⟨G_13, hX_16, hW, hB_G_13, hF, hq_15, hS, hl⟩ := hI
    refine lv_iload_n hx hb dX12_hasRelation_41 rfl (lv_at hl 0 rfl) ?_
    refine lv_if_lt (tgt := 73) hx hb dX12_hasRelation_42 rfl (fun c_17 => ?_) (fun c_17 => ?_)
    · have c_17 : x_7.toInt < 0 := xI_lt rfl rfl c_17
      refine ic_0 hx hb dX12_hasRelation_73 ?_
      exact W.zret (v := 0) hx hb hr (by decide) (fun t ht _ => ⟨⟨0, G_13, rfl, (Q_hasRelation_mk ⟨hB_G_13, hF, ⟨by decide, by decide⟩, ⟨y_2, ty_2, ⟨x_7, G_3, hX_8, f_9, hB_G_3, hq_4, ⟨G_13, hX_16, hB_G_13, hq_15, (Or.inl ⟨c_17, ⟨rfl, rfl⟩⟩)⟩⟩⟩⟩), wd_t ht hW⟩, hS.F ht⟩) hS.2.2 dX12_hasRelation_74
    · have c_17 : 0 ≤ x_7.toInt := xI_nlt rfl rfl c_17
      refine lv_aload_n hx hb dX12_hasRelation_45 rfl (lv_at hl 1 rfl) ?_
      refine S_getR (n := 75) (C := RX12) (T := TX12) (N := 89) hx hb hg iX12 hown hK hW kd_66 rfl 17 (lt_b rfl) (hg (Cond.fieldLink RX12 39 "SlabWalkModel" "open" "[I") m1331) (fun _ h9 => h9) rfl dX12_hasRelation_46 ?_
      refine lv_iload_n hx hb dX12_hasRelation_49 rfl (lv_at hl 0 rfl) ?_
      refine S_iald hx hb hK hW kd_75 (vin ((by first | (clear b_1 ty_2 hn_10; omega) | omega)) ((by first | (clear b_1 ty_2 hn_10; omega) | omega))) dX12_hasRelation_50 (fun y_18 ey_18 => ?_)
      refine lv_bipush (v := 20) hx hb dX12_hasRelation_51 (by decide) ?_
      refine lv_icmp_eq (tgt := 73) hx hb dX12_hasRelation_53 rfl (fun c_19 => ?_) (fun c_19 => ?_)
      · have c_19 : y_18.toInt = 20 := xI_eq rfl rfl c_19
        refine ic_0 hx hb dX12_hasRelation_73 ?_
        exact W.zret (v := 0) hx hb hr (by decide) (fun t ht _ => ⟨⟨0, G_13, rfl, (Q_hasRelation_mk ⟨hB_G_13, hF, ⟨by decide, by decide⟩, ⟨y_2, ty_2, ⟨x_7, G_3, hX_8, f_9, hB_G_3, hq_4, ⟨G_13, hX_16, hB_G_13, hq_15, (Or.inr ⟨c_17, ⟨y_18, ey_18, (Or.inl ⟨c_19, ⟨rfl, rfl⟩⟩)⟩⟩)⟩⟩⟩⟩), wd_t ht hW⟩, hS.F ht⟩) hS.2.2 dX12_hasRelation_74
      · have c_19 : y_18.toInt ≠ 20 := xI_ne rfl rfl c_19
        refine lv_aload_n hx hb dX12_hasRelation_56 rfl (lv_at hl 1 rfl) ?_
        refine S_getR (n := 75) (C := RX12) (T := TX12) (N := 89) hx hb hg iX12 hown hK hW kd_66 rfl 17 (lt_b rfl) (hg (Cond.fieldLink RX12 39 "SlabWalkModel" "open" "[I") m1331) (fun _ h9 => h9) rfl dX12_hasRelation_57 ?_
        refine lv_iload_n hx hb dX12_hasRelation_60 rfl (lv_at hl 0 rfl) ?_
        refine S_iald hx hb hK hW kd_75 (vin ((by first | (clear b_1 ty_2 hn_10 c_19; omega) | omega)) ((by first | (clear b_1 ty_2 hn_10 c_19; omega) | omega))) dX12_hasRelation_61 (fun y_20 ey_20 => ?_)
        refine S_calli (va_runS (As := [.int y_20]) (rest := []) ⟨hx, hb, hml, hown, hts⟩ (n_tight l D k A a z G_13 y_20 ) (va_cwS 1 hts (gd_S hgd m1722 m1723 m131 m1724) rfl rfl rfl hd_X12_tight.2 ⟨Nat.le_of_ble_eq_true rfl, Nat.le_of_ble_eq_true rfl⟩) (pre_S hW hB_G_13 hK hZ hS) rfl rfl hl.1 rfl (lv_room (Nat.le_of_ble_eq_true rfl)) dX12_hasRelation_62 ⟨Nat.le_of_ble_eq_true rfl, Nat.le_of_ble_eq_true rfl⟩) hS (fun r_21 G_22 H locs hpo hW hS => ?_)
        have hX_25 : Q_tight y_20 G_13 r_21 G_22 := hpo
        obtain ⟨hB_G_22, hq_23, f_26, -⟩ := hpo
        have hF := hF.call9 hq_23 rfl rfl
        refine ic_4 hx hb dX12_hasRelation_65 ?_
        refine lv_icmp_ne (tgt := 73) hx hb dX12_hasRelation_66 rfl (fun c_27 => ?_) (fun c_27 => ?_)
        · have c_27 : r_21.toInt ≠ 4 := xI_ne rfl rfl c_27
          refine ic_0 hx hb dX12_hasRelation_73 ?_
          exact W.zret (v := 0) hx hb hr (by decide) (fun t ht _ => ⟨⟨0, G_22, rfl, (Q_hasRelation_mk ⟨hB_G_22, hF, ⟨by decide, by decide⟩, ⟨y_2, ty_2, ⟨x_7, G_3, hX_8, f_9, hB_G_3, hq_4, ⟨G_13, hX_16, hB_G_13, hq_15, (Or.inr ⟨c_17, ⟨y_18, ey_18, (Or.inr ⟨c_19, ⟨y_20, ey_20, ⟨r_21, G_22, hX_25, (Or.inr ⟨c_27, ⟨rfl, rfl⟩⟩)⟩⟩⟩)⟩⟩)⟩⟩⟩⟩), wd_t ht hW⟩, hS.F ht⟩) hS.2.2 dX12_hasRelation_74
        · have c_27 : r_21.toInt = 4 := xI_eq rfl rfl c_27
          refine ic_1 hx hb dX12_hasRelation_69 ?_
          refine lv_goto (tgt := 74) hx hb dX12_hasRelation_70 rfl ?_
          exact W.zret (v := 1) hx hb hr (by decide) (fun t ht _ => ⟨⟨1, G_22, rfl, (Q_hasRelation_mk ⟨hB_G_22, hF, ⟨by decide, by decide⟩, ⟨y_2, ty_2, ⟨x_7, G_3, hX_8, f_9, hB_G_3, hq_4, ⟨G_13, hX_16, hB_G_13, hq_15, (Or.inr ⟨c_17, ⟨y_18, ey_18, (Or.inr ⟨c_19, ⟨y_20, ey_20, ⟨r_21, G_22, hX_25, (Or.inl ⟨c_27, ⟨rfl, rfl⟩⟩)⟩⟩⟩)⟩⟩)⟩⟩⟩⟩), wd_t ht hW⟩, hS.F ht⟩) hS.2.2 dX12_hasRelation_74
  refine lv_if_lt (tgt := 41) hx hb dX12_hasRelation_8 rfl (fun c_28 => ?_) (fun c_28 => ?_)
  · have c_28 : x_7.toInt < 0 := xI_lt rfl rfl c_28
    exact hJ_14 () _ _ _ ⟨G_3, (Jn_n_hasRelation_2_mk (Or.inl ⟨c_28, rfl⟩)), hW, hB_G_3, hF, (Fr.rf (rs := []) (fs := [])), hS, lv_sub hl [0, 1] rfl⟩
  · have c_28 : 0 ≤ x_7.toInt := xI_nlt rfl rfl c_28
    refine lv_aload_n hx hb dX12_hasRelation_11 rfl (lv_at hl 1 rfl) ?_
    refine S_getR (n := 75) (C := RX12) (T := TX12) (N := 89) hx hb hg iX12 hown hK hW kd_66 rfl 17 (lt_b rfl) (hg (Cond.fieldLink RX12 39 "SlabWalkModel" "open" "[I") m1331) (fun _ h9 => h9) rfl dX12_hasRelation_12 ?_
    refine lv_iload_n hx hb dX12_hasRelation_15 rfl (lv_at hl 0 rfl) ?_
    refine S_iald hx hb hK hW kd_75 (vin ((by first | (clear b_1 ty_2 hn_10; omega) | omega)) ((by first | (clear b_1 ty_2 hn_10; omega) | omega))) dX12_hasRelation_16 (fun y_29 ey_29 => ?_)
    refine lv_bipush (v := 20) hx hb dX12_hasRelation_17 (by decide) ?_
    refine lv_icmp_eq (tgt := 41) hx hb dX12_hasRelation_19 rfl (fun c_30 => ?_) (fun c_30 => ?_)
    · have c_30 : y_29.toInt = 20 := xI_eq rfl rfl c_30
      exact hJ_14 () _ _ _ ⟨G_3, (Jn_n_hasRelation_2_mk (Or.inr ⟨c_28, ⟨y_29, ey_29, (Or.inl ⟨c_30, rfl⟩)⟩⟩)), hW, hB_G_3, hF, (Fr.rf (rs := []) (fs := [])), hS, lv_sub hl [0, 1] rfl⟩
    · have c_30 : y_29.toInt ≠ 20 := xI_ne rfl rfl c_30
      refine lv_aload_n hx hb dX12_hasRelation_22 rfl (lv_at hl 1 rfl) ?_
      refine S_getR (n := 75) (C := RX12) (T := TX12) (N := 89) hx hb hg iX12 hown hK hW kd_66 rfl 17 (lt_b rfl) (hg (Cond.fieldLink RX12 39 "SlabWalkModel" "open" "[I") m1331) (fun _ h9 => h9) rfl dX12_hasRelation_23 ?_
      refine lv_iload_n hx hb dX12_hasRelation_26 rfl (lv_at hl 0 rfl) ?_
      refine S_iald hx hb hK hW kd_75 (vin ((by first | (clear b_1 ty_2 hn_10 c_30; omega) | omega)) ((by first | (clear b_1 ty_2 hn_10 c_30; omega) | omega))) dX12_hasRelation_27 (fun y_31 ey_31 => ?_)
      refine S_calli (va_runS (As := [.int y_31]) (rest := []) ⟨hx, hb, hml, hown, hts⟩ (n_tight l D k A a z G_3 y_31 ) (va_cwS 1 hts (gd_S hgd m1722 m1723 m131 m1724) rfl rfl rfl hd_X12_tight.2 ⟨Nat.le_of_ble_eq_true rfl, Nat.le_of_ble_eq_true rfl⟩) (pre_S hW hB_G_3 hK hZ hS) rfl rfl hl.1 rfl (lv_room (Nat.le_of_ble_eq_true rfl)) dX12_hasRelation_28 ⟨Nat.le_of_ble_eq_true rfl, Nat.le_of_ble_eq_true rfl⟩) hS (fun r_32 G_33 H locs hpo hW hS => ?_)
      have hX_36 : Q_tight y_31 G_3 r_32 G_33 := hpo
      obtain ⟨hB_G_33, hq_34, f_37, -⟩ := hpo
      have hF := hF.call9 hq_34 rfl rfl
      refine ic_4 hx hb dX12_hasRelation_31 ?_
      refine lv_icmp_le (tgt := 41) hx hb dX12_hasRelation_32 rfl (fun c_38 => ?_) (fun c_38 => ?_)
      · have c_38 : r_32.toInt ≤ 4 := xI_le rfl rfl c_38
        exact hJ_14 () _ _ _ ⟨G_33, (Jn_n_hasRelation_2_mk (Or.inr ⟨c_28, ⟨y_29, ey_29, (Or.inr ⟨c_30, ⟨y_31, ey_31, ⟨r_32, G_33, hX_36, ⟨c_38, rfl⟩⟩⟩⟩)⟩⟩)), hW, hB_G_33, hF, (Fr.call9 (rs := []) (fs := []) Fr.rf hq_34 rfl rfl), hS, lv_sub hl [0, 1] rfl⟩
      · have c_38 : 4 < r_32.toInt := xI_nle rfl rfl c_38
        obtain ⟨y_39, ey_39⟩ : ∃ q, q = x_7 + (-1) := ⟨_, rfl⟩
        have ty_39 : y_39.toInt = x_7.toInt + (-1) := xI_add rfl rfl ey_39 ((by first | (clear b_1 ty_2 hn_10 c_30 f_37 c_38; omega) | omega)) ((by first | (clear b_1 ty_2 hn_10 c_30 f_37 c_38; omega) | omega))
        refine lv_iinc (v := y_39) (lv' := [(1, .int y_39), (0, .ref (a 66))]) hx hb dX12_hasRelation_35 hl (k := 0) rfl (by rw [ey_39]; rfl) (lt_b rfl) rfl (fun ls hl => ?_)
        refine lv_goto (tgt := 7) hx hb dX12_hasRelation_38 rfl ?_
        exact ih_5 (y_39.toInt - (-1) : Int).toNat ((by first | (clear b_1 ty_2 c_30 f_37 c_38; omega) | omega)) _ _ _ ⟨G_33, y_39, (Int.toNat_of_nonneg ((by first | (clear b_1 ty_2 hn_10 c_30 f_37 c_38; omega) | omega))), ⟨(by first | (clear b_1 ty_2 hn_10 c_30 f_37 c_38; omega) | omega), (by first | (clear b_1 ty_2 hn_10 c_30 f_37 c_38; omega) | omega)⟩, (hX_8.st (St_n_hasRelation_1_mk ⟨x_7, G_3, y_39, G_33, rfl, rfl, f_9, hB_G_3, ⟨c_28, ⟨y_29, ey_29, ⟨c_30, ⟨y_31, ey_31, ⟨r_32, G_33, hX_36, ⟨c_38, ⟨y_39, ty_39, ⟨rfl, rfl⟩⟩⟩⟩⟩⟩⟩⟩⟩)), hW, hB_G_33, hF, (Fr.call9 (rs := []) (fs := []) (Fr.call9 (rs := []) (fs := []) Fr.rf hq_4 rfl rfl) hq_34 rfl rfl), hS, lv_sub hl [0, 1] rfl⟩

set_option maxHeartbeats 4000000 in
set_option maxRecDepth 100000 in
theorem n_mayNot (l : Launch) (D : va_G) (k : KT) (A : Nat → Prop) (a : Nat → Nat) (z : SK) (G : GS)   : Met l yX12_mayNot (WS yX12_mayNot cX12_mayNot 1 (some .boolean)) ({ frames := 1, cells := 0, slots := 0, locals := 20 }) (va_Pc [.ref (a 66)] (cW D k A a z G)) (va_Qi (fun (r : Int32) (G1 : GS) => Q_mayNot G r G1) (fun (G1 : GS) t => Wd D k A a G1 t.heap) A) 0 0 A := by
  refine Met.ofW (cc := cX12_mayNot) (maxL := 1) (ret := (some .boolean)) (by decide) rfl ?_
  intro p e s m args below meth c s₁ B hml hv
  obtain ⟨rfl, hW, hB_G, hK, hZ⟩ := hv
  have hx := B.exec
  have hb := B.bytes
  have hr := B.returns
  have hts := atoms_spec (ws := WS yX12_mayNot cX12_mayNot 1 (some .boolean)) B.pre
  have hgd : ∀ w ∈ gd, w ∈ WS yX12_mayNot cX12_mayNot 1 (some .boolean) := fun w h => List.mem_cons_of_mem _ h
  have hg : ∀ w ∈ gd, w.before _ s = true := fun w h => hts w (hgd w h)
  have hown : s.vm.findClass RX12 = some m.cls := findClass_of_methodNamed B.named
  have hS : va_S A s.heap s.heap [] := va_S.rf
  have hF : Fr [] [] G G := Fr.rf
  have hl := lv_entry ([.ref (a 66)]) (n := 1) (Nat.le_of_ble_eq_true rfl)
  rw [lg_entry_eq]
  generalize (lg_sl ([.ref (a 66)]) ++ List.replicate (1 - (lg_sl ([.ref (a 66)])).length) Slot.unset).toArray = ls at hl ⊢
  have hl : lv_has ls 1 [(0, .ref (a 66))] := hl
  refine lv_aload_n hx hb dX12_mayNot_0 rfl (lv_at hl 0 rfl) ?_
  have b_1 : 0 ≤ (G.1 66 20).toInt ∧ (G.1 66 20).toInt ≤ 160 := bd_66_20 hB_G
  refine S_getI (v := (G.1 66 20)) (C := RX12) (T := TX12) (N := 89) hx hb hg iX12 hown hK hW kd_66 rfl 20 (lt_b rfl) (hg (Cond.fieldLink RX12 299 "SlabWalkModel" "opens" "I") m1334) (fun _ h9 => h9) rfl rfl dX12_mayNot_1 ?_
  refine lv_if_eq (tgt := 41) hx hb dX12_mayNot_4 rfl (fun c_2 => ?_) (fun c_2 => ?_)
  · have c_2 : (G.1 66 20).toInt = 0 := xI_eq rfl rfl c_2
    refine ic_1 hx hb dX12_mayNot_41 ?_
    refine lv_goto (tgt := 46) hx hb dX12_mayNot_42 rfl ?_
    exact W.zret (v := 1) hx hb hr (by decide) (fun t ht _ => ⟨⟨1, G, rfl, (Q_mayNot_mk ⟨hB_G, hF, ⟨by decide, by decide⟩, (Or.inl ⟨c_2, ⟨rfl, rfl⟩⟩)⟩), wd_t ht hW⟩, hS.F ht⟩) hS.2.2 dX12_mayNot_46
  · have c_2 : (G.1 66 20).toInt ≠ 0 := xI_ne rfl rfl c_2
    refine lv_aload_n hx hb dX12_mayNot_7 rfl (lv_at hl 0 rfl) ?_
    refine S_getR (n := 75) (C := RX12) (T := TX12) (N := 89) hx hb hg iX12 hown hK hW kd_66 rfl 17 (lt_b rfl) (hg (Cond.fieldLink RX12 39 "SlabWalkModel" "open" "[I") m1331) (fun _ h9 => h9) rfl dX12_mayNot_8 ?_
    refine lv_aload_n hx hb dX12_mayNot_11 rfl (lv_at hl 0 rfl) ?_
    refine S_getI (v := (G.1 66 20)) (C := RX12) (T := TX12) (N := 89) hx hb hg iX12 hown hK hW kd_66 rfl 20 (lt_b rfl) (hg (Cond.fieldLink RX12 299 "SlabWalkModel" "opens" "I") m1334) (fun _ h9 => h9) rfl rfl dX12_mayNot_12 ?_
    refine ic_1 hx hb dX12_mayNot_15 ?_
    refine lv_isub hx hb dX12_mayNot_16 ?_
    refine lv_topi (fun y_3 ey_3 => ?_)
    have ty_3 : y_3.toInt = (G.1 66 20).toInt - 1 := xI_sub rfl rfl ey_3 (by omega) (by omega)
    refine S_iald hx hb hK hW kd_75 (vin (by omega) (by omega)) dX12_mayNot_17 (fun y_4 ey_4 => ?_)
    refine lv_bipush (v := 20) hx hb dX12_mayNot_18 (by decide) ?_
    refine lv_icmp_eq (tgt := 41) hx hb dX12_mayNot_20 rfl (fun c_5 => ?_) (fun c_5 => ?_)
    · have c_5 : y_4.toInt = 20 := xI_eq rfl rfl c_5
      refine ic_1 hx hb dX12_mayNot_41 ?_
      refine lv_goto (tgt := 46) hx hb dX12_mayNot_42 rfl ?_
      exact W.zret (v := 1) hx hb hr (by decide) (fun t ht _ => ⟨⟨1, G, rfl, (Q_mayNot_mk ⟨hB_G, hF, ⟨by decide, by decide⟩, (Or.inr ⟨c_2, ⟨y_3, ty_3, ⟨y_4, ey_4, (Or.inl ⟨c_5, ⟨rfl, rfl⟩⟩)⟩⟩⟩)⟩), wd_t ht hW⟩, hS.F ht⟩) hS.2.2 dX12_mayNot_46
    · have c_5 : y_4.toInt ≠ 20 := xI_ne rfl rfl c_5
      refine lv_aload_n hx hb dX12_mayNot_23 rfl (lv_at hl 0 rfl) ?_
      refine S_getR (n := 75) (C := RX12) (T := TX12) (N := 89) hx hb hg iX12 hown hK hW kd_66 rfl 17 (lt_b rfl) (hg (Cond.fieldLink RX12 39 "SlabWalkModel" "open" "[I") m1331) (fun _ h9 => h9) rfl dX12_mayNot_24 ?_
      refine lv_aload_n hx hb dX12_mayNot_27 rfl (lv_at hl 0 rfl) ?_
      refine S_getI (v := (G.1 66 20)) (C := RX12) (T := TX12) (N := 89) hx hb hg iX12 hown hK hW kd_66 rfl 20 (lt_b rfl) (hg (Cond.fieldLink RX12 299 "SlabWalkModel" "opens" "I") m1334) (fun _ h9 => h9) rfl rfl dX12_mayNot_28 ?_
      refine ic_1 hx hb dX12_mayNot_31 ?_
      refine lv_isub hx hb dX12_mayNot_32 ?_
      refine lv_topi (fun y_6 ey_6 => ?_)
      have ty_6 : y_6.toInt = (G.1 66 20).toInt - 1 := xI_sub rfl rfl ey_6 (by omega) (by omega)
      refine S_iald hx hb hK hW kd_75 (vin (by omega) (by omega)) dX12_mayNot_33 (fun y_7 ey_7 => ?_)
      refine S_calli (va_runS (As := [.int y_7]) (rest := []) ⟨hx, hb, hml, hown, hts⟩ (n_tight l D k A a z G y_7 ) (va_cwS 1 hts (gd_S hgd m1722 m1723 m131 m1724) rfl rfl rfl hd_X12_tight.2 ⟨Nat.le_of_ble_eq_true rfl, Nat.le_of_ble_eq_true rfl⟩) (pre_S hW hB_G hK hZ hS) rfl rfl hl.1 rfl (lv_room (Nat.le_of_ble_eq_true rfl)) dX12_mayNot_34 ⟨Nat.le_of_ble_eq_true rfl, Nat.le_of_ble_eq_true rfl⟩) hS (fun r_8 G_9 H locs hpo hW hS => ?_)
      have hX_12 : Q_tight y_7 G r_8 G_9 := hpo
      obtain ⟨hB_G_9, hq_10, f_13, -⟩ := hpo
      have hF := hF.call9 hq_10 rfl rfl
      refine ic_4 hx hb dX12_mayNot_37 ?_
      refine lv_icmp_ge (tgt := 45) hx hb dX12_mayNot_38 rfl (fun c_14 => ?_) (fun c_14 => ?_)
      · have c_14 : 4 ≤ r_8.toInt := xI_le rfl rfl c_14
        refine ic_0 hx hb dX12_mayNot_45 ?_
        exact W.zret (v := 0) hx hb hr (by decide) (fun t ht _ => ⟨⟨0, G_9, rfl, (Q_mayNot_mk ⟨hB_G_9, hF, ⟨by decide, by decide⟩, (Or.inr ⟨c_2, ⟨y_3, ty_3, ⟨y_4, ey_4, (Or.inr ⟨c_5, ⟨y_6, ty_6, ⟨y_7, ey_7, ⟨r_8, G_9, hX_12, (Or.inl ⟨c_14, ⟨rfl, rfl⟩⟩)⟩⟩⟩⟩)⟩⟩⟩)⟩), wd_t ht hW⟩, hS.F ht⟩) hS.2.2 dX12_mayNot_46
      · have c_14 : r_8.toInt < 4 := xI_nle rfl rfl c_14
        refine ic_1 hx hb dX12_mayNot_41 ?_
        refine lv_goto (tgt := 46) hx hb dX12_mayNot_42 rfl ?_
        exact W.zret (v := 1) hx hb hr (by decide) (fun t ht _ => ⟨⟨1, G_9, rfl, (Q_mayNot_mk ⟨hB_G_9, hF, ⟨by decide, by decide⟩, (Or.inr ⟨c_2, ⟨y_3, ty_3, ⟨y_4, ey_4, (Or.inr ⟨c_5, ⟨y_6, ty_6, ⟨y_7, ey_7, ⟨r_8, G_9, hX_12, (Or.inr ⟨c_14, ⟨rfl, rfl⟩⟩)⟩⟩⟩⟩)⟩⟩⟩)⟩), wd_t ht hW⟩, hS.F ht⟩) hS.2.2 dX12_mayNot_46
