theorem m28 : Cond.selects RX3 yX3_valueOf yX3_valueOf ∈ gd := gds_2 12 rfl
theorem m29 : Cond.selects RX3 yX3_push yX3_push ∈ gd := gds_2 13 rfl
theorem m30 : Cond.selects RX3 yX3_pop yX3_pop ∈ gd := gds_2 14 rfl
theorem m122 : Cond.initialized RX3 ∈ gd := gdc_1_0 6 rfl gw_initialized
theorem m129 : Cond.initialized RJ7 ∈ gd := gdc_1_0 13 rfl gw_initialized
theorem m158 : Cond.fieldLink RX3 37 "SlabWalk$Paving" "length" "[I" ∈ gd := gdc_1_2 10 rfl gw_fieldLink
theorem m164 : Cond.fieldLink RX3 60 "SlabWalk$Paving" "foot" "[I" ∈ gd := gdc_1_3 0 rfl gw_fieldLink
theorem m182 : Cond.fieldLink RX3 72 "SlabWalk$Paving" "code" "[I" ∈ gd := gdc_1_4 2 rfl gw_fieldLink
theorem m184 : Cond.fieldLink RX3 69 "SlabWalk$Paving" "codeEnd" "[I" ∈ gd := gdc_1_4 4 rfl gw_fieldLink
theorem m193 : Cond.fieldLink RX3 44 "SlabWalk$Paving" "rules" "I" ∈ gd := gdc_1_4 13 rfl gw_fieldLink
theorem m349 : Cond.fieldLink RX3 9 "SlabWalk$Lines" "found" "[I" ∈ gd := gdc_1_14 9 rfl gw_fieldLink
theorem m350 : Cond.fieldLink RX3 15 "SlabWalk$Lines" "foundOn" "[I" ∈ gd := gdc_1_14 10 rfl gw_fieldLink
theorem m353 : Cond.fieldLink RX3 21 "SlabWalk$Lines" "paving" "LSlabWalk$Paving;" ∈ gd := gdc_1_14 13 rfl gw_fieldLink
theorem m555 : Cond.methodLink RX3 25 yJ7_fill_53178 ∈ gd := gdc_2_12 7 rfl gw_methodLink
theorem m556 : Cond.static yJ7_fill_53178 ∈ gd := gdc_2_12 8 rfl gw_static
theorem m557 : Cond.code yJ7_fill_53178 cJ7_fill_53178 4 none ∈ gd := gdc_2_12 9 rfl gw_code
theorem m891 : Cond.instanceMethod yX6_inchAt ∈ gd := gdc_4_3 7 rfl gw_instanceMethod
theorem m892 : Cond.selects RX6 yX6_inchAt yX6_inchAt ∈ gd := gdc_4_3 8 rfl gw_selects
theorem m893 : Cond.code yX6_inchAt cX6_inchAt 3 (some .int) ∈ gd := gdc_4_3 9 rfl gw_code
theorem m919 : Cond.methodLink RX3 31 yX6_hasStreet ∈ gd := gdc_4_5 3 rfl gw_methodLink
theorem m920 : Cond.methodLink RX3 40 yX6_inchAt ∈ gd := gdc_4_5 4 rfl gw_methodLink
theorem m921 : Cond.methodLink RX3 48 yX3_valueOf ∈ gd := gdc_4_5 5 rfl gw_methodLink
theorem m923 : Cond.instanceMethod yX3_valueOf ∈ gd := gdc_4_5 7 rfl gw_instanceMethod
theorem m924 : Cond.code yX3_valueOf cX3_valueOf 8 (some .int) ∈ gd := gdc_4_5 8 rfl gw_code
theorem m925 : Cond.methodLink RX3 75 yX3_push ∈ gd := gdc_4_5 9 rfl gw_methodLink
theorem m927 : Cond.instanceMethod yX3_push ∈ gd := gdc_4_5 11 rfl gw_instanceMethod
theorem m928 : Cond.code yX3_push cX3_push 2 none ∈ gd := gdc_4_5 12 rfl gw_code
theorem m929 : Cond.methodLink RX3 79 yX3_pop ∈ gd := gdc_4_5 13 rfl gw_methodLink
theorem m931 : Cond.instanceMethod yX3_pop ∈ gd := gdc_4_5 15 rfl gw_instanceMethod
theorem m932 : Cond.code yX3_pop cX3_pop 1 (some .int) ∈ gd := gdc_4_6 0 rfl gw_code
theorem m933 : Cond.methodLink RX3 83 yX3_join ∈ gd := gdc_4_6 1 rfl gw_methodLink
theorem m934 : Cond.static yX3_join ∈ gd := gdc_4_6 2 rfl gw_static
theorem m935 : Cond.code yX3_join cX3_join 3 (some .int) ∈ gd := gdc_4_6 3 rfl gw_code
theorem m936 : Cond.methodLink RX3 86 yX3_ownOf ∈ gd := gdc_4_6 4 rfl gw_methodLink
theorem m937 : Cond.static yX3_ownOf ∈ gd := gdc_4_6 5 rfl gw_static
theorem m938 : Cond.code yX3_ownOf cX3_ownOf 3 (some .int) ∈ gd := gdc_4_6 6 rfl gw_code
theorem m941 : Cond.instanceMethod yX3_isLine ∈ gd := gdc_4_6 9 rfl gw_instanceMethod
theorem m942 : Cond.selects RX3 yX3_isLine yX3_isLine ∈ gd := gdc_4_6 10 rfl gw_selects
theorem m943 : Cond.code yX3_isLine cX3_isLine 4 (some .boolean) ∈ gd := gdc_4_6 11 rfl gw_code
theorem m944 : Cond.methodLink RX3 52 yX6_hasInch ∈ gd := gdc_4_6 12 rfl gw_methodLink
theorem m965 : Cond.methodLink RX3 56 yX6_stands ∈ gd := gdc_4_8 1 rfl gw_methodLink
theorem m966 : Cond.instanceMethod yX6_stands ∈ gd := gdc_4_8 2 rfl gw_instanceMethod
theorem m967 : Cond.selects RX6 yX6_stands yX6_stands ∈ gd := gdc_4_8 3 rfl gw_selects
theorem m968 : Cond.code yX6_stands cX6_stands 4 (some .boolean) ∈ gd := gdc_4_8 4 rfl gw_code
theorem m970 : Cond.methodLink RX3 63 yX3_isLine ∈ gd := gdc_4_8 6 rfl gw_methodLink
def rbX3_findFor_0 : List (Nat × List Nat) := [(0, [42]), (1, [180, 0, 21]), (4, [27]), (5, [182, 0, 31]), (8, [153, 0, 13]), (11, [42]), (12, [180, 0, 15]), (15, [27]), (16, [46]), (17, [28]), (18, [160, 0, 4]), (21, [177]), (22, [3]), (23, [62]), (24, [29]), (25, [42]), (26, [180, 0, 21]), (29, [180, 0, 37]), (32, [27]), (33, [46]), (34, [162, 0, 103]), (37, [42]), (38, [180, 0, 21]), (41, [27])]
theorem rcX3_findFor_0 : dgo (lb cX3_findFor) 0 rbX3_findFor_0 = true := by decide +kernel
theorem dX3_findFor_0 : decode cX3_findFor 0 = .ok (.aload_n 0, 1) := dk_42 (dw rcX3_findFor_0 0 rfl)
theorem dX3_findFor_1 : decode cX3_findFor 1 = .ok (.getfield 21, 3) := dk_180 (dw rcX3_findFor_0 1 rfl) rfl
theorem dX3_findFor_4 : decode cX3_findFor 4 = .ok (.iload_n 1, 1) := dk_27 (dw rcX3_findFor_0 2 rfl)
theorem dX3_findFor_5 : decode cX3_findFor 5 = .ok (.invokevirtual 31, 3) := dk_182 (dw rcX3_findFor_0 3 rfl) rfl
theorem dX3_findFor_8 : decode cX3_findFor 8 = .ok (.ifCond .eq 13, 3) := dk_153 (dw rcX3_findFor_0 4 rfl) rfl
theorem dX3_findFor_11 : decode cX3_findFor 11 = .ok (.aload_n 0, 1) := dk_42 (dw rcX3_findFor_0 5 rfl)
theorem dX3_findFor_12 : decode cX3_findFor 12 = .ok (.getfield 15, 3) := dk_180 (dw rcX3_findFor_0 6 rfl) rfl
theorem dX3_findFor_15 : decode cX3_findFor 15 = .ok (.iload_n 1, 1) := dk_27 (dw rcX3_findFor_0 7 rfl)
theorem dX3_findFor_16 : decode cX3_findFor 16 = .ok (.iaload, 1) := dk_46 (dw rcX3_findFor_0 8 rfl)
theorem dX3_findFor_17 : decode cX3_findFor 17 = .ok (.iload_n 2, 1) := dk_28 (dw rcX3_findFor_0 9 rfl)
theorem dX3_findFor_18 : decode cX3_findFor 18 = .ok (.if_icmp .ne 4, 3) := dk_160 (dw rcX3_findFor_0 10 rfl) rfl
theorem dX3_findFor_21 : decode cX3_findFor 21 = .ok (.return_, 1) := dk_177 (dw rcX3_findFor_0 11 rfl)
theorem dX3_findFor_22 : decode cX3_findFor 22 = .ok (.iconst 0, 1) := dk_3 (dw rcX3_findFor_0 12 rfl)
theorem dX3_findFor_23 : decode cX3_findFor 23 = .ok (.istore_n 3, 1) := dk_62 (dw rcX3_findFor_0 13 rfl)
theorem dX3_findFor_24 : decode cX3_findFor 24 = .ok (.iload_n 3, 1) := dk_29 (dw rcX3_findFor_0 14 rfl)
theorem dX3_findFor_25 : decode cX3_findFor 25 = .ok (.aload_n 0, 1) := dk_42 (dw rcX3_findFor_0 15 rfl)
theorem dX3_findFor_26 : decode cX3_findFor 26 = .ok (.getfield 21, 3) := dk_180 (dw rcX3_findFor_0 16 rfl) rfl
theorem dX3_findFor_29 : decode cX3_findFor 29 = .ok (.getfield 37, 3) := dk_180 (dw rcX3_findFor_0 17 rfl) rfl
theorem dX3_findFor_32 : decode cX3_findFor 32 = .ok (.iload_n 1, 1) := dk_27 (dw rcX3_findFor_0 18 rfl)
theorem dX3_findFor_33 : decode cX3_findFor 33 = .ok (.iaload, 1) := dk_46 (dw rcX3_findFor_0 19 rfl)
theorem dX3_findFor_34 : decode cX3_findFor 34 = .ok (.if_icmp .ge 103, 3) := dk_162 (dw rcX3_findFor_0 20 rfl) rfl
theorem dX3_findFor_37 : decode cX3_findFor 37 = .ok (.aload_n 0, 1) := dk_42 (dw rcX3_findFor_0 21 rfl)
theorem dX3_findFor_38 : decode cX3_findFor 38 = .ok (.getfield 21, 3) := dk_180 (dw rcX3_findFor_0 22 rfl) rfl
theorem dX3_findFor_41 : decode cX3_findFor 41 = .ok (.iload_n 1, 1) := dk_27 (dw rcX3_findFor_0 23 rfl)
def rbX3_findFor_42 : List (Nat × List Nat) := [(42, [29]), (43, [182, 0, 40]), (46, [54, 4]), (48, [21, 4]), (50, [16, 13]), (52, [126]), (53, [153, 0, 8]), (56, [16, 64]), (58, [167, 0, 4]), (61, [3]), (62, [54, 5]), (64, [3]), (65, [54, 6]), (67, [21, 6]), (69, [42]), (70, [180, 0, 21]), (73, [180, 0, 44]), (76, [162, 0, 41]), (79, [21, 6]), (81, [16, 6]), (83, [162, 0, 34]), (86, [21, 5]), (88, [42]), (89, [21, 6])]
theorem rcX3_findFor_42 : dgo (lb cX3_findFor) 0 rbX3_findFor_42 = true := by decide +kernel
theorem dX3_findFor_42 : decode cX3_findFor 42 = .ok (.iload_n 3, 1) := dk_29 (dw rcX3_findFor_42 0 rfl)
theorem dX3_findFor_43 : decode cX3_findFor 43 = .ok (.invokevirtual 40, 3) := dk_182 (dw rcX3_findFor_42 1 rfl) rfl
theorem dX3_findFor_46 : decode cX3_findFor 46 = .ok (.istore 4, 2) := dk_54 (dw rcX3_findFor_42 2 rfl)
theorem dX3_findFor_48 : decode cX3_findFor 48 = .ok (.iload 4, 2) := dk_21 (dw rcX3_findFor_42 3 rfl)
theorem dX3_findFor_50 : decode cX3_findFor 50 = .ok (.bipush 13, 2) := dk_16 (dw rcX3_findFor_42 4 rfl) rfl
theorem dX3_findFor_52 : decode cX3_findFor 52 = .ok (.iand, 1) := dk_126 (dw rcX3_findFor_42 5 rfl)
theorem dX3_findFor_53 : decode cX3_findFor 53 = .ok (.ifCond .eq 8, 3) := dk_153 (dw rcX3_findFor_42 6 rfl) rfl
theorem dX3_findFor_56 : decode cX3_findFor 56 = .ok (.bipush 64, 2) := dk_16 (dw rcX3_findFor_42 7 rfl) rfl
theorem dX3_findFor_58 : decode cX3_findFor 58 = .ok (.goto 4, 3) := dk_167 (dw rcX3_findFor_42 8 rfl) rfl
theorem dX3_findFor_61 : decode cX3_findFor 61 = .ok (.iconst 0, 1) := dk_3 (dw rcX3_findFor_42 9 rfl)
theorem dX3_findFor_62 : decode cX3_findFor 62 = .ok (.istore 5, 2) := dk_54 (dw rcX3_findFor_42 10 rfl)
theorem dX3_findFor_64 : decode cX3_findFor 64 = .ok (.iconst 0, 1) := dk_3 (dw rcX3_findFor_42 11 rfl)
theorem dX3_findFor_65 : decode cX3_findFor 65 = .ok (.istore 6, 2) := dk_54 (dw rcX3_findFor_42 12 rfl)
theorem dX3_findFor_67 : decode cX3_findFor 67 = .ok (.iload 6, 2) := dk_21 (dw rcX3_findFor_42 13 rfl)
theorem dX3_findFor_69 : decode cX3_findFor 69 = .ok (.aload_n 0, 1) := dk_42 (dw rcX3_findFor_42 14 rfl)
theorem dX3_findFor_70 : decode cX3_findFor 70 = .ok (.getfield 21, 3) := dk_180 (dw rcX3_findFor_42 15 rfl) rfl
theorem dX3_findFor_73 : decode cX3_findFor 73 = .ok (.getfield 44, 3) := dk_180 (dw rcX3_findFor_42 16 rfl) rfl
theorem dX3_findFor_76 : decode cX3_findFor 76 = .ok (.if_icmp .ge 41, 3) := dk_162 (dw rcX3_findFor_42 17 rfl) rfl
theorem dX3_findFor_79 : decode cX3_findFor 79 = .ok (.iload 6, 2) := dk_21 (dw rcX3_findFor_42 18 rfl)
theorem dX3_findFor_81 : decode cX3_findFor 81 = .ok (.bipush 6, 2) := dk_16 (dw rcX3_findFor_42 19 rfl) rfl
theorem dX3_findFor_83 : decode cX3_findFor 83 = .ok (.if_icmp .ge 34, 3) := dk_162 (dw rcX3_findFor_42 20 rfl) rfl
theorem dX3_findFor_86 : decode cX3_findFor 86 = .ok (.iload 5, 2) := dk_21 (dw rcX3_findFor_42 21 rfl)
theorem dX3_findFor_88 : decode cX3_findFor 88 = .ok (.aload_n 0, 1) := dk_42 (dw rcX3_findFor_42 22 rfl)
theorem dX3_findFor_89 : decode cX3_findFor 89 = .ok (.iload 6, 2) := dk_21 (dw rcX3_findFor_42 23 rfl)
def rbX3_findFor_91 : List (Nat × List Nat) := [(91, [21, 4]), (93, [28]), (94, [182, 0, 48]), (97, [153, 0, 10]), (100, [4]), (101, [21, 6]), (103, [120]), (104, [167, 0, 4]), (107, [3]), (108, [128]), (109, [54, 5]), (111, [132, 6, 1]), (114, [167, 255, 209]), (117, [42]), (118, [180, 0, 9]), (121, [27]), (122, [17, 1, 144]), (125, [104]), (126, [29]), (127, [96]), (128, [21, 5]), (130, [79]), (131, [132, 3, 1]), (134, [167, 255, 146])]
theorem rcX3_findFor_91 : dgo (lb cX3_findFor) 0 rbX3_findFor_91 = true := by decide +kernel
theorem dX3_findFor_91 : decode cX3_findFor 91 = .ok (.iload 4, 2) := dk_21 (dw rcX3_findFor_91 0 rfl)
theorem dX3_findFor_93 : decode cX3_findFor 93 = .ok (.iload_n 2, 1) := dk_28 (dw rcX3_findFor_91 1 rfl)
theorem dX3_findFor_94 : decode cX3_findFor 94 = .ok (.invokevirtual 48, 3) := dk_182 (dw rcX3_findFor_91 2 rfl) rfl
theorem dX3_findFor_97 : decode cX3_findFor 97 = .ok (.ifCond .eq 10, 3) := dk_153 (dw rcX3_findFor_91 3 rfl) rfl
theorem dX3_findFor_100 : decode cX3_findFor 100 = .ok (.iconst 1, 1) := dk_4 (dw rcX3_findFor_91 4 rfl)
theorem dX3_findFor_101 : decode cX3_findFor 101 = .ok (.iload 6, 2) := dk_21 (dw rcX3_findFor_91 5 rfl)
theorem dX3_findFor_103 : decode cX3_findFor 103 = .ok (.ishl, 1) := dk_120 (dw rcX3_findFor_91 6 rfl)
theorem dX3_findFor_104 : decode cX3_findFor 104 = .ok (.goto 4, 3) := dk_167 (dw rcX3_findFor_91 7 rfl) rfl
theorem dX3_findFor_107 : decode cX3_findFor 107 = .ok (.iconst 0, 1) := dk_3 (dw rcX3_findFor_91 8 rfl)
theorem dX3_findFor_108 : decode cX3_findFor 108 = .ok (.ior, 1) := dk_128 (dw rcX3_findFor_91 9 rfl)
theorem dX3_findFor_109 : decode cX3_findFor 109 = .ok (.istore 5, 2) := dk_54 (dw rcX3_findFor_91 10 rfl)
theorem dX3_findFor_111 : decode cX3_findFor 111 = .ok (.iinc 6 1, 3) := dk_132 (dw rcX3_findFor_91 11 rfl) rfl
theorem dX3_findFor_114 : decode cX3_findFor 114 = .ok (.goto (-47), 3) := dk_167 (dw rcX3_findFor_91 12 rfl) rfl
theorem dX3_findFor_117 : decode cX3_findFor 117 = .ok (.aload_n 0, 1) := dk_42 (dw rcX3_findFor_91 13 rfl)
theorem dX3_findFor_118 : decode cX3_findFor 118 = .ok (.getfield 9, 3) := dk_180 (dw rcX3_findFor_91 14 rfl) rfl
theorem dX3_findFor_121 : decode cX3_findFor 121 = .ok (.iload_n 1, 1) := dk_27 (dw rcX3_findFor_91 15 rfl)
theorem dX3_findFor_122 : decode cX3_findFor 122 = .ok (.sipush 400, 3) := dk_17 (dw rcX3_findFor_91 16 rfl) rfl
theorem dX3_findFor_125 : decode cX3_findFor 125 = .ok (.imul, 1) := dk_104 (dw rcX3_findFor_91 17 rfl)
theorem dX3_findFor_126 : decode cX3_findFor 126 = .ok (.iload_n 3, 1) := dk_29 (dw rcX3_findFor_91 18 rfl)
theorem dX3_findFor_127 : decode cX3_findFor 127 = .ok (.iadd, 1) := dk_96 (dw rcX3_findFor_91 19 rfl)
theorem dX3_findFor_128 : decode cX3_findFor 128 = .ok (.iload 5, 2) := dk_21 (dw rcX3_findFor_91 20 rfl)
theorem dX3_findFor_130 : decode cX3_findFor 130 = .ok (.iastore, 1) := dk_79 (dw rcX3_findFor_91 21 rfl)
theorem dX3_findFor_131 : decode cX3_findFor 131 = .ok (.iinc 3 1, 3) := dk_132 (dw rcX3_findFor_91 22 rfl) rfl
theorem dX3_findFor_134 : decode cX3_findFor 134 = .ok (.goto (-110), 3) := dk_167 (dw rcX3_findFor_91 23 rfl) rfl
def rbX3_findFor_137 : List (Nat × List Nat) := [(137, [42]), (138, [180, 0, 15]), (141, [27]), (142, [28]), (143, [79]), (144, [177])]
theorem rcX3_findFor_137 : dgo (lb cX3_findFor) 0 rbX3_findFor_137 = true := by decide +kernel
theorem dX3_findFor_137 : decode cX3_findFor 137 = .ok (.aload_n 0, 1) := dk_42 (dw rcX3_findFor_137 0 rfl)
theorem dX3_findFor_138 : decode cX3_findFor 138 = .ok (.getfield 15, 3) := dk_180 (dw rcX3_findFor_137 1 rfl) rfl
theorem dX3_findFor_141 : decode cX3_findFor 141 = .ok (.iload_n 1, 1) := dk_27 (dw rcX3_findFor_137 2 rfl)
theorem dX3_findFor_142 : decode cX3_findFor 142 = .ok (.iload_n 2, 1) := dk_28 (dw rcX3_findFor_137 3 rfl)
theorem dX3_findFor_143 : decode cX3_findFor 143 = .ok (.iastore, 1) := dk_79 (dw rcX3_findFor_137 4 rfl)
theorem dX3_findFor_144 : decode cX3_findFor 144 = .ok (.return_, 1) := dk_177 (dw rcX3_findFor_137 5 rfl)
def rbX3_isLawful_0 : List (Nat × List Nat) := [(0, [42]), (1, [180, 0, 21]), (4, [27]), (5, [28]), (6, [21, 4]), (8, [182, 0, 56]), (11, [154, 0, 5]), (14, [3]), (15, [172]), (16, [21, 4]), (18, [54, 5]), (20, [21, 5]), (22, [21, 4]), (24, [42]), (25, [180, 0, 21]), (28, [180, 0, 60]), (31, [27]), (32, [46]), (33, [96]), (34, [162, 0, 22]), (37, [42]), (38, [28]), (39, [29]), (40, [21, 5])]
theorem rcX3_isLawful_0 : dgo (lb cX3_isLawful) 0 rbX3_isLawful_0 = true := by decide +kernel
theorem dX3_isLawful_0 : decode cX3_isLawful 0 = .ok (.aload_n 0, 1) := dk_42 (dw rcX3_isLawful_0 0 rfl)
theorem dX3_isLawful_1 : decode cX3_isLawful 1 = .ok (.getfield 21, 3) := dk_180 (dw rcX3_isLawful_0 1 rfl) rfl
theorem dX3_isLawful_4 : decode cX3_isLawful 4 = .ok (.iload_n 1, 1) := dk_27 (dw rcX3_isLawful_0 2 rfl)
theorem dX3_isLawful_5 : decode cX3_isLawful 5 = .ok (.iload_n 2, 1) := dk_28 (dw rcX3_isLawful_0 3 rfl)
theorem dX3_isLawful_6 : decode cX3_isLawful 6 = .ok (.iload 4, 2) := dk_21 (dw rcX3_isLawful_0 4 rfl)
theorem dX3_isLawful_8 : decode cX3_isLawful 8 = .ok (.invokevirtual 56, 3) := dk_182 (dw rcX3_isLawful_0 5 rfl) rfl
theorem dX3_isLawful_11 : decode cX3_isLawful 11 = .ok (.ifCond .ne 5, 3) := dk_154 (dw rcX3_isLawful_0 6 rfl) rfl
theorem dX3_isLawful_14 : decode cX3_isLawful 14 = .ok (.iconst 0, 1) := dk_3 (dw rcX3_isLawful_0 7 rfl)
theorem dX3_isLawful_15 : decode cX3_isLawful 15 = .ok (.ireturn, 1) := dk_172 (dw rcX3_isLawful_0 8 rfl)
theorem dX3_isLawful_16 : decode cX3_isLawful 16 = .ok (.iload 4, 2) := dk_21 (dw rcX3_isLawful_0 9 rfl)
theorem dX3_isLawful_18 : decode cX3_isLawful 18 = .ok (.istore 5, 2) := dk_54 (dw rcX3_isLawful_0 10 rfl)
theorem dX3_isLawful_20 : decode cX3_isLawful 20 = .ok (.iload 5, 2) := dk_21 (dw rcX3_isLawful_0 11 rfl)
theorem dX3_isLawful_22 : decode cX3_isLawful 22 = .ok (.iload 4, 2) := dk_21 (dw rcX3_isLawful_0 12 rfl)
theorem dX3_isLawful_24 : decode cX3_isLawful 24 = .ok (.aload_n 0, 1) := dk_42 (dw rcX3_isLawful_0 13 rfl)
theorem dX3_isLawful_25 : decode cX3_isLawful 25 = .ok (.getfield 21, 3) := dk_180 (dw rcX3_isLawful_0 14 rfl) rfl
theorem dX3_isLawful_28 : decode cX3_isLawful 28 = .ok (.getfield 60, 3) := dk_180 (dw rcX3_isLawful_0 15 rfl) rfl
theorem dX3_isLawful_31 : decode cX3_isLawful 31 = .ok (.iload_n 1, 1) := dk_27 (dw rcX3_isLawful_0 16 rfl)
theorem dX3_isLawful_32 : decode cX3_isLawful 32 = .ok (.iaload, 1) := dk_46 (dw rcX3_isLawful_0 17 rfl)
theorem dX3_isLawful_33 : decode cX3_isLawful 33 = .ok (.iadd, 1) := dk_96 (dw rcX3_isLawful_0 18 rfl)
theorem dX3_isLawful_34 : decode cX3_isLawful 34 = .ok (.if_icmp .ge 22, 3) := dk_162 (dw rcX3_isLawful_0 19 rfl) rfl
theorem dX3_isLawful_37 : decode cX3_isLawful 37 = .ok (.aload_n 0, 1) := dk_42 (dw rcX3_isLawful_0 20 rfl)
theorem dX3_isLawful_38 : decode cX3_isLawful 38 = .ok (.iload_n 2, 1) := dk_28 (dw rcX3_isLawful_0 21 rfl)
theorem dX3_isLawful_39 : decode cX3_isLawful 39 = .ok (.iload_n 3, 1) := dk_29 (dw rcX3_isLawful_0 22 rfl)
theorem dX3_isLawful_40 : decode cX3_isLawful 40 = .ok (.iload 5, 2) := dk_21 (dw rcX3_isLawful_0 23 rfl)
def rbX3_isLawful_42 : List (Nat × List Nat) := [(42, [182, 0, 63]), (45, [153, 0, 5]), (48, [3]), (49, [172]), (50, [132, 5, 1]), (53, [167, 255, 223]), (56, [4]), (57, [172])]
theorem rcX3_isLawful_42 : dgo (lb cX3_isLawful) 0 rbX3_isLawful_42 = true := by decide +kernel
theorem dX3_isLawful_42 : decode cX3_isLawful 42 = .ok (.invokevirtual 63, 3) := dk_182 (dw rcX3_isLawful_42 0 rfl) rfl
theorem dX3_isLawful_45 : decode cX3_isLawful 45 = .ok (.ifCond .eq 5, 3) := dk_153 (dw rcX3_isLawful_42 1 rfl) rfl
theorem dX3_isLawful_48 : decode cX3_isLawful 48 = .ok (.iconst 0, 1) := dk_3 (dw rcX3_isLawful_42 2 rfl)
theorem dX3_isLawful_49 : decode cX3_isLawful 49 = .ok (.ireturn, 1) := dk_172 (dw rcX3_isLawful_42 3 rfl)
theorem dX3_isLawful_50 : decode cX3_isLawful 50 = .ok (.iinc 5 1, 3) := dk_132 (dw rcX3_isLawful_42 4 rfl) rfl
theorem dX3_isLawful_53 : decode cX3_isLawful 53 = .ok (.goto (-33), 3) := dk_167 (dw rcX3_isLawful_42 5 rfl) rfl
theorem dX3_isLawful_56 : decode cX3_isLawful 56 = .ok (.iconst 1, 1) := dk_4 (dw rcX3_isLawful_42 6 rfl)
theorem dX3_isLawful_57 : decode cX3_isLawful 57 = .ok (.ireturn, 1) := dk_172 (dw rcX3_isLawful_42 7 rfl)
def rbX3_isLine_0 : List (Nat × List Nat) := [(0, [42]), (1, [180, 0, 21]), (4, [27]), (5, [29]), (6, [182, 0, 52]), (9, [153, 0, 33]), (12, [42]), (13, [180, 0, 9]), (16, [27]), (17, [17, 1, 144]), (20, [104]), (21, [29]), (22, [96]), (23, [46]), (24, [28]), (25, [154, 0, 8]), (28, [16, 64]), (30, [167, 0, 4]), (33, [28]), (34, [126]), (35, [153, 0, 7]), (38, [4]), (39, [167, 0, 4]), (42, [3])]
theorem rcX3_isLine_0 : dgo (lb cX3_isLine) 0 rbX3_isLine_0 = true := by decide +kernel
theorem dX3_isLine_0 : decode cX3_isLine 0 = .ok (.aload_n 0, 1) := dk_42 (dw rcX3_isLine_0 0 rfl)
theorem dX3_isLine_1 : decode cX3_isLine 1 = .ok (.getfield 21, 3) := dk_180 (dw rcX3_isLine_0 1 rfl) rfl
theorem dX3_isLine_4 : decode cX3_isLine 4 = .ok (.iload_n 1, 1) := dk_27 (dw rcX3_isLine_0 2 rfl)
theorem dX3_isLine_5 : decode cX3_isLine 5 = .ok (.iload_n 3, 1) := dk_29 (dw rcX3_isLine_0 3 rfl)
theorem dX3_isLine_6 : decode cX3_isLine 6 = .ok (.invokevirtual 52, 3) := dk_182 (dw rcX3_isLine_0 4 rfl) rfl
theorem dX3_isLine_9 : decode cX3_isLine 9 = .ok (.ifCond .eq 33, 3) := dk_153 (dw rcX3_isLine_0 5 rfl) rfl
theorem dX3_isLine_12 : decode cX3_isLine 12 = .ok (.aload_n 0, 1) := dk_42 (dw rcX3_isLine_0 6 rfl)
theorem dX3_isLine_13 : decode cX3_isLine 13 = .ok (.getfield 9, 3) := dk_180 (dw rcX3_isLine_0 7 rfl) rfl
theorem dX3_isLine_16 : decode cX3_isLine 16 = .ok (.iload_n 1, 1) := dk_27 (dw rcX3_isLine_0 8 rfl)
theorem dX3_isLine_17 : decode cX3_isLine 17 = .ok (.sipush 400, 3) := dk_17 (dw rcX3_isLine_0 9 rfl) rfl
theorem dX3_isLine_20 : decode cX3_isLine 20 = .ok (.imul, 1) := dk_104 (dw rcX3_isLine_0 10 rfl)
theorem dX3_isLine_21 : decode cX3_isLine 21 = .ok (.iload_n 3, 1) := dk_29 (dw rcX3_isLine_0 11 rfl)
theorem dX3_isLine_22 : decode cX3_isLine 22 = .ok (.iadd, 1) := dk_96 (dw rcX3_isLine_0 12 rfl)
theorem dX3_isLine_23 : decode cX3_isLine 23 = .ok (.iaload, 1) := dk_46 (dw rcX3_isLine_0 13 rfl)
theorem dX3_isLine_24 : decode cX3_isLine 24 = .ok (.iload_n 2, 1) := dk_28 (dw rcX3_isLine_0 14 rfl)
theorem dX3_isLine_25 : decode cX3_isLine 25 = .ok (.ifCond .ne 8, 3) := dk_154 (dw rcX3_isLine_0 15 rfl) rfl
theorem dX3_isLine_28 : decode cX3_isLine 28 = .ok (.bipush 64, 2) := dk_16 (dw rcX3_isLine_0 16 rfl) rfl
theorem dX3_isLine_30 : decode cX3_isLine 30 = .ok (.goto 4, 3) := dk_167 (dw rcX3_isLine_0 17 rfl) rfl
theorem dX3_isLine_33 : decode cX3_isLine 33 = .ok (.iload_n 2, 1) := dk_28 (dw rcX3_isLine_0 18 rfl)
theorem dX3_isLine_34 : decode cX3_isLine 34 = .ok (.iand, 1) := dk_126 (dw rcX3_isLine_0 19 rfl)
theorem dX3_isLine_35 : decode cX3_isLine 35 = .ok (.ifCond .eq 7, 3) := dk_153 (dw rcX3_isLine_0 20 rfl) rfl
theorem dX3_isLine_38 : decode cX3_isLine 38 = .ok (.iconst 1, 1) := dk_4 (dw rcX3_isLine_0 21 rfl)
theorem dX3_isLine_39 : decode cX3_isLine 39 = .ok (.goto 4, 3) := dk_167 (dw rcX3_isLine_0 22 rfl) rfl
theorem dX3_isLine_42 : decode cX3_isLine 42 = .ok (.iconst 0, 1) := dk_3 (dw rcX3_isLine_0 23 rfl)
theorem dX3_isLine_43 : decode cX3_isLine 43 = .ok (.ireturn, 1) := dq_of (by decide +kernel)
def rbX3_lookAt_0 : List (Nat × List Nat) := [(0, [42]), (1, [43]), (2, [181, 0, 21]), (5, [42]), (6, [180, 0, 15]), (9, [2]), (10, [184, 0, 25]), (13, [177])]
theorem rcX3_lookAt_0 : dgo (lb cX3_lookAt) 0 rbX3_lookAt_0 = true := by decide +kernel
theorem dX3_lookAt_0 : decode cX3_lookAt 0 = .ok (.aload_n 0, 1) := dk_42 (dw rcX3_lookAt_0 0 rfl)
theorem dX3_lookAt_1 : decode cX3_lookAt 1 = .ok (.aload_n 1, 1) := dk_43 (dw rcX3_lookAt_0 1 rfl)
theorem dX3_lookAt_2 : decode cX3_lookAt 2 = .ok (.putfield 21, 3) := dk_181 (dw rcX3_lookAt_0 2 rfl) rfl
theorem dX3_lookAt_5 : decode cX3_lookAt 5 = .ok (.aload_n 0, 1) := dk_42 (dw rcX3_lookAt_0 3 rfl)
theorem dX3_lookAt_6 : decode cX3_lookAt 6 = .ok (.getfield 15, 3) := dk_180 (dw rcX3_lookAt_0 4 rfl) rfl
theorem dX3_lookAt_9 : decode cX3_lookAt 9 = .ok (.iconst (-1), 1) := dk_2 (dw rcX3_lookAt_0 5 rfl)
theorem dX3_lookAt_10 : decode cX3_lookAt 10 = .ok (.invokestatic 25, 3) := dk_184 (dw rcX3_lookAt_0 6 rfl) rfl
theorem dX3_lookAt_13 : decode cX3_lookAt 13 = .ok (.return_, 1) := dk_177 (dw rcX3_lookAt_0 7 rfl)
def rbX3_valueOf_0 : List (Nat × List Nat) := [(0, [42]), (1, [3]), (2, [181, 0, 66]), (5, [42]), (6, [180, 0, 21]), (9, [180, 0, 69]), (12, [27]), (13, [46]), (14, [54, 4]), (16, [21, 4]), (18, [42]), (19, [180, 0, 21]), (22, [180, 0, 69]), (25, [27]), (26, [4]), (27, [96]), (28, [46]), (29, [162, 0, 143]), (32, [42]), (33, [180, 0, 21]), (36, [180, 0, 72]), (39, [21, 4]), (41, [46]), (42, [17, 3, 255])]
theorem rcX3_valueOf_0 : dgo (lb cX3_valueOf) 0 rbX3_valueOf_0 = true := by decide +kernel
theorem dX3_valueOf_0 : decode cX3_valueOf 0 = .ok (.aload_n 0, 1) := dk_42 (dw rcX3_valueOf_0 0 rfl)
theorem dX3_valueOf_1 : decode cX3_valueOf 1 = .ok (.iconst 0, 1) := dk_3 (dw rcX3_valueOf_0 1 rfl)
theorem dX3_valueOf_2 : decode cX3_valueOf 2 = .ok (.putfield 66, 3) := dk_181 (dw rcX3_valueOf_0 2 rfl) rfl
theorem dX3_valueOf_5 : decode cX3_valueOf 5 = .ok (.aload_n 0, 1) := dk_42 (dw rcX3_valueOf_0 3 rfl)
theorem dX3_valueOf_6 : decode cX3_valueOf 6 = .ok (.getfield 21, 3) := dk_180 (dw rcX3_valueOf_0 4 rfl) rfl
theorem dX3_valueOf_9 : decode cX3_valueOf 9 = .ok (.getfield 69, 3) := dk_180 (dw rcX3_valueOf_0 5 rfl) rfl
theorem dX3_valueOf_12 : decode cX3_valueOf 12 = .ok (.iload_n 1, 1) := dk_27 (dw rcX3_valueOf_0 6 rfl)
theorem dX3_valueOf_13 : decode cX3_valueOf 13 = .ok (.iaload, 1) := dk_46 (dw rcX3_valueOf_0 7 rfl)
theorem dX3_valueOf_14 : decode cX3_valueOf 14 = .ok (.istore 4, 2) := dk_54 (dw rcX3_valueOf_0 8 rfl)
theorem dX3_valueOf_16 : decode cX3_valueOf 16 = .ok (.iload 4, 2) := dk_21 (dw rcX3_valueOf_0 9 rfl)
theorem dX3_valueOf_18 : decode cX3_valueOf 18 = .ok (.aload_n 0, 1) := dk_42 (dw rcX3_valueOf_0 10 rfl)
theorem dX3_valueOf_19 : decode cX3_valueOf 19 = .ok (.getfield 21, 3) := dk_180 (dw rcX3_valueOf_0 11 rfl) rfl
theorem dX3_valueOf_22 : decode cX3_valueOf 22 = .ok (.getfield 69, 3) := dk_180 (dw rcX3_valueOf_0 12 rfl) rfl
theorem dX3_valueOf_25 : decode cX3_valueOf 25 = .ok (.iload_n 1, 1) := dk_27 (dw rcX3_valueOf_0 13 rfl)
theorem dX3_valueOf_26 : decode cX3_valueOf 26 = .ok (.iconst 1, 1) := dk_4 (dw rcX3_valueOf_0 14 rfl)
theorem dX3_valueOf_27 : decode cX3_valueOf 27 = .ok (.iadd, 1) := dk_96 (dw rcX3_valueOf_0 15 rfl)
theorem dX3_valueOf_28 : decode cX3_valueOf 28 = .ok (.iaload, 1) := dk_46 (dw rcX3_valueOf_0 16 rfl)
theorem dX3_valueOf_29 : decode cX3_valueOf 29 = .ok (.if_icmp .ge 143, 3) := dk_162 (dw rcX3_valueOf_0 17 rfl) rfl
theorem dX3_valueOf_32 : decode cX3_valueOf 32 = .ok (.aload_n 0, 1) := dk_42 (dw rcX3_valueOf_0 18 rfl)
theorem dX3_valueOf_33 : decode cX3_valueOf 33 = .ok (.getfield 21, 3) := dk_180 (dw rcX3_valueOf_0 19 rfl) rfl
theorem dX3_valueOf_36 : decode cX3_valueOf 36 = .ok (.getfield 72, 3) := dk_180 (dw rcX3_valueOf_0 20 rfl) rfl
theorem dX3_valueOf_39 : decode cX3_valueOf 39 = .ok (.iload 4, 2) := dk_21 (dw rcX3_valueOf_0 21 rfl)
theorem dX3_valueOf_41 : decode cX3_valueOf 41 = .ok (.iaload, 1) := dk_46 (dw rcX3_valueOf_0 22 rfl)
theorem dX3_valueOf_42 : decode cX3_valueOf 42 = .ok (.sipush 1023, 3) := dk_17 (dw rcX3_valueOf_0 23 rfl) rfl
def rbX3_valueOf_45 : List (Nat × List Nat) := [(45, [126]), (46, [54, 5]), (48, [21, 5]), (50, [17, 0, 201]), (53, [160, 0, 23]), (56, [42]), (57, [42]), (58, [180, 0, 21]), (61, [180, 0, 72]), (64, [21, 4]), (66, [46]), (67, [16, 10]), (69, [122]), (70, [182, 0, 75]), (73, [167, 0, 93]), (76, [21, 5]), (78, [17, 0, 146]), (81, [160, 0, 22]), (84, [42]), (85, [42]), (86, [182, 0, 79]), (89, [154, 0, 7]), (92, [4]), (93, [167, 0, 4])]
theorem rcX3_valueOf_45 : dgo (lb cX3_valueOf) 0 rbX3_valueOf_45 = true := by decide +kernel
theorem dX3_valueOf_45 : decode cX3_valueOf 45 = .ok (.iand, 1) := dk_126 (dw rcX3_valueOf_45 0 rfl)
theorem dX3_valueOf_46 : decode cX3_valueOf 46 = .ok (.istore 5, 2) := dk_54 (dw rcX3_valueOf_45 1 rfl)
theorem dX3_valueOf_48 : decode cX3_valueOf 48 = .ok (.iload 5, 2) := dk_21 (dw rcX3_valueOf_45 2 rfl)
theorem dX3_valueOf_50 : decode cX3_valueOf 50 = .ok (.sipush 201, 3) := dk_17 (dw rcX3_valueOf_45 3 rfl) rfl
theorem dX3_valueOf_53 : decode cX3_valueOf 53 = .ok (.if_icmp .ne 23, 3) := dk_160 (dw rcX3_valueOf_45 4 rfl) rfl
theorem dX3_valueOf_56 : decode cX3_valueOf 56 = .ok (.aload_n 0, 1) := dk_42 (dw rcX3_valueOf_45 5 rfl)
theorem dX3_valueOf_57 : decode cX3_valueOf 57 = .ok (.aload_n 0, 1) := dk_42 (dw rcX3_valueOf_45 6 rfl)
theorem dX3_valueOf_58 : decode cX3_valueOf 58 = .ok (.getfield 21, 3) := dk_180 (dw rcX3_valueOf_45 7 rfl) rfl
theorem dX3_valueOf_61 : decode cX3_valueOf 61 = .ok (.getfield 72, 3) := dk_180 (dw rcX3_valueOf_45 8 rfl) rfl
theorem dX3_valueOf_64 : decode cX3_valueOf 64 = .ok (.iload 4, 2) := dk_21 (dw rcX3_valueOf_45 9 rfl)
theorem dX3_valueOf_66 : decode cX3_valueOf 66 = .ok (.iaload, 1) := dk_46 (dw rcX3_valueOf_45 10 rfl)
theorem dX3_valueOf_67 : decode cX3_valueOf 67 = .ok (.bipush 10, 2) := dk_16 (dw rcX3_valueOf_45 11 rfl) rfl
theorem dX3_valueOf_69 : decode cX3_valueOf 69 = .ok (.ishr, 1) := dk_122 (dw rcX3_valueOf_45 12 rfl)
theorem dX3_valueOf_70 : decode cX3_valueOf 70 = .ok (.invokevirtual 75, 3) := dk_182 (dw rcX3_valueOf_45 13 rfl) rfl
theorem dX3_valueOf_73 : decode cX3_valueOf 73 = .ok (.goto 93, 3) := dk_167 (dw rcX3_valueOf_45 14 rfl) rfl
theorem dX3_valueOf_76 : decode cX3_valueOf 76 = .ok (.iload 5, 2) := dk_21 (dw rcX3_valueOf_45 15 rfl)
theorem dX3_valueOf_78 : decode cX3_valueOf 78 = .ok (.sipush 146, 3) := dk_17 (dw rcX3_valueOf_45 16 rfl) rfl
theorem dX3_valueOf_81 : decode cX3_valueOf 81 = .ok (.if_icmp .ne 22, 3) := dk_160 (dw rcX3_valueOf_45 17 rfl) rfl
theorem dX3_valueOf_84 : decode cX3_valueOf 84 = .ok (.aload_n 0, 1) := dk_42 (dw rcX3_valueOf_45 18 rfl)
theorem dX3_valueOf_85 : decode cX3_valueOf 85 = .ok (.aload_n 0, 1) := dk_42 (dw rcX3_valueOf_45 19 rfl)
theorem dX3_valueOf_86 : decode cX3_valueOf 86 = .ok (.invokevirtual 79, 3) := dk_182 (dw rcX3_valueOf_45 20 rfl) rfl
theorem dX3_valueOf_89 : decode cX3_valueOf 89 = .ok (.ifCond .ne 7, 3) := dk_154 (dw rcX3_valueOf_45 21 rfl) rfl
theorem dX3_valueOf_92 : decode cX3_valueOf 92 = .ok (.iconst 1, 1) := dk_4 (dw rcX3_valueOf_45 22 rfl)
theorem dX3_valueOf_93 : decode cX3_valueOf 93 = .ok (.goto 4, 3) := dk_167 (dw rcX3_valueOf_45 23 rfl) rfl
def rbX3_valueOf_96 : List (Nat × List Nat) := [(96, [3]), (97, [182, 0, 75]), (100, [167, 0, 66]), (103, [21, 5]), (105, [17, 0, 144]), (108, [159, 0, 19]), (111, [21, 5]), (113, [17, 0, 145]), (116, [159, 0, 11]), (119, [21, 5]), (121, [17, 0, 128]), (124, [162, 0, 31]), (127, [42]), (128, [182, 0, 79]), (131, [54, 6]), (133, [42]), (134, [182, 0, 79]), (137, [54, 7]), (139, [42]), (140, [21, 5]), (142, [21, 7]), (144, [21, 6]), (146, [184, 0, 83]), (149, [182, 0, 75])]
theorem rcX3_valueOf_96 : dgo (lb cX3_valueOf) 0 rbX3_valueOf_96 = true := by decide +kernel
theorem dX3_valueOf_96 : decode cX3_valueOf 96 = .ok (.iconst 0, 1) := dk_3 (dw rcX3_valueOf_96 0 rfl)
theorem dX3_valueOf_97 : decode cX3_valueOf 97 = .ok (.invokevirtual 75, 3) := dk_182 (dw rcX3_valueOf_96 1 rfl) rfl
theorem dX3_valueOf_100 : decode cX3_valueOf 100 = .ok (.goto 66, 3) := dk_167 (dw rcX3_valueOf_96 2 rfl) rfl
theorem dX3_valueOf_103 : decode cX3_valueOf 103 = .ok (.iload 5, 2) := dk_21 (dw rcX3_valueOf_96 3 rfl)
theorem dX3_valueOf_105 : decode cX3_valueOf 105 = .ok (.sipush 144, 3) := dk_17 (dw rcX3_valueOf_96 4 rfl) rfl
theorem dX3_valueOf_108 : decode cX3_valueOf 108 = .ok (.if_icmp .eq 19, 3) := dk_159 (dw rcX3_valueOf_96 5 rfl) rfl
theorem dX3_valueOf_111 : decode cX3_valueOf 111 = .ok (.iload 5, 2) := dk_21 (dw rcX3_valueOf_96 6 rfl)
theorem dX3_valueOf_113 : decode cX3_valueOf 113 = .ok (.sipush 145, 3) := dk_17 (dw rcX3_valueOf_96 7 rfl) rfl
theorem dX3_valueOf_116 : decode cX3_valueOf 116 = .ok (.if_icmp .eq 11, 3) := dk_159 (dw rcX3_valueOf_96 8 rfl) rfl
theorem dX3_valueOf_119 : decode cX3_valueOf 119 = .ok (.iload 5, 2) := dk_21 (dw rcX3_valueOf_96 9 rfl)
theorem dX3_valueOf_121 : decode cX3_valueOf 121 = .ok (.sipush 128, 3) := dk_17 (dw rcX3_valueOf_96 10 rfl) rfl
theorem dX3_valueOf_124 : decode cX3_valueOf 124 = .ok (.if_icmp .ge 31, 3) := dk_162 (dw rcX3_valueOf_96 11 rfl) rfl
theorem dX3_valueOf_127 : decode cX3_valueOf 127 = .ok (.aload_n 0, 1) := dk_42 (dw rcX3_valueOf_96 12 rfl)
theorem dX3_valueOf_128 : decode cX3_valueOf 128 = .ok (.invokevirtual 79, 3) := dk_182 (dw rcX3_valueOf_96 13 rfl) rfl
theorem dX3_valueOf_131 : decode cX3_valueOf 131 = .ok (.istore 6, 2) := dk_54 (dw rcX3_valueOf_96 14 rfl)
theorem dX3_valueOf_133 : decode cX3_valueOf 133 = .ok (.aload_n 0, 1) := dk_42 (dw rcX3_valueOf_96 15 rfl)
theorem dX3_valueOf_134 : decode cX3_valueOf 134 = .ok (.invokevirtual 79, 3) := dk_182 (dw rcX3_valueOf_96 16 rfl) rfl
theorem dX3_valueOf_137 : decode cX3_valueOf 137 = .ok (.istore 7, 2) := dk_54 (dw rcX3_valueOf_96 17 rfl)
theorem dX3_valueOf_139 : decode cX3_valueOf 139 = .ok (.aload_n 0, 1) := dk_42 (dw rcX3_valueOf_96 18 rfl)
theorem dX3_valueOf_140 : decode cX3_valueOf 140 = .ok (.iload 5, 2) := dk_21 (dw rcX3_valueOf_96 19 rfl)
theorem dX3_valueOf_142 : decode cX3_valueOf 142 = .ok (.iload 7, 2) := dk_21 (dw rcX3_valueOf_96 20 rfl)
theorem dX3_valueOf_144 : decode cX3_valueOf 144 = .ok (.iload 6, 2) := dk_21 (dw rcX3_valueOf_96 21 rfl)
theorem dX3_valueOf_146 : decode cX3_valueOf 146 = .ok (.invokestatic 83, 3) := dk_184 (dw rcX3_valueOf_96 22 rfl) rfl
theorem dX3_valueOf_149 : decode cX3_valueOf 149 = .ok (.invokevirtual 75, 3) := dk_182 (dw rcX3_valueOf_96 23 rfl) rfl
def rbX3_valueOf_152 : List (Nat × List Nat) := [(152, [167, 0, 14]), (155, [42]), (156, [21, 5]), (158, [28]), (159, [29]), (160, [184, 0, 86]), (163, [182, 0, 75]), (166, [132, 4, 1]), (169, [167, 255, 103]), (172, [42]), (173, [182, 0, 79]), (176, [172])]
theorem rcX3_valueOf_152 : dgo (lb cX3_valueOf) 0 rbX3_valueOf_152 = true := by decide +kernel
theorem dX3_valueOf_152 : decode cX3_valueOf 152 = .ok (.goto 14, 3) := dk_167 (dw rcX3_valueOf_152 0 rfl) rfl
theorem dX3_valueOf_155 : decode cX3_valueOf 155 = .ok (.aload_n 0, 1) := dk_42 (dw rcX3_valueOf_152 1 rfl)
theorem dX3_valueOf_156 : decode cX3_valueOf 156 = .ok (.iload 5, 2) := dk_21 (dw rcX3_valueOf_152 2 rfl)
theorem dX3_valueOf_158 : decode cX3_valueOf 158 = .ok (.iload_n 2, 1) := dk_28 (dw rcX3_valueOf_152 3 rfl)
theorem dX3_valueOf_159 : decode cX3_valueOf 159 = .ok (.iload_n 3, 1) := dk_29 (dw rcX3_valueOf_152 4 rfl)
theorem dX3_valueOf_160 : decode cX3_valueOf 160 = .ok (.invokestatic 86, 3) := dk_184 (dw rcX3_valueOf_152 5 rfl) rfl
theorem dX3_valueOf_163 : decode cX3_valueOf 163 = .ok (.invokevirtual 75, 3) := dk_182 (dw rcX3_valueOf_152 6 rfl) rfl
theorem dX3_valueOf_166 : decode cX3_valueOf 166 = .ok (.iinc 4 1, 3) := dk_132 (dw rcX3_valueOf_152 7 rfl) rfl
theorem dX3_valueOf_169 : decode cX3_valueOf 169 = .ok (.goto (-153), 3) := dk_167 (dw rcX3_valueOf_152 8 rfl) rfl
theorem dX3_valueOf_172 : decode cX3_valueOf 172 = .ok (.aload_n 0, 1) := dk_42 (dw rcX3_valueOf_152 9 rfl)
theorem dX3_valueOf_173 : decode cX3_valueOf 173 = .ok (.invokevirtual 79, 3) := dk_182 (dw rcX3_valueOf_152 10 rfl) rfl
theorem dX3_valueOf_176 : decode cX3_valueOf 176 = .ok (.ireturn, 1) := dk_172 (dw rcX3_valueOf_152 11 rfl)
set_option maxHeartbeats 4000000 in
set_option maxRecDepth 100000 in
theorem k_lLook_1 (l : Launch) (D : va_G) (k : KT) (A : Nat → Prop) (a : Nat → Nat) (z : SK) (G : GS)   : Met l yX3_lookAt (WS yX3_lookAt cX3_lookAt 2 none) ({ frames := 1, cells := 0, slots := 0, locals := 23 }) (va_Pc [.ref (a 6), .ref (a 1)] (cW D k A a z G)) (va_Qv (fun (G1 : GS) => P_lLook_1 G G1) (fun (G1 : GS) t => Wd D k A a G1 t.heap) A) 0 0 A := by
  refine Met.ofW (cc := cX3_lookAt) (maxL := 2) (ret := none) (by decide) rfl ?_
  intro p e s m args below meth c s₁ B hml hv
  obtain ⟨rfl, hW, hB_G, hK, hZ⟩ := hv
  have hx := B.exec
  have hb := B.bytes
  have hr := B.returns
  have hts := atoms_spec (ws := WS yX3_lookAt cX3_lookAt 2 none) B.pre
  have hgd : ∀ w ∈ gd, w ∈ WS yX3_lookAt cX3_lookAt 2 none := fun w h => List.mem_cons_of_mem _ h
  have hg : ∀ w ∈ gd, w.before _ s = true := fun w h => hts w (hgd w h)
  have hown : s.vm.findClass RX3 = some m.cls := findClass_of_methodNamed B.named
  have hS : va_S A s.heap s.heap [] := va_S.rf
  have hF : Fr [38] [(6, 4)] G G := Fr.rf
  have hl := lv_entry ([.ref (a 6), .ref (a 1)]) (n := 2) (Nat.le_of_ble_eq_true rfl)
  rw [lg_entry_eq]
  generalize (lg_sl ([.ref (a 6), .ref (a 1)]) ++ List.replicate (2 - (lg_sl ([.ref (a 6), .ref (a 1)])).length) Slot.unset).toArray = ls at hl ⊢
  have hl : lv_has ls 2 [(0, .ref (a 6)), (1, .ref (a 1))] := hl
  refine lv_aload_n hx hb dX3_lookAt_0 rfl (lv_at hl 0 rfl) ?_
  refine lv_aload_n hx hb dX3_lookAt_1 rfl (lv_at hl 1 rfl) ?_
  refine S_putV (ty := .object "SlabWalk$Paving") (n := 1) (C := RX3) (T := TX3) (N := 5) hx hb hg iX3 tyX3 tyX3_ok nmX3 hown hK hW hS kd_6 rfl 4 (lt_b rfl) (hg (Cond.fieldLink RX3 21 "SlabWalk$Lines" "paving" "LSlabWalk$Paving;") m353) (fun _ h9 => h9) rfl (by decide +kernel) rfl rfl rfl dX3_lookAt_2 (fun G_1 H locs eG_1 hW hS => ?_)
  have hB_G_1 : Bd G_1 := hB_G.putr eG_1 (by decide) (by decide)
  have hF := hF.putr eG_1 (Or.inr (by decide))
  refine lv_aload_n hx hb dX3_lookAt_5 rfl (lv_at hl 0 rfl) ?_
  refine S_getR (n := 38) (C := RX3) (T := TX3) (N := 5) hx hb hg iX3 hown hK hW kd_6 rfl 1 (lt_b rfl) (hg (Cond.fieldLink RX3 15 "SlabWalk$Lines" "foundOn" "[I") m350) (fun _ h9 => h9) rfl dX3_lookAt_6 ?_
  refine ic_m1 hx hb dX3_lookAt_9 ?_
  refine S_callv (va_runS (As := [.ref (a 38), .int (-1)]) (rest := []) ⟨hx, hb, hml, hown, hts⟩ (k_fill_38 l D k A a z G_1 (-1) ) (va_cwS 2 hts (gd_S hgd m555 m556 m129 m557) rfl rfl rfl hd_J7_fill_53178.2 ⟨Nat.le_of_ble_eq_true rfl, Nat.le_of_ble_eq_true rfl⟩) (pre_S hW hB_G_1 hK hZ hS) rfl rfl hl.1 rfl (lv_room (Nat.le_of_ble_eq_true rfl)) dX3_lookAt_10 ⟨Nat.le_of_ble_eq_true rfl, Nat.le_of_ble_eq_true rfl⟩) hS (fun G_3 H locs hpo hW hS => ?_)
  have hX_6 : P_fill_38 (-1) G_1 G_3 := hpo
  obtain ⟨hB_G_3, hq_4, -⟩ := hpo
  have hF := hF.call9 hq_4 rfl rfl
  exact W.vret hx hb hr (fun t ht _ => ⟨⟨G_3, rfl, (P_lLook_1_mk ⟨hB_G_3, hF, ⟨G_1, hB_G_1, (Fr.putr (rs := []) (fs := [(6, 4)]) Fr.rf eG_1 (Or.inr (by decide))), (gp_re eG_1), ⟨G_3, hX_6, rfl⟩⟩⟩), wd_t ht hW⟩, hS.F ht⟩) hS.2.2 dX3_lookAt_13

set_option maxHeartbeats 4000000 in
set_option maxRecDepth 100000 in
theorem k_lValue_1 (l : Launch) (D : va_G) (k : KT) (A : Nat → Prop) (a : Nat → Nat) (z : SK) (G : GS) (p0 : Int32) (p1 : Int32) (p2 : Int32) (ha_p0 : 0 ≤ p0.toInt ∧ p0.toInt ≤ 5) (hv_6_4 : G.2.2 6 4 = 1) : Met l yX3_valueOf (WS yX3_valueOf cX3_valueOf 8 (some .int)) ({ frames := 2, cells := 0, slots := 0, locals := 43 }) (va_Pc [.ref (a 6), .int p0, .int p1, .int p2] (cW D k A a z G)) (va_Qi (fun (r : Int32) (G1 : GS) => P_lValue_1 p0 p1 p2 G r G1) (fun (G1 : GS) t => Wd D k A a G1 t.heap) A) 0 0 A := by
  refine Met.ofW (cc := cX3_valueOf) (maxL := 8) (ret := (some .int)) (by decide) rfl ?_
  intro p e s m args below meth c s₁ B hml hv
  obtain ⟨rfl, hW, hB_G, hK, hZ⟩ := hv
  have hx := B.exec
  have hb := B.bytes
  have hr := B.returns
  have hts := atoms_spec (ws := WS yX3_valueOf cX3_valueOf 8 (some .int)) B.pre
  have hgd : ∀ w ∈ gd, w ∈ WS yX3_valueOf cX3_valueOf 8 (some .int) := fun w h => List.mem_cons_of_mem _ h
  have hg : ∀ w ∈ gd, w.before _ s = true := fun w h => hts w (hgd w h)
  have hown : s.vm.findClass RX3 = some m.cls := findClass_of_methodNamed B.named
  have hS : va_S A s.heap s.heap [] := va_S.rf
  have hF : Fr [39] [(6, 3)] G G := Fr.rf
  have hl := lv_entry ([.ref (a 6), .int p0, .int p1, .int p2]) (n := 8) (Nat.le_of_ble_eq_true rfl)
  rw [lg_entry_eq]
  generalize (lg_sl ([.ref (a 6), .int p0, .int p1, .int p2]) ++ List.replicate (8 - (lg_sl ([.ref (a 6), .int p0, .int p1, .int p2])).length) Slot.unset).toArray = ls at hl ⊢
  have hl : lv_has ls 8 [(0, .ref (a 6)), (1, .int p0), (2, .int p1), (3, .int p2)] := hl
  refine lv_aload_n hx hb dX3_valueOf_0 rfl (lv_at hl 0 rfl) ?_
  refine ic_0 hx hb dX3_valueOf_1 ?_
  refine S_putI (ty := .int) (C := RX3) (T := TX3) (N := 5) hx hb hg iX3 tyX3 tyX3_ok nmX3 hown hK hW hS kd_6 rfl 3 (lt_b rfl) (hg (Cond.fieldLink RX3 66 "SlabWalk$Lines" "top" "I") m352) (fun _ h9 => h9) rfl (by decide +kernel) rfl rfl rfl dX3_valueOf_2 (fun G_1 H locs eG_1 hW hS => ?_)
  have hB_G_1 : Bd G_1 := hB_G.put (V := 0) (lo := 0) (hi := 100) eG_1 rfl rfl rfl (by decide) (by decide) (hB_G.2.put eG_1 rfl)
  have hF := hF.put eG_1 (Or.inr (by decide))
  refine lv_aload_n hx hb dX3_valueOf_5 rfl (lv_at hl 0 rfl) ?_
  refine S_getV (n := 1) (C := RX3) (T := TX3) (N := 5) hx hb hg iX3 hown hK hW kd_6 rfl 4 (lt_b rfl) (hg (Cond.fieldLink RX3 21 "SlabWalk$Lines" "paving" "LSlabWalk$Paving;") m353) (fun _ h9 => h9) rfl (((congrFun (congrFun (congrArg (fun q => q.2.2) eG_1) 6) 4)).trans (hv_6_4)) dX3_valueOf_6 ?_
  refine S_getR (n := 18) (C := RX6) (T := TX6) (N := 17) hx hb hg iX6 hown hK hW kd_1 rfl 8 (lt_b rfl) (hg (Cond.fieldLink RX3 69 "SlabWalk$Paving" "codeEnd" "[I") m184) (fun _ h9 => h9) rfl dX3_valueOf_9 ?_
  refine lv_iload_n hx hb dX3_valueOf_12 rfl (lv_at hl 1 rfl) ?_
  refine S_iald hx hb hK hW kd_18 (vin (by omega) (by omega)) dX3_valueOf_13 (fun y_2 ey_2 => ?_)
  have ty_2 : 0 ≤ y_2.toInt ∧ y_2.toInt ≤ 580 := bv_18 hB_G_1 ey_2
  refine lv_istore (lv' := [(4, .int y_2), (0, .ref (a 6)), (1, .int p0), (2, .int p1), (3, .int p2)]) hx hb dX3_valueOf_14 hl (lt_b rfl) rfl (fun ls hl => ?_)
  refine loop_N (Inv := fun n H locs ls => ∃ (G_3 : GS) (x_7 : Int32), (n : Int) = 580 - x_7.toInt ∧ (0 ≤ x_7.toInt ∧ x_7.toInt ≤ 580) ∧ Rc (St_k_lValue_1_1 p0 p1 p2) (y_2, G_1) (x_7, G_3) ∧ Wd D k A a G_3 H ∧ Bd G_3 ∧ Fr [39] [(6, 3)] G G_3 ∧ Fr [39] [(6, 3)] G_1 G_3 ∧ va_S A s.heap H locs ∧ lv_has ls 8 [(4, .int x_7), (0, .ref (a 6)), (1, .int p0), (2, .int p1), (3, .int p2)]) (fun n_6 H locs ls ih_5 hI => ?_) (580 - y_2.toInt : Int).toNat ⟨G_1, y_2, (Int.toNat_of_nonneg (by omega)), ⟨by omega, by omega⟩, Rc.rf, hW, hB_G_1, hF, Fr.rf, hS, lv_sub hl [0, 1, 2, 3, 4] rfl⟩
  obtain ⟨G_3, x_7, hn_10, f_9, hX_8, hW, hB_G_3, hF, hq_4, hS, hl⟩ := hI
  refine lv_iload hx hb dX3_valueOf_16 (lv_at hl 0 rfl) ?_
  refine lv_aload_n hx hb dX3_valueOf_18 rfl (lv_at hl 1 rfl) ?_
  refine S_getV (n := 1) (C := RX3) (T := TX3) (N := 5) hx hb hg iX3 hown hK hW kd_6 rfl 4 (lt_b rfl) (hg (Cond.fieldLink RX3 21 "SlabWalk$Lines" "paving" "LSlabWalk$Paving;") m353) (fun _ h9 => h9) rfl ((((hq_4.r9 6 4 rfl rfl).trans (congrFun (congrFun (congrArg (fun q => q.2.2) eG_1) 6) 4))).trans (hv_6_4)) dX3_valueOf_19 ?_
  refine S_getR (n := 18) (C := RX6) (T := TX6) (N := 17) hx hb hg iX6 hown hK hW kd_1 rfl 8 (lt_b rfl) (hg (Cond.fieldLink RX3 69 "SlabWalk$Paving" "codeEnd" "[I") m184) (fun _ h9 => h9) rfl dX3_valueOf_22 ?_
  refine lv_iload_n hx hb dX3_valueOf_25 rfl (lv_at hl 2 rfl) ?_
  refine ic_1 hx hb dX3_valueOf_26 ?_
  refine lv_iadd hx hb dX3_valueOf_27 ?_
  refine lv_topi (fun y_11 ey_11 => ?_)
  have ty_11 : y_11.toInt = p0.toInt + 1 := xI_add rfl rfl ey_11 ((by first | (clear ty_2 hn_10 f_9; omega) | omega)) ((by first | (clear ty_2 hn_10 f_9; omega) | omega))
  refine S_iald hx hb hK hW kd_18 (vin ((by first | (clear ty_2 hn_10 f_9; omega) | omega)) ((by first | (clear ty_2 hn_10 f_9; omega) | omega))) dX3_valueOf_28 (fun y_12 ey_12 => ?_)
  have ty_12 : 0 ≤ y_12.toInt ∧ y_12.toInt ≤ 580 := bv_18 hB_G_3 ey_12
  refine lv_icmp_ge (tgt := 172) hx hb dX3_valueOf_29 rfl (fun c_13 => ?_) (fun c_13 => ?_)
  · have c_13 : y_12.toInt ≤ x_7.toInt := xI_le rfl rfl c_13
    refine lv_aload_n hx hb dX3_valueOf_172 rfl (lv_at hl 1 rfl) ?_
    refine S_calli (va_runV (As := []) (rest := []) ⟨hx, hb, hml, hown, hts⟩ (k_lPop l D k A a z G_3  ) (cwV 0 hts (gd_V hgd m929 m931 m30 m122 m932) rfl rfl rfl hd_X3_pop ⟨Nat.le_of_ble_eq_true rfl, Nat.le_of_ble_eq_true rfl⟩) (pre_W hW hB_G_3 hK hZ hS kd_6 rfl) rfl rfl hl.1 rfl (lv_room (Nat.le_of_ble_eq_true rfl)) dX3_valueOf_173 ⟨Nat.le_of_ble_eq_true rfl, Nat.le_of_ble_eq_true rfl⟩) hS (fun r_14 G_15 H locs hpo hW hS => ?_)
    have hX_18 : P_lPop G_3 r_14 G_15 := hpo
    obtain ⟨hB_G_15, hq_16, -⟩ := hpo
    have hF := hF.call9 hq_16 rfl rfl
    exact W.iret (v := r_14) hx hb hr (fun t ht _ => ⟨⟨r_14, G_15, rfl, (P_lValue_1_mk ⟨hB_G_15, hF, ⟨y_2, ey_2.trans (congrFun (rw_put eG_1 (by decide)) _), ⟨G_1, hB_G_1, (Fr.put (rs := []) (fs := [(6, 3)]) Fr.rf eG_1 (Or.inr (by decide))), (gp_eq eG_1), ⟨x_7, G_3, hX_8, f_9, hB_G_3, hq_4, ⟨y_11, ty_11, ⟨y_12, ey_12, ⟨c_13, ⟨r_14, G_15, hX_18, ⟨rfl, rfl⟩⟩⟩⟩⟩⟩⟩⟩⟩), wd_t ht hW⟩, hS.F ht⟩) hS.2.2 dX3_valueOf_176
  · have c_13 : x_7.toInt < y_12.toInt := xI_nle rfl rfl c_13
    refine lv_aload_n hx hb dX3_valueOf_32 rfl (lv_at hl 1 rfl) ?_
    refine S_getV (n := 1) (C := RX3) (T := TX3) (N := 5) hx hb hg iX3 hown hK hW kd_6 rfl 4 (lt_b rfl) (hg (Cond.fieldLink RX3 21 "SlabWalk$Lines" "paving" "LSlabWalk$Paving;") m353) (fun _ h9 => h9) rfl ((((hq_4.r9 6 4 rfl rfl).trans (congrFun (congrFun (congrArg (fun q => q.2.2) eG_1) 6) 4))).trans (hv_6_4)) dX3_valueOf_33 ?_
    refine S_getR (n := 17) (C := RX6) (T := TX6) (N := 17) hx hb hg iX6 hown hK hW kd_1 rfl 7 (lt_b rfl) (hg (Cond.fieldLink RX3 72 "SlabWalk$Paving" "code" "[I") m182) (fun _ h9 => h9) rfl dX3_valueOf_36 ?_
    refine lv_iload hx hb dX3_valueOf_39 (lv_at hl 0 rfl) ?_
    refine S_iald hx hb hK hW kd_17 (vin ((by first | (clear ha_p0 ty_2 hn_10 ty_11; omega) | omega)) ((by first | (clear ha_p0 ty_2 hn_10 ty_11; omega) | omega))) dX3_valueOf_41 (fun y_19 ey_19 => ?_)
    refine lv_sipush (v := 1023) hx hb dX3_valueOf_42 (by decide) ?_
    refine lv_iand hx hb dX3_valueOf_45 ?_
    refine lv_topi (fun y_20 ey_20 => ?_)
    have ty_20 := xI_and (Y := 1023) rfl ey_20 (by decide)
    refine lv_istore (lv' := [(5, .int y_20), (4, .int x_7), (0, .ref (a 6)), (1, .int p0), (2, .int p1), (3, .int p2)]) hx hb dX3_valueOf_46 hl (lt_b rfl) rfl (fun ls hl => ?_)
    refine lv_iload hx hb dX3_valueOf_48 (lv_at hl 0 rfl) ?_
    refine lv_sipush (v := 201) hx hb dX3_valueOf_50 (by decide) ?_
    refine lv_icmp_ne (tgt := 76) hx hb dX3_valueOf_53 rfl (fun c_21 => ?_) (fun c_21 => ?_)
    · have c_21 : y_20.toInt ≠ 201 := xI_ne rfl rfl c_21
      refine lv_iload hx hb dX3_valueOf_76 (lv_at hl 0 rfl) ?_
      refine lv_sipush (v := 146) hx hb dX3_valueOf_78 (by decide) ?_
      refine lv_icmp_ne (tgt := 103) hx hb dX3_valueOf_81 rfl (fun c_22 => ?_) (fun c_22 => ?_)
      · have c_22 : y_20.toInt ≠ 146 := xI_ne rfl rfl c_22
        refine lv_iload hx hb dX3_valueOf_103 (lv_at hl 0 rfl) ?_
        refine lv_sipush (v := 144) hx hb dX3_valueOf_105 (by decide) ?_
        refine W.cut (σ := Unit) (pcJ := 127) (J := fun y H locs ls => ∃ (G_29 : GS), Jn_k_lValue_1_2 y_20 G_3 G_29 ∧ Wd D k A a G_29 H ∧ Bd G_29 ∧ Fr [39] [(6, 3)] G G_29 ∧ Fr [] [] G_3 G_29 ∧ va_S A s.heap H locs ∧ lv_has ls 8 [(5, .int y_20), (4, .int x_7), (0, .ref (a 6)), (1, .int p0), (2, .int p1), (3, .int p2)]) (stJ := fun _ => []) ?_ (fun hJ_30 => ?_)
        · intro y H locs ls hI
          obtain ⟨G_29, hX_32, hW, hB_G_29, hF, hq_31, hS, hl⟩ := hI
          refine lv_aload_n hx hb dX3_valueOf_127 rfl (lv_at hl 2 rfl) ?_
          refine S_calli (va_runV (As := []) (rest := []) ⟨hx, hb, hml, hown, hts⟩ (k_lPop l D k A a z G_29  ) (cwV 0 hts (gd_V hgd m929 m931 m30 m122 m932) rfl rfl rfl hd_X3_pop ⟨Nat.le_of_ble_eq_true rfl, Nat.le_of_ble_eq_true rfl⟩) (pre_W hW hB_G_29 hK hZ hS kd_6 rfl) rfl rfl hl.1 rfl (lv_room (Nat.le_of_ble_eq_true rfl)) dX3_valueOf_128 ⟨Nat.le_of_ble_eq_true rfl, Nat.le_of_ble_eq_true rfl⟩) hS (fun r_33 G_34 H locs hpo hW hS => ?_)
          have hX_37 : P_lPop G_29 r_33 G_34 := hpo
          obtain ⟨hB_G_34, hq_35, -⟩ := hpo
          have hF := hF.call9 hq_35 rfl rfl
          refine lv_istore (lv' := [(6, .int r_33), (5, .int y_20), (4, .int x_7), (0, .ref (a 6)), (1, .int p0), (2, .int p1), (3, .int p2)]) hx hb dX3_valueOf_131 hl (lt_b rfl) rfl (fun ls hl => ?_)
          refine lv_aload_n hx hb dX3_valueOf_133 rfl (lv_at hl 3 rfl) ?_
          refine S_calli (va_runV (As := []) (rest := []) ⟨hx, hb, hml, hown, hts⟩ (k_lPop l D k A a z G_34  ) (cwV 0 hts (gd_V hgd m929 m931 m30 m122 m932) rfl rfl rfl hd_X3_pop ⟨Nat.le_of_ble_eq_true rfl, Nat.le_of_ble_eq_true rfl⟩) (pre_W hW hB_G_34 hK hZ hS kd_6 rfl) rfl rfl hl.1 rfl (lv_room (Nat.le_of_ble_eq_true rfl)) dX3_valueOf_134 ⟨Nat.le_of_ble_eq_true rfl, Nat.le_of_ble_eq_true rfl⟩) hS (fun r_38 G_39 H locs hpo hW hS => ?_)
          have hX_42 : P_lPop G_34 r_38 G_39 := hpo
          obtain ⟨hB_G_39, hq_40, -⟩ := hpo
          have hF := hF.call9 hq_40 rfl rfl
          refine lv_istore (lv' := [(7, .int r_38), (6, .int r_33), (5, .int y_20), (4, .int x_7), (0, .ref (a 6)), (1, .int p0), (2, .int p1), (3, .int p2)]) hx hb dX3_valueOf_137 hl (lt_b rfl) rfl (fun ls hl => ?_)
          refine lv_aload_n hx hb dX3_valueOf_139 rfl (lv_at hl 4 rfl) ?_
          refine lv_iload hx hb dX3_valueOf_140 (lv_at hl 2 rfl) ?_
          refine lv_iload hx hb dX3_valueOf_142 (lv_at hl 0 rfl) ?_
          refine lv_iload hx hb dX3_valueOf_144 (lv_at hl 1 rfl) ?_
          refine S_calli (va_runS (As := [.int y_20, .int r_38, .int r_33]) (rest := [.ref (a 6)]) ⟨hx, hb, hml, hown, hts⟩ (k_lJoin l D k A a z G_39 y_20 r_38 r_33 ) (va_cwS 3 hts (gd_S hgd m933 m934 m122 m935) rfl rfl rfl hd_X3_join.2 ⟨Nat.le_of_ble_eq_true rfl, Nat.le_of_ble_eq_true rfl⟩) (pre_S hW hB_G_39 hK hZ hS) rfl rfl hl.1 rfl (lv_room (Nat.le_of_ble_eq_true rfl)) dX3_valueOf_146 ⟨Nat.le_of_ble_eq_true rfl, Nat.le_of_ble_eq_true rfl⟩) hS (fun r_43 G_44 H locs hpo hW hS => ?_)
          have hX_47 : P_lJoin y_20 r_38 r_33 G_39 r_43 G_44 := hpo
          obtain ⟨hB_G_44, hq_45, -⟩ := hpo
          have hF := hF.call9 hq_45 rfl rfl
          refine S_callv (va_runV (As := [.int r_43]) (rest := []) ⟨hx, hb, hml, hown, hts⟩ (k_lPush l D k A a z G_44 r_43 ) (cwV 1 hts (gd_V hgd m925 m927 m29 m122 m928) rfl rfl rfl hd_X3_push ⟨Nat.le_of_ble_eq_true rfl, Nat.le_of_ble_eq_true rfl⟩) (pre_W hW hB_G_44 hK hZ hS kd_6 rfl) rfl rfl hl.1 rfl (lv_room (Nat.le_of_ble_eq_true rfl)) dX3_valueOf_149 ⟨Nat.le_of_ble_eq_true rfl, Nat.le_of_ble_eq_true rfl⟩) hS (fun G_49 H locs hpo hW hS => ?_)
          have hX_52 : P_lPush r_43 G_44 G_49 := hpo
          obtain ⟨hB_G_49, hq_50, -⟩ := hpo
          have hF := hF.call9 hq_50 rfl rfl
          refine lv_goto (tgt := 166) hx hb dX3_valueOf_152 rfl ?_
          obtain ⟨y_53, ey_53⟩ : ∃ q, q = x_7 + 1 := ⟨_, rfl⟩
          have ty_53 : y_53.toInt = x_7.toInt + 1 := xI_add rfl rfl ey_53 ((by first | (clear ha_p0 ty_2 hn_10 ty_11 c_21 c_22; omega) | omega)) ((by first | (clear ha_p0 ty_2 hn_10 ty_11 c_21 c_22; omega) | omega))
          refine lv_iinc (v := y_53) (lv' := [(4, .int y_53), (7, .int r_38), (6, .int r_33), (5, .int y_20), (0, .ref (a 6)), (1, .int p0), (2, .int p1), (3, .int p2)]) hx hb dX3_valueOf_166 hl (k := 3) rfl (by rw [ey_53]; rfl) (lt_b rfl) rfl (fun ls hl => ?_)
          refine lv_goto (tgt := 16) hx hb dX3_valueOf_169 rfl ?_
          exact ih_5 (580 - y_53.toInt : Int).toNat ((by first | (clear ha_p0 ty_2 ty_11 c_21 c_22; omega) | omega)) _ _ _ ⟨G_49, y_53, (Int.toNat_of_nonneg ((by first | (clear ha_p0 ty_2 hn_10 ty_11 c_21 c_22; omega) | omega))), ⟨(by first | (clear ha_p0 ty_2 hn_10 ty_11 c_21 c_22; omega) | omega), (by first | (clear ha_p0 ty_2 hn_10 ty_11 c_21 c_22; omega) | omega)⟩, (hX_8.st (St_k_lValue_1_1_mk ⟨x_7, G_3, y_53, G_49, rfl, rfl, f_9, hB_G_3, ⟨y_11, ty_11, ⟨y_12, ey_12, ⟨c_13, ⟨y_19, ey_19, ⟨y_20, ey_20, (Or.inr ⟨c_21, (Or.inr ⟨c_22, (Or.inr ⟨G_29, hX_32, hB_G_29, hq_31, ⟨r_33, G_34, hX_37, ⟨r_38, G_39, hX_42, ⟨r_43, G_44, hX_47, ⟨G_49, hX_52, ⟨y_53, ty_53, ⟨rfl, rfl⟩⟩⟩⟩⟩⟩⟩)⟩)⟩)⟩⟩⟩⟩⟩⟩)), hW, hB_G_49, hF, (Fr.call9 (rs := [39]) (fs := [(6, 3)]) (Fr.call9 (rs := [39]) (fs := [(6, 3)]) (Fr.call9 (rs := [39]) (fs := [(6, 3)]) (Fr.call9 (rs := [39]) (fs := [(6, 3)]) (Fr.call9 (rs := [39]) (fs := [(6, 3)]) (Fr.call9 (rs := [39]) (fs := [(6, 3)]) Fr.rf hq_4 rfl rfl) hq_31 rfl rfl) hq_35 rfl rfl) hq_40 rfl rfl) hq_45 rfl rfl) hq_50 rfl rfl), hS, lv_sub hl [0, 4, 5, 6, 7] rfl⟩
        refine lv_icmp_eq (tgt := 127) hx hb dX3_valueOf_108 rfl (fun c_54 => ?_) (fun c_54 => ?_)
        · have c_54 : y_20.toInt = 144 := xI_eq rfl rfl c_54
          exact hJ_30 () _ _ _ ⟨G_3, (Jn_k_lValue_1_2_mk (Or.inl ⟨c_54, rfl⟩)), hW, hB_G_3, hF, (Fr.rf (rs := []) (fs := [])), hS, lv_sub hl [0, 1, 2, 3, 4, 5] rfl⟩
        · have c_54 : y_20.toInt ≠ 144 := xI_ne rfl rfl c_54
          refine lv_iload hx hb dX3_valueOf_111 (lv_at hl 0 rfl) ?_
          refine lv_sipush (v := 145) hx hb dX3_valueOf_113 (by decide) ?_
          refine lv_icmp_eq (tgt := 127) hx hb dX3_valueOf_116 rfl (fun c_55 => ?_) (fun c_55 => ?_)
          · have c_55 : y_20.toInt = 145 := xI_eq rfl rfl c_55
            exact hJ_30 () _ _ _ ⟨G_3, (Jn_k_lValue_1_2_mk (Or.inr ⟨c_54, (Or.inl ⟨c_55, rfl⟩)⟩)), hW, hB_G_3, hF, (Fr.rf (rs := []) (fs := [])), hS, lv_sub hl [0, 1, 2, 3, 4, 5] rfl⟩
          · have c_55 : y_20.toInt ≠ 145 := xI_ne rfl rfl c_55
            refine lv_iload hx hb dX3_valueOf_119 (lv_at hl 0 rfl) ?_
            refine lv_sipush (v := 128) hx hb dX3_valueOf_121 (by decide) ?_
            refine lv_icmp_ge (tgt := 155) hx hb dX3_valueOf_124 rfl (fun c_56 => ?_) (fun c_56 => ?_)
            · have c_56 : 128 ≤ y_20.toInt := xI_le rfl rfl c_56
              refine lv_aload_n hx hb dX3_valueOf_155 rfl (lv_at hl 2 rfl) ?_
              refine lv_iload hx hb dX3_valueOf_156 (lv_at hl 0 rfl) ?_
              refine lv_iload_n hx hb dX3_valueOf_158 rfl (lv_at hl 4 rfl) ?_
              refine lv_iload_n hx hb dX3_valueOf_159 rfl (lv_at hl 5 rfl) ?_
              refine S_calli (va_runS (As := [.int y_20, .int p1, .int p2]) (rest := [.ref (a 6)]) ⟨hx, hb, hml, hown, hts⟩ (k_lOwn l D k A a z G_3 y_20 p1 p2 ) (va_cwS 3 hts (gd_S hgd m936 m937 m122 m938) rfl rfl rfl hd_X3_ownOf.2 ⟨Nat.le_of_ble_eq_true rfl, Nat.le_of_ble_eq_true rfl⟩) (pre_S hW hB_G_3 hK hZ hS) rfl rfl hl.1 rfl (lv_room (Nat.le_of_ble_eq_true rfl)) dX3_valueOf_160 ⟨Nat.le_of_ble_eq_true rfl, Nat.le_of_ble_eq_true rfl⟩) hS (fun r_57 G_58 H locs hpo hW hS => ?_)
              have hX_61 : P_lOwn y_20 p1 p2 G_3 r_57 G_58 := hpo
              obtain ⟨hB_G_58, hq_59, -⟩ := hpo
              have hF := hF.call9 hq_59 rfl rfl
              refine S_callv (va_runV (As := [.int r_57]) (rest := []) ⟨hx, hb, hml, hown, hts⟩ (k_lPush l D k A a z G_58 r_57 ) (cwV 1 hts (gd_V hgd m925 m927 m29 m122 m928) rfl rfl rfl hd_X3_push ⟨Nat.le_of_ble_eq_true rfl, Nat.le_of_ble_eq_true rfl⟩) (pre_W hW hB_G_58 hK hZ hS kd_6 rfl) rfl rfl hl.1 rfl (lv_room (Nat.le_of_ble_eq_true rfl)) dX3_valueOf_163 ⟨Nat.le_of_ble_eq_true rfl, Nat.le_of_ble_eq_true rfl⟩) hS (fun G_63 H locs hpo hW hS => ?_)
              have hX_66 : P_lPush r_57 G_58 G_63 := hpo
              obtain ⟨hB_G_63, hq_64, -⟩ := hpo
              have hF := hF.call9 hq_64 rfl rfl
              obtain ⟨y_67, ey_67⟩ : ∃ q, q = x_7 + 1 := ⟨_, rfl⟩
              have ty_67 : y_67.toInt = x_7.toInt + 1 := xI_add rfl rfl ey_67 ((by first | (clear ha_p0 ty_2 hn_10 ty_11 c_21 c_22 c_54 c_55 c_56; omega) | omega)) ((by first | (clear ha_p0 ty_2 hn_10 ty_11 c_21 c_22 c_54 c_55 c_56; omega) | omega))
              refine lv_iinc (v := y_67) (lv' := [(4, .int y_67), (5, .int y_20), (0, .ref (a 6)), (1, .int p0), (2, .int p1), (3, .int p2)]) hx hb dX3_valueOf_166 hl (k := 1) rfl (by rw [ey_67]; rfl) (lt_b rfl) rfl (fun ls hl => ?_)
              refine lv_goto (tgt := 16) hx hb dX3_valueOf_169 rfl ?_
              exact ih_5 (580 - y_67.toInt : Int).toNat ((by first | (clear ha_p0 ty_2 ty_11 c_21 c_22 c_54 c_55 c_56; omega) | omega)) _ _ _ ⟨G_63, y_67, (Int.toNat_of_nonneg ((by first | (clear ha_p0 ty_2 hn_10 ty_11 c_21 c_22 c_54 c_55 c_56; omega) | omega))), ⟨(by first | (clear ha_p0 ty_2 hn_10 ty_11 c_21 c_22 c_54 c_55 c_56; omega) | omega), (by first | (clear ha_p0 ty_2 hn_10 ty_11 c_21 c_22 c_54 c_55 c_56; omega) | omega)⟩, (hX_8.st (St_k_lValue_1_1_mk ⟨x_7, G_3, y_67, G_63, rfl, rfl, f_9, hB_G_3, ⟨y_11, ty_11, ⟨y_12, ey_12, ⟨c_13, ⟨y_19, ey_19, ⟨y_20, ey_20, (Or.inr ⟨c_21, (Or.inr ⟨c_22, (Or.inl ⟨c_54, ⟨c_55, ⟨c_56, ⟨r_57, G_58, hX_61, ⟨G_63, hX_66, ⟨y_67, ty_67, ⟨rfl, rfl⟩⟩⟩⟩⟩⟩⟩)⟩)⟩)⟩⟩⟩⟩⟩⟩)), hW, hB_G_63, hF, (Fr.call9 (rs := [39]) (fs := [(6, 3)]) (Fr.call9 (rs := [39]) (fs := [(6, 3)]) (Fr.call9 (rs := [39]) (fs := [(6, 3)]) Fr.rf hq_4 rfl rfl) hq_59 rfl rfl) hq_64 rfl rfl), hS, lv_sub hl [0, 2, 3, 4, 5] rfl⟩
            · have c_56 : y_20.toInt < 128 := xI_nle rfl rfl c_56
              exact hJ_30 () _ _ _ ⟨G_3, (Jn_k_lValue_1_2_mk (Or.inr ⟨c_54, (Or.inr ⟨c_55, ⟨c_56, rfl⟩⟩)⟩)), hW, hB_G_3, hF, (Fr.rf (rs := []) (fs := [])), hS, lv_sub hl [0, 1, 2, 3, 4, 5] rfl⟩
      · have c_22 : y_20.toInt = 146 := xI_eq rfl rfl c_22
        refine lv_aload_n hx hb dX3_valueOf_84 rfl (lv_at hl 2 rfl) ?_
        refine lv_aload_n hx hb dX3_valueOf_85 rfl (lv_at hl 2 rfl) ?_
        refine S_calli (va_runV (As := []) (rest := [.ref (a 6)]) ⟨hx, hb, hml, hown, hts⟩ (k_lPop l D k A a z G_3  ) (cwV 0 hts (gd_V hgd m929 m931 m30 m122 m932) rfl rfl rfl hd_X3_pop ⟨Nat.le_of_ble_eq_true rfl, Nat.le_of_ble_eq_true rfl⟩) (pre_W hW hB_G_3 hK hZ hS kd_6 rfl) rfl rfl hl.1 rfl (lv_room (Nat.le_of_ble_eq_true rfl)) dX3_valueOf_86 ⟨Nat.le_of_ble_eq_true rfl, Nat.le_of_ble_eq_true rfl⟩) hS (fun r_68 G_69 H locs hpo hW hS => ?_)
        have hX_72 : P_lPop G_3 r_68 G_69 := hpo
        obtain ⟨hB_G_69, hq_70, -⟩ := hpo
        have hF := hF.call9 hq_70 rfl rfl
        refine lv_if_ne (tgt := 96) hx hb dX3_valueOf_89 rfl (fun c_73 => ?_) (fun c_73 => ?_)
        · have c_73 : r_68.toInt ≠ 0 := xI_ne rfl rfl c_73
          refine ic_0 hx hb dX3_valueOf_96 ?_
          refine S_callv (va_runV (As := [.int 0]) (rest := []) ⟨hx, hb, hml, hown, hts⟩ (k_lPush l D k A a z G_69 0 ) (cwV 1 hts (gd_V hgd m925 m927 m29 m122 m928) rfl rfl rfl hd_X3_push ⟨Nat.le_of_ble_eq_true rfl, Nat.le_of_ble_eq_true rfl⟩) (pre_W hW hB_G_69 hK hZ hS kd_6 rfl) rfl rfl hl.1 rfl (lv_room (Nat.le_of_ble_eq_true rfl)) dX3_valueOf_97 ⟨Nat.le_of_ble_eq_true rfl, Nat.le_of_ble_eq_true rfl⟩) hS (fun G_75 H locs hpo hW hS => ?_)
          have hX_78 : P_lPush 0 G_69 G_75 := hpo
          obtain ⟨hB_G_75, hq_76, -⟩ := hpo
          have hF := hF.call9 hq_76 rfl rfl
          refine lv_goto (tgt := 166) hx hb dX3_valueOf_100 rfl ?_
          obtain ⟨y_79, ey_79⟩ : ∃ q, q = x_7 + 1 := ⟨_, rfl⟩
          have ty_79 : y_79.toInt = x_7.toInt + 1 := xI_add rfl rfl ey_79 ((by first | (clear ha_p0 ty_2 hn_10 ty_11 c_21 c_22 c_73; omega) | omega)) ((by first | (clear ha_p0 ty_2 hn_10 ty_11 c_21 c_22 c_73; omega) | omega))
          refine lv_iinc (v := y_79) (lv' := [(4, .int y_79), (5, .int y_20), (0, .ref (a 6)), (1, .int p0), (2, .int p1), (3, .int p2)]) hx hb dX3_valueOf_166 hl (k := 1) rfl (by rw [ey_79]; rfl) (lt_b rfl) rfl (fun ls hl => ?_)
          refine lv_goto (tgt := 16) hx hb dX3_valueOf_169 rfl ?_
          exact ih_5 (580 - y_79.toInt : Int).toNat ((by first | (clear ha_p0 ty_2 ty_11 c_21 c_22 c_73; omega) | omega)) _ _ _ ⟨G_75, y_79, (Int.toNat_of_nonneg ((by first | (clear ha_p0 ty_2 hn_10 ty_11 c_21 c_22 c_73; omega) | omega))), ⟨(by first | (clear ha_p0 ty_2 hn_10 ty_11 c_21 c_22 c_73; omega) | omega), (by first | (clear ha_p0 ty_2 hn_10 ty_11 c_21 c_22 c_73; omega) | omega)⟩, (hX_8.st (St_k_lValue_1_1_mk ⟨x_7, G_3, y_79, G_75, rfl, rfl, f_9, hB_G_3, ⟨y_11, ty_11, ⟨y_12, ey_12, ⟨c_13, ⟨y_19, ey_19, ⟨y_20, ey_20, (Or.inr ⟨c_21, (Or.inl ⟨c_22, ⟨r_68, G_69, hX_72, (Or.inr ⟨c_73, ⟨G_75, hX_78, ⟨y_79, ty_79, ⟨rfl, rfl⟩⟩⟩⟩)⟩⟩)⟩)⟩⟩⟩⟩⟩⟩)), hW, hB_G_75, hF, (Fr.call9 (rs := [39]) (fs := [(6, 3)]) (Fr.call9 (rs := [39]) (fs := [(6, 3)]) (Fr.call9 (rs := [39]) (fs := [(6, 3)]) Fr.rf hq_4 rfl rfl) hq_70 rfl rfl) hq_76 rfl rfl), hS, lv_sub hl [0, 2, 3, 4, 5] rfl⟩
        · have c_73 : r_68.toInt = 0 := xI_eq rfl rfl c_73
          refine ic_1 hx hb dX3_valueOf_92 ?_
          refine lv_goto (tgt := 97) hx hb dX3_valueOf_93 rfl ?_
          refine S_callv (va_runV (As := [.int 1]) (rest := []) ⟨hx, hb, hml, hown, hts⟩ (k_lPush l D k A a z G_69 1 ) (cwV 1 hts (gd_V hgd m925 m927 m29 m122 m928) rfl rfl rfl hd_X3_push ⟨Nat.le_of_ble_eq_true rfl, Nat.le_of_ble_eq_true rfl⟩) (pre_W hW hB_G_69 hK hZ hS kd_6 rfl) rfl rfl hl.1 rfl (lv_room (Nat.le_of_ble_eq_true rfl)) dX3_valueOf_97 ⟨Nat.le_of_ble_eq_true rfl, Nat.le_of_ble_eq_true rfl⟩) hS (fun G_81 H locs hpo hW hS => ?_)
          have hX_84 : P_lPush 1 G_69 G_81 := hpo
          obtain ⟨hB_G_81, hq_82, -⟩ := hpo
          have hF := hF.call9 hq_82 rfl rfl
          refine lv_goto (tgt := 166) hx hb dX3_valueOf_100 rfl ?_
          obtain ⟨y_85, ey_85⟩ : ∃ q, q = x_7 + 1 := ⟨_, rfl⟩
          have ty_85 : y_85.toInt = x_7.toInt + 1 := xI_add rfl rfl ey_85 ((by first | (clear ha_p0 ty_2 hn_10 ty_11 c_21 c_22 c_73; omega) | omega)) ((by first | (clear ha_p0 ty_2 hn_10 ty_11 c_21 c_22 c_73; omega) | omega))
          refine lv_iinc (v := y_85) (lv' := [(4, .int y_85), (5, .int y_20), (0, .ref (a 6)), (1, .int p0), (2, .int p1), (3, .int p2)]) hx hb dX3_valueOf_166 hl (k := 1) rfl (by rw [ey_85]; rfl) (lt_b rfl) rfl (fun ls hl => ?_)
          refine lv_goto (tgt := 16) hx hb dX3_valueOf_169 rfl ?_
          exact ih_5 (580 - y_85.toInt : Int).toNat ((by first | (clear ha_p0 ty_2 ty_11 c_21 c_22 c_73; omega) | omega)) _ _ _ ⟨G_81, y_85, (Int.toNat_of_nonneg ((by first | (clear ha_p0 ty_2 hn_10 ty_11 c_21 c_22 c_73; omega) | omega))), ⟨(by first | (clear ha_p0 ty_2 hn_10 ty_11 c_21 c_22 c_73; omega) | omega), (by first | (clear ha_p0 ty_2 hn_10 ty_11 c_21 c_22 c_73; omega) | omega)⟩, (hX_8.st (St_k_lValue_1_1_mk ⟨x_7, G_3, y_85, G_81, rfl, rfl, f_9, hB_G_3, ⟨y_11, ty_11, ⟨y_12, ey_12, ⟨c_13, ⟨y_19, ey_19, ⟨y_20, ey_20, (Or.inr ⟨c_21, (Or.inl ⟨c_22, ⟨r_68, G_69, hX_72, (Or.inl ⟨c_73, ⟨G_81, hX_84, ⟨y_85, ty_85, ⟨rfl, rfl⟩⟩⟩⟩)⟩⟩)⟩)⟩⟩⟩⟩⟩⟩)), hW, hB_G_81, hF, (Fr.call9 (rs := [39]) (fs := [(6, 3)]) (Fr.call9 (rs := [39]) (fs := [(6, 3)]) (Fr.call9 (rs := [39]) (fs := [(6, 3)]) Fr.rf hq_4 rfl rfl) hq_70 rfl rfl) hq_82 rfl rfl), hS, lv_sub hl [0, 2, 3, 4, 5] rfl⟩
    · have c_21 : y_20.toInt = 201 := xI_eq rfl rfl c_21
      refine lv_aload_n hx hb dX3_valueOf_56 rfl (lv_at hl 2 rfl) ?_
      refine lv_aload_n hx hb dX3_valueOf_57 rfl (lv_at hl 2 rfl) ?_
      refine S_getV (n := 1) (C := RX3) (T := TX3) (N := 5) hx hb hg iX3 hown hK hW kd_6 rfl 4 (lt_b rfl) (hg (Cond.fieldLink RX3 21 "SlabWalk$Lines" "paving" "LSlabWalk$Paving;") m353) (fun _ h9 => h9) rfl ((((hq_4.r9 6 4 rfl rfl).trans (congrFun (congrFun (congrArg (fun q => q.2.2) eG_1) 6) 4))).trans (hv_6_4)) dX3_valueOf_58 ?_
      refine S_getR (n := 17) (C := RX6) (T := TX6) (N := 17) hx hb hg iX6 hown hK hW kd_1 rfl 7 (lt_b rfl) (hg (Cond.fieldLink RX3 72 "SlabWalk$Paving" "code" "[I") m182) (fun _ h9 => h9) rfl dX3_valueOf_61 ?_
      refine lv_iload hx hb dX3_valueOf_64 (lv_at hl 1 rfl) ?_
      refine S_iald hx hb hK hW kd_17 (vin ((by first | (clear ha_p0 ty_2 hn_10 ty_11 c_21; omega) | omega)) ((by first | (clear ha_p0 ty_2 hn_10 ty_11 c_21; omega) | omega))) dX3_valueOf_66 (fun y_86 ey_86 => ?_)
      refine lv_bipush (v := 10) hx hb dX3_valueOf_67 (by decide) ?_
      refine lv_ishr hx hb dX3_valueOf_69 ?_
      refine lv_topi (fun y_87 ey_87 => ?_)
      refine S_callv (va_runV (As := [.int y_87]) (rest := []) ⟨hx, hb, hml, hown, hts⟩ (k_lPush l D k A a z G_3 y_87 ) (cwV 1 hts (gd_V hgd m925 m927 m29 m122 m928) rfl rfl rfl hd_X3_push ⟨Nat.le_of_ble_eq_true rfl, Nat.le_of_ble_eq_true rfl⟩) (pre_W hW hB_G_3 hK hZ hS kd_6 rfl) rfl rfl hl.1 rfl (lv_room (Nat.le_of_ble_eq_true rfl)) dX3_valueOf_70 ⟨Nat.le_of_ble_eq_true rfl, Nat.le_of_ble_eq_true rfl⟩) hS (fun G_89 H locs hpo hW hS => ?_)
      have hX_92 : P_lPush y_87 G_3 G_89 := hpo
      obtain ⟨hB_G_89, hq_90, -⟩ := hpo
      have hF := hF.call9 hq_90 rfl rfl
      refine lv_goto (tgt := 166) hx hb dX3_valueOf_73 rfl ?_
      obtain ⟨y_93, ey_93⟩ : ∃ q, q = x_7 + 1 := ⟨_, rfl⟩
      have ty_93 : y_93.toInt = x_7.toInt + 1 := xI_add rfl rfl ey_93 ((by first | (clear ha_p0 ty_2 hn_10 ty_11 c_21; omega) | omega)) ((by first | (clear ha_p0 ty_2 hn_10 ty_11 c_21; omega) | omega))
      refine lv_iinc (v := y_93) (lv' := [(4, .int y_93), (5, .int y_20), (0, .ref (a 6)), (1, .int p0), (2, .int p1), (3, .int p2)]) hx hb dX3_valueOf_166 hl (k := 1) rfl (by rw [ey_93]; rfl) (lt_b rfl) rfl (fun ls hl => ?_)
      refine lv_goto (tgt := 16) hx hb dX3_valueOf_169 rfl ?_
      exact ih_5 (580 - y_93.toInt : Int).toNat ((by first | (clear ha_p0 ty_2 ty_11 c_21; omega) | omega)) _ _ _ ⟨G_89, y_93, (Int.toNat_of_nonneg ((by first | (clear ha_p0 ty_2 hn_10 ty_11 c_21; omega) | omega))), ⟨(by first | (clear ha_p0 ty_2 hn_10 ty_11 c_21; omega) | omega), (by first | (clear ha_p0 ty_2 hn_10 ty_11 c_21; omega) | omega)⟩, (hX_8.st (St_k_lValue_1_1_mk ⟨x_7, G_3, y_93, G_89, rfl, rfl, f_9, hB_G_3, ⟨y_11, ty_11, ⟨y_12, ey_12, ⟨c_13, ⟨y_19, ey_19, ⟨y_20, ey_20, (Or.inl ⟨c_21, ⟨y_86, ey_86, ⟨y_87, ey_87, ⟨G_89, hX_92, ⟨y_93, ty_93, ⟨rfl, rfl⟩⟩⟩⟩⟩⟩)⟩⟩⟩⟩⟩⟩)), hW, hB_G_89, hF, (Fr.call9 (rs := [39]) (fs := [(6, 3)]) (Fr.call9 (rs := [39]) (fs := [(6, 3)]) Fr.rf hq_4 rfl rfl) hq_90 rfl rfl), hS, lv_sub hl [0, 2, 3, 4, 5] rfl⟩

set_option maxHeartbeats 4000000 in
set_option maxRecDepth 100000 in
theorem k_lFind_1 (l : Launch) (D : va_G) (k : KT) (A : Nat → Prop) (a : Nat → Nat) (z : SK) (G : GS) (p0 : Int32) (p1 : Int32) (hv_6_4 : G.2.2 6 4 = 1) : Met l yX3_findFor (WS yX3_findFor cX3_findFor 7 none) ({ frames := 3, cells := 0, slots := 0, locals := 70 }) (va_Pc [.ref (a 6), .int p0, .int p1] (cW D k A a z G)) (va_Qv (fun (G1 : GS) => P_lFind_1 p0 p1 G G1) (fun (G1 : GS) t => Wd D k A a G1 t.heap) A) 0 0 A := by
  refine Met.ofW (cc := cX3_findFor) (maxL := 7) (ret := none) (by decide) rfl ?_
  intro p e s m args below meth c s₁ B hml hv
  obtain ⟨rfl, hW, hB_G, hK, hZ⟩ := hv
  have hx := B.exec
  have hb := B.bytes
  have hr := B.returns
  have hts := atoms_spec (ws := WS yX3_findFor cX3_findFor 7 none) B.pre
  have hgd : ∀ w ∈ gd, w ∈ WS yX3_findFor cX3_findFor 7 none := fun w h => List.mem_cons_of_mem _ h
  have hg : ∀ w ∈ gd, w.before _ s = true := fun w h => hts w (hgd w h)
  have hown : s.vm.findClass RX3 = some m.cls := findClass_of_methodNamed B.named
  have hS : va_S A s.heap s.heap [] := va_S.rf
  have hF : Fr [37, 38, 39] [(6, 3)] G G := Fr.rf
  have hl := lv_entry ([.ref (a 6), .int p0, .int p1]) (n := 7) (Nat.le_of_ble_eq_true rfl)
  rw [lg_entry_eq]
  generalize (lg_sl ([.ref (a 6), .int p0, .int p1]) ++ List.replicate (7 - (lg_sl ([.ref (a 6), .int p0, .int p1])).length) Slot.unset).toArray = ls at hl ⊢
  have hl : lv_has ls 7 [(0, .ref (a 6)), (1, .int p0), (2, .int p1)] := hl
  refine lv_aload_n hx hb dX3_findFor_0 rfl (lv_at hl 0 rfl) ?_
  refine S_getV (n := 1) (C := RX3) (T := TX3) (N := 5) hx hb hg iX3 hown hK hW kd_6 rfl 4 (lt_b rfl) (hg (Cond.fieldLink RX3 21 "SlabWalk$Lines" "paving" "LSlabWalk$Paving;") m353) (fun _ h9 => h9) rfl hv_6_4 dX3_findFor_1 ?_
  refine lv_iload_n hx hb dX3_findFor_4 rfl (lv_at hl 1 rfl) ?_
  refine S_calli (va_runV (As := [.int p0]) (rest := []) ⟨hx, hb, hml, hown, hts⟩ (k_hasStreet_1 l D k A a z G p0 ) (cwV 1 hts (gd_V hgd m919 m887 m888 m118 m889) rfl rfl rfl hd_X6_hasStreet ⟨Nat.le_of_ble_eq_true rfl, Nat.le_of_ble_eq_true rfl⟩) (pre_W hW hB_G hK hZ hS kd_1 rfl) rfl rfl hl.1 rfl (lv_room (Nat.le_of_ble_eq_true rfl)) dX3_findFor_5 ⟨Nat.le_of_ble_eq_true rfl, Nat.le_of_ble_eq_true rfl⟩) hS (fun r_1 G_2 H locs hpo hW hS => ?_)
  have hX_5 : P_hasStreet_1 p0 G r_1 G_2 := hpo
  obtain ⟨hB_G_2, hq_3, f_6, hp_4, -⟩ := hpo
  have hF := hF.call9 hq_3 rfl rfl
  refine lv_if_eq (tgt := 21) hx hb dX3_findFor_8 rfl (fun c_7 => ?_) (fun c_7 => ?_)
  · have c_7 : r_1.toInt = 0 := xI_eq rfl rfl c_7
    exact W.vret hx hb hr (fun t ht _ => ⟨⟨G_2, rfl, (P_lFind_1_mk ⟨hB_G_2, hF, ⟨r_1, G_2, hX_5, (Or.inl ⟨c_7, rfl⟩)⟩⟩), wd_t ht hW⟩, hS.F ht⟩) hS.2.2 dX3_findFor_21
  · have c_7 : r_1.toInt ≠ 0 := xI_ne rfl rfl c_7
    refine lv_aload_n hx hb dX3_findFor_11 rfl (lv_at hl 0 rfl) ?_
    refine S_getR (n := 38) (C := RX3) (T := TX3) (N := 5) hx hb hg iX3 hown hK hW kd_6 rfl 1 (lt_b rfl) (hg (Cond.fieldLink RX3 15 "SlabWalk$Lines" "foundOn" "[I") m350) (fun _ h9 => h9) rfl dX3_findFor_12 ?_
    refine lv_iload_n hx hb dX3_findFor_15 rfl (lv_at hl 1 rfl) ?_
    refine S_iald hx hb hK hW kd_38 (vin (by omega) (by omega)) dX3_findFor_16 (fun y_8 ey_8 => ?_)
    refine lv_iload_n hx hb dX3_findFor_17 rfl (lv_at hl 2 rfl) ?_
    refine lv_icmp_ne (tgt := 22) hx hb dX3_findFor_18 rfl (fun c_9 => ?_) (fun c_9 => ?_)
    · have c_9 : y_8.toInt ≠ p1.toInt := xI_ne rfl rfl c_9
      refine ic_0 hx hb dX3_findFor_22 ?_
      refine lv_istore_n (lv' := [(3, .int 0), (0, .ref (a 6)), (1, .int p0), (2, .int p1)]) hx hb dX3_findFor_23 rfl hl (lt_b rfl) rfl (fun ls hl => ?_)
      have qc_16 : (0 : Int32).toInt = 0 := rfl
      refine loop_N (Inv := fun n H locs ls => ∃ (G_10 : GS) (x_14 : Int32), (n : Int) = 400 - x_14.toInt ∧ (0 ≤ x_14.toInt ∧ x_14.toInt ≤ 400) ∧ Rc (St_k_lFind_1_1 p0 p1 G) (0, G_2) (x_14, G_10) ∧ Wd D k A a G_10 H ∧ Bd G_10 ∧ Fr [37, 38, 39] [(6, 3)] G G_10 ∧ Fr [37, 39] [(6, 3)] G_2 G_10 ∧ va_S A s.heap H locs ∧ lv_has ls 7 [(3, .int x_14), (0, .ref (a 6)), (1, .int p0), (2, .int p1)]) (fun n_13 H locs ls ih_12 hI => ?_) (400 - 0 : Int).toNat ⟨G_2, 0, (Int.toNat_of_nonneg ((by first | (clear f_6 hp_4 c_7 c_9; omega) | omega))), ⟨(by first | (clear f_6 hp_4 c_7 c_9; omega) | omega), (by first | (clear f_6 hp_4 c_7 c_9; omega) | omega)⟩, Rc.rf, hW, hB_G_2, hF, Fr.rf, hS, lv_sub hl [0, 1, 2, 3] rfl⟩
      obtain ⟨G_10, x_14, hn_18, f_17, hX_15, hW, hB_G_10, hF, hq_11, hS, hl⟩ := hI
      refine lv_iload_n hx hb dX3_findFor_24 rfl (lv_at hl 0 rfl) ?_
      refine lv_aload_n hx hb dX3_findFor_25 rfl (lv_at hl 1 rfl) ?_
      refine S_getV (n := 1) (C := RX3) (T := TX3) (N := 5) hx hb hg iX3 hown hK hW kd_6 rfl 4 (lt_b rfl) (hg (Cond.fieldLink RX3 21 "SlabWalk$Lines" "paving" "LSlabWalk$Paving;") m353) (fun _ h9 => h9) rfl ((((hq_11.r9 6 4 rfl rfl).trans (hq_3.r9 6 4 rfl rfl))).trans (hv_6_4)) dX3_findFor_26 ?_
      refine S_getR (n := 10) (C := RX6) (T := TX6) (N := 17) hx hb hg iX6 hown hK hW kd_1 rfl 0 (lt_b rfl) (hg (Cond.fieldLink RX3 37 "SlabWalk$Paving" "length" "[I") m158) (fun _ h9 => h9) rfl dX3_findFor_29 ?_
      refine lv_iload_n hx hb dX3_findFor_32 rfl (lv_at hl 2 rfl) ?_
      refine S_iald hx hb hK hW kd_10 (vin ((by first | (clear c_9 hn_18 f_17; omega) | omega)) ((by first | (clear c_9 hn_18 f_17; omega) | omega))) dX3_findFor_33 (fun y_19 ey_19 => ?_)
      have ty_19 : 0 ≤ y_19.toInt ∧ y_19.toInt ≤ 400 := bv_10 hB_G_10 ey_19
      refine lv_icmp_ge (tgt := 137) hx hb dX3_findFor_34 rfl (fun c_20 => ?_) (fun c_20 => ?_)
      · have c_20 : y_19.toInt ≤ x_14.toInt := xI_le rfl rfl c_20
        refine lv_aload_n hx hb dX3_findFor_137 rfl (lv_at hl 1 rfl) ?_
        refine S_getR (n := 38) (C := RX3) (T := TX3) (N := 5) hx hb hg iX3 hown hK hW kd_6 rfl 1 (lt_b rfl) (hg (Cond.fieldLink RX3 15 "SlabWalk$Lines" "foundOn" "[I") m350) (fun _ h9 => h9) rfl dX3_findFor_138 ?_
        refine lv_iload_n hx hb dX3_findFor_141 rfl (lv_at hl 2 rfl) ?_
        refine lv_iload_n hx hb dX3_findFor_142 rfl (lv_at hl 3 rfl) ?_
        refine S_iast hx hb hK hW hS kd_38 (vin ((by first | (clear c_9 hn_18 f_17 ty_19 c_20; omega) | omega)) ((by first | (clear c_9 hn_18 f_17 ty_19 c_20; omega) | omega))) dX3_findFor_143 (fun G_21 H locs eG_21 hW hS => ?_)
        have hB_G_21 : Bd G_21 := hB_G_10.put (lo := (-2147483648)) (hi := 2147483647) eG_21 rfl rfl rfl (tI_rng _).1 (tI_rng _).2 (hB_G_10.2.put eG_21 rfl)
        have hF := hF.put eG_21 (Or.inl (by decide))
        exact W.vret hx hb hr (fun t ht _ => ⟨⟨G_21, rfl, (P_lFind_1_mk ⟨hB_G_21, hF, ⟨r_1, G_2, hX_5, (Or.inr ⟨c_7, ⟨y_8, ey_8, (Or.inr ⟨c_9, ⟨x_14, G_10, hX_15, f_17, hB_G_10, hq_11, ⟨y_19, ey_19, ⟨c_20, ⟨(Fr.put (rs := [38]) (fs := []) Fr.rf eG_21 (Or.inl (by decide))), rw_ast eG_21⟩⟩⟩⟩⟩)⟩⟩)⟩⟩), wd_t ht hW⟩, hS.F ht⟩) hS.2.2 dX3_findFor_144
      · have c_20 : x_14.toInt < y_19.toInt := xI_nle rfl rfl c_20
        refine lv_aload_n hx hb dX3_findFor_37 rfl (lv_at hl 1 rfl) ?_
        refine S_getV (n := 1) (C := RX3) (T := TX3) (N := 5) hx hb hg iX3 hown hK hW kd_6 rfl 4 (lt_b rfl) (hg (Cond.fieldLink RX3 21 "SlabWalk$Lines" "paving" "LSlabWalk$Paving;") m353) (fun _ h9 => h9) rfl ((((hq_11.r9 6 4 rfl rfl).trans (hq_3.r9 6 4 rfl rfl))).trans (hv_6_4)) dX3_findFor_38 ?_
        refine lv_iload_n hx hb dX3_findFor_41 rfl (lv_at hl 2 rfl) ?_
        refine lv_iload_n hx hb dX3_findFor_42 rfl (lv_at hl 0 rfl) ?_
        refine S_calli (va_runV (As := [.int p0, .int x_14]) (rest := []) ⟨hx, hb, hml, hown, hts⟩ (k_inchAt_1 l D k A a z G_10 p0 x_14 ) (cwV 2 hts (gd_V hgd m920 m891 m892 m118 m893) rfl rfl rfl hd_X6_inchAt ⟨Nat.le_of_ble_eq_true rfl, Nat.le_of_ble_eq_true rfl⟩) (pre_W hW hB_G_10 hK hZ hS kd_1 rfl) rfl rfl hl.1 rfl (lv_room (Nat.le_of_ble_eq_true rfl)) dX3_findFor_43 ⟨Nat.le_of_ble_eq_true rfl, Nat.le_of_ble_eq_true rfl⟩) hS (fun r_22 G_23 H locs hpo hW hS => ?_)
        have hX_26 : P_inchAt_1 p0 x_14 G_10 r_22 G_23 := hpo
        obtain ⟨hB_G_23, hq_24, -⟩ := hpo
        have hF := hF.call9 hq_24 rfl rfl
        refine lv_istore (lv' := [(4, .int r_22), (3, .int x_14), (0, .ref (a 6)), (1, .int p0), (2, .int p1)]) hx hb dX3_findFor_46 hl (lt_b rfl) rfl (fun ls hl => ?_)
        refine lv_iload hx hb dX3_findFor_48 (lv_at hl 0 rfl) ?_
        refine lv_bipush (v := 13) hx hb dX3_findFor_50 (by decide) ?_
        refine lv_iand hx hb dX3_findFor_52 ?_
        refine lv_topi (fun y_27 ey_27 => ?_)
        have ty_27 := xI_and (Y := 13) rfl ey_27 (by decide)
        refine W.cut (σ := Int32) (pcJ := 62) (J := fun y H locs ls => ∃ (G_34 : GS), (0 ≤ y.toInt ∧ y.toInt ≤ 64) ∧ Jn_k_lFind_1_2 y_27 G_23 y G_34 ∧ Wd D k A a G_34 H ∧ Bd G_34 ∧ Fr [37, 38, 39] [(6, 3)] G G_34 ∧ Fr [] [] G_23 G_34 ∧ va_S A s.heap H locs ∧ lv_has ls 7 [(4, .int r_22), (3, .int x_14), (0, .ref (a 6)), (1, .int p0), (2, .int p1)]) (stJ := fun y => [.int y]) ?_ (fun hJ_35 => ?_)
        · intro y H locs ls hI
          obtain ⟨w_33, hy⟩ : ∃ q, q = y := ⟨_, rfl⟩
          subst hy
          obtain ⟨G_34, f_38, hX_37, hW, hB_G_34, hF, hq_36, hS, hl⟩ := hI
          refine lv_istore (lv' := [(5, .int w_33), (4, .int r_22), (3, .int x_14), (0, .ref (a 6)), (1, .int p0), (2, .int p1)]) hx hb dX3_findFor_62 hl (lt_b rfl) rfl (fun ls hl => ?_)
          refine ic_0 hx hb dX3_findFor_64 ?_
          refine lv_istore (lv' := [(6, .int 0), (5, .int w_33), (4, .int r_22), (3, .int x_14), (0, .ref (a 6)), (1, .int p0), (2, .int p1)]) hx hb dX3_findFor_65 hl (lt_b rfl) rfl (fun ls hl => ?_)
          have qc_46 : (0 : Int32).toInt = 0 := rfl
          refine loop_N (Inv := fun n H locs ls => ∃ (G_39 : GS) (x_43 : Int32) (x_44 : Int32), (n : Int) = 6 - x_43.toInt ∧ (0 ≤ x_43.toInt ∧ x_43.toInt ≤ 6) ∧ Rc (St_k_lFind_1_3 p1 r_22 G) (0, w_33, G_34) (x_43, x_44, G_39) ∧ Wd D k A a G_39 H ∧ Bd G_39 ∧ Fr [37, 38, 39] [(6, 3)] G G_39 ∧ Fr [39] [(6, 3)] G_34 G_39 ∧ va_S A s.heap H locs ∧ lv_has ls 7 [(6, .int x_43), (5, .int x_44), (4, .int r_22), (3, .int x_14), (0, .ref (a 6)), (1, .int p0), (2, .int p1)]) (fun n_42 H locs ls ih_41 hI => ?_) (6 - 0 : Int).toNat ⟨G_34, 0, w_33, (Int.toNat_of_nonneg ((by first | (clear f_6 hp_4 c_7 c_9 hn_18 f_17 ty_19 c_20 f_38; omega) | omega))), ⟨(by first | (clear f_6 hp_4 c_7 c_9 hn_18 f_17 ty_19 c_20 f_38; omega) | omega), (by first | (clear f_6 hp_4 c_7 c_9 hn_18 f_17 ty_19 c_20 f_38; omega) | omega)⟩, Rc.rf, hW, hB_G_34, hF, Fr.rf, hS, lv_sub hl [0, 1, 2, 3, 4, 5, 6] rfl⟩
          obtain ⟨G_39, x_43, x_44, hn_48, f_47, hX_45, hW, hB_G_39, hF, hq_40, hS, hl⟩ := hI
          refine lv_iload hx hb dX3_findFor_67 (lv_at hl 0 rfl) ?_
          refine lv_aload_n hx hb dX3_findFor_69 rfl (lv_at hl 4 rfl) ?_
          refine S_getV (n := 1) (C := RX3) (T := TX3) (N := 5) hx hb hg iX3 hown hK hW kd_6 rfl 4 (lt_b rfl) (hg (Cond.fieldLink RX3 21 "SlabWalk$Lines" "paving" "LSlabWalk$Paving;") m353) (fun _ h9 => h9) rfl ((((hq_40.r9 6 4 rfl rfl).trans ((hq_36.r9 6 4 rfl rfl).trans ((hq_24.r9 6 4 rfl rfl).trans ((hq_11.r9 6 4 rfl rfl).trans (hq_3.r9 6 4 rfl rfl)))))).trans (hv_6_4)) dX3_findFor_70 ?_
          have b_49 : 0 ≤ (G.1 1 11).toInt ∧ (G.1 1 11).toInt ≤ 6 := bd_1_11 hB_G
          refine S_getI (v := (G.1 1 11)) (C := RX6) (T := TX6) (N := 17) hx hb hg iX6 hown hK hW kd_1 rfl 11 (lt_b rfl) (hg (Cond.fieldLink RX3 44 "SlabWalk$Paving" "rules" "I") m193) (fun _ h9 => h9) rfl ((hq_40.i9 1 11 rfl rfl).trans ((hq_36.i9 1 11 rfl rfl).trans ((hq_24.i9 1 11 rfl rfl).trans ((hq_11.i9 1 11 rfl rfl).trans (hq_3.i9 1 11 rfl rfl))))) dX3_findFor_73 ?_
          refine lv_icmp_ge (tgt := 117) hx hb dX3_findFor_76 rfl (fun c_50 => ?_) (fun c_50 => ?_)
          · have c_50 : (G.1 1 11).toInt ≤ x_43.toInt := xI_le rfl rfl c_50
            refine lv_aload_n hx hb dX3_findFor_117 rfl (lv_at hl 4 rfl) ?_
            refine S_getR (n := 37) (C := RX3) (T := TX3) (N := 5) hx hb hg iX3 hown hK hW kd_6 rfl 0 (lt_b rfl) (hg (Cond.fieldLink RX3 9 "SlabWalk$Lines" "found" "[I") m349) (fun _ h9 => h9) rfl dX3_findFor_118 ?_
            refine lv_iload_n hx hb dX3_findFor_121 rfl (lv_at hl 5 rfl) ?_
            refine lv_sipush (v := 400) hx hb dX3_findFor_122 (by decide) ?_
            refine lv_imul hx hb dX3_findFor_125 ?_
            refine lv_topi (fun y_51 ey_51 => ?_)
            have ty_51 : y_51.toInt = p0.toInt * 400 := xI_mul rfl rfl ey_51 ((by first | (clear c_9 hn_18 f_17 ty_19 c_20 f_38 hn_48 f_47 b_49 c_50; omega) | omega)) ((by first | (clear c_9 hn_18 f_17 ty_19 c_20 f_38 hn_48 f_47 b_49 c_50; omega) | omega))
            refine lv_iload_n hx hb dX3_findFor_126 rfl (lv_at hl 3 rfl) ?_
            refine lv_iadd hx hb dX3_findFor_127 ?_
            refine lv_topi (fun y_52 ey_52 => ?_)
            have ty_52 : y_52.toInt = y_51.toInt + x_14.toInt := xI_add rfl rfl ey_52 ((by first | (clear c_9 hn_18 f_38 hn_48 f_47 b_49 c_50; omega) | omega)) ((by first | (clear c_9 hn_18 f_38 hn_48 f_47 b_49 c_50; omega) | omega))
            refine lv_iload hx hb dX3_findFor_128 (lv_at hl 1 rfl) ?_
            refine S_iast hx hb hK hW hS kd_37 (vin ((by first | (clear c_9 hn_18 f_38 hn_48 f_47 b_49 c_50; omega) | omega)) ((by first | (clear c_9 hn_18 f_38 hn_48 f_47 b_49 c_50; omega) | omega))) dX3_findFor_130 (fun G_53 H locs eG_53 hW hS => ?_)
            have hB_G_53 : Bd G_53 := hB_G_39.put (lo := (-2147483648)) (hi := 2147483647) eG_53 rfl rfl rfl (tI_rng _).1 (tI_rng _).2 (hB_G_39.2.put eG_53 rfl)
            have hF := hF.put eG_53 (Or.inl (by decide))
            obtain ⟨y_54, ey_54⟩ : ∃ q, q = x_14 + 1 := ⟨_, rfl⟩
            have ty_54 : y_54.toInt = x_14.toInt + 1 := xI_add rfl rfl ey_54 ((by first | (clear c_9 hn_18 f_38 hn_48 f_47 b_49 c_50; omega) | omega)) ((by first | (clear c_9 hn_18 f_38 hn_48 f_47 b_49 c_50; omega) | omega))
            refine lv_iinc (v := y_54) (lv' := [(3, .int y_54), (6, .int x_43), (5, .int x_44), (4, .int r_22), (0, .ref (a 6)), (1, .int p0), (2, .int p1)]) hx hb dX3_findFor_131 hl (k := 3) rfl (by rw [ey_54]; rfl) (lt_b rfl) rfl (fun ls hl => ?_)
            refine lv_goto (tgt := 24) hx hb dX3_findFor_134 rfl ?_
            exact ih_12 (400 - y_54.toInt : Int).toNat ((by first | (clear c_9 f_38 hn_48 f_47 b_49 c_50; omega) | omega)) _ _ _ ⟨G_53, y_54, (Int.toNat_of_nonneg ((by first | (clear c_9 hn_18 f_38 hn_48 f_47 b_49 c_50; omega) | omega))), ⟨(by first | (clear c_9 hn_18 f_38 hn_48 f_47 b_49 c_50; omega) | omega), (by first | (clear c_9 hn_18 f_38 hn_48 f_47 b_49 c_50; omega) | omega)⟩, (hX_15.st (St_k_lFind_1_1_mk ⟨x_14, G_10, y_54, G_53, rfl, rfl, f_17, hB_G_10, ⟨y_19, ey_19, ⟨c_20, ⟨r_22, G_23, hX_26, ⟨y_27, ey_27, ⟨w_33, G_34, hX_37, f_38, hB_G_34, hq_36, ⟨x_43, x_44, G_39, hX_45, f_47, hB_G_39, hq_40, ⟨c_50, ⟨y_51, ty_51, ⟨y_52, ty_52, ⟨y_54, ty_54, ⟨rfl, (Fr.put (rs := [37]) (fs := []) Fr.rf eG_53 (Or.inl (by decide))), rw_ast eG_53⟩⟩⟩⟩⟩⟩⟩⟩⟩⟩⟩⟩)), hW, hB_G_53, hF, (Fr.put (rs := [37, 39]) (fs := [(6, 3)]) (Fr.call9 (rs := [37, 39]) (fs := [(6, 3)]) (Fr.call9 (rs := [37, 39]) (fs := [(6, 3)]) (Fr.call9 (rs := [37, 39]) (fs := [(6, 3)]) (Fr.call9 (rs := [37, 39]) (fs := [(6, 3)]) Fr.rf hq_11 rfl rfl) hq_24 rfl rfl) hq_36 rfl rfl) hq_40 rfl rfl) eG_53 (Or.inl (by decide))), hS, lv_sub hl [0, 4, 5, 6] rfl⟩
          · have c_50 : x_43.toInt < (G.1 1 11).toInt := xI_nle rfl rfl c_50
            refine lv_iload hx hb dX3_findFor_79 (lv_at hl 0 rfl) ?_
            refine lv_bipush (v := 6) hx hb dX3_findFor_81 (by decide) ?_
            refine lv_icmp_ge (tgt := 117) hx hb dX3_findFor_83 rfl (fun c_55 => ?_) (fun c_55 => ?_)
            · have c_55 : 6 ≤ x_43.toInt := xI_le rfl rfl c_55
              exfalso; first | (clear f_6 hp_4 c_7 c_9 hn_18 f_17 ty_19 c_20 f_38 hn_48; omega) | omega
            · have c_55 : x_43.toInt < 6 := xI_nle rfl rfl c_55
              refine lv_iload hx hb dX3_findFor_86 (lv_at hl 1 rfl) ?_
              refine lv_aload_n hx hb dX3_findFor_88 rfl (lv_at hl 4 rfl) ?_
              refine lv_iload hx hb dX3_findFor_89 (lv_at hl 0 rfl) ?_
              refine lv_iload hx hb dX3_findFor_91 (lv_at hl 2 rfl) ?_
              refine lv_iload_n hx hb dX3_findFor_93 rfl (lv_at hl 6 rfl) ?_
              refine S_calli (va_runV (As := [.int x_43, .int r_22, .int p1]) (rest := [.int x_44]) ⟨hx, hb, hml, hown, hts⟩ (k_lValue_1 l D k A a z G_39 x_43 r_22 p1 ⟨(by first | (clear f_6 hp_4 c_7 c_9 hn_18 f_17 ty_19 c_20 f_38 hn_48; omega) | omega), (by first | (clear f_6 hp_4 c_7 c_9 hn_18 f_17 ty_19 c_20 f_38 hn_48; omega) | omega)⟩ ((((hq_40.r9 6 4 rfl rfl).trans ((hq_36.r9 6 4 rfl rfl).trans ((hq_24.r9 6 4 rfl rfl).trans ((hq_11.r9 6 4 rfl rfl).trans (hq_3.r9 6 4 rfl rfl)))))).trans (hv_6_4))) (cwV 3 hts (gd_V hgd m921 m923 m28 m122 m924) rfl rfl rfl hd_X3_valueOf ⟨Nat.le_of_ble_eq_true rfl, Nat.le_of_ble_eq_true rfl⟩) (pre_W hW hB_G_39 hK hZ hS kd_6 rfl) rfl rfl hl.1 rfl (lv_room (Nat.le_of_ble_eq_true rfl)) dX3_findFor_94 ⟨Nat.le_of_ble_eq_true rfl, Nat.le_of_ble_eq_true rfl⟩) hS (fun r_56 G_57 H locs hpo hW hS => ?_)
              have hX_60 : P_lValue_1 x_43 r_22 p1 G_39 r_56 G_57 := hpo
              obtain ⟨hB_G_57, hq_58, -⟩ := hpo
              have hF := hF.call9 hq_58 rfl rfl
              refine lv_if_eq (tgt := 107) hx hb dX3_findFor_97 rfl (fun c_61 => ?_) (fun c_61 => ?_)
              · have c_61 : r_56.toInt = 0 := xI_eq rfl rfl c_61
                refine ic_0 hx hb dX3_findFor_107 ?_
                refine lv_ior hx hb dX3_findFor_108 ?_
                refine lv_topi (fun y_62 ey_62 => ?_)
                refine lv_istore (lv' := [(5, .int y_62), (6, .int x_43), (4, .int r_22), (3, .int x_14), (0, .ref (a 6)), (1, .int p0), (2, .int p1)]) hx hb dX3_findFor_109 hl (lt_b rfl) rfl (fun ls hl => ?_)
                obtain ⟨y_63, ey_63⟩ : ∃ q, q = x_43 + 1 := ⟨_, rfl⟩
                have ty_63 : y_63.toInt = x_43.toInt + 1 := xI_add rfl rfl ey_63 ((by first | (clear f_6 hp_4 c_7 c_9 hn_18 f_17 ty_19 c_20 f_38 hn_48 c_61; omega) | omega)) ((by first | (clear f_6 hp_4 c_7 c_9 hn_18 f_17 ty_19 c_20 f_38 hn_48 c_61; omega) | omega))
                refine lv_iinc (v := y_63) (lv' := [(6, .int y_63), (5, .int y_62), (4, .int r_22), (3, .int x_14), (0, .ref (a 6)), (1, .int p0), (2, .int p1)]) hx hb dX3_findFor_111 hl (k := 1) rfl (by rw [ey_63]; rfl) (lt_b rfl) rfl (fun ls hl => ?_)
                refine lv_goto (tgt := 67) hx hb dX3_findFor_114 rfl ?_
                exact ih_41 (6 - y_63.toInt : Int).toNat ((by first | (clear f_6 hp_4 c_7 c_9 hn_18 f_17 ty_19 c_20 f_38 c_61; omega) | omega)) _ _ _ ⟨G_57, y_63, y_62, (Int.toNat_of_nonneg ((by first | (clear f_6 hp_4 c_7 c_9 hn_18 f_17 ty_19 c_20 f_38 hn_48 c_61; omega) | omega))), ⟨(by first | (clear f_6 hp_4 c_7 c_9 hn_18 f_17 ty_19 c_20 f_38 hn_48 c_61; omega) | omega), (by first | (clear f_6 hp_4 c_7 c_9 hn_18 f_17 ty_19 c_20 f_38 hn_48 c_61; omega) | omega)⟩, (hX_45.st (St_k_lFind_1_3_mk ⟨x_43, x_44, G_39, y_63, y_62, G_57, rfl, rfl, f_47, hB_G_39, ⟨c_50, ⟨r_56, G_57, hX_60, (Or.inl ⟨c_61, ⟨y_62, ey_62, ⟨y_63, ty_63, ⟨rfl, rfl, rfl⟩⟩⟩⟩)⟩⟩⟩)), hW, hB_G_57, hF, (Fr.call9 (rs := [39]) (fs := [(6, 3)]) (Fr.call9 (rs := [39]) (fs := [(6, 3)]) Fr.rf hq_40 rfl rfl) hq_58 rfl rfl), hS, lv_sub hl [0, 1, 2, 3, 4, 5, 6] rfl⟩
              · have c_61 : r_56.toInt ≠ 0 := xI_ne rfl rfl c_61
                refine ic_1 hx hb dX3_findFor_100 ?_
                refine lv_iload hx hb dX3_findFor_101 (lv_at hl 0 rfl) ?_
                refine lv_ishl hx hb dX3_findFor_103 ?_
                refine lv_topi (fun y_64 ey_64 => ?_)
                have ty_64 := sh5 (Y := x_43.toInt) rfl ey_64 rfl (by omega) (by omega)
                refine lv_goto (tgt := 108) hx hb dX3_findFor_104 rfl ?_
                refine lv_ior hx hb dX3_findFor_108 ?_
                refine lv_topi (fun y_65 ey_65 => ?_)
                refine lv_istore (lv' := [(5, .int y_65), (6, .int x_43), (4, .int r_22), (3, .int x_14), (0, .ref (a 6)), (1, .int p0), (2, .int p1)]) hx hb dX3_findFor_109 hl (lt_b rfl) rfl (fun ls hl => ?_)
                obtain ⟨y_66, ey_66⟩ : ∃ q, q = x_43 + 1 := ⟨_, rfl⟩
                have ty_66 : y_66.toInt = x_43.toInt + 1 := xI_add rfl rfl ey_66 ((by first | (clear f_6 hp_4 c_7 c_9 hn_18 f_17 ty_19 c_20 f_38 hn_48 c_61; omega) | omega)) ((by first | (clear f_6 hp_4 c_7 c_9 hn_18 f_17 ty_19 c_20 f_38 hn_48 c_61; omega) | omega))
                refine lv_iinc (v := y_66) (lv' := [(6, .int y_66), (5, .int y_65), (4, .int r_22), (3, .int x_14), (0, .ref (a 6)), (1, .int p0), (2, .int p1)]) hx hb dX3_findFor_111 hl (k := 1) rfl (by rw [ey_66]; rfl) (lt_b rfl) rfl (fun ls hl => ?_)
                refine lv_goto (tgt := 67) hx hb dX3_findFor_114 rfl ?_
                exact ih_41 (6 - y_66.toInt : Int).toNat ((by first | (clear f_6 hp_4 c_7 c_9 hn_18 f_17 ty_19 c_20 f_38 c_61; omega) | omega)) _ _ _ ⟨G_57, y_66, y_65, (Int.toNat_of_nonneg ((by first | (clear f_6 hp_4 c_7 c_9 hn_18 f_17 ty_19 c_20 f_38 hn_48 c_61; omega) | omega))), ⟨(by first | (clear f_6 hp_4 c_7 c_9 hn_18 f_17 ty_19 c_20 f_38 hn_48 c_61; omega) | omega), (by first | (clear f_6 hp_4 c_7 c_9 hn_18 f_17 ty_19 c_20 f_38 hn_48 c_61; omega) | omega)⟩, (hX_45.st (St_k_lFind_1_3_mk ⟨x_43, x_44, G_39, y_66, y_65, G_57, rfl, rfl, f_47, hB_G_39, ⟨c_50, ⟨r_56, G_57, hX_60, (Or.inr ⟨c_61, ⟨y_64, ey_64, ⟨y_65, ey_65, ⟨y_66, ty_66, ⟨rfl, rfl, rfl⟩⟩⟩⟩⟩)⟩⟩⟩)), hW, hB_G_57, hF, (Fr.call9 (rs := [39]) (fs := [(6, 3)]) (Fr.call9 (rs := [39]) (fs := [(6, 3)]) Fr.rf hq_40 rfl rfl) hq_58 rfl rfl), hS, lv_sub hl [0, 1, 2, 3, 4, 5, 6] rfl⟩
        refine lv_if_eq (tgt := 61) hx hb dX3_findFor_53 rfl (fun c_67 => ?_) (fun c_67 => ?_)
        · have c_67 : y_27.toInt = 0 := xI_eq rfl rfl c_67
          refine ic_0 hx hb dX3_findFor_61 ?_
          have qc_68 : (0 : Int32).toInt = 0 := rfl
          exact hJ_35 0 _ _ _ ⟨G_23, ⟨(by first | (clear f_6 hp_4 c_7 c_9 hn_18 f_17 ty_19 c_20 c_67; omega) | omega), (by first | (clear f_6 hp_4 c_7 c_9 hn_18 f_17 ty_19 c_20 c_67; omega) | omega)⟩, (Jn_k_lFind_1_2_mk (Or.inl ⟨c_67, ⟨rfl, rfl⟩⟩)), hW, hB_G_23, hF, (Fr.rf (rs := []) (fs := [])), hS, lv_sub hl [0, 1, 2, 3, 4] rfl⟩
        · have c_67 : y_27.toInt ≠ 0 := xI_ne rfl rfl c_67
          refine lv_bipush (v := 64) hx hb dX3_findFor_56 (by decide) ?_
          refine lv_goto (tgt := 62) hx hb dX3_findFor_58 rfl ?_
          have qc_69 : (64 : Int32).toInt = 64 := rfl
          exact hJ_35 64 _ _ _ ⟨G_23, ⟨(by first | (clear f_6 hp_4 c_7 c_9 hn_18 f_17 ty_19 c_20 c_67; omega) | omega), (by first | (clear f_6 hp_4 c_7 c_9 hn_18 f_17 ty_19 c_20 c_67; omega) | omega)⟩, (Jn_k_lFind_1_2_mk (Or.inr ⟨c_67, ⟨rfl, rfl⟩⟩)), hW, hB_G_23, hF, (Fr.rf (rs := []) (fs := [])), hS, lv_sub hl [0, 1, 2, 3, 4] rfl⟩
    · have c_9 : y_8.toInt = p1.toInt := xI_eq rfl rfl c_9
      exact W.vret hx hb hr (fun t ht _ => ⟨⟨G_2, rfl, (P_lFind_1_mk ⟨hB_G_2, hF, ⟨r_1, G_2, hX_5, (Or.inr ⟨c_7, ⟨y_8, ey_8, (Or.inl ⟨c_9, rfl⟩)⟩⟩)⟩⟩), wd_t ht hW⟩, hS.F ht⟩) hS.2.2 dX3_findFor_21

set_option maxHeartbeats 4000000 in
set_option maxRecDepth 100000 in
theorem k_lIsLine_1 (l : Launch) (D : va_G) (k : KT) (A : Nat → Prop) (a : Nat → Nat) (z : SK) (G : GS) (p0 : Int32) (p1 : Int32) (p2 : Int32) (hv_6_4 : G.2.2 6 4 = 1) : Met l yX3_isLine (WS yX3_isLine cX3_isLine 4 (some .boolean)) ({ frames := 2, cells := 0, slots := 0, locals := 43 }) (va_Pc [.ref (a 6), .int p0, .int p1, .int p2] (cW D k A a z G)) (va_Qi (fun (r : Int32) (G1 : GS) => P_lIsLine_1 p0 p1 p2 G r G1) (fun (G1 : GS) t => Wd D k A a G1 t.heap) A) 0 0 A := by
  refine Met.ofW (cc := cX3_isLine) (maxL := 4) (ret := (some .boolean)) (by decide) rfl ?_
  intro p e s m args below meth c s₁ B hml hv
  obtain ⟨rfl, hW, hB_G, hK, hZ⟩ := hv
  have hx := B.exec
  have hb := B.bytes
  have hr := B.returns
  have hts := atoms_spec (ws := WS yX3_isLine cX3_isLine 4 (some .boolean)) B.pre
  have hgd : ∀ w ∈ gd, w ∈ WS yX3_isLine cX3_isLine 4 (some .boolean) := fun w h => List.mem_cons_of_mem _ h
  have hg : ∀ w ∈ gd, w.before _ s = true := fun w h => hts w (hgd w h)
  have hown : s.vm.findClass RX3 = some m.cls := findClass_of_methodNamed B.named
  have hS : va_S A s.heap s.heap [] := va_S.rf
  have hF : Fr [] [] G G := Fr.rf
  have hl := lv_entry ([.ref (a 6), .int p0, .int p1, .int p2]) (n := 4) (Nat.le_of_ble_eq_true rfl)
  rw [lg_entry_eq]
  generalize (lg_sl ([.ref (a 6), .int p0, .int p1, .int p2]) ++ List.replicate (4 - (lg_sl ([.ref (a 6), .int p0, .int p1, .int p2])).length) Slot.unset).toArray = ls at hl ⊢
  have hl : lv_has ls 4 [(0, .ref (a 6)), (1, .int p0), (2, .int p1), (3, .int p2)] := hl
  refine lv_aload_n hx hb dX3_isLine_0 rfl (lv_at hl 0 rfl) ?_
  refine S_getV (n := 1) (C := RX3) (T := TX3) (N := 5) hx hb hg iX3 hown hK hW kd_6 rfl 4 (lt_b rfl) (hg (Cond.fieldLink RX3 21 "SlabWalk$Lines" "paving" "LSlabWalk$Paving;") m353) (fun _ h9 => h9) rfl hv_6_4 dX3_isLine_1 ?_
  refine lv_iload_n hx hb dX3_isLine_4 rfl (lv_at hl 1 rfl) ?_
  refine lv_iload_n hx hb dX3_isLine_5 rfl (lv_at hl 3 rfl) ?_
  refine S_calli (va_runV (As := [.int p0, .int p2]) (rest := []) ⟨hx, hb, hml, hown, hts⟩ (k_hasInch_1 l D k A a z G p0 p2 ) (cwV 2 hts (gd_V hgd m944 m883 m884 m118 m885) rfl rfl rfl hd_X6_hasInch ⟨Nat.le_of_ble_eq_true rfl, Nat.le_of_ble_eq_true rfl⟩) (pre_W hW hB_G hK hZ hS kd_1 rfl) rfl rfl hl.1 rfl (lv_room (Nat.le_of_ble_eq_true rfl)) dX3_isLine_6 ⟨Nat.le_of_ble_eq_true rfl, Nat.le_of_ble_eq_true rfl⟩) hS (fun r_1 G_2 H locs hpo hW hS => ?_)
  have hX_5 : P_hasInch_1 p0 p2 G r_1 G_2 := hpo
  obtain ⟨hB_G_2, hq_3, f_6, hp_4, -⟩ := hpo
  have hF := hF.call9 hq_3 rfl rfl
  refine lv_if_eq (tgt := 42) hx hb dX3_isLine_9 rfl (fun c_7 => ?_) (fun c_7 => ?_)
  · have c_7 : r_1.toInt = 0 := xI_eq rfl rfl c_7
    refine ic_0 hx hb dX3_isLine_42 ?_
    exact W.zret (v := 0) hx hb hr (by decide) (fun t ht _ => ⟨⟨0, G_2, rfl, (P_lIsLine_1_mk ⟨hB_G_2, hF, ⟨by decide, by decide⟩, ⟨r_1, G_2, hX_5, (Or.inl ⟨c_7, ⟨rfl, rfl⟩⟩)⟩⟩), wd_t ht hW⟩, hS.F ht⟩) hS.2.2 dX3_isLine_43
  · have c_7 : r_1.toInt ≠ 0 := xI_ne rfl rfl c_7
    refine lv_aload_n hx hb dX3_isLine_12 rfl (lv_at hl 0 rfl) ?_
    refine S_getR (n := 37) (C := RX3) (T := TX3) (N := 5) hx hb hg iX3 hown hK hW kd_6 rfl 0 (lt_b rfl) (hg (Cond.fieldLink RX3 9 "SlabWalk$Lines" "found" "[I") m349) (fun _ h9 => h9) rfl dX3_isLine_13 ?_
    refine lv_iload_n hx hb dX3_isLine_16 rfl (lv_at hl 1 rfl) ?_
    refine lv_sipush (v := 400) hx hb dX3_isLine_17 (by decide) ?_
    refine lv_imul hx hb dX3_isLine_20 ?_
    refine lv_topi (fun y_8 ey_8 => ?_)
    have ty_8 : y_8.toInt = p0.toInt * 400 := xI_mul rfl rfl ey_8 (by omega) (by omega)
    refine lv_iload_n hx hb dX3_isLine_21 rfl (lv_at hl 3 rfl) ?_
    refine lv_iadd hx hb dX3_isLine_22 ?_
    refine lv_topi (fun y_9 ey_9 => ?_)
    have ty_9 : y_9.toInt = y_8.toInt + p2.toInt := xI_add rfl rfl ey_9 (by omega) (by omega)
    refine S_iald hx hb hK hW kd_37 (vin (by omega) (by omega)) dX3_isLine_23 (fun y_10 ey_10 => ?_)
    refine lv_iload_n hx hb dX3_isLine_24 rfl (lv_at hl 2 rfl) ?_
    refine lv_if_ne (tgt := 33) hx hb dX3_isLine_25 rfl (fun c_11 => ?_) (fun c_11 => ?_)
    · have c_11 : p1.toInt ≠ 0 := xI_ne rfl rfl c_11
      refine lv_iload_n hx hb dX3_isLine_33 rfl (lv_at hl 2 rfl) ?_
      refine lv_iand hx hb dX3_isLine_34 ?_
      refine lv_topi (fun y_12 ey_12 => ?_)
      refine lv_if_eq (tgt := 42) hx hb dX3_isLine_35 rfl (fun c_13 => ?_) (fun c_13 => ?_)
      · have c_13 : y_12.toInt = 0 := xI_eq rfl rfl c_13
        refine ic_0 hx hb dX3_isLine_42 ?_
        exact W.zret (v := 0) hx hb hr (by decide) (fun t ht _ => ⟨⟨0, G_2, rfl, (P_lIsLine_1_mk ⟨hB_G_2, hF, ⟨by decide, by decide⟩, ⟨r_1, G_2, hX_5, (Or.inr ⟨c_7, ⟨y_8, ty_8, ⟨y_9, ty_9, ⟨y_10, ey_10, (Or.inr ⟨c_11, ⟨y_12, ey_12, (Or.inl ⟨c_13, ⟨rfl, rfl⟩⟩)⟩⟩)⟩⟩⟩⟩)⟩⟩), wd_t ht hW⟩, hS.F ht⟩) hS.2.2 dX3_isLine_43
      · have c_13 : y_12.toInt ≠ 0 := xI_ne rfl rfl c_13
        refine ic_1 hx hb dX3_isLine_38 ?_
        refine lv_goto (tgt := 43) hx hb dX3_isLine_39 rfl ?_
        exact W.zret (v := 1) hx hb hr (by decide) (fun t ht _ => ⟨⟨1, G_2, rfl, (P_lIsLine_1_mk ⟨hB_G_2, hF, ⟨by decide, by decide⟩, ⟨r_1, G_2, hX_5, (Or.inr ⟨c_7, ⟨y_8, ty_8, ⟨y_9, ty_9, ⟨y_10, ey_10, (Or.inr ⟨c_11, ⟨y_12, ey_12, (Or.inr ⟨c_13, ⟨rfl, rfl⟩⟩)⟩⟩)⟩⟩⟩⟩)⟩⟩), wd_t ht hW⟩, hS.F ht⟩) hS.2.2 dX3_isLine_43
    · have c_11 : p1.toInt = 0 := xI_eq rfl rfl c_11
      refine lv_bipush (v := 64) hx hb dX3_isLine_28 (by decide) ?_
      refine lv_goto (tgt := 34) hx hb dX3_isLine_30 rfl ?_
      refine lv_iand hx hb dX3_isLine_34 ?_
      refine lv_topi (fun y_14 ey_14 => ?_)
      have ty_14 := xI_and (Y := 64) rfl ey_14 (by decide)
      refine lv_if_eq (tgt := 42) hx hb dX3_isLine_35 rfl (fun c_15 => ?_) (fun c_15 => ?_)
      · have c_15 : y_14.toInt = 0 := xI_eq rfl rfl c_15
        refine ic_0 hx hb dX3_isLine_42 ?_
        exact W.zret (v := 0) hx hb hr (by decide) (fun t ht _ => ⟨⟨0, G_2, rfl, (P_lIsLine_1_mk ⟨hB_G_2, hF, ⟨by decide, by decide⟩, ⟨r_1, G_2, hX_5, (Or.inr ⟨c_7, ⟨y_8, ty_8, ⟨y_9, ty_9, ⟨y_10, ey_10, (Or.inl ⟨c_11, ⟨y_14, ey_14, (Or.inl ⟨c_15, ⟨rfl, rfl⟩⟩)⟩⟩)⟩⟩⟩⟩)⟩⟩), wd_t ht hW⟩, hS.F ht⟩) hS.2.2 dX3_isLine_43
      · have c_15 : y_14.toInt ≠ 0 := xI_ne rfl rfl c_15
        refine ic_1 hx hb dX3_isLine_38 ?_
        refine lv_goto (tgt := 43) hx hb dX3_isLine_39 rfl ?_
        exact W.zret (v := 1) hx hb hr (by decide) (fun t ht _ => ⟨⟨1, G_2, rfl, (P_lIsLine_1_mk ⟨hB_G_2, hF, ⟨by decide, by decide⟩, ⟨r_1, G_2, hX_5, (Or.inr ⟨c_7, ⟨y_8, ty_8, ⟨y_9, ty_9, ⟨y_10, ey_10, (Or.inl ⟨c_11, ⟨y_14, ey_14, (Or.inr ⟨c_15, ⟨rfl, rfl⟩⟩)⟩⟩)⟩⟩⟩⟩)⟩⟩), wd_t ht hW⟩, hS.F ht⟩) hS.2.2 dX3_isLine_43

set_option maxHeartbeats 4000000 in
set_option maxRecDepth 100000 in
theorem k_lIsLawful_1 (l : Launch) (D : va_G) (k : KT) (A : Nat → Prop) (a : Nat → Nat) (z : SK) (G : GS) (p0 : Int32) (p1 : Int32) (p2 : Int32) (p3 : Int32) (hv_6_4 : G.2.2 6 4 = 1) : Met l yX3_isLawful (WS yX3_isLawful cX3_isLawful 6 (some .boolean)) ({ frames := 3, cells := 0, slots := 0, locals := 66 }) (va_Pc [.ref (a 6), .int p0, .int p1, .int p2, .int p3] (cW D k A a z G)) (va_Qi (fun (r : Int32) (G1 : GS) => P_lIsLawful_1 p0 p1 p2 p3 G r G1) (fun (G1 : GS) t => Wd D k A a G1 t.heap) A) 0 0 A := by
  refine Met.ofW (cc := cX3_isLawful) (maxL := 6) (ret := (some .boolean)) (by decide) rfl ?_
  intro p e s m args below meth c s₁ B hml hv
  obtain ⟨rfl, hW, hB_G, hK, hZ⟩ := hv
  have hx := B.exec
  have hb := B.bytes
  have hr := B.returns
  have hts := atoms_spec (ws := WS yX3_isLawful cX3_isLawful 6 (some .boolean)) B.pre
  have hgd : ∀ w ∈ gd, w ∈ WS yX3_isLawful cX3_isLawful 6 (some .boolean) := fun w h => List.mem_cons_of_mem _ h
  have hg : ∀ w ∈ gd, w.before _ s = true := fun w h => hts w (hgd w h)
  have hown : s.vm.findClass RX3 = some m.cls := findClass_of_methodNamed B.named
  have hS : va_S A s.heap s.heap [] := va_S.rf
  have hF : Fr [] [] G G := Fr.rf
  have hl := lv_entry ([.ref (a 6), .int p0, .int p1, .int p2, .int p3]) (n := 6) (Nat.le_of_ble_eq_true rfl)
  rw [lg_entry_eq]
  generalize (lg_sl ([.ref (a 6), .int p0, .int p1, .int p2, .int p3]) ++ List.replicate (6 - (lg_sl ([.ref (a 6), .int p0, .int p1, .int p2, .int p3])).length) Slot.unset).toArray = ls at hl ⊢
  have hl : lv_has ls 6 [(0, .ref (a 6)), (1, .int p0), (2, .int p1), (3, .int p2), (4, .int p3)] := hl
  refine lv_aload_n hx hb dX3_isLawful_0 rfl (lv_at hl 0 rfl) ?_
  refine S_getV (n := 1) (C := RX3) (T := TX3) (N := 5) hx hb hg iX3 hown hK hW kd_6 rfl 4 (lt_b rfl) (hg (Cond.fieldLink RX3 21 "SlabWalk$Lines" "paving" "LSlabWalk$Paving;") m353) (fun _ h9 => h9) rfl hv_6_4 dX3_isLawful_1 ?_
  refine lv_iload_n hx hb dX3_isLawful_4 rfl (lv_at hl 1 rfl) ?_
  refine lv_iload_n hx hb dX3_isLawful_5 rfl (lv_at hl 2 rfl) ?_
  refine lv_iload hx hb dX3_isLawful_6 (lv_at hl 4 rfl) ?_
  refine S_calli (va_runV (As := [.int p0, .int p1, .int p3]) (rest := []) ⟨hx, hb, hml, hown, hts⟩ (k_stands_1 l D k A a z G p0 p1 p3 ) (cwV 3 hts (gd_V hgd m965 m966 m967 m118 m968) rfl rfl rfl hd_X6_stands ⟨Nat.le_of_ble_eq_true rfl, Nat.le_of_ble_eq_true rfl⟩) (pre_W hW hB_G hK hZ hS kd_1 rfl) rfl rfl hl.1 rfl (lv_room (Nat.le_of_ble_eq_true rfl)) dX3_isLawful_8 ⟨Nat.le_of_ble_eq_true rfl, Nat.le_of_ble_eq_true rfl⟩) hS (fun r_1 G_2 H locs hpo hW hS => ?_)
  have hX_5 : P_stands_1 p0 p1 p3 G r_1 G_2 := hpo
  obtain ⟨hB_G_2, hq_3, f_6, hp_4, -⟩ := hpo
  have hF := hF.call9 hq_3 rfl rfl
  refine lv_if_ne (tgt := 16) hx hb dX3_isLawful_11 rfl (fun c_7 => ?_) (fun c_7 => ?_)
  · have c_7 : r_1.toInt ≠ 0 := xI_ne rfl rfl c_7
    refine lv_iload hx hb dX3_isLawful_16 (lv_at hl 4 rfl) ?_
    refine lv_istore (lv' := [(5, .int p3), (0, .ref (a 6)), (1, .int p0), (2, .int p1), (3, .int p2), (4, .int p3)]) hx hb dX3_isLawful_18 hl (lt_b rfl) rfl (fun ls hl => ?_)
    refine loop_N (Inv := fun n H locs ls => ∃ (G_8 : GS) (x_12 : Int32), (n : Int) = 412 - x_12.toInt ∧ (0 ≤ x_12.toInt ∧ x_12.toInt ≤ 412) ∧ Rc (St_k_lIsLawful_1_1 p0 p1 p2 p3) (p3, G_2) (x_12, G_8) ∧ Wd D k A a G_8 H ∧ Bd G_8 ∧ Fr [] [] G G_8 ∧ Fr [] [] G_2 G_8 ∧ va_S A s.heap H locs ∧ lv_has ls 6 [(5, .int x_12), (0, .ref (a 6)), (1, .int p0), (2, .int p1), (3, .int p2), (4, .int p3)]) (fun n_11 H locs ls ih_10 hI => ?_) (412 - p3.toInt : Int).toNat ⟨G_2, p3, (Int.toNat_of_nonneg (by omega)), ⟨by omega, by omega⟩, Rc.rf, hW, hB_G_2, hF, Fr.rf, hS, lv_sub hl [0, 1, 2, 3, 4, 5] rfl⟩
    obtain ⟨G_8, x_12, hn_15, f_14, hX_13, hW, hB_G_8, hF, hq_9, hS, hl⟩ := hI
    refine lv_iload hx hb dX3_isLawful_20 (lv_at hl 0 rfl) ?_
    refine lv_iload hx hb dX3_isLawful_22 (lv_at hl 5 rfl) ?_
    refine lv_aload_n hx hb dX3_isLawful_24 rfl (lv_at hl 1 rfl) ?_
    refine S_getV (n := 1) (C := RX3) (T := TX3) (N := 5) hx hb hg iX3 hown hK hW kd_6 rfl 4 (lt_b rfl) (hg (Cond.fieldLink RX3 21 "SlabWalk$Lines" "paving" "LSlabWalk$Paving;") m353) (fun _ h9 => h9) rfl ((((hq_9.r9 6 4 rfl rfl).trans (hq_3.r9 6 4 rfl rfl))).trans (hv_6_4)) dX3_isLawful_25 ?_
    refine S_getR (n := 12) (C := RX6) (T := TX6) (N := 17) hx hb hg iX6 hown hK hW kd_1 rfl 2 (lt_b rfl) (hg (Cond.fieldLink RX3 60 "SlabWalk$Paving" "foot" "[I") m164) (fun _ h9 => h9) rfl dX3_isLawful_28 ?_
    refine lv_iload_n hx hb dX3_isLawful_31 rfl (lv_at hl 2 rfl) ?_
    refine S_iald hx hb hK hW kd_12 (vin (by omega) (by omega)) dX3_isLawful_32 (fun y_16 ey_16 => ?_)
    have ty_16 : 0 ≤ y_16.toInt ∧ y_16.toInt ≤ 12 := bv_12 hB_G_8 ey_16
    refine lv_iadd hx hb dX3_isLawful_33 ?_
    refine lv_topi (fun y_17 ey_17 => ?_)
    have ty_17 : y_17.toInt = p3.toInt + y_16.toInt := xI_add rfl rfl ey_17 (by omega) (by omega)
    refine lv_icmp_ge (tgt := 56) hx hb dX3_isLawful_34 rfl (fun c_18 => ?_) (fun c_18 => ?_)
    · have c_18 : y_17.toInt ≤ x_12.toInt := xI_le rfl rfl c_18
      refine ic_1 hx hb dX3_isLawful_56 ?_
      exact W.zret (v := 1) hx hb hr (by decide) (fun t ht _ => ⟨⟨1, G_8, rfl, (P_lIsLawful_1_mk ⟨hB_G_8, hF, ⟨by decide, by decide⟩, ⟨r_1, G_2, hX_5, (Or.inr ⟨c_7, ⟨x_12, G_8, hX_13, f_14, hB_G_8, hq_9, ⟨y_16, ey_16, ⟨y_17, ty_17, (Or.inl ⟨c_18, ⟨rfl, rfl⟩⟩)⟩⟩⟩⟩)⟩⟩), wd_t ht hW⟩, hS.F ht⟩) hS.2.2 dX3_isLawful_57
    · have c_18 : x_12.toInt < y_17.toInt := xI_nle rfl rfl c_18
      refine lv_aload_n hx hb dX3_isLawful_37 rfl (lv_at hl 1 rfl) ?_
      refine lv_iload_n hx hb dX3_isLawful_38 rfl (lv_at hl 3 rfl) ?_
      refine lv_iload_n hx hb dX3_isLawful_39 rfl (lv_at hl 4 rfl) ?_
      refine lv_iload hx hb dX3_isLawful_40 (lv_at hl 0 rfl) ?_
      refine S_calli (va_runV (As := [.int p1, .int p2, .int x_12]) (rest := []) ⟨hx, hb, hml, hown, hts⟩ (k_lIsLine_1 l D k A a z G_8 p1 p2 x_12 ((((hq_9.r9 6 4 rfl rfl).trans (hq_3.r9 6 4 rfl rfl))).trans (hv_6_4))) (cwV 3 hts (gd_V hgd m970 m941 m942 m122 m943) rfl rfl rfl hd_X3_isLine ⟨Nat.le_of_ble_eq_true rfl, Nat.le_of_ble_eq_true rfl⟩) (pre_W hW hB_G_8 hK hZ hS kd_6 rfl) rfl rfl hl.1 rfl (lv_room (Nat.le_of_ble_eq_true rfl)) dX3_isLawful_42 ⟨Nat.le_of_ble_eq_true rfl, Nat.le_of_ble_eq_true rfl⟩) hS (fun r_19 G_20 H locs hpo hW hS => ?_)
      have hX_23 : P_lIsLine_1 p1 p2 x_12 G_8 r_19 G_20 := hpo
      obtain ⟨hB_G_20, hq_21, f_24, -⟩ := hpo
      have hF := hF.call9 hq_21 rfl rfl
      refine lv_if_eq (tgt := 50) hx hb dX3_isLawful_45 rfl (fun c_25 => ?_) (fun c_25 => ?_)
      · have c_25 : r_19.toInt = 0 := xI_eq rfl rfl c_25
        obtain ⟨y_26, ey_26⟩ : ∃ q, q = x_12 + 1 := ⟨_, rfl⟩
        have ty_26 : y_26.toInt = x_12.toInt + 1 := xI_add rfl rfl ey_26 ((by first | (clear f_6 c_7 hn_15 f_24 c_25; omega) | omega)) ((by first | (clear f_6 c_7 hn_15 f_24 c_25; omega) | omega))
        refine lv_iinc (v := y_26) (lv' := [(5, .int y_26), (0, .ref (a 6)), (1, .int p0), (2, .int p1), (3, .int p2), (4, .int p3)]) hx hb dX3_isLawful_50 hl (k := 0) rfl (by rw [ey_26]; rfl) (lt_b rfl) rfl (fun ls hl => ?_)
        refine lv_goto (tgt := 20) hx hb dX3_isLawful_53 rfl ?_
        exact ih_10 (412 - y_26.toInt : Int).toNat ((by first | (clear f_6 c_7 f_24 c_25; omega) | omega)) _ _ _ ⟨G_20, y_26, (Int.toNat_of_nonneg ((by first | (clear f_6 c_7 hn_15 f_24 c_25; omega) | omega))), ⟨(by first | (clear f_6 c_7 hn_15 f_24 c_25; omega) | omega), (by first | (clear f_6 c_7 hn_15 f_24 c_25; omega) | omega)⟩, (hX_13.st (St_k_lIsLawful_1_1_mk ⟨x_12, G_8, y_26, G_20, rfl, rfl, f_14, hB_G_8, ⟨y_16, ey_16, ⟨y_17, ty_17, ⟨c_18, ⟨r_19, G_20, hX_23, ⟨c_25, ⟨y_26, ty_26, ⟨rfl, rfl⟩⟩⟩⟩⟩⟩⟩⟩)), hW, hB_G_20, hF, (Fr.call9 (rs := []) (fs := []) (Fr.call9 (rs := []) (fs := []) Fr.rf hq_9 rfl rfl) hq_21 rfl rfl), hS, lv_sub hl [0, 1, 2, 3, 4, 5] rfl⟩
      · have c_25 : r_19.toInt ≠ 0 := xI_ne rfl rfl c_25
        refine ic_0 hx hb dX3_isLawful_48 ?_
        exact W.zret (v := 0) hx hb hr (by decide) (fun t ht _ => ⟨⟨0, G_20, rfl, (P_lIsLawful_1_mk ⟨hB_G_20, hF, ⟨by decide, by decide⟩, ⟨r_1, G_2, hX_5, (Or.inr ⟨c_7, ⟨x_12, G_8, hX_13, f_14, hB_G_8, hq_9, ⟨y_16, ey_16, ⟨y_17, ty_17, (Or.inr ⟨c_18, ⟨r_19, G_20, hX_23, ⟨c_25, ⟨rfl, rfl⟩⟩⟩⟩)⟩⟩⟩⟩)⟩⟩), wd_t ht hW⟩, hS.F ht⟩) hS.2.2 dX3_isLawful_49
  · have c_7 : r_1.toInt = 0 := xI_eq rfl rfl c_7
    refine ic_0 hx hb dX3_isLawful_14 ?_
    exact W.zret (v := 0) hx hb hr (by decide) (fun t ht _ => ⟨⟨0, G_2, rfl, (P_lIsLawful_1_mk ⟨hB_G_2, hF, ⟨by decide, by decide⟩, ⟨r_1, G_2, hX_5, (Or.inl ⟨c_7, ⟨rfl, rfl⟩⟩)⟩⟩), wd_t ht hW⟩, hS.F ht⟩) hS.2.2 dX3_isLawful_15
