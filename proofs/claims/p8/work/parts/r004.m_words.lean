theorem m50 : Cond.selects RX12 yX12_token yX12_token ∈ gd := gds_4 2 rfl
theorem m53 : Cond.selects RX12 yX12_isWord yX12_isWord ∈ gd := gds_4 5 rfl
theorem m56 : Cond.selects RX12 yX12_isName yX12_isName ∈ gd := gds_4 8 rfl
theorem m57 : Cond.selects RX12 yX12_isOwn yX12_isOwn ∈ gd := gds_4 9 rfl
theorem m59 : Cond.selects RX12 yX12_wrong yX12_wrong ∈ gd := gds_4 11 rfl
theorem m61 : Cond.selects RX12 yX12_want yX12_want ∈ gd := gds_4 13 rfl
theorem m62 : Cond.selects RX12 yX12_toldNumber yX12_toldNumber ∈ gd := gds_4 14 rfl
theorem m1324 : Cond.fieldLink RX12 17 "SlabWalkModel" "nName" "[J" ∈ gd := gdc_6_0 8 rfl gw_fieldLink
theorem m1602 : Cond.methodLink RX12 279 yX12_token ∈ gd := gdc_7_2 14 rfl gw_methodLink
theorem m1604 : Cond.instanceMethod yX12_token ∈ gd := gdc_7_3 0 rfl gw_instanceMethod
theorem m1605 : Cond.code yX12_token cX12_token 3 none ∈ gd := gdc_7_3 1 rfl gw_code
theorem m1624 : Cond.methodLink RX12 275 yX12_isWord ∈ gd := gdc_7_4 4 rfl gw_methodLink
theorem m1626 : Cond.instanceMethod yX12_isWord ∈ gd := gdc_7_4 6 rfl gw_instanceMethod
theorem m1627 : Cond.code yX12_isWord cX12_isWord 3 (some .boolean) ∈ gd := gdc_7_4 7 rfl gw_code
theorem m1636 : Cond.methodLink RX12 293 yX12_isName ∈ gd := gdc_7_5 0 rfl gw_methodLink
theorem m1638 : Cond.instanceMethod yX12_isName ∈ gd := gdc_7_5 2 rfl gw_instanceMethod
theorem m1639 : Cond.code yX12_isName cX12_isName 1 (some .boolean) ∈ gd := gdc_7_5 3 rfl gw_code
theorem m1640 : Cond.methodLink RX12 271 yX12_isOwn ∈ gd := gdc_7_5 4 rfl gw_methodLink
theorem m1642 : Cond.instanceMethod yX12_isOwn ∈ gd := gdc_7_5 6 rfl gw_instanceMethod
theorem m1643 : Cond.code yX12_isOwn cX12_isOwn 1 (some .boolean) ∈ gd := gdc_7_5 7 rfl gw_code
theorem m1670 : Cond.methodLink RX12 282 yX12_wrong ∈ gd := gdc_7_7 2 rfl gw_methodLink
theorem m1672 : Cond.instanceMethod yX12_wrong ∈ gd := gdc_7_7 4 rfl gw_instanceMethod
theorem m1673 : Cond.code yX12_wrong cX12_wrong 2 none ∈ gd := gdc_7_7 5 rfl gw_code
theorem m1678 : Cond.methodLink RX12 285 yX12_want ∈ gd := gdc_7_7 10 rfl gw_methodLink
theorem m1680 : Cond.instanceMethod yX12_want ∈ gd := gdc_7_7 12 rfl gw_instanceMethod
theorem m1681 : Cond.code yX12_want cX12_want 3 none ∈ gd := gdc_7_7 13 rfl gw_code
theorem m1682 : Cond.methodLink RX12 289 yX12_toldNumber ∈ gd := gdc_7_7 14 rfl gw_methodLink
theorem m1684 : Cond.instanceMethod yX12_toldNumber ∈ gd := gdc_7_8 0 rfl gw_instanceMethod
theorem m1685 : Cond.code yX12_toldNumber cX12_toldNumber 4 (some .int) ∈ gd := gdc_7_8 1 rfl gw_code
def rbX12_isName_0 : List (Nat × List Nat) := [(0, [42]), (1, [180, 0, 205]), (4, [4]), (5, [160, 0, 14]), (8, [42]), (9, [182, 1, 15]), (12, [154, 0, 7]), (15, [4]), (16, [167, 0, 4]), (19, [3]), (20, [172])]
theorem rcX12_isName_0 : dgo (lb cX12_isName) 0 rbX12_isName_0 = true := by decide +kernel
theorem dX12_isName_0 : decode cX12_isName 0 = .ok (.aload_n 0, 1) := dk_42 (dw rcX12_isName_0 0 rfl)
theorem dX12_isName_1 : decode cX12_isName 1 = .ok (.getfield 205, 3) := dk_180 (dw rcX12_isName_0 1 rfl) rfl
theorem dX12_isName_4 : decode cX12_isName 4 = .ok (.iconst 1, 1) := dk_4 (dw rcX12_isName_0 2 rfl)
theorem dX12_isName_5 : decode cX12_isName 5 = .ok (.if_icmp .ne 14, 3) := dk_160 (dw rcX12_isName_0 3 rfl) rfl
theorem dX12_isName_8 : decode cX12_isName 8 = .ok (.aload_n 0, 1) := dk_42 (dw rcX12_isName_0 4 rfl)
theorem dX12_isName_9 : decode cX12_isName 9 = .ok (.invokevirtual 271, 3) := dk_182 (dw rcX12_isName_0 5 rfl) rfl
theorem dX12_isName_12 : decode cX12_isName 12 = .ok (.ifCond .ne 7, 3) := dk_154 (dw rcX12_isName_0 6 rfl) rfl
theorem dX12_isName_15 : decode cX12_isName 15 = .ok (.iconst 1, 1) := dk_4 (dw rcX12_isName_0 7 rfl)
theorem dX12_isName_16 : decode cX12_isName 16 = .ok (.goto 4, 3) := dk_167 (dw rcX12_isName_0 8 rfl) rfl
theorem dX12_isName_19 : decode cX12_isName 19 = .ok (.iconst 0, 1) := dk_3 (dw rcX12_isName_0 9 rfl)
theorem dX12_isName_20 : decode cX12_isName 20 = .ok (.ireturn, 1) := dk_172 (dw rcX12_isName_0 10 rfl)
def rbX12_newName_0 : List (Nat × List Nat) := [(0, [42]), (1, [182, 1, 23]), (4, [42]), (5, [182, 1, 37]), (8, [154, 0, 8]), (11, [42]), (12, [5]), (13, [182, 1, 26]), (16, [3]), (17, [62]), (18, [29]), (19, [28]), (20, [162, 0, 37]), (23, [42]), (24, [180, 0, 218]), (27, [154, 0, 24]), (30, [42]), (31, [180, 0, 17]), (34, [27]), (35, [29]), (36, [96]), (37, [47]), (38, [42]), (39, [180, 0, 198])]
theorem rcX12_newName_0 : dgo (lb cX12_newName) 0 rbX12_newName_0 = true := by decide +kernel
theorem dX12_newName_0 : decode cX12_newName 0 = .ok (.aload_n 0, 1) := dk_42 (dw rcX12_newName_0 0 rfl)
theorem dX12_newName_1 : decode cX12_newName 1 = .ok (.invokevirtual 279, 3) := dk_182 (dw rcX12_newName_0 1 rfl) rfl
theorem dX12_newName_4 : decode cX12_newName 4 = .ok (.aload_n 0, 1) := dk_42 (dw rcX12_newName_0 2 rfl)
theorem dX12_newName_5 : decode cX12_newName 5 = .ok (.invokevirtual 293, 3) := dk_182 (dw rcX12_newName_0 3 rfl) rfl
theorem dX12_newName_8 : decode cX12_newName 8 = .ok (.ifCond .ne 8, 3) := dk_154 (dw rcX12_newName_0 4 rfl) rfl
theorem dX12_newName_11 : decode cX12_newName 11 = .ok (.aload_n 0, 1) := dk_42 (dw rcX12_newName_0 5 rfl)
theorem dX12_newName_12 : decode cX12_newName 12 = .ok (.iconst 2, 1) := dk_5 (dw rcX12_newName_0 6 rfl)
theorem dX12_newName_13 : decode cX12_newName 13 = .ok (.invokevirtual 282, 3) := dk_182 (dw rcX12_newName_0 7 rfl) rfl
theorem dX12_newName_16 : decode cX12_newName 16 = .ok (.iconst 0, 1) := dk_3 (dw rcX12_newName_0 8 rfl)
theorem dX12_newName_17 : decode cX12_newName 17 = .ok (.istore_n 3, 1) := dk_62 (dw rcX12_newName_0 9 rfl)
theorem dX12_newName_18 : decode cX12_newName 18 = .ok (.iload_n 3, 1) := dk_29 (dw rcX12_newName_0 10 rfl)
theorem dX12_newName_19 : decode cX12_newName 19 = .ok (.iload_n 2, 1) := dk_28 (dw rcX12_newName_0 11 rfl)
theorem dX12_newName_20 : decode cX12_newName 20 = .ok (.if_icmp .ge 37, 3) := dk_162 (dw rcX12_newName_0 12 rfl) rfl
theorem dX12_newName_23 : decode cX12_newName 23 = .ok (.aload_n 0, 1) := dk_42 (dw rcX12_newName_0 13 rfl)
theorem dX12_newName_24 : decode cX12_newName 24 = .ok (.getfield 218, 3) := dk_180 (dw rcX12_newName_0 14 rfl) rfl
theorem dX12_newName_27 : decode cX12_newName 27 = .ok (.ifCond .ne 24, 3) := dk_154 (dw rcX12_newName_0 15 rfl) rfl
theorem dX12_newName_30 : decode cX12_newName 30 = .ok (.aload_n 0, 1) := dk_42 (dw rcX12_newName_0 16 rfl)
theorem dX12_newName_31 : decode cX12_newName 31 = .ok (.getfield 17, 3) := dk_180 (dw rcX12_newName_0 17 rfl) rfl
theorem dX12_newName_34 : decode cX12_newName 34 = .ok (.iload_n 1, 1) := dk_27 (dw rcX12_newName_0 18 rfl)
theorem dX12_newName_35 : decode cX12_newName 35 = .ok (.iload_n 3, 1) := dk_29 (dw rcX12_newName_0 19 rfl)
theorem dX12_newName_36 : decode cX12_newName 36 = .ok (.iadd, 1) := dk_96 (dw rcX12_newName_0 20 rfl)
theorem dX12_newName_37 : decode cX12_newName 37 = .ok (.laload, 1) := dk_47 (dw rcX12_newName_0 21 rfl)
theorem dX12_newName_38 : decode cX12_newName 38 = .ok (.aload_n 0, 1) := dk_42 (dw rcX12_newName_0 22 rfl)
theorem dX12_newName_39 : decode cX12_newName 39 = .ok (.getfield 198, 3) := dk_180 (dw rcX12_newName_0 23 rfl) rfl
def rbX12_newName_42 : List (Nat × List Nat) := [(42, [148]), (43, [154, 0, 8]), (46, [42]), (47, [6]), (48, [182, 1, 26]), (51, [132, 3, 1]), (54, [167, 255, 220]), (57, [42]), (58, [180, 0, 218]), (61, [158, 0, 4]), (64, [177]), (65, [42]), (66, [180, 0, 17]), (69, [27]), (70, [28]), (71, [96]), (72, [42]), (73, [180, 0, 198]), (76, [80]), (77, [42]), (78, [182, 1, 23]), (81, [177])]
theorem rcX12_newName_42 : dgo (lb cX12_newName) 0 rbX12_newName_42 = true := by decide +kernel
theorem dX12_newName_42 : decode cX12_newName 42 = .ok (.lcmp, 1) := dk_148 (dw rcX12_newName_42 0 rfl)
theorem dX12_newName_43 : decode cX12_newName 43 = .ok (.ifCond .ne 8, 3) := dk_154 (dw rcX12_newName_42 1 rfl) rfl
theorem dX12_newName_46 : decode cX12_newName 46 = .ok (.aload_n 0, 1) := dk_42 (dw rcX12_newName_42 2 rfl)
theorem dX12_newName_47 : decode cX12_newName 47 = .ok (.iconst 3, 1) := dk_6 (dw rcX12_newName_42 3 rfl)
theorem dX12_newName_48 : decode cX12_newName 48 = .ok (.invokevirtual 282, 3) := dk_182 (dw rcX12_newName_42 4 rfl) rfl
theorem dX12_newName_51 : decode cX12_newName 51 = .ok (.iinc 3 1, 3) := dk_132 (dw rcX12_newName_42 5 rfl) rfl
theorem dX12_newName_54 : decode cX12_newName 54 = .ok (.goto (-36), 3) := dk_167 (dw rcX12_newName_42 6 rfl) rfl
theorem dX12_newName_57 : decode cX12_newName 57 = .ok (.aload_n 0, 1) := dk_42 (dw rcX12_newName_42 7 rfl)
theorem dX12_newName_58 : decode cX12_newName 58 = .ok (.getfield 218, 3) := dk_180 (dw rcX12_newName_42 8 rfl) rfl
theorem dX12_newName_61 : decode cX12_newName 61 = .ok (.ifCond .le 4, 3) := dk_158 (dw rcX12_newName_42 9 rfl) rfl
theorem dX12_newName_64 : decode cX12_newName 64 = .ok (.return_, 1) := dk_177 (dw rcX12_newName_42 10 rfl)
theorem dX12_newName_65 : decode cX12_newName 65 = .ok (.aload_n 0, 1) := dk_42 (dw rcX12_newName_42 11 rfl)
theorem dX12_newName_66 : decode cX12_newName 66 = .ok (.getfield 17, 3) := dk_180 (dw rcX12_newName_42 12 rfl) rfl
theorem dX12_newName_69 : decode cX12_newName 69 = .ok (.iload_n 1, 1) := dk_27 (dw rcX12_newName_42 13 rfl)
theorem dX12_newName_70 : decode cX12_newName 70 = .ok (.iload_n 2, 1) := dk_28 (dw rcX12_newName_42 14 rfl)
theorem dX12_newName_71 : decode cX12_newName 71 = .ok (.iadd, 1) := dk_96 (dw rcX12_newName_42 15 rfl)
theorem dX12_newName_72 : decode cX12_newName 72 = .ok (.aload_n 0, 1) := dk_42 (dw rcX12_newName_42 16 rfl)
theorem dX12_newName_73 : decode cX12_newName 73 = .ok (.getfield 198, 3) := dk_180 (dw rcX12_newName_42 17 rfl) rfl
theorem dX12_newName_76 : decode cX12_newName 76 = .ok (.lastore, 1) := dk_80 (dw rcX12_newName_42 18 rfl)
theorem dX12_newName_77 : decode cX12_newName 77 = .ok (.aload_n 0, 1) := dk_42 (dw rcX12_newName_42 19 rfl)
theorem dX12_newName_78 : decode cX12_newName 78 = .ok (.invokevirtual 279, 3) := dk_182 (dw rcX12_newName_42 20 rfl) rfl
theorem dX12_newName_81 : decode cX12_newName 81 = .ok (.return_, 1) := dk_177 (dw rcX12_newName_42 21 rfl)
def rbX12_takes_0 : List (Nat × List Nat) := [(0, [42]), (1, [180, 0, 218]), (4, [154, 0, 15]), (7, [42]), (8, [31]), (9, [182, 1, 19]), (12, [153, 0, 7]), (15, [4]), (16, [167, 0, 4]), (19, [3]), (20, [62]), (21, [29]), (22, [153, 0, 7]), (25, [42]), (26, [182, 1, 23]), (29, [29]), (30, [172])]
theorem rcX12_takes_0 : dgo (lb cX12_takes) 0 rbX12_takes_0 = true := by decide +kernel
theorem dX12_takes_0 : decode cX12_takes 0 = .ok (.aload_n 0, 1) := dk_42 (dw rcX12_takes_0 0 rfl)
theorem dX12_takes_1 : decode cX12_takes 1 = .ok (.getfield 218, 3) := dk_180 (dw rcX12_takes_0 1 rfl) rfl
theorem dX12_takes_4 : decode cX12_takes 4 = .ok (.ifCond .ne 15, 3) := dk_154 (dw rcX12_takes_0 2 rfl) rfl
theorem dX12_takes_7 : decode cX12_takes 7 = .ok (.aload_n 0, 1) := dk_42 (dw rcX12_takes_0 3 rfl)
theorem dX12_takes_8 : decode cX12_takes 8 = .ok (.lload_n 1, 1) := dk_31 (dw rcX12_takes_0 4 rfl)
theorem dX12_takes_9 : decode cX12_takes 9 = .ok (.invokevirtual 275, 3) := dk_182 (dw rcX12_takes_0 5 rfl) rfl
theorem dX12_takes_12 : decode cX12_takes 12 = .ok (.ifCond .eq 7, 3) := dk_153 (dw rcX12_takes_0 6 rfl) rfl
theorem dX12_takes_15 : decode cX12_takes 15 = .ok (.iconst 1, 1) := dk_4 (dw rcX12_takes_0 7 rfl)
theorem dX12_takes_16 : decode cX12_takes 16 = .ok (.goto 4, 3) := dk_167 (dw rcX12_takes_0 8 rfl) rfl
theorem dX12_takes_19 : decode cX12_takes 19 = .ok (.iconst 0, 1) := dk_3 (dw rcX12_takes_0 9 rfl)
theorem dX12_takes_20 : decode cX12_takes 20 = .ok (.istore_n 3, 1) := dk_62 (dw rcX12_takes_0 10 rfl)
theorem dX12_takes_21 : decode cX12_takes 21 = .ok (.iload_n 3, 1) := dk_29 (dw rcX12_takes_0 11 rfl)
theorem dX12_takes_22 : decode cX12_takes 22 = .ok (.ifCond .eq 7, 3) := dk_153 (dw rcX12_takes_0 12 rfl) rfl
theorem dX12_takes_25 : decode cX12_takes 25 = .ok (.aload_n 0, 1) := dk_42 (dw rcX12_takes_0 13 rfl)
theorem dX12_takes_26 : decode cX12_takes 26 = .ok (.invokevirtual 279, 3) := dk_182 (dw rcX12_takes_0 14 rfl) rfl
theorem dX12_takes_29 : decode cX12_takes 29 = .ok (.iload_n 3, 1) := dk_29 (dw rcX12_takes_0 15 rfl)
theorem dX12_takes_30 : decode cX12_takes 30 = .ok (.ireturn, 1) := dk_172 (dw rcX12_takes_0 16 rfl)
def rbX12_told_0 : List (Nat × List Nat) := [(0, [42]), (1, [31]), (2, [182, 1, 29]), (5, [42]), (6, [29]), (7, [21, 4]), (9, [182, 1, 33]), (12, [172])]
theorem rcX12_told_0 : dgo (lb cX12_told) 0 rbX12_told_0 = true := by decide +kernel
theorem dX12_told_0 : decode cX12_told 0 = .ok (.aload_n 0, 1) := dk_42 (dw rcX12_told_0 0 rfl)
theorem dX12_told_1 : decode cX12_told 1 = .ok (.lload_n 1, 1) := dk_31 (dw rcX12_told_0 1 rfl)
theorem dX12_told_2 : decode cX12_told 2 = .ok (.invokevirtual 285, 3) := dk_182 (dw rcX12_told_0 2 rfl) rfl
theorem dX12_told_5 : decode cX12_told 5 = .ok (.aload_n 0, 1) := dk_42 (dw rcX12_told_0 3 rfl)
theorem dX12_told_6 : decode cX12_told 6 = .ok (.iload_n 3, 1) := dk_29 (dw rcX12_told_0 4 rfl)
theorem dX12_told_7 : decode cX12_told 7 = .ok (.iload 4, 2) := dk_21 (dw rcX12_told_0 5 rfl)
theorem dX12_told_9 : decode cX12_told 9 = .ok (.invokevirtual 289, 3) := dk_182 (dw rcX12_told_0 6 rfl) rfl
theorem dX12_told_12 : decode cX12_told 12 = .ok (.ireturn, 1) := dk_172 (dw rcX12_told_0 7 rfl)
def rbX12_toldNumber_0 : List (Nat × List Nat) := [(0, [42]), (1, [180, 0, 218]), (4, [158, 0, 5]), (7, [3]), (8, [172]), (9, [42]), (10, [180, 0, 205]), (13, [5]), (14, [159, 0, 11]), (17, [42]), (18, [5]), (19, [182, 1, 26]), (22, [167, 0, 24]), (25, [42]), (26, [180, 0, 202]), (29, [27]), (30, [161, 0, 11]), (33, [42]), (34, [180, 0, 202]), (37, [28]), (38, [164, 0, 8]), (41, [42]), (42, [7]), (43, [182, 1, 26])]
theorem rcX12_toldNumber_0 : dgo (lb cX12_toldNumber) 0 rbX12_toldNumber_0 = true := by decide +kernel
theorem dX12_toldNumber_0 : decode cX12_toldNumber 0 = .ok (.aload_n 0, 1) := dk_42 (dw rcX12_toldNumber_0 0 rfl)
theorem dX12_toldNumber_1 : decode cX12_toldNumber 1 = .ok (.getfield 218, 3) := dk_180 (dw rcX12_toldNumber_0 1 rfl) rfl
theorem dX12_toldNumber_4 : decode cX12_toldNumber 4 = .ok (.ifCond .le 5, 3) := dk_158 (dw rcX12_toldNumber_0 2 rfl) rfl
theorem dX12_toldNumber_7 : decode cX12_toldNumber 7 = .ok (.iconst 0, 1) := dk_3 (dw rcX12_toldNumber_0 3 rfl)
theorem dX12_toldNumber_8 : decode cX12_toldNumber 8 = .ok (.ireturn, 1) := dk_172 (dw rcX12_toldNumber_0 4 rfl)
theorem dX12_toldNumber_9 : decode cX12_toldNumber 9 = .ok (.aload_n 0, 1) := dk_42 (dw rcX12_toldNumber_0 5 rfl)
theorem dX12_toldNumber_10 : decode cX12_toldNumber 10 = .ok (.getfield 205, 3) := dk_180 (dw rcX12_toldNumber_0 6 rfl) rfl
theorem dX12_toldNumber_13 : decode cX12_toldNumber 13 = .ok (.iconst 2, 1) := dk_5 (dw rcX12_toldNumber_0 7 rfl)
theorem dX12_toldNumber_14 : decode cX12_toldNumber 14 = .ok (.if_icmp .eq 11, 3) := dk_159 (dw rcX12_toldNumber_0 8 rfl) rfl
theorem dX12_toldNumber_17 : decode cX12_toldNumber 17 = .ok (.aload_n 0, 1) := dk_42 (dw rcX12_toldNumber_0 9 rfl)
theorem dX12_toldNumber_18 : decode cX12_toldNumber 18 = .ok (.iconst 2, 1) := dk_5 (dw rcX12_toldNumber_0 10 rfl)
theorem dX12_toldNumber_19 : decode cX12_toldNumber 19 = .ok (.invokevirtual 282, 3) := dk_182 (dw rcX12_toldNumber_0 11 rfl) rfl
theorem dX12_toldNumber_22 : decode cX12_toldNumber 22 = .ok (.goto 24, 3) := dk_167 (dw rcX12_toldNumber_0 12 rfl) rfl
theorem dX12_toldNumber_25 : decode cX12_toldNumber 25 = .ok (.aload_n 0, 1) := dk_42 (dw rcX12_toldNumber_0 13 rfl)
theorem dX12_toldNumber_26 : decode cX12_toldNumber 26 = .ok (.getfield 202, 3) := dk_180 (dw rcX12_toldNumber_0 14 rfl) rfl
theorem dX12_toldNumber_29 : decode cX12_toldNumber 29 = .ok (.iload_n 1, 1) := dk_27 (dw rcX12_toldNumber_0 15 rfl)
theorem dX12_toldNumber_30 : decode cX12_toldNumber 30 = .ok (.if_icmp .lt 11, 3) := dk_161 (dw rcX12_toldNumber_0 16 rfl) rfl
theorem dX12_toldNumber_33 : decode cX12_toldNumber 33 = .ok (.aload_n 0, 1) := dk_42 (dw rcX12_toldNumber_0 17 rfl)
theorem dX12_toldNumber_34 : decode cX12_toldNumber 34 = .ok (.getfield 202, 3) := dk_180 (dw rcX12_toldNumber_0 18 rfl) rfl
theorem dX12_toldNumber_37 : decode cX12_toldNumber 37 = .ok (.iload_n 2, 1) := dk_28 (dw rcX12_toldNumber_0 19 rfl)
theorem dX12_toldNumber_38 : decode cX12_toldNumber 38 = .ok (.if_icmp .le 8, 3) := dk_164 (dw rcX12_toldNumber_0 20 rfl) rfl
theorem dX12_toldNumber_41 : decode cX12_toldNumber 41 = .ok (.aload_n 0, 1) := dk_42 (dw rcX12_toldNumber_0 21 rfl)
theorem dX12_toldNumber_42 : decode cX12_toldNumber 42 = .ok (.iconst 4, 1) := dk_7 (dw rcX12_toldNumber_0 22 rfl)
theorem dX12_toldNumber_43 : decode cX12_toldNumber 43 = .ok (.invokevirtual 282, 3) := dk_182 (dw rcX12_toldNumber_0 23 rfl) rfl
def rbX12_toldNumber_46 : List (Nat × List Nat) := [(46, [42]), (47, [180, 0, 202]), (50, [62]), (51, [42]), (52, [180, 0, 218]), (55, [154, 0, 7]), (58, [42]), (59, [182, 1, 23]), (62, [29]), (63, [172])]
theorem rcX12_toldNumber_46 : dgo (lb cX12_toldNumber) 0 rbX12_toldNumber_46 = true := by decide +kernel
theorem dX12_toldNumber_46 : decode cX12_toldNumber 46 = .ok (.aload_n 0, 1) := dk_42 (dw rcX12_toldNumber_46 0 rfl)
theorem dX12_toldNumber_47 : decode cX12_toldNumber 47 = .ok (.getfield 202, 3) := dk_180 (dw rcX12_toldNumber_46 1 rfl) rfl
theorem dX12_toldNumber_50 : decode cX12_toldNumber 50 = .ok (.istore_n 3, 1) := dk_62 (dw rcX12_toldNumber_46 2 rfl)
theorem dX12_toldNumber_51 : decode cX12_toldNumber 51 = .ok (.aload_n 0, 1) := dk_42 (dw rcX12_toldNumber_46 3 rfl)
theorem dX12_toldNumber_52 : decode cX12_toldNumber 52 = .ok (.getfield 218, 3) := dk_180 (dw rcX12_toldNumber_46 4 rfl) rfl
theorem dX12_toldNumber_55 : decode cX12_toldNumber 55 = .ok (.ifCond .ne 7, 3) := dk_154 (dw rcX12_toldNumber_46 5 rfl) rfl
theorem dX12_toldNumber_58 : decode cX12_toldNumber 58 = .ok (.aload_n 0, 1) := dk_42 (dw rcX12_toldNumber_46 6 rfl)
theorem dX12_toldNumber_59 : decode cX12_toldNumber 59 = .ok (.invokevirtual 279, 3) := dk_182 (dw rcX12_toldNumber_46 7 rfl) rfl
theorem dX12_toldNumber_62 : decode cX12_toldNumber 62 = .ok (.iload_n 3, 1) := dk_29 (dw rcX12_toldNumber_46 8 rfl)
theorem dX12_toldNumber_63 : decode cX12_toldNumber 63 = .ok (.ireturn, 1) := dk_172 (dw rcX12_toldNumber_46 9 rfl)
def rbX12_want_0 : List (Nat × List Nat) := [(0, [42]), (1, [180, 0, 218]), (4, [158, 0, 4]), (7, [177]), (8, [42]), (9, [31]), (10, [182, 1, 19]), (13, [154, 0, 11]), (16, [42]), (17, [5]), (18, [182, 1, 26]), (21, [167, 0, 7]), (24, [42]), (25, [182, 1, 23]), (28, [177])]
theorem rcX12_want_0 : dgo (lb cX12_want) 0 rbX12_want_0 = true := by decide +kernel
theorem dX12_want_0 : decode cX12_want 0 = .ok (.aload_n 0, 1) := dk_42 (dw rcX12_want_0 0 rfl)
theorem dX12_want_1 : decode cX12_want 1 = .ok (.getfield 218, 3) := dk_180 (dw rcX12_want_0 1 rfl) rfl
theorem dX12_want_4 : decode cX12_want 4 = .ok (.ifCond .le 4, 3) := dk_158 (dw rcX12_want_0 2 rfl) rfl
theorem dX12_want_7 : decode cX12_want 7 = .ok (.return_, 1) := dk_177 (dw rcX12_want_0 3 rfl)
theorem dX12_want_8 : decode cX12_want 8 = .ok (.aload_n 0, 1) := dk_42 (dw rcX12_want_0 4 rfl)
theorem dX12_want_9 : decode cX12_want 9 = .ok (.lload_n 1, 1) := dk_31 (dw rcX12_want_0 5 rfl)
theorem dX12_want_10 : decode cX12_want 10 = .ok (.invokevirtual 275, 3) := dk_182 (dw rcX12_want_0 6 rfl) rfl
theorem dX12_want_13 : decode cX12_want 13 = .ok (.ifCond .ne 11, 3) := dk_154 (dw rcX12_want_0 7 rfl) rfl
theorem dX12_want_16 : decode cX12_want 16 = .ok (.aload_n 0, 1) := dk_42 (dw rcX12_want_0 8 rfl)
theorem dX12_want_17 : decode cX12_want 17 = .ok (.iconst 2, 1) := dk_5 (dw rcX12_want_0 9 rfl)
theorem dX12_want_18 : decode cX12_want 18 = .ok (.invokevirtual 282, 3) := dk_182 (dw rcX12_want_0 10 rfl) rfl
theorem dX12_want_21 : decode cX12_want 21 = .ok (.goto 7, 3) := dk_167 (dw rcX12_want_0 11 rfl) rfl
theorem dX12_want_24 : decode cX12_want 24 = .ok (.aload_n 0, 1) := dk_42 (dw rcX12_want_0 12 rfl)
theorem dX12_want_25 : decode cX12_want 25 = .ok (.invokevirtual 279, 3) := dk_182 (dw rcX12_want_0 13 rfl) rfl
theorem dX12_want_28 : decode cX12_want 28 = .ok (.return_, 1) := dk_177 (dw rcX12_want_0 14 rfl)
set_option maxHeartbeats 4000000 in
set_option maxRecDepth 100000 in
theorem n_isName (l : Launch) (D : va_G) (k : KT) (A : Nat → Prop) (a : Nat → Nat) (z : SK) (G : GS)   : Met l yX12_isName (WS yX12_isName cX12_isName 1 (some .boolean)) ({ frames := 2, cells := 0, slots := 0, locals := 40 }) (va_Pc [.ref (a 66)] (cW D k A a z G)) (va_Qi (fun (r : Int32) (G1 : GS) => Q_isName G r G1) (fun (G1 : GS) t => Wd D k A a G1 t.heap) A) 0 0 A := by
  refine Met.ofW (cc := cX12_isName) (maxL := 1) (ret := (some .boolean)) (by decide) rfl ?_
  intro p e s m args below meth c s₁ B hml hv
  obtain ⟨rfl, hW, hB_G, hK, hZ⟩ := hv
  have hx := B.exec
  have hb := B.bytes
  have hr := B.returns
  have hts := atoms_spec (ws := WS yX12_isName cX12_isName 1 (some .boolean)) B.pre
  have hgd : ∀ w ∈ gd, w ∈ WS yX12_isName cX12_isName 1 (some .boolean) := fun w h => List.mem_cons_of_mem _ h
  have hg : ∀ w ∈ gd, w.before _ s = true := fun w h => hts w (hgd w h)
  have hown : s.vm.findClass RX12 = some m.cls := findClass_of_methodNamed B.named
  have hS : va_S A s.heap s.heap [] := va_S.rf
  have hF : Fr [] [] G G := Fr.rf
  have hl := lv_entry ([.ref (a 66)]) (n := 1) (Nat.le_of_ble_eq_true rfl)
  rw [lg_entry_eq]
  generalize (lg_sl ([.ref (a 66)]) ++ List.replicate (1 - (lg_sl ([.ref (a 66)])).length) Slot.unset).toArray = ls at hl ⊢
  have hl : lv_has ls 1 [(0, .ref (a 66))] := hl
  refine lv_aload_n hx hb dX12_isName_0 rfl (lv_at hl 0 rfl) ?_
  refine S_getI (v := (G.1 66 6)) (C := RX12) (T := TX12) (N := 89) hx hb hg iX12 hown hK hW kd_66 rfl 6 (lt_b rfl) (hg (Cond.fieldLink RX12 205 "SlabWalkModel" "sort" "I") m1320) (fun _ h9 => h9) rfl rfl dX12_isName_1 ?_
  refine ic_1 hx hb dX12_isName_4 ?_
  refine lv_icmp_ne (tgt := 19) hx hb dX12_isName_5 rfl (fun c_1 => ?_) (fun c_1 => ?_)
  · have c_1 : (G.1 66 6).toInt ≠ 1 := xI_ne rfl rfl c_1
    refine ic_0 hx hb dX12_isName_19 ?_
    exact W.zret (v := 0) hx hb hr (by decide) (fun t ht _ => ⟨⟨0, G, rfl, (Q_isName_mk ⟨hB_G, hF, ⟨by decide, by decide⟩, (Or.inr ⟨c_1, ⟨rfl, rfl⟩⟩)⟩), wd_t ht hW⟩, hS.F ht⟩) hS.2.2 dX12_isName_20
  · have c_1 : (G.1 66 6).toInt = 1 := xI_eq rfl rfl c_1
    refine lv_aload_n hx hb dX12_isName_8 rfl (lv_at hl 0 rfl) ?_
    refine S_calli (va_runV (As := []) (rest := []) ⟨hx, hb, hml, hown, hts⟩ (n_isOwn l D k A a z G  ) (cwV 0 hts (gd_V hgd m1640 m1642 m57 m131 m1643) rfl rfl rfl hd_X12_isOwn ⟨Nat.le_of_ble_eq_true rfl, Nat.le_of_ble_eq_true rfl⟩) (pre_W hW hB_G hK hZ hS kd_66 rfl) rfl rfl hl.1 rfl (lv_room (Nat.le_of_ble_eq_true rfl)) dX12_isName_9 ⟨Nat.le_of_ble_eq_true rfl, Nat.le_of_ble_eq_true rfl⟩) hS (fun r_2 G_3 H locs hpo hW hS => ?_)
    have hX_6 : Q_isOwn G r_2 G_3 := hpo
    obtain ⟨hB_G_3, hq_4, f_7, -⟩ := hpo
    have hF := hF.call9 hq_4 rfl rfl
    refine lv_if_ne (tgt := 19) hx hb dX12_isName_12 rfl (fun c_8 => ?_) (fun c_8 => ?_)
    · have c_8 : r_2.toInt ≠ 0 := xI_ne rfl rfl c_8
      refine ic_0 hx hb dX12_isName_19 ?_
      exact W.zret (v := 0) hx hb hr (by decide) (fun t ht _ => ⟨⟨0, G_3, rfl, (Q_isName_mk ⟨hB_G_3, hF, ⟨by decide, by decide⟩, (Or.inl ⟨c_1, ⟨r_2, G_3, hX_6, (Or.inr ⟨c_8, ⟨rfl, rfl⟩⟩)⟩⟩)⟩), wd_t ht hW⟩, hS.F ht⟩) hS.2.2 dX12_isName_20
    · have c_8 : r_2.toInt = 0 := xI_eq rfl rfl c_8
      refine ic_1 hx hb dX12_isName_15 ?_
      refine lv_goto (tgt := 20) hx hb dX12_isName_16 rfl ?_
      exact W.zret (v := 1) hx hb hr (by decide) (fun t ht _ => ⟨⟨1, G_3, rfl, (Q_isName_mk ⟨hB_G_3, hF, ⟨by decide, by decide⟩, (Or.inl ⟨c_1, ⟨r_2, G_3, hX_6, (Or.inl ⟨c_8, ⟨rfl, rfl⟩⟩)⟩⟩)⟩), wd_t ht hW⟩, hS.F ht⟩) hS.2.2 dX12_isName_20

set_option maxHeartbeats 4000000 in
set_option maxRecDepth 100000 in
theorem n_takes (l : Launch) (D : va_G) (k : KT) (A : Nat → Prop) (a : Nat → Nat) (z : SK) (G : GS) (p0 : Int64)  : Met l yX12_takes (WS yX12_takes cX12_takes 4 (some .boolean)) ({ frames := 2, cells := 0, slots := 0, locals := 43 }) (va_Pc [.ref (a 66), .long p0] (cW D k A a z G)) (va_Qi (fun (r : Int32) (G1 : GS) => Q_takes p0 G r G1) (fun (G1 : GS) t => Wd D k A a G1 t.heap) A) 0 0 A := by
  refine Met.ofW (cc := cX12_takes) (maxL := 4) (ret := (some .boolean)) (by decide) rfl ?_
  intro p e s m args below meth c s₁ B hml hv
  obtain ⟨rfl, hW, hB_G, hK, hZ⟩ := hv
  have hx := B.exec
  have hb := B.bytes
  have hr := B.returns
  have hts := atoms_spec (ws := WS yX12_takes cX12_takes 4 (some .boolean)) B.pre
  have hgd : ∀ w ∈ gd, w ∈ WS yX12_takes cX12_takes 4 (some .boolean) := fun w h => List.mem_cons_of_mem _ h
  have hg : ∀ w ∈ gd, w.before _ s = true := fun w h => hts w (hgd w h)
  have hown : s.vm.findClass RX12 = some m.cls := findClass_of_methodNamed B.named
  have hS : va_S A s.heap s.heap [] := va_S.rf
  have hF : Fr [] [(66, 4), (66, 6), (66, 7), (66, 8), (66, 9)] G G := Fr.rf
  have hl := lv_entry ([.ref (a 66), .long p0]) (n := 4) (Nat.le_of_ble_eq_true rfl)
  rw [lg_entry_eq]
  generalize (lg_sl ([.ref (a 66), .long p0]) ++ List.replicate (4 - (lg_sl ([.ref (a 66), .long p0])).length) Slot.unset).toArray = ls at hl ⊢
  have hl : lv_has ls 4 [(0, .ref (a 66)), (1, .long p0)] := hl
  refine lv_aload_n hx hb dX12_takes_0 rfl (lv_at hl 0 rfl) ?_
  have b_1 : 0 ≤ (G.1 66 2).toInt ∧ (G.1 66 2).toInt ≤ 4 := bd_66_2 hB_G
  refine S_getI (v := (G.1 66 2)) (C := RX12) (T := TX12) (N := 89) hx hb hg iX12 hown hK hW kd_66 rfl 2 (lt_b rfl) (hg (Cond.fieldLink RX12 218 "SlabWalkModel" "fault" "I") m1316) (fun _ h9 => h9) rfl rfl dX12_takes_1 ?_
  refine lv_if_ne (tgt := 19) hx hb dX12_takes_4 rfl (fun c_2 => ?_) (fun c_2 => ?_)
  · have c_2 : (G.1 66 2).toInt ≠ 0 := xI_ne rfl rfl c_2
    refine ic_0 hx hb dX12_takes_19 ?_
    refine lv_istore_n (lv' := [(3, .int 0), (0, .ref (a 66)), (1, .long p0)]) hx hb dX12_takes_20 rfl hl (lt_b rfl) rfl (fun ls hl => ?_)
    refine lv_iload_n hx hb dX12_takes_21 rfl (lv_at hl 0 rfl) ?_
    refine lv_if_eq (tgt := 29) hx hb dX12_takes_22 rfl (fun c_3 => ?_) (fun c_3 => ?_)
    · have c_3 : (0 : Int) = (0 : Int) := xI_eq rfl rfl c_3
      refine lv_iload_n hx hb dX12_takes_29 rfl (lv_at hl 0 rfl) ?_
      have b_4 : 0 ≤ (G.1 66 4).toInt ∧ (G.1 66 4).toInt ≤ 1600 := bd_66_4 hB_G
      exact W.zret (v := 0) hx hb hr (by decide) (fun t ht _ => ⟨⟨0, G, rfl, (Q_takes_mk ⟨hB_G, hF, ⟨by decide, by decide⟩, (by have hq : (0 : Int32).toInt = 0 := rfl; (try dsimp only); omega), (Or.inr ⟨c_2, ⟨rfl, rfl⟩⟩)⟩), wd_t ht hW⟩, hS.F ht⟩) hS.2.2 dX12_takes_30
    · have c_3 : (0 : Int) ≠ (0 : Int) := xI_ne rfl rfl c_3
      exfalso; omega
  · have c_2 : (G.1 66 2).toInt = 0 := xI_eq rfl rfl c_2
    refine lv_aload_n hx hb dX12_takes_7 rfl (lv_at hl 0 rfl) ?_
    refine lv_lload_n hx hb dX12_takes_8 rfl (lv_at hl 1 rfl) ?_
    refine S_calli (va_runV (As := [.long p0]) (rest := []) ⟨hx, hb, hml, hown, hts⟩ (n_isWord l D k A a z G p0 ) (cwV 1 hts (gd_V hgd m1624 m1626 m53 m131 m1627) rfl rfl rfl hd_X12_isWord ⟨Nat.le_of_ble_eq_true rfl, Nat.le_of_ble_eq_true rfl⟩) (pre_W hW hB_G hK hZ hS kd_66 rfl) rfl rfl hl.1 rfl (lv_room (Nat.le_of_ble_eq_true rfl)) dX12_takes_9 ⟨Nat.le_of_ble_eq_true rfl, Nat.le_of_ble_eq_true rfl⟩) hS (fun r_5 G_6 H locs hpo hW hS => ?_)
    have hX_9 : Q_isWord p0 G r_5 G_6 := hpo
    obtain ⟨hB_G_6, hq_7, f_10, hp_8, -⟩ := hpo
    have hF := hF.call9 hq_7 rfl rfl
    refine lv_if_eq (tgt := 19) hx hb dX12_takes_12 rfl (fun c_11 => ?_) (fun c_11 => ?_)
    · have c_11 : r_5.toInt = 0 := xI_eq rfl rfl c_11
      refine ic_0 hx hb dX12_takes_19 ?_
      refine lv_istore_n (lv' := [(3, .int 0), (0, .ref (a 66)), (1, .long p0)]) hx hb dX12_takes_20 rfl hl (lt_b rfl) rfl (fun ls hl => ?_)
      refine lv_iload_n hx hb dX12_takes_21 rfl (lv_at hl 0 rfl) ?_
      refine lv_if_eq (tgt := 29) hx hb dX12_takes_22 rfl (fun c_12 => ?_) (fun c_12 => ?_)
      · have c_12 : (0 : Int) = (0 : Int) := xI_eq rfl rfl c_12
        refine lv_iload_n hx hb dX12_takes_29 rfl (lv_at hl 0 rfl) ?_
        have b_13 : 0 ≤ (G.1 66 4).toInt ∧ (G.1 66 4).toInt ≤ 1600 := bd_66_4 hB_G
        have g_14 : (G_6.1 66 4).toInt = (G.1 66 4).toInt := (congrArg Int32.toInt (show G_6.1 66 4 = (G.1 66 4) from (hq_7.i9 66 4 rfl rfl)))
        have g_15 : (G_6.1 66 6).toInt = (G.1 66 6).toInt := (congrArg Int32.toInt (show G_6.1 66 6 = (G.1 66 6) from (hq_7.i9 66 6 rfl rfl)))
        exact W.zret (v := 0) hx hb hr (by decide) (fun t ht _ => ⟨⟨0, G_6, rfl, (Q_takes_mk ⟨hB_G_6, hF, ⟨by decide, by decide⟩, (by have hq : (0 : Int32).toInt = 0 := rfl; (try dsimp only); omega), (Or.inl ⟨c_2, ⟨r_5, G_6, hX_9, (Or.inl ⟨c_11, ⟨rfl, rfl⟩⟩)⟩⟩)⟩), wd_t ht hW⟩, hS.F ht⟩) hS.2.2 dX12_takes_30
      · have c_12 : (0 : Int) ≠ (0 : Int) := xI_ne rfl rfl c_12
        exfalso; first | (clear b_1 c_2 f_10 hp_8 c_11; omega) | omega
    · have c_11 : r_5.toInt ≠ 0 := xI_ne rfl rfl c_11
      refine ic_1 hx hb dX12_takes_15 ?_
      refine lv_goto (tgt := 20) hx hb dX12_takes_16 rfl ?_
      refine lv_istore_n (lv' := [(3, .int 1), (0, .ref (a 66)), (1, .long p0)]) hx hb dX12_takes_20 rfl hl (lt_b rfl) rfl (fun ls hl => ?_)
      refine lv_iload_n hx hb dX12_takes_21 rfl (lv_at hl 0 rfl) ?_
      refine lv_if_eq (tgt := 29) hx hb dX12_takes_22 rfl (fun c_16 => ?_) (fun c_16 => ?_)
      · have c_16 : (1 : Int) = (0 : Int) := xI_eq rfl rfl c_16
        exfalso; first | (clear b_1 c_2 f_10 hp_8 c_11; omega) | omega
      · have c_16 : (1 : Int) ≠ (0 : Int) := xI_ne rfl rfl c_16
        refine lv_aload_n hx hb dX12_takes_25 rfl (lv_at hl 1 rfl) ?_
        have b_17 : 0 ≤ (G.1 66 4).toInt ∧ (G.1 66 4).toInt ≤ 1600 := bd_66_4 hB_G
        have g_18 : (G_6.1 66 4).toInt = (G.1 66 4).toInt := (congrArg Int32.toInt (show G_6.1 66 4 = (G.1 66 4) from (hq_7.i9 66 4 rfl rfl)))
        have g_19 : (G_6.1 66 6).toInt = (G.1 66 6).toInt := (congrArg Int32.toInt (show G_6.1 66 6 = (G.1 66 6) from (hq_7.i9 66 6 rfl rfl)))
        refine S_callv (va_runV (As := []) (rest := []) ⟨hx, hb, hml, hown, hts⟩ (n_token l D k A a z G_6  ) (cwV 0 hts (gd_V hgd m1602 m1604 m50 m131 m1605) rfl rfl rfl hd_X12_token ⟨Nat.le_of_ble_eq_true rfl, Nat.le_of_ble_eq_true rfl⟩) (pre_W hW hB_G_6 hK hZ hS kd_66 rfl) rfl rfl hl.1 rfl (lv_room (Nat.le_of_ble_eq_true rfl)) dX12_takes_26 ⟨Nat.le_of_ble_eq_true rfl, Nat.le_of_ble_eq_true rfl⟩) hS (fun G_21 H locs hpo hW hS => ?_)
        have hX_24 : Q_token G_6 G_21 := hpo
        obtain ⟨hB_G_21, hq_22, ⟨d_1, d_2⟩, -⟩ := hpo
        have hF := hF.call9 hq_22 rfl rfl
        refine lv_iload_n hx hb dX12_takes_29 rfl (lv_at hl 0 rfl) ?_
        have b_25 : 0 ≤ (G_21.1 66 4).toInt ∧ (G_21.1 66 4).toInt ≤ 1600 := bd_66_4 hB_G_21
        exact W.zret (v := 1) hx hb hr (by decide) (fun t ht _ => ⟨⟨1, G_21, rfl, (Q_takes_mk ⟨hB_G_21, hF, ⟨by decide, by decide⟩, (by have hq : (1 : Int32).toInt = 1 := rfl; (try dsimp only); omega), (Or.inl ⟨c_2, ⟨r_5, G_6, hX_9, (Or.inr ⟨c_11, ⟨G_21, hX_24, ⟨rfl, rfl⟩⟩⟩)⟩⟩)⟩), wd_t ht hW⟩, hS.F ht⟩) hS.2.2 dX12_takes_30

set_option maxHeartbeats 4000000 in
set_option maxRecDepth 100000 in
theorem n_want (l : Launch) (D : va_G) (k : KT) (A : Nat → Prop) (a : Nat → Nat) (z : SK) (G : GS) (p0 : Int64)  : Met l yX12_want (WS yX12_want cX12_want 3 none) ({ frames := 2, cells := 0, slots := 0, locals := 43 }) (va_Pc [.ref (a 66), .long p0] (cW D k A a z G)) (va_Qv (fun (G1 : GS) => Q_want p0 G G1) (fun (G1 : GS) t => Wd D k A a G1 t.heap) A) 0 0 A := by
  refine Met.ofW (cc := cX12_want) (maxL := 3) (ret := none) (by decide) rfl ?_
  intro p e s m args below meth c s₁ B hml hv
  obtain ⟨rfl, hW, hB_G, hK, hZ⟩ := hv
  have hx := B.exec
  have hb := B.bytes
  have hr := B.returns
  have hts := atoms_spec (ws := WS yX12_want cX12_want 3 none) B.pre
  have hgd : ∀ w ∈ gd, w ∈ WS yX12_want cX12_want 3 none := fun w h => List.mem_cons_of_mem _ h
  have hg : ∀ w ∈ gd, w.before _ s = true := fun w h => hts w (hgd w h)
  have hown : s.vm.findClass RX12 = some m.cls := findClass_of_methodNamed B.named
  have hS : va_S A s.heap s.heap [] := va_S.rf
  have hF : Fr [] [(66, 2), (66, 3), (66, 4), (66, 6), (66, 7), (66, 8), (66, 9)] G G := Fr.rf
  have hl := lv_entry ([.ref (a 66), .long p0]) (n := 3) (Nat.le_of_ble_eq_true rfl)
  rw [lg_entry_eq]
  generalize (lg_sl ([.ref (a 66), .long p0]) ++ List.replicate (3 - (lg_sl ([.ref (a 66), .long p0])).length) Slot.unset).toArray = ls at hl ⊢
  have hl : lv_has ls 3 [(0, .ref (a 66)), (1, .long p0)] := hl
  refine lv_aload_n hx hb dX12_want_0 rfl (lv_at hl 0 rfl) ?_
  have b_1 : 0 ≤ (G.1 66 2).toInt ∧ (G.1 66 2).toInt ≤ 4 := bd_66_2 hB_G
  refine S_getI (v := (G.1 66 2)) (C := RX12) (T := TX12) (N := 89) hx hb hg iX12 hown hK hW kd_66 rfl 2 (lt_b rfl) (hg (Cond.fieldLink RX12 218 "SlabWalkModel" "fault" "I") m1316) (fun _ h9 => h9) rfl rfl dX12_want_1 ?_
  refine lv_if_le (tgt := 8) hx hb dX12_want_4 rfl (fun c_2 => ?_) (fun c_2 => ?_)
  · have c_2 : (G.1 66 2).toInt ≤ 0 := xI_le rfl rfl c_2
    refine lv_aload_n hx hb dX12_want_8 rfl (lv_at hl 0 rfl) ?_
    refine lv_lload_n hx hb dX12_want_9 rfl (lv_at hl 1 rfl) ?_
    refine S_calli (va_runV (As := [.long p0]) (rest := []) ⟨hx, hb, hml, hown, hts⟩ (n_isWord l D k A a z G p0 ) (cwV 1 hts (gd_V hgd m1624 m1626 m53 m131 m1627) rfl rfl rfl hd_X12_isWord ⟨Nat.le_of_ble_eq_true rfl, Nat.le_of_ble_eq_true rfl⟩) (pre_W hW hB_G hK hZ hS kd_66 rfl) rfl rfl hl.1 rfl (lv_room (Nat.le_of_ble_eq_true rfl)) dX12_want_10 ⟨Nat.le_of_ble_eq_true rfl, Nat.le_of_ble_eq_true rfl⟩) hS (fun r_3 G_4 H locs hpo hW hS => ?_)
    have hX_7 : Q_isWord p0 G r_3 G_4 := hpo
    obtain ⟨hB_G_4, hq_5, f_8, hp_6, -⟩ := hpo
    have hF := hF.call9 hq_5 rfl rfl
    refine lv_if_ne (tgt := 24) hx hb dX12_want_13 rfl (fun c_9 => ?_) (fun c_9 => ?_)
    · have c_9 : r_3.toInt ≠ 0 := xI_ne rfl rfl c_9
      refine lv_aload_n hx hb dX12_want_24 rfl (lv_at hl 0 rfl) ?_
      have b_10 : 0 ≤ (G.1 66 4).toInt ∧ (G.1 66 4).toInt ≤ 1600 := bd_66_4 hB_G
      have g_11 : (G_4.1 66 4).toInt = (G.1 66 4).toInt := (congrArg Int32.toInt (show G_4.1 66 4 = (G.1 66 4) from (hq_5.i9 66 4 rfl rfl)))
      have g_12 : (G_4.1 66 6).toInt = (G.1 66 6).toInt := (congrArg Int32.toInt (show G_4.1 66 6 = (G.1 66 6) from (hq_5.i9 66 6 rfl rfl)))
      refine S_callv (va_runV (As := []) (rest := []) ⟨hx, hb, hml, hown, hts⟩ (n_token l D k A a z G_4  ) (cwV 0 hts (gd_V hgd m1602 m1604 m50 m131 m1605) rfl rfl rfl hd_X12_token ⟨Nat.le_of_ble_eq_true rfl, Nat.le_of_ble_eq_true rfl⟩) (pre_W hW hB_G_4 hK hZ hS kd_66 rfl) rfl rfl hl.1 rfl (lv_room (Nat.le_of_ble_eq_true rfl)) dX12_want_25 ⟨Nat.le_of_ble_eq_true rfl, Nat.le_of_ble_eq_true rfl⟩) hS (fun G_14 H locs hpo hW hS => ?_)
      have hX_17 : Q_token G_4 G_14 := hpo
      obtain ⟨hB_G_14, hq_15, ⟨d_1, d_2⟩, -⟩ := hpo
      have hF := hF.call9 hq_15 rfl rfl
      have g_18 : (G_14.1 66 2).toInt = (G.1 66 2).toInt := (congrArg Int32.toInt (show G_14.1 66 2 = (G.1 66 2) from ((hq_15.i9 66 2 rfl rfl).trans ((hq_5.i9 66 2 rfl rfl).trans (rfl)))))
      have b_19 : 0 ≤ (G_14.1 66 4).toInt ∧ (G_14.1 66 4).toInt ≤ 1600 := bd_66_4 hB_G_14
      exact W.vret hx hb hr (fun t ht _ => ⟨⟨G_14, rfl, (Q_want_mk ⟨hB_G_14, hF, ((by first | exact ⟨((by first | (clear b_1 c_2 f_8 c_9 g_18; omega) | omega)), ⟨(fun h9 => by have q0_ := d_2 (by (clear b_1 c_2 f_8 hp_6 c_9 g_12 d_2 g_18; omega)); (clear b_1 c_2 f_8 hp_6 c_9 b_10 g_11 d_1 d_2 g_18 b_19; omega)), (fun h9 => ((by first | (clear f_8 hp_6 c_9 b_10 g_11 g_12 d_1 d_2 b_19; omega) | omega)))⟩⟩ | omega)), (Or.inl ⟨c_2, ⟨r_3, G_4, hX_7, (Or.inr ⟨c_9, ⟨G_14, hX_17, rfl⟩⟩)⟩⟩)⟩), wd_t ht hW⟩, hS.F ht⟩) hS.2.2 dX12_want_28
    · have c_9 : r_3.toInt = 0 := xI_eq rfl rfl c_9
      refine lv_aload_n hx hb dX12_want_16 rfl (lv_at hl 0 rfl) ?_
      refine ic_2 hx hb dX12_want_17 ?_
      have qc_20 : (2 : Int32).toInt = 2 := rfl
      refine S_callv (va_runV (As := [.int 2]) (rest := []) ⟨hx, hb, hml, hown, hts⟩ (n_wrong l D k A a z G_4 2 ⟨by decide, by decide⟩) (cwV 1 hts (gd_V hgd m1670 m1672 m59 m131 m1673) rfl rfl rfl hd_X12_wrong ⟨Nat.le_of_ble_eq_true rfl, Nat.le_of_ble_eq_true rfl⟩) (pre_W hW hB_G_4 hK hZ hS kd_66 rfl) rfl rfl hl.1 rfl (lv_room (Nat.le_of_ble_eq_true rfl)) dX12_want_18 ⟨Nat.le_of_ble_eq_true rfl, Nat.le_of_ble_eq_true rfl⟩) hS (fun G_22 H locs hpo hW hS => ?_)
      have hX_25 : Q_wrong 2 G_4 G_22 := hpo
      obtain ⟨hB_G_22, hq_23, hp_24, -⟩ := hpo
      have hF := hF.call9 hq_23 rfl rfl
      refine lv_goto (tgt := 28) hx hb dX12_want_21 rfl ?_
      have b_26 : 0 ≤ (G_22.1 66 2).toInt ∧ (G_22.1 66 2).toInt ≤ 4 := bd_66_2 hB_G_22
      have b_27 : 0 ≤ (G.1 66 4).toInt ∧ (G.1 66 4).toInt ≤ 1600 := bd_66_4 hB_G
      have g_28 : (G_22.1 66 4).toInt = (G.1 66 4).toInt := (congrArg Int32.toInt (show G_22.1 66 4 = (G.1 66 4) from ((hq_23.i9 66 4 rfl rfl).trans (hq_5.i9 66 4 rfl rfl))))
      have g_29 : (G_22.1 66 6).toInt = (G.1 66 6).toInt := (congrArg Int32.toInt (show G_22.1 66 6 = (G.1 66 6) from ((hq_23.i9 66 6 rfl rfl).trans (hq_5.i9 66 6 rfl rfl))))
      exact W.vret hx hb hr (fun t ht _ => ⟨⟨G_22, rfl, (Q_want_mk ⟨hB_G_22, hF, ((by first | exact ⟨((by first | (clear b_1 c_2 f_8 hp_6 c_9 hp_24 b_26 g_29; omega) | omega)), ⟨(fun h9 => by (clear b_1 c_2 f_8 hp_6 c_9 hp_24 b_26 b_27 g_28; omega)), (fun h9 => ((by first | (clear f_8 hp_6 c_9 b_27 g_28 g_29; omega) | omega)))⟩⟩ | omega)), (Or.inl ⟨c_2, ⟨r_3, G_4, hX_7, (Or.inl ⟨c_9, ⟨G_22, hX_25, rfl⟩⟩)⟩⟩)⟩), wd_t ht hW⟩, hS.F ht⟩) hS.2.2 dX12_want_28
  · have c_2 : 0 < (G.1 66 2).toInt := xI_nle rfl rfl c_2
    have b_30 : 0 ≤ (G.1 66 4).toInt ∧ (G.1 66 4).toInt ≤ 1600 := bd_66_4 hB_G
    exact W.vret hx hb hr (fun t ht _ => ⟨⟨G, rfl, (Q_want_mk ⟨hB_G, hF, ((by first | exact ⟨(by omega), ⟨(fun h9 => by (clear b_1 c_2 b_30; omega)), (fun h9 => (by omega))⟩⟩ | omega)), (Or.inr ⟨c_2, rfl⟩)⟩), wd_t ht hW⟩, hS.F ht⟩) hS.2.2 dX12_want_7

set_option maxHeartbeats 4000000 in
set_option maxRecDepth 100000 in
theorem n_told (l : Launch) (D : va_G) (k : KT) (A : Nat → Prop) (a : Nat → Nat) (z : SK) (G : GS) (p0 : Int32) (p1 : Int32)  : Met l yX12_toldNumber (WS yX12_toldNumber cX12_toldNumber 4 (some .int)) ({ frames := 2, cells := 0, slots := 0, locals := 43 }) (va_Pc [.ref (a 66), .int p0, .int p1] (cW D k A a z G)) (va_Qi (fun (r : Int32) (G1 : GS) => Q_told p0 p1 G r G1) (fun (G1 : GS) t => Wd D k A a G1 t.heap) A) 0 0 A := by
  refine Met.ofW (cc := cX12_toldNumber) (maxL := 4) (ret := (some .int)) (by decide) rfl ?_
  intro p e s m args below meth c s₁ B hml hv
  obtain ⟨rfl, hW, hB_G, hK, hZ⟩ := hv
  have hx := B.exec
  have hb := B.bytes
  have hr := B.returns
  have hts := atoms_spec (ws := WS yX12_toldNumber cX12_toldNumber 4 (some .int)) B.pre
  have hgd : ∀ w ∈ gd, w ∈ WS yX12_toldNumber cX12_toldNumber 4 (some .int) := fun w h => List.mem_cons_of_mem _ h
  have hg : ∀ w ∈ gd, w.before _ s = true := fun w h => hts w (hgd w h)
  have hown : s.vm.findClass RX12 = some m.cls := findClass_of_methodNamed B.named
  have hS : va_S A s.heap s.heap [] := va_S.rf
  have hF : Fr [] [(66, 2), (66, 3), (66, 4), (66, 6), (66, 7), (66, 8), (66, 9)] G G := Fr.rf
  have hl := lv_entry ([.ref (a 66), .int p0, .int p1]) (n := 4) (Nat.le_of_ble_eq_true rfl)
  rw [lg_entry_eq]
  generalize (lg_sl ([.ref (a 66), .int p0, .int p1]) ++ List.replicate (4 - (lg_sl ([.ref (a 66), .int p0, .int p1])).length) Slot.unset).toArray = ls at hl ⊢
  have hl : lv_has ls 4 [(0, .ref (a 66)), (1, .int p0), (2, .int p1)] := hl
  refine lv_aload_n hx hb dX12_toldNumber_0 rfl (lv_at hl 0 rfl) ?_
  have b_1 : 0 ≤ (G.1 66 2).toInt ∧ (G.1 66 2).toInt ≤ 4 := bd_66_2 hB_G
  refine S_getI (v := (G.1 66 2)) (C := RX12) (T := TX12) (N := 89) hx hb hg iX12 hown hK hW kd_66 rfl 2 (lt_b rfl) (hg (Cond.fieldLink RX12 218 "SlabWalkModel" "fault" "I") m1316) (fun _ h9 => h9) rfl rfl dX12_toldNumber_1 ?_
  refine lv_if_le (tgt := 9) hx hb dX12_toldNumber_4 rfl (fun c_2 => ?_) (fun c_2 => ?_)
  · have c_2 : (G.1 66 2).toInt ≤ 0 := xI_le rfl rfl c_2
    refine lv_aload_n hx hb dX12_toldNumber_9 rfl (lv_at hl 0 rfl) ?_
    refine S_getI (v := (G.1 66 6)) (C := RX12) (T := TX12) (N := 89) hx hb hg iX12 hown hK hW kd_66 rfl 6 (lt_b rfl) (hg (Cond.fieldLink RX12 205 "SlabWalkModel" "sort" "I") m1320) (fun _ h9 => h9) rfl rfl dX12_toldNumber_10 ?_
    refine ic_2 hx hb dX12_toldNumber_13 ?_
    refine lv_icmp_eq (tgt := 25) hx hb dX12_toldNumber_14 rfl (fun c_3 => ?_) (fun c_3 => ?_)
    · have c_3 : (G.1 66 6).toInt = 2 := xI_eq rfl rfl c_3
      refine lv_aload_n hx hb dX12_toldNumber_25 rfl (lv_at hl 0 rfl) ?_
      refine S_getI (v := (G.1 66 8)) (C := RX12) (T := TX12) (N := 89) hx hb hg iX12 hown hK hW kd_66 rfl 8 (lt_b rfl) (hg (Cond.fieldLink RX12 202 "SlabWalkModel" "number" "I") m1322) (fun _ h9 => h9) rfl rfl dX12_toldNumber_26 ?_
      refine lv_iload_n hx hb dX12_toldNumber_29 rfl (lv_at hl 1 rfl) ?_
      refine lv_icmp_lt (tgt := 41) hx hb dX12_toldNumber_30 rfl (fun c_4 => ?_) (fun c_4 => ?_)
      · have c_4 : (G.1 66 8).toInt < p0.toInt := xI_lt rfl rfl c_4
        refine lv_aload_n hx hb dX12_toldNumber_41 rfl (lv_at hl 0 rfl) ?_
        refine ic_4 hx hb dX12_toldNumber_42 ?_
        have qc_5 : (4 : Int32).toInt = 4 := rfl
        refine S_callv (va_runV (As := [.int 4]) (rest := []) ⟨hx, hb, hml, hown, hts⟩ (n_wrong l D k A a z G 4 ⟨by decide, by decide⟩) (cwV 1 hts (gd_V hgd m1670 m1672 m59 m131 m1673) rfl rfl rfl hd_X12_wrong ⟨Nat.le_of_ble_eq_true rfl, Nat.le_of_ble_eq_true rfl⟩) (pre_W hW hB_G hK hZ hS kd_66 rfl) rfl rfl hl.1 rfl (lv_room (Nat.le_of_ble_eq_true rfl)) dX12_toldNumber_43 ⟨Nat.le_of_ble_eq_true rfl, Nat.le_of_ble_eq_true rfl⟩) hS (fun G_7 H locs hpo hW hS => ?_)
        have hX_10 : Q_wrong 4 G G_7 := hpo
        obtain ⟨hB_G_7, hq_8, hp_9, -⟩ := hpo
        have hF := hF.call9 hq_8 rfl rfl
        refine lv_aload_n hx hb dX12_toldNumber_46 rfl (lv_at hl 0 rfl) ?_
        refine S_getI (v := (G.1 66 8)) (C := RX12) (T := TX12) (N := 89) hx hb hg iX12 hown hK hW kd_66 rfl 8 (lt_b rfl) (hg (Cond.fieldLink RX12 202 "SlabWalkModel" "number" "I") m1322) (fun _ h9 => h9) rfl ((hq_8.i9 66 8 rfl rfl).trans (rfl)) dX12_toldNumber_47 ?_
        refine lv_istore_n (lv' := [(3, .int (G.1 66 8)), (0, .ref (a 66)), (1, .int p0), (2, .int p1)]) hx hb dX12_toldNumber_50 rfl hl (lt_b rfl) rfl (fun ls hl => ?_)
        refine lv_aload_n hx hb dX12_toldNumber_51 rfl (lv_at hl 1 rfl) ?_
        have b_11 : 0 ≤ (G_7.1 66 2).toInt ∧ (G_7.1 66 2).toInt ≤ 4 := bd_66_2 hB_G_7
        refine S_getI (v := (G_7.1 66 2)) (C := RX12) (T := TX12) (N := 89) hx hb hg iX12 hown hK hW kd_66 rfl 2 (lt_b rfl) (hg (Cond.fieldLink RX12 218 "SlabWalkModel" "fault" "I") m1316) (fun _ h9 => h9) rfl rfl dX12_toldNumber_52 ?_
        refine lv_if_ne (tgt := 62) hx hb dX12_toldNumber_55 rfl (fun c_12 => ?_) (fun c_12 => ?_)
        · have c_12 : (G_7.1 66 2).toInt ≠ 0 := xI_ne rfl rfl c_12
          refine lv_iload_n hx hb dX12_toldNumber_62 rfl (lv_at hl 0 rfl) ?_
          have b_13 : 0 ≤ (G.1 66 4).toInt ∧ (G.1 66 4).toInt ≤ 1600 := bd_66_4 hB_G
          have g_14 : (G_7.1 66 4).toInt = (G.1 66 4).toInt := (congrArg Int32.toInt (show G_7.1 66 4 = (G.1 66 4) from (hq_8.i9 66 4 rfl rfl)))
          have g_15 : (G_7.1 66 6).toInt = (G.1 66 6).toInt := (congrArg Int32.toInt (show G_7.1 66 6 = (G.1 66 6) from ((hq_8.i9 66 6 rfl rfl).trans (rfl))))
          exact W.iret (v := (G.1 66 8)) hx hb hr (fun t ht _ => ⟨⟨(G.1 66 8), G_7, rfl, (Q_told_mk ⟨hB_G_7, hF, ((by first | exact ⟨((by first | (clear b_1 c_2 c_3 c_4 hp_9 b_11 c_12 g_15; omega) | omega)), ⟨(fun h9 => by (clear b_1 c_2 c_4 hp_9 b_11 c_12 b_13 g_14; omega)), ⟨(fun h9 => ((by first | (clear c_3 c_4 b_13 g_14 g_15; omega) | omega))), (fun h9 => ⟨((by first | (clear b_1 c_2 c_3 b_13 g_14 g_15; omega) | omega)), ((by first | (clear b_1 c_2 c_3 b_13 g_14 g_15; omega) | omega))⟩)⟩⟩⟩ | omega)), (Or.inl ⟨c_2, (Or.inl ⟨c_3, (Or.inl ⟨c_4, ⟨G_7, hX_10, (Or.inr ⟨c_12, ⟨rfl, rfl⟩⟩)⟩⟩)⟩)⟩)⟩), wd_t ht hW⟩, hS.F ht⟩) hS.2.2 dX12_toldNumber_63
        · have c_12 : (G_7.1 66 2).toInt = 0 := xI_eq rfl rfl c_12
          refine lv_aload_n hx hb dX12_toldNumber_58 rfl (lv_at hl 1 rfl) ?_
          have b_16 : 0 ≤ (G.1 66 4).toInt ∧ (G.1 66 4).toInt ≤ 1600 := bd_66_4 hB_G
          have g_17 : (G_7.1 66 4).toInt = (G.1 66 4).toInt := (congrArg Int32.toInt (show G_7.1 66 4 = (G.1 66 4) from (hq_8.i9 66 4 rfl rfl)))
          have g_18 : (G_7.1 66 6).toInt = (G.1 66 6).toInt := (congrArg Int32.toInt (show G_7.1 66 6 = (G.1 66 6) from ((hq_8.i9 66 6 rfl rfl).trans (rfl))))
          refine S_callv (va_runV (As := []) (rest := []) ⟨hx, hb, hml, hown, hts⟩ (n_token l D k A a z G_7  ) (cwV 0 hts (gd_V hgd m1602 m1604 m50 m131 m1605) rfl rfl rfl hd_X12_token ⟨Nat.le_of_ble_eq_true rfl, Nat.le_of_ble_eq_true rfl⟩) (pre_W hW hB_G_7 hK hZ hS kd_66 rfl) rfl rfl hl.1 rfl (lv_room (Nat.le_of_ble_eq_true rfl)) dX12_toldNumber_59 ⟨Nat.le_of_ble_eq_true rfl, Nat.le_of_ble_eq_true rfl⟩) hS (fun G_20 H locs hpo hW hS => ?_)
          have hX_23 : Q_token G_7 G_20 := hpo
          obtain ⟨hB_G_20, hq_21, ⟨d_1, d_2⟩, -⟩ := hpo
          have hF := hF.call9 hq_21 rfl rfl
          refine lv_iload_n hx hb dX12_toldNumber_62 rfl (lv_at hl 0 rfl) ?_
          have g_24 : (G_20.1 66 2).toInt = (G_7.1 66 2).toInt := (congrArg Int32.toInt (show G_20.1 66 2 = (G_7.1 66 2) from ((hq_21.i9 66 2 rfl rfl).trans (rfl))))
          have b_25 : 0 ≤ (G_20.1 66 4).toInt ∧ (G_20.1 66 4).toInt ≤ 1600 := bd_66_4 hB_G_20
          exact W.iret (v := (G.1 66 8)) hx hb hr (fun t ht _ => ⟨⟨(G.1 66 8), G_20, rfl, (Q_told_mk ⟨hB_G_20, hF, ((by first | exact ⟨((by first | (clear b_1 c_2 c_4 hp_9 b_11 c_12 g_24; omega) | omega)), ⟨(fun h9 => by have q0_ := d_2 (by (clear b_1 c_2 c_3 c_4 hp_9 b_11 c_12 g_18 d_2 g_24; omega)); (clear b_1 c_2 c_4 hp_9 b_11 c_12 b_16 g_17 d_1 d_2 g_24 b_25; omega)), ⟨(fun h9 => ((by first | (clear c_3 c_4 b_16 g_17 g_18 d_1 d_2 b_25; omega) | omega))), (fun h9 => ⟨((by first | (clear b_1 c_2 c_3 b_16 g_17 g_18 d_1 d_2 b_25; omega) | omega)), ((by first | (clear b_1 c_2 c_3 b_16 g_17 g_18 d_1 d_2 b_25; omega) | omega))⟩)⟩⟩⟩ | omega)), (Or.inl ⟨c_2, (Or.inl ⟨c_3, (Or.inl ⟨c_4, ⟨G_7, hX_10, (Or.inl ⟨c_12, ⟨G_20, hX_23, ⟨rfl, rfl⟩⟩⟩)⟩⟩)⟩)⟩)⟩), wd_t ht hW⟩, hS.F ht⟩) hS.2.2 dX12_toldNumber_63
      · have c_4 : p0.toInt ≤ (G.1 66 8).toInt := xI_nlt rfl rfl c_4
        refine lv_aload_n hx hb dX12_toldNumber_33 rfl (lv_at hl 0 rfl) ?_
        refine S_getI (v := (G.1 66 8)) (C := RX12) (T := TX12) (N := 89) hx hb hg iX12 hown hK hW kd_66 rfl 8 (lt_b rfl) (hg (Cond.fieldLink RX12 202 "SlabWalkModel" "number" "I") m1322) (fun _ h9 => h9) rfl rfl dX12_toldNumber_34 ?_
        refine lv_iload_n hx hb dX12_toldNumber_37 rfl (lv_at hl 2 rfl) ?_
        refine lv_icmp_le (tgt := 46) hx hb dX12_toldNumber_38 rfl (fun c_26 => ?_) (fun c_26 => ?_)
        · have c_26 : (G.1 66 8).toInt ≤ p1.toInt := xI_le rfl rfl c_26
          refine lv_aload_n hx hb dX12_toldNumber_46 rfl (lv_at hl 0 rfl) ?_
          refine S_getI (v := (G.1 66 8)) (C := RX12) (T := TX12) (N := 89) hx hb hg iX12 hown hK hW kd_66 rfl 8 (lt_b rfl) (hg (Cond.fieldLink RX12 202 "SlabWalkModel" "number" "I") m1322) (fun _ h9 => h9) rfl rfl dX12_toldNumber_47 ?_
          refine lv_istore_n (lv' := [(3, .int (G.1 66 8)), (0, .ref (a 66)), (1, .int p0), (2, .int p1)]) hx hb dX12_toldNumber_50 rfl hl (lt_b rfl) rfl (fun ls hl => ?_)
          refine lv_aload_n hx hb dX12_toldNumber_51 rfl (lv_at hl 1 rfl) ?_
          refine S_getI (v := (G.1 66 2)) (C := RX12) (T := TX12) (N := 89) hx hb hg iX12 hown hK hW kd_66 rfl 2 (lt_b rfl) (hg (Cond.fieldLink RX12 218 "SlabWalkModel" "fault" "I") m1316) (fun _ h9 => h9) rfl rfl dX12_toldNumber_52 ?_
          refine lv_if_ne (tgt := 62) hx hb dX12_toldNumber_55 rfl (fun c_27 => ?_) (fun c_27 => ?_)
          · have c_27 : (G.1 66 2).toInt ≠ 0 := xI_ne rfl rfl c_27
            exfalso; first | (clear c_3 c_4 c_26; omega) | omega
          · have c_27 : (G.1 66 2).toInt = 0 := xI_eq rfl rfl c_27
            refine lv_aload_n hx hb dX12_toldNumber_58 rfl (lv_at hl 1 rfl) ?_
            refine S_callv (va_runV (As := []) (rest := []) ⟨hx, hb, hml, hown, hts⟩ (n_token l D k A a z G  ) (cwV 0 hts (gd_V hgd m1602 m1604 m50 m131 m1605) rfl rfl rfl hd_X12_token ⟨Nat.le_of_ble_eq_true rfl, Nat.le_of_ble_eq_true rfl⟩) (pre_W hW hB_G hK hZ hS kd_66 rfl) rfl rfl hl.1 rfl (lv_room (Nat.le_of_ble_eq_true rfl)) dX12_toldNumber_59 ⟨Nat.le_of_ble_eq_true rfl, Nat.le_of_ble_eq_true rfl⟩) hS (fun G_29 H locs hpo hW hS => ?_)
            have hX_32 : Q_token G G_29 := hpo
            obtain ⟨hB_G_29, hq_30, ⟨d_3, d_4⟩, -⟩ := hpo
            have hF := hF.call9 hq_30 rfl rfl
            refine lv_iload_n hx hb dX12_toldNumber_62 rfl (lv_at hl 0 rfl) ?_
            have g_33 : (G_29.1 66 2).toInt = (G.1 66 2).toInt := (congrArg Int32.toInt (show G_29.1 66 2 = (G.1 66 2) from ((hq_30.i9 66 2 rfl rfl).trans (rfl))))
            have b_34 : 0 ≤ (G_29.1 66 4).toInt ∧ (G_29.1 66 4).toInt ≤ 1600 := bd_66_4 hB_G_29
            exact W.iret (v := (G.1 66 8)) hx hb hr (fun t ht _ => ⟨⟨(G.1 66 8), G_29, rfl, (Q_told_mk ⟨hB_G_29, hF, ((by first | exact ⟨((by first | (clear b_1 c_2 c_4 c_26 c_27 g_33; omega) | omega)), ⟨(fun h9 => by have q0_ := d_4 (by (clear b_1 c_2 c_3 c_4 c_26 c_27 d_4 g_33; omega)); (clear b_1 c_2 c_4 c_26 c_27 d_3 d_4 g_33 b_34; omega)), ⟨(fun h9 => ((by first | (clear c_3 c_4 c_26 d_3 d_4 b_34; omega) | omega))), (fun h9 => ⟨((by first | (clear c_3 d_3 d_4 b_34; omega) | omega)), ((by first | (clear c_3 d_3 d_4 b_34; omega) | omega))⟩)⟩⟩⟩ | omega)), (Or.inl ⟨c_2, (Or.inl ⟨c_3, (Or.inr ⟨c_4, (Or.inl ⟨c_26, ⟨G_29, hX_32, ⟨rfl, rfl⟩⟩⟩)⟩)⟩)⟩)⟩), wd_t ht hW⟩, hS.F ht⟩) hS.2.2 dX12_toldNumber_63
        · have c_26 : p1.toInt < (G.1 66 8).toInt := xI_nle rfl rfl c_26
          refine lv_aload_n hx hb dX12_toldNumber_41 rfl (lv_at hl 0 rfl) ?_
          refine ic_4 hx hb dX12_toldNumber_42 ?_
          have qc_35 : (4 : Int32).toInt = 4 := rfl
          refine S_callv (va_runV (As := [.int 4]) (rest := []) ⟨hx, hb, hml, hown, hts⟩ (n_wrong l D k A a z G 4 ⟨by decide, by decide⟩) (cwV 1 hts (gd_V hgd m1670 m1672 m59 m131 m1673) rfl rfl rfl hd_X12_wrong ⟨Nat.le_of_ble_eq_true rfl, Nat.le_of_ble_eq_true rfl⟩) (pre_W hW hB_G hK hZ hS kd_66 rfl) rfl rfl hl.1 rfl (lv_room (Nat.le_of_ble_eq_true rfl)) dX12_toldNumber_43 ⟨Nat.le_of_ble_eq_true rfl, Nat.le_of_ble_eq_true rfl⟩) hS (fun G_37 H locs hpo hW hS => ?_)
          have hX_40 : Q_wrong 4 G G_37 := hpo
          obtain ⟨hB_G_37, hq_38, hp_39, -⟩ := hpo
          have hF := hF.call9 hq_38 rfl rfl
          refine lv_aload_n hx hb dX12_toldNumber_46 rfl (lv_at hl 0 rfl) ?_
          refine S_getI (v := (G.1 66 8)) (C := RX12) (T := TX12) (N := 89) hx hb hg iX12 hown hK hW kd_66 rfl 8 (lt_b rfl) (hg (Cond.fieldLink RX12 202 "SlabWalkModel" "number" "I") m1322) (fun _ h9 => h9) rfl ((hq_38.i9 66 8 rfl rfl).trans (rfl)) dX12_toldNumber_47 ?_
          refine lv_istore_n (lv' := [(3, .int (G.1 66 8)), (0, .ref (a 66)), (1, .int p0), (2, .int p1)]) hx hb dX12_toldNumber_50 rfl hl (lt_b rfl) rfl (fun ls hl => ?_)
          refine lv_aload_n hx hb dX12_toldNumber_51 rfl (lv_at hl 1 rfl) ?_
          have b_41 : 0 ≤ (G_37.1 66 2).toInt ∧ (G_37.1 66 2).toInt ≤ 4 := bd_66_2 hB_G_37
          refine S_getI (v := (G_37.1 66 2)) (C := RX12) (T := TX12) (N := 89) hx hb hg iX12 hown hK hW kd_66 rfl 2 (lt_b rfl) (hg (Cond.fieldLink RX12 218 "SlabWalkModel" "fault" "I") m1316) (fun _ h9 => h9) rfl rfl dX12_toldNumber_52 ?_
          refine lv_if_ne (tgt := 62) hx hb dX12_toldNumber_55 rfl (fun c_42 => ?_) (fun c_42 => ?_)
          · have c_42 : (G_37.1 66 2).toInt ≠ 0 := xI_ne rfl rfl c_42
            refine lv_iload_n hx hb dX12_toldNumber_62 rfl (lv_at hl 0 rfl) ?_
            have b_43 : 0 ≤ (G.1 66 4).toInt ∧ (G.1 66 4).toInt ≤ 1600 := bd_66_4 hB_G
            have g_44 : (G_37.1 66 4).toInt = (G.1 66 4).toInt := (congrArg Int32.toInt (show G_37.1 66 4 = (G.1 66 4) from (hq_38.i9 66 4 rfl rfl)))
            have g_45 : (G_37.1 66 6).toInt = (G.1 66 6).toInt := (congrArg Int32.toInt (show G_37.1 66 6 = (G.1 66 6) from ((hq_38.i9 66 6 rfl rfl).trans (rfl))))
            exact W.iret (v := (G.1 66 8)) hx hb hr (fun t ht _ => ⟨⟨(G.1 66 8), G_37, rfl, (Q_told_mk ⟨hB_G_37, hF, ((by first | exact ⟨((by first | (clear b_1 c_2 c_3 c_4 c_26 hp_39 b_41 c_42 g_45; omega) | omega)), ⟨(fun h9 => by (clear b_1 c_2 c_4 c_26 hp_39 b_41 c_42 b_43 g_44; omega)), ⟨(fun h9 => ((by first | (clear c_3 c_4 c_26 b_43 g_44 g_45; omega) | omega))), (fun h9 => ⟨((by first | (clear b_1 c_2 c_3 b_43 g_44 g_45; omega) | omega)), ((by first | (clear b_1 c_2 c_3 b_43 g_44 g_45; omega) | omega))⟩)⟩⟩⟩ | omega)), (Or.inl ⟨c_2, (Or.inl ⟨c_3, (Or.inr ⟨c_4, (Or.inr ⟨c_26, ⟨G_37, hX_40, (Or.inr ⟨c_42, ⟨rfl, rfl⟩⟩)⟩⟩)⟩)⟩)⟩)⟩), wd_t ht hW⟩, hS.F ht⟩) hS.2.2 dX12_toldNumber_63
          · have c_42 : (G_37.1 66 2).toInt = 0 := xI_eq rfl rfl c_42
            refine lv_aload_n hx hb dX12_toldNumber_58 rfl (lv_at hl 1 rfl) ?_
            have b_46 : 0 ≤ (G.1 66 4).toInt ∧ (G.1 66 4).toInt ≤ 1600 := bd_66_4 hB_G
            have g_47 : (G_37.1 66 4).toInt = (G.1 66 4).toInt := (congrArg Int32.toInt (show G_37.1 66 4 = (G.1 66 4) from (hq_38.i9 66 4 rfl rfl)))
            have g_48 : (G_37.1 66 6).toInt = (G.1 66 6).toInt := (congrArg Int32.toInt (show G_37.1 66 6 = (G.1 66 6) from ((hq_38.i9 66 6 rfl rfl).trans (rfl))))
            refine S_callv (va_runV (As := []) (rest := []) ⟨hx, hb, hml, hown, hts⟩ (n_token l D k A a z G_37  ) (cwV 0 hts (gd_V hgd m1602 m1604 m50 m131 m1605) rfl rfl rfl hd_X12_token ⟨Nat.le_of_ble_eq_true rfl, Nat.le_of_ble_eq_true rfl⟩) (pre_W hW hB_G_37 hK hZ hS kd_66 rfl) rfl rfl hl.1 rfl (lv_room (Nat.le_of_ble_eq_true rfl)) dX12_toldNumber_59 ⟨Nat.le_of_ble_eq_true rfl, Nat.le_of_ble_eq_true rfl⟩) hS (fun G_50 H locs hpo hW hS => ?_)
            have hX_53 : Q_token G_37 G_50 := hpo
            obtain ⟨hB_G_50, hq_51, ⟨d_5, d_6⟩, -⟩ := hpo
            have hF := hF.call9 hq_51 rfl rfl
            refine lv_iload_n hx hb dX12_toldNumber_62 rfl (lv_at hl 0 rfl) ?_
            have g_54 : (G_50.1 66 2).toInt = (G_37.1 66 2).toInt := (congrArg Int32.toInt (show G_50.1 66 2 = (G_37.1 66 2) from ((hq_51.i9 66 2 rfl rfl).trans (rfl))))
            have b_55 : 0 ≤ (G_50.1 66 4).toInt ∧ (G_50.1 66 4).toInt ≤ 1600 := bd_66_4 hB_G_50
            exact W.iret (v := (G.1 66 8)) hx hb hr (fun t ht _ => ⟨⟨(G.1 66 8), G_50, rfl, (Q_told_mk ⟨hB_G_50, hF, ((by first | exact ⟨((by first | (clear b_1 c_2 c_4 c_26 hp_39 b_41 c_42 g_54; omega) | omega)), ⟨(fun h9 => by have q0_ := d_6 (by (clear b_1 c_2 c_3 c_4 c_26 hp_39 b_41 c_42 g_48 d_6 g_54; omega)); (clear b_1 c_2 c_4 c_26 hp_39 b_41 c_42 b_46 g_47 d_5 d_6 g_54 b_55; omega)), ⟨(fun h9 => ((by first | (clear c_3 c_4 c_26 b_46 g_47 g_48 d_5 d_6 b_55; omega) | omega))), (fun h9 => ⟨((by first | (clear b_1 c_2 c_3 b_46 g_47 g_48 d_5 d_6 b_55; omega) | omega)), ((by first | (clear b_1 c_2 c_3 b_46 g_47 g_48 d_5 d_6 b_55; omega) | omega))⟩)⟩⟩⟩ | omega)), (Or.inl ⟨c_2, (Or.inl ⟨c_3, (Or.inr ⟨c_4, (Or.inr ⟨c_26, ⟨G_37, hX_40, (Or.inl ⟨c_42, ⟨G_50, hX_53, ⟨rfl, rfl⟩⟩⟩)⟩⟩)⟩)⟩)⟩)⟩), wd_t ht hW⟩, hS.F ht⟩) hS.2.2 dX12_toldNumber_63
    · have c_3 : (G.1 66 6).toInt ≠ 2 := xI_ne rfl rfl c_3
      refine lv_aload_n hx hb dX12_toldNumber_17 rfl (lv_at hl 0 rfl) ?_
      refine ic_2 hx hb dX12_toldNumber_18 ?_
      have qc_56 : (2 : Int32).toInt = 2 := rfl
      refine S_callv (va_runV (As := [.int 2]) (rest := []) ⟨hx, hb, hml, hown, hts⟩ (n_wrong l D k A a z G 2 ⟨by decide, by decide⟩) (cwV 1 hts (gd_V hgd m1670 m1672 m59 m131 m1673) rfl rfl rfl hd_X12_wrong ⟨Nat.le_of_ble_eq_true rfl, Nat.le_of_ble_eq_true rfl⟩) (pre_W hW hB_G hK hZ hS kd_66 rfl) rfl rfl hl.1 rfl (lv_room (Nat.le_of_ble_eq_true rfl)) dX12_toldNumber_19 ⟨Nat.le_of_ble_eq_true rfl, Nat.le_of_ble_eq_true rfl⟩) hS (fun G_58 H locs hpo hW hS => ?_)
      have hX_61 : Q_wrong 2 G G_58 := hpo
      obtain ⟨hB_G_58, hq_59, hp_60, -⟩ := hpo
      have hF := hF.call9 hq_59 rfl rfl
      refine lv_goto (tgt := 46) hx hb dX12_toldNumber_22 rfl ?_
      refine lv_aload_n hx hb dX12_toldNumber_46 rfl (lv_at hl 0 rfl) ?_
      refine S_getI (v := (G.1 66 8)) (C := RX12) (T := TX12) (N := 89) hx hb hg iX12 hown hK hW kd_66 rfl 8 (lt_b rfl) (hg (Cond.fieldLink RX12 202 "SlabWalkModel" "number" "I") m1322) (fun _ h9 => h9) rfl (hq_59.i9 66 8 rfl rfl) dX12_toldNumber_47 ?_
      refine lv_istore_n (lv' := [(3, .int (G.1 66 8)), (0, .ref (a 66)), (1, .int p0), (2, .int p1)]) hx hb dX12_toldNumber_50 rfl hl (lt_b rfl) rfl (fun ls hl => ?_)
      refine lv_aload_n hx hb dX12_toldNumber_51 rfl (lv_at hl 1 rfl) ?_
      have b_62 : 0 ≤ (G_58.1 66 2).toInt ∧ (G_58.1 66 2).toInt ≤ 4 := bd_66_2 hB_G_58
      refine S_getI (v := (G_58.1 66 2)) (C := RX12) (T := TX12) (N := 89) hx hb hg iX12 hown hK hW kd_66 rfl 2 (lt_b rfl) (hg (Cond.fieldLink RX12 218 "SlabWalkModel" "fault" "I") m1316) (fun _ h9 => h9) rfl rfl dX12_toldNumber_52 ?_
      refine lv_if_ne (tgt := 62) hx hb dX12_toldNumber_55 rfl (fun c_63 => ?_) (fun c_63 => ?_)
      · have c_63 : (G_58.1 66 2).toInt ≠ 0 := xI_ne rfl rfl c_63
        refine lv_iload_n hx hb dX12_toldNumber_62 rfl (lv_at hl 0 rfl) ?_
        have b_64 : 0 ≤ (G.1 66 4).toInt ∧ (G.1 66 4).toInt ≤ 1600 := bd_66_4 hB_G
        have g_65 : (G_58.1 66 4).toInt = (G.1 66 4).toInt := (congrArg Int32.toInt (show G_58.1 66 4 = (G.1 66 4) from (hq_59.i9 66 4 rfl rfl)))
        have g_66 : (G_58.1 66 6).toInt = (G.1 66 6).toInt := (congrArg Int32.toInt (show G_58.1 66 6 = (G.1 66 6) from ((hq_59.i9 66 6 rfl rfl).trans (rfl))))
        exact W.iret (v := (G.1 66 8)) hx hb hr (fun t ht _ => ⟨⟨(G.1 66 8), G_58, rfl, (Q_told_mk ⟨hB_G_58, hF, ((by first | exact ⟨((by first | (clear b_1 c_2 c_3 hp_60 b_62 c_63 g_66; omega) | omega)), ⟨(fun h9 => by (clear b_1 c_2 c_3 hp_60 b_62 c_63 b_64 g_65; omega)), ⟨(fun h9 => ((by first | (clear c_3 b_64 g_65 g_66; omega) | omega))), (fun h9 => ⟨((by first | (clear b_1 c_2 c_3 b_64 g_65 g_66; omega) | omega)), ((by first | (clear b_1 c_2 c_3 b_64 g_65 g_66; omega) | omega))⟩)⟩⟩⟩ | omega)), (Or.inl ⟨c_2, (Or.inr ⟨c_3, ⟨G_58, hX_61, (Or.inr ⟨c_63, ⟨rfl, rfl⟩⟩)⟩⟩)⟩)⟩), wd_t ht hW⟩, hS.F ht⟩) hS.2.2 dX12_toldNumber_63
      · have c_63 : (G_58.1 66 2).toInt = 0 := xI_eq rfl rfl c_63
        refine lv_aload_n hx hb dX12_toldNumber_58 rfl (lv_at hl 1 rfl) ?_
        have b_67 : 0 ≤ (G.1 66 4).toInt ∧ (G.1 66 4).toInt ≤ 1600 := bd_66_4 hB_G
        have g_68 : (G_58.1 66 4).toInt = (G.1 66 4).toInt := (congrArg Int32.toInt (show G_58.1 66 4 = (G.1 66 4) from (hq_59.i9 66 4 rfl rfl)))
        have g_69 : (G_58.1 66 6).toInt = (G.1 66 6).toInt := (congrArg Int32.toInt (show G_58.1 66 6 = (G.1 66 6) from ((hq_59.i9 66 6 rfl rfl).trans (rfl))))
        refine S_callv (va_runV (As := []) (rest := []) ⟨hx, hb, hml, hown, hts⟩ (n_token l D k A a z G_58  ) (cwV 0 hts (gd_V hgd m1602 m1604 m50 m131 m1605) rfl rfl rfl hd_X12_token ⟨Nat.le_of_ble_eq_true rfl, Nat.le_of_ble_eq_true rfl⟩) (pre_W hW hB_G_58 hK hZ hS kd_66 rfl) rfl rfl hl.1 rfl (lv_room (Nat.le_of_ble_eq_true rfl)) dX12_toldNumber_59 ⟨Nat.le_of_ble_eq_true rfl, Nat.le_of_ble_eq_true rfl⟩) hS (fun G_71 H locs hpo hW hS => ?_)
        have hX_74 : Q_token G_58 G_71 := hpo
        obtain ⟨hB_G_71, hq_72, ⟨d_7, d_8⟩, -⟩ := hpo
        have hF := hF.call9 hq_72 rfl rfl
        refine lv_iload_n hx hb dX12_toldNumber_62 rfl (lv_at hl 0 rfl) ?_
        have g_75 : (G_71.1 66 2).toInt = (G_58.1 66 2).toInt := (congrArg Int32.toInt (show G_71.1 66 2 = (G_58.1 66 2) from ((hq_72.i9 66 2 rfl rfl).trans (rfl))))
        have b_76 : 0 ≤ (G_71.1 66 4).toInt ∧ (G_71.1 66 4).toInt ≤ 1600 := bd_66_4 hB_G_71
        exact W.iret (v := (G.1 66 8)) hx hb hr (fun t ht _ => ⟨⟨(G.1 66 8), G_71, rfl, (Q_told_mk ⟨hB_G_71, hF, ((by first | exact ⟨((by first | (clear b_1 c_2 hp_60 b_62 c_63 g_75; omega) | omega)), ⟨(fun h9 => by have q0_ := d_8 (by (clear b_1 c_2 c_3 hp_60 b_62 c_63 g_69 d_8 g_75; omega)); (clear b_1 c_2 c_3 hp_60 b_62 c_63 b_67 g_68 d_7 d_8 g_75 b_76; omega)), ⟨(fun h9 => ((by first | (clear c_3 b_67 g_68 g_69 d_7 d_8 b_76; omega) | omega))), (fun h9 => ⟨((by first | (clear b_1 c_2 c_3 b_67 g_68 g_69 d_7 d_8 b_76; omega) | omega)), ((by first | (clear b_1 c_2 c_3 b_67 g_68 g_69 d_7 d_8 b_76; omega) | omega))⟩)⟩⟩⟩ | omega)), (Or.inl ⟨c_2, (Or.inr ⟨c_3, ⟨G_58, hX_61, (Or.inl ⟨c_63, ⟨G_71, hX_74, ⟨rfl, rfl⟩⟩⟩)⟩⟩)⟩)⟩), wd_t ht hW⟩, hS.F ht⟩) hS.2.2 dX12_toldNumber_63
  · have c_2 : 0 < (G.1 66 2).toInt := xI_nle rfl rfl c_2
    refine ic_0 hx hb dX12_toldNumber_7 ?_
    have b_77 : 0 ≤ (G.1 66 4).toInt ∧ (G.1 66 4).toInt ≤ 1600 := bd_66_4 hB_G
    exact W.iret (v := 0) hx hb hr (fun t ht _ => ⟨⟨0, G, rfl, (Q_told_mk ⟨hB_G, hF, (by have hq : (0 : Int32).toInt = 0 := rfl; (try dsimp only); omega), (Or.inr ⟨c_2, ⟨rfl, rfl⟩⟩)⟩), wd_t ht hW⟩, hS.F ht⟩) hS.2.2 dX12_toldNumber_8

set_option maxHeartbeats 4000000 in
set_option maxRecDepth 100000 in
theorem n_told2 (l : Launch) (D : va_G) (k : KT) (A : Nat → Prop) (a : Nat → Nat) (z : SK) (G : GS) (p0 : Int64) (p1 : Int32) (p2 : Int32)  : Met l yX12_told (WS yX12_told cX12_told 5 (some .int)) ({ frames := 3, cells := 0, slots := 0, locals := 66 }) (va_Pc [.ref (a 66), .long p0, .int p1, .int p2] (cW D k A a z G)) (va_Qi (fun (r : Int32) (G1 : GS) => Q_told2 p0 p1 p2 G r G1) (fun (G1 : GS) t => Wd D k A a G1 t.heap) A) 0 0 A := by
  refine Met.ofW (cc := cX12_told) (maxL := 5) (ret := (some .int)) (by decide) rfl ?_
  intro p e s m args below meth c s₁ B hml hv
  obtain ⟨rfl, hW, hB_G, hK, hZ⟩ := hv
  have hx := B.exec
  have hb := B.bytes
  have hr := B.returns
  have hts := atoms_spec (ws := WS yX12_told cX12_told 5 (some .int)) B.pre
  have hgd : ∀ w ∈ gd, w ∈ WS yX12_told cX12_told 5 (some .int) := fun w h => List.mem_cons_of_mem _ h
  have hg : ∀ w ∈ gd, w.before _ s = true := fun w h => hts w (hgd w h)
  have hown : s.vm.findClass RX12 = some m.cls := findClass_of_methodNamed B.named
  have hS : va_S A s.heap s.heap [] := va_S.rf
  have hF : Fr [] [(66, 2), (66, 3), (66, 4), (66, 6), (66, 7), (66, 8), (66, 9)] G G := Fr.rf
  have hl := lv_entry ([.ref (a 66), .long p0, .int p1, .int p2]) (n := 5) (Nat.le_of_ble_eq_true rfl)
  rw [lg_entry_eq]
  generalize (lg_sl ([.ref (a 66), .long p0, .int p1, .int p2]) ++ List.replicate (5 - (lg_sl ([.ref (a 66), .long p0, .int p1, .int p2])).length) Slot.unset).toArray = ls at hl ⊢
  have hl : lv_has ls 5 [(0, .ref (a 66)), (1, .long p0), (3, .int p1), (4, .int p2)] := hl
  refine lv_aload_n hx hb dX12_told_0 rfl (lv_at hl 0 rfl) ?_
  refine lv_lload_n hx hb dX12_told_1 rfl (lv_at hl 1 rfl) ?_
  refine S_callv (va_runV (As := [.long p0]) (rest := []) ⟨hx, hb, hml, hown, hts⟩ (n_want l D k A a z G p0 ) (cwV 1 hts (gd_V hgd m1678 m1680 m61 m131 m1681) rfl rfl rfl hd_X12_want ⟨Nat.le_of_ble_eq_true rfl, Nat.le_of_ble_eq_true rfl⟩) (pre_W hW hB_G hK hZ hS kd_66 rfl) rfl rfl hl.1 rfl (lv_room (Nat.le_of_ble_eq_true rfl)) dX12_told_2 ⟨Nat.le_of_ble_eq_true rfl, Nat.le_of_ble_eq_true rfl⟩) hS (fun G_2 H locs hpo hW hS => ?_)
  have hX_5 : Q_want p0 G G_2 := hpo
  obtain ⟨hB_G_2, hq_3, ⟨d_1, d_2, d_3⟩, -⟩ := hpo
  have hF := hF.call9 hq_3 rfl rfl
  refine lv_aload_n hx hb dX12_told_5 rfl (lv_at hl 0 rfl) ?_
  refine lv_iload_n hx hb dX12_told_6 rfl (lv_at hl 2 rfl) ?_
  refine lv_iload hx hb dX12_told_7 (lv_at hl 3 rfl) ?_
  have b_6 : 0 ≤ (G_2.1 66 2).toInt ∧ (G_2.1 66 2).toInt ≤ 4 := bd_66_2 hB_G_2
  have b_7 : 0 ≤ (G_2.1 66 4).toInt ∧ (G_2.1 66 4).toInt ≤ 1600 := bd_66_4 hB_G_2
  refine S_calli (va_runV (As := [.int p1, .int p2]) (rest := []) ⟨hx, hb, hml, hown, hts⟩ (n_told l D k A a z G_2 p1 p2 ) (cwV 2 hts (gd_V hgd m1682 m1684 m62 m131 m1685) rfl rfl rfl hd_X12_toldNumber ⟨Nat.le_of_ble_eq_true rfl, Nat.le_of_ble_eq_true rfl⟩) (pre_W hW hB_G_2 hK hZ hS kd_66 rfl) rfl rfl hl.1 rfl (lv_room (Nat.le_of_ble_eq_true rfl)) dX12_told_9 ⟨Nat.le_of_ble_eq_true rfl, Nat.le_of_ble_eq_true rfl⟩) hS (fun r_8 G_9 H locs hpo hW hS => ?_)
  have hX_12 : Q_told p1 p2 G_2 r_8 G_9 := hpo
  obtain ⟨hB_G_9, hq_10, ⟨d_4, d_5, d_6, d_7⟩, -⟩ := hpo
  have hF := hF.call9 hq_10 rfl rfl
  have b_13 : 0 ≤ (G_9.1 66 2).toInt ∧ (G_9.1 66 2).toInt ≤ 4 := bd_66_2 hB_G_9
  have b_14 : 0 ≤ (G_9.1 66 4).toInt ∧ (G_9.1 66 4).toInt ≤ 1600 := bd_66_4 hB_G_9
  exact W.iret (v := r_8) hx hb hr (fun t ht _ => ⟨⟨r_8, G_9, rfl, (Q_told2_mk ⟨hB_G_9, hF, ((by first | exact ⟨((by first | (clear d_3 b_6 d_6 d_7 b_13; omega) | omega)), ⟨(fun h9 => by have q0_ := d_2 (by (clear d_2 d_3 b_6 d_5 d_6 d_7 b_13; omega)); have q1_ := d_5 (by (clear d_2 d_3 b_6 d_5 d_6 d_7 b_13; omega)); (clear d_1 d_2 d_3 b_6 b_7 d_4 d_5 d_6 d_7 b_13 b_14; omega)), ⟨(fun h9 => ((by first | (clear d_1 d_2 b_7 d_4 d_5 b_14; omega) | omega))), (fun h9 => ⟨((by first | (clear d_1 d_2 b_7 d_4 d_5 b_14; omega) | omega)), ((by first | (clear d_1 d_2 b_7 d_4 d_5 b_14; omega) | omega))⟩)⟩⟩⟩ | omega)), ⟨G_2, hX_5, ⟨r_8, G_9, hX_12, ⟨rfl, rfl⟩⟩⟩⟩), wd_t ht hW⟩, hS.F ht⟩) hS.2.2 dX12_told_12

set_option maxHeartbeats 4000000 in
set_option maxRecDepth 100000 in
theorem n_newName (l : Launch) (D : va_G) (k : KT) (A : Nat → Prop) (a : Nat → Nat) (z : SK) (G : GS) (p0 : Int32) (p1 : Int32) (ha_p0 : 0 ≤ p0.toInt ∧ p0.toInt ≤ 7) (ha_p1 : 0 ≤ p1.toInt ∧ p1.toInt ≤ 6) : Met l yX12_newName (WS yX12_newName cX12_newName 4 none) ({ frames := 3, cells := 0, slots := 0, locals := 60 }) (va_Pc [.ref (a 66), .int p0, .int p1] (cW D k A a z G)) (va_Qv (fun (G1 : GS) => Q_newName p0 p1 G G1) (fun (G1 : GS) t => Wd D k A a G1 t.heap) A) 0 0 A := by
  refine Met.ofW (cc := cX12_newName) (maxL := 4) (ret := none) (by decide) rfl ?_
  intro p e s m args below meth c s₁ B hml hv
  obtain ⟨rfl, hW, hB_G, hK, hZ⟩ := hv
  have hx := B.exec
  have hb := B.bytes
  have hr := B.returns
  have hts := atoms_spec (ws := WS yX12_newName cX12_newName 4 none) B.pre
  have hgd : ∀ w ∈ gd, w ∈ WS yX12_newName cX12_newName 4 none := fun w h => List.mem_cons_of_mem _ h
  have hg : ∀ w ∈ gd, w.before _ s = true := fun w h => hts w (hgd w h)
  have hown : s.vm.findClass RX12 = some m.cls := findClass_of_methodNamed B.named
  have hS : va_S A s.heap s.heap [] := va_S.rf
  have hF : Fr [68] [(66, 2), (66, 3), (66, 4), (66, 6), (66, 7), (66, 8), (66, 9)] G G := Fr.rf
  have hl := lv_entry ([.ref (a 66), .int p0, .int p1]) (n := 4) (Nat.le_of_ble_eq_true rfl)
  rw [lg_entry_eq]
  generalize (lg_sl ([.ref (a 66), .int p0, .int p1]) ++ List.replicate (4 - (lg_sl ([.ref (a 66), .int p0, .int p1])).length) Slot.unset).toArray = ls at hl ⊢
  have hl : lv_has ls 4 [(0, .ref (a 66)), (1, .int p0), (2, .int p1)] := hl
  refine lv_aload_n hx hb dX12_newName_0 rfl (lv_at hl 0 rfl) ?_
  refine S_callv (va_runV (As := []) (rest := []) ⟨hx, hb, hml, hown, hts⟩ (n_token l D k A a z G  ) (cwV 0 hts (gd_V hgd m1602 m1604 m50 m131 m1605) rfl rfl rfl hd_X12_token ⟨Nat.le_of_ble_eq_true rfl, Nat.le_of_ble_eq_true rfl⟩) (pre_W hW hB_G hK hZ hS kd_66 rfl) rfl rfl hl.1 rfl (lv_room (Nat.le_of_ble_eq_true rfl)) dX12_newName_1 ⟨Nat.le_of_ble_eq_true rfl, Nat.le_of_ble_eq_true rfl⟩) hS (fun G_2 H locs hpo hW hS => ?_)
  have hX_5 : Q_token G G_2 := hpo
  obtain ⟨hB_G_2, hq_3, ⟨d_1, d_2⟩, -⟩ := hpo
  have hF := hF.call9 hq_3 rfl rfl
  refine lv_aload_n hx hb dX12_newName_4 rfl (lv_at hl 0 rfl) ?_
  refine S_calli (va_runV (As := []) (rest := []) ⟨hx, hb, hml, hown, hts⟩ (n_isName l D k A a z G_2  ) (cwV 0 hts (gd_V hgd m1636 m1638 m56 m131 m1639) rfl rfl rfl hd_X12_isName ⟨Nat.le_of_ble_eq_true rfl, Nat.le_of_ble_eq_true rfl⟩) (pre_W hW hB_G_2 hK hZ hS kd_66 rfl) rfl rfl hl.1 rfl (lv_room (Nat.le_of_ble_eq_true rfl)) dX12_newName_5 ⟨Nat.le_of_ble_eq_true rfl, Nat.le_of_ble_eq_true rfl⟩) hS (fun r_6 G_7 H locs hpo hW hS => ?_)
  have hX_10 : Q_isName G_2 r_6 G_7 := hpo
  obtain ⟨hB_G_7, hq_8, f_11, -⟩ := hpo
  have hF := hF.call9 hq_8 rfl rfl
  refine W.cut (σ := Unit) (pcJ := 16) (J := fun y H locs ls => ∃ (G_15 : GS), (1 ≤ (G.1 66 2).toInt → 1 ≤ (G_15.1 66 2).toInt) ∧ Jn_n_newName_1 r_6 G_7 G_15 ∧ Wd D k A a G_15 H ∧ Bd G_15 ∧ Fr [68] [(66, 2), (66, 3), (66, 4), (66, 6), (66, 7), (66, 8), (66, 9)] G G_15 ∧ Fr [] [(66, 2), (66, 3)] G_7 G_15 ∧ va_S A s.heap H locs ∧ lv_has ls 4 [(0, .ref (a 66)), (1, .int p0), (2, .int p1)]) (stJ := fun _ => []) ?_ (fun hJ_16 => ?_)
  · intro y H locs ls hI
    obtain ⟨G_15, f_19, hX_18, hW, hB_G_15, hF, hq_17, hS, hl⟩ := hI
    have b_20 : 0 ≤ (G_15.1 66 2).toInt ∧ (G_15.1 66 2).toInt ≤ 4 := bd_66_2 hB_G_15
    refine ic_0 hx hb dX12_newName_16 ?_
    refine lv_istore_n (lv' := [(3, .int 0), (0, .ref (a 66)), (1, .int p0), (2, .int p1)]) hx hb dX12_newName_17 rfl hl (lt_b rfl) rfl (fun ls hl => ?_)
    have qc_27 : (0 : Int32).toInt = 0 := rfl
    refine loop_N (Inv := fun n H locs ls => ∃ (G_21 : GS) (x_25 : Int32), (n : Int) = 6 - x_25.toInt ∧ (0 ≤ x_25.toInt ∧ x_25.toInt ≤ 6) ∧ (1 ≤ (G.1 66 2).toInt → 1 ≤ (G_21.1 66 2).toInt) ∧ Rc (St_n_newName_2 p0 p1 G G_2) (0, G_15) (x_25, G_21) ∧ Wd D k A a G_21 H ∧ Bd G_21 ∧ Fr [68] [(66, 2), (66, 3), (66, 4), (66, 6), (66, 7), (66, 8), (66, 9)] G G_21 ∧ Fr [] [(66, 2), (66, 3)] G_15 G_21 ∧ va_S A s.heap H locs ∧ lv_has ls 4 [(3, .int x_25), (0, .ref (a 66)), (1, .int p0), (2, .int p1)]) (fun n_24 H locs ls ih_23 hI => ?_) (6 - 0 : Int).toNat ⟨G_15, 0, (Int.toNat_of_nonneg ((by first | (clear ha_p0 ha_p1 d_1 d_2 f_11 f_19 b_20; omega) | omega))), ⟨(by first | (clear ha_p0 ha_p1 d_1 d_2 f_11 f_19 b_20; omega) | omega), (by first | (clear ha_p0 ha_p1 d_1 d_2 f_11 f_19 b_20; omega) | omega)⟩, ((by first | (clear ha_p0 ha_p1 d_1 d_2 f_11; omega) | omega)), Rc.rf, hW, hB_G_15, hF, Fr.rf, hS, lv_sub hl [0, 1, 2, 3] rfl⟩
    obtain ⟨G_21, x_25, hn_30, f_28, f_29, hX_26, hW, hB_G_21, hF, hq_22, hS, hl⟩ := hI
    have b_31 : 0 ≤ (G_21.1 66 2).toInt ∧ (G_21.1 66 2).toInt ≤ 4 := bd_66_2 hB_G_21
    refine lv_iload_n hx hb dX12_newName_18 rfl (lv_at hl 0 rfl) ?_
    refine lv_iload_n hx hb dX12_newName_19 rfl (lv_at hl 3 rfl) ?_
    refine lv_icmp_ge (tgt := 57) hx hb dX12_newName_20 rfl (fun c_32 => ?_) (fun c_32 => ?_)
    · have c_32 : p1.toInt ≤ x_25.toInt := xI_le rfl rfl c_32
      refine lv_aload_n hx hb dX12_newName_57 rfl (lv_at hl 1 rfl) ?_
      refine S_getI (v := (G_21.1 66 2)) (C := RX12) (T := TX12) (N := 89) hx hb hg iX12 hown hK hW kd_66 rfl 2 (lt_b rfl) (hg (Cond.fieldLink RX12 218 "SlabWalkModel" "fault" "I") m1316) (fun _ h9 => h9) rfl rfl dX12_newName_58 ?_
      refine lv_if_le (tgt := 65) hx hb dX12_newName_61 rfl (fun c_33 => ?_) (fun c_33 => ?_)
      · have c_33 : (G_21.1 66 2).toInt ≤ 0 := xI_le rfl rfl c_33
        refine lv_aload_n hx hb dX12_newName_65 rfl (lv_at hl 1 rfl) ?_
        refine S_getR (n := 68) (C := RX12) (T := TX12) (N := 89) hx hb hg iX12 hown hK hW kd_66 rfl 10 (lt_b rfl) (hg (Cond.fieldLink RX12 17 "SlabWalkModel" "nName" "[J") m1324) (fun _ h9 => h9) rfl dX12_newName_66 ?_
        refine lv_iload_n hx hb dX12_newName_69 rfl (lv_at hl 2 rfl) ?_
        refine lv_iload_n hx hb dX12_newName_70 rfl (lv_at hl 3 rfl) ?_
        refine lv_iadd hx hb dX12_newName_71 ?_
        refine lv_topi (fun y_34 ey_34 => ?_)
        have ty_34 : y_34.toInt = p0.toInt + p1.toInt := xI_add rfl rfl ey_34 ((by first | (clear d_1 d_2 f_11 f_19 b_20 hn_30 f_29 b_31 c_33; omega) | omega)) ((by first | (clear d_1 d_2 f_11 f_19 b_20 hn_30 f_29 b_31 c_33; omega) | omega))
        refine lv_aload_n hx hb dX12_newName_72 rfl (lv_at hl 1 rfl) ?_
        obtain ⟨y_35, ey_35⟩ : ∃ q, G_21.2.1 66 9 = q := ⟨_, rfl⟩
        refine S_getL (v := y_35) (C := RX12) (T := TX12) (N := 89) hx hb hg iX12 hown hK hW kd_66 rfl 9 (lt_b rfl) (hg (Cond.fieldLink RX12 198 "SlabWalkModel" "word" "J") m1323) (fun _ h9 => h9) rfl ey_35 dX12_newName_73 ?_
        refine S_last hx hb hK hW hS kd_68 (vin ((by first | (clear d_1 d_2 f_11 f_19 b_20 hn_30 f_29 b_31 c_33; omega) | omega)) ((by first | (clear d_1 d_2 f_11 f_19 b_20 hn_30 f_29 b_31 c_33; omega) | omega))) dX12_newName_76 (fun G_36 H locs eG_36 hW hS => ?_)
        have hB_G_36 : Bd G_36 := hB_G_21.putl eG_36
        have hF := hF.putl eG_36 (Or.inl (by decide))
        refine lv_aload_n hx hb dX12_newName_77 rfl (lv_at hl 1 rfl) ?_
        have b_37 : 0 ≤ (G_2.1 66 4).toInt ∧ (G_2.1 66 4).toInt ≤ 1600 := bd_66_4 hB_G_2
        have g_38 : (G_36.1 66 4).toInt = (G_2.1 66 4).toInt := (congrArg Int32.toInt (show G_36.1 66 4 = (G_2.1 66 4) from ((congrFun (congrFun (gp_l eG_36).1 66) 4).trans ((hq_22.i9 66 4 rfl rfl).trans ((hq_17.i9 66 4 rfl rfl).trans (hq_8.i9 66 4 rfl rfl))))))
        have g_39 : (G_36.1 66 6).toInt = (G_2.1 66 6).toInt := (congrArg Int32.toInt (show G_36.1 66 6 = (G_2.1 66 6) from ((congrFun (congrFun (gp_l eG_36).1 66) 6).trans ((hq_22.i9 66 6 rfl rfl).trans ((hq_17.i9 66 6 rfl rfl).trans (hq_8.i9 66 6 rfl rfl))))))
        refine S_callv (va_runV (As := []) (rest := []) ⟨hx, hb, hml, hown, hts⟩ (n_token l D k A a z G_36  ) (cwV 0 hts (gd_V hgd m1602 m1604 m50 m131 m1605) rfl rfl rfl hd_X12_token ⟨Nat.le_of_ble_eq_true rfl, Nat.le_of_ble_eq_true rfl⟩) (pre_W hW hB_G_36 hK hZ hS kd_66 rfl) rfl rfl hl.1 rfl (lv_room (Nat.le_of_ble_eq_true rfl)) dX12_newName_78 ⟨Nat.le_of_ble_eq_true rfl, Nat.le_of_ble_eq_true rfl⟩) hS (fun G_41 H locs hpo hW hS => ?_)
        have hX_44 : Q_token G_36 G_41 := hpo
        obtain ⟨hB_G_41, hq_42, ⟨d_3, d_4⟩, -⟩ := hpo
        have hF := hF.call9 hq_42 rfl rfl
        have g_45 : (G_41.1 66 2).toInt = (G_21.1 66 2).toInt := (congrArg Int32.toInt (show G_41.1 66 2 = (G_21.1 66 2) from ((hq_42.i9 66 2 rfl rfl).trans ((congrFun (congrFun (gp_l eG_36).1 66) 2).trans (rfl)))))
        have b_46 : 0 ≤ (G_41.1 66 4).toInt ∧ (G_41.1 66 4).toInt ≤ 1600 := bd_66_4 hB_G_41
        exact W.vret hx hb hr (fun t ht _ => ⟨⟨G_41, rfl, (Q_newName_mk ⟨hB_G_41, hF, ((by first | exact ⟨((by first | (clear ha_p0 ha_p1 f_11 f_19 b_20 hn_30 f_28 f_29 b_31 c_32 c_33 ty_34 g_45; omega) | omega)), ⟨(fun h9 => by have q0_ := d_2 (by (clear ha_p0 ha_p1 d_2 f_11 f_19 b_20 hn_30 f_28 f_29 b_31 c_32 c_33 ty_34 g_39 d_4 g_45; omega)); have q1_ := d_4 (by (clear ha_p0 ha_p1 d_2 f_11 f_19 b_20 hn_30 f_28 f_29 b_31 c_32 c_33 ty_34 g_39 d_4 g_45; omega)); (clear ha_p0 ha_p1 d_1 d_2 f_11 f_19 b_20 hn_30 f_28 f_29 b_31 c_32 c_33 ty_34 b_37 g_38 d_3 d_4 g_45 b_46; omega)), (fun h9 => ((by first | (clear ha_p0 ha_p1 d_1 d_2 f_11 hn_30 f_28 c_32 ty_34 b_37 g_38 g_39 d_3 d_4 b_46; omega) | omega)))⟩⟩ | omega)), ⟨G_2, hX_5, ⟨r_6, G_7, hX_10, ⟨G_15, hX_18, f_19, hB_G_15, hq_17, ⟨x_25, G_21, hX_26, f_28, f_29, hB_G_21, hq_22, ⟨c_32, (Or.inl ⟨c_33, ⟨y_34, ty_34, ⟨y_35, ey_35.symm.trans (((hq_22.l9 66 9 rfl rfl).trans ((hq_17.l9 66 9 rfl rfl).trans (hq_8.l9 66 9 rfl rfl)))), ⟨G_36, hB_G_36, (Fr.putl (rs := [68]) (fs := []) Fr.rf eG_36 (Or.inl (by decide))), rl_ast eG_36, ⟨G_41, hX_44, rfl⟩⟩⟩⟩⟩)⟩⟩⟩⟩⟩⟩), wd_t ht hW⟩, hS.F ht⟩) hS.2.2 dX12_newName_81
      · have c_33 : 0 < (G_21.1 66 2).toInt := xI_nle rfl rfl c_33
        have b_47 : 0 ≤ (G_2.1 66 4).toInt ∧ (G_2.1 66 4).toInt ≤ 1600 := bd_66_4 hB_G_2
        have g_48 : (G_21.1 66 4).toInt = (G_2.1 66 4).toInt := (congrArg Int32.toInt (show G_21.1 66 4 = (G_2.1 66 4) from ((hq_22.i9 66 4 rfl rfl).trans ((hq_17.i9 66 4 rfl rfl).trans (hq_8.i9 66 4 rfl rfl)))))
        have g_49 : (G_21.1 66 6).toInt = (G_2.1 66 6).toInt := (congrArg Int32.toInt (show G_21.1 66 6 = (G_2.1 66 6) from ((hq_22.i9 66 6 rfl rfl).trans ((hq_17.i9 66 6 rfl rfl).trans (hq_8.i9 66 6 rfl rfl)))))
        exact W.vret hx hb hr (fun t ht _ => ⟨⟨G_21, rfl, (Q_newName_mk ⟨hB_G_21, hF, ((by first | exact ⟨((by first | (clear ha_p0 ha_p1 f_11 f_19 b_20 hn_30 f_28 f_29 b_31 c_32 c_33; omega) | omega)), ⟨(fun h9 => by have q0_ := d_2 (by (clear ha_p0 ha_p1 d_2 f_11 f_19 b_20 hn_30 f_28 f_29 b_31 c_32 c_33 g_49; omega)); (clear ha_p0 ha_p1 d_1 d_2 f_11 f_19 b_20 hn_30 f_28 f_29 b_31 c_32 c_33 b_47 g_48; omega)), (fun h9 => ((by first | (clear ha_p0 ha_p1 d_1 d_2 f_11 hn_30 f_28 c_32 b_47 g_48 g_49; omega) | omega)))⟩⟩ | omega)), ⟨G_2, hX_5, ⟨r_6, G_7, hX_10, ⟨G_15, hX_18, f_19, hB_G_15, hq_17, ⟨x_25, G_21, hX_26, f_28, f_29, hB_G_21, hq_22, ⟨c_32, (Or.inr ⟨c_33, rfl⟩)⟩⟩⟩⟩⟩⟩), wd_t ht hW⟩, hS.F ht⟩) hS.2.2 dX12_newName_64
    · have c_32 : x_25.toInt < p1.toInt := xI_nle rfl rfl c_32
      refine lv_aload_n hx hb dX12_newName_23 rfl (lv_at hl 1 rfl) ?_
      refine S_getI (v := (G_21.1 66 2)) (C := RX12) (T := TX12) (N := 89) hx hb hg iX12 hown hK hW kd_66 rfl 2 (lt_b rfl) (hg (Cond.fieldLink RX12 218 "SlabWalkModel" "fault" "I") m1316) (fun _ h9 => h9) rfl rfl dX12_newName_24 ?_
      refine lv_if_ne (tgt := 51) hx hb dX12_newName_27 rfl (fun c_50 => ?_) (fun c_50 => ?_)
      · have c_50 : (G_21.1 66 2).toInt ≠ 0 := xI_ne rfl rfl c_50
        obtain ⟨y_51, ey_51⟩ : ∃ q, q = x_25 + 1 := ⟨_, rfl⟩
        have ty_51 : y_51.toInt = x_25.toInt + 1 := xI_add rfl rfl ey_51 ((by first | (clear ha_p0 d_1 d_2 f_11 f_19 b_20 hn_30 f_29 b_31 c_50; omega) | omega)) ((by first | (clear ha_p0 d_1 d_2 f_11 f_19 b_20 hn_30 f_29 b_31 c_50; omega) | omega))
        refine lv_iinc (v := y_51) (lv' := [(3, .int y_51), (0, .ref (a 66)), (1, .int p0), (2, .int p1)]) hx hb dX12_newName_51 hl (k := 0) rfl (by rw [ey_51]; rfl) (lt_b rfl) rfl (fun ls hl => ?_)
        refine lv_goto (tgt := 18) hx hb dX12_newName_54 rfl ?_
        exact ih_23 (6 - y_51.toInt : Int).toNat ((by first | (clear ha_p0 d_1 d_2 f_11 f_19 b_20 f_29 b_31 c_50; omega) | omega)) _ _ _ ⟨G_21, y_51, (Int.toNat_of_nonneg ((by first | (clear ha_p0 d_1 d_2 f_11 f_19 b_20 hn_30 f_29 b_31 c_50; omega) | omega))), ⟨(by first | (clear ha_p0 d_1 d_2 f_11 f_19 b_20 hn_30 f_29 b_31 c_50; omega) | omega), (by first | (clear ha_p0 d_1 d_2 f_11 f_19 b_20 hn_30 f_29 b_31 c_50; omega) | omega)⟩, ((by first | (clear ha_p0 ha_p1 d_1 d_2 f_11 hn_30 f_28 c_32 ty_51; omega) | omega)), (hX_26.st (St_n_newName_2_mk ⟨x_25, G_21, y_51, G_21, rfl, rfl, f_28, f_29, hB_G_21, ⟨c_32, (Or.inr ⟨c_50, ⟨y_51, ty_51, ⟨rfl, rfl⟩⟩⟩)⟩⟩)), hW, hB_G_21, hF, (Fr.call9 (rs := []) (fs := [(66, 2), (66, 3)]) Fr.rf hq_22 rfl rfl), hS, lv_sub hl [0, 1, 2, 3] rfl⟩
      · have c_50 : (G_21.1 66 2).toInt = 0 := xI_eq rfl rfl c_50
        refine lv_aload_n hx hb dX12_newName_30 rfl (lv_at hl 1 rfl) ?_
        refine S_getR (n := 68) (C := RX12) (T := TX12) (N := 89) hx hb hg iX12 hown hK hW kd_66 rfl 10 (lt_b rfl) (hg (Cond.fieldLink RX12 17 "SlabWalkModel" "nName" "[J") m1324) (fun _ h9 => h9) rfl dX12_newName_31 ?_
        refine lv_iload_n hx hb dX12_newName_34 rfl (lv_at hl 2 rfl) ?_
        refine lv_iload_n hx hb dX12_newName_35 rfl (lv_at hl 0 rfl) ?_
        refine lv_iadd hx hb dX12_newName_36 ?_
        refine lv_topi (fun y_52 ey_52 => ?_)
        have ty_52 : y_52.toInt = p0.toInt + x_25.toInt := xI_add rfl rfl ey_52 ((by first | (clear d_1 d_2 f_11 f_19 b_20 hn_30 f_29 b_31 c_50; omega) | omega)) ((by first | (clear d_1 d_2 f_11 f_19 b_20 hn_30 f_29 b_31 c_50; omega) | omega))
        refine S_lald hx hb hK hW kd_68 (vin ((by first | (clear d_1 d_2 f_11 f_19 b_20 hn_30 f_29 b_31 c_50; omega) | omega)) ((by first | (clear d_1 d_2 f_11 f_19 b_20 hn_30 f_29 b_31 c_50; omega) | omega))) dX12_newName_37 (fun y_53 ey_53 => ?_)
        refine lv_aload_n hx hb dX12_newName_38 rfl (lv_at hl 1 rfl) ?_
        obtain ⟨y_54, ey_54⟩ : ∃ q, G_21.2.1 66 9 = q := ⟨_, rfl⟩
        refine S_getL (v := y_54) (C := RX12) (T := TX12) (N := 89) hx hb hg iX12 hown hK hW kd_66 rfl 9 (lt_b rfl) (hg (Cond.fieldLink RX12 198 "SlabWalkModel" "word" "J") m1323) (fun _ h9 => h9) rfl ey_54 dX12_newName_39 ?_
        refine W.lcmp hx hb dX12_newName_42 ?_
        refine lv_topi (fun y_55 ey_55 => ?_)
        have ty_55 := lcmp_rng ey_55
        refine lv_if_ne (tgt := 51) hx hb dX12_newName_43 rfl (fun c_56 => ?_) (fun c_56 => ?_)
        · have c_56 : y_55.toInt ≠ 0 := xI_ne rfl rfl c_56
          obtain ⟨y_57, ey_57⟩ : ∃ q, q = x_25 + 1 := ⟨_, rfl⟩
          have ty_57 : y_57.toInt = x_25.toInt + 1 := xI_add rfl rfl ey_57 ((by first | (clear d_1 d_2 f_11 f_19 b_20 hn_30 f_29 b_31 c_50 c_56; omega) | omega)) ((by first | (clear d_1 d_2 f_11 f_19 b_20 hn_30 f_29 b_31 c_50 c_56; omega) | omega))
          refine lv_iinc (v := y_57) (lv' := [(3, .int y_57), (0, .ref (a 66)), (1, .int p0), (2, .int p1)]) hx hb dX12_newName_51 hl (k := 0) rfl (by rw [ey_57]; rfl) (lt_b rfl) rfl (fun ls hl => ?_)
          refine lv_goto (tgt := 18) hx hb dX12_newName_54 rfl ?_
          exact ih_23 (6 - y_57.toInt : Int).toNat ((by first | (clear d_1 d_2 f_11 f_19 b_20 f_29 b_31 c_50 c_56; omega) | omega)) _ _ _ ⟨G_21, y_57, (Int.toNat_of_nonneg ((by first | (clear d_1 d_2 f_11 f_19 b_20 hn_30 f_29 b_31 c_50 c_56; omega) | omega))), ⟨(by first | (clear d_1 d_2 f_11 f_19 b_20 hn_30 f_29 b_31 c_50 c_56; omega) | omega), (by first | (clear d_1 d_2 f_11 f_19 b_20 hn_30 f_29 b_31 c_50 c_56; omega) | omega)⟩, ((by first | (clear ha_p0 ha_p1 d_1 d_2 f_11 hn_30 f_28 c_32 ty_52 c_56 ty_57; omega) | omega)), (hX_26.st (St_n_newName_2_mk ⟨x_25, G_21, y_57, G_21, rfl, rfl, f_28, f_29, hB_G_21, ⟨c_32, (Or.inl ⟨c_50, ⟨y_52, ty_52, ⟨y_53, ey_53, ⟨y_54, ey_54.symm.trans (((hq_22.l9 66 9 rfl rfl).trans ((hq_17.l9 66 9 rfl rfl).trans (hq_8.l9 66 9 rfl rfl)))), ⟨y_55, ey_55, (Or.inr ⟨c_56, ⟨y_57, ty_57, ⟨rfl, rfl⟩⟩⟩)⟩⟩⟩⟩⟩)⟩⟩)), hW, hB_G_21, hF, (Fr.call9 (rs := []) (fs := [(66, 2), (66, 3)]) Fr.rf hq_22 rfl rfl), hS, lv_sub hl [0, 1, 2, 3] rfl⟩
        · have c_56 : y_55.toInt = 0 := xI_eq rfl rfl c_56
          refine lv_aload_n hx hb dX12_newName_46 rfl (lv_at hl 1 rfl) ?_
          refine ic_3 hx hb dX12_newName_47 ?_
          have qc_58 : (3 : Int32).toInt = 3 := rfl
          refine S_callv (va_runV (As := [.int 3]) (rest := []) ⟨hx, hb, hml, hown, hts⟩ (n_wrong l D k A a z G_21 3 ⟨by decide, by decide⟩) (cwV 1 hts (gd_V hgd m1670 m1672 m59 m131 m1673) rfl rfl rfl hd_X12_wrong ⟨Nat.le_of_ble_eq_true rfl, Nat.le_of_ble_eq_true rfl⟩) (pre_W hW hB_G_21 hK hZ hS kd_66 rfl) rfl rfl hl.1 rfl (lv_room (Nat.le_of_ble_eq_true rfl)) dX12_newName_48 ⟨Nat.le_of_ble_eq_true rfl, Nat.le_of_ble_eq_true rfl⟩) hS (fun G_60 H locs hpo hW hS => ?_)
          have hX_63 : Q_wrong 3 G_21 G_60 := hpo
          obtain ⟨hB_G_60, hq_61, hp_62, -⟩ := hpo
          have hF := hF.call9 hq_61 rfl rfl
          obtain ⟨y_64, ey_64⟩ : ∃ q, q = x_25 + 1 := ⟨_, rfl⟩
          have ty_64 : y_64.toInt = x_25.toInt + 1 := xI_add rfl rfl ey_64 ((by first | (clear d_1 d_2 f_11 f_19 b_20 hn_30 f_29 b_31 c_50 c_56 hp_62; omega) | omega)) ((by first | (clear d_1 d_2 f_11 f_19 b_20 hn_30 f_29 b_31 c_50 c_56 hp_62; omega) | omega))
          refine lv_iinc (v := y_64) (lv' := [(3, .int y_64), (0, .ref (a 66)), (1, .int p0), (2, .int p1)]) hx hb dX12_newName_51 hl (k := 0) rfl (by rw [ey_64]; rfl) (lt_b rfl) rfl (fun ls hl => ?_)
          refine lv_goto (tgt := 18) hx hb dX12_newName_54 rfl ?_
          have b_65 : 0 ≤ (G_60.1 66 2).toInt ∧ (G_60.1 66 2).toInt ≤ 4 := bd_66_2 hB_G_60
          exact ih_23 (6 - y_64.toInt : Int).toNat ((by first | (clear d_1 d_2 f_11 f_19 b_20 f_29 b_31 c_50 c_56 hp_62 b_65; omega) | omega)) _ _ _ ⟨G_60, y_64, (Int.toNat_of_nonneg ((by first | (clear d_1 d_2 f_11 f_19 b_20 hn_30 f_29 b_31 c_50 c_56 hp_62 b_65; omega) | omega))), ⟨(by first | (clear d_1 d_2 f_11 f_19 b_20 hn_30 f_29 b_31 c_50 c_56 hp_62 b_65; omega) | omega), (by first | (clear d_1 d_2 f_11 f_19 b_20 hn_30 f_29 b_31 c_50 c_56 hp_62 b_65; omega) | omega)⟩, ((by first | (clear ha_p0 ha_p1 d_1 d_2 f_11 hn_30 f_28 c_32 ty_52 c_56 ty_64; omega) | omega)), (hX_26.st (St_n_newName_2_mk ⟨x_25, G_21, y_64, G_60, rfl, rfl, f_28, f_29, hB_G_21, ⟨c_32, (Or.inl ⟨c_50, ⟨y_52, ty_52, ⟨y_53, ey_53, ⟨y_54, ey_54.symm.trans (((hq_22.l9 66 9 rfl rfl).trans ((hq_17.l9 66 9 rfl rfl).trans (hq_8.l9 66 9 rfl rfl)))), ⟨y_55, ey_55, (Or.inl ⟨c_56, ⟨G_60, hX_63, ⟨y_64, ty_64, ⟨rfl, rfl⟩⟩⟩⟩)⟩⟩⟩⟩⟩)⟩⟩)), hW, hB_G_60, hF, (Fr.call9 (rs := []) (fs := [(66, 2), (66, 3)]) (Fr.call9 (rs := []) (fs := [(66, 2), (66, 3)]) Fr.rf hq_22 rfl rfl) hq_61 rfl rfl), hS, lv_sub hl [0, 1, 2, 3] rfl⟩
  refine lv_if_ne (tgt := 16) hx hb dX12_newName_8 rfl (fun c_66 => ?_) (fun c_66 => ?_)
  · have c_66 : r_6.toInt ≠ 0 := xI_ne rfl rfl c_66
    have b_67 : 0 ≤ (G.1 66 2).toInt ∧ (G.1 66 2).toInt ≤ 4 := bd_66_2 hB_G
    have g_68 : (G_7.1 66 2).toInt = (G.1 66 2).toInt := (congrArg Int32.toInt (show G_7.1 66 2 = (G.1 66 2) from ((hq_8.i9 66 2 rfl rfl).trans (hq_3.i9 66 2 rfl rfl))))
    exact hJ_16 () _ _ _ ⟨G_7, ((by first | (clear ha_p0 ha_p1 d_1 d_2 f_11 c_66; omega) | omega)), (Jn_n_newName_1_mk (Or.inr ⟨c_66, rfl⟩)), hW, hB_G_7, hF, (Fr.rf (rs := []) (fs := [(66, 2), (66, 3)])), hS, lv_sub hl [0, 1, 2] rfl⟩
  · have c_66 : r_6.toInt = 0 := xI_eq rfl rfl c_66
    refine lv_aload_n hx hb dX12_newName_11 rfl (lv_at hl 0 rfl) ?_
    refine ic_2 hx hb dX12_newName_12 ?_
    have qc_69 : (2 : Int32).toInt = 2 := rfl
    refine S_callv (va_runV (As := [.int 2]) (rest := []) ⟨hx, hb, hml, hown, hts⟩ (n_wrong l D k A a z G_7 2 ⟨by decide, by decide⟩) (cwV 1 hts (gd_V hgd m1670 m1672 m59 m131 m1673) rfl rfl rfl hd_X12_wrong ⟨Nat.le_of_ble_eq_true rfl, Nat.le_of_ble_eq_true rfl⟩) (pre_W hW hB_G_7 hK hZ hS kd_66 rfl) rfl rfl hl.1 rfl (lv_room (Nat.le_of_ble_eq_true rfl)) dX12_newName_13 ⟨Nat.le_of_ble_eq_true rfl, Nat.le_of_ble_eq_true rfl⟩) hS (fun G_71 H locs hpo hW hS => ?_)
    have hX_74 : Q_wrong 2 G_7 G_71 := hpo
    obtain ⟨hB_G_71, hq_72, hp_73, -⟩ := hpo
    have hF := hF.call9 hq_72 rfl rfl
    have b_75 : 0 ≤ (G_71.1 66 2).toInt ∧ (G_71.1 66 2).toInt ≤ 4 := bd_66_2 hB_G_71
    exact hJ_16 () _ _ _ ⟨G_71, ((by first | (clear ha_p0 ha_p1 d_1 d_2 f_11 c_66; omega) | omega)), (Jn_n_newName_1_mk (Or.inl ⟨c_66, ⟨G_71, hX_74, rfl⟩⟩)), hW, hB_G_71, hF, (Fr.call9 (rs := []) (fs := [(66, 2), (66, 3)]) Fr.rf hq_72 rfl rfl), hS, lv_sub hl [0, 1, 2] rfl⟩
