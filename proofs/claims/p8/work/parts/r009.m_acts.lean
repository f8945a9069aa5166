theorem m111 : Cond.selects RX12 yX12_act yX12_act ∈ gd := gds_7 15 rfl
theorem m113 : Cond.selects RX12 yX12_isRule yX12_isRule ∈ gd := gds_8 1 rfl
theorem m114 : Cond.selects RX12 yX12_exchange yX12_exchange ∈ gd := gds_8 2 rfl
theorem m1391 : Cond.fieldLink RX12 154 "SlabWalkModel" "were" "[I" ∈ gd := gdc_6_4 11 rfl gw_fieldLink
theorem m1991 : Cond.methodLink RX12 581 yX12_act ∈ gd := gdc_8_12 3 rfl gw_methodLink
theorem m1993 : Cond.instanceMethod yX12_act ∈ gd := gdc_8_12 5 rfl gw_instanceMethod
theorem m1994 : Cond.code yX12_act cX12_act 2 none ∈ gd := gdc_8_12 6 rfl gw_code
theorem m2007 : Cond.methodLink RX12 587 yX12_isRule ∈ gd := gdc_8_13 3 rfl gw_methodLink
theorem m2009 : Cond.instanceMethod yX12_isRule ∈ gd := gdc_8_13 5 rfl gw_instanceMethod
theorem m2010 : Cond.code yX12_isRule cX12_isRule 2 (some .boolean) ∈ gd := gdc_8_13 6 rfl gw_code
theorem m2023 : Cond.methodLink RX12 590 yX12_exchange ∈ gd := gdc_8_14 3 rfl gw_methodLink
theorem m2025 : Cond.instanceMethod yX12_exchange ∈ gd := gdc_8_14 5 rfl gw_instanceMethod
theorem m2026 : Cond.code yX12_exchange cX12_exchange 4 none ∈ gd := gdc_8_14 6 rfl gw_code
def rbX12_act_0 : List (Nat × List Nat) := [(0, [42]), (1, [180, 1, 181]), (4, [16, 40]), (6, [160, 0, 43]), (9, [3]), (10, [60]), (11, [27]), (12, [17, 2, 112]), (15, [162, 0, 24]), (18, [42]), (19, [180, 0, 154]), (22, [27]), (23, [42]), (24, [180, 0, 154]), (27, [16, 16]), (29, [27]), (30, [96]), (31, [46]), (32, [79]), (33, [132, 1, 1]), (36, [167, 255, 231]), (39, [42]), (40, [89]), (41, [180, 1, 181])]
theorem rcX12_act_0 : dgo (lb cX12_act) 0 rbX12_act_0 = true := by decide +kernel
theorem dX12_act_0 : decode cX12_act 0 = .ok (.aload_n 0, 1) := dk_42 (dw rcX12_act_0 0 rfl)
theorem dX12_act_1 : decode cX12_act 1 = .ok (.getfield 437, 3) := dk_180 (dw rcX12_act_0 1 rfl) rfl
theorem dX12_act_4 : decode cX12_act 4 = .ok (.bipush 40, 2) := dk_16 (dw rcX12_act_0 2 rfl) rfl
theorem dX12_act_6 : decode cX12_act 6 = .ok (.if_icmp .ne 43, 3) := dk_160 (dw rcX12_act_0 3 rfl) rfl
theorem dX12_act_9 : decode cX12_act 9 = .ok (.iconst 0, 1) := dk_3 (dw rcX12_act_0 4 rfl)
theorem dX12_act_10 : decode cX12_act 10 = .ok (.istore_n 1, 1) := dk_60 (dw rcX12_act_0 5 rfl)
theorem dX12_act_11 : decode cX12_act 11 = .ok (.iload_n 1, 1) := dk_27 (dw rcX12_act_0 6 rfl)
theorem dX12_act_12 : decode cX12_act 12 = .ok (.sipush 624, 3) := dk_17 (dw rcX12_act_0 7 rfl) rfl
theorem dX12_act_15 : decode cX12_act 15 = .ok (.if_icmp .ge 24, 3) := dk_162 (dw rcX12_act_0 8 rfl) rfl
theorem dX12_act_18 : decode cX12_act 18 = .ok (.aload_n 0, 1) := dk_42 (dw rcX12_act_0 9 rfl)
theorem dX12_act_19 : decode cX12_act 19 = .ok (.getfield 154, 3) := dk_180 (dw rcX12_act_0 10 rfl) rfl
theorem dX12_act_22 : decode cX12_act 22 = .ok (.iload_n 1, 1) := dk_27 (dw rcX12_act_0 11 rfl)
theorem dX12_act_23 : decode cX12_act 23 = .ok (.aload_n 0, 1) := dk_42 (dw rcX12_act_0 12 rfl)
theorem dX12_act_24 : decode cX12_act 24 = .ok (.getfield 154, 3) := dk_180 (dw rcX12_act_0 13 rfl) rfl
theorem dX12_act_27 : decode cX12_act 27 = .ok (.bipush 16, 2) := dk_16 (dw rcX12_act_0 14 rfl) rfl
theorem dX12_act_29 : decode cX12_act 29 = .ok (.iload_n 1, 1) := dk_27 (dw rcX12_act_0 15 rfl)
theorem dX12_act_30 : decode cX12_act 30 = .ok (.iadd, 1) := dk_96 (dw rcX12_act_0 16 rfl)
theorem dX12_act_31 : decode cX12_act 31 = .ok (.iaload, 1) := dk_46 (dw rcX12_act_0 17 rfl)
theorem dX12_act_32 : decode cX12_act 32 = .ok (.iastore, 1) := dk_79 (dw rcX12_act_0 18 rfl)
theorem dX12_act_33 : decode cX12_act 33 = .ok (.iinc 1 1, 3) := dk_132 (dw rcX12_act_0 19 rfl) rfl
theorem dX12_act_36 : decode cX12_act 36 = .ok (.goto (-25), 3) := dk_167 (dw rcX12_act_0 20 rfl) rfl
theorem dX12_act_39 : decode cX12_act 39 = .ok (.aload_n 0, 1) := dk_42 (dw rcX12_act_0 21 rfl)
theorem dX12_act_40 : decode cX12_act 40 = .ok (.dup, 1) := dk_89 (dw rcX12_act_0 22 rfl)
theorem dX12_act_41 : decode cX12_act 41 = .ok (.getfield 437, 3) := dk_180 (dw rcX12_act_0 23 rfl) rfl
def rbX12_act_44 : List (Nat × List Nat) := [(44, [4]), (45, [100]), (46, [181, 1, 181]), (49, [3]), (50, [60]), (51, [27]), (52, [16, 10]), (54, [162, 0, 29]), (57, [42]), (58, [180, 0, 154]), (61, [16, 16]), (63, [42]), (64, [180, 1, 181]), (67, [104]), (68, [27]), (69, [96]), (70, [42]), (71, [180, 0, 151]), (74, [27]), (75, [46]), (76, [79]), (77, [132, 1, 1]), (80, [167, 255, 227]), (83, [42])]
theorem rcX12_act_44 : dgo (lb cX12_act) 0 rbX12_act_44 = true := by decide +kernel
theorem dX12_act_44 : decode cX12_act 44 = .ok (.iconst 1, 1) := dk_4 (dw rcX12_act_44 0 rfl)
theorem dX12_act_45 : decode cX12_act 45 = .ok (.isub, 1) := dk_100 (dw rcX12_act_44 1 rfl)
theorem dX12_act_46 : decode cX12_act 46 = .ok (.putfield 437, 3) := dk_181 (dw rcX12_act_44 2 rfl) rfl
theorem dX12_act_49 : decode cX12_act 49 = .ok (.iconst 0, 1) := dk_3 (dw rcX12_act_44 3 rfl)
theorem dX12_act_50 : decode cX12_act 50 = .ok (.istore_n 1, 1) := dk_60 (dw rcX12_act_44 4 rfl)
theorem dX12_act_51 : decode cX12_act 51 = .ok (.iload_n 1, 1) := dk_27 (dw rcX12_act_44 5 rfl)
theorem dX12_act_52 : decode cX12_act 52 = .ok (.bipush 10, 2) := dk_16 (dw rcX12_act_44 6 rfl) rfl
theorem dX12_act_54 : decode cX12_act 54 = .ok (.if_icmp .ge 29, 3) := dk_162 (dw rcX12_act_44 7 rfl) rfl
theorem dX12_act_57 : decode cX12_act 57 = .ok (.aload_n 0, 1) := dk_42 (dw rcX12_act_44 8 rfl)
theorem dX12_act_58 : decode cX12_act 58 = .ok (.getfield 154, 3) := dk_180 (dw rcX12_act_44 9 rfl) rfl
theorem dX12_act_61 : decode cX12_act 61 = .ok (.bipush 16, 2) := dk_16 (dw rcX12_act_44 10 rfl) rfl
theorem dX12_act_63 : decode cX12_act 63 = .ok (.aload_n 0, 1) := dk_42 (dw rcX12_act_44 11 rfl)
theorem dX12_act_64 : decode cX12_act 64 = .ok (.getfield 437, 3) := dk_180 (dw rcX12_act_44 12 rfl) rfl
theorem dX12_act_67 : decode cX12_act 67 = .ok (.imul, 1) := dk_104 (dw rcX12_act_44 13 rfl)
theorem dX12_act_68 : decode cX12_act 68 = .ok (.iload_n 1, 1) := dk_27 (dw rcX12_act_44 14 rfl)
theorem dX12_act_69 : decode cX12_act 69 = .ok (.iadd, 1) := dk_96 (dw rcX12_act_44 15 rfl)
theorem dX12_act_70 : decode cX12_act 70 = .ok (.aload_n 0, 1) := dk_42 (dw rcX12_act_44 16 rfl)
theorem dX12_act_71 : decode cX12_act 71 = .ok (.getfield 151, 3) := dk_180 (dw rcX12_act_44 17 rfl) rfl
theorem dX12_act_74 : decode cX12_act 74 = .ok (.iload_n 1, 1) := dk_27 (dw rcX12_act_44 18 rfl)
theorem dX12_act_75 : decode cX12_act 75 = .ok (.iaload, 1) := dk_46 (dw rcX12_act_44 19 rfl)
theorem dX12_act_76 : decode cX12_act 76 = .ok (.iastore, 1) := dk_79 (dw rcX12_act_44 20 rfl)
theorem dX12_act_77 : decode cX12_act 77 = .ok (.iinc 1 1, 3) := dk_132 (dw rcX12_act_44 21 rfl) rfl
theorem dX12_act_80 : decode cX12_act 80 = .ok (.goto (-29), 3) := dk_167 (dw rcX12_act_44 22 rfl) rfl
theorem dX12_act_83 : decode cX12_act 83 = .ok (.aload_n 0, 1) := dk_42 (dw rcX12_act_44 23 rfl)
def rbX12_act_84 : List (Nat × List Nat) := [(84, [89]), (85, [180, 1, 181]), (88, [4]), (89, [96]), (90, [181, 1, 181]), (93, [42]), (94, [3]), (95, [181, 1, 184]), (98, [177])]
theorem rcX12_act_84 : dgo (lb cX12_act) 0 rbX12_act_84 = true := by decide +kernel
theorem dX12_act_84 : decode cX12_act 84 = .ok (.dup, 1) := dk_89 (dw rcX12_act_84 0 rfl)
theorem dX12_act_85 : decode cX12_act 85 = .ok (.getfield 437, 3) := dk_180 (dw rcX12_act_84 1 rfl) rfl
theorem dX12_act_88 : decode cX12_act 88 = .ok (.iconst 1, 1) := dk_4 (dw rcX12_act_84 2 rfl)
theorem dX12_act_89 : decode cX12_act 89 = .ok (.iadd, 1) := dk_96 (dw rcX12_act_84 3 rfl)
theorem dX12_act_90 : decode cX12_act 90 = .ok (.putfield 437, 3) := dk_181 (dw rcX12_act_84 4 rfl) rfl
theorem dX12_act_93 : decode cX12_act 93 = .ok (.aload_n 0, 1) := dk_42 (dw rcX12_act_84 5 rfl)
theorem dX12_act_94 : decode cX12_act 94 = .ok (.iconst 0, 1) := dk_3 (dw rcX12_act_84 6 rfl)
theorem dX12_act_95 : decode cX12_act 95 = .ok (.putfield 440, 3) := dk_181 (dw rcX12_act_84 7 rfl) rfl
theorem dX12_act_98 : decode cX12_act 98 = .ok (.return_, 1) := dk_177 (dw rcX12_act_84 8 rfl)
def rbX12_day_0 : List (Nat × List Nat) := [(0, [42]), (1, [180, 0, 151]), (4, [16, 6]), (6, [46]), (7, [17, 3, 232]), (10, [160, 0, 5]), (13, [2]), (14, [172]), (15, [42]), (16, [182, 2, 69]), (19, [42]), (20, [180, 0, 151]), (23, [16, 6]), (25, [92]), (26, [46]), (27, [4]), (28, [96]), (29, [79]), (30, [42]), (31, [180, 0, 151]), (34, [16, 6]), (36, [46]), (37, [172])]
theorem rcX12_day_0 : dgo (lb cX12_day) 0 rbX12_day_0 = true := by decide +kernel
theorem dX12_day_0 : decode cX12_day 0 = .ok (.aload_n 0, 1) := dk_42 (dw rcX12_day_0 0 rfl)
theorem dX12_day_1 : decode cX12_day 1 = .ok (.getfield 151, 3) := dk_180 (dw rcX12_day_0 1 rfl) rfl
theorem dX12_day_4 : decode cX12_day 4 = .ok (.bipush 6, 2) := dk_16 (dw rcX12_day_0 2 rfl) rfl
theorem dX12_day_6 : decode cX12_day 6 = .ok (.iaload, 1) := dk_46 (dw rcX12_day_0 3 rfl)
theorem dX12_day_7 : decode cX12_day 7 = .ok (.sipush 1000, 3) := dk_17 (dw rcX12_day_0 4 rfl) rfl
theorem dX12_day_10 : decode cX12_day 10 = .ok (.if_icmp .ne 5, 3) := dk_160 (dw rcX12_day_0 5 rfl) rfl
theorem dX12_day_13 : decode cX12_day 13 = .ok (.iconst (-1), 1) := dk_2 (dw rcX12_day_0 6 rfl)
theorem dX12_day_14 : decode cX12_day 14 = .ok (.ireturn, 1) := dk_172 (dw rcX12_day_0 7 rfl)
theorem dX12_day_15 : decode cX12_day 15 = .ok (.aload_n 0, 1) := dk_42 (dw rcX12_day_0 8 rfl)
theorem dX12_day_16 : decode cX12_day 16 = .ok (.invokevirtual 581, 3) := dk_182 (dw rcX12_day_0 9 rfl) rfl
theorem dX12_day_19 : decode cX12_day 19 = .ok (.aload_n 0, 1) := dk_42 (dw rcX12_day_0 10 rfl)
theorem dX12_day_20 : decode cX12_day 20 = .ok (.getfield 151, 3) := dk_180 (dw rcX12_day_0 11 rfl) rfl
theorem dX12_day_23 : decode cX12_day 23 = .ok (.bipush 6, 2) := dk_16 (dw rcX12_day_0 12 rfl) rfl
theorem dX12_day_25 : decode cX12_day 25 = .ok (.dup2, 1) := dk_92 (dw rcX12_day_0 13 rfl)
theorem dX12_day_26 : decode cX12_day 26 = .ok (.iaload, 1) := dk_46 (dw rcX12_day_0 14 rfl)
theorem dX12_day_27 : decode cX12_day 27 = .ok (.iconst 1, 1) := dk_4 (dw rcX12_day_0 15 rfl)
theorem dX12_day_28 : decode cX12_day 28 = .ok (.iadd, 1) := dk_96 (dw rcX12_day_0 16 rfl)
theorem dX12_day_29 : decode cX12_day 29 = .ok (.iastore, 1) := dk_79 (dw rcX12_day_0 17 rfl)
theorem dX12_day_30 : decode cX12_day 30 = .ok (.aload_n 0, 1) := dk_42 (dw rcX12_day_0 18 rfl)
theorem dX12_day_31 : decode cX12_day 31 = .ok (.getfield 151, 3) := dk_180 (dw rcX12_day_0 19 rfl) rfl
theorem dX12_day_34 : decode cX12_day 34 = .ok (.bipush 6, 2) := dk_16 (dw rcX12_day_0 20 rfl) rfl
theorem dX12_day_36 : decode cX12_day 36 = .ok (.iaload, 1) := dk_46 (dw rcX12_day_0 21 rfl)
theorem dX12_day_37 : decode cX12_day 37 = .ok (.ireturn, 1) := dk_172 (dw rcX12_day_0 22 rfl)
def rbX12_exchange_0 : List (Nat × List Nat) := [(0, [3]), (1, [61]), (2, [28]), (3, [16, 10]), (5, [162, 0, 39]), (8, [42]), (9, [180, 0, 154]), (12, [27]), (13, [28]), (14, [96]), (15, [46]), (16, [62]), (17, [42]), (18, [180, 0, 154]), (21, [27]), (22, [28]), (23, [96]), (24, [42]), (25, [180, 0, 151]), (28, [28]), (29, [46]), (30, [79]), (31, [42]), (32, [180, 0, 151])]
theorem rcX12_exchange_0 : dgo (lb cX12_exchange) 0 rbX12_exchange_0 = true := by decide +kernel
theorem dX12_exchange_0 : decode cX12_exchange 0 = .ok (.iconst 0, 1) := dk_3 (dw rcX12_exchange_0 0 rfl)
theorem dX12_exchange_1 : decode cX12_exchange 1 = .ok (.istore_n 2, 1) := dk_61 (dw rcX12_exchange_0 1 rfl)
theorem dX12_exchange_2 : decode cX12_exchange 2 = .ok (.iload_n 2, 1) := dk_28 (dw rcX12_exchange_0 2 rfl)
theorem dX12_exchange_3 : decode cX12_exchange 3 = .ok (.bipush 10, 2) := dk_16 (dw rcX12_exchange_0 3 rfl) rfl
theorem dX12_exchange_5 : decode cX12_exchange 5 = .ok (.if_icmp .ge 39, 3) := dk_162 (dw rcX12_exchange_0 4 rfl) rfl
theorem dX12_exchange_8 : decode cX12_exchange 8 = .ok (.aload_n 0, 1) := dk_42 (dw rcX12_exchange_0 5 rfl)
theorem dX12_exchange_9 : decode cX12_exchange 9 = .ok (.getfield 154, 3) := dk_180 (dw rcX12_exchange_0 6 rfl) rfl
theorem dX12_exchange_12 : decode cX12_exchange 12 = .ok (.iload_n 1, 1) := dk_27 (dw rcX12_exchange_0 7 rfl)
theorem dX12_exchange_13 : decode cX12_exchange 13 = .ok (.iload_n 2, 1) := dk_28 (dw rcX12_exchange_0 8 rfl)
theorem dX12_exchange_14 : decode cX12_exchange 14 = .ok (.iadd, 1) := dk_96 (dw rcX12_exchange_0 9 rfl)
theorem dX12_exchange_15 : decode cX12_exchange 15 = .ok (.iaload, 1) := dk_46 (dw rcX12_exchange_0 10 rfl)
theorem dX12_exchange_16 : decode cX12_exchange 16 = .ok (.istore_n 3, 1) := dk_62 (dw rcX12_exchange_0 11 rfl)
theorem dX12_exchange_17 : decode cX12_exchange 17 = .ok (.aload_n 0, 1) := dk_42 (dw rcX12_exchange_0 12 rfl)
theorem dX12_exchange_18 : decode cX12_exchange 18 = .ok (.getfield 154, 3) := dk_180 (dw rcX12_exchange_0 13 rfl) rfl
theorem dX12_exchange_21 : decode cX12_exchange 21 = .ok (.iload_n 1, 1) := dk_27 (dw rcX12_exchange_0 14 rfl)
theorem dX12_exchange_22 : decode cX12_exchange 22 = .ok (.iload_n 2, 1) := dk_28 (dw rcX12_exchange_0 15 rfl)
theorem dX12_exchange_23 : decode cX12_exchange 23 = .ok (.iadd, 1) := dk_96 (dw rcX12_exchange_0 16 rfl)
theorem dX12_exchange_24 : decode cX12_exchange 24 = .ok (.aload_n 0, 1) := dk_42 (dw rcX12_exchange_0 17 rfl)
theorem dX12_exchange_25 : decode cX12_exchange 25 = .ok (.getfield 151, 3) := dk_180 (dw rcX12_exchange_0 18 rfl) rfl
theorem dX12_exchange_28 : decode cX12_exchange 28 = .ok (.iload_n 2, 1) := dk_28 (dw rcX12_exchange_0 19 rfl)
theorem dX12_exchange_29 : decode cX12_exchange 29 = .ok (.iaload, 1) := dk_46 (dw rcX12_exchange_0 20 rfl)
theorem dX12_exchange_30 : decode cX12_exchange 30 = .ok (.iastore, 1) := dk_79 (dw rcX12_exchange_0 21 rfl)
theorem dX12_exchange_31 : decode cX12_exchange 31 = .ok (.aload_n 0, 1) := dk_42 (dw rcX12_exchange_0 22 rfl)
theorem dX12_exchange_32 : decode cX12_exchange 32 = .ok (.getfield 151, 3) := dk_180 (dw rcX12_exchange_0 23 rfl) rfl
def rbX12_exchange_35 : List (Nat × List Nat) := [(35, [28]), (36, [29]), (37, [79]), (38, [132, 2, 1]), (41, [167, 255, 217]), (44, [177])]
theorem rcX12_exchange_35 : dgo (lb cX12_exchange) 0 rbX12_exchange_35 = true := by decide +kernel
theorem dX12_exchange_35 : decode cX12_exchange 35 = .ok (.iload_n 2, 1) := dk_28 (dw rcX12_exchange_35 0 rfl)
theorem dX12_exchange_36 : decode cX12_exchange 36 = .ok (.iload_n 3, 1) := dk_29 (dw rcX12_exchange_35 1 rfl)
theorem dX12_exchange_37 : decode cX12_exchange 37 = .ok (.iastore, 1) := dk_79 (dw rcX12_exchange_35 2 rfl)
theorem dX12_exchange_38 : decode cX12_exchange 38 = .ok (.iinc 2 1, 3) := dk_132 (dw rcX12_exchange_35 3 rfl) rfl
theorem dX12_exchange_41 : decode cX12_exchange 41 = .ok (.goto (-39), 3) := dk_167 (dw rcX12_exchange_35 4 rfl) rfl
theorem dX12_exchange_44 : decode cX12_exchange 44 = .ok (.return_, 1) := dk_177 (dw rcX12_exchange_35 5 rfl)
def rbX12_force_0 : List (Nat × List Nat) := [(0, [42]), (1, [27]), (2, [182, 2, 75]), (5, [154, 0, 5]), (8, [2]), (9, [172]), (10, [42]), (11, [182, 2, 69]), (14, [42]), (15, [180, 0, 151]), (18, [16, 8]), (20, [92]), (21, [46]), (22, [4]), (23, [27]), (24, [120]), (25, [130]), (26, [79]), (27, [42]), (28, [180, 0, 151]), (31, [16, 8]), (33, [46]), (34, [27]), (35, [122])]
theorem rcX12_force_0 : dgo (lb cX12_force) 0 rbX12_force_0 = true := by decide +kernel
theorem dX12_force_0 : decode cX12_force 0 = .ok (.aload_n 0, 1) := dk_42 (dw rcX12_force_0 0 rfl)
theorem dX12_force_1 : decode cX12_force 1 = .ok (.iload_n 1, 1) := dk_27 (dw rcX12_force_0 1 rfl)
theorem dX12_force_2 : decode cX12_force 2 = .ok (.invokevirtual 587, 3) := dk_182 (dw rcX12_force_0 2 rfl) rfl
theorem dX12_force_5 : decode cX12_force 5 = .ok (.ifCond .ne 5, 3) := dk_154 (dw rcX12_force_0 3 rfl) rfl
theorem dX12_force_8 : decode cX12_force 8 = .ok (.iconst (-1), 1) := dk_2 (dw rcX12_force_0 4 rfl)
theorem dX12_force_9 : decode cX12_force 9 = .ok (.ireturn, 1) := dk_172 (dw rcX12_force_0 5 rfl)
theorem dX12_force_10 : decode cX12_force 10 = .ok (.aload_n 0, 1) := dk_42 (dw rcX12_force_0 6 rfl)
theorem dX12_force_11 : decode cX12_force 11 = .ok (.invokevirtual 581, 3) := dk_182 (dw rcX12_force_0 7 rfl) rfl
theorem dX12_force_14 : decode cX12_force 14 = .ok (.aload_n 0, 1) := dk_42 (dw rcX12_force_0 8 rfl)
theorem dX12_force_15 : decode cX12_force 15 = .ok (.getfield 151, 3) := dk_180 (dw rcX12_force_0 9 rfl) rfl
theorem dX12_force_18 : decode cX12_force 18 = .ok (.bipush 8, 2) := dk_16 (dw rcX12_force_0 10 rfl) rfl
theorem dX12_force_20 : decode cX12_force 20 = .ok (.dup2, 1) := dk_92 (dw rcX12_force_0 11 rfl)
theorem dX12_force_21 : decode cX12_force 21 = .ok (.iaload, 1) := dk_46 (dw rcX12_force_0 12 rfl)
theorem dX12_force_22 : decode cX12_force 22 = .ok (.iconst 1, 1) := dk_4 (dw rcX12_force_0 13 rfl)
theorem dX12_force_23 : decode cX12_force 23 = .ok (.iload_n 1, 1) := dk_27 (dw rcX12_force_0 14 rfl)
theorem dX12_force_24 : decode cX12_force 24 = .ok (.ishl, 1) := dk_120 (dw rcX12_force_0 15 rfl)
theorem dX12_force_25 : decode cX12_force 25 = .ok (.ixor, 1) := dk_130 (dw rcX12_force_0 16 rfl)
theorem dX12_force_26 : decode cX12_force 26 = .ok (.iastore, 1) := dk_79 (dw rcX12_force_0 17 rfl)
theorem dX12_force_27 : decode cX12_force 27 = .ok (.aload_n 0, 1) := dk_42 (dw rcX12_force_0 18 rfl)
theorem dX12_force_28 : decode cX12_force 28 = .ok (.getfield 151, 3) := dk_180 (dw rcX12_force_0 19 rfl) rfl
theorem dX12_force_31 : decode cX12_force 31 = .ok (.bipush 8, 2) := dk_16 (dw rcX12_force_0 20 rfl) rfl
theorem dX12_force_33 : decode cX12_force 33 = .ok (.iaload, 1) := dk_46 (dw rcX12_force_0 21 rfl)
theorem dX12_force_34 : decode cX12_force 34 = .ok (.iload_n 1, 1) := dk_27 (dw rcX12_force_0 22 rfl)
theorem dX12_force_35 : decode cX12_force 35 = .ok (.ishr, 1) := dk_122 (dw rcX12_force_0 23 rfl)
def rbX12_force_36 : List (Nat × List Nat) := [(36, [4]), (37, [126]), (38, [172])]
theorem rcX12_force_36 : dgo (lb cX12_force) 0 rbX12_force_36 = true := by decide +kernel
theorem dX12_force_36 : decode cX12_force 36 = .ok (.iconst 1, 1) := dk_4 (dw rcX12_force_36 0 rfl)
theorem dX12_force_37 : decode cX12_force 37 = .ok (.iand, 1) := dk_126 (dw rcX12_force_36 1 rfl)
theorem dX12_force_38 : decode cX12_force 38 = .ok (.ireturn, 1) := dk_172 (dw rcX12_force_36 2 rfl)
def rbX12_rain_0 : List (Nat × List Nat) := [(0, [42]), (1, [182, 2, 69]), (4, [42]), (5, [180, 0, 151]), (8, [16, 9]), (10, [4]), (11, [42]), (12, [180, 0, 151]), (15, [16, 9]), (17, [46]), (18, [100]), (19, [79]), (20, [42]), (21, [180, 0, 151]), (24, [16, 9]), (26, [46]), (27, [4]), (28, [160, 0, 7]), (31, [4]), (32, [167, 0, 4]), (35, [3]), (36, [172])]
theorem rcX12_rain_0 : dgo (lb cX12_rain) 0 rbX12_rain_0 = true := by decide +kernel
theorem dX12_rain_0 : decode cX12_rain 0 = .ok (.aload_n 0, 1) := dk_42 (dw rcX12_rain_0 0 rfl)
theorem dX12_rain_1 : decode cX12_rain 1 = .ok (.invokevirtual 581, 3) := dk_182 (dw rcX12_rain_0 1 rfl) rfl
theorem dX12_rain_4 : decode cX12_rain 4 = .ok (.aload_n 0, 1) := dk_42 (dw rcX12_rain_0 2 rfl)
theorem dX12_rain_5 : decode cX12_rain 5 = .ok (.getfield 151, 3) := dk_180 (dw rcX12_rain_0 3 rfl) rfl
theorem dX12_rain_8 : decode cX12_rain 8 = .ok (.bipush 9, 2) := dk_16 (dw rcX12_rain_0 4 rfl) rfl
theorem dX12_rain_10 : decode cX12_rain 10 = .ok (.iconst 1, 1) := dk_4 (dw rcX12_rain_0 5 rfl)
theorem dX12_rain_11 : decode cX12_rain 11 = .ok (.aload_n 0, 1) := dk_42 (dw rcX12_rain_0 6 rfl)
theorem dX12_rain_12 : decode cX12_rain 12 = .ok (.getfield 151, 3) := dk_180 (dw rcX12_rain_0 7 rfl) rfl
theorem dX12_rain_15 : decode cX12_rain 15 = .ok (.bipush 9, 2) := dk_16 (dw rcX12_rain_0 8 rfl) rfl
theorem dX12_rain_17 : decode cX12_rain 17 = .ok (.iaload, 1) := dk_46 (dw rcX12_rain_0 9 rfl)
theorem dX12_rain_18 : decode cX12_rain 18 = .ok (.isub, 1) := dk_100 (dw rcX12_rain_0 10 rfl)
theorem dX12_rain_19 : decode cX12_rain 19 = .ok (.iastore, 1) := dk_79 (dw rcX12_rain_0 11 rfl)
theorem dX12_rain_20 : decode cX12_rain 20 = .ok (.aload_n 0, 1) := dk_42 (dw rcX12_rain_0 12 rfl)
theorem dX12_rain_21 : decode cX12_rain 21 = .ok (.getfield 151, 3) := dk_180 (dw rcX12_rain_0 13 rfl) rfl
theorem dX12_rain_24 : decode cX12_rain 24 = .ok (.bipush 9, 2) := dk_16 (dw rcX12_rain_0 14 rfl) rfl
theorem dX12_rain_26 : decode cX12_rain 26 = .ok (.iaload, 1) := dk_46 (dw rcX12_rain_0 15 rfl)
theorem dX12_rain_27 : decode cX12_rain 27 = .ok (.iconst 1, 1) := dk_4 (dw rcX12_rain_0 16 rfl)
theorem dX12_rain_28 : decode cX12_rain 28 = .ok (.if_icmp .ne 7, 3) := dk_160 (dw rcX12_rain_0 17 rfl) rfl
theorem dX12_rain_31 : decode cX12_rain 31 = .ok (.iconst 1, 1) := dk_4 (dw rcX12_rain_0 18 rfl)
theorem dX12_rain_32 : decode cX12_rain 32 = .ok (.goto 4, 3) := dk_167 (dw rcX12_rain_0 19 rfl) rfl
theorem dX12_rain_35 : decode cX12_rain 35 = .ok (.iconst 0, 1) := dk_3 (dw rcX12_rain_0 20 rfl)
theorem dX12_rain_36 : decode cX12_rain 36 = .ok (.ireturn, 1) := dk_172 (dw rcX12_rain_0 21 rfl)
def rbX12_redo_0 : List (Nat × List Nat) := [(0, [42]), (1, [180, 1, 184]), (4, [154, 0, 5]), (7, [3]), (8, [172]), (9, [42]), (10, [16, 16]), (12, [42]), (13, [180, 1, 181]), (16, [104]), (17, [182, 2, 78]), (20, [42]), (21, [89]), (22, [180, 1, 181]), (25, [4]), (26, [96]), (27, [181, 1, 181]), (30, [42]), (31, [89]), (32, [180, 1, 184]), (35, [4]), (36, [100]), (37, [181, 1, 184]), (40, [4])]
theorem rcX12_redo_0 : dgo (lb cX12_redo) 0 rbX12_redo_0 = true := by decide +kernel
theorem dX12_redo_0 : decode cX12_redo 0 = .ok (.aload_n 0, 1) := dk_42 (dw rcX12_redo_0 0 rfl)
theorem dX12_redo_1 : decode cX12_redo 1 = .ok (.getfield 440, 3) := dk_180 (dw rcX12_redo_0 1 rfl) rfl
theorem dX12_redo_4 : decode cX12_redo 4 = .ok (.ifCond .ne 5, 3) := dk_154 (dw rcX12_redo_0 2 rfl) rfl
theorem dX12_redo_7 : decode cX12_redo 7 = .ok (.iconst 0, 1) := dk_3 (dw rcX12_redo_0 3 rfl)
theorem dX12_redo_8 : decode cX12_redo 8 = .ok (.ireturn, 1) := dk_172 (dw rcX12_redo_0 4 rfl)
theorem dX12_redo_9 : decode cX12_redo 9 = .ok (.aload_n 0, 1) := dk_42 (dw rcX12_redo_0 5 rfl)
theorem dX12_redo_10 : decode cX12_redo 10 = .ok (.bipush 16, 2) := dk_16 (dw rcX12_redo_0 6 rfl) rfl
theorem dX12_redo_12 : decode cX12_redo 12 = .ok (.aload_n 0, 1) := dk_42 (dw rcX12_redo_0 7 rfl)
theorem dX12_redo_13 : decode cX12_redo 13 = .ok (.getfield 437, 3) := dk_180 (dw rcX12_redo_0 8 rfl) rfl
theorem dX12_redo_16 : decode cX12_redo 16 = .ok (.imul, 1) := dk_104 (dw rcX12_redo_0 9 rfl)
theorem dX12_redo_17 : decode cX12_redo 17 = .ok (.invokevirtual 590, 3) := dk_182 (dw rcX12_redo_0 10 rfl) rfl
theorem dX12_redo_20 : decode cX12_redo 20 = .ok (.aload_n 0, 1) := dk_42 (dw rcX12_redo_0 11 rfl)
theorem dX12_redo_21 : decode cX12_redo 21 = .ok (.dup, 1) := dk_89 (dw rcX12_redo_0 12 rfl)
theorem dX12_redo_22 : decode cX12_redo 22 = .ok (.getfield 437, 3) := dk_180 (dw rcX12_redo_0 13 rfl) rfl
theorem dX12_redo_25 : decode cX12_redo 25 = .ok (.iconst 1, 1) := dk_4 (dw rcX12_redo_0 14 rfl)
theorem dX12_redo_26 : decode cX12_redo 26 = .ok (.iadd, 1) := dk_96 (dw rcX12_redo_0 15 rfl)
theorem dX12_redo_27 : decode cX12_redo 27 = .ok (.putfield 437, 3) := dk_181 (dw rcX12_redo_0 16 rfl) rfl
theorem dX12_redo_30 : decode cX12_redo 30 = .ok (.aload_n 0, 1) := dk_42 (dw rcX12_redo_0 17 rfl)
theorem dX12_redo_31 : decode cX12_redo 31 = .ok (.dup, 1) := dk_89 (dw rcX12_redo_0 18 rfl)
theorem dX12_redo_32 : decode cX12_redo 32 = .ok (.getfield 440, 3) := dk_180 (dw rcX12_redo_0 19 rfl) rfl
theorem dX12_redo_35 : decode cX12_redo 35 = .ok (.iconst 1, 1) := dk_4 (dw rcX12_redo_0 20 rfl)
theorem dX12_redo_36 : decode cX12_redo 36 = .ok (.isub, 1) := dk_100 (dw rcX12_redo_0 21 rfl)
theorem dX12_redo_37 : decode cX12_redo 37 = .ok (.putfield 440, 3) := dk_181 (dw rcX12_redo_0 22 rfl) rfl
theorem dX12_redo_40 : decode cX12_redo 40 = .ok (.iconst 1, 1) := dk_4 (dw rcX12_redo_0 23 rfl)
theorem dX12_redo_41 : decode cX12_redo 41 = .ok (.ireturn, 1) := dq_of (by decide +kernel)
def rbX12_undo_0 : List (Nat × List Nat) := [(0, [42]), (1, [180, 1, 181]), (4, [154, 0, 5]), (7, [3]), (8, [172]), (9, [42]), (10, [89]), (11, [180, 1, 181]), (14, [4]), (15, [100]), (16, [181, 1, 181]), (19, [42]), (20, [89]), (21, [180, 1, 184]), (24, [4]), (25, [96]), (26, [181, 1, 184]), (29, [42]), (30, [16, 16]), (32, [42]), (33, [180, 1, 181]), (36, [104]), (37, [182, 2, 78]), (40, [4])]
theorem rcX12_undo_0 : dgo (lb cX12_undo) 0 rbX12_undo_0 = true := by decide +kernel
theorem dX12_undo_0 : decode cX12_undo 0 = .ok (.aload_n 0, 1) := dk_42 (dw rcX12_undo_0 0 rfl)
theorem dX12_undo_1 : decode cX12_undo 1 = .ok (.getfield 437, 3) := dk_180 (dw rcX12_undo_0 1 rfl) rfl
theorem dX12_undo_4 : decode cX12_undo 4 = .ok (.ifCond .ne 5, 3) := dk_154 (dw rcX12_undo_0 2 rfl) rfl
theorem dX12_undo_7 : decode cX12_undo 7 = .ok (.iconst 0, 1) := dk_3 (dw rcX12_undo_0 3 rfl)
theorem dX12_undo_8 : decode cX12_undo 8 = .ok (.ireturn, 1) := dk_172 (dw rcX12_undo_0 4 rfl)
theorem dX12_undo_9 : decode cX12_undo 9 = .ok (.aload_n 0, 1) := dk_42 (dw rcX12_undo_0 5 rfl)
theorem dX12_undo_10 : decode cX12_undo 10 = .ok (.dup, 1) := dk_89 (dw rcX12_undo_0 6 rfl)
theorem dX12_undo_11 : decode cX12_undo 11 = .ok (.getfield 437, 3) := dk_180 (dw rcX12_undo_0 7 rfl) rfl
theorem dX12_undo_14 : decode cX12_undo 14 = .ok (.iconst 1, 1) := dk_4 (dw rcX12_undo_0 8 rfl)
theorem dX12_undo_15 : decode cX12_undo 15 = .ok (.isub, 1) := dk_100 (dw rcX12_undo_0 9 rfl)
theorem dX12_undo_16 : decode cX12_undo 16 = .ok (.putfield 437, 3) := dk_181 (dw rcX12_undo_0 10 rfl) rfl
theorem dX12_undo_19 : decode cX12_undo 19 = .ok (.aload_n 0, 1) := dk_42 (dw rcX12_undo_0 11 rfl)
theorem dX12_undo_20 : decode cX12_undo 20 = .ok (.dup, 1) := dk_89 (dw rcX12_undo_0 12 rfl)
theorem dX12_undo_21 : decode cX12_undo 21 = .ok (.getfield 440, 3) := dk_180 (dw rcX12_undo_0 13 rfl) rfl
theorem dX12_undo_24 : decode cX12_undo 24 = .ok (.iconst 1, 1) := dk_4 (dw rcX12_undo_0 14 rfl)
theorem dX12_undo_25 : decode cX12_undo 25 = .ok (.iadd, 1) := dk_96 (dw rcX12_undo_0 15 rfl)
theorem dX12_undo_26 : decode cX12_undo 26 = .ok (.putfield 440, 3) := dk_181 (dw rcX12_undo_0 16 rfl) rfl
theorem dX12_undo_29 : decode cX12_undo 29 = .ok (.aload_n 0, 1) := dk_42 (dw rcX12_undo_0 17 rfl)
theorem dX12_undo_30 : decode cX12_undo 30 = .ok (.bipush 16, 2) := dk_16 (dw rcX12_undo_0 18 rfl) rfl
theorem dX12_undo_32 : decode cX12_undo 32 = .ok (.aload_n 0, 1) := dk_42 (dw rcX12_undo_0 19 rfl)
theorem dX12_undo_33 : decode cX12_undo 33 = .ok (.getfield 437, 3) := dk_180 (dw rcX12_undo_0 20 rfl) rfl
theorem dX12_undo_36 : decode cX12_undo 36 = .ok (.imul, 1) := dk_104 (dw rcX12_undo_0 21 rfl)
theorem dX12_undo_37 : decode cX12_undo 37 = .ok (.invokevirtual 590, 3) := dk_182 (dw rcX12_undo_0 22 rfl) rfl
theorem dX12_undo_40 : decode cX12_undo 40 = .ok (.iconst 1, 1) := dk_4 (dw rcX12_undo_0 23 rfl)
theorem dX12_undo_41 : decode cX12_undo 41 = .ok (.ireturn, 1) := dq_of (by decide +kernel)
set_option maxHeartbeats 4000000 in
set_option maxRecDepth 100000 in
theorem n_act (l : Launch) (D : va_G) (k : KT) (A : Nat → Prop) (a : Nat → Nat) (z : SK) (G : GS)   : Met l yX12_act (WS yX12_act cX12_act 2 none) ({ frames := 0, cells := 0, slots := 0, locals := 0 }) (va_Pc [.ref (a 66)] (cW D k A a z G)) (va_Qv (fun (G1 : GS) => Q_act G G1) (fun (G1 : GS) t => Wd D k A a G1 t.heap) A) 0 0 A := by
  refine Met.ofW (cc := cX12_act) (maxL := 2) (ret := none) (by decide) rfl ?_
  intro p e s m args below meth c s₁ B hml hv
  obtain ⟨rfl, hW, hB_G, hK, hZ⟩ := hv
  have hx := B.exec
  have hb := B.bytes
  have hr := B.returns
  have hts := atoms_spec (ws := WS yX12_act cX12_act 2 none) B.pre
  have hgd : ∀ w ∈ gd, w ∈ WS yX12_act cX12_act 2 none := fun w h => List.mem_cons_of_mem _ h
  have hg : ∀ w ∈ gd, w.before _ s = true := fun w h => hts w (hgd w h)
  have hown : s.vm.findClass RX12 = some m.cls := findClass_of_methodNamed B.named
  have hS : va_S A s.heap s.heap [] := va_S.rf
  have hF : Fr [111] [(66, 78), (66, 79)] G G := Fr.rf
  have hl := lv_entry ([.ref (a 66)]) (n := 2) (Nat.le_of_ble_eq_true rfl)
  rw [lg_entry_eq]
  generalize (lg_sl ([.ref (a 66)]) ++ List.replicate (2 - (lg_sl ([.ref (a 66)])).length) Slot.unset).toArray = ls at hl ⊢
  have hl : lv_has ls 2 [(0, .ref (a 66))] := hl
  refine lv_aload_n hx hb dX12_act_0 rfl (lv_at hl 0 rfl) ?_
  have b_1 : 0 ≤ (G.1 66 78).toInt ∧ (G.1 66 78).toInt ≤ 40 := bd_66_78 hB_G
  refine S_getI (v := (G.1 66 78)) (C := RX12) (T := TX12) (N := 89) hx hb hg iX12 hown hK hW kd_66 rfl 78 (lt_b rfl) (hg (Cond.fieldLink RX12 437 "SlabWalkModel" "acts" "I") m1392) (fun _ h9 => h9) rfl rfl dX12_act_1 ?_
  refine lv_bipush (v := 40) hx hb dX12_act_4 (by decide) ?_
  refine lv_icmp_ne (tgt := 49) hx hb dX12_act_6 rfl (fun c_2 => ?_) (fun c_2 => ?_)
  · have c_2 : (G.1 66 78).toInt ≠ 40 := xI_ne rfl rfl c_2
    refine ic_0 hx hb dX12_act_49 ?_
    refine lv_istore_n (lv' := [(1, .int 0), (0, .ref (a 66))]) hx hb dX12_act_50 rfl hl (lt_b rfl) rfl (fun ls hl => ?_)
    have qc_9 : (0 : Int32).toInt = 0 := rfl
    refine loop_N (Inv := fun n H locs ls => ∃ (G_3 : GS) (x_7 : Int32), (n : Int) = 10 - x_7.toInt ∧ (0 ≤ x_7.toInt ∧ x_7.toInt ≤ 10) ∧ Rc (St_n_act_1 G) (0, G) (x_7, G_3) ∧ Wd D k A a G_3 H ∧ Bd G_3 ∧ Fr [111] [(66, 78), (66, 79)] G G_3 ∧ Fr [111] [] G G_3 ∧ va_S A s.heap H locs ∧ lv_has ls 2 [(1, .int x_7), (0, .ref (a 66))]) (fun n_6 H locs ls ih_5 hI => ?_) (10 - 0 : Int).toNat ⟨G, 0, (Int.toNat_of_nonneg (by omega)), ⟨by omega, by omega⟩, Rc.rf, hW, hB_G, hF, Fr.rf, hS, lv_sub hl [0, 1] rfl⟩
    obtain ⟨G_3, x_7, hn_11, f_10, hX_8, hW, hB_G_3, hF, hq_4, hS, hl⟩ := hI
    refine lv_iload_n hx hb dX12_act_51 rfl (lv_at hl 0 rfl) ?_
    refine lv_bipush (v := 10) hx hb dX12_act_52 (by decide) ?_
    refine lv_icmp_ge (tgt := 83) hx hb dX12_act_54 rfl (fun c_12 => ?_) (fun c_12 => ?_)
    · have c_12 : 10 ≤ x_7.toInt := xI_le rfl rfl c_12
      refine lv_aload_n hx hb dX12_act_83 rfl (lv_at hl 1 rfl) ?_
      refine lv_dup hx hb dX12_act_84 rfl ?_
      refine S_getI (v := (G.1 66 78)) (C := RX12) (T := TX12) (N := 89) hx hb hg iX12 hown hK hW kd_66 rfl 78 (lt_b rfl) (hg (Cond.fieldLink RX12 437 "SlabWalkModel" "acts" "I") m1392) (fun _ h9 => h9) rfl ((hq_4.i9 66 78 rfl rfl).trans (rfl)) dX12_act_85 ?_
      refine ic_1 hx hb dX12_act_88 ?_
      refine lv_iadd hx hb dX12_act_89 ?_
      refine lv_topi (fun y_13 ey_13 => ?_)
      have ty_13 : y_13.toInt = (G.1 66 78).toInt + 1 := xI_add rfl rfl ey_13 ((by first | (clear hn_11 f_10 c_12; omega) | omega)) ((by first | (clear hn_11 f_10 c_12; omega) | omega))
      refine S_putI (ty := .int) (C := RX12) (T := TX12) (N := 89) hx hb hg iX12 tyX12 tyX12_ok nmX12 hown hK hW hS kd_66 rfl 78 (lt_b rfl) (hg (Cond.fieldLink RX12 437 "SlabWalkModel" "acts" "I") m1392) (fun _ h9 => h9) rfl (by decide +kernel) rfl rfl rfl dX12_act_90 (fun G_14 H locs eG_14 hW hS => ?_)
      have hB_G_14 : Bd G_14 := hB_G_3.put (V := y_13.toInt) (lo := 0) (hi := 40) eG_14 rfl rfl rfl ((by first | (clear hn_11 f_10 c_12; omega) | omega)) ((by first | (clear hn_11 f_10 c_12; omega) | omega)) (hB_G_3.2.put eG_14 rfl)
      have hF := hF.put eG_14 (Or.inr (by decide))
      refine lv_aload_n hx hb dX12_act_93 rfl (lv_at hl 1 rfl) ?_
      refine ic_0 hx hb dX12_act_94 ?_
      refine S_putI (ty := .int) (C := RX12) (T := TX12) (N := 89) hx hb hg iX12 tyX12 tyX12_ok nmX12 hown hK hW hS kd_66 rfl 79 (lt_b rfl) (hg (Cond.fieldLink RX12 440 "SlabWalkModel" "undone" "I") m1393) (fun _ h9 => h9) rfl (by decide +kernel) rfl rfl rfl dX12_act_95 (fun G_15 H locs eG_15 hW hS => ?_)
      have hB_G_15 : Bd G_15 := hB_G_14.put (V := 0) (lo := 0) (hi := 40) eG_15 rfl rfl rfl (by decide) (by decide) (hB_G_14.2.put eG_15 rfl)
      have hF := hF.put eG_15 (Or.inr (by decide))
      have g_16 : (G_15.1 66 78).toInt = y_13.toInt := (congrArg Int32.toInt (show G_15.1 66 78 = y_13 from ((gp_ne eG_15 (by decide)).trans (gp_eq eG_14))))
      have g_17 : (G_15.1 66 79).toInt = 0 := (congrArg Int32.toInt (show G_15.1 66 79 = 0 from (gp_eq eG_15))).trans rfl
      exact W.vret hx hb hr (fun t ht _ => ⟨⟨G_15, rfl, (Q_act_mk ⟨hB_G_15, hF, ((by first | exact ⟨((by first | (clear hn_11 f_10 c_12; omega) | omega)), ((by first | (clear hn_11 f_10 c_12 g_17; omega) | omega))⟩ | omega)), (Or.inr ⟨c_2, ⟨x_7, G_3, hX_8, f_10, hB_G_3, hq_4, ⟨c_12, ⟨y_13, ty_13, ⟨(Fr.put (rs := []) (fs := [(66, 78), (66, 79)]) (Fr.put (rs := []) (fs := [(66, 78), (66, 79)]) Fr.rf eG_14 (Or.inr (by decide))) eG_15 (Or.inr (by decide))), ((gp_ne eG_15 (by decide)).trans (gp_eq eG_14)), (gp_eq eG_15)⟩⟩⟩⟩⟩)⟩), wd_t ht hW⟩, hS.F ht⟩) hS.2.2 dX12_act_98
    · have c_12 : x_7.toInt < 10 := xI_nle rfl rfl c_12
      refine lv_aload_n hx hb dX12_act_57 rfl (lv_at hl 1 rfl) ?_
      refine S_getR (n := 111) (C := RX12) (T := TX12) (N := 89) hx hb hg iX12 hown hK hW kd_66 rfl 77 (lt_b rfl) (hg (Cond.fieldLink RX12 154 "SlabWalkModel" "were" "[I") m1391) (fun _ h9 => h9) rfl dX12_act_58 ?_
      refine lv_bipush (v := 16) hx hb dX12_act_61 (by decide) ?_
      refine lv_aload_n hx hb dX12_act_63 rfl (lv_at hl 1 rfl) ?_
      refine S_getI (v := (G.1 66 78)) (C := RX12) (T := TX12) (N := 89) hx hb hg iX12 hown hK hW kd_66 rfl 78 (lt_b rfl) (hg (Cond.fieldLink RX12 437 "SlabWalkModel" "acts" "I") m1392) (fun _ h9 => h9) rfl ((hq_4.i9 66 78 rfl rfl).trans (rfl)) dX12_act_64 ?_
      refine lv_imul hx hb dX12_act_67 ?_
      refine lv_topi (fun y_18 ey_18 => ?_)
      have ty_18 : y_18.toInt = 16 * (G.1 66 78).toInt := xI_mul rfl rfl ey_18 ((by first | (clear hn_11 f_10 c_12; omega) | omega)) ((by first | (clear hn_11 f_10 c_12; omega) | omega))
      refine lv_iload_n hx hb dX12_act_68 rfl (lv_at hl 0 rfl) ?_
      refine lv_iadd hx hb dX12_act_69 ?_
      refine lv_topi (fun y_19 ey_19 => ?_)
      have ty_19 : y_19.toInt = y_18.toInt + x_7.toInt := xI_add rfl rfl ey_19 (by omega) (by omega)
      refine lv_aload_n hx hb dX12_act_70 rfl (lv_at hl 1 rfl) ?_
      refine S_getR (n := 110) (C := RX12) (T := TX12) (N := 89) hx hb hg iX12 hown hK hW kd_66 rfl 76 (lt_b rfl) (hg (Cond.fieldLink RX12 151 "SlabWalkModel" "now" "[I") m1390) (fun _ h9 => h9) rfl dX12_act_71 ?_
      refine lv_iload_n hx hb dX12_act_74 rfl (lv_at hl 0 rfl) ?_
      refine S_iald hx hb hK hW kd_110 (vin (by omega) (by omega)) dX12_act_75 (fun y_20 ey_20 => ?_)
      have ty_20 := hB_G_3.now 110 (by decide) ey_20 (by omega)
      refine S_iast hx hb hK hW hS kd_111 (vin (by omega) (by omega)) dX12_act_76 (fun G_21 H locs eG_21 hW hS => ?_)
      have hB_G_21 : Bd G_21 := hB_G_3.putNow 111 (by decide) eG_21 (by omega) (by omega) (by omega) rfl
      have hF := hF.put eG_21 (Or.inl (by decide))
      obtain ⟨y_22, ey_22⟩ : ∃ q, q = x_7 + 1 := ⟨_, rfl⟩
      have ty_22 : y_22.toInt = x_7.toInt + 1 := xI_add rfl rfl ey_22 (by omega) (by omega)
      refine lv_iinc (v := y_22) (lv' := [(1, .int y_22), (0, .ref (a 66))]) hx hb dX12_act_77 hl (k := 0) rfl (by rw [ey_22]; rfl) (lt_b rfl) rfl (fun ls hl => ?_)
      refine lv_goto (tgt := 51) hx hb dX12_act_80 rfl ?_
      exact ih_5 (10 - y_22.toInt : Int).toNat (by omega) _ _ _ ⟨G_21, y_22, (Int.toNat_of_nonneg (by omega)), ⟨by omega, by omega⟩, (hX_8.st (St_n_act_1_mk ⟨x_7, G_3, y_22, G_21, rfl, rfl, f_10, hB_G_3, ⟨c_12, ⟨y_18, ty_18, ⟨y_19, ty_19, ⟨y_20, ey_20, ⟨y_22, ty_22, ⟨rfl, (Fr.put (rs := [111]) (fs := []) Fr.rf eG_21 (Or.inl (by decide))), rw_ast eG_21⟩⟩⟩⟩⟩⟩⟩)), hW, hB_G_21, hF, (Fr.put (rs := [111]) (fs := []) (Fr.call9 (rs := [111]) (fs := []) Fr.rf hq_4 rfl rfl) eG_21 (Or.inl (by decide))), hS, lv_sub hl [0, 1] rfl⟩
  · have c_2 : (G.1 66 78).toInt = 40 := xI_eq rfl rfl c_2
    refine ic_0 hx hb dX12_act_9 ?_
    refine lv_istore_n (lv' := [(1, .int 0), (0, .ref (a 66))]) hx hb dX12_act_10 rfl hl (lt_b rfl) rfl (fun ls hl => ?_)
    have qc_29 : (0 : Int32).toInt = 0 := rfl
    refine loop_N (Inv := fun n H locs ls => ∃ (G_23 : GS) (x_27 : Int32), (n : Int) = 624 - x_27.toInt ∧ (0 ≤ x_27.toInt ∧ x_27.toInt ≤ 624) ∧ Rc (St_n_act_2) (0, G) (x_27, G_23) ∧ Wd D k A a G_23 H ∧ Bd G_23 ∧ Fr [111] [(66, 78), (66, 79)] G G_23 ∧ Fr [111] [] G G_23 ∧ va_S A s.heap H locs ∧ lv_has ls 2 [(1, .int x_27), (0, .ref (a 66))]) (fun n_26 H locs ls ih_25 hI => ?_) (624 - 0 : Int).toNat ⟨G, 0, (Int.toNat_of_nonneg (by omega)), ⟨by omega, by omega⟩, Rc.rf, hW, hB_G, hF, Fr.rf, hS, lv_sub hl [0, 1] rfl⟩
    obtain ⟨G_23, x_27, hn_31, f_30, hX_28, hW, hB_G_23, hF, hq_24, hS, hl⟩ := hI
    refine lv_iload_n hx hb dX12_act_11 rfl (lv_at hl 0 rfl) ?_
    refine lv_sipush (v := 624) hx hb dX12_act_12 (by decide) ?_
    refine lv_icmp_ge (tgt := 39) hx hb dX12_act_15 rfl (fun c_32 => ?_) (fun c_32 => ?_)
    · have c_32 : 624 ≤ x_27.toInt := xI_le rfl rfl c_32
      refine lv_aload_n hx hb dX12_act_39 rfl (lv_at hl 1 rfl) ?_
      refine lv_dup hx hb dX12_act_40 rfl ?_
      refine S_getI (v := (G.1 66 78)) (C := RX12) (T := TX12) (N := 89) hx hb hg iX12 hown hK hW kd_66 rfl 78 (lt_b rfl) (hg (Cond.fieldLink RX12 437 "SlabWalkModel" "acts" "I") m1392) (fun _ h9 => h9) rfl ((hq_24.i9 66 78 rfl rfl).trans (rfl)) dX12_act_41 ?_
      refine ic_1 hx hb dX12_act_44 ?_
      refine lv_isub hx hb dX12_act_45 ?_
      refine lv_topi (fun y_33 ey_33 => ?_)
      have ty_33 : y_33.toInt = (G.1 66 78).toInt - 1 := xI_sub rfl rfl ey_33 ((by first | (clear hn_31 f_30 c_32; omega) | omega)) ((by first | (clear hn_31 f_30 c_32; omega) | omega))
      refine S_putI (ty := .int) (C := RX12) (T := TX12) (N := 89) hx hb hg iX12 tyX12 tyX12_ok nmX12 hown hK hW hS kd_66 rfl 78 (lt_b rfl) (hg (Cond.fieldLink RX12 437 "SlabWalkModel" "acts" "I") m1392) (fun _ h9 => h9) rfl (by decide +kernel) rfl rfl rfl dX12_act_46 (fun G_34 H locs eG_34 hW hS => ?_)
      have hB_G_34 : Bd G_34 := hB_G_23.put (V := y_33.toInt) (lo := 0) (hi := 40) eG_34 rfl rfl rfl ((by first | (clear hn_31 f_30 c_32; omega) | omega)) ((by first | (clear hn_31 f_30 c_32; omega) | omega)) (hB_G_23.2.put eG_34 rfl)
      have hF := hF.put eG_34 (Or.inr (by decide))
      refine ic_0 hx hb dX12_act_49 ?_
      refine lv_istore_n (lv' := [(1, .int 0), (0, .ref (a 66))]) hx hb dX12_act_50 rfl hl (lt_b rfl) rfl (fun ls hl => ?_)
      have qc_41 : (0 : Int32).toInt = 0 := rfl
      refine loop_N (Inv := fun n H locs ls => ∃ (G_35 : GS) (x_39 : Int32), (n : Int) = 10 - x_39.toInt ∧ (0 ≤ x_39.toInt ∧ x_39.toInt ≤ 10) ∧ Rc (St_n_act_3 y_33) (0, G_34) (x_39, G_35) ∧ Wd D k A a G_35 H ∧ Bd G_35 ∧ Fr [111] [(66, 78), (66, 79)] G G_35 ∧ Fr [111] [] G_34 G_35 ∧ va_S A s.heap H locs ∧ lv_has ls 2 [(1, .int x_39), (0, .ref (a 66))]) (fun n_38 H locs ls ih_37 hI => ?_) (10 - 0 : Int).toNat ⟨G_34, 0, (Int.toNat_of_nonneg ((by first | (clear b_1 c_2 hn_31 f_30 c_32 ty_33; omega) | omega))), ⟨(by first | (clear b_1 c_2 hn_31 f_30 c_32 ty_33; omega) | omega), (by first | (clear b_1 c_2 hn_31 f_30 c_32 ty_33; omega) | omega)⟩, Rc.rf, hW, hB_G_34, hF, Fr.rf, hS, lv_sub hl [0, 1] rfl⟩
      obtain ⟨G_35, x_39, hn_43, f_42, hX_40, hW, hB_G_35, hF, hq_36, hS, hl⟩ := hI
      refine lv_iload_n hx hb dX12_act_51 rfl (lv_at hl 0 rfl) ?_
      refine lv_bipush (v := 10) hx hb dX12_act_52 (by decide) ?_
      refine lv_icmp_ge (tgt := 83) hx hb dX12_act_54 rfl (fun c_44 => ?_) (fun c_44 => ?_)
      · have c_44 : 10 ≤ x_39.toInt := xI_le rfl rfl c_44
        refine lv_aload_n hx hb dX12_act_83 rfl (lv_at hl 1 rfl) ?_
        refine lv_dup hx hb dX12_act_84 rfl ?_
        refine S_getI (v := y_33) (C := RX12) (T := TX12) (N := 89) hx hb hg iX12 hown hK hW kd_66 rfl 78 (lt_b rfl) (hg (Cond.fieldLink RX12 437 "SlabWalkModel" "acts" "I") m1392) (fun _ h9 => h9) rfl ((hq_36.i9 66 78 rfl rfl).trans (gp_eq eG_34)) dX12_act_85 ?_
        refine ic_1 hx hb dX12_act_88 ?_
        refine lv_iadd hx hb dX12_act_89 ?_
        refine lv_topi (fun y_45 ey_45 => ?_)
        have ty_45 : y_45.toInt = y_33.toInt + 1 := xI_add rfl rfl ey_45 ((by first | (clear hn_31 f_30 c_32 hn_43 f_42 c_44; omega) | omega)) ((by first | (clear hn_31 f_30 c_32 hn_43 f_42 c_44; omega) | omega))
        refine S_putI (ty := .int) (C := RX12) (T := TX12) (N := 89) hx hb hg iX12 tyX12 tyX12_ok nmX12 hown hK hW hS kd_66 rfl 78 (lt_b rfl) (hg (Cond.fieldLink RX12 437 "SlabWalkModel" "acts" "I") m1392) (fun _ h9 => h9) rfl (by decide +kernel) rfl rfl rfl dX12_act_90 (fun G_46 H locs eG_46 hW hS => ?_)
        have hB_G_46 : Bd G_46 := hB_G_35.put (V := y_45.toInt) (lo := 0) (hi := 40) eG_46 rfl rfl rfl ((by first | (clear hn_31 f_30 c_32 hn_43 f_42 c_44; omega) | omega)) ((by first | (clear hn_31 f_30 c_32 hn_43 f_42 c_44; omega) | omega)) (hB_G_35.2.put eG_46 rfl)
        have hF := hF.put eG_46 (Or.inr (by decide))
        refine lv_aload_n hx hb dX12_act_93 rfl (lv_at hl 1 rfl) ?_
        refine ic_0 hx hb dX12_act_94 ?_
        refine S_putI (ty := .int) (C := RX12) (T := TX12) (N := 89) hx hb hg iX12 tyX12 tyX12_ok nmX12 hown hK hW hS kd_66 rfl 79 (lt_b rfl) (hg (Cond.fieldLink RX12 440 "SlabWalkModel" "undone" "I") m1393) (fun _ h9 => h9) rfl (by decide +kernel) rfl rfl rfl dX12_act_95 (fun G_47 H locs eG_47 hW hS => ?_)
        have hB_G_47 : Bd G_47 := hB_G_46.put (V := 0) (lo := 0) (hi := 40) eG_47 rfl rfl rfl (by decide) (by decide) (hB_G_46.2.put eG_47 rfl)
        have hF := hF.put eG_47 (Or.inr (by decide))
        have g_48 : (G_47.1 66 78).toInt = y_45.toInt := (congrArg Int32.toInt (show G_47.1 66 78 = y_45 from ((gp_ne eG_47 (by decide)).trans (gp_eq eG_46))))
        have g_49 : (G_47.1 66 79).toInt = 0 := (congrArg Int32.toInt (show G_47.1 66 79 = 0 from (gp_eq eG_47))).trans rfl
        exact W.vret hx hb hr (fun t ht _ => ⟨⟨G_47, rfl, (Q_act_mk ⟨hB_G_47, hF, ((by first | exact ⟨((by first | (clear hn_31 f_30 c_32 hn_43 f_42 c_44; omega) | omega)), ((by first | (clear hn_31 f_30 c_32 hn_43 f_42 c_44 g_49; omega) | omega))⟩ | omega)), (Or.inl ⟨c_2, ⟨x_27, G_23, hX_28, f_30, hB_G_23, hq_24, ⟨c_32, ⟨y_33, ty_33, ⟨G_34, hB_G_34, (Fr.put (rs := []) (fs := [(66, 78)]) Fr.rf eG_34 (Or.inr (by decide))), (gp_eq eG_34), ⟨x_39, G_35, hX_40, f_42, hB_G_35, hq_36, ⟨c_44, ⟨y_45, ty_45, ⟨(Fr.put (rs := []) (fs := [(66, 78), (66, 79)]) (Fr.put (rs := []) (fs := [(66, 78), (66, 79)]) Fr.rf eG_46 (Or.inr (by decide))) eG_47 (Or.inr (by decide))), ((gp_ne eG_47 (by decide)).trans (gp_eq eG_46)), (gp_eq eG_47)⟩⟩⟩⟩⟩⟩⟩⟩⟩)⟩), wd_t ht hW⟩, hS.F ht⟩) hS.2.2 dX12_act_98
      · have c_44 : x_39.toInt < 10 := xI_nle rfl rfl c_44
        refine lv_aload_n hx hb dX12_act_57 rfl (lv_at hl 1 rfl) ?_
        refine S_getR (n := 111) (C := RX12) (T := TX12) (N := 89) hx hb hg iX12 hown hK hW kd_66 rfl 77 (lt_b rfl) (hg (Cond.fieldLink RX12 154 "SlabWalkModel" "were" "[I") m1391) (fun _ h9 => h9) rfl dX12_act_58 ?_
        refine lv_bipush (v := 16) hx hb dX12_act_61 (by decide) ?_
        refine lv_aload_n hx hb dX12_act_63 rfl (lv_at hl 1 rfl) ?_
        refine S_getI (v := y_33) (C := RX12) (T := TX12) (N := 89) hx hb hg iX12 hown hK hW kd_66 rfl 78 (lt_b rfl) (hg (Cond.fieldLink RX12 437 "SlabWalkModel" "acts" "I") m1392) (fun _ h9 => h9) rfl ((hq_36.i9 66 78 rfl rfl).trans (gp_eq eG_34)) dX12_act_64 ?_
        refine lv_imul hx hb dX12_act_67 ?_
        refine lv_topi (fun y_50 ey_50 => ?_)
        have ty_50 : y_50.toInt = 16 * y_33.toInt := xI_mul rfl rfl ey_50 ((by first | (clear hn_31 f_30 c_32 hn_43 f_42 c_44; omega) | omega)) ((by first | (clear hn_31 f_30 c_32 hn_43 f_42 c_44; omega) | omega))
        refine lv_iload_n hx hb dX12_act_68 rfl (lv_at hl 0 rfl) ?_
        refine lv_iadd hx hb dX12_act_69 ?_
        refine lv_topi (fun y_51 ey_51 => ?_)
        have ty_51 : y_51.toInt = y_50.toInt + x_39.toInt := xI_add rfl rfl ey_51 ((by first | (clear hn_31 f_30 c_32 hn_43; omega) | omega)) ((by first | (clear hn_31 f_30 c_32 hn_43; omega) | omega))
        refine lv_aload_n hx hb dX12_act_70 rfl (lv_at hl 1 rfl) ?_
        refine S_getR (n := 110) (C := RX12) (T := TX12) (N := 89) hx hb hg iX12 hown hK hW kd_66 rfl 76 (lt_b rfl) (hg (Cond.fieldLink RX12 151 "SlabWalkModel" "now" "[I") m1390) (fun _ h9 => h9) rfl dX12_act_71 ?_
        refine lv_iload_n hx hb dX12_act_74 rfl (lv_at hl 0 rfl) ?_
        refine S_iald hx hb hK hW kd_110 (vin ((by first | (clear hn_31 f_30 c_32 hn_43; omega) | omega)) ((by first | (clear hn_31 f_30 c_32 hn_43; omega) | omega))) dX12_act_75 (fun y_52 ey_52 => ?_)
        have ty_52 := hB_G_35.now 110 (by decide) ey_52 (by omega)
        refine S_iast hx hb hK hW hS kd_111 (vin ((by first | (clear hn_31 f_30 c_32 hn_43; omega) | omega)) ((by first | (clear hn_31 f_30 c_32 hn_43; omega) | omega))) dX12_act_76 (fun G_53 H locs eG_53 hW hS => ?_)
        have hB_G_53 : Bd G_53 := hB_G_35.putNow 111 (by decide) eG_53 (by omega) (by omega) (by omega) rfl
        have hF := hF.put eG_53 (Or.inl (by decide))
        obtain ⟨y_54, ey_54⟩ : ∃ q, q = x_39 + 1 := ⟨_, rfl⟩
        have ty_54 : y_54.toInt = x_39.toInt + 1 := xI_add rfl rfl ey_54 ((by first | (clear hn_31 f_30 c_32 hn_43; omega) | omega)) ((by first | (clear hn_31 f_30 c_32 hn_43; omega) | omega))
        refine lv_iinc (v := y_54) (lv' := [(1, .int y_54), (0, .ref (a 66))]) hx hb dX12_act_77 hl (k := 0) rfl (by rw [ey_54]; rfl) (lt_b rfl) rfl (fun ls hl => ?_)
        refine lv_goto (tgt := 51) hx hb dX12_act_80 rfl ?_
        exact ih_37 (10 - y_54.toInt : Int).toNat ((by first | (clear hn_31 f_30 c_32; omega) | omega)) _ _ _ ⟨G_53, y_54, (Int.toNat_of_nonneg ((by first | (clear hn_31 f_30 c_32 hn_43; omega) | omega))), ⟨(by first | (clear hn_31 f_30 c_32 hn_43; omega) | omega), (by first | (clear hn_31 f_30 c_32 hn_43; omega) | omega)⟩, (hX_40.st (St_n_act_3_mk ⟨x_39, G_35, y_54, G_53, rfl, rfl, f_42, hB_G_35, ⟨c_44, ⟨y_50, ty_50, ⟨y_51, ty_51, ⟨y_52, ey_52, ⟨y_54, ty_54, ⟨rfl, (Fr.put (rs := [111]) (fs := []) Fr.rf eG_53 (Or.inl (by decide))), rw_ast eG_53⟩⟩⟩⟩⟩⟩⟩)), hW, hB_G_53, hF, (Fr.put (rs := [111]) (fs := []) (Fr.call9 (rs := [111]) (fs := []) Fr.rf hq_36 rfl rfl) eG_53 (Or.inl (by decide))), hS, lv_sub hl [0, 1] rfl⟩
    · have c_32 : x_27.toInt < 624 := xI_nle rfl rfl c_32
      refine lv_aload_n hx hb dX12_act_18 rfl (lv_at hl 1 rfl) ?_
      refine S_getR (n := 111) (C := RX12) (T := TX12) (N := 89) hx hb hg iX12 hown hK hW kd_66 rfl 77 (lt_b rfl) (hg (Cond.fieldLink RX12 154 "SlabWalkModel" "were" "[I") m1391) (fun _ h9 => h9) rfl dX12_act_19 ?_
      refine lv_iload_n hx hb dX12_act_22 rfl (lv_at hl 0 rfl) ?_
      refine lv_aload_n hx hb dX12_act_23 rfl (lv_at hl 1 rfl) ?_
      refine S_getR (n := 111) (C := RX12) (T := TX12) (N := 89) hx hb hg iX12 hown hK hW kd_66 rfl 77 (lt_b rfl) (hg (Cond.fieldLink RX12 154 "SlabWalkModel" "were" "[I") m1391) (fun _ h9 => h9) rfl dX12_act_24 ?_
      refine lv_bipush (v := 16) hx hb dX12_act_27 (by decide) ?_
      refine lv_iload_n hx hb dX12_act_29 rfl (lv_at hl 0 rfl) ?_
      refine lv_iadd hx hb dX12_act_30 ?_
      refine lv_topi (fun y_55 ey_55 => ?_)
      have ty_55 : y_55.toInt = 16 + x_27.toInt := xI_add rfl rfl ey_55 ((by first | (clear b_1 c_2 hn_31; omega) | omega)) ((by first | (clear b_1 c_2 hn_31; omega) | omega))
      refine S_iald hx hb hK hW kd_111 (vin ((by first | (clear b_1 c_2 hn_31; omega) | omega)) ((by first | (clear b_1 c_2 hn_31; omega) | omega))) dX12_act_31 (fun y_56 ey_56 => ?_)
      have ty_56 := hB_G_23.now 111 (by decide) ey_56 (by omega)
      refine S_iast hx hb hK hW hS kd_111 (vin ((by first | (clear b_1 c_2 hn_31; omega) | omega)) ((by first | (clear b_1 c_2 hn_31; omega) | omega))) dX12_act_32 (fun G_57 H locs eG_57 hW hS => ?_)
      have hB_G_57 : Bd G_57 := hB_G_23.putNow 111 (by decide) eG_57 (by omega) (by omega) (by omega) rfl
      have hF := hF.put eG_57 (Or.inl (by decide))
      obtain ⟨y_58, ey_58⟩ : ∃ q, q = x_27 + 1 := ⟨_, rfl⟩
      have ty_58 : y_58.toInt = x_27.toInt + 1 := xI_add rfl rfl ey_58 ((by first | (clear b_1 c_2 hn_31; omega) | omega)) ((by first | (clear b_1 c_2 hn_31; omega) | omega))
      refine lv_iinc (v := y_58) (lv' := [(1, .int y_58), (0, .ref (a 66))]) hx hb dX12_act_33 hl (k := 0) rfl (by rw [ey_58]; rfl) (lt_b rfl) rfl (fun ls hl => ?_)
      refine lv_goto (tgt := 11) hx hb dX12_act_36 rfl ?_
      exact ih_25 (624 - y_58.toInt : Int).toNat (by omega) _ _ _ ⟨G_57, y_58, (Int.toNat_of_nonneg ((by first | (clear b_1 c_2 hn_31; omega) | omega))), ⟨(by first | (clear b_1 c_2 hn_31; omega) | omega), (by first | (clear b_1 c_2 hn_31; omega) | omega)⟩, (hX_28.st (St_n_act_2_mk ⟨x_27, G_23, y_58, G_57, rfl, rfl, f_30, hB_G_23, ⟨c_32, ⟨y_55, ty_55, ⟨y_56, ey_56, ⟨y_58, ty_58, ⟨rfl, (Fr.put (rs := [111]) (fs := []) Fr.rf eG_57 (Or.inl (by decide))), rw_ast eG_57⟩⟩⟩⟩⟩⟩)), hW, hB_G_57, hF, (Fr.put (rs := [111]) (fs := []) (Fr.call9 (rs := [111]) (fs := []) Fr.rf hq_24 rfl rfl) eG_57 (Or.inl (by decide))), hS, lv_sub hl [0, 1] rfl⟩

set_option maxHeartbeats 4000000 in
set_option maxRecDepth 100000 in
theorem n_exchange (l : Launch) (D : va_G) (k : KT) (A : Nat → Prop) (a : Nat → Nat) (z : SK) (G : GS) (p0 : Int32) (ha_p0 : 0 ≤ p0.toInt ∧ p0.toInt ≤ 624) (hx16 : p0.toInt % 16 = 0) : Met l yX12_exchange (WS yX12_exchange cX12_exchange 4 none) ({ frames := 0, cells := 0, slots := 0, locals := 0 }) (va_Pc [.ref (a 66), .int p0] (cW D k A a z G)) (va_Qv (fun (G1 : GS) => Q_exchange p0 G G1) (fun (G1 : GS) t => Wd D k A a G1 t.heap) A) 0 0 A := by
  refine Met.ofW (cc := cX12_exchange) (maxL := 4) (ret := none) (by decide) rfl ?_
  intro p e s m args below meth c s₁ B hml hv
  obtain ⟨rfl, hW, hB_G, hK, hZ⟩ := hv
  have hx := B.exec
  have hb := B.bytes
  have hr := B.returns
  have hts := atoms_spec (ws := WS yX12_exchange cX12_exchange 4 none) B.pre
  have hgd : ∀ w ∈ gd, w ∈ WS yX12_exchange cX12_exchange 4 none := fun w h => List.mem_cons_of_mem _ h
  have hg : ∀ w ∈ gd, w.before _ s = true := fun w h => hts w (hgd w h)
  have hown : s.vm.findClass RX12 = some m.cls := findClass_of_methodNamed B.named
  have hS : va_S A s.heap s.heap [] := va_S.rf
  have hF : Fr [110, 111] [] G G := Fr.rf
  have hl := lv_entry ([.ref (a 66), .int p0]) (n := 4) (Nat.le_of_ble_eq_true rfl)
  rw [lg_entry_eq]
  generalize (lg_sl ([.ref (a 66), .int p0]) ++ List.replicate (4 - (lg_sl ([.ref (a 66), .int p0])).length) Slot.unset).toArray = ls at hl ⊢
  have hl : lv_has ls 4 [(0, .ref (a 66)), (1, .int p0)] := hl
  refine ic_0 hx hb dX12_exchange_0 ?_
  refine lv_istore_n (lv' := [(2, .int 0), (0, .ref (a 66)), (1, .int p0)]) hx hb dX12_exchange_1 rfl hl (lt_b rfl) rfl (fun ls hl => ?_)
  have qc_7 : (0 : Int32).toInt = 0 := rfl
  refine loop_N (Inv := fun n H locs ls => ∃ (G_1 : GS) (x_5 : Int32), (n : Int) = 10 - x_5.toInt ∧ (0 ≤ x_5.toInt ∧ x_5.toInt ≤ 10) ∧ Rc (St_n_exchange_1 p0) (0, G) (x_5, G_1) ∧ Wd D k A a G_1 H ∧ Bd G_1 ∧ Fr [110, 111] [] G G_1 ∧ Fr [110, 111] [] G G_1 ∧ va_S A s.heap H locs ∧ lv_has ls 4 [(2, .int x_5), (0, .ref (a 66)), (1, .int p0)]) (fun n_4 H locs ls ih_3 hI => ?_) (10 - 0 : Int).toNat ⟨G, 0, (Int.toNat_of_nonneg (by omega)), ⟨by omega, by omega⟩, Rc.rf, hW, hB_G, hF, Fr.rf, hS, lv_sub hl [0, 1, 2] rfl⟩
  obtain ⟨G_1, x_5, hn_9, f_8, hX_6, hW, hB_G_1, hF, hq_2, hS, hl⟩ := hI
  refine lv_iload_n hx hb dX12_exchange_2 rfl (lv_at hl 0 rfl) ?_
  refine lv_bipush (v := 10) hx hb dX12_exchange_3 (by decide) ?_
  refine lv_icmp_ge (tgt := 44) hx hb dX12_exchange_5 rfl (fun c_10 => ?_) (fun c_10 => ?_)
  · have c_10 : 10 ≤ x_5.toInt := xI_le rfl rfl c_10
    exact W.vret hx hb hr (fun t ht _ => ⟨⟨G_1, rfl, (Q_exchange_mk ⟨hB_G_1, hF, ⟨x_5, G_1, hX_6, f_8, hB_G_1, hq_2, ⟨c_10, rfl⟩⟩⟩), wd_t ht hW⟩, hS.F ht⟩) hS.2.2 dX12_exchange_44
  · have c_10 : x_5.toInt < 10 := xI_nle rfl rfl c_10
    refine lv_aload_n hx hb dX12_exchange_8 rfl (lv_at hl 1 rfl) ?_
    refine S_getR (n := 111) (C := RX12) (T := TX12) (N := 89) hx hb hg iX12 hown hK hW kd_66 rfl 77 (lt_b rfl) (hg (Cond.fieldLink RX12 154 "SlabWalkModel" "were" "[I") m1391) (fun _ h9 => h9) rfl dX12_exchange_9 ?_
    refine lv_iload_n hx hb dX12_exchange_12 rfl (lv_at hl 2 rfl) ?_
    refine lv_iload_n hx hb dX12_exchange_13 rfl (lv_at hl 0 rfl) ?_
    refine lv_iadd hx hb dX12_exchange_14 ?_
    refine lv_topi (fun y_11 ey_11 => ?_)
    have ty_11 : y_11.toInt = p0.toInt + x_5.toInt := xI_add rfl rfl ey_11 (by omega) (by omega)
    refine S_iald hx hb hK hW kd_111 (vin (by omega) (by omega)) dX12_exchange_15 (fun y_12 ey_12 => ?_)
    have ty_12 := hB_G_1.now 111 (by decide) ey_12 (by omega)
    refine lv_istore_n (lv' := [(3, .int y_12), (2, .int x_5), (0, .ref (a 66)), (1, .int p0)]) hx hb dX12_exchange_16 rfl hl (lt_b rfl) rfl (fun ls hl => ?_)
    refine lv_aload_n hx hb dX12_exchange_17 rfl (lv_at hl 2 rfl) ?_
    refine S_getR (n := 111) (C := RX12) (T := TX12) (N := 89) hx hb hg iX12 hown hK hW kd_66 rfl 77 (lt_b rfl) (hg (Cond.fieldLink RX12 154 "SlabWalkModel" "were" "[I") m1391) (fun _ h9 => h9) rfl dX12_exchange_18 ?_
    refine lv_iload_n hx hb dX12_exchange_21 rfl (lv_at hl 3 rfl) ?_
    refine lv_iload_n hx hb dX12_exchange_22 rfl (lv_at hl 1 rfl) ?_
    refine lv_iadd hx hb dX12_exchange_23 ?_
    refine lv_topi (fun y_13 ey_13 => ?_)
    have ty_13 : y_13.toInt = p0.toInt + x_5.toInt := xI_add rfl rfl ey_13 (by omega) (by omega)
    refine lv_aload_n hx hb dX12_exchange_24 rfl (lv_at hl 2 rfl) ?_
    refine S_getR (n := 110) (C := RX12) (T := TX12) (N := 89) hx hb hg iX12 hown hK hW kd_66 rfl 76 (lt_b rfl) (hg (Cond.fieldLink RX12 151 "SlabWalkModel" "now" "[I") m1390) (fun _ h9 => h9) rfl dX12_exchange_25 ?_
    refine lv_iload_n hx hb dX12_exchange_28 rfl (lv_at hl 1 rfl) ?_
    refine S_iald hx hb hK hW kd_110 (vin (by omega) (by omega)) dX12_exchange_29 (fun y_14 ey_14 => ?_)
    have ty_14 := hB_G_1.now 110 (by decide) ey_14 (by omega)
    refine S_iast hx hb hK hW hS kd_111 (vin (by omega) (by omega)) dX12_exchange_30 (fun G_15 H locs eG_15 hW hS => ?_)
    have hB_G_15 : Bd G_15 := hB_G_1.putNow 111 (by decide) eG_15 (by omega) (by omega) (by omega) rfl
    have hF := hF.put eG_15 (Or.inl (by decide))
    refine lv_aload_n hx hb dX12_exchange_31 rfl (lv_at hl 2 rfl) ?_
    refine S_getR (n := 110) (C := RX12) (T := TX12) (N := 89) hx hb hg iX12 hown hK hW kd_66 rfl 76 (lt_b rfl) (hg (Cond.fieldLink RX12 151 "SlabWalkModel" "now" "[I") m1390) (fun _ h9 => h9) rfl dX12_exchange_32 ?_
    refine lv_iload_n hx hb dX12_exchange_35 rfl (lv_at hl 1 rfl) ?_
    refine lv_iload_n hx hb dX12_exchange_36 rfl (lv_at hl 0 rfl) ?_
    refine S_iast hx hb hK hW hS kd_110 (vin (by omega) (by omega)) dX12_exchange_37 (fun G_16 H locs eG_16 hW hS => ?_)
    have hB_G_16 : Bd G_16 := hB_G_15.putNow 110 (by decide) eG_16 (by omega) (by omega) (by omega) rfl
    have hF := hF.put eG_16 (Or.inl (by decide))
    obtain ⟨y_17, ey_17⟩ : ∃ q, q = x_5 + 1 := ⟨_, rfl⟩
    have ty_17 : y_17.toInt = x_5.toInt + 1 := xI_add rfl rfl ey_17 (by omega) (by omega)
    refine lv_iinc (v := y_17) (lv' := [(2, .int y_17), (3, .int y_12), (0, .ref (a 66)), (1, .int p0)]) hx hb dX12_exchange_38 hl (k := 1) rfl (by rw [ey_17]; rfl) (lt_b rfl) rfl (fun ls hl => ?_)
    refine lv_goto (tgt := 2) hx hb dX12_exchange_41 rfl ?_
    exact ih_3 (10 - y_17.toInt : Int).toNat (by omega) _ _ _ ⟨G_16, y_17, (Int.toNat_of_nonneg (by omega)), ⟨by omega, by omega⟩, (hX_6.st (St_n_exchange_1_mk ⟨x_5, G_1, y_17, G_16, rfl, rfl, f_8, hB_G_1, ⟨c_10, ⟨y_11, ty_11, ⟨y_12, ey_12, ⟨y_13, ty_13, ⟨y_14, ey_14, ⟨y_17, ty_17, ⟨rfl, (Fr.put (rs := [110, 111]) (fs := []) (Fr.put (rs := [110, 111]) (fs := []) Fr.rf eG_15 (Or.inl (by decide))) eG_16 (Or.inl (by decide))), (rw_ast eG_16).trans (congrArg (fun q => upd q (x_5.toNatClampNeg) y_12) (rw_put eG_15 (by decide))), (rw_put eG_16 (by decide)).trans (rw_ast eG_15)⟩⟩⟩⟩⟩⟩⟩⟩)), hW, hB_G_16, hF, (Fr.put (rs := [110, 111]) (fs := []) (Fr.put (rs := [110, 111]) (fs := []) (Fr.call9 (rs := [110, 111]) (fs := []) Fr.rf hq_2 rfl rfl) eG_15 (Or.inl (by decide))) eG_16 (Or.inl (by decide))), hS, lv_sub hl [0, 2, 3] rfl⟩

set_option maxHeartbeats 4000000 in
set_option maxRecDepth 100000 in
theorem n_undo (l : Launch) (D : va_G) (k : KT) (A : Nat → Prop) (a : Nat → Nat) (z : SK) (G : GS)  (hac : (G.1 66 78).toInt + (G.1 66 79).toInt ≤ 40) : Met l yX12_undo (WS yX12_undo cX12_undo 1 (some .boolean)) ({ frames := 1, cells := 0, slots := 0, locals := 23 }) (va_Pc [.ref (a 66)] (cW D k A a z G)) (va_Qi (fun (r : Int32) (G1 : GS) => Q_undo G r G1) (fun (G1 : GS) t => Wd D k A a G1 t.heap) A) 0 0 A := by
  refine Met.ofW (cc := cX12_undo) (maxL := 1) (ret := (some .boolean)) (by decide) rfl ?_
  intro p e s m args below meth c s₁ B hml hv
  obtain ⟨rfl, hW, hB_G, hK, hZ⟩ := hv
  have hx := B.exec
  have hb := B.bytes
  have hr := B.returns
  have hts := atoms_spec (ws := WS yX12_undo cX12_undo 1 (some .boolean)) B.pre
  have hgd : ∀ w ∈ gd, w ∈ WS yX12_undo cX12_undo 1 (some .boolean) := fun w h => List.mem_cons_of_mem _ h
  have hg : ∀ w ∈ gd, w.before _ s = true := fun w h => hts w (hgd w h)
  have hown : s.vm.findClass RX12 = some m.cls := findClass_of_methodNamed B.named
  have hS : va_S A s.heap s.heap [] := va_S.rf
  have hF : Fr [110, 111] [(66, 78), (66, 79)] G G := Fr.rf
  have hl := lv_entry ([.ref (a 66)]) (n := 1) (Nat.le_of_ble_eq_true rfl)
  rw [lg_entry_eq]
  generalize (lg_sl ([.ref (a 66)]) ++ List.replicate (1 - (lg_sl ([.ref (a 66)])).length) Slot.unset).toArray = ls at hl ⊢
  have hl : lv_has ls 1 [(0, .ref (a 66))] := hl
  refine lv_aload_n hx hb dX12_undo_0 rfl (lv_at hl 0 rfl) ?_
  have b_1 : 0 ≤ (G.1 66 78).toInt ∧ (G.1 66 78).toInt ≤ 40 := bd_66_78 hB_G
  refine S_getI (v := (G.1 66 78)) (C := RX12) (T := TX12) (N := 89) hx hb hg iX12 hown hK hW kd_66 rfl 78 (lt_b rfl) (hg (Cond.fieldLink RX12 437 "SlabWalkModel" "acts" "I") m1392) (fun _ h9 => h9) rfl rfl dX12_undo_1 ?_
  refine lv_if_ne (tgt := 9) hx hb dX12_undo_4 rfl (fun c_2 => ?_) (fun c_2 => ?_)
  · have c_2 : (G.1 66 78).toInt ≠ 0 := xI_ne rfl rfl c_2
    refine lv_aload_n hx hb dX12_undo_9 rfl (lv_at hl 0 rfl) ?_
    refine lv_dup hx hb dX12_undo_10 rfl ?_
    refine S_getI (v := (G.1 66 78)) (C := RX12) (T := TX12) (N := 89) hx hb hg iX12 hown hK hW kd_66 rfl 78 (lt_b rfl) (hg (Cond.fieldLink RX12 437 "SlabWalkModel" "acts" "I") m1392) (fun _ h9 => h9) rfl rfl dX12_undo_11 ?_
    refine ic_1 hx hb dX12_undo_14 ?_
    refine lv_isub hx hb dX12_undo_15 ?_
    refine lv_topi (fun y_3 ey_3 => ?_)
    have ty_3 : y_3.toInt = (G.1 66 78).toInt - 1 := xI_sub rfl rfl ey_3 (by omega) (by omega)
    refine S_putI (ty := .int) (C := RX12) (T := TX12) (N := 89) hx hb hg iX12 tyX12 tyX12_ok nmX12 hown hK hW hS kd_66 rfl 78 (lt_b rfl) (hg (Cond.fieldLink RX12 437 "SlabWalkModel" "acts" "I") m1392) (fun _ h9 => h9) rfl (by decide +kernel) rfl rfl rfl dX12_undo_16 (fun G_4 H locs eG_4 hW hS => ?_)
    have hB_G_4 : Bd G_4 := hB_G.put (V := y_3.toInt) (lo := 0) (hi := 40) eG_4 rfl rfl rfl (by omega) (by omega) (hB_G.2.put eG_4 rfl)
    have hF := hF.put eG_4 (Or.inr (by decide))
    refine lv_aload_n hx hb dX12_undo_19 rfl (lv_at hl 0 rfl) ?_
    refine lv_dup hx hb dX12_undo_20 rfl ?_
    have b_5 : 0 ≤ (G.1 66 79).toInt ∧ (G.1 66 79).toInt ≤ 40 := bd_66_79 hB_G
    refine S_getI (v := (G.1 66 79)) (C := RX12) (T := TX12) (N := 89) hx hb hg iX12 hown hK hW kd_66 rfl 79 (lt_b rfl) (hg (Cond.fieldLink RX12 440 "SlabWalkModel" "undone" "I") m1393) (fun _ h9 => h9) rfl (gp_ne eG_4 (by decide)) dX12_undo_21 ?_
    refine ic_1 hx hb dX12_undo_24 ?_
    refine lv_iadd hx hb dX12_undo_25 ?_
    refine lv_topi (fun y_6 ey_6 => ?_)
    have ty_6 : y_6.toInt = (G.1 66 79).toInt + 1 := xI_add rfl rfl ey_6 (by omega) (by omega)
    refine S_putI (ty := .int) (C := RX12) (T := TX12) (N := 89) hx hb hg iX12 tyX12 tyX12_ok nmX12 hown hK hW hS kd_66 rfl 79 (lt_b rfl) (hg (Cond.fieldLink RX12 440 "SlabWalkModel" "undone" "I") m1393) (fun _ h9 => h9) rfl (by decide +kernel) rfl rfl rfl dX12_undo_26 (fun G_7 H locs eG_7 hW hS => ?_)
    have hB_G_7 : Bd G_7 := hB_G_4.put (V := y_6.toInt) (lo := 0) (hi := 40) eG_7 rfl rfl rfl (by omega) (by omega) (hB_G_4.2.put eG_7 rfl)
    have hF := hF.put eG_7 (Or.inr (by decide))
    refine lv_aload_n hx hb dX12_undo_29 rfl (lv_at hl 0 rfl) ?_
    refine lv_bipush (v := 16) hx hb dX12_undo_30 (by decide) ?_
    refine lv_aload_n hx hb dX12_undo_32 rfl (lv_at hl 0 rfl) ?_
    refine S_getI (v := y_3) (C := RX12) (T := TX12) (N := 89) hx hb hg iX12 hown hK hW kd_66 rfl 78 (lt_b rfl) (hg (Cond.fieldLink RX12 437 "SlabWalkModel" "acts" "I") m1392) (fun _ h9 => h9) rfl ((gp_ne eG_7 (by decide)).trans (gp_eq eG_4)) dX12_undo_33 ?_
    refine lv_imul hx hb dX12_undo_36 ?_
    refine lv_topi (fun y_8 ey_8 => ?_)
    have ty_8 : y_8.toInt = 16 * y_3.toInt := xI_mul rfl rfl ey_8 (by omega) (by omega)
    refine S_callv (va_runV (As := [.int y_8]) (rest := []) ⟨hx, hb, hml, hown, hts⟩ (n_exchange l D k A a z G_7 y_8 ⟨by omega, by omega⟩ (by omega)) (cwV 1 hts (gd_V hgd m2023 m2025 m114 m131 m2026) rfl rfl rfl hd_X12_exchange ⟨Nat.le_of_ble_eq_true rfl, Nat.le_of_ble_eq_true rfl⟩) (pre_W hW hB_G_7 hK hZ hS kd_66 rfl) rfl rfl hl.1 rfl (lv_room (Nat.le_of_ble_eq_true rfl)) dX12_undo_37 ⟨Nat.le_of_ble_eq_true rfl, Nat.le_of_ble_eq_true rfl⟩) hS (fun G_10 H locs hpo hW hS => ?_)
    have hX_13 : Q_exchange y_8 G_7 G_10 := hpo
    obtain ⟨hB_G_10, hq_11, -⟩ := hpo
    have hF := hF.call9 hq_11 rfl rfl
    refine ic_1 hx hb dX12_undo_40 ?_
    have g_14 : (G_10.1 66 78).toInt = y_3.toInt := (congrArg Int32.toInt (show G_10.1 66 78 = y_3 from ((hq_11.i9 66 78 rfl rfl).trans ((gp_ne eG_7 (by decide)).trans (gp_eq eG_4)))))
    have g_15 : (G_10.1 66 79).toInt = y_6.toInt := (congrArg Int32.toInt (show G_10.1 66 79 = y_6 from ((hq_11.i9 66 79 rfl rfl).trans (gp_eq eG_7))))
    exact W.zret (v := 1) hx hb hr (by decide) (fun t ht _ => ⟨⟨1, G_10, rfl, (Q_undo_mk ⟨hB_G_10, hF, ⟨by decide, by decide⟩, (by have hq : (1 : Int32).toInt = 1 := rfl; (try dsimp only); omega), (Or.inr ⟨c_2, ⟨y_3, ty_3, ⟨y_6, ty_6, ⟨y_8, ty_8, ⟨G_7, hB_G_7, (Fr.put (rs := []) (fs := [(66, 78), (66, 79)]) (Fr.put (rs := []) (fs := [(66, 78), (66, 79)]) Fr.rf eG_4 (Or.inr (by decide))) eG_7 (Or.inr (by decide))), ((gp_ne eG_7 (by decide)).trans (gp_eq eG_4)), (gp_eq eG_7), ⟨G_10, hX_13, ⟨rfl, rfl⟩⟩⟩⟩⟩⟩⟩)⟩), wd_t ht hW⟩, hS.F ht⟩) hS.2.2 dX12_undo_41
  · have c_2 : (G.1 66 78).toInt = 0 := xI_eq rfl rfl c_2
    refine ic_0 hx hb dX12_undo_7 ?_
    have b_16 : 0 ≤ (G.1 66 79).toInt ∧ (G.1 66 79).toInt ≤ 40 := bd_66_79 hB_G
    exact W.zret (v := 0) hx hb hr (by decide) (fun t ht _ => ⟨⟨0, G, rfl, (Q_undo_mk ⟨hB_G, hF, ⟨by decide, by decide⟩, (by have hq : (0 : Int32).toInt = 0 := rfl; (try dsimp only); omega), (Or.inl ⟨c_2, ⟨rfl, rfl⟩⟩)⟩), wd_t ht hW⟩, hS.F ht⟩) hS.2.2 dX12_undo_8

set_option maxHeartbeats 4000000 in
set_option maxRecDepth 100000 in
theorem n_redo (l : Launch) (D : va_G) (k : KT) (A : Nat → Prop) (a : Nat → Nat) (z : SK) (G : GS)  (hac : (G.1 66 78).toInt + (G.1 66 79).toInt ≤ 40) : Met l yX12_redo (WS yX12_redo cX12_redo 1 (some .boolean)) ({ frames := 1, cells := 0, slots := 0, locals := 23 }) (va_Pc [.ref (a 66)] (cW D k A a z G)) (va_Qi (fun (r : Int32) (G1 : GS) => Q_redo G r G1) (fun (G1 : GS) t => Wd D k A a G1 t.heap) A) 0 0 A := by
  refine Met.ofW (cc := cX12_redo) (maxL := 1) (ret := (some .boolean)) (by decide) rfl ?_
  intro p e s m args below meth c s₁ B hml hv
  obtain ⟨rfl, hW, hB_G, hK, hZ⟩ := hv
  have hx := B.exec
  have hb := B.bytes
  have hr := B.returns
  have hts := atoms_spec (ws := WS yX12_redo cX12_redo 1 (some .boolean)) B.pre
  have hgd : ∀ w ∈ gd, w ∈ WS yX12_redo cX12_redo 1 (some .boolean) := fun w h => List.mem_cons_of_mem _ h
  have hg : ∀ w ∈ gd, w.before _ s = true := fun w h => hts w (hgd w h)
  have hown : s.vm.findClass RX12 = some m.cls := findClass_of_methodNamed B.named
  have hS : va_S A s.heap s.heap [] := va_S.rf
  have hF : Fr [110, 111] [(66, 78), (66, 79)] G G := Fr.rf
  have hl := lv_entry ([.ref (a 66)]) (n := 1) (Nat.le_of_ble_eq_true rfl)
  rw [lg_entry_eq]
  generalize (lg_sl ([.ref (a 66)]) ++ List.replicate (1 - (lg_sl ([.ref (a 66)])).length) Slot.unset).toArray = ls at hl ⊢
  have hl : lv_has ls 1 [(0, .ref (a 66))] := hl
  refine lv_aload_n hx hb dX12_redo_0 rfl (lv_at hl 0 rfl) ?_
  have b_1 : 0 ≤ (G.1 66 79).toInt ∧ (G.1 66 79).toInt ≤ 40 := bd_66_79 hB_G
  refine S_getI (v := (G.1 66 79)) (C := RX12) (T := TX12) (N := 89) hx hb hg iX12 hown hK hW kd_66 rfl 79 (lt_b rfl) (hg (Cond.fieldLink RX12 440 "SlabWalkModel" "undone" "I") m1393) (fun _ h9 => h9) rfl rfl dX12_redo_1 ?_
  refine lv_if_ne (tgt := 9) hx hb dX12_redo_4 rfl (fun c_2 => ?_) (fun c_2 => ?_)
  · have c_2 : (G.1 66 79).toInt ≠ 0 := xI_ne rfl rfl c_2
    refine lv_aload_n hx hb dX12_redo_9 rfl (lv_at hl 0 rfl) ?_
    refine lv_bipush (v := 16) hx hb dX12_redo_10 (by decide) ?_
    refine lv_aload_n hx hb dX12_redo_12 rfl (lv_at hl 0 rfl) ?_
    have b_3 : 0 ≤ (G.1 66 78).toInt ∧ (G.1 66 78).toInt ≤ 40 := bd_66_78 hB_G
    refine S_getI (v := (G.1 66 78)) (C := RX12) (T := TX12) (N := 89) hx hb hg iX12 hown hK hW kd_66 rfl 78 (lt_b rfl) (hg (Cond.fieldLink RX12 437 "SlabWalkModel" "acts" "I") m1392) (fun _ h9 => h9) rfl rfl dX12_redo_13 ?_
    refine lv_imul hx hb dX12_redo_16 ?_
    refine lv_topi (fun y_4 ey_4 => ?_)
    have ty_4 : y_4.toInt = 16 * (G.1 66 78).toInt := xI_mul rfl rfl ey_4 (by omega) (by omega)
    refine S_callv (va_runV (As := [.int y_4]) (rest := []) ⟨hx, hb, hml, hown, hts⟩ (n_exchange l D k A a z G y_4 ⟨by omega, by omega⟩ (by omega)) (cwV 1 hts (gd_V hgd m2023 m2025 m114 m131 m2026) rfl rfl rfl hd_X12_exchange ⟨Nat.le_of_ble_eq_true rfl, Nat.le_of_ble_eq_true rfl⟩) (pre_W hW hB_G hK hZ hS kd_66 rfl) rfl rfl hl.1 rfl (lv_room (Nat.le_of_ble_eq_true rfl)) dX12_redo_17 ⟨Nat.le_of_ble_eq_true rfl, Nat.le_of_ble_eq_true rfl⟩) hS (fun G_6 H locs hpo hW hS => ?_)
    have hX_9 : Q_exchange y_4 G G_6 := hpo
    obtain ⟨hB_G_6, hq_7, -⟩ := hpo
    have hF := hF.call9 hq_7 rfl rfl
    refine lv_aload_n hx hb dX12_redo_20 rfl (lv_at hl 0 rfl) ?_
    refine lv_dup hx hb dX12_redo_21 rfl ?_
    refine S_getI (v := (G.1 66 78)) (C := RX12) (T := TX12) (N := 89) hx hb hg iX12 hown hK hW kd_66 rfl 78 (lt_b rfl) (hg (Cond.fieldLink RX12 437 "SlabWalkModel" "acts" "I") m1392) (fun _ h9 => h9) rfl ((hq_7.i9 66 78 rfl rfl).trans (rfl)) dX12_redo_22 ?_
    refine ic_1 hx hb dX12_redo_25 ?_
    refine lv_iadd hx hb dX12_redo_26 ?_
    refine lv_topi (fun y_10 ey_10 => ?_)
    have ty_10 : y_10.toInt = (G.1 66 78).toInt + 1 := xI_add rfl rfl ey_10 (by omega) (by omega)
    refine S_putI (ty := .int) (C := RX12) (T := TX12) (N := 89) hx hb hg iX12 tyX12 tyX12_ok nmX12 hown hK hW hS kd_66 rfl 78 (lt_b rfl) (hg (Cond.fieldLink RX12 437 "SlabWalkModel" "acts" "I") m1392) (fun _ h9 => h9) rfl (by decide +kernel) rfl rfl rfl dX12_redo_27 (fun G_11 H locs eG_11 hW hS => ?_)
    have hB_G_11 : Bd G_11 := hB_G_6.put (V := y_10.toInt) (lo := 0) (hi := 40) eG_11 rfl rfl rfl (by omega) (by omega) (hB_G_6.2.put eG_11 rfl)
    have hF := hF.put eG_11 (Or.inr (by decide))
    refine lv_aload_n hx hb dX12_redo_30 rfl (lv_at hl 0 rfl) ?_
    refine lv_dup hx hb dX12_redo_31 rfl ?_
    refine S_getI (v := (G.1 66 79)) (C := RX12) (T := TX12) (N := 89) hx hb hg iX12 hown hK hW kd_66 rfl 79 (lt_b rfl) (hg (Cond.fieldLink RX12 440 "SlabWalkModel" "undone" "I") m1393) (fun _ h9 => h9) rfl ((gp_ne eG_11 (by decide)).trans ((hq_7.i9 66 79 rfl rfl).trans (rfl))) dX12_redo_32 ?_
    refine ic_1 hx hb dX12_redo_35 ?_
    refine lv_isub hx hb dX12_redo_36 ?_
    refine lv_topi (fun y_12 ey_12 => ?_)
    have ty_12 : y_12.toInt = (G.1 66 79).toInt - 1 := xI_sub rfl rfl ey_12 (by omega) (by omega)
    refine S_putI (ty := .int) (C := RX12) (T := TX12) (N := 89) hx hb hg iX12 tyX12 tyX12_ok nmX12 hown hK hW hS kd_66 rfl 79 (lt_b rfl) (hg (Cond.fieldLink RX12 440 "SlabWalkModel" "undone" "I") m1393) (fun _ h9 => h9) rfl (by decide +kernel) rfl rfl rfl dX12_redo_37 (fun G_13 H locs eG_13 hW hS => ?_)
    have hB_G_13 : Bd G_13 := hB_G_11.put (V := y_12.toInt) (lo := 0) (hi := 40) eG_13 rfl rfl rfl (by omega) (by omega) (hB_G_11.2.put eG_13 rfl)
    have hF := hF.put eG_13 (Or.inr (by decide))
    refine ic_1 hx hb dX12_redo_40 ?_
    have g_14 : (G_13.1 66 78).toInt = y_10.toInt := (congrArg Int32.toInt (show G_13.1 66 78 = y_10 from ((gp_ne eG_13 (by decide)).trans (gp_eq eG_11))))
    have g_15 : (G_13.1 66 79).toInt = y_12.toInt := (congrArg Int32.toInt (show G_13.1 66 79 = y_12 from (gp_eq eG_13)))
    exact W.zret (v := 1) hx hb hr (by decide) (fun t ht _ => ⟨⟨1, G_13, rfl, (Q_redo_mk ⟨hB_G_13, hF, ⟨by decide, by decide⟩, (by have hq : (1 : Int32).toInt = 1 := rfl; (try dsimp only); omega), (Or.inr ⟨c_2, ⟨y_4, ty_4, ⟨G_6, hX_9, ⟨y_10, ty_10, ⟨y_12, ty_12, ⟨rfl, (Fr.put (rs := []) (fs := [(66, 78), (66, 79)]) (Fr.put (rs := []) (fs := [(66, 78), (66, 79)]) Fr.rf eG_11 (Or.inr (by decide))) eG_13 (Or.inr (by decide))), ((gp_ne eG_13 (by decide)).trans (gp_eq eG_11)), (gp_eq eG_13)⟩⟩⟩⟩⟩⟩)⟩), wd_t ht hW⟩, hS.F ht⟩) hS.2.2 dX12_redo_41
  · have c_2 : (G.1 66 79).toInt = 0 := xI_eq rfl rfl c_2
    refine ic_0 hx hb dX12_redo_7 ?_
    have b_16 : 0 ≤ (G.1 66 78).toInt ∧ (G.1 66 78).toInt ≤ 40 := bd_66_78 hB_G
    exact W.zret (v := 0) hx hb hr (by decide) (fun t ht _ => ⟨⟨0, G, rfl, (Q_redo_mk ⟨hB_G, hF, ⟨by decide, by decide⟩, (by have hq : (0 : Int32).toInt = 0 := rfl; (try dsimp only); omega), (Or.inl ⟨c_2, ⟨rfl, rfl⟩⟩)⟩), wd_t ht hW⟩, hS.F ht⟩) hS.2.2 dX12_redo_8

set_option maxHeartbeats 4000000 in
set_option maxRecDepth 100000 in
theorem n_rain (l : Launch) (D : va_G) (k : KT) (A : Nat → Prop) (a : Nat → Nat) (z : SK) (G : GS)  (hac : (G.1 66 78).toInt + (G.1 66 79).toInt ≤ 40) : Met l yX12_rain (WS yX12_rain cX12_rain 1 (some .boolean)) ({ frames := 1, cells := 0, slots := 0, locals := 21 }) (va_Pc [.ref (a 66)] (cW D k A a z G)) (va_Qi (fun (r : Int32) (G1 : GS) => Q_rain G r G1) (fun (G1 : GS) t => Wd D k A a G1 t.heap) A) 0 0 A := by
  refine Met.ofW (cc := cX12_rain) (maxL := 1) (ret := (some .boolean)) (by decide) rfl ?_
  intro p e s m args below meth c s₁ B hml hv
  obtain ⟨rfl, hW, hB_G, hK, hZ⟩ := hv
  have hx := B.exec
  have hb := B.bytes
  have hr := B.returns
  have hts := atoms_spec (ws := WS yX12_rain cX12_rain 1 (some .boolean)) B.pre
  have hgd : ∀ w ∈ gd, w ∈ WS yX12_rain cX12_rain 1 (some .boolean) := fun w h => List.mem_cons_of_mem _ h
  have hg : ∀ w ∈ gd, w.before _ s = true := fun w h => hts w (hgd w h)
  have hown : s.vm.findClass RX12 = some m.cls := findClass_of_methodNamed B.named
  have hS : va_S A s.heap s.heap [] := va_S.rf
  have hF : Fr [110, 111] [(66, 78), (66, 79)] G G := Fr.rf
  have hl := lv_entry ([.ref (a 66)]) (n := 1) (Nat.le_of_ble_eq_true rfl)
  rw [lg_entry_eq]
  generalize (lg_sl ([.ref (a 66)]) ++ List.replicate (1 - (lg_sl ([.ref (a 66)])).length) Slot.unset).toArray = ls at hl ⊢
  have hl : lv_has ls 1 [(0, .ref (a 66))] := hl
  refine lv_aload_n hx hb dX12_rain_0 rfl (lv_at hl 0 rfl) ?_
  refine S_callv (va_runV (As := []) (rest := []) ⟨hx, hb, hml, hown, hts⟩ (n_act l D k A a z G  ) (cwV 0 hts (gd_V hgd m1991 m1993 m111 m131 m1994) rfl rfl rfl hd_X12_act ⟨Nat.le_of_ble_eq_true rfl, Nat.le_of_ble_eq_true rfl⟩) (pre_W hW hB_G hK hZ hS kd_66 rfl) rfl rfl hl.1 rfl (lv_room (Nat.le_of_ble_eq_true rfl)) dX12_rain_1 ⟨Nat.le_of_ble_eq_true rfl, Nat.le_of_ble_eq_true rfl⟩) hS (fun G_2 H locs hpo hW hS => ?_)
  have hX_5 : Q_act G G_2 := hpo
  obtain ⟨hB_G_2, hq_3, hp_4, -⟩ := hpo
  have hF := hF.call9 hq_3 rfl rfl
  refine lv_aload_n hx hb dX12_rain_4 rfl (lv_at hl 0 rfl) ?_
  refine S_getR (n := 110) (C := RX12) (T := TX12) (N := 89) hx hb hg iX12 hown hK hW kd_66 rfl 76 (lt_b rfl) (hg (Cond.fieldLink RX12 151 "SlabWalkModel" "now" "[I") m1390) (fun _ h9 => h9) rfl dX12_rain_5 ?_
  refine lv_bipush (v := 9) hx hb dX12_rain_8 (by decide) ?_
  refine ic_1 hx hb dX12_rain_10 ?_
  refine lv_aload_n hx hb dX12_rain_11 rfl (lv_at hl 0 rfl) ?_
  refine S_getR (n := 110) (C := RX12) (T := TX12) (N := 89) hx hb hg iX12 hown hK hW kd_66 rfl 76 (lt_b rfl) (hg (Cond.fieldLink RX12 151 "SlabWalkModel" "now" "[I") m1390) (fun _ h9 => h9) rfl dX12_rain_12 ?_
  refine lv_bipush (v := 9) hx hb dX12_rain_15 (by decide) ?_
  refine S_iald hx hb hK hW kd_110 (vin (by decide) (by decide)) dX12_rain_17 (fun y_6 ey_6 => ?_)
  refine lv_isub hx hb dX12_rain_18 ?_
  refine lv_topi (fun y_7 ey_7 => ?_)
  refine S_iast hx hb hK hW hS kd_110 (vin (by decide) (by decide)) dX12_rain_19 (fun G_8 H locs eG_8 hW hS => ?_)
  have qc_9 : (9 : Int32).toInt = 9 := rfl
  have hB_G_8 : Bd G_8 := hB_G_2.putNow 110 (by decide) eG_8 (by omega) (by omega) (by omega) rfl
  have hF := hF.put eG_8 (Or.inl (by decide))
  refine lv_aload_n hx hb dX12_rain_20 rfl (lv_at hl 0 rfl) ?_
  refine S_getR (n := 110) (C := RX12) (T := TX12) (N := 89) hx hb hg iX12 hown hK hW kd_66 rfl 76 (lt_b rfl) (hg (Cond.fieldLink RX12 151 "SlabWalkModel" "now" "[I") m1390) (fun _ h9 => h9) rfl dX12_rain_21 ?_
  refine lv_bipush (v := 9) hx hb dX12_rain_24 (by decide) ?_
  refine S_iald hx hb hK hW kd_110 (vin (by decide) (by decide)) dX12_rain_26 (fun y_10 ey_10 => ?_)
  refine ic_1 hx hb dX12_rain_27 ?_
  refine lv_icmp_ne (tgt := 35) hx hb dX12_rain_28 rfl (fun c_11 => ?_) (fun c_11 => ?_)
  · have c_11 : y_10.toInt ≠ 1 := xI_ne rfl rfl c_11
    refine ic_0 hx hb dX12_rain_35 ?_
    have b_12 : 0 ≤ (G_2.1 66 78).toInt ∧ (G_2.1 66 78).toInt ≤ 40 := bd_66_78 hB_G_2
    have g_13 : (G_8.1 66 78).toInt = (G_2.1 66 78).toInt := (congrArg Int32.toInt (show G_8.1 66 78 = (G_2.1 66 78) from (gp_ne eG_8 (fun q => absurd q.1 (Nat.ne_of_beq_eq_false rfl)))))
    have b_14 : 0 ≤ (G_2.1 66 79).toInt ∧ (G_2.1 66 79).toInt ≤ 40 := bd_66_79 hB_G_2
    have g_15 : (G_8.1 66 79).toInt = (G_2.1 66 79).toInt := (congrArg Int32.toInt (show G_8.1 66 79 = (G_2.1 66 79) from (gp_ne eG_8 (fun q => absurd q.1 (Nat.ne_of_beq_eq_false rfl)))))
    exact W.zret (v := 0) hx hb hr (by decide) (fun t ht _ => ⟨⟨0, G_8, rfl, (Q_rain_mk ⟨hB_G_8, hF, ⟨by decide, by decide⟩, (by have hq : (0 : Int32).toInt = 0 := rfl; (try dsimp only); omega), ⟨G_2, hX_5, ⟨y_6, ey_6, ⟨y_7, ey_7, ⟨y_10, ey_10.trans (congrFun (rw_ast eG_8) _), (Or.inr ⟨c_11, ⟨rfl, (Fr.put (rs := [110]) (fs := []) Fr.rf eG_8 (Or.inl (by decide))), rw_ast eG_8⟩⟩)⟩⟩⟩⟩⟩), wd_t ht hW⟩, hS.F ht⟩) hS.2.2 dX12_rain_36
  · have c_11 : y_10.toInt = 1 := xI_eq rfl rfl c_11
    refine ic_1 hx hb dX12_rain_31 ?_
    refine lv_goto (tgt := 36) hx hb dX12_rain_32 rfl ?_
    have b_16 : 0 ≤ (G_2.1 66 78).toInt ∧ (G_2.1 66 78).toInt ≤ 40 := bd_66_78 hB_G_2
    have g_17 : (G_8.1 66 78).toInt = (G_2.1 66 78).toInt := (congrArg Int32.toInt (show G_8.1 66 78 = (G_2.1 66 78) from (gp_ne eG_8 (fun q => absurd q.1 (Nat.ne_of_beq_eq_false rfl)))))
    have b_18 : 0 ≤ (G_2.1 66 79).toInt ∧ (G_2.1 66 79).toInt ≤ 40 := bd_66_79 hB_G_2
    have g_19 : (G_8.1 66 79).toInt = (G_2.1 66 79).toInt := (congrArg Int32.toInt (show G_8.1 66 79 = (G_2.1 66 79) from (gp_ne eG_8 (fun q => absurd q.1 (Nat.ne_of_beq_eq_false rfl)))))
    exact W.zret (v := 1) hx hb hr (by decide) (fun t ht _ => ⟨⟨1, G_8, rfl, (Q_rain_mk ⟨hB_G_8, hF, ⟨by decide, by decide⟩, (by have hq : (1 : Int32).toInt = 1 := rfl; (try dsimp only); omega), ⟨G_2, hX_5, ⟨y_6, ey_6, ⟨y_7, ey_7, ⟨y_10, ey_10.trans (congrFun (rw_ast eG_8) _), (Or.inl ⟨c_11, ⟨rfl, (Fr.put (rs := [110]) (fs := []) Fr.rf eG_8 (Or.inl (by decide))), rw_ast eG_8⟩⟩)⟩⟩⟩⟩⟩), wd_t ht hW⟩, hS.F ht⟩) hS.2.2 dX12_rain_36

set_option maxHeartbeats 4000000 in
set_option maxRecDepth 100000 in
theorem n_day (l : Launch) (D : va_G) (k : KT) (A : Nat → Prop) (a : Nat → Nat) (z : SK) (G : GS)  (hac : (G.1 66 78).toInt + (G.1 66 79).toInt ≤ 40) : Met l yX12_day (WS yX12_day cX12_day 1 (some .int)) ({ frames := 1, cells := 0, slots := 0, locals := 21 }) (va_Pc [.ref (a 66)] (cW D k A a z G)) (va_Qi (fun (r : Int32) (G1 : GS) => Q_day G r G1) (fun (G1 : GS) t => Wd D k A a G1 t.heap) A) 0 0 A := by
  refine Met.ofW (cc := cX12_day) (maxL := 1) (ret := (some .int)) (by decide) rfl ?_
  intro p e s m args below meth c s₁ B hml hv
  obtain ⟨rfl, hW, hB_G, hK, hZ⟩ := hv
  have hx := B.exec
  have hb := B.bytes
  have hr := B.returns
  have hts := atoms_spec (ws := WS yX12_day cX12_day 1 (some .int)) B.pre
  have hgd : ∀ w ∈ gd, w ∈ WS yX12_day cX12_day 1 (some .int) := fun w h => List.mem_cons_of_mem _ h
  have hg : ∀ w ∈ gd, w.before _ s = true := fun w h => hts w (hgd w h)
  have hown : s.vm.findClass RX12 = some m.cls := findClass_of_methodNamed B.named
  have hS : va_S A s.heap s.heap [] := va_S.rf
  have hF : Fr [110, 111] [(66, 78), (66, 79)] G G := Fr.rf
  have hl := lv_entry ([.ref (a 66)]) (n := 1) (Nat.le_of_ble_eq_true rfl)
  rw [lg_entry_eq]
  generalize (lg_sl ([.ref (a 66)]) ++ List.replicate (1 - (lg_sl ([.ref (a 66)])).length) Slot.unset).toArray = ls at hl ⊢
  have hl : lv_has ls 1 [(0, .ref (a 66))] := hl
  refine lv_aload_n hx hb dX12_day_0 rfl (lv_at hl 0 rfl) ?_
  refine S_getR (n := 110) (C := RX12) (T := TX12) (N := 89) hx hb hg iX12 hown hK hW kd_66 rfl 76 (lt_b rfl) (hg (Cond.fieldLink RX12 151 "SlabWalkModel" "now" "[I") m1390) (fun _ h9 => h9) rfl dX12_day_1 ?_
  refine lv_bipush (v := 6) hx hb dX12_day_4 (by decide) ?_
  refine S_iald hx hb hK hW kd_110 (vin (by decide) (by decide)) dX12_day_6 (fun y_1 ey_1 => ?_)
  refine lv_sipush (v := 1000) hx hb dX12_day_7 (by decide) ?_
  refine lv_icmp_ne (tgt := 15) hx hb dX12_day_10 rfl (fun c_2 => ?_) (fun c_2 => ?_)
  · have c_2 : y_1.toInt ≠ 1000 := xI_ne rfl rfl c_2
    refine lv_aload_n hx hb dX12_day_15 rfl (lv_at hl 0 rfl) ?_
    refine S_callv (va_runV (As := []) (rest := []) ⟨hx, hb, hml, hown, hts⟩ (n_act l D k A a z G  ) (cwV 0 hts (gd_V hgd m1991 m1993 m111 m131 m1994) rfl rfl rfl hd_X12_act ⟨Nat.le_of_ble_eq_true rfl, Nat.le_of_ble_eq_true rfl⟩) (pre_W hW hB_G hK hZ hS kd_66 rfl) rfl rfl hl.1 rfl (lv_room (Nat.le_of_ble_eq_true rfl)) dX12_day_16 ⟨Nat.le_of_ble_eq_true rfl, Nat.le_of_ble_eq_true rfl⟩) hS (fun G_4 H locs hpo hW hS => ?_)
    have hX_7 : Q_act G G_4 := hpo
    obtain ⟨hB_G_4, hq_5, hp_6, -⟩ := hpo
    have hF := hF.call9 hq_5 rfl rfl
    refine lv_aload_n hx hb dX12_day_19 rfl (lv_at hl 0 rfl) ?_
    refine S_getR (n := 110) (C := RX12) (T := TX12) (N := 89) hx hb hg iX12 hown hK hW kd_66 rfl 76 (lt_b rfl) (hg (Cond.fieldLink RX12 151 "SlabWalkModel" "now" "[I") m1390) (fun _ h9 => h9) rfl dX12_day_20 ?_
    refine lv_bipush (v := 6) hx hb dX12_day_23 (by decide) ?_
    refine lv_dup2_11 hx hb dX12_day_25 rfl rfl ?_
    refine S_iald hx hb hK hW kd_110 (vin (by decide) (by decide)) dX12_day_26 (fun y_8 ey_8 => ?_)
    refine ic_1 hx hb dX12_day_27 ?_
    refine lv_iadd hx hb dX12_day_28 ?_
    refine lv_topi (fun y_9 ey_9 => ?_)
    refine S_iast hx hb hK hW hS kd_110 (vin (by decide) (by decide)) dX12_day_29 (fun G_10 H locs eG_10 hW hS => ?_)
    have qc_11 : (6 : Int32).toInt = 6 := rfl
    have hB_G_10 : Bd G_10 := hB_G_4.putNow 110 (by decide) eG_10 (by omega) (by omega) (by omega) rfl
    have hF := hF.put eG_10 (Or.inl (by decide))
    refine lv_aload_n hx hb dX12_day_30 rfl (lv_at hl 0 rfl) ?_
    refine S_getR (n := 110) (C := RX12) (T := TX12) (N := 89) hx hb hg iX12 hown hK hW kd_66 rfl 76 (lt_b rfl) (hg (Cond.fieldLink RX12 151 "SlabWalkModel" "now" "[I") m1390) (fun _ h9 => h9) rfl dX12_day_31 ?_
    refine lv_bipush (v := 6) hx hb dX12_day_34 (by decide) ?_
    refine S_iald hx hb hK hW kd_110 (vin (by decide) (by decide)) dX12_day_36 (fun y_12 ey_12 => ?_)
    have b_13 : 0 ≤ (G_4.1 66 78).toInt ∧ (G_4.1 66 78).toInt ≤ 40 := bd_66_78 hB_G_4
    have g_14 : (G_10.1 66 78).toInt = (G_4.1 66 78).toInt := (congrArg Int32.toInt (show G_10.1 66 78 = (G_4.1 66 78) from (gp_ne eG_10 (fun q => absurd q.1 (Nat.ne_of_beq_eq_false rfl)))))
    have b_15 : 0 ≤ (G_4.1 66 79).toInt ∧ (G_4.1 66 79).toInt ≤ 40 := bd_66_79 hB_G_4
    have g_16 : (G_10.1 66 79).toInt = (G_4.1 66 79).toInt := (congrArg Int32.toInt (show G_10.1 66 79 = (G_4.1 66 79) from (gp_ne eG_10 (fun q => absurd q.1 (Nat.ne_of_beq_eq_false rfl)))))
    exact W.iret (v := y_12) hx hb hr (fun t ht _ => ⟨⟨y_12, G_10, rfl, (Q_day_mk ⟨hB_G_10, hF, (by omega), ⟨y_1, ey_1, (Or.inr ⟨c_2, ⟨G_4, hX_7, ⟨y_8, ey_8, ⟨y_9, ey_9, ⟨y_12, ey_12.trans (congrFun (rw_ast eG_10) _), ⟨rfl, (Fr.put (rs := [110]) (fs := []) Fr.rf eG_10 (Or.inl (by decide))), rw_ast eG_10⟩⟩⟩⟩⟩⟩)⟩⟩), wd_t ht hW⟩, hS.F ht⟩) hS.2.2 dX12_day_37
  · have c_2 : y_1.toInt = 1000 := xI_eq rfl rfl c_2
    refine ic_m1 hx hb dX12_day_13 ?_
    have b_17 : 0 ≤ (G.1 66 78).toInt ∧ (G.1 66 78).toInt ≤ 40 := bd_66_78 hB_G
    have b_18 : 0 ≤ (G.1 66 79).toInt ∧ (G.1 66 79).toInt ≤ 40 := bd_66_79 hB_G
    exact W.iret (v := (-1)) hx hb hr (fun t ht _ => ⟨⟨(-1), G, rfl, (Q_day_mk ⟨hB_G, hF, (by have hq : ((-1) : Int32).toInt = (-1) := rfl; (try dsimp only); omega), ⟨y_1, ey_1, (Or.inl ⟨c_2, ⟨rfl, rfl⟩⟩)⟩⟩), wd_t ht hW⟩, hS.F ht⟩) hS.2.2 dX12_day_14

set_option maxHeartbeats 4000000 in
set_option maxRecDepth 100000 in
theorem n_force (l : Launch) (D : va_G) (k : KT) (A : Nat → Prop) (a : Nat → Nat) (z : SK) (G : GS) (p0 : Int32) (hac : (G.1 66 78).toInt + (G.1 66 79).toInt ≤ 40) : Met l yX12_force (WS yX12_force cX12_force 2 (some .int)) ({ frames := 2, cells := 0, slots := 0, locals := 43 }) (va_Pc [.ref (a 66), .int p0] (cW D k A a z G)) (va_Qi (fun (r : Int32) (G1 : GS) => Q_force p0 G r G1) (fun (G1 : GS) t => Wd D k A a G1 t.heap) A) 0 0 A := by
  refine Met.ofW (cc := cX12_force) (maxL := 2) (ret := (some .int)) (by decide) rfl ?_
  intro p e s m args below meth c s₁ B hml hv
  obtain ⟨rfl, hW, hB_G, hK, hZ⟩ := hv
  have hx := B.exec
  have hb := B.bytes
  have hr := B.returns
  have hts := atoms_spec (ws := WS yX12_force cX12_force 2 (some .int)) B.pre
  have hgd : ∀ w ∈ gd, w ∈ WS yX12_force cX12_force 2 (some .int) := fun w h => List.mem_cons_of_mem _ h
  have hg : ∀ w ∈ gd, w.before _ s = true := fun w h => hts w (hgd w h)
  have hown : s.vm.findClass RX12 = some m.cls := findClass_of_methodNamed B.named
  have hS : va_S A s.heap s.heap [] := va_S.rf
  have hF : Fr [110, 111] [(66, 78), (66, 79)] G G := Fr.rf
  have hl := lv_entry ([.ref (a 66), .int p0]) (n := 2) (Nat.le_of_ble_eq_true rfl)
  rw [lg_entry_eq]
  generalize (lg_sl ([.ref (a 66), .int p0]) ++ List.replicate (2 - (lg_sl ([.ref (a 66), .int p0])).length) Slot.unset).toArray = ls at hl ⊢
  have hl : lv_has ls 2 [(0, .ref (a 66)), (1, .int p0)] := hl
  refine lv_aload_n hx hb dX12_force_0 rfl (lv_at hl 0 rfl) ?_
  refine lv_iload_n hx hb dX12_force_1 rfl (lv_at hl 1 rfl) ?_
  refine S_calli (va_runV (As := [.int p0]) (rest := []) ⟨hx, hb, hml, hown, hts⟩ (n_isRule l D k A a z G p0 ) (cwV 1 hts (gd_V hgd m2007 m2009 m113 m131 m2010) rfl rfl rfl hd_X12_isRule ⟨Nat.le_of_ble_eq_true rfl, Nat.le_of_ble_eq_true rfl⟩) (pre_W hW hB_G hK hZ hS kd_66 rfl) rfl rfl hl.1 rfl (lv_room (Nat.le_of_ble_eq_true rfl)) dX12_force_2 ⟨Nat.le_of_ble_eq_true rfl, Nat.le_of_ble_eq_true rfl⟩) hS (fun r_1 G_2 H locs hpo hW hS => ?_)
  have hX_5 : Q_isRule p0 G r_1 G_2 := hpo
  obtain ⟨hB_G_2, hq_3, f_6, hp_4, -⟩ := hpo
  have hF := hF.call9 hq_3 rfl rfl
  refine lv_if_ne (tgt := 10) hx hb dX12_force_5 rfl (fun c_7 => ?_) (fun c_7 => ?_)
  · have c_7 : r_1.toInt ≠ 0 := xI_ne rfl rfl c_7
    refine lv_aload_n hx hb dX12_force_10 rfl (lv_at hl 0 rfl) ?_
    refine S_callv (va_runV (As := []) (rest := []) ⟨hx, hb, hml, hown, hts⟩ (n_act l D k A a z G_2  ) (cwV 0 hts (gd_V hgd m1991 m1993 m111 m131 m1994) rfl rfl rfl hd_X12_act ⟨Nat.le_of_ble_eq_true rfl, Nat.le_of_ble_eq_true rfl⟩) (pre_W hW hB_G_2 hK hZ hS kd_66 rfl) rfl rfl hl.1 rfl (lv_room (Nat.le_of_ble_eq_true rfl)) dX12_force_11 ⟨Nat.le_of_ble_eq_true rfl, Nat.le_of_ble_eq_true rfl⟩) hS (fun G_9 H locs hpo hW hS => ?_)
    have hX_12 : Q_act G_2 G_9 := hpo
    obtain ⟨hB_G_9, hq_10, hp_11, -⟩ := hpo
    have hF := hF.call9 hq_10 rfl rfl
    refine lv_aload_n hx hb dX12_force_14 rfl (lv_at hl 0 rfl) ?_
    refine S_getR (n := 110) (C := RX12) (T := TX12) (N := 89) hx hb hg iX12 hown hK hW kd_66 rfl 76 (lt_b rfl) (hg (Cond.fieldLink RX12 151 "SlabWalkModel" "now" "[I") m1390) (fun _ h9 => h9) rfl dX12_force_15 ?_
    refine lv_bipush (v := 8) hx hb dX12_force_18 (by decide) ?_
    refine lv_dup2_11 hx hb dX12_force_20 rfl rfl ?_
    refine S_iald hx hb hK hW kd_110 (vin (by decide) (by decide)) dX12_force_21 (fun y_13 ey_13 => ?_)
    refine ic_1 hx hb dX12_force_22 ?_
    refine lv_iload_n hx hb dX12_force_23 rfl (lv_at hl 1 rfl) ?_
    refine lv_ishl hx hb dX12_force_24 ?_
    refine lv_topi (fun y_14 ey_14 => ?_)
    have ty_14 := sh5 (Y := p0.toInt) rfl ey_14 rfl (by omega) (by omega)
    refine lv_ixor hx hb dX12_force_25 ?_
    refine lv_topi (fun y_15 ey_15 => ?_)
    refine S_iast hx hb hK hW hS kd_110 (vin (by decide) (by decide)) dX12_force_26 (fun G_16 H locs eG_16 hW hS => ?_)
    have qc_17 : (8 : Int32).toInt = 8 := rfl
    have hB_G_16 : Bd G_16 := hB_G_9.putNow 110 (by decide) eG_16 (by omega) (by omega) (by omega) rfl
    have hF := hF.put eG_16 (Or.inl (by decide))
    refine lv_aload_n hx hb dX12_force_27 rfl (lv_at hl 0 rfl) ?_
    refine S_getR (n := 110) (C := RX12) (T := TX12) (N := 89) hx hb hg iX12 hown hK hW kd_66 rfl 76 (lt_b rfl) (hg (Cond.fieldLink RX12 151 "SlabWalkModel" "now" "[I") m1390) (fun _ h9 => h9) rfl dX12_force_28 ?_
    refine lv_bipush (v := 8) hx hb dX12_force_31 (by decide) ?_
    refine S_iald hx hb hK hW kd_110 (vin (by decide) (by decide)) dX12_force_33 (fun y_18 ey_18 => ?_)
    refine lv_iload_n hx hb dX12_force_34 rfl (lv_at hl 1 rfl) ?_
    refine lv_ishr hx hb dX12_force_35 ?_
    refine lv_topi (fun y_19 ey_19 => ?_)
    refine ic_1 hx hb dX12_force_36 ?_
    refine lv_iand hx hb dX12_force_37 ?_
    refine lv_topi (fun y_20 ey_20 => ?_)
    have ty_20 := xI_and (Y := 1) rfl ey_20 (by decide)
    have b_21 : 0 ≤ (G_9.1 66 78).toInt ∧ (G_9.1 66 78).toInt ≤ 40 := bd_66_78 hB_G_9
    have g_22 : (G_16.1 66 78).toInt = (G_9.1 66 78).toInt := (congrArg Int32.toInt (show G_16.1 66 78 = (G_9.1 66 78) from (gp_ne eG_16 (fun q => absurd q.1 (Nat.ne_of_beq_eq_false rfl)))))
    have b_23 : 0 ≤ (G_9.1 66 79).toInt ∧ (G_9.1 66 79).toInt ≤ 40 := bd_66_79 hB_G_9
    have g_24 : (G_16.1 66 79).toInt = (G_9.1 66 79).toInt := (congrArg Int32.toInt (show G_16.1 66 79 = (G_9.1 66 79) from (gp_ne eG_16 (fun q => absurd q.1 (Nat.ne_of_beq_eq_false rfl)))))
    exact W.iret (v := y_20) hx hb hr (fun t ht _ => ⟨⟨y_20, G_16, rfl, (Q_force_mk ⟨hB_G_16, hF, ((by first | (clear hac f_6 hp_4 c_7; omega) | omega)), ⟨r_1, G_2, hX_5, (Or.inr ⟨c_7, ⟨G_9, hX_12, ⟨y_13, ey_13, ⟨y_14, ey_14, ⟨y_15, ey_15, ⟨y_18, ey_18.trans (congrFun (rw_ast eG_16) _), ⟨y_19, ey_19, ⟨y_20, ey_20, ⟨rfl, (Fr.put (rs := [110]) (fs := []) Fr.rf eG_16 (Or.inl (by decide))), rw_ast eG_16⟩⟩⟩⟩⟩⟩⟩⟩⟩)⟩⟩), wd_t ht hW⟩, hS.F ht⟩) hS.2.2 dX12_force_38
  · have c_7 : r_1.toInt = 0 := xI_eq rfl rfl c_7
    refine ic_m1 hx hb dX12_force_8 ?_
    have b_25 : 0 ≤ (G.1 66 78).toInt ∧ (G.1 66 78).toInt ≤ 40 := bd_66_78 hB_G
    have g_26 : (G_2.1 66 78).toInt = (G.1 66 78).toInt := (congrArg Int32.toInt (show G_2.1 66 78 = (G.1 66 78) from (hq_3.i9 66 78 rfl rfl)))
    have b_27 : 0 ≤ (G.1 66 79).toInt ∧ (G.1 66 79).toInt ≤ 40 := bd_66_79 hB_G
    have g_28 : (G_2.1 66 79).toInt = (G.1 66 79).toInt := (congrArg Int32.toInt (show G_2.1 66 79 = (G.1 66 79) from (hq_3.i9 66 79 rfl rfl)))
    exact W.iret (v := (-1)) hx hb hr (fun t ht _ => ⟨⟨(-1), G_2, rfl, (Q_force_mk ⟨hB_G_2, hF, (by have hq : ((-1) : Int32).toInt = (-1) := rfl; (try dsimp only); omega), ⟨r_1, G_2, hX_5, (Or.inl ⟨c_7, ⟨rfl, rfl⟩⟩)⟩⟩), wd_t ht hW⟩, hS.F ht⟩) hS.2.2 dX12_force_9
