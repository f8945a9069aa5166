theorem m97 : Cond.selects RX12 yX12_lay yX12_lay ∈ gd := gds_7 1 rfl
theorem m99 : Cond.selects RX12 yX12_isEven yX12_isEven ∈ gd := gds_7 3 rfl
theorem m100 : Cond.selects RX12 yX12_comesToEnd yX12_comesToEnd ∈ gd := gds_7 4 rfl
theorem m1866 : Cond.methodLink RX12 512 yX12_lay ∈ gd := gdc_8_4 6 rfl gw_methodLink
theorem m1868 : Cond.instanceMethod yX12_lay ∈ gd := gdc_8_4 8 rfl gw_instanceMethod
theorem m1869 : Cond.code yX12_lay cX12_lay 2 none ∈ gd := gdc_8_4 9 rfl gw_code
theorem m1887 : Cond.methodLink RX12 526 yX12_isEven ∈ gd := gdc_8_5 11 rfl gw_methodLink
theorem m1889 : Cond.instanceMethod yX12_isEven ∈ gd := gdc_8_5 13 rfl gw_instanceMethod
theorem m1890 : Cond.code yX12_isEven cX12_isEven 6 (some .boolean) ∈ gd := gdc_8_5 14 rfl gw_code
theorem m1899 : Cond.methodLink RX12 529 yX12_comesToEnd ∈ gd := gdc_8_6 7 rfl gw_methodLink
theorem m1901 : Cond.instanceMethod yX12_comesToEnd ∈ gd := gdc_8_6 9 rfl gw_instanceMethod
theorem m1902 : Cond.code yX12_comesToEnd cX12_comesToEnd 4 (some .boolean) ∈ gd := gdc_8_6 10 rfl gw_code
def rbX12_comesToEnd_0 : List (Nat × List Nat) := [(0, [27]), (1, [62]), (2, [42]), (3, [180, 0, 115]), (6, [29]), (7, [51]), (8, [153, 0, 18]), (11, [42]), (12, [29]), (13, [182, 1, 243]), (16, [154, 0, 10]), (19, [29]), (20, [28]), (21, [96]), (22, [62]), (23, [167, 255, 235]), (26, [42]), (27, [180, 0, 115]), (30, [29]), (31, [51]), (32, [172])]
theorem rcX12_comesToEnd_0 : dgo (lb cX12_comesToEnd) 0 rbX12_comesToEnd_0 = true := by decide +kernel
theorem dX12_comesToEnd_0 : decode cX12_comesToEnd 0 = .ok (.iload_n 1, 1) := dk_27 (dw rcX12_comesToEnd_0 0 rfl)
theorem dX12_comesToEnd_1 : decode cX12_comesToEnd 1 = .ok (.istore_n 3, 1) := dk_62 (dw rcX12_comesToEnd_0 1 rfl)
theorem dX12_comesToEnd_2 : decode cX12_comesToEnd 2 = .ok (.aload_n 0, 1) := dk_42 (dw rcX12_comesToEnd_0 2 rfl)
theorem dX12_comesToEnd_3 : decode cX12_comesToEnd 3 = .ok (.getfield 115, 3) := dk_180 (dw rcX12_comesToEnd_0 3 rfl) rfl
theorem dX12_comesToEnd_6 : decode cX12_comesToEnd 6 = .ok (.iload_n 3, 1) := dk_29 (dw rcX12_comesToEnd_0 4 rfl)
theorem dX12_comesToEnd_7 : decode cX12_comesToEnd 7 = .ok (.baload, 1) := dk_51 (dw rcX12_comesToEnd_0 5 rfl)
theorem dX12_comesToEnd_8 : decode cX12_comesToEnd 8 = .ok (.ifCond .eq 18, 3) := dk_153 (dw rcX12_comesToEnd_0 6 rfl) rfl
theorem dX12_comesToEnd_11 : decode cX12_comesToEnd 11 = .ok (.aload_n 0, 1) := dk_42 (dw rcX12_comesToEnd_0 7 rfl)
theorem dX12_comesToEnd_12 : decode cX12_comesToEnd 12 = .ok (.iload_n 3, 1) := dk_29 (dw rcX12_comesToEnd_0 8 rfl)
theorem dX12_comesToEnd_13 : decode cX12_comesToEnd 13 = .ok (.invokevirtual 499, 3) := dk_182 (dw rcX12_comesToEnd_0 9 rfl) rfl
theorem dX12_comesToEnd_16 : decode cX12_comesToEnd 16 = .ok (.ifCond .ne 10, 3) := dk_154 (dw rcX12_comesToEnd_0 10 rfl) rfl
theorem dX12_comesToEnd_19 : decode cX12_comesToEnd 19 = .ok (.iload_n 3, 1) := dk_29 (dw rcX12_comesToEnd_0 11 rfl)
theorem dX12_comesToEnd_20 : decode cX12_comesToEnd 20 = .ok (.iload_n 2, 1) := dk_28 (dw rcX12_comesToEnd_0 12 rfl)
theorem dX12_comesToEnd_21 : decode cX12_comesToEnd 21 = .ok (.iadd, 1) := dk_96 (dw rcX12_comesToEnd_0 13 rfl)
theorem dX12_comesToEnd_22 : decode cX12_comesToEnd 22 = .ok (.istore_n 3, 1) := dk_62 (dw rcX12_comesToEnd_0 14 rfl)
theorem dX12_comesToEnd_23 : decode cX12_comesToEnd 23 = .ok (.goto (-21), 3) := dk_167 (dw rcX12_comesToEnd_0 15 rfl) rfl
theorem dX12_comesToEnd_26 : decode cX12_comesToEnd 26 = .ok (.aload_n 0, 1) := dk_42 (dw rcX12_comesToEnd_0 16 rfl)
theorem dX12_comesToEnd_27 : decode cX12_comesToEnd 27 = .ok (.getfield 115, 3) := dk_180 (dw rcX12_comesToEnd_0 17 rfl) rfl
theorem dX12_comesToEnd_30 : decode cX12_comesToEnd 30 = .ok (.iload_n 3, 1) := dk_29 (dw rcX12_comesToEnd_0 18 rfl)
theorem dX12_comesToEnd_31 : decode cX12_comesToEnd 31 = .ok (.baload, 1) := dk_51 (dw rcX12_comesToEnd_0 19 rfl)
theorem dX12_comesToEnd_32 : decode cX12_comesToEnd 32 = .ok (.ireturn, 1) := dk_172 (dw rcX12_comesToEnd_0 20 rfl)
def rbX12_even_0 : List (Nat × List Nat) := [(0, [42]), (1, [27]), (2, [28]), (3, [29]), (4, [182, 1, 234]), (7, [153, 0, 24]), (10, [42]), (11, [28]), (12, [21, 4]), (14, [182, 1, 200]), (17, [153, 0, 14]), (20, [21, 5]), (22, [4]), (23, [16, 99]), (25, [184, 1, 193]), (28, [154, 0, 5]), (31, [2]), (32, [172]), (33, [42]), (34, [27]), (35, [28]), (36, [29]), (37, [182, 1, 237]), (40, [3])]
theorem rcX12_even_0 : dgo (lb cX12_even) 0 rbX12_even_0 = true := by decide +kernel
theorem dX12_even_0 : decode cX12_even 0 = .ok (.aload_n 0, 1) := dk_42 (dw rcX12_even_0 0 rfl)
theorem dX12_even_1 : decode cX12_even 1 = .ok (.iload_n 1, 1) := dk_27 (dw rcX12_even_0 1 rfl)
theorem dX12_even_2 : decode cX12_even 2 = .ok (.iload_n 2, 1) := dk_28 (dw rcX12_even_0 2 rfl)
theorem dX12_even_3 : decode cX12_even 3 = .ok (.iload_n 3, 1) := dk_29 (dw rcX12_even_0 3 rfl)
theorem dX12_even_4 : decode cX12_even 4 = .ok (.invokevirtual 490, 3) := dk_182 (dw rcX12_even_0 4 rfl) rfl
theorem dX12_even_7 : decode cX12_even 7 = .ok (.ifCond .eq 24, 3) := dk_153 (dw rcX12_even_0 5 rfl) rfl
theorem dX12_even_10 : decode cX12_even 10 = .ok (.aload_n 0, 1) := dk_42 (dw rcX12_even_0 6 rfl)
theorem dX12_even_11 : decode cX12_even 11 = .ok (.iload_n 2, 1) := dk_28 (dw rcX12_even_0 7 rfl)
theorem dX12_even_12 : decode cX12_even 12 = .ok (.iload 4, 2) := dk_21 (dw rcX12_even_0 8 rfl)
theorem dX12_even_14 : decode cX12_even 14 = .ok (.invokevirtual 456, 3) := dk_182 (dw rcX12_even_0 9 rfl) rfl
theorem dX12_even_17 : decode cX12_even 17 = .ok (.ifCond .eq 14, 3) := dk_153 (dw rcX12_even_0 10 rfl) rfl
theorem dX12_even_20 : decode cX12_even 20 = .ok (.iload 5, 2) := dk_21 (dw rcX12_even_0 11 rfl)
theorem dX12_even_22 : decode cX12_even 22 = .ok (.iconst 1, 1) := dk_4 (dw rcX12_even_0 12 rfl)
theorem dX12_even_23 : decode cX12_even 23 = .ok (.bipush 99, 2) := dk_16 (dw rcX12_even_0 13 rfl) rfl
theorem dX12_even_25 : decode cX12_even 25 = .ok (.invokestatic 449, 3) := dk_184 (dw rcX12_even_0 14 rfl) rfl
theorem dX12_even_28 : decode cX12_even 28 = .ok (.ifCond .ne 5, 3) := dk_154 (dw rcX12_even_0 15 rfl) rfl
theorem dX12_even_31 : decode cX12_even 31 = .ok (.iconst (-1), 1) := dk_2 (dw rcX12_even_0 16 rfl)
theorem dX12_even_32 : decode cX12_even 32 = .ok (.ireturn, 1) := dk_172 (dw rcX12_even_0 17 rfl)
theorem dX12_even_33 : decode cX12_even 33 = .ok (.aload_n 0, 1) := dk_42 (dw rcX12_even_0 18 rfl)
theorem dX12_even_34 : decode cX12_even 34 = .ok (.iload_n 1, 1) := dk_27 (dw rcX12_even_0 19 rfl)
theorem dX12_even_35 : decode cX12_even 35 = .ok (.iload_n 2, 1) := dk_28 (dw rcX12_even_0 20 rfl)
theorem dX12_even_36 : decode cX12_even 36 = .ok (.iload_n 3, 1) := dk_29 (dw rcX12_even_0 21 rfl)
theorem dX12_even_37 : decode cX12_even 37 = .ok (.invokevirtual 493, 3) := dk_182 (dw rcX12_even_0 22 rfl) rfl
theorem dX12_even_40 : decode cX12_even 40 = .ok (.iconst 0, 1) := dk_3 (dw rcX12_even_0 23 rfl)
def rbX12_even_41 : List (Nat × List Nat) := [(41, [54, 6]), (43, [21, 4]), (45, [54, 7]), (47, [21, 7]), (49, [17, 1, 144]), (52, [162, 0, 26]), (55, [42]), (56, [180, 0, 115]), (59, [21, 7]), (61, [51]), (62, [153, 0, 16]), (65, [132, 6, 1]), (68, [21, 7]), (70, [21, 5]), (72, [96]), (73, [54, 7]), (75, [167, 255, 228]), (78, [21, 6]), (80, [172])]
theorem rcX12_even_41 : dgo (lb cX12_even) 0 rbX12_even_41 = true := by decide +kernel
theorem dX12_even_41 : decode cX12_even 41 = .ok (.istore 6, 2) := dk_54 (dw rcX12_even_41 0 rfl)
theorem dX12_even_43 : decode cX12_even 43 = .ok (.iload 4, 2) := dk_21 (dw rcX12_even_41 1 rfl)
theorem dX12_even_45 : decode cX12_even 45 = .ok (.istore 7, 2) := dk_54 (dw rcX12_even_41 2 rfl)
theorem dX12_even_47 : decode cX12_even 47 = .ok (.iload 7, 2) := dk_21 (dw rcX12_even_41 3 rfl)
theorem dX12_even_49 : decode cX12_even 49 = .ok (.sipush 400, 3) := dk_17 (dw rcX12_even_41 4 rfl) rfl
theorem dX12_even_52 : decode cX12_even 52 = .ok (.if_icmp .ge 26, 3) := dk_162 (dw rcX12_even_41 5 rfl) rfl
theorem dX12_even_55 : decode cX12_even 55 = .ok (.aload_n 0, 1) := dk_42 (dw rcX12_even_41 6 rfl)
theorem dX12_even_56 : decode cX12_even 56 = .ok (.getfield 115, 3) := dk_180 (dw rcX12_even_41 7 rfl) rfl
theorem dX12_even_59 : decode cX12_even 59 = .ok (.iload 7, 2) := dk_21 (dw rcX12_even_41 8 rfl)
theorem dX12_even_61 : decode cX12_even 61 = .ok (.baload, 1) := dk_51 (dw rcX12_even_41 9 rfl)
theorem dX12_even_62 : decode cX12_even 62 = .ok (.ifCond .eq 16, 3) := dk_153 (dw rcX12_even_41 10 rfl) rfl
theorem dX12_even_65 : decode cX12_even 65 = .ok (.iinc 6 1, 3) := dk_132 (dw rcX12_even_41 11 rfl) rfl
theorem dX12_even_68 : decode cX12_even 68 = .ok (.iload 7, 2) := dk_21 (dw rcX12_even_41 12 rfl)
theorem dX12_even_70 : decode cX12_even 70 = .ok (.iload 5, 2) := dk_21 (dw rcX12_even_41 13 rfl)
theorem dX12_even_72 : decode cX12_even 72 = .ok (.iadd, 1) := dk_96 (dw rcX12_even_41 14 rfl)
theorem dX12_even_73 : decode cX12_even 73 = .ok (.istore 7, 2) := dk_54 (dw rcX12_even_41 15 rfl)
theorem dX12_even_75 : decode cX12_even 75 = .ok (.goto (-28), 3) := dk_167 (dw rcX12_even_41 16 rfl) rfl
theorem dX12_even_78 : decode cX12_even 78 = .ok (.iload 6, 2) := dk_21 (dw rcX12_even_41 17 rfl)
theorem dX12_even_80 : decode cX12_even 80 = .ok (.ireturn, 1) := dk_172 (dw rcX12_even_41 18 rfl)
def rbX12_evenest_0 : List (Nat × List Nat) := [(0, [42]), (1, [27]), (2, [28]), (3, [29]), (4, [182, 1, 234]), (7, [153, 0, 13]), (10, [21, 4]), (12, [3]), (13, [4]), (14, [184, 1, 193]), (17, [154, 0, 5]), (20, [2]), (21, [172]), (22, [42]), (23, [27]), (24, [28]), (25, [29]), (26, [182, 1, 237]), (29, [3]), (30, [54, 5]), (32, [21, 5]), (34, [42]), (35, [180, 1, 222]), (38, [42])]
theorem rcX12_evenest_0 : dgo (lb cX12_evenest) 0 rbX12_evenest_0 = true := by decide +kernel
theorem dX12_evenest_0 : decode cX12_evenest 0 = .ok (.aload_n 0, 1) := dk_42 (dw rcX12_evenest_0 0 rfl)
theorem dX12_evenest_1 : decode cX12_evenest 1 = .ok (.iload_n 1, 1) := dk_27 (dw rcX12_evenest_0 1 rfl)
theorem dX12_evenest_2 : decode cX12_evenest 2 = .ok (.iload_n 2, 1) := dk_28 (dw rcX12_evenest_0 2 rfl)
theorem dX12_evenest_3 : decode cX12_evenest 3 = .ok (.iload_n 3, 1) := dk_29 (dw rcX12_evenest_0 3 rfl)
theorem dX12_evenest_4 : decode cX12_evenest 4 = .ok (.invokevirtual 490, 3) := dk_182 (dw rcX12_evenest_0 4 rfl) rfl
theorem dX12_evenest_7 : decode cX12_evenest 7 = .ok (.ifCond .eq 13, 3) := dk_153 (dw rcX12_evenest_0 5 rfl) rfl
theorem dX12_evenest_10 : decode cX12_evenest 10 = .ok (.iload 4, 2) := dk_21 (dw rcX12_evenest_0 6 rfl)
theorem dX12_evenest_12 : decode cX12_evenest 12 = .ok (.iconst 0, 1) := dk_3 (dw rcX12_evenest_0 7 rfl)
theorem dX12_evenest_13 : decode cX12_evenest 13 = .ok (.iconst 1, 1) := dk_4 (dw rcX12_evenest_0 8 rfl)
theorem dX12_evenest_14 : decode cX12_evenest 14 = .ok (.invokestatic 449, 3) := dk_184 (dw rcX12_evenest_0 9 rfl) rfl
theorem dX12_evenest_17 : decode cX12_evenest 17 = .ok (.ifCond .ne 5, 3) := dk_154 (dw rcX12_evenest_0 10 rfl) rfl
theorem dX12_evenest_20 : decode cX12_evenest 20 = .ok (.iconst (-1), 1) := dk_2 (dw rcX12_evenest_0 11 rfl)
theorem dX12_evenest_21 : decode cX12_evenest 21 = .ok (.ireturn, 1) := dk_172 (dw rcX12_evenest_0 12 rfl)
theorem dX12_evenest_22 : decode cX12_evenest 22 = .ok (.aload_n 0, 1) := dk_42 (dw rcX12_evenest_0 13 rfl)
theorem dX12_evenest_23 : decode cX12_evenest 23 = .ok (.iload_n 1, 1) := dk_27 (dw rcX12_evenest_0 14 rfl)
theorem dX12_evenest_24 : decode cX12_evenest 24 = .ok (.iload_n 2, 1) := dk_28 (dw rcX12_evenest_0 15 rfl)
theorem dX12_evenest_25 : decode cX12_evenest 25 = .ok (.iload_n 3, 1) := dk_29 (dw rcX12_evenest_0 16 rfl)
theorem dX12_evenest_26 : decode cX12_evenest 26 = .ok (.invokevirtual 493, 3) := dk_182 (dw rcX12_evenest_0 17 rfl) rfl
theorem dX12_evenest_29 : decode cX12_evenest 29 = .ok (.iconst 0, 1) := dk_3 (dw rcX12_evenest_0 18 rfl)
theorem dX12_evenest_30 : decode cX12_evenest 30 = .ok (.istore 5, 2) := dk_54 (dw rcX12_evenest_0 19 rfl)
theorem dX12_evenest_32 : decode cX12_evenest 32 = .ok (.iload 5, 2) := dk_21 (dw rcX12_evenest_0 20 rfl)
theorem dX12_evenest_34 : decode cX12_evenest 34 = .ok (.aload_n 0, 1) := dk_42 (dw rcX12_evenest_0 21 rfl)
theorem dX12_evenest_35 : decode cX12_evenest 35 = .ok (.getfield 478, 3) := dk_180 (dw rcX12_evenest_0 22 rfl) rfl
theorem dX12_evenest_38 : decode cX12_evenest 38 = .ok (.aload_n 0, 1) := dk_42 (dw rcX12_evenest_0 23 rfl)
def rbX12_evenest_39 : List (Nat × List Nat) := [(39, [180, 1, 219]), (42, [100]), (43, [163, 0, 60]), (46, [42]), (47, [180, 1, 219]), (50, [54, 6]), (52, [21, 6]), (54, [21, 5]), (56, [96]), (57, [42]), (58, [180, 1, 222]), (61, [163, 0, 36]), (64, [42]), (65, [21, 6]), (67, [21, 6]), (69, [21, 5]), (71, [96]), (72, [182, 2, 14]), (75, [153, 0, 16]), (78, [21, 4]), (80, [154, 0, 8]), (83, [21, 5]), (85, [167, 0, 5]), (88, [21, 6])]
theorem rcX12_evenest_39 : dgo (lb cX12_evenest) 0 rbX12_evenest_39 = true := by decide +kernel
theorem dX12_evenest_39 : decode cX12_evenest 39 = .ok (.getfield 475, 3) := dk_180 (dw rcX12_evenest_39 0 rfl) rfl
theorem dX12_evenest_42 : decode cX12_evenest 42 = .ok (.isub, 1) := dk_100 (dw rcX12_evenest_39 1 rfl)
theorem dX12_evenest_43 : decode cX12_evenest 43 = .ok (.if_icmp .gt 60, 3) := dk_163 (dw rcX12_evenest_39 2 rfl) rfl
theorem dX12_evenest_46 : decode cX12_evenest 46 = .ok (.aload_n 0, 1) := dk_42 (dw rcX12_evenest_39 3 rfl)
theorem dX12_evenest_47 : decode cX12_evenest 47 = .ok (.getfield 475, 3) := dk_180 (dw rcX12_evenest_39 4 rfl) rfl
theorem dX12_evenest_50 : decode cX12_evenest 50 = .ok (.istore 6, 2) := dk_54 (dw rcX12_evenest_39 5 rfl)
theorem dX12_evenest_52 : decode cX12_evenest 52 = .ok (.iload 6, 2) := dk_21 (dw rcX12_evenest_39 6 rfl)
theorem dX12_evenest_54 : decode cX12_evenest 54 = .ok (.iload 5, 2) := dk_21 (dw rcX12_evenest_39 7 rfl)
theorem dX12_evenest_56 : decode cX12_evenest 56 = .ok (.iadd, 1) := dk_96 (dw rcX12_evenest_39 8 rfl)
theorem dX12_evenest_57 : decode cX12_evenest 57 = .ok (.aload_n 0, 1) := dk_42 (dw rcX12_evenest_39 9 rfl)
theorem dX12_evenest_58 : decode cX12_evenest 58 = .ok (.getfield 478, 3) := dk_180 (dw rcX12_evenest_39 10 rfl) rfl
theorem dX12_evenest_61 : decode cX12_evenest 61 = .ok (.if_icmp .gt 36, 3) := dk_163 (dw rcX12_evenest_39 11 rfl) rfl
theorem dX12_evenest_64 : decode cX12_evenest 64 = .ok (.aload_n 0, 1) := dk_42 (dw rcX12_evenest_39 12 rfl)
theorem dX12_evenest_65 : decode cX12_evenest 65 = .ok (.iload 6, 2) := dk_21 (dw rcX12_evenest_39 13 rfl)
theorem dX12_evenest_67 : decode cX12_evenest 67 = .ok (.iload 6, 2) := dk_21 (dw rcX12_evenest_39 14 rfl)
theorem dX12_evenest_69 : decode cX12_evenest 69 = .ok (.iload 5, 2) := dk_21 (dw rcX12_evenest_39 15 rfl)
theorem dX12_evenest_71 : decode cX12_evenest 71 = .ok (.iadd, 1) := dk_96 (dw rcX12_evenest_39 16 rfl)
theorem dX12_evenest_72 : decode cX12_evenest 72 = .ok (.invokevirtual 526, 3) := dk_182 (dw rcX12_evenest_39 17 rfl) rfl
theorem dX12_evenest_75 : decode cX12_evenest 75 = .ok (.ifCond .eq 16, 3) := dk_153 (dw rcX12_evenest_39 18 rfl) rfl
theorem dX12_evenest_78 : decode cX12_evenest 78 = .ok (.iload 4, 2) := dk_21 (dw rcX12_evenest_39 19 rfl)
theorem dX12_evenest_80 : decode cX12_evenest 80 = .ok (.ifCond .ne 8, 3) := dk_154 (dw rcX12_evenest_39 20 rfl) rfl
theorem dX12_evenest_83 : decode cX12_evenest 83 = .ok (.iload 5, 2) := dk_21 (dw rcX12_evenest_39 21 rfl)
theorem dX12_evenest_85 : decode cX12_evenest 85 = .ok (.goto 5, 3) := dk_167 (dw rcX12_evenest_39 22 rfl) rfl
theorem dX12_evenest_88 : decode cX12_evenest 88 = .ok (.iload 6, 2) := dk_21 (dw rcX12_evenest_39 23 rfl)
def rbX12_evenest_90 : List (Nat × List Nat) := [(90, [172]), (91, [132, 6, 1]), (94, [167, 255, 214]), (97, [132, 5, 1]), (100, [167, 255, 188]), (103, [2]), (104, [172])]
theorem rcX12_evenest_90 : dgo (lb cX12_evenest) 0 rbX12_evenest_90 = true := by decide +kernel
theorem dX12_evenest_90 : decode cX12_evenest 90 = .ok (.ireturn, 1) := dk_172 (dw rcX12_evenest_90 0 rfl)
theorem dX12_evenest_91 : decode cX12_evenest 91 = .ok (.iinc 6 1, 3) := dk_132 (dw rcX12_evenest_90 1 rfl) rfl
theorem dX12_evenest_94 : decode cX12_evenest 94 = .ok (.goto (-42), 3) := dk_167 (dw rcX12_evenest_90 2 rfl) rfl
theorem dX12_evenest_97 : decode cX12_evenest 97 = .ok (.iinc 5 1, 3) := dk_132 (dw rcX12_evenest_90 3 rfl) rfl
theorem dX12_evenest_100 : decode cX12_evenest 100 = .ok (.goto (-68), 3) := dk_167 (dw rcX12_evenest_90 4 rfl) rfl
theorem dX12_evenest_103 : decode cX12_evenest 103 = .ok (.iconst (-1), 1) := dk_2 (dw rcX12_evenest_90 5 rfl)
theorem dX12_evenest_104 : decode cX12_evenest 104 = .ok (.ireturn, 1) := dk_172 (dw rcX12_evenest_90 6 rfl)
def rbX12_evens_0 : List (Nat × List Nat) := [(0, [42]), (1, [3]), (2, [181, 1, 190]), (5, [42]), (6, [27]), (7, [28]), (8, [29]), (9, [182, 1, 234]), (12, [154, 0, 5]), (15, [2]), (16, [172]), (17, [42]), (18, [27]), (19, [28]), (20, [29]), (21, [182, 1, 237]), (24, [42]), (25, [180, 1, 219]), (28, [54, 4]), (30, [21, 4]), (32, [42]), (33, [180, 1, 222]), (36, [163, 0, 56]), (39, [3])]
theorem rcX12_evens_0 : dgo (lb cX12_evens) 0 rbX12_evens_0 = true := by decide +kernel
theorem dX12_evens_0 : decode cX12_evens 0 = .ok (.aload_n 0, 1) := dk_42 (dw rcX12_evens_0 0 rfl)
theorem dX12_evens_1 : decode cX12_evens 1 = .ok (.iconst 0, 1) := dk_3 (dw rcX12_evens_0 1 rfl)
theorem dX12_evens_2 : decode cX12_evens 2 = .ok (.putfield 446, 3) := dk_181 (dw rcX12_evens_0 2 rfl) rfl
theorem dX12_evens_5 : decode cX12_evens 5 = .ok (.aload_n 0, 1) := dk_42 (dw rcX12_evens_0 3 rfl)
theorem dX12_evens_6 : decode cX12_evens 6 = .ok (.iload_n 1, 1) := dk_27 (dw rcX12_evens_0 4 rfl)
theorem dX12_evens_7 : decode cX12_evens 7 = .ok (.iload_n 2, 1) := dk_28 (dw rcX12_evens_0 5 rfl)
theorem dX12_evens_8 : decode cX12_evens 8 = .ok (.iload_n 3, 1) := dk_29 (dw rcX12_evens_0 6 rfl)
theorem dX12_evens_9 : decode cX12_evens 9 = .ok (.invokevirtual 490, 3) := dk_182 (dw rcX12_evens_0 7 rfl) rfl
theorem dX12_evens_12 : decode cX12_evens 12 = .ok (.ifCond .ne 5, 3) := dk_154 (dw rcX12_evens_0 8 rfl) rfl
theorem dX12_evens_15 : decode cX12_evens 15 = .ok (.iconst (-1), 1) := dk_2 (dw rcX12_evens_0 9 rfl)
theorem dX12_evens_16 : decode cX12_evens 16 = .ok (.ireturn, 1) := dk_172 (dw rcX12_evens_0 10 rfl)
theorem dX12_evens_17 : decode cX12_evens 17 = .ok (.aload_n 0, 1) := dk_42 (dw rcX12_evens_0 11 rfl)
theorem dX12_evens_18 : decode cX12_evens 18 = .ok (.iload_n 1, 1) := dk_27 (dw rcX12_evens_0 12 rfl)
theorem dX12_evens_19 : decode cX12_evens 19 = .ok (.iload_n 2, 1) := dk_28 (dw rcX12_evens_0 13 rfl)
theorem dX12_evens_20 : decode cX12_evens 20 = .ok (.iload_n 3, 1) := dk_29 (dw rcX12_evens_0 14 rfl)
theorem dX12_evens_21 : decode cX12_evens 21 = .ok (.invokevirtual 493, 3) := dk_182 (dw rcX12_evens_0 15 rfl) rfl
theorem dX12_evens_24 : decode cX12_evens 24 = .ok (.aload_n 0, 1) := dk_42 (dw rcX12_evens_0 16 rfl)
theorem dX12_evens_25 : decode cX12_evens 25 = .ok (.getfield 475, 3) := dk_180 (dw rcX12_evens_0 17 rfl) rfl
theorem dX12_evens_28 : decode cX12_evens 28 = .ok (.istore 4, 2) := dk_54 (dw rcX12_evens_0 18 rfl)
theorem dX12_evens_30 : decode cX12_evens 30 = .ok (.iload 4, 2) := dk_21 (dw rcX12_evens_0 19 rfl)
theorem dX12_evens_32 : decode cX12_evens 32 = .ok (.aload_n 0, 1) := dk_42 (dw rcX12_evens_0 20 rfl)
theorem dX12_evens_33 : decode cX12_evens 33 = .ok (.getfield 478, 3) := dk_180 (dw rcX12_evens_0 21 rfl) rfl
theorem dX12_evens_36 : decode cX12_evens 36 = .ok (.if_icmp .gt 56, 3) := dk_163 (dw rcX12_evens_0 22 rfl) rfl
theorem dX12_evens_39 : decode cX12_evens 39 = .ok (.iconst 0, 1) := dk_3 (dw rcX12_evens_0 23 rfl)
def rbX12_evens_40 : List (Nat × List Nat) := [(40, [54, 5]), (42, [3]), (43, [54, 6]), (45, [21, 6]), (47, [42]), (48, [180, 1, 222]), (51, [162, 0, 24]), (54, [21, 5]), (56, [154, 0, 19]), (59, [42]), (60, [21, 6]), (62, [21, 4]), (64, [182, 2, 17]), (67, [54, 5]), (69, [132, 6, 1]), (72, [167, 255, 229]), (75, [21, 5]), (77, [153, 0, 9]), (80, [42]), (81, [21, 4]), (83, [182, 2, 0]), (86, [132, 4, 1]), (89, [167, 255, 197]), (92, [42])]
theorem rcX12_evens_40 : dgo (lb cX12_evens) 0 rbX12_evens_40 = true := by decide +kernel
theorem dX12_evens_40 : decode cX12_evens 40 = .ok (.istore 5, 2) := dk_54 (dw rcX12_evens_40 0 rfl)
theorem dX12_evens_42 : decode cX12_evens 42 = .ok (.iconst 0, 1) := dk_3 (dw rcX12_evens_40 1 rfl)
theorem dX12_evens_43 : decode cX12_evens 43 = .ok (.istore 6, 2) := dk_54 (dw rcX12_evens_40 2 rfl)
theorem dX12_evens_45 : decode cX12_evens 45 = .ok (.iload 6, 2) := dk_21 (dw rcX12_evens_40 3 rfl)
theorem dX12_evens_47 : decode cX12_evens 47 = .ok (.aload_n 0, 1) := dk_42 (dw rcX12_evens_40 4 rfl)
theorem dX12_evens_48 : decode cX12_evens 48 = .ok (.getfield 478, 3) := dk_180 (dw rcX12_evens_40 5 rfl) rfl
theorem dX12_evens_51 : decode cX12_evens 51 = .ok (.if_icmp .ge 24, 3) := dk_162 (dw rcX12_evens_40 6 rfl) rfl
theorem dX12_evens_54 : decode cX12_evens 54 = .ok (.iload 5, 2) := dk_21 (dw rcX12_evens_40 7 rfl)
theorem dX12_evens_56 : decode cX12_evens 56 = .ok (.ifCond .ne 19, 3) := dk_154 (dw rcX12_evens_40 8 rfl) rfl
theorem dX12_evens_59 : decode cX12_evens 59 = .ok (.aload_n 0, 1) := dk_42 (dw rcX12_evens_40 9 rfl)
theorem dX12_evens_60 : decode cX12_evens 60 = .ok (.iload 6, 2) := dk_21 (dw rcX12_evens_40 10 rfl)
theorem dX12_evens_62 : decode cX12_evens 62 = .ok (.iload 4, 2) := dk_21 (dw rcX12_evens_40 11 rfl)
theorem dX12_evens_64 : decode cX12_evens 64 = .ok (.invokevirtual 529, 3) := dk_182 (dw rcX12_evens_40 12 rfl) rfl
theorem dX12_evens_67 : decode cX12_evens 67 = .ok (.istore 5, 2) := dk_54 (dw rcX12_evens_40 13 rfl)
theorem dX12_evens_69 : decode cX12_evens 69 = .ok (.iinc 6 1, 3) := dk_132 (dw rcX12_evens_40 14 rfl) rfl
theorem dX12_evens_72 : decode cX12_evens 72 = .ok (.goto (-27), 3) := dk_167 (dw rcX12_evens_40 15 rfl) rfl
theorem dX12_evens_75 : decode cX12_evens 75 = .ok (.iload 5, 2) := dk_21 (dw rcX12_evens_40 16 rfl)
theorem dX12_evens_77 : decode cX12_evens 77 = .ok (.ifCond .eq 9, 3) := dk_153 (dw rcX12_evens_40 17 rfl) rfl
theorem dX12_evens_80 : decode cX12_evens 80 = .ok (.aload_n 0, 1) := dk_42 (dw rcX12_evens_40 18 rfl)
theorem dX12_evens_81 : decode cX12_evens 81 = .ok (.iload 4, 2) := dk_21 (dw rcX12_evens_40 19 rfl)
theorem dX12_evens_83 : decode cX12_evens 83 = .ok (.invokevirtual 512, 3) := dk_182 (dw rcX12_evens_40 20 rfl) rfl
theorem dX12_evens_86 : decode cX12_evens 86 = .ok (.iinc 4 1, 3) := dk_132 (dw rcX12_evens_40 21 rfl) rfl
theorem dX12_evens_89 : decode cX12_evens 89 = .ok (.goto (-59), 3) := dk_167 (dw rcX12_evens_40 22 rfl) rfl
theorem dX12_evens_92 : decode cX12_evens 92 = .ok (.aload_n 0, 1) := dk_42 (dw rcX12_evens_40 23 rfl)
def rbX12_evens_93 : List (Nat × List Nat) := [(93, [180, 1, 190]), (96, [172])]
theorem rcX12_evens_93 : dgo (lb cX12_evens) 0 rbX12_evens_93 = true := by decide +kernel
theorem dX12_evens_93 : decode cX12_evens 93 = .ok (.getfield 446, 3) := dk_180 (dw rcX12_evens_93 0 rfl) rfl
theorem dX12_evens_96 : decode cX12_evens 96 = .ok (.ireturn, 1) := dk_172 (dw rcX12_evens_93 1 rfl)
set_option maxHeartbeats 4000000 in
set_option maxRecDepth 100000 in
theorem n_comesToEnd (l : Launch) (D : va_G) (k : KT) (A : Nat → Prop) (a : Nat → Nat) (z : SK) (G : GS) (p0 : Int32) (p1 : Int32) (ha_p0 : 0 ≤ p0.toInt ∧ p0.toInt ≤ 60) (ha_p1 : 1 ≤ p1.toInt ∧ p1.toInt ≤ 60) : Met l yX12_comesToEnd (WS yX12_comesToEnd cX12_comesToEnd 4 (some .boolean)) ({ frames := 2, cells := 0, slots := 0, locals := 42 }) (va_Pc [.ref (a 66), .int p0, .int p1] (cW D k A a z G)) (va_Qi (fun (r : Int32) (G1 : GS) => Q_comesToEnd p0 p1 G r G1) (fun (G1 : GS) t => Wd D k A a G1 t.heap) A) 0 0 A := by
  refine Met.ofW (cc := cX12_comesToEnd) (maxL := 4) (ret := (some .boolean)) (by decide) rfl ?_
  intro p e s m args below meth c s₁ B hml hv
  obtain ⟨rfl, hW, hB_G, hK, hZ⟩ := hv
  have hx := B.exec
  have hb := B.bytes
  have hr := B.returns
  have hts := atoms_spec (ws := WS yX12_comesToEnd cX12_comesToEnd 4 (some .boolean)) B.pre
  have hgd : ∀ w ∈ gd, w ∈ WS yX12_comesToEnd cX12_comesToEnd 4 (some .boolean) := fun w h => List.mem_cons_of_mem _ h
  have hg : ∀ w ∈ gd, w.before _ s = true := fun w h => hts w (hgd w h)
  have hown : s.vm.findClass RX12 = some m.cls := findClass_of_methodNamed B.named
  have hS : va_S A s.heap s.heap [] := va_S.rf
  have hF : Fr [] [] G G := Fr.rf
  have hl := lv_entry ([.ref (a 66), .int p0, .int p1]) (n := 4) (Nat.le_of_ble_eq_true rfl)
  rw [lg_entry_eq]
  generalize (lg_sl ([.ref (a 66), .int p0, .int p1]) ++ List.replicate (4 - (lg_sl ([.ref (a 66), .int p0, .int p1])).length) Slot.unset).toArray = ls at hl ⊢
  have hl : lv_has ls 4 [(0, .ref (a 66)), (1, .int p0), (2, .int p1)] := hl
  refine lv_iload_n hx hb dX12_comesToEnd_0 rfl (lv_at hl 1 rfl) ?_
  refine lv_istore_n (lv' := [(3, .int p0), (0, .ref (a 66)), (1, .int p0), (2, .int p1)]) hx hb dX12_comesToEnd_1 rfl hl (lt_b rfl) rfl (fun ls hl => ?_)
  refine loop_N (Inv := fun n H locs ls => ∃ (G_1 : GS) (x_5 : Int32), (n : Int) = 511 - x_5.toInt ∧ (0 ≤ x_5.toInt ∧ x_5.toInt ≤ 511) ∧ Rc (St_n_comesToEnd_1 p1) (p0, G) (x_5, G_1) ∧ Wd D k A a G_1 H ∧ Bd G_1 ∧ Fr [] [] G G_1 ∧ Fr [] [] G G_1 ∧ va_S A s.heap H locs ∧ lv_has ls 4 [(3, .int x_5), (0, .ref (a 66)), (2, .int p1)]) (fun n_4 H locs ls ih_3 hI => ?_) (511 - p0.toInt : Int).toNat ⟨G, p0, (Int.toNat_of_nonneg (by omega)), ⟨by omega, by omega⟩, Rc.rf, hW, hB_G, hF, Fr.rf, hS, lv_sub hl [0, 1, 3] rfl⟩
  obtain ⟨G_1, x_5, hn_8, f_7, hX_6, hW, hB_G_1, hF, hq_2, hS, hl⟩ := hI
  refine lv_aload_n hx hb dX12_comesToEnd_2 rfl (lv_at hl 1 rfl) ?_
  refine S_getR (n := 98) (C := RX12) (T := TX12) (N := 89) hx hb hg iX12 hown hK hW kd_66 rfl 58 (lt_b rfl) (hg (Cond.fieldLink RX12 115 "SlabWalkModel" "lawful" "[Z") m1372) (fun _ h9 => h9) rfl dX12_comesToEnd_3 ?_
  refine lv_iload_n hx hb dX12_comesToEnd_6 rfl (lv_at hl 0 rfl) ?_
  refine S_zald hx hb hK hW kd_98 (vin ((by first | (clear ha_p0 ha_p1 hn_8; omega) | omega)) ((by first | (clear ha_p0 ha_p1 hn_8; omega) | omega))) dX12_comesToEnd_7 (fun y_9 ey_9 => ?_)
  have ty_9 := hB_G_1.law ey_9
  refine lv_if_eq (tgt := 26) hx hb dX12_comesToEnd_8 rfl (fun c_10 => ?_) (fun c_10 => ?_)
  · have c_10 : y_9.toInt = 0 := xI_eq rfl rfl c_10
    refine lv_aload_n hx hb dX12_comesToEnd_26 rfl (lv_at hl 1 rfl) ?_
    refine S_getR (n := 98) (C := RX12) (T := TX12) (N := 89) hx hb hg iX12 hown hK hW kd_66 rfl 58 (lt_b rfl) (hg (Cond.fieldLink RX12 115 "SlabWalkModel" "lawful" "[Z") m1372) (fun _ h9 => h9) rfl dX12_comesToEnd_27 ?_
    refine lv_iload_n hx hb dX12_comesToEnd_30 rfl (lv_at hl 0 rfl) ?_
    refine S_zald hx hb hK hW kd_98 (vin ((by first | (clear ha_p0 ha_p1 hn_8 c_10; omega) | omega)) ((by first | (clear ha_p0 ha_p1 hn_8 c_10; omega) | omega))) dX12_comesToEnd_31 (fun y_11 ey_11 => ?_)
    have ty_11 := hB_G_1.law ey_11
    exact W.zret (v := y_11) hx hb hr (nar_z ((by first | (clear ha_p0 ha_p1 hn_8 f_7 c_10; omega) | omega)) ((by first | (clear ha_p0 ha_p1 hn_8 f_7 c_10; omega) | omega))) (fun t ht _ => ⟨⟨y_11, G_1, rfl, (Q_comesToEnd_mk ⟨hB_G_1, hF, ⟨(by first | (clear ha_p0 ha_p1 hn_8 f_7 c_10; omega) | omega), (by first | (clear ha_p0 ha_p1 hn_8 f_7 c_10; omega) | omega)⟩, ⟨x_5, G_1, hX_6, f_7, hB_G_1, hq_2, ⟨y_9, ey_9, (Or.inl ⟨c_10, ⟨y_11, ey_11, ⟨rfl, rfl⟩⟩⟩)⟩⟩⟩), wd_t ht hW⟩, hS.F ht⟩) hS.2.2 dX12_comesToEnd_32
  · have c_10 : y_9.toInt ≠ 0 := xI_ne rfl rfl c_10
    refine lv_aload_n hx hb dX12_comesToEnd_11 rfl (lv_at hl 1 rfl) ?_
    refine lv_iload_n hx hb dX12_comesToEnd_12 rfl (lv_at hl 0 rfl) ?_
    have b_12 : 0 ≤ (G.1 66 59).toInt ∧ (G.1 66 59).toInt ≤ 400 := bd_66_59 hB_G
    have g_13 : (G_1.1 66 59).toInt = (G.1 66 59).toInt := (congrArg Int32.toInt (show G_1.1 66 59 = (G.1 66 59) from (hq_2.i9 66 59 rfl rfl)))
    have b_14 : 0 ≤ (G.1 66 60).toInt ∧ (G.1 66 60).toInt ≤ 12 := bd_66_60 hB_G
    have g_15 : (G_1.1 66 60).toInt = (G.1 66 60).toInt := (congrArg Int32.toInt (show G_1.1 66 60 = (G.1 66 60) from (hq_2.i9 66 60 rfl rfl)))
    have b_16 : 0 ≤ (G.1 66 62).toInt ∧ (G.1 66 62).toInt ≤ 60 := bd_66_62 hB_G
    have g_17 : (G_1.1 66 62).toInt = (G.1 66 62).toInt := (congrArg Int32.toInt (show G_1.1 66 62 = (G.1 66 62) from (hq_2.i9 66 62 rfl rfl)))
    refine S_calli (va_runV (As := [.int x_5]) (rest := []) ⟨hx, hb, hml, hown, hts⟩ (n_isEnd l D k A a z G_1 x_5 ⟨(by first | (clear ha_p0 ha_p1 hn_8 c_10 b_12 g_13 b_14 g_15 b_16 g_17; omega) | omega), (by first | (clear ha_p0 ha_p1 hn_8 c_10 b_12 g_13 b_14 g_15 b_16 g_17; omega) | omega)⟩) (cwV 1 hts (gd_V hgd m1854 m1856 m95 m131 m1857) rfl rfl rfl hd_X12_isEnd ⟨Nat.le_of_ble_eq_true rfl, Nat.le_of_ble_eq_true rfl⟩) (pre_W hW hB_G_1 hK hZ hS kd_66 rfl) rfl rfl hl.1 rfl (lv_room (Nat.le_of_ble_eq_true rfl)) dX12_comesToEnd_13 ⟨Nat.le_of_ble_eq_true rfl, Nat.le_of_ble_eq_true rfl⟩) hS (fun r_18 G_19 H locs hpo hW hS => ?_)
    have hX_22 : Q_isEnd x_5 G_1 r_18 G_19 := hpo
    obtain ⟨hB_G_19, hq_20, f_23, ⟨d_1, d_2⟩, -⟩ := hpo
    have hF := hF.call9 hq_20 rfl rfl
    refine lv_if_ne (tgt := 26) hx hb dX12_comesToEnd_16 rfl (fun c_24 => ?_) (fun c_24 => ?_)
    · have c_24 : r_18.toInt ≠ 0 := xI_ne rfl rfl c_24
      refine lv_aload_n hx hb dX12_comesToEnd_26 rfl (lv_at hl 1 rfl) ?_
      refine S_getR (n := 98) (C := RX12) (T := TX12) (N := 89) hx hb hg iX12 hown hK hW kd_66 rfl 58 (lt_b rfl) (hg (Cond.fieldLink RX12 115 "SlabWalkModel" "lawful" "[Z") m1372) (fun _ h9 => h9) rfl dX12_comesToEnd_27 ?_
      refine lv_iload_n hx hb dX12_comesToEnd_30 rfl (lv_at hl 0 rfl) ?_
      refine S_zald hx hb hK hW kd_98 (vin ((by first | (clear ha_p0 ha_p1 hn_8 c_10 d_1; omega) | omega)) ((by first | (clear ha_p0 ha_p1 hn_8 c_10 d_1; omega) | omega))) dX12_comesToEnd_31 (fun y_25 ey_25 => ?_)
      have ty_25 := hB_G_19.law ey_25
      exact W.zret (v := y_25) hx hb hr (nar_z ((by first | (clear ha_p0 ha_p1 hn_8 f_7 c_10 b_12 g_13 b_14 g_15 b_16 g_17 f_23 d_1 d_2 c_24; omega) | omega)) ((by first | (clear ha_p0 ha_p1 hn_8 f_7 c_10 b_12 g_13 b_14 g_15 b_16 g_17 f_23 d_1 d_2 c_24; omega) | omega))) (fun t ht _ => ⟨⟨y_25, G_19, rfl, (Q_comesToEnd_mk ⟨hB_G_19, hF, ⟨(by first | (clear ha_p0 ha_p1 hn_8 f_7 c_10 b_12 g_13 b_14 g_15 b_16 g_17 f_23 d_1 d_2 c_24; omega) | omega), (by first | (clear ha_p0 ha_p1 hn_8 f_7 c_10 b_12 g_13 b_14 g_15 b_16 g_17 f_23 d_1 d_2 c_24; omega) | omega)⟩, ⟨x_5, G_1, hX_6, f_7, hB_G_1, hq_2, ⟨y_9, ey_9, (Or.inr ⟨c_10, ⟨r_18, G_19, hX_22, ⟨c_24, ⟨y_25, ey_25, ⟨rfl, rfl⟩⟩⟩⟩⟩)⟩⟩⟩), wd_t ht hW⟩, hS.F ht⟩) hS.2.2 dX12_comesToEnd_32
    · have c_24 : r_18.toInt = 0 := xI_eq rfl rfl c_24
      have d_3 := d_1 c_24
      refine lv_iload_n hx hb dX12_comesToEnd_19 rfl (lv_at hl 0 rfl) ?_
      refine lv_iload_n hx hb dX12_comesToEnd_20 rfl (lv_at hl 2 rfl) ?_
      refine lv_iadd hx hb dX12_comesToEnd_21 ?_
      refine lv_topi (fun y_26 ey_26 => ?_)
      have ty_26 : y_26.toInt = x_5.toInt + p1.toInt := xI_add rfl rfl ey_26 ((by first | (clear ha_p0 hn_8 c_10 d_1; omega) | omega)) ((by first | (clear ha_p0 hn_8 c_10 d_1; omega) | omega))
      refine lv_istore_n (lv' := [(3, .int y_26), (0, .ref (a 66)), (2, .int p1)]) hx hb dX12_comesToEnd_22 rfl hl (lt_b rfl) rfl (fun ls hl => ?_)
      refine lv_goto (tgt := 2) hx hb dX12_comesToEnd_23 rfl ?_
      exact ih_3 (511 - y_26.toInt : Int).toNat ((by first | (clear ha_p0 c_10 d_1; omega) | omega)) _ _ _ ⟨G_19, y_26, (Int.toNat_of_nonneg ((by first | (clear ha_p0 hn_8 c_10 d_1; omega) | omega))), ⟨(by first | (clear ha_p0 hn_8 c_10 d_1; omega) | omega), (by first | (clear ha_p0 hn_8 c_10 d_1; omega) | omega)⟩, (hX_6.st (St_n_comesToEnd_1_mk ⟨x_5, G_1, y_26, G_19, rfl, rfl, f_7, hB_G_1, ⟨y_9, ey_9, ⟨c_10, ⟨r_18, G_19, hX_22, ⟨c_24, ⟨y_26, ty_26, ⟨rfl, rfl⟩⟩⟩⟩⟩⟩⟩)), hW, hB_G_19, hF, (Fr.call9 (rs := []) (fs := []) (Fr.call9 (rs := []) (fs := []) Fr.rf hq_2 rfl rfl) hq_20 rfl rfl), hS, lv_sub hl [0, 1, 2] rfl⟩

set_option maxHeartbeats 4000000 in
set_option maxRecDepth 100000 in
theorem n_even (l : Launch) (D : va_G) (k : KT) (A : Nat → Prop) (a : Nat → Nat) (z : SK) (G : GS) (p0 : Int32) (p1 : Int32) (p2 : Int32) (p3 : Int32) (p4 : Int32) (hP9 : gP G = 1) : Met l yX12_even (WS yX12_even cX12_even 8 (some .int)) ({ frames := 5, cells := 0, slots := 0, locals := 117 }) (va_Pc [.ref (a 66), .int p0, .int p1, .int p2, .int p3, .int p4] (cW D k A a z G)) (va_Qi (fun (r : Int32) (G1 : GS) => Q_even p0 p1 p2 p3 p4 G r G1) (fun (G1 : GS) t => Wd D k A a G1 t.heap) A) 0 0 A := by
  refine Met.ofW (cc := cX12_even) (maxL := 8) (ret := (some .int)) (by decide) rfl ?_
  intro p e s m args below meth c s₁ B hml hv
  obtain ⟨rfl, hW, hB_G, hK, hZ⟩ := hv
  have hx := B.exec
  have hb := B.bytes
  have hr := B.returns
  have hts := atoms_spec (ws := WS yX12_even cX12_even 8 (some .int)) B.pre
  have hgd : ∀ w ∈ gd, w ∈ WS yX12_even cX12_even 8 (some .int) := fun w h => List.mem_cons_of_mem _ h
  have hg : ∀ w ∈ gd, w.before _ s = true := fun w h => hts w (hgd w h)
  have hown : s.vm.findClass RX12 = some m.cls := findClass_of_methodNamed B.named
  have hS : va_S A s.heap s.heap [] := va_S.rf
  have hF : Fr [76, 97, 98] [(66, 59), (66, 60), (66, 61), (66, 62), (66, 63)] G G := Fr.rf
  have hl := lv_entry ([.ref (a 66), .int p0, .int p1, .int p2, .int p3, .int p4]) (n := 8) (Nat.le_of_ble_eq_true rfl)
  rw [lg_entry_eq]
  generalize (lg_sl ([.ref (a 66), .int p0, .int p1, .int p2, .int p3, .int p4]) ++ List.replicate (8 - (lg_sl ([.ref (a 66), .int p0, .int p1, .int p2, .int p3, .int p4])).length) Slot.unset).toArray = ls at hl ⊢
  have hl : lv_has ls 8 [(0, .ref (a 66)), (1, .int p0), (2, .int p1), (3, .int p2), (4, .int p3), (5, .int p4)] := hl
  refine lv_aload_n hx hb dX12_even_0 rfl (lv_at hl 0 rfl) ?_
  refine lv_iload_n hx hb dX12_even_1 rfl (lv_at hl 1 rfl) ?_
  refine lv_iload_n hx hb dX12_even_2 rfl (lv_at hl 2 rfl) ?_
  refine lv_iload_n hx hb dX12_even_3 rfl (lv_at hl 3 rfl) ?_
  refine S_calli (va_runV (As := [.int p0, .int p1, .int p2]) (rest := []) ⟨hx, hb, hml, hown, hts⟩ (n_isAsked l D k A a z G p0 p1 p2 ) (cwV 3 hts (gd_V hgd m1826 m1828 m89 m131 m1829) rfl rfl rfl hd_X12_isAsked ⟨Nat.le_of_ble_eq_true rfl, Nat.le_of_ble_eq_true rfl⟩) (pre_W hW hB_G hK hZ hS kd_66 rfl) rfl rfl hl.1 rfl (lv_room (Nat.le_of_ble_eq_true rfl)) dX12_even_4 ⟨Nat.le_of_ble_eq_true rfl, Nat.le_of_ble_eq_true rfl⟩) hS (fun r_1 G_2 H locs hpo hW hS => ?_)
  have hX_5 : Q_isAsked p0 p1 p2 G r_1 G_2 := hpo
  obtain ⟨hB_G_2, hq_3, f_6, hp_4, -⟩ := hpo
  have hF := hF.call9 hq_3 rfl rfl
  refine lv_if_eq (tgt := 31) hx hb dX12_even_7 rfl (fun c_7 => ?_) (fun c_7 => ?_)
  · have c_7 : r_1.toInt = 0 := xI_eq rfl rfl c_7
    refine ic_m1 hx hb dX12_even_31 ?_
    exact W.iret (v := (-1)) hx hb hr (fun t ht _ => ⟨⟨(-1), G_2, rfl, (Q_even_mk ⟨hB_G_2, hF, ⟨r_1, G_2, hX_5, (Or.inl ⟨c_7, ⟨rfl, rfl⟩⟩)⟩⟩), wd_t ht hW⟩, hS.F ht⟩) hS.2.2 dX12_even_32
  · have c_7 : r_1.toInt ≠ 0 := xI_ne rfl rfl c_7
    refine lv_aload_n hx hb dX12_even_10 rfl (lv_at hl 0 rfl) ?_
    refine lv_iload_n hx hb dX12_even_11 rfl (lv_at hl 2 rfl) ?_
    refine lv_iload hx hb dX12_even_12 (lv_at hl 4 rfl) ?_
    refine S_calli (va_runV (As := [.int p1, .int p3]) (rest := []) ⟨hx, hb, hml, hown, hts⟩ (n_isInch l D k A a z G_2 p1 p3 ⟨by omega, by omega⟩) (cwV 2 hts (gd_V hgd m1784 m1786 m84 m131 m1787) rfl rfl rfl hd_X12_isInch ⟨Nat.le_of_ble_eq_true rfl, Nat.le_of_ble_eq_true rfl⟩) (pre_W hW hB_G_2 hK hZ hS kd_66 rfl) rfl rfl hl.1 rfl (lv_room (Nat.le_of_ble_eq_true rfl)) dX12_even_14 ⟨Nat.le_of_ble_eq_true rfl, Nat.le_of_ble_eq_true rfl⟩) hS (fun r_8 G_9 H locs hpo hW hS => ?_)
    have hX_12 : Q_isInch p1 p3 G_2 r_8 G_9 := hpo
    obtain ⟨hB_G_9, hq_10, f_13, hp_11, -⟩ := hpo
    have hF := hF.call9 hq_10 rfl rfl
    refine lv_if_eq (tgt := 31) hx hb dX12_even_17 rfl (fun c_14 => ?_) (fun c_14 => ?_)
    · have c_14 : r_8.toInt = 0 := xI_eq rfl rfl c_14
      refine ic_m1 hx hb dX12_even_31 ?_
      exact W.iret (v := (-1)) hx hb hr (fun t ht _ => ⟨⟨(-1), G_9, rfl, (Q_even_mk ⟨hB_G_9, hF, ⟨r_1, G_2, hX_5, (Or.inr ⟨c_7, ⟨r_8, G_9, hX_12, (Or.inl ⟨c_14, ⟨rfl, rfl⟩⟩)⟩⟩)⟩⟩), wd_t ht hW⟩, hS.F ht⟩) hS.2.2 dX12_even_32
    · have c_14 : r_8.toInt ≠ 0 := xI_ne rfl rfl c_14
      refine lv_iload hx hb dX12_even_20 (lv_at hl 5 rfl) ?_
      refine ic_1 hx hb dX12_even_22 ?_
      refine lv_bipush (v := 99) hx hb dX12_even_23 (by decide) ?_
      have qc_15 : (1 : Int32).toInt = 1 := rfl
      have qc_16 : (99 : Int32).toInt = 99 := rfl
      refine S_calli (va_runS (As := [.int p4, .int 1, .int 99]) (rest := []) ⟨hx, hb, hml, hown, hts⟩ (n_isIn l D k A a z G_9 p4 1 99 ) (va_cwS 3 hts (gd_S hgd m1781 m1782 m131 m1783) rfl rfl rfl hd_X12_isIn.2 ⟨Nat.le_of_ble_eq_true rfl, Nat.le_of_ble_eq_true rfl⟩) (pre_S hW hB_G_9 hK hZ hS) rfl rfl hl.1 rfl (lv_room (Nat.le_of_ble_eq_true rfl)) dX12_even_25 ⟨Nat.le_of_ble_eq_true rfl, Nat.le_of_ble_eq_true rfl⟩) hS (fun r_17 G_18 H locs hpo hW hS => ?_)
      have hX_21 : Q_isIn p4 1 99 G_9 r_17 G_18 := hpo
      obtain ⟨hB_G_18, hq_19, f_22, ⟨d_1, d_2⟩, -⟩ := hpo
      have hF := hF.call9 hq_19 rfl rfl
      refine lv_if_ne (tgt := 33) hx hb dX12_even_28 rfl (fun c_23 => ?_) (fun c_23 => ?_)
      · have c_23 : r_17.toInt ≠ 0 := xI_ne rfl rfl c_23
        refine lv_aload_n hx hb dX12_even_33 rfl (lv_at hl 0 rfl) ?_
        refine lv_iload_n hx hb dX12_even_34 rfl (lv_at hl 1 rfl) ?_
        refine lv_iload_n hx hb dX12_even_35 rfl (lv_at hl 2 rfl) ?_
        refine lv_iload_n hx hb dX12_even_36 rfl (lv_at hl 3 rfl) ?_
        have fr_24 : Fr [] [] G G_18 := (Fr.call9 (rs := []) (fs := []) (Fr.call9 (rs := []) (fs := []) (Fr.call9 (rs := []) (fs := []) Fr.rf hq_3 rfl rfl) hq_10 rfl rfl) hq_19 rfl rfl)
        have g_25 : gP G_18 = gP G := gP_fr fr_24 (gr_q rfl) (gf_q rfl)
        refine S_callv (va_runV (As := [.int p0, .int p1, .int p2]) (rest := []) ⟨hx, hb, hml, hown, hts⟩ (n_layStreet l D k A a z G_18 p0 p1 p2 ⟨(by first | (clear hP9 f_13 hp_11 c_14 f_22 d_1 d_2 c_23 g_25; omega) | omega), (by first | (clear hP9 f_13 hp_11 c_14 f_22 d_1 d_2 c_23 g_25; omega) | omega)⟩ ⟨(by first | (clear hP9 f_13 hp_11 c_14 f_22 d_1 d_2 c_23 g_25; omega) | omega), (by first | (clear hP9 f_13 hp_11 c_14 f_22 d_1 d_2 c_23 g_25; omega) | omega)⟩ ((by first | (clear f_6 hp_4 c_7 f_13 hp_11 c_14 f_22 d_1 d_2 c_23; omega) | omega))) (cwV 3 hts (gd_V hgd m1834 m1836 m91 m131 m1837) rfl rfl rfl hd_X12_layStreet ⟨Nat.le_of_ble_eq_true rfl, Nat.le_of_ble_eq_true rfl⟩) (pre_W hW hB_G_18 hK hZ hS kd_66 rfl) rfl rfl hl.1 rfl (lv_room (Nat.le_of_ble_eq_true rfl)) dX12_even_37 ⟨Nat.le_of_ble_eq_true rfl, Nat.le_of_ble_eq_true rfl⟩) hS (fun G_27 H locs hpo hW hS => ?_)
        have hX_30 : Q_layStreet p0 p1 p2 G_18 G_27 := hpo
        obtain ⟨hB_G_27, hq_28, ⟨d_3, d_4, d_5, d_6, d_7, d_8⟩, -⟩ := hpo
        have hF := hF.call9 hq_28 rfl rfl
        refine ic_0 hx hb dX12_even_40 ?_
        refine lv_istore (lv' := [(6, .int 0), (0, .ref (a 66)), (1, .int p0), (2, .int p1), (3, .int p2), (4, .int p3), (5, .int p4)]) hx hb dX12_even_41 hl (lt_b rfl) rfl (fun ls hl => ?_)
        refine lv_iload hx hb dX12_even_43 (lv_at hl 5 rfl) ?_
        refine lv_istore (lv' := [(7, .int p3), (6, .int 0), (0, .ref (a 66)), (1, .int p0), (2, .int p1), (3, .int p2), (4, .int p3), (5, .int p4)]) hx hb dX12_even_45 hl (lt_b rfl) rfl (fun ls hl => ?_)
        have qc_38 : (0 : Int32).toInt = 0 := rfl
        refine loop_N (Inv := fun n H locs ls => ∃ (G_31 : GS) (x_35 : Int32) (x_36 : Int32), (n : Int) = 600 - x_35.toInt ∧ (0 ≤ x_35.toInt ∧ x_35.toInt ≤ 500) ∧ Rc (St_n_even_1 p4) (p3, 0, G_27) (x_35, x_36, G_31) ∧ Wd D k A a G_31 H ∧ Bd G_31 ∧ Fr [76, 97, 98] [(66, 59), (66, 60), (66, 61), (66, 62), (66, 63)] G G_31 ∧ Fr [] [] G_27 G_31 ∧ va_S A s.heap H locs ∧ lv_has ls 8 [(7, .int x_35), (6, .int x_36), (0, .ref (a 66)), (5, .int p4)]) (fun n_34 H locs ls ih_33 hI => ?_) (600 - p3.toInt : Int).toNat ⟨G_27, p3, 0, (Int.toNat_of_nonneg ((by first | (clear hP9 f_6 hp_4 c_7 f_22 d_1 d_2 c_23 g_25 d_3 d_4 d_5 d_6 d_7 d_8; omega) | omega))), ⟨(by first | (clear hP9 f_6 hp_4 c_7 f_22 d_1 d_2 c_23 g_25 d_3 d_4 d_5 d_6 d_7 d_8; omega) | omega), (by first | (clear hP9 f_6 hp_4 c_7 f_22 d_1 d_2 c_23 g_25 d_3 d_4 d_5 d_6 d_7 d_8; omega) | omega)⟩, Rc.rf, hW, hB_G_27, hF, Fr.rf, hS, lv_sub hl [0, 1, 2, 7] rfl⟩
        obtain ⟨G_31, x_35, x_36, hn_40, f_39, hX_37, hW, hB_G_31, hF, hq_32, hS, hl⟩ := hI
        refine lv_iload hx hb dX12_even_47 (lv_at hl 0 rfl) ?_
        refine lv_sipush (v := 400) hx hb dX12_even_49 (by decide) ?_
        refine lv_icmp_ge (tgt := 78) hx hb dX12_even_52 rfl (fun c_41 => ?_) (fun c_41 => ?_)
        · have c_41 : 400 ≤ x_35.toInt := xI_le rfl rfl c_41
          refine lv_iload hx hb dX12_even_78 (lv_at hl 1 rfl) ?_
          exact W.iret (v := x_36) hx hb hr (fun t ht _ => ⟨⟨x_36, G_31, rfl, (Q_even_mk ⟨hB_G_31, hF, ⟨r_1, G_2, hX_5, (Or.inr ⟨c_7, ⟨r_8, G_9, hX_12, (Or.inr ⟨c_14, ⟨r_17, G_18, hX_21, (Or.inr ⟨c_23, ⟨G_27, hX_30, ⟨x_35, x_36, G_31, hX_37, f_39, hB_G_31, hq_32, (Or.inl ⟨c_41, ⟨rfl, rfl⟩⟩)⟩⟩⟩)⟩⟩)⟩⟩)⟩⟩), wd_t ht hW⟩, hS.F ht⟩) hS.2.2 dX12_even_80
        · have c_41 : x_35.toInt < 400 := xI_nle rfl rfl c_41
          refine lv_aload_n hx hb dX12_even_55 rfl (lv_at hl 2 rfl) ?_
          refine S_getR (n := 98) (C := RX12) (T := TX12) (N := 89) hx hb hg iX12 hown hK hW kd_66 rfl 58 (lt_b rfl) (hg (Cond.fieldLink RX12 115 "SlabWalkModel" "lawful" "[Z") m1372) (fun _ h9 => h9) rfl dX12_even_56 ?_
          refine lv_iload hx hb dX12_even_59 (lv_at hl 0 rfl) ?_
          refine S_zald hx hb hK hW kd_98 (vin ((by first | (clear hP9 f_6 hp_4 c_7 f_13 hp_11 c_14 f_22 d_1 d_2 c_23 g_25 d_3 d_4 d_5 d_6 d_7 d_8 hn_40; omega) | omega)) ((by first | (clear hP9 f_6 hp_4 c_7 f_13 hp_11 c_14 f_22 d_1 d_2 c_23 g_25 d_3 d_4 d_5 d_6 d_7 d_8 hn_40; omega) | omega))) dX12_even_61 (fun y_42 ey_42 => ?_)
          have ty_42 := hB_G_31.law ey_42
          refine lv_if_eq (tgt := 78) hx hb dX12_even_62 rfl (fun c_43 => ?_) (fun c_43 => ?_)
          · have c_43 : y_42.toInt = 0 := xI_eq rfl rfl c_43
            refine lv_iload hx hb dX12_even_78 (lv_at hl 1 rfl) ?_
            exact W.iret (v := x_36) hx hb hr (fun t ht _ => ⟨⟨x_36, G_31, rfl, (Q_even_mk ⟨hB_G_31, hF, ⟨r_1, G_2, hX_5, (Or.inr ⟨c_7, ⟨r_8, G_9, hX_12, (Or.inr ⟨c_14, ⟨r_17, G_18, hX_21, (Or.inr ⟨c_23, ⟨G_27, hX_30, ⟨x_35, x_36, G_31, hX_37, f_39, hB_G_31, hq_32, (Or.inr ⟨c_41, ⟨y_42, ey_42, ⟨c_43, ⟨rfl, rfl⟩⟩⟩⟩)⟩⟩⟩)⟩⟩)⟩⟩)⟩⟩), wd_t ht hW⟩, hS.F ht⟩) hS.2.2 dX12_even_80
          · have c_43 : y_42.toInt ≠ 0 := xI_ne rfl rfl c_43
            obtain ⟨y_44, ey_44⟩ : ∃ q, q = x_36 + 1 := ⟨_, rfl⟩
            refine lv_iinc (v := y_44) (lv' := [(6, .int y_44), (7, .int x_35), (0, .ref (a 66)), (5, .int p4)]) hx hb dX12_even_65 hl (k := 1) rfl (by rw [ey_44]; rfl) (lt_b rfl) rfl (fun ls hl => ?_)
            refine lv_iload hx hb dX12_even_68 (lv_at hl 1 rfl) ?_
            refine lv_iload hx hb dX12_even_70 (lv_at hl 3 rfl) ?_
            refine lv_iadd hx hb dX12_even_72 ?_
            refine lv_topi (fun y_45 ey_45 => ?_)
            have ty_45 : y_45.toInt = x_35.toInt + p4.toInt := xI_add rfl rfl ey_45 ((by first | (clear hP9 f_6 hp_4 c_7 f_13 hp_11 c_14 g_25 d_3 d_4 d_5 d_6 d_7 d_8 hn_40 c_43; omega) | omega)) ((by first | (clear hP9 f_6 hp_4 c_7 f_13 hp_11 c_14 g_25 d_3 d_4 d_5 d_6 d_7 d_8 hn_40 c_43; omega) | omega))
            refine lv_istore (lv' := [(7, .int y_45), (6, .int y_44), (0, .ref (a 66)), (5, .int p4)]) hx hb dX12_even_73 hl (lt_b rfl) rfl (fun ls hl => ?_)
            refine lv_goto (tgt := 47) hx hb dX12_even_75 rfl ?_
            exact ih_33 (600 - y_45.toInt : Int).toNat ((by first | (clear hP9 f_6 hp_4 c_7 f_13 hp_11 c_14 g_25 d_3 d_4 d_5 d_6 d_7 d_8 c_43; omega) | omega)) _ _ _ ⟨G_31, y_45, y_44, (Int.toNat_of_nonneg ((by first | (clear hP9 f_6 hp_4 c_7 f_13 hp_11 c_14 g_25 d_3 d_4 d_5 d_6 d_7 d_8 hn_40 c_43; omega) | omega))), ⟨(by first | (clear hP9 f_6 hp_4 c_7 f_13 hp_11 c_14 g_25 d_3 d_4 d_5 d_6 d_7 d_8 hn_40 c_43; omega) | omega), (by first | (clear hP9 f_6 hp_4 c_7 f_13 hp_11 c_14 g_25 d_3 d_4 d_5 d_6 d_7 d_8 hn_40 c_43; omega) | omega)⟩, (hX_37.st (St_n_even_1_mk ⟨x_35, x_36, G_31, y_45, y_44, G_31, rfl, rfl, f_39, hB_G_31, ⟨c_41, ⟨y_42, ey_42, ⟨c_43, ⟨y_44, ey_44, ⟨y_45, ty_45, ⟨rfl, rfl, rfl⟩⟩⟩⟩⟩⟩⟩)), hW, hB_G_31, hF, (Fr.call9 (rs := []) (fs := []) Fr.rf hq_32 rfl rfl), hS, lv_sub hl [0, 1, 2, 3] rfl⟩
      · have c_23 : r_17.toInt = 0 := xI_eq rfl rfl c_23
        refine ic_m1 hx hb dX12_even_31 ?_
        exact W.iret (v := (-1)) hx hb hr (fun t ht _ => ⟨⟨(-1), G_18, rfl, (Q_even_mk ⟨hB_G_18, hF, ⟨r_1, G_2, hX_5, (Or.inr ⟨c_7, ⟨r_8, G_9, hX_12, (Or.inr ⟨c_14, ⟨r_17, G_18, hX_21, (Or.inl ⟨c_23, ⟨rfl, rfl⟩⟩)⟩⟩)⟩⟩)⟩⟩), wd_t ht hW⟩, hS.F ht⟩) hS.2.2 dX12_even_32

set_option maxHeartbeats 4000000 in
set_option maxRecDepth 100000 in
theorem n_evens (l : Launch) (D : va_G) (k : KT) (A : Nat → Prop) (a : Nat → Nat) (z : SK) (G : GS) (p0 : Int32) (p1 : Int32) (p2 : Int32) (hP9 : gP G = 1) (hW9 : gW G = 1) : Met l yX12_evens (WS yX12_evens cX12_evens 7 (some .int)) ({ frames := 5, cells := 0, slots := 0, locals := 117 }) (va_Pc [.ref (a 66), .int p0, .int p1, .int p2] (cW D k A a z G)) (va_Qi (fun (r : Int32) (G1 : GS) => Q_evens p0 p1 p2 G r G1) (fun (G1 : GS) t => Wd D k A a G1 t.heap) A) 0 0 A := by
  refine Met.ofW (cc := cX12_evens) (maxL := 7) (ret := (some .int)) (by decide) rfl ?_
  intro p e s m args below meth c s₁ B hml hv
  obtain ⟨rfl, hW, hB_G, hK, hZ⟩ := hv
  have hx := B.exec
  have hb := B.bytes
  have hr := B.returns
  have hts := atoms_spec (ws := WS yX12_evens cX12_evens 7 (some .int)) B.pre
  have hgd : ∀ w ∈ gd, w ∈ WS yX12_evens cX12_evens 7 (some .int) := fun w h => List.mem_cons_of_mem _ h
  have hg : ∀ w ∈ gd, w.before _ s = true := fun w h => hts w (hgd w h)
  have hown : s.vm.findClass RX12 = some m.cls := findClass_of_methodNamed B.named
  have hS : va_S A s.heap s.heap [] := va_S.rf
  have hF : Fr [100, 76, 97, 98] [(66, 59), (66, 60), (66, 61), (66, 62), (66, 63), (66, 66)] G G := Fr.rf
  have hl := lv_entry ([.ref (a 66), .int p0, .int p1, .int p2]) (n := 7) (Nat.le_of_ble_eq_true rfl)
  rw [lg_entry_eq]
  generalize (lg_sl ([.ref (a 66), .int p0, .int p1, .int p2]) ++ List.replicate (7 - (lg_sl ([.ref (a 66), .int p0, .int p1, .int p2])).length) Slot.unset).toArray = ls at hl ⊢
  have hl : lv_has ls 7 [(0, .ref (a 66)), (1, .int p0), (2, .int p1), (3, .int p2)] := hl
  refine lv_aload_n hx hb dX12_evens_0 rfl (lv_at hl 0 rfl) ?_
  refine ic_0 hx hb dX12_evens_1 ?_
  refine S_putI (ty := .int) (C := RX12) (T := TX12) (N := 89) hx hb hg iX12 tyX12 tyX12_ok nmX12 hown hK hW hS kd_66 rfl 66 (lt_b rfl) (hg (Cond.fieldLink RX12 446 "SlabWalkModel" "lain" "I") m1380) (fun _ h9 => h9) rfl (by decide +kernel) rfl rfl rfl dX12_evens_2 (fun G_1 H locs eG_1 hW hS => ?_)
  have hB_G_1 : Bd G_1 := hB_G.put (V := 0) (lo := 0) (hi := 400) eG_1 rfl rfl rfl (by decide) (by decide) (hB_G.2.put eG_1 rfl)
  have hF := hF.put eG_1 (Or.inr (by decide))
  refine lv_aload_n hx hb dX12_evens_5 rfl (lv_at hl 0 rfl) ?_
  refine lv_iload_n hx hb dX12_evens_6 rfl (lv_at hl 1 rfl) ?_
  refine lv_iload_n hx hb dX12_evens_7 rfl (lv_at hl 2 rfl) ?_
  refine lv_iload_n hx hb dX12_evens_8 rfl (lv_at hl 3 rfl) ?_
  have b_2 : 0 ≤ (G.1 66 52).toInt ∧ (G.1 66 52).toInt ≤ 3 := bd_66_52 hB_G
  have g_3 : (G_1.1 66 52).toInt = (G.1 66 52).toInt := (congrArg Int32.toInt (show G_1.1 66 52 = (G.1 66 52) from (gp_ne eG_1 (by decide))))
  have b_4 : 0 ≤ (G.1 66 53).toInt ∧ (G.1 66 53).toInt ≤ 4 := bd_66_53 hB_G
  have g_5 : (G_1.1 66 53).toInt = (G.1 66 53).toInt := (congrArg Int32.toInt (show G_1.1 66 53 = (G.1 66 53) from (gp_ne eG_1 (by decide))))
  refine S_calli (va_runV (As := [.int p0, .int p1, .int p2]) (rest := []) ⟨hx, hb, hml, hown, hts⟩ (n_isAsked l D k A a z G_1 p0 p1 p2 ) (cwV 3 hts (gd_V hgd m1826 m1828 m89 m131 m1829) rfl rfl rfl hd_X12_isAsked ⟨Nat.le_of_ble_eq_true rfl, Nat.le_of_ble_eq_true rfl⟩) (pre_W hW hB_G_1 hK hZ hS kd_66 rfl) rfl rfl hl.1 rfl (lv_room (Nat.le_of_ble_eq_true rfl)) dX12_evens_9 ⟨Nat.le_of_ble_eq_true rfl, Nat.le_of_ble_eq_true rfl⟩) hS (fun r_6 G_7 H locs hpo hW hS => ?_)
  have hX_10 : Q_isAsked p0 p1 p2 G_1 r_6 G_7 := hpo
  obtain ⟨hB_G_7, hq_8, f_11, hp_9, -⟩ := hpo
  have hF := hF.call9 hq_8 rfl rfl
  refine lv_if_ne (tgt := 17) hx hb dX12_evens_12 rfl (fun c_12 => ?_) (fun c_12 => ?_)
  · have c_12 : r_6.toInt ≠ 0 := xI_ne rfl rfl c_12
    refine lv_aload_n hx hb dX12_evens_17 rfl (lv_at hl 0 rfl) ?_
    refine lv_iload_n hx hb dX12_evens_18 rfl (lv_at hl 1 rfl) ?_
    refine lv_iload_n hx hb dX12_evens_19 rfl (lv_at hl 2 rfl) ?_
    refine lv_iload_n hx hb dX12_evens_20 rfl (lv_at hl 3 rfl) ?_
    have fr_13 : Fr [] [(66, 66)] G G_7 := (Fr.call9 (rs := []) (fs := [(66, 66)]) (Fr.put (rs := []) (fs := [(66, 66)]) Fr.rf eG_1 (Or.inr (by decide))) hq_8 rfl rfl)
    have g_14 : gP G_7 = gP G := gP_fr fr_13 (gr_q rfl) (gf_q rfl)
    refine S_callv (va_runV (As := [.int p0, .int p1, .int p2]) (rest := []) ⟨hx, hb, hml, hown, hts⟩ (n_layStreet l D k A a z G_7 p0 p1 p2 ⟨(by first | (clear hP9 hW9 g_14; omega) | omega), (by first | (clear hP9 hW9 g_14; omega) | omega)⟩ ⟨(by first | (clear hP9 hW9 g_14; omega) | omega), (by first | (clear hP9 hW9 g_14; omega) | omega)⟩ ((by first | (clear hW9 b_2 g_3 b_4 g_5 f_11 hp_9 c_12; omega) | omega))) (cwV 3 hts (gd_V hgd m1834 m1836 m91 m131 m1837) rfl rfl rfl hd_X12_layStreet ⟨Nat.le_of_ble_eq_true rfl, Nat.le_of_ble_eq_true rfl⟩) (pre_W hW hB_G_7 hK hZ hS kd_66 rfl) rfl rfl hl.1 rfl (lv_room (Nat.le_of_ble_eq_true rfl)) dX12_evens_21 ⟨Nat.le_of_ble_eq_true rfl, Nat.le_of_ble_eq_true rfl⟩) hS (fun G_16 H locs hpo hW hS => ?_)
    have hX_19 : Q_layStreet p0 p1 p2 G_7 G_16 := hpo
    obtain ⟨hB_G_16, hq_17, ⟨d_1, d_2, d_3, d_4, d_5, d_6⟩, -⟩ := hpo
    have hF := hF.call9 hq_17 rfl rfl
    have b_20 : 0 ≤ (G.1 66 53).toInt ∧ (G.1 66 53).toInt ≤ 4 := hB_G.i 66 53 rfl rfl
    have u_21 := gW_at hW9 p0 (by omega) (by omega)
    have u_22 : (G_7.1 92 p0.toNatClampNeg).toInt = (G.1 92 p0.toNatClampNeg).toInt := congrArg Int32.toInt (((hq_8.ri9 92 rfl p0.toNatClampNeg).trans (gp_ne eG_1 (fun q => absurd q.1 (Nat.ne_of_beq_eq_false rfl)))))
    have u_23 : (G_7.1 93 p0.toNatClampNeg).toInt = (G.1 93 p0.toNatClampNeg).toInt := congrArg Int32.toInt (((hq_8.ri9 93 rfl p0.toNatClampNeg).trans (gp_ne eG_1 (fun q => absurd q.1 (Nat.ne_of_beq_eq_false rfl)))))
    have u_24 : (G_7.1 94 p0.toNatClampNeg).toInt = (G.1 94 p0.toNatClampNeg).toInt := congrArg Int32.toInt (((hq_8.ri9 94 rfl p0.toNatClampNeg).trans (gp_ne eG_1 (fun q => absurd q.1 (Nat.ne_of_beq_eq_false rfl)))))
    have u_25 : (G_7.1 95 p0.toNatClampNeg).toInt = (G.1 95 p0.toNatClampNeg).toInt := congrArg Int32.toInt (((hq_8.ri9 95 rfl p0.toNatClampNeg).trans (gp_ne eG_1 (fun q => absurd q.1 (Nat.ne_of_beq_eq_false rfl)))))
    have b_26 : 0 ≤ (G_16.1 66 60).toInt ∧ (G_16.1 66 60).toInt ≤ 12 := bd_66_60 hB_G_16
    have b_27 : 0 ≤ (G_16.1 66 61).toInt ∧ (G_16.1 66 61).toInt ≤ 60 := bd_66_61 hB_G_16
    have b_28 : 0 ≤ (G_16.1 66 62).toInt ∧ (G_16.1 66 62).toInt ≤ 60 := bd_66_62 hB_G_16
    have b_29 : 0 ≤ (G_16.1 66 63).toInt ∧ (G_16.1 66 63).toInt ≤ 99 := bd_66_63 hB_G_16
    refine lv_aload_n hx hb dX12_evens_24 rfl (lv_at hl 0 rfl) ?_
    refine S_getI (v := (G_16.1 66 61)) (C := RX12) (T := TX12) (N := 89) hx hb hg iX12 hown hK hW kd_66 rfl 61 (lt_b rfl) (hg (Cond.fieldLink RX12 475 "SlabWalkModel" "least" "I") m1375) (fun _ h9 => h9) rfl rfl dX12_evens_25 ?_
    refine lv_istore (lv' := [(4, .int (G_16.1 66 61)), (0, .ref (a 66)), (1, .int p0), (2, .int p1), (3, .int p2)]) hx hb dX12_evens_28 hl (lt_b rfl) rfl (fun ls hl => ?_)
    have g_36 : (G_16.1 66 66).toInt = 0 := (congrArg Int32.toInt (show G_16.1 66 66 = 0 from ((hq_17.i9 66 66 rfl rfl).trans ((hq_8.i9 66 66 rfl rfl).trans (gp_eq eG_1))))).trans rfl
    refine loop_N (Inv := fun n H locs ls => ∃ (G_30 : GS) (x_34 : Int32), (n : Int) = 61 - x_34.toInt ∧ (1 ≤ x_34.toInt ∧ x_34.toInt ≤ 61) ∧ ((G_30.1 66 66).toInt ≤ x_34.toInt) ∧ Rc (St_n_evens_1 G_16) ((G_16.1 66 61), G_16) (x_34, G_30) ∧ Wd D k A a G_30 H ∧ Bd G_30 ∧ Fr [100, 76, 97, 98] [(66, 59), (66, 60), (66, 61), (66, 62), (66, 63), (66, 66)] G G_30 ∧ Fr [100] [(66, 66)] G_16 G_30 ∧ va_S A s.heap H locs ∧ lv_has ls 7 [(4, .int x_34), (0, .ref (a 66))]) (fun n_33 H locs ls ih_32 hI => ?_) (61 - (G_16.1 66 61).toInt : Int).toNat ⟨G_16, (G_16.1 66 61), (Int.toNat_of_nonneg ((by first | (clear hP9 hW9 g_14 g_36; omega) | omega))), ⟨(by first | (clear hP9 hW9 g_14 g_36; omega) | omega), (by first | (clear hP9 hW9 g_14 g_36; omega) | omega)⟩, ((by first | (clear hP9 hW9 g_14; omega) | omega)), Rc.rf, hW, hB_G_16, hF, Fr.rf, hS, lv_sub hl [0, 1] rfl⟩
    obtain ⟨G_30, x_34, hn_39, f_37, f_38, hX_35, hW, hB_G_30, hF, hq_31, hS, hl⟩ := hI
    have b_40 : 0 ≤ (G_30.1 66 66).toInt ∧ (G_30.1 66 66).toInt ≤ 400 := bd_66_66 hB_G_30
    refine lv_iload hx hb dX12_evens_30 (lv_at hl 0 rfl) ?_
    refine lv_aload_n hx hb dX12_evens_32 rfl (lv_at hl 1 rfl) ?_
    refine S_getI (v := (G_16.1 66 62)) (C := RX12) (T := TX12) (N := 89) hx hb hg iX12 hown hK hW kd_66 rfl 62 (lt_b rfl) (hg (Cond.fieldLink RX12 478 "SlabWalkModel" "most" "I") m1376) (fun _ h9 => h9) rfl ((hq_31.i9 66 62 rfl rfl).trans (rfl)) dX12_evens_33 ?_
    refine lv_icmp_gt (tgt := 92) hx hb dX12_evens_36 rfl (fun c_41 => ?_) (fun c_41 => ?_)
    · have c_41 : (G_16.1 66 62).toInt < x_34.toInt := xI_lt rfl rfl c_41
      refine lv_aload_n hx hb dX12_evens_92 rfl (lv_at hl 1 rfl) ?_
      refine S_getI (v := (G_30.1 66 66)) (C := RX12) (T := TX12) (N := 89) hx hb hg iX12 hown hK hW kd_66 rfl 66 (lt_b rfl) (hg (Cond.fieldLink RX12 446 "SlabWalkModel" "lain" "I") m1380) (fun _ h9 => h9) rfl rfl dX12_evens_93 ?_
      exact W.iret (v := (G_30.1 66 66)) hx hb hr (fun t ht _ => ⟨⟨(G_30.1 66 66), G_30, rfl, (Q_evens_mk ⟨hB_G_30, hF, ⟨G_1, hB_G_1, (Fr.put (rs := []) (fs := [(66, 66)]) Fr.rf eG_1 (Or.inr (by decide))), (gp_eq eG_1), ⟨r_6, G_7, hX_10, (Or.inr ⟨c_12, ⟨G_16, hX_19, ⟨x_34, G_30, hX_35, f_37, f_38, hB_G_30, hq_31, ⟨c_41, ⟨rfl, rfl⟩⟩⟩⟩⟩)⟩⟩⟩), wd_t ht hW⟩, hS.F ht⟩) hS.2.2 dX12_evens_96
    · have c_41 : x_34.toInt ≤ (G_16.1 66 62).toInt := xI_nlt rfl rfl c_41
      refine ic_0 hx hb dX12_evens_39 ?_
      refine lv_istore (lv' := [(5, .int 0), (4, .int x_34), (0, .ref (a 66))]) hx hb dX12_evens_40 hl (lt_b rfl) rfl (fun ls hl => ?_)
      refine ic_0 hx hb dX12_evens_42 ?_
      refine lv_istore (lv' := [(6, .int 0), (5, .int 0), (4, .int x_34), (0, .ref (a 66))]) hx hb dX12_evens_43 hl (lt_b rfl) rfl (fun ls hl => ?_)
      have qc_49 : (0 : Int32).toInt = 0 := rfl
      refine loop_N (Inv := fun n H locs ls => ∃ (G_42 : GS) (x_46 : Int32) (x_47 : Int32), (n : Int) = 60 - x_46.toInt ∧ (0 ≤ x_46.toInt ∧ x_46.toInt ≤ 60) ∧ (0 ≤ x_47.toInt ∧ x_47.toInt ≤ 1) ∧ Rc (St_n_evens_2 x_34 G_16) (0, 0, G_30) (x_46, x_47, G_42) ∧ Wd D k A a G_42 H ∧ Bd G_42 ∧ Fr [100, 76, 97, 98] [(66, 59), (66, 60), (66, 61), (66, 62), (66, 63), (66, 66)] G G_42 ∧ Fr [] [] G_30 G_42 ∧ va_S A s.heap H locs ∧ lv_has ls 7 [(6, .int x_46), (5, .int x_47), (4, .int x_34), (0, .ref (a 66))]) (fun n_45 H locs ls ih_44 hI => ?_) (60 - 0 : Int).toNat ⟨G_30, 0, 0, (Int.toNat_of_nonneg ((by first | (clear hP9 hW9 b_2 g_3 b_4 g_5 f_11 hp_9 c_12 g_14 d_1 d_2 d_3 d_4 d_5 d_6 b_20 u_22 u_23 u_24 u_25 b_26 b_27 b_28 b_29 g_36 hn_39 f_37 f_38 b_40 c_41; omega) | omega))), ⟨(by first | (clear hP9 hW9 b_2 g_3 b_4 g_5 f_11 hp_9 c_12 g_14 d_1 d_2 d_3 d_4 d_5 d_6 b_20 u_22 u_23 u_24 u_25 b_26 b_27 b_28 b_29 g_36 hn_39 f_37 f_38 b_40 c_41; omega) | omega), (by first | (clear hP9 hW9 b_2 g_3 b_4 g_5 f_11 hp_9 c_12 g_14 d_1 d_2 d_3 d_4 d_5 d_6 b_20 u_22 u_23 u_24 u_25 b_26 b_27 b_28 b_29 g_36 hn_39 f_37 f_38 b_40 c_41; omega) | omega)⟩, ⟨(by first | (clear hP9 hW9 b_2 g_3 b_4 g_5 f_11 hp_9 c_12 g_14 d_1 d_2 d_3 d_4 d_5 d_6 b_20 u_22 u_23 u_24 u_25 b_26 b_27 b_28 b_29 g_36 hn_39 f_37 f_38 b_40 c_41; omega) | omega), (by first | (clear hP9 hW9 b_2 g_3 b_4 g_5 f_11 hp_9 c_12 g_14 d_1 d_2 d_3 d_4 d_5 d_6 b_20 u_22 u_23 u_24 u_25 b_26 b_27 b_28 b_29 g_36 hn_39 f_37 f_38 b_40 c_41; omega) | omega)⟩, Rc.rf, hW, hB_G_30, hF, Fr.rf, hS, lv_sub hl [0, 1, 2, 3] rfl⟩
      obtain ⟨G_42, x_46, x_47, hn_52, f_50, f_51, hX_48, hW, hB_G_42, hF, hq_43, hS, hl⟩ := hI
      refine lv_iload hx hb dX12_evens_45 (lv_at hl 0 rfl) ?_
      refine lv_aload_n hx hb dX12_evens_47 rfl (lv_at hl 3 rfl) ?_
      refine S_getI (v := (G_16.1 66 62)) (C := RX12) (T := TX12) (N := 89) hx hb hg iX12 hown hK hW kd_66 rfl 62 (lt_b rfl) (hg (Cond.fieldLink RX12 478 "SlabWalkModel" "most" "I") m1376) (fun _ h9 => h9) rfl ((hq_43.i9 66 62 rfl rfl).trans ((hq_31.i9 66 62 rfl rfl).trans (rfl))) dX12_evens_48 ?_
      refine lv_icmp_ge (tgt := 75) hx hb dX12_evens_51 rfl (fun c_53 => ?_) (fun c_53 => ?_)
      · have c_53 : (G_16.1 66 62).toInt ≤ x_46.toInt := xI_le rfl rfl c_53
        refine lv_iload hx hb dX12_evens_75 (lv_at hl 1 rfl) ?_
        refine lv_if_eq (tgt := 86) hx hb dX12_evens_77 rfl (fun c_54 => ?_) (fun c_54 => ?_)
        · have c_54 : x_47.toInt = 0 := xI_eq rfl rfl c_54
          obtain ⟨y_55, ey_55⟩ : ∃ q, q = x_34 + 1 := ⟨_, rfl⟩
          have ty_55 : y_55.toInt = x_34.toInt + 1 := xI_add rfl rfl ey_55 ((by first | (clear hP9 hW9 b_2 b_4 f_11 c_12 g_14 b_20 g_36 hn_39 hn_52 f_50 f_51 c_54; omega) | omega)) ((by first | (clear hP9 hW9 b_2 b_4 f_11 c_12 g_14 b_20 g_36 hn_39 hn_52 f_50 f_51 c_54; omega) | omega))
          refine lv_iinc (v := y_55) (lv' := [(4, .int y_55), (6, .int x_46), (5, .int x_47), (0, .ref (a 66))]) hx hb dX12_evens_86 hl (k := 2) rfl (by rw [ey_55]; rfl) (lt_b rfl) rfl (fun ls hl => ?_)
          refine lv_goto (tgt := 30) hx hb dX12_evens_89 rfl ?_
          have g_56 : (G_42.1 66 66).toInt = (G_30.1 66 66).toInt := (congrArg Int32.toInt (show G_42.1 66 66 = (G_30.1 66 66) from ((hq_43.i9 66 66 rfl rfl).trans (rfl))))
          exact ih_32 (61 - y_55.toInt : Int).toNat ((by first | (clear hP9 hW9 b_2 b_4 f_11 c_12 g_14 b_20 g_36 f_50 f_51 c_54; omega) | omega)) _ _ _ ⟨G_42, y_55, (Int.toNat_of_nonneg ((by first | (clear hP9 hW9 b_2 b_4 f_11 c_12 g_14 b_20 g_36 hn_39 hn_52 f_50 f_51 c_54; omega) | omega))), ⟨(by first | (clear hP9 hW9 b_2 b_4 f_11 c_12 g_14 b_20 g_36 hn_39 hn_52 f_50 f_51 c_54; omega) | omega), (by first | (clear hP9 hW9 b_2 b_4 f_11 c_12 g_14 b_20 g_36 hn_39 hn_52 f_50 f_51 c_54; omega) | omega)⟩, ((by first | (clear hP9 hW9 b_2 b_4 f_11 c_12 g_14 b_20 g_36 hn_39 hn_52 f_50 f_51 c_54; omega) | omega)), (hX_35.st (St_n_evens_1_mk ⟨x_34, G_30, y_55, G_42, rfl, rfl, f_37, f_38, hB_G_30, ⟨c_41, ⟨x_46, x_47, G_42, hX_48, f_50, f_51, hB_G_42, hq_43, (Or.inl ⟨c_53, (Or.inl ⟨c_54, ⟨y_55, ty_55, ⟨rfl, rfl⟩⟩⟩)⟩)⟩⟩⟩)), hW, hB_G_42, hF, (Fr.call9 (rs := [100]) (fs := [(66, 66)]) (Fr.call9 (rs := [100]) (fs := [(66, 66)]) Fr.rf hq_31 rfl rfl) hq_43 rfl rfl), hS, lv_sub hl [0, 3] rfl⟩
        · have c_54 : x_47.toInt ≠ 0 := xI_ne rfl rfl c_54
          refine lv_aload_n hx hb dX12_evens_80 rfl (lv_at hl 3 rfl) ?_
          refine lv_iload hx hb dX12_evens_81 (lv_at hl 2 rfl) ?_
          have g_57 : (G_42.1 66 66).toInt = (G_30.1 66 66).toInt := (congrArg Int32.toInt (show G_42.1 66 66 = (G_30.1 66 66) from ((hq_43.i9 66 66 rfl rfl).trans (rfl))))
          have g_58 : (G_42.1 66 66).toInt = (G_30.1 66 66).toInt := (congrArg Int32.toInt (show G_42.1 66 66 = (G_30.1 66 66) from ((hq_43.i9 66 66 rfl rfl).trans (rfl))))
          refine S_callv (va_runV (As := [.int x_34]) (rest := []) ⟨hx, hb, hml, hown, hts⟩ (n_lay l D k A a z G_42 x_34 ((by first | (clear hP9 hW9 b_2 g_3 b_4 g_5 f_11 hp_9 c_12 g_14 d_1 d_6 b_20 b_26 b_27 b_28 b_29 g_36 hn_39 hn_52 f_50 f_51 c_53 c_54; omega) | omega))) (cwV 1 hts (gd_V hgd m1866 m1868 m97 m131 m1869) rfl rfl rfl hd_X12_lay ⟨Nat.le_of_ble_eq_true rfl, Nat.le_of_ble_eq_true rfl⟩) (pre_W hW hB_G_42 hK hZ hS kd_66 rfl) rfl rfl hl.1 rfl (lv_room (Nat.le_of_ble_eq_true rfl)) dX12_evens_83 ⟨Nat.le_of_ble_eq_true rfl, Nat.le_of_ble_eq_true rfl⟩) hS (fun G_60 H locs hpo hW hS => ?_)
          have hX_63 : Q_lay x_34 G_42 G_60 := hpo
          obtain ⟨hB_G_60, hq_61, hp_62, -⟩ := hpo
          have hF := hF.call9 hq_61 rfl rfl
          obtain ⟨y_64, ey_64⟩ : ∃ q, q = x_34 + 1 := ⟨_, rfl⟩
          have ty_64 : y_64.toInt = x_34.toInt + 1 := xI_add rfl rfl ey_64 ((by first | (clear hP9 hW9 b_2 b_4 f_11 c_12 g_14 b_20 g_36 hn_39 hn_52 f_50 f_51 c_54; omega) | omega)) ((by first | (clear hP9 hW9 b_2 b_4 f_11 c_12 g_14 b_20 g_36 hn_39 hn_52 f_50 f_51 c_54; omega) | omega))
          refine lv_iinc (v := y_64) (lv' := [(4, .int y_64), (6, .int x_46), (5, .int x_47), (0, .ref (a 66))]) hx hb dX12_evens_86 hl (k := 2) rfl (by rw [ey_64]; rfl) (lt_b rfl) rfl (fun ls hl => ?_)
          refine lv_goto (tgt := 30) hx hb dX12_evens_89 rfl ?_
          have b_65 : 0 ≤ (G_60.1 66 66).toInt ∧ (G_60.1 66 66).toInt ≤ 400 := bd_66_66 hB_G_60
          exact ih_32 (61 - y_64.toInt : Int).toNat ((by first | (clear hP9 hW9 b_2 b_4 f_11 c_12 g_14 b_20 g_36 f_50 f_51 c_54; omega) | omega)) _ _ _ ⟨G_60, y_64, (Int.toNat_of_nonneg ((by first | (clear hP9 hW9 b_2 b_4 f_11 c_12 g_14 b_20 g_36 hn_39 hn_52 f_50 f_51 c_54; omega) | omega))), ⟨(by first | (clear hP9 hW9 b_2 b_4 f_11 c_12 g_14 b_20 g_36 hn_39 hn_52 f_50 f_51 c_54; omega) | omega), (by first | (clear hP9 hW9 b_2 b_4 f_11 c_12 g_14 b_20 g_36 hn_39 hn_52 f_50 f_51 c_54; omega) | omega)⟩, ((by first | (clear hP9 hW9 b_2 b_4 f_11 c_12 g_14 b_20 g_36 hn_39 hn_52 f_50 f_51 c_54; omega) | omega)), (hX_35.st (St_n_evens_1_mk ⟨x_34, G_30, y_64, G_60, rfl, rfl, f_37, f_38, hB_G_30, ⟨c_41, ⟨x_46, x_47, G_42, hX_48, f_50, f_51, hB_G_42, hq_43, (Or.inl ⟨c_53, (Or.inr ⟨c_54, ⟨G_60, hX_63, ⟨y_64, ty_64, ⟨rfl, rfl⟩⟩⟩⟩)⟩)⟩⟩⟩)), hW, hB_G_60, hF, (Fr.call9 (rs := [100]) (fs := [(66, 66)]) (Fr.call9 (rs := [100]) (fs := [(66, 66)]) (Fr.call9 (rs := [100]) (fs := [(66, 66)]) Fr.rf hq_31 rfl rfl) hq_43 rfl rfl) hq_61 rfl rfl), hS, lv_sub hl [0, 3] rfl⟩
      · have c_53 : x_46.toInt < (G_16.1 66 62).toInt := xI_nle rfl rfl c_53
        refine lv_iload hx hb dX12_evens_54 (lv_at hl 1 rfl) ?_
        refine lv_if_ne (tgt := 75) hx hb dX12_evens_56 rfl (fun c_66 => ?_) (fun c_66 => ?_)
        · have c_66 : x_47.toInt ≠ 0 := xI_ne rfl rfl c_66
          refine lv_iload hx hb dX12_evens_75 (lv_at hl 1 rfl) ?_
          refine lv_if_eq (tgt := 86) hx hb dX12_evens_77 rfl (fun c_67 => ?_) (fun c_67 => ?_)
          · have c_67 : x_47.toInt = 0 := xI_eq rfl rfl c_67
            exfalso; first | (clear hP9 hW9 b_2 g_3 b_4 g_5 f_11 hp_9 c_12 g_14 d_1 d_2 d_3 d_4 d_5 d_6 b_20 u_22 u_23 u_24 u_25 b_26 b_27 b_28 b_29 g_36 hn_39 f_37 f_38 b_40 c_41 hn_52 f_50 c_53; omega) | omega
          · have c_67 : x_47.toInt ≠ 0 := xI_ne rfl rfl c_67
            refine lv_aload_n hx hb dX12_evens_80 rfl (lv_at hl 3 rfl) ?_
            refine lv_iload hx hb dX12_evens_81 (lv_at hl 2 rfl) ?_
            have g_68 : (G_42.1 66 66).toInt = (G_30.1 66 66).toInt := (congrArg Int32.toInt (show G_42.1 66 66 = (G_30.1 66 66) from ((hq_43.i9 66 66 rfl rfl).trans (rfl))))
            have g_69 : (G_42.1 66 66).toInt = (G_30.1 66 66).toInt := (congrArg Int32.toInt (show G_42.1 66 66 = (G_30.1 66 66) from ((hq_43.i9 66 66 rfl rfl).trans (rfl))))
            refine S_callv (va_runV (As := [.int x_34]) (rest := []) ⟨hx, hb, hml, hown, hts⟩ (n_lay l D k A a z G_42 x_34 ((by first | (clear hP9 hW9 b_2 g_3 b_4 g_5 f_11 hp_9 c_12 g_14 d_1 d_6 b_20 b_26 b_27 b_28 b_29 g_36 hn_39 hn_52 f_50 f_51 c_53 c_66 c_67; omega) | omega))) (cwV 1 hts (gd_V hgd m1866 m1868 m97 m131 m1869) rfl rfl rfl hd_X12_lay ⟨Nat.le_of_ble_eq_true rfl, Nat.le_of_ble_eq_true rfl⟩) (pre_W hW hB_G_42 hK hZ hS kd_66 rfl) rfl rfl hl.1 rfl (lv_room (Nat.le_of_ble_eq_true rfl)) dX12_evens_83 ⟨Nat.le_of_ble_eq_true rfl, Nat.le_of_ble_eq_true rfl⟩) hS (fun G_71 H locs hpo hW hS => ?_)
            have hX_74 : Q_lay x_34 G_42 G_71 := hpo
            obtain ⟨hB_G_71, hq_72, hp_73, -⟩ := hpo
            have hF := hF.call9 hq_72 rfl rfl
            obtain ⟨y_75, ey_75⟩ : ∃ q, q = x_34 + 1 := ⟨_, rfl⟩
            have ty_75 : y_75.toInt = x_34.toInt + 1 := xI_add rfl rfl ey_75 ((by first | (clear hP9 hW9 b_2 b_4 f_11 c_12 g_14 b_20 g_36 hn_39 hn_52 f_50 f_51 c_66 c_67; omega) | omega)) ((by first | (clear hP9 hW9 b_2 b_4 f_11 c_12 g_14 b_20 g_36 hn_39 hn_52 f_50 f_51 c_66 c_67; omega) | omega))
            refine lv_iinc (v := y_75) (lv' := [(4, .int y_75), (6, .int x_46), (5, .int x_47), (0, .ref (a 66))]) hx hb dX12_evens_86 hl (k := 2) rfl (by rw [ey_75]; rfl) (lt_b rfl) rfl (fun ls hl => ?_)
            refine lv_goto (tgt := 30) hx hb dX12_evens_89 rfl ?_
            have b_76 : 0 ≤ (G_71.1 66 66).toInt ∧ (G_71.1 66 66).toInt ≤ 400 := bd_66_66 hB_G_71
            exact ih_32 (61 - y_75.toInt : Int).toNat ((by first | (clear hP9 hW9 b_2 b_4 f_11 c_12 g_14 b_20 g_36 f_50 f_51 c_66 c_67; omega) | omega)) _ _ _ ⟨G_71, y_75, (Int.toNat_of_nonneg ((by first | (clear hP9 hW9 b_2 b_4 f_11 c_12 g_14 b_20 g_36 hn_39 hn_52 f_50 f_51 c_66 c_67; omega) | omega))), ⟨(by first | (clear hP9 hW9 b_2 b_4 f_11 c_12 g_14 b_20 g_36 hn_39 hn_52 f_50 f_51 c_66 c_67; omega) | omega), (by first | (clear hP9 hW9 b_2 b_4 f_11 c_12 g_14 b_20 g_36 hn_39 hn_52 f_50 f_51 c_66 c_67; omega) | omega)⟩, ((by first | (clear hP9 hW9 b_2 b_4 f_11 c_12 g_14 b_20 g_36 hn_39 hn_52 f_50 f_51 c_66 c_67; omega) | omega)), (hX_35.st (St_n_evens_1_mk ⟨x_34, G_30, y_75, G_71, rfl, rfl, f_37, f_38, hB_G_30, ⟨c_41, ⟨x_46, x_47, G_42, hX_48, f_50, f_51, hB_G_42, hq_43, (Or.inr ⟨c_53, ⟨c_66, ⟨G_71, hX_74, ⟨y_75, ty_75, ⟨rfl, rfl⟩⟩⟩⟩⟩)⟩⟩⟩)), hW, hB_G_71, hF, (Fr.call9 (rs := [100]) (fs := [(66, 66)]) (Fr.call9 (rs := [100]) (fs := [(66, 66)]) (Fr.call9 (rs := [100]) (fs := [(66, 66)]) Fr.rf hq_31 rfl rfl) hq_43 rfl rfl) hq_72 rfl rfl), hS, lv_sub hl [0, 3] rfl⟩
        · have c_66 : x_47.toInt = 0 := xI_eq rfl rfl c_66
          refine lv_aload_n hx hb dX12_evens_59 rfl (lv_at hl 3 rfl) ?_
          refine lv_iload hx hb dX12_evens_60 (lv_at hl 0 rfl) ?_
          refine lv_iload hx hb dX12_evens_62 (lv_at hl 2 rfl) ?_
          refine S_calli (va_runV (As := [.int x_46, .int x_34]) (rest := []) ⟨hx, hb, hml, hown, hts⟩ (n_comesToEnd l D k A a z G_42 x_46 x_34 ⟨(by first | (clear hP9 hW9 b_2 b_4 f_11 c_12 g_14 b_20 g_36 hn_39 f_37 f_38 b_40 hn_52 f_51 c_66; omega) | omega), (by first | (clear hP9 hW9 b_2 b_4 f_11 c_12 g_14 b_20 g_36 hn_39 f_37 f_38 b_40 hn_52 f_51 c_66; omega) | omega)⟩ ⟨(by first | (clear hP9 hW9 b_2 b_4 f_11 c_12 g_14 b_20 g_36 hn_39 hn_52 f_50 f_51 c_66; omega) | omega), (by first | (clear hP9 hW9 b_2 b_4 f_11 c_12 g_14 b_20 g_36 hn_39 hn_52 f_50 f_51 c_66; omega) | omega)⟩) (cwV 2 hts (gd_V hgd m1899 m1901 m100 m131 m1902) rfl rfl rfl hd_X12_comesToEnd ⟨Nat.le_of_ble_eq_true rfl, Nat.le_of_ble_eq_true rfl⟩) (pre_W hW hB_G_42 hK hZ hS kd_66 rfl) rfl rfl hl.1 rfl (lv_room (Nat.le_of_ble_eq_true rfl)) dX12_evens_64 ⟨Nat.le_of_ble_eq_true rfl, Nat.le_of_ble_eq_true rfl⟩) hS (fun r_77 G_78 H locs hpo hW hS => ?_)
          have hX_81 : Q_comesToEnd x_46 x_34 G_42 r_77 G_78 := hpo
          obtain ⟨hB_G_78, hq_79, f_82, -⟩ := hpo
          have hF := hF.call9 hq_79 rfl rfl
          refine lv_istore (lv' := [(5, .int r_77), (6, .int x_46), (4, .int x_34), (0, .ref (a 66))]) hx hb dX12_evens_67 hl (lt_b rfl) rfl (fun ls hl => ?_)
          obtain ⟨y_83, ey_83⟩ : ∃ q, q = x_46 + 1 := ⟨_, rfl⟩
          have ty_83 : y_83.toInt = x_46.toInt + 1 := xI_add rfl rfl ey_83 ((by first | (clear hP9 hW9 b_2 b_4 f_11 c_12 g_14 b_20 g_36 hn_39 f_37 f_38 b_40 hn_52 f_51 c_66 f_82; omega) | omega)) ((by first | (clear hP9 hW9 b_2 b_4 f_11 c_12 g_14 b_20 g_36 hn_39 f_37 f_38 b_40 hn_52 f_51 c_66 f_82; omega) | omega))
          refine lv_iinc (v := y_83) (lv' := [(6, .int y_83), (5, .int r_77), (4, .int x_34), (0, .ref (a 66))]) hx hb dX12_evens_69 hl (k := 1) rfl (by rw [ey_83]; rfl) (lt_b rfl) rfl (fun ls hl => ?_)
          refine lv_goto (tgt := 45) hx hb dX12_evens_72 rfl ?_
          exact ih_44 (60 - y_83.toInt : Int).toNat ((by first | (clear hP9 hW9 b_2 b_4 f_11 c_12 g_14 b_20 g_36 f_37 f_38 b_40 f_51 c_66 f_82; omega) | omega)) _ _ _ ⟨G_78, y_83, r_77, (Int.toNat_of_nonneg ((by first | (clear hP9 hW9 b_2 b_4 f_11 c_12 g_14 b_20 g_36 hn_39 f_37 f_38 b_40 hn_52 f_51 c_66 f_82; omega) | omega))), ⟨(by first | (clear hP9 hW9 b_2 b_4 f_11 c_12 g_14 b_20 g_36 hn_39 f_37 f_38 b_40 hn_52 f_51 c_66 f_82; omega) | omega), (by first | (clear hP9 hW9 b_2 b_4 f_11 c_12 g_14 b_20 g_36 hn_39 f_37 f_38 b_40 hn_52 f_51 c_66 f_82; omega) | omega)⟩, ⟨(by first | (clear hP9 hW9 b_2 g_3 b_4 g_5 f_11 hp_9 c_12 g_14 d_1 d_2 d_3 d_4 d_5 d_6 b_20 u_22 u_23 u_24 u_25 b_26 b_27 b_28 b_29 g_36 hn_39 f_37 f_38 b_40 c_41 hn_52 f_50 f_51 c_53 c_66 ty_83; omega) | omega), (by first | (clear hP9 hW9 b_2 g_3 b_4 g_5 f_11 hp_9 c_12 g_14 d_1 d_2 d_3 d_4 d_5 d_6 b_20 u_22 u_23 u_24 u_25 b_26 b_27 b_28 b_29 g_36 hn_39 f_37 f_38 b_40 c_41 hn_52 f_50 f_51 c_53 c_66 ty_83; omega) | omega)⟩, (hX_48.st (St_n_evens_2_mk ⟨x_46, x_47, G_42, y_83, r_77, G_78, rfl, rfl, f_50, f_51, hB_G_42, ⟨c_53, ⟨c_66, ⟨r_77, G_78, hX_81, ⟨y_83, ty_83, ⟨rfl, rfl, rfl⟩⟩⟩⟩⟩⟩)), hW, hB_G_78, hF, (Fr.call9 (rs := []) (fs := []) (Fr.call9 (rs := []) (fs := []) Fr.rf hq_43 rfl rfl) hq_79 rfl rfl), hS, lv_sub hl [0, 1, 2, 3] rfl⟩
  · have c_12 : r_6.toInt = 0 := xI_eq rfl rfl c_12
    refine ic_m1 hx hb dX12_evens_15 ?_
    exact W.iret (v := (-1)) hx hb hr (fun t ht _ => ⟨⟨(-1), G_7, rfl, (Q_evens_mk ⟨hB_G_7, hF, ⟨G_1, hB_G_1, (Fr.put (rs := []) (fs := [(66, 66)]) Fr.rf eG_1 (Or.inr (by decide))), (gp_eq eG_1), ⟨r_6, G_7, hX_10, (Or.inl ⟨c_12, ⟨rfl, rfl⟩⟩)⟩⟩⟩), wd_t ht hW⟩, hS.F ht⟩) hS.2.2 dX12_evens_16

set_option maxHeartbeats 4000000 in
set_option maxRecDepth 100000 in
theorem n_evenest (l : Launch) (D : va_G) (k : KT) (A : Nat → Prop) (a : Nat → Nat) (z : SK) (G : GS) (p0 : Int32) (p1 : Int32) (p2 : Int32) (p3 : Int32) (hP9 : gP G = 1) (hW9 : gW G = 1) : Met l yX12_evenest (WS yX12_evenest cX12_evenest 7 (some .int)) ({ frames := 5, cells := 0, slots := 0, locals := 117 }) (va_Pc [.ref (a 66), .int p0, .int p1, .int p2, .int p3] (cW D k A a z G)) (va_Qi (fun (r : Int32) (G1 : GS) => Q_evenest p0 p1 p2 p3 G r G1) (fun (G1 : GS) t => Wd D k A a G1 t.heap) A) 0 0 A := by
  refine Met.ofW (cc := cX12_evenest) (maxL := 7) (ret := (some .int)) (by decide) rfl ?_
  intro p e s m args below meth c s₁ B hml hv
  obtain ⟨rfl, hW, hB_G, hK, hZ⟩ := hv
  have hx := B.exec
  have hb := B.bytes
  have hr := B.returns
  have hts := atoms_spec (ws := WS yX12_evenest cX12_evenest 7 (some .int)) B.pre
  have hgd : ∀ w ∈ gd, w ∈ WS yX12_evenest cX12_evenest 7 (some .int) := fun w h => List.mem_cons_of_mem _ h
  have hg : ∀ w ∈ gd, w.before _ s = true := fun w h => hts w (hgd w h)
  have hown : s.vm.findClass RX12 = some m.cls := findClass_of_methodNamed B.named
  have hS : va_S A s.heap s.heap [] := va_S.rf
  have hF : Fr [103, 76, 97, 98] [(66, 59), (66, 60), (66, 61), (66, 62), (66, 63)] G G := Fr.rf
  have hl := lv_entry ([.ref (a 66), .int p0, .int p1, .int p2, .int p3]) (n := 7) (Nat.le_of_ble_eq_true rfl)
  rw [lg_entry_eq]
  generalize (lg_sl ([.ref (a 66), .int p0, .int p1, .int p2, .int p3]) ++ List.replicate (7 - (lg_sl ([.ref (a 66), .int p0, .int p1, .int p2, .int p3])).length) Slot.unset).toArray = ls at hl ⊢
  have hl : lv_has ls 7 [(0, .ref (a 66)), (1, .int p0), (2, .int p1), (3, .int p2), (4, .int p3)] := hl
  refine lv_aload_n hx hb dX12_evenest_0 rfl (lv_at hl 0 rfl) ?_
  refine lv_iload_n hx hb dX12_evenest_1 rfl (lv_at hl 1 rfl) ?_
  refine lv_iload_n hx hb dX12_evenest_2 rfl (lv_at hl 2 rfl) ?_
  refine lv_iload_n hx hb dX12_evenest_3 rfl (lv_at hl 3 rfl) ?_
  refine S_calli (va_runV (As := [.int p0, .int p1, .int p2]) (rest := []) ⟨hx, hb, hml, hown, hts⟩ (n_isAsked l D k A a z G p0 p1 p2 ) (cwV 3 hts (gd_V hgd m1826 m1828 m89 m131 m1829) rfl rfl rfl hd_X12_isAsked ⟨Nat.le_of_ble_eq_true rfl, Nat.le_of_ble_eq_true rfl⟩) (pre_W hW hB_G hK hZ hS kd_66 rfl) rfl rfl hl.1 rfl (lv_room (Nat.le_of_ble_eq_true rfl)) dX12_evenest_4 ⟨Nat.le_of_ble_eq_true rfl, Nat.le_of_ble_eq_true rfl⟩) hS (fun r_1 G_2 H locs hpo hW hS => ?_)
  have hX_5 : Q_isAsked p0 p1 p2 G r_1 G_2 := hpo
  obtain ⟨hB_G_2, hq_3, f_6, hp_4, -⟩ := hpo
  have hF := hF.call9 hq_3 rfl rfl
  refine lv_if_eq (tgt := 20) hx hb dX12_evenest_7 rfl (fun c_7 => ?_) (fun c_7 => ?_)
  · have c_7 : r_1.toInt = 0 := xI_eq rfl rfl c_7
    refine ic_m1 hx hb dX12_evenest_20 ?_
    exact W.iret (v := (-1)) hx hb hr (fun t ht _ => ⟨⟨(-1), G_2, rfl, (Q_evenest_mk ⟨hB_G_2, hF, ⟨r_1, G_2, hX_5, (Or.inl ⟨c_7, ⟨rfl, rfl⟩⟩)⟩⟩), wd_t ht hW⟩, hS.F ht⟩) hS.2.2 dX12_evenest_21
  · have c_7 : r_1.toInt ≠ 0 := xI_ne rfl rfl c_7
    refine lv_iload hx hb dX12_evenest_10 (lv_at hl 4 rfl) ?_
    refine ic_0 hx hb dX12_evenest_12 ?_
    refine ic_1 hx hb dX12_evenest_13 ?_
    have qc_8 : (0 : Int32).toInt = 0 := rfl
    have qc_9 : (1 : Int32).toInt = 1 := rfl
    refine S_calli (va_runS (As := [.int p3, .int 0, .int 1]) (rest := []) ⟨hx, hb, hml, hown, hts⟩ (n_isIn l D k A a z G_2 p3 0 1 ) (va_cwS 3 hts (gd_S hgd m1781 m1782 m131 m1783) rfl rfl rfl hd_X12_isIn.2 ⟨Nat.le_of_ble_eq_true rfl, Nat.le_of_ble_eq_true rfl⟩) (pre_S hW hB_G_2 hK hZ hS) rfl rfl hl.1 rfl (lv_room (Nat.le_of_ble_eq_true rfl)) dX12_evenest_14 ⟨Nat.le_of_ble_eq_true rfl, Nat.le_of_ble_eq_true rfl⟩) hS (fun r_10 G_11 H locs hpo hW hS => ?_)
    have hX_14 : Q_isIn p3 0 1 G_2 r_10 G_11 := hpo
    obtain ⟨hB_G_11, hq_12, f_15, ⟨d_1, d_2⟩, -⟩ := hpo
    have hF := hF.call9 hq_12 rfl rfl
    refine lv_if_ne (tgt := 22) hx hb dX12_evenest_17 rfl (fun c_16 => ?_) (fun c_16 => ?_)
    · have c_16 : r_10.toInt ≠ 0 := xI_ne rfl rfl c_16
      refine lv_aload_n hx hb dX12_evenest_22 rfl (lv_at hl 0 rfl) ?_
      refine lv_iload_n hx hb dX12_evenest_23 rfl (lv_at hl 1 rfl) ?_
      refine lv_iload_n hx hb dX12_evenest_24 rfl (lv_at hl 2 rfl) ?_
      refine lv_iload_n hx hb dX12_evenest_25 rfl (lv_at hl 3 rfl) ?_
      have fr_17 : Fr [] [] G G_11 := (Fr.call9 (rs := []) (fs := []) (Fr.call9 (rs := []) (fs := []) Fr.rf hq_3 rfl rfl) hq_12 rfl rfl)
      have g_18 : gP G_11 = gP G := gP_fr fr_17 (gr_q rfl) (gf_q rfl)
      refine S_callv (va_runV (As := [.int p0, .int p1, .int p2]) (rest := []) ⟨hx, hb, hml, hown, hts⟩ (n_layStreet l D k A a z G_11 p0 p1 p2 ⟨(by first | (clear hP9 hW9 f_15 d_1 d_2 c_16 g_18; omega) | omega), (by first | (clear hP9 hW9 f_15 d_1 d_2 c_16 g_18; omega) | omega)⟩ ⟨(by first | (clear hP9 hW9 f_15 d_1 d_2 c_16 g_18; omega) | omega), (by first | (clear hP9 hW9 f_15 d_1 d_2 c_16 g_18; omega) | omega)⟩ ((by first | (clear hW9 f_6 hp_4 c_7 f_15 d_1 d_2 c_16; omega) | omega))) (cwV 3 hts (gd_V hgd m1834 m1836 m91 m131 m1837) rfl rfl rfl hd_X12_layStreet ⟨Nat.le_of_ble_eq_true rfl, Nat.le_of_ble_eq_true rfl⟩) (pre_W hW hB_G_11 hK hZ hS kd_66 rfl) rfl rfl hl.1 rfl (lv_room (Nat.le_of_ble_eq_true rfl)) dX12_evenest_26 ⟨Nat.le_of_ble_eq_true rfl, Nat.le_of_ble_eq_true rfl⟩) hS (fun G_20 H locs hpo hW hS => ?_)
      have hX_23 : Q_layStreet p0 p1 p2 G_11 G_20 := hpo
      obtain ⟨hB_G_20, hq_21, ⟨d_3, d_4, d_5, d_6, d_7, d_8⟩, -⟩ := hpo
      have hF := hF.call9 hq_21 rfl rfl
      have b_24 : 0 ≤ (G.1 66 53).toInt ∧ (G.1 66 53).toInt ≤ 4 := hB_G.i 66 53 rfl rfl
      have u_25 := gW_at hW9 p0 (by omega) (by omega)
      have u_26 : (G_11.1 92 p0.toNatClampNeg).toInt = (G.1 92 p0.toNatClampNeg).toInt := congrArg Int32.toInt (((hq_12.ri9 92 rfl p0.toNatClampNeg).trans (hq_3.ri9 92 rfl p0.toNatClampNeg)))
      have u_27 : (G_11.1 93 p0.toNatClampNeg).toInt = (G.1 93 p0.toNatClampNeg).toInt := congrArg Int32.toInt (((hq_12.ri9 93 rfl p0.toNatClampNeg).trans (hq_3.ri9 93 rfl p0.toNatClampNeg)))
      have u_28 : (G_11.1 94 p0.toNatClampNeg).toInt = (G.1 94 p0.toNatClampNeg).toInt := congrArg Int32.toInt (((hq_12.ri9 94 rfl p0.toNatClampNeg).trans (hq_3.ri9 94 rfl p0.toNatClampNeg)))
      have u_29 : (G_11.1 95 p0.toNatClampNeg).toInt = (G.1 95 p0.toNatClampNeg).toInt := congrArg Int32.toInt (((hq_12.ri9 95 rfl p0.toNatClampNeg).trans (hq_3.ri9 95 rfl p0.toNatClampNeg)))
      have b_30 : 0 ≤ (G_20.1 66 60).toInt ∧ (G_20.1 66 60).toInt ≤ 12 := bd_66_60 hB_G_20
      have b_31 : 0 ≤ (G_20.1 66 61).toInt ∧ (G_20.1 66 61).toInt ≤ 60 := bd_66_61 hB_G_20
      have b_32 : 0 ≤ (G_20.1 66 62).toInt ∧ (G_20.1 66 62).toInt ≤ 60 := bd_66_62 hB_G_20
      have b_33 : 0 ≤ (G_20.1 66 63).toInt ∧ (G_20.1 66 63).toInt ≤ 99 := bd_66_63 hB_G_20
      refine ic_0 hx hb dX12_evenest_29 ?_
      refine lv_istore (lv' := [(5, .int 0), (0, .ref (a 66)), (1, .int p0), (2, .int p1), (3, .int p2), (4, .int p3)]) hx hb dX12_evenest_30 hl (lt_b rfl) rfl (fun ls hl => ?_)
      have qc_40 : (0 : Int32).toInt = 0 := rfl
      refine loop_N (Inv := fun n H locs ls => ∃ (G_34 : GS) (x_38 : Int32), (n : Int) = 60 - x_38.toInt ∧ (0 ≤ x_38.toInt ∧ x_38.toInt ≤ 60) ∧ Rc (St_n_evenest_1 G_20) (0, G_20) (x_38, G_34) ∧ Wd D k A a G_34 H ∧ Bd G_34 ∧ Fr [103, 76, 97, 98] [(66, 59), (66, 60), (66, 61), (66, 62), (66, 63)] G G_34 ∧ Fr [103] [] G_20 G_34 ∧ va_S A s.heap H locs ∧ lv_has ls 7 [(5, .int x_38), (0, .ref (a 66)), (4, .int p3)]) (fun n_37 H locs ls ih_36 hI => ?_) (60 - 0 : Int).toNat ⟨G_20, 0, (Int.toNat_of_nonneg ((by first | (clear hP9 hW9 f_6 hp_4 c_7 f_15 d_1 d_2 c_16 g_18 d_3 d_4 d_5 d_6 d_7 d_8 b_24 u_26 u_27 u_28 u_29 b_30 b_31 b_32 b_33; omega) | omega))), ⟨(by first | (clear hP9 hW9 f_6 hp_4 c_7 f_15 d_1 d_2 c_16 g_18 d_3 d_4 d_5 d_6 d_7 d_8 b_24 u_26 u_27 u_28 u_29 b_30 b_31 b_32 b_33; omega) | omega), (by first | (clear hP9 hW9 f_6 hp_4 c_7 f_15 d_1 d_2 c_16 g_18 d_3 d_4 d_5 d_6 d_7 d_8 b_24 u_26 u_27 u_28 u_29 b_30 b_31 b_32 b_33; omega) | omega)⟩, Rc.rf, hW, hB_G_20, hF, Fr.rf, hS, lv_sub hl [0, 1, 5] rfl⟩
      obtain ⟨G_34, x_38, hn_42, f_41, hX_39, hW, hB_G_34, hF, hq_35, hS, hl⟩ := hI
      refine lv_iload hx hb dX12_evenest_32 (lv_at hl 0 rfl) ?_
      refine lv_aload_n hx hb dX12_evenest_34 rfl (lv_at hl 1 rfl) ?_
      refine S_getI (v := (G_20.1 66 62)) (C := RX12) (T := TX12) (N := 89) hx hb hg iX12 hown hK hW kd_66 rfl 62 (lt_b rfl) (hg (Cond.fieldLink RX12 478 "SlabWalkModel" "most" "I") m1376) (fun _ h9 => h9) rfl ((hq_35.i9 66 62 rfl rfl).trans (rfl)) dX12_evenest_35 ?_
      refine lv_aload_n hx hb dX12_evenest_38 rfl (lv_at hl 1 rfl) ?_
      refine S_getI (v := (G_20.1 66 61)) (C := RX12) (T := TX12) (N := 89) hx hb hg iX12 hown hK hW kd_66 rfl 61 (lt_b rfl) (hg (Cond.fieldLink RX12 475 "SlabWalkModel" "least" "I") m1375) (fun _ h9 => h9) rfl ((hq_35.i9 66 61 rfl rfl).trans (rfl)) dX12_evenest_39 ?_
      refine lv_isub hx hb dX12_evenest_42 ?_
      refine lv_topi (fun y_43 ey_43 => ?_)
      have ty_43 : y_43.toInt = (G_20.1 66 62).toInt - (G_20.1 66 61).toInt := xI_sub rfl rfl ey_43 ((by first | (clear hP9 hW9 f_15 d_1 d_2 c_16 g_18 hn_42 f_41; omega) | omega)) ((by first | (clear hP9 hW9 f_15 d_1 d_2 c_16 g_18 hn_42 f_41; omega) | omega))
      refine lv_icmp_gt (tgt := 103) hx hb dX12_evenest_43 rfl (fun c_44 => ?_) (fun c_44 => ?_)
      · have c_44 : y_43.toInt < x_38.toInt := xI_lt rfl rfl c_44
        refine ic_m1 hx hb dX12_evenest_103 ?_
        exact W.iret (v := (-1)) hx hb hr (fun t ht _ => ⟨⟨(-1), G_34, rfl, (Q_evenest_mk ⟨hB_G_34, hF, ⟨r_1, G_2, hX_5, (Or.inr ⟨c_7, ⟨r_10, G_11, hX_14, (Or.inr ⟨c_16, ⟨G_20, hX_23, ⟨x_38, G_34, hX_39, f_41, hB_G_34, hq_35, ⟨y_43, ty_43, (Or.inl ⟨c_44, ⟨rfl, rfl⟩⟩)⟩⟩⟩⟩)⟩⟩)⟩⟩), wd_t ht hW⟩, hS.F ht⟩) hS.2.2 dX12_evenest_104
      · have c_44 : x_38.toInt ≤ y_43.toInt := xI_nlt rfl rfl c_44
        refine lv_aload_n hx hb dX12_evenest_46 rfl (lv_at hl 1 rfl) ?_
        refine S_getI (v := (G_20.1 66 61)) (C := RX12) (T := TX12) (N := 89) hx hb hg iX12 hown hK hW kd_66 rfl 61 (lt_b rfl) (hg (Cond.fieldLink RX12 475 "SlabWalkModel" "least" "I") m1375) (fun _ h9 => h9) rfl ((hq_35.i9 66 61 rfl rfl).trans (rfl)) dX12_evenest_47 ?_
        refine lv_istore (lv' := [(6, .int (G_20.1 66 61)), (5, .int x_38), (0, .ref (a 66)), (4, .int p3)]) hx hb dX12_evenest_50 hl (lt_b rfl) rfl (fun ls hl => ?_)
        refine loop_N (Inv := fun n H locs ls => ∃ (G_45 : GS) (x_49 : Int32), (n : Int) = 61 - x_49.toInt ∧ (0 ≤ x_49.toInt ∧ x_49.toInt ≤ 61) ∧ Rc (St_n_evenest_2 x_38 G_20) ((G_20.1 66 61), G_34) (x_49, G_45) ∧ Wd D k A a G_45 H ∧ Bd G_45 ∧ Fr [103, 76, 97, 98] [(66, 59), (66, 60), (66, 61), (66, 62), (66, 63)] G G_45 ∧ Fr [103] [] G_34 G_45 ∧ va_S A s.heap H locs ∧ lv_has ls 7 [(6, .int x_49), (5, .int x_38), (0, .ref (a 66)), (4, .int p3)]) (fun n_48 H locs ls ih_47 hI => ?_) (61 - (G_20.1 66 61).toInt : Int).toNat ⟨G_34, (G_20.1 66 61), (Int.toNat_of_nonneg ((by first | (clear hP9 hW9 f_15 d_1 d_2 c_16 g_18 hn_42; omega) | omega))), ⟨(by first | (clear hP9 hW9 f_15 d_1 d_2 c_16 g_18 hn_42; omega) | omega), (by first | (clear hP9 hW9 f_15 d_1 d_2 c_16 g_18 hn_42; omega) | omega)⟩, Rc.rf, hW, hB_G_34, hF, Fr.rf, hS, lv_sub hl [0, 1, 2, 3] rfl⟩
        obtain ⟨G_45, x_49, hn_52, f_51, hX_50, hW, hB_G_45, hF, hq_46, hS, hl⟩ := hI
        refine lv_iload hx hb dX12_evenest_52 (lv_at hl 0 rfl) ?_
        refine lv_iload hx hb dX12_evenest_54 (lv_at hl 1 rfl) ?_
        refine lv_iadd hx hb dX12_evenest_56 ?_
        refine lv_topi (fun y_53 ey_53 => ?_)
        have ty_53 : y_53.toInt = x_49.toInt + x_38.toInt := xI_add rfl rfl ey_53 ((by first | (clear hP9 hW9 f_6 c_7 f_15 d_1 d_2 c_16 g_18 b_24 hn_42 hn_52; omega) | omega)) ((by first | (clear hP9 hW9 f_6 c_7 f_15 d_1 d_2 c_16 g_18 b_24 hn_42 hn_52; omega) | omega))
        refine lv_aload_n hx hb dX12_evenest_57 rfl (lv_at hl 2 rfl) ?_
        refine S_getI (v := (G_20.1 66 62)) (C := RX12) (T := TX12) (N := 89) hx hb hg iX12 hown hK hW kd_66 rfl 62 (lt_b rfl) (hg (Cond.fieldLink RX12 478 "SlabWalkModel" "most" "I") m1376) (fun _ h9 => h9) rfl ((hq_46.i9 66 62 rfl rfl).trans ((hq_35.i9 66 62 rfl rfl).trans (rfl))) dX12_evenest_58 ?_
        refine lv_icmp_gt (tgt := 97) hx hb dX12_evenest_61 rfl (fun c_54 => ?_) (fun c_54 => ?_)
        · have c_54 : (G_20.1 66 62).toInt < y_53.toInt := xI_lt rfl rfl c_54
          obtain ⟨y_55, ey_55⟩ : ∃ q, q = x_38 + 1 := ⟨_, rfl⟩
          have ty_55 : y_55.toInt = x_38.toInt + 1 := xI_add rfl rfl ey_55 ((by first | (clear hP9 hW9 f_6 c_7 f_15 d_1 d_2 c_16 g_18 b_24 hn_42 hn_52; omega) | omega)) ((by first | (clear hP9 hW9 f_6 c_7 f_15 d_1 d_2 c_16 g_18 b_24 hn_42 hn_52; omega) | omega))
          refine lv_iinc (v := y_55) (lv' := [(5, .int y_55), (6, .int x_49), (0, .ref (a 66)), (4, .int p3)]) hx hb dX12_evenest_97 hl (k := 1) rfl (by rw [ey_55]; rfl) (lt_b rfl) rfl (fun ls hl => ?_)
          refine lv_goto (tgt := 32) hx hb dX12_evenest_100 rfl ?_
          exact ih_36 (60 - y_55.toInt : Int).toNat ((by first | (clear hP9 hW9 f_6 c_7 f_15 d_1 d_2 c_16 g_18 b_24; omega) | omega)) _ _ _ ⟨G_45, y_55, (Int.toNat_of_nonneg ((by first | (clear hP9 hW9 f_6 c_7 f_15 d_1 d_2 c_16 g_18 b_24 hn_42 hn_52; omega) | omega))), ⟨(by first | (clear hP9 hW9 f_6 c_7 f_15 d_1 d_2 c_16 g_18 b_24 hn_42 hn_52; omega) | omega), (by first | (clear hP9 hW9 f_6 c_7 f_15 d_1 d_2 c_16 g_18 b_24 hn_42 hn_52; omega) | omega)⟩, (hX_39.st (St_n_evenest_1_mk ⟨x_38, G_34, y_55, G_45, rfl, rfl, f_41, hB_G_34, ⟨y_43, ty_43, ⟨c_44, ⟨x_49, G_45, hX_50, f_51, hB_G_45, hq_46, ⟨y_53, ty_53, ⟨c_54, ⟨y_55, ty_55, ⟨rfl, rfl⟩⟩⟩⟩⟩⟩⟩⟩)), hW, hB_G_45, hF, (Fr.call9 (rs := [103]) (fs := []) (Fr.call9 (rs := [103]) (fs := []) Fr.rf hq_35 rfl rfl) hq_46 rfl rfl), hS, lv_sub hl [0, 2, 3] rfl⟩
        · have c_54 : y_53.toInt ≤ (G_20.1 66 62).toInt := xI_nlt rfl rfl c_54
          refine lv_aload_n hx hb dX12_evenest_64 rfl (lv_at hl 2 rfl) ?_
          refine lv_iload hx hb dX12_evenest_65 (lv_at hl 0 rfl) ?_
          refine lv_iload hx hb dX12_evenest_67 (lv_at hl 0 rfl) ?_
          refine lv_iload hx hb dX12_evenest_69 (lv_at hl 1 rfl) ?_
          refine lv_iadd hx hb dX12_evenest_71 ?_
          refine lv_topi (fun y_56 ey_56 => ?_)
          have ty_56 : y_56.toInt = x_49.toInt + x_38.toInt := xI_add rfl rfl ey_56 ((by first | (clear hP9 hW9 f_6 c_7 f_15 d_1 d_2 c_16 g_18 b_24 hn_42 hn_52; omega) | omega)) ((by first | (clear hP9 hW9 f_6 c_7 f_15 d_1 d_2 c_16 g_18 b_24 hn_42 hn_52; omega) | omega))
          refine S_calli (va_runV (As := [.int x_49, .int y_56]) (rest := []) ⟨hx, hb, hml, hown, hts⟩ (n_isEven l D k A a z G_45 x_49 y_56 ⟨(by first | (clear hP9 hW9 f_6 c_7 f_15 d_1 d_2 c_16 g_18 b_24 hn_42 hn_52; omega) | omega), (by first | (clear hP9 hW9 f_6 c_7 f_15 d_1 d_2 c_16 g_18 b_24 hn_42 hn_52; omega) | omega)⟩ ⟨(by first | (clear hP9 hW9 f_6 c_7 f_15 d_1 d_2 c_16 g_18 b_24 hn_42 hn_52; omega) | omega), (by first | (clear hP9 hW9 f_6 c_7 f_15 d_1 d_2 c_16 g_18 b_24 hn_42 hn_52; omega) | omega)⟩) (cwV 2 hts (gd_V hgd m1887 m1889 m99 m131 m1890) rfl rfl rfl hd_X12_isEven ⟨Nat.le_of_ble_eq_true rfl, Nat.le_of_ble_eq_true rfl⟩) (pre_W hW hB_G_45 hK hZ hS kd_66 rfl) rfl rfl hl.1 rfl (lv_room (Nat.le_of_ble_eq_true rfl)) dX12_evenest_72 ⟨Nat.le_of_ble_eq_true rfl, Nat.le_of_ble_eq_true rfl⟩) hS (fun r_57 G_58 H locs hpo hW hS => ?_)
          have hX_61 : Q_isEven x_49 y_56 G_45 r_57 G_58 := hpo
          obtain ⟨hB_G_58, hq_59, f_62, -⟩ := hpo
          have hF := hF.call9 hq_59 rfl rfl
          refine lv_if_eq (tgt := 91) hx hb dX12_evenest_75 rfl (fun c_63 => ?_) (fun c_63 => ?_)
          · have c_63 : r_57.toInt = 0 := xI_eq rfl rfl c_63
            obtain ⟨y_64, ey_64⟩ : ∃ q, q = x_49 + 1 := ⟨_, rfl⟩
            have ty_64 : y_64.toInt = x_49.toInt + 1 := xI_add rfl rfl ey_64 ((by first | (clear hP9 hW9 f_6 c_7 f_15 d_1 d_2 c_16 g_18 b_24 hn_42 hn_52 f_62 c_63; omega) | omega)) ((by first | (clear hP9 hW9 f_6 c_7 f_15 d_1 d_2 c_16 g_18 b_24 hn_42 hn_52 f_62 c_63; omega) | omega))
            refine lv_iinc (v := y_64) (lv' := [(6, .int y_64), (5, .int x_38), (0, .ref (a 66)), (4, .int p3)]) hx hb dX12_evenest_91 hl (k := 0) rfl (by rw [ey_64]; rfl) (lt_b rfl) rfl (fun ls hl => ?_)
            refine lv_goto (tgt := 52) hx hb dX12_evenest_94 rfl ?_
            exact ih_47 (61 - y_64.toInt : Int).toNat ((by first | (clear hP9 hW9 f_6 c_7 f_15 d_1 d_2 c_16 g_18 b_24 f_62 c_63; omega) | omega)) _ _ _ ⟨G_58, y_64, (Int.toNat_of_nonneg ((by first | (clear hP9 hW9 f_6 c_7 f_15 d_1 d_2 c_16 g_18 b_24 hn_42 hn_52 f_62 c_63; omega) | omega))), ⟨(by first | (clear hP9 hW9 f_6 c_7 f_15 d_1 d_2 c_16 g_18 b_24 hn_42 hn_52 f_62 c_63; omega) | omega), (by first | (clear hP9 hW9 f_6 c_7 f_15 d_1 d_2 c_16 g_18 b_24 hn_42 hn_52 f_62 c_63; omega) | omega)⟩, (hX_50.st (St_n_evenest_2_mk ⟨x_49, G_45, y_64, G_58, rfl, rfl, f_51, hB_G_45, ⟨y_53, ty_53, ⟨c_54, ⟨y_56, ty_56, ⟨r_57, G_58, hX_61, ⟨c_63, ⟨y_64, ty_64, ⟨rfl, rfl⟩⟩⟩⟩⟩⟩⟩⟩)), hW, hB_G_58, hF, (Fr.call9 (rs := [103]) (fs := []) (Fr.call9 (rs := [103]) (fs := []) Fr.rf hq_46 rfl rfl) hq_59 rfl rfl), hS, lv_sub hl [0, 1, 2, 3] rfl⟩
          · have c_63 : r_57.toInt ≠ 0 := xI_ne rfl rfl c_63
            refine lv_iload hx hb dX12_evenest_78 (lv_at hl 3 rfl) ?_
            refine lv_if_ne (tgt := 88) hx hb dX12_evenest_80 rfl (fun c_65 => ?_) (fun c_65 => ?_)
            · have c_65 : p3.toInt ≠ 0 := xI_ne rfl rfl c_65
              refine lv_iload hx hb dX12_evenest_88 (lv_at hl 0 rfl) ?_
              exact W.iret (v := x_49) hx hb hr (fun t ht _ => ⟨⟨x_49, G_58, rfl, (Q_evenest_mk ⟨hB_G_58, hF, ⟨r_1, G_2, hX_5, (Or.inr ⟨c_7, ⟨r_10, G_11, hX_14, (Or.inr ⟨c_16, ⟨G_20, hX_23, ⟨x_38, G_34, hX_39, f_41, hB_G_34, hq_35, ⟨y_43, ty_43, (Or.inr ⟨c_44, ⟨x_49, G_45, hX_50, f_51, hB_G_45, hq_46, ⟨y_53, ty_53, ⟨c_54, ⟨y_56, ty_56, ⟨r_57, G_58, hX_61, ⟨c_63, (Or.inr ⟨c_65, ⟨rfl, rfl⟩⟩)⟩⟩⟩⟩⟩⟩⟩)⟩⟩⟩⟩)⟩⟩)⟩⟩), wd_t ht hW⟩, hS.F ht⟩) hS.2.2 dX12_evenest_90
            · have c_65 : p3.toInt = 0 := xI_eq rfl rfl c_65
              refine lv_iload hx hb dX12_evenest_83 (lv_at hl 1 rfl) ?_
              refine lv_goto (tgt := 90) hx hb dX12_evenest_85 rfl ?_
              exact W.iret (v := x_38) hx hb hr (fun t ht _ => ⟨⟨x_38, G_58, rfl, (Q_evenest_mk ⟨hB_G_58, hF, ⟨r_1, G_2, hX_5, (Or.inr ⟨c_7, ⟨r_10, G_11, hX_14, (Or.inr ⟨c_16, ⟨G_20, hX_23, ⟨x_38, G_34, hX_39, f_41, hB_G_34, hq_35, ⟨y_43, ty_43, (Or.inr ⟨c_44, ⟨x_49, G_45, hX_50, f_51, hB_G_45, hq_46, ⟨y_53, ty_53, ⟨c_54, ⟨y_56, ty_56, ⟨r_57, G_58, hX_61, ⟨c_63, (Or.inl ⟨c_65, ⟨rfl, rfl⟩⟩)⟩⟩⟩⟩⟩⟩⟩)⟩⟩⟩⟩)⟩⟩)⟩⟩), wd_t ht hW⟩, hS.F ht⟩) hS.2.2 dX12_evenest_90
    · have c_16 : r_10.toInt = 0 := xI_eq rfl rfl c_16
      refine ic_m1 hx hb dX12_evenest_20 ?_
      exact W.iret (v := (-1)) hx hb hr (fun t ht _ => ⟨⟨(-1), G_11, rfl, (Q_evenest_mk ⟨hB_G_11, hF, ⟨r_1, G_2, hX_5, (Or.inr ⟨c_7, ⟨r_10, G_11, hX_14, (Or.inl ⟨c_16, ⟨rfl, rfl⟩⟩)⟩⟩)⟩⟩), wd_t ht hW⟩, hS.F ht⟩) hS.2.2 dX12_evenest_21
