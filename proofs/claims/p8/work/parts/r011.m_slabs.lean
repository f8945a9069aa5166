theorem m1874 : Cond.constantLong RX12 517 (-1) ∈ gd := gdc_8_4 14 rfl gw_constantLong
theorem m1907 : Cond.methodLink RX12 536 yX12_areSlabs ∈ gd := gdc_8_6 15 rfl gw_methodLink
theorem m1908 : Cond.static yX12_areSlabs ∈ gd := gdc_8_7 0 rfl gw_static
theorem m1909 : Cond.code yX12_areSlabs cX12_areSlabs 3 (some .boolean) ∈ gd := gdc_8_7 1 rfl gw_code
theorem m1910 : Cond.methodLink RX12 539 yX12_firstOf ∈ gd := gdc_8_7 2 rfl gw_methodLink
theorem m1911 : Cond.static yX12_firstOf ∈ gd := gdc_8_7 3 rfl gw_static
theorem m1912 : Cond.code yX12_firstOf cX12_firstOf 7 (some .int) ∈ gd := gdc_8_7 4 rfl gw_code
theorem m1913 : Cond.methodLink RX12 532 yX12_isPlain ∈ gd := gdc_8_7 5 rfl gw_methodLink
theorem m1914 : Cond.static yX12_isPlain ∈ gd := gdc_8_7 6 rfl gw_static
theorem m1915 : Cond.code yX12_isPlain cX12_isPlain 6 (some .boolean) ∈ gd := gdc_8_7 7 rfl gw_code
theorem m1920 : Cond.methodLink RX12 543 yX12_beginOf ∈ gd := gdc_8_7 12 rfl gw_methodLink
theorem m1921 : Cond.static yX12_beginOf ∈ gd := gdc_8_7 13 rfl gw_static
theorem m1922 : Cond.code yX12_beginOf cX12_beginOf 6 (some .int) ∈ gd := gdc_8_7 14 rfl gw_code
def rbX12_areSlabs_0 : List (Nat × List Nat) := [(0, [26]), (1, [4]), (2, [16, 60]), (4, [184, 1, 193]), (7, [153, 0, 27]), (10, [27]), (11, [3]), (12, [16, 9]), (14, [184, 1, 193]), (17, [153, 0, 17]), (20, [28]), (21, [4]), (22, [16, 12]), (24, [184, 1, 193]), (27, [153, 0, 7]), (30, [4]), (31, [167, 0, 4]), (34, [3]), (35, [172])]
theorem rcX12_areSlabs_0 : dgo (lb cX12_areSlabs) 0 rbX12_areSlabs_0 = true := by decide +kernel
theorem dX12_areSlabs_0 : decode cX12_areSlabs 0 = .ok (.iload_n 0, 1) := dk_26 (dw rcX12_areSlabs_0 0 rfl)
theorem dX12_areSlabs_1 : decode cX12_areSlabs 1 = .ok (.iconst 1, 1) := dk_4 (dw rcX12_areSlabs_0 1 rfl)
theorem dX12_areSlabs_2 : decode cX12_areSlabs 2 = .ok (.bipush 60, 2) := dk_16 (dw rcX12_areSlabs_0 2 rfl) rfl
theorem dX12_areSlabs_4 : decode cX12_areSlabs 4 = .ok (.invokestatic 449, 3) := dk_184 (dw rcX12_areSlabs_0 3 rfl) rfl
theorem dX12_areSlabs_7 : decode cX12_areSlabs 7 = .ok (.ifCond .eq 27, 3) := dk_153 (dw rcX12_areSlabs_0 4 rfl) rfl
theorem dX12_areSlabs_10 : decode cX12_areSlabs 10 = .ok (.iload_n 1, 1) := dk_27 (dw rcX12_areSlabs_0 5 rfl)
theorem dX12_areSlabs_11 : decode cX12_areSlabs 11 = .ok (.iconst 0, 1) := dk_3 (dw rcX12_areSlabs_0 6 rfl)
theorem dX12_areSlabs_12 : decode cX12_areSlabs 12 = .ok (.bipush 9, 2) := dk_16 (dw rcX12_areSlabs_0 7 rfl) rfl
theorem dX12_areSlabs_14 : decode cX12_areSlabs 14 = .ok (.invokestatic 449, 3) := dk_184 (dw rcX12_areSlabs_0 8 rfl) rfl
theorem dX12_areSlabs_17 : decode cX12_areSlabs 17 = .ok (.ifCond .eq 17, 3) := dk_153 (dw rcX12_areSlabs_0 9 rfl) rfl
theorem dX12_areSlabs_20 : decode cX12_areSlabs 20 = .ok (.iload_n 2, 1) := dk_28 (dw rcX12_areSlabs_0 10 rfl)
theorem dX12_areSlabs_21 : decode cX12_areSlabs 21 = .ok (.iconst 1, 1) := dk_4 (dw rcX12_areSlabs_0 11 rfl)
theorem dX12_areSlabs_22 : decode cX12_areSlabs 22 = .ok (.bipush 12, 2) := dk_16 (dw rcX12_areSlabs_0 12 rfl) rfl
theorem dX12_areSlabs_24 : decode cX12_areSlabs 24 = .ok (.invokestatic 449, 3) := dk_184 (dw rcX12_areSlabs_0 13 rfl) rfl
theorem dX12_areSlabs_27 : decode cX12_areSlabs 27 = .ok (.ifCond .eq 7, 3) := dk_153 (dw rcX12_areSlabs_0 14 rfl) rfl
theorem dX12_areSlabs_30 : decode cX12_areSlabs 30 = .ok (.iconst 1, 1) := dk_4 (dw rcX12_areSlabs_0 15 rfl)
theorem dX12_areSlabs_31 : decode cX12_areSlabs 31 = .ok (.goto 4, 3) := dk_167 (dw rcX12_areSlabs_0 16 rfl) rfl
theorem dX12_areSlabs_34 : decode cX12_areSlabs 34 = .ok (.iconst 0, 1) := dk_3 (dw rcX12_areSlabs_0 17 rfl)
theorem dX12_areSlabs_35 : decode cX12_areSlabs 35 = .ok (.ireturn, 1) := dk_172 (dw rcX12_areSlabs_0 18 rfl)
def rbX12_begin_0 : List (Nat × List Nat) := [(0, [27]), (1, [28]), (2, [29]), (3, [184, 2, 24]), (6, [153, 0, 25]), (9, [21, 4]), (11, [4]), (12, [16, 99]), (14, [184, 1, 193]), (17, [153, 0, 14]), (20, [27]), (21, [28]), (22, [29]), (23, [21, 4]), (25, [184, 2, 31]), (28, [167, 0, 4]), (31, [2]), (32, [172])]
theorem rcX12_begin_0 : dgo (lb cX12_begin) 0 rbX12_begin_0 = true := by decide +kernel
theorem dX12_begin_0 : decode cX12_begin 0 = .ok (.iload_n 1, 1) := dk_27 (dw rcX12_begin_0 0 rfl)
theorem dX12_begin_1 : decode cX12_begin 1 = .ok (.iload_n 2, 1) := dk_28 (dw rcX12_begin_0 1 rfl)
theorem dX12_begin_2 : decode cX12_begin 2 = .ok (.iload_n 3, 1) := dk_29 (dw rcX12_begin_0 2 rfl)
theorem dX12_begin_3 : decode cX12_begin 3 = .ok (.invokestatic 536, 3) := dk_184 (dw rcX12_begin_0 3 rfl) rfl
theorem dX12_begin_6 : decode cX12_begin 6 = .ok (.ifCond .eq 25, 3) := dk_153 (dw rcX12_begin_0 4 rfl) rfl
theorem dX12_begin_9 : decode cX12_begin 9 = .ok (.iload 4, 2) := dk_21 (dw rcX12_begin_0 5 rfl)
theorem dX12_begin_11 : decode cX12_begin 11 = .ok (.iconst 1, 1) := dk_4 (dw rcX12_begin_0 6 rfl)
theorem dX12_begin_12 : decode cX12_begin 12 = .ok (.bipush 99, 2) := dk_16 (dw rcX12_begin_0 7 rfl) rfl
theorem dX12_begin_14 : decode cX12_begin 14 = .ok (.invokestatic 449, 3) := dk_184 (dw rcX12_begin_0 8 rfl) rfl
theorem dX12_begin_17 : decode cX12_begin 17 = .ok (.ifCond .eq 14, 3) := dk_153 (dw rcX12_begin_0 9 rfl) rfl
theorem dX12_begin_20 : decode cX12_begin 20 = .ok (.iload_n 1, 1) := dk_27 (dw rcX12_begin_0 10 rfl)
theorem dX12_begin_21 : decode cX12_begin 21 = .ok (.iload_n 2, 1) := dk_28 (dw rcX12_begin_0 11 rfl)
theorem dX12_begin_22 : decode cX12_begin 22 = .ok (.iload_n 3, 1) := dk_29 (dw rcX12_begin_0 12 rfl)
theorem dX12_begin_23 : decode cX12_begin 23 = .ok (.iload 4, 2) := dk_21 (dw rcX12_begin_0 13 rfl)
theorem dX12_begin_25 : decode cX12_begin 25 = .ok (.invokestatic 543, 3) := dk_184 (dw rcX12_begin_0 14 rfl) rfl
theorem dX12_begin_28 : decode cX12_begin 28 = .ok (.goto 4, 3) := dk_167 (dw rcX12_begin_0 15 rfl) rfl
theorem dX12_begin_31 : decode cX12_begin 31 = .ok (.iconst (-1), 1) := dk_2 (dw rcX12_begin_0 16 rfl)
theorem dX12_begin_32 : decode cX12_begin 32 = .ok (.ireturn, 1) := dk_172 (dw rcX12_begin_0 17 rfl)
def rbX12_beginOf_0 : List (Nat × List Nat) := [(0, [3]), (1, [54, 4]), (3, [3]), (4, [54, 5]), (6, [21, 5]), (8, [26]), (9, [27]), (10, [96]), (11, [162, 0, 34]), (14, [21, 4]), (16, [26]), (17, [27]), (18, [28]), (19, [29]), (20, [21, 5]), (22, [184, 2, 27]), (25, [156, 0, 7]), (28, [4]), (29, [167, 0, 4]), (32, [3]), (33, [184, 1, 92]), (36, [96]), (37, [54, 4]), (39, [132, 5, 1])]
theorem rcX12_beginOf_0 : dgo (lb cX12_beginOf) 0 rbX12_beginOf_0 = true := by decide +kernel
theorem dX12_beginOf_0 : decode cX12_beginOf 0 = .ok (.iconst 0, 1) := dk_3 (dw rcX12_beginOf_0 0 rfl)
theorem dX12_beginOf_1 : decode cX12_beginOf 1 = .ok (.istore 4, 2) := dk_54 (dw rcX12_beginOf_0 1 rfl)
theorem dX12_beginOf_3 : decode cX12_beginOf 3 = .ok (.iconst 0, 1) := dk_3 (dw rcX12_beginOf_0 2 rfl)
theorem dX12_beginOf_4 : decode cX12_beginOf 4 = .ok (.istore 5, 2) := dk_54 (dw rcX12_beginOf_0 3 rfl)
theorem dX12_beginOf_6 : decode cX12_beginOf 6 = .ok (.iload 5, 2) := dk_21 (dw rcX12_beginOf_0 4 rfl)
theorem dX12_beginOf_8 : decode cX12_beginOf 8 = .ok (.iload_n 0, 1) := dk_26 (dw rcX12_beginOf_0 5 rfl)
theorem dX12_beginOf_9 : decode cX12_beginOf 9 = .ok (.iload_n 1, 1) := dk_27 (dw rcX12_beginOf_0 6 rfl)
theorem dX12_beginOf_10 : decode cX12_beginOf 10 = .ok (.iadd, 1) := dk_96 (dw rcX12_beginOf_0 7 rfl)
theorem dX12_beginOf_11 : decode cX12_beginOf 11 = .ok (.if_icmp .ge 34, 3) := dk_162 (dw rcX12_beginOf_0 8 rfl) rfl
theorem dX12_beginOf_14 : decode cX12_beginOf 14 = .ok (.iload 4, 2) := dk_21 (dw rcX12_beginOf_0 9 rfl)
theorem dX12_beginOf_16 : decode cX12_beginOf 16 = .ok (.iload_n 0, 1) := dk_26 (dw rcX12_beginOf_0 10 rfl)
theorem dX12_beginOf_17 : decode cX12_beginOf 17 = .ok (.iload_n 1, 1) := dk_27 (dw rcX12_beginOf_0 11 rfl)
theorem dX12_beginOf_18 : decode cX12_beginOf 18 = .ok (.iload_n 2, 1) := dk_28 (dw rcX12_beginOf_0 12 rfl)
theorem dX12_beginOf_19 : decode cX12_beginOf 19 = .ok (.iload_n 3, 1) := dk_29 (dw rcX12_beginOf_0 13 rfl)
theorem dX12_beginOf_20 : decode cX12_beginOf 20 = .ok (.iload 5, 2) := dk_21 (dw rcX12_beginOf_0 14 rfl)
theorem dX12_beginOf_22 : decode cX12_beginOf 22 = .ok (.invokestatic 539, 3) := dk_184 (dw rcX12_beginOf_0 15 rfl) rfl
theorem dX12_beginOf_25 : decode cX12_beginOf 25 = .ok (.ifCond .ge 7, 3) := dk_156 (dw rcX12_beginOf_0 16 rfl) rfl
theorem dX12_beginOf_28 : decode cX12_beginOf 28 = .ok (.iconst 1, 1) := dk_4 (dw rcX12_beginOf_0 17 rfl)
theorem dX12_beginOf_29 : decode cX12_beginOf 29 = .ok (.goto 4, 3) := dk_167 (dw rcX12_beginOf_0 18 rfl) rfl
theorem dX12_beginOf_32 : decode cX12_beginOf 32 = .ok (.iconst 0, 1) := dk_3 (dw rcX12_beginOf_0 19 rfl)
theorem dX12_beginOf_33 : decode cX12_beginOf 33 = .ok (.invokestatic 348, 3) := dk_184 (dw rcX12_beginOf_0 20 rfl) rfl
theorem dX12_beginOf_36 : decode cX12_beginOf 36 = .ok (.iadd, 1) := dk_96 (dw rcX12_beginOf_0 21 rfl)
theorem dX12_beginOf_37 : decode cX12_beginOf 37 = .ok (.istore 4, 2) := dk_54 (dw rcX12_beginOf_0 22 rfl)
theorem dX12_beginOf_39 : decode cX12_beginOf 39 = .ok (.iinc 5 1, 3) := dk_132 (dw rcX12_beginOf_0 23 rfl) rfl
def rbX12_beginOf_42 : List (Nat × List Nat) := [(42, [167, 255, 220]), (45, [21, 4]), (47, [172])]
theorem rcX12_beginOf_42 : dgo (lb cX12_beginOf) 0 rbX12_beginOf_42 = true := by decide +kernel
theorem dX12_beginOf_42 : decode cX12_beginOf 42 = .ok (.goto (-36), 3) := dk_167 (dw rcX12_beginOf_42 0 rfl) rfl
theorem dX12_beginOf_45 : decode cX12_beginOf 45 = .ok (.iload 4, 2) := dk_21 (dw rcX12_beginOf_42 1 rfl)
theorem dX12_beginOf_47 : decode cX12_beginOf 47 = .ok (.ireturn, 1) := dk_172 (dw rcX12_beginOf_42 2 rfl)
def rbX12_first_0 : List (Nat × List Nat) := [(0, [27]), (1, [28]), (2, [29]), (3, [184, 2, 24]), (6, [153, 0, 41]), (9, [21, 4]), (11, [4]), (12, [16, 99]), (14, [184, 1, 193]), (17, [153, 0, 30]), (20, [21, 5]), (22, [3]), (23, [27]), (24, [28]), (25, [96]), (26, [4]), (27, [100]), (28, [184, 1, 193]), (31, [153, 0, 16]), (34, [27]), (35, [28]), (36, [29]), (37, [21, 4]), (39, [21, 5])]
theorem rcX12_first_0 : dgo (lb cX12_first) 0 rbX12_first_0 = true := by decide +kernel
theorem dX12_first_0 : decode cX12_first 0 = .ok (.iload_n 1, 1) := dk_27 (dw rcX12_first_0 0 rfl)
theorem dX12_first_1 : decode cX12_first 1 = .ok (.iload_n 2, 1) := dk_28 (dw rcX12_first_0 1 rfl)
theorem dX12_first_2 : decode cX12_first 2 = .ok (.iload_n 3, 1) := dk_29 (dw rcX12_first_0 2 rfl)
theorem dX12_first_3 : decode cX12_first 3 = .ok (.invokestatic 536, 3) := dk_184 (dw rcX12_first_0 3 rfl) rfl
theorem dX12_first_6 : decode cX12_first 6 = .ok (.ifCond .eq 41, 3) := dk_153 (dw rcX12_first_0 4 rfl) rfl
theorem dX12_first_9 : decode cX12_first 9 = .ok (.iload 4, 2) := dk_21 (dw rcX12_first_0 5 rfl)
theorem dX12_first_11 : decode cX12_first 11 = .ok (.iconst 1, 1) := dk_4 (dw rcX12_first_0 6 rfl)
theorem dX12_first_12 : decode cX12_first 12 = .ok (.bipush 99, 2) := dk_16 (dw rcX12_first_0 7 rfl) rfl
theorem dX12_first_14 : decode cX12_first 14 = .ok (.invokestatic 449, 3) := dk_184 (dw rcX12_first_0 8 rfl) rfl
theorem dX12_first_17 : decode cX12_first 17 = .ok (.ifCond .eq 30, 3) := dk_153 (dw rcX12_first_0 9 rfl) rfl
theorem dX12_first_20 : decode cX12_first 20 = .ok (.iload 5, 2) := dk_21 (dw rcX12_first_0 10 rfl)
theorem dX12_first_22 : decode cX12_first 22 = .ok (.iconst 0, 1) := dk_3 (dw rcX12_first_0 11 rfl)
theorem dX12_first_23 : decode cX12_first 23 = .ok (.iload_n 1, 1) := dk_27 (dw rcX12_first_0 12 rfl)
theorem dX12_first_24 : decode cX12_first 24 = .ok (.iload_n 2, 1) := dk_28 (dw rcX12_first_0 13 rfl)
theorem dX12_first_25 : decode cX12_first 25 = .ok (.iadd, 1) := dk_96 (dw rcX12_first_0 14 rfl)
theorem dX12_first_26 : decode cX12_first 26 = .ok (.iconst 1, 1) := dk_4 (dw rcX12_first_0 15 rfl)
theorem dX12_first_27 : decode cX12_first 27 = .ok (.isub, 1) := dk_100 (dw rcX12_first_0 16 rfl)
theorem dX12_first_28 : decode cX12_first 28 = .ok (.invokestatic 449, 3) := dk_184 (dw rcX12_first_0 17 rfl) rfl
theorem dX12_first_31 : decode cX12_first 31 = .ok (.ifCond .eq 16, 3) := dk_153 (dw rcX12_first_0 18 rfl) rfl
theorem dX12_first_34 : decode cX12_first 34 = .ok (.iload_n 1, 1) := dk_27 (dw rcX12_first_0 19 rfl)
theorem dX12_first_35 : decode cX12_first 35 = .ok (.iload_n 2, 1) := dk_28 (dw rcX12_first_0 20 rfl)
theorem dX12_first_36 : decode cX12_first 36 = .ok (.iload_n 3, 1) := dk_29 (dw rcX12_first_0 21 rfl)
theorem dX12_first_37 : decode cX12_first 37 = .ok (.iload 4, 2) := dk_21 (dw rcX12_first_0 22 rfl)
theorem dX12_first_39 : decode cX12_first 39 = .ok (.iload 5, 2) := dk_21 (dw rcX12_first_0 23 rfl)
def rbX12_first_41 : List (Nat × List Nat) := [(41, [184, 2, 27]), (44, [167, 0, 5]), (47, [16, 254]), (49, [172])]
theorem rcX12_first_41 : dgo (lb cX12_first) 0 rbX12_first_41 = true := by decide +kernel
theorem dX12_first_41 : decode cX12_first 41 = .ok (.invokestatic 539, 3) := dk_184 (dw rcX12_first_41 0 rfl) rfl
theorem dX12_first_44 : decode cX12_first 44 = .ok (.goto 5, 3) := dk_167 (dw rcX12_first_41 1 rfl) rfl
theorem dX12_first_47 : decode cX12_first 47 = .ok (.bipush (-2), 2) := dk_16 (dw rcX12_first_41 2 rfl) rfl
theorem dX12_first_49 : decode cX12_first 49 = .ok (.ireturn, 1) := dk_172 (dw rcX12_first_41 3 rfl)
def rbX12_firstOf_0 : List (Nat × List Nat) := [(0, [21, 4]), (2, [54, 5]), (4, [3]), (5, [54, 6]), (7, [21, 6]), (9, [26]), (10, [27]), (11, [96]), (12, [163, 0, 33]), (15, [26]), (16, [27]), (17, [28]), (18, [21, 5]), (20, [184, 2, 20]), (23, [154, 0, 6]), (26, [21, 6]), (28, [172]), (29, [21, 5]), (31, [29]), (32, [96]), (33, [26]), (34, [27]), (35, [96]), (36, [112])]
theorem rcX12_firstOf_0 : dgo (lb cX12_firstOf) 0 rbX12_firstOf_0 = true := by decide +kernel
theorem dX12_firstOf_0 : decode cX12_firstOf 0 = .ok (.iload 4, 2) := dk_21 (dw rcX12_firstOf_0 0 rfl)
theorem dX12_firstOf_2 : decode cX12_firstOf 2 = .ok (.istore 5, 2) := dk_54 (dw rcX12_firstOf_0 1 rfl)
theorem dX12_firstOf_4 : decode cX12_firstOf 4 = .ok (.iconst 0, 1) := dk_3 (dw rcX12_firstOf_0 2 rfl)
theorem dX12_firstOf_5 : decode cX12_firstOf 5 = .ok (.istore 6, 2) := dk_54 (dw rcX12_firstOf_0 3 rfl)
theorem dX12_firstOf_7 : decode cX12_firstOf 7 = .ok (.iload 6, 2) := dk_21 (dw rcX12_firstOf_0 4 rfl)
theorem dX12_firstOf_9 : decode cX12_firstOf 9 = .ok (.iload_n 0, 1) := dk_26 (dw rcX12_firstOf_0 5 rfl)
theorem dX12_firstOf_10 : decode cX12_firstOf 10 = .ok (.iload_n 1, 1) := dk_27 (dw rcX12_firstOf_0 6 rfl)
theorem dX12_firstOf_11 : decode cX12_firstOf 11 = .ok (.iadd, 1) := dk_96 (dw rcX12_firstOf_0 7 rfl)
theorem dX12_firstOf_12 : decode cX12_firstOf 12 = .ok (.if_icmp .gt 33, 3) := dk_163 (dw rcX12_firstOf_0 8 rfl) rfl
theorem dX12_firstOf_15 : decode cX12_firstOf 15 = .ok (.iload_n 0, 1) := dk_26 (dw rcX12_firstOf_0 9 rfl)
theorem dX12_firstOf_16 : decode cX12_firstOf 16 = .ok (.iload_n 1, 1) := dk_27 (dw rcX12_firstOf_0 10 rfl)
theorem dX12_firstOf_17 : decode cX12_firstOf 17 = .ok (.iload_n 2, 1) := dk_28 (dw rcX12_firstOf_0 11 rfl)
theorem dX12_firstOf_18 : decode cX12_firstOf 18 = .ok (.iload 5, 2) := dk_21 (dw rcX12_firstOf_0 12 rfl)
theorem dX12_firstOf_20 : decode cX12_firstOf 20 = .ok (.invokestatic 532, 3) := dk_184 (dw rcX12_firstOf_0 13 rfl) rfl
theorem dX12_firstOf_23 : decode cX12_firstOf 23 = .ok (.ifCond .ne 6, 3) := dk_154 (dw rcX12_firstOf_0 14 rfl) rfl
theorem dX12_firstOf_26 : decode cX12_firstOf 26 = .ok (.iload 6, 2) := dk_21 (dw rcX12_firstOf_0 15 rfl)
theorem dX12_firstOf_28 : decode cX12_firstOf 28 = .ok (.ireturn, 1) := dk_172 (dw rcX12_firstOf_0 16 rfl)
theorem dX12_firstOf_29 : decode cX12_firstOf 29 = .ok (.iload 5, 2) := dk_21 (dw rcX12_firstOf_0 17 rfl)
theorem dX12_firstOf_31 : decode cX12_firstOf 31 = .ok (.iload_n 3, 1) := dk_29 (dw rcX12_firstOf_0 18 rfl)
theorem dX12_firstOf_32 : decode cX12_firstOf 32 = .ok (.iadd, 1) := dk_96 (dw rcX12_firstOf_0 19 rfl)
theorem dX12_firstOf_33 : decode cX12_firstOf 33 = .ok (.iload_n 0, 1) := dk_26 (dw rcX12_firstOf_0 20 rfl)
theorem dX12_firstOf_34 : decode cX12_firstOf 34 = .ok (.iload_n 1, 1) := dk_27 (dw rcX12_firstOf_0 21 rfl)
theorem dX12_firstOf_35 : decode cX12_firstOf 35 = .ok (.iadd, 1) := dk_96 (dw rcX12_firstOf_0 22 rfl)
theorem dX12_firstOf_36 : decode cX12_firstOf 36 = .ok (.irem, 1) := dk_112 (dw rcX12_firstOf_0 23 rfl)
def rbX12_firstOf_37 : List (Nat × List Nat) := [(37, [54, 5]), (39, [132, 6, 1]), (42, [167, 255, 221]), (45, [2]), (46, [172])]
theorem rcX12_firstOf_37 : dgo (lb cX12_firstOf) 0 rbX12_firstOf_37 = true := by decide +kernel
theorem dX12_firstOf_37 : decode cX12_firstOf 37 = .ok (.istore 5, 2) := dk_54 (dw rcX12_firstOf_37 0 rfl)
theorem dX12_firstOf_39 : decode cX12_firstOf 39 = .ok (.iinc 6 1, 3) := dk_132 (dw rcX12_firstOf_37 1 rfl) rfl
theorem dX12_firstOf_42 : decode cX12_firstOf 42 = .ok (.goto (-35), 3) := dk_167 (dw rcX12_firstOf_37 2 rfl) rfl
theorem dX12_firstOf_45 : decode cX12_firstOf 45 = .ok (.iconst (-1), 1) := dk_2 (dw rcX12_firstOf_37 3 rfl)
theorem dX12_firstOf_46 : decode cX12_firstOf 46 = .ok (.ireturn, 1) := dk_172 (dw rcX12_firstOf_37 4 rfl)
def rbX12_isPlain_0 : List (Nat × List Nat) := [(0, [4]), (1, [54, 4]), (3, [29]), (4, [54, 5]), (6, [21, 5]), (8, [29]), (9, [28]), (10, [96]), (11, [162, 0, 31]), (14, [21, 4]), (16, [153, 0, 17]), (19, [21, 5]), (21, [26]), (22, [27]), (23, [96]), (24, [112]), (25, [26]), (26, [162, 0, 7]), (29, [4]), (30, [167, 0, 4]), (33, [3]), (34, [54, 4]), (36, [132, 5, 1]), (39, [167, 255, 223])]
theorem rcX12_isPlain_0 : dgo (lb cX12_isPlain) 0 rbX12_isPlain_0 = true := by decide +kernel
theorem dX12_isPlain_0 : decode cX12_isPlain 0 = .ok (.iconst 1, 1) := dk_4 (dw rcX12_isPlain_0 0 rfl)
theorem dX12_isPlain_1 : decode cX12_isPlain 1 = .ok (.istore 4, 2) := dk_54 (dw rcX12_isPlain_0 1 rfl)
theorem dX12_isPlain_3 : decode cX12_isPlain 3 = .ok (.iload_n 3, 1) := dk_29 (dw rcX12_isPlain_0 2 rfl)
theorem dX12_isPlain_4 : decode cX12_isPlain 4 = .ok (.istore 5, 2) := dk_54 (dw rcX12_isPlain_0 3 rfl)
theorem dX12_isPlain_6 : decode cX12_isPlain 6 = .ok (.iload 5, 2) := dk_21 (dw rcX12_isPlain_0 4 rfl)
theorem dX12_isPlain_8 : decode cX12_isPlain 8 = .ok (.iload_n 3, 1) := dk_29 (dw rcX12_isPlain_0 5 rfl)
theorem dX12_isPlain_9 : decode cX12_isPlain 9 = .ok (.iload_n 2, 1) := dk_28 (dw rcX12_isPlain_0 6 rfl)
theorem dX12_isPlain_10 : decode cX12_isPlain 10 = .ok (.iadd, 1) := dk_96 (dw rcX12_isPlain_0 7 rfl)
theorem dX12_isPlain_11 : decode cX12_isPlain 11 = .ok (.if_icmp .ge 31, 3) := dk_162 (dw rcX12_isPlain_0 8 rfl) rfl
theorem dX12_isPlain_14 : decode cX12_isPlain 14 = .ok (.iload 4, 2) := dk_21 (dw rcX12_isPlain_0 9 rfl)
theorem dX12_isPlain_16 : decode cX12_isPlain 16 = .ok (.ifCond .eq 17, 3) := dk_153 (dw rcX12_isPlain_0 10 rfl) rfl
theorem dX12_isPlain_19 : decode cX12_isPlain 19 = .ok (.iload 5, 2) := dk_21 (dw rcX12_isPlain_0 11 rfl)
theorem dX12_isPlain_21 : decode cX12_isPlain 21 = .ok (.iload_n 0, 1) := dk_26 (dw rcX12_isPlain_0 12 rfl)
theorem dX12_isPlain_22 : decode cX12_isPlain 22 = .ok (.iload_n 1, 1) := dk_27 (dw rcX12_isPlain_0 13 rfl)
theorem dX12_isPlain_23 : decode cX12_isPlain 23 = .ok (.iadd, 1) := dk_96 (dw rcX12_isPlain_0 14 rfl)
theorem dX12_isPlain_24 : decode cX12_isPlain 24 = .ok (.irem, 1) := dk_112 (dw rcX12_isPlain_0 15 rfl)
theorem dX12_isPlain_25 : decode cX12_isPlain 25 = .ok (.iload_n 0, 1) := dk_26 (dw rcX12_isPlain_0 16 rfl)
theorem dX12_isPlain_26 : decode cX12_isPlain 26 = .ok (.if_icmp .ge 7, 3) := dk_162 (dw rcX12_isPlain_0 17 rfl) rfl
theorem dX12_isPlain_29 : decode cX12_isPlain 29 = .ok (.iconst 1, 1) := dk_4 (dw rcX12_isPlain_0 18 rfl)
theorem dX12_isPlain_30 : decode cX12_isPlain 30 = .ok (.goto 4, 3) := dk_167 (dw rcX12_isPlain_0 19 rfl) rfl
theorem dX12_isPlain_33 : decode cX12_isPlain 33 = .ok (.iconst 0, 1) := dk_3 (dw rcX12_isPlain_0 20 rfl)
theorem dX12_isPlain_34 : decode cX12_isPlain 34 = .ok (.istore 4, 2) := dk_54 (dw rcX12_isPlain_0 21 rfl)
theorem dX12_isPlain_36 : decode cX12_isPlain 36 = .ok (.iinc 5 1, 3) := dk_132 (dw rcX12_isPlain_0 22 rfl) rfl
theorem dX12_isPlain_39 : decode cX12_isPlain 39 = .ok (.goto (-33), 3) := dk_167 (dw rcX12_isPlain_0 23 rfl) rfl
def rbX12_isPlain_42 : List (Nat × List Nat) := [(42, [21, 4]), (44, [172])]
theorem rcX12_isPlain_42 : dgo (lb cX12_isPlain) 0 rbX12_isPlain_42 = true := by decide +kernel
theorem dX12_isPlain_42 : decode cX12_isPlain 42 = .ok (.iload 4, 2) := dk_21 (dw rcX12_isPlain_42 0 rfl)
theorem dX12_isPlain_44 : decode cX12_isPlain 44 = .ok (.ireturn, 1) := dk_172 (dw rcX12_isPlain_42 1 rfl)
def rbX12_suits_0 : List (Nat × List Nat) := [(0, [27]), (1, [28]), (2, [21, 5]), (4, [184, 2, 24]), (7, [153, 0, 14]), (10, [29]), (11, [21, 4]), (13, [21, 5]), (15, [184, 2, 24]), (18, [154, 0, 7]), (21, [20, 2, 5]), (24, [173]), (25, [9]), (26, [55, 6]), (28, [4]), (29, [54, 8]), (31, [21, 8]), (33, [16, 60]), (35, [163, 0, 45]), (38, [27]), (39, [28]), (40, [21, 5]), (42, [21, 8]), (44, [184, 2, 31])]
theorem rcX12_suits_0 : dgo (lb cX12_suits) 0 rbX12_suits_0 = true := by decide +kernel
theorem dX12_suits_0 : decode cX12_suits 0 = .ok (.iload_n 1, 1) := dk_27 (dw rcX12_suits_0 0 rfl)
theorem dX12_suits_1 : decode cX12_suits 1 = .ok (.iload_n 2, 1) := dk_28 (dw rcX12_suits_0 1 rfl)
theorem dX12_suits_2 : decode cX12_suits 2 = .ok (.iload 5, 2) := dk_21 (dw rcX12_suits_0 2 rfl)
theorem dX12_suits_4 : decode cX12_suits 4 = .ok (.invokestatic 536, 3) := dk_184 (dw rcX12_suits_0 3 rfl) rfl
theorem dX12_suits_7 : decode cX12_suits 7 = .ok (.ifCond .eq 14, 3) := dk_153 (dw rcX12_suits_0 4 rfl) rfl
theorem dX12_suits_10 : decode cX12_suits 10 = .ok (.iload_n 3, 1) := dk_29 (dw rcX12_suits_0 5 rfl)
theorem dX12_suits_11 : decode cX12_suits 11 = .ok (.iload 4, 2) := dk_21 (dw rcX12_suits_0 6 rfl)
theorem dX12_suits_13 : decode cX12_suits 13 = .ok (.iload 5, 2) := dk_21 (dw rcX12_suits_0 7 rfl)
theorem dX12_suits_15 : decode cX12_suits 15 = .ok (.invokestatic 536, 3) := dk_184 (dw rcX12_suits_0 8 rfl) rfl
theorem dX12_suits_18 : decode cX12_suits 18 = .ok (.ifCond .ne 7, 3) := dk_154 (dw rcX12_suits_0 9 rfl) rfl
theorem dX12_suits_21 : decode cX12_suits 21 = .ok (.ldc2_w 517, 3) := dk_20 (dw rcX12_suits_0 10 rfl) rfl
theorem dX12_suits_24 : decode cX12_suits 24 = .ok (.lreturn, 1) := dk_173 (dw rcX12_suits_0 11 rfl)
theorem dX12_suits_25 : decode cX12_suits 25 = .ok (.lconst 0, 1) := dk_9 (dw rcX12_suits_0 12 rfl)
theorem dX12_suits_26 : decode cX12_suits 26 = .ok (.lstore 6, 2) := dk_55 (dw rcX12_suits_0 13 rfl)
theorem dX12_suits_28 : decode cX12_suits 28 = .ok (.iconst 1, 1) := dk_4 (dw rcX12_suits_0 14 rfl)
theorem dX12_suits_29 : decode cX12_suits 29 = .ok (.istore 8, 2) := dk_54 (dw rcX12_suits_0 15 rfl)
theorem dX12_suits_31 : decode cX12_suits 31 = .ok (.iload 8, 2) := dk_21 (dw rcX12_suits_0 16 rfl)
theorem dX12_suits_33 : decode cX12_suits 33 = .ok (.bipush 60, 2) := dk_16 (dw rcX12_suits_0 17 rfl) rfl
theorem dX12_suits_35 : decode cX12_suits 35 = .ok (.if_icmp .gt 45, 3) := dk_163 (dw rcX12_suits_0 18 rfl) rfl
theorem dX12_suits_38 : decode cX12_suits 38 = .ok (.iload_n 1, 1) := dk_27 (dw rcX12_suits_0 19 rfl)
theorem dX12_suits_39 : decode cX12_suits 39 = .ok (.iload_n 2, 1) := dk_28 (dw rcX12_suits_0 20 rfl)
theorem dX12_suits_40 : decode cX12_suits 40 = .ok (.iload 5, 2) := dk_21 (dw rcX12_suits_0 21 rfl)
theorem dX12_suits_42 : decode cX12_suits 42 = .ok (.iload 8, 2) := dk_21 (dw rcX12_suits_0 22 rfl)
theorem dX12_suits_44 : decode cX12_suits 44 = .ok (.invokestatic 543, 3) := dk_184 (dw rcX12_suits_0 23 rfl) rfl
def rbX12_suits_47 : List (Nat × List Nat) := [(47, [158, 0, 27]), (50, [29]), (51, [21, 4]), (53, [21, 5]), (55, [21, 8]), (57, [184, 2, 31]), (60, [158, 0, 14]), (63, [22, 6]), (65, [10]), (66, [21, 8]), (68, [4]), (69, [100]), (70, [121]), (71, [129]), (72, [55, 6]), (74, [132, 8, 1]), (77, [167, 255, 210]), (80, [22, 6]), (82, [173])]
theorem rcX12_suits_47 : dgo (lb cX12_suits) 0 rbX12_suits_47 = true := by decide +kernel
theorem dX12_suits_47 : decode cX12_suits 47 = .ok (.ifCond .le 27, 3) := dk_158 (dw rcX12_suits_47 0 rfl) rfl
theorem dX12_suits_50 : decode cX12_suits 50 = .ok (.iload_n 3, 1) := dk_29 (dw rcX12_suits_47 1 rfl)
theorem dX12_suits_51 : decode cX12_suits 51 = .ok (.iload 4, 2) := dk_21 (dw rcX12_suits_47 2 rfl)
theorem dX12_suits_53 : decode cX12_suits 53 = .ok (.iload 5, 2) := dk_21 (dw rcX12_suits_47 3 rfl)
theorem dX12_suits_55 : decode cX12_suits 55 = .ok (.iload 8, 2) := dk_21 (dw rcX12_suits_47 4 rfl)
theorem dX12_suits_57 : decode cX12_suits 57 = .ok (.invokestatic 543, 3) := dk_184 (dw rcX12_suits_47 5 rfl) rfl
theorem dX12_suits_60 : decode cX12_suits 60 = .ok (.ifCond .le 14, 3) := dk_158 (dw rcX12_suits_47 6 rfl) rfl
theorem dX12_suits_63 : decode cX12_suits 63 = .ok (.lload 6, 2) := dk_22 (dw rcX12_suits_47 7 rfl)
theorem dX12_suits_65 : decode cX12_suits 65 = .ok (.lconst 1, 1) := dk_10 (dw rcX12_suits_47 8 rfl)
theorem dX12_suits_66 : decode cX12_suits 66 = .ok (.iload 8, 2) := dk_21 (dw rcX12_suits_47 9 rfl)
theorem dX12_suits_68 : decode cX12_suits 68 = .ok (.iconst 1, 1) := dk_4 (dw rcX12_suits_47 10 rfl)
theorem dX12_suits_69 : decode cX12_suits 69 = .ok (.isub, 1) := dk_100 (dw rcX12_suits_47 11 rfl)
theorem dX12_suits_70 : decode cX12_suits 70 = .ok (.lshl, 1) := dk_121 (dw rcX12_suits_47 12 rfl)
theorem dX12_suits_71 : decode cX12_suits 71 = .ok (.lor, 1) := dk_129 (dw rcX12_suits_47 13 rfl)
theorem dX12_suits_72 : decode cX12_suits 72 = .ok (.lstore 6, 2) := dk_55 (dw rcX12_suits_47 14 rfl)
theorem dX12_suits_74 : decode cX12_suits 74 = .ok (.iinc 8 1, 3) := dk_132 (dw rcX12_suits_47 15 rfl) rfl
theorem dX12_suits_77 : decode cX12_suits 77 = .ok (.goto (-46), 3) := dk_167 (dw rcX12_suits_47 16 rfl) rfl
theorem dX12_suits_80 : decode cX12_suits 80 = .ok (.lload 6, 2) := dk_22 (dw rcX12_suits_47 17 rfl)
theorem dX12_suits_82 : decode cX12_suits 82 = .ok (.lreturn, 1) := dk_173 (dw rcX12_suits_47 18 rfl)
set_option maxHeartbeats 4000000 in
set_option maxRecDepth 100000 in
theorem n_areSlabs (l : Launch) (D : va_G) (k : KT) (A : Nat → Prop) (a : Nat → Nat) (z : SK) (G : GS) (p0 : Int32) (p1 : Int32) (p2 : Int32)  : Met l yX12_areSlabs (WS yX12_areSlabs cX12_areSlabs 3 (some .boolean)) ({ frames := 1, cells := 0, slots := 0, locals := 22 }) (va_Pc [.int p0, .int p1, .int p2] (cW D k A a z G)) (va_Qi (fun (r : Int32) (G1 : GS) => Q_areSlabs p0 p1 p2 G r G1) (fun (G1 : GS) t => Wd D k A a G1 t.heap) A) 0 0 A := by
  refine Met.ofW (cc := cX12_areSlabs) (maxL := 3) (ret := (some .boolean)) (by decide) rfl ?_
  intro p e s m args below meth c s₁ B hml hv
  obtain ⟨rfl, hW, hB_G, hK, hZ⟩ := hv
  have hx := B.exec
  have hb := B.bytes
  have hr := B.returns
  have hts := atoms_spec (ws := WS yX12_areSlabs cX12_areSlabs 3 (some .boolean)) B.pre
  have hgd : ∀ w ∈ gd, w ∈ WS yX12_areSlabs cX12_areSlabs 3 (some .boolean) := fun w h => List.mem_cons_of_mem _ h
  have hg : ∀ w ∈ gd, w.before _ s = true := fun w h => hts w (hgd w h)
  have hown : s.vm.findClass RX12 = some m.cls := findClass_of_methodNamed B.named
  have hS : va_S A s.heap s.heap [] := va_S.rf
  have hF : Fr [] [] G G := Fr.rf
  have hl := lv_entry ([.int p0, .int p1, .int p2]) (n := 3) (Nat.le_of_ble_eq_true rfl)
  rw [lg_entry_eq]
  generalize (lg_sl ([.int p0, .int p1, .int p2]) ++ List.replicate (3 - (lg_sl ([.int p0, .int p1, .int p2])).length) Slot.unset).toArray = ls at hl ⊢
  have hl : lv_has ls 3 [(0, .int p0), (1, .int p1), (2, .int p2)] := hl
  refine lv_iload_n hx hb dX12_areSlabs_0 rfl (lv_at hl 0 rfl) ?_
  refine ic_1 hx hb dX12_areSlabs_1 ?_
  refine lv_bipush (v := 60) hx hb dX12_areSlabs_2 (by decide) ?_
  have qc_1 : (1 : Int32).toInt = 1 := rfl
  have qc_2 : (60 : Int32).toInt = 60 := rfl
  refine S_calli (va_runS (As := [.int p0, .int 1, .int 60]) (rest := []) ⟨hx, hb, hml, hown, hts⟩ (n_isIn l D k A a z G p0 1 60 ) (va_cwS 3 hts (gd_S hgd m1781 m1782 m131 m1783) rfl rfl rfl hd_X12_isIn.2 ⟨Nat.le_of_ble_eq_true rfl, Nat.le_of_ble_eq_true rfl⟩) (pre_S hW hB_G hK hZ hS) rfl rfl hl.1 rfl (lv_room (Nat.le_of_ble_eq_true rfl)) dX12_areSlabs_4 ⟨Nat.le_of_ble_eq_true rfl, Nat.le_of_ble_eq_true rfl⟩) hS (fun r_3 G_4 H locs hpo hW hS => ?_)
  have hX_7 : Q_isIn p0 1 60 G r_3 G_4 := hpo
  obtain ⟨hB_G_4, hq_5, f_8, ⟨d_1, d_2⟩, -⟩ := hpo
  have hF := hF.call9 hq_5 rfl rfl
  refine lv_if_eq (tgt := 34) hx hb dX12_areSlabs_7 rfl (fun c_9 => ?_) (fun c_9 => ?_)
  · have c_9 : r_3.toInt = 0 := xI_eq rfl rfl c_9
    refine ic_0 hx hb dX12_areSlabs_34 ?_
    exact W.zret (v := 0) hx hb hr (by decide) (fun t ht _ => ⟨⟨0, G_4, rfl, (Q_areSlabs_mk ⟨hB_G_4, hF, ⟨by decide, by decide⟩, (by have hq : (0 : Int32).toInt = 0 := rfl; (try dsimp only); omega), ⟨r_3, G_4, hX_7, (Or.inl ⟨c_9, ⟨rfl, rfl⟩⟩)⟩⟩), wd_t ht hW⟩, hS.F ht⟩) hS.2.2 dX12_areSlabs_35
  · have c_9 : r_3.toInt ≠ 0 := xI_ne rfl rfl c_9
    refine lv_iload_n hx hb dX12_areSlabs_10 rfl (lv_at hl 1 rfl) ?_
    refine ic_0 hx hb dX12_areSlabs_11 ?_
    refine lv_bipush (v := 9) hx hb dX12_areSlabs_12 (by decide) ?_
    have qc_10 : (0 : Int32).toInt = 0 := rfl
    have qc_11 : (9 : Int32).toInt = 9 := rfl
    refine S_calli (va_runS (As := [.int p1, .int 0, .int 9]) (rest := []) ⟨hx, hb, hml, hown, hts⟩ (n_isIn l D k A a z G_4 p1 0 9 ) (va_cwS 3 hts (gd_S hgd m1781 m1782 m131 m1783) rfl rfl rfl hd_X12_isIn.2 ⟨Nat.le_of_ble_eq_true rfl, Nat.le_of_ble_eq_true rfl⟩) (pre_S hW hB_G_4 hK hZ hS) rfl rfl hl.1 rfl (lv_room (Nat.le_of_ble_eq_true rfl)) dX12_areSlabs_14 ⟨Nat.le_of_ble_eq_true rfl, Nat.le_of_ble_eq_true rfl⟩) hS (fun r_12 G_13 H locs hpo hW hS => ?_)
    have hX_16 : Q_isIn p1 0 9 G_4 r_12 G_13 := hpo
    obtain ⟨hB_G_13, hq_14, f_17, ⟨d_3, d_4⟩, -⟩ := hpo
    have hF := hF.call9 hq_14 rfl rfl
    refine lv_if_eq (tgt := 34) hx hb dX12_areSlabs_17 rfl (fun c_18 => ?_) (fun c_18 => ?_)
    · have c_18 : r_12.toInt = 0 := xI_eq rfl rfl c_18
      refine ic_0 hx hb dX12_areSlabs_34 ?_
      exact W.zret (v := 0) hx hb hr (by decide) (fun t ht _ => ⟨⟨0, G_13, rfl, (Q_areSlabs_mk ⟨hB_G_13, hF, ⟨by decide, by decide⟩, (by have hq : (0 : Int32).toInt = 0 := rfl; (try dsimp only); omega), ⟨r_3, G_4, hX_7, (Or.inr ⟨c_9, ⟨r_12, G_13, hX_16, (Or.inl ⟨c_18, ⟨rfl, rfl⟩⟩)⟩⟩)⟩⟩), wd_t ht hW⟩, hS.F ht⟩) hS.2.2 dX12_areSlabs_35
    · have c_18 : r_12.toInt ≠ 0 := xI_ne rfl rfl c_18
      refine lv_iload_n hx hb dX12_areSlabs_20 rfl (lv_at hl 2 rfl) ?_
      refine ic_1 hx hb dX12_areSlabs_21 ?_
      refine lv_bipush (v := 12) hx hb dX12_areSlabs_22 (by decide) ?_
      have qc_19 : (1 : Int32).toInt = 1 := rfl
      have qc_20 : (12 : Int32).toInt = 12 := rfl
      refine S_calli (va_runS (As := [.int p2, .int 1, .int 12]) (rest := []) ⟨hx, hb, hml, hown, hts⟩ (n_isIn l D k A a z G_13 p2 1 12 ) (va_cwS 3 hts (gd_S hgd m1781 m1782 m131 m1783) rfl rfl rfl hd_X12_isIn.2 ⟨Nat.le_of_ble_eq_true rfl, Nat.le_of_ble_eq_true rfl⟩) (pre_S hW hB_G_13 hK hZ hS) rfl rfl hl.1 rfl (lv_room (Nat.le_of_ble_eq_true rfl)) dX12_areSlabs_24 ⟨Nat.le_of_ble_eq_true rfl, Nat.le_of_ble_eq_true rfl⟩) hS (fun r_21 G_22 H locs hpo hW hS => ?_)
      have hX_25 : Q_isIn p2 1 12 G_13 r_21 G_22 := hpo
      obtain ⟨hB_G_22, hq_23, f_26, ⟨d_5, d_6⟩, -⟩ := hpo
      have hF := hF.call9 hq_23 rfl rfl
      refine lv_if_eq (tgt := 34) hx hb dX12_areSlabs_27 rfl (fun c_27 => ?_) (fun c_27 => ?_)
      · have c_27 : r_21.toInt = 0 := xI_eq rfl rfl c_27
        refine ic_0 hx hb dX12_areSlabs_34 ?_
        exact W.zret (v := 0) hx hb hr (by decide) (fun t ht _ => ⟨⟨0, G_22, rfl, (Q_areSlabs_mk ⟨hB_G_22, hF, ⟨by decide, by decide⟩, (by have hq : (0 : Int32).toInt = 0 := rfl; (try dsimp only); omega), ⟨r_3, G_4, hX_7, (Or.inr ⟨c_9, ⟨r_12, G_13, hX_16, (Or.inr ⟨c_18, ⟨r_21, G_22, hX_25, (Or.inl ⟨c_27, ⟨rfl, rfl⟩⟩)⟩⟩)⟩⟩)⟩⟩), wd_t ht hW⟩, hS.F ht⟩) hS.2.2 dX12_areSlabs_35
      · have c_27 : r_21.toInt ≠ 0 := xI_ne rfl rfl c_27
        refine ic_1 hx hb dX12_areSlabs_30 ?_
        refine lv_goto (tgt := 35) hx hb dX12_areSlabs_31 rfl ?_
        exact W.zret (v := 1) hx hb hr (by decide) (fun t ht _ => ⟨⟨1, G_22, rfl, (Q_areSlabs_mk ⟨hB_G_22, hF, ⟨by decide, by decide⟩, (by have hq : (1 : Int32).toInt = 1 := rfl; (try dsimp only); omega), ⟨r_3, G_4, hX_7, (Or.inr ⟨c_9, ⟨r_12, G_13, hX_16, (Or.inr ⟨c_18, ⟨r_21, G_22, hX_25, (Or.inr ⟨c_27, ⟨rfl, rfl⟩⟩)⟩⟩)⟩⟩)⟩⟩), wd_t ht hW⟩, hS.F ht⟩) hS.2.2 dX12_areSlabs_35

set_option maxHeartbeats 4000000 in
set_option maxRecDepth 100000 in
theorem n_isPlain (l : Launch) (D : va_G) (k : KT) (A : Nat → Prop) (a : Nat → Nat) (z : SK) (G : GS) (p0 : Int32) (p1 : Int32) (p2 : Int32) (p3 : Int32) (ha_p0 : 1 ≤ p0.toInt ∧ p0.toInt ≤ 60) (ha_p1 : 0 ≤ p1.toInt ∧ p1.toInt ≤ 9) (ha_p2 : 1 ≤ p2.toInt ∧ p2.toInt ≤ 12) (ha_p3 : 0 ≤ p3.toInt ∧ p3.toInt ≤ 200) : Met l yX12_isPlain (WS yX12_isPlain cX12_isPlain 6 (some .boolean)) ({ frames := 0, cells := 0, slots := 0, locals := 0 }) (va_Pc [.int p0, .int p1, .int p2, .int p3] (cW D k A a z G)) (va_Qi (fun (r : Int32) (G1 : GS) => Q_isPlain p0 p1 p2 p3 G r G1) (fun (G1 : GS) t => Wd D k A a G1 t.heap) A) 0 0 A := by
  refine Met.ofW (cc := cX12_isPlain) (maxL := 6) (ret := (some .boolean)) (by decide) rfl ?_
  intro p e s m args below meth c s₁ B hml hv
  obtain ⟨rfl, hW, hB_G, hK, hZ⟩ := hv
  have hx := B.exec
  have hb := B.bytes
  have hr := B.returns
  have hts := atoms_spec (ws := WS yX12_isPlain cX12_isPlain 6 (some .boolean)) B.pre
  have hgd : ∀ w ∈ gd, w ∈ WS yX12_isPlain cX12_isPlain 6 (some .boolean) := fun w h => List.mem_cons_of_mem _ h
  have hg : ∀ w ∈ gd, w.before _ s = true := fun w h => hts w (hgd w h)
  have hown : s.vm.findClass RX12 = some m.cls := findClass_of_methodNamed B.named
  have hS : va_S A s.heap s.heap [] := va_S.rf
  have hF : Fr [] [] G G := Fr.rf
  have hl := lv_entry ([.int p0, .int p1, .int p2, .int p3]) (n := 6) (Nat.le_of_ble_eq_true rfl)
  rw [lg_entry_eq]
  generalize (lg_sl ([.int p0, .int p1, .int p2, .int p3]) ++ List.replicate (6 - (lg_sl ([.int p0, .int p1, .int p2, .int p3])).length) Slot.unset).toArray = ls at hl ⊢
  have hl : lv_has ls 6 [(0, .int p0), (1, .int p1), (2, .int p2), (3, .int p3)] := hl
  refine ic_1 hx hb dX12_isPlain_0 ?_
  refine lv_istore (lv' := [(4, .int 1), (0, .int p0), (1, .int p1), (2, .int p2), (3, .int p3)]) hx hb dX12_isPlain_1 hl (lt_b rfl) rfl (fun ls hl => ?_)
  refine lv_iload_n hx hb dX12_isPlain_3 rfl (lv_at hl 4 rfl) ?_
  refine lv_istore (lv' := [(5, .int p3), (4, .int 1), (0, .int p0), (1, .int p1), (2, .int p2), (3, .int p3)]) hx hb dX12_isPlain_4 hl (lt_b rfl) rfl (fun ls hl => ?_)
  have qc_8 : (1 : Int32).toInt = 1 := rfl
  refine loop_N (Inv := fun n H locs ls => ∃ (G_1 : GS) (x_5 : Int32) (x_6 : Int32), (n : Int) = 212 - x_5.toInt ∧ (0 ≤ x_5.toInt ∧ x_5.toInt ≤ 212) ∧ (0 ≤ x_6.toInt ∧ x_6.toInt ≤ 1) ∧ Rc (St_n_isPlain_1 p0 p1 p2 p3) (p3, 1, G) (x_5, x_6, G_1) ∧ Wd D k A a G_1 H ∧ Bd G_1 ∧ Fr [] [] G G_1 ∧ Fr [] [] G G_1 ∧ va_S A s.heap H locs ∧ lv_has ls 6 [(5, .int x_5), (4, .int x_6), (0, .int p0), (1, .int p1), (2, .int p2), (3, .int p3)]) (fun n_4 H locs ls ih_3 hI => ?_) (212 - p3.toInt : Int).toNat ⟨G, p3, 1, (Int.toNat_of_nonneg ((by first | (clear ha_p0 ha_p1 ha_p2; omega) | omega))), ⟨(by first | (clear ha_p0 ha_p1 ha_p2; omega) | omega), (by first | (clear ha_p0 ha_p1 ha_p2; omega) | omega)⟩, ⟨(by first | (clear ha_p0 ha_p1 ha_p2 ha_p3; omega) | omega), (by first | (clear ha_p0 ha_p1 ha_p2 ha_p3; omega) | omega)⟩, Rc.rf, hW, hB_G, hF, Fr.rf, hS, lv_sub hl [0, 1, 2, 3, 4, 5] rfl⟩
  obtain ⟨G_1, x_5, x_6, hn_11, f_9, f_10, hX_7, hW, hB_G_1, hF, hq_2, hS, hl⟩ := hI
  refine lv_iload hx hb dX12_isPlain_6 (lv_at hl 0 rfl) ?_
  refine lv_iload_n hx hb dX12_isPlain_8 rfl (lv_at hl 5 rfl) ?_
  refine lv_iload_n hx hb dX12_isPlain_9 rfl (lv_at hl 4 rfl) ?_
  refine lv_iadd hx hb dX12_isPlain_10 ?_
  refine lv_topi (fun y_12 ey_12 => ?_)
  have ty_12 : y_12.toInt = p3.toInt + p2.toInt := xI_add rfl rfl ey_12 ((by first | (clear ha_p0 ha_p1 hn_11 f_9 f_10; omega) | omega)) ((by first | (clear ha_p0 ha_p1 hn_11 f_9 f_10; omega) | omega))
  refine lv_icmp_ge (tgt := 42) hx hb dX12_isPlain_11 rfl (fun c_13 => ?_) (fun c_13 => ?_)
  · have c_13 : y_12.toInt ≤ x_5.toInt := xI_le rfl rfl c_13
    refine lv_iload hx hb dX12_isPlain_42 (lv_at hl 1 rfl) ?_
    exact W.zret (v := x_6) hx hb hr (nar_z ((by first | (clear ha_p0 ha_p1 ha_p2 ha_p3 hn_11 f_9 ty_12 c_13; omega) | omega)) ((by first | (clear ha_p0 ha_p1 ha_p2 ha_p3 hn_11 f_9 ty_12 c_13; omega) | omega))) (fun t ht _ => ⟨⟨x_6, G_1, rfl, (Q_isPlain_mk ⟨hB_G_1, hF, ⟨(by first | (clear ha_p0 ha_p1 ha_p2 ha_p3 hn_11 f_9 ty_12 c_13; omega) | omega), (by first | (clear ha_p0 ha_p1 ha_p2 ha_p3 hn_11 f_9 ty_12 c_13; omega) | omega)⟩, ⟨x_5, x_6, G_1, hX_7, f_9, f_10, hB_G_1, hq_2, ⟨y_12, ty_12, ⟨c_13, ⟨rfl, rfl⟩⟩⟩⟩⟩), wd_t ht hW⟩, hS.F ht⟩) hS.2.2 dX12_isPlain_44
  · have c_13 : x_5.toInt < y_12.toInt := xI_nle rfl rfl c_13
    refine lv_iload hx hb dX12_isPlain_14 (lv_at hl 1 rfl) ?_
    refine lv_if_eq (tgt := 33) hx hb dX12_isPlain_16 rfl (fun c_14 => ?_) (fun c_14 => ?_)
    · have c_14 : x_6.toInt = 0 := xI_eq rfl rfl c_14
      refine ic_0 hx hb dX12_isPlain_33 ?_
      refine lv_istore (lv' := [(4, .int 0), (5, .int x_5), (0, .int p0), (1, .int p1), (2, .int p2), (3, .int p3)]) hx hb dX12_isPlain_34 hl (lt_b rfl) rfl (fun ls hl => ?_)
      obtain ⟨y_15, ey_15⟩ : ∃ q, q = x_5 + 1 := ⟨_, rfl⟩
      have ty_15 : y_15.toInt = x_5.toInt + 1 := xI_add rfl rfl ey_15 ((by first | (clear ha_p0 ha_p1 hn_11 f_10 c_14; omega) | omega)) ((by first | (clear ha_p0 ha_p1 hn_11 f_10 c_14; omega) | omega))
      refine lv_iinc (v := y_15) (lv' := [(5, .int y_15), (4, .int 0), (0, .int p0), (1, .int p1), (2, .int p2), (3, .int p3)]) hx hb dX12_isPlain_36 hl (k := 1) rfl (by rw [ey_15]; rfl) (lt_b rfl) rfl (fun ls hl => ?_)
      refine lv_goto (tgt := 6) hx hb dX12_isPlain_39 rfl ?_
      have qc_16 : (0 : Int32).toInt = 0 := rfl
      exact ih_3 (212 - y_15.toInt : Int).toNat ((by first | (clear ha_p0 ha_p1 f_10 c_14; omega) | omega)) _ _ _ ⟨G_1, y_15, 0, (Int.toNat_of_nonneg ((by first | (clear ha_p0 ha_p1 hn_11 f_10 c_14; omega) | omega))), ⟨(by first | (clear ha_p0 ha_p1 hn_11 f_10 c_14; omega) | omega), (by first | (clear ha_p0 ha_p1 hn_11 f_10 c_14; omega) | omega)⟩, ⟨(by first | (clear ha_p0 ha_p1 ha_p2 ha_p3 hn_11 f_9 f_10 ty_12 c_13 c_14 ty_15; omega) | omega), (by first | (clear ha_p0 ha_p1 ha_p2 ha_p3 hn_11 f_9 f_10 ty_12 c_13 c_14 ty_15; omega) | omega)⟩, (hX_7.st (St_n_isPlain_1_mk ⟨x_5, x_6, G_1, y_15, 0, G_1, rfl, rfl, f_9, f_10, hB_G_1, ⟨y_12, ty_12, ⟨c_13, (Or.inl ⟨c_14, ⟨y_15, ty_15, ⟨rfl, rfl, rfl⟩⟩⟩)⟩⟩⟩)), hW, hB_G_1, hF, (Fr.call9 (rs := []) (fs := []) Fr.rf hq_2 rfl rfl), hS, lv_sub hl [0, 1, 2, 3, 4, 5] rfl⟩
    · have c_14 : x_6.toInt ≠ 0 := xI_ne rfl rfl c_14
      refine lv_iload hx hb dX12_isPlain_19 (lv_at hl 0 rfl) ?_
      refine lv_iload_n hx hb dX12_isPlain_21 rfl (lv_at hl 2 rfl) ?_
      refine lv_iload_n hx hb dX12_isPlain_22 rfl (lv_at hl 3 rfl) ?_
      refine lv_iadd hx hb dX12_isPlain_23 ?_
      refine lv_topi (fun y_17 ey_17 => ?_)
      have ty_17 : y_17.toInt = p0.toInt + p1.toInt := xI_add rfl rfl ey_17 ((by first | (clear ha_p2 ha_p3 hn_11 f_9 f_10 ty_12 c_13 c_14; omega) | omega)) ((by first | (clear ha_p2 ha_p3 hn_11 f_9 f_10 ty_12 c_13 c_14; omega) | omega))
      refine lv_irem hx hb dX12_isPlain_24 (fun q => by have q := xI_eq (Y := 0) rfl rfl q; omega) ?_
      refine lv_topi (fun y_18 ey_18 => ?_)
      have ty_18 : 0 ≤ y_18.toInt ∧ y_18.toInt < y_17.toInt := xI_modB ey_18 (by omega) (by omega)
      refine lv_iload_n hx hb dX12_isPlain_25 rfl (lv_at hl 2 rfl) ?_
      refine lv_icmp_ge (tgt := 33) hx hb dX12_isPlain_26 rfl (fun c_19 => ?_) (fun c_19 => ?_)
      · have c_19 : p0.toInt ≤ y_18.toInt := xI_le rfl rfl c_19
        refine ic_0 hx hb dX12_isPlain_33 ?_
        refine lv_istore (lv' := [(4, .int 0), (5, .int x_5), (0, .int p0), (1, .int p1), (2, .int p2), (3, .int p3)]) hx hb dX12_isPlain_34 hl (lt_b rfl) rfl (fun ls hl => ?_)
        obtain ⟨y_20, ey_20⟩ : ∃ q, q = x_5 + 1 := ⟨_, rfl⟩
        have ty_20 : y_20.toInt = x_5.toInt + 1 := xI_add rfl rfl ey_20 ((by first | (clear ha_p0 ha_p1 hn_11 f_10 c_14 ty_17 ty_18 c_19; omega) | omega)) ((by first | (clear ha_p0 ha_p1 hn_11 f_10 c_14 ty_17 ty_18 c_19; omega) | omega))
        refine lv_iinc (v := y_20) (lv' := [(5, .int y_20), (4, .int 0), (0, .int p0), (1, .int p1), (2, .int p2), (3, .int p3)]) hx hb dX12_isPlain_36 hl (k := 1) rfl (by rw [ey_20]; rfl) (lt_b rfl) rfl (fun ls hl => ?_)
        refine lv_goto (tgt := 6) hx hb dX12_isPlain_39 rfl ?_
        have qc_21 : (0 : Int32).toInt = 0 := rfl
        exact ih_3 (212 - y_20.toInt : Int).toNat ((by first | (clear ha_p0 ha_p1 f_10 c_14 ty_17 ty_18 c_19; omega) | omega)) _ _ _ ⟨G_1, y_20, 0, (Int.toNat_of_nonneg ((by first | (clear ha_p0 ha_p1 hn_11 f_10 c_14 ty_17 ty_18 c_19; omega) | omega))), ⟨(by first | (clear ha_p0 ha_p1 hn_11 f_10 c_14 ty_17 ty_18 c_19; omega) | omega), (by first | (clear ha_p0 ha_p1 hn_11 f_10 c_14 ty_17 ty_18 c_19; omega) | omega)⟩, ⟨(by first | (clear ha_p0 ha_p1 ha_p2 ha_p3 hn_11 f_9 f_10 ty_12 c_13 c_14 ty_17 ty_18 c_19 ty_20; omega) | omega), (by first | (clear ha_p0 ha_p1 ha_p2 ha_p3 hn_11 f_9 f_10 ty_12 c_13 c_14 ty_17 ty_18 c_19 ty_20; omega) | omega)⟩, (hX_7.st (St_n_isPlain_1_mk ⟨x_5, x_6, G_1, y_20, 0, G_1, rfl, rfl, f_9, f_10, hB_G_1, ⟨y_12, ty_12, ⟨c_13, (Or.inr ⟨c_14, ⟨y_17, ty_17, ⟨y_18, ey_18, (Or.inl ⟨c_19, ⟨y_20, ty_20, ⟨rfl, rfl, rfl⟩⟩⟩)⟩⟩⟩)⟩⟩⟩)), hW, hB_G_1, hF, (Fr.call9 (rs := []) (fs := []) Fr.rf hq_2 rfl rfl), hS, lv_sub hl [0, 1, 2, 3, 4, 5] rfl⟩
      · have c_19 : y_18.toInt < p0.toInt := xI_nle rfl rfl c_19
        refine ic_1 hx hb dX12_isPlain_29 ?_
        refine lv_goto (tgt := 34) hx hb dX12_isPlain_30 rfl ?_
        refine lv_istore (lv' := [(4, .int 1), (5, .int x_5), (0, .int p0), (1, .int p1), (2, .int p2), (3, .int p3)]) hx hb dX12_isPlain_34 hl (lt_b rfl) rfl (fun ls hl => ?_)
        obtain ⟨y_22, ey_22⟩ : ∃ q, q = x_5 + 1 := ⟨_, rfl⟩
        have ty_22 : y_22.toInt = x_5.toInt + 1 := xI_add rfl rfl ey_22 ((by first | (clear ha_p0 ha_p1 hn_11 f_10 c_14 ty_17 ty_18 c_19; omega) | omega)) ((by first | (clear ha_p0 ha_p1 hn_11 f_10 c_14 ty_17 ty_18 c_19; omega) | omega))
        refine lv_iinc (v := y_22) (lv' := [(5, .int y_22), (4, .int 1), (0, .int p0), (1, .int p1), (2, .int p2), (3, .int p3)]) hx hb dX12_isPlain_36 hl (k := 1) rfl (by rw [ey_22]; rfl) (lt_b rfl) rfl (fun ls hl => ?_)
        refine lv_goto (tgt := 6) hx hb dX12_isPlain_39 rfl ?_
        have qc_23 : (1 : Int32).toInt = 1 := rfl
        exact ih_3 (212 - y_22.toInt : Int).toNat ((by first | (clear ha_p0 ha_p1 f_10 c_14 ty_17 ty_18 c_19; omega) | omega)) _ _ _ ⟨G_1, y_22, 1, (Int.toNat_of_nonneg ((by first | (clear ha_p0 ha_p1 hn_11 f_10 c_14 ty_17 ty_18 c_19; omega) | omega))), ⟨(by first | (clear ha_p0 ha_p1 hn_11 f_10 c_14 ty_17 ty_18 c_19; omega) | omega), (by first | (clear ha_p0 ha_p1 hn_11 f_10 c_14 ty_17 ty_18 c_19; omega) | omega)⟩, ⟨(by first | (clear ha_p0 ha_p1 ha_p2 ha_p3 hn_11 f_9 f_10 ty_12 c_13 c_14 ty_17 ty_18 c_19 ty_22; omega) | omega), (by first | (clear ha_p0 ha_p1 ha_p2 ha_p3 hn_11 f_9 f_10 ty_12 c_13 c_14 ty_17 ty_18 c_19 ty_22; omega) | omega)⟩, (hX_7.st (St_n_isPlain_1_mk ⟨x_5, x_6, G_1, y_22, 1, G_1, rfl, rfl, f_9, f_10, hB_G_1, ⟨y_12, ty_12, ⟨c_13, (Or.inr ⟨c_14, ⟨y_17, ty_17, ⟨y_18, ey_18, (Or.inr ⟨c_19, ⟨y_22, ty_22, ⟨rfl, rfl, rfl⟩⟩⟩)⟩⟩⟩)⟩⟩⟩)), hW, hB_G_1, hF, (Fr.call9 (rs := []) (fs := []) Fr.rf hq_2 rfl rfl), hS, lv_sub hl [0, 1, 2, 3, 4, 5] rfl⟩

set_option maxHeartbeats 4000000 in
set_option maxRecDepth 100000 in
theorem n_firstOf (l : Launch) (D : va_G) (k : KT) (A : Nat → Prop) (a : Nat → Nat) (z : SK) (G : GS) (p0 : Int32) (p1 : Int32) (p2 : Int32) (p3 : Int32) (p4 : Int32) (ha_p0 : 1 ≤ p0.toInt ∧ p0.toInt ≤ 60) (ha_p1 : 0 ≤ p1.toInt ∧ p1.toInt ≤ 9) (ha_p2 : 1 ≤ p2.toInt ∧ p2.toInt ≤ 12) (ha_p3 : 1 ≤ p3.toInt ∧ p3.toInt ≤ 99) (ha_p4 : 0 ≤ p4.toInt ∧ p4.toInt ≤ 68) : Met l yX12_firstOf (WS yX12_firstOf cX12_firstOf 7 (some .int)) ({ frames := 1, cells := 0, slots := 0, locals := 25 }) (va_Pc [.int p0, .int p1, .int p2, .int p3, .int p4] (cW D k A a z G)) (va_Qi (fun (r : Int32) (G1 : GS) => Q_firstOf p0 p1 p2 p3 p4 G r G1) (fun (G1 : GS) t => Wd D k A a G1 t.heap) A) 0 0 A := by
  refine Met.ofW (cc := cX12_firstOf) (maxL := 7) (ret := (some .int)) (by decide) rfl ?_
  intro p e s m args below meth c s₁ B hml hv
  obtain ⟨rfl, hW, hB_G, hK, hZ⟩ := hv
  have hx := B.exec
  have hb := B.bytes
  have hr := B.returns
  have hts := atoms_spec (ws := WS yX12_firstOf cX12_firstOf 7 (some .int)) B.pre
  have hgd : ∀ w ∈ gd, w ∈ WS yX12_firstOf cX12_firstOf 7 (some .int) := fun w h => List.mem_cons_of_mem _ h
  have hg : ∀ w ∈ gd, w.before _ s = true := fun w h => hts w (hgd w h)
  have hown : s.vm.findClass RX12 = some m.cls := findClass_of_methodNamed B.named
  have hS : va_S A s.heap s.heap [] := va_S.rf
  have hF : Fr [] [] G G := Fr.rf
  have hl := lv_entry ([.int p0, .int p1, .int p2, .int p3, .int p4]) (n := 7) (Nat.le_of_ble_eq_true rfl)
  rw [lg_entry_eq]
  generalize (lg_sl ([.int p0, .int p1, .int p2, .int p3, .int p4]) ++ List.replicate (7 - (lg_sl ([.int p0, .int p1, .int p2, .int p3, .int p4])).length) Slot.unset).toArray = ls at hl ⊢
  have hl : lv_has ls 7 [(0, .int p0), (1, .int p1), (2, .int p2), (3, .int p3), (4, .int p4)] := hl
  refine lv_iload hx hb dX12_firstOf_0 (lv_at hl 4 rfl) ?_
  refine lv_istore (lv' := [(5, .int p4), (0, .int p0), (1, .int p1), (2, .int p2), (3, .int p3), (4, .int p4)]) hx hb dX12_firstOf_2 hl (lt_b rfl) rfl (fun ls hl => ?_)
  refine ic_0 hx hb dX12_firstOf_4 ?_
  refine lv_istore (lv' := [(6, .int 0), (5, .int p4), (0, .int p0), (1, .int p1), (2, .int p2), (3, .int p3), (4, .int p4)]) hx hb dX12_firstOf_5 hl (lt_b rfl) rfl (fun ls hl => ?_)
  have qc_8 : (0 : Int32).toInt = 0 := rfl
  refine loop_N (Inv := fun n H locs ls => ∃ (G_1 : GS) (x_5 : Int32) (x_6 : Int32), (n : Int) = 70 - x_5.toInt ∧ (0 ≤ x_5.toInt ∧ x_5.toInt ≤ 70) ∧ (0 ≤ x_6.toInt ∧ x_6.toInt ≤ 68) ∧ Rc (St_n_firstOf_1 p0 p1 p2 p3) (0, p4, G) (x_5, x_6, G_1) ∧ Wd D k A a G_1 H ∧ Bd G_1 ∧ Fr [] [] G G_1 ∧ Fr [] [] G G_1 ∧ va_S A s.heap H locs ∧ lv_has ls 7 [(6, .int x_5), (5, .int x_6), (0, .int p0), (1, .int p1), (2, .int p2), (3, .int p3)]) (fun n_4 H locs ls ih_3 hI => ?_) (70 - 0 : Int).toNat ⟨G, 0, p4, (Int.toNat_of_nonneg ((by first | (clear ha_p0 ha_p1 ha_p2 ha_p3 ha_p4; omega) | omega))), ⟨(by first | (clear ha_p0 ha_p1 ha_p2 ha_p3 ha_p4; omega) | omega), (by first | (clear ha_p0 ha_p1 ha_p2 ha_p3 ha_p4; omega) | omega)⟩, ⟨(by first | (clear ha_p0 ha_p1 ha_p2 ha_p3; omega) | omega), (by first | (clear ha_p0 ha_p1 ha_p2 ha_p3; omega) | omega)⟩, Rc.rf, hW, hB_G, hF, Fr.rf, hS, lv_sub hl [0, 1, 2, 3, 4, 5] rfl⟩
  obtain ⟨G_1, x_5, x_6, hn_11, f_9, f_10, hX_7, hW, hB_G_1, hF, hq_2, hS, hl⟩ := hI
  refine lv_iload hx hb dX12_firstOf_7 (lv_at hl 0 rfl) ?_
  refine lv_iload_n hx hb dX12_firstOf_9 rfl (lv_at hl 2 rfl) ?_
  refine lv_iload_n hx hb dX12_firstOf_10 rfl (lv_at hl 3 rfl) ?_
  refine lv_iadd hx hb dX12_firstOf_11 ?_
  refine lv_topi (fun y_12 ey_12 => ?_)
  have ty_12 : y_12.toInt = p0.toInt + p1.toInt := xI_add rfl rfl ey_12 ((by first | (clear ha_p2 ha_p3 ha_p4 hn_11 f_9 f_10; omega) | omega)) ((by first | (clear ha_p2 ha_p3 ha_p4 hn_11 f_9 f_10; omega) | omega))
  refine lv_icmp_gt (tgt := 45) hx hb dX12_firstOf_12 rfl (fun c_13 => ?_) (fun c_13 => ?_)
  · have c_13 : y_12.toInt < x_5.toInt := xI_lt rfl rfl c_13
    refine ic_m1 hx hb dX12_firstOf_45 ?_
    exact W.iret (v := (-1)) hx hb hr (fun t ht _ => ⟨⟨(-1), G_1, rfl, (Q_firstOf_mk ⟨hB_G_1, hF, ⟨x_5, x_6, G_1, hX_7, f_9, f_10, hB_G_1, hq_2, ⟨y_12, ty_12, (Or.inl ⟨c_13, ⟨rfl, rfl⟩⟩)⟩⟩⟩), wd_t ht hW⟩, hS.F ht⟩) hS.2.2 dX12_firstOf_46
  · have c_13 : x_5.toInt ≤ y_12.toInt := xI_nlt rfl rfl c_13
    refine lv_iload_n hx hb dX12_firstOf_15 rfl (lv_at hl 2 rfl) ?_
    refine lv_iload_n hx hb dX12_firstOf_16 rfl (lv_at hl 3 rfl) ?_
    refine lv_iload_n hx hb dX12_firstOf_17 rfl (lv_at hl 4 rfl) ?_
    refine lv_iload hx hb dX12_firstOf_18 (lv_at hl 1 rfl) ?_
    refine S_calli (va_runS (As := [.int p0, .int p1, .int p2, .int x_6]) (rest := []) ⟨hx, hb, hml, hown, hts⟩ (n_isPlain l D k A a z G_1 p0 p1 p2 x_6 ⟨(by first | (clear ha_p2 ha_p3 ha_p4 hn_11 f_10; omega) | omega), (by first | (clear ha_p2 ha_p3 ha_p4 hn_11 f_10; omega) | omega)⟩ ⟨(by first | (clear ha_p2 ha_p3 ha_p4 hn_11 f_10; omega) | omega), (by first | (clear ha_p2 ha_p3 ha_p4 hn_11 f_10; omega) | omega)⟩ ⟨(by first | (clear ha_p0 ha_p1 ha_p3 ha_p4 hn_11 f_9 f_10 ty_12 c_13; omega) | omega), (by first | (clear ha_p0 ha_p1 ha_p3 ha_p4 hn_11 f_9 f_10 ty_12 c_13; omega) | omega)⟩ ⟨(by first | (clear ha_p0 ha_p1 ha_p2 ha_p3 ha_p4 hn_11 f_9 ty_12 c_13; omega) | omega), (by first | (clear ha_p0 ha_p1 ha_p2 ha_p3 ha_p4 hn_11 f_9 ty_12 c_13; omega) | omega)⟩) (va_cwS 4 hts (gd_S hgd m1913 m1914 m131 m1915) rfl rfl rfl hd_X12_isPlain.2 ⟨Nat.le_of_ble_eq_true rfl, Nat.le_of_ble_eq_true rfl⟩) (pre_S hW hB_G_1 hK hZ hS) rfl rfl hl.1 rfl (lv_room (Nat.le_of_ble_eq_true rfl)) dX12_firstOf_20 ⟨Nat.le_of_ble_eq_true rfl, Nat.le_of_ble_eq_true rfl⟩) hS (fun r_14 G_15 H locs hpo hW hS => ?_)
    have hX_18 : Q_isPlain p0 p1 p2 x_6 G_1 r_14 G_15 := hpo
    obtain ⟨hB_G_15, hq_16, f_19, -⟩ := hpo
    have hF := hF.call9 hq_16 rfl rfl
    refine lv_if_ne (tgt := 29) hx hb dX12_firstOf_23 rfl (fun c_20 => ?_) (fun c_20 => ?_)
    · have c_20 : r_14.toInt ≠ 0 := xI_ne rfl rfl c_20
      refine lv_iload hx hb dX12_firstOf_29 (lv_at hl 1 rfl) ?_
      refine lv_iload_n hx hb dX12_firstOf_31 rfl (lv_at hl 5 rfl) ?_
      refine lv_iadd hx hb dX12_firstOf_32 ?_
      refine lv_topi (fun y_21 ey_21 => ?_)
      have ty_21 : y_21.toInt = x_6.toInt + p3.toInt := xI_add rfl rfl ey_21 ((by first | (clear ha_p0 ha_p1 ha_p2 ha_p4 hn_11 f_9 ty_12 c_13 f_19 c_20; omega) | omega)) ((by first | (clear ha_p0 ha_p1 ha_p2 ha_p4 hn_11 f_9 ty_12 c_13 f_19 c_20; omega) | omega))
      refine lv_iload_n hx hb dX12_firstOf_33 rfl (lv_at hl 2 rfl) ?_
      refine lv_iload_n hx hb dX12_firstOf_34 rfl (lv_at hl 3 rfl) ?_
      refine lv_iadd hx hb dX12_firstOf_35 ?_
      refine lv_topi (fun y_22 ey_22 => ?_)
      have ty_22 : y_22.toInt = p0.toInt + p1.toInt := xI_add rfl rfl ey_22 ((by first | (clear ha_p2 ha_p3 ha_p4 hn_11 f_10 f_19 c_20 ty_21; omega) | omega)) ((by first | (clear ha_p2 ha_p3 ha_p4 hn_11 f_10 f_19 c_20 ty_21; omega) | omega))
      refine lv_irem hx hb dX12_firstOf_36 (fun q => by have q := xI_eq (Y := 0) rfl rfl q; omega) ?_
      refine lv_topi (fun y_23 ey_23 => ?_)
      have ty_23 : 0 ≤ y_23.toInt ∧ y_23.toInt < y_22.toInt := xI_modB ey_23 (by omega) (by omega)
      refine lv_istore (lv' := [(5, .int y_23), (6, .int x_5), (0, .int p0), (1, .int p1), (2, .int p2), (3, .int p3)]) hx hb dX12_firstOf_37 hl (lt_b rfl) rfl (fun ls hl => ?_)
      obtain ⟨y_24, ey_24⟩ : ∃ q, q = x_5 + 1 := ⟨_, rfl⟩
      have ty_24 : y_24.toInt = x_5.toInt + 1 := xI_add rfl rfl ey_24 ((by first | (clear ha_p2 ha_p3 ha_p4 hn_11 f_10 f_19 c_20 ty_21; omega) | omega)) ((by first | (clear ha_p2 ha_p3 ha_p4 hn_11 f_10 f_19 c_20 ty_21; omega) | omega))
      refine lv_iinc (v := y_24) (lv' := [(6, .int y_24), (5, .int y_23), (0, .int p0), (1, .int p1), (2, .int p2), (3, .int p3)]) hx hb dX12_firstOf_39 hl (k := 1) rfl (by rw [ey_24]; rfl) (lt_b rfl) rfl (fun ls hl => ?_)
      refine lv_goto (tgt := 7) hx hb dX12_firstOf_42 rfl ?_
      exact ih_3 (70 - y_24.toInt : Int).toNat ((by first | (clear ha_p2 ha_p3 ha_p4 f_10 f_19 c_20 ty_21; omega) | omega)) _ _ _ ⟨G_15, y_24, y_23, (Int.toNat_of_nonneg ((by first | (clear ha_p2 ha_p3 ha_p4 hn_11 f_10 f_19 c_20 ty_21; omega) | omega))), ⟨(by first | (clear ha_p2 ha_p3 ha_p4 hn_11 f_10 f_19 c_20 ty_21; omega) | omega), (by first | (clear ha_p2 ha_p3 ha_p4 hn_11 f_10 f_19 c_20 ty_21; omega) | omega)⟩, ⟨(by first | (clear ha_p2 ha_p3 ha_p4 hn_11 f_9 f_10 f_19 c_20 ty_21; omega) | omega), (by first | (clear ha_p2 ha_p3 ha_p4 hn_11 f_9 f_10 f_19 c_20 ty_21; omega) | omega)⟩, (hX_7.st (St_n_firstOf_1_mk ⟨x_5, x_6, G_1, y_24, y_23, G_15, rfl, rfl, f_9, f_10, hB_G_1, ⟨y_12, ty_12, ⟨c_13, ⟨r_14, G_15, hX_18, ⟨c_20, ⟨y_21, ty_21, ⟨y_22, ty_22, ⟨y_23, ey_23, ⟨y_24, ty_24, ⟨rfl, rfl, rfl⟩⟩⟩⟩⟩⟩⟩⟩⟩⟩)), hW, hB_G_15, hF, (Fr.call9 (rs := []) (fs := []) (Fr.call9 (rs := []) (fs := []) Fr.rf hq_2 rfl rfl) hq_16 rfl rfl), hS, lv_sub hl [0, 1, 2, 3, 4, 5] rfl⟩
    · have c_20 : r_14.toInt = 0 := xI_eq rfl rfl c_20
      refine lv_iload hx hb dX12_firstOf_26 (lv_at hl 0 rfl) ?_
      exact W.iret (v := x_5) hx hb hr (fun t ht _ => ⟨⟨x_5, G_15, rfl, (Q_firstOf_mk ⟨hB_G_15, hF, ⟨x_5, x_6, G_1, hX_7, f_9, f_10, hB_G_1, hq_2, ⟨y_12, ty_12, (Or.inr ⟨c_13, ⟨r_14, G_15, hX_18, ⟨c_20, ⟨rfl, rfl⟩⟩⟩⟩)⟩⟩⟩), wd_t ht hW⟩, hS.F ht⟩) hS.2.2 dX12_firstOf_28

set_option maxHeartbeats 4000000 in
set_option maxRecDepth 100000 in
theorem n_first (l : Launch) (D : va_G) (k : KT) (A : Nat → Prop) (a : Nat → Nat) (z : SK) (G : GS) (p0 : Int32) (p1 : Int32) (p2 : Int32) (p3 : Int32) (p4 : Int32)  : Met l yX12_first (WS yX12_first cX12_first 6 (some .int)) ({ frames := 2, cells := 0, slots := 0, locals := 51 }) (va_Pc [.ref (a 66), .int p0, .int p1, .int p2, .int p3, .int p4] (cW D k A a z G)) (va_Qi (fun (r : Int32) (G1 : GS) => Q_first p0 p1 p2 p3 p4 G r G1) (fun (G1 : GS) t => Wd D k A a G1 t.heap) A) 0 0 A := by
  refine Met.ofW (cc := cX12_first) (maxL := 6) (ret := (some .int)) (by decide) rfl ?_
  intro p e s m args below meth c s₁ B hml hv
  obtain ⟨rfl, hW, hB_G, hK, hZ⟩ := hv
  have hx := B.exec
  have hb := B.bytes
  have hr := B.returns
  have hts := atoms_spec (ws := WS yX12_first cX12_first 6 (some .int)) B.pre
  have hgd : ∀ w ∈ gd, w ∈ WS yX12_first cX12_first 6 (some .int) := fun w h => List.mem_cons_of_mem _ h
  have hg : ∀ w ∈ gd, w.before _ s = true := fun w h => hts w (hgd w h)
  have hown : s.vm.findClass RX12 = some m.cls := findClass_of_methodNamed B.named
  have hS : va_S A s.heap s.heap [] := va_S.rf
  have hF : Fr [] [] G G := Fr.rf
  have hl := lv_entry ([.ref (a 66), .int p0, .int p1, .int p2, .int p3, .int p4]) (n := 6) (Nat.le_of_ble_eq_true rfl)
  rw [lg_entry_eq]
  generalize (lg_sl ([.ref (a 66), .int p0, .int p1, .int p2, .int p3, .int p4]) ++ List.replicate (6 - (lg_sl ([.ref (a 66), .int p0, .int p1, .int p2, .int p3, .int p4])).length) Slot.unset).toArray = ls at hl ⊢
  have hl : lv_has ls 6 [(0, .ref (a 66)), (1, .int p0), (2, .int p1), (3, .int p2), (4, .int p3), (5, .int p4)] := hl
  refine lv_iload_n hx hb dX12_first_0 rfl (lv_at hl 1 rfl) ?_
  refine lv_iload_n hx hb dX12_first_1 rfl (lv_at hl 2 rfl) ?_
  refine lv_iload_n hx hb dX12_first_2 rfl (lv_at hl 3 rfl) ?_
  refine S_calli (va_runS (As := [.int p0, .int p1, .int p2]) (rest := []) ⟨hx, hb, hml, hown, hts⟩ (n_areSlabs l D k A a z G p0 p1 p2 ) (va_cwS 3 hts (gd_S hgd m1907 m1908 m131 m1909) rfl rfl rfl hd_X12_areSlabs.2 ⟨Nat.le_of_ble_eq_true rfl, Nat.le_of_ble_eq_true rfl⟩) (pre_S hW hB_G hK hZ hS) rfl rfl hl.1 rfl (lv_room (Nat.le_of_ble_eq_true rfl)) dX12_first_3 ⟨Nat.le_of_ble_eq_true rfl, Nat.le_of_ble_eq_true rfl⟩) hS (fun r_1 G_2 H locs hpo hW hS => ?_)
  have hX_5 : Q_areSlabs p0 p1 p2 G r_1 G_2 := hpo
  obtain ⟨hB_G_2, hq_3, f_6, hp_4, -⟩ := hpo
  have hF := hF.call9 hq_3 rfl rfl
  refine lv_if_eq (tgt := 47) hx hb dX12_first_6 rfl (fun c_7 => ?_) (fun c_7 => ?_)
  · have c_7 : r_1.toInt = 0 := xI_eq rfl rfl c_7
    refine lv_bipush (v := (-2)) hx hb dX12_first_47 (by decide) ?_
    exact W.iret (v := (-2)) hx hb hr (fun t ht _ => ⟨⟨(-2), G_2, rfl, (Q_first_mk ⟨hB_G_2, hF, ⟨r_1, G_2, hX_5, (Or.inl ⟨c_7, ⟨rfl, rfl⟩⟩)⟩⟩), wd_t ht hW⟩, hS.F ht⟩) hS.2.2 dX12_first_49
  · have c_7 : r_1.toInt ≠ 0 := xI_ne rfl rfl c_7
    refine lv_iload hx hb dX12_first_9 (lv_at hl 4 rfl) ?_
    refine ic_1 hx hb dX12_first_11 ?_
    refine lv_bipush (v := 99) hx hb dX12_first_12 (by decide) ?_
    have qc_8 : (1 : Int32).toInt = 1 := rfl
    have qc_9 : (99 : Int32).toInt = 99 := rfl
    refine S_calli (va_runS (As := [.int p3, .int 1, .int 99]) (rest := []) ⟨hx, hb, hml, hown, hts⟩ (n_isIn l D k A a z G_2 p3 1 99 ) (va_cwS 3 hts (gd_S hgd m1781 m1782 m131 m1783) rfl rfl rfl hd_X12_isIn.2 ⟨Nat.le_of_ble_eq_true rfl, Nat.le_of_ble_eq_true rfl⟩) (pre_S hW hB_G_2 hK hZ hS) rfl rfl hl.1 rfl (lv_room (Nat.le_of_ble_eq_true rfl)) dX12_first_14 ⟨Nat.le_of_ble_eq_true rfl, Nat.le_of_ble_eq_true rfl⟩) hS (fun r_10 G_11 H locs hpo hW hS => ?_)
    have hX_14 : Q_isIn p3 1 99 G_2 r_10 G_11 := hpo
    obtain ⟨hB_G_11, hq_12, f_15, ⟨d_1, d_2⟩, -⟩ := hpo
    have hF := hF.call9 hq_12 rfl rfl
    refine lv_if_eq (tgt := 47) hx hb dX12_first_17 rfl (fun c_16 => ?_) (fun c_16 => ?_)
    · have c_16 : r_10.toInt = 0 := xI_eq rfl rfl c_16
      refine lv_bipush (v := (-2)) hx hb dX12_first_47 (by decide) ?_
      exact W.iret (v := (-2)) hx hb hr (fun t ht _ => ⟨⟨(-2), G_11, rfl, (Q_first_mk ⟨hB_G_11, hF, ⟨r_1, G_2, hX_5, (Or.inr ⟨c_7, ⟨r_10, G_11, hX_14, (Or.inl ⟨c_16, ⟨rfl, rfl⟩⟩)⟩⟩)⟩⟩), wd_t ht hW⟩, hS.F ht⟩) hS.2.2 dX12_first_49
    · have c_16 : r_10.toInt ≠ 0 := xI_ne rfl rfl c_16
      refine lv_iload hx hb dX12_first_20 (lv_at hl 5 rfl) ?_
      refine ic_0 hx hb dX12_first_22 ?_
      refine lv_iload_n hx hb dX12_first_23 rfl (lv_at hl 1 rfl) ?_
      refine lv_iload_n hx hb dX12_first_24 rfl (lv_at hl 2 rfl) ?_
      refine lv_iadd hx hb dX12_first_25 ?_
      refine lv_topi (fun y_17 ey_17 => ?_)
      have ty_17 : y_17.toInt = p0.toInt + p1.toInt := xI_add rfl rfl ey_17 ((by first | (clear f_15 d_1 d_2 c_16; omega) | omega)) ((by first | (clear f_15 d_1 d_2 c_16; omega) | omega))
      refine ic_1 hx hb dX12_first_26 ?_
      refine lv_isub hx hb dX12_first_27 ?_
      refine lv_topi (fun y_18 ey_18 => ?_)
      have ty_18 : y_18.toInt = y_17.toInt - 1 := xI_sub rfl rfl ey_18 ((by first | (clear f_15 d_1 d_2 c_16; omega) | omega)) ((by first | (clear f_15 d_1 d_2 c_16; omega) | omega))
      have qc_19 : (0 : Int32).toInt = 0 := rfl
      refine S_calli (va_runS (As := [.int p4, .int 0, .int y_18]) (rest := []) ⟨hx, hb, hml, hown, hts⟩ (n_isIn l D k A a z G_11 p4 0 y_18 ) (va_cwS 3 hts (gd_S hgd m1781 m1782 m131 m1783) rfl rfl rfl hd_X12_isIn.2 ⟨Nat.le_of_ble_eq_true rfl, Nat.le_of_ble_eq_true rfl⟩) (pre_S hW hB_G_11 hK hZ hS) rfl rfl hl.1 rfl (lv_room (Nat.le_of_ble_eq_true rfl)) dX12_first_28 ⟨Nat.le_of_ble_eq_true rfl, Nat.le_of_ble_eq_true rfl⟩) hS (fun r_20 G_21 H locs hpo hW hS => ?_)
      have hX_24 : Q_isIn p4 0 y_18 G_11 r_20 G_21 := hpo
      obtain ⟨hB_G_21, hq_22, f_25, ⟨d_3, d_4⟩, -⟩ := hpo
      have hF := hF.call9 hq_22 rfl rfl
      refine lv_if_eq (tgt := 47) hx hb dX12_first_31 rfl (fun c_26 => ?_) (fun c_26 => ?_)
      · have c_26 : r_20.toInt = 0 := xI_eq rfl rfl c_26
        refine lv_bipush (v := (-2)) hx hb dX12_first_47 (by decide) ?_
        exact W.iret (v := (-2)) hx hb hr (fun t ht _ => ⟨⟨(-2), G_21, rfl, (Q_first_mk ⟨hB_G_21, hF, ⟨r_1, G_2, hX_5, (Or.inr ⟨c_7, ⟨r_10, G_11, hX_14, (Or.inr ⟨c_16, ⟨y_17, ty_17, ⟨y_18, ty_18, ⟨r_20, G_21, hX_24, (Or.inl ⟨c_26, ⟨rfl, rfl⟩⟩)⟩⟩⟩⟩)⟩⟩)⟩⟩), wd_t ht hW⟩, hS.F ht⟩) hS.2.2 dX12_first_49
      · have c_26 : r_20.toInt ≠ 0 := xI_ne rfl rfl c_26
        refine lv_iload_n hx hb dX12_first_34 rfl (lv_at hl 1 rfl) ?_
        refine lv_iload_n hx hb dX12_first_35 rfl (lv_at hl 2 rfl) ?_
        refine lv_iload_n hx hb dX12_first_36 rfl (lv_at hl 3 rfl) ?_
        refine lv_iload hx hb dX12_first_37 (lv_at hl 4 rfl) ?_
        refine lv_iload hx hb dX12_first_39 (lv_at hl 5 rfl) ?_
        refine S_calli (va_runS (As := [.int p0, .int p1, .int p2, .int p3, .int p4]) (rest := []) ⟨hx, hb, hml, hown, hts⟩ (n_firstOf l D k A a z G_21 p0 p1 p2 p3 p4 ⟨(by first | (clear f_15 d_1 d_2 c_16; omega) | omega), (by first | (clear f_15 d_1 d_2 c_16; omega) | omega)⟩ ⟨(by first | (clear f_15 d_1 d_2 c_16; omega) | omega), (by first | (clear f_15 d_1 d_2 c_16; omega) | omega)⟩ ⟨(by first | (clear f_15 d_1 d_2 c_16 f_25 c_26; omega) | omega), (by first | (clear f_15 d_1 d_2 c_16 f_25 c_26; omega) | omega)⟩ ⟨(by first | (clear f_6 hp_4 c_7 ty_17 ty_18 f_25 d_3 d_4 c_26; omega) | omega), (by first | (clear f_6 hp_4 c_7 ty_17 ty_18 f_25 d_3 d_4 c_26; omega) | omega)⟩ ⟨(by first | (clear f_6 c_7 f_15 d_1 d_2 c_16; omega) | omega), (by first | (clear f_6 c_7 f_15 d_1 d_2 c_16; omega) | omega)⟩) (va_cwS 5 hts (gd_S hgd m1910 m1911 m131 m1912) rfl rfl rfl hd_X12_firstOf.2 ⟨Nat.le_of_ble_eq_true rfl, Nat.le_of_ble_eq_true rfl⟩) (pre_S hW hB_G_21 hK hZ hS) rfl rfl hl.1 rfl (lv_room (Nat.le_of_ble_eq_true rfl)) dX12_first_41 ⟨Nat.le_of_ble_eq_true rfl, Nat.le_of_ble_eq_true rfl⟩) hS (fun r_27 G_28 H locs hpo hW hS => ?_)
        have hX_31 : Q_firstOf p0 p1 p2 p3 p4 G_21 r_27 G_28 := hpo
        obtain ⟨hB_G_28, hq_29, -⟩ := hpo
        have hF := hF.call9 hq_29 rfl rfl
        refine lv_goto (tgt := 49) hx hb dX12_first_44 rfl ?_
        exact W.iret (v := r_27) hx hb hr (fun t ht _ => ⟨⟨r_27, G_28, rfl, (Q_first_mk ⟨hB_G_28, hF, ⟨r_1, G_2, hX_5, (Or.inr ⟨c_7, ⟨r_10, G_11, hX_14, (Or.inr ⟨c_16, ⟨y_17, ty_17, ⟨y_18, ty_18, ⟨r_20, G_21, hX_24, (Or.inr ⟨c_26, ⟨r_27, G_28, hX_31, ⟨rfl, rfl⟩⟩⟩)⟩⟩⟩⟩)⟩⟩)⟩⟩), wd_t ht hW⟩, hS.F ht⟩) hS.2.2 dX12_first_49

set_option maxHeartbeats 4000000 in
set_option maxRecDepth 100000 in
theorem n_beginOf (l : Launch) (D : va_G) (k : KT) (A : Nat → Prop) (a : Nat → Nat) (z : SK) (G : GS) (p0 : Int32) (p1 : Int32) (p2 : Int32) (p3 : Int32) (ha_p0 : 1 ≤ p0.toInt ∧ p0.toInt ≤ 60) (ha_p1 : 0 ≤ p1.toInt ∧ p1.toInt ≤ 9) (ha_p2 : 1 ≤ p2.toInt ∧ p2.toInt ≤ 12) (ha_p3 : 1 ≤ p3.toInt ∧ p3.toInt ≤ 99) : Met l yX12_beginOf (WS yX12_beginOf cX12_beginOf 6 (some .int)) ({ frames := 2, cells := 0, slots := 0, locals := 51 }) (va_Pc [.int p0, .int p1, .int p2, .int p3] (cW D k A a z G)) (va_Qi (fun (r : Int32) (G1 : GS) => Q_beginOf p0 p1 p2 p3 G r G1) (fun (G1 : GS) t => Wd D k A a G1 t.heap) A) 0 0 A := by
  refine Met.ofW (cc := cX12_beginOf) (maxL := 6) (ret := (some .int)) (by decide) rfl ?_
  intro p e s m args below meth c s₁ B hml hv
  obtain ⟨rfl, hW, hB_G, hK, hZ⟩ := hv
  have hx := B.exec
  have hb := B.bytes
  have hr := B.returns
  have hts := atoms_spec (ws := WS yX12_beginOf cX12_beginOf 6 (some .int)) B.pre
  have hgd : ∀ w ∈ gd, w ∈ WS yX12_beginOf cX12_beginOf 6 (some .int) := fun w h => List.mem_cons_of_mem _ h
  have hg : ∀ w ∈ gd, w.before _ s = true := fun w h => hts w (hgd w h)
  have hown : s.vm.findClass RX12 = some m.cls := findClass_of_methodNamed B.named
  have hS : va_S A s.heap s.heap [] := va_S.rf
  have hF : Fr [] [] G G := Fr.rf
  have hl := lv_entry ([.int p0, .int p1, .int p2, .int p3]) (n := 6) (Nat.le_of_ble_eq_true rfl)
  rw [lg_entry_eq]
  generalize (lg_sl ([.int p0, .int p1, .int p2, .int p3]) ++ List.replicate (6 - (lg_sl ([.int p0, .int p1, .int p2, .int p3])).length) Slot.unset).toArray = ls at hl ⊢
  have hl : lv_has ls 6 [(0, .int p0), (1, .int p1), (2, .int p2), (3, .int p3)] := hl
  refine ic_0 hx hb dX12_beginOf_0 ?_
  refine lv_istore (lv' := [(4, .int 0), (0, .int p0), (1, .int p1), (2, .int p2), (3, .int p3)]) hx hb dX12_beginOf_1 hl (lt_b rfl) rfl (fun ls hl => ?_)
  refine ic_0 hx hb dX12_beginOf_3 ?_
  refine lv_istore (lv' := [(5, .int 0), (4, .int 0), (0, .int p0), (1, .int p1), (2, .int p2), (3, .int p3)]) hx hb dX12_beginOf_4 hl (lt_b rfl) rfl (fun ls hl => ?_)
  have qc_8 : (0 : Int32).toInt = 0 := rfl
  refine loop_N (Inv := fun n H locs ls => ∃ (G_1 : GS) (x_5 : Int32) (x_6 : Int32), (n : Int) = 69 - x_5.toInt ∧ (0 ≤ x_5.toInt ∧ x_5.toInt ≤ 69) ∧ Rc (St_n_beginOf_1 p0 p1 p2 p3) (0, 0, G) (x_5, x_6, G_1) ∧ Wd D k A a G_1 H ∧ Bd G_1 ∧ Fr [] [] G G_1 ∧ Fr [] [] G G_1 ∧ va_S A s.heap H locs ∧ lv_has ls 6 [(5, .int x_5), (4, .int x_6), (0, .int p0), (1, .int p1), (2, .int p2), (3, .int p3)]) (fun n_4 H locs ls ih_3 hI => ?_) (69 - 0 : Int).toNat ⟨G, 0, 0, (Int.toNat_of_nonneg ((by first | (clear ha_p0 ha_p1 ha_p2 ha_p3; omega) | omega))), ⟨(by first | (clear ha_p0 ha_p1 ha_p2 ha_p3; omega) | omega), (by first | (clear ha_p0 ha_p1 ha_p2 ha_p3; omega) | omega)⟩, Rc.rf, hW, hB_G, hF, Fr.rf, hS, lv_sub hl [0, 1, 2, 3, 4, 5] rfl⟩
  obtain ⟨G_1, x_5, x_6, hn_10, f_9, hX_7, hW, hB_G_1, hF, hq_2, hS, hl⟩ := hI
  refine lv_iload hx hb dX12_beginOf_6 (lv_at hl 0 rfl) ?_
  refine lv_iload_n hx hb dX12_beginOf_8 rfl (lv_at hl 2 rfl) ?_
  refine lv_iload_n hx hb dX12_beginOf_9 rfl (lv_at hl 3 rfl) ?_
  refine lv_iadd hx hb dX12_beginOf_10 ?_
  refine lv_topi (fun y_11 ey_11 => ?_)
  have ty_11 : y_11.toInt = p0.toInt + p1.toInt := xI_add rfl rfl ey_11 ((by first | (clear ha_p2 ha_p3 hn_10 f_9; omega) | omega)) ((by first | (clear ha_p2 ha_p3 hn_10 f_9; omega) | omega))
  refine lv_icmp_ge (tgt := 45) hx hb dX12_beginOf_11 rfl (fun c_12 => ?_) (fun c_12 => ?_)
  · have c_12 : y_11.toInt ≤ x_5.toInt := xI_le rfl rfl c_12
    refine lv_iload hx hb dX12_beginOf_45 (lv_at hl 1 rfl) ?_
    exact W.iret (v := x_6) hx hb hr (fun t ht _ => ⟨⟨x_6, G_1, rfl, (Q_beginOf_mk ⟨hB_G_1, hF, ⟨x_5, x_6, G_1, hX_7, f_9, hB_G_1, hq_2, ⟨y_11, ty_11, ⟨c_12, ⟨rfl, rfl⟩⟩⟩⟩⟩), wd_t ht hW⟩, hS.F ht⟩) hS.2.2 dX12_beginOf_47
  · have c_12 : x_5.toInt < y_11.toInt := xI_nle rfl rfl c_12
    refine lv_iload hx hb dX12_beginOf_14 (lv_at hl 1 rfl) ?_
    refine lv_iload_n hx hb dX12_beginOf_16 rfl (lv_at hl 2 rfl) ?_
    refine lv_iload_n hx hb dX12_beginOf_17 rfl (lv_at hl 3 rfl) ?_
    refine lv_iload_n hx hb dX12_beginOf_18 rfl (lv_at hl 4 rfl) ?_
    refine lv_iload_n hx hb dX12_beginOf_19 rfl (lv_at hl 5 rfl) ?_
    refine lv_iload hx hb dX12_beginOf_20 (lv_at hl 0 rfl) ?_
    refine S_calli (va_runS (As := [.int p0, .int p1, .int p2, .int p3, .int x_5]) (rest := [.int x_6]) ⟨hx, hb, hml, hown, hts⟩ (n_firstOf l D k A a z G_1 p0 p1 p2 p3 x_5 ⟨(by first | (clear ha_p2 ha_p3 hn_10; omega) | omega), (by first | (clear ha_p2 ha_p3 hn_10; omega) | omega)⟩ ⟨(by first | (clear ha_p2 ha_p3 hn_10; omega) | omega), (by first | (clear ha_p2 ha_p3 hn_10; omega) | omega)⟩ ⟨(by first | (clear ha_p0 ha_p1 ha_p3 hn_10 f_9 ty_11 c_12; omega) | omega), (by first | (clear ha_p0 ha_p1 ha_p3 hn_10 f_9 ty_11 c_12; omega) | omega)⟩ ⟨(by first | (clear ha_p0 ha_p1 ha_p2 hn_10 f_9 ty_11 c_12; omega) | omega), (by first | (clear ha_p0 ha_p1 ha_p2 hn_10 f_9 ty_11 c_12; omega) | omega)⟩ ⟨(by first | (clear ha_p2 ha_p3 hn_10; omega) | omega), (by first | (clear ha_p2 ha_p3 hn_10; omega) | omega)⟩) (va_cwS 5 hts (gd_S hgd m1910 m1911 m131 m1912) rfl rfl rfl hd_X12_firstOf.2 ⟨Nat.le_of_ble_eq_true rfl, Nat.le_of_ble_eq_true rfl⟩) (pre_S hW hB_G_1 hK hZ hS) rfl rfl hl.1 rfl (lv_room (Nat.le_of_ble_eq_true rfl)) dX12_beginOf_22 ⟨Nat.le_of_ble_eq_true rfl, Nat.le_of_ble_eq_true rfl⟩) hS (fun r_13 G_14 H locs hpo hW hS => ?_)
    have hX_17 : Q_firstOf p0 p1 p2 p3 x_5 G_1 r_13 G_14 := hpo
    obtain ⟨hB_G_14, hq_15, -⟩ := hpo
    have hF := hF.call9 hq_15 rfl rfl
    refine lv_if_ge (tgt := 32) hx hb dX12_beginOf_25 rfl (fun c_18 => ?_) (fun c_18 => ?_)
    · have c_18 : 0 ≤ r_13.toInt := xI_le rfl rfl c_18
      refine ic_0 hx hb dX12_beginOf_32 ?_
      have qc_19 : (0 : Int32).toInt = 0 := rfl
      refine S_calli (va_runS (As := [.int 0]) (rest := [.int x_6]) ⟨hx, hb, hml, hown, hts⟩ (n_truth l D k A a z G_14 0 ⟨by decide, by decide⟩) (va_cwS 1 hts (gd_S hgd m1788 m1789 m131 m1790) rfl rfl rfl hd_X12_truth.2 ⟨Nat.le_of_ble_eq_true rfl, Nat.le_of_ble_eq_true rfl⟩) (pre_S hW hB_G_14 hK hZ hS) rfl rfl hl.1 rfl (lv_room (Nat.le_of_ble_eq_true rfl)) dX12_beginOf_33 ⟨Nat.le_of_ble_eq_true rfl, Nat.le_of_ble_eq_true rfl⟩) hS (fun r_20 G_21 H locs hpo hW hS => ?_)
      have hX_24 : Q_truth 0 G_14 r_20 G_21 := hpo
      obtain ⟨hB_G_21, hq_22, f_25, hp_23, -⟩ := hpo
      have hF := hF.call9 hq_22 rfl rfl
      refine lv_iadd hx hb dX12_beginOf_36 ?_
      refine lv_topi (fun y_26 ey_26 => ?_)
      refine lv_istore (lv' := [(4, .int y_26), (5, .int x_5), (0, .int p0), (1, .int p1), (2, .int p2), (3, .int p3)]) hx hb dX12_beginOf_37 hl (lt_b rfl) rfl (fun ls hl => ?_)
      obtain ⟨y_27, ey_27⟩ : ∃ q, q = x_5 + 1 := ⟨_, rfl⟩
      have ty_27 : y_27.toInt = x_5.toInt + 1 := xI_add rfl rfl ey_27 ((by first | (clear ha_p2 ha_p3 hn_10 c_18 f_25 hp_23; omega) | omega)) ((by first | (clear ha_p2 ha_p3 hn_10 c_18 f_25 hp_23; omega) | omega))
      refine lv_iinc (v := y_27) (lv' := [(5, .int y_27), (4, .int y_26), (0, .int p0), (1, .int p1), (2, .int p2), (3, .int p3)]) hx hb dX12_beginOf_39 hl (k := 1) rfl (by rw [ey_27]; rfl) (lt_b rfl) rfl (fun ls hl => ?_)
      refine lv_goto (tgt := 6) hx hb dX12_beginOf_42 rfl ?_
      exact ih_3 (69 - y_27.toInt : Int).toNat ((by first | (clear ha_p2 ha_p3 c_18 f_25 hp_23; omega) | omega)) _ _ _ ⟨G_21, y_27, y_26, (Int.toNat_of_nonneg ((by first | (clear ha_p2 ha_p3 hn_10 c_18 f_25 hp_23; omega) | omega))), ⟨(by first | (clear ha_p2 ha_p3 hn_10 c_18 f_25 hp_23; omega) | omega), (by first | (clear ha_p2 ha_p3 hn_10 c_18 f_25 hp_23; omega) | omega)⟩, (hX_7.st (St_n_beginOf_1_mk ⟨x_5, x_6, G_1, y_27, y_26, G_21, rfl, rfl, f_9, hB_G_1, ⟨y_11, ty_11, ⟨c_12, ⟨r_13, G_14, hX_17, (Or.inl ⟨c_18, ⟨r_20, G_21, hX_24, ⟨y_26, ey_26, ⟨y_27, ty_27, ⟨rfl, rfl, rfl⟩⟩⟩⟩⟩)⟩⟩⟩⟩)), hW, hB_G_21, hF, (Fr.call9 (rs := []) (fs := []) (Fr.call9 (rs := []) (fs := []) (Fr.call9 (rs := []) (fs := []) Fr.rf hq_2 rfl rfl) hq_15 rfl rfl) hq_22 rfl rfl), hS, lv_sub hl [0, 1, 2, 3, 4, 5] rfl⟩
    · have c_18 : r_13.toInt < 0 := xI_nle rfl rfl c_18
      refine ic_1 hx hb dX12_beginOf_28 ?_
      refine lv_goto (tgt := 33) hx hb dX12_beginOf_29 rfl ?_
      have qc_28 : (1 : Int32).toInt = 1 := rfl
      refine S_calli (va_runS (As := [.int 1]) (rest := [.int x_6]) ⟨hx, hb, hml, hown, hts⟩ (n_truth l D k A a z G_14 1 ⟨by decide, by decide⟩) (va_cwS 1 hts (gd_S hgd m1788 m1789 m131 m1790) rfl rfl rfl hd_X12_truth.2 ⟨Nat.le_of_ble_eq_true rfl, Nat.le_of_ble_eq_true rfl⟩) (pre_S hW hB_G_14 hK hZ hS) rfl rfl hl.1 rfl (lv_room (Nat.le_of_ble_eq_true rfl)) dX12_beginOf_33 ⟨Nat.le_of_ble_eq_true rfl, Nat.le_of_ble_eq_true rfl⟩) hS (fun r_29 G_30 H locs hpo hW hS => ?_)
      have hX_33 : Q_truth 1 G_14 r_29 G_30 := hpo
      obtain ⟨hB_G_30, hq_31, f_34, hp_32, -⟩ := hpo
      have hF := hF.call9 hq_31 rfl rfl
      refine lv_iadd hx hb dX12_beginOf_36 ?_
      refine lv_topi (fun y_35 ey_35 => ?_)
      refine lv_istore (lv' := [(4, .int y_35), (5, .int x_5), (0, .int p0), (1, .int p1), (2, .int p2), (3, .int p3)]) hx hb dX12_beginOf_37 hl (lt_b rfl) rfl (fun ls hl => ?_)
      obtain ⟨y_36, ey_36⟩ : ∃ q, q = x_5 + 1 := ⟨_, rfl⟩
      have ty_36 : y_36.toInt = x_5.toInt + 1 := xI_add rfl rfl ey_36 ((by first | (clear ha_p2 ha_p3 hn_10 c_18 f_34 hp_32; omega) | omega)) ((by first | (clear ha_p2 ha_p3 hn_10 c_18 f_34 hp_32; omega) | omega))
      refine lv_iinc (v := y_36) (lv' := [(5, .int y_36), (4, .int y_35), (0, .int p0), (1, .int p1), (2, .int p2), (3, .int p3)]) hx hb dX12_beginOf_39 hl (k := 1) rfl (by rw [ey_36]; rfl) (lt_b rfl) rfl (fun ls hl => ?_)
      refine lv_goto (tgt := 6) hx hb dX12_beginOf_42 rfl ?_
      exact ih_3 (69 - y_36.toInt : Int).toNat ((by first | (clear ha_p2 ha_p3 c_18 f_34 hp_32; omega) | omega)) _ _ _ ⟨G_30, y_36, y_35, (Int.toNat_of_nonneg ((by first | (clear ha_p2 ha_p3 hn_10 c_18 f_34 hp_32; omega) | omega))), ⟨(by first | (clear ha_p2 ha_p3 hn_10 c_18 f_34 hp_32; omega) | omega), (by first | (clear ha_p2 ha_p3 hn_10 c_18 f_34 hp_32; omega) | omega)⟩, (hX_7.st (St_n_beginOf_1_mk ⟨x_5, x_6, G_1, y_36, y_35, G_30, rfl, rfl, f_9, hB_G_1, ⟨y_11, ty_11, ⟨c_12, ⟨r_13, G_14, hX_17, (Or.inr ⟨c_18, ⟨r_29, G_30, hX_33, ⟨y_35, ey_35, ⟨y_36, ty_36, ⟨rfl, rfl, rfl⟩⟩⟩⟩⟩)⟩⟩⟩⟩)), hW, hB_G_30, hF, (Fr.call9 (rs := []) (fs := []) (Fr.call9 (rs := []) (fs := []) (Fr.call9 (rs := []) (fs := []) Fr.rf hq_2 rfl rfl) hq_15 rfl rfl) hq_31 rfl rfl), hS, lv_sub hl [0, 1, 2, 3, 4, 5] rfl⟩

set_option maxHeartbeats 4000000 in
set_option maxRecDepth 100000 in
theorem n_begin (l : Launch) (D : va_G) (k : KT) (A : Nat → Prop) (a : Nat → Nat) (z : SK) (G : GS) (p0 : Int32) (p1 : Int32) (p2 : Int32) (p3 : Int32)  : Met l yX12_begin (WS yX12_begin cX12_begin 5 (some .int)) ({ frames := 3, cells := 0, slots := 0, locals := 76 }) (va_Pc [.ref (a 66), .int p0, .int p1, .int p2, .int p3] (cW D k A a z G)) (va_Qi (fun (r : Int32) (G1 : GS) => Q_begin p0 p1 p2 p3 G r G1) (fun (G1 : GS) t => Wd D k A a G1 t.heap) A) 0 0 A := by
  refine Met.ofW (cc := cX12_begin) (maxL := 5) (ret := (some .int)) (by decide) rfl ?_
  intro p e s m args below meth c s₁ B hml hv
  obtain ⟨rfl, hW, hB_G, hK, hZ⟩ := hv
  have hx := B.exec
  have hb := B.bytes
  have hr := B.returns
  have hts := atoms_spec (ws := WS yX12_begin cX12_begin 5 (some .int)) B.pre
  have hgd : ∀ w ∈ gd, w ∈ WS yX12_begin cX12_begin 5 (some .int) := fun w h => List.mem_cons_of_mem _ h
  have hg : ∀ w ∈ gd, w.before _ s = true := fun w h => hts w (hgd w h)
  have hown : s.vm.findClass RX12 = some m.cls := findClass_of_methodNamed B.named
  have hS : va_S A s.heap s.heap [] := va_S.rf
  have hF : Fr [] [] G G := Fr.rf
  have hl := lv_entry ([.ref (a 66), .int p0, .int p1, .int p2, .int p3]) (n := 5) (Nat.le_of_ble_eq_true rfl)
  rw [lg_entry_eq]
  generalize (lg_sl ([.ref (a 66), .int p0, .int p1, .int p2, .int p3]) ++ List.replicate (5 - (lg_sl ([.ref (a 66), .int p0, .int p1, .int p2, .int p3])).length) Slot.unset).toArray = ls at hl ⊢
  have hl : lv_has ls 5 [(0, .ref (a 66)), (1, .int p0), (2, .int p1), (3, .int p2), (4, .int p3)] := hl
  refine lv_iload_n hx hb dX12_begin_0 rfl (lv_at hl 1 rfl) ?_
  refine lv_iload_n hx hb dX12_begin_1 rfl (lv_at hl 2 rfl) ?_
  refine lv_iload_n hx hb dX12_begin_2 rfl (lv_at hl 3 rfl) ?_
  refine S_calli (va_runS (As := [.int p0, .int p1, .int p2]) (rest := []) ⟨hx, hb, hml, hown, hts⟩ (n_areSlabs l D k A a z G p0 p1 p2 ) (va_cwS 3 hts (gd_S hgd m1907 m1908 m131 m1909) rfl rfl rfl hd_X12_areSlabs.2 ⟨Nat.le_of_ble_eq_true rfl, Nat.le_of_ble_eq_true rfl⟩) (pre_S hW hB_G hK hZ hS) rfl rfl hl.1 rfl (lv_room (Nat.le_of_ble_eq_true rfl)) dX12_begin_3 ⟨Nat.le_of_ble_eq_true rfl, Nat.le_of_ble_eq_true rfl⟩) hS (fun r_1 G_2 H locs hpo hW hS => ?_)
  have hX_5 : Q_areSlabs p0 p1 p2 G r_1 G_2 := hpo
  obtain ⟨hB_G_2, hq_3, f_6, hp_4, -⟩ := hpo
  have hF := hF.call9 hq_3 rfl rfl
  refine lv_if_eq (tgt := 31) hx hb dX12_begin_6 rfl (fun c_7 => ?_) (fun c_7 => ?_)
  · have c_7 : r_1.toInt = 0 := xI_eq rfl rfl c_7
    refine ic_m1 hx hb dX12_begin_31 ?_
    exact W.iret (v := (-1)) hx hb hr (fun t ht _ => ⟨⟨(-1), G_2, rfl, (Q_begin_mk ⟨hB_G_2, hF, ⟨r_1, G_2, hX_5, (Or.inl ⟨c_7, ⟨rfl, rfl⟩⟩)⟩⟩), wd_t ht hW⟩, hS.F ht⟩) hS.2.2 dX12_begin_32
  · have c_7 : r_1.toInt ≠ 0 := xI_ne rfl rfl c_7
    refine lv_iload hx hb dX12_begin_9 (lv_at hl 4 rfl) ?_
    refine ic_1 hx hb dX12_begin_11 ?_
    refine lv_bipush (v := 99) hx hb dX12_begin_12 (by decide) ?_
    have qc_8 : (1 : Int32).toInt = 1 := rfl
    have qc_9 : (99 : Int32).toInt = 99 := rfl
    refine S_calli (va_runS (As := [.int p3, .int 1, .int 99]) (rest := []) ⟨hx, hb, hml, hown, hts⟩ (n_isIn l D k A a z G_2 p3 1 99 ) (va_cwS 3 hts (gd_S hgd m1781 m1782 m131 m1783) rfl rfl rfl hd_X12_isIn.2 ⟨Nat.le_of_ble_eq_true rfl, Nat.le_of_ble_eq_true rfl⟩) (pre_S hW hB_G_2 hK hZ hS) rfl rfl hl.1 rfl (lv_room (Nat.le_of_ble_eq_true rfl)) dX12_begin_14 ⟨Nat.le_of_ble_eq_true rfl, Nat.le_of_ble_eq_true rfl⟩) hS (fun r_10 G_11 H locs hpo hW hS => ?_)
    have hX_14 : Q_isIn p3 1 99 G_2 r_10 G_11 := hpo
    obtain ⟨hB_G_11, hq_12, f_15, ⟨d_1, d_2⟩, -⟩ := hpo
    have hF := hF.call9 hq_12 rfl rfl
    refine lv_if_eq (tgt := 31) hx hb dX12_begin_17 rfl (fun c_16 => ?_) (fun c_16 => ?_)
    · have c_16 : r_10.toInt = 0 := xI_eq rfl rfl c_16
      refine ic_m1 hx hb dX12_begin_31 ?_
      exact W.iret (v := (-1)) hx hb hr (fun t ht _ => ⟨⟨(-1), G_11, rfl, (Q_begin_mk ⟨hB_G_11, hF, ⟨r_1, G_2, hX_5, (Or.inr ⟨c_7, ⟨r_10, G_11, hX_14, (Or.inl ⟨c_16, ⟨rfl, rfl⟩⟩)⟩⟩)⟩⟩), wd_t ht hW⟩, hS.F ht⟩) hS.2.2 dX12_begin_32
    · have c_16 : r_10.toInt ≠ 0 := xI_ne rfl rfl c_16
      refine lv_iload_n hx hb dX12_begin_20 rfl (lv_at hl 1 rfl) ?_
      refine lv_iload_n hx hb dX12_begin_21 rfl (lv_at hl 2 rfl) ?_
      refine lv_iload_n hx hb dX12_begin_22 rfl (lv_at hl 3 rfl) ?_
      refine lv_iload hx hb dX12_begin_23 (lv_at hl 4 rfl) ?_
      refine S_calli (va_runS (As := [.int p0, .int p1, .int p2, .int p3]) (rest := []) ⟨hx, hb, hml, hown, hts⟩ (n_beginOf l D k A a z G_11 p0 p1 p2 p3 ⟨(by first | (clear f_15 d_1 d_2 c_16; omega) | omega), (by first | (clear f_15 d_1 d_2 c_16; omega) | omega)⟩ ⟨(by first | (clear f_15 d_1 d_2 c_16; omega) | omega), (by first | (clear f_15 d_1 d_2 c_16; omega) | omega)⟩ ⟨(by first | (clear f_15 d_1 d_2 c_16; omega) | omega), (by first | (clear f_15 d_1 d_2 c_16; omega) | omega)⟩ ⟨(by first | (clear f_6 hp_4 c_7; omega) | omega), (by first | (clear f_6 hp_4 c_7; omega) | omega)⟩) (va_cwS 4 hts (gd_S hgd m1920 m1921 m131 m1922) rfl rfl rfl hd_X12_beginOf.2 ⟨Nat.le_of_ble_eq_true rfl, Nat.le_of_ble_eq_true rfl⟩) (pre_S hW hB_G_11 hK hZ hS) rfl rfl hl.1 rfl (lv_room (Nat.le_of_ble_eq_true rfl)) dX12_begin_25 ⟨Nat.le_of_ble_eq_true rfl, Nat.le_of_ble_eq_true rfl⟩) hS (fun r_17 G_18 H locs hpo hW hS => ?_)
      have hX_21 : Q_beginOf p0 p1 p2 p3 G_11 r_17 G_18 := hpo
      obtain ⟨hB_G_18, hq_19, -⟩ := hpo
      have hF := hF.call9 hq_19 rfl rfl
      refine lv_goto (tgt := 32) hx hb dX12_begin_28 rfl ?_
      exact W.iret (v := r_17) hx hb hr (fun t ht _ => ⟨⟨r_17, G_18, rfl, (Q_begin_mk ⟨hB_G_18, hF, ⟨r_1, G_2, hX_5, (Or.inr ⟨c_7, ⟨r_10, G_11, hX_14, (Or.inr ⟨c_16, ⟨r_17, G_18, hX_21, ⟨rfl, rfl⟩⟩⟩)⟩⟩)⟩⟩), wd_t ht hW⟩, hS.F ht⟩) hS.2.2 dX12_begin_32

set_option maxHeartbeats 4000000 in
set_option maxRecDepth 100000 in
theorem n_suits (l : Launch) (D : va_G) (k : KT) (A : Nat → Prop) (a : Nat → Nat) (z : SK) (G : GS) (p0 : Int32) (p1 : Int32) (p2 : Int32) (p3 : Int32) (p4 : Int32)  : Met l yX12_suits (WS yX12_suits cX12_suits 9 (some .long)) ({ frames := 3, cells := 0, slots := 0, locals := 76 }) (va_Pc [.ref (a 66), .int p0, .int p1, .int p2, .int p3, .int p4] (cW D k A a z G)) (va_Ql (fun (r : Int64) (G1 : GS) => Q_suits p0 p1 p2 p3 p4 G r G1) (fun (G1 : GS) t => Wd D k A a G1 t.heap) A) 0 0 A := by
  refine Met.ofW (cc := cX12_suits) (maxL := 9) (ret := (some .long)) (by decide) rfl ?_
  intro p e s m args below meth c s₁ B hml hv
  obtain ⟨rfl, hW, hB_G, hK, hZ⟩ := hv
  have hx := B.exec
  have hb := B.bytes
  have hr := B.returns
  have hts := atoms_spec (ws := WS yX12_suits cX12_suits 9 (some .long)) B.pre
  have hgd : ∀ w ∈ gd, w ∈ WS yX12_suits cX12_suits 9 (some .long) := fun w h => List.mem_cons_of_mem _ h
  have hg : ∀ w ∈ gd, w.before _ s = true := fun w h => hts w (hgd w h)
  have hown : s.vm.findClass RX12 = some m.cls := findClass_of_methodNamed B.named
  have hS : va_S A s.heap s.heap [] := va_S.rf
  have hF : Fr [] [] G G := Fr.rf
  have hl := lv_entry ([.ref (a 66), .int p0, .int p1, .int p2, .int p3, .int p4]) (n := 9) (Nat.le_of_ble_eq_true rfl)
  rw [lg_entry_eq]
  generalize (lg_sl ([.ref (a 66), .int p0, .int p1, .int p2, .int p3, .int p4]) ++ List.replicate (9 - (lg_sl ([.ref (a 66), .int p0, .int p1, .int p2, .int p3, .int p4])).length) Slot.unset).toArray = ls at hl ⊢
  have hl : lv_has ls 9 [(0, .ref (a 66)), (1, .int p0), (2, .int p1), (3, .int p2), (4, .int p3), (5, .int p4)] := hl
  refine lv_iload_n hx hb dX12_suits_0 rfl (lv_at hl 1 rfl) ?_
  refine lv_iload_n hx hb dX12_suits_1 rfl (lv_at hl 2 rfl) ?_
  refine lv_iload hx hb dX12_suits_2 (lv_at hl 5 rfl) ?_
  refine S_calli (va_runS (As := [.int p0, .int p1, .int p4]) (rest := []) ⟨hx, hb, hml, hown, hts⟩ (n_areSlabs l D k A a z G p0 p1 p4 ) (va_cwS 3 hts (gd_S hgd m1907 m1908 m131 m1909) rfl rfl rfl hd_X12_areSlabs.2 ⟨Nat.le_of_ble_eq_true rfl, Nat.le_of_ble_eq_true rfl⟩) (pre_S hW hB_G hK hZ hS) rfl rfl hl.1 rfl (lv_room (Nat.le_of_ble_eq_true rfl)) dX12_suits_4 ⟨Nat.le_of_ble_eq_true rfl, Nat.le_of_ble_eq_true rfl⟩) hS (fun r_1 G_2 H locs hpo hW hS => ?_)
  have hX_5 : Q_areSlabs p0 p1 p4 G r_1 G_2 := hpo
  obtain ⟨hB_G_2, hq_3, f_6, hp_4, -⟩ := hpo
  have hF := hF.call9 hq_3 rfl rfl
  refine lv_if_eq (tgt := 21) hx hb dX12_suits_7 rfl (fun c_7 => ?_) (fun c_7 => ?_)
  · have c_7 : r_1.toInt = 0 := xI_eq rfl rfl c_7
    refine lv_ldc2 (v := (-1)) hx hb hown (hg (Cond.constantLong RX12 517 (-1)) m1874) dX12_suits_21 ?_
    exact W.lret (v := (-1)) hx hb hr (fun t ht _ => ⟨⟨(-1), G_2, rfl, (Q_suits_mk ⟨hB_G_2, hF, ⟨r_1, G_2, hX_5, (Or.inl ⟨c_7, ⟨rfl, rfl⟩⟩)⟩⟩), wd_t ht hW⟩, hS.F ht⟩) hS.2.2 dX12_suits_24
  · have c_7 : r_1.toInt ≠ 0 := xI_ne rfl rfl c_7
    refine lv_iload_n hx hb dX12_suits_10 rfl (lv_at hl 3 rfl) ?_
    refine lv_iload hx hb dX12_suits_11 (lv_at hl 4 rfl) ?_
    refine lv_iload hx hb dX12_suits_13 (lv_at hl 5 rfl) ?_
    refine S_calli (va_runS (As := [.int p2, .int p3, .int p4]) (rest := []) ⟨hx, hb, hml, hown, hts⟩ (n_areSlabs l D k A a z G_2 p2 p3 p4 ) (va_cwS 3 hts (gd_S hgd m1907 m1908 m131 m1909) rfl rfl rfl hd_X12_areSlabs.2 ⟨Nat.le_of_ble_eq_true rfl, Nat.le_of_ble_eq_true rfl⟩) (pre_S hW hB_G_2 hK hZ hS) rfl rfl hl.1 rfl (lv_room (Nat.le_of_ble_eq_true rfl)) dX12_suits_15 ⟨Nat.le_of_ble_eq_true rfl, Nat.le_of_ble_eq_true rfl⟩) hS (fun r_8 G_9 H locs hpo hW hS => ?_)
    have hX_12 : Q_areSlabs p2 p3 p4 G_2 r_8 G_9 := hpo
    obtain ⟨hB_G_9, hq_10, f_13, hp_11, -⟩ := hpo
    have hF := hF.call9 hq_10 rfl rfl
    refine lv_if_ne (tgt := 25) hx hb dX12_suits_18 rfl (fun c_14 => ?_) (fun c_14 => ?_)
    · have c_14 : r_8.toInt ≠ 0 := xI_ne rfl rfl c_14
      refine lv_lconst (v := 0) hx hb dX12_suits_25 (by decide) ?_
      refine lv_lstore (lv' := [(6, .long 0), (0, .ref (a 66)), (1, .int p0), (2, .int p1), (3, .int p2), (4, .int p3), (5, .int p4)]) hx hb dX12_suits_26 hl (lt_b rfl) rfl (fun ls hl => ?_)
      refine ic_1 hx hb dX12_suits_28 ?_
      refine lv_istore (lv' := [(8, .int 1), (6, .long 0), (0, .ref (a 66)), (1, .int p0), (2, .int p1), (3, .int p2), (4, .int p3), (5, .int p4)]) hx hb dX12_suits_29 hl (lt_b rfl) rfl (fun ls hl => ?_)
      have qc_22 : (1 : Int32).toInt = 1 := rfl
      refine loop_N (Inv := fun n H locs ls => ∃ (G_15 : GS) (x_19 : Int32) (x_20 : Int64), (n : Int) = 61 - x_19.toInt ∧ (1 ≤ x_19.toInt ∧ x_19.toInt ≤ 61) ∧ Rc (St_n_suits_1 p0 p1 p2 p3 p4) (1, 0, G_9) (x_19, x_20, G_15) ∧ Wd D k A a G_15 H ∧ Bd G_15 ∧ Fr [] [] G G_15 ∧ Fr [] [] G_9 G_15 ∧ va_S A s.heap H locs ∧ lv_has ls 9 [(8, .int x_19), (6, .long x_20), (1, .int p0), (2, .int p1), (3, .int p2), (4, .int p3), (5, .int p4)]) (fun n_18 H locs ls ih_17 hI => ?_) (61 - 1 : Int).toNat ⟨G_9, 1, 0, (Int.toNat_of_nonneg ((by first | (clear f_6 hp_4 c_7 f_13 hp_11 c_14; omega) | omega))), ⟨(by first | (clear f_6 hp_4 c_7 f_13 hp_11 c_14; omega) | omega), (by first | (clear f_6 hp_4 c_7 f_13 hp_11 c_14; omega) | omega)⟩, Rc.rf, hW, hB_G_9, hF, Fr.rf, hS, lv_sub hl [0, 1, 3, 4, 5, 6, 7] rfl⟩
      obtain ⟨G_15, x_19, x_20, hn_24, f_23, hX_21, hW, hB_G_15, hF, hq_16, hS, hl⟩ := hI
      refine lv_iload hx hb dX12_suits_31 (lv_at hl 0 rfl) ?_
      refine lv_bipush (v := 60) hx hb dX12_suits_33 (by decide) ?_
      refine lv_icmp_gt (tgt := 80) hx hb dX12_suits_35 rfl (fun c_25 => ?_) (fun c_25 => ?_)
      · have c_25 : 60 < x_19.toInt := xI_lt rfl rfl c_25
        refine lv_lload hx hb dX12_suits_80 (lv_at hl 1 rfl) ?_
        exact W.lret (v := x_20) hx hb hr (fun t ht _ => ⟨⟨x_20, G_15, rfl, (Q_suits_mk ⟨hB_G_15, hF, ⟨r_1, G_2, hX_5, (Or.inr ⟨c_7, ⟨r_8, G_9, hX_12, (Or.inr ⟨c_14, ⟨x_19, x_20, G_15, hX_21, f_23, hB_G_15, hq_16, ⟨c_25, ⟨rfl, rfl⟩⟩⟩⟩)⟩⟩)⟩⟩), wd_t ht hW⟩, hS.F ht⟩) hS.2.2 dX12_suits_82
      · have c_25 : x_19.toInt ≤ 60 := xI_nlt rfl rfl c_25
        refine lv_iload_n hx hb dX12_suits_38 rfl (lv_at hl 2 rfl) ?_
        refine lv_iload_n hx hb dX12_suits_39 rfl (lv_at hl 3 rfl) ?_
        refine lv_iload hx hb dX12_suits_40 (lv_at hl 6 rfl) ?_
        refine lv_iload hx hb dX12_suits_42 (lv_at hl 0 rfl) ?_
        refine S_calli (va_runS (As := [.int p0, .int p1, .int p4, .int x_19]) (rest := []) ⟨hx, hb, hml, hown, hts⟩ (n_beginOf l D k A a z G_15 p0 p1 p4 x_19 ⟨(by first | (clear f_13 c_14 hn_24 f_23 c_25; omega) | omega), (by first | (clear f_13 c_14 hn_24 f_23 c_25; omega) | omega)⟩ ⟨(by first | (clear f_13 c_14 hn_24 f_23 c_25; omega) | omega), (by first | (clear f_13 c_14 hn_24 f_23 c_25; omega) | omega)⟩ ⟨(by first | (clear hn_24 f_23 c_25; omega) | omega), (by first | (clear hn_24 f_23 c_25; omega) | omega)⟩ ⟨(by first | (clear f_6 hp_4 c_7 f_13 hp_11 c_14 hn_24; omega) | omega), (by first | (clear f_6 hp_4 c_7 f_13 hp_11 c_14 hn_24; omega) | omega)⟩) (va_cwS 4 hts (gd_S hgd m1920 m1921 m131 m1922) rfl rfl rfl hd_X12_beginOf.2 ⟨Nat.le_of_ble_eq_true rfl, Nat.le_of_ble_eq_true rfl⟩) (pre_S hW hB_G_15 hK hZ hS) rfl rfl hl.1 rfl (lv_room (Nat.le_of_ble_eq_true rfl)) dX12_suits_44 ⟨Nat.le_of_ble_eq_true rfl, Nat.le_of_ble_eq_true rfl⟩) hS (fun r_26 G_27 H locs hpo hW hS => ?_)
        have hX_30 : Q_beginOf p0 p1 p4 x_19 G_15 r_26 G_27 := hpo
        obtain ⟨hB_G_27, hq_28, -⟩ := hpo
        have hF := hF.call9 hq_28 rfl rfl
        refine lv_if_le (tgt := 74) hx hb dX12_suits_47 rfl (fun c_31 => ?_) (fun c_31 => ?_)
        · have c_31 : r_26.toInt ≤ 0 := xI_le rfl rfl c_31
          obtain ⟨y_32, ey_32⟩ : ∃ q, q = x_19 + 1 := ⟨_, rfl⟩
          have ty_32 : y_32.toInt = x_19.toInt + 1 := xI_add rfl rfl ey_32 ((by first | (clear f_6 hp_4 c_7 f_13 hp_11 c_14 hn_24 c_31; omega) | omega)) ((by first | (clear f_6 hp_4 c_7 f_13 hp_11 c_14 hn_24 c_31; omega) | omega))
          refine lv_iinc (v := y_32) (lv' := [(8, .int y_32), (6, .long x_20), (1, .int p0), (2, .int p1), (3, .int p2), (4, .int p3), (5, .int p4)]) hx hb dX12_suits_74 hl (k := 0) rfl (by rw [ey_32]; rfl) (lt_b rfl) rfl (fun ls hl => ?_)
          refine lv_goto (tgt := 31) hx hb dX12_suits_77 rfl ?_
          exact ih_17 (61 - y_32.toInt : Int).toNat ((by first | (clear f_6 hp_4 c_7 f_13 hp_11 c_14 c_31; omega) | omega)) _ _ _ ⟨G_27, y_32, x_20, (Int.toNat_of_nonneg ((by first | (clear f_6 hp_4 c_7 f_13 hp_11 c_14 hn_24 c_31; omega) | omega))), ⟨(by first | (clear f_6 hp_4 c_7 f_13 hp_11 c_14 hn_24 c_31; omega) | omega), (by first | (clear f_6 hp_4 c_7 f_13 hp_11 c_14 hn_24 c_31; omega) | omega)⟩, (hX_21.st (St_n_suits_1_mk ⟨x_19, x_20, G_15, y_32, x_20, G_27, rfl, rfl, f_23, hB_G_15, ⟨c_25, ⟨r_26, G_27, hX_30, (Or.inl ⟨c_31, ⟨y_32, ty_32, ⟨rfl, rfl, rfl⟩⟩⟩)⟩⟩⟩)), hW, hB_G_27, hF, (Fr.call9 (rs := []) (fs := []) (Fr.call9 (rs := []) (fs := []) Fr.rf hq_16 rfl rfl) hq_28 rfl rfl), hS, lv_sub hl [0, 1, 2, 3, 4, 5, 6] rfl⟩
        · have c_31 : 0 < r_26.toInt := xI_nle rfl rfl c_31
          refine lv_iload_n hx hb dX12_suits_50 rfl (lv_at hl 4 rfl) ?_
          refine lv_iload hx hb dX12_suits_51 (lv_at hl 5 rfl) ?_
          refine lv_iload hx hb dX12_suits_53 (lv_at hl 6 rfl) ?_
          refine lv_iload hx hb dX12_suits_55 (lv_at hl 0 rfl) ?_
          refine S_calli (va_runS (As := [.int p2, .int p3, .int p4, .int x_19]) (rest := []) ⟨hx, hb, hml, hown, hts⟩ (n_beginOf l D k A a z G_27 p2 p3 p4 x_19 ⟨(by first | (clear f_6 hp_4 c_7 f_13 hp_11 c_14 hn_24 f_23 c_25 c_31; omega) | omega), (by first | (clear f_6 hp_4 c_7 f_13 hp_11 c_14 hn_24 f_23 c_25 c_31; omega) | omega)⟩ ⟨(by first | (clear f_6 c_7 hn_24 f_23 c_25 c_31; omega) | omega), (by first | (clear f_6 c_7 hn_24 f_23 c_25 c_31; omega) | omega)⟩ ⟨(by first | (clear hn_24 f_23 c_25 c_31; omega) | omega), (by first | (clear hn_24 f_23 c_25 c_31; omega) | omega)⟩ ⟨(by first | (clear f_6 hp_4 c_7 f_13 hp_11 c_14 hn_24 c_31; omega) | omega), (by first | (clear f_6 hp_4 c_7 f_13 hp_11 c_14 hn_24 c_31; omega) | omega)⟩) (va_cwS 4 hts (gd_S hgd m1920 m1921 m131 m1922) rfl rfl rfl hd_X12_beginOf.2 ⟨Nat.le_of_ble_eq_true rfl, Nat.le_of_ble_eq_true rfl⟩) (pre_S hW hB_G_27 hK hZ hS) rfl rfl hl.1 rfl (lv_room (Nat.le_of_ble_eq_true rfl)) dX12_suits_57 ⟨Nat.le_of_ble_eq_true rfl, Nat.le_of_ble_eq_true rfl⟩) hS (fun r_33 G_34 H locs hpo hW hS => ?_)
          have hX_37 : Q_beginOf p2 p3 p4 x_19 G_27 r_33 G_34 := hpo
          obtain ⟨hB_G_34, hq_35, -⟩ := hpo
          have hF := hF.call9 hq_35 rfl rfl
          refine lv_if_le (tgt := 74) hx hb dX12_suits_60 rfl (fun c_38 => ?_) (fun c_38 => ?_)
          · have c_38 : r_33.toInt ≤ 0 := xI_le rfl rfl c_38
            obtain ⟨y_39, ey_39⟩ : ∃ q, q = x_19 + 1 := ⟨_, rfl⟩
            have ty_39 : y_39.toInt = x_19.toInt + 1 := xI_add rfl rfl ey_39 ((by first | (clear f_6 hp_4 c_7 f_13 hp_11 c_14 hn_24 c_31 c_38; omega) | omega)) ((by first | (clear f_6 hp_4 c_7 f_13 hp_11 c_14 hn_24 c_31 c_38; omega) | omega))
            refine lv_iinc (v := y_39) (lv' := [(8, .int y_39), (6, .long x_20), (1, .int p0), (2, .int p1), (3, .int p2), (4, .int p3), (5, .int p4)]) hx hb dX12_suits_74 hl (k := 0) rfl (by rw [ey_39]; rfl) (lt_b rfl) rfl (fun ls hl => ?_)
            refine lv_goto (tgt := 31) hx hb dX12_suits_77 rfl ?_
            exact ih_17 (61 - y_39.toInt : Int).toNat ((by first | (clear f_6 hp_4 c_7 f_13 hp_11 c_14 c_31 c_38; omega) | omega)) _ _ _ ⟨G_34, y_39, x_20, (Int.toNat_of_nonneg ((by first | (clear f_6 hp_4 c_7 f_13 hp_11 c_14 hn_24 c_31 c_38; omega) | omega))), ⟨(by first | (clear f_6 hp_4 c_7 f_13 hp_11 c_14 hn_24 c_31 c_38; omega) | omega), (by first | (clear f_6 hp_4 c_7 f_13 hp_11 c_14 hn_24 c_31 c_38; omega) | omega)⟩, (hX_21.st (St_n_suits_1_mk ⟨x_19, x_20, G_15, y_39, x_20, G_34, rfl, rfl, f_23, hB_G_15, ⟨c_25, ⟨r_26, G_27, hX_30, (Or.inr ⟨c_31, ⟨r_33, G_34, hX_37, (Or.inl ⟨c_38, ⟨y_39, ty_39, ⟨rfl, rfl, rfl⟩⟩⟩)⟩⟩)⟩⟩⟩)), hW, hB_G_34, hF, (Fr.call9 (rs := []) (fs := []) (Fr.call9 (rs := []) (fs := []) (Fr.call9 (rs := []) (fs := []) Fr.rf hq_16 rfl rfl) hq_28 rfl rfl) hq_35 rfl rfl), hS, lv_sub hl [0, 1, 2, 3, 4, 5, 6] rfl⟩
          · have c_38 : 0 < r_33.toInt := xI_nle rfl rfl c_38
            refine lv_lload hx hb dX12_suits_63 (lv_at hl 1 rfl) ?_
            refine lv_lconst (v := 1) hx hb dX12_suits_65 (by decide) ?_
            refine lv_iload hx hb dX12_suits_66 (lv_at hl 0 rfl) ?_
            refine ic_1 hx hb dX12_suits_68 ?_
            refine lv_isub hx hb dX12_suits_69 ?_
            refine lv_topi (fun y_40 ey_40 => ?_)
            have ty_40 : y_40.toInt = x_19.toInt - 1 := xI_sub rfl rfl ey_40 ((by first | (clear f_6 hp_4 c_7 f_13 hp_11 c_14 hn_24 c_31 c_38; omega) | omega)) ((by first | (clear f_6 hp_4 c_7 f_13 hp_11 c_14 hn_24 c_31 c_38; omega) | omega))
            refine lv_lshl hx hb dX12_suits_70 rfl ?_
            refine lv_topl (fun y_41 ey_41 => ?_)
            refine lv_lor hx hb dX12_suits_71 ?_
            refine lv_topl (fun y_42 ey_42 => ?_)
            refine lv_lstore (lv' := [(6, .long y_42), (8, .int x_19), (1, .int p0), (2, .int p1), (3, .int p2), (4, .int p3), (5, .int p4)]) hx hb dX12_suits_72 hl (lt_b rfl) rfl (fun ls hl => ?_)
            obtain ⟨y_43, ey_43⟩ : ∃ q, q = x_19 + 1 := ⟨_, rfl⟩
            have ty_43 : y_43.toInt = x_19.toInt + 1 := xI_add rfl rfl ey_43 ((by first | (clear f_6 hp_4 c_7 f_13 hp_11 c_14 hn_24 c_31 c_38; omega) | omega)) ((by first | (clear f_6 hp_4 c_7 f_13 hp_11 c_14 hn_24 c_31 c_38; omega) | omega))
            refine lv_iinc (v := y_43) (lv' := [(8, .int y_43), (6, .long y_42), (1, .int p0), (2, .int p1), (3, .int p2), (4, .int p3), (5, .int p4)]) hx hb dX12_suits_74 hl (k := 1) rfl (by rw [ey_43]; rfl) (lt_b rfl) rfl (fun ls hl => ?_)
            refine lv_goto (tgt := 31) hx hb dX12_suits_77 rfl ?_
            exact ih_17 (61 - y_43.toInt : Int).toNat ((by first | (clear f_6 hp_4 c_7 f_13 hp_11 c_14 c_31 c_38; omega) | omega)) _ _ _ ⟨G_34, y_43, y_42, (Int.toNat_of_nonneg ((by first | (clear f_6 hp_4 c_7 f_13 hp_11 c_14 hn_24 c_31 c_38; omega) | omega))), ⟨(by first | (clear f_6 hp_4 c_7 f_13 hp_11 c_14 hn_24 c_31 c_38; omega) | omega), (by first | (clear f_6 hp_4 c_7 f_13 hp_11 c_14 hn_24 c_31 c_38; omega) | omega)⟩, (hX_21.st (St_n_suits_1_mk ⟨x_19, x_20, G_15, y_43, y_42, G_34, rfl, rfl, f_23, hB_G_15, ⟨c_25, ⟨r_26, G_27, hX_30, (Or.inr ⟨c_31, ⟨r_33, G_34, hX_37, (Or.inr ⟨c_38, ⟨y_40, ty_40, ⟨y_41, ey_41, ⟨y_42, ey_42, ⟨y_43, ty_43, ⟨rfl, rfl, rfl⟩⟩⟩⟩⟩⟩)⟩⟩)⟩⟩⟩)), hW, hB_G_34, hF, (Fr.call9 (rs := []) (fs := []) (Fr.call9 (rs := []) (fs := []) (Fr.call9 (rs := []) (fs := []) Fr.rf hq_16 rfl rfl) hq_28 rfl rfl) hq_35 rfl rfl), hS, lv_sub hl [0, 1, 2, 3, 4, 5, 6] rfl⟩
    · have c_14 : r_8.toInt = 0 := xI_eq rfl rfl c_14
      refine lv_ldc2 (v := (-1)) hx hb hown (hg (Cond.constantLong RX12 517 (-1)) m1874) dX12_suits_21 ?_
      exact W.lret (v := (-1)) hx hb hr (fun t ht _ => ⟨⟨(-1), G_9, rfl, (Q_suits_mk ⟨hB_G_9, hF, ⟨r_1, G_2, hX_5, (Or.inr ⟨c_7, ⟨r_8, G_9, hX_12, (Or.inl ⟨c_14, ⟨rfl, rfl⟩⟩)⟩⟩)⟩⟩), wd_t ht hW⟩, hS.F ht⟩) hS.2.2 dX12_suits_24
