theorem m1874 : Cond.constantLong RX12 517 (-1) ∈ gd := gdc_8_4 14 rfl gw_constantLong
theorem m1907 : Cond.methodLink RX12 536 yX12_areSlabs ∈ gd := gdc_8_6 15 rfl gw_methodLink
theorem m1908 : Cond.static yX12_areSlabs ∈ gd := gdc_8_7 0 rfl gw_static
theorem m1909 : Cond.code yX12_areSlabs cX12_areSlabs 3 (some .boolean) ∈ gd := gdc_8_7 1 rfl gw_code
theorem m1910 : Cond.methodLink RX12 539 yX12_firstOf ∈ gd := gdc_8_7 2 rfl gw_methodLink
theorem m1911 : Cond.static yX12_firstOf ∈ gd := gdc_8_7 3 rfl gw_static
theorem m1912 : Cond.code yX12_firstOf cX12_firstOf 7 (some .int) ∈ gd := gdc_8_7 4 rfl gw_code
theorem m1913 : Cond.methodLink RX12 532 yX12_isPlain ∈ gd := gdc_8_7 5 rfl gw_methodLink
theorem m1914 : Cond.static yX12_isPlain ∈ gd := gdc_8_7 6 rfl gw_static
theorem m1915 : Cond.code yX12_isPlain cX12_isPlain 6 (some .boolean) ∈ gd := gdc_8_7 7 rfl gw_code
theorem m1920 : Cond.methodLink RX12 543 yX12_beginOf ∈ gd := gdc_8_7 12 rfl gw_methodLink
theorem m1921 : Cond.static yX12_beginOf ∈ gd := gdc_8_7 13 rfl gw_static
theorem m1922 : Cond.code yX12_beginOf cX12_beginOf 6 (some .int) ∈ gd := gdc_8_7 14 rfl gw_code
noncomputable def rbX12_areSlabs_0 : List (Nat × List Nat) := [(0, [26]), (1, [4]), (2, [16, 60]), (4, [184, 1, 193]), (7, [153, 0, 27]), (10, [27]), (11, [3]), (12, [16, 9]), (14, [184, 1, 193]), (17, [153, 0, 17]), (20, [28]), (21, [4]), (22, [16, 12]), (24, [184, 1, 193]), (27, [153, 0, 7]), (30, [4]), (31, [167, 0, 4]), (34, [3]), (35, [172])]
theorem rcX12_areSlabs_0 : dgo (lb cX12_areSlabs) 0 rbX12_areSlabs_0 = true := by decide +kernel
theorem dX12_areSlabs_0 : decode cX12_areSlabs 0 = .ok (.iload_n 0, 1) := dk_26 (dw rcX12_areSlabs_0 0 rfl)
theorem dX12_areSlabs_1 : decode cX12_areSlabs 1 = .ok (.iconst 1, 1) := dk_4 (dw rcX12_areSlabs_0 1 rfl)
theorem dX12_areSlabs_2 : decode cX12_areSlabs 2 = .ok (.bipush 60, 2) := dk_16 (dw rcX12_areSlabs_0 2 rfl) rfl
theorem dX12_areSlabs_4 : decode cX12_areSlabs 4 = .ok (.invokestatic 449, 3) := dk_184 (dw rcX12_areSlabs_0 3 rfl) rfl
theorem dX12_areSlabs_7 : decode cX12_areSlabs 7 = .ok (.ifCond .eq 27, 3) := dk_153 (dw rcX12_areSlabs_0 4 rfl) rfl
theorem dX12_areSlabs_10 : decode cX12_areSlabs 10 = .ok (.iload_n 1, 1) := dk_27 (dw rcX12_areSlabs_0 5 rfl)
theorem dX12_areSlabs_11 : decode cX12_areSlabs 11 = .ok (.iconst 0, 1) := dk_3 (dw rcX12_areSlabs_0 6 rfl)
theorem dX12_areSlabs_12 : decode cX12_areSlabs 12 = .ok (.bipush 9, 2) := dk_16 (dw rcX12_areSlabs_0 7 rfl) rfl
theorem dX12_areSlabs_14 : decode cX12_areSlabs 14 = .ok (.invokestatic 449, 3) := dk_184 (dw rcX12_areSlabs_0 8 rfl) rfl
theorem dX12_areSlabs_17 : decode cX12_areSlabs 17 = .ok (.ifCond .eq 17, 3) := dk_153 (dw rcX12_areSlabs_0 9 rfl) rfl
theorem dX12_areSlabs_20 : decode cX12_areSlabs 20 = .ok (.iload_n 2, 1) := dk_28 (dw rcX12_areSlabs_0 10 rfl)
theorem dX12_areSlabs_21 : decode cX12_areSlabs 21 = .ok (.iconst 1, 1) := dk_4 (dw rcX12_areSlabs_0 11 rfl)
theorem dX12_areSlabs_22 : decode cX12_areSlabs 22 = .ok (.bipush 12, 2) := dk_16 (dw rcX12_areSlabs_0 12 rfl) rfl
theorem dX12_areSlabs_24 : decode cX12_areSlabs 24 = .ok (.invokestatic 449, 3) := dk_184 (dw rcX12_areSlabs_0 13 rfl) rfl
theorem dX12_areSlabs_27 : decode cX12_areSlabs 27 = .ok (.ifCond .eq 7, 3) := dk_153 (dw rcX12_areSlabs_0 14 rfl) rfl
theorem dX12_areSlabs_30 : decode cX12_areSlabs 30 = .ok (.iconst 1, 1) := dk_4 (dw rcX12_areSlabs_0 15 rfl)
theorem dX12_areSlabs_31 : decode cX12_areSlabs 31 = .ok (.goto 4, 3) := dk_167 (dw rcX12_areSlabs_0 16 rfl) rfl
theorem dX12_areSlabs_34 : decode cX12_areSlabs 34 = .ok (.iconst 0, 1) := dk_3 (dw rcX12_areSlabs_0 17 rfl)
theorem dX12_areSlabs_35 : decode cX12_areSlabs 35 = .ok (.ireturn, 1) := dk_172 (dw rcX12_areSlabs_0 18 rfl)
noncomputable def rbX12_begin_0 : List (Nat × List Nat) := [(0, [27]), (1, [28]), (2, [29]), (3, [184, 2, 24]), (6, [153, 0, 25]), (9, [21, 4]), (11, [4]), (12, [16, 99]), (14, [184, 1, 193]), (17, [153, 0, 14]), (20, [27]), (21, [28]), (22, [29]), (23, [21, 4]), (25, [184, 2, 31]), (28, [167, 0, 4]), (31, [2]), (32, [172])]
theorem rcX12_begin_0 : dgo (lb cX12_begin) 0 rbX12_begin_0 = true := by decide +kernel
theorem dX12_begin_0 : decode cX12_begin 0 = .ok (.iload_n 1, 1) := dk_27 (dw rcX12_begin_0 0 rfl)
theorem dX12_begin_1 : decode cX12_begin 1 = .ok (.iload_n 2, 1) := dk_28 (dw rcX12_begin_0 1 rfl)
theorem dX12_begin_2 : decode cX12_begin 2 = .ok (.iload_n 3, 1) := dk_29 (dw rcX12_begin_0 2 rfl)
theorem dX12_begin_3 : decode cX12_begin 3 = .ok (.invokestatic 536, 3) := dk_184 (dw rcX12_begin_0 3 rfl) rfl
theorem dX12_begin_6 : decode cX12_begin 6 = .ok (.ifCond .eq 25, 3) := dk_153 (dw rcX12_begin_0 4 rfl) rfl
theorem dX12_begin_9 : decode cX12_begin 9 = .ok (.iload 4, 2) := dk_21 (dw rcX12_begin_0 5 rfl)
theorem dX12_begin_11 : decode cX12_begin 11 = .ok (.iconst 1, 1) := dk_4 (dw rcX12_begin_0 6 rfl)
theorem dX12_begin_12 : decode cX12_begin 12 = .ok (.bipush 99, 2) := dk_16 (dw rcX12_begin_0 7 rfl) rfl
theorem dX12_begin_14 : decode cX12_begin 14 = .ok (.invokestatic 449, 3) := dk_184 (dw rcX12_begin_0 8 rfl) rfl
theorem dX12_begin_17 : decode cX12_begin 17 = .ok (.ifCond .eq 14, 3) := dk_153 (dw rcX12_begin_0 9 rfl) rfl
theorem dX12_begin_20 : decode cX12_begin 20 = .ok (.iload_n 1, 1) := dk_27 (dw rcX12_begin_0 10 rfl)
theorem dX12_begin_21 : decode cX12_begin 21 = .ok (.iload_n 2, 1) := dk_28 (dw rcX12_begin_0 11 rfl)
theorem dX12_begin_22 : decode cX12_begin 22 = .ok (.iload_n 3, 1) := dk_29 (dw rcX12_begin_0 12 rfl)
theorem dX12_begin_23 : decode cX12_begin 23 = .ok (.iload 4, 2) := dk_21 (dw rcX12_begin_0 13 rfl)
theorem dX12_begin_25 : decode cX12_begin 25 = .ok (.invokestatic 543, 3) := dk_184 (dw rcX12_begin_0 14 rfl) rfl
theorem dX12_begin_28 : decode cX12_begin 28 = .ok (.goto 4, 3) := dk_167 (dw rcX12_begin_0 15 rfl) rfl
theorem dX12_begin_31 : decode cX12_begin 31 = .ok (.iconst (-1), 1) := dk_2 (dw rcX12_begin_0 16 rfl)
theorem dX12_begin_32 : decode cX12_begin 32 = .ok (.ireturn, 1) := dk_172 (dw rcX12_begin_0 17 rfl)
noncomputable def rbX12_beginOf_0 : List (Nat × List Nat) := [(0, [3]), (1, [54, 4]), (3, [3]), (4, [54, 5]), (6, [21, 5]), (8, [26]), (9, [27]), (10, [96]), (11, [162, 0, 34]), (14, [21, 4]), (16, [26]), (17, [27]), (18, [28]), (19, [29]), (20, [21, 5]), (22, [184, 2, 27]), (25, [156, 0, 7]), (28, [4]), (29, [167, 0, 4]), (32, [3]), (33, [184, 1, 92]), (36, [96]), (37, [54, 4]), (39, [132, 5, 1])]
theorem rcX12_beginOf_0 : dgo (lb cX12_beginOf) 0 rbX12_beginOf_0 = true := by decide +kernel
theorem dX12_beginOf_0 : decode cX12_beginOf 0 = .ok (.iconst 0, 1) := dk_3 (dw rcX12_beginOf_0 0 rfl)
theorem dX12_beginOf_1 : decode cX12_beginOf 1 = .ok (.istore 4, 2) := dk_54 (dw rcX12_beginOf_0 1 rfl)
theorem dX12_beginOf_3 : decode cX12_beginOf 3 = .ok (.iconst 0, 1) := dk_3 (dw rcX12_beginOf_0 2 rfl)
theorem dX12_beginOf_4 : decode cX12_beginOf 4 = .ok (.istore 5, 2) := dk_54 (dw rcX12_beginOf_0 3 rfl)
theorem dX12_beginOf_6 : decode cX12_beginOf 6 = .ok (.iload 5, 2) := dk_21 (dw rcX12_beginOf_0 4 rfl)
theorem dX12_beginOf_8 : decode cX12_beginOf 8 = .ok (.iload_n 0, 1) := dk_26 (dw rcX12_beginOf_0 5 rfl)
theorem dX12_beginOf_9 : decode cX12_beginOf 9 = .ok (.iload_n 1, 1) := dk_27 (dw rcX12_beginOf_0 6 rfl)
theorem dX12_beginOf_10 : decode cX12_beginOf 10 = .ok (.iadd, 1) := dk_96 (dw rcX12_beginOf_0 7 rfl)
theorem dX12_beginOf_11 : decode cX12_beginOf 11 = .ok (.if_icmp .ge 34, 3) := dk_162 (dw rcX12_beginOf_0 8 rfl) rfl
theorem dX12_beginOf_14 : decode cX12_beginOf 14 = .ok (.iload 4, 2) := dk_21 (dw rcX12_beginOf_0 9 rfl)
theorem dX12_beginOf_16 : decode cX12_beginOf 16 = .ok (.iload_n 0, 1) := dk_26 (dw rcX12_beginOf_0 10 rfl)
theorem dX12_beginOf_17 : decode cX12_beginOf 17 = .ok (.iload_n 1, 1) := dk_27 (dw rcX12_beginOf_0 11 rfl)
theorem dX12_beginOf_18 : decode cX12_beginOf 18 = .ok (.iload_n 2, 1) := dk_28 (dw rcX12_beginOf_0 12 rfl)
theorem dX12_beginOf_19 : decode cX12_beginOf 19 = .ok (.iload_n 3, 1) := dk_29 (dw rcX12_beginOf_0 13 rfl)
theorem dX12_beginOf_20 : decode cX12_beginOf 20 = .ok (.iload 5, 2) := dk_21 (dw rcX12_beginOf_0 14 rfl)
theorem dX12_beginOf_22 : decode cX12_beginOf 22 = .ok (.invokestatic 539, 3) := dk_184 (dw rcX12_beginOf_0 15 rfl) rfl
theorem dX12_beginOf_25 : decode cX12_beginOf 25 = .ok (.ifCond .ge 7, 3) := dk_156 (dw rcX12_beginOf_0 16 rfl) rfl
theorem dX12_beginOf_28 : decode cX12_beginOf 28 = .ok (.iconst 1, 1) := dk_4 (dw rcX12_beginOf_0 17 rfl)
theorem dX12_beginOf_29 : decode cX12_beginOf 29 = .ok (.goto 4, 3) := dk_167 (dw rcX12_beginOf_0 18 rfl) rfl
theorem dX12_beginOf_32 : decode cX12_beginOf 32 = .ok (.iconst 0, 1) := dk_3 (dw rcX12_beginOf_0 19 rfl)
theorem dX12_beginOf_33 : decode cX12_beginOf 33 = .ok (.invokestatic 348, 3) := dk_184 (dw rcX12_beginOf_0 20 rfl) rfl
theorem dX12_beginOf_36 : decode cX12_beginOf 36 = .ok (.iadd, 1) := dk_96 (dw rcX12_beginOf_0 21 rfl)
theorem dX12_beginOf_37 : decode cX12_beginOf 37 = .ok (.istore 4, 2) := dk_54 (dw rcX12_beginOf_0 22 rfl)
theorem dX12_beginOf_39 : decode cX12_beginOf 39 = .ok (.iinc 5 1, 3) := dk_132 (dw rcX12_beginOf_0 23 rfl) rfl
noncomputable def rbX12_beginOf_42 : List (Nat × List Nat) := [(42, [167, 255, 220]), (45, [21, 4]), (47, [172])]
theorem rcX12_beginOf_42 : dgo (lb cX12_beginOf) 0 rbX12_beginOf_42 = true := by decide +kernel
theorem dX12_beginOf_42 : decode cX12_beginOf 42 = .ok (.goto (-36), 3) := dk_167 (dw rcX12_beginOf_42 0 rfl) rfl
theorem dX12_beginOf_45 : decode cX12_beginOf 45 = .ok (.iload 4, 2) := dk_21 (dw rcX12_beginOf_42 1 rfl)
theorem dX12_beginOf_47 : decode cX12_beginOf 47 = .ok (.ireturn, 1) := dk_172 (dw rcX12_beginOf_42 2 rfl)
noncomputable def rbX12_first_0 : List (Nat × List Nat) := [(0, [27]), (1, [28]), (2, [29]), (3, [184, 2, 24]), (6, [153, 0, 41]), (9, [21, 4]), (11, [4]), (12, [16, 99]), (14, [184, 1, 193]), (17, [153, 0, 30]), (20, [21, 5]), (22, [3]), (23, [27]), (24, [28]), (25, [96]), (26, [4]), (27, [100]), (28, [184, 1, 193]), (31, [153, 0, 16]), (34, [27]), (35, [28]), (36, [29]), (37, [21, 4]), (39, [21, 5])]
theorem rcX12_first_0 : dgo (lb cX12_first) 0 rbX12_first_0 = true := by decide +kernel
theorem dX12_first_0 : decode cX12_first 0 = .ok (.iload_n 1, 1) := dk_27 (dw rcX12_first_0 0 rfl)
theorem dX12_first_1 : decode cX12_first 1 = .ok (.iload_n 2, 1) := dk_28 (dw rcX12_first_0 1 rfl)
theorem dX12_first_2 : decode cX12_first 2 = .ok (.iload_n 3, 1) := dk_29 (dw rcX12_first_0 2 rfl)
theorem dX12_first_3 : decode cX12_first 3 = .ok (.invokestatic 536, 3) := dk_184 (dw rcX12_first_0 3 rfl) rfl
theorem dX12_first_6 : decode cX12_first 6 = .ok (.ifCond .eq 41, 3) := dk_153 (dw rcX12_first_0 4 rfl) rfl
theorem dX12_first_9 : decode cX12_first 9 = .ok (.iload 4, 2) := dk_21 (dw rcX12_first_0 5 rfl)
theorem dX12_first_11 : decode cX12_first 11 = .ok (.iconst 1, 1) := dk_4 (dw rcX12_first_0 6 rfl)
theorem dX12_first_12 : decode cX12_first 12 = .ok (.bipush 99, 2) := dk_16 (dw rcX12_first_0 7 rfl) rfl
theorem dX12_first_14 : decode cX12_first 14 = .ok (.invokestatic 449, 3) := dk_184 (dw rcX12_first_0 8 rfl) rfl
theorem dX12_first_17 : decode cX12_first 17 = .ok (.ifCond .eq 30, 3) := dk_153 (dw rcX12_first_0 9 rfl) rfl
theorem dX12_first_20 : decode cX12_first 20 = .ok (.iload 5, 2) := dk_21 (dw rcX12_first_0 10 rfl)
theorem dX12_first_22 : decode cX12_first 22 = .ok (.iconst 0, 1) := dk_3 (dw rcX12_first_0 11 rfl)
theorem dX12_first_23 : decode cX12_first 23 = .ok (.iload_n 1, 1) := dk_27 (dw rcX12_first_0 12 rfl)
theorem dX12_first_24 : decode cX12_first 24 = .ok (.iload_n 2, 1) := dk_28 (dw rcX12_first_0 13 rfl)
theorem dX12_first_25 : decode cX12_first 25 = .ok (.iadd, 1) := dk_96 (dw rcX12_first_0 14 rfl)
theorem dX12_first_26 : decode cX12_first 26 = .ok (.iconst 1, 1) := dk_4 (dw rcX12_first_0 15 rfl)
theorem dX12_first_27 : decode cX12_first 27 = .ok (.isub, 1) := dk_100 (dw rcX12_first_0 16 rfl)
theorem dX12_first_28 : decode cX12_first 28 = .ok (.invokestatic 449, 3) := dk_184 (dw rcX12_first_0 17 rfl) rfl
theorem dX12_first_31 : decode cX12_first 31 = .ok (.ifCond .eq 16, 3) := dk_153 (dw rcX12_first_0 18 rfl) rfl
theorem dX12_first_34 : decode cX12_first 34 = .ok (.iload_n 1, 1) := dk_27 (dw rcX12_first_0 19 rfl)
theorem dX12_first_35 : decode cX12_first 35 = .ok (.iload_n 2, 1) := dk_28 (dw rcX12_first_0 20 rfl)
theorem dX12_first_36 : decode cX12_first 36 = .ok (.iload_n 3, 1) := dk_29 (dw rcX12_first_0 21 rfl)
theorem dX12_first_37 : decode cX12_first 37 = .ok (.iload 4, 2) := dk_21 (dw rcX12_first_0 22 rfl)
theorem dX12_first_39 : decode cX12_first 39 = .ok (.iload 5, 2) := dk_21 (dw rcX12_first_0 23 rfl)
noncomputable def rbX12_first_41 : List (Nat × List Nat) := [(41, [184, 2, 27]), (44, [167, 0, 5]), (47, [16, 254]), (49, [172])]
theorem rcX12_first_41 : dgo (lb cX12_first) 0 rbX12_first_41 = true := by decide +kernel
theorem dX12_first_41 : decode cX12_first 41 = .ok (.invokestatic 539, 3) := dk_184 (dw rcX12_first_41 0 rfl) rfl
theorem dX12_first_44 : decode cX12_first 44 = .ok (.goto 5, 3) := dk_167 (dw rcX12_first_41 1 rfl) rfl
theorem dX12_first_47 : decode cX12_first 47 = .ok (.bipush (-2), 2) := dk_16 (dw rcX12_first_41 2 rfl) rfl
theorem dX12_first_49 : decode cX12_first 49 = .ok (.ireturn, 1) := dk_172 (dw rcX12_first_41 3 rfl)
noncomputable def rbX12_firstOf_0 : List (Nat × List Nat) := [(0, [21, 4]), (2, [54, 5]), (4, [3]), (5, [54, 6]), (7, [21, 6]), (9, [26]), (10, [27]), (11, [96]), (12, [163, 0, 33]), (15, [26]), (16, [27]), (17, [28]), (18, [21, 5]), (20, [184, 2, 20]), (23, [154, 0, 6]), (26, [21, 6]), (28, [172]), (29, [21, 5]), (31, [29]), (32, [96]), (33, [26]), (34, [27]), (35, [96]), (36, [112])]
theorem rcX12_firstOf_0 : dgo (lb cX12_firstOf) 0 rbX12_firstOf_0 = true := by decide +kernel
theorem dX12_firstOf_0 : decode cX12_firstOf 0 = .ok (.iload 4, 2) := dk_21 (dw rcX12_firstOf_0 0 rfl)
theorem dX12_firstOf_2 : decode cX12_firstOf 2 = .ok (.istore 5, 2) := dk_54 (dw rcX12_firstOf_0 1 rfl)
theorem dX12_firstOf_4 : decode cX12_firstOf 4 = .ok (.iconst 0, 1) := dk_3 (dw rcX12_firstOf_0 2 rfl)
theorem dX12_firstOf_5 : decode cX12_firstOf 5 = .ok (.istore 6, 2) := dk_54 (dw rcX12_firstOf_0 3 rfl)
theorem dX12_firstOf_7 : decode cX12_firstOf 7 = .ok (.iload 6, 2) := dk_21 (dw rcX12_firstOf_0 4 rfl)
theorem dX12_firstOf_9 : decode cX12_firstOf 9 = .ok (.iload_n 0, 1) := dk_26 (dw rcX12_firstOf_0 5 rfl)
theorem dX12_firstOf_10 : decode cX12_firstOf 10 = .ok (.iload_n 1, 1) := dk_27 (dw rcX12_firstOf_0 6 rfl)
theorem dX12_firstOf_11 : decode cX12_firstOf 11 = .ok (.iadd, 1) := dk_96 (dw rcX12_firstOf_0 7 rfl)
theorem dX12_firstOf_12 : decode cX12_firstOf 12 = .ok (.if_icmp .gt 33, 3) := dk_163 (dw rcX12_firstOf_0 8 rfl) rfl
theorem dX12_firstOf_15 : decode cX12_firstOf 15 = .ok (.iload_n 0, 1) := dk_26 (dw rcX12_firstOf_0 9 rfl)
theorem dX12_firstOf_16 : decode cX12_firstOf 16 = .ok (.iload_n 1, 1) := dk_27 (dw rcX12_firstOf_0 10 rfl)
theorem dX12_firstOf_17 : decode cX12_firstOf 17 = .ok (.iload_n 2, 1) := dk_28 (dw rcX12_firstOf_0 11 rfl)
theorem dX12_firstOf_18 : decode cX12_firstOf 18 = .ok (.iload 5, 2) := dk_21 (dw rcX12_firstOf_0 12 rfl)
theorem dX12_firstOf_20 : decode cX12_firstOf 20 = .ok (.invokestatic 532, 3) := dk_184 (dw rcX12_firstOf_0 13 rfl) rfl
theorem dX12_firstOf_23 : decode cX12_firstOf 23 = .ok (.ifCond .ne 6, 3) := dk_154 (dw rcX12_firstOf_0 14 rfl) rfl
theorem dX12_firstOf_26 : decode cX12_firstOf 26 = .ok (.iload 6, 2) := dk_21 (dw rcX12_firstOf_0 15 rfl)
theorem dX12_firstOf_28 : decode cX12_firstOf 28 = .ok (.ireturn, 1) := dk_172 (dw rcX12_firstOf_0 16 rfl)
theorem dX12_firstOf_29 : decode cX12_firstOf 29 = .ok (.iload 5, 2) := dk_21 (dw rcX12_firstOf_0 17 rfl)
theorem dX12_firstOf_31 : decode cX12_firstOf 31 = .ok (.iload_n 3, 1) := dk_29 (dw rcX12_firstOf_0 18 rfl)
theorem dX12_firstOf_32 : decode cX12_firstOf 32 = .ok (.iadd, 1) := dk_96 (dw rcX12_firstOf_0 19 rfl)
theorem dX12_firstOf_33 : decode cX12_firstOf 33 = .ok (.iload_n 0, 1) := dk_26 (dw rcX12_firstOf_0 20 rfl)
theorem dX12_firstOf_34 : decode cX12_firstOf 34 = .ok (.iload_n 1, 1) := dk_27 (dw rcX12_firstOf_0 21 rfl)
theorem dX12_firstOf_35 : decode cX12_firstOf 35 = .ok (.iadd, 1) := dk_96 (dw rcX12_firstOf_0 22 rfl)
theorem dX12_firstOf_36 : decode cX12_firstOf 36 = .ok (.irem, 1) := dk_112 (dw rcX12_firstOf_0 23 rfl)
noncomputable def rbX12_firstOf_37 : List (Nat × List Nat) := [(37, [54, 5]), (39, [132, 6, 1]), (42, [167, 255, 221]), (45, [2]), (46, [172])]
theorem rcX12_firstOf_37 : dgo (lb cX12_firstOf) 0 rbX12_firstOf_37 = true := by decide +kernel
theorem dX12_firstOf_37 : decode cX12_firstOf 37 = .ok (.istore 5, 2) := dk_54 (dw rcX12_firstOf_37 0 rfl)
theorem dX12_firstOf_39 : decode cX12_firstOf 39 = .ok (.iinc 6 1, 3) := dk_132 (dw rcX12_firstOf_37 1 rfl) rfl
theorem dX12_firstOf_42 : decode cX12_firstOf 42 = .ok (.goto (-35), 3) := dk_167 (dw rcX12_firstOf_37 2 rfl) rfl
theorem dX12_firstOf_45 : decode cX12_firstOf 45 = .ok (.iconst (-1), 1) := dk_2 (dw rcX12_firstOf_37 3 rfl)
theorem dX12_firstOf_46 : decode cX12_firstOf 46 = .ok (.ireturn, 1) := dk_172 (dw rcX12_firstOf_37 4 rfl)
noncomputable def rbX12_isPlain_0 : List (Nat × List Nat) := [(0, [4]), (1, [54, 4]), (3, [29]), (4, [54, 5]), (6, [21, 5]), (8, [29]), (9, [28]), (10, [96]), (11, [162, 0, 31]), (14, [21, 4]), (16, [153, 0, 17]), (19, [21, 5]), (21, [26]), (22, [27]), (23, [96]), (24, [112]), (25, [26]), (26, [162, 0, 7]), (29, [4]), (30, [167, 0, 4]), (33, [3]), (34, [54, 4]), (36, [132, 5, 1]), (39, [167, 255, 223])]
theorem rcX12_isPlain_0 : dgo (lb cX12_isPlain) 0 rbX12_isPlain_0 = true := by decide +kernel
theorem dX12_isPlain_0 : decode cX12_isPlain 0 = .ok (.iconst 1, 1) := dk_4 (dw rcX12_isPlain_0 0 rfl)
theorem dX12_isPlain_1 : decode cX12_isPlain 1 = .ok (.istore 4, 2) := dk_54 (dw rcX12_isPlain_0 1 rfl)
theorem dX12_isPlain_3 : decode cX12_isPlain 3 = .ok (.iload_n 3, 1) := dk_29 (dw rcX12_isPlain_0 2 rfl)
theorem dX12_isPlain_4 : decode cX12_isPlain 4 = .ok (.istore 5, 2) := dk_54 (dw rcX12_isPlain_0 3 rfl)
theorem dX12_isPlain_6 : decode cX12_isPlain 6 = .ok (.iload 5, 2) := dk_21 (dw rcX12_isPlain_0 4 rfl)
theorem dX12_isPlain_8 : decode cX12_isPlain 8 = .ok (.iload_n 3, 1) := dk_29 (dw rcX12_isPlain_0 5 rfl)
theorem dX12_isPlain_9 : decode cX12_isPlain 9 = .ok (.iload_n 2, 1) := dk_28 (dw rcX12_isPlain_0 6 rfl)
theorem dX12_isPlain_10 : decode cX12_isPlain 10 = .ok (.iadd, 1) := dk_96 (dw rcX12_isPlain_0 7 rfl)
theorem dX12_isPlain_11 : decode cX12_isPlain 11 = .ok (.if_icmp .ge 31, 3) := dk_162 (dw rcX12_isPlain_0 8 rfl) rfl
theorem dX12_isPlain_14 : decode cX12_isPlain 14 = .ok (.iload 4, 2) := dk_21 (dw rcX12_isPlain_0 9 rfl)
theorem dX12_isPlain_16 : decode cX12_isPlain 16 = .ok (.ifCond .eq 17, 3) := dk_153 (dw rcX12_isPlain_0 10 rfl) rfl
theorem dX12_isPlain_19 : decode cX12_isPlain 19 = .ok (.iload 5, 2) := dk_21 (dw rcX12_isPlain_0 11 rfl)
theorem dX12_isPlain_21 : decode cX12_isPlain 21 = .ok (.iload_n 0, 1) := dk_26 (dw rcX12_isPlain_0 12 rfl)
theorem dX12_isPlain_22 : decode cX12_isPlain 22 = .ok (.iload_n 1, 1) := dk_27 (dw rcX12_isPlain_0 13 rfl)
theorem dX12_isPlain_23 : decode cX12_isPlain 23 = .ok (.iadd, 1) := dk_96 (dw rcX12_isPlain_0 14 rfl)
theorem dX12_isPlain_24 : decode cX12_isPlain 24 = .ok (.irem, 1) := dk_112 (dw rcX12_isPlain_0 15 rfl)
theorem dX12_isPlain_25 : decode cX12_isPlain 25 = .ok (.iload_n 0, 1) := dk_26 (dw rcX12_isPlain_0 16 rfl)
theorem dX12_isPlain_26 : decode cX12_isPlain 26 = .ok (.if_icmp .ge 7, 3) := dk_162 (dw rcX12_isPlain_0 17 rfl) rfl
theorem dX12_isPlain_29 : decode cX12_isPlain 29 = .ok (.iconst 1, 1) := dk_4 (dw rcX12_isPlain_0 18 rfl)
theorem dX12_isPlain_30 : decode cX12_isPlain 30 = .ok (.goto 4, 3) := dk_167 (dw rcX12_isPlain_0 19 rfl) rfl
theorem dX12_isPlain_33 : decode cX12_isPlain 33 = .ok (.iconst 0, 1) := dk_3 (dw rcX12_isPlain_0 20 rfl)
theorem dX12_isPlain_34 : decode cX12_isPlain 34 = .ok (.istore 4, 2) := dk_54 (dw rcX12_isPlain_0 21 rfl)
theorem dX12_isPlain_36 : decode cX12_isPlain 36 = .ok (.iinc 5 1, 3) := dk_132 (dw rcX12_isPlain_0 22 rfl) rfl
theorem dX12_isPlain_39 : decode cX12_isPlain 39 = .ok (.goto (-33), 3) := dk_167 (dw rcX12_isPlain_0 23 rfl) rfl
noncomputable def rbX12_isPlain_42 : List (Nat × List Nat) := [(42, [21, 4]), (44, [172])]
theorem rcX12_isPlain_42 : dgo (lb cX12_isPlain) 0 rbX12_isPlain_42 = true := by decide +kernel
theorem dX12_isPlain_42 : decode cX12_isPlain 42 = .ok (.iload 4, 2) := dk_21 (dw rcX12_isPlain_42 0 rfl)
theorem dX12_isPlain_44 : decode cX12_isPlain 44 = .ok (.ireturn, 1) := dk_172 (dw rcX12_isPlain_42 1 rfl)
noncomputable def rbX12_suits_0 : List (Nat × List Nat) := [(0, [27]), (1, [28]), (2, [21, 5]), (4, [184, 2, 24]), (7, [153, 0, 14]), (10, [29]), (11, [21, 4]), (13, [21, 5]), (15, [184, 2, 24]), (18, [154, 0, 7]), (21, [20, 2, 5]), (24, [173]), (25, [9]), (26, [55, 6]), (28, [4]), (29, [54, 8]), (31, [21, 8]), (33, [16, 60]), (35, [163, 0, 45]), (38, [27]), (39, [28]), (40, [21, 5]), (42, [21, 8]), (44, [184, 2, 31])]
theorem rcX12_suits_0 : dgo (lb cX12_suits) 0 rbX12_suits_0 = true := by decide +kernel
theorem dX12_suits_0 : decode cX12_suits 0 = .ok (.iload_n 1, 1) := dk_27 (dw rcX12_suits_0 0 rfl)
theorem dX12_suits_1 : decode cX12_suits 1 = .ok (.iload_n 2, 1) := dk_28 (dw rcX12_suits_0 1 rfl)
theorem dX12_suits_2 : decode cX12_suits 2 = .ok (.iload 5, 2) := dk_21 (dw rcX12_suits_0 2 rfl)
theorem dX12_suits_4 : decode cX12_suits 4 = .ok (.invokestatic 536, 3) := dk_184 (dw rcX12_suits_0 3 rfl) rfl
theorem dX12_suits_7 : decode cX12_suits 7 = .ok (.ifCond .eq 14, 3) := dk_153 (dw rcX12_suits_0 4 rfl) rfl
theorem dX12_suits_10 : decode cX12_suits 10 = .ok (.iload_n 3, 1) := dk_29 (dw rcX12_suits_0 5 rfl)
theorem dX12_suits_11 : decode cX12_suits 11 = .ok (.iload 4, 2) := dk_21 (dw rcX12_suits_0 6 rfl)
theorem dX12_suits_13 : decode cX12_suits 13 = .ok (.iload 5, 2) := dk_21 (dw rcX12_suits_0 7 rfl)
theorem dX12_suits_15 : decode cX12_suits 15 = .ok (.invokestatic 536, 3) := dk_184 (dw rcX12_suits_0 8 rfl) rfl
theorem dX12_suits_18 : decode cX12_suits 18 = .ok (.ifCond .ne 7, 3) := dk_154 (dw rcX12_suits_0 9 rfl) rfl
theorem dX12_suits_21 : decode cX12_suits 21 = .ok (.ldc2_w 517, 3) := dk_20 (dw rcX12_suits_0 10 rfl) rfl
theorem dX12_suits_24 : decode cX12_suits 24 = .ok (.lreturn, 1) := dk_173 (dw rcX12_suits_0 11 rfl)
theorem dX12_suits_25 : decode cX12_suits 25 = .ok (.lconst 0, 1) := dk_9 (dw rcX12_suits_0 12 rfl)
theorem dX12_suits_26 : decode cX12_suits 26 = .ok (.lstore 6, 2) := dk_55 (dw rcX12_suits_0 13 rfl)
theorem dX12_suits_28 : decode cX12_suits 28 = .ok (.iconst 1, 1) := dk_4 (dw rcX12_suits_0 14 rfl)
theorem dX12_suits_29 : decode cX12_suits 29 = .ok (.istore 8, 2) := dk_54 (dw rcX12_suits_0 15 rfl)
theorem dX12_suits_31 : decode cX12_suits 31 = .ok (.iload 8, 2) := dk_21 (dw rcX12_suits_0 16 rfl)
theorem dX12_suits_33 : decode cX12_suits 33 = .ok (.bipush 60, 2) := dk_16 (dw rcX12_suits_0 17 rfl) rfl
theorem dX12_suits_35 : decode cX12_suits 35 = .ok (.if_icmp .gt 45, 3) := dk_163 (dw rcX12_suits_0 18 rfl) rfl
theorem dX12_suits_38 : decode cX12_suits 38 = .ok (.iload_n 1, 1) := dk_27 (dw rcX12_suits_0 19 rfl)
theorem dX12_suits_39 : decode cX12_suits 39 = .ok (.iload_n 2, 1) := dk_28 (dw rcX12_suits_0 20 rfl)
theorem dX12_suits_40 : decode cX12_suits 40 = .ok (.iload 5, 2) := dk_21 (dw rcX12_suits_0 21 rfl)
theorem dX12_suits_42 : decode cX12_suits 42 = .ok (.iload 8, 2) := dk_21 (dw rcX12_suits_0 22 rfl)
theorem dX12_suits_44 : decode cX12_suits 44 = .ok (.invokestatic 543, 3) := dk_184 (dw rcX12_suits_0 23 rfl) rfl
noncomputable def rbX12_suits_47 : List (Nat × List Nat) := [(47, [158, 0, 27]), (50, [29]), (51, [21, 4]), (53, [21, 5]), (55, [21, 8]), (57, [184, 2, 31]), (60, [158, 0, 14]), (63, [22, 6]), (65, [10]), (66, [21, 8]), (68, [4]), (69, [100]), (70, [121]), (71, [129]), (72, [55, 6]), (74, [132, 8, 1]), (77, [167, 255, 210]), (80, [22, 6]), (82, [173])]
theorem rcX12_suits_47 : dgo (lb cX12_suits) 0 rbX12_suits_47 = true := by decide +kernel
theorem dX12_suits_47 : decode cX12_suits 47 = .ok (.ifCond .le 27, 3) := dk_158 (dw rcX12_suits_47 0 rfl) rfl
theorem dX12_suits_50 : decode cX12_suits 50 = .ok (.iload_n 3, 1) := dk_29 (dw rcX12_suits_47 1 rfl)
theorem dX12_suits_51 : decode cX12_suits 51 = .ok (.iload 4, 2) := dk_21 (dw rcX12_suits_47 2 rfl)
theorem dX12_suits_53 : decode cX12_suits 53 = .ok (.iload 5, 2) := dk_21 (dw rcX12_suits_47 3 rfl)
theorem dX12_suits_55 : decode cX12_suits 55 = .ok (.iload 8, 2) := dk_21 (dw rcX12_suits_47 4 rfl)
theorem dX12_suits_57 : decode cX12_suits 57 = .ok (.invokestatic 543, 3) := dk_184 (dw rcX12_suits_47 5 rfl) rfl
theorem dX12_suits_60 : decode cX12_suits 60 = .ok (.ifCond .le 14, 3) := dk_158 (dw rcX12_suits_47 6 rfl) rfl
theorem dX12_suits_63 : decode cX12_suits 63 = .ok (.lload 6, 2) := dk_22 (dw rcX12_suits_47 7 rfl)
theorem dX12_suits_65 : decode cX12_suits 65 = .ok (.lconst 1, 1) := dk_10 (dw rcX12_suits_47 8 rfl)
theorem dX12_suits_66 : decode cX12_suits 66 = .ok (.iload 8, 2) := dk_21 (dw rcX12_suits_47 9 rfl)
theorem dX12_suits_68 : decode cX12_suits 68 = .ok (.iconst 1, 1) := dk_4 (dw rcX12_suits_47 10 rfl)
theorem dX12_suits_69 : decode cX12_suits 69 = .ok (.isub, 1) := dk_100 (dw rcX12_suits_47 11 rfl)
theorem dX12_suits_70 : decode cX12_suits 70 = .ok (.lshl, 1) := dk_121 (dw rcX12_suits_47 12 rfl)
theorem dX12_suits_71 : decode cX12_suits 71 = .ok (.lor, 1) := dk_129 (dw rcX12_suits_47 13 rfl)
theorem dX12_suits_72 : decode cX12_suits 72 = .ok (.lstore 6, 2) := dk_55 (dw rcX12_suits_47 14 rfl)
theorem dX12_suits_74 : decode cX12_suits 74 = .ok (.iinc 8 1, 3) := dk_132 (dw rcX12_suits_47 15 rfl) rfl
theorem dX12_suits_77 : decode cX12_suits 77 = .ok (.goto (-46), 3) := dk_167 (dw rcX12_suits_47 16 rfl) rfl
theorem dX12_suits_80 : decode cX12_suits 80 = .ok (.lload 6, 2) := dk_22 (dw rcX12_suits_47 17 rfl)
theorem dX12_suits_82 : decode cX12_suits 82 = .ok (.lreturn, 1) := dk_173 (dw rcX12_suits_47 18 rfl)
set_option maxHeartbeats 4000000 in
set_option maxRecDepth 100000 in
theorem n_areSlabs (l : Launch) (D : va_G) (k : KT) (A : Nat → Prop) (a : Nat → Nat) (z : SK) (G : GS) (p0 : Int32) (p1 : Int32) (p2 : Int32)  : Met l yX12_areSlabs (WS yX12_areSlabs cX12_areSlabs 3 (some .boolean)) ({ frames := 1, cells := 0, slots := 0, locals := 22 }) (va_Pc [.int p0, .int p1, .int p2] (cW D k A a z G)) (va_Qi (fun (r : Int32) (G1 : GS) => Q_areSlabs p0 p1 p2 G r G1) (fun (G1 : GS) t => Wd D k A a G1 t.heap) A) 0 0 A := by
  refine Met.ofW (cc := cX12_areSlabs) (maxL := 3) (ret := (some .boolean)) (by decide) rfl ?_
  intro p e s m args below meth c s₁ B hml hv
  obtain ⟨rfl, hW, hB_G, hK, hZ⟩ := hv
  have hx := B.exec
  have hb := B.bytes
  have hr := B.returns
  have hts := atoms_spec (ws := WS yX12_areSlabs cX12_areSlabs 3 (some .boolean)) B.pre
  have hgd : ∀ w ∈ gd, w ∈ WS yX12_areSlabs cX12_areSlabs 3 (some .boolean) := fun w h => List.mem_cons_of_mem _ h
  have hg : ∀ w ∈ gd, w.before _ s = true := fun w h => hts w (hgd w h)
  have hown : s.vm.findClass RX12 = some m.cls := findClass_of_methodNamed B.named
  have hS : va_S A s.heap s.heap [] := va_S.rf
  have hF : Fr [] [] G G := Fr.rf
  have hl := lv_entry ([.int p0, .int p1, .int p2]) (n := 3) (Nat.le_of_ble_eq_true rfl)
  rw [lg_entry_eq]
  generalize (lg_sl ([.int p0, .int p1, .int p2]) ++ List.replicate (3 - (lg_sl ([.int p0, .int p1, .int p2])).length) Slot.unset).toArray = ls at hl ⊢
  have hl : lv_has ls 3 [(0, .int p0), (1, .int p1), (2, .int p2)] := hl
  refine lv_iload_n hx hb dX12_areSlabs_0 rfl (lv_at hl 0 rfl) ?_
  refine ic_1 hx hb dX12_areSlabs_1 ?_
  refine lv_bipush (v := 60) hx hb dX12_areSlabs_2 (by decide) ?_
  have qc_1 : (1 : Int32).toInt = 1 := rfl
  have qc_2 : (60 : Int32).toInt = 60 := rfl
  refine S_calli (va_runS (As := [.int p0, .int 1, .int 60]) (rest := []) ⟨hx, hb, hml, hown, hts⟩ (n_isIn l D k A a z G p0 1 60 ) (va_cwS 3 hts (gd_S hgd m1781 m1782 m131 m1783) rfl rfl rfl hd_X12_isIn.2 ⟨Nat.le_of_ble_eq_true rfl, Nat.le_of_ble_eq_true rfl⟩) (pre_S hW hB_G hK hZ hS) rfl rfl hl.1 rfl (lv_room (Nat.le_of_ble_eq_true rfl)) dX12_areSlabs_4 ⟨Nat.le_of_ble_eq_true rfl, Nat.le_of_ble_eq_true rfl⟩) hS (fun r_3 G_4 H locs hpo hW hS => ?_)
  have hX_7 : Q_isIn p0 1 60 G r_3 G_4 := hpo
  obtain ⟨hB_G_4, hq_5, f_8, ⟨d_1, d_2⟩, -⟩ := hpo
  have hF := hF.call9 hq_5 rfl rfl
  refine lv_if_eq (tgt := 34) hx hb dX12_areSlabs_7 rfl (fun c_9 => ?_) (fun c_9 => ?_)
  · have c_9 : r_3.toInt = 0 := xI_eq rfl rfl c_9
    refine ic_0 hx hb dX12_areSlabs_34 ?_
    exact W.zret (v := 0) hx hb hr (by decide) (fun t ht _ => ⟨⟨0, G_4, rfl, (Q_areSlabs_mk ⟨hB_G_4, hF, ⟨by decide, by decide⟩, (by have hq : (0 : Int32).toInt = 0 := rfl; (try dsimp only); omega), ⟨r_3, G_4, hX_7, (Or.inl ⟨c_9, ⟨rfl, rfl⟩⟩)⟩⟩), wd_t ht hW⟩, hS.F ht⟩) hS.2.2 dX12_areSlabs_35
  · have c_9 : r_3.toInt ≠ 0 := xI_ne rfl rfl c_9
    refine lv_iload_n hx hb dX12_areSlabs_10 rfl (lv_at hl 1 rfl) ?_
    refine ic_0 hx hb dX12_areSlabs_11 ?_
    refine lv_bipush (v := 9) hx hb dX12_areSlabs_12 (by decide) ?_
    have qc_10 : (0 : Int32).toInt = 0 := rfl
    have qc_11 : (9 : Int32).toInt = 9 := rfl
    refine S_calli (va_runS (As := [.int p1, .int 0, .int 9]) (rest := []) ⟨hx, hb, hml, hown, hts⟩ (n_isIn l D k A a z G_4 p1 0 9 ) (va_cwS 3 hts (gd_S hgd m1781 m1782 m131 m1783) rfl rfl rfl hd_X12_isIn.2 ⟨Nat.le_of_ble_eq_true rfl, Nat.le_of_ble_eq_true rfl⟩) (pre_S hW hB_G_4 hK hZ hS) rfl rfl hl.1 rfl (lv_room (Nat.le_of_ble_eq_true rfl)) dX12_areSlabs_14 ⟨Nat.le_of_ble_eq_true rfl, Nat.le_of_ble_eq_true rfl⟩) hS (fun r_12 G_13 H locs hpo hW hS => ?_)
    have hX_16 : Q_isIn p1 0 9 G_4 r_12 G_13 := hpo
    obtain ⟨hB_G_13, hq_14, f_17, ⟨d_3, d_4⟩, -⟩ := hpo
    have hF := hF.call9 hq_14 rfl rfl
    refine lv_if_eq (tgt := 34) hx hb dX12_areSlabs_17 rfl (fun c_18 => ?_) (fun c_18 => ?_)
    · have c_18 : r_12.toInt = 0 := xI_eq rfl rfl c_18
      refine ic_0 hx hb dX12_areSlabs_34 ?_
      exact W.zret (v := 0) hx hb hr (by decide) (fun t ht _ => ⟨⟨0, G_13, rfl, (Q_areSlabs_mk ⟨hB_G_13, hF, ⟨by decide, by decide⟩, (by have hq : (0 : Int32).toInt = 0 := rfl; (try dsimp only); omega), ⟨r_3, G_4, hX_7, (Or.inr ⟨c_9, ⟨r_12, G_13, hX_16, (Or.inl ⟨c_18, ⟨rfl, rfl⟩⟩)⟩⟩)⟩⟩), wd_t ht hW⟩, hS.F ht⟩) hS.2.2 dX12_areSlabs_35
    · have c_18 : r_12.toInt ≠ 0 := xI_ne rfl rfl c_18
      refine lv_iload_n hx hb dX12_areSlabs_20 rfl (lv_at hl 2 rfl) ?_
      refine ic_1 hx hb dX12_areSlabs_21 ?_
      refine lv_bipush (v := 12) hx hb dX12_areSlabs_22 (by decide) ?_
      have qc_19 : (1 : Int32).toInt = 1 := rfl
      have qc_20 : (12 : Int32).toInt = 12 := rfl
      refine S_calli (va_runS (As := [.int p2, .int 1, .int 12]) (rest := []) ⟨hx, hb, hml, hown, hts⟩ (n_isIn l D k A a z G_13 p2 1 12 ) (va_cwS 3 hts (gd_S hgd m1781 m1782 m131 m1783) rfl rfl rfl hd_X12_isIn.2 ⟨Nat.le_of_ble_eq_true rfl, Nat.le_of_ble_eq_true rfl⟩) (pre_S hW hB_G_13 hK hZ hS) rfl rfl hl.1 rfl (lv_room (Nat.le_of_ble_eq_true rfl)) dX12_areSlabs_24 ⟨Nat.le_of_ble_eq_true rfl, Nat.le_of_ble_eq_true rfl⟩) hS (fun r_21 G_22 H locs hpo hW hS => ?_)
      have hX_25 : Q_isIn p2 1 12 G_13 r_21 G_22 := hpo
      obtain ⟨hB_G_22, hq_23, f_26, ⟨d_5, d_6⟩, -⟩ := hpo
      have hF := hF.call9 hq_23 rfl rfl
      refine lv_if_eq (tgt := 34) hx hb dX12_areSlabs_27 rfl (fun c_27 => ?_) (fun c_27 => ?_)
      · have c_27 : r_21.toInt = 0 := xI_eq rfl rfl c_27
        refine ic_0 hx hb dX12_areSlabs_34 ?_
        exact W.zret (v := 0) hx hb hr (by decide) (fun t ht _ => ⟨⟨0, G_22, rfl, (Q_areSlabs_mk ⟨hB_G_22, hF, ⟨by decide, by decide⟩, (by have hq : (0 : Int32).toInt = 0 := rfl; (try dsimp only); omega), ⟨r_3, G_4, hX_7, (Or.inr ⟨c_9, ⟨r_12, G_13, hX_16, (Or.inr ⟨c_18, ⟨r_21, G_22, hX_25, (Or.inl ⟨c_27, ⟨rfl, rfl⟩⟩)⟩⟩)⟩⟩)⟩⟩), wd_t ht hW⟩, hS.F ht⟩) hS.2.2 dX12_areSlabs_35
      · have c_27 : r_21.toInt ≠ 0 := xI_ne rfl rfl c_27
        refine ic_1 hx hb dX12_areSlabs_30 ?_
        refine lv_goto (tgt := 35) hx hb dX12_areSlabs_31 rfl ?_
        exact W.zret (v := 1) hx hb hr (by decide) (fun t ht _ => ⟨⟨1, G_22, rfl, (Q_areSlabs_mk ⟨hB_G_22, hF, ⟨by decide, by decide⟩, (by have hq : (1 : Int32).toInt = 1 := rfl; (try dsimp only); omega), ⟨r_3, G_4, hX_7, (Or.inr ⟨c_9, ⟨r_12, G_13, hX_16, (Or.inr ⟨c_18, ⟨r_21, G_22, hX_25, (Or.inr ⟨c_27, ⟨rfl, rfl⟩⟩)⟩⟩)⟩⟩)⟩⟩), wd_t ht hW⟩, hS.F ht⟩) hS.2.2 dX12_areSlabs_35

set_option maxHeartbeats 4000000 in
set_option maxRecDepth 100000 in
theorem n_isPlain (l : Launch) (D : va_G) (k : KT) (A : Nat → Prop) (a : Nat → Nat) (z : SK) (G : GS) (p0 : Int32) (p1 : Int32) (p2 : Int32) (p3 : Int32) (ha_p0 : 1 ≤ p0.toInt ∧ p0.toInt ≤ 60) (ha_p1 : 0 ≤ p1.toInt ∧ p1.toInt ≤ 9) (ha_p2 : 1 ≤ p2.toInt ∧ p2.toInt ≤ 12) (ha_p3 : 0 ≤ p3.toInt ∧ p3.toInt ≤ 200) : Met l yX12_isPlain (WS yX12_isPlain cX12_isPlain 6 (some .boolean)) ({ frames := 0, cells := 0, slots := 0, locals := 0 }) (va_Pc [.int p0, .int p1, .int p2, .int p3] (cW D k A a z G)) (va_Qi (fun (r : Int32) (G1 : GS) => Q_isPlain p0 p1 p2 p3 G r G1) (fun (G1 : GS) t => Wd D k A a G1 t.heap) A) 0 0 A := by
  refine Met.ofW (cc := cX12_isPlain) (maxL := 6) (ret := (some .boolean)) (by decide) rfl ?_
  intro p e s m args below meth c s₁ B hml hv
  obtain ⟨rfl, hW, hB_G, hK, hZ⟩ := hv
  have hx := B.exec
  have hb := B.bytes
  have hr := B.returns
  have hts := atoms_spec (ws := WS yX12_isPlain cX12_isPlain 6 (some .boolean)) B.pre
  have hgd : ∀ w ∈ gd, w ∈ WS yX12_isPlain cX12_isPlain 6 (some .boolean) := fun w h => List.mem_cons_of_mem _ h
  have hg : ∀ w ∈ gd, w.before _ s = true := fun w h => hts w (hgd w h)
  have hown : s.vm.findClass RX12 = some m.cls := findClass_of_methodNamed B.named
  have hS : va_S A s.heap s.heap [] := va_S.rf
  have hF : Fr [] [] G G := Fr.rf
  have hl := lv_entry ([.int p0, .int p1, .int p2, .int p3]) (n := 6) (Nat.le_of_ble_eq_true rfl)
  rw [lg_entry_eq]
  generalize (lg_sl ([.int p0, .int p1, .int p2, .int p3]) ++ List.replicate (6 - (lg_sl ([.int p0, .int p1, .int p2, .int p3])).length) Slot.unset).toArray = ls at hl ⊢
  have hl : lv_has ls 6 [(0, .int p0), (1, .int p1), (2, .int p2), (3, .int p3)] := hl
  refine ic_1 hx hb dX12_isPlain_0 ?_
  refine lv_istore (lv' := [(4, .int 1), (0, .int p0), (1, .int p1), (2, .int p2), (3, .int p3)]) hx hb dX12_isPlain_1 hl (lt_b rfl) rfl (fun ls hl => ?_)
  refine lv_iload_n hx hb dX12_isPlain_3 rfl (lv_at hl 4 rfl) ?_
  refine lv_istore (lv' := [(5, .int p3), (4, .int 1), (0, .int p0), (1, .int p1), (2, .int p2), (3, .int p3)]) hx hb dX12_isPlain_4 hl (lt_b rfl) rfl (fun ls hl => ?_)
  have qc_8 : (1 : Int32).toInt = 1 := rfl
  refine loop_N (Inv := fun n H locs ls => ∃ (G_1 : GS) (x_5 : Int32) (x_6 : Int32), (n : Int) = 212 - x_5.toInt ∧ (0 ≤ x_5.toInt ∧ x_5.toInt ≤ 212) ∧ (0 ≤ x_6.toInt ∧ x_6.toInt ≤ 1) ∧ Rc (St_n_isPlain_1 p0 p1 p2 p3) (p3, 1, G) (x_5, x_6, G_1) ∧ Wd D k A a G_1 H ∧ Bd G_1 ∧ Fr [] [] G G_1 ∧ Fr [] [] G G_1 ∧ va_S A s.heap H locs ∧ lv_has ls 6 [(5, .int x_5), (4, .int x_6), (0, .int p0), (1, .int p1), (2, .int p2), (3, .int p3)]) (fun n_4 H locs ls ih_3 hI => ?_) (212 - p3.toInt : Int).toNat ⟨G, p3, 1, (Int.toNat_of_nonneg ((by first | exact ok_711 ha_p3.2 | omega))), ⟨(by first | exact ha_p3.1 | omega), (by first | exact ok_712 ha_p3.2 | omega)⟩, ⟨(by decide), (by decide)⟩, Rc.rf, hW, hB_G, hF, Fr.rf, hS, lv_sub hl [0, 1, 2, 3, 4, 5] rfl⟩
  obtain ⟨G_1, x_5, x_6, hn_11, f_9, f_10, hX_7, hW, hB_G_1, hF, hq_2, hS, hl⟩ := hI
  refine lv_iload hx hb dX12_isPlain_6 (lv_at hl 0 rfl) ?_
  refine lv_iload_n hx hb dX12_isPlain_8 rfl (lv_at hl 5 rfl) ?_
  refine lv_iload_n hx hb dX12_isPlain_9 rfl (lv_at hl 4 rfl) ?_
  refine lv_iadd hx hb dX12_isPlain_10 ?_
  refine lv_topi (fun y_12 ey_12 => ?_)
  have ty_12 : y_12.toInt = p3.toInt + p2.toInt := xI_add rfl rfl ey_12 ((by first | exact ok_542 ha_p2.1 ha_p3.1 | omega)) ((by first | exact ok_713 ha_p2.2 ha_p3.2 | omega))
  refine lv_icmp_ge (tgt := 42) hx hb dX12_isPlain_11 rfl (fun c_13 => ?_) (fun c_13 => ?_)
  · have c_13 : y_12.toInt ≤ x_5.toInt := xI_le rfl rfl c_13
    refine lv_iload hx hb dX12_isPlain_42 (lv_at hl 1 rfl) ?_
    exact W.zret (v := x_6) hx hb hr (nar_z ((by first | exact f_10.1 | omega)) ((by first | exact f_10.2 | omega))) (fun t ht _ => ⟨⟨x_6, G_1, rfl, (Q_isPlain_mk ⟨hB_G_1, hF, ⟨(by first | exact f_10.1 | omega), (by first | exact f_10.2 | omega)⟩, ⟨x_5, x_6, G_1, hX_7, f_9, f_10, hB_G_1, hq_2, ⟨y_12, ty_12, ⟨c_13, ⟨rfl, rfl⟩⟩⟩⟩⟩), wd_t ht hW⟩, hS.F ht⟩) hS.2.2 dX12_isPlain_44
  · have c_13 : x_5.toInt < y_12.toInt := xI_nle rfl rfl c_13
    refine lv_iload hx hb dX12_isPlain_14 (lv_at hl 1 rfl) ?_
    refine lv_if_eq (tgt := 33) hx hb dX12_isPlain_16 rfl (fun c_14 => ?_) (fun c_14 => ?_)
    · have c_14 : x_6.toInt = 0 := xI_eq rfl rfl c_14
      refine ic_0 hx hb dX12_isPlain_33 ?_
      refine lv_istore (lv' := [(4, .int 0), (5, .int x_5), (0, .int p0), (1, .int p1), (2, .int p2), (3, .int p3)]) hx hb dX12_isPlain_34 hl (lt_b rfl) rfl (fun ls hl => ?_)
      obtain ⟨y_15, ey_15⟩ : ∃ q, q = x_5 + 1 := ⟨_, rfl⟩
      have ty_15 : y_15.toInt = x_5.toInt + 1 := xI_add rfl rfl ey_15 ((by first | exact ok_21 f_9.1 | omega)) ((by first | exact ok_714 f_9.2 | omega))
      refine lv_iinc (v := y_15) (lv' := [(5, .int y_15), (4, .int 0), (0, .int p0), (1, .int p1), (2, .int p2), (3, .int p3)]) hx hb dX12_isPlain_36 hl (k := 1) rfl (by rw [ey_15]; rfl) (lt_b rfl) rfl (fun ls hl => ?_)
      refine lv_goto (tgt := 6) hx hb dX12_isPlain_39 rfl ?_
      have qc_16 : (0 : Int32).toInt = 0 := rfl
      exact ih_3 (212 - y_15.toInt : Int).toNat ((by first | (clear ha_p0 ha_p1 f_10 c_14; omega) | omega)) _ _ _ ⟨G_1, y_15, 0, (Int.toNat_of_nonneg ((by first | exact ok_715 ha_p2.2 ha_p3.2 f_9.2 ty_12 c_13 ty_15 | omega))), ⟨(by first | exact ok_23 f_9.1 ty_15 | omega), (by first | exact ok_716 ha_p2.2 ha_p3.2 f_9.2 ty_12 c_13 ty_15 | omega)⟩, ⟨(by decide), (by decide)⟩, (hX_7.st (St_n_isPlain_1_mk ⟨x_5, x_6, G_1, y_15, 0, G_1, rfl, rfl, f_9, f_10, hB_G_1, ⟨y_12, ty_12, ⟨c_13, (Or.inl ⟨c_14, ⟨y_15, ty_15, ⟨rfl, rfl, rfl⟩⟩⟩)⟩⟩⟩)), hW, hB_G_1, hF, (Fr.call9 (rs := []) (fs := []) Fr.rf hq_2 rfl rfl), hS, lv_sub hl [0, 1, 2, 3, 4, 5] rfl⟩
    · have c_14 : x_6.toInt ≠ 0 := xI_ne rfl rfl c_14
      refine lv_iload hx hb dX12_isPlain_19 (lv_at hl 0 rfl) ?_
      refine lv_iload_n hx hb dX12_isPlain_21 rfl (lv_at hl 2 rfl) ?_
      refine lv_iload_n hx hb dX12_isPlain_22 rfl (lv_at hl 3 rfl) ?_
      refine lv_iadd hx hb dX12_isPlain_23 ?_
      refine lv_topi (fun y_17 ey_17 => ?_)
      have ty_17 : y_17.toInt = p0.toInt + p1.toInt := xI_add rfl rfl ey_17 ((by first | exact ok_479 ha_p0.1 ha_p1.1 | omega)) ((by first | exact ok_480 ha_p0.2 ha_p1.2 | omega))
      refine lv_irem hx hb dX12_isPlain_24 (fun q => by have q := xI_eq (Y := 0) rfl rfl q; omega) ?_
      refine lv_topi (fun y_18 ey_18 => ?_)
      have ty_18 : 0 ≤ y_18.toInt ∧ y_18.toInt < y_17.toInt := xI_modB ey_18 (by first | (clear ha_p2 ha_p3 hn_11 f_9 f_10 ty_12 c_13 c_14; omega) | omega) (by first | (clear ha_p2 ha_p3 hn_11 f_9 f_10 ty_12 c_13 c_14; omega) | omega)
      refine lv_iload_n hx hb dX12_isPlain_25 rfl (lv_at hl 2 rfl) ?_
      refine lv_icmp_ge (tgt := 33) hx hb dX12_isPlain_26 rfl (fun c_19 => ?_) (fun c_19 => ?_)
      · have c_19 : p0.toInt ≤ y_18.toInt := xI_le rfl rfl c_19
        refine ic_0 hx hb dX12_isPlain_33 ?_
        refine lv_istore (lv' := [(4, .int 0), (5, .int x_5), (0, .int p0), (1, .int p1), (2, .int p2), (3, .int p3)]) hx hb dX12_isPlain_34 hl (lt_b rfl) rfl (fun ls hl => ?_)
        obtain ⟨y_20, ey_20⟩ : ∃ q, q = x_5 + 1 := ⟨_, rfl⟩
        have ty_20 : y_20.toInt = x_5.toInt + 1 := xI_add rfl rfl ey_20 ((by first | exact ok_21 f_9.1 | omega)) ((by first | exact ok_714 f_9.2 | omega))
        refine lv_iinc (v := y_20) (lv' := [(5, .int y_20), (4, .int 0), (0, .int p0), (1, .int p1), (2, .int p2), (3, .int p3)]) hx hb dX12_isPlain_36 hl (k := 1) rfl (by rw [ey_20]; rfl) (lt_b rfl) rfl (fun ls hl => ?_)
        refine lv_goto (tgt := 6) hx hb dX12_isPlain_39 rfl ?_
        have qc_21 : (0 : Int32).toInt = 0 := rfl
        exact ih_3 (212 - y_20.toInt : Int).toNat ((by first | (clear ha_p0 ha_p1 f_10 c_14 ty_17 ty_18 c_19; omega) | omega)) _ _ _ ⟨G_1, y_20, 0, (Int.toNat_of_nonneg ((by first | exact ok_715 ha_p2.2 ha_p3.2 f_9.2 ty_12 c_13 ty_20 | omega))), ⟨(by first | exact ok_23 f_9.1 ty_20 | omega), (by first | exact ok_716 ha_p2.2 ha_p3.2 f_9.2 ty_12 c_13 ty_20 | omega)⟩, ⟨(by decide), (by decide)⟩, (hX_7.st (St_n_isPlain_1_mk ⟨x_5, x_6, G_1, y_20, 0, G_1, rfl, rfl, f_9, f_10, hB_G_1, ⟨y_12, ty_12, ⟨c_13, (Or.inr ⟨c_14, ⟨y_17, ty_17, ⟨y_18, ey_18, (Or.inl ⟨c_19, ⟨y_20, ty_20, ⟨rfl, rfl, rfl⟩⟩⟩)⟩⟩⟩)⟩⟩⟩)), hW, hB_G_1, hF, (Fr.call9 (rs := []) (fs := []) Fr.rf hq_2 rfl rfl), hS, lv_sub hl [0, 1, 2, 3, 4, 5] rfl⟩
      · have c_19 : y_18.toInt < p0.toInt := xI_nle rfl rfl c_19
        refine ic_1 hx hb dX12_isPlain_29 ?_
        refine lv_goto (tgt := 34) hx hb dX12_isPlain_30 rfl ?_
        refine lv_istore (lv' := [(4, .int 1), (5, .int x_5), (0, .int p0), (1, .int p1), (2, .int p2), (3, .int p3)]) hx hb dX12_isPlain_34 hl (lt_b rfl) rfl (fun ls hl => ?_)
        obtain ⟨y_22, ey_22⟩ : ∃ q, q = x_5 + 1 := ⟨_, rfl⟩
        have ty_22 : y_22.toInt = x_5.toInt + 1 := xI_add rfl rfl ey_22 ((by first | exact ok_21 f_9.1 | omega)) ((by first | exact ok_714 f_9.2 | omega))
        refine lv_iinc (v := y_22) (lv' := [(5, .int y_22), (4, .int 1), (0, .int p0), (1, .int p1), (2, .int p2), (3, .int p3)]) hx hb dX12_isPlain_36 hl (k := 1) rfl (by rw [ey_22]; rfl) (lt_b rfl) rfl (fun ls hl => ?_)
        refine lv_goto (tgt := 6) hx hb dX12_isPlain_39 rfl ?_
        have qc_23 : (1 : Int32).toInt = 1 := rfl
        exact ih_3 (212 - y_22.toInt : Int).toNat ((by first | (clear ha_p0 ha_p1 f_10 c_14 ty_17 ty_18 c_19; omega) | omega)) _ _ _ ⟨G_1, y_22, 1, (Int.toNat_of_nonneg ((by first | exact ok_715 ha_p2.2 ha_p3.2 f_9.2 ty_12 c_13 ty_22 | omega))), ⟨(by first | exact ok_23 f_9.1 ty_22 | omega), (by first | exact ok_716 ha_p2.2 ha_p3.2 f_9.2 ty_12 c_13 ty_22 | omega)⟩, ⟨(by decide), (by decide)⟩, (hX_7.st (St_n_isPlain_1_mk ⟨x_5, x_6, G_1, y_22, 1, G_1, rfl, rfl, f_9, f_10, hB_G_1, ⟨y_12, ty_12, ⟨c_13, (Or.inr ⟨c_14, ⟨y_17, ty_17, ⟨y_18, ey_18, (Or.inr ⟨c_19, ⟨y_22, ty_22, ⟨rfl, rfl, rfl⟩⟩⟩)⟩⟩⟩)⟩⟩⟩)), hW, hB_G_1, hF, (Fr.call9 (rs := []) (fs := []) Fr.rf hq_2 rfl rfl), hS, lv_sub hl [0, 1, 2, 3, 4, 5] rfl⟩

set_option maxHeartbeats 4000000 in
set_option maxRecDepth 100000 in
theorem n_firstOf (l : Launch) (D : va_G) (k : KT) (A : Nat → Prop) (a : Nat → Nat) (z : SK) (G : GS) (p0 : Int32) (p1 : Int32) (p2 : Int32) (p3 : Int32) (p4 : Int32) (ha_p0 : 1 ≤ p0.toInt ∧ p0.toInt ≤ 60) (ha_p1 : 0 ≤ p1.toInt ∧ p1.toInt ≤ 9) (ha_p2 : 1 ≤ p2.toInt ∧ p2.toInt ≤ 12) (ha_p3 : 1 ≤ p3.toInt ∧ p3.toInt ≤ 99) (ha_p4 : 0 ≤ p4.toInt ∧ p4.toInt ≤ 68) : Met l yX12_firstOf (WS yX12_firstOf cX12_firstOf 7 (some .int)) ({ frames := 1, cells := 0, slots := 0, locals := 25 }) (va_Pc [.int p0, .int p1, .int p2, .int p3, .int p4] (cW D k A a z G)) (va_Qi (fun (r : Int32) (G1 : GS) => Q_firstOf p0 p1 p2 p3 p4 G r G1) (fun (G1 : GS) t => Wd D k A a G1 t.heap) A) 0 0 A := by
  refine Met.ofW (cc := cX12_firstOf) (maxL := 7) (ret := (some .int)) (by decide) rfl ?_
  intro p e s m args below meth c s₁ B hml hv
  obtain ⟨rfl, hW, hB_G, hK, hZ⟩ := hv
  have hx := B.exec
  have hb := B.bytes
  have hr := B.returns
  have hts := atoms_spec (ws := WS yX12_firstOf cX12_firstOf 7 (some .int)) B.pre
  have hgd : ∀ w ∈ gd, w ∈ WS yX12_firstOf cX12_firstOf 7 (some .int) := fun w h => List.mem_cons_of_mem _ h
  have hg : ∀ w ∈ gd, w.before _ s = true := fun w h => hts w (hgd w h)
  have hown : s.vm.findClass RX12 = some m.cls := findClass_of_methodNamed B.named
  have hS : va_S A s.heap s.heap [] := va_S.rf
  have hF : Fr [] [] G G := Fr.rf
  have hl := lv_entry ([.int p0, .int p1, .int p2, .int p3, .int p4]) (n := 7) (Nat.le_of_ble_eq_true rfl)
  rw [lg_entry_eq]
  generalize (lg_sl ([.int p0, .int p1, .int p2, .int p3, .int p4]) ++ List.replicate (7 - (lg_sl ([.int p0, .int p1, .int p2, .int p3, .int p4])).length) Slot.unset).toArray = ls at hl ⊢
  have hl : lv_has ls 7 [(0, .int p0), (1, .int p1), (2, .int p2), (3, .int p3), (4, .int p4)] := hl
  refine lv_iload hx hb dX12_firstOf_0 (lv_at hl 4 rfl) ?_
  refine lv_istore (lv' := [(5, .int p4), (0, .int p0), (1, .int p1), (2, .int p2), (3, .int p3), (4, .int p4)]) hx hb dX12_firstOf_2 hl (lt_b rfl) rfl (fun ls hl => ?_)
  refine ic_0 hx hb dX12_firstOf_4 ?_
  refine lv_istore (lv' := [(6, .int 0), (5, .int p4), (0, .int p0), (1, .int p1), (2, .int p2), (3, .int p3), (4, .int p4)]) hx hb dX12_firstOf_5 hl (lt_b rfl) rfl (fun ls hl => ?_)
  have qc_8 : (0 : Int32).toInt = 0 := rfl
  refine loop_N (Inv := fun n H locs ls => ∃ (G_1 : GS) (x_5 : Int32) (x_6 : Int32), (n : Int) = 70 - x_5.toInt ∧ (0 ≤ x_5.toInt ∧ x_5.toInt ≤ 70) ∧ (0 ≤ x_6.toInt ∧ x_6.toInt ≤ 68) ∧ Rc (St_n_firstOf_1 p0 p1 p2 p3) (0, p4, G) (x_5, x_6, G_1) ∧ Wd D k A a G_1 H ∧ Bd G_1 ∧ Fr [] [] G G_1 ∧ Fr [] [] G G_1 ∧ va_S A s.heap H locs ∧ lv_has ls 7 [(6, .int x_5), (5, .int x_6), (0, .int p0), (1, .int p1), (2, .int p2), (3, .int p3)]) (fun n_4 H locs ls ih_3 hI => ?_) (70 - 0 : Int).toNat ⟨G, 0, p4, (Int.toNat_of_nonneg ((by decide))), ⟨(by decide), (by decide)⟩, ⟨(by first | exact ha_p4.1 | omega), (by first | exact ha_p4.2 | omega)⟩, Rc.rf, hW, hB_G, hF, Fr.rf, hS, lv_sub hl [0, 1, 2, 3, 4, 5] rfl⟩
  obtain ⟨G_1, x_5, x_6, hn_11, f_9, f_10, hX_7, hW, hB_G_1, hF, hq_2, hS, hl⟩ := hI
  refine lv_iload hx hb dX12_firstOf_7 (lv_at hl 0 rfl) ?_
  refine lv_iload_n hx hb dX12_firstOf_9 rfl (lv_at hl 2 rfl) ?_
  refine lv_iload_n hx hb dX12_firstOf_10 rfl (lv_at hl 3 rfl) ?_
  refine lv_iadd hx hb dX12_firstOf_11 ?_
  refine lv_topi (fun y_12 ey_12 => ?_)
  have ty_12 : y_12.toInt = p0.toInt + p1.toInt := xI_add rfl rfl ey_12 ((by first | exact ok_479 ha_p0.1 ha_p1.1 | omega)) ((by first | exact ok_480 ha_p0.2 ha_p1.2 | omega))
  refine lv_icmp_gt (tgt := 45) hx hb dX12_firstOf_12 rfl (fun c_13 => ?_) (fun c_13 => ?_)
  · have c_13 : y_12.toInt < x_5.toInt := xI_lt rfl rfl c_13
    refine ic_m1 hx hb dX12_firstOf_45 ?_
    exact W.iret (v := (-1)) hx hb hr (fun t ht _ => ⟨⟨(-1), G_1, rfl, (Q_firstOf_mk ⟨hB_G_1, hF, ⟨x_5, x_6, G_1, hX_7, f_9, f_10, hB_G_1, hq_2, ⟨y_12, ty_12, (Or.inl ⟨c_13, ⟨rfl, rfl⟩⟩)⟩⟩⟩), wd_t ht hW⟩, hS.F ht⟩) hS.2.2 dX12_firstOf_46
  · have c_13 : x_5.toInt ≤ y_12.toInt := xI_nlt rfl rfl c_13
    refine lv_iload_n hx hb dX12_firstOf_15 rfl (lv_at hl 2 rfl) ?_
    refine lv_iload_n hx hb dX12_firstOf_16 rfl (lv_at hl 3 rfl) ?_
    refine lv_iload_n hx hb dX12_firstOf_17 rfl (lv_at hl 4 rfl) ?_
    refine lv_iload hx hb dX12_firstOf_18 (lv_at hl 1 rfl) ?_
    refine S_calli (va_runS (As := [.int p0, .int p1, .int p2, .int x_6]) (rest := []) ⟨hx, hb, hml, hown, hts⟩ (n_isPlain l D k A a z G_1 p0 p1 p2 x_6 ⟨(by first | exact ha_p0.1 | omega), (by first | exact ha_p0.2 | omega)⟩ ⟨(by first | exact ha_p1.1 | omega), (by first | exact ha_p1.2 | omega)⟩ ⟨(by first | exact ha_p2.1 | omega), (by first | exact ha_p2.2 | omega)⟩ ⟨(by first | exact f_10.1 | omega), (by first | exact ok_717 f_10.2 | omega)⟩) (va_cwS 4 hts (gd_S hgd m1913 m1914 m131 m1915) rfl rfl rfl hd_X12_isPlain.2 ⟨Nat.le_of_ble_eq_true rfl, Nat.le_of_ble_eq_true rfl⟩) (pre_S hW hB_G_1 hK hZ hS) rfl rfl hl.1 rfl (lv_room (Nat.le_of_ble_eq_true rfl)) dX12_firstOf_20 ⟨Nat.le_of_ble_eq_true rfl, Nat.le_of_ble_eq_true rfl⟩) hS (fun r_14 G_15 H locs hpo hW hS => ?_)
    have hX_18 : Q_isPlain p0 p1 p2 x_6 G_1 r_14 G_15 := hpo
    obtain ⟨hB_G_15, hq_16, f_19, -⟩ := hpo
    have hF := hF.call9 hq_16 rfl rfl
    refine lv_if_ne (tgt := 29) hx hb dX12_firstOf_23 rfl (fun c_20 => ?_) (fun c_20 => ?_)
    · have c_20 : r_14.toInt ≠ 0 := xI_ne rfl rfl c_20
      refine lv_iload hx hb dX12_firstOf_29 (lv_at hl 1 rfl) ?_
      refine lv_iload_n hx hb dX12_firstOf_31 rfl (lv_at hl 5 rfl) ?_
      refine lv_iadd hx hb dX12_firstOf_32 ?_
      refine lv_topi (fun y_21 ey_21 => ?_)
      have ty_21 : y_21.toInt = x_6.toInt + p3.toInt := xI_add rfl rfl ey_21 ((by first | exact ok_542 ha_p3.1 f_10.1 | omega)) ((by first | exact ok_718 ha_p3.2 f_10.2 | omega))
      refine lv_iload_n hx hb dX12_firstOf_33 rfl (lv_at hl 2 rfl) ?_
      refine lv_iload_n hx hb dX12_firstOf_34 rfl (lv_at hl 3 rfl) ?_
      refine lv_iadd hx hb dX12_firstOf_35 ?_
      refine lv_topi (fun y_22 ey_22 => ?_)
      have ty_22 : y_22.toInt = p0.toInt + p1.toInt := xI_add rfl rfl ey_22 ((by first | exact ok_479 ha_p0.1 ha_p1.1 | omega)) ((by first | exact ok_480 ha_p0.2 ha_p1.2 | omega))
      refine lv_irem hx hb dX12_firstOf_36 (fun q => by have q := xI_eq (Y := 0) rfl rfl q; omega) ?_
      refine lv_topi (fun y_23 ey_23 => ?_)
      have ty_23 : 0 ≤ y_23.toInt ∧ y_23.toInt < y_22.toInt := xI_modB ey_23 (by first | (clear ha_p2 ha_p3 ha_p4 hn_11 f_10 f_19 c_20 ty_21; omega) | omega) (by first | (clear ha_p2 ha_p3 ha_p4 hn_11 f_10 f_19 c_20 ty_21; omega) | omega)
      refine lv_istore (lv' := [(5, .int y_23), (6, .int x_5), (0, .int p0), (1, .int p1), (2, .int p2), (3, .int p3)]) hx hb dX12_firstOf_37 hl (lt_b rfl) rfl (fun ls hl => ?_)
      obtain ⟨y_24, ey_24⟩ : ∃ q, q = x_5 + 1 := ⟨_, rfl⟩
      have ty_24 : y_24.toInt = x_5.toInt + 1 := xI_add rfl rfl ey_24 ((by first | exact ok_21 f_9.1 | omega)) ((by first | exact ok_719 f_9.2 | omega))
      refine lv_iinc (v := y_24) (lv' := [(6, .int y_24), (5, .int y_23), (0, .int p0), (1, .int p1), (2, .int p2), (3, .int p3)]) hx hb dX12_firstOf_39 hl (k := 1) rfl (by rw [ey_24]; rfl) (lt_b rfl) rfl (fun ls hl => ?_)
      refine lv_goto (tgt := 7) hx hb dX12_firstOf_42 rfl ?_
      exact ih_3 (70 - y_24.toInt : Int).toNat ((by first | (clear ha_p2 ha_p3 ha_p4 f_10 f_19 c_20 ty_21; omega) | omega)) _ _ _ ⟨G_15, y_24, y_23, (Int.toNat_of_nonneg ((by first | exact ok_720 ha_p0.2 ha_p1.2 f_9.2 ty_12 c_13 ty_24 | omega))), ⟨(by first | exact ok_23 f_9.1 ty_24 | omega), (by first | exact ok_721 ha_p0.2 ha_p1.2 f_9.2 ty_12 c_13 ty_24 | omega)⟩, ⟨(by first | exact ty_23.1 | omega), (by first | exact ok_722 ha_p0.2 ha_p1.2 ty_22 ty_23.2 | omega)⟩, (hX_7.st (St_n_firstOf_1_mk ⟨x_5, x_6, G_1, y_24, y_23, G_15, rfl, rfl, f_9, f_10, hB_G_1, ⟨y_12, ty_12, ⟨c_13, ⟨r_14, G_15, hX_18, ⟨c_20, ⟨y_21, ty_21, ⟨y_22, ty_22, ⟨y_23, ey_23, ⟨y_24, ty_24, ⟨rfl, rfl, rfl⟩⟩⟩⟩⟩⟩⟩⟩⟩⟩)), hW, hB_G_15, hF, (Fr.call9 (rs := []) (fs := []) (Fr.call9 (rs := []) (fs := []) Fr.rf hq_2 rfl rfl) hq_16 rfl rfl), hS, lv_sub hl [0, 1, 2, 3, 4, 5] rfl⟩
    · have c_20 : r_14.toInt = 0 := xI_eq rfl rfl c_20
      refine lv_iload hx hb dX12_firstOf_26 (lv_at hl 0 rfl) ?_
      exact W.iret (v := x_5) hx hb hr (fun t ht _ => ⟨⟨x_5, G_15, rfl, (Q_firstOf_mk ⟨hB_G_15, hF, ⟨x_5, x_6, G_1, hX_7, f_9, f_10, hB_G_1, hq_2, ⟨y_12, ty_12, (Or.inr ⟨c_13, ⟨r_14, G_15, hX_18, ⟨c_20, ⟨rfl, rfl⟩⟩⟩⟩)⟩⟩⟩), wd_t ht hW⟩, hS.F ht⟩) hS.2.2 dX12_firstOf_28

set_option maxHeartbeats 4000000 in
set_option maxRecDepth 100000 in
theorem n_first (l : Launch) (D : va_G) (k : KT) (A : Nat → Prop) (a : Nat → Nat) (z : SK) (G : GS) (p0 : Int32) (p1 : Int32) (p2 : Int32) (p3 : Int32) (p4 : Int32)  : Met l yX12_first (WS yX12_first cX12_first 6 (some .int)) ({ frames := 2, cells := 0, slots := 0, locals := 51 }) (va_Pc [.ref (a 66), .int p0, .int p1, .int p2, .int p3, .int p4] (cW D k A a z G)) (va_Qi (fun (r : Int32) (G1 : GS) => Q_first p0 p1 p2 p3 p4 G r G1) (fun (G1 : GS) t => Wd D k A a G1 t.heap) A) 0 0 A := by
  refine Met.ofW (cc := cX12_first) (maxL := 6) (ret := (some .int)) (by decide) rfl ?_
  intro p e s m args below meth c s₁ B hml hv
  obtain ⟨rfl, hW, hB_G, hK, hZ⟩ := hv
  have hx := B.exec
  have hb := B.bytes
  have hr := B.returns
  have hts := atoms_spec (ws := WS yX12_first cX12_first 6 (some .int)) B.pre
  have hgd : ∀ w ∈ gd, w ∈ WS yX12_first cX12_first 6 (some .int) := fun w h => List.mem_cons_of_mem _ h
  have hg : ∀ w ∈ gd, w.before _ s = true := fun w h => hts w (hgd w h)
  have hown : s.vm.findClass RX12 = some m.cls := findClass_of_methodNamed B.named
  have hS : va_S A s.heap s.heap [] := va_S.rf
  have hF : Fr [] [] G G := Fr.rf
  have hl := lv_entry ([.ref (a 66), .int p0, .int p1, .int p2, .int p3, .int p4]) (n := 6) (Nat.le_of_ble_eq_true rfl)
  rw [lg_entry_eq]
  generalize (lg_sl ([.ref (a 66), .int p0, .int p1, .int p2, .int p3, .int p4]) ++ List.replicate (6 - (lg_sl ([.ref (a 66), .int p0, .int p1, .int p2, .int p3, .int p4])).length) Slot.unset).toArray = ls at hl ⊢
  have hl : lv_has ls 6 [(0, .ref (a 66)), (1, .int p0), (2, .int p1), (3, .int p2), (4, .int p3), (5, .int p4)] := hl
  refine lv_iload_n hx hb dX12_first_0 rfl (lv_at hl 1 rfl) ?_
  refine lv_iload_n hx hb dX12_first_1 rfl (lv_at hl 2 rfl) ?_
  refine lv_iload_n hx hb dX12_first_2 rfl (lv_at hl 3 rfl) ?_
  refine S_calli (va_runS (As := [.int p0, .int p1, .int p2]) (rest := []) ⟨hx, hb, hml, hown, hts⟩ (n_areSlabs l D k A a z G p0 p1 p2 ) (va_cwS 3 hts (gd_S hgd m1907 m1908 m131 m1909) rfl rfl rfl hd_X12_areSlabs.2 ⟨Nat.le_of_ble_eq_true rfl, Nat.le_of_ble_eq_true rfl⟩) (pre_S hW hB_G hK hZ hS) rfl rfl hl.1 rfl (lv_room (Nat.le_of_ble_eq_true rfl)) dX12_first_3 ⟨Nat.le_of_ble_eq_true rfl, Nat.le_of_ble_eq_true rfl⟩) hS (fun r_1 G_2 H locs hpo hW hS => ?_)
  have hX_5 : Q_areSlabs p0 p1 p2 G r_1 G_2 := hpo
  obtain ⟨hB_G_2, hq_3, f_6, hp_4, -⟩ := hpo
  have hF := hF.call9 hq_3 rfl rfl
  refine lv_if_eq (tgt := 47) hx hb dX12_first_6 rfl (fun c_7 => ?_) (fun c_7 => ?_)
  · have c_7 : r_1.toInt = 0 := xI_eq rfl rfl c_7
    refine lv_bipush (v := (-2)) hx hb dX12_first_47 (by decide) ?_
    exact W.iret (v := (-2)) hx hb hr (fun t ht _ => ⟨⟨(-2), G_2, rfl, (Q_first_mk ⟨hB_G_2, hF, ⟨r_1, G_2, hX_5, (Or.inl ⟨c_7, ⟨rfl, rfl⟩⟩)⟩⟩), wd_t ht hW⟩, hS.F ht⟩) hS.2.2 dX12_first_49
  · have c_7 : r_1.toInt ≠ 0 := xI_ne rfl rfl c_7
    refine lv_iload hx hb dX12_first_9 (lv_at hl 4 rfl) ?_
    refine ic_1 hx hb dX12_first_11 ?_
    refine lv_bipush (v := 99) hx hb dX12_first_12 (by decide) ?_
    have qc_8 : (1 : Int32).toInt = 1 := rfl
    have qc_9 : (99 : Int32).toInt = 99 := rfl
    refine S_calli (va_runS (As := [.int p3, .int 1, .int 99]) (rest := []) ⟨hx, hb, hml, hown, hts⟩ (n_isIn l D k A a z G_2 p3 1 99 ) (va_cwS 3 hts (gd_S hgd m1781 m1782 m131 m1783) rfl rfl rfl hd_X12_isIn.2 ⟨Nat.le_of_ble_eq_true rfl, Nat.le_of_ble_eq_true rfl⟩) (pre_S hW hB_G_2 hK hZ hS) rfl rfl hl.1 rfl (lv_room (Nat.le_of_ble_eq_true rfl)) dX12_first_14 ⟨Nat.le_of_ble_eq_true rfl, Nat.le_of_ble_eq_true rfl⟩) hS (fun r_10 G_11 H locs hpo hW hS => ?_)
    have hX_14 : Q_isIn p3 1 99 G_2 r_10 G_11 := hpo
    obtain ⟨hB_G_11, hq_12, f_15, ⟨d_1, d_2⟩, -⟩ := hpo
    have hF := hF.call9 hq_12 rfl rfl
    refine lv_if_eq (tgt := 47) hx hb dX12_first_17 rfl (fun c_16 => ?_) (fun c_16 => ?_)
    · have c_16 : r_10.toInt = 0 := xI_eq rfl rfl c_16
      refine lv_bipush (v := (-2)) hx hb dX12_first_47 (by decide) ?_
      exact W.iret (v := (-2)) hx hb hr (fun t ht _ => ⟨⟨(-2), G_11, rfl, (Q_first_mk ⟨hB_G_11, hF, ⟨r_1, G_2, hX_5, (Or.inr ⟨c_7, ⟨r_10, G_11, hX_14, (Or.inl ⟨c_16, ⟨rfl, rfl⟩⟩)⟩⟩)⟩⟩), wd_t ht hW⟩, hS.F ht⟩) hS.2.2 dX12_first_49
    · have c_16 : r_10.toInt ≠ 0 := xI_ne rfl rfl c_16
      refine lv_iload hx hb dX12_first_20 (lv_at hl 5 rfl) ?_
      refine ic_0 hx hb dX12_first_22 ?_
      refine lv_iload_n hx hb dX12_first_23 rfl (lv_at hl 1 rfl) ?_
      refine lv_iload_n hx hb dX12_first_24 rfl (lv_at hl 2 rfl) ?_
      refine lv_iadd hx hb dX12_first_25 ?_
      refine lv_topi (fun y_17 ey_17 => ?_)
      have ty_17 : y_17.toInt = p0.toInt + p1.toInt := xI_add rfl rfl ey_17 ((by first | exact ok_506 f_6.1 f_6.2 hp_4 c_7 | omega)) ((by first | exact ok_507 f_6.1 f_6.2 hp_4 c_7 | omega))
      refine ic_1 hx hb dX12_first_26 ?_
      refine lv_isub hx hb dX12_first_27 ?_
      refine lv_topi (fun y_18 ey_18 => ?_)
      have ty_18 : y_18.toInt = y_17.toInt - 1 := xI_sub rfl rfl ey_18 ((by first | exact ok_723 f_6.1 f_6.2 hp_4 c_7 ty_17 | omega)) ((by first | exact ok_724 f_6.1 f_6.2 hp_4 c_7 ty_17 | omega))
      have qc_19 : (0 : Int32).toInt = 0 := rfl
      refine S_calli (va_runS (As := [.int p4, .int 0, .int y_18]) (rest := []) ⟨hx, hb, hml, hown, hts⟩ (n_isIn l D k A a z G_11 p4 0 y_18 ) (va_cwS 3 hts (gd_S hgd m1781 m1782 m131 m1783) rfl rfl rfl hd_X12_isIn.2 ⟨Nat.le_of_ble_eq_true rfl, Nat.le_of_ble_eq_true rfl⟩) (pre_S hW hB_G_11 hK hZ hS) rfl rfl hl.1 rfl (lv_room (Nat.le_of_ble_eq_true rfl)) dX12_first_28 ⟨Nat.le_of_ble_eq_true rfl, Nat.le_of_ble_eq_true rfl⟩) hS (fun r_20 G_21 H locs hpo hW hS => ?_)
      have hX_24 : Q_isIn p4 0 y_18 G_11 r_20 G_21 := hpo
      obtain ⟨hB_G_21, hq_22, f_25, ⟨d_3, d_4⟩, -⟩ := hpo
      have hF := hF.call9 hq_22 rfl rfl
      refine lv_if_eq (tgt := 47) hx hb dX12_first_31 rfl (fun c_26 => ?_) (fun c_26 => ?_)
      · have c_26 : r_20.toInt = 0 := xI_eq rfl rfl c_26
        refine lv_bipush (v := (-2)) hx hb dX12_first_47 (by decide) ?_
        exact W.iret (v := (-2)) hx hb hr (fun t ht _ => ⟨⟨(-2), G_21, rfl, (Q_first_mk ⟨hB_G_21, hF, ⟨r_1, G_2, hX_5, (Or.inr ⟨c_7, ⟨r_10, G_11, hX_14, (Or.inr ⟨c_16, ⟨y_17, ty_17, ⟨y_18, ty_18, ⟨r_20, G_21, hX_24, (Or.inl ⟨c_26, ⟨rfl, rfl⟩⟩)⟩⟩⟩⟩)⟩⟩)⟩⟩), wd_t ht hW⟩, hS.F ht⟩) hS.2.2 dX12_first_49
      · have c_26 : r_20.toInt ≠ 0 := xI_ne rfl rfl c_26
        refine lv_iload_n hx hb dX12_first_34 rfl (lv_at hl 1 rfl) ?_
        refine lv_iload_n hx hb dX12_first_35 rfl (lv_at hl 2 rfl) ?_
        refine lv_iload_n hx hb dX12_first_36 rfl (lv_at hl 3 rfl) ?_
        refine lv_iload hx hb dX12_first_37 (lv_at hl 4 rfl) ?_
        refine lv_iload hx hb dX12_first_39 (lv_at hl 5 rfl) ?_
        refine S_calli (va_runS (As := [.int p0, .int p1, .int p2, .int p3, .int p4]) (rest := []) ⟨hx, hb, hml, hown, hts⟩ (n_firstOf l D k A a z G_21 p0 p1 p2 p3 p4 ⟨(by first | exact ok_514 f_6.1 f_6.2 hp_4 c_7 | omega), (by first | exact ok_515 f_6.1 f_6.2 hp_4 c_7 | omega)⟩ ⟨(by first | exact ok_516 f_6.1 f_6.2 hp_4 c_7 | omega), (by first | exact ok_517 f_6.1 f_6.2 hp_4 c_7 | omega)⟩ ⟨(by first | exact ok_518 f_6.1 f_6.2 hp_4 c_7 | omega), (by first | exact ok_519 f_6.1 f_6.2 hp_4 c_7 | omega)⟩ ⟨(by first | exact ok_725 qc_8 f_15.1 f_15.2 d_1 c_16 | omega), (by first | exact ok_431 qc_9 f_15.1 f_15.2 d_1 c_16 | omega)⟩ ⟨(by first | exact ok_415 qc_19 f_25.1 f_25.2 d_3 c_26 | omega), (by first | exact ok_726 f_6.1 f_6.2 hp_4 c_7 ty_17 ty_18 f_25.1 f_25.2 d_3 c_26 | omega)⟩) (va_cwS 5 hts (gd_S hgd m1910 m1911 m131 m1912) rfl rfl rfl hd_X12_firstOf.2 ⟨Nat.le_of_ble_eq_true rfl, Nat.le_of_ble_eq_true rfl⟩) (pre_S hW hB_G_21 hK hZ hS) rfl rfl hl.1 rfl (lv_room (Nat.le_of_ble_eq_true rfl)) dX12_first_41 ⟨Nat.le_of_ble_eq_true rfl, Nat.le_of_ble_eq_true rfl⟩) hS (fun r_27 G_28 H locs hpo hW hS => ?_)
        have hX_31 : Q_firstOf p0 p1 p2 p3 p4 G_21 r_27 G_28 := hpo
        obtain ⟨hB_G_28, hq_29, -⟩ := hpo
        have hF := hF.call9 hq_29 rfl rfl
        refine lv_goto (tgt := 49) hx hb dX12_first_44 rfl ?_
        exact W.iret (v := r_27) hx hb hr (fun t ht _ => ⟨⟨r_27, G_28, rfl, (Q_first_mk ⟨hB_G_28, hF, ⟨r_1, G_2, hX_5, (Or.inr ⟨c_7, ⟨r_10, G_11, hX_14, (Or.inr ⟨c_16, ⟨y_17, ty_17, ⟨y_18, ty_18, ⟨r_20, G_21, hX_24, (Or.inr ⟨c_26, ⟨r_27, G_28, hX_31, ⟨rfl, rfl⟩⟩⟩)⟩⟩⟩⟩)⟩⟩)⟩⟩), wd_t ht hW⟩, hS.F ht⟩) hS.2.2 dX12_first_49

set_option maxHeartbeats 4000000 in
set_option maxRecDepth 100000 in
theorem n_beginOf (l : Launch) (D : va_G) (k : KT) (A : Nat → Prop) (a : Nat → Nat) (z : SK) (G : GS) (p0 : Int32) (p1 : Int32) (p2 : Int32) (p3 : Int32) (ha_p0 : 1 ≤ p0.toInt ∧ p0.toInt ≤ 60) (ha_p1 : 0 ≤ p1.toInt ∧ p1.toInt ≤ 9) (ha_p2 : 1 ≤ p2.toInt ∧ p2.toInt ≤ 12) (ha_p3 : 1 ≤ p3.toInt ∧ p3.toInt ≤ 99) : Met l yX12_beginOf (WS yX12_beginOf cX12_beginOf 6 (some .int)) ({ frames := 2, cells := 0, slots := 0, locals := 51 }) (va_Pc [.int p0, .int p1, .int p2, .int p3] (cW D k A a z G)) (va_Qi (fun (r : Int32) (G1 : GS) => Q_beginOf p0 p1 p2 p3 G r G1) (fun (G1 : GS) t => Wd D k A a G1 t.heap) A) 0 0 A := by
  refine Met.ofW (cc := cX12_beginOf) (maxL := 6) (ret := (some .int)) (by decide) rfl ?_
  intro p e s m args below meth c s₁ B hml hv
  obtain ⟨rfl, hW, hB_G, hK, hZ⟩ := hv
  have hx := B.exec
  have hb := B.bytes
  have hr := B.returns
  have hts := atoms_spec (ws := WS yX12_beginOf cX12_beginOf 6 (some .int)) B.pre
  have hgd : ∀ w ∈ gd, w ∈ WS yX12_beginOf cX12_beginOf 6 (some .int) := fun w h => List.mem_cons_of_mem _ h
  have hg : ∀ w ∈ gd, w.before _ s = true := fun w h => hts w (hgd w h)
  have hown : s.vm.findClass RX12 = some m.cls := findClass_of_methodNamed B.named
  have hS : va_S A s.heap s.heap [] := va_S.rf
  have hF : Fr [] [] G G := Fr.rf
  have hl := lv_entry ([.int p0, .int p1, .int p2, .int p3]) (n := 6) (Nat.le_of_ble_eq_true rfl)
  rw [lg_entry_eq]
  generalize (lg_sl ([.int p0, .int p1, .int p2, .int p3]) ++ List.replicate (6 - (lg_sl ([.int p0, .int p1, .int p2, .int p3])).length) Slot.unset).toArray = ls at hl ⊢
  have hl : lv_has ls 6 [(0, .int p0), (1, .int p1), (2, .int p2), (3, .int p3)] := hl
  refine ic_0 hx hb dX12_beginOf_0 ?_
  refine lv_istore (lv' := [(4, .int 0), (0, .int p0), (1, .int p1), (2, .int p2), (3, .int p3)]) hx hb dX12_beginOf_1 hl (lt_b rfl) rfl (fun ls hl => ?_)
  refine ic_0 hx hb dX12_beginOf_3 ?_
  refine lv_istore (lv' := [(5, .int 0), (4, .int 0), (0, .int p0), (1, .int p1), (2, .int p2), (3, .int p3)]) hx hb dX12_beginOf_4 hl (lt_b rfl) rfl (fun ls hl => ?_)
  have qc_8 : (0 : Int32).toInt = 0 := rfl
  refine loop_N (Inv := fun n H locs ls => ∃ (G_1 : GS) (x_5 : Int32) (x_6 : Int32), (n : Int) = 69 - x_5.toInt ∧ (0 ≤ x_5.toInt ∧ x_5.toInt ≤ 69) ∧ Rc (St_n_beginOf_1 p0 p1 p2 p3) (0, 0, G) (x_5, x_6, G_1) ∧ Wd D k A a G_1 H ∧ Bd G_1 ∧ Fr [] [] G G_1 ∧ Fr [] [] G G_1 ∧ va_S A s.heap H locs ∧ lv_has ls 6 [(5, .int x_5), (4, .int x_6), (0, .int p0), (1, .int p1), (2, .int p2), (3, .int p3)]) (fun n_4 H locs ls ih_3 hI => ?_) (69 - 0 : Int).toNat ⟨G, 0, 0, (Int.toNat_of_nonneg ((by decide))), ⟨(by decide), (by decide)⟩, Rc.rf, hW, hB_G, hF, Fr.rf, hS, lv_sub hl [0, 1, 2, 3, 4, 5] rfl⟩
  obtain ⟨G_1, x_5, x_6, hn_10, f_9, hX_7, hW, hB_G_1, hF, hq_2, hS, hl⟩ := hI
  refine lv_iload hx hb dX12_beginOf_6 (lv_at hl 0 rfl) ?_
  refine lv_iload_n hx hb dX12_beginOf_8 rfl (lv_at hl 2 rfl) ?_
  refine lv_iload_n hx hb dX12_beginOf_9 rfl (lv_at hl 3 rfl) ?_
  refine lv_iadd hx hb dX12_beginOf_10 ?_
  refine lv_topi (fun y_11 ey_11 => ?_)
  have ty_11 : y_11.toInt = p0.toInt + p1.toInt := xI_add rfl rfl ey_11 ((by first | exact ok_479 ha_p0.1 ha_p1.1 | omega)) ((by first | exact ok_480 ha_p0.2 ha_p1.2 | omega))
  refine lv_icmp_ge (tgt := 45) hx hb dX12_beginOf_11 rfl (fun c_12 => ?_) (fun c_12 => ?_)
  · have c_12 : y_11.toInt ≤ x_5.toInt := xI_le rfl rfl c_12
    refine lv_iload hx hb dX12_beginOf_45 (lv_at hl 1 rfl) ?_
    exact W.iret (v := x_6) hx hb hr (fun t ht _ => ⟨⟨x_6, G_1, rfl, (Q_beginOf_mk ⟨hB_G_1, hF, ⟨x_5, x_6, G_1, hX_7, f_9, hB_G_1, hq_2, ⟨y_11, ty_11, ⟨c_12, ⟨rfl, rfl⟩⟩⟩⟩⟩), wd_t ht hW⟩, hS.F ht⟩) hS.2.2 dX12_beginOf_47
  · have c_12 : x_5.toInt < y_11.toInt := xI_nle rfl rfl c_12
    refine lv_iload hx hb dX12_beginOf_14 (lv_at hl 1 rfl) ?_
    refine lv_iload_n hx hb dX12_beginOf_16 rfl (lv_at hl 2 rfl) ?_
    refine lv_iload_n hx hb dX12_beginOf_17 rfl (lv_at hl 3 rfl) ?_
    refine lv_iload_n hx hb dX12_beginOf_18 rfl (lv_at hl 4 rfl) ?_
    refine lv_iload_n hx hb dX12_beginOf_19 rfl (lv_at hl 5 rfl) ?_
    refine lv_iload hx hb dX12_beginOf_20 (lv_at hl 0 rfl) ?_
    refine S_calli (va_runS (As := [.int p0, .int p1, .int p2, .int p3, .int x_5]) (rest := [.int x_6]) ⟨hx, hb, hml, hown, hts⟩ (n_firstOf l D k A a z G_1 p0 p1 p2 p3 x_5 ⟨(by first | exact ha_p0.1 | omega), (by first | exact ha_p0.2 | omega)⟩ ⟨(by first | exact ha_p1.1 | omega), (by first | exact ha_p1.2 | omega)⟩ ⟨(by first | exact ha_p2.1 | omega), (by first | exact ha_p2.2 | omega)⟩ ⟨(by first | exact ha_p3.1 | omega), (by first | exact ha_p3.2 | omega)⟩ ⟨(by first | exact f_9.1 | omega), (by first | exact ok_727 ha_p0.2 ha_p1.2 f_9.2 ty_11 c_12 | omega)⟩) (va_cwS 5 hts (gd_S hgd m1910 m1911 m131 m1912) rfl rfl rfl hd_X12_firstOf.2 ⟨Nat.le_of_ble_eq_true rfl, Nat.le_of_ble_eq_true rfl⟩) (pre_S hW hB_G_1 hK hZ hS) rfl rfl hl.1 rfl (lv_room (Nat.le_of_ble_eq_true rfl)) dX12_beginOf_22 ⟨Nat.le_of_ble_eq_true rfl, Nat.le_of_ble_eq_true rfl⟩) hS (fun r_13 G_14 H locs hpo hW hS => ?_)
    have hX_17 : Q_firstOf p0 p1 p2 p3 x_5 G_1 r_13 G_14 := hpo
    obtain ⟨hB_G_14, hq_15, -⟩ := hpo
    have hF := hF.call9 hq_15 rfl rfl
    refine lv_if_ge (tgt := 32) hx hb dX12_beginOf_25 rfl (fun c_18 => ?_) (fun c_18 => ?_)
    · have c_18 : 0 ≤ r_13.toInt := xI_le rfl rfl c_18
      refine ic_0 hx hb dX12_beginOf_32 ?_
      have qc_19 : (0 : Int32).toInt = 0 := rfl
      refine S_calli (va_runS (As := [.int 0]) (rest := [.int x_6]) ⟨hx, hb, hml, hown, hts⟩ (n_truth l D k A a z G_14 0 ⟨by decide, by decide⟩) (va_cwS 1 hts (gd_S hgd m1788 m1789 m131 m1790) rfl rfl rfl hd_X12_truth.2 ⟨Nat.le_of_ble_eq_true rfl, Nat.le_of_ble_eq_true rfl⟩) (pre_S hW hB_G_14 hK hZ hS) rfl rfl hl.1 rfl (lv_room (Nat.le_of_ble_eq_true rfl)) dX12_beginOf_33 ⟨Nat.le_of_ble_eq_true rfl, Nat.le_of_ble_eq_true rfl⟩) hS (fun r_20 G_21 H locs hpo hW hS => ?_)
      have hX_24 : Q_truth 0 G_14 r_20 G_21 := hpo
      obtain ⟨hB_G_21, hq_22, f_25, hp_23, -⟩ := hpo
      have hF := hF.call9 hq_22 rfl rfl
      refine lv_iadd hx hb dX12_beginOf_36 ?_
      refine lv_topi (fun y_26 ey_26 => ?_)
      refine lv_istore (lv' := [(4, .int y_26), (5, .int x_5), (0, .int p0), (1, .int p1), (2, .int p2), (3, .int p3)]) hx hb dX12_beginOf_37 hl (lt_b rfl) rfl (fun ls hl => ?_)
      obtain ⟨y_27, ey_27⟩ : ∃ q, q = x_5 + 1 := ⟨_, rfl⟩
      have ty_27 : y_27.toInt = x_5.toInt + 1 := xI_add rfl rfl ey_27 ((by first | exact ok_21 f_9.1 | omega)) ((by first | exact ok_509 f_9.2 | omega))
      refine lv_iinc (v := y_27) (lv' := [(5, .int y_27), (4, .int y_26), (0, .int p0), (1, .int p1), (2, .int p2), (3, .int p3)]) hx hb dX12_beginOf_39 hl (k := 1) rfl (by rw [ey_27]; rfl) (lt_b rfl) rfl (fun ls hl => ?_)
      refine lv_goto (tgt := 6) hx hb dX12_beginOf_42 rfl ?_
      exact ih_3 (69 - y_27.toInt : Int).toNat ((by first | (clear ha_p2 ha_p3 c_18 f_25 hp_23; omega) | omega)) _ _ _ ⟨G_21, y_27, y_26, (Int.toNat_of_nonneg ((by first | exact ok_728 ha_p0.2 ha_p1.2 f_9.2 ty_11 c_12 ty_27 | omega))), ⟨(by first | exact ok_23 f_9.1 ty_27 | omega), (by first | exact ok_729 ha_p0.2 ha_p1.2 f_9.2 ty_11 c_12 ty_27 | omega)⟩, (hX_7.st (St_n_beginOf_1_mk ⟨x_5, x_6, G_1, y_27, y_26, G_21, rfl, rfl, f_9, hB_G_1, ⟨y_11, ty_11, ⟨c_12, ⟨r_13, G_14, hX_17, (Or.inl ⟨c_18, ⟨r_20, G_21, hX_24, ⟨y_26, ey_26, ⟨y_27, ty_27, ⟨rfl, rfl, rfl⟩⟩⟩⟩⟩)⟩⟩⟩⟩)), hW, hB_G_21, hF, (Fr.call9 (rs := []) (fs := []) (Fr.call9 (rs := []) (fs := []) (Fr.call9 (rs := []) (fs := []) Fr.rf hq_2 rfl rfl) hq_15 rfl rfl) hq_22 rfl rfl), hS, lv_sub hl [0, 1, 2, 3, 4, 5] rfl⟩
    · have c_18 : r_13.toInt < 0 := xI_nle rfl rfl c_18
      refine ic_1 hx hb dX12_beginOf_28 ?_
      refine lv_goto (tgt := 33) hx hb dX12_beginOf_29 rfl ?_
      have qc_28 : (1 : Int32).toInt = 1 := rfl
      refine S_calli (va_runS (As := [.int 1]) (rest := [.int x_6]) ⟨hx, hb, hml, hown, hts⟩ (n_truth l D k A a z G_14 1 ⟨by decide, by decide⟩) (va_cwS 1 hts (gd_S hgd m1788 m1789 m131 m1790) rfl rfl rfl hd_X12_truth.2 ⟨Nat.le_of_ble_eq_true rfl, Nat.le_of_ble_eq_true rfl⟩) (pre_S hW hB_G_14 hK hZ hS) rfl rfl hl.1 rfl (lv_room (Nat.le_of_ble_eq_true rfl)) dX12_beginOf_33 ⟨Nat.le_of_ble_eq_true rfl, Nat.le_of_ble_eq_true rfl⟩) hS (fun r_29 G_30 H locs hpo hW hS => ?_)
      have hX_33 : Q_truth 1 G_14 r_29 G_30 := hpo
      obtain ⟨hB_G_30, hq_31, f_34, hp_32, -⟩ := hpo
      have hF := hF.call9 hq_31 rfl rfl
      refine lv_iadd hx hb dX12_beginOf_36 ?_
      refine lv_topi (fun y_35 ey_35 => ?_)
      refine lv_istore (lv' := [(4, .int y_35), (5, .int x_5), (0, .int p0), (1, .int p1), (2, .int p2), (3, .int p3)]) hx hb dX12_beginOf_37 hl (lt_b rfl) rfl (fun ls hl => ?_)
      obtain ⟨y_36, ey_36⟩ : ∃ q, q = x_5 + 1 := ⟨_, rfl⟩
      have ty_36 : y_36.toInt = x_5.toInt + 1 := xI_add rfl rfl ey_36 ((by first | exact ok_21 f_9.1 | omega)) ((by first | exact ok_509 f_9.2 | omega))
      refine lv_iinc (v := y_36) (lv' := [(5, .int y_36), (4, .int y_35), (0, .int p0), (1, .int p1), (2, .int p2), (3, .int p3)]) hx hb dX12_beginOf_39 hl (k := 1) rfl (by rw [ey_36]; rfl) (lt_b rfl) rfl (fun ls hl => ?_)
      refine lv_goto (tgt := 6) hx hb dX12_beginOf_42 rfl ?_
      exact ih_3 (69 - y_36.toInt : Int).toNat ((by first | (clear ha_p2 ha_p3 c_18 f_34 hp_32; omega) | omega)) _ _ _ ⟨G_30, y_36, y_35, (Int.toNat_of_nonneg ((by first | exact ok_728 ha_p0.2 ha_p1.2 f_9.2 ty_11 c_12 ty_36 | omega))), ⟨(by first | exact ok_23 f_9.1 ty_36 | omega), (by first | exact ok_729 ha_p0.2 ha_p1.2 f_9.2 ty_11 c_12 ty_36 | omega)⟩, (hX_7.st (St_n_beginOf_1_mk ⟨x_5, x_6, G_1, y_36, y_35, G_30, rfl, rfl, f_9, hB_G_1, ⟨y_11, ty_11, ⟨c_12, ⟨r_13, G_14, hX_17, (Or.inr ⟨c_18, ⟨r_29, G_30, hX_33, ⟨y_35, ey_35, ⟨y_36, ty_36, ⟨rfl, rfl, rfl⟩⟩⟩⟩⟩)⟩⟩⟩⟩)), hW, hB_G_30, hF, (Fr.call9 (rs := []) (fs := []) (Fr.call9 (rs := []) (fs := []) (Fr.call9 (rs := []) (fs := []) Fr.rf hq_2 rfl rfl) hq_15 rfl rfl) hq_31 rfl rfl), hS, lv_sub hl [0, 1, 2, 3, 4, 5] rfl⟩

set_option maxHeartbeats 4000000 in
set_option maxRecDepth 100000 in
theorem n_begin (l : Launch) (D : va_G) (k : KT) (A : Nat → Prop) (a : Nat → Nat) (z : SK) (G : GS) (p0 : Int32) (p1 : Int32) (p2 : Int32) (p3 : Int32)  : Met l yX12_begin (WS yX12_begin cX12_begin 5 (some .int)) ({ frames := 3, cells := 0, slots := 0, locals := 76 }) (va_Pc [.ref (a 66), .int p0, .int p1, .int p2, .int p3] (cW D k A a z G)) (va_Qi (fun (r : Int32) (G1 : GS) => Q_begin p0 p1 p2 p3 G r G1) (fun (G1 : GS) t => Wd D k A a G1 t.heap) A) 0 0 A := by
  refine Met.ofW (cc := cX12_begin) (maxL := 5) (ret := (some .int)) (by decide) rfl ?_
  intro p e s m args below meth c s₁ B hml hv
  obtain ⟨rfl, hW, hB_G, hK, hZ⟩ := hv
  have hx := B.exec
  have hb := B.bytes
  have hr := B.returns
  have hts := atoms_spec (ws := WS yX12_begin cX12_begin 5 (some .int)) B.pre
  have hgd : ∀ w ∈ gd, w ∈ WS yX12_begin cX12_begin 5 (some .int) := fun w h => List.mem_cons_of_mem _ h
  have hg : ∀ w ∈ gd, w.before _ s = true := fun w h => hts w (hgd w h)
  have hown : s.vm.findClass RX12 = some m.cls := findClass_of_methodNamed B.named
  have hS : va_S A s.heap s.heap [] := va_S.rf
  have hF : Fr [] [] G G := Fr.rf
  have hl := lv_entry ([.ref (a 66), .int p0, .int p1, .int p2, .int p3]) (n := 5) (Nat.le_of_ble_eq_true rfl)
  rw [lg_entry_eq]
  generalize (lg_sl ([.ref (a 66), .int p0, .int p1, .int p2, .int p3]) ++ List.replicate (5 - (lg_sl ([.ref (a 66), .int p0, .int p1, .int p2, .int p3])).length) Slot.unset).toArray = ls at hl ⊢
  have hl : lv_has ls 5 [(0, .ref (a 66)), (1, .int p0), (2, .int p1), (3, .int p2), (4, .int p3)] := hl
  refine lv_iload_n hx hb dX12_begin_0 rfl (lv_at hl 1 rfl) ?_
  refine lv_iload_n hx hb dX12_begin_1 rfl (lv_at hl 2 rfl) ?_
  refine lv_iload_n hx hb dX12_begin_2 rfl (lv_at hl 3 rfl) ?_
  refine S_calli (va_runS (As := [.int p0, .int p1, .int p2]) (rest := []) ⟨hx, hb, hml, hown, hts⟩ (n_areSlabs l D k A a z G p0 p1 p2 ) (va_cwS 3 hts (gd_S hgd m1907 m1908 m131 m1909) rfl rfl rfl hd_X12_areSlabs.2 ⟨Nat.le_of_ble_eq_true rfl, Nat.le_of_ble_eq_true rfl⟩) (pre_S hW hB_G hK hZ hS) rfl rfl hl.1 rfl (lv_room (Nat.le_of_ble_eq_true rfl)) dX12_begin_3 ⟨Nat.le_of_ble_eq_true rfl, Nat.le_of_ble_eq_true rfl⟩) hS (fun r_1 G_2 H locs hpo hW hS => ?_)
  have hX_5 : Q_areSlabs p0 p1 p2 G r_1 G_2 := hpo
  obtain ⟨hB_G_2, hq_3, f_6, hp_4, -⟩ := hpo
  have hF := hF.call9 hq_3 rfl rfl
  refine lv_if_eq (tgt := 31) hx hb dX12_begin_6 rfl (fun c_7 => ?_) (fun c_7 => ?_)
  · have c_7 : r_1.toInt = 0 := xI_eq rfl rfl c_7
    refine ic_m1 hx hb dX12_begin_31 ?_
    exact W.iret (v := (-1)) hx hb hr (fun t ht _ => ⟨⟨(-1), G_2, rfl, (Q_begin_mk ⟨hB_G_2, hF, ⟨r_1, G_2, hX_5, (Or.inl ⟨c_7, ⟨rfl, rfl⟩⟩)⟩⟩), wd_t ht hW⟩, hS.F ht⟩) hS.2.2 dX12_begin_32
  · have c_7 : r_1.toInt ≠ 0 := xI_ne rfl rfl c_7
    refine lv_iload hx hb dX12_begin_9 (lv_at hl 4 rfl) ?_
    refine ic_1 hx hb dX12_begin_11 ?_
    refine lv_bipush (v := 99) hx hb dX12_begin_12 (by decide) ?_
    have qc_8 : (1 : Int32).toInt = 1 := rfl
    have qc_9 : (99 : Int32).toInt = 99 := rfl
    refine S_calli (va_runS (As := [.int p3, .int 1, .int 99]) (rest := []) ⟨hx, hb, hml, hown, hts⟩ (n_isIn l D k A a z G_2 p3 1 99 ) (va_cwS 3 hts (gd_S hgd m1781 m1782 m131 m1783) rfl rfl rfl hd_X12_isIn.2 ⟨Nat.le_of_ble_eq_true rfl, Nat.le_of_ble_eq_true rfl⟩) (pre_S hW hB_G_2 hK hZ hS) rfl rfl hl.1 rfl (lv_room (Nat.le_of_ble_eq_true rfl)) dX12_begin_14 ⟨Nat.le_of_ble_eq_true rfl, Nat.le_of_ble_eq_true rfl⟩) hS (fun r_10 G_11 H locs hpo hW hS => ?_)
    have hX_14 : Q_isIn p3 1 99 G_2 r_10 G_11 := hpo
    obtain ⟨hB_G_11, hq_12, f_15, ⟨d_1, d_2⟩, -⟩ := hpo
    have hF := hF.call9 hq_12 rfl rfl
    refine lv_if_eq (tgt := 31) hx hb dX12_begin_17 rfl (fun c_16 => ?_) (fun c_16 => ?_)
    · have c_16 : r_10.toInt = 0 := xI_eq rfl rfl c_16
      refine ic_m1 hx hb dX12_begin_31 ?_
      exact W.iret (v := (-1)) hx hb hr (fun t ht _ => ⟨⟨(-1), G_11, rfl, (Q_begin_mk ⟨hB_G_11, hF, ⟨r_1, G_2, hX_5, (Or.inr ⟨c_7, ⟨r_10, G_11, hX_14, (Or.inl ⟨c_16, ⟨rfl, rfl⟩⟩)⟩⟩)⟩⟩), wd_t ht hW⟩, hS.F ht⟩) hS.2.2 dX12_begin_32
    · have c_16 : r_10.toInt ≠ 0 := xI_ne rfl rfl c_16
      refine lv_iload_n hx hb dX12_begin_20 rfl (lv_at hl 1 rfl) ?_
      refine lv_iload_n hx hb dX12_begin_21 rfl (lv_at hl 2 rfl) ?_
      refine lv_iload_n hx hb dX12_begin_22 rfl (lv_at hl 3 rfl) ?_
      refine lv_iload hx hb dX12_begin_23 (lv_at hl 4 rfl) ?_
      refine S_calli (va_runS (As := [.int p0, .int p1, .int p2, .int p3]) (rest := []) ⟨hx, hb, hml, hown, hts⟩ (n_beginOf l D k A a z G_11 p0 p1 p2 p3 ⟨(by first | exact ok_514 f_6.1 f_6.2 hp_4 c_7 | omega), (by first | exact ok_515 f_6.1 f_6.2 hp_4 c_7 | omega)⟩ ⟨(by first | exact ok_516 f_6.1 f_6.2 hp_4 c_7 | omega), (by first | exact ok_517 f_6.1 f_6.2 hp_4 c_7 | omega)⟩ ⟨(by first | exact ok_518 f_6.1 f_6.2 hp_4 c_7 | omega), (by first | exact ok_519 f_6.1 f_6.2 hp_4 c_7 | omega)⟩ ⟨(by first | exact ok_725 qc_8 f_15.1 f_15.2 d_1 c_16 | omega), (by first | exact ok_431 qc_9 f_15.1 f_15.2 d_1 c_16 | omega)⟩) (va_cwS 4 hts (gd_S hgd m1920 m1921 m131 m1922) rfl rfl rfl hd_X12_beginOf.2 ⟨Nat.le_of_ble_eq_true rfl, Nat.le_of_ble_eq_true rfl⟩) (pre_S hW hB_G_11 hK hZ hS) rfl rfl hl.1 rfl (lv_room (Nat.le_of_ble_eq_true rfl)) dX12_begin_25 ⟨Nat.le_of_ble_eq_true rfl, Nat.le_of_ble_eq_true rfl⟩) hS (fun r_17 G_18 H locs hpo hW hS => ?_)
      have hX_21 : Q_beginOf p0 p1 p2 p3 G_11 r_17 G_18 := hpo
      obtain ⟨hB_G_18, hq_19, -⟩ := hpo
      have hF := hF.call9 hq_19 rfl rfl
      refine lv_goto (tgt := 32) hx hb dX12_begin_28 rfl ?_
      exact W.iret (v := r_17) hx hb hr (fun t ht _ => ⟨⟨r_17, G_18, rfl, (Q_begin_mk ⟨hB_G_18, hF, ⟨r_1, G_2, hX_5, (Or.inr ⟨c_7, ⟨r_10, G_11, hX_14, (Or.inr ⟨c_16, ⟨r_17, G_18, hX_21, ⟨rfl, rfl⟩⟩⟩)⟩⟩)⟩⟩), wd_t ht hW⟩, hS.F ht⟩) hS.2.2 dX12_begin_32

set_option maxHeartbeats 4000000 in
set_option maxRecDepth 100000 in
theorem n_suits (l : Launch) (D : va_G) (k : KT) (A : Nat → Prop) (a : Nat → Nat) (z : SK) (G : GS) (p0 : Int32) (p1 : Int32) (p2 : Int32) (p3 : Int32) (p4 : Int32)  : Met l yX12_suits (WS yX12_suits cX12_suits 9 (some .long)) ({ frames := 3, cells := 0, slots := 0, locals := 76 }) (va_Pc [.ref (a 66), .int p0, .int p1, .int p2, .int p3, .int p4] (cW D k A a z G)) (va_Ql (fun (r : Int64) (G1 : GS) => Q_suits p0 p1 p2 p3 p4 G r G1) (fun (G1 : GS) t => Wd D k A a G1 t.heap) A) 0 0 A := by
  refine Met.ofW (cc := cX12_suits) (maxL := 9) (ret := (some .long)) (by decide) rfl ?_
  intro p e s m args below meth c s₁ B hml hv
  obtain ⟨rfl, hW, hB_G, hK, hZ⟩ := hv
  have hx := B.exec
  have hb := B.bytes
  have hr := B.returns
  have hts := atoms_spec (ws := WS yX12_suits cX12_suits 9 (some .long)) B.pre
  have hgd : ∀ w ∈ gd, w ∈ WS yX12_suits cX12_suits 9 (some .long) := fun w h => List.mem_cons_of_mem _ h
  have hg : ∀ w ∈ gd, w.before _ s = true := fun w h => hts w (hgd w h)
  have hown : s.vm.findClass RX12 = some m.cls := findClass_of_methodNamed B.named
  have hS : va_S A s.heap s.heap [] := va_S.rf
  have hF : Fr [] [] G G := Fr.rf
  have hl := lv_entry ([.ref (a 66), .int p0, .int p1, .int p2, .int p3, .int p4]) (n := 9) (Nat.le_of_ble_eq_true rfl)
  rw [lg_entry_eq]
  generalize (lg_sl ([.ref (a 66), .int p0, .int p1, .int p2, .int p3, .int p4]) ++ List.replicate (9 - (lg_sl ([.ref (a 66), .int p0, .int p1, .int p2, .int p3, .int p4])).length) Slot.unset).toArray = ls at hl ⊢
  have hl : lv_has ls 9 [(0, .ref (a 66)), (1, .int p0), (2, .int p1), (3, .int p2), (4, .int p3), (5, .int p4)] := hl
  refine lv_iload_n hx hb dX12_suits_0 rfl (lv_at hl 1 rfl) ?_
  refine lv_iload_n hx hb dX12_suits_1 rfl (lv_at hl 2 rfl) ?_
  refine lv_iload hx hb dX12_suits_2 (lv_at hl 5 rfl) ?_
  refine S_calli (va_runS (As := [.int p0, .int p1, .int p4]) (rest := []) ⟨hx, hb, hml, hown, hts⟩ (n_areSlabs l D k A a z G p0 p1 p4 ) (va_cwS 3 hts (gd_S hgd m1907 m1908 m131 m1909) rfl rfl rfl hd_X12_areSlabs.2 ⟨Nat.le_of_ble_eq_true rfl, Nat.le_of_ble_eq_true rfl⟩) (pre_S hW hB_G hK hZ hS) rfl rfl hl.1 rfl (lv_room (Nat.le_of_ble_eq_true rfl)) dX12_suits_4 ⟨Nat.le_of_ble_eq_true rfl, Nat.le_of_ble_eq_true rfl⟩) hS (fun r_1 G_2 H locs hpo hW hS => ?_)
  have hX_5 : Q_areSlabs p0 p1 p4 G r_1 G_2 := hpo
  obtain ⟨hB_G_2, hq_3, f_6, hp_4, -⟩ := hpo
  have hF := hF.call9 hq_3 rfl rfl
  refine lv_if_eq (tgt := 21) hx hb dX12_suits_7 rfl (fun c_7 => ?_) (fun c_7 => ?_)
  · have c_7 : r_1.toInt = 0 := xI_eq rfl rfl c_7
    refine lv_ldc2 (v := (-1)) hx hb hown (hg (Cond.constantLong RX12 517 (-1)) m1874) dX12_suits_21 ?_
    exact W.lret (v := (-1)) hx hb hr (fun t ht _ => ⟨⟨(-1), G_2, rfl, (Q_suits_mk ⟨hB_G_2, hF, ⟨r_1, G_2, hX_5, (Or.inl ⟨c_7, ⟨rfl, rfl⟩⟩)⟩⟩), wd_t ht hW⟩, hS.F ht⟩) hS.2.2 dX12_suits_24
  · have c_7 : r_1.toInt ≠ 0 := xI_ne rfl rfl c_7
    refine lv_iload_n hx hb dX12_suits_10 rfl (lv_at hl 3 rfl) ?_
    refine lv_iload hx hb dX12_suits_11 (lv_at hl 4 rfl) ?_
    refine lv_iload hx hb dX12_suits_13 (lv_at hl 5 rfl) ?_
    refine S_calli (va_runS (As := [.int p2, .int p3, .int p4]) (rest := []) ⟨hx, hb, hml, hown, hts⟩ (n_areSlabs l D k A a z G_2 p2 p3 p4 ) (va_cwS 3 hts (gd_S hgd m1907 m1908 m131 m1909) rfl rfl rfl hd_X12_areSlabs.2 ⟨Nat.le_of_ble_eq_true rfl, Nat.le_of_ble_eq_true rfl⟩) (pre_S hW hB_G_2 hK hZ hS) rfl rfl hl.1 rfl (lv_room (Nat.le_of_ble_eq_true rfl)) dX12_suits_15 ⟨Nat.le_of_ble_eq_true rfl, Nat.le_of_ble_eq_true rfl⟩) hS (fun r_8 G_9 H locs hpo hW hS => ?_)
    have hX_12 : Q_areSlabs p2 p3 p4 G_2 r_8 G_9 := hpo
    obtain ⟨hB_G_9, hq_10, f_13, hp_11, -⟩ := hpo
    have hF := hF.call9 hq_10 rfl rfl
    refine lv_if_ne (tgt := 25) hx hb dX12_suits_18 rfl (fun c_14 => ?_) (fun c_14 => ?_)
    · have c_14 : r_8.toInt ≠ 0 := xI_ne rfl rfl c_14
      refine lv_lconst (v := 0) hx hb dX12_suits_25 (by decide) ?_
      refine lv_lstore (lv' := [(6, .long 0), (0, .ref (a 66)), (1, .int p0), (2, .int p1), (3, .int p2), (4, .int p3), (5, .int p4)]) hx hb dX12_suits_26 hl (lt_b rfl) rfl (fun ls hl => ?_)
      refine ic_1 hx hb dX12_suits_28 ?_
      refine lv_istore (lv' := [(8, .int 1), (6, .long 0), (0, .ref (a 66)), (1, .int p0), (2, .int p1), (3, .int p2), (4, .int p3), (5, .int p4)]) hx hb dX12_suits_29 hl (lt_b rfl) rfl (fun ls hl => ?_)
      have qc_22 : (1 : Int32).toInt = 1 := rfl
      refine loop_N (Inv := fun n H locs ls => ∃ (G_15 : GS) (x_19 : Int32) (x_20 : Int64), (n : Int) = 61 - x_19.toInt ∧ (1 ≤ x_19.toInt ∧ x_19.toInt ≤ 61) ∧ Rc (St_n_suits_1 p0 p1 p2 p3 p4) (1, 0, G_9) (x_19, x_20, G_15) ∧ Wd D k A a G_15 H ∧ Bd G_15 ∧ Fr [] [] G G_15 ∧ Fr [] [] G_9 G_15 ∧ va_S A s.heap H locs ∧ lv_has ls 9 [(8, .int x_19), (6, .long x_20), (1, .int p0), (2, .int p1), (3, .int p2), (4, .int p3), (5, .int p4)]) (fun n_18 H locs ls ih_17 hI => ?_) (61 - 1 : Int).toNat ⟨G_9, 1, 0, (Int.toNat_of_nonneg ((by decide))), ⟨(by decide), (by decide)⟩, Rc.rf, hW, hB_G_9, hF, Fr.rf, hS, lv_sub hl [0, 1, 3, 4, 5, 6, 7] rfl⟩
      obtain ⟨G_15, x_19, x_20, hn_24, f_23, hX_21, hW, hB_G_15, hF, hq_16, hS, hl⟩ := hI
      refine lv_iload hx hb dX12_suits_31 (lv_at hl 0 rfl) ?_
      refine lv_bipush (v := 60) hx hb dX12_suits_33 (by decide) ?_
      refine lv_icmp_gt (tgt := 80) hx hb dX12_suits_35 rfl (fun c_25 => ?_) (fun c_25 => ?_)
      · have c_25 : 60 < x_19.toInt := xI_lt rfl rfl c_25
        refine lv_lload hx hb dX12_suits_80 (lv_at hl 1 rfl) ?_
        exact W.lret (v := x_20) hx hb hr (fun t ht _ => ⟨⟨x_20, G_15, rfl, (Q_suits_mk ⟨hB_G_15, hF, ⟨r_1, G_2, hX_5, (Or.inr ⟨c_7, ⟨r_8, G_9, hX_12, (Or.inr ⟨c_14, ⟨x_19, x_20, G_15, hX_21, f_23, hB_G_15, hq_16, ⟨c_25, ⟨rfl, rfl⟩⟩⟩⟩)⟩⟩)⟩⟩), wd_t ht hW⟩, hS.F ht⟩) hS.2.2 dX12_suits_82
      · have c_25 : x_19.toInt ≤ 60 := xI_nlt rfl rfl c_25
        refine lv_iload_n hx hb dX12_suits_38 rfl (lv_at hl 2 rfl) ?_
        refine lv_iload_n hx hb dX12_suits_39 rfl (lv_at hl 3 rfl) ?_
        refine lv_iload hx hb dX12_suits_40 (lv_at hl 6 rfl) ?_
        refine lv_iload hx hb dX12_suits_42 (lv_at hl 0 rfl) ?_
        refine S_calli (va_runS (As := [.int p0, .int p1, .int p4, .int x_19]) (rest := []) ⟨hx, hb, hml, hown, hts⟩ (n_beginOf l D k A a z G_15 p0 p1 p4 x_19 ⟨(by first | exact ok_514 f_6.1 f_6.2 hp_4 c_7 | omega), (by first | exact ok_515 f_6.1 f_6.2 hp_4 c_7 | omega)⟩ ⟨(by first | exact ok_516 f_6.1 f_6.2 hp_4 c_7 | omega), (by first | exact ok_517 f_6.1 f_6.2 hp_4 c_7 | omega)⟩ ⟨(by first | exact ok_518 f_6.1 f_6.2 hp_4 c_7 | omega), (by first | exact ok_519 f_6.1 f_6.2 hp_4 c_7 | omega)⟩ ⟨(by first | exact f_23.1 | omega), (by first | exact ok_520 f_23.2 | omega)⟩) (va_cwS 4 hts (gd_S hgd m1920 m1921 m131 m1922) rfl rfl rfl hd_X12_beginOf.2 ⟨Nat.le_of_ble_eq_true rfl, Nat.le_of_ble_eq_true rfl⟩) (pre_S hW hB_G_15 hK hZ hS) rfl rfl hl.1 rfl (lv_room (Nat.le_of_ble_eq_true rfl)) dX12_suits_44 ⟨Nat.le_of_ble_eq_true rfl, Nat.le_of_ble_eq_true rfl⟩) hS (fun r_26 G_27 H locs hpo hW hS => ?_)
        have hX_30 : Q_beginOf p0 p1 p4 x_19 G_15 r_26 G_27 := hpo
        obtain ⟨hB_G_27, hq_28, -⟩ := hpo
        have hF := hF.call9 hq_28 rfl rfl
        refine lv_if_le (tgt := 74) hx hb dX12_suits_47 rfl (fun c_31 => ?_) (fun c_31 => ?_)
        · have c_31 : r_26.toInt ≤ 0 := xI_le rfl rfl c_31
          obtain ⟨y_32, ey_32⟩ : ∃ q, q = x_19 + 1 := ⟨_, rfl⟩
          have ty_32 : y_32.toInt = x_19.toInt + 1 := xI_add rfl rfl ey_32 ((by first | exact ok_237 f_23.1 | omega)) ((by first | exact ok_256 f_23.2 | omega))
          refine lv_iinc (v := y_32) (lv' := [(8, .int y_32), (6, .long x_20), (1, .int p0), (2, .int p1), (3, .int p2), (4, .int p3), (5, .int p4)]) hx hb dX12_suits_74 hl (k := 0) rfl (by rw [ey_32]; rfl) (lt_b rfl) rfl (fun ls hl => ?_)
          refine lv_goto (tgt := 31) hx hb dX12_suits_77 rfl ?_
          exact ih_17 (61 - y_32.toInt : Int).toNat ((by first | (clear f_6 hp_4 c_7 f_13 hp_11 c_14 c_31; omega) | omega)) _ _ _ ⟨G_27, y_32, x_20, (Int.toNat_of_nonneg ((by first | exact ok_521 f_23.2 c_25 ty_32 | omega))), ⟨(by first | exact ok_240 f_23.1 ty_32 | omega), (by first | exact ok_522 f_23.2 c_25 ty_32 | omega)⟩, (hX_21.st (St_n_suits_1_mk ⟨x_19, x_20, G_15, y_32, x_20, G_27, rfl, rfl, f_23, hB_G_15, ⟨c_25, ⟨r_26, G_27, hX_30, (Or.inl ⟨c_31, ⟨y_32, ty_32, ⟨rfl, rfl, rfl⟩⟩⟩)⟩⟩⟩)), hW, hB_G_27, hF, (Fr.call9 (rs := []) (fs := []) (Fr.call9 (rs := []) (fs := []) Fr.rf hq_16 rfl rfl) hq_28 rfl rfl), hS, lv_sub hl [0, 1, 2, 3, 4, 5, 6] rfl⟩
        · have c_31 : 0 < r_26.toInt := xI_nle rfl rfl c_31
          refine lv_iload_n hx hb dX12_suits_50 rfl (lv_at hl 4 rfl) ?_
          refine lv_iload hx hb dX12_suits_51 (lv_at hl 5 rfl) ?_
          refine lv_iload hx hb dX12_suits_53 (lv_at hl 6 rfl) ?_
          refine lv_iload hx hb dX12_suits_55 (lv_at hl 0 rfl) ?_
          refine S_calli (va_runS (As := [.int p2, .int p3, .int p4, .int x_19]) (rest := []) ⟨hx, hb, hml, hown, hts⟩ (n_beginOf l D k A a z G_27 p2 p3 p4 x_19 ⟨(by first | exact ok_514 f_13.1 f_13.2 hp_11 c_14 | omega), (by first | exact ok_515 f_13.1 f_13.2 hp_11 c_14 | omega)⟩ ⟨(by first | exact ok_516 f_13.1 f_13.2 hp_11 c_14 | omega), (by first | exact ok_517 f_13.1 f_13.2 hp_11 c_14 | omega)⟩ ⟨(by first | exact ok_518 f_6.1 f_6.2 hp_4 c_7 | omega), (by first | exact ok_519 f_6.1 f_6.2 hp_4 c_7 | omega)⟩ ⟨(by first | exact f_23.1 | omega), (by first | exact ok_520 f_23.2 | omega)⟩) (va_cwS 4 hts (gd_S hgd m1920 m1921 m131 m1922) rfl rfl rfl hd_X12_beginOf.2 ⟨Nat.le_of_ble_eq_true rfl, Nat.le_of_ble_eq_true rfl⟩) (pre_S hW hB_G_27 hK hZ hS) rfl rfl hl.1 rfl (lv_room (Nat.le_of_ble_eq_true rfl)) dX12_suits_57 ⟨Nat.le_of_ble_eq_true rfl, Nat.le_of_ble_eq_true rfl⟩) hS (fun r_33 G_34 H locs hpo hW hS => ?_)
          have hX_37 : Q_beginOf p2 p3 p4 x_19 G_27 r_33 G_34 := hpo
          obtain ⟨hB_G_34, hq_35, -⟩ := hpo
          have hF := hF.call9 hq_35 rfl rfl
          refine lv_if_le (tgt := 74) hx hb dX12_suits_60 rfl (fun c_38 => ?_) (fun c_38 => ?_)
          · have c_38 : r_33.toInt ≤ 0 := xI_le rfl rfl c_38
            obtain ⟨y_39, ey_39⟩ : ∃ q, q = x_19 + 1 := ⟨_, rfl⟩
            have ty_39 : y_39.toInt = x_19.toInt + 1 := xI_add rfl rfl ey_39 ((by first | exact ok_237 f_23.1 | omega)) ((by first | exact ok_256 f_23.2 | omega))
            refine lv_iinc (v := y_39) (lv' := [(8, .int y_39), (6, .long x_20), (1, .int p0), (2, .int p1), (3, .int p2), (4, .int p3), (5, .int p4)]) hx hb dX12_suits_74 hl (k := 0) rfl (by rw [ey_39]; rfl) (lt_b rfl) rfl (fun ls hl => ?_)
            refine lv_goto (tgt := 31) hx hb dX12_suits_77 rfl ?_
            exact ih_17 (61 - y_39.toInt : Int).toNat ((by first | (clear f_6 hp_4 c_7 f_13 hp_11 c_14 c_31 c_38; omega) | omega)) _ _ _ ⟨G_34, y_39, x_20, (Int.toNat_of_nonneg ((by first | exact ok_521 f_23.2 c_25 ty_39 | omega))), ⟨(by first | exact ok_240 f_23.1 ty_39 | omega), (by first | exact ok_522 f_23.2 c_25 ty_39 | omega)⟩, (hX_21.st (St_n_suits_1_mk ⟨x_19, x_20, G_15, y_39, x_20, G_34, rfl, rfl, f_23, hB_G_15, ⟨c_25, ⟨r_26, G_27, hX_30, (Or.inr ⟨c_31, ⟨r_33, G_34, hX_37, (Or.inl ⟨c_38, ⟨y_39, ty_39, ⟨rfl, rfl, rfl⟩⟩⟩)⟩⟩)⟩⟩⟩)), hW, hB_G_34, hF, (Fr.call9 (rs := []) (fs := []) (Fr.call9 (rs := []) (fs := []) (Fr.call9 (rs := []) (fs := []) Fr.rf hq_16 rfl rfl) hq_28 rfl rfl) hq_35 rfl rfl), hS, lv_sub hl [0, 1, 2, 3, 4, 5, 6] rfl⟩
          · have c_38 : 0 < r_33.toInt := xI_nle rfl rfl c_38
            refine lv_lload hx hb dX12_suits_63 (lv_at hl 1 rfl) ?_
            refine lv_lconst (v := 1) hx hb dX12_suits_65 (by decide) ?_
            refine lv_iload hx hb dX12_suits_66 (lv_at hl 0 rfl) ?_
            refine ic_1 hx hb dX12_suits_68 ?_
            refine lv_isub hx hb dX12_suits_69 ?_
            refine lv_topi (fun y_40 ey_40 => ?_)
            have ty_40 : y_40.toInt = x_19.toInt - 1 := xI_sub rfl rfl ey_40 ((by first | exact ok_275 f_23.1 | omega)) ((by first | exact ok_523 f_23.2 | omega))
            refine lv_lshl hx hb dX12_suits_70 rfl ?_
            refine lv_topl (fun y_41 ey_41 => ?_)
            refine lv_lor hx hb dX12_suits_71 ?_
            refine lv_topl (fun y_42 ey_42 => ?_)
            refine lv_lstore (lv' := [(6, .long y_42), (8, .int x_19), (1, .int p0), (2, .int p1), (3, .int p2), (4, .int p3), (5, .int p4)]) hx hb dX12_suits_72 hl (lt_b rfl) rfl (fun ls hl => ?_)
            obtain ⟨y_43, ey_43⟩ : ∃ q, q = x_19 + 1 := ⟨_, rfl⟩
            have ty_43 : y_43.toInt = x_19.toInt + 1 := xI_add rfl rfl ey_43 ((by first | exact ok_237 f_23.1 | omega)) ((by first | exact ok_256 f_23.2 | omega))
            refine lv_iinc (v := y_43) (lv' := [(8, .int y_43), (6, .long y_42), (1, .int p0), (2, .int p1), (3, .int p2), (4, .int p3), (5, .int p4)]) hx hb dX12_suits_74 hl (k := 1) rfl (by rw [ey_43]; rfl) (lt_b rfl) rfl (fun ls hl => ?_)
            refine lv_goto (tgt := 31) hx hb dX12_suits_77 rfl ?_
            exact ih_17 (61 - y_43.toInt : Int).toNat ((by first | (clear f_6 hp_4 c_7 f_13 hp_11 c_14 c_31 c_38; omega) | omega)) _ _ _ ⟨G_34, y_43, y_42, (Int.toNat_of_nonneg ((by first | exact ok_521 f_23.2 c_25 ty_43 | omega))), ⟨(by first | exact ok_240 f_23.1 ty_43 | omega), (by first | exact ok_522 f_23.2 c_25 ty_43 | omega)⟩, (hX_21.st (St_n_suits_1_mk ⟨x_19, x_20, G_15, y_43, y_42, G_34, rfl, rfl, f_23, hB_G_15, ⟨c_25, ⟨r_26, G_27, hX_30, (Or.inr ⟨c_31, ⟨r_33, G_34, hX_37, (Or.inr ⟨c_38, ⟨y_40, ty_40, ⟨y_41, ey_41, ⟨y_42, ey_42, ⟨y_43, ty_43, ⟨rfl, rfl, rfl⟩⟩⟩⟩⟩⟩)⟩⟩)⟩⟩⟩)), hW, hB_G_34, hF, (Fr.call9 (rs := []) (fs := []) (Fr.call9 (rs := []) (fs := []) (Fr.call9 (rs := []) (fs := []) Fr.rf hq_16 rfl rfl) hq_28 rfl rfl) hq_35 rfl rfl), hS, lv_sub hl [0, 1, 2, 3, 4, 5, 6] rfl⟩
    · have c_14 : r_8.toInt = 0 := xI_eq rfl rfl c_14
      refine lv_ldc2 (v := (-1)) hx hb hown (hg (Cond.constantLong RX12 517 (-1)) m1874) dX12_suits_21 ?_
      exact W.lret (v := (-1)) hx hb hr (fun t ht _ => ⟨⟨(-1), G_9, rfl, (Q_suits_mk ⟨hB_G_9, hF, ⟨r_1, G_2, hX_5, (Or.inr ⟨c_7, ⟨r_8, G_9, hX_12, (Or.inl ⟨c_14, ⟨rfl, rfl⟩⟩)⟩⟩)⟩⟩), wd_t ht hW⟩, hS.F ht⟩) hS.2.2 dX12_suits_24

theorem m1339 : Cond.fieldLink RX12 45 "SlabWalkModel" "nMarks" "[I" ∈ gd := gdc_6_1 7 rfl gw_fieldLink
theorem m1340 : Cond.fieldLink RX12 48 "SlabWalkModel" "nNths" "[I" ∈ gd := gdc_6_1 8 rfl gw_fieldLink
theorem m1341 : Cond.fieldLink RX12 51 "SlabWalkModel" "nInches" "[I" ∈ gd := gdc_6_1 9 rfl gw_fieldLink
theorem m1342 : Cond.fieldLink RX12 54 "SlabWalkModel" "nLongs" "[I" ∈ gd := gdc_6_1 10 rfl gw_fieldLink
theorem m1343 : Cond.fieldLink RX12 57 "SlabWalkModel" "nLength" "[I" ∈ gd := gdc_6_1 11 rfl gw_fieldLink
theorem m1359 : Cond.fieldLink RX12 359 "SlabWalkModel" "nStreets" "I" ∈ gd := gdc_6_2 11 rfl gw_fieldLink
noncomputable def rbX12_pave_0 : List (Nat × List Nat) := [(0, [3]), (1, [54, 4]), (3, [21, 4]), (5, [29]), (6, [162, 0, 75]), (9, [17, 1, 144]), (12, [42]), (13, [180, 1, 103]), (16, [104]), (17, [42]), (18, [180, 0, 57]), (21, [42]), (22, [180, 1, 103]), (25, [46]), (26, [96]), (27, [54, 5]), (29, [42]), (30, [180, 0, 45]), (33, [21, 5]), (35, [27]), (36, [79]), (37, [42]), (38, [180, 0, 48]), (41, [21, 5])]
theorem rcX12_pave_0 : dgo (lb cX12_pave) 0 rbX12_pave_0 = true := by decide +kernel
theorem dX12_pave_0 : decode cX12_pave 0 = .ok (.iconst 0, 1) := dk_3 (dw rcX12_pave_0 0 rfl)
theorem dX12_pave_1 : decode cX12_pave 1 = .ok (.istore 4, 2) := dk_54 (dw rcX12_pave_0 1 rfl)
theorem dX12_pave_3 : decode cX12_pave 3 = .ok (.iload 4, 2) := dk_21 (dw rcX12_pave_0 2 rfl)
theorem dX12_pave_5 : decode cX12_pave 5 = .ok (.iload_n 3, 1) := dk_29 (dw rcX12_pave_0 3 rfl)
theorem dX12_pave_6 : decode cX12_pave 6 = .ok (.if_icmp .ge 75, 3) := dk_162 (dw rcX12_pave_0 4 rfl) rfl
theorem dX12_pave_9 : decode cX12_pave 9 = .ok (.sipush 400, 3) := dk_17 (dw rcX12_pave_0 5 rfl) rfl
theorem dX12_pave_12 : decode cX12_pave 12 = .ok (.aload_n 0, 1) := dk_42 (dw rcX12_pave_0 6 rfl)
theorem dX12_pave_13 : decode cX12_pave 13 = .ok (.getfield 359, 3) := dk_180 (dw rcX12_pave_0 7 rfl) rfl
theorem dX12_pave_16 : decode cX12_pave 16 = .ok (.imul, 1) := dk_104 (dw rcX12_pave_0 8 rfl)
theorem dX12_pave_17 : decode cX12_pave 17 = .ok (.aload_n 0, 1) := dk_42 (dw rcX12_pave_0 9 rfl)
theorem dX12_pave_18 : decode cX12_pave 18 = .ok (.getfield 57, 3) := dk_180 (dw rcX12_pave_0 10 rfl) rfl
theorem dX12_pave_21 : decode cX12_pave 21 = .ok (.aload_n 0, 1) := dk_42 (dw rcX12_pave_0 11 rfl)
theorem dX12_pave_22 : decode cX12_pave 22 = .ok (.getfield 359, 3) := dk_180 (dw rcX12_pave_0 12 rfl) rfl
theorem dX12_pave_25 : decode cX12_pave 25 = .ok (.iaload, 1) := dk_46 (dw rcX12_pave_0 13 rfl)
theorem dX12_pave_26 : decode cX12_pave 26 = .ok (.iadd, 1) := dk_96 (dw rcX12_pave_0 14 rfl)
theorem dX12_pave_27 : decode cX12_pave 27 = .ok (.istore 5, 2) := dk_54 (dw rcX12_pave_0 15 rfl)
theorem dX12_pave_29 : decode cX12_pave 29 = .ok (.aload_n 0, 1) := dk_42 (dw rcX12_pave_0 16 rfl)
theorem dX12_pave_30 : decode cX12_pave 30 = .ok (.getfield 45, 3) := dk_180 (dw rcX12_pave_0 17 rfl) rfl
theorem dX12_pave_33 : decode cX12_pave 33 = .ok (.iload 5, 2) := dk_21 (dw rcX12_pave_0 18 rfl)
theorem dX12_pave_35 : decode cX12_pave 35 = .ok (.iload_n 1, 1) := dk_27 (dw rcX12_pave_0 19 rfl)
theorem dX12_pave_36 : decode cX12_pave 36 = .ok (.iastore, 1) := dk_79 (dw rcX12_pave_0 20 rfl)
theorem dX12_pave_37 : decode cX12_pave 37 = .ok (.aload_n 0, 1) := dk_42 (dw rcX12_pave_0 21 rfl)
theorem dX12_pave_38 : decode cX12_pave 38 = .ok (.getfield 48, 3) := dk_180 (dw rcX12_pave_0 22 rfl) rfl
theorem dX12_pave_41 : decode cX12_pave 41 = .ok (.iload 5, 2) := dk_21 (dw rcX12_pave_0 23 rfl)
noncomputable def rbX12_pave_43 : List (Nat × List Nat) := [(43, [28]), (44, [79]), (45, [42]), (46, [180, 0, 51]), (49, [21, 5]), (51, [21, 4]), (53, [79]), (54, [42]), (55, [180, 0, 54]), (58, [21, 5]), (60, [29]), (61, [79]), (62, [42]), (63, [180, 0, 57]), (66, [42]), (67, [180, 1, 103]), (70, [92]), (71, [46]), (72, [4]), (73, [96]), (74, [79]), (75, [132, 4, 1]), (78, [167, 255, 181]), (81, [177])]
theorem rcX12_pave_43 : dgo (lb cX12_pave) 0 rbX12_pave_43 = true := by decide +kernel
theorem dX12_pave_43 : decode cX12_pave 43 = .ok (.iload_n 2, 1) := dk_28 (dw rcX12_pave_43 0 rfl)
theorem dX12_pave_44 : decode cX12_pave 44 = .ok (.iastore, 1) := dk_79 (dw rcX12_pave_43 1 rfl)
theorem dX12_pave_45 : decode cX12_pave 45 = .ok (.aload_n 0, 1) := dk_42 (dw rcX12_pave_43 2 rfl)
theorem dX12_pave_46 : decode cX12_pave 46 = .ok (.getfield 51, 3) := dk_180 (dw rcX12_pave_43 3 rfl) rfl
theorem dX12_pave_49 : decode cX12_pave 49 = .ok (.iload 5, 2) := dk_21 (dw rcX12_pave_43 4 rfl)
theorem dX12_pave_51 : decode cX12_pave 51 = .ok (.iload 4, 2) := dk_21 (dw rcX12_pave_43 5 rfl)
theorem dX12_pave_53 : decode cX12_pave 53 = .ok (.iastore, 1) := dk_79 (dw rcX12_pave_43 6 rfl)
theorem dX12_pave_54 : decode cX12_pave 54 = .ok (.aload_n 0, 1) := dk_42 (dw rcX12_pave_43 7 rfl)
theorem dX12_pave_55 : decode cX12_pave 55 = .ok (.getfield 54, 3) := dk_180 (dw rcX12_pave_43 8 rfl) rfl
theorem dX12_pave_58 : decode cX12_pave 58 = .ok (.iload 5, 2) := dk_21 (dw rcX12_pave_43 9 rfl)
theorem dX12_pave_60 : decode cX12_pave 60 = .ok (.iload_n 3, 1) := dk_29 (dw rcX12_pave_43 10 rfl)
theorem dX12_pave_61 : decode cX12_pave 61 = .ok (.iastore, 1) := dk_79 (dw rcX12_pave_43 11 rfl)
theorem dX12_pave_62 : decode cX12_pave 62 = .ok (.aload_n 0, 1) := dk_42 (dw rcX12_pave_43 12 rfl)
theorem dX12_pave_63 : decode cX12_pave 63 = .ok (.getfield 57, 3) := dk_180 (dw rcX12_pave_43 13 rfl) rfl
theorem dX12_pave_66 : decode cX12_pave 66 = .ok (.aload_n 0, 1) := dk_42 (dw rcX12_pave_43 14 rfl)
theorem dX12_pave_67 : decode cX12_pave 67 = .ok (.getfield 359, 3) := dk_180 (dw rcX12_pave_43 15 rfl) rfl
theorem dX12_pave_70 : decode cX12_pave 70 = .ok (.dup2, 1) := dk_92 (dw rcX12_pave_43 16 rfl)
theorem dX12_pave_71 : decode cX12_pave 71 = .ok (.iaload, 1) := dk_46 (dw rcX12_pave_43 17 rfl)
theorem dX12_pave_72 : decode cX12_pave 72 = .ok (.iconst 1, 1) := dk_4 (dw rcX12_pave_43 18 rfl)
theorem dX12_pave_73 : decode cX12_pave 73 = .ok (.iadd, 1) := dk_96 (dw rcX12_pave_43 19 rfl)
theorem dX12_pave_74 : decode cX12_pave 74 = .ok (.iastore, 1) := dk_79 (dw rcX12_pave_43 20 rfl)
theorem dX12_pave_75 : decode cX12_pave 75 = .ok (.iinc 4 1, 3) := dk_132 (dw rcX12_pave_43 21 rfl) rfl
theorem dX12_pave_78 : decode cX12_pave 78 = .ok (.goto (-75), 3) := dk_167 (dw rcX12_pave_43 22 rfl) rfl
theorem dX12_pave_81 : decode cX12_pave 81 = .ok (.return_, 1) := dk_177 (dw rcX12_pave_43 23 rfl)
set_option maxHeartbeats 4000000 in
set_option maxRecDepth 100000 in
theorem n_pave (l : Launch) (D : va_G) (k : KT) (A : Nat → Prop) (a : Nat → Nat) (z : SK) (G : GS) (p0 : Int32) (p1 : Int32) (p2 : Int32) (j0 : Nat) (hj0 : (G.1 66 45).toNatClampNeg = j0) (ha_p2 : 0 ≤ p2.toInt ∧ p2.toInt ≤ 60) (hs : (G.1 66 45).toInt < 3) (hle : (G.1 81 j0).toInt + p2.toInt ≤ 400) : Met l yX12_pave (WS yX12_pave cX12_pave 6 none) ({ frames := 0, cells := 0, slots := 0, locals := 0 }) (va_Pc [.ref (a 66), .int p0, .int p1, .int p2] (cW D k A a z G)) (va_Qv (fun (G1 : GS) => Q_pave p0 p1 p2 j0 G G1) (fun (G1 : GS) t => Wd D k A a G1 t.heap) A) 0 0 A := by
  refine Met.ofW (cc := cX12_pave) (maxL := 6) (ret := none) (by decide) rfl ?_
  intro p e s m args below meth c s₁ B hml hv
  obtain ⟨rfl, hW, hB_G, hK, hZ⟩ := hv
  have hx := B.exec
  have hb := B.bytes
  have hr := B.returns
  have hts := atoms_spec (ws := WS yX12_pave cX12_pave 6 none) B.pre
  have hgd : ∀ w ∈ gd, w ∈ WS yX12_pave cX12_pave 6 none := fun w h => List.mem_cons_of_mem _ h
  have hg : ∀ w ∈ gd, w.before _ s = true := fun w h => hts w (hgd w h)
  have hown : s.vm.findClass RX12 = some m.cls := findClass_of_methodNamed B.named
  have hS : va_S A s.heap s.heap [] := va_S.rf
  have hF : Fr [77, 78, 79, 80, 81] [] G G := Fr.rf
  have hl := lv_entry ([.ref (a 66), .int p0, .int p1, .int p2]) (n := 6) (Nat.le_of_ble_eq_true rfl)
  rw [lg_entry_eq]
  generalize (lg_sl ([.ref (a 66), .int p0, .int p1, .int p2]) ++ List.replicate (6 - (lg_sl ([.ref (a 66), .int p0, .int p1, .int p2])).length) Slot.unset).toArray = ls at hl ⊢
  have hl : lv_has ls 6 [(0, .ref (a 66)), (1, .int p0), (2, .int p1), (3, .int p2)] := hl
  subst hj0
  refine ic_0 hx hb dX12_pave_0 ?_
  refine lv_istore (lv' := [(4, .int 0), (0, .ref (a 66)), (1, .int p0), (2, .int p1), (3, .int p2)]) hx hb dX12_pave_1 hl (lt_b rfl) rfl (fun ls hl => ?_)
  have b_7 : 0 ≤ (G.1 66 45).toInt ∧ (G.1 66 45).toInt ≤ 3 := bd_66_45 hB_G
  have qc_8 : (0 : Int32).toInt = 0 := rfl
  refine loop_N (Inv := fun n H locs ls => ∃ (G_1 : GS) (x_5 : Int32), (n : Int) = 60 - x_5.toInt ∧ (0 ≤ x_5.toInt ∧ x_5.toInt ≤ 60) ∧ ((G_1.1 81 (G.1 66 45).toNatClampNeg).toInt = (G.1 81 (G.1 66 45).toNatClampNeg).toInt + x_5.toInt) ∧ (x_5.toInt ≤ p2.toInt) ∧ Rc (St_n_pave_1 p0 p1 p2 G) (0, G) (x_5, G_1) ∧ Wd D k A a G_1 H ∧ Bd G_1 ∧ Fr [77, 78, 79, 80, 81] [] G G_1 ∧ Fr [77, 78, 79, 80, 81] [] G G_1 ∧ va_S A s.heap H locs ∧ lv_has ls 6 [(4, .int x_5), (0, .ref (a 66)), (1, .int p0), (2, .int p1), (3, .int p2)]) (fun n_4 H locs ls ih_3 hI => ?_) (60 - 0 : Int).toNat ⟨G, 0, (Int.toNat_of_nonneg ((by decide))), ⟨(by decide), (by decide)⟩, ((by first | exact ok_730 | omega)), ((by first | exact ha_p2.1 | omega)), Rc.rf, hW, hB_G, hF, Fr.rf, hS, lv_sub hl [0, 1, 2, 3, 4] rfl⟩
  obtain ⟨G_1, x_5, hn_12, f_9, f_10, f_11, hX_6, hW, hB_G_1, hF, hq_2, hS, hl⟩ := hI
  refine lv_iload hx hb dX12_pave_3 (lv_at hl 0 rfl) ?_
  refine lv_iload_n hx hb dX12_pave_5 rfl (lv_at hl 4 rfl) ?_
  refine lv_icmp_ge (tgt := 81) hx hb dX12_pave_6 rfl (fun c_13 => ?_) (fun c_13 => ?_)
  · have c_13 : p2.toInt ≤ x_5.toInt := xI_le rfl rfl c_13
    exact W.vret hx hb hr (fun t ht _ => ⟨⟨G_1, rfl, (Q_pave_mk ⟨hB_G_1, hF, ((by first | exact ok_731 f_10 f_11 c_13 | omega)), ⟨x_5, G_1, hX_6, f_9, f_10, f_11, hB_G_1, hq_2, ⟨c_13, rfl⟩⟩⟩), wd_t ht hW⟩, hS.F ht⟩) hS.2.2 dX12_pave_81
  · have c_13 : x_5.toInt < p2.toInt := xI_nle rfl rfl c_13
    refine lv_sipush (v := 400) hx hb dX12_pave_9 (by decide) ?_
    refine lv_aload_n hx hb dX12_pave_12 rfl (lv_at hl 1 rfl) ?_
    refine S_getI (v := (G.1 66 45)) (C := RX12) (T := TX12) (N := 89) hx hb hg iX12 hown hK hW kd_66 rfl 45 (lt_b rfl) (hg (Cond.fieldLink RX12 359 "SlabWalkModel" "nStreets" "I") m1359) (fun _ h9 => h9) rfl ((hq_2.i9 66 45 rfl rfl).trans (rfl)) dX12_pave_13 ?_
    refine lv_imul hx hb dX12_pave_16 ?_
    refine lv_topi (fun y_14 ey_14 => ?_)
    have ty_14 : y_14.toInt = 400 * (G.1 66 45).toInt := xI_mul rfl rfl ey_14 ((by first | exact ok_732 b_7.1 | omega)) ((by first | exact ok_733 hs | omega))
    refine lv_aload_n hx hb dX12_pave_17 rfl (lv_at hl 1 rfl) ?_
    refine S_getR (n := 81) (C := RX12) (T := TX12) (N := 89) hx hb hg iX12 hown hK hW kd_66 rfl 29 (lt_b rfl) (hg (Cond.fieldLink RX12 57 "SlabWalkModel" "nLength" "[I") m1343) (fun _ h9 => h9) rfl dX12_pave_18 ?_
    refine lv_aload_n hx hb dX12_pave_21 rfl (lv_at hl 1 rfl) ?_
    refine S_getI (v := (G.1 66 45)) (C := RX12) (T := TX12) (N := 89) hx hb hg iX12 hown hK hW kd_66 rfl 45 (lt_b rfl) (hg (Cond.fieldLink RX12 359 "SlabWalkModel" "nStreets" "I") m1359) (fun _ h9 => h9) rfl ((hq_2.i9 66 45 rfl rfl).trans (rfl)) dX12_pave_22 ?_
    refine S_iald hx hb hK hW kd_81 (vin ((by first | exact b_7.1 | omega)) ((by first | exact ok_390 hs | omega))) dX12_pave_25 (fun y_15 ey_15 => ?_)
    have ty_15 : 0 ≤ y_15.toInt ∧ y_15.toInt ≤ 400 := bv_81 hB_G_1 ey_15
    have u_16 : y_15.toInt = (G_1.1 81 (G.1 66 45).toNatClampNeg).toInt := congrArg Int32.toInt (ey_15)
    refine lv_iadd hx hb dX12_pave_26 ?_
    refine lv_topi (fun y_17 ey_17 => ?_)
    have ty_17 : y_17.toInt = y_14.toInt + y_15.toInt := xI_add rfl rfl ey_17 ((by first | exact ok_734 b_7.1 ty_14 ty_15.1 | omega)) ((by first | exact ok_735 hs ty_14 ty_15.2 | omega))
    refine lv_istore (lv' := [(5, .int y_17), (4, .int x_5), (0, .ref (a 66)), (1, .int p0), (2, .int p1), (3, .int p2)]) hx hb dX12_pave_27 hl (lt_b rfl) rfl (fun ls hl => ?_)
    refine lv_aload_n hx hb dX12_pave_29 rfl (lv_at hl 2 rfl) ?_
    refine S_getR (n := 77) (C := RX12) (T := TX12) (N := 89) hx hb hg iX12 hown hK hW kd_66 rfl 25 (lt_b rfl) (hg (Cond.fieldLink RX12 45 "SlabWalkModel" "nMarks" "[I") m1339) (fun _ h9 => h9) rfl dX12_pave_30 ?_
    refine lv_iload hx hb dX12_pave_33 (lv_at hl 0 rfl) ?_
    refine lv_iload_n hx hb dX12_pave_35 rfl (lv_at hl 3 rfl) ?_
    refine S_iast hx hb hK hW hS kd_77 (vin ((by first | exact ok_736 b_7.1 ty_14 ty_15.1 ty_17 | omega)) (by omega)) dX12_pave_36 (fun G_18 H locs eG_18 hW hS => ?_)
    have hB_G_18 : Bd G_18 := hB_G_1.put (lo := (-2147483648)) (hi := 2147483647) eG_18 rfl rfl rfl (tI_rng _).1 (tI_rng _).2 (hB_G_1.2.put eG_18 rfl)
    have hF := hF.put eG_18 (Or.inl (by decide))
    refine lv_aload_n hx hb dX12_pave_37 rfl (lv_at hl 2 rfl) ?_
    refine S_getR (n := 78) (C := RX12) (T := TX12) (N := 89) hx hb hg iX12 hown hK hW kd_66 rfl 26 (lt_b rfl) (hg (Cond.fieldLink RX12 48 "SlabWalkModel" "nNths" "[I") m1340) (fun _ h9 => h9) rfl dX12_pave_38 ?_
    refine lv_iload hx hb dX12_pave_41 (lv_at hl 0 rfl) ?_
    refine lv_iload_n hx hb dX12_pave_43 rfl (lv_at hl 4 rfl) ?_
    refine S_iast hx hb hK hW hS kd_78 (vin ((by first | exact ok_736 b_7.1 ty_14 ty_15.1 ty_17 | omega)) (by omega)) dX12_pave_44 (fun G_19 H locs eG_19 hW hS => ?_)
    have hB_G_19 : Bd G_19 := hB_G_18.put (lo := (-2147483648)) (hi := 2147483647) eG_19 rfl rfl rfl (tI_rng _).1 (tI_rng _).2 (hB_G_18.2.put eG_19 rfl)
    have hF := hF.put eG_19 (Or.inl (by decide))
    refine lv_aload_n hx hb dX12_pave_45 rfl (lv_at hl 2 rfl) ?_
    refine S_getR (n := 79) (C := RX12) (T := TX12) (N := 89) hx hb hg iX12 hown hK hW kd_66 rfl 27 (lt_b rfl) (hg (Cond.fieldLink RX12 51 "SlabWalkModel" "nInches" "[I") m1341) (fun _ h9 => h9) rfl dX12_pave_46 ?_
    refine lv_iload hx hb dX12_pave_49 (lv_at hl 0 rfl) ?_
    refine lv_iload hx hb dX12_pave_51 (lv_at hl 1 rfl) ?_
    refine S_iast hx hb hK hW hS kd_79 (vin ((by first | exact ok_736 b_7.1 ty_14 ty_15.1 ty_17 | omega)) (by omega)) dX12_pave_53 (fun G_20 H locs eG_20 hW hS => ?_)
    have hB_G_20 : Bd G_20 := hB_G_19.put (lo := (-2147483648)) (hi := 2147483647) eG_20 rfl rfl rfl (tI_rng _).1 (tI_rng _).2 (hB_G_19.2.put eG_20 rfl)
    have hF := hF.put eG_20 (Or.inl (by decide))
    refine lv_aload_n hx hb dX12_pave_54 rfl (lv_at hl 2 rfl) ?_
    refine S_getR (n := 80) (C := RX12) (T := TX12) (N := 89) hx hb hg iX12 hown hK hW kd_66 rfl 28 (lt_b rfl) (hg (Cond.fieldLink RX12 54 "SlabWalkModel" "nLongs" "[I") m1342) (fun _ h9 => h9) rfl dX12_pave_55 ?_
    refine lv_iload hx hb dX12_pave_58 (lv_at hl 0 rfl) ?_
    refine lv_iload_n hx hb dX12_pave_60 rfl (lv_at hl 5 rfl) ?_
    refine S_iast hx hb hK hW hS kd_80 (vin ((by first | exact ok_736 b_7.1 ty_14 ty_15.1 ty_17 | omega)) (by omega)) dX12_pave_61 (fun G_21 H locs eG_21 hW hS => ?_)
    have hB_G_21 : Bd G_21 := hB_G_20.put (lo := (-2147483648)) (hi := 2147483647) eG_21 rfl rfl rfl (tI_rng _).1 (tI_rng _).2 (hB_G_20.2.put eG_21 rfl)
    have hF := hF.put eG_21 (Or.inl (by decide))
    refine lv_aload_n hx hb dX12_pave_62 rfl (lv_at hl 2 rfl) ?_
    refine S_getR (n := 81) (C := RX12) (T := TX12) (N := 89) hx hb hg iX12 hown hK hW kd_66 rfl 29 (lt_b rfl) (hg (Cond.fieldLink RX12 57 "SlabWalkModel" "nLength" "[I") m1343) (fun _ h9 => h9) rfl dX12_pave_63 ?_
    refine lv_aload_n hx hb dX12_pave_66 rfl (lv_at hl 2 rfl) ?_
    refine S_getI (v := (G.1 66 45)) (C := RX12) (T := TX12) (N := 89) hx hb hg iX12 hown hK hW kd_66 rfl 45 (lt_b rfl) (hg (Cond.fieldLink RX12 359 "SlabWalkModel" "nStreets" "I") m1359) (fun _ h9 => h9) rfl ((gp_ne eG_21 (fun q => absurd q.1 (Nat.ne_of_beq_eq_false rfl))).trans ((gp_ne eG_20 (fun q => absurd q.1 (Nat.ne_of_beq_eq_false rfl))).trans ((gp_ne eG_19 (fun q => absurd q.1 (Nat.ne_of_beq_eq_false rfl))).trans ((gp_ne eG_18 (fun q => absurd q.1 (Nat.ne_of_beq_eq_false rfl))).trans ((hq_2.i9 66 45 rfl rfl).trans (rfl)))))) dX12_pave_67 ?_
    refine lv_dup2_11 hx hb dX12_pave_70 rfl rfl ?_
    refine S_iald hx hb hK hW kd_81 (vin ((by first | exact b_7.1 | omega)) ((by first | exact ok_390 hs | omega))) dX12_pave_71 (fun y_22 ey_22 => ?_)
    have ty_22 : 0 ≤ y_22.toInt ∧ y_22.toInt ≤ 400 := bv_81 hB_G_21 ey_22
    have u_23 : y_22.toInt = y_15.toInt := congrArg Int32.toInt (ey_22.trans (((gp_ne eG_21 (fun q => absurd q.1 (Nat.ne_of_beq_eq_false rfl))).trans ((gp_ne eG_20 (fun q => absurd q.1 (Nat.ne_of_beq_eq_false rfl))).trans ((gp_ne eG_19 (fun q => absurd q.1 (Nat.ne_of_beq_eq_false rfl))).trans ((gp_ne eG_18 (fun q => absurd q.1 (Nat.ne_of_beq_eq_false rfl))).trans (ey_15.symm)))))))
    refine ic_1 hx hb dX12_pave_72 ?_
    refine lv_iadd hx hb dX12_pave_73 ?_
    refine lv_topi (fun y_24 ey_24 => ?_)
    have ty_24 : y_24.toInt = y_22.toInt + 1 := xI_add rfl rfl ey_24 ((by first | exact ok_21 ty_22.1 | omega)) ((by first | exact ok_40 ty_22.2 | omega))
    refine S_iast hx hb hK hW hS kd_81 (vin ((by first | exact b_7.1 | omega)) ((by first | exact ok_390 hs | omega))) dX12_pave_74 (fun G_25 H locs eG_25 hW hS => ?_)
    have hB_G_25 : Bd G_25 := hB_G_21.put (V := y_24.toInt) (lo := 0) (hi := 400) eG_25 rfl rfl rfl ((by first | exact ok_23 ty_22.1 ty_24 | omega)) (by omega) (hB_G_21.2.put eG_25 rfl)
    have hF := hF.put eG_25 (Or.inl (by decide))
    obtain ⟨y_26, ey_26⟩ : ∃ q, q = x_5 + 1 := ⟨_, rfl⟩
    have ty_26 : y_26.toInt = x_5.toInt + 1 := xI_add rfl rfl ey_26 ((by first | exact ok_21 f_9.1 | omega)) ((by first | exact ok_238 f_9.2 | omega))
    refine lv_iinc (v := y_26) (lv' := [(4, .int y_26), (5, .int y_17), (0, .ref (a 66)), (1, .int p0), (2, .int p1), (3, .int p2)]) hx hb dX12_pave_75 hl (k := 1) rfl (by rw [ey_26]; rfl) (lt_b rfl) rfl (fun ls hl => ?_)
    refine lv_goto (tgt := 3) hx hb dX12_pave_78 rfl ?_
    have g_27 : (G_25.1 81 (G.1 66 45).toNatClampNeg).toInt = y_24.toInt := by rw [show G_25.1 81 (G.1 66 45).toNatClampNeg = y_24 from (gp_eq eG_25)]
    exact ih_3 (60 - y_26.toInt : Int).toNat (by omega) _ _ _ ⟨G_25, y_26, (Int.toNat_of_nonneg ((by first | exact ok_239 ha_p2.2 f_9.2 c_13 ty_26 | omega))), ⟨(by first | exact ok_23 f_9.1 ty_26 | omega), (by first | exact ok_241 ha_p2.2 f_9.2 c_13 ty_26 | omega)⟩, ((by first | exact ok_737 f_10 u_16 u_23 ty_24 ty_26 g_27 | omega)), ((by first | exact ok_738 c_13 ty_26 | omega)), (hX_6.st (St_n_pave_1_mk ⟨x_5, G_1, y_26, G_25, rfl, rfl, f_9, f_10, f_11, hB_G_1, ⟨c_13, ⟨y_14, ty_14, ⟨y_15, ey_15, ⟨y_17, ty_17, ⟨y_22, ey_22.trans (congrFun ((rw_put eG_21 (by decide)).trans ((rw_put eG_20 (by decide)).trans ((rw_put eG_19 (by decide)).trans (rw_put eG_18 (by decide))))) _), ⟨y_24, ty_24, ⟨y_26, ty_26, ⟨rfl, (Fr.put (rs := [77, 78, 79, 80, 81]) (fs := []) (Fr.put (rs := [77, 78, 79, 80, 81]) (fs := []) (Fr.put (rs := [77, 78, 79, 80, 81]) (fs := []) (Fr.put (rs := [77, 78, 79, 80, 81]) (fs := []) (Fr.put (rs := [77, 78, 79, 80, 81]) (fs := []) Fr.rf eG_18 (Or.inl (by decide))) eG_19 (Or.inl (by decide))) eG_20 (Or.inl (by decide))) eG_21 (Or.inl (by decide))) eG_25 (Or.inl (by decide))), (rw_put eG_25 (by decide)).trans ((rw_put eG_21 (by decide)).trans ((rw_put eG_20 (by decide)).trans ((rw_put eG_19 (by decide)).trans (rw_ast eG_18)))), (rw_put eG_25 (by decide)).trans ((rw_put eG_21 (by decide)).trans ((rw_put eG_20 (by decide)).trans ((rw_ast eG_19).trans (congrArg (fun q => upd q (y_17.toNatClampNeg) p1) (rw_put eG_18 (by decide)))))), (rw_put eG_25 (by decide)).trans ((rw_put eG_21 (by decide)).trans ((rw_ast eG_20).trans (congrArg (fun q => upd q (y_17.toNatClampNeg) x_5) ((rw_put eG_19 (by decide)).trans (rw_put eG_18 (by decide)))))), (rw_put eG_25 (by decide)).trans ((rw_ast eG_21).trans (congrArg (fun q => upd q (y_17.toNatClampNeg) p2) ((rw_put eG_20 (by decide)).trans ((rw_put eG_19 (by decide)).trans (rw_put eG_18 (by decide)))))), (rw_ast eG_25).trans (congrArg (fun q => upd q ((G.1 66 45).toNatClampNeg) y_24) ((rw_put eG_21 (by decide)).trans ((rw_put eG_20 (by decide)).trans ((rw_put eG_19 (by decide)).trans (rw_put eG_18 (by decide))))))⟩⟩⟩⟩⟩⟩⟩⟩⟩)), hW, hB_G_25, hF, (Fr.put (rs := [77, 78, 79, 80, 81]) (fs := []) (Fr.put (rs := [77, 78, 79, 80, 81]) (fs := []) (Fr.put (rs := [77, 78, 79, 80, 81]) (fs := []) (Fr.put (rs := [77, 78, 79, 80, 81]) (fs := []) (Fr.put (rs := [77, 78, 79, 80, 81]) (fs := []) (Fr.call9 (rs := [77, 78, 79, 80, 81]) (fs := []) Fr.rf hq_2 rfl rfl) eG_18 (Or.inl (by decide))) eG_19 (Or.inl (by decide))) eG_20 (Or.inl (by decide))) eG_21 (Or.inl (by decide))) eG_25 (Or.inl (by decide))), hS, lv_sub hl [0, 2, 3, 4, 5] rfl⟩

theorem m85 : Cond.selects RX12 yX12_areRules yX12_areRules ∈ gd := gds_6 5 rfl
theorem m90 : Cond.selects RX12 yX12_isWalker yX12_isWalker ∈ gd := gds_6 10 rfl
theorem m92 : Cond.selects RX12 yX12_doesStand yX12_doesStand ∈ gd := gds_6 12 rfl
theorem m1369 : Cond.fieldLink RX12 105 "SlabWalkModel" "hand" "I" ∈ gd := gdc_6_3 5 rfl gw_fieldLink
theorem m1370 : Cond.fieldLink RX12 108 "SlabWalkModel" "slack" "I" ∈ gd := gdc_6_3 6 rfl gw_fieldLink
theorem m1372 : Cond.fieldLink RX12 115 "SlabWalkModel" "lawful" "[Z" ∈ gd := gdc_6_3 8 rfl gw_fieldLink
theorem m1373 : Cond.fieldLink RX12 469 "SlabWalkModel" "inchesOf" "I" ∈ gd := gdc_6_3 9 rfl gw_fieldLink
theorem m1374 : Cond.fieldLink RX12 472 "SlabWalkModel" "foot" "I" ∈ gd := gdc_6_3 10 rfl gw_fieldLink
theorem m1375 : Cond.fieldLink RX12 475 "SlabWalkModel" "least" "I" ∈ gd := gdc_6_3 11 rfl gw_fieldLink
theorem m1376 : Cond.fieldLink RX12 478 "SlabWalkModel" "most" "I" ∈ gd := gdc_6_3 12 rfl gw_fieldLink
theorem m1377 : Cond.fieldLink RX12 481 "SlabWalkModel" "leap" "I" ∈ gd := gdc_6_3 13 rfl gw_fieldLink
theorem m1378 : Cond.fieldLink RX12 118 "SlabWalkModel" "need" "[I" ∈ gd := gdc_6_3 14 rfl gw_fieldLink
theorem m1381 : Cond.fieldLink RX12 124 "SlabWalkModel" "ways" "[J" ∈ gd := gdc_6_4 1 rfl gw_fieldLink
theorem m1382 : Cond.fieldLink RX12 127 "SlabWalkModel" "next" "[J" ∈ gd := gdc_6_4 2 rfl gw_fieldLink
theorem m1387 : Cond.fieldLink RX12 142 "SlabWalkModel" "hasWays" "[Z" ∈ gd := gdc_6_4 7 rfl gw_fieldLink
theorem m1388 : Cond.fieldLink RX12 145 "SlabWalkModel" "wins" "[Z" ∈ gd := gdc_6_4 8 rfl gw_fieldLink
theorem m1389 : Cond.fieldLink RX12 148 "SlabWalkModel" "winsBy" "[I" ∈ gd := gdc_6_4 9 rfl gw_fieldLink
theorem m1799 : Cond.methodLink RX12 463 yX12_areRules ∈ gd := gdc_8_0 3 rfl gw_methodLink
theorem m1801 : Cond.instanceMethod yX12_areRules ∈ gd := gdc_8_0 5 rfl gw_instanceMethod
theorem m1802 : Cond.code yX12_areRules cX12_areRules 2 (some .boolean) ∈ gd := gdc_8_0 6 rfl gw_code
theorem m1830 : Cond.methodLink RX12 487 yX12_isWalker ∈ gd := gdc_8_2 2 rfl gw_methodLink
theorem m1832 : Cond.instanceMethod yX12_isWalker ∈ gd := gdc_8_2 4 rfl gw_instanceMethod
theorem m1833 : Cond.code yX12_isWalker cX12_isWalker 2 (some .boolean) ∈ gd := gdc_8_2 5 rfl gw_code
theorem m1838 : Cond.methodLink RX12 484 yX12_doesStand ∈ gd := gdc_8_2 10 rfl gw_methodLink
theorem m1840 : Cond.instanceMethod yX12_doesStand ∈ gd := gdc_8_2 12 rfl gw_instanceMethod
theorem m1841 : Cond.code yX12_doesStand cX12_doesStand 2 (some .boolean) ∈ gd := gdc_8_2 13 rfl gw_code
theorem m1879 : Cond.methodLink RX12 522 yX12_capped ∈ gd := gdc_8_5 3 rfl gw_methodLink
theorem m1880 : Cond.static yX12_capped ∈ gd := gdc_8_5 4 rfl gw_static
theorem m1881 : Cond.code yX12_capped cX12_capped 2 (some .long) ∈ gd := gdc_8_5 5 rfl gw_code
theorem m1882 : Cond.constantLong RX12 515 1000000000000000 ∈ gd := gdc_8_5 6 rfl gw_constantLong
noncomputable def rbX12_capped_0 : List (Nat × List Nat) := [(0, [30]), (1, [20, 2, 3]), (4, [148]), (5, [158, 0, 9]), (8, [20, 2, 3]), (11, [167, 0, 4]), (14, [30]), (15, [173])]
theorem rcX12_capped_0 : dgo (lb cX12_capped) 0 rbX12_capped_0 = true := by decide +kernel
theorem dX12_capped_0 : decode cX12_capped 0 = .ok (.lload_n 0, 1) := dk_30 (dw rcX12_capped_0 0 rfl)
theorem dX12_capped_1 : decode cX12_capped 1 = .ok (.ldc2_w 515, 3) := dk_20 (dw rcX12_capped_0 1 rfl) rfl
theorem dX12_capped_4 : decode cX12_capped 4 = .ok (.lcmp, 1) := dk_148 (dw rcX12_capped_0 2 rfl)
theorem dX12_capped_5 : decode cX12_capped 5 = .ok (.ifCond .le 9, 3) := dk_158 (dw rcX12_capped_0 3 rfl) rfl
theorem dX12_capped_8 : decode cX12_capped 8 = .ok (.ldc2_w 515, 3) := dk_20 (dw rcX12_capped_0 4 rfl) rfl
theorem dX12_capped_11 : decode cX12_capped 11 = .ok (.goto 4, 3) := dk_167 (dw rcX12_capped_0 5 rfl) rfl
theorem dX12_capped_14 : decode cX12_capped 14 = .ok (.lload_n 0, 1) := dk_30 (dw rcX12_capped_0 6 rfl)
theorem dX12_capped_15 : decode cX12_capped 15 = .ok (.lreturn, 1) := dk_173 (dw rcX12_capped_0 7 rfl)
noncomputable def rbX12_doesStand_0 : List (Nat × List Nat) := [(0, [27]), (1, [155, 0, 20]), (4, [27]), (5, [42]), (6, [180, 1, 213]), (9, [42]), (10, [180, 1, 216]), (13, [100]), (14, [163, 0, 7]), (17, [4]), (18, [167, 0, 4]), (21, [3]), (22, [172])]
theorem rcX12_doesStand_0 : dgo (lb cX12_doesStand) 0 rbX12_doesStand_0 = true := by decide +kernel
theorem dX12_doesStand_0 : decode cX12_doesStand 0 = .ok (.iload_n 1, 1) := dk_27 (dw rcX12_doesStand_0 0 rfl)
theorem dX12_doesStand_1 : decode cX12_doesStand 1 = .ok (.ifCond .lt 20, 3) := dk_155 (dw rcX12_doesStand_0 1 rfl) rfl
theorem dX12_doesStand_4 : decode cX12_doesStand 4 = .ok (.iload_n 1, 1) := dk_27 (dw rcX12_doesStand_0 2 rfl)
theorem dX12_doesStand_5 : decode cX12_doesStand 5 = .ok (.aload_n 0, 1) := dk_42 (dw rcX12_doesStand_0 3 rfl)
theorem dX12_doesStand_6 : decode cX12_doesStand 6 = .ok (.getfield 469, 3) := dk_180 (dw rcX12_doesStand_0 4 rfl) rfl
theorem dX12_doesStand_9 : decode cX12_doesStand 9 = .ok (.aload_n 0, 1) := dk_42 (dw rcX12_doesStand_0 5 rfl)
theorem dX12_doesStand_10 : decode cX12_doesStand 10 = .ok (.getfield 472, 3) := dk_180 (dw rcX12_doesStand_0 6 rfl) rfl
theorem dX12_doesStand_13 : decode cX12_doesStand 13 = .ok (.isub, 1) := dk_100 (dw rcX12_doesStand_0 7 rfl)
theorem dX12_doesStand_14 : decode cX12_doesStand 14 = .ok (.if_icmp .gt 7, 3) := dk_163 (dw rcX12_doesStand_0 8 rfl) rfl
theorem dX12_doesStand_17 : decode cX12_doesStand 17 = .ok (.iconst 1, 1) := dk_4 (dw rcX12_doesStand_0 9 rfl)
theorem dX12_doesStand_18 : decode cX12_doesStand 18 = .ok (.goto 4, 3) := dk_167 (dw rcX12_doesStand_0 10 rfl) rfl
theorem dX12_doesStand_21 : decode cX12_doesStand 21 = .ok (.iconst 0, 1) := dk_3 (dw rcX12_doesStand_0 11 rfl)
theorem dX12_doesStand_22 : decode cX12_doesStand 22 = .ok (.ireturn, 1) := dk_172 (dw rcX12_doesStand_0 12 rfl)
noncomputable def rbX12_goOn_0 : List (Nat × List Nat) := [(0, [27]), (1, [5]), (2, [108]), (3, [61]), (4, [42]), (5, [180, 1, 219]), (8, [62]), (9, [29]), (10, [27]), (11, [5]), (12, [112]), (13, [4]), (14, [160, 0, 10]), (17, [42]), (18, [180, 1, 222]), (21, [167, 0, 7]), (24, [42]), (25, [180, 1, 225]), (28, [163, 0, 71]), (31, [42]), (32, [180, 0, 115]), (35, [28]), (36, [29]), (37, [96])]
theorem rcX12_goOn_0 : dgo (lb cX12_goOn) 0 rbX12_goOn_0 = true := by decide +kernel
theorem dX12_goOn_0 : decode cX12_goOn 0 = .ok (.iload_n 1, 1) := dk_27 (dw rcX12_goOn_0 0 rfl)
theorem dX12_goOn_1 : decode cX12_goOn 1 = .ok (.iconst 2, 1) := dk_5 (dw rcX12_goOn_0 1 rfl)
theorem dX12_goOn_2 : decode cX12_goOn 2 = .ok (.idiv, 1) := dk_108 (dw rcX12_goOn_0 2 rfl)
theorem dX12_goOn_3 : decode cX12_goOn 3 = .ok (.istore_n 2, 1) := dk_61 (dw rcX12_goOn_0 3 rfl)
theorem dX12_goOn_4 : decode cX12_goOn 4 = .ok (.aload_n 0, 1) := dk_42 (dw rcX12_goOn_0 4 rfl)
theorem dX12_goOn_5 : decode cX12_goOn 5 = .ok (.getfield 475, 3) := dk_180 (dw rcX12_goOn_0 5 rfl) rfl
theorem dX12_goOn_8 : decode cX12_goOn 8 = .ok (.istore_n 3, 1) := dk_62 (dw rcX12_goOn_0 6 rfl)
theorem dX12_goOn_9 : decode cX12_goOn 9 = .ok (.iload_n 3, 1) := dk_29 (dw rcX12_goOn_0 7 rfl)
theorem dX12_goOn_10 : decode cX12_goOn 10 = .ok (.iload_n 1, 1) := dk_27 (dw rcX12_goOn_0 8 rfl)
theorem dX12_goOn_11 : decode cX12_goOn 11 = .ok (.iconst 2, 1) := dk_5 (dw rcX12_goOn_0 9 rfl)
theorem dX12_goOn_12 : decode cX12_goOn 12 = .ok (.irem, 1) := dk_112 (dw rcX12_goOn_0 10 rfl)
theorem dX12_goOn_13 : decode cX12_goOn 13 = .ok (.iconst 1, 1) := dk_4 (dw rcX12_goOn_0 11 rfl)
theorem dX12_goOn_14 : decode cX12_goOn 14 = .ok (.if_icmp .ne 10, 3) := dk_160 (dw rcX12_goOn_0 12 rfl) rfl
theorem dX12_goOn_17 : decode cX12_goOn 17 = .ok (.aload_n 0, 1) := dk_42 (dw rcX12_goOn_0 13 rfl)
theorem dX12_goOn_18 : decode cX12_goOn 18 = .ok (.getfield 478, 3) := dk_180 (dw rcX12_goOn_0 14 rfl) rfl
theorem dX12_goOn_21 : decode cX12_goOn 21 = .ok (.goto 7, 3) := dk_167 (dw rcX12_goOn_0 15 rfl) rfl
theorem dX12_goOn_24 : decode cX12_goOn 24 = .ok (.aload_n 0, 1) := dk_42 (dw rcX12_goOn_0 16 rfl)
theorem dX12_goOn_25 : decode cX12_goOn 25 = .ok (.getfield 481, 3) := dk_180 (dw rcX12_goOn_0 17 rfl) rfl
theorem dX12_goOn_28 : decode cX12_goOn 28 = .ok (.if_icmp .gt 71, 3) := dk_163 (dw rcX12_goOn_0 18 rfl) rfl
theorem dX12_goOn_31 : decode cX12_goOn 31 = .ok (.aload_n 0, 1) := dk_42 (dw rcX12_goOn_0 19 rfl)
theorem dX12_goOn_32 : decode cX12_goOn 32 = .ok (.getfield 115, 3) := dk_180 (dw rcX12_goOn_0 20 rfl) rfl
theorem dX12_goOn_35 : decode cX12_goOn 35 = .ok (.iload_n 2, 1) := dk_28 (dw rcX12_goOn_0 21 rfl)
theorem dX12_goOn_36 : decode cX12_goOn 36 = .ok (.iload_n 3, 1) := dk_29 (dw rcX12_goOn_0 22 rfl)
theorem dX12_goOn_37 : decode cX12_goOn 37 = .ok (.iadd, 1) := dk_96 (dw rcX12_goOn_0 23 rfl)
noncomputable def rbX12_goOn_38 : List (Nat × List Nat) := [(38, [51]), (39, [154, 0, 6]), (42, [167, 0, 51]), (45, [5]), (46, [28]), (47, [29]), (48, [96]), (49, [104]), (50, [29]), (51, [42]), (52, [180, 1, 222]), (55, [164, 0, 7]), (58, [4]), (59, [167, 0, 4]), (62, [3]), (63, [184, 1, 92]), (66, [96]), (67, [54, 4]), (69, [42]), (70, [180, 0, 127]), (73, [21, 4]), (75, [42]), (76, [180, 0, 127]), (79, [21, 4])]
theorem rcX12_goOn_38 : dgo (lb cX12_goOn) 0 rbX12_goOn_38 = true := by decide +kernel
theorem dX12_goOn_38 : decode cX12_goOn 38 = .ok (.baload, 1) := dk_51 (dw rcX12_goOn_38 0 rfl)
theorem dX12_goOn_39 : decode cX12_goOn 39 = .ok (.ifCond .ne 6, 3) := dk_154 (dw rcX12_goOn_38 1 rfl) rfl
theorem dX12_goOn_42 : decode cX12_goOn 42 = .ok (.goto 51, 3) := dk_167 (dw rcX12_goOn_38 2 rfl) rfl
theorem dX12_goOn_45 : decode cX12_goOn 45 = .ok (.iconst 2, 1) := dk_5 (dw rcX12_goOn_38 3 rfl)
theorem dX12_goOn_46 : decode cX12_goOn 46 = .ok (.iload_n 2, 1) := dk_28 (dw rcX12_goOn_38 4 rfl)
theorem dX12_goOn_47 : decode cX12_goOn 47 = .ok (.iload_n 3, 1) := dk_29 (dw rcX12_goOn_38 5 rfl)
theorem dX12_goOn_48 : decode cX12_goOn 48 = .ok (.iadd, 1) := dk_96 (dw rcX12_goOn_38 6 rfl)
theorem dX12_goOn_49 : decode cX12_goOn 49 = .ok (.imul, 1) := dk_104 (dw rcX12_goOn_38 7 rfl)
theorem dX12_goOn_50 : decode cX12_goOn 50 = .ok (.iload_n 3, 1) := dk_29 (dw rcX12_goOn_38 8 rfl)
theorem dX12_goOn_51 : decode cX12_goOn 51 = .ok (.aload_n 0, 1) := dk_42 (dw rcX12_goOn_38 9 rfl)
theorem dX12_goOn_52 : decode cX12_goOn 52 = .ok (.getfield 478, 3) := dk_180 (dw rcX12_goOn_38 10 rfl) rfl
theorem dX12_goOn_55 : decode cX12_goOn 55 = .ok (.if_icmp .le 7, 3) := dk_164 (dw rcX12_goOn_38 11 rfl) rfl
theorem dX12_goOn_58 : decode cX12_goOn 58 = .ok (.iconst 1, 1) := dk_4 (dw rcX12_goOn_38 12 rfl)
theorem dX12_goOn_59 : decode cX12_goOn 59 = .ok (.goto 4, 3) := dk_167 (dw rcX12_goOn_38 13 rfl) rfl
theorem dX12_goOn_62 : decode cX12_goOn 62 = .ok (.iconst 0, 1) := dk_3 (dw rcX12_goOn_38 14 rfl)
theorem dX12_goOn_63 : decode cX12_goOn 63 = .ok (.invokestatic 348, 3) := dk_184 (dw rcX12_goOn_38 15 rfl) rfl
theorem dX12_goOn_66 : decode cX12_goOn 66 = .ok (.iadd, 1) := dk_96 (dw rcX12_goOn_38 16 rfl)
theorem dX12_goOn_67 : decode cX12_goOn 67 = .ok (.istore 4, 2) := dk_54 (dw rcX12_goOn_38 17 rfl)
theorem dX12_goOn_69 : decode cX12_goOn 69 = .ok (.aload_n 0, 1) := dk_42 (dw rcX12_goOn_38 18 rfl)
theorem dX12_goOn_70 : decode cX12_goOn 70 = .ok (.getfield 127, 3) := dk_180 (dw rcX12_goOn_38 19 rfl) rfl
theorem dX12_goOn_73 : decode cX12_goOn 73 = .ok (.iload 4, 2) := dk_21 (dw rcX12_goOn_38 20 rfl)
theorem dX12_goOn_75 : decode cX12_goOn 75 = .ok (.aload_n 0, 1) := dk_42 (dw rcX12_goOn_38 21 rfl)
theorem dX12_goOn_76 : decode cX12_goOn 76 = .ok (.getfield 127, 3) := dk_180 (dw rcX12_goOn_38 22 rfl) rfl
theorem dX12_goOn_79 : decode cX12_goOn 79 = .ok (.iload 4, 2) := dk_21 (dw rcX12_goOn_38 23 rfl)
noncomputable def rbX12_goOn_81 : List (Nat × List Nat) := [(81, [47]), (82, [42]), (83, [180, 0, 124]), (86, [27]), (87, [47]), (88, [97]), (89, [184, 2, 10]), (92, [80]), (93, [132, 3, 1]), (96, [167, 255, 169]), (99, [177])]
theorem rcX12_goOn_81 : dgo (lb cX12_goOn) 0 rbX12_goOn_81 = true := by decide +kernel
theorem dX12_goOn_81 : decode cX12_goOn 81 = .ok (.laload, 1) := dk_47 (dw rcX12_goOn_81 0 rfl)
theorem dX12_goOn_82 : decode cX12_goOn 82 = .ok (.aload_n 0, 1) := dk_42 (dw rcX12_goOn_81 1 rfl)
theorem dX12_goOn_83 : decode cX12_goOn 83 = .ok (.getfield 124, 3) := dk_180 (dw rcX12_goOn_81 2 rfl) rfl
theorem dX12_goOn_86 : decode cX12_goOn 86 = .ok (.iload_n 1, 1) := dk_27 (dw rcX12_goOn_81 3 rfl)
theorem dX12_goOn_87 : decode cX12_goOn 87 = .ok (.laload, 1) := dk_47 (dw rcX12_goOn_81 4 rfl)
theorem dX12_goOn_88 : decode cX12_goOn 88 = .ok (.ladd, 1) := dk_97 (dw rcX12_goOn_81 5 rfl)
theorem dX12_goOn_89 : decode cX12_goOn 89 = .ok (.invokestatic 522, 3) := dk_184 (dw rcX12_goOn_81 6 rfl) rfl
theorem dX12_goOn_92 : decode cX12_goOn 92 = .ok (.lastore, 1) := dk_80 (dw rcX12_goOn_81 7 rfl)
theorem dX12_goOn_93 : decode cX12_goOn 93 = .ok (.iinc 3 1, 3) := dk_132 (dw rcX12_goOn_81 8 rfl) rfl
theorem dX12_goOn_96 : decode cX12_goOn 96 = .ok (.goto (-87), 3) := dk_167 (dw rcX12_goOn_81 9 rfl) rfl
theorem dX12_goOn_99 : decode cX12_goOn 99 = .ok (.return_, 1) := dk_177 (dw rcX12_goOn_81 10 rfl)
noncomputable def rbX12_isAsked_0 : List (Nat × List Nat) := [(0, [42]), (1, [27]), (2, [182, 1, 231]), (5, [153, 0, 23]), (8, [42]), (9, [28]), (10, [182, 1, 197]), (13, [153, 0, 15]), (16, [42]), (17, [29]), (18, [182, 1, 207]), (21, [153, 0, 7]), (24, [4]), (25, [167, 0, 4]), (28, [3]), (29, [172])]
theorem rcX12_isAsked_0 : dgo (lb cX12_isAsked) 0 rbX12_isAsked_0 = true := by decide +kernel
theorem dX12_isAsked_0 : decode cX12_isAsked 0 = .ok (.aload_n 0, 1) := dk_42 (dw rcX12_isAsked_0 0 rfl)
theorem dX12_isAsked_1 : decode cX12_isAsked 1 = .ok (.iload_n 1, 1) := dk_27 (dw rcX12_isAsked_0 1 rfl)
theorem dX12_isAsked_2 : decode cX12_isAsked 2 = .ok (.invokevirtual 487, 3) := dk_182 (dw rcX12_isAsked_0 2 rfl) rfl
theorem dX12_isAsked_5 : decode cX12_isAsked 5 = .ok (.ifCond .eq 23, 3) := dk_153 (dw rcX12_isAsked_0 3 rfl) rfl
theorem dX12_isAsked_8 : decode cX12_isAsked 8 = .ok (.aload_n 0, 1) := dk_42 (dw rcX12_isAsked_0 4 rfl)
theorem dX12_isAsked_9 : decode cX12_isAsked 9 = .ok (.iload_n 2, 1) := dk_28 (dw rcX12_isAsked_0 5 rfl)
theorem dX12_isAsked_10 : decode cX12_isAsked 10 = .ok (.invokevirtual 453, 3) := dk_182 (dw rcX12_isAsked_0 6 rfl) rfl
theorem dX12_isAsked_13 : decode cX12_isAsked 13 = .ok (.ifCond .eq 15, 3) := dk_153 (dw rcX12_isAsked_0 7 rfl) rfl
theorem dX12_isAsked_16 : decode cX12_isAsked 16 = .ok (.aload_n 0, 1) := dk_42 (dw rcX12_isAsked_0 8 rfl)
theorem dX12_isAsked_17 : decode cX12_isAsked 17 = .ok (.iload_n 3, 1) := dk_29 (dw rcX12_isAsked_0 9 rfl)
theorem dX12_isAsked_18 : decode cX12_isAsked 18 = .ok (.invokevirtual 463, 3) := dk_182 (dw rcX12_isAsked_0 10 rfl) rfl
theorem dX12_isAsked_21 : decode cX12_isAsked 21 = .ok (.ifCond .eq 7, 3) := dk_153 (dw rcX12_isAsked_0 11 rfl) rfl
theorem dX12_isAsked_24 : decode cX12_isAsked 24 = .ok (.iconst 1, 1) := dk_4 (dw rcX12_isAsked_0 12 rfl)
theorem dX12_isAsked_25 : decode cX12_isAsked 25 = .ok (.goto 4, 3) := dk_167 (dw rcX12_isAsked_0 13 rfl) rfl
theorem dX12_isAsked_28 : decode cX12_isAsked 28 = .ok (.iconst 0, 1) := dk_3 (dw rcX12_isAsked_0 14 rfl)
theorem dX12_isAsked_29 : decode cX12_isAsked 29 = .ok (.ireturn, 1) := dk_172 (dw rcX12_isAsked_0 15 rfl)
noncomputable def rbX12_isEnd_0 : List (Nat × List Nat) := [(0, [42]), (1, [27]), (2, [42]), (3, [180, 1, 222]), (6, [96]), (7, [182, 1, 228]), (10, [154, 0, 7]), (13, [4]), (14, [167, 0, 4]), (17, [3]), (18, [172])]
theorem rcX12_isEnd_0 : dgo (lb cX12_isEnd) 0 rbX12_isEnd_0 = true := by decide +kernel
theorem dX12_isEnd_0 : decode cX12_isEnd 0 = .ok (.aload_n 0, 1) := dk_42 (dw rcX12_isEnd_0 0 rfl)
theorem dX12_isEnd_1 : decode cX12_isEnd 1 = .ok (.iload_n 1, 1) := dk_27 (dw rcX12_isEnd_0 1 rfl)
theorem dX12_isEnd_2 : decode cX12_isEnd 2 = .ok (.aload_n 0, 1) := dk_42 (dw rcX12_isEnd_0 2 rfl)
theorem dX12_isEnd_3 : decode cX12_isEnd 3 = .ok (.getfield 478, 3) := dk_180 (dw rcX12_isEnd_0 3 rfl) rfl
theorem dX12_isEnd_6 : decode cX12_isEnd 6 = .ok (.iadd, 1) := dk_96 (dw rcX12_isEnd_0 4 rfl)
theorem dX12_isEnd_7 : decode cX12_isEnd 7 = .ok (.invokevirtual 484, 3) := dk_182 (dw rcX12_isEnd_0 5 rfl) rfl
theorem dX12_isEnd_10 : decode cX12_isEnd 10 = .ok (.ifCond .ne 7, 3) := dk_154 (dw rcX12_isEnd_0 6 rfl) rfl
theorem dX12_isEnd_13 : decode cX12_isEnd 13 = .ok (.iconst 1, 1) := dk_4 (dw rcX12_isEnd_0 7 rfl)
theorem dX12_isEnd_14 : decode cX12_isEnd 14 = .ok (.goto 4, 3) := dk_167 (dw rcX12_isEnd_0 8 rfl) rfl
theorem dX12_isEnd_17 : decode cX12_isEnd 17 = .ok (.iconst 0, 1) := dk_3 (dw rcX12_isEnd_0 9 rfl)
theorem dX12_isEnd_18 : decode cX12_isEnd 18 = .ok (.ireturn, 1) := dk_172 (dw rcX12_isEnd_0 10 rfl)
noncomputable def rbX12_isHeld_0 : List (Nat × List Nat) := [(0, [27]), (1, [42]), (2, [180, 0, 105]), (5, [28]), (6, [104]), (7, [100]), (8, [42]), (9, [180, 0, 108]), (12, [163, 0, 22]), (15, [42]), (16, [180, 0, 105]), (19, [28]), (20, [104]), (21, [27]), (22, [100]), (23, [42]), (24, [180, 0, 108]), (27, [163, 0, 7]), (30, [4]), (31, [167, 0, 4]), (34, [3]), (35, [172])]
theorem rcX12_isHeld_0 : dgo (lb cX12_isHeld) 0 rbX12_isHeld_0 = true := by decide +kernel
theorem dX12_isHeld_0 : decode cX12_isHeld 0 = .ok (.iload_n 1, 1) := dk_27 (dw rcX12_isHeld_0 0 rfl)
theorem dX12_isHeld_1 : decode cX12_isHeld 1 = .ok (.aload_n 0, 1) := dk_42 (dw rcX12_isHeld_0 1 rfl)
theorem dX12_isHeld_2 : decode cX12_isHeld 2 = .ok (.getfield 105, 3) := dk_180 (dw rcX12_isHeld_0 2 rfl) rfl
theorem dX12_isHeld_5 : decode cX12_isHeld 5 = .ok (.iload_n 2, 1) := dk_28 (dw rcX12_isHeld_0 3 rfl)
theorem dX12_isHeld_6 : decode cX12_isHeld 6 = .ok (.imul, 1) := dk_104 (dw rcX12_isHeld_0 4 rfl)
theorem dX12_isHeld_7 : decode cX12_isHeld 7 = .ok (.isub, 1) := dk_100 (dw rcX12_isHeld_0 5 rfl)
theorem dX12_isHeld_8 : decode cX12_isHeld 8 = .ok (.aload_n 0, 1) := dk_42 (dw rcX12_isHeld_0 6 rfl)
theorem dX12_isHeld_9 : decode cX12_isHeld 9 = .ok (.getfield 108, 3) := dk_180 (dw rcX12_isHeld_0 7 rfl) rfl
theorem dX12_isHeld_12 : decode cX12_isHeld 12 = .ok (.if_icmp .gt 22, 3) := dk_163 (dw rcX12_isHeld_0 8 rfl) rfl
theorem dX12_isHeld_15 : decode cX12_isHeld 15 = .ok (.aload_n 0, 1) := dk_42 (dw rcX12_isHeld_0 9 rfl)
theorem dX12_isHeld_16 : decode cX12_isHeld 16 = .ok (.getfield 105, 3) := dk_180 (dw rcX12_isHeld_0 10 rfl) rfl
theorem dX12_isHeld_19 : decode cX12_isHeld 19 = .ok (.iload_n 2, 1) := dk_28 (dw rcX12_isHeld_0 11 rfl)
theorem dX12_isHeld_20 : decode cX12_isHeld 20 = .ok (.imul, 1) := dk_104 (dw rcX12_isHeld_0 12 rfl)
theorem dX12_isHeld_21 : decode cX12_isHeld 21 = .ok (.iload_n 1, 1) := dk_27 (dw rcX12_isHeld_0 13 rfl)
theorem dX12_isHeld_22 : decode cX12_isHeld 22 = .ok (.isub, 1) := dk_100 (dw rcX12_isHeld_0 14 rfl)
theorem dX12_isHeld_23 : decode cX12_isHeld 23 = .ok (.aload_n 0, 1) := dk_42 (dw rcX12_isHeld_0 15 rfl)
theorem dX12_isHeld_24 : decode cX12_isHeld 24 = .ok (.getfield 108, 3) := dk_180 (dw rcX12_isHeld_0 16 rfl) rfl
theorem dX12_isHeld_27 : decode cX12_isHeld 27 = .ok (.if_icmp .gt 7, 3) := dk_163 (dw rcX12_isHeld_0 17 rfl) rfl
theorem dX12_isHeld_30 : decode cX12_isHeld 30 = .ok (.iconst 1, 1) := dk_4 (dw rcX12_isHeld_0 18 rfl)
theorem dX12_isHeld_31 : decode cX12_isHeld 31 = .ok (.goto 4, 3) := dk_167 (dw rcX12_isHeld_0 19 rfl) rfl
theorem dX12_isHeld_34 : decode cX12_isHeld 34 = .ok (.iconst 0, 1) := dk_3 (dw rcX12_isHeld_0 20 rfl)
theorem dX12_isHeld_35 : decode cX12_isHeld 35 = .ok (.ireturn, 1) := dk_172 (dw rcX12_isHeld_0 21 rfl)
noncomputable def rbX12_lay_0 : List (Nat × List Nat) := [(0, [42]), (1, [180, 0, 121]), (4, [42]), (5, [180, 1, 190]), (8, [27]), (9, [79]), (10, [42]), (11, [89]), (12, [180, 1, 190]), (15, [4]), (16, [96]), (17, [181, 1, 190]), (20, [177])]
theorem rcX12_lay_0 : dgo (lb cX12_lay) 0 rbX12_lay_0 = true := by decide +kernel
theorem dX12_lay_0 : decode cX12_lay 0 = .ok (.aload_n 0, 1) := dk_42 (dw rcX12_lay_0 0 rfl)
theorem dX12_lay_1 : decode cX12_lay 1 = .ok (.getfield 121, 3) := dk_180 (dw rcX12_lay_0 1 rfl) rfl
theorem dX12_lay_4 : decode cX12_lay 4 = .ok (.aload_n 0, 1) := dk_42 (dw rcX12_lay_0 2 rfl)
theorem dX12_lay_5 : decode cX12_lay 5 = .ok (.getfield 446, 3) := dk_180 (dw rcX12_lay_0 3 rfl) rfl
theorem dX12_lay_8 : decode cX12_lay 8 = .ok (.iload_n 1, 1) := dk_27 (dw rcX12_lay_0 4 rfl)
theorem dX12_lay_9 : decode cX12_lay 9 = .ok (.iastore, 1) := dk_79 (dw rcX12_lay_0 5 rfl)
theorem dX12_lay_10 : decode cX12_lay 10 = .ok (.aload_n 0, 1) := dk_42 (dw rcX12_lay_0 6 rfl)
theorem dX12_lay_11 : decode cX12_lay 11 = .ok (.dup, 1) := dk_89 (dw rcX12_lay_0 7 rfl)
theorem dX12_lay_12 : decode cX12_lay 12 = .ok (.getfield 446, 3) := dk_180 (dw rcX12_lay_0 8 rfl) rfl
theorem dX12_lay_15 : decode cX12_lay 15 = .ok (.iconst 1, 1) := dk_4 (dw rcX12_lay_0 9 rfl)
theorem dX12_lay_16 : decode cX12_lay 16 = .ok (.iadd, 1) := dk_96 (dw rcX12_lay_0 10 rfl)
theorem dX12_lay_17 : decode cX12_lay 17 = .ok (.putfield 446, 3) := dk_181 (dw rcX12_lay_0 11 rfl) rfl
theorem dX12_lay_20 : decode cX12_lay 20 = .ok (.return_, 1) := dk_177 (dw rcX12_lay_0 12 rfl)
noncomputable def rbX12_layWins_0 : List (Nat × List Nat) := [(0, [42]), (1, [180, 0, 145]), (4, [27]), (5, [3]), (6, [84]), (7, [42]), (8, [180, 0, 148]), (11, [27]), (12, [2]), (13, [79]), (14, [3]), (15, [61]), (16, [28]), (17, [42]), (18, [180, 1, 175]), (21, [162, 0, 64]), (24, [42]), (25, [180, 0, 145]), (28, [27]), (29, [51]), (30, [154, 0, 55]), (33, [27]), (34, [4]), (35, [28])]
theorem rcX12_layWins_0 : dgo (lb cX12_layWins) 0 rbX12_layWins_0 = true := by decide +kernel
theorem dX12_layWins_0 : decode cX12_layWins 0 = .ok (.aload_n 0, 1) := dk_42 (dw rcX12_layWins_0 0 rfl)
theorem dX12_layWins_1 : decode cX12_layWins 1 = .ok (.getfield 145, 3) := dk_180 (dw rcX12_layWins_0 1 rfl) rfl
theorem dX12_layWins_4 : decode cX12_layWins 4 = .ok (.iload_n 1, 1) := dk_27 (dw rcX12_layWins_0 2 rfl)
theorem dX12_layWins_5 : decode cX12_layWins 5 = .ok (.iconst 0, 1) := dk_3 (dw rcX12_layWins_0 3 rfl)
theorem dX12_layWins_6 : decode cX12_layWins 6 = .ok (.bastore, 1) := dk_84 (dw rcX12_layWins_0 4 rfl)
theorem dX12_layWins_7 : decode cX12_layWins 7 = .ok (.aload_n 0, 1) := dk_42 (dw rcX12_layWins_0 5 rfl)
theorem dX12_layWins_8 : decode cX12_layWins 8 = .ok (.getfield 148, 3) := dk_180 (dw rcX12_layWins_0 6 rfl) rfl
theorem dX12_layWins_11 : decode cX12_layWins 11 = .ok (.iload_n 1, 1) := dk_27 (dw rcX12_layWins_0 7 rfl)
theorem dX12_layWins_12 : decode cX12_layWins 12 = .ok (.iconst (-1), 1) := dk_2 (dw rcX12_layWins_0 8 rfl)
theorem dX12_layWins_13 : decode cX12_layWins 13 = .ok (.iastore, 1) := dk_79 (dw rcX12_layWins_0 9 rfl)
theorem dX12_layWins_14 : decode cX12_layWins 14 = .ok (.iconst 0, 1) := dk_3 (dw rcX12_layWins_0 10 rfl)
theorem dX12_layWins_15 : decode cX12_layWins 15 = .ok (.istore_n 2, 1) := dk_61 (dw rcX12_layWins_0 11 rfl)
theorem dX12_layWins_16 : decode cX12_layWins 16 = .ok (.iload_n 2, 1) := dk_28 (dw rcX12_layWins_0 12 rfl)
theorem dX12_layWins_17 : decode cX12_layWins 17 = .ok (.aload_n 0, 1) := dk_42 (dw rcX12_layWins_0 13 rfl)
theorem dX12_layWins_18 : decode cX12_layWins 18 = .ok (.getfield 431, 3) := dk_180 (dw rcX12_layWins_0 14 rfl) rfl
theorem dX12_layWins_21 : decode cX12_layWins 21 = .ok (.if_icmp .ge 64, 3) := dk_162 (dw rcX12_layWins_0 15 rfl) rfl
theorem dX12_layWins_24 : decode cX12_layWins 24 = .ok (.aload_n 0, 1) := dk_42 (dw rcX12_layWins_0 16 rfl)
theorem dX12_layWins_25 : decode cX12_layWins 25 = .ok (.getfield 145, 3) := dk_180 (dw rcX12_layWins_0 17 rfl) rfl
theorem dX12_layWins_28 : decode cX12_layWins 28 = .ok (.iload_n 1, 1) := dk_27 (dw rcX12_layWins_0 18 rfl)
theorem dX12_layWins_29 : decode cX12_layWins 29 = .ok (.baload, 1) := dk_51 (dw rcX12_layWins_0 19 rfl)
theorem dX12_layWins_30 : decode cX12_layWins 30 = .ok (.ifCond .ne 55, 3) := dk_154 (dw rcX12_layWins_0 20 rfl) rfl
theorem dX12_layWins_33 : decode cX12_layWins 33 = .ok (.iload_n 1, 1) := dk_27 (dw rcX12_layWins_0 21 rfl)
theorem dX12_layWins_34 : decode cX12_layWins 34 = .ok (.iconst 1, 1) := dk_4 (dw rcX12_layWins_0 22 rfl)
theorem dX12_layWins_35 : decode cX12_layWins 35 = .ok (.iload_n 2, 1) := dk_28 (dw rcX12_layWins_0 23 rfl)
noncomputable def rbX12_layWins_36 : List (Nat × List Nat) := [(36, [120]), (37, [128]), (38, [62]), (39, [29]), (40, [27]), (41, [159, 0, 38]), (44, [42]), (45, [180, 0, 142]), (48, [29]), (49, [51]), (50, [153, 0, 29]), (53, [42]), (54, [180, 0, 145]), (57, [29]), (58, [51]), (59, [153, 0, 6]), (62, [167, 0, 17]), (65, [42]), (66, [180, 0, 145]), (69, [27]), (70, [4]), (71, [84]), (72, [42]), (73, [180, 0, 148])]
theorem rcX12_layWins_36 : dgo (lb cX12_layWins) 0 rbX12_layWins_36 = true := by decide +kernel
theorem dX12_layWins_36 : decode cX12_layWins 36 = .ok (.ishl, 1) := dk_120 (dw rcX12_layWins_36 0 rfl)
theorem dX12_layWins_37 : decode cX12_layWins 37 = .ok (.ior, 1) := dk_128 (dw rcX12_layWins_36 1 rfl)
theorem dX12_layWins_38 : decode cX12_layWins 38 = .ok (.istore_n 3, 1) := dk_62 (dw rcX12_layWins_36 2 rfl)
theorem dX12_layWins_39 : decode cX12_layWins 39 = .ok (.iload_n 3, 1) := dk_29 (dw rcX12_layWins_36 3 rfl)
theorem dX12_layWins_40 : decode cX12_layWins 40 = .ok (.iload_n 1, 1) := dk_27 (dw rcX12_layWins_36 4 rfl)
theorem dX12_layWins_41 : decode cX12_layWins 41 = .ok (.if_icmp .eq 38, 3) := dk_159 (dw rcX12_layWins_36 5 rfl) rfl
theorem dX12_layWins_44 : decode cX12_layWins 44 = .ok (.aload_n 0, 1) := dk_42 (dw rcX12_layWins_36 6 rfl)
theorem dX12_layWins_45 : decode cX12_layWins 45 = .ok (.getfield 142, 3) := dk_180 (dw rcX12_layWins_36 7 rfl) rfl
theorem dX12_layWins_48 : decode cX12_layWins 48 = .ok (.iload_n 3, 1) := dk_29 (dw rcX12_layWins_36 8 rfl)
theorem dX12_layWins_49 : decode cX12_layWins 49 = .ok (.baload, 1) := dk_51 (dw rcX12_layWins_36 9 rfl)
theorem dX12_layWins_50 : decode cX12_layWins 50 = .ok (.ifCond .eq 29, 3) := dk_153 (dw rcX12_layWins_36 10 rfl) rfl
theorem dX12_layWins_53 : decode cX12_layWins 53 = .ok (.aload_n 0, 1) := dk_42 (dw rcX12_layWins_36 11 rfl)
theorem dX12_layWins_54 : decode cX12_layWins 54 = .ok (.getfield 145, 3) := dk_180 (dw rcX12_layWins_36 12 rfl) rfl
theorem dX12_layWins_57 : decode cX12_layWins 57 = .ok (.iload_n 3, 1) := dk_29 (dw rcX12_layWins_36 13 rfl)
theorem dX12_layWins_58 : decode cX12_layWins 58 = .ok (.baload, 1) := dk_51 (dw rcX12_layWins_36 14 rfl)
theorem dX12_layWins_59 : decode cX12_layWins 59 = .ok (.ifCond .eq 6, 3) := dk_153 (dw rcX12_layWins_36 15 rfl) rfl
theorem dX12_layWins_62 : decode cX12_layWins 62 = .ok (.goto 17, 3) := dk_167 (dw rcX12_layWins_36 16 rfl) rfl
theorem dX12_layWins_65 : decode cX12_layWins 65 = .ok (.aload_n 0, 1) := dk_42 (dw rcX12_layWins_36 17 rfl)
theorem dX12_layWins_66 : decode cX12_layWins 66 = .ok (.getfield 145, 3) := dk_180 (dw rcX12_layWins_36 18 rfl) rfl
theorem dX12_layWins_69 : decode cX12_layWins 69 = .ok (.iload_n 1, 1) := dk_27 (dw rcX12_layWins_36 19 rfl)
theorem dX12_layWins_70 : decode cX12_layWins 70 = .ok (.iconst 1, 1) := dk_4 (dw rcX12_layWins_36 20 rfl)
theorem dX12_layWins_71 : decode cX12_layWins 71 = .ok (.bastore, 1) := dk_84 (dw rcX12_layWins_36 21 rfl)
theorem dX12_layWins_72 : decode cX12_layWins 72 = .ok (.aload_n 0, 1) := dk_42 (dw rcX12_layWins_36 22 rfl)
theorem dX12_layWins_73 : decode cX12_layWins 73 = .ok (.getfield 148, 3) := dk_180 (dw rcX12_layWins_36 23 rfl) rfl
noncomputable def rbX12_layWins_76 : List (Nat × List Nat) := [(76, [27]), (77, [28]), (78, [79]), (79, [132, 2, 1]), (82, [167, 255, 190]), (85, [177])]
theorem rcX12_layWins_76 : dgo (lb cX12_layWins) 0 rbX12_layWins_76 = true := by decide +kernel
theorem dX12_layWins_76 : decode cX12_layWins 76 = .ok (.iload_n 1, 1) := dk_27 (dw rcX12_layWins_76 0 rfl)
theorem dX12_layWins_77 : decode cX12_layWins 77 = .ok (.iload_n 2, 1) := dk_28 (dw rcX12_layWins_76 1 rfl)
theorem dX12_layWins_78 : decode cX12_layWins 78 = .ok (.iastore, 1) := dk_79 (dw rcX12_layWins_76 2 rfl)
theorem dX12_layWins_79 : decode cX12_layWins 79 = .ok (.iinc 2 1, 3) := dk_132 (dw rcX12_layWins_76 3 rfl) rfl
theorem dX12_layWins_82 : decode cX12_layWins 82 = .ok (.goto (-66), 3) := dk_167 (dw rcX12_layWins_76 4 rfl) rfl
theorem dX12_layWins_85 : decode cX12_layWins 85 = .ok (.return_, 1) := dk_177 (dw rcX12_layWins_76 5 rfl)
noncomputable def rbX12_needOf_0 : List (Nat × List Nat) := [(0, [42]), (1, [180, 0, 118]), (4, [6]), (5, [5]), (6, [27]), (7, [104]), (8, [28]), (9, [96]), (10, [104]), (11, [29]), (12, [96]), (13, [46]), (14, [172])]
theorem rcX12_needOf_0 : dgo (lb cX12_needOf) 0 rbX12_needOf_0 = true := by decide +kernel
theorem dX12_needOf_0 : decode cX12_needOf 0 = .ok (.aload_n 0, 1) := dk_42 (dw rcX12_needOf_0 0 rfl)
theorem dX12_needOf_1 : decode cX12_needOf 1 = .ok (.getfield 118, 3) := dk_180 (dw rcX12_needOf_0 1 rfl) rfl
theorem dX12_needOf_4 : decode cX12_needOf 4 = .ok (.iconst 3, 1) := dk_6 (dw rcX12_needOf_0 2 rfl)
theorem dX12_needOf_5 : decode cX12_needOf 5 = .ok (.iconst 2, 1) := dk_5 (dw rcX12_needOf_0 3 rfl)
theorem dX12_needOf_6 : decode cX12_needOf 6 = .ok (.iload_n 1, 1) := dk_27 (dw rcX12_needOf_0 4 rfl)
theorem dX12_needOf_7 : decode cX12_needOf 7 = .ok (.imul, 1) := dk_104 (dw rcX12_needOf_0 5 rfl)
theorem dX12_needOf_8 : decode cX12_needOf 8 = .ok (.iload_n 2, 1) := dk_28 (dw rcX12_needOf_0 6 rfl)
theorem dX12_needOf_9 : decode cX12_needOf 9 = .ok (.iadd, 1) := dk_96 (dw rcX12_needOf_0 7 rfl)
theorem dX12_needOf_10 : decode cX12_needOf 10 = .ok (.imul, 1) := dk_104 (dw rcX12_needOf_0 8 rfl)
theorem dX12_needOf_11 : decode cX12_needOf 11 = .ok (.iload_n 3, 1) := dk_29 (dw rcX12_needOf_0 9 rfl)
theorem dX12_needOf_12 : decode cX12_needOf 12 = .ok (.iadd, 1) := dk_96 (dw rcX12_needOf_0 10 rfl)
theorem dX12_needOf_13 : decode cX12_needOf 13 = .ok (.iaload, 1) := dk_46 (dw rcX12_needOf_0 11 rfl)
theorem dX12_needOf_14 : decode cX12_needOf 14 = .ok (.ireturn, 1) := dk_172 (dw rcX12_needOf_0 12 rfl)
noncomputable def rbX12_stands_0 : List (Nat × List Nat) := [(0, [42]), (1, [180, 0, 151]), (4, [16, 9]), (6, [46]), (7, [4]), (8, [159, 0, 12]), (11, [42]), (12, [180, 0, 115]), (15, [27]), (16, [51]), (17, [153, 0, 7]), (20, [4]), (21, [167, 0, 4]), (24, [3]), (25, [184, 1, 92]), (28, [172])]
theorem rcX12_stands_0 : dgo (lb cX12_stands) 0 rbX12_stands_0 = true := by decide +kernel
theorem dX12_stands_0 : decode cX12_stands 0 = .ok (.aload_n 0, 1) := dk_42 (dw rcX12_stands_0 0 rfl)
theorem dX12_stands_1 : decode cX12_stands 1 = .ok (.getfield 151, 3) := dk_180 (dw rcX12_stands_0 1 rfl) rfl
theorem dX12_stands_4 : decode cX12_stands 4 = .ok (.bipush 9, 2) := dk_16 (dw rcX12_stands_0 2 rfl) rfl
theorem dX12_stands_6 : decode cX12_stands 6 = .ok (.iaload, 1) := dk_46 (dw rcX12_stands_0 3 rfl)
theorem dX12_stands_7 : decode cX12_stands 7 = .ok (.iconst 1, 1) := dk_4 (dw rcX12_stands_0 4 rfl)
theorem dX12_stands_8 : decode cX12_stands 8 = .ok (.if_icmp .eq 12, 3) := dk_159 (dw rcX12_stands_0 5 rfl) rfl
theorem dX12_stands_11 : decode cX12_stands 11 = .ok (.aload_n 0, 1) := dk_42 (dw rcX12_stands_0 6 rfl)
theorem dX12_stands_12 : decode cX12_stands 12 = .ok (.getfield 115, 3) := dk_180 (dw rcX12_stands_0 7 rfl) rfl
theorem dX12_stands_15 : decode cX12_stands 15 = .ok (.iload_n 1, 1) := dk_27 (dw rcX12_stands_0 8 rfl)
theorem dX12_stands_16 : decode cX12_stands 16 = .ok (.baload, 1) := dk_51 (dw rcX12_stands_0 9 rfl)
theorem dX12_stands_17 : decode cX12_stands 17 = .ok (.ifCond .eq 7, 3) := dk_153 (dw rcX12_stands_0 10 rfl) rfl
theorem dX12_stands_20 : decode cX12_stands 20 = .ok (.iconst 1, 1) := dk_4 (dw rcX12_stands_0 11 rfl)
theorem dX12_stands_21 : decode cX12_stands 21 = .ok (.goto 4, 3) := dk_167 (dw rcX12_stands_0 12 rfl) rfl
theorem dX12_stands_24 : decode cX12_stands 24 = .ok (.iconst 0, 1) := dk_3 (dw rcX12_stands_0 13 rfl)
theorem dX12_stands_25 : decode cX12_stands 25 = .ok (.invokestatic 348, 3) := dk_184 (dw rcX12_stands_0 14 rfl) rfl
theorem dX12_stands_28 : decode cX12_stands 28 = .ok (.ireturn, 1) := dk_172 (dw rcX12_stands_0 15 rfl)
set_option maxHeartbeats 4000000 in
set_option maxRecDepth 100000 in
theorem n_stands1 (l : Launch) (D : va_G) (k : KT) (A : Nat → Prop) (a : Nat → Nat) (z : SK) (G : GS) (p0 : Int32)  : Met l yX12_doesStand (WS yX12_doesStand cX12_doesStand 2 (some .boolean)) ({ frames := 0, cells := 0, slots := 0, locals := 0 }) (va_Pc [.ref (a 66), .int p0] (cW D k A a z G)) (va_Qi (fun (r : Int32) (G1 : GS) => Q_stands1 p0 G r G1) (fun (G1 : GS) t => Wd D k A a G1 t.heap) A) 0 0 A := by
  refine Met.ofW (cc := cX12_doesStand) (maxL := 2) (ret := (some .boolean)) (by decide) rfl ?_
  intro p e s m args below meth c s₁ B hml hv
  obtain ⟨rfl, hW, hB_G, hK, hZ⟩ := hv
  have hx := B.exec
  have hb := B.bytes
  have hr := B.returns
  have hts := atoms_spec (ws := WS yX12_doesStand cX12_doesStand 2 (some .boolean)) B.pre
  have hgd : ∀ w ∈ gd, w ∈ WS yX12_doesStand cX12_doesStand 2 (some .boolean) := fun w h => List.mem_cons_of_mem _ h
  have hg : ∀ w ∈ gd, w.before _ s = true := fun w h => hts w (hgd w h)
  have hown : s.vm.findClass RX12 = some m.cls := findClass_of_methodNamed B.named
  have hS : va_S A s.heap s.heap [] := va_S.rf
  have hF : Fr [] [] G G := Fr.rf
  have hl := lv_entry ([.ref (a 66), .int p0]) (n := 2) (Nat.le_of_ble_eq_true rfl)
  rw [lg_entry_eq]
  generalize (lg_sl ([.ref (a 66), .int p0]) ++ List.replicate (2 - (lg_sl ([.ref (a 66), .int p0])).length) Slot.unset).toArray = ls at hl ⊢
  have hl : lv_has ls 2 [(0, .ref (a 66)), (1, .int p0)] := hl
  refine lv_iload_n hx hb dX12_doesStand_0 rfl (lv_at hl 1 rfl) ?_
  refine lv_if_lt (tgt := 21) hx hb dX12_doesStand_1 rfl (fun c_1 => ?_) (fun c_1 => ?_)
  · have c_1 : p0.toInt < 0 := xI_lt rfl rfl c_1
    refine ic_0 hx hb dX12_doesStand_21 ?_
    have b_2 : 0 ≤ (G.1 66 59).toInt ∧ (G.1 66 59).toInt ≤ 400 := bd_66_59 hB_G
    have b_3 : 0 ≤ (G.1 66 60).toInt ∧ (G.1 66 60).toInt ≤ 12 := bd_66_60 hB_G
    exact W.zret (v := 0) hx hb hr (by decide) (fun t ht _ => ⟨⟨0, G, rfl, (Q_stands1_mk ⟨hB_G, hF, ⟨by decide, by decide⟩, (by have hq : (0 : Int32).toInt = 0 := rfl; (try dsimp only); omega), (Or.inl ⟨c_1, ⟨rfl, rfl⟩⟩)⟩), wd_t ht hW⟩, hS.F ht⟩) hS.2.2 dX12_doesStand_22
  · have c_1 : 0 ≤ p0.toInt := xI_nlt rfl rfl c_1
    refine lv_iload_n hx hb dX12_doesStand_4 rfl (lv_at hl 1 rfl) ?_
    refine lv_aload_n hx hb dX12_doesStand_5 rfl (lv_at hl 0 rfl) ?_
    have b_4 : 0 ≤ (G.1 66 59).toInt ∧ (G.1 66 59).toInt ≤ 400 := bd_66_59 hB_G
    refine S_getI (v := (G.1 66 59)) (C := RX12) (T := TX12) (N := 89) hx hb hg iX12 hown hK hW kd_66 rfl 59 (lt_b rfl) (hg (Cond.fieldLink RX12 469 "SlabWalkModel" "inchesOf" "I") m1373) (fun _ h9 => h9) rfl rfl dX12_doesStand_6 ?_
    refine lv_aload_n hx hb dX12_doesStand_9 rfl (lv_at hl 0 rfl) ?_
    have b_5 : 0 ≤ (G.1 66 60).toInt ∧ (G.1 66 60).toInt ≤ 12 := bd_66_60 hB_G
    refine S_getI (v := (G.1 66 60)) (C := RX12) (T := TX12) (N := 89) hx hb hg iX12 hown hK hW kd_66 rfl 60 (lt_b rfl) (hg (Cond.fieldLink RX12 472 "SlabWalkModel" "foot" "I") m1374) (fun _ h9 => h9) rfl rfl dX12_doesStand_10 ?_
    refine lv_isub hx hb dX12_doesStand_13 ?_
    refine lv_topi (fun y_6 ey_6 => ?_)
    have ty_6 : y_6.toInt = (G.1 66 59).toInt - (G.1 66 60).toInt := xI_sub rfl rfl ey_6 ((by first | exact ok_7 b_4.1 b_5.2 | omega)) ((by first | exact ok_225 b_4.2 b_5.1 | omega))
    refine lv_icmp_gt (tgt := 21) hx hb dX12_doesStand_14 rfl (fun c_7 => ?_) (fun c_7 => ?_)
    · have c_7 : y_6.toInt < p0.toInt := xI_lt rfl rfl c_7
      refine ic_0 hx hb dX12_doesStand_21 ?_
      exact W.zret (v := 0) hx hb hr (by decide) (fun t ht _ => ⟨⟨0, G, rfl, (Q_stands1_mk ⟨hB_G, hF, ⟨by decide, by decide⟩, (by have hq : (0 : Int32).toInt = 0 := rfl; (try dsimp only); omega), (Or.inr ⟨c_1, ⟨y_6, ty_6, (Or.inl ⟨c_7, ⟨rfl, rfl⟩⟩)⟩⟩)⟩), wd_t ht hW⟩, hS.F ht⟩) hS.2.2 dX12_doesStand_22
    · have c_7 : p0.toInt ≤ y_6.toInt := xI_nlt rfl rfl c_7
      refine ic_1 hx hb dX12_doesStand_17 ?_
      refine lv_goto (tgt := 22) hx hb dX12_doesStand_18 rfl ?_
      exact W.zret (v := 1) hx hb hr (by decide) (fun t ht _ => ⟨⟨1, G, rfl, (Q_stands1_mk ⟨hB_G, hF, ⟨by decide, by decide⟩, (by have hq : (1 : Int32).toInt = 1 := rfl; (try dsimp only); omega), (Or.inr ⟨c_1, ⟨y_6, ty_6, (Or.inr ⟨c_7, ⟨rfl, rfl⟩⟩)⟩⟩)⟩), wd_t ht hW⟩, hS.F ht⟩) hS.2.2 dX12_doesStand_22

set_option maxHeartbeats 4000000 in
set_option maxRecDepth 100000 in
theorem n_isEnd (l : Launch) (D : va_G) (k : KT) (A : Nat → Prop) (a : Nat → Nat) (z : SK) (G : GS) (p0 : Int32) (ha_p0 : -500 ≤ p0.toInt ∧ p0.toInt ≤ 500) : Met l yX12_isEnd (WS yX12_isEnd cX12_isEnd 2 (some .boolean)) ({ frames := 1, cells := 0, slots := 0, locals := 21 }) (va_Pc [.ref (a 66), .int p0] (cW D k A a z G)) (va_Qi (fun (r : Int32) (G1 : GS) => Q_isEnd p0 G r G1) (fun (G1 : GS) t => Wd D k A a G1 t.heap) A) 0 0 A := by
  refine Met.ofW (cc := cX12_isEnd) (maxL := 2) (ret := (some .boolean)) (by decide) rfl ?_
  intro p e s m args below meth c s₁ B hml hv
  obtain ⟨rfl, hW, hB_G, hK, hZ⟩ := hv
  have hx := B.exec
  have hb := B.bytes
  have hr := B.returns
  have hts := atoms_spec (ws := WS yX12_isEnd cX12_isEnd 2 (some .boolean)) B.pre
  have hgd : ∀ w ∈ gd, w ∈ WS yX12_isEnd cX12_isEnd 2 (some .boolean) := fun w h => List.mem_cons_of_mem _ h
  have hg : ∀ w ∈ gd, w.before _ s = true := fun w h => hts w (hgd w h)
  have hown : s.vm.findClass RX12 = some m.cls := findClass_of_methodNamed B.named
  have hS : va_S A s.heap s.heap [] := va_S.rf
  have hF : Fr [] [] G G := Fr.rf
  have hl := lv_entry ([.ref (a 66), .int p0]) (n := 2) (Nat.le_of_ble_eq_true rfl)
  rw [lg_entry_eq]
  generalize (lg_sl ([.ref (a 66), .int p0]) ++ List.replicate (2 - (lg_sl ([.ref (a 66), .int p0])).length) Slot.unset).toArray = ls at hl ⊢
  have hl : lv_has ls 2 [(0, .ref (a 66)), (1, .int p0)] := hl
  refine lv_aload_n hx hb dX12_isEnd_0 rfl (lv_at hl 0 rfl) ?_
  refine lv_iload_n hx hb dX12_isEnd_1 rfl (lv_at hl 1 rfl) ?_
  refine lv_aload_n hx hb dX12_isEnd_2 rfl (lv_at hl 0 rfl) ?_
  have b_1 : 0 ≤ (G.1 66 62).toInt ∧ (G.1 66 62).toInt ≤ 60 := bd_66_62 hB_G
  refine S_getI (v := (G.1 66 62)) (C := RX12) (T := TX12) (N := 89) hx hb hg iX12 hown hK hW kd_66 rfl 62 (lt_b rfl) (hg (Cond.fieldLink RX12 478 "SlabWalkModel" "most" "I") m1376) (fun _ h9 => h9) rfl rfl dX12_isEnd_3 ?_
  refine lv_iadd hx hb dX12_isEnd_6 ?_
  refine lv_topi (fun y_2 ey_2 => ?_)
  have ty_2 : y_2.toInt = p0.toInt + (G.1 66 62).toInt := xI_add rfl rfl ey_2 ((by first | exact ok_739 ha_p0.1 b_1.1 | omega)) ((by first | exact ok_740 ha_p0.2 b_1.2 | omega))
  refine S_calli (va_runV (As := [.int y_2]) (rest := []) ⟨hx, hb, hml, hown, hts⟩ (n_stands1 l D k A a z G y_2 ) (cwV 1 hts (gd_V hgd m1838 m1840 m92 m131 m1841) rfl rfl rfl hd_X12_doesStand ⟨Nat.le_of_ble_eq_true rfl, Nat.le_of_ble_eq_true rfl⟩) (pre_W hW hB_G hK hZ hS kd_66 rfl) rfl rfl hl.1 rfl (lv_room (Nat.le_of_ble_eq_true rfl)) dX12_isEnd_7 ⟨Nat.le_of_ble_eq_true rfl, Nat.le_of_ble_eq_true rfl⟩) hS (fun r_3 G_4 H locs hpo hW hS => ?_)
  have hX_7 : Q_stands1 y_2 G r_3 G_4 := hpo
  obtain ⟨hB_G_4, hq_5, f_8, ⟨d_1, d_2⟩, -⟩ := hpo
  have hF := hF.call9 hq_5 rfl rfl
  refine lv_if_ne (tgt := 17) hx hb dX12_isEnd_10 rfl (fun c_9 => ?_) (fun c_9 => ?_)
  · have c_9 : r_3.toInt ≠ 0 := xI_ne rfl rfl c_9
    refine ic_0 hx hb dX12_isEnd_17 ?_
    exact W.zret (v := 0) hx hb hr (by decide) (fun t ht _ => ⟨⟨0, G_4, rfl, (Q_isEnd_mk ⟨hB_G_4, hF, ⟨by decide, by decide⟩, (by have hq : (0 : Int32).toInt = 0 := rfl; (try dsimp only); omega), ⟨y_2, ty_2, ⟨r_3, G_4, hX_7, (Or.inr ⟨c_9, ⟨rfl, rfl⟩⟩)⟩⟩⟩), wd_t ht hW⟩, hS.F ht⟩) hS.2.2 dX12_isEnd_18
  · have c_9 : r_3.toInt = 0 := xI_eq rfl rfl c_9
    refine ic_1 hx hb dX12_isEnd_13 ?_
    refine lv_goto (tgt := 18) hx hb dX12_isEnd_14 rfl ?_
    exact W.zret (v := 1) hx hb hr (by decide) (fun t ht _ => ⟨⟨1, G_4, rfl, (Q_isEnd_mk ⟨hB_G_4, hF, ⟨by decide, by decide⟩, (by have hq : (1 : Int32).toInt = 1 := rfl; (try dsimp only); omega), ⟨y_2, ty_2, ⟨r_3, G_4, hX_7, (Or.inl ⟨c_9, ⟨rfl, rfl⟩⟩)⟩⟩⟩), wd_t ht hW⟩, hS.F ht⟩) hS.2.2 dX12_isEnd_18

set_option maxHeartbeats 4000000 in
set_option maxRecDepth 100000 in
theorem n_isAsked (l : Launch) (D : va_G) (k : KT) (A : Nat → Prop) (a : Nat → Nat) (z : SK) (G : GS) (p0 : Int32) (p1 : Int32) (p2 : Int32)  : Met l yX12_isAsked (WS yX12_isAsked cX12_isAsked 4 (some .boolean)) ({ frames := 2, cells := 0, slots := 0, locals := 43 }) (va_Pc [.ref (a 66), .int p0, .int p1, .int p2] (cW D k A a z G)) (va_Qi (fun (r : Int32) (G1 : GS) => Q_isAsked p0 p1 p2 G r G1) (fun (G1 : GS) t => Wd D k A a G1 t.heap) A) 0 0 A := by
  refine Met.ofW (cc := cX12_isAsked) (maxL := 4) (ret := (some .boolean)) (by decide) rfl ?_
  intro p e s m args below meth c s₁ B hml hv
  obtain ⟨rfl, hW, hB_G, hK, hZ⟩ := hv
  have hx := B.exec
  have hb := B.bytes
  have hr := B.returns
  have hts := atoms_spec (ws := WS yX12_isAsked cX12_isAsked 4 (some .boolean)) B.pre
  have hgd : ∀ w ∈ gd, w ∈ WS yX12_isAsked cX12_isAsked 4 (some .boolean) := fun w h => List.mem_cons_of_mem _ h
  have hg : ∀ w ∈ gd, w.before _ s = true := fun w h => hts w (hgd w h)
  have hown : s.vm.findClass RX12 = some m.cls := findClass_of_methodNamed B.named
  have hS : va_S A s.heap s.heap [] := va_S.rf
  have hF : Fr [] [] G G := Fr.rf
  have hl := lv_entry ([.ref (a 66), .int p0, .int p1, .int p2]) (n := 4) (Nat.le_of_ble_eq_true rfl)
  rw [lg_entry_eq]
  generalize (lg_sl ([.ref (a 66), .int p0, .int p1, .int p2]) ++ List.replicate (4 - (lg_sl ([.ref (a 66), .int p0, .int p1, .int p2])).length) Slot.unset).toArray = ls at hl ⊢
  have hl : lv_has ls 4 [(0, .ref (a 66)), (1, .int p0), (2, .int p1), (3, .int p2)] := hl
  refine lv_aload_n hx hb dX12_isAsked_0 rfl (lv_at hl 0 rfl) ?_
  refine lv_iload_n hx hb dX12_isAsked_1 rfl (lv_at hl 1 rfl) ?_
  refine S_calli (va_runV (As := [.int p0]) (rest := []) ⟨hx, hb, hml, hown, hts⟩ (n_isWalker l D k A a z G p0 ) (cwV 1 hts (gd_V hgd m1830 m1832 m90 m131 m1833) rfl rfl rfl hd_X12_isWalker ⟨Nat.le_of_ble_eq_true rfl, Nat.le_of_ble_eq_true rfl⟩) (pre_W hW hB_G hK hZ hS kd_66 rfl) rfl rfl hl.1 rfl (lv_room (Nat.le_of_ble_eq_true rfl)) dX12_isAsked_2 ⟨Nat.le_of_ble_eq_true rfl, Nat.le_of_ble_eq_true rfl⟩) hS (fun r_1 G_2 H locs hpo hW hS => ?_)
  have hX_5 : Q_isWalker p0 G r_1 G_2 := hpo
  obtain ⟨hB_G_2, hq_3, f_6, hp_4, -⟩ := hpo
  have hF := hF.call9 hq_3 rfl rfl
  refine lv_if_eq (tgt := 28) hx hb dX12_isAsked_5 rfl (fun c_7 => ?_) (fun c_7 => ?_)
  · have c_7 : r_1.toInt = 0 := xI_eq rfl rfl c_7
    refine ic_0 hx hb dX12_isAsked_28 ?_
    exact W.zret (v := 0) hx hb hr (by decide) (fun t ht _ => ⟨⟨0, G_2, rfl, (Q_isAsked_mk ⟨hB_G_2, hF, ⟨by decide, by decide⟩, (by have hq : (0 : Int32).toInt = 0 := rfl; (try dsimp only); omega), ⟨r_1, G_2, hX_5, (Or.inl ⟨c_7, ⟨rfl, rfl⟩⟩)⟩⟩), wd_t ht hW⟩, hS.F ht⟩) hS.2.2 dX12_isAsked_29
  · have c_7 : r_1.toInt ≠ 0 := xI_ne rfl rfl c_7
    refine lv_aload_n hx hb dX12_isAsked_8 rfl (lv_at hl 0 rfl) ?_
    refine lv_iload_n hx hb dX12_isAsked_9 rfl (lv_at hl 2 rfl) ?_
    have b_8 : 0 ≤ (G.1 66 52).toInt ∧ (G.1 66 52).toInt ≤ 3 := bd_66_52 hB_G
    have g_9 : (G_2.1 66 52).toInt = (G.1 66 52).toInt := (congrArg Int32.toInt (show G_2.1 66 52 = (G.1 66 52) from (hq_3.i9 66 52 rfl rfl)))
    refine S_calli (va_runV (As := [.int p1]) (rest := []) ⟨hx, hb, hml, hown, hts⟩ (n_isStreet l D k A a z G_2 p1 ) (cwV 1 hts (gd_V hgd m1777 m1779 m83 m131 m1780) rfl rfl rfl hd_X12_isStreet ⟨Nat.le_of_ble_eq_true rfl, Nat.le_of_ble_eq_true rfl⟩) (pre_W hW hB_G_2 hK hZ hS kd_66 rfl) rfl rfl hl.1 rfl (lv_room (Nat.le_of_ble_eq_true rfl)) dX12_isAsked_10 ⟨Nat.le_of_ble_eq_true rfl, Nat.le_of_ble_eq_true rfl⟩) hS (fun r_10 G_11 H locs hpo hW hS => ?_)
    have hX_14 : Q_isStreet p1 G_2 r_10 G_11 := hpo
    obtain ⟨hB_G_11, hq_12, f_15, hp_13, -⟩ := hpo
    have hF := hF.call9 hq_12 rfl rfl
    refine lv_if_eq (tgt := 28) hx hb dX12_isAsked_13 rfl (fun c_16 => ?_) (fun c_16 => ?_)
    · have c_16 : r_10.toInt = 0 := xI_eq rfl rfl c_16
      refine ic_0 hx hb dX12_isAsked_28 ?_
      exact W.zret (v := 0) hx hb hr (by decide) (fun t ht _ => ⟨⟨0, G_11, rfl, (Q_isAsked_mk ⟨hB_G_11, hF, ⟨by decide, by decide⟩, (by have hq : (0 : Int32).toInt = 0 := rfl; (try dsimp only); omega), ⟨r_1, G_2, hX_5, (Or.inr ⟨c_7, ⟨r_10, G_11, hX_14, (Or.inl ⟨c_16, ⟨rfl, rfl⟩⟩)⟩⟩)⟩⟩), wd_t ht hW⟩, hS.F ht⟩) hS.2.2 dX12_isAsked_29
    · have c_16 : r_10.toInt ≠ 0 := xI_ne rfl rfl c_16
      refine lv_aload_n hx hb dX12_isAsked_16 rfl (lv_at hl 0 rfl) ?_
      refine lv_iload_n hx hb dX12_isAsked_17 rfl (lv_at hl 3 rfl) ?_
      refine S_calli (va_runV (As := [.int p2]) (rest := []) ⟨hx, hb, hml, hown, hts⟩ (n_areRules l D k A a z G_11 p2 ) (cwV 1 hts (gd_V hgd m1799 m1801 m85 m131 m1802) rfl rfl rfl hd_X12_areRules ⟨Nat.le_of_ble_eq_true rfl, Nat.le_of_ble_eq_true rfl⟩) (pre_W hW hB_G_11 hK hZ hS kd_66 rfl) rfl rfl hl.1 rfl (lv_room (Nat.le_of_ble_eq_true rfl)) dX12_isAsked_18 ⟨Nat.le_of_ble_eq_true rfl, Nat.le_of_ble_eq_true rfl⟩) hS (fun r_17 G_18 H locs hpo hW hS => ?_)
      have hX_21 : Q_areRules p2 G_11 r_17 G_18 := hpo
      obtain ⟨hB_G_18, hq_19, f_22, hp_20, -⟩ := hpo
      have hF := hF.call9 hq_19 rfl rfl
      refine lv_if_eq (tgt := 28) hx hb dX12_isAsked_21 rfl (fun c_23 => ?_) (fun c_23 => ?_)
      · have c_23 : r_17.toInt = 0 := xI_eq rfl rfl c_23
        refine ic_0 hx hb dX12_isAsked_28 ?_
        exact W.zret (v := 0) hx hb hr (by decide) (fun t ht _ => ⟨⟨0, G_18, rfl, (Q_isAsked_mk ⟨hB_G_18, hF, ⟨by decide, by decide⟩, (by have hq : (0 : Int32).toInt = 0 := rfl; (try dsimp only); omega), ⟨r_1, G_2, hX_5, (Or.inr ⟨c_7, ⟨r_10, G_11, hX_14, (Or.inr ⟨c_16, ⟨r_17, G_18, hX_21, (Or.inl ⟨c_23, ⟨rfl, rfl⟩⟩)⟩⟩)⟩⟩)⟩⟩), wd_t ht hW⟩, hS.F ht⟩) hS.2.2 dX12_isAsked_29
      · have c_23 : r_17.toInt ≠ 0 := xI_ne rfl rfl c_23
        refine ic_1 hx hb dX12_isAsked_24 ?_
        refine lv_goto (tgt := 29) hx hb dX12_isAsked_25 rfl ?_
        exact W.zret (v := 1) hx hb hr (by decide) (fun t ht _ => ⟨⟨1, G_18, rfl, (Q_isAsked_mk ⟨hB_G_18, hF, ⟨by decide, by decide⟩, (by have hq : (1 : Int32).toInt = 1 := rfl; (try dsimp only); omega), ⟨r_1, G_2, hX_5, (Or.inr ⟨c_7, ⟨r_10, G_11, hX_14, (Or.inr ⟨c_16, ⟨r_17, G_18, hX_21, (Or.inr ⟨c_23, ⟨rfl, rfl⟩⟩)⟩⟩)⟩⟩)⟩⟩), wd_t ht hW⟩, hS.F ht⟩) hS.2.2 dX12_isAsked_29

set_option maxHeartbeats 4000000 in
set_option maxRecDepth 100000 in
theorem n_needOf (l : Launch) (D : va_G) (k : KT) (A : Nat → Prop) (a : Nat → Nat) (z : SK) (G : GS) (p0 : Int32) (p1 : Int32) (p2 : Int32) (ha_p0 : 0 ≤ p0.toInt ∧ p0.toInt ≤ 399) (ha_p1 : 0 ≤ p1.toInt ∧ p1.toInt ≤ 1) (ha_p2 : 0 ≤ p2.toInt ∧ p2.toInt ≤ 2) : Met l yX12_needOf (WS yX12_needOf cX12_needOf 4 (some .int)) ({ frames := 0, cells := 0, slots := 0, locals := 0 }) (va_Pc [.ref (a 66), .int p0, .int p1, .int p2] (cW D k A a z G)) (va_Qi (fun (r : Int32) (G1 : GS) => Q_needOf p0 p1 p2 G r G1) (fun (G1 : GS) t => Wd D k A a G1 t.heap) A) 0 0 A := by
  refine Met.ofW (cc := cX12_needOf) (maxL := 4) (ret := (some .int)) (by decide) rfl ?_
  intro p e s m args below meth c s₁ B hml hv
  obtain ⟨rfl, hW, hB_G, hK, hZ⟩ := hv
  have hx := B.exec
  have hb := B.bytes
  have hr := B.returns
  have hts := atoms_spec (ws := WS yX12_needOf cX12_needOf 4 (some .int)) B.pre
  have hgd : ∀ w ∈ gd, w ∈ WS yX12_needOf cX12_needOf 4 (some .int) := fun w h => List.mem_cons_of_mem _ h
  have hg : ∀ w ∈ gd, w.before _ s = true := fun w h => hts w (hgd w h)
  have hown : s.vm.findClass RX12 = some m.cls := findClass_of_methodNamed B.named
  have hS : va_S A s.heap s.heap [] := va_S.rf
  have hF : Fr [] [] G G := Fr.rf
  have hl := lv_entry ([.ref (a 66), .int p0, .int p1, .int p2]) (n := 4) (Nat.le_of_ble_eq_true rfl)
  rw [lg_entry_eq]
  generalize (lg_sl ([.ref (a 66), .int p0, .int p1, .int p2]) ++ List.replicate (4 - (lg_sl ([.ref (a 66), .int p0, .int p1, .int p2])).length) Slot.unset).toArray = ls at hl ⊢
  have hl : lv_has ls 4 [(0, .ref (a 66)), (1, .int p0), (2, .int p1), (3, .int p2)] := hl
  refine lv_aload_n hx hb dX12_needOf_0 rfl (lv_at hl 0 rfl) ?_
  refine S_getR (n := 99) (C := RX12) (T := TX12) (N := 89) hx hb hg iX12 hown hK hW kd_66 rfl 64 (lt_b rfl) (hg (Cond.fieldLink RX12 118 "SlabWalkModel" "need" "[I") m1378) (fun _ h9 => h9) rfl dX12_needOf_1 ?_
  refine ic_3 hx hb dX12_needOf_4 ?_
  refine ic_2 hx hb dX12_needOf_5 ?_
  refine lv_iload_n hx hb dX12_needOf_6 rfl (lv_at hl 1 rfl) ?_
  refine lv_imul hx hb dX12_needOf_7 ?_
  refine lv_topi (fun y_1 ey_1 => ?_)
  have ty_1 : y_1.toInt = 2 * p0.toInt := xI_mul rfl rfl ey_1 ((by first | exact ok_294 ha_p0.1 | omega)) ((by first | exact ok_741 ha_p0.2 | omega))
  refine lv_iload_n hx hb dX12_needOf_8 rfl (lv_at hl 2 rfl) ?_
  refine lv_iadd hx hb dX12_needOf_9 ?_
  refine lv_topi (fun y_2 ey_2 => ?_)
  have ty_2 : y_2.toInt = y_1.toInt + p1.toInt := xI_add rfl rfl ey_2 ((by first | exact ok_742 ha_p0.1 ha_p1.1 ty_1 | omega)) ((by first | exact ok_743 ha_p0.2 ha_p1.2 ty_1 | omega))
  refine lv_imul hx hb dX12_needOf_10 ?_
  refine lv_topi (fun y_3 ey_3 => ?_)
  have ty_3 : y_3.toInt = 3 * y_2.toInt := xI_mul rfl rfl ey_3 ((by first | exact ok_744 ha_p0.1 ha_p1.1 ty_1 ty_2 | omega)) ((by first | exact ok_745 ha_p0.2 ha_p1.2 ty_1 ty_2 | omega))
  refine lv_iload_n hx hb dX12_needOf_11 rfl (lv_at hl 3 rfl) ?_
  refine lv_iadd hx hb dX12_needOf_12 ?_
  refine lv_topi (fun y_4 ey_4 => ?_)
  have ty_4 : y_4.toInt = y_3.toInt + p2.toInt := xI_add rfl rfl ey_4 ((by first | exact ok_746 ha_p0.1 ha_p1.1 ha_p2.1 ty_1 ty_2 ty_3 | omega)) ((by first | exact ok_747 ha_p0.2 ha_p1.2 ha_p2.2 ty_1 ty_2 ty_3 | omega))
  refine S_iald hx hb hK hW kd_99 (vin ((by first | exact ok_748 ha_p0.1 ha_p1.1 ha_p2.1 ty_1 ty_2 ty_3 ty_4 | omega)) ((by first | exact ok_749 ha_p0.2 ha_p1.2 ha_p2.2 ty_1 ty_2 ty_3 ty_4 | omega))) dX12_needOf_13 (fun y_5 ey_5 => ?_)
  have ty_5 : 0 ≤ y_5.toInt ∧ y_5.toInt ≤ 100000 := bv_99 hB_G ey_5
  have u_6 : y_5.toInt = (G.1 99 y_4.toNatClampNeg).toInt := congrArg Int32.toInt (ey_5)
  exact W.iret (v := y_5) hx hb hr (fun t ht _ => ⟨⟨y_5, G, rfl, (Q_needOf_mk ⟨hB_G, hF, ⟨(by first | exact ty_5.1 | omega), (by first | exact ty_5.2 | omega)⟩, (ndv_at (x := y_4) (by omega) (by omega)), ⟨y_1, ty_1, ⟨y_2, ty_2, ⟨y_3, ty_3, ⟨y_4, ty_4, ⟨y_5, ey_5, ⟨rfl, rfl⟩⟩⟩⟩⟩⟩⟩), wd_t ht hW⟩, hS.F ht⟩) hS.2.2 dX12_needOf_14

set_option maxHeartbeats 4000000 in
set_option maxRecDepth 100000 in
theorem n_lay (l : Launch) (D : va_G) (k : KT) (A : Nat → Prop) (a : Nat → Nat) (z : SK) (G : GS) (p0 : Int32) (hq : (G.1 66 66).toInt < 400) : Met l yX12_lay (WS yX12_lay cX12_lay 2 none) ({ frames := 0, cells := 0, slots := 0, locals := 0 }) (va_Pc [.ref (a 66), .int p0] (cW D k A a z G)) (va_Qv (fun (G1 : GS) => Q_lay p0 G G1) (fun (G1 : GS) t => Wd D k A a G1 t.heap) A) 0 0 A := by
  refine Met.ofW (cc := cX12_lay) (maxL := 2) (ret := none) (by decide) rfl ?_
  intro p e s m args below meth c s₁ B hml hv
  obtain ⟨rfl, hW, hB_G, hK, hZ⟩ := hv
  have hx := B.exec
  have hb := B.bytes
  have hr := B.returns
  have hts := atoms_spec (ws := WS yX12_lay cX12_lay 2 none) B.pre
  have hgd : ∀ w ∈ gd, w ∈ WS yX12_lay cX12_lay 2 none := fun w h => List.mem_cons_of_mem _ h
  have hg : ∀ w ∈ gd, w.before _ s = true := fun w h => hts w (hgd w h)
  have hown : s.vm.findClass RX12 = some m.cls := findClass_of_methodNamed B.named
  have hS : va_S A s.heap s.heap [] := va_S.rf
  have hF : Fr [100] [(66, 66)] G G := Fr.rf
  have hl := lv_entry ([.ref (a 66), .int p0]) (n := 2) (Nat.le_of_ble_eq_true rfl)
  rw [lg_entry_eq]
  generalize (lg_sl ([.ref (a 66), .int p0]) ++ List.replicate (2 - (lg_sl ([.ref (a 66), .int p0])).length) Slot.unset).toArray = ls at hl ⊢
  have hl : lv_has ls 2 [(0, .ref (a 66)), (1, .int p0)] := hl
  refine lv_aload_n hx hb dX12_lay_0 rfl (lv_at hl 0 rfl) ?_
  refine S_getR (n := 100) (C := RX12) (T := TX12) (N := 89) hx hb hg iX12 hown hK hW kd_66 rfl 65 (lt_b rfl) (hg (Cond.fieldLink RX12 121 "SlabWalkModel" "lies" "[I") m1379) (fun _ h9 => h9) rfl dX12_lay_1 ?_
  refine lv_aload_n hx hb dX12_lay_4 rfl (lv_at hl 0 rfl) ?_
  have b_1 : 0 ≤ (G.1 66 66).toInt ∧ (G.1 66 66).toInt ≤ 400 := bd_66_66 hB_G
  refine S_getI (v := (G.1 66 66)) (C := RX12) (T := TX12) (N := 89) hx hb hg iX12 hown hK hW kd_66 rfl 66 (lt_b rfl) (hg (Cond.fieldLink RX12 446 "SlabWalkModel" "lain" "I") m1380) (fun _ h9 => h9) rfl rfl dX12_lay_5 ?_
  refine lv_iload_n hx hb dX12_lay_8 rfl (lv_at hl 1 rfl) ?_
  refine S_iast hx hb hK hW hS kd_100 (vin ((by first | exact b_1.1 | omega)) ((by first | exact ok_750 hq b_1.2 | omega))) dX12_lay_9 (fun G_2 H locs eG_2 hW hS => ?_)
  have hB_G_2 : Bd G_2 := hB_G.put (lo := (-2147483648)) (hi := 2147483647) eG_2 rfl rfl rfl (tI_rng _).1 (tI_rng _).2 (hB_G.2.put eG_2 rfl)
  have hF := hF.put eG_2 (Or.inl (by decide))
  refine lv_aload_n hx hb dX12_lay_10 rfl (lv_at hl 0 rfl) ?_
  refine lv_dup hx hb dX12_lay_11 rfl ?_
  refine S_getI (v := (G.1 66 66)) (C := RX12) (T := TX12) (N := 89) hx hb hg iX12 hown hK hW kd_66 rfl 66 (lt_b rfl) (hg (Cond.fieldLink RX12 446 "SlabWalkModel" "lain" "I") m1380) (fun _ h9 => h9) rfl ((gp_ne eG_2 (fun q => absurd q.1 (Nat.ne_of_beq_eq_false rfl))).trans (rfl)) dX12_lay_12 ?_
  refine ic_1 hx hb dX12_lay_15 ?_
  refine lv_iadd hx hb dX12_lay_16 ?_
  refine lv_topi (fun y_3 ey_3 => ?_)
  have ty_3 : y_3.toInt = (G.1 66 66).toInt + 1 := xI_add rfl rfl ey_3 ((by first | exact ok_21 b_1.1 | omega)) ((by first | exact ok_40 b_1.2 | omega))
  refine S_putI (ty := .int) (C := RX12) (T := TX12) (N := 89) hx hb hg iX12 tyX12 tyX12_ok nmX12 hown hK hW hS kd_66 rfl 66 (lt_b rfl) (hg (Cond.fieldLink RX12 446 "SlabWalkModel" "lain" "I") m1380) (fun _ h9 => h9) rfl (by decide +kernel) rfl rfl rfl dX12_lay_17 (fun G_4 H locs eG_4 hW hS => ?_)
  have hB_G_4 : Bd G_4 := hB_G_2.put (V := y_3.toInt) (lo := 0) (hi := 400) eG_4 rfl rfl rfl ((by first | exact ok_23 b_1.1 ty_3 | omega)) ((by first | exact ok_751 hq b_1.2 ty_3 | omega)) (hB_G_2.2.put eG_4 rfl)
  have hF := hF.put eG_4 (Or.inr (by decide))
  have g_5 : (G_4.1 66 66).toInt = y_3.toInt := (congrArg Int32.toInt (show G_4.1 66 66 = y_3 from (gp_eq eG_4)))
  exact W.vret hx hb hr (fun t ht _ => ⟨⟨G_4, rfl, (Q_lay_mk ⟨hB_G_4, hF, ((by first | exact ok_752 ty_3 g_5 | omega)), ⟨y_3, ty_3, ⟨(Fr.put (rs := [100]) (fs := [(66, 66)]) (Fr.put (rs := [100]) (fs := [(66, 66)]) Fr.rf eG_2 (Or.inl (by decide))) eG_4 (Or.inr (by decide))), (gp_eq eG_4), (rw_put eG_4 (by decide)).trans (rw_ast eG_2)⟩⟩⟩), wd_t ht hW⟩, hS.F ht⟩) hS.2.2 dX12_lay_20

set_option maxHeartbeats 4000000 in
set_option maxRecDepth 100000 in
theorem n_capped (l : Launch) (D : va_G) (k : KT) (A : Nat → Prop) (a : Nat → Nat) (z : SK) (G : GS) (p0 : Int64)  : Met l yX12_capped (WS yX12_capped cX12_capped 2 (some .long)) ({ frames := 0, cells := 0, slots := 0, locals := 0 }) (va_Pc [.long p0] (cW D k A a z G)) (va_Ql (fun (r : Int64) (G1 : GS) => Q_capped p0 G r G1) (fun (G1 : GS) t => Wd D k A a G1 t.heap) A) 0 0 A := by
  refine Met.ofW (cc := cX12_capped) (maxL := 2) (ret := (some .long)) (by decide) rfl ?_
  intro p e s m args below meth c s₁ B hml hv
  obtain ⟨rfl, hW, hB_G, hK, hZ⟩ := hv
  have hx := B.exec
  have hb := B.bytes
  have hr := B.returns
  have hts := atoms_spec (ws := WS yX12_capped cX12_capped 2 (some .long)) B.pre
  have hgd : ∀ w ∈ gd, w ∈ WS yX12_capped cX12_capped 2 (some .long) := fun w h => List.mem_cons_of_mem _ h
  have hg : ∀ w ∈ gd, w.before _ s = true := fun w h => hts w (hgd w h)
  have hown : s.vm.findClass RX12 = some m.cls := findClass_of_methodNamed B.named
  have hS : va_S A s.heap s.heap [] := va_S.rf
  have hF : Fr [] [] G G := Fr.rf
  have hl := lv_entry ([.long p0]) (n := 2) (Nat.le_of_ble_eq_true rfl)
  rw [lg_entry_eq]
  generalize (lg_sl ([.long p0]) ++ List.replicate (2 - (lg_sl ([.long p0])).length) Slot.unset).toArray = ls at hl ⊢
  have hl : lv_has ls 2 [(0, .long p0)] := hl
  refine lv_lload_n hx hb dX12_capped_0 rfl (lv_at hl 0 rfl) ?_
  refine lv_ldc2 (v := 1000000000000000) hx hb hown (hg (Cond.constantLong RX12 515 1000000000000000) m1882) dX12_capped_1 ?_
  refine W.lcmp hx hb dX12_capped_4 ?_
  refine lv_topi (fun y_1 ey_1 => ?_)
  have ty_1 := lcmp_rng ey_1
  refine lv_if_le (tgt := 14) hx hb dX12_capped_5 rfl (fun c_2 => ?_) (fun c_2 => ?_)
  · have c_2 : y_1.toInt ≤ 0 := xI_le rfl rfl c_2
    refine lv_lload_n hx hb dX12_capped_14 rfl (lv_at hl 0 rfl) ?_
    exact W.lret (v := p0) hx hb hr (fun t ht _ => ⟨⟨p0, G, rfl, (Q_capped_mk ⟨hB_G, hF, ⟨y_1, ey_1, (Or.inl ⟨c_2, ⟨rfl, rfl⟩⟩)⟩⟩), wd_t ht hW⟩, hS.F ht⟩) hS.2.2 dX12_capped_15
  · have c_2 : 0 < y_1.toInt := xI_nle rfl rfl c_2
    refine lv_ldc2 (v := 1000000000000000) hx hb hown (hg (Cond.constantLong RX12 515 1000000000000000) m1882) dX12_capped_8 ?_
    refine lv_goto (tgt := 15) hx hb dX12_capped_11 rfl ?_
    exact W.lret (v := 1000000000000000) hx hb hr (fun t ht _ => ⟨⟨1000000000000000, G, rfl, (Q_capped_mk ⟨hB_G, hF, ⟨y_1, ey_1, (Or.inr ⟨c_2, ⟨rfl, rfl⟩⟩)⟩⟩), wd_t ht hW⟩, hS.F ht⟩) hS.2.2 dX12_capped_15

set_option maxHeartbeats 4000000 in
set_option maxRecDepth 100000 in
theorem n_isHeld (l : Launch) (D : va_G) (k : KT) (A : Nat → Prop) (a : Nat → Nat) (z : SK) (G : GS) (p0 : Int32) (p1 : Int32) (ha_p0 : 0 ≤ p0.toInt ∧ p0.toInt ≤ 600) (ha_p1 : 0 ≤ p1.toInt ∧ p1.toInt ≤ 400) : Met l yX12_isHeld (WS yX12_isHeld cX12_isHeld 3 (some .boolean)) ({ frames := 0, cells := 0, slots := 0, locals := 0 }) (va_Pc [.ref (a 66), .int p0, .int p1] (cW D k A a z G)) (va_Qi (fun (r : Int32) (G1 : GS) => Q_isHeld p0 p1 G r G1) (fun (G1 : GS) t => Wd D k A a G1 t.heap) A) 0 0 A := by
  refine Met.ofW (cc := cX12_isHeld) (maxL := 3) (ret := (some .boolean)) (by decide) rfl ?_
  intro p e s m args below meth c s₁ B hml hv
  obtain ⟨rfl, hW, hB_G, hK, hZ⟩ := hv
  have hx := B.exec
  have hb := B.bytes
  have hr := B.returns
  have hts := atoms_spec (ws := WS yX12_isHeld cX12_isHeld 3 (some .boolean)) B.pre
  have hgd : ∀ w ∈ gd, w ∈ WS yX12_isHeld cX12_isHeld 3 (some .boolean) := fun w h => List.mem_cons_of_mem _ h
  have hg : ∀ w ∈ gd, w.before _ s = true := fun w h => hts w (hgd w h)
  have hown : s.vm.findClass RX12 = some m.cls := findClass_of_methodNamed B.named
  have hS : va_S A s.heap s.heap [] := va_S.rf
  have hF : Fr [] [] G G := Fr.rf
  have hl := lv_entry ([.ref (a 66), .int p0, .int p1]) (n := 3) (Nat.le_of_ble_eq_true rfl)
  rw [lg_entry_eq]
  generalize (lg_sl ([.ref (a 66), .int p0, .int p1]) ++ List.replicate (3 - (lg_sl ([.ref (a 66), .int p0, .int p1])).length) Slot.unset).toArray = ls at hl ⊢
  have hl : lv_has ls 3 [(0, .ref (a 66)), (1, .int p0), (2, .int p1)] := hl
  refine lv_iload_n hx hb dX12_isHeld_0 rfl (lv_at hl 1 rfl) ?_
  refine lv_aload_n hx hb dX12_isHeld_1 rfl (lv_at hl 0 rfl) ?_
  refine S_getI (v := (G.1 66 55)) (C := RX12) (T := TX12) (N := 89) hx hb hg iX12 hown hK hW kd_66 rfl 55 (lt_b rfl) (hg (Cond.fieldLink RX12 105 "SlabWalkModel" "hand" "I") m1369) (fun _ h9 => h9) rfl rfl dX12_isHeld_2 ?_
  refine lv_iload_n hx hb dX12_isHeld_5 rfl (lv_at hl 2 rfl) ?_
  refine lv_imul hx hb dX12_isHeld_6 ?_
  refine lv_topi (fun y_1 ey_1 => ?_)
  refine lv_isub hx hb dX12_isHeld_7 ?_
  refine lv_topi (fun y_2 ey_2 => ?_)
  refine lv_aload_n hx hb dX12_isHeld_8 rfl (lv_at hl 0 rfl) ?_
  refine S_getI (v := (G.1 66 56)) (C := RX12) (T := TX12) (N := 89) hx hb hg iX12 hown hK hW kd_66 rfl 56 (lt_b rfl) (hg (Cond.fieldLink RX12 108 "SlabWalkModel" "slack" "I") m1370) (fun _ h9 => h9) rfl rfl dX12_isHeld_9 ?_
  refine lv_icmp_gt (tgt := 34) hx hb dX12_isHeld_12 rfl (fun c_3 => ?_) (fun c_3 => ?_)
  · have c_3 : (G.1 66 56).toInt < y_2.toInt := xI_lt rfl rfl c_3
    refine ic_0 hx hb dX12_isHeld_34 ?_
    exact W.zret (v := 0) hx hb hr (by decide) (fun t ht _ => ⟨⟨0, G, rfl, (Q_isHeld_mk ⟨hB_G, hF, ⟨by decide, by decide⟩, ⟨y_1, ey_1, ⟨y_2, ey_2, (Or.inl ⟨c_3, ⟨rfl, rfl⟩⟩)⟩⟩⟩), wd_t ht hW⟩, hS.F ht⟩) hS.2.2 dX12_isHeld_35
  · have c_3 : y_2.toInt ≤ (G.1 66 56).toInt := xI_nlt rfl rfl c_3
    refine lv_aload_n hx hb dX12_isHeld_15 rfl (lv_at hl 0 rfl) ?_
    refine S_getI (v := (G.1 66 55)) (C := RX12) (T := TX12) (N := 89) hx hb hg iX12 hown hK hW kd_66 rfl 55 (lt_b rfl) (hg (Cond.fieldLink RX12 105 "SlabWalkModel" "hand" "I") m1369) (fun _ h9 => h9) rfl rfl dX12_isHeld_16 ?_
    refine lv_iload_n hx hb dX12_isHeld_19 rfl (lv_at hl 2 rfl) ?_
    refine lv_imul hx hb dX12_isHeld_20 ?_
    refine lv_topi (fun y_4 ey_4 => ?_)
    refine lv_iload_n hx hb dX12_isHeld_21 rfl (lv_at hl 1 rfl) ?_
    refine lv_isub hx hb dX12_isHeld_22 ?_
    refine lv_topi (fun y_5 ey_5 => ?_)
    refine lv_aload_n hx hb dX12_isHeld_23 rfl (lv_at hl 0 rfl) ?_
    refine S_getI (v := (G.1 66 56)) (C := RX12) (T := TX12) (N := 89) hx hb hg iX12 hown hK hW kd_66 rfl 56 (lt_b rfl) (hg (Cond.fieldLink RX12 108 "SlabWalkModel" "slack" "I") m1370) (fun _ h9 => h9) rfl rfl dX12_isHeld_24 ?_
    refine lv_icmp_gt (tgt := 34) hx hb dX12_isHeld_27 rfl (fun c_6 => ?_) (fun c_6 => ?_)
    · have c_6 : (G.1 66 56).toInt < y_5.toInt := xI_lt rfl rfl c_6
      refine ic_0 hx hb dX12_isHeld_34 ?_
      exact W.zret (v := 0) hx hb hr (by decide) (fun t ht _ => ⟨⟨0, G, rfl, (Q_isHeld_mk ⟨hB_G, hF, ⟨by decide, by decide⟩, ⟨y_1, ey_1, ⟨y_2, ey_2, (Or.inr ⟨c_3, ⟨y_4, ey_4, ⟨y_5, ey_5, (Or.inl ⟨c_6, ⟨rfl, rfl⟩⟩)⟩⟩⟩)⟩⟩⟩), wd_t ht hW⟩, hS.F ht⟩) hS.2.2 dX12_isHeld_35
    · have c_6 : y_5.toInt ≤ (G.1 66 56).toInt := xI_nlt rfl rfl c_6
      refine ic_1 hx hb dX12_isHeld_30 ?_
      refine lv_goto (tgt := 35) hx hb dX12_isHeld_31 rfl ?_
      exact W.zret (v := 1) hx hb hr (by decide) (fun t ht _ => ⟨⟨1, G, rfl, (Q_isHeld_mk ⟨hB_G, hF, ⟨by decide, by decide⟩, ⟨y_1, ey_1, ⟨y_2, ey_2, (Or.inr ⟨c_3, ⟨y_4, ey_4, ⟨y_5, ey_5, (Or.inr ⟨c_6, ⟨rfl, rfl⟩⟩)⟩⟩⟩)⟩⟩⟩), wd_t ht hW⟩, hS.F ht⟩) hS.2.2 dX12_isHeld_35

set_option maxHeartbeats 4000000 in
set_option maxRecDepth 100000 in
theorem n_stands (l : Launch) (D : va_G) (k : KT) (A : Nat → Prop) (a : Nat → Nat) (z : SK) (G : GS) (p0 : Int32) (ha_p0 : 0 ≤ p0.toInt ∧ p0.toInt ≤ 511) : Met l yX12_stands (WS yX12_stands cX12_stands 2 (some .int)) ({ frames := 1, cells := 0, slots := 0, locals := 20 }) (va_Pc [.ref (a 66), .int p0] (cW D k A a z G)) (va_Qi (fun (r : Int32) (G1 : GS) => Q_stands p0 G r G1) (fun (G1 : GS) t => Wd D k A a G1 t.heap) A) 0 0 A := by
  refine Met.ofW (cc := cX12_stands) (maxL := 2) (ret := (some .int)) (by decide) rfl ?_
  intro p e s m args below meth c s₁ B hml hv
  obtain ⟨rfl, hW, hB_G, hK, hZ⟩ := hv
  have hx := B.exec
  have hb := B.bytes
  have hr := B.returns
  have hts := atoms_spec (ws := WS yX12_stands cX12_stands 2 (some .int)) B.pre
  have hgd : ∀ w ∈ gd, w ∈ WS yX12_stands cX12_stands 2 (some .int) := fun w h => List.mem_cons_of_mem _ h
  have hg : ∀ w ∈ gd, w.before _ s = true := fun w h => hts w (hgd w h)
  have hown : s.vm.findClass RX12 = some m.cls := findClass_of_methodNamed B.named
  have hS : va_S A s.heap s.heap [] := va_S.rf
  have hF : Fr [] [] G G := Fr.rf
  have hl := lv_entry ([.ref (a 66), .int p0]) (n := 2) (Nat.le_of_ble_eq_true rfl)
  rw [lg_entry_eq]
  generalize (lg_sl ([.ref (a 66), .int p0]) ++ List.replicate (2 - (lg_sl ([.ref (a 66), .int p0])).length) Slot.unset).toArray = ls at hl ⊢
  have hl : lv_has ls 2 [(0, .ref (a 66)), (1, .int p0)] := hl
  refine lv_aload_n hx hb dX12_stands_0 rfl (lv_at hl 0 rfl) ?_
  refine S_getR (n := 110) (C := RX12) (T := TX12) (N := 89) hx hb hg iX12 hown hK hW kd_66 rfl 76 (lt_b rfl) (hg (Cond.fieldLink RX12 151 "SlabWalkModel" "now" "[I") m1390) (fun _ h9 => h9) rfl dX12_stands_1 ?_
  refine lv_bipush (v := 9) hx hb dX12_stands_4 (by decide) ?_
  refine S_iald hx hb hK hW kd_110 (vin (by decide) (by decide)) dX12_stands_6 (fun y_1 ey_1 => ?_)
  refine ic_1 hx hb dX12_stands_7 ?_
  refine lv_icmp_eq (tgt := 20) hx hb dX12_stands_8 rfl (fun c_2 => ?_) (fun c_2 => ?_)
  · have c_2 : y_1.toInt = 1 := xI_eq rfl rfl c_2
    refine ic_1 hx hb dX12_stands_20 ?_
    refine lv_goto (tgt := 25) hx hb dX12_stands_21 rfl ?_
    have qc_3 : (1 : Int32).toInt = 1 := rfl
    refine S_calli (va_runS (As := [.int 1]) (rest := []) ⟨hx, hb, hml, hown, hts⟩ (n_truth l D k A a z G 1 ⟨by decide, by decide⟩) (va_cwS 1 hts (gd_S hgd m1788 m1789 m131 m1790) rfl rfl rfl hd_X12_truth.2 ⟨Nat.le_of_ble_eq_true rfl, Nat.le_of_ble_eq_true rfl⟩) (pre_S hW hB_G hK hZ hS) rfl rfl hl.1 rfl (lv_room (Nat.le_of_ble_eq_true rfl)) dX12_stands_25 ⟨Nat.le_of_ble_eq_true rfl, Nat.le_of_ble_eq_true rfl⟩) hS (fun r_4 G_5 H locs hpo hW hS => ?_)
    have hX_8 : Q_truth 1 G r_4 G_5 := hpo
    obtain ⟨hB_G_5, hq_6, f_9, hp_7, -⟩ := hpo
    have hF := hF.call9 hq_6 rfl rfl
    exact W.iret (v := r_4) hx hb hr (fun t ht _ => ⟨⟨r_4, G_5, rfl, (Q_stands_mk ⟨hB_G_5, hF, ⟨(by first | exact f_9.1 | omega), (by first | exact f_9.2 | omega)⟩, ⟨y_1, ey_1, (Or.inl ⟨c_2, ⟨r_4, G_5, hX_8, ⟨rfl, rfl⟩⟩⟩)⟩⟩), wd_t ht hW⟩, hS.F ht⟩) hS.2.2 dX12_stands_28
  · have c_2 : y_1.toInt ≠ 1 := xI_ne rfl rfl c_2
    refine lv_aload_n hx hb dX12_stands_11 rfl (lv_at hl 0 rfl) ?_
    refine S_getR (n := 98) (C := RX12) (T := TX12) (N := 89) hx hb hg iX12 hown hK hW kd_66 rfl 58 (lt_b rfl) (hg (Cond.fieldLink RX12 115 "SlabWalkModel" "lawful" "[Z") m1372) (fun _ h9 => h9) rfl dX12_stands_12 ?_
    refine lv_iload_n hx hb dX12_stands_15 rfl (lv_at hl 1 rfl) ?_
    refine S_zald hx hb hK hW kd_98 (vin ((by first | exact ha_p0.1 | omega)) ((by first | exact ok_753 ha_p0.2 | omega))) dX12_stands_16 (fun y_10 ey_10 => ?_)
    have ty_10 := hB_G.law ey_10
    refine lv_if_eq (tgt := 24) hx hb dX12_stands_17 rfl (fun c_11 => ?_) (fun c_11 => ?_)
    · have c_11 : y_10.toInt = 0 := xI_eq rfl rfl c_11
      refine ic_0 hx hb dX12_stands_24 ?_
      have qc_12 : (0 : Int32).toInt = 0 := rfl
      refine S_calli (va_runS (As := [.int 0]) (rest := []) ⟨hx, hb, hml, hown, hts⟩ (n_truth l D k A a z G 0 ⟨by decide, by decide⟩) (va_cwS 1 hts (gd_S hgd m1788 m1789 m131 m1790) rfl rfl rfl hd_X12_truth.2 ⟨Nat.le_of_ble_eq_true rfl, Nat.le_of_ble_eq_true rfl⟩) (pre_S hW hB_G hK hZ hS) rfl rfl hl.1 rfl (lv_room (Nat.le_of_ble_eq_true rfl)) dX12_stands_25 ⟨Nat.le_of_ble_eq_true rfl, Nat.le_of_ble_eq_true rfl⟩) hS (fun r_13 G_14 H locs hpo hW hS => ?_)
      have hX_17 : Q_truth 0 G r_13 G_14 := hpo
      obtain ⟨hB_G_14, hq_15, f_18, hp_16, -⟩ := hpo
      have hF := hF.call9 hq_15 rfl rfl
      exact W.iret (v := r_13) hx hb hr (fun t ht _ => ⟨⟨r_13, G_14, rfl, (Q_stands_mk ⟨hB_G_14, hF, ⟨(by first | exact f_18.1 | omega), (by first | exact f_18.2 | omega)⟩, ⟨y_1, ey_1, (Or.inr ⟨c_2, ⟨y_10, ey_10, (Or.inl ⟨c_11, ⟨r_13, G_14, hX_17, ⟨rfl, rfl⟩⟩⟩)⟩⟩)⟩⟩), wd_t ht hW⟩, hS.F ht⟩) hS.2.2 dX12_stands_28
    · have c_11 : y_10.toInt ≠ 0 := xI_ne rfl rfl c_11
      refine ic_1 hx hb dX12_stands_20 ?_
      refine lv_goto (tgt := 25) hx hb dX12_stands_21 rfl ?_
      have qc_19 : (1 : Int32).toInt = 1 := rfl
      refine S_calli (va_runS (As := [.int 1]) (rest := []) ⟨hx, hb, hml, hown, hts⟩ (n_truth l D k A a z G 1 ⟨by decide, by decide⟩) (va_cwS 1 hts (gd_S hgd m1788 m1789 m131 m1790) rfl rfl rfl hd_X12_truth.2 ⟨Nat.le_of_ble_eq_true rfl, Nat.le_of_ble_eq_true rfl⟩) (pre_S hW hB_G hK hZ hS) rfl rfl hl.1 rfl (lv_room (Nat.le_of_ble_eq_true rfl)) dX12_stands_25 ⟨Nat.le_of_ble_eq_true rfl, Nat.le_of_ble_eq_true rfl⟩) hS (fun r_20 G_21 H locs hpo hW hS => ?_)
      have hX_24 : Q_truth 1 G r_20 G_21 := hpo
      obtain ⟨hB_G_21, hq_22, f_25, hp_23, -⟩ := hpo
      have hF := hF.call9 hq_22 rfl rfl
      exact W.iret (v := r_20) hx hb hr (fun t ht _ => ⟨⟨r_20, G_21, rfl, (Q_stands_mk ⟨hB_G_21, hF, ⟨(by first | exact f_25.1 | omega), (by first | exact f_25.2 | omega)⟩, ⟨y_1, ey_1, (Or.inr ⟨c_2, ⟨y_10, ey_10, (Or.inr ⟨c_11, ⟨r_20, G_21, hX_24, ⟨rfl, rfl⟩⟩⟩)⟩⟩)⟩⟩), wd_t ht hW⟩, hS.F ht⟩) hS.2.2 dX12_stands_28

set_option maxHeartbeats 4000000 in
set_option maxRecDepth 100000 in
theorem n_layWins (l : Launch) (D : va_G) (k : KT) (A : Nat → Prop) (a : Nat → Nat) (z : SK) (G : GS) (p0 : Int32) (ha_p0 : 0 ≤ p0.toInt ∧ p0.toInt ≤ 63) : Met l yX12_layWins (WS yX12_layWins cX12_layWins 4 none) ({ frames := 0, cells := 0, slots := 0, locals := 0 }) (va_Pc [.ref (a 66), .int p0] (cW D k A a z G)) (va_Qv (fun (G1 : GS) => Q_layWins p0 G G1) (fun (G1 : GS) t => Wd D k A a G1 t.heap) A) 0 0 A := by
  refine Met.ofW (cc := cX12_layWins) (maxL := 4) (ret := none) (by decide) rfl ?_
  intro p e s m args below meth c s₁ B hml hv
  obtain ⟨rfl, hW, hB_G, hK, hZ⟩ := hv
  have hx := B.exec
  have hb := B.bytes
  have hr := B.returns
  have hts := atoms_spec (ws := WS yX12_layWins cX12_layWins 4 none) B.pre
  have hgd : ∀ w ∈ gd, w ∈ WS yX12_layWins cX12_layWins 4 none := fun w h => List.mem_cons_of_mem _ h
  have hg : ∀ w ∈ gd, w.before _ s = true := fun w h => hts w (hgd w h)
  have hown : s.vm.findClass RX12 = some m.cls := findClass_of_methodNamed B.named
  have hS : va_S A s.heap s.heap [] := va_S.rf
  have hF : Fr [108, 109] [] G G := Fr.rf
  have hl := lv_entry ([.ref (a 66), .int p0]) (n := 4) (Nat.le_of_ble_eq_true rfl)
  rw [lg_entry_eq]
  generalize (lg_sl ([.ref (a 66), .int p0]) ++ List.replicate (4 - (lg_sl ([.ref (a 66), .int p0])).length) Slot.unset).toArray = ls at hl ⊢
  have hl : lv_has ls 4 [(0, .ref (a 66)), (1, .int p0)] := hl
  refine lv_aload_n hx hb dX12_layWins_0 rfl (lv_at hl 0 rfl) ?_
  refine S_getR (n := 108) (C := RX12) (T := TX12) (N := 89) hx hb hg iX12 hown hK hW kd_66 rfl 74 (lt_b rfl) (hg (Cond.fieldLink RX12 145 "SlabWalkModel" "wins" "[Z") m1388) (fun _ h9 => h9) rfl dX12_layWins_1 ?_
  refine lv_iload_n hx hb dX12_layWins_4 rfl (lv_at hl 1 rfl) ?_
  refine ic_0 hx hb dX12_layWins_5 ?_
  refine S_zast hx hb hK hW hS kd_108 (vin ((by first | exact ha_p0.1 | omega)) ((by first | exact ok_380 ha_p0.2 | omega))) dX12_layWins_6 (fun G_1 H locs eG_1 hW hS => ?_)
  have hB_G_1 : Bd G_1 := hB_G.put (lo := 0) (hi := 1) eG_1 rfl rfl rfl nz_bool.1 nz_bool.2 (hB_G.2.put eG_1 rfl)
  have hF := hF.put eG_1 (Or.inl (by decide))
  refine lv_aload_n hx hb dX12_layWins_7 rfl (lv_at hl 0 rfl) ?_
  refine S_getR (n := 109) (C := RX12) (T := TX12) (N := 89) hx hb hg iX12 hown hK hW kd_66 rfl 75 (lt_b rfl) (hg (Cond.fieldLink RX12 148 "SlabWalkModel" "winsBy" "[I") m1389) (fun _ h9 => h9) rfl dX12_layWins_8 ?_
  refine lv_iload_n hx hb dX12_layWins_11 rfl (lv_at hl 1 rfl) ?_
  refine ic_m1 hx hb dX12_layWins_12 ?_
  refine S_iast hx hb hK hW hS kd_109 (vin ((by first | exact ha_p0.1 | omega)) ((by first | exact ok_380 ha_p0.2 | omega))) dX12_layWins_13 (fun G_2 H locs eG_2 hW hS => ?_)
  have hB_G_2 : Bd G_2 := hB_G_1.put (lo := (-2147483648)) (hi := 2147483647) eG_2 rfl rfl rfl (tI_rng _).1 (tI_rng _).2 (hB_G_1.2.put eG_2 rfl)
  have hF := hF.put eG_2 (Or.inl (by decide))
  refine ic_0 hx hb dX12_layWins_14 ?_
  refine lv_istore_n (lv' := [(2, .int 0), (0, .ref (a 66)), (1, .int p0)]) hx hb dX12_layWins_15 rfl hl (lt_b rfl) rfl (fun ls hl => ?_)
  have qc_9 : (0 : Int32).toInt = 0 := rfl
  refine loop_N (Inv := fun n H locs ls => ∃ (G_3 : GS) (x_7 : Int32), (n : Int) = 6 - x_7.toInt ∧ (0 ≤ x_7.toInt ∧ x_7.toInt ≤ 6) ∧ Rc (St_n_layWins_1 p0 G) (0, G_2) (x_7, G_3) ∧ Wd D k A a G_3 H ∧ Bd G_3 ∧ Fr [108, 109] [] G G_3 ∧ Fr [108, 109] [] G_2 G_3 ∧ va_S A s.heap H locs ∧ lv_has ls 4 [(2, .int x_7), (0, .ref (a 66)), (1, .int p0)]) (fun n_6 H locs ls ih_5 hI => ?_) (6 - 0 : Int).toNat ⟨G_2, 0, (Int.toNat_of_nonneg ((by decide))), ⟨(by decide), (by decide)⟩, Rc.rf, hW, hB_G_2, hF, Fr.rf, hS, lv_sub hl [0, 1, 2] rfl⟩
  obtain ⟨G_3, x_7, hn_11, f_10, hX_8, hW, hB_G_3, hF, hq_4, hS, hl⟩ := hI
  refine lv_iload_n hx hb dX12_layWins_16 rfl (lv_at hl 0 rfl) ?_
  refine lv_aload_n hx hb dX12_layWins_17 rfl (lv_at hl 1 rfl) ?_
  have b_12 : 0 ≤ (G.1 66 54).toInt ∧ (G.1 66 54).toInt ≤ 6 := bd_66_54 hB_G
  refine S_getI (v := (G.1 66 54)) (C := RX12) (T := TX12) (N := 89) hx hb hg iX12 hown hK hW kd_66 rfl 54 (lt_b rfl) (hg (Cond.fieldLink RX12 431 "SlabWalkModel" "rules" "I") m1368) (fun _ h9 => h9) rfl ((hq_4.i9 66 54 rfl rfl).trans ((gp_ne eG_2 (fun q => absurd q.1 (Nat.ne_of_beq_eq_false rfl))).trans (gp_ne eG_1 (fun q => absurd q.1 (Nat.ne_of_beq_eq_false rfl))))) dX12_layWins_18 ?_
  refine lv_icmp_ge (tgt := 85) hx hb dX12_layWins_21 rfl (fun c_13 => ?_) (fun c_13 => ?_)
  · have c_13 : (G.1 66 54).toInt ≤ x_7.toInt := xI_le rfl rfl c_13
    exact W.vret hx hb hr (fun t ht _ => ⟨⟨G_3, rfl, (Q_layWins_mk ⟨hB_G_3, hF, ⟨G_2, hB_G_2, (Fr.put (rs := [108, 109]) (fs := []) (Fr.put (rs := [108, 109]) (fs := []) Fr.rf eG_1 (Or.inl (by decide))) eG_2 (Or.inl (by decide))), (rw_put eG_2 (by decide)).trans (rw_ast eG_1), (rw_ast eG_2).trans (congrArg (fun q => upd q (p0.toNatClampNeg) (-1)) (rw_put eG_1 (by decide))), ⟨x_7, G_3, hX_8, f_10, hB_G_3, hq_4, (Or.inl ⟨c_13, rfl⟩)⟩⟩⟩), wd_t ht hW⟩, hS.F ht⟩) hS.2.2 dX12_layWins_85
  · have c_13 : x_7.toInt < (G.1 66 54).toInt := xI_nle rfl rfl c_13
    refine lv_aload_n hx hb dX12_layWins_24 rfl (lv_at hl 1 rfl) ?_
    refine S_getR (n := 108) (C := RX12) (T := TX12) (N := 89) hx hb hg iX12 hown hK hW kd_66 rfl 74 (lt_b rfl) (hg (Cond.fieldLink RX12 145 "SlabWalkModel" "wins" "[Z") m1388) (fun _ h9 => h9) rfl dX12_layWins_25 ?_
    refine lv_iload_n hx hb dX12_layWins_28 rfl (lv_at hl 2 rfl) ?_
    refine S_zald hx hb hK hW kd_108 (vin ((by first | exact ha_p0.1 | omega)) ((by first | exact ok_380 ha_p0.2 | omega))) dX12_layWins_29 (fun y_14 ey_14 => ?_)
    have ty_14 : 0 ≤ y_14.toInt ∧ y_14.toInt ≤ 1 := bv_108 hB_G_3 ey_14
    refine lv_if_ne (tgt := 85) hx hb dX12_layWins_30 rfl (fun c_15 => ?_) (fun c_15 => ?_)
    · have c_15 : y_14.toInt ≠ 0 := xI_ne rfl rfl c_15
      exact W.vret hx hb hr (fun t ht _ => ⟨⟨G_3, rfl, (Q_layWins_mk ⟨hB_G_3, hF, ⟨G_2, hB_G_2, (Fr.put (rs := [108, 109]) (fs := []) (Fr.put (rs := [108, 109]) (fs := []) Fr.rf eG_1 (Or.inl (by decide))) eG_2 (Or.inl (by decide))), (rw_put eG_2 (by decide)).trans (rw_ast eG_1), (rw_ast eG_2).trans (congrArg (fun q => upd q (p0.toNatClampNeg) (-1)) (rw_put eG_1 (by decide))), ⟨x_7, G_3, hX_8, f_10, hB_G_3, hq_4, (Or.inr ⟨c_13, ⟨y_14, ey_14, ⟨c_15, rfl⟩⟩⟩)⟩⟩⟩), wd_t ht hW⟩, hS.F ht⟩) hS.2.2 dX12_layWins_85
    · have c_15 : y_14.toInt = 0 := xI_eq rfl rfl c_15
      refine lv_iload_n hx hb dX12_layWins_33 rfl (lv_at hl 2 rfl) ?_
      refine ic_1 hx hb dX12_layWins_34 ?_
      refine lv_iload_n hx hb dX12_layWins_35 rfl (lv_at hl 0 rfl) ?_
      refine lv_ishl hx hb dX12_layWins_36 ?_
      refine lv_topi (fun y_16 ey_16 => ?_)
      have ty_16 := sh5 (Y := x_7.toInt) rfl ey_16 rfl (by first | (clear ha_p0 hn_11 ty_14 c_15; omega) | omega) (by first | (clear ha_p0 hn_11 ty_14 c_15; omega) | omega)
      refine lv_ior hx hb dX12_layWins_37 ?_
      refine lv_topi (fun y_17 ey_17 => ?_)
      have ty_17 := or6 ey_17 ⟨by omega, by omega⟩ ⟨by omega, by omega⟩
      refine lv_istore_n (lv' := [(3, .int y_17), (2, .int x_7), (0, .ref (a 66)), (1, .int p0)]) hx hb dX12_layWins_38 rfl hl (lt_b rfl) rfl (fun ls hl => ?_)
      refine lv_iload_n hx hb dX12_layWins_39 rfl (lv_at hl 0 rfl) ?_
      refine lv_iload_n hx hb dX12_layWins_40 rfl (lv_at hl 3 rfl) ?_
      refine lv_icmp_eq (tgt := 79) hx hb dX12_layWins_41 rfl (fun c_18 => ?_) (fun c_18 => ?_)
      · have c_18 : y_17.toInt = p0.toInt := xI_eq rfl rfl c_18
        obtain ⟨y_19, ey_19⟩ : ∃ q, q = x_7 + 1 := ⟨_, rfl⟩
        have ty_19 : y_19.toInt = x_7.toInt + 1 := xI_add rfl rfl ey_19 ((by first | exact ok_21 f_10.1 | omega)) ((by first | exact ok_157 f_10.2 | omega))
        refine lv_iinc (v := y_19) (lv' := [(2, .int y_19), (3, .int y_17), (0, .ref (a 66)), (1, .int p0)]) hx hb dX12_layWins_79 hl (k := 1) rfl (by rw [ey_19]; rfl) (lt_b rfl) rfl (fun ls hl => ?_)
        refine lv_goto (tgt := 16) hx hb dX12_layWins_82 rfl ?_
        exact ih_5 (6 - y_19.toInt : Int).toNat ((by first | (clear ha_p0 ty_14 c_15 ty_16 ty_17 c_18; omega) | omega)) _ _ _ ⟨G_3, y_19, (Int.toNat_of_nonneg ((by first | exact ok_568 f_10.2 b_12.2 c_13 ty_19 | omega))), ⟨(by first | exact ok_23 f_10.1 ty_19 | omega), (by first | exact ok_569 f_10.2 b_12.2 c_13 ty_19 | omega)⟩, (hX_8.st (St_n_layWins_1_mk ⟨x_7, G_3, y_19, G_3, rfl, rfl, f_10, hB_G_3, ⟨c_13, ⟨y_14, ey_14, ⟨c_15, ⟨y_16, ey_16, ⟨y_17, ey_17, (Or.inl ⟨c_18, ⟨y_19, ty_19, ⟨rfl, rfl⟩⟩⟩)⟩⟩⟩⟩⟩⟩)), hW, hB_G_3, hF, (Fr.call9 (rs := [108, 109]) (fs := []) Fr.rf hq_4 rfl rfl), hS, lv_sub hl [0, 2, 3] rfl⟩
      · have c_18 : y_17.toInt ≠ p0.toInt := xI_ne rfl rfl c_18
        refine lv_aload_n hx hb dX12_layWins_44 rfl (lv_at hl 2 rfl) ?_
        refine S_getR (n := 107) (C := RX12) (T := TX12) (N := 89) hx hb hg iX12 hown hK hW kd_66 rfl 73 (lt_b rfl) (hg (Cond.fieldLink RX12 142 "SlabWalkModel" "hasWays" "[Z") m1387) (fun _ h9 => h9) rfl dX12_layWins_45 ?_
        refine lv_iload_n hx hb dX12_layWins_48 rfl (lv_at hl 0 rfl) ?_
        refine S_zald hx hb hK hW kd_107 (vin ((by first | exact ty_17.1 | omega)) ((by first | exact ok_380 ty_17.2 | omega))) dX12_layWins_49 (fun y_20 ey_20 => ?_)
        have ty_20 : 0 ≤ y_20.toInt ∧ y_20.toInt ≤ 1 := bv_107 hB_G_3 ey_20
        refine lv_if_eq (tgt := 79) hx hb dX12_layWins_50 rfl (fun c_21 => ?_) (fun c_21 => ?_)
        · have c_21 : y_20.toInt = 0 := xI_eq rfl rfl c_21
          obtain ⟨y_22, ey_22⟩ : ∃ q, q = x_7 + 1 := ⟨_, rfl⟩
          have ty_22 : y_22.toInt = x_7.toInt + 1 := xI_add rfl rfl ey_22 ((by first | exact ok_21 f_10.1 | omega)) ((by first | exact ok_157 f_10.2 | omega))
          refine lv_iinc (v := y_22) (lv' := [(2, .int y_22), (3, .int y_17), (0, .ref (a 66)), (1, .int p0)]) hx hb dX12_layWins_79 hl (k := 1) rfl (by rw [ey_22]; rfl) (lt_b rfl) rfl (fun ls hl => ?_)
          refine lv_goto (tgt := 16) hx hb dX12_layWins_82 rfl ?_
          exact ih_5 (6 - y_22.toInt : Int).toNat ((by first | (clear ha_p0 ty_14 c_15 ty_16 ty_17 c_18 ty_20 c_21; omega) | omega)) _ _ _ ⟨G_3, y_22, (Int.toNat_of_nonneg ((by first | exact ok_568 f_10.2 b_12.2 c_13 ty_22 | omega))), ⟨(by first | exact ok_23 f_10.1 ty_22 | omega), (by first | exact ok_569 f_10.2 b_12.2 c_13 ty_22 | omega)⟩, (hX_8.st (St_n_layWins_1_mk ⟨x_7, G_3, y_22, G_3, rfl, rfl, f_10, hB_G_3, ⟨c_13, ⟨y_14, ey_14, ⟨c_15, ⟨y_16, ey_16, ⟨y_17, ey_17, (Or.inr ⟨c_18, ⟨y_20, ey_20, (Or.inl ⟨c_21, ⟨y_22, ty_22, ⟨rfl, rfl⟩⟩⟩)⟩⟩)⟩⟩⟩⟩⟩⟩)), hW, hB_G_3, hF, (Fr.call9 (rs := [108, 109]) (fs := []) Fr.rf hq_4 rfl rfl), hS, lv_sub hl [0, 2, 3] rfl⟩
        · have c_21 : y_20.toInt ≠ 0 := xI_ne rfl rfl c_21
          refine lv_aload_n hx hb dX12_layWins_53 rfl (lv_at hl 2 rfl) ?_
          refine S_getR (n := 108) (C := RX12) (T := TX12) (N := 89) hx hb hg iX12 hown hK hW kd_66 rfl 74 (lt_b rfl) (hg (Cond.fieldLink RX12 145 "SlabWalkModel" "wins" "[Z") m1388) (fun _ h9 => h9) rfl dX12_layWins_54 ?_
          refine lv_iload_n hx hb dX12_layWins_57 rfl (lv_at hl 0 rfl) ?_
          refine S_zald hx hb hK hW kd_108 (vin ((by first | exact ty_17.1 | omega)) ((by first | exact ok_380 ty_17.2 | omega))) dX12_layWins_58 (fun y_23 ey_23 => ?_)
          have ty_23 : 0 ≤ y_23.toInt ∧ y_23.toInt ≤ 1 := bv_108 hB_G_3 ey_23
          refine lv_if_eq (tgt := 65) hx hb dX12_layWins_59 rfl (fun c_24 => ?_) (fun c_24 => ?_)
          · have c_24 : y_23.toInt = 0 := xI_eq rfl rfl c_24
            refine lv_aload_n hx hb dX12_layWins_65 rfl (lv_at hl 2 rfl) ?_
            refine S_getR (n := 108) (C := RX12) (T := TX12) (N := 89) hx hb hg iX12 hown hK hW kd_66 rfl 74 (lt_b rfl) (hg (Cond.fieldLink RX12 145 "SlabWalkModel" "wins" "[Z") m1388) (fun _ h9 => h9) rfl dX12_layWins_66 ?_
            refine lv_iload_n hx hb dX12_layWins_69 rfl (lv_at hl 3 rfl) ?_
            refine ic_1 hx hb dX12_layWins_70 ?_
            refine S_zast hx hb hK hW hS kd_108 (vin ((by first | exact ha_p0.1 | omega)) ((by first | exact ok_380 ha_p0.2 | omega))) dX12_layWins_71 (fun G_25 H locs eG_25 hW hS => ?_)
            have hB_G_25 : Bd G_25 := hB_G_3.put (lo := 0) (hi := 1) eG_25 rfl rfl rfl nz_bool.1 nz_bool.2 (hB_G_3.2.put eG_25 rfl)
            have hF := hF.put eG_25 (Or.inl (by decide))
            refine lv_aload_n hx hb dX12_layWins_72 rfl (lv_at hl 2 rfl) ?_
            refine S_getR (n := 109) (C := RX12) (T := TX12) (N := 89) hx hb hg iX12 hown hK hW kd_66 rfl 75 (lt_b rfl) (hg (Cond.fieldLink RX12 148 "SlabWalkModel" "winsBy" "[I") m1389) (fun _ h9 => h9) rfl dX12_layWins_73 ?_
            refine lv_iload_n hx hb dX12_layWins_76 rfl (lv_at hl 3 rfl) ?_
            refine lv_iload_n hx hb dX12_layWins_77 rfl (lv_at hl 1 rfl) ?_
            refine S_iast hx hb hK hW hS kd_109 (vin ((by first | exact ha_p0.1 | omega)) ((by first | exact ok_380 ha_p0.2 | omega))) dX12_layWins_78 (fun G_26 H locs eG_26 hW hS => ?_)
            have hB_G_26 : Bd G_26 := hB_G_25.put (lo := (-2147483648)) (hi := 2147483647) eG_26 rfl rfl rfl (tI_rng _).1 (tI_rng _).2 (hB_G_25.2.put eG_26 rfl)
            have hF := hF.put eG_26 (Or.inl (by decide))
            obtain ⟨y_27, ey_27⟩ : ∃ q, q = x_7 + 1 := ⟨_, rfl⟩
            have ty_27 : y_27.toInt = x_7.toInt + 1 := xI_add rfl rfl ey_27 ((by first | exact ok_21 f_10.1 | omega)) ((by first | exact ok_157 f_10.2 | omega))
            refine lv_iinc (v := y_27) (lv' := [(2, .int y_27), (3, .int y_17), (0, .ref (a 66)), (1, .int p0)]) hx hb dX12_layWins_79 hl (k := 1) rfl (by rw [ey_27]; rfl) (lt_b rfl) rfl (fun ls hl => ?_)
            refine lv_goto (tgt := 16) hx hb dX12_layWins_82 rfl ?_
            exact ih_5 (6 - y_27.toInt : Int).toNat ((by first | (clear ha_p0 ty_14 c_15 ty_16 ty_17 c_18 ty_20 c_21 ty_23 c_24; omega) | omega)) _ _ _ ⟨G_26, y_27, (Int.toNat_of_nonneg ((by first | exact ok_568 f_10.2 b_12.2 c_13 ty_27 | omega))), ⟨(by first | exact ok_23 f_10.1 ty_27 | omega), (by first | exact ok_569 f_10.2 b_12.2 c_13 ty_27 | omega)⟩, (hX_8.st (St_n_layWins_1_mk ⟨x_7, G_3, y_27, G_26, rfl, rfl, f_10, hB_G_3, ⟨c_13, ⟨y_14, ey_14, ⟨c_15, ⟨y_16, ey_16, ⟨y_17, ey_17, (Or.inr ⟨c_18, ⟨y_20, ey_20, (Or.inr ⟨c_21, ⟨y_23, ey_23, (Or.inl ⟨c_24, ⟨y_27, ty_27, ⟨rfl, (Fr.put (rs := [108, 109]) (fs := []) (Fr.put (rs := [108, 109]) (fs := []) Fr.rf eG_25 (Or.inl (by decide))) eG_26 (Or.inl (by decide))), (rw_put eG_26 (by decide)).trans (rw_ast eG_25), (rw_ast eG_26).trans (congrArg (fun q => upd q (p0.toNatClampNeg) x_7) (rw_put eG_25 (by decide)))⟩⟩⟩)⟩⟩)⟩⟩)⟩⟩⟩⟩⟩⟩)), hW, hB_G_26, hF, (Fr.put (rs := [108, 109]) (fs := []) (Fr.put (rs := [108, 109]) (fs := []) (Fr.call9 (rs := [108, 109]) (fs := []) Fr.rf hq_4 rfl rfl) eG_25 (Or.inl (by decide))) eG_26 (Or.inl (by decide))), hS, lv_sub hl [0, 2, 3] rfl⟩
          · have c_24 : y_23.toInt ≠ 0 := xI_ne rfl rfl c_24
            refine lv_goto (tgt := 79) hx hb dX12_layWins_62 rfl ?_
            obtain ⟨y_28, ey_28⟩ : ∃ q, q = x_7 + 1 := ⟨_, rfl⟩
            have ty_28 : y_28.toInt = x_7.toInt + 1 := xI_add rfl rfl ey_28 ((by first | exact ok_21 f_10.1 | omega)) ((by first | exact ok_157 f_10.2 | omega))
            refine lv_iinc (v := y_28) (lv' := [(2, .int y_28), (3, .int y_17), (0, .ref (a 66)), (1, .int p0)]) hx hb dX12_layWins_79 hl (k := 1) rfl (by rw [ey_28]; rfl) (lt_b rfl) rfl (fun ls hl => ?_)
            refine lv_goto (tgt := 16) hx hb dX12_layWins_82 rfl ?_
            exact ih_5 (6 - y_28.toInt : Int).toNat ((by first | (clear ha_p0 ty_14 c_15 ty_16 ty_17 c_18 ty_20 c_21 ty_23 c_24; omega) | omega)) _ _ _ ⟨G_3, y_28, (Int.toNat_of_nonneg ((by first | exact ok_568 f_10.2 b_12.2 c_13 ty_28 | omega))), ⟨(by first | exact ok_23 f_10.1 ty_28 | omega), (by first | exact ok_569 f_10.2 b_12.2 c_13 ty_28 | omega)⟩, (hX_8.st (St_n_layWins_1_mk ⟨x_7, G_3, y_28, G_3, rfl, rfl, f_10, hB_G_3, ⟨c_13, ⟨y_14, ey_14, ⟨c_15, ⟨y_16, ey_16, ⟨y_17, ey_17, (Or.inr ⟨c_18, ⟨y_20, ey_20, (Or.inr ⟨c_21, ⟨y_23, ey_23, (Or.inr ⟨c_24, ⟨y_28, ty_28, ⟨rfl, rfl⟩⟩⟩)⟩⟩)⟩⟩)⟩⟩⟩⟩⟩⟩)), hW, hB_G_3, hF, (Fr.call9 (rs := [108, 109]) (fs := []) Fr.rf hq_4 rfl rfl), hS, lv_sub hl [0, 2, 3] rfl⟩

set_option maxHeartbeats 4000000 in
set_option maxRecDepth 100000 in
theorem n_goOn (l : Launch) (D : va_G) (k : KT) (A : Nat → Prop) (a : Nat → Nat) (z : SK) (G : GS) (p0 : Int32) (ha_p0 : 0 ≤ p0.toInt ∧ p0.toInt ≤ 799) : Met l yX12_goOn (WS yX12_goOn cX12_goOn 5 none) ({ frames := 1, cells := 0, slots := 0, locals := 21 }) (va_Pc [.ref (a 66), .int p0] (cW D k A a z G)) (va_Qv (fun (G1 : GS) => Q_goOn p0 G G1) (fun (G1 : GS) t => Wd D k A a G1 t.heap) A) 0 0 A := by
  refine Met.ofW (cc := cX12_goOn) (maxL := 5) (ret := none) (by decide) rfl ?_
  intro p e s m args below meth c s₁ B hml hv
  obtain ⟨rfl, hW, hB_G, hK, hZ⟩ := hv
  have hx := B.exec
  have hb := B.bytes
  have hr := B.returns
  have hts := atoms_spec (ws := WS yX12_goOn cX12_goOn 5 none) B.pre
  have hgd : ∀ w ∈ gd, w ∈ WS yX12_goOn cX12_goOn 5 none := fun w h => List.mem_cons_of_mem _ h
  have hg : ∀ w ∈ gd, w.before _ s = true := fun w h => hts w (hgd w h)
  have hown : s.vm.findClass RX12 = some m.cls := findClass_of_methodNamed B.named
  have hS : va_S A s.heap s.heap [] := va_S.rf
  have hF : Fr [102] [] G G := Fr.rf
  have hl := lv_entry ([.ref (a 66), .int p0]) (n := 5) (Nat.le_of_ble_eq_true rfl)
  rw [lg_entry_eq]
  generalize (lg_sl ([.ref (a 66), .int p0]) ++ List.replicate (5 - (lg_sl ([.ref (a 66), .int p0])).length) Slot.unset).toArray = ls at hl ⊢
  have hl : lv_has ls 5 [(0, .ref (a 66)), (1, .int p0)] := hl
  refine lv_iload_n hx hb dX12_goOn_0 rfl (lv_at hl 1 rfl) ?_
  refine ic_2 hx hb dX12_goOn_1 ?_
  refine lv_idiv hx hb dX12_goOn_2 (by decide) ?_
  refine lv_topi (fun y_1 ey_1 => ?_)
  have ty_1 : y_1.toInt = p0.toInt / 2 := xI_div rfl ey_1 (by decide) ((by first | exact ha_p0.1 | omega))
  refine lv_istore_n (lv' := [(2, .int y_1), (0, .ref (a 66)), (1, .int p0)]) hx hb dX12_goOn_3 rfl hl (lt_b rfl) rfl (fun ls hl => ?_)
  refine lv_aload_n hx hb dX12_goOn_4 rfl (lv_at hl 1 rfl) ?_
  have b_2 : 0 ≤ (G.1 66 61).toInt ∧ (G.1 66 61).toInt ≤ 60 := bd_66_61 hB_G
  refine S_getI (v := (G.1 66 61)) (C := RX12) (T := TX12) (N := 89) hx hb hg iX12 hown hK hW kd_66 rfl 61 (lt_b rfl) (hg (Cond.fieldLink RX12 475 "SlabWalkModel" "least" "I") m1375) (fun _ h9 => h9) rfl rfl dX12_goOn_5 ?_
  refine lv_istore_n (lv' := [(3, .int (G.1 66 61)), (2, .int y_1), (0, .ref (a 66)), (1, .int p0)]) hx hb dX12_goOn_8 rfl hl (lt_b rfl) rfl (fun ls hl => ?_)
  refine loop_N (Inv := fun n H locs ls => ∃ (G_3 : GS) (x_7 : Int32), (n : Int) = 100 - x_7.toInt ∧ (0 ≤ x_7.toInt ∧ x_7.toInt ≤ 100) ∧ Rc (St_n_goOn_1 p0 y_1 G) ((G.1 66 61), G) (x_7, G_3) ∧ Wd D k A a G_3 H ∧ Bd G_3 ∧ Fr [102] [] G G_3 ∧ Fr [102] [] G G_3 ∧ va_S A s.heap H locs ∧ lv_has ls 5 [(3, .int x_7), (2, .int y_1), (0, .ref (a 66)), (1, .int p0)]) (fun n_6 H locs ls ih_5 hI => ?_) (100 - (G.1 66 61).toInt : Int).toNat ⟨G, (G.1 66 61), (Int.toNat_of_nonneg ((by first | exact ok_754 b_2.2 | omega))), ⟨(by first | exact b_2.1 | omega), (by first | exact ok_755 b_2.2 | omega)⟩, Rc.rf, hW, hB_G, hF, Fr.rf, hS, lv_sub hl [0, 1, 2, 3] rfl⟩
  obtain ⟨G_3, x_7, hn_10, f_9, hX_8, hW, hB_G_3, hF, hq_4, hS, hl⟩ := hI
  refine lv_iload_n hx hb dX12_goOn_9 rfl (lv_at hl 0 rfl) ?_
  refine lv_iload_n hx hb dX12_goOn_10 rfl (lv_at hl 3 rfl) ?_
  refine ic_2 hx hb dX12_goOn_11 ?_
  refine lv_irem hx hb dX12_goOn_12 (by decide) ?_
  refine lv_topi (fun y_11 ey_11 => ?_)
  have ty_11 : y_11.toInt = p0.toInt % 2 := xI_mod rfl ey_11 (by decide) ((by first | exact ha_p0.1 | omega))
  refine ic_1 hx hb dX12_goOn_13 ?_
  refine W.cut (σ := Int32) (pcJ := 28) (J := fun y H locs ls => ∃ (G_18 : GS), (0 ≤ y.toInt ∧ y.toInt ≤ 99) ∧ Jn_n_goOn_2 y_11 G G_3 y G_18 ∧ Wd D k A a G_18 H ∧ Bd G_18 ∧ Fr [102] [] G G_18 ∧ Fr [] [] G_3 G_18 ∧ va_S A s.heap H locs ∧ lv_has ls 5 [(3, .int x_7), (2, .int y_1), (0, .ref (a 66)), (1, .int p0)]) (stJ := fun y => [.int y, .int x_7]) ?_ (fun hJ_19 => ?_)
  · intro y H locs ls hI
    obtain ⟨w_16, hy⟩ : ∃ q, q = y := ⟨_, rfl⟩
    subst hy
    obtain ⟨G_18, f_22, hX_21, hW, hB_G_18, hF, hq_20, hS, hl⟩ := hI
    refine lv_icmp_gt (tgt := 99) hx hb dX12_goOn_28 rfl (fun c_23 => ?_) (fun c_23 => ?_)
    · have c_23 : w_16.toInt < x_7.toInt := xI_lt rfl rfl c_23
      exact W.vret hx hb hr (fun t ht _ => ⟨⟨G_18, rfl, (Q_goOn_mk ⟨hB_G_18, hF, ⟨y_1, ty_1, ⟨x_7, G_3, hX_8, f_9, hB_G_3, hq_4, ⟨y_11, ty_11, ⟨w_16, G_18, hX_21, f_22, hB_G_18, hq_20, ⟨c_23, rfl⟩⟩⟩⟩⟩⟩), wd_t ht hW⟩, hS.F ht⟩) hS.2.2 dX12_goOn_99
    · have c_23 : x_7.toInt ≤ w_16.toInt := xI_nlt rfl rfl c_23
      refine lv_aload_n hx hb dX12_goOn_31 rfl (lv_at hl 2 rfl) ?_
      refine S_getR (n := 98) (C := RX12) (T := TX12) (N := 89) hx hb hg iX12 hown hK hW kd_66 rfl 58 (lt_b rfl) (hg (Cond.fieldLink RX12 115 "SlabWalkModel" "lawful" "[Z") m1372) (fun _ h9 => h9) rfl dX12_goOn_32 ?_
      refine lv_iload_n hx hb dX12_goOn_35 rfl (lv_at hl 1 rfl) ?_
      refine lv_iload_n hx hb dX12_goOn_36 rfl (lv_at hl 0 rfl) ?_
      refine lv_iadd hx hb dX12_goOn_37 ?_
      refine lv_topi (fun y_24 ey_24 => ?_)
      have ty_24 : y_24.toInt = y_1.toInt + x_7.toInt := xI_add rfl rfl ey_24 ((by first | exact ok_756 ha_p0.1 ty_1 f_9.1 | omega)) ((by first | exact ok_757 ha_p0.2 ty_1 f_9.2 | omega))
      refine S_zald hx hb hK hW kd_98 (vin ((by first | exact ok_758 ha_p0.1 ty_1 f_9.1 ty_24 | omega)) ((by first | exact ok_759 ha_p0.2 ty_1 f_9.2 ty_24 | omega))) dX12_goOn_38 (fun y_25 ey_25 => ?_)
      have ty_25 := hB_G_18.law ey_25
      refine lv_if_ne (tgt := 45) hx hb dX12_goOn_39 rfl (fun c_26 => ?_) (fun c_26 => ?_)
      · have c_26 : y_25.toInt ≠ 0 := xI_ne rfl rfl c_26
        refine ic_2 hx hb dX12_goOn_45 ?_
        refine lv_iload_n hx hb dX12_goOn_46 rfl (lv_at hl 1 rfl) ?_
        refine lv_iload_n hx hb dX12_goOn_47 rfl (lv_at hl 0 rfl) ?_
        refine lv_iadd hx hb dX12_goOn_48 ?_
        refine lv_topi (fun y_27 ey_27 => ?_)
        have ty_27 : y_27.toInt = y_1.toInt + x_7.toInt := xI_add rfl rfl ey_27 ((by first | exact ok_756 ha_p0.1 ty_1 f_9.1 | omega)) ((by first | exact ok_757 ha_p0.2 ty_1 f_9.2 | omega))
        refine lv_imul hx hb dX12_goOn_49 ?_
        refine lv_topi (fun y_28 ey_28 => ?_)
        have ty_28 : y_28.toInt = 2 * y_27.toInt := xI_mul rfl rfl ey_28 ((by first | exact ok_760 ha_p0.1 ty_1 f_9.1 ty_27 | omega)) ((by first | exact ok_761 ha_p0.2 ty_1 f_9.2 ty_27 | omega))
        refine lv_iload_n hx hb dX12_goOn_50 rfl (lv_at hl 0 rfl) ?_
        refine lv_aload_n hx hb dX12_goOn_51 rfl (lv_at hl 2 rfl) ?_
        have b_29 : 0 ≤ (G.1 66 62).toInt ∧ (G.1 66 62).toInt ≤ 60 := bd_66_62 hB_G
        refine S_getI (v := (G.1 66 62)) (C := RX12) (T := TX12) (N := 89) hx hb hg iX12 hown hK hW kd_66 rfl 62 (lt_b rfl) (hg (Cond.fieldLink RX12 478 "SlabWalkModel" "most" "I") m1376) (fun _ h9 => h9) rfl ((hq_20.i9 66 62 rfl rfl).trans (hq_4.i9 66 62 rfl rfl)) dX12_goOn_52 ?_
        refine W.cut (σ := Int32) (pcJ := 63) (J := fun y H locs ls => ∃ (G_36 : GS), (0 ≤ y.toInt ∧ y.toInt ≤ 1) ∧ Jn_n_goOn_3 x_7 G G_18 y G_36 ∧ Wd D k A a G_36 H ∧ Bd G_36 ∧ Fr [102] [] G G_36 ∧ Fr [] [] G_18 G_36 ∧ va_S A s.heap H locs ∧ lv_has ls 5 [(3, .int x_7), (2, .int y_1), (0, .ref (a 66)), (1, .int p0)]) (stJ := fun y => [.int y, .int y_28]) ?_ (fun hJ_37 => ?_)
        · intro y H locs ls hI
          obtain ⟨w_34, hy⟩ : ∃ q, q = y := ⟨_, rfl⟩
          subst hy
          obtain ⟨G_36, f_40, hX_39, hW, hB_G_36, hF, hq_38, hS, hl⟩ := hI
          refine S_calli (va_runS (As := [.int w_34]) (rest := [.int y_28]) ⟨hx, hb, hml, hown, hts⟩ (n_truth l D k A a z G_36 w_34 ⟨(by first | exact f_40.1 | omega), (by first | exact f_40.2 | omega)⟩) (va_cwS 1 hts (gd_S hgd m1788 m1789 m131 m1790) rfl rfl rfl hd_X12_truth.2 ⟨Nat.le_of_ble_eq_true rfl, Nat.le_of_ble_eq_true rfl⟩) (pre_S hW hB_G_36 hK hZ hS) rfl rfl hl.1 rfl (lv_room (Nat.le_of_ble_eq_true rfl)) dX12_goOn_63 ⟨Nat.le_of_ble_eq_true rfl, Nat.le_of_ble_eq_true rfl⟩) hS (fun r_41 G_42 H locs hpo hW hS => ?_)
          have hX_45 : Q_truth w_34 G_36 r_41 G_42 := hpo
          obtain ⟨hB_G_42, hq_43, f_46, hp_44, -⟩ := hpo
          have hF := hF.call9 hq_43 rfl rfl
          refine lv_iadd hx hb dX12_goOn_66 ?_
          refine lv_topi (fun y_47 ey_47 => ?_)
          have ty_47 : y_47.toInt = y_28.toInt + r_41.toInt := xI_add rfl rfl ey_47 ((by first | exact ok_762 ha_p0.1 ty_1 f_9.1 ty_27 ty_28 f_46.1 | omega)) ((by first | exact ok_763 ha_p0.2 ty_1 f_9.2 ty_27 ty_28 f_46.2 | omega))
          refine lv_istore (lv' := [(4, .int y_47), (3, .int x_7), (2, .int y_1), (0, .ref (a 66)), (1, .int p0)]) hx hb dX12_goOn_67 hl (lt_b rfl) rfl (fun ls hl => ?_)
          refine lv_aload_n hx hb dX12_goOn_69 rfl (lv_at hl 3 rfl) ?_
          refine S_getR (n := 102) (C := RX12) (T := TX12) (N := 89) hx hb hg iX12 hown hK hW kd_66 rfl 68 (lt_b rfl) (hg (Cond.fieldLink RX12 127 "SlabWalkModel" "next" "[J") m1382) (fun _ h9 => h9) rfl dX12_goOn_70 ?_
          refine lv_iload hx hb dX12_goOn_73 (lv_at hl 0 rfl) ?_
          refine lv_aload_n hx hb dX12_goOn_75 rfl (lv_at hl 3 rfl) ?_
          refine S_getR (n := 102) (C := RX12) (T := TX12) (N := 89) hx hb hg iX12 hown hK hW kd_66 rfl 68 (lt_b rfl) (hg (Cond.fieldLink RX12 127 "SlabWalkModel" "next" "[J") m1382) (fun _ h9 => h9) rfl dX12_goOn_76 ?_
          refine lv_iload hx hb dX12_goOn_79 (lv_at hl 0 rfl) ?_
          refine S_lald hx hb hK hW kd_102 (vin ((by first | (clear b_2 hn_10 c_26 b_29; omega) | omega)) ((by first | exact ok_764 ha_p0.2 ty_1 f_9.2 ty_27 ty_28 f_46.2 ty_47 | omega))) dX12_goOn_81 (fun y_48 ey_48 => ?_)
          refine lv_aload_n hx hb dX12_goOn_82 rfl (lv_at hl 3 rfl) ?_
          refine S_getR (n := 101) (C := RX12) (T := TX12) (N := 89) hx hb hg iX12 hown hK hW kd_66 rfl 67 (lt_b rfl) (hg (Cond.fieldLink RX12 124 "SlabWalkModel" "ways" "[J") m1381) (fun _ h9 => h9) rfl dX12_goOn_83 ?_
          refine lv_iload_n hx hb dX12_goOn_86 rfl (lv_at hl 4 rfl) ?_
          refine S_lald hx hb hK hW kd_101 (vin ((by first | exact ha_p0.1 | omega)) ((by first | exact ok_765 ha_p0.2 | omega))) dX12_goOn_87 (fun y_49 ey_49 => ?_)
          refine lv_ladd hx hb dX12_goOn_88 ?_
          refine lv_topl (fun y_50 ey_50 => ?_)
          refine S_calll (va_runS (As := [.long y_50]) (rest := [.int y_47, .ref (a 102)]) ⟨hx, hb, hml, hown, hts⟩ (n_capped l D k A a z G_42 y_50 ) (va_cwS 1 hts (gd_S hgd m1879 m1880 m131 m1881) rfl rfl rfl hd_X12_capped.2 ⟨Nat.le_of_ble_eq_true rfl, Nat.le_of_ble_eq_true rfl⟩) (pre_S hW hB_G_42 hK hZ hS) rfl rfl hl.1 rfl (lv_room (Nat.le_of_ble_eq_true rfl)) dX12_goOn_89 ⟨Nat.le_of_ble_eq_true rfl, Nat.le_of_ble_eq_true rfl⟩) hS (fun r_51 G_52 H locs hpo hW hS => ?_)
          have hX_55 : Q_capped y_50 G_42 r_51 G_52 := hpo
          obtain ⟨hB_G_52, hq_53, -⟩ := hpo
          have hF := hF.call9 hq_53 rfl rfl
          refine S_last hx hb hK hW hS kd_102 (vin ((by first | (clear b_2 hn_10 c_26 b_29; omega) | omega)) ((by first | exact ok_764 ha_p0.2 ty_1 f_9.2 ty_27 ty_28 f_46.2 ty_47 | omega))) dX12_goOn_92 (fun G_56 H locs eG_56 hW hS => ?_)
          have hB_G_56 : Bd G_56 := hB_G_52.putl eG_56
          have hF := hF.putl eG_56 (Or.inl (by decide))
          obtain ⟨y_57, ey_57⟩ : ∃ q, q = x_7 + 1 := ⟨_, rfl⟩
          have ty_57 : y_57.toInt = x_7.toInt + 1 := xI_add rfl rfl ey_57 ((by first | exact ok_21 f_9.1 | omega)) ((by first | exact ok_134 f_9.2 | omega))
          refine lv_iinc (v := y_57) (lv' := [(3, .int y_57), (4, .int y_47), (2, .int y_1), (0, .ref (a 66)), (1, .int p0)]) hx hb dX12_goOn_93 hl (k := 1) rfl (by rw [ey_57]; rfl) (lt_b rfl) rfl (fun ls hl => ?_)
          refine lv_goto (tgt := 9) hx hb dX12_goOn_96 rfl ?_
          exact ih_5 (100 - y_57.toInt : Int).toNat ((by first | (clear b_2 c_26 b_29; omega) | omega)) _ _ _ ⟨G_56, y_57, (Int.toNat_of_nonneg ((by first | exact ok_766 f_9.2 f_22.2 c_23 ty_57 | omega))), ⟨(by first | exact ok_23 f_9.1 ty_57 | omega), (by first | exact ok_767 f_9.2 f_22.2 c_23 ty_57 | omega)⟩, (hX_8.st (St_n_goOn_1_mk ⟨x_7, G_3, y_57, G_56, rfl, rfl, f_9, hB_G_3, ⟨y_11, ty_11, ⟨w_16, G_18, hX_21, f_22, hB_G_18, hq_20, ⟨c_23, ⟨y_24, ty_24, ⟨y_25, ey_25, (Or.inr ⟨c_26, ⟨y_27, ty_27, ⟨y_28, ty_28, ⟨w_34, G_36, hX_39, f_40, hB_G_36, hq_38, ⟨r_41, G_42, hX_45, ⟨y_47, ty_47, ⟨y_48, ey_48, ⟨y_49, ey_49, ⟨y_50, ey_50, ⟨r_51, G_52, hX_55, ⟨y_57, ty_57, ⟨rfl, (Fr.putl (rs := [102]) (fs := []) Fr.rf eG_56 (Or.inl (by decide))), rl_ast eG_56⟩⟩⟩⟩⟩⟩⟩⟩⟩⟩⟩⟩)⟩⟩⟩⟩⟩⟩)), hW, hB_G_56, hF, (Fr.putl (rs := [102]) (fs := []) (Fr.call9 (rs := [102]) (fs := []) (Fr.call9 (rs := [102]) (fs := []) (Fr.call9 (rs := [102]) (fs := []) (Fr.call9 (rs := [102]) (fs := []) (Fr.call9 (rs := [102]) (fs := []) Fr.rf hq_4 rfl rfl) hq_20 rfl rfl) hq_38 rfl rfl) hq_43 rfl rfl) hq_53 rfl rfl) eG_56 (Or.inl (by decide))), hS, lv_sub hl [0, 2, 3, 4] rfl⟩
        refine lv_icmp_le (tgt := 62) hx hb dX12_goOn_55 rfl (fun c_58 => ?_) (fun c_58 => ?_)
        · have c_58 : x_7.toInt ≤ (G.1 66 62).toInt := xI_le rfl rfl c_58
          refine ic_0 hx hb dX12_goOn_62 ?_
          have qc_59 : (0 : Int32).toInt = 0 := rfl
          exact hJ_37 0 _ _ _ ⟨G_18, ⟨(by decide), (by decide)⟩, (Jn_n_goOn_3_mk (Or.inl ⟨c_58, ⟨rfl, rfl⟩⟩)), hW, hB_G_18, hF, (Fr.rf (rs := []) (fs := [])), hS, lv_sub hl [0, 1, 2, 3] rfl⟩
        · have c_58 : (G.1 66 62).toInt < x_7.toInt := xI_nle rfl rfl c_58
          refine ic_1 hx hb dX12_goOn_58 ?_
          refine lv_goto (tgt := 63) hx hb dX12_goOn_59 rfl ?_
          have qc_60 : (1 : Int32).toInt = 1 := rfl
          exact hJ_37 1 _ _ _ ⟨G_18, ⟨(by decide), (by decide)⟩, (Jn_n_goOn_3_mk (Or.inr ⟨c_58, ⟨rfl, rfl⟩⟩)), hW, hB_G_18, hF, (Fr.rf (rs := []) (fs := [])), hS, lv_sub hl [0, 1, 2, 3] rfl⟩
      · have c_26 : y_25.toInt = 0 := xI_eq rfl rfl c_26
        refine lv_goto (tgt := 93) hx hb dX12_goOn_42 rfl ?_
        obtain ⟨y_61, ey_61⟩ : ∃ q, q = x_7 + 1 := ⟨_, rfl⟩
        have ty_61 : y_61.toInt = x_7.toInt + 1 := xI_add rfl rfl ey_61 ((by first | exact ok_21 f_9.1 | omega)) ((by first | exact ok_134 f_9.2 | omega))
        refine lv_iinc (v := y_61) (lv' := [(3, .int y_61), (2, .int y_1), (0, .ref (a 66)), (1, .int p0)]) hx hb dX12_goOn_93 hl (k := 0) rfl (by rw [ey_61]; rfl) (lt_b rfl) rfl (fun ls hl => ?_)
        refine lv_goto (tgt := 9) hx hb dX12_goOn_96 rfl ?_
        exact ih_5 (100 - y_61.toInt : Int).toNat (by omega) _ _ _ ⟨G_18, y_61, (Int.toNat_of_nonneg ((by first | exact ok_766 f_9.2 f_22.2 c_23 ty_61 | omega))), ⟨(by first | exact ok_23 f_9.1 ty_61 | omega), (by first | exact ok_767 f_9.2 f_22.2 c_23 ty_61 | omega)⟩, (hX_8.st (St_n_goOn_1_mk ⟨x_7, G_3, y_61, G_18, rfl, rfl, f_9, hB_G_3, ⟨y_11, ty_11, ⟨w_16, G_18, hX_21, f_22, hB_G_18, hq_20, ⟨c_23, ⟨y_24, ty_24, ⟨y_25, ey_25, (Or.inl ⟨c_26, ⟨y_61, ty_61, ⟨rfl, rfl⟩⟩⟩)⟩⟩⟩⟩⟩⟩)), hW, hB_G_18, hF, (Fr.call9 (rs := [102]) (fs := []) (Fr.call9 (rs := [102]) (fs := []) Fr.rf hq_4 rfl rfl) hq_20 rfl rfl), hS, lv_sub hl [0, 1, 2, 3] rfl⟩
  refine lv_icmp_ne (tgt := 24) hx hb dX12_goOn_14 rfl (fun c_62 => ?_) (fun c_62 => ?_)
  · have c_62 : y_11.toInt ≠ 1 := xI_ne rfl rfl c_62
    refine lv_aload_n hx hb dX12_goOn_24 rfl (lv_at hl 2 rfl) ?_
    have b_63 : 0 ≤ (G.1 66 63).toInt ∧ (G.1 66 63).toInt ≤ 99 := bd_66_63 hB_G
    refine S_getI (v := (G.1 66 63)) (C := RX12) (T := TX12) (N := 89) hx hb hg iX12 hown hK hW kd_66 rfl 63 (lt_b rfl) (hg (Cond.fieldLink RX12 481 "SlabWalkModel" "leap" "I") m1377) (fun _ h9 => h9) rfl (hq_4.i9 66 63 rfl rfl) dX12_goOn_25 ?_
    exact hJ_19 (G.1 66 63) _ _ _ ⟨G_3, ⟨(by first | exact b_63.1 | omega), (by first | exact b_63.2 | omega)⟩, (Jn_n_goOn_2_mk (Or.inr ⟨c_62, ⟨rfl, rfl⟩⟩)), hW, hB_G_3, hF, (Fr.rf (rs := []) (fs := [])), hS, lv_sub hl [0, 1, 2, 3] rfl⟩
  · have c_62 : y_11.toInt = 1 := xI_eq rfl rfl c_62
    refine lv_aload_n hx hb dX12_goOn_17 rfl (lv_at hl 2 rfl) ?_
    have b_64 : 0 ≤ (G.1 66 62).toInt ∧ (G.1 66 62).toInt ≤ 60 := bd_66_62 hB_G
    refine S_getI (v := (G.1 66 62)) (C := RX12) (T := TX12) (N := 89) hx hb hg iX12 hown hK hW kd_66 rfl 62 (lt_b rfl) (hg (Cond.fieldLink RX12 478 "SlabWalkModel" "most" "I") m1376) (fun _ h9 => h9) rfl (hq_4.i9 66 62 rfl rfl) dX12_goOn_18 ?_
    refine lv_goto (tgt := 28) hx hb dX12_goOn_21 rfl ?_
    exact hJ_19 (G.1 66 62) _ _ _ ⟨G_3, ⟨(by first | exact b_64.1 | omega), (by first | exact ok_768 b_64.2 | omega)⟩, (Jn_n_goOn_2_mk (Or.inl ⟨c_62, ⟨rfl, rfl⟩⟩)), hW, hB_G_3, hF, (Fr.rf (rs := []) (fs := [])), hS, lv_sub hl [0, 1, 2, 3] rfl⟩

theorem m95 : Cond.selects RX12 yX12_isEnd yX12_isEnd ∈ gd := gds_6 15 rfl
theorem m101 : Cond.selects RX12 yX12_isHeld yX12_isHeld ∈ gd := gds_7 5 rfl
theorem m1383 : Cond.fieldLink RX12 130 "SlabWalkModel" "comes" "[Z" ∈ gd := gdc_6_4 3 rfl gw_fieldLink
theorem m1384 : Cond.fieldLink RX12 133 "SlabWalkModel" "leapt" "[I" ∈ gd := gdc_6_4 4 rfl gw_fieldLink
theorem m1385 : Cond.fieldLink RX12 136 "SlabWalkModel" "leaptNext" "[I" ∈ gd := gdc_6_4 5 rfl gw_fieldLink
theorem m1854 : Cond.methodLink RX12 499 yX12_isEnd ∈ gd := gdc_8_3 10 rfl gw_methodLink
theorem m1856 : Cond.instanceMethod yX12_isEnd ∈ gd := gdc_8_3 12 rfl gw_instanceMethod
theorem m1857 : Cond.code yX12_isEnd cX12_isEnd 2 (some .boolean) ∈ gd := gdc_8_3 13 rfl gw_code
theorem m1863 : Cond.methodLink RX12 506 yX12_lesser ∈ gd := gdc_8_4 3 rfl gw_methodLink
theorem m1864 : Cond.static yX12_lesser ∈ gd := gdc_8_4 4 rfl gw_static
theorem m1865 : Cond.code yX12_lesser cX12_lesser 2 (some .int) ∈ gd := gdc_8_4 5 rfl gw_code
theorem m1931 : Cond.methodLink RX12 547 yX12_isHeld ∈ gd := gdc_8_8 7 rfl gw_methodLink
theorem m1933 : Cond.instanceMethod yX12_isHeld ∈ gd := gdc_8_8 9 rfl gw_instanceMethod
theorem m1934 : Cond.code yX12_isHeld cX12_isHeld 3 (some .boolean) ∈ gd := gdc_8_8 10 rfl gw_code
noncomputable def rbX12_isEven_0 : List (Nat × List Nat) := [(0, [3]), (1, [62]), (2, [17, 1, 143]), (5, [54, 4]), (7, [21, 4]), (9, [155, 0, 160]), (12, [42]), (13, [180, 0, 130]), (16, [21, 4]), (18, [42]), (19, [180, 0, 115]), (22, [21, 4]), (24, [51]), (25, [153, 0, 16]), (28, [42]), (29, [21, 4]), (31, [182, 1, 243]), (34, [153, 0, 7]), (37, [4]), (38, [167, 0, 4]), (41, [3]), (42, [84]), (43, [27]), (44, [54, 5])]
theorem rcX12_isEven_0 : dgo (lb cX12_isEven) 0 rbX12_isEven_0 = true := by decide +kernel
theorem dX12_isEven_0 : decode cX12_isEven 0 = .ok (.iconst 0, 1) := dk_3 (dw rcX12_isEven_0 0 rfl)
theorem dX12_isEven_1 : decode cX12_isEven 1 = .ok (.istore_n 3, 1) := dk_62 (dw rcX12_isEven_0 1 rfl)
theorem dX12_isEven_2 : decode cX12_isEven 2 = .ok (.sipush 399, 3) := dk_17 (dw rcX12_isEven_0 2 rfl) rfl
theorem dX12_isEven_5 : decode cX12_isEven 5 = .ok (.istore 4, 2) := dk_54 (dw rcX12_isEven_0 3 rfl)
theorem dX12_isEven_7 : decode cX12_isEven 7 = .ok (.iload 4, 2) := dk_21 (dw rcX12_isEven_0 4 rfl)
theorem dX12_isEven_9 : decode cX12_isEven 9 = .ok (.ifCond .lt 160, 3) := dk_155 (dw rcX12_isEven_0 5 rfl) rfl
theorem dX12_isEven_12 : decode cX12_isEven 12 = .ok (.aload_n 0, 1) := dk_42 (dw rcX12_isEven_0 6 rfl)
theorem dX12_isEven_13 : decode cX12_isEven 13 = .ok (.getfield 130, 3) := dk_180 (dw rcX12_isEven_0 7 rfl) rfl
theorem dX12_isEven_16 : decode cX12_isEven 16 = .ok (.iload 4, 2) := dk_21 (dw rcX12_isEven_0 8 rfl)
theorem dX12_isEven_18 : decode cX12_isEven 18 = .ok (.aload_n 0, 1) := dk_42 (dw rcX12_isEven_0 9 rfl)
theorem dX12_isEven_19 : decode cX12_isEven 19 = .ok (.getfield 115, 3) := dk_180 (dw rcX12_isEven_0 10 rfl) rfl
theorem dX12_isEven_22 : decode cX12_isEven 22 = .ok (.iload 4, 2) := dk_21 (dw rcX12_isEven_0 11 rfl)
theorem dX12_isEven_24 : decode cX12_isEven 24 = .ok (.baload, 1) := dk_51 (dw rcX12_isEven_0 12 rfl)
theorem dX12_isEven_25 : decode cX12_isEven 25 = .ok (.ifCond .eq 16, 3) := dk_153 (dw rcX12_isEven_0 13 rfl) rfl
theorem dX12_isEven_28 : decode cX12_isEven 28 = .ok (.aload_n 0, 1) := dk_42 (dw rcX12_isEven_0 14 rfl)
theorem dX12_isEven_29 : decode cX12_isEven 29 = .ok (.iload 4, 2) := dk_21 (dw rcX12_isEven_0 15 rfl)
theorem dX12_isEven_31 : decode cX12_isEven 31 = .ok (.invokevirtual 499, 3) := dk_182 (dw rcX12_isEven_0 16 rfl) rfl
theorem dX12_isEven_34 : decode cX12_isEven 34 = .ok (.ifCond .eq 7, 3) := dk_153 (dw rcX12_isEven_0 17 rfl) rfl
theorem dX12_isEven_37 : decode cX12_isEven 37 = .ok (.iconst 1, 1) := dk_4 (dw rcX12_isEven_0 18 rfl)
theorem dX12_isEven_38 : decode cX12_isEven 38 = .ok (.goto 4, 3) := dk_167 (dw rcX12_isEven_0 19 rfl) rfl
theorem dX12_isEven_41 : decode cX12_isEven 41 = .ok (.iconst 0, 1) := dk_3 (dw rcX12_isEven_0 20 rfl)
theorem dX12_isEven_42 : decode cX12_isEven 42 = .ok (.bastore, 1) := dk_84 (dw rcX12_isEven_0 21 rfl)
theorem dX12_isEven_43 : decode cX12_isEven 43 = .ok (.iload_n 1, 1) := dk_27 (dw rcX12_isEven_0 22 rfl)
theorem dX12_isEven_44 : decode cX12_isEven 44 = .ok (.istore 5, 2) := dk_54 (dw rcX12_isEven_0 23 rfl)
noncomputable def rbX12_isEven_46 : List (Nat × List Nat) := [(46, [21, 5]), (48, [28]), (49, [163, 0, 76]), (52, [42]), (53, [180, 0, 115]), (56, [21, 4]), (58, [51]), (59, [153, 0, 66]), (62, [42]), (63, [21, 4]), (65, [182, 1, 243]), (68, [154, 0, 57]), (71, [42]), (72, [180, 0, 130]), (75, [21, 4]), (77, [51]), (78, [154, 0, 47]), (81, [42]), (82, [180, 0, 130]), (85, [21, 4]), (87, [42]), (88, [180, 0, 115]), (91, [21, 4]), (93, [21, 5])]
theorem rcX12_isEven_46 : dgo (lb cX12_isEven) 0 rbX12_isEven_46 = true := by decide +kernel
theorem dX12_isEven_46 : decode cX12_isEven 46 = .ok (.iload 5, 2) := dk_21 (dw rcX12_isEven_46 0 rfl)
theorem dX12_isEven_48 : decode cX12_isEven 48 = .ok (.iload_n 2, 1) := dk_28 (dw rcX12_isEven_46 1 rfl)
theorem dX12_isEven_49 : decode cX12_isEven 49 = .ok (.if_icmp .gt 76, 3) := dk_163 (dw rcX12_isEven_46 2 rfl) rfl
theorem dX12_isEven_52 : decode cX12_isEven 52 = .ok (.aload_n 0, 1) := dk_42 (dw rcX12_isEven_46 3 rfl)
theorem dX12_isEven_53 : decode cX12_isEven 53 = .ok (.getfield 115, 3) := dk_180 (dw rcX12_isEven_46 4 rfl) rfl
theorem dX12_isEven_56 : decode cX12_isEven 56 = .ok (.iload 4, 2) := dk_21 (dw rcX12_isEven_46 5 rfl)
theorem dX12_isEven_58 : decode cX12_isEven 58 = .ok (.baload, 1) := dk_51 (dw rcX12_isEven_46 6 rfl)
theorem dX12_isEven_59 : decode cX12_isEven 59 = .ok (.ifCond .eq 66, 3) := dk_153 (dw rcX12_isEven_46 7 rfl) rfl
theorem dX12_isEven_62 : decode cX12_isEven 62 = .ok (.aload_n 0, 1) := dk_42 (dw rcX12_isEven_46 8 rfl)
theorem dX12_isEven_63 : decode cX12_isEven 63 = .ok (.iload 4, 2) := dk_21 (dw rcX12_isEven_46 9 rfl)
theorem dX12_isEven_65 : decode cX12_isEven 65 = .ok (.invokevirtual 499, 3) := dk_182 (dw rcX12_isEven_46 10 rfl) rfl
theorem dX12_isEven_68 : decode cX12_isEven 68 = .ok (.ifCond .ne 57, 3) := dk_154 (dw rcX12_isEven_46 11 rfl) rfl
theorem dX12_isEven_71 : decode cX12_isEven 71 = .ok (.aload_n 0, 1) := dk_42 (dw rcX12_isEven_46 12 rfl)
theorem dX12_isEven_72 : decode cX12_isEven 72 = .ok (.getfield 130, 3) := dk_180 (dw rcX12_isEven_46 13 rfl) rfl
theorem dX12_isEven_75 : decode cX12_isEven 75 = .ok (.iload 4, 2) := dk_21 (dw rcX12_isEven_46 14 rfl)
theorem dX12_isEven_77 : decode cX12_isEven 77 = .ok (.baload, 1) := dk_51 (dw rcX12_isEven_46 15 rfl)
theorem dX12_isEven_78 : decode cX12_isEven 78 = .ok (.ifCond .ne 47, 3) := dk_154 (dw rcX12_isEven_46 16 rfl) rfl
theorem dX12_isEven_81 : decode cX12_isEven 81 = .ok (.aload_n 0, 1) := dk_42 (dw rcX12_isEven_46 17 rfl)
theorem dX12_isEven_82 : decode cX12_isEven 82 = .ok (.getfield 130, 3) := dk_180 (dw rcX12_isEven_46 18 rfl) rfl
theorem dX12_isEven_85 : decode cX12_isEven 85 = .ok (.iload 4, 2) := dk_21 (dw rcX12_isEven_46 19 rfl)
theorem dX12_isEven_87 : decode cX12_isEven 87 = .ok (.aload_n 0, 1) := dk_42 (dw rcX12_isEven_46 20 rfl)
theorem dX12_isEven_88 : decode cX12_isEven 88 = .ok (.getfield 115, 3) := dk_180 (dw rcX12_isEven_46 21 rfl) rfl
theorem dX12_isEven_91 : decode cX12_isEven 91 = .ok (.iload 4, 2) := dk_21 (dw rcX12_isEven_46 22 rfl)
theorem dX12_isEven_93 : decode cX12_isEven 93 = .ok (.iload 5, 2) := dk_21 (dw rcX12_isEven_46 23 rfl)
noncomputable def rbX12_isEven_95 : List (Nat × List Nat) := [(95, [96]), (96, [51]), (97, [153, 0, 20]), (100, [42]), (101, [180, 0, 130]), (104, [21, 4]), (106, [21, 5]), (108, [96]), (109, [51]), (110, [153, 0, 7]), (113, [4]), (114, [167, 0, 4]), (117, [3]), (118, [84]), (119, [132, 5, 1]), (122, [167, 255, 180]), (125, [29]), (126, [154, 0, 31]), (129, [21, 4]), (131, [42]), (132, [180, 1, 222]), (135, [162, 0, 26]), (138, [42]), (139, [180, 0, 130])]
theorem rcX12_isEven_95 : dgo (lb cX12_isEven) 0 rbX12_isEven_95 = true := by decide +kernel
theorem dX12_isEven_95 : decode cX12_isEven 95 = .ok (.iadd, 1) := dk_96 (dw rcX12_isEven_95 0 rfl)
theorem dX12_isEven_96 : decode cX12_isEven 96 = .ok (.baload, 1) := dk_51 (dw rcX12_isEven_95 1 rfl)
theorem dX12_isEven_97 : decode cX12_isEven 97 = .ok (.ifCond .eq 20, 3) := dk_153 (dw rcX12_isEven_95 2 rfl) rfl
theorem dX12_isEven_100 : decode cX12_isEven 100 = .ok (.aload_n 0, 1) := dk_42 (dw rcX12_isEven_95 3 rfl)
theorem dX12_isEven_101 : decode cX12_isEven 101 = .ok (.getfield 130, 3) := dk_180 (dw rcX12_isEven_95 4 rfl) rfl
theorem dX12_isEven_104 : decode cX12_isEven 104 = .ok (.iload 4, 2) := dk_21 (dw rcX12_isEven_95 5 rfl)
theorem dX12_isEven_106 : decode cX12_isEven 106 = .ok (.iload 5, 2) := dk_21 (dw rcX12_isEven_95 6 rfl)
theorem dX12_isEven_108 : decode cX12_isEven 108 = .ok (.iadd, 1) := dk_96 (dw rcX12_isEven_95 7 rfl)
theorem dX12_isEven_109 : decode cX12_isEven 109 = .ok (.baload, 1) := dk_51 (dw rcX12_isEven_95 8 rfl)
theorem dX12_isEven_110 : decode cX12_isEven 110 = .ok (.ifCond .eq 7, 3) := dk_153 (dw rcX12_isEven_95 9 rfl) rfl
theorem dX12_isEven_113 : decode cX12_isEven 113 = .ok (.iconst 1, 1) := dk_4 (dw rcX12_isEven_95 10 rfl)
theorem dX12_isEven_114 : decode cX12_isEven 114 = .ok (.goto 4, 3) := dk_167 (dw rcX12_isEven_95 11 rfl) rfl
theorem dX12_isEven_117 : decode cX12_isEven 117 = .ok (.iconst 0, 1) := dk_3 (dw rcX12_isEven_95 12 rfl)
theorem dX12_isEven_118 : decode cX12_isEven 118 = .ok (.bastore, 1) := dk_84 (dw rcX12_isEven_95 13 rfl)
theorem dX12_isEven_119 : decode cX12_isEven 119 = .ok (.iinc 5 1, 3) := dk_132 (dw rcX12_isEven_95 14 rfl) rfl
theorem dX12_isEven_122 : decode cX12_isEven 122 = .ok (.goto (-76), 3) := dk_167 (dw rcX12_isEven_95 15 rfl) rfl
theorem dX12_isEven_125 : decode cX12_isEven 125 = .ok (.iload_n 3, 1) := dk_29 (dw rcX12_isEven_95 16 rfl)
theorem dX12_isEven_126 : decode cX12_isEven 126 = .ok (.ifCond .ne 31, 3) := dk_154 (dw rcX12_isEven_95 17 rfl) rfl
theorem dX12_isEven_129 : decode cX12_isEven 129 = .ok (.iload 4, 2) := dk_21 (dw rcX12_isEven_95 18 rfl)
theorem dX12_isEven_131 : decode cX12_isEven 131 = .ok (.aload_n 0, 1) := dk_42 (dw rcX12_isEven_95 19 rfl)
theorem dX12_isEven_132 : decode cX12_isEven 132 = .ok (.getfield 478, 3) := dk_180 (dw rcX12_isEven_95 20 rfl) rfl
theorem dX12_isEven_135 : decode cX12_isEven 135 = .ok (.if_icmp .ge 26, 3) := dk_162 (dw rcX12_isEven_95 21 rfl) rfl
theorem dX12_isEven_138 : decode cX12_isEven 138 = .ok (.aload_n 0, 1) := dk_42 (dw rcX12_isEven_95 22 rfl)
theorem dX12_isEven_139 : decode cX12_isEven 139 = .ok (.getfield 130, 3) := dk_180 (dw rcX12_isEven_95 23 rfl) rfl
noncomputable def rbX12_isEven_142 : List (Nat × List Nat) := [(142, [21, 4]), (144, [51]), (145, [153, 0, 16]), (148, [42]), (149, [21, 4]), (151, [182, 1, 243]), (154, [154, 0, 7]), (157, [4]), (158, [167, 0, 4]), (161, [3]), (162, [62]), (163, [132, 4, 255]), (166, [167, 255, 97]), (169, [29]), (170, [172])]
theorem rcX12_isEven_142 : dgo (lb cX12_isEven) 0 rbX12_isEven_142 = true := by decide +kernel
theorem dX12_isEven_142 : decode cX12_isEven 142 = .ok (.iload 4, 2) := dk_21 (dw rcX12_isEven_142 0 rfl)
theorem dX12_isEven_144 : decode cX12_isEven 144 = .ok (.baload, 1) := dk_51 (dw rcX12_isEven_142 1 rfl)
theorem dX12_isEven_145 : decode cX12_isEven 145 = .ok (.ifCond .eq 16, 3) := dk_153 (dw rcX12_isEven_142 2 rfl) rfl
theorem dX12_isEven_148 : decode cX12_isEven 148 = .ok (.aload_n 0, 1) := dk_42 (dw rcX12_isEven_142 3 rfl)
theorem dX12_isEven_149 : decode cX12_isEven 149 = .ok (.iload 4, 2) := dk_21 (dw rcX12_isEven_142 4 rfl)
theorem dX12_isEven_151 : decode cX12_isEven 151 = .ok (.invokevirtual 499, 3) := dk_182 (dw rcX12_isEven_142 5 rfl) rfl
theorem dX12_isEven_154 : decode cX12_isEven 154 = .ok (.ifCond .ne 7, 3) := dk_154 (dw rcX12_isEven_142 6 rfl) rfl
theorem dX12_isEven_157 : decode cX12_isEven 157 = .ok (.iconst 1, 1) := dk_4 (dw rcX12_isEven_142 7 rfl)
theorem dX12_isEven_158 : decode cX12_isEven 158 = .ok (.goto 4, 3) := dk_167 (dw rcX12_isEven_142 8 rfl) rfl
theorem dX12_isEven_161 : decode cX12_isEven 161 = .ok (.iconst 0, 1) := dk_3 (dw rcX12_isEven_142 9 rfl)
theorem dX12_isEven_162 : decode cX12_isEven 162 = .ok (.istore_n 3, 1) := dk_62 (dw rcX12_isEven_142 10 rfl)
theorem dX12_isEven_163 : decode cX12_isEven 163 = .ok (.iinc 4 (-1), 3) := dk_132 (dw rcX12_isEven_142 11 rfl) rfl
theorem dX12_isEven_166 : decode cX12_isEven 166 = .ok (.goto (-159), 3) := dk_167 (dw rcX12_isEven_142 12 rfl) rfl
theorem dX12_isEven_169 : decode cX12_isEven 169 = .ok (.iload_n 3, 1) := dk_29 (dw rcX12_isEven_142 13 rfl)
theorem dX12_isEven_170 : decode cX12_isEven 170 = .ok (.ireturn, 1) := dk_172 (dw rcX12_isEven_142 14 rfl)
noncomputable def rbX12_keepOn_0 : List (Nat × List Nat) := [(0, [27]), (1, [5]), (2, [108]), (3, [62]), (4, [42]), (5, [180, 1, 219]), (8, [54, 4]), (10, [21, 4]), (12, [27]), (13, [5]), (14, [112]), (15, [4]), (16, [160, 0, 10]), (19, [42]), (20, [180, 1, 222]), (23, [167, 0, 7]), (26, [42]), (27, [180, 1, 225]), (30, [163, 0, 103]), (33, [42]), (34, [180, 0, 115]), (37, [29]), (38, [21, 4]), (40, [96])]
theorem rcX12_keepOn_0 : dgo (lb cX12_keepOn) 0 rbX12_keepOn_0 = true := by decide +kernel
theorem dX12_keepOn_0 : decode cX12_keepOn 0 = .ok (.iload_n 1, 1) := dk_27 (dw rcX12_keepOn_0 0 rfl)
theorem dX12_keepOn_1 : decode cX12_keepOn 1 = .ok (.iconst 2, 1) := dk_5 (dw rcX12_keepOn_0 1 rfl)
theorem dX12_keepOn_2 : decode cX12_keepOn 2 = .ok (.idiv, 1) := dk_108 (dw rcX12_keepOn_0 2 rfl)
theorem dX12_keepOn_3 : decode cX12_keepOn 3 = .ok (.istore_n 3, 1) := dk_62 (dw rcX12_keepOn_0 3 rfl)
theorem dX12_keepOn_4 : decode cX12_keepOn 4 = .ok (.aload_n 0, 1) := dk_42 (dw rcX12_keepOn_0 4 rfl)
theorem dX12_keepOn_5 : decode cX12_keepOn 5 = .ok (.getfield 475, 3) := dk_180 (dw rcX12_keepOn_0 5 rfl) rfl
theorem dX12_keepOn_8 : decode cX12_keepOn 8 = .ok (.istore 4, 2) := dk_54 (dw rcX12_keepOn_0 6 rfl)
theorem dX12_keepOn_10 : decode cX12_keepOn 10 = .ok (.iload 4, 2) := dk_21 (dw rcX12_keepOn_0 7 rfl)
theorem dX12_keepOn_12 : decode cX12_keepOn 12 = .ok (.iload_n 1, 1) := dk_27 (dw rcX12_keepOn_0 8 rfl)
theorem dX12_keepOn_13 : decode cX12_keepOn 13 = .ok (.iconst 2, 1) := dk_5 (dw rcX12_keepOn_0 9 rfl)
theorem dX12_keepOn_14 : decode cX12_keepOn 14 = .ok (.irem, 1) := dk_112 (dw rcX12_keepOn_0 10 rfl)
theorem dX12_keepOn_15 : decode cX12_keepOn 15 = .ok (.iconst 1, 1) := dk_4 (dw rcX12_keepOn_0 11 rfl)
theorem dX12_keepOn_16 : decode cX12_keepOn 16 = .ok (.if_icmp .ne 10, 3) := dk_160 (dw rcX12_keepOn_0 12 rfl) rfl
theorem dX12_keepOn_19 : decode cX12_keepOn 19 = .ok (.aload_n 0, 1) := dk_42 (dw rcX12_keepOn_0 13 rfl)
theorem dX12_keepOn_20 : decode cX12_keepOn 20 = .ok (.getfield 478, 3) := dk_180 (dw rcX12_keepOn_0 14 rfl) rfl
theorem dX12_keepOn_23 : decode cX12_keepOn 23 = .ok (.goto 7, 3) := dk_167 (dw rcX12_keepOn_0 15 rfl) rfl
theorem dX12_keepOn_26 : decode cX12_keepOn 26 = .ok (.aload_n 0, 1) := dk_42 (dw rcX12_keepOn_0 16 rfl)
theorem dX12_keepOn_27 : decode cX12_keepOn 27 = .ok (.getfield 481, 3) := dk_180 (dw rcX12_keepOn_0 17 rfl) rfl
theorem dX12_keepOn_30 : decode cX12_keepOn 30 = .ok (.if_icmp .gt 103, 3) := dk_163 (dw rcX12_keepOn_0 18 rfl) rfl
theorem dX12_keepOn_33 : decode cX12_keepOn 33 = .ok (.aload_n 0, 1) := dk_42 (dw rcX12_keepOn_0 19 rfl)
theorem dX12_keepOn_34 : decode cX12_keepOn 34 = .ok (.getfield 115, 3) := dk_180 (dw rcX12_keepOn_0 20 rfl) rfl
theorem dX12_keepOn_37 : decode cX12_keepOn 37 = .ok (.iload_n 3, 1) := dk_29 (dw rcX12_keepOn_0 21 rfl)
theorem dX12_keepOn_38 : decode cX12_keepOn 38 = .ok (.iload 4, 2) := dk_21 (dw rcX12_keepOn_0 22 rfl)
theorem dX12_keepOn_40 : decode cX12_keepOn 40 = .ok (.iadd, 1) := dk_96 (dw rcX12_keepOn_0 23 rfl)
noncomputable def rbX12_keepOn_41 : List (Nat × List Nat) := [(41, [51]), (42, [153, 0, 85]), (45, [42]), (46, [29]), (47, [21, 4]), (49, [96]), (50, [28]), (51, [182, 2, 35]), (54, [154, 0, 6]), (57, [167, 0, 70]), (60, [5]), (61, [29]), (62, [21, 4]), (64, [96]), (65, [104]), (66, [21, 4]), (68, [42]), (69, [180, 1, 222]), (72, [164, 0, 7]), (75, [4]), (76, [167, 0, 4]), (79, [3]), (80, [184, 1, 92]), (83, [96])]
theorem rcX12_keepOn_41 : dgo (lb cX12_keepOn) 0 rbX12_keepOn_41 = true := by decide +kernel
theorem dX12_keepOn_41 : decode cX12_keepOn 41 = .ok (.baload, 1) := dk_51 (dw rcX12_keepOn_41 0 rfl)
theorem dX12_keepOn_42 : decode cX12_keepOn 42 = .ok (.ifCond .eq 85, 3) := dk_153 (dw rcX12_keepOn_41 1 rfl) rfl
theorem dX12_keepOn_45 : decode cX12_keepOn 45 = .ok (.aload_n 0, 1) := dk_42 (dw rcX12_keepOn_41 2 rfl)
theorem dX12_keepOn_46 : decode cX12_keepOn 46 = .ok (.iload_n 3, 1) := dk_29 (dw rcX12_keepOn_41 3 rfl)
theorem dX12_keepOn_47 : decode cX12_keepOn 47 = .ok (.iload 4, 2) := dk_21 (dw rcX12_keepOn_41 4 rfl)
theorem dX12_keepOn_49 : decode cX12_keepOn 49 = .ok (.iadd, 1) := dk_96 (dw rcX12_keepOn_41 5 rfl)
theorem dX12_keepOn_50 : decode cX12_keepOn 50 = .ok (.iload_n 2, 1) := dk_28 (dw rcX12_keepOn_41 6 rfl)
theorem dX12_keepOn_51 : decode cX12_keepOn 51 = .ok (.invokevirtual 547, 3) := dk_182 (dw rcX12_keepOn_41 7 rfl) rfl
theorem dX12_keepOn_54 : decode cX12_keepOn 54 = .ok (.ifCond .ne 6, 3) := dk_154 (dw rcX12_keepOn_41 8 rfl) rfl
theorem dX12_keepOn_57 : decode cX12_keepOn 57 = .ok (.goto 70, 3) := dk_167 (dw rcX12_keepOn_41 9 rfl) rfl
theorem dX12_keepOn_60 : decode cX12_keepOn 60 = .ok (.iconst 2, 1) := dk_5 (dw rcX12_keepOn_41 10 rfl)
theorem dX12_keepOn_61 : decode cX12_keepOn 61 = .ok (.iload_n 3, 1) := dk_29 (dw rcX12_keepOn_41 11 rfl)
theorem dX12_keepOn_62 : decode cX12_keepOn 62 = .ok (.iload 4, 2) := dk_21 (dw rcX12_keepOn_41 12 rfl)
theorem dX12_keepOn_64 : decode cX12_keepOn 64 = .ok (.iadd, 1) := dk_96 (dw rcX12_keepOn_41 13 rfl)
theorem dX12_keepOn_65 : decode cX12_keepOn 65 = .ok (.imul, 1) := dk_104 (dw rcX12_keepOn_41 14 rfl)
theorem dX12_keepOn_66 : decode cX12_keepOn 66 = .ok (.iload 4, 2) := dk_21 (dw rcX12_keepOn_41 15 rfl)
theorem dX12_keepOn_68 : decode cX12_keepOn 68 = .ok (.aload_n 0, 1) := dk_42 (dw rcX12_keepOn_41 16 rfl)
theorem dX12_keepOn_69 : decode cX12_keepOn 69 = .ok (.getfield 478, 3) := dk_180 (dw rcX12_keepOn_41 17 rfl) rfl
theorem dX12_keepOn_72 : decode cX12_keepOn 72 = .ok (.if_icmp .le 7, 3) := dk_164 (dw rcX12_keepOn_41 18 rfl) rfl
theorem dX12_keepOn_75 : decode cX12_keepOn 75 = .ok (.iconst 1, 1) := dk_4 (dw rcX12_keepOn_41 19 rfl)
theorem dX12_keepOn_76 : decode cX12_keepOn 76 = .ok (.goto 4, 3) := dk_167 (dw rcX12_keepOn_41 20 rfl) rfl
theorem dX12_keepOn_79 : decode cX12_keepOn 79 = .ok (.iconst 0, 1) := dk_3 (dw rcX12_keepOn_41 21 rfl)
theorem dX12_keepOn_80 : decode cX12_keepOn 80 = .ok (.invokestatic 348, 3) := dk_184 (dw rcX12_keepOn_41 22 rfl) rfl
theorem dX12_keepOn_83 : decode cX12_keepOn 83 = .ok (.iadd, 1) := dk_96 (dw rcX12_keepOn_41 23 rfl)
noncomputable def rbX12_keepOn_84 : List (Nat × List Nat) := [(84, [54, 5]), (86, [42]), (87, [180, 0, 136]), (90, [21, 5]), (92, [42]), (93, [180, 0, 136]), (96, [21, 5]), (98, [46]), (99, [42]), (100, [180, 0, 133]), (103, [27]), (104, [46]), (105, [21, 4]), (107, [42]), (108, [180, 1, 222]), (111, [164, 0, 7]), (114, [4]), (115, [167, 0, 4]), (118, [3]), (119, [184, 1, 92]), (122, [96]), (123, [184, 1, 250]), (126, [79]), (127, [132, 4, 1])]
theorem rcX12_keepOn_84 : dgo (lb cX12_keepOn) 0 rbX12_keepOn_84 = true := by decide +kernel
theorem dX12_keepOn_84 : decode cX12_keepOn 84 = .ok (.istore 5, 2) := dk_54 (dw rcX12_keepOn_84 0 rfl)
theorem dX12_keepOn_86 : decode cX12_keepOn 86 = .ok (.aload_n 0, 1) := dk_42 (dw rcX12_keepOn_84 1 rfl)
theorem dX12_keepOn_87 : decode cX12_keepOn 87 = .ok (.getfield 136, 3) := dk_180 (dw rcX12_keepOn_84 2 rfl) rfl
theorem dX12_keepOn_90 : decode cX12_keepOn 90 = .ok (.iload 5, 2) := dk_21 (dw rcX12_keepOn_84 3 rfl)
theorem dX12_keepOn_92 : decode cX12_keepOn 92 = .ok (.aload_n 0, 1) := dk_42 (dw rcX12_keepOn_84 4 rfl)
theorem dX12_keepOn_93 : decode cX12_keepOn 93 = .ok (.getfield 136, 3) := dk_180 (dw rcX12_keepOn_84 5 rfl) rfl
theorem dX12_keepOn_96 : decode cX12_keepOn 96 = .ok (.iload 5, 2) := dk_21 (dw rcX12_keepOn_84 6 rfl)
theorem dX12_keepOn_98 : decode cX12_keepOn 98 = .ok (.iaload, 1) := dk_46 (dw rcX12_keepOn_84 7 rfl)
theorem dX12_keepOn_99 : decode cX12_keepOn 99 = .ok (.aload_n 0, 1) := dk_42 (dw rcX12_keepOn_84 8 rfl)
theorem dX12_keepOn_100 : decode cX12_keepOn 100 = .ok (.getfield 133, 3) := dk_180 (dw rcX12_keepOn_84 9 rfl) rfl
theorem dX12_keepOn_103 : decode cX12_keepOn 103 = .ok (.iload_n 1, 1) := dk_27 (dw rcX12_keepOn_84 10 rfl)
theorem dX12_keepOn_104 : decode cX12_keepOn 104 = .ok (.iaload, 1) := dk_46 (dw rcX12_keepOn_84 11 rfl)
theorem dX12_keepOn_105 : decode cX12_keepOn 105 = .ok (.iload 4, 2) := dk_21 (dw rcX12_keepOn_84 12 rfl)
theorem dX12_keepOn_107 : decode cX12_keepOn 107 = .ok (.aload_n 0, 1) := dk_42 (dw rcX12_keepOn_84 13 rfl)
theorem dX12_keepOn_108 : decode cX12_keepOn 108 = .ok (.getfield 478, 3) := dk_180 (dw rcX12_keepOn_84 14 rfl) rfl
theorem dX12_keepOn_111 : decode cX12_keepOn 111 = .ok (.if_icmp .le 7, 3) := dk_164 (dw rcX12_keepOn_84 15 rfl) rfl
theorem dX12_keepOn_114 : decode cX12_keepOn 114 = .ok (.iconst 1, 1) := dk_4 (dw rcX12_keepOn_84 16 rfl)
theorem dX12_keepOn_115 : decode cX12_keepOn 115 = .ok (.goto 4, 3) := dk_167 (dw rcX12_keepOn_84 17 rfl) rfl
theorem dX12_keepOn_118 : decode cX12_keepOn 118 = .ok (.iconst 0, 1) := dk_3 (dw rcX12_keepOn_84 18 rfl)
theorem dX12_keepOn_119 : decode cX12_keepOn 119 = .ok (.invokestatic 348, 3) := dk_184 (dw rcX12_keepOn_84 19 rfl) rfl
theorem dX12_keepOn_122 : decode cX12_keepOn 122 = .ok (.iadd, 1) := dk_96 (dw rcX12_keepOn_84 20 rfl)
theorem dX12_keepOn_123 : decode cX12_keepOn 123 = .ok (.invokestatic 506, 3) := dk_184 (dw rcX12_keepOn_84 21 rfl) rfl
theorem dX12_keepOn_126 : decode cX12_keepOn 126 = .ok (.iastore, 1) := dk_79 (dw rcX12_keepOn_84 22 rfl)
theorem dX12_keepOn_127 : decode cX12_keepOn 127 = .ok (.iinc 4 1, 3) := dk_132 (dw rcX12_keepOn_84 23 rfl) rfl
noncomputable def rbX12_keepOn_130 : List (Nat × List Nat) := [(130, [167, 255, 136]), (133, [177])]
theorem rcX12_keepOn_130 : dgo (lb cX12_keepOn) 0 rbX12_keepOn_130 = true := by decide +kernel
theorem dX12_keepOn_130 : decode cX12_keepOn 130 = .ok (.goto (-120), 3) := dk_167 (dw rcX12_keepOn_130 0 rfl) rfl
theorem dX12_keepOn_133 : decode cX12_keepOn 133 = .ok (.return_, 1) := dk_177 (dw rcX12_keepOn_130 1 rfl)
set_option maxHeartbeats 4000000 in
set_option maxRecDepth 100000 in
theorem n_keepOn (l : Launch) (D : va_G) (k : KT) (A : Nat → Prop) (a : Nat → Nat) (z : SK) (G : GS) (p0 : Int32) (p1 : Int32) (ha_p0 : 0 ≤ p0.toInt ∧ p0.toInt ≤ 799) (ha_p1 : 1 ≤ p1.toInt ∧ p1.toInt ≤ 400) : Met l yX12_keepOn (WS yX12_keepOn cX12_keepOn 6 none) ({ frames := 1, cells := 0, slots := 0, locals := 22 }) (va_Pc [.ref (a 66), .int p0, .int p1] (cW D k A a z G)) (va_Qv (fun (G1 : GS) => Q_keepOn p0 p1 G G1) (fun (G1 : GS) t => Wd D k A a G1 t.heap) A) 0 0 A := by
  refine Met.ofW (cc := cX12_keepOn) (maxL := 6) (ret := none) (by decide) rfl ?_
  intro p e s m args below meth c s₁ B hml hv
  obtain ⟨rfl, hW, hB_G, hK, hZ⟩ := hv
  have hx := B.exec
  have hb := B.bytes
  have hr := B.returns
  have hts := atoms_spec (ws := WS yX12_keepOn cX12_keepOn 6 none) B.pre
  have hgd : ∀ w ∈ gd, w ∈ WS yX12_keepOn cX12_keepOn 6 none := fun w h => List.mem_cons_of_mem _ h
  have hg : ∀ w ∈ gd, w.before _ s = true := fun w h => hts w (hgd w h)
  have hown : s.vm.findClass RX12 = some m.cls := findClass_of_methodNamed B.named
  have hS : va_S A s.heap s.heap [] := va_S.rf
  have hF : Fr [105] [] G G := Fr.rf
  have hl := lv_entry ([.ref (a 66), .int p0, .int p1]) (n := 6) (Nat.le_of_ble_eq_true rfl)
  rw [lg_entry_eq]
  generalize (lg_sl ([.ref (a 66), .int p0, .int p1]) ++ List.replicate (6 - (lg_sl ([.ref (a 66), .int p0, .int p1])).length) Slot.unset).toArray = ls at hl ⊢
  have hl : lv_has ls 6 [(0, .ref (a 66)), (1, .int p0), (2, .int p1)] := hl
  refine lv_iload_n hx hb dX12_keepOn_0 rfl (lv_at hl 1 rfl) ?_
  refine ic_2 hx hb dX12_keepOn_1 ?_
  refine lv_idiv hx hb dX12_keepOn_2 (by decide) ?_
  refine lv_topi (fun y_1 ey_1 => ?_)
  have ty_1 : y_1.toInt = p0.toInt / 2 := xI_div rfl ey_1 (by decide) ((by first | exact ha_p0.1 | omega))
  refine lv_istore_n (lv' := [(3, .int y_1), (0, .ref (a 66)), (1, .int p0), (2, .int p1)]) hx hb dX12_keepOn_3 rfl hl (lt_b rfl) rfl (fun ls hl => ?_)
  refine lv_aload_n hx hb dX12_keepOn_4 rfl (lv_at hl 1 rfl) ?_
  have b_2 : 0 ≤ (G.1 66 61).toInt ∧ (G.1 66 61).toInt ≤ 60 := bd_66_61 hB_G
  refine S_getI (v := (G.1 66 61)) (C := RX12) (T := TX12) (N := 89) hx hb hg iX12 hown hK hW kd_66 rfl 61 (lt_b rfl) (hg (Cond.fieldLink RX12 475 "SlabWalkModel" "least" "I") m1375) (fun _ h9 => h9) rfl rfl dX12_keepOn_5 ?_
  refine lv_istore (lv' := [(4, .int (G.1 66 61)), (3, .int y_1), (0, .ref (a 66)), (1, .int p0), (2, .int p1)]) hx hb dX12_keepOn_8 hl (lt_b rfl) rfl (fun ls hl => ?_)
  refine loop_N (Inv := fun n H locs ls => ∃ (G_3 : GS) (x_7 : Int32), (n : Int) = 100 - x_7.toInt ∧ (0 ≤ x_7.toInt ∧ x_7.toInt ≤ 100) ∧ Rc (St_n_keepOn_1 p0 p1 y_1 G) ((G.1 66 61), G) (x_7, G_3) ∧ Wd D k A a G_3 H ∧ Bd G_3 ∧ Fr [105] [] G G_3 ∧ Fr [105] [] G G_3 ∧ va_S A s.heap H locs ∧ lv_has ls 6 [(4, .int x_7), (3, .int y_1), (0, .ref (a 66)), (1, .int p0), (2, .int p1)]) (fun n_6 H locs ls ih_5 hI => ?_) (100 - (G.1 66 61).toInt : Int).toNat ⟨G, (G.1 66 61), (Int.toNat_of_nonneg ((by first | exact ok_754 b_2.2 | omega))), ⟨(by first | exact b_2.1 | omega), (by first | exact ok_755 b_2.2 | omega)⟩, Rc.rf, hW, hB_G, hF, Fr.rf, hS, lv_sub hl [0, 1, 2, 3, 4] rfl⟩
  obtain ⟨G_3, x_7, hn_10, f_9, hX_8, hW, hB_G_3, hF, hq_4, hS, hl⟩ := hI
  refine lv_iload hx hb dX12_keepOn_10 (lv_at hl 0 rfl) ?_
  refine lv_iload_n hx hb dX12_keepOn_12 rfl (lv_at hl 3 rfl) ?_
  refine ic_2 hx hb dX12_keepOn_13 ?_
  refine lv_irem hx hb dX12_keepOn_14 (by decide) ?_
  refine lv_topi (fun y_11 ey_11 => ?_)
  have ty_11 : y_11.toInt = p0.toInt % 2 := xI_mod rfl ey_11 (by decide) ((by first | exact ha_p0.1 | omega))
  refine ic_1 hx hb dX12_keepOn_15 ?_
  refine W.cut (σ := Int32) (pcJ := 30) (J := fun y H locs ls => ∃ (G_19 : GS), (0 ≤ y.toInt ∧ y.toInt ≤ 99) ∧ Jn_n_keepOn_2 y_11 G G_3 y G_19 ∧ Wd D k A a G_19 H ∧ Bd G_19 ∧ Fr [105] [] G G_19 ∧ Fr [] [] G_3 G_19 ∧ va_S A s.heap H locs ∧ lv_has ls 6 [(4, .int x_7), (3, .int y_1), (0, .ref (a 66)), (1, .int p0), (2, .int p1)]) (stJ := fun y => [.int y, .int x_7]) ?_ (fun hJ_20 => ?_)
  · intro y H locs ls hI
    obtain ⟨w_17, hy⟩ : ∃ q, q = y := ⟨_, rfl⟩
    subst hy
    obtain ⟨G_19, f_23, hX_22, hW, hB_G_19, hF, hq_21, hS, hl⟩ := hI
    refine lv_icmp_gt (tgt := 133) hx hb dX12_keepOn_30 rfl (fun c_24 => ?_) (fun c_24 => ?_)
    · have c_24 : w_17.toInt < x_7.toInt := xI_lt rfl rfl c_24
      exact W.vret hx hb hr (fun t ht _ => ⟨⟨G_19, rfl, (Q_keepOn_mk ⟨hB_G_19, hF, ⟨y_1, ty_1, ⟨x_7, G_3, hX_8, f_9, hB_G_3, hq_4, ⟨y_11, ty_11, ⟨w_17, G_19, hX_22, f_23, hB_G_19, hq_21, ⟨c_24, rfl⟩⟩⟩⟩⟩⟩), wd_t ht hW⟩, hS.F ht⟩) hS.2.2 dX12_keepOn_133
    · have c_24 : x_7.toInt ≤ w_17.toInt := xI_nlt rfl rfl c_24
      refine lv_aload_n hx hb dX12_keepOn_33 rfl (lv_at hl 2 rfl) ?_
      refine S_getR (n := 98) (C := RX12) (T := TX12) (N := 89) hx hb hg iX12 hown hK hW kd_66 rfl 58 (lt_b rfl) (hg (Cond.fieldLink RX12 115 "SlabWalkModel" "lawful" "[Z") m1372) (fun _ h9 => h9) rfl dX12_keepOn_34 ?_
      refine lv_iload_n hx hb dX12_keepOn_37 rfl (lv_at hl 1 rfl) ?_
      refine lv_iload hx hb dX12_keepOn_38 (lv_at hl 0 rfl) ?_
      refine lv_iadd hx hb dX12_keepOn_40 ?_
      refine lv_topi (fun y_25 ey_25 => ?_)
      have ty_25 : y_25.toInt = y_1.toInt + x_7.toInt := xI_add rfl rfl ey_25 ((by first | exact ok_756 ha_p0.1 ty_1 f_9.1 | omega)) ((by first | exact ok_757 ha_p0.2 ty_1 f_9.2 | omega))
      refine S_zald hx hb hK hW kd_98 (vin ((by first | exact ok_758 ha_p0.1 ty_1 f_9.1 ty_25 | omega)) ((by first | exact ok_759 ha_p0.2 ty_1 f_9.2 ty_25 | omega))) dX12_keepOn_41 (fun y_26 ey_26 => ?_)
      have ty_26 := hB_G_19.law ey_26
      refine lv_if_eq (tgt := 127) hx hb dX12_keepOn_42 rfl (fun c_27 => ?_) (fun c_27 => ?_)
      · have c_27 : y_26.toInt = 0 := xI_eq rfl rfl c_27
        obtain ⟨y_28, ey_28⟩ : ∃ q, q = x_7 + 1 := ⟨_, rfl⟩
        have ty_28 : y_28.toInt = x_7.toInt + 1 := xI_add rfl rfl ey_28 ((by first | exact ok_21 f_9.1 | omega)) ((by first | exact ok_134 f_9.2 | omega))
        refine lv_iinc (v := y_28) (lv' := [(4, .int y_28), (3, .int y_1), (0, .ref (a 66)), (1, .int p0), (2, .int p1)]) hx hb dX12_keepOn_127 hl (k := 0) rfl (by rw [ey_28]; rfl) (lt_b rfl) rfl (fun ls hl => ?_)
        refine lv_goto (tgt := 10) hx hb dX12_keepOn_130 rfl ?_
        exact ih_5 (100 - y_28.toInt : Int).toNat ((by first | (clear ha_p1 b_2 c_27; omega) | omega)) _ _ _ ⟨G_19, y_28, (Int.toNat_of_nonneg ((by first | exact ok_766 f_9.2 f_23.2 c_24 ty_28 | omega))), ⟨(by first | exact ok_23 f_9.1 ty_28 | omega), (by first | exact ok_767 f_9.2 f_23.2 c_24 ty_28 | omega)⟩, (hX_8.st (St_n_keepOn_1_mk ⟨x_7, G_3, y_28, G_19, rfl, rfl, f_9, hB_G_3, ⟨y_11, ty_11, ⟨w_17, G_19, hX_22, f_23, hB_G_19, hq_21, ⟨c_24, ⟨y_25, ty_25, ⟨y_26, ey_26, (Or.inl ⟨c_27, ⟨y_28, ty_28, ⟨rfl, rfl⟩⟩⟩)⟩⟩⟩⟩⟩⟩)), hW, hB_G_19, hF, (Fr.call9 (rs := [105]) (fs := []) (Fr.call9 (rs := [105]) (fs := []) Fr.rf hq_4 rfl rfl) hq_21 rfl rfl), hS, lv_sub hl [0, 1, 2, 3, 4] rfl⟩
      · have c_27 : y_26.toInt ≠ 0 := xI_ne rfl rfl c_27
        refine lv_aload_n hx hb dX12_keepOn_45 rfl (lv_at hl 2 rfl) ?_
        refine lv_iload_n hx hb dX12_keepOn_46 rfl (lv_at hl 1 rfl) ?_
        refine lv_iload hx hb dX12_keepOn_47 (lv_at hl 0 rfl) ?_
        refine lv_iadd hx hb dX12_keepOn_49 ?_
        refine lv_topi (fun y_29 ey_29 => ?_)
        have ty_29 : y_29.toInt = y_1.toInt + x_7.toInt := xI_add rfl rfl ey_29 ((by first | exact ok_756 ha_p0.1 ty_1 f_9.1 | omega)) ((by first | exact ok_757 ha_p0.2 ty_1 f_9.2 | omega))
        refine lv_iload_n hx hb dX12_keepOn_50 rfl (lv_at hl 4 rfl) ?_
        refine S_calli (va_runV (As := [.int y_29, .int p1]) (rest := []) ⟨hx, hb, hml, hown, hts⟩ (n_isHeld l D k A a z G_19 y_29 p1 ⟨(by first | exact ok_758 ha_p0.1 ty_1 f_9.1 ty_29 | omega), (by first | exact ok_769 ha_p0.2 ty_1 f_9.2 ty_29 | omega)⟩ ⟨(by first | exact ok_131 ha_p1.1 | omega), (by first | exact ha_p1.2 | omega)⟩) (cwV 2 hts (gd_V hgd m1931 m1933 m101 m131 m1934) rfl rfl rfl hd_X12_isHeld ⟨Nat.le_of_ble_eq_true rfl, Nat.le_of_ble_eq_true rfl⟩) (pre_W hW hB_G_19 hK hZ hS kd_66 rfl) rfl rfl hl.1 rfl (lv_room (Nat.le_of_ble_eq_true rfl)) dX12_keepOn_51 ⟨Nat.le_of_ble_eq_true rfl, Nat.le_of_ble_eq_true rfl⟩) hS (fun r_30 G_31 H locs hpo hW hS => ?_)
        have hX_34 : Q_isHeld y_29 p1 G_19 r_30 G_31 := hpo
        obtain ⟨hB_G_31, hq_32, f_35, -⟩ := hpo
        have hF := hF.call9 hq_32 rfl rfl
        refine lv_if_ne (tgt := 60) hx hb dX12_keepOn_54 rfl (fun c_36 => ?_) (fun c_36 => ?_)
        · have c_36 : r_30.toInt ≠ 0 := xI_ne rfl rfl c_36
          refine ic_2 hx hb dX12_keepOn_60 ?_
          refine lv_iload_n hx hb dX12_keepOn_61 rfl (lv_at hl 1 rfl) ?_
          refine lv_iload hx hb dX12_keepOn_62 (lv_at hl 0 rfl) ?_
          refine lv_iadd hx hb dX12_keepOn_64 ?_
          refine lv_topi (fun y_37 ey_37 => ?_)
          have ty_37 : y_37.toInt = y_1.toInt + x_7.toInt := xI_add rfl rfl ey_37 ((by first | exact ok_756 ha_p0.1 ty_1 f_9.1 | omega)) ((by first | exact ok_757 ha_p0.2 ty_1 f_9.2 | omega))
          refine lv_imul hx hb dX12_keepOn_65 ?_
          refine lv_topi (fun y_38 ey_38 => ?_)
          have ty_38 : y_38.toInt = 2 * y_37.toInt := xI_mul rfl rfl ey_38 ((by first | exact ok_760 ha_p0.1 ty_1 f_9.1 ty_37 | omega)) ((by first | exact ok_761 ha_p0.2 ty_1 f_9.2 ty_37 | omega))
          refine lv_iload hx hb dX12_keepOn_66 (lv_at hl 0 rfl) ?_
          refine lv_aload_n hx hb dX12_keepOn_68 rfl (lv_at hl 2 rfl) ?_
          have b_39 : 0 ≤ (G.1 66 62).toInt ∧ (G.1 66 62).toInt ≤ 60 := bd_66_62 hB_G
          refine S_getI (v := (G.1 66 62)) (C := RX12) (T := TX12) (N := 89) hx hb hg iX12 hown hK hW kd_66 rfl 62 (lt_b rfl) (hg (Cond.fieldLink RX12 478 "SlabWalkModel" "most" "I") m1376) (fun _ h9 => h9) rfl ((hq_32.i9 66 62 rfl rfl).trans ((hq_21.i9 66 62 rfl rfl).trans (hq_4.i9 66 62 rfl rfl))) dX12_keepOn_69 ?_
          refine W.cut (σ := Int32) (pcJ := 80) (J := fun y H locs ls => ∃ (G_47 : GS), (0 ≤ y.toInt ∧ y.toInt ≤ 1) ∧ Jn_n_keepOn_3 x_7 G G_31 y G_47 ∧ Wd D k A a G_47 H ∧ Bd G_47 ∧ Fr [105] [] G G_47 ∧ Fr [] [] G_31 G_47 ∧ va_S A s.heap H locs ∧ lv_has ls 6 [(4, .int x_7), (3, .int y_1), (0, .ref (a 66)), (1, .int p0), (2, .int p1)]) (stJ := fun y => [.int y, .int y_38]) ?_ (fun hJ_48 => ?_)
          · intro y H locs ls hI
            obtain ⟨w_45, hy⟩ : ∃ q, q = y := ⟨_, rfl⟩
            subst hy
            obtain ⟨G_47, f_51, hX_50, hW, hB_G_47, hF, hq_49, hS, hl⟩ := hI
            refine S_calli (va_runS (As := [.int w_45]) (rest := [.int y_38]) ⟨hx, hb, hml, hown, hts⟩ (n_truth l D k A a z G_47 w_45 ⟨(by first | exact f_51.1 | omega), (by first | exact f_51.2 | omega)⟩) (va_cwS 1 hts (gd_S hgd m1788 m1789 m131 m1790) rfl rfl rfl hd_X12_truth.2 ⟨Nat.le_of_ble_eq_true rfl, Nat.le_of_ble_eq_true rfl⟩) (pre_S hW hB_G_47 hK hZ hS) rfl rfl hl.1 rfl (lv_room (Nat.le_of_ble_eq_true rfl)) dX12_keepOn_80 ⟨Nat.le_of_ble_eq_true rfl, Nat.le_of_ble_eq_true rfl⟩) hS (fun r_52 G_53 H locs hpo hW hS => ?_)
            have hX_56 : Q_truth w_45 G_47 r_52 G_53 := hpo
            obtain ⟨hB_G_53, hq_54, f_57, hp_55, -⟩ := hpo
            have hF := hF.call9 hq_54 rfl rfl
            refine lv_iadd hx hb dX12_keepOn_83 ?_
            refine lv_topi (fun y_58 ey_58 => ?_)
            have ty_58 : y_58.toInt = y_38.toInt + r_52.toInt := xI_add rfl rfl ey_58 ((by first | exact ok_762 ha_p0.1 ty_1 f_9.1 ty_37 ty_38 f_57.1 | omega)) ((by first | exact ok_763 ha_p0.2 ty_1 f_9.2 ty_37 ty_38 f_57.2 | omega))
            refine lv_istore (lv' := [(5, .int y_58), (4, .int x_7), (3, .int y_1), (0, .ref (a 66)), (1, .int p0), (2, .int p1)]) hx hb dX12_keepOn_84 hl (lt_b rfl) rfl (fun ls hl => ?_)
            refine lv_aload_n hx hb dX12_keepOn_86 rfl (lv_at hl 3 rfl) ?_
            refine S_getR (n := 105) (C := RX12) (T := TX12) (N := 89) hx hb hg iX12 hown hK hW kd_66 rfl 71 (lt_b rfl) (hg (Cond.fieldLink RX12 136 "SlabWalkModel" "leaptNext" "[I") m1385) (fun _ h9 => h9) rfl dX12_keepOn_87 ?_
            refine lv_iload hx hb dX12_keepOn_90 (lv_at hl 0 rfl) ?_
            refine lv_aload_n hx hb dX12_keepOn_92 rfl (lv_at hl 3 rfl) ?_
            refine S_getR (n := 105) (C := RX12) (T := TX12) (N := 89) hx hb hg iX12 hown hK hW kd_66 rfl 71 (lt_b rfl) (hg (Cond.fieldLink RX12 136 "SlabWalkModel" "leaptNext" "[I") m1385) (fun _ h9 => h9) rfl dX12_keepOn_93 ?_
            refine lv_iload hx hb dX12_keepOn_96 (lv_at hl 0 rfl) ?_
            refine S_iald hx hb hK hW kd_105 (vin ((by first | (clear ha_p1 b_2 hn_10 c_27 f_35 c_36 b_39; omega) | omega)) ((by first | exact ok_764 ha_p0.2 ty_1 f_9.2 ty_37 ty_38 f_57.2 ty_58 | omega))) dX12_keepOn_98 (fun y_59 ey_59 => ?_)
            refine lv_aload_n hx hb dX12_keepOn_99 rfl (lv_at hl 3 rfl) ?_
            refine S_getR (n := 104) (C := RX12) (T := TX12) (N := 89) hx hb hg iX12 hown hK hW kd_66 rfl 70 (lt_b rfl) (hg (Cond.fieldLink RX12 133 "SlabWalkModel" "leapt" "[I") m1384) (fun _ h9 => h9) rfl dX12_keepOn_100 ?_
            refine lv_iload_n hx hb dX12_keepOn_103 rfl (lv_at hl 4 rfl) ?_
            refine S_iald hx hb hK hW kd_104 (vin ((by first | exact ha_p0.1 | omega)) ((by first | exact ok_765 ha_p0.2 | omega))) dX12_keepOn_104 (fun y_60 ey_60 => ?_)
            refine lv_iload hx hb dX12_keepOn_105 (lv_at hl 1 rfl) ?_
            refine lv_aload_n hx hb dX12_keepOn_107 rfl (lv_at hl 3 rfl) ?_
            refine S_getI (v := (G.1 66 62)) (C := RX12) (T := TX12) (N := 89) hx hb hg iX12 hown hK hW kd_66 rfl 62 (lt_b rfl) (hg (Cond.fieldLink RX12 478 "SlabWalkModel" "most" "I") m1376) (fun _ h9 => h9) rfl ((hq_54.i9 66 62 rfl rfl).trans ((hq_49.i9 66 62 rfl rfl).trans ((hq_32.i9 66 62 rfl rfl).trans ((hq_21.i9 66 62 rfl rfl).trans ((hq_4.i9 66 62 rfl rfl).trans (rfl)))))) dX12_keepOn_108 ?_
            refine lv_icmp_le (tgt := 118) hx hb dX12_keepOn_111 rfl (fun c_61 => ?_) (fun c_61 => ?_)
            · have c_61 : x_7.toInt ≤ (G.1 66 62).toInt := xI_le rfl rfl c_61
              refine ic_0 hx hb dX12_keepOn_118 ?_
              have qc_62 : (0 : Int32).toInt = 0 := rfl
              refine S_calli (va_runS (As := [.int 0]) (rest := [.int y_60, .int y_59, .int y_58, .ref (a 105)]) ⟨hx, hb, hml, hown, hts⟩ (n_truth l D k A a z G_53 0 ⟨by decide, by decide⟩) (va_cwS 1 hts (gd_S hgd m1788 m1789 m131 m1790) rfl rfl rfl hd_X12_truth.2 ⟨Nat.le_of_ble_eq_true rfl, Nat.le_of_ble_eq_true rfl⟩) (pre_S hW hB_G_53 hK hZ hS) rfl rfl hl.1 rfl (lv_room (Nat.le_of_ble_eq_true rfl)) dX12_keepOn_119 ⟨Nat.le_of_ble_eq_true rfl, Nat.le_of_ble_eq_true rfl⟩) hS (fun r_63 G_64 H locs hpo hW hS => ?_)
              have hX_67 : Q_truth 0 G_53 r_63 G_64 := hpo
              obtain ⟨hB_G_64, hq_65, f_68, hp_66, -⟩ := hpo
              have hF := hF.call9 hq_65 rfl rfl
              refine lv_iadd hx hb dX12_keepOn_122 ?_
              refine lv_topi (fun y_69 ey_69 => ?_)
              refine S_calli (va_runS (As := [.int y_59, .int y_69]) (rest := [.int y_58, .ref (a 105)]) ⟨hx, hb, hml, hown, hts⟩ (n_lesser l D k A a z G_64 y_59 y_69 ) (va_cwS 2 hts (gd_S hgd m1863 m1864 m131 m1865) rfl rfl rfl hd_X12_lesser.2 ⟨Nat.le_of_ble_eq_true rfl, Nat.le_of_ble_eq_true rfl⟩) (pre_S hW hB_G_64 hK hZ hS) rfl rfl hl.1 rfl (lv_room (Nat.le_of_ble_eq_true rfl)) dX12_keepOn_123 ⟨Nat.le_of_ble_eq_true rfl, Nat.le_of_ble_eq_true rfl⟩) hS (fun r_70 G_71 H locs hpo hW hS => ?_)
              have hX_74 : Q_lesser y_59 y_69 G_64 r_70 G_71 := hpo
              obtain ⟨hB_G_71, hq_72, hp_73, -⟩ := hpo
              have hF := hF.call9 hq_72 rfl rfl
              refine S_iast hx hb hK hW hS kd_105 (vin ((by first | (clear ha_p1 b_2 hn_10 c_27 f_35 c_36 f_68 hp_66 hp_73; omega) | omega)) ((by first | exact ok_764 ha_p0.2 ty_1 f_9.2 ty_37 ty_38 f_57.2 ty_58 | omega))) dX12_keepOn_126 (fun G_75 H locs eG_75 hW hS => ?_)
              have hB_G_75 : Bd G_75 := hB_G_71.put (lo := (-2147483648)) (hi := 2147483647) eG_75 rfl rfl rfl (tI_rng _).1 (tI_rng _).2 (hB_G_71.2.put eG_75 rfl)
              have hF := hF.put eG_75 (Or.inl (by decide))
              obtain ⟨y_76, ey_76⟩ : ∃ q, q = x_7 + 1 := ⟨_, rfl⟩
              have ty_76 : y_76.toInt = x_7.toInt + 1 := xI_add rfl rfl ey_76 ((by first | exact ok_21 f_9.1 | omega)) ((by first | exact ok_134 f_9.2 | omega))
              refine lv_iinc (v := y_76) (lv' := [(4, .int y_76), (5, .int y_58), (3, .int y_1), (0, .ref (a 66)), (1, .int p0), (2, .int p1)]) hx hb dX12_keepOn_127 hl (k := 1) rfl (by rw [ey_76]; rfl) (lt_b rfl) rfl (fun ls hl => ?_)
              refine lv_goto (tgt := 10) hx hb dX12_keepOn_130 rfl ?_
              exact ih_5 (100 - y_76.toInt : Int).toNat ((by first | (clear ha_p1 b_2 c_27 f_35 c_36 f_68 hp_66 hp_73; omega) | omega)) _ _ _ ⟨G_75, y_76, (Int.toNat_of_nonneg ((by first | exact ok_770 f_9.2 b_39.2 c_61 ty_76 | omega))), ⟨(by first | exact ok_23 f_9.1 ty_76 | omega), (by first | exact ok_771 f_9.2 b_39.2 c_61 ty_76 | omega)⟩, (hX_8.st (St_n_keepOn_1_mk ⟨x_7, G_3, y_76, G_75, rfl, rfl, f_9, hB_G_3, ⟨y_11, ty_11, ⟨w_17, G_19, hX_22, f_23, hB_G_19, hq_21, ⟨c_24, ⟨y_25, ty_25, ⟨y_26, ey_26, (Or.inr ⟨c_27, ⟨y_29, ty_29, ⟨r_30, G_31, hX_34, (Or.inr ⟨c_36, ⟨y_37, ty_37, ⟨y_38, ty_38, ⟨w_45, G_47, hX_50, f_51, hB_G_47, hq_49, ⟨r_52, G_53, hX_56, ⟨y_58, ty_58, ⟨y_59, ey_59, ⟨y_60, ey_60, (Or.inl ⟨c_61, ⟨r_63, G_64, hX_67, ⟨y_69, ey_69, ⟨r_70, G_71, hX_74, ⟨y_76, ty_76, ⟨rfl, (Fr.put (rs := [105]) (fs := []) Fr.rf eG_75 (Or.inl (by decide))), rw_ast eG_75⟩⟩⟩⟩⟩⟩)⟩⟩⟩⟩⟩⟩⟩⟩)⟩⟩⟩)⟩⟩⟩⟩⟩⟩)), hW, hB_G_75, hF, (Fr.put (rs := [105]) (fs := []) (Fr.call9 (rs := [105]) (fs := []) (Fr.call9 (rs := [105]) (fs := []) (Fr.call9 (rs := [105]) (fs := []) (Fr.call9 (rs := [105]) (fs := []) (Fr.call9 (rs := [105]) (fs := []) (Fr.call9 (rs := [105]) (fs := []) (Fr.call9 (rs := [105]) (fs := []) Fr.rf hq_4 rfl rfl) hq_21 rfl rfl) hq_32 rfl rfl) hq_49 rfl rfl) hq_54 rfl rfl) hq_65 rfl rfl) hq_72 rfl rfl) eG_75 (Or.inl (by decide))), hS, lv_sub hl [0, 2, 3, 4, 5] rfl⟩
            · have c_61 : (G.1 66 62).toInt < x_7.toInt := xI_nle rfl rfl c_61
              refine ic_1 hx hb dX12_keepOn_114 ?_
              refine lv_goto (tgt := 119) hx hb dX12_keepOn_115 rfl ?_
              have qc_77 : (1 : Int32).toInt = 1 := rfl
              refine S_calli (va_runS (As := [.int 1]) (rest := [.int y_60, .int y_59, .int y_58, .ref (a 105)]) ⟨hx, hb, hml, hown, hts⟩ (n_truth l D k A a z G_53 1 ⟨by decide, by decide⟩) (va_cwS 1 hts (gd_S hgd m1788 m1789 m131 m1790) rfl rfl rfl hd_X12_truth.2 ⟨Nat.le_of_ble_eq_true rfl, Nat.le_of_ble_eq_true rfl⟩) (pre_S hW hB_G_53 hK hZ hS) rfl rfl hl.1 rfl (lv_room (Nat.le_of_ble_eq_true rfl)) dX12_keepOn_119 ⟨Nat.le_of_ble_eq_true rfl, Nat.le_of_ble_eq_true rfl⟩) hS (fun r_78 G_79 H locs hpo hW hS => ?_)
              have hX_82 : Q_truth 1 G_53 r_78 G_79 := hpo
              obtain ⟨hB_G_79, hq_80, f_83, hp_81, -⟩ := hpo
              have hF := hF.call9 hq_80 rfl rfl
              refine lv_iadd hx hb dX12_keepOn_122 ?_
              refine lv_topi (fun y_84 ey_84 => ?_)
              refine S_calli (va_runS (As := [.int y_59, .int y_84]) (rest := [.int y_58, .ref (a 105)]) ⟨hx, hb, hml, hown, hts⟩ (n_lesser l D k A a z G_79 y_59 y_84 ) (va_cwS 2 hts (gd_S hgd m1863 m1864 m131 m1865) rfl rfl rfl hd_X12_lesser.2 ⟨Nat.le_of_ble_eq_true rfl, Nat.le_of_ble_eq_true rfl⟩) (pre_S hW hB_G_79 hK hZ hS) rfl rfl hl.1 rfl (lv_room (Nat.le_of_ble_eq_true rfl)) dX12_keepOn_123 ⟨Nat.le_of_ble_eq_true rfl, Nat.le_of_ble_eq_true rfl⟩) hS (fun r_85 G_86 H locs hpo hW hS => ?_)
              have hX_89 : Q_lesser y_59 y_84 G_79 r_85 G_86 := hpo
              obtain ⟨hB_G_86, hq_87, hp_88, -⟩ := hpo
              have hF := hF.call9 hq_87 rfl rfl
              refine S_iast hx hb hK hW hS kd_105 (vin ((by first | exact ok_772 ha_p0.1 ty_1 f_9.1 ty_37 ty_38 b_39.1 f_57.1 ty_58 c_61 | omega)) ((by first | exact ok_764 ha_p0.2 ty_1 f_9.2 ty_37 ty_38 f_57.2 ty_58 | omega))) dX12_keepOn_126 (fun G_90 H locs eG_90 hW hS => ?_)
              have hB_G_90 : Bd G_90 := hB_G_86.put (lo := (-2147483648)) (hi := 2147483647) eG_90 rfl rfl rfl (tI_rng _).1 (tI_rng _).2 (hB_G_86.2.put eG_90 rfl)
              have hF := hF.put eG_90 (Or.inl (by decide))
              obtain ⟨y_91, ey_91⟩ : ∃ q, q = x_7 + 1 := ⟨_, rfl⟩
              have ty_91 : y_91.toInt = x_7.toInt + 1 := xI_add rfl rfl ey_91 ((by first | exact ok_21 f_9.1 | omega)) ((by first | exact ok_134 f_9.2 | omega))
              refine lv_iinc (v := y_91) (lv' := [(4, .int y_91), (5, .int y_58), (3, .int y_1), (0, .ref (a 66)), (1, .int p0), (2, .int p1)]) hx hb dX12_keepOn_127 hl (k := 1) rfl (by rw [ey_91]; rfl) (lt_b rfl) rfl (fun ls hl => ?_)
              refine lv_goto (tgt := 10) hx hb dX12_keepOn_130 rfl ?_
              exact ih_5 (100 - y_91.toInt : Int).toNat ((by first | (clear ha_p1 b_2 c_27 f_35 c_36 f_83 hp_81 hp_88; omega) | omega)) _ _ _ ⟨G_90, y_91, (Int.toNat_of_nonneg ((by first | exact ok_766 f_9.2 f_23.2 c_24 ty_91 | omega))), ⟨(by first | exact ok_23 f_9.1 ty_91 | omega), (by first | exact ok_767 f_9.2 f_23.2 c_24 ty_91 | omega)⟩, (hX_8.st (St_n_keepOn_1_mk ⟨x_7, G_3, y_91, G_90, rfl, rfl, f_9, hB_G_3, ⟨y_11, ty_11, ⟨w_17, G_19, hX_22, f_23, hB_G_19, hq_21, ⟨c_24, ⟨y_25, ty_25, ⟨y_26, ey_26, (Or.inr ⟨c_27, ⟨y_29, ty_29, ⟨r_30, G_31, hX_34, (Or.inr ⟨c_36, ⟨y_37, ty_37, ⟨y_38, ty_38, ⟨w_45, G_47, hX_50, f_51, hB_G_47, hq_49, ⟨r_52, G_53, hX_56, ⟨y_58, ty_58, ⟨y_59, ey_59, ⟨y_60, ey_60, (Or.inr ⟨c_61, ⟨r_78, G_79, hX_82, ⟨y_84, ey_84, ⟨r_85, G_86, hX_89, ⟨y_91, ty_91, ⟨rfl, (Fr.put (rs := [105]) (fs := []) Fr.rf eG_90 (Or.inl (by decide))), rw_ast eG_90⟩⟩⟩⟩⟩⟩)⟩⟩⟩⟩⟩⟩⟩⟩)⟩⟩⟩)⟩⟩⟩⟩⟩⟩)), hW, hB_G_90, hF, (Fr.put (rs := [105]) (fs := []) (Fr.call9 (rs := [105]) (fs := []) (Fr.call9 (rs := [105]) (fs := []) (Fr.call9 (rs := [105]) (fs := []) (Fr.call9 (rs := [105]) (fs := []) (Fr.call9 (rs := [105]) (fs := []) (Fr.call9 (rs := [105]) (fs := []) (Fr.call9 (rs := [105]) (fs := []) Fr.rf hq_4 rfl rfl) hq_21 rfl rfl) hq_32 rfl rfl) hq_49 rfl rfl) hq_54 rfl rfl) hq_80 rfl rfl) hq_87 rfl rfl) eG_90 (Or.inl (by decide))), hS, lv_sub hl [0, 2, 3, 4, 5] rfl⟩
          refine lv_icmp_le (tgt := 79) hx hb dX12_keepOn_72 rfl (fun c_92 => ?_) (fun c_92 => ?_)
          · have c_92 : x_7.toInt ≤ (G.1 66 62).toInt := xI_le rfl rfl c_92
            refine ic_0 hx hb dX12_keepOn_79 ?_
            have qc_93 : (0 : Int32).toInt = 0 := rfl
            exact hJ_48 0 _ _ _ ⟨G_31, ⟨(by decide), (by decide)⟩, (Jn_n_keepOn_3_mk (Or.inl ⟨c_92, ⟨rfl, rfl⟩⟩)), hW, hB_G_31, hF, (Fr.rf (rs := []) (fs := [])), hS, lv_sub hl [0, 1, 2, 3, 4] rfl⟩
          · have c_92 : (G.1 66 62).toInt < x_7.toInt := xI_nle rfl rfl c_92
            refine ic_1 hx hb dX12_keepOn_75 ?_
            refine lv_goto (tgt := 80) hx hb dX12_keepOn_76 rfl ?_
            have qc_94 : (1 : Int32).toInt = 1 := rfl
            exact hJ_48 1 _ _ _ ⟨G_31, ⟨(by decide), (by decide)⟩, (Jn_n_keepOn_3_mk (Or.inr ⟨c_92, ⟨rfl, rfl⟩⟩)), hW, hB_G_31, hF, (Fr.rf (rs := []) (fs := [])), hS, lv_sub hl [0, 1, 2, 3, 4] rfl⟩
        · have c_36 : r_30.toInt = 0 := xI_eq rfl rfl c_36
          refine lv_goto (tgt := 127) hx hb dX12_keepOn_57 rfl ?_
          obtain ⟨y_95, ey_95⟩ : ∃ q, q = x_7 + 1 := ⟨_, rfl⟩
          have ty_95 : y_95.toInt = x_7.toInt + 1 := xI_add rfl rfl ey_95 ((by first | exact ok_21 f_9.1 | omega)) ((by first | exact ok_134 f_9.2 | omega))
          refine lv_iinc (v := y_95) (lv' := [(4, .int y_95), (3, .int y_1), (0, .ref (a 66)), (1, .int p0), (2, .int p1)]) hx hb dX12_keepOn_127 hl (k := 0) rfl (by rw [ey_95]; rfl) (lt_b rfl) rfl (fun ls hl => ?_)
          refine lv_goto (tgt := 10) hx hb dX12_keepOn_130 rfl ?_
          exact ih_5 (100 - y_95.toInt : Int).toNat ((by first | (clear ha_p1 b_2 c_27 f_35 c_36; omega) | omega)) _ _ _ ⟨G_31, y_95, (Int.toNat_of_nonneg ((by first | exact ok_766 f_9.2 f_23.2 c_24 ty_95 | omega))), ⟨(by first | exact ok_23 f_9.1 ty_95 | omega), (by first | exact ok_767 f_9.2 f_23.2 c_24 ty_95 | omega)⟩, (hX_8.st (St_n_keepOn_1_mk ⟨x_7, G_3, y_95, G_31, rfl, rfl, f_9, hB_G_3, ⟨y_11, ty_11, ⟨w_17, G_19, hX_22, f_23, hB_G_19, hq_21, ⟨c_24, ⟨y_25, ty_25, ⟨y_26, ey_26, (Or.inr ⟨c_27, ⟨y_29, ty_29, ⟨r_30, G_31, hX_34, (Or.inl ⟨c_36, ⟨y_95, ty_95, ⟨rfl, rfl⟩⟩⟩)⟩⟩⟩)⟩⟩⟩⟩⟩⟩)), hW, hB_G_31, hF, (Fr.call9 (rs := [105]) (fs := []) (Fr.call9 (rs := [105]) (fs := []) (Fr.call9 (rs := [105]) (fs := []) Fr.rf hq_4 rfl rfl) hq_21 rfl rfl) hq_32 rfl rfl), hS, lv_sub hl [0, 1, 2, 3, 4] rfl⟩
  refine lv_icmp_ne (tgt := 26) hx hb dX12_keepOn_16 rfl (fun c_96 => ?_) (fun c_96 => ?_)
  · have c_96 : y_11.toInt ≠ 1 := xI_ne rfl rfl c_96
    refine lv_aload_n hx hb dX12_keepOn_26 rfl (lv_at hl 2 rfl) ?_
    have b_97 : 0 ≤ (G.1 66 63).toInt ∧ (G.1 66 63).toInt ≤ 99 := bd_66_63 hB_G
    refine S_getI (v := (G.1 66 63)) (C := RX12) (T := TX12) (N := 89) hx hb hg iX12 hown hK hW kd_66 rfl 63 (lt_b rfl) (hg (Cond.fieldLink RX12 481 "SlabWalkModel" "leap" "I") m1377) (fun _ h9 => h9) rfl (hq_4.i9 66 63 rfl rfl) dX12_keepOn_27 ?_
    exact hJ_20 (G.1 66 63) _ _ _ ⟨G_3, ⟨(by first | exact b_97.1 | omega), (by first | exact b_97.2 | omega)⟩, (Jn_n_keepOn_2_mk (Or.inr ⟨c_96, ⟨rfl, rfl⟩⟩)), hW, hB_G_3, hF, (Fr.rf (rs := []) (fs := [])), hS, lv_sub hl [0, 1, 2, 3, 4] rfl⟩
  · have c_96 : y_11.toInt = 1 := xI_eq rfl rfl c_96
    refine lv_aload_n hx hb dX12_keepOn_19 rfl (lv_at hl 2 rfl) ?_
    have b_98 : 0 ≤ (G.1 66 62).toInt ∧ (G.1 66 62).toInt ≤ 60 := bd_66_62 hB_G
    refine S_getI (v := (G.1 66 62)) (C := RX12) (T := TX12) (N := 89) hx hb hg iX12 hown hK hW kd_66 rfl 62 (lt_b rfl) (hg (Cond.fieldLink RX12 478 "SlabWalkModel" "most" "I") m1376) (fun _ h9 => h9) rfl (hq_4.i9 66 62 rfl rfl) dX12_keepOn_20 ?_
    refine lv_goto (tgt := 30) hx hb dX12_keepOn_23 rfl ?_
    exact hJ_20 (G.1 66 62) _ _ _ ⟨G_3, ⟨(by first | exact b_98.1 | omega), (by first | exact ok_768 b_98.2 | omega)⟩, (Jn_n_keepOn_2_mk (Or.inl ⟨c_96, ⟨rfl, rfl⟩⟩)), hW, hB_G_3, hF, (Fr.rf (rs := []) (fs := [])), hS, lv_sub hl [0, 1, 2, 3, 4] rfl⟩

set_option maxHeartbeats 4000000 in
set_option maxRecDepth 100000 in
theorem n_isEven (l : Launch) (D : va_G) (k : KT) (A : Nat → Prop) (a : Nat → Nat) (z : SK) (G : GS) (p0 : Int32) (p1 : Int32) (ha_p0 : 0 ≤ p0.toInt ∧ p0.toInt ≤ 60) (ha_p1 : 0 ≤ p1.toInt ∧ p1.toInt ≤ 60) : Met l yX12_isEven (WS yX12_isEven cX12_isEven 6 (some .boolean)) ({ frames := 2, cells := 0, slots := 0, locals := 42 }) (va_Pc [.ref (a 66), .int p0, .int p1] (cW D k A a z G)) (va_Qi (fun (r : Int32) (G1 : GS) => Q_isEven p0 p1 G r G1) (fun (G1 : GS) t => Wd D k A a G1 t.heap) A) 0 0 A := by
  refine Met.ofW (cc := cX12_isEven) (maxL := 6) (ret := (some .boolean)) (by decide) rfl ?_
  intro p e s m args below meth c s₁ B hml hv
  obtain ⟨rfl, hW, hB_G, hK, hZ⟩ := hv
  have hx := B.exec
  have hb := B.bytes
  have hr := B.returns
  have hts := atoms_spec (ws := WS yX12_isEven cX12_isEven 6 (some .boolean)) B.pre
  have hgd : ∀ w ∈ gd, w ∈ WS yX12_isEven cX12_isEven 6 (some .boolean) := fun w h => List.mem_cons_of_mem _ h
  have hg : ∀ w ∈ gd, w.before _ s = true := fun w h => hts w (hgd w h)
  have hown : s.vm.findClass RX12 = some m.cls := findClass_of_methodNamed B.named
  have hS : va_S A s.heap s.heap [] := va_S.rf
  have hF : Fr [103] [] G G := Fr.rf
  have hl := lv_entry ([.ref (a 66), .int p0, .int p1]) (n := 6) (Nat.le_of_ble_eq_true rfl)
  rw [lg_entry_eq]
  generalize (lg_sl ([.ref (a 66), .int p0, .int p1]) ++ List.replicate (6 - (lg_sl ([.ref (a 66), .int p0, .int p1])).length) Slot.unset).toArray = ls at hl ⊢
  have hl : lv_has ls 6 [(0, .ref (a 66)), (1, .int p0), (2, .int p1)] := hl
  refine ic_0 hx hb dX12_isEven_0 ?_
  refine lv_istore_n (lv' := [(3, .int 0), (0, .ref (a 66)), (1, .int p0), (2, .int p1)]) hx hb dX12_isEven_1 rfl hl (lt_b rfl) rfl (fun ls hl => ?_)
  refine lv_sipush (v := 399) hx hb dX12_isEven_2 (by decide) ?_
  refine lv_istore (lv' := [(4, .int 399), (3, .int 0), (0, .ref (a 66)), (1, .int p0), (2, .int p1)]) hx hb dX12_isEven_5 hl (lt_b rfl) rfl (fun ls hl => ?_)
  have qc_8 : (0 : Int32).toInt = 0 := rfl
  have qc_9 : (399 : Int32).toInt = 399 := rfl
  refine loop_N (Inv := fun n H locs ls => ∃ (G_1 : GS) (x_5 : Int32) (x_6 : Int32), (n : Int) = x_5.toInt - (-1) ∧ ((-1) ≤ x_5.toInt ∧ x_5.toInt ≤ 399) ∧ (0 ≤ x_6.toInt ∧ x_6.toInt ≤ 1) ∧ Rc (St_n_isEven_1 p0 p1 G) (399, 0, G) (x_5, x_6, G_1) ∧ Wd D k A a G_1 H ∧ Bd G_1 ∧ Fr [103] [] G G_1 ∧ Fr [103] [] G G_1 ∧ va_S A s.heap H locs ∧ lv_has ls 6 [(4, .int x_5), (3, .int x_6), (0, .ref (a 66)), (1, .int p0), (2, .int p1)]) (fun n_4 H locs ls ih_3 hI => ?_) (399 - (-1) : Int).toNat ⟨G, 399, 0, (Int.toNat_of_nonneg ((by decide))), ⟨(by decide), (by decide)⟩, ⟨(by decide), (by decide)⟩, Rc.rf, hW, hB_G, hF, Fr.rf, hS, lv_sub hl [0, 1, 2, 3, 4] rfl⟩
  obtain ⟨G_1, x_5, x_6, hn_12, f_10, f_11, hX_7, hW, hB_G_1, hF, hq_2, hS, hl⟩ := hI
  refine lv_iload hx hb dX12_isEven_7 (lv_at hl 0 rfl) ?_
  refine lv_if_lt (tgt := 169) hx hb dX12_isEven_9 rfl (fun c_13 => ?_) (fun c_13 => ?_)
  · have c_13 : x_5.toInt < 0 := xI_lt rfl rfl c_13
    refine lv_iload_n hx hb dX12_isEven_169 rfl (lv_at hl 1 rfl) ?_
    exact W.zret (v := x_6) hx hb hr (nar_z ((by first | exact f_11.1 | omega)) ((by first | exact f_11.2 | omega))) (fun t ht _ => ⟨⟨x_6, G_1, rfl, (Q_isEven_mk ⟨hB_G_1, hF, ⟨(by first | exact f_11.1 | omega), (by first | exact f_11.2 | omega)⟩, ⟨x_5, x_6, G_1, hX_7, f_10, f_11, hB_G_1, hq_2, ⟨c_13, ⟨rfl, rfl⟩⟩⟩⟩), wd_t ht hW⟩, hS.F ht⟩) hS.2.2 dX12_isEven_170
  · have c_13 : 0 ≤ x_5.toInt := xI_nlt rfl rfl c_13
    refine lv_aload_n hx hb dX12_isEven_12 rfl (lv_at hl 2 rfl) ?_
    refine S_getR (n := 103) (C := RX12) (T := TX12) (N := 89) hx hb hg iX12 hown hK hW kd_66 rfl 69 (lt_b rfl) (hg (Cond.fieldLink RX12 130 "SlabWalkModel" "comes" "[Z") m1383) (fun _ h9 => h9) rfl dX12_isEven_13 ?_
    refine lv_iload hx hb dX12_isEven_16 (lv_at hl 0 rfl) ?_
    refine lv_aload_n hx hb dX12_isEven_18 rfl (lv_at hl 2 rfl) ?_
    refine S_getR (n := 98) (C := RX12) (T := TX12) (N := 89) hx hb hg iX12 hown hK hW kd_66 rfl 58 (lt_b rfl) (hg (Cond.fieldLink RX12 115 "SlabWalkModel" "lawful" "[Z") m1372) (fun _ h9 => h9) rfl dX12_isEven_19 ?_
    refine lv_iload hx hb dX12_isEven_22 (lv_at hl 0 rfl) ?_
    refine S_zald hx hb hK hW kd_98 (vin ((by first | exact c_13 | omega)) ((by first | exact ok_773 f_10.2 | omega))) dX12_isEven_24 (fun y_14 ey_14 => ?_)
    have ty_14 := hB_G_1.law ey_14
    refine W.cut (σ := Unit) (pcJ := 41) (J := fun y H locs ls => ∃ (G_22 : GS), Jn_n_isEven_2 x_5 y_14 G_1 G_22 ∧ Wd D k A a G_22 H ∧ Bd G_22 ∧ Fr [103] [] G G_22 ∧ Fr [] [] G_1 G_22 ∧ va_S A s.heap H locs ∧ lv_has ls 6 [(4, .int x_5), (3, .int x_6), (0, .ref (a 66)), (1, .int p0), (2, .int p1)]) (stJ := fun _ => [.int x_5, .ref (a 103)]) ?_ (fun hJ_23 => ?_)
    · intro y H locs ls hI
      obtain ⟨G_22, hX_25, hW, hB_G_22, hF, hq_24, hS, hl⟩ := hI
      refine ic_0 hx hb dX12_isEven_41 ?_
      refine S_zast hx hb hK hW hS kd_103 (vin ((by first | exact c_13 | omega)) ((by first | exact ok_773 f_10.2 | omega))) dX12_isEven_42 (fun G_26 H locs eG_26 hW hS => ?_)
      have hB_G_26 : Bd G_26 := hB_G_22.put (lo := 0) (hi := 1) eG_26 rfl rfl rfl nz_bool.1 nz_bool.2 (hB_G_22.2.put eG_26 rfl)
      have hF := hF.put eG_26 (Or.inl (by decide))
      refine lv_iload_n hx hb dX12_isEven_43 rfl (lv_at hl 3 rfl) ?_
      refine lv_istore (lv' := [(5, .int p0), (4, .int x_5), (3, .int x_6), (0, .ref (a 66)), (1, .int p0), (2, .int p1)]) hx hb dX12_isEven_44 hl (lt_b rfl) rfl (fun ls hl => ?_)
      refine loop_N (Inv := fun n H locs ls => ∃ (G_27 : GS) (x_31 : Int32), (n : Int) = 61 - x_31.toInt ∧ (0 ≤ x_31.toInt ∧ x_31.toInt ≤ 61) ∧ Rc (St_n_isEven_3 p1 x_5) (p0, G_26) (x_31, G_27) ∧ Wd D k A a G_27 H ∧ Bd G_27 ∧ Fr [103] [] G G_27 ∧ Fr [103] [] G_26 G_27 ∧ va_S A s.heap H locs ∧ lv_has ls 6 [(5, .int x_31), (4, .int x_5), (3, .int x_6), (0, .ref (a 66)), (1, .int p0), (2, .int p1)]) (fun n_30 H locs ls ih_29 hI => ?_) (61 - p0.toInt : Int).toNat ⟨G_26, p0, (Int.toNat_of_nonneg ((by first | exact ok_337 ha_p0.2 | omega))), ⟨(by first | exact ha_p0.1 | omega), (by first | exact ok_338 ha_p0.2 | omega)⟩, Rc.rf, hW, hB_G_26, hF, Fr.rf, hS, lv_sub hl [0, 1, 2, 3, 4, 5] rfl⟩
      obtain ⟨G_27, x_31, hn_34, f_33, hX_32, hW, hB_G_27, hF, hq_28, hS, hl⟩ := hI
      refine lv_iload hx hb dX12_isEven_46 (lv_at hl 0 rfl) ?_
      refine lv_iload_n hx hb dX12_isEven_48 rfl (lv_at hl 5 rfl) ?_
      refine W.cut (σ := Unit) (pcJ := 125) (J := fun y H locs ls => ∃ (G_40 : GS), Jn_n_isEven_4 p1 x_5 x_31 G_27 G_40 ∧ Wd D k A a G_40 H ∧ Bd G_40 ∧ Fr [103] [] G G_40 ∧ Fr [] [] G_27 G_40 ∧ va_S A s.heap H locs ∧ lv_has ls 6 [(4, .int x_5), (3, .int x_6), (0, .ref (a 66)), (1, .int p0), (2, .int p1)]) (stJ := fun _ => []) ?_ (fun hJ_41 => ?_)
      · intro y H locs ls hI
        obtain ⟨G_40, hX_43, hW, hB_G_40, hF, hq_42, hS, hl⟩ := hI
        refine lv_iload_n hx hb dX12_isEven_125 rfl (lv_at hl 1 rfl) ?_
        refine lv_if_ne (tgt := 157) hx hb dX12_isEven_126 rfl (fun c_44 => ?_) (fun c_44 => ?_)
        · have c_44 : x_6.toInt ≠ 0 := xI_ne rfl rfl c_44
          refine ic_1 hx hb dX12_isEven_157 ?_
          refine lv_goto (tgt := 162) hx hb dX12_isEven_158 rfl ?_
          refine lv_istore_n (lv' := [(3, .int 1), (4, .int x_5), (0, .ref (a 66)), (1, .int p0), (2, .int p1)]) hx hb dX12_isEven_162 rfl hl (lt_b rfl) rfl (fun ls hl => ?_)
          obtain ⟨y_45, ey_45⟩ : ∃ q, q = x_5 + (-1) := ⟨_, rfl⟩
          have ty_45 : y_45.toInt = x_5.toInt + (-1) := xI_add rfl rfl ey_45 ((by first | exact ok_190 c_13 | omega)) ((by first | exact ok_191 f_10.2 | omega))
          refine lv_iinc (v := y_45) (lv' := [(4, .int y_45), (3, .int 1), (0, .ref (a 66)), (1, .int p0), (2, .int p1)]) hx hb dX12_isEven_163 hl (k := 1) rfl (by rw [ey_45]; rfl) (lt_b rfl) rfl (fun ls hl => ?_)
          refine lv_goto (tgt := 7) hx hb dX12_isEven_166 rfl ?_
          have qc_46 : (1 : Int32).toInt = 1 := rfl
          exact ih_3 (y_45.toInt - (-1) : Int).toNat ((by first | (clear ha_p0 ha_p1 f_11 hn_34 f_33 c_44; omega) | omega)) _ _ _ ⟨G_40, y_45, 1, (Int.toNat_of_nonneg ((by first | exact ok_192 c_13 ty_45 | omega))), ⟨(by first | exact ok_193 c_13 ty_45 | omega), (by first | exact ok_194 f_10.2 ty_45 | omega)⟩, ⟨(by decide), (by decide)⟩, (hX_7.st (St_n_isEven_1_mk ⟨x_5, x_6, G_1, y_45, 1, G_40, rfl, rfl, f_10, f_11, hB_G_1, ⟨c_13, ⟨y_14, ey_14, (Or.inr ⟨G_22, hX_25, hB_G_22, hq_24, ⟨G_26, hB_G_26, (Fr.put (rs := [103]) (fs := []) Fr.rf eG_26 (Or.inl (by decide))), rw_ast eG_26, ⟨x_31, G_27, hX_32, f_33, hB_G_27, hq_28, ⟨G_40, hX_43, hB_G_40, hq_42, (Or.inr ⟨c_44, ⟨y_45, ty_45, ⟨rfl, rfl, rfl⟩⟩⟩)⟩⟩⟩⟩)⟩⟩⟩)), hW, hB_G_40, hF, (Fr.call9 (rs := [103]) (fs := []) (Fr.call9 (rs := [103]) (fs := []) (Fr.put (rs := [103]) (fs := []) (Fr.call9 (rs := [103]) (fs := []) (Fr.call9 (rs := [103]) (fs := []) Fr.rf hq_2 rfl rfl) hq_24 rfl rfl) eG_26 (Or.inl (by decide))) hq_28 rfl rfl) hq_42 rfl rfl), hS, lv_sub hl [0, 1, 2, 3, 4] rfl⟩
        · have c_44 : x_6.toInt = 0 := xI_eq rfl rfl c_44
          refine lv_iload hx hb dX12_isEven_129 (lv_at hl 0 rfl) ?_
          refine lv_aload_n hx hb dX12_isEven_131 rfl (lv_at hl 2 rfl) ?_
          have b_47 : 0 ≤ (G.1 66 62).toInt ∧ (G.1 66 62).toInt ≤ 60 := bd_66_62 hB_G
          refine S_getI (v := (G.1 66 62)) (C := RX12) (T := TX12) (N := 89) hx hb hg iX12 hown hK hW kd_66 rfl 62 (lt_b rfl) (hg (Cond.fieldLink RX12 478 "SlabWalkModel" "most" "I") m1376) (fun _ h9 => h9) rfl ((hq_42.i9 66 62 rfl rfl).trans ((hq_28.i9 66 62 rfl rfl).trans ((gp_ne eG_26 (fun q => absurd q.1 (Nat.ne_of_beq_eq_false rfl))).trans ((hq_24.i9 66 62 rfl rfl).trans (hq_2.i9 66 62 rfl rfl))))) dX12_isEven_132 ?_
          refine lv_icmp_ge (tgt := 161) hx hb dX12_isEven_135 rfl (fun c_48 => ?_) (fun c_48 => ?_)
          · have c_48 : (G.1 66 62).toInt ≤ x_5.toInt := xI_le rfl rfl c_48
            refine ic_0 hx hb dX12_isEven_161 ?_
            refine lv_istore_n (lv' := [(3, .int 0), (4, .int x_5), (0, .ref (a 66)), (1, .int p0), (2, .int p1)]) hx hb dX12_isEven_162 rfl hl (lt_b rfl) rfl (fun ls hl => ?_)
            obtain ⟨y_49, ey_49⟩ : ∃ q, q = x_5 + (-1) := ⟨_, rfl⟩
            have ty_49 : y_49.toInt = x_5.toInt + (-1) := xI_add rfl rfl ey_49 ((by first | exact ok_190 c_13 | omega)) ((by first | exact ok_191 f_10.2 | omega))
            refine lv_iinc (v := y_49) (lv' := [(4, .int y_49), (3, .int 0), (0, .ref (a 66)), (1, .int p0), (2, .int p1)]) hx hb dX12_isEven_163 hl (k := 1) rfl (by rw [ey_49]; rfl) (lt_b rfl) rfl (fun ls hl => ?_)
            refine lv_goto (tgt := 7) hx hb dX12_isEven_166 rfl ?_
            have qc_50 : (0 : Int32).toInt = 0 := rfl
            exact ih_3 (y_49.toInt - (-1) : Int).toNat ((by first | (clear ha_p0 ha_p1 f_11 hn_34 f_33 c_44; omega) | omega)) _ _ _ ⟨G_40, y_49, 0, (Int.toNat_of_nonneg ((by first | exact ok_192 c_13 ty_49 | omega))), ⟨(by first | exact ok_193 c_13 ty_49 | omega), (by first | exact ok_194 f_10.2 ty_49 | omega)⟩, ⟨(by decide), (by decide)⟩, (hX_7.st (St_n_isEven_1_mk ⟨x_5, x_6, G_1, y_49, 0, G_40, rfl, rfl, f_10, f_11, hB_G_1, ⟨c_13, ⟨y_14, ey_14, (Or.inr ⟨G_22, hX_25, hB_G_22, hq_24, ⟨G_26, hB_G_26, (Fr.put (rs := [103]) (fs := []) Fr.rf eG_26 (Or.inl (by decide))), rw_ast eG_26, ⟨x_31, G_27, hX_32, f_33, hB_G_27, hq_28, ⟨G_40, hX_43, hB_G_40, hq_42, (Or.inl ⟨c_44, (Or.inl ⟨c_48, ⟨y_49, ty_49, ⟨rfl, rfl, rfl⟩⟩⟩)⟩)⟩⟩⟩⟩)⟩⟩⟩)), hW, hB_G_40, hF, (Fr.call9 (rs := [103]) (fs := []) (Fr.call9 (rs := [103]) (fs := []) (Fr.put (rs := [103]) (fs := []) (Fr.call9 (rs := [103]) (fs := []) (Fr.call9 (rs := [103]) (fs := []) Fr.rf hq_2 rfl rfl) hq_24 rfl rfl) eG_26 (Or.inl (by decide))) hq_28 rfl rfl) hq_42 rfl rfl), hS, lv_sub hl [0, 1, 2, 3, 4] rfl⟩
          · have c_48 : x_5.toInt < (G.1 66 62).toInt := xI_nle rfl rfl c_48
            refine lv_aload_n hx hb dX12_isEven_138 rfl (lv_at hl 2 rfl) ?_
            refine S_getR (n := 103) (C := RX12) (T := TX12) (N := 89) hx hb hg iX12 hown hK hW kd_66 rfl 69 (lt_b rfl) (hg (Cond.fieldLink RX12 130 "SlabWalkModel" "comes" "[Z") m1383) (fun _ h9 => h9) rfl dX12_isEven_139 ?_
            refine lv_iload hx hb dX12_isEven_142 (lv_at hl 0 rfl) ?_
            refine S_zald hx hb hK hW kd_103 (vin ((by first | exact c_13 | omega)) ((by first | exact ok_773 f_10.2 | omega))) dX12_isEven_144 (fun y_51 ey_51 => ?_)
            have ty_51 : 0 ≤ y_51.toInt ∧ y_51.toInt ≤ 1 := bv_103 hB_G_40 ey_51
            refine lv_if_eq (tgt := 161) hx hb dX12_isEven_145 rfl (fun c_52 => ?_) (fun c_52 => ?_)
            · have c_52 : y_51.toInt = 0 := xI_eq rfl rfl c_52
              refine ic_0 hx hb dX12_isEven_161 ?_
              refine lv_istore_n (lv' := [(3, .int 0), (4, .int x_5), (0, .ref (a 66)), (1, .int p0), (2, .int p1)]) hx hb dX12_isEven_162 rfl hl (lt_b rfl) rfl (fun ls hl => ?_)
              obtain ⟨y_53, ey_53⟩ : ∃ q, q = x_5 + (-1) := ⟨_, rfl⟩
              have ty_53 : y_53.toInt = x_5.toInt + (-1) := xI_add rfl rfl ey_53 ((by first | exact ok_190 c_13 | omega)) ((by first | exact ok_191 f_10.2 | omega))
              refine lv_iinc (v := y_53) (lv' := [(4, .int y_53), (3, .int 0), (0, .ref (a 66)), (1, .int p0), (2, .int p1)]) hx hb dX12_isEven_163 hl (k := 1) rfl (by rw [ey_53]; rfl) (lt_b rfl) rfl (fun ls hl => ?_)
              refine lv_goto (tgt := 7) hx hb dX12_isEven_166 rfl ?_
              have qc_54 : (0 : Int32).toInt = 0 := rfl
              exact ih_3 (y_53.toInt - (-1) : Int).toNat ((by first | (clear ha_p0 ha_p1 f_11 hn_34 f_33 c_44 ty_51 c_52; omega) | omega)) _ _ _ ⟨G_40, y_53, 0, (Int.toNat_of_nonneg ((by first | exact ok_192 c_13 ty_53 | omega))), ⟨(by first | exact ok_193 c_13 ty_53 | omega), (by first | exact ok_194 f_10.2 ty_53 | omega)⟩, ⟨(by decide), (by decide)⟩, (hX_7.st (St_n_isEven_1_mk ⟨x_5, x_6, G_1, y_53, 0, G_40, rfl, rfl, f_10, f_11, hB_G_1, ⟨c_13, ⟨y_14, ey_14, (Or.inr ⟨G_22, hX_25, hB_G_22, hq_24, ⟨G_26, hB_G_26, (Fr.put (rs := [103]) (fs := []) Fr.rf eG_26 (Or.inl (by decide))), rw_ast eG_26, ⟨x_31, G_27, hX_32, f_33, hB_G_27, hq_28, ⟨G_40, hX_43, hB_G_40, hq_42, (Or.inl ⟨c_44, (Or.inr ⟨c_48, ⟨y_51, ey_51, (Or.inl ⟨c_52, ⟨y_53, ty_53, ⟨rfl, rfl, rfl⟩⟩⟩)⟩⟩)⟩)⟩⟩⟩⟩)⟩⟩⟩)), hW, hB_G_40, hF, (Fr.call9 (rs := [103]) (fs := []) (Fr.call9 (rs := [103]) (fs := []) (Fr.put (rs := [103]) (fs := []) (Fr.call9 (rs := [103]) (fs := []) (Fr.call9 (rs := [103]) (fs := []) Fr.rf hq_2 rfl rfl) hq_24 rfl rfl) eG_26 (Or.inl (by decide))) hq_28 rfl rfl) hq_42 rfl rfl), hS, lv_sub hl [0, 1, 2, 3, 4] rfl⟩
            · have c_52 : y_51.toInt ≠ 0 := xI_ne rfl rfl c_52
              refine lv_aload_n hx hb dX12_isEven_148 rfl (lv_at hl 2 rfl) ?_
              refine lv_iload hx hb dX12_isEven_149 (lv_at hl 0 rfl) ?_
              have b_55 : 0 ≤ (G.1 66 59).toInt ∧ (G.1 66 59).toInt ≤ 400 := bd_66_59 hB_G
              have g_56 : (G_40.1 66 59).toInt = (G.1 66 59).toInt := (congrArg Int32.toInt (show G_40.1 66 59 = (G.1 66 59) from ((hq_42.i9 66 59 rfl rfl).trans ((hq_28.i9 66 59 rfl rfl).trans ((gp_ne eG_26 (fun q => absurd q.1 (Nat.ne_of_beq_eq_false rfl))).trans ((hq_24.i9 66 59 rfl rfl).trans (hq_2.i9 66 59 rfl rfl)))))))
              have b_57 : 0 ≤ (G.1 66 60).toInt ∧ (G.1 66 60).toInt ≤ 12 := bd_66_60 hB_G
              have g_58 : (G_40.1 66 60).toInt = (G.1 66 60).toInt := (congrArg Int32.toInt (show G_40.1 66 60 = (G.1 66 60) from ((hq_42.i9 66 60 rfl rfl).trans ((hq_28.i9 66 60 rfl rfl).trans ((gp_ne eG_26 (fun q => absurd q.1 (Nat.ne_of_beq_eq_false rfl))).trans ((hq_24.i9 66 60 rfl rfl).trans (hq_2.i9 66 60 rfl rfl)))))))
              have g_59 : (G_40.1 66 62).toInt = (G.1 66 62).toInt := (congrArg Int32.toInt (show G_40.1 66 62 = (G.1 66 62) from ((hq_42.i9 66 62 rfl rfl).trans ((hq_28.i9 66 62 rfl rfl).trans ((gp_ne eG_26 (fun q => absurd q.1 (Nat.ne_of_beq_eq_false rfl))).trans ((hq_24.i9 66 62 rfl rfl).trans ((hq_2.i9 66 62 rfl rfl).trans (rfl))))))))
              refine S_calli (va_runV (As := [.int x_5]) (rest := []) ⟨hx, hb, hml, hown, hts⟩ (n_isEnd l D k A a z G_40 x_5 ⟨(by first | exact ok_774 c_13 | omega), (by first | exact ok_775 f_10.2 | omega)⟩) (cwV 1 hts (gd_V hgd m1854 m1856 m95 m131 m1857) rfl rfl rfl hd_X12_isEnd ⟨Nat.le_of_ble_eq_true rfl, Nat.le_of_ble_eq_true rfl⟩) (pre_W hW hB_G_40 hK hZ hS kd_66 rfl) rfl rfl hl.1 rfl (lv_room (Nat.le_of_ble_eq_true rfl)) dX12_isEven_151 ⟨Nat.le_of_ble_eq_true rfl, Nat.le_of_ble_eq_true rfl⟩) hS (fun r_60 G_61 H locs hpo hW hS => ?_)
              have hX_64 : Q_isEnd x_5 G_40 r_60 G_61 := hpo
              obtain ⟨hB_G_61, hq_62, f_65, ⟨d_1, d_2⟩, -⟩ := hpo
              have d_3 := d_2 c_13
              have hF := hF.call9 hq_62 rfl rfl
              refine lv_if_ne (tgt := 161) hx hb dX12_isEven_154 rfl (fun c_66 => ?_) (fun c_66 => ?_)
              · have c_66 : r_60.toInt ≠ 0 := xI_ne rfl rfl c_66
                refine ic_0 hx hb dX12_isEven_161 ?_
                refine lv_istore_n (lv' := [(3, .int 0), (4, .int x_5), (0, .ref (a 66)), (1, .int p0), (2, .int p1)]) hx hb dX12_isEven_162 rfl hl (lt_b rfl) rfl (fun ls hl => ?_)
                obtain ⟨y_67, ey_67⟩ : ∃ q, q = x_5 + (-1) := ⟨_, rfl⟩
                have ty_67 : y_67.toInt = x_5.toInt + (-1) := xI_add rfl rfl ey_67 ((by first | exact ok_190 c_13 | omega)) ((by first | exact ok_191 f_10.2 | omega))
                refine lv_iinc (v := y_67) (lv' := [(4, .int y_67), (3, .int 0), (0, .ref (a 66)), (1, .int p0), (2, .int p1)]) hx hb dX12_isEven_163 hl (k := 1) rfl (by rw [ey_67]; rfl) (lt_b rfl) rfl (fun ls hl => ?_)
                refine lv_goto (tgt := 7) hx hb dX12_isEven_166 rfl ?_
                have qc_68 : (0 : Int32).toInt = 0 := rfl
                exact ih_3 (y_67.toInt - (-1) : Int).toNat ((by first | (clear ha_p0 ha_p1 f_11 hn_34 f_33 c_44 ty_51 c_52 d_1 d_2; omega) | omega)) _ _ _ ⟨G_61, y_67, 0, (Int.toNat_of_nonneg ((by first | exact ok_192 c_13 ty_67 | omega))), ⟨(by first | exact ok_193 c_13 ty_67 | omega), (by first | exact ok_194 f_10.2 ty_67 | omega)⟩, ⟨(by decide), (by decide)⟩, (hX_7.st (St_n_isEven_1_mk ⟨x_5, x_6, G_1, y_67, 0, G_61, rfl, rfl, f_10, f_11, hB_G_1, ⟨c_13, ⟨y_14, ey_14, (Or.inr ⟨G_22, hX_25, hB_G_22, hq_24, ⟨G_26, hB_G_26, (Fr.put (rs := [103]) (fs := []) Fr.rf eG_26 (Or.inl (by decide))), rw_ast eG_26, ⟨x_31, G_27, hX_32, f_33, hB_G_27, hq_28, ⟨G_40, hX_43, hB_G_40, hq_42, (Or.inl ⟨c_44, (Or.inr ⟨c_48, ⟨y_51, ey_51, (Or.inr ⟨c_52, ⟨r_60, G_61, hX_64, (Or.inr ⟨c_66, ⟨y_67, ty_67, ⟨rfl, rfl, rfl⟩⟩⟩)⟩⟩)⟩⟩)⟩)⟩⟩⟩⟩)⟩⟩⟩)), hW, hB_G_61, hF, (Fr.call9 (rs := [103]) (fs := []) (Fr.call9 (rs := [103]) (fs := []) (Fr.call9 (rs := [103]) (fs := []) (Fr.put (rs := [103]) (fs := []) (Fr.call9 (rs := [103]) (fs := []) (Fr.call9 (rs := [103]) (fs := []) Fr.rf hq_2 rfl rfl) hq_24 rfl rfl) eG_26 (Or.inl (by decide))) hq_28 rfl rfl) hq_42 rfl rfl) hq_62 rfl rfl), hS, lv_sub hl [0, 1, 2, 3, 4] rfl⟩
              · have c_66 : r_60.toInt = 0 := xI_eq rfl rfl c_66
                have d_4 := d_1 c_66
                refine ic_1 hx hb dX12_isEven_157 ?_
                refine lv_goto (tgt := 162) hx hb dX12_isEven_158 rfl ?_
                refine lv_istore_n (lv' := [(3, .int 1), (4, .int x_5), (0, .ref (a 66)), (1, .int p0), (2, .int p1)]) hx hb dX12_isEven_162 rfl hl (lt_b rfl) rfl (fun ls hl => ?_)
                obtain ⟨y_69, ey_69⟩ : ∃ q, q = x_5 + (-1) := ⟨_, rfl⟩
                have ty_69 : y_69.toInt = x_5.toInt + (-1) := xI_add rfl rfl ey_69 ((by first | exact ok_190 c_13 | omega)) ((by first | exact ok_191 f_10.2 | omega))
                refine lv_iinc (v := y_69) (lv' := [(4, .int y_69), (3, .int 1), (0, .ref (a 66)), (1, .int p0), (2, .int p1)]) hx hb dX12_isEven_163 hl (k := 1) rfl (by rw [ey_69]; rfl) (lt_b rfl) rfl (fun ls hl => ?_)
                refine lv_goto (tgt := 7) hx hb dX12_isEven_166 rfl ?_
                have qc_70 : (1 : Int32).toInt = 1 := rfl
                exact ih_3 (y_69.toInt - (-1) : Int).toNat ((by first | (clear ha_p0 ha_p1 f_11 hn_34 f_33 c_44 ty_51 c_52 d_1 d_2; omega) | omega)) _ _ _ ⟨G_61, y_69, 1, (Int.toNat_of_nonneg ((by first | exact ok_192 c_13 ty_69 | omega))), ⟨(by first | exact ok_193 c_13 ty_69 | omega), (by first | exact ok_194 f_10.2 ty_69 | omega)⟩, ⟨(by decide), (by decide)⟩, (hX_7.st (St_n_isEven_1_mk ⟨x_5, x_6, G_1, y_69, 1, G_61, rfl, rfl, f_10, f_11, hB_G_1, ⟨c_13, ⟨y_14, ey_14, (Or.inr ⟨G_22, hX_25, hB_G_22, hq_24, ⟨G_26, hB_G_26, (Fr.put (rs := [103]) (fs := []) Fr.rf eG_26 (Or.inl (by decide))), rw_ast eG_26, ⟨x_31, G_27, hX_32, f_33, hB_G_27, hq_28, ⟨G_40, hX_43, hB_G_40, hq_42, (Or.inl ⟨c_44, (Or.inr ⟨c_48, ⟨y_51, ey_51, (Or.inr ⟨c_52, ⟨r_60, G_61, hX_64, (Or.inl ⟨c_66, ⟨y_69, ty_69, ⟨rfl, rfl, rfl⟩⟩⟩)⟩⟩)⟩⟩)⟩)⟩⟩⟩⟩)⟩⟩⟩)), hW, hB_G_61, hF, (Fr.call9 (rs := [103]) (fs := []) (Fr.call9 (rs := [103]) (fs := []) (Fr.call9 (rs := [103]) (fs := []) (Fr.put (rs := [103]) (fs := []) (Fr.call9 (rs := [103]) (fs := []) (Fr.call9 (rs := [103]) (fs := []) Fr.rf hq_2 rfl rfl) hq_24 rfl rfl) eG_26 (Or.inl (by decide))) hq_28 rfl rfl) hq_42 rfl rfl) hq_62 rfl rfl), hS, lv_sub hl [0, 1, 2, 3, 4] rfl⟩
      refine lv_icmp_gt (tgt := 125) hx hb dX12_isEven_49 rfl (fun c_71 => ?_) (fun c_71 => ?_)
      · have c_71 : p1.toInt < x_31.toInt := xI_lt rfl rfl c_71
        exact hJ_41 () _ _ _ ⟨G_27, (Jn_n_isEven_4_mk (Or.inl ⟨c_71, rfl⟩)), hW, hB_G_27, hF, (Fr.rf (rs := []) (fs := [])), hS, lv_sub hl [1, 2, 3, 4, 5] rfl⟩
      · have c_71 : x_31.toInt ≤ p1.toInt := xI_nlt rfl rfl c_71
        refine lv_aload_n hx hb dX12_isEven_52 rfl (lv_at hl 3 rfl) ?_
        refine S_getR (n := 98) (C := RX12) (T := TX12) (N := 89) hx hb hg iX12 hown hK hW kd_66 rfl 58 (lt_b rfl) (hg (Cond.fieldLink RX12 115 "SlabWalkModel" "lawful" "[Z") m1372) (fun _ h9 => h9) rfl dX12_isEven_53 ?_
        refine lv_iload hx hb dX12_isEven_56 (lv_at hl 1 rfl) ?_
        refine S_zald hx hb hK hW kd_98 (vin ((by first | exact c_13 | omega)) ((by first | exact ok_773 f_10.2 | omega))) dX12_isEven_58 (fun y_72 ey_72 => ?_)
        have ty_72 := hB_G_27.law ey_72
        refine lv_if_eq (tgt := 125) hx hb dX12_isEven_59 rfl (fun c_73 => ?_) (fun c_73 => ?_)
        · have c_73 : y_72.toInt = 0 := xI_eq rfl rfl c_73
          exact hJ_41 () _ _ _ ⟨G_27, (Jn_n_isEven_4_mk (Or.inr ⟨c_71, ⟨y_72, ey_72, (Or.inl ⟨c_73, rfl⟩)⟩⟩)), hW, hB_G_27, hF, (Fr.rf (rs := []) (fs := [])), hS, lv_sub hl [1, 2, 3, 4, 5] rfl⟩
        · have c_73 : y_72.toInt ≠ 0 := xI_ne rfl rfl c_73
          refine lv_aload_n hx hb dX12_isEven_62 rfl (lv_at hl 3 rfl) ?_
          refine lv_iload hx hb dX12_isEven_63 (lv_at hl 1 rfl) ?_
          have b_74 : 0 ≤ (G.1 66 59).toInt ∧ (G.1 66 59).toInt ≤ 400 := bd_66_59 hB_G
          have g_75 : (G_27.1 66 59).toInt = (G.1 66 59).toInt := (congrArg Int32.toInt (show G_27.1 66 59 = (G.1 66 59) from ((hq_28.i9 66 59 rfl rfl).trans ((gp_ne eG_26 (fun q => absurd q.1 (Nat.ne_of_beq_eq_false rfl))).trans ((hq_24.i9 66 59 rfl rfl).trans (hq_2.i9 66 59 rfl rfl))))))
          have b_76 : 0 ≤ (G.1 66 60).toInt ∧ (G.1 66 60).toInt ≤ 12 := bd_66_60 hB_G
          have g_77 : (G_27.1 66 60).toInt = (G.1 66 60).toInt := (congrArg Int32.toInt (show G_27.1 66 60 = (G.1 66 60) from ((hq_28.i9 66 60 rfl rfl).trans ((gp_ne eG_26 (fun q => absurd q.1 (Nat.ne_of_beq_eq_false rfl))).trans ((hq_24.i9 66 60 rfl rfl).trans (hq_2.i9 66 60 rfl rfl))))))
          have b_78 : 0 ≤ (G.1 66 62).toInt ∧ (G.1 66 62).toInt ≤ 60 := bd_66_62 hB_G
          have g_79 : (G_27.1 66 62).toInt = (G.1 66 62).toInt := (congrArg Int32.toInt (show G_27.1 66 62 = (G.1 66 62) from ((hq_28.i9 66 62 rfl rfl).trans ((gp_ne eG_26 (fun q => absurd q.1 (Nat.ne_of_beq_eq_false rfl))).trans ((hq_24.i9 66 62 rfl rfl).trans (hq_2.i9 66 62 rfl rfl))))))
          refine S_calli (va_runV (As := [.int x_5]) (rest := []) ⟨hx, hb, hml, hown, hts⟩ (n_isEnd l D k A a z G_27 x_5 ⟨(by first | exact ok_774 c_13 | omega), (by first | exact ok_775 f_10.2 | omega)⟩) (cwV 1 hts (gd_V hgd m1854 m1856 m95 m131 m1857) rfl rfl rfl hd_X12_isEnd ⟨Nat.le_of_ble_eq_true rfl, Nat.le_of_ble_eq_true rfl⟩) (pre_W hW hB_G_27 hK hZ hS kd_66 rfl) rfl rfl hl.1 rfl (lv_room (Nat.le_of_ble_eq_true rfl)) dX12_isEven_65 ⟨Nat.le_of_ble_eq_true rfl, Nat.le_of_ble_eq_true rfl⟩) hS (fun r_80 G_81 H locs hpo hW hS => ?_)
          have hX_84 : Q_isEnd x_5 G_27 r_80 G_81 := hpo
          obtain ⟨hB_G_81, hq_82, f_85, ⟨d_5, d_6⟩, -⟩ := hpo
          have d_7 := d_6 c_13
          have hF := hF.call9 hq_82 rfl rfl
          refine lv_if_ne (tgt := 125) hx hb dX12_isEven_68 rfl (fun c_86 => ?_) (fun c_86 => ?_)
          · have c_86 : r_80.toInt ≠ 0 := xI_ne rfl rfl c_86
            exact hJ_41 () _ _ _ ⟨G_81, (Jn_n_isEven_4_mk (Or.inr ⟨c_71, ⟨y_72, ey_72, (Or.inr ⟨c_73, ⟨r_80, G_81, hX_84, (Or.inr ⟨c_86, rfl⟩)⟩⟩)⟩⟩)), hW, hB_G_81, hF, (Fr.call9 (rs := []) (fs := []) Fr.rf hq_82 rfl rfl), hS, lv_sub hl [1, 2, 3, 4, 5] rfl⟩
          · have c_86 : r_80.toInt = 0 := xI_eq rfl rfl c_86
            have d_8 := d_5 c_86
            refine lv_aload_n hx hb dX12_isEven_71 rfl (lv_at hl 3 rfl) ?_
            refine S_getR (n := 103) (C := RX12) (T := TX12) (N := 89) hx hb hg iX12 hown hK hW kd_66 rfl 69 (lt_b rfl) (hg (Cond.fieldLink RX12 130 "SlabWalkModel" "comes" "[Z") m1383) (fun _ h9 => h9) rfl dX12_isEven_72 ?_
            refine lv_iload hx hb dX12_isEven_75 (lv_at hl 1 rfl) ?_
            refine S_zald hx hb hK hW kd_103 (vin ((by first | exact c_13 | omega)) ((by first | exact ok_773 f_10.2 | omega))) dX12_isEven_77 (fun y_87 ey_87 => ?_)
            have ty_87 : 0 ≤ y_87.toInt ∧ y_87.toInt ≤ 1 := bv_103 hB_G_81 ey_87
            refine lv_if_ne (tgt := 125) hx hb dX12_isEven_78 rfl (fun c_88 => ?_) (fun c_88 => ?_)
            · have c_88 : y_87.toInt ≠ 0 := xI_ne rfl rfl c_88
              exact hJ_41 () _ _ _ ⟨G_81, (Jn_n_isEven_4_mk (Or.inr ⟨c_71, ⟨y_72, ey_72, (Or.inr ⟨c_73, ⟨r_80, G_81, hX_84, (Or.inl ⟨c_86, ⟨y_87, ey_87, ⟨c_88, rfl⟩⟩⟩)⟩⟩)⟩⟩)), hW, hB_G_81, hF, (Fr.call9 (rs := []) (fs := []) Fr.rf hq_82 rfl rfl), hS, lv_sub hl [1, 2, 3, 4, 5] rfl⟩
            · have c_88 : y_87.toInt = 0 := xI_eq rfl rfl c_88
              refine lv_aload_n hx hb dX12_isEven_81 rfl (lv_at hl 3 rfl) ?_
              refine S_getR (n := 103) (C := RX12) (T := TX12) (N := 89) hx hb hg iX12 hown hK hW kd_66 rfl 69 (lt_b rfl) (hg (Cond.fieldLink RX12 130 "SlabWalkModel" "comes" "[Z") m1383) (fun _ h9 => h9) rfl dX12_isEven_82 ?_
              refine lv_iload hx hb dX12_isEven_85 (lv_at hl 1 rfl) ?_
              refine lv_aload_n hx hb dX12_isEven_87 rfl (lv_at hl 3 rfl) ?_
              refine S_getR (n := 98) (C := RX12) (T := TX12) (N := 89) hx hb hg iX12 hown hK hW kd_66 rfl 58 (lt_b rfl) (hg (Cond.fieldLink RX12 115 "SlabWalkModel" "lawful" "[Z") m1372) (fun _ h9 => h9) rfl dX12_isEven_88 ?_
              refine lv_iload hx hb dX12_isEven_91 (lv_at hl 1 rfl) ?_
              refine lv_iload hx hb dX12_isEven_93 (lv_at hl 0 rfl) ?_
              refine lv_iadd hx hb dX12_isEven_95 ?_
              refine lv_topi (fun y_89 ey_89 => ?_)
              have ty_89 : y_89.toInt = x_5.toInt + x_31.toInt := xI_add rfl rfl ey_89 ((by first | exact ok_15 c_13 f_33.1 | omega)) ((by first | exact ok_776 f_10.2 f_33.2 | omega))
              refine S_zald hx hb hK hW kd_98 (vin ((by first | exact ok_105 c_13 f_33.1 ty_89 | omega)) ((by first | exact ok_777 f_10.2 f_33.2 ty_89 | omega))) dX12_isEven_96 (fun y_90 ey_90 => ?_)
              have ty_90 := hB_G_81.law ey_90
              refine lv_if_eq (tgt := 117) hx hb dX12_isEven_97 rfl (fun c_91 => ?_) (fun c_91 => ?_)
              · have c_91 : y_90.toInt = 0 := xI_eq rfl rfl c_91
                refine ic_0 hx hb dX12_isEven_117 ?_
                refine S_zast hx hb hK hW hS kd_103 (vin ((by first | exact c_13 | omega)) ((by first | exact ok_773 f_10.2 | omega))) dX12_isEven_118 (fun G_92 H locs eG_92 hW hS => ?_)
                have hB_G_92 : Bd G_92 := hB_G_81.put (lo := 0) (hi := 1) eG_92 rfl rfl rfl nz_bool.1 nz_bool.2 (hB_G_81.2.put eG_92 rfl)
                have hF := hF.put eG_92 (Or.inl (by decide))
                obtain ⟨y_93, ey_93⟩ : ∃ q, q = x_31 + 1 := ⟨_, rfl⟩
                have ty_93 : y_93.toInt = x_31.toInt + 1 := xI_add rfl rfl ey_93 ((by first | exact ok_21 f_33.1 | omega)) ((by first | exact ok_256 f_33.2 | omega))
                refine lv_iinc (v := y_93) (lv' := [(5, .int y_93), (4, .int x_5), (3, .int x_6), (0, .ref (a 66)), (1, .int p0), (2, .int p1)]) hx hb dX12_isEven_119 hl (k := 0) rfl (by rw [ey_93]; rfl) (lt_b rfl) rfl (fun ls hl => ?_)
                refine lv_goto (tgt := 46) hx hb dX12_isEven_122 rfl ?_
                exact ih_29 (61 - y_93.toInt : Int).toNat ((by first | (clear ha_p0 f_11 c_73 d_5 d_6 ty_87 c_88 c_91; omega) | omega)) _ _ _ ⟨G_92, y_93, (Int.toNat_of_nonneg ((by first | exact ok_257 ha_p1.2 f_33.2 c_71 ty_93 | omega))), ⟨(by first | exact ok_23 f_33.1 ty_93 | omega), (by first | exact ok_258 ha_p1.2 f_33.2 c_71 ty_93 | omega)⟩, (hX_32.st (St_n_isEven_3_mk ⟨x_31, G_27, y_93, G_92, rfl, rfl, f_33, hB_G_27, ⟨c_71, ⟨y_72, ey_72, ⟨c_73, ⟨r_80, G_81, hX_84, ⟨c_86, ⟨y_87, ey_87, ⟨c_88, ⟨y_89, ty_89, ⟨y_90, ey_90, (Or.inl ⟨c_91, ⟨y_93, ty_93, ⟨rfl, (Fr.put (rs := [103]) (fs := []) Fr.rf eG_92 (Or.inl (by decide))), rw_ast eG_92⟩⟩⟩)⟩⟩⟩⟩⟩⟩⟩⟩⟩⟩)), hW, hB_G_92, hF, (Fr.put (rs := [103]) (fs := []) (Fr.call9 (rs := [103]) (fs := []) (Fr.call9 (rs := [103]) (fs := []) Fr.rf hq_28 rfl rfl) hq_82 rfl rfl) eG_92 (Or.inl (by decide))), hS, lv_sub hl [0, 1, 2, 3, 4, 5] rfl⟩
              · have c_91 : y_90.toInt ≠ 0 := xI_ne rfl rfl c_91
                refine lv_aload_n hx hb dX12_isEven_100 rfl (lv_at hl 3 rfl) ?_
                refine S_getR (n := 103) (C := RX12) (T := TX12) (N := 89) hx hb hg iX12 hown hK hW kd_66 rfl 69 (lt_b rfl) (hg (Cond.fieldLink RX12 130 "SlabWalkModel" "comes" "[Z") m1383) (fun _ h9 => h9) rfl dX12_isEven_101 ?_
                refine lv_iload hx hb dX12_isEven_104 (lv_at hl 1 rfl) ?_
                refine lv_iload hx hb dX12_isEven_106 (lv_at hl 0 rfl) ?_
                refine lv_iadd hx hb dX12_isEven_108 ?_
                refine lv_topi (fun y_94 ey_94 => ?_)
                have ty_94 : y_94.toInt = x_5.toInt + x_31.toInt := xI_add rfl rfl ey_94 ((by first | exact ok_15 c_13 f_33.1 | omega)) ((by first | exact ok_776 f_10.2 f_33.2 | omega))
                refine S_zald hx hb hK hW kd_103 (vin ((by first | exact ok_105 c_13 f_33.1 ty_94 | omega)) ((by first | exact ok_777 f_10.2 f_33.2 ty_94 | omega))) dX12_isEven_109 (fun y_95 ey_95 => ?_)
                have ty_95 : 0 ≤ y_95.toInt ∧ y_95.toInt ≤ 1 := bv_103 hB_G_81 ey_95
                refine lv_if_eq (tgt := 117) hx hb dX12_isEven_110 rfl (fun c_96 => ?_) (fun c_96 => ?_)
                · have c_96 : y_95.toInt = 0 := xI_eq rfl rfl c_96
                  refine ic_0 hx hb dX12_isEven_117 ?_
                  refine S_zast hx hb hK hW hS kd_103 (vin ((by first | exact c_13 | omega)) ((by first | exact ok_773 f_10.2 | omega))) dX12_isEven_118 (fun G_97 H locs eG_97 hW hS => ?_)
                  have hB_G_97 : Bd G_97 := hB_G_81.put (lo := 0) (hi := 1) eG_97 rfl rfl rfl nz_bool.1 nz_bool.2 (hB_G_81.2.put eG_97 rfl)
                  have hF := hF.put eG_97 (Or.inl (by decide))
                  obtain ⟨y_98, ey_98⟩ : ∃ q, q = x_31 + 1 := ⟨_, rfl⟩
                  have ty_98 : y_98.toInt = x_31.toInt + 1 := xI_add rfl rfl ey_98 ((by first | exact ok_21 f_33.1 | omega)) ((by first | exact ok_256 f_33.2 | omega))
                  refine lv_iinc (v := y_98) (lv' := [(5, .int y_98), (4, .int x_5), (3, .int x_6), (0, .ref (a 66)), (1, .int p0), (2, .int p1)]) hx hb dX12_isEven_119 hl (k := 0) rfl (by rw [ey_98]; rfl) (lt_b rfl) rfl (fun ls hl => ?_)
                  refine lv_goto (tgt := 46) hx hb dX12_isEven_122 rfl ?_
                  exact ih_29 (61 - y_98.toInt : Int).toNat ((by first | (clear ha_p0 f_11 c_73 d_5 d_6 ty_87 c_88 c_91 ty_95 c_96; omega) | omega)) _ _ _ ⟨G_97, y_98, (Int.toNat_of_nonneg ((by first | exact ok_257 ha_p1.2 f_33.2 c_71 ty_98 | omega))), ⟨(by first | exact ok_23 f_33.1 ty_98 | omega), (by first | exact ok_258 ha_p1.2 f_33.2 c_71 ty_98 | omega)⟩, (hX_32.st (St_n_isEven_3_mk ⟨x_31, G_27, y_98, G_97, rfl, rfl, f_33, hB_G_27, ⟨c_71, ⟨y_72, ey_72, ⟨c_73, ⟨r_80, G_81, hX_84, ⟨c_86, ⟨y_87, ey_87, ⟨c_88, ⟨y_89, ty_89, ⟨y_90, ey_90, (Or.inr ⟨c_91, ⟨y_94, ty_94, ⟨y_95, ey_95, (Or.inl ⟨c_96, ⟨y_98, ty_98, ⟨rfl, (Fr.put (rs := [103]) (fs := []) Fr.rf eG_97 (Or.inl (by decide))), rw_ast eG_97⟩⟩⟩)⟩⟩⟩)⟩⟩⟩⟩⟩⟩⟩⟩⟩⟩)), hW, hB_G_97, hF, (Fr.put (rs := [103]) (fs := []) (Fr.call9 (rs := [103]) (fs := []) (Fr.call9 (rs := [103]) (fs := []) Fr.rf hq_28 rfl rfl) hq_82 rfl rfl) eG_97 (Or.inl (by decide))), hS, lv_sub hl [0, 1, 2, 3, 4, 5] rfl⟩
                · have c_96 : y_95.toInt ≠ 0 := xI_ne rfl rfl c_96
                  refine ic_1 hx hb dX12_isEven_113 ?_
                  refine lv_goto (tgt := 118) hx hb dX12_isEven_114 rfl ?_
                  refine S_zast hx hb hK hW hS kd_103 (vin ((by first | exact c_13 | omega)) ((by first | exact ok_773 f_10.2 | omega))) dX12_isEven_118 (fun G_99 H locs eG_99 hW hS => ?_)
                  have hB_G_99 : Bd G_99 := hB_G_81.put (lo := 0) (hi := 1) eG_99 rfl rfl rfl nz_bool.1 nz_bool.2 (hB_G_81.2.put eG_99 rfl)
                  have hF := hF.put eG_99 (Or.inl (by decide))
                  obtain ⟨y_100, ey_100⟩ : ∃ q, q = x_31 + 1 := ⟨_, rfl⟩
                  have ty_100 : y_100.toInt = x_31.toInt + 1 := xI_add rfl rfl ey_100 ((by first | exact ok_21 f_33.1 | omega)) ((by first | exact ok_256 f_33.2 | omega))
                  refine lv_iinc (v := y_100) (lv' := [(5, .int y_100), (4, .int x_5), (3, .int x_6), (0, .ref (a 66)), (1, .int p0), (2, .int p1)]) hx hb dX12_isEven_119 hl (k := 0) rfl (by rw [ey_100]; rfl) (lt_b rfl) rfl (fun ls hl => ?_)
                  refine lv_goto (tgt := 46) hx hb dX12_isEven_122 rfl ?_
                  exact ih_29 (61 - y_100.toInt : Int).toNat ((by first | (clear ha_p0 f_11 c_73 d_5 d_6 ty_87 c_88 c_91 ty_95 c_96; omega) | omega)) _ _ _ ⟨G_99, y_100, (Int.toNat_of_nonneg ((by first | exact ok_257 ha_p1.2 f_33.2 c_71 ty_100 | omega))), ⟨(by first | exact ok_23 f_33.1 ty_100 | omega), (by first | exact ok_258 ha_p1.2 f_33.2 c_71 ty_100 | omega)⟩, (hX_32.st (St_n_isEven_3_mk ⟨x_31, G_27, y_100, G_99, rfl, rfl, f_33, hB_G_27, ⟨c_71, ⟨y_72, ey_72, ⟨c_73, ⟨r_80, G_81, hX_84, ⟨c_86, ⟨y_87, ey_87, ⟨c_88, ⟨y_89, ty_89, ⟨y_90, ey_90, (Or.inr ⟨c_91, ⟨y_94, ty_94, ⟨y_95, ey_95, (Or.inr ⟨c_96, ⟨y_100, ty_100, ⟨rfl, (Fr.put (rs := [103]) (fs := []) Fr.rf eG_99 (Or.inl (by decide))), rw_ast eG_99⟩⟩⟩)⟩⟩⟩)⟩⟩⟩⟩⟩⟩⟩⟩⟩⟩)), hW, hB_G_99, hF, (Fr.put (rs := [103]) (fs := []) (Fr.call9 (rs := [103]) (fs := []) (Fr.call9 (rs := [103]) (fs := []) Fr.rf hq_28 rfl rfl) hq_82 rfl rfl) eG_99 (Or.inl (by decide))), hS, lv_sub hl [0, 1, 2, 3, 4, 5] rfl⟩
    refine lv_if_eq (tgt := 41) hx hb dX12_isEven_25 rfl (fun c_101 => ?_) (fun c_101 => ?_)
    · have c_101 : y_14.toInt = 0 := xI_eq rfl rfl c_101
      exact hJ_23 () _ _ _ ⟨G_1, (Jn_n_isEven_2_mk (Or.inl ⟨c_101, rfl⟩)), hW, hB_G_1, hF, (Fr.rf (rs := []) (fs := [])), hS, lv_sub hl [0, 1, 2, 3, 4] rfl⟩
    · have c_101 : y_14.toInt ≠ 0 := xI_ne rfl rfl c_101
      refine lv_aload_n hx hb dX12_isEven_28 rfl (lv_at hl 2 rfl) ?_
      refine lv_iload hx hb dX12_isEven_29 (lv_at hl 0 rfl) ?_
      have b_102 : 0 ≤ (G.1 66 59).toInt ∧ (G.1 66 59).toInt ≤ 400 := bd_66_59 hB_G
      have g_103 : (G_1.1 66 59).toInt = (G.1 66 59).toInt := (congrArg Int32.toInt (show G_1.1 66 59 = (G.1 66 59) from (hq_2.i9 66 59 rfl rfl)))
      have b_104 : 0 ≤ (G.1 66 60).toInt ∧ (G.1 66 60).toInt ≤ 12 := bd_66_60 hB_G
      have g_105 : (G_1.1 66 60).toInt = (G.1 66 60).toInt := (congrArg Int32.toInt (show G_1.1 66 60 = (G.1 66 60) from (hq_2.i9 66 60 rfl rfl)))
      have b_106 : 0 ≤ (G.1 66 62).toInt ∧ (G.1 66 62).toInt ≤ 60 := bd_66_62 hB_G
      have g_107 : (G_1.1 66 62).toInt = (G.1 66 62).toInt := (congrArg Int32.toInt (show G_1.1 66 62 = (G.1 66 62) from (hq_2.i9 66 62 rfl rfl)))
      refine S_calli (va_runV (As := [.int x_5]) (rest := [.int x_5, .ref (a 103)]) ⟨hx, hb, hml, hown, hts⟩ (n_isEnd l D k A a z G_1 x_5 ⟨(by first | exact ok_774 c_13 | omega), (by first | exact ok_775 f_10.2 | omega)⟩) (cwV 1 hts (gd_V hgd m1854 m1856 m95 m131 m1857) rfl rfl rfl hd_X12_isEnd ⟨Nat.le_of_ble_eq_true rfl, Nat.le_of_ble_eq_true rfl⟩) (pre_W hW hB_G_1 hK hZ hS kd_66 rfl) rfl rfl hl.1 rfl (lv_room (Nat.le_of_ble_eq_true rfl)) dX12_isEven_31 ⟨Nat.le_of_ble_eq_true rfl, Nat.le_of_ble_eq_true rfl⟩) hS (fun r_108 G_109 H locs hpo hW hS => ?_)
      have hX_112 : Q_isEnd x_5 G_1 r_108 G_109 := hpo
      obtain ⟨hB_G_109, hq_110, f_113, ⟨d_9, d_10⟩, -⟩ := hpo
      have d_11 := d_10 c_13
      have hF := hF.call9 hq_110 rfl rfl
      refine lv_if_eq (tgt := 41) hx hb dX12_isEven_34 rfl (fun c_114 => ?_) (fun c_114 => ?_)
      · have c_114 : r_108.toInt = 0 := xI_eq rfl rfl c_114
        have d_12 := d_9 c_114
        exact hJ_23 () _ _ _ ⟨G_109, (Jn_n_isEven_2_mk (Or.inr ⟨c_101, ⟨r_108, G_109, hX_112, ⟨c_114, rfl⟩⟩⟩)), hW, hB_G_109, hF, (Fr.call9 (rs := []) (fs := []) Fr.rf hq_110 rfl rfl), hS, lv_sub hl [0, 1, 2, 3, 4] rfl⟩
      · have c_114 : r_108.toInt ≠ 0 := xI_ne rfl rfl c_114
        refine ic_1 hx hb dX12_isEven_37 ?_
        refine lv_goto (tgt := 42) hx hb dX12_isEven_38 rfl ?_
        refine S_zast hx hb hK hW hS kd_103 (vin ((by first | exact c_13 | omega)) ((by first | exact ok_773 f_10.2 | omega))) dX12_isEven_42 (fun G_115 H locs eG_115 hW hS => ?_)
        have hB_G_115 : Bd G_115 := hB_G_109.put (lo := 0) (hi := 1) eG_115 rfl rfl rfl nz_bool.1 nz_bool.2 (hB_G_109.2.put eG_115 rfl)
        have hF := hF.put eG_115 (Or.inl (by decide))
        refine lv_iload_n hx hb dX12_isEven_43 rfl (lv_at hl 3 rfl) ?_
        refine lv_istore (lv' := [(5, .int p0), (4, .int x_5), (3, .int x_6), (0, .ref (a 66)), (1, .int p0), (2, .int p1)]) hx hb dX12_isEven_44 hl (lt_b rfl) rfl (fun ls hl => ?_)
        refine loop_N (Inv := fun n H locs ls => ∃ (G_116 : GS) (x_120 : Int32), (n : Int) = 61 - x_120.toInt ∧ (0 ≤ x_120.toInt ∧ x_120.toInt ≤ 61) ∧ Rc (St_n_isEven_5 p1 x_5) (p0, G_115) (x_120, G_116) ∧ Wd D k A a G_116 H ∧ Bd G_116 ∧ Fr [103] [] G G_116 ∧ Fr [103] [] G_115 G_116 ∧ va_S A s.heap H locs ∧ lv_has ls 6 [(5, .int x_120), (4, .int x_5), (3, .int x_6), (0, .ref (a 66)), (1, .int p0), (2, .int p1)]) (fun n_119 H locs ls ih_118 hI => ?_) (61 - p0.toInt : Int).toNat ⟨G_115, p0, (Int.toNat_of_nonneg ((by first | exact ok_337 ha_p0.2 | omega))), ⟨(by first | exact ha_p0.1 | omega), (by first | exact ok_338 ha_p0.2 | omega)⟩, Rc.rf, hW, hB_G_115, hF, Fr.rf, hS, lv_sub hl [0, 1, 2, 3, 4, 5] rfl⟩
        obtain ⟨G_116, x_120, hn_123, f_122, hX_121, hW, hB_G_116, hF, hq_117, hS, hl⟩ := hI
        refine lv_iload hx hb dX12_isEven_46 (lv_at hl 0 rfl) ?_
        refine lv_iload_n hx hb dX12_isEven_48 rfl (lv_at hl 5 rfl) ?_
        refine W.cut (σ := Unit) (pcJ := 125) (J := fun y H locs ls => ∃ (G_129 : GS), Jn_n_isEven_6 p1 x_5 x_120 G_116 G_129 ∧ Wd D k A a G_129 H ∧ Bd G_129 ∧ Fr [103] [] G G_129 ∧ Fr [] [] G_116 G_129 ∧ va_S A s.heap H locs ∧ lv_has ls 6 [(4, .int x_5), (3, .int x_6), (0, .ref (a 66)), (1, .int p0), (2, .int p1)]) (stJ := fun _ => []) ?_ (fun hJ_130 => ?_)
        · intro y H locs ls hI
          obtain ⟨G_129, hX_132, hW, hB_G_129, hF, hq_131, hS, hl⟩ := hI
          refine lv_iload_n hx hb dX12_isEven_125 rfl (lv_at hl 1 rfl) ?_
          refine lv_if_ne (tgt := 157) hx hb dX12_isEven_126 rfl (fun c_133 => ?_) (fun c_133 => ?_)
          · have c_133 : x_6.toInt ≠ 0 := xI_ne rfl rfl c_133
            refine ic_1 hx hb dX12_isEven_157 ?_
            refine lv_goto (tgt := 162) hx hb dX12_isEven_158 rfl ?_
            refine lv_istore_n (lv' := [(3, .int 1), (4, .int x_5), (0, .ref (a 66)), (1, .int p0), (2, .int p1)]) hx hb dX12_isEven_162 rfl hl (lt_b rfl) rfl (fun ls hl => ?_)
            obtain ⟨y_134, ey_134⟩ : ∃ q, q = x_5 + (-1) := ⟨_, rfl⟩
            have ty_134 : y_134.toInt = x_5.toInt + (-1) := xI_add rfl rfl ey_134 ((by first | exact ok_190 c_13 | omega)) ((by first | exact ok_191 f_10.2 | omega))
            refine lv_iinc (v := y_134) (lv' := [(4, .int y_134), (3, .int 1), (0, .ref (a 66)), (1, .int p0), (2, .int p1)]) hx hb dX12_isEven_163 hl (k := 1) rfl (by rw [ey_134]; rfl) (lt_b rfl) rfl (fun ls hl => ?_)
            refine lv_goto (tgt := 7) hx hb dX12_isEven_166 rfl ?_
            have qc_135 : (1 : Int32).toInt = 1 := rfl
            exact ih_3 (y_134.toInt - (-1) : Int).toNat ((by first | (clear ha_p0 ha_p1 f_11 c_101 d_9 d_10 hn_123 f_122 c_133; omega) | omega)) _ _ _ ⟨G_129, y_134, 1, (Int.toNat_of_nonneg ((by first | exact ok_192 c_13 ty_134 | omega))), ⟨(by first | exact ok_193 c_13 ty_134 | omega), (by first | exact ok_194 f_10.2 ty_134 | omega)⟩, ⟨(by decide), (by decide)⟩, (hX_7.st (St_n_isEven_1_mk ⟨x_5, x_6, G_1, y_134, 1, G_129, rfl, rfl, f_10, f_11, hB_G_1, ⟨c_13, ⟨y_14, ey_14, (Or.inl ⟨c_101, ⟨r_108, G_109, hX_112, ⟨c_114, ⟨G_115, hB_G_115, (Fr.put (rs := [103]) (fs := []) Fr.rf eG_115 (Or.inl (by decide))), rw_ast eG_115, ⟨x_120, G_116, hX_121, f_122, hB_G_116, hq_117, ⟨G_129, hX_132, hB_G_129, hq_131, (Or.inr ⟨c_133, ⟨y_134, ty_134, ⟨rfl, rfl, rfl⟩⟩⟩)⟩⟩⟩⟩⟩⟩)⟩⟩⟩)), hW, hB_G_129, hF, (Fr.call9 (rs := [103]) (fs := []) (Fr.call9 (rs := [103]) (fs := []) (Fr.put (rs := [103]) (fs := []) (Fr.call9 (rs := [103]) (fs := []) (Fr.call9 (rs := [103]) (fs := []) Fr.rf hq_2 rfl rfl) hq_110 rfl rfl) eG_115 (Or.inl (by decide))) hq_117 rfl rfl) hq_131 rfl rfl), hS, lv_sub hl [0, 1, 2, 3, 4] rfl⟩
          · have c_133 : x_6.toInt = 0 := xI_eq rfl rfl c_133
            refine lv_iload hx hb dX12_isEven_129 (lv_at hl 0 rfl) ?_
            refine lv_aload_n hx hb dX12_isEven_131 rfl (lv_at hl 2 rfl) ?_
            refine S_getI (v := (G.1 66 62)) (C := RX12) (T := TX12) (N := 89) hx hb hg iX12 hown hK hW kd_66 rfl 62 (lt_b rfl) (hg (Cond.fieldLink RX12 478 "SlabWalkModel" "most" "I") m1376) (fun _ h9 => h9) rfl ((hq_131.i9 66 62 rfl rfl).trans ((hq_117.i9 66 62 rfl rfl).trans ((gp_ne eG_115 (fun q => absurd q.1 (Nat.ne_of_beq_eq_false rfl))).trans ((hq_110.i9 66 62 rfl rfl).trans ((hq_2.i9 66 62 rfl rfl).trans (rfl)))))) dX12_isEven_132 ?_
            refine lv_icmp_ge (tgt := 161) hx hb dX12_isEven_135 rfl (fun c_136 => ?_) (fun c_136 => ?_)
            · have c_136 : (G.1 66 62).toInt ≤ x_5.toInt := xI_le rfl rfl c_136
              refine ic_0 hx hb dX12_isEven_161 ?_
              refine lv_istore_n (lv' := [(3, .int 0), (4, .int x_5), (0, .ref (a 66)), (1, .int p0), (2, .int p1)]) hx hb dX12_isEven_162 rfl hl (lt_b rfl) rfl (fun ls hl => ?_)
              obtain ⟨y_137, ey_137⟩ : ∃ q, q = x_5 + (-1) := ⟨_, rfl⟩
              have ty_137 : y_137.toInt = x_5.toInt + (-1) := xI_add rfl rfl ey_137 ((by first | exact ok_190 c_13 | omega)) ((by first | exact ok_191 f_10.2 | omega))
              refine lv_iinc (v := y_137) (lv' := [(4, .int y_137), (3, .int 0), (0, .ref (a 66)), (1, .int p0), (2, .int p1)]) hx hb dX12_isEven_163 hl (k := 1) rfl (by rw [ey_137]; rfl) (lt_b rfl) rfl (fun ls hl => ?_)
              refine lv_goto (tgt := 7) hx hb dX12_isEven_166 rfl ?_
              have qc_138 : (0 : Int32).toInt = 0 := rfl
              exact ih_3 (y_137.toInt - (-1) : Int).toNat ((by first | (clear ha_p0 ha_p1 f_11 c_101 d_9 d_10 hn_123 f_122 c_133; omega) | omega)) _ _ _ ⟨G_129, y_137, 0, (Int.toNat_of_nonneg ((by first | exact ok_192 c_13 ty_137 | omega))), ⟨(by first | exact ok_193 c_13 ty_137 | omega), (by first | exact ok_194 f_10.2 ty_137 | omega)⟩, ⟨(by decide), (by decide)⟩, (hX_7.st (St_n_isEven_1_mk ⟨x_5, x_6, G_1, y_137, 0, G_129, rfl, rfl, f_10, f_11, hB_G_1, ⟨c_13, ⟨y_14, ey_14, (Or.inl ⟨c_101, ⟨r_108, G_109, hX_112, ⟨c_114, ⟨G_115, hB_G_115, (Fr.put (rs := [103]) (fs := []) Fr.rf eG_115 (Or.inl (by decide))), rw_ast eG_115, ⟨x_120, G_116, hX_121, f_122, hB_G_116, hq_117, ⟨G_129, hX_132, hB_G_129, hq_131, (Or.inl ⟨c_133, (Or.inl ⟨c_136, ⟨y_137, ty_137, ⟨rfl, rfl, rfl⟩⟩⟩)⟩)⟩⟩⟩⟩⟩⟩)⟩⟩⟩)), hW, hB_G_129, hF, (Fr.call9 (rs := [103]) (fs := []) (Fr.call9 (rs := [103]) (fs := []) (Fr.put (rs := [103]) (fs := []) (Fr.call9 (rs := [103]) (fs := []) (Fr.call9 (rs := [103]) (fs := []) Fr.rf hq_2 rfl rfl) hq_110 rfl rfl) eG_115 (Or.inl (by decide))) hq_117 rfl rfl) hq_131 rfl rfl), hS, lv_sub hl [0, 1, 2, 3, 4] rfl⟩
            · have c_136 : x_5.toInt < (G.1 66 62).toInt := xI_nle rfl rfl c_136
              refine lv_aload_n hx hb dX12_isEven_138 rfl (lv_at hl 2 rfl) ?_
              refine S_getR (n := 103) (C := RX12) (T := TX12) (N := 89) hx hb hg iX12 hown hK hW kd_66 rfl 69 (lt_b rfl) (hg (Cond.fieldLink RX12 130 "SlabWalkModel" "comes" "[Z") m1383) (fun _ h9 => h9) rfl dX12_isEven_139 ?_
              refine lv_iload hx hb dX12_isEven_142 (lv_at hl 0 rfl) ?_
              refine S_zald hx hb hK hW kd_103 (vin ((by first | exact c_13 | omega)) ((by first | exact ok_773 f_10.2 | omega))) dX12_isEven_144 (fun y_139 ey_139 => ?_)
              have ty_139 : 0 ≤ y_139.toInt ∧ y_139.toInt ≤ 1 := bv_103 hB_G_129 ey_139
              refine lv_if_eq (tgt := 161) hx hb dX12_isEven_145 rfl (fun c_140 => ?_) (fun c_140 => ?_)
              · have c_140 : y_139.toInt = 0 := xI_eq rfl rfl c_140
                refine ic_0 hx hb dX12_isEven_161 ?_
                refine lv_istore_n (lv' := [(3, .int 0), (4, .int x_5), (0, .ref (a 66)), (1, .int p0), (2, .int p1)]) hx hb dX12_isEven_162 rfl hl (lt_b rfl) rfl (fun ls hl => ?_)
                obtain ⟨y_141, ey_141⟩ : ∃ q, q = x_5 + (-1) := ⟨_, rfl⟩
                have ty_141 : y_141.toInt = x_5.toInt + (-1) := xI_add rfl rfl ey_141 ((by first | exact ok_190 c_13 | omega)) ((by first | exact ok_191 f_10.2 | omega))
                refine lv_iinc (v := y_141) (lv' := [(4, .int y_141), (3, .int 0), (0, .ref (a 66)), (1, .int p0), (2, .int p1)]) hx hb dX12_isEven_163 hl (k := 1) rfl (by rw [ey_141]; rfl) (lt_b rfl) rfl (fun ls hl => ?_)
                refine lv_goto (tgt := 7) hx hb dX12_isEven_166 rfl ?_
                have qc_142 : (0 : Int32).toInt = 0 := rfl
                exact ih_3 (y_141.toInt - (-1) : Int).toNat ((by first | (clear ha_p0 ha_p1 f_11 c_101 d_9 d_10 hn_123 f_122 c_133 ty_139 c_140; omega) | omega)) _ _ _ ⟨G_129, y_141, 0, (Int.toNat_of_nonneg ((by first | exact ok_192 c_13 ty_141 | omega))), ⟨(by first | exact ok_193 c_13 ty_141 | omega), (by first | exact ok_194 f_10.2 ty_141 | omega)⟩, ⟨(by decide), (by decide)⟩, (hX_7.st (St_n_isEven_1_mk ⟨x_5, x_6, G_1, y_141, 0, G_129, rfl, rfl, f_10, f_11, hB_G_1, ⟨c_13, ⟨y_14, ey_14, (Or.inl ⟨c_101, ⟨r_108, G_109, hX_112, ⟨c_114, ⟨G_115, hB_G_115, (Fr.put (rs := [103]) (fs := []) Fr.rf eG_115 (Or.inl (by decide))), rw_ast eG_115, ⟨x_120, G_116, hX_121, f_122, hB_G_116, hq_117, ⟨G_129, hX_132, hB_G_129, hq_131, (Or.inl ⟨c_133, (Or.inr ⟨c_136, ⟨y_139, ey_139, (Or.inl ⟨c_140, ⟨y_141, ty_141, ⟨rfl, rfl, rfl⟩⟩⟩)⟩⟩)⟩)⟩⟩⟩⟩⟩⟩)⟩⟩⟩)), hW, hB_G_129, hF, (Fr.call9 (rs := [103]) (fs := []) (Fr.call9 (rs := [103]) (fs := []) (Fr.put (rs := [103]) (fs := []) (Fr.call9 (rs := [103]) (fs := []) (Fr.call9 (rs := [103]) (fs := []) Fr.rf hq_2 rfl rfl) hq_110 rfl rfl) eG_115 (Or.inl (by decide))) hq_117 rfl rfl) hq_131 rfl rfl), hS, lv_sub hl [0, 1, 2, 3, 4] rfl⟩
              · have c_140 : y_139.toInt ≠ 0 := xI_ne rfl rfl c_140
                refine lv_aload_n hx hb dX12_isEven_148 rfl (lv_at hl 2 rfl) ?_
                refine lv_iload hx hb dX12_isEven_149 (lv_at hl 0 rfl) ?_
                have g_143 : (G_129.1 66 59).toInt = (G.1 66 59).toInt := (congrArg Int32.toInt (show G_129.1 66 59 = (G.1 66 59) from ((hq_131.i9 66 59 rfl rfl).trans ((hq_117.i9 66 59 rfl rfl).trans ((gp_ne eG_115 (fun q => absurd q.1 (Nat.ne_of_beq_eq_false rfl))).trans ((hq_110.i9 66 59 rfl rfl).trans ((hq_2.i9 66 59 rfl rfl).trans (rfl))))))))
                have g_144 : (G_129.1 66 60).toInt = (G.1 66 60).toInt := (congrArg Int32.toInt (show G_129.1 66 60 = (G.1 66 60) from ((hq_131.i9 66 60 rfl rfl).trans ((hq_117.i9 66 60 rfl rfl).trans ((gp_ne eG_115 (fun q => absurd q.1 (Nat.ne_of_beq_eq_false rfl))).trans ((hq_110.i9 66 60 rfl rfl).trans ((hq_2.i9 66 60 rfl rfl).trans (rfl))))))))
                have g_145 : (G_129.1 66 62).toInt = (G.1 66 62).toInt := (congrArg Int32.toInt (show G_129.1 66 62 = (G.1 66 62) from ((hq_131.i9 66 62 rfl rfl).trans ((hq_117.i9 66 62 rfl rfl).trans ((gp_ne eG_115 (fun q => absurd q.1 (Nat.ne_of_beq_eq_false rfl))).trans ((hq_110.i9 66 62 rfl rfl).trans ((hq_2.i9 66 62 rfl rfl).trans (rfl))))))))
                refine S_calli (va_runV (As := [.int x_5]) (rest := []) ⟨hx, hb, hml, hown, hts⟩ (n_isEnd l D k A a z G_129 x_5 ⟨(by first | exact ok_774 c_13 | omega), (by first | exact ok_775 f_10.2 | omega)⟩) (cwV 1 hts (gd_V hgd m1854 m1856 m95 m131 m1857) rfl rfl rfl hd_X12_isEnd ⟨Nat.le_of_ble_eq_true rfl, Nat.le_of_ble_eq_true rfl⟩) (pre_W hW hB_G_129 hK hZ hS kd_66 rfl) rfl rfl hl.1 rfl (lv_room (Nat.le_of_ble_eq_true rfl)) dX12_isEven_151 ⟨Nat.le_of_ble_eq_true rfl, Nat.le_of_ble_eq_true rfl⟩) hS (fun r_146 G_147 H locs hpo hW hS => ?_)
                have hX_150 : Q_isEnd x_5 G_129 r_146 G_147 := hpo
                obtain ⟨hB_G_147, hq_148, f_151, ⟨d_13, d_14⟩, -⟩ := hpo
                have d_15 := d_14 c_13
                have hF := hF.call9 hq_148 rfl rfl
                refine lv_if_ne (tgt := 161) hx hb dX12_isEven_154 rfl (fun c_152 => ?_) (fun c_152 => ?_)
                · have c_152 : r_146.toInt ≠ 0 := xI_ne rfl rfl c_152
                  refine ic_0 hx hb dX12_isEven_161 ?_
                  refine lv_istore_n (lv' := [(3, .int 0), (4, .int x_5), (0, .ref (a 66)), (1, .int p0), (2, .int p1)]) hx hb dX12_isEven_162 rfl hl (lt_b rfl) rfl (fun ls hl => ?_)
                  obtain ⟨y_153, ey_153⟩ : ∃ q, q = x_5 + (-1) := ⟨_, rfl⟩
                  have ty_153 : y_153.toInt = x_5.toInt + (-1) := xI_add rfl rfl ey_153 ((by first | exact ok_190 c_13 | omega)) ((by first | exact ok_191 f_10.2 | omega))
                  refine lv_iinc (v := y_153) (lv' := [(4, .int y_153), (3, .int 0), (0, .ref (a 66)), (1, .int p0), (2, .int p1)]) hx hb dX12_isEven_163 hl (k := 1) rfl (by rw [ey_153]; rfl) (lt_b rfl) rfl (fun ls hl => ?_)
                  refine lv_goto (tgt := 7) hx hb dX12_isEven_166 rfl ?_
                  have qc_154 : (0 : Int32).toInt = 0 := rfl
                  exact ih_3 (y_153.toInt - (-1) : Int).toNat ((by first | (clear ha_p0 ha_p1 f_11 c_101 d_9 d_10 hn_123 f_122 c_133 ty_139 c_140 d_13 d_14; omega) | omega)) _ _ _ ⟨G_147, y_153, 0, (Int.toNat_of_nonneg ((by first | exact ok_192 c_13 ty_153 | omega))), ⟨(by first | exact ok_193 c_13 ty_153 | omega), (by first | exact ok_194 f_10.2 ty_153 | omega)⟩, ⟨(by decide), (by decide)⟩, (hX_7.st (St_n_isEven_1_mk ⟨x_5, x_6, G_1, y_153, 0, G_147, rfl, rfl, f_10, f_11, hB_G_1, ⟨c_13, ⟨y_14, ey_14, (Or.inl ⟨c_101, ⟨r_108, G_109, hX_112, ⟨c_114, ⟨G_115, hB_G_115, (Fr.put (rs := [103]) (fs := []) Fr.rf eG_115 (Or.inl (by decide))), rw_ast eG_115, ⟨x_120, G_116, hX_121, f_122, hB_G_116, hq_117, ⟨G_129, hX_132, hB_G_129, hq_131, (Or.inl ⟨c_133, (Or.inr ⟨c_136, ⟨y_139, ey_139, (Or.inr ⟨c_140, ⟨r_146, G_147, hX_150, (Or.inr ⟨c_152, ⟨y_153, ty_153, ⟨rfl, rfl, rfl⟩⟩⟩)⟩⟩)⟩⟩)⟩)⟩⟩⟩⟩⟩⟩)⟩⟩⟩)), hW, hB_G_147, hF, (Fr.call9 (rs := [103]) (fs := []) (Fr.call9 (rs := [103]) (fs := []) (Fr.call9 (rs := [103]) (fs := []) (Fr.put (rs := [103]) (fs := []) (Fr.call9 (rs := [103]) (fs := []) (Fr.call9 (rs := [103]) (fs := []) Fr.rf hq_2 rfl rfl) hq_110 rfl rfl) eG_115 (Or.inl (by decide))) hq_117 rfl rfl) hq_131 rfl rfl) hq_148 rfl rfl), hS, lv_sub hl [0, 1, 2, 3, 4] rfl⟩
                · have c_152 : r_146.toInt = 0 := xI_eq rfl rfl c_152
                  have d_16 := d_13 c_152
                  refine ic_1 hx hb dX12_isEven_157 ?_
                  refine lv_goto (tgt := 162) hx hb dX12_isEven_158 rfl ?_
                  refine lv_istore_n (lv' := [(3, .int 1), (4, .int x_5), (0, .ref (a 66)), (1, .int p0), (2, .int p1)]) hx hb dX12_isEven_162 rfl hl (lt_b rfl) rfl (fun ls hl => ?_)
                  obtain ⟨y_155, ey_155⟩ : ∃ q, q = x_5 + (-1) := ⟨_, rfl⟩
                  have ty_155 : y_155.toInt = x_5.toInt + (-1) := xI_add rfl rfl ey_155 ((by first | exact ok_190 c_13 | omega)) ((by first | exact ok_191 f_10.2 | omega))
                  refine lv_iinc (v := y_155) (lv' := [(4, .int y_155), (3, .int 1), (0, .ref (a 66)), (1, .int p0), (2, .int p1)]) hx hb dX12_isEven_163 hl (k := 1) rfl (by rw [ey_155]; rfl) (lt_b rfl) rfl (fun ls hl => ?_)
                  refine lv_goto (tgt := 7) hx hb dX12_isEven_166 rfl ?_
                  have qc_156 : (1 : Int32).toInt = 1 := rfl
                  exact ih_3 (y_155.toInt - (-1) : Int).toNat ((by first | (clear ha_p0 ha_p1 f_11 c_101 d_9 d_10 hn_123 f_122 c_133 ty_139 c_140 d_13 d_14; omega) | omega)) _ _ _ ⟨G_147, y_155, 1, (Int.toNat_of_nonneg ((by first | exact ok_192 c_13 ty_155 | omega))), ⟨(by first | exact ok_193 c_13 ty_155 | omega), (by first | exact ok_194 f_10.2 ty_155 | omega)⟩, ⟨(by decide), (by decide)⟩, (hX_7.st (St_n_isEven_1_mk ⟨x_5, x_6, G_1, y_155, 1, G_147, rfl, rfl, f_10, f_11, hB_G_1, ⟨c_13, ⟨y_14, ey_14, (Or.inl ⟨c_101, ⟨r_108, G_109, hX_112, ⟨c_114, ⟨G_115, hB_G_115, (Fr.put (rs := [103]) (fs := []) Fr.rf eG_115 (Or.inl (by decide))), rw_ast eG_115, ⟨x_120, G_116, hX_121, f_122, hB_G_116, hq_117, ⟨G_129, hX_132, hB_G_129, hq_131, (Or.inl ⟨c_133, (Or.inr ⟨c_136, ⟨y_139, ey_139, (Or.inr ⟨c_140, ⟨r_146, G_147, hX_150, (Or.inl ⟨c_152, ⟨y_155, ty_155, ⟨rfl, rfl, rfl⟩⟩⟩)⟩⟩)⟩⟩)⟩)⟩⟩⟩⟩⟩⟩)⟩⟩⟩)), hW, hB_G_147, hF, (Fr.call9 (rs := [103]) (fs := []) (Fr.call9 (rs := [103]) (fs := []) (Fr.call9 (rs := [103]) (fs := []) (Fr.put (rs := [103]) (fs := []) (Fr.call9 (rs := [103]) (fs := []) (Fr.call9 (rs := [103]) (fs := []) Fr.rf hq_2 rfl rfl) hq_110 rfl rfl) eG_115 (Or.inl (by decide))) hq_117 rfl rfl) hq_131 rfl rfl) hq_148 rfl rfl), hS, lv_sub hl [0, 1, 2, 3, 4] rfl⟩
        refine lv_icmp_gt (tgt := 125) hx hb dX12_isEven_49 rfl (fun c_157 => ?_) (fun c_157 => ?_)
        · have c_157 : p1.toInt < x_120.toInt := xI_lt rfl rfl c_157
          exact hJ_130 () _ _ _ ⟨G_116, (Jn_n_isEven_6_mk (Or.inl ⟨c_157, rfl⟩)), hW, hB_G_116, hF, (Fr.rf (rs := []) (fs := [])), hS, lv_sub hl [1, 2, 3, 4, 5] rfl⟩
        · have c_157 : x_120.toInt ≤ p1.toInt := xI_nlt rfl rfl c_157
          refine lv_aload_n hx hb dX12_isEven_52 rfl (lv_at hl 3 rfl) ?_
          refine S_getR (n := 98) (C := RX12) (T := TX12) (N := 89) hx hb hg iX12 hown hK hW kd_66 rfl 58 (lt_b rfl) (hg (Cond.fieldLink RX12 115 "SlabWalkModel" "lawful" "[Z") m1372) (fun _ h9 => h9) rfl dX12_isEven_53 ?_
          refine lv_iload hx hb dX12_isEven_56 (lv_at hl 1 rfl) ?_
          refine S_zald hx hb hK hW kd_98 (vin ((by first | exact c_13 | omega)) ((by first | exact ok_773 f_10.2 | omega))) dX12_isEven_58 (fun y_158 ey_158 => ?_)
          have ty_158 := hB_G_116.law ey_158
          refine lv_if_eq (tgt := 125) hx hb dX12_isEven_59 rfl (fun c_159 => ?_) (fun c_159 => ?_)
          · have c_159 : y_158.toInt = 0 := xI_eq rfl rfl c_159
            exact hJ_130 () _ _ _ ⟨G_116, (Jn_n_isEven_6_mk (Or.inr ⟨c_157, ⟨y_158, ey_158, (Or.inl ⟨c_159, rfl⟩)⟩⟩)), hW, hB_G_116, hF, (Fr.rf (rs := []) (fs := [])), hS, lv_sub hl [1, 2, 3, 4, 5] rfl⟩
          · have c_159 : y_158.toInt ≠ 0 := xI_ne rfl rfl c_159
            refine lv_aload_n hx hb dX12_isEven_62 rfl (lv_at hl 3 rfl) ?_
            refine lv_iload hx hb dX12_isEven_63 (lv_at hl 1 rfl) ?_
            have g_160 : (G_116.1 66 59).toInt = (G.1 66 59).toInt := (congrArg Int32.toInt (show G_116.1 66 59 = (G.1 66 59) from ((hq_117.i9 66 59 rfl rfl).trans ((gp_ne eG_115 (fun q => absurd q.1 (Nat.ne_of_beq_eq_false rfl))).trans ((hq_110.i9 66 59 rfl rfl).trans ((hq_2.i9 66 59 rfl rfl).trans (rfl)))))))
            have g_161 : (G_116.1 66 60).toInt = (G.1 66 60).toInt := (congrArg Int32.toInt (show G_116.1 66 60 = (G.1 66 60) from ((hq_117.i9 66 60 rfl rfl).trans ((gp_ne eG_115 (fun q => absurd q.1 (Nat.ne_of_beq_eq_false rfl))).trans ((hq_110.i9 66 60 rfl rfl).trans ((hq_2.i9 66 60 rfl rfl).trans (rfl)))))))
            have g_162 : (G_116.1 66 62).toInt = (G.1 66 62).toInt := (congrArg Int32.toInt (show G_116.1 66 62 = (G.1 66 62) from ((hq_117.i9 66 62 rfl rfl).trans ((gp_ne eG_115 (fun q => absurd q.1 (Nat.ne_of_beq_eq_false rfl))).trans ((hq_110.i9 66 62 rfl rfl).trans ((hq_2.i9 66 62 rfl rfl).trans (rfl)))))))
            refine S_calli (va_runV (As := [.int x_5]) (rest := []) ⟨hx, hb, hml, hown, hts⟩ (n_isEnd l D k A a z G_116 x_5 ⟨(by first | exact ok_774 c_13 | omega), (by first | exact ok_775 f_10.2 | omega)⟩) (cwV 1 hts (gd_V hgd m1854 m1856 m95 m131 m1857) rfl rfl rfl hd_X12_isEnd ⟨Nat.le_of_ble_eq_true rfl, Nat.le_of_ble_eq_true rfl⟩) (pre_W hW hB_G_116 hK hZ hS kd_66 rfl) rfl rfl hl.1 rfl (lv_room (Nat.le_of_ble_eq_true rfl)) dX12_isEven_65 ⟨Nat.le_of_ble_eq_true rfl, Nat.le_of_ble_eq_true rfl⟩) hS (fun r_163 G_164 H locs hpo hW hS => ?_)
            have hX_167 : Q_isEnd x_5 G_116 r_163 G_164 := hpo
            obtain ⟨hB_G_164, hq_165, f_168, ⟨d_17, d_18⟩, -⟩ := hpo
            have d_19 := d_18 c_13
            have hF := hF.call9 hq_165 rfl rfl
            refine lv_if_ne (tgt := 125) hx hb dX12_isEven_68 rfl (fun c_169 => ?_) (fun c_169 => ?_)
            · have c_169 : r_163.toInt ≠ 0 := xI_ne rfl rfl c_169
              exact hJ_130 () _ _ _ ⟨G_164, (Jn_n_isEven_6_mk (Or.inr ⟨c_157, ⟨y_158, ey_158, (Or.inr ⟨c_159, ⟨r_163, G_164, hX_167, (Or.inr ⟨c_169, rfl⟩)⟩⟩)⟩⟩)), hW, hB_G_164, hF, (Fr.call9 (rs := []) (fs := []) Fr.rf hq_165 rfl rfl), hS, lv_sub hl [1, 2, 3, 4, 5] rfl⟩
            · have c_169 : r_163.toInt = 0 := xI_eq rfl rfl c_169
              have d_20 := d_17 c_169
              refine lv_aload_n hx hb dX12_isEven_71 rfl (lv_at hl 3 rfl) ?_
              refine S_getR (n := 103) (C := RX12) (T := TX12) (N := 89) hx hb hg iX12 hown hK hW kd_66 rfl 69 (lt_b rfl) (hg (Cond.fieldLink RX12 130 "SlabWalkModel" "comes" "[Z") m1383) (fun _ h9 => h9) rfl dX12_isEven_72 ?_
              refine lv_iload hx hb dX12_isEven_75 (lv_at hl 1 rfl) ?_
              refine S_zald hx hb hK hW kd_103 (vin ((by first | exact c_13 | omega)) ((by first | exact ok_773 f_10.2 | omega))) dX12_isEven_77 (fun y_170 ey_170 => ?_)
              have ty_170 : 0 ≤ y_170.toInt ∧ y_170.toInt ≤ 1 := bv_103 hB_G_164 ey_170
              refine lv_if_ne (tgt := 125) hx hb dX12_isEven_78 rfl (fun c_171 => ?_) (fun c_171 => ?_)
              · have c_171 : y_170.toInt ≠ 0 := xI_ne rfl rfl c_171
                exact hJ_130 () _ _ _ ⟨G_164, (Jn_n_isEven_6_mk (Or.inr ⟨c_157, ⟨y_158, ey_158, (Or.inr ⟨c_159, ⟨r_163, G_164, hX_167, (Or.inl ⟨c_169, ⟨y_170, ey_170, ⟨c_171, rfl⟩⟩⟩)⟩⟩)⟩⟩)), hW, hB_G_164, hF, (Fr.call9 (rs := []) (fs := []) Fr.rf hq_165 rfl rfl), hS, lv_sub hl [1, 2, 3, 4, 5] rfl⟩
              · have c_171 : y_170.toInt = 0 := xI_eq rfl rfl c_171
                refine lv_aload_n hx hb dX12_isEven_81 rfl (lv_at hl 3 rfl) ?_
                refine S_getR (n := 103) (C := RX12) (T := TX12) (N := 89) hx hb hg iX12 hown hK hW kd_66 rfl 69 (lt_b rfl) (hg (Cond.fieldLink RX12 130 "SlabWalkModel" "comes" "[Z") m1383) (fun _ h9 => h9) rfl dX12_isEven_82 ?_
                refine lv_iload hx hb dX12_isEven_85 (lv_at hl 1 rfl) ?_
                refine lv_aload_n hx hb dX12_isEven_87 rfl (lv_at hl 3 rfl) ?_
                refine S_getR (n := 98) (C := RX12) (T := TX12) (N := 89) hx hb hg iX12 hown hK hW kd_66 rfl 58 (lt_b rfl) (hg (Cond.fieldLink RX12 115 "SlabWalkModel" "lawful" "[Z") m1372) (fun _ h9 => h9) rfl dX12_isEven_88 ?_
                refine lv_iload hx hb dX12_isEven_91 (lv_at hl 1 rfl) ?_
                refine lv_iload hx hb dX12_isEven_93 (lv_at hl 0 rfl) ?_
                refine lv_iadd hx hb dX12_isEven_95 ?_
                refine lv_topi (fun y_172 ey_172 => ?_)
                have ty_172 : y_172.toInt = x_5.toInt + x_120.toInt := xI_add rfl rfl ey_172 ((by first | exact ok_15 c_13 f_122.1 | omega)) ((by first | exact ok_776 f_10.2 f_122.2 | omega))
                refine S_zald hx hb hK hW kd_98 (vin ((by first | exact ok_105 c_13 f_122.1 ty_172 | omega)) ((by first | exact ok_777 f_10.2 f_122.2 ty_172 | omega))) dX12_isEven_96 (fun y_173 ey_173 => ?_)
                have ty_173 := hB_G_164.law ey_173
                refine lv_if_eq (tgt := 117) hx hb dX12_isEven_97 rfl (fun c_174 => ?_) (fun c_174 => ?_)
                · have c_174 : y_173.toInt = 0 := xI_eq rfl rfl c_174
                  refine ic_0 hx hb dX12_isEven_117 ?_
                  refine S_zast hx hb hK hW hS kd_103 (vin ((by first | exact c_13 | omega)) ((by first | exact ok_773 f_10.2 | omega))) dX12_isEven_118 (fun G_175 H locs eG_175 hW hS => ?_)
                  have hB_G_175 : Bd G_175 := hB_G_164.put (lo := 0) (hi := 1) eG_175 rfl rfl rfl nz_bool.1 nz_bool.2 (hB_G_164.2.put eG_175 rfl)
                  have hF := hF.put eG_175 (Or.inl (by decide))
                  obtain ⟨y_176, ey_176⟩ : ∃ q, q = x_120 + 1 := ⟨_, rfl⟩
                  have ty_176 : y_176.toInt = x_120.toInt + 1 := xI_add rfl rfl ey_176 ((by first | exact ok_21 f_122.1 | omega)) ((by first | exact ok_256 f_122.2 | omega))
                  refine lv_iinc (v := y_176) (lv' := [(5, .int y_176), (4, .int x_5), (3, .int x_6), (0, .ref (a 66)), (1, .int p0), (2, .int p1)]) hx hb dX12_isEven_119 hl (k := 0) rfl (by rw [ey_176]; rfl) (lt_b rfl) rfl (fun ls hl => ?_)
                  refine lv_goto (tgt := 46) hx hb dX12_isEven_122 rfl ?_
                  exact ih_118 (61 - y_176.toInt : Int).toNat ((by first | (clear ha_p0 f_11 c_101 d_9 d_10 c_159 d_17 d_18 ty_170 c_171 c_174; omega) | omega)) _ _ _ ⟨G_175, y_176, (Int.toNat_of_nonneg ((by first | exact ok_257 ha_p1.2 f_122.2 c_157 ty_176 | omega))), ⟨(by first | exact ok_23 f_122.1 ty_176 | omega), (by first | exact ok_258 ha_p1.2 f_122.2 c_157 ty_176 | omega)⟩, (hX_121.st (St_n_isEven_5_mk ⟨x_120, G_116, y_176, G_175, rfl, rfl, f_122, hB_G_116, ⟨c_157, ⟨y_158, ey_158, ⟨c_159, ⟨r_163, G_164, hX_167, ⟨c_169, ⟨y_170, ey_170, ⟨c_171, ⟨y_172, ty_172, ⟨y_173, ey_173, (Or.inl ⟨c_174, ⟨y_176, ty_176, ⟨rfl, (Fr.put (rs := [103]) (fs := []) Fr.rf eG_175 (Or.inl (by decide))), rw_ast eG_175⟩⟩⟩)⟩⟩⟩⟩⟩⟩⟩⟩⟩⟩)), hW, hB_G_175, hF, (Fr.put (rs := [103]) (fs := []) (Fr.call9 (rs := [103]) (fs := []) (Fr.call9 (rs := [103]) (fs := []) Fr.rf hq_117 rfl rfl) hq_165 rfl rfl) eG_175 (Or.inl (by decide))), hS, lv_sub hl [0, 1, 2, 3, 4, 5] rfl⟩
                · have c_174 : y_173.toInt ≠ 0 := xI_ne rfl rfl c_174
                  refine lv_aload_n hx hb dX12_isEven_100 rfl (lv_at hl 3 rfl) ?_
                  refine S_getR (n := 103) (C := RX12) (T := TX12) (N := 89) hx hb hg iX12 hown hK hW kd_66 rfl 69 (lt_b rfl) (hg (Cond.fieldLink RX12 130 "SlabWalkModel" "comes" "[Z") m1383) (fun _ h9 => h9) rfl dX12_isEven_101 ?_
                  refine lv_iload hx hb dX12_isEven_104 (lv_at hl 1 rfl) ?_
                  refine lv_iload hx hb dX12_isEven_106 (lv_at hl 0 rfl) ?_
                  refine lv_iadd hx hb dX12_isEven_108 ?_
                  refine lv_topi (fun y_177 ey_177 => ?_)
                  have ty_177 : y_177.toInt = x_5.toInt + x_120.toInt := xI_add rfl rfl ey_177 ((by first | exact ok_15 c_13 f_122.1 | omega)) ((by first | exact ok_776 f_10.2 f_122.2 | omega))
                  refine S_zald hx hb hK hW kd_103 (vin ((by first | exact ok_105 c_13 f_122.1 ty_177 | omega)) ((by first | exact ok_777 f_10.2 f_122.2 ty_177 | omega))) dX12_isEven_109 (fun y_178 ey_178 => ?_)
                  have ty_178 : 0 ≤ y_178.toInt ∧ y_178.toInt ≤ 1 := bv_103 hB_G_164 ey_178
                  refine lv_if_eq (tgt := 117) hx hb dX12_isEven_110 rfl (fun c_179 => ?_) (fun c_179 => ?_)
                  · have c_179 : y_178.toInt = 0 := xI_eq rfl rfl c_179
                    refine ic_0 hx hb dX12_isEven_117 ?_
                    refine S_zast hx hb hK hW hS kd_103 (vin ((by first | exact c_13 | omega)) ((by first | exact ok_773 f_10.2 | omega))) dX12_isEven_118 (fun G_180 H locs eG_180 hW hS => ?_)
                    have hB_G_180 : Bd G_180 := hB_G_164.put (lo := 0) (hi := 1) eG_180 rfl rfl rfl nz_bool.1 nz_bool.2 (hB_G_164.2.put eG_180 rfl)
                    have hF := hF.put eG_180 (Or.inl (by decide))
                    obtain ⟨y_181, ey_181⟩ : ∃ q, q = x_120 + 1 := ⟨_, rfl⟩
                    have ty_181 : y_181.toInt = x_120.toInt + 1 := xI_add rfl rfl ey_181 ((by first | exact ok_21 f_122.1 | omega)) ((by first | exact ok_256 f_122.2 | omega))
                    refine lv_iinc (v := y_181) (lv' := [(5, .int y_181), (4, .int x_5), (3, .int x_6), (0, .ref (a 66)), (1, .int p0), (2, .int p1)]) hx hb dX12_isEven_119 hl (k := 0) rfl (by rw [ey_181]; rfl) (lt_b rfl) rfl (fun ls hl => ?_)
                    refine lv_goto (tgt := 46) hx hb dX12_isEven_122 rfl ?_
                    exact ih_118 (61 - y_181.toInt : Int).toNat ((by first | (clear ha_p0 f_11 c_101 d_9 d_10 c_159 d_17 d_18 ty_170 c_171 c_174 ty_178 c_179; omega) | omega)) _ _ _ ⟨G_180, y_181, (Int.toNat_of_nonneg ((by first | exact ok_257 ha_p1.2 f_122.2 c_157 ty_181 | omega))), ⟨(by first | exact ok_23 f_122.1 ty_181 | omega), (by first | exact ok_258 ha_p1.2 f_122.2 c_157 ty_181 | omega)⟩, (hX_121.st (St_n_isEven_5_mk ⟨x_120, G_116, y_181, G_180, rfl, rfl, f_122, hB_G_116, ⟨c_157, ⟨y_158, ey_158, ⟨c_159, ⟨r_163, G_164, hX_167, ⟨c_169, ⟨y_170, ey_170, ⟨c_171, ⟨y_172, ty_172, ⟨y_173, ey_173, (Or.inr ⟨c_174, ⟨y_177, ty_177, ⟨y_178, ey_178, (Or.inl ⟨c_179, ⟨y_181, ty_181, ⟨rfl, (Fr.put (rs := [103]) (fs := []) Fr.rf eG_180 (Or.inl (by decide))), rw_ast eG_180⟩⟩⟩)⟩⟩⟩)⟩⟩⟩⟩⟩⟩⟩⟩⟩⟩)), hW, hB_G_180, hF, (Fr.put (rs := [103]) (fs := []) (Fr.call9 (rs := [103]) (fs := []) (Fr.call9 (rs := [103]) (fs := []) Fr.rf hq_117 rfl rfl) hq_165 rfl rfl) eG_180 (Or.inl (by decide))), hS, lv_sub hl [0, 1, 2, 3, 4, 5] rfl⟩
                  · have c_179 : y_178.toInt ≠ 0 := xI_ne rfl rfl c_179
                    refine ic_1 hx hb dX12_isEven_113 ?_
                    refine lv_goto (tgt := 118) hx hb dX12_isEven_114 rfl ?_
                    refine S_zast hx hb hK hW hS kd_103 (vin ((by first | exact c_13 | omega)) ((by first | exact ok_773 f_10.2 | omega))) dX12_isEven_118 (fun G_182 H locs eG_182 hW hS => ?_)
                    have hB_G_182 : Bd G_182 := hB_G_164.put (lo := 0) (hi := 1) eG_182 rfl rfl rfl nz_bool.1 nz_bool.2 (hB_G_164.2.put eG_182 rfl)
                    have hF := hF.put eG_182 (Or.inl (by decide))
                    obtain ⟨y_183, ey_183⟩ : ∃ q, q = x_120 + 1 := ⟨_, rfl⟩
                    have ty_183 : y_183.toInt = x_120.toInt + 1 := xI_add rfl rfl ey_183 ((by first | exact ok_21 f_122.1 | omega)) ((by first | exact ok_256 f_122.2 | omega))
                    refine lv_iinc (v := y_183) (lv' := [(5, .int y_183), (4, .int x_5), (3, .int x_6), (0, .ref (a 66)), (1, .int p0), (2, .int p1)]) hx hb dX12_isEven_119 hl (k := 0) rfl (by rw [ey_183]; rfl) (lt_b rfl) rfl (fun ls hl => ?_)
                    refine lv_goto (tgt := 46) hx hb dX12_isEven_122 rfl ?_
                    exact ih_118 (61 - y_183.toInt : Int).toNat ((by first | (clear ha_p0 f_11 c_101 d_9 d_10 c_159 d_17 d_18 ty_170 c_171 c_174 ty_178 c_179; omega) | omega)) _ _ _ ⟨G_182, y_183, (Int.toNat_of_nonneg ((by first | exact ok_257 ha_p1.2 f_122.2 c_157 ty_183 | omega))), ⟨(by first | exact ok_23 f_122.1 ty_183 | omega), (by first | exact ok_258 ha_p1.2 f_122.2 c_157 ty_183 | omega)⟩, (hX_121.st (St_n_isEven_5_mk ⟨x_120, G_116, y_183, G_182, rfl, rfl, f_122, hB_G_116, ⟨c_157, ⟨y_158, ey_158, ⟨c_159, ⟨r_163, G_164, hX_167, ⟨c_169, ⟨y_170, ey_170, ⟨c_171, ⟨y_172, ty_172, ⟨y_173, ey_173, (Or.inr ⟨c_174, ⟨y_177, ty_177, ⟨y_178, ey_178, (Or.inr ⟨c_179, ⟨y_183, ty_183, ⟨rfl, (Fr.put (rs := [103]) (fs := []) Fr.rf eG_182 (Or.inl (by decide))), rw_ast eG_182⟩⟩⟩)⟩⟩⟩)⟩⟩⟩⟩⟩⟩⟩⟩⟩⟩)), hW, hB_G_182, hF, (Fr.put (rs := [103]) (fs := []) (Fr.call9 (rs := [103]) (fs := []) (Fr.call9 (rs := [103]) (fs := []) Fr.rf hq_117 rfl rfl) hq_165 rfl rfl) eG_182 (Or.inl (by decide))), hS, lv_sub hl [0, 1, 2, 3, 4, 5] rfl⟩

theorem m76 : Cond.selects RX12 yX12_add yX12_add ∈ gd := gds_5 12 rfl
theorem m1325 : Cond.fieldLink RX12 21 "SlabWalkModel" "nStep" "[I" ∈ gd := gdc_6_0 9 rfl gw_fieldLink
theorem m1326 : Cond.fieldLink RX12 24 "SlabWalkModel" "nArg" "[I" ∈ gd := gdc_6_0 10 rfl gw_fieldLink
theorem m1327 : Cond.fieldLink RX12 27 "SlabWalkModel" "nMany" "[I" ∈ gd := gdc_6_0 11 rfl gw_fieldLink
theorem m1331 : Cond.fieldLink RX12 39 "SlabWalkModel" "open" "[I" ∈ gd := gdc_6_0 15 rfl gw_fieldLink
theorem m1333 : Cond.fieldLink RX12 296 "SlabWalkModel" "form" "I" ∈ gd := gdc_6_1 1 rfl gw_fieldLink
theorem m1334 : Cond.fieldLink RX12 299 "SlabWalkModel" "opens" "I" ∈ gd := gdc_6_1 2 rfl gw_fieldLink
theorem m1338 : Cond.fieldLink RX12 309 "SlabWalkModel" "deep" "I" ∈ gd := gdc_6_1 6 rfl gw_fieldLink
theorem m1722 : Cond.methodLink RX12 302 yX12_tight ∈ gd := gdc_7_10 6 rfl gw_methodLink
theorem m1723 : Cond.static yX12_tight ∈ gd := gdc_7_10 7 rfl gw_static
theorem m1724 : Cond.code yX12_tight cX12_tight 1 (some .int) ∈ gd := gdc_7_10 8 rfl gw_code
theorem m1741 : Cond.methodLink RX12 305 yX12_add ∈ gd := gdc_7_11 9 rfl gw_methodLink
theorem m1743 : Cond.instanceMethod yX12_add ∈ gd := gdc_7_11 11 rfl gw_instanceMethod
theorem m1744 : Cond.code yX12_add cX12_add 3 none ∈ gd := gdc_7_11 12 rfl gw_code
noncomputable def rbX12_add_0 : List (Nat × List Nat) := [(0, [42]), (1, [180, 0, 21]), (4, [17, 1, 64]), (7, [42]), (8, [180, 1, 40]), (11, [104]), (12, [42]), (13, [180, 0, 27]), (16, [42]), (17, [180, 1, 40]), (20, [46]), (21, [96]), (22, [27]), (23, [79]), (24, [42]), (25, [180, 0, 24]), (28, [17, 1, 64]), (31, [42]), (32, [180, 1, 40]), (35, [104]), (36, [42]), (37, [180, 0, 27]), (40, [42]), (41, [180, 1, 40])]
theorem rcX12_add_0 : dgo (lb cX12_add) 0 rbX12_add_0 = true := by decide +kernel
theorem dX12_add_0 : decode cX12_add 0 = .ok (.aload_n 0, 1) := dk_42 (dw rcX12_add_0 0 rfl)
theorem dX12_add_1 : decode cX12_add 1 = .ok (.getfield 21, 3) := dk_180 (dw rcX12_add_0 1 rfl) rfl
theorem dX12_add_4 : decode cX12_add 4 = .ok (.sipush 320, 3) := dk_17 (dw rcX12_add_0 2 rfl) rfl
theorem dX12_add_7 : decode cX12_add 7 = .ok (.aload_n 0, 1) := dk_42 (dw rcX12_add_0 3 rfl)
theorem dX12_add_8 : decode cX12_add 8 = .ok (.getfield 296, 3) := dk_180 (dw rcX12_add_0 4 rfl) rfl
theorem dX12_add_11 : decode cX12_add 11 = .ok (.imul, 1) := dk_104 (dw rcX12_add_0 5 rfl)
theorem dX12_add_12 : decode cX12_add 12 = .ok (.aload_n 0, 1) := dk_42 (dw rcX12_add_0 6 rfl)
theorem dX12_add_13 : decode cX12_add 13 = .ok (.getfield 27, 3) := dk_180 (dw rcX12_add_0 7 rfl) rfl
theorem dX12_add_16 : decode cX12_add 16 = .ok (.aload_n 0, 1) := dk_42 (dw rcX12_add_0 8 rfl)
theorem dX12_add_17 : decode cX12_add 17 = .ok (.getfield 296, 3) := dk_180 (dw rcX12_add_0 9 rfl) rfl
theorem dX12_add_20 : decode cX12_add 20 = .ok (.iaload, 1) := dk_46 (dw rcX12_add_0 10 rfl)
theorem dX12_add_21 : decode cX12_add 21 = .ok (.iadd, 1) := dk_96 (dw rcX12_add_0 11 rfl)
theorem dX12_add_22 : decode cX12_add 22 = .ok (.iload_n 1, 1) := dk_27 (dw rcX12_add_0 12 rfl)
theorem dX12_add_23 : decode cX12_add 23 = .ok (.iastore, 1) := dk_79 (dw rcX12_add_0 13 rfl)
theorem dX12_add_24 : decode cX12_add 24 = .ok (.aload_n 0, 1) := dk_42 (dw rcX12_add_0 14 rfl)
theorem dX12_add_25 : decode cX12_add 25 = .ok (.getfield 24, 3) := dk_180 (dw rcX12_add_0 15 rfl) rfl
theorem dX12_add_28 : decode cX12_add 28 = .ok (.sipush 320, 3) := dk_17 (dw rcX12_add_0 16 rfl) rfl
theorem dX12_add_31 : decode cX12_add 31 = .ok (.aload_n 0, 1) := dk_42 (dw rcX12_add_0 17 rfl)
theorem dX12_add_32 : decode cX12_add 32 = .ok (.getfield 296, 3) := dk_180 (dw rcX12_add_0 18 rfl) rfl
theorem dX12_add_35 : decode cX12_add 35 = .ok (.imul, 1) := dk_104 (dw rcX12_add_0 19 rfl)
theorem dX12_add_36 : decode cX12_add 36 = .ok (.aload_n 0, 1) := dk_42 (dw rcX12_add_0 20 rfl)
theorem dX12_add_37 : decode cX12_add 37 = .ok (.getfield 27, 3) := dk_180 (dw rcX12_add_0 21 rfl) rfl
theorem dX12_add_40 : decode cX12_add 40 = .ok (.aload_n 0, 1) := dk_42 (dw rcX12_add_0 22 rfl)
theorem dX12_add_41 : decode cX12_add 41 = .ok (.getfield 296, 3) := dk_180 (dw rcX12_add_0 23 rfl) rfl
noncomputable def rbX12_add_44 : List (Nat × List Nat) := [(44, [46]), (45, [96]), (46, [28]), (47, [79]), (48, [42]), (49, [180, 0, 27]), (52, [42]), (53, [180, 1, 40]), (56, [92]), (57, [46]), (58, [4]), (59, [96]), (60, [79]), (61, [177])]
theorem rcX12_add_44 : dgo (lb cX12_add) 0 rbX12_add_44 = true := by decide +kernel
theorem dX12_add_44 : decode cX12_add 44 = .ok (.iaload, 1) := dk_46 (dw rcX12_add_44 0 rfl)
theorem dX12_add_45 : decode cX12_add 45 = .ok (.iadd, 1) := dk_96 (dw rcX12_add_44 1 rfl)
theorem dX12_add_46 : decode cX12_add 46 = .ok (.iload_n 2, 1) := dk_28 (dw rcX12_add_44 2 rfl)
theorem dX12_add_47 : decode cX12_add 47 = .ok (.iastore, 1) := dk_79 (dw rcX12_add_44 3 rfl)
theorem dX12_add_48 : decode cX12_add 48 = .ok (.aload_n 0, 1) := dk_42 (dw rcX12_add_44 4 rfl)
theorem dX12_add_49 : decode cX12_add 49 = .ok (.getfield 27, 3) := dk_180 (dw rcX12_add_44 5 rfl) rfl
theorem dX12_add_52 : decode cX12_add 52 = .ok (.aload_n 0, 1) := dk_42 (dw rcX12_add_44 6 rfl)
theorem dX12_add_53 : decode cX12_add 53 = .ok (.getfield 296, 3) := dk_180 (dw rcX12_add_44 7 rfl) rfl
theorem dX12_add_56 : decode cX12_add 56 = .ok (.dup2, 1) := dk_92 (dw rcX12_add_44 8 rfl)
theorem dX12_add_57 : decode cX12_add 57 = .ok (.iaload, 1) := dk_46 (dw rcX12_add_44 9 rfl)
theorem dX12_add_58 : decode cX12_add 58 = .ok (.iconst 1, 1) := dk_4 (dw rcX12_add_44 10 rfl)
theorem dX12_add_59 : decode cX12_add 59 = .ok (.iadd, 1) := dk_96 (dw rcX12_add_44 11 rfl)
theorem dX12_add_60 : decode cX12_add 60 = .ok (.iastore, 1) := dk_79 (dw rcX12_add_44 12 rfl)
theorem dX12_add_61 : decode cX12_add 61 = .ok (.return_, 1) := dk_177 (dw rcX12_add_44 13 rfl)
noncomputable def rbX12_close_0 : List (Nat × List Nat) := [(0, [42]), (1, [180, 1, 43]), (4, [158, 0, 97]), (7, [42]), (8, [180, 0, 39]), (11, [42]), (12, [180, 1, 43]), (15, [4]), (16, [100]), (17, [46]), (18, [16, 20]), (20, [159, 0, 81]), (23, [42]), (24, [180, 0, 39]), (27, [42]), (28, [180, 1, 43]), (31, [4]), (32, [100]), (33, [46]), (34, [184, 1, 46]), (37, [27]), (38, [161, 0, 63]), (41, [42]), (42, [89])]
theorem rcX12_close_0 : dgo (lb cX12_close) 0 rbX12_close_0 = true := by decide +kernel
theorem dX12_close_0 : decode cX12_close 0 = .ok (.aload_n 0, 1) := dk_42 (dw rcX12_close_0 0 rfl)
theorem dX12_close_1 : decode cX12_close 1 = .ok (.getfield 299, 3) := dk_180 (dw rcX12_close_0 1 rfl) rfl
theorem dX12_close_4 : decode cX12_close 4 = .ok (.ifCond .le 97, 3) := dk_158 (dw rcX12_close_0 2 rfl) rfl
theorem dX12_close_7 : decode cX12_close 7 = .ok (.aload_n 0, 1) := dk_42 (dw rcX12_close_0 3 rfl)
theorem dX12_close_8 : decode cX12_close 8 = .ok (.getfield 39, 3) := dk_180 (dw rcX12_close_0 4 rfl) rfl
theorem dX12_close_11 : decode cX12_close 11 = .ok (.aload_n 0, 1) := dk_42 (dw rcX12_close_0 5 rfl)
theorem dX12_close_12 : decode cX12_close 12 = .ok (.getfield 299, 3) := dk_180 (dw rcX12_close_0 6 rfl) rfl
theorem dX12_close_15 : decode cX12_close 15 = .ok (.iconst 1, 1) := dk_4 (dw rcX12_close_0 7 rfl)
theorem dX12_close_16 : decode cX12_close 16 = .ok (.isub, 1) := dk_100 (dw rcX12_close_0 8 rfl)
theorem dX12_close_17 : decode cX12_close 17 = .ok (.iaload, 1) := dk_46 (dw rcX12_close_0 9 rfl)
theorem dX12_close_18 : decode cX12_close 18 = .ok (.bipush 20, 2) := dk_16 (dw rcX12_close_0 10 rfl) rfl
theorem dX12_close_20 : decode cX12_close 20 = .ok (.if_icmp .eq 81, 3) := dk_159 (dw rcX12_close_0 11 rfl) rfl
theorem dX12_close_23 : decode cX12_close 23 = .ok (.aload_n 0, 1) := dk_42 (dw rcX12_close_0 12 rfl)
theorem dX12_close_24 : decode cX12_close 24 = .ok (.getfield 39, 3) := dk_180 (dw rcX12_close_0 13 rfl) rfl
theorem dX12_close_27 : decode cX12_close 27 = .ok (.aload_n 0, 1) := dk_42 (dw rcX12_close_0 14 rfl)
theorem dX12_close_28 : decode cX12_close 28 = .ok (.getfield 299, 3) := dk_180 (dw rcX12_close_0 15 rfl) rfl
theorem dX12_close_31 : decode cX12_close 31 = .ok (.iconst 1, 1) := dk_4 (dw rcX12_close_0 16 rfl)
theorem dX12_close_32 : decode cX12_close 32 = .ok (.isub, 1) := dk_100 (dw rcX12_close_0 17 rfl)
theorem dX12_close_33 : decode cX12_close 33 = .ok (.iaload, 1) := dk_46 (dw rcX12_close_0 18 rfl)
theorem dX12_close_34 : decode cX12_close 34 = .ok (.invokestatic 302, 3) := dk_184 (dw rcX12_close_0 19 rfl) rfl
theorem dX12_close_37 : decode cX12_close 37 = .ok (.iload_n 1, 1) := dk_27 (dw rcX12_close_0 20 rfl)
theorem dX12_close_38 : decode cX12_close 38 = .ok (.if_icmp .lt 63, 3) := dk_161 (dw rcX12_close_0 21 rfl) rfl
theorem dX12_close_41 : decode cX12_close 41 = .ok (.aload_n 0, 1) := dk_42 (dw rcX12_close_0 22 rfl)
theorem dX12_close_42 : decode cX12_close 42 = .ok (.dup, 1) := dk_89 (dw rcX12_close_0 23 rfl)
noncomputable def rbX12_close_43 : List (Nat × List Nat) := [(43, [180, 1, 43]), (46, [4]), (47, [100]), (48, [181, 1, 43]), (51, [42]), (52, [180, 0, 39]), (55, [42]), (56, [180, 1, 43]), (59, [46]), (60, [16, 21]), (62, [160, 0, 22]), (65, [42]), (66, [5]), (67, [3]), (68, [182, 1, 49]), (71, [42]), (72, [89]), (73, [180, 1, 53]), (76, [4]), (77, [100]), (78, [181, 1, 53]), (81, [167, 255, 175]), (84, [42]), (85, [6])]
theorem rcX12_close_43 : dgo (lb cX12_close) 0 rbX12_close_43 = true := by decide +kernel
theorem dX12_close_43 : decode cX12_close 43 = .ok (.getfield 299, 3) := dk_180 (dw rcX12_close_43 0 rfl) rfl
theorem dX12_close_46 : decode cX12_close 46 = .ok (.iconst 1, 1) := dk_4 (dw rcX12_close_43 1 rfl)
theorem dX12_close_47 : decode cX12_close 47 = .ok (.isub, 1) := dk_100 (dw rcX12_close_43 2 rfl)
theorem dX12_close_48 : decode cX12_close 48 = .ok (.putfield 299, 3) := dk_181 (dw rcX12_close_43 3 rfl) rfl
theorem dX12_close_51 : decode cX12_close 51 = .ok (.aload_n 0, 1) := dk_42 (dw rcX12_close_43 4 rfl)
theorem dX12_close_52 : decode cX12_close 52 = .ok (.getfield 39, 3) := dk_180 (dw rcX12_close_43 5 rfl) rfl
theorem dX12_close_55 : decode cX12_close 55 = .ok (.aload_n 0, 1) := dk_42 (dw rcX12_close_43 6 rfl)
theorem dX12_close_56 : decode cX12_close 56 = .ok (.getfield 299, 3) := dk_180 (dw rcX12_close_43 7 rfl) rfl
theorem dX12_close_59 : decode cX12_close 59 = .ok (.iaload, 1) := dk_46 (dw rcX12_close_43 8 rfl)
theorem dX12_close_60 : decode cX12_close 60 = .ok (.bipush 21, 2) := dk_16 (dw rcX12_close_43 9 rfl) rfl
theorem dX12_close_62 : decode cX12_close 62 = .ok (.if_icmp .ne 22, 3) := dk_160 (dw rcX12_close_43 10 rfl) rfl
theorem dX12_close_65 : decode cX12_close 65 = .ok (.aload_n 0, 1) := dk_42 (dw rcX12_close_43 11 rfl)
theorem dX12_close_66 : decode cX12_close 66 = .ok (.iconst 2, 1) := dk_5 (dw rcX12_close_43 12 rfl)
theorem dX12_close_67 : decode cX12_close 67 = .ok (.iconst 0, 1) := dk_3 (dw rcX12_close_43 13 rfl)
theorem dX12_close_68 : decode cX12_close 68 = .ok (.invokevirtual 305, 3) := dk_182 (dw rcX12_close_43 14 rfl) rfl
theorem dX12_close_71 : decode cX12_close 71 = .ok (.aload_n 0, 1) := dk_42 (dw rcX12_close_43 15 rfl)
theorem dX12_close_72 : decode cX12_close 72 = .ok (.dup, 1) := dk_89 (dw rcX12_close_43 16 rfl)
theorem dX12_close_73 : decode cX12_close 73 = .ok (.getfield 309, 3) := dk_180 (dw rcX12_close_43 17 rfl) rfl
theorem dX12_close_76 : decode cX12_close 76 = .ok (.iconst 1, 1) := dk_4 (dw rcX12_close_43 18 rfl)
theorem dX12_close_77 : decode cX12_close 77 = .ok (.isub, 1) := dk_100 (dw rcX12_close_43 19 rfl)
theorem dX12_close_78 : decode cX12_close 78 = .ok (.putfield 309, 3) := dk_181 (dw rcX12_close_43 20 rfl) rfl
theorem dX12_close_81 : decode cX12_close 81 = .ok (.goto (-81), 3) := dk_167 (dw rcX12_close_43 21 rfl) rfl
theorem dX12_close_84 : decode cX12_close 84 = .ok (.aload_n 0, 1) := dk_42 (dw rcX12_close_43 22 rfl)
theorem dX12_close_85 : decode cX12_close 85 = .ok (.iconst 3, 1) := dk_6 (dw rcX12_close_43 23 rfl)
noncomputable def rbX12_close_86 : List (Nat × List Nat) := [(86, [42]), (87, [180, 0, 39]), (90, [42]), (91, [180, 1, 43]), (94, [46]), (95, [182, 1, 49]), (98, [167, 255, 158]), (101, [177])]
theorem rcX12_close_86 : dgo (lb cX12_close) 0 rbX12_close_86 = true := by decide +kernel
theorem dX12_close_86 : decode cX12_close 86 = .ok (.aload_n 0, 1) := dk_42 (dw rcX12_close_86 0 rfl)
theorem dX12_close_87 : decode cX12_close 87 = .ok (.getfield 39, 3) := dk_180 (dw rcX12_close_86 1 rfl) rfl
theorem dX12_close_90 : decode cX12_close 90 = .ok (.aload_n 0, 1) := dk_42 (dw rcX12_close_86 2 rfl)
theorem dX12_close_91 : decode cX12_close 91 = .ok (.getfield 299, 3) := dk_180 (dw rcX12_close_86 3 rfl) rfl
theorem dX12_close_94 : decode cX12_close 94 = .ok (.iaload, 1) := dk_46 (dw rcX12_close_86 4 rfl)
theorem dX12_close_95 : decode cX12_close 95 = .ok (.invokevirtual 305, 3) := dk_182 (dw rcX12_close_86 5 rfl) rfl
theorem dX12_close_98 : decode cX12_close 98 = .ok (.goto (-98), 3) := dk_167 (dw rcX12_close_86 6 rfl) rfl
theorem dX12_close_101 : decode cX12_close 101 = .ok (.return_, 1) := dk_177 (dw rcX12_close_86 7 rfl)
noncomputable def rbX12_hasBracket_0 : List (Nat × List Nat) := [(0, [3]), (1, [60]), (2, [3]), (3, [61]), (4, [28]), (5, [42]), (6, [180, 1, 43]), (9, [162, 0, 30]), (12, [27]), (13, [154, 0, 14]), (16, [42]), (17, [180, 0, 39]), (20, [28]), (21, [46]), (22, [16, 20]), (24, [160, 0, 7]), (27, [4]), (28, [167, 0, 4]), (31, [3]), (32, [60]), (33, [132, 2, 1]), (36, [167, 255, 224]), (39, [27]), (40, [172])]
theorem rcX12_hasBracket_0 : dgo (lb cX12_hasBracket) 0 rbX12_hasBracket_0 = true := by decide +kernel
theorem dX12_hasBracket_0 : decode cX12_hasBracket 0 = .ok (.iconst 0, 1) := dk_3 (dw rcX12_hasBracket_0 0 rfl)
theorem dX12_hasBracket_1 : decode cX12_hasBracket 1 = .ok (.istore_n 1, 1) := dk_60 (dw rcX12_hasBracket_0 1 rfl)
theorem dX12_hasBracket_2 : decode cX12_hasBracket 2 = .ok (.iconst 0, 1) := dk_3 (dw rcX12_hasBracket_0 2 rfl)
theorem dX12_hasBracket_3 : decode cX12_hasBracket 3 = .ok (.istore_n 2, 1) := dk_61 (dw rcX12_hasBracket_0 3 rfl)
theorem dX12_hasBracket_4 : decode cX12_hasBracket 4 = .ok (.iload_n 2, 1) := dk_28 (dw rcX12_hasBracket_0 4 rfl)
theorem dX12_hasBracket_5 : decode cX12_hasBracket 5 = .ok (.aload_n 0, 1) := dk_42 (dw rcX12_hasBracket_0 5 rfl)
theorem dX12_hasBracket_6 : decode cX12_hasBracket 6 = .ok (.getfield 299, 3) := dk_180 (dw rcX12_hasBracket_0 6 rfl) rfl
theorem dX12_hasBracket_9 : decode cX12_hasBracket 9 = .ok (.if_icmp .ge 30, 3) := dk_162 (dw rcX12_hasBracket_0 7 rfl) rfl
theorem dX12_hasBracket_12 : decode cX12_hasBracket 12 = .ok (.iload_n 1, 1) := dk_27 (dw rcX12_hasBracket_0 8 rfl)
theorem dX12_hasBracket_13 : decode cX12_hasBracket 13 = .ok (.ifCond .ne 14, 3) := dk_154 (dw rcX12_hasBracket_0 9 rfl) rfl
theorem dX12_hasBracket_16 : decode cX12_hasBracket 16 = .ok (.aload_n 0, 1) := dk_42 (dw rcX12_hasBracket_0 10 rfl)
theorem dX12_hasBracket_17 : decode cX12_hasBracket 17 = .ok (.getfield 39, 3) := dk_180 (dw rcX12_hasBracket_0 11 rfl) rfl
theorem dX12_hasBracket_20 : decode cX12_hasBracket 20 = .ok (.iload_n 2, 1) := dk_28 (dw rcX12_hasBracket_0 12 rfl)
theorem dX12_hasBracket_21 : decode cX12_hasBracket 21 = .ok (.iaload, 1) := dk_46 (dw rcX12_hasBracket_0 13 rfl)
theorem dX12_hasBracket_22 : decode cX12_hasBracket 22 = .ok (.bipush 20, 2) := dk_16 (dw rcX12_hasBracket_0 14 rfl) rfl
theorem dX12_hasBracket_24 : decode cX12_hasBracket 24 = .ok (.if_icmp .ne 7, 3) := dk_160 (dw rcX12_hasBracket_0 15 rfl) rfl
theorem dX12_hasBracket_27 : decode cX12_hasBracket 27 = .ok (.iconst 1, 1) := dk_4 (dw rcX12_hasBracket_0 16 rfl)
theorem dX12_hasBracket_28 : decode cX12_hasBracket 28 = .ok (.goto 4, 3) := dk_167 (dw rcX12_hasBracket_0 17 rfl) rfl
theorem dX12_hasBracket_31 : decode cX12_hasBracket 31 = .ok (.iconst 0, 1) := dk_3 (dw rcX12_hasBracket_0 18 rfl)
theorem dX12_hasBracket_32 : decode cX12_hasBracket 32 = .ok (.istore_n 1, 1) := dk_60 (dw rcX12_hasBracket_0 19 rfl)
theorem dX12_hasBracket_33 : decode cX12_hasBracket 33 = .ok (.iinc 2 1, 3) := dk_132 (dw rcX12_hasBracket_0 20 rfl) rfl
theorem dX12_hasBracket_36 : decode cX12_hasBracket 36 = .ok (.goto (-32), 3) := dk_167 (dw rcX12_hasBracket_0 21 rfl) rfl
theorem dX12_hasBracket_39 : decode cX12_hasBracket 39 = .ok (.iload_n 1, 1) := dk_27 (dw rcX12_hasBracket_0 22 rfl)
theorem dX12_hasBracket_40 : decode cX12_hasBracket 40 = .ok (.ireturn, 1) := dk_172 (dw rcX12_hasBracket_0 23 rfl)
noncomputable def rbX12_hasRelation_0 : List (Nat × List Nat) := [(0, [42]), (1, [180, 1, 43]), (4, [4]), (5, [100]), (6, [60]), (7, [27]), (8, [155, 0, 33]), (11, [42]), (12, [180, 0, 39]), (15, [27]), (16, [46]), (17, [16, 20]), (19, [159, 0, 22]), (22, [42]), (23, [180, 0, 39]), (26, [27]), (27, [46]), (28, [184, 1, 46]), (31, [7]), (32, [164, 0, 9]), (35, [132, 1, 255]), (38, [167, 255, 225]), (41, [27]), (42, [155, 0, 31])]
theorem rcX12_hasRelation_0 : dgo (lb cX12_hasRelation) 0 rbX12_hasRelation_0 = true := by decide +kernel
theorem dX12_hasRelation_0 : decode cX12_hasRelation 0 = .ok (.aload_n 0, 1) := dk_42 (dw rcX12_hasRelation_0 0 rfl)
theorem dX12_hasRelation_1 : decode cX12_hasRelation 1 = .ok (.getfield 299, 3) := dk_180 (dw rcX12_hasRelation_0 1 rfl) rfl
theorem dX12_hasRelation_4 : decode cX12_hasRelation 4 = .ok (.iconst 1, 1) := dk_4 (dw rcX12_hasRelation_0 2 rfl)
theorem dX12_hasRelation_5 : decode cX12_hasRelation 5 = .ok (.isub, 1) := dk_100 (dw rcX12_hasRelation_0 3 rfl)
theorem dX12_hasRelation_6 : decode cX12_hasRelation 6 = .ok (.istore_n 1, 1) := dk_60 (dw rcX12_hasRelation_0 4 rfl)
theorem dX12_hasRelation_7 : decode cX12_hasRelation 7 = .ok (.iload_n 1, 1) := dk_27 (dw rcX12_hasRelation_0 5 rfl)
theorem dX12_hasRelation_8 : decode cX12_hasRelation 8 = .ok (.ifCond .lt 33, 3) := dk_155 (dw rcX12_hasRelation_0 6 rfl) rfl
theorem dX12_hasRelation_11 : decode cX12_hasRelation 11 = .ok (.aload_n 0, 1) := dk_42 (dw rcX12_hasRelation_0 7 rfl)
theorem dX12_hasRelation_12 : decode cX12_hasRelation 12 = .ok (.getfield 39, 3) := dk_180 (dw rcX12_hasRelation_0 8 rfl) rfl
theorem dX12_hasRelation_15 : decode cX12_hasRelation 15 = .ok (.iload_n 1, 1) := dk_27 (dw rcX12_hasRelation_0 9 rfl)
theorem dX12_hasRelation_16 : decode cX12_hasRelation 16 = .ok (.iaload, 1) := dk_46 (dw rcX12_hasRelation_0 10 rfl)
theorem dX12_hasRelation_17 : decode cX12_hasRelation 17 = .ok (.bipush 20, 2) := dk_16 (dw rcX12_hasRelation_0 11 rfl) rfl
theorem dX12_hasRelation_19 : decode cX12_hasRelation 19 = .ok (.if_icmp .eq 22, 3) := dk_159 (dw rcX12_hasRelation_0 12 rfl) rfl
theorem dX12_hasRelation_22 : decode cX12_hasRelation 22 = .ok (.aload_n 0, 1) := dk_42 (dw rcX12_hasRelation_0 13 rfl)
theorem dX12_hasRelation_23 : decode cX12_hasRelation 23 = .ok (.getfield 39, 3) := dk_180 (dw rcX12_hasRelation_0 14 rfl) rfl
theorem dX12_hasRelation_26 : decode cX12_hasRelation 26 = .ok (.iload_n 1, 1) := dk_27 (dw rcX12_hasRelation_0 15 rfl)
theorem dX12_hasRelation_27 : decode cX12_hasRelation 27 = .ok (.iaload, 1) := dk_46 (dw rcX12_hasRelation_0 16 rfl)
theorem dX12_hasRelation_28 : decode cX12_hasRelation 28 = .ok (.invokestatic 302, 3) := dk_184 (dw rcX12_hasRelation_0 17 rfl) rfl
theorem dX12_hasRelation_31 : decode cX12_hasRelation 31 = .ok (.iconst 4, 1) := dk_7 (dw rcX12_hasRelation_0 18 rfl)
theorem dX12_hasRelation_32 : decode cX12_hasRelation 32 = .ok (.if_icmp .le 9, 3) := dk_164 (dw rcX12_hasRelation_0 19 rfl) rfl
theorem dX12_hasRelation_35 : decode cX12_hasRelation 35 = .ok (.iinc 1 (-1), 3) := dk_132 (dw rcX12_hasRelation_0 20 rfl) rfl
theorem dX12_hasRelation_38 : decode cX12_hasRelation 38 = .ok (.goto (-31), 3) := dk_167 (dw rcX12_hasRelation_0 21 rfl) rfl
theorem dX12_hasRelation_41 : decode cX12_hasRelation 41 = .ok (.iload_n 1, 1) := dk_27 (dw rcX12_hasRelation_0 22 rfl)
theorem dX12_hasRelation_42 : decode cX12_hasRelation 42 = .ok (.ifCond .lt 31, 3) := dk_155 (dw rcX12_hasRelation_0 23 rfl) rfl
noncomputable def rbX12_hasRelation_45 : List (Nat × List Nat) := [(45, [42]), (46, [180, 0, 39]), (49, [27]), (50, [46]), (51, [16, 20]), (53, [159, 0, 20]), (56, [42]), (57, [180, 0, 39]), (60, [27]), (61, [46]), (62, [184, 1, 46]), (65, [7]), (66, [160, 0, 7]), (69, [4]), (70, [167, 0, 4]), (73, [3]), (74, [172])]
theorem rcX12_hasRelation_45 : dgo (lb cX12_hasRelation) 0 rbX12_hasRelation_45 = true := by decide +kernel
theorem dX12_hasRelation_45 : decode cX12_hasRelation 45 = .ok (.aload_n 0, 1) := dk_42 (dw rcX12_hasRelation_45 0 rfl)
theorem dX12_hasRelation_46 : decode cX12_hasRelation 46 = .ok (.getfield 39, 3) := dk_180 (dw rcX12_hasRelation_45 1 rfl) rfl
theorem dX12_hasRelation_49 : decode cX12_hasRelation 49 = .ok (.iload_n 1, 1) := dk_27 (dw rcX12_hasRelation_45 2 rfl)
theorem dX12_hasRelation_50 : decode cX12_hasRelation 50 = .ok (.iaload, 1) := dk_46 (dw rcX12_hasRelation_45 3 rfl)
theorem dX12_hasRelation_51 : decode cX12_hasRelation 51 = .ok (.bipush 20, 2) := dk_16 (dw rcX12_hasRelation_45 4 rfl) rfl
theorem dX12_hasRelation_53 : decode cX12_hasRelation 53 = .ok (.if_icmp .eq 20, 3) := dk_159 (dw rcX12_hasRelation_45 5 rfl) rfl
theorem dX12_hasRelation_56 : decode cX12_hasRelation 56 = .ok (.aload_n 0, 1) := dk_42 (dw rcX12_hasRelation_45 6 rfl)
theorem dX12_hasRelation_57 : decode cX12_hasRelation 57 = .ok (.getfield 39, 3) := dk_180 (dw rcX12_hasRelation_45 7 rfl) rfl
theorem dX12_hasRelation_60 : decode cX12_hasRelation 60 = .ok (.iload_n 1, 1) := dk_27 (dw rcX12_hasRelation_45 8 rfl)
theorem dX12_hasRelation_61 : decode cX12_hasRelation 61 = .ok (.iaload, 1) := dk_46 (dw rcX12_hasRelation_45 9 rfl)
theorem dX12_hasRelation_62 : decode cX12_hasRelation 62 = .ok (.invokestatic 302, 3) := dk_184 (dw rcX12_hasRelation_45 10 rfl) rfl
theorem dX12_hasRelation_65 : decode cX12_hasRelation 65 = .ok (.iconst 4, 1) := dk_7 (dw rcX12_hasRelation_45 11 rfl)
theorem dX12_hasRelation_66 : decode cX12_hasRelation 66 = .ok (.if_icmp .ne 7, 3) := dk_160 (dw rcX12_hasRelation_45 12 rfl) rfl
theorem dX12_hasRelation_69 : decode cX12_hasRelation 69 = .ok (.iconst 1, 1) := dk_4 (dw rcX12_hasRelation_45 13 rfl)
theorem dX12_hasRelation_70 : decode cX12_hasRelation 70 = .ok (.goto 4, 3) := dk_167 (dw rcX12_hasRelation_45 14 rfl) rfl
theorem dX12_hasRelation_73 : decode cX12_hasRelation 73 = .ok (.iconst 0, 1) := dk_3 (dw rcX12_hasRelation_45 15 rfl)
theorem dX12_hasRelation_74 : decode cX12_hasRelation 74 = .ok (.ireturn, 1) := dk_172 (dw rcX12_hasRelation_45 16 rfl)
noncomputable def rbX12_mayNot_0 : List (Nat × List Nat) := [(0, [42]), (1, [180, 1, 43]), (4, [153, 0, 37]), (7, [42]), (8, [180, 0, 39]), (11, [42]), (12, [180, 1, 43]), (15, [4]), (16, [100]), (17, [46]), (18, [16, 20]), (20, [159, 0, 21]), (23, [42]), (24, [180, 0, 39]), (27, [42]), (28, [180, 1, 43]), (31, [4]), (32, [100]), (33, [46]), (34, [184, 1, 46]), (37, [7]), (38, [162, 0, 7]), (41, [4]), (42, [167, 0, 4])]
theorem rcX12_mayNot_0 : dgo (lb cX12_mayNot) 0 rbX12_mayNot_0 = true := by decide +kernel
theorem dX12_mayNot_0 : decode cX12_mayNot 0 = .ok (.aload_n 0, 1) := dk_42 (dw rcX12_mayNot_0 0 rfl)
theorem dX12_mayNot_1 : decode cX12_mayNot 1 = .ok (.getfield 299, 3) := dk_180 (dw rcX12_mayNot_0 1 rfl) rfl
theorem dX12_mayNot_4 : decode cX12_mayNot 4 = .ok (.ifCond .eq 37, 3) := dk_153 (dw rcX12_mayNot_0 2 rfl) rfl
theorem dX12_mayNot_7 : decode cX12_mayNot 7 = .ok (.aload_n 0, 1) := dk_42 (dw rcX12_mayNot_0 3 rfl)
theorem dX12_mayNot_8 : decode cX12_mayNot 8 = .ok (.getfield 39, 3) := dk_180 (dw rcX12_mayNot_0 4 rfl) rfl
theorem dX12_mayNot_11 : decode cX12_mayNot 11 = .ok (.aload_n 0, 1) := dk_42 (dw rcX12_mayNot_0 5 rfl)
theorem dX12_mayNot_12 : decode cX12_mayNot 12 = .ok (.getfield 299, 3) := dk_180 (dw rcX12_mayNot_0 6 rfl) rfl
theorem dX12_mayNot_15 : decode cX12_mayNot 15 = .ok (.iconst 1, 1) := dk_4 (dw rcX12_mayNot_0 7 rfl)
theorem dX12_mayNot_16 : decode cX12_mayNot 16 = .ok (.isub, 1) := dk_100 (dw rcX12_mayNot_0 8 rfl)
theorem dX12_mayNot_17 : decode cX12_mayNot 17 = .ok (.iaload, 1) := dk_46 (dw rcX12_mayNot_0 9 rfl)
theorem dX12_mayNot_18 : decode cX12_mayNot 18 = .ok (.bipush 20, 2) := dk_16 (dw rcX12_mayNot_0 10 rfl) rfl
theorem dX12_mayNot_20 : decode cX12_mayNot 20 = .ok (.if_icmp .eq 21, 3) := dk_159 (dw rcX12_mayNot_0 11 rfl) rfl
theorem dX12_mayNot_23 : decode cX12_mayNot 23 = .ok (.aload_n 0, 1) := dk_42 (dw rcX12_mayNot_0 12 rfl)
theorem dX12_mayNot_24 : decode cX12_mayNot 24 = .ok (.getfield 39, 3) := dk_180 (dw rcX12_mayNot_0 13 rfl) rfl
theorem dX12_mayNot_27 : decode cX12_mayNot 27 = .ok (.aload_n 0, 1) := dk_42 (dw rcX12_mayNot_0 14 rfl)
theorem dX12_mayNot_28 : decode cX12_mayNot 28 = .ok (.getfield 299, 3) := dk_180 (dw rcX12_mayNot_0 15 rfl) rfl
theorem dX12_mayNot_31 : decode cX12_mayNot 31 = .ok (.iconst 1, 1) := dk_4 (dw rcX12_mayNot_0 16 rfl)
theorem dX12_mayNot_32 : decode cX12_mayNot 32 = .ok (.isub, 1) := dk_100 (dw rcX12_mayNot_0 17 rfl)
theorem dX12_mayNot_33 : decode cX12_mayNot 33 = .ok (.iaload, 1) := dk_46 (dw rcX12_mayNot_0 18 rfl)
theorem dX12_mayNot_34 : decode cX12_mayNot 34 = .ok (.invokestatic 302, 3) := dk_184 (dw rcX12_mayNot_0 19 rfl) rfl
theorem dX12_mayNot_37 : decode cX12_mayNot 37 = .ok (.iconst 4, 1) := dk_7 (dw rcX12_mayNot_0 20 rfl)
theorem dX12_mayNot_38 : decode cX12_mayNot 38 = .ok (.if_icmp .ge 7, 3) := dk_162 (dw rcX12_mayNot_0 21 rfl) rfl
theorem dX12_mayNot_41 : decode cX12_mayNot 41 = .ok (.iconst 1, 1) := dk_4 (dw rcX12_mayNot_0 22 rfl)
theorem dX12_mayNot_42 : decode cX12_mayNot 42 = .ok (.goto 4, 3) := dk_167 (dw rcX12_mayNot_0 23 rfl) rfl
noncomputable def rbX12_mayNot_45 : List (Nat × List Nat) := [(45, [3]), (46, [172])]
theorem rcX12_mayNot_45 : dgo (lb cX12_mayNot) 0 rbX12_mayNot_45 = true := by decide +kernel
theorem dX12_mayNot_45 : decode cX12_mayNot 45 = .ok (.iconst 0, 1) := dk_3 (dw rcX12_mayNot_45 0 rfl)
theorem dX12_mayNot_46 : decode cX12_mayNot 46 = .ok (.ireturn, 1) := dk_172 (dw rcX12_mayNot_45 1 rfl)
set_option maxHeartbeats 4000000 in
set_option maxRecDepth 100000 in
theorem n_hasBracket (l : Launch) (D : va_G) (k : KT) (A : Nat → Prop) (a : Nat → Nat) (z : SK) (G : GS)   : Met l yX12_hasBracket (WS yX12_hasBracket cX12_hasBracket 3 (some .boolean)) ({ frames := 0, cells := 0, slots := 0, locals := 0 }) (va_Pc [.ref (a 66)] (cW D k A a z G)) (va_Qi (fun (r : Int32) (G1 : GS) => Q_hasBracket G r G1) (fun (G1 : GS) t => Wd D k A a G1 t.heap) A) 0 0 A := by
  refine Met.ofW (cc := cX12_hasBracket) (maxL := 3) (ret := (some .boolean)) (by decide) rfl ?_
  intro p e s m args below meth c s₁ B hml hv
  obtain ⟨rfl, hW, hB_G, hK, hZ⟩ := hv
  have hx := B.exec
  have hb := B.bytes
  have hr := B.returns
  have hts := atoms_spec (ws := WS yX12_hasBracket cX12_hasBracket 3 (some .boolean)) B.pre
  have hgd : ∀ w ∈ gd, w ∈ WS yX12_hasBracket cX12_hasBracket 3 (some .boolean) := fun w h => List.mem_cons_of_mem _ h
  have hg : ∀ w ∈ gd, w.before _ s = true := fun w h => hts w (hgd w h)
  have hown : s.vm.findClass RX12 = some m.cls := findClass_of_methodNamed B.named
  have hS : va_S A s.heap s.heap [] := va_S.rf
  have hF : Fr [] [] G G := Fr.rf
  have hl := lv_entry ([.ref (a 66)]) (n := 3) (Nat.le_of_ble_eq_true rfl)
  rw [lg_entry_eq]
  generalize (lg_sl ([.ref (a 66)]) ++ List.replicate (3 - (lg_sl ([.ref (a 66)])).length) Slot.unset).toArray = ls at hl ⊢
  have hl : lv_has ls 3 [(0, .ref (a 66))] := hl
  refine ic_0 hx hb dX12_hasBracket_0 ?_
  refine lv_istore_n (lv' := [(1, .int 0), (0, .ref (a 66))]) hx hb dX12_hasBracket_1 rfl hl (lt_b rfl) rfl (fun ls hl => ?_)
  refine ic_0 hx hb dX12_hasBracket_2 ?_
  have u_1 := bk_mono (G.1 75) (0 : Int32).toInt
  refine lv_istore_n (lv' := [(2, .int 0), (1, .int 0), (0, .ref (a 66))]) hx hb dX12_hasBracket_3 rfl hl (lt_b rfl) rfl (fun ls hl => ?_)
  have b_9 : 0 ≤ (G.1 66 20).toInt ∧ (G.1 66 20).toInt ≤ 160 := bd_66_20 hB_G
  have qc_10 : (0 : Int32).toInt = 0 := rfl
  refine loop_N (Inv := fun n H locs ls => ∃ (G_2 : GS) (x_6 : Int32) (x_7 : Int32), (n : Int) = 160 - x_6.toInt ∧ (0 ≤ x_6.toInt ∧ x_6.toInt ≤ 160) ∧ (0 ≤ x_7.toInt ∧ x_7.toInt ≤ 1) ∧ (x_7.toInt ≤ bkI (G.1 75) x_6.toInt) ∧ (x_6.toInt ≤ (G.1 66 20).toInt) ∧ Rc (St_n_hasBracket_1 G) (0, 0, G) (x_6, x_7, G_2) ∧ Wd D k A a G_2 H ∧ Bd G_2 ∧ Fr [] [] G G_2 ∧ Fr [] [] G G_2 ∧ va_S A s.heap H locs ∧ lv_has ls 3 [(2, .int x_6), (1, .int x_7), (0, .ref (a 66))]) (fun n_5 H locs ls ih_4 hI => ?_) (160 - 0 : Int).toNat ⟨G, 0, 0, (Int.toNat_of_nonneg ((by decide))), ⟨(by decide), (by decide)⟩, ⟨(by decide), (by decide)⟩, (by omega), ((by first | exact b_9.1 | omega)), Rc.rf, hW, hB_G, hF, Fr.rf, hS, lv_sub hl [0, 1, 2] rfl⟩
  obtain ⟨G_2, x_6, x_7, hn_15, f_11, f_12, f_13, f_14, hX_8, hW, hB_G_2, hF, hq_3, hS, hl⟩ := hI
  refine lv_iload_n hx hb dX12_hasBracket_4 rfl (lv_at hl 0 rfl) ?_
  refine lv_aload_n hx hb dX12_hasBracket_5 rfl (lv_at hl 2 rfl) ?_
  refine S_getI (v := (G.1 66 20)) (C := RX12) (T := TX12) (N := 89) hx hb hg iX12 hown hK hW kd_66 rfl 20 (lt_b rfl) (hg (Cond.fieldLink RX12 299 "SlabWalkModel" "opens" "I") m1334) (fun _ h9 => h9) rfl ((hq_3.i9 66 20 rfl rfl).trans (rfl)) dX12_hasBracket_6 ?_
  refine lv_icmp_ge (tgt := 39) hx hb dX12_hasBracket_9 rfl (fun c_16 => ?_) (fun c_16 => ?_)
  · have c_16 : (G.1 66 20).toInt ≤ x_6.toInt := xI_le rfl rfl c_16
    have u_17 := bk_all (G := G) (x := x_6) (by omega) (by omega)
    refine lv_iload_n hx hb dX12_hasBracket_39 rfl (lv_at hl 1 rfl) ?_
    exact W.zret (v := x_7) hx hb hr (nar_z ((by first | exact f_12.1 | omega)) ((by first | exact f_12.2 | omega))) (fun t ht _ => ⟨⟨x_7, G_2, rfl, (Q_hasBracket_mk ⟨hB_G_2, hF, ⟨(by first | exact f_12.1 | omega), (by first | exact f_12.2 | omega)⟩, (by omega), ⟨x_6, x_7, G_2, hX_8, f_11, f_12, f_13, f_14, hB_G_2, hq_3, ⟨c_16, ⟨rfl, rfl⟩⟩⟩⟩), wd_t ht hW⟩, hS.F ht⟩) hS.2.2 dX12_hasBracket_40
  · have c_16 : x_6.toInt < (G.1 66 20).toInt := xI_nle rfl rfl c_16
    refine lv_iload_n hx hb dX12_hasBracket_12 rfl (lv_at hl 1 rfl) ?_
    refine lv_if_ne (tgt := 27) hx hb dX12_hasBracket_13 rfl (fun c_18 => ?_) (fun c_18 => ?_)
    · have c_18 : x_7.toInt ≠ 0 := xI_ne rfl rfl c_18
      refine ic_1 hx hb dX12_hasBracket_27 ?_
      refine lv_goto (tgt := 32) hx hb dX12_hasBracket_28 rfl ?_
      refine lv_istore_n (lv' := [(1, .int 1), (2, .int x_6), (0, .ref (a 66))]) hx hb dX12_hasBracket_32 rfl hl (lt_b rfl) rfl (fun ls hl => ?_)
      have u_19 := bk_mono (G.1 75) x_6.toInt
      obtain ⟨y_20, ey_20⟩ : ∃ q, q = x_6 + 1 := ⟨_, rfl⟩
      have ty_20 : y_20.toInt = x_6.toInt + 1 := xI_add rfl rfl ey_20 ((by first | exact ok_21 f_11.1 | omega)) ((by first | exact ok_778 f_11.2 | omega))
      refine lv_iinc (v := y_20) (lv' := [(2, .int y_20), (1, .int 1), (0, .ref (a 66))]) hx hb dX12_hasBracket_33 hl (k := 1) rfl (by rw [ey_20]; rfl) (lt_b rfl) rfl (fun ls hl => ?_)
      have u_21 : bkI (G.1 75) y_20.toInt = bkI (G.1 75) (x_6.toInt + 1) := by rw [ty_20]
      refine lv_goto (tgt := 4) hx hb dX12_hasBracket_36 rfl ?_
      have qc_22 : (1 : Int32).toInt = 1 := rfl
      exact ih_4 (160 - y_20.toInt : Int).toNat (by omega) _ _ _ ⟨G_2, y_20, 1, (Int.toNat_of_nonneg ((by first | exact ok_779 b_9.2 f_11.2 c_16 ty_20 | omega))), ⟨(by first | exact ok_23 f_11.1 ty_20 | omega), (by first | exact ok_780 b_9.2 f_11.2 c_16 ty_20 | omega)⟩, ⟨(by decide), (by decide)⟩, (by omega), ((by first | exact ok_738 c_16 ty_20 | omega)), (hX_8.st (St_n_hasBracket_1_mk ⟨x_6, x_7, G_2, y_20, 1, G_2, rfl, rfl, f_11, f_12, f_13, f_14, hB_G_2, ⟨c_16, (Or.inr ⟨c_18, ⟨y_20, ty_20, ⟨rfl, rfl, rfl⟩⟩⟩)⟩⟩)), hW, hB_G_2, hF, (Fr.call9 (rs := []) (fs := []) Fr.rf hq_3 rfl rfl), hS, lv_sub hl [0, 1, 2] rfl⟩
    · have c_18 : x_7.toInt = 0 := xI_eq rfl rfl c_18
      refine lv_aload_n hx hb dX12_hasBracket_16 rfl (lv_at hl 2 rfl) ?_
      refine S_getR (n := 75) (C := RX12) (T := TX12) (N := 89) hx hb hg iX12 hown hK hW kd_66 rfl 17 (lt_b rfl) (hg (Cond.fieldLink RX12 39 "SlabWalkModel" "open" "[I") m1331) (fun _ h9 => h9) rfl dX12_hasBracket_17 ?_
      refine lv_iload_n hx hb dX12_hasBracket_20 rfl (lv_at hl 0 rfl) ?_
      refine S_iald hx hb hK hW kd_75 (vin ((by first | exact f_11.1 | omega)) ((by first | exact ok_781 b_9.2 f_11.2 c_16 | omega))) dX12_hasBracket_21 (fun y_23 ey_23 => ?_)
      have u_24 : y_23.toInt = (G.1 75 x_6.toNatClampNeg).toInt := congrArg Int32.toInt (ey_23.trans ((hq_3.ri9 75 rfl x_6.toNatClampNeg)))
      have u_25 := bk_step (f := G.1 75) (x := x_6) (y := y_23) (by omega) (by omega)
      refine lv_bipush (v := 20) hx hb dX12_hasBracket_22 (by decide) ?_
      refine lv_icmp_ne (tgt := 31) hx hb dX12_hasBracket_24 rfl (fun c_26 => ?_) (fun c_26 => ?_)
      · have c_26 : y_23.toInt ≠ 20 := xI_ne rfl rfl c_26
        refine ic_0 hx hb dX12_hasBracket_31 ?_
        refine lv_istore_n (lv' := [(1, .int 0), (2, .int x_6), (0, .ref (a 66))]) hx hb dX12_hasBracket_32 rfl hl (lt_b rfl) rfl (fun ls hl => ?_)
        have u_27 := bk_mono (G.1 75) x_6.toInt
        obtain ⟨y_28, ey_28⟩ : ∃ q, q = x_6 + 1 := ⟨_, rfl⟩
        have ty_28 : y_28.toInt = x_6.toInt + 1 := xI_add rfl rfl ey_28 ((by first | exact ok_21 f_11.1 | omega)) ((by first | exact ok_778 f_11.2 | omega))
        refine lv_iinc (v := y_28) (lv' := [(2, .int y_28), (1, .int 0), (0, .ref (a 66))]) hx hb dX12_hasBracket_33 hl (k := 1) rfl (by rw [ey_28]; rfl) (lt_b rfl) rfl (fun ls hl => ?_)
        have u_29 : bkI (G.1 75) y_28.toInt = bkI (G.1 75) (x_6.toInt + 1) := by rw [ty_28]
        refine lv_goto (tgt := 4) hx hb dX12_hasBracket_36 rfl ?_
        have qc_30 : (0 : Int32).toInt = 0 := rfl
        exact ih_4 (160 - y_28.toInt : Int).toNat (by omega) _ _ _ ⟨G_2, y_28, 0, (Int.toNat_of_nonneg ((by first | exact ok_779 b_9.2 f_11.2 c_16 ty_28 | omega))), ⟨(by first | exact ok_23 f_11.1 ty_28 | omega), (by first | exact ok_780 b_9.2 f_11.2 c_16 ty_28 | omega)⟩, ⟨(by decide), (by decide)⟩, (by omega), ((by first | exact ok_738 c_16 ty_28 | omega)), (hX_8.st (St_n_hasBracket_1_mk ⟨x_6, x_7, G_2, y_28, 0, G_2, rfl, rfl, f_11, f_12, f_13, f_14, hB_G_2, ⟨c_16, (Or.inl ⟨c_18, ⟨y_23, ey_23, (Or.inr ⟨c_26, ⟨y_28, ty_28, ⟨rfl, rfl, rfl⟩⟩⟩)⟩⟩)⟩⟩)), hW, hB_G_2, hF, (Fr.call9 (rs := []) (fs := []) Fr.rf hq_3 rfl rfl), hS, lv_sub hl [0, 1, 2] rfl⟩
      · have c_26 : y_23.toInt = 20 := xI_eq rfl rfl c_26
        refine ic_1 hx hb dX12_hasBracket_27 ?_
        refine lv_goto (tgt := 32) hx hb dX12_hasBracket_28 rfl ?_
        refine lv_istore_n (lv' := [(1, .int 1), (2, .int x_6), (0, .ref (a 66))]) hx hb dX12_hasBracket_32 rfl hl (lt_b rfl) rfl (fun ls hl => ?_)
        have u_31 := bk_mono (G.1 75) x_6.toInt
        obtain ⟨y_32, ey_32⟩ : ∃ q, q = x_6 + 1 := ⟨_, rfl⟩
        have ty_32 : y_32.toInt = x_6.toInt + 1 := xI_add rfl rfl ey_32 ((by first | exact ok_21 f_11.1 | omega)) ((by first | exact ok_778 f_11.2 | omega))
        refine lv_iinc (v := y_32) (lv' := [(2, .int y_32), (1, .int 1), (0, .ref (a 66))]) hx hb dX12_hasBracket_33 hl (k := 1) rfl (by rw [ey_32]; rfl) (lt_b rfl) rfl (fun ls hl => ?_)
        have u_33 : bkI (G.1 75) y_32.toInt = bkI (G.1 75) (x_6.toInt + 1) := by rw [ty_32]
        refine lv_goto (tgt := 4) hx hb dX12_hasBracket_36 rfl ?_
        have qc_34 : (1 : Int32).toInt = 1 := rfl
        exact ih_4 (160 - y_32.toInt : Int).toNat (by omega) _ _ _ ⟨G_2, y_32, 1, (Int.toNat_of_nonneg ((by first | exact ok_779 b_9.2 f_11.2 c_16 ty_32 | omega))), ⟨(by first | exact ok_23 f_11.1 ty_32 | omega), (by first | exact ok_780 b_9.2 f_11.2 c_16 ty_32 | omega)⟩, ⟨(by decide), (by decide)⟩, (by omega), ((by first | exact ok_738 c_16 ty_32 | omega)), (hX_8.st (St_n_hasBracket_1_mk ⟨x_6, x_7, G_2, y_32, 1, G_2, rfl, rfl, f_11, f_12, f_13, f_14, hB_G_2, ⟨c_16, (Or.inl ⟨c_18, ⟨y_23, ey_23, (Or.inl ⟨c_26, ⟨y_32, ty_32, ⟨rfl, rfl, rfl⟩⟩⟩)⟩⟩)⟩⟩)), hW, hB_G_2, hF, (Fr.call9 (rs := []) (fs := []) Fr.rf hq_3 rfl rfl), hS, lv_sub hl [0, 1, 2] rfl⟩

set_option maxHeartbeats 4000000 in
set_option maxRecDepth 100000 in
theorem n_add (l : Launch) (D : va_G) (k : KT) (A : Nat → Prop) (a : Nat → Nat) (z : SK) (G : GS) (p0 : Int32) (p1 : Int32) (ha_p0 : 0 ≤ p0.toInt ∧ p0.toInt ≤ 3) (hgm9 : gM G ≤ 319) : Met l yX12_add (WS yX12_add cX12_add 3 none) ({ frames := 0, cells := 0, slots := 0, locals := 0 }) (va_Pc [.ref (a 66), .int p0, .int p1] (cW D k A a z G)) (va_Qv (fun (G1 : GS) => Q_add p0 p1 G G1) (fun (G1 : GS) t => Wd D k A a G1 t.heap) A) 0 0 A := by
  refine Met.ofW (cc := cX12_add) (maxL := 3) (ret := none) (by decide) rfl ?_
  intro p e s m args below meth c s₁ B hml hv
  obtain ⟨rfl, hW, hB_G, hK, hZ⟩ := hv
  have hx := B.exec
  have hb := B.bytes
  have hr := B.returns
  have hts := atoms_spec (ws := WS yX12_add cX12_add 3 none) B.pre
  have hgd : ∀ w ∈ gd, w ∈ WS yX12_add cX12_add 3 none := fun w h => List.mem_cons_of_mem _ h
  have hg : ∀ w ∈ gd, w.before _ s = true := fun w h => hts w (hgd w h)
  have hown : s.vm.findClass RX12 = some m.cls := findClass_of_methodNamed B.named
  have hS : va_S A s.heap s.heap [] := va_S.rf
  have hF : Fr [69, 70, 71] [] G G := Fr.rf
  have hl := lv_entry ([.ref (a 66), .int p0, .int p1]) (n := 3) (Nat.le_of_ble_eq_true rfl)
  rw [lg_entry_eq]
  generalize (lg_sl ([.ref (a 66), .int p0, .int p1]) ++ List.replicate (3 - (lg_sl ([.ref (a 66), .int p0, .int p1])).length) Slot.unset).toArray = ls at hl ⊢
  have hl : lv_has ls 3 [(0, .ref (a 66)), (1, .int p0), (2, .int p1)] := hl
  have hgm : gM G = (G.1 71 (G.1 66 19).toNatClampNeg).toInt := rfl
  refine lv_aload_n hx hb dX12_add_0 rfl (lv_at hl 0 rfl) ?_
  refine S_getR (n := 69) (C := RX12) (T := TX12) (N := 89) hx hb hg iX12 hown hK hW kd_66 rfl 11 (lt_b rfl) (hg (Cond.fieldLink RX12 21 "SlabWalkModel" "nStep" "[I") m1325) (fun _ h9 => h9) rfl dX12_add_1 ?_
  refine lv_sipush (v := 320) hx hb dX12_add_4 (by decide) ?_
  refine lv_aload_n hx hb dX12_add_7 rfl (lv_at hl 0 rfl) ?_
  have b_1 : 0 ≤ (G.1 66 19).toInt ∧ (G.1 66 19).toInt ≤ 5 := bd_66_19 hB_G
  refine S_getI (v := (G.1 66 19)) (C := RX12) (T := TX12) (N := 89) hx hb hg iX12 hown hK hW kd_66 rfl 19 (lt_b rfl) (hg (Cond.fieldLink RX12 296 "SlabWalkModel" "form" "I") m1333) (fun _ h9 => h9) rfl rfl dX12_add_8 ?_
  refine lv_imul hx hb dX12_add_11 ?_
  refine lv_topi (fun y_2 ey_2 => ?_)
  have ty_2 : y_2.toInt = 320 * (G.1 66 19).toInt := xI_mul rfl rfl ey_2 ((by first | exact ok_782 b_1.1 | omega)) ((by first | exact ok_783 b_1.2 | omega))
  refine lv_aload_n hx hb dX12_add_12 rfl (lv_at hl 0 rfl) ?_
  refine S_getR (n := 71) (C := RX12) (T := TX12) (N := 89) hx hb hg iX12 hown hK hW kd_66 rfl 13 (lt_b rfl) (hg (Cond.fieldLink RX12 27 "SlabWalkModel" "nMany" "[I") m1327) (fun _ h9 => h9) rfl dX12_add_13 ?_
  refine lv_aload_n hx hb dX12_add_16 rfl (lv_at hl 0 rfl) ?_
  refine S_getI (v := (G.1 66 19)) (C := RX12) (T := TX12) (N := 89) hx hb hg iX12 hown hK hW kd_66 rfl 19 (lt_b rfl) (hg (Cond.fieldLink RX12 296 "SlabWalkModel" "form" "I") m1333) (fun _ h9 => h9) rfl rfl dX12_add_17 ?_
  refine S_iald hx hb hK hW kd_71 (vin ((by first | exact b_1.1 | omega)) ((by first | exact ok_398 b_1.2 | omega))) dX12_add_20 (fun y_3 ey_3 => ?_)
  have ty_3 : 0 ≤ y_3.toInt ∧ y_3.toInt ≤ 320 := bv_71 hB_G ey_3
  have u_4 : y_3.toInt = (G.1 71 (G.1 66 19).toNatClampNeg).toInt := congrArg Int32.toInt (ey_3)
  refine lv_iadd hx hb dX12_add_21 ?_
  refine lv_topi (fun y_5 ey_5 => ?_)
  have ty_5 : y_5.toInt = y_2.toInt + y_3.toInt := xI_add rfl rfl ey_5 ((by first | exact ok_784 b_1.1 ty_2 ty_3.1 | omega)) ((by first | exact ok_785 b_1.2 ty_2 ty_3.2 | omega))
  refine lv_iload_n hx hb dX12_add_22 rfl (lv_at hl 1 rfl) ?_
  refine S_iast hx hb hK hW hS kd_69 (vin ((by first | exact ok_786 b_1.1 ty_2 ty_3.1 ty_5 | omega)) ((by first | exact ok_787 hgm9 hgm b_1.2 ty_2 ty_3.2 u_4 ty_5 | omega))) dX12_add_23 (fun G_6 H locs eG_6 hW hS => ?_)
  have hB_G_6 : Bd G_6 := hB_G.put (lo := (-2147483648)) (hi := 2147483647) eG_6 rfl rfl rfl (tI_rng _).1 (tI_rng _).2 (hB_G.2.put eG_6 rfl)
  have hF := hF.put eG_6 (Or.inl (by decide))
  refine lv_aload_n hx hb dX12_add_24 rfl (lv_at hl 0 rfl) ?_
  refine S_getR (n := 70) (C := RX12) (T := TX12) (N := 89) hx hb hg iX12 hown hK hW kd_66 rfl 12 (lt_b rfl) (hg (Cond.fieldLink RX12 24 "SlabWalkModel" "nArg" "[I") m1326) (fun _ h9 => h9) rfl dX12_add_25 ?_
  refine lv_sipush (v := 320) hx hb dX12_add_28 (by decide) ?_
  refine lv_aload_n hx hb dX12_add_31 rfl (lv_at hl 0 rfl) ?_
  refine S_getI (v := (G.1 66 19)) (C := RX12) (T := TX12) (N := 89) hx hb hg iX12 hown hK hW kd_66 rfl 19 (lt_b rfl) (hg (Cond.fieldLink RX12 296 "SlabWalkModel" "form" "I") m1333) (fun _ h9 => h9) rfl ((gp_ne eG_6 (fun q => absurd q.1 (Nat.ne_of_beq_eq_false rfl))).trans (rfl)) dX12_add_32 ?_
  refine lv_imul hx hb dX12_add_35 ?_
  refine lv_topi (fun y_7 ey_7 => ?_)
  have ty_7 : y_7.toInt = 320 * (G.1 66 19).toInt := xI_mul rfl rfl ey_7 ((by first | exact ok_782 b_1.1 | omega)) ((by first | exact ok_783 b_1.2 | omega))
  refine lv_aload_n hx hb dX12_add_36 rfl (lv_at hl 0 rfl) ?_
  refine S_getR (n := 71) (C := RX12) (T := TX12) (N := 89) hx hb hg iX12 hown hK hW kd_66 rfl 13 (lt_b rfl) (hg (Cond.fieldLink RX12 27 "SlabWalkModel" "nMany" "[I") m1327) (fun _ h9 => h9) rfl dX12_add_37 ?_
  refine lv_aload_n hx hb dX12_add_40 rfl (lv_at hl 0 rfl) ?_
  refine S_getI (v := (G.1 66 19)) (C := RX12) (T := TX12) (N := 89) hx hb hg iX12 hown hK hW kd_66 rfl 19 (lt_b rfl) (hg (Cond.fieldLink RX12 296 "SlabWalkModel" "form" "I") m1333) (fun _ h9 => h9) rfl ((gp_ne eG_6 (fun q => absurd q.1 (Nat.ne_of_beq_eq_false rfl))).trans (rfl)) dX12_add_41 ?_
  refine S_iald hx hb hK hW kd_71 (vin ((by first | exact b_1.1 | omega)) ((by first | exact ok_398 b_1.2 | omega))) dX12_add_44 (fun y_8 ey_8 => ?_)
  have ty_8 : 0 ≤ y_8.toInt ∧ y_8.toInt ≤ 320 := bv_71 hB_G_6 ey_8
  have u_9 : y_8.toInt = y_3.toInt := congrArg Int32.toInt (ey_8.trans (((gp_ne eG_6 (fun q => absurd q.1 (Nat.ne_of_beq_eq_false rfl))).trans (ey_3.symm))))
  refine lv_iadd hx hb dX12_add_45 ?_
  refine lv_topi (fun y_10 ey_10 => ?_)
  have ty_10 : y_10.toInt = y_7.toInt + y_8.toInt := xI_add rfl rfl ey_10 ((by first | exact ok_784 b_1.1 ty_7 ty_8.1 | omega)) ((by first | exact ok_785 b_1.2 ty_7 ty_8.2 | omega))
  refine lv_iload_n hx hb dX12_add_46 rfl (lv_at hl 2 rfl) ?_
  refine S_iast hx hb hK hW hS kd_70 (vin ((by first | exact ok_786 b_1.1 ty_7 ty_8.1 ty_10 | omega)) ((by first | exact ok_788 hgm9 hgm b_1.2 u_4 ty_7 ty_8.2 u_9 ty_10 | omega))) dX12_add_47 (fun G_11 H locs eG_11 hW hS => ?_)
  have hB_G_11 : Bd G_11 := hB_G_6.put (lo := (-2147483648)) (hi := 2147483647) eG_11 rfl rfl rfl (tI_rng _).1 (tI_rng _).2 (hB_G_6.2.put eG_11 rfl)
  have hF := hF.put eG_11 (Or.inl (by decide))
  refine lv_aload_n hx hb dX12_add_48 rfl (lv_at hl 0 rfl) ?_
  refine S_getR (n := 71) (C := RX12) (T := TX12) (N := 89) hx hb hg iX12 hown hK hW kd_66 rfl 13 (lt_b rfl) (hg (Cond.fieldLink RX12 27 "SlabWalkModel" "nMany" "[I") m1327) (fun _ h9 => h9) rfl dX12_add_49 ?_
  refine lv_aload_n hx hb dX12_add_52 rfl (lv_at hl 0 rfl) ?_
  refine S_getI (v := (G.1 66 19)) (C := RX12) (T := TX12) (N := 89) hx hb hg iX12 hown hK hW kd_66 rfl 19 (lt_b rfl) (hg (Cond.fieldLink RX12 296 "SlabWalkModel" "form" "I") m1333) (fun _ h9 => h9) rfl ((gp_ne eG_11 (fun q => absurd q.1 (Nat.ne_of_beq_eq_false rfl))).trans ((gp_ne eG_6 (fun q => absurd q.1 (Nat.ne_of_beq_eq_false rfl))).trans (rfl))) dX12_add_53 ?_
  refine lv_dup2_11 hx hb dX12_add_56 rfl rfl ?_
  refine S_iald hx hb hK hW kd_71 (vin ((by first | exact b_1.1 | omega)) ((by first | exact ok_398 b_1.2 | omega))) dX12_add_57 (fun y_12 ey_12 => ?_)
  have ty_12 : 0 ≤ y_12.toInt ∧ y_12.toInt ≤ 320 := bv_71 hB_G_11 ey_12
  have u_13 : y_12.toInt = y_8.toInt := congrArg Int32.toInt (ey_12.trans (((gp_ne eG_11 (fun q => absurd q.1 (Nat.ne_of_beq_eq_false rfl))).trans (ey_8.symm))))
  refine ic_1 hx hb dX12_add_58 ?_
  refine lv_iadd hx hb dX12_add_59 ?_
  refine lv_topi (fun y_14 ey_14 => ?_)
  have ty_14 : y_14.toInt = y_12.toInt + 1 := xI_add rfl rfl ey_14 ((by first | exact ok_21 ty_12.1 | omega)) ((by first | exact ok_789 ty_12.2 | omega))
  refine S_iast hx hb hK hW hS kd_71 (vin ((by first | exact b_1.1 | omega)) ((by first | exact ok_398 b_1.2 | omega))) dX12_add_60 (fun G_15 H locs eG_15 hW hS => ?_)
  have hB_G_15 : Bd G_15 := hB_G_11.put (V := y_14.toInt) (lo := 0) (hi := 320) eG_15 rfl rfl rfl ((by first | exact ok_23 ty_12.1 ty_14 | omega)) ((by first | exact ok_790 hgm9 hgm u_4 u_9 ty_12.2 u_13 ty_14 | omega)) (hB_G_11.2.put eG_15 rfl)
  have hF := hF.put eG_15 (Or.inl (by decide))
  exact W.vret hx hb hr (fun t ht _ => ⟨⟨G_15, rfl, (Q_add_mk ⟨hB_G_15, hF, (add_gh hB_G ((gp_ne eG_15 (fun q => absurd q.1 (Nat.ne_of_beq_eq_false rfl))).trans ((gp_ne eG_11 (fun q => absurd q.1 (Nat.ne_of_beq_eq_false rfl))).trans ((gp_ne eG_6 (fun q => absurd q.1 (Nat.ne_of_beq_eq_false rfl))).trans (rfl)))) ha_p0.1 ha_p0.2 hgm9 (x := y_5) (by omega) (fun j hj => ((gp_ne eG_15 (fun q => absurd q.1 (Nat.ne_of_beq_eq_false rfl))).trans ((gp_ne eG_11 (fun q => absurd q.1 (Nat.ne_of_beq_eq_false rfl))).trans (gp_ne eG_6 (fun q => hj q.2))))) ((gp_ne eG_15 (fun q => absurd q.1 (Nat.ne_of_beq_eq_false rfl))).trans ((gp_ne eG_11 (fun q => absurd q.1 (Nat.ne_of_beq_eq_false rfl))).trans (gp_eq eG_6))) (fun j hj => ((gp_ne eG_15 (fun q => hj q.2)).trans ((gp_ne eG_11 (fun q => absurd q.1 (Nat.ne_of_beq_eq_false rfl))).trans (gp_ne eG_6 (fun q => absurd q.1 (Nat.ne_of_beq_eq_false rfl)))))) (by rw [show G_15.1 71 (G.1 66 19).toNatClampNeg = y_14 from (gp_eq eG_15)]; omega)), ⟨y_2, ty_2, ⟨y_3, ey_3, ⟨y_5, ty_5, ⟨y_7, ty_7, ⟨y_8, ey_8.trans (congrFun (rw_put eG_6 (by decide)) _), ⟨y_10, ty_10, ⟨y_12, ey_12.trans (congrFun ((rw_put eG_11 (by decide)).trans (rw_put eG_6 (by decide))) _), ⟨y_14, ty_14, ⟨(Fr.put (rs := [69, 70, 71]) (fs := []) (Fr.put (rs := [69, 70, 71]) (fs := []) (Fr.put (rs := [69, 70, 71]) (fs := []) Fr.rf eG_6 (Or.inl (by decide))) eG_11 (Or.inl (by decide))) eG_15 (Or.inl (by decide))), (rw_put eG_15 (by decide)).trans ((rw_put eG_11 (by decide)).trans (rw_ast eG_6)), (rw_put eG_15 (by decide)).trans ((rw_ast eG_11).trans (congrArg (fun q => upd q (y_10.toNatClampNeg) p1) (rw_put eG_6 (by decide)))), (rw_ast eG_15).trans (congrArg (fun q => upd q ((G.1 66 19).toNatClampNeg) y_14) ((rw_put eG_11 (by decide)).trans (rw_put eG_6 (by decide))))⟩⟩⟩⟩⟩⟩⟩⟩⟩⟩), wd_t ht hW⟩, hS.F ht⟩) hS.2.2 dX12_add_61

set_option maxHeartbeats 4000000 in
set_option maxRecDepth 100000 in
theorem n_close (l : Launch) (D : va_G) (k : KT) (A : Nat → Prop) (a : Nat → Nat) (z : SK) (G : GS) (p0 : Int32) (hcl : gC G = 1 ∧ gD G = gB G + 1 ∧ (G.1 66 24).toInt = (G.1 66 20).toInt - gB G ∧ gM G + (G.1 66 20).toInt ≤ 310 ∧ gD G ≤ 40) : Met l yX12_close (WS yX12_close cX12_close 2 none) ({ frames := 1, cells := 0, slots := 0, locals := 22 }) (va_Pc [.ref (a 66), .int p0] (cW D k A a z G)) (va_Qv (fun (G1 : GS) => Q_close p0 G G1) (fun (G1 : GS) t => Wd D k A a G1 t.heap) A) 0 0 A := by
  refine Met.ofW (cc := cX12_close) (maxL := 2) (ret := none) (by decide) rfl ?_
  intro p e s m args below meth c s₁ B hml hv
  obtain ⟨rfl, hW, hB_G, hK, hZ⟩ := hv
  have hx := B.exec
  have hb := B.bytes
  have hr := B.returns
  have hts := atoms_spec (ws := WS yX12_close cX12_close 2 none) B.pre
  have hgd : ∀ w ∈ gd, w ∈ WS yX12_close cX12_close 2 none := fun w h => List.mem_cons_of_mem _ h
  have hg : ∀ w ∈ gd, w.before _ s = true := fun w h => hts w (hgd w h)
  have hown : s.vm.findClass RX12 = some m.cls := findClass_of_methodNamed B.named
  have hS : va_S A s.heap s.heap [] := va_S.rf
  have hF : Fr [69, 70, 71] [(66, 20), (66, 24)] G G := Fr.rf
  have hl := lv_entry ([.ref (a 66), .int p0]) (n := 2) (Nat.le_of_ble_eq_true rfl)
  rw [lg_entry_eq]
  generalize (lg_sl ([.ref (a 66), .int p0]) ++ List.replicate (2 - (lg_sl ([.ref (a 66), .int p0])).length) Slot.unset).toArray = ls at hl ⊢
  have hl : lv_has ls 2 [(0, .ref (a 66)), (1, .int p0)] := hl
  have b_6 : 0 ≤ (G.1 66 20).toInt ∧ (G.1 66 20).toInt ≤ 160 := bd_66_20 hB_G
  have b_7 : (-1) ≤ (G.1 66 24).toInt ∧ (G.1 66 24).toInt ≤ 200 := bd_66_24 hB_G
  refine loop_N (Inv := fun n H locs ls => ∃ (G_1 : GS), (n : Int) = (G_1.1 66 20).toInt ∧ (gC G_1 = 1) ∧ (gD G_1 = gB G_1 + 1) ∧ ((G_1.1 66 24).toInt = (G_1.1 66 20).toInt - gB G_1) ∧ (gM G_1 + (G_1.1 66 20).toInt = gM G + (G.1 66 20).toInt) ∧ (gK G_1 = gK G) ∧ ((G_1.1 66 20).toInt ≤ (G.1 66 20).toInt) ∧ (gD G_1 ≤ gD G) ∧ ((G_1.1 66 24).toInt ≤ (G.1 66 24).toInt) ∧ Rc (St_n_close_1 p0 G) G G_1 ∧ Wd D k A a G_1 H ∧ Bd G_1 ∧ Fr [69, 70, 71] [(66, 20), (66, 24)] G G_1 ∧ Fr [69, 70, 71] [(66, 20), (66, 24)] G G_1 ∧ va_S A s.heap H locs ∧ lv_has ls 2 [(0, .ref (a 66)), (1, .int p0)]) (fun n_4 H locs ls ih_3 hI => ?_) ((G.1 66 20).toInt : Int).toNat ⟨G, (Int.toNat_of_nonneg ((by first | exact b_6.1 | omega))), ((by first | exact hcl.1 | omega)), ((by first | exact hcl.2.1 | omega)), ((by first | exact hcl.2.2.1 | omega)), ((by first | exact ok_791 | omega)), ((by first | exact ok_495 | omega)), ((by first | exact ok_572 | omega)), ((by first | exact ok_572 | omega)), ((by first | exact ok_572 | omega)), Rc.rf, hW, hB_G, hF, Fr.rf, hS, lv_sub hl [0, 1] rfl⟩
  obtain ⟨G_1, hn_16, f_8, f_9, f_10, f_11, f_12, f_13, f_14, f_15, hX_5, hW, hB_G_1, hF, hq_2, hS, hl⟩ := hI
  have b_17 : 0 ≤ (G_1.1 66 20).toInt ∧ (G_1.1 66 20).toInt ≤ 160 := bd_66_20 hB_G_1
  have b_18 : (-1) ≤ (G_1.1 66 24).toInt ∧ (G_1.1 66 24).toInt ≤ 200 := bd_66_24 hB_G_1
  have u_19 := gh_pos (G := G_1) ((by first | exact b_17.1 | omega))
  refine lv_aload_n hx hb dX12_close_0 rfl (lv_at hl 0 rfl) ?_
  refine S_getI (v := (G_1.1 66 20)) (C := RX12) (T := TX12) (N := 89) hx hb hg iX12 hown hK hW kd_66 rfl 20 (lt_b rfl) (hg (Cond.fieldLink RX12 299 "SlabWalkModel" "opens" "I") m1334) (fun _ h9 => h9) rfl rfl dX12_close_1 ?_
  refine lv_if_le (tgt := 101) hx hb dX12_close_4 rfl (fun c_20 => ?_) (fun c_20 => ?_)
  · have c_20 : (G_1.1 66 20).toInt ≤ 0 := xI_le rfl rfl c_20
    exact W.vret hx hb hr (fun t ht _ => ⟨⟨G_1, rfl, (Q_close_mk ⟨hB_G_1, hF, ((by first | exact ⟨(by first | exact f_8 | omega), ⟨(by first | exact f_9 | omega), ⟨(by first | exact f_10 | omega), ⟨(by first | exact f_11 | omega), ⟨(by first | exact f_12 | omega), ⟨(by first | exact f_13 | omega), ⟨(by first | exact f_14 | omega), ⟨(by first | exact f_15 | omega), (by first | exact ok_792 b_17.1 c_20 | omega)⟩⟩⟩⟩⟩⟩⟩⟩ | omega)), ⟨G_1, hX_5, f_8, f_9, f_10, f_11, f_12, f_13, f_14, f_15, hB_G_1, hq_2, (Or.inl ⟨c_20, rfl⟩)⟩⟩), wd_t ht hW⟩, hS.F ht⟩) hS.2.2 dX12_close_101
  · have c_20 : 0 < (G_1.1 66 20).toInt := xI_nle rfl rfl c_20
    refine lv_aload_n hx hb dX12_close_7 rfl (lv_at hl 0 rfl) ?_
    refine S_getR (n := 75) (C := RX12) (T := TX12) (N := 89) hx hb hg iX12 hown hK hW kd_66 rfl 17 (lt_b rfl) (hg (Cond.fieldLink RX12 39 "SlabWalkModel" "open" "[I") m1331) (fun _ h9 => h9) rfl dX12_close_8 ?_
    refine lv_aload_n hx hb dX12_close_11 rfl (lv_at hl 0 rfl) ?_
    refine S_getI (v := (G_1.1 66 20)) (C := RX12) (T := TX12) (N := 89) hx hb hg iX12 hown hK hW kd_66 rfl 20 (lt_b rfl) (hg (Cond.fieldLink RX12 299 "SlabWalkModel" "opens" "I") m1334) (fun _ h9 => h9) rfl rfl dX12_close_12 ?_
    refine ic_1 hx hb dX12_close_15 ?_
    refine lv_isub hx hb dX12_close_16 ?_
    refine lv_topi (fun y_21 ey_21 => ?_)
    have ty_21 : y_21.toInt = (G_1.1 66 20).toInt - 1 := xI_sub rfl rfl ey_21 ((by first | exact ok_137 c_20 | omega)) ((by first | exact ok_793 b_17.2 | omega))
    refine S_iald hx hb hK hW kd_75 (vin ((by first | exact ok_139 c_20 ty_21 | omega)) ((by first | exact ok_794 b_17.2 ty_21 | omega))) dX12_close_17 (fun y_22 ey_22 => ?_)
    have u_23 : gT G_1 = y_22.toInt := gT_at ey_22 ((by first | exact ty_21 | omega)) ((by first | exact ok_139 c_20 ty_21 | omega))
    refine lv_bipush (v := 20) hx hb dX12_close_18 (by decide) ?_
    refine lv_icmp_eq (tgt := 101) hx hb dX12_close_20 rfl (fun c_24 => ?_) (fun c_24 => ?_)
    · have c_24 : y_22.toInt = 20 := xI_eq rfl rfl c_24
      exact W.vret hx hb hr (fun t ht _ => ⟨⟨G_1, rfl, (Q_close_mk ⟨hB_G_1, hF, ((by first | exact ⟨(by first | exact f_8 | omega), ⟨(by first | exact f_9 | omega), ⟨(by first | exact f_10 | omega), ⟨(by first | exact f_11 | omega), ⟨(by first | exact f_12 | omega), ⟨(by first | exact f_13 | omega), ⟨(by first | exact f_14 | omega), ⟨(by first | exact f_15 | omega), (by first | exact ok_795 u_23 c_24 | omega)⟩⟩⟩⟩⟩⟩⟩⟩ | omega)), ⟨G_1, hX_5, f_8, f_9, f_10, f_11, f_12, f_13, f_14, f_15, hB_G_1, hq_2, (Or.inr ⟨c_20, ⟨y_21, ty_21, ⟨y_22, ey_22, (Or.inl ⟨c_24, rfl⟩)⟩⟩⟩)⟩⟩), wd_t ht hW⟩, hS.F ht⟩) hS.2.2 dX12_close_101
    · have c_24 : y_22.toInt ≠ 20 := xI_ne rfl rfl c_24
      refine lv_aload_n hx hb dX12_close_23 rfl (lv_at hl 0 rfl) ?_
      refine S_getR (n := 75) (C := RX12) (T := TX12) (N := 89) hx hb hg iX12 hown hK hW kd_66 rfl 17 (lt_b rfl) (hg (Cond.fieldLink RX12 39 "SlabWalkModel" "open" "[I") m1331) (fun _ h9 => h9) rfl dX12_close_24 ?_
      refine lv_aload_n hx hb dX12_close_27 rfl (lv_at hl 0 rfl) ?_
      refine S_getI (v := (G_1.1 66 20)) (C := RX12) (T := TX12) (N := 89) hx hb hg iX12 hown hK hW kd_66 rfl 20 (lt_b rfl) (hg (Cond.fieldLink RX12 299 "SlabWalkModel" "opens" "I") m1334) (fun _ h9 => h9) rfl rfl dX12_close_28 ?_
      refine ic_1 hx hb dX12_close_31 ?_
      refine lv_isub hx hb dX12_close_32 ?_
      refine lv_topi (fun y_25 ey_25 => ?_)
      have ty_25 : y_25.toInt = (G_1.1 66 20).toInt - 1 := xI_sub rfl rfl ey_25 ((by first | exact ok_137 c_20 | omega)) ((by first | exact ok_793 b_17.2 | omega))
      refine S_iald hx hb hK hW kd_75 (vin ((by first | exact ok_139 c_20 ty_25 | omega)) ((by first | exact ok_794 b_17.2 ty_25 | omega))) dX12_close_33 (fun y_26 ey_26 => ?_)
      have u_27 : gT G_1 = y_26.toInt := gT_at ey_26 ((by first | exact ty_25 | omega)) ((by first | exact ok_139 c_20 ty_25 | omega))
      refine S_calli (va_runS (As := [.int y_26]) (rest := []) ⟨hx, hb, hml, hown, hts⟩ (n_tight l D k A a z G_1 y_26 ) (va_cwS 1 hts (gd_S hgd m1722 m1723 m131 m1724) rfl rfl rfl hd_X12_tight.2 ⟨Nat.le_of_ble_eq_true rfl, Nat.le_of_ble_eq_true rfl⟩) (pre_S hW hB_G_1 hK hZ hS) rfl rfl hl.1 rfl (lv_room (Nat.le_of_ble_eq_true rfl)) dX12_close_34 ⟨Nat.le_of_ble_eq_true rfl, Nat.le_of_ble_eq_true rfl⟩) hS (fun r_28 G_29 H locs hpo hW hS => ?_)
      have hX_32 : Q_tight y_26 G_1 r_28 G_29 := hpo
      obtain ⟨hB_G_29, hq_30, f_33, -⟩ := hpo
      have hF := hF.call9 hq_30 rfl rfl
      refine lv_iload_n hx hb dX12_close_37 rfl (lv_at hl 1 rfl) ?_
      refine lv_icmp_lt (tgt := 101) hx hb dX12_close_38 rfl (fun c_34 => ?_) (fun c_34 => ?_)
      · have c_34 : r_28.toInt < p0.toInt := xI_lt rfl rfl c_34
        have fr_35 : Fr [] [] G_1 G_29 := (Fr.call9 (rs := []) (fs := []) Fr.rf hq_30 rfl rfl)
        have g_36 : gB G_29 = gB G_1 := gB_fr fr_35 (gr_q rfl) (gf_q rfl)
        have g_37 : gC G_29 = gC G_1 := gC_fr fr_35 (gr_q rfl) (gf_q rfl)
        have g_38 : gD G_29 = gD G_1 := gD_fr fr_35 (gr_q rfl) (gf_q rfl)
        have g_39 : gK G_29 = gK G_1 := gK_fr fr_35 (gr_q rfl) (gf_q rfl)
        have g_40 : gM G_29 = gM G_1 := gM_fr fr_35 (gr_q rfl) (gf_q rfl)
        have g_41 : gT G_29 = gT G_1 := gT_fr fr_35 (gr_q rfl) (gf_q rfl)
        have g_42 : (G_29.1 66 20).toInt = (G_1.1 66 20).toInt := (congrArg Int32.toInt (show G_29.1 66 20 = (G_1.1 66 20) from ((hq_30.i9 66 20 rfl rfl).trans (rfl))))
        have g_43 : (G_29.1 66 24).toInt = (G_1.1 66 24).toInt := (congrArg Int32.toInt (show G_29.1 66 24 = (G_1.1 66 24) from ((hq_30.i9 66 24 rfl rfl).trans (rfl))))
        exact W.vret hx hb hr (fun t ht _ => ⟨⟨G_29, rfl, (Q_close_mk ⟨hB_G_29, hF, ((by first | exact ⟨(by first | exact ok_796 f_8 g_37 | omega), ⟨(by first | exact ok_797 f_9 g_36 g_38 | omega), ⟨(by first | exact ok_798 f_10 g_36 g_42 g_43 | omega), ⟨(by first | exact ok_799 f_11 g_40 g_42 | omega), ⟨(by first | exact ok_800 f_12 g_39 | omega), ⟨(by first | exact ok_801 f_13 g_42 | omega), ⟨(by first | exact ok_801 f_14 g_38 | omega), ⟨(by first | exact ok_801 f_15 g_43 | omega), (by first | exact ok_802 f_33.1 c_34 | omega)⟩⟩⟩⟩⟩⟩⟩⟩ | omega)), ⟨G_1, hX_5, f_8, f_9, f_10, f_11, f_12, f_13, f_14, f_15, hB_G_1, hq_2, (Or.inr ⟨c_20, ⟨y_21, ty_21, ⟨y_22, ey_22, (Or.inr ⟨c_24, ⟨y_25, ty_25, ⟨y_26, ey_26, ⟨r_28, G_29, hX_32, ⟨c_34, rfl⟩⟩⟩⟩⟩)⟩⟩⟩)⟩⟩), wd_t ht hW⟩, hS.F ht⟩) hS.2.2 dX12_close_101
      · have c_34 : p0.toInt ≤ r_28.toInt := xI_nlt rfl rfl c_34
        have fr_44 : Fr [] [] G_1 G_29 := (Fr.call9 (rs := []) (fs := []) Fr.rf hq_30 rfl rfl)
        have g_45 : gB G_29 = gB G_1 := gB_fr fr_44 (gr_q rfl) (gf_q rfl)
        have g_46 : gC G_29 = gC G_1 := gC_fr fr_44 (gr_q rfl) (gf_q rfl)
        have g_47 : gD G_29 = gD G_1 := gD_fr fr_44 (gr_q rfl) (gf_q rfl)
        have g_48 : gK G_29 = gK G_1 := gK_fr fr_44 (gr_q rfl) (gf_q rfl)
        have g_49 : gM G_29 = gM G_1 := gM_fr fr_44 (gr_q rfl) (gf_q rfl)
        have g_50 : gT G_29 = gT G_1 := gT_fr fr_44 (gr_q rfl) (gf_q rfl)
        have g_51 : (G_29.1 66 20).toInt = (G_1.1 66 20).toInt := (congrArg Int32.toInt (show G_29.1 66 20 = (G_1.1 66 20) from ((hq_30.i9 66 20 rfl rfl).trans (rfl))))
        refine lv_aload_n hx hb dX12_close_41 rfl (lv_at hl 0 rfl) ?_
        refine lv_dup hx hb dX12_close_42 rfl ?_
        refine S_getI (v := (G_1.1 66 20)) (C := RX12) (T := TX12) (N := 89) hx hb hg iX12 hown hK hW kd_66 rfl 20 (lt_b rfl) (hg (Cond.fieldLink RX12 299 "SlabWalkModel" "opens" "I") m1334) (fun _ h9 => h9) rfl ((hq_30.i9 66 20 rfl rfl).trans (rfl)) dX12_close_43 ?_
        refine ic_1 hx hb dX12_close_46 ?_
        refine lv_isub hx hb dX12_close_47 ?_
        refine lv_topi (fun y_52 ey_52 => ?_)
        have ty_52 : y_52.toInt = (G_1.1 66 20).toInt - 1 := xI_sub rfl rfl ey_52 ((by first | exact ok_137 c_20 | omega)) ((by first | exact ok_793 b_17.2 | omega))
        refine S_putI (ty := .int) (C := RX12) (T := TX12) (N := 89) hx hb hg iX12 tyX12 tyX12_ok nmX12 hown hK hW hS kd_66 rfl 20 (lt_b rfl) (hg (Cond.fieldLink RX12 299 "SlabWalkModel" "opens" "I") m1334) (fun _ h9 => h9) rfl (by decide +kernel) rfl rfl rfl dX12_close_48 (fun G_53 H locs eG_53 hW hS => ?_)
        have hB_G_53 : Bd G_53 := hB_G_29.put (V := y_52.toInt) (lo := 0) (hi := 160) eG_53 rfl rfl rfl ((by first | exact ok_139 c_20 ty_52 | omega)) ((by first | exact ok_803 b_17.2 ty_52 | omega)) (hB_G_29.2.put eG_53 rfl)
        have hF := hF.put eG_53 (Or.inr (by decide))
        refine lv_aload_n hx hb dX12_close_51 rfl (lv_at hl 0 rfl) ?_
        refine S_getR (n := 75) (C := RX12) (T := TX12) (N := 89) hx hb hg iX12 hown hK hW kd_66 rfl 17 (lt_b rfl) (hg (Cond.fieldLink RX12 39 "SlabWalkModel" "open" "[I") m1331) (fun _ h9 => h9) rfl dX12_close_52 ?_
        refine lv_aload_n hx hb dX12_close_55 rfl (lv_at hl 0 rfl) ?_
        refine S_getI (v := y_52) (C := RX12) (T := TX12) (N := 89) hx hb hg iX12 hown hK hW kd_66 rfl 20 (lt_b rfl) (hg (Cond.fieldLink RX12 299 "SlabWalkModel" "opens" "I") m1334) (fun _ h9 => h9) rfl (gp_eq eG_53) dX12_close_56 ?_
        refine S_iald hx hb hK hW kd_75 (vin ((by first | exact ok_139 c_20 ty_52 | omega)) ((by first | exact ok_794 b_17.2 ty_52 | omega))) dX12_close_59 (fun y_54 ey_54 => ?_)
        have u_55 : gT G_29 = y_54.toInt := gT_at2 eG_53 ey_54 ((by first | exact ok_804 g_51 ty_52 | omega)) ((by first | exact ok_139 c_20 ty_52 | omega))
        have u_56 : (gT G_29 = 20 ∨ gT G_29 = 21 → gB G_29 = gB G_53) ∧ (gT G_29 ≠ 20 → gT G_29 ≠ 21 → gB G_29 = gB G_53 + 1) ∧ (gT G_29 = 20 → gK G_29 = gK G_53 + 1) ∧ (gT G_29 ≠ 20 → gK G_29 = gK G_53) := gh_pop eG_53 ((by first | exact ok_804 g_51 ty_52 | omega)) ((by first | exact ok_139 c_20 ty_52 | omega))
        have d_1 := u_56.1
        have d_2 := u_56.2.1
        have d_3 := u_56.2.2.1
        have d_4 := u_56.2.2.2
        have g_57 : (G_53.1 66 20).toInt = y_52.toInt := (congrArg Int32.toInt (show G_53.1 66 20 = y_52 from (gp_eq eG_53)))
        have u_58 := gh_pos (G := G_53) ((by first | exact ok_805 c_20 ty_52 g_57 | omega))
        refine lv_bipush (v := 21) hx hb dX12_close_60 (by decide) ?_
        refine lv_icmp_ne (tgt := 84) hx hb dX12_close_62 rfl (fun c_59 => ?_) (fun c_59 => ?_)
        · have c_59 : y_54.toInt ≠ 21 := xI_ne rfl rfl c_59
          refine lv_aload_n hx hb dX12_close_84 rfl (lv_at hl 0 rfl) ?_
          refine ic_3 hx hb dX12_close_85 ?_
          refine lv_aload_n hx hb dX12_close_86 rfl (lv_at hl 0 rfl) ?_
          refine S_getR (n := 75) (C := RX12) (T := TX12) (N := 89) hx hb hg iX12 hown hK hW kd_66 rfl 17 (lt_b rfl) (hg (Cond.fieldLink RX12 39 "SlabWalkModel" "open" "[I") m1331) (fun _ h9 => h9) rfl dX12_close_87 ?_
          refine lv_aload_n hx hb dX12_close_90 rfl (lv_at hl 0 rfl) ?_
          refine S_getI (v := y_52) (C := RX12) (T := TX12) (N := 89) hx hb hg iX12 hown hK hW kd_66 rfl 20 (lt_b rfl) (hg (Cond.fieldLink RX12 299 "SlabWalkModel" "opens" "I") m1334) (fun _ h9 => h9) rfl (gp_eq eG_53) dX12_close_91 ?_
          refine S_iald hx hb hK hW kd_75 (vin ((by first | exact ok_139 c_20 ty_52 | omega)) ((by first | exact ok_794 b_17.2 ty_52 | omega))) dX12_close_94 (fun y_60 ey_60 => ?_)
          have fr_61 : Fr [] [(66, 20)] G_1 G_53 := (Fr.put (rs := []) (fs := [(66, 20)]) (Fr.call9 (rs := []) (fs := [(66, 20)]) Fr.rf hq_30 rfl rfl) eG_53 (Or.inr (by decide)))
          have g_62 : gM G_53 = gM G_1 := gM_fr fr_61 (gr_q rfl) (gf_q rfl)
          have qc_63 : (3 : Int32).toInt = 3 := rfl
          have g_64 : gC G_53 = gC G_1 := gC_fr fr_61 (gr_q rfl) (gf_q rfl)
          have g_65 : gD G_53 = gD G_1 := gD_fr fr_61 (gr_q rfl) (gf_q rfl)
          refine S_callv (va_runV (As := [.int 3, .int y_60]) (rest := []) ⟨hx, hb, hml, hown, hts⟩ (n_add l D k A a z G_53 3 y_60 ⟨by decide, by decide⟩ ((by first | exact ok_806 hcl.2.2.2.1 f_11 c_20 g_62 | omega))) (cwV 2 hts (gd_V hgd m1741 m1743 m76 m131 m1744) rfl rfl rfl hd_X12_add ⟨Nat.le_of_ble_eq_true rfl, Nat.le_of_ble_eq_true rfl⟩) (pre_W hW hB_G_53 hK hZ hS kd_66 rfl) rfl rfl hl.1 rfl (lv_room (Nat.le_of_ble_eq_true rfl)) dX12_close_95 ⟨Nat.le_of_ble_eq_true rfl, Nat.le_of_ble_eq_true rfl⟩) hS (fun G_67 H locs hpo hW hS => ?_)
          have hX_70 : Q_add 3 y_60 G_53 G_67 := hpo
          obtain ⟨hB_G_67, hq_68, ⟨d_5, d_6, d_7, d_8, d_9⟩, -⟩ := hpo
          have hF := hF.call9 hq_68 rfl rfl
          refine lv_goto (tgt := 0) hx hb dX12_close_98 rfl ?_
          have g_71 : (G_67.1 66 20).toInt = y_52.toInt := (congrArg Int32.toInt (show G_67.1 66 20 = y_52 from ((hq_68.i9 66 20 rfl rfl).trans (gp_eq eG_53))))
          have fr_72 : Fr [69, 70, 71] [] G_53 G_67 := (Fr.call9 (rs := [69, 70, 71]) (fs := []) Fr.rf hq_68 rfl rfl)
          have g_73 : gB G_67 = gB G_53 := gB_fr fr_72 (gr_q rfl) (gf_q rfl)
          have g_74 : (G_67.1 66 20).toInt = y_52.toInt := (congrArg Int32.toInt (show G_67.1 66 20 = y_52 from ((hq_68.i9 66 20 rfl rfl).trans (gp_eq eG_53))))
          have g_75 : (G_67.1 66 24).toInt = (G_1.1 66 24).toInt := (congrArg Int32.toInt (show G_67.1 66 24 = (G_1.1 66 24) from ((hq_68.i9 66 24 rfl rfl).trans ((gp_ne eG_53 (by decide)).trans ((hq_30.i9 66 24 rfl rfl).trans (rfl))))))
          have g_76 : (G_67.1 66 20).toInt = y_52.toInt := (congrArg Int32.toInt (show G_67.1 66 20 = y_52 from ((hq_68.i9 66 20 rfl rfl).trans (gp_eq eG_53))))
          have g_77 : gK G_67 = gK G_53 := gK_fr fr_72 (gr_q rfl) (gf_q rfl)
          have g_78 : (G_67.1 66 20).toInt = y_52.toInt := (congrArg Int32.toInt (show G_67.1 66 20 = y_52 from ((hq_68.i9 66 20 rfl rfl).trans (gp_eq eG_53))))
          have g_79 : (G_67.1 66 24).toInt = (G_1.1 66 24).toInt := (congrArg Int32.toInt (show G_67.1 66 24 = (G_1.1 66 24) from ((hq_68.i9 66 24 rfl rfl).trans ((gp_ne eG_53 (by decide)).trans ((hq_30.i9 66 24 rfl rfl).trans (rfl))))))
          exact ih_3 ((G_67.1 66 20).toInt : Int).toNat ((by first | (clear f_33 c_34 u_56; omega) | omega)) _ _ _ ⟨G_67, (Int.toNat_of_nonneg ((by first | exact ok_805 c_20 ty_52 g_71 | omega))), ((by first | (clear b_7 hn_16 c_24 f_33 c_34 u_56 d_3 d_4 c_59; omega) | omega)), ((by first | exact ok_807 f_9 u_23 c_24 g_45 g_50 u_55 u_56.2.1 c_59 qc_63 g_65 d_8 g_73 | omega)), ((by first | exact ok_808 f_10 b_18.2 u_23 c_24 g_45 g_50 ty_52 u_55 u_56.2.1 g_57 u_58.2.1 c_59 g_71 g_73 g_75 | omega)), ((by first | exact ok_809 f_11 ty_52 g_62 d_5 g_71 | omega)), ((by first | exact ok_810 f_12 u_23 c_24 g_48 g_50 u_56.2.2.2 g_77 | omega)), ((by first | exact ok_811 f_13 ty_52 g_71 | omega)), ((by first | exact ok_812 f_14 qc_63 g_65 d_8 | omega)), ((by first | exact ok_801 f_15 g_75 | omega)), (hX_5.st (St_n_close_1_mk ⟨G_1, G_67, rfl, rfl, f_8, f_9, f_10, f_11, f_12, f_13, f_14, f_15, hB_G_1, ⟨c_20, ⟨y_21, ty_21, ⟨y_22, ey_22, ⟨c_24, ⟨y_25, ty_25, ⟨y_26, ey_26, ⟨r_28, G_29, hX_32, ⟨c_34, ⟨y_52, ty_52, ⟨y_54, ey_54.trans (congrFun (rw_put eG_53 (by decide)) _), (Or.inr ⟨c_59, ⟨y_60, ey_60.trans (congrFun (rw_put eG_53 (by decide)) _), ⟨G_53, hB_G_53, (Fr.put (rs := []) (fs := [(66, 20)]) Fr.rf eG_53 (Or.inr (by decide))), (gp_eq eG_53), ⟨G_67, hX_70, rfl⟩⟩⟩⟩)⟩⟩⟩⟩⟩⟩⟩⟩⟩⟩⟩)), hW, hB_G_67, hF, (Fr.call9 (rs := [69, 70, 71]) (fs := [(66, 20), (66, 24)]) (Fr.put (rs := [69, 70, 71]) (fs := [(66, 20), (66, 24)]) (Fr.call9 (rs := [69, 70, 71]) (fs := [(66, 20), (66, 24)]) (Fr.call9 (rs := [69, 70, 71]) (fs := [(66, 20), (66, 24)]) Fr.rf hq_2 rfl rfl) hq_30 rfl rfl) eG_53 (Or.inr (by decide))) hq_68 rfl rfl), hS, lv_sub hl [0, 1] rfl⟩
        · have c_59 : y_54.toInt = 21 := xI_eq rfl rfl c_59
          refine lv_aload_n hx hb dX12_close_65 rfl (lv_at hl 0 rfl) ?_
          refine ic_2 hx hb dX12_close_66 ?_
          refine ic_0 hx hb dX12_close_67 ?_
          have fr_80 : Fr [] [(66, 20)] G_1 G_53 := (Fr.put (rs := []) (fs := [(66, 20)]) (Fr.call9 (rs := []) (fs := [(66, 20)]) Fr.rf hq_30 rfl rfl) eG_53 (Or.inr (by decide)))
          have g_81 : gM G_53 = gM G_1 := gM_fr fr_80 (gr_q rfl) (gf_q rfl)
          have qc_82 : (2 : Int32).toInt = 2 := rfl
          have qc_83 : (0 : Int32).toInt = 0 := rfl
          have g_84 : gC G_53 = gC G_1 := gC_fr fr_80 (gr_q rfl) (gf_q rfl)
          have g_85 : gD G_53 = gD G_1 := gD_fr fr_80 (gr_q rfl) (gf_q rfl)
          refine S_callv (va_runV (As := [.int 2, .int 0]) (rest := []) ⟨hx, hb, hml, hown, hts⟩ (n_add l D k A a z G_53 2 0 ⟨by decide, by decide⟩ ((by first | exact ok_806 hcl.2.2.2.1 f_11 c_20 g_81 | omega))) (cwV 2 hts (gd_V hgd m1741 m1743 m76 m131 m1744) rfl rfl rfl hd_X12_add ⟨Nat.le_of_ble_eq_true rfl, Nat.le_of_ble_eq_true rfl⟩) (pre_W hW hB_G_53 hK hZ hS kd_66 rfl) rfl rfl hl.1 rfl (lv_room (Nat.le_of_ble_eq_true rfl)) dX12_close_68 ⟨Nat.le_of_ble_eq_true rfl, Nat.le_of_ble_eq_true rfl⟩) hS (fun G_87 H locs hpo hW hS => ?_)
          have hX_90 : Q_add 2 0 G_53 G_87 := hpo
          obtain ⟨hB_G_87, hq_88, ⟨d_10, d_11, d_12, d_13, d_14⟩, -⟩ := hpo
          have hF := hF.call9 hq_88 rfl rfl
          refine lv_aload_n hx hb dX12_close_71 rfl (lv_at hl 0 rfl) ?_
          refine lv_dup hx hb dX12_close_72 rfl ?_
          refine S_getI (v := (G_1.1 66 24)) (C := RX12) (T := TX12) (N := 89) hx hb hg iX12 hown hK hW kd_66 rfl 24 (lt_b rfl) (hg (Cond.fieldLink RX12 309 "SlabWalkModel" "deep" "I") m1338) (fun _ h9 => h9) rfl ((hq_88.i9 66 24 rfl rfl).trans ((gp_ne eG_53 (by decide)).trans ((hq_30.i9 66 24 rfl rfl).trans (rfl)))) dX12_close_73 ?_
          refine ic_1 hx hb dX12_close_76 ?_
          refine lv_isub hx hb dX12_close_77 ?_
          refine lv_topi (fun y_91 ey_91 => ?_)
          have ty_91 : y_91.toInt = (G_1.1 66 24).toInt - 1 := xI_sub rfl rfl ey_91 ((by first | exact ok_813 b_18.1 | omega)) ((by first | exact ok_814 b_18.2 | omega))
          refine S_putI (ty := .int) (C := RX12) (T := TX12) (N := 89) hx hb hg iX12 tyX12 tyX12_ok nmX12 hown hK hW hS kd_66 rfl 24 (lt_b rfl) (hg (Cond.fieldLink RX12 309 "SlabWalkModel" "deep" "I") m1338) (fun _ h9 => h9) rfl (by decide +kernel) rfl rfl rfl dX12_close_78 (fun G_92 H locs eG_92 hW hS => ?_)
          have hB_G_92 : Bd G_92 := hB_G_87.put (V := y_91.toInt) (lo := (-1)) (hi := 200) eG_92 rfl rfl rfl ((by first | exact ok_815 f_10 b_18.1 u_19.2.1 ty_91 | omega)) ((by first | exact ok_816 b_18.2 ty_91 | omega)) (hB_G_87.2.put eG_92 rfl)
          have hF := hF.put eG_92 (Or.inr (by decide))
          refine lv_goto (tgt := 0) hx hb dX12_close_81 rfl ?_
          have g_93 : (G_92.1 66 20).toInt = y_52.toInt := (congrArg Int32.toInt (show G_92.1 66 20 = y_52 from ((gp_ne eG_92 (by decide)).trans ((hq_88.i9 66 20 rfl rfl).trans (gp_eq eG_53)))))
          have fr_94 : Fr [] [(66, 24)] G_87 G_92 := (Fr.put (rs := []) (fs := [(66, 24)]) Fr.rf eG_92 (Or.inr (by decide)))
          have g_95 : gC G_92 = gC G_87 := gC_fr fr_94 (gr_q rfl) (gf_q rfl)
          have fr_96 : Fr [69, 70, 71] [(66, 24)] G_53 G_92 := (Fr.put (rs := [69, 70, 71]) (fs := [(66, 24)]) (Fr.call9 (rs := [69, 70, 71]) (fs := [(66, 24)]) Fr.rf hq_88 rfl rfl) eG_92 (Or.inr (by decide)))
          have g_97 : gB G_92 = gB G_53 := gB_fr fr_96 (gr_q rfl) (gf_q rfl)
          have g_98 : gD G_92 = gD G_87 := gD_fr fr_94 (gr_q rfl) (gf_q rfl)
          have g_99 : (G_92.1 66 20).toInt = y_52.toInt := (congrArg Int32.toInt (show G_92.1 66 20 = y_52 from ((gp_ne eG_92 (by decide)).trans ((hq_88.i9 66 20 rfl rfl).trans (gp_eq eG_53)))))
          have g_100 : (G_92.1 66 24).toInt = y_91.toInt := (congrArg Int32.toInt (show G_92.1 66 24 = y_91 from (gp_eq eG_92)))
          have g_101 : gM G_92 = gM G_87 := gM_fr fr_94 (gr_q rfl) (gf_q rfl)
          have g_102 : (G_92.1 66 20).toInt = y_52.toInt := (congrArg Int32.toInt (show G_92.1 66 20 = y_52 from ((gp_ne eG_92 (by decide)).trans ((hq_88.i9 66 20 rfl rfl).trans (gp_eq eG_53)))))
          have g_103 : gK G_92 = gK G_53 := gK_fr fr_96 (gr_q rfl) (gf_q rfl)
          have g_104 : (G_92.1 66 20).toInt = y_52.toInt := (congrArg Int32.toInt (show G_92.1 66 20 = y_52 from ((gp_ne eG_92 (by decide)).trans ((hq_88.i9 66 20 rfl rfl).trans (gp_eq eG_53)))))
          have g_105 : (G_92.1 66 24).toInt = y_91.toInt := (congrArg Int32.toInt (show G_92.1 66 24 = y_91 from (gp_eq eG_92)))
          exact ih_3 ((G_92.1 66 20).toInt : Int).toNat ((by first | (clear f_33 c_34 u_56; omega) | omega)) _ _ _ ⟨G_92, (Int.toNat_of_nonneg ((by first | exact ok_805 c_20 ty_52 g_93 | omega))), ((by first | (clear b_7 hn_16 c_24 f_33 c_34 u_56 d_3 d_4; omega) | omega)), ((by first | exact ok_817 f_9 g_45 u_55 u_56.1 c_59 qc_82 g_85 d_12 g_97 g_98 | omega)), ((by first | exact ok_818 f_10 b_18.2 g_45 ty_52 u_55 u_56.1 g_57 u_58.2.1 c_59 ty_91 g_93 g_97 g_100 | omega)), ((by first | exact ok_819 f_11 ty_52 g_81 d_10 g_93 g_101 | omega)), ((by first | exact ok_820 f_12 g_48 u_55 u_56.2.2.2 c_59 g_103 | omega)), ((by first | exact ok_811 f_13 ty_52 g_93 | omega)), ((by first | exact ok_821 f_14 qc_82 g_85 d_12 g_98 | omega)), ((by first | exact ok_811 f_15 ty_91 g_100 | omega)), (hX_5.st (St_n_close_1_mk ⟨G_1, G_92, rfl, rfl, f_8, f_9, f_10, f_11, f_12, f_13, f_14, f_15, hB_G_1, ⟨c_20, ⟨y_21, ty_21, ⟨y_22, ey_22, ⟨c_24, ⟨y_25, ty_25, ⟨y_26, ey_26, ⟨r_28, G_29, hX_32, ⟨c_34, ⟨y_52, ty_52, ⟨y_54, ey_54.trans (congrFun (rw_put eG_53 (by decide)) _), (Or.inl ⟨c_59, ⟨G_53, hB_G_53, (Fr.put (rs := []) (fs := [(66, 20)]) Fr.rf eG_53 (Or.inr (by decide))), (gp_eq eG_53), ⟨G_87, hX_90, ⟨y_91, ty_91, ⟨(Fr.put (rs := []) (fs := [(66, 24)]) Fr.rf eG_92 (Or.inr (by decide))), (gp_eq eG_92)⟩⟩⟩⟩⟩)⟩⟩⟩⟩⟩⟩⟩⟩⟩⟩⟩)), hW, hB_G_92, hF, (Fr.put (rs := [69, 70, 71]) (fs := [(66, 20), (66, 24)]) (Fr.call9 (rs := [69, 70, 71]) (fs := [(66, 20), (66, 24)]) (Fr.put (rs := [69, 70, 71]) (fs := [(66, 20), (66, 24)]) (Fr.call9 (rs := [69, 70, 71]) (fs := [(66, 20), (66, 24)]) (Fr.call9 (rs := [69, 70, 71]) (fs := [(66, 20), (66, 24)]) Fr.rf hq_2 rfl rfl) hq_30 rfl rfl) eG_53 (Or.inr (by decide))) hq_88 rfl rfl) eG_92 (Or.inr (by decide))), hS, lv_sub hl [0, 1] rfl⟩

set_option maxHeartbeats 4000000 in
set_option maxRecDepth 100000 in
theorem n_hasRelation (l : Launch) (D : va_G) (k : KT) (A : Nat → Prop) (a : Nat → Nat) (z : SK) (G : GS)   : Met l yX12_hasRelation (WS yX12_hasRelation cX12_hasRelation 2 (some .boolean)) ({ frames := 1, cells := 0, slots := 0, locals := 20 }) (va_Pc [.ref (a 66)] (cW D k A a z G)) (va_Qi (fun (r : Int32) (G1 : GS) => Q_hasRelation G r G1) (fun (G1 : GS) t => Wd D k A a G1 t.heap) A) 0 0 A := by
  refine Met.ofW (cc := cX12_hasRelation) (maxL := 2) (ret := (some .boolean)) (by decide) rfl ?_
  intro p e s m args below meth c s₁ B hml hv
  obtain ⟨rfl, hW, hB_G, hK, hZ⟩ := hv
  have hx := B.exec
  have hb := B.bytes
  have hr := B.returns
  have hts := atoms_spec (ws := WS yX12_hasRelation cX12_hasRelation 2 (some .boolean)) B.pre
  have hgd : ∀ w ∈ gd, w ∈ WS yX12_hasRelation cX12_hasRelation 2 (some .boolean) := fun w h => List.mem_cons_of_mem _ h
  have hg : ∀ w ∈ gd, w.before _ s = true := fun w h => hts w (hgd w h)
  have hown : s.vm.findClass RX12 = some m.cls := findClass_of_methodNamed B.named
  have hS : va_S A s.heap s.heap [] := va_S.rf
  have hF : Fr [] [] G G := Fr.rf
  have hl := lv_entry ([.ref (a 66)]) (n := 2) (Nat.le_of_ble_eq_true rfl)
  rw [lg_entry_eq]
  generalize (lg_sl ([.ref (a 66)]) ++ List.replicate (2 - (lg_sl ([.ref (a 66)])).length) Slot.unset).toArray = ls at hl ⊢
  have hl : lv_has ls 2 [(0, .ref (a 66))] := hl
  refine lv_aload_n hx hb dX12_hasRelation_0 rfl (lv_at hl 0 rfl) ?_
  have b_1 : 0 ≤ (G.1 66 20).toInt ∧ (G.1 66 20).toInt ≤ 160 := bd_66_20 hB_G
  refine S_getI (v := (G.1 66 20)) (C := RX12) (T := TX12) (N := 89) hx hb hg iX12 hown hK hW kd_66 rfl 20 (lt_b rfl) (hg (Cond.fieldLink RX12 299 "SlabWalkModel" "opens" "I") m1334) (fun _ h9 => h9) rfl rfl dX12_hasRelation_1 ?_
  refine ic_1 hx hb dX12_hasRelation_4 ?_
  refine lv_isub hx hb dX12_hasRelation_5 ?_
  refine lv_topi (fun y_2 ey_2 => ?_)
  have ty_2 : y_2.toInt = (G.1 66 20).toInt - 1 := xI_sub rfl rfl ey_2 ((by first | exact ok_56 b_1.1 | omega)) ((by first | exact ok_793 b_1.2 | omega))
  refine lv_istore_n (lv' := [(1, .int y_2), (0, .ref (a 66))]) hx hb dX12_hasRelation_6 rfl hl (lt_b rfl) rfl (fun ls hl => ?_)
  refine loop_N (Inv := fun n H locs ls => ∃ (G_3 : GS) (x_7 : Int32), (n : Int) = x_7.toInt - (-1) ∧ ((-1) ≤ x_7.toInt ∧ x_7.toInt ≤ 159) ∧ Rc (St_n_hasRelation_1) (y_2, G) (x_7, G_3) ∧ Wd D k A a G_3 H ∧ Bd G_3 ∧ Fr [] [] G G_3 ∧ Fr [] [] G G_3 ∧ va_S A s.heap H locs ∧ lv_has ls 2 [(1, .int x_7), (0, .ref (a 66))]) (fun n_6 H locs ls ih_5 hI => ?_) (y_2.toInt - (-1) : Int).toNat ⟨G, y_2, (Int.toNat_of_nonneg ((by first | exact ok_186 b_1.1 ty_2 | omega))), ⟨(by first | exact ok_187 b_1.1 ty_2 | omega), (by first | exact ok_822 b_1.2 ty_2 | omega)⟩, Rc.rf, hW, hB_G, hF, Fr.rf, hS, lv_sub hl [0, 1] rfl⟩
  obtain ⟨G_3, x_7, hn_10, f_9, hX_8, hW, hB_G_3, hF, hq_4, hS, hl⟩ := hI
  refine lv_iload_n hx hb dX12_hasRelation_7 rfl (lv_at hl 0 rfl) ?_
  refine W.cut (σ := Unit) (pcJ := 41) (J := fun y H locs ls => ∃ (G_13 : GS), Jn_n_hasRelation_2 x_7 G_3 G_13 ∧ Wd D k A a G_13 H ∧ Bd G_13 ∧ Fr [] [] G G_13 ∧ Fr [] [] G_3 G_13 ∧ va_S A s.heap H locs ∧ lv_has ls 2 [(1, .int x_7), (0, .ref (a 66))]) (stJ := fun _ => []) ?_ (fun hJ_14 => ?_)
  · intro y H locs ls hI
    obtain ⟨G_13, hX_16, hW, hB_G_13, hF, hq_15, hS, hl⟩ := hI
    refine lv_iload_n hx hb dX12_hasRelation_41 rfl (lv_at hl 0 rfl) ?_
    refine lv_if_lt (tgt := 73) hx hb dX12_hasRelation_42 rfl (fun c_17 => ?_) (fun c_17 => ?_)
    · have c_17 : x_7.toInt < 0 := xI_lt rfl rfl c_17
      refine ic_0 hx hb dX12_hasRelation_73 ?_
      exact W.zret (v := 0) hx hb hr (by decide) (fun t ht _ => ⟨⟨0, G_13, rfl, (Q_hasRelation_mk ⟨hB_G_13, hF, ⟨by decide, by decide⟩, ⟨y_2, ty_2, ⟨x_7, G_3, hX_8, f_9, hB_G_3, hq_4, ⟨G_13, hX_16, hB_G_13, hq_15, (Or.inl ⟨c_17, ⟨rfl, rfl⟩⟩)⟩⟩⟩⟩), wd_t ht hW⟩, hS.F ht⟩) hS.2.2 dX12_hasRelation_74
    · have c_17 : 0 ≤ x_7.toInt := xI_nlt rfl rfl c_17
      refine lv_aload_n hx hb dX12_hasRelation_45 rfl (lv_at hl 1 rfl) ?_
      refine S_getR (n := 75) (C := RX12) (T := TX12) (N := 89) hx hb hg iX12 hown hK hW kd_66 rfl 17 (lt_b rfl) (hg (Cond.fieldLink RX12 39 "SlabWalkModel" "open" "[I") m1331) (fun _ h9 => h9) rfl dX12_hasRelation_46 ?_
      refine lv_iload_n hx hb dX12_hasRelation_49 rfl (lv_at hl 0 rfl) ?_
      refine S_iald hx hb hK hW kd_75 (vin ((by first | exact c_17 | omega)) ((by first | exact ok_823 f_9.2 | omega))) dX12_hasRelation_50 (fun y_18 ey_18 => ?_)
      refine lv_bipush (v := 20) hx hb dX12_hasRelation_51 (by decide) ?_
      refine lv_icmp_eq (tgt := 73) hx hb dX12_hasRelation_53 rfl (fun c_19 => ?_) (fun c_19 => ?_)
      · have c_19 : y_18.toInt = 20 := xI_eq rfl rfl c_19
        refine ic_0 hx hb dX12_hasRelation_73 ?_
        exact W.zret (v := 0) hx hb hr (by decide) (fun t ht _ => ⟨⟨0, G_13, rfl, (Q_hasRelation_mk ⟨hB_G_13, hF, ⟨by decide, by decide⟩, ⟨y_2, ty_2, ⟨x_7, G_3, hX_8, f_9, hB_G_3, hq_4, ⟨G_13, hX_16, hB_G_13, hq_15, (Or.inr ⟨c_17, ⟨y_18, ey_18, (Or.inl ⟨c_19, ⟨rfl, rfl⟩⟩)⟩⟩)⟩⟩⟩⟩), wd_t ht hW⟩, hS.F ht⟩) hS.2.2 dX12_hasRelation_74
      · have c_19 : y_18.toInt ≠ 20 := xI_ne rfl rfl c_19
        refine lv_aload_n hx hb dX12_hasRelation_56 rfl (lv_at hl 1 rfl) ?_
        refine S_getR (n := 75) (C := RX12) (T := TX12) (N := 89) hx hb hg iX12 hown hK hW kd_66 rfl 17 (lt_b rfl) (hg (Cond.fieldLink RX12 39 "SlabWalkModel" "open" "[I") m1331) (fun _ h9 => h9) rfl dX12_hasRelation_57 ?_
        refine lv_iload_n hx hb dX12_hasRelation_60 rfl (lv_at hl 0 rfl) ?_
        refine S_iald hx hb hK hW kd_75 (vin ((by first | exact c_17 | omega)) ((by first | exact ok_823 f_9.2 | omega))) dX12_hasRelation_61 (fun y_20 ey_20 => ?_)
        refine S_calli (va_runS (As := [.int y_20]) (rest := []) ⟨hx, hb, hml, hown, hts⟩ (n_tight l D k A a z G_13 y_20 ) (va_cwS 1 hts (gd_S hgd m1722 m1723 m131 m1724) rfl rfl rfl hd_X12_tight.2 ⟨Nat.le_of_ble_eq_true rfl, Nat.le_of_ble_eq_true rfl⟩) (pre_S hW hB_G_13 hK hZ hS) rfl rfl hl.1 rfl (lv_room (Nat.le_of_ble_eq_true rfl)) dX12_hasRelation_62 ⟨Nat.le_of_ble_eq_true rfl, Nat.le_of_ble_eq_true rfl⟩) hS (fun r_21 G_22 H locs hpo hW hS => ?_)
        have hX_25 : Q_tight y_20 G_13 r_21 G_22 := hpo
        obtain ⟨hB_G_22, hq_23, f_26, -⟩ := hpo
        have hF := hF.call9 hq_23 rfl rfl
        refine ic_4 hx hb dX12_hasRelation_65 ?_
        refine lv_icmp_ne (tgt := 73) hx hb dX12_hasRelation_66 rfl (fun c_27 => ?_) (fun c_27 => ?_)
        · have c_27 : r_21.toInt ≠ 4 := xI_ne rfl rfl c_27
          refine ic_0 hx hb dX12_hasRelation_73 ?_
          exact W.zret (v := 0) hx hb hr (by decide) (fun t ht _ => ⟨⟨0, G_22, rfl, (Q_hasRelation_mk ⟨hB_G_22, hF, ⟨by decide, by decide⟩, ⟨y_2, ty_2, ⟨x_7, G_3, hX_8, f_9, hB_G_3, hq_4, ⟨G_13, hX_16, hB_G_13, hq_15, (Or.inr ⟨c_17, ⟨y_18, ey_18, (Or.inr ⟨c_19, ⟨y_20, ey_20, ⟨r_21, G_22, hX_25, (Or.inr ⟨c_27, ⟨rfl, rfl⟩⟩)⟩⟩⟩)⟩⟩)⟩⟩⟩⟩), wd_t ht hW⟩, hS.F ht⟩) hS.2.2 dX12_hasRelation_74
        · have c_27 : r_21.toInt = 4 := xI_eq rfl rfl c_27
          refine ic_1 hx hb dX12_hasRelation_69 ?_
          refine lv_goto (tgt := 74) hx hb dX12_hasRelation_70 rfl ?_
          exact W.zret (v := 1) hx hb hr (by decide) (fun t ht _ => ⟨⟨1, G_22, rfl, (Q_hasRelation_mk ⟨hB_G_22, hF, ⟨by decide, by decide⟩, ⟨y_2, ty_2, ⟨x_7, G_3, hX_8, f_9, hB_G_3, hq_4, ⟨G_13, hX_16, hB_G_13, hq_15, (Or.inr ⟨c_17, ⟨y_18, ey_18, (Or.inr ⟨c_19, ⟨y_20, ey_20, ⟨r_21, G_22, hX_25, (Or.inl ⟨c_27, ⟨rfl, rfl⟩⟩)⟩⟩⟩)⟩⟩)⟩⟩⟩⟩), wd_t ht hW⟩, hS.F ht⟩) hS.2.2 dX12_hasRelation_74
  refine lv_if_lt (tgt := 41) hx hb dX12_hasRelation_8 rfl (fun c_28 => ?_) (fun c_28 => ?_)
  · have c_28 : x_7.toInt < 0 := xI_lt rfl rfl c_28
    exact hJ_14 () _ _ _ ⟨G_3, (Jn_n_hasRelation_2_mk (Or.inl ⟨c_28, rfl⟩)), hW, hB_G_3, hF, (Fr.rf (rs := []) (fs := [])), hS, lv_sub hl [0, 1] rfl⟩
  · have c_28 : 0 ≤ x_7.toInt := xI_nlt rfl rfl c_28
    refine lv_aload_n hx hb dX12_hasRelation_11 rfl (lv_at hl 1 rfl) ?_
    refine S_getR (n := 75) (C := RX12) (T := TX12) (N := 89) hx hb hg iX12 hown hK hW kd_66 rfl 17 (lt_b rfl) (hg (Cond.fieldLink RX12 39 "SlabWalkModel" "open" "[I") m1331) (fun _ h9 => h9) rfl dX12_hasRelation_12 ?_
    refine lv_iload_n hx hb dX12_hasRelation_15 rfl (lv_at hl 0 rfl) ?_
    refine S_iald hx hb hK hW kd_75 (vin ((by first | exact c_28 | omega)) ((by first | exact ok_823 f_9.2 | omega))) dX12_hasRelation_16 (fun y_29 ey_29 => ?_)
    refine lv_bipush (v := 20) hx hb dX12_hasRelation_17 (by decide) ?_
    refine lv_icmp_eq (tgt := 41) hx hb dX12_hasRelation_19 rfl (fun c_30 => ?_) (fun c_30 => ?_)
    · have c_30 : y_29.toInt = 20 := xI_eq rfl rfl c_30
      exact hJ_14 () _ _ _ ⟨G_3, (Jn_n_hasRelation_2_mk (Or.inr ⟨c_28, ⟨y_29, ey_29, (Or.inl ⟨c_30, rfl⟩)⟩⟩)), hW, hB_G_3, hF, (Fr.rf (rs := []) (fs := [])), hS, lv_sub hl [0, 1] rfl⟩
    · have c_30 : y_29.toInt ≠ 20 := xI_ne rfl rfl c_30
      refine lv_aload_n hx hb dX12_hasRelation_22 rfl (lv_at hl 1 rfl) ?_
      refine S_getR (n := 75) (C := RX12) (T := TX12) (N := 89) hx hb hg iX12 hown hK hW kd_66 rfl 17 (lt_b rfl) (hg (Cond.fieldLink RX12 39 "SlabWalkModel" "open" "[I") m1331) (fun _ h9 => h9) rfl dX12_hasRelation_23 ?_
      refine lv_iload_n hx hb dX12_hasRelation_26 rfl (lv_at hl 0 rfl) ?_
      refine S_iald hx hb hK hW kd_75 (vin ((by first | exact c_28 | omega)) ((by first | exact ok_823 f_9.2 | omega))) dX12_hasRelation_27 (fun y_31 ey_31 => ?_)
      refine S_calli (va_runS (As := [.int y_31]) (rest := []) ⟨hx, hb, hml, hown, hts⟩ (n_tight l D k A a z G_3 y_31 ) (va_cwS 1 hts (gd_S hgd m1722 m1723 m131 m1724) rfl rfl rfl hd_X12_tight.2 ⟨Nat.le_of_ble_eq_true rfl, Nat.le_of_ble_eq_true rfl⟩) (pre_S hW hB_G_3 hK hZ hS) rfl rfl hl.1 rfl (lv_room (Nat.le_of_ble_eq_true rfl)) dX12_hasRelation_28 ⟨Nat.le_of_ble_eq_true rfl, Nat.le_of_ble_eq_true rfl⟩) hS (fun r_32 G_33 H locs hpo hW hS => ?_)
      have hX_36 : Q_tight y_31 G_3 r_32 G_33 := hpo
      obtain ⟨hB_G_33, hq_34, f_37, -⟩ := hpo
      have hF := hF.call9 hq_34 rfl rfl
      refine ic_4 hx hb dX12_hasRelation_31 ?_
      refine lv_icmp_le (tgt := 41) hx hb dX12_hasRelation_32 rfl (fun c_38 => ?_) (fun c_38 => ?_)
      · have c_38 : r_32.toInt ≤ 4 := xI_le rfl rfl c_38
        exact hJ_14 () _ _ _ ⟨G_33, (Jn_n_hasRelation_2_mk (Or.inr ⟨c_28, ⟨y_29, ey_29, (Or.inr ⟨c_30, ⟨y_31, ey_31, ⟨r_32, G_33, hX_36, ⟨c_38, rfl⟩⟩⟩⟩)⟩⟩)), hW, hB_G_33, hF, (Fr.call9 (rs := []) (fs := []) Fr.rf hq_34 rfl rfl), hS, lv_sub hl [0, 1] rfl⟩
      · have c_38 : 4 < r_32.toInt := xI_nle rfl rfl c_38
        obtain ⟨y_39, ey_39⟩ : ∃ q, q = x_7 + (-1) := ⟨_, rfl⟩
        have ty_39 : y_39.toInt = x_7.toInt + (-1) := xI_add rfl rfl ey_39 ((by first | exact ok_190 c_28 | omega)) ((by first | exact ok_824 f_9.2 | omega))
        refine lv_iinc (v := y_39) (lv' := [(1, .int y_39), (0, .ref (a 66))]) hx hb dX12_hasRelation_35 hl (k := 0) rfl (by rw [ey_39]; rfl) (lt_b rfl) rfl (fun ls hl => ?_)
        refine lv_goto (tgt := 7) hx hb dX12_hasRelation_38 rfl ?_
        exact ih_5 (y_39.toInt - (-1) : Int).toNat ((by first | (clear b_1 ty_2 c_30 f_37 c_38; omega) | omega)) _ _ _ ⟨G_33, y_39, (Int.toNat_of_nonneg ((by first | exact ok_192 c_28 ty_39 | omega))), ⟨(by first | exact ok_193 c_28 ty_39 | omega), (by first | exact ok_825 f_9.2 ty_39 | omega)⟩, (hX_8.st (St_n_hasRelation_1_mk ⟨x_7, G_3, y_39, G_33, rfl, rfl, f_9, hB_G_3, ⟨c_28, ⟨y_29, ey_29, ⟨c_30, ⟨y_31, ey_31, ⟨r_32, G_33, hX_36, ⟨c_38, ⟨y_39, ty_39, ⟨rfl, rfl⟩⟩⟩⟩⟩⟩⟩⟩⟩)), hW, hB_G_33, hF, (Fr.call9 (rs := []) (fs := []) (Fr.call9 (rs := []) (fs := []) Fr.rf hq_4 rfl rfl) hq_34 rfl rfl), hS, lv_sub hl [0, 1] rfl⟩

set_option maxHeartbeats 4000000 in
set_option maxRecDepth 100000 in
theorem n_mayNot (l : Launch) (D : va_G) (k : KT) (A : Nat → Prop) (a : Nat → Nat) (z : SK) (G : GS)   : Met l yX12_mayNot (WS yX12_mayNot cX12_mayNot 1 (some .boolean)) ({ frames := 1, cells := 0, slots := 0, locals := 20 }) (va_Pc [.ref (a 66)] (cW D k A a z G)) (va_Qi (fun (r : Int32) (G1 : GS) => Q_mayNot G r G1) (fun (G1 : GS) t => Wd D k A a G1 t.heap) A) 0 0 A := by
  refine Met.ofW (cc := cX12_mayNot) (maxL := 1) (ret := (some .boolean)) (by decide) rfl ?_
  intro p e s m args below meth c s₁ B hml hv
  obtain ⟨rfl, hW, hB_G, hK, hZ⟩ := hv
  have hx := B.exec
  have hb := B.bytes
  have hr := B.returns
  have hts := atoms_spec (ws := WS yX12_mayNot cX12_mayNot 1 (some .boolean)) B.pre
  have hgd : ∀ w ∈ gd, w ∈ WS yX12_mayNot cX12_mayNot 1 (some .boolean) := fun w h => List.mem_cons_of_mem _ h
  have hg : ∀ w ∈ gd, w.before _ s = true := fun w h => hts w (hgd w h)
  have hown : s.vm.findClass RX12 = some m.cls := findClass_of_methodNamed B.named
  have hS : va_S A s.heap s.heap [] := va_S.rf
  have hF : Fr [] [] G G := Fr.rf
  have hl := lv_entry ([.ref (a 66)]) (n := 1) (Nat.le_of_ble_eq_true rfl)
  rw [lg_entry_eq]
  generalize (lg_sl ([.ref (a 66)]) ++ List.replicate (1 - (lg_sl ([.ref (a 66)])).length) Slot.unset).toArray = ls at hl ⊢
  have hl : lv_has ls 1 [(0, .ref (a 66))] := hl
  refine lv_aload_n hx hb dX12_mayNot_0 rfl (lv_at hl 0 rfl) ?_
  have b_1 : 0 ≤ (G.1 66 20).toInt ∧ (G.1 66 20).toInt ≤ 160 := bd_66_20 hB_G
  refine S_getI (v := (G.1 66 20)) (C := RX12) (T := TX12) (N := 89) hx hb hg iX12 hown hK hW kd_66 rfl 20 (lt_b rfl) (hg (Cond.fieldLink RX12 299 "SlabWalkModel" "opens" "I") m1334) (fun _ h9 => h9) rfl rfl dX12_mayNot_1 ?_
  refine lv_if_eq (tgt := 41) hx hb dX12_mayNot_4 rfl (fun c_2 => ?_) (fun c_2 => ?_)
  · have c_2 : (G.1 66 20).toInt = 0 := xI_eq rfl rfl c_2
    refine ic_1 hx hb dX12_mayNot_41 ?_
    refine lv_goto (tgt := 46) hx hb dX12_mayNot_42 rfl ?_
    exact W.zret (v := 1) hx hb hr (by decide) (fun t ht _ => ⟨⟨1, G, rfl, (Q_mayNot_mk ⟨hB_G, hF, ⟨by decide, by decide⟩, (Or.inl ⟨c_2, ⟨rfl, rfl⟩⟩)⟩), wd_t ht hW⟩, hS.F ht⟩) hS.2.2 dX12_mayNot_46
  · have c_2 : (G.1 66 20).toInt ≠ 0 := xI_ne rfl rfl c_2
    refine lv_aload_n hx hb dX12_mayNot_7 rfl (lv_at hl 0 rfl) ?_
    refine S_getR (n := 75) (C := RX12) (T := TX12) (N := 89) hx hb hg iX12 hown hK hW kd_66 rfl 17 (lt_b rfl) (hg (Cond.fieldLink RX12 39 "SlabWalkModel" "open" "[I") m1331) (fun _ h9 => h9) rfl dX12_mayNot_8 ?_
    refine lv_aload_n hx hb dX12_mayNot_11 rfl (lv_at hl 0 rfl) ?_
    refine S_getI (v := (G.1 66 20)) (C := RX12) (T := TX12) (N := 89) hx hb hg iX12 hown hK hW kd_66 rfl 20 (lt_b rfl) (hg (Cond.fieldLink RX12 299 "SlabWalkModel" "opens" "I") m1334) (fun _ h9 => h9) rfl rfl dX12_mayNot_12 ?_
    refine ic_1 hx hb dX12_mayNot_15 ?_
    refine lv_isub hx hb dX12_mayNot_16 ?_
    refine lv_topi (fun y_3 ey_3 => ?_)
    have ty_3 : y_3.toInt = (G.1 66 20).toInt - 1 := xI_sub rfl rfl ey_3 ((by first | exact ok_56 b_1.1 | omega)) ((by first | exact ok_793 b_1.2 | omega))
    refine S_iald hx hb hK hW kd_75 (vin ((by first | exact ok_695 b_1.1 c_2 ty_3 | omega)) ((by first | exact ok_794 b_1.2 ty_3 | omega))) dX12_mayNot_17 (fun y_4 ey_4 => ?_)
    refine lv_bipush (v := 20) hx hb dX12_mayNot_18 (by decide) ?_
    refine lv_icmp_eq (tgt := 41) hx hb dX12_mayNot_20 rfl (fun c_5 => ?_) (fun c_5 => ?_)
    · have c_5 : y_4.toInt = 20 := xI_eq rfl rfl c_5
      refine ic_1 hx hb dX12_mayNot_41 ?_
      refine lv_goto (tgt := 46) hx hb dX12_mayNot_42 rfl ?_
      exact W.zret (v := 1) hx hb hr (by decide) (fun t ht _ => ⟨⟨1, G, rfl, (Q_mayNot_mk ⟨hB_G, hF, ⟨by decide, by decide⟩, (Or.inr ⟨c_2, ⟨y_3, ty_3, ⟨y_4, ey_4, (Or.inl ⟨c_5, ⟨rfl, rfl⟩⟩)⟩⟩⟩)⟩), wd_t ht hW⟩, hS.F ht⟩) hS.2.2 dX12_mayNot_46
    · have c_5 : y_4.toInt ≠ 20 := xI_ne rfl rfl c_5
      refine lv_aload_n hx hb dX12_mayNot_23 rfl (lv_at hl 0 rfl) ?_
      refine S_getR (n := 75) (C := RX12) (T := TX12) (N := 89) hx hb hg iX12 hown hK hW kd_66 rfl 17 (lt_b rfl) (hg (Cond.fieldLink RX12 39 "SlabWalkModel" "open" "[I") m1331) (fun _ h9 => h9) rfl dX12_mayNot_24 ?_
      refine lv_aload_n hx hb dX12_mayNot_27 rfl (lv_at hl 0 rfl) ?_
      refine S_getI (v := (G.1 66 20)) (C := RX12) (T := TX12) (N := 89) hx hb hg iX12 hown hK hW kd_66 rfl 20 (lt_b rfl) (hg (Cond.fieldLink RX12 299 "SlabWalkModel" "opens" "I") m1334) (fun _ h9 => h9) rfl rfl dX12_mayNot_28 ?_
      refine ic_1 hx hb dX12_mayNot_31 ?_
      refine lv_isub hx hb dX12_mayNot_32 ?_
      refine lv_topi (fun y_6 ey_6 => ?_)
      have ty_6 : y_6.toInt = (G.1 66 20).toInt - 1 := xI_sub rfl rfl ey_6 ((by first | exact ok_56 b_1.1 | omega)) ((by first | exact ok_793 b_1.2 | omega))
      refine S_iald hx hb hK hW kd_75 (vin ((by first | exact ok_695 b_1.1 c_2 ty_6 | omega)) ((by first | exact ok_794 b_1.2 ty_6 | omega))) dX12_mayNot_33 (fun y_7 ey_7 => ?_)
      refine S_calli (va_runS (As := [.int y_7]) (rest := []) ⟨hx, hb, hml, hown, hts⟩ (n_tight l D k A a z G y_7 ) (va_cwS 1 hts (gd_S hgd m1722 m1723 m131 m1724) rfl rfl rfl hd_X12_tight.2 ⟨Nat.le_of_ble_eq_true rfl, Nat.le_of_ble_eq_true rfl⟩) (pre_S hW hB_G hK hZ hS) rfl rfl hl.1 rfl (lv_room (Nat.le_of_ble_eq_true rfl)) dX12_mayNot_34 ⟨Nat.le_of_ble_eq_true rfl, Nat.le_of_ble_eq_true rfl⟩) hS (fun r_8 G_9 H locs hpo hW hS => ?_)
      have hX_12 : Q_tight y_7 G r_8 G_9 := hpo
      obtain ⟨hB_G_9, hq_10, f_13, -⟩ := hpo
      have hF := hF.call9 hq_10 rfl rfl
      refine ic_4 hx hb dX12_mayNot_37 ?_
      refine lv_icmp_ge (tgt := 45) hx hb dX12_mayNot_38 rfl (fun c_14 => ?_) (fun c_14 => ?_)
      · have c_14 : 4 ≤ r_8.toInt := xI_le rfl rfl c_14
        refine ic_0 hx hb dX12_mayNot_45 ?_
        exact W.zret (v := 0) hx hb hr (by decide) (fun t ht _ => ⟨⟨0, G_9, rfl, (Q_mayNot_mk ⟨hB_G_9, hF, ⟨by decide, by decide⟩, (Or.inr ⟨c_2, ⟨y_3, ty_3, ⟨y_4, ey_4, (Or.inr ⟨c_5, ⟨y_6, ty_6, ⟨y_7, ey_7, ⟨r_8, G_9, hX_12, (Or.inl ⟨c_14, ⟨rfl, rfl⟩⟩)⟩⟩⟩⟩)⟩⟩⟩)⟩), wd_t ht hW⟩, hS.F ht⟩) hS.2.2 dX12_mayNot_46
      · have c_14 : r_8.toInt < 4 := xI_nle rfl rfl c_14
        refine ic_1 hx hb dX12_mayNot_41 ?_
        refine lv_goto (tgt := 46) hx hb dX12_mayNot_42 rfl ?_
        exact W.zret (v := 1) hx hb hr (by decide) (fun t ht _ => ⟨⟨1, G_9, rfl, (Q_mayNot_mk ⟨hB_G_9, hF, ⟨by decide, by decide⟩, (Or.inr ⟨c_2, ⟨y_3, ty_3, ⟨y_4, ey_4, (Or.inr ⟨c_5, ⟨y_6, ty_6, ⟨y_7, ey_7, ⟨r_8, G_9, hX_12, (Or.inr ⟨c_14, ⟨rfl, rfl⟩⟩)⟩⟩⟩⟩)⟩⟩⟩)⟩), wd_t ht hW⟩, hS.F ht⟩) hS.2.2 dX12_mayNot_46
