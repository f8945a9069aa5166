theorem m48 : Cond.selects RX12 yX12_four yX12_four ∈ gd := gds_4 0 rfl
theorem m131 : Cond.initialized RX12 ∈ gd := gdc_1_0 15 rfl gw_initialized
theorem m1314 : Cond.fieldLink RX12 7 "SlabWalkModel" "tape" "[I" ∈ gd := gdc_5_14 14 rfl gw_fieldLink
theorem m1315 : Cond.fieldLink RX12 178 "SlabWalkModel" "taped" "I" ∈ gd := gdc_5_14 15 rfl gw_fieldLink
theorem m1318 : Cond.fieldLink RX12 185 "SlabWalkModel" "at" "I" ∈ gd := gdc_6_0 2 rfl gw_fieldLink
theorem m1319 : Cond.fieldLink RX12 188 "SlabWalkModel" "size" "I" ∈ gd := gdc_6_0 3 rfl gw_fieldLink
theorem m1586 : Cond.methodLink RX12 181 yX12_four ∈ gd := gdc_7_1 14 rfl gw_methodLink
theorem m1588 : Cond.instanceMethod yX12_four ∈ gd := gdc_7_2 0 rfl gw_instanceMethod
theorem m1589 : Cond.code yX12_four cX12_four 3 none ∈ gd := gdc_7_2 1 rfl gw_code
noncomputable def rbX12_end_0 : List (Nat × List Nat) := [(0, [27]), (1, [155, 0, 11]), (4, [27]), (5, [42]), (6, [180, 0, 178]), (9, [164, 0, 5]), (12, [2]), (13, [172]), (14, [42]), (15, [27]), (16, [181, 0, 178]), (19, [27]), (20, [172])]
theorem rcX12_end_0 : dgo (lb cX12_end) 0 rbX12_end_0 = true := by decide +kernel
theorem dX12_end_0 : decode cX12_end 0 = .ok (.iload_n 1, 1) := dk_27 (dw rcX12_end_0 0 rfl)
theorem dX12_end_1 : decode cX12_end 1 = .ok (.ifCond .lt 11, 3) := dk_155 (dw rcX12_end_0 1 rfl) rfl
theorem dX12_end_4 : decode cX12_end 4 = .ok (.iload_n 1, 1) := dk_27 (dw rcX12_end_0 2 rfl)
theorem dX12_end_5 : decode cX12_end 5 = .ok (.aload_n 0, 1) := dk_42 (dw rcX12_end_0 3 rfl)
theorem dX12_end_6 : decode cX12_end 6 = .ok (.getfield 178, 3) := dk_180 (dw rcX12_end_0 4 rfl) rfl
theorem dX12_end_9 : decode cX12_end 9 = .ok (.if_icmp .le 5, 3) := dk_164 (dw rcX12_end_0 5 rfl) rfl
theorem dX12_end_12 : decode cX12_end 12 = .ok (.iconst (-1), 1) := dk_2 (dw rcX12_end_0 6 rfl)
theorem dX12_end_13 : decode cX12_end 13 = .ok (.ireturn, 1) := dk_172 (dw rcX12_end_0 7 rfl)
theorem dX12_end_14 : decode cX12_end 14 = .ok (.aload_n 0, 1) := dk_42 (dw rcX12_end_0 8 rfl)
theorem dX12_end_15 : decode cX12_end 15 = .ok (.iload_n 1, 1) := dk_27 (dw rcX12_end_0 9 rfl)
theorem dX12_end_16 : decode cX12_end 16 = .ok (.putfield 178, 3) := dk_181 (dw rcX12_end_0 10 rfl) rfl
theorem dX12_end_19 : decode cX12_end 19 = .ok (.iload_n 1, 1) := dk_27 (dw rcX12_end_0 11 rfl)
theorem dX12_end_20 : decode cX12_end 20 = .ok (.ireturn, 1) := dk_172 (dw rcX12_end_0 12 rfl)
noncomputable def rbX12_feed_0 : List (Nat × List Nat) := [(0, [42]), (1, [180, 0, 178]), (4, [16, 20]), (6, [96]), (7, [17, 6, 64]), (10, [164, 0, 5]), (13, [2]), (14, [172]), (15, [42]), (16, [27]), (17, [182, 0, 181]), (20, [42]), (21, [28]), (22, [182, 0, 181]), (25, [42]), (26, [29]), (27, [182, 0, 181]), (30, [42]), (31, [21, 4]), (33, [182, 0, 181]), (36, [42]), (37, [21, 5]), (39, [182, 0, 181]), (42, [42])]
theorem rcX12_feed_0 : dgo (lb cX12_feed) 0 rbX12_feed_0 = true := by decide +kernel
theorem dX12_feed_0 : decode cX12_feed 0 = .ok (.aload_n 0, 1) := dk_42 (dw rcX12_feed_0 0 rfl)
theorem dX12_feed_1 : decode cX12_feed 1 = .ok (.getfield 178, 3) := dk_180 (dw rcX12_feed_0 1 rfl) rfl
theorem dX12_feed_4 : decode cX12_feed 4 = .ok (.bipush 20, 2) := dk_16 (dw rcX12_feed_0 2 rfl) rfl
theorem dX12_feed_6 : decode cX12_feed 6 = .ok (.iadd, 1) := dk_96 (dw rcX12_feed_0 3 rfl)
theorem dX12_feed_7 : decode cX12_feed 7 = .ok (.sipush 1600, 3) := dk_17 (dw rcX12_feed_0 4 rfl) rfl
theorem dX12_feed_10 : decode cX12_feed 10 = .ok (.if_icmp .le 5, 3) := dk_164 (dw rcX12_feed_0 5 rfl) rfl
theorem dX12_feed_13 : decode cX12_feed 13 = .ok (.iconst (-1), 1) := dk_2 (dw rcX12_feed_0 6 rfl)
theorem dX12_feed_14 : decode cX12_feed 14 = .ok (.ireturn, 1) := dk_172 (dw rcX12_feed_0 7 rfl)
theorem dX12_feed_15 : decode cX12_feed 15 = .ok (.aload_n 0, 1) := dk_42 (dw rcX12_feed_0 8 rfl)
theorem dX12_feed_16 : decode cX12_feed 16 = .ok (.iload_n 1, 1) := dk_27 (dw rcX12_feed_0 9 rfl)
theorem dX12_feed_17 : decode cX12_feed 17 = .ok (.invokevirtual 181, 3) := dk_182 (dw rcX12_feed_0 10 rfl) rfl
theorem dX12_feed_20 : decode cX12_feed 20 = .ok (.aload_n 0, 1) := dk_42 (dw rcX12_feed_0 11 rfl)
theorem dX12_feed_21 : decode cX12_feed 21 = .ok (.iload_n 2, 1) := dk_28 (dw rcX12_feed_0 12 rfl)
theorem dX12_feed_22 : decode cX12_feed 22 = .ok (.invokevirtual 181, 3) := dk_182 (dw rcX12_feed_0 13 rfl) rfl
theorem dX12_feed_25 : decode cX12_feed 25 = .ok (.aload_n 0, 1) := dk_42 (dw rcX12_feed_0 14 rfl)
theorem dX12_feed_26 : decode cX12_feed 26 = .ok (.iload_n 3, 1) := dk_29 (dw rcX12_feed_0 15 rfl)
theorem dX12_feed_27 : decode cX12_feed 27 = .ok (.invokevirtual 181, 3) := dk_182 (dw rcX12_feed_0 16 rfl) rfl
theorem dX12_feed_30 : decode cX12_feed 30 = .ok (.aload_n 0, 1) := dk_42 (dw rcX12_feed_0 17 rfl)
theorem dX12_feed_31 : decode cX12_feed 31 = .ok (.iload 4, 2) := dk_21 (dw rcX12_feed_0 18 rfl)
theorem dX12_feed_33 : decode cX12_feed 33 = .ok (.invokevirtual 181, 3) := dk_182 (dw rcX12_feed_0 19 rfl) rfl
theorem dX12_feed_36 : decode cX12_feed 36 = .ok (.aload_n 0, 1) := dk_42 (dw rcX12_feed_0 20 rfl)
theorem dX12_feed_37 : decode cX12_feed 37 = .ok (.iload 5, 2) := dk_21 (dw rcX12_feed_0 21 rfl)
theorem dX12_feed_39 : decode cX12_feed 39 = .ok (.invokevirtual 181, 3) := dk_182 (dw rcX12_feed_0 22 rfl) rfl
theorem dX12_feed_42 : decode cX12_feed 42 = .ok (.aload_n 0, 1) := dk_42 (dw rcX12_feed_0 23 rfl)
noncomputable def rbX12_feed_43 : List (Nat × List Nat) := [(43, [180, 0, 178]), (46, [172])]
theorem rcX12_feed_43 : dgo (lb cX12_feed) 0 rbX12_feed_43 = true := by decide +kernel
theorem dX12_feed_43 : decode cX12_feed 43 = .ok (.getfield 178, 3) := dk_180 (dw rcX12_feed_43 0 rfl) rfl
theorem dX12_feed_46 : decode cX12_feed 46 = .ok (.ireturn, 1) := dk_172 (dw rcX12_feed_43 1 rfl)
noncomputable def rbX12_four_0 : List (Nat × List Nat) := [(0, [16, 24]), (2, [61]), (3, [28]), (4, [155, 0, 35]), (7, [42]), (8, [180, 0, 7]), (11, [42]), (12, [180, 0, 178]), (15, [27]), (16, [28]), (17, [122]), (18, [17, 0, 255]), (21, [126]), (22, [79]), (23, [42]), (24, [89]), (25, [180, 0, 178]), (28, [4]), (29, [96]), (30, [181, 0, 178]), (33, [132, 2, 248]), (36, [167, 255, 223]), (39, [177])]
theorem rcX12_four_0 : dgo (lb cX12_four) 0 rbX12_four_0 = true := by decide +kernel
theorem dX12_four_0 : decode cX12_four 0 = .ok (.bipush 24, 2) := dk_16 (dw rcX12_four_0 0 rfl) rfl
theorem dX12_four_2 : decode cX12_four 2 = .ok (.istore_n 2, 1) := dk_61 (dw rcX12_four_0 1 rfl)
theorem dX12_four_3 : decode cX12_four 3 = .ok (.iload_n 2, 1) := dk_28 (dw rcX12_four_0 2 rfl)
theorem dX12_four_4 : decode cX12_four 4 = .ok (.ifCond .lt 35, 3) := dk_155 (dw rcX12_four_0 3 rfl) rfl
theorem dX12_four_7 : decode cX12_four 7 = .ok (.aload_n 0, 1) := dk_42 (dw rcX12_four_0 4 rfl)
theorem dX12_four_8 : decode cX12_four 8 = .ok (.getfield 7, 3) := dk_180 (dw rcX12_four_0 5 rfl) rfl
theorem dX12_four_11 : decode cX12_four 11 = .ok (.aload_n 0, 1) := dk_42 (dw rcX12_four_0 6 rfl)
theorem dX12_four_12 : decode cX12_four 12 = .ok (.getfield 178, 3) := dk_180 (dw rcX12_four_0 7 rfl) rfl
theorem dX12_four_15 : decode cX12_four 15 = .ok (.iload_n 1, 1) := dk_27 (dw rcX12_four_0 8 rfl)
theorem dX12_four_16 : decode cX12_four 16 = .ok (.iload_n 2, 1) := dk_28 (dw rcX12_four_0 9 rfl)
theorem dX12_four_17 : decode cX12_four 17 = .ok (.ishr, 1) := dk_122 (dw rcX12_four_0 10 rfl)
theorem dX12_four_18 : decode cX12_four 18 = .ok (.sipush 255, 3) := dk_17 (dw rcX12_four_0 11 rfl) rfl
theorem dX12_four_21 : decode cX12_four 21 = .ok (.iand, 1) := dk_126 (dw rcX12_four_0 12 rfl)
theorem dX12_four_22 : decode cX12_four 22 = .ok (.iastore, 1) := dk_79 (dw rcX12_four_0 13 rfl)
theorem dX12_four_23 : decode cX12_four 23 = .ok (.aload_n 0, 1) := dk_42 (dw rcX12_four_0 14 rfl)
theorem dX12_four_24 : decode cX12_four 24 = .ok (.dup, 1) := dk_89 (dw rcX12_four_0 15 rfl)
theorem dX12_four_25 : decode cX12_four 25 = .ok (.getfield 178, 3) := dk_180 (dw rcX12_four_0 16 rfl) rfl
theorem dX12_four_28 : decode cX12_four 28 = .ok (.iconst 1, 1) := dk_4 (dw rcX12_four_0 17 rfl)
theorem dX12_four_29 : decode cX12_four 29 = .ok (.iadd, 1) := dk_96 (dw rcX12_four_0 18 rfl)
theorem dX12_four_30 : decode cX12_four 30 = .ok (.putfield 178, 3) := dk_181 (dw rcX12_four_0 19 rfl) rfl
theorem dX12_four_33 : decode cX12_four 33 = .ok (.iinc 2 (-8), 3) := dk_132 (dw rcX12_four_0 20 rfl) rfl
theorem dX12_four_36 : decode cX12_four 36 = .ok (.goto (-33), 3) := dk_167 (dw rcX12_four_0 21 rfl) rfl
theorem dX12_four_39 : decode cX12_four 39 = .ok (.return_, 1) := dk_177 (dw rcX12_four_0 22 rfl)
noncomputable def rbX12_here_0 : List (Nat × List Nat) := [(0, [42]), (1, [180, 0, 185]), (4, [27]), (5, [96]), (6, [42]), (7, [180, 0, 188]), (10, [162, 0, 17]), (13, [42]), (14, [180, 0, 7]), (17, [42]), (18, [180, 0, 185]), (21, [27]), (22, [96]), (23, [46]), (24, [167, 0, 4]), (27, [2]), (28, [172])]
theorem rcX12_here_0 : dgo (lb cX12_here) 0 rbX12_here_0 = true := by decide +kernel
theorem dX12_here_0 : decode cX12_here 0 = .ok (.aload_n 0, 1) := dk_42 (dw rcX12_here_0 0 rfl)
theorem dX12_here_1 : decode cX12_here 1 = .ok (.getfield 185, 3) := dk_180 (dw rcX12_here_0 1 rfl) rfl
theorem dX12_here_4 : decode cX12_here 4 = .ok (.iload_n 1, 1) := dk_27 (dw rcX12_here_0 2 rfl)
theorem dX12_here_5 : decode cX12_here 5 = .ok (.iadd, 1) := dk_96 (dw rcX12_here_0 3 rfl)
theorem dX12_here_6 : decode cX12_here 6 = .ok (.aload_n 0, 1) := dk_42 (dw rcX12_here_0 4 rfl)
theorem dX12_here_7 : decode cX12_here 7 = .ok (.getfield 188, 3) := dk_180 (dw rcX12_here_0 5 rfl) rfl
theorem dX12_here_10 : decode cX12_here 10 = .ok (.if_icmp .ge 17, 3) := dk_162 (dw rcX12_here_0 6 rfl) rfl
theorem dX12_here_13 : decode cX12_here 13 = .ok (.aload_n 0, 1) := dk_42 (dw rcX12_here_0 7 rfl)
theorem dX12_here_14 : decode cX12_here 14 = .ok (.getfield 7, 3) := dk_180 (dw rcX12_here_0 8 rfl) rfl
theorem dX12_here_17 : decode cX12_here 17 = .ok (.aload_n 0, 1) := dk_42 (dw rcX12_here_0 9 rfl)
theorem dX12_here_18 : decode cX12_here 18 = .ok (.getfield 185, 3) := dk_180 (dw rcX12_here_0 10 rfl) rfl
theorem dX12_here_21 : decode cX12_here 21 = .ok (.iload_n 1, 1) := dk_27 (dw rcX12_here_0 11 rfl)
theorem dX12_here_22 : decode cX12_here 22 = .ok (.iadd, 1) := dk_96 (dw rcX12_here_0 12 rfl)
theorem dX12_here_23 : decode cX12_here 23 = .ok (.iaload, 1) := dk_46 (dw rcX12_here_0 13 rfl)
theorem dX12_here_24 : decode cX12_here 24 = .ok (.goto 4, 3) := dk_167 (dw rcX12_here_0 14 rfl) rfl
theorem dX12_here_27 : decode cX12_here 27 = .ok (.iconst (-1), 1) := dk_2 (dw rcX12_here_0 15 rfl)
theorem dX12_here_28 : decode cX12_here 28 = .ok (.ireturn, 1) := dk_172 (dw rcX12_here_0 16 rfl)
noncomputable def rbX12_isDigit_0 : List (Nat × List Nat) := [(0, [26]), (1, [16, 48]), (3, [161, 0, 13]), (6, [26]), (7, [16, 57]), (9, [163, 0, 7]), (12, [4]), (13, [167, 0, 4]), (16, [3]), (17, [172])]
theorem rcX12_isDigit_0 : dgo (lb cX12_isDigit) 0 rbX12_isDigit_0 = true := by decide +kernel
theorem dX12_isDigit_0 : decode cX12_isDigit 0 = .ok (.iload_n 0, 1) := dk_26 (dw rcX12_isDigit_0 0 rfl)
theorem dX12_isDigit_1 : decode cX12_isDigit 1 = .ok (.bipush 48, 2) := dk_16 (dw rcX12_isDigit_0 1 rfl) rfl
theorem dX12_isDigit_3 : decode cX12_isDigit 3 = .ok (.if_icmp .lt 13, 3) := dk_161 (dw rcX12_isDigit_0 2 rfl) rfl
theorem dX12_isDigit_6 : decode cX12_isDigit 6 = .ok (.iload_n 0, 1) := dk_26 (dw rcX12_isDigit_0 3 rfl)
theorem dX12_isDigit_7 : decode cX12_isDigit 7 = .ok (.bipush 57, 2) := dk_16 (dw rcX12_isDigit_0 4 rfl) rfl
theorem dX12_isDigit_9 : decode cX12_isDigit 9 = .ok (.if_icmp .gt 7, 3) := dk_163 (dw rcX12_isDigit_0 5 rfl) rfl
theorem dX12_isDigit_12 : decode cX12_isDigit 12 = .ok (.iconst 1, 1) := dk_4 (dw rcX12_isDigit_0 6 rfl)
theorem dX12_isDigit_13 : decode cX12_isDigit 13 = .ok (.goto 4, 3) := dk_167 (dw rcX12_isDigit_0 7 rfl) rfl
theorem dX12_isDigit_16 : decode cX12_isDigit 16 = .ok (.iconst 0, 1) := dk_3 (dw rcX12_isDigit_0 8 rfl)
theorem dX12_isDigit_17 : decode cX12_isDigit 17 = .ok (.ireturn, 1) := dk_172 (dw rcX12_isDigit_0 9 rfl)
noncomputable def rbX12_isLetter_0 : List (Nat × List Nat) := [(0, [26]), (1, [16, 97]), (3, [161, 0, 13]), (6, [26]), (7, [16, 122]), (9, [163, 0, 7]), (12, [4]), (13, [167, 0, 4]), (16, [3]), (17, [172])]
theorem rcX12_isLetter_0 : dgo (lb cX12_isLetter) 0 rbX12_isLetter_0 = true := by decide +kernel
theorem dX12_isLetter_0 : decode cX12_isLetter 0 = .ok (.iload_n 0, 1) := dk_26 (dw rcX12_isLetter_0 0 rfl)
theorem dX12_isLetter_1 : decode cX12_isLetter 1 = .ok (.bipush 97, 2) := dk_16 (dw rcX12_isLetter_0 1 rfl) rfl
theorem dX12_isLetter_3 : decode cX12_isLetter 3 = .ok (.if_icmp .lt 13, 3) := dk_161 (dw rcX12_isLetter_0 2 rfl) rfl
theorem dX12_isLetter_6 : decode cX12_isLetter 6 = .ok (.iload_n 0, 1) := dk_26 (dw rcX12_isLetter_0 3 rfl)
theorem dX12_isLetter_7 : decode cX12_isLetter 7 = .ok (.bipush 122, 2) := dk_16 (dw rcX12_isLetter_0 4 rfl) rfl
theorem dX12_isLetter_9 : decode cX12_isLetter 9 = .ok (.if_icmp .gt 7, 3) := dk_163 (dw rcX12_isLetter_0 5 rfl) rfl
theorem dX12_isLetter_12 : decode cX12_isLetter 12 = .ok (.iconst 1, 1) := dk_4 (dw rcX12_isLetter_0 6 rfl)
theorem dX12_isLetter_13 : decode cX12_isLetter 13 = .ok (.goto 4, 3) := dk_167 (dw rcX12_isLetter_0 7 rfl) rfl
theorem dX12_isLetter_16 : decode cX12_isLetter 16 = .ok (.iconst 0, 1) := dk_3 (dw rcX12_isLetter_0 8 rfl)
theorem dX12_isLetter_17 : decode cX12_isLetter 17 = .ok (.ireturn, 1) := dk_172 (dw rcX12_isLetter_0 9 rfl)
noncomputable def rbX12_isSign_0 : List (Nat × List Nat) := [(0, [26]), (1, [16, 59]), (3, [159, 0, 63]), (6, [26]), (7, [16, 40]), (9, [159, 0, 57]), (12, [26]), (13, [16, 41]), (15, [159, 0, 51]), (18, [26]), (19, [16, 60]), (21, [159, 0, 45]), (24, [26]), (25, [16, 62]), (27, [159, 0, 39]), (30, [26]), (31, [16, 61]), (33, [159, 0, 33]), (36, [26]), (37, [16, 43]), (39, [159, 0, 27]), (42, [26]), (43, [16, 45]), (45, [159, 0, 21])]
theorem rcX12_isSign_0 : dgo (lb cX12_isSign) 0 rbX12_isSign_0 = true := by decide +kernel
theorem dX12_isSign_0 : decode cX12_isSign 0 = .ok (.iload_n 0, 1) := dk_26 (dw rcX12_isSign_0 0 rfl)
theorem dX12_isSign_1 : decode cX12_isSign 1 = .ok (.bipush 59, 2) := dk_16 (dw rcX12_isSign_0 1 rfl) rfl
theorem dX12_isSign_3 : decode cX12_isSign 3 = .ok (.if_icmp .eq 63, 3) := dk_159 (dw rcX12_isSign_0 2 rfl) rfl
theorem dX12_isSign_6 : decode cX12_isSign 6 = .ok (.iload_n 0, 1) := dk_26 (dw rcX12_isSign_0 3 rfl)
theorem dX12_isSign_7 : decode cX12_isSign 7 = .ok (.bipush 40, 2) := dk_16 (dw rcX12_isSign_0 4 rfl) rfl
theorem dX12_isSign_9 : decode cX12_isSign 9 = .ok (.if_icmp .eq 57, 3) := dk_159 (dw rcX12_isSign_0 5 rfl) rfl
theorem dX12_isSign_12 : decode cX12_isSign 12 = .ok (.iload_n 0, 1) := dk_26 (dw rcX12_isSign_0 6 rfl)
theorem dX12_isSign_13 : decode cX12_isSign 13 = .ok (.bipush 41, 2) := dk_16 (dw rcX12_isSign_0 7 rfl) rfl
theorem dX12_isSign_15 : decode cX12_isSign 15 = .ok (.if_icmp .eq 51, 3) := dk_159 (dw rcX12_isSign_0 8 rfl) rfl
theorem dX12_isSign_18 : decode cX12_isSign 18 = .ok (.iload_n 0, 1) := dk_26 (dw rcX12_isSign_0 9 rfl)
theorem dX12_isSign_19 : decode cX12_isSign 19 = .ok (.bipush 60, 2) := dk_16 (dw rcX12_isSign_0 10 rfl) rfl
theorem dX12_isSign_21 : decode cX12_isSign 21 = .ok (.if_icmp .eq 45, 3) := dk_159 (dw rcX12_isSign_0 11 rfl) rfl
theorem dX12_isSign_24 : decode cX12_isSign 24 = .ok (.iload_n 0, 1) := dk_26 (dw rcX12_isSign_0 12 rfl)
theorem dX12_isSign_25 : decode cX12_isSign 25 = .ok (.bipush 62, 2) := dk_16 (dw rcX12_isSign_0 13 rfl) rfl
theorem dX12_isSign_27 : decode cX12_isSign 27 = .ok (.if_icmp .eq 39, 3) := dk_159 (dw rcX12_isSign_0 14 rfl) rfl
theorem dX12_isSign_30 : decode cX12_isSign 30 = .ok (.iload_n 0, 1) := dk_26 (dw rcX12_isSign_0 15 rfl)
theorem dX12_isSign_31 : decode cX12_isSign 31 = .ok (.bipush 61, 2) := dk_16 (dw rcX12_isSign_0 16 rfl) rfl
theorem dX12_isSign_33 : decode cX12_isSign 33 = .ok (.if_icmp .eq 33, 3) := dk_159 (dw rcX12_isSign_0 17 rfl) rfl
theorem dX12_isSign_36 : decode cX12_isSign 36 = .ok (.iload_n 0, 1) := dk_26 (dw rcX12_isSign_0 18 rfl)
theorem dX12_isSign_37 : decode cX12_isSign 37 = .ok (.bipush 43, 2) := dk_16 (dw rcX12_isSign_0 19 rfl) rfl
theorem dX12_isSign_39 : decode cX12_isSign 39 = .ok (.if_icmp .eq 27, 3) := dk_159 (dw rcX12_isSign_0 20 rfl) rfl
theorem dX12_isSign_42 : decode cX12_isSign 42 = .ok (.iload_n 0, 1) := dk_26 (dw rcX12_isSign_0 21 rfl)
theorem dX12_isSign_43 : decode cX12_isSign 43 = .ok (.bipush 45, 2) := dk_16 (dw rcX12_isSign_0 22 rfl) rfl
theorem dX12_isSign_45 : decode cX12_isSign 45 = .ok (.if_icmp .eq 21, 3) := dk_159 (dw rcX12_isSign_0 23 rfl) rfl
noncomputable def rbX12_isSign_48 : List (Nat × List Nat) := [(48, [26]), (49, [16, 42]), (51, [159, 0, 15]), (54, [26]), (55, [16, 47]), (57, [159, 0, 9]), (60, [26]), (61, [16, 37]), (63, [160, 0, 7]), (66, [4]), (67, [167, 0, 4]), (70, [3]), (71, [172])]
theorem rcX12_isSign_48 : dgo (lb cX12_isSign) 0 rbX12_isSign_48 = true := by decide +kernel
theorem dX12_isSign_48 : decode cX12_isSign 48 = .ok (.iload_n 0, 1) := dk_26 (dw rcX12_isSign_48 0 rfl)
theorem dX12_isSign_49 : decode cX12_isSign 49 = .ok (.bipush 42, 2) := dk_16 (dw rcX12_isSign_48 1 rfl) rfl
theorem dX12_isSign_51 : decode cX12_isSign 51 = .ok (.if_icmp .eq 15, 3) := dk_159 (dw rcX12_isSign_48 2 rfl) rfl
theorem dX12_isSign_54 : decode cX12_isSign 54 = .ok (.iload_n 0, 1) := dk_26 (dw rcX12_isSign_48 3 rfl)
theorem dX12_isSign_55 : decode cX12_isSign 55 = .ok (.bipush 47, 2) := dk_16 (dw rcX12_isSign_48 4 rfl) rfl
theorem dX12_isSign_57 : decode cX12_isSign 57 = .ok (.if_icmp .eq 9, 3) := dk_159 (dw rcX12_isSign_48 5 rfl) rfl
theorem dX12_isSign_60 : decode cX12_isSign 60 = .ok (.iload_n 0, 1) := dk_26 (dw rcX12_isSign_48 6 rfl)
theorem dX12_isSign_61 : decode cX12_isSign 61 = .ok (.bipush 37, 2) := dk_16 (dw rcX12_isSign_48 7 rfl) rfl
theorem dX12_isSign_63 : decode cX12_isSign 63 = .ok (.if_icmp .ne 7, 3) := dk_160 (dw rcX12_isSign_48 8 rfl) rfl
theorem dX12_isSign_66 : decode cX12_isSign 66 = .ok (.iconst 1, 1) := dk_4 (dw rcX12_isSign_48 9 rfl)
theorem dX12_isSign_67 : decode cX12_isSign 67 = .ok (.goto 4, 3) := dk_167 (dw rcX12_isSign_48 10 rfl) rfl
theorem dX12_isSign_70 : decode cX12_isSign 70 = .ok (.iconst 0, 1) := dk_3 (dw rcX12_isSign_48 11 rfl)
theorem dX12_isSign_71 : decode cX12_isSign 71 = .ok (.ireturn, 1) := dk_172 (dw rcX12_isSign_48 12 rfl)
set_option maxHeartbeats 4000000 in
set_option maxRecDepth 100000 in
theorem n_four (l : Launch) (D : va_G) (k : KT) (A : Nat → Prop) (a : Nat → Nat) (z : SK) (G : GS) (p0 : Int32) (ht : (G.1 66 1).toInt ≤ 1596) : Met l yX12_four (WS yX12_four cX12_four 3 none) ({ frames := 0, cells := 0, slots := 0, locals := 0 }) (va_Pc [.ref (a 66), .int p0] (cW D k A a z G)) (va_Qv (fun (G1 : GS) => Q_four p0 G G1) (fun (G1 : GS) t => Wd D k A a G1 t.heap) A) 0 0 A := by
  refine Met.ofW (cc := cX12_four) (maxL := 3) (ret := none) (by decide) rfl ?_
  intro p e s m args below meth c s₁ B hml hv
  obtain ⟨rfl, hW, hB_G, hK, hZ⟩ := hv
  have hx := B.exec
  have hb := B.bytes
  have hr := B.returns
  have hts := atoms_spec (ws := WS yX12_four cX12_four 3 none) B.pre
  have hgd : ∀ w ∈ gd, w ∈ WS yX12_four cX12_four 3 none := fun w h => List.mem_cons_of_mem _ h
  have hg : ∀ w ∈ gd, w.before _ s = true := fun w h => hts w (hgd w h)
  have hown : s.vm.findClass RX12 = some m.cls := findClass_of_methodNamed B.named
  have hS : va_S A s.heap s.heap [] := va_S.rf
  have hF : Fr [67] [(66, 1)] G G := Fr.rf
  have hl := lv_entry ([.ref (a 66), .int p0]) (n := 3) (Nat.le_of_ble_eq_true rfl)
  rw [lg_entry_eq]
  generalize (lg_sl ([.ref (a 66), .int p0]) ++ List.replicate (3 - (lg_sl ([.ref (a 66), .int p0])).length) Slot.unset).toArray = ls at hl ⊢
  have hl : lv_has ls 3 [(0, .ref (a 66)), (1, .int p0)] := hl
  refine lv_bipush (v := 24) hx hb dX12_four_0 (by decide) ?_
  refine lv_istore_n (lv' := [(2, .int 24), (0, .ref (a 66)), (1, .int p0)]) hx hb dX12_four_2 rfl hl (lt_b rfl) rfl (fun ls hl => ?_)
  have b_7 : 0 ≤ (G.1 66 1).toInt ∧ (G.1 66 1).toInt ≤ 1600 := bd_66_1 hB_G
  have qc_8 : (24 : Int32).toInt = 24 := rfl
  refine loop_N (Inv := fun n H locs ls => ∃ (G_1 : GS) (x_5 : Int32), (n : Int) = x_5.toInt - (-8) ∧ ((-8) ≤ x_5.toInt ∧ x_5.toInt ≤ 24) ∧ (8 * (G_1.1 66 1).toInt + x_5.toInt = 8 * (G.1 66 1).toInt + 24) ∧ (x_5.toInt % 8 = 0) ∧ Rc (St_n_four_1 p0 G) (24, G) (x_5, G_1) ∧ Wd D k A a G_1 H ∧ Bd G_1 ∧ Fr [67] [(66, 1)] G G_1 ∧ Fr [67] [(66, 1)] G G_1 ∧ va_S A s.heap H locs ∧ lv_has ls 3 [(2, .int x_5), (0, .ref (a 66)), (1, .int p0)]) (fun n_4 H locs ls ih_3 hI => ?_) (24 - (-8) : Int).toNat ⟨G, 24, (Int.toNat_of_nonneg ((by decide))), ⟨(by decide), (by decide)⟩, ((by first | exact ok_481 | omega)), (by omega), Rc.rf, hW, hB_G, hF, Fr.rf, hS, lv_sub hl [0, 1, 2] rfl⟩
  obtain ⟨G_1, x_5, hn_12, f_9, f_10, f_11, hX_6, hW, hB_G_1, hF, hq_2, hS, hl⟩ := hI
  have b_13 : 0 ≤ (G_1.1 66 1).toInt ∧ (G_1.1 66 1).toInt ≤ 1600 := bd_66_1 hB_G_1
  refine lv_iload_n hx hb dX12_four_3 rfl (lv_at hl 0 rfl) ?_
  refine lv_if_lt (tgt := 39) hx hb dX12_four_4 rfl (fun c_14 => ?_) (fun c_14 => ?_)
  · have c_14 : x_5.toInt < 0 := xI_lt rfl rfl c_14
    exact W.vret hx hb hr (fun t ht _ => ⟨⟨G_1, rfl, (Q_four_mk ⟨hB_G_1, hF, ((by first | exact ok_482 f_9.1 f_10 c_14 | omega)), ⟨x_5, G_1, hX_6, f_9, f_10, f_11, hB_G_1, hq_2, ⟨c_14, rfl⟩⟩⟩), wd_t ht hW⟩, hS.F ht⟩) hS.2.2 dX12_four_39
  · have c_14 : 0 ≤ x_5.toInt := xI_nlt rfl rfl c_14
    refine lv_aload_n hx hb dX12_four_7 rfl (lv_at hl 1 rfl) ?_
    refine S_getR (n := 67) (C := RX12) (T := TX12) (N := 89) hx hb hg iX12 hown hK hW kd_66 rfl 0 (lt_b rfl) (hg (Cond.fieldLink RX12 7 "SlabWalkModel" "tape" "[I") m1314) (fun _ h9 => h9) rfl dX12_four_8 ?_
    refine lv_aload_n hx hb dX12_four_11 rfl (lv_at hl 1 rfl) ?_
    refine S_getI (v := (G_1.1 66 1)) (C := RX12) (T := TX12) (N := 89) hx hb hg iX12 hown hK hW kd_66 rfl 1 (lt_b rfl) (hg (Cond.fieldLink RX12 178 "SlabWalkModel" "taped" "I") m1315) (fun _ h9 => h9) rfl rfl dX12_four_12 ?_
    refine lv_iload_n hx hb dX12_four_15 rfl (lv_at hl 2 rfl) ?_
    refine lv_iload_n hx hb dX12_four_16 rfl (lv_at hl 0 rfl) ?_
    refine lv_ishr hx hb dX12_four_17 ?_
    refine lv_topi (fun y_15 ey_15 => ?_)
    refine lv_sipush (v := 255) hx hb dX12_four_18 (by decide) ?_
    refine lv_iand hx hb dX12_four_21 ?_
    refine lv_topi (fun y_16 ey_16 => ?_)
    have ty_16 := xI_and (Y := 255) rfl ey_16 (by decide)
    refine S_iast hx hb hK hW hS kd_67 (vin ((by first | exact b_13.1 | omega)) (by omega)) dX12_four_22 (fun G_17 H locs eG_17 hW hS => ?_)
    have hB_G_17 : Bd G_17 := hB_G_1.put (V := y_16.toInt) (lo := 0) (hi := 255) eG_17 rfl rfl rfl ((by first | exact ty_16.1 | omega)) ((by first | exact ty_16.2 | omega)) (hB_G_1.2.put eG_17 rfl)
    have hF := hF.put eG_17 (Or.inl (by decide))
    refine lv_aload_n hx hb dX12_four_23 rfl (lv_at hl 1 rfl) ?_
    refine lv_dup hx hb dX12_four_24 rfl ?_
    refine S_getI (v := (G_1.1 66 1)) (C := RX12) (T := TX12) (N := 89) hx hb hg iX12 hown hK hW kd_66 rfl 1 (lt_b rfl) (hg (Cond.fieldLink RX12 178 "SlabWalkModel" "taped" "I") m1315) (fun _ h9 => h9) rfl ((gp_ne eG_17 (fun q => absurd q.1 (Nat.ne_of_beq_eq_false rfl))).trans (rfl)) dX12_four_25 ?_
    refine ic_1 hx hb dX12_four_28 ?_
    refine lv_iadd hx hb dX12_four_29 ?_
    refine lv_topi (fun y_18 ey_18 => ?_)
    have ty_18 : y_18.toInt = (G_1.1 66 1).toInt + 1 := xI_add rfl rfl ey_18 ((by first | exact ok_21 b_13.1 | omega)) ((by first | exact ok_122 b_13.2 | omega))
    refine S_putI (ty := .int) (C := RX12) (T := TX12) (N := 89) hx hb hg iX12 tyX12 tyX12_ok nmX12 hown hK hW hS kd_66 rfl 1 (lt_b rfl) (hg (Cond.fieldLink RX12 178 "SlabWalkModel" "taped" "I") m1315) (fun _ h9 => h9) rfl (by decide +kernel) rfl rfl rfl dX12_four_30 (fun G_19 H locs eG_19 hW hS => ?_)
    have hB_G_19 : Bd G_19 := hB_G_17.put (V := y_18.toInt) (lo := 0) (hi := 1600) eG_19 rfl rfl rfl ((by first | exact ok_23 b_13.1 ty_18 | omega)) (by omega) (hB_G_17.2.put eG_19 rfl)
    have hF := hF.put eG_19 (Or.inr (by decide))
    obtain ⟨y_20, ey_20⟩ : ∃ q, q = x_5 + (-8) := ⟨_, rfl⟩
    have ty_20 : y_20.toInt = x_5.toInt + (-8) := xI_add rfl rfl ey_20 ((by first | exact ok_455 c_14 | omega)) ((by first | exact ok_456 f_9.2 | omega))
    refine lv_iinc (v := y_20) (lv' := [(2, .int y_20), (0, .ref (a 66)), (1, .int p0)]) hx hb dX12_four_33 hl (k := 0) rfl (by rw [ey_20]; rfl) (lt_b rfl) rfl (fun ls hl => ?_)
    refine lv_goto (tgt := 3) hx hb dX12_four_36 rfl ?_
    have g_21 : (G_19.1 66 1).toInt = y_18.toInt := (congrArg Int32.toInt (show G_19.1 66 1 = y_18 from (gp_eq eG_19)))
    exact ih_3 (y_20.toInt - (-8) : Int).toNat (by omega) _ _ _ ⟨G_19, y_20, (Int.toNat_of_nonneg ((by first | exact ok_457 c_14 ty_20 | omega))), ⟨(by first | exact ok_458 c_14 ty_20 | omega), (by first | exact ok_459 f_9.2 ty_20 | omega)⟩, ((by first | exact ok_483 f_10 ty_18 ty_20 g_21 | omega)), (by omega), (hX_6.st (St_n_four_1_mk ⟨x_5, G_1, y_20, G_19, rfl, rfl, f_9, f_10, f_11, hB_G_1, ⟨c_14, ⟨y_15, ey_15, ⟨y_16, ey_16, ⟨y_18, ty_18, ⟨y_20, ty_20, ⟨rfl, (Fr.put (rs := [67]) (fs := [(66, 1)]) (Fr.put (rs := [67]) (fs := [(66, 1)]) Fr.rf eG_17 (Or.inl (by decide))) eG_19 (Or.inr (by decide))), (gp_eq eG_19), (rw_put eG_19 (by decide)).trans (rw_ast eG_17)⟩⟩⟩⟩⟩⟩⟩)), hW, hB_G_19, hF, (Fr.put (rs := [67]) (fs := [(66, 1)]) (Fr.put (rs := [67]) (fs := [(66, 1)]) (Fr.call9 (rs := [67]) (fs := [(66, 1)]) Fr.rf hq_2 rfl rfl) eG_17 (Or.inl (by decide))) eG_19 (Or.inr (by decide))), hS, lv_sub hl [0, 1, 2] rfl⟩

set_option maxHeartbeats 4000000 in
set_option maxRecDepth 100000 in
theorem n_feed (l : Launch) (D : va_G) (k : KT) (A : Nat → Prop) (a : Nat → Nat) (z : SK) (G : GS) (p0 : Int32) (p1 : Int32) (p2 : Int32) (p3 : Int32) (p4 : Int32)  : Met l yX12_feed (WS yX12_feed cX12_feed 6 (some .int)) ({ frames := 1, cells := 0, slots := 0, locals := 22 }) (va_Pc [.ref (a 66), .int p0, .int p1, .int p2, .int p3, .int p4] (cW D k A a z G)) (va_Qi (fun (r : Int32) (G1 : GS) => Q_feed p0 p1 p2 p3 p4 G r G1) (fun (G1 : GS) t => Wd D k A a G1 t.heap) A) 0 0 A := by
  refine Met.ofW (cc := cX12_feed) (maxL := 6) (ret := (some .int)) (by decide) rfl ?_
  intro p e s m args below meth c s₁ B hml hv
  obtain ⟨rfl, hW, hB_G, hK, hZ⟩ := hv
  have hx := B.exec
  have hb := B.bytes
  have hr := B.returns
  have hts := atoms_spec (ws := WS yX12_feed cX12_feed 6 (some .int)) B.pre
  have hgd : ∀ w ∈ gd, w ∈ WS yX12_feed cX12_feed 6 (some .int) := fun w h => List.mem_cons_of_mem _ h
  have hg : ∀ w ∈ gd, w.before _ s = true := fun w h => hts w (hgd w h)
  have hown : s.vm.findClass RX12 = some m.cls := findClass_of_methodNamed B.named
  have hS : va_S A s.heap s.heap [] := va_S.rf
  have hF : Fr [67] [(66, 1)] G G := Fr.rf
  have hl := lv_entry ([.ref (a 66), .int p0, .int p1, .int p2, .int p3, .int p4]) (n := 6) (Nat.le_of_ble_eq_true rfl)
  rw [lg_entry_eq]
  generalize (lg_sl ([.ref (a 66), .int p0, .int p1, .int p2, .int p3, .int p4]) ++ List.replicate (6 - (lg_sl ([.ref (a 66), .int p0, .int p1, .int p2, .int p3, .int p4])).length) Slot.unset).toArray = ls at hl ⊢
  have hl : lv_has ls 6 [(0, .ref (a 66)), (1, .int p0), (2, .int p1), (3, .int p2), (4, .int p3), (5, .int p4)] := hl
  refine lv_aload_n hx hb dX12_feed_0 rfl (lv_at hl 0 rfl) ?_
  have b_1 : 0 ≤ (G.1 66 1).toInt ∧ (G.1 66 1).toInt ≤ 1600 := bd_66_1 hB_G
  refine S_getI (v := (G.1 66 1)) (C := RX12) (T := TX12) (N := 89) hx hb hg iX12 hown hK hW kd_66 rfl 1 (lt_b rfl) (hg (Cond.fieldLink RX12 178 "SlabWalkModel" "taped" "I") m1315) (fun _ h9 => h9) rfl rfl dX12_feed_1 ?_
  refine lv_bipush (v := 20) hx hb dX12_feed_4 (by decide) ?_
  refine lv_iadd hx hb dX12_feed_6 ?_
  refine lv_topi (fun y_2 ey_2 => ?_)
  have ty_2 : y_2.toInt = (G.1 66 1).toInt + 20 := xI_add rfl rfl ey_2 ((by first | exact ok_484 b_1.1 | omega)) ((by first | exact ok_485 b_1.2 | omega))
  refine lv_sipush (v := 1600) hx hb dX12_feed_7 (by decide) ?_
  refine lv_icmp_le (tgt := 15) hx hb dX12_feed_10 rfl (fun c_3 => ?_) (fun c_3 => ?_)
  · have c_3 : y_2.toInt ≤ 1600 := xI_le rfl rfl c_3
    refine lv_aload_n hx hb dX12_feed_15 rfl (lv_at hl 0 rfl) ?_
    refine lv_iload_n hx hb dX12_feed_16 rfl (lv_at hl 1 rfl) ?_
    refine S_callv (va_runV (As := [.int p0]) (rest := []) ⟨hx, hb, hml, hown, hts⟩ (n_four l D k A a z G p0 ((by first | exact ok_486 b_1.2 ty_2 c_3 | omega))) (cwV 1 hts (gd_V hgd m1586 m1588 m48 m131 m1589) rfl rfl rfl hd_X12_four ⟨Nat.le_of_ble_eq_true rfl, Nat.le_of_ble_eq_true rfl⟩) (pre_W hW hB_G hK hZ hS kd_66 rfl) rfl rfl hl.1 rfl (lv_room (Nat.le_of_ble_eq_true rfl)) dX12_feed_17 ⟨Nat.le_of_ble_eq_true rfl, Nat.le_of_ble_eq_true rfl⟩) hS (fun G_5 H locs hpo hW hS => ?_)
    have hX_8 : Q_four p0 G G_5 := hpo
    obtain ⟨hB_G_5, hq_6, hp_7, -⟩ := hpo
    have hF := hF.call9 hq_6 rfl rfl
    refine lv_aload_n hx hb dX12_feed_20 rfl (lv_at hl 0 rfl) ?_
    refine lv_iload_n hx hb dX12_feed_21 rfl (lv_at hl 2 rfl) ?_
    have b_9 : 0 ≤ (G_5.1 66 1).toInt ∧ (G_5.1 66 1).toInt ≤ 1600 := bd_66_1 hB_G_5
    refine S_callv (va_runV (As := [.int p1]) (rest := []) ⟨hx, hb, hml, hown, hts⟩ (n_four l D k A a z G_5 p1 ((by first | exact ok_487 ty_2 c_3 hp_7 b_9.2 | omega))) (cwV 1 hts (gd_V hgd m1586 m1588 m48 m131 m1589) rfl rfl rfl hd_X12_four ⟨Nat.le_of_ble_eq_true rfl, Nat.le_of_ble_eq_true rfl⟩) (pre_W hW hB_G_5 hK hZ hS kd_66 rfl) rfl rfl hl.1 rfl (lv_room (Nat.le_of_ble_eq_true rfl)) dX12_feed_22 ⟨Nat.le_of_ble_eq_true rfl, Nat.le_of_ble_eq_true rfl⟩) hS (fun G_11 H locs hpo hW hS => ?_)
    have hX_14 : Q_four p1 G_5 G_11 := hpo
    obtain ⟨hB_G_11, hq_12, hp_13, -⟩ := hpo
    have hF := hF.call9 hq_12 rfl rfl
    refine lv_aload_n hx hb dX12_feed_25 rfl (lv_at hl 0 rfl) ?_
    refine lv_iload_n hx hb dX12_feed_26 rfl (lv_at hl 3 rfl) ?_
    have b_15 : 0 ≤ (G_11.1 66 1).toInt ∧ (G_11.1 66 1).toInt ≤ 1600 := bd_66_1 hB_G_11
    refine S_callv (va_runV (As := [.int p2]) (rest := []) ⟨hx, hb, hml, hown, hts⟩ (n_four l D k A a z G_11 p2 ((by first | exact ok_488 ty_2 c_3 hp_7 hp_13 b_15.2 | omega))) (cwV 1 hts (gd_V hgd m1586 m1588 m48 m131 m1589) rfl rfl rfl hd_X12_four ⟨Nat.le_of_ble_eq_true rfl, Nat.le_of_ble_eq_true rfl⟩) (pre_W hW hB_G_11 hK hZ hS kd_66 rfl) rfl rfl hl.1 rfl (lv_room (Nat.le_of_ble_eq_true rfl)) dX12_feed_27 ⟨Nat.le_of_ble_eq_true rfl, Nat.le_of_ble_eq_true rfl⟩) hS (fun G_17 H locs hpo hW hS => ?_)
    have hX_20 : Q_four p2 G_11 G_17 := hpo
    obtain ⟨hB_G_17, hq_18, hp_19, -⟩ := hpo
    have hF := hF.call9 hq_18 rfl rfl
    refine lv_aload_n hx hb dX12_feed_30 rfl (lv_at hl 0 rfl) ?_
    refine lv_iload hx hb dX12_feed_31 (lv_at hl 4 rfl) ?_
    have b_21 : 0 ≤ (G_17.1 66 1).toInt ∧ (G_17.1 66 1).toInt ≤ 1600 := bd_66_1 hB_G_17
    refine S_callv (va_runV (As := [.int p3]) (rest := []) ⟨hx, hb, hml, hown, hts⟩ (n_four l D k A a z G_17 p3 ((by first | exact ok_489 ty_2 c_3 hp_7 hp_13 hp_19 b_21.2 | omega))) (cwV 1 hts (gd_V hgd m1586 m1588 m48 m131 m1589) rfl rfl rfl hd_X12_four ⟨Nat.le_of_ble_eq_true rfl, Nat.le_of_ble_eq_true rfl⟩) (pre_W hW hB_G_17 hK hZ hS kd_66 rfl) rfl rfl hl.1 rfl (lv_room (Nat.le_of_ble_eq_true rfl)) dX12_feed_33 ⟨Nat.le_of_ble_eq_true rfl, Nat.le_of_ble_eq_true rfl⟩) hS (fun G_23 H locs hpo hW hS => ?_)
    have hX_26 : Q_four p3 G_17 G_23 := hpo
    obtain ⟨hB_G_23, hq_24, hp_25, -⟩ := hpo
    have hF := hF.call9 hq_24 rfl rfl
    refine lv_aload_n hx hb dX12_feed_36 rfl (lv_at hl 0 rfl) ?_
    refine lv_iload hx hb dX12_feed_37 (lv_at hl 5 rfl) ?_
    have b_27 : 0 ≤ (G_23.1 66 1).toInt ∧ (G_23.1 66 1).toInt ≤ 1600 := bd_66_1 hB_G_23
    refine S_callv (va_runV (As := [.int p4]) (rest := []) ⟨hx, hb, hml, hown, hts⟩ (n_four l D k A a z G_23 p4 ((by first | exact ok_490 ty_2 c_3 hp_7 hp_13 hp_19 hp_25 b_27.2 | omega))) (cwV 1 hts (gd_V hgd m1586 m1588 m48 m131 m1589) rfl rfl rfl hd_X12_four ⟨Nat.le_of_ble_eq_true rfl, Nat.le_of_ble_eq_true rfl⟩) (pre_W hW hB_G_23 hK hZ hS kd_66 rfl) rfl rfl hl.1 rfl (lv_room (Nat.le_of_ble_eq_true rfl)) dX12_feed_39 ⟨Nat.le_of_ble_eq_true rfl, Nat.le_of_ble_eq_true rfl⟩) hS (fun G_29 H locs hpo hW hS => ?_)
    have hX_32 : Q_four p4 G_23 G_29 := hpo
    obtain ⟨hB_G_29, hq_30, hp_31, -⟩ := hpo
    have hF := hF.call9 hq_30 rfl rfl
    refine lv_aload_n hx hb dX12_feed_42 rfl (lv_at hl 0 rfl) ?_
    have b_33 : 0 ≤ (G_29.1 66 1).toInt ∧ (G_29.1 66 1).toInt ≤ 1600 := bd_66_1 hB_G_29
    refine S_getI (v := (G_29.1 66 1)) (C := RX12) (T := TX12) (N := 89) hx hb hg iX12 hown hK hW kd_66 rfl 1 (lt_b rfl) (hg (Cond.fieldLink RX12 178 "SlabWalkModel" "taped" "I") m1315) (fun _ h9 => h9) rfl rfl dX12_feed_43 ?_
    exact W.iret (v := (G_29.1 66 1)) hx hb hr (fun t ht _ => ⟨⟨(G_29.1 66 1), G_29, rfl, (Q_feed_mk ⟨hB_G_29, hF, ((by first | exact ⟨(fun h9 => ⟨(by first | exact ok_491 b_1.1 hp_7 hp_13 hp_19 hp_25 hp_31 b_33.1 b_33.2 h9 | omega), (by first | exact ok_491 b_1.1 hp_7 hp_13 hp_19 hp_25 hp_31 b_33.1 b_33.2 h9 | omega)⟩), (fun h9 => ⟨(by first | exact ok_492 ty_2 c_3 b_33.1 b_33.2 h9 | omega), (by first | exact ok_493 b_1.2 ty_2 c_3 hp_7 hp_13 hp_19 hp_25 hp_31 b_33.1 b_33.2 h9 | omega)⟩)⟩ | omega)), ⟨y_2, ty_2, (Or.inl ⟨c_3, ⟨G_5, hX_8, ⟨G_11, hX_14, ⟨G_17, hX_20, ⟨G_23, hX_26, ⟨G_29, hX_32, ⟨rfl, rfl⟩⟩⟩⟩⟩⟩⟩)⟩⟩), wd_t ht hW⟩, hS.F ht⟩) hS.2.2 dX12_feed_46
  · have c_3 : 1600 < y_2.toInt := xI_nle rfl rfl c_3
    refine ic_m1 hx hb dX12_feed_13 ?_
    exact W.iret (v := (-1)) hx hb hr (fun t ht _ => ⟨⟨(-1), G, rfl, (Q_feed_mk ⟨hB_G, hF, (by have hq : ((-1) : Int32).toInt = (-1) := rfl; (try dsimp only); omega), ⟨y_2, ty_2, (Or.inr ⟨c_3, ⟨rfl, rfl⟩⟩)⟩⟩), wd_t ht hW⟩, hS.F ht⟩) hS.2.2 dX12_feed_14

set_option maxHeartbeats 4000000 in
set_option maxRecDepth 100000 in
theorem n_end (l : Launch) (D : va_G) (k : KT) (A : Nat → Prop) (a : Nat → Nat) (z : SK) (G : GS) (p0 : Int32)  : Met l yX12_end (WS yX12_end cX12_end 2 (some .int)) ({ frames := 0, cells := 0, slots := 0, locals := 0 }) (va_Pc [.ref (a 66), .int p0] (cW D k A a z G)) (va_Qi (fun (r : Int32) (G1 : GS) => Q_end p0 G r G1) (fun (G1 : GS) t => Wd D k A a G1 t.heap) A) 0 0 A := by
  refine Met.ofW (cc := cX12_end) (maxL := 2) (ret := (some .int)) (by decide) rfl ?_
  intro p e s m args below meth c s₁ B hml hv
  obtain ⟨rfl, hW, hB_G, hK, hZ⟩ := hv
  have hx := B.exec
  have hb := B.bytes
  have hr := B.returns
  have hts := atoms_spec (ws := WS yX12_end cX12_end 2 (some .int)) B.pre
  have hgd : ∀ w ∈ gd, w ∈ WS yX12_end cX12_end 2 (some .int) := fun w h => List.mem_cons_of_mem _ h
  have hg : ∀ w ∈ gd, w.before _ s = true := fun w h => hts w (hgd w h)
  have hown : s.vm.findClass RX12 = some m.cls := findClass_of_methodNamed B.named
  have hS : va_S A s.heap s.heap [] := va_S.rf
  have hF : Fr [] [(66, 1)] G G := Fr.rf
  have hl := lv_entry ([.ref (a 66), .int p0]) (n := 2) (Nat.le_of_ble_eq_true rfl)
  rw [lg_entry_eq]
  generalize (lg_sl ([.ref (a 66), .int p0]) ++ List.replicate (2 - (lg_sl ([.ref (a 66), .int p0])).length) Slot.unset).toArray = ls at hl ⊢
  have hl : lv_has ls 2 [(0, .ref (a 66)), (1, .int p0)] := hl
  refine lv_iload_n hx hb dX12_end_0 rfl (lv_at hl 1 rfl) ?_
  refine lv_if_lt (tgt := 12) hx hb dX12_end_1 rfl (fun c_1 => ?_) (fun c_1 => ?_)
  · have c_1 : p0.toInt < 0 := xI_lt rfl rfl c_1
    refine ic_m1 hx hb dX12_end_12 ?_
    have b_2 : 0 ≤ (G.1 66 1).toInt ∧ (G.1 66 1).toInt ≤ 1600 := bd_66_1 hB_G
    exact W.iret (v := (-1)) hx hb hr (fun t ht _ => ⟨⟨(-1), G, rfl, (Q_end_mk ⟨hB_G, hF, (by have hq : ((-1) : Int32).toInt = (-1) := rfl; (try dsimp only); omega), (Or.inl ⟨c_1, ⟨rfl, rfl⟩⟩)⟩), wd_t ht hW⟩, hS.F ht⟩) hS.2.2 dX12_end_13
  · have c_1 : 0 ≤ p0.toInt := xI_nlt rfl rfl c_1
    refine lv_iload_n hx hb dX12_end_4 rfl (lv_at hl 1 rfl) ?_
    refine lv_aload_n hx hb dX12_end_5 rfl (lv_at hl 0 rfl) ?_
    have b_3 : 0 ≤ (G.1 66 1).toInt ∧ (G.1 66 1).toInt ≤ 1600 := bd_66_1 hB_G
    refine S_getI (v := (G.1 66 1)) (C := RX12) (T := TX12) (N := 89) hx hb hg iX12 hown hK hW kd_66 rfl 1 (lt_b rfl) (hg (Cond.fieldLink RX12 178 "SlabWalkModel" "taped" "I") m1315) (fun _ h9 => h9) rfl rfl dX12_end_6 ?_
    refine lv_icmp_le (tgt := 14) hx hb dX12_end_9 rfl (fun c_4 => ?_) (fun c_4 => ?_)
    · have c_4 : p0.toInt ≤ (G.1 66 1).toInt := xI_le rfl rfl c_4
      refine lv_aload_n hx hb dX12_end_14 rfl (lv_at hl 0 rfl) ?_
      refine lv_iload_n hx hb dX12_end_15 rfl (lv_at hl 1 rfl) ?_
      refine S_putI (ty := .int) (C := RX12) (T := TX12) (N := 89) hx hb hg iX12 tyX12 tyX12_ok nmX12 hown hK hW hS kd_66 rfl 1 (lt_b rfl) (hg (Cond.fieldLink RX12 178 "SlabWalkModel" "taped" "I") m1315) (fun _ h9 => h9) rfl (by decide +kernel) rfl rfl rfl dX12_end_16 (fun G_5 H locs eG_5 hW hS => ?_)
      have hB_G_5 : Bd G_5 := hB_G.put (V := p0.toInt) (lo := 0) (hi := 1600) eG_5 rfl rfl rfl ((by first | exact c_1 | omega)) ((by first | exact ok_494 b_3.2 c_4 | omega)) (hB_G.2.put eG_5 rfl)
      have hF := hF.put eG_5 (Or.inr (by decide))
      refine lv_iload_n hx hb dX12_end_19 rfl (lv_at hl 1 rfl) ?_
      have g_6 : (G_5.1 66 1).toInt = p0.toInt := (congrArg Int32.toInt (show G_5.1 66 1 = p0 from (gp_eq eG_5)))
      exact W.iret (v := p0) hx hb hr (fun t ht _ => ⟨⟨p0, G_5, rfl, (Q_end_mk ⟨hB_G_5, hF, ((by first | exact ⟨(fun h9 => ⟨(by first | exact ok_495 | omega), (by first | exact g_6 | omega)⟩), (fun h9 => ⟨(by first | exact ok_496 c_1 b_3.2 c_4 h9 | omega), (by first | exact ok_497 c_1 b_3.2 c_4 g_6 h9 | omega)⟩)⟩ | omega)), (Or.inr ⟨c_1, (Or.inl ⟨c_4, ⟨rfl, (Fr.put (rs := []) (fs := [(66, 1)]) Fr.rf eG_5 (Or.inr (by decide))), (gp_eq eG_5)⟩⟩)⟩)⟩), wd_t ht hW⟩, hS.F ht⟩) hS.2.2 dX12_end_20
    · have c_4 : (G.1 66 1).toInt < p0.toInt := xI_nle rfl rfl c_4
      refine ic_m1 hx hb dX12_end_12 ?_
      exact W.iret (v := (-1)) hx hb hr (fun t ht _ => ⟨⟨(-1), G, rfl, (Q_end_mk ⟨hB_G, hF, (by have hq : ((-1) : Int32).toInt = (-1) := rfl; (try dsimp only); omega), (Or.inr ⟨c_1, (Or.inr ⟨c_4, ⟨rfl, rfl⟩⟩)⟩)⟩), wd_t ht hW⟩, hS.F ht⟩) hS.2.2 dX12_end_13

set_option maxHeartbeats 4000000 in
set_option maxRecDepth 100000 in
theorem n_here (l : Launch) (D : va_G) (k : KT) (A : Nat → Prop) (a : Nat → Nat) (z : SK) (G : GS) (p0 : Int32) (ha_p0 : 0 ≤ p0.toInt ∧ p0.toInt ≤ 1601) : Met l yX12_here (WS yX12_here cX12_here 2 (some .int)) ({ frames := 0, cells := 0, slots := 0, locals := 0 }) (va_Pc [.ref (a 66), .int p0] (cW D k A a z G)) (va_Qi (fun (r : Int32) (G1 : GS) => Q_here p0 G r G1) (fun (G1 : GS) t => Wd D k A a G1 t.heap) A) 0 0 A := by
  refine Met.ofW (cc := cX12_here) (maxL := 2) (ret := (some .int)) (by decide) rfl ?_
  intro p e s m args below meth c s₁ B hml hv
  obtain ⟨rfl, hW, hB_G, hK, hZ⟩ := hv
  have hx := B.exec
  have hb := B.bytes
  have hr := B.returns
  have hts := atoms_spec (ws := WS yX12_here cX12_here 2 (some .int)) B.pre
  have hgd : ∀ w ∈ gd, w ∈ WS yX12_here cX12_here 2 (some .int) := fun w h => List.mem_cons_of_mem _ h
  have hg : ∀ w ∈ gd, w.before _ s = true := fun w h => hts w (hgd w h)
  have hown : s.vm.findClass RX12 = some m.cls := findClass_of_methodNamed B.named
  have hS : va_S A s.heap s.heap [] := va_S.rf
  have hF : Fr [] [] G G := Fr.rf
  have hl := lv_entry ([.ref (a 66), .int p0]) (n := 2) (Nat.le_of_ble_eq_true rfl)
  rw [lg_entry_eq]
  generalize (lg_sl ([.ref (a 66), .int p0]) ++ List.replicate (2 - (lg_sl ([.ref (a 66), .int p0])).length) Slot.unset).toArray = ls at hl ⊢
  have hl : lv_has ls 2 [(0, .ref (a 66)), (1, .int p0)] := hl
  refine lv_aload_n hx hb dX12_here_0 rfl (lv_at hl 0 rfl) ?_
  have b_1 : 0 ≤ (G.1 66 4).toInt ∧ (G.1 66 4).toInt ≤ 1600 := bd_66_4 hB_G
  refine S_getI (v := (G.1 66 4)) (C := RX12) (T := TX12) (N := 89) hx hb hg iX12 hown hK hW kd_66 rfl 4 (lt_b rfl) (hg (Cond.fieldLink RX12 185 "SlabWalkModel" "at" "I") m1318) (fun _ h9 => h9) rfl rfl dX12_here_1 ?_
  refine lv_iload_n hx hb dX12_here_4 rfl (lv_at hl 1 rfl) ?_
  refine lv_iadd hx hb dX12_here_5 ?_
  refine lv_topi (fun y_2 ey_2 => ?_)
  have ty_2 : y_2.toInt = (G.1 66 4).toInt + p0.toInt := xI_add rfl rfl ey_2 ((by first | exact ok_27 ha_p0.1 b_1.1 | omega)) ((by first | exact ok_570 ha_p0.2 b_1.2 | omega))
  refine lv_aload_n hx hb dX12_here_6 rfl (lv_at hl 0 rfl) ?_
  have b_3 : 0 ≤ (G.1 66 5).toInt ∧ (G.1 66 5).toInt ≤ 1600 := bd_66_5 hB_G
  refine S_getI (v := (G.1 66 5)) (C := RX12) (T := TX12) (N := 89) hx hb hg iX12 hown hK hW kd_66 rfl 5 (lt_b rfl) (hg (Cond.fieldLink RX12 188 "SlabWalkModel" "size" "I") m1319) (fun _ h9 => h9) rfl rfl dX12_here_7 ?_
  refine lv_icmp_ge (tgt := 27) hx hb dX12_here_10 rfl (fun c_4 => ?_) (fun c_4 => ?_)
  · have c_4 : (G.1 66 5).toInt ≤ y_2.toInt := xI_le rfl rfl c_4
    refine ic_m1 hx hb dX12_here_27 ?_
    exact W.iret (v := (-1)) hx hb hr (fun t ht _ => ⟨⟨(-1), G, rfl, (Q_here_mk ⟨hB_G, hF, ⟨by decide, by decide⟩, (by have hq : ((-1) : Int32).toInt = (-1) := rfl; (try dsimp only); omega), ⟨y_2, ty_2, (Or.inl ⟨c_4, ⟨rfl, rfl⟩⟩)⟩⟩), wd_t ht hW⟩, hS.F ht⟩) hS.2.2 dX12_here_28
  · have c_4 : y_2.toInt < (G.1 66 5).toInt := xI_nle rfl rfl c_4
    refine lv_aload_n hx hb dX12_here_13 rfl (lv_at hl 0 rfl) ?_
    refine S_getR (n := 67) (C := RX12) (T := TX12) (N := 89) hx hb hg iX12 hown hK hW kd_66 rfl 0 (lt_b rfl) (hg (Cond.fieldLink RX12 7 "SlabWalkModel" "tape" "[I") m1314) (fun _ h9 => h9) rfl dX12_here_14 ?_
    refine lv_aload_n hx hb dX12_here_17 rfl (lv_at hl 0 rfl) ?_
    refine S_getI (v := (G.1 66 4)) (C := RX12) (T := TX12) (N := 89) hx hb hg iX12 hown hK hW kd_66 rfl 4 (lt_b rfl) (hg (Cond.fieldLink RX12 185 "SlabWalkModel" "at" "I") m1318) (fun _ h9 => h9) rfl rfl dX12_here_18 ?_
    refine lv_iload_n hx hb dX12_here_21 rfl (lv_at hl 1 rfl) ?_
    refine lv_iadd hx hb dX12_here_22 ?_
    refine lv_topi (fun y_5 ey_5 => ?_)
    have ty_5 : y_5.toInt = (G.1 66 4).toInt + p0.toInt := xI_add rfl rfl ey_5 ((by first | exact ok_27 ha_p0.1 b_1.1 | omega)) ((by first | exact ok_570 ha_p0.2 b_1.2 | omega))
    refine S_iald hx hb hK hW kd_67 (vin ((by first | exact ok_116 ha_p0.1 b_1.1 ty_5 | omega)) ((by first | exact ok_571 ha_p0.2 b_1.2 ty_2 b_3.2 c_4 ty_5 | omega))) dX12_here_23 (fun y_6 ey_6 => ?_)
    have ty_6 : 0 ≤ y_6.toInt ∧ y_6.toInt ≤ 255 := bv_67 hB_G ey_6
    refine lv_goto (tgt := 28) hx hb dX12_here_24 rfl ?_
    exact W.iret (v := y_6) hx hb hr (fun t ht _ => ⟨⟨y_6, G, rfl, (Q_here_mk ⟨hB_G, hF, ⟨(by first | exact ok_67 ty_6.1 | omega), (by first | exact ty_6.2 | omega)⟩, (by omega), ⟨y_2, ty_2, (Or.inr ⟨c_4, ⟨y_5, ty_5, ⟨y_6, ey_6, ⟨rfl, rfl⟩⟩⟩⟩)⟩⟩), wd_t ht hW⟩, hS.F ht⟩) hS.2.2 dX12_here_28

set_option maxHeartbeats 4000000 in
set_option maxRecDepth 100000 in
theorem n_letter (l : Launch) (D : va_G) (k : KT) (A : Nat → Prop) (a : Nat → Nat) (z : SK) (G : GS) (p0 : Int32)  : Met l yX12_isLetter (WS yX12_isLetter cX12_isLetter 1 (some .boolean)) ({ frames := 0, cells := 0, slots := 0, locals := 0 }) (va_Pc [.int p0] (cW D k A a z G)) (va_Qi (fun (r : Int32) (G1 : GS) => Q_letter p0 G r G1) (fun (G1 : GS) t => Wd D k A a G1 t.heap) A) 0 0 A := by
  refine Met.ofW (cc := cX12_isLetter) (maxL := 1) (ret := (some .boolean)) (by decide) rfl ?_
  intro p e s m args below meth c s₁ B hml hv
  obtain ⟨rfl, hW, hB_G, hK, hZ⟩ := hv
  have hx := B.exec
  have hb := B.bytes
  have hr := B.returns
  have hts := atoms_spec (ws := WS yX12_isLetter cX12_isLetter 1 (some .boolean)) B.pre
  have hgd : ∀ w ∈ gd, w ∈ WS yX12_isLetter cX12_isLetter 1 (some .boolean) := fun w h => List.mem_cons_of_mem _ h
  have hg : ∀ w ∈ gd, w.before _ s = true := fun w h => hts w (hgd w h)
  have hown : s.vm.findClass RX12 = some m.cls := findClass_of_methodNamed B.named
  have hS : va_S A s.heap s.heap [] := va_S.rf
  have hF : Fr [] [] G G := Fr.rf
  have hl := lv_entry ([.int p0]) (n := 1) (Nat.le_of_ble_eq_true rfl)
  rw [lg_entry_eq]
  generalize (lg_sl ([.int p0]) ++ List.replicate (1 - (lg_sl ([.int p0])).length) Slot.unset).toArray = ls at hl ⊢
  have hl : lv_has ls 1 [(0, .int p0)] := hl
  refine lv_iload_n hx hb dX12_isLetter_0 rfl (lv_at hl 0 rfl) ?_
  refine lv_bipush (v := 97) hx hb dX12_isLetter_1 (by decide) ?_
  refine lv_icmp_lt (tgt := 16) hx hb dX12_isLetter_3 rfl (fun c_1 => ?_) (fun c_1 => ?_)
  · have c_1 : p0.toInt < 97 := xI_lt rfl rfl c_1
    refine ic_0 hx hb dX12_isLetter_16 ?_
    exact W.zret (v := 0) hx hb hr (by decide) (fun t ht _ => ⟨⟨0, G, rfl, (Q_letter_mk ⟨hB_G, hF, ⟨by decide, by decide⟩, (by have hq : (0 : Int32).toInt = 0 := rfl; (try dsimp only); omega), (Or.inl ⟨c_1, ⟨rfl, rfl⟩⟩)⟩), wd_t ht hW⟩, hS.F ht⟩) hS.2.2 dX12_isLetter_17
  · have c_1 : 97 ≤ p0.toInt := xI_nlt rfl rfl c_1
    refine lv_iload_n hx hb dX12_isLetter_6 rfl (lv_at hl 0 rfl) ?_
    refine lv_bipush (v := 122) hx hb dX12_isLetter_7 (by decide) ?_
    refine lv_icmp_gt (tgt := 16) hx hb dX12_isLetter_9 rfl (fun c_2 => ?_) (fun c_2 => ?_)
    · have c_2 : 122 < p0.toInt := xI_lt rfl rfl c_2
      refine ic_0 hx hb dX12_isLetter_16 ?_
      exact W.zret (v := 0) hx hb hr (by decide) (fun t ht _ => ⟨⟨0, G, rfl, (Q_letter_mk ⟨hB_G, hF, ⟨by decide, by decide⟩, (by have hq : (0 : Int32).toInt = 0 := rfl; (try dsimp only); omega), (Or.inr ⟨c_1, (Or.inl ⟨c_2, ⟨rfl, rfl⟩⟩)⟩)⟩), wd_t ht hW⟩, hS.F ht⟩) hS.2.2 dX12_isLetter_17
    · have c_2 : p0.toInt ≤ 122 := xI_nlt rfl rfl c_2
      refine ic_1 hx hb dX12_isLetter_12 ?_
      refine lv_goto (tgt := 17) hx hb dX12_isLetter_13 rfl ?_
      exact W.zret (v := 1) hx hb hr (by decide) (fun t ht _ => ⟨⟨1, G, rfl, (Q_letter_mk ⟨hB_G, hF, ⟨by decide, by decide⟩, (by have hq : (1 : Int32).toInt = 1 := rfl; (try dsimp only); omega), (Or.inr ⟨c_1, (Or.inr ⟨c_2, ⟨rfl, rfl⟩⟩)⟩)⟩), wd_t ht hW⟩, hS.F ht⟩) hS.2.2 dX12_isLetter_17

set_option maxHeartbeats 4000000 in
set_option maxRecDepth 100000 in
theorem n_digit (l : Launch) (D : va_G) (k : KT) (A : Nat → Prop) (a : Nat → Nat) (z : SK) (G : GS) (p0 : Int32)  : Met l yX12_isDigit (WS yX12_isDigit cX12_isDigit 1 (some .boolean)) ({ frames := 0, cells := 0, slots := 0, locals := 0 }) (va_Pc [.int p0] (cW D k A a z G)) (va_Qi (fun (r : Int32) (G1 : GS) => Q_digit p0 G r G1) (fun (G1 : GS) t => Wd D k A a G1 t.heap) A) 0 0 A := by
  refine Met.ofW (cc := cX12_isDigit) (maxL := 1) (ret := (some .boolean)) (by decide) rfl ?_
  intro p e s m args below meth c s₁ B hml hv
  obtain ⟨rfl, hW, hB_G, hK, hZ⟩ := hv
  have hx := B.exec
  have hb := B.bytes
  have hr := B.returns
  have hts := atoms_spec (ws := WS yX12_isDigit cX12_isDigit 1 (some .boolean)) B.pre
  have hgd : ∀ w ∈ gd, w ∈ WS yX12_isDigit cX12_isDigit 1 (some .boolean) := fun w h => List.mem_cons_of_mem _ h
  have hg : ∀ w ∈ gd, w.before _ s = true := fun w h => hts w (hgd w h)
  have hown : s.vm.findClass RX12 = some m.cls := findClass_of_methodNamed B.named
  have hS : va_S A s.heap s.heap [] := va_S.rf
  have hF : Fr [] [] G G := Fr.rf
  have hl := lv_entry ([.int p0]) (n := 1) (Nat.le_of_ble_eq_true rfl)
  rw [lg_entry_eq]
  generalize (lg_sl ([.int p0]) ++ List.replicate (1 - (lg_sl ([.int p0])).length) Slot.unset).toArray = ls at hl ⊢
  have hl : lv_has ls 1 [(0, .int p0)] := hl
  refine lv_iload_n hx hb dX12_isDigit_0 rfl (lv_at hl 0 rfl) ?_
  refine lv_bipush (v := 48) hx hb dX12_isDigit_1 (by decide) ?_
  refine lv_icmp_lt (tgt := 16) hx hb dX12_isDigit_3 rfl (fun c_1 => ?_) (fun c_1 => ?_)
  · have c_1 : p0.toInt < 48 := xI_lt rfl rfl c_1
    refine ic_0 hx hb dX12_isDigit_16 ?_
    exact W.zret (v := 0) hx hb hr (by decide) (fun t ht _ => ⟨⟨0, G, rfl, (Q_digit_mk ⟨hB_G, hF, ⟨by decide, by decide⟩, (by have hq : (0 : Int32).toInt = 0 := rfl; (try dsimp only); omega), (Or.inl ⟨c_1, ⟨rfl, rfl⟩⟩)⟩), wd_t ht hW⟩, hS.F ht⟩) hS.2.2 dX12_isDigit_17
  · have c_1 : 48 ≤ p0.toInt := xI_nlt rfl rfl c_1
    refine lv_iload_n hx hb dX12_isDigit_6 rfl (lv_at hl 0 rfl) ?_
    refine lv_bipush (v := 57) hx hb dX12_isDigit_7 (by decide) ?_
    refine lv_icmp_gt (tgt := 16) hx hb dX12_isDigit_9 rfl (fun c_2 => ?_) (fun c_2 => ?_)
    · have c_2 : 57 < p0.toInt := xI_lt rfl rfl c_2
      refine ic_0 hx hb dX12_isDigit_16 ?_
      exact W.zret (v := 0) hx hb hr (by decide) (fun t ht _ => ⟨⟨0, G, rfl, (Q_digit_mk ⟨hB_G, hF, ⟨by decide, by decide⟩, (by have hq : (0 : Int32).toInt = 0 := rfl; (try dsimp only); omega), (Or.inr ⟨c_1, (Or.inl ⟨c_2, ⟨rfl, rfl⟩⟩)⟩)⟩), wd_t ht hW⟩, hS.F ht⟩) hS.2.2 dX12_isDigit_17
    · have c_2 : p0.toInt ≤ 57 := xI_nlt rfl rfl c_2
      refine ic_1 hx hb dX12_isDigit_12 ?_
      refine lv_goto (tgt := 17) hx hb dX12_isDigit_13 rfl ?_
      exact W.zret (v := 1) hx hb hr (by decide) (fun t ht _ => ⟨⟨1, G, rfl, (Q_digit_mk ⟨hB_G, hF, ⟨by decide, by decide⟩, (by have hq : (1 : Int32).toInt = 1 := rfl; (try dsimp only); omega), (Or.inr ⟨c_1, (Or.inr ⟨c_2, ⟨rfl, rfl⟩⟩)⟩)⟩), wd_t ht hW⟩, hS.F ht⟩) hS.2.2 dX12_isDigit_17

set_option maxHeartbeats 4000000 in
set_option maxRecDepth 100000 in
theorem n_sign (l : Launch) (D : va_G) (k : KT) (A : Nat → Prop) (a : Nat → Nat) (z : SK) (G : GS) (p0 : Int32)  : Met l yX12_isSign (WS yX12_isSign cX12_isSign 1 (some .boolean)) ({ frames := 0, cells := 0, slots := 0, locals := 0 }) (va_Pc [.int p0] (cW D k A a z G)) (va_Qi (fun (r : Int32) (G1 : GS) => Q_sign p0 G r G1) (fun (G1 : GS) t => Wd D k A a G1 t.heap) A) 0 0 A := by
  refine Met.ofW (cc := cX12_isSign) (maxL := 1) (ret := (some .boolean)) (by decide) rfl ?_
  intro p e s m args below meth c s₁ B hml hv
  obtain ⟨rfl, hW, hB_G, hK, hZ⟩ := hv
  have hx := B.exec
  have hb := B.bytes
  have hr := B.returns
  have hts := atoms_spec (ws := WS yX12_isSign cX12_isSign 1 (some .boolean)) B.pre
  have hgd : ∀ w ∈ gd, w ∈ WS yX12_isSign cX12_isSign 1 (some .boolean) := fun w h => List.mem_cons_of_mem _ h
  have hg : ∀ w ∈ gd, w.before _ s = true := fun w h => hts w (hgd w h)
  have hown : s.vm.findClass RX12 = some m.cls := findClass_of_methodNamed B.named
  have hS : va_S A s.heap s.heap [] := va_S.rf
  have hF : Fr [] [] G G := Fr.rf
  have hl := lv_entry ([.int p0]) (n := 1) (Nat.le_of_ble_eq_true rfl)
  rw [lg_entry_eq]
  generalize (lg_sl ([.int p0]) ++ List.replicate (1 - (lg_sl ([.int p0])).length) Slot.unset).toArray = ls at hl ⊢
  have hl : lv_has ls 1 [(0, .int p0)] := hl
  refine lv_iload_n hx hb dX12_isSign_0 rfl (lv_at hl 0 rfl) ?_
  refine lv_bipush (v := 59) hx hb dX12_isSign_1 (by decide) ?_
  refine lv_icmp_eq (tgt := 66) hx hb dX12_isSign_3 rfl (fun c_1 => ?_) (fun c_1 => ?_)
  · have c_1 : p0.toInt = 59 := xI_eq rfl rfl c_1
    refine ic_1 hx hb dX12_isSign_66 ?_
    refine lv_goto (tgt := 71) hx hb dX12_isSign_67 rfl ?_
    exact W.zret (v := 1) hx hb hr (by decide) (fun t ht _ => ⟨⟨1, G, rfl, (Q_sign_mk ⟨hB_G, hF, ⟨by decide, by decide⟩, (Or.inl ⟨c_1, ⟨rfl, rfl⟩⟩)⟩), wd_t ht hW⟩, hS.F ht⟩) hS.2.2 dX12_isSign_71
  · have c_1 : p0.toInt ≠ 59 := xI_ne rfl rfl c_1
    refine lv_iload_n hx hb dX12_isSign_6 rfl (lv_at hl 0 rfl) ?_
    refine lv_bipush (v := 40) hx hb dX12_isSign_7 (by decide) ?_
    refine lv_icmp_eq (tgt := 66) hx hb dX12_isSign_9 rfl (fun c_2 => ?_) (fun c_2 => ?_)
    · have c_2 : p0.toInt = 40 := xI_eq rfl rfl c_2
      refine ic_1 hx hb dX12_isSign_66 ?_
      refine lv_goto (tgt := 71) hx hb dX12_isSign_67 rfl ?_
      exact W.zret (v := 1) hx hb hr (by decide) (fun t ht _ => ⟨⟨1, G, rfl, (Q_sign_mk ⟨hB_G, hF, ⟨by decide, by decide⟩, (Or.inr ⟨c_1, (Or.inl ⟨c_2, ⟨rfl, rfl⟩⟩)⟩)⟩), wd_t ht hW⟩, hS.F ht⟩) hS.2.2 dX12_isSign_71
    · have c_2 : p0.toInt ≠ 40 := xI_ne rfl rfl c_2
      refine lv_iload_n hx hb dX12_isSign_12 rfl (lv_at hl 0 rfl) ?_
      refine lv_bipush (v := 41) hx hb dX12_isSign_13 (by decide) ?_
      refine lv_icmp_eq (tgt := 66) hx hb dX12_isSign_15 rfl (fun c_3 => ?_) (fun c_3 => ?_)
      · have c_3 : p0.toInt = 41 := xI_eq rfl rfl c_3
        refine ic_1 hx hb dX12_isSign_66 ?_
        refine lv_goto (tgt := 71) hx hb dX12_isSign_67 rfl ?_
        exact W.zret (v := 1) hx hb hr (by decide) (fun t ht _ => ⟨⟨1, G, rfl, (Q_sign_mk ⟨hB_G, hF, ⟨by decide, by decide⟩, (Or.inr ⟨c_1, (Or.inr ⟨c_2, (Or.inl ⟨c_3, ⟨rfl, rfl⟩⟩)⟩)⟩)⟩), wd_t ht hW⟩, hS.F ht⟩) hS.2.2 dX12_isSign_71
      · have c_3 : p0.toInt ≠ 41 := xI_ne rfl rfl c_3
        refine lv_iload_n hx hb dX12_isSign_18 rfl (lv_at hl 0 rfl) ?_
        refine lv_bipush (v := 60) hx hb dX12_isSign_19 (by decide) ?_
        refine lv_icmp_eq (tgt := 66) hx hb dX12_isSign_21 rfl (fun c_4 => ?_) (fun c_4 => ?_)
        · have c_4 : p0.toInt = 60 := xI_eq rfl rfl c_4
          refine ic_1 hx hb dX12_isSign_66 ?_
          refine lv_goto (tgt := 71) hx hb dX12_isSign_67 rfl ?_
          exact W.zret (v := 1) hx hb hr (by decide) (fun t ht _ => ⟨⟨1, G, rfl, (Q_sign_mk ⟨hB_G, hF, ⟨by decide, by decide⟩, (Or.inr ⟨c_1, (Or.inr ⟨c_2, (Or.inr ⟨c_3, (Or.inl ⟨c_4, ⟨rfl, rfl⟩⟩)⟩)⟩)⟩)⟩), wd_t ht hW⟩, hS.F ht⟩) hS.2.2 dX12_isSign_71
        · have c_4 : p0.toInt ≠ 60 := xI_ne rfl rfl c_4
          refine lv_iload_n hx hb dX12_isSign_24 rfl (lv_at hl 0 rfl) ?_
          refine lv_bipush (v := 62) hx hb dX12_isSign_25 (by decide) ?_
          refine lv_icmp_eq (tgt := 66) hx hb dX12_isSign_27 rfl (fun c_5 => ?_) (fun c_5 => ?_)
          · have c_5 : p0.toInt = 62 := xI_eq rfl rfl c_5
            refine ic_1 hx hb dX12_isSign_66 ?_
            refine lv_goto (tgt := 71) hx hb dX12_isSign_67 rfl ?_
            exact W.zret (v := 1) hx hb hr (by decide) (fun t ht _ => ⟨⟨1, G, rfl, (Q_sign_mk ⟨hB_G, hF, ⟨by decide, by decide⟩, (Or.inr ⟨c_1, (Or.inr ⟨c_2, (Or.inr ⟨c_3, (Or.inr ⟨c_4, (Or.inl ⟨c_5, ⟨rfl, rfl⟩⟩)⟩)⟩)⟩)⟩)⟩), wd_t ht hW⟩, hS.F ht⟩) hS.2.2 dX12_isSign_71
          · have c_5 : p0.toInt ≠ 62 := xI_ne rfl rfl c_5
            refine lv_iload_n hx hb dX12_isSign_30 rfl (lv_at hl 0 rfl) ?_
            refine lv_bipush (v := 61) hx hb dX12_isSign_31 (by decide) ?_
            refine lv_icmp_eq (tgt := 66) hx hb dX12_isSign_33 rfl (fun c_6 => ?_) (fun c_6 => ?_)
            · have c_6 : p0.toInt = 61 := xI_eq rfl rfl c_6
              refine ic_1 hx hb dX12_isSign_66 ?_
              refine lv_goto (tgt := 71) hx hb dX12_isSign_67 rfl ?_
              exact W.zret (v := 1) hx hb hr (by decide) (fun t ht _ => ⟨⟨1, G, rfl, (Q_sign_mk ⟨hB_G, hF, ⟨by decide, by decide⟩, (Or.inr ⟨c_1, (Or.inr ⟨c_2, (Or.inr ⟨c_3, (Or.inr ⟨c_4, (Or.inr ⟨c_5, (Or.inl ⟨c_6, ⟨rfl, rfl⟩⟩)⟩)⟩)⟩)⟩)⟩)⟩), wd_t ht hW⟩, hS.F ht⟩) hS.2.2 dX12_isSign_71
            · have c_6 : p0.toInt ≠ 61 := xI_ne rfl rfl c_6
              refine lv_iload_n hx hb dX12_isSign_36 rfl (lv_at hl 0 rfl) ?_
              refine lv_bipush (v := 43) hx hb dX12_isSign_37 (by decide) ?_
              refine lv_icmp_eq (tgt := 66) hx hb dX12_isSign_39 rfl (fun c_7 => ?_) (fun c_7 => ?_)
              · have c_7 : p0.toInt = 43 := xI_eq rfl rfl c_7
                refine ic_1 hx hb dX12_isSign_66 ?_
                refine lv_goto (tgt := 71) hx hb dX12_isSign_67 rfl ?_
                exact W.zret (v := 1) hx hb hr (by decide) (fun t ht _ => ⟨⟨1, G, rfl, (Q_sign_mk ⟨hB_G, hF, ⟨by decide, by decide⟩, (Or.inr ⟨c_1, (Or.inr ⟨c_2, (Or.inr ⟨c_3, (Or.inr ⟨c_4, (Or.inr ⟨c_5, (Or.inr ⟨c_6, (Or.inl ⟨c_7, ⟨rfl, rfl⟩⟩)⟩)⟩)⟩)⟩)⟩)⟩)⟩), wd_t ht hW⟩, hS.F ht⟩) hS.2.2 dX12_isSign_71
              · have c_7 : p0.toInt ≠ 43 := xI_ne rfl rfl c_7
                refine lv_iload_n hx hb dX12_isSign_42 rfl (lv_at hl 0 rfl) ?_
                refine lv_bipush (v := 45) hx hb dX12_isSign_43 (by decide) ?_
                refine lv_icmp_eq (tgt := 66) hx hb dX12_isSign_45 rfl (fun c_8 => ?_) (fun c_8 => ?_)
                · have c_8 : p0.toInt = 45 := xI_eq rfl rfl c_8
                  refine ic_1 hx hb dX12_isSign_66 ?_
                  refine lv_goto (tgt := 71) hx hb dX12_isSign_67 rfl ?_
                  exact W.zret (v := 1) hx hb hr (by decide) (fun t ht _ => ⟨⟨1, G, rfl, (Q_sign_mk ⟨hB_G, hF, ⟨by decide, by decide⟩, (Or.inr ⟨c_1, (Or.inr ⟨c_2, (Or.inr ⟨c_3, (Or.inr ⟨c_4, (Or.inr ⟨c_5, (Or.inr ⟨c_6, (Or.inr ⟨c_7, (Or.inl ⟨c_8, ⟨rfl, rfl⟩⟩)⟩)⟩)⟩)⟩)⟩)⟩)⟩)⟩), wd_t ht hW⟩, hS.F ht⟩) hS.2.2 dX12_isSign_71
                · have c_8 : p0.toInt ≠ 45 := xI_ne rfl rfl c_8
                  refine lv_iload_n hx hb dX12_isSign_48 rfl (lv_at hl 0 rfl) ?_
                  refine lv_bipush (v := 42) hx hb dX12_isSign_49 (by decide) ?_
                  refine lv_icmp_eq (tgt := 66) hx hb dX12_isSign_51 rfl (fun c_9 => ?_) (fun c_9 => ?_)
                  · have c_9 : p0.toInt = 42 := xI_eq rfl rfl c_9
                    refine ic_1 hx hb dX12_isSign_66 ?_
                    refine lv_goto (tgt := 71) hx hb dX12_isSign_67 rfl ?_
                    exact W.zret (v := 1) hx hb hr (by decide) (fun t ht _ => ⟨⟨1, G, rfl, (Q_sign_mk ⟨hB_G, hF, ⟨by decide, by decide⟩, (Or.inr ⟨c_1, (Or.inr ⟨c_2, (Or.inr ⟨c_3, (Or.inr ⟨c_4, (Or.inr ⟨c_5, (Or.inr ⟨c_6, (Or.inr ⟨c_7, (Or.inr ⟨c_8, (Or.inl ⟨c_9, ⟨rfl, rfl⟩⟩)⟩)⟩)⟩)⟩)⟩)⟩)⟩)⟩)⟩), wd_t ht hW⟩, hS.F ht⟩) hS.2.2 dX12_isSign_71
                  · have c_9 : p0.toInt ≠ 42 := xI_ne rfl rfl c_9
                    refine lv_iload_n hx hb dX12_isSign_54 rfl (lv_at hl 0 rfl) ?_
                    refine lv_bipush (v := 47) hx hb dX12_isSign_55 (by decide) ?_
                    refine lv_icmp_eq (tgt := 66) hx hb dX12_isSign_57 rfl (fun c_10 => ?_) (fun c_10 => ?_)
                    · have c_10 : p0.toInt = 47 := xI_eq rfl rfl c_10
                      refine ic_1 hx hb dX12_isSign_66 ?_
                      refine lv_goto (tgt := 71) hx hb dX12_isSign_67 rfl ?_
                      exact W.zret (v := 1) hx hb hr (by decide) (fun t ht _ => ⟨⟨1, G, rfl, (Q_sign_mk ⟨hB_G, hF, ⟨by decide, by decide⟩, (Or.inr ⟨c_1, (Or.inr ⟨c_2, (Or.inr ⟨c_3, (Or.inr ⟨c_4, (Or.inr ⟨c_5, (Or.inr ⟨c_6, (Or.inr ⟨c_7, (Or.inr ⟨c_8, (Or.inr ⟨c_9, (Or.inl ⟨c_10, ⟨rfl, rfl⟩⟩)⟩)⟩)⟩)⟩)⟩)⟩)⟩)⟩)⟩)⟩), wd_t ht hW⟩, hS.F ht⟩) hS.2.2 dX12_isSign_71
                    · have c_10 : p0.toInt ≠ 47 := xI_ne rfl rfl c_10
                      refine lv_iload_n hx hb dX12_isSign_60 rfl (lv_at hl 0 rfl) ?_
                      refine lv_bipush (v := 37) hx hb dX12_isSign_61 (by decide) ?_
                      refine lv_icmp_ne (tgt := 70) hx hb dX12_isSign_63 rfl (fun c_11 => ?_) (fun c_11 => ?_)
                      · have c_11 : p0.toInt ≠ 37 := xI_ne rfl rfl c_11
                        refine ic_0 hx hb dX12_isSign_70 ?_
                        exact W.zret (v := 0) hx hb hr (by decide) (fun t ht _ => ⟨⟨0, G, rfl, (Q_sign_mk ⟨hB_G, hF, ⟨by decide, by decide⟩, (Or.inr ⟨c_1, (Or.inr ⟨c_2, (Or.inr ⟨c_3, (Or.inr ⟨c_4, (Or.inr ⟨c_5, (Or.inr ⟨c_6, (Or.inr ⟨c_7, (Or.inr ⟨c_8, (Or.inr ⟨c_9, (Or.inr ⟨c_10, (Or.inr ⟨c_11, ⟨rfl, rfl⟩⟩)⟩)⟩)⟩)⟩)⟩)⟩)⟩)⟩)⟩)⟩)⟩), wd_t ht hW⟩, hS.F ht⟩) hS.2.2 dX12_isSign_71
                      · have c_11 : p0.toInt = 37 := xI_eq rfl rfl c_11
                        refine ic_1 hx hb dX12_isSign_66 ?_
                        refine lv_goto (tgt := 71) hx hb dX12_isSign_67 rfl ?_
                        exact W.zret (v := 1) hx hb hr (by decide) (fun t ht _ => ⟨⟨1, G, rfl, (Q_sign_mk ⟨hB_G, hF, ⟨by decide, by decide⟩, (Or.inr ⟨c_1, (Or.inr ⟨c_2, (Or.inr ⟨c_3, (Or.inr ⟨c_4, (Or.inr ⟨c_5, (Or.inr ⟨c_6, (Or.inr ⟨c_7, (Or.inr ⟨c_8, (Or.inr ⟨c_9, (Or.inr ⟨c_10, (Or.inl ⟨c_11, ⟨rfl, rfl⟩⟩)⟩)⟩)⟩)⟩)⟩)⟩)⟩)⟩)⟩)⟩)⟩), wd_t ht hW⟩, hS.F ht⟩) hS.2.2 dX12_isSign_71

theorem m51 : Cond.selects RX12 yX12_here yX12_here ∈ gd := gds_4 3 rfl
theorem m1320 : Cond.fieldLink RX12 205 "SlabWalkModel" "sort" "I" ∈ gd := gdc_6_0 4 rfl gw_fieldLink
theorem m1321 : Cond.fieldLink RX12 195 "SlabWalkModel" "place" "I" ∈ gd := gdc_6_0 5 rfl gw_fieldLink
theorem m1322 : Cond.fieldLink RX12 202 "SlabWalkModel" "number" "I" ∈ gd := gdc_6_0 6 rfl gw_fieldLink
theorem m1323 : Cond.fieldLink RX12 198 "SlabWalkModel" "word" "J" ∈ gd := gdc_6_0 7 rfl gw_fieldLink
theorem m1606 : Cond.methodLink RX12 191 yX12_here ∈ gd := gdc_7_3 2 rfl gw_methodLink
theorem m1608 : Cond.instanceMethod yX12_here ∈ gd := gdc_7_3 4 rfl gw_instanceMethod
theorem m1609 : Cond.code yX12_here cX12_here 2 (some .int) ∈ gd := gdc_7_3 5 rfl gw_code
theorem m1610 : Cond.methodLink RX12 208 yX12_isLetter ∈ gd := gdc_7_3 6 rfl gw_methodLink
theorem m1611 : Cond.static yX12_isLetter ∈ gd := gdc_7_3 7 rfl gw_static
theorem m1612 : Cond.code yX12_isLetter cX12_isLetter 1 (some .boolean) ∈ gd := gdc_7_3 8 rfl gw_code
theorem m1613 : Cond.methodLink RX12 212 yX12_isDigit ∈ gd := gdc_7_3 9 rfl gw_methodLink
theorem m1614 : Cond.static yX12_isDigit ∈ gd := gdc_7_3 10 rfl gw_static
theorem m1615 : Cond.code yX12_isDigit cX12_isDigit 1 (some .boolean) ∈ gd := gdc_7_3 11 rfl gw_code
theorem m1616 : Cond.methodLink RX12 215 yX12_isSign ∈ gd := gdc_7_3 12 rfl gw_methodLink
theorem m1617 : Cond.static yX12_isSign ∈ gd := gdc_7_3 13 rfl gw_static
theorem m1618 : Cond.code yX12_isSign cX12_isSign 1 (some .boolean) ∈ gd := gdc_7_3 14 rfl gw_code
noncomputable def rbX12_token_0 : List (Nat × List Nat) := [(0, [42]), (1, [3]), (2, [182, 0, 191]), (5, [16, 32]), (7, [159, 0, 13]), (10, [42]), (11, [3]), (12, [182, 0, 191]), (15, [16, 10]), (17, [160, 0, 16]), (20, [42]), (21, [89]), (22, [180, 0, 185]), (25, [4]), (26, [96]), (27, [181, 0, 185]), (30, [167, 255, 226]), (33, [42]), (34, [42]), (35, [180, 0, 185]), (38, [181, 0, 195]), (41, [42]), (42, [3]), (43, [182, 0, 191])]
theorem rcX12_token_0 : dgo (lb cX12_token) 0 rbX12_token_0 = true := by decide +kernel
theorem dX12_token_0 : decode cX12_token 0 = .ok (.aload_n 0, 1) := dk_42 (dw rcX12_token_0 0 rfl)
theorem dX12_token_1 : decode cX12_token 1 = .ok (.iconst 0, 1) := dk_3 (dw rcX12_token_0 1 rfl)
theorem dX12_token_2 : decode cX12_token 2 = .ok (.invokevirtual 191, 3) := dk_182 (dw rcX12_token_0 2 rfl) rfl
theorem dX12_token_5 : decode cX12_token 5 = .ok (.bipush 32, 2) := dk_16 (dw rcX12_token_0 3 rfl) rfl
theorem dX12_token_7 : decode cX12_token 7 = .ok (.if_icmp .eq 13, 3) := dk_159 (dw rcX12_token_0 4 rfl) rfl
theorem dX12_token_10 : decode cX12_token 10 = .ok (.aload_n 0, 1) := dk_42 (dw rcX12_token_0 5 rfl)
theorem dX12_token_11 : decode cX12_token 11 = .ok (.iconst 0, 1) := dk_3 (dw rcX12_token_0 6 rfl)
theorem dX12_token_12 : decode cX12_token 12 = .ok (.invokevirtual 191, 3) := dk_182 (dw rcX12_token_0 7 rfl) rfl
theorem dX12_token_15 : decode cX12_token 15 = .ok (.bipush 10, 2) := dk_16 (dw rcX12_token_0 8 rfl) rfl
theorem dX12_token_17 : decode cX12_token 17 = .ok (.if_icmp .ne 16, 3) := dk_160 (dw rcX12_token_0 9 rfl) rfl
theorem dX12_token_20 : decode cX12_token 20 = .ok (.aload_n 0, 1) := dk_42 (dw rcX12_token_0 10 rfl)
theorem dX12_token_21 : decode cX12_token 21 = .ok (.dup, 1) := dk_89 (dw rcX12_token_0 11 rfl)
theorem dX12_token_22 : decode cX12_token 22 = .ok (.getfield 185, 3) := dk_180 (dw rcX12_token_0 12 rfl) rfl
theorem dX12_token_25 : decode cX12_token 25 = .ok (.iconst 1, 1) := dk_4 (dw rcX12_token_0 13 rfl)
theorem dX12_token_26 : decode cX12_token 26 = .ok (.iadd, 1) := dk_96 (dw rcX12_token_0 14 rfl)
theorem dX12_token_27 : decode cX12_token 27 = .ok (.putfield 185, 3) := dk_181 (dw rcX12_token_0 15 rfl) rfl
theorem dX12_token_30 : decode cX12_token 30 = .ok (.goto (-30), 3) := dk_167 (dw rcX12_token_0 16 rfl) rfl
theorem dX12_token_33 : decode cX12_token 33 = .ok (.aload_n 0, 1) := dk_42 (dw rcX12_token_0 17 rfl)
theorem dX12_token_34 : decode cX12_token 34 = .ok (.aload_n 0, 1) := dk_42 (dw rcX12_token_0 18 rfl)
theorem dX12_token_35 : decode cX12_token 35 = .ok (.getfield 185, 3) := dk_180 (dw rcX12_token_0 19 rfl) rfl
theorem dX12_token_38 : decode cX12_token 38 = .ok (.putfield 195, 3) := dk_181 (dw rcX12_token_0 20 rfl) rfl
theorem dX12_token_41 : decode cX12_token 41 = .ok (.aload_n 0, 1) := dk_42 (dw rcX12_token_0 21 rfl)
theorem dX12_token_42 : decode cX12_token 42 = .ok (.iconst 0, 1) := dk_3 (dw rcX12_token_0 22 rfl)
theorem dX12_token_43 : decode cX12_token 43 = .ok (.invokevirtual 191, 3) := dk_182 (dw rcX12_token_0 23 rfl) rfl
noncomputable def rbX12_token_46 : List (Nat × List Nat) := [(46, [60]), (47, [3]), (48, [61]), (49, [42]), (50, [9]), (51, [181, 0, 198]), (54, [42]), (55, [3]), (56, [181, 0, 202]), (59, [27]), (60, [156, 0, 11]), (63, [42]), (64, [3]), (65, [181, 0, 205]), (68, [167, 0, 164]), (71, [27]), (72, [184, 0, 208]), (75, [153, 0, 62]), (78, [42]), (79, [28]), (80, [182, 0, 191]), (83, [184, 0, 208]), (86, [153, 0, 33]), (89, [28])]
theorem rcX12_token_46 : dgo (lb cX12_token) 0 rbX12_token_46 = true := by decide +kernel
theorem dX12_token_46 : decode cX12_token 46 = .ok (.istore_n 1, 1) := dk_60 (dw rcX12_token_46 0 rfl)
theorem dX12_token_47 : decode cX12_token 47 = .ok (.iconst 0, 1) := dk_3 (dw rcX12_token_46 1 rfl)
theorem dX12_token_48 : decode cX12_token 48 = .ok (.istore_n 2, 1) := dk_61 (dw rcX12_token_46 2 rfl)
theorem dX12_token_49 : decode cX12_token 49 = .ok (.aload_n 0, 1) := dk_42 (dw rcX12_token_46 3 rfl)
theorem dX12_token_50 : decode cX12_token 50 = .ok (.lconst 0, 1) := dk_9 (dw rcX12_token_46 4 rfl)
theorem dX12_token_51 : decode cX12_token 51 = .ok (.putfield 198, 3) := dk_181 (dw rcX12_token_46 5 rfl) rfl
theorem dX12_token_54 : decode cX12_token 54 = .ok (.aload_n 0, 1) := dk_42 (dw rcX12_token_46 6 rfl)
theorem dX12_token_55 : decode cX12_token 55 = .ok (.iconst 0, 1) := dk_3 (dw rcX12_token_46 7 rfl)
theorem dX12_token_56 : decode cX12_token 56 = .ok (.putfield 202, 3) := dk_181 (dw rcX12_token_46 8 rfl) rfl
theorem dX12_token_59 : decode cX12_token 59 = .ok (.iload_n 1, 1) := dk_27 (dw rcX12_token_46 9 rfl)
theorem dX12_token_60 : decode cX12_token 60 = .ok (.ifCond .ge 11, 3) := dk_156 (dw rcX12_token_46 10 rfl) rfl
theorem dX12_token_63 : decode cX12_token 63 = .ok (.aload_n 0, 1) := dk_42 (dw rcX12_token_46 11 rfl)
theorem dX12_token_64 : decode cX12_token 64 = .ok (.iconst 0, 1) := dk_3 (dw rcX12_token_46 12 rfl)
theorem dX12_token_65 : decode cX12_token 65 = .ok (.putfield 205, 3) := dk_181 (dw rcX12_token_46 13 rfl) rfl
theorem dX12_token_68 : decode cX12_token 68 = .ok (.goto 164, 3) := dk_167 (dw rcX12_token_46 14 rfl) rfl
theorem dX12_token_71 : decode cX12_token 71 = .ok (.iload_n 1, 1) := dk_27 (dw rcX12_token_46 15 rfl)
theorem dX12_token_72 : decode cX12_token 72 = .ok (.invokestatic 208, 3) := dk_184 (dw rcX12_token_46 16 rfl) rfl
theorem dX12_token_75 : decode cX12_token 75 = .ok (.ifCond .eq 62, 3) := dk_153 (dw rcX12_token_46 17 rfl) rfl
theorem dX12_token_78 : decode cX12_token 78 = .ok (.aload_n 0, 1) := dk_42 (dw rcX12_token_46 18 rfl)
theorem dX12_token_79 : decode cX12_token 79 = .ok (.iload_n 2, 1) := dk_28 (dw rcX12_token_46 19 rfl)
theorem dX12_token_80 : decode cX12_token 80 = .ok (.invokevirtual 191, 3) := dk_182 (dw rcX12_token_46 20 rfl) rfl
theorem dX12_token_83 : decode cX12_token 83 = .ok (.invokestatic 208, 3) := dk_184 (dw rcX12_token_46 21 rfl) rfl
theorem dX12_token_86 : decode cX12_token 86 = .ok (.ifCond .eq 33, 3) := dk_153 (dw rcX12_token_46 22 rfl) rfl
theorem dX12_token_89 : decode cX12_token 89 = .ok (.iload_n 2, 1) := dk_28 (dw rcX12_token_46 23 rfl)
noncomputable def rbX12_token_90 : List (Nat × List Nat) := [(90, [16, 8]), (92, [162, 0, 21]), (95, [42]), (96, [42]), (97, [180, 0, 198]), (100, [16, 8]), (102, [121]), (103, [42]), (104, [28]), (105, [182, 0, 191]), (108, [133]), (109, [129]), (110, [181, 0, 198]), (113, [132, 2, 1]), (116, [167, 255, 218]), (119, [42]), (120, [28]), (121, [16, 8]), (123, [164, 0, 7]), (126, [6]), (127, [167, 0, 4]), (130, [4]), (131, [181, 0, 205]), (134, [167, 0, 98])]
theorem rcX12_token_90 : dgo (lb cX12_token) 0 rbX12_token_90 = true := by decide +kernel
theorem dX12_token_90 : decode cX12_token 90 = .ok (.bipush 8, 2) := dk_16 (dw rcX12_token_90 0 rfl) rfl
theorem dX12_token_92 : decode cX12_token 92 = .ok (.if_icmp .ge 21, 3) := dk_162 (dw rcX12_token_90 1 rfl) rfl
theorem dX12_token_95 : decode cX12_token 95 = .ok (.aload_n 0, 1) := dk_42 (dw rcX12_token_90 2 rfl)
theorem dX12_token_96 : decode cX12_token 96 = .ok (.aload_n 0, 1) := dk_42 (dw rcX12_token_90 3 rfl)
theorem dX12_token_97 : decode cX12_token 97 = .ok (.getfield 198, 3) := dk_180 (dw rcX12_token_90 4 rfl) rfl
theorem dX12_token_100 : decode cX12_token 100 = .ok (.bipush 8, 2) := dk_16 (dw rcX12_token_90 5 rfl) rfl
theorem dX12_token_102 : decode cX12_token 102 = .ok (.lshl, 1) := dk_121 (dw rcX12_token_90 6 rfl)
theorem dX12_token_103 : decode cX12_token 103 = .ok (.aload_n 0, 1) := dk_42 (dw rcX12_token_90 7 rfl)
theorem dX12_token_104 : decode cX12_token 104 = .ok (.iload_n 2, 1) := dk_28 (dw rcX12_token_90 8 rfl)
theorem dX12_token_105 : decode cX12_token 105 = .ok (.invokevirtual 191, 3) := dk_182 (dw rcX12_token_90 9 rfl) rfl
theorem dX12_token_108 : decode cX12_token 108 = .ok (.i2l, 1) := dk_133 (dw rcX12_token_90 10 rfl)
theorem dX12_token_109 : decode cX12_token 109 = .ok (.lor, 1) := dk_129 (dw rcX12_token_90 11 rfl)
theorem dX12_token_110 : decode cX12_token 110 = .ok (.putfield 198, 3) := dk_181 (dw rcX12_token_90 12 rfl) rfl
theorem dX12_token_113 : decode cX12_token 113 = .ok (.iinc 2 1, 3) := dk_132 (dw rcX12_token_90 13 rfl) rfl
theorem dX12_token_116 : decode cX12_token 116 = .ok (.goto (-38), 3) := dk_167 (dw rcX12_token_90 14 rfl) rfl
theorem dX12_token_119 : decode cX12_token 119 = .ok (.aload_n 0, 1) := dk_42 (dw rcX12_token_90 15 rfl)
theorem dX12_token_120 : decode cX12_token 120 = .ok (.iload_n 2, 1) := dk_28 (dw rcX12_token_90 16 rfl)
theorem dX12_token_121 : decode cX12_token 121 = .ok (.bipush 8, 2) := dk_16 (dw rcX12_token_90 17 rfl) rfl
theorem dX12_token_123 : decode cX12_token 123 = .ok (.if_icmp .le 7, 3) := dk_164 (dw rcX12_token_90 18 rfl) rfl
theorem dX12_token_126 : decode cX12_token 126 = .ok (.iconst 3, 1) := dk_6 (dw rcX12_token_90 19 rfl)
theorem dX12_token_127 : decode cX12_token 127 = .ok (.goto 4, 3) := dk_167 (dw rcX12_token_90 20 rfl) rfl
theorem dX12_token_130 : decode cX12_token 130 = .ok (.iconst 1, 1) := dk_4 (dw rcX12_token_90 21 rfl)
theorem dX12_token_131 : decode cX12_token 131 = .ok (.putfield 205, 3) := dk_181 (dw rcX12_token_90 22 rfl) rfl
theorem dX12_token_134 : decode cX12_token 134 = .ok (.goto 98, 3) := dk_167 (dw rcX12_token_90 23 rfl) rfl
noncomputable def rbX12_token_137 : List (Nat × List Nat) := [(137, [27]), (138, [184, 0, 212]), (141, [153, 0, 73]), (144, [42]), (145, [28]), (146, [182, 0, 191]), (149, [184, 0, 212]), (152, [153, 0, 34]), (155, [28]), (156, [7]), (157, [162, 0, 23]), (160, [42]), (161, [16, 10]), (163, [42]), (164, [180, 0, 202]), (167, [104]), (168, [42]), (169, [28]), (170, [182, 0, 191]), (173, [96]), (174, [16, 48]), (176, [100]), (177, [181, 0, 202]), (180, [132, 2, 1])]
theorem rcX12_token_137 : dgo (lb cX12_token) 0 rbX12_token_137 = true := by decide +kernel
theorem dX12_token_137 : decode cX12_token 137 = .ok (.iload_n 1, 1) := dk_27 (dw rcX12_token_137 0 rfl)
theorem dX12_token_138 : decode cX12_token 138 = .ok (.invokestatic 212, 3) := dk_184 (dw rcX12_token_137 1 rfl) rfl
theorem dX12_token_141 : decode cX12_token 141 = .ok (.ifCond .eq 73, 3) := dk_153 (dw rcX12_token_137 2 rfl) rfl
theorem dX12_token_144 : decode cX12_token 144 = .ok (.aload_n 0, 1) := dk_42 (dw rcX12_token_137 3 rfl)
theorem dX12_token_145 : decode cX12_token 145 = .ok (.iload_n 2, 1) := dk_28 (dw rcX12_token_137 4 rfl)
theorem dX12_token_146 : decode cX12_token 146 = .ok (.invokevirtual 191, 3) := dk_182 (dw rcX12_token_137 5 rfl) rfl
theorem dX12_token_149 : decode cX12_token 149 = .ok (.invokestatic 212, 3) := dk_184 (dw rcX12_token_137 6 rfl) rfl
theorem dX12_token_152 : decode cX12_token 152 = .ok (.ifCond .eq 34, 3) := dk_153 (dw rcX12_token_137 7 rfl) rfl
theorem dX12_token_155 : decode cX12_token 155 = .ok (.iload_n 2, 1) := dk_28 (dw rcX12_token_137 8 rfl)
theorem dX12_token_156 : decode cX12_token 156 = .ok (.iconst 4, 1) := dk_7 (dw rcX12_token_137 9 rfl)
theorem dX12_token_157 : decode cX12_token 157 = .ok (.if_icmp .ge 23, 3) := dk_162 (dw rcX12_token_137 10 rfl) rfl
theorem dX12_token_160 : decode cX12_token 160 = .ok (.aload_n 0, 1) := dk_42 (dw rcX12_token_137 11 rfl)
theorem dX12_token_161 : decode cX12_token 161 = .ok (.bipush 10, 2) := dk_16 (dw rcX12_token_137 12 rfl) rfl
theorem dX12_token_163 : decode cX12_token 163 = .ok (.aload_n 0, 1) := dk_42 (dw rcX12_token_137 13 rfl)
theorem dX12_token_164 : decode cX12_token 164 = .ok (.getfield 202, 3) := dk_180 (dw rcX12_token_137 14 rfl) rfl
theorem dX12_token_167 : decode cX12_token 167 = .ok (.imul, 1) := dk_104 (dw rcX12_token_137 15 rfl)
theorem dX12_token_168 : decode cX12_token 168 = .ok (.aload_n 0, 1) := dk_42 (dw rcX12_token_137 16 rfl)
theorem dX12_token_169 : decode cX12_token 169 = .ok (.iload_n 2, 1) := dk_28 (dw rcX12_token_137 17 rfl)
theorem dX12_token_170 : decode cX12_token 170 = .ok (.invokevirtual 191, 3) := dk_182 (dw rcX12_token_137 18 rfl) rfl
theorem dX12_token_173 : decode cX12_token 173 = .ok (.iadd, 1) := dk_96 (dw rcX12_token_137 19 rfl)
theorem dX12_token_174 : decode cX12_token 174 = .ok (.bipush 48, 2) := dk_16 (dw rcX12_token_137 20 rfl) rfl
theorem dX12_token_176 : decode cX12_token 176 = .ok (.isub, 1) := dk_100 (dw rcX12_token_137 21 rfl)
theorem dX12_token_177 : decode cX12_token 177 = .ok (.putfield 202, 3) := dk_181 (dw rcX12_token_137 22 rfl) rfl
theorem dX12_token_180 : decode cX12_token 180 = .ok (.iinc 2 1, 3) := dk_132 (dw rcX12_token_137 23 rfl) rfl
noncomputable def rbX12_token_183 : List (Nat × List Nat) := [(183, [167, 255, 217]), (186, [42]), (187, [28]), (188, [7]), (189, [163, 0, 14]), (192, [42]), (193, [28]), (194, [182, 0, 191]), (197, [184, 0, 208]), (200, [153, 0, 7]), (203, [6]), (204, [167, 0, 4]), (207, [5]), (208, [181, 0, 205]), (211, [167, 0, 21]), (214, [4]), (215, [61]), (216, [42]), (217, [27]), (218, [184, 0, 215]), (221, [153, 0, 7]), (224, [27]), (225, [167, 0, 4]), (228, [6])]
theorem rcX12_token_183 : dgo (lb cX12_token) 0 rbX12_token_183 = true := by decide +kernel
theorem dX12_token_183 : decode cX12_token 183 = .ok (.goto (-39), 3) := dk_167 (dw rcX12_token_183 0 rfl) rfl
theorem dX12_token_186 : decode cX12_token 186 = .ok (.aload_n 0, 1) := dk_42 (dw rcX12_token_183 1 rfl)
theorem dX12_token_187 : decode cX12_token 187 = .ok (.iload_n 2, 1) := dk_28 (dw rcX12_token_183 2 rfl)
theorem dX12_token_188 : decode cX12_token 188 = .ok (.iconst 4, 1) := dk_7 (dw rcX12_token_183 3 rfl)
theorem dX12_token_189 : decode cX12_token 189 = .ok (.if_icmp .gt 14, 3) := dk_163 (dw rcX12_token_183 4 rfl) rfl
theorem dX12_token_192 : decode cX12_token 192 = .ok (.aload_n 0, 1) := dk_42 (dw rcX12_token_183 5 rfl)
theorem dX12_token_193 : decode cX12_token 193 = .ok (.iload_n 2, 1) := dk_28 (dw rcX12_token_183 6 rfl)
theorem dX12_token_194 : decode cX12_token 194 = .ok (.invokevirtual 191, 3) := dk_182 (dw rcX12_token_183 7 rfl) rfl
theorem dX12_token_197 : decode cX12_token 197 = .ok (.invokestatic 208, 3) := dk_184 (dw rcX12_token_183 8 rfl) rfl
theorem dX12_token_200 : decode cX12_token 200 = .ok (.ifCond .eq 7, 3) := dk_153 (dw rcX12_token_183 9 rfl) rfl
theorem dX12_token_203 : decode cX12_token 203 = .ok (.iconst 3, 1) := dk_6 (dw rcX12_token_183 10 rfl)
theorem dX12_token_204 : decode cX12_token 204 = .ok (.goto 4, 3) := dk_167 (dw rcX12_token_183 11 rfl) rfl
theorem dX12_token_207 : decode cX12_token 207 = .ok (.iconst 2, 1) := dk_5 (dw rcX12_token_183 12 rfl)
theorem dX12_token_208 : decode cX12_token 208 = .ok (.putfield 205, 3) := dk_181 (dw rcX12_token_183 13 rfl) rfl
theorem dX12_token_211 : decode cX12_token 211 = .ok (.goto 21, 3) := dk_167 (dw rcX12_token_183 14 rfl) rfl
theorem dX12_token_214 : decode cX12_token 214 = .ok (.iconst 1, 1) := dk_4 (dw rcX12_token_183 15 rfl)
theorem dX12_token_215 : decode cX12_token 215 = .ok (.istore_n 2, 1) := dk_61 (dw rcX12_token_183 16 rfl)
theorem dX12_token_216 : decode cX12_token 216 = .ok (.aload_n 0, 1) := dk_42 (dw rcX12_token_183 17 rfl)
theorem dX12_token_217 : decode cX12_token 217 = .ok (.iload_n 1, 1) := dk_27 (dw rcX12_token_183 18 rfl)
theorem dX12_token_218 : decode cX12_token 218 = .ok (.invokestatic 215, 3) := dk_184 (dw rcX12_token_183 19 rfl) rfl
theorem dX12_token_221 : decode cX12_token 221 = .ok (.ifCond .eq 7, 3) := dk_153 (dw rcX12_token_183 20 rfl) rfl
theorem dX12_token_224 : decode cX12_token 224 = .ok (.iload_n 1, 1) := dk_27 (dw rcX12_token_183 21 rfl)
theorem dX12_token_225 : decode cX12_token 225 = .ok (.goto 4, 3) := dk_167 (dw rcX12_token_183 22 rfl) rfl
theorem dX12_token_228 : decode cX12_token 228 = .ok (.iconst 3, 1) := dk_6 (dw rcX12_token_183 23 rfl)
noncomputable def rbX12_token_229 : List (Nat × List Nat) := [(229, [181, 0, 205]), (232, [42]), (233, [180, 0, 205]), (236, [6]), (237, [159, 0, 13]), (240, [42]), (241, [89]), (242, [180, 0, 185]), (245, [28]), (246, [96]), (247, [181, 0, 185]), (250, [177])]
theorem rcX12_token_229 : dgo (lb cX12_token) 0 rbX12_token_229 = true := by decide +kernel
theorem dX12_token_229 : decode cX12_token 229 = .ok (.putfield 205, 3) := dk_181 (dw rcX12_token_229 0 rfl) rfl
theorem dX12_token_232 : decode cX12_token 232 = .ok (.aload_n 0, 1) := dk_42 (dw rcX12_token_229 1 rfl)
theorem dX12_token_233 : decode cX12_token 233 = .ok (.getfield 205, 3) := dk_180 (dw rcX12_token_229 2 rfl) rfl
theorem dX12_token_236 : decode cX12_token 236 = .ok (.iconst 3, 1) := dk_6 (dw rcX12_token_229 3 rfl)
theorem dX12_token_237 : decode cX12_token 237 = .ok (.if_icmp .eq 13, 3) := dk_159 (dw rcX12_token_229 4 rfl) rfl
theorem dX12_token_240 : decode cX12_token 240 = .ok (.aload_n 0, 1) := dk_42 (dw rcX12_token_229 5 rfl)
theorem dX12_token_241 : decode cX12_token 241 = .ok (.dup, 1) := dk_89 (dw rcX12_token_229 6 rfl)
theorem dX12_token_242 : decode cX12_token 242 = .ok (.getfield 185, 3) := dk_180 (dw rcX12_token_229 7 rfl) rfl
theorem dX12_token_245 : decode cX12_token 245 = .ok (.iload_n 2, 1) := dk_28 (dw rcX12_token_229 8 rfl)
theorem dX12_token_246 : decode cX12_token 246 = .ok (.iadd, 1) := dk_96 (dw rcX12_token_229 9 rfl)
theorem dX12_token_247 : decode cX12_token 247 = .ok (.putfield 185, 3) := dk_181 (dw rcX12_token_229 10 rfl) rfl
theorem dX12_token_250 : decode cX12_token 250 = .ok (.return_, 1) := dk_177 (dw rcX12_token_229 11 rfl)
set_option maxHeartbeats 4000000 in
set_option maxRecDepth 100000 in
theorem n_token (l : Launch) (D : va_G) (k : KT) (A : Nat → Prop) (a : Nat → Nat) (z : SK) (G : GS)   : Met l yX12_token (WS yX12_token cX12_token 3 none) ({ frames := 1, cells := 0, slots := 0, locals := 21 }) (va_Pc [.ref (a 66)] (cW D k A a z G)) (va_Qv (fun (G1 : GS) => Q_token G G1) (fun (G1 : GS) t => Wd D k A a G1 t.heap) A) 0 0 A := by
  refine Met.ofW (cc := cX12_token) (maxL := 3) (ret := none) (by decide) rfl ?_
  intro p e s m args below meth c s₁ B hml hv
  obtain ⟨rfl, hW, hB_G, hK, hZ⟩ := hv
  have hx := B.exec
  have hb := B.bytes
  have hr := B.returns
  have hts := atoms_spec (ws := WS yX12_token cX12_token 3 none) B.pre
  have hgd : ∀ w ∈ gd, w ∈ WS yX12_token cX12_token 3 none := fun w h => List.mem_cons_of_mem _ h
  have hg : ∀ w ∈ gd, w.before _ s = true := fun w h => hts w (hgd w h)
  have hown : s.vm.findClass RX12 = some m.cls := findClass_of_methodNamed B.named
  have hS : va_S A s.heap s.heap [] := va_S.rf
  have hF : Fr [] [(66, 4), (66, 6), (66, 7), (66, 8), (66, 9)] G G := Fr.rf
  have hl := lv_entry ([.ref (a 66)]) (n := 3) (Nat.le_of_ble_eq_true rfl)
  rw [lg_entry_eq]
  generalize (lg_sl ([.ref (a 66)]) ++ List.replicate (3 - (lg_sl ([.ref (a 66)])).length) Slot.unset).toArray = ls at hl ⊢
  have hl : lv_has ls 3 [(0, .ref (a 66))] := hl
  have b_6 : 0 ≤ (G.1 66 4).toInt ∧ (G.1 66 4).toInt ≤ 1600 := bd_66_4 hB_G
  refine loop_N (Inv := fun n H locs ls => ∃ (G_1 : GS), (n : Int) = 1600 - (G_1.1 66 4).toInt ∧ ((G.1 66 4).toInt ≤ (G_1.1 66 4).toInt) ∧ Rc (St_n_token_1 G) G G_1 ∧ Wd D k A a G_1 H ∧ Bd G_1 ∧ Fr [] [(66, 4), (66, 6), (66, 7), (66, 8), (66, 9)] G G_1 ∧ Fr [] [(66, 4)] G G_1 ∧ va_S A s.heap H locs ∧ lv_has ls 3 [(0, .ref (a 66))]) (fun n_4 H locs ls ih_3 hI => ?_) (1600 - (G.1 66 4).toInt : Int).toNat ⟨G, (Int.toNat_of_nonneg ((by first | exact ok_129 b_6.2 | omega))), ((by first | exact ok_572 | omega)), Rc.rf, hW, hB_G, hF, Fr.rf, hS, lv_sub hl [0] rfl⟩
  obtain ⟨G_1, hn_8, f_7, hX_5, hW, hB_G_1, hF, hq_2, hS, hl⟩ := hI
  have b_9 : 0 ≤ (G_1.1 66 4).toInt ∧ (G_1.1 66 4).toInt ≤ 1600 := bd_66_4 hB_G_1
  refine lv_aload_n hx hb dX12_token_0 rfl (lv_at hl 0 rfl) ?_
  refine ic_0 hx hb dX12_token_1 ?_
  have qc_10 : (0 : Int32).toInt = 0 := rfl
  have b_11 : 0 ≤ (G.1 66 5).toInt ∧ (G.1 66 5).toInt ≤ 1600 := bd_66_5 hB_G
  have g_12 : (G_1.1 66 5).toInt = (G.1 66 5).toInt := (congrArg Int32.toInt (show G_1.1 66 5 = (G.1 66 5) from (hq_2.i9 66 5 rfl rfl)))
  refine S_calli (va_runV (As := [.int 0]) (rest := []) ⟨hx, hb, hml, hown, hts⟩ (n_here l D k A a z G_1 0 ⟨by decide, by decide⟩) (cwV 1 hts (gd_V hgd m1606 m1608 m51 m131 m1609) rfl rfl rfl hd_X12_here ⟨Nat.le_of_ble_eq_true rfl, Nat.le_of_ble_eq_true rfl⟩) (pre_W hW hB_G_1 hK hZ hS kd_66 rfl) rfl rfl hl.1 rfl (lv_room (Nat.le_of_ble_eq_true rfl)) dX12_token_2 ⟨Nat.le_of_ble_eq_true rfl, Nat.le_of_ble_eq_true rfl⟩) hS (fun r_13 G_14 H locs hpo hW hS => ?_)
  have hX_17 : Q_here 0 G_1 r_13 G_14 := hpo
  obtain ⟨hB_G_14, hq_15, f_18, hp_16, -⟩ := hpo
  have hF := hF.call9 hq_15 rfl rfl
  refine lv_bipush (v := 32) hx hb dX12_token_5 (by decide) ?_
  refine lv_icmp_eq (tgt := 20) hx hb dX12_token_7 rfl (fun c_19 => ?_) (fun c_19 => ?_)
  · have c_19 : r_13.toInt = 32 := xI_eq rfl rfl c_19
    refine lv_aload_n hx hb dX12_token_20 rfl (lv_at hl 0 rfl) ?_
    refine lv_dup hx hb dX12_token_21 rfl ?_
    refine S_getI (v := (G_1.1 66 4)) (C := RX12) (T := TX12) (N := 89) hx hb hg iX12 hown hK hW kd_66 rfl 4 (lt_b rfl) (hg (Cond.fieldLink RX12 185 "SlabWalkModel" "at" "I") m1318) (fun _ h9 => h9) rfl ((hq_15.i9 66 4 rfl rfl).trans (rfl)) dX12_token_22 ?_
    refine ic_1 hx hb dX12_token_25 ?_
    refine lv_iadd hx hb dX12_token_26 ?_
    refine lv_topi (fun y_20 ey_20 => ?_)
    have ty_20 : y_20.toInt = (G_1.1 66 4).toInt + 1 := xI_add rfl rfl ey_20 ((by first | exact ok_21 b_9.1 | omega)) ((by first | exact ok_122 b_9.2 | omega))
    refine S_putI (ty := .int) (C := RX12) (T := TX12) (N := 89) hx hb hg iX12 tyX12 tyX12_ok nmX12 hown hK hW hS kd_66 rfl 4 (lt_b rfl) (hg (Cond.fieldLink RX12 185 "SlabWalkModel" "at" "I") m1318) (fun _ h9 => h9) rfl (by decide +kernel) rfl rfl rfl dX12_token_27 (fun G_21 H locs eG_21 hW hS => ?_)
    have hB_G_21 : Bd G_21 := hB_G_14.put (V := y_20.toInt) (lo := 0) (hi := 1600) eG_21 rfl rfl rfl ((by first | exact ok_23 b_9.1 ty_20 | omega)) ((by first | exact ok_573 b_9.2 qc_10 b_11.2 g_12 hp_16 c_19 ty_20 | omega)) (hB_G_14.2.put eG_21 rfl)
    have hF := hF.put eG_21 (Or.inr (by decide))
    refine lv_goto (tgt := 0) hx hb dX12_token_30 rfl ?_
    have g_22 : (G_21.1 66 4).toInt = y_20.toInt := (congrArg Int32.toInt (show G_21.1 66 4 = y_20 from (gp_eq eG_21)))
    have g_23 : (G_21.1 66 4).toInt = y_20.toInt := (congrArg Int32.toInt (show G_21.1 66 4 = y_20 from (gp_eq eG_21)))
    exact ih_3 (1600 - (G_21.1 66 4).toInt : Int).toNat (by omega) _ _ _ ⟨G_21, (Int.toNat_of_nonneg ((by first | exact ok_574 b_9.2 qc_10 b_11.2 g_12 hp_16 c_19 ty_20 g_22 | omega))), ((by first | exact ok_575 f_7 ty_20 g_22 | omega)), (hX_5.st (St_n_token_1_mk ⟨G_1, G_21, rfl, rfl, f_7, hB_G_1, ⟨r_13, G_14, hX_17, (Or.inl ⟨c_19, ⟨y_20, ty_20, ⟨(Fr.put (rs := []) (fs := [(66, 4)]) Fr.rf eG_21 (Or.inr (by decide))), (gp_eq eG_21)⟩⟩⟩)⟩⟩)), hW, hB_G_21, hF, (Fr.put (rs := []) (fs := [(66, 4)]) (Fr.call9 (rs := []) (fs := [(66, 4)]) (Fr.call9 (rs := []) (fs := [(66, 4)]) Fr.rf hq_2 rfl rfl) hq_15 rfl rfl) eG_21 (Or.inr (by decide))), hS, lv_sub hl [0] rfl⟩
  · have c_19 : r_13.toInt ≠ 32 := xI_ne rfl rfl c_19
    refine lv_aload_n hx hb dX12_token_10 rfl (lv_at hl 0 rfl) ?_
    refine ic_0 hx hb dX12_token_11 ?_
    have qc_24 : (0 : Int32).toInt = 0 := rfl
    have g_25 : (G_14.1 66 4).toInt = (G_1.1 66 4).toInt := (congrArg Int32.toInt (show G_14.1 66 4 = (G_1.1 66 4) from ((hq_15.i9 66 4 rfl rfl).trans (rfl))))
    have g_26 : (G_14.1 66 5).toInt = (G.1 66 5).toInt := (congrArg Int32.toInt (show G_14.1 66 5 = (G.1 66 5) from ((hq_15.i9 66 5 rfl rfl).trans ((hq_2.i9 66 5 rfl rfl).trans (rfl)))))
    refine S_calli (va_runV (As := [.int 0]) (rest := []) ⟨hx, hb, hml, hown, hts⟩ (n_here l D k A a z G_14 0 ⟨by decide, by decide⟩) (cwV 1 hts (gd_V hgd m1606 m1608 m51 m131 m1609) rfl rfl rfl hd_X12_here ⟨Nat.le_of_ble_eq_true rfl, Nat.le_of_ble_eq_true rfl⟩) (pre_W hW hB_G_14 hK hZ hS kd_66 rfl) rfl rfl hl.1 rfl (lv_room (Nat.le_of_ble_eq_true rfl)) dX12_token_12 ⟨Nat.le_of_ble_eq_true rfl, Nat.le_of_ble_eq_true rfl⟩) hS (fun r_27 G_28 H locs hpo hW hS => ?_)
    have hX_31 : Q_here 0 G_14 r_27 G_28 := hpo
    obtain ⟨hB_G_28, hq_29, f_32, hp_30, -⟩ := hpo
    have hF := hF.call9 hq_29 rfl rfl
    refine lv_bipush (v := 10) hx hb dX12_token_15 (by decide) ?_
    refine lv_icmp_ne (tgt := 33) hx hb dX12_token_17 rfl (fun c_33 => ?_) (fun c_33 => ?_)
    · have c_33 : r_27.toInt ≠ 10 := xI_ne rfl rfl c_33
      refine lv_aload_n hx hb dX12_token_33 rfl (lv_at hl 0 rfl) ?_
      refine lv_aload_n hx hb dX12_token_34 rfl (lv_at hl 0 rfl) ?_
      refine S_getI (v := (G_1.1 66 4)) (C := RX12) (T := TX12) (N := 89) hx hb hg iX12 hown hK hW kd_66 rfl 4 (lt_b rfl) (hg (Cond.fieldLink RX12 185 "SlabWalkModel" "at" "I") m1318) (fun _ h9 => h9) rfl ((hq_29.i9 66 4 rfl rfl).trans ((hq_15.i9 66 4 rfl rfl).trans (rfl))) dX12_token_35 ?_
      refine S_putI (ty := .int) (C := RX12) (T := TX12) (N := 89) hx hb hg iX12 tyX12 tyX12_ok nmX12 hown hK hW hS kd_66 rfl 7 (lt_b rfl) (hg (Cond.fieldLink RX12 195 "SlabWalkModel" "place" "I") m1321) (fun _ h9 => h9) rfl (by decide +kernel) rfl rfl rfl dX12_token_38 (fun G_34 H locs eG_34 hW hS => ?_)
      have hB_G_34 : Bd G_34 := hB_G_28.put (V := (G_1.1 66 4).toInt) (lo := 0) (hi := 1600) eG_34 rfl rfl rfl ((by first | exact b_9.1 | omega)) ((by first | exact b_9.2 | omega)) (hB_G_28.2.put eG_34 rfl)
      have hF := hF.put eG_34 (Or.inr (by decide))
      refine lv_aload_n hx hb dX12_token_41 rfl (lv_at hl 0 rfl) ?_
      refine ic_0 hx hb dX12_token_42 ?_
      have qc_35 : (0 : Int32).toInt = 0 := rfl
      have g_36 : (G_34.1 66 4).toInt = (G_1.1 66 4).toInt := (congrArg Int32.toInt (show G_34.1 66 4 = (G_1.1 66 4) from ((gp_ne eG_34 (by decide)).trans ((hq_29.i9 66 4 rfl rfl).trans ((hq_15.i9 66 4 rfl rfl).trans (rfl))))))
      have g_37 : (G_34.1 66 5).toInt = (G.1 66 5).toInt := (congrArg Int32.toInt (show G_34.1 66 5 = (G.1 66 5) from ((gp_ne eG_34 (by decide)).trans ((hq_29.i9 66 5 rfl rfl).trans ((hq_15.i9 66 5 rfl rfl).trans ((hq_2.i9 66 5 rfl rfl).trans (rfl)))))))
      refine S_calli (va_runV (As := [.int 0]) (rest := []) ⟨hx, hb, hml, hown, hts⟩ (n_here l D k A a z G_34 0 ⟨by decide, by decide⟩) (cwV 1 hts (gd_V hgd m1606 m1608 m51 m131 m1609) rfl rfl rfl hd_X12_here ⟨Nat.le_of_ble_eq_true rfl, Nat.le_of_ble_eq_true rfl⟩) (pre_W hW hB_G_34 hK hZ hS kd_66 rfl) rfl rfl hl.1 rfl (lv_room (Nat.le_of_ble_eq_true rfl)) dX12_token_43 ⟨Nat.le_of_ble_eq_true rfl, Nat.le_of_ble_eq_true rfl⟩) hS (fun r_38 G_39 H locs hpo hW hS => ?_)
      have hX_42 : Q_here 0 G_34 r_38 G_39 := hpo
      obtain ⟨hB_G_39, hq_40, f_43, hp_41, -⟩ := hpo
      have hF := hF.call9 hq_40 rfl rfl
      refine lv_istore_n (lv' := [(1, .int r_38), (0, .ref (a 66))]) hx hb dX12_token_46 rfl hl (lt_b rfl) rfl (fun ls hl => ?_)
      refine ic_0 hx hb dX12_token_47 ?_
      refine lv_istore_n (lv' := [(2, .int 0), (1, .int r_38), (0, .ref (a 66))]) hx hb dX12_token_48 rfl hl (lt_b rfl) rfl (fun ls hl => ?_)
      refine lv_aload_n hx hb dX12_token_49 rfl (lv_at hl 2 rfl) ?_
      refine lv_lconst (v := 0) hx hb dX12_token_50 (by decide) ?_
      refine S_putL (C := RX12) (T := TX12) (N := 89) hx hb hg iX12 tyX12 tyX12_ok nmX12 hown hK hW hS kd_66 rfl 9 (lt_b rfl) (hg (Cond.fieldLink RX12 198 "SlabWalkModel" "word" "J") m1323) (fun _ h9 => h9) rfl (by decide +kernel) rfl dX12_token_51 (fun G_44 H locs eG_44 hW hS => ?_)
      have hB_G_44 : Bd G_44 := hB_G_39.putl eG_44
      have hF := hF.putl eG_44 (Or.inr (by decide))
      refine lv_aload_n hx hb dX12_token_54 rfl (lv_at hl 2 rfl) ?_
      refine ic_0 hx hb dX12_token_55 ?_
      refine S_putI (ty := .int) (C := RX12) (T := TX12) (N := 89) hx hb hg iX12 tyX12 tyX12_ok nmX12 hown hK hW hS kd_66 rfl 8 (lt_b rfl) (hg (Cond.fieldLink RX12 202 "SlabWalkModel" "number" "I") m1322) (fun _ h9 => h9) rfl (by decide +kernel) rfl rfl rfl dX12_token_56 (fun G_45 H locs eG_45 hW hS => ?_)
      have hB_G_45 : Bd G_45 := hB_G_44.put (lo := (-2147483648)) (hi := 2147483647) eG_45 rfl rfl rfl (tI_rng _).1 (tI_rng _).2 (hB_G_44.2.put eG_45 rfl)
      have hF := hF.put eG_45 (Or.inr (by decide))
      refine lv_iload_n hx hb dX12_token_59 rfl (lv_at hl 1 rfl) ?_
      refine lv_if_ge (tgt := 71) hx hb dX12_token_60 rfl (fun c_46 => ?_) (fun c_46 => ?_)
      · have c_46 : 0 ≤ r_38.toInt := xI_le rfl rfl c_46
        have d_1 := hp_41 c_46
        refine lv_iload_n hx hb dX12_token_71 rfl (lv_at hl 1 rfl) ?_
        refine S_calli (va_runS (As := [.int r_38]) (rest := []) ⟨hx, hb, hml, hown, hts⟩ (n_letter l D k A a z G_45 r_38 ) (va_cwS 1 hts (gd_S hgd m1610 m1611 m131 m1612) rfl rfl rfl hd_X12_isLetter.2 ⟨Nat.le_of_ble_eq_true rfl, Nat.le_of_ble_eq_true rfl⟩) (pre_S hW hB_G_45 hK hZ hS) rfl rfl hl.1 rfl (lv_room (Nat.le_of_ble_eq_true rfl)) dX12_token_72 ⟨Nat.le_of_ble_eq_true rfl, Nat.le_of_ble_eq_true rfl⟩) hS (fun r_47 G_48 H locs hpo hW hS => ?_)
        have hX_51 : Q_letter r_38 G_45 r_47 G_48 := hpo
        obtain ⟨hB_G_48, hq_49, f_52, hp_50, -⟩ := hpo
        have hF := hF.call9 hq_49 rfl rfl
        refine lv_if_eq (tgt := 137) hx hb dX12_token_75 rfl (fun c_53 => ?_) (fun c_53 => ?_)
        · have c_53 : r_47.toInt = 0 := xI_eq rfl rfl c_53
          refine lv_iload_n hx hb dX12_token_137 rfl (lv_at hl 1 rfl) ?_
          refine S_calli (va_runS (As := [.int r_38]) (rest := []) ⟨hx, hb, hml, hown, hts⟩ (n_digit l D k A a z G_48 r_38 ) (va_cwS 1 hts (gd_S hgd m1613 m1614 m131 m1615) rfl rfl rfl hd_X12_isDigit.2 ⟨Nat.le_of_ble_eq_true rfl, Nat.le_of_ble_eq_true rfl⟩) (pre_S hW hB_G_48 hK hZ hS) rfl rfl hl.1 rfl (lv_room (Nat.le_of_ble_eq_true rfl)) dX12_token_138 ⟨Nat.le_of_ble_eq_true rfl, Nat.le_of_ble_eq_true rfl⟩) hS (fun r_54 G_55 H locs hpo hW hS => ?_)
          have hX_58 : Q_digit r_38 G_48 r_54 G_55 := hpo
          obtain ⟨hB_G_55, hq_56, f_59, hp_57, -⟩ := hpo
          have hF := hF.call9 hq_56 rfl rfl
          refine lv_if_eq (tgt := 214) hx hb dX12_token_141 rfl (fun c_60 => ?_) (fun c_60 => ?_)
          · have c_60 : r_54.toInt = 0 := xI_eq rfl rfl c_60
            refine ic_1 hx hb dX12_token_214 ?_
            refine lv_istore_n (lv' := [(2, .int 1), (1, .int r_38), (0, .ref (a 66))]) hx hb dX12_token_215 rfl hl (lt_b rfl) rfl (fun ls hl => ?_)
            refine lv_aload_n hx hb dX12_token_216 rfl (lv_at hl 2 rfl) ?_
            refine lv_iload_n hx hb dX12_token_217 rfl (lv_at hl 1 rfl) ?_
            refine S_calli (va_runS (As := [.int r_38]) (rest := [.ref (a 66)]) ⟨hx, hb, hml, hown, hts⟩ (n_sign l D k A a z G_55 r_38 ) (va_cwS 1 hts (gd_S hgd m1616 m1617 m131 m1618) rfl rfl rfl hd_X12_isSign.2 ⟨Nat.le_of_ble_eq_true rfl, Nat.le_of_ble_eq_true rfl⟩) (pre_S hW hB_G_55 hK hZ hS) rfl rfl hl.1 rfl (lv_room (Nat.le_of_ble_eq_true rfl)) dX12_token_218 ⟨Nat.le_of_ble_eq_true rfl, Nat.le_of_ble_eq_true rfl⟩) hS (fun r_61 G_62 H locs hpo hW hS => ?_)
            have hX_65 : Q_sign r_38 G_55 r_61 G_62 := hpo
            obtain ⟨hB_G_62, hq_63, f_66, -⟩ := hpo
            have hF := hF.call9 hq_63 rfl rfl
            refine lv_if_eq (tgt := 228) hx hb dX12_token_221 rfl (fun c_67 => ?_) (fun c_67 => ?_)
            · have c_67 : r_61.toInt = 0 := xI_eq rfl rfl c_67
              refine ic_3 hx hb dX12_token_228 ?_
              refine S_putI (ty := .int) (C := RX12) (T := TX12) (N := 89) hx hb hg iX12 tyX12 tyX12_ok nmX12 hown hK hW hS kd_66 rfl 6 (lt_b rfl) (hg (Cond.fieldLink RX12 205 "SlabWalkModel" "sort" "I") m1320) (fun _ h9 => h9) rfl (by decide +kernel) rfl rfl rfl dX12_token_229 (fun G_68 H locs eG_68 hW hS => ?_)
              have hB_G_68 : Bd G_68 := hB_G_62.put (lo := (-2147483648)) (hi := 2147483647) eG_68 rfl rfl rfl (tI_rng _).1 (tI_rng _).2 (hB_G_62.2.put eG_68 rfl)
              have hF := hF.put eG_68 (Or.inr (by decide))
              refine lv_aload_n hx hb dX12_token_232 rfl (lv_at hl 2 rfl) ?_
              refine S_getI (v := 3) (C := RX12) (T := TX12) (N := 89) hx hb hg iX12 hown hK hW kd_66 rfl 6 (lt_b rfl) (hg (Cond.fieldLink RX12 205 "SlabWalkModel" "sort" "I") m1320) (fun _ h9 => h9) rfl (gp_eq eG_68) dX12_token_233 ?_
              refine ic_3 hx hb dX12_token_236 ?_
              refine lv_icmp_eq (tgt := 250) hx hb dX12_token_237 rfl (fun c_69 => ?_) (fun c_69 => ?_)
              · have c_69 : (3 : Int) = (3 : Int) := xI_eq rfl rfl c_69
                have g_70 : (G_68.1 66 4).toInt = (G_1.1 66 4).toInt := (congrArg Int32.toInt (show G_68.1 66 4 = (G_1.1 66 4) from ((gp_ne eG_68 (by decide)).trans ((hq_63.i9 66 4 rfl rfl).trans ((hq_56.i9 66 4 rfl rfl).trans ((hq_49.i9 66 4 rfl rfl).trans ((gp_ne eG_45 (by decide)).trans ((congrFun (congrFun (gp_l eG_44).1 66) 4).trans ((hq_40.i9 66 4 rfl rfl).trans ((gp_ne eG_34 (by decide)).trans ((hq_29.i9 66 4 rfl rfl).trans ((hq_15.i9 66 4 rfl rfl).trans (rfl)))))))))))))
                have g_71 : (G_68.1 66 6).toInt = 3 := (congrArg Int32.toInt (show G_68.1 66 6 = 3 from (gp_eq eG_68))).trans rfl
                exact W.vret hx hb hr (fun t ht _ => ⟨⟨G_68, rfl, (Q_token_mk ⟨hB_G_68, hF, ((by first | exact ⟨(by first | exact ok_347 f_7 g_70 | omega), (fun h9 => (by first | exact ok_576 g_71 | omega))⟩ | omega)), ⟨G_1, hX_5, f_7, hB_G_1, hq_2, ⟨r_13, G_14, hX_17, ⟨c_19, ⟨r_27, G_28, hX_31, ⟨c_33, ⟨G_34, hB_G_34, (Fr.put (rs := []) (fs := [(66, 7)]) Fr.rf eG_34 (Or.inr (by decide))), (gp_eq eG_34), ⟨r_38, G_39, hX_42, (Or.inl ⟨c_46, ⟨G_45, hB_G_45, (Fr.put (rs := []) (fs := [(66, 8), (66, 9)]) (Fr.putl (rs := []) (fs := [(66, 8), (66, 9)]) Fr.rf eG_44 (Or.inr (by decide))) eG_45 (Or.inr (by decide))), (gp_eq eG_45), ((congrFun (congrFun (congrArg (fun q => q.2.1) eG_45) 66) 9).trans (gpl_eq eG_44)), ⟨r_47, G_48, hX_51, (Or.inl ⟨c_53, ⟨r_54, G_55, hX_58, (Or.inl ⟨c_60, ⟨r_61, G_62, hX_65, (Or.inl ⟨c_67, ⟨(Fr.put (rs := []) (fs := [(66, 6)]) Fr.rf eG_68 (Or.inr (by decide))), (gp_eq eG_68)⟩⟩)⟩⟩)⟩⟩)⟩⟩⟩)⟩⟩⟩⟩⟩⟩⟩⟩), wd_t ht hW⟩, hS.F ht⟩) hS.2.2 dX12_token_250
              · have c_69 : (3 : Int) ≠ (3 : Int) := xI_ne rfl rfl c_69
                exfalso; first | exact ok_577 c_69 | omega
            · have c_67 : r_61.toInt ≠ 0 := xI_ne rfl rfl c_67
              refine lv_iload_n hx hb dX12_token_224 rfl (lv_at hl 1 rfl) ?_
              refine lv_goto (tgt := 229) hx hb dX12_token_225 rfl ?_
              refine S_putI (ty := .int) (C := RX12) (T := TX12) (N := 89) hx hb hg iX12 tyX12 tyX12_ok nmX12 hown hK hW hS kd_66 rfl 6 (lt_b rfl) (hg (Cond.fieldLink RX12 205 "SlabWalkModel" "sort" "I") m1320) (fun _ h9 => h9) rfl (by decide +kernel) rfl rfl rfl dX12_token_229 (fun G_72 H locs eG_72 hW hS => ?_)
              have hB_G_72 : Bd G_72 := hB_G_62.put (lo := (-2147483648)) (hi := 2147483647) eG_72 rfl rfl rfl (tI_rng _).1 (tI_rng _).2 (hB_G_62.2.put eG_72 rfl)
              have hF := hF.put eG_72 (Or.inr (by decide))
              refine lv_aload_n hx hb dX12_token_232 rfl (lv_at hl 2 rfl) ?_
              refine S_getI (v := r_38) (C := RX12) (T := TX12) (N := 89) hx hb hg iX12 hown hK hW kd_66 rfl 6 (lt_b rfl) (hg (Cond.fieldLink RX12 205 "SlabWalkModel" "sort" "I") m1320) (fun _ h9 => h9) rfl (gp_eq eG_72) dX12_token_233 ?_
              refine ic_3 hx hb dX12_token_236 ?_
              refine lv_icmp_eq (tgt := 250) hx hb dX12_token_237 rfl (fun c_73 => ?_) (fun c_73 => ?_)
              · have c_73 : r_38.toInt = 3 := xI_eq rfl rfl c_73
                have g_74 : (G_72.1 66 4).toInt = (G_1.1 66 4).toInt := (congrArg Int32.toInt (show G_72.1 66 4 = (G_1.1 66 4) from ((gp_ne eG_72 (by decide)).trans ((hq_63.i9 66 4 rfl rfl).trans ((hq_56.i9 66 4 rfl rfl).trans ((hq_49.i9 66 4 rfl rfl).trans ((gp_ne eG_45 (by decide)).trans ((congrFun (congrFun (gp_l eG_44).1 66) 4).trans ((hq_40.i9 66 4 rfl rfl).trans ((gp_ne eG_34 (by decide)).trans ((hq_29.i9 66 4 rfl rfl).trans ((hq_15.i9 66 4 rfl rfl).trans (rfl)))))))))))))
                have g_75 : (G_72.1 66 6).toInt = r_38.toInt := (congrArg Int32.toInt (show G_72.1 66 6 = r_38 from (gp_eq eG_72)))
                exact W.vret hx hb hr (fun t ht _ => ⟨⟨G_72, rfl, (Q_token_mk ⟨hB_G_72, hF, ((by first | exact ⟨(by first | exact ok_347 f_7 g_74 | omega), (fun h9 => (by first | exact ok_578 c_73 g_75 | omega))⟩ | omega)), ⟨G_1, hX_5, f_7, hB_G_1, hq_2, ⟨r_13, G_14, hX_17, ⟨c_19, ⟨r_27, G_28, hX_31, ⟨c_33, ⟨G_34, hB_G_34, (Fr.put (rs := []) (fs := [(66, 7)]) Fr.rf eG_34 (Or.inr (by decide))), (gp_eq eG_34), ⟨r_38, G_39, hX_42, (Or.inl ⟨c_46, ⟨G_45, hB_G_45, (Fr.put (rs := []) (fs := [(66, 8), (66, 9)]) (Fr.putl (rs := []) (fs := [(66, 8), (66, 9)]) Fr.rf eG_44 (Or.inr (by decide))) eG_45 (Or.inr (by decide))), (gp_eq eG_45), ((congrFun (congrFun (congrArg (fun q => q.2.1) eG_45) 66) 9).trans (gpl_eq eG_44)), ⟨r_47, G_48, hX_51, (Or.inl ⟨c_53, ⟨r_54, G_55, hX_58, (Or.inl ⟨c_60, ⟨r_61, G_62, hX_65, (Or.inr ⟨c_67, (Or.inl ⟨c_73, ⟨(Fr.put (rs := []) (fs := [(66, 6)]) Fr.rf eG_72 (Or.inr (by decide))), (gp_eq eG_72)⟩⟩)⟩)⟩⟩)⟩⟩)⟩⟩⟩)⟩⟩⟩⟩⟩⟩⟩⟩), wd_t ht hW⟩, hS.F ht⟩) hS.2.2 dX12_token_250
              · have c_73 : r_38.toInt ≠ 3 := xI_ne rfl rfl c_73
                refine lv_aload_n hx hb dX12_token_240 rfl (lv_at hl 2 rfl) ?_
                refine lv_dup hx hb dX12_token_241 rfl ?_
                refine S_getI (v := (G_1.1 66 4)) (C := RX12) (T := TX12) (N := 89) hx hb hg iX12 hown hK hW kd_66 rfl 4 (lt_b rfl) (hg (Cond.fieldLink RX12 185 "SlabWalkModel" "at" "I") m1318) (fun _ h9 => h9) rfl ((gp_ne eG_72 (by decide)).trans ((hq_63.i9 66 4 rfl rfl).trans ((hq_56.i9 66 4 rfl rfl).trans ((hq_49.i9 66 4 rfl rfl).trans ((gp_ne eG_45 (by decide)).trans ((congrFun (congrFun (gp_l eG_44).1 66) 4).trans ((hq_40.i9 66 4 rfl rfl).trans ((gp_ne eG_34 (by decide)).trans ((hq_29.i9 66 4 rfl rfl).trans ((hq_15.i9 66 4 rfl rfl).trans (rfl))))))))))) dX12_token_242 ?_
                refine lv_iload_n hx hb dX12_token_245 rfl (lv_at hl 0 rfl) ?_
                refine lv_iadd hx hb dX12_token_246 ?_
                refine lv_topi (fun y_76 ey_76 => ?_)
                have ty_76 : y_76.toInt = (G_1.1 66 4).toInt + 1 := xI_add rfl rfl ey_76 ((by first | exact ok_21 b_9.1 | omega)) ((by first | exact ok_122 b_9.2 | omega))
                refine S_putI (ty := .int) (C := RX12) (T := TX12) (N := 89) hx hb hg iX12 tyX12 tyX12_ok nmX12 hown hK hW hS kd_66 rfl 4 (lt_b rfl) (hg (Cond.fieldLink RX12 185 "SlabWalkModel" "at" "I") m1318) (fun _ h9 => h9) rfl (by decide +kernel) rfl rfl rfl dX12_token_247 (fun G_77 H locs eG_77 hW hS => ?_)
                have hB_G_77 : Bd G_77 := hB_G_72.put (V := y_76.toInt) (lo := 0) (hi := 1600) eG_77 rfl rfl rfl ((by first | exact ok_23 b_9.1 ty_76 | omega)) ((by first | exact ok_579 b_9.2 qc_10 b_11.2 g_36 g_37 d_1 ty_76 | omega)) (hB_G_72.2.put eG_77 rfl)
                have hF := hF.put eG_77 (Or.inr (by decide))
                have g_78 : (G_77.1 66 4).toInt = y_76.toInt := (congrArg Int32.toInt (show G_77.1 66 4 = y_76 from (gp_eq eG_77)))
                have g_79 : (G_77.1 66 6).toInt = r_38.toInt := (congrArg Int32.toInt (show G_77.1 66 6 = r_38 from ((gp_ne eG_77 (by decide)).trans (gp_eq eG_72))))
                exact W.vret hx hb hr (fun t ht _ => ⟨⟨G_77, rfl, (Q_token_mk ⟨hB_G_77, hF, ((by first | exact ⟨(by first | exact ok_575 f_7 ty_76 g_78 | omega), (fun h9 => ((by first | (clear hn_8 hp_41 f_66 c_67; omega) | omega)))⟩ | omega)), ⟨G_1, hX_5, f_7, hB_G_1, hq_2, ⟨r_13, G_14, hX_17, ⟨c_19, ⟨r_27, G_28, hX_31, ⟨c_33, ⟨G_34, hB_G_34, (Fr.put (rs := []) (fs := [(66, 7)]) Fr.rf eG_34 (Or.inr (by decide))), (gp_eq eG_34), ⟨r_38, G_39, hX_42, (Or.inl ⟨c_46, ⟨G_45, hB_G_45, (Fr.put (rs := []) (fs := [(66, 8), (66, 9)]) (Fr.putl (rs := []) (fs := [(66, 8), (66, 9)]) Fr.rf eG_44 (Or.inr (by decide))) eG_45 (Or.inr (by decide))), (gp_eq eG_45), ((congrFun (congrFun (congrArg (fun q => q.2.1) eG_45) 66) 9).trans (gpl_eq eG_44)), ⟨r_47, G_48, hX_51, (Or.inl ⟨c_53, ⟨r_54, G_55, hX_58, (Or.inl ⟨c_60, ⟨r_61, G_62, hX_65, (Or.inr ⟨c_67, (Or.inr ⟨c_73, ⟨y_76, ty_76, ⟨(Fr.put (rs := []) (fs := [(66, 4), (66, 6)]) (Fr.put (rs := []) (fs := [(66, 4), (66, 6)]) Fr.rf eG_72 (Or.inr (by decide))) eG_77 (Or.inr (by decide))), (gp_eq eG_77), ((gp_ne eG_77 (by decide)).trans (gp_eq eG_72))⟩⟩⟩)⟩)⟩⟩)⟩⟩)⟩⟩⟩)⟩⟩⟩⟩⟩⟩⟩⟩), wd_t ht hW⟩, hS.F ht⟩) hS.2.2 dX12_token_250
          · have c_60 : r_54.toInt ≠ 0 := xI_ne rfl rfl c_60
            have g_86 : (G_55.1 66 4).toInt = (G_1.1 66 4).toInt := (congrArg Int32.toInt (show G_55.1 66 4 = (G_1.1 66 4) from ((hq_56.i9 66 4 rfl rfl).trans ((hq_49.i9 66 4 rfl rfl).trans ((gp_ne eG_45 (by decide)).trans ((congrFun (congrFun (gp_l eG_44).1 66) 4).trans ((hq_40.i9 66 4 rfl rfl).trans ((gp_ne eG_34 (by decide)).trans ((hq_29.i9 66 4 rfl rfl).trans ((hq_15.i9 66 4 rfl rfl).trans (rfl)))))))))))
            have g_87 : (G_55.1 66 5).toInt = (G.1 66 5).toInt := (congrArg Int32.toInt (show G_55.1 66 5 = (G.1 66 5) from ((hq_56.i9 66 5 rfl rfl).trans ((hq_49.i9 66 5 rfl rfl).trans ((gp_ne eG_45 (by decide)).trans ((congrFun (congrFun (gp_l eG_44).1 66) 5).trans ((hq_40.i9 66 5 rfl rfl).trans ((gp_ne eG_34 (by decide)).trans ((hq_29.i9 66 5 rfl rfl).trans ((hq_15.i9 66 5 rfl rfl).trans ((hq_2.i9 66 5 rfl rfl).trans (rfl))))))))))))
            have qc_88 : (0 : Int32).toInt = 0 := rfl
            refine loop_N (Inv := fun n H locs ls => ∃ (G_80 : GS) (x_84 : Int32), (n : Int) = 1600 - x_84.toInt ∧ (0 ≤ x_84.toInt ∧ x_84.toInt ≤ 1600) ∧ ((G_80.1 66 4).toInt + x_84.toInt ≤ (G_80.1 66 5).toInt) ∧ Rc (St_n_token_2) (0, G_55) (x_84, G_80) ∧ Wd D k A a G_80 H ∧ Bd G_80 ∧ Fr [] [(66, 4), (66, 6), (66, 7), (66, 8), (66, 9)] G G_80 ∧ Fr [] [(66, 8)] G_55 G_80 ∧ va_S A s.heap H locs ∧ lv_has ls 3 [(2, .int x_84), (0, .ref (a 66))]) (fun n_83 H locs ls ih_82 hI => ?_) (1600 - 0 : Int).toNat ⟨G_55, 0, (Int.toNat_of_nonneg ((by decide))), ⟨(by decide), (by decide)⟩, ((by first | exact ok_580 b_9.2 qc_10 b_11.1 g_36 g_37 d_1 g_86 g_87 | omega)), Rc.rf, hW, hB_G_55, hF, Fr.rf, hS, lv_sub hl [0, 2] rfl⟩
            obtain ⟨G_80, x_84, hn_91, f_89, f_90, hX_85, hW, hB_G_80, hF, hq_81, hS, hl⟩ := hI
            have g_92 : (G_80.1 66 4).toInt = (G_1.1 66 4).toInt := (congrArg Int32.toInt (show G_80.1 66 4 = (G_1.1 66 4) from ((hq_81.i9 66 4 rfl rfl).trans ((hq_56.i9 66 4 rfl rfl).trans ((hq_49.i9 66 4 rfl rfl).trans ((gp_ne eG_45 (by decide)).trans ((congrFun (congrFun (gp_l eG_44).1 66) 4).trans ((hq_40.i9 66 4 rfl rfl).trans ((gp_ne eG_34 (by decide)).trans ((hq_29.i9 66 4 rfl rfl).trans ((hq_15.i9 66 4 rfl rfl).trans (rfl))))))))))))
            have g_93 : (G_80.1 66 5).toInt = (G.1 66 5).toInt := (congrArg Int32.toInt (show G_80.1 66 5 = (G.1 66 5) from ((hq_81.i9 66 5 rfl rfl).trans ((hq_56.i9 66 5 rfl rfl).trans ((hq_49.i9 66 5 rfl rfl).trans ((gp_ne eG_45 (by decide)).trans ((congrFun (congrFun (gp_l eG_44).1 66) 5).trans ((hq_40.i9 66 5 rfl rfl).trans ((gp_ne eG_34 (by decide)).trans ((hq_29.i9 66 5 rfl rfl).trans ((hq_15.i9 66 5 rfl rfl).trans ((hq_2.i9 66 5 rfl rfl).trans (rfl)))))))))))))
            refine lv_aload_n hx hb dX12_token_144 rfl (lv_at hl 1 rfl) ?_
            refine lv_iload_n hx hb dX12_token_145 rfl (lv_at hl 0 rfl) ?_
            have g_94 : (G_80.1 66 4).toInt = (G_1.1 66 4).toInt := (congrArg Int32.toInt (show G_80.1 66 4 = (G_1.1 66 4) from ((hq_81.i9 66 4 rfl rfl).trans ((hq_56.i9 66 4 rfl rfl).trans ((hq_49.i9 66 4 rfl rfl).trans ((gp_ne eG_45 (by decide)).trans ((congrFun (congrFun (gp_l eG_44).1 66) 4).trans ((hq_40.i9 66 4 rfl rfl).trans ((gp_ne eG_34 (by decide)).trans ((hq_29.i9 66 4 rfl rfl).trans ((hq_15.i9 66 4 rfl rfl).trans (rfl))))))))))))
            have g_95 : (G_80.1 66 5).toInt = (G.1 66 5).toInt := (congrArg Int32.toInt (show G_80.1 66 5 = (G.1 66 5) from ((hq_81.i9 66 5 rfl rfl).trans ((hq_56.i9 66 5 rfl rfl).trans ((hq_49.i9 66 5 rfl rfl).trans ((gp_ne eG_45 (by decide)).trans ((congrFun (congrFun (gp_l eG_44).1 66) 5).trans ((hq_40.i9 66 5 rfl rfl).trans ((gp_ne eG_34 (by decide)).trans ((hq_29.i9 66 5 rfl rfl).trans ((hq_15.i9 66 5 rfl rfl).trans ((hq_2.i9 66 5 rfl rfl).trans (rfl)))))))))))))
            refine S_calli (va_runV (As := [.int x_84]) (rest := []) ⟨hx, hb, hml, hown, hts⟩ (n_here l D k A a z G_80 x_84 ⟨(by first | exact f_89.1 | omega), (by first | exact ok_581 f_89.2 | omega)⟩) (cwV 1 hts (gd_V hgd m1606 m1608 m51 m131 m1609) rfl rfl rfl hd_X12_here ⟨Nat.le_of_ble_eq_true rfl, Nat.le_of_ble_eq_true rfl⟩) (pre_W hW hB_G_80 hK hZ hS kd_66 rfl) rfl rfl hl.1 rfl (lv_room (Nat.le_of_ble_eq_true rfl)) dX12_token_146 ⟨Nat.le_of_ble_eq_true rfl, Nat.le_of_ble_eq_true rfl⟩) hS (fun r_96 G_97 H locs hpo hW hS => ?_)
            have hX_100 : Q_here x_84 G_80 r_96 G_97 := hpo
            obtain ⟨hB_G_97, hq_98, f_101, hp_99, -⟩ := hpo
            have hF := hF.call9 hq_98 rfl rfl
            refine S_calli (va_runS (As := [.int r_96]) (rest := []) ⟨hx, hb, hml, hown, hts⟩ (n_digit l D k A a z G_97 r_96 ) (va_cwS 1 hts (gd_S hgd m1613 m1614 m131 m1615) rfl rfl rfl hd_X12_isDigit.2 ⟨Nat.le_of_ble_eq_true rfl, Nat.le_of_ble_eq_true rfl⟩) (pre_S hW hB_G_97 hK hZ hS) rfl rfl hl.1 rfl (lv_room (Nat.le_of_ble_eq_true rfl)) dX12_token_149 ⟨Nat.le_of_ble_eq_true rfl, Nat.le_of_ble_eq_true rfl⟩) hS (fun r_102 G_103 H locs hpo hW hS => ?_)
            have hX_106 : Q_digit r_96 G_97 r_102 G_103 := hpo
            obtain ⟨hB_G_103, hq_104, f_107, hp_105, -⟩ := hpo
            have hF := hF.call9 hq_104 rfl rfl
            refine lv_if_eq (tgt := 186) hx hb dX12_token_152 rfl (fun c_108 => ?_) (fun c_108 => ?_)
            · have c_108 : r_102.toInt = 0 := xI_eq rfl rfl c_108
              refine lv_aload_n hx hb dX12_token_186 rfl (lv_at hl 1 rfl) ?_
              refine lv_iload_n hx hb dX12_token_187 rfl (lv_at hl 0 rfl) ?_
              refine ic_4 hx hb dX12_token_188 ?_
              refine W.cut (σ := Unit) (pcJ := 203) (J := fun y H locs ls => ∃ (G_112 : GS), Jn_n_token_3 x_84 G_103 G_112 ∧ Wd D k A a G_112 H ∧ Bd G_112 ∧ Fr [] [(66, 4), (66, 6), (66, 7), (66, 8), (66, 9)] G G_112 ∧ Fr [] [] G_103 G_112 ∧ va_S A s.heap H locs ∧ lv_has ls 3 [(2, .int x_84), (0, .ref (a 66))]) (stJ := fun _ => [.ref (a 66)]) ?_ (fun hJ_113 => ?_)
              · intro y H locs ls hI
                obtain ⟨G_112, hX_115, hW, hB_G_112, hF, hq_114, hS, hl⟩ := hI
                refine ic_3 hx hb dX12_token_203 ?_
                refine lv_goto (tgt := 208) hx hb dX12_token_204 rfl ?_
                refine S_putI (ty := .int) (C := RX12) (T := TX12) (N := 89) hx hb hg iX12 tyX12 tyX12_ok nmX12 hown hK hW hS kd_66 rfl 6 (lt_b rfl) (hg (Cond.fieldLink RX12 205 "SlabWalkModel" "sort" "I") m1320) (fun _ h9 => h9) rfl (by decide +kernel) rfl rfl rfl dX12_token_208 (fun G_116 H locs eG_116 hW hS => ?_)
                have hB_G_116 : Bd G_116 := hB_G_112.put (lo := (-2147483648)) (hi := 2147483647) eG_116 rfl rfl rfl (tI_rng _).1 (tI_rng _).2 (hB_G_112.2.put eG_116 rfl)
                have hF := hF.put eG_116 (Or.inr (by decide))
                refine lv_goto (tgt := 232) hx hb dX12_token_211 rfl ?_
                refine lv_aload_n hx hb dX12_token_232 rfl (lv_at hl 1 rfl) ?_
                refine S_getI (v := 3) (C := RX12) (T := TX12) (N := 89) hx hb hg iX12 hown hK hW kd_66 rfl 6 (lt_b rfl) (hg (Cond.fieldLink RX12 205 "SlabWalkModel" "sort" "I") m1320) (fun _ h9 => h9) rfl (gp_eq eG_116) dX12_token_233 ?_
                refine ic_3 hx hb dX12_token_236 ?_
                refine lv_icmp_eq (tgt := 250) hx hb dX12_token_237 rfl (fun c_117 => ?_) (fun c_117 => ?_)
                · have c_117 : (3 : Int) = (3 : Int) := xI_eq rfl rfl c_117
                  have g_118 : (G_116.1 66 4).toInt = (G_1.1 66 4).toInt := (congrArg Int32.toInt (show G_116.1 66 4 = (G_1.1 66 4) from ((gp_ne eG_116 (by decide)).trans ((hq_114.i9 66 4 rfl rfl).trans ((hq_104.i9 66 4 rfl rfl).trans ((hq_98.i9 66 4 rfl rfl).trans ((hq_81.i9 66 4 rfl rfl).trans ((hq_56.i9 66 4 rfl rfl).trans ((hq_49.i9 66 4 rfl rfl).trans ((gp_ne eG_45 (by decide)).trans ((congrFun (congrFun (gp_l eG_44).1 66) 4).trans ((hq_40.i9 66 4 rfl rfl).trans ((gp_ne eG_34 (by decide)).trans ((hq_29.i9 66 4 rfl rfl).trans ((hq_15.i9 66 4 rfl rfl).trans (rfl))))))))))))))))
                  have g_119 : (G_116.1 66 6).toInt = 3 := (congrArg Int32.toInt (show G_116.1 66 6 = 3 from (gp_eq eG_116))).trans rfl
                  exact W.vret hx hb hr (fun t ht _ => ⟨⟨G_116, rfl, (Q_token_mk ⟨hB_G_116, hF, ((by first | exact ⟨(by first | exact ok_347 f_7 g_118 | omega), (fun h9 => (by first | exact ok_576 g_119 | omega))⟩ | omega)), ⟨G_1, hX_5, f_7, hB_G_1, hq_2, ⟨r_13, G_14, hX_17, ⟨c_19, ⟨r_27, G_28, hX_31, ⟨c_33, ⟨G_34, hB_G_34, (Fr.put (rs := []) (fs := [(66, 7)]) Fr.rf eG_34 (Or.inr (by decide))), (gp_eq eG_34), ⟨r_38, G_39, hX_42, (Or.inl ⟨c_46, ⟨G_45, hB_G_45, (Fr.put (rs := []) (fs := [(66, 8), (66, 9)]) (Fr.putl (rs := []) (fs := [(66, 8), (66, 9)]) Fr.rf eG_44 (Or.inr (by decide))) eG_45 (Or.inr (by decide))), (gp_eq eG_45), ((congrFun (congrFun (congrArg (fun q => q.2.1) eG_45) 66) 9).trans (gpl_eq eG_44)), ⟨r_47, G_48, hX_51, (Or.inl ⟨c_53, ⟨r_54, G_55, hX_58, (Or.inr ⟨c_60, ⟨x_84, G_80, hX_85, f_89, f_90, hB_G_80, hq_81, ⟨r_96, G_97, hX_100, ⟨r_102, G_103, hX_106, ⟨c_108, (Or.inr ⟨G_112, hX_115, hB_G_112, hq_114, ⟨(Fr.put (rs := []) (fs := [(66, 6)]) Fr.rf eG_116 (Or.inr (by decide))), (gp_eq eG_116)⟩⟩)⟩⟩⟩⟩⟩)⟩⟩)⟩⟩⟩)⟩⟩⟩⟩⟩⟩⟩⟩), wd_t ht hW⟩, hS.F ht⟩) hS.2.2 dX12_token_250
                · have c_117 : (3 : Int) ≠ (3 : Int) := xI_ne rfl rfl c_117
                  exfalso; first | exact ok_577 c_117 | omega
              refine lv_icmp_gt (tgt := 203) hx hb dX12_token_189 rfl (fun c_120 => ?_) (fun c_120 => ?_)
              · have c_120 : 4 < x_84.toInt := xI_lt rfl rfl c_120
                exact hJ_113 () _ _ _ ⟨G_103, (Jn_n_token_3_mk (Or.inl ⟨c_120, rfl⟩)), hW, hB_G_103, hF, (Fr.rf (rs := []) (fs := [])), hS, lv_sub hl [0, 1] rfl⟩
              · have c_120 : x_84.toInt ≤ 4 := xI_nlt rfl rfl c_120
                refine lv_aload_n hx hb dX12_token_192 rfl (lv_at hl 1 rfl) ?_
                refine lv_iload_n hx hb dX12_token_193 rfl (lv_at hl 0 rfl) ?_
                have g_121 : (G_103.1 66 4).toInt = (G_1.1 66 4).toInt := (congrArg Int32.toInt (show G_103.1 66 4 = (G_1.1 66 4) from ((hq_104.i9 66 4 rfl rfl).trans ((hq_98.i9 66 4 rfl rfl).trans ((hq_81.i9 66 4 rfl rfl).trans ((hq_56.i9 66 4 rfl rfl).trans ((hq_49.i9 66 4 rfl rfl).trans ((gp_ne eG_45 (by decide)).trans ((congrFun (congrFun (gp_l eG_44).1 66) 4).trans ((hq_40.i9 66 4 rfl rfl).trans ((gp_ne eG_34 (by decide)).trans ((hq_29.i9 66 4 rfl rfl).trans ((hq_15.i9 66 4 rfl rfl).trans (rfl))))))))))))))
                have g_122 : (G_103.1 66 5).toInt = (G.1 66 5).toInt := (congrArg Int32.toInt (show G_103.1 66 5 = (G.1 66 5) from ((hq_104.i9 66 5 rfl rfl).trans ((hq_98.i9 66 5 rfl rfl).trans ((hq_81.i9 66 5 rfl rfl).trans ((hq_56.i9 66 5 rfl rfl).trans ((hq_49.i9 66 5 rfl rfl).trans ((gp_ne eG_45 (by decide)).trans ((congrFun (congrFun (gp_l eG_44).1 66) 5).trans ((hq_40.i9 66 5 rfl rfl).trans ((gp_ne eG_34 (by decide)).trans ((hq_29.i9 66 5 rfl rfl).trans ((hq_15.i9 66 5 rfl rfl).trans ((hq_2.i9 66 5 rfl rfl).trans (rfl)))))))))))))))
                refine S_calli (va_runV (As := [.int x_84]) (rest := [.ref (a 66)]) ⟨hx, hb, hml, hown, hts⟩ (n_here l D k A a z G_103 x_84 ⟨(by first | exact f_89.1 | omega), (by first | exact ok_582 c_120 | omega)⟩) (cwV 1 hts (gd_V hgd m1606 m1608 m51 m131 m1609) rfl rfl rfl hd_X12_here ⟨Nat.le_of_ble_eq_true rfl, Nat.le_of_ble_eq_true rfl⟩) (pre_W hW hB_G_103 hK hZ hS kd_66 rfl) rfl rfl hl.1 rfl (lv_room (Nat.le_of_ble_eq_true rfl)) dX12_token_194 ⟨Nat.le_of_ble_eq_true rfl, Nat.le_of_ble_eq_true rfl⟩) hS (fun r_123 G_124 H locs hpo hW hS => ?_)
                have hX_127 : Q_here x_84 G_103 r_123 G_124 := hpo
                obtain ⟨hB_G_124, hq_125, f_128, hp_126, -⟩ := hpo
                have hF := hF.call9 hq_125 rfl rfl
                refine S_calli (va_runS (As := [.int r_123]) (rest := [.ref (a 66)]) ⟨hx, hb, hml, hown, hts⟩ (n_letter l D k A a z G_124 r_123 ) (va_cwS 1 hts (gd_S hgd m1610 m1611 m131 m1612) rfl rfl rfl hd_X12_isLetter.2 ⟨Nat.le_of_ble_eq_true rfl, Nat.le_of_ble_eq_true rfl⟩) (pre_S hW hB_G_124 hK hZ hS) rfl rfl hl.1 rfl (lv_room (Nat.le_of_ble_eq_true rfl)) dX12_token_197 ⟨Nat.le_of_ble_eq_true rfl, Nat.le_of_ble_eq_true rfl⟩) hS (fun r_129 G_130 H locs hpo hW hS => ?_)
                have hX_133 : Q_letter r_123 G_124 r_129 G_130 := hpo
                obtain ⟨hB_G_130, hq_131, f_134, hp_132, -⟩ := hpo
                have hF := hF.call9 hq_131 rfl rfl
                refine lv_if_eq (tgt := 207) hx hb dX12_token_200 rfl (fun c_135 => ?_) (fun c_135 => ?_)
                · have c_135 : r_129.toInt = 0 := xI_eq rfl rfl c_135
                  refine ic_2 hx hb dX12_token_207 ?_
                  refine S_putI (ty := .int) (C := RX12) (T := TX12) (N := 89) hx hb hg iX12 tyX12 tyX12_ok nmX12 hown hK hW hS kd_66 rfl 6 (lt_b rfl) (hg (Cond.fieldLink RX12 205 "SlabWalkModel" "sort" "I") m1320) (fun _ h9 => h9) rfl (by decide +kernel) rfl rfl rfl dX12_token_208 (fun G_136 H locs eG_136 hW hS => ?_)
                  have hB_G_136 : Bd G_136 := hB_G_130.put (lo := (-2147483648)) (hi := 2147483647) eG_136 rfl rfl rfl (tI_rng _).1 (tI_rng _).2 (hB_G_130.2.put eG_136 rfl)
                  have hF := hF.put eG_136 (Or.inr (by decide))
                  refine lv_goto (tgt := 232) hx hb dX12_token_211 rfl ?_
                  refine lv_aload_n hx hb dX12_token_232 rfl (lv_at hl 1 rfl) ?_
                  refine S_getI (v := 2) (C := RX12) (T := TX12) (N := 89) hx hb hg iX12 hown hK hW kd_66 rfl 6 (lt_b rfl) (hg (Cond.fieldLink RX12 205 "SlabWalkModel" "sort" "I") m1320) (fun _ h9 => h9) rfl (gp_eq eG_136) dX12_token_233 ?_
                  refine ic_3 hx hb dX12_token_236 ?_
                  refine lv_icmp_eq (tgt := 250) hx hb dX12_token_237 rfl (fun c_137 => ?_) (fun c_137 => ?_)
                  · have c_137 : (2 : Int) = (3 : Int) := xI_eq rfl rfl c_137
                    exfalso; first | exact ok_583 c_137 | omega
                  · have c_137 : (2 : Int) ≠ (3 : Int) := xI_ne rfl rfl c_137
                    refine lv_aload_n hx hb dX12_token_240 rfl (lv_at hl 1 rfl) ?_
                    refine lv_dup hx hb dX12_token_241 rfl ?_
                    refine S_getI (v := (G_1.1 66 4)) (C := RX12) (T := TX12) (N := 89) hx hb hg iX12 hown hK hW kd_66 rfl 4 (lt_b rfl) (hg (Cond.fieldLink RX12 185 "SlabWalkModel" "at" "I") m1318) (fun _ h9 => h9) rfl ((gp_ne eG_136 (by decide)).trans ((hq_131.i9 66 4 rfl rfl).trans ((hq_125.i9 66 4 rfl rfl).trans ((hq_104.i9 66 4 rfl rfl).trans ((hq_98.i9 66 4 rfl rfl).trans ((hq_81.i9 66 4 rfl rfl).trans ((hq_56.i9 66 4 rfl rfl).trans ((hq_49.i9 66 4 rfl rfl).trans ((gp_ne eG_45 (by decide)).trans ((congrFun (congrFun (gp_l eG_44).1 66) 4).trans ((hq_40.i9 66 4 rfl rfl).trans ((gp_ne eG_34 (by decide)).trans ((hq_29.i9 66 4 rfl rfl).trans ((hq_15.i9 66 4 rfl rfl).trans (rfl))))))))))))))) dX12_token_242 ?_
                    refine lv_iload_n hx hb dX12_token_245 rfl (lv_at hl 0 rfl) ?_
                    refine lv_iadd hx hb dX12_token_246 ?_
                    refine lv_topi (fun y_138 ey_138 => ?_)
                    have ty_138 : y_138.toInt = (G_1.1 66 4).toInt + x_84.toInt := xI_add rfl rfl ey_138 ((by first | exact ok_15 b_9.1 f_89.1 | omega)) ((by first | exact ok_584 b_9.2 c_120 | omega))
                    refine S_putI (ty := .int) (C := RX12) (T := TX12) (N := 89) hx hb hg iX12 tyX12 tyX12_ok nmX12 hown hK hW hS kd_66 rfl 4 (lt_b rfl) (hg (Cond.fieldLink RX12 185 "SlabWalkModel" "at" "I") m1318) (fun _ h9 => h9) rfl (by decide +kernel) rfl rfl rfl dX12_token_247 (fun G_139 H locs eG_139 hW hS => ?_)
                    have hB_G_139 : Bd G_139 := hB_G_136.put (V := y_138.toInt) (lo := 0) (hi := 1600) eG_139 rfl rfl rfl ((by first | exact ok_105 b_9.1 f_89.1 ty_138 | omega)) ((by first | exact ok_585 b_9.2 b_11.2 f_90 g_92 g_93 c_120 ty_138 | omega)) (hB_G_136.2.put eG_139 rfl)
                    have hF := hF.put eG_139 (Or.inr (by decide))
                    have g_140 : (G_139.1 66 4).toInt = y_138.toInt := (congrArg Int32.toInt (show G_139.1 66 4 = y_138 from (gp_eq eG_139)))
                    have g_141 : (G_139.1 66 6).toInt = 2 := (congrArg Int32.toInt (show G_139.1 66 6 = 2 from ((gp_ne eG_139 (by decide)).trans (gp_eq eG_136)))).trans rfl
                    exact W.vret hx hb hr (fun t ht _ => ⟨⟨G_139, rfl, (Q_token_mk ⟨hB_G_139, hF, ((by first | exact ⟨(by first | exact ok_586 f_7 f_89.1 ty_138 g_140 | omega), (fun h9 => (by first | exact ok_587 g_141 | omega))⟩ | omega)), ⟨G_1, hX_5, f_7, hB_G_1, hq_2, ⟨r_13, G_14, hX_17, ⟨c_19, ⟨r_27, G_28, hX_31, ⟨c_33, ⟨G_34, hB_G_34, (Fr.put (rs := []) (fs := [(66, 7)]) Fr.rf eG_34 (Or.inr (by decide))), (gp_eq eG_34), ⟨r_38, G_39, hX_42, (Or.inl ⟨c_46, ⟨G_45, hB_G_45, (Fr.put (rs := []) (fs := [(66, 8), (66, 9)]) (Fr.putl (rs := []) (fs := [(66, 8), (66, 9)]) Fr.rf eG_44 (Or.inr (by decide))) eG_45 (Or.inr (by decide))), (gp_eq eG_45), ((congrFun (congrFun (congrArg (fun q => q.2.1) eG_45) 66) 9).trans (gpl_eq eG_44)), ⟨r_47, G_48, hX_51, (Or.inl ⟨c_53, ⟨r_54, G_55, hX_58, (Or.inr ⟨c_60, ⟨x_84, G_80, hX_85, f_89, f_90, hB_G_80, hq_81, ⟨r_96, G_97, hX_100, ⟨r_102, G_103, hX_106, ⟨c_108, (Or.inl ⟨c_120, ⟨r_123, G_124, hX_127, ⟨r_129, G_130, hX_133, ⟨c_135, ⟨y_138, ty_138, ⟨(Fr.put (rs := []) (fs := [(66, 4), (66, 6)]) (Fr.put (rs := []) (fs := [(66, 4), (66, 6)]) Fr.rf eG_136 (Or.inr (by decide))) eG_139 (Or.inr (by decide))), (gp_eq eG_139), ((gp_ne eG_139 (by decide)).trans (gp_eq eG_136))⟩⟩⟩⟩⟩⟩)⟩⟩⟩⟩⟩)⟩⟩)⟩⟩⟩)⟩⟩⟩⟩⟩⟩⟩⟩), wd_t ht hW⟩, hS.F ht⟩) hS.2.2 dX12_token_250
                · have c_135 : r_129.toInt ≠ 0 := xI_ne rfl rfl c_135
                  exact hJ_113 () _ _ _ ⟨G_130, (Jn_n_token_3_mk (Or.inr ⟨c_120, ⟨r_123, G_124, hX_127, ⟨r_129, G_130, hX_133, ⟨c_135, rfl⟩⟩⟩⟩)), hW, hB_G_130, hF, (Fr.call9 (rs := []) (fs := []) (Fr.call9 (rs := []) (fs := []) Fr.rf hq_125 rfl rfl) hq_131 rfl rfl), hS, lv_sub hl [0, 1] rfl⟩
            · have c_108 : r_102.toInt ≠ 0 := xI_ne rfl rfl c_108
              refine lv_iload_n hx hb dX12_token_155 rfl (lv_at hl 0 rfl) ?_
              refine ic_4 hx hb dX12_token_156 ?_
              refine lv_icmp_ge (tgt := 180) hx hb dX12_token_157 rfl (fun c_142 => ?_) (fun c_142 => ?_)
              · have c_142 : 4 ≤ x_84.toInt := xI_le rfl rfl c_142
                obtain ⟨y_143, ey_143⟩ : ∃ q, q = x_84 + 1 := ⟨_, rfl⟩
                have ty_143 : y_143.toInt = x_84.toInt + 1 := xI_add rfl rfl ey_143 ((by first | exact ok_588 c_142 | omega)) ((by first | exact ok_122 f_89.2 | omega))
                refine lv_iinc (v := y_143) (lv' := [(2, .int y_143), (0, .ref (a 66))]) hx hb dX12_token_180 hl (k := 0) rfl (by rw [ey_143]; rfl) (lt_b rfl) rfl (fun ls hl => ?_)
                refine lv_goto (tgt := 144) hx hb dX12_token_183 rfl ?_
                have g_144 : (G_103.1 66 4).toInt = (G_1.1 66 4).toInt := (congrArg Int32.toInt (show G_103.1 66 4 = (G_1.1 66 4) from ((hq_104.i9 66 4 rfl rfl).trans ((hq_98.i9 66 4 rfl rfl).trans ((hq_81.i9 66 4 rfl rfl).trans ((hq_56.i9 66 4 rfl rfl).trans ((hq_49.i9 66 4 rfl rfl).trans ((gp_ne eG_45 (by decide)).trans ((congrFun (congrFun (gp_l eG_44).1 66) 4).trans ((hq_40.i9 66 4 rfl rfl).trans ((gp_ne eG_34 (by decide)).trans ((hq_29.i9 66 4 rfl rfl).trans ((hq_15.i9 66 4 rfl rfl).trans (rfl))))))))))))))
                have g_145 : (G_103.1 66 5).toInt = (G.1 66 5).toInt := (congrArg Int32.toInt (show G_103.1 66 5 = (G.1 66 5) from ((hq_104.i9 66 5 rfl rfl).trans ((hq_98.i9 66 5 rfl rfl).trans ((hq_81.i9 66 5 rfl rfl).trans ((hq_56.i9 66 5 rfl rfl).trans ((hq_49.i9 66 5 rfl rfl).trans ((gp_ne eG_45 (by decide)).trans ((congrFun (congrFun (gp_l eG_44).1 66) 5).trans ((hq_40.i9 66 5 rfl rfl).trans ((gp_ne eG_34 (by decide)).trans ((hq_29.i9 66 5 rfl rfl).trans ((hq_15.i9 66 5 rfl rfl).trans ((hq_2.i9 66 5 rfl rfl).trans (rfl)))))))))))))))
                exact ih_82 (1600 - y_143.toInt : Int).toNat ((by first | (clear b_6 f_18 c_19 f_32 c_33 f_43 hp_41 c_46 f_52 hp_50 c_53 f_59 hp_57 c_60 f_107 c_108; omega) | omega)) _ _ _ ⟨G_103, y_143, (Int.toNat_of_nonneg ((by first | exact ok_589 b_9.1 b_11.2 f_89.2 g_92 g_93 hp_99 f_107.1 f_107.2 hp_105 c_108 ty_143 | omega))), ⟨(by first | exact ok_590 c_142 ty_143 | omega), (by first | exact ok_591 b_9.1 b_11.2 f_89.2 g_92 g_93 hp_99 f_107.1 f_107.2 hp_105 c_108 ty_143 | omega)⟩, ((by first | exact ok_592 g_92 g_93 hp_99 f_107.1 f_107.2 hp_105 c_108 ty_143 g_144 g_145 | omega)), (hX_85.st (St_n_token_2_mk ⟨x_84, G_80, y_143, G_103, rfl, rfl, f_89, f_90, hB_G_80, ⟨r_96, G_97, hX_100, ⟨r_102, G_103, hX_106, ⟨c_108, (Or.inl ⟨c_142, ⟨y_143, ty_143, ⟨rfl, rfl⟩⟩⟩)⟩⟩⟩⟩)), hW, hB_G_103, hF, (Fr.call9 (rs := []) (fs := [(66, 8)]) (Fr.call9 (rs := []) (fs := [(66, 8)]) (Fr.call9 (rs := []) (fs := [(66, 8)]) Fr.rf hq_81 rfl rfl) hq_98 rfl rfl) hq_104 rfl rfl), hS, lv_sub hl [0, 1] rfl⟩
              · have c_142 : x_84.toInt < 4 := xI_nle rfl rfl c_142
                refine lv_aload_n hx hb dX12_token_160 rfl (lv_at hl 1 rfl) ?_
                refine lv_bipush (v := 10) hx hb dX12_token_161 (by decide) ?_
                refine lv_aload_n hx hb dX12_token_163 rfl (lv_at hl 1 rfl) ?_
                refine S_getI (v := (G_80.1 66 8)) (C := RX12) (T := TX12) (N := 89) hx hb hg iX12 hown hK hW kd_66 rfl 8 (lt_b rfl) (hg (Cond.fieldLink RX12 202 "SlabWalkModel" "number" "I") m1322) (fun _ h9 => h9) rfl ((hq_104.i9 66 8 rfl rfl).trans (hq_98.i9 66 8 rfl rfl)) dX12_token_164 ?_
                refine lv_imul hx hb dX12_token_167 ?_
                refine lv_topi (fun y_146 ey_146 => ?_)
                refine lv_aload_n hx hb dX12_token_168 rfl (lv_at hl 1 rfl) ?_
                refine lv_iload_n hx hb dX12_token_169 rfl (lv_at hl 0 rfl) ?_
                have g_147 : (G_103.1 66 4).toInt = (G_1.1 66 4).toInt := (congrArg Int32.toInt (show G_103.1 66 4 = (G_1.1 66 4) from ((hq_104.i9 66 4 rfl rfl).trans ((hq_98.i9 66 4 rfl rfl).trans ((hq_81.i9 66 4 rfl rfl).trans ((hq_56.i9 66 4 rfl rfl).trans ((hq_49.i9 66 4 rfl rfl).trans ((gp_ne eG_45 (by decide)).trans ((congrFun (congrFun (gp_l eG_44).1 66) 4).trans ((hq_40.i9 66 4 rfl rfl).trans ((gp_ne eG_34 (by decide)).trans ((hq_29.i9 66 4 rfl rfl).trans ((hq_15.i9 66 4 rfl rfl).trans (rfl))))))))))))))
                have g_148 : (G_103.1 66 5).toInt = (G.1 66 5).toInt := (congrArg Int32.toInt (show G_103.1 66 5 = (G.1 66 5) from ((hq_104.i9 66 5 rfl rfl).trans ((hq_98.i9 66 5 rfl rfl).trans ((hq_81.i9 66 5 rfl rfl).trans ((hq_56.i9 66 5 rfl rfl).trans ((hq_49.i9 66 5 rfl rfl).trans ((gp_ne eG_45 (by decide)).trans ((congrFun (congrFun (gp_l eG_44).1 66) 5).trans ((hq_40.i9 66 5 rfl rfl).trans ((gp_ne eG_34 (by decide)).trans ((hq_29.i9 66 5 rfl rfl).trans ((hq_15.i9 66 5 rfl rfl).trans ((hq_2.i9 66 5 rfl rfl).trans (rfl)))))))))))))))
                refine S_calli (va_runV (As := [.int x_84]) (rest := [.int y_146, .ref (a 66)]) ⟨hx, hb, hml, hown, hts⟩ (n_here l D k A a z G_103 x_84 ⟨(by first | exact f_89.1 | omega), (by first | exact ok_593 c_142 | omega)⟩) (cwV 1 hts (gd_V hgd m1606 m1608 m51 m131 m1609) rfl rfl rfl hd_X12_here ⟨Nat.le_of_ble_eq_true rfl, Nat.le_of_ble_eq_true rfl⟩) (pre_W hW hB_G_103 hK hZ hS kd_66 rfl) rfl rfl hl.1 rfl (lv_room (Nat.le_of_ble_eq_true rfl)) dX12_token_170 ⟨Nat.le_of_ble_eq_true rfl, Nat.le_of_ble_eq_true rfl⟩) hS (fun r_149 G_150 H locs hpo hW hS => ?_)
                have hX_153 : Q_here x_84 G_103 r_149 G_150 := hpo
                obtain ⟨hB_G_150, hq_151, f_154, hp_152, -⟩ := hpo
                have hF := hF.call9 hq_151 rfl rfl
                refine lv_iadd hx hb dX12_token_173 ?_
                refine lv_topi (fun y_155 ey_155 => ?_)
                refine lv_bipush (v := 48) hx hb dX12_token_174 (by decide) ?_
                refine lv_isub hx hb dX12_token_176 ?_
                refine lv_topi (fun y_156 ey_156 => ?_)
                refine S_putI (ty := .int) (C := RX12) (T := TX12) (N := 89) hx hb hg iX12 tyX12 tyX12_ok nmX12 hown hK hW hS kd_66 rfl 8 (lt_b rfl) (hg (Cond.fieldLink RX12 202 "SlabWalkModel" "number" "I") m1322) (fun _ h9 => h9) rfl (by decide +kernel) rfl rfl rfl dX12_token_177 (fun G_157 H locs eG_157 hW hS => ?_)
                have hB_G_157 : Bd G_157 := hB_G_150.put (lo := (-2147483648)) (hi := 2147483647) eG_157 rfl rfl rfl (tI_rng _).1 (tI_rng _).2 (hB_G_150.2.put eG_157 rfl)
                have hF := hF.put eG_157 (Or.inr (by decide))
                obtain ⟨y_158, ey_158⟩ : ∃ q, q = x_84 + 1 := ⟨_, rfl⟩
                have ty_158 : y_158.toInt = x_84.toInt + 1 := xI_add rfl rfl ey_158 ((by first | exact ok_21 f_89.1 | omega)) ((by first | exact ok_594 c_142 | omega))
                refine lv_iinc (v := y_158) (lv' := [(2, .int y_158), (0, .ref (a 66))]) hx hb dX12_token_180 hl (k := 0) rfl (by rw [ey_158]; rfl) (lt_b rfl) rfl (fun ls hl => ?_)
                refine lv_goto (tgt := 144) hx hb dX12_token_183 rfl ?_
                have g_159 : (G_157.1 66 4).toInt = (G_1.1 66 4).toInt := (congrArg Int32.toInt (show G_157.1 66 4 = (G_1.1 66 4) from ((gp_ne eG_157 (by decide)).trans ((hq_151.i9 66 4 rfl rfl).trans ((hq_104.i9 66 4 rfl rfl).trans ((hq_98.i9 66 4 rfl rfl).trans ((hq_81.i9 66 4 rfl rfl).trans ((hq_56.i9 66 4 rfl rfl).trans ((hq_49.i9 66 4 rfl rfl).trans ((gp_ne eG_45 (by decide)).trans ((congrFun (congrFun (gp_l eG_44).1 66) 4).trans ((hq_40.i9 66 4 rfl rfl).trans ((gp_ne eG_34 (by decide)).trans ((hq_29.i9 66 4 rfl rfl).trans ((hq_15.i9 66 4 rfl rfl).trans (rfl))))))))))))))))
                have g_160 : (G_157.1 66 5).toInt = (G.1 66 5).toInt := (congrArg Int32.toInt (show G_157.1 66 5 = (G.1 66 5) from ((gp_ne eG_157 (by decide)).trans ((hq_151.i9 66 5 rfl rfl).trans ((hq_104.i9 66 5 rfl rfl).trans ((hq_98.i9 66 5 rfl rfl).trans ((hq_81.i9 66 5 rfl rfl).trans ((hq_56.i9 66 5 rfl rfl).trans ((hq_49.i9 66 5 rfl rfl).trans ((gp_ne eG_45 (by decide)).trans ((congrFun (congrFun (gp_l eG_44).1 66) 5).trans ((hq_40.i9 66 5 rfl rfl).trans ((gp_ne eG_34 (by decide)).trans ((hq_29.i9 66 5 rfl rfl).trans ((hq_15.i9 66 5 rfl rfl).trans ((hq_2.i9 66 5 rfl rfl).trans (rfl)))))))))))))))))
                exact ih_82 (1600 - y_158.toInt : Int).toNat ((by first | (clear b_6 f_18 c_19 f_32 c_33 f_43 hp_41 c_46 f_52 hp_50 c_53 f_59 hp_57 c_60 f_107 c_108; omega) | omega)) _ _ _ ⟨G_157, y_158, (Int.toNat_of_nonneg ((by first | exact ok_595 c_142 ty_158 | omega))), ⟨(by first | exact ok_23 f_89.1 ty_158 | omega), (by first | exact ok_596 c_142 ty_158 | omega)⟩, ((by first | exact ok_592 g_92 g_93 hp_99 f_107.1 f_107.2 hp_105 c_108 ty_158 g_159 g_160 | omega)), (hX_85.st (St_n_token_2_mk ⟨x_84, G_80, y_158, G_157, rfl, rfl, f_89, f_90, hB_G_80, ⟨r_96, G_97, hX_100, ⟨r_102, G_103, hX_106, ⟨c_108, (Or.inr ⟨c_142, ⟨y_146, ey_146, ⟨r_149, G_150, hX_153, ⟨y_155, ey_155, ⟨y_156, ey_156, ⟨y_158, ty_158, ⟨rfl, (Fr.put (rs := []) (fs := [(66, 8)]) Fr.rf eG_157 (Or.inr (by decide))), (gp_eq eG_157)⟩⟩⟩⟩⟩⟩⟩)⟩⟩⟩⟩)), hW, hB_G_157, hF, (Fr.put (rs := []) (fs := [(66, 8)]) (Fr.call9 (rs := []) (fs := [(66, 8)]) (Fr.call9 (rs := []) (fs := [(66, 8)]) (Fr.call9 (rs := []) (fs := [(66, 8)]) (Fr.call9 (rs := []) (fs := [(66, 8)]) Fr.rf hq_81 rfl rfl) hq_98 rfl rfl) hq_104 rfl rfl) hq_151 rfl rfl) eG_157 (Or.inr (by decide))), hS, lv_sub hl [0, 1] rfl⟩
        · have c_53 : r_47.toInt ≠ 0 := xI_ne rfl rfl c_53
          have g_167 : (G_48.1 66 4).toInt = (G_1.1 66 4).toInt := (congrArg Int32.toInt (show G_48.1 66 4 = (G_1.1 66 4) from ((hq_49.i9 66 4 rfl rfl).trans ((gp_ne eG_45 (by decide)).trans ((congrFun (congrFun (gp_l eG_44).1 66) 4).trans ((hq_40.i9 66 4 rfl rfl).trans ((gp_ne eG_34 (by decide)).trans ((hq_29.i9 66 4 rfl rfl).trans ((hq_15.i9 66 4 rfl rfl).trans (rfl))))))))))
          have g_168 : (G_48.1 66 5).toInt = (G.1 66 5).toInt := (congrArg Int32.toInt (show G_48.1 66 5 = (G.1 66 5) from ((hq_49.i9 66 5 rfl rfl).trans ((gp_ne eG_45 (by decide)).trans ((congrFun (congrFun (gp_l eG_44).1 66) 5).trans ((hq_40.i9 66 5 rfl rfl).trans ((gp_ne eG_34 (by decide)).trans ((hq_29.i9 66 5 rfl rfl).trans ((hq_15.i9 66 5 rfl rfl).trans ((hq_2.i9 66 5 rfl rfl).trans (rfl)))))))))))
          have qc_169 : (0 : Int32).toInt = 0 := rfl
          refine loop_N (Inv := fun n H locs ls => ∃ (G_161 : GS) (x_165 : Int32), (n : Int) = 1600 - x_165.toInt ∧ (0 ≤ x_165.toInt ∧ x_165.toInt ≤ 1600) ∧ ((G_161.1 66 4).toInt + x_165.toInt ≤ (G_161.1 66 5).toInt) ∧ Rc (St_n_token_4) (0, G_48) (x_165, G_161) ∧ Wd D k A a G_161 H ∧ Bd G_161 ∧ Fr [] [(66, 4), (66, 6), (66, 7), (66, 8), (66, 9)] G G_161 ∧ Fr [] [(66, 9)] G_48 G_161 ∧ va_S A s.heap H locs ∧ lv_has ls 3 [(2, .int x_165), (0, .ref (a 66))]) (fun n_164 H locs ls ih_163 hI => ?_) (1600 - 0 : Int).toNat ⟨G_48, 0, (Int.toNat_of_nonneg ((by decide))), ⟨(by decide), (by decide)⟩, ((by first | exact ok_580 b_9.2 qc_10 b_11.1 g_36 g_37 d_1 g_167 g_168 | omega)), Rc.rf, hW, hB_G_48, hF, Fr.rf, hS, lv_sub hl [0, 2] rfl⟩
          obtain ⟨G_161, x_165, hn_172, f_170, f_171, hX_166, hW, hB_G_161, hF, hq_162, hS, hl⟩ := hI
          have g_173 : (G_161.1 66 4).toInt = (G_1.1 66 4).toInt := (congrArg Int32.toInt (show G_161.1 66 4 = (G_1.1 66 4) from ((hq_162.i9 66 4 rfl rfl).trans ((hq_49.i9 66 4 rfl rfl).trans ((gp_ne eG_45 (by decide)).trans ((congrFun (congrFun (gp_l eG_44).1 66) 4).trans ((hq_40.i9 66 4 rfl rfl).trans ((gp_ne eG_34 (by decide)).trans ((hq_29.i9 66 4 rfl rfl).trans ((hq_15.i9 66 4 rfl rfl).trans (rfl)))))))))))
          have g_174 : (G_161.1 66 5).toInt = (G.1 66 5).toInt := (congrArg Int32.toInt (show G_161.1 66 5 = (G.1 66 5) from ((hq_162.i9 66 5 rfl rfl).trans ((hq_49.i9 66 5 rfl rfl).trans ((gp_ne eG_45 (by decide)).trans ((congrFun (congrFun (gp_l eG_44).1 66) 5).trans ((hq_40.i9 66 5 rfl rfl).trans ((gp_ne eG_34 (by decide)).trans ((hq_29.i9 66 5 rfl rfl).trans ((hq_15.i9 66 5 rfl rfl).trans ((hq_2.i9 66 5 rfl rfl).trans (rfl))))))))))))
          refine lv_aload_n hx hb dX12_token_78 rfl (lv_at hl 1 rfl) ?_
          refine lv_iload_n hx hb dX12_token_79 rfl (lv_at hl 0 rfl) ?_
          have g_175 : (G_161.1 66 4).toInt = (G_1.1 66 4).toInt := (congrArg Int32.toInt (show G_161.1 66 4 = (G_1.1 66 4) from ((hq_162.i9 66 4 rfl rfl).trans ((hq_49.i9 66 4 rfl rfl).trans ((gp_ne eG_45 (by decide)).trans ((congrFun (congrFun (gp_l eG_44).1 66) 4).trans ((hq_40.i9 66 4 rfl rfl).trans ((gp_ne eG_34 (by decide)).trans ((hq_29.i9 66 4 rfl rfl).trans ((hq_15.i9 66 4 rfl rfl).trans (rfl)))))))))))
          have g_176 : (G_161.1 66 5).toInt = (G.1 66 5).toInt := (congrArg Int32.toInt (show G_161.1 66 5 = (G.1 66 5) from ((hq_162.i9 66 5 rfl rfl).trans ((hq_49.i9 66 5 rfl rfl).trans ((gp_ne eG_45 (by decide)).trans ((congrFun (congrFun (gp_l eG_44).1 66) 5).trans ((hq_40.i9 66 5 rfl rfl).trans ((gp_ne eG_34 (by decide)).trans ((hq_29.i9 66 5 rfl rfl).trans ((hq_15.i9 66 5 rfl rfl).trans ((hq_2.i9 66 5 rfl rfl).trans (rfl))))))))))))
          refine S_calli (va_runV (As := [.int x_165]) (rest := []) ⟨hx, hb, hml, hown, hts⟩ (n_here l D k A a z G_161 x_165 ⟨(by first | exact f_170.1 | omega), (by first | exact ok_581 f_170.2 | omega)⟩) (cwV 1 hts (gd_V hgd m1606 m1608 m51 m131 m1609) rfl rfl rfl hd_X12_here ⟨Nat.le_of_ble_eq_true rfl, Nat.le_of_ble_eq_true rfl⟩) (pre_W hW hB_G_161 hK hZ hS kd_66 rfl) rfl rfl hl.1 rfl (lv_room (Nat.le_of_ble_eq_true rfl)) dX12_token_80 ⟨Nat.le_of_ble_eq_true rfl, Nat.le_of_ble_eq_true rfl⟩) hS (fun r_177 G_178 H locs hpo hW hS => ?_)
          have hX_181 : Q_here x_165 G_161 r_177 G_178 := hpo
          obtain ⟨hB_G_178, hq_179, f_182, hp_180, -⟩ := hpo
          have hF := hF.call9 hq_179 rfl rfl
          refine S_calli (va_runS (As := [.int r_177]) (rest := []) ⟨hx, hb, hml, hown, hts⟩ (n_letter l D k A a z G_178 r_177 ) (va_cwS 1 hts (gd_S hgd m1610 m1611 m131 m1612) rfl rfl rfl hd_X12_isLetter.2 ⟨Nat.le_of_ble_eq_true rfl, Nat.le_of_ble_eq_true rfl⟩) (pre_S hW hB_G_178 hK hZ hS) rfl rfl hl.1 rfl (lv_room (Nat.le_of_ble_eq_true rfl)) dX12_token_83 ⟨Nat.le_of_ble_eq_true rfl, Nat.le_of_ble_eq_true rfl⟩) hS (fun r_183 G_184 H locs hpo hW hS => ?_)
          have hX_187 : Q_letter r_177 G_178 r_183 G_184 := hpo
          obtain ⟨hB_G_184, hq_185, f_188, hp_186, -⟩ := hpo
          have hF := hF.call9 hq_185 rfl rfl
          refine lv_if_eq (tgt := 119) hx hb dX12_token_86 rfl (fun c_189 => ?_) (fun c_189 => ?_)
          · have c_189 : r_183.toInt = 0 := xI_eq rfl rfl c_189
            refine lv_aload_n hx hb dX12_token_119 rfl (lv_at hl 1 rfl) ?_
            refine lv_iload_n hx hb dX12_token_120 rfl (lv_at hl 0 rfl) ?_
            refine lv_bipush (v := 8) hx hb dX12_token_121 (by decide) ?_
            refine lv_icmp_le (tgt := 130) hx hb dX12_token_123 rfl (fun c_190 => ?_) (fun c_190 => ?_)
            · have c_190 : x_165.toInt ≤ 8 := xI_le rfl rfl c_190
              refine ic_1 hx hb dX12_token_130 ?_
              refine S_putI (ty := .int) (C := RX12) (T := TX12) (N := 89) hx hb hg iX12 tyX12 tyX12_ok nmX12 hown hK hW hS kd_66 rfl 6 (lt_b rfl) (hg (Cond.fieldLink RX12 205 "SlabWalkModel" "sort" "I") m1320) (fun _ h9 => h9) rfl (by decide +kernel) rfl rfl rfl dX12_token_131 (fun G_191 H locs eG_191 hW hS => ?_)
              have hB_G_191 : Bd G_191 := hB_G_184.put (lo := (-2147483648)) (hi := 2147483647) eG_191 rfl rfl rfl (tI_rng _).1 (tI_rng _).2 (hB_G_184.2.put eG_191 rfl)
              have hF := hF.put eG_191 (Or.inr (by decide))
              refine lv_goto (tgt := 232) hx hb dX12_token_134 rfl ?_
              refine lv_aload_n hx hb dX12_token_232 rfl (lv_at hl 1 rfl) ?_
              refine S_getI (v := 1) (C := RX12) (T := TX12) (N := 89) hx hb hg iX12 hown hK hW kd_66 rfl 6 (lt_b rfl) (hg (Cond.fieldLink RX12 205 "SlabWalkModel" "sort" "I") m1320) (fun _ h9 => h9) rfl (gp_eq eG_191) dX12_token_233 ?_
              refine ic_3 hx hb dX12_token_236 ?_
              refine lv_icmp_eq (tgt := 250) hx hb dX12_token_237 rfl (fun c_192 => ?_) (fun c_192 => ?_)
              · have c_192 : (1 : Int) = (3 : Int) := xI_eq rfl rfl c_192
                exfalso; first | exact ok_597 c_192 | omega
              · have c_192 : (1 : Int) ≠ (3 : Int) := xI_ne rfl rfl c_192
                refine lv_aload_n hx hb dX12_token_240 rfl (lv_at hl 1 rfl) ?_
                refine lv_dup hx hb dX12_token_241 rfl ?_
                refine S_getI (v := (G_1.1 66 4)) (C := RX12) (T := TX12) (N := 89) hx hb hg iX12 hown hK hW kd_66 rfl 4 (lt_b rfl) (hg (Cond.fieldLink RX12 185 "SlabWalkModel" "at" "I") m1318) (fun _ h9 => h9) rfl ((gp_ne eG_191 (by decide)).trans ((hq_185.i9 66 4 rfl rfl).trans ((hq_179.i9 66 4 rfl rfl).trans ((hq_162.i9 66 4 rfl rfl).trans ((hq_49.i9 66 4 rfl rfl).trans ((gp_ne eG_45 (by decide)).trans ((congrFun (congrFun (gp_l eG_44).1 66) 4).trans ((hq_40.i9 66 4 rfl rfl).trans ((gp_ne eG_34 (by decide)).trans ((hq_29.i9 66 4 rfl rfl).trans ((hq_15.i9 66 4 rfl rfl).trans (rfl)))))))))))) dX12_token_242 ?_
                refine lv_iload_n hx hb dX12_token_245 rfl (lv_at hl 0 rfl) ?_
                refine lv_iadd hx hb dX12_token_246 ?_
                refine lv_topi (fun y_193 ey_193 => ?_)
                have ty_193 : y_193.toInt = (G_1.1 66 4).toInt + x_165.toInt := xI_add rfl rfl ey_193 ((by first | exact ok_15 b_9.1 f_170.1 | omega)) ((by first | exact ok_598 b_9.2 c_190 | omega))
                refine S_putI (ty := .int) (C := RX12) (T := TX12) (N := 89) hx hb hg iX12 tyX12 tyX12_ok nmX12 hown hK hW hS kd_66 rfl 4 (lt_b rfl) (hg (Cond.fieldLink RX12 185 "SlabWalkModel" "at" "I") m1318) (fun _ h9 => h9) rfl (by decide +kernel) rfl rfl rfl dX12_token_247 (fun G_194 H locs eG_194 hW hS => ?_)
                have hB_G_194 : Bd G_194 := hB_G_191.put (V := y_193.toInt) (lo := 0) (hi := 1600) eG_194 rfl rfl rfl ((by first | exact ok_105 b_9.1 f_170.1 ty_193 | omega)) ((by first | exact ok_599 b_9.2 b_11.2 f_171 g_173 g_174 c_190 ty_193 | omega)) (hB_G_191.2.put eG_194 rfl)
                have hF := hF.put eG_194 (Or.inr (by decide))
                have g_195 : (G_194.1 66 4).toInt = y_193.toInt := (congrArg Int32.toInt (show G_194.1 66 4 = y_193 from (gp_eq eG_194)))
                have g_196 : (G_194.1 66 6).toInt = 1 := (congrArg Int32.toInt (show G_194.1 66 6 = 1 from ((gp_ne eG_194 (by decide)).trans (gp_eq eG_191)))).trans rfl
                exact W.vret hx hb hr (fun t ht _ => ⟨⟨G_194, rfl, (Q_token_mk ⟨hB_G_194, hF, ((by first | exact ⟨(by first | exact ok_586 f_7 f_170.1 ty_193 g_195 | omega), (fun h9 => (by first | exact ok_600 g_196 | omega))⟩ | omega)), ⟨G_1, hX_5, f_7, hB_G_1, hq_2, ⟨r_13, G_14, hX_17, ⟨c_19, ⟨r_27, G_28, hX_31, ⟨c_33, ⟨G_34, hB_G_34, (Fr.put (rs := []) (fs := [(66, 7)]) Fr.rf eG_34 (Or.inr (by decide))), (gp_eq eG_34), ⟨r_38, G_39, hX_42, (Or.inl ⟨c_46, ⟨G_45, hB_G_45, (Fr.put (rs := []) (fs := [(66, 8), (66, 9)]) (Fr.putl (rs := []) (fs := [(66, 8), (66, 9)]) Fr.rf eG_44 (Or.inr (by decide))) eG_45 (Or.inr (by decide))), (gp_eq eG_45), ((congrFun (congrFun (congrArg (fun q => q.2.1) eG_45) 66) 9).trans (gpl_eq eG_44)), ⟨r_47, G_48, hX_51, (Or.inr ⟨c_53, ⟨x_165, G_161, hX_166, f_170, f_171, hB_G_161, hq_162, ⟨r_177, G_178, hX_181, ⟨r_183, G_184, hX_187, ⟨c_189, (Or.inl ⟨c_190, ⟨y_193, ty_193, ⟨(Fr.put (rs := []) (fs := [(66, 4), (66, 6)]) (Fr.put (rs := []) (fs := [(66, 4), (66, 6)]) Fr.rf eG_191 (Or.inr (by decide))) eG_194 (Or.inr (by decide))), (gp_eq eG_194), ((gp_ne eG_194 (by decide)).trans (gp_eq eG_191))⟩⟩⟩)⟩⟩⟩⟩⟩)⟩⟩⟩)⟩⟩⟩⟩⟩⟩⟩⟩), wd_t ht hW⟩, hS.F ht⟩) hS.2.2 dX12_token_250
            · have c_190 : 8 < x_165.toInt := xI_nle rfl rfl c_190
              refine ic_3 hx hb dX12_token_126 ?_
              refine lv_goto (tgt := 131) hx hb dX12_token_127 rfl ?_
              refine S_putI (ty := .int) (C := RX12) (T := TX12) (N := 89) hx hb hg iX12 tyX12 tyX12_ok nmX12 hown hK hW hS kd_66 rfl 6 (lt_b rfl) (hg (Cond.fieldLink RX12 205 "SlabWalkModel" "sort" "I") m1320) (fun _ h9 => h9) rfl (by decide +kernel) rfl rfl rfl dX12_token_131 (fun G_197 H locs eG_197 hW hS => ?_)
              have hB_G_197 : Bd G_197 := hB_G_184.put (lo := (-2147483648)) (hi := 2147483647) eG_197 rfl rfl rfl (tI_rng _).1 (tI_rng _).2 (hB_G_184.2.put eG_197 rfl)
              have hF := hF.put eG_197 (Or.inr (by decide))
              refine lv_goto (tgt := 232) hx hb dX12_token_134 rfl ?_
              refine lv_aload_n hx hb dX12_token_232 rfl (lv_at hl 1 rfl) ?_
              refine S_getI (v := 3) (C := RX12) (T := TX12) (N := 89) hx hb hg iX12 hown hK hW kd_66 rfl 6 (lt_b rfl) (hg (Cond.fieldLink RX12 205 "SlabWalkModel" "sort" "I") m1320) (fun _ h9 => h9) rfl (gp_eq eG_197) dX12_token_233 ?_
              refine ic_3 hx hb dX12_token_236 ?_
              refine lv_icmp_eq (tgt := 250) hx hb dX12_token_237 rfl (fun c_198 => ?_) (fun c_198 => ?_)
              · have c_198 : (3 : Int) = (3 : Int) := xI_eq rfl rfl c_198
                have g_199 : (G_197.1 66 4).toInt = (G_1.1 66 4).toInt := (congrArg Int32.toInt (show G_197.1 66 4 = (G_1.1 66 4) from ((gp_ne eG_197 (by decide)).trans ((hq_185.i9 66 4 rfl rfl).trans ((hq_179.i9 66 4 rfl rfl).trans ((hq_162.i9 66 4 rfl rfl).trans ((hq_49.i9 66 4 rfl rfl).trans ((gp_ne eG_45 (by decide)).trans ((congrFun (congrFun (gp_l eG_44).1 66) 4).trans ((hq_40.i9 66 4 rfl rfl).trans ((gp_ne eG_34 (by decide)).trans ((hq_29.i9 66 4 rfl rfl).trans ((hq_15.i9 66 4 rfl rfl).trans (rfl))))))))))))))
                have g_200 : (G_197.1 66 6).toInt = 3 := (congrArg Int32.toInt (show G_197.1 66 6 = 3 from (gp_eq eG_197))).trans rfl
                exact W.vret hx hb hr (fun t ht _ => ⟨⟨G_197, rfl, (Q_token_mk ⟨hB_G_197, hF, ((by first | exact ⟨(by first | exact ok_347 f_7 g_199 | omega), (fun h9 => (by first | exact ok_576 g_200 | omega))⟩ | omega)), ⟨G_1, hX_5, f_7, hB_G_1, hq_2, ⟨r_13, G_14, hX_17, ⟨c_19, ⟨r_27, G_28, hX_31, ⟨c_33, ⟨G_34, hB_G_34, (Fr.put (rs := []) (fs := [(66, 7)]) Fr.rf eG_34 (Or.inr (by decide))), (gp_eq eG_34), ⟨r_38, G_39, hX_42, (Or.inl ⟨c_46, ⟨G_45, hB_G_45, (Fr.put (rs := []) (fs := [(66, 8), (66, 9)]) (Fr.putl (rs := []) (fs := [(66, 8), (66, 9)]) Fr.rf eG_44 (Or.inr (by decide))) eG_45 (Or.inr (by decide))), (gp_eq eG_45), ((congrFun (congrFun (congrArg (fun q => q.2.1) eG_45) 66) 9).trans (gpl_eq eG_44)), ⟨r_47, G_48, hX_51, (Or.inr ⟨c_53, ⟨x_165, G_161, hX_166, f_170, f_171, hB_G_161, hq_162, ⟨r_177, G_178, hX_181, ⟨r_183, G_184, hX_187, ⟨c_189, (Or.inr ⟨c_190, ⟨(Fr.put (rs := []) (fs := [(66, 6)]) Fr.rf eG_197 (Or.inr (by decide))), (gp_eq eG_197)⟩⟩)⟩⟩⟩⟩⟩)⟩⟩⟩)⟩⟩⟩⟩⟩⟩⟩⟩), wd_t ht hW⟩, hS.F ht⟩) hS.2.2 dX12_token_250
              · have c_198 : (3 : Int) ≠ (3 : Int) := xI_ne rfl rfl c_198
                exfalso; first | exact ok_577 c_198 | omega
          · have c_189 : r_183.toInt ≠ 0 := xI_ne rfl rfl c_189
            refine lv_iload_n hx hb dX12_token_89 rfl (lv_at hl 0 rfl) ?_
            refine lv_bipush (v := 8) hx hb dX12_token_90 (by decide) ?_
            refine lv_icmp_ge (tgt := 113) hx hb dX12_token_92 rfl (fun c_201 => ?_) (fun c_201 => ?_)
            · have c_201 : 8 ≤ x_165.toInt := xI_le rfl rfl c_201
              obtain ⟨y_202, ey_202⟩ : ∃ q, q = x_165 + 1 := ⟨_, rfl⟩
              have ty_202 : y_202.toInt = x_165.toInt + 1 := xI_add rfl rfl ey_202 ((by first | exact ok_601 c_201 | omega)) ((by first | exact ok_122 f_170.2 | omega))
              refine lv_iinc (v := y_202) (lv' := [(2, .int y_202), (0, .ref (a 66))]) hx hb dX12_token_113 hl (k := 0) rfl (by rw [ey_202]; rfl) (lt_b rfl) rfl (fun ls hl => ?_)
              refine lv_goto (tgt := 78) hx hb dX12_token_116 rfl ?_
              have g_203 : (G_184.1 66 4).toInt = (G_1.1 66 4).toInt := (congrArg Int32.toInt (show G_184.1 66 4 = (G_1.1 66 4) from ((hq_185.i9 66 4 rfl rfl).trans ((hq_179.i9 66 4 rfl rfl).trans ((hq_162.i9 66 4 rfl rfl).trans ((hq_49.i9 66 4 rfl rfl).trans ((gp_ne eG_45 (by decide)).trans ((congrFun (congrFun (gp_l eG_44).1 66) 4).trans ((hq_40.i9 66 4 rfl rfl).trans ((gp_ne eG_34 (by decide)).trans ((hq_29.i9 66 4 rfl rfl).trans ((hq_15.i9 66 4 rfl rfl).trans (rfl)))))))))))))
              have g_204 : (G_184.1 66 5).toInt = (G.1 66 5).toInt := (congrArg Int32.toInt (show G_184.1 66 5 = (G.1 66 5) from ((hq_185.i9 66 5 rfl rfl).trans ((hq_179.i9 66 5 rfl rfl).trans ((hq_162.i9 66 5 rfl rfl).trans ((hq_49.i9 66 5 rfl rfl).trans ((gp_ne eG_45 (by decide)).trans ((congrFun (congrFun (gp_l eG_44).1 66) 5).trans ((hq_40.i9 66 5 rfl rfl).trans ((gp_ne eG_34 (by decide)).trans ((hq_29.i9 66 5 rfl rfl).trans ((hq_15.i9 66 5 rfl rfl).trans ((hq_2.i9 66 5 rfl rfl).trans (rfl))))))))))))))
              exact ih_163 (1600 - y_202.toInt : Int).toNat ((by first | (clear b_6 f_18 c_19 f_32 c_33 f_43 hp_41 c_46 f_52 hp_50 c_53 f_188 c_189; omega) | omega)) _ _ _ ⟨G_184, y_202, (Int.toNat_of_nonneg ((by first | exact ok_589 b_9.1 b_11.2 f_170.2 g_173 g_174 hp_180 f_188.1 f_188.2 hp_186 c_189 ty_202 | omega))), ⟨(by first | exact ok_602 c_201 ty_202 | omega), (by first | exact ok_591 b_9.1 b_11.2 f_170.2 g_173 g_174 hp_180 f_188.1 f_188.2 hp_186 c_189 ty_202 | omega)⟩, ((by first | exact ok_592 g_173 g_174 hp_180 f_188.1 f_188.2 hp_186 c_189 ty_202 g_203 g_204 | omega)), (hX_166.st (St_n_token_4_mk ⟨x_165, G_161, y_202, G_184, rfl, rfl, f_170, f_171, hB_G_161, ⟨r_177, G_178, hX_181, ⟨r_183, G_184, hX_187, ⟨c_189, (Or.inl ⟨c_201, ⟨y_202, ty_202, ⟨rfl, rfl⟩⟩⟩)⟩⟩⟩⟩)), hW, hB_G_184, hF, (Fr.call9 (rs := []) (fs := [(66, 9)]) (Fr.call9 (rs := []) (fs := [(66, 9)]) (Fr.call9 (rs := []) (fs := [(66, 9)]) Fr.rf hq_162 rfl rfl) hq_179 rfl rfl) hq_185 rfl rfl), hS, lv_sub hl [0, 1] rfl⟩
            · have c_201 : x_165.toInt < 8 := xI_nle rfl rfl c_201
              refine lv_aload_n hx hb dX12_token_95 rfl (lv_at hl 1 rfl) ?_
              refine lv_aload_n hx hb dX12_token_96 rfl (lv_at hl 1 rfl) ?_
              obtain ⟨y_205, ey_205⟩ : ∃ q, G_184.2.1 66 9 = q := ⟨_, rfl⟩
              refine S_getL (v := y_205) (C := RX12) (T := TX12) (N := 89) hx hb hg iX12 hown hK hW kd_66 rfl 9 (lt_b rfl) (hg (Cond.fieldLink RX12 198 "SlabWalkModel" "word" "J") m1323) (fun _ h9 => h9) rfl ey_205 dX12_token_97 ?_
              refine lv_bipush (v := 8) hx hb dX12_token_100 (by decide) ?_
              refine lv_lshl hx hb dX12_token_102 rfl ?_
              refine lv_topl (fun y_206 ey_206 => ?_)
              refine lv_aload_n hx hb dX12_token_103 rfl (lv_at hl 1 rfl) ?_
              refine lv_iload_n hx hb dX12_token_104 rfl (lv_at hl 0 rfl) ?_
              have g_207 : (G_184.1 66 4).toInt = (G_1.1 66 4).toInt := (congrArg Int32.toInt (show G_184.1 66 4 = (G_1.1 66 4) from ((hq_185.i9 66 4 rfl rfl).trans ((hq_179.i9 66 4 rfl rfl).trans ((hq_162.i9 66 4 rfl rfl).trans ((hq_49.i9 66 4 rfl rfl).trans ((gp_ne eG_45 (by decide)).trans ((congrFun (congrFun (gp_l eG_44).1 66) 4).trans ((hq_40.i9 66 4 rfl rfl).trans ((gp_ne eG_34 (by decide)).trans ((hq_29.i9 66 4 rfl rfl).trans ((hq_15.i9 66 4 rfl rfl).trans (rfl)))))))))))))
              have g_208 : (G_184.1 66 5).toInt = (G.1 66 5).toInt := (congrArg Int32.toInt (show G_184.1 66 5 = (G.1 66 5) from ((hq_185.i9 66 5 rfl rfl).trans ((hq_179.i9 66 5 rfl rfl).trans ((hq_162.i9 66 5 rfl rfl).trans ((hq_49.i9 66 5 rfl rfl).trans ((gp_ne eG_45 (by decide)).trans ((congrFun (congrFun (gp_l eG_44).1 66) 5).trans ((hq_40.i9 66 5 rfl rfl).trans ((gp_ne eG_34 (by decide)).trans ((hq_29.i9 66 5 rfl rfl).trans ((hq_15.i9 66 5 rfl rfl).trans ((hq_2.i9 66 5 rfl rfl).trans (rfl))))))))))))))
              refine S_calli (va_runV (As := [.int x_165]) (rest := [.long y_206, .ref (a 66)]) ⟨hx, hb, hml, hown, hts⟩ (n_here l D k A a z G_184 x_165 ⟨(by first | exact f_170.1 | omega), (by first | exact ok_603 c_201 | omega)⟩) (cwV 1 hts (gd_V hgd m1606 m1608 m51 m131 m1609) rfl rfl rfl hd_X12_here ⟨Nat.le_of_ble_eq_true rfl, Nat.le_of_ble_eq_true rfl⟩) (pre_W hW hB_G_184 hK hZ hS kd_66 rfl) rfl rfl hl.1 rfl (lv_room (Nat.le_of_ble_eq_true rfl)) dX12_token_105 ⟨Nat.le_of_ble_eq_true rfl, Nat.le_of_ble_eq_true rfl⟩) hS (fun r_209 G_210 H locs hpo hW hS => ?_)
              have hX_213 : Q_here x_165 G_184 r_209 G_210 := hpo
              obtain ⟨hB_G_210, hq_211, f_214, hp_212, -⟩ := hpo
              have hF := hF.call9 hq_211 rfl rfl
              refine lv_i2l hx hb dX12_token_108 rfl ?_
              refine lv_topl (fun y_215 ey_215 => ?_)
              refine lv_lor hx hb dX12_token_109 ?_
              refine lv_topl (fun y_216 ey_216 => ?_)
              refine S_putL (C := RX12) (T := TX12) (N := 89) hx hb hg iX12 tyX12 tyX12_ok nmX12 hown hK hW hS kd_66 rfl 9 (lt_b rfl) (hg (Cond.fieldLink RX12 198 "SlabWalkModel" "word" "J") m1323) (fun _ h9 => h9) rfl (by decide +kernel) rfl dX12_token_110 (fun G_217 H locs eG_217 hW hS => ?_)
              have hB_G_217 : Bd G_217 := hB_G_210.putl eG_217
              have hF := hF.putl eG_217 (Or.inr (by decide))
              obtain ⟨y_218, ey_218⟩ : ∃ q, q = x_165 + 1 := ⟨_, rfl⟩
              have ty_218 : y_218.toInt = x_165.toInt + 1 := xI_add rfl rfl ey_218 ((by first | exact ok_21 f_170.1 | omega)) ((by first | exact ok_604 c_201 | omega))
              refine lv_iinc (v := y_218) (lv' := [(2, .int y_218), (0, .ref (a 66))]) hx hb dX12_token_113 hl (k := 0) rfl (by rw [ey_218]; rfl) (lt_b rfl) rfl (fun ls hl => ?_)
              refine lv_goto (tgt := 78) hx hb dX12_token_116 rfl ?_
              have g_219 : (G_217.1 66 4).toInt = (G_1.1 66 4).toInt := (congrArg Int32.toInt (show G_217.1 66 4 = (G_1.1 66 4) from ((congrFun (congrFun (gp_l eG_217).1 66) 4).trans ((hq_211.i9 66 4 rfl rfl).trans ((hq_185.i9 66 4 rfl rfl).trans ((hq_179.i9 66 4 rfl rfl).trans ((hq_162.i9 66 4 rfl rfl).trans ((hq_49.i9 66 4 rfl rfl).trans ((gp_ne eG_45 (by decide)).trans ((congrFun (congrFun (gp_l eG_44).1 66) 4).trans ((hq_40.i9 66 4 rfl rfl).trans ((gp_ne eG_34 (by decide)).trans ((hq_29.i9 66 4 rfl rfl).trans ((hq_15.i9 66 4 rfl rfl).trans (rfl)))))))))))))))
              have g_220 : (G_217.1 66 5).toInt = (G.1 66 5).toInt := (congrArg Int32.toInt (show G_217.1 66 5 = (G.1 66 5) from ((congrFun (congrFun (gp_l eG_217).1 66) 5).trans ((hq_211.i9 66 5 rfl rfl).trans ((hq_185.i9 66 5 rfl rfl).trans ((hq_179.i9 66 5 rfl rfl).trans ((hq_162.i9 66 5 rfl rfl).trans ((hq_49.i9 66 5 rfl rfl).trans ((gp_ne eG_45 (by decide)).trans ((congrFun (congrFun (gp_l eG_44).1 66) 5).trans ((hq_40.i9 66 5 rfl rfl).trans ((gp_ne eG_34 (by decide)).trans ((hq_29.i9 66 5 rfl rfl).trans ((hq_15.i9 66 5 rfl rfl).trans ((hq_2.i9 66 5 rfl rfl).trans (rfl))))))))))))))))
              exact ih_163 (1600 - y_218.toInt : Int).toNat ((by first | (clear b_6 f_18 c_19 f_32 c_33 f_43 hp_41 c_46 f_52 hp_50 c_53 f_188 c_189; omega) | omega)) _ _ _ ⟨G_217, y_218, (Int.toNat_of_nonneg ((by first | exact ok_605 c_201 ty_218 | omega))), ⟨(by first | exact ok_23 f_170.1 ty_218 | omega), (by first | exact ok_606 c_201 ty_218 | omega)⟩, ((by first | exact ok_592 g_173 g_174 hp_180 f_188.1 f_188.2 hp_186 c_189 ty_218 g_219 g_220 | omega)), (hX_166.st (St_n_token_4_mk ⟨x_165, G_161, y_218, G_217, rfl, rfl, f_170, f_171, hB_G_161, ⟨r_177, G_178, hX_181, ⟨r_183, G_184, hX_187, ⟨c_189, (Or.inr ⟨c_201, ⟨y_205, ey_205.symm.trans (((hq_185.l9 66 9 rfl rfl).trans (hq_179.l9 66 9 rfl rfl))), ⟨y_206, ey_206, ⟨r_209, G_210, hX_213, ⟨y_215, ey_215, ⟨y_216, ey_216, ⟨y_218, ty_218, ⟨rfl, (Fr.putl (rs := []) (fs := [(66, 9)]) Fr.rf eG_217 (Or.inr (by decide))), (gpl_eq eG_217)⟩⟩⟩⟩⟩⟩⟩⟩)⟩⟩⟩⟩)), hW, hB_G_217, hF, (Fr.putl (rs := []) (fs := [(66, 9)]) (Fr.call9 (rs := []) (fs := [(66, 9)]) (Fr.call9 (rs := []) (fs := [(66, 9)]) (Fr.call9 (rs := []) (fs := [(66, 9)]) (Fr.call9 (rs := []) (fs := [(66, 9)]) Fr.rf hq_162 rfl rfl) hq_179 rfl rfl) hq_185 rfl rfl) hq_211 rfl rfl) eG_217 (Or.inr (by decide))), hS, lv_sub hl [0, 1] rfl⟩
      · have c_46 : r_38.toInt < 0 := xI_nle rfl rfl c_46
        refine lv_aload_n hx hb dX12_token_63 rfl (lv_at hl 2 rfl) ?_
        refine ic_0 hx hb dX12_token_64 ?_
        refine S_putI (ty := .int) (C := RX12) (T := TX12) (N := 89) hx hb hg iX12 tyX12 tyX12_ok nmX12 hown hK hW hS kd_66 rfl 6 (lt_b rfl) (hg (Cond.fieldLink RX12 205 "SlabWalkModel" "sort" "I") m1320) (fun _ h9 => h9) rfl (by decide +kernel) rfl rfl rfl dX12_token_65 (fun G_221 H locs eG_221 hW hS => ?_)
        have hB_G_221 : Bd G_221 := hB_G_45.put (lo := (-2147483648)) (hi := 2147483647) eG_221 rfl rfl rfl (tI_rng _).1 (tI_rng _).2 (hB_G_45.2.put eG_221 rfl)
        have hF := hF.put eG_221 (Or.inr (by decide))
        refine lv_goto (tgt := 232) hx hb dX12_token_68 rfl ?_
        refine lv_aload_n hx hb dX12_token_232 rfl (lv_at hl 2 rfl) ?_
        refine S_getI (v := 0) (C := RX12) (T := TX12) (N := 89) hx hb hg iX12 hown hK hW kd_66 rfl 6 (lt_b rfl) (hg (Cond.fieldLink RX12 205 "SlabWalkModel" "sort" "I") m1320) (fun _ h9 => h9) rfl (gp_eq eG_221) dX12_token_233 ?_
        refine ic_3 hx hb dX12_token_236 ?_
        refine lv_icmp_eq (tgt := 250) hx hb dX12_token_237 rfl (fun c_222 => ?_) (fun c_222 => ?_)
        · have c_222 : (0 : Int) = (3 : Int) := xI_eq rfl rfl c_222
          exfalso; first | exact ok_607 c_222 | omega
        · have c_222 : (0 : Int) ≠ (3 : Int) := xI_ne rfl rfl c_222
          refine lv_aload_n hx hb dX12_token_240 rfl (lv_at hl 2 rfl) ?_
          refine lv_dup hx hb dX12_token_241 rfl ?_
          refine S_getI (v := (G_1.1 66 4)) (C := RX12) (T := TX12) (N := 89) hx hb hg iX12 hown hK hW kd_66 rfl 4 (lt_b rfl) (hg (Cond.fieldLink RX12 185 "SlabWalkModel" "at" "I") m1318) (fun _ h9 => h9) rfl ((gp_ne eG_221 (by decide)).trans ((gp_ne eG_45 (by decide)).trans ((congrFun (congrFun (gp_l eG_44).1 66) 4).trans ((hq_40.i9 66 4 rfl rfl).trans ((gp_ne eG_34 (by decide)).trans ((hq_29.i9 66 4 rfl rfl).trans ((hq_15.i9 66 4 rfl rfl).trans (rfl)))))))) dX12_token_242 ?_
          refine lv_iload_n hx hb dX12_token_245 rfl (lv_at hl 0 rfl) ?_
          refine lv_iadd hx hb dX12_token_246 ?_
          refine lv_topi (fun y_223 ey_223 => ?_)
          have ty_223 : y_223.toInt = (G_1.1 66 4).toInt + 0 := xI_add rfl rfl ey_223 ((by first | exact ok_608 b_9.1 | omega)) ((by first | exact ok_609 b_9.2 | omega))
          refine S_putI (ty := .int) (C := RX12) (T := TX12) (N := 89) hx hb hg iX12 tyX12 tyX12_ok nmX12 hown hK hW hS kd_66 rfl 4 (lt_b rfl) (hg (Cond.fieldLink RX12 185 "SlabWalkModel" "at" "I") m1318) (fun _ h9 => h9) rfl (by decide +kernel) rfl rfl rfl dX12_token_247 (fun G_224 H locs eG_224 hW hS => ?_)
          have hB_G_224 : Bd G_224 := hB_G_221.put (V := y_223.toInt) (lo := 0) (hi := 1600) eG_224 rfl rfl rfl ((by first | exact ok_610 b_9.1 ty_223 | omega)) ((by first | exact ok_611 b_9.2 ty_223 | omega)) (hB_G_221.2.put eG_224 rfl)
          have hF := hF.put eG_224 (Or.inr (by decide))
          have g_225 : (G_224.1 66 4).toInt = y_223.toInt := (congrArg Int32.toInt (show G_224.1 66 4 = y_223 from (gp_eq eG_224)))
          have g_226 : (G_224.1 66 6).toInt = 0 := (congrArg Int32.toInt (show G_224.1 66 6 = 0 from ((gp_ne eG_224 (by decide)).trans (gp_eq eG_221)))).trans rfl
          exact W.vret hx hb hr (fun t ht _ => ⟨⟨G_224, rfl, (Q_token_mk ⟨hB_G_224, hF, ((by first | exact ⟨(by first | exact ok_612 f_7 ty_223 g_225 | omega), (fun h9 => (by first | exact ok_613 g_226 | omega))⟩ | omega)), ⟨G_1, hX_5, f_7, hB_G_1, hq_2, ⟨r_13, G_14, hX_17, ⟨c_19, ⟨r_27, G_28, hX_31, ⟨c_33, ⟨G_34, hB_G_34, (Fr.put (rs := []) (fs := [(66, 7)]) Fr.rf eG_34 (Or.inr (by decide))), (gp_eq eG_34), ⟨r_38, G_39, hX_42, (Or.inr ⟨c_46, ⟨y_223, ty_223, ⟨(Fr.put (rs := []) (fs := [(66, 4), (66, 6), (66, 8), (66, 9)]) (Fr.put (rs := []) (fs := [(66, 4), (66, 6), (66, 8), (66, 9)]) (Fr.put (rs := []) (fs := [(66, 4), (66, 6), (66, 8), (66, 9)]) (Fr.putl (rs := []) (fs := [(66, 4), (66, 6), (66, 8), (66, 9)]) Fr.rf eG_44 (Or.inr (by decide))) eG_45 (Or.inr (by decide))) eG_221 (Or.inr (by decide))) eG_224 (Or.inr (by decide))), (gp_eq eG_224), ((gp_ne eG_224 (by decide)).trans (gp_eq eG_221)), ((gp_ne eG_224 (by decide)).trans ((gp_ne eG_221 (by decide)).trans (gp_eq eG_45))), ((congrFun (congrFun (congrArg (fun q => q.2.1) eG_224) 66) 9).trans ((congrFun (congrFun (congrArg (fun q => q.2.1) eG_221) 66) 9).trans ((congrFun (congrFun (congrArg (fun q => q.2.1) eG_45) 66) 9).trans (gpl_eq eG_44))))⟩⟩⟩)⟩⟩⟩⟩⟩⟩⟩⟩), wd_t ht hW⟩, hS.F ht⟩) hS.2.2 dX12_token_250
    · have c_33 : r_27.toInt = 10 := xI_eq rfl rfl c_33
      refine lv_aload_n hx hb dX12_token_20 rfl (lv_at hl 0 rfl) ?_
      refine lv_dup hx hb dX12_token_21 rfl ?_
      refine S_getI (v := (G_1.1 66 4)) (C := RX12) (T := TX12) (N := 89) hx hb hg iX12 hown hK hW kd_66 rfl 4 (lt_b rfl) (hg (Cond.fieldLink RX12 185 "SlabWalkModel" "at" "I") m1318) (fun _ h9 => h9) rfl ((hq_29.i9 66 4 rfl rfl).trans ((hq_15.i9 66 4 rfl rfl).trans (rfl))) dX12_token_22 ?_
      refine ic_1 hx hb dX12_token_25 ?_
      refine lv_iadd hx hb dX12_token_26 ?_
      refine lv_topi (fun y_227 ey_227 => ?_)
      have ty_227 : y_227.toInt = (G_1.1 66 4).toInt + 1 := xI_add rfl rfl ey_227 ((by first | exact ok_21 b_9.1 | omega)) ((by first | exact ok_122 b_9.2 | omega))
      refine S_putI (ty := .int) (C := RX12) (T := TX12) (N := 89) hx hb hg iX12 tyX12 tyX12_ok nmX12 hown hK hW hS kd_66 rfl 4 (lt_b rfl) (hg (Cond.fieldLink RX12 185 "SlabWalkModel" "at" "I") m1318) (fun _ h9 => h9) rfl (by decide +kernel) rfl rfl rfl dX12_token_27 (fun G_228 H locs eG_228 hW hS => ?_)
      have hB_G_228 : Bd G_228 := hB_G_28.put (V := y_227.toInt) (lo := 0) (hi := 1600) eG_228 rfl rfl rfl ((by first | exact ok_23 b_9.1 ty_227 | omega)) ((by first | exact ok_614 b_9.2 qc_10 b_11.2 g_25 g_26 hp_30 c_33 ty_227 | omega)) (hB_G_28.2.put eG_228 rfl)
      have hF := hF.put eG_228 (Or.inr (by decide))
      refine lv_goto (tgt := 0) hx hb dX12_token_30 rfl ?_
      have g_229 : (G_228.1 66 4).toInt = y_227.toInt := (congrArg Int32.toInt (show G_228.1 66 4 = y_227 from (gp_eq eG_228)))
      have g_230 : (G_228.1 66 4).toInt = y_227.toInt := (congrArg Int32.toInt (show G_228.1 66 4 = y_227 from (gp_eq eG_228)))
      exact ih_3 (1600 - (G_228.1 66 4).toInt : Int).toNat (by omega) _ _ _ ⟨G_228, (Int.toNat_of_nonneg ((by first | exact ok_615 b_9.2 qc_10 b_11.2 g_25 g_26 hp_30 c_33 ty_227 g_229 | omega))), ((by first | exact ok_575 f_7 ty_227 g_229 | omega)), (hX_5.st (St_n_token_1_mk ⟨G_1, G_228, rfl, rfl, f_7, hB_G_1, ⟨r_13, G_14, hX_17, (Or.inr ⟨c_19, ⟨r_27, G_28, hX_31, ⟨c_33, ⟨y_227, ty_227, ⟨(Fr.put (rs := []) (fs := [(66, 4)]) Fr.rf eG_228 (Or.inr (by decide))), (gp_eq eG_228)⟩⟩⟩⟩⟩)⟩⟩)), hW, hB_G_228, hF, (Fr.put (rs := []) (fs := [(66, 4)]) (Fr.call9 (rs := []) (fs := [(66, 4)]) (Fr.call9 (rs := []) (fs := [(66, 4)]) (Fr.call9 (rs := []) (fs := [(66, 4)]) Fr.rf hq_2 rfl rfl) hq_15 rfl rfl) hq_29 rfl rfl) eG_228 (Or.inr (by decide))), hS, lv_sub hl [0] rfl⟩

theorem m58 : Cond.selects RX12 yX12_mark yX12_mark ∈ gd := gds_4 10 rfl
theorem m1316 : Cond.fieldLink RX12 218 "SlabWalkModel" "fault" "I" ∈ gd := gdc_6_0 0 rfl gw_fieldLink
theorem m1317 : Cond.fieldLink RX12 13 "SlabWalkModel" "faultPlace" "I" ∈ gd := gdc_6_0 1 rfl gw_fieldLink
theorem m1623 : Cond.constantLong RX12 221 126943972648308 ∈ gd := gdc_7_4 3 rfl gw_constantLong
theorem m1644 : Cond.constantLong RX12 223 457135713908 ∈ gd := gdc_7_5 8 rfl gw_constantLong
theorem m1645 : Cond.constantLong RX12 225 131260314510706 ∈ gd := gdc_7_5 9 rfl gw_constantLong
theorem m1646 : Cond.constantLong RX12 227 1718579060 ∈ gd := gdc_7_5 10 rfl gw_constantLong
theorem m1647 : Cond.constantLong RX12 229 1937007984 ∈ gd := gdc_7_5 11 rfl gw_constantLong
theorem m1648 : Cond.constantLong RX12 231 29807 ∈ gd := gdc_7_5 12 rfl gw_constantLong
theorem m1649 : Cond.constantLong RX12 233 1818583408 ∈ gd := gdc_7_5 13 rfl gw_constantLong
theorem m1650 : Cond.constantLong RX12 235 1920298085 ∈ gd := gdc_7_5 14 rfl gw_constantLong
theorem m1651 : Cond.constantLong RX12 237 1936484720 ∈ gd := gdc_7_5 15 rfl gw_constantLong
theorem m1652 : Cond.constantLong RX12 239 1751215716 ∈ gd := gdc_7_6 0 rfl gw_constantLong
theorem m1653 : Cond.constantLong RX12 241 495739560811 ∈ gd := gdc_7_6 1 rfl gw_constantLong
theorem m1654 : Cond.constantLong RX12 243 1685217655 ∈ gd := gdc_7_6 2 rfl gw_constantLong
theorem m1655 : Cond.methodLink RX12 245 yX12_mark ∈ gd := gdc_7_6 3 rfl gw_methodLink
theorem m1657 : Cond.instanceMethod yX12_mark ∈ gd := gdc_7_6 5 rfl gw_instanceMethod
theorem m1658 : Cond.code yX12_mark cX12_mark 1 (some .int) ∈ gd := gdc_7_6 6 rfl gw_code
theorem m1659 : Cond.constantLong RX12 263 7497060 ∈ gd := gdc_7_6 7 rfl gw_constantLong
theorem m1660 : Cond.constantLong RX12 265 108243635103086 ∈ gd := gdc_7_6 8 rfl gw_constantLong
theorem m1661 : Cond.constantLong RX12 267 431415716206 ∈ gd := gdc_7_6 9 rfl gw_constantLong
theorem m1662 : Cond.constantLong RX12 269 495672452197 ∈ gd := gdc_7_6 10 rfl gw_constantLong
theorem m1663 : Cond.constantLong RX12 249 1819242087 ∈ gd := gdc_7_6 11 rfl gw_constantLong
theorem m1664 : Cond.constantLong RX12 251 7238760 ∈ gd := gdc_7_6 12 rfl gw_constantLong
theorem m1665 : Cond.constantLong RX12 253 1768842088 ∈ gd := gdc_7_6 13 rfl gw_constantLong
theorem m1666 : Cond.constantLong RX12 255 6578553 ∈ gd := gdc_7_6 14 rfl gw_constantLong
theorem m1667 : Cond.constantLong RX12 257 6385252 ∈ gd := gdc_7_6 15 rfl gw_constantLong
theorem m1668 : Cond.constantLong RX12 259 28530 ∈ gd := gdc_7_7 0 rfl gw_constantLong
theorem m1669 : Cond.constantLong RX12 261 7237492 ∈ gd := gdc_7_7 1 rfl gw_constantLong
noncomputable def rbX12_isOwn_0 : List (Nat × List Nat) := [(0, [42]), (1, [180, 0, 198]), (4, [20, 0, 221]), (7, [148]), (8, [153, 0, 208]), (11, [42]), (12, [180, 0, 198]), (15, [20, 0, 223]), (18, [148]), (19, [153, 0, 197]), (22, [42]), (23, [180, 0, 198]), (26, [20, 0, 225]), (29, [148]), (30, [153, 0, 186]), (33, [42]), (34, [180, 0, 198]), (37, [20, 0, 227]), (40, [148]), (41, [153, 0, 175]), (44, [42]), (45, [180, 0, 198]), (48, [20, 0, 229]), (51, [148])]
theorem rcX12_isOwn_0 : dgo (lb cX12_isOwn) 0 rbX12_isOwn_0 = true := by decide +kernel
theorem dX12_isOwn_0 : decode cX12_isOwn 0 = .ok (.aload_n 0, 1) := dk_42 (dw rcX12_isOwn_0 0 rfl)
theorem dX12_isOwn_1 : decode cX12_isOwn 1 = .ok (.getfield 198, 3) := dk_180 (dw rcX12_isOwn_0 1 rfl) rfl
theorem dX12_isOwn_4 : decode cX12_isOwn 4 = .ok (.ldc2_w 221, 3) := dk_20 (dw rcX12_isOwn_0 2 rfl) rfl
theorem dX12_isOwn_7 : decode cX12_isOwn 7 = .ok (.lcmp, 1) := dk_148 (dw rcX12_isOwn_0 3 rfl)
theorem dX12_isOwn_8 : decode cX12_isOwn 8 = .ok (.ifCond .eq 208, 3) := dk_153 (dw rcX12_isOwn_0 4 rfl) rfl
theorem dX12_isOwn_11 : decode cX12_isOwn 11 = .ok (.aload_n 0, 1) := dk_42 (dw rcX12_isOwn_0 5 rfl)
theorem dX12_isOwn_12 : decode cX12_isOwn 12 = .ok (.getfield 198, 3) := dk_180 (dw rcX12_isOwn_0 6 rfl) rfl
theorem dX12_isOwn_15 : decode cX12_isOwn 15 = .ok (.ldc2_w 223, 3) := dk_20 (dw rcX12_isOwn_0 7 rfl) rfl
theorem dX12_isOwn_18 : decode cX12_isOwn 18 = .ok (.lcmp, 1) := dk_148 (dw rcX12_isOwn_0 8 rfl)
theorem dX12_isOwn_19 : decode cX12_isOwn 19 = .ok (.ifCond .eq 197, 3) := dk_153 (dw rcX12_isOwn_0 9 rfl) rfl
theorem dX12_isOwn_22 : decode cX12_isOwn 22 = .ok (.aload_n 0, 1) := dk_42 (dw rcX12_isOwn_0 10 rfl)
theorem dX12_isOwn_23 : decode cX12_isOwn 23 = .ok (.getfield 198, 3) := dk_180 (dw rcX12_isOwn_0 11 rfl) rfl
theorem dX12_isOwn_26 : decode cX12_isOwn 26 = .ok (.ldc2_w 225, 3) := dk_20 (dw rcX12_isOwn_0 12 rfl) rfl
theorem dX12_isOwn_29 : decode cX12_isOwn 29 = .ok (.lcmp, 1) := dk_148 (dw rcX12_isOwn_0 13 rfl)
theorem dX12_isOwn_30 : decode cX12_isOwn 30 = .ok (.ifCond .eq 186, 3) := dk_153 (dw rcX12_isOwn_0 14 rfl) rfl
theorem dX12_isOwn_33 : decode cX12_isOwn 33 = .ok (.aload_n 0, 1) := dk_42 (dw rcX12_isOwn_0 15 rfl)
theorem dX12_isOwn_34 : decode cX12_isOwn 34 = .ok (.getfield 198, 3) := dk_180 (dw rcX12_isOwn_0 16 rfl) rfl
theorem dX12_isOwn_37 : decode cX12_isOwn 37 = .ok (.ldc2_w 227, 3) := dk_20 (dw rcX12_isOwn_0 17 rfl) rfl
theorem dX12_isOwn_40 : decode cX12_isOwn 40 = .ok (.lcmp, 1) := dk_148 (dw rcX12_isOwn_0 18 rfl)
theorem dX12_isOwn_41 : decode cX12_isOwn 41 = .ok (.ifCond .eq 175, 3) := dk_153 (dw rcX12_isOwn_0 19 rfl) rfl
theorem dX12_isOwn_44 : decode cX12_isOwn 44 = .ok (.aload_n 0, 1) := dk_42 (dw rcX12_isOwn_0 20 rfl)
theorem dX12_isOwn_45 : decode cX12_isOwn 45 = .ok (.getfield 198, 3) := dk_180 (dw rcX12_isOwn_0 21 rfl) rfl
theorem dX12_isOwn_48 : decode cX12_isOwn 48 = .ok (.ldc2_w 229, 3) := dk_20 (dw rcX12_isOwn_0 22 rfl) rfl
theorem dX12_isOwn_51 : decode cX12_isOwn 51 = .ok (.lcmp, 1) := dk_148 (dw rcX12_isOwn_0 23 rfl)
noncomputable def rbX12_isOwn_52 : List (Nat × List Nat) := [(52, [153, 0, 164]), (55, [42]), (56, [180, 0, 198]), (59, [20, 0, 231]), (62, [148]), (63, [153, 0, 153]), (66, [42]), (67, [180, 0, 198]), (70, [20, 0, 233]), (73, [148]), (74, [153, 0, 142]), (77, [42]), (78, [180, 0, 198]), (81, [20, 0, 235]), (84, [148]), (85, [153, 0, 131]), (88, [42]), (89, [180, 0, 198]), (92, [20, 0, 237]), (95, [148]), (96, [153, 0, 120]), (99, [42]), (100, [180, 0, 198]), (103, [20, 0, 239])]
theorem rcX12_isOwn_52 : dgo (lb cX12_isOwn) 0 rbX12_isOwn_52 = true := by decide +kernel
theorem dX12_isOwn_52 : decode cX12_isOwn 52 = .ok (.ifCond .eq 164, 3) := dk_153 (dw rcX12_isOwn_52 0 rfl) rfl
theorem dX12_isOwn_55 : decode cX12_isOwn 55 = .ok (.aload_n 0, 1) := dk_42 (dw rcX12_isOwn_52 1 rfl)
theorem dX12_isOwn_56 : decode cX12_isOwn 56 = .ok (.getfield 198, 3) := dk_180 (dw rcX12_isOwn_52 2 rfl) rfl
theorem dX12_isOwn_59 : decode cX12_isOwn 59 = .ok (.ldc2_w 231, 3) := dk_20 (dw rcX12_isOwn_52 3 rfl) rfl
theorem dX12_isOwn_62 : decode cX12_isOwn 62 = .ok (.lcmp, 1) := dk_148 (dw rcX12_isOwn_52 4 rfl)
theorem dX12_isOwn_63 : decode cX12_isOwn 63 = .ok (.ifCond .eq 153, 3) := dk_153 (dw rcX12_isOwn_52 5 rfl) rfl
theorem dX12_isOwn_66 : decode cX12_isOwn 66 = .ok (.aload_n 0, 1) := dk_42 (dw rcX12_isOwn_52 6 rfl)
theorem dX12_isOwn_67 : decode cX12_isOwn 67 = .ok (.getfield 198, 3) := dk_180 (dw rcX12_isOwn_52 7 rfl) rfl
theorem dX12_isOwn_70 : decode cX12_isOwn 70 = .ok (.ldc2_w 233, 3) := dk_20 (dw rcX12_isOwn_52 8 rfl) rfl
theorem dX12_isOwn_73 : decode cX12_isOwn 73 = .ok (.lcmp, 1) := dk_148 (dw rcX12_isOwn_52 9 rfl)
theorem dX12_isOwn_74 : decode cX12_isOwn 74 = .ok (.ifCond .eq 142, 3) := dk_153 (dw rcX12_isOwn_52 10 rfl) rfl
theorem dX12_isOwn_77 : decode cX12_isOwn 77 = .ok (.aload_n 0, 1) := dk_42 (dw rcX12_isOwn_52 11 rfl)
theorem dX12_isOwn_78 : decode cX12_isOwn 78 = .ok (.getfield 198, 3) := dk_180 (dw rcX12_isOwn_52 12 rfl) rfl
theorem dX12_isOwn_81 : decode cX12_isOwn 81 = .ok (.ldc2_w 235, 3) := dk_20 (dw rcX12_isOwn_52 13 rfl) rfl
theorem dX12_isOwn_84 : decode cX12_isOwn 84 = .ok (.lcmp, 1) := dk_148 (dw rcX12_isOwn_52 14 rfl)
theorem dX12_isOwn_85 : decode cX12_isOwn 85 = .ok (.ifCond .eq 131, 3) := dk_153 (dw rcX12_isOwn_52 15 rfl) rfl
theorem dX12_isOwn_88 : decode cX12_isOwn 88 = .ok (.aload_n 0, 1) := dk_42 (dw rcX12_isOwn_52 16 rfl)
theorem dX12_isOwn_89 : decode cX12_isOwn 89 = .ok (.getfield 198, 3) := dk_180 (dw rcX12_isOwn_52 17 rfl) rfl
theorem dX12_isOwn_92 : decode cX12_isOwn 92 = .ok (.ldc2_w 237, 3) := dk_20 (dw rcX12_isOwn_52 18 rfl) rfl
theorem dX12_isOwn_95 : decode cX12_isOwn 95 = .ok (.lcmp, 1) := dk_148 (dw rcX12_isOwn_52 19 rfl)
theorem dX12_isOwn_96 : decode cX12_isOwn 96 = .ok (.ifCond .eq 120, 3) := dk_153 (dw rcX12_isOwn_52 20 rfl) rfl
theorem dX12_isOwn_99 : decode cX12_isOwn 99 = .ok (.aload_n 0, 1) := dk_42 (dw rcX12_isOwn_52 21 rfl)
theorem dX12_isOwn_100 : decode cX12_isOwn 100 = .ok (.getfield 198, 3) := dk_180 (dw rcX12_isOwn_52 22 rfl) rfl
theorem dX12_isOwn_103 : decode cX12_isOwn 103 = .ok (.ldc2_w 239, 3) := dk_20 (dw rcX12_isOwn_52 23 rfl) rfl
noncomputable def rbX12_isOwn_106 : List (Nat × List Nat) := [(106, [148]), (107, [153, 0, 109]), (110, [42]), (111, [180, 0, 198]), (114, [20, 0, 241]), (117, [148]), (118, [153, 0, 98]), (121, [42]), (122, [180, 0, 198]), (125, [20, 0, 243]), (128, [148]), (129, [153, 0, 87]), (132, [42]), (133, [182, 0, 245]), (136, [157, 0, 80]), (139, [42]), (140, [180, 0, 198]), (143, [20, 0, 249]), (146, [148]), (147, [153, 0, 69]), (150, [42]), (151, [180, 0, 198]), (154, [20, 0, 251]), (157, [148])]
theorem rcX12_isOwn_106 : dgo (lb cX12_isOwn) 0 rbX12_isOwn_106 = true := by decide +kernel
theorem dX12_isOwn_106 : decode cX12_isOwn 106 = .ok (.lcmp, 1) := dk_148 (dw rcX12_isOwn_106 0 rfl)
theorem dX12_isOwn_107 : decode cX12_isOwn 107 = .ok (.ifCond .eq 109, 3) := dk_153 (dw rcX12_isOwn_106 1 rfl) rfl
theorem dX12_isOwn_110 : decode cX12_isOwn 110 = .ok (.aload_n 0, 1) := dk_42 (dw rcX12_isOwn_106 2 rfl)
theorem dX12_isOwn_111 : decode cX12_isOwn 111 = .ok (.getfield 198, 3) := dk_180 (dw rcX12_isOwn_106 3 rfl) rfl
theorem dX12_isOwn_114 : decode cX12_isOwn 114 = .ok (.ldc2_w 241, 3) := dk_20 (dw rcX12_isOwn_106 4 rfl) rfl
theorem dX12_isOwn_117 : decode cX12_isOwn 117 = .ok (.lcmp, 1) := dk_148 (dw rcX12_isOwn_106 5 rfl)
theorem dX12_isOwn_118 : decode cX12_isOwn 118 = .ok (.ifCond .eq 98, 3) := dk_153 (dw rcX12_isOwn_106 6 rfl) rfl
theorem dX12_isOwn_121 : decode cX12_isOwn 121 = .ok (.aload_n 0, 1) := dk_42 (dw rcX12_isOwn_106 7 rfl)
theorem dX12_isOwn_122 : decode cX12_isOwn 122 = .ok (.getfield 198, 3) := dk_180 (dw rcX12_isOwn_106 8 rfl) rfl
theorem dX12_isOwn_125 : decode cX12_isOwn 125 = .ok (.ldc2_w 243, 3) := dk_20 (dw rcX12_isOwn_106 9 rfl) rfl
theorem dX12_isOwn_128 : decode cX12_isOwn 128 = .ok (.lcmp, 1) := dk_148 (dw rcX12_isOwn_106 10 rfl)
theorem dX12_isOwn_129 : decode cX12_isOwn 129 = .ok (.ifCond .eq 87, 3) := dk_153 (dw rcX12_isOwn_106 11 rfl) rfl
theorem dX12_isOwn_132 : decode cX12_isOwn 132 = .ok (.aload_n 0, 1) := dk_42 (dw rcX12_isOwn_106 12 rfl)
theorem dX12_isOwn_133 : decode cX12_isOwn 133 = .ok (.invokevirtual 245, 3) := dk_182 (dw rcX12_isOwn_106 13 rfl) rfl
theorem dX12_isOwn_136 : decode cX12_isOwn 136 = .ok (.ifCond .gt 80, 3) := dk_157 (dw rcX12_isOwn_106 14 rfl) rfl
theorem dX12_isOwn_139 : decode cX12_isOwn 139 = .ok (.aload_n 0, 1) := dk_42 (dw rcX12_isOwn_106 15 rfl)
theorem dX12_isOwn_140 : decode cX12_isOwn 140 = .ok (.getfield 198, 3) := dk_180 (dw rcX12_isOwn_106 16 rfl) rfl
theorem dX12_isOwn_143 : decode cX12_isOwn 143 = .ok (.ldc2_w 249, 3) := dk_20 (dw rcX12_isOwn_106 17 rfl) rfl
theorem dX12_isOwn_146 : decode cX12_isOwn 146 = .ok (.lcmp, 1) := dk_148 (dw rcX12_isOwn_106 18 rfl)
theorem dX12_isOwn_147 : decode cX12_isOwn 147 = .ok (.ifCond .eq 69, 3) := dk_153 (dw rcX12_isOwn_106 19 rfl) rfl
theorem dX12_isOwn_150 : decode cX12_isOwn 150 = .ok (.aload_n 0, 1) := dk_42 (dw rcX12_isOwn_106 20 rfl)
theorem dX12_isOwn_151 : decode cX12_isOwn 151 = .ok (.getfield 198, 3) := dk_180 (dw rcX12_isOwn_106 21 rfl) rfl
theorem dX12_isOwn_154 : decode cX12_isOwn 154 = .ok (.ldc2_w 251, 3) := dk_20 (dw rcX12_isOwn_106 22 rfl) rfl
theorem dX12_isOwn_157 : decode cX12_isOwn 157 = .ok (.lcmp, 1) := dk_148 (dw rcX12_isOwn_106 23 rfl)
noncomputable def rbX12_isOwn_158 : List (Nat × List Nat) := [(158, [153, 0, 58]), (161, [42]), (162, [180, 0, 198]), (165, [20, 0, 253]), (168, [148]), (169, [153, 0, 47]), (172, [42]), (173, [180, 0, 198]), (176, [20, 0, 255]), (179, [148]), (180, [153, 0, 36]), (183, [42]), (184, [180, 0, 198]), (187, [20, 1, 1]), (190, [148]), (191, [153, 0, 25]), (194, [42]), (195, [180, 0, 198]), (198, [20, 1, 3]), (201, [148]), (202, [153, 0, 14]), (205, [42]), (206, [180, 0, 198]), (209, [20, 1, 5])]
theorem rcX12_isOwn_158 : dgo (lb cX12_isOwn) 0 rbX12_isOwn_158 = true := by decide +kernel
theorem dX12_isOwn_158 : decode cX12_isOwn 158 = .ok (.ifCond .eq 58, 3) := dk_153 (dw rcX12_isOwn_158 0 rfl) rfl
theorem dX12_isOwn_161 : decode cX12_isOwn 161 = .ok (.aload_n 0, 1) := dk_42 (dw rcX12_isOwn_158 1 rfl)
theorem dX12_isOwn_162 : decode cX12_isOwn 162 = .ok (.getfield 198, 3) := dk_180 (dw rcX12_isOwn_158 2 rfl) rfl
theorem dX12_isOwn_165 : decode cX12_isOwn 165 = .ok (.ldc2_w 253, 3) := dk_20 (dw rcX12_isOwn_158 3 rfl) rfl
theorem dX12_isOwn_168 : decode cX12_isOwn 168 = .ok (.lcmp, 1) := dk_148 (dw rcX12_isOwn_158 4 rfl)
theorem dX12_isOwn_169 : decode cX12_isOwn 169 = .ok (.ifCond .eq 47, 3) := dk_153 (dw rcX12_isOwn_158 5 rfl) rfl
theorem dX12_isOwn_172 : decode cX12_isOwn 172 = .ok (.aload_n 0, 1) := dk_42 (dw rcX12_isOwn_158 6 rfl)
theorem dX12_isOwn_173 : decode cX12_isOwn 173 = .ok (.getfield 198, 3) := dk_180 (dw rcX12_isOwn_158 7 rfl) rfl
theorem dX12_isOwn_176 : decode cX12_isOwn 176 = .ok (.ldc2_w 255, 3) := dk_20 (dw rcX12_isOwn_158 8 rfl) rfl
theorem dX12_isOwn_179 : decode cX12_isOwn 179 = .ok (.lcmp, 1) := dk_148 (dw rcX12_isOwn_158 9 rfl)
theorem dX12_isOwn_180 : decode cX12_isOwn 180 = .ok (.ifCond .eq 36, 3) := dk_153 (dw rcX12_isOwn_158 10 rfl) rfl
theorem dX12_isOwn_183 : decode cX12_isOwn 183 = .ok (.aload_n 0, 1) := dk_42 (dw rcX12_isOwn_158 11 rfl)
theorem dX12_isOwn_184 : decode cX12_isOwn 184 = .ok (.getfield 198, 3) := dk_180 (dw rcX12_isOwn_158 12 rfl) rfl
theorem dX12_isOwn_187 : decode cX12_isOwn 187 = .ok (.ldc2_w 257, 3) := dk_20 (dw rcX12_isOwn_158 13 rfl) rfl
theorem dX12_isOwn_190 : decode cX12_isOwn 190 = .ok (.lcmp, 1) := dk_148 (dw rcX12_isOwn_158 14 rfl)
theorem dX12_isOwn_191 : decode cX12_isOwn 191 = .ok (.ifCond .eq 25, 3) := dk_153 (dw rcX12_isOwn_158 15 rfl) rfl
theorem dX12_isOwn_194 : decode cX12_isOwn 194 = .ok (.aload_n 0, 1) := dk_42 (dw rcX12_isOwn_158 16 rfl)
theorem dX12_isOwn_195 : decode cX12_isOwn 195 = .ok (.getfield 198, 3) := dk_180 (dw rcX12_isOwn_158 17 rfl) rfl
theorem dX12_isOwn_198 : decode cX12_isOwn 198 = .ok (.ldc2_w 259, 3) := dk_20 (dw rcX12_isOwn_158 18 rfl) rfl
theorem dX12_isOwn_201 : decode cX12_isOwn 201 = .ok (.lcmp, 1) := dk_148 (dw rcX12_isOwn_158 19 rfl)
theorem dX12_isOwn_202 : decode cX12_isOwn 202 = .ok (.ifCond .eq 14, 3) := dk_153 (dw rcX12_isOwn_158 20 rfl) rfl
theorem dX12_isOwn_205 : decode cX12_isOwn 205 = .ok (.aload_n 0, 1) := dk_42 (dw rcX12_isOwn_158 21 rfl)
theorem dX12_isOwn_206 : decode cX12_isOwn 206 = .ok (.getfield 198, 3) := dk_180 (dw rcX12_isOwn_158 22 rfl) rfl
theorem dX12_isOwn_209 : decode cX12_isOwn 209 = .ok (.ldc2_w 261, 3) := dk_20 (dw rcX12_isOwn_158 23 rfl) rfl
noncomputable def rbX12_isOwn_212 : List (Nat × List Nat) := [(212, [148]), (213, [154, 0, 7]), (216, [4]), (217, [167, 0, 4]), (220, [3]), (221, [172])]
theorem rcX12_isOwn_212 : dgo (lb cX12_isOwn) 0 rbX12_isOwn_212 = true := by decide +kernel
theorem dX12_isOwn_212 : decode cX12_isOwn 212 = .ok (.lcmp, 1) := dk_148 (dw rcX12_isOwn_212 0 rfl)
theorem dX12_isOwn_213 : decode cX12_isOwn 213 = .ok (.ifCond .ne 7, 3) := dk_154 (dw rcX12_isOwn_212 1 rfl) rfl
theorem dX12_isOwn_216 : decode cX12_isOwn 216 = .ok (.iconst 1, 1) := dk_4 (dw rcX12_isOwn_212 2 rfl)
theorem dX12_isOwn_217 : decode cX12_isOwn 217 = .ok (.goto 4, 3) := dk_167 (dw rcX12_isOwn_212 3 rfl) rfl
theorem dX12_isOwn_220 : decode cX12_isOwn 220 = .ok (.iconst 0, 1) := dk_3 (dw rcX12_isOwn_212 4 rfl)
theorem dX12_isOwn_221 : decode cX12_isOwn 221 = .ok (.ireturn, 1) := dk_172 (dw rcX12_isOwn_212 5 rfl)
noncomputable def rbX12_isWord_0 : List (Nat × List Nat) := [(0, [42]), (1, [180, 0, 205]), (4, [4]), (5, [160, 0, 16]), (8, [42]), (9, [180, 0, 198]), (12, [31]), (13, [148]), (14, [154, 0, 7]), (17, [4]), (18, [167, 0, 4]), (21, [3]), (22, [172])]
theorem rcX12_isWord_0 : dgo (lb cX12_isWord) 0 rbX12_isWord_0 = true := by decide +kernel
theorem dX12_isWord_0 : decode cX12_isWord 0 = .ok (.aload_n 0, 1) := dk_42 (dw rcX12_isWord_0 0 rfl)
theorem dX12_isWord_1 : decode cX12_isWord 1 = .ok (.getfield 205, 3) := dk_180 (dw rcX12_isWord_0 1 rfl) rfl
theorem dX12_isWord_4 : decode cX12_isWord 4 = .ok (.iconst 1, 1) := dk_4 (dw rcX12_isWord_0 2 rfl)
theorem dX12_isWord_5 : decode cX12_isWord 5 = .ok (.if_icmp .ne 16, 3) := dk_160 (dw rcX12_isWord_0 3 rfl) rfl
theorem dX12_isWord_8 : decode cX12_isWord 8 = .ok (.aload_n 0, 1) := dk_42 (dw rcX12_isWord_0 4 rfl)
theorem dX12_isWord_9 : decode cX12_isWord 9 = .ok (.getfield 198, 3) := dk_180 (dw rcX12_isWord_0 5 rfl) rfl
theorem dX12_isWord_12 : decode cX12_isWord 12 = .ok (.lload_n 1, 1) := dk_31 (dw rcX12_isWord_0 6 rfl)
theorem dX12_isWord_13 : decode cX12_isWord 13 = .ok (.lcmp, 1) := dk_148 (dw rcX12_isWord_0 7 rfl)
theorem dX12_isWord_14 : decode cX12_isWord 14 = .ok (.ifCond .ne 7, 3) := dk_154 (dw rcX12_isWord_0 8 rfl) rfl
theorem dX12_isWord_17 : decode cX12_isWord 17 = .ok (.iconst 1, 1) := dk_4 (dw rcX12_isWord_0 9 rfl)
theorem dX12_isWord_18 : decode cX12_isWord 18 = .ok (.goto 4, 3) := dk_167 (dw rcX12_isWord_0 10 rfl) rfl
theorem dX12_isWord_21 : decode cX12_isWord 21 = .ok (.iconst 0, 1) := dk_3 (dw rcX12_isWord_0 11 rfl)
theorem dX12_isWord_22 : decode cX12_isWord 22 = .ok (.ireturn, 1) := dk_172 (dw rcX12_isWord_0 12 rfl)
noncomputable def rbX12_mark_0 : List (Nat × List Nat) := [(0, [42]), (1, [180, 0, 198]), (4, [20, 1, 7]), (7, [148]), (8, [154, 0, 7]), (11, [4]), (12, [167, 0, 50]), (15, [42]), (16, [180, 0, 198]), (19, [20, 1, 9]), (22, [148]), (23, [154, 0, 7]), (26, [5]), (27, [167, 0, 35]), (30, [42]), (31, [180, 0, 198]), (34, [20, 1, 11]), (37, [148]), (38, [154, 0, 7]), (41, [7]), (42, [167, 0, 20]), (45, [42]), (46, [180, 0, 198]), (49, [20, 1, 13])]
theorem rcX12_mark_0 : dgo (lb cX12_mark) 0 rbX12_mark_0 = true := by decide +kernel
theorem dX12_mark_0 : decode cX12_mark 0 = .ok (.aload_n 0, 1) := dk_42 (dw rcX12_mark_0 0 rfl)
theorem dX12_mark_1 : decode cX12_mark 1 = .ok (.getfield 198, 3) := dk_180 (dw rcX12_mark_0 1 rfl) rfl
theorem dX12_mark_4 : decode cX12_mark 4 = .ok (.ldc2_w 263, 3) := dk_20 (dw rcX12_mark_0 2 rfl) rfl
theorem dX12_mark_7 : decode cX12_mark 7 = .ok (.lcmp, 1) := dk_148 (dw rcX12_mark_0 3 rfl)
theorem dX12_mark_8 : decode cX12_mark 8 = .ok (.ifCond .ne 7, 3) := dk_154 (dw rcX12_mark_0 4 rfl) rfl
theorem dX12_mark_11 : decode cX12_mark 11 = .ok (.iconst 1, 1) := dk_4 (dw rcX12_mark_0 5 rfl)
theorem dX12_mark_12 : decode cX12_mark 12 = .ok (.goto 50, 3) := dk_167 (dw rcX12_mark_0 6 rfl) rfl
theorem dX12_mark_15 : decode cX12_mark 15 = .ok (.aload_n 0, 1) := dk_42 (dw rcX12_mark_0 7 rfl)
theorem dX12_mark_16 : decode cX12_mark 16 = .ok (.getfield 198, 3) := dk_180 (dw rcX12_mark_0 8 rfl) rfl
theorem dX12_mark_19 : decode cX12_mark 19 = .ok (.ldc2_w 265, 3) := dk_20 (dw rcX12_mark_0 9 rfl) rfl
theorem dX12_mark_22 : decode cX12_mark 22 = .ok (.lcmp, 1) := dk_148 (dw rcX12_mark_0 10 rfl)
theorem dX12_mark_23 : decode cX12_mark 23 = .ok (.ifCond .ne 7, 3) := dk_154 (dw rcX12_mark_0 11 rfl) rfl
theorem dX12_mark_26 : decode cX12_mark 26 = .ok (.iconst 2, 1) := dk_5 (dw rcX12_mark_0 12 rfl)
theorem dX12_mark_27 : decode cX12_mark 27 = .ok (.goto 35, 3) := dk_167 (dw rcX12_mark_0 13 rfl) rfl
theorem dX12_mark_30 : decode cX12_mark 30 = .ok (.aload_n 0, 1) := dk_42 (dw rcX12_mark_0 14 rfl)
theorem dX12_mark_31 : decode cX12_mark 31 = .ok (.getfield 198, 3) := dk_180 (dw rcX12_mark_0 15 rfl) rfl
theorem dX12_mark_34 : decode cX12_mark 34 = .ok (.ldc2_w 267, 3) := dk_20 (dw rcX12_mark_0 16 rfl) rfl
theorem dX12_mark_37 : decode cX12_mark 37 = .ok (.lcmp, 1) := dk_148 (dw rcX12_mark_0 17 rfl)
theorem dX12_mark_38 : decode cX12_mark 38 = .ok (.ifCond .ne 7, 3) := dk_154 (dw rcX12_mark_0 18 rfl) rfl
theorem dX12_mark_41 : decode cX12_mark 41 = .ok (.iconst 4, 1) := dk_7 (dw rcX12_mark_0 19 rfl)
theorem dX12_mark_42 : decode cX12_mark 42 = .ok (.goto 20, 3) := dk_167 (dw rcX12_mark_0 20 rfl) rfl
theorem dX12_mark_45 : decode cX12_mark 45 = .ok (.aload_n 0, 1) := dk_42 (dw rcX12_mark_0 21 rfl)
theorem dX12_mark_46 : decode cX12_mark 46 = .ok (.getfield 198, 3) := dk_180 (dw rcX12_mark_0 22 rfl) rfl
theorem dX12_mark_49 : decode cX12_mark 49 = .ok (.ldc2_w 269, 3) := dk_20 (dw rcX12_mark_0 23 rfl) rfl
noncomputable def rbX12_mark_52 : List (Nat × List Nat) := [(52, [148]), (53, [154, 0, 8]), (56, [16, 8]), (58, [167, 0, 4]), (61, [3]), (62, [172])]
theorem rcX12_mark_52 : dgo (lb cX12_mark) 0 rbX12_mark_52 = true := by decide +kernel
theorem dX12_mark_52 : decode cX12_mark 52 = .ok (.lcmp, 1) := dk_148 (dw rcX12_mark_52 0 rfl)
theorem dX12_mark_53 : decode cX12_mark 53 = .ok (.ifCond .ne 8, 3) := dk_154 (dw rcX12_mark_52 1 rfl) rfl
theorem dX12_mark_56 : decode cX12_mark 56 = .ok (.bipush 8, 2) := dk_16 (dw rcX12_mark_52 2 rfl) rfl
theorem dX12_mark_58 : decode cX12_mark 58 = .ok (.goto 4, 3) := dk_167 (dw rcX12_mark_52 3 rfl) rfl
theorem dX12_mark_61 : decode cX12_mark 61 = .ok (.iconst 0, 1) := dk_3 (dw rcX12_mark_52 4 rfl)
theorem dX12_mark_62 : decode cX12_mark 62 = .ok (.ireturn, 1) := dk_172 (dw rcX12_mark_52 5 rfl)
noncomputable def rbX12_wrong_0 : List (Nat × List Nat) := [(0, [42]), (1, [180, 0, 218]), (4, [158, 0, 4]), (7, [177]), (8, [42]), (9, [42]), (10, [180, 0, 205]), (13, [6]), (14, [160, 0, 7]), (17, [4]), (18, [167, 0, 4]), (21, [27]), (22, [181, 0, 218]), (25, [42]), (26, [42]), (27, [180, 0, 195]), (30, [181, 0, 13]), (33, [177])]
theorem rcX12_wrong_0 : dgo (lb cX12_wrong) 0 rbX12_wrong_0 = true := by decide +kernel
theorem dX12_wrong_0 : decode cX12_wrong 0 = .ok (.aload_n 0, 1) := dk_42 (dw rcX12_wrong_0 0 rfl)
theorem dX12_wrong_1 : decode cX12_wrong 1 = .ok (.getfield 218, 3) := dk_180 (dw rcX12_wrong_0 1 rfl) rfl
theorem dX12_wrong_4 : decode cX12_wrong 4 = .ok (.ifCond .le 4, 3) := dk_158 (dw rcX12_wrong_0 2 rfl) rfl
theorem dX12_wrong_7 : decode cX12_wrong 7 = .ok (.return_, 1) := dk_177 (dw rcX12_wrong_0 3 rfl)
theorem dX12_wrong_8 : decode cX12_wrong 8 = .ok (.aload_n 0, 1) := dk_42 (dw rcX12_wrong_0 4 rfl)
theorem dX12_wrong_9 : decode cX12_wrong 9 = .ok (.aload_n 0, 1) := dk_42 (dw rcX12_wrong_0 5 rfl)
theorem dX12_wrong_10 : decode cX12_wrong 10 = .ok (.getfield 205, 3) := dk_180 (dw rcX12_wrong_0 6 rfl) rfl
theorem dX12_wrong_13 : decode cX12_wrong 13 = .ok (.iconst 3, 1) := dk_6 (dw rcX12_wrong_0 7 rfl)
theorem dX12_wrong_14 : decode cX12_wrong 14 = .ok (.if_icmp .ne 7, 3) := dk_160 (dw rcX12_wrong_0 8 rfl) rfl
theorem dX12_wrong_17 : decode cX12_wrong 17 = .ok (.iconst 1, 1) := dk_4 (dw rcX12_wrong_0 9 rfl)
theorem dX12_wrong_18 : decode cX12_wrong 18 = .ok (.goto 4, 3) := dk_167 (dw rcX12_wrong_0 10 rfl) rfl
theorem dX12_wrong_21 : decode cX12_wrong 21 = .ok (.iload_n 1, 1) := dk_27 (dw rcX12_wrong_0 11 rfl)
theorem dX12_wrong_22 : decode cX12_wrong 22 = .ok (.putfield 218, 3) := dk_181 (dw rcX12_wrong_0 12 rfl) rfl
theorem dX12_wrong_25 : decode cX12_wrong 25 = .ok (.aload_n 0, 1) := dk_42 (dw rcX12_wrong_0 13 rfl)
theorem dX12_wrong_26 : decode cX12_wrong 26 = .ok (.aload_n 0, 1) := dk_42 (dw rcX12_wrong_0 14 rfl)
theorem dX12_wrong_27 : decode cX12_wrong 27 = .ok (.getfield 195, 3) := dk_180 (dw rcX12_wrong_0 15 rfl) rfl
theorem dX12_wrong_30 : decode cX12_wrong 30 = .ok (.putfield 13, 3) := dk_181 (dw rcX12_wrong_0 16 rfl) rfl
theorem dX12_wrong_33 : decode cX12_wrong 33 = .ok (.return_, 1) := dk_177 (dw rcX12_wrong_0 17 rfl)
noncomputable def rbX12_wrongAt_0 : List (Nat × List Nat) := [(0, [42]), (1, [180, 0, 218]), (4, [158, 0, 4]), (7, [177]), (8, [42]), (9, [27]), (10, [181, 0, 218]), (13, [42]), (14, [28]), (15, [181, 0, 13]), (18, [177])]
theorem rcX12_wrongAt_0 : dgo (lb cX12_wrongAt) 0 rbX12_wrongAt_0 = true := by decide +kernel
theorem dX12_wrongAt_0 : decode cX12_wrongAt 0 = .ok (.aload_n 0, 1) := dk_42 (dw rcX12_wrongAt_0 0 rfl)
theorem dX12_wrongAt_1 : decode cX12_wrongAt 1 = .ok (.getfield 218, 3) := dk_180 (dw rcX12_wrongAt_0 1 rfl) rfl
theorem dX12_wrongAt_4 : decode cX12_wrongAt 4 = .ok (.ifCond .le 4, 3) := dk_158 (dw rcX12_wrongAt_0 2 rfl) rfl
theorem dX12_wrongAt_7 : decode cX12_wrongAt 7 = .ok (.return_, 1) := dk_177 (dw rcX12_wrongAt_0 3 rfl)
theorem dX12_wrongAt_8 : decode cX12_wrongAt 8 = .ok (.aload_n 0, 1) := dk_42 (dw rcX12_wrongAt_0 4 rfl)
theorem dX12_wrongAt_9 : decode cX12_wrongAt 9 = .ok (.iload_n 1, 1) := dk_27 (dw rcX12_wrongAt_0 5 rfl)
theorem dX12_wrongAt_10 : decode cX12_wrongAt 10 = .ok (.putfield 218, 3) := dk_181 (dw rcX12_wrongAt_0 6 rfl) rfl
theorem dX12_wrongAt_13 : decode cX12_wrongAt 13 = .ok (.aload_n 0, 1) := dk_42 (dw rcX12_wrongAt_0 7 rfl)
theorem dX12_wrongAt_14 : decode cX12_wrongAt 14 = .ok (.iload_n 2, 1) := dk_28 (dw rcX12_wrongAt_0 8 rfl)
theorem dX12_wrongAt_15 : decode cX12_wrongAt 15 = .ok (.putfield 13, 3) := dk_181 (dw rcX12_wrongAt_0 9 rfl) rfl
theorem dX12_wrongAt_18 : decode cX12_wrongAt 18 = .ok (.return_, 1) := dk_177 (dw rcX12_wrongAt_0 10 rfl)
set_option maxHeartbeats 4000000 in
set_option maxRecDepth 100000 in
theorem n_wrong (l : Launch) (D : va_G) (k : KT) (A : Nat → Prop) (a : Nat → Nat) (z : SK) (G : GS) (p0 : Int32) (ha_p0 : 1 ≤ p0.toInt ∧ p0.toInt ≤ 4) : Met l yX12_wrong (WS yX12_wrong cX12_wrong 2 none) ({ frames := 0, cells := 0, slots := 0, locals := 0 }) (va_Pc [.ref (a 66), .int p0] (cW D k A a z G)) (va_Qv (fun (G1 : GS) => Q_wrong p0 G G1) (fun (G1 : GS) t => Wd D k A a G1 t.heap) A) 0 0 A := by
  refine Met.ofW (cc := cX12_wrong) (maxL := 2) (ret := none) (by decide) rfl ?_
  intro p e s m args below meth c s₁ B hml hv
  obtain ⟨rfl, hW, hB_G, hK, hZ⟩ := hv
  have hx := B.exec
  have hb := B.bytes
  have hr := B.returns
  have hts := atoms_spec (ws := WS yX12_wrong cX12_wrong 2 none) B.pre
  have hgd : ∀ w ∈ gd, w ∈ WS yX12_wrong cX12_wrong 2 none := fun w h => List.mem_cons_of_mem _ h
  have hg : ∀ w ∈ gd, w.before _ s = true := fun w h => hts w (hgd w h)
  have hown : s.vm.findClass RX12 = some m.cls := findClass_of_methodNamed B.named
  have hS : va_S A s.heap s.heap [] := va_S.rf
  have hF : Fr [] [(66, 2), (66, 3)] G G := Fr.rf
  have hl := lv_entry ([.ref (a 66), .int p0]) (n := 2) (Nat.le_of_ble_eq_true rfl)
  rw [lg_entry_eq]
  generalize (lg_sl ([.ref (a 66), .int p0]) ++ List.replicate (2 - (lg_sl ([.ref (a 66), .int p0])).length) Slot.unset).toArray = ls at hl ⊢
  have hl : lv_has ls 2 [(0, .ref (a 66)), (1, .int p0)] := hl
  refine lv_aload_n hx hb dX12_wrong_0 rfl (lv_at hl 0 rfl) ?_
  have b_1 : 0 ≤ (G.1 66 2).toInt ∧ (G.1 66 2).toInt ≤ 4 := bd_66_2 hB_G
  refine S_getI (v := (G.1 66 2)) (C := RX12) (T := TX12) (N := 89) hx hb hg iX12 hown hK hW kd_66 rfl 2 (lt_b rfl) (hg (Cond.fieldLink RX12 218 "SlabWalkModel" "fault" "I") m1316) (fun _ h9 => h9) rfl rfl dX12_wrong_1 ?_
  refine lv_if_le (tgt := 8) hx hb dX12_wrong_4 rfl (fun c_2 => ?_) (fun c_2 => ?_)
  · have c_2 : (G.1 66 2).toInt ≤ 0 := xI_le rfl rfl c_2
    refine lv_aload_n hx hb dX12_wrong_8 rfl (lv_at hl 0 rfl) ?_
    refine lv_aload_n hx hb dX12_wrong_9 rfl (lv_at hl 0 rfl) ?_
    refine S_getI (v := (G.1 66 6)) (C := RX12) (T := TX12) (N := 89) hx hb hg iX12 hown hK hW kd_66 rfl 6 (lt_b rfl) (hg (Cond.fieldLink RX12 205 "SlabWalkModel" "sort" "I") m1320) (fun _ h9 => h9) rfl rfl dX12_wrong_10 ?_
    refine ic_3 hx hb dX12_wrong_13 ?_
    refine lv_icmp_ne (tgt := 21) hx hb dX12_wrong_14 rfl (fun c_3 => ?_) (fun c_3 => ?_)
    · have c_3 : (G.1 66 6).toInt ≠ 3 := xI_ne rfl rfl c_3
      refine lv_iload_n hx hb dX12_wrong_21 rfl (lv_at hl 1 rfl) ?_
      refine S_putI (ty := .int) (C := RX12) (T := TX12) (N := 89) hx hb hg iX12 tyX12 tyX12_ok nmX12 hown hK hW hS kd_66 rfl 2 (lt_b rfl) (hg (Cond.fieldLink RX12 218 "SlabWalkModel" "fault" "I") m1316) (fun _ h9 => h9) rfl (by decide +kernel) rfl rfl rfl dX12_wrong_22 (fun G_4 H locs eG_4 hW hS => ?_)
      have hB_G_4 : Bd G_4 := hB_G.put (V := p0.toInt) (lo := 0) (hi := 4) eG_4 rfl rfl rfl ((by first | exact ok_131 ha_p0.1 | omega)) ((by first | exact ha_p0.2 | omega)) (hB_G.2.put eG_4 rfl)
      have hF := hF.put eG_4 (Or.inr (by decide))
      refine lv_aload_n hx hb dX12_wrong_25 rfl (lv_at hl 0 rfl) ?_
      refine lv_aload_n hx hb dX12_wrong_26 rfl (lv_at hl 0 rfl) ?_
      have b_5 : 0 ≤ (G.1 66 7).toInt ∧ (G.1 66 7).toInt ≤ 1600 := bd_66_7 hB_G
      refine S_getI (v := (G.1 66 7)) (C := RX12) (T := TX12) (N := 89) hx hb hg iX12 hown hK hW kd_66 rfl 7 (lt_b rfl) (hg (Cond.fieldLink RX12 195 "SlabWalkModel" "place" "I") m1321) (fun _ h9 => h9) rfl (gp_ne eG_4 (by decide)) dX12_wrong_27 ?_
      refine S_putI (ty := .int) (C := RX12) (T := TX12) (N := 89) hx hb hg iX12 tyX12 tyX12_ok nmX12 hown hK hW hS kd_66 rfl 3 (lt_b rfl) (hg (Cond.fieldLink RX12 13 "SlabWalkModel" "faultPlace" "I") m1317) (fun _ h9 => h9) rfl (by decide +kernel) rfl rfl rfl dX12_wrong_30 (fun G_6 H locs eG_6 hW hS => ?_)
      have hB_G_6 : Bd G_6 := hB_G_4.put (V := (G.1 66 7).toInt) (lo := (-1)) (hi := 1600) eG_6 rfl rfl rfl ((by first | exact ok_67 b_5.1 | omega)) ((by first | exact b_5.2 | omega)) (hB_G_4.2.put eG_6 rfl)
      have hF := hF.put eG_6 (Or.inr (by decide))
      have g_7 : (G_6.1 66 2).toInt = p0.toInt := (congrArg Int32.toInt (show G_6.1 66 2 = p0 from ((gp_ne eG_6 (by decide)).trans (gp_eq eG_4))))
      exact W.vret hx hb hr (fun t ht _ => ⟨⟨G_6, rfl, (Q_wrong_mk ⟨hB_G_6, hF, ((by first | exact ok_616 ha_p0.1 g_7 | omega)), (Or.inl ⟨c_2, (Or.inr ⟨c_3, ⟨(Fr.put (rs := []) (fs := [(66, 2), (66, 3)]) (Fr.put (rs := []) (fs := [(66, 2), (66, 3)]) Fr.rf eG_4 (Or.inr (by decide))) eG_6 (Or.inr (by decide))), ((gp_ne eG_6 (by decide)).trans (gp_eq eG_4)), (gp_eq eG_6)⟩⟩)⟩)⟩), wd_t ht hW⟩, hS.F ht⟩) hS.2.2 dX12_wrong_33
    · have c_3 : (G.1 66 6).toInt = 3 := xI_eq rfl rfl c_3
      refine ic_1 hx hb dX12_wrong_17 ?_
      refine lv_goto (tgt := 22) hx hb dX12_wrong_18 rfl ?_
      refine S_putI (ty := .int) (C := RX12) (T := TX12) (N := 89) hx hb hg iX12 tyX12 tyX12_ok nmX12 hown hK hW hS kd_66 rfl 2 (lt_b rfl) (hg (Cond.fieldLink RX12 218 "SlabWalkModel" "fault" "I") m1316) (fun _ h9 => h9) rfl (by decide +kernel) rfl rfl rfl dX12_wrong_22 (fun G_8 H locs eG_8 hW hS => ?_)
      have hB_G_8 : Bd G_8 := hB_G.put (V := 1) (lo := 0) (hi := 4) eG_8 rfl rfl rfl (by decide) (by decide) (hB_G.2.put eG_8 rfl)
      have hF := hF.put eG_8 (Or.inr (by decide))
      refine lv_aload_n hx hb dX12_wrong_25 rfl (lv_at hl 0 rfl) ?_
      refine lv_aload_n hx hb dX12_wrong_26 rfl (lv_at hl 0 rfl) ?_
      have b_9 : 0 ≤ (G.1 66 7).toInt ∧ (G.1 66 7).toInt ≤ 1600 := bd_66_7 hB_G
      refine S_getI (v := (G.1 66 7)) (C := RX12) (T := TX12) (N := 89) hx hb hg iX12 hown hK hW kd_66 rfl 7 (lt_b rfl) (hg (Cond.fieldLink RX12 195 "SlabWalkModel" "place" "I") m1321) (fun _ h9 => h9) rfl (gp_ne eG_8 (by decide)) dX12_wrong_27 ?_
      refine S_putI (ty := .int) (C := RX12) (T := TX12) (N := 89) hx hb hg iX12 tyX12 tyX12_ok nmX12 hown hK hW hS kd_66 rfl 3 (lt_b rfl) (hg (Cond.fieldLink RX12 13 "SlabWalkModel" "faultPlace" "I") m1317) (fun _ h9 => h9) rfl (by decide +kernel) rfl rfl rfl dX12_wrong_30 (fun G_10 H locs eG_10 hW hS => ?_)
      have hB_G_10 : Bd G_10 := hB_G_8.put (V := (G.1 66 7).toInt) (lo := (-1)) (hi := 1600) eG_10 rfl rfl rfl ((by first | exact ok_67 b_9.1 | omega)) ((by first | exact b_9.2 | omega)) (hB_G_8.2.put eG_10 rfl)
      have hF := hF.put eG_10 (Or.inr (by decide))
      have g_11 : (G_10.1 66 2).toInt = 1 := (congrArg Int32.toInt (show G_10.1 66 2 = 1 from ((gp_ne eG_10 (by decide)).trans (gp_eq eG_8)))).trans rfl
      exact W.vret hx hb hr (fun t ht _ => ⟨⟨G_10, rfl, (Q_wrong_mk ⟨hB_G_10, hF, ((by first | exact ok_617 g_11 | omega)), (Or.inl ⟨c_2, (Or.inl ⟨c_3, ⟨(Fr.put (rs := []) (fs := [(66, 2), (66, 3)]) (Fr.put (rs := []) (fs := [(66, 2), (66, 3)]) Fr.rf eG_8 (Or.inr (by decide))) eG_10 (Or.inr (by decide))), ((gp_ne eG_10 (by decide)).trans (gp_eq eG_8)), (gp_eq eG_10)⟩⟩)⟩)⟩), wd_t ht hW⟩, hS.F ht⟩) hS.2.2 dX12_wrong_33
  · have c_2 : 0 < (G.1 66 2).toInt := xI_nle rfl rfl c_2
    exact W.vret hx hb hr (fun t ht _ => ⟨⟨G, rfl, (Q_wrong_mk ⟨hB_G, hF, ((by first | exact ok_618 c_2 | omega)), (Or.inr ⟨c_2, rfl⟩)⟩), wd_t ht hW⟩, hS.F ht⟩) hS.2.2 dX12_wrong_7

set_option maxHeartbeats 4000000 in
set_option maxRecDepth 100000 in
theorem n_wrongAt (l : Launch) (D : va_G) (k : KT) (A : Nat → Prop) (a : Nat → Nat) (z : SK) (G : GS) (p0 : Int32) (p1 : Int32) (ha_p0 : 1 ≤ p0.toInt ∧ p0.toInt ≤ 4) (ha_p1 : -1 ≤ p1.toInt ∧ p1.toInt ≤ 1600) : Met l yX12_wrongAt (WS yX12_wrongAt cX12_wrongAt 3 none) ({ frames := 0, cells := 0, slots := 0, locals := 0 }) (va_Pc [.ref (a 66), .int p0, .int p1] (cW D k A a z G)) (va_Qv (fun (G1 : GS) => Q_wrongAt p0 p1 G G1) (fun (G1 : GS) t => Wd D k A a G1 t.heap) A) 0 0 A := by
  refine Met.ofW (cc := cX12_wrongAt) (maxL := 3) (ret := none) (by decide) rfl ?_
  intro p e s m args below meth c s₁ B hml hv
  obtain ⟨rfl, hW, hB_G, hK, hZ⟩ := hv
  have hx := B.exec
  have hb := B.bytes
  have hr := B.returns
  have hts := atoms_spec (ws := WS yX12_wrongAt cX12_wrongAt 3 none) B.pre
  have hgd : ∀ w ∈ gd, w ∈ WS yX12_wrongAt cX12_wrongAt 3 none := fun w h => List.mem_cons_of_mem _ h
  have hg : ∀ w ∈ gd, w.before _ s = true := fun w h => hts w (hgd w h)
  have hown : s.vm.findClass RX12 = some m.cls := findClass_of_methodNamed B.named
  have hS : va_S A s.heap s.heap [] := va_S.rf
  have hF : Fr [] [(66, 2), (66, 3)] G G := Fr.rf
  have hl := lv_entry ([.ref (a 66), .int p0, .int p1]) (n := 3) (Nat.le_of_ble_eq_true rfl)
  rw [lg_entry_eq]
  generalize (lg_sl ([.ref (a 66), .int p0, .int p1]) ++ List.replicate (3 - (lg_sl ([.ref (a 66), .int p0, .int p1])).length) Slot.unset).toArray = ls at hl ⊢
  have hl : lv_has ls 3 [(0, .ref (a 66)), (1, .int p0), (2, .int p1)] := hl
  refine lv_aload_n hx hb dX12_wrongAt_0 rfl (lv_at hl 0 rfl) ?_
  have b_1 : 0 ≤ (G.1 66 2).toInt ∧ (G.1 66 2).toInt ≤ 4 := bd_66_2 hB_G
  refine S_getI (v := (G.1 66 2)) (C := RX12) (T := TX12) (N := 89) hx hb hg iX12 hown hK hW kd_66 rfl 2 (lt_b rfl) (hg (Cond.fieldLink RX12 218 "SlabWalkModel" "fault" "I") m1316) (fun _ h9 => h9) rfl rfl dX12_wrongAt_1 ?_
  refine lv_if_le (tgt := 8) hx hb dX12_wrongAt_4 rfl (fun c_2 => ?_) (fun c_2 => ?_)
  · have c_2 : (G.1 66 2).toInt ≤ 0 := xI_le rfl rfl c_2
    refine lv_aload_n hx hb dX12_wrongAt_8 rfl (lv_at hl 0 rfl) ?_
    refine lv_iload_n hx hb dX12_wrongAt_9 rfl (lv_at hl 1 rfl) ?_
    refine S_putI (ty := .int) (C := RX12) (T := TX12) (N := 89) hx hb hg iX12 tyX12 tyX12_ok nmX12 hown hK hW hS kd_66 rfl 2 (lt_b rfl) (hg (Cond.fieldLink RX12 218 "SlabWalkModel" "fault" "I") m1316) (fun _ h9 => h9) rfl (by decide +kernel) rfl rfl rfl dX12_wrongAt_10 (fun G_3 H locs eG_3 hW hS => ?_)
    have hB_G_3 : Bd G_3 := hB_G.put (V := p0.toInt) (lo := 0) (hi := 4) eG_3 rfl rfl rfl ((by first | exact ok_131 ha_p0.1 | omega)) ((by first | exact ha_p0.2 | omega)) (hB_G.2.put eG_3 rfl)
    have hF := hF.put eG_3 (Or.inr (by decide))
    refine lv_aload_n hx hb dX12_wrongAt_13 rfl (lv_at hl 0 rfl) ?_
    refine lv_iload_n hx hb dX12_wrongAt_14 rfl (lv_at hl 2 rfl) ?_
    refine S_putI (ty := .int) (C := RX12) (T := TX12) (N := 89) hx hb hg iX12 tyX12 tyX12_ok nmX12 hown hK hW hS kd_66 rfl 3 (lt_b rfl) (hg (Cond.fieldLink RX12 13 "SlabWalkModel" "faultPlace" "I") m1317) (fun _ h9 => h9) rfl (by decide +kernel) rfl rfl rfl dX12_wrongAt_15 (fun G_4 H locs eG_4 hW hS => ?_)
    have hB_G_4 : Bd G_4 := hB_G_3.put (V := p1.toInt) (lo := (-1)) (hi := 1600) eG_4 rfl rfl rfl ((by first | exact ok_619 ha_p1.1 | omega)) ((by first | exact ha_p1.2 | omega)) (hB_G_3.2.put eG_4 rfl)
    have hF := hF.put eG_4 (Or.inr (by decide))
    have g_5 : (G_4.1 66 2).toInt = p0.toInt := (congrArg Int32.toInt (show G_4.1 66 2 = p0 from ((gp_ne eG_4 (by decide)).trans (gp_eq eG_3))))
    exact W.vret hx hb hr (fun t ht _ => ⟨⟨G_4, rfl, (Q_wrongAt_mk ⟨hB_G_4, hF, ((by first | exact ok_616 ha_p0.1 g_5 | omega)), (Or.inl ⟨c_2, ⟨(Fr.put (rs := []) (fs := [(66, 2), (66, 3)]) (Fr.put (rs := []) (fs := [(66, 2), (66, 3)]) Fr.rf eG_3 (Or.inr (by decide))) eG_4 (Or.inr (by decide))), ((gp_ne eG_4 (by decide)).trans (gp_eq eG_3)), (gp_eq eG_4)⟩⟩)⟩), wd_t ht hW⟩, hS.F ht⟩) hS.2.2 dX12_wrongAt_18
  · have c_2 : 0 < (G.1 66 2).toInt := xI_nle rfl rfl c_2
    exact W.vret hx hb hr (fun t ht _ => ⟨⟨G, rfl, (Q_wrongAt_mk ⟨hB_G, hF, ((by first | exact ok_618 c_2 | omega)), (Or.inr ⟨c_2, rfl⟩)⟩), wd_t ht hW⟩, hS.F ht⟩) hS.2.2 dX12_wrongAt_7

set_option maxHeartbeats 4000000 in
set_option maxRecDepth 100000 in
theorem n_isWord (l : Launch) (D : va_G) (k : KT) (A : Nat → Prop) (a : Nat → Nat) (z : SK) (G : GS) (p0 : Int64)  : Met l yX12_isWord (WS yX12_isWord cX12_isWord 3 (some .boolean)) ({ frames := 0, cells := 0, slots := 0, locals := 0 }) (va_Pc [.ref (a 66), .long p0] (cW D k A a z G)) (va_Qi (fun (r : Int32) (G1 : GS) => Q_isWord p0 G r G1) (fun (G1 : GS) t => Wd D k A a G1 t.heap) A) 0 0 A := by
  refine Met.ofW (cc := cX12_isWord) (maxL := 3) (ret := (some .boolean)) (by decide) rfl ?_
  intro p e s m args below meth c s₁ B hml hv
  obtain ⟨rfl, hW, hB_G, hK, hZ⟩ := hv
  have hx := B.exec
  have hb := B.bytes
  have hr := B.returns
  have hts := atoms_spec (ws := WS yX12_isWord cX12_isWord 3 (some .boolean)) B.pre
  have hgd : ∀ w ∈ gd, w ∈ WS yX12_isWord cX12_isWord 3 (some .boolean) := fun w h => List.mem_cons_of_mem _ h
  have hg : ∀ w ∈ gd, w.before _ s = true := fun w h => hts w (hgd w h)
  have hown : s.vm.findClass RX12 = some m.cls := findClass_of_methodNamed B.named
  have hS : va_S A s.heap s.heap [] := va_S.rf
  have hF : Fr [] [] G G := Fr.rf
  have hl := lv_entry ([.ref (a 66), .long p0]) (n := 3) (Nat.le_of_ble_eq_true rfl)
  rw [lg_entry_eq]
  generalize (lg_sl ([.ref (a 66), .long p0]) ++ List.replicate (3 - (lg_sl ([.ref (a 66), .long p0])).length) Slot.unset).toArray = ls at hl ⊢
  have hl : lv_has ls 3 [(0, .ref (a 66)), (1, .long p0)] := hl
  refine lv_aload_n hx hb dX12_isWord_0 rfl (lv_at hl 0 rfl) ?_
  refine S_getI (v := (G.1 66 6)) (C := RX12) (T := TX12) (N := 89) hx hb hg iX12 hown hK hW kd_66 rfl 6 (lt_b rfl) (hg (Cond.fieldLink RX12 205 "SlabWalkModel" "sort" "I") m1320) (fun _ h9 => h9) rfl rfl dX12_isWord_1 ?_
  refine ic_1 hx hb dX12_isWord_4 ?_
  refine lv_icmp_ne (tgt := 21) hx hb dX12_isWord_5 rfl (fun c_1 => ?_) (fun c_1 => ?_)
  · have c_1 : (G.1 66 6).toInt ≠ 1 := xI_ne rfl rfl c_1
    refine ic_0 hx hb dX12_isWord_21 ?_
    exact W.zret (v := 0) hx hb hr (by decide) (fun t ht _ => ⟨⟨0, G, rfl, (Q_isWord_mk ⟨hB_G, hF, ⟨by decide, by decide⟩, (by have hq : (0 : Int32).toInt = 0 := rfl; (try dsimp only); omega), (Or.inr ⟨c_1, ⟨rfl, rfl⟩⟩)⟩), wd_t ht hW⟩, hS.F ht⟩) hS.2.2 dX12_isWord_22
  · have c_1 : (G.1 66 6).toInt = 1 := xI_eq rfl rfl c_1
    refine lv_aload_n hx hb dX12_isWord_8 rfl (lv_at hl 0 rfl) ?_
    obtain ⟨y_2, ey_2⟩ : ∃ q, G.2.1 66 9 = q := ⟨_, rfl⟩
    refine S_getL (v := y_2) (C := RX12) (T := TX12) (N := 89) hx hb hg iX12 hown hK hW kd_66 rfl 9 (lt_b rfl) (hg (Cond.fieldLink RX12 198 "SlabWalkModel" "word" "J") m1323) (fun _ h9 => h9) rfl ey_2 dX12_isWord_9 ?_
    refine lv_lload_n hx hb dX12_isWord_12 rfl (lv_at hl 1 rfl) ?_
    refine W.lcmp hx hb dX12_isWord_13 ?_
    refine lv_topi (fun y_3 ey_3 => ?_)
    have ty_3 := lcmp_rng ey_3
    refine lv_if_ne (tgt := 21) hx hb dX12_isWord_14 rfl (fun c_4 => ?_) (fun c_4 => ?_)
    · have c_4 : y_3.toInt ≠ 0 := xI_ne rfl rfl c_4
      refine ic_0 hx hb dX12_isWord_21 ?_
      exact W.zret (v := 0) hx hb hr (by decide) (fun t ht _ => ⟨⟨0, G, rfl, (Q_isWord_mk ⟨hB_G, hF, ⟨by decide, by decide⟩, (by have hq : (0 : Int32).toInt = 0 := rfl; (try dsimp only); omega), (Or.inl ⟨c_1, ⟨y_2, ey_2.symm, ⟨y_3, ey_3, (Or.inr ⟨c_4, ⟨rfl, rfl⟩⟩)⟩⟩⟩)⟩), wd_t ht hW⟩, hS.F ht⟩) hS.2.2 dX12_isWord_22
    · have c_4 : y_3.toInt = 0 := xI_eq rfl rfl c_4
      refine ic_1 hx hb dX12_isWord_17 ?_
      refine lv_goto (tgt := 22) hx hb dX12_isWord_18 rfl ?_
      exact W.zret (v := 1) hx hb hr (by decide) (fun t ht _ => ⟨⟨1, G, rfl, (Q_isWord_mk ⟨hB_G, hF, ⟨by decide, by decide⟩, (by have hq : (1 : Int32).toInt = 1 := rfl; (try dsimp only); omega), (Or.inl ⟨c_1, ⟨y_2, ey_2.symm, ⟨y_3, ey_3, (Or.inl ⟨c_4, ⟨rfl, rfl⟩⟩)⟩⟩⟩)⟩), wd_t ht hW⟩, hS.F ht⟩) hS.2.2 dX12_isWord_22

set_option maxHeartbeats 4000000 in
set_option maxRecDepth 100000 in
theorem n_mark (l : Launch) (D : va_G) (k : KT) (A : Nat → Prop) (a : Nat → Nat) (z : SK) (G : GS)   : Met l yX12_mark (WS yX12_mark cX12_mark 1 (some .int)) ({ frames := 0, cells := 0, slots := 0, locals := 0 }) (va_Pc [.ref (a 66)] (cW D k A a z G)) (va_Qi (fun (r : Int32) (G1 : GS) => Q_mark G r G1) (fun (G1 : GS) t => Wd D k A a G1 t.heap) A) 0 0 A := by
  refine Met.ofW (cc := cX12_mark) (maxL := 1) (ret := (some .int)) (by decide) rfl ?_
  intro p e s m args below meth c s₁ B hml hv
  obtain ⟨rfl, hW, hB_G, hK, hZ⟩ := hv
  have hx := B.exec
  have hb := B.bytes
  have hr := B.returns
  have hts := atoms_spec (ws := WS yX12_mark cX12_mark 1 (some .int)) B.pre
  have hgd : ∀ w ∈ gd, w ∈ WS yX12_mark cX12_mark 1 (some .int) := fun w h => List.mem_cons_of_mem _ h
  have hg : ∀ w ∈ gd, w.before _ s = true := fun w h => hts w (hgd w h)
  have hown : s.vm.findClass RX12 = some m.cls := findClass_of_methodNamed B.named
  have hS : va_S A s.heap s.heap [] := va_S.rf
  have hF : Fr [] [] G G := Fr.rf
  have hl := lv_entry ([.ref (a 66)]) (n := 1) (Nat.le_of_ble_eq_true rfl)
  rw [lg_entry_eq]
  generalize (lg_sl ([.ref (a 66)]) ++ List.replicate (1 - (lg_sl ([.ref (a 66)])).length) Slot.unset).toArray = ls at hl ⊢
  have hl : lv_has ls 1 [(0, .ref (a 66))] := hl
  refine lv_aload_n hx hb dX12_mark_0 rfl (lv_at hl 0 rfl) ?_
  obtain ⟨y_1, ey_1⟩ : ∃ q, G.2.1 66 9 = q := ⟨_, rfl⟩
  refine S_getL (v := y_1) (C := RX12) (T := TX12) (N := 89) hx hb hg iX12 hown hK hW kd_66 rfl 9 (lt_b rfl) (hg (Cond.fieldLink RX12 198 "SlabWalkModel" "word" "J") m1323) (fun _ h9 => h9) rfl ey_1 dX12_mark_1 ?_
  refine lv_ldc2 (v := 7497060) hx hb hown (hg (Cond.constantLong RX12 263 7497060) m1659) dX12_mark_4 ?_
  refine W.lcmp hx hb dX12_mark_7 ?_
  refine lv_topi (fun y_2 ey_2 => ?_)
  have ty_2 := lcmp_rng ey_2
  refine lv_if_ne (tgt := 15) hx hb dX12_mark_8 rfl (fun c_3 => ?_) (fun c_3 => ?_)
  · have c_3 : y_2.toInt ≠ 0 := xI_ne rfl rfl c_3
    refine lv_aload_n hx hb dX12_mark_15 rfl (lv_at hl 0 rfl) ?_
    obtain ⟨y_4, ey_4⟩ : ∃ q, G.2.1 66 9 = q := ⟨_, rfl⟩
    refine S_getL (v := y_4) (C := RX12) (T := TX12) (N := 89) hx hb hg iX12 hown hK hW kd_66 rfl 9 (lt_b rfl) (hg (Cond.fieldLink RX12 198 "SlabWalkModel" "word" "J") m1323) (fun _ h9 => h9) rfl ey_4 dX12_mark_16 ?_
    refine lv_ldc2 (v := 108243635103086) hx hb hown (hg (Cond.constantLong RX12 265 108243635103086) m1660) dX12_mark_19 ?_
    refine W.lcmp hx hb dX12_mark_22 ?_
    refine lv_topi (fun y_5 ey_5 => ?_)
    have ty_5 := lcmp_rng ey_5
    refine lv_if_ne (tgt := 30) hx hb dX12_mark_23 rfl (fun c_6 => ?_) (fun c_6 => ?_)
    · have c_6 : y_5.toInt ≠ 0 := xI_ne rfl rfl c_6
      refine lv_aload_n hx hb dX12_mark_30 rfl (lv_at hl 0 rfl) ?_
      obtain ⟨y_7, ey_7⟩ : ∃ q, G.2.1 66 9 = q := ⟨_, rfl⟩
      refine S_getL (v := y_7) (C := RX12) (T := TX12) (N := 89) hx hb hg iX12 hown hK hW kd_66 rfl 9 (lt_b rfl) (hg (Cond.fieldLink RX12 198 "SlabWalkModel" "word" "J") m1323) (fun _ h9 => h9) rfl ey_7 dX12_mark_31 ?_
      refine lv_ldc2 (v := 431415716206) hx hb hown (hg (Cond.constantLong RX12 267 431415716206) m1661) dX12_mark_34 ?_
      refine W.lcmp hx hb dX12_mark_37 ?_
      refine lv_topi (fun y_8 ey_8 => ?_)
      have ty_8 := lcmp_rng ey_8
      refine lv_if_ne (tgt := 45) hx hb dX12_mark_38 rfl (fun c_9 => ?_) (fun c_9 => ?_)
      · have c_9 : y_8.toInt ≠ 0 := xI_ne rfl rfl c_9
        refine lv_aload_n hx hb dX12_mark_45 rfl (lv_at hl 0 rfl) ?_
        obtain ⟨y_10, ey_10⟩ : ∃ q, G.2.1 66 9 = q := ⟨_, rfl⟩
        refine S_getL (v := y_10) (C := RX12) (T := TX12) (N := 89) hx hb hg iX12 hown hK hW kd_66 rfl 9 (lt_b rfl) (hg (Cond.fieldLink RX12 198 "SlabWalkModel" "word" "J") m1323) (fun _ h9 => h9) rfl ey_10 dX12_mark_46 ?_
        refine lv_ldc2 (v := 495672452197) hx hb hown (hg (Cond.constantLong RX12 269 495672452197) m1662) dX12_mark_49 ?_
        refine W.lcmp hx hb dX12_mark_52 ?_
        refine lv_topi (fun y_11 ey_11 => ?_)
        have ty_11 := lcmp_rng ey_11
        refine lv_if_ne (tgt := 61) hx hb dX12_mark_53 rfl (fun c_12 => ?_) (fun c_12 => ?_)
        · have c_12 : y_11.toInt ≠ 0 := xI_ne rfl rfl c_12
          refine ic_0 hx hb dX12_mark_61 ?_
          exact W.iret (v := 0) hx hb hr (fun t ht _ => ⟨⟨0, G, rfl, (Q_mark_mk ⟨hB_G, hF, ⟨by decide, by decide⟩, (by rw [mkW, if_neg (fun q => lc_ne ey_2 (by omega) (ey_1.symm.trans q)), if_neg (fun q => lc_ne ey_5 (by omega) (ey_4.symm.trans q)), if_neg (fun q => lc_ne ey_8 (by omega) (ey_7.symm.trans q)), if_neg (fun q => lc_ne ey_11 (by omega) (ey_10.symm.trans q))]; rfl), ⟨y_1, ey_1.symm, ⟨y_2, ey_2, (Or.inr ⟨c_3, ⟨y_4, ey_4.symm, ⟨y_5, ey_5, (Or.inr ⟨c_6, ⟨y_7, ey_7.symm, ⟨y_8, ey_8, (Or.inr ⟨c_9, ⟨y_10, ey_10.symm, ⟨y_11, ey_11, (Or.inr ⟨c_12, ⟨rfl, rfl⟩⟩)⟩⟩⟩)⟩⟩⟩)⟩⟩⟩)⟩⟩⟩), wd_t ht hW⟩, hS.F ht⟩) hS.2.2 dX12_mark_62
        · have c_12 : y_11.toInt = 0 := xI_eq rfl rfl c_12
          refine lv_bipush (v := 8) hx hb dX12_mark_56 (by decide) ?_
          refine lv_goto (tgt := 62) hx hb dX12_mark_58 rfl ?_
          exact W.iret (v := 8) hx hb hr (fun t ht _ => ⟨⟨8, G, rfl, (Q_mark_mk ⟨hB_G, hF, ⟨by decide, by decide⟩, (by rw [mkW, if_neg (fun q => lc_ne ey_2 (by omega) (ey_1.symm.trans q)), if_neg (fun q => lc_ne ey_5 (by omega) (ey_4.symm.trans q)), if_neg (fun q => lc_ne ey_8 (by omega) (ey_7.symm.trans q)), if_pos (ey_10.trans (lc_eq ey_11 (by omega)))]; rfl), ⟨y_1, ey_1.symm, ⟨y_2, ey_2, (Or.inr ⟨c_3, ⟨y_4, ey_4.symm, ⟨y_5, ey_5, (Or.inr ⟨c_6, ⟨y_7, ey_7.symm, ⟨y_8, ey_8, (Or.inr ⟨c_9, ⟨y_10, ey_10.symm, ⟨y_11, ey_11, (Or.inl ⟨c_12, ⟨rfl, rfl⟩⟩)⟩⟩⟩)⟩⟩⟩)⟩⟩⟩)⟩⟩⟩), wd_t ht hW⟩, hS.F ht⟩) hS.2.2 dX12_mark_62
      · have c_9 : y_8.toInt = 0 := xI_eq rfl rfl c_9
        refine ic_4 hx hb dX12_mark_41 ?_
        refine lv_goto (tgt := 62) hx hb dX12_mark_42 rfl ?_
        exact W.iret (v := 4) hx hb hr (fun t ht _ => ⟨⟨4, G, rfl, (Q_mark_mk ⟨hB_G, hF, ⟨by decide, by decide⟩, (by rw [mkW, if_neg (fun q => lc_ne ey_2 (by omega) (ey_1.symm.trans q)), if_neg (fun q => lc_ne ey_5 (by omega) (ey_4.symm.trans q)), if_pos (ey_7.trans (lc_eq ey_8 (by omega)))]; rfl), ⟨y_1, ey_1.symm, ⟨y_2, ey_2, (Or.inr ⟨c_3, ⟨y_4, ey_4.symm, ⟨y_5, ey_5, (Or.inr ⟨c_6, ⟨y_7, ey_7.symm, ⟨y_8, ey_8, (Or.inl ⟨c_9, ⟨rfl, rfl⟩⟩)⟩⟩⟩)⟩⟩⟩)⟩⟩⟩), wd_t ht hW⟩, hS.F ht⟩) hS.2.2 dX12_mark_62
    · have c_6 : y_5.toInt = 0 := xI_eq rfl rfl c_6
      refine ic_2 hx hb dX12_mark_26 ?_
      refine lv_goto (tgt := 62) hx hb dX12_mark_27 rfl ?_
      exact W.iret (v := 2) hx hb hr (fun t ht _ => ⟨⟨2, G, rfl, (Q_mark_mk ⟨hB_G, hF, ⟨by decide, by decide⟩, (by rw [mkW, if_neg (fun q => lc_ne ey_2 (by omega) (ey_1.symm.trans q)), if_pos (ey_4.trans (lc_eq ey_5 (by omega)))]; rfl), ⟨y_1, ey_1.symm, ⟨y_2, ey_2, (Or.inr ⟨c_3, ⟨y_4, ey_4.symm, ⟨y_5, ey_5, (Or.inl ⟨c_6, ⟨rfl, rfl⟩⟩)⟩⟩⟩)⟩⟩⟩), wd_t ht hW⟩, hS.F ht⟩) hS.2.2 dX12_mark_62
  · have c_3 : y_2.toInt = 0 := xI_eq rfl rfl c_3
    refine ic_1 hx hb dX12_mark_11 ?_
    refine lv_goto (tgt := 62) hx hb dX12_mark_12 rfl ?_
    exact W.iret (v := 1) hx hb hr (fun t ht _ => ⟨⟨1, G, rfl, (Q_mark_mk ⟨hB_G, hF, ⟨by decide, by decide⟩, (by rw [mkW, if_pos (ey_1.trans (lc_eq ey_2 (by omega)))]; rfl), ⟨y_1, ey_1.symm, ⟨y_2, ey_2, (Or.inl ⟨c_3, ⟨rfl, rfl⟩⟩)⟩⟩⟩), wd_t ht hW⟩, hS.F ht⟩) hS.2.2 dX12_mark_62

set_option maxHeartbeats 4000000 in
set_option maxRecDepth 100000 in
theorem n_isOwn (l : Launch) (D : va_G) (k : KT) (A : Nat → Prop) (a : Nat → Nat) (z : SK) (G : GS)   : Met l yX12_isOwn (WS yX12_isOwn cX12_isOwn 1 (some .boolean)) ({ frames := 1, cells := 0, slots := 0, locals := 20 }) (va_Pc [.ref (a 66)] (cW D k A a z G)) (va_Qi (fun (r : Int32) (G1 : GS) => Q_isOwn G r G1) (fun (G1 : GS) t => Wd D k A a G1 t.heap) A) 0 0 A := by
  refine Met.ofW (cc := cX12_isOwn) (maxL := 1) (ret := (some .boolean)) (by decide) rfl ?_
  intro p e s m args below meth c s₁ B hml hv
  obtain ⟨rfl, hW, hB_G, hK, hZ⟩ := hv
  have hx := B.exec
  have hb := B.bytes
  have hr := B.returns
  have hts := atoms_spec (ws := WS yX12_isOwn cX12_isOwn 1 (some .boolean)) B.pre
  have hgd : ∀ w ∈ gd, w ∈ WS yX12_isOwn cX12_isOwn 1 (some .boolean) := fun w h => List.mem_cons_of_mem _ h
  have hg : ∀ w ∈ gd, w.before _ s = true := fun w h => hts w (hgd w h)
  have hown : s.vm.findClass RX12 = some m.cls := findClass_of_methodNamed B.named
  have hS : va_S A s.heap s.heap [] := va_S.rf
  have hF : Fr [] [] G G := Fr.rf
  have hl := lv_entry ([.ref (a 66)]) (n := 1) (Nat.le_of_ble_eq_true rfl)
  rw [lg_entry_eq]
  generalize (lg_sl ([.ref (a 66)]) ++ List.replicate (1 - (lg_sl ([.ref (a 66)])).length) Slot.unset).toArray = ls at hl ⊢
  have hl : lv_has ls 1 [(0, .ref (a 66))] := hl
  refine lv_aload_n hx hb dX12_isOwn_0 rfl (lv_at hl 0 rfl) ?_
  obtain ⟨y_1, ey_1⟩ : ∃ q, G.2.1 66 9 = q := ⟨_, rfl⟩
  refine S_getL (v := y_1) (C := RX12) (T := TX12) (N := 89) hx hb hg iX12 hown hK hW kd_66 rfl 9 (lt_b rfl) (hg (Cond.fieldLink RX12 198 "SlabWalkModel" "word" "J") m1323) (fun _ h9 => h9) rfl ey_1 dX12_isOwn_1 ?_
  refine lv_ldc2 (v := 126943972648308) hx hb hown (hg (Cond.constantLong RX12 221 126943972648308) m1623) dX12_isOwn_4 ?_
  refine W.lcmp hx hb dX12_isOwn_7 ?_
  refine lv_topi (fun y_2 ey_2 => ?_)
  have ty_2 := lcmp_rng ey_2
  refine lv_if_eq (tgt := 216) hx hb dX12_isOwn_8 rfl (fun c_3 => ?_) (fun c_3 => ?_)
  · have c_3 : y_2.toInt = 0 := xI_eq rfl rfl c_3
    refine ic_1 hx hb dX12_isOwn_216 ?_
    refine lv_goto (tgt := 221) hx hb dX12_isOwn_217 rfl ?_
    exact W.zret (v := 1) hx hb hr (by decide) (fun t ht _ => ⟨⟨1, G, rfl, (Q_isOwn_mk ⟨hB_G, hF, ⟨by decide, by decide⟩, ⟨y_1, ey_1.symm, ⟨y_2, ey_2, (Or.inl ⟨c_3, ⟨rfl, rfl⟩⟩)⟩⟩⟩), wd_t ht hW⟩, hS.F ht⟩) hS.2.2 dX12_isOwn_221
  · have c_3 : y_2.toInt ≠ 0 := xI_ne rfl rfl c_3
    refine lv_aload_n hx hb dX12_isOwn_11 rfl (lv_at hl 0 rfl) ?_
    obtain ⟨y_4, ey_4⟩ : ∃ q, G.2.1 66 9 = q := ⟨_, rfl⟩
    refine S_getL (v := y_4) (C := RX12) (T := TX12) (N := 89) hx hb hg iX12 hown hK hW kd_66 rfl 9 (lt_b rfl) (hg (Cond.fieldLink RX12 198 "SlabWalkModel" "word" "J") m1323) (fun _ h9 => h9) rfl ey_4 dX12_isOwn_12 ?_
    refine lv_ldc2 (v := 457135713908) hx hb hown (hg (Cond.constantLong RX12 223 457135713908) m1644) dX12_isOwn_15 ?_
    refine W.lcmp hx hb dX12_isOwn_18 ?_
    refine lv_topi (fun y_5 ey_5 => ?_)
    have ty_5 := lcmp_rng ey_5
    refine lv_if_eq (tgt := 216) hx hb dX12_isOwn_19 rfl (fun c_6 => ?_) (fun c_6 => ?_)
    · have c_6 : y_5.toInt = 0 := xI_eq rfl rfl c_6
      refine ic_1 hx hb dX12_isOwn_216 ?_
      refine lv_goto (tgt := 221) hx hb dX12_isOwn_217 rfl ?_
      exact W.zret (v := 1) hx hb hr (by decide) (fun t ht _ => ⟨⟨1, G, rfl, (Q_isOwn_mk ⟨hB_G, hF, ⟨by decide, by decide⟩, ⟨y_1, ey_1.symm, ⟨y_2, ey_2, (Or.inr ⟨c_3, ⟨y_4, ey_4.symm, ⟨y_5, ey_5, (Or.inl ⟨c_6, ⟨rfl, rfl⟩⟩)⟩⟩⟩)⟩⟩⟩), wd_t ht hW⟩, hS.F ht⟩) hS.2.2 dX12_isOwn_221
    · have c_6 : y_5.toInt ≠ 0 := xI_ne rfl rfl c_6
      refine lv_aload_n hx hb dX12_isOwn_22 rfl (lv_at hl 0 rfl) ?_
      obtain ⟨y_7, ey_7⟩ : ∃ q, G.2.1 66 9 = q := ⟨_, rfl⟩
      refine S_getL (v := y_7) (C := RX12) (T := TX12) (N := 89) hx hb hg iX12 hown hK hW kd_66 rfl 9 (lt_b rfl) (hg (Cond.fieldLink RX12 198 "SlabWalkModel" "word" "J") m1323) (fun _ h9 => h9) rfl ey_7 dX12_isOwn_23 ?_
      refine lv_ldc2 (v := 131260314510706) hx hb hown (hg (Cond.constantLong RX12 225 131260314510706) m1645) dX12_isOwn_26 ?_
      refine W.lcmp hx hb dX12_isOwn_29 ?_
      refine lv_topi (fun y_8 ey_8 => ?_)
      have ty_8 := lcmp_rng ey_8
      refine lv_if_eq (tgt := 216) hx hb dX12_isOwn_30 rfl (fun c_9 => ?_) (fun c_9 => ?_)
      · have c_9 : y_8.toInt = 0 := xI_eq rfl rfl c_9
        refine ic_1 hx hb dX12_isOwn_216 ?_
        refine lv_goto (tgt := 221) hx hb dX12_isOwn_217 rfl ?_
        exact W.zret (v := 1) hx hb hr (by decide) (fun t ht _ => ⟨⟨1, G, rfl, (Q_isOwn_mk ⟨hB_G, hF, ⟨by decide, by decide⟩, ⟨y_1, ey_1.symm, ⟨y_2, ey_2, (Or.inr ⟨c_3, ⟨y_4, ey_4.symm, ⟨y_5, ey_5, (Or.inr ⟨c_6, ⟨y_7, ey_7.symm, ⟨y_8, ey_8, (Or.inl ⟨c_9, ⟨rfl, rfl⟩⟩)⟩⟩⟩)⟩⟩⟩)⟩⟩⟩), wd_t ht hW⟩, hS.F ht⟩) hS.2.2 dX12_isOwn_221
      · have c_9 : y_8.toInt ≠ 0 := xI_ne rfl rfl c_9
        refine lv_aload_n hx hb dX12_isOwn_33 rfl (lv_at hl 0 rfl) ?_
        obtain ⟨y_10, ey_10⟩ : ∃ q, G.2.1 66 9 = q := ⟨_, rfl⟩
        refine S_getL (v := y_10) (C := RX12) (T := TX12) (N := 89) hx hb hg iX12 hown hK hW kd_66 rfl 9 (lt_b rfl) (hg (Cond.fieldLink RX12 198 "SlabWalkModel" "word" "J") m1323) (fun _ h9 => h9) rfl ey_10 dX12_isOwn_34 ?_
        refine lv_ldc2 (v := 1718579060) hx hb hown (hg (Cond.constantLong RX12 227 1718579060) m1646) dX12_isOwn_37 ?_
        refine W.lcmp hx hb dX12_isOwn_40 ?_
        refine lv_topi (fun y_11 ey_11 => ?_)
        have ty_11 := lcmp_rng ey_11
        refine lv_if_eq (tgt := 216) hx hb dX12_isOwn_41 rfl (fun c_12 => ?_) (fun c_12 => ?_)
        · have c_12 : y_11.toInt = 0 := xI_eq rfl rfl c_12
          refine ic_1 hx hb dX12_isOwn_216 ?_
          refine lv_goto (tgt := 221) hx hb dX12_isOwn_217 rfl ?_
          exact W.zret (v := 1) hx hb hr (by decide) (fun t ht _ => ⟨⟨1, G, rfl, (Q_isOwn_mk ⟨hB_G, hF, ⟨by decide, by decide⟩, ⟨y_1, ey_1.symm, ⟨y_2, ey_2, (Or.inr ⟨c_3, ⟨y_4, ey_4.symm, ⟨y_5, ey_5, (Or.inr ⟨c_6, ⟨y_7, ey_7.symm, ⟨y_8, ey_8, (Or.inr ⟨c_9, ⟨y_10, ey_10.symm, ⟨y_11, ey_11, (Or.inl ⟨c_12, ⟨rfl, rfl⟩⟩)⟩⟩⟩)⟩⟩⟩)⟩⟩⟩)⟩⟩⟩), wd_t ht hW⟩, hS.F ht⟩) hS.2.2 dX12_isOwn_221
        · have c_12 : y_11.toInt ≠ 0 := xI_ne rfl rfl c_12
          refine lv_aload_n hx hb dX12_isOwn_44 rfl (lv_at hl 0 rfl) ?_
          obtain ⟨y_13, ey_13⟩ : ∃ q, G.2.1 66 9 = q := ⟨_, rfl⟩
          refine S_getL (v := y_13) (C := RX12) (T := TX12) (N := 89) hx hb hg iX12 hown hK hW kd_66 rfl 9 (lt_b rfl) (hg (Cond.fieldLink RX12 198 "SlabWalkModel" "word" "J") m1323) (fun _ h9 => h9) rfl ey_13 dX12_isOwn_45 ?_
          refine lv_ldc2 (v := 1937007984) hx hb hown (hg (Cond.constantLong RX12 229 1937007984) m1647) dX12_isOwn_48 ?_
          refine W.lcmp hx hb dX12_isOwn_51 ?_
          refine lv_topi (fun y_14 ey_14 => ?_)
          have ty_14 := lcmp_rng ey_14
          refine lv_if_eq (tgt := 216) hx hb dX12_isOwn_52 rfl (fun c_15 => ?_) (fun c_15 => ?_)
          · have c_15 : y_14.toInt = 0 := xI_eq rfl rfl c_15
            refine ic_1 hx hb dX12_isOwn_216 ?_
            refine lv_goto (tgt := 221) hx hb dX12_isOwn_217 rfl ?_
            exact W.zret (v := 1) hx hb hr (by decide) (fun t ht _ => ⟨⟨1, G, rfl, (Q_isOwn_mk ⟨hB_G, hF, ⟨by decide, by decide⟩, ⟨y_1, ey_1.symm, ⟨y_2, ey_2, (Or.inr ⟨c_3, ⟨y_4, ey_4.symm, ⟨y_5, ey_5, (Or.inr ⟨c_6, ⟨y_7, ey_7.symm, ⟨y_8, ey_8, (Or.inr ⟨c_9, ⟨y_10, ey_10.symm, ⟨y_11, ey_11, (Or.inr ⟨c_12, ⟨y_13, ey_13.symm, ⟨y_14, ey_14, (Or.inl ⟨c_15, ⟨rfl, rfl⟩⟩)⟩⟩⟩)⟩⟩⟩)⟩⟩⟩)⟩⟩⟩)⟩⟩⟩), wd_t ht hW⟩, hS.F ht⟩) hS.2.2 dX12_isOwn_221
          · have c_15 : y_14.toInt ≠ 0 := xI_ne rfl rfl c_15
            refine lv_aload_n hx hb dX12_isOwn_55 rfl (lv_at hl 0 rfl) ?_
            obtain ⟨y_16, ey_16⟩ : ∃ q, G.2.1 66 9 = q := ⟨_, rfl⟩
            refine S_getL (v := y_16) (C := RX12) (T := TX12) (N := 89) hx hb hg iX12 hown hK hW kd_66 rfl 9 (lt_b rfl) (hg (Cond.fieldLink RX12 198 "SlabWalkModel" "word" "J") m1323) (fun _ h9 => h9) rfl ey_16 dX12_isOwn_56 ?_
            refine lv_ldc2 (v := 29807) hx hb hown (hg (Cond.constantLong RX12 231 29807) m1648) dX12_isOwn_59 ?_
            refine W.lcmp hx hb dX12_isOwn_62 ?_
            refine lv_topi (fun y_17 ey_17 => ?_)
            have ty_17 := lcmp_rng ey_17
            refine lv_if_eq (tgt := 216) hx hb dX12_isOwn_63 rfl (fun c_18 => ?_) (fun c_18 => ?_)
            · have c_18 : y_17.toInt = 0 := xI_eq rfl rfl c_18
              refine ic_1 hx hb dX12_isOwn_216 ?_
              refine lv_goto (tgt := 221) hx hb dX12_isOwn_217 rfl ?_
              exact W.zret (v := 1) hx hb hr (by decide) (fun t ht _ => ⟨⟨1, G, rfl, (Q_isOwn_mk ⟨hB_G, hF, ⟨by decide, by decide⟩, ⟨y_1, ey_1.symm, ⟨y_2, ey_2, (Or.inr ⟨c_3, ⟨y_4, ey_4.symm, ⟨y_5, ey_5, (Or.inr ⟨c_6, ⟨y_7, ey_7.symm, ⟨y_8, ey_8, (Or.inr ⟨c_9, ⟨y_10, ey_10.symm, ⟨y_11, ey_11, (Or.inr ⟨c_12, ⟨y_13, ey_13.symm, ⟨y_14, ey_14, (Or.inr ⟨c_15, ⟨y_16, ey_16.symm, ⟨y_17, ey_17, (Or.inl ⟨c_18, ⟨rfl, rfl⟩⟩)⟩⟩⟩)⟩⟩⟩)⟩⟩⟩)⟩⟩⟩)⟩⟩⟩)⟩⟩⟩), wd_t ht hW⟩, hS.F ht⟩) hS.2.2 dX12_isOwn_221
            · have c_18 : y_17.toInt ≠ 0 := xI_ne rfl rfl c_18
              refine lv_aload_n hx hb dX12_isOwn_66 rfl (lv_at hl 0 rfl) ?_
              obtain ⟨y_19, ey_19⟩ : ∃ q, G.2.1 66 9 = q := ⟨_, rfl⟩
              refine S_getL (v := y_19) (C := RX12) (T := TX12) (N := 89) hx hb hg iX12 hown hK hW kd_66 rfl 9 (lt_b rfl) (hg (Cond.fieldLink RX12 198 "SlabWalkModel" "word" "J") m1323) (fun _ h9 => h9) rfl ey_19 dX12_isOwn_67 ?_
              refine lv_ldc2 (v := 1818583408) hx hb hown (hg (Cond.constantLong RX12 233 1818583408) m1649) dX12_isOwn_70 ?_
              refine W.lcmp hx hb dX12_isOwn_73 ?_
              refine lv_topi (fun y_20 ey_20 => ?_)
              have ty_20 := lcmp_rng ey_20
              refine lv_if_eq (tgt := 216) hx hb dX12_isOwn_74 rfl (fun c_21 => ?_) (fun c_21 => ?_)
              · have c_21 : y_20.toInt = 0 := xI_eq rfl rfl c_21
                refine ic_1 hx hb dX12_isOwn_216 ?_
                refine lv_goto (tgt := 221) hx hb dX12_isOwn_217 rfl ?_
                exact W.zret (v := 1) hx hb hr (by decide) (fun t ht _ => ⟨⟨1, G, rfl, (Q_isOwn_mk ⟨hB_G, hF, ⟨by decide, by decide⟩, ⟨y_1, ey_1.symm, ⟨y_2, ey_2, (Or.inr ⟨c_3, ⟨y_4, ey_4.symm, ⟨y_5, ey_5, (Or.inr ⟨c_6, ⟨y_7, ey_7.symm, ⟨y_8, ey_8, (Or.inr ⟨c_9, ⟨y_10, ey_10.symm, ⟨y_11, ey_11, (Or.inr ⟨c_12, ⟨y_13, ey_13.symm, ⟨y_14, ey_14, (Or.inr ⟨c_15, ⟨y_16, ey_16.symm, ⟨y_17, ey_17, (Or.inr ⟨c_18, ⟨y_19, ey_19.symm, ⟨y_20, ey_20, (Or.inl ⟨c_21, ⟨rfl, rfl⟩⟩)⟩⟩⟩)⟩⟩⟩)⟩⟩⟩)⟩⟩⟩)⟩⟩⟩)⟩⟩⟩)⟩⟩⟩), wd_t ht hW⟩, hS.F ht⟩) hS.2.2 dX12_isOwn_221
              · have c_21 : y_20.toInt ≠ 0 := xI_ne rfl rfl c_21
                refine lv_aload_n hx hb dX12_isOwn_77 rfl (lv_at hl 0 rfl) ?_
                obtain ⟨y_22, ey_22⟩ : ∃ q, G.2.1 66 9 = q := ⟨_, rfl⟩
                refine S_getL (v := y_22) (C := RX12) (T := TX12) (N := 89) hx hb hg iX12 hown hK hW kd_66 rfl 9 (lt_b rfl) (hg (Cond.fieldLink RX12 198 "SlabWalkModel" "word" "J") m1323) (fun _ h9 => h9) rfl ey_22 dX12_isOwn_78 ?_
                refine lv_ldc2 (v := 1920298085) hx hb hown (hg (Cond.constantLong RX12 235 1920298085) m1650) dX12_isOwn_81 ?_
                refine W.lcmp hx hb dX12_isOwn_84 ?_
                refine lv_topi (fun y_23 ey_23 => ?_)
                have ty_23 := lcmp_rng ey_23
                refine lv_if_eq (tgt := 216) hx hb dX12_isOwn_85 rfl (fun c_24 => ?_) (fun c_24 => ?_)
                · have c_24 : y_23.toInt = 0 := xI_eq rfl rfl c_24
                  refine ic_1 hx hb dX12_isOwn_216 ?_
                  refine lv_goto (tgt := 221) hx hb dX12_isOwn_217 rfl ?_
                  exact W.zret (v := 1) hx hb hr (by decide) (fun t ht _ => ⟨⟨1, G, rfl, (Q_isOwn_mk ⟨hB_G, hF, ⟨by decide, by decide⟩, ⟨y_1, ey_1.symm, ⟨y_2, ey_2, (Or.inr ⟨c_3, ⟨y_4, ey_4.symm, ⟨y_5, ey_5, (Or.inr ⟨c_6, ⟨y_7, ey_7.symm, ⟨y_8, ey_8, (Or.inr ⟨c_9, ⟨y_10, ey_10.symm, ⟨y_11, ey_11, (Or.inr ⟨c_12, ⟨y_13, ey_13.symm, ⟨y_14, ey_14, (Or.inr ⟨c_15, ⟨y_16, ey_16.symm, ⟨y_17, ey_17, (Or.inr ⟨c_18, ⟨y_19, ey_19.symm, ⟨y_20, ey_20, (Or.inr ⟨c_21, ⟨y_22, ey_22.symm, ⟨y_23, ey_23, (Or.inl ⟨c_24, ⟨rfl, rfl⟩⟩)⟩⟩⟩)⟩⟩⟩)⟩⟩⟩)⟩⟩⟩)⟩⟩⟩)⟩⟩⟩)⟩⟩⟩)⟩⟩⟩), wd_t ht hW⟩, hS.F ht⟩) hS.2.2 dX12_isOwn_221
                · have c_24 : y_23.toInt ≠ 0 := xI_ne rfl rfl c_24
                  refine lv_aload_n hx hb dX12_isOwn_88 rfl (lv_at hl 0 rfl) ?_
                  obtain ⟨y_25, ey_25⟩ : ∃ q, G.2.1 66 9 = q := ⟨_, rfl⟩
                  refine S_getL (v := y_25) (C := RX12) (T := TX12) (N := 89) hx hb hg iX12 hown hK hW kd_66 rfl 9 (lt_b rfl) (hg (Cond.fieldLink RX12 198 "SlabWalkModel" "word" "J") m1323) (fun _ h9 => h9) rfl ey_25 dX12_isOwn_89 ?_
                  refine lv_ldc2 (v := 1936484720) hx hb hown (hg (Cond.constantLong RX12 237 1936484720) m1651) dX12_isOwn_92 ?_
                  refine W.lcmp hx hb dX12_isOwn_95 ?_
                  refine lv_topi (fun y_26 ey_26 => ?_)
                  have ty_26 := lcmp_rng ey_26
                  refine lv_if_eq (tgt := 216) hx hb dX12_isOwn_96 rfl (fun c_27 => ?_) (fun c_27 => ?_)
                  · have c_27 : y_26.toInt = 0 := xI_eq rfl rfl c_27
                    refine ic_1 hx hb dX12_isOwn_216 ?_
                    refine lv_goto (tgt := 221) hx hb dX12_isOwn_217 rfl ?_
                    exact W.zret (v := 1) hx hb hr (by decide) (fun t ht _ => ⟨⟨1, G, rfl, (Q_isOwn_mk ⟨hB_G, hF, ⟨by decide, by decide⟩, ⟨y_1, ey_1.symm, ⟨y_2, ey_2, (Or.inr ⟨c_3, ⟨y_4, ey_4.symm, ⟨y_5, ey_5, (Or.inr ⟨c_6, ⟨y_7, ey_7.symm, ⟨y_8, ey_8, (Or.inr ⟨c_9, ⟨y_10, ey_10.symm, ⟨y_11, ey_11, (Or.inr ⟨c_12, ⟨y_13, ey_13.symm, ⟨y_14, ey_14, (Or.inr ⟨c_15, ⟨y_16, ey_16.symm, ⟨y_17, ey_17, (Or.inr ⟨c_18, ⟨y_19, ey_19.symm, ⟨y_20, ey_20, (Or.inr ⟨c_21, ⟨y_22, ey_22.symm, ⟨y_23, ey_23, (Or.inr ⟨c_24, ⟨y_25, ey_25.symm, ⟨y_26, ey_26, (Or.inl ⟨c_27, ⟨rfl, rfl⟩⟩)⟩⟩⟩)⟩⟩⟩)⟩⟩⟩)⟩⟩⟩)⟩⟩⟩)⟩⟩⟩)⟩⟩⟩)⟩⟩⟩)⟩⟩⟩), wd_t ht hW⟩, hS.F ht⟩) hS.2.2 dX12_isOwn_221
                  · have c_27 : y_26.toInt ≠ 0 := xI_ne rfl rfl c_27
                    refine lv_aload_n hx hb dX12_isOwn_99 rfl (lv_at hl 0 rfl) ?_
                    obtain ⟨y_28, ey_28⟩ : ∃ q, G.2.1 66 9 = q := ⟨_, rfl⟩
                    refine S_getL (v := y_28) (C := RX12) (T := TX12) (N := 89) hx hb hg iX12 hown hK hW kd_66 rfl 9 (lt_b rfl) (hg (Cond.fieldLink RX12 198 "SlabWalkModel" "word" "J") m1323) (fun _ h9 => h9) rfl ey_28 dX12_isOwn_100 ?_
                    refine lv_ldc2 (v := 1751215716) hx hb hown (hg (Cond.constantLong RX12 239 1751215716) m1652) dX12_isOwn_103 ?_
                    refine W.lcmp hx hb dX12_isOwn_106 ?_
                    refine lv_topi (fun y_29 ey_29 => ?_)
                    have ty_29 := lcmp_rng ey_29
                    refine lv_if_eq (tgt := 216) hx hb dX12_isOwn_107 rfl (fun c_30 => ?_) (fun c_30 => ?_)
                    · have c_30 : y_29.toInt = 0 := xI_eq rfl rfl c_30
                      refine ic_1 hx hb dX12_isOwn_216 ?_
                      refine lv_goto (tgt := 221) hx hb dX12_isOwn_217 rfl ?_
                      exact W.zret (v := 1) hx hb hr (by decide) (fun t ht _ => ⟨⟨1, G, rfl, (Q_isOwn_mk ⟨hB_G, hF, ⟨by decide, by decide⟩, ⟨y_1, ey_1.symm, ⟨y_2, ey_2, (Or.inr ⟨c_3, ⟨y_4, ey_4.symm, ⟨y_5, ey_5, (Or.inr ⟨c_6, ⟨y_7, ey_7.symm, ⟨y_8, ey_8, (Or.inr ⟨c_9, ⟨y_10, ey_10.symm, ⟨y_11, ey_11, (Or.inr ⟨c_12, ⟨y_13, ey_13.symm, ⟨y_14, ey_14, (Or.inr ⟨c_15, ⟨y_16, ey_16.symm, ⟨y_17, ey_17, (Or.inr ⟨c_18, ⟨y_19, ey_19.symm, ⟨y_20, ey_20, (Or.inr ⟨c_21, ⟨y_22, ey_22.symm, ⟨y_23, ey_23, (Or.inr ⟨c_24, ⟨y_25, ey_25.symm, ⟨y_26, ey_26, (Or.inr ⟨c_27, ⟨y_28, ey_28.symm, ⟨y_29, ey_29, (Or.inl ⟨c_30, ⟨rfl, rfl⟩⟩)⟩⟩⟩)⟩⟩⟩)⟩⟩⟩)⟩⟩⟩)⟩⟩⟩)⟩⟩⟩)⟩⟩⟩)⟩⟩⟩)⟩⟩⟩)⟩⟩⟩), wd_t ht hW⟩, hS.F ht⟩) hS.2.2 dX12_isOwn_221
                    · have c_30 : y_29.toInt ≠ 0 := xI_ne rfl rfl c_30
                      refine lv_aload_n hx hb dX12_isOwn_110 rfl (lv_at hl 0 rfl) ?_
                      obtain ⟨y_31, ey_31⟩ : ∃ q, G.2.1 66 9 = q := ⟨_, rfl⟩
                      refine S_getL (v := y_31) (C := RX12) (T := TX12) (N := 89) hx hb hg iX12 hown hK hW kd_66 rfl 9 (lt_b rfl) (hg (Cond.fieldLink RX12 198 "SlabWalkModel" "word" "J") m1323) (fun _ h9 => h9) rfl ey_31 dX12_isOwn_111 ?_
                      refine lv_ldc2 (v := 495739560811) hx hb hown (hg (Cond.constantLong RX12 241 495739560811) m1653) dX12_isOwn_114 ?_
                      refine W.lcmp hx hb dX12_isOwn_117 ?_
                      refine lv_topi (fun y_32 ey_32 => ?_)
                      have ty_32 := lcmp_rng ey_32
                      refine lv_if_eq (tgt := 216) hx hb dX12_isOwn_118 rfl (fun c_33 => ?_) (fun c_33 => ?_)
                      · have c_33 : y_32.toInt = 0 := xI_eq rfl rfl c_33
                        refine ic_1 hx hb dX12_isOwn_216 ?_
                        refine lv_goto (tgt := 221) hx hb dX12_isOwn_217 rfl ?_
                        exact W.zret (v := 1) hx hb hr (by decide) (fun t ht _ => ⟨⟨1, G, rfl, (Q_isOwn_mk ⟨hB_G, hF, ⟨by decide, by decide⟩, ⟨y_1, ey_1.symm, ⟨y_2, ey_2, (Or.inr ⟨c_3, ⟨y_4, ey_4.symm, ⟨y_5, ey_5, (Or.inr ⟨c_6, ⟨y_7, ey_7.symm, ⟨y_8, ey_8, (Or.inr ⟨c_9, ⟨y_10, ey_10.symm, ⟨y_11, ey_11, (Or.inr ⟨c_12, ⟨y_13, ey_13.symm, ⟨y_14, ey_14, (Or.inr ⟨c_15, ⟨y_16, ey_16.symm, ⟨y_17, ey_17, (Or.inr ⟨c_18, ⟨y_19, ey_19.symm, ⟨y_20, ey_20, (Or.inr ⟨c_21, ⟨y_22, ey_22.symm, ⟨y_23, ey_23, (Or.inr ⟨c_24, ⟨y_25, ey_25.symm, ⟨y_26, ey_26, (Or.inr ⟨c_27, ⟨y_28, ey_28.symm, ⟨y_29, ey_29, (Or.inr ⟨c_30, ⟨y_31, ey_31.symm, ⟨y_32, ey_32, (Or.inl ⟨c_33, ⟨rfl, rfl⟩⟩)⟩⟩⟩)⟩⟩⟩)⟩⟩⟩)⟩⟩⟩)⟩⟩⟩)⟩⟩⟩)⟩⟩⟩)⟩⟩⟩)⟩⟩⟩)⟩⟩⟩)⟩⟩⟩), wd_t ht hW⟩, hS.F ht⟩) hS.2.2 dX12_isOwn_221
                      · have c_33 : y_32.toInt ≠ 0 := xI_ne rfl rfl c_33
                        refine lv_aload_n hx hb dX12_isOwn_121 rfl (lv_at hl 0 rfl) ?_
                        obtain ⟨y_34, ey_34⟩ : ∃ q, G.2.1 66 9 = q := ⟨_, rfl⟩
                        refine S_getL (v := y_34) (C := RX12) (T := TX12) (N := 89) hx hb hg iX12 hown hK hW kd_66 rfl 9 (lt_b rfl) (hg (Cond.fieldLink RX12 198 "SlabWalkModel" "word" "J") m1323) (fun _ h9 => h9) rfl ey_34 dX12_isOwn_122 ?_
                        refine lv_ldc2 (v := 1685217655) hx hb hown (hg (Cond.constantLong RX12 243 1685217655) m1654) dX12_isOwn_125 ?_
                        refine W.lcmp hx hb dX12_isOwn_128 ?_
                        refine lv_topi (fun y_35 ey_35 => ?_)
                        have ty_35 := lcmp_rng ey_35
                        refine lv_if_eq (tgt := 216) hx hb dX12_isOwn_129 rfl (fun c_36 => ?_) (fun c_36 => ?_)
                        · have c_36 : y_35.toInt = 0 := xI_eq rfl rfl c_36
                          refine ic_1 hx hb dX12_isOwn_216 ?_
                          refine lv_goto (tgt := 221) hx hb dX12_isOwn_217 rfl ?_
                          exact W.zret (v := 1) hx hb hr (by decide) (fun t ht _ => ⟨⟨1, G, rfl, (Q_isOwn_mk ⟨hB_G, hF, ⟨by decide, by decide⟩, ⟨y_1, ey_1.symm, ⟨y_2, ey_2, (Or.inr ⟨c_3, ⟨y_4, ey_4.symm, ⟨y_5, ey_5, (Or.inr ⟨c_6, ⟨y_7, ey_7.symm, ⟨y_8, ey_8, (Or.inr ⟨c_9, ⟨y_10, ey_10.symm, ⟨y_11, ey_11, (Or.inr ⟨c_12, ⟨y_13, ey_13.symm, ⟨y_14, ey_14, (Or.inr ⟨c_15, ⟨y_16, ey_16.symm, ⟨y_17, ey_17, (Or.inr ⟨c_18, ⟨y_19, ey_19.symm, ⟨y_20, ey_20, (Or.inr ⟨c_21, ⟨y_22, ey_22.symm, ⟨y_23, ey_23, (Or.inr ⟨c_24, ⟨y_25, ey_25.symm, ⟨y_26, ey_26, (Or.inr ⟨c_27, ⟨y_28, ey_28.symm, ⟨y_29, ey_29, (Or.inr ⟨c_30, ⟨y_31, ey_31.symm, ⟨y_32, ey_32, (Or.inr ⟨c_33, ⟨y_34, ey_34.symm, ⟨y_35, ey_35, (Or.inl ⟨c_36, ⟨rfl, rfl⟩⟩)⟩⟩⟩)⟩⟩⟩)⟩⟩⟩)⟩⟩⟩)⟩⟩⟩)⟩⟩⟩)⟩⟩⟩)⟩⟩⟩)⟩⟩⟩)⟩⟩⟩)⟩⟩⟩)⟩⟩⟩), wd_t ht hW⟩, hS.F ht⟩) hS.2.2 dX12_isOwn_221
                        · have c_36 : y_35.toInt ≠ 0 := xI_ne rfl rfl c_36
                          refine lv_aload_n hx hb dX12_isOwn_132 rfl (lv_at hl 0 rfl) ?_
                          refine S_calli (va_runV (As := []) (rest := []) ⟨hx, hb, hml, hown, hts⟩ (n_mark l D k A a z G  ) (cwV 0 hts (gd_V hgd m1655 m1657 m58 m131 m1658) rfl rfl rfl hd_X12_mark ⟨Nat.le_of_ble_eq_true rfl, Nat.le_of_ble_eq_true rfl⟩) (pre_W hW hB_G hK hZ hS kd_66 rfl) rfl rfl hl.1 rfl (lv_room (Nat.le_of_ble_eq_true rfl)) dX12_isOwn_133 ⟨Nat.le_of_ble_eq_true rfl, Nat.le_of_ble_eq_true rfl⟩) hS (fun r_37 G_38 H locs hpo hW hS => ?_)
                          have hX_41 : Q_mark G r_37 G_38 := hpo
                          obtain ⟨hB_G_38, hq_39, f_42, hp_40, -⟩ := hpo
                          have hF := hF.call9 hq_39 rfl rfl
                          refine lv_if_gt (tgt := 216) hx hb dX12_isOwn_136 rfl (fun c_43 => ?_) (fun c_43 => ?_)
                          · have c_43 : 0 < r_37.toInt := xI_lt rfl rfl c_43
                            refine ic_1 hx hb dX12_isOwn_216 ?_
                            refine lv_goto (tgt := 221) hx hb dX12_isOwn_217 rfl ?_
                            exact W.zret (v := 1) hx hb hr (by decide) (fun t ht _ => ⟨⟨1, G_38, rfl, (Q_isOwn_mk ⟨hB_G_38, hF, ⟨by decide, by decide⟩, ⟨y_1, ey_1.symm, ⟨y_2, ey_2, (Or.inr ⟨c_3, ⟨y_4, ey_4.symm, ⟨y_5, ey_5, (Or.inr ⟨c_6, ⟨y_7, ey_7.symm, ⟨y_8, ey_8, (Or.inr ⟨c_9, ⟨y_10, ey_10.symm, ⟨y_11, ey_11, (Or.inr ⟨c_12, ⟨y_13, ey_13.symm, ⟨y_14, ey_14, (Or.inr ⟨c_15, ⟨y_16, ey_16.symm, ⟨y_17, ey_17, (Or.inr ⟨c_18, ⟨y_19, ey_19.symm, ⟨y_20, ey_20, (Or.inr ⟨c_21, ⟨y_22, ey_22.symm, ⟨y_23, ey_23, (Or.inr ⟨c_24, ⟨y_25, ey_25.symm, ⟨y_26, ey_26, (Or.inr ⟨c_27, ⟨y_28, ey_28.symm, ⟨y_29, ey_29, (Or.inr ⟨c_30, ⟨y_31, ey_31.symm, ⟨y_32, ey_32, (Or.inr ⟨c_33, ⟨y_34, ey_34.symm, ⟨y_35, ey_35, (Or.inr ⟨c_36, ⟨r_37, G_38, hX_41, (Or.inl ⟨c_43, ⟨rfl, rfl⟩⟩)⟩⟩)⟩⟩⟩)⟩⟩⟩)⟩⟩⟩)⟩⟩⟩)⟩⟩⟩)⟩⟩⟩)⟩⟩⟩)⟩⟩⟩)⟩⟩⟩)⟩⟩⟩)⟩⟩⟩)⟩⟩⟩), wd_t ht hW⟩, hS.F ht⟩) hS.2.2 dX12_isOwn_221
                          · have c_43 : r_37.toInt ≤ 0 := xI_nlt rfl rfl c_43
                            refine lv_aload_n hx hb dX12_isOwn_139 rfl (lv_at hl 0 rfl) ?_
                            obtain ⟨y_44, ey_44⟩ : ∃ q, G_38.2.1 66 9 = q := ⟨_, rfl⟩
                            refine S_getL (v := y_44) (C := RX12) (T := TX12) (N := 89) hx hb hg iX12 hown hK hW kd_66 rfl 9 (lt_b rfl) (hg (Cond.fieldLink RX12 198 "SlabWalkModel" "word" "J") m1323) (fun _ h9 => h9) rfl ey_44 dX12_isOwn_140 ?_
                            refine lv_ldc2 (v := 1819242087) hx hb hown (hg (Cond.constantLong RX12 249 1819242087) m1663) dX12_isOwn_143 ?_
                            refine W.lcmp hx hb dX12_isOwn_146 ?_
                            refine lv_topi (fun y_45 ey_45 => ?_)
                            have ty_45 := lcmp_rng ey_45
                            refine lv_if_eq (tgt := 216) hx hb dX12_isOwn_147 rfl (fun c_46 => ?_) (fun c_46 => ?_)
                            · have c_46 : y_45.toInt = 0 := xI_eq rfl rfl c_46
                              refine ic_1 hx hb dX12_isOwn_216 ?_
                              refine lv_goto (tgt := 221) hx hb dX12_isOwn_217 rfl ?_
                              exact W.zret (v := 1) hx hb hr (by decide) (fun t ht _ => ⟨⟨1, G_38, rfl, (Q_isOwn_mk ⟨hB_G_38, hF, ⟨by decide, by decide⟩, ⟨y_1, ey_1.symm, ⟨y_2, ey_2, (Or.inr ⟨c_3, ⟨y_4, ey_4.symm, ⟨y_5, ey_5, (Or.inr ⟨c_6, ⟨y_7, ey_7.symm, ⟨y_8, ey_8, (Or.inr ⟨c_9, ⟨y_10, ey_10.symm, ⟨y_11, ey_11, (Or.inr ⟨c_12, ⟨y_13, ey_13.symm, ⟨y_14, ey_14, (Or.inr ⟨c_15, ⟨y_16, ey_16.symm, ⟨y_17, ey_17, (Or.inr ⟨c_18, ⟨y_19, ey_19.symm, ⟨y_20, ey_20, (Or.inr ⟨c_21, ⟨y_22, ey_22.symm, ⟨y_23, ey_23, (Or.inr ⟨c_24, ⟨y_25, ey_25.symm, ⟨y_26, ey_26, (Or.inr ⟨c_27, ⟨y_28, ey_28.symm, ⟨y_29, ey_29, (Or.inr ⟨c_30, ⟨y_31, ey_31.symm, ⟨y_32, ey_32, (Or.inr ⟨c_33, ⟨y_34, ey_34.symm, ⟨y_35, ey_35, (Or.inr ⟨c_36, ⟨r_37, G_38, hX_41, (Or.inr ⟨c_43, ⟨y_44, ey_44.symm.trans ((hq_39.l9 66 9 rfl rfl)), ⟨y_45, ey_45, (Or.inl ⟨c_46, ⟨rfl, rfl⟩⟩)⟩⟩⟩)⟩⟩)⟩⟩⟩)⟩⟩⟩)⟩⟩⟩)⟩⟩⟩)⟩⟩⟩)⟩⟩⟩)⟩⟩⟩)⟩⟩⟩)⟩⟩⟩)⟩⟩⟩)⟩⟩⟩)⟩⟩⟩), wd_t ht hW⟩, hS.F ht⟩) hS.2.2 dX12_isOwn_221
                            · have c_46 : y_45.toInt ≠ 0 := xI_ne rfl rfl c_46
                              refine lv_aload_n hx hb dX12_isOwn_150 rfl (lv_at hl 0 rfl) ?_
                              obtain ⟨y_47, ey_47⟩ : ∃ q, G_38.2.1 66 9 = q := ⟨_, rfl⟩
                              refine S_getL (v := y_47) (C := RX12) (T := TX12) (N := 89) hx hb hg iX12 hown hK hW kd_66 rfl 9 (lt_b rfl) (hg (Cond.fieldLink RX12 198 "SlabWalkModel" "word" "J") m1323) (fun _ h9 => h9) rfl ey_47 dX12_isOwn_151 ?_
                              refine lv_ldc2 (v := 7238760) hx hb hown (hg (Cond.constantLong RX12 251 7238760) m1664) dX12_isOwn_154 ?_
                              refine W.lcmp hx hb dX12_isOwn_157 ?_
                              refine lv_topi (fun y_48 ey_48 => ?_)
                              have ty_48 := lcmp_rng ey_48
                              refine lv_if_eq (tgt := 216) hx hb dX12_isOwn_158 rfl (fun c_49 => ?_) (fun c_49 => ?_)
                              · have c_49 : y_48.toInt = 0 := xI_eq rfl rfl c_49
                                refine ic_1 hx hb dX12_isOwn_216 ?_
                                refine lv_goto (tgt := 221) hx hb dX12_isOwn_217 rfl ?_
                                exact W.zret (v := 1) hx hb hr (by decide) (fun t ht _ => ⟨⟨1, G_38, rfl, (Q_isOwn_mk ⟨hB_G_38, hF, ⟨by decide, by decide⟩, ⟨y_1, ey_1.symm, ⟨y_2, ey_2, (Or.inr ⟨c_3, ⟨y_4, ey_4.symm, ⟨y_5, ey_5, (Or.inr ⟨c_6, ⟨y_7, ey_7.symm, ⟨y_8, ey_8, (Or.inr ⟨c_9, ⟨y_10, ey_10.symm, ⟨y_11, ey_11, (Or.inr ⟨c_12, ⟨y_13, ey_13.symm, ⟨y_14, ey_14, (Or.inr ⟨c_15, ⟨y_16, ey_16.symm, ⟨y_17, ey_17, (Or.inr ⟨c_18, ⟨y_19, ey_19.symm, ⟨y_20, ey_20, (Or.inr ⟨c_21, ⟨y_22, ey_22.symm, ⟨y_23, ey_23, (Or.inr ⟨c_24, ⟨y_25, ey_25.symm, ⟨y_26, ey_26, (Or.inr ⟨c_27, ⟨y_28, ey_28.symm, ⟨y_29, ey_29, (Or.inr ⟨c_30, ⟨y_31, ey_31.symm, ⟨y_32, ey_32, (Or.inr ⟨c_33, ⟨y_34, ey_34.symm, ⟨y_35, ey_35, (Or.inr ⟨c_36, ⟨r_37, G_38, hX_41, (Or.inr ⟨c_43, ⟨y_44, ey_44.symm.trans ((hq_39.l9 66 9 rfl rfl)), ⟨y_45, ey_45, (Or.inr ⟨c_46, ⟨y_47, ey_47.symm.trans ((hq_39.l9 66 9 rfl rfl)), ⟨y_48, ey_48, (Or.inl ⟨c_49, ⟨rfl, rfl⟩⟩)⟩⟩⟩)⟩⟩⟩)⟩⟩)⟩⟩⟩)⟩⟩⟩)⟩⟩⟩)⟩⟩⟩)⟩⟩⟩)⟩⟩⟩)⟩⟩⟩)⟩⟩⟩)⟩⟩⟩)⟩⟩⟩)⟩⟩⟩)⟩⟩⟩), wd_t ht hW⟩, hS.F ht⟩) hS.2.2 dX12_isOwn_221
                              · have c_49 : y_48.toInt ≠ 0 := xI_ne rfl rfl c_49
                                refine lv_aload_n hx hb dX12_isOwn_161 rfl (lv_at hl 0 rfl) ?_
                                obtain ⟨y_50, ey_50⟩ : ∃ q, G_38.2.1 66 9 = q := ⟨_, rfl⟩
                                refine S_getL (v := y_50) (C := RX12) (T := TX12) (N := 89) hx hb hg iX12 hown hK hW kd_66 rfl 9 (lt_b rfl) (hg (Cond.fieldLink RX12 198 "SlabWalkModel" "word" "J") m1323) (fun _ h9 => h9) rfl ey_50 dX12_isOwn_162 ?_
                                refine lv_ldc2 (v := 1768842088) hx hb hown (hg (Cond.constantLong RX12 253 1768842088) m1665) dX12_isOwn_165 ?_
                                refine W.lcmp hx hb dX12_isOwn_168 ?_
                                refine lv_topi (fun y_51 ey_51 => ?_)
                                have ty_51 := lcmp_rng ey_51
                                refine lv_if_eq (tgt := 216) hx hb dX12_isOwn_169 rfl (fun c_52 => ?_) (fun c_52 => ?_)
                                · have c_52 : y_51.toInt = 0 := xI_eq rfl rfl c_52
                                  refine ic_1 hx hb dX12_isOwn_216 ?_
                                  refine lv_goto (tgt := 221) hx hb dX12_isOwn_217 rfl ?_
                                  exact W.zret (v := 1) hx hb hr (by decide) (fun t ht _ => ⟨⟨1, G_38, rfl, (Q_isOwn_mk ⟨hB_G_38, hF, ⟨by decide, by decide⟩, ⟨y_1, ey_1.symm, ⟨y_2, ey_2, (Or.inr ⟨c_3, ⟨y_4, ey_4.symm, ⟨y_5, ey_5, (Or.inr ⟨c_6, ⟨y_7, ey_7.symm, ⟨y_8, ey_8, (Or.inr ⟨c_9, ⟨y_10, ey_10.symm, ⟨y_11, ey_11, (Or.inr ⟨c_12, ⟨y_13, ey_13.symm, ⟨y_14, ey_14, (Or.inr ⟨c_15, ⟨y_16, ey_16.symm, ⟨y_17, ey_17, (Or.inr ⟨c_18, ⟨y_19, ey_19.symm, ⟨y_20, ey_20, (Or.inr ⟨c_21, ⟨y_22, ey_22.symm, ⟨y_23, ey_23, (Or.inr ⟨c_24, ⟨y_25, ey_25.symm, ⟨y_26, ey_26, (Or.inr ⟨c_27, ⟨y_28, ey_28.symm, ⟨y_29, ey_29, (Or.inr ⟨c_30, ⟨y_31, ey_31.symm, ⟨y_32, ey_32, (Or.inr ⟨c_33, ⟨y_34, ey_34.symm, ⟨y_35, ey_35, (Or.inr ⟨c_36, ⟨r_37, G_38, hX_41, (Or.inr ⟨c_43, ⟨y_44, ey_44.symm.trans ((hq_39.l9 66 9 rfl rfl)), ⟨y_45, ey_45, (Or.inr ⟨c_46, ⟨y_47, ey_47.symm.trans ((hq_39.l9 66 9 rfl rfl)), ⟨y_48, ey_48, (Or.inr ⟨c_49, ⟨y_50, ey_50.symm.trans ((hq_39.l9 66 9 rfl rfl)), ⟨y_51, ey_51, (Or.inl ⟨c_52, ⟨rfl, rfl⟩⟩)⟩⟩⟩)⟩⟩⟩)⟩⟩⟩)⟩⟩)⟩⟩⟩)⟩⟩⟩)⟩⟩⟩)⟩⟩⟩)⟩⟩⟩)⟩⟩⟩)⟩⟩⟩)⟩⟩⟩)⟩⟩⟩)⟩⟩⟩)⟩⟩⟩)⟩⟩⟩), wd_t ht hW⟩, hS.F ht⟩) hS.2.2 dX12_isOwn_221
                                · have c_52 : y_51.toInt ≠ 0 := xI_ne rfl rfl c_52
                                  refine lv_aload_n hx hb dX12_isOwn_172 rfl (lv_at hl 0 rfl) ?_
                                  obtain ⟨y_53, ey_53⟩ : ∃ q, G_38.2.1 66 9 = q := ⟨_, rfl⟩
                                  refine S_getL (v := y_53) (C := RX12) (T := TX12) (N := 89) hx hb hg iX12 hown hK hW kd_66 rfl 9 (lt_b rfl) (hg (Cond.fieldLink RX12 198 "SlabWalkModel" "word" "J") m1323) (fun _ h9 => h9) rfl ey_53 dX12_isOwn_173 ?_
                                  refine lv_ldc2 (v := 6578553) hx hb hown (hg (Cond.constantLong RX12 255 6578553) m1666) dX12_isOwn_176 ?_
                                  refine W.lcmp hx hb dX12_isOwn_179 ?_
                                  refine lv_topi (fun y_54 ey_54 => ?_)
                                  have ty_54 := lcmp_rng ey_54
                                  refine lv_if_eq (tgt := 216) hx hb dX12_isOwn_180 rfl (fun c_55 => ?_) (fun c_55 => ?_)
                                  · have c_55 : y_54.toInt = 0 := xI_eq rfl rfl c_55
                                    refine ic_1 hx hb dX12_isOwn_216 ?_
                                    refine lv_goto (tgt := 221) hx hb dX12_isOwn_217 rfl ?_
                                    exact W.zret (v := 1) hx hb hr (by decide) (fun t ht _ => ⟨⟨1, G_38, rfl, (Q_isOwn_mk ⟨hB_G_38, hF, ⟨by decide, by decide⟩, ⟨y_1, ey_1.symm, ⟨y_2, ey_2, (Or.inr ⟨c_3, ⟨y_4, ey_4.symm, ⟨y_5, ey_5, (Or.inr ⟨c_6, ⟨y_7, ey_7.symm, ⟨y_8, ey_8, (Or.inr ⟨c_9, ⟨y_10, ey_10.symm, ⟨y_11, ey_11, (Or.inr ⟨c_12, ⟨y_13, ey_13.symm, ⟨y_14, ey_14, (Or.inr ⟨c_15, ⟨y_16, ey_16.symm, ⟨y_17, ey_17, (Or.inr ⟨c_18, ⟨y_19, ey_19.symm, ⟨y_20, ey_20, (Or.inr ⟨c_21, ⟨y_22, ey_22.symm, ⟨y_23, ey_23, (Or.inr ⟨c_24, ⟨y_25, ey_25.symm, ⟨y_26, ey_26, (Or.inr ⟨c_27, ⟨y_28, ey_28.symm, ⟨y_29, ey_29, (Or.inr ⟨c_30, ⟨y_31, ey_31.symm, ⟨y_32, ey_32, (Or.inr ⟨c_33, ⟨y_34, ey_34.symm, ⟨y_35, ey_35, (Or.inr ⟨c_36, ⟨r_37, G_38, hX_41, (Or.inr ⟨c_43, ⟨y_44, ey_44.symm.trans ((hq_39.l9 66 9 rfl rfl)), ⟨y_45, ey_45, (Or.inr ⟨c_46, ⟨y_47, ey_47.symm.trans ((hq_39.l9 66 9 rfl rfl)), ⟨y_48, ey_48, (Or.inr ⟨c_49, ⟨y_50, ey_50.symm.trans ((hq_39.l9 66 9 rfl rfl)), ⟨y_51, ey_51, (Or.inr ⟨c_52, ⟨y_53, ey_53.symm.trans ((hq_39.l9 66 9 rfl rfl)), ⟨y_54, ey_54, (Or.inl ⟨c_55, ⟨rfl, rfl⟩⟩)⟩⟩⟩)⟩⟩⟩)⟩⟩⟩)⟩⟩⟩)⟩⟩)⟩⟩⟩)⟩⟩⟩)⟩⟩⟩)⟩⟩⟩)⟩⟩⟩)⟩⟩⟩)⟩⟩⟩)⟩⟩⟩)⟩⟩⟩)⟩⟩⟩)⟩⟩⟩)⟩⟩⟩), wd_t ht hW⟩, hS.F ht⟩) hS.2.2 dX12_isOwn_221
                                  · have c_55 : y_54.toInt ≠ 0 := xI_ne rfl rfl c_55
                                    refine lv_aload_n hx hb dX12_isOwn_183 rfl (lv_at hl 0 rfl) ?_
                                    obtain ⟨y_56, ey_56⟩ : ∃ q, G_38.2.1 66 9 = q := ⟨_, rfl⟩
                                    refine S_getL (v := y_56) (C := RX12) (T := TX12) (N := 89) hx hb hg iX12 hown hK hW kd_66 rfl 9 (lt_b rfl) (hg (Cond.fieldLink RX12 198 "SlabWalkModel" "word" "J") m1323) (fun _ h9 => h9) rfl ey_56 dX12_isOwn_184 ?_
                                    refine lv_ldc2 (v := 6385252) hx hb hown (hg (Cond.constantLong RX12 257 6385252) m1667) dX12_isOwn_187 ?_
                                    refine W.lcmp hx hb dX12_isOwn_190 ?_
                                    refine lv_topi (fun y_57 ey_57 => ?_)
                                    have ty_57 := lcmp_rng ey_57
                                    refine lv_if_eq (tgt := 216) hx hb dX12_isOwn_191 rfl (fun c_58 => ?_) (fun c_58 => ?_)
                                    · have c_58 : y_57.toInt = 0 := xI_eq rfl rfl c_58
                                      refine ic_1 hx hb dX12_isOwn_216 ?_
                                      refine lv_goto (tgt := 221) hx hb dX12_isOwn_217 rfl ?_
                                      exact W.zret (v := 1) hx hb hr (by decide) (fun t ht _ => ⟨⟨1, G_38, rfl, (Q_isOwn_mk ⟨hB_G_38, hF, ⟨by decide, by decide⟩, ⟨y_1, ey_1.symm, ⟨y_2, ey_2, (Or.inr ⟨c_3, ⟨y_4, ey_4.symm, ⟨y_5, ey_5, (Or.inr ⟨c_6, ⟨y_7, ey_7.symm, ⟨y_8, ey_8, (Or.inr ⟨c_9, ⟨y_10, ey_10.symm, ⟨y_11, ey_11, (Or.inr ⟨c_12, ⟨y_13, ey_13.symm, ⟨y_14, ey_14, (Or.inr ⟨c_15, ⟨y_16, ey_16.symm, ⟨y_17, ey_17, (Or.inr ⟨c_18, ⟨y_19, ey_19.symm, ⟨y_20, ey_20, (Or.inr ⟨c_21, ⟨y_22, ey_22.symm, ⟨y_23, ey_23, (Or.inr ⟨c_24, ⟨y_25, ey_25.symm, ⟨y_26, ey_26, (Or.inr ⟨c_27, ⟨y_28, ey_28.symm, ⟨y_29, ey_29, (Or.inr ⟨c_30, ⟨y_31, ey_31.symm, ⟨y_32, ey_32, (Or.inr ⟨c_33, ⟨y_34, ey_34.symm, ⟨y_35, ey_35, (Or.inr ⟨c_36, ⟨r_37, G_38, hX_41, (Or.inr ⟨c_43, ⟨y_44, ey_44.symm.trans ((hq_39.l9 66 9 rfl rfl)), ⟨y_45, ey_45, (Or.inr ⟨c_46, ⟨y_47, ey_47.symm.trans ((hq_39.l9 66 9 rfl rfl)), ⟨y_48, ey_48, (Or.inr ⟨c_49, ⟨y_50, ey_50.symm.trans ((hq_39.l9 66 9 rfl rfl)), ⟨y_51, ey_51, (Or.inr ⟨c_52, ⟨y_53, ey_53.symm.trans ((hq_39.l9 66 9 rfl rfl)), ⟨y_54, ey_54, (Or.inr ⟨c_55, ⟨y_56, ey_56.symm.trans ((hq_39.l9 66 9 rfl rfl)), ⟨y_57, ey_57, (Or.inl ⟨c_58, ⟨rfl, rfl⟩⟩)⟩⟩⟩)⟩⟩⟩)⟩⟩⟩)⟩⟩⟩)⟩⟩⟩)⟩⟩)⟩⟩⟩)⟩⟩⟩)⟩⟩⟩)⟩⟩⟩)⟩⟩⟩)⟩⟩⟩)⟩⟩⟩)⟩⟩⟩)⟩⟩⟩)⟩⟩⟩)⟩⟩⟩)⟩⟩⟩), wd_t ht hW⟩, hS.F ht⟩) hS.2.2 dX12_isOwn_221
                                    · have c_58 : y_57.toInt ≠ 0 := xI_ne rfl rfl c_58
                                      refine lv_aload_n hx hb dX12_isOwn_194 rfl (lv_at hl 0 rfl) ?_
                                      obtain ⟨y_59, ey_59⟩ : ∃ q, G_38.2.1 66 9 = q := ⟨_, rfl⟩
                                      refine S_getL (v := y_59) (C := RX12) (T := TX12) (N := 89) hx hb hg iX12 hown hK hW kd_66 rfl 9 (lt_b rfl) (hg (Cond.fieldLink RX12 198 "SlabWalkModel" "word" "J") m1323) (fun _ h9 => h9) rfl ey_59 dX12_isOwn_195 ?_
                                      refine lv_ldc2 (v := 28530) hx hb hown (hg (Cond.constantLong RX12 259 28530) m1668) dX12_isOwn_198 ?_
                                      refine W.lcmp hx hb dX12_isOwn_201 ?_
                                      refine lv_topi (fun y_60 ey_60 => ?_)
                                      have ty_60 := lcmp_rng ey_60
                                      refine lv_if_eq (tgt := 216) hx hb dX12_isOwn_202 rfl (fun c_61 => ?_) (fun c_61 => ?_)
                                      · have c_61 : y_60.toInt = 0 := xI_eq rfl rfl c_61
                                        refine ic_1 hx hb dX12_isOwn_216 ?_
                                        refine lv_goto (tgt := 221) hx hb dX12_isOwn_217 rfl ?_
                                        exact W.zret (v := 1) hx hb hr (by decide) (fun t ht _ => ⟨⟨1, G_38, rfl, (Q_isOwn_mk ⟨hB_G_38, hF, ⟨by decide, by decide⟩, ⟨y_1, ey_1.symm, ⟨y_2, ey_2, (Or.inr ⟨c_3, ⟨y_4, ey_4.symm, ⟨y_5, ey_5, (Or.inr ⟨c_6, ⟨y_7, ey_7.symm, ⟨y_8, ey_8, (Or.inr ⟨c_9, ⟨y_10, ey_10.symm, ⟨y_11, ey_11, (Or.inr ⟨c_12, ⟨y_13, ey_13.symm, ⟨y_14, ey_14, (Or.inr ⟨c_15, ⟨y_16, ey_16.symm, ⟨y_17, ey_17, (Or.inr ⟨c_18, ⟨y_19, ey_19.symm, ⟨y_20, ey_20, (Or.inr ⟨c_21, ⟨y_22, ey_22.symm, ⟨y_23, ey_23, (Or.inr ⟨c_24, ⟨y_25, ey_25.symm, ⟨y_26, ey_26, (Or.inr ⟨c_27, ⟨y_28, ey_28.symm, ⟨y_29, ey_29, (Or.inr ⟨c_30, ⟨y_31, ey_31.symm, ⟨y_32, ey_32, (Or.inr ⟨c_33, ⟨y_34, ey_34.symm, ⟨y_35, ey_35, (Or.inr ⟨c_36, ⟨r_37, G_38, hX_41, (Or.inr ⟨c_43, ⟨y_44, ey_44.symm.trans ((hq_39.l9 66 9 rfl rfl)), ⟨y_45, ey_45, (Or.inr ⟨c_46, ⟨y_47, ey_47.symm.trans ((hq_39.l9 66 9 rfl rfl)), ⟨y_48, ey_48, (Or.inr ⟨c_49, ⟨y_50, ey_50.symm.trans ((hq_39.l9 66 9 rfl rfl)), ⟨y_51, ey_51, (Or.inr ⟨c_52, ⟨y_53, ey_53.symm.trans ((hq_39.l9 66 9 rfl rfl)), ⟨y_54, ey_54, (Or.inr ⟨c_55, ⟨y_56, ey_56.symm.trans ((hq_39.l9 66 9 rfl rfl)), ⟨y_57, ey_57, (Or.inr ⟨c_58, ⟨y_59, ey_59.symm.trans ((hq_39.l9 66 9 rfl rfl)), ⟨y_60, ey_60, (Or.inl ⟨c_61, ⟨rfl, rfl⟩⟩)⟩⟩⟩)⟩⟩⟩)⟩⟩⟩)⟩⟩⟩)⟩⟩⟩)⟩⟩⟩)⟩⟩)⟩⟩⟩)⟩⟩⟩)⟩⟩⟩)⟩⟩⟩)⟩⟩⟩)⟩⟩⟩)⟩⟩⟩)⟩⟩⟩)⟩⟩⟩)⟩⟩⟩)⟩⟩⟩)⟩⟩⟩), wd_t ht hW⟩, hS.F ht⟩) hS.2.2 dX12_isOwn_221
                                      · have c_61 : y_60.toInt ≠ 0 := xI_ne rfl rfl c_61
                                        refine lv_aload_n hx hb dX12_isOwn_205 rfl (lv_at hl 0 rfl) ?_
                                        obtain ⟨y_62, ey_62⟩ : ∃ q, G_38.2.1 66 9 = q := ⟨_, rfl⟩
                                        refine S_getL (v := y_62) (C := RX12) (T := TX12) (N := 89) hx hb hg iX12 hown hK hW kd_66 rfl 9 (lt_b rfl) (hg (Cond.fieldLink RX12 198 "SlabWalkModel" "word" "J") m1323) (fun _ h9 => h9) rfl ey_62 dX12_isOwn_206 ?_
                                        refine lv_ldc2 (v := 7237492) hx hb hown (hg (Cond.constantLong RX12 261 7237492) m1669) dX12_isOwn_209 ?_
                                        refine W.lcmp hx hb dX12_isOwn_212 ?_
                                        refine lv_topi (fun y_63 ey_63 => ?_)
                                        have ty_63 := lcmp_rng ey_63
                                        refine lv_if_ne (tgt := 220) hx hb dX12_isOwn_213 rfl (fun c_64 => ?_) (fun c_64 => ?_)
                                        · have c_64 : y_63.toInt ≠ 0 := xI_ne rfl rfl c_64
                                          refine ic_0 hx hb dX12_isOwn_220 ?_
                                          exact W.zret (v := 0) hx hb hr (by decide) (fun t ht _ => ⟨⟨0, G_38, rfl, (Q_isOwn_mk ⟨hB_G_38, hF, ⟨by decide, by decide⟩, ⟨y_1, ey_1.symm, ⟨y_2, ey_2, (Or.inr ⟨c_3, ⟨y_4, ey_4.symm, ⟨y_5, ey_5, (Or.inr ⟨c_6, ⟨y_7, ey_7.symm, ⟨y_8, ey_8, (Or.inr ⟨c_9, ⟨y_10, ey_10.symm, ⟨y_11, ey_11, (Or.inr ⟨c_12, ⟨y_13, ey_13.symm, ⟨y_14, ey_14, (Or.inr ⟨c_15, ⟨y_16, ey_16.symm, ⟨y_17, ey_17, (Or.inr ⟨c_18, ⟨y_19, ey_19.symm, ⟨y_20, ey_20, (Or.inr ⟨c_21, ⟨y_22, ey_22.symm, ⟨y_23, ey_23, (Or.inr ⟨c_24, ⟨y_25, ey_25.symm, ⟨y_26, ey_26, (Or.inr ⟨c_27, ⟨y_28, ey_28.symm, ⟨y_29, ey_29, (Or.inr ⟨c_30, ⟨y_31, ey_31.symm, ⟨y_32, ey_32, (Or.inr ⟨c_33, ⟨y_34, ey_34.symm, ⟨y_35, ey_35, (Or.inr ⟨c_36, ⟨r_37, G_38, hX_41, (Or.inr ⟨c_43, ⟨y_44, ey_44.symm.trans ((hq_39.l9 66 9 rfl rfl)), ⟨y_45, ey_45, (Or.inr ⟨c_46, ⟨y_47, ey_47.symm.trans ((hq_39.l9 66 9 rfl rfl)), ⟨y_48, ey_48, (Or.inr ⟨c_49, ⟨y_50, ey_50.symm.trans ((hq_39.l9 66 9 rfl rfl)), ⟨y_51, ey_51, (Or.inr ⟨c_52, ⟨y_53, ey_53.symm.trans ((hq_39.l9 66 9 rfl rfl)), ⟨y_54, ey_54, (Or.inr ⟨c_55, ⟨y_56, ey_56.symm.trans ((hq_39.l9 66 9 rfl rfl)), ⟨y_57, ey_57, (Or.inr ⟨c_58, ⟨y_59, ey_59.symm.trans ((hq_39.l9 66 9 rfl rfl)), ⟨y_60, ey_60, (Or.inr ⟨c_61, ⟨y_62, ey_62.symm.trans ((hq_39.l9 66 9 rfl rfl)), ⟨y_63, ey_63, (Or.inr ⟨c_64, ⟨rfl, rfl⟩⟩)⟩⟩⟩)⟩⟩⟩)⟩⟩⟩)⟩⟩⟩)⟩⟩⟩)⟩⟩⟩)⟩⟩⟩)⟩⟩)⟩⟩⟩)⟩⟩⟩)⟩⟩⟩)⟩⟩⟩)⟩⟩⟩)⟩⟩⟩)⟩⟩⟩)⟩⟩⟩)⟩⟩⟩)⟩⟩⟩)⟩⟩⟩)⟩⟩⟩), wd_t ht hW⟩, hS.F ht⟩) hS.2.2 dX12_isOwn_221
                                        · have c_64 : y_63.toInt = 0 := xI_eq rfl rfl c_64
                                          refine ic_1 hx hb dX12_isOwn_216 ?_
                                          refine lv_goto (tgt := 221) hx hb dX12_isOwn_217 rfl ?_
                                          exact W.zret (v := 1) hx hb hr (by decide) (fun t ht _ => ⟨⟨1, G_38, rfl, (Q_isOwn_mk ⟨hB_G_38, hF, ⟨by decide, by decide⟩, ⟨y_1, ey_1.symm, ⟨y_2, ey_2, (Or.inr ⟨c_3, ⟨y_4, ey_4.symm, ⟨y_5, ey_5, (Or.inr ⟨c_6, ⟨y_7, ey_7.symm, ⟨y_8, ey_8, (Or.inr ⟨c_9, ⟨y_10, ey_10.symm, ⟨y_11, ey_11, (Or.inr ⟨c_12, ⟨y_13, ey_13.symm, ⟨y_14, ey_14, (Or.inr ⟨c_15, ⟨y_16, ey_16.symm, ⟨y_17, ey_17, (Or.inr ⟨c_18, ⟨y_19, ey_19.symm, ⟨y_20, ey_20, (Or.inr ⟨c_21, ⟨y_22, ey_22.symm, ⟨y_23, ey_23, (Or.inr ⟨c_24, ⟨y_25, ey_25.symm, ⟨y_26, ey_26, (Or.inr ⟨c_27, ⟨y_28, ey_28.symm, ⟨y_29, ey_29, (Or.inr ⟨c_30, ⟨y_31, ey_31.symm, ⟨y_32, ey_32, (Or.inr ⟨c_33, ⟨y_34, ey_34.symm, ⟨y_35, ey_35, (Or.inr ⟨c_36, ⟨r_37, G_38, hX_41, (Or.inr ⟨c_43, ⟨y_44, ey_44.symm.trans ((hq_39.l9 66 9 rfl rfl)), ⟨y_45, ey_45, (Or.inr ⟨c_46, ⟨y_47, ey_47.symm.trans ((hq_39.l9 66 9 rfl rfl)), ⟨y_48, ey_48, (Or.inr ⟨c_49, ⟨y_50, ey_50.symm.trans ((hq_39.l9 66 9 rfl rfl)), ⟨y_51, ey_51, (Or.inr ⟨c_52, ⟨y_53, ey_53.symm.trans ((hq_39.l9 66 9 rfl rfl)), ⟨y_54, ey_54, (Or.inr ⟨c_55, ⟨y_56, ey_56.symm.trans ((hq_39.l9 66 9 rfl rfl)), ⟨y_57, ey_57, (Or.inr ⟨c_58, ⟨y_59, ey_59.symm.trans ((hq_39.l9 66 9 rfl rfl)), ⟨y_60, ey_60, (Or.inr ⟨c_61, ⟨y_62, ey_62.symm.trans ((hq_39.l9 66 9 rfl rfl)), ⟨y_63, ey_63, (Or.inl ⟨c_64, ⟨rfl, rfl⟩⟩)⟩⟩⟩)⟩⟩⟩)⟩⟩⟩)⟩⟩⟩)⟩⟩⟩)⟩⟩⟩)⟩⟩⟩)⟩⟩)⟩⟩⟩)⟩⟩⟩)⟩⟩⟩)⟩⟩⟩)⟩⟩⟩)⟩⟩⟩)⟩⟩⟩)⟩⟩⟩)⟩⟩⟩)⟩⟩⟩)⟩⟩⟩)⟩⟩⟩), wd_t ht hW⟩, hS.F ht⟩) hS.2.2 dX12_isOwn_221

theorem m50 : Cond.selects RX12 yX12_token yX12_token ∈ gd := gds_4 2 rfl
theorem m53 : Cond.selects RX12 yX12_isWord yX12_isWord ∈ gd := gds_4 5 rfl
theorem m56 : Cond.selects RX12 yX12_isName yX12_isName ∈ gd := gds_4 8 rfl
theorem m57 : Cond.selects RX12 yX12_isOwn yX12_isOwn ∈ gd := gds_4 9 rfl
theorem m59 : Cond.selects RX12 yX12_wrong yX12_wrong ∈ gd := gds_4 11 rfl
theorem m61 : Cond.selects RX12 yX12_want yX12_want ∈ gd := gds_4 13 rfl
theorem m62 : Cond.selects RX12 yX12_toldNumber yX12_toldNumber ∈ gd := gds_4 14 rfl
theorem m1324 : Cond.fieldLink RX12 17 "SlabWalkModel" "nName" "[J" ∈ gd := gdc_6_0 8 rfl gw_fieldLink
theorem m1602 : Cond.methodLink RX12 279 yX12_token ∈ gd := gdc_7_2 14 rfl gw_methodLink
theorem m1604 : Cond.instanceMethod yX12_token ∈ gd := gdc_7_3 0 rfl gw_instanceMethod
theorem m1605 : Cond.code yX12_token cX12_token 3 none ∈ gd := gdc_7_3 1 rfl gw_code
theorem m1624 : Cond.methodLink RX12 275 yX12_isWord ∈ gd := gdc_7_4 4 rfl gw_methodLink
theorem m1626 : Cond.instanceMethod yX12_isWord ∈ gd := gdc_7_4 6 rfl gw_instanceMethod
theorem m1627 : Cond.code yX12_isWord cX12_isWord 3 (some .boolean) ∈ gd := gdc_7_4 7 rfl gw_code
theorem m1636 : Cond.methodLink RX12 293 yX12_isName ∈ gd := gdc_7_5 0 rfl gw_methodLink
theorem m1638 : Cond.instanceMethod yX12_isName ∈ gd := gdc_7_5 2 rfl gw_instanceMethod
theorem m1639 : Cond.code yX12_isName cX12_isName 1 (some .boolean) ∈ gd := gdc_7_5 3 rfl gw_code
theorem m1640 : Cond.methodLink RX12 271 yX12_isOwn ∈ gd := gdc_7_5 4 rfl gw_methodLink
theorem m1642 : Cond.instanceMethod yX12_isOwn ∈ gd := gdc_7_5 6 rfl gw_instanceMethod
theorem m1643 : Cond.code yX12_isOwn cX12_isOwn 1 (some .boolean) ∈ gd := gdc_7_5 7 rfl gw_code
theorem m1670 : Cond.methodLink RX12 282 yX12_wrong ∈ gd := gdc_7_7 2 rfl gw_methodLink
theorem m1672 : Cond.instanceMethod yX12_wrong ∈ gd := gdc_7_7 4 rfl gw_instanceMethod
theorem m1673 : Cond.code yX12_wrong cX12_wrong 2 none ∈ gd := gdc_7_7 5 rfl gw_code
theorem m1678 : Cond.methodLink RX12 285 yX12_want ∈ gd := gdc_7_7 10 rfl gw_methodLink
theorem m1680 : Cond.instanceMethod yX12_want ∈ gd := gdc_7_7 12 rfl gw_instanceMethod
theorem m1681 : Cond.code yX12_want cX12_want 3 none ∈ gd := gdc_7_7 13 rfl gw_code
theorem m1682 : Cond.methodLink RX12 289 yX12_toldNumber ∈ gd := gdc_7_7 14 rfl gw_methodLink
theorem m1684 : Cond.instanceMethod yX12_toldNumber ∈ gd := gdc_7_8 0 rfl gw_instanceMethod
theorem m1685 : Cond.code yX12_toldNumber cX12_toldNumber 4 (some .int) ∈ gd := gdc_7_8 1 rfl gw_code
noncomputable def rbX12_isName_0 : List (Nat × List Nat) := [(0, [42]), (1, [180, 0, 205]), (4, [4]), (5, [160, 0, 14]), (8, [42]), (9, [182, 1, 15]), (12, [154, 0, 7]), (15, [4]), (16, [167, 0, 4]), (19, [3]), (20, [172])]
theorem rcX12_isName_0 : dgo (lb cX12_isName) 0 rbX12_isName_0 = true := by decide +kernel
theorem dX12_isName_0 : decode cX12_isName 0 = .ok (.aload_n 0, 1) := dk_42 (dw rcX12_isName_0 0 rfl)
theorem dX12_isName_1 : decode cX12_isName 1 = .ok (.getfield 205, 3) := dk_180 (dw rcX12_isName_0 1 rfl) rfl
theorem dX12_isName_4 : decode cX12_isName 4 = .ok (.iconst 1, 1) := dk_4 (dw rcX12_isName_0 2 rfl)
theorem dX12_isName_5 : decode cX12_isName 5 = .ok (.if_icmp .ne 14, 3) := dk_160 (dw rcX12_isName_0 3 rfl) rfl
theorem dX12_isName_8 : decode cX12_isName 8 = .ok (.aload_n 0, 1) := dk_42 (dw rcX12_isName_0 4 rfl)
theorem dX12_isName_9 : decode cX12_isName 9 = .ok (.invokevirtual 271, 3) := dk_182 (dw rcX12_isName_0 5 rfl) rfl
theorem dX12_isName_12 : decode cX12_isName 12 = .ok (.ifCond .ne 7, 3) := dk_154 (dw rcX12_isName_0 6 rfl) rfl
theorem dX12_isName_15 : decode cX12_isName 15 = .ok (.iconst 1, 1) := dk_4 (dw rcX12_isName_0 7 rfl)
theorem dX12_isName_16 : decode cX12_isName 16 = .ok (.goto 4, 3) := dk_167 (dw rcX12_isName_0 8 rfl) rfl
theorem dX12_isName_19 : decode cX12_isName 19 = .ok (.iconst 0, 1) := dk_3 (dw rcX12_isName_0 9 rfl)
theorem dX12_isName_20 : decode cX12_isName 20 = .ok (.ireturn, 1) := dk_172 (dw rcX12_isName_0 10 rfl)
noncomputable def rbX12_newName_0 : List (Nat × List Nat) := [(0, [42]), (1, [182, 1, 23]), (4, [42]), (5, [182, 1, 37]), (8, [154, 0, 8]), (11, [42]), (12, [5]), (13, [182, 1, 26]), (16, [3]), (17, [62]), (18, [29]), (19, [28]), (20, [162, 0, 37]), (23, [42]), (24, [180, 0, 218]), (27, [154, 0, 24]), (30, [42]), (31, [180, 0, 17]), (34, [27]), (35, [29]), (36, [96]), (37, [47]), (38, [42]), (39, [180, 0, 198])]
theorem rcX12_newName_0 : dgo (lb cX12_newName) 0 rbX12_newName_0 = true := by decide +kernel
theorem dX12_newName_0 : decode cX12_newName 0 = .ok (.aload_n 0, 1) := dk_42 (dw rcX12_newName_0 0 rfl)
theorem dX12_newName_1 : decode cX12_newName 1 = .ok (.invokevirtual 279, 3) := dk_182 (dw rcX12_newName_0 1 rfl) rfl
theorem dX12_newName_4 : decode cX12_newName 4 = .ok (.aload_n 0, 1) := dk_42 (dw rcX12_newName_0 2 rfl)
theorem dX12_newName_5 : decode cX12_newName 5 = .ok (.invokevirtual 293, 3) := dk_182 (dw rcX12_newName_0 3 rfl) rfl
theorem dX12_newName_8 : decode cX12_newName 8 = .ok (.ifCond .ne 8, 3) := dk_154 (dw rcX12_newName_0 4 rfl) rfl
theorem dX12_newName_11 : decode cX12_newName 11 = .ok (.aload_n 0, 1) := dk_42 (dw rcX12_newName_0 5 rfl)
theorem dX12_newName_12 : decode cX12_newName 12 = .ok (.iconst 2, 1) := dk_5 (dw rcX12_newName_0 6 rfl)
theorem dX12_newName_13 : decode cX12_newName 13 = .ok (.invokevirtual 282, 3) := dk_182 (dw rcX12_newName_0 7 rfl) rfl
theorem dX12_newName_16 : decode cX12_newName 16 = .ok (.iconst 0, 1) := dk_3 (dw rcX12_newName_0 8 rfl)
theorem dX12_newName_17 : decode cX12_newName 17 = .ok (.istore_n 3, 1) := dk_62 (dw rcX12_newName_0 9 rfl)
theorem dX12_newName_18 : decode cX12_newName 18 = .ok (.iload_n 3, 1) := dk_29 (dw rcX12_newName_0 10 rfl)
theorem dX12_newName_19 : decode cX12_newName 19 = .ok (.iload_n 2, 1) := dk_28 (dw rcX12_newName_0 11 rfl)
theorem dX12_newName_20 : decode cX12_newName 20 = .ok (.if_icmp .ge 37, 3) := dk_162 (dw rcX12_newName_0 12 rfl) rfl
theorem dX12_newName_23 : decode cX12_newName 23 = .ok (.aload_n 0, 1) := dk_42 (dw rcX12_newName_0 13 rfl)
theorem dX12_newName_24 : decode cX12_newName 24 = .ok (.getfield 218, 3) := dk_180 (dw rcX12_newName_0 14 rfl) rfl
theorem dX12_newName_27 : decode cX12_newName 27 = .ok (.ifCond .ne 24, 3) := dk_154 (dw rcX12_newName_0 15 rfl) rfl
theorem dX12_newName_30 : decode cX12_newName 30 = .ok (.aload_n 0, 1) := dk_42 (dw rcX12_newName_0 16 rfl)
theorem dX12_newName_31 : decode cX12_newName 31 = .ok (.getfield 17, 3) := dk_180 (dw rcX12_newName_0 17 rfl) rfl
theorem dX12_newName_34 : decode cX12_newName 34 = .ok (.iload_n 1, 1) := dk_27 (dw rcX12_newName_0 18 rfl)
theorem dX12_newName_35 : decode cX12_newName 35 = .ok (.iload_n 3, 1) := dk_29 (dw rcX12_newName_0 19 rfl)
theorem dX12_newName_36 : decode cX12_newName 36 = .ok (.iadd, 1) := dk_96 (dw rcX12_newName_0 20 rfl)
theorem dX12_newName_37 : decode cX12_newName 37 = .ok (.laload, 1) := dk_47 (dw rcX12_newName_0 21 rfl)
theorem dX12_newName_38 : decode cX12_newName 38 = .ok (.aload_n 0, 1) := dk_42 (dw rcX12_newName_0 22 rfl)
theorem dX12_newName_39 : decode cX12_newName 39 = .ok (.getfield 198, 3) := dk_180 (dw rcX12_newName_0 23 rfl) rfl
noncomputable def rbX12_newName_42 : List (Nat × List Nat) := [(42, [148]), (43, [154, 0, 8]), (46, [42]), (47, [6]), (48, [182, 1, 26]), (51, [132, 3, 1]), (54, [167, 255, 220]), (57, [42]), (58, [180, 0, 218]), (61, [158, 0, 4]), (64, [177]), (65, [42]), (66, [180, 0, 17]), (69, [27]), (70, [28]), (71, [96]), (72, [42]), (73, [180, 0, 198]), (76, [80]), (77, [42]), (78, [182, 1, 23]), (81, [177])]
theorem rcX12_newName_42 : dgo (lb cX12_newName) 0 rbX12_newName_42 = true := by decide +kernel
theorem dX12_newName_42 : decode cX12_newName 42 = .ok (.lcmp, 1) := dk_148 (dw rcX12_newName_42 0 rfl)
theorem dX12_newName_43 : decode cX12_newName 43 = .ok (.ifCond .ne 8, 3) := dk_154 (dw rcX12_newName_42 1 rfl) rfl
theorem dX12_newName_46 : decode cX12_newName 46 = .ok (.aload_n 0, 1) := dk_42 (dw rcX12_newName_42 2 rfl)
theorem dX12_newName_47 : decode cX12_newName 47 = .ok (.iconst 3, 1) := dk_6 (dw rcX12_newName_42 3 rfl)
theorem dX12_newName_48 : decode cX12_newName 48 = .ok (.invokevirtual 282, 3) := dk_182 (dw rcX12_newName_42 4 rfl) rfl
theorem dX12_newName_51 : decode cX12_newName 51 = .ok (.iinc 3 1, 3) := dk_132 (dw rcX12_newName_42 5 rfl) rfl
theorem dX12_newName_54 : decode cX12_newName 54 = .ok (.goto (-36), 3) := dk_167 (dw rcX12_newName_42 6 rfl) rfl
theorem dX12_newName_57 : decode cX12_newName 57 = .ok (.aload_n 0, 1) := dk_42 (dw rcX12_newName_42 7 rfl)
theorem dX12_newName_58 : decode cX12_newName 58 = .ok (.getfield 218, 3) := dk_180 (dw rcX12_newName_42 8 rfl) rfl
theorem dX12_newName_61 : decode cX12_newName 61 = .ok (.ifCond .le 4, 3) := dk_158 (dw rcX12_newName_42 9 rfl) rfl
theorem dX12_newName_64 : decode cX12_newName 64 = .ok (.return_, 1) := dk_177 (dw rcX12_newName_42 10 rfl)
theorem dX12_newName_65 : decode cX12_newName 65 = .ok (.aload_n 0, 1) := dk_42 (dw rcX12_newName_42 11 rfl)
theorem dX12_newName_66 : decode cX12_newName 66 = .ok (.getfield 17, 3) := dk_180 (dw rcX12_newName_42 12 rfl) rfl
theorem dX12_newName_69 : decode cX12_newName 69 = .ok (.iload_n 1, 1) := dk_27 (dw rcX12_newName_42 13 rfl)
theorem dX12_newName_70 : decode cX12_newName 70 = .ok (.iload_n 2, 1) := dk_28 (dw rcX12_newName_42 14 rfl)
theorem dX12_newName_71 : decode cX12_newName 71 = .ok (.iadd, 1) := dk_96 (dw rcX12_newName_42 15 rfl)
theorem dX12_newName_72 : decode cX12_newName 72 = .ok (.aload_n 0, 1) := dk_42 (dw rcX12_newName_42 16 rfl)
theorem dX12_newName_73 : decode cX12_newName 73 = .ok (.getfield 198, 3) := dk_180 (dw rcX12_newName_42 17 rfl) rfl
theorem dX12_newName_76 : decode cX12_newName 76 = .ok (.lastore, 1) := dk_80 (dw rcX12_newName_42 18 rfl)
theorem dX12_newName_77 : decode cX12_newName 77 = .ok (.aload_n 0, 1) := dk_42 (dw rcX12_newName_42 19 rfl)
theorem dX12_newName_78 : decode cX12_newName 78 = .ok (.invokevirtual 279, 3) := dk_182 (dw rcX12_newName_42 20 rfl) rfl
theorem dX12_newName_81 : decode cX12_newName 81 = .ok (.return_, 1) := dk_177 (dw rcX12_newName_42 21 rfl)
noncomputable def rbX12_takes_0 : List (Nat × List Nat) := [(0, [42]), (1, [180, 0, 218]), (4, [154, 0, 15]), (7, [42]), (8, [31]), (9, [182, 1, 19]), (12, [153, 0, 7]), (15, [4]), (16, [167, 0, 4]), (19, [3]), (20, [62]), (21, [29]), (22, [153, 0, 7]), (25, [42]), (26, [182, 1, 23]), (29, [29]), (30, [172])]
theorem rcX12_takes_0 : dgo (lb cX12_takes) 0 rbX12_takes_0 = true := by decide +kernel
theorem dX12_takes_0 : decode cX12_takes 0 = .ok (.aload_n 0, 1) := dk_42 (dw rcX12_takes_0 0 rfl)
theorem dX12_takes_1 : decode cX12_takes 1 = .ok (.getfield 218, 3) := dk_180 (dw rcX12_takes_0 1 rfl) rfl
theorem dX12_takes_4 : decode cX12_takes 4 = .ok (.ifCond .ne 15, 3) := dk_154 (dw rcX12_takes_0 2 rfl) rfl
theorem dX12_takes_7 : decode cX12_takes 7 = .ok (.aload_n 0, 1) := dk_42 (dw rcX12_takes_0 3 rfl)
theorem dX12_takes_8 : decode cX12_takes 8 = .ok (.lload_n 1, 1) := dk_31 (dw rcX12_takes_0 4 rfl)
theorem dX12_takes_9 : decode cX12_takes 9 = .ok (.invokevirtual 275, 3) := dk_182 (dw rcX12_takes_0 5 rfl) rfl
theorem dX12_takes_12 : decode cX12_takes 12 = .ok (.ifCond .eq 7, 3) := dk_153 (dw rcX12_takes_0 6 rfl) rfl
theorem dX12_takes_15 : decode cX12_takes 15 = .ok (.iconst 1, 1) := dk_4 (dw rcX12_takes_0 7 rfl)
theorem dX12_takes_16 : decode cX12_takes 16 = .ok (.goto 4, 3) := dk_167 (dw rcX12_takes_0 8 rfl) rfl
theorem dX12_takes_19 : decode cX12_takes 19 = .ok (.iconst 0, 1) := dk_3 (dw rcX12_takes_0 9 rfl)
theorem dX12_takes_20 : decode cX12_takes 20 = .ok (.istore_n 3, 1) := dk_62 (dw rcX12_takes_0 10 rfl)
theorem dX12_takes_21 : decode cX12_takes 21 = .ok (.iload_n 3, 1) := dk_29 (dw rcX12_takes_0 11 rfl)
theorem dX12_takes_22 : decode cX12_takes 22 = .ok (.ifCond .eq 7, 3) := dk_153 (dw rcX12_takes_0 12 rfl) rfl
theorem dX12_takes_25 : decode cX12_takes 25 = .ok (.aload_n 0, 1) := dk_42 (dw rcX12_takes_0 13 rfl)
theorem dX12_takes_26 : decode cX12_takes 26 = .ok (.invokevirtual 279, 3) := dk_182 (dw rcX12_takes_0 14 rfl) rfl
theorem dX12_takes_29 : decode cX12_takes 29 = .ok (.iload_n 3, 1) := dk_29 (dw rcX12_takes_0 15 rfl)
theorem dX12_takes_30 : decode cX12_takes 30 = .ok (.ireturn, 1) := dk_172 (dw rcX12_takes_0 16 rfl)
noncomputable def rbX12_told_0 : List (Nat × List Nat) := [(0, [42]), (1, [31]), (2, [182, 1, 29]), (5, [42]), (6, [29]), (7, [21, 4]), (9, [182, 1, 33]), (12, [172])]
theorem rcX12_told_0 : dgo (lb cX12_told) 0 rbX12_told_0 = true := by decide +kernel
theorem dX12_told_0 : decode cX12_told 0 = .ok (.aload_n 0, 1) := dk_42 (dw rcX12_told_0 0 rfl)
theorem dX12_told_1 : decode cX12_told 1 = .ok (.lload_n 1, 1) := dk_31 (dw rcX12_told_0 1 rfl)
theorem dX12_told_2 : decode cX12_told 2 = .ok (.invokevirtual 285, 3) := dk_182 (dw rcX12_told_0 2 rfl) rfl
theorem dX12_told_5 : decode cX12_told 5 = .ok (.aload_n 0, 1) := dk_42 (dw rcX12_told_0 3 rfl)
theorem dX12_told_6 : decode cX12_told 6 = .ok (.iload_n 3, 1) := dk_29 (dw rcX12_told_0 4 rfl)
theorem dX12_told_7 : decode cX12_told 7 = .ok (.iload 4, 2) := dk_21 (dw rcX12_told_0 5 rfl)
theorem dX12_told_9 : decode cX12_told 9 = .ok (.invokevirtual 289, 3) := dk_182 (dw rcX12_told_0 6 rfl) rfl
theorem dX12_told_12 : decode cX12_told 12 = .ok (.ireturn, 1) := dk_172 (dw rcX12_told_0 7 rfl)
noncomputable def rbX12_toldNumber_0 : List (Nat × List Nat) := [(0, [42]), (1, [180, 0, 218]), (4, [158, 0, 5]), (7, [3]), (8, [172]), (9, [42]), (10, [180, 0, 205]), (13, [5]), (14, [159, 0, 11]), (17, [42]), (18, [5]), (19, [182, 1, 26]), (22, [167, 0, 24]), (25, [42]), (26, [180, 0, 202]), (29, [27]), (30, [161, 0, 11]), (33, [42]), (34, [180, 0, 202]), (37, [28]), (38, [164, 0, 8]), (41, [42]), (42, [7]), (43, [182, 1, 26])]
theorem rcX12_toldNumber_0 : dgo (lb cX12_toldNumber) 0 rbX12_toldNumber_0 = true := by decide +kernel
theorem dX12_toldNumber_0 : decode cX12_toldNumber 0 = .ok (.aload_n 0, 1) := dk_42 (dw rcX12_toldNumber_0 0 rfl)
theorem dX12_toldNumber_1 : decode cX12_toldNumber 1 = .ok (.getfield 218, 3) := dk_180 (dw rcX12_toldNumber_0 1 rfl) rfl
theorem dX12_toldNumber_4 : decode cX12_toldNumber 4 = .ok (.ifCond .le 5, 3) := dk_158 (dw rcX12_toldNumber_0 2 rfl) rfl
theorem dX12_toldNumber_7 : decode cX12_toldNumber 7 = .ok (.iconst 0, 1) := dk_3 (dw rcX12_toldNumber_0 3 rfl)
theorem dX12_toldNumber_8 : decode cX12_toldNumber 8 = .ok (.ireturn, 1) := dk_172 (dw rcX12_toldNumber_0 4 rfl)
theorem dX12_toldNumber_9 : decode cX12_toldNumber 9 = .ok (.aload_n 0, 1) := dk_42 (dw rcX12_toldNumber_0 5 rfl)
theorem dX12_toldNumber_10 : decode cX12_toldNumber 10 = .ok (.getfield 205, 3) := dk_180 (dw rcX12_toldNumber_0 6 rfl) rfl
theorem dX12_toldNumber_13 : decode cX12_toldNumber 13 = .ok (.iconst 2, 1) := dk_5 (dw rcX12_toldNumber_0 7 rfl)
theorem dX12_toldNumber_14 : decode cX12_toldNumber 14 = .ok (.if_icmp .eq 11, 3) := dk_159 (dw rcX12_toldNumber_0 8 rfl) rfl
theorem dX12_toldNumber_17 : decode cX12_toldNumber 17 = .ok (.aload_n 0, 1) := dk_42 (dw rcX12_toldNumber_0 9 rfl)
theorem dX12_toldNumber_18 : decode cX12_toldNumber 18 = .ok (.iconst 2, 1) := dk_5 (dw rcX12_toldNumber_0 10 rfl)
theorem dX12_toldNumber_19 : decode cX12_toldNumber 19 = .ok (.invokevirtual 282, 3) := dk_182 (dw rcX12_toldNumber_0 11 rfl) rfl
theorem dX12_toldNumber_22 : decode cX12_toldNumber 22 = .ok (.goto 24, 3) := dk_167 (dw rcX12_toldNumber_0 12 rfl) rfl
theorem dX12_toldNumber_25 : decode cX12_toldNumber 25 = .ok (.aload_n 0, 1) := dk_42 (dw rcX12_toldNumber_0 13 rfl)
theorem dX12_toldNumber_26 : decode cX12_toldNumber 26 = .ok (.getfield 202, 3) := dk_180 (dw rcX12_toldNumber_0 14 rfl) rfl
theorem dX12_toldNumber_29 : decode cX12_toldNumber 29 = .ok (.iload_n 1, 1) := dk_27 (dw rcX12_toldNumber_0 15 rfl)
theorem dX12_toldNumber_30 : decode cX12_toldNumber 30 = .ok (.if_icmp .lt 11, 3) := dk_161 (dw rcX12_toldNumber_0 16 rfl) rfl
theorem dX12_toldNumber_33 : decode cX12_toldNumber 33 = .ok (.aload_n 0, 1) := dk_42 (dw rcX12_toldNumber_0 17 rfl)
theorem dX12_toldNumber_34 : decode cX12_toldNumber 34 = .ok (.getfield 202, 3) := dk_180 (dw rcX12_toldNumber_0 18 rfl) rfl
theorem dX12_toldNumber_37 : decode cX12_toldNumber 37 = .ok (.iload_n 2, 1) := dk_28 (dw rcX12_toldNumber_0 19 rfl)
theorem dX12_toldNumber_38 : decode cX12_toldNumber 38 = .ok (.if_icmp .le 8, 3) := dk_164 (dw rcX12_toldNumber_0 20 rfl) rfl
theorem dX12_toldNumber_41 : decode cX12_toldNumber 41 = .ok (.aload_n 0, 1) := dk_42 (dw rcX12_toldNumber_0 21 rfl)
theorem dX12_toldNumber_42 : decode cX12_toldNumber 42 = .ok (.iconst 4, 1) := dk_7 (dw rcX12_toldNumber_0 22 rfl)
theorem dX12_toldNumber_43 : decode cX12_toldNumber 43 = .ok (.invokevirtual 282, 3) := dk_182 (dw rcX12_toldNumber_0 23 rfl) rfl
noncomputable def rbX12_toldNumber_46 : List (Nat × List Nat) := [(46, [42]), (47, [180, 0, 202]), (50, [62]), (51, [42]), (52, [180, 0, 218]), (55, [154, 0, 7]), (58, [42]), (59, [182, 1, 23]), (62, [29]), (63, [172])]
theorem rcX12_toldNumber_46 : dgo (lb cX12_toldNumber) 0 rbX12_toldNumber_46 = true := by decide +kernel
theorem dX12_toldNumber_46 : decode cX12_toldNumber 46 = .ok (.aload_n 0, 1) := dk_42 (dw rcX12_toldNumber_46 0 rfl)
theorem dX12_toldNumber_47 : decode cX12_toldNumber 47 = .ok (.getfield 202, 3) := dk_180 (dw rcX12_toldNumber_46 1 rfl) rfl
theorem dX12_toldNumber_50 : decode cX12_toldNumber 50 = .ok (.istore_n 3, 1) := dk_62 (dw rcX12_toldNumber_46 2 rfl)
theorem dX12_toldNumber_51 : decode cX12_toldNumber 51 = .ok (.aload_n 0, 1) := dk_42 (dw rcX12_toldNumber_46 3 rfl)
theorem dX12_toldNumber_52 : decode cX12_toldNumber 52 = .ok (.getfield 218, 3) := dk_180 (dw rcX12_toldNumber_46 4 rfl) rfl
theorem dX12_toldNumber_55 : decode cX12_toldNumber 55 = .ok (.ifCond .ne 7, 3) := dk_154 (dw rcX12_toldNumber_46 5 rfl) rfl
theorem dX12_toldNumber_58 : decode cX12_toldNumber 58 = .ok (.aload_n 0, 1) := dk_42 (dw rcX12_toldNumber_46 6 rfl)
theorem dX12_toldNumber_59 : decode cX12_toldNumber 59 = .ok (.invokevirtual 279, 3) := dk_182 (dw rcX12_toldNumber_46 7 rfl) rfl
theorem dX12_toldNumber_62 : decode cX12_toldNumber 62 = .ok (.iload_n 3, 1) := dk_29 (dw rcX12_toldNumber_46 8 rfl)
theorem dX12_toldNumber_63 : decode cX12_toldNumber 63 = .ok (.ireturn, 1) := dk_172 (dw rcX12_toldNumber_46 9 rfl)
noncomputable def rbX12_want_0 : List (Nat × List Nat) := [(0, [42]), (1, [180, 0, 218]), (4, [158, 0, 4]), (7, [177]), (8, [42]), (9, [31]), (10, [182, 1, 19]), (13, [154, 0, 11]), (16, [42]), (17, [5]), (18, [182, 1, 26]), (21, [167, 0, 7]), (24, [42]), (25, [182, 1, 23]), (28, [177])]
theorem rcX12_want_0 : dgo (lb cX12_want) 0 rbX12_want_0 = true := by decide +kernel
theorem dX12_want_0 : decode cX12_want 0 = .ok (.aload_n 0, 1) := dk_42 (dw rcX12_want_0 0 rfl)
theorem dX12_want_1 : decode cX12_want 1 = .ok (.getfield 218, 3) := dk_180 (dw rcX12_want_0 1 rfl) rfl
theorem dX12_want_4 : decode cX12_want 4 = .ok (.ifCond .le 4, 3) := dk_158 (dw rcX12_want_0 2 rfl) rfl
theorem dX12_want_7 : decode cX12_want 7 = .ok (.return_, 1) := dk_177 (dw rcX12_want_0 3 rfl)
theorem dX12_want_8 : decode cX12_want 8 = .ok (.aload_n 0, 1) := dk_42 (dw rcX12_want_0 4 rfl)
theorem dX12_want_9 : decode cX12_want 9 = .ok (.lload_n 1, 1) := dk_31 (dw rcX12_want_0 5 rfl)
theorem dX12_want_10 : decode cX12_want 10 = .ok (.invokevirtual 275, 3) := dk_182 (dw rcX12_want_0 6 rfl) rfl
theorem dX12_want_13 : decode cX12_want 13 = .ok (.ifCond .ne 11, 3) := dk_154 (dw rcX12_want_0 7 rfl) rfl
theorem dX12_want_16 : decode cX12_want 16 = .ok (.aload_n 0, 1) := dk_42 (dw rcX12_want_0 8 rfl)
theorem dX12_want_17 : decode cX12_want 17 = .ok (.iconst 2, 1) := dk_5 (dw rcX12_want_0 9 rfl)
theorem dX12_want_18 : decode cX12_want 18 = .ok (.invokevirtual 282, 3) := dk_182 (dw rcX12_want_0 10 rfl) rfl
theorem dX12_want_21 : decode cX12_want 21 = .ok (.goto 7, 3) := dk_167 (dw rcX12_want_0 11 rfl) rfl
theorem dX12_want_24 : decode cX12_want 24 = .ok (.aload_n 0, 1) := dk_42 (dw rcX12_want_0 12 rfl)
theorem dX12_want_25 : decode cX12_want 25 = .ok (.invokevirtual 279, 3) := dk_182 (dw rcX12_want_0 13 rfl) rfl
theorem dX12_want_28 : decode cX12_want 28 = .ok (.return_, 1) := dk_177 (dw rcX12_want_0 14 rfl)
set_option maxHeartbeats 4000000 in
set_option maxRecDepth 100000 in
theorem n_isName (l : Launch) (D : va_G) (k : KT) (A : Nat → Prop) (a : Nat → Nat) (z : SK) (G : GS)   : Met l yX12_isName (WS yX12_isName cX12_isName 1 (some .boolean)) ({ frames := 2, cells := 0, slots := 0, locals := 40 }) (va_Pc [.ref (a 66)] (cW D k A a z G)) (va_Qi (fun (r : Int32) (G1 : GS) => Q_isName G r G1) (fun (G1 : GS) t => Wd D k A a G1 t.heap) A) 0 0 A := by
  refine Met.ofW (cc := cX12_isName) (maxL := 1) (ret := (some .boolean)) (by decide) rfl ?_
  intro p e s m args below meth c s₁ B hml hv
  obtain ⟨rfl, hW, hB_G, hK, hZ⟩ := hv
  have hx := B.exec
  have hb := B.bytes
  have hr := B.returns
  have hts := atoms_spec (ws := WS yX12_isName cX12_isName 1 (some .boolean)) B.pre
  have hgd : ∀ w ∈ gd, w ∈ WS yX12_isName cX12_isName 1 (some .boolean) := fun w h => List.mem_cons_of_mem _ h
  have hg : ∀ w ∈ gd, w.before _ s = true := fun w h => hts w (hgd w h)
  have hown : s.vm.findClass RX12 = some m.cls := findClass_of_methodNamed B.named
  have hS : va_S A s.heap s.heap [] := va_S.rf
  have hF : Fr [] [] G G := Fr.rf
  have hl := lv_entry ([.ref (a 66)]) (n := 1) (Nat.le_of_ble_eq_true rfl)
  rw [lg_entry_eq]
  generalize (lg_sl ([.ref (a 66)]) ++ List.replicate (1 - (lg_sl ([.ref (a 66)])).length) Slot.unset).toArray = ls at hl ⊢
  have hl : lv_has ls 1 [(0, .ref (a 66))] := hl
  refine lv_aload_n hx hb dX12_isName_0 rfl (lv_at hl 0 rfl) ?_
  refine S_getI (v := (G.1 66 6)) (C := RX12) (T := TX12) (N := 89) hx hb hg iX12 hown hK hW kd_66 rfl 6 (lt_b rfl) (hg (Cond.fieldLink RX12 205 "SlabWalkModel" "sort" "I") m1320) (fun _ h9 => h9) rfl rfl dX12_isName_1 ?_
  refine ic_1 hx hb dX12_isName_4 ?_
  refine lv_icmp_ne (tgt := 19) hx hb dX12_isName_5 rfl (fun c_1 => ?_) (fun c_1 => ?_)
  · have c_1 : (G.1 66 6).toInt ≠ 1 := xI_ne rfl rfl c_1
    refine ic_0 hx hb dX12_isName_19 ?_
    exact W.zret (v := 0) hx hb hr (by decide) (fun t ht _ => ⟨⟨0, G, rfl, (Q_isName_mk ⟨hB_G, hF, ⟨by decide, by decide⟩, (Or.inr ⟨c_1, ⟨rfl, rfl⟩⟩)⟩), wd_t ht hW⟩, hS.F ht⟩) hS.2.2 dX12_isName_20
  · have c_1 : (G.1 66 6).toInt = 1 := xI_eq rfl rfl c_1
    refine lv_aload_n hx hb dX12_isName_8 rfl (lv_at hl 0 rfl) ?_
    refine S_calli (va_runV (As := []) (rest := []) ⟨hx, hb, hml, hown, hts⟩ (n_isOwn l D k A a z G  ) (cwV 0 hts (gd_V hgd m1640 m1642 m57 m131 m1643) rfl rfl rfl hd_X12_isOwn ⟨Nat.le_of_ble_eq_true rfl, Nat.le_of_ble_eq_true rfl⟩) (pre_W hW hB_G hK hZ hS kd_66 rfl) rfl rfl hl.1 rfl (lv_room (Nat.le_of_ble_eq_true rfl)) dX12_isName_9 ⟨Nat.le_of_ble_eq_true rfl, Nat.le_of_ble_eq_true rfl⟩) hS (fun r_2 G_3 H locs hpo hW hS => ?_)
    have hX_6 : Q_isOwn G r_2 G_3 := hpo
    obtain ⟨hB_G_3, hq_4, f_7, -⟩ := hpo
    have hF := hF.call9 hq_4 rfl rfl
    refine lv_if_ne (tgt := 19) hx hb dX12_isName_12 rfl (fun c_8 => ?_) (fun c_8 => ?_)
    · have c_8 : r_2.toInt ≠ 0 := xI_ne rfl rfl c_8
      refine ic_0 hx hb dX12_isName_19 ?_
      exact W.zret (v := 0) hx hb hr (by decide) (fun t ht _ => ⟨⟨0, G_3, rfl, (Q_isName_mk ⟨hB_G_3, hF, ⟨by decide, by decide⟩, (Or.inl ⟨c_1, ⟨r_2, G_3, hX_6, (Or.inr ⟨c_8, ⟨rfl, rfl⟩⟩)⟩⟩)⟩), wd_t ht hW⟩, hS.F ht⟩) hS.2.2 dX12_isName_20
    · have c_8 : r_2.toInt = 0 := xI_eq rfl rfl c_8
      refine ic_1 hx hb dX12_isName_15 ?_
      refine lv_goto (tgt := 20) hx hb dX12_isName_16 rfl ?_
      exact W.zret (v := 1) hx hb hr (by decide) (fun t ht _ => ⟨⟨1, G_3, rfl, (Q_isName_mk ⟨hB_G_3, hF, ⟨by decide, by decide⟩, (Or.inl ⟨c_1, ⟨r_2, G_3, hX_6, (Or.inl ⟨c_8, ⟨rfl, rfl⟩⟩)⟩⟩)⟩), wd_t ht hW⟩, hS.F ht⟩) hS.2.2 dX12_isName_20

set_option maxHeartbeats 4000000 in
set_option maxRecDepth 100000 in
theorem n_takes (l : Launch) (D : va_G) (k : KT) (A : Nat → Prop) (a : Nat → Nat) (z : SK) (G : GS) (p0 : Int64)  : Met l yX12_takes (WS yX12_takes cX12_takes 4 (some .boolean)) ({ frames := 2, cells := 0, slots := 0, locals := 43 }) (va_Pc [.ref (a 66), .long p0] (cW D k A a z G)) (va_Qi (fun (r : Int32) (G1 : GS) => Q_takes p0 G r G1) (fun (G1 : GS) t => Wd D k A a G1 t.heap) A) 0 0 A := by
  refine Met.ofW (cc := cX12_takes) (maxL := 4) (ret := (some .boolean)) (by decide) rfl ?_
  intro p e s m args below meth c s₁ B hml hv
  obtain ⟨rfl, hW, hB_G, hK, hZ⟩ := hv
  have hx := B.exec
  have hb := B.bytes
  have hr := B.returns
  have hts := atoms_spec (ws := WS yX12_takes cX12_takes 4 (some .boolean)) B.pre
  have hgd : ∀ w ∈ gd, w ∈ WS yX12_takes cX12_takes 4 (some .boolean) := fun w h => List.mem_cons_of_mem _ h
  have hg : ∀ w ∈ gd, w.before _ s = true := fun w h => hts w (hgd w h)
  have hown : s.vm.findClass RX12 = some m.cls := findClass_of_methodNamed B.named
  have hS : va_S A s.heap s.heap [] := va_S.rf
  have hF : Fr [] [(66, 4), (66, 6), (66, 7), (66, 8), (66, 9)] G G := Fr.rf
  have hl := lv_entry ([.ref (a 66), .long p0]) (n := 4) (Nat.le_of_ble_eq_true rfl)
  rw [lg_entry_eq]
  generalize (lg_sl ([.ref (a 66), .long p0]) ++ List.replicate (4 - (lg_sl ([.ref (a 66), .long p0])).length) Slot.unset).toArray = ls at hl ⊢
  have hl : lv_has ls 4 [(0, .ref (a 66)), (1, .long p0)] := hl
  refine lv_aload_n hx hb dX12_takes_0 rfl (lv_at hl 0 rfl) ?_
  have b_1 : 0 ≤ (G.1 66 2).toInt ∧ (G.1 66 2).toInt ≤ 4 := bd_66_2 hB_G
  refine S_getI (v := (G.1 66 2)) (C := RX12) (T := TX12) (N := 89) hx hb hg iX12 hown hK hW kd_66 rfl 2 (lt_b rfl) (hg (Cond.fieldLink RX12 218 "SlabWalkModel" "fault" "I") m1316) (fun _ h9 => h9) rfl rfl dX12_takes_1 ?_
  refine lv_if_ne (tgt := 19) hx hb dX12_takes_4 rfl (fun c_2 => ?_) (fun c_2 => ?_)
  · have c_2 : (G.1 66 2).toInt ≠ 0 := xI_ne rfl rfl c_2
    refine ic_0 hx hb dX12_takes_19 ?_
    refine lv_istore_n (lv' := [(3, .int 0), (0, .ref (a 66)), (1, .long p0)]) hx hb dX12_takes_20 rfl hl (lt_b rfl) rfl (fun ls hl => ?_)
    refine lv_iload_n hx hb dX12_takes_21 rfl (lv_at hl 0 rfl) ?_
    refine lv_if_eq (tgt := 29) hx hb dX12_takes_22 rfl (fun c_3 => ?_) (fun c_3 => ?_)
    · have c_3 : (0 : Int) = (0 : Int) := xI_eq rfl rfl c_3
      refine lv_iload_n hx hb dX12_takes_29 rfl (lv_at hl 0 rfl) ?_
      have b_4 : 0 ≤ (G.1 66 4).toInt ∧ (G.1 66 4).toInt ≤ 1600 := bd_66_4 hB_G
      exact W.zret (v := 0) hx hb hr (by decide) (fun t ht _ => ⟨⟨0, G, rfl, (Q_takes_mk ⟨hB_G, hF, ⟨by decide, by decide⟩, (by have hq : (0 : Int32).toInt = 0 := rfl; (try dsimp only); omega), (Or.inr ⟨c_2, ⟨rfl, rfl⟩⟩)⟩), wd_t ht hW⟩, hS.F ht⟩) hS.2.2 dX12_takes_30
    · have c_3 : (0 : Int) ≠ (0 : Int) := xI_ne rfl rfl c_3
      exfalso; first | exact ok_69 c_3 | omega
  · have c_2 : (G.1 66 2).toInt = 0 := xI_eq rfl rfl c_2
    refine lv_aload_n hx hb dX12_takes_7 rfl (lv_at hl 0 rfl) ?_
    refine lv_lload_n hx hb dX12_takes_8 rfl (lv_at hl 1 rfl) ?_
    refine S_calli (va_runV (As := [.long p0]) (rest := []) ⟨hx, hb, hml, hown, hts⟩ (n_isWord l D k A a z G p0 ) (cwV 1 hts (gd_V hgd m1624 m1626 m53 m131 m1627) rfl rfl rfl hd_X12_isWord ⟨Nat.le_of_ble_eq_true rfl, Nat.le_of_ble_eq_true rfl⟩) (pre_W hW hB_G hK hZ hS kd_66 rfl) rfl rfl hl.1 rfl (lv_room (Nat.le_of_ble_eq_true rfl)) dX12_takes_9 ⟨Nat.le_of_ble_eq_true rfl, Nat.le_of_ble_eq_true rfl⟩) hS (fun r_5 G_6 H locs hpo hW hS => ?_)
    have hX_9 : Q_isWord p0 G r_5 G_6 := hpo
    obtain ⟨hB_G_6, hq_7, f_10, hp_8, -⟩ := hpo
    have hF := hF.call9 hq_7 rfl rfl
    refine lv_if_eq (tgt := 19) hx hb dX12_takes_12 rfl (fun c_11 => ?_) (fun c_11 => ?_)
    · have c_11 : r_5.toInt = 0 := xI_eq rfl rfl c_11
      refine ic_0 hx hb dX12_takes_19 ?_
      refine lv_istore_n (lv' := [(3, .int 0), (0, .ref (a 66)), (1, .long p0)]) hx hb dX12_takes_20 rfl hl (lt_b rfl) rfl (fun ls hl => ?_)
      refine lv_iload_n hx hb dX12_takes_21 rfl (lv_at hl 0 rfl) ?_
      refine lv_if_eq (tgt := 29) hx hb dX12_takes_22 rfl (fun c_12 => ?_) (fun c_12 => ?_)
      · have c_12 : (0 : Int) = (0 : Int) := xI_eq rfl rfl c_12
        refine lv_iload_n hx hb dX12_takes_29 rfl (lv_at hl 0 rfl) ?_
        have b_13 : 0 ≤ (G.1 66 4).toInt ∧ (G.1 66 4).toInt ≤ 1600 := bd_66_4 hB_G
        have g_14 : (G_6.1 66 4).toInt = (G.1 66 4).toInt := (congrArg Int32.toInt (show G_6.1 66 4 = (G.1 66 4) from (hq_7.i9 66 4 rfl rfl)))
        have g_15 : (G_6.1 66 6).toInt = (G.1 66 6).toInt := (congrArg Int32.toInt (show G_6.1 66 6 = (G.1 66 6) from (hq_7.i9 66 6 rfl rfl)))
        exact W.zret (v := 0) hx hb hr (by decide) (fun t ht _ => ⟨⟨0, G_6, rfl, (Q_takes_mk ⟨hB_G_6, hF, ⟨by decide, by decide⟩, (by have hq : (0 : Int32).toInt = 0 := rfl; (try dsimp only); omega), (Or.inl ⟨c_2, ⟨r_5, G_6, hX_9, (Or.inl ⟨c_11, ⟨rfl, rfl⟩⟩)⟩⟩)⟩), wd_t ht hW⟩, hS.F ht⟩) hS.2.2 dX12_takes_30
      · have c_12 : (0 : Int) ≠ (0 : Int) := xI_ne rfl rfl c_12
        exfalso; first | exact ok_69 c_12 | omega
    · have c_11 : r_5.toInt ≠ 0 := xI_ne rfl rfl c_11
      refine ic_1 hx hb dX12_takes_15 ?_
      refine lv_goto (tgt := 20) hx hb dX12_takes_16 rfl ?_
      refine lv_istore_n (lv' := [(3, .int 1), (0, .ref (a 66)), (1, .long p0)]) hx hb dX12_takes_20 rfl hl (lt_b rfl) rfl (fun ls hl => ?_)
      refine lv_iload_n hx hb dX12_takes_21 rfl (lv_at hl 0 rfl) ?_
      refine lv_if_eq (tgt := 29) hx hb dX12_takes_22 rfl (fun c_16 => ?_) (fun c_16 => ?_)
      · have c_16 : (1 : Int) = (0 : Int) := xI_eq rfl rfl c_16
        exfalso; first | exact ok_68 c_16 | omega
      · have c_16 : (1 : Int) ≠ (0 : Int) := xI_ne rfl rfl c_16
        refine lv_aload_n hx hb dX12_takes_25 rfl (lv_at hl 1 rfl) ?_
        have b_17 : 0 ≤ (G.1 66 4).toInt ∧ (G.1 66 4).toInt ≤ 1600 := bd_66_4 hB_G
        have g_18 : (G_6.1 66 4).toInt = (G.1 66 4).toInt := (congrArg Int32.toInt (show G_6.1 66 4 = (G.1 66 4) from (hq_7.i9 66 4 rfl rfl)))
        have g_19 : (G_6.1 66 6).toInt = (G.1 66 6).toInt := (congrArg Int32.toInt (show G_6.1 66 6 = (G.1 66 6) from (hq_7.i9 66 6 rfl rfl)))
        refine S_callv (va_runV (As := []) (rest := []) ⟨hx, hb, hml, hown, hts⟩ (n_token l D k A a z G_6  ) (cwV 0 hts (gd_V hgd m1602 m1604 m50 m131 m1605) rfl rfl rfl hd_X12_token ⟨Nat.le_of_ble_eq_true rfl, Nat.le_of_ble_eq_true rfl⟩) (pre_W hW hB_G_6 hK hZ hS kd_66 rfl) rfl rfl hl.1 rfl (lv_room (Nat.le_of_ble_eq_true rfl)) dX12_takes_26 ⟨Nat.le_of_ble_eq_true rfl, Nat.le_of_ble_eq_true rfl⟩) hS (fun G_21 H locs hpo hW hS => ?_)
        have hX_24 : Q_token G_6 G_21 := hpo
        obtain ⟨hB_G_21, hq_22, ⟨d_1, d_2⟩, -⟩ := hpo
        have hF := hF.call9 hq_22 rfl rfl
        refine lv_iload_n hx hb dX12_takes_29 rfl (lv_at hl 0 rfl) ?_
        have b_25 : 0 ≤ (G_21.1 66 4).toInt ∧ (G_21.1 66 4).toInt ≤ 1600 := bd_66_4 hB_G_21
        exact W.zret (v := 1) hx hb hr (by decide) (fun t ht _ => ⟨⟨1, G_21, rfl, (Q_takes_mk ⟨hB_G_21, hF, ⟨by decide, by decide⟩, (by have hq : (1 : Int32).toInt = 1 := rfl; (try dsimp only); omega), (Or.inl ⟨c_2, ⟨r_5, G_6, hX_9, (Or.inr ⟨c_11, ⟨G_21, hX_24, ⟨rfl, rfl⟩⟩⟩)⟩⟩)⟩), wd_t ht hW⟩, hS.F ht⟩) hS.2.2 dX12_takes_30

set_option maxHeartbeats 4000000 in
set_option maxRecDepth 100000 in
theorem n_want (l : Launch) (D : va_G) (k : KT) (A : Nat → Prop) (a : Nat → Nat) (z : SK) (G : GS) (p0 : Int64)  : Met l yX12_want (WS yX12_want cX12_want 3 none) ({ frames := 2, cells := 0, slots := 0, locals := 43 }) (va_Pc [.ref (a 66), .long p0] (cW D k A a z G)) (va_Qv (fun (G1 : GS) => Q_want p0 G G1) (fun (G1 : GS) t => Wd D k A a G1 t.heap) A) 0 0 A := by
  refine Met.ofW (cc := cX12_want) (maxL := 3) (ret := none) (by decide) rfl ?_
  intro p e s m args below meth c s₁ B hml hv
  obtain ⟨rfl, hW, hB_G, hK, hZ⟩ := hv
  have hx := B.exec
  have hb := B.bytes
  have hr := B.returns
  have hts := atoms_spec (ws := WS yX12_want cX12_want 3 none) B.pre
  have hgd : ∀ w ∈ gd, w ∈ WS yX12_want cX12_want 3 none := fun w h => List.mem_cons_of_mem _ h
  have hg : ∀ w ∈ gd, w.before _ s = true := fun w h => hts w (hgd w h)
  have hown : s.vm.findClass RX12 = some m.cls := findClass_of_methodNamed B.named
  have hS : va_S A s.heap s.heap [] := va_S.rf
  have hF : Fr [] [(66, 2), (66, 3), (66, 4), (66, 6), (66, 7), (66, 8), (66, 9)] G G := Fr.rf
  have hl := lv_entry ([.ref (a 66), .long p0]) (n := 3) (Nat.le_of_ble_eq_true rfl)
  rw [lg_entry_eq]
  generalize (lg_sl ([.ref (a 66), .long p0]) ++ List.replicate (3 - (lg_sl ([.ref (a 66), .long p0])).length) Slot.unset).toArray = ls at hl ⊢
  have hl : lv_has ls 3 [(0, .ref (a 66)), (1, .long p0)] := hl
  refine lv_aload_n hx hb dX12_want_0 rfl (lv_at hl 0 rfl) ?_
  have b_1 : 0 ≤ (G.1 66 2).toInt ∧ (G.1 66 2).toInt ≤ 4 := bd_66_2 hB_G
  refine S_getI (v := (G.1 66 2)) (C := RX12) (T := TX12) (N := 89) hx hb hg iX12 hown hK hW kd_66 rfl 2 (lt_b rfl) (hg (Cond.fieldLink RX12 218 "SlabWalkModel" "fault" "I") m1316) (fun _ h9 => h9) rfl rfl dX12_want_1 ?_
  refine lv_if_le (tgt := 8) hx hb dX12_want_4 rfl (fun c_2 => ?_) (fun c_2 => ?_)
  · have c_2 : (G.1 66 2).toInt ≤ 0 := xI_le rfl rfl c_2
    refine lv_aload_n hx hb dX12_want_8 rfl (lv_at hl 0 rfl) ?_
    refine lv_lload_n hx hb dX12_want_9 rfl (lv_at hl 1 rfl) ?_
    refine S_calli (va_runV (As := [.long p0]) (rest := []) ⟨hx, hb, hml, hown, hts⟩ (n_isWord l D k A a z G p0 ) (cwV 1 hts (gd_V hgd m1624 m1626 m53 m131 m1627) rfl rfl rfl hd_X12_isWord ⟨Nat.le_of_ble_eq_true rfl, Nat.le_of_ble_eq_true rfl⟩) (pre_W hW hB_G hK hZ hS kd_66 rfl) rfl rfl hl.1 rfl (lv_room (Nat.le_of_ble_eq_true rfl)) dX12_want_10 ⟨Nat.le_of_ble_eq_true rfl, Nat.le_of_ble_eq_true rfl⟩) hS (fun r_3 G_4 H locs hpo hW hS => ?_)
    have hX_7 : Q_isWord p0 G r_3 G_4 := hpo
    obtain ⟨hB_G_4, hq_5, f_8, hp_6, -⟩ := hpo
    have hF := hF.call9 hq_5 rfl rfl
    refine lv_if_ne (tgt := 24) hx hb dX12_want_13 rfl (fun c_9 => ?_) (fun c_9 => ?_)
    · have c_9 : r_3.toInt ≠ 0 := xI_ne rfl rfl c_9
      refine lv_aload_n hx hb dX12_want_24 rfl (lv_at hl 0 rfl) ?_
      have b_10 : 0 ≤ (G.1 66 4).toInt ∧ (G.1 66 4).toInt ≤ 1600 := bd_66_4 hB_G
      have g_11 : (G_4.1 66 4).toInt = (G.1 66 4).toInt := (congrArg Int32.toInt (show G_4.1 66 4 = (G.1 66 4) from (hq_5.i9 66 4 rfl rfl)))
      have g_12 : (G_4.1 66 6).toInt = (G.1 66 6).toInt := (congrArg Int32.toInt (show G_4.1 66 6 = (G.1 66 6) from (hq_5.i9 66 6 rfl rfl)))
      refine S_callv (va_runV (As := []) (rest := []) ⟨hx, hb, hml, hown, hts⟩ (n_token l D k A a z G_4  ) (cwV 0 hts (gd_V hgd m1602 m1604 m50 m131 m1605) rfl rfl rfl hd_X12_token ⟨Nat.le_of_ble_eq_true rfl, Nat.le_of_ble_eq_true rfl⟩) (pre_W hW hB_G_4 hK hZ hS kd_66 rfl) rfl rfl hl.1 rfl (lv_room (Nat.le_of_ble_eq_true rfl)) dX12_want_25 ⟨Nat.le_of_ble_eq_true rfl, Nat.le_of_ble_eq_true rfl⟩) hS (fun G_14 H locs hpo hW hS => ?_)
      have hX_17 : Q_token G_4 G_14 := hpo
      obtain ⟨hB_G_14, hq_15, ⟨d_1, d_2⟩, -⟩ := hpo
      have hF := hF.call9 hq_15 rfl rfl
      have g_18 : (G_14.1 66 2).toInt = (G.1 66 2).toInt := (congrArg Int32.toInt (show G_14.1 66 2 = (G.1 66 2) from ((hq_15.i9 66 2 rfl rfl).trans ((hq_5.i9 66 2 rfl rfl).trans (rfl)))))
      have b_19 : 0 ≤ (G_14.1 66 4).toInt ∧ (G_14.1 66 4).toInt ≤ 1600 := bd_66_4 hB_G_14
      exact W.vret hx hb hr (fun t ht _ => ⟨⟨G_14, rfl, (Q_want_mk ⟨hB_G_14, hF, ((by first | exact ⟨(by first | exact ok_620 g_11 d_1 | omega), ⟨(fun h9 => by have q0_ := d_2 (by first | (clear b_1 c_2 f_8 hp_6 c_9 g_12 d_2 g_18; omega) | omega); (first | (clear b_1 c_2 f_8 hp_6 c_9 b_10 g_11 d_1 d_2 g_18 b_19; omega) | omega)), (fun h9 => (by first | exact ok_621 b_1.1 g_18 h9 | omega))⟩⟩ | omega)), (Or.inl ⟨c_2, ⟨r_3, G_4, hX_7, (Or.inr ⟨c_9, ⟨G_14, hX_17, rfl⟩⟩)⟩⟩)⟩), wd_t ht hW⟩, hS.F ht⟩) hS.2.2 dX12_want_28
    · have c_9 : r_3.toInt = 0 := xI_eq rfl rfl c_9
      refine lv_aload_n hx hb dX12_want_16 rfl (lv_at hl 0 rfl) ?_
      refine ic_2 hx hb dX12_want_17 ?_
      have qc_20 : (2 : Int32).toInt = 2 := rfl
      refine S_callv (va_runV (As := [.int 2]) (rest := []) ⟨hx, hb, hml, hown, hts⟩ (n_wrong l D k A a z G_4 2 ⟨by decide, by decide⟩) (cwV 1 hts (gd_V hgd m1670 m1672 m59 m131 m1673) rfl rfl rfl hd_X12_wrong ⟨Nat.le_of_ble_eq_true rfl, Nat.le_of_ble_eq_true rfl⟩) (pre_W hW hB_G_4 hK hZ hS kd_66 rfl) rfl rfl hl.1 rfl (lv_room (Nat.le_of_ble_eq_true rfl)) dX12_want_18 ⟨Nat.le_of_ble_eq_true rfl, Nat.le_of_ble_eq_true rfl⟩) hS (fun G_22 H locs hpo hW hS => ?_)
      have hX_25 : Q_wrong 2 G_4 G_22 := hpo
      obtain ⟨hB_G_22, hq_23, hp_24, -⟩ := hpo
      have hF := hF.call9 hq_23 rfl rfl
      refine lv_goto (tgt := 28) hx hb dX12_want_21 rfl ?_
      have b_26 : 0 ≤ (G_22.1 66 2).toInt ∧ (G_22.1 66 2).toInt ≤ 4 := bd_66_2 hB_G_22
      have b_27 : 0 ≤ (G.1 66 4).toInt ∧ (G.1 66 4).toInt ≤ 1600 := bd_66_4 hB_G
      have g_28 : (G_22.1 66 4).toInt = (G.1 66 4).toInt := (congrArg Int32.toInt (show G_22.1 66 4 = (G.1 66 4) from ((hq_23.i9 66 4 rfl rfl).trans (hq_5.i9 66 4 rfl rfl))))
      have g_29 : (G_22.1 66 6).toInt = (G.1 66 6).toInt := (congrArg Int32.toInt (show G_22.1 66 6 = (G.1 66 6) from ((hq_23.i9 66 6 rfl rfl).trans (hq_5.i9 66 6 rfl rfl))))
      exact W.vret hx hb hr (fun t ht _ => ⟨⟨G_22, rfl, (Q_want_mk ⟨hB_G_22, hF, ((by first | exact ⟨(by first | exact ok_622 g_28 | omega), ⟨(fun h9 => by (first | (clear b_1 c_2 f_8 hp_6 c_9 hp_24 b_26 b_27 g_28; omega) | omega)), (fun h9 => (by first | exact hp_24 | omega))⟩⟩ | omega)), (Or.inl ⟨c_2, ⟨r_3, G_4, hX_7, (Or.inl ⟨c_9, ⟨G_22, hX_25, rfl⟩⟩)⟩⟩)⟩), wd_t ht hW⟩, hS.F ht⟩) hS.2.2 dX12_want_28
  · have c_2 : 0 < (G.1 66 2).toInt := xI_nle rfl rfl c_2
    have b_30 : 0 ≤ (G.1 66 4).toInt ∧ (G.1 66 4).toInt ≤ 1600 := bd_66_4 hB_G
    exact W.vret hx hb hr (fun t ht _ => ⟨⟨G, rfl, (Q_want_mk ⟨hB_G, hF, ((by first | exact ⟨(by first | exact ok_572 | omega), ⟨(fun h9 => by (first | (clear b_1 c_2 b_30; omega) | omega)), (fun h9 => (by first | exact h9 | omega))⟩⟩ | omega)), (Or.inr ⟨c_2, rfl⟩)⟩), wd_t ht hW⟩, hS.F ht⟩) hS.2.2 dX12_want_7

set_option maxHeartbeats 4000000 in
set_option maxRecDepth 100000 in
theorem n_told (l : Launch) (D : va_G) (k : KT) (A : Nat → Prop) (a : Nat → Nat) (z : SK) (G : GS) (p0 : Int32) (p1 : Int32)  : Met l yX12_toldNumber (WS yX12_toldNumber cX12_toldNumber 4 (some .int)) ({ frames := 2, cells := 0, slots := 0, locals := 43 }) (va_Pc [.ref (a 66), .int p0, .int p1] (cW D k A a z G)) (va_Qi (fun (r : Int32) (G1 : GS) => Q_told p0 p1 G r G1) (fun (G1 : GS) t => Wd D k A a G1 t.heap) A) 0 0 A := by
  refine Met.ofW (cc := cX12_toldNumber) (maxL := 4) (ret := (some .int)) (by decide) rfl ?_
  intro p e s m args below meth c s₁ B hml hv
  obtain ⟨rfl, hW, hB_G, hK, hZ⟩ := hv
  have hx := B.exec
  have hb := B.bytes
  have hr := B.returns
  have hts := atoms_spec (ws := WS yX12_toldNumber cX12_toldNumber 4 (some .int)) B.pre
  have hgd : ∀ w ∈ gd, w ∈ WS yX12_toldNumber cX12_toldNumber 4 (some .int) := fun w h => List.mem_cons_of_mem _ h
  have hg : ∀ w ∈ gd, w.before _ s = true := fun w h => hts w (hgd w h)
  have hown : s.vm.findClass RX12 = some m.cls := findClass_of_methodNamed B.named
  have hS : va_S A s.heap s.heap [] := va_S.rf
  have hF : Fr [] [(66, 2), (66, 3), (66, 4), (66, 6), (66, 7), (66, 8), (66, 9)] G G := Fr.rf
  have hl := lv_entry ([.ref (a 66), .int p0, .int p1]) (n := 4) (Nat.le_of_ble_eq_true rfl)
  rw [lg_entry_eq]
  generalize (lg_sl ([.ref (a 66), .int p0, .int p1]) ++ List.replicate (4 - (lg_sl ([.ref (a 66), .int p0, .int p1])).length) Slot.unset).toArray = ls at hl ⊢
  have hl : lv_has ls 4 [(0, .ref (a 66)), (1, .int p0), (2, .int p1)] := hl
  refine lv_aload_n hx hb dX12_toldNumber_0 rfl (lv_at hl 0 rfl) ?_
  have b_1 : 0 ≤ (G.1 66 2).toInt ∧ (G.1 66 2).toInt ≤ 4 := bd_66_2 hB_G
  refine S_getI (v := (G.1 66 2)) (C := RX12) (T := TX12) (N := 89) hx hb hg iX12 hown hK hW kd_66 rfl 2 (lt_b rfl) (hg (Cond.fieldLink RX12 218 "SlabWalkModel" "fault" "I") m1316) (fun _ h9 => h9) rfl rfl dX12_toldNumber_1 ?_
  refine lv_if_le (tgt := 9) hx hb dX12_toldNumber_4 rfl (fun c_2 => ?_) (fun c_2 => ?_)
  · have c_2 : (G.1 66 2).toInt ≤ 0 := xI_le rfl rfl c_2
    refine lv_aload_n hx hb dX12_toldNumber_9 rfl (lv_at hl 0 rfl) ?_
    refine S_getI (v := (G.1 66 6)) (C := RX12) (T := TX12) (N := 89) hx hb hg iX12 hown hK hW kd_66 rfl 6 (lt_b rfl) (hg (Cond.fieldLink RX12 205 "SlabWalkModel" "sort" "I") m1320) (fun _ h9 => h9) rfl rfl dX12_toldNumber_10 ?_
    refine ic_2 hx hb dX12_toldNumber_13 ?_
    refine lv_icmp_eq (tgt := 25) hx hb dX12_toldNumber_14 rfl (fun c_3 => ?_) (fun c_3 => ?_)
    · have c_3 : (G.1 66 6).toInt = 2 := xI_eq rfl rfl c_3
      refine lv_aload_n hx hb dX12_toldNumber_25 rfl (lv_at hl 0 rfl) ?_
      refine S_getI (v := (G.1 66 8)) (C := RX12) (T := TX12) (N := 89) hx hb hg iX12 hown hK hW kd_66 rfl 8 (lt_b rfl) (hg (Cond.fieldLink RX12 202 "SlabWalkModel" "number" "I") m1322) (fun _ h9 => h9) rfl rfl dX12_toldNumber_26 ?_
      refine lv_iload_n hx hb dX12_toldNumber_29 rfl (lv_at hl 1 rfl) ?_
      refine lv_icmp_lt (tgt := 41) hx hb dX12_toldNumber_30 rfl (fun c_4 => ?_) (fun c_4 => ?_)
      · have c_4 : (G.1 66 8).toInt < p0.toInt := xI_lt rfl rfl c_4
        refine lv_aload_n hx hb dX12_toldNumber_41 rfl (lv_at hl 0 rfl) ?_
        refine ic_4 hx hb dX12_toldNumber_42 ?_
        have qc_5 : (4 : Int32).toInt = 4 := rfl
        refine S_callv (va_runV (As := [.int 4]) (rest := []) ⟨hx, hb, hml, hown, hts⟩ (n_wrong l D k A a z G 4 ⟨by decide, by decide⟩) (cwV 1 hts (gd_V hgd m1670 m1672 m59 m131 m1673) rfl rfl rfl hd_X12_wrong ⟨Nat.le_of_ble_eq_true rfl, Nat.le_of_ble_eq_true rfl⟩) (pre_W hW hB_G hK hZ hS kd_66 rfl) rfl rfl hl.1 rfl (lv_room (Nat.le_of_ble_eq_true rfl)) dX12_toldNumber_43 ⟨Nat.le_of_ble_eq_true rfl, Nat.le_of_ble_eq_true rfl⟩) hS (fun G_7 H locs hpo hW hS => ?_)
        have hX_10 : Q_wrong 4 G G_7 := hpo
        obtain ⟨hB_G_7, hq_8, hp_9, -⟩ := hpo
        have hF := hF.call9 hq_8 rfl rfl
        refine lv_aload_n hx hb dX12_toldNumber_46 rfl (lv_at hl 0 rfl) ?_
        refine S_getI (v := (G.1 66 8)) (C := RX12) (T := TX12) (N := 89) hx hb hg iX12 hown hK hW kd_66 rfl 8 (lt_b rfl) (hg (Cond.fieldLink RX12 202 "SlabWalkModel" "number" "I") m1322) (fun _ h9 => h9) rfl ((hq_8.i9 66 8 rfl rfl).trans (rfl)) dX12_toldNumber_47 ?_
        refine lv_istore_n (lv' := [(3, .int (G.1 66 8)), (0, .ref (a 66)), (1, .int p0), (2, .int p1)]) hx hb dX12_toldNumber_50 rfl hl (lt_b rfl) rfl (fun ls hl => ?_)
        refine lv_aload_n hx hb dX12_toldNumber_51 rfl (lv_at hl 1 rfl) ?_
        have b_11 : 0 ≤ (G_7.1 66 2).toInt ∧ (G_7.1 66 2).toInt ≤ 4 := bd_66_2 hB_G_7
        refine S_getI (v := (G_7.1 66 2)) (C := RX12) (T := TX12) (N := 89) hx hb hg iX12 hown hK hW kd_66 rfl 2 (lt_b rfl) (hg (Cond.fieldLink RX12 218 "SlabWalkModel" "fault" "I") m1316) (fun _ h9 => h9) rfl rfl dX12_toldNumber_52 ?_
        refine lv_if_ne (tgt := 62) hx hb dX12_toldNumber_55 rfl (fun c_12 => ?_) (fun c_12 => ?_)
        · have c_12 : (G_7.1 66 2).toInt ≠ 0 := xI_ne rfl rfl c_12
          refine lv_iload_n hx hb dX12_toldNumber_62 rfl (lv_at hl 0 rfl) ?_
          have b_13 : 0 ≤ (G.1 66 4).toInt ∧ (G.1 66 4).toInt ≤ 1600 := bd_66_4 hB_G
          have g_14 : (G_7.1 66 4).toInt = (G.1 66 4).toInt := (congrArg Int32.toInt (show G_7.1 66 4 = (G.1 66 4) from (hq_8.i9 66 4 rfl rfl)))
          have g_15 : (G_7.1 66 6).toInt = (G.1 66 6).toInt := (congrArg Int32.toInt (show G_7.1 66 6 = (G.1 66 6) from ((hq_8.i9 66 6 rfl rfl).trans (rfl))))
          exact W.iret (v := (G.1 66 8)) hx hb hr (fun t ht _ => ⟨⟨(G.1 66 8), G_7, rfl, (Q_told_mk ⟨hB_G_7, hF, ((by first | exact ⟨(by first | exact ok_622 g_14 | omega), ⟨(fun h9 => by (first | (clear b_1 c_2 c_4 hp_9 b_11 c_12 b_13 g_14; omega) | omega)), ⟨(fun h9 => (by first | exact hp_9 | omega)), (fun h9 => ⟨((by first | (clear b_1 c_2 c_3 b_13 g_14 g_15; omega) | omega)), ((by first | (clear b_1 c_2 c_3 b_13 g_14 g_15; omega) | omega))⟩)⟩⟩⟩ | omega)), (Or.inl ⟨c_2, (Or.inl ⟨c_3, (Or.inl ⟨c_4, ⟨G_7, hX_10, (Or.inr ⟨c_12, ⟨rfl, rfl⟩⟩)⟩⟩)⟩)⟩)⟩), wd_t ht hW⟩, hS.F ht⟩) hS.2.2 dX12_toldNumber_63
        · have c_12 : (G_7.1 66 2).toInt = 0 := xI_eq rfl rfl c_12
          refine lv_aload_n hx hb dX12_toldNumber_58 rfl (lv_at hl 1 rfl) ?_
          have b_16 : 0 ≤ (G.1 66 4).toInt ∧ (G.1 66 4).toInt ≤ 1600 := bd_66_4 hB_G
          have g_17 : (G_7.1 66 4).toInt = (G.1 66 4).toInt := (congrArg Int32.toInt (show G_7.1 66 4 = (G.1 66 4) from (hq_8.i9 66 4 rfl rfl)))
          have g_18 : (G_7.1 66 6).toInt = (G.1 66 6).toInt := (congrArg Int32.toInt (show G_7.1 66 6 = (G.1 66 6) from ((hq_8.i9 66 6 rfl rfl).trans (rfl))))
          refine S_callv (va_runV (As := []) (rest := []) ⟨hx, hb, hml, hown, hts⟩ (n_token l D k A a z G_7  ) (cwV 0 hts (gd_V hgd m1602 m1604 m50 m131 m1605) rfl rfl rfl hd_X12_token ⟨Nat.le_of_ble_eq_true rfl, Nat.le_of_ble_eq_true rfl⟩) (pre_W hW hB_G_7 hK hZ hS kd_66 rfl) rfl rfl hl.1 rfl (lv_room (Nat.le_of_ble_eq_true rfl)) dX12_toldNumber_59 ⟨Nat.le_of_ble_eq_true rfl, Nat.le_of_ble_eq_true rfl⟩) hS (fun G_20 H locs hpo hW hS => ?_)
          have hX_23 : Q_token G_7 G_20 := hpo
          obtain ⟨hB_G_20, hq_21, ⟨d_1, d_2⟩, -⟩ := hpo
          have hF := hF.call9 hq_21 rfl rfl
          refine lv_iload_n hx hb dX12_toldNumber_62 rfl (lv_at hl 0 rfl) ?_
          have g_24 : (G_20.1 66 2).toInt = (G_7.1 66 2).toInt := (congrArg Int32.toInt (show G_20.1 66 2 = (G_7.1 66 2) from ((hq_21.i9 66 2 rfl rfl).trans (rfl))))
          have b_25 : 0 ≤ (G_20.1 66 4).toInt ∧ (G_20.1 66 4).toInt ≤ 1600 := bd_66_4 hB_G_20
          exact W.iret (v := (G.1 66 8)) hx hb hr (fun t ht _ => ⟨⟨(G.1 66 8), G_20, rfl, (Q_told_mk ⟨hB_G_20, hF, ((by first | exact ⟨(by first | exact ok_620 g_17 d_1 | omega), ⟨(fun h9 => by have q0_ := d_2 (by first | (clear b_1 c_2 c_3 c_4 hp_9 b_11 c_12 g_18 d_2 g_24; omega) | omega); (first | (clear b_1 c_2 c_4 hp_9 b_11 c_12 b_16 g_17 d_1 d_2 g_24 b_25; omega) | omega)), ⟨(fun h9 => (by first | exact ok_616 hp_9 g_24 | omega)), (fun h9 => ⟨((by first | (clear b_1 c_2 c_3 b_16 g_17 g_18 d_1 d_2 b_25; omega) | omega)), ((by first | (clear b_1 c_2 c_3 b_16 g_17 g_18 d_1 d_2 b_25; omega) | omega))⟩)⟩⟩⟩ | omega)), (Or.inl ⟨c_2, (Or.inl ⟨c_3, (Or.inl ⟨c_4, ⟨G_7, hX_10, (Or.inl ⟨c_12, ⟨G_20, hX_23, ⟨rfl, rfl⟩⟩⟩)⟩⟩)⟩)⟩)⟩), wd_t ht hW⟩, hS.F ht⟩) hS.2.2 dX12_toldNumber_63
      · have c_4 : p0.toInt ≤ (G.1 66 8).toInt := xI_nlt rfl rfl c_4
        refine lv_aload_n hx hb dX12_toldNumber_33 rfl (lv_at hl 0 rfl) ?_
        refine S_getI (v := (G.1 66 8)) (C := RX12) (T := TX12) (N := 89) hx hb hg iX12 hown hK hW kd_66 rfl 8 (lt_b rfl) (hg (Cond.fieldLink RX12 202 "SlabWalkModel" "number" "I") m1322) (fun _ h9 => h9) rfl rfl dX12_toldNumber_34 ?_
        refine lv_iload_n hx hb dX12_toldNumber_37 rfl (lv_at hl 2 rfl) ?_
        refine lv_icmp_le (tgt := 46) hx hb dX12_toldNumber_38 rfl (fun c_26 => ?_) (fun c_26 => ?_)
        · have c_26 : (G.1 66 8).toInt ≤ p1.toInt := xI_le rfl rfl c_26
          refine lv_aload_n hx hb dX12_toldNumber_46 rfl (lv_at hl 0 rfl) ?_
          refine S_getI (v := (G.1 66 8)) (C := RX12) (T := TX12) (N := 89) hx hb hg iX12 hown hK hW kd_66 rfl 8 (lt_b rfl) (hg (Cond.fieldLink RX12 202 "SlabWalkModel" "number" "I") m1322) (fun _ h9 => h9) rfl rfl dX12_toldNumber_47 ?_
          refine lv_istore_n (lv' := [(3, .int (G.1 66 8)), (0, .ref (a 66)), (1, .int p0), (2, .int p1)]) hx hb dX12_toldNumber_50 rfl hl (lt_b rfl) rfl (fun ls hl => ?_)
          refine lv_aload_n hx hb dX12_toldNumber_51 rfl (lv_at hl 1 rfl) ?_
          refine S_getI (v := (G.1 66 2)) (C := RX12) (T := TX12) (N := 89) hx hb hg iX12 hown hK hW kd_66 rfl 2 (lt_b rfl) (hg (Cond.fieldLink RX12 218 "SlabWalkModel" "fault" "I") m1316) (fun _ h9 => h9) rfl rfl dX12_toldNumber_52 ?_
          refine lv_if_ne (tgt := 62) hx hb dX12_toldNumber_55 rfl (fun c_27 => ?_) (fun c_27 => ?_)
          · have c_27 : (G.1 66 2).toInt ≠ 0 := xI_ne rfl rfl c_27
            exfalso; first | exact ok_623 b_1.1 c_2 c_27 | omega
          · have c_27 : (G.1 66 2).toInt = 0 := xI_eq rfl rfl c_27
            refine lv_aload_n hx hb dX12_toldNumber_58 rfl (lv_at hl 1 rfl) ?_
            refine S_callv (va_runV (As := []) (rest := []) ⟨hx, hb, hml, hown, hts⟩ (n_token l D k A a z G  ) (cwV 0 hts (gd_V hgd m1602 m1604 m50 m131 m1605) rfl rfl rfl hd_X12_token ⟨Nat.le_of_ble_eq_true rfl, Nat.le_of_ble_eq_true rfl⟩) (pre_W hW hB_G hK hZ hS kd_66 rfl) rfl rfl hl.1 rfl (lv_room (Nat.le_of_ble_eq_true rfl)) dX12_toldNumber_59 ⟨Nat.le_of_ble_eq_true rfl, Nat.le_of_ble_eq_true rfl⟩) hS (fun G_29 H locs hpo hW hS => ?_)
            have hX_32 : Q_token G G_29 := hpo
            obtain ⟨hB_G_29, hq_30, ⟨d_3, d_4⟩, -⟩ := hpo
            have hF := hF.call9 hq_30 rfl rfl
            refine lv_iload_n hx hb dX12_toldNumber_62 rfl (lv_at hl 0 rfl) ?_
            have g_33 : (G_29.1 66 2).toInt = (G.1 66 2).toInt := (congrArg Int32.toInt (show G_29.1 66 2 = (G.1 66 2) from ((hq_30.i9 66 2 rfl rfl).trans (rfl))))
            have b_34 : 0 ≤ (G_29.1 66 4).toInt ∧ (G_29.1 66 4).toInt ≤ 1600 := bd_66_4 hB_G_29
            exact W.iret (v := (G.1 66 8)) hx hb hr (fun t ht _ => ⟨⟨(G.1 66 8), G_29, rfl, (Q_told_mk ⟨hB_G_29, hF, ((by first | exact ⟨(by first | exact d_3 | omega), ⟨(fun h9 => by have q0_ := d_4 (by first | (clear b_1 c_2 c_3 c_4 c_26 c_27 d_4 g_33; omega) | omega); (first | (clear b_1 c_2 c_4 c_26 c_27 d_3 d_4 g_33 b_34; omega) | omega)), ⟨(fun h9 => (by first | exact ok_621 b_1.1 g_33 h9 | omega)), (fun h9 => ⟨(by first | exact c_4 | omega), (by first | exact c_26 | omega)⟩)⟩⟩⟩ | omega)), (Or.inl ⟨c_2, (Or.inl ⟨c_3, (Or.inr ⟨c_4, (Or.inl ⟨c_26, ⟨G_29, hX_32, ⟨rfl, rfl⟩⟩⟩)⟩)⟩)⟩)⟩), wd_t ht hW⟩, hS.F ht⟩) hS.2.2 dX12_toldNumber_63
        · have c_26 : p1.toInt < (G.1 66 8).toInt := xI_nle rfl rfl c_26
          refine lv_aload_n hx hb dX12_toldNumber_41 rfl (lv_at hl 0 rfl) ?_
          refine ic_4 hx hb dX12_toldNumber_42 ?_
          have qc_35 : (4 : Int32).toInt = 4 := rfl
          refine S_callv (va_runV (As := [.int 4]) (rest := []) ⟨hx, hb, hml, hown, hts⟩ (n_wrong l D k A a z G 4 ⟨by decide, by decide⟩) (cwV 1 hts (gd_V hgd m1670 m1672 m59 m131 m1673) rfl rfl rfl hd_X12_wrong ⟨Nat.le_of_ble_eq_true rfl, Nat.le_of_ble_eq_true rfl⟩) (pre_W hW hB_G hK hZ hS kd_66 rfl) rfl rfl hl.1 rfl (lv_room (Nat.le_of_ble_eq_true rfl)) dX12_toldNumber_43 ⟨Nat.le_of_ble_eq_true rfl, Nat.le_of_ble_eq_true rfl⟩) hS (fun G_37 H locs hpo hW hS => ?_)
          have hX_40 : Q_wrong 4 G G_37 := hpo
          obtain ⟨hB_G_37, hq_38, hp_39, -⟩ := hpo
          have hF := hF.call9 hq_38 rfl rfl
          refine lv_aload_n hx hb dX12_toldNumber_46 rfl (lv_at hl 0 rfl) ?_
          refine S_getI (v := (G.1 66 8)) (C := RX12) (T := TX12) (N := 89) hx hb hg iX12 hown hK hW kd_66 rfl 8 (lt_b rfl) (hg (Cond.fieldLink RX12 202 "SlabWalkModel" "number" "I") m1322) (fun _ h9 => h9) rfl ((hq_38.i9 66 8 rfl rfl).trans (rfl)) dX12_toldNumber_47 ?_
          refine lv_istore_n (lv' := [(3, .int (G.1 66 8)), (0, .ref (a 66)), (1, .int p0), (2, .int p1)]) hx hb dX12_toldNumber_50 rfl hl (lt_b rfl) rfl (fun ls hl => ?_)
          refine lv_aload_n hx hb dX12_toldNumber_51 rfl (lv_at hl 1 rfl) ?_
          have b_41 : 0 ≤ (G_37.1 66 2).toInt ∧ (G_37.1 66 2).toInt ≤ 4 := bd_66_2 hB_G_37
          refine S_getI (v := (G_37.1 66 2)) (C := RX12) (T := TX12) (N := 89) hx hb hg iX12 hown hK hW kd_66 rfl 2 (lt_b rfl) (hg (Cond.fieldLink RX12 218 "SlabWalkModel" "fault" "I") m1316) (fun _ h9 => h9) rfl rfl dX12_toldNumber_52 ?_
          refine lv_if_ne (tgt := 62) hx hb dX12_toldNumber_55 rfl (fun c_42 => ?_) (fun c_42 => ?_)
          · have c_42 : (G_37.1 66 2).toInt ≠ 0 := xI_ne rfl rfl c_42
            refine lv_iload_n hx hb dX12_toldNumber_62 rfl (lv_at hl 0 rfl) ?_
            have b_43 : 0 ≤ (G.1 66 4).toInt ∧ (G.1 66 4).toInt ≤ 1600 := bd_66_4 hB_G
            have g_44 : (G_37.1 66 4).toInt = (G.1 66 4).toInt := (congrArg Int32.toInt (show G_37.1 66 4 = (G.1 66 4) from (hq_38.i9 66 4 rfl rfl)))
            have g_45 : (G_37.1 66 6).toInt = (G.1 66 6).toInt := (congrArg Int32.toInt (show G_37.1 66 6 = (G.1 66 6) from ((hq_38.i9 66 6 rfl rfl).trans (rfl))))
            exact W.iret (v := (G.1 66 8)) hx hb hr (fun t ht _ => ⟨⟨(G.1 66 8), G_37, rfl, (Q_told_mk ⟨hB_G_37, hF, ((by first | exact ⟨(by first | exact ok_622 g_44 | omega), ⟨(fun h9 => by (first | (clear b_1 c_2 c_4 c_26 hp_39 b_41 c_42 b_43 g_44; omega) | omega)), ⟨(fun h9 => (by first | exact hp_39 | omega)), (fun h9 => ⟨(by first | exact c_4 | omega), ((by first | (clear b_1 c_2 c_3 b_43 g_44 g_45; omega) | omega))⟩)⟩⟩⟩ | omega)), (Or.inl ⟨c_2, (Or.inl ⟨c_3, (Or.inr ⟨c_4, (Or.inr ⟨c_26, ⟨G_37, hX_40, (Or.inr ⟨c_42, ⟨rfl, rfl⟩⟩)⟩⟩)⟩)⟩)⟩)⟩), wd_t ht hW⟩, hS.F ht⟩) hS.2.2 dX12_toldNumber_63
          · have c_42 : (G_37.1 66 2).toInt = 0 := xI_eq rfl rfl c_42
            refine lv_aload_n hx hb dX12_toldNumber_58 rfl (lv_at hl 1 rfl) ?_
            have b_46 : 0 ≤ (G.1 66 4).toInt ∧ (G.1 66 4).toInt ≤ 1600 := bd_66_4 hB_G
            have g_47 : (G_37.1 66 4).toInt = (G.1 66 4).toInt := (congrArg Int32.toInt (show G_37.1 66 4 = (G.1 66 4) from (hq_38.i9 66 4 rfl rfl)))
            have g_48 : (G_37.1 66 6).toInt = (G.1 66 6).toInt := (congrArg Int32.toInt (show G_37.1 66 6 = (G.1 66 6) from ((hq_38.i9 66 6 rfl rfl).trans (rfl))))
            refine S_callv (va_runV (As := []) (rest := []) ⟨hx, hb, hml, hown, hts⟩ (n_token l D k A a z G_37  ) (cwV 0 hts (gd_V hgd m1602 m1604 m50 m131 m1605) rfl rfl rfl hd_X12_token ⟨Nat.le_of_ble_eq_true rfl, Nat.le_of_ble_eq_true rfl⟩) (pre_W hW hB_G_37 hK hZ hS kd_66 rfl) rfl rfl hl.1 rfl (lv_room (Nat.le_of_ble_eq_true rfl)) dX12_toldNumber_59 ⟨Nat.le_of_ble_eq_true rfl, Nat.le_of_ble_eq_true rfl⟩) hS (fun G_50 H locs hpo hW hS => ?_)
            have hX_53 : Q_token G_37 G_50 := hpo
            obtain ⟨hB_G_50, hq_51, ⟨d_5, d_6⟩, -⟩ := hpo
            have hF := hF.call9 hq_51 rfl rfl
            refine lv_iload_n hx hb dX12_toldNumber_62 rfl (lv_at hl 0 rfl) ?_
            have g_54 : (G_50.1 66 2).toInt = (G_37.1 66 2).toInt := (congrArg Int32.toInt (show G_50.1 66 2 = (G_37.1 66 2) from ((hq_51.i9 66 2 rfl rfl).trans (rfl))))
            have b_55 : 0 ≤ (G_50.1 66 4).toInt ∧ (G_50.1 66 4).toInt ≤ 1600 := bd_66_4 hB_G_50
            exact W.iret (v := (G.1 66 8)) hx hb hr (fun t ht _ => ⟨⟨(G.1 66 8), G_50, rfl, (Q_told_mk ⟨hB_G_50, hF, ((by first | exact ⟨(by first | exact ok_620 g_47 d_5 | omega), ⟨(fun h9 => by have q0_ := d_6 (by first | (clear b_1 c_2 c_3 c_4 c_26 hp_39 b_41 c_42 g_48 d_6 g_54; omega) | omega); (first | (clear b_1 c_2 c_4 c_26 hp_39 b_41 c_42 b_46 g_47 d_5 d_6 g_54 b_55; omega) | omega)), ⟨(fun h9 => (by first | exact ok_616 hp_39 g_54 | omega)), (fun h9 => ⟨(by first | exact c_4 | omega), ((by first | (clear b_1 c_2 c_3 b_46 g_47 g_48 d_5 d_6 b_55; omega) | omega))⟩)⟩⟩⟩ | omega)), (Or.inl ⟨c_2, (Or.inl ⟨c_3, (Or.inr ⟨c_4, (Or.inr ⟨c_26, ⟨G_37, hX_40, (Or.inl ⟨c_42, ⟨G_50, hX_53, ⟨rfl, rfl⟩⟩⟩)⟩⟩)⟩)⟩)⟩)⟩), wd_t ht hW⟩, hS.F ht⟩) hS.2.2 dX12_toldNumber_63
    · have c_3 : (G.1 66 6).toInt ≠ 2 := xI_ne rfl rfl c_3
      refine lv_aload_n hx hb dX12_toldNumber_17 rfl (lv_at hl 0 rfl) ?_
      refine ic_2 hx hb dX12_toldNumber_18 ?_
      have qc_56 : (2 : Int32).toInt = 2 := rfl
      refine S_callv (va_runV (As := [.int 2]) (rest := []) ⟨hx, hb, hml, hown, hts⟩ (n_wrong l D k A a z G 2 ⟨by decide, by decide⟩) (cwV 1 hts (gd_V hgd m1670 m1672 m59 m131 m1673) rfl rfl rfl hd_X12_wrong ⟨Nat.le_of_ble_eq_true rfl, Nat.le_of_ble_eq_true rfl⟩) (pre_W hW hB_G hK hZ hS kd_66 rfl) rfl rfl hl.1 rfl (lv_room (Nat.le_of_ble_eq_true rfl)) dX12_toldNumber_19 ⟨Nat.le_of_ble_eq_true rfl, Nat.le_of_ble_eq_true rfl⟩) hS (fun G_58 H locs hpo hW hS => ?_)
      have hX_61 : Q_wrong 2 G G_58 := hpo
      obtain ⟨hB_G_58, hq_59, hp_60, -⟩ := hpo
      have hF := hF.call9 hq_59 rfl rfl
      refine lv_goto (tgt := 46) hx hb dX12_toldNumber_22 rfl ?_
      refine lv_aload_n hx hb dX12_toldNumber_46 rfl (lv_at hl 0 rfl) ?_
      refine S_getI (v := (G.1 66 8)) (C := RX12) (T := TX12) (N := 89) hx hb hg iX12 hown hK hW kd_66 rfl 8 (lt_b rfl) (hg (Cond.fieldLink RX12 202 "SlabWalkModel" "number" "I") m1322) (fun _ h9 => h9) rfl (hq_59.i9 66 8 rfl rfl) dX12_toldNumber_47 ?_
      refine lv_istore_n (lv' := [(3, .int (G.1 66 8)), (0, .ref (a 66)), (1, .int p0), (2, .int p1)]) hx hb dX12_toldNumber_50 rfl hl (lt_b rfl) rfl (fun ls hl => ?_)
      refine lv_aload_n hx hb dX12_toldNumber_51 rfl (lv_at hl 1 rfl) ?_
      have b_62 : 0 ≤ (G_58.1 66 2).toInt ∧ (G_58.1 66 2).toInt ≤ 4 := bd_66_2 hB_G_58
      refine S_getI (v := (G_58.1 66 2)) (C := RX12) (T := TX12) (N := 89) hx hb hg iX12 hown hK hW kd_66 rfl 2 (lt_b rfl) (hg (Cond.fieldLink RX12 218 "SlabWalkModel" "fault" "I") m1316) (fun _ h9 => h9) rfl rfl dX12_toldNumber_52 ?_
      refine lv_if_ne (tgt := 62) hx hb dX12_toldNumber_55 rfl (fun c_63 => ?_) (fun c_63 => ?_)
      · have c_63 : (G_58.1 66 2).toInt ≠ 0 := xI_ne rfl rfl c_63
        refine lv_iload_n hx hb dX12_toldNumber_62 rfl (lv_at hl 0 rfl) ?_
        have b_64 : 0 ≤ (G.1 66 4).toInt ∧ (G.1 66 4).toInt ≤ 1600 := bd_66_4 hB_G
        have g_65 : (G_58.1 66 4).toInt = (G.1 66 4).toInt := (congrArg Int32.toInt (show G_58.1 66 4 = (G.1 66 4) from (hq_59.i9 66 4 rfl rfl)))
        have g_66 : (G_58.1 66 6).toInt = (G.1 66 6).toInt := (congrArg Int32.toInt (show G_58.1 66 6 = (G.1 66 6) from ((hq_59.i9 66 6 rfl rfl).trans (rfl))))
        exact W.iret (v := (G.1 66 8)) hx hb hr (fun t ht _ => ⟨⟨(G.1 66 8), G_58, rfl, (Q_told_mk ⟨hB_G_58, hF, ((by first | exact ⟨(by first | exact ok_622 g_65 | omega), ⟨(fun h9 => by (first | (clear b_1 c_2 c_3 hp_60 b_62 c_63 b_64 g_65; omega) | omega)), ⟨(fun h9 => (by first | exact hp_60 | omega)), (fun h9 => ⟨((by first | (clear b_1 c_2 c_3 b_64 g_65 g_66; omega) | omega)), ((by first | (clear b_1 c_2 c_3 b_64 g_65 g_66; omega) | omega))⟩)⟩⟩⟩ | omega)), (Or.inl ⟨c_2, (Or.inr ⟨c_3, ⟨G_58, hX_61, (Or.inr ⟨c_63, ⟨rfl, rfl⟩⟩)⟩⟩)⟩)⟩), wd_t ht hW⟩, hS.F ht⟩) hS.2.2 dX12_toldNumber_63
      · have c_63 : (G_58.1 66 2).toInt = 0 := xI_eq rfl rfl c_63
        refine lv_aload_n hx hb dX12_toldNumber_58 rfl (lv_at hl 1 rfl) ?_
        have b_67 : 0 ≤ (G.1 66 4).toInt ∧ (G.1 66 4).toInt ≤ 1600 := bd_66_4 hB_G
        have g_68 : (G_58.1 66 4).toInt = (G.1 66 4).toInt := (congrArg Int32.toInt (show G_58.1 66 4 = (G.1 66 4) from (hq_59.i9 66 4 rfl rfl)))
        have g_69 : (G_58.1 66 6).toInt = (G.1 66 6).toInt := (congrArg Int32.toInt (show G_58.1 66 6 = (G.1 66 6) from ((hq_59.i9 66 6 rfl rfl).trans (rfl))))
        refine S_callv (va_runV (As := []) (rest := []) ⟨hx, hb, hml, hown, hts⟩ (n_token l D k A a z G_58  ) (cwV 0 hts (gd_V hgd m1602 m1604 m50 m131 m1605) rfl rfl rfl hd_X12_token ⟨Nat.le_of_ble_eq_true rfl, Nat.le_of_ble_eq_true rfl⟩) (pre_W hW hB_G_58 hK hZ hS kd_66 rfl) rfl rfl hl.1 rfl (lv_room (Nat.le_of_ble_eq_true rfl)) dX12_toldNumber_59 ⟨Nat.le_of_ble_eq_true rfl, Nat.le_of_ble_eq_true rfl⟩) hS (fun G_71 H locs hpo hW hS => ?_)
        have hX_74 : Q_token G_58 G_71 := hpo
        obtain ⟨hB_G_71, hq_72, ⟨d_7, d_8⟩, -⟩ := hpo
        have hF := hF.call9 hq_72 rfl rfl
        refine lv_iload_n hx hb dX12_toldNumber_62 rfl (lv_at hl 0 rfl) ?_
        have g_75 : (G_71.1 66 2).toInt = (G_58.1 66 2).toInt := (congrArg Int32.toInt (show G_71.1 66 2 = (G_58.1 66 2) from ((hq_72.i9 66 2 rfl rfl).trans (rfl))))
        have b_76 : 0 ≤ (G_71.1 66 4).toInt ∧ (G_71.1 66 4).toInt ≤ 1600 := bd_66_4 hB_G_71
        exact W.iret (v := (G.1 66 8)) hx hb hr (fun t ht _ => ⟨⟨(G.1 66 8), G_71, rfl, (Q_told_mk ⟨hB_G_71, hF, ((by first | exact ⟨(by first | exact ok_620 g_68 d_7 | omega), ⟨(fun h9 => by have q0_ := d_8 (by first | (clear b_1 c_2 c_3 hp_60 b_62 c_63 g_69 d_8 g_75; omega) | omega); (first | (clear b_1 c_2 c_3 hp_60 b_62 c_63 b_67 g_68 d_7 d_8 g_75 b_76; omega) | omega)), ⟨(fun h9 => (by first | exact ok_616 hp_60 g_75 | omega)), (fun h9 => ⟨((by first | (clear b_1 c_2 c_3 b_67 g_68 g_69 d_7 d_8 b_76; omega) | omega)), ((by first | (clear b_1 c_2 c_3 b_67 g_68 g_69 d_7 d_8 b_76; omega) | omega))⟩)⟩⟩⟩ | omega)), (Or.inl ⟨c_2, (Or.inr ⟨c_3, ⟨G_58, hX_61, (Or.inl ⟨c_63, ⟨G_71, hX_74, ⟨rfl, rfl⟩⟩⟩)⟩⟩)⟩)⟩), wd_t ht hW⟩, hS.F ht⟩) hS.2.2 dX12_toldNumber_63
  · have c_2 : 0 < (G.1 66 2).toInt := xI_nle rfl rfl c_2
    refine ic_0 hx hb dX12_toldNumber_7 ?_
    have b_77 : 0 ≤ (G.1 66 4).toInt ∧ (G.1 66 4).toInt ≤ 1600 := bd_66_4 hB_G
    exact W.iret (v := 0) hx hb hr (fun t ht _ => ⟨⟨0, G, rfl, (Q_told_mk ⟨hB_G, hF, (by have hq : (0 : Int32).toInt = 0 := rfl; (try dsimp only); omega), (Or.inr ⟨c_2, ⟨rfl, rfl⟩⟩)⟩), wd_t ht hW⟩, hS.F ht⟩) hS.2.2 dX12_toldNumber_8

set_option maxHeartbeats 4000000 in
set_option maxRecDepth 100000 in
theorem n_told2 (l : Launch) (D : va_G) (k : KT) (A : Nat → Prop) (a : Nat → Nat) (z : SK) (G : GS) (p0 : Int64) (p1 : Int32) (p2 : Int32)  : Met l yX12_told (WS yX12_told cX12_told 5 (some .int)) ({ frames := 3, cells := 0, slots := 0, locals := 66 }) (va_Pc [.ref (a 66), .long p0, .int p1, .int p2] (cW D k A a z G)) (va_Qi (fun (r : Int32) (G1 : GS) => Q_told2 p0 p1 p2 G r G1) (fun (G1 : GS) t => Wd D k A a G1 t.heap) A) 0 0 A := by
  refine Met.ofW (cc := cX12_told) (maxL := 5) (ret := (some .int)) (by decide) rfl ?_
  intro p e s m args below meth c s₁ B hml hv
  obtain ⟨rfl, hW, hB_G, hK, hZ⟩ := hv
  have hx := B.exec
  have hb := B.bytes
  have hr := B.returns
  have hts := atoms_spec (ws := WS yX12_told cX12_told 5 (some .int)) B.pre
  have hgd : ∀ w ∈ gd, w ∈ WS yX12_told cX12_told 5 (some .int) := fun w h => List.mem_cons_of_mem _ h
  have hg : ∀ w ∈ gd, w.before _ s = true := fun w h => hts w (hgd w h)
  have hown : s.vm.findClass RX12 = some m.cls := findClass_of_methodNamed B.named
  have hS : va_S A s.heap s.heap [] := va_S.rf
  have hF : Fr [] [(66, 2), (66, 3), (66, 4), (66, 6), (66, 7), (66, 8), (66, 9)] G G := Fr.rf
  have hl := lv_entry ([.ref (a 66), .long p0, .int p1, .int p2]) (n := 5) (Nat.le_of_ble_eq_true rfl)
  rw [lg_entry_eq]
  generalize (lg_sl ([.ref (a 66), .long p0, .int p1, .int p2]) ++ List.replicate (5 - (lg_sl ([.ref (a 66), .long p0, .int p1, .int p2])).length) Slot.unset).toArray = ls at hl ⊢
  have hl : lv_has ls 5 [(0, .ref (a 66)), (1, .long p0), (3, .int p1), (4, .int p2)] := hl
  refine lv_aload_n hx hb dX12_told_0 rfl (lv_at hl 0 rfl) ?_
  refine lv_lload_n hx hb dX12_told_1 rfl (lv_at hl 1 rfl) ?_
  refine S_callv (va_runV (As := [.long p0]) (rest := []) ⟨hx, hb, hml, hown, hts⟩ (n_want l D k A a z G p0 ) (cwV 1 hts (gd_V hgd m1678 m1680 m61 m131 m1681) rfl rfl rfl hd_X12_want ⟨Nat.le_of_ble_eq_true rfl, Nat.le_of_ble_eq_true rfl⟩) (pre_W hW hB_G hK hZ hS kd_66 rfl) rfl rfl hl.1 rfl (lv_room (Nat.le_of_ble_eq_true rfl)) dX12_told_2 ⟨Nat.le_of_ble_eq_true rfl, Nat.le_of_ble_eq_true rfl⟩) hS (fun G_2 H locs hpo hW hS => ?_)
  have hX_5 : Q_want p0 G G_2 := hpo
  obtain ⟨hB_G_2, hq_3, ⟨d_1, d_2, d_3⟩, -⟩ := hpo
  have hF := hF.call9 hq_3 rfl rfl
  refine lv_aload_n hx hb dX12_told_5 rfl (lv_at hl 0 rfl) ?_
  refine lv_iload_n hx hb dX12_told_6 rfl (lv_at hl 2 rfl) ?_
  refine lv_iload hx hb dX12_told_7 (lv_at hl 3 rfl) ?_
  have b_6 : 0 ≤ (G_2.1 66 2).toInt ∧ (G_2.1 66 2).toInt ≤ 4 := bd_66_2 hB_G_2
  have b_7 : 0 ≤ (G_2.1 66 4).toInt ∧ (G_2.1 66 4).toInt ≤ 1600 := bd_66_4 hB_G_2
  refine S_calli (va_runV (As := [.int p1, .int p2]) (rest := []) ⟨hx, hb, hml, hown, hts⟩ (n_told l D k A a z G_2 p1 p2 ) (cwV 2 hts (gd_V hgd m1682 m1684 m62 m131 m1685) rfl rfl rfl hd_X12_toldNumber ⟨Nat.le_of_ble_eq_true rfl, Nat.le_of_ble_eq_true rfl⟩) (pre_W hW hB_G_2 hK hZ hS kd_66 rfl) rfl rfl hl.1 rfl (lv_room (Nat.le_of_ble_eq_true rfl)) dX12_told_9 ⟨Nat.le_of_ble_eq_true rfl, Nat.le_of_ble_eq_true rfl⟩) hS (fun r_8 G_9 H locs hpo hW hS => ?_)
  have hX_12 : Q_told p1 p2 G_2 r_8 G_9 := hpo
  obtain ⟨hB_G_9, hq_10, ⟨d_4, d_5, d_6, d_7⟩, -⟩ := hpo
  have hF := hF.call9 hq_10 rfl rfl
  have b_13 : 0 ≤ (G_9.1 66 2).toInt ∧ (G_9.1 66 2).toInt ≤ 4 := bd_66_2 hB_G_9
  have b_14 : 0 ≤ (G_9.1 66 4).toInt ∧ (G_9.1 66 4).toInt ≤ 1600 := bd_66_4 hB_G_9
  exact W.iret (v := r_8) hx hb hr (fun t ht _ => ⟨⟨r_8, G_9, rfl, (Q_told2_mk ⟨hB_G_9, hF, ((by first | exact ⟨(by first | exact ok_624 d_1 d_4 | omega), ⟨(fun h9 => by have q0_ := d_2 (by first | (clear d_2 d_3 b_6 d_5 d_6 d_7 b_13; omega) | omega); have q1_ := d_5 (by first | (clear d_2 d_3 b_6 d_5 d_6 d_7 b_13; omega) | omega); (first | (clear d_1 d_2 d_3 b_6 b_7 d_4 d_5 d_6 d_7 b_13 b_14; omega) | omega)), ⟨(fun h9 => (by first | exact ok_625 d_3 d_6 h9 | omega)), (fun h9 => ⟨(by first | exact ok_626 d_7 b_13.1 h9 | omega), (by first | exact ok_627 d_7 b_13.1 h9 | omega)⟩)⟩⟩⟩ | omega)), ⟨G_2, hX_5, ⟨r_8, G_9, hX_12, ⟨rfl, rfl⟩⟩⟩⟩), wd_t ht hW⟩, hS.F ht⟩) hS.2.2 dX12_told_12

set_option maxHeartbeats 4000000 in
set_option maxRecDepth 100000 in
theorem n_newName (l : Launch) (D : va_G) (k : KT) (A : Nat → Prop) (a : Nat → Nat) (z : SK) (G : GS) (p0 : Int32) (p1 : Int32) (ha_p0 : 0 ≤ p0.toInt ∧ p0.toInt ≤ 7) (ha_p1 : 0 ≤ p1.toInt ∧ p1.toInt ≤ 6) : Met l yX12_newName (WS yX12_newName cX12_newName 4 none) ({ frames := 3, cells := 0, slots := 0, locals := 60 }) (va_Pc [.ref (a 66), .int p0, .int p1] (cW D k A a z G)) (va_Qv (fun (G1 : GS) => Q_newName p0 p1 G G1) (fun (G1 : GS) t => Wd D k A a G1 t.heap) A) 0 0 A := by
  refine Met.ofW (cc := cX12_newName) (maxL := 4) (ret := none) (by decide) rfl ?_
  intro p e s m args below meth c s₁ B hml hv
  obtain ⟨rfl, hW, hB_G, hK, hZ⟩ := hv
  have hx := B.exec
  have hb := B.bytes
  have hr := B.returns
  have hts := atoms_spec (ws := WS yX12_newName cX12_newName 4 none) B.pre
  have hgd : ∀ w ∈ gd, w ∈ WS yX12_newName cX12_newName 4 none := fun w h => List.mem_cons_of_mem _ h
  have hg : ∀ w ∈ gd, w.before _ s = true := fun w h => hts w (hgd w h)
  have hown : s.vm.findClass RX12 = some m.cls := findClass_of_methodNamed B.named
  have hS : va_S A s.heap s.heap [] := va_S.rf
  have hF : Fr [68] [(66, 2), (66, 3), (66, 4), (66, 6), (66, 7), (66, 8), (66, 9)] G G := Fr.rf
  have hl := lv_entry ([.ref (a 66), .int p0, .int p1]) (n := 4) (Nat.le_of_ble_eq_true rfl)
  rw [lg_entry_eq]
  generalize (lg_sl ([.ref (a 66), .int p0, .int p1]) ++ List.replicate (4 - (lg_sl ([.ref (a 66), .int p0, .int p1])).length) Slot.unset).toArray = ls at hl ⊢
  have hl : lv_has ls 4 [(0, .ref (a 66)), (1, .int p0), (2, .int p1)] := hl
  refine lv_aload_n hx hb dX12_newName_0 rfl (lv_at hl 0 rfl) ?_
  refine S_callv (va_runV (As := []) (rest := []) ⟨hx, hb, hml, hown, hts⟩ (n_token l D k A a z G  ) (cwV 0 hts (gd_V hgd m1602 m1604 m50 m131 m1605) rfl rfl rfl hd_X12_token ⟨Nat.le_of_ble_eq_true rfl, Nat.le_of_ble_eq_true rfl⟩) (pre_W hW hB_G hK hZ hS kd_66 rfl) rfl rfl hl.1 rfl (lv_room (Nat.le_of_ble_eq_true rfl)) dX12_newName_1 ⟨Nat.le_of_ble_eq_true rfl, Nat.le_of_ble_eq_true rfl⟩) hS (fun G_2 H locs hpo hW hS => ?_)
  have hX_5 : Q_token G G_2 := hpo
  obtain ⟨hB_G_2, hq_3, ⟨d_1, d_2⟩, -⟩ := hpo
  have hF := hF.call9 hq_3 rfl rfl
  refine lv_aload_n hx hb dX12_newName_4 rfl (lv_at hl 0 rfl) ?_
  refine S_calli (va_runV (As := []) (rest := []) ⟨hx, hb, hml, hown, hts⟩ (n_isName l D k A a z G_2  ) (cwV 0 hts (gd_V hgd m1636 m1638 m56 m131 m1639) rfl rfl rfl hd_X12_isName ⟨Nat.le_of_ble_eq_true rfl, Nat.le_of_ble_eq_true rfl⟩) (pre_W hW hB_G_2 hK hZ hS kd_66 rfl) rfl rfl hl.1 rfl (lv_room (Nat.le_of_ble_eq_true rfl)) dX12_newName_5 ⟨Nat.le_of_ble_eq_true rfl, Nat.le_of_ble_eq_true rfl⟩) hS (fun r_6 G_7 H locs hpo hW hS => ?_)
  have hX_10 : Q_isName G_2 r_6 G_7 := hpo
  obtain ⟨hB_G_7, hq_8, f_11, -⟩ := hpo
  have hF := hF.call9 hq_8 rfl rfl
  refine W.cut (σ := Unit) (pcJ := 16) (J := fun y H locs ls => ∃ (G_15 : GS), (1 ≤ (G.1 66 2).toInt → 1 ≤ (G_15.1 66 2).toInt) ∧ Jn_n_newName_1 r_6 G_7 G_15 ∧ Wd D k A a G_15 H ∧ Bd G_15 ∧ Fr [68] [(66, 2), (66, 3), (66, 4), (66, 6), (66, 7), (66, 8), (66, 9)] G G_15 ∧ Fr [] [(66, 2), (66, 3)] G_7 G_15 ∧ va_S A s.heap H locs ∧ lv_has ls 4 [(0, .ref (a 66)), (1, .int p0), (2, .int p1)]) (stJ := fun _ => []) ?_ (fun hJ_16 => ?_)
  · intro y H locs ls hI
    obtain ⟨G_15, f_19, hX_18, hW, hB_G_15, hF, hq_17, hS, hl⟩ := hI
    have b_20 : 0 ≤ (G_15.1 66 2).toInt ∧ (G_15.1 66 2).toInt ≤ 4 := bd_66_2 hB_G_15
    refine ic_0 hx hb dX12_newName_16 ?_
    refine lv_istore_n (lv' := [(3, .int 0), (0, .ref (a 66)), (1, .int p0), (2, .int p1)]) hx hb dX12_newName_17 rfl hl (lt_b rfl) rfl (fun ls hl => ?_)
    have qc_27 : (0 : Int32).toInt = 0 := rfl
    refine loop_N (Inv := fun n H locs ls => ∃ (G_21 : GS) (x_25 : Int32), (n : Int) = 6 - x_25.toInt ∧ (0 ≤ x_25.toInt ∧ x_25.toInt ≤ 6) ∧ (1 ≤ (G.1 66 2).toInt → 1 ≤ (G_21.1 66 2).toInt) ∧ Rc (St_n_newName_2 p0 p1 G G_2) (0, G_15) (x_25, G_21) ∧ Wd D k A a G_21 H ∧ Bd G_21 ∧ Fr [68] [(66, 2), (66, 3), (66, 4), (66, 6), (66, 7), (66, 8), (66, 9)] G G_21 ∧ Fr [] [(66, 2), (66, 3)] G_15 G_21 ∧ va_S A s.heap H locs ∧ lv_has ls 4 [(3, .int x_25), (0, .ref (a 66)), (1, .int p0), (2, .int p1)]) (fun n_24 H locs ls ih_23 hI => ?_) (6 - 0 : Int).toNat ⟨G_15, 0, (Int.toNat_of_nonneg ((by decide))), ⟨(by decide), (by decide)⟩, ((by first | (clear ha_p0 ha_p1 d_1 d_2 f_11; omega) | omega)), Rc.rf, hW, hB_G_15, hF, Fr.rf, hS, lv_sub hl [0, 1, 2, 3] rfl⟩
    obtain ⟨G_21, x_25, hn_30, f_28, f_29, hX_26, hW, hB_G_21, hF, hq_22, hS, hl⟩ := hI
    have b_31 : 0 ≤ (G_21.1 66 2).toInt ∧ (G_21.1 66 2).toInt ≤ 4 := bd_66_2 hB_G_21
    refine lv_iload_n hx hb dX12_newName_18 rfl (lv_at hl 0 rfl) ?_
    refine lv_iload_n hx hb dX12_newName_19 rfl (lv_at hl 3 rfl) ?_
    refine lv_icmp_ge (tgt := 57) hx hb dX12_newName_20 rfl (fun c_32 => ?_) (fun c_32 => ?_)
    · have c_32 : p1.toInt ≤ x_25.toInt := xI_le rfl rfl c_32
      refine lv_aload_n hx hb dX12_newName_57 rfl (lv_at hl 1 rfl) ?_
      refine S_getI (v := (G_21.1 66 2)) (C := RX12) (T := TX12) (N := 89) hx hb hg iX12 hown hK hW kd_66 rfl 2 (lt_b rfl) (hg (Cond.fieldLink RX12 218 "SlabWalkModel" "fault" "I") m1316) (fun _ h9 => h9) rfl rfl dX12_newName_58 ?_
      refine lv_if_le (tgt := 65) hx hb dX12_newName_61 rfl (fun c_33 => ?_) (fun c_33 => ?_)
      · have c_33 : (G_21.1 66 2).toInt ≤ 0 := xI_le rfl rfl c_33
        refine lv_aload_n hx hb dX12_newName_65 rfl (lv_at hl 1 rfl) ?_
        refine S_getR (n := 68) (C := RX12) (T := TX12) (N := 89) hx hb hg iX12 hown hK hW kd_66 rfl 10 (lt_b rfl) (hg (Cond.fieldLink RX12 17 "SlabWalkModel" "nName" "[J") m1324) (fun _ h9 => h9) rfl dX12_newName_66 ?_
        refine lv_iload_n hx hb dX12_newName_69 rfl (lv_at hl 2 rfl) ?_
        refine lv_iload_n hx hb dX12_newName_70 rfl (lv_at hl 3 rfl) ?_
        refine lv_iadd hx hb dX12_newName_71 ?_
        refine lv_topi (fun y_34 ey_34 => ?_)
        have ty_34 : y_34.toInt = p0.toInt + p1.toInt := xI_add rfl rfl ey_34 ((by first | exact ok_15 ha_p0.1 ha_p1.1 | omega)) ((by first | exact ok_628 ha_p0.2 ha_p1.2 | omega))
        refine lv_aload_n hx hb dX12_newName_72 rfl (lv_at hl 1 rfl) ?_
        obtain ⟨y_35, ey_35⟩ : ∃ q, G_21.2.1 66 9 = q := ⟨_, rfl⟩
        refine S_getL (v := y_35) (C := RX12) (T := TX12) (N := 89) hx hb hg iX12 hown hK hW kd_66 rfl 9 (lt_b rfl) (hg (Cond.fieldLink RX12 198 "SlabWalkModel" "word" "J") m1323) (fun _ h9 => h9) rfl ey_35 dX12_newName_73 ?_
        refine S_last hx hb hK hW hS kd_68 (vin ((by first | exact ok_105 ha_p0.1 ha_p1.1 ty_34 | omega)) ((by first | exact ok_629 ha_p0.2 ha_p1.2 ty_34 | omega))) dX12_newName_76 (fun G_36 H locs eG_36 hW hS => ?_)
        have hB_G_36 : Bd G_36 := hB_G_21.putl eG_36
        have hF := hF.putl eG_36 (Or.inl (by decide))
        refine lv_aload_n hx hb dX12_newName_77 rfl (lv_at hl 1 rfl) ?_
        have b_37 : 0 ≤ (G_2.1 66 4).toInt ∧ (G_2.1 66 4).toInt ≤ 1600 := bd_66_4 hB_G_2
        have g_38 : (G_36.1 66 4).toInt = (G_2.1 66 4).toInt := (congrArg Int32.toInt (show G_36.1 66 4 = (G_2.1 66 4) from ((congrFun (congrFun (gp_l eG_36).1 66) 4).trans ((hq_22.i9 66 4 rfl rfl).trans ((hq_17.i9 66 4 rfl rfl).trans (hq_8.i9 66 4 rfl rfl))))))
        have g_39 : (G_36.1 66 6).toInt = (G_2.1 66 6).toInt := (congrArg Int32.toInt (show G_36.1 66 6 = (G_2.1 66 6) from ((congrFun (congrFun (gp_l eG_36).1 66) 6).trans ((hq_22.i9 66 6 rfl rfl).trans ((hq_17.i9 66 6 rfl rfl).trans (hq_8.i9 66 6 rfl rfl))))))
        refine S_callv (va_runV (As := []) (rest := []) ⟨hx, hb, hml, hown, hts⟩ (n_token l D k A a z G_36  ) (cwV 0 hts (gd_V hgd m1602 m1604 m50 m131 m1605) rfl rfl rfl hd_X12_token ⟨Nat.le_of_ble_eq_true rfl, Nat.le_of_ble_eq_true rfl⟩) (pre_W hW hB_G_36 hK hZ hS kd_66 rfl) rfl rfl hl.1 rfl (lv_room (Nat.le_of_ble_eq_true rfl)) dX12_newName_78 ⟨Nat.le_of_ble_eq_true rfl, Nat.le_of_ble_eq_true rfl⟩) hS (fun G_41 H locs hpo hW hS => ?_)
        have hX_44 : Q_token G_36 G_41 := hpo
        obtain ⟨hB_G_41, hq_42, ⟨d_3, d_4⟩, -⟩ := hpo
        have hF := hF.call9 hq_42 rfl rfl
        have g_45 : (G_41.1 66 2).toInt = (G_21.1 66 2).toInt := (congrArg Int32.toInt (show G_41.1 66 2 = (G_21.1 66 2) from ((hq_42.i9 66 2 rfl rfl).trans ((congrFun (congrFun (gp_l eG_36).1 66) 2).trans (rfl)))))
        have b_46 : 0 ≤ (G_41.1 66 4).toInt ∧ (G_41.1 66 4).toInt ≤ 1600 := bd_66_4 hB_G_41
        exact W.vret hx hb hr (fun t ht _ => ⟨⟨G_41, rfl, (Q_newName_mk ⟨hB_G_41, hF, ((by first | exact ⟨(by first | exact ok_630 d_1 g_38 d_3 | omega), ⟨(fun h9 => by have q0_ := d_2 (by first | (clear ha_p0 ha_p1 d_2 f_11 f_19 b_20 hn_30 f_28 f_29 b_31 c_32 c_33 ty_34 g_39 d_4 g_45; omega) | omega); have q1_ := d_4 (by first | (clear ha_p0 ha_p1 d_2 f_11 f_19 b_20 hn_30 f_28 f_29 b_31 c_32 c_33 ty_34 g_39 d_4 g_45; omega) | omega); (first | (clear ha_p0 ha_p1 d_1 d_2 f_11 f_19 b_20 hn_30 f_28 f_29 b_31 c_32 c_33 ty_34 b_37 g_38 d_3 d_4 g_45 b_46; omega) | omega)), (fun h9 => (by first | exact ok_631 f_29 b_31.1 g_45 h9 | omega))⟩⟩ | omega)), ⟨G_2, hX_5, ⟨r_6, G_7, hX_10, ⟨G_15, hX_18, f_19, hB_G_15, hq_17, ⟨x_25, G_21, hX_26, f_28, f_29, hB_G_21, hq_22, ⟨c_32, (Or.inl ⟨c_33, ⟨y_34, ty_34, ⟨y_35, ey_35.symm.trans (((hq_22.l9 66 9 rfl rfl).trans ((hq_17.l9 66 9 rfl rfl).trans (hq_8.l9 66 9 rfl rfl)))), ⟨G_36, hB_G_36, (Fr.putl (rs := [68]) (fs := []) Fr.rf eG_36 (Or.inl (by decide))), rl_ast eG_36, ⟨G_41, hX_44, rfl⟩⟩⟩⟩⟩)⟩⟩⟩⟩⟩⟩), wd_t ht hW⟩, hS.F ht⟩) hS.2.2 dX12_newName_81
      · have c_33 : 0 < (G_21.1 66 2).toInt := xI_nle rfl rfl c_33
        have b_47 : 0 ≤ (G_2.1 66 4).toInt ∧ (G_2.1 66 4).toInt ≤ 1600 := bd_66_4 hB_G_2
        have g_48 : (G_21.1 66 4).toInt = (G_2.1 66 4).toInt := (congrArg Int32.toInt (show G_21.1 66 4 = (G_2.1 66 4) from ((hq_22.i9 66 4 rfl rfl).trans ((hq_17.i9 66 4 rfl rfl).trans (hq_8.i9 66 4 rfl rfl)))))
        have g_49 : (G_21.1 66 6).toInt = (G_2.1 66 6).toInt := (congrArg Int32.toInt (show G_21.1 66 6 = (G_2.1 66 6) from ((hq_22.i9 66 6 rfl rfl).trans ((hq_17.i9 66 6 rfl rfl).trans (hq_8.i9 66 6 rfl rfl)))))
        exact W.vret hx hb hr (fun t ht _ => ⟨⟨G_21, rfl, (Q_newName_mk ⟨hB_G_21, hF, ((by first | exact ⟨(by first | exact ok_347 d_1 g_48 | omega), ⟨(fun h9 => by have q0_ := d_2 (by first | (clear ha_p0 ha_p1 d_2 f_11 f_19 b_20 hn_30 f_28 f_29 b_31 c_32 c_33 g_49; omega) | omega); (first | (clear ha_p0 ha_p1 d_1 d_2 f_11 f_19 b_20 hn_30 f_28 f_29 b_31 c_32 c_33 b_47 g_48; omega) | omega)), (fun h9 => (by first | exact ok_618 c_33 | omega))⟩⟩ | omega)), ⟨G_2, hX_5, ⟨r_6, G_7, hX_10, ⟨G_15, hX_18, f_19, hB_G_15, hq_17, ⟨x_25, G_21, hX_26, f_28, f_29, hB_G_21, hq_22, ⟨c_32, (Or.inr ⟨c_33, rfl⟩)⟩⟩⟩⟩⟩⟩), wd_t ht hW⟩, hS.F ht⟩) hS.2.2 dX12_newName_64
    · have c_32 : x_25.toInt < p1.toInt := xI_nle rfl rfl c_32
      refine lv_aload_n hx hb dX12_newName_23 rfl (lv_at hl 1 rfl) ?_
      refine S_getI (v := (G_21.1 66 2)) (C := RX12) (T := TX12) (N := 89) hx hb hg iX12 hown hK hW kd_66 rfl 2 (lt_b rfl) (hg (Cond.fieldLink RX12 218 "SlabWalkModel" "fault" "I") m1316) (fun _ h9 => h9) rfl rfl dX12_newName_24 ?_
      refine lv_if_ne (tgt := 51) hx hb dX12_newName_27 rfl (fun c_50 => ?_) (fun c_50 => ?_)
      · have c_50 : (G_21.1 66 2).toInt ≠ 0 := xI_ne rfl rfl c_50
        obtain ⟨y_51, ey_51⟩ : ∃ q, q = x_25 + 1 := ⟨_, rfl⟩
        have ty_51 : y_51.toInt = x_25.toInt + 1 := xI_add rfl rfl ey_51 ((by first | exact ok_21 f_28.1 | omega)) ((by first | exact ok_157 f_28.2 | omega))
        refine lv_iinc (v := y_51) (lv' := [(3, .int y_51), (0, .ref (a 66)), (1, .int p0), (2, .int p1)]) hx hb dX12_newName_51 hl (k := 0) rfl (by rw [ey_51]; rfl) (lt_b rfl) rfl (fun ls hl => ?_)
        refine lv_goto (tgt := 18) hx hb dX12_newName_54 rfl ?_
        exact ih_23 (6 - y_51.toInt : Int).toNat ((by first | (clear ha_p0 d_1 d_2 f_11 f_19 b_20 f_29 b_31 c_50; omega) | omega)) _ _ _ ⟨G_21, y_51, (Int.toNat_of_nonneg ((by first | exact ok_632 ha_p1.2 f_28.2 c_32 ty_51 | omega))), ⟨(by first | exact ok_23 f_28.1 ty_51 | omega), (by first | exact ok_633 ha_p1.2 f_28.2 c_32 ty_51 | omega)⟩, ((by first | (clear ha_p0 ha_p1 d_1 d_2 f_11 hn_30 f_28 c_32 ty_51; omega) | omega)), (hX_26.st (St_n_newName_2_mk ⟨x_25, G_21, y_51, G_21, rfl, rfl, f_28, f_29, hB_G_21, ⟨c_32, (Or.inr ⟨c_50, ⟨y_51, ty_51, ⟨rfl, rfl⟩⟩⟩)⟩⟩)), hW, hB_G_21, hF, (Fr.call9 (rs := []) (fs := [(66, 2), (66, 3)]) Fr.rf hq_22 rfl rfl), hS, lv_sub hl [0, 1, 2, 3] rfl⟩
      · have c_50 : (G_21.1 66 2).toInt = 0 := xI_eq rfl rfl c_50
        refine lv_aload_n hx hb dX12_newName_30 rfl (lv_at hl 1 rfl) ?_
        refine S_getR (n := 68) (C := RX12) (T := TX12) (N := 89) hx hb hg iX12 hown hK hW kd_66 rfl 10 (lt_b rfl) (hg (Cond.fieldLink RX12 17 "SlabWalkModel" "nName" "[J") m1324) (fun _ h9 => h9) rfl dX12_newName_31 ?_
        refine lv_iload_n hx hb dX12_newName_34 rfl (lv_at hl 2 rfl) ?_
        refine lv_iload_n hx hb dX12_newName_35 rfl (lv_at hl 0 rfl) ?_
        refine lv_iadd hx hb dX12_newName_36 ?_
        refine lv_topi (fun y_52 ey_52 => ?_)
        have ty_52 : y_52.toInt = p0.toInt + x_25.toInt := xI_add rfl rfl ey_52 ((by first | exact ok_15 ha_p0.1 f_28.1 | omega)) ((by first | exact ok_628 ha_p0.2 f_28.2 | omega))
        refine S_lald hx hb hK hW kd_68 (vin ((by first | exact ok_105 ha_p0.1 f_28.1 ty_52 | omega)) ((by first | exact ok_629 ha_p0.2 f_28.2 ty_52 | omega))) dX12_newName_37 (fun y_53 ey_53 => ?_)
        refine lv_aload_n hx hb dX12_newName_38 rfl (lv_at hl 1 rfl) ?_
        obtain ⟨y_54, ey_54⟩ : ∃ q, G_21.2.1 66 9 = q := ⟨_, rfl⟩
        refine S_getL (v := y_54) (C := RX12) (T := TX12) (N := 89) hx hb hg iX12 hown hK hW kd_66 rfl 9 (lt_b rfl) (hg (Cond.fieldLink RX12 198 "SlabWalkModel" "word" "J") m1323) (fun _ h9 => h9) rfl ey_54 dX12_newName_39 ?_
        refine W.lcmp hx hb dX12_newName_42 ?_
        refine lv_topi (fun y_55 ey_55 => ?_)
        have ty_55 := lcmp_rng ey_55
        refine lv_if_ne (tgt := 51) hx hb dX12_newName_43 rfl (fun c_56 => ?_) (fun c_56 => ?_)
        · have c_56 : y_55.toInt ≠ 0 := xI_ne rfl rfl c_56
          obtain ⟨y_57, ey_57⟩ : ∃ q, q = x_25 + 1 := ⟨_, rfl⟩
          have ty_57 : y_57.toInt = x_25.toInt + 1 := xI_add rfl rfl ey_57 ((by first | exact ok_21 f_28.1 | omega)) ((by first | exact ok_157 f_28.2 | omega))
          refine lv_iinc (v := y_57) (lv' := [(3, .int y_57), (0, .ref (a 66)), (1, .int p0), (2, .int p1)]) hx hb dX12_newName_51 hl (k := 0) rfl (by rw [ey_57]; rfl) (lt_b rfl) rfl (fun ls hl => ?_)
          refine lv_goto (tgt := 18) hx hb dX12_newName_54 rfl ?_
          exact ih_23 (6 - y_57.toInt : Int).toNat ((by first | (clear d_1 d_2 f_11 f_19 b_20 f_29 b_31 c_50 ty_55 c_56; omega) | omega)) _ _ _ ⟨G_21, y_57, (Int.toNat_of_nonneg ((by first | exact ok_632 ha_p1.2 f_28.2 c_32 ty_57 | omega))), ⟨(by first | exact ok_23 f_28.1 ty_57 | omega), (by first | exact ok_633 ha_p1.2 f_28.2 c_32 ty_57 | omega)⟩, ((by first | (clear ha_p0 ha_p1 d_1 d_2 f_11 hn_30 f_28 c_32 ty_52 ty_55 c_56 ty_57; omega) | omega)), (hX_26.st (St_n_newName_2_mk ⟨x_25, G_21, y_57, G_21, rfl, rfl, f_28, f_29, hB_G_21, ⟨c_32, (Or.inl ⟨c_50, ⟨y_52, ty_52, ⟨y_53, ey_53, ⟨y_54, ey_54.symm.trans (((hq_22.l9 66 9 rfl rfl).trans ((hq_17.l9 66 9 rfl rfl).trans (hq_8.l9 66 9 rfl rfl)))), ⟨y_55, ey_55, (Or.inr ⟨c_56, ⟨y_57, ty_57, ⟨rfl, rfl⟩⟩⟩)⟩⟩⟩⟩⟩)⟩⟩)), hW, hB_G_21, hF, (Fr.call9 (rs := []) (fs := [(66, 2), (66, 3)]) Fr.rf hq_22 rfl rfl), hS, lv_sub hl [0, 1, 2, 3] rfl⟩
        · have c_56 : y_55.toInt = 0 := xI_eq rfl rfl c_56
          refine lv_aload_n hx hb dX12_newName_46 rfl (lv_at hl 1 rfl) ?_
          refine ic_3 hx hb dX12_newName_47 ?_
          have qc_58 : (3 : Int32).toInt = 3 := rfl
          refine S_callv (va_runV (As := [.int 3]) (rest := []) ⟨hx, hb, hml, hown, hts⟩ (n_wrong l D k A a z G_21 3 ⟨by decide, by decide⟩) (cwV 1 hts (gd_V hgd m1670 m1672 m59 m131 m1673) rfl rfl rfl hd_X12_wrong ⟨Nat.le_of_ble_eq_true rfl, Nat.le_of_ble_eq_true rfl⟩) (pre_W hW hB_G_21 hK hZ hS kd_66 rfl) rfl rfl hl.1 rfl (lv_room (Nat.le_of_ble_eq_true rfl)) dX12_newName_48 ⟨Nat.le_of_ble_eq_true rfl, Nat.le_of_ble_eq_true rfl⟩) hS (fun G_60 H locs hpo hW hS => ?_)
          have hX_63 : Q_wrong 3 G_21 G_60 := hpo
          obtain ⟨hB_G_60, hq_61, hp_62, -⟩ := hpo
          have hF := hF.call9 hq_61 rfl rfl
          obtain ⟨y_64, ey_64⟩ : ∃ q, q = x_25 + 1 := ⟨_, rfl⟩
          have ty_64 : y_64.toInt = x_25.toInt + 1 := xI_add rfl rfl ey_64 ((by first | exact ok_21 f_28.1 | omega)) ((by first | exact ok_157 f_28.2 | omega))
          refine lv_iinc (v := y_64) (lv' := [(3, .int y_64), (0, .ref (a 66)), (1, .int p0), (2, .int p1)]) hx hb dX12_newName_51 hl (k := 0) rfl (by rw [ey_64]; rfl) (lt_b rfl) rfl (fun ls hl => ?_)
          refine lv_goto (tgt := 18) hx hb dX12_newName_54 rfl ?_
          have b_65 : 0 ≤ (G_60.1 66 2).toInt ∧ (G_60.1 66 2).toInt ≤ 4 := bd_66_2 hB_G_60
          exact ih_23 (6 - y_64.toInt : Int).toNat ((by first | (clear d_1 d_2 f_11 f_19 b_20 f_29 b_31 c_50 ty_55 c_56 hp_62 b_65; omega) | omega)) _ _ _ ⟨G_60, y_64, (Int.toNat_of_nonneg ((by first | exact ok_632 ha_p1.2 f_28.2 c_32 ty_64 | omega))), ⟨(by first | exact ok_23 f_28.1 ty_64 | omega), (by first | exact ok_633 ha_p1.2 f_28.2 c_32 ty_64 | omega)⟩, ((by first | (clear ha_p0 ha_p1 d_1 d_2 f_11 hn_30 f_28 c_32 ty_52 ty_55 c_56 ty_64; omega) | omega)), (hX_26.st (St_n_newName_2_mk ⟨x_25, G_21, y_64, G_60, rfl, rfl, f_28, f_29, hB_G_21, ⟨c_32, (Or.inl ⟨c_50, ⟨y_52, ty_52, ⟨y_53, ey_53, ⟨y_54, ey_54.symm.trans (((hq_22.l9 66 9 rfl rfl).trans ((hq_17.l9 66 9 rfl rfl).trans (hq_8.l9 66 9 rfl rfl)))), ⟨y_55, ey_55, (Or.inl ⟨c_56, ⟨G_60, hX_63, ⟨y_64, ty_64, ⟨rfl, rfl⟩⟩⟩⟩)⟩⟩⟩⟩⟩)⟩⟩)), hW, hB_G_60, hF, (Fr.call9 (rs := []) (fs := [(66, 2), (66, 3)]) (Fr.call9 (rs := []) (fs := [(66, 2), (66, 3)]) Fr.rf hq_22 rfl rfl) hq_61 rfl rfl), hS, lv_sub hl [0, 1, 2, 3] rfl⟩
  refine lv_if_ne (tgt := 16) hx hb dX12_newName_8 rfl (fun c_66 => ?_) (fun c_66 => ?_)
  · have c_66 : r_6.toInt ≠ 0 := xI_ne rfl rfl c_66
    have b_67 : 0 ≤ (G.1 66 2).toInt ∧ (G.1 66 2).toInt ≤ 4 := bd_66_2 hB_G
    have g_68 : (G_7.1 66 2).toInt = (G.1 66 2).toInt := (congrArg Int32.toInt (show G_7.1 66 2 = (G.1 66 2) from ((hq_8.i9 66 2 rfl rfl).trans (hq_3.i9 66 2 rfl rfl))))
    exact hJ_16 () _ _ _ ⟨G_7, ((by first | (clear ha_p0 ha_p1 d_1 d_2 f_11 c_66; omega) | omega)), (Jn_n_newName_1_mk (Or.inr ⟨c_66, rfl⟩)), hW, hB_G_7, hF, (Fr.rf (rs := []) (fs := [(66, 2), (66, 3)])), hS, lv_sub hl [0, 1, 2] rfl⟩
  · have c_66 : r_6.toInt = 0 := xI_eq rfl rfl c_66
    refine lv_aload_n hx hb dX12_newName_11 rfl (lv_at hl 0 rfl) ?_
    refine ic_2 hx hb dX12_newName_12 ?_
    have qc_69 : (2 : Int32).toInt = 2 := rfl
    refine S_callv (va_runV (As := [.int 2]) (rest := []) ⟨hx, hb, hml, hown, hts⟩ (n_wrong l D k A a z G_7 2 ⟨by decide, by decide⟩) (cwV 1 hts (gd_V hgd m1670 m1672 m59 m131 m1673) rfl rfl rfl hd_X12_wrong ⟨Nat.le_of_ble_eq_true rfl, Nat.le_of_ble_eq_true rfl⟩) (pre_W hW hB_G_7 hK hZ hS kd_66 rfl) rfl rfl hl.1 rfl (lv_room (Nat.le_of_ble_eq_true rfl)) dX12_newName_13 ⟨Nat.le_of_ble_eq_true rfl, Nat.le_of_ble_eq_true rfl⟩) hS (fun G_71 H locs hpo hW hS => ?_)
    have hX_74 : Q_wrong 2 G_7 G_71 := hpo
    obtain ⟨hB_G_71, hq_72, hp_73, -⟩ := hpo
    have hF := hF.call9 hq_72 rfl rfl
    have b_75 : 0 ≤ (G_71.1 66 2).toInt ∧ (G_71.1 66 2).toInt ≤ 4 := bd_66_2 hB_G_71
    exact hJ_16 () _ _ _ ⟨G_71, ((by first | (clear ha_p0 ha_p1 d_1 d_2 f_11 c_66; omega) | omega)), (Jn_n_newName_1_mk (Or.inl ⟨c_66, ⟨G_71, hX_74, rfl⟩⟩)), hW, hB_G_71, hF, (Fr.call9 (rs := []) (fs := [(66, 2), (66, 3)]) Fr.rf hq_72 rfl rfl), hS, lv_sub hl [0, 1, 2] rfl⟩
