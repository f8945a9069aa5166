theorem m48 : Cond.selects RX12 yX12_four yX12_four ∈ gd := gds_4 0 rfl
theorem m131 : Cond.initialized RX12 ∈ gd := gdc_1_0 15 rfl gw_initialized
theorem m1314 : Cond.fieldLink RX12 7 "SlabWalkModel" "tape" "[I" ∈ gd := gdc_5_14 14 rfl gw_fieldLink
theorem m1315 : Cond.fieldLink RX12 178 "SlabWalkModel" "taped" "I" ∈ gd := gdc_5_14 15 rfl gw_fieldLink
theorem m1318 : Cond.fieldLink RX12 185 "SlabWalkModel" "at" "I" ∈ gd := gdc_6_0 2 rfl gw_fieldLink
theorem m1319 : Cond.fieldLink RX12 188 "SlabWalkModel" "size" "I" ∈ gd := gdc_6_0 3 rfl gw_fieldLink
theorem m1586 : Cond.methodLink RX12 181 yX12_four ∈ gd := gdc_7_1 14 rfl gw_methodLink
theorem m1588 : Cond.instanceMethod yX12_four ∈ gd := gdc_7_2 0 rfl gw_instanceMethod
theorem m1589 : Cond.code yX12_four cX12_four 3 none ∈ gd := gdc_7_2 1 rfl gw_code
def rbX12_end_0 : List (Nat × List Nat) := [(0, [27]), (1, [155, 0, 11]), (4, [27]), (5, [42]), (6, [180, 0, 178]), (9, [164, 0, 5]), (12, [2]), (13, [172]), (14, [42]), (15, [27]), (16, [181, 0, 178]), (19, [27]), (20, [172])]
theorem rcX12_end_0 : dgo (lb cX12_end) 0 rbX12_end_0 = true := by decide +kernel
theorem dX12_end_0 : decode cX12_end 0 = .ok (.iload_n 1, 1) := dk_27 (dw rcX12_end_0 0 rfl)
theorem dX12_end_1 : decode cX12_end 1 = .ok (.ifCond .lt 11, 3) := dk_155 (dw rcX12_end_0 1 rfl) rfl
theorem dX12_end_4 : decode cX12_end 4 = .ok (.iload_n 1, 1) := dk_27 (dw rcX12_end_0 2 rfl)
theorem dX12_end_5 : decode cX12_end 5 = .ok (.aload_n 0, 1) := dk_42 (dw rcX12_end_0 3 rfl)
theorem dX12_end_6 : decode cX12_end 6 = .ok (.getfield 178, 3) := dk_180 (dw rcX12_end_0 4 rfl) rfl
theorem dX12_end_9 : decode cX12_end 9 = .ok (.if_icmp .le 5, 3) := dk_164 (dw rcX12_end_0 5 rfl) rfl
theorem dX12_end_12 : decode cX12_end 12 = .ok (.iconst (-1), 1) := dk_2 (dw rcX12_end_0 6 rfl)
theorem dX12_end_13 : decode cX12_end 13 = .ok (.ireturn, 1) := dk_172 (dw rcX12_end_0 7 rfl)
theorem dX12_end_14 : decode cX12_end 14 = .ok (.aload_n 0, 1) := dk_42 (dw rcX12_end_0 8 rfl)
theorem dX12_end_15 : decode cX12_end 15 = .ok (.iload_n 1, 1) := dk_27 (dw rcX12_end_0 9 rfl)
theorem dX12_end_16 : decode cX12_end 16 = .ok (.putfield 178, 3) := dk_181 (dw rcX12_end_0 10 rfl) rfl
theorem dX12_end_19 : decode cX12_end 19 = .ok (.iload_n 1, 1) := dk_27 (dw rcX12_end_0 11 rfl)
theorem dX12_end_20 : decode cX12_end 20 = .ok (.ireturn, 1) := dk_172 (dw rcX12_end_0 12 rfl)
def rbX12_feed_0 : List (Nat × List Nat) := [(0, [42]), (1, [180, 0, 178]), (4, [16, 20]), (6, [96]), (7, [17, 6, 64]), (10, [164, 0, 5]), (13, [2]), (14, [172]), (15, [42]), (16, [27]), (17, [182, 0, 181]), (20, [42]), (21, [28]), (22, [182, 0, 181]), (25, [42]), (26, [29]), (27, [182, 0, 181]), (30, [42]), (31, [21, 4]), (33, [182, 0, 181]), (36, [42]), (37, [21, 5]), (39, [182, 0, 181]), (42, [42])]
theorem rcX12_feed_0 : dgo (lb cX12_feed) 0 rbX12_feed_0 = true := by decide +kernel
theorem dX12_feed_0 : decode cX12_feed 0 = .ok (.aload_n 0, 1) := dk_42 (dw rcX12_feed_0 0 rfl)
theorem dX12_feed_1 : decode cX12_feed 1 = .ok (.getfield 178, 3) := dk_180 (dw rcX12_feed_0 1 rfl) rfl
theorem dX12_feed_4 : decode cX12_feed 4 = .ok (.bipush 20, 2) := dk_16 (dw rcX12_feed_0 2 rfl) rfl
theorem dX12_feed_6 : decode cX12_feed 6 = .ok (.iadd, 1) := dk_96 (dw rcX12_feed_0 3 rfl)
theorem dX12_feed_7 : decode cX12_feed 7 = .ok (.sipush 1600, 3) := dk_17 (dw rcX12_feed_0 4 rfl) rfl
theorem dX12_feed_10 : decode cX12_feed 10 = .ok (.if_icmp .le 5, 3) := dk_164 (dw rcX12_feed_0 5 rfl) rfl
theorem dX12_feed_13 : decode cX12_feed 13 = .ok (.iconst (-1), 1) := dk_2 (dw rcX12_feed_0 6 rfl)
theorem dX12_feed_14 : decode cX12_feed 14 = .ok (.ireturn, 1) := dk_172 (dw rcX12_feed_0 7 rfl)
theorem dX12_feed_15 : decode cX12_feed 15 = .ok (.aload_n 0, 1) := dk_42 (dw rcX12_feed_0 8 rfl)
theorem dX12_feed_16 : decode cX12_feed 16 = .ok (.iload_n 1, 1) := dk_27 (dw rcX12_feed_0 9 rfl)
theorem dX12_feed_17 : decode cX12_feed 17 = .ok (.invokevirtual 181, 3) := dk_182 (dw rcX12_feed_0 10 rfl) rfl
theorem dX12_feed_20 : decode cX12_feed 20 = .ok (.aload_n 0, 1) := dk_42 (dw rcX12_feed_0 11 rfl)
theorem dX12_feed_21 : decode cX12_feed 21 = .ok (.iload_n 2, 1) := dk_28 (dw rcX12_feed_0 12 rfl)
theorem dX12_feed_22 : decode cX12_feed 22 = .ok (.invokevirtual 181, 3) := dk_182 (dw rcX12_feed_0 13 rfl) rfl
theorem dX12_feed_25 : decode cX12_feed 25 = .ok (.aload_n 0, 1) := dk_42 (dw rcX12_feed_0 14 rfl)
theorem dX12_feed_26 : decode cX12_feed 26 = .ok (.iload_n 3, 1) := dk_29 (dw rcX12_feed_0 15 rfl)
theorem dX12_feed_27 : decode cX12_feed 27 = .ok (.invokevirtual 181, 3) := dk_182 (dw rcX12_feed_0 16 rfl) rfl
theorem dX12_feed_30 : decode cX12_feed 30 = .ok (.aload_n 0, 1) := dk_42 (dw rcX12_feed_0 17 rfl)
theorem dX12_feed_31 : decode cX12_feed 31 = .ok (.iload 4, 2) := dk_21 (dw rcX12_feed_0 18 rfl)
theorem dX12_feed_33 : decode cX12_feed 33 = .ok (.invokevirtual 181, 3) := dk_182 (dw rcX12_feed_0 19 rfl) rfl
theorem dX12_feed_36 : decode cX12_feed 36 = .ok (.aload_n 0, 1) := dk_42 (dw rcX12_feed_0 20 rfl)
theorem dX12_feed_37 : decode cX12_feed 37 = .ok (.iload 5, 2) := dk_21 (dw rcX12_feed_0 21 rfl)
theorem dX12_feed_39 : decode cX12_feed 39 = .ok (.invokevirtual 181, 3) := dk_182 (dw rcX12_feed_0 22 rfl) rfl
theorem dX12_feed_42 : decode cX12_feed 42 = .ok (.aload_n 0, 1) := dk_42 (dw rcX12_feed_0 23 rfl)
def rbX12_feed_43 : List (Nat × List Nat) := [(43, [180, 0, 178]), (46, [172])]
theorem rcX12_feed_43 : dgo (lb cX12_feed) 0 rbX12_feed_43 = true := by decide +kernel
theorem dX12_feed_43 : decode cX12_feed 43 = .ok (.getfield 178, 3) := dk_180 (dw rcX12_feed_43 0 rfl) rfl
theorem dX12_feed_46 : decode cX12_feed 46 = .ok (.ireturn, 1) := dk_172 (dw rcX12_feed_43 1 rfl)
def rbX12_four_0 : List (Nat × List Nat) := [(0, [16, 24]), (2, [61]), (3, [28]), (4, [155, 0, 35]), (7, [42]), (8, [180, 0, 7]), (11, [42]), (12, [180, 0, 178]), (15, [27]), (16, [28]), (17, [122]), (18, [17, 0, 255]), (21, [126]), (22, [79]), (23, [42]), (24, [89]), (25, [180, 0, 178]), (28, [4]), (29, [96]), (30, [181, 0, 178]), (33, [132, 2, 248]), (36, [167, 255, 223]), (39, [177])]
theorem rcX12_four_0 : dgo (lb cX12_four) 0 rbX12_four_0 = true := by decide +kernel
theorem dX12_four_0 : decode cX12_four 0 = .ok (.bipush 24, 2) := dk_16 (dw rcX12_four_0 0 rfl) rfl
theorem dX12_four_2 : decode cX12_four 2 = .ok (.istore_n 2, 1) := dk_61 (dw rcX12_four_0 1 rfl)
theorem dX12_four_3 : decode cX12_four 3 = .ok (.iload_n 2, 1) := dk_28 (dw rcX12_four_0 2 rfl)
theorem dX12_four_4 : decode cX12_four 4 = .ok (.ifCond .lt 35, 3) := dk_155 (dw rcX12_four_0 3 rfl) rfl
theorem dX12_four_7 : decode cX12_four 7 = .ok (.aload_n 0, 1) := dk_42 (dw rcX12_four_0 4 rfl)
theorem dX12_four_8 : decode cX12_four 8 = .ok (.getfield 7, 3) := dk_180 (dw rcX12_four_0 5 rfl) rfl
theorem dX12_four_11 : decode cX12_four 11 = .ok (.aload_n 0, 1) := dk_42 (dw rcX12_four_0 6 rfl)
theorem dX12_four_12 : decode cX12_four 12 = .ok (.getfield 178, 3) := dk_180 (dw rcX12_four_0 7 rfl) rfl
theorem dX12_four_15 : decode cX12_four 15 = .ok (.iload_n 1, 1) := dk_27 (dw rcX12_four_0 8 rfl)
theorem dX12_four_16 : decode cX12_four 16 = .ok (.iload_n 2, 1) := dk_28 (dw rcX12_four_0 9 rfl)
theorem dX12_four_17 : decode cX12_four 17 = .ok (.ishr, 1) := dk_122 (dw rcX12_four_0 10 rfl)
theorem dX12_four_18 : decode cX12_four 18 = .ok (.sipush 255, 3) := dk_17 (dw rcX12_four_0 11 rfl) rfl
theorem dX12_four_21 : decode cX12_four 21 = .ok (.iand, 1) := dk_126 (dw rcX12_four_0 12 rfl)
theorem dX12_four_22 : decode cX12_four 22 = .ok (.iastore, 1) := dk_79 (dw rcX12_four_0 13 rfl)
theorem dX12_four_23 : decode cX12_four 23 = .ok (.aload_n 0, 1) := dk_42 (dw rcX12_four_0 14 rfl)
theorem dX12_four_24 : decode cX12_four 24 = .ok (.dup, 1) := dk_89 (dw rcX12_four_0 15 rfl)
theorem dX12_four_25 : decode cX12_four 25 = .ok (.getfield 178, 3) := dk_180 (dw rcX12_four_0 16 rfl) rfl
theorem dX12_four_28 : decode cX12_four 28 = .ok (.iconst 1, 1) := dk_4 (dw rcX12_four_0 17 rfl)
theorem dX12_four_29 : decode cX12_four 29 = .ok (.iadd, 1) := dk_96 (dw rcX12_four_0 18 rfl)
theorem dX12_four_30 : decode cX12_four 30 = .ok (.putfield 178, 3) := dk_181 (dw rcX12_four_0 19 rfl) rfl
theorem dX12_four_33 : decode cX12_four 33 = .ok (.iinc 2 (-8), 3) := dk_132 (dw rcX12_four_0 20 rfl) rfl
theorem dX12_four_36 : decode cX12_four 36 = .ok (.goto (-33), 3) := dk_167 (dw rcX12_four_0 21 rfl) rfl
theorem dX12_four_39 : decode cX12_four 39 = .ok (.return_, 1) := dk_177 (dw rcX12_four_0 22 rfl)
def rbX12_here_0 : List (Nat × List Nat) := [(0, [42]), (1, [180, 0, 185]), (4, [27]), (5, [96]), (6, [42]), (7, [180, 0, 188]), (10, [162, 0, 17]), (13, [42]), (14, [180, 0, 7]), (17, [42]), (18, [180, 0, 185]), (21, [27]), (22, [96]), (23, [46]), (24, [167, 0, 4]), (27, [2]), (28, [172])]
theorem rcX12_here_0 : dgo (lb cX12_here) 0 rbX12_here_0 = true := by decide +kernel
theorem dX12_here_0 : decode cX12_here 0 = .ok (.aload_n 0, 1) := dk_42 (dw rcX12_here_0 0 rfl)
theorem dX12_here_1 : decode cX12_here 1 = .ok (.getfield 185, 3) := dk_180 (dw rcX12_here_0 1 rfl) rfl
theorem dX12_here_4 : decode cX12_here 4 = .ok (.iload_n 1, 1) := dk_27 (dw rcX12_here_0 2 rfl)
theorem dX12_here_5 : decode cX12_here 5 = .ok (.iadd, 1) := dk_96 (dw rcX12_here_0 3 rfl)
theorem dX12_here_6 : decode cX12_here 6 = .ok (.aload_n 0, 1) := dk_42 (dw rcX12_here_0 4 rfl)
theorem dX12_here_7 : decode cX12_here 7 = .ok (.getfield 188, 3) := dk_180 (dw rcX12_here_0 5 rfl) rfl
theorem dX12_here_10 : decode cX12_here 10 = .ok (.if_icmp .ge 17, 3) := dk_162 (dw rcX12_here_0 6 rfl) rfl
theorem dX12_here_13 : decode cX12_here 13 = .ok (.aload_n 0, 1) := dk_42 (dw rcX12_here_0 7 rfl)
theorem dX12_here_14 : decode cX12_here 14 = .ok (.getfield 7, 3) := dk_180 (dw rcX12_here_0 8 rfl) rfl
theorem dX12_here_17 : decode cX12_here 17 = .ok (.aload_n 0, 1) := dk_42 (dw rcX12_here_0 9 rfl)
theorem dX12_here_18 : decode cX12_here 18 = .ok (.getfield 185, 3) := dk_180 (dw rcX12_here_0 10 rfl) rfl
theorem dX12_here_21 : decode cX12_here 21 = .ok (.iload_n 1, 1) := dk_27 (dw rcX12_here_0 11 rfl)
theorem dX12_here_22 : decode cX12_here 22 = .ok (.iadd, 1) := dk_96 (dw rcX12_here_0 12 rfl)
theorem dX12_here_23 : decode cX12_here 23 = .ok (.iaload, 1) := dk_46 (dw rcX12_here_0 13 rfl)
theorem dX12_here_24 : decode cX12_here 24 = .ok (.goto 4, 3) := dk_167 (dw rcX12_here_0 14 rfl) rfl
theorem dX12_here_27 : decode cX12_here 27 = .ok (.iconst (-1), 1) := dk_2 (dw rcX12_here_0 15 rfl)
theorem dX12_here_28 : decode cX12_here 28 = .ok (.ireturn, 1) := dk_172 (dw rcX12_here_0 16 rfl)
def rbX12_isDigit_0 : List (Nat × List Nat) := [(0, [26]), (1, [16, 48]), (3, [161, 0, 13]), (6, [26]), (7, [16, 57]), (9, [163, 0, 7]), (12, [4]), (13, [167, 0, 4]), (16, [3]), (17, [172])]
theorem rcX12_isDigit_0 : dgo (lb cX12_isDigit) 0 rbX12_isDigit_0 = true := by decide +kernel
theorem dX12_isDigit_0 : decode cX12_isDigit 0 = .ok (.iload_n 0, 1) := dk_26 (dw rcX12_isDigit_0 0 rfl)
theorem dX12_isDigit_1 : decode cX12_isDigit 1 = .ok (.bipush 48, 2) := dk_16 (dw rcX12_isDigit_0 1 rfl) rfl
theorem dX12_isDigit_3 : decode cX12_isDigit 3 = .ok (.if_icmp .lt 13, 3) := dk_161 (dw rcX12_isDigit_0 2 rfl) rfl
theorem dX12_isDigit_6 : decode cX12_isDigit 6 = .ok (.iload_n 0, 1) := dk_26 (dw rcX12_isDigit_0 3 rfl)
theorem dX12_isDigit_7 : decode cX12_isDigit 7 = .ok (.bipush 57, 2) := dk_16 (dw rcX12_isDigit_0 4 rfl) rfl
theorem dX12_isDigit_9 : decode cX12_isDigit 9 = .ok (.if_icmp .gt 7, 3) := dk_163 (dw rcX12_isDigit_0 5 rfl) rfl
theorem dX12_isDigit_12 : decode cX12_isDigit 12 = .ok (.iconst 1, 1) := dk_4 (dw rcX12_isDigit_0 6 rfl)
theorem dX12_isDigit_13 : decode cX12_isDigit 13 = .ok (.goto 4, 3) := dk_167 (dw rcX12_isDigit_0 7 rfl) rfl
theorem dX12_isDigit_16 : decode cX12_isDigit 16 = .ok (.iconst 0, 1) := dk_3 (dw rcX12_isDigit_0 8 rfl)
theorem dX12_isDigit_17 : decode cX12_isDigit 17 = .ok (.ireturn, 1) := dk_172 (dw rcX12_isDigit_0 9 rfl)
def rbX12_isLetter_0 : List (Nat × List Nat) := [(0, [26]), (1, [16, 97]), (3, [161, 0, 13]), (6, [26]), (7, [16, 122]), (9, [163, 0, 7]), (12, [4]), (13, [167, 0, 4]), (16, [3]), (17, [172])]
theorem rcX12_isLetter_0 : dgo (lb cX12_isLetter) 0 rbX12_isLetter_0 = true := by decide +kernel
theorem dX12_isLetter_0 : decode cX12_isLetter 0 = .ok (.iload_n 0, 1) := dk_26 (dw rcX12_isLetter_0 0 rfl)
theorem dX12_isLetter_1 : decode cX12_isLetter 1 = .ok (.bipush 97, 2) := dk_16 (dw rcX12_isLetter_0 1 rfl) rfl
theorem dX12_isLetter_3 : decode cX12_isLetter 3 = .ok (.if_icmp .lt 13, 3) := dk_161 (dw rcX12_isLetter_0 2 rfl) rfl
theorem dX12_isLetter_6 : decode cX12_isLetter 6 = .ok (.iload_n 0, 1) := dk_26 (dw rcX12_isLetter_0 3 rfl)
theorem dX12_isLetter_7 : decode cX12_isLetter 7 = .ok (.bipush 122, 2) := dk_16 (dw rcX12_isLetter_0 4 rfl) rfl
theorem dX12_isLetter_9 : decode cX12_isLetter 9 = .ok (.if_icmp .gt 7, 3) := dk_163 (dw rcX12_isLetter_0 5 rfl) rfl
theorem dX12_isLetter_12 : decode cX12_isLetter 12 = .ok (.iconst 1, 1) := dk_4 (dw rcX12_isLetter_0 6 rfl)
theorem dX12_isLetter_13 : decode cX12_isLetter 13 = .ok (.goto 4, 3) := dk_167 (dw rcX12_isLetter_0 7 rfl) rfl
theorem dX12_isLetter_16 : decode cX12_isLetter 16 = .ok (.iconst 0, 1) := dk_3 (dw rcX12_isLetter_0 8 rfl)
theorem dX12_isLetter_17 : decode cX12_isLetter 17 = .ok (.ireturn, 1) := dk_172 (dw rcX12_isLetter_0 9 rfl)
def rbX12_isSign_0 : List (Nat × List Nat) := [(0, [26]), (1, [16, 59]), (3, [159, 0, 63]), (6, [26]), (7, [16, 40]), (9, [159, 0, 57]), (12, [26]), (13, [16, 41]), (15, [159, 0, 51]), (18, [26]), (19, [16, 60]), (21, [159, 0, 45]), (24, [26]), (25, [16, 62]), (27, [159, 0, 39]), (30, [26]), (31, [16, 61]), (33, [159, 0, 33]), (36, [26]), (37, [16, 43]), (39, [159, 0, 27]), (42, [26]), (43, [16, 45]), (45, [159, 0, 21])]
theorem rcX12_isSign_0 : dgo (lb cX12_isSign) 0 rbX12_isSign_0 = true := by decide +kernel
theorem dX12_isSign_0 : decode cX12_isSign 0 = .ok (.iload_n 0, 1) := dk_26 (dw rcX12_isSign_0 0 rfl)
theorem dX12_isSign_1 : decode cX12_isSign 1 = .ok (.bipush 59, 2) := dk_16 (dw rcX12_isSign_0 1 rfl) rfl
theorem dX12_isSign_3 : decode cX12_isSign 3 = .ok (.if_icmp .eq 63, 3) := dk_159 (dw rcX12_isSign_0 2 rfl) rfl
theorem dX12_isSign_6 : decode cX12_isSign 6 = .ok (.iload_n 0, 1) := dk_26 (dw rcX12_isSign_0 3 rfl)
theorem dX12_isSign_7 : decode cX12_isSign 7 = .ok (.bipush 40, 2) := dk_16 (dw rcX12_isSign_0 4 rfl) rfl
theorem dX12_isSign_9 : decode cX12_isSign 9 = .ok (.if_icmp .eq 57, 3) := dk_159 (dw rcX12_isSign_0 5 rfl) rfl
theorem dX12_isSign_12 : decode cX12_isSign 12 = .ok (.iload_n 0, 1) := dk_26 (dw rcX12_isSign_0 6 rfl)
theorem dX12_isSign_13 : decode cX12_isSign 13 = .ok (.bipush 41, 2) := dk_16 (dw rcX12_isSign_0 7 rfl) rfl
theorem dX12_isSign_15 : decode cX12_isSign 15 = .ok (.if_icmp .eq 51, 3) := dk_159 (dw rcX12_isSign_0 8 rfl) rfl
theorem dX12_isSign_18 : decode cX12_isSign 18 = .ok (.iload_n 0, 1) := dk_26 (dw rcX12_isSign_0 9 rfl)
theorem dX12_isSign_19 : decode cX12_isSign 19 = .ok (.bipush 60, 2) := dk_16 (dw rcX12_isSign_0 10 rfl) rfl
theorem dX12_isSign_21 : decode cX12_isSign 21 = .ok (.if_icmp .eq 45, 3) := dk_159 (dw rcX12_isSign_0 11 rfl) rfl
theorem dX12_isSign_24 : decode cX12_isSign 24 = .ok (.iload_n 0, 1) := dk_26 (dw rcX12_isSign_0 12 rfl)
theorem dX12_isSign_25 : decode cX12_isSign 25 = .ok (.bipush 62, 2) := dk_16 (dw rcX12_isSign_0 13 rfl) rfl
theorem dX12_isSign_27 : decode cX12_isSign 27 = .ok (.if_icmp .eq 39, 3) := dk_159 (dw rcX12_isSign_0 14 rfl) rfl
theorem dX12_isSign_30 : decode cX12_isSign 30 = .ok (.iload_n 0, 1) := dk_26 (dw rcX12_isSign_0 15 rfl)
theorem dX12_isSign_31 : decode cX12_isSign 31 = .ok (.bipush 61, 2) := dk_16 (dw rcX12_isSign_0 16 rfl) rfl
theorem dX12_isSign_33 : decode cX12_isSign 33 = .ok (.if_icmp .eq 33, 3) := dk_159 (dw rcX12_isSign_0 17 rfl) rfl
theorem dX12_isSign_36 : decode cX12_isSign 36 = .ok (.iload_n 0, 1) := dk_26 (dw rcX12_isSign_0 18 rfl)
theorem dX12_isSign_37 : decode cX12_isSign 37 = .ok (.bipush 43, 2) := dk_16 (dw rcX12_isSign_0 19 rfl) rfl
theorem dX12_isSign_39 : decode cX12_isSign 39 = .ok (.if_icmp .eq 27, 3) := dk_159 (dw rcX12_isSign_0 20 rfl) rfl
theorem dX12_isSign_42 : decode cX12_isSign 42 = .ok (.iload_n 0, 1) := dk_26 (dw rcX12_isSign_0 21 rfl)
theorem dX12_isSign_43 : decode cX12_isSign 43 = .ok (.bipush 45, 2) := dk_16 (dw rcX12_isSign_0 22 rfl) rfl
theorem dX12_isSign_45 : decode cX12_isSign 45 = .ok (.if_icmp .eq 21, 3) := dk_159 (dw rcX12_isSign_0 23 rfl) rfl
def rbX12_isSign_48 : List (Nat × List Nat) := [(48, [26]), (49, [16, 42]), (51, [159, 0, 15]), (54, [26]), (55, [16, 47]), (57, [159, 0, 9]), (60, [26]), (61, [16, 37]), (63, [160, 0, 7]), (66, [4]), (67, [167, 0, 4]), (70, [3]), (71, [172])]
theorem rcX12_isSign_48 : dgo (lb cX12_isSign) 0 rbX12_isSign_48 = true := by decide +kernel
theorem dX12_isSign_48 : decode cX12_isSign 48 = .ok (.iload_n 0, 1) := dk_26 (dw rcX12_isSign_48 0 rfl)
theorem dX12_isSign_49 : decode cX12_isSign 49 = .ok (.bipush 42, 2) := dk_16 (dw rcX12_isSign_48 1 rfl) rfl
theorem dX12_isSign_51 : decode cX12_isSign 51 = .ok (.if_icmp .eq 15, 3) := dk_159 (dw rcX12_isSign_48 2 rfl) rfl
theorem dX12_isSign_54 : decode cX12_isSign 54 = .ok (.iload_n 0, 1) := dk_26 (dw rcX12_isSign_48 3 rfl)
theorem dX12_isSign_55 : decode cX12_isSign 55 = .ok (.bipush 47, 2) := dk_16 (dw rcX12_isSign_48 4 rfl) rfl
theorem dX12_isSign_57 : decode cX12_isSign 57 = .ok (.if_icmp .eq 9, 3) := dk_159 (dw rcX12_isSign_48 5 rfl) rfl
theorem dX12_isSign_60 : decode cX12_isSign 60 = .ok (.iload_n 0, 1) := dk_26 (dw rcX12_isSign_48 6 rfl)
theorem dX12_isSign_61 : decode cX12_isSign 61 = .ok (.bipush 37, 2) := dk_16 (dw rcX12_isSign_48 7 rfl) rfl
theorem dX12_isSign_63 : decode cX12_isSign 63 = .ok (.if_icmp .ne 7, 3) := dk_160 (dw rcX12_isSign_48 8 rfl) rfl
theorem dX12_isSign_66 : decode cX12_isSign 66 = .ok (.iconst 1, 1) := dk_4 (dw rcX12_isSign_48 9 rfl)
theorem dX12_isSign_67 : decode cX12_isSign 67 = .ok (.goto 4, 3) := dk_167 (dw rcX12_isSign_48 10 rfl) rfl
theorem dX12_isSign_70 : decode cX12_isSign 70 = .ok (.iconst 0, 1) := dk_3 (dw rcX12_isSign_48 11 rfl)
theorem dX12_isSign_71 : decode cX12_isSign 71 = .ok (.ireturn, 1) := dk_172 (dw rcX12_isSign_48 12 rfl)
set_option maxHeartbeats 4000000 in
set_option maxRecDepth 100000 in
theorem n_four (l : Launch) (D : va_G) (k : KT) (A : Nat → Prop) (a : Nat → Nat) (z : SK) (G : GS) (p0 : Int32) (ht : (G.1 66 1).toInt ≤ 1596) : Met l yX12_four (WS yX12_four cX12_four 3 none) ({ frames := 0, cells := 0, slots := 0, locals := 0 }) (va_Pc [.ref (a 66), .int p0] (cW D k A a z G)) (va_Qv (fun (G1 : GS) => Q_four p0 G G1) (fun (G1 : GS) t => Wd D k A a G1 t.heap) A) 0 0 A := by
  refine Met.ofW (cc := cX12_four) (maxL := 3) (ret := none) (by decide) rfl ?_
  intro p e s m args below meth c s₁ B hml hv
  obtain ⟨rfl, hW, hB_G, hK, hZ⟩ := hv
  have hx := B.exec
  have hb := B.bytes
  have hr := B.returns
  have hts := atoms_spec (ws := WS yX12_four cX12_four 3 none) B.pre
  have hgd : ∀ w ∈ gd, w ∈ WS yX12_four cX12_four 3 none := fun w h => List.mem_cons_of_mem _ h
  have hg : ∀ w ∈ gd, w.before _ s = true := fun w h => hts w (hgd w h)
  have hown : s.vm.findClass RX12 = some m.cls := findClass_of_methodNamed B.named
  have hS : va_S A s.heap s.heap [] := va_S.rf
  have hF : Fr [67] [(66, 1)] G G := Fr.rf
  have hl := lv_entry ([.ref (a 66), .int p0]) (n := 3) (Nat.le_of_ble_eq_true rfl)
  rw [lg_entry_eq]
  generalize (lg_sl ([.ref (a 66), .int p0]) ++ List.replicate (3 - (lg_sl ([.ref (a 66), .int p0])).length) Slot.unset).toArray = ls at hl ⊢
  have hl : lv_has ls 3 [(0, .ref (a 66)), (1, .int p0)] := hl
  refine lv_bipush (v := 24) hx hb dX12_four_0 (by decide) ?_
  refine lv_istore_n (lv' := [(2, .int 24), (0, .ref (a 66)), (1, .int p0)]) hx hb dX12_four_2 rfl hl (lt_b rfl) rfl (fun ls hl => ?_)
  have b_7 : 0 ≤ (G.1 66 1).toInt ∧ (G.1 66 1).toInt ≤ 1600 := bd_66_1 hB_G
  have qc_8 : (24 : Int32).toInt = 24 := rfl
  refine loop_N (Inv := fun n H locs ls => ∃ (G_1 : GS) (x_5 : Int32), (n : Int) = x_5.toInt - (-8) ∧ ((-8) ≤ x_5.toInt ∧ x_5.toInt ≤ 24) ∧ (8 * (G_1.1 66 1).toInt + x_5.toInt = 8 * (G.1 66 1).toInt + 24) ∧ (x_5.toInt % 8 = 0) ∧ Rc (St_n_four_1 p0 G) (24, G) (x_5, G_1) ∧ Wd D k A a G_1 H ∧ Bd G_1 ∧ Fr [67] [(66, 1)] G G_1 ∧ Fr [67] [(66, 1)] G G_1 ∧ va_S A s.heap H locs ∧ lv_has ls 3 [(2, .int x_5), (0, .ref (a 66)), (1, .int p0)]) (fun n_4 H locs ls ih_3 hI => ?_) (24 - (-8) : Int).toNat ⟨G, 24, (Int.toNat_of_nonneg (by omega)), ⟨by omega, by omega⟩, (by omega), (by omega), Rc.rf, hW, hB_G, hF, Fr.rf, hS, lv_sub hl [0, 1, 2] rfl⟩
  obtain ⟨G_1, x_5, hn_12, f_9, f_10, f_11, hX_6, hW, hB_G_1, hF, hq_2, hS, hl⟩ := hI
  have b_13 : 0 ≤ (G_1.1 66 1).toInt ∧ (G_1.1 66 1).toInt ≤ 1600 := bd_66_1 hB_G_1
  refine lv_iload_n hx hb dX12_four_3 rfl (lv_at hl 0 rfl) ?_
  refine lv_if_lt (tgt := 39) hx hb dX12_four_4 rfl (fun c_14 => ?_) (fun c_14 => ?_)
  · have c_14 : x_5.toInt < 0 := xI_lt rfl rfl c_14
    exact W.vret hx hb hr (fun t ht _ => ⟨⟨G_1, rfl, (Q_four_mk ⟨hB_G_1, hF, (by omega), ⟨x_5, G_1, hX_6, f_9, f_10, f_11, hB_G_1, hq_2, ⟨c_14, rfl⟩⟩⟩), wd_t ht hW⟩, hS.F ht⟩) hS.2.2 dX12_four_39
  · have c_14 : 0 ≤ x_5.toInt := xI_nlt rfl rfl c_14
    refine lv_aload_n hx hb dX12_four_7 rfl (lv_at hl 1 rfl) ?_
    refine S_getR (n := 67) (C := RX12) (T := TX12) (N := 89) hx hb hg iX12 hown hK hW kd_66 rfl 0 (lt_b rfl) (hg (Cond.fieldLink RX12 7 "SlabWalkModel" "tape" "[I") m1314) (fun _ h9 => h9) rfl dX12_four_8 ?_
    refine lv_aload_n hx hb dX12_four_11 rfl (lv_at hl 1 rfl) ?_
    refine S_getI (v := (G_1.1 66 1)) (C := RX12) (T := TX12) (N := 89) hx hb hg iX12 hown hK hW kd_66 rfl 1 (lt_b rfl) (hg (Cond.fieldLink RX12 178 "SlabWalkModel" "taped" "I") m1315) (fun _ h9 => h9) rfl rfl dX12_four_12 ?_
    refine lv_iload_n hx hb dX12_four_15 rfl (lv_at hl 2 rfl) ?_
    refine lv_iload_n hx hb dX12_four_16 rfl (lv_at hl 0 rfl) ?_
    refine lv_ishr hx hb dX12_four_17 ?_
    refine lv_topi (fun y_15 ey_15 => ?_)
    refine lv_sipush (v := 255) hx hb dX12_four_18 (by decide) ?_
    refine lv_iand hx hb dX12_four_21 ?_
    refine lv_topi (fun y_16 ey_16 => ?_)
    have ty_16 := xI_and (Y := 255) rfl ey_16 (by decide)
    refine S_iast hx hb hK hW hS kd_67 (vin (by omega) (by omega)) dX12_four_22 (fun G_17 H locs eG_17 hW hS => ?_)
    have hB_G_17 : Bd G_17 := hB_G_1.put (V := y_16.toInt) (lo := 0) (hi := 255) eG_17 rfl rfl rfl ((by first | (clear ht b_7 hn_12 f_9 f_10 f_11 b_13 c_14; omega) | omega)) ((by first | (clear ht b_7 hn_12 f_9 f_10 f_11 b_13 c_14; omega) | omega)) (hB_G_1.2.put eG_17 rfl)
    have hF := hF.put eG_17 (Or.inl (by decide))
    refine lv_aload_n hx hb dX12_four_23 rfl (lv_at hl 1 rfl) ?_
    refine lv_dup hx hb dX12_four_24 rfl ?_
    refine S_getI (v := (G_1.1 66 1)) (C := RX12) (T := TX12) (N := 89) hx hb hg iX12 hown hK hW kd_66 rfl 1 (lt_b rfl) (hg (Cond.fieldLink RX12 178 "SlabWalkModel" "taped" "I") m1315) (fun _ h9 => h9) rfl ((gp_ne eG_17 (fun q => absurd q.1 (Nat.ne_of_beq_eq_false rfl))).trans (rfl)) dX12_four_25 ?_
    refine ic_1 hx hb dX12_four_28 ?_
    refine lv_iadd hx hb dX12_four_29 ?_
    refine lv_topi (fun y_18 ey_18 => ?_)
    have ty_18 : y_18.toInt = (G_1.1 66 1).toInt + 1 := xI_add rfl rfl ey_18 (by omega) (by omega)
    refine S_putI (ty := .int) (C := RX12) (T := TX12) (N := 89) hx hb hg iX12 tyX12 tyX12_ok nmX12 hown hK hW hS kd_66 rfl 1 (lt_b rfl) (hg (Cond.fieldLink RX12 178 "SlabWalkModel" "taped" "I") m1315) (fun _ h9 => h9) rfl (by decide +kernel) rfl rfl rfl dX12_four_30 (fun G_19 H locs eG_19 hW hS => ?_)
    have hB_G_19 : Bd G_19 := hB_G_17.put (V := y_18.toInt) (lo := 0) (hi := 1600) eG_19 rfl rfl rfl (by omega) (by omega) (hB_G_17.2.put eG_19 rfl)
    have hF := hF.put eG_19 (Or.inr (by decide))
    obtain ⟨y_20, ey_20⟩ : ∃ q, q = x_5 + (-8) := ⟨_, rfl⟩
    have ty_20 : y_20.toInt = x_5.toInt + (-8) := xI_add rfl rfl ey_20 (by omega) (by omega)
    refine lv_iinc (v := y_20) (lv' := [(2, .int y_20), (0, .ref (a 66)), (1, .int p0)]) hx hb dX12_four_33 hl (k := 0) rfl (by rw [ey_20]; rfl) (lt_b rfl) rfl (fun ls hl => ?_)
    refine lv_goto (tgt := 3) hx hb dX12_four_36 rfl ?_
    have g_21 : (G_19.1 66 1).toInt = y_18.toInt := (congrArg Int32.toInt (show G_19.1 66 1 = y_18 from (gp_eq eG_19)))
    exact ih_3 (y_20.toInt - (-8) : Int).toNat (by omega) _ _ _ ⟨G_19, y_20, (Int.toNat_of_nonneg (by omega)), ⟨by omega, by omega⟩, (by omega), (by omega), (hX_6.st (St_n_four_1_mk ⟨x_5, G_1, y_20, G_19, rfl, rfl, f_9, f_10, f_11, hB_G_1, ⟨c_14, ⟨y_15, ey_15, ⟨y_16, ey_16, ⟨y_18, ty_18, ⟨y_20, ty_20, ⟨rfl, (Fr.put (rs := [67]) (fs := [(66, 1)]) (Fr.put (rs := [67]) (fs := [(66, 1)]) Fr.rf eG_17 (Or.inl (by decide))) eG_19 (Or.inr (by decide))), (gp_eq eG_19), (rw_put eG_19 (by decide)).trans (rw_ast eG_17)⟩⟩⟩⟩⟩⟩⟩)), hW, hB_G_19, hF, (Fr.put (rs := [67]) (fs := [(66, 1)]) (Fr.put (rs := [67]) (fs := [(66, 1)]) (Fr.call9 (rs := [67]) (fs := [(66, 1)]) Fr.rf hq_2 rfl rfl) eG_17 (Or.inl (by decide))) eG_19 (Or.inr (by decide))), hS, lv_sub hl [0, 1, 2] rfl⟩

set_option maxHeartbeats 4000000 in
set_option maxRecDepth 100000 in
theorem n_feed (l : Launch) (D : va_G) (k : KT) (A : Nat → Prop) (a : Nat → Nat) (z : SK) (G : GS) (p0 : Int32) (p1 : Int32) (p2 : Int32) (p3 : Int32) (p4 : Int32)  : Met l yX12_feed (WS yX12_feed cX12_feed 6 (some .int)) ({ frames := 1, cells := 0, slots := 0, locals := 22 }) (va_Pc [.ref (a 66), .int p0, .int p1, .int p2, .int p3, .int p4] (cW D k A a z G)) (va_Qi (fun (r : Int32) (G1 : GS) => Q_feed p0 p1 p2 p3 p4 G r G1) (fun (G1 : GS) t => Wd D k A a G1 t.heap) A) 0 0 A := by
  refine Met.ofW (cc := cX12_feed) (maxL := 6) (ret := (some .int)) (by decide) rfl ?_
  intro p e s m args below meth c s₁ B hml hv
  obtain ⟨rfl, hW, hB_G, hK, hZ⟩ := hv
  have hx := B.exec
  have hb := B.bytes
  have hr := B.returns
  have hts := atoms_spec (ws := WS yX12_feed cX12_feed 6 (some .int)) B.pre
  have hgd : ∀ w ∈ gd, w ∈ WS yX12_feed cX12_feed 6 (some .int) := fun w h => List.mem_cons_of_mem _ h
  have hg : ∀ w ∈ gd, w.before _ s = true := fun w h => hts w (hgd w h)
  have hown : s.vm.findClass RX12 = some m.cls := findClass_of_methodNamed B.named
  have hS : va_S A s.heap s.heap [] := va_S.rf
  have hF : Fr [67] [(66, 1)] G G := Fr.rf
  have hl := lv_entry ([.ref (a 66), .int p0, .int p1, .int p2, .int p3, .int p4]) (n := 6) (Nat.le_of_ble_eq_true rfl)
  rw [lg_entry_eq]
  generalize (lg_sl ([.ref (a 66), .int p0, .int p1, .int p2, .int p3, .int p4]) ++ List.replicate (6 - (lg_sl ([.ref (a 66), .int p0, .int p1, .int p2, .int p3, .int p4])).length) Slot.unset).toArray = ls at hl ⊢
  have hl : lv_has ls 6 [(0, .ref (a 66)), (1, .int p0), (2, .int p1), (3, .int p2), (4, .int p3), (5, .int p4)] := hl
  refine lv_aload_n hx hb dX12_feed_0 rfl (lv_at hl 0 rfl) ?_
  have b_1 : 0 ≤ (G.1 66 1).toInt ∧ (G.1 66 1).toInt ≤ 1600 := bd_66_1 hB_G
  refine S_getI (v := (G.1 66 1)) (C := RX12) (T := TX12) (N := 89) hx hb hg iX12 hown hK hW kd_66 rfl 1 (lt_b rfl) (hg (Cond.fieldLink RX12 178 "SlabWalkModel" "taped" "I") m1315) (fun _ h9 => h9) rfl rfl dX12_feed_1 ?_
  refine lv_bipush (v := 20) hx hb dX12_feed_4 (by decide) ?_
  refine lv_iadd hx hb dX12_feed_6 ?_
  refine lv_topi (fun y_2 ey_2 => ?_)
  have ty_2 : y_2.toInt = (G.1 66 1).toInt + 20 := xI_add rfl rfl ey_2 (by omega) (by omega)
  refine lv_sipush (v := 1600) hx hb dX12_feed_7 (by decide) ?_
  refine lv_icmp_le (tgt := 15) hx hb dX12_feed_10 rfl (fun c_3 => ?_) (fun c_3 => ?_)
  · have c_3 : y_2.toInt ≤ 1600 := xI_le rfl rfl c_3
    refine lv_aload_n hx hb dX12_feed_15 rfl (lv_at hl 0 rfl) ?_
    refine lv_iload_n hx hb dX12_feed_16 rfl (lv_at hl 1 rfl) ?_
    refine S_callv (va_runV (As := [.int p0]) (rest := []) ⟨hx, hb, hml, hown, hts⟩ (n_four l D k A a z G p0 (by omega)) (cwV 1 hts (gd_V hgd m1586 m1588 m48 m131 m1589) rfl rfl rfl hd_X12_four ⟨Nat.le_of_ble_eq_true rfl, Nat.le_of_ble_eq_true rfl⟩) (pre_W hW hB_G hK hZ hS kd_66 rfl) rfl rfl hl.1 rfl (lv_room (Nat.le_of_ble_eq_true rfl)) dX12_feed_17 ⟨Nat.le_of_ble_eq_true rfl, Nat.le_of_ble_eq_true rfl⟩) hS (fun G_5 H locs hpo hW hS => ?_)
    have hX_8 : Q_four p0 G G_5 := hpo
    obtain ⟨hB_G_5, hq_6, hp_7, -⟩ := hpo
    have hF := hF.call9 hq_6 rfl rfl
    refine lv_aload_n hx hb dX12_feed_20 rfl (lv_at hl 0 rfl) ?_
    refine lv_iload_n hx hb dX12_feed_21 rfl (lv_at hl 2 rfl) ?_
    have b_9 : 0 ≤ (G_5.1 66 1).toInt ∧ (G_5.1 66 1).toInt ≤ 1600 := bd_66_1 hB_G_5
    refine S_callv (va_runV (As := [.int p1]) (rest := []) ⟨hx, hb, hml, hown, hts⟩ (n_four l D k A a z G_5 p1 (by omega)) (cwV 1 hts (gd_V hgd m1586 m1588 m48 m131 m1589) rfl rfl rfl hd_X12_four ⟨Nat.le_of_ble_eq_true rfl, Nat.le_of_ble_eq_true rfl⟩) (pre_W hW hB_G_5 hK hZ hS kd_66 rfl) rfl rfl hl.1 rfl (lv_room (Nat.le_of_ble_eq_true rfl)) dX12_feed_22 ⟨Nat.le_of_ble_eq_true rfl, Nat.le_of_ble_eq_true rfl⟩) hS (fun G_11 H locs hpo hW hS => ?_)
    have hX_14 : Q_four p1 G_5 G_11 := hpo
    obtain ⟨hB_G_11, hq_12, hp_13, -⟩ := hpo
    have hF := hF.call9 hq_12 rfl rfl
    refine lv_aload_n hx hb dX12_feed_25 rfl (lv_at hl 0 rfl) ?_
    refine lv_iload_n hx hb dX12_feed_26 rfl (lv_at hl 3 rfl) ?_
    have b_15 : 0 ≤ (G_11.1 66 1).toInt ∧ (G_11.1 66 1).toInt ≤ 1600 := bd_66_1 hB_G_11
    refine S_callv (va_runV (As := [.int p2]) (rest := []) ⟨hx, hb, hml, hown, hts⟩ (n_four l D k A a z G_11 p2 (by omega)) (cwV 1 hts (gd_V hgd m1586 m1588 m48 m131 m1589) rfl rfl rfl hd_X12_four ⟨Nat.le_of_ble_eq_true rfl, Nat.le_of_ble_eq_true rfl⟩) (pre_W hW hB_G_11 hK hZ hS kd_66 rfl) rfl rfl hl.1 rfl (lv_room (Nat.le_of_ble_eq_true rfl)) dX12_feed_27 ⟨Nat.le_of_ble_eq_true rfl, Nat.le_of_ble_eq_true rfl⟩) hS (fun G_17 H locs hpo hW hS => ?_)
    have hX_20 : Q_four p2 G_11 G_17 := hpo
    obtain ⟨hB_G_17, hq_18, hp_19, -⟩ := hpo
    have hF := hF.call9 hq_18 rfl rfl
    refine lv_aload_n hx hb dX12_feed_30 rfl (lv_at hl 0 rfl) ?_
    refine lv_iload hx hb dX12_feed_31 (lv_at hl 4 rfl) ?_
    have b_21 : 0 ≤ (G_17.1 66 1).toInt ∧ (G_17.1 66 1).toInt ≤ 1600 := bd_66_1 hB_G_17
    refine S_callv (va_runV (As := [.int p3]) (rest := []) ⟨hx, hb, hml, hown, hts⟩ (n_four l D k A a z G_17 p3 (by omega)) (cwV 1 hts (gd_V hgd m1586 m1588 m48 m131 m1589) rfl rfl rfl hd_X12_four ⟨Nat.le_of_ble_eq_true rfl, Nat.le_of_ble_eq_true rfl⟩) (pre_W hW hB_G_17 hK hZ hS kd_66 rfl) rfl rfl hl.1 rfl (lv_room (Nat.le_of_ble_eq_true rfl)) dX12_feed_33 ⟨Nat.le_of_ble_eq_true rfl, Nat.le_of_ble_eq_true rfl⟩) hS (fun G_23 H locs hpo hW hS => ?_)
    have hX_26 : Q_four p3 G_17 G_23 := hpo
    obtain ⟨hB_G_23, hq_24, hp_25, -⟩ := hpo
    have hF := hF.call9 hq_24 rfl rfl
    refine lv_aload_n hx hb dX12_feed_36 rfl (lv_at hl 0 rfl) ?_
    refine lv_iload hx hb dX12_feed_37 (lv_at hl 5 rfl) ?_
    have b_27 : 0 ≤ (G_23.1 66 1).toInt ∧ (G_23.1 66 1).toInt ≤ 1600 := bd_66_1 hB_G_23
    refine S_callv (va_runV (As := [.int p4]) (rest := []) ⟨hx, hb, hml, hown, hts⟩ (n_four l D k A a z G_23 p4 (by omega)) (cwV 1 hts (gd_V hgd m1586 m1588 m48 m131 m1589) rfl rfl rfl hd_X12_four ⟨Nat.le_of_ble_eq_true rfl, Nat.le_of_ble_eq_true rfl⟩) (pre_W hW hB_G_23 hK hZ hS kd_66 rfl) rfl rfl hl.1 rfl (lv_room (Nat.le_of_ble_eq_true rfl)) dX12_feed_39 ⟨Nat.le_of_ble_eq_true rfl, Nat.le_of_ble_eq_true rfl⟩) hS (fun G_29 H locs hpo hW hS => ?_)
    have hX_32 : Q_four p4 G_23 G_29 := hpo
    obtain ⟨hB_G_29, hq_30, hp_31, -⟩ := hpo
    have hF := hF.call9 hq_30 rfl rfl
    refine lv_aload_n hx hb dX12_feed_42 rfl (lv_at hl 0 rfl) ?_
    have b_33 : 0 ≤ (G_29.1 66 1).toInt ∧ (G_29.1 66 1).toInt ≤ 1600 := bd_66_1 hB_G_29
    refine S_getI (v := (G_29.1 66 1)) (C := RX12) (T := TX12) (N := 89) hx hb hg iX12 hown hK hW kd_66 rfl 1 (lt_b rfl) (hg (Cond.fieldLink RX12 178 "SlabWalkModel" "taped" "I") m1315) (fun _ h9 => h9) rfl rfl dX12_feed_43 ?_
    exact W.iret (v := (G_29.1 66 1)) hx hb hr (fun t ht _ => ⟨⟨(G_29.1 66 1), G_29, rfl, (Q_feed_mk ⟨hB_G_29, hF, ((by first | exact ⟨(fun h9 => ⟨(by omega), (by omega)⟩), (fun h9 => ⟨(by omega), (by omega)⟩)⟩ | omega)), ⟨y_2, ty_2, (Or.inl ⟨c_3, ⟨G_5, hX_8, ⟨G_11, hX_14, ⟨G_17, hX_20, ⟨G_23, hX_26, ⟨G_29, hX_32, ⟨rfl, rfl⟩⟩⟩⟩⟩⟩⟩)⟩⟩), wd_t ht hW⟩, hS.F ht⟩) hS.2.2 dX12_feed_46
  · have c_3 : 1600 < y_2.toInt := xI_nle rfl rfl c_3
    refine ic_m1 hx hb dX12_feed_13 ?_
    exact W.iret (v := (-1)) hx hb hr (fun t ht _ => ⟨⟨(-1), G, rfl, (Q_feed_mk ⟨hB_G, hF, (by have hq : ((-1) : Int32).toInt = (-1) := rfl; (try dsimp only); omega), ⟨y_2, ty_2, (Or.inr ⟨c_3, ⟨rfl, rfl⟩⟩)⟩⟩), wd_t ht hW⟩, hS.F ht⟩) hS.2.2 dX12_feed_14

set_option maxHeartbeats 4000000 in
set_option maxRecDepth 100000 in
theorem n_end (l : Launch) (D : va_G) (k : KT) (A : Nat → Prop) (a : Nat → Nat) (z : SK) (G : GS) (p0 : Int32)  : Met l yX12_end (WS yX12_end cX12_end 2 (some .int)) ({ frames := 0, cells := 0, slots := 0, locals := 0 }) (va_Pc [.ref (a 66), .int p0] (cW D k A a z G)) (va_Qi (fun (r : Int32) (G1 : GS) => Q_end p0 G r G1) (fun (G1 : GS) t => Wd D k A a G1 t.heap) A) 0 0 A := by
  refine Met.ofW (cc := cX12_end) (maxL := 2) (ret := (some .int)) (by decide) rfl ?_
  intro p e s m args below meth c s₁ B hml hv
  obtain ⟨rfl, hW, hB_G, hK, hZ⟩ := hv
  have hx := B.exec
  have hb := B.bytes
  have hr := B.returns
  have hts := atoms_spec (ws := WS yX12_end cX12_end 2 (some .int)) B.pre
  have hgd : ∀ w ∈ gd, w ∈ WS yX12_end cX12_end 2 (some .int) := fun w h => List.mem_cons_of_mem _ h
  have hg : ∀ w ∈ gd, w.before _ s = true := fun w h => hts w (hgd w h)
  have hown : s.vm.findClass RX12 = some m.cls := findClass_of_methodNamed B.named
  have hS : va_S A s.heap s.heap [] := va_S.rf
  have hF : Fr [] [(66, 1)] G G := Fr.rf
  have hl := lv_entry ([.ref (a 66), .int p0]) (n := 2) (Nat.le_of_ble_eq_true rfl)
  rw [lg_entry_eq]
  generalize (lg_sl ([.ref (a 66), .int p0]) ++ List.replicate (2 - (lg_sl ([.ref (a 66), .int p0])).length) Slot.unset).toArray = ls at hl ⊢
  have hl : lv_has ls 2 [(0, .ref (a 66)), (1, .int p0)] := hl
  refine lv_iload_n hx hb dX12_end_0 rfl (lv_at hl 1 rfl) ?_
  refine lv_if_lt (tgt := 12) hx hb dX12_end_1 rfl (fun c_1 => ?_) (fun c_1 => ?_)
  · have c_1 : p0.toInt < 0 := xI_lt rfl rfl c_1
    refine ic_m1 hx hb dX12_end_12 ?_
    have b_2 : 0 ≤ (G.1 66 1).toInt ∧ (G.1 66 1).toInt ≤ 1600 := bd_66_1 hB_G
    exact W.iret (v := (-1)) hx hb hr (fun t ht _ => ⟨⟨(-1), G, rfl, (Q_end_mk ⟨hB_G, hF, (by have hq : ((-1) : Int32).toInt = (-1) := rfl; (try dsimp only); omega), (Or.inl ⟨c_1, ⟨rfl, rfl⟩⟩)⟩), wd_t ht hW⟩, hS.F ht⟩) hS.2.2 dX12_end_13
  · have c_1 : 0 ≤ p0.toInt := xI_nlt rfl rfl c_1
    refine lv_iload_n hx hb dX12_end_4 rfl (lv_at hl 1 rfl) ?_
    refine lv_aload_n hx hb dX12_end_5 rfl (lv_at hl 0 rfl) ?_
    have b_3 : 0 ≤ (G.1 66 1).toInt ∧ (G.1 66 1).toInt ≤ 1600 := bd_66_1 hB_G
    refine S_getI (v := (G.1 66 1)) (C := RX12) (T := TX12) (N := 89) hx hb hg iX12 hown hK hW kd_66 rfl 1 (lt_b rfl) (hg (Cond.fieldLink RX12 178 "SlabWalkModel" "taped" "I") m1315) (fun _ h9 => h9) rfl rfl dX12_end_6 ?_
    refine lv_icmp_le (tgt := 14) hx hb dX12_end_9 rfl (fun c_4 => ?_) (fun c_4 => ?_)
    · have c_4 : p0.toInt ≤ (G.1 66 1).toInt := xI_le rfl rfl c_4
      refine lv_aload_n hx hb dX12_end_14 rfl (lv_at hl 0 rfl) ?_
      refine lv_iload_n hx hb dX12_end_15 rfl (lv_at hl 1 rfl) ?_
      refine S_putI (ty := .int) (C := RX12) (T := TX12) (N := 89) hx hb hg iX12 tyX12 tyX12_ok nmX12 hown hK hW hS kd_66 rfl 1 (lt_b rfl) (hg (Cond.fieldLink RX12 178 "SlabWalkModel" "taped" "I") m1315) (fun _ h9 => h9) rfl (by decide +kernel) rfl rfl rfl dX12_end_16 (fun G_5 H locs eG_5 hW hS => ?_)
      have hB_G_5 : Bd G_5 := hB_G.put (V := p0.toInt) (lo := 0) (hi := 1600) eG_5 rfl rfl rfl (by omega) (by omega) (hB_G.2.put eG_5 rfl)
      have hF := hF.put eG_5 (Or.inr (by decide))
      refine lv_iload_n hx hb dX12_end_19 rfl (lv_at hl 1 rfl) ?_
      have g_6 : (G_5.1 66 1).toInt = p0.toInt := (congrArg Int32.toInt (show G_5.1 66 1 = p0 from (gp_eq eG_5)))
      exact W.iret (v := p0) hx hb hr (fun t ht _ => ⟨⟨p0, G_5, rfl, (Q_end_mk ⟨hB_G_5, hF, ((by first | exact ⟨(fun h9 => ⟨(by omega), (by omega)⟩), (fun h9 => ⟨(by omega), (by omega)⟩)⟩ | omega)), (Or.inr ⟨c_1, (Or.inl ⟨c_4, ⟨rfl, (Fr.put (rs := []) (fs := [(66, 1)]) Fr.rf eG_5 (Or.inr (by decide))), (gp_eq eG_5)⟩⟩)⟩)⟩), wd_t ht hW⟩, hS.F ht⟩) hS.2.2 dX12_end_20
    · have c_4 : (G.1 66 1).toInt < p0.toInt := xI_nle rfl rfl c_4
      refine ic_m1 hx hb dX12_end_12 ?_
      exact W.iret (v := (-1)) hx hb hr (fun t ht _ => ⟨⟨(-1), G, rfl, (Q_end_mk ⟨hB_G, hF, (by have hq : ((-1) : Int32).toInt = (-1) := rfl; (try dsimp only); omega), (Or.inr ⟨c_1, (Or.inr ⟨c_4, ⟨rfl, rfl⟩⟩)⟩)⟩), wd_t ht hW⟩, hS.F ht⟩) hS.2.2 dX12_end_13

set_option maxHeartbeats 4000000 in
set_option maxRecDepth 100000 in
theorem n_here (l : Launch) (D : va_G) (k : KT) (A : Nat → Prop) (a : Nat → Nat) (z : SK) (G : GS) (p0 : Int32) (ha_p0 : 0 ≤ p0.toInt ∧ p0.toInt ≤ 1601) : Met l yX12_here (WS yX12_here cX12_here 2 (some .int)) ({ frames := 0, cells := 0, slots := 0, locals := 0 }) (va_Pc [.ref (a 66), .int p0] (cW D k A a z G)) (va_Qi (fun (r : Int32) (G1 : GS) => Q_here p0 G r G1) (fun (G1 : GS) t => Wd D k A a G1 t.heap) A) 0 0 A := by
  refine Met.ofW (cc := cX12_here) (maxL := 2) (ret := (some .int)) (by decide) rfl ?_
  intro p e s m args below meth c s₁ B hml hv
  obtain ⟨rfl, hW, hB_G, hK, hZ⟩ := hv
  have hx := B.exec
  have hb := B.bytes
  have hr := B.returns
  have hts := atoms_spec (ws := WS yX12_here cX12_here 2 (some .int)) B.pre
  have hgd : ∀ w ∈ gd, w ∈ WS yX12_here cX12_here 2 (some .int) := fun w h => List.mem_cons_of_mem _ h
  have hg : ∀ w ∈ gd, w.before _ s = true := fun w h => hts w (hgd w h)
  have hown : s.vm.findClass RX12 = some m.cls := findClass_of_methodNamed B.named
  have hS : va_S A s.heap s.heap [] := va_S.rf
  have hF : Fr [] [] G G := Fr.rf
  have hl := lv_entry ([.ref (a 66), .int p0]) (n := 2) (Nat.le_of_ble_eq_true rfl)
  rw [lg_entry_eq]
  generalize (lg_sl ([.ref (a 66), .int p0]) ++ List.replicate (2 - (lg_sl ([.ref (a 66), .int p0])).length) Slot.unset).toArray = ls at hl ⊢
  have hl : lv_has ls 2 [(0, .ref (a 66)), (1, .int p0)] := hl
  refine lv_aload_n hx hb dX12_here_0 rfl (lv_at hl 0 rfl) ?_
  have b_1 : 0 ≤ (G.1 66 4).toInt ∧ (G.1 66 4).toInt ≤ 1600 := bd_66_4 hB_G
  refine S_getI (v := (G.1 66 4)) (C := RX12) (T := TX12) (N := 89) hx hb hg iX12 hown hK hW kd_66 rfl 4 (lt_b rfl) (hg (Cond.fieldLink RX12 185 "SlabWalkModel" "at" "I") m1318) (fun _ h9 => h9) rfl rfl dX12_here_1 ?_
  refine lv_iload_n hx hb dX12_here_4 rfl (lv_at hl 1 rfl) ?_
  refine lv_iadd hx hb dX12_here_5 ?_
  refine lv_topi (fun y_2 ey_2 => ?_)
  have ty_2 : y_2.toInt = (G.1 66 4).toInt + p0.toInt := xI_add rfl rfl ey_2 (by omega) (by omega)
  refine lv_aload_n hx hb dX12_here_6 rfl (lv_at hl 0 rfl) ?_
  have b_3 : 0 ≤ (G.1 66 5).toInt ∧ (G.1 66 5).toInt ≤ 1600 := bd_66_5 hB_G
  refine S_getI (v := (G.1 66 5)) (C := RX12) (T := TX12) (N := 89) hx hb hg iX12 hown hK hW kd_66 rfl 5 (lt_b rfl) (hg (Cond.fieldLink RX12 188 "SlabWalkModel" "size" "I") m1319) (fun _ h9 => h9) rfl rfl dX12_here_7 ?_
  refine lv_icmp_ge (tgt := 27) hx hb dX12_here_10 rfl (fun c_4 => ?_) (fun c_4 => ?_)
  · have c_4 : (G.1 66 5).toInt ≤ y_2.toInt := xI_le rfl rfl c_4
    refine ic_m1 hx hb dX12_here_27 ?_
    exact W.iret (v := (-1)) hx hb hr (fun t ht _ => ⟨⟨(-1), G, rfl, (Q_here_mk ⟨hB_G, hF, ⟨by decide, by decide⟩, (by have hq : ((-1) : Int32).toInt = (-1) := rfl; (try dsimp only); omega), ⟨y_2, ty_2, (Or.inl ⟨c_4, ⟨rfl, rfl⟩⟩)⟩⟩), wd_t ht hW⟩, hS.F ht⟩) hS.2.2 dX12_here_28
  · have c_4 : y_2.toInt < (G.1 66 5).toInt := xI_nle rfl rfl c_4
    refine lv_aload_n hx hb dX12_here_13 rfl (lv_at hl 0 rfl) ?_
    refine S_getR (n := 67) (C := RX12) (T := TX12) (N := 89) hx hb hg iX12 hown hK hW kd_66 rfl 0 (lt_b rfl) (hg (Cond.fieldLink RX12 7 "SlabWalkModel" "tape" "[I") m1314) (fun _ h9 => h9) rfl dX12_here_14 ?_
    refine lv_aload_n hx hb dX12_here_17 rfl (lv_at hl 0 rfl) ?_
    refine S_getI (v := (G.1 66 4)) (C := RX12) (T := TX12) (N := 89) hx hb hg iX12 hown hK hW kd_66 rfl 4 (lt_b rfl) (hg (Cond.fieldLink RX12 185 "SlabWalkModel" "at" "I") m1318) (fun _ h9 => h9) rfl rfl dX12_here_18 ?_
    refine lv_iload_n hx hb dX12_here_21 rfl (lv_at hl 1 rfl) ?_
    refine lv_iadd hx hb dX12_here_22 ?_
    refine lv_topi (fun y_5 ey_5 => ?_)
    have ty_5 : y_5.toInt = (G.1 66 4).toInt + p0.toInt := xI_add rfl rfl ey_5 (by omega) (by omega)
    refine S_iald hx hb hK hW kd_67 (vin (by omega) (by omega)) dX12_here_23 (fun y_6 ey_6 => ?_)
    have ty_6 : 0 ≤ y_6.toInt ∧ y_6.toInt ≤ 255 := bv_67 hB_G ey_6
    refine lv_goto (tgt := 28) hx hb dX12_here_24 rfl ?_
    exact W.iret (v := y_6) hx hb hr (fun t ht _ => ⟨⟨y_6, G, rfl, (Q_here_mk ⟨hB_G, hF, ⟨(by first | (clear ha_p0 b_1 ty_2 b_3 c_4 ty_5; omega) | omega), (by first | (clear ha_p0 b_1 ty_2 b_3 c_4 ty_5; omega) | omega)⟩, (by omega), ⟨y_2, ty_2, (Or.inr ⟨c_4, ⟨y_5, ty_5, ⟨y_6, ey_6, ⟨rfl, rfl⟩⟩⟩⟩)⟩⟩), wd_t ht hW⟩, hS.F ht⟩) hS.2.2 dX12_here_28

set_option maxHeartbeats 4000000 in
set_option maxRecDepth 100000 in
theorem n_letter (l : Launch) (D : va_G) (k : KT) (A : Nat → Prop) (a : Nat → Nat) (z : SK) (G : GS) (p0 : Int32)  : Met l yX12_isLetter (WS yX12_isLetter cX12_isLetter 1 (some .boolean)) ({ frames := 0, cells := 0, slots := 0, locals := 0 }) (va_Pc [.int p0] (cW D k A a z G)) (va_Qi (fun (r : Int32) (G1 : GS) => Q_letter p0 G r G1) (fun (G1 : GS) t => Wd D k A a G1 t.heap) A) 0 0 A := by
  refine Met.ofW (cc := cX12_isLetter) (maxL := 1) (ret := (some .boolean)) (by decide) rfl ?_
  intro p e s m args below meth c s₁ B hml hv
  obtain ⟨rfl, hW, hB_G, hK, hZ⟩ := hv
  have hx := B.exec
  have hb := B.bytes
  have hr := B.returns
  have hts := atoms_spec (ws := WS yX12_isLetter cX12_isLetter 1 (some .boolean)) B.pre
  have hgd : ∀ w ∈ gd, w ∈ WS yX12_isLetter cX12_isLetter 1 (some .boolean) := fun w h => List.mem_cons_of_mem _ h
  have hg : ∀ w ∈ gd, w.before _ s = true := fun w h => hts w (hgd w h)
  have hown : s.vm.findClass RX12 = some m.cls := findClass_of_methodNamed B.named
  have hS : va_S A s.heap s.heap [] := va_S.rf
  have hF : Fr [] [] G G := Fr.rf
  have hl := lv_entry ([.int p0]) (n := 1) (Nat.le_of_ble_eq_true rfl)
  rw [lg_entry_eq]
  generalize (lg_sl ([.int p0]) ++ List.replicate (1 - (lg_sl ([.int p0])).length) Slot.unset).toArray = ls at hl ⊢
  have hl : lv_has ls 1 [(0, .int p0)] := hl
  refine lv_iload_n hx hb dX12_isLetter_0 rfl (lv_at hl 0 rfl) ?_
  refine lv_bipush (v := 97) hx hb dX12_isLetter_1 (by decide) ?_
  refine lv_icmp_lt (tgt := 16) hx hb dX12_isLetter_3 rfl (fun c_1 => ?_) (fun c_1 => ?_)
  · have c_1 : p0.toInt < 97 := xI_lt rfl rfl c_1
    refine ic_0 hx hb dX12_isLetter_16 ?_
    exact W.zret (v := 0) hx hb hr (by decide) (fun t ht _ => ⟨⟨0, G, rfl, (Q_letter_mk ⟨hB_G, hF, ⟨by decide, by decide⟩, (by have hq : (0 : Int32).toInt = 0 := rfl; (try dsimp only); omega), (Or.inl ⟨c_1, ⟨rfl, rfl⟩⟩)⟩), wd_t ht hW⟩, hS.F ht⟩) hS.2.2 dX12_isLetter_17
  · have c_1 : 97 ≤ p0.toInt := xI_nlt rfl rfl c_1
    refine lv_iload_n hx hb dX12_isLetter_6 rfl (lv_at hl 0 rfl) ?_
    refine lv_bipush (v := 122) hx hb dX12_isLetter_7 (by decide) ?_
    refine lv_icmp_gt (tgt := 16) hx hb dX12_isLetter_9 rfl (fun c_2 => ?_) (fun c_2 => ?_)
    · have c_2 : 122 < p0.toInt := xI_lt rfl rfl c_2
      refine ic_0 hx hb dX12_isLetter_16 ?_
      exact W.zret (v := 0) hx hb hr (by decide) (fun t ht _ => ⟨⟨0, G, rfl, (Q_letter_mk ⟨hB_G, hF, ⟨by decide, by decide⟩, (by have hq : (0 : Int32).toInt = 0 := rfl; (try dsimp only); omega), (Or.inr ⟨c_1, (Or.inl ⟨c_2, ⟨rfl, rfl⟩⟩)⟩)⟩), wd_t ht hW⟩, hS.F ht⟩) hS.2.2 dX12_isLetter_17
    · have c_2 : p0.toInt ≤ 122 := xI_nlt rfl rfl c_2
      refine ic_1 hx hb dX12_isLetter_12 ?_
      refine lv_goto (tgt := 17) hx hb dX12_isLetter_13 rfl ?_
      exact W.zret (v := 1) hx hb hr (by decide) (fun t ht _ => ⟨⟨1, G, rfl, (Q_letter_mk ⟨hB_G, hF, ⟨by decide, by decide⟩, (by have hq : (1 : Int32).toInt = 1 := rfl; (try dsimp only); omega), (Or.inr ⟨c_1, (Or.inr ⟨c_2, ⟨rfl, rfl⟩⟩)⟩)⟩), wd_t ht hW⟩, hS.F ht⟩) hS.2.2 dX12_isLetter_17

set_option maxHeartbeats 4000000 in
set_option maxRecDepth 100000 in
theorem n_digit (l : Launch) (D : va_G) (k : KT) (A : Nat → Prop) (a : Nat → Nat) (z : SK) (G : GS) (p0 : Int32)  : Met l yX12_isDigit (WS yX12_isDigit cX12_isDigit 1 (some .boolean)) ({ frames := 0, cells := 0, slots := 0, locals := 0 }) (va_Pc [.int p0] (cW D k A a z G)) (va_Qi (fun (r : Int32) (G1 : GS) => Q_digit p0 G r G1) (fun (G1 : GS) t => Wd D k A a G1 t.heap) A) 0 0 A := by
  refine Met.ofW (cc := cX12_isDigit) (maxL := 1) (ret := (some .boolean)) (by decide) rfl ?_
  intro p e s m args below meth c s₁ B hml hv
  obtain ⟨rfl, hW, hB_G, hK, hZ⟩ := hv
  have hx := B.exec
  have hb := B.bytes
  have hr := B.returns
  have hts := atoms_spec (ws := WS yX12_isDigit cX12_isDigit 1 (some .boolean)) B.pre
  have hgd : ∀ w ∈ gd, w ∈ WS yX12_isDigit cX12_isDigit 1 (some .boolean) := fun w h => List.mem_cons_of_mem _ h
  have hg : ∀ w ∈ gd, w.before _ s = true := fun w h => hts w (hgd w h)
  have hown : s.vm.findClass RX12 = some m.cls := findClass_of_methodNamed B.named
  have hS : va_S A s.heap s.heap [] := va_S.rf
  have hF : Fr [] [] G G := Fr.rf
  have hl := lv_entry ([.int p0]) (n := 1) (Nat.le_of_ble_eq_true rfl)
  rw [lg_entry_eq]
  generalize (lg_sl ([.int p0]) ++ List.replicate (1 - (lg_sl ([.int p0])).length) Slot.unset).toArray = ls at hl ⊢
  have hl : lv_has ls 1 [(0, .int p0)] := hl
  refine lv_iload_n hx hb dX12_isDigit_0 rfl (lv_at hl 0 rfl) ?_
  refine lv_bipush (v := 48) hx hb dX12_isDigit_1 (by decide) ?_
  refine lv_icmp_lt (tgt := 16) hx hb dX12_isDigit_3 rfl (fun c_1 => ?_) (fun c_1 => ?_)
  · have c_1 : p0.toInt < 48 := xI_lt rfl rfl c_1
    refine ic_0 hx hb dX12_isDigit_16 ?_
    exact W.zret (v := 0) hx hb hr (by decide) (fun t ht _ => ⟨⟨0, G, rfl, (Q_digit_mk ⟨hB_G, hF, ⟨by decide, by decide⟩, (by have hq : (0 : Int32).toInt = 0 := rfl; (try dsimp only); omega), (Or.inl ⟨c_1, ⟨rfl, rfl⟩⟩)⟩), wd_t ht hW⟩, hS.F ht⟩) hS.2.2 dX12_isDigit_17
  · have c_1 : 48 ≤ p0.toInt := xI_nlt rfl rfl c_1
    refine lv_iload_n hx hb dX12_isDigit_6 rfl (lv_at hl 0 rfl) ?_
    refine lv_bipush (v := 57) hx hb dX12_isDigit_7 (by decide) ?_
    refine lv_icmp_gt (tgt := 16) hx hb dX12_isDigit_9 rfl (fun c_2 => ?_) (fun c_2 => ?_)
    · have c_2 : 57 < p0.toInt := xI_lt rfl rfl c_2
      refine ic_0 hx hb dX12_isDigit_16 ?_
      exact W.zret (v := 0) hx hb hr (by decide) (fun t ht _ => ⟨⟨0, G, rfl, (Q_digit_mk ⟨hB_G, hF, ⟨by decide, by decide⟩, (by have hq : (0 : Int32).toInt = 0 := rfl; (try dsimp only); omega), (Or.inr ⟨c_1, (Or.inl ⟨c_2, ⟨rfl, rfl⟩⟩)⟩)⟩), wd_t ht hW⟩, hS.F ht⟩) hS.2.2 dX12_isDigit_17
    · have c_2 : p0.toInt ≤ 57 := xI_nlt rfl rfl c_2
      refine ic_1 hx hb dX12_isDigit_12 ?_
      refine lv_goto (tgt := 17) hx hb dX12_isDigit_13 rfl ?_
      exact W.zret (v := 1) hx hb hr (by decide) (fun t ht _ => ⟨⟨1, G, rfl, (Q_digit_mk ⟨hB_G, hF, ⟨by decide, by decide⟩, (by have hq : (1 : Int32).toInt = 1 := rfl; (try dsimp only); omega), (Or.inr ⟨c_1, (Or.inr ⟨c_2, ⟨rfl, rfl⟩⟩)⟩)⟩), wd_t ht hW⟩, hS.F ht⟩) hS.2.2 dX12_isDigit_17

set_option maxHeartbeats 4000000 in
set_option maxRecDepth 100000 in
theorem n_sign (l : Launch) (D : va_G) (k : KT) (A : Nat → Prop) (a : Nat → Nat) (z : SK) (G : GS) (p0 : Int32)  : Met l yX12_isSign (WS yX12_isSign cX12_isSign 1 (some .boolean)) ({ frames := 0, cells := 0, slots := 0, locals := 0 }) (va_Pc [.int p0] (cW D k A a z G)) (va_Qi (fun (r : Int32) (G1 : GS) => Q_sign p0 G r G1) (fun (G1 : GS) t => Wd D k A a G1 t.heap) A) 0 0 A := by
  refine Met.ofW (cc := cX12_isSign) (maxL := 1) (ret := (some .boolean)) (by decide) rfl ?_
  intro p e s m args below meth c s₁ B hml hv
  obtain ⟨rfl, hW, hB_G, hK, hZ⟩ := hv
  have hx := B.exec
  have hb := B.bytes
  have hr := B.returns
  have hts := atoms_spec (ws := WS yX12_isSign cX12_isSign 1 (some .boolean)) B.pre
  have hgd : ∀ w ∈ gd, w ∈ WS yX12_isSign cX12_isSign 1 (some .boolean) := fun w h => List.mem_cons_of_mem _ h
  have hg : ∀ w ∈ gd, w.before _ s = true := fun w h => hts w (hgd w h)
  have hown : s.vm.findClass RX12 = some m.cls := findClass_of_methodNamed B.named
  have hS : va_S A s.heap s.heap [] := va_S.rf
  have hF : Fr [] [] G G := Fr.rf
  have hl := lv_entry ([.int p0]) (n := 1) (Nat.le_of_ble_eq_true rfl)
  rw [lg_entry_eq]
  generalize (lg_sl ([.int p0]) ++ List.replicate (1 - (lg_sl ([.int p0])).length) Slot.unset).toArray = ls at hl ⊢
  have hl : lv_has ls 1 [(0, .int p0)] := hl
  refine lv_iload_n hx hb dX12_isSign_0 rfl (lv_at hl 0 rfl) ?_
  refine lv_bipush (v := 59) hx hb dX12_isSign_1 (by decide) ?_
  refine lv_icmp_eq (tgt := 66) hx hb dX12_isSign_3 rfl (fun c_1 => ?_) (fun c_1 => ?_)
  · have c_1 : p0.toInt = 59 := xI_eq rfl rfl c_1
    refine ic_1 hx hb dX12_isSign_66 ?_
    refine lv_goto (tgt := 71) hx hb dX12_isSign_67 rfl ?_
    exact W.zret (v := 1) hx hb hr (by decide) (fun t ht _ => ⟨⟨1, G, rfl, (Q_sign_mk ⟨hB_G, hF, ⟨by decide, by decide⟩, (Or.inl ⟨c_1, ⟨rfl, rfl⟩⟩)⟩), wd_t ht hW⟩, hS.F ht⟩) hS.2.2 dX12_isSign_71
  · have c_1 : p0.toInt ≠ 59 := xI_ne rfl rfl c_1
    refine lv_iload_n hx hb dX12_isSign_6 rfl (lv_at hl 0 rfl) ?_
    refine lv_bipush (v := 40) hx hb dX12_isSign_7 (by decide) ?_
    refine lv_icmp_eq (tgt := 66) hx hb dX12_isSign_9 rfl (fun c_2 => ?_) (fun c_2 => ?_)
    · have c_2 : p0.toInt = 40 := xI_eq rfl rfl c_2
      refine ic_1 hx hb dX12_isSign_66 ?_
      refine lv_goto (tgt := 71) hx hb dX12_isSign_67 rfl ?_
      exact W.zret (v := 1) hx hb hr (by decide) (fun t ht _ => ⟨⟨1, G, rfl, (Q_sign_mk ⟨hB_G, hF, ⟨by decide, by decide⟩, (Or.inr ⟨c_1, (Or.inl ⟨c_2, ⟨rfl, rfl⟩⟩)⟩)⟩), wd_t ht hW⟩, hS.F ht⟩) hS.2.2 dX12_isSign_71
    · have c_2 : p0.toInt ≠ 40 := xI_ne rfl rfl c_2
      refine lv_iload_n hx hb dX12_isSign_12 rfl (lv_at hl 0 rfl) ?_
      refine lv_bipush (v := 41) hx hb dX12_isSign_13 (by decide) ?_
      refine lv_icmp_eq (tgt := 66) hx hb dX12_isSign_15 rfl (fun c_3 => ?_) (fun c_3 => ?_)
      · have c_3 : p0.toInt = 41 := xI_eq rfl rfl c_3
        refine ic_1 hx hb dX12_isSign_66 ?_
        refine lv_goto (tgt := 71) hx hb dX12_isSign_67 rfl ?_
        exact W.zret (v := 1) hx hb hr (by decide) (fun t ht _ => ⟨⟨1, G, rfl, (Q_sign_mk ⟨hB_G, hF, ⟨by decide, by decide⟩, (Or.inr ⟨c_1, (Or.inr ⟨c_2, (Or.inl ⟨c_3, ⟨rfl, rfl⟩⟩)⟩)⟩)⟩), wd_t ht hW⟩, hS.F ht⟩) hS.2.2 dX12_isSign_71
      · have c_3 : p0.toInt ≠ 41 := xI_ne rfl rfl c_3
        refine lv_iload_n hx hb dX12_isSign_18 rfl (lv_at hl 0 rfl) ?_
        refine lv_bipush (v := 60) hx hb dX12_isSign_19 (by decide) ?_
        refine lv_icmp_eq (tgt := 66) hx hb dX12_isSign_21 rfl (fun c_4 => ?_) (fun c_4 => ?_)
        · have c_4 : p0.toInt = 60 := xI_eq rfl rfl c_4
          refine ic_1 hx hb dX12_isSign_66 ?_
          refine lv_goto (tgt := 71) hx hb dX12_isSign_67 rfl ?_
          exact W.zret (v := 1) hx hb hr (by decide) (fun t ht _ => ⟨⟨1, G, rfl, (Q_sign_mk ⟨hB_G, hF, ⟨by decide, by decide⟩, (Or.inr ⟨c_1, (Or.inr ⟨c_2, (Or.inr ⟨c_3, (Or.inl ⟨c_4, ⟨rfl, rfl⟩⟩)⟩)⟩)⟩)⟩), wd_t ht hW⟩, hS.F ht⟩) hS.2.2 dX12_isSign_71
        · have c_4 : p0.toInt ≠ 60 := xI_ne rfl rfl c_4
          refine lv_iload_n hx hb dX12_isSign_24 rfl (lv_at hl 0 rfl) ?_
          refine lv_bipush (v := 62) hx hb dX12_isSign_25 (by decide) ?_
          refine lv_icmp_eq (tgt := 66) hx hb dX12_isSign_27 rfl (fun c_5 => ?_) (fun c_5 => ?_)
          · have c_5 : p0.toInt = 62 := xI_eq rfl rfl c_5
            refine ic_1 hx hb dX12_isSign_66 ?_
            refine lv_goto (tgt := 71) hx hb dX12_isSign_67 rfl ?_
            exact W.zret (v := 1) hx hb hr (by decide) (fun t ht _ => ⟨⟨1, G, rfl, (Q_sign_mk ⟨hB_G, hF, ⟨by decide, by decide⟩, (Or.inr ⟨c_1, (Or.inr ⟨c_2, (Or.inr ⟨c_3, (Or.inr ⟨c_4, (Or.inl ⟨c_5, ⟨rfl, rfl⟩⟩)⟩)⟩)⟩)⟩)⟩), wd_t ht hW⟩, hS.F ht⟩) hS.2.2 dX12_isSign_71
          · have c_5 : p0.toInt ≠ 62 := xI_ne rfl rfl c_5
            refine lv_iload_n hx hb dX12_isSign_30 rfl (lv_at hl 0 rfl) ?_
            refine lv_bipush (v := 61) hx hb dX12_isSign_31 (by decide) ?_
            refine lv_icmp_eq (tgt := 66) hx hb dX12_isSign_33 rfl (fun c_6 => ?_) (fun c_6 => ?_)
            · have c_6 : p0.toInt = 61 := xI_eq rfl rfl c_6
              refine ic_1 hx hb dX12_isSign_66 ?_
              refine lv_goto (tgt := 71) hx hb dX12_isSign_67 rfl ?_
              exact W.zret (v := 1) hx hb hr (by decide) (fun t ht _ => ⟨⟨1, G, rfl, (Q_sign_mk ⟨hB_G, hF, ⟨by decide, by decide⟩, (Or.inr ⟨c_1, (Or.inr ⟨c_2, (Or.inr ⟨c_3, (Or.inr ⟨c_4, (Or.inr ⟨c_5, (Or.inl ⟨c_6, ⟨rfl, rfl⟩⟩)⟩)⟩)⟩)⟩)⟩)⟩), wd_t ht hW⟩, hS.F ht⟩) hS.2.2 dX12_isSign_71
            · have c_6 : p0.toInt ≠ 61 := xI_ne rfl rfl c_6
              refine lv_iload_n hx hb dX12_isSign_36 rfl (lv_at hl 0 rfl) ?_
              refine lv_bipush (v := 43) hx hb dX12_isSign_37 (by decide) ?_
              refine lv_icmp_eq (tgt := 66) hx hb dX12_isSign_39 rfl (fun c_7 => ?_) (fun c_7 => ?_)
              · have c_7 : p0.toInt = 43 := xI_eq rfl rfl c_7
                refine ic_1 hx hb dX12_isSign_66 ?_
                refine lv_goto (tgt := 71) hx hb dX12_isSign_67 rfl ?_
                exact W.zret (v := 1) hx hb hr (by decide) (fun t ht _ => ⟨⟨1, G, rfl, (Q_sign_mk ⟨hB_G, hF, ⟨by decide, by decide⟩, (Or.inr ⟨c_1, (Or.inr ⟨c_2, (Or.inr ⟨c_3, (Or.inr ⟨c_4, (Or.inr ⟨c_5, (Or.inr ⟨c_6, (Or.inl ⟨c_7, ⟨rfl, rfl⟩⟩)⟩)⟩)⟩)⟩)⟩)⟩)⟩), wd_t ht hW⟩, hS.F ht⟩) hS.2.2 dX12_isSign_71
              · have c_7 : p0.toInt ≠ 43 := xI_ne rfl rfl c_7
                refine lv_iload_n hx hb dX12_isSign_42 rfl (lv_at hl 0 rfl) ?_
                refine lv_bipush (v := 45) hx hb dX12_isSign_43 (by decide) ?_
                refine lv_icmp_eq (tgt := 66) hx hb dX12_isSign_45 rfl (fun c_8 => ?_) (fun c_8 => ?_)
                · have c_8 : p0.toInt = 45 := xI_eq rfl rfl c_8
                  refine ic_1 hx hb dX12_isSign_66 ?_
                  refine lv_goto (tgt := 71) hx hb dX12_isSign_67 rfl ?_
                  exact W.zret (v := 1) hx hb hr (by decide) (fun t ht _ => ⟨⟨1, G, rfl, (Q_sign_mk ⟨hB_G, hF, ⟨by decide, by decide⟩, (Or.inr ⟨c_1, (Or.inr ⟨c_2, (Or.inr ⟨c_3, (Or.inr ⟨c_4, (Or.inr ⟨c_5, (Or.inr ⟨c_6, (Or.inr ⟨c_7, (Or.inl ⟨c_8, ⟨rfl, rfl⟩⟩)⟩)⟩)⟩)⟩)⟩)⟩)⟩)⟩), wd_t ht hW⟩, hS.F ht⟩) hS.2.2 dX12_isSign_71
                · have c_8 : p0.toInt ≠ 45 := xI_ne rfl rfl c_8
                  refine lv_iload_n hx hb dX12_isSign_48 rfl (lv_at hl 0 rfl) ?_
                  refine lv_bipush (v := 42) hx hb dX12_isSign_49 (by decide) ?_
                  refine lv_icmp_eq (tgt := 66) hx hb dX12_isSign_51 rfl (fun c_9 => ?_) (fun c_9 => ?_)
                  · have c_9 : p0.toInt = 42 := xI_eq rfl rfl c_9
                    refine ic_1 hx hb dX12_isSign_66 ?_
                    refine lv_goto (tgt := 71) hx hb dX12_isSign_67 rfl ?_
                    exact W.zret (v := 1) hx hb hr (by decide) (fun t ht _ => ⟨⟨1, G, rfl, (Q_sign_mk ⟨hB_G, hF, ⟨by decide, by decide⟩, (Or.inr ⟨c_1, (Or.inr ⟨c_2, (Or.inr ⟨c_3, (Or.inr ⟨c_4, (Or.inr ⟨c_5, (Or.inr ⟨c_6, (Or.inr ⟨c_7, (Or.inr ⟨c_8, (Or.inl ⟨c_9, ⟨rfl, rfl⟩⟩)⟩)⟩)⟩)⟩)⟩)⟩)⟩)⟩)⟩), wd_t ht hW⟩, hS.F ht⟩) hS.2.2 dX12_isSign_71
                  · have c_9 : p0.toInt ≠ 42 := xI_ne rfl rfl c_9
                    refine lv_iload_n hx hb dX12_isSign_54 rfl (lv_at hl 0 rfl) ?_
                    refine lv_bipush (v := 47) hx hb dX12_isSign_55 (by decide) ?_
                    refine lv_icmp_eq (tgt := 66) hx hb dX12_isSign_57 rfl (fun c_10 => ?_) (fun c_10 => ?_)
                    · have c_10 : p0.toInt = 47 := xI_eq rfl rfl c_10
                      refine ic_1 hx hb dX12_isSign_66 ?_
                      refine lv_goto (tgt := 71) hx hb dX12_isSign_67 rfl ?_
                      exact W.zret (v := 1) hx hb hr (by decide) (fun t ht _ => ⟨⟨1, G, rfl, (Q_sign_mk ⟨hB_G, hF, ⟨by decide, by decide⟩, (Or.inr ⟨c_1, (Or.inr ⟨c_2, (Or.inr ⟨c_3, (Or.inr ⟨c_4, (Or.inr ⟨c_5, (Or.inr ⟨c_6, (Or.inr ⟨c_7, (Or.inr ⟨c_8, (Or.inr ⟨c_9, (Or.inl ⟨c_10, ⟨rfl, rfl⟩⟩)⟩)⟩)⟩)⟩)⟩)⟩)⟩)⟩)⟩)⟩), wd_t ht hW⟩, hS.F ht⟩) hS.2.2 dX12_isSign_71
                    · have c_10 : p0.toInt ≠ 47 := xI_ne rfl rfl c_10
                      refine lv_iload_n hx hb dX12_isSign_60 rfl (lv_at hl 0 rfl) ?_
                      refine lv_bipush (v := 37) hx hb dX12_isSign_61 (by decide) ?_
                      refine lv_icmp_ne (tgt := 70) hx hb dX12_isSign_63 rfl (fun c_11 => ?_) (fun c_11 => ?_)
                      · have c_11 : p0.toInt ≠ 37 := xI_ne rfl rfl c_11
                        refine ic_0 hx hb dX12_isSign_70 ?_
                        exact W.zret (v := 0) hx hb hr (by decide) (fun t ht _ => ⟨⟨0, G, rfl, (Q_sign_mk ⟨hB_G, hF, ⟨by decide, by decide⟩, (Or.inr ⟨c_1, (Or.inr ⟨c_2, (Or.inr ⟨c_3, (Or.inr ⟨c_4, (Or.inr ⟨c_5, (Or.inr ⟨c_6, (Or.inr ⟨c_7, (Or.inr ⟨c_8, (Or.inr ⟨c_9, (Or.inr ⟨c_10, (Or.inr ⟨c_11, ⟨rfl, rfl⟩⟩)⟩)⟩)⟩)⟩)⟩)⟩)⟩)⟩)⟩)⟩)⟩), wd_t ht hW⟩, hS.F ht⟩) hS.2.2 dX12_isSign_71
                      · have c_11 : p0.toInt = 37 := xI_eq rfl rfl c_11
                        refine ic_1 hx hb dX12_isSign_66 ?_
                        refine lv_goto (tgt := 71) hx hb dX12_isSign_67 rfl ?_
                        exact W.zret (v := 1) hx hb hr (by decide) (fun t ht _ => ⟨⟨1, G, rfl, (Q_sign_mk ⟨hB_G, hF, ⟨by decide, by decide⟩, (Or.inr ⟨c_1, (Or.inr ⟨c_2, (Or.inr ⟨c_3, (Or.inr ⟨c_4, (Or.inr ⟨c_5, (Or.inr ⟨c_6, (Or.inr ⟨c_7, (Or.inr ⟨c_8, (Or.inr ⟨c_9, (Or.inr ⟨c_10, (Or.inl ⟨c_11, ⟨rfl, rfl⟩⟩)⟩)⟩)⟩)⟩)⟩)⟩)⟩)⟩)⟩)⟩)⟩), wd_t ht hW⟩, hS.F ht⟩) hS.2.2 dX12_isSign_71
