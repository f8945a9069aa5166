theorem m1 : Cond.selects RX1 yX1_forgetActs yX1_forgetActs ∈ gd := gds_1 1 rfl
theorem m127 : Cond.initialized RX1 ∈ gd := gdc_1_0 11 rfl gw_initialized
theorem m130 : Cond.initialized "java/lang/System" ∈ gd := gdc_1_0 14 rfl gw_initialized
theorem m492 : Cond.fieldLink RX1 11 "SlabWalk$Earnest" "now" "[I" ∈ gd := gdc_2_8 8 rfl gw_fieldLink
theorem m494 : Cond.fieldLink RX1 15 "SlabWalk$Earnest" "kept" "[I" ∈ gd := gdc_2_8 10 rfl gw_fieldLink
theorem m495 : Cond.fieldLink RX1 18 "SlabWalk$Earnest" "boxes" "[I" ∈ gd := gdc_2_8 11 rfl gw_fieldLink
theorem m496 : Cond.fieldLink RX1 27 "SlabWalk$Earnest" "full" "I" ∈ gd := gdc_2_8 12 rfl gw_fieldLink
theorem m497 : Cond.fieldLink RX1 34 "SlabWalk$Earnest" "done" "I" ∈ gd := gdc_2_8 13 rfl gw_fieldLink
theorem m499 : Cond.fieldLink RX1 37 "SlabWalk$Earnest" "undone" "I" ∈ gd := gdc_2_8 15 rfl gw_fieldLink
theorem m562 : Cond.methodLink RX1 21 yJ7_fill_53178 ∈ gd := gdc_2_12 14 rfl gw_methodLink
theorem m563 : Cond.methodLink RX1 31 yX1_forgetActs ∈ gd := gdc_2_12 15 rfl gw_methodLink
theorem m565 : Cond.instanceMethod yX1_forgetActs ∈ gd := gdc_2_13 1 rfl gw_instanceMethod
theorem m566 : Cond.code yX1_forgetActs cX1_forgetActs 1 none ∈ gd := gdc_2_13 2 rfl gw_code
theorem m567 : Cond.methodLink RX1 40 arraycopyName ∈ gd := gdc_2_13 3 rfl gw_methodLink
theorem m568 : Cond.static arraycopyName ∈ gd := gdc_2_13 4 rfl gw_static
theorem m569 : Cond.native arraycopyName ∈ gd := gdc_2_13 5 rfl rfl
def rbX1_bringFrom_0 : List (Nat × List Nat) := [(0, [27]), (1, [155, 0, 19]), (4, [27]), (5, [6]), (6, [162, 0, 14]), (9, [42]), (10, [180, 0, 27]), (13, [27]), (14, [122]), (15, [4]), (16, [126]), (17, [154, 0, 5]), (20, [3]), (21, [172]), (22, [42]), (23, [180, 0, 18]), (26, [27]), (27, [16, 10]), (29, [104]), (30, [42]), (31, [180, 0, 11]), (34, [3]), (35, [16, 10]), (37, [184, 0, 40])]
theorem rcX1_bringFrom_0 : dgo (lb cX1_bringFrom) 0 rbX1_bringFrom_0 = true := by decide +kernel
theorem dX1_bringFrom_0 : decode cX1_bringFrom 0 = .ok (.iload_n 1, 1) := dk_27 (dw rcX1_bringFrom_0 0 rfl)
theorem dX1_bringFrom_1 : decode cX1_bringFrom 1 = .ok (.ifCond .lt 19, 3) := dk_155 (dw rcX1_bringFrom_0 1 rfl) rfl
theorem dX1_bringFrom_4 : decode cX1_bringFrom 4 = .ok (.iload_n 1, 1) := dk_27 (dw rcX1_bringFrom_0 2 rfl)
theorem dX1_bringFrom_5 : decode cX1_bringFrom 5 = .ok (.iconst 3, 1) := dk_6 (dw rcX1_bringFrom_0 3 rfl)
theorem dX1_bringFrom_6 : decode cX1_bringFrom 6 = .ok (.if_icmp .ge 14, 3) := dk_162 (dw rcX1_bringFrom_0 4 rfl) rfl
theorem dX1_bringFrom_9 : decode cX1_bringFrom 9 = .ok (.aload_n 0, 1) := dk_42 (dw rcX1_bringFrom_0 5 rfl)
theorem dX1_bringFrom_10 : decode cX1_bringFrom 10 = .ok (.getfield 27, 3) := dk_180 (dw rcX1_bringFrom_0 6 rfl) rfl
theorem dX1_bringFrom_13 : decode cX1_bringFrom 13 = .ok (.iload_n 1, 1) := dk_27 (dw rcX1_bringFrom_0 7 rfl)
theorem dX1_bringFrom_14 : decode cX1_bringFrom 14 = .ok (.ishr, 1) := dk_122 (dw rcX1_bringFrom_0 8 rfl)
theorem dX1_bringFrom_15 : decode cX1_bringFrom 15 = .ok (.iconst 1, 1) := dk_4 (dw rcX1_bringFrom_0 9 rfl)
theorem dX1_bringFrom_16 : decode cX1_bringFrom 16 = .ok (.iand, 1) := dk_126 (dw rcX1_bringFrom_0 10 rfl)
theorem dX1_bringFrom_17 : decode cX1_bringFrom 17 = .ok (.ifCond .ne 5, 3) := dk_154 (dw rcX1_bringFrom_0 11 rfl) rfl
theorem dX1_bringFrom_20 : decode cX1_bringFrom 20 = .ok (.iconst 0, 1) := dk_3 (dw rcX1_bringFrom_0 12 rfl)
theorem dX1_bringFrom_21 : decode cX1_bringFrom 21 = .ok (.ireturn, 1) := dk_172 (dw rcX1_bringFrom_0 13 rfl)
theorem dX1_bringFrom_22 : decode cX1_bringFrom 22 = .ok (.aload_n 0, 1) := dk_42 (dw rcX1_bringFrom_0 14 rfl)
theorem dX1_bringFrom_23 : decode cX1_bringFrom 23 = .ok (.getfield 18, 3) := dk_180 (dw rcX1_bringFrom_0 15 rfl) rfl
theorem dX1_bringFrom_26 : decode cX1_bringFrom 26 = .ok (.iload_n 1, 1) := dk_27 (dw rcX1_bringFrom_0 16 rfl)
theorem dX1_bringFrom_27 : decode cX1_bringFrom 27 = .ok (.bipush 10, 2) := dk_16 (dw rcX1_bringFrom_0 17 rfl) rfl
theorem dX1_bringFrom_29 : decode cX1_bringFrom 29 = .ok (.imul, 1) := dk_104 (dw rcX1_bringFrom_0 18 rfl)
theorem dX1_bringFrom_30 : decode cX1_bringFrom 30 = .ok (.aload_n 0, 1) := dk_42 (dw rcX1_bringFrom_0 19 rfl)
theorem dX1_bringFrom_31 : decode cX1_bringFrom 31 = .ok (.getfield 11, 3) := dk_180 (dw rcX1_bringFrom_0 20 rfl) rfl
theorem dX1_bringFrom_34 : decode cX1_bringFrom 34 = .ok (.iconst 0, 1) := dk_3 (dw rcX1_bringFrom_0 21 rfl)
theorem dX1_bringFrom_35 : decode cX1_bringFrom 35 = .ok (.bipush 10, 2) := dk_16 (dw rcX1_bringFrom_0 22 rfl) rfl
theorem dX1_bringFrom_37 : decode cX1_bringFrom 37 = .ok (.invokestatic 40, 3) := dk_184 (dw rcX1_bringFrom_0 23 rfl) rfl
def rbX1_bringFrom_40 : List (Nat × List Nat) := [(40, [42]), (41, [182, 0, 31]), (44, [4]), (45, [172])]
theorem rcX1_bringFrom_40 : dgo (lb cX1_bringFrom) 0 rbX1_bringFrom_40 = true := by decide +kernel
theorem dX1_bringFrom_40 : decode cX1_bringFrom 40 = .ok (.aload_n 0, 1) := dk_42 (dw rcX1_bringFrom_40 0 rfl)
theorem dX1_bringFrom_41 : decode cX1_bringFrom 41 = .ok (.invokevirtual 31, 3) := dk_182 (dw rcX1_bringFrom_40 1 rfl) rfl
theorem dX1_bringFrom_44 : decode cX1_bringFrom 44 = .ok (.iconst 1, 1) := dk_4 (dw rcX1_bringFrom_40 2 rfl)
theorem dX1_bringFrom_45 : decode cX1_bringFrom 45 = .ok (.ireturn, 1) := dk_172 (dw rcX1_bringFrom_40 3 rfl)
def rbX1_doAgain_0 : List (Nat × List Nat) := [(0, [42]), (1, [180, 0, 37]), (4, [157, 0, 5]), (7, [3]), (8, [172]), (9, [42]), (10, [89]), (11, [180, 0, 34]), (14, [4]), (15, [96]), (16, [181, 0, 34]), (19, [42]), (20, [89]), (21, [180, 0, 37]), (24, [4]), (25, [100]), (26, [181, 0, 37]), (29, [42]), (30, [180, 0, 15]), (33, [42]), (34, [180, 0, 34]), (37, [16, 10]), (39, [104]), (40, [42])]
theorem rcX1_doAgain_0 : dgo (lb cX1_doAgain) 0 rbX1_doAgain_0 = true := by decide +kernel
theorem dX1_doAgain_0 : decode cX1_doAgain 0 = .ok (.aload_n 0, 1) := dk_42 (dw rcX1_doAgain_0 0 rfl)
theorem dX1_doAgain_1 : decode cX1_doAgain 1 = .ok (.getfield 37, 3) := dk_180 (dw rcX1_doAgain_0 1 rfl) rfl
theorem dX1_doAgain_4 : decode cX1_doAgain 4 = .ok (.ifCond .gt 5, 3) := dk_157 (dw rcX1_doAgain_0 2 rfl) rfl
theorem dX1_doAgain_7 : decode cX1_doAgain 7 = .ok (.iconst 0, 1) := dk_3 (dw rcX1_doAgain_0 3 rfl)
theorem dX1_doAgain_8 : decode cX1_doAgain 8 = .ok (.ireturn, 1) := dk_172 (dw rcX1_doAgain_0 4 rfl)
theorem dX1_doAgain_9 : decode cX1_doAgain 9 = .ok (.aload_n 0, 1) := dk_42 (dw rcX1_doAgain_0 5 rfl)
theorem dX1_doAgain_10 : decode cX1_doAgain 10 = .ok (.dup, 1) := dk_89 (dw rcX1_doAgain_0 6 rfl)
theorem dX1_doAgain_11 : decode cX1_doAgain 11 = .ok (.getfield 34, 3) := dk_180 (dw rcX1_doAgain_0 7 rfl) rfl
theorem dX1_doAgain_14 : decode cX1_doAgain 14 = .ok (.iconst 1, 1) := dk_4 (dw rcX1_doAgain_0 8 rfl)
theorem dX1_doAgain_15 : decode cX1_doAgain 15 = .ok (.iadd, 1) := dk_96 (dw rcX1_doAgain_0 9 rfl)
theorem dX1_doAgain_16 : decode cX1_doAgain 16 = .ok (.putfield 34, 3) := dk_181 (dw rcX1_doAgain_0 10 rfl) rfl
theorem dX1_doAgain_19 : decode cX1_doAgain 19 = .ok (.aload_n 0, 1) := dk_42 (dw rcX1_doAgain_0 11 rfl)
theorem dX1_doAgain_20 : decode cX1_doAgain 20 = .ok (.dup, 1) := dk_89 (dw rcX1_doAgain_0 12 rfl)
theorem dX1_doAgain_21 : decode cX1_doAgain 21 = .ok (.getfield 37, 3) := dk_180 (dw rcX1_doAgain_0 13 rfl) rfl
theorem dX1_doAgain_24 : decode cX1_doAgain 24 = .ok (.iconst 1, 1) := dk_4 (dw rcX1_doAgain_0 14 rfl)
theorem dX1_doAgain_25 : decode cX1_doAgain 25 = .ok (.isub, 1) := dk_100 (dw rcX1_doAgain_0 15 rfl)
theorem dX1_doAgain_26 : decode cX1_doAgain 26 = .ok (.putfield 37, 3) := dk_181 (dw rcX1_doAgain_0 16 rfl) rfl
theorem dX1_doAgain_29 : decode cX1_doAgain 29 = .ok (.aload_n 0, 1) := dk_42 (dw rcX1_doAgain_0 17 rfl)
theorem dX1_doAgain_30 : decode cX1_doAgain 30 = .ok (.getfield 15, 3) := dk_180 (dw rcX1_doAgain_0 18 rfl) rfl
theorem dX1_doAgain_33 : decode cX1_doAgain 33 = .ok (.aload_n 0, 1) := dk_42 (dw rcX1_doAgain_0 19 rfl)
theorem dX1_doAgain_34 : decode cX1_doAgain 34 = .ok (.getfield 34, 3) := dk_180 (dw rcX1_doAgain_0 20 rfl) rfl
theorem dX1_doAgain_37 : decode cX1_doAgain 37 = .ok (.bipush 10, 2) := dk_16 (dw rcX1_doAgain_0 21 rfl) rfl
theorem dX1_doAgain_39 : decode cX1_doAgain 39 = .ok (.imul, 1) := dk_104 (dw rcX1_doAgain_0 22 rfl)
theorem dX1_doAgain_40 : decode cX1_doAgain 40 = .ok (.aload_n 0, 1) := dk_42 (dw rcX1_doAgain_0 23 rfl)
def rbX1_doAgain_41 : List (Nat × List Nat) := [(41, [180, 0, 11]), (44, [3]), (45, [16, 10]), (47, [184, 0, 40]), (50, [4]), (51, [172])]
theorem rcX1_doAgain_41 : dgo (lb cX1_doAgain) 0 rbX1_doAgain_41 = true := by decide +kernel
theorem dX1_doAgain_41 : decode cX1_doAgain 41 = .ok (.getfield 11, 3) := dk_180 (dw rcX1_doAgain_41 0 rfl) rfl
theorem dX1_doAgain_44 : decode cX1_doAgain 44 = .ok (.iconst 0, 1) := dk_3 (dw rcX1_doAgain_41 1 rfl)
theorem dX1_doAgain_45 : decode cX1_doAgain 45 = .ok (.bipush 10, 2) := dk_16 (dw rcX1_doAgain_41 2 rfl) rfl
theorem dX1_doAgain_47 : decode cX1_doAgain 47 = .ok (.invokestatic 40, 3) := dk_184 (dw rcX1_doAgain_41 3 rfl) rfl
theorem dX1_doAgain_50 : decode cX1_doAgain 50 = .ok (.iconst 1, 1) := dk_4 (dw rcX1_doAgain_41 4 rfl)
theorem dX1_doAgain_51 : decode cX1_doAgain 51 = .ok (.ireturn, 1) := dk_172 (dw rcX1_doAgain_41 5 rfl)
def rbX1_drawSeed_0 : List (Nat × List Nat) := [(0, [42]), (1, [180, 0, 11]), (4, [16, 7]), (6, [42]), (7, [180, 0, 11]), (10, [16, 7]), (12, [46]), (13, [17, 0, 137]), (16, [104]), (17, [16, 71]), (19, [96]), (20, [17, 3, 232]), (23, [112]), (24, [79]), (25, [177])]
theorem rcX1_drawSeed_0 : dgo (lb cX1_drawSeed) 0 rbX1_drawSeed_0 = true := by decide +kernel
theorem dX1_drawSeed_0 : decode cX1_drawSeed 0 = .ok (.aload_n 0, 1) := dk_42 (dw rcX1_drawSeed_0 0 rfl)
theorem dX1_drawSeed_1 : decode cX1_drawSeed 1 = .ok (.getfield 11, 3) := dk_180 (dw rcX1_drawSeed_0 1 rfl) rfl
theorem dX1_drawSeed_4 : decode cX1_drawSeed 4 = .ok (.bipush 7, 2) := dk_16 (dw rcX1_drawSeed_0 2 rfl) rfl
theorem dX1_drawSeed_6 : decode cX1_drawSeed 6 = .ok (.aload_n 0, 1) := dk_42 (dw rcX1_drawSeed_0 3 rfl)
theorem dX1_drawSeed_7 : decode cX1_drawSeed 7 = .ok (.getfield 11, 3) := dk_180 (dw rcX1_drawSeed_0 4 rfl) rfl
theorem dX1_drawSeed_10 : decode cX1_drawSeed 10 = .ok (.bipush 7, 2) := dk_16 (dw rcX1_drawSeed_0 5 rfl) rfl
theorem dX1_drawSeed_12 : decode cX1_drawSeed 12 = .ok (.iaload, 1) := dk_46 (dw rcX1_drawSeed_0 6 rfl)
theorem dX1_drawSeed_13 : decode cX1_drawSeed 13 = .ok (.sipush 137, 3) := dk_17 (dw rcX1_drawSeed_0 7 rfl) rfl
theorem dX1_drawSeed_16 : decode cX1_drawSeed 16 = .ok (.imul, 1) := dk_104 (dw rcX1_drawSeed_0 8 rfl)
theorem dX1_drawSeed_17 : decode cX1_drawSeed 17 = .ok (.bipush 71, 2) := dk_16 (dw rcX1_drawSeed_0 9 rfl) rfl
theorem dX1_drawSeed_19 : decode cX1_drawSeed 19 = .ok (.iadd, 1) := dk_96 (dw rcX1_drawSeed_0 10 rfl)
theorem dX1_drawSeed_20 : decode cX1_drawSeed 20 = .ok (.sipush 1000, 3) := dk_17 (dw rcX1_drawSeed_0 11 rfl) rfl
theorem dX1_drawSeed_23 : decode cX1_drawSeed 23 = .ok (.irem, 1) := dk_112 (dw rcX1_drawSeed_0 12 rfl)
theorem dX1_drawSeed_24 : decode cX1_drawSeed 24 = .ok (.iastore, 1) := dk_79 (dw rcX1_drawSeed_0 13 rfl)
theorem dX1_drawSeed_25 : decode cX1_drawSeed 25 = .ok (.return_, 1) := dk_177 (dw rcX1_drawSeed_0 14 rfl)
def rbX1_forgetActs_0 : List (Nat × List Nat) := [(0, [42]), (1, [3]), (2, [181, 0, 34]), (5, [42]), (6, [3]), (7, [181, 0, 37]), (10, [42]), (11, [180, 0, 11]), (14, [3]), (15, [42]), (16, [180, 0, 15]), (19, [3]), (20, [16, 10]), (22, [184, 0, 40]), (25, [177])]
theorem rcX1_forgetActs_0 : dgo (lb cX1_forgetActs) 0 rbX1_forgetActs_0 = true := by decide +kernel
theorem dX1_forgetActs_0 : decode cX1_forgetActs 0 = .ok (.aload_n 0, 1) := dk_42 (dw rcX1_forgetActs_0 0 rfl)
theorem dX1_forgetActs_1 : decode cX1_forgetActs 1 = .ok (.iconst 0, 1) := dk_3 (dw rcX1_forgetActs_0 1 rfl)
theorem dX1_forgetActs_2 : decode cX1_forgetActs 2 = .ok (.putfield 34, 3) := dk_181 (dw rcX1_forgetActs_0 2 rfl) rfl
theorem dX1_forgetActs_5 : decode cX1_forgetActs 5 = .ok (.aload_n 0, 1) := dk_42 (dw rcX1_forgetActs_0 3 rfl)
theorem dX1_forgetActs_6 : decode cX1_forgetActs 6 = .ok (.iconst 0, 1) := dk_3 (dw rcX1_forgetActs_0 4 rfl)
theorem dX1_forgetActs_7 : decode cX1_forgetActs 7 = .ok (.putfield 37, 3) := dk_181 (dw rcX1_forgetActs_0 5 rfl) rfl
theorem dX1_forgetActs_10 : decode cX1_forgetActs 10 = .ok (.aload_n 0, 1) := dk_42 (dw rcX1_forgetActs_0 6 rfl)
theorem dX1_forgetActs_11 : decode cX1_forgetActs 11 = .ok (.getfield 11, 3) := dk_180 (dw rcX1_forgetActs_0 7 rfl) rfl
theorem dX1_forgetActs_14 : decode cX1_forgetActs 14 = .ok (.iconst 0, 1) := dk_3 (dw rcX1_forgetActs_0 8 rfl)
theorem dX1_forgetActs_15 : decode cX1_forgetActs 15 = .ok (.aload_n 0, 1) := dk_42 (dw rcX1_forgetActs_0 9 rfl)
theorem dX1_forgetActs_16 : decode cX1_forgetActs 16 = .ok (.getfield 15, 3) := dk_180 (dw rcX1_forgetActs_0 10 rfl) rfl
theorem dX1_forgetActs_19 : decode cX1_forgetActs 19 = .ok (.iconst 0, 1) := dk_3 (dw rcX1_forgetActs_0 11 rfl)
theorem dX1_forgetActs_20 : decode cX1_forgetActs 20 = .ok (.bipush 10, 2) := dk_16 (dw rcX1_forgetActs_0 12 rfl) rfl
theorem dX1_forgetActs_22 : decode cX1_forgetActs 22 = .ok (.invokestatic 40, 3) := dk_184 (dw rcX1_forgetActs_0 13 rfl) rfl
theorem dX1_forgetActs_25 : decode cX1_forgetActs 25 = .ok (.return_, 1) := dk_177 (dw rcX1_forgetActs_0 14 rfl)
def rbX1_keepAct_0 : List (Nat × List Nat) := [(0, [42]), (1, [180, 0, 34]), (4, [16, 40]), (6, [161, 0, 26]), (9, [42]), (10, [180, 0, 15]), (13, [16, 10]), (15, [42]), (16, [180, 0, 15]), (19, [3]), (20, [17, 1, 144]), (23, [184, 0, 40]), (26, [42]), (27, [16, 39]), (29, [181, 0, 34]), (32, [42]), (33, [89]), (34, [180, 0, 34]), (37, [4]), (38, [96]), (39, [181, 0, 34]), (42, [42]), (43, [3]), (44, [181, 0, 37])]
theorem rcX1_keepAct_0 : dgo (lb cX1_keepAct) 0 rbX1_keepAct_0 = true := by decide +kernel
theorem dX1_keepAct_0 : decode cX1_keepAct 0 = .ok (.aload_n 0, 1) := dk_42 (dw rcX1_keepAct_0 0 rfl)
theorem dX1_keepAct_1 : decode cX1_keepAct 1 = .ok (.getfield 34, 3) := dk_180 (dw rcX1_keepAct_0 1 rfl) rfl
theorem dX1_keepAct_4 : decode cX1_keepAct 4 = .ok (.bipush 40, 2) := dk_16 (dw rcX1_keepAct_0 2 rfl) rfl
theorem dX1_keepAct_6 : decode cX1_keepAct 6 = .ok (.if_icmp .lt 26, 3) := dk_161 (dw rcX1_keepAct_0 3 rfl) rfl
theorem dX1_keepAct_9 : decode cX1_keepAct 9 = .ok (.aload_n 0, 1) := dk_42 (dw rcX1_keepAct_0 4 rfl)
theorem dX1_keepAct_10 : decode cX1_keepAct 10 = .ok (.getfield 15, 3) := dk_180 (dw rcX1_keepAct_0 5 rfl) rfl
theorem dX1_keepAct_13 : decode cX1_keepAct 13 = .ok (.bipush 10, 2) := dk_16 (dw rcX1_keepAct_0 6 rfl) rfl
theorem dX1_keepAct_15 : decode cX1_keepAct 15 = .ok (.aload_n 0, 1) := dk_42 (dw rcX1_keepAct_0 7 rfl)
theorem dX1_keepAct_16 : decode cX1_keepAct 16 = .ok (.getfield 15, 3) := dk_180 (dw rcX1_keepAct_0 8 rfl) rfl
theorem dX1_keepAct_19 : decode cX1_keepAct 19 = .ok (.iconst 0, 1) := dk_3 (dw rcX1_keepAct_0 9 rfl)
theorem dX1_keepAct_20 : decode cX1_keepAct 20 = .ok (.sipush 400, 3) := dk_17 (dw rcX1_keepAct_0 10 rfl) rfl
theorem dX1_keepAct_23 : decode cX1_keepAct 23 = .ok (.invokestatic 40, 3) := dk_184 (dw rcX1_keepAct_0 11 rfl) rfl
theorem dX1_keepAct_26 : decode cX1_keepAct 26 = .ok (.aload_n 0, 1) := dk_42 (dw rcX1_keepAct_0 12 rfl)
theorem dX1_keepAct_27 : decode cX1_keepAct 27 = .ok (.bipush 39, 2) := dk_16 (dw rcX1_keepAct_0 13 rfl) rfl
theorem dX1_keepAct_29 : decode cX1_keepAct 29 = .ok (.putfield 34, 3) := dk_181 (dw rcX1_keepAct_0 14 rfl) rfl
theorem dX1_keepAct_32 : decode cX1_keepAct 32 = .ok (.aload_n 0, 1) := dk_42 (dw rcX1_keepAct_0 15 rfl)
theorem dX1_keepAct_33 : decode cX1_keepAct 33 = .ok (.dup, 1) := dk_89 (dw rcX1_keepAct_0 16 rfl)
theorem dX1_keepAct_34 : decode cX1_keepAct 34 = .ok (.getfield 34, 3) := dk_180 (dw rcX1_keepAct_0 17 rfl) rfl
theorem dX1_keepAct_37 : decode cX1_keepAct 37 = .ok (.iconst 1, 1) := dk_4 (dw rcX1_keepAct_0 18 rfl)
theorem dX1_keepAct_38 : decode cX1_keepAct 38 = .ok (.iadd, 1) := dk_96 (dw rcX1_keepAct_0 19 rfl)
theorem dX1_keepAct_39 : decode cX1_keepAct 39 = .ok (.putfield 34, 3) := dk_181 (dw rcX1_keepAct_0 20 rfl) rfl
theorem dX1_keepAct_42 : decode cX1_keepAct 42 = .ok (.aload_n 0, 1) := dk_42 (dw rcX1_keepAct_0 21 rfl)
theorem dX1_keepAct_43 : decode cX1_keepAct 43 = .ok (.iconst 0, 1) := dk_3 (dw rcX1_keepAct_0 22 rfl)
theorem dX1_keepAct_44 : decode cX1_keepAct 44 = .ok (.putfield 37, 3) := dk_181 (dw rcX1_keepAct_0 23 rfl) rfl
def rbX1_keepAct_47 : List (Nat × List Nat) := [(47, [42]), (48, [180, 0, 11]), (51, [3]), (52, [42]), (53, [180, 0, 15]), (56, [42]), (57, [180, 0, 34]), (60, [16, 10]), (62, [104]), (63, [16, 10]), (65, [184, 0, 40]), (68, [177])]
theorem rcX1_keepAct_47 : dgo (lb cX1_keepAct) 0 rbX1_keepAct_47 = true := by decide +kernel
theorem dX1_keepAct_47 : decode cX1_keepAct 47 = .ok (.aload_n 0, 1) := dk_42 (dw rcX1_keepAct_47 0 rfl)
theorem dX1_keepAct_48 : decode cX1_keepAct 48 = .ok (.getfield 11, 3) := dk_180 (dw rcX1_keepAct_47 1 rfl) rfl
theorem dX1_keepAct_51 : decode cX1_keepAct 51 = .ok (.iconst 0, 1) := dk_3 (dw rcX1_keepAct_47 2 rfl)
theorem dX1_keepAct_52 : decode cX1_keepAct 52 = .ok (.aload_n 0, 1) := dk_42 (dw rcX1_keepAct_47 3 rfl)
theorem dX1_keepAct_53 : decode cX1_keepAct 53 = .ok (.getfield 15, 3) := dk_180 (dw rcX1_keepAct_47 4 rfl) rfl
theorem dX1_keepAct_56 : decode cX1_keepAct 56 = .ok (.aload_n 0, 1) := dk_42 (dw rcX1_keepAct_47 5 rfl)
theorem dX1_keepAct_57 : decode cX1_keepAct 57 = .ok (.getfield 34, 3) := dk_180 (dw rcX1_keepAct_47 6 rfl) rfl
theorem dX1_keepAct_60 : decode cX1_keepAct 60 = .ok (.bipush 10, 2) := dk_16 (dw rcX1_keepAct_47 7 rfl) rfl
theorem dX1_keepAct_62 : decode cX1_keepAct 62 = .ok (.imul, 1) := dk_104 (dw rcX1_keepAct_47 8 rfl)
theorem dX1_keepAct_63 : decode cX1_keepAct 63 = .ok (.bipush 10, 2) := dk_16 (dw rcX1_keepAct_47 9 rfl) rfl
theorem dX1_keepAct_65 : decode cX1_keepAct 65 = .ok (.invokestatic 40, 3) := dk_184 (dw rcX1_keepAct_47 10 rfl) rfl
theorem dX1_keepAct_68 : decode cX1_keepAct 68 = .ok (.return_, 1) := dk_177 (dw rcX1_keepAct_47 11 rfl)
def rbX1_keepIn_0 : List (Nat × List Nat) := [(0, [27]), (1, [155, 0, 8]), (4, [27]), (5, [6]), (6, [161, 0, 5]), (9, [3]), (10, [172]), (11, [42]), (12, [180, 0, 11]), (15, [3]), (16, [42]), (17, [180, 0, 18]), (20, [27]), (21, [16, 10]), (23, [104]), (24, [16, 10]), (26, [184, 0, 40]), (29, [42]), (30, [89]), (31, [180, 0, 27]), (34, [4]), (35, [27]), (36, [120]), (37, [128])]
theorem rcX1_keepIn_0 : dgo (lb cX1_keepIn) 0 rbX1_keepIn_0 = true := by decide +kernel
theorem dX1_keepIn_0 : decode cX1_keepIn 0 = .ok (.iload_n 1, 1) := dk_27 (dw rcX1_keepIn_0 0 rfl)
theorem dX1_keepIn_1 : decode cX1_keepIn 1 = .ok (.ifCond .lt 8, 3) := dk_155 (dw rcX1_keepIn_0 1 rfl) rfl
theorem dX1_keepIn_4 : decode cX1_keepIn 4 = .ok (.iload_n 1, 1) := dk_27 (dw rcX1_keepIn_0 2 rfl)
theorem dX1_keepIn_5 : decode cX1_keepIn 5 = .ok (.iconst 3, 1) := dk_6 (dw rcX1_keepIn_0 3 rfl)
theorem dX1_keepIn_6 : decode cX1_keepIn 6 = .ok (.if_icmp .lt 5, 3) := dk_161 (dw rcX1_keepIn_0 4 rfl) rfl
theorem dX1_keepIn_9 : decode cX1_keepIn 9 = .ok (.iconst 0, 1) := dk_3 (dw rcX1_keepIn_0 5 rfl)
theorem dX1_keepIn_10 : decode cX1_keepIn 10 = .ok (.ireturn, 1) := dk_172 (dw rcX1_keepIn_0 6 rfl)
theorem dX1_keepIn_11 : decode cX1_keepIn 11 = .ok (.aload_n 0, 1) := dk_42 (dw rcX1_keepIn_0 7 rfl)
theorem dX1_keepIn_12 : decode cX1_keepIn 12 = .ok (.getfield 11, 3) := dk_180 (dw rcX1_keepIn_0 8 rfl) rfl
theorem dX1_keepIn_15 : decode cX1_keepIn 15 = .ok (.iconst 0, 1) := dk_3 (dw rcX1_keepIn_0 9 rfl)
theorem dX1_keepIn_16 : decode cX1_keepIn 16 = .ok (.aload_n 0, 1) := dk_42 (dw rcX1_keepIn_0 10 rfl)
theorem dX1_keepIn_17 : decode cX1_keepIn 17 = .ok (.getfield 18, 3) := dk_180 (dw rcX1_keepIn_0 11 rfl) rfl
theorem dX1_keepIn_20 : decode cX1_keepIn 20 = .ok (.iload_n 1, 1) := dk_27 (dw rcX1_keepIn_0 12 rfl)
theorem dX1_keepIn_21 : decode cX1_keepIn 21 = .ok (.bipush 10, 2) := dk_16 (dw rcX1_keepIn_0 13 rfl) rfl
theorem dX1_keepIn_23 : decode cX1_keepIn 23 = .ok (.imul, 1) := dk_104 (dw rcX1_keepIn_0 14 rfl)
theorem dX1_keepIn_24 : decode cX1_keepIn 24 = .ok (.bipush 10, 2) := dk_16 (dw rcX1_keepIn_0 15 rfl) rfl
theorem dX1_keepIn_26 : decode cX1_keepIn 26 = .ok (.invokestatic 40, 3) := dk_184 (dw rcX1_keepIn_0 16 rfl) rfl
theorem dX1_keepIn_29 : decode cX1_keepIn 29 = .ok (.aload_n 0, 1) := dk_42 (dw rcX1_keepIn_0 17 rfl)
theorem dX1_keepIn_30 : decode cX1_keepIn 30 = .ok (.dup, 1) := dk_89 (dw rcX1_keepIn_0 18 rfl)
theorem dX1_keepIn_31 : decode cX1_keepIn 31 = .ok (.getfield 27, 3) := dk_180 (dw rcX1_keepIn_0 19 rfl) rfl
theorem dX1_keepIn_34 : decode cX1_keepIn 34 = .ok (.iconst 1, 1) := dk_4 (dw rcX1_keepIn_0 20 rfl)
theorem dX1_keepIn_35 : decode cX1_keepIn 35 = .ok (.iload_n 1, 1) := dk_27 (dw rcX1_keepIn_0 21 rfl)
theorem dX1_keepIn_36 : decode cX1_keepIn 36 = .ok (.ishl, 1) := dk_120 (dw rcX1_keepIn_0 22 rfl)
theorem dX1_keepIn_37 : decode cX1_keepIn 37 = .ok (.ior, 1) := dk_128 (dw rcX1_keepIn_0 23 rfl)
def rbX1_keepIn_38 : List (Nat × List Nat) := [(38, [181, 0, 27]), (41, [4]), (42, [172])]
theorem rcX1_keepIn_38 : dgo (lb cX1_keepIn) 0 rbX1_keepIn_38 = true := by decide +kernel
theorem dX1_keepIn_38 : decode cX1_keepIn 38 = .ok (.putfield 27, 3) := dk_181 (dw rcX1_keepIn_38 0 rfl) rfl
theorem dX1_keepIn_41 : decode cX1_keepIn 41 = .ok (.iconst 1, 1) := dk_4 (dw rcX1_keepIn_38 1 rfl)
theorem dX1_keepIn_42 : decode cX1_keepIn 42 = .ok (.ireturn, 1) := dk_172 (dw rcX1_keepIn_38 2 rfl)
def rbX1_setOut_0 : List (Nat × List Nat) := [(0, [42]), (1, [180, 0, 11]), (4, [3]), (5, [27]), (6, [79]), (7, [42]), (8, [180, 0, 11]), (11, [4]), (12, [28]), (13, [79]), (14, [42]), (15, [180, 0, 11]), (18, [5]), (19, [29]), (20, [79]), (21, [42]), (22, [180, 0, 11]), (25, [6]), (26, [4]), (27, [79]), (28, [42]), (29, [180, 0, 11]), (32, [7]), (33, [4])]
theorem rcX1_setOut_0 : dgo (lb cX1_setOut) 0 rbX1_setOut_0 = true := by decide +kernel
theorem dX1_setOut_0 : decode cX1_setOut 0 = .ok (.aload_n 0, 1) := dk_42 (dw rcX1_setOut_0 0 rfl)
theorem dX1_setOut_1 : decode cX1_setOut 1 = .ok (.getfield 11, 3) := dk_180 (dw rcX1_setOut_0 1 rfl) rfl
theorem dX1_setOut_4 : decode cX1_setOut 4 = .ok (.iconst 0, 1) := dk_3 (dw rcX1_setOut_0 2 rfl)
theorem dX1_setOut_5 : decode cX1_setOut 5 = .ok (.iload_n 1, 1) := dk_27 (dw rcX1_setOut_0 3 rfl)
theorem dX1_setOut_6 : decode cX1_setOut 6 = .ok (.iastore, 1) := dk_79 (dw rcX1_setOut_0 4 rfl)
theorem dX1_setOut_7 : decode cX1_setOut 7 = .ok (.aload_n 0, 1) := dk_42 (dw rcX1_setOut_0 5 rfl)
theorem dX1_setOut_8 : decode cX1_setOut 8 = .ok (.getfield 11, 3) := dk_180 (dw rcX1_setOut_0 6 rfl) rfl
theorem dX1_setOut_11 : decode cX1_setOut 11 = .ok (.iconst 1, 1) := dk_4 (dw rcX1_setOut_0 7 rfl)
theorem dX1_setOut_12 : decode cX1_setOut 12 = .ok (.iload_n 2, 1) := dk_28 (dw rcX1_setOut_0 8 rfl)
theorem dX1_setOut_13 : decode cX1_setOut 13 = .ok (.iastore, 1) := dk_79 (dw rcX1_setOut_0 9 rfl)
theorem dX1_setOut_14 : decode cX1_setOut 14 = .ok (.aload_n 0, 1) := dk_42 (dw rcX1_setOut_0 10 rfl)
theorem dX1_setOut_15 : decode cX1_setOut 15 = .ok (.getfield 11, 3) := dk_180 (dw rcX1_setOut_0 11 rfl) rfl
theorem dX1_setOut_18 : decode cX1_setOut 18 = .ok (.iconst 2, 1) := dk_5 (dw rcX1_setOut_0 12 rfl)
theorem dX1_setOut_19 : decode cX1_setOut 19 = .ok (.iload_n 3, 1) := dk_29 (dw rcX1_setOut_0 13 rfl)
theorem dX1_setOut_20 : decode cX1_setOut 20 = .ok (.iastore, 1) := dk_79 (dw rcX1_setOut_0 14 rfl)
theorem dX1_setOut_21 : decode cX1_setOut 21 = .ok (.aload_n 0, 1) := dk_42 (dw rcX1_setOut_0 15 rfl)
theorem dX1_setOut_22 : decode cX1_setOut 22 = .ok (.getfield 11, 3) := dk_180 (dw rcX1_setOut_0 16 rfl) rfl
theorem dX1_setOut_25 : decode cX1_setOut 25 = .ok (.iconst 3, 1) := dk_6 (dw rcX1_setOut_0 17 rfl)
theorem dX1_setOut_26 : decode cX1_setOut 26 = .ok (.iconst 1, 1) := dk_4 (dw rcX1_setOut_0 18 rfl)
theorem dX1_setOut_27 : decode cX1_setOut 27 = .ok (.iastore, 1) := dk_79 (dw rcX1_setOut_0 19 rfl)
theorem dX1_setOut_28 : decode cX1_setOut 28 = .ok (.aload_n 0, 1) := dk_42 (dw rcX1_setOut_0 20 rfl)
theorem dX1_setOut_29 : decode cX1_setOut 29 = .ok (.getfield 11, 3) := dk_180 (dw rcX1_setOut_0 21 rfl) rfl
theorem dX1_setOut_32 : decode cX1_setOut 32 = .ok (.iconst 4, 1) := dk_7 (dw rcX1_setOut_0 22 rfl)
theorem dX1_setOut_33 : decode cX1_setOut 33 = .ok (.iconst 1, 1) := dk_4 (dw rcX1_setOut_0 23 rfl)
def rbX1_setOut_34 : List (Nat × List Nat) := [(34, [79]), (35, [42]), (36, [180, 0, 11]), (39, [8]), (40, [3]), (41, [79]), (42, [177])]
theorem rcX1_setOut_34 : dgo (lb cX1_setOut) 0 rbX1_setOut_34 = true := by decide +kernel
theorem dX1_setOut_34 : decode cX1_setOut 34 = .ok (.iastore, 1) := dk_79 (dw rcX1_setOut_34 0 rfl)
theorem dX1_setOut_35 : decode cX1_setOut 35 = .ok (.aload_n 0, 1) := dk_42 (dw rcX1_setOut_34 1 rfl)
theorem dX1_setOut_36 : decode cX1_setOut 36 = .ok (.getfield 11, 3) := dk_180 (dw rcX1_setOut_34 2 rfl) rfl
theorem dX1_setOut_39 : decode cX1_setOut 39 = .ok (.iconst 5, 1) := dk_8 (dw rcX1_setOut_34 3 rfl)
theorem dX1_setOut_40 : decode cX1_setOut 40 = .ok (.iconst 0, 1) := dk_3 (dw rcX1_setOut_34 4 rfl)
theorem dX1_setOut_41 : decode cX1_setOut 41 = .ok (.iastore, 1) := dk_79 (dw rcX1_setOut_34 5 rfl)
theorem dX1_setOut_42 : decode cX1_setOut 42 = .ok (.return_, 1) := dk_177 (dw rcX1_setOut_34 6 rfl)
def rbX1_startAnew_0 : List (Nat × List Nat) := [(0, [42]), (1, [180, 0, 11]), (4, [3]), (5, [184, 0, 21]), (8, [42]), (9, [180, 0, 11]), (12, [3]), (13, [2]), (14, [79]), (15, [42]), (16, [180, 0, 11]), (19, [16, 7]), (21, [27]), (22, [79]), (23, [42]), (24, [3]), (25, [181, 0, 27]), (28, [42]), (29, [182, 0, 31]), (32, [177])]
theorem rcX1_startAnew_0 : dgo (lb cX1_startAnew) 0 rbX1_startAnew_0 = true := by decide +kernel
theorem dX1_startAnew_0 : decode cX1_startAnew 0 = .ok (.aload_n 0, 1) := dk_42 (dw rcX1_startAnew_0 0 rfl)
theorem dX1_startAnew_1 : decode cX1_startAnew 1 = .ok (.getfield 11, 3) := dk_180 (dw rcX1_startAnew_0 1 rfl) rfl
theorem dX1_startAnew_4 : decode cX1_startAnew 4 = .ok (.iconst 0, 1) := dk_3 (dw rcX1_startAnew_0 2 rfl)
theorem dX1_startAnew_5 : decode cX1_startAnew 5 = .ok (.invokestatic 21, 3) := dk_184 (dw rcX1_startAnew_0 3 rfl) rfl
theorem dX1_startAnew_8 : decode cX1_startAnew 8 = .ok (.aload_n 0, 1) := dk_42 (dw rcX1_startAnew_0 4 rfl)
theorem dX1_startAnew_9 : decode cX1_startAnew 9 = .ok (.getfield 11, 3) := dk_180 (dw rcX1_startAnew_0 5 rfl) rfl
theorem dX1_startAnew_12 : decode cX1_startAnew 12 = .ok (.iconst 0, 1) := dk_3 (dw rcX1_startAnew_0 6 rfl)
theorem dX1_startAnew_13 : decode cX1_startAnew 13 = .ok (.iconst (-1), 1) := dk_2 (dw rcX1_startAnew_0 7 rfl)
theorem dX1_startAnew_14 : decode cX1_startAnew 14 = .ok (.iastore, 1) := dk_79 (dw rcX1_startAnew_0 8 rfl)
theorem dX1_startAnew_15 : decode cX1_startAnew 15 = .ok (.aload_n 0, 1) := dk_42 (dw rcX1_startAnew_0 9 rfl)
theorem dX1_startAnew_16 : decode cX1_startAnew 16 = .ok (.getfield 11, 3) := dk_180 (dw rcX1_startAnew_0 10 rfl) rfl
theorem dX1_startAnew_19 : decode cX1_startAnew 19 = .ok (.bipush 7, 2) := dk_16 (dw rcX1_startAnew_0 11 rfl) rfl
theorem dX1_startAnew_21 : decode cX1_startAnew 21 = .ok (.iload_n 1, 1) := dk_27 (dw rcX1_startAnew_0 12 rfl)
theorem dX1_startAnew_22 : decode cX1_startAnew 22 = .ok (.iastore, 1) := dk_79 (dw rcX1_startAnew_0 13 rfl)
theorem dX1_startAnew_23 : decode cX1_startAnew 23 = .ok (.aload_n 0, 1) := dk_42 (dw rcX1_startAnew_0 14 rfl)
theorem dX1_startAnew_24 : decode cX1_startAnew 24 = .ok (.iconst 0, 1) := dk_3 (dw rcX1_startAnew_0 15 rfl)
theorem dX1_startAnew_25 : decode cX1_startAnew 25 = .ok (.putfield 27, 3) := dk_181 (dw rcX1_startAnew_0 16 rfl) rfl
theorem dX1_startAnew_28 : decode cX1_startAnew 28 = .ok (.aload_n 0, 1) := dk_42 (dw rcX1_startAnew_0 17 rfl)
theorem dX1_startAnew_29 : decode cX1_startAnew 29 = .ok (.invokevirtual 31, 3) := dk_182 (dw rcX1_startAnew_0 18 rfl) rfl
theorem dX1_startAnew_32 : decode cX1_startAnew 32 = .ok (.return_, 1) := dk_177 (dw rcX1_startAnew_0 19 rfl)
def rbX1_takeBack_0 : List (Nat × List Nat) := [(0, [42]), (1, [180, 0, 34]), (4, [157, 0, 5]), (7, [3]), (8, [172]), (9, [42]), (10, [89]), (11, [180, 0, 34]), (14, [4]), (15, [100]), (16, [181, 0, 34]), (19, [42]), (20, [89]), (21, [180, 0, 37]), (24, [4]), (25, [96]), (26, [181, 0, 37]), (29, [42]), (30, [180, 0, 15]), (33, [42]), (34, [180, 0, 34]), (37, [16, 10]), (39, [104]), (40, [42])]
theorem rcX1_takeBack_0 : dgo (lb cX1_takeBack) 0 rbX1_takeBack_0 = true := by decide +kernel
theorem dX1_takeBack_0 : decode cX1_takeBack 0 = .ok (.aload_n 0, 1) := dk_42 (dw rcX1_takeBack_0 0 rfl)
theorem dX1_takeBack_1 : decode cX1_takeBack 1 = .ok (.getfield 34, 3) := dk_180 (dw rcX1_takeBack_0 1 rfl) rfl
theorem dX1_takeBack_4 : decode cX1_takeBack 4 = .ok (.ifCond .gt 5, 3) := dk_157 (dw rcX1_takeBack_0 2 rfl) rfl
theorem dX1_takeBack_7 : decode cX1_takeBack 7 = .ok (.iconst 0, 1) := dk_3 (dw rcX1_takeBack_0 3 rfl)
theorem dX1_takeBack_8 : decode cX1_takeBack 8 = .ok (.ireturn, 1) := dk_172 (dw rcX1_takeBack_0 4 rfl)
theorem dX1_takeBack_9 : decode cX1_takeBack 9 = .ok (.aload_n 0, 1) := dk_42 (dw rcX1_takeBack_0 5 rfl)
theorem dX1_takeBack_10 : decode cX1_takeBack 10 = .ok (.dup, 1) := dk_89 (dw rcX1_takeBack_0 6 rfl)
theorem dX1_takeBack_11 : decode cX1_takeBack 11 = .ok (.getfield 34, 3) := dk_180 (dw rcX1_takeBack_0 7 rfl) rfl
theorem dX1_takeBack_14 : decode cX1_takeBack 14 = .ok (.iconst 1, 1) := dk_4 (dw rcX1_takeBack_0 8 rfl)
theorem dX1_takeBack_15 : decode cX1_takeBack 15 = .ok (.isub, 1) := dk_100 (dw rcX1_takeBack_0 9 rfl)
theorem dX1_takeBack_16 : decode cX1_takeBack 16 = .ok (.putfield 34, 3) := dk_181 (dw rcX1_takeBack_0 10 rfl) rfl
theorem dX1_takeBack_19 : decode cX1_takeBack 19 = .ok (.aload_n 0, 1) := dk_42 (dw rcX1_takeBack_0 11 rfl)
theorem dX1_takeBack_20 : decode cX1_takeBack 20 = .ok (.dup, 1) := dk_89 (dw rcX1_takeBack_0 12 rfl)
theorem dX1_takeBack_21 : decode cX1_takeBack 21 = .ok (.getfield 37, 3) := dk_180 (dw rcX1_takeBack_0 13 rfl) rfl
theorem dX1_takeBack_24 : decode cX1_takeBack 24 = .ok (.iconst 1, 1) := dk_4 (dw rcX1_takeBack_0 14 rfl)
theorem dX1_takeBack_25 : decode cX1_takeBack 25 = .ok (.iadd, 1) := dk_96 (dw rcX1_takeBack_0 15 rfl)
theorem dX1_takeBack_26 : decode cX1_takeBack 26 = .ok (.putfield 37, 3) := dk_181 (dw rcX1_takeBack_0 16 rfl) rfl
theorem dX1_takeBack_29 : decode cX1_takeBack 29 = .ok (.aload_n 0, 1) := dk_42 (dw rcX1_takeBack_0 17 rfl)
theorem dX1_takeBack_30 : decode cX1_takeBack 30 = .ok (.getfield 15, 3) := dk_180 (dw rcX1_takeBack_0 18 rfl) rfl
theorem dX1_takeBack_33 : decode cX1_takeBack 33 = .ok (.aload_n 0, 1) := dk_42 (dw rcX1_takeBack_0 19 rfl)
theorem dX1_takeBack_34 : decode cX1_takeBack 34 = .ok (.getfield 34, 3) := dk_180 (dw rcX1_takeBack_0 20 rfl) rfl
theorem dX1_takeBack_37 : decode cX1_takeBack 37 = .ok (.bipush 10, 2) := dk_16 (dw rcX1_takeBack_0 21 rfl) rfl
theorem dX1_takeBack_39 : decode cX1_takeBack 39 = .ok (.imul, 1) := dk_104 (dw rcX1_takeBack_0 22 rfl)
theorem dX1_takeBack_40 : decode cX1_takeBack 40 = .ok (.aload_n 0, 1) := dk_42 (dw rcX1_takeBack_0 23 rfl)
def rbX1_takeBack_41 : List (Nat × List Nat) := [(41, [180, 0, 11]), (44, [3]), (45, [16, 10]), (47, [184, 0, 40]), (50, [4]), (51, [172])]
theorem rcX1_takeBack_41 : dgo (lb cX1_takeBack) 0 rbX1_takeBack_41 = true := by decide +kernel
theorem dX1_takeBack_41 : decode cX1_takeBack 41 = .ok (.getfield 11, 3) := dk_180 (dw rcX1_takeBack_41 0 rfl) rfl
theorem dX1_takeBack_44 : decode cX1_takeBack 44 = .ok (.iconst 0, 1) := dk_3 (dw rcX1_takeBack_41 1 rfl)
theorem dX1_takeBack_45 : decode cX1_takeBack 45 = .ok (.bipush 10, 2) := dk_16 (dw rcX1_takeBack_41 2 rfl) rfl
theorem dX1_takeBack_47 : decode cX1_takeBack 47 = .ok (.invokestatic 40, 3) := dk_184 (dw rcX1_takeBack_41 3 rfl) rfl
theorem dX1_takeBack_50 : decode cX1_takeBack 50 = .ok (.iconst 1, 1) := dk_4 (dw rcX1_takeBack_41 4 rfl)
theorem dX1_takeBack_51 : decode cX1_takeBack 51 = .ok (.ireturn, 1) := dk_172 (dw rcX1_takeBack_41 5 rfl)
set_option maxHeartbeats 4000000 in
set_option maxRecDepth 100000 in
theorem k_eForget (l : Launch) (D : va_G) (k : KT) (A : Nat → Prop) (a : Nat → Nat) (z : SK) (G : GS)   : Met l yX1_forgetActs (WS yX1_forgetActs cX1_forgetActs 1 none) ({ frames := 1, cells := 0, slots := 0, locals := 40 }) (va_Pc [.ref (a 30)] (cW D k A a z G)) (va_Qv (fun (G1 : GS) => P_eForget G G1) (fun (G1 : GS) t => Wd D k A a G1 t.heap) A) 0 0 A := by
  refine Met.ofW (cc := cX1_forgetActs) (maxL := 1) (ret := none) (by decide) rfl ?_
  intro p e s m args below meth c s₁ B hml hv
  obtain ⟨rfl, hW, hB_G, hK, hZ⟩ := hv
  have hx := B.exec
  have hb := B.bytes
  have hr := B.returns
  have hts := atoms_spec (ws := WS yX1_forgetActs cX1_forgetActs 1 none) B.pre
  have hgd : ∀ w ∈ gd, w ∈ WS yX1_forgetActs cX1_forgetActs 1 none := fun w h => List.mem_cons_of_mem _ h
  have hg : ∀ w ∈ gd, w.before _ s = true := fun w h => hts w (hgd w h)
  have hown : s.vm.findClass RX1 = some m.cls := findClass_of_methodNamed B.named
  have hS : va_S A s.heap s.heap [] := va_S.rf
  have hF : Fr [59] [(30, 4), (30, 5)] G G := Fr.rf
  have hl := lv_entry ([.ref (a 30)]) (n := 1) (Nat.le_of_ble_eq_true rfl)
  rw [lg_entry_eq]
  generalize (lg_sl ([.ref (a 30)]) ++ List.replicate (1 - (lg_sl ([.ref (a 30)])).length) Slot.unset).toArray = ls at hl ⊢
  have hl : lv_has ls 1 [(0, .ref (a 30))] := hl
  refine lv_aload_n hx hb dX1_forgetActs_0 rfl (lv_at hl 0 rfl) ?_
  refine ic_0 hx hb dX1_forgetActs_1 ?_
  refine S_putI (ty := .int) (C := RX1) (T := TX1) (N := 6) hx hb hg iX1 tyX1 tyX1_ok nmX1 hown hK hW hS kd_30 rfl 4 (lt_b rfl) (hg (Cond.fieldLink RX1 34 "SlabWalk$Earnest" "done" "I") m497) (fun _ h9 => h9) rfl (by decide +kernel) rfl rfl rfl dX1_forgetActs_2 (fun G_1 H locs eG_1 hW hS => ?_)
  have hB_G_1 : Bd G_1 := hB_G.put (V := 0) (lo := 0) (hi := 40) eG_1 rfl rfl rfl (by decide) (by decide) (hB_G.2.put eG_1 rfl)
  have hF := hF.put eG_1 (Or.inr (by decide))
  refine lv_aload_n hx hb dX1_forgetActs_5 rfl (lv_at hl 0 rfl) ?_
  refine ic_0 hx hb dX1_forgetActs_6 ?_
  refine S_putI (ty := .int) (C := RX1) (T := TX1) (N := 6) hx hb hg iX1 tyX1 tyX1_ok nmX1 hown hK hW hS kd_30 rfl 5 (lt_b rfl) (hg (Cond.fieldLink RX1 37 "SlabWalk$Earnest" "undone" "I") m499) (fun _ h9 => h9) rfl (by decide +kernel) rfl rfl rfl dX1_forgetActs_7 (fun G_2 H locs eG_2 hW hS => ?_)
  have hB_G_2 : Bd G_2 := hB_G_1.put (V := 0) (lo := 0) (hi := 40) eG_2 rfl rfl rfl (by decide) (by decide) (hB_G_1.2.put eG_2 rfl)
  have hF := hF.put eG_2 (Or.inr (by decide))
  refine lv_aload_n hx hb dX1_forgetActs_10 rfl (lv_at hl 0 rfl) ?_
  refine S_getR (n := 58) (C := RX1) (T := TX1) (N := 6) hx hb hg iX1 hown hK hW kd_30 rfl 0 (lt_b rfl) (hg (Cond.fieldLink RX1 11 "SlabWalk$Earnest" "now" "[I") m492) (fun _ h9 => h9) rfl dX1_forgetActs_11 ?_
  refine ic_0 hx hb dX1_forgetActs_14 ?_
  refine lv_aload_n hx hb dX1_forgetActs_15 rfl (lv_at hl 0 rfl) ?_
  refine S_getR (n := 59) (C := RX1) (T := TX1) (N := 6) hx hb hg iX1 hown hK hW kd_30 rfl 1 (lt_b rfl) (hg (Cond.fieldLink RX1 15 "SlabWalk$Earnest" "kept" "[I") m494) (fun _ h9 => h9) rfl dX1_forgetActs_16 ?_
  refine ic_0 hx hb dX1_forgetActs_19 ?_
  refine lv_bipush (v := 10) hx hb dX1_forgetActs_20 (by decide) ?_
  have qc_4 : (0 : Int32).toInt = 0 := rfl
  have qc_5 : (10 : Int32).toInt = 10 := rfl
  refine S_copy hx hb (by rw [hml]; exact hl.1.symm) hown (hg (Cond.methodLink RX1 40 arraycopyName) m567) (hg (Cond.native arraycopyName) m569) (hg (Cond.static arraycopyName) m568) (hg (Cond.initialized "java/lang/System") m130) hK hW hS kd_58 kd_59 (by decide) (by decide) (by decide) (by decide) (by decide) (Nat.le_of_ble_eq_true rfl) (by decide +kernel) dX1_forgetActs_22 (fun G_3 H locs eG_3 hW hS => ?_)
  have hB_G_3 : Bd G_3 := hB_G_2.rowp eG_3 (fun _ => ⟨(tI_rng _).1, (tI_rng _).2⟩) (hB_G_2.2.row eG_3 (fun _ => rfl))
  have hF := hF.row eG_3 (by decide)
  have g_6 : (G_3.1 30 4).toInt = 0 := (congrArg Int32.toInt (show G_3.1 30 4 = 0 from ((gp_row eG_3 (by decide)).trans ((gp_ne eG_2 (by decide)).trans (gp_eq eG_1))))).trans rfl
  have g_7 : (G_3.1 30 5).toInt = 0 := (congrArg Int32.toInt (show G_3.1 30 5 = 0 from ((gp_row eG_3 (by decide)).trans (gp_eq eG_2)))).trans rfl
  exact W.vret hx hb hr (fun t ht _ => ⟨⟨G_3, rfl, (P_eForget_mk ⟨hB_G_3, hF, (by omega), ⟨(Fr.row (rs := [59]) (fs := [(30, 4), (30, 5)]) (Fr.put (rs := [59]) (fs := [(30, 4), (30, 5)]) (Fr.put (rs := [59]) (fs := [(30, 4), (30, 5)]) Fr.rf eG_1 (Or.inr (by decide))) eG_2 (Or.inr (by decide))) eG_3 (by decide)), ((gp_row eG_3 (by decide)).trans ((gp_ne eG_2 (by decide)).trans (gp_eq eG_1))), ((gp_row eG_3 (by decide)).trans (gp_eq eG_2)), (rw_row eG_3).trans (by rw [show G_2.1 58 = (G.1 58) from (rw_put eG_2 (by decide)).trans (rw_put eG_1 (by decide)), show G_2.1 59 = (G.1 59) from (rw_put eG_2 (by decide)).trans (rw_put eG_1 (by decide))])⟩⟩), wd_t ht hW⟩, hS.F ht⟩) hS.2.2 dX1_forgetActs_25

set_option maxHeartbeats 4000000 in
set_option maxRecDepth 100000 in
theorem k_eStart (l : Launch) (D : va_G) (k : KT) (A : Nat → Prop) (a : Nat → Nat) (z : SK) (G : GS) (p0 : Int32)  : Met l yX1_startAnew (WS yX1_startAnew cX1_startAnew 2 none) ({ frames := 2, cells := 0, slots := 0, locals := 60 }) (va_Pc [.ref (a 30), .int p0] (cW D k A a z G)) (va_Qv (fun (G1 : GS) => P_eStart p0 G G1) (fun (G1 : GS) t => Wd D k A a G1 t.heap) A) 0 0 A := by
  refine Met.ofW (cc := cX1_startAnew) (maxL := 2) (ret := none) (by decide) rfl ?_
  intro p e s m args below meth c s₁ B hml hv
  obtain ⟨rfl, hW, hB_G, hK, hZ⟩ := hv
  have hx := B.exec
  have hb := B.bytes
  have hr := B.returns
  have hts := atoms_spec (ws := WS yX1_startAnew cX1_startAnew 2 none) B.pre
  have hgd : ∀ w ∈ gd, w ∈ WS yX1_startAnew cX1_startAnew 2 none := fun w h => List.mem_cons_of_mem _ h
  have hg : ∀ w ∈ gd, w.before _ s = true := fun w h => hts w (hgd w h)
  have hown : s.vm.findClass RX1 = some m.cls := findClass_of_methodNamed B.named
  have hS : va_S A s.heap s.heap [] := va_S.rf
  have hF : Fr [58, 59] [(30, 3), (30, 4), (30, 5)] G G := Fr.rf
  have hl := lv_entry ([.ref (a 30), .int p0]) (n := 2) (Nat.le_of_ble_eq_true rfl)
  rw [lg_entry_eq]
  generalize (lg_sl ([.ref (a 30), .int p0]) ++ List.replicate (2 - (lg_sl ([.ref (a 30), .int p0])).length) Slot.unset).toArray = ls at hl ⊢
  have hl : lv_has ls 2 [(0, .ref (a 30)), (1, .int p0)] := hl
  refine lv_aload_n hx hb dX1_startAnew_0 rfl (lv_at hl 0 rfl) ?_
  refine S_getR (n := 58) (C := RX1) (T := TX1) (N := 6) hx hb hg iX1 hown hK hW kd_30 rfl 0 (lt_b rfl) (hg (Cond.fieldLink RX1 11 "SlabWalk$Earnest" "now" "[I") m492) (fun _ h9 => h9) rfl dX1_startAnew_1 ?_
  refine ic_0 hx hb dX1_startAnew_4 ?_
  refine S_callv (va_runS (As := [.ref (a 58), .int 0]) (rest := []) ⟨hx, hb, hml, hown, hts⟩ (k_fill_58 l D k A a z G 0 ) (va_cwS 2 hts (gd_S hgd m562 m556 m129 m557) rfl rfl rfl hd_J7_fill_53178.2 ⟨Nat.le_of_ble_eq_true rfl, Nat.le_of_ble_eq_true rfl⟩) (pre_S hW hB_G hK hZ hS) rfl rfl hl.1 rfl (lv_room (Nat.le_of_ble_eq_true rfl)) dX1_startAnew_5 ⟨Nat.le_of_ble_eq_true rfl, Nat.le_of_ble_eq_true rfl⟩) hS (fun G_2 H locs hpo hW hS => ?_)
  have hX_5 : P_fill_58 0 G G_2 := hpo
  obtain ⟨hB_G_2, hq_3, -⟩ := hpo
  have hF := hF.call9 hq_3 rfl rfl
  refine lv_aload_n hx hb dX1_startAnew_8 rfl (lv_at hl 0 rfl) ?_
  refine S_getR (n := 58) (C := RX1) (T := TX1) (N := 6) hx hb hg iX1 hown hK hW kd_30 rfl 0 (lt_b rfl) (hg (Cond.fieldLink RX1 11 "SlabWalk$Earnest" "now" "[I") m492) (fun _ h9 => h9) rfl dX1_startAnew_9 ?_
  refine ic_0 hx hb dX1_startAnew_12 ?_
  refine ic_m1 hx hb dX1_startAnew_13 ?_
  refine S_iast hx hb hK hW hS kd_58 (vin (by decide) (by decide)) dX1_startAnew_14 (fun G_6 H locs eG_6 hW hS => ?_)
  have hB_G_6 : Bd G_6 := hB_G_2.put (lo := (-2147483648)) (hi := 2147483647) eG_6 rfl rfl rfl (tI_rng _).1 (tI_rng _).2 (hB_G_2.2.put eG_6 rfl)
  have hF := hF.put eG_6 (Or.inl (by decide))
  refine lv_aload_n hx hb dX1_startAnew_15 rfl (lv_at hl 0 rfl) ?_
  refine S_getR (n := 58) (C := RX1) (T := TX1) (N := 6) hx hb hg iX1 hown hK hW kd_30 rfl 0 (lt_b rfl) (hg (Cond.fieldLink RX1 11 "SlabWalk$Earnest" "now" "[I") m492) (fun _ h9 => h9) rfl dX1_startAnew_16 ?_
  refine lv_bipush (v := 7) hx hb dX1_startAnew_19 (by decide) ?_
  refine lv_iload_n hx hb dX1_startAnew_21 rfl (lv_at hl 1 rfl) ?_
  refine S_iast hx hb hK hW hS kd_58 (vin (by decide) (by decide)) dX1_startAnew_22 (fun G_7 H locs eG_7 hW hS => ?_)
  have hB_G_7 : Bd G_7 := hB_G_6.put (lo := (-2147483648)) (hi := 2147483647) eG_7 rfl rfl rfl (tI_rng _).1 (tI_rng _).2 (hB_G_6.2.put eG_7 rfl)
  have hF := hF.put eG_7 (Or.inl (by decide))
  refine lv_aload_n hx hb dX1_startAnew_23 rfl (lv_at hl 0 rfl) ?_
  refine ic_0 hx hb dX1_startAnew_24 ?_
  refine S_putI (ty := .int) (C := RX1) (T := TX1) (N := 6) hx hb hg iX1 tyX1 tyX1_ok nmX1 hown hK hW hS kd_30 rfl 3 (lt_b rfl) (hg (Cond.fieldLink RX1 27 "SlabWalk$Earnest" "full" "I") m496) (fun _ h9 => h9) rfl (by decide +kernel) rfl rfl rfl dX1_startAnew_25 (fun G_8 H locs eG_8 hW hS => ?_)
  have hB_G_8 : Bd G_8 := hB_G_7.put (lo := (-2147483648)) (hi := 2147483647) eG_8 rfl rfl rfl (tI_rng _).1 (tI_rng _).2 (hB_G_7.2.put eG_8 rfl)
  have hF := hF.put eG_8 (Or.inr (by decide))
  refine lv_aload_n hx hb dX1_startAnew_28 rfl (lv_at hl 0 rfl) ?_
  refine S_callv (va_runV (As := []) (rest := []) ⟨hx, hb, hml, hown, hts⟩ (k_eForget l D k A a z G_8  ) (cwV 0 hts (gd_V hgd m563 m565 m1 m127 m566) rfl rfl rfl hd_X1_forgetActs ⟨Nat.le_of_ble_eq_true rfl, Nat.le_of_ble_eq_true rfl⟩) (pre_W hW hB_G_8 hK hZ hS kd_30 rfl) rfl rfl hl.1 rfl (lv_room (Nat.le_of_ble_eq_true rfl)) dX1_startAnew_29 ⟨Nat.le_of_ble_eq_true rfl, Nat.le_of_ble_eq_true rfl⟩) hS (fun G_10 H locs hpo hW hS => ?_)
  have hX_13 : P_eForget G_8 G_10 := hpo
  obtain ⟨hB_G_10, hq_11, hp_12, -⟩ := hpo
  have hF := hF.call9 hq_11 rfl rfl
  have b_14 : 0 ≤ (G_10.1 30 4).toInt ∧ (G_10.1 30 4).toInt ≤ 40 := bd_30_4 hB_G_10
  have b_15 : 0 ≤ (G_10.1 30 5).toInt ∧ (G_10.1 30 5).toInt ≤ 40 := bd_30_5 hB_G_10
  exact W.vret hx hb hr (fun t ht _ => ⟨⟨G_10, rfl, (P_eStart_mk ⟨hB_G_10, hF, (by omega), ⟨G_2, hX_5, ⟨G_8, hB_G_8, (Fr.put (rs := [58]) (fs := [(30, 3)]) (Fr.put (rs := [58]) (fs := [(30, 3)]) (Fr.put (rs := [58]) (fs := [(30, 3)]) Fr.rf eG_6 (Or.inl (by decide))) eG_7 (Or.inl (by decide))) eG_8 (Or.inr (by decide))), (gp_eq eG_8), (rw_put eG_8 (by decide)).trans ((rw_ast eG_7).trans (congrArg (fun q => upd q ((7 : Int32).toNatClampNeg) p0) (rw_ast eG_6))), ⟨G_10, hX_13, rfl⟩⟩⟩⟩), wd_t ht hW⟩, hS.F ht⟩) hS.2.2 dX1_startAnew_32

set_option maxHeartbeats 4000000 in
set_option maxRecDepth 100000 in
theorem k_eSetOut (l : Launch) (D : va_G) (k : KT) (A : Nat → Prop) (a : Nat → Nat) (z : SK) (G : GS) (p0 : Int32) (p1 : Int32) (p2 : Int32)  : Met l yX1_setOut (WS yX1_setOut cX1_setOut 4 none) ({ frames := 0, cells := 0, slots := 0, locals := 0 }) (va_Pc [.ref (a 30), .int p0, .int p1, .int p2] (cW D k A a z G)) (va_Qv (fun (G1 : GS) => P_eSetOut p0 p1 p2 G G1) (fun (G1 : GS) t => Wd D k A a G1 t.heap) A) 0 0 A := by
  refine Met.ofW (cc := cX1_setOut) (maxL := 4) (ret := none) (by decide) rfl ?_
  intro p e s m args below meth c s₁ B hml hv
  obtain ⟨rfl, hW, hB_G, hK, hZ⟩ := hv
  have hx := B.exec
  have hb := B.bytes
  have hr := B.returns
  have hts := atoms_spec (ws := WS yX1_setOut cX1_setOut 4 none) B.pre
  have hgd : ∀ w ∈ gd, w ∈ WS yX1_setOut cX1_setOut 4 none := fun w h => List.mem_cons_of_mem _ h
  have hg : ∀ w ∈ gd, w.before _ s = true := fun w h => hts w (hgd w h)
  have hown : s.vm.findClass RX1 = some m.cls := findClass_of_methodNamed B.named
  have hS : va_S A s.heap s.heap [] := va_S.rf
  have hF : Fr [58] [] G G := Fr.rf
  have hl := lv_entry ([.ref (a 30), .int p0, .int p1, .int p2]) (n := 4) (Nat.le_of_ble_eq_true rfl)
  rw [lg_entry_eq]
  generalize (lg_sl ([.ref (a 30), .int p0, .int p1, .int p2]) ++ List.replicate (4 - (lg_sl ([.ref (a 30), .int p0, .int p1, .int p2])).length) Slot.unset).toArray = ls at hl ⊢
  have hl : lv_has ls 4 [(0, .ref (a 30)), (1, .int p0), (2, .int p1), (3, .int p2)] := hl
  refine lv_aload_n hx hb dX1_setOut_0 rfl (lv_at hl 0 rfl) ?_
  refine S_getR (n := 58) (C := RX1) (T := TX1) (N := 6) hx hb hg iX1 hown hK hW kd_30 rfl 0 (lt_b rfl) (hg (Cond.fieldLink RX1 11 "SlabWalk$Earnest" "now" "[I") m492) (fun _ h9 => h9) rfl dX1_setOut_1 ?_
  refine ic_0 hx hb dX1_setOut_4 ?_
  refine lv_iload_n hx hb dX1_setOut_5 rfl (lv_at hl 1 rfl) ?_
  refine S_iast hx hb hK hW hS kd_58 (vin (by decide) (by decide)) dX1_setOut_6 (fun G_1 H locs eG_1 hW hS => ?_)
  have hB_G_1 : Bd G_1 := hB_G.put (lo := (-2147483648)) (hi := 2147483647) eG_1 rfl rfl rfl (tI_rng _).1 (tI_rng _).2 (hB_G.2.put eG_1 rfl)
  have hF := hF.put eG_1 (Or.inl (by decide))
  refine lv_aload_n hx hb dX1_setOut_7 rfl (lv_at hl 0 rfl) ?_
  refine S_getR (n := 58) (C := RX1) (T := TX1) (N := 6) hx hb hg iX1 hown hK hW kd_30 rfl 0 (lt_b rfl) (hg (Cond.fieldLink RX1 11 "SlabWalk$Earnest" "now" "[I") m492) (fun _ h9 => h9) rfl dX1_setOut_8 ?_
  refine ic_1 hx hb dX1_setOut_11 ?_
  refine lv_iload_n hx hb dX1_setOut_12 rfl (lv_at hl 2 rfl) ?_
  refine S_iast hx hb hK hW hS kd_58 (vin (by decide) (by decide)) dX1_setOut_13 (fun G_2 H locs eG_2 hW hS => ?_)
  have hB_G_2 : Bd G_2 := hB_G_1.put (lo := (-2147483648)) (hi := 2147483647) eG_2 rfl rfl rfl (tI_rng _).1 (tI_rng _).2 (hB_G_1.2.put eG_2 rfl)
  have hF := hF.put eG_2 (Or.inl (by decide))
  refine lv_aload_n hx hb dX1_setOut_14 rfl (lv_at hl 0 rfl) ?_
  refine S_getR (n := 58) (C := RX1) (T := TX1) (N := 6) hx hb hg iX1 hown hK hW kd_30 rfl 0 (lt_b rfl) (hg (Cond.fieldLink RX1 11 "SlabWalk$Earnest" "now" "[I") m492) (fun _ h9 => h9) rfl dX1_setOut_15 ?_
  refine ic_2 hx hb dX1_setOut_18 ?_
  refine lv_iload_n hx hb dX1_setOut_19 rfl (lv_at hl 3 rfl) ?_
  refine S_iast hx hb hK hW hS kd_58 (vin (by decide) (by decide)) dX1_setOut_20 (fun G_3 H locs eG_3 hW hS => ?_)
  have hB_G_3 : Bd G_3 := hB_G_2.put (lo := (-2147483648)) (hi := 2147483647) eG_3 rfl rfl rfl (tI_rng _).1 (tI_rng _).2 (hB_G_2.2.put eG_3 rfl)
  have hF := hF.put eG_3 (Or.inl (by decide))
  refine lv_aload_n hx hb dX1_setOut_21 rfl (lv_at hl 0 rfl) ?_
  refine S_getR (n := 58) (C := RX1) (T := TX1) (N := 6) hx hb hg iX1 hown hK hW kd_30 rfl 0 (lt_b rfl) (hg (Cond.fieldLink RX1 11 "SlabWalk$Earnest" "now" "[I") m492) (fun _ h9 => h9) rfl dX1_setOut_22 ?_
  refine ic_3 hx hb dX1_setOut_25 ?_
  refine ic_1 hx hb dX1_setOut_26 ?_
  refine S_iast hx hb hK hW hS kd_58 (vin (by decide) (by decide)) dX1_setOut_27 (fun G_4 H locs eG_4 hW hS => ?_)
  have hB_G_4 : Bd G_4 := hB_G_3.put (lo := (-2147483648)) (hi := 2147483647) eG_4 rfl rfl rfl (tI_rng _).1 (tI_rng _).2 (hB_G_3.2.put eG_4 rfl)
  have hF := hF.put eG_4 (Or.inl (by decide))
  refine lv_aload_n hx hb dX1_setOut_28 rfl (lv_at hl 0 rfl) ?_
  refine S_getR (n := 58) (C := RX1) (T := TX1) (N := 6) hx hb hg iX1 hown hK hW kd_30 rfl 0 (lt_b rfl) (hg (Cond.fieldLink RX1 11 "SlabWalk$Earnest" "now" "[I") m492) (fun _ h9 => h9) rfl dX1_setOut_29 ?_
  refine ic_4 hx hb dX1_setOut_32 ?_
  refine ic_1 hx hb dX1_setOut_33 ?_
  refine S_iast hx hb hK hW hS kd_58 (vin (by decide) (by decide)) dX1_setOut_34 (fun G_5 H locs eG_5 hW hS => ?_)
  have hB_G_5 : Bd G_5 := hB_G_4.put (lo := (-2147483648)) (hi := 2147483647) eG_5 rfl rfl rfl (tI_rng _).1 (tI_rng _).2 (hB_G_4.2.put eG_5 rfl)
  have hF := hF.put eG_5 (Or.inl (by decide))
  refine lv_aload_n hx hb dX1_setOut_35 rfl (lv_at hl 0 rfl) ?_
  refine S_getR (n := 58) (C := RX1) (T := TX1) (N := 6) hx hb hg iX1 hown hK hW kd_30 rfl 0 (lt_b rfl) (hg (Cond.fieldLink RX1 11 "SlabWalk$Earnest" "now" "[I") m492) (fun _ h9 => h9) rfl dX1_setOut_36 ?_
  refine ic_5 hx hb dX1_setOut_39 ?_
  refine ic_0 hx hb dX1_setOut_40 ?_
  refine S_iast hx hb hK hW hS kd_58 (vin (by decide) (by decide)) dX1_setOut_41 (fun G_6 H locs eG_6 hW hS => ?_)
  have hB_G_6 : Bd G_6 := hB_G_5.put (lo := (-2147483648)) (hi := 2147483647) eG_6 rfl rfl rfl (tI_rng _).1 (tI_rng _).2 (hB_G_5.2.put eG_6 rfl)
  have hF := hF.put eG_6 (Or.inl (by decide))
  exact W.vret hx hb hr (fun t ht _ => ⟨⟨G_6, rfl, (P_eSetOut_mk ⟨hB_G_6, hF, ⟨(Fr.put (rs := [58]) (fs := []) (Fr.put (rs := [58]) (fs := []) (Fr.put (rs := [58]) (fs := []) (Fr.put (rs := [58]) (fs := []) (Fr.put (rs := [58]) (fs := []) (Fr.put (rs := [58]) (fs := []) Fr.rf eG_1 (Or.inl (by decide))) eG_2 (Or.inl (by decide))) eG_3 (Or.inl (by decide))) eG_4 (Or.inl (by decide))) eG_5 (Or.inl (by decide))) eG_6 (Or.inl (by decide))), (rw_ast eG_6).trans (congrArg (fun q => upd q ((5 : Int32).toNatClampNeg) 0) ((rw_ast eG_5).trans (congrArg (fun q => upd q ((4 : Int32).toNatClampNeg) 1) ((rw_ast eG_4).trans (congrArg (fun q => upd q ((3 : Int32).toNatClampNeg) 1) ((rw_ast eG_3).trans (congrArg (fun q => upd q ((2 : Int32).toNatClampNeg) p2) ((rw_ast eG_2).trans (congrArg (fun q => upd q ((1 : Int32).toNatClampNeg) p1) (rw_ast eG_1))))))))))⟩⟩), wd_t ht hW⟩, hS.F ht⟩) hS.2.2 dX1_setOut_42

set_option maxHeartbeats 4000000 in
set_option maxRecDepth 100000 in
theorem k_eDraw (l : Launch) (D : va_G) (k : KT) (A : Nat → Prop) (a : Nat → Nat) (z : SK) (G : GS)   : Met l yX1_drawSeed (WS yX1_drawSeed cX1_drawSeed 1 none) ({ frames := 0, cells := 0, slots := 0, locals := 0 }) (va_Pc [.ref (a 30)] (cW D k A a z G)) (va_Qv (fun (G1 : GS) => P_eDraw G G1) (fun (G1 : GS) t => Wd D k A a G1 t.heap) A) 0 0 A := by
  refine Met.ofW (cc := cX1_drawSeed) (maxL := 1) (ret := none) (by decide) rfl ?_
  intro p e s m args below meth c s₁ B hml hv
  obtain ⟨rfl, hW, hB_G, hK, hZ⟩ := hv
  have hx := B.exec
  have hb := B.bytes
  have hr := B.returns
  have hts := atoms_spec (ws := WS yX1_drawSeed cX1_drawSeed 1 none) B.pre
  have hgd : ∀ w ∈ gd, w ∈ WS yX1_drawSeed cX1_drawSeed 1 none := fun w h => List.mem_cons_of_mem _ h
  have hg : ∀ w ∈ gd, w.before _ s = true := fun w h => hts w (hgd w h)
  have hown : s.vm.findClass RX1 = some m.cls := findClass_of_methodNamed B.named
  have hS : va_S A s.heap s.heap [] := va_S.rf
  have hF : Fr [58] [] G G := Fr.rf
  have hl := lv_entry ([.ref (a 30)]) (n := 1) (Nat.le_of_ble_eq_true rfl)
  rw [lg_entry_eq]
  generalize (lg_sl ([.ref (a 30)]) ++ List.replicate (1 - (lg_sl ([.ref (a 30)])).length) Slot.unset).toArray = ls at hl ⊢
  have hl : lv_has ls 1 [(0, .ref (a 30))] := hl
  refine lv_aload_n hx hb dX1_drawSeed_0 rfl (lv_at hl 0 rfl) ?_
  refine S_getR (n := 58) (C := RX1) (T := TX1) (N := 6) hx hb hg iX1 hown hK hW kd_30 rfl 0 (lt_b rfl) (hg (Cond.fieldLink RX1 11 "SlabWalk$Earnest" "now" "[I") m492) (fun _ h9 => h9) rfl dX1_drawSeed_1 ?_
  refine lv_bipush (v := 7) hx hb dX1_drawSeed_4 (by decide) ?_
  refine lv_aload_n hx hb dX1_drawSeed_6 rfl (lv_at hl 0 rfl) ?_
  refine S_getR (n := 58) (C := RX1) (T := TX1) (N := 6) hx hb hg iX1 hown hK hW kd_30 rfl 0 (lt_b rfl) (hg (Cond.fieldLink RX1 11 "SlabWalk$Earnest" "now" "[I") m492) (fun _ h9 => h9) rfl dX1_drawSeed_7 ?_
  refine lv_bipush (v := 7) hx hb dX1_drawSeed_10 (by decide) ?_
  refine S_iald hx hb hK hW kd_58 (vin (by decide) (by decide)) dX1_drawSeed_12 (fun y_1 ey_1 => ?_)
  refine lv_sipush (v := 137) hx hb dX1_drawSeed_13 (by decide) ?_
  refine lv_imul hx hb dX1_drawSeed_16 ?_
  refine lv_topi (fun y_2 ey_2 => ?_)
  refine lv_bipush (v := 71) hx hb dX1_drawSeed_17 (by decide) ?_
  refine lv_iadd hx hb dX1_drawSeed_19 ?_
  refine lv_topi (fun y_3 ey_3 => ?_)
  refine lv_sipush (v := 1000) hx hb dX1_drawSeed_20 (by decide) ?_
  refine lv_irem hx hb dX1_drawSeed_23 (by decide) ?_
  refine lv_topi (fun y_4 ey_4 => ?_)
  refine S_iast hx hb hK hW hS kd_58 (vin (by decide) (by decide)) dX1_drawSeed_24 (fun G_5 H locs eG_5 hW hS => ?_)
  have hB_G_5 : Bd G_5 := hB_G.put (lo := (-2147483648)) (hi := 2147483647) eG_5 rfl rfl rfl (tI_rng _).1 (tI_rng _).2 (hB_G.2.put eG_5 rfl)
  have hF := hF.put eG_5 (Or.inl (by decide))
  exact W.vret hx hb hr (fun t ht _ => ⟨⟨G_5, rfl, (P_eDraw_mk ⟨hB_G_5, hF, ⟨y_1, ey_1, ⟨y_2, ey_2, ⟨y_3, ey_3, ⟨y_4, ey_4, ⟨(Fr.put (rs := [58]) (fs := []) Fr.rf eG_5 (Or.inl (by decide))), rw_ast eG_5⟩⟩⟩⟩⟩⟩), wd_t ht hW⟩, hS.F ht⟩) hS.2.2 dX1_drawSeed_25

set_option maxHeartbeats 4000000 in
set_option maxRecDepth 100000 in
theorem k_eKeep (l : Launch) (D : va_G) (k : KT) (A : Nat → Prop) (a : Nat → Nat) (z : SK) (G : GS)   : Met l yX1_keepAct (WS yX1_keepAct cX1_keepAct 1 none) ({ frames := 1, cells := 0, slots := 0, locals := 40 }) (va_Pc [.ref (a 30)] (cW D k A a z G)) (va_Qv (fun (G1 : GS) => P_eKeep G G1) (fun (G1 : GS) t => Wd D k A a G1 t.heap) A) 0 0 A := by
  refine Met.ofW (cc := cX1_keepAct) (maxL := 1) (ret := none) (by decide) rfl ?_
  intro p e s m args below meth c s₁ B hml hv
  obtain ⟨rfl, hW, hB_G, hK, hZ⟩ := hv
  have hx := B.exec
  have hb := B.bytes
  have hr := B.returns
  have hts := atoms_spec (ws := WS yX1_keepAct cX1_keepAct 1 none) B.pre
  have hgd : ∀ w ∈ gd, w ∈ WS yX1_keepAct cX1_keepAct 1 none := fun w h => List.mem_cons_of_mem _ h
  have hg : ∀ w ∈ gd, w.before _ s = true := fun w h => hts w (hgd w h)
  have hown : s.vm.findClass RX1 = some m.cls := findClass_of_methodNamed B.named
  have hS : va_S A s.heap s.heap [] := va_S.rf
  have hF : Fr [59] [(30, 4), (30, 5)] G G := Fr.rf
  have hl := lv_entry ([.ref (a 30)]) (n := 1) (Nat.le_of_ble_eq_true rfl)
  rw [lg_entry_eq]
  generalize (lg_sl ([.ref (a 30)]) ++ List.replicate (1 - (lg_sl ([.ref (a 30)])).length) Slot.unset).toArray = ls at hl ⊢
  have hl : lv_has ls 1 [(0, .ref (a 30))] := hl
  refine lv_aload_n hx hb dX1_keepAct_0 rfl (lv_at hl 0 rfl) ?_
  have b_1 : 0 ≤ (G.1 30 4).toInt ∧ (G.1 30 4).toInt ≤ 40 := bd_30_4 hB_G
  refine S_getI (v := (G.1 30 4)) (C := RX1) (T := TX1) (N := 6) hx hb hg iX1 hown hK hW kd_30 rfl 4 (lt_b rfl) (hg (Cond.fieldLink RX1 34 "SlabWalk$Earnest" "done" "I") m497) (fun _ h9 => h9) rfl rfl dX1_keepAct_1 ?_
  refine lv_bipush (v := 40) hx hb dX1_keepAct_4 (by decide) ?_
  refine lv_icmp_lt (tgt := 32) hx hb dX1_keepAct_6 rfl (fun c_2 => ?_) (fun c_2 => ?_)
  · have c_2 : (G.1 30 4).toInt < 40 := xI_lt rfl rfl c_2
    refine lv_aload_n hx hb dX1_keepAct_32 rfl (lv_at hl 0 rfl) ?_
    refine lv_dup hx hb dX1_keepAct_33 rfl ?_
    refine S_getI (v := (G.1 30 4)) (C := RX1) (T := TX1) (N := 6) hx hb hg iX1 hown hK hW kd_30 rfl 4 (lt_b rfl) (hg (Cond.fieldLink RX1 34 "SlabWalk$Earnest" "done" "I") m497) (fun _ h9 => h9) rfl rfl dX1_keepAct_34 ?_
    refine ic_1 hx hb dX1_keepAct_37 ?_
    refine lv_iadd hx hb dX1_keepAct_38 ?_
    refine lv_topi (fun y_3 ey_3 => ?_)
    have ty_3 : y_3.toInt = (G.1 30 4).toInt + 1 := xI_add rfl rfl ey_3 (by omega) (by omega)
    refine S_putI (ty := .int) (C := RX1) (T := TX1) (N := 6) hx hb hg iX1 tyX1 tyX1_ok nmX1 hown hK hW hS kd_30 rfl 4 (lt_b rfl) (hg (Cond.fieldLink RX1 34 "SlabWalk$Earnest" "done" "I") m497) (fun _ h9 => h9) rfl (by decide +kernel) rfl rfl rfl dX1_keepAct_39 (fun G_4 H locs eG_4 hW hS => ?_)
    have hB_G_4 : Bd G_4 := hB_G.put (V := y_3.toInt) (lo := 0) (hi := 40) eG_4 rfl rfl rfl (by omega) (by omega) (hB_G.2.put eG_4 rfl)
    have hF := hF.put eG_4 (Or.inr (by decide))
    refine lv_aload_n hx hb dX1_keepAct_42 rfl (lv_at hl 0 rfl) ?_
    refine ic_0 hx hb dX1_keepAct_43 ?_
    refine S_putI (ty := .int) (C := RX1) (T := TX1) (N := 6) hx hb hg iX1 tyX1 tyX1_ok nmX1 hown hK hW hS kd_30 rfl 5 (lt_b rfl) (hg (Cond.fieldLink RX1 37 "SlabWalk$Earnest" "undone" "I") m499) (fun _ h9 => h9) rfl (by decide +kernel) rfl rfl rfl dX1_keepAct_44 (fun G_5 H locs eG_5 hW hS => ?_)
    have hB_G_5 : Bd G_5 := hB_G_4.put (V := 0) (lo := 0) (hi := 40) eG_5 rfl rfl rfl (by decide) (by decide) (hB_G_4.2.put eG_5 rfl)
    have hF := hF.put eG_5 (Or.inr (by decide))
    refine lv_aload_n hx hb dX1_keepAct_47 rfl (lv_at hl 0 rfl) ?_
    refine S_getR (n := 58) (C := RX1) (T := TX1) (N := 6) hx hb hg iX1 hown hK hW kd_30 rfl 0 (lt_b rfl) (hg (Cond.fieldLink RX1 11 "SlabWalk$Earnest" "now" "[I") m492) (fun _ h9 => h9) rfl dX1_keepAct_48 ?_
    refine ic_0 hx hb dX1_keepAct_51 ?_
    refine lv_aload_n hx hb dX1_keepAct_52 rfl (lv_at hl 0 rfl) ?_
    refine S_getR (n := 59) (C := RX1) (T := TX1) (N := 6) hx hb hg iX1 hown hK hW kd_30 rfl 1 (lt_b rfl) (hg (Cond.fieldLink RX1 15 "SlabWalk$Earnest" "kept" "[I") m494) (fun _ h9 => h9) rfl dX1_keepAct_53 ?_
    refine lv_aload_n hx hb dX1_keepAct_56 rfl (lv_at hl 0 rfl) ?_
    refine S_getI (v := y_3) (C := RX1) (T := TX1) (N := 6) hx hb hg iX1 hown hK hW kd_30 rfl 4 (lt_b rfl) (hg (Cond.fieldLink RX1 34 "SlabWalk$Earnest" "done" "I") m497) (fun _ h9 => h9) rfl ((gp_ne eG_5 (by decide)).trans (gp_eq eG_4)) dX1_keepAct_57 ?_
    refine lv_bipush (v := 10) hx hb dX1_keepAct_60 (by decide) ?_
    refine lv_imul hx hb dX1_keepAct_62 ?_
    refine lv_topi (fun y_6 ey_6 => ?_)
    have ty_6 : y_6.toInt = y_3.toInt * 10 := xI_mul rfl rfl ey_6 (by omega) (by omega)
    refine lv_bipush (v := 10) hx hb dX1_keepAct_63 (by decide) ?_
    have qc_8 : (0 : Int32).toInt = 0 := rfl
    have qc_9 : (10 : Int32).toInt = 10 := rfl
    refine S_copy hx hb (by rw [hml]; exact hl.1.symm) hown (hg (Cond.methodLink RX1 40 arraycopyName) m567) (hg (Cond.native arraycopyName) m569) (hg (Cond.static arraycopyName) m568) (hg (Cond.initialized "java/lang/System") m130) hK hW hS kd_58 kd_59 (by decide) (by omega) (by decide) (by decide) (by omega) (Nat.le_of_ble_eq_true rfl) (by decide +kernel) dX1_keepAct_65 (fun G_7 H locs eG_7 hW hS => ?_)
    have hB_G_7 : Bd G_7 := hB_G_5.rowp eG_7 (fun _ => ⟨(tI_rng _).1, (tI_rng _).2⟩) (hB_G_5.2.row eG_7 (fun _ => rfl))
    have hF := hF.row eG_7 (by decide)
    have g_10 : (G_7.1 30 4).toInt = y_3.toInt := (congrArg Int32.toInt (show G_7.1 30 4 = y_3 from ((gp_row eG_7 (by decide)).trans ((gp_ne eG_5 (by decide)).trans (gp_eq eG_4)))))
    have g_11 : (G_7.1 30 5).toInt = 0 := (congrArg Int32.toInt (show G_7.1 30 5 = 0 from ((gp_row eG_7 (by decide)).trans (gp_eq eG_5)))).trans rfl
    exact W.vret hx hb hr (fun t ht _ => ⟨⟨G_7, rfl, (P_eKeep_mk ⟨hB_G_7, hF, (by omega), (Or.inl ⟨c_2, ⟨y_3, ty_3, ⟨y_6, ty_6, ⟨(Fr.row (rs := [59]) (fs := [(30, 4), (30, 5)]) (Fr.put (rs := [59]) (fs := [(30, 4), (30, 5)]) (Fr.put (rs := [59]) (fs := [(30, 4), (30, 5)]) Fr.rf eG_4 (Or.inr (by decide))) eG_5 (Or.inr (by decide))) eG_7 (by decide)), ((gp_row eG_7 (by decide)).trans ((gp_ne eG_5 (by decide)).trans (gp_eq eG_4))), ((gp_row eG_7 (by decide)).trans (gp_eq eG_5)), (rw_row eG_7).trans (by rw [show G_5.1 58 = (G.1 58) from (rw_put eG_5 (by decide)).trans (rw_put eG_4 (by decide)), show G_5.1 59 = (G.1 59) from (rw_put eG_5 (by decide)).trans (rw_put eG_4 (by decide))])⟩⟩⟩⟩)⟩), wd_t ht hW⟩, hS.F ht⟩) hS.2.2 dX1_keepAct_68
  · have c_2 : 40 ≤ (G.1 30 4).toInt := xI_nlt rfl rfl c_2
    refine lv_aload_n hx hb dX1_keepAct_9 rfl (lv_at hl 0 rfl) ?_
    refine S_getR (n := 59) (C := RX1) (T := TX1) (N := 6) hx hb hg iX1 hown hK hW kd_30 rfl 1 (lt_b rfl) (hg (Cond.fieldLink RX1 15 "SlabWalk$Earnest" "kept" "[I") m494) (fun _ h9 => h9) rfl dX1_keepAct_10 ?_
    refine lv_bipush (v := 10) hx hb dX1_keepAct_13 (by decide) ?_
    refine lv_aload_n hx hb dX1_keepAct_15 rfl (lv_at hl 0 rfl) ?_
    refine S_getR (n := 59) (C := RX1) (T := TX1) (N := 6) hx hb hg iX1 hown hK hW kd_30 rfl 1 (lt_b rfl) (hg (Cond.fieldLink RX1 15 "SlabWalk$Earnest" "kept" "[I") m494) (fun _ h9 => h9) rfl dX1_keepAct_16 ?_
    refine ic_0 hx hb dX1_keepAct_19 ?_
    refine lv_sipush (v := 400) hx hb dX1_keepAct_20 (by decide) ?_
    have qc_13 : (0 : Int32).toInt = 0 := rfl
    have qc_14 : (10 : Int32).toInt = 10 := rfl
    have qc_15 : (400 : Int32).toInt = 400 := rfl
    refine S_copy hx hb (by rw [hml]; exact hl.1.symm) hown (hg (Cond.methodLink RX1 40 arraycopyName) m567) (hg (Cond.native arraycopyName) m569) (hg (Cond.static arraycopyName) m568) (hg (Cond.initialized "java/lang/System") m130) hK hW hS kd_59 kd_59 (by decide) (by decide) (by decide) (by decide) (by decide) (Nat.le_of_ble_eq_true rfl) (by decide +kernel) dX1_keepAct_23 (fun G_12 H locs eG_12 hW hS => ?_)
    have hB_G_12 : Bd G_12 := hB_G.rowp eG_12 (fun _ => ⟨(tI_rng _).1, (tI_rng _).2⟩) (hB_G.2.row eG_12 (fun _ => rfl))
    have hF := hF.row eG_12 (by decide)
    refine lv_aload_n hx hb dX1_keepAct_26 rfl (lv_at hl 0 rfl) ?_
    refine lv_bipush (v := 39) hx hb dX1_keepAct_27 (by decide) ?_
    refine S_putI (ty := .int) (C := RX1) (T := TX1) (N := 6) hx hb hg iX1 tyX1 tyX1_ok nmX1 hown hK hW hS kd_30 rfl 4 (lt_b rfl) (hg (Cond.fieldLink RX1 34 "SlabWalk$Earnest" "done" "I") m497) (fun _ h9 => h9) rfl (by decide +kernel) rfl rfl rfl dX1_keepAct_29 (fun G_16 H locs eG_16 hW hS => ?_)
    have hB_G_16 : Bd G_16 := hB_G_12.put (V := 39) (lo := 0) (hi := 40) eG_16 rfl rfl rfl (by decide) (by decide) (hB_G_12.2.put eG_16 rfl)
    have hF := hF.put eG_16 (Or.inr (by decide))
    refine lv_aload_n hx hb dX1_keepAct_32 rfl (lv_at hl 0 rfl) ?_
    refine lv_dup hx hb dX1_keepAct_33 rfl ?_
    refine S_getI (v := 39) (C := RX1) (T := TX1) (N := 6) hx hb hg iX1 hown hK hW kd_30 rfl 4 (lt_b rfl) (hg (Cond.fieldLink RX1 34 "SlabWalk$Earnest" "done" "I") m497) (fun _ h9 => h9) rfl (gp_eq eG_16) dX1_keepAct_34 ?_
    refine ic_1 hx hb dX1_keepAct_37 ?_
    refine lv_iadd hx hb dX1_keepAct_38 ?_
    refine lv_topi (fun y_17 ey_17 => ?_)
    obtain rfl : y_17 = 40 := ey_17.trans (by decide)
    refine S_putI (ty := .int) (C := RX1) (T := TX1) (N := 6) hx hb hg iX1 tyX1 tyX1_ok nmX1 hown hK hW hS kd_30 rfl 4 (lt_b rfl) (hg (Cond.fieldLink RX1 34 "SlabWalk$Earnest" "done" "I") m497) (fun _ h9 => h9) rfl (by decide +kernel) rfl rfl rfl dX1_keepAct_39 (fun G_18 H locs eG_18 hW hS => ?_)
    have hB_G_18 : Bd G_18 := hB_G_16.put (V := 40) (lo := 0) (hi := 40) eG_18 rfl rfl rfl (by decide) (by decide) (hB_G_16.2.put eG_18 rfl)
    have hF := hF.put eG_18 (Or.inr (by decide))
    refine lv_aload_n hx hb dX1_keepAct_42 rfl (lv_at hl 0 rfl) ?_
    refine ic_0 hx hb dX1_keepAct_43 ?_
    refine S_putI (ty := .int) (C := RX1) (T := TX1) (N := 6) hx hb hg iX1 tyX1 tyX1_ok nmX1 hown hK hW hS kd_30 rfl 5 (lt_b rfl) (hg (Cond.fieldLink RX1 37 "SlabWalk$Earnest" "undone" "I") m499) (fun _ h9 => h9) rfl (by decide +kernel) rfl rfl rfl dX1_keepAct_44 (fun G_19 H locs eG_19 hW hS => ?_)
    have hB_G_19 : Bd G_19 := hB_G_18.put (V := 0) (lo := 0) (hi := 40) eG_19 rfl rfl rfl (by decide) (by decide) (hB_G_18.2.put eG_19 rfl)
    have hF := hF.put eG_19 (Or.inr (by decide))
    refine lv_aload_n hx hb dX1_keepAct_47 rfl (lv_at hl 0 rfl) ?_
    refine S_getR (n := 58) (C := RX1) (T := TX1) (N := 6) hx hb hg iX1 hown hK hW kd_30 rfl 0 (lt_b rfl) (hg (Cond.fieldLink RX1 11 "SlabWalk$Earnest" "now" "[I") m492) (fun _ h9 => h9) rfl dX1_keepAct_48 ?_
    refine ic_0 hx hb dX1_keepAct_51 ?_
    refine lv_aload_n hx hb dX1_keepAct_52 rfl (lv_at hl 0 rfl) ?_
    refine S_getR (n := 59) (C := RX1) (T := TX1) (N := 6) hx hb hg iX1 hown hK hW kd_30 rfl 1 (lt_b rfl) (hg (Cond.fieldLink RX1 15 "SlabWalk$Earnest" "kept" "[I") m494) (fun _ h9 => h9) rfl dX1_keepAct_53 ?_
    refine lv_aload_n hx hb dX1_keepAct_56 rfl (lv_at hl 0 rfl) ?_
    refine S_getI (v := 40) (C := RX1) (T := TX1) (N := 6) hx hb hg iX1 hown hK hW kd_30 rfl 4 (lt_b rfl) (hg (Cond.fieldLink RX1 34 "SlabWalk$Earnest" "done" "I") m497) (fun _ h9 => h9) rfl ((gp_ne eG_19 (by decide)).trans (gp_eq eG_18)) dX1_keepAct_57 ?_
    refine lv_bipush (v := 10) hx hb dX1_keepAct_60 (by decide) ?_
    refine lv_imul hx hb dX1_keepAct_62 ?_
    refine lv_topi (fun y_20 ey_20 => ?_)
    obtain rfl : y_20 = 400 := ey_20.trans (by decide)
    refine lv_bipush (v := 10) hx hb dX1_keepAct_63 (by decide) ?_
    have qc_22 : (0 : Int32).toInt = 0 := rfl
    have qc_23 : (10 : Int32).toInt = 10 := rfl
    have qc_24 : (400 : Int32).toInt = 400 := rfl
    refine S_copy hx hb (by rw [hml]; exact hl.1.symm) hown (hg (Cond.methodLink RX1 40 arraycopyName) m567) (hg (Cond.native arraycopyName) m569) (hg (Cond.static arraycopyName) m568) (hg (Cond.initialized "java/lang/System") m130) hK hW hS kd_58 kd_59 (by decide) (by decide) (by decide) (by decide) (by decide) (Nat.le_of_ble_eq_true rfl) (by decide +kernel) dX1_keepAct_65 (fun G_21 H locs eG_21 hW hS => ?_)
    have hB_G_21 : Bd G_21 := hB_G_19.rowp eG_21 (fun _ => ⟨(tI_rng _).1, (tI_rng _).2⟩) (hB_G_19.2.row eG_21 (fun _ => rfl))
    have hF := hF.row eG_21 (by decide)
    have g_25 : (G_21.1 30 4).toInt = 40 := (congrArg Int32.toInt (show G_21.1 30 4 = 40 from ((gp_row eG_21 (by decide)).trans ((gp_ne eG_19 (by decide)).trans (gp_eq eG_18))))).trans rfl
    have g_26 : (G_21.1 30 5).toInt = 0 := (congrArg Int32.toInt (show G_21.1 30 5 = 0 from ((gp_row eG_21 (by decide)).trans (gp_eq eG_19)))).trans rfl
    exact W.vret hx hb hr (fun t ht _ => ⟨⟨G_21, rfl, (P_eKeep_mk ⟨hB_G_21, hF, (by omega), (Or.inr ⟨c_2, ⟨(Fr.row (rs := [59]) (fs := [(30, 4), (30, 5)]) (Fr.put (rs := [59]) (fs := [(30, 4), (30, 5)]) (Fr.put (rs := [59]) (fs := [(30, 4), (30, 5)]) (Fr.put (rs := [59]) (fs := [(30, 4), (30, 5)]) (Fr.row (rs := [59]) (fs := [(30, 4), (30, 5)]) Fr.rf eG_12 (by decide)) eG_16 (Or.inr (by decide))) eG_18 (Or.inr (by decide))) eG_19 (Or.inr (by decide))) eG_21 (by decide)), ((gp_row eG_21 (by decide)).trans ((gp_ne eG_19 (by decide)).trans (gp_eq eG_18))), ((gp_row eG_21 (by decide)).trans (gp_eq eG_19)), (rw_row eG_21).trans (by rw [show G_19.1 58 = (G.1 58) from (rw_put eG_19 (by decide)).trans ((rw_put eG_18 (by decide)).trans ((rw_put eG_16 (by decide)).trans (rw_rne eG_12 (by decide)))), show G_19.1 59 = (va_cpy (G.1 59) (G.1 59) ((10 : Int32).toNatClampNeg) ((0 : Int32).toNatClampNeg) ((400 : Int32).toNatClampNeg)) from (rw_put eG_19 (by decide)).trans ((rw_put eG_18 (by decide)).trans ((rw_put eG_16 (by decide)).trans (rw_row eG_12)))])⟩⟩)⟩), wd_t ht hW⟩, hS.F ht⟩) hS.2.2 dX1_keepAct_68

set_option maxHeartbeats 4000000 in
set_option maxRecDepth 100000 in
theorem k_eBack (l : Launch) (D : va_G) (k : KT) (A : Nat → Prop) (a : Nat → Nat) (z : SK) (G : GS)  (he : (G.1 30 4).toInt + (G.1 30 5).toInt ≤ 40) : Met l yX1_takeBack (WS yX1_takeBack cX1_takeBack 1 (some .boolean)) ({ frames := 1, cells := 0, slots := 0, locals := 40 }) (va_Pc [.ref (a 30)] (cW D k A a z G)) (va_Qi (fun (r : Int32) (G1 : GS) => P_eBack G r G1) (fun (G1 : GS) t => Wd D k A a G1 t.heap) A) 0 0 A := by
  refine Met.ofW (cc := cX1_takeBack) (maxL := 1) (ret := (some .boolean)) (by decide) rfl ?_
  intro p e s m args below meth c s₁ B hml hv
  obtain ⟨rfl, hW, hB_G, hK, hZ⟩ := hv
  have hx := B.exec
  have hb := B.bytes
  have hr := B.returns
  have hts := atoms_spec (ws := WS yX1_takeBack cX1_takeBack 1 (some .boolean)) B.pre
  have hgd : ∀ w ∈ gd, w ∈ WS yX1_takeBack cX1_takeBack 1 (some .boolean) := fun w h => List.mem_cons_of_mem _ h
  have hg : ∀ w ∈ gd, w.before _ s = true := fun w h => hts w (hgd w h)
  have hown : s.vm.findClass RX1 = some m.cls := findClass_of_methodNamed B.named
  have hS : va_S A s.heap s.heap [] := va_S.rf
  have hF : Fr [58] [(30, 4), (30, 5)] G G := Fr.rf
  have hl := lv_entry ([.ref (a 30)]) (n := 1) (Nat.le_of_ble_eq_true rfl)
  rw [lg_entry_eq]
  generalize (lg_sl ([.ref (a 30)]) ++ List.replicate (1 - (lg_sl ([.ref (a 30)])).length) Slot.unset).toArray = ls at hl ⊢
  have hl : lv_has ls 1 [(0, .ref (a 30))] := hl
  refine lv_aload_n hx hb dX1_takeBack_0 rfl (lv_at hl 0 rfl) ?_
  have b_1 : 0 ≤ (G.1 30 4).toInt ∧ (G.1 30 4).toInt ≤ 40 := bd_30_4 hB_G
  refine S_getI (v := (G.1 30 4)) (C := RX1) (T := TX1) (N := 6) hx hb hg iX1 hown hK hW kd_30 rfl 4 (lt_b rfl) (hg (Cond.fieldLink RX1 34 "SlabWalk$Earnest" "done" "I") m497) (fun _ h9 => h9) rfl rfl dX1_takeBack_1 ?_
  refine lv_if_gt (tgt := 9) hx hb dX1_takeBack_4 rfl (fun c_2 => ?_) (fun c_2 => ?_)
  · have c_2 : 0 < (G.1 30 4).toInt := xI_lt rfl rfl c_2
    refine lv_aload_n hx hb dX1_takeBack_9 rfl (lv_at hl 0 rfl) ?_
    refine lv_dup hx hb dX1_takeBack_10 rfl ?_
    refine S_getI (v := (G.1 30 4)) (C := RX1) (T := TX1) (N := 6) hx hb hg iX1 hown hK hW kd_30 rfl 4 (lt_b rfl) (hg (Cond.fieldLink RX1 34 "SlabWalk$Earnest" "done" "I") m497) (fun _ h9 => h9) rfl rfl dX1_takeBack_11 ?_
    refine ic_1 hx hb dX1_takeBack_14 ?_
    refine lv_isub hx hb dX1_takeBack_15 ?_
    refine lv_topi (fun y_3 ey_3 => ?_)
    have ty_3 : y_3.toInt = (G.1 30 4).toInt - 1 := xI_sub rfl rfl ey_3 (by omega) (by omega)
    refine S_putI (ty := .int) (C := RX1) (T := TX1) (N := 6) hx hb hg iX1 tyX1 tyX1_ok nmX1 hown hK hW hS kd_30 rfl 4 (lt_b rfl) (hg (Cond.fieldLink RX1 34 "SlabWalk$Earnest" "done" "I") m497) (fun _ h9 => h9) rfl (by decide +kernel) rfl rfl rfl dX1_takeBack_16 (fun G_4 H locs eG_4 hW hS => ?_)
    have hB_G_4 : Bd G_4 := hB_G.put (V := y_3.toInt) (lo := 0) (hi := 40) eG_4 rfl rfl rfl (by omega) (by omega) (hB_G.2.put eG_4 rfl)
    have hF := hF.put eG_4 (Or.inr (by decide))
    refine lv_aload_n hx hb dX1_takeBack_19 rfl (lv_at hl 0 rfl) ?_
    refine lv_dup hx hb dX1_takeBack_20 rfl ?_
    have b_5 : 0 ≤ (G.1 30 5).toInt ∧ (G.1 30 5).toInt ≤ 40 := bd_30_5 hB_G
    refine S_getI (v := (G.1 30 5)) (C := RX1) (T := TX1) (N := 6) hx hb hg iX1 hown hK hW kd_30 rfl 5 (lt_b rfl) (hg (Cond.fieldLink RX1 37 "SlabWalk$Earnest" "undone" "I") m499) (fun _ h9 => h9) rfl (gp_ne eG_4 (by decide)) dX1_takeBack_21 ?_
    refine ic_1 hx hb dX1_takeBack_24 ?_
    refine lv_iadd hx hb dX1_takeBack_25 ?_
    refine lv_topi (fun y_6 ey_6 => ?_)
    have ty_6 : y_6.toInt = (G.1 30 5).toInt + 1 := xI_add rfl rfl ey_6 (by omega) (by omega)
    refine S_putI (ty := .int) (C := RX1) (T := TX1) (N := 6) hx hb hg iX1 tyX1 tyX1_ok nmX1 hown hK hW hS kd_30 rfl 5 (lt_b rfl) (hg (Cond.fieldLink RX1 37 "SlabWalk$Earnest" "undone" "I") m499) (fun _ h9 => h9) rfl (by decide +kernel) rfl rfl rfl dX1_takeBack_26 (fun G_7 H locs eG_7 hW hS => ?_)
    have hB_G_7 : Bd G_7 := hB_G_4.put (V := y_6.toInt) (lo := 0) (hi := 40) eG_7 rfl rfl rfl (by omega) (by omega) (hB_G_4.2.put eG_7 rfl)
    have hF := hF.put eG_7 (Or.inr (by decide))
    refine lv_aload_n hx hb dX1_takeBack_29 rfl (lv_at hl 0 rfl) ?_
    refine S_getR (n := 59) (C := RX1) (T := TX1) (N := 6) hx hb hg iX1 hown hK hW kd_30 rfl 1 (lt_b rfl) (hg (Cond.fieldLink RX1 15 "SlabWalk$Earnest" "kept" "[I") m494) (fun _ h9 => h9) rfl dX1_takeBack_30 ?_
    refine lv_aload_n hx hb dX1_takeBack_33 rfl (lv_at hl 0 rfl) ?_
    refine S_getI (v := y_3) (C := RX1) (T := TX1) (N := 6) hx hb hg iX1 hown hK hW kd_30 rfl 4 (lt_b rfl) (hg (Cond.fieldLink RX1 34 "SlabWalk$Earnest" "done" "I") m497) (fun _ h9 => h9) rfl ((gp_ne eG_7 (by decide)).trans (gp_eq eG_4)) dX1_takeBack_34 ?_
    refine lv_bipush (v := 10) hx hb dX1_takeBack_37 (by decide) ?_
    refine lv_imul hx hb dX1_takeBack_39 ?_
    refine lv_topi (fun y_8 ey_8 => ?_)
    have ty_8 : y_8.toInt = y_3.toInt * 10 := xI_mul rfl rfl ey_8 (by omega) (by omega)
    refine lv_aload_n hx hb dX1_takeBack_40 rfl (lv_at hl 0 rfl) ?_
    refine S_getR (n := 58) (C := RX1) (T := TX1) (N := 6) hx hb hg iX1 hown hK hW kd_30 rfl 0 (lt_b rfl) (hg (Cond.fieldLink RX1 11 "SlabWalk$Earnest" "now" "[I") m492) (fun _ h9 => h9) rfl dX1_takeBack_41 ?_
    refine ic_0 hx hb dX1_takeBack_44 ?_
    refine lv_bipush (v := 10) hx hb dX1_takeBack_45 (by decide) ?_
    have qc_10 : (0 : Int32).toInt = 0 := rfl
    have qc_11 : (10 : Int32).toInt = 10 := rfl
    refine S_copy hx hb (by rw [hml]; exact hl.1.symm) hown (hg (Cond.methodLink RX1 40 arraycopyName) m567) (hg (Cond.native arraycopyName) m569) (hg (Cond.static arraycopyName) m568) (hg (Cond.initialized "java/lang/System") m130) hK hW hS kd_59 kd_58 (by omega) (by decide) (by decide) (by omega) (by decide) (Nat.le_of_ble_eq_true rfl) (by decide +kernel) dX1_takeBack_47 (fun G_9 H locs eG_9 hW hS => ?_)
    have hB_G_9 : Bd G_9 := hB_G_7.rowp eG_9 (fun _ => ⟨(tI_rng _).1, (tI_rng _).2⟩) (hB_G_7.2.row eG_9 (fun _ => rfl))
    have hF := hF.row eG_9 (by decide)
    refine ic_1 hx hb dX1_takeBack_50 ?_
    have g_12 : (G_9.1 30 4).toInt = y_3.toInt := (congrArg Int32.toInt (show G_9.1 30 4 = y_3 from ((gp_row eG_9 (by decide)).trans ((gp_ne eG_7 (by decide)).trans (gp_eq eG_4)))))
    have g_13 : (G_9.1 30 5).toInt = y_6.toInt := (congrArg Int32.toInt (show G_9.1 30 5 = y_6 from ((gp_row eG_9 (by decide)).trans (gp_eq eG_7))))
    exact W.zret (v := 1) hx hb hr (by decide) (fun t ht _ => ⟨⟨1, G_9, rfl, (P_eBack_mk ⟨hB_G_9, hF, ⟨by decide, by decide⟩, (by have hq : (1 : Int32).toInt = 1 := rfl; (try dsimp only); omega), (Or.inl ⟨c_2, ⟨y_3, ty_3, ⟨y_6, ty_6, ⟨y_8, ty_8, ⟨rfl, (Fr.row (rs := [58]) (fs := [(30, 4), (30, 5)]) (Fr.put (rs := [58]) (fs := [(30, 4), (30, 5)]) (Fr.put (rs := [58]) (fs := [(30, 4), (30, 5)]) Fr.rf eG_4 (Or.inr (by decide))) eG_7 (Or.inr (by decide))) eG_9 (by decide)), ((gp_row eG_9 (by decide)).trans ((gp_ne eG_7 (by decide)).trans (gp_eq eG_4))), ((gp_row eG_9 (by decide)).trans (gp_eq eG_7)), (rw_row eG_9).trans (by rw [show G_7.1 59 = (G.1 59) from (rw_put eG_7 (by decide)).trans (rw_put eG_4 (by decide)), show G_7.1 58 = (G.1 58) from (rw_put eG_7 (by decide)).trans (rw_put eG_4 (by decide))])⟩⟩⟩⟩⟩)⟩), wd_t ht hW⟩, hS.F ht⟩) hS.2.2 dX1_takeBack_51
  · have c_2 : (G.1 30 4).toInt ≤ 0 := xI_nlt rfl rfl c_2
    refine ic_0 hx hb dX1_takeBack_7 ?_
    have b_14 : 0 ≤ (G.1 30 5).toInt ∧ (G.1 30 5).toInt ≤ 40 := bd_30_5 hB_G
    exact W.zret (v := 0) hx hb hr (by decide) (fun t ht _ => ⟨⟨0, G, rfl, (P_eBack_mk ⟨hB_G, hF, ⟨by decide, by decide⟩, (by have hq : (0 : Int32).toInt = 0 := rfl; (try dsimp only); omega), (Or.inr ⟨c_2, ⟨rfl, rfl⟩⟩)⟩), wd_t ht hW⟩, hS.F ht⟩) hS.2.2 dX1_takeBack_8

set_option maxHeartbeats 4000000 in
set_option maxRecDepth 100000 in
theorem k_eAgain (l : Launch) (D : va_G) (k : KT) (A : Nat → Prop) (a : Nat → Nat) (z : SK) (G : GS)  (he : (G.1 30 4).toInt + (G.1 30 5).toInt ≤ 40) : Met l yX1_doAgain (WS yX1_doAgain cX1_doAgain 1 (some .boolean)) ({ frames := 1, cells := 0, slots := 0, locals := 40 }) (va_Pc [.ref (a 30)] (cW D k A a z G)) (va_Qi (fun (r : Int32) (G1 : GS) => P_eAgain G r G1) (fun (G1 : GS) t => Wd D k A a G1 t.heap) A) 0 0 A := by
  refine Met.ofW (cc := cX1_doAgain) (maxL := 1) (ret := (some .boolean)) (by decide) rfl ?_
  intro p e s m args below meth c s₁ B hml hv
  obtain ⟨rfl, hW, hB_G, hK, hZ⟩ := hv
  have hx := B.exec
  have hb := B.bytes
  have hr := B.returns
  have hts := atoms_spec (ws := WS yX1_doAgain cX1_doAgain 1 (some .boolean)) B.pre
  have hgd : ∀ w ∈ gd, w ∈ WS yX1_doAgain cX1_doAgain 1 (some .boolean) := fun w h => List.mem_cons_of_mem _ h
  have hg : ∀ w ∈ gd, w.before _ s = true := fun w h => hts w (hgd w h)
  have hown : s.vm.findClass RX1 = some m.cls := findClass_of_methodNamed B.named
  have hS : va_S A s.heap s.heap [] := va_S.rf
  have hF : Fr [58] [(30, 4), (30, 5)] G G := Fr.rf
  have hl := lv_entry ([.ref (a 30)]) (n := 1) (Nat.le_of_ble_eq_true rfl)
  rw [lg_entry_eq]
  generalize (lg_sl ([.ref (a 30)]) ++ List.replicate (1 - (lg_sl ([.ref (a 30)])).length) Slot.unset).toArray = ls at hl ⊢
  have hl : lv_has ls 1 [(0, .ref (a 30))] := hl
  refine lv_aload_n hx hb dX1_doAgain_0 rfl (lv_at hl 0 rfl) ?_
  have b_1 : 0 ≤ (G.1 30 5).toInt ∧ (G.1 30 5).toInt ≤ 40 := bd_30_5 hB_G
  refine S_getI (v := (G.1 30 5)) (C := RX1) (T := TX1) (N := 6) hx hb hg iX1 hown hK hW kd_30 rfl 5 (lt_b rfl) (hg (Cond.fieldLink RX1 37 "SlabWalk$Earnest" "undone" "I") m499) (fun _ h9 => h9) rfl rfl dX1_doAgain_1 ?_
  refine lv_if_gt (tgt := 9) hx hb dX1_doAgain_4 rfl (fun c_2 => ?_) (fun c_2 => ?_)
  · have c_2 : 0 < (G.1 30 5).toInt := xI_lt rfl rfl c_2
    refine lv_aload_n hx hb dX1_doAgain_9 rfl (lv_at hl 0 rfl) ?_
    refine lv_dup hx hb dX1_doAgain_10 rfl ?_
    have b_3 : 0 ≤ (G.1 30 4).toInt ∧ (G.1 30 4).toInt ≤ 40 := bd_30_4 hB_G
    refine S_getI (v := (G.1 30 4)) (C := RX1) (T := TX1) (N := 6) hx hb hg iX1 hown hK hW kd_30 rfl 4 (lt_b rfl) (hg (Cond.fieldLink RX1 34 "SlabWalk$Earnest" "done" "I") m497) (fun _ h9 => h9) rfl rfl dX1_doAgain_11 ?_
    refine ic_1 hx hb dX1_doAgain_14 ?_
    refine lv_iadd hx hb dX1_doAgain_15 ?_
    refine lv_topi (fun y_4 ey_4 => ?_)
    have ty_4 : y_4.toInt = (G.1 30 4).toInt + 1 := xI_add rfl rfl ey_4 (by omega) (by omega)
    refine S_putI (ty := .int) (C := RX1) (T := TX1) (N := 6) hx hb hg iX1 tyX1 tyX1_ok nmX1 hown hK hW hS kd_30 rfl 4 (lt_b rfl) (hg (Cond.fieldLink RX1 34 "SlabWalk$Earnest" "done" "I") m497) (fun _ h9 => h9) rfl (by decide +kernel) rfl rfl rfl dX1_doAgain_16 (fun G_5 H locs eG_5 hW hS => ?_)
    have hB_G_5 : Bd G_5 := hB_G.put (V := y_4.toInt) (lo := 0) (hi := 40) eG_5 rfl rfl rfl (by omega) (by omega) (hB_G.2.put eG_5 rfl)
    have hF := hF.put eG_5 (Or.inr (by decide))
    refine lv_aload_n hx hb dX1_doAgain_19 rfl (lv_at hl 0 rfl) ?_
    refine lv_dup hx hb dX1_doAgain_20 rfl ?_
    refine S_getI (v := (G.1 30 5)) (C := RX1) (T := TX1) (N := 6) hx hb hg iX1 hown hK hW kd_30 rfl 5 (lt_b rfl) (hg (Cond.fieldLink RX1 37 "SlabWalk$Earnest" "undone" "I") m499) (fun _ h9 => h9) rfl ((gp_ne eG_5 (by decide)).trans (rfl)) dX1_doAgain_21 ?_
    refine ic_1 hx hb dX1_doAgain_24 ?_
    refine lv_isub hx hb dX1_doAgain_25 ?_
    refine lv_topi (fun y_6 ey_6 => ?_)
    have ty_6 : y_6.toInt = (G.1 30 5).toInt - 1 := xI_sub rfl rfl ey_6 (by omega) (by omega)
    refine S_putI (ty := .int) (C := RX1) (T := TX1) (N := 6) hx hb hg iX1 tyX1 tyX1_ok nmX1 hown hK hW hS kd_30 rfl 5 (lt_b rfl) (hg (Cond.fieldLink RX1 37 "SlabWalk$Earnest" "undone" "I") m499) (fun _ h9 => h9) rfl (by decide +kernel) rfl rfl rfl dX1_doAgain_26 (fun G_7 H locs eG_7 hW hS => ?_)
    have hB_G_7 : Bd G_7 := hB_G_5.put (V := y_6.toInt) (lo := 0) (hi := 40) eG_7 rfl rfl rfl (by omega) (by omega) (hB_G_5.2.put eG_7 rfl)
    have hF := hF.put eG_7 (Or.inr (by decide))
    refine lv_aload_n hx hb dX1_doAgain_29 rfl (lv_at hl 0 rfl) ?_
    refine S_getR (n := 59) (C := RX1) (T := TX1) (N := 6) hx hb hg iX1 hown hK hW kd_30 rfl 1 (lt_b rfl) (hg (Cond.fieldLink RX1 15 "SlabWalk$Earnest" "kept" "[I") m494) (fun _ h9 => h9) rfl dX1_doAgain_30 ?_
    refine lv_aload_n hx hb dX1_doAgain_33 rfl (lv_at hl 0 rfl) ?_
    refine S_getI (v := y_4) (C := RX1) (T := TX1) (N := 6) hx hb hg iX1 hown hK hW kd_30 rfl 4 (lt_b rfl) (hg (Cond.fieldLink RX1 34 "SlabWalk$Earnest" "done" "I") m497) (fun _ h9 => h9) rfl ((gp_ne eG_7 (by decide)).trans (gp_eq eG_5)) dX1_doAgain_34 ?_
    refine lv_bipush (v := 10) hx hb dX1_doAgain_37 (by decide) ?_
    refine lv_imul hx hb dX1_doAgain_39 ?_
    refine lv_topi (fun y_8 ey_8 => ?_)
    have ty_8 : y_8.toInt = y_4.toInt * 10 := xI_mul rfl rfl ey_8 (by omega) (by omega)
    refine lv_aload_n hx hb dX1_doAgain_40 rfl (lv_at hl 0 rfl) ?_
    refine S_getR (n := 58) (C := RX1) (T := TX1) (N := 6) hx hb hg iX1 hown hK hW kd_30 rfl 0 (lt_b rfl) (hg (Cond.fieldLink RX1 11 "SlabWalk$Earnest" "now" "[I") m492) (fun _ h9 => h9) rfl dX1_doAgain_41 ?_
    refine ic_0 hx hb dX1_doAgain_44 ?_
    refine lv_bipush (v := 10) hx hb dX1_doAgain_45 (by decide) ?_
    have qc_10 : (0 : Int32).toInt = 0 := rfl
    have qc_11 : (10 : Int32).toInt = 10 := rfl
    refine S_copy hx hb (by rw [hml]; exact hl.1.symm) hown (hg (Cond.methodLink RX1 40 arraycopyName) m567) (hg (Cond.native arraycopyName) m569) (hg (Cond.static arraycopyName) m568) (hg (Cond.initialized "java/lang/System") m130) hK hW hS kd_59 kd_58 (by omega) (by decide) (by decide) (by omega) (by decide) (Nat.le_of_ble_eq_true rfl) (by decide +kernel) dX1_doAgain_47 (fun G_9 H locs eG_9 hW hS => ?_)
    have hB_G_9 : Bd G_9 := hB_G_7.rowp eG_9 (fun _ => ⟨(tI_rng _).1, (tI_rng _).2⟩) (hB_G_7.2.row eG_9 (fun _ => rfl))
    have hF := hF.row eG_9 (by decide)
    refine ic_1 hx hb dX1_doAgain_50 ?_
    have g_12 : (G_9.1 30 4).toInt = y_4.toInt := (congrArg Int32.toInt (show G_9.1 30 4 = y_4 from ((gp_row eG_9 (by decide)).trans ((gp_ne eG_7 (by decide)).trans (gp_eq eG_5)))))
    have g_13 : (G_9.1 30 5).toInt = y_6.toInt := (congrArg Int32.toInt (show G_9.1 30 5 = y_6 from ((gp_row eG_9 (by decide)).trans (gp_eq eG_7))))
    exact W.zret (v := 1) hx hb hr (by decide) (fun t ht _ => ⟨⟨1, G_9, rfl, (P_eAgain_mk ⟨hB_G_9, hF, ⟨by decide, by decide⟩, (by have hq : (1 : Int32).toInt = 1 := rfl; (try dsimp only); omega), (Or.inl ⟨c_2, ⟨y_4, ty_4, ⟨y_6, ty_6, ⟨y_8, ty_8, ⟨rfl, (Fr.row (rs := [58]) (fs := [(30, 4), (30, 5)]) (Fr.put (rs := [58]) (fs := [(30, 4), (30, 5)]) (Fr.put (rs := [58]) (fs := [(30, 4), (30, 5)]) Fr.rf eG_5 (Or.inr (by decide))) eG_7 (Or.inr (by decide))) eG_9 (by decide)), ((gp_row eG_9 (by decide)).trans ((gp_ne eG_7 (by decide)).trans (gp_eq eG_5))), ((gp_row eG_9 (by decide)).trans (gp_eq eG_7)), (rw_row eG_9).trans (by rw [show G_7.1 59 = (G.1 59) from (rw_put eG_7 (by decide)).trans (rw_put eG_5 (by decide)), show G_7.1 58 = (G.1 58) from (rw_put eG_7 (by decide)).trans (rw_put eG_5 (by decide))])⟩⟩⟩⟩⟩)⟩), wd_t ht hW⟩, hS.F ht⟩) hS.2.2 dX1_doAgain_51
  · have c_2 : (G.1 30 5).toInt ≤ 0 := xI_nlt rfl rfl c_2
    refine ic_0 hx hb dX1_doAgain_7 ?_
    have b_14 : 0 ≤ (G.1 30 4).toInt ∧ (G.1 30 4).toInt ≤ 40 := bd_30_4 hB_G
    exact W.zret (v := 0) hx hb hr (by decide) (fun t ht _ => ⟨⟨0, G, rfl, (P_eAgain_mk ⟨hB_G, hF, ⟨by decide, by decide⟩, (by have hq : (0 : Int32).toInt = 0 := rfl; (try dsimp only); omega), (Or.inr ⟨c_2, ⟨rfl, rfl⟩⟩)⟩), wd_t ht hW⟩, hS.F ht⟩) hS.2.2 dX1_doAgain_8

set_option maxHeartbeats 4000000 in
set_option maxRecDepth 100000 in
theorem k_eIn (l : Launch) (D : va_G) (k : KT) (A : Nat → Prop) (a : Nat → Nat) (z : SK) (G : GS) (p0 : Int32) (he : (G.1 30 4).toInt + (G.1 30 5).toInt ≤ 40) : Met l yX1_keepIn (WS yX1_keepIn cX1_keepIn 2 (some .boolean)) ({ frames := 1, cells := 0, slots := 0, locals := 40 }) (va_Pc [.ref (a 30), .int p0] (cW D k A a z G)) (va_Qi (fun (r : Int32) (G1 : GS) => P_eIn p0 G r G1) (fun (G1 : GS) t => Wd D k A a G1 t.heap) A) 0 0 A := by
  refine Met.ofW (cc := cX1_keepIn) (maxL := 2) (ret := (some .boolean)) (by decide) rfl ?_
  intro p e s m args below meth c s₁ B hml hv
  obtain ⟨rfl, hW, hB_G, hK, hZ⟩ := hv
  have hx := B.exec
  have hb := B.bytes
  have hr := B.returns
  have hts := atoms_spec (ws := WS yX1_keepIn cX1_keepIn 2 (some .boolean)) B.pre
  have hgd : ∀ w ∈ gd, w ∈ WS yX1_keepIn cX1_keepIn 2 (some .boolean) := fun w h => List.mem_cons_of_mem _ h
  have hg : ∀ w ∈ gd, w.before _ s = true := fun w h => hts w (hgd w h)
  have hown : s.vm.findClass RX1 = some m.cls := findClass_of_methodNamed B.named
  have hS : va_S A s.heap s.heap [] := va_S.rf
  have hF : Fr [60] [(30, 3)] G G := Fr.rf
  have hl := lv_entry ([.ref (a 30), .int p0]) (n := 2) (Nat.le_of_ble_eq_true rfl)
  rw [lg_entry_eq]
  generalize (lg_sl ([.ref (a 30), .int p0]) ++ List.replicate (2 - (lg_sl ([.ref (a 30), .int p0])).length) Slot.unset).toArray = ls at hl ⊢
  have hl : lv_has ls 2 [(0, .ref (a 30)), (1, .int p0)] := hl
  refine lv_iload_n hx hb dX1_keepIn_0 rfl (lv_at hl 1 rfl) ?_
  refine lv_if_lt (tgt := 9) hx hb dX1_keepIn_1 rfl (fun c_1 => ?_) (fun c_1 => ?_)
  · have c_1 : p0.toInt < 0 := xI_lt rfl rfl c_1
    refine ic_0 hx hb dX1_keepIn_9 ?_
    have b_2 : 0 ≤ (G.1 30 4).toInt ∧ (G.1 30 4).toInt ≤ 40 := bd_30_4 hB_G
    have b_3 : 0 ≤ (G.1 30 5).toInt ∧ (G.1 30 5).toInt ≤ 40 := bd_30_5 hB_G
    exact W.zret (v := 0) hx hb hr (by decide) (fun t ht _ => ⟨⟨0, G, rfl, (P_eIn_mk ⟨hB_G, hF, ⟨by decide, by decide⟩, (by have hq : (0 : Int32).toInt = 0 := rfl; (try dsimp only); omega), (Or.inl ⟨c_1, ⟨rfl, rfl⟩⟩)⟩), wd_t ht hW⟩, hS.F ht⟩) hS.2.2 dX1_keepIn_10
  · have c_1 : 0 ≤ p0.toInt := xI_nlt rfl rfl c_1
    refine lv_iload_n hx hb dX1_keepIn_4 rfl (lv_at hl 1 rfl) ?_
    refine ic_3 hx hb dX1_keepIn_5 ?_
    refine lv_icmp_lt (tgt := 11) hx hb dX1_keepIn_6 rfl (fun c_4 => ?_) (fun c_4 => ?_)
    · have c_4 : p0.toInt < 3 := xI_lt rfl rfl c_4
      refine lv_aload_n hx hb dX1_keepIn_11 rfl (lv_at hl 0 rfl) ?_
      refine S_getR (n := 58) (C := RX1) (T := TX1) (N := 6) hx hb hg iX1 hown hK hW kd_30 rfl 0 (lt_b rfl) (hg (Cond.fieldLink RX1 11 "SlabWalk$Earnest" "now" "[I") m492) (fun _ h9 => h9) rfl dX1_keepIn_12 ?_
      refine ic_0 hx hb dX1_keepIn_15 ?_
      refine lv_aload_n hx hb dX1_keepIn_16 rfl (lv_at hl 0 rfl) ?_
      refine S_getR (n := 60) (C := RX1) (T := TX1) (N := 6) hx hb hg iX1 hown hK hW kd_30 rfl 2 (lt_b rfl) (hg (Cond.fieldLink RX1 18 "SlabWalk$Earnest" "boxes" "[I") m495) (fun _ h9 => h9) rfl dX1_keepIn_17 ?_
      refine lv_iload_n hx hb dX1_keepIn_20 rfl (lv_at hl 1 rfl) ?_
      refine lv_bipush (v := 10) hx hb dX1_keepIn_21 (by decide) ?_
      refine lv_imul hx hb dX1_keepIn_23 ?_
      refine lv_topi (fun y_5 ey_5 => ?_)
      have ty_5 : y_5.toInt = p0.toInt * 10 := xI_mul rfl rfl ey_5 (by omega) (by omega)
      refine lv_bipush (v := 10) hx hb dX1_keepIn_24 (by decide) ?_
      have qc_7 : (0 : Int32).toInt = 0 := rfl
      have qc_8 : (10 : Int32).toInt = 10 := rfl
      refine S_copy hx hb (by rw [hml]; exact hl.1.symm) hown (hg (Cond.methodLink RX1 40 arraycopyName) m567) (hg (Cond.native arraycopyName) m569) (hg (Cond.static arraycopyName) m568) (hg (Cond.initialized "java/lang/System") m130) hK hW hS kd_58 kd_60 (by decide) (by omega) (by decide) (by decide) (by omega) (Nat.le_of_ble_eq_true rfl) (by decide +kernel) dX1_keepIn_26 (fun G_6 H locs eG_6 hW hS => ?_)
      have hB_G_6 : Bd G_6 := hB_G.rowp eG_6 (fun _ => ⟨(tI_rng _).1, (tI_rng _).2⟩) (hB_G.2.row eG_6 (fun _ => rfl))
      have hF := hF.row eG_6 (by decide)
      refine lv_aload_n hx hb dX1_keepIn_29 rfl (lv_at hl 0 rfl) ?_
      refine lv_dup hx hb dX1_keepIn_30 rfl ?_
      refine S_getI (v := (G.1 30 3)) (C := RX1) (T := TX1) (N := 6) hx hb hg iX1 hown hK hW kd_30 rfl 3 (lt_b rfl) (hg (Cond.fieldLink RX1 27 "SlabWalk$Earnest" "full" "I") m496) (fun _ h9 => h9) rfl (gp_row eG_6 (by decide)) dX1_keepIn_31 ?_
      refine ic_1 hx hb dX1_keepIn_34 ?_
      refine lv_iload_n hx hb dX1_keepIn_35 rfl (lv_at hl 1 rfl) ?_
      refine lv_ishl hx hb dX1_keepIn_36 ?_
      refine lv_topi (fun y_9 ey_9 => ?_)
      have ty_9 := sh5 (Y := p0.toInt) rfl ey_9 rfl (by omega) (by omega)
      refine lv_ior hx hb dX1_keepIn_37 ?_
      refine lv_topi (fun y_10 ey_10 => ?_)
      refine S_putI (ty := .int) (C := RX1) (T := TX1) (N := 6) hx hb hg iX1 tyX1 tyX1_ok nmX1 hown hK hW hS kd_30 rfl 3 (lt_b rfl) (hg (Cond.fieldLink RX1 27 "SlabWalk$Earnest" "full" "I") m496) (fun _ h9 => h9) rfl (by decide +kernel) rfl rfl rfl dX1_keepIn_38 (fun G_11 H locs eG_11 hW hS => ?_)
      have hB_G_11 : Bd G_11 := hB_G_6.put (lo := (-2147483648)) (hi := 2147483647) eG_11 rfl rfl rfl (tI_rng _).1 (tI_rng _).2 (hB_G_6.2.put eG_11 rfl)
      have hF := hF.put eG_11 (Or.inr (by decide))
      refine ic_1 hx hb dX1_keepIn_41 ?_
      have b_12 : 0 ≤ (G.1 30 4).toInt ∧ (G.1 30 4).toInt ≤ 40 := bd_30_4 hB_G
      have g_13 : (G_11.1 30 4).toInt = (G.1 30 4).toInt := (congrArg Int32.toInt (show G_11.1 30 4 = (G.1 30 4) from ((gp_ne eG_11 (by decide)).trans (gp_row eG_6 (by decide)))))
      have b_14 : 0 ≤ (G.1 30 5).toInt ∧ (G.1 30 5).toInt ≤ 40 := bd_30_5 hB_G
      have g_15 : (G_11.1 30 5).toInt = (G.1 30 5).toInt := (congrArg Int32.toInt (show G_11.1 30 5 = (G.1 30 5) from ((gp_ne eG_11 (by decide)).trans (gp_row eG_6 (by decide)))))
      exact W.zret (v := 1) hx hb hr (by decide) (fun t ht _ => ⟨⟨1, G_11, rfl, (P_eIn_mk ⟨hB_G_11, hF, ⟨by decide, by decide⟩, (by have hq : (1 : Int32).toInt = 1 := rfl; (try dsimp only); omega), (Or.inr ⟨c_1, (Or.inl ⟨c_4, ⟨y_5, ty_5, ⟨y_9, ey_9, ⟨y_10, ey_10, ⟨rfl, (Fr.put (rs := [60]) (fs := [(30, 3)]) (Fr.row (rs := [60]) (fs := [(30, 3)]) Fr.rf eG_6 (by decide)) eG_11 (Or.inr (by decide))), (gp_eq eG_11), (rw_put eG_11 (by decide)).trans (rw_row eG_6)⟩⟩⟩⟩⟩)⟩)⟩), wd_t ht hW⟩, hS.F ht⟩) hS.2.2 dX1_keepIn_42
    · have c_4 : 3 ≤ p0.toInt := xI_nlt rfl rfl c_4
      refine ic_0 hx hb dX1_keepIn_9 ?_
      have b_16 : 0 ≤ (G.1 30 4).toInt ∧ (G.1 30 4).toInt ≤ 40 := bd_30_4 hB_G
      have b_17 : 0 ≤ (G.1 30 5).toInt ∧ (G.1 30 5).toInt ≤ 40 := bd_30_5 hB_G
      exact W.zret (v := 0) hx hb hr (by decide) (fun t ht _ => ⟨⟨0, G, rfl, (P_eIn_mk ⟨hB_G, hF, ⟨by decide, by decide⟩, (by have hq : (0 : Int32).toInt = 0 := rfl; (try dsimp only); omega), (Or.inr ⟨c_1, (Or.inr ⟨c_4, ⟨rfl, rfl⟩⟩)⟩)⟩), wd_t ht hW⟩, hS.F ht⟩) hS.2.2 dX1_keepIn_10

set_option maxHeartbeats 4000000 in
set_option maxRecDepth 100000 in
theorem k_eFrom (l : Launch) (D : va_G) (k : KT) (A : Nat → Prop) (a : Nat → Nat) (z : SK) (G : GS) (p0 : Int32) (he : (G.1 30 4).toInt + (G.1 30 5).toInt ≤ 40) : Met l yX1_bringFrom (WS yX1_bringFrom cX1_bringFrom 2 (some .boolean)) ({ frames := 2, cells := 0, slots := 0, locals := 60 }) (va_Pc [.ref (a 30), .int p0] (cW D k A a z G)) (va_Qi (fun (r : Int32) (G1 : GS) => P_eFrom p0 G r G1) (fun (G1 : GS) t => Wd D k A a G1 t.heap) A) 0 0 A := by
  refine Met.ofW (cc := cX1_bringFrom) (maxL := 2) (ret := (some .boolean)) (by decide) rfl ?_
  intro p e s m args below meth c s₁ B hml hv
  obtain ⟨rfl, hW, hB_G, hK, hZ⟩ := hv
  have hx := B.exec
  have hb := B.bytes
  have hr := B.returns
  have hts := atoms_spec (ws := WS yX1_bringFrom cX1_bringFrom 2 (some .boolean)) B.pre
  have hgd : ∀ w ∈ gd, w ∈ WS yX1_bringFrom cX1_bringFrom 2 (some .boolean) := fun w h => List.mem_cons_of_mem _ h
  have hg : ∀ w ∈ gd, w.before _ s = true := fun w h => hts w (hgd w h)
  have hown : s.vm.findClass RX1 = some m.cls := findClass_of_methodNamed B.named
  have hS : va_S A s.heap s.heap [] := va_S.rf
  have hF : Fr [58, 59] [(30, 4), (30, 5)] G G := Fr.rf
  have hl := lv_entry ([.ref (a 30), .int p0]) (n := 2) (Nat.le_of_ble_eq_true rfl)
  rw [lg_entry_eq]
  generalize (lg_sl ([.ref (a 30), .int p0]) ++ List.replicate (2 - (lg_sl ([.ref (a 30), .int p0])).length) Slot.unset).toArray = ls at hl ⊢
  have hl : lv_has ls 2 [(0, .ref (a 30)), (1, .int p0)] := hl
  refine lv_iload_n hx hb dX1_bringFrom_0 rfl (lv_at hl 1 rfl) ?_
  refine lv_if_lt (tgt := 20) hx hb dX1_bringFrom_1 rfl (fun c_1 => ?_) (fun c_1 => ?_)
  · have c_1 : p0.toInt < 0 := xI_lt rfl rfl c_1
    refine ic_0 hx hb dX1_bringFrom_20 ?_
    have b_2 : 0 ≤ (G.1 30 4).toInt ∧ (G.1 30 4).toInt ≤ 40 := bd_30_4 hB_G
    have b_3 : 0 ≤ (G.1 30 5).toInt ∧ (G.1 30 5).toInt ≤ 40 := bd_30_5 hB_G
    exact W.zret (v := 0) hx hb hr (by decide) (fun t ht _ => ⟨⟨0, G, rfl, (P_eFrom_mk ⟨hB_G, hF, ⟨by decide, by decide⟩, (by have hq : (0 : Int32).toInt = 0 := rfl; (try dsimp only); omega), (Or.inl ⟨c_1, ⟨rfl, rfl⟩⟩)⟩), wd_t ht hW⟩, hS.F ht⟩) hS.2.2 dX1_bringFrom_21
  · have c_1 : 0 ≤ p0.toInt := xI_nlt rfl rfl c_1
    refine lv_iload_n hx hb dX1_bringFrom_4 rfl (lv_at hl 1 rfl) ?_
    refine ic_3 hx hb dX1_bringFrom_5 ?_
    refine lv_icmp_ge (tgt := 20) hx hb dX1_bringFrom_6 rfl (fun c_4 => ?_) (fun c_4 => ?_)
    · have c_4 : 3 ≤ p0.toInt := xI_le rfl rfl c_4
      refine ic_0 hx hb dX1_bringFrom_20 ?_
      have b_5 : 0 ≤ (G.1 30 4).toInt ∧ (G.1 30 4).toInt ≤ 40 := bd_30_4 hB_G
      have b_6 : 0 ≤ (G.1 30 5).toInt ∧ (G.1 30 5).toInt ≤ 40 := bd_30_5 hB_G
      exact W.zret (v := 0) hx hb hr (by decide) (fun t ht _ => ⟨⟨0, G, rfl, (P_eFrom_mk ⟨hB_G, hF, ⟨by decide, by decide⟩, (by have hq : (0 : Int32).toInt = 0 := rfl; (try dsimp only); omega), (Or.inr ⟨c_1, (Or.inl ⟨c_4, ⟨rfl, rfl⟩⟩)⟩)⟩), wd_t ht hW⟩, hS.F ht⟩) hS.2.2 dX1_bringFrom_21
    · have c_4 : p0.toInt < 3 := xI_nle rfl rfl c_4
      refine lv_aload_n hx hb dX1_bringFrom_9 rfl (lv_at hl 0 rfl) ?_
      refine S_getI (v := (G.1 30 3)) (C := RX1) (T := TX1) (N := 6) hx hb hg iX1 hown hK hW kd_30 rfl 3 (lt_b rfl) (hg (Cond.fieldLink RX1 27 "SlabWalk$Earnest" "full" "I") m496) (fun _ h9 => h9) rfl rfl dX1_bringFrom_10 ?_
      refine lv_iload_n hx hb dX1_bringFrom_13 rfl (lv_at hl 1 rfl) ?_
      refine lv_ishr hx hb dX1_bringFrom_14 ?_
      refine lv_topi (fun y_7 ey_7 => ?_)
      refine ic_1 hx hb dX1_bringFrom_15 ?_
      refine lv_iand hx hb dX1_bringFrom_16 ?_
      refine lv_topi (fun y_8 ey_8 => ?_)
      have ty_8 := xI_and (Y := 1) rfl ey_8 (by decide)
      refine lv_if_ne (tgt := 22) hx hb dX1_bringFrom_17 rfl (fun c_9 => ?_) (fun c_9 => ?_)
      · have c_9 : y_8.toInt ≠ 0 := xI_ne rfl rfl c_9
        refine lv_aload_n hx hb dX1_bringFrom_22 rfl (lv_at hl 0 rfl) ?_
        refine S_getR (n := 60) (C := RX1) (T := TX1) (N := 6) hx hb hg iX1 hown hK hW kd_30 rfl 2 (lt_b rfl) (hg (Cond.fieldLink RX1 18 "SlabWalk$Earnest" "boxes" "[I") m495) (fun _ h9 => h9) rfl dX1_bringFrom_23 ?_
        refine lv_iload_n hx hb dX1_bringFrom_26 rfl (lv_at hl 1 rfl) ?_
        refine lv_bipush (v := 10) hx hb dX1_bringFrom_27 (by decide) ?_
        refine lv_imul hx hb dX1_bringFrom_29 ?_
        refine lv_topi (fun y_10 ey_10 => ?_)
        have ty_10 : y_10.toInt = p0.toInt * 10 := xI_mul rfl rfl ey_10 (by omega) (by omega)
        refine lv_aload_n hx hb dX1_bringFrom_30 rfl (lv_at hl 0 rfl) ?_
        refine S_getR (n := 58) (C := RX1) (T := TX1) (N := 6) hx hb hg iX1 hown hK hW kd_30 rfl 0 (lt_b rfl) (hg (Cond.fieldLink RX1 11 "SlabWalk$Earnest" "now" "[I") m492) (fun _ h9 => h9) rfl dX1_bringFrom_31 ?_
        refine ic_0 hx hb dX1_bringFrom_34 ?_
        refine lv_bipush (v := 10) hx hb dX1_bringFrom_35 (by decide) ?_
        have qc_12 : (0 : Int32).toInt = 0 := rfl
        have qc_13 : (10 : Int32).toInt = 10 := rfl
        refine S_copy hx hb (by rw [hml]; exact hl.1.symm) hown (hg (Cond.methodLink RX1 40 arraycopyName) m567) (hg (Cond.native arraycopyName) m569) (hg (Cond.static arraycopyName) m568) (hg (Cond.initialized "java/lang/System") m130) hK hW hS kd_60 kd_58 (by omega) (by decide) (by decide) (by omega) (by decide) (Nat.le_of_ble_eq_true rfl) (by decide +kernel) dX1_bringFrom_37 (fun G_11 H locs eG_11 hW hS => ?_)
        have hB_G_11 : Bd G_11 := hB_G.rowp eG_11 (fun _ => ⟨(tI_rng _).1, (tI_rng _).2⟩) (hB_G.2.row eG_11 (fun _ => rfl))
        have hF := hF.row eG_11 (by decide)
        refine lv_aload_n hx hb dX1_bringFrom_40 rfl (lv_at hl 0 rfl) ?_
        refine S_callv (va_runV (As := []) (rest := []) ⟨hx, hb, hml, hown, hts⟩ (k_eForget l D k A a z G_11  ) (cwV 0 hts (gd_V hgd m563 m565 m1 m127 m566) rfl rfl rfl hd_X1_forgetActs ⟨Nat.le_of_ble_eq_true rfl, Nat.le_of_ble_eq_true rfl⟩) (pre_W hW hB_G_11 hK hZ hS kd_30 rfl) rfl rfl hl.1 rfl (lv_room (Nat.le_of_ble_eq_true rfl)) dX1_bringFrom_41 ⟨Nat.le_of_ble_eq_true rfl, Nat.le_of_ble_eq_true rfl⟩) hS (fun G_15 H locs hpo hW hS => ?_)
        have hX_18 : P_eForget G_11 G_15 := hpo
        obtain ⟨hB_G_15, hq_16, hp_17, -⟩ := hpo
        have hF := hF.call9 hq_16 rfl rfl
        refine ic_1 hx hb dX1_bringFrom_44 ?_
        have b_19 : 0 ≤ (G_15.1 30 4).toInt ∧ (G_15.1 30 4).toInt ≤ 40 := bd_30_4 hB_G_15
        have b_20 : 0 ≤ (G_15.1 30 5).toInt ∧ (G_15.1 30 5).toInt ≤ 40 := bd_30_5 hB_G_15
        exact W.zret (v := 1) hx hb hr (by decide) (fun t ht _ => ⟨⟨1, G_15, rfl, (P_eFrom_mk ⟨hB_G_15, hF, ⟨by decide, by decide⟩, (by have hq : (1 : Int32).toInt = 1 := rfl; (try dsimp only); omega), (Or.inr ⟨c_1, (Or.inr ⟨c_4, ⟨y_7, ey_7, ⟨y_8, ey_8, (Or.inr ⟨c_9, ⟨y_10, ty_10, ⟨G_11, hB_G_11, (Fr.row (rs := [58]) (fs := []) Fr.rf eG_11 (by decide)), rw_row eG_11, ⟨G_15, hX_18, ⟨rfl, rfl⟩⟩⟩⟩⟩)⟩⟩⟩)⟩)⟩), wd_t ht hW⟩, hS.F ht⟩) hS.2.2 dX1_bringFrom_45
      · have c_9 : y_8.toInt = 0 := xI_eq rfl rfl c_9
        refine ic_0 hx hb dX1_bringFrom_20 ?_
        have b_21 : 0 ≤ (G.1 30 4).toInt ∧ (G.1 30 4).toInt ≤ 40 := bd_30_4 hB_G
        have b_22 : 0 ≤ (G.1 30 5).toInt ∧ (G.1 30 5).toInt ≤ 40 := bd_30_5 hB_G
        exact W.zret (v := 0) hx hb hr (by decide) (fun t ht _ => ⟨⟨0, G, rfl, (P_eFrom_mk ⟨hB_G, hF, ⟨by decide, by decide⟩, (by have hq : (0 : Int32).toInt = 0 := rfl; (try dsimp only); omega), (Or.inr ⟨c_1, (Or.inr ⟨c_4, ⟨y_7, ey_7, ⟨y_8, ey_8, (Or.inl ⟨c_9, ⟨rfl, rfl⟩⟩)⟩⟩⟩)⟩)⟩), wd_t ht hW⟩, hS.F ht⟩) hS.2.2 dX1_bringFrom_21
