theorem m103 : Cond.selects RX12 yX12_layBold yX12_layBold ∈ gd := gds_7 7 rfl
theorem m104 : Cond.selects RX12 yX12_bestOdds yX12_bestOdds ∈ gd := gds_7 8 rfl
theorem m105 : Cond.selects RX12 yX12_rest yX12_rest ∈ gd := gds_7 9 rfl
theorem m107 : Cond.selects RX12 yX12_oddsBy yX12_oddsBy ∈ gd := gds_7 11 rfl
theorem m1943 : Cond.methodLink RX12 568 yX12_layBold ∈ gd := gdc_8_9 3 rfl gw_methodLink
theorem m1945 : Cond.instanceMethod yX12_layBold ∈ gd := gdc_8_9 5 rfl gw_instanceMethod
theorem m1946 : Cond.code yX12_layBold cX12_layBold 8 (some .boolean) ∈ gd := gdc_8_9 6 rfl gw_code
theorem m1947 : Cond.methodLink RX12 564 yX12_bestOdds ∈ gd := gdc_8_9 7 rfl gw_methodLink
theorem m1949 : Cond.instanceMethod yX12_bestOdds ∈ gd := gdc_8_9 9 rfl gw_instanceMethod
theorem m1950 : Cond.code yX12_bestOdds cX12_bestOdds 8 (some .long) ∈ gd := gdc_8_9 10 rfl gw_code
theorem m1951 : Cond.methodLink RX12 556 yX12_rest ∈ gd := gdc_8_9 11 rfl gw_methodLink
theorem m1953 : Cond.instanceMethod yX12_rest ∈ gd := gdc_8_9 13 rfl gw_instanceMethod
theorem m1954 : Cond.code yX12_rest cX12_rest 5 (some .long) ∈ gd := gdc_8_9 14 rfl gw_code
theorem m1959 : Cond.methodLink RX12 560 yX12_oddsBy ∈ gd := gdc_8_10 3 rfl gw_methodLink
theorem m1961 : Cond.instanceMethod yX12_oddsBy ∈ gd := gdc_8_10 5 rfl gw_instanceMethod
theorem m1962 : Cond.code yX12_oddsBy cX12_oddsBy 10 (some .long) ∈ gd := gdc_8_10 6 rfl gw_code
def rbX12_bestOdds_0 : List (Nat × List Nat) := [(0, [9]), (1, [66]), (2, [42]), (3, [180, 1, 219]), (6, [54, 5]), (8, [21, 5]), (10, [42]), (11, [180, 1, 222]), (14, [163, 0, 40]), (17, [42]), (18, [27]), (19, [21, 5]), (21, [28]), (22, [42]), (23, [28]), (24, [4]), (25, [100]), (26, [182, 2, 44]), (29, [182, 2, 48]), (32, [55, 6]), (34, [22, 6]), (36, [33]), (37, [148]), (38, [158, 0, 8])]
theorem rcX12_bestOdds_0 : dgo (lb cX12_bestOdds) 0 rbX12_bestOdds_0 = true := by decide +kernel
theorem dX12_bestOdds_0 : decode cX12_bestOdds 0 = .ok (.lconst 0, 1) := dk_9 (dw rcX12_bestOdds_0 0 rfl)
theorem dX12_bestOdds_1 : decode cX12_bestOdds 1 = .ok (.lstore_n 3, 1) := dk_66 (dw rcX12_bestOdds_0 1 rfl)
theorem dX12_bestOdds_2 : decode cX12_bestOdds 2 = .ok (.aload_n 0, 1) := dk_42 (dw rcX12_bestOdds_0 2 rfl)
theorem dX12_bestOdds_3 : decode cX12_bestOdds 3 = .ok (.getfield 475, 3) := dk_180 (dw rcX12_bestOdds_0 3 rfl) rfl
theorem dX12_bestOdds_6 : decode cX12_bestOdds 6 = .ok (.istore 5, 2) := dk_54 (dw rcX12_bestOdds_0 4 rfl)
theorem dX12_bestOdds_8 : decode cX12_bestOdds 8 = .ok (.iload 5, 2) := dk_21 (dw rcX12_bestOdds_0 5 rfl)
theorem dX12_bestOdds_10 : decode cX12_bestOdds 10 = .ok (.aload_n 0, 1) := dk_42 (dw rcX12_bestOdds_0 6 rfl)
theorem dX12_bestOdds_11 : decode cX12_bestOdds 11 = .ok (.getfield 478, 3) := dk_180 (dw rcX12_bestOdds_0 7 rfl) rfl
theorem dX12_bestOdds_14 : decode cX12_bestOdds 14 = .ok (.if_icmp .gt 40, 3) := dk_163 (dw rcX12_bestOdds_0 8 rfl) rfl
theorem dX12_bestOdds_17 : decode cX12_bestOdds 17 = .ok (.aload_n 0, 1) := dk_42 (dw rcX12_bestOdds_0 9 rfl)
theorem dX12_bestOdds_18 : decode cX12_bestOdds 18 = .ok (.iload_n 1, 1) := dk_27 (dw rcX12_bestOdds_0 10 rfl)
theorem dX12_bestOdds_19 : decode cX12_bestOdds 19 = .ok (.iload 5, 2) := dk_21 (dw rcX12_bestOdds_0 11 rfl)
theorem dX12_bestOdds_21 : decode cX12_bestOdds 21 = .ok (.iload_n 2, 1) := dk_28 (dw rcX12_bestOdds_0 12 rfl)
theorem dX12_bestOdds_22 : decode cX12_bestOdds 22 = .ok (.aload_n 0, 1) := dk_42 (dw rcX12_bestOdds_0 13 rfl)
theorem dX12_bestOdds_23 : decode cX12_bestOdds 23 = .ok (.iload_n 2, 1) := dk_28 (dw rcX12_bestOdds_0 14 rfl)
theorem dX12_bestOdds_24 : decode cX12_bestOdds 24 = .ok (.iconst 1, 1) := dk_4 (dw rcX12_bestOdds_0 15 rfl)
theorem dX12_bestOdds_25 : decode cX12_bestOdds 25 = .ok (.isub, 1) := dk_100 (dw rcX12_bestOdds_0 16 rfl)
theorem dX12_bestOdds_26 : decode cX12_bestOdds 26 = .ok (.invokevirtual 556, 3) := dk_182 (dw rcX12_bestOdds_0 17 rfl) rfl
theorem dX12_bestOdds_29 : decode cX12_bestOdds 29 = .ok (.invokevirtual 560, 3) := dk_182 (dw rcX12_bestOdds_0 18 rfl) rfl
theorem dX12_bestOdds_32 : decode cX12_bestOdds 32 = .ok (.lstore 6, 2) := dk_55 (dw rcX12_bestOdds_0 19 rfl)
theorem dX12_bestOdds_34 : decode cX12_bestOdds 34 = .ok (.lload 6, 2) := dk_22 (dw rcX12_bestOdds_0 20 rfl)
theorem dX12_bestOdds_36 : decode cX12_bestOdds 36 = .ok (.lload_n 3, 1) := dk_33 (dw rcX12_bestOdds_0 21 rfl)
theorem dX12_bestOdds_37 : decode cX12_bestOdds 37 = .ok (.lcmp, 1) := dk_148 (dw rcX12_bestOdds_0 22 rfl)
theorem dX12_bestOdds_38 : decode cX12_bestOdds 38 = .ok (.ifCond .le 8, 3) := dk_158 (dw rcX12_bestOdds_0 23 rfl) rfl
def rbX12_bestOdds_41 : List (Nat × List Nat) := [(41, [22, 6]), (43, [167, 0, 4]), (46, [33]), (47, [66]), (48, [132, 5, 1]), (51, [167, 255, 213]), (54, [33]), (55, [173])]
theorem rcX12_bestOdds_41 : dgo (lb cX12_bestOdds) 0 rbX12_bestOdds_41 = true := by decide +kernel
theorem dX12_bestOdds_41 : decode cX12_bestOdds 41 = .ok (.lload 6, 2) := dk_22 (dw rcX12_bestOdds_41 0 rfl)
theorem dX12_bestOdds_43 : decode cX12_bestOdds 43 = .ok (.goto 4, 3) := dk_167 (dw rcX12_bestOdds_41 1 rfl) rfl
theorem dX12_bestOdds_46 : decode cX12_bestOdds 46 = .ok (.lload_n 3, 1) := dk_33 (dw rcX12_bestOdds_41 2 rfl)
theorem dX12_bestOdds_47 : decode cX12_bestOdds 47 = .ok (.lstore_n 3, 1) := dk_66 (dw rcX12_bestOdds_41 3 rfl)
theorem dX12_bestOdds_48 : decode cX12_bestOdds 48 = .ok (.iinc 5 1, 3) := dk_132 (dw rcX12_bestOdds_41 4 rfl) rfl
theorem dX12_bestOdds_51 : decode cX12_bestOdds 51 = .ok (.goto (-43), 3) := dk_167 (dw rcX12_bestOdds_41 5 rfl) rfl
theorem dX12_bestOdds_54 : decode cX12_bestOdds 54 = .ok (.lload_n 3, 1) := dk_33 (dw rcX12_bestOdds_41 6 rfl)
theorem dX12_bestOdds_55 : decode cX12_bestOdds 55 = .ok (.lreturn, 1) := dk_173 (dw rcX12_bestOdds_41 7 rfl)
def rbX12_boldest_0 : List (Nat × List Nat) := [(0, [42]), (1, [27]), (2, [28]), (3, [29]), (4, [21, 4]), (6, [21, 5]), (8, [182, 2, 56]), (11, [154, 0, 5]), (14, [2]), (15, [172]), (16, [42]), (17, [21, 4]), (19, [21, 5]), (21, [182, 2, 52]), (24, [55, 6]), (26, [42]), (27, [180, 1, 219]), (30, [54, 8]), (32, [42]), (33, [21, 4]), (35, [21, 8]), (37, [21, 5]), (39, [42]), (40, [21, 5])]
theorem rcX12_boldest_0 : dgo (lb cX12_boldest) 0 rbX12_boldest_0 = true := by decide +kernel
theorem dX12_boldest_0 : decode cX12_boldest 0 = .ok (.aload_n 0, 1) := dk_42 (dw rcX12_boldest_0 0 rfl)
theorem dX12_boldest_1 : decode cX12_boldest 1 = .ok (.iload_n 1, 1) := dk_27 (dw rcX12_boldest_0 1 rfl)
theorem dX12_boldest_2 : decode cX12_boldest 2 = .ok (.iload_n 2, 1) := dk_28 (dw rcX12_boldest_0 2 rfl)
theorem dX12_boldest_3 : decode cX12_boldest 3 = .ok (.iload_n 3, 1) := dk_29 (dw rcX12_boldest_0 3 rfl)
theorem dX12_boldest_4 : decode cX12_boldest 4 = .ok (.iload 4, 2) := dk_21 (dw rcX12_boldest_0 4 rfl)
theorem dX12_boldest_6 : decode cX12_boldest 6 = .ok (.iload 5, 2) := dk_21 (dw rcX12_boldest_0 5 rfl)
theorem dX12_boldest_8 : decode cX12_boldest 8 = .ok (.invokevirtual 568, 3) := dk_182 (dw rcX12_boldest_0 6 rfl) rfl
theorem dX12_boldest_11 : decode cX12_boldest 11 = .ok (.ifCond .ne 5, 3) := dk_154 (dw rcX12_boldest_0 7 rfl) rfl
theorem dX12_boldest_14 : decode cX12_boldest 14 = .ok (.iconst (-1), 1) := dk_2 (dw rcX12_boldest_0 8 rfl)
theorem dX12_boldest_15 : decode cX12_boldest 15 = .ok (.ireturn, 1) := dk_172 (dw rcX12_boldest_0 9 rfl)
theorem dX12_boldest_16 : decode cX12_boldest 16 = .ok (.aload_n 0, 1) := dk_42 (dw rcX12_boldest_0 10 rfl)
theorem dX12_boldest_17 : decode cX12_boldest 17 = .ok (.iload 4, 2) := dk_21 (dw rcX12_boldest_0 11 rfl)
theorem dX12_boldest_19 : decode cX12_boldest 19 = .ok (.iload 5, 2) := dk_21 (dw rcX12_boldest_0 12 rfl)
theorem dX12_boldest_21 : decode cX12_boldest 21 = .ok (.invokevirtual 564, 3) := dk_182 (dw rcX12_boldest_0 13 rfl) rfl
theorem dX12_boldest_24 : decode cX12_boldest 24 = .ok (.lstore 6, 2) := dk_55 (dw rcX12_boldest_0 14 rfl)
theorem dX12_boldest_26 : decode cX12_boldest 26 = .ok (.aload_n 0, 1) := dk_42 (dw rcX12_boldest_0 15 rfl)
theorem dX12_boldest_27 : decode cX12_boldest 27 = .ok (.getfield 475, 3) := dk_180 (dw rcX12_boldest_0 16 rfl) rfl
theorem dX12_boldest_30 : decode cX12_boldest 30 = .ok (.istore 8, 2) := dk_54 (dw rcX12_boldest_0 17 rfl)
theorem dX12_boldest_32 : decode cX12_boldest 32 = .ok (.aload_n 0, 1) := dk_42 (dw rcX12_boldest_0 18 rfl)
theorem dX12_boldest_33 : decode cX12_boldest 33 = .ok (.iload 4, 2) := dk_21 (dw rcX12_boldest_0 19 rfl)
theorem dX12_boldest_35 : decode cX12_boldest 35 = .ok (.iload 8, 2) := dk_21 (dw rcX12_boldest_0 20 rfl)
theorem dX12_boldest_37 : decode cX12_boldest 37 = .ok (.iload 5, 2) := dk_21 (dw rcX12_boldest_0 21 rfl)
theorem dX12_boldest_39 : decode cX12_boldest 39 = .ok (.aload_n 0, 1) := dk_42 (dw rcX12_boldest_0 22 rfl)
theorem dX12_boldest_40 : decode cX12_boldest 40 = .ok (.iload 5, 2) := dk_21 (dw rcX12_boldest_0 23 rfl)
def rbX12_boldest_42 : List (Nat × List Nat) := [(42, [4]), (43, [100]), (44, [182, 2, 44]), (47, [182, 2, 48]), (50, [22, 6]), (52, [148]), (53, [153, 0, 9]), (56, [132, 8, 1]), (59, [167, 255, 229]), (62, [21, 8]), (64, [172])]
theorem rcX12_boldest_42 : dgo (lb cX12_boldest) 0 rbX12_boldest_42 = true := by decide +kernel
theorem dX12_boldest_42 : decode cX12_boldest 42 = .ok (.iconst 1, 1) := dk_4 (dw rcX12_boldest_42 0 rfl)
theorem dX12_boldest_43 : decode cX12_boldest 43 = .ok (.isub, 1) := dk_100 (dw rcX12_boldest_42 1 rfl)
theorem dX12_boldest_44 : decode cX12_boldest 44 = .ok (.invokevirtual 556, 3) := dk_182 (dw rcX12_boldest_42 2 rfl) rfl
theorem dX12_boldest_47 : decode cX12_boldest 47 = .ok (.invokevirtual 560, 3) := dk_182 (dw rcX12_boldest_42 3 rfl) rfl
theorem dX12_boldest_50 : decode cX12_boldest 50 = .ok (.lload 6, 2) := dk_22 (dw rcX12_boldest_42 4 rfl)
theorem dX12_boldest_52 : decode cX12_boldest 52 = .ok (.lcmp, 1) := dk_148 (dw rcX12_boldest_42 5 rfl)
theorem dX12_boldest_53 : decode cX12_boldest 53 = .ok (.ifCond .eq 9, 3) := dk_153 (dw rcX12_boldest_42 6 rfl) rfl
theorem dX12_boldest_56 : decode cX12_boldest 56 = .ok (.iinc 8 1, 3) := dk_132 (dw rcX12_boldest_42 7 rfl) rfl
theorem dX12_boldest_59 : decode cX12_boldest 59 = .ok (.goto (-27), 3) := dk_167 (dw rcX12_boldest_42 8 rfl) rfl
theorem dX12_boldest_62 : decode cX12_boldest 62 = .ok (.iload 8, 2) := dk_21 (dw rcX12_boldest_42 9 rfl)
theorem dX12_boldest_64 : decode cX12_boldest 64 = .ok (.ireturn, 1) := dk_172 (dw rcX12_boldest_42 10 rfl)
def rbX12_brave_0 : List (Nat × List Nat) := [(0, [42]), (1, [27]), (2, [28]), (3, [29]), (4, [21, 4]), (6, [21, 5]), (8, [182, 2, 56]), (11, [153, 0, 14]), (14, [42]), (15, [21, 4]), (17, [21, 5]), (19, [182, 2, 52]), (22, [167, 0, 6]), (25, [20, 2, 5]), (28, [173])]
theorem rcX12_brave_0 : dgo (lb cX12_brave) 0 rbX12_brave_0 = true := by decide +kernel
theorem dX12_brave_0 : decode cX12_brave 0 = .ok (.aload_n 0, 1) := dk_42 (dw rcX12_brave_0 0 rfl)
theorem dX12_brave_1 : decode cX12_brave 1 = .ok (.iload_n 1, 1) := dk_27 (dw rcX12_brave_0 1 rfl)
theorem dX12_brave_2 : decode cX12_brave 2 = .ok (.iload_n 2, 1) := dk_28 (dw rcX12_brave_0 2 rfl)
theorem dX12_brave_3 : decode cX12_brave 3 = .ok (.iload_n 3, 1) := dk_29 (dw rcX12_brave_0 3 rfl)
theorem dX12_brave_4 : decode cX12_brave 4 = .ok (.iload 4, 2) := dk_21 (dw rcX12_brave_0 4 rfl)
theorem dX12_brave_6 : decode cX12_brave 6 = .ok (.iload 5, 2) := dk_21 (dw rcX12_brave_0 5 rfl)
theorem dX12_brave_8 : decode cX12_brave 8 = .ok (.invokevirtual 568, 3) := dk_182 (dw rcX12_brave_0 6 rfl) rfl
theorem dX12_brave_11 : decode cX12_brave 11 = .ok (.ifCond .eq 14, 3) := dk_153 (dw rcX12_brave_0 7 rfl) rfl
theorem dX12_brave_14 : decode cX12_brave 14 = .ok (.aload_n 0, 1) := dk_42 (dw rcX12_brave_0 8 rfl)
theorem dX12_brave_15 : decode cX12_brave 15 = .ok (.iload 4, 2) := dk_21 (dw rcX12_brave_0 9 rfl)
theorem dX12_brave_17 : decode cX12_brave 17 = .ok (.iload 5, 2) := dk_21 (dw rcX12_brave_0 10 rfl)
theorem dX12_brave_19 : decode cX12_brave 19 = .ok (.invokevirtual 564, 3) := dk_182 (dw rcX12_brave_0 11 rfl) rfl
theorem dX12_brave_22 : decode cX12_brave 22 = .ok (.goto 6, 3) := dk_167 (dw rcX12_brave_0 12 rfl) rfl
theorem dX12_brave_25 : decode cX12_brave 25 = .ok (.ldc2_w 517, 3) := dk_20 (dw rcX12_brave_0 13 rfl) rfl
theorem dX12_brave_28 : decode cX12_brave 28 = .ok (.lreturn, 1) := dk_173 (dw rcX12_brave_0 14 rfl)
def rbX12_layBold_0 : List (Nat × List Nat) := [(0, [42]), (1, [27]), (2, [28]), (3, [29]), (4, [182, 1, 234]), (7, [153, 0, 14]), (10, [21, 5]), (12, [4]), (13, [16, 8]), (15, [184, 1, 193]), (18, [154, 0, 5]), (21, [3]), (22, [172]), (23, [42]), (24, [27]), (25, [28]), (26, [29]), (27, [182, 1, 237]), (30, [42]), (31, [21, 4]), (33, [182, 1, 228]), (36, [154, 0, 5]), (39, [3]), (40, [172])]
theorem rcX12_layBold_0 : dgo (lb cX12_layBold) 0 rbX12_layBold_0 = true := by decide +kernel
theorem dX12_layBold_0 : decode cX12_layBold 0 = .ok (.aload_n 0, 1) := dk_42 (dw rcX12_layBold_0 0 rfl)
theorem dX12_layBold_1 : decode cX12_layBold 1 = .ok (.iload_n 1, 1) := dk_27 (dw rcX12_layBold_0 1 rfl)
theorem dX12_layBold_2 : decode cX12_layBold 2 = .ok (.iload_n 2, 1) := dk_28 (dw rcX12_layBold_0 2 rfl)
theorem dX12_layBold_3 : decode cX12_layBold 3 = .ok (.iload_n 3, 1) := dk_29 (dw rcX12_layBold_0 3 rfl)
theorem dX12_layBold_4 : decode cX12_layBold 4 = .ok (.invokevirtual 490, 3) := dk_182 (dw rcX12_layBold_0 4 rfl) rfl
theorem dX12_layBold_7 : decode cX12_layBold 7 = .ok (.ifCond .eq 14, 3) := dk_153 (dw rcX12_layBold_0 5 rfl) rfl
theorem dX12_layBold_10 : decode cX12_layBold 10 = .ok (.iload 5, 2) := dk_21 (dw rcX12_layBold_0 6 rfl)
theorem dX12_layBold_12 : decode cX12_layBold 12 = .ok (.iconst 1, 1) := dk_4 (dw rcX12_layBold_0 7 rfl)
theorem dX12_layBold_13 : decode cX12_layBold 13 = .ok (.bipush 8, 2) := dk_16 (dw rcX12_layBold_0 8 rfl) rfl
theorem dX12_layBold_15 : decode cX12_layBold 15 = .ok (.invokestatic 449, 3) := dk_184 (dw rcX12_layBold_0 9 rfl) rfl
theorem dX12_layBold_18 : decode cX12_layBold 18 = .ok (.ifCond .ne 5, 3) := dk_154 (dw rcX12_layBold_0 10 rfl) rfl
theorem dX12_layBold_21 : decode cX12_layBold 21 = .ok (.iconst 0, 1) := dk_3 (dw rcX12_layBold_0 11 rfl)
theorem dX12_layBold_22 : decode cX12_layBold 22 = .ok (.ireturn, 1) := dk_172 (dw rcX12_layBold_0 12 rfl)
theorem dX12_layBold_23 : decode cX12_layBold 23 = .ok (.aload_n 0, 1) := dk_42 (dw rcX12_layBold_0 13 rfl)
theorem dX12_layBold_24 : decode cX12_layBold 24 = .ok (.iload_n 1, 1) := dk_27 (dw rcX12_layBold_0 14 rfl)
theorem dX12_layBold_25 : decode cX12_layBold 25 = .ok (.iload_n 2, 1) := dk_28 (dw rcX12_layBold_0 15 rfl)
theorem dX12_layBold_26 : decode cX12_layBold 26 = .ok (.iload_n 3, 1) := dk_29 (dw rcX12_layBold_0 16 rfl)
theorem dX12_layBold_27 : decode cX12_layBold 27 = .ok (.invokevirtual 493, 3) := dk_182 (dw rcX12_layBold_0 17 rfl) rfl
theorem dX12_layBold_30 : decode cX12_layBold 30 = .ok (.aload_n 0, 1) := dk_42 (dw rcX12_layBold_0 18 rfl)
theorem dX12_layBold_31 : decode cX12_layBold 31 = .ok (.iload 4, 2) := dk_21 (dw rcX12_layBold_0 19 rfl)
theorem dX12_layBold_33 : decode cX12_layBold 33 = .ok (.invokevirtual 484, 3) := dk_182 (dw rcX12_layBold_0 20 rfl) rfl
theorem dX12_layBold_36 : decode cX12_layBold 36 = .ok (.ifCond .ne 5, 3) := dk_154 (dw rcX12_layBold_0 21 rfl) rfl
theorem dX12_layBold_39 : decode cX12_layBold 39 = .ok (.iconst 0, 1) := dk_3 (dw rcX12_layBold_0 22 rfl)
theorem dX12_layBold_40 : decode cX12_layBold 40 = .ok (.ireturn, 1) := dk_172 (dw rcX12_layBold_0 23 rfl)
def rbX12_layBold_41 : List (Nat × List Nat) := [(41, [3]), (42, [54, 6]), (44, [21, 6]), (46, [17, 2, 0]), (49, [162, 0, 17]), (52, [42]), (53, [180, 0, 139]), (56, [21, 6]), (58, [10]), (59, [80]), (60, [132, 6, 1]), (63, [167, 255, 237]), (66, [4]), (67, [54, 6]), (69, [21, 6]), (71, [21, 5]), (73, [162, 0, 61]), (76, [3]), (77, [54, 7]), (79, [21, 7]), (81, [17, 1, 144]), (84, [162, 0, 44]), (87, [42]), (88, [180, 0, 139])]
theorem rcX12_layBold_41 : dgo (lb cX12_layBold) 0 rbX12_layBold_41 = true := by decide +kernel
theorem dX12_layBold_41 : decode cX12_layBold 41 = .ok (.iconst 0, 1) := dk_3 (dw rcX12_layBold_41 0 rfl)
theorem dX12_layBold_42 : decode cX12_layBold 42 = .ok (.istore 6, 2) := dk_54 (dw rcX12_layBold_41 1 rfl)
theorem dX12_layBold_44 : decode cX12_layBold 44 = .ok (.iload 6, 2) := dk_21 (dw rcX12_layBold_41 2 rfl)
theorem dX12_layBold_46 : decode cX12_layBold 46 = .ok (.sipush 512, 3) := dk_17 (dw rcX12_layBold_41 3 rfl) rfl
theorem dX12_layBold_49 : decode cX12_layBold 49 = .ok (.if_icmp .ge 17, 3) := dk_162 (dw rcX12_layBold_41 4 rfl) rfl
theorem dX12_layBold_52 : decode cX12_layBold 52 = .ok (.aload_n 0, 1) := dk_42 (dw rcX12_layBold_41 5 rfl)
theorem dX12_layBold_53 : decode cX12_layBold 53 = .ok (.getfield 139, 3) := dk_180 (dw rcX12_layBold_41 6 rfl) rfl
theorem dX12_layBold_56 : decode cX12_layBold 56 = .ok (.iload 6, 2) := dk_21 (dw rcX12_layBold_41 7 rfl)
theorem dX12_layBold_58 : decode cX12_layBold 58 = .ok (.lconst 1, 1) := dk_10 (dw rcX12_layBold_41 8 rfl)
theorem dX12_layBold_59 : decode cX12_layBold 59 = .ok (.lastore, 1) := dk_80 (dw rcX12_layBold_41 9 rfl)
theorem dX12_layBold_60 : decode cX12_layBold 60 = .ok (.iinc 6 1, 3) := dk_132 (dw rcX12_layBold_41 10 rfl) rfl
theorem dX12_layBold_63 : decode cX12_layBold 63 = .ok (.goto (-19), 3) := dk_167 (dw rcX12_layBold_41 11 rfl) rfl
theorem dX12_layBold_66 : decode cX12_layBold 66 = .ok (.iconst 1, 1) := dk_4 (dw rcX12_layBold_41 12 rfl)
theorem dX12_layBold_67 : decode cX12_layBold 67 = .ok (.istore 6, 2) := dk_54 (dw rcX12_layBold_41 13 rfl)
theorem dX12_layBold_69 : decode cX12_layBold 69 = .ok (.iload 6, 2) := dk_21 (dw rcX12_layBold_41 14 rfl)
theorem dX12_layBold_71 : decode cX12_layBold 71 = .ok (.iload 5, 2) := dk_21 (dw rcX12_layBold_41 15 rfl)
theorem dX12_layBold_73 : decode cX12_layBold 73 = .ok (.if_icmp .ge 61, 3) := dk_162 (dw rcX12_layBold_41 16 rfl) rfl
theorem dX12_layBold_76 : decode cX12_layBold 76 = .ok (.iconst 0, 1) := dk_3 (dw rcX12_layBold_41 17 rfl)
theorem dX12_layBold_77 : decode cX12_layBold 77 = .ok (.istore 7, 2) := dk_54 (dw rcX12_layBold_41 18 rfl)
theorem dX12_layBold_79 : decode cX12_layBold 79 = .ok (.iload 7, 2) := dk_21 (dw rcX12_layBold_41 19 rfl)
theorem dX12_layBold_81 : decode cX12_layBold 81 = .ok (.sipush 400, 3) := dk_17 (dw rcX12_layBold_41 20 rfl) rfl
theorem dX12_layBold_84 : decode cX12_layBold 84 = .ok (.if_icmp .ge 44, 3) := dk_162 (dw rcX12_layBold_41 21 rfl) rfl
theorem dX12_layBold_87 : decode cX12_layBold 87 = .ok (.aload_n 0, 1) := dk_42 (dw rcX12_layBold_41 22 rfl)
theorem dX12_layBold_88 : decode cX12_layBold 88 = .ok (.getfield 139, 3) := dk_180 (dw rcX12_layBold_41 23 rfl) rfl
def rbX12_layBold_91 : List (Nat × List Nat) := [(91, [17, 2, 0]), (94, [21, 6]), (96, [104]), (97, [21, 7]), (99, [96]), (100, [42]), (101, [21, 7]), (103, [182, 1, 228]), (106, [153, 0, 14]), (109, [42]), (110, [21, 7]), (112, [21, 6]), (114, [182, 2, 52]), (117, [167, 0, 4]), (120, [9]), (121, [80]), (122, [132, 7, 1]), (125, [167, 255, 210]), (128, [132, 6, 1]), (131, [167, 255, 194]), (134, [4]), (135, [172])]
theorem rcX12_layBold_91 : dgo (lb cX12_layBold) 0 rbX12_layBold_91 = true := by decide +kernel
theorem dX12_layBold_91 : decode cX12_layBold 91 = .ok (.sipush 512, 3) := dk_17 (dw rcX12_layBold_91 0 rfl) rfl
theorem dX12_layBold_94 : decode cX12_layBold 94 = .ok (.iload 6, 2) := dk_21 (dw rcX12_layBold_91 1 rfl)
theorem dX12_layBold_96 : decode cX12_layBold 96 = .ok (.imul, 1) := dk_104 (dw rcX12_layBold_91 2 rfl)
theorem dX12_layBold_97 : decode cX12_layBold 97 = .ok (.iload 7, 2) := dk_21 (dw rcX12_layBold_91 3 rfl)
theorem dX12_layBold_99 : decode cX12_layBold 99 = .ok (.iadd, 1) := dk_96 (dw rcX12_layBold_91 4 rfl)
theorem dX12_layBold_100 : decode cX12_layBold 100 = .ok (.aload_n 0, 1) := dk_42 (dw rcX12_layBold_91 5 rfl)
theorem dX12_layBold_101 : decode cX12_layBold 101 = .ok (.iload 7, 2) := dk_21 (dw rcX12_layBold_91 6 rfl)
theorem dX12_layBold_103 : decode cX12_layBold 103 = .ok (.invokevirtual 484, 3) := dk_182 (dw rcX12_layBold_91 7 rfl) rfl
theorem dX12_layBold_106 : decode cX12_layBold 106 = .ok (.ifCond .eq 14, 3) := dk_153 (dw rcX12_layBold_91 8 rfl) rfl
theorem dX12_layBold_109 : decode cX12_layBold 109 = .ok (.aload_n 0, 1) := dk_42 (dw rcX12_layBold_91 9 rfl)
theorem dX12_layBold_110 : decode cX12_layBold 110 = .ok (.iload 7, 2) := dk_21 (dw rcX12_layBold_91 10 rfl)
theorem dX12_layBold_112 : decode cX12_layBold 112 = .ok (.iload 6, 2) := dk_21 (dw rcX12_layBold_91 11 rfl)
theorem dX12_layBold_114 : decode cX12_layBold 114 = .ok (.invokevirtual 564, 3) := dk_182 (dw rcX12_layBold_91 12 rfl) rfl
theorem dX12_layBold_117 : decode cX12_layBold 117 = .ok (.goto 4, 3) := dk_167 (dw rcX12_layBold_91 13 rfl) rfl
theorem dX12_layBold_120 : decode cX12_layBold 120 = .ok (.lconst 0, 1) := dk_9 (dw rcX12_layBold_91 14 rfl)
theorem dX12_layBold_121 : decode cX12_layBold 121 = .ok (.lastore, 1) := dk_80 (dw rcX12_layBold_91 15 rfl)
theorem dX12_layBold_122 : decode cX12_layBold 122 = .ok (.iinc 7 1, 3) := dk_132 (dw rcX12_layBold_91 16 rfl) rfl
theorem dX12_layBold_125 : decode cX12_layBold 125 = .ok (.goto (-46), 3) := dk_167 (dw rcX12_layBold_91 17 rfl) rfl
theorem dX12_layBold_128 : decode cX12_layBold 128 = .ok (.iinc 6 1, 3) := dk_132 (dw rcX12_layBold_91 18 rfl) rfl
theorem dX12_layBold_131 : decode cX12_layBold 131 = .ok (.goto (-62), 3) := dk_167 (dw rcX12_layBold_91 19 rfl) rfl
theorem dX12_layBold_134 : decode cX12_layBold 134 = .ok (.iconst 1, 1) := dk_4 (dw rcX12_layBold_91 20 rfl)
theorem dX12_layBold_135 : decode cX12_layBold 135 = .ok (.ireturn, 1) := dk_172 (dw rcX12_layBold_91 21 rfl)
set_option maxHeartbeats 4000000 in
set_option maxRecDepth 100000 in
theorem n_bestOdds (l : Launch) (D : va_G) (k : KT) (A : Nat → Prop) (a : Nat → Nat) (z : SK) (G : GS) (p0 : Int32) (p1 : Int32) (ha_p0 : 0 ≤ p0.toInt ∧ p0.toInt ≤ 399) (ha_p1 : 1 ≤ p1.toInt ∧ p1.toInt ≤ 8) (hlm : (G.1 66 61).toInt ≤ (G.1 66 62).toInt) : Met l yX12_bestOdds (WS yX12_bestOdds cX12_bestOdds 8 (some .long)) ({ frames := 2, cells := 0, slots := 0, locals := 50 }) (va_Pc [.ref (a 66), .int p0, .int p1] (cW D k A a z G)) (va_Ql (fun (r : Int64) (G1 : GS) => Q_bestOdds p0 p1 G r G1) (fun (G1 : GS) t => Wd D k A a G1 t.heap) A) 0 0 A := by
  refine Met.ofW (cc := cX12_bestOdds) (maxL := 8) (ret := (some .long)) (by decide) rfl ?_
  intro p e s m args below meth c s₁ B hml hv
  obtain ⟨rfl, hW, hB_G, hK, hZ⟩ := hv
  have hx := B.exec
  have hb := B.bytes
  have hr := B.returns
  have hts := atoms_spec (ws := WS yX12_bestOdds cX12_bestOdds 8 (some .long)) B.pre
  have hgd : ∀ w ∈ gd, w ∈ WS yX12_bestOdds cX12_bestOdds 8 (some .long) := fun w h => List.mem_cons_of_mem _ h
  have hg : ∀ w ∈ gd, w.before _ s = true := fun w h => hts w (hgd w h)
  have hown : s.vm.findClass RX12 = some m.cls := findClass_of_methodNamed B.named
  have hS : va_S A s.heap s.heap [] := va_S.rf
  have hF : Fr [] [] G G := Fr.rf
  have hl := lv_entry ([.ref (a 66), .int p0, .int p1]) (n := 8) (Nat.le_of_ble_eq_true rfl)
  rw [lg_entry_eq]
  generalize (lg_sl ([.ref (a 66), .int p0, .int p1]) ++ List.replicate (8 - (lg_sl ([.ref (a 66), .int p0, .int p1])).length) Slot.unset).toArray = ls at hl ⊢
  have hl : lv_has ls 8 [(0, .ref (a 66)), (1, .int p0), (2, .int p1)] := hl
  refine lv_lconst (v := 0) hx hb dX12_bestOdds_0 (by decide) ?_
  refine lv_lstore_n (lv' := [(3, .long 0), (0, .ref (a 66)), (1, .int p0), (2, .int p1)]) hx hb dX12_bestOdds_1 rfl hl (lt_b rfl) rfl (fun ls hl => ?_)
  refine lv_aload_n hx hb dX12_bestOdds_2 rfl (lv_at hl 1 rfl) ?_
  have b_1 : 0 ≤ (G.1 66 61).toInt ∧ (G.1 66 61).toInt ≤ 60 := bd_66_61 hB_G
  refine S_getI (v := (G.1 66 61)) (C := RX12) (T := TX12) (N := 89) hx hb hg iX12 hown hK hW kd_66 rfl 61 (lt_b rfl) (hg (Cond.fieldLink RX12 475 "SlabWalkModel" "least" "I") m1375) (fun _ h9 => h9) rfl rfl dX12_bestOdds_3 ?_
  have hb_2 : bO (oF G p0.toInt p1.toInt) (G.1 66 61).toInt (G.1 66 61).toInt 0 := bO_0
  refine lv_istore (lv' := [(5, .int (G.1 66 61)), (3, .long 0), (0, .ref (a 66)), (1, .int p0), (2, .int p1)]) hx hb dX12_bestOdds_6 hl (lt_b rfl) rfl (fun ls hl => ?_)
  have b_10 : 0 ≤ (G.1 66 62).toInt ∧ (G.1 66 62).toInt ≤ 60 := bd_66_62 hB_G
  refine loop_N (Inv := fun n H locs ls => ∃ (G_3 : GS) (x_7 : Int32) (x_8 : Int64), (n : Int) = 61 - x_7.toInt ∧ (0 ≤ x_7.toInt ∧ x_7.toInt ≤ 61) ∧ (bO (oF G p0.toInt p1.toInt) (G.1 66 61).toInt x_7.toInt x_8) ∧ ((G.1 66 61).toInt ≤ x_7.toInt) ∧ (x_7.toInt ≤ (G.1 66 62).toInt + 1) ∧ Rc (St_n_bestOdds_1 p0 p1 G) ((G.1 66 61), 0, G) (x_7, x_8, G_3) ∧ Wd D k A a G_3 H ∧ Bd G_3 ∧ Fr [] [] G G_3 ∧ Fr [] [] G G_3 ∧ va_S A s.heap H locs ∧ lv_has ls 8 [(5, .int x_7), (3, .long x_8), (0, .ref (a 66)), (1, .int p0), (2, .int p1)]) (fun n_6 H locs ls ih_5 hI => ?_) (61 - (G.1 66 61).toInt : Int).toNat ⟨G, (G.1 66 61), 0, (Int.toNat_of_nonneg (by omega)), ⟨by omega, by omega⟩, (by assumption), (by omega), (by omega), Rc.rf, hW, hB_G, hF, Fr.rf, hS, lv_sub hl [0, 1, 2, 3, 4] rfl⟩
  obtain ⟨G_3, x_7, x_8, hn_15, f_11, f_12, f_13, f_14, hX_9, hW, hB_G_3, hF, hq_4, hS, hl⟩ := hI
  refine lv_iload hx hb dX12_bestOdds_8 (lv_at hl 0 rfl) ?_
  refine lv_aload_n hx hb dX12_bestOdds_10 rfl (lv_at hl 2 rfl) ?_
  refine S_getI (v := (G.1 66 62)) (C := RX12) (T := TX12) (N := 89) hx hb hg iX12 hown hK hW kd_66 rfl 62 (lt_b rfl) (hg (Cond.fieldLink RX12 478 "SlabWalkModel" "most" "I") m1376) (fun _ h9 => h9) rfl ((hq_4.i9 66 62 rfl rfl).trans (rfl)) dX12_bestOdds_11 ?_
  refine lv_icmp_gt (tgt := 54) hx hb dX12_bestOdds_14 rfl (fun c_16 => ?_) (fun c_16 => ?_)
  · have c_16 : (G.1 66 62).toInt < x_7.toInt := xI_lt rfl rfl c_16
    refine lv_lload_n hx hb dX12_bestOdds_54 rfl (lv_at hl 1 rfl) ?_
    exact W.lret (v := x_8) hx hb hr (fun t ht _ => ⟨⟨x_8, G_3, rfl, (Q_bestOdds_mk ⟨hB_G_3, hF, (show bO (oF G p0.toInt p1.toInt) (G.1 66 61).toInt ((G.1 66 62).toInt + 1) x_8 from by have h : bO (oF G p0.toInt p1.toInt) (G.1 66 61).toInt x_7.toInt x_8 := (by assumption); rw [show x_7.toInt = (G.1 66 62).toInt + 1 from by omega] at h; exact h), ⟨x_7, x_8, G_3, hX_9, f_11, f_12, f_13, f_14, hB_G_3, hq_4, ⟨c_16, ⟨rfl, rfl⟩⟩⟩⟩), wd_t ht hW⟩, hS.F ht⟩) hS.2.2 dX12_bestOdds_55
  · have c_16 : x_7.toInt ≤ (G.1 66 62).toInt := xI_nlt rfl rfl c_16
    refine lv_aload_n hx hb dX12_bestOdds_17 rfl (lv_at hl 2 rfl) ?_
    refine lv_iload_n hx hb dX12_bestOdds_18 rfl (lv_at hl 3 rfl) ?_
    refine lv_iload hx hb dX12_bestOdds_19 (lv_at hl 0 rfl) ?_
    refine lv_iload_n hx hb dX12_bestOdds_21 rfl (lv_at hl 4 rfl) ?_
    refine lv_aload_n hx hb dX12_bestOdds_22 rfl (lv_at hl 2 rfl) ?_
    refine lv_iload_n hx hb dX12_bestOdds_23 rfl (lv_at hl 4 rfl) ?_
    refine ic_1 hx hb dX12_bestOdds_24 ?_
    refine lv_isub hx hb dX12_bestOdds_25 ?_
    refine lv_topi (fun y_17 ey_17 => ?_)
    have ty_17 : y_17.toInt = p1.toInt - 1 := xI_sub rfl rfl ey_17 ((by first | (clear ha_p0 hlm b_1 b_10 hn_15 f_11 f_13 f_14 c_16; omega) | omega)) ((by first | (clear ha_p0 hlm b_1 b_10 hn_15 f_11 f_13 f_14 c_16; omega) | omega))
    refine S_calll (va_runV (As := [.int y_17]) (rest := [.int p1, .int x_7, .int p0, .ref (a 66)]) ⟨hx, hb, hml, hown, hts⟩ (n_rest l D k A a z G_3 y_17 ⟨(by first | (clear ha_p0 hlm b_1 b_10 hn_15 f_11 f_13 f_14 c_16; omega) | omega), (by first | (clear ha_p0 hlm b_1 b_10 hn_15 f_11 f_13 f_14 c_16; omega) | omega)⟩) (cwV 1 hts (gd_V hgd m1951 m1953 m105 m131 m1954) rfl rfl rfl hd_X12_rest ⟨Nat.le_of_ble_eq_true rfl, Nat.le_of_ble_eq_true rfl⟩) (pre_W hW hB_G_3 hK hZ hS kd_66 rfl) rfl rfl hl.1 rfl (lv_room (Nat.le_of_ble_eq_true rfl)) dX12_bestOdds_26 ⟨Nat.le_of_ble_eq_true rfl, Nat.le_of_ble_eq_true rfl⟩) hS (fun r_18 G_19 H locs hpo hW hS => ?_)
    have hX_22 : Q_rest y_17 G_3 r_18 G_19 := hpo
    obtain ⟨hB_G_19, hq_20, hp_21, -⟩ := hpo
    have hF := hF.call9 hq_20 rfl rfl
    have b_23 : 0 ≤ (G.1 66 59).toInt ∧ (G.1 66 59).toInt ≤ 400 := bd_66_59 hB_G
    have g_24 : (G_19.1 66 59).toInt = (G.1 66 59).toInt := (congrArg Int32.toInt (show G_19.1 66 59 = (G.1 66 59) from ((hq_20.i9 66 59 rfl rfl).trans (hq_4.i9 66 59 rfl rfl))))
    have b_25 : 0 ≤ (G.1 66 60).toInt ∧ (G.1 66 60).toInt ≤ 12 := bd_66_60 hB_G
    have g_26 : (G_19.1 66 60).toInt = (G.1 66 60).toInt := (congrArg Int32.toInt (show G_19.1 66 60 = (G.1 66 60) from ((hq_20.i9 66 60 rfl rfl).trans (hq_4.i9 66 60 rfl rfl))))
    refine S_calll (va_runV (As := [.int p0, .int x_7, .int p1, .long r_18]) (rest := []) ⟨hx, hb, hml, hown, hts⟩ (n_oddsBy l D k A a z G_19 p0 x_7 p1 r_18 ⟨(by first | (clear ha_p1 hlm b_1 b_10 hn_15 f_11 f_13 f_14 c_16 ty_17 hp_21 b_23 g_24 b_25 g_26; omega) | omega), (by first | (clear ha_p1 hlm b_1 b_10 hn_15 f_11 f_13 f_14 c_16 ty_17 hp_21 b_23 g_24 b_25 g_26; omega) | omega)⟩ ⟨(by first | (clear ha_p0 ha_p1 hn_15 ty_17 hp_21 b_23 g_24 b_25 g_26; omega) | omega), (by first | (clear ha_p0 ha_p1 hn_15 ty_17 hp_21 b_23 g_24 b_25 g_26; omega) | omega)⟩ ⟨(by first | (clear ha_p0 hlm b_1 b_10 hn_15 f_11 f_13 f_14 c_16 b_23 g_24 b_25 g_26; omega) | omega), (by first | (clear ha_p0 hlm b_1 b_10 hn_15 f_11 f_13 f_14 c_16 b_23 g_24 b_25 g_26; omega) | omega)⟩) (cwV 4 hts (gd_V hgd m1959 m1961 m107 m131 m1962) rfl rfl rfl hd_X12_oddsBy ⟨Nat.le_of_ble_eq_true rfl, Nat.le_of_ble_eq_true rfl⟩) (pre_W hW hB_G_19 hK hZ hS kd_66 rfl) rfl rfl hl.1 rfl (lv_room (Nat.le_of_ble_eq_true rfl)) dX12_bestOdds_29 ⟨Nat.le_of_ble_eq_true rfl, Nat.le_of_ble_eq_true rfl⟩) hS (fun r_27 G_28 H locs hpo hW hS => ?_)
    have hX_31 : Q_oddsBy p0 x_7 p1 r_18 G_19 r_27 G_28 := hpo
    obtain ⟨hB_G_28, hq_29, hp_30, -⟩ := hpo
    have hF := hF.call9 hq_29 rfl rfl
    have hof_ : r_27 = oF G p0.toInt p1.toInt x_7.toInt := oF_of (f0 := (Fr.rf.call hq_4 (by decide) (by decide))) (f := ((Fr.rf.call hq_4 (by decide) (by decide)).call hq_20 (by decide) (by decide))) hp_30 hp_21 (by omega) (by omega)
    refine lv_lstore (lv' := [(6, .long r_27), (5, .int x_7), (3, .long x_8), (0, .ref (a 66)), (1, .int p0), (2, .int p1)]) hx hb dX12_bestOdds_32 hl (lt_b rfl) rfl (fun ls hl => ?_)
    refine lv_lload hx hb dX12_bestOdds_34 (lv_at hl 0 rfl) ?_
    refine lv_lload_n hx hb dX12_bestOdds_36 rfl (lv_at hl 2 rfl) ?_
    refine W.lcmp hx hb dX12_bestOdds_37 ?_
    refine lv_topi (fun y_32 ey_32 => ?_)
    have ty_32 := lcmp_rng ey_32
    have u_33 := lc_gt ey_32
    refine lv_if_le (tgt := 46) hx hb dX12_bestOdds_38 rfl (fun c_34 => ?_) (fun c_34 => ?_)
    · have c_34 : y_32.toInt ≤ 0 := xI_le rfl rfl c_34
      refine lv_lload_n hx hb dX12_bestOdds_46 rfl (lv_at hl 2 rfl) ?_
      refine lv_lstore_n (lv' := [(3, .long x_8), (6, .long r_27), (5, .int x_7), (0, .ref (a 66)), (1, .int p0), (2, .int p1)]) hx hb dX12_bestOdds_47 rfl hl (lt_b rfl) rfl (fun ls hl => ?_)
      obtain ⟨y_35, ey_35⟩ : ∃ q, q = x_7 + 1 := ⟨_, rfl⟩
      have ty_35 : y_35.toInt = x_7.toInt + 1 := xI_add rfl rfl ey_35 (by omega) (by omega)
      refine lv_iinc (v := y_35) (lv' := [(5, .int y_35), (3, .long x_8), (6, .long r_27), (0, .ref (a 66)), (1, .int p0), (2, .int p1)]) hx hb dX12_bestOdds_48 hl (k := 2) rfl (by rw [ey_35]; rfl) (lt_b rfl) rfl (fun ls hl => ?_)
      have hb_36 : bO (oF G p0.toInt p1.toInt) (G.1 66 61).toInt y_35.toInt x_8 := bO_keep (show bO (oF G p0.toInt p1.toInt) (G.1 66 61).toInt x_7.toInt x_8 by assumption) hof_ (by omega) (by omega)
      refine lv_goto (tgt := 8) hx hb dX12_bestOdds_51 rfl ?_
      exact ih_5 (61 - y_35.toInt : Int).toNat (by omega) _ _ _ ⟨G_28, y_35, x_8, (Int.toNat_of_nonneg (by omega)), ⟨by omega, by omega⟩, (by assumption), (by omega), (by omega), (hX_9.st (St_n_bestOdds_1_mk ⟨x_7, x_8, G_3, y_35, x_8, G_28, rfl, rfl, f_11, f_12, f_13, f_14, hB_G_3, ⟨c_16, ⟨y_17, ty_17, ⟨r_18, G_19, hX_22, ⟨r_27, G_28, hX_31, ⟨y_32, ey_32, (Or.inl ⟨c_34, ⟨y_35, ty_35, ⟨rfl, rfl, rfl⟩⟩⟩)⟩⟩⟩⟩⟩⟩)), hW, hB_G_28, hF, (Fr.call9 (rs := []) (fs := []) (Fr.call9 (rs := []) (fs := []) (Fr.call9 (rs := []) (fs := []) Fr.rf hq_4 rfl rfl) hq_20 rfl rfl) hq_29 rfl rfl), hS, lv_sub hl [0, 1, 3, 4, 5] rfl⟩
    · have c_34 : 0 < y_32.toInt := xI_nle rfl rfl c_34
      refine lv_lload hx hb dX12_bestOdds_41 (lv_at hl 0 rfl) ?_
      refine lv_goto (tgt := 47) hx hb dX12_bestOdds_43 rfl ?_
      refine lv_lstore_n (lv' := [(3, .long r_27), (6, .long r_27), (5, .int x_7), (0, .ref (a 66)), (1, .int p0), (2, .int p1)]) hx hb dX12_bestOdds_47 rfl hl (lt_b rfl) rfl (fun ls hl => ?_)
      obtain ⟨y_37, ey_37⟩ : ∃ q, q = x_7 + 1 := ⟨_, rfl⟩
      have ty_37 : y_37.toInt = x_7.toInt + 1 := xI_add rfl rfl ey_37 (by omega) (by omega)
      refine lv_iinc (v := y_37) (lv' := [(5, .int y_37), (3, .long r_27), (6, .long r_27), (0, .ref (a 66)), (1, .int p0), (2, .int p1)]) hx hb dX12_bestOdds_48 hl (k := 2) rfl (by rw [ey_37]; rfl) (lt_b rfl) rfl (fun ls hl => ?_)
      have hb_38 : bO (oF G p0.toInt p1.toInt) (G.1 66 61).toInt y_37.toInt r_27 := bO_more (show bO (oF G p0.toInt p1.toInt) (G.1 66 61).toInt x_7.toInt x_8 by assumption) (by omega) hof_ (by omega) (by omega)
      refine lv_goto (tgt := 8) hx hb dX12_bestOdds_51 rfl ?_
      exact ih_5 (61 - y_37.toInt : Int).toNat (by omega) _ _ _ ⟨G_28, y_37, r_27, (Int.toNat_of_nonneg (by omega)), ⟨by omega, by omega⟩, (by assumption), (by omega), (by omega), (hX_9.st (St_n_bestOdds_1_mk ⟨x_7, x_8, G_3, y_37, r_27, G_28, rfl, rfl, f_11, f_12, f_13, f_14, hB_G_3, ⟨c_16, ⟨y_17, ty_17, ⟨r_18, G_19, hX_22, ⟨r_27, G_28, hX_31, ⟨y_32, ey_32, (Or.inr ⟨c_34, ⟨y_37, ty_37, ⟨rfl, rfl, rfl⟩⟩⟩)⟩⟩⟩⟩⟩⟩)), hW, hB_G_28, hF, (Fr.call9 (rs := []) (fs := []) (Fr.call9 (rs := []) (fs := []) (Fr.call9 (rs := []) (fs := []) Fr.rf hq_4 rfl rfl) hq_20 rfl rfl) hq_29 rfl rfl), hS, lv_sub hl [0, 1, 3, 4, 5] rfl⟩

set_option maxHeartbeats 4000000 in
set_option maxRecDepth 100000 in
theorem n_layBold (l : Launch) (D : va_G) (k : KT) (A : Nat → Prop) (a : Nat → Nat) (z : SK) (G : GS) (p0 : Int32) (p1 : Int32) (p2 : Int32) (p3 : Int32) (p4 : Int32) (hP9 : gP G = 1) (hW9 : gW G = 1) (hO9 : gO G = 1) : Met l yX12_layBold (WS yX12_layBold cX12_layBold 8 (some .boolean)) ({ frames := 5, cells := 0, slots := 0, locals := 117 }) (va_Pc [.ref (a 66), .int p0, .int p1, .int p2, .int p3, .int p4] (cW D k A a z G)) (va_Qi (fun (r : Int32) (G1 : GS) => Q_layBold p0 p1 p2 p3 p4 G r G1) (fun (G1 : GS) t => Wd D k A a G1 t.heap) A) 0 0 A := by
  refine Met.ofW (cc := cX12_layBold) (maxL := 8) (ret := (some .boolean)) (by decide) rfl ?_
  intro p e s m args below meth c s₁ B hml hv
  obtain ⟨rfl, hW, hB_G, hK, hZ⟩ := hv
  have hx := B.exec
  have hb := B.bytes
  have hr := B.returns
  have hts := atoms_spec (ws := WS yX12_layBold cX12_layBold 8 (some .boolean)) B.pre
  have hgd : ∀ w ∈ gd, w ∈ WS yX12_layBold cX12_layBold 8 (some .boolean) := fun w h => List.mem_cons_of_mem _ h
  have hg : ∀ w ∈ gd, w.before _ s = true := fun w h => hts w (hgd w h)
  have hown : s.vm.findClass RX12 = some m.cls := findClass_of_methodNamed B.named
  have hS : va_S A s.heap s.heap [] := va_S.rf
  have hF : Fr [106, 76, 97, 98] [(66, 59), (66, 60), (66, 61), (66, 62), (66, 63)] G G := Fr.rf
  have hl := lv_entry ([.ref (a 66), .int p0, .int p1, .int p2, .int p3, .int p4]) (n := 8) (Nat.le_of_ble_eq_true rfl)
  rw [lg_entry_eq]
  generalize (lg_sl ([.ref (a 66), .int p0, .int p1, .int p2, .int p3, .int p4]) ++ List.replicate (8 - (lg_sl ([.ref (a 66), .int p0, .int p1, .int p2, .int p3, .int p4])).length) Slot.unset).toArray = ls at hl ⊢
  have hl : lv_has ls 8 [(0, .ref (a 66)), (1, .int p0), (2, .int p1), (3, .int p2), (4, .int p3), (5, .int p4)] := hl
  refine lv_aload_n hx hb dX12_layBold_0 rfl (lv_at hl 0 rfl) ?_
  refine lv_iload_n hx hb dX12_layBold_1 rfl (lv_at hl 1 rfl) ?_
  refine lv_iload_n hx hb dX12_layBold_2 rfl (lv_at hl 2 rfl) ?_
  refine lv_iload_n hx hb dX12_layBold_3 rfl (lv_at hl 3 rfl) ?_
  refine S_calli (va_runV (As := [.int p0, .int p1, .int p2]) (rest := []) ⟨hx, hb, hml, hown, hts⟩ (n_isAsked l D k A a z G p0 p1 p2 ) (cwV 3 hts (gd_V hgd m1826 m1828 m89 m131 m1829) rfl rfl rfl hd_X12_isAsked ⟨Nat.le_of_ble_eq_true rfl, Nat.le_of_ble_eq_true rfl⟩) (pre_W hW hB_G hK hZ hS kd_66 rfl) rfl rfl hl.1 rfl (lv_room (Nat.le_of_ble_eq_true rfl)) dX12_layBold_4 ⟨Nat.le_of_ble_eq_true rfl, Nat.le_of_ble_eq_true rfl⟩) hS (fun r_1 G_2 H locs hpo hW hS => ?_)
  have hX_5 : Q_isAsked p0 p1 p2 G r_1 G_2 := hpo
  obtain ⟨hB_G_2, hq_3, f_6, hp_4, -⟩ := hpo
  have hF := hF.call9 hq_3 rfl rfl
  refine lv_if_eq (tgt := 21) hx hb dX12_layBold_7 rfl (fun c_7 => ?_) (fun c_7 => ?_)
  · have c_7 : r_1.toInt = 0 := xI_eq rfl rfl c_7
    refine ic_0 hx hb dX12_layBold_21 ?_
    have fr_8 : Fr [] [] G G_2 := (Fr.call9 (rs := []) (fs := []) Fr.rf hq_3 rfl rfl)
    have g_9 : gO G_2 = gO G := gO_fr fr_8 (gr_q rfl) (gf_q rfl)
    have b_10 : 0 ≤ (G.1 66 61).toInt ∧ (G.1 66 61).toInt ≤ 60 := bd_66_61 hB_G
    have g_11 : (G_2.1 66 61).toInt = (G.1 66 61).toInt := (congrArg Int32.toInt (show G_2.1 66 61 = (G.1 66 61) from (hq_3.i9 66 61 rfl rfl)))
    have b_12 : 0 ≤ (G.1 66 62).toInt ∧ (G.1 66 62).toInt ≤ 60 := bd_66_62 hB_G
    have g_13 : (G_2.1 66 62).toInt = (G.1 66 62).toInt := (congrArg Int32.toInt (show G_2.1 66 62 = (G.1 66 62) from (hq_3.i9 66 62 rfl rfl)))
    exact W.zret (v := 0) hx hb hr (by decide) (fun t ht _ => ⟨⟨0, G_2, rfl, (Q_layBold_mk ⟨hB_G_2, hF, ⟨by decide, by decide⟩, (by have hq : (0 : Int32).toInt = 0 := rfl; (try dsimp only); omega), ⟨r_1, G_2, hX_5, (Or.inl ⟨c_7, ⟨rfl, rfl⟩⟩)⟩⟩), wd_t ht hW⟩, hS.F ht⟩) hS.2.2 dX12_layBold_22
  · have c_7 : r_1.toInt ≠ 0 := xI_ne rfl rfl c_7
    refine lv_iload hx hb dX12_layBold_10 (lv_at hl 5 rfl) ?_
    refine ic_1 hx hb dX12_layBold_12 ?_
    refine lv_bipush (v := 8) hx hb dX12_layBold_13 (by decide) ?_
    have qc_14 : (1 : Int32).toInt = 1 := rfl
    have qc_15 : (8 : Int32).toInt = 8 := rfl
    refine S_calli (va_runS (As := [.int p4, .int 1, .int 8]) (rest := []) ⟨hx, hb, hml, hown, hts⟩ (n_isIn l D k A a z G_2 p4 1 8 ) (va_cwS 3 hts (gd_S hgd m1781 m1782 m131 m1783) rfl rfl rfl hd_X12_isIn.2 ⟨Nat.le_of_ble_eq_true rfl, Nat.le_of_ble_eq_true rfl⟩) (pre_S hW hB_G_2 hK hZ hS) rfl rfl hl.1 rfl (lv_room (Nat.le_of_ble_eq_true rfl)) dX12_layBold_15 ⟨Nat.le_of_ble_eq_true rfl, Nat.le_of_ble_eq_true rfl⟩) hS (fun r_16 G_17 H locs hpo hW hS => ?_)
    have hX_20 : Q_isIn p4 1 8 G_2 r_16 G_17 := hpo
    obtain ⟨hB_G_17, hq_18, f_21, ⟨d_1, d_2⟩, -⟩ := hpo
    have hF := hF.call9 hq_18 rfl rfl
    refine lv_if_ne (tgt := 23) hx hb dX12_layBold_18 rfl (fun c_22 => ?_) (fun c_22 => ?_)
    · have c_22 : r_16.toInt ≠ 0 := xI_ne rfl rfl c_22
      refine lv_aload_n hx hb dX12_layBold_23 rfl (lv_at hl 0 rfl) ?_
      refine lv_iload_n hx hb dX12_layBold_24 rfl (lv_at hl 1 rfl) ?_
      refine lv_iload_n hx hb dX12_layBold_25 rfl (lv_at hl 2 rfl) ?_
      refine lv_iload_n hx hb dX12_layBold_26 rfl (lv_at hl 3 rfl) ?_
      have fr_23 : Fr [] [] G G_17 := (Fr.call9 (rs := []) (fs := []) (Fr.call9 (rs := []) (fs := []) Fr.rf hq_3 rfl rfl) hq_18 rfl rfl)
      have g_24 : gP G_17 = gP G := gP_fr fr_23 (gr_q rfl) (gf_q rfl)
      refine S_callv (va_runV (As := [.int p0, .int p1, .int p2]) (rest := []) ⟨hx, hb, hml, hown, hts⟩ (n_layStreet l D k A a z G_17 p0 p1 p2 ⟨(by first | (clear hP9 hW9 hO9 f_21 d_1 d_2 c_22 g_24; omega) | omega), (by first | (clear hP9 hW9 hO9 f_21 d_1 d_2 c_22 g_24; omega) | omega)⟩ ⟨(by first | (clear hP9 hW9 hO9 f_21 d_1 d_2 c_22 g_24; omega) | omega), (by first | (clear hP9 hW9 hO9 f_21 d_1 d_2 c_22 g_24; omega) | omega)⟩ ((by first | (clear hW9 hO9 f_6 hp_4 c_7 f_21 d_1 d_2 c_22; omega) | omega))) (cwV 3 hts (gd_V hgd m1834 m1836 m91 m131 m1837) rfl rfl rfl hd_X12_layStreet ⟨Nat.le_of_ble_eq_true rfl, Nat.le_of_ble_eq_true rfl⟩) (pre_W hW hB_G_17 hK hZ hS kd_66 rfl) rfl rfl hl.1 rfl (lv_room (Nat.le_of_ble_eq_true rfl)) dX12_layBold_27 ⟨Nat.le_of_ble_eq_true rfl, Nat.le_of_ble_eq_true rfl⟩) hS (fun G_26 H locs hpo hW hS => ?_)
      have hX_29 : Q_layStreet p0 p1 p2 G_17 G_26 := hpo
      obtain ⟨hB_G_26, hq_27, ⟨d_3, d_4, d_5, d_6, d_7, d_8⟩, -⟩ := hpo
      have hF := hF.call9 hq_27 rfl rfl
      have b_30 : 0 ≤ (G.1 66 53).toInt ∧ (G.1 66 53).toInt ≤ 4 := hB_G.i 66 53 rfl rfl
      have u_31 := gW_at hW9 p0 (by omega) (by omega)
      have u_32 : (G_17.1 92 p0.toNatClampNeg).toInt = (G.1 92 p0.toNatClampNeg).toInt := congrArg Int32.toInt (((hq_18.ri9 92 rfl p0.toNatClampNeg).trans (hq_3.ri9 92 rfl p0.toNatClampNeg)))
      have u_33 : (G_17.1 93 p0.toNatClampNeg).toInt = (G.1 93 p0.toNatClampNeg).toInt := congrArg Int32.toInt (((hq_18.ri9 93 rfl p0.toNatClampNeg).trans (hq_3.ri9 93 rfl p0.toNatClampNeg)))
      have u_34 : (G_17.1 94 p0.toNatClampNeg).toInt = (G.1 94 p0.toNatClampNeg).toInt := congrArg Int32.toInt (((hq_18.ri9 94 rfl p0.toNatClampNeg).trans (hq_3.ri9 94 rfl p0.toNatClampNeg)))
      have u_35 : (G_17.1 95 p0.toNatClampNeg).toInt = (G.1 95 p0.toNatClampNeg).toInt := congrArg Int32.toInt (((hq_18.ri9 95 rfl p0.toNatClampNeg).trans (hq_3.ri9 95 rfl p0.toNatClampNeg)))
      have b_36 : 0 ≤ (G_26.1 66 60).toInt ∧ (G_26.1 66 60).toInt ≤ 12 := bd_66_60 hB_G_26
      have b_37 : 0 ≤ (G_26.1 66 61).toInt ∧ (G_26.1 66 61).toInt ≤ 60 := bd_66_61 hB_G_26
      have b_38 : 0 ≤ (G_26.1 66 62).toInt ∧ (G_26.1 66 62).toInt ≤ 60 := bd_66_62 hB_G_26
      have b_39 : 0 ≤ (G_26.1 66 63).toInt ∧ (G_26.1 66 63).toInt ≤ 99 := bd_66_63 hB_G_26
      refine lv_aload_n hx hb dX12_layBold_30 rfl (lv_at hl 0 rfl) ?_
      refine lv_iload hx hb dX12_layBold_31 (lv_at hl 4 rfl) ?_
      have b_40 : 0 ≤ (G_26.1 66 59).toInt ∧ (G_26.1 66 59).toInt ≤ 400 := bd_66_59 hB_G_26
      refine S_calli (va_runV (As := [.int p3]) (rest := []) ⟨hx, hb, hml, hown, hts⟩ (n_stands1 l D k A a z G_26 p3 ) (cwV 1 hts (gd_V hgd m1838 m1840 m92 m131 m1841) rfl rfl rfl hd_X12_doesStand ⟨Nat.le_of_ble_eq_true rfl, Nat.le_of_ble_eq_true rfl⟩) (pre_W hW hB_G_26 hK hZ hS kd_66 rfl) rfl rfl hl.1 rfl (lv_room (Nat.le_of_ble_eq_true rfl)) dX12_layBold_33 ⟨Nat.le_of_ble_eq_true rfl, Nat.le_of_ble_eq_true rfl⟩) hS (fun r_41 G_42 H locs hpo hW hS => ?_)
      have hX_45 : Q_stands1 p3 G_26 r_41 G_42 := hpo
      obtain ⟨hB_G_42, hq_43, f_46, ⟨d_9, d_10⟩, -⟩ := hpo
      have hF := hF.call9 hq_43 rfl rfl
      refine lv_if_ne (tgt := 41) hx hb dX12_layBold_36 rfl (fun c_47 => ?_) (fun c_47 => ?_)
      · have c_47 : r_41.toInt ≠ 0 := xI_ne rfl rfl c_47
        refine ic_0 hx hb dX12_layBold_41 ?_
        refine lv_istore (lv' := [(6, .int 0), (0, .ref (a 66)), (1, .int p0), (2, .int p1), (3, .int p2), (4, .int p3), (5, .int p4)]) hx hb dX12_layBold_42 hl (lt_b rfl) rfl (fun ls hl => ?_)
        have fr_54 : Fr [76, 97, 98] [(66, 59), (66, 60), (66, 61), (66, 62), (66, 63)] G G_42 := (Fr.call9 (rs := [76, 97, 98]) (fs := [(66, 59), (66, 60), (66, 61), (66, 62), (66, 63)]) (Fr.call9 (rs := [76, 97, 98]) (fs := [(66, 59), (66, 60), (66, 61), (66, 62), (66, 63)]) (Fr.call9 (rs := [76, 97, 98]) (fs := [(66, 59), (66, 60), (66, 61), (66, 62), (66, 63)]) (Fr.call9 (rs := [76, 97, 98]) (fs := [(66, 59), (66, 60), (66, 61), (66, 62), (66, 63)]) Fr.rf hq_3 rfl rfl) hq_18 rfl rfl) hq_27 rfl rfl) hq_43 rfl rfl)
        have g_55 : gO G_42 = gO G := gO_fr fr_54 (gr_q rfl) (gf_q rfl)
        have qc_56 : (0 : Int32).toInt = 0 := rfl
        refine loop_N (Inv := fun n H locs ls => ∃ (G_48 : GS) (x_52 : Int32), (n : Int) = 512 - x_52.toInt ∧ (0 ≤ x_52.toInt ∧ x_52.toInt ≤ 512) ∧ (gO G_48 = 1) ∧ Rc (St_n_layBold_1) (0, G_42) (x_52, G_48) ∧ Wd D k A a G_48 H ∧ Bd G_48 ∧ Fr [106, 76, 97, 98] [(66, 59), (66, 60), (66, 61), (66, 62), (66, 63)] G G_48 ∧ Fr [106] [] G_42 G_48 ∧ va_S A s.heap H locs ∧ lv_has ls 8 [(6, .int x_52), (0, .ref (a 66)), (5, .int p4)]) (fun n_51 H locs ls ih_50 hI => ?_) (512 - 0 : Int).toNat ⟨G_42, 0, (Int.toNat_of_nonneg ((by first | (clear hP9 hW9 hO9 f_6 hp_4 c_7 f_21 d_1 d_2 c_22 g_24 d_3 d_4 d_5 d_6 d_7 d_8 b_30 u_32 u_33 u_34 u_35 b_36 b_37 b_38 b_39 b_40 f_46 d_9 d_10 c_47 g_55; omega) | omega))), ⟨(by first | (clear hP9 hW9 hO9 f_6 hp_4 c_7 f_21 d_1 d_2 c_22 g_24 d_3 d_4 d_5 d_6 d_7 d_8 b_30 u_32 u_33 u_34 u_35 b_36 b_37 b_38 b_39 b_40 f_46 d_9 d_10 c_47 g_55; omega) | omega), (by first | (clear hP9 hW9 hO9 f_6 hp_4 c_7 f_21 d_1 d_2 c_22 g_24 d_3 d_4 d_5 d_6 d_7 d_8 b_30 u_32 u_33 u_34 u_35 b_36 b_37 b_38 b_39 b_40 f_46 d_9 d_10 c_47 g_55; omega) | omega)⟩, ((by first | (clear hP9 hW9 f_6 hp_4 c_7 f_21 d_1 d_2 c_22 g_24 d_3 d_4 d_5 d_6 d_7 d_8 b_30 u_32 u_33 u_34 u_35 b_36 b_37 b_38 b_39 b_40 f_46 d_9 d_10 c_47; omega) | omega)), Rc.rf, hW, hB_G_42, hF, Fr.rf, hS, lv_sub hl [0, 1, 6] rfl⟩
        obtain ⟨G_48, x_52, hn_59, f_57, f_58, hX_53, hW, hB_G_48, hF, hq_49, hS, hl⟩ := hI
        refine lv_iload hx hb dX12_layBold_44 (lv_at hl 0 rfl) ?_
        refine lv_sipush (v := 512) hx hb dX12_layBold_46 (by decide) ?_
        refine lv_icmp_ge (tgt := 66) hx hb dX12_layBold_49 rfl (fun c_60 => ?_) (fun c_60 => ?_)
        · have c_60 : 512 ≤ x_52.toInt := xI_le rfl rfl c_60
          refine ic_1 hx hb dX12_layBold_66 ?_
          refine lv_istore (lv' := [(6, .int 1), (0, .ref (a 66)), (5, .int p4)]) hx hb dX12_layBold_67 hl (lt_b rfl) rfl (fun ls hl => ?_)
          have qc_67 : (1 : Int32).toInt = 1 := rfl
          refine loop_N (Inv := fun n H locs ls => ∃ (G_61 : GS) (x_65 : Int32), (n : Int) = 8 - x_65.toInt ∧ (1 ≤ x_65.toInt ∧ x_65.toInt ≤ 8) ∧ (gO G_61 = 1) ∧ Rc (St_n_layBold_2 p4) (1, G_48) (x_65, G_61) ∧ Wd D k A a G_61 H ∧ Bd G_61 ∧ Fr [106, 76, 97, 98] [(66, 59), (66, 60), (66, 61), (66, 62), (66, 63)] G G_61 ∧ Fr [106] [] G_48 G_61 ∧ va_S A s.heap H locs ∧ lv_has ls 8 [(6, .int x_65), (0, .ref (a 66)), (5, .int p4)]) (fun n_64 H locs ls ih_63 hI => ?_) (8 - 1 : Int).toNat ⟨G_48, 1, (Int.toNat_of_nonneg ((by first | (clear hP9 hW9 hO9 f_6 hp_4 c_7 f_21 d_1 d_2 c_22 g_24 d_3 d_4 d_5 d_6 d_7 d_8 b_30 u_32 u_33 u_34 u_35 b_36 b_37 b_38 b_39 b_40 f_46 d_9 d_10 c_47 g_55 hn_59 f_57 f_58 c_60; omega) | omega))), ⟨(by first | (clear hP9 hW9 hO9 f_6 hp_4 c_7 f_21 d_1 d_2 c_22 g_24 d_3 d_4 d_5 d_6 d_7 d_8 b_30 u_32 u_33 u_34 u_35 b_36 b_37 b_38 b_39 b_40 f_46 d_9 d_10 c_47 g_55 hn_59 f_57 f_58 c_60; omega) | omega), (by first | (clear hP9 hW9 hO9 f_6 hp_4 c_7 f_21 d_1 d_2 c_22 g_24 d_3 d_4 d_5 d_6 d_7 d_8 b_30 u_32 u_33 u_34 u_35 b_36 b_37 b_38 b_39 b_40 f_46 d_9 d_10 c_47 g_55 hn_59 f_57 f_58 c_60; omega) | omega)⟩, ((by first | (clear hP9 hW9 hO9 f_6 hp_4 c_7 f_21 d_1 d_2 c_22 g_24 d_3 d_4 d_5 d_6 d_7 d_8 b_30 u_32 u_33 u_34 u_35 b_36 b_37 b_38 b_39 b_40 f_46 d_9 d_10 c_47 g_55 hn_59 f_57 c_60; omega) | omega)), Rc.rf, hW, hB_G_48, hF, Fr.rf, hS, lv_sub hl [0, 1, 2] rfl⟩
          obtain ⟨G_61, x_65, hn_70, f_68, f_69, hX_66, hW, hB_G_61, hF, hq_62, hS, hl⟩ := hI
          refine lv_iload hx hb dX12_layBold_69 (lv_at hl 0 rfl) ?_
          refine lv_iload hx hb dX12_layBold_71 (lv_at hl 2 rfl) ?_
          refine lv_icmp_ge (tgt := 134) hx hb dX12_layBold_73 rfl (fun c_71 => ?_) (fun c_71 => ?_)
          · have c_71 : p4.toInt ≤ x_65.toInt := xI_le rfl rfl c_71
            refine ic_1 hx hb dX12_layBold_134 ?_
            have g_72 : (G_61.1 66 61).toInt = (G_26.1 66 61).toInt := (congrArg Int32.toInt (show G_61.1 66 61 = (G_26.1 66 61) from ((hq_62.i9 66 61 rfl rfl).trans ((hq_49.i9 66 61 rfl rfl).trans ((hq_43.i9 66 61 rfl rfl).trans (rfl))))))
            have g_73 : (G_61.1 66 62).toInt = (G_26.1 66 62).toInt := (congrArg Int32.toInt (show G_61.1 66 62 = (G_26.1 66 62) from ((hq_62.i9 66 62 rfl rfl).trans ((hq_49.i9 66 62 rfl rfl).trans ((hq_43.i9 66 62 rfl rfl).trans (rfl))))))
            exact W.zret (v := 1) hx hb hr (by decide) (fun t ht _ => ⟨⟨1, G_61, rfl, (Q_layBold_mk ⟨hB_G_61, hF, ⟨by decide, by decide⟩, (by have hq : (1 : Int32).toInt = 1 := rfl; (try dsimp only); omega), ⟨r_1, G_2, hX_5, (Or.inr ⟨c_7, ⟨r_16, G_17, hX_20, (Or.inr ⟨c_22, ⟨G_26, hX_29, ⟨r_41, G_42, hX_45, (Or.inr ⟨c_47, ⟨x_52, G_48, hX_53, f_57, f_58, hB_G_48, hq_49, ⟨c_60, ⟨x_65, G_61, hX_66, f_68, f_69, hB_G_61, hq_62, ⟨c_71, ⟨rfl, rfl⟩⟩⟩⟩⟩⟩)⟩⟩⟩)⟩⟩)⟩⟩), wd_t ht hW⟩, hS.F ht⟩) hS.2.2 dX12_layBold_135
          · have c_71 : x_65.toInt < p4.toInt := xI_nle rfl rfl c_71
            refine ic_0 hx hb dX12_layBold_76 ?_
            refine lv_istore (lv' := [(7, .int 0), (6, .int x_65), (0, .ref (a 66)), (5, .int p4)]) hx hb dX12_layBold_77 hl (lt_b rfl) rfl (fun ls hl => ?_)
            have qc_80 : (0 : Int32).toInt = 0 := rfl
            refine loop_N (Inv := fun n H locs ls => ∃ (G_74 : GS) (x_78 : Int32), (n : Int) = 400 - x_78.toInt ∧ (0 ≤ x_78.toInt ∧ x_78.toInt ≤ 400) ∧ (gO G_74 = 1) ∧ Rc (St_n_layBold_3 x_65) (0, G_61) (x_78, G_74) ∧ Wd D k A a G_74 H ∧ Bd G_74 ∧ Fr [106, 76, 97, 98] [(66, 59), (66, 60), (66, 61), (66, 62), (66, 63)] G G_74 ∧ Fr [106] [] G_61 G_74 ∧ va_S A s.heap H locs ∧ lv_has ls 8 [(7, .int x_78), (6, .int x_65), (0, .ref (a 66)), (5, .int p4)]) (fun n_77 H locs ls ih_76 hI => ?_) (400 - 0 : Int).toNat ⟨G_61, 0, (Int.toNat_of_nonneg ((by first | (clear hP9 hW9 hO9 f_6 hp_4 c_7 f_21 d_1 d_2 c_22 g_24 d_3 d_4 d_5 d_6 d_7 d_8 b_30 u_32 u_33 u_34 u_35 b_36 b_37 b_38 b_39 b_40 f_46 d_9 d_10 c_47 g_55 hn_59 f_57 f_58 c_60 hn_70 f_68 f_69 c_71; omega) | omega))), ⟨(by first | (clear hP9 hW9 hO9 f_6 hp_4 c_7 f_21 d_1 d_2 c_22 g_24 d_3 d_4 d_5 d_6 d_7 d_8 b_30 u_32 u_33 u_34 u_35 b_36 b_37 b_38 b_39 b_40 f_46 d_9 d_10 c_47 g_55 hn_59 f_57 f_58 c_60 hn_70 f_68 f_69 c_71; omega) | omega), (by first | (clear hP9 hW9 hO9 f_6 hp_4 c_7 f_21 d_1 d_2 c_22 g_24 d_3 d_4 d_5 d_6 d_7 d_8 b_30 u_32 u_33 u_34 u_35 b_36 b_37 b_38 b_39 b_40 f_46 d_9 d_10 c_47 g_55 hn_59 f_57 f_58 c_60 hn_70 f_68 f_69 c_71; omega) | omega)⟩, ((by first | (clear hP9 hW9 hO9 f_6 hp_4 c_7 f_21 d_1 d_2 c_22 g_24 d_3 d_4 d_5 d_6 d_7 d_8 b_30 u_32 u_33 u_34 u_35 b_36 b_37 b_38 b_39 b_40 f_46 d_9 d_10 c_47 g_55 hn_59 f_57 f_58 c_60 hn_70 f_68 c_71; omega) | omega)), Rc.rf, hW, hB_G_61, hF, Fr.rf, hS, lv_sub hl [0, 1, 2, 3] rfl⟩
            obtain ⟨G_74, x_78, hn_83, f_81, f_82, hX_79, hW, hB_G_74, hF, hq_75, hS, hl⟩ := hI
            refine lv_iload hx hb dX12_layBold_79 (lv_at hl 0 rfl) ?_
            refine lv_sipush (v := 400) hx hb dX12_layBold_81 (by decide) ?_
            refine lv_icmp_ge (tgt := 128) hx hb dX12_layBold_84 rfl (fun c_84 => ?_) (fun c_84 => ?_)
            · have c_84 : 400 ≤ x_78.toInt := xI_le rfl rfl c_84
              obtain ⟨y_85, ey_85⟩ : ∃ q, q = x_65 + 1 := ⟨_, rfl⟩
              have ty_85 : y_85.toInt = x_65.toInt + 1 := xI_add rfl rfl ey_85 ((by first | (clear hP9 hW9 hO9 f_6 hp_4 c_7 f_21 c_22 g_24 d_3 d_4 d_5 d_6 d_7 d_8 b_30 u_32 u_33 u_34 u_35 b_36 b_37 b_38 b_39 b_40 f_46 d_9 d_10 c_47 g_55 hn_59 f_57 f_58 c_60 hn_70 f_69 hn_83 f_81 f_82 c_84; omega) | omega)) ((by first | (clear hP9 hW9 hO9 f_6 hp_4 c_7 f_21 c_22 g_24 d_3 d_4 d_5 d_6 d_7 d_8 b_30 u_32 u_33 u_34 u_35 b_36 b_37 b_38 b_39 b_40 f_46 d_9 d_10 c_47 g_55 hn_59 f_57 f_58 c_60 hn_70 f_69 hn_83 f_81 f_82 c_84; omega) | omega))
              refine lv_iinc (v := y_85) (lv' := [(6, .int y_85), (7, .int x_78), (0, .ref (a 66)), (5, .int p4)]) hx hb dX12_layBold_128 hl (k := 1) rfl (by rw [ey_85]; rfl) (lt_b rfl) rfl (fun ls hl => ?_)
              refine lv_goto (tgt := 69) hx hb dX12_layBold_131 rfl ?_
              exact ih_63 (8 - y_85.toInt : Int).toNat ((by first | (clear hP9 hW9 hO9 f_6 hp_4 c_7 f_21 c_22 g_24 d_3 d_4 d_5 d_6 d_7 d_8 b_30 u_32 u_33 u_34 u_35 b_36 b_37 b_38 b_39 b_40 f_46 d_9 d_10 c_47 g_55 hn_59 f_57 f_58 c_60 f_69 hn_83 f_81 f_82 c_84; omega) | omega)) _ _ _ ⟨G_74, y_85, (Int.toNat_of_nonneg ((by first | (clear hP9 hW9 hO9 f_6 hp_4 c_7 f_21 c_22 g_24 d_3 d_4 d_5 d_6 d_7 d_8 b_30 u_32 u_33 u_34 u_35 b_36 b_37 b_38 b_39 b_40 f_46 d_9 d_10 c_47 g_55 hn_59 f_57 f_58 c_60 hn_70 f_69 hn_83 f_81 f_82 c_84; omega) | omega))), ⟨(by first | (clear hP9 hW9 hO9 f_6 hp_4 c_7 f_21 c_22 g_24 d_3 d_4 d_5 d_6 d_7 d_8 b_30 u_32 u_33 u_34 u_35 b_36 b_37 b_38 b_39 b_40 f_46 d_9 d_10 c_47 g_55 hn_59 f_57 f_58 c_60 hn_70 f_69 hn_83 f_81 f_82 c_84; omega) | omega), (by first | (clear hP9 hW9 hO9 f_6 hp_4 c_7 f_21 c_22 g_24 d_3 d_4 d_5 d_6 d_7 d_8 b_30 u_32 u_33 u_34 u_35 b_36 b_37 b_38 b_39 b_40 f_46 d_9 d_10 c_47 g_55 hn_59 f_57 f_58 c_60 hn_70 f_69 hn_83 f_81 f_82 c_84; omega) | omega)⟩, ((by first | (clear hP9 hW9 hO9 f_6 hp_4 c_7 f_21 d_1 d_2 c_22 g_24 d_3 d_4 d_5 d_6 d_7 d_8 b_30 u_32 u_33 u_34 u_35 b_36 b_37 b_38 b_39 b_40 f_46 d_9 d_10 c_47 g_55 hn_59 f_57 f_58 c_60 hn_70 f_68 f_69 c_71 hn_83 f_81 c_84 ty_85; omega) | omega)), (hX_66.st (St_n_layBold_2_mk ⟨x_65, G_61, y_85, G_74, rfl, rfl, f_68, f_69, hB_G_61, ⟨c_71, ⟨x_78, G_74, hX_79, f_81, f_82, hB_G_74, hq_75, ⟨c_84, ⟨y_85, ty_85, ⟨rfl, rfl⟩⟩⟩⟩⟩⟩)), hW, hB_G_74, hF, (Fr.call9 (rs := [106]) (fs := []) (Fr.call9 (rs := [106]) (fs := []) Fr.rf hq_62 rfl rfl) hq_75 rfl rfl), hS, lv_sub hl [0, 2, 3] rfl⟩
            · have c_84 : x_78.toInt < 400 := xI_nle rfl rfl c_84
              refine lv_aload_n hx hb dX12_layBold_87 rfl (lv_at hl 2 rfl) ?_
              refine S_getR (n := 106) (C := RX12) (T := TX12) (N := 89) hx hb hg iX12 hown hK hW kd_66 rfl 72 (lt_b rfl) (hg (Cond.fieldLink RX12 139 "SlabWalkModel" "odds" "[J") m1386) (fun _ h9 => h9) rfl dX12_layBold_88 ?_
              refine lv_sipush (v := 512) hx hb dX12_layBold_91 (by decide) ?_
              refine lv_iload hx hb dX12_layBold_94 (lv_at hl 1 rfl) ?_
              refine lv_imul hx hb dX12_layBold_96 ?_
              refine lv_topi (fun y_86 ey_86 => ?_)
              have ty_86 : y_86.toInt = 512 * x_65.toInt := xI_mul rfl rfl ey_86 ((by first | (clear hP9 hW9 hO9 f_6 hp_4 c_7 f_21 c_22 g_24 d_3 d_4 d_5 d_6 d_7 d_8 b_30 u_32 u_33 u_34 u_35 b_36 b_37 b_38 b_39 b_40 f_46 d_9 d_10 c_47 g_55 hn_59 f_57 f_58 c_60 hn_70 f_69 hn_83 f_81 f_82 c_84; omega) | omega)) ((by first | (clear hP9 hW9 hO9 f_6 hp_4 c_7 f_21 c_22 g_24 d_3 d_4 d_5 d_6 d_7 d_8 b_30 u_32 u_33 u_34 u_35 b_36 b_37 b_38 b_39 b_40 f_46 d_9 d_10 c_47 g_55 hn_59 f_57 f_58 c_60 hn_70 f_69 hn_83 f_81 f_82 c_84; omega) | omega))
              refine lv_iload hx hb dX12_layBold_97 (lv_at hl 0 rfl) ?_
              refine lv_iadd hx hb dX12_layBold_99 ?_
              refine lv_topi (fun y_87 ey_87 => ?_)
              have ty_87 : y_87.toInt = y_86.toInt + x_78.toInt := xI_add rfl rfl ey_87 ((by first | (clear hP9 hW9 hO9 f_6 hp_4 c_7 f_21 c_22 g_24 d_3 d_4 d_5 d_6 d_7 d_8 b_30 u_32 u_33 u_34 u_35 b_36 b_37 b_38 b_39 b_40 f_46 d_9 d_10 c_47 g_55 hn_59 f_57 f_58 c_60 hn_70 f_69 hn_83 f_82; omega) | omega)) ((by first | (clear hP9 hW9 hO9 f_6 hp_4 c_7 f_21 c_22 g_24 d_3 d_4 d_5 d_6 d_7 d_8 b_30 u_32 u_33 u_34 u_35 b_36 b_37 b_38 b_39 b_40 f_46 d_9 d_10 c_47 g_55 hn_59 f_57 f_58 c_60 hn_70 f_69 hn_83 f_82; omega) | omega))
              refine lv_aload_n hx hb dX12_layBold_100 rfl (lv_at hl 2 rfl) ?_
              refine lv_iload hx hb dX12_layBold_101 (lv_at hl 0 rfl) ?_
              have g_88 : (G_74.1 66 59).toInt = (G_26.1 66 59).toInt := (congrArg Int32.toInt (show G_74.1 66 59 = (G_26.1 66 59) from ((hq_75.i9 66 59 rfl rfl).trans ((hq_62.i9 66 59 rfl rfl).trans ((hq_49.i9 66 59 rfl rfl).trans ((hq_43.i9 66 59 rfl rfl).trans (rfl)))))))
              have g_89 : (G_74.1 66 60).toInt = (G_26.1 66 60).toInt := (congrArg Int32.toInt (show G_74.1 66 60 = (G_26.1 66 60) from ((hq_75.i9 66 60 rfl rfl).trans ((hq_62.i9 66 60 rfl rfl).trans ((hq_49.i9 66 60 rfl rfl).trans ((hq_43.i9 66 60 rfl rfl).trans (rfl)))))))
              refine S_calli (va_runV (As := [.int x_78]) (rest := [.int y_87, .ref (a 106)]) ⟨hx, hb, hml, hown, hts⟩ (n_stands1 l D k A a z G_74 x_78 ) (cwV 1 hts (gd_V hgd m1838 m1840 m92 m131 m1841) rfl rfl rfl hd_X12_doesStand ⟨Nat.le_of_ble_eq_true rfl, Nat.le_of_ble_eq_true rfl⟩) (pre_W hW hB_G_74 hK hZ hS kd_66 rfl) rfl rfl hl.1 rfl (lv_room (Nat.le_of_ble_eq_true rfl)) dX12_layBold_103 ⟨Nat.le_of_ble_eq_true rfl, Nat.le_of_ble_eq_true rfl⟩) hS (fun r_90 G_91 H locs hpo hW hS => ?_)
              have hX_94 : Q_stands1 x_78 G_74 r_90 G_91 := hpo
              obtain ⟨hB_G_91, hq_92, f_95, ⟨d_11, d_12⟩, -⟩ := hpo
              have hF := hF.call9 hq_92 rfl rfl
              refine lv_if_eq (tgt := 120) hx hb dX12_layBold_106 rfl (fun c_96 => ?_) (fun c_96 => ?_)
              · have c_96 : r_90.toInt = 0 := xI_eq rfl rfl c_96
                refine lv_lconst (v := 0) hx hb dX12_layBold_120 (by decide) ?_
                have fr_97 : Fr [] [] G_74 G_91 := (Fr.call9 (rs := []) (fs := []) Fr.rf hq_92 rfl rfl)
                have g_98 : gO G_91 = gO G_74 := gO_fr fr_97 (gr_q rfl) (gf_q rfl)
                refine S_last hx hb hK hW hS kd_106 (vin ((by first | (clear hP9 hW9 hO9 f_6 c_7 f_21 c_22 g_24 b_30 f_46 c_47 g_55 hn_59 f_57 f_58 c_60 hn_70 f_69 hn_83 f_82 g_98; omega) | omega)) ((by first | (clear hP9 hW9 hO9 f_6 c_7 f_21 c_22 g_24 b_30 f_46 c_47 g_55 hn_59 f_57 f_58 c_60 hn_70 f_69 hn_83 f_82 g_98; omega) | omega))) dX12_layBold_121 (fun G_99 H locs eG_99 hW hS => ?_)
                have hB_G_99 : Bd G_99 := hB_G_91.putl eG_99
                have hF := hF.putl eG_99 (Or.inl (by decide))
                have u_100 := p27_pos (x_65.toInt).toNat
                have u_101 : (0 : Int64).toInt = 0 := rfl
                have u_102 : gO G_99 = 1 := gO_put (x := y_87) (n := (x_65.toInt).toNat) (by omega) eG_99 (by omega) (by omega) (by omega) (by omega)
                obtain ⟨y_103, ey_103⟩ : ∃ q, q = x_78 + 1 := ⟨_, rfl⟩
                have ty_103 : y_103.toInt = x_78.toInt + 1 := xI_add rfl rfl ey_103 ((by first | (clear hP9 hW9 hO9 f_6 c_7 f_21 c_22 g_24 b_30 f_46 c_47 g_55 hn_59 f_57 f_58 c_60 hn_70 f_69 hn_83 f_82 g_98 u_102; omega) | omega)) ((by first | (clear hP9 hW9 hO9 f_6 c_7 f_21 c_22 g_24 b_30 f_46 c_47 g_55 hn_59 f_57 f_58 c_60 hn_70 f_69 hn_83 f_82 g_98 u_102; omega) | omega))
                refine lv_iinc (v := y_103) (lv' := [(7, .int y_103), (6, .int x_65), (0, .ref (a 66)), (5, .int p4)]) hx hb dX12_layBold_122 hl (k := 0) rfl (by rw [ey_103]; rfl) (lt_b rfl) rfl (fun ls hl => ?_)
                refine lv_goto (tgt := 79) hx hb dX12_layBold_125 rfl ?_
                exact ih_76 (400 - y_103.toInt : Int).toNat ((by first | (clear hP9 hW9 hO9 f_6 c_7 f_21 c_22 g_24 b_30 f_46 c_47 g_55 hn_59 f_57 f_58 c_60 f_69 f_82 g_98 u_102; omega) | omega)) _ _ _ ⟨G_99, y_103, (Int.toNat_of_nonneg ((by first | (clear hP9 hW9 hO9 f_6 c_7 f_21 c_22 g_24 b_30 f_46 c_47 g_55 hn_59 f_57 f_58 c_60 hn_70 f_69 hn_83 f_82 g_98 u_102; omega) | omega))), ⟨(by first | (clear hP9 hW9 hO9 f_6 c_7 f_21 c_22 g_24 b_30 f_46 c_47 g_55 hn_59 f_57 f_58 c_60 hn_70 f_69 hn_83 f_82 g_98 u_102; omega) | omega), (by first | (clear hP9 hW9 hO9 f_6 c_7 f_21 c_22 g_24 b_30 f_46 c_47 g_55 hn_59 f_57 f_58 c_60 hn_70 f_69 hn_83 f_82 g_98 u_102; omega) | omega)⟩, ((by first | (clear hP9 hW9 hO9 f_6 hp_4 c_7 f_21 d_1 d_2 c_22 g_24 d_3 d_4 d_5 d_6 d_7 d_8 b_30 u_32 u_33 u_34 u_35 b_36 b_37 b_38 b_39 b_40 f_46 d_9 d_10 c_47 g_55 hn_59 f_57 f_58 c_60 hn_70 f_68 f_69 c_71 hn_83 f_81 f_82 c_84 ty_86 ty_87 g_88 g_89 f_95 d_11 d_12 c_96 g_98 ty_103; omega) | omega)), (hX_79.st (St_n_layBold_3_mk ⟨x_78, G_74, y_103, G_99, rfl, rfl, f_81, f_82, hB_G_74, ⟨c_84, ⟨y_86, ty_86, ⟨y_87, ty_87, ⟨r_90, G_91, hX_94, (Or.inl ⟨c_96, ⟨y_103, ty_103, ⟨rfl, (Fr.putl (rs := [106]) (fs := []) Fr.rf eG_99 (Or.inl (by decide))), rl_ast eG_99⟩⟩⟩)⟩⟩⟩⟩⟩)), hW, hB_G_99, hF, (Fr.putl (rs := [106]) (fs := []) (Fr.call9 (rs := [106]) (fs := []) (Fr.call9 (rs := [106]) (fs := []) Fr.rf hq_75 rfl rfl) hq_92 rfl rfl) eG_99 (Or.inl (by decide))), hS, lv_sub hl [0, 1, 2, 3] rfl⟩
              · have c_96 : r_90.toInt ≠ 0 := xI_ne rfl rfl c_96
                refine lv_aload_n hx hb dX12_layBold_109 rfl (lv_at hl 2 rfl) ?_
                refine lv_iload hx hb dX12_layBold_110 (lv_at hl 0 rfl) ?_
                refine lv_iload hx hb dX12_layBold_112 (lv_at hl 1 rfl) ?_
                have g_104 : (G_91.1 66 61).toInt = (G_26.1 66 61).toInt := (congrArg Int32.toInt (show G_91.1 66 61 = (G_26.1 66 61) from ((hq_92.i9 66 61 rfl rfl).trans ((hq_75.i9 66 61 rfl rfl).trans ((hq_62.i9 66 61 rfl rfl).trans ((hq_49.i9 66 61 rfl rfl).trans ((hq_43.i9 66 61 rfl rfl).trans (rfl))))))))
                have g_105 : (G_91.1 66 62).toInt = (G_26.1 66 62).toInt := (congrArg Int32.toInt (show G_91.1 66 62 = (G_26.1 66 62) from ((hq_92.i9 66 62 rfl rfl).trans ((hq_75.i9 66 62 rfl rfl).trans ((hq_62.i9 66 62 rfl rfl).trans ((hq_49.i9 66 62 rfl rfl).trans ((hq_43.i9 66 62 rfl rfl).trans (rfl))))))))
                have g_106 : (G_91.1 66 61).toInt = (G_26.1 66 61).toInt := (congrArg Int32.toInt (show G_91.1 66 61 = (G_26.1 66 61) from ((hq_92.i9 66 61 rfl rfl).trans ((hq_75.i9 66 61 rfl rfl).trans ((hq_62.i9 66 61 rfl rfl).trans ((hq_49.i9 66 61 rfl rfl).trans ((hq_43.i9 66 61 rfl rfl).trans (rfl))))))))
                have g_107 : (G_91.1 66 62).toInt = (G_26.1 66 62).toInt := (congrArg Int32.toInt (show G_91.1 66 62 = (G_26.1 66 62) from ((hq_92.i9 66 62 rfl rfl).trans ((hq_75.i9 66 62 rfl rfl).trans ((hq_62.i9 66 62 rfl rfl).trans ((hq_49.i9 66 62 rfl rfl).trans ((hq_43.i9 66 62 rfl rfl).trans (rfl))))))))
                refine S_calll (va_runV (As := [.int x_78, .int x_65]) (rest := [.int y_87, .ref (a 106)]) ⟨hx, hb, hml, hown, hts⟩ (n_bestOdds l D k A a z G_91 x_78 x_65 ⟨(by first | (clear hP9 hW9 hO9 f_6 c_7 f_21 c_22 g_24 b_30 f_46 c_47 g_55 hn_59 f_57 f_58 c_60 hn_70 f_69 hn_83 f_82; omega) | omega), (by first | (clear hP9 hW9 hO9 f_6 c_7 f_21 c_22 g_24 b_30 f_46 c_47 g_55 hn_59 f_57 f_58 c_60 hn_70 f_69 hn_83 f_82; omega) | omega)⟩ ⟨(by first | (clear hP9 hW9 hO9 f_6 c_7 f_21 c_22 g_24 b_30 f_46 c_47 g_55 hn_59 f_57 f_58 c_60 hn_70 f_69 hn_83 f_82; omega) | omega), (by first | (clear hP9 hW9 hO9 f_6 c_7 f_21 c_22 g_24 b_30 f_46 c_47 g_55 hn_59 f_57 f_58 c_60 hn_70 f_69 hn_83 f_82; omega) | omega)⟩ ((by first | (clear hP9 hW9 hO9 f_21 d_1 d_2 c_22 g_24 g_55 hn_59 f_57 f_58 c_60 hn_70 f_69 hn_83 f_82; omega) | omega))) (cwV 2 hts (gd_V hgd m1947 m1949 m104 m131 m1950) rfl rfl rfl hd_X12_bestOdds ⟨Nat.le_of_ble_eq_true rfl, Nat.le_of_ble_eq_true rfl⟩) (pre_W hW hB_G_91 hK hZ hS kd_66 rfl) rfl rfl hl.1 rfl (lv_room (Nat.le_of_ble_eq_true rfl)) dX12_layBold_114 ⟨Nat.le_of_ble_eq_true rfl, Nat.le_of_ble_eq_true rfl⟩) hS (fun r_108 G_109 H locs hpo hW hS => ?_)
                have hX_112 : Q_bestOdds x_78 x_65 G_91 r_108 G_109 := hpo
                obtain ⟨hB_G_109, hq_110, hp_111, -⟩ := hpo
                have hF := hF.call9 hq_110 rfl rfl
                have fr_113 : Fr [] [] G_74 G_91 := (Fr.call9 (rs := []) (fs := []) Fr.rf hq_92 rfl rfl)
                have g_114 : gO G_91 = gO G_74 := gO_fr fr_113 (gr_q rfl) (gf_q rfl)
                have u_115 := bO_rng hB_G_91 (by omega) (by omega) (by omega) hp_111
                refine lv_goto (tgt := 121) hx hb dX12_layBold_117 rfl ?_
                have fr_116 : Fr [] [] G_74 G_109 := (Fr.call9 (rs := []) (fs := []) (Fr.call9 (rs := []) (fs := []) Fr.rf hq_92 rfl rfl) hq_110 rfl rfl)
                have g_117 : gO G_109 = gO G_74 := gO_fr fr_116 (gr_q rfl) (gf_q rfl)
                refine S_last hx hb hK hW hS kd_106 (vin ((by first | (clear hP9 hW9 hO9 f_6 c_7 f_21 c_22 g_24 b_30 f_46 c_47 g_55 hn_59 f_57 f_58 c_60 hn_70 f_69 hn_83 f_82 g_114 g_117; omega) | omega)) ((by first | (clear hP9 hW9 hO9 f_6 c_7 f_21 c_22 g_24 b_30 f_46 c_47 g_55 hn_59 f_57 f_58 c_60 hn_70 f_69 hn_83 f_82 g_114 g_117; omega) | omega))) dX12_layBold_121 (fun G_118 H locs eG_118 hW hS => ?_)
                have hB_G_118 : Bd G_118 := hB_G_109.putl eG_118
                have hF := hF.putl eG_118 (Or.inl (by decide))
                have u_119 : gO G_118 = 1 := gO_put (x := y_87) (n := (x_65.toInt).toNat) (by omega) eG_118 (by omega) (by omega) (by omega) (by omega)
                obtain ⟨y_120, ey_120⟩ : ∃ q, q = x_78 + 1 := ⟨_, rfl⟩
                have ty_120 : y_120.toInt = x_78.toInt + 1 := xI_add rfl rfl ey_120 ((by first | (clear hP9 hW9 hO9 f_6 c_7 f_21 c_22 g_24 b_30 f_46 c_47 g_55 hn_59 f_57 f_58 c_60 hn_70 f_69 hn_83 f_82 g_114 g_117 u_119; omega) | omega)) ((by first | (clear hP9 hW9 hO9 f_6 c_7 f_21 c_22 g_24 b_30 f_46 c_47 g_55 hn_59 f_57 f_58 c_60 hn_70 f_69 hn_83 f_82 g_114 g_117 u_119; omega) | omega))
                refine lv_iinc (v := y_120) (lv' := [(7, .int y_120), (6, .int x_65), (0, .ref (a 66)), (5, .int p4)]) hx hb dX12_layBold_122 hl (k := 0) rfl (by rw [ey_120]; rfl) (lt_b rfl) rfl (fun ls hl => ?_)
                refine lv_goto (tgt := 79) hx hb dX12_layBold_125 rfl ?_
                exact ih_76 (400 - y_120.toInt : Int).toNat ((by first | (clear hP9 hW9 hO9 f_6 c_7 f_21 c_22 g_24 b_30 f_46 c_47 g_55 hn_59 f_57 f_58 c_60 f_69 f_82 g_114 g_117 u_119; omega) | omega)) _ _ _ ⟨G_118, y_120, (Int.toNat_of_nonneg ((by first | (clear hP9 hW9 hO9 f_6 c_7 f_21 c_22 g_24 b_30 f_46 c_47 g_55 hn_59 f_57 f_58 c_60 hn_70 f_69 hn_83 f_82 g_114 g_117 u_119; omega) | omega))), ⟨(by first | (clear hP9 hW9 hO9 f_6 c_7 f_21 c_22 g_24 b_30 f_46 c_47 g_55 hn_59 f_57 f_58 c_60 hn_70 f_69 hn_83 f_82 g_114 g_117 u_119; omega) | omega), (by first | (clear hP9 hW9 hO9 f_6 c_7 f_21 c_22 g_24 b_30 f_46 c_47 g_55 hn_59 f_57 f_58 c_60 hn_70 f_69 hn_83 f_82 g_114 g_117 u_119; omega) | omega)⟩, ((by first | (clear hP9 hW9 hO9 f_6 hp_4 c_7 f_21 d_1 d_2 c_22 g_24 d_3 d_4 d_5 d_6 d_7 d_8 b_30 u_32 u_33 u_34 u_35 b_36 b_37 b_38 b_39 b_40 f_46 d_9 d_10 c_47 g_55 hn_59 f_57 f_58 c_60 hn_70 f_68 f_69 c_71 hn_83 f_81 f_82 c_84 ty_86 ty_87 g_88 g_89 f_95 d_11 d_12 c_96 g_104 g_105 g_106 g_107 g_114 g_117 ty_120; omega) | omega)), (hX_79.st (St_n_layBold_3_mk ⟨x_78, G_74, y_120, G_118, rfl, rfl, f_81, f_82, hB_G_74, ⟨c_84, ⟨y_86, ty_86, ⟨y_87, ty_87, ⟨r_90, G_91, hX_94, (Or.inr ⟨c_96, ⟨r_108, G_109, hX_112, ⟨y_120, ty_120, ⟨rfl, (Fr.putl (rs := [106]) (fs := []) Fr.rf eG_118 (Or.inl (by decide))), rl_ast eG_118⟩⟩⟩⟩)⟩⟩⟩⟩⟩)), hW, hB_G_118, hF, (Fr.putl (rs := [106]) (fs := []) (Fr.call9 (rs := [106]) (fs := []) (Fr.call9 (rs := [106]) (fs := []) (Fr.call9 (rs := [106]) (fs := []) Fr.rf hq_75 rfl rfl) hq_92 rfl rfl) hq_110 rfl rfl) eG_118 (Or.inl (by decide))), hS, lv_sub hl [0, 1, 2, 3] rfl⟩
        · have c_60 : x_52.toInt < 512 := xI_nle rfl rfl c_60
          refine lv_aload_n hx hb dX12_layBold_52 rfl (lv_at hl 1 rfl) ?_
          refine S_getR (n := 106) (C := RX12) (T := TX12) (N := 89) hx hb hg iX12 hown hK hW kd_66 rfl 72 (lt_b rfl) (hg (Cond.fieldLink RX12 139 "SlabWalkModel" "odds" "[J") m1386) (fun _ h9 => h9) rfl dX12_layBold_53 ?_
          refine lv_iload hx hb dX12_layBold_56 (lv_at hl 0 rfl) ?_
          refine lv_lconst (v := 1) hx hb dX12_layBold_58 (by decide) ?_
          refine S_last hx hb hK hW hS kd_106 (vin ((by first | (clear hP9 hW9 hO9 f_6 hp_4 c_7 f_21 d_1 d_2 c_22 g_24 d_3 d_4 d_5 d_6 d_7 d_8 b_30 u_32 u_33 u_34 u_35 b_36 b_37 b_38 b_39 b_40 f_46 d_9 d_10 c_47 g_55 hn_59 f_58; omega) | omega)) ((by first | (clear hP9 hW9 hO9 f_6 hp_4 c_7 f_21 d_1 d_2 c_22 g_24 d_3 d_4 d_5 d_6 d_7 d_8 b_30 u_32 u_33 u_34 u_35 b_36 b_37 b_38 b_39 b_40 f_46 d_9 d_10 c_47 g_55 hn_59 f_58; omega) | omega))) dX12_layBold_59 (fun G_121 H locs eG_121 hW hS => ?_)
          have hB_G_121 : Bd G_121 := hB_G_48.putl eG_121
          have hF := hF.putl eG_121 (Or.inl (by decide))
          have u_122 : gO G_121 = 1 := gO_put (x := x_52) (n := 0) (by omega) eG_121 (by omega) (by omega) (by decide) (by decide)
          obtain ⟨y_123, ey_123⟩ : ∃ q, q = x_52 + 1 := ⟨_, rfl⟩
          have ty_123 : y_123.toInt = x_52.toInt + 1 := xI_add rfl rfl ey_123 ((by first | (clear hP9 hW9 hO9 f_6 hp_4 c_7 f_21 d_1 d_2 c_22 g_24 d_3 d_4 d_5 d_6 d_7 d_8 b_30 u_32 u_33 u_34 u_35 b_36 b_37 b_38 b_39 b_40 f_46 d_9 d_10 c_47 g_55 hn_59 f_58 u_122; omega) | omega)) ((by first | (clear hP9 hW9 hO9 f_6 hp_4 c_7 f_21 d_1 d_2 c_22 g_24 d_3 d_4 d_5 d_6 d_7 d_8 b_30 u_32 u_33 u_34 u_35 b_36 b_37 b_38 b_39 b_40 f_46 d_9 d_10 c_47 g_55 hn_59 f_58 u_122; omega) | omega))
          refine lv_iinc (v := y_123) (lv' := [(6, .int y_123), (0, .ref (a 66)), (5, .int p4)]) hx hb dX12_layBold_60 hl (k := 0) rfl (by rw [ey_123]; rfl) (lt_b rfl) rfl (fun ls hl => ?_)
          refine lv_goto (tgt := 44) hx hb dX12_layBold_63 rfl ?_
          exact ih_50 (512 - y_123.toInt : Int).toNat ((by first | (clear hP9 hW9 hO9 f_6 hp_4 c_7 f_21 d_1 d_2 c_22 g_24 d_3 d_4 d_5 d_6 d_7 d_8 b_30 u_32 u_33 u_34 u_35 b_36 b_37 b_38 b_39 b_40 f_46 d_9 d_10 c_47 g_55 f_58 u_122; omega) | omega)) _ _ _ ⟨G_121, y_123, (Int.toNat_of_nonneg ((by first | (clear hP9 hW9 hO9 f_6 hp_4 c_7 f_21 d_1 d_2 c_22 g_24 d_3 d_4 d_5 d_6 d_7 d_8 b_30 u_32 u_33 u_34 u_35 b_36 b_37 b_38 b_39 b_40 f_46 d_9 d_10 c_47 g_55 hn_59 f_58 u_122; omega) | omega))), ⟨(by first | (clear hP9 hW9 hO9 f_6 hp_4 c_7 f_21 d_1 d_2 c_22 g_24 d_3 d_4 d_5 d_6 d_7 d_8 b_30 u_32 u_33 u_34 u_35 b_36 b_37 b_38 b_39 b_40 f_46 d_9 d_10 c_47 g_55 hn_59 f_58 u_122; omega) | omega), (by first | (clear hP9 hW9 hO9 f_6 hp_4 c_7 f_21 d_1 d_2 c_22 g_24 d_3 d_4 d_5 d_6 d_7 d_8 b_30 u_32 u_33 u_34 u_35 b_36 b_37 b_38 b_39 b_40 f_46 d_9 d_10 c_47 g_55 hn_59 f_58 u_122; omega) | omega)⟩, ((by first | (clear hP9 hW9 hO9 f_6 hp_4 c_7 f_21 d_1 d_2 c_22 g_24 d_3 d_4 d_5 d_6 d_7 d_8 b_30 u_32 u_33 u_34 u_35 b_36 b_37 b_38 b_39 b_40 f_46 d_9 d_10 c_47 g_55 hn_59 f_57 f_58 c_60 ty_123; omega) | omega)), (hX_53.st (St_n_layBold_1_mk ⟨x_52, G_48, y_123, G_121, rfl, rfl, f_57, f_58, hB_G_48, ⟨c_60, ⟨y_123, ty_123, ⟨rfl, (Fr.putl (rs := [106]) (fs := []) Fr.rf eG_121 (Or.inl (by decide))), rl_ast eG_121⟩⟩⟩⟩)), hW, hB_G_121, hF, (Fr.putl (rs := [106]) (fs := []) (Fr.call9 (rs := [106]) (fs := []) Fr.rf hq_49 rfl rfl) eG_121 (Or.inl (by decide))), hS, lv_sub hl [0, 1, 2] rfl⟩
      · have c_47 : r_41.toInt = 0 := xI_eq rfl rfl c_47
        refine ic_0 hx hb dX12_layBold_39 ?_
        have fr_124 : Fr [76, 97, 98] [(66, 59), (66, 60), (66, 61), (66, 62), (66, 63)] G G_42 := (Fr.call9 (rs := [76, 97, 98]) (fs := [(66, 59), (66, 60), (66, 61), (66, 62), (66, 63)]) (Fr.call9 (rs := [76, 97, 98]) (fs := [(66, 59), (66, 60), (66, 61), (66, 62), (66, 63)]) (Fr.call9 (rs := [76, 97, 98]) (fs := [(66, 59), (66, 60), (66, 61), (66, 62), (66, 63)]) (Fr.call9 (rs := [76, 97, 98]) (fs := [(66, 59), (66, 60), (66, 61), (66, 62), (66, 63)]) Fr.rf hq_3 rfl rfl) hq_18 rfl rfl) hq_27 rfl rfl) hq_43 rfl rfl)
        have g_125 : gO G_42 = gO G := gO_fr fr_124 (gr_q rfl) (gf_q rfl)
        have g_126 : (G_42.1 66 61).toInt = (G_26.1 66 61).toInt := (congrArg Int32.toInt (show G_42.1 66 61 = (G_26.1 66 61) from ((hq_43.i9 66 61 rfl rfl).trans (rfl))))
        have g_127 : (G_42.1 66 62).toInt = (G_26.1 66 62).toInt := (congrArg Int32.toInt (show G_42.1 66 62 = (G_26.1 66 62) from ((hq_43.i9 66 62 rfl rfl).trans (rfl))))
        exact W.zret (v := 0) hx hb hr (by decide) (fun t ht _ => ⟨⟨0, G_42, rfl, (Q_layBold_mk ⟨hB_G_42, hF, ⟨by decide, by decide⟩, (by have hq : (0 : Int32).toInt = 0 := rfl; (try dsimp only); omega), ⟨r_1, G_2, hX_5, (Or.inr ⟨c_7, ⟨r_16, G_17, hX_20, (Or.inr ⟨c_22, ⟨G_26, hX_29, ⟨r_41, G_42, hX_45, (Or.inl ⟨c_47, ⟨rfl, rfl⟩⟩)⟩⟩⟩)⟩⟩)⟩⟩), wd_t ht hW⟩, hS.F ht⟩) hS.2.2 dX12_layBold_40
    · have c_22 : r_16.toInt = 0 := xI_eq rfl rfl c_22
      refine ic_0 hx hb dX12_layBold_21 ?_
      have fr_128 : Fr [] [] G G_17 := (Fr.call9 (rs := []) (fs := []) (Fr.call9 (rs := []) (fs := []) Fr.rf hq_3 rfl rfl) hq_18 rfl rfl)
      have g_129 : gO G_17 = gO G := gO_fr fr_128 (gr_q rfl) (gf_q rfl)
      have b_130 : 0 ≤ (G.1 66 61).toInt ∧ (G.1 66 61).toInt ≤ 60 := bd_66_61 hB_G
      have g_131 : (G_17.1 66 61).toInt = (G.1 66 61).toInt := (congrArg Int32.toInt (show G_17.1 66 61 = (G.1 66 61) from ((hq_18.i9 66 61 rfl rfl).trans (hq_3.i9 66 61 rfl rfl))))
      have b_132 : 0 ≤ (G.1 66 62).toInt ∧ (G.1 66 62).toInt ≤ 60 := bd_66_62 hB_G
      have g_133 : (G_17.1 66 62).toInt = (G.1 66 62).toInt := (congrArg Int32.toInt (show G_17.1 66 62 = (G.1 66 62) from ((hq_18.i9 66 62 rfl rfl).trans (hq_3.i9 66 62 rfl rfl))))
      exact W.zret (v := 0) hx hb hr (by decide) (fun t ht _ => ⟨⟨0, G_17, rfl, (Q_layBold_mk ⟨hB_G_17, hF, ⟨by decide, by decide⟩, (by have hq : (0 : Int32).toInt = 0 := rfl; (try dsimp only); omega), ⟨r_1, G_2, hX_5, (Or.inr ⟨c_7, ⟨r_16, G_17, hX_20, (Or.inl ⟨c_22, ⟨rfl, rfl⟩⟩)⟩⟩)⟩⟩), wd_t ht hW⟩, hS.F ht⟩) hS.2.2 dX12_layBold_22

set_option maxHeartbeats 4000000 in
set_option maxRecDepth 100000 in
theorem n_brave (l : Launch) (D : va_G) (k : KT) (A : Nat → Prop) (a : Nat → Nat) (z : SK) (G : GS) (p0 : Int32) (p1 : Int32) (p2 : Int32) (p3 : Int32) (p4 : Int32) (hP9 : gP G = 1) (hW9 : gW G = 1) (hO9 : gO G = 1) : Met l yX12_brave (WS yX12_brave cX12_brave 6 (some .long)) ({ frames := 6, cells := 0, slots := 0, locals := 144 }) (va_Pc [.ref (a 66), .int p0, .int p1, .int p2, .int p3, .int p4] (cW D k A a z G)) (va_Ql (fun (r : Int64) (G1 : GS) => Q_brave p0 p1 p2 p3 p4 G r G1) (fun (G1 : GS) t => Wd D k A a G1 t.heap) A) 0 0 A := by
  refine Met.ofW (cc := cX12_brave) (maxL := 6) (ret := (some .long)) (by decide) rfl ?_
  intro p e s m args below meth c s₁ B hml hv
  obtain ⟨rfl, hW, hB_G, hK, hZ⟩ := hv
  have hx := B.exec
  have hb := B.bytes
  have hr := B.returns
  have hts := atoms_spec (ws := WS yX12_brave cX12_brave 6 (some .long)) B.pre
  have hgd : ∀ w ∈ gd, w ∈ WS yX12_brave cX12_brave 6 (some .long) := fun w h => List.mem_cons_of_mem _ h
  have hg : ∀ w ∈ gd, w.before _ s = true := fun w h => hts w (hgd w h)
  have hown : s.vm.findClass RX12 = some m.cls := findClass_of_methodNamed B.named
  have hS : va_S A s.heap s.heap [] := va_S.rf
  have hF : Fr [106, 76, 97, 98] [(66, 59), (66, 60), (66, 61), (66, 62), (66, 63)] G G := Fr.rf
  have hl := lv_entry ([.ref (a 66), .int p0, .int p1, .int p2, .int p3, .int p4]) (n := 6) (Nat.le_of_ble_eq_true rfl)
  rw [lg_entry_eq]
  generalize (lg_sl ([.ref (a 66), .int p0, .int p1, .int p2, .int p3, .int p4]) ++ List.replicate (6 - (lg_sl ([.ref (a 66), .int p0, .int p1, .int p2, .int p3, .int p4])).length) Slot.unset).toArray = ls at hl ⊢
  have hl : lv_has ls 6 [(0, .ref (a 66)), (1, .int p0), (2, .int p1), (3, .int p2), (4, .int p3), (5, .int p4)] := hl
  refine lv_aload_n hx hb dX12_brave_0 rfl (lv_at hl 0 rfl) ?_
  refine lv_iload_n hx hb dX12_brave_1 rfl (lv_at hl 1 rfl) ?_
  refine lv_iload_n hx hb dX12_brave_2 rfl (lv_at hl 2 rfl) ?_
  refine lv_iload_n hx hb dX12_brave_3 rfl (lv_at hl 3 rfl) ?_
  refine lv_iload hx hb dX12_brave_4 (lv_at hl 4 rfl) ?_
  refine lv_iload hx hb dX12_brave_6 (lv_at hl 5 rfl) ?_
  refine S_calli (va_runV (As := [.int p0, .int p1, .int p2, .int p3, .int p4]) (rest := []) ⟨hx, hb, hml, hown, hts⟩ (n_layBold l D k A a z G p0 p1 p2 p3 p4 (by omega) (by omega) (by omega)) (cwV 5 hts (gd_V hgd m1943 m1945 m103 m131 m1946) rfl rfl rfl hd_X12_layBold ⟨Nat.le_of_ble_eq_true rfl, Nat.le_of_ble_eq_true rfl⟩) (pre_W hW hB_G hK hZ hS kd_66 rfl) rfl rfl hl.1 rfl (lv_room (Nat.le_of_ble_eq_true rfl)) dX12_brave_8 ⟨Nat.le_of_ble_eq_true rfl, Nat.le_of_ble_eq_true rfl⟩) hS (fun r_1 G_2 H locs hpo hW hS => ?_)
  have hX_5 : Q_layBold p0 p1 p2 p3 p4 G r_1 G_2 := hpo
  obtain ⟨hB_G_2, hq_3, f_6, ⟨d_1, d_2⟩, -⟩ := hpo
  have hF := hF.call9 hq_3 rfl rfl
  refine lv_if_eq (tgt := 25) hx hb dX12_brave_11 rfl (fun c_7 => ?_) (fun c_7 => ?_)
  · have c_7 : r_1.toInt = 0 := xI_eq rfl rfl c_7
    refine lv_ldc2 (v := (-1)) hx hb hown (hg (Cond.constantLong RX12 517 (-1)) m1874) dX12_brave_25 ?_
    exact W.lret (v := (-1)) hx hb hr (fun t ht _ => ⟨⟨(-1), G_2, rfl, (Q_brave_mk ⟨hB_G_2, hF, (by have hq : ((-1) : Int32).toInt = (-1) := rfl; (try dsimp only); omega), ⟨r_1, G_2, hX_5, (Or.inl ⟨c_7, ⟨rfl, rfl⟩⟩)⟩⟩), wd_t ht hW⟩, hS.F ht⟩) hS.2.2 dX12_brave_28
  · have c_7 : r_1.toInt ≠ 0 := xI_ne rfl rfl c_7
    refine lv_aload_n hx hb dX12_brave_14 rfl (lv_at hl 0 rfl) ?_
    refine lv_iload hx hb dX12_brave_15 (lv_at hl 4 rfl) ?_
    refine lv_iload hx hb dX12_brave_17 (lv_at hl 5 rfl) ?_
    have b_8 : 0 ≤ (G_2.1 66 61).toInt ∧ (G_2.1 66 61).toInt ≤ 60 := bd_66_61 hB_G_2
    have b_9 : 0 ≤ (G_2.1 66 62).toInt ∧ (G_2.1 66 62).toInt ≤ 60 := bd_66_62 hB_G_2
    refine S_calll (va_runV (As := [.int p3, .int p4]) (rest := []) ⟨hx, hb, hml, hown, hts⟩ (n_bestOdds l D k A a z G_2 p3 p4 ⟨(by first | (clear hP9 hW9 hO9 d_1; omega) | omega), (by first | (clear hP9 hW9 hO9 d_1; omega) | omega)⟩ ⟨(by first | (clear hP9 hW9 hO9 d_1; omega) | omega), (by first | (clear hP9 hW9 hO9 d_1; omega) | omega)⟩ ((by first | (clear hP9 hW9 hO9 d_1; omega) | omega))) (cwV 2 hts (gd_V hgd m1947 m1949 m104 m131 m1950) rfl rfl rfl hd_X12_bestOdds ⟨Nat.le_of_ble_eq_true rfl, Nat.le_of_ble_eq_true rfl⟩) (pre_W hW hB_G_2 hK hZ hS kd_66 rfl) rfl rfl hl.1 rfl (lv_room (Nat.le_of_ble_eq_true rfl)) dX12_brave_19 ⟨Nat.le_of_ble_eq_true rfl, Nat.le_of_ble_eq_true rfl⟩) hS (fun r_10 G_11 H locs hpo hW hS => ?_)
    have hX_14 : Q_bestOdds p3 p4 G_2 r_10 G_11 := hpo
    obtain ⟨hB_G_11, hq_12, hp_13, -⟩ := hpo
    have hF := hF.call9 hq_12 rfl rfl
    refine lv_goto (tgt := 28) hx hb dX12_brave_22 rfl ?_
    have fr_15 : Fr [] [] G_2 G_11 := (Fr.call9 (rs := []) (fs := []) Fr.rf hq_12 rfl rfl)
    have g_16 : gO G_11 = gO G_2 := gO_fr fr_15 (gr_q rfl) (gf_q rfl)
    exact W.lret (v := r_10) hx hb hr (fun t ht _ => ⟨⟨r_10, G_11, rfl, (Q_brave_mk ⟨hB_G_11, hF, ((by first | (clear hP9 hW9 hO9 f_6 d_2 c_7 b_8 b_9; omega) | omega)), ⟨r_1, G_2, hX_5, (Or.inr ⟨c_7, ⟨r_10, G_11, hX_14, ⟨rfl, rfl⟩⟩⟩)⟩⟩), wd_t ht hW⟩, hS.F ht⟩) hS.2.2 dX12_brave_28

set_option maxHeartbeats 4000000 in
set_option maxRecDepth 100000 in
theorem n_boldest (l : Launch) (D : va_G) (k : KT) (A : Nat → Prop) (a : Nat → Nat) (z : SK) (G : GS) (p0 : Int32) (p1 : Int32) (p2 : Int32) (p3 : Int32) (p4 : Int32) (hP9 : gP G = 1) (hW9 : gW G = 1) (hO9 : gO G = 1) : Met l yX12_boldest (WS yX12_boldest cX12_boldest 9 (some .int)) ({ frames := 6, cells := 0, slots := 0, locals := 144 }) (va_Pc [.ref (a 66), .int p0, .int p1, .int p2, .int p3, .int p4] (cW D k A a z G)) (va_Qi (fun (r : Int32) (G1 : GS) => Q_boldest p0 p1 p2 p3 p4 G r G1) (fun (G1 : GS) t => Wd D k A a G1 t.heap) A) 0 0 A := by
  refine Met.ofW (cc := cX12_boldest) (maxL := 9) (ret := (some .int)) (by decide) rfl ?_
  intro p e s m args below meth c s₁ B hml hv
  obtain ⟨rfl, hW, hB_G, hK, hZ⟩ := hv
  have hx := B.exec
  have hb := B.bytes
  have hr := B.returns
  have hts := atoms_spec (ws := WS yX12_boldest cX12_boldest 9 (some .int)) B.pre
  have hgd : ∀ w ∈ gd, w ∈ WS yX12_boldest cX12_boldest 9 (some .int) := fun w h => List.mem_cons_of_mem _ h
  have hg : ∀ w ∈ gd, w.before _ s = true := fun w h => hts w (hgd w h)
  have hown : s.vm.findClass RX12 = some m.cls := findClass_of_methodNamed B.named
  have hS : va_S A s.heap s.heap [] := va_S.rf
  have hF : Fr [106, 76, 97, 98] [(66, 59), (66, 60), (66, 61), (66, 62), (66, 63)] G G := Fr.rf
  have hl := lv_entry ([.ref (a 66), .int p0, .int p1, .int p2, .int p3, .int p4]) (n := 9) (Nat.le_of_ble_eq_true rfl)
  rw [lg_entry_eq]
  generalize (lg_sl ([.ref (a 66), .int p0, .int p1, .int p2, .int p3, .int p4]) ++ List.replicate (9 - (lg_sl ([.ref (a 66), .int p0, .int p1, .int p2, .int p3, .int p4])).length) Slot.unset).toArray = ls at hl ⊢
  have hl : lv_has ls 9 [(0, .ref (a 66)), (1, .int p0), (2, .int p1), (3, .int p2), (4, .int p3), (5, .int p4)] := hl
  refine lv_aload_n hx hb dX12_boldest_0 rfl (lv_at hl 0 rfl) ?_
  refine lv_iload_n hx hb dX12_boldest_1 rfl (lv_at hl 1 rfl) ?_
  refine lv_iload_n hx hb dX12_boldest_2 rfl (lv_at hl 2 rfl) ?_
  refine lv_iload_n hx hb dX12_boldest_3 rfl (lv_at hl 3 rfl) ?_
  refine lv_iload hx hb dX12_boldest_4 (lv_at hl 4 rfl) ?_
  refine lv_iload hx hb dX12_boldest_6 (lv_at hl 5 rfl) ?_
  refine S_calli (va_runV (As := [.int p0, .int p1, .int p2, .int p3, .int p4]) (rest := []) ⟨hx, hb, hml, hown, hts⟩ (n_layBold l D k A a z G p0 p1 p2 p3 p4 (by omega) (by omega) (by omega)) (cwV 5 hts (gd_V hgd m1943 m1945 m103 m131 m1946) rfl rfl rfl hd_X12_layBold ⟨Nat.le_of_ble_eq_true rfl, Nat.le_of_ble_eq_true rfl⟩) (pre_W hW hB_G hK hZ hS kd_66 rfl) rfl rfl hl.1 rfl (lv_room (Nat.le_of_ble_eq_true rfl)) dX12_boldest_8 ⟨Nat.le_of_ble_eq_true rfl, Nat.le_of_ble_eq_true rfl⟩) hS (fun r_1 G_2 H locs hpo hW hS => ?_)
  have hX_5 : Q_layBold p0 p1 p2 p3 p4 G r_1 G_2 := hpo
  obtain ⟨hB_G_2, hq_3, f_6, ⟨d_1, d_2⟩, -⟩ := hpo
  have hF := hF.call9 hq_3 rfl rfl
  refine lv_if_ne (tgt := 16) hx hb dX12_boldest_11 rfl (fun c_7 => ?_) (fun c_7 => ?_)
  · have c_7 : r_1.toInt ≠ 0 := xI_ne rfl rfl c_7
    refine lv_aload_n hx hb dX12_boldest_16 rfl (lv_at hl 0 rfl) ?_
    refine lv_iload hx hb dX12_boldest_17 (lv_at hl 4 rfl) ?_
    refine lv_iload hx hb dX12_boldest_19 (lv_at hl 5 rfl) ?_
    have b_8 : 0 ≤ (G_2.1 66 61).toInt ∧ (G_2.1 66 61).toInt ≤ 60 := bd_66_61 hB_G_2
    have b_9 : 0 ≤ (G_2.1 66 62).toInt ∧ (G_2.1 66 62).toInt ≤ 60 := bd_66_62 hB_G_2
    refine S_calll (va_runV (As := [.int p3, .int p4]) (rest := []) ⟨hx, hb, hml, hown, hts⟩ (n_bestOdds l D k A a z G_2 p3 p4 ⟨(by first | (clear hP9 hW9 hO9 d_1; omega) | omega), (by first | (clear hP9 hW9 hO9 d_1; omega) | omega)⟩ ⟨(by first | (clear hP9 hW9 hO9 d_1; omega) | omega), (by first | (clear hP9 hW9 hO9 d_1; omega) | omega)⟩ ((by first | (clear hP9 hW9 hO9 d_1; omega) | omega))) (cwV 2 hts (gd_V hgd m1947 m1949 m104 m131 m1950) rfl rfl rfl hd_X12_bestOdds ⟨Nat.le_of_ble_eq_true rfl, Nat.le_of_ble_eq_true rfl⟩) (pre_W hW hB_G_2 hK hZ hS kd_66 rfl) rfl rfl hl.1 rfl (lv_room (Nat.le_of_ble_eq_true rfl)) dX12_boldest_21 ⟨Nat.le_of_ble_eq_true rfl, Nat.le_of_ble_eq_true rfl⟩) hS (fun r_10 G_11 H locs hpo hW hS => ?_)
    have hX_14 : Q_bestOdds p3 p4 G_2 r_10 G_11 := hpo
    obtain ⟨hB_G_11, hq_12, hp_13, -⟩ := hpo
    have hF := hF.call9 hq_12 rfl rfl
    obtain ⟨b9, hb1, hb2, hb3⟩ := bO_wit hp_13 (by omega) (fun b _ _ => (oF_rng hB_G_2 (by omega) (by omega) (by omega)).1)
    refine lv_lstore (lv' := [(6, .long r_10), (0, .ref (a 66)), (1, .int p0), (2, .int p1), (3, .int p2), (4, .int p3), (5, .int p4)]) hx hb dX12_boldest_24 hl (lt_b rfl) rfl (fun ls hl => ?_)
    refine lv_aload_n hx hb dX12_boldest_26 rfl (lv_at hl 1 rfl) ?_
    refine S_getI (v := (G_2.1 66 61)) (C := RX12) (T := TX12) (N := 89) hx hb hg iX12 hown hK hW kd_66 rfl 61 (lt_b rfl) (hg (Cond.fieldLink RX12 475 "SlabWalkModel" "least" "I") m1375) (fun _ h9 => h9) rfl ((hq_12.i9 66 61 rfl rfl).trans (rfl)) dX12_boldest_27 ?_
    refine lv_istore (lv' := [(8, .int (G_2.1 66 61)), (6, .long r_10), (0, .ref (a 66)), (1, .int p0), (2, .int p1), (3, .int p2), (4, .int p3), (5, .int p4)]) hx hb dX12_boldest_30 hl (lt_b rfl) rfl (fun ls hl => ?_)
    refine loop_N (Inv := fun n H locs ls => ∃ (G_15 : GS) (x_19 : Int32), (n : Int) = b9 - x_19.toInt ∧ (0 ≤ x_19.toInt ∧ x_19.toInt ≤ 60) ∧ (x_19.toInt ≤ b9) ∧ Rc (St_n_boldest_1 p3 p4 r_10) ((G_2.1 66 61), G_11) (x_19, G_15) ∧ Wd D k A a G_15 H ∧ Bd G_15 ∧ Fr [106, 76, 97, 98] [(66, 59), (66, 60), (66, 61), (66, 62), (66, 63)] G G_15 ∧ Fr [] [] G_11 G_15 ∧ va_S A s.heap H locs ∧ lv_has ls 9 [(8, .int x_19), (6, .long r_10), (0, .ref (a 66)), (4, .int p3), (5, .int p4)]) (fun n_18 H locs ls ih_17 hI => ?_) (b9 - (G_2.1 66 61).toInt : Int).toNat ⟨G_11, (G_2.1 66 61), (Int.toNat_of_nonneg ((by first | (clear hP9 hW9 hO9 d_1; omega) | omega))), ⟨(by first | (clear hP9 hW9 hO9 d_1; omega) | omega), (by first | (clear hP9 hW9 hO9 d_1; omega) | omega)⟩, ((by first | (clear hP9 hW9 hO9 d_1; omega) | omega)), Rc.rf, hW, hB_G_11, hF, Fr.rf, hS, lv_sub hl [0, 1, 2, 6, 7] rfl⟩
    obtain ⟨G_15, x_19, hn_23, f_21, f_22, hX_20, hW, hB_G_15, hF, hq_16, hS, hl⟩ := hI
    refine lv_aload_n hx hb dX12_boldest_32 rfl (lv_at hl 2 rfl) ?_
    refine lv_iload hx hb dX12_boldest_33 (lv_at hl 3 rfl) ?_
    refine lv_iload hx hb dX12_boldest_35 (lv_at hl 0 rfl) ?_
    refine lv_iload hx hb dX12_boldest_37 (lv_at hl 4 rfl) ?_
    refine lv_aload_n hx hb dX12_boldest_39 rfl (lv_at hl 2 rfl) ?_
    refine lv_iload hx hb dX12_boldest_40 (lv_at hl 4 rfl) ?_
    refine ic_1 hx hb dX12_boldest_42 ?_
    refine lv_isub hx hb dX12_boldest_43 ?_
    refine lv_topi (fun y_24 ey_24 => ?_)
    have ty_24 : y_24.toInt = p4.toInt - 1 := xI_sub rfl rfl ey_24 ((by first | (clear hP9 hW9 hO9 d_1 hn_23 f_21 f_22; omega) | omega)) ((by first | (clear hP9 hW9 hO9 d_1 hn_23 f_21 f_22; omega) | omega))
    refine S_calll (va_runV (As := [.int y_24]) (rest := [.int p4, .int x_19, .int p3, .ref (a 66)]) ⟨hx, hb, hml, hown, hts⟩ (n_rest l D k A a z G_15 y_24 ⟨(by first | (clear hP9 hW9 hO9 d_1 hn_23 f_21 f_22; omega) | omega), (by first | (clear hP9 hW9 hO9 d_1 hn_23 f_21 f_22; omega) | omega)⟩) (cwV 1 hts (gd_V hgd m1951 m1953 m105 m131 m1954) rfl rfl rfl hd_X12_rest ⟨Nat.le_of_ble_eq_true rfl, Nat.le_of_ble_eq_true rfl⟩) (pre_W hW hB_G_15 hK hZ hS kd_66 rfl) rfl rfl hl.1 rfl (lv_room (Nat.le_of_ble_eq_true rfl)) dX12_boldest_44 ⟨Nat.le_of_ble_eq_true rfl, Nat.le_of_ble_eq_true rfl⟩) hS (fun r_25 G_26 H locs hpo hW hS => ?_)
    have hX_29 : Q_rest y_24 G_15 r_25 G_26 := hpo
    obtain ⟨hB_G_26, hq_27, hp_28, -⟩ := hpo
    have hF := hF.call9 hq_27 rfl rfl
    have b_30 : 0 ≤ (G_2.1 66 59).toInt ∧ (G_2.1 66 59).toInt ≤ 400 := bd_66_59 hB_G_2
    have g_31 : (G_26.1 66 59).toInt = (G_2.1 66 59).toInt := (congrArg Int32.toInt (show G_26.1 66 59 = (G_2.1 66 59) from ((hq_27.i9 66 59 rfl rfl).trans ((hq_16.i9 66 59 rfl rfl).trans (hq_12.i9 66 59 rfl rfl)))))
    have b_32 : 0 ≤ (G_2.1 66 60).toInt ∧ (G_2.1 66 60).toInt ≤ 12 := bd_66_60 hB_G_2
    have g_33 : (G_26.1 66 60).toInt = (G_2.1 66 60).toInt := (congrArg Int32.toInt (show G_26.1 66 60 = (G_2.1 66 60) from ((hq_27.i9 66 60 rfl rfl).trans ((hq_16.i9 66 60 rfl rfl).trans (hq_12.i9 66 60 rfl rfl)))))
    refine S_calll (va_runV (As := [.int p3, .int x_19, .int p4, .long r_25]) (rest := []) ⟨hx, hb, hml, hown, hts⟩ (n_oddsBy l D k A a z G_26 p3 x_19 p4 r_25 ⟨(by first | (clear hP9 hW9 hO9 d_1 hn_23 f_21 f_22 b_30 g_31 b_32 g_33; omega) | omega), (by first | (clear hP9 hW9 hO9 d_1 hn_23 f_21 f_22 b_30 g_31 b_32 g_33; omega) | omega)⟩ ⟨(by first | (clear hP9 hW9 hO9 f_6 d_1 d_2 c_7 b_8 b_9 hn_23 ty_24 hp_28 b_30 g_31 b_32 g_33; omega) | omega), (by first | (clear hP9 hW9 hO9 f_6 d_1 d_2 c_7 b_8 b_9 hn_23 ty_24 hp_28 b_30 g_31 b_32 g_33; omega) | omega)⟩ ⟨(by first | (clear hP9 hW9 hO9 d_1 hn_23 f_21 f_22 b_30 g_31 b_32 g_33; omega) | omega), (by first | (clear hP9 hW9 hO9 d_1 hn_23 f_21 f_22 b_30 g_31 b_32 g_33; omega) | omega)⟩) (cwV 4 hts (gd_V hgd m1959 m1961 m107 m131 m1962) rfl rfl rfl hd_X12_oddsBy ⟨Nat.le_of_ble_eq_true rfl, Nat.le_of_ble_eq_true rfl⟩) (pre_W hW hB_G_26 hK hZ hS kd_66 rfl) rfl rfl hl.1 rfl (lv_room (Nat.le_of_ble_eq_true rfl)) dX12_boldest_47 ⟨Nat.le_of_ble_eq_true rfl, Nat.le_of_ble_eq_true rfl⟩) hS (fun r_34 G_35 H locs hpo hW hS => ?_)
    have hX_38 : Q_oddsBy p3 x_19 p4 r_25 G_26 r_34 G_35 := hpo
    obtain ⟨hB_G_35, hq_36, hp_37, -⟩ := hpo
    have hF := hF.call9 hq_36 rfl rfl
    have hof_ : r_34 = oF G_2 p3.toInt p4.toInt x_19.toInt := oF_of (f0 := ((Fr.rf.call hq_12 (by decide) (by decide)).call hq_16 (by decide) (by decide))) (f := (((Fr.rf.call hq_12 (by decide) (by decide)).call hq_16 (by decide) (by decide)).call hq_27 (by decide) (by decide))) hp_37 hp_28 (by omega) (by omega)
    refine lv_lload hx hb dX12_boldest_50 (lv_at hl 1 rfl) ?_
    refine W.lcmp hx hb dX12_boldest_52 ?_
    refine lv_topi (fun y_39 ey_39 => ?_)
    have ty_39 := lcmp_rng ey_39
    refine lv_if_eq (tgt := 62) hx hb dX12_boldest_53 rfl (fun c_40 => ?_) (fun c_40 => ?_)
    · have c_40 : y_39.toInt = 0 := xI_eq rfl rfl c_40
      refine lv_iload hx hb dX12_boldest_62 (lv_at hl 0 rfl) ?_
      have fr_41 : Fr [] [] G_2 G_35 := (Fr.call9 (rs := []) (fs := []) (Fr.call9 (rs := []) (fs := []) (Fr.call9 (rs := []) (fs := []) (Fr.call9 (rs := []) (fs := []) Fr.rf hq_12 rfl rfl) hq_16 rfl rfl) hq_27 rfl rfl) hq_36 rfl rfl)
      have g_42 : gO G_35 = gO G_2 := gO_fr fr_41 (gr_q rfl) (gf_q rfl)
      exact W.iret (v := x_19) hx hb hr (fun t ht _ => ⟨⟨x_19, G_35, rfl, (Q_boldest_mk ⟨hB_G_35, hF, ((by first | (clear hP9 hW9 hO9 f_6 d_2 c_7 b_8 b_9 hn_23 f_21 f_22 ty_24 hp_28 b_30 g_31 b_32 g_33 hp_37 hof_ c_40; omega) | omega)), ⟨r_1, G_2, hX_5, (Or.inr ⟨c_7, ⟨r_10, G_11, hX_14, ⟨x_19, G_15, hX_20, f_21, hB_G_15, hq_16, ⟨y_24, ty_24, ⟨r_25, G_26, hX_29, ⟨r_34, G_35, hX_38, ⟨y_39, ey_39, ⟨c_40, ⟨rfl, rfl⟩⟩⟩⟩⟩⟩⟩⟩⟩)⟩⟩), wd_t ht hW⟩, hS.F ht⟩) hS.2.2 dX12_boldest_64
    · have c_40 : y_39.toInt ≠ 0 := xI_ne rfl rfl c_40
      have u_43 : x_19.toInt ≠ b9 := fun q => lc_ne ey_39 (by omega) (hof_.trans (by rw [q]; exact hb3))
      obtain ⟨y_44, ey_44⟩ : ∃ q, q = x_19 + 1 := ⟨_, rfl⟩
      have ty_44 : y_44.toInt = x_19.toInt + 1 := xI_add rfl rfl ey_44 ((by first | (clear hP9 hW9 hO9 d_1 hn_23 c_40; omega) | omega)) ((by first | (clear hP9 hW9 hO9 d_1 hn_23 c_40; omega) | omega))
      refine lv_iinc (v := y_44) (lv' := [(8, .int y_44), (6, .long r_10), (0, .ref (a 66)), (4, .int p3), (5, .int p4)]) hx hb dX12_boldest_56 hl (k := 0) rfl (by rw [ey_44]; rfl) (lt_b rfl) rfl (fun ls hl => ?_)
      refine lv_goto (tgt := 32) hx hb dX12_boldest_59 rfl ?_
      exact ih_17 (b9 - y_44.toInt : Int).toNat ((by first | (clear hP9 hW9 hO9 d_1 c_40; omega) | omega)) _ _ _ ⟨G_35, y_44, (Int.toNat_of_nonneg ((by first | (clear hP9 hW9 hO9 d_1 hn_23 c_40; omega) | omega))), ⟨(by first | (clear hP9 hW9 hO9 d_1 hn_23 c_40; omega) | omega), (by first | (clear hP9 hW9 hO9 d_1 hn_23 c_40; omega) | omega)⟩, ((by first | (clear hP9 hW9 hO9 d_1 hn_23 c_40; omega) | omega)), (hX_20.st (St_n_boldest_1_mk ⟨x_19, G_15, y_44, G_35, rfl, rfl, f_21, hB_G_15, ⟨y_24, ty_24, ⟨r_25, G_26, hX_29, ⟨r_34, G_35, hX_38, ⟨y_39, ey_39, ⟨c_40, ⟨y_44, ty_44, ⟨rfl, rfl⟩⟩⟩⟩⟩⟩⟩⟩)), hW, hB_G_35, hF, (Fr.call9 (rs := []) (fs := []) (Fr.call9 (rs := []) (fs := []) (Fr.call9 (rs := []) (fs := []) Fr.rf hq_16 rfl rfl) hq_27 rfl rfl) hq_36 rfl rfl), hS, lv_sub hl [0, 1, 2, 3, 4] rfl⟩
  · have c_7 : r_1.toInt = 0 := xI_eq rfl rfl c_7
    refine ic_m1 hx hb dX12_boldest_14 ?_
    exact W.iret (v := (-1)) hx hb hr (fun t ht _ => ⟨⟨(-1), G_2, rfl, (Q_boldest_mk ⟨hB_G_2, hF, (by have hq : ((-1) : Int32).toInt = (-1) := rfl; (try dsimp only); omega), ⟨r_1, G_2, hX_5, (Or.inl ⟨c_7, ⟨rfl, rfl⟩⟩)⟩⟩), wd_t ht hW⟩, hS.F ht⟩) hS.2.2 dX12_boldest_15
