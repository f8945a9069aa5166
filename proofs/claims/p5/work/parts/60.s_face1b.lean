theorem m32 : Cond.selects RX11 yX11_prepare yX11_prepare ∈ gd := gd_mem 32 (by decide +kernel) (by decide +kernel)
theorem m36 : Cond.selects RX11 yX11_layDown yX11_layDown ∈ gd := gd_mem 36 (by decide +kernel) (by decide +kernel)
theorem m38 : Cond.selects RX11 yX11_canBeBrave yX11_canBeBrave ∈ gd := gd_mem 38 (by decide +kernel) (by decide +kernel)
theorem m41 : Cond.selects RX11 yX11_winningRule yX11_winningRule ∈ gd := gd_mem 41 (by decide +kernel) (by decide +kernel)
theorem m45 : Cond.selects RX11 yX11_fitsAll yX11_fitsAll ∈ gd := gd_mem 45 (by decide +kernel) (by decide +kernel)
theorem m47 : Cond.selects RX11 yX11_heelsNear yX11_heelsNear ∈ gd := gd_mem 47 (by decide +kernel) (by decide +kernel)
theorem m180 : Cond.fieldLink RX11 215 "SlabWalk$Paving" "slip" "[I" ∈ gd := gd_mem 180 (by decide +kernel) (by decide +kernel)
theorem m203 : Cond.fieldLink RX11 201 "SlabWalk$Paving" "hand" "I" ∈ gd := gd_mem 203 (by decide +kernel) (by decide +kernel)
theorem m206 : Cond.fieldLink RX11 204 "SlabWalk$Paving" "slack" "I" ∈ gd := gd_mem 206 (by decide +kernel) (by decide +kernel)
theorem m374 : Cond.fieldLink RX11 177 "SlabWalk$Course" "lawful" "[Z" ∈ gd := gd_mem 374 (by decide +kernel) (by decide +kernel)
theorem m380 : Cond.fieldLink RX11 181 "SlabWalk$Course" "least" "I" ∈ gd := gd_mem 380 (by decide +kernel) (by decide +kernel)
theorem m384 : Cond.fieldLink RX11 184 "SlabWalk$Course" "most" "I" ∈ gd := gd_mem 384 (by decide +kernel) (by decide +kernel)
theorem m391 : Cond.fieldLink RX11 174 "SlabWalk$Course" "last" "I" ∈ gd := gd_mem 391 (by decide +kernel) (by decide +kernel)
theorem m577 : Cond.fieldLink RX11 58 "SlabWalk" "odds" "LSlabWalk$Odds;" ∈ gd := gd_mem 577 (by decide +kernel) (by decide +kernel)
theorem m975 : Cond.methodLink RX11 153 yX11_prepare ∈ gd := gd_mem 975 (by decide +kernel) (by decide +kernel)
theorem m977 : Cond.instanceMethod yX11_prepare ∈ gd := gd_mem 977 (by decide +kernel) (by decide +kernel)
theorem m978 : Cond.code yX11_prepare cX11_prepare 4 none ∈ gd := gd_mem 978 (by decide +kernel) (by decide +kernel)
theorem m989 : Cond.methodLink RX11 157 yX10_fewestFeet ∈ gd := gd_mem 989 (by decide +kernel) (by decide +kernel)
theorem m990 : Cond.instanceMethod yX10_fewestFeet ∈ gd := gd_mem 990 (by decide +kernel) (by decide +kernel)
theorem m991 : Cond.selects RX10 yX10_fewestFeet yX10_fewestFeet ∈ gd := gd_mem 991 (by decide +kernel) (by decide +kernel)
theorem m992 : Cond.code yX10_fewestFeet cX10_fewestFeet 5 (some .int) ∈ gd := gd_mem 992 (by decide +kernel) (by decide +kernel)
theorem m1007 : Cond.methodLink RX11 161 yX10_layHeels ∈ gd := gd_mem 1007 (by decide +kernel) (by decide +kernel)
theorem m1008 : Cond.instanceMethod yX10_layHeels ∈ gd := gd_mem 1008 (by decide +kernel) (by decide +kernel)
theorem m1009 : Cond.selects RX10 yX10_layHeels yX10_layHeels ∈ gd := gd_mem 1009 (by decide +kernel) (by decide +kernel)
theorem m1010 : Cond.code yX10_layHeels cX10_layHeels 11 (some .int) ∈ gd := gd_mem 1010 (by decide +kernel) (by decide +kernel)
theorem m1019 : Cond.methodLink RX11 167 yX5_countWays ∈ gd := gd_mem 1019 (by decide +kernel) (by decide +kernel)
theorem m1020 : Cond.instanceMethod yX5_countWays ∈ gd := gd_mem 1020 (by decide +kernel) (by decide +kernel)
theorem m1021 : Cond.selects RX5 yX5_countWays yX5_countWays ∈ gd := gd_mem 1021 (by decide +kernel) (by decide +kernel)
theorem m1022 : Cond.code yX5_countWays cX5_countWays 6 (some .long) ∈ gd := gd_mem 1022 (by decide +kernel) (by decide +kernel)
theorem m1040 : Cond.methodLink RX11 171 yX10_mostEven ∈ gd := gd_mem 1040 (by decide +kernel) (by decide +kernel)
theorem m1041 : Cond.instanceMethod yX10_mostEven ∈ gd := gd_mem 1041 (by decide +kernel) (by decide +kernel)
theorem m1042 : Cond.selects RX10 yX10_mostEven yX10_mostEven ∈ gd := gd_mem 1042 (by decide +kernel) (by decide +kernel)
theorem m1043 : Cond.code yX10_mostEven cX10_mostEven 8 (some .int) ∈ gd := gd_mem 1043 (by decide +kernel) (by decide +kernel)
theorem m1057 : Cond.methodLink RX11 187 yX10_comesEvenly ∈ gd := gd_mem 1057 (by decide +kernel) (by decide +kernel)
theorem m1058 : Cond.instanceMethod yX10_comesEvenly ∈ gd := gd_mem 1058 (by decide +kernel) (by decide +kernel)
theorem m1059 : Cond.selects RX10 yX10_comesEvenly yX10_comesEvenly ∈ gd := gd_mem 1059 (by decide +kernel) (by decide +kernel)
theorem m1060 : Cond.code yX10_comesEvenly cX10_comesEvenly 3 (some .boolean) ∈ gd := gd_mem 1060 (by decide +kernel) (by decide +kernel)
theorem m1061 : Cond.methodLink RX11 191 yX11_layDown ∈ gd := gd_mem 1061 (by decide +kernel) (by decide +kernel)
theorem m1063 : Cond.instanceMethod yX11_layDown ∈ gd := gd_mem 1063 (by decide +kernel) (by decide +kernel)
theorem m1064 : Cond.code yX11_layDown cX11_layDown 2 none ∈ gd := gd_mem 1064 (by decide +kernel) (by decide +kernel)
theorem m1091 : Cond.methodLink RX11 207 yX10_fewestLeaps ∈ gd := gd_mem 1091 (by decide +kernel) (by decide +kernel)
theorem m1092 : Cond.instanceMethod yX10_fewestLeaps ∈ gd := gd_mem 1092 (by decide +kernel) (by decide +kernel)
theorem m1093 : Cond.selects RX10 yX10_fewestLeaps yX10_fewestLeaps ∈ gd := gd_mem 1093 (by decide +kernel) (by decide +kernel)
theorem m1094 : Cond.code yX10_fewestLeaps cX10_fewestLeaps 8 (some .int) ∈ gd := gd_mem 1094 (by decide +kernel) (by decide +kernel)
theorem m1117 : Cond.methodLink RX11 211 yX11_canBeBrave ∈ gd := gd_mem 1117 (by decide +kernel) (by decide +kernel)
theorem m1119 : Cond.instanceMethod yX11_canBeBrave ∈ gd := gd_mem 1119 (by decide +kernel) (by decide +kernel)
theorem m1120 : Cond.code yX11_canBeBrave cX11_canBeBrave 6 (some .boolean) ∈ gd := gd_mem 1120 (by decide +kernel) (by decide +kernel)
theorem m1122 : Cond.methodLink RX11 218 yX5_bravest ∈ gd := gd_mem 1122 (by decide +kernel) (by decide +kernel)
theorem m1123 : Cond.instanceMethod yX5_bravest ∈ gd := gd_mem 1123 (by decide +kernel) (by decide +kernel)
theorem m1124 : Cond.selects RX5 yX5_bravest yX5_bravest ∈ gd := gd_mem 1124 (by decide +kernel) (by decide +kernel)
theorem m1125 : Cond.code yX5_bravest cX5_bravest 9 (some .long) ∈ gd := gd_mem 1125 (by decide +kernel) (by decide +kernel)
theorem m1138 : Cond.methodLink RX11 222 yX5_boldestStep ∈ gd := gd_mem 1138 (by decide +kernel) (by decide +kernel)
theorem m1139 : Cond.instanceMethod yX5_boldestStep ∈ gd := gd_mem 1139 (by decide +kernel) (by decide +kernel)
theorem m1140 : Cond.selects RX5 yX5_boldestStep yX5_boldestStep ∈ gd := gd_mem 1140 (by decide +kernel) (by decide +kernel)
theorem m1141 : Cond.code yX5_boldestStep cX5_boldestStep 1 (some .int) ∈ gd := gd_mem 1141 (by decide +kernel) (by decide +kernel)
theorem m1146 : Cond.methodLink RX11 225 yX11_winningRule ∈ gd := gd_mem 1146 (by decide +kernel) (by decide +kernel)
theorem m1148 : Cond.instanceMethod yX11_winningRule ∈ gd := gd_mem 1148 (by decide +kernel) (by decide +kernel)
theorem m1149 : Cond.code yX11_winningRule cX11_winningRule 5 (some .int) ∈ gd := gd_mem 1149 (by decide +kernel) (by decide +kernel)
theorem m1267 : Cond.methodLink RX11 282 yX11_fitsAll ∈ gd := gd_mem 1267 (by decide +kernel) (by decide +kernel)
theorem m1269 : Cond.instanceMethod yX11_fitsAll ∈ gd := gd_mem 1269 (by decide +kernel) (by decide +kernel)
theorem m1270 : Cond.code yX11_fitsAll cX11_fitsAll 4 (some .boolean) ∈ gd := gd_mem 1270 (by decide +kernel) (by decide +kernel)
theorem m1283 : Cond.methodLink RX11 291 yX11_heelsNear ∈ gd := gd_mem 1283 (by decide +kernel) (by decide +kernel)
theorem m1285 : Cond.instanceMethod yX11_heelsNear ∈ gd := gd_mem 1285 (by decide +kernel) (by decide +kernel)
theorem m1286 : Cond.code yX11_heelsNear cX11_heelsNear 6 (some .int) ∈ gd := gd_mem 1286 (by decide +kernel) (by decide +kernel)
theorem dX11_boldest_0 : decode cX11_boldest 0 = .ok (.aload_n 0, 1) := by decide +kernel
theorem dX11_boldest_1 : decode cX11_boldest 1 = .ok (.iload_n 1, 1) := by decide +kernel
theorem dX11_boldest_2 : decode cX11_boldest 2 = .ok (.iload_n 2, 1) := by decide +kernel
theorem dX11_boldest_3 : decode cX11_boldest 3 = .ok (.iload_n 3, 1) := by decide +kernel
theorem dX11_boldest_4 : decode cX11_boldest 4 = .ok (.iload 4, 2) := by decide +kernel
theorem dX11_boldest_6 : decode cX11_boldest 6 = .ok (.iload 5, 2) := by decide +kernel
theorem dX11_boldest_8 : decode cX11_boldest 8 = .ok (.invokevirtual 211, 3) := by decide +kernel
theorem dX11_boldest_11 : decode cX11_boldest 11 = .ok (.ifCond .ne 5, 3) := by decide +kernel
theorem dX11_boldest_14 : decode cX11_boldest 14 = .ok (.iconst (-1), 1) := by decide +kernel
theorem dX11_boldest_15 : decode cX11_boldest 15 = .ok (.ireturn, 1) := by decide +kernel
theorem dX11_boldest_16 : decode cX11_boldest 16 = .ok (.aload_n 0, 1) := by decide +kernel
theorem dX11_boldest_17 : decode cX11_boldest 17 = .ok (.iload_n 1, 1) := by decide +kernel
theorem dX11_boldest_18 : decode cX11_boldest 18 = .ok (.iload_n 2, 1) := by decide +kernel
theorem dX11_boldest_19 : decode cX11_boldest 19 = .ok (.iload_n 3, 1) := by decide +kernel
theorem dX11_boldest_20 : decode cX11_boldest 20 = .ok (.invokevirtual 153, 3) := by decide +kernel
theorem dX11_boldest_23 : decode cX11_boldest 23 = .ok (.aload_n 0, 1) := by decide +kernel
theorem dX11_boldest_24 : decode cX11_boldest 24 = .ok (.getfield 58, 3) := by decide +kernel
theorem dX11_boldest_27 : decode cX11_boldest 27 = .ok (.aload_n 0, 1) := by decide +kernel
theorem dX11_boldest_28 : decode cX11_boldest 28 = .ok (.getfield 44, 3) := by decide +kernel
theorem dX11_boldest_31 : decode cX11_boldest 31 = .ok (.aload_n 0, 1) := by decide +kernel
theorem dX11_boldest_32 : decode cX11_boldest 32 = .ok (.getfield 10, 3) := by decide +kernel
theorem dX11_boldest_35 : decode cX11_boldest 35 = .ok (.getfield 215, 3) := by decide +kernel
theorem dX11_boldest_38 : decode cX11_boldest 38 = .ok (.iload 4, 2) := by decide +kernel
theorem dX11_boldest_40 : decode cX11_boldest 40 = .ok (.iload 5, 2) := by decide +kernel
theorem dX11_boldest_42 : decode cX11_boldest 42 = .ok (.invokevirtual 218, 3) := by decide +kernel
theorem dX11_boldest_45 : decode cX11_boldest 45 = .ok (.pop2, 1) := by decide +kernel
theorem dX11_boldest_46 : decode cX11_boldest 46 = .ok (.aload_n 0, 1) := by decide +kernel
theorem dX11_boldest_47 : decode cX11_boldest 47 = .ok (.getfield 58, 3) := by decide +kernel
theorem dX11_boldest_50 : decode cX11_boldest 50 = .ok (.invokevirtual 222, 3) := by decide +kernel
theorem dX11_boldest_53 : decode cX11_boldest 53 = .ok (.ireturn, 1) := by decide +kernel
theorem dX11_brave_0 : decode cX11_brave 0 = .ok (.aload_n 0, 1) := by decide +kernel
theorem dX11_brave_1 : decode cX11_brave 1 = .ok (.iload_n 1, 1) := by decide +kernel
theorem dX11_brave_2 : decode cX11_brave 2 = .ok (.iload_n 2, 1) := by decide +kernel
theorem dX11_brave_3 : decode cX11_brave 3 = .ok (.iload_n 3, 1) := by decide +kernel
theorem dX11_brave_4 : decode cX11_brave 4 = .ok (.iload 4, 2) := by decide +kernel
theorem dX11_brave_6 : decode cX11_brave 6 = .ok (.iload 5, 2) := by decide +kernel
theorem dX11_brave_8 : decode cX11_brave 8 = .ok (.invokevirtual 211, 3) := by decide +kernel
theorem dX11_brave_11 : decode cX11_brave 11 = .ok (.ifCond .ne 7, 3) := by decide +kernel
theorem dX11_brave_14 : decode cX11_brave 14 = .ok (.ldc2_w 165, 3) := by decide +kernel
theorem dX11_brave_17 : decode cX11_brave 17 = .ok (.lreturn, 1) := by decide +kernel
theorem dX11_brave_18 : decode cX11_brave 18 = .ok (.aload_n 0, 1) := by decide +kernel
theorem dX11_brave_19 : decode cX11_brave 19 = .ok (.iload_n 1, 1) := by decide +kernel
theorem dX11_brave_20 : decode cX11_brave 20 = .ok (.iload_n 2, 1) := by decide +kernel
theorem dX11_brave_21 : decode cX11_brave 21 = .ok (.iload_n 3, 1) := by decide +kernel
theorem dX11_brave_22 : decode cX11_brave 22 = .ok (.invokevirtual 153, 3) := by decide +kernel
theorem dX11_brave_25 : decode cX11_brave 25 = .ok (.aload_n 0, 1) := by decide +kernel
theorem dX11_brave_26 : decode cX11_brave 26 = .ok (.getfield 58, 3) := by decide +kernel
theorem dX11_brave_29 : decode cX11_brave 29 = .ok (.aload_n 0, 1) := by decide +kernel
theorem dX11_brave_30 : decode cX11_brave 30 = .ok (.getfield 44, 3) := by decide +kernel
theorem dX11_brave_33 : decode cX11_brave 33 = .ok (.aload_n 0, 1) := by decide +kernel
theorem dX11_brave_34 : decode cX11_brave 34 = .ok (.getfield 10, 3) := by decide +kernel
theorem dX11_brave_37 : decode cX11_brave 37 = .ok (.getfield 215, 3) := by decide +kernel
theorem dX11_brave_40 : decode cX11_brave 40 = .ok (.iload 4, 2) := by decide +kernel
theorem dX11_brave_42 : decode cX11_brave 42 = .ok (.iload 5, 2) := by decide +kernel
theorem dX11_brave_44 : decode cX11_brave 44 = .ok (.invokevirtual 218, 3) := by decide +kernel
theorem dX11_brave_47 : decode cX11_brave 47 = .ok (.lreturn, 1) := by decide +kernel
theorem dX11_chance_0 : decode cX11_chance 0 = .ok (.aload_n 0, 1) := by decide +kernel
theorem dX11_chance_1 : decode cX11_chance 1 = .ok (.getfield 10, 3) := by decide +kernel
theorem dX11_chance_4 : decode cX11_chance 4 = .ok (.iload_n 1, 1) := by decide +kernel
theorem dX11_chance_5 : decode cX11_chance 5 = .ok (.invokevirtual 262, 3) := by decide +kernel
theorem dX11_chance_8 : decode cX11_chance 8 = .ok (.ifCond .eq 12, 3) := by decide +kernel
theorem dX11_chance_11 : decode cX11_chance 11 = .ok (.iload_n 2, 1) := by decide +kernel
theorem dX11_chance_12 : decode cX11_chance 12 = .ok (.ifCond .lt 8, 3) := by decide +kernel
theorem dX11_chance_15 : decode cX11_chance 15 = .ok (.iload_n 2, 1) := by decide +kernel
theorem dX11_chance_16 : decode cX11_chance 16 = .ok (.iconst 1, 1) := by decide +kernel
theorem dX11_chance_17 : decode cX11_chance 17 = .ok (.if_icmp .le 7, 3) := by decide +kernel
theorem dX11_chance_20 : decode cX11_chance 20 = .ok (.ldc2_w 165, 3) := by decide +kernel
theorem dX11_chance_23 : decode cX11_chance 23 = .ok (.lreturn, 1) := by decide +kernel
theorem dX11_chance_24 : decode cX11_chance 24 = .ok (.lconst 1, 1) := by decide +kernel
theorem dX11_chance_25 : decode cX11_chance 25 = .ok (.lstore 4, 2) := by decide +kernel
theorem dX11_chance_27 : decode cX11_chance 27 = .ok (.lconst 1, 1) := by decide +kernel
theorem dX11_chance_28 : decode cX11_chance 28 = .ok (.lstore 6, 2) := by decide +kernel
theorem dX11_chance_30 : decode cX11_chance 30 = .ok (.iconst 0, 1) := by decide +kernel
theorem dX11_chance_31 : decode cX11_chance 31 = .ok (.istore 8, 2) := by decide +kernel
theorem dX11_chance_33 : decode cX11_chance 33 = .ok (.iload 8, 2) := by decide +kernel
theorem dX11_chance_35 : decode cX11_chance 35 = .ok (.aload_n 0, 1) := by decide +kernel
theorem dX11_chance_36 : decode cX11_chance 36 = .ok (.getfield 72, 3) := by decide +kernel
theorem dX11_chance_39 : decode cX11_chance 39 = .ok (.getfield 285, 3) := by decide +kernel
theorem dX11_chance_42 : decode cX11_chance 42 = .ok (.if_icmp .ge 50, 3) := by decide +kernel
theorem dX11_chance_45 : decode cX11_chance 45 = .ok (.aload_n 0, 1) := by decide +kernel
theorem dX11_chance_46 : decode cX11_chance 46 = .ok (.getfield 72, 3) := by decide +kernel
theorem dX11_chance_49 : decode cX11_chance 49 = .ok (.iload 8, 2) := by decide +kernel
theorem dX11_chance_51 : decode cX11_chance 51 = .ok (.iload_n 3, 1) := by decide +kernel
theorem dX11_chance_52 : decode cX11_chance 52 = .ok (.invokevirtual 288, 3) := by decide +kernel
theorem dX11_chance_55 : decode cX11_chance 55 = .ok (.ifCond .eq 31, 3) := by decide +kernel
theorem dX11_chance_58 : decode cX11_chance 58 = .ok (.lload 4, 2) := by decide +kernel
theorem dX11_chance_60 : decode cX11_chance 60 = .ok (.aload_n 0, 1) := by decide +kernel
theorem dX11_chance_61 : decode cX11_chance 61 = .ok (.iload 8, 2) := by decide +kernel
theorem dX11_chance_63 : decode cX11_chance 63 = .ok (.iload_n 1, 1) := by decide +kernel
theorem dX11_chance_64 : decode cX11_chance 64 = .ok (.iconst 1, 1) := by decide +kernel
theorem dX11_chance_65 : decode cX11_chance 65 = .ok (.invokevirtual 291, 3) := by decide +kernel
theorem dX11_chance_68 : decode cX11_chance 68 = .ok (.i2l, 1) := by decide +kernel
theorem dX11_chance_69 : decode cX11_chance 69 = .ok (.lmul, 1) := by decide +kernel
theorem dX11_chance_70 : decode cX11_chance 70 = .ok (.lstore 4, 2) := by decide +kernel
theorem dX11_chance_72 : decode cX11_chance 72 = .ok (.lload 6, 2) := by decide +kernel
theorem dX11_chance_74 : decode cX11_chance 74 = .ok (.aload_n 0, 1) := by decide +kernel
theorem dX11_chance_75 : decode cX11_chance 75 = .ok (.iload 8, 2) := by decide +kernel
theorem dX11_chance_77 : decode cX11_chance 77 = .ok (.iload_n 1, 1) := by decide +kernel
theorem dX11_chance_78 : decode cX11_chance 78 = .ok (.iconst 0, 1) := by decide +kernel
theorem dX11_chance_79 : decode cX11_chance 79 = .ok (.invokevirtual 291, 3) := by decide +kernel
theorem dX11_chance_82 : decode cX11_chance 82 = .ok (.i2l, 1) := by decide +kernel
theorem dX11_chance_83 : decode cX11_chance 83 = .ok (.lmul, 1) := by decide +kernel
theorem dX11_chance_84 : decode cX11_chance 84 = .ok (.lstore 6, 2) := by decide +kernel
theorem dX11_chance_86 : decode cX11_chance 86 = .ok (.iinc 8 1, 3) := by decide +kernel
theorem dX11_chance_89 : decode cX11_chance 89 = .ok (.goto (-56), 3) := by decide +kernel
theorem dX11_chance_92 : decode cX11_chance 92 = .ok (.lload 6, 2) := by decide +kernel
theorem dX11_chance_94 : decode cX11_chance 94 = .ok (.lload 4, 2) := by decide +kernel
theorem dX11_chance_96 : decode cX11_chance 96 = .ok (.invokestatic 295, 3) := by decide +kernel
theorem dX11_chance_99 : decode cX11_chance 99 = .ok (.lstore 8, 2) := by decide +kernel
theorem dX11_chance_101 : decode cX11_chance 101 = .ok (.lload 8, 2) := by decide +kernel
theorem dX11_chance_103 : decode cX11_chance 103 = .ok (.lconst 0, 1) := by decide +kernel
theorem dX11_chance_104 : decode cX11_chance 104 = .ok (.lcmp, 1) := by decide +kernel
theorem dX11_chance_105 : decode cX11_chance 105 = .ok (.ifCond .ne 7, 3) := by decide +kernel
theorem dX11_chance_108 : decode cX11_chance 108 = .ok (.ldc2_w 165, 3) := by decide +kernel
theorem dX11_chance_111 : decode cX11_chance 111 = .ok (.lreturn, 1) := by decide +kernel
theorem dX11_chance_112 : decode cX11_chance 112 = .ok (.iload_n 2, 1) := by decide +kernel
theorem dX11_chance_113 : decode cX11_chance 113 = .ok (.ifCond .ne 11, 3) := by decide +kernel
theorem dX11_chance_116 : decode cX11_chance 116 = .ok (.lload 4, 2) := by decide +kernel
theorem dX11_chance_118 : decode cX11_chance 118 = .ok (.lload 8, 2) := by decide +kernel
theorem dX11_chance_120 : decode cX11_chance 120 = .ok (.ldiv, 1) := by decide +kernel
theorem dX11_chance_121 : decode cX11_chance 121 = .ok (.goto 8, 3) := by decide +kernel
theorem dX11_chance_124 : decode cX11_chance 124 = .ok (.lload 6, 2) := by decide +kernel
theorem dX11_chance_126 : decode cX11_chance 126 = .ok (.lload 8, 2) := by decide +kernel
theorem dX11_chance_128 : decode cX11_chance 128 = .ok (.ldiv, 1) := by decide +kernel
theorem dX11_chance_129 : decode cX11_chance 129 = .ok (.lreturn, 1) := by decide +kernel
theorem dX11_even_0 : decode cX11_even 0 = .ok (.aload_n 0, 1) := by decide +kernel
theorem dX11_even_1 : decode cX11_even 1 = .ok (.iload_n 1, 1) := by decide +kernel
theorem dX11_even_2 : decode cX11_even 2 = .ok (.iload_n 2, 1) := by decide +kernel
theorem dX11_even_3 : decode cX11_even 3 = .ok (.iload_n 3, 1) := by decide +kernel
theorem dX11_even_4 : decode cX11_even 4 = .ok (.invokevirtual 143, 3) := by decide +kernel
theorem dX11_even_7 : decode cX11_even 7 = .ok (.ifCond .eq 29, 3) := by decide +kernel
theorem dX11_even_10 : decode cX11_even 10 = .ok (.aload_n 0, 1) := by decide +kernel
theorem dX11_even_11 : decode cX11_even 11 = .ok (.getfield 10, 3) := by decide +kernel
theorem dX11_even_14 : decode cX11_even 14 = .ok (.iload_n 2, 1) := by decide +kernel
theorem dX11_even_15 : decode cX11_even 15 = .ok (.iload 4, 2) := by decide +kernel
theorem dX11_even_17 : decode cX11_even 17 = .ok (.invokevirtual 110, 3) := by decide +kernel
theorem dX11_even_20 : decode cX11_even 20 = .ok (.ifCond .eq 16, 3) := by decide +kernel
theorem dX11_even_23 : decode cX11_even 23 = .ok (.iload 5, 2) := by decide +kernel
theorem dX11_even_25 : decode cX11_even 25 = .ok (.iconst 1, 1) := by decide +kernel
theorem dX11_even_26 : decode cX11_even 26 = .ok (.if_icmp .lt 10, 3) := by decide +kernel
theorem dX11_even_29 : decode cX11_even 29 = .ok (.iload 5, 2) := by decide +kernel
theorem dX11_even_31 : decode cX11_even 31 = .ok (.bipush 99, 2) := by decide +kernel
theorem dX11_even_33 : decode cX11_even 33 = .ok (.if_icmp .le 5, 3) := by decide +kernel
theorem dX11_even_36 : decode cX11_even 36 = .ok (.iconst (-1), 1) := by decide +kernel
theorem dX11_even_37 : decode cX11_even 37 = .ok (.ireturn, 1) := by decide +kernel
theorem dX11_even_38 : decode cX11_even 38 = .ok (.aload_n 0, 1) := by decide +kernel
theorem dX11_even_39 : decode cX11_even 39 = .ok (.iload_n 1, 1) := by decide +kernel
theorem dX11_even_40 : decode cX11_even 40 = .ok (.iload_n 2, 1) := by decide +kernel
theorem dX11_even_41 : decode cX11_even 41 = .ok (.iload_n 3, 1) := by decide +kernel
theorem dX11_even_42 : decode cX11_even 42 = .ok (.invokevirtual 153, 3) := by decide +kernel
theorem dX11_even_45 : decode cX11_even 45 = .ok (.iconst 0, 1) := by decide +kernel
theorem dX11_even_46 : decode cX11_even 46 = .ok (.istore 6, 2) := by decide +kernel
theorem dX11_even_48 : decode cX11_even 48 = .ok (.iload 4, 2) := by decide +kernel
theorem dX11_even_50 : decode cX11_even 50 = .ok (.istore 7, 2) := by decide +kernel
theorem dX11_even_52 : decode cX11_even 52 = .ok (.iload 7, 2) := by decide +kernel
theorem dX11_even_54 : decode cX11_even 54 = .ok (.aload_n 0, 1) := by decide +kernel
theorem dX11_even_55 : decode cX11_even 55 = .ok (.getfield 44, 3) := by decide +kernel
theorem dX11_even_58 : decode cX11_even 58 = .ok (.getfield 174, 3) := by decide +kernel
theorem dX11_even_61 : decode cX11_even 61 = .ok (.if_icmp .gt 29, 3) := by decide +kernel
theorem dX11_even_64 : decode cX11_even 64 = .ok (.aload_n 0, 1) := by decide +kernel
theorem dX11_even_65 : decode cX11_even 65 = .ok (.getfield 44, 3) := by decide +kernel
theorem dX11_even_68 : decode cX11_even 68 = .ok (.getfield 177, 3) := by decide +kernel
theorem dX11_even_71 : decode cX11_even 71 = .ok (.iload 7, 2) := by decide +kernel
theorem dX11_even_73 : decode cX11_even 73 = .ok (.baload, 1) := by decide +kernel
theorem dX11_even_74 : decode cX11_even 74 = .ok (.ifCond .eq 16, 3) := by decide +kernel
theorem dX11_even_77 : decode cX11_even 77 = .ok (.iinc 6 1, 3) := by decide +kernel
theorem dX11_even_80 : decode cX11_even 80 = .ok (.iload 7, 2) := by decide +kernel
theorem dX11_even_82 : decode cX11_even 82 = .ok (.iload 5, 2) := by decide +kernel
theorem dX11_even_84 : decode cX11_even 84 = .ok (.iadd, 1) := by decide +kernel
theorem dX11_even_85 : decode cX11_even 85 = .ok (.istore 7, 2) := by decide +kernel
theorem dX11_even_87 : decode cX11_even 87 = .ok (.goto (-35), 3) := by decide +kernel
theorem dX11_even_90 : decode cX11_even 90 = .ok (.iload 6, 2) := by decide +kernel
theorem dX11_even_92 : decode cX11_even 92 = .ok (.ireturn, 1) := by decide +kernel
theorem dX11_evenest_0 : decode cX11_evenest 0 = .ok (.aload_n 0, 1) := by decide +kernel
theorem dX11_evenest_1 : decode cX11_evenest 1 = .ok (.iload_n 1, 1) := by decide +kernel
theorem dX11_evenest_2 : decode cX11_evenest 2 = .ok (.iload_n 2, 1) := by decide +kernel
theorem dX11_evenest_3 : decode cX11_evenest 3 = .ok (.iload_n 3, 1) := by decide +kernel
theorem dX11_evenest_4 : decode cX11_evenest 4 = .ok (.invokevirtual 143, 3) := by decide +kernel
theorem dX11_evenest_7 : decode cX11_evenest 7 = .ok (.ifCond .eq 14, 3) := by decide +kernel
theorem dX11_evenest_10 : decode cX11_evenest 10 = .ok (.iload 4, 2) := by decide +kernel
theorem dX11_evenest_12 : decode cX11_evenest 12 = .ok (.ifCond .lt 9, 3) := by decide +kernel
theorem dX11_evenest_15 : decode cX11_evenest 15 = .ok (.iload 4, 2) := by decide +kernel
theorem dX11_evenest_17 : decode cX11_evenest 17 = .ok (.iconst 1, 1) := by decide +kernel
theorem dX11_evenest_18 : decode cX11_evenest 18 = .ok (.if_icmp .le 5, 3) := by decide +kernel
theorem dX11_evenest_21 : decode cX11_evenest 21 = .ok (.iconst (-1), 1) := by decide +kernel
theorem dX11_evenest_22 : decode cX11_evenest 22 = .ok (.ireturn, 1) := by decide +kernel
theorem dX11_evenest_23 : decode cX11_evenest 23 = .ok (.aload_n 0, 1) := by decide +kernel
theorem dX11_evenest_24 : decode cX11_evenest 24 = .ok (.iload_n 1, 1) := by decide +kernel
theorem dX11_evenest_25 : decode cX11_evenest 25 = .ok (.iload_n 2, 1) := by decide +kernel
theorem dX11_evenest_26 : decode cX11_evenest 26 = .ok (.iload_n 3, 1) := by decide +kernel
theorem dX11_evenest_27 : decode cX11_evenest 27 = .ok (.invokevirtual 153, 3) := by decide +kernel
theorem dX11_evenest_30 : decode cX11_evenest 30 = .ok (.aload_n 0, 1) := by decide +kernel
theorem dX11_evenest_31 : decode cX11_evenest 31 = .ok (.getfield 51, 3) := by decide +kernel
theorem dX11_evenest_34 : decode cX11_evenest 34 = .ok (.aload_n 0, 1) := by decide +kernel
theorem dX11_evenest_35 : decode cX11_evenest 35 = .ok (.getfield 44, 3) := by decide +kernel
theorem dX11_evenest_38 : decode cX11_evenest 38 = .ok (.iload 4, 2) := by decide +kernel
theorem dX11_evenest_40 : decode cX11_evenest 40 = .ok (.invokevirtual 171, 3) := by decide +kernel
theorem dX11_evenest_43 : decode cX11_evenest 43 = .ok (.ireturn, 1) := by decide +kernel
theorem dX11_evens_0 : decode cX11_evens 0 = .ok (.aload_n 0, 1) := by decide +kernel
theorem dX11_evens_1 : decode cX11_evens 1 = .ok (.iconst 0, 1) := by decide +kernel
theorem dX11_evens_2 : decode cX11_evens 2 = .ok (.putfield 150, 3) := by decide +kernel
theorem dX11_evens_5 : decode cX11_evens 5 = .ok (.aload_n 0, 1) := by decide +kernel
theorem dX11_evens_6 : decode cX11_evens 6 = .ok (.iload_n 1, 1) := by decide +kernel
theorem dX11_evens_7 : decode cX11_evens 7 = .ok (.iload_n 2, 1) := by decide +kernel
theorem dX11_evens_8 : decode cX11_evens 8 = .ok (.iload_n 3, 1) := by decide +kernel
theorem dX11_evens_9 : decode cX11_evens 9 = .ok (.invokevirtual 143, 3) := by decide +kernel
theorem dX11_evens_12 : decode cX11_evens 12 = .ok (.ifCond .ne 5, 3) := by decide +kernel
theorem dX11_evens_15 : decode cX11_evens 15 = .ok (.iconst (-1), 1) := by decide +kernel
theorem dX11_evens_16 : decode cX11_evens 16 = .ok (.ireturn, 1) := by decide +kernel
theorem dX11_evens_17 : decode cX11_evens 17 = .ok (.aload_n 0, 1) := by decide +kernel
theorem dX11_evens_18 : decode cX11_evens 18 = .ok (.iload_n 1, 1) := by decide +kernel
theorem dX11_evens_19 : decode cX11_evens 19 = .ok (.iload_n 2, 1) := by decide +kernel
theorem dX11_evens_20 : decode cX11_evens 20 = .ok (.iload_n 3, 1) := by decide +kernel
theorem dX11_evens_21 : decode cX11_evens 21 = .ok (.invokevirtual 153, 3) := by decide +kernel
theorem dX11_evens_24 : decode cX11_evens 24 = .ok (.aload_n 0, 1) := by decide +kernel
theorem dX11_evens_25 : decode cX11_evens 25 = .ok (.getfield 44, 3) := by decide +kernel
theorem dX11_evens_28 : decode cX11_evens 28 = .ok (.getfield 181, 3) := by decide +kernel
theorem dX11_evens_31 : decode cX11_evens 31 = .ok (.istore 4, 2) := by decide +kernel
theorem dX11_evens_33 : decode cX11_evens 33 = .ok (.iload 4, 2) := by decide +kernel
theorem dX11_evens_35 : decode cX11_evens 35 = .ok (.aload_n 0, 1) := by decide +kernel
theorem dX11_evens_36 : decode cX11_evens 36 = .ok (.getfield 44, 3) := by decide +kernel
theorem dX11_evens_39 : decode cX11_evens 39 = .ok (.getfield 184, 3) := by decide +kernel
theorem dX11_evens_42 : decode cX11_evens 42 = .ok (.if_icmp .gt 31, 3) := by decide +kernel
theorem dX11_evens_45 : decode cX11_evens 45 = .ok (.aload_n 0, 1) := by decide +kernel
theorem dX11_evens_46 : decode cX11_evens 46 = .ok (.getfield 51, 3) := by decide +kernel
theorem dX11_evens_49 : decode cX11_evens 49 = .ok (.aload_n 0, 1) := by decide +kernel
theorem dX11_evens_50 : decode cX11_evens 50 = .ok (.getfield 44, 3) := by decide +kernel
theorem dX11_evens_53 : decode cX11_evens 53 = .ok (.iload 4, 2) := by decide +kernel
theorem dX11_evens_55 : decode cX11_evens 55 = .ok (.invokevirtual 187, 3) := by decide +kernel
theorem dX11_evens_58 : decode cX11_evens 58 = .ok (.ifCond .eq 9, 3) := by decide +kernel
theorem dX11_evens_61 : decode cX11_evens 61 = .ok (.aload_n 0, 1) := by decide +kernel
theorem dX11_evens_62 : decode cX11_evens 62 = .ok (.iload 4, 2) := by decide +kernel
theorem dX11_evens_64 : decode cX11_evens 64 = .ok (.invokevirtual 191, 3) := by decide +kernel
theorem dX11_evens_67 : decode cX11_evens 67 = .ok (.iinc 4 1, 3) := by decide +kernel
theorem dX11_evens_70 : decode cX11_evens 70 = .ok (.goto (-37), 3) := by decide +kernel
theorem dX11_evens_73 : decode cX11_evens 73 = .ok (.aload_n 0, 1) := by decide +kernel
theorem dX11_evens_74 : decode cX11_evens 74 = .ok (.getfield 150, 3) := by decide +kernel
theorem dX11_evens_77 : decode cX11_evens 77 = .ok (.ireturn, 1) := by decide +kernel
theorem dX11_fewest_0 : decode cX11_fewest 0 = .ok (.aload_n 0, 1) := by decide +kernel
theorem dX11_fewest_1 : decode cX11_fewest 1 = .ok (.iconst 0, 1) := by decide +kernel
theorem dX11_fewest_2 : decode cX11_fewest 2 = .ok (.putfield 150, 3) := by decide +kernel
theorem dX11_fewest_5 : decode cX11_fewest 5 = .ok (.aload_n 0, 1) := by decide +kernel
theorem dX11_fewest_6 : decode cX11_fewest 6 = .ok (.iload_n 1, 1) := by decide +kernel
theorem dX11_fewest_7 : decode cX11_fewest 7 = .ok (.iload_n 2, 1) := by decide +kernel
theorem dX11_fewest_8 : decode cX11_fewest 8 = .ok (.iload_n 3, 1) := by decide +kernel
theorem dX11_fewest_9 : decode cX11_fewest 9 = .ok (.invokevirtual 143, 3) := by decide +kernel
theorem dX11_fewest_12 : decode cX11_fewest 12 = .ok (.ifCond .eq 14, 3) := by decide +kernel
theorem dX11_fewest_15 : decode cX11_fewest 15 = .ok (.iload 4, 2) := by decide +kernel
theorem dX11_fewest_17 : decode cX11_fewest 17 = .ok (.ifCond .lt 9, 3) := by decide +kernel
theorem dX11_fewest_20 : decode cX11_fewest 20 = .ok (.iload 4, 2) := by decide +kernel
theorem dX11_fewest_22 : decode cX11_fewest 22 = .ok (.iconst 2, 1) := by decide +kernel
theorem dX11_fewest_23 : decode cX11_fewest 23 = .ok (.if_icmp .le 5, 3) := by decide +kernel
theorem dX11_fewest_26 : decode cX11_fewest 26 = .ok (.iconst (-1), 1) := by decide +kernel
theorem dX11_fewest_27 : decode cX11_fewest 27 = .ok (.ireturn, 1) := by decide +kernel
theorem dX11_fewest_28 : decode cX11_fewest 28 = .ok (.aload_n 0, 1) := by decide +kernel
theorem dX11_fewest_29 : decode cX11_fewest 29 = .ok (.iload_n 1, 1) := by decide +kernel
theorem dX11_fewest_30 : decode cX11_fewest 30 = .ok (.iload_n 2, 1) := by decide +kernel
theorem dX11_fewest_31 : decode cX11_fewest 31 = .ok (.iload_n 3, 1) := by decide +kernel
theorem dX11_fewest_32 : decode cX11_fewest 32 = .ok (.invokevirtual 153, 3) := by decide +kernel
theorem dX11_fewest_35 : decode cX11_fewest 35 = .ok (.aload_n 0, 1) := by decide +kernel
theorem dX11_fewest_36 : decode cX11_fewest 36 = .ok (.getfield 51, 3) := by decide +kernel
theorem dX11_fewest_39 : decode cX11_fewest 39 = .ok (.aload_n 0, 1) := by decide +kernel
theorem dX11_fewest_40 : decode cX11_fewest 40 = .ok (.getfield 44, 3) := by decide +kernel
theorem dX11_fewest_43 : decode cX11_fewest 43 = .ok (.iload 4, 2) := by decide +kernel
theorem dX11_fewest_45 : decode cX11_fewest 45 = .ok (.invokevirtual 157, 3) := by decide +kernel
theorem dX11_fewest_48 : decode cX11_fewest 48 = .ok (.istore 5, 2) := by decide +kernel
theorem dX11_fewest_50 : decode cX11_fewest 50 = .ok (.iload 5, 2) := by decide +kernel
theorem dX11_fewest_52 : decode cX11_fewest 52 = .ok (.iconst (-1), 1) := by decide +kernel
theorem dX11_fewest_53 : decode cX11_fewest 53 = .ok (.if_icmp .ne 5, 3) := by decide +kernel
theorem dX11_fewest_56 : decode cX11_fewest 56 = .ok (.iconst (-1), 1) := by decide +kernel
theorem dX11_fewest_57 : decode cX11_fewest 57 = .ok (.ireturn, 1) := by decide +kernel
theorem dX11_fewest_58 : decode cX11_fewest 58 = .ok (.aload_n 0, 1) := by decide +kernel
theorem dX11_fewest_59 : decode cX11_fewest 59 = .ok (.aload_n 0, 1) := by decide +kernel
theorem dX11_fewest_60 : decode cX11_fewest 60 = .ok (.getfield 51, 3) := by decide +kernel
theorem dX11_fewest_63 : decode cX11_fewest 63 = .ok (.aload_n 0, 1) := by decide +kernel
theorem dX11_fewest_64 : decode cX11_fewest 64 = .ok (.getfield 44, 3) := by decide +kernel
theorem dX11_fewest_67 : decode cX11_fewest 67 = .ok (.iload 5, 2) := by decide +kernel
theorem dX11_fewest_69 : decode cX11_fewest 69 = .ok (.aload_n 0, 1) := by decide +kernel
theorem dX11_fewest_70 : decode cX11_fewest 70 = .ok (.getfield 76, 3) := by decide +kernel
theorem dX11_fewest_73 : decode cX11_fewest 73 = .ok (.invokevirtual 161, 3) := by decide +kernel
theorem dX11_fewest_76 : decode cX11_fewest 76 = .ok (.putfield 150, 3) := by decide +kernel
theorem dX11_fewest_79 : decode cX11_fewest 79 = .ok (.iload 5, 2) := by decide +kernel
theorem dX11_fewest_81 : decode cX11_fewest 81 = .ok (.ireturn, 1) := by decide +kernel
theorem dX11_fits_0 : decode cX11_fits 0 = .ok (.iconst 0, 1) := by decide +kernel
theorem dX11_fits_1 : decode cX11_fits 1 = .ok (.istore_n 2, 1) := by decide +kernel
theorem dX11_fits_2 : decode cX11_fits 2 = .ok (.iconst 0, 1) := by decide +kernel
theorem dX11_fits_3 : decode cX11_fits 3 = .ok (.istore_n 3, 1) := by decide +kernel
theorem dX11_fits_4 : decode cX11_fits 4 = .ok (.iload_n 3, 1) := by decide +kernel
theorem dX11_fits_5 : decode cX11_fits 5 = .ok (.aload_n 0, 1) := by decide +kernel
theorem dX11_fits_6 : decode cX11_fits 6 = .ok (.getfield 10, 3) := by decide +kernel
theorem dX11_fits_9 : decode cX11_fits 9 = .ok (.getfield 228, 3) := by decide +kernel
theorem dX11_fits_12 : decode cX11_fits 12 = .ok (.if_icmp .ge 28, 3) := by decide +kernel
theorem dX11_fits_15 : decode cX11_fits 15 = .ok (.iload_n 2, 1) := by decide +kernel
theorem dX11_fits_16 : decode cX11_fits 16 = .ok (.aload_n 0, 1) := by decide +kernel
theorem dX11_fits_17 : decode cX11_fits 17 = .ok (.iload_n 3, 1) := by decide +kernel
theorem dX11_fits_18 : decode cX11_fits 18 = .ok (.iload_n 1, 1) := by decide +kernel
theorem dX11_fits_19 : decode cX11_fits 19 = .ok (.invokevirtual 282, 3) := by decide +kernel
theorem dX11_fits_22 : decode cX11_fits 22 = .ok (.ifCond .eq 9, 3) := by decide +kernel
theorem dX11_fits_25 : decode cX11_fits 25 = .ok (.iconst 1, 1) := by decide +kernel
theorem dX11_fits_26 : decode cX11_fits 26 = .ok (.iload_n 3, 1) := by decide +kernel
theorem dX11_fits_27 : decode cX11_fits 27 = .ok (.ishl, 1) := by decide +kernel
theorem dX11_fits_28 : decode cX11_fits 28 = .ok (.goto 4, 3) := by decide +kernel
theorem dX11_fits_31 : decode cX11_fits 31 = .ok (.iconst 0, 1) := by decide +kernel
theorem dX11_fits_32 : decode cX11_fits 32 = .ok (.ior, 1) := by decide +kernel
theorem dX11_fits_33 : decode cX11_fits 33 = .ok (.istore_n 2, 1) := by decide +kernel
theorem dX11_fits_34 : decode cX11_fits 34 = .ok (.iinc 3 1, 3) := by decide +kernel
theorem dX11_fits_37 : decode cX11_fits 37 = .ok (.goto (-33), 3) := by decide +kernel
theorem dX11_fits_40 : decode cX11_fits 40 = .ok (.iload_n 2, 1) := by decide +kernel
theorem dX11_fits_41 : decode cX11_fits 41 = .ok (.ireturn, 1) := by decide +kernel
theorem dX11_keeps_0 : decode cX11_keeps 0 = .ok (.aload_n 0, 1) := by decide +kernel
theorem dX11_keeps_1 : decode cX11_keeps 1 = .ok (.iload_n 1, 1) := by decide +kernel
theorem dX11_keeps_2 : decode cX11_keeps 2 = .ok (.iload_n 2, 1) := by decide +kernel
theorem dX11_keeps_3 : decode cX11_keeps 3 = .ok (.iload_n 3, 1) := by decide +kernel
theorem dX11_keeps_4 : decode cX11_keeps 4 = .ok (.invokevirtual 143, 3) := by decide +kernel
theorem dX11_keeps_7 : decode cX11_keeps 7 = .ok (.ifCond .ne 5, 3) := by decide +kernel
theorem dX11_keeps_10 : decode cX11_keeps 10 = .ok (.iconst (-1), 1) := by decide +kernel
theorem dX11_keeps_11 : decode cX11_keeps 11 = .ok (.ireturn, 1) := by decide +kernel
theorem dX11_keeps_12 : decode cX11_keeps 12 = .ok (.aload_n 0, 1) := by decide +kernel
theorem dX11_keeps_13 : decode cX11_keeps 13 = .ok (.iload_n 1, 1) := by decide +kernel
theorem dX11_keeps_14 : decode cX11_keeps 14 = .ok (.iload_n 2, 1) := by decide +kernel
theorem dX11_keeps_15 : decode cX11_keeps 15 = .ok (.iload_n 3, 1) := by decide +kernel
theorem dX11_keeps_16 : decode cX11_keeps 16 = .ok (.invokevirtual 153, 3) := by decide +kernel
theorem dX11_keeps_19 : decode cX11_keeps 19 = .ok (.aload_n 0, 1) := by decide +kernel
theorem dX11_keeps_20 : decode cX11_keeps 20 = .ok (.getfield 51, 3) := by decide +kernel
theorem dX11_keeps_23 : decode cX11_keeps 23 = .ok (.aload_n 0, 1) := by decide +kernel
theorem dX11_keeps_24 : decode cX11_keeps 24 = .ok (.getfield 44, 3) := by decide +kernel
theorem dX11_keeps_27 : decode cX11_keeps 27 = .ok (.aload_n 0, 1) := by decide +kernel
theorem dX11_keeps_28 : decode cX11_keeps 28 = .ok (.getfield 10, 3) := by decide +kernel
theorem dX11_keeps_31 : decode cX11_keeps 31 = .ok (.getfield 201, 3) := by decide +kernel
theorem dX11_keeps_34 : decode cX11_keeps 34 = .ok (.aload_n 0, 1) := by decide +kernel
theorem dX11_keeps_35 : decode cX11_keeps 35 = .ok (.getfield 10, 3) := by decide +kernel
theorem dX11_keeps_38 : decode cX11_keeps 38 = .ok (.getfield 204, 3) := by decide +kernel
theorem dX11_keeps_41 : decode cX11_keeps 41 = .ok (.invokevirtual 207, 3) := by decide +kernel
theorem dX11_keeps_44 : decode cX11_keeps 44 = .ok (.ireturn, 1) := by decide +kernel
theorem dX11_leave_0 : decode cX11_leave 0 = .ok (.aload_n 0, 1) := by decide +kernel
theorem dX11_leave_1 : decode cX11_leave 1 = .ok (.iload_n 1, 1) := by decide +kernel
theorem dX11_leave_2 : decode cX11_leave 2 = .ok (.iload_n 2, 1) := by decide +kernel
theorem dX11_leave_3 : decode cX11_leave 3 = .ok (.iconst 0, 1) := by decide +kernel
theorem dX11_leave_4 : decode cX11_leave 4 = .ok (.invokevirtual 143, 3) := by decide +kernel
theorem dX11_leave_7 : decode cX11_leave 7 = .ok (.ifCond .ne 5, 3) := by decide +kernel
theorem dX11_leave_10 : decode cX11_leave 10 = .ok (.iconst (-1), 1) := by decide +kernel
theorem dX11_leave_11 : decode cX11_leave 11 = .ok (.ireturn, 1) := by decide +kernel
theorem dX11_leave_12 : decode cX11_leave 12 = .ok (.aload_n 0, 1) := by decide +kernel
theorem dX11_leave_13 : decode cX11_leave 13 = .ok (.iload_n 1, 1) := by decide +kernel
theorem dX11_leave_14 : decode cX11_leave 14 = .ok (.iload_n 2, 1) := by decide +kernel
theorem dX11_leave_15 : decode cX11_leave 15 = .ok (.iconst 0, 1) := by decide +kernel
theorem dX11_leave_16 : decode cX11_leave 16 = .ok (.invokevirtual 153, 3) := by decide +kernel
theorem dX11_leave_19 : decode cX11_leave 19 = .ok (.iconst 0, 1) := by decide +kernel
theorem dX11_leave_20 : decode cX11_leave 20 = .ok (.istore_n 3, 1) := by decide +kernel
theorem dX11_leave_21 : decode cX11_leave 21 = .ok (.iconst 0, 1) := by decide +kernel
theorem dX11_leave_22 : decode cX11_leave 22 = .ok (.istore 4, 2) := by decide +kernel
theorem dX11_leave_24 : decode cX11_leave 24 = .ok (.iload 4, 2) := by decide +kernel
theorem dX11_leave_26 : decode cX11_leave 26 = .ok (.iconst 1, 1) := by decide +kernel
theorem dX11_leave_27 : decode cX11_leave 27 = .ok (.aload_n 0, 1) := by decide +kernel
theorem dX11_leave_28 : decode cX11_leave 28 = .ok (.getfield 10, 3) := by decide +kernel
theorem dX11_leave_31 : decode cX11_leave 31 = .ok (.getfield 228, 3) := by decide +kernel
theorem dX11_leave_34 : decode cX11_leave 34 = .ok (.ishl, 1) := by decide +kernel
theorem dX11_leave_35 : decode cX11_leave 35 = .ok (.if_icmp .ge 27, 3) := by decide +kernel
theorem dX11_leave_38 : decode cX11_leave 38 = .ok (.iload_n 3, 1) := by decide +kernel
theorem dX11_leave_39 : decode cX11_leave 39 = .ok (.aload_n 0, 1) := by decide +kernel
theorem dX11_leave_40 : decode cX11_leave 40 = .ok (.iload_n 2, 1) := by decide +kernel
theorem dX11_leave_41 : decode cX11_leave 41 = .ok (.iload 4, 2) := by decide +kernel
theorem dX11_leave_43 : decode cX11_leave 43 = .ok (.invokevirtual 231, 3) := by decide +kernel
theorem dX11_leave_46 : decode cX11_leave 46 = .ok (.ifCond .eq 7, 3) := by decide +kernel
theorem dX11_leave_49 : decode cX11_leave 49 = .ok (.iconst 1, 1) := by decide +kernel
theorem dX11_leave_50 : decode cX11_leave 50 = .ok (.goto 4, 3) := by decide +kernel
theorem dX11_leave_53 : decode cX11_leave 53 = .ok (.iconst 0, 1) := by decide +kernel
theorem dX11_leave_54 : decode cX11_leave 54 = .ok (.iadd, 1) := by decide +kernel
theorem dX11_leave_55 : decode cX11_leave 55 = .ok (.istore_n 3, 1) := by decide +kernel
theorem dX11_leave_56 : decode cX11_leave 56 = .ok (.iinc 4 1, 3) := by decide +kernel
theorem dX11_leave_59 : decode cX11_leave 59 = .ok (.goto (-35), 3) := by decide +kernel
theorem dX11_leave_62 : decode cX11_leave 62 = .ok (.iload_n 3, 1) := by decide +kernel
theorem dX11_leave_63 : decode cX11_leave 63 = .ok (.ireturn, 1) := by decide +kernel
theorem dX11_wager_0 : decode cX11_wager 0 = .ok (.aload_n 0, 1) := by decide +kernel
theorem dX11_wager_1 : decode cX11_wager 1 = .ok (.iload_n 1, 1) := by decide +kernel
theorem dX11_wager_2 : decode cX11_wager 2 = .ok (.iload_n 2, 1) := by decide +kernel
theorem dX11_wager_3 : decode cX11_wager 3 = .ok (.iload_n 3, 1) := by decide +kernel
theorem dX11_wager_4 : decode cX11_wager 4 = .ok (.invokevirtual 143, 3) := by decide +kernel
theorem dX11_wager_7 : decode cX11_wager 7 = .ok (.ifCond .eq 14, 3) := by decide +kernel
theorem dX11_wager_10 : decode cX11_wager 10 = .ok (.iload 4, 2) := by decide +kernel
theorem dX11_wager_12 : decode cX11_wager 12 = .ok (.ifCond .lt 9, 3) := by decide +kernel
theorem dX11_wager_15 : decode cX11_wager 15 = .ok (.iload 4, 2) := by decide +kernel
theorem dX11_wager_17 : decode cX11_wager 17 = .ok (.iconst 1, 1) := by decide +kernel
theorem dX11_wager_18 : decode cX11_wager 18 = .ok (.if_icmp .le 5, 3) := by decide +kernel
theorem dX11_wager_21 : decode cX11_wager 21 = .ok (.iconst (-1), 1) := by decide +kernel
theorem dX11_wager_22 : decode cX11_wager 22 = .ok (.ireturn, 1) := by decide +kernel
theorem dX11_wager_23 : decode cX11_wager 23 = .ok (.aload_n 0, 1) := by decide +kernel
theorem dX11_wager_24 : decode cX11_wager 24 = .ok (.iload_n 1, 1) := by decide +kernel
theorem dX11_wager_25 : decode cX11_wager 25 = .ok (.iload_n 2, 1) := by decide +kernel
theorem dX11_wager_26 : decode cX11_wager 26 = .ok (.iload_n 3, 1) := by decide +kernel
theorem dX11_wager_27 : decode cX11_wager 27 = .ok (.invokevirtual 153, 3) := by decide +kernel
theorem dX11_wager_30 : decode cX11_wager 30 = .ok (.aload_n 0, 1) := by decide +kernel
theorem dX11_wager_31 : decode cX11_wager 31 = .ok (.iload_n 2, 1) := by decide +kernel
theorem dX11_wager_32 : decode cX11_wager 32 = .ok (.iload_n 3, 1) := by decide +kernel
theorem dX11_wager_33 : decode cX11_wager 33 = .ok (.invokevirtual 225, 3) := by decide +kernel
theorem dX11_wager_36 : decode cX11_wager 36 = .ok (.istore 5, 2) := by decide +kernel
theorem dX11_wager_38 : decode cX11_wager 38 = .ok (.iload 4, 2) := by decide +kernel
theorem dX11_wager_40 : decode cX11_wager 40 = .ok (.iconst 1, 1) := by decide +kernel
theorem dX11_wager_41 : decode cX11_wager 41 = .ok (.if_icmp .ne 8, 3) := by decide +kernel
theorem dX11_wager_44 : decode cX11_wager 44 = .ok (.iload 5, 2) := by decide +kernel
theorem dX11_wager_46 : decode cX11_wager 46 = .ok (.goto 14, 3) := by decide +kernel
theorem dX11_wager_49 : decode cX11_wager 49 = .ok (.iload 5, 2) := by decide +kernel
theorem dX11_wager_51 : decode cX11_wager 51 = .ok (.iconst (-1), 1) := by decide +kernel
theorem dX11_wager_52 : decode cX11_wager 52 = .ok (.if_icmp .ne 7, 3) := by decide +kernel
theorem dX11_wager_55 : decode cX11_wager 55 = .ok (.iconst 0, 1) := by decide +kernel
theorem dX11_wager_56 : decode cX11_wager 56 = .ok (.goto 4, 3) := by decide +kernel
theorem dX11_wager_59 : decode cX11_wager 59 = .ok (.iconst 1, 1) := by decide +kernel
theorem dX11_wager_60 : decode cX11_wager 60 = .ok (.ireturn, 1) := by decide +kernel
theorem dX11_ways_0 : decode cX11_ways 0 = .ok (.aload_n 0, 1) := by decide +kernel
theorem dX11_ways_1 : decode cX11_ways 1 = .ok (.iload_n 1, 1) := by decide +kernel
theorem dX11_ways_2 : decode cX11_ways 2 = .ok (.iload_n 2, 1) := by decide +kernel
theorem dX11_ways_3 : decode cX11_ways 3 = .ok (.iload_n 3, 1) := by decide +kernel
theorem dX11_ways_4 : decode cX11_ways 4 = .ok (.invokevirtual 143, 3) := by decide +kernel
theorem dX11_ways_7 : decode cX11_ways 7 = .ok (.ifCond .eq 16, 3) := by decide +kernel
theorem dX11_ways_10 : decode cX11_ways 10 = .ok (.iload 4, 2) := by decide +kernel
theorem dX11_ways_12 : decode cX11_ways 12 = .ok (.iconst 1, 1) := by decide +kernel
theorem dX11_ways_13 : decode cX11_ways 13 = .ok (.if_icmp .lt 10, 3) := by decide +kernel
theorem dX11_ways_16 : decode cX11_ways 16 = .ok (.iload 4, 2) := by decide +kernel
theorem dX11_ways_18 : decode cX11_ways 18 = .ok (.bipush 60, 2) := by decide +kernel
theorem dX11_ways_20 : decode cX11_ways 20 = .ok (.if_icmp .le 7, 3) := by decide +kernel
theorem dX11_ways_23 : decode cX11_ways 23 = .ok (.ldc2_w 165, 3) := by decide +kernel
theorem dX11_ways_26 : decode cX11_ways 26 = .ok (.lreturn, 1) := by decide +kernel
theorem dX11_ways_27 : decode cX11_ways 27 = .ok (.aload_n 0, 1) := by decide +kernel
theorem dX11_ways_28 : decode cX11_ways 28 = .ok (.iload_n 1, 1) := by decide +kernel
theorem dX11_ways_29 : decode cX11_ways 29 = .ok (.iload_n 2, 1) := by decide +kernel
theorem dX11_ways_30 : decode cX11_ways 30 = .ok (.iload_n 3, 1) := by decide +kernel
theorem dX11_ways_31 : decode cX11_ways 31 = .ok (.invokevirtual 153, 3) := by decide +kernel
theorem dX11_ways_34 : decode cX11_ways 34 = .ok (.aload_n 0, 1) := by decide +kernel
theorem dX11_ways_35 : decode cX11_ways 35 = .ok (.getfield 58, 3) := by decide +kernel
theorem dX11_ways_38 : decode cX11_ways 38 = .ok (.aload_n 0, 1) := by decide +kernel
theorem dX11_ways_39 : decode cX11_ways 39 = .ok (.getfield 44, 3) := by decide +kernel
theorem dX11_ways_42 : decode cX11_ways 42 = .ok (.iload 4, 2) := by decide +kernel
theorem dX11_ways_44 : decode cX11_ways 44 = .ok (.invokevirtual 167, 3) := by decide +kernel
theorem dX11_ways_47 : decode cX11_ways 47 = .ok (.lreturn, 1) := by decide +kernel
set_option maxHeartbeats 4000000 in
set_option maxRecDepth 100000 in
theorem k_Wfewest_1 (l : Launch) (D : va_G) (k : KT) (A : Nat → Prop) (a : Nat → Nat) (z : SK) (G : GS) (p0 : Int32) (p1 : Int32) (p2 : Int32) (p3 : Int32) (hv_0_0 : G.2.2 0 0 = 1) (hv_0_1 : G.2.2 0 1 = 2) (hv_6_4 : G.2.2 6 4 = 1) : Met l yX11_fewest (WS yX11_fewest cX11_fewest 6 (some .int)) ({ frames := 5, cells := 0, slots := 0, locals := 119 }) (va_Pc [.ref (a 0), .int p0, .int p1, .int p2, .int p3] (cW D k A a z G)) (va_Qi (fun (r : Int32) (G1 : GS) => Bd G1 ∧ Fr [33, 37, 38, 39, 40, 42, 43, 44, 45] [(0, 12), (6, 3), (7, 1), (7, 2), (7, 3), (7, 4), (7, 5), (7, 6), (7, 7)] G G1) (fun (G1 : GS) t => Wd D k A a G1 t.heap) A) 0 0 A := by
  refine Met.ofW (cc := cX11_fewest) (maxL := 6) (ret := (some .int)) (by decide) rfl ?_
  intro p e s m args below meth c s₁ B hml hv
  obtain ⟨rfl, hW, hB_G, hK, hZ⟩ := hv
  have hx := B.exec
  have hb := B.bytes
  have hr := B.returns
  have hts := atoms_spec (ws := WS yX11_fewest cX11_fewest 6 (some .int)) B.pre
  have hgd : ∀ w ∈ gd, w ∈ WS yX11_fewest cX11_fewest 6 (some .int) := fun w h => List.mem_cons_of_mem _ h
  have hg : ∀ w ∈ gd, w.before _ s = true := fun w h => hts w (hgd w h)
  have hown : s.vm.findClass RX11 = some m.cls := findClass_of_methodNamed B.named
  have hS : va_S A s.heap s.heap [] := va_S.rf
  have hF : Fr [33, 37, 38, 39, 40, 42, 43, 44, 45] [(0, 12), (6, 3), (7, 1), (7, 2), (7, 3), (7, 4), (7, 5), (7, 6), (7, 7)] G G := Fr.rf
  have hl := lv_entry ([.ref (a 0), .int p0, .int p1, .int p2, .int p3]) (n := 6) (Nat.le_of_ble_eq_true rfl)
  rw [lg_entry_eq]
  generalize (lg_sl ([.ref (a 0), .int p0, .int p1, .int p2, .int p3]) ++ List.replicate (6 - (lg_sl ([.ref (a 0), .int p0, .int p1, .int p2, .int p3])).length) Slot.unset).toArray = ls at hl ⊢
  have hl : lv_has ls 6 [(0, .ref (a 0)), (1, .int p0), (2, .int p1), (3, .int p2), (4, .int p3)] := hl
  refine lv_aload_n hx hb dX11_fewest_0 rfl (lv_at hl 0 rfl) ?_
  refine lv_iconst (v := 0) hx hb dX11_fewest_1 (by decide) ?_
  refine S_putI (ty := .int) (C := RX11) (T := TX11) (N := 13) hx hb hg iX11 tyX11 tyX11_ok nmX11 hown hK hW hS kd_0 rfl 12 (by decide) (hg (Cond.fieldLink RX11 150 "SlabWalk" "lie" "I") m582) (fun _ h9 => h9) rfl (by decide +kernel) rfl rfl rfl dX11_fewest_2 (fun G_1 H locs eG_1 hW hS => ?_)
  have hB_G_1 : Bd G_1 := hB_G.put (V := 0) (lo := 0) (hi := 400) eG_1 rfl rfl rfl (by omega) (by omega) (hB_G.2.put eG_1 rfl)
  have hF := hF.put eG_1 (Or.inr (by decide))
  refine lv_aload_n hx hb dX11_fewest_5 rfl (lv_at hl 0 rfl) ?_
  refine lv_iload_n hx hb dX11_fewest_6 rfl (lv_at hl 1 rfl) ?_
  refine lv_iload_n hx hb dX11_fewest_7 rfl (lv_at hl 2 rfl) ?_
  refine lv_iload_n hx hb dX11_fewest_8 rfl (lv_at hl 3 rfl) ?_
  have b_2 : 0 ≤ (G.1 1 10).toInt ∧ (G.1 1 10).toInt ≤ 4 := hB_G.i 1 10 rfl rfl
  have g_3 : (G_1.1 1 10).toInt = (G.1 1 10).toInt := by rw [show G_1.1 1 10 = (G.1 1 10) from (gp_ne eG_1 (by decide))]
  refine S_calli (va_runV (As := [.int p0, .int p1, .int p2]) (rest := []) ⟨hx, hb, hml, hown, hts⟩ (k_wAsk_1 l D k A a z G_1 p0 p1 p2 (((congrFun (congrFun (congrArg (fun q => q.2.2) eG_1) 0) 0)).trans (hv_0_0)) (((congrFun (congrFun (congrArg (fun q => q.2.2) eG_1) 0) 1)).trans (hv_0_1)) (((congrFun (congrFun (congrArg (fun q => q.2.2) eG_1) 6) 4)).trans (hv_6_4))) (cwV 3 hts (gd_V hgd m953 m955 m31 m117 m956) rfl rfl rfl (by decide +kernel) ⟨Nat.le_of_ble_eq_true rfl, Nat.le_of_ble_eq_true rfl⟩) (pre_V hW hB_G_1 hK hZ hS kd_0 rfl) rfl rfl hl.1 rfl (lv_room (Nat.le_of_ble_eq_true rfl)) dX11_fewest_9 ⟨Nat.le_of_ble_eq_true rfl, Nat.le_of_ble_eq_true rfl⟩) hS (fun r_4 G_5 H locs hpo hW hS => ?_)
  obtain ⟨hB_G_5, hq_6, f_8, hp_7⟩ := hpo
  have hF := hF.call hq_6 (by decide) (by decide)
  refine lv_if_eq (tgt := 26) hx hb dX11_fewest_12 (by decide) (fun c_9 => ?_) (fun c_9 => ?_)
  · have c_9 : r_4.toInt = 0 := xI_eq rfl rfl c_9
    refine lv_iconst (v := (-1)) hx hb dX11_fewest_26 (by decide) ?_
    exact W.iret (v := (-1)) hx hb hr (fun t ht _ => ⟨⟨(-1), G_5, rfl, ⟨hB_G_5, hF⟩, wd_t ht hW⟩, hS.F ht⟩) hS.2.2 dX11_fewest_27
  · have c_9 : r_4.toInt ≠ 0 := xI_ne rfl rfl c_9
    refine lv_iload hx hb dX11_fewest_15 (lv_at hl 4 rfl) ?_
    refine lv_if_lt (tgt := 26) hx hb dX11_fewest_17 (by decide) (fun c_10 => ?_) (fun c_10 => ?_)
    · have c_10 : p3.toInt < 0 := xI_lt rfl rfl c_10
      refine lv_iconst (v := (-1)) hx hb dX11_fewest_26 (by decide) ?_
      exact W.iret (v := (-1)) hx hb hr (fun t ht _ => ⟨⟨(-1), G_5, rfl, ⟨hB_G_5, hF⟩, wd_t ht hW⟩, hS.F ht⟩) hS.2.2 dX11_fewest_27
    · have c_10 : 0 ≤ p3.toInt := xI_nlt rfl rfl c_10
      refine lv_iload hx hb dX11_fewest_20 (lv_at hl 4 rfl) ?_
      refine lv_iconst (v := 2) hx hb dX11_fewest_22 (by decide) ?_
      refine lv_icmp_le (tgt := 28) hx hb dX11_fewest_23 (by decide) (fun c_11 => ?_) (fun c_11 => ?_)
      · have c_11 : p3.toInt ≤ 2 := xI_le rfl rfl c_11
        refine lv_aload_n hx hb dX11_fewest_28 rfl (lv_at hl 0 rfl) ?_
        refine lv_iload_n hx hb dX11_fewest_29 rfl (lv_at hl 1 rfl) ?_
        refine lv_iload_n hx hb dX11_fewest_30 rfl (lv_at hl 2 rfl) ?_
        refine lv_iload_n hx hb dX11_fewest_31 rfl (lv_at hl 3 rfl) ?_
        have g_12 : (G_5.1 1 10).toInt = (G.1 1 10).toInt := by rw [show G_5.1 1 10 = (G.1 1 10) from ((hq_6.i 1 10 (by decide) (by decide)).trans ((gp_ne eG_1 (by decide)).trans (rfl)))]
        refine S_callv (va_runV (As := [.int p0, .int p1, .int p2]) (rest := []) ⟨hx, hb, hml, hown, hts⟩ (k_wPrep_1 l D k A a z G_5 p0 p1 p2 ⟨by omega, by omega⟩ ⟨by omega, by omega⟩ ((((hq_6.r 0 0 (by decide) (by decide)).trans (congrFun (congrFun (congrArg (fun q => q.2.2) eG_1) 0) 0))).trans (hv_0_0)) ((((hq_6.r 0 1 (by decide) (by decide)).trans (congrFun (congrFun (congrArg (fun q => q.2.2) eG_1) 0) 1))).trans (hv_0_1)) ((((hq_6.r 6 4 (by decide) (by decide)).trans (congrFun (congrFun (congrArg (fun q => q.2.2) eG_1) 6) 4))).trans (hv_6_4)) (by omega)) (cwV 3 hts (gd_V hgd m975 m977 m32 m117 m978) rfl rfl rfl (by decide +kernel) ⟨Nat.le_of_ble_eq_true rfl, Nat.le_of_ble_eq_true rfl⟩) (pre_V hW hB_G_5 hK hZ hS kd_0 rfl) rfl rfl hl.1 rfl (lv_room (Nat.le_of_ble_eq_true rfl)) dX11_fewest_32 ⟨Nat.le_of_ble_eq_true rfl, Nat.le_of_ble_eq_true rfl⟩) hS (fun G_14 H locs hpo hW hS => ?_)
        obtain ⟨hB_G_14, hq_15, hp_16⟩ := hpo
        have hF := hF.call hq_15 (by decide) (by decide)
        refine lv_aload_n hx hb dX11_fewest_35 rfl (lv_at hl 0 rfl) ?_
        refine S_getR (n := 8) (C := RX11) (T := TX11) (N := 13) hx hb hg iX11 hown hK hW kd_0 rfl 6 (by decide) (hg (Cond.fieldLink RX11 51 "SlabWalk" "trails" "LSlabWalk$Trails;") m576) (fun _ h9 => h9) rfl dX11_fewest_36 ?_
        refine lv_aload_n hx hb dX11_fewest_39 rfl (lv_at hl 0 rfl) ?_
        refine S_getR (n := 7) (C := RX11) (T := TX11) (N := 13) hx hb hg iX11 hown hK hW kd_0 rfl 5 (by decide) (hg (Cond.fieldLink RX11 44 "SlabWalk" "course" "LSlabWalk$Course;") m575) (fun _ h9 => h9) rfl dX11_fewest_40 ?_
        refine lv_iload hx hb dX11_fewest_43 (lv_at hl 4 rfl) ?_
        have b_17 : 0 ≤ (G_14.1 7 3).toInt ∧ (G_14.1 7 3).toInt ≤ 60 := hB_G_14.i 7 3 rfl rfl
        have b_18 : 0 ≤ (G_14.1 7 4).toInt ∧ (G_14.1 7 4).toInt ≤ 60 := hB_G_14.i 7 4 rfl rfl
        have b_19 : (-1) ≤ (G_14.1 7 6).toInt ∧ (G_14.1 7 6).toInt ≤ 400 := hB_G_14.i 7 6 rfl rfl
        have b_20 : 0 ≤ (G_14.1 7 7).toInt ∧ (G_14.1 7 7).toInt ≤ 400 := hB_G_14.i 7 7 rfl rfl
        refine S_calli (va_runV (As := [.ref (a 7), .int p3]) (rest := []) ⟨hx, hb, hml, hown, hts⟩ (k_tFewest l D k A a z G_14 p3 (by omega)) (cwV 2 hts (gd_V hgd m989 m990 m991 m124 m992) rfl rfl rfl (by decide +kernel) ⟨Nat.le_of_ble_eq_true rfl, Nat.le_of_ble_eq_true rfl⟩) (pre_V hW hB_G_14 hK hZ hS kd_8 rfl) rfl rfl hl.1 rfl (lv_room (Nat.le_of_ble_eq_true rfl)) dX11_fewest_45 ⟨Nat.le_of_ble_eq_true rfl, Nat.le_of_ble_eq_true rfl⟩) hS (fun r_21 G_22 H locs hpo hW hS => ?_)
        obtain ⟨hB_G_22, hq_23⟩ := hpo
        have hF := hF.call hq_23 (by decide) (by decide)
        refine lv_istore (lv' := [(5, .int r_21), (0, .ref (a 0)), (1, .int p0), (2, .int p1), (3, .int p2), (4, .int p3)]) hx hb dX11_fewest_48 hl (by decide) rfl (fun ls hl => ?_)
        refine lv_iload hx hb dX11_fewest_50 (lv_at hl 0 rfl) ?_
        refine lv_iconst (v := (-1)) hx hb dX11_fewest_52 (by decide) ?_
        refine lv_icmp_ne (tgt := 58) hx hb dX11_fewest_53 (by decide) (fun c_25 => ?_) (fun c_25 => ?_)
        · have c_25 : r_21.toInt ≠ (-1) := xI_ne rfl rfl c_25
          refine lv_aload_n hx hb dX11_fewest_58 rfl (lv_at hl 1 rfl) ?_
          refine lv_aload_n hx hb dX11_fewest_59 rfl (lv_at hl 1 rfl) ?_
          refine S_getR (n := 8) (C := RX11) (T := TX11) (N := 13) hx hb hg iX11 hown hK hW kd_0 rfl 6 (by decide) (hg (Cond.fieldLink RX11 51 "SlabWalk" "trails" "LSlabWalk$Trails;") m576) (fun _ h9 => h9) rfl dX11_fewest_60 ?_
          refine lv_aload_n hx hb dX11_fewest_63 rfl (lv_at hl 1 rfl) ?_
          refine S_getR (n := 7) (C := RX11) (T := TX11) (N := 13) hx hb hg iX11 hown hK hW kd_0 rfl 5 (by decide) (hg (Cond.fieldLink RX11 44 "SlabWalk" "course" "LSlabWalk$Course;") m575) (fun _ h9 => h9) rfl dX11_fewest_64 ?_
          refine lv_iload hx hb dX11_fewest_67 (lv_at hl 0 rfl) ?_
          refine lv_aload_n hx hb dX11_fewest_69 rfl (lv_at hl 1 rfl) ?_
          refine S_getR (n := 33) (C := RX11) (T := TX11) (N := 13) hx hb hg iX11 hown hK hW kd_0 rfl 10 (by decide) (hg (Cond.fieldLink RX11 76 "SlabWalk" "lying" "[I") m580) (fun _ h9 => h9) rfl dX11_fewest_70 ?_
          have g_26 : (G_22.1 7 3).toInt = (G_14.1 7 3).toInt := by rw [show G_22.1 7 3 = (G_14.1 7 3) from ((hq_23.i 7 3 (by decide) (by decide)).trans (rfl))]
          have g_27 : (G_22.1 7 4).toInt = (G_14.1 7 4).toInt := by rw [show G_22.1 7 4 = (G_14.1 7 4) from ((hq_23.i 7 4 (by decide) (by decide)).trans (rfl))]
          have g_28 : (G_22.1 7 6).toInt = (G_14.1 7 6).toInt := by rw [show G_22.1 7 6 = (G_14.1 7 6) from ((hq_23.i 7 6 (by decide) (by decide)).trans (rfl))]
          have g_29 : (G_22.1 7 7).toInt = (G_14.1 7 7).toInt := by rw [show G_22.1 7 7 = (G_14.1 7 7) from ((hq_23.i 7 7 (by decide) (by decide)).trans (rfl))]
          refine S_calli (va_runV (As := [.ref (a 7), .int r_21, .ref (a 33)]) (rest := [.ref (a 0)]) ⟨hx, hb, hml, hown, hts⟩ (k_tLay l D k A a z G_22 r_21 (by omega)) (cwV 3 hts (gd_V hgd m1007 m1008 m1009 m124 m1010) rfl rfl rfl (by decide +kernel) ⟨Nat.le_of_ble_eq_true rfl, Nat.le_of_ble_eq_true rfl⟩) (pre_V hW hB_G_22 hK hZ hS kd_8 rfl) rfl rfl hl.1 rfl (lv_room (Nat.le_of_ble_eq_true rfl)) dX11_fewest_73 ⟨Nat.le_of_ble_eq_true rfl, Nat.le_of_ble_eq_true rfl⟩) hS (fun r_30 G_31 H locs hpo hW hS => ?_)
          obtain ⟨hB_G_31, hq_32, f_34⟩ := hpo
          have hF := hF.call hq_32 (by decide) (by decide)
          refine S_putI (ty := .int) (C := RX11) (T := TX11) (N := 13) hx hb hg iX11 tyX11 tyX11_ok nmX11 hown hK hW hS kd_0 rfl 12 (by decide) (hg (Cond.fieldLink RX11 150 "SlabWalk" "lie" "I") m582) (fun _ h9 => h9) rfl (by decide +kernel) rfl rfl rfl dX11_fewest_76 (fun G_35 H locs eG_35 hW hS => ?_)
          have hB_G_35 : Bd G_35 := hB_G_31.put (V := r_30.toInt) (lo := 0) (hi := 400) eG_35 rfl rfl rfl (by omega) (by omega) (hB_G_31.2.put eG_35 rfl)
          have hF := hF.put eG_35 (Or.inr (by decide))
          refine lv_iload hx hb dX11_fewest_79 (lv_at hl 0 rfl) ?_
          exact W.iret (v := r_21) hx hb hr (fun t ht _ => ⟨⟨r_21, G_35, rfl, ⟨hB_G_35, hF⟩, wd_t ht hW⟩, hS.F ht⟩) hS.2.2 dX11_fewest_81
        · have c_25 : r_21.toInt = (-1) := xI_eq rfl rfl c_25
          refine lv_iconst (v := (-1)) hx hb dX11_fewest_56 (by decide) ?_
          exact W.iret (v := (-1)) hx hb hr (fun t ht _ => ⟨⟨(-1), G_22, rfl, ⟨hB_G_22, hF⟩, wd_t ht hW⟩, hS.F ht⟩) hS.2.2 dX11_fewest_57
      · have c_11 : 2 < p3.toInt := xI_nle rfl rfl c_11
        refine lv_iconst (v := (-1)) hx hb dX11_fewest_26 (by decide) ?_
        exact W.iret (v := (-1)) hx hb hr (fun t ht _ => ⟨⟨(-1), G_5, rfl, ⟨hB_G_5, hF⟩, wd_t ht hW⟩, hS.F ht⟩) hS.2.2 dX11_fewest_27

set_option maxHeartbeats 4000000 in
set_option maxRecDepth 100000 in
theorem k_Wways_1 (l : Launch) (D : va_G) (k : KT) (A : Nat → Prop) (a : Nat → Nat) (z : SK) (G : GS) (p0 : Int32) (p1 : Int32) (p2 : Int32) (p3 : Int32) (hv_0_0 : G.2.2 0 0 = 1) (hv_0_1 : G.2.2 0 1 = 2) (hv_6_4 : G.2.2 6 4 = 1) : Met l yX11_ways (WS yX11_ways cX11_ways 5 (some .long)) ({ frames := 5, cells := 0, slots := 0, locals := 119 }) (va_Pc [.ref (a 0), .int p0, .int p1, .int p2, .int p3] (cW D k A a z G)) (va_Ql (fun (r : Int64) (G1 : GS) => Bd G1 ∧ Fr [37, 38, 39, 40, 52, 53, 54, 55] [(6, 3), (7, 1), (7, 2), (7, 3), (7, 4), (7, 5), (7, 6), (7, 7)] G G1) (fun (G1 : GS) t => Wd D k A a G1 t.heap) A) 0 0 A := by
  refine Met.ofW (cc := cX11_ways) (maxL := 5) (ret := (some .long)) (by decide) rfl ?_
  intro p e s m args below meth c s₁ B hml hv
  obtain ⟨rfl, hW, hB_G, hK, hZ⟩ := hv
  have hx := B.exec
  have hb := B.bytes
  have hr := B.returns
  have hts := atoms_spec (ws := WS yX11_ways cX11_ways 5 (some .long)) B.pre
  have hgd : ∀ w ∈ gd, w ∈ WS yX11_ways cX11_ways 5 (some .long) := fun w h => List.mem_cons_of_mem _ h
  have hg : ∀ w ∈ gd, w.before _ s = true := fun w h => hts w (hgd w h)
  have hown : s.vm.findClass RX11 = some m.cls := findClass_of_methodNamed B.named
  have hS : va_S A s.heap s.heap [] := va_S.rf
  have hF : Fr [37, 38, 39, 40, 52, 53, 54, 55] [(6, 3), (7, 1), (7, 2), (7, 3), (7, 4), (7, 5), (7, 6), (7, 7)] G G := Fr.rf
  have hl := lv_entry ([.ref (a 0), .int p0, .int p1, .int p2, .int p3]) (n := 5) (Nat.le_of_ble_eq_true rfl)
  rw [lg_entry_eq]
  generalize (lg_sl ([.ref (a 0), .int p0, .int p1, .int p2, .int p3]) ++ List.replicate (5 - (lg_sl ([.ref (a 0), .int p0, .int p1, .int p2, .int p3])).length) Slot.unset).toArray = ls at hl ⊢
  have hl : lv_has ls 5 [(0, .ref (a 0)), (1, .int p0), (2, .int p1), (3, .int p2), (4, .int p3)] := hl
  refine lv_aload_n hx hb dX11_ways_0 rfl (lv_at hl 0 rfl) ?_
  refine lv_iload_n hx hb dX11_ways_1 rfl (lv_at hl 1 rfl) ?_
  refine lv_iload_n hx hb dX11_ways_2 rfl (lv_at hl 2 rfl) ?_
  refine lv_iload_n hx hb dX11_ways_3 rfl (lv_at hl 3 rfl) ?_
  refine S_calli (va_runV (As := [.int p0, .int p1, .int p2]) (rest := []) ⟨hx, hb, hml, hown, hts⟩ (k_wAsk_1 l D k A a z G p0 p1 p2 hv_0_0 hv_0_1 hv_6_4) (cwV 3 hts (gd_V hgd m953 m955 m31 m117 m956) rfl rfl rfl (by decide +kernel) ⟨Nat.le_of_ble_eq_true rfl, Nat.le_of_ble_eq_true rfl⟩) (pre_V hW hB_G hK hZ hS kd_0 rfl) rfl rfl hl.1 rfl (lv_room (Nat.le_of_ble_eq_true rfl)) dX11_ways_4 ⟨Nat.le_of_ble_eq_true rfl, Nat.le_of_ble_eq_true rfl⟩) hS (fun r_1 G_2 H locs hpo hW hS => ?_)
  obtain ⟨hB_G_2, hq_3, f_5, hp_4⟩ := hpo
  have hF := hF.call hq_3 (by decide) (by decide)
  refine lv_if_eq (tgt := 23) hx hb dX11_ways_7 (by decide) (fun c_6 => ?_) (fun c_6 => ?_)
  · have c_6 : r_1.toInt = 0 := xI_eq rfl rfl c_6
    refine lv_ldc2 (v := (-1)) hx hb hown (hg (Cond.constantLong RX11 165 (-1)) m1018) dX11_ways_23 ?_
    exact W.lret (v := (-1)) hx hb hr (fun t ht _ => ⟨⟨(-1), G_2, rfl, ⟨hB_G_2, hF⟩, wd_t ht hW⟩, hS.F ht⟩) hS.2.2 dX11_ways_26
  · have c_6 : r_1.toInt ≠ 0 := xI_ne rfl rfl c_6
    refine lv_iload hx hb dX11_ways_10 (lv_at hl 4 rfl) ?_
    refine lv_iconst (v := 1) hx hb dX11_ways_12 (by decide) ?_
    refine lv_icmp_lt (tgt := 23) hx hb dX11_ways_13 (by decide) (fun c_7 => ?_) (fun c_7 => ?_)
    · have c_7 : p3.toInt < 1 := xI_lt rfl rfl c_7
      refine lv_ldc2 (v := (-1)) hx hb hown (hg (Cond.constantLong RX11 165 (-1)) m1018) dX11_ways_23 ?_
      exact W.lret (v := (-1)) hx hb hr (fun t ht _ => ⟨⟨(-1), G_2, rfl, ⟨hB_G_2, hF⟩, wd_t ht hW⟩, hS.F ht⟩) hS.2.2 dX11_ways_26
    · have c_7 : 1 ≤ p3.toInt := xI_nlt rfl rfl c_7
      refine lv_iload hx hb dX11_ways_16 (lv_at hl 4 rfl) ?_
      refine lv_bipush (v := 60) hx hb dX11_ways_18 (by decide) ?_
      refine lv_icmp_le (tgt := 27) hx hb dX11_ways_20 (by decide) (fun c_8 => ?_) (fun c_8 => ?_)
      · have c_8 : p3.toInt ≤ 60 := xI_le rfl rfl c_8
        refine lv_aload_n hx hb dX11_ways_27 rfl (lv_at hl 0 rfl) ?_
        refine lv_iload_n hx hb dX11_ways_28 rfl (lv_at hl 1 rfl) ?_
        refine lv_iload_n hx hb dX11_ways_29 rfl (lv_at hl 2 rfl) ?_
        refine lv_iload_n hx hb dX11_ways_30 rfl (lv_at hl 3 rfl) ?_
        have b_9 : 0 ≤ (G.1 1 10).toInt ∧ (G.1 1 10).toInt ≤ 4 := hB_G.i 1 10 rfl rfl
        have g_10 : (G_2.1 1 10).toInt = (G.1 1 10).toInt := by rw [show G_2.1 1 10 = (G.1 1 10) from (hq_3.i 1 10 (by decide) (by decide))]
        refine S_callv (va_runV (As := [.int p0, .int p1, .int p2]) (rest := []) ⟨hx, hb, hml, hown, hts⟩ (k_wPrep_1 l D k A a z G_2 p0 p1 p2 ⟨by omega, by omega⟩ ⟨by omega, by omega⟩ (((hq_3.r 0 0 (by decide) (by decide))).trans (hv_0_0)) (((hq_3.r 0 1 (by decide) (by decide))).trans (hv_0_1)) (((hq_3.r 6 4 (by decide) (by decide))).trans (hv_6_4)) (by omega)) (cwV 3 hts (gd_V hgd m975 m977 m32 m117 m978) rfl rfl rfl (by decide +kernel) ⟨Nat.le_of_ble_eq_true rfl, Nat.le_of_ble_eq_true rfl⟩) (pre_V hW hB_G_2 hK hZ hS kd_0 rfl) rfl rfl hl.1 rfl (lv_room (Nat.le_of_ble_eq_true rfl)) dX11_ways_31 ⟨Nat.le_of_ble_eq_true rfl, Nat.le_of_ble_eq_true rfl⟩) hS (fun G_12 H locs hpo hW hS => ?_)
        obtain ⟨hB_G_12, hq_13, hp_14⟩ := hpo
        have hF := hF.call hq_13 (by decide) (by decide)
        refine lv_aload_n hx hb dX11_ways_34 rfl (lv_at hl 0 rfl) ?_
        refine S_getR (n := 29) (C := RX11) (T := TX11) (N := 13) hx hb hg iX11 hown hK hW kd_0 rfl 7 (by decide) (hg (Cond.fieldLink RX11 58 "SlabWalk" "odds" "LSlabWalk$Odds;") m577) (fun _ h9 => h9) rfl dX11_ways_35 ?_
        refine lv_aload_n hx hb dX11_ways_38 rfl (lv_at hl 0 rfl) ?_
        refine S_getR (n := 7) (C := RX11) (T := TX11) (N := 13) hx hb hg iX11 hown hK hW kd_0 rfl 5 (by decide) (hg (Cond.fieldLink RX11 44 "SlabWalk" "course" "LSlabWalk$Course;") m575) (fun _ h9 => h9) rfl dX11_ways_39 ?_
        refine lv_iload hx hb dX11_ways_42 (lv_at hl 4 rfl) ?_
        have b_15 : 0 ≤ (G_12.1 7 3).toInt ∧ (G_12.1 7 3).toInt ≤ 60 := hB_G_12.i 7 3 rfl rfl
        have b_16 : 0 ≤ (G_12.1 7 4).toInt ∧ (G_12.1 7 4).toInt ≤ 60 := hB_G_12.i 7 4 rfl rfl
        have b_17 : (-1) ≤ (G_12.1 7 6).toInt ∧ (G_12.1 7 6).toInt ≤ 400 := hB_G_12.i 7 6 rfl rfl
        have b_18 : 0 ≤ (G_12.1 7 7).toInt ∧ (G_12.1 7 7).toInt ≤ 400 := hB_G_12.i 7 7 rfl rfl
        refine S_calll (va_runV (As := [.ref (a 7), .int p3]) (rest := []) ⟨hx, hb, hml, hown, hts⟩ (k_oCount l D k A a z G_12 p3 ⟨by omega, by omega⟩ (by omega)) (cwV 2 hts (gd_V hgd m1019 m1020 m1021 m126 m1022) rfl rfl rfl (by decide +kernel) ⟨Nat.le_of_ble_eq_true rfl, Nat.le_of_ble_eq_true rfl⟩) (pre_V hW hB_G_12 hK hZ hS kd_29 rfl) rfl rfl hl.1 rfl (lv_room (Nat.le_of_ble_eq_true rfl)) dX11_ways_44 ⟨Nat.le_of_ble_eq_true rfl, Nat.le_of_ble_eq_true rfl⟩) hS (fun r_19 G_20 H locs hpo hW hS => ?_)
        obtain ⟨hB_G_20, hq_21⟩ := hpo
        have hF := hF.call hq_21 (by decide) (by decide)
        exact W.lret (v := r_19) hx hb hr (fun t ht _ => ⟨⟨r_19, G_20, rfl, ⟨hB_G_20, hF⟩, wd_t ht hW⟩, hS.F ht⟩) hS.2.2 dX11_ways_47
      · have c_8 : 60 < p3.toInt := xI_nle rfl rfl c_8
        refine lv_ldc2 (v := (-1)) hx hb hown (hg (Cond.constantLong RX11 165 (-1)) m1018) dX11_ways_23 ?_
        exact W.lret (v := (-1)) hx hb hr (fun t ht _ => ⟨⟨(-1), G_2, rfl, ⟨hB_G_2, hF⟩, wd_t ht hW⟩, hS.F ht⟩) hS.2.2 dX11_ways_26

set_option maxHeartbeats 4000000 in
set_option maxRecDepth 100000 in
theorem k_Wevenest_1 (l : Launch) (D : va_G) (k : KT) (A : Nat → Prop) (a : Nat → Nat) (z : SK) (G : GS) (p0 : Int32) (p1 : Int32) (p2 : Int32) (p3 : Int32) (hv_0_0 : G.2.2 0 0 = 1) (hv_0_1 : G.2.2 0 1 = 2) (hv_6_4 : G.2.2 6 4 = 1) : Met l yX11_evenest (WS yX11_evenest cX11_evenest 5 (some .int)) ({ frames := 5, cells := 0, slots := 0, locals := 119 }) (va_Pc [.ref (a 0), .int p0, .int p1, .int p2, .int p3] (cW D k A a z G)) (va_Qi (fun (r : Int32) (G1 : GS) => Bd G1 ∧ Fr [37, 38, 39, 40, 42] [(6, 3), (7, 1), (7, 2), (7, 3), (7, 4), (7, 5), (7, 6), (7, 7)] G G1) (fun (G1 : GS) t => Wd D k A a G1 t.heap) A) 0 0 A := by
  refine Met.ofW (cc := cX11_evenest) (maxL := 5) (ret := (some .int)) (by decide) rfl ?_
  intro p e s m args below meth c s₁ B hml hv
  obtain ⟨rfl, hW, hB_G, hK, hZ⟩ := hv
  have hx := B.exec
  have hb := B.bytes
  have hr := B.returns
  have hts := atoms_spec (ws := WS yX11_evenest cX11_evenest 5 (some .int)) B.pre
  have hgd : ∀ w ∈ gd, w ∈ WS yX11_evenest cX11_evenest 5 (some .int) := fun w h => List.mem_cons_of_mem _ h
  have hg : ∀ w ∈ gd, w.before _ s = true := fun w h => hts w (hgd w h)
  have hown : s.vm.findClass RX11 = some m.cls := findClass_of_methodNamed B.named
  have hS : va_S A s.heap s.heap [] := va_S.rf
  have hF : Fr [37, 38, 39, 40, 42] [(6, 3), (7, 1), (7, 2), (7, 3), (7, 4), (7, 5), (7, 6), (7, 7)] G G := Fr.rf
  have hl := lv_entry ([.ref (a 0), .int p0, .int p1, .int p2, .int p3]) (n := 5) (Nat.le_of_ble_eq_true rfl)
  rw [lg_entry_eq]
  generalize (lg_sl ([.ref (a 0), .int p0, .int p1, .int p2, .int p3]) ++ List.replicate (5 - (lg_sl ([.ref (a 0), .int p0, .int p1, .int p2, .int p3])).length) Slot.unset).toArray = ls at hl ⊢
  have hl : lv_has ls 5 [(0, .ref (a 0)), (1, .int p0), (2, .int p1), (3, .int p2), (4, .int p3)] := hl
  refine lv_aload_n hx hb dX11_evenest_0 rfl (lv_at hl 0 rfl) ?_
  refine lv_iload_n hx hb dX11_evenest_1 rfl (lv_at hl 1 rfl) ?_
  refine lv_iload_n hx hb dX11_evenest_2 rfl (lv_at hl 2 rfl) ?_
  refine lv_iload_n hx hb dX11_evenest_3 rfl (lv_at hl 3 rfl) ?_
  refine S_calli (va_runV (As := [.int p0, .int p1, .int p2]) (rest := []) ⟨hx, hb, hml, hown, hts⟩ (k_wAsk_1 l D k A a z G p0 p1 p2 hv_0_0 hv_0_1 hv_6_4) (cwV 3 hts (gd_V hgd m953 m955 m31 m117 m956) rfl rfl rfl (by decide +kernel) ⟨Nat.le_of_ble_eq_true rfl, Nat.le_of_ble_eq_true rfl⟩) (pre_V hW hB_G hK hZ hS kd_0 rfl) rfl rfl hl.1 rfl (lv_room (Nat.le_of_ble_eq_true rfl)) dX11_evenest_4 ⟨Nat.le_of_ble_eq_true rfl, Nat.le_of_ble_eq_true rfl⟩) hS (fun r_1 G_2 H locs hpo hW hS => ?_)
  obtain ⟨hB_G_2, hq_3, f_5, hp_4⟩ := hpo
  have hF := hF.call hq_3 (by decide) (by decide)
  refine lv_if_eq (tgt := 21) hx hb dX11_evenest_7 (by decide) (fun c_6 => ?_) (fun c_6 => ?_)
  · have c_6 : r_1.toInt = 0 := xI_eq rfl rfl c_6
    refine lv_iconst (v := (-1)) hx hb dX11_evenest_21 (by decide) ?_
    exact W.iret (v := (-1)) hx hb hr (fun t ht _ => ⟨⟨(-1), G_2, rfl, ⟨hB_G_2, hF⟩, wd_t ht hW⟩, hS.F ht⟩) hS.2.2 dX11_evenest_22
  · have c_6 : r_1.toInt ≠ 0 := xI_ne rfl rfl c_6
    refine lv_iload hx hb dX11_evenest_10 (lv_at hl 4 rfl) ?_
    refine lv_if_lt (tgt := 21) hx hb dX11_evenest_12 (by decide) (fun c_7 => ?_) (fun c_7 => ?_)
    · have c_7 : p3.toInt < 0 := xI_lt rfl rfl c_7
      refine lv_iconst (v := (-1)) hx hb dX11_evenest_21 (by decide) ?_
      exact W.iret (v := (-1)) hx hb hr (fun t ht _ => ⟨⟨(-1), G_2, rfl, ⟨hB_G_2, hF⟩, wd_t ht hW⟩, hS.F ht⟩) hS.2.2 dX11_evenest_22
    · have c_7 : 0 ≤ p3.toInt := xI_nlt rfl rfl c_7
      refine lv_iload hx hb dX11_evenest_15 (lv_at hl 4 rfl) ?_
      refine lv_iconst (v := 1) hx hb dX11_evenest_17 (by decide) ?_
      refine lv_icmp_le (tgt := 23) hx hb dX11_evenest_18 (by decide) (fun c_8 => ?_) (fun c_8 => ?_)
      · have c_8 : p3.toInt ≤ 1 := xI_le rfl rfl c_8
        refine lv_aload_n hx hb dX11_evenest_23 rfl (lv_at hl 0 rfl) ?_
        refine lv_iload_n hx hb dX11_evenest_24 rfl (lv_at hl 1 rfl) ?_
        refine lv_iload_n hx hb dX11_evenest_25 rfl (lv_at hl 2 rfl) ?_
        refine lv_iload_n hx hb dX11_evenest_26 rfl (lv_at hl 3 rfl) ?_
        have b_9 : 0 ≤ (G.1 1 10).toInt ∧ (G.1 1 10).toInt ≤ 4 := hB_G.i 1 10 rfl rfl
        have g_10 : (G_2.1 1 10).toInt = (G.1 1 10).toInt := by rw [show G_2.1 1 10 = (G.1 1 10) from (hq_3.i 1 10 (by decide) (by decide))]
        refine S_callv (va_runV (As := [.int p0, .int p1, .int p2]) (rest := []) ⟨hx, hb, hml, hown, hts⟩ (k_wPrep_1 l D k A a z G_2 p0 p1 p2 ⟨by omega, by omega⟩ ⟨by omega, by omega⟩ (((hq_3.r 0 0 (by decide) (by decide))).trans (hv_0_0)) (((hq_3.r 0 1 (by decide) (by decide))).trans (hv_0_1)) (((hq_3.r 6 4 (by decide) (by decide))).trans (hv_6_4)) (by omega)) (cwV 3 hts (gd_V hgd m975 m977 m32 m117 m978) rfl rfl rfl (by decide +kernel) ⟨Nat.le_of_ble_eq_true rfl, Nat.le_of_ble_eq_true rfl⟩) (pre_V hW hB_G_2 hK hZ hS kd_0 rfl) rfl rfl hl.1 rfl (lv_room (Nat.le_of_ble_eq_true rfl)) dX11_evenest_27 ⟨Nat.le_of_ble_eq_true rfl, Nat.le_of_ble_eq_true rfl⟩) hS (fun G_12 H locs hpo hW hS => ?_)
        obtain ⟨hB_G_12, hq_13, hp_14⟩ := hpo
        have hF := hF.call hq_13 (by decide) (by decide)
        refine lv_aload_n hx hb dX11_evenest_30 rfl (lv_at hl 0 rfl) ?_
        refine S_getR (n := 8) (C := RX11) (T := TX11) (N := 13) hx hb hg iX11 hown hK hW kd_0 rfl 6 (by decide) (hg (Cond.fieldLink RX11 51 "SlabWalk" "trails" "LSlabWalk$Trails;") m576) (fun _ h9 => h9) rfl dX11_evenest_31 ?_
        refine lv_aload_n hx hb dX11_evenest_34 rfl (lv_at hl 0 rfl) ?_
        refine S_getR (n := 7) (C := RX11) (T := TX11) (N := 13) hx hb hg iX11 hown hK hW kd_0 rfl 5 (by decide) (hg (Cond.fieldLink RX11 44 "SlabWalk" "course" "LSlabWalk$Course;") m575) (fun _ h9 => h9) rfl dX11_evenest_35 ?_
        refine lv_iload hx hb dX11_evenest_38 (lv_at hl 4 rfl) ?_
        have b_15 : 0 ≤ (G_12.1 7 3).toInt ∧ (G_12.1 7 3).toInt ≤ 60 := hB_G_12.i 7 3 rfl rfl
        have b_16 : 0 ≤ (G_12.1 7 4).toInt ∧ (G_12.1 7 4).toInt ≤ 60 := hB_G_12.i 7 4 rfl rfl
        have b_17 : (-1) ≤ (G_12.1 7 6).toInt ∧ (G_12.1 7 6).toInt ≤ 400 := hB_G_12.i 7 6 rfl rfl
        have b_18 : 0 ≤ (G_12.1 7 7).toInt ∧ (G_12.1 7 7).toInt ≤ 400 := hB_G_12.i 7 7 rfl rfl
        refine S_calli (va_runV (As := [.ref (a 7), .int p3]) (rest := []) ⟨hx, hb, hml, hown, hts⟩ (k_tMost l D k A a z G_12 p3 (by omega)) (cwV 2 hts (gd_V hgd m1040 m1041 m1042 m124 m1043) rfl rfl rfl (by decide +kernel) ⟨Nat.le_of_ble_eq_true rfl, Nat.le_of_ble_eq_true rfl⟩) (pre_V hW hB_G_12 hK hZ hS kd_8 rfl) rfl rfl hl.1 rfl (lv_room (Nat.le_of_ble_eq_true rfl)) dX11_evenest_40 ⟨Nat.le_of_ble_eq_true rfl, Nat.le_of_ble_eq_true rfl⟩) hS (fun r_19 G_20 H locs hpo hW hS => ?_)
        obtain ⟨hB_G_20, hq_21⟩ := hpo
        have hF := hF.call hq_21 (by decide) (by decide)
        exact W.iret (v := r_19) hx hb hr (fun t ht _ => ⟨⟨r_19, G_20, rfl, ⟨hB_G_20, hF⟩, wd_t ht hW⟩, hS.F ht⟩) hS.2.2 dX11_evenest_43
      · have c_8 : 1 < p3.toInt := xI_nle rfl rfl c_8
        refine lv_iconst (v := (-1)) hx hb dX11_evenest_21 (by decide) ?_
        exact W.iret (v := (-1)) hx hb hr (fun t ht _ => ⟨⟨(-1), G_2, rfl, ⟨hB_G_2, hF⟩, wd_t ht hW⟩, hS.F ht⟩) hS.2.2 dX11_evenest_22

set_option maxHeartbeats 4000000 in
set_option maxRecDepth 100000 in
theorem k_Weven_1 (l : Launch) (D : va_G) (k : KT) (A : Nat → Prop) (a : Nat → Nat) (z : SK) (G : GS) (p0 : Int32) (p1 : Int32) (p2 : Int32) (p3 : Int32) (p4 : Int32) (hv_0_0 : G.2.2 0 0 = 1) (hv_0_1 : G.2.2 0 1 = 2) (hv_6_4 : G.2.2 6 4 = 1) : Met l yX11_even (WS yX11_even cX11_even 8 (some .int)) ({ frames := 5, cells := 0, slots := 0, locals := 119 }) (va_Pc [.ref (a 0), .int p0, .int p1, .int p2, .int p3, .int p4] (cW D k A a z G)) (va_Qi (fun (r : Int32) (G1 : GS) => Bd G1 ∧ Fr [37, 38, 39, 40] [(6, 3), (7, 1), (7, 2), (7, 3), (7, 4), (7, 5), (7, 6), (7, 7)] G G1) (fun (G1 : GS) t => Wd D k A a G1 t.heap) A) 0 0 A := by
  refine Met.ofW (cc := cX11_even) (maxL := 8) (ret := (some .int)) (by decide) rfl ?_
  intro p e s m args below meth c s₁ B hml hv
  obtain ⟨rfl, hW, hB_G, hK, hZ⟩ := hv
  have hx := B.exec
  have hb := B.bytes
  have hr := B.returns
  have hts := atoms_spec (ws := WS yX11_even cX11_even 8 (some .int)) B.pre
  have hgd : ∀ w ∈ gd, w ∈ WS yX11_even cX11_even 8 (some .int) := fun w h => List.mem_cons_of_mem _ h
  have hg : ∀ w ∈ gd, w.before _ s = true := fun w h => hts w (hgd w h)
  have hown : s.vm.findClass RX11 = some m.cls := findClass_of_methodNamed B.named
  have hS : va_S A s.heap s.heap [] := va_S.rf
  have hF : Fr [37, 38, 39, 40] [(6, 3), (7, 1), (7, 2), (7, 3), (7, 4), (7, 5), (7, 6), (7, 7)] G G := Fr.rf
  have hl := lv_entry ([.ref (a 0), .int p0, .int p1, .int p2, .int p3, .int p4]) (n := 8) (Nat.le_of_ble_eq_true rfl)
  rw [lg_entry_eq]
  generalize (lg_sl ([.ref (a 0), .int p0, .int p1, .int p2, .int p3, .int p4]) ++ List.replicate (8 - (lg_sl ([.ref (a 0), .int p0, .int p1, .int p2, .int p3, .int p4])).length) Slot.unset).toArray = ls at hl ⊢
  have hl : lv_has ls 8 [(0, .ref (a 0)), (1, .int p0), (2, .int p1), (3, .int p2), (4, .int p3), (5, .int p4)] := hl
  refine lv_aload_n hx hb dX11_even_0 rfl (lv_at hl 0 rfl) ?_
  refine lv_iload_n hx hb dX11_even_1 rfl (lv_at hl 1 rfl) ?_
  refine lv_iload_n hx hb dX11_even_2 rfl (lv_at hl 2 rfl) ?_
  refine lv_iload_n hx hb dX11_even_3 rfl (lv_at hl 3 rfl) ?_
  refine S_calli (va_runV (As := [.int p0, .int p1, .int p2]) (rest := []) ⟨hx, hb, hml, hown, hts⟩ (k_wAsk_1 l D k A a z G p0 p1 p2 hv_0_0 hv_0_1 hv_6_4) (cwV 3 hts (gd_V hgd m953 m955 m31 m117 m956) rfl rfl rfl (by decide +kernel) ⟨Nat.le_of_ble_eq_true rfl, Nat.le_of_ble_eq_true rfl⟩) (pre_V hW hB_G hK hZ hS kd_0 rfl) rfl rfl hl.1 rfl (lv_room (Nat.le_of_ble_eq_true rfl)) dX11_even_4 ⟨Nat.le_of_ble_eq_true rfl, Nat.le_of_ble_eq_true rfl⟩) hS (fun r_1 G_2 H locs hpo hW hS => ?_)
  obtain ⟨hB_G_2, hq_3, f_5, hp_4⟩ := hpo
  have hF := hF.call hq_3 (by decide) (by decide)
  refine lv_if_eq (tgt := 36) hx hb dX11_even_7 (by decide) (fun c_6 => ?_) (fun c_6 => ?_)
  · have c_6 : r_1.toInt = 0 := xI_eq rfl rfl c_6
    refine lv_iconst (v := (-1)) hx hb dX11_even_36 (by decide) ?_
    exact W.iret (v := (-1)) hx hb hr (fun t ht _ => ⟨⟨(-1), G_2, rfl, ⟨hB_G_2, hF⟩, wd_t ht hW⟩, hS.F ht⟩) hS.2.2 dX11_even_37
  · have c_6 : r_1.toInt ≠ 0 := xI_ne rfl rfl c_6
    refine lv_aload_n hx hb dX11_even_10 rfl (lv_at hl 0 rfl) ?_
    refine S_getV (n := 1) (C := RX11) (T := TX11) (N := 13) hx hb hg iX11 hown hK hW kd_0 rfl 0 (by decide) (hg (Cond.fieldLink RX11 10 "SlabWalk" "paving" "LSlabWalk$Paving;") m570) (fun _ h9 => h9) rfl (((hq_3.r 0 0 (by decide) (by decide))).trans (hv_0_0)) dX11_even_11 ?_
    refine lv_iload_n hx hb dX11_even_14 rfl (lv_at hl 2 rfl) ?_
    refine lv_iload hx hb dX11_even_15 (lv_at hl 4 rfl) ?_
    refine S_calli (va_runV (As := [.int p1, .int p3]) (rest := []) ⟨hx, hb, hml, hown, hts⟩ (k_hasInch_1 l D k A a z G_2 p1 p3 ) (cwV 2 hts (gd_V hgd m882 m883 m884 m118 m885) rfl rfl rfl (by decide +kernel) ⟨Nat.le_of_ble_eq_true rfl, Nat.le_of_ble_eq_true rfl⟩) (pre_V hW hB_G_2 hK hZ hS kd_1 rfl) rfl rfl hl.1 rfl (lv_room (Nat.le_of_ble_eq_true rfl)) dX11_even_17 ⟨Nat.le_of_ble_eq_true rfl, Nat.le_of_ble_eq_true rfl⟩) hS (fun r_7 G_8 H locs hpo hW hS => ?_)
    obtain ⟨hB_G_8, hq_9, f_11, hp_10⟩ := hpo
    have hF := hF.call hq_9 (by decide) (by decide)
    refine lv_if_eq (tgt := 36) hx hb dX11_even_20 (by decide) (fun c_12 => ?_) (fun c_12 => ?_)
    · have c_12 : r_7.toInt = 0 := xI_eq rfl rfl c_12
      refine lv_iconst (v := (-1)) hx hb dX11_even_36 (by decide) ?_
      exact W.iret (v := (-1)) hx hb hr (fun t ht _ => ⟨⟨(-1), G_8, rfl, ⟨hB_G_8, hF⟩, wd_t ht hW⟩, hS.F ht⟩) hS.2.2 dX11_even_37
    · have c_12 : r_7.toInt ≠ 0 := xI_ne rfl rfl c_12
      refine lv_iload hx hb dX11_even_23 (lv_at hl 5 rfl) ?_
      refine lv_iconst (v := 1) hx hb dX11_even_25 (by decide) ?_
      refine lv_icmp_lt (tgt := 36) hx hb dX11_even_26 (by decide) (fun c_13 => ?_) (fun c_13 => ?_)
      · have c_13 : p4.toInt < 1 := xI_lt rfl rfl c_13
        refine lv_iconst (v := (-1)) hx hb dX11_even_36 (by decide) ?_
        exact W.iret (v := (-1)) hx hb hr (fun t ht _ => ⟨⟨(-1), G_8, rfl, ⟨hB_G_8, hF⟩, wd_t ht hW⟩, hS.F ht⟩) hS.2.2 dX11_even_37
      · have c_13 : 1 ≤ p4.toInt := xI_nlt rfl rfl c_13
        refine lv_iload hx hb dX11_even_29 (lv_at hl 5 rfl) ?_
        refine lv_bipush (v := 99) hx hb dX11_even_31 (by decide) ?_
        refine lv_icmp_le (tgt := 38) hx hb dX11_even_33 (by decide) (fun c_14 => ?_) (fun c_14 => ?_)
        · have c_14 : p4.toInt ≤ 99 := xI_le rfl rfl c_14
          refine lv_aload_n hx hb dX11_even_38 rfl (lv_at hl 0 rfl) ?_
          refine lv_iload_n hx hb dX11_even_39 rfl (lv_at hl 1 rfl) ?_
          refine lv_iload_n hx hb dX11_even_40 rfl (lv_at hl 2 rfl) ?_
          refine lv_iload_n hx hb dX11_even_41 rfl (lv_at hl 3 rfl) ?_
          have b_15 : 0 ≤ (G.1 1 10).toInt ∧ (G.1 1 10).toInt ≤ 4 := hB_G.i 1 10 rfl rfl
          have g_16 : (G_8.1 1 10).toInt = (G.1 1 10).toInt := by rw [show G_8.1 1 10 = (G.1 1 10) from ((hq_9.i 1 10 (by decide) (by decide)).trans (hq_3.i 1 10 (by decide) (by decide)))]
          refine S_callv (va_runV (As := [.int p0, .int p1, .int p2]) (rest := []) ⟨hx, hb, hml, hown, hts⟩ (k_wPrep_1 l D k A a z G_8 p0 p1 p2 ⟨by omega, by omega⟩ ⟨by omega, by omega⟩ ((((hq_9.r 0 0 (by decide) (by decide)).trans (hq_3.r 0 0 (by decide) (by decide)))).trans (hv_0_0)) ((((hq_9.r 0 1 (by decide) (by decide)).trans (hq_3.r 0 1 (by decide) (by decide)))).trans (hv_0_1)) ((((hq_9.r 6 4 (by decide) (by decide)).trans (hq_3.r 6 4 (by decide) (by decide)))).trans (hv_6_4)) (by omega)) (cwV 3 hts (gd_V hgd m975 m977 m32 m117 m978) rfl rfl rfl (by decide +kernel) ⟨Nat.le_of_ble_eq_true rfl, Nat.le_of_ble_eq_true rfl⟩) (pre_V hW hB_G_8 hK hZ hS kd_0 rfl) rfl rfl hl.1 rfl (lv_room (Nat.le_of_ble_eq_true rfl)) dX11_even_42 ⟨Nat.le_of_ble_eq_true rfl, Nat.le_of_ble_eq_true rfl⟩) hS (fun G_18 H locs hpo hW hS => ?_)
          obtain ⟨hB_G_18, hq_19, hp_20⟩ := hpo
          have hF := hF.call hq_19 (by decide) (by decide)
          refine lv_iconst (v := 0) hx hb dX11_even_45 (by decide) ?_
          refine lv_istore (lv' := [(6, .int 0), (0, .ref (a 0)), (1, .int p0), (2, .int p1), (3, .int p2), (4, .int p3), (5, .int p4)]) hx hb dX11_even_46 hl (by decide) rfl (fun ls hl => ?_)
          refine lv_iload hx hb dX11_even_48 (lv_at hl 5 rfl) ?_
          refine lv_istore (lv' := [(7, .int p3), (6, .int 0), (0, .ref (a 0)), (1, .int p0), (2, .int p1), (3, .int p2), (4, .int p3), (5, .int p4)]) hx hb dX11_even_50 hl (by decide) rfl (fun ls hl => ?_)
          have qc_27 : (0 : Int32).toInt = 0 := rfl
          refine loop_N (Inv := fun n H locs ls => ∃ (G_21 : GS) (x_25 : Int32) (x_26 : Int32), (n : Int) = 498 - x_25.toInt ∧ (0 ≤ x_25.toInt ∧ x_25.toInt ≤ 498) ∧ (0 ≤ x_26.toInt ∧ x_26.toInt ≤ 498) ∧ (x_26.toInt ≤ x_25.toInt) ∧ Wd D k A a G_21 H ∧ Bd G_21 ∧ Fr [37, 38, 39, 40] [(6, 3), (7, 1), (7, 2), (7, 3), (7, 4), (7, 5), (7, 6), (7, 7)] G G_21 ∧ Fr [] [] G_18 G_21 ∧ va_S A s.heap H locs ∧ lv_has ls 8 [(7, .int x_25), (6, .int x_26), (0, .ref (a 0)), (5, .int p4)]) (fun n_24 H locs ls ih_23 hI => ?_) (498 - p3.toInt : Int).toNat ⟨G_18, p3, 0, (Int.toNat_of_nonneg (by omega)), ⟨by omega, by omega⟩, ⟨by omega, by omega⟩, (by omega), hW, hB_G_18, hF, Fr.rf, hS, lv_sub hl [0, 1, 2, 7] rfl⟩
          obtain ⟨G_21, x_25, x_26, hn_31, f_28, f_29, f_30, hW, hB_G_21, hF, hq_22, hS, hl⟩ := hI
          refine lv_iload hx hb dX11_even_52 (lv_at hl 0 rfl) ?_
          refine lv_aload_n hx hb dX11_even_54 rfl (lv_at hl 2 rfl) ?_
          refine S_getR (n := 7) (C := RX11) (T := TX11) (N := 13) hx hb hg iX11 hown hK hW kd_0 rfl 5 (by decide) (hg (Cond.fieldLink RX11 44 "SlabWalk" "course" "LSlabWalk$Course;") m575) (fun _ h9 => h9) rfl dX11_even_55 ?_
          have b_32 : (-1) ≤ (G_18.1 7 6).toInt ∧ (G_18.1 7 6).toInt ≤ 400 := hB_G_18.i 7 6 rfl rfl
          refine S_getI (v := (G_18.1 7 6)) (C := RX0) (T := TX0) (N := 8) hx hb hg iX0 hown hK hW kd_7 rfl 6 (by decide) (hg (Cond.fieldLink RX11 174 "SlabWalk$Course" "last" "I") m391) (fun _ h9 => h9) rfl (hq_22.i 7 6 (by decide) (by decide)) dX11_even_58 ?_
          refine lv_icmp_gt (tgt := 90) hx hb dX11_even_61 (by decide) (fun c_33 => ?_) (fun c_33 => ?_)
          · have c_33 : (G_18.1 7 6).toInt < x_25.toInt := xI_lt rfl rfl c_33
            refine lv_iload hx hb dX11_even_90 (lv_at hl 1 rfl) ?_
            exact W.iret (v := x_26) hx hb hr (fun t ht _ => ⟨⟨x_26, G_21, rfl, ⟨hB_G_21, hF⟩, wd_t ht hW⟩, hS.F ht⟩) hS.2.2 dX11_even_92
          · have c_33 : x_25.toInt ≤ (G_18.1 7 6).toInt := xI_nlt rfl rfl c_33
            refine lv_aload_n hx hb dX11_even_64 rfl (lv_at hl 2 rfl) ?_
            refine S_getR (n := 7) (C := RX11) (T := TX11) (N := 13) hx hb hg iX11 hown hK hW kd_0 rfl 5 (by decide) (hg (Cond.fieldLink RX11 44 "SlabWalk" "course" "LSlabWalk$Course;") m575) (fun _ h9 => h9) rfl dX11_even_65 ?_
            refine S_getR (n := 40) (C := RX0) (T := TX0) (N := 8) hx hb hg iX0 hown hK hW kd_7 rfl 0 (by decide) (hg (Cond.fieldLink RX11 177 "SlabWalk$Course" "lawful" "[Z") m374) (fun _ h9 => h9) rfl dX11_even_68 ?_
            refine lv_iload hx hb dX11_even_71 (lv_at hl 0 rfl) ?_
            refine S_zald hx hb hK hW kd_40 (vin (by omega) (by omega)) dX11_even_73 (fun y_34 ey_34 => ?_)
            have ty_34 : 0 ≤ y_34.toInt ∧ y_34.toInt ≤ 1 := hB_G_21.v ey_34 rfl rfl
            refine lv_if_eq (tgt := 90) hx hb dX11_even_74 (by decide) (fun c_35 => ?_) (fun c_35 => ?_)
            · have c_35 : y_34.toInt = 0 := xI_eq rfl rfl c_35
              refine lv_iload hx hb dX11_even_90 (lv_at hl 1 rfl) ?_
              exact W.iret (v := x_26) hx hb hr (fun t ht _ => ⟨⟨x_26, G_21, rfl, ⟨hB_G_21, hF⟩, wd_t ht hW⟩, hS.F ht⟩) hS.2.2 dX11_even_92
            · have c_35 : y_34.toInt ≠ 0 := xI_ne rfl rfl c_35
              obtain ⟨y_36, ey_36⟩ : ∃ q, q = x_26 + 1 := ⟨_, rfl⟩
              have ty_36 : y_36.toInt = x_26.toInt + 1 := xI_add rfl rfl ey_36 (by omega) (by omega)
              refine lv_iinc (v := y_36) (lv' := [(6, .int y_36), (7, .int x_25), (0, .ref (a 0)), (5, .int p4)]) hx hb dX11_even_77 hl (k := 1) rfl (by rw [ey_36]; rfl) (by decide) rfl (fun ls hl => ?_)
              refine lv_iload hx hb dX11_even_80 (lv_at hl 1 rfl) ?_
              refine lv_iload hx hb dX11_even_82 (lv_at hl 3 rfl) ?_
              refine lv_iadd hx hb dX11_even_84 ?_
              refine lv_topi (fun y_37 ey_37 => ?_)
              have ty_37 : y_37.toInt = x_25.toInt + p4.toInt := xI_add rfl rfl ey_37 (by omega) (by omega)
              refine lv_istore (lv' := [(7, .int y_37), (6, .int y_36), (0, .ref (a 0)), (5, .int p4)]) hx hb dX11_even_85 hl (by decide) rfl (fun ls hl => ?_)
              refine lv_goto (tgt := 52) hx hb dX11_even_87 (by decide) ?_
              exact ih_23 (498 - y_37.toInt : Int).toNat (by omega) _ _ _ ⟨G_21, y_37, y_36, (Int.toNat_of_nonneg (by omega)), ⟨by omega, by omega⟩, ⟨by omega, by omega⟩, (by omega), hW, hB_G_21, hF, (Fr.rf.call hq_22 (by decide) (by decide)), hS, lv_sub hl [0, 1, 2, 3] rfl⟩
        · have c_14 : 99 < p4.toInt := xI_nle rfl rfl c_14
          refine lv_iconst (v := (-1)) hx hb dX11_even_36 (by decide) ?_
          exact W.iret (v := (-1)) hx hb hr (fun t ht _ => ⟨⟨(-1), G_8, rfl, ⟨hB_G_8, hF⟩, wd_t ht hW⟩, hS.F ht⟩) hS.2.2 dX11_even_37

set_option maxHeartbeats 4000000 in
set_option maxRecDepth 100000 in
theorem k_Wevens_1 (l : Launch) (D : va_G) (k : KT) (A : Nat → Prop) (a : Nat → Nat) (z : SK) (G : GS) (p0 : Int32) (p1 : Int32) (p2 : Int32) (hv_0_0 : G.2.2 0 0 = 1) (hv_0_1 : G.2.2 0 1 = 2) (hv_6_4 : G.2.2 6 4 = 1) : Met l yX11_evens (WS yX11_evens cX11_evens 5 (some .int)) ({ frames := 5, cells := 0, slots := 0, locals := 119 }) (va_Pc [.ref (a 0), .int p0, .int p1, .int p2] (cW D k A a z G)) (va_Qi (fun (r : Int32) (G1 : GS) => Bd G1 ∧ Fr [33, 37, 38, 39, 40, 42] [(0, 12), (6, 3), (7, 1), (7, 2), (7, 3), (7, 4), (7, 5), (7, 6), (7, 7)] G G1) (fun (G1 : GS) t => Wd D k A a G1 t.heap) A) 0 0 A := by
  refine Met.ofW (cc := cX11_evens) (maxL := 5) (ret := (some .int)) (by decide) rfl ?_
  intro p e s m args below meth c s₁ B hml hv
  obtain ⟨rfl, hW, hB_G, hK, hZ⟩ := hv
  have hx := B.exec
  have hb := B.bytes
  have hr := B.returns
  have hts := atoms_spec (ws := WS yX11_evens cX11_evens 5 (some .int)) B.pre
  have hgd : ∀ w ∈ gd, w ∈ WS yX11_evens cX11_evens 5 (some .int) := fun w h => List.mem_cons_of_mem _ h
  have hg : ∀ w ∈ gd, w.before _ s = true := fun w h => hts w (hgd w h)
  have hown : s.vm.findClass RX11 = some m.cls := findClass_of_methodNamed B.named
  have hS : va_S A s.heap s.heap [] := va_S.rf
  have hF : Fr [33, 37, 38, 39, 40, 42] [(0, 12), (6, 3), (7, 1), (7, 2), (7, 3), (7, 4), (7, 5), (7, 6), (7, 7)] G G := Fr.rf
  have hl := lv_entry ([.ref (a 0), .int p0, .int p1, .int p2]) (n := 5) (Nat.le_of_ble_eq_true rfl)
  rw [lg_entry_eq]
  generalize (lg_sl ([.ref (a 0), .int p0, .int p1, .int p2]) ++ List.replicate (5 - (lg_sl ([.ref (a 0), .int p0, .int p1, .int p2])).length) Slot.unset).toArray = ls at hl ⊢
  have hl : lv_has ls 5 [(0, .ref (a 0)), (1, .int p0), (2, .int p1), (3, .int p2)] := hl
  refine lv_aload_n hx hb dX11_evens_0 rfl (lv_at hl 0 rfl) ?_
  refine lv_iconst (v := 0) hx hb dX11_evens_1 (by decide) ?_
  refine S_putI (ty := .int) (C := RX11) (T := TX11) (N := 13) hx hb hg iX11 tyX11 tyX11_ok nmX11 hown hK hW hS kd_0 rfl 12 (by decide) (hg (Cond.fieldLink RX11 150 "SlabWalk" "lie" "I") m582) (fun _ h9 => h9) rfl (by decide +kernel) rfl rfl rfl dX11_evens_2 (fun G_1 H locs eG_1 hW hS => ?_)
  have hB_G_1 : Bd G_1 := hB_G.put (V := 0) (lo := 0) (hi := 400) eG_1 rfl rfl rfl (by omega) (by omega) (hB_G.2.put eG_1 rfl)
  have hF := hF.put eG_1 (Or.inr (by decide))
  refine lv_aload_n hx hb dX11_evens_5 rfl (lv_at hl 0 rfl) ?_
  refine lv_iload_n hx hb dX11_evens_6 rfl (lv_at hl 1 rfl) ?_
  refine lv_iload_n hx hb dX11_evens_7 rfl (lv_at hl 2 rfl) ?_
  refine lv_iload_n hx hb dX11_evens_8 rfl (lv_at hl 3 rfl) ?_
  have b_2 : 0 ≤ (G.1 1 10).toInt ∧ (G.1 1 10).toInt ≤ 4 := hB_G.i 1 10 rfl rfl
  have g_3 : (G_1.1 1 10).toInt = (G.1 1 10).toInt := by rw [show G_1.1 1 10 = (G.1 1 10) from (gp_ne eG_1 (by decide))]
  refine S_calli (va_runV (As := [.int p0, .int p1, .int p2]) (rest := []) ⟨hx, hb, hml, hown, hts⟩ (k_wAsk_1 l D k A a z G_1 p0 p1 p2 (((congrFun (congrFun (congrArg (fun q => q.2.2) eG_1) 0) 0)).trans (hv_0_0)) (((congrFun (congrFun (congrArg (fun q => q.2.2) eG_1) 0) 1)).trans (hv_0_1)) (((congrFun (congrFun (congrArg (fun q => q.2.2) eG_1) 6) 4)).trans (hv_6_4))) (cwV 3 hts (gd_V hgd m953 m955 m31 m117 m956) rfl rfl rfl (by decide +kernel) ⟨Nat.le_of_ble_eq_true rfl, Nat.le_of_ble_eq_true rfl⟩) (pre_V hW hB_G_1 hK hZ hS kd_0 rfl) rfl rfl hl.1 rfl (lv_room (Nat.le_of_ble_eq_true rfl)) dX11_evens_9 ⟨Nat.le_of_ble_eq_true rfl, Nat.le_of_ble_eq_true rfl⟩) hS (fun r_4 G_5 H locs hpo hW hS => ?_)
  obtain ⟨hB_G_5, hq_6, f_8, hp_7⟩ := hpo
  have hF := hF.call hq_6 (by decide) (by decide)
  refine lv_if_ne (tgt := 17) hx hb dX11_evens_12 (by decide) (fun c_9 => ?_) (fun c_9 => ?_)
  · have c_9 : r_4.toInt ≠ 0 := xI_ne rfl rfl c_9
    refine lv_aload_n hx hb dX11_evens_17 rfl (lv_at hl 0 rfl) ?_
    refine lv_iload_n hx hb dX11_evens_18 rfl (lv_at hl 1 rfl) ?_
    refine lv_iload_n hx hb dX11_evens_19 rfl (lv_at hl 2 rfl) ?_
    refine lv_iload_n hx hb dX11_evens_20 rfl (lv_at hl 3 rfl) ?_
    have g_10 : (G_5.1 1 10).toInt = (G.1 1 10).toInt := by rw [show G_5.1 1 10 = (G.1 1 10) from ((hq_6.i 1 10 (by decide) (by decide)).trans ((gp_ne eG_1 (by decide)).trans (rfl)))]
    refine S_callv (va_runV (As := [.int p0, .int p1, .int p2]) (rest := []) ⟨hx, hb, hml, hown, hts⟩ (k_wPrep_1 l D k A a z G_5 p0 p1 p2 ⟨by omega, by omega⟩ ⟨by omega, by omega⟩ ((((hq_6.r 0 0 (by decide) (by decide)).trans (congrFun (congrFun (congrArg (fun q => q.2.2) eG_1) 0) 0))).trans (hv_0_0)) ((((hq_6.r 0 1 (by decide) (by decide)).trans (congrFun (congrFun (congrArg (fun q => q.2.2) eG_1) 0) 1))).trans (hv_0_1)) ((((hq_6.r 6 4 (by decide) (by decide)).trans (congrFun (congrFun (congrArg (fun q => q.2.2) eG_1) 6) 4))).trans (hv_6_4)) (by omega)) (cwV 3 hts (gd_V hgd m975 m977 m32 m117 m978) rfl rfl rfl (by decide +kernel) ⟨Nat.le_of_ble_eq_true rfl, Nat.le_of_ble_eq_true rfl⟩) (pre_V hW hB_G_5 hK hZ hS kd_0 rfl) rfl rfl hl.1 rfl (lv_room (Nat.le_of_ble_eq_true rfl)) dX11_evens_21 ⟨Nat.le_of_ble_eq_true rfl, Nat.le_of_ble_eq_true rfl⟩) hS (fun G_12 H locs hpo hW hS => ?_)
    obtain ⟨hB_G_12, hq_13, hp_14⟩ := hpo
    have hF := hF.call hq_13 (by decide) (by decide)
    refine lv_aload_n hx hb dX11_evens_24 rfl (lv_at hl 0 rfl) ?_
    refine S_getR (n := 7) (C := RX11) (T := TX11) (N := 13) hx hb hg iX11 hown hK hW kd_0 rfl 5 (by decide) (hg (Cond.fieldLink RX11 44 "SlabWalk" "course" "LSlabWalk$Course;") m575) (fun _ h9 => h9) rfl dX11_evens_25 ?_
    have b_15 : 0 ≤ (G_12.1 7 3).toInt ∧ (G_12.1 7 3).toInt ≤ 60 := hB_G_12.i 7 3 rfl rfl
    refine S_getI (v := (G_12.1 7 3)) (C := RX0) (T := TX0) (N := 8) hx hb hg iX0 hown hK hW kd_7 rfl 3 (by decide) (hg (Cond.fieldLink RX11 181 "SlabWalk$Course" "least" "I") m380) (fun _ h9 => h9) rfl rfl dX11_evens_28 ?_
    refine lv_istore (lv' := [(4, .int (G_12.1 7 3)), (0, .ref (a 0)), (1, .int p0), (2, .int p1), (3, .int p2)]) hx hb dX11_evens_31 hl (by decide) rfl (fun ls hl => ?_)
    refine loop_N (Inv := fun n H locs ls => ∃ (G_16 : GS) (x_20 : Int32), (n : Int) = 61 - x_20.toInt ∧ (0 ≤ x_20.toInt ∧ x_20.toInt ≤ 61) ∧ Wd D k A a G_16 H ∧ Bd G_16 ∧ Fr [33, 37, 38, 39, 40, 42] [(0, 12), (6, 3), (7, 1), (7, 2), (7, 3), (7, 4), (7, 5), (7, 6), (7, 7)] G G_16 ∧ Fr [33, 42] [(0, 12)] G_12 G_16 ∧ va_S A s.heap H locs ∧ lv_has ls 5 [(4, .int x_20), (0, .ref (a 0))]) (fun n_19 H locs ls ih_18 hI => ?_) (61 - (G_12.1 7 3).toInt : Int).toNat ⟨G_12, (G_12.1 7 3), (Int.toNat_of_nonneg (by omega)), ⟨by omega, by omega⟩, hW, hB_G_12, hF, Fr.rf, hS, lv_sub hl [0, 1] rfl⟩
    obtain ⟨G_16, x_20, hn_22, f_21, hW, hB_G_16, hF, hq_17, hS, hl⟩ := hI
    refine lv_iload hx hb dX11_evens_33 (lv_at hl 0 rfl) ?_
    refine lv_aload_n hx hb dX11_evens_35 rfl (lv_at hl 1 rfl) ?_
    refine S_getR (n := 7) (C := RX11) (T := TX11) (N := 13) hx hb hg iX11 hown hK hW kd_0 rfl 5 (by decide) (hg (Cond.fieldLink RX11 44 "SlabWalk" "course" "LSlabWalk$Course;") m575) (fun _ h9 => h9) rfl dX11_evens_36 ?_
    have b_23 : 0 ≤ (G_12.1 7 4).toInt ∧ (G_12.1 7 4).toInt ≤ 60 := hB_G_12.i 7 4 rfl rfl
    refine S_getI (v := (G_12.1 7 4)) (C := RX0) (T := TX0) (N := 8) hx hb hg iX0 hown hK hW kd_7 rfl 4 (by decide) (hg (Cond.fieldLink RX11 184 "SlabWalk$Course" "most" "I") m384) (fun _ h9 => h9) rfl (hq_17.i 7 4 (by decide) (by decide)) dX11_evens_39 ?_
    refine lv_icmp_gt (tgt := 73) hx hb dX11_evens_42 (by decide) (fun c_24 => ?_) (fun c_24 => ?_)
    · have c_24 : (G_12.1 7 4).toInt < x_20.toInt := xI_lt rfl rfl c_24
      refine lv_aload_n hx hb dX11_evens_73 rfl (lv_at hl 1 rfl) ?_
      have b_25 : 0 ≤ (G_16.1 0 12).toInt ∧ (G_16.1 0 12).toInt ≤ 400 := hB_G_16.i 0 12 rfl rfl
      refine S_getI (v := (G_16.1 0 12)) (C := RX11) (T := TX11) (N := 13) hx hb hg iX11 hown hK hW kd_0 rfl 12 (by decide) (hg (Cond.fieldLink RX11 150 "SlabWalk" "lie" "I") m582) (fun _ h9 => h9) rfl rfl dX11_evens_74 ?_
      exact W.iret (v := (G_16.1 0 12)) hx hb hr (fun t ht _ => ⟨⟨(G_16.1 0 12), G_16, rfl, ⟨hB_G_16, hF⟩, wd_t ht hW⟩, hS.F ht⟩) hS.2.2 dX11_evens_77
    · have c_24 : x_20.toInt ≤ (G_12.1 7 4).toInt := xI_nlt rfl rfl c_24
      refine lv_aload_n hx hb dX11_evens_45 rfl (lv_at hl 1 rfl) ?_
      refine S_getR (n := 8) (C := RX11) (T := TX11) (N := 13) hx hb hg iX11 hown hK hW kd_0 rfl 6 (by decide) (hg (Cond.fieldLink RX11 51 "SlabWalk" "trails" "LSlabWalk$Trails;") m576) (fun _ h9 => h9) rfl dX11_evens_46 ?_
      refine lv_aload_n hx hb dX11_evens_49 rfl (lv_at hl 1 rfl) ?_
      refine S_getR (n := 7) (C := RX11) (T := TX11) (N := 13) hx hb hg iX11 hown hK hW kd_0 rfl 5 (by decide) (hg (Cond.fieldLink RX11 44 "SlabWalk" "course" "LSlabWalk$Course;") m575) (fun _ h9 => h9) rfl dX11_evens_50 ?_
      refine lv_iload hx hb dX11_evens_53 (lv_at hl 0 rfl) ?_
      have g_26 : (G_16.1 7 3).toInt = (G_12.1 7 3).toInt := by rw [show G_16.1 7 3 = (G_12.1 7 3) from ((hq_17.i 7 3 (by decide) (by decide)).trans (rfl))]
      have g_27 : (G_16.1 7 4).toInt = (G_12.1 7 4).toInt := by rw [show G_16.1 7 4 = (G_12.1 7 4) from ((hq_17.i 7 4 (by decide) (by decide)).trans (rfl))]
      have b_28 : (-1) ≤ (G_12.1 7 6).toInt ∧ (G_12.1 7 6).toInt ≤ 400 := hB_G_12.i 7 6 rfl rfl
      have g_29 : (G_16.1 7 6).toInt = (G_12.1 7 6).toInt := by rw [show G_16.1 7 6 = (G_12.1 7 6) from (hq_17.i 7 6 (by decide) (by decide))]
      have b_30 : 0 ≤ (G_12.1 7 7).toInt ∧ (G_12.1 7 7).toInt ≤ 400 := hB_G_12.i 7 7 rfl rfl
      have g_31 : (G_16.1 7 7).toInt = (G_12.1 7 7).toInt := by rw [show G_16.1 7 7 = (G_12.1 7 7) from (hq_17.i 7 7 (by decide) (by decide))]
      have g_32 : (G_16.1 7 4).toInt = (G_12.1 7 4).toInt := by rw [show G_16.1 7 4 = (G_12.1 7 4) from ((hq_17.i 7 4 (by decide) (by decide)).trans (rfl))]
      refine S_calli (va_runV (As := [.ref (a 7), .int x_20]) (rest := []) ⟨hx, hb, hml, hown, hts⟩ (k_tEvenly l D k A a z G_16 x_20 ⟨by omega, by omega⟩ (by omega) (by omega)) (cwV 2 hts (gd_V hgd m1057 m1058 m1059 m124 m1060) rfl rfl rfl (by decide +kernel) ⟨Nat.le_of_ble_eq_true rfl, Nat.le_of_ble_eq_true rfl⟩) (pre_V hW hB_G_16 hK hZ hS kd_8 rfl) rfl rfl hl.1 rfl (lv_room (Nat.le_of_ble_eq_true rfl)) dX11_evens_55 ⟨Nat.le_of_ble_eq_true rfl, Nat.le_of_ble_eq_true rfl⟩) hS (fun r_33 G_34 H locs hpo hW hS => ?_)
      obtain ⟨hB_G_34, hq_35, f_37⟩ := hpo
      have hF := hF.call hq_35 (by decide) (by decide)
      refine lv_if_eq (tgt := 67) hx hb dX11_evens_58 (by decide) (fun c_38 => ?_) (fun c_38 => ?_)
      · have c_38 : r_33.toInt = 0 := xI_eq rfl rfl c_38
        obtain ⟨y_39, ey_39⟩ : ∃ q, q = x_20 + 1 := ⟨_, rfl⟩
        have ty_39 : y_39.toInt = x_20.toInt + 1 := xI_add rfl rfl ey_39 (by omega) (by omega)
        refine lv_iinc (v := y_39) (lv' := [(4, .int y_39), (0, .ref (a 0))]) hx hb dX11_evens_67 hl (k := 0) rfl (by rw [ey_39]; rfl) (by decide) rfl (fun ls hl => ?_)
        refine lv_goto (tgt := 33) hx hb dX11_evens_70 (by decide) ?_
        exact ih_18 (61 - y_39.toInt : Int).toNat (by omega) _ _ _ ⟨G_34, y_39, (Int.toNat_of_nonneg (by omega)), ⟨by omega, by omega⟩, hW, hB_G_34, hF, ((Fr.rf.call hq_17 (by decide) (by decide)).call hq_35 (by decide) (by decide)), hS, lv_sub hl [0, 1] rfl⟩
      · have c_38 : r_33.toInt ≠ 0 := xI_ne rfl rfl c_38
        refine lv_aload_n hx hb dX11_evens_61 rfl (lv_at hl 1 rfl) ?_
        refine lv_iload hx hb dX11_evens_62 (lv_at hl 0 rfl) ?_
        refine S_callv (va_runV (As := [.int x_20]) (rest := []) ⟨hx, hb, hml, hown, hts⟩ (k_wLay l D k A a z G_34 x_20 ) (cwV 1 hts (gd_V hgd m1061 m1063 m36 m117 m1064) rfl rfl rfl (by decide +kernel) ⟨Nat.le_of_ble_eq_true rfl, Nat.le_of_ble_eq_true rfl⟩) (pre_V hW hB_G_34 hK hZ hS kd_0 rfl) rfl rfl hl.1 rfl (lv_room (Nat.le_of_ble_eq_true rfl)) dX11_evens_64 ⟨Nat.le_of_ble_eq_true rfl, Nat.le_of_ble_eq_true rfl⟩) hS (fun G_41 H locs hpo hW hS => ?_)
        obtain ⟨hB_G_41, hq_42⟩ := hpo
        have hF := hF.call hq_42 (by decide) (by decide)
        obtain ⟨y_44, ey_44⟩ : ∃ q, q = x_20 + 1 := ⟨_, rfl⟩
        have ty_44 : y_44.toInt = x_20.toInt + 1 := xI_add rfl rfl ey_44 (by omega) (by omega)
        refine lv_iinc (v := y_44) (lv' := [(4, .int y_44), (0, .ref (a 0))]) hx hb dX11_evens_67 hl (k := 0) rfl (by rw [ey_44]; rfl) (by decide) rfl (fun ls hl => ?_)
        refine lv_goto (tgt := 33) hx hb dX11_evens_70 (by decide) ?_
        exact ih_18 (61 - y_44.toInt : Int).toNat (by omega) _ _ _ ⟨G_41, y_44, (Int.toNat_of_nonneg (by omega)), ⟨by omega, by omega⟩, hW, hB_G_41, hF, (((Fr.rf.call hq_17 (by decide) (by decide)).call hq_35 (by decide) (by decide)).call hq_42 (by decide) (by decide)), hS, lv_sub hl [0, 1] rfl⟩
  · have c_9 : r_4.toInt = 0 := xI_eq rfl rfl c_9
    refine lv_iconst (v := (-1)) hx hb dX11_evens_15 (by decide) ?_
    exact W.iret (v := (-1)) hx hb hr (fun t ht _ => ⟨⟨(-1), G_5, rfl, ⟨hB_G_5, hF⟩, wd_t ht hW⟩, hS.F ht⟩) hS.2.2 dX11_evens_16

set_option maxHeartbeats 4000000 in
set_option maxRecDepth 100000 in
theorem k_Wkeeps_1 (l : Launch) (D : va_G) (k : KT) (A : Nat → Prop) (a : Nat → Nat) (z : SK) (G : GS) (p0 : Int32) (p1 : Int32) (p2 : Int32) (hv_0_0 : G.2.2 0 0 = 1) (hv_0_1 : G.2.2 0 1 = 2) (hv_6_4 : G.2.2 6 4 = 1) : Met l yX11_keeps (WS yX11_keeps cX11_keeps 4 (some .int)) ({ frames := 5, cells := 0, slots := 0, locals := 119 }) (va_Pc [.ref (a 0), .int p0, .int p1, .int p2] (cW D k A a z G)) (va_Qi (fun (r : Int32) (G1 : GS) => Bd G1 ∧ Fr [37, 38, 39, 40, 42, 43, 44, 45, 48, 49, 50, 51] [(6, 3), (7, 1), (7, 2), (7, 3), (7, 4), (7, 5), (7, 6), (7, 7), (9, 2), (9, 3), (19, 2), (19, 3)] G G1) (fun (G1 : GS) t => Wd D k A a G1 t.heap) A) 0 0 A := by
  refine Met.ofW (cc := cX11_keeps) (maxL := 4) (ret := (some .int)) (by decide) rfl ?_
  intro p e s m args below meth c s₁ B hml hv
  obtain ⟨rfl, hW, hB_G, hK, hZ⟩ := hv
  have hx := B.exec
  have hb := B.bytes
  have hr := B.returns
  have hts := atoms_spec (ws := WS yX11_keeps cX11_keeps 4 (some .int)) B.pre
  have hgd : ∀ w ∈ gd, w ∈ WS yX11_keeps cX11_keeps 4 (some .int) := fun w h => List.mem_cons_of_mem _ h
  have hg : ∀ w ∈ gd, w.before _ s = true := fun w h => hts w (hgd w h)
  have hown : s.vm.findClass RX11 = some m.cls := findClass_of_methodNamed B.named
  have hS : va_S A s.heap s.heap [] := va_S.rf
  have hF : Fr [37, 38, 39, 40, 42, 43, 44, 45, 48, 49, 50, 51] [(6, 3), (7, 1), (7, 2), (7, 3), (7, 4), (7, 5), (7, 6), (7, 7), (9, 2), (9, 3), (19, 2), (19, 3)] G G := Fr.rf
  have hl := lv_entry ([.ref (a 0), .int p0, .int p1, .int p2]) (n := 4) (Nat.le_of_ble_eq_true rfl)
  rw [lg_entry_eq]
  generalize (lg_sl ([.ref (a 0), .int p0, .int p1, .int p2]) ++ List.replicate (4 - (lg_sl ([.ref (a 0), .int p0, .int p1, .int p2])).length) Slot.unset).toArray = ls at hl ⊢
  have hl : lv_has ls 4 [(0, .ref (a 0)), (1, .int p0), (2, .int p1), (3, .int p2)] := hl
  refine lv_aload_n hx hb dX11_keeps_0 rfl (lv_at hl 0 rfl) ?_
  refine lv_iload_n hx hb dX11_keeps_1 rfl (lv_at hl 1 rfl) ?_
  refine lv_iload_n hx hb dX11_keeps_2 rfl (lv_at hl 2 rfl) ?_
  refine lv_iload_n hx hb dX11_keeps_3 rfl (lv_at hl 3 rfl) ?_
  refine S_calli (va_runV (As := [.int p0, .int p1, .int p2]) (rest := []) ⟨hx, hb, hml, hown, hts⟩ (k_wAsk_1 l D k A a z G p0 p1 p2 hv_0_0 hv_0_1 hv_6_4) (cwV 3 hts (gd_V hgd m953 m955 m31 m117 m956) rfl rfl rfl (by decide +kernel) ⟨Nat.le_of_ble_eq_true rfl, Nat.le_of_ble_eq_true rfl⟩) (pre_V hW hB_G hK hZ hS kd_0 rfl) rfl rfl hl.1 rfl (lv_room (Nat.le_of_ble_eq_true rfl)) dX11_keeps_4 ⟨Nat.le_of_ble_eq_true rfl, Nat.le_of_ble_eq_true rfl⟩) hS (fun r_1 G_2 H locs hpo hW hS => ?_)
  obtain ⟨hB_G_2, hq_3, f_5, hp_4⟩ := hpo
  have hF := hF.call hq_3 (by decide) (by decide)
  refine lv_if_ne (tgt := 12) hx hb dX11_keeps_7 (by decide) (fun c_6 => ?_) (fun c_6 => ?_)
  · have c_6 : r_1.toInt ≠ 0 := xI_ne rfl rfl c_6
    refine lv_aload_n hx hb dX11_keeps_12 rfl (lv_at hl 0 rfl) ?_
    refine lv_iload_n hx hb dX11_keeps_13 rfl (lv_at hl 1 rfl) ?_
    refine lv_iload_n hx hb dX11_keeps_14 rfl (lv_at hl 2 rfl) ?_
    refine lv_iload_n hx hb dX11_keeps_15 rfl (lv_at hl 3 rfl) ?_
    have b_7 : 0 ≤ (G.1 1 10).toInt ∧ (G.1 1 10).toInt ≤ 4 := hB_G.i 1 10 rfl rfl
    have g_8 : (G_2.1 1 10).toInt = (G.1 1 10).toInt := by rw [show G_2.1 1 10 = (G.1 1 10) from (hq_3.i 1 10 (by decide) (by decide))]
    refine S_callv (va_runV (As := [.int p0, .int p1, .int p2]) (rest := []) ⟨hx, hb, hml, hown, hts⟩ (k_wPrep_1 l D k A a z G_2 p0 p1 p2 ⟨by omega, by omega⟩ ⟨by omega, by omega⟩ (((hq_3.r 0 0 (by decide) (by decide))).trans (hv_0_0)) (((hq_3.r 0 1 (by decide) (by decide))).trans (hv_0_1)) (((hq_3.r 6 4 (by decide) (by decide))).trans (hv_6_4)) (by omega)) (cwV 3 hts (gd_V hgd m975 m977 m32 m117 m978) rfl rfl rfl (by decide +kernel) ⟨Nat.le_of_ble_eq_true rfl, Nat.le_of_ble_eq_true rfl⟩) (pre_V hW hB_G_2 hK hZ hS kd_0 rfl) rfl rfl hl.1 rfl (lv_room (Nat.le_of_ble_eq_true rfl)) dX11_keeps_16 ⟨Nat.le_of_ble_eq_true rfl, Nat.le_of_ble_eq_true rfl⟩) hS (fun G_10 H locs hpo hW hS => ?_)
    obtain ⟨hB_G_10, hq_11, hp_12⟩ := hpo
    have hF := hF.call hq_11 (by decide) (by decide)
    refine lv_aload_n hx hb dX11_keeps_19 rfl (lv_at hl 0 rfl) ?_
    refine S_getR (n := 8) (C := RX11) (T := TX11) (N := 13) hx hb hg iX11 hown hK hW kd_0 rfl 6 (by decide) (hg (Cond.fieldLink RX11 51 "SlabWalk" "trails" "LSlabWalk$Trails;") m576) (fun _ h9 => h9) rfl dX11_keeps_20 ?_
    refine lv_aload_n hx hb dX11_keeps_23 rfl (lv_at hl 0 rfl) ?_
    refine S_getR (n := 7) (C := RX11) (T := TX11) (N := 13) hx hb hg iX11 hown hK hW kd_0 rfl 5 (by decide) (hg (Cond.fieldLink RX11 44 "SlabWalk" "course" "LSlabWalk$Course;") m575) (fun _ h9 => h9) rfl dX11_keeps_24 ?_
    refine lv_aload_n hx hb dX11_keeps_27 rfl (lv_at hl 0 rfl) ?_
    refine S_getV (n := 1) (C := RX11) (T := TX11) (N := 13) hx hb hg iX11 hown hK hW kd_0 rfl 0 (by decide) (hg (Cond.fieldLink RX11 10 "SlabWalk" "paving" "LSlabWalk$Paving;") m570) (fun _ h9 => h9) rfl ((((hq_11.r 0 0 (by decide) (by decide)).trans (hq_3.r 0 0 (by decide) (by decide)))).trans (hv_0_0)) dX11_keeps_28 ?_
    have b_13 : 0 ≤ (G.1 1 14).toInt ∧ (G.1 1 14).toInt ≤ 99 := hB_G.i 1 14 rfl rfl
    refine S_getI (v := (G.1 1 14)) (C := RX6) (T := TX6) (N := 17) hx hb hg iX6 hown hK hW kd_1 rfl 14 (by decide) (hg (Cond.fieldLink RX11 201 "SlabWalk$Paving" "hand" "I") m203) (fun _ h9 => h9) rfl ((hq_11.i 1 14 (by decide) (by decide)).trans (hq_3.i 1 14 (by decide) (by decide))) dX11_keeps_31 ?_
    refine lv_aload_n hx hb dX11_keeps_34 rfl (lv_at hl 0 rfl) ?_
    refine S_getV (n := 1) (C := RX11) (T := TX11) (N := 13) hx hb hg iX11 hown hK hW kd_0 rfl 0 (by decide) (hg (Cond.fieldLink RX11 10 "SlabWalk" "paving" "LSlabWalk$Paving;") m570) (fun _ h9 => h9) rfl ((((hq_11.r 0 0 (by decide) (by decide)).trans (hq_3.r 0 0 (by decide) (by decide)))).trans (hv_0_0)) dX11_keeps_35 ?_
    have b_14 : 0 ≤ (G.1 1 15).toInt ∧ (G.1 1 15).toInt ≤ 99 := hB_G.i 1 15 rfl rfl
    refine S_getI (v := (G.1 1 15)) (C := RX6) (T := TX6) (N := 17) hx hb hg iX6 hown hK hW kd_1 rfl 15 (by decide) (hg (Cond.fieldLink RX11 204 "SlabWalk$Paving" "slack" "I") m206) (fun _ h9 => h9) rfl ((hq_11.i 1 15 (by decide) (by decide)).trans (hq_3.i 1 15 (by decide) (by decide))) dX11_keeps_38 ?_
    have b_15 : 0 ≤ (G_10.1 7 3).toInt ∧ (G_10.1 7 3).toInt ≤ 60 := hB_G_10.i 7 3 rfl rfl
    have b_16 : 0 ≤ (G_10.1 7 4).toInt ∧ (G_10.1 7 4).toInt ≤ 60 := hB_G_10.i 7 4 rfl rfl
    have b_17 : (-1) ≤ (G_10.1 7 6).toInt ∧ (G_10.1 7 6).toInt ≤ 400 := hB_G_10.i 7 6 rfl rfl
    have b_18 : 0 ≤ (G_10.1 7 7).toInt ∧ (G_10.1 7 7).toInt ≤ 400 := hB_G_10.i 7 7 rfl rfl
    refine S_calli (va_runV (As := [.ref (a 7), .int (G.1 1 14), .int (G.1 1 15)]) (rest := []) ⟨hx, hb, hml, hown, hts⟩ (k_tLeaps l D k A a z G_10 (G.1 1 14) (G.1 1 15) ⟨by omega, by omega⟩ ⟨by omega, by omega⟩ (by omega)) (cwV 3 hts (gd_V hgd m1091 m1092 m1093 m124 m1094) rfl rfl rfl (by decide +kernel) ⟨Nat.le_of_ble_eq_true rfl, Nat.le_of_ble_eq_true rfl⟩) (pre_V hW hB_G_10 hK hZ hS kd_8 rfl) rfl rfl hl.1 rfl (lv_room (Nat.le_of_ble_eq_true rfl)) dX11_keeps_41 ⟨Nat.le_of_ble_eq_true rfl, Nat.le_of_ble_eq_true rfl⟩) hS (fun r_19 G_20 H locs hpo hW hS => ?_)
    obtain ⟨hB_G_20, hq_21⟩ := hpo
    have hF := hF.call hq_21 (by decide) (by decide)
    exact W.iret (v := r_19) hx hb hr (fun t ht _ => ⟨⟨r_19, G_20, rfl, ⟨hB_G_20, hF⟩, wd_t ht hW⟩, hS.F ht⟩) hS.2.2 dX11_keeps_44
  · have c_6 : r_1.toInt = 0 := xI_eq rfl rfl c_6
    refine lv_iconst (v := (-1)) hx hb dX11_keeps_10 (by decide) ?_
    exact W.iret (v := (-1)) hx hb hr (fun t ht _ => ⟨⟨(-1), G_2, rfl, ⟨hB_G_2, hF⟩, wd_t ht hW⟩, hS.F ht⟩) hS.2.2 dX11_keeps_11

set_option maxHeartbeats 4000000 in
set_option maxRecDepth 100000 in
theorem k_Wbrave_1 (l : Launch) (D : va_G) (k : KT) (A : Nat → Prop) (a : Nat → Nat) (z : SK) (G : GS) (p0 : Int32) (p1 : Int32) (p2 : Int32) (p3 : Int32) (p4 : Int32) (hv_0_0 : G.2.2 0 0 = 1) (hv_0_1 : G.2.2 0 1 = 2) (hv_6_4 : G.2.2 6 4 = 1) : Met l yX11_brave (WS yX11_brave cX11_brave 6 (some .long)) ({ frames := 5, cells := 0, slots := 0, locals := 119 }) (va_Pc [.ref (a 0), .int p0, .int p1, .int p2, .int p3, .int p4] (cW D k A a z G)) (va_Ql (fun (r : Int64) (G1 : GS) => Bd G1 ∧ Fr [37, 38, 39, 40, 56, 57] [(6, 3), (7, 1), (7, 2), (7, 3), (7, 4), (7, 5), (7, 6), (7, 7), (29, 6)] G G1) (fun (G1 : GS) t => Wd D k A a G1 t.heap) A) 0 0 A := by
  refine Met.ofW (cc := cX11_brave) (maxL := 6) (ret := (some .long)) (by decide) rfl ?_
  intro p e s m args below meth c s₁ B hml hv
  obtain ⟨rfl, hW, hB_G, hK, hZ⟩ := hv
  have hx := B.exec
  have hb := B.bytes
  have hr := B.returns
  have hts := atoms_spec (ws := WS yX11_brave cX11_brave 6 (some .long)) B.pre
  have hgd : ∀ w ∈ gd, w ∈ WS yX11_brave cX11_brave 6 (some .long) := fun w h => List.mem_cons_of_mem _ h
  have hg : ∀ w ∈ gd, w.before _ s = true := fun w h => hts w (hgd w h)
  have hown : s.vm.findClass RX11 = some m.cls := findClass_of_methodNamed B.named
  have hS : va_S A s.heap s.heap [] := va_S.rf
  have hF : Fr [37, 38, 39, 40, 56, 57] [(6, 3), (7, 1), (7, 2), (7, 3), (7, 4), (7, 5), (7, 6), (7, 7), (29, 6)] G G := Fr.rf
  have hl := lv_entry ([.ref (a 0), .int p0, .int p1, .int p2, .int p3, .int p4]) (n := 6) (Nat.le_of_ble_eq_true rfl)
  rw [lg_entry_eq]
  generalize (lg_sl ([.ref (a 0), .int p0, .int p1, .int p2, .int p3, .int p4]) ++ List.replicate (6 - (lg_sl ([.ref (a 0), .int p0, .int p1, .int p2, .int p3, .int p4])).length) Slot.unset).toArray = ls at hl ⊢
  have hl : lv_has ls 6 [(0, .ref (a 0)), (1, .int p0), (2, .int p1), (3, .int p2), (4, .int p3), (5, .int p4)] := hl
  refine lv_aload_n hx hb dX11_brave_0 rfl (lv_at hl 0 rfl) ?_
  refine lv_iload_n hx hb dX11_brave_1 rfl (lv_at hl 1 rfl) ?_
  refine lv_iload_n hx hb dX11_brave_2 rfl (lv_at hl 2 rfl) ?_
  refine lv_iload_n hx hb dX11_brave_3 rfl (lv_at hl 3 rfl) ?_
  refine lv_iload hx hb dX11_brave_4 (lv_at hl 4 rfl) ?_
  refine lv_iload hx hb dX11_brave_6 (lv_at hl 5 rfl) ?_
  refine S_calli (va_runV (As := [.int p0, .int p1, .int p2, .int p3, .int p4]) (rest := []) ⟨hx, hb, hml, hown, hts⟩ (k_wBrave_1 l D k A a z G p0 p1 p2 p3 p4 hv_0_0 hv_0_1 hv_6_4) (cwV 5 hts (gd_V hgd m1117 m1119 m38 m117 m1120) rfl rfl rfl (by decide +kernel) ⟨Nat.le_of_ble_eq_true rfl, Nat.le_of_ble_eq_true rfl⟩) (pre_V hW hB_G hK hZ hS kd_0 rfl) rfl rfl hl.1 rfl (lv_room (Nat.le_of_ble_eq_true rfl)) dX11_brave_8 ⟨Nat.le_of_ble_eq_true rfl, Nat.le_of_ble_eq_true rfl⟩) hS (fun r_1 G_2 H locs hpo hW hS => ?_)
  obtain ⟨hB_G_2, hq_3, f_5, hp_4⟩ := hpo
  have hF := hF.call hq_3 (by decide) (by decide)
  refine lv_if_ne (tgt := 18) hx hb dX11_brave_11 (by decide) (fun c_6 => ?_) (fun c_6 => ?_)
  · have c_6 : r_1.toInt ≠ 0 := xI_ne rfl rfl c_6
    refine lv_aload_n hx hb dX11_brave_18 rfl (lv_at hl 0 rfl) ?_
    refine lv_iload_n hx hb dX11_brave_19 rfl (lv_at hl 1 rfl) ?_
    refine lv_iload_n hx hb dX11_brave_20 rfl (lv_at hl 2 rfl) ?_
    refine lv_iload_n hx hb dX11_brave_21 rfl (lv_at hl 3 rfl) ?_
    have b_7 : 0 ≤ (G.1 1 10).toInt ∧ (G.1 1 10).toInt ≤ 4 := hB_G.i 1 10 rfl rfl
    have g_8 : (G_2.1 1 10).toInt = (G.1 1 10).toInt := by rw [show G_2.1 1 10 = (G.1 1 10) from (hq_3.i 1 10 (by decide) (by decide))]
    refine S_callv (va_runV (As := [.int p0, .int p1, .int p2]) (rest := []) ⟨hx, hb, hml, hown, hts⟩ (k_wPrep_1 l D k A a z G_2 p0 p1 p2 ⟨by omega, by omega⟩ ⟨by omega, by omega⟩ (((hq_3.r 0 0 (by decide) (by decide))).trans (hv_0_0)) (((hq_3.r 0 1 (by decide) (by decide))).trans (hv_0_1)) (((hq_3.r 6 4 (by decide) (by decide))).trans (hv_6_4)) (by omega)) (cwV 3 hts (gd_V hgd m975 m977 m32 m117 m978) rfl rfl rfl (by decide +kernel) ⟨Nat.le_of_ble_eq_true rfl, Nat.le_of_ble_eq_true rfl⟩) (pre_V hW hB_G_2 hK hZ hS kd_0 rfl) rfl rfl hl.1 rfl (lv_room (Nat.le_of_ble_eq_true rfl)) dX11_brave_22 ⟨Nat.le_of_ble_eq_true rfl, Nat.le_of_ble_eq_true rfl⟩) hS (fun G_10 H locs hpo hW hS => ?_)
    obtain ⟨hB_G_10, hq_11, hp_12⟩ := hpo
    have hF := hF.call hq_11 (by decide) (by decide)
    refine lv_aload_n hx hb dX11_brave_25 rfl (lv_at hl 0 rfl) ?_
    refine S_getR (n := 29) (C := RX11) (T := TX11) (N := 13) hx hb hg iX11 hown hK hW kd_0 rfl 7 (by decide) (hg (Cond.fieldLink RX11 58 "SlabWalk" "odds" "LSlabWalk$Odds;") m577) (fun _ h9 => h9) rfl dX11_brave_26 ?_
    refine lv_aload_n hx hb dX11_brave_29 rfl (lv_at hl 0 rfl) ?_
    refine S_getR (n := 7) (C := RX11) (T := TX11) (N := 13) hx hb hg iX11 hown hK hW kd_0 rfl 5 (by decide) (hg (Cond.fieldLink RX11 44 "SlabWalk" "course" "LSlabWalk$Course;") m575) (fun _ h9 => h9) rfl dX11_brave_30 ?_
    refine lv_aload_n hx hb dX11_brave_33 rfl (lv_at hl 0 rfl) ?_
    refine S_getV (n := 1) (C := RX11) (T := TX11) (N := 13) hx hb hg iX11 hown hK hW kd_0 rfl 0 (by decide) (hg (Cond.fieldLink RX11 10 "SlabWalk" "paving" "LSlabWalk$Paving;") m570) (fun _ h9 => h9) rfl ((((hq_11.r 0 0 (by decide) (by decide)).trans (hq_3.r 0 0 (by decide) (by decide)))).trans (hv_0_0)) dX11_brave_34 ?_
    refine S_getR (n := 16) (C := RX6) (T := TX6) (N := 17) hx hb hg iX6 hown hK hW kd_1 rfl 6 (by decide) (hg (Cond.fieldLink RX11 215 "SlabWalk$Paving" "slip" "[I") m180) (fun _ h9 => h9) rfl dX11_brave_37 ?_
    refine lv_iload hx hb dX11_brave_40 (lv_at hl 4 rfl) ?_
    refine lv_iload hx hb dX11_brave_42 (lv_at hl 5 rfl) ?_
    have b_13 : 0 ≤ (G_10.1 7 3).toInt ∧ (G_10.1 7 3).toInt ≤ 60 := hB_G_10.i 7 3 rfl rfl
    have b_14 : 0 ≤ (G_10.1 7 4).toInt ∧ (G_10.1 7 4).toInt ≤ 60 := hB_G_10.i 7 4 rfl rfl
    have b_15 : (-1) ≤ (G_10.1 7 6).toInt ∧ (G_10.1 7 6).toInt ≤ 400 := hB_G_10.i 7 6 rfl rfl
    have b_16 : 0 ≤ (G_10.1 7 7).toInt ∧ (G_10.1 7 7).toInt ≤ 400 := hB_G_10.i 7 7 rfl rfl
    refine S_calll (va_runV (As := [.ref (a 7), .ref (a 16), .int p3, .int p4]) (rest := []) ⟨hx, hb, hml, hown, hts⟩ (k_oBrave_1 l D k A a z G_10 p3 p4 ⟨by omega, by omega⟩ ⟨by omega, by omega⟩ (by omega)) (cwV 4 hts (gd_V hgd m1122 m1123 m1124 m126 m1125) rfl rfl rfl (by decide +kernel) ⟨Nat.le_of_ble_eq_true rfl, Nat.le_of_ble_eq_true rfl⟩) (pre_V hW hB_G_10 hK hZ hS kd_29 rfl) rfl rfl hl.1 rfl (lv_room (Nat.le_of_ble_eq_true rfl)) dX11_brave_44 ⟨Nat.le_of_ble_eq_true rfl, Nat.le_of_ble_eq_true rfl⟩) hS (fun r_17 G_18 H locs hpo hW hS => ?_)
    obtain ⟨hB_G_18, hq_19⟩ := hpo
    have hF := hF.call hq_19 (by decide) (by decide)
    exact W.lret (v := r_17) hx hb hr (fun t ht _ => ⟨⟨r_17, G_18, rfl, ⟨hB_G_18, hF⟩, wd_t ht hW⟩, hS.F ht⟩) hS.2.2 dX11_brave_47
  · have c_6 : r_1.toInt = 0 := xI_eq rfl rfl c_6
    refine lv_ldc2 (v := (-1)) hx hb hown (hg (Cond.constantLong RX11 165 (-1)) m1018) dX11_brave_14 ?_
    exact W.lret (v := (-1)) hx hb hr (fun t ht _ => ⟨⟨(-1), G_2, rfl, ⟨hB_G_2, hF⟩, wd_t ht hW⟩, hS.F ht⟩) hS.2.2 dX11_brave_17

set_option maxHeartbeats 4000000 in
set_option maxRecDepth 100000 in
theorem k_Wboldest_1 (l : Launch) (D : va_G) (k : KT) (A : Nat → Prop) (a : Nat → Nat) (z : SK) (G : GS) (p0 : Int32) (p1 : Int32) (p2 : Int32) (p3 : Int32) (p4 : Int32) (hv_0_0 : G.2.2 0 0 = 1) (hv_0_1 : G.2.2 0 1 = 2) (hv_6_4 : G.2.2 6 4 = 1) : Met l yX11_boldest (WS yX11_boldest cX11_boldest 6 (some .int)) ({ frames := 5, cells := 0, slots := 0, locals := 119 }) (va_Pc [.ref (a 0), .int p0, .int p1, .int p2, .int p3, .int p4] (cW D k A a z G)) (va_Qi (fun (r : Int32) (G1 : GS) => Bd G1 ∧ Fr [37, 38, 39, 40, 56, 57] [(6, 3), (7, 1), (7, 2), (7, 3), (7, 4), (7, 5), (7, 6), (7, 7), (29, 6)] G G1) (fun (G1 : GS) t => Wd D k A a G1 t.heap) A) 0 0 A := by
  refine Met.ofW (cc := cX11_boldest) (maxL := 6) (ret := (some .int)) (by decide) rfl ?_
  intro p e s m args below meth c s₁ B hml hv
  obtain ⟨rfl, hW, hB_G, hK, hZ⟩ := hv
  have hx := B.exec
  have hb := B.bytes
  have hr := B.returns
  have hts := atoms_spec (ws := WS yX11_boldest cX11_boldest 6 (some .int)) B.pre
  have hgd : ∀ w ∈ gd, w ∈ WS yX11_boldest cX11_boldest 6 (some .int) := fun w h => List.mem_cons_of_mem _ h
  have hg : ∀ w ∈ gd, w.before _ s = true := fun w h => hts w (hgd w h)
  have hown : s.vm.findClass RX11 = some m.cls := findClass_of_methodNamed B.named
  have hS : va_S A s.heap s.heap [] := va_S.rf
  have hF : Fr [37, 38, 39, 40, 56, 57] [(6, 3), (7, 1), (7, 2), (7, 3), (7, 4), (7, 5), (7, 6), (7, 7), (29, 6)] G G := Fr.rf
  have hl := lv_entry ([.ref (a 0), .int p0, .int p1, .int p2, .int p3, .int p4]) (n := 6) (Nat.le_of_ble_eq_true rfl)
  rw [lg_entry_eq]
  generalize (lg_sl ([.ref (a 0), .int p0, .int p1, .int p2, .int p3, .int p4]) ++ List.replicate (6 - (lg_sl ([.ref (a 0), .int p0, .int p1, .int p2, .int p3, .int p4])).length) Slot.unset).toArray = ls at hl ⊢
  have hl : lv_has ls 6 [(0, .ref (a 0)), (1, .int p0), (2, .int p1), (3, .int p2), (4, .int p3), (5, .int p4)] := hl
  refine lv_aload_n hx hb dX11_boldest_0 rfl (lv_at hl 0 rfl) ?_
  refine lv_iload_n hx hb dX11_boldest_1 rfl (lv_at hl 1 rfl) ?_
  refine lv_iload_n hx hb dX11_boldest_2 rfl (lv_at hl 2 rfl) ?_
  refine lv_iload_n hx hb dX11_boldest_3 rfl (lv_at hl 3 rfl) ?_
  refine lv_iload hx hb dX11_boldest_4 (lv_at hl 4 rfl) ?_
  refine lv_iload hx hb dX11_boldest_6 (lv_at hl 5 rfl) ?_
  refine S_calli (va_runV (As := [.int p0, .int p1, .int p2, .int p3, .int p4]) (rest := []) ⟨hx, hb, hml, hown, hts⟩ (k_wBrave_1 l D k A a z G p0 p1 p2 p3 p4 hv_0_0 hv_0_1 hv_6_4) (cwV 5 hts (gd_V hgd m1117 m1119 m38 m117 m1120) rfl rfl rfl (by decide +kernel) ⟨Nat.le_of_ble_eq_true rfl, Nat.le_of_ble_eq_true rfl⟩) (pre_V hW hB_G hK hZ hS kd_0 rfl) rfl rfl hl.1 rfl (lv_room (Nat.le_of_ble_eq_true rfl)) dX11_boldest_8 ⟨Nat.le_of_ble_eq_true rfl, Nat.le_of_ble_eq_true rfl⟩) hS (fun r_1 G_2 H locs hpo hW hS => ?_)
  obtain ⟨hB_G_2, hq_3, f_5, hp_4⟩ := hpo
  have hF := hF.call hq_3 (by decide) (by decide)
  refine lv_if_ne (tgt := 16) hx hb dX11_boldest_11 (by decide) (fun c_6 => ?_) (fun c_6 => ?_)
  · have c_6 : r_1.toInt ≠ 0 := xI_ne rfl rfl c_6
    refine lv_aload_n hx hb dX11_boldest_16 rfl (lv_at hl 0 rfl) ?_
    refine lv_iload_n hx hb dX11_boldest_17 rfl (lv_at hl 1 rfl) ?_
    refine lv_iload_n hx hb dX11_boldest_18 rfl (lv_at hl 2 rfl) ?_
    refine lv_iload_n hx hb dX11_boldest_19 rfl (lv_at hl 3 rfl) ?_
    have b_7 : 0 ≤ (G.1 1 10).toInt ∧ (G.1 1 10).toInt ≤ 4 := hB_G.i 1 10 rfl rfl
    have g_8 : (G_2.1 1 10).toInt = (G.1 1 10).toInt := by rw [show G_2.1 1 10 = (G.1 1 10) from (hq_3.i 1 10 (by decide) (by decide))]
    refine S_callv (va_runV (As := [.int p0, .int p1, .int p2]) (rest := []) ⟨hx, hb, hml, hown, hts⟩ (k_wPrep_1 l D k A a z G_2 p0 p1 p2 ⟨by omega, by omega⟩ ⟨by omega, by omega⟩ (((hq_3.r 0 0 (by decide) (by decide))).trans (hv_0_0)) (((hq_3.r 0 1 (by decide) (by decide))).trans (hv_0_1)) (((hq_3.r 6 4 (by decide) (by decide))).trans (hv_6_4)) (by omega)) (cwV 3 hts (gd_V hgd m975 m977 m32 m117 m978) rfl rfl rfl (by decide +kernel) ⟨Nat.le_of_ble_eq_true rfl, Nat.le_of_ble_eq_true rfl⟩) (pre_V hW hB_G_2 hK hZ hS kd_0 rfl) rfl rfl hl.1 rfl (lv_room (Nat.le_of_ble_eq_true rfl)) dX11_boldest_20 ⟨Nat.le_of_ble_eq_true rfl, Nat.le_of_ble_eq_true rfl⟩) hS (fun G_10 H locs hpo hW hS => ?_)
    obtain ⟨hB_G_10, hq_11, hp_12⟩ := hpo
    have hF := hF.call hq_11 (by decide) (by decide)
    refine lv_aload_n hx hb dX11_boldest_23 rfl (lv_at hl 0 rfl) ?_
    refine S_getR (n := 29) (C := RX11) (T := TX11) (N := 13) hx hb hg iX11 hown hK hW kd_0 rfl 7 (by decide) (hg (Cond.fieldLink RX11 58 "SlabWalk" "odds" "LSlabWalk$Odds;") m577) (fun _ h9 => h9) rfl dX11_boldest_24 ?_
    refine lv_aload_n hx hb dX11_boldest_27 rfl (lv_at hl 0 rfl) ?_
    refine S_getR (n := 7) (C := RX11) (T := TX11) (N := 13) hx hb hg iX11 hown hK hW kd_0 rfl 5 (by decide) (hg (Cond.fieldLink RX11 44 "SlabWalk" "course" "LSlabWalk$Course;") m575) (fun _ h9 => h9) rfl dX11_boldest_28 ?_
    refine lv_aload_n hx hb dX11_boldest_31 rfl (lv_at hl 0 rfl) ?_
    refine S_getV (n := 1) (C := RX11) (T := TX11) (N := 13) hx hb hg iX11 hown hK hW kd_0 rfl 0 (by decide) (hg (Cond.fieldLink RX11 10 "SlabWalk" "paving" "LSlabWalk$Paving;") m570) (fun _ h9 => h9) rfl ((((hq_11.r 0 0 (by decide) (by decide)).trans (hq_3.r 0 0 (by decide) (by decide)))).trans (hv_0_0)) dX11_boldest_32 ?_
    refine S_getR (n := 16) (C := RX6) (T := TX6) (N := 17) hx hb hg iX6 hown hK hW kd_1 rfl 6 (by decide) (hg (Cond.fieldLink RX11 215 "SlabWalk$Paving" "slip" "[I") m180) (fun _ h9 => h9) rfl dX11_boldest_35 ?_
    refine lv_iload hx hb dX11_boldest_38 (lv_at hl 4 rfl) ?_
    refine lv_iload hx hb dX11_boldest_40 (lv_at hl 5 rfl) ?_
    have b_13 : 0 ≤ (G_10.1 7 3).toInt ∧ (G_10.1 7 3).toInt ≤ 60 := hB_G_10.i 7 3 rfl rfl
    have b_14 : 0 ≤ (G_10.1 7 4).toInt ∧ (G_10.1 7 4).toInt ≤ 60 := hB_G_10.i 7 4 rfl rfl
    have b_15 : (-1) ≤ (G_10.1 7 6).toInt ∧ (G_10.1 7 6).toInt ≤ 400 := hB_G_10.i 7 6 rfl rfl
    have b_16 : 0 ≤ (G_10.1 7 7).toInt ∧ (G_10.1 7 7).toInt ≤ 400 := hB_G_10.i 7 7 rfl rfl
    refine S_calll (va_runV (As := [.ref (a 7), .ref (a 16), .int p3, .int p4]) (rest := []) ⟨hx, hb, hml, hown, hts⟩ (k_oBrave_1 l D k A a z G_10 p3 p4 ⟨by omega, by omega⟩ ⟨by omega, by omega⟩ (by omega)) (cwV 4 hts (gd_V hgd m1122 m1123 m1124 m126 m1125) rfl rfl rfl (by decide +kernel) ⟨Nat.le_of_ble_eq_true rfl, Nat.le_of_ble_eq_true rfl⟩) (pre_V hW hB_G_10 hK hZ hS kd_29 rfl) rfl rfl hl.1 rfl (lv_room (Nat.le_of_ble_eq_true rfl)) dX11_boldest_42 ⟨Nat.le_of_ble_eq_true rfl, Nat.le_of_ble_eq_true rfl⟩) hS (fun r_17 G_18 H locs hpo hW hS => ?_)
    obtain ⟨hB_G_18, hq_19⟩ := hpo
    have hF := hF.call hq_19 (by decide) (by decide)
    refine lv_pop2_2 hx hb dX11_boldest_45 rfl ?_
    refine lv_aload_n hx hb dX11_boldest_46 rfl (lv_at hl 0 rfl) ?_
    refine S_getR (n := 29) (C := RX11) (T := TX11) (N := 13) hx hb hg iX11 hown hK hW kd_0 rfl 7 (by decide) (hg (Cond.fieldLink RX11 58 "SlabWalk" "odds" "LSlabWalk$Odds;") m577) (fun _ h9 => h9) rfl dX11_boldest_47 ?_
    refine S_calli (va_runV (As := []) (rest := []) ⟨hx, hb, hml, hown, hts⟩ (k_oBoldest l D k A a z G_18  ) (cwV 0 hts (gd_V hgd m1138 m1139 m1140 m126 m1141) rfl rfl rfl (by decide +kernel) ⟨Nat.le_of_ble_eq_true rfl, Nat.le_of_ble_eq_true rfl⟩) (pre_V hW hB_G_18 hK hZ hS kd_29 rfl) rfl rfl hl.1 rfl (lv_room (Nat.le_of_ble_eq_true rfl)) dX11_boldest_50 ⟨Nat.le_of_ble_eq_true rfl, Nat.le_of_ble_eq_true rfl⟩) hS (fun r_21 G_22 H locs hpo hW hS => ?_)
    obtain ⟨hB_G_22, hq_23⟩ := hpo
    have hF := hF.call hq_23 (by decide) (by decide)
    exact W.iret (v := r_21) hx hb hr (fun t ht _ => ⟨⟨r_21, G_22, rfl, ⟨hB_G_22, hF⟩, wd_t ht hW⟩, hS.F ht⟩) hS.2.2 dX11_boldest_53
  · have c_6 : r_1.toInt = 0 := xI_eq rfl rfl c_6
    refine lv_iconst (v := (-1)) hx hb dX11_boldest_14 (by decide) ?_
    exact W.iret (v := (-1)) hx hb hr (fun t ht _ => ⟨⟨(-1), G_2, rfl, ⟨hB_G_2, hF⟩, wd_t ht hW⟩, hS.F ht⟩) hS.2.2 dX11_boldest_15

set_option maxHeartbeats 4000000 in
set_option maxRecDepth 100000 in
theorem k_Wwager_1 (l : Launch) (D : va_G) (k : KT) (A : Nat → Prop) (a : Nat → Nat) (z : SK) (G : GS) (p0 : Int32) (p1 : Int32) (p2 : Int32) (p3 : Int32) (hv_0_0 : G.2.2 0 0 = 1) (hv_0_1 : G.2.2 0 1 = 2) (hv_6_4 : G.2.2 6 4 = 1) : Met l yX11_wager (WS yX11_wager cX11_wager 6 (some .int)) ({ frames := 6, cells := 0, slots := 0, locals := 137 }) (va_Pc [.ref (a 0), .int p0, .int p1, .int p2, .int p3] (cW D k A a z G)) (va_Qi (fun (r : Int32) (G1 : GS) => Bd G1 ∧ Fr [37, 38, 39, 40, 42, 43, 46, 47] [(6, 3), (7, 1), (7, 2), (7, 3), (7, 4), (7, 5), (7, 6), (7, 7)] G G1) (fun (G1 : GS) t => Wd D k A a G1 t.heap) A) 0 0 A := by
  refine Met.ofW (cc := cX11_wager) (maxL := 6) (ret := (some .int)) (by decide) rfl ?_
  intro p e s m args below meth c s₁ B hml hv
  obtain ⟨rfl, hW, hB_G, hK, hZ⟩ := hv
  have hx := B.exec
  have hb := B.bytes
  have hr := B.returns
  have hts := atoms_spec (ws := WS yX11_wager cX11_wager 6 (some .int)) B.pre
  have hgd : ∀ w ∈ gd, w ∈ WS yX11_wager cX11_wager 6 (some .int) := fun w h => List.mem_cons_of_mem _ h
  have hg : ∀ w ∈ gd, w.before _ s = true := fun w h => hts w (hgd w h)
  have hown : s.vm.findClass RX11 = some m.cls := findClass_of_methodNamed B.named
  have hS : va_S A s.heap s.heap [] := va_S.rf
  have hF : Fr [37, 38, 39, 40, 42, 43, 46, 47] [(6, 3), (7, 1), (7, 2), (7, 3), (7, 4), (7, 5), (7, 6), (7, 7)] G G := Fr.rf
  have hl := lv_entry ([.ref (a 0), .int p0, .int p1, .int p2, .int p3]) (n := 6) (Nat.le_of_ble_eq_true rfl)
  rw [lg_entry_eq]
  generalize (lg_sl ([.ref (a 0), .int p0, .int p1, .int p2, .int p3]) ++ List.replicate (6 - (lg_sl ([.ref (a 0), .int p0, .int p1, .int p2, .int p3])).length) Slot.unset).toArray = ls at hl ⊢
  have hl : lv_has ls 6 [(0, .ref (a 0)), (1, .int p0), (2, .int p1), (3, .int p2), (4, .int p3)] := hl
  refine lv_aload_n hx hb dX11_wager_0 rfl (lv_at hl 0 rfl) ?_
  refine lv_iload_n hx hb dX11_wager_1 rfl (lv_at hl 1 rfl) ?_
  refine lv_iload_n hx hb dX11_wager_2 rfl (lv_at hl 2 rfl) ?_
  refine lv_iload_n hx hb dX11_wager_3 rfl (lv_at hl 3 rfl) ?_
  refine S_calli (va_runV (As := [.int p0, .int p1, .int p2]) (rest := []) ⟨hx, hb, hml, hown, hts⟩ (k_wAsk_1 l D k A a z G p0 p1 p2 hv_0_0 hv_0_1 hv_6_4) (cwV 3 hts (gd_V hgd m953 m955 m31 m117 m956) rfl rfl rfl (by decide +kernel) ⟨Nat.le_of_ble_eq_true rfl, Nat.le_of_ble_eq_true rfl⟩) (pre_V hW hB_G hK hZ hS kd_0 rfl) rfl rfl hl.1 rfl (lv_room (Nat.le_of_ble_eq_true rfl)) dX11_wager_4 ⟨Nat.le_of_ble_eq_true rfl, Nat.le_of_ble_eq_true rfl⟩) hS (fun r_1 G_2 H locs hpo hW hS => ?_)
  obtain ⟨hB_G_2, hq_3, f_5, hp_4⟩ := hpo
  have hF := hF.call hq_3 (by decide) (by decide)
  refine lv_if_eq (tgt := 21) hx hb dX11_wager_7 (by decide) (fun c_6 => ?_) (fun c_6 => ?_)
  · have c_6 : r_1.toInt = 0 := xI_eq rfl rfl c_6
    refine lv_iconst (v := (-1)) hx hb dX11_wager_21 (by decide) ?_
    exact W.iret (v := (-1)) hx hb hr (fun t ht _ => ⟨⟨(-1), G_2, rfl, ⟨hB_G_2, hF⟩, wd_t ht hW⟩, hS.F ht⟩) hS.2.2 dX11_wager_22
  · have c_6 : r_1.toInt ≠ 0 := xI_ne rfl rfl c_6
    refine lv_iload hx hb dX11_wager_10 (lv_at hl 4 rfl) ?_
    refine lv_if_lt (tgt := 21) hx hb dX11_wager_12 (by decide) (fun c_7 => ?_) (fun c_7 => ?_)
    · have c_7 : p3.toInt < 0 := xI_lt rfl rfl c_7
      refine lv_iconst (v := (-1)) hx hb dX11_wager_21 (by decide) ?_
      exact W.iret (v := (-1)) hx hb hr (fun t ht _ => ⟨⟨(-1), G_2, rfl, ⟨hB_G_2, hF⟩, wd_t ht hW⟩, hS.F ht⟩) hS.2.2 dX11_wager_22
    · have c_7 : 0 ≤ p3.toInt := xI_nlt rfl rfl c_7
      refine lv_iload hx hb dX11_wager_15 (lv_at hl 4 rfl) ?_
      refine lv_iconst (v := 1) hx hb dX11_wager_17 (by decide) ?_
      refine lv_icmp_le (tgt := 23) hx hb dX11_wager_18 (by decide) (fun c_8 => ?_) (fun c_8 => ?_)
      · have c_8 : p3.toInt ≤ 1 := xI_le rfl rfl c_8
        refine lv_aload_n hx hb dX11_wager_23 rfl (lv_at hl 0 rfl) ?_
        refine lv_iload_n hx hb dX11_wager_24 rfl (lv_at hl 1 rfl) ?_
        refine lv_iload_n hx hb dX11_wager_25 rfl (lv_at hl 2 rfl) ?_
        refine lv_iload_n hx hb dX11_wager_26 rfl (lv_at hl 3 rfl) ?_
        have b_9 : 0 ≤ (G.1 1 10).toInt ∧ (G.1 1 10).toInt ≤ 4 := hB_G.i 1 10 rfl rfl
        have g_10 : (G_2.1 1 10).toInt = (G.1 1 10).toInt := by rw [show G_2.1 1 10 = (G.1 1 10) from (hq_3.i 1 10 (by decide) (by decide))]
        refine S_callv (va_runV (As := [.int p0, .int p1, .int p2]) (rest := []) ⟨hx, hb, hml, hown, hts⟩ (k_wPrep_1 l D k A a z G_2 p0 p1 p2 ⟨by omega, by omega⟩ ⟨by omega, by omega⟩ (((hq_3.r 0 0 (by decide) (by decide))).trans (hv_0_0)) (((hq_3.r 0 1 (by decide) (by decide))).trans (hv_0_1)) (((hq_3.r 6 4 (by decide) (by decide))).trans (hv_6_4)) (by omega)) (cwV 3 hts (gd_V hgd m975 m977 m32 m117 m978) rfl rfl rfl (by decide +kernel) ⟨Nat.le_of_ble_eq_true rfl, Nat.le_of_ble_eq_true rfl⟩) (pre_V hW hB_G_2 hK hZ hS kd_0 rfl) rfl rfl hl.1 rfl (lv_room (Nat.le_of_ble_eq_true rfl)) dX11_wager_27 ⟨Nat.le_of_ble_eq_true rfl, Nat.le_of_ble_eq_true rfl⟩) hS (fun G_12 H locs hpo hW hS => ?_)
        obtain ⟨hB_G_12, hq_13, hp_14⟩ := hpo
        have hF := hF.call hq_13 (by decide) (by decide)
        refine lv_aload_n hx hb dX11_wager_30 rfl (lv_at hl 0 rfl) ?_
        refine lv_iload_n hx hb dX11_wager_31 rfl (lv_at hl 2 rfl) ?_
        refine lv_iload_n hx hb dX11_wager_32 rfl (lv_at hl 3 rfl) ?_
        have b_15 : 0 ≤ (G_12.1 7 3).toInt ∧ (G_12.1 7 3).toInt ≤ 60 := hB_G_12.i 7 3 rfl rfl
        have b_16 : 0 ≤ (G_12.1 7 4).toInt ∧ (G_12.1 7 4).toInt ≤ 60 := hB_G_12.i 7 4 rfl rfl
        have b_17 : (-1) ≤ (G_12.1 7 6).toInt ∧ (G_12.1 7 6).toInt ≤ 400 := hB_G_12.i 7 6 rfl rfl
        have b_18 : 0 ≤ (G_12.1 7 7).toInt ∧ (G_12.1 7 7).toInt ≤ 400 := hB_G_12.i 7 7 rfl rfl
        refine S_calli (va_runV (As := [.int p1, .int p2]) (rest := []) ⟨hx, hb, hml, hown, hts⟩ (k_wWin_1 l D k A a z G_12 p1 p2 ⟨by omega, by omega⟩ ((((hq_13.r 0 0 (by decide) (by decide)).trans (hq_3.r 0 0 (by decide) (by decide)))).trans (hv_0_0)) ((((hq_13.r 0 1 (by decide) (by decide)).trans (hq_3.r 0 1 (by decide) (by decide)))).trans (hv_0_1)) ((((hq_13.r 6 4 (by decide) (by decide)).trans (hq_3.r 6 4 (by decide) (by decide)))).trans (hv_6_4)) (by omega)) (cwV 2 hts (gd_V hgd m1146 m1148 m41 m117 m1149) rfl rfl rfl (by decide +kernel) ⟨Nat.le_of_ble_eq_true rfl, Nat.le_of_ble_eq_true rfl⟩) (pre_V hW hB_G_12 hK hZ hS kd_0 rfl) rfl rfl hl.1 rfl (lv_room (Nat.le_of_ble_eq_true rfl)) dX11_wager_33 ⟨Nat.le_of_ble_eq_true rfl, Nat.le_of_ble_eq_true rfl⟩) hS (fun r_19 G_20 H locs hpo hW hS => ?_)
        obtain ⟨hB_G_20, hq_21⟩ := hpo
        have hF := hF.call hq_21 (by decide) (by decide)
        refine lv_istore (lv' := [(5, .int r_19), (0, .ref (a 0)), (1, .int p0), (2, .int p1), (3, .int p2), (4, .int p3)]) hx hb dX11_wager_36 hl (by decide) rfl (fun ls hl => ?_)
        refine lv_iload hx hb dX11_wager_38 (lv_at hl 5 rfl) ?_
        refine lv_iconst (v := 1) hx hb dX11_wager_40 (by decide) ?_
        refine lv_icmp_ne (tgt := 49) hx hb dX11_wager_41 (by decide) (fun c_23 => ?_) (fun c_23 => ?_)
        · have c_23 : p3.toInt ≠ 1 := xI_ne rfl rfl c_23
          refine lv_iload hx hb dX11_wager_49 (lv_at hl 0 rfl) ?_
          refine lv_iconst (v := (-1)) hx hb dX11_wager_51 (by decide) ?_
          refine lv_icmp_ne (tgt := 59) hx hb dX11_wager_52 (by decide) (fun c_24 => ?_) (fun c_24 => ?_)
          · have c_24 : r_19.toInt ≠ (-1) := xI_ne rfl rfl c_24
            refine lv_iconst (v := 1) hx hb dX11_wager_59 (by decide) ?_
            exact W.iret (v := 1) hx hb hr (fun t ht _ => ⟨⟨1, G_20, rfl, ⟨hB_G_20, hF⟩, wd_t ht hW⟩, hS.F ht⟩) hS.2.2 dX11_wager_60
          · have c_24 : r_19.toInt = (-1) := xI_eq rfl rfl c_24
            refine lv_iconst (v := 0) hx hb dX11_wager_55 (by decide) ?_
            refine lv_goto (tgt := 60) hx hb dX11_wager_56 (by decide) ?_
            exact W.iret (v := 0) hx hb hr (fun t ht _ => ⟨⟨0, G_20, rfl, ⟨hB_G_20, hF⟩, wd_t ht hW⟩, hS.F ht⟩) hS.2.2 dX11_wager_60
        · have c_23 : p3.toInt = 1 := xI_eq rfl rfl c_23
          refine lv_iload hx hb dX11_wager_44 (lv_at hl 0 rfl) ?_
          refine lv_goto (tgt := 60) hx hb dX11_wager_46 (by decide) ?_
          exact W.iret (v := r_19) hx hb hr (fun t ht _ => ⟨⟨r_19, G_20, rfl, ⟨hB_G_20, hF⟩, wd_t ht hW⟩, hS.F ht⟩) hS.2.2 dX11_wager_60
      · have c_8 : 1 < p3.toInt := xI_nle rfl rfl c_8
        refine lv_iconst (v := (-1)) hx hb dX11_wager_21 (by decide) ?_
        exact W.iret (v := (-1)) hx hb hr (fun t ht _ => ⟨⟨(-1), G_2, rfl, ⟨hB_G_2, hF⟩, wd_t ht hW⟩, hS.F ht⟩) hS.2.2 dX11_wager_22

set_option maxHeartbeats 4000000 in
set_option maxRecDepth 100000 in
theorem k_Wleave_1 (l : Launch) (D : va_G) (k : KT) (A : Nat → Prop) (a : Nat → Nat) (z : SK) (G : GS) (p0 : Int32) (p1 : Int32) (hv_0_0 : G.2.2 0 0 = 1) (hv_0_1 : G.2.2 0 1 = 2) (hv_6_4 : G.2.2 6 4 = 1) : Met l yX11_leave (WS yX11_leave cX11_leave 5 (some .int)) ({ frames := 5, cells := 0, slots := 0, locals := 119 }) (va_Pc [.ref (a 0), .int p0, .int p1] (cW D k A a z G)) (va_Qi (fun (r : Int32) (G1 : GS) => Bd G1 ∧ Fr [37, 38, 39, 40, 42, 43] [(6, 3), (7, 1), (7, 2), (7, 3), (7, 4), (7, 5), (7, 6), (7, 7)] G G1) (fun (G1 : GS) t => Wd D k A a G1 t.heap) A) 0 0 A := by
  refine Met.ofW (cc := cX11_leave) (maxL := 5) (ret := (some .int)) (by decide) rfl ?_
  intro p e s m args below meth c s₁ B hml hv
  obtain ⟨rfl, hW, hB_G, hK, hZ⟩ := hv
  have hx := B.exec
  have hb := B.bytes
  have hr := B.returns
  have hts := atoms_spec (ws := WS yX11_leave cX11_leave 5 (some .int)) B.pre
  have hgd : ∀ w ∈ gd, w ∈ WS yX11_leave cX11_leave 5 (some .int) := fun w h => List.mem_cons_of_mem _ h
  have hg : ∀ w ∈ gd, w.before _ s = true := fun w h => hts w (hgd w h)
  have hown : s.vm.findClass RX11 = some m.cls := findClass_of_methodNamed B.named
  have hS : va_S A s.heap s.heap [] := va_S.rf
  have hF : Fr [37, 38, 39, 40, 42, 43] [(6, 3), (7, 1), (7, 2), (7, 3), (7, 4), (7, 5), (7, 6), (7, 7)] G G := Fr.rf
  have hl := lv_entry ([.ref (a 0), .int p0, .int p1]) (n := 5) (Nat.le_of_ble_eq_true rfl)
  rw [lg_entry_eq]
  generalize (lg_sl ([.ref (a 0), .int p0, .int p1]) ++ List.replicate (5 - (lg_sl ([.ref (a 0), .int p0, .int p1])).length) Slot.unset).toArray = ls at hl ⊢
  have hl : lv_has ls 5 [(0, .ref (a 0)), (1, .int p0), (2, .int p1)] := hl
  refine lv_aload_n hx hb dX11_leave_0 rfl (lv_at hl 0 rfl) ?_
  refine lv_iload_n hx hb dX11_leave_1 rfl (lv_at hl 1 rfl) ?_
  refine lv_iload_n hx hb dX11_leave_2 rfl (lv_at hl 2 rfl) ?_
  refine lv_iconst (v := 0) hx hb dX11_leave_3 (by decide) ?_
  have qc_1 : (0 : Int32).toInt = 0 := rfl
  refine S_calli (va_runV (As := [.int p0, .int p1, .int 0]) (rest := []) ⟨hx, hb, hml, hown, hts⟩ (k_wAsk_1 l D k A a z G p0 p1 0 hv_0_0 hv_0_1 hv_6_4) (cwV 3 hts (gd_V hgd m953 m955 m31 m117 m956) rfl rfl rfl (by decide +kernel) ⟨Nat.le_of_ble_eq_true rfl, Nat.le_of_ble_eq_true rfl⟩) (pre_V hW hB_G hK hZ hS kd_0 rfl) rfl rfl hl.1 rfl (lv_room (Nat.le_of_ble_eq_true rfl)) dX11_leave_4 ⟨Nat.le_of_ble_eq_true rfl, Nat.le_of_ble_eq_true rfl⟩) hS (fun r_2 G_3 H locs hpo hW hS => ?_)
  obtain ⟨hB_G_3, hq_4, f_6, hp_5⟩ := hpo
  have hF := hF.call hq_4 (by decide) (by decide)
  refine lv_if_ne (tgt := 12) hx hb dX11_leave_7 (by decide) (fun c_7 => ?_) (fun c_7 => ?_)
  · have c_7 : r_2.toInt ≠ 0 := xI_ne rfl rfl c_7
    refine lv_aload_n hx hb dX11_leave_12 rfl (lv_at hl 0 rfl) ?_
    refine lv_iload_n hx hb dX11_leave_13 rfl (lv_at hl 1 rfl) ?_
    refine lv_iload_n hx hb dX11_leave_14 rfl (lv_at hl 2 rfl) ?_
    refine lv_iconst (v := 0) hx hb dX11_leave_15 (by decide) ?_
    have b_8 : 0 ≤ (G.1 1 10).toInt ∧ (G.1 1 10).toInt ≤ 4 := hB_G.i 1 10 rfl rfl
    have g_9 : (G_3.1 1 10).toInt = (G.1 1 10).toInt := by rw [show G_3.1 1 10 = (G.1 1 10) from (hq_4.i 1 10 (by decide) (by decide))]
    have qc_10 : (0 : Int32).toInt = 0 := rfl
    refine S_callv (va_runV (As := [.int p0, .int p1, .int 0]) (rest := []) ⟨hx, hb, hml, hown, hts⟩ (k_wPrep_1 l D k A a z G_3 p0 p1 0 ⟨by omega, by omega⟩ ⟨by omega, by omega⟩ (((hq_4.r 0 0 (by decide) (by decide))).trans (hv_0_0)) (((hq_4.r 0 1 (by decide) (by decide))).trans (hv_0_1)) (((hq_4.r 6 4 (by decide) (by decide))).trans (hv_6_4)) (by omega)) (cwV 3 hts (gd_V hgd m975 m977 m32 m117 m978) rfl rfl rfl (by decide +kernel) ⟨Nat.le_of_ble_eq_true rfl, Nat.le_of_ble_eq_true rfl⟩) (pre_V hW hB_G_3 hK hZ hS kd_0 rfl) rfl rfl hl.1 rfl (lv_room (Nat.le_of_ble_eq_true rfl)) dX11_leave_16 ⟨Nat.le_of_ble_eq_true rfl, Nat.le_of_ble_eq_true rfl⟩) hS (fun G_12 H locs hpo hW hS => ?_)
    obtain ⟨hB_G_12, hq_13, hp_14⟩ := hpo
    have hF := hF.call hq_13 (by decide) (by decide)
    refine lv_iconst (v := 0) hx hb dX11_leave_19 (by decide) ?_
    refine lv_istore_n (lv' := [(3, .int 0), (0, .ref (a 0)), (1, .int p0), (2, .int p1)]) hx hb dX11_leave_20 rfl hl (by decide) rfl (fun ls hl => ?_)
    refine lv_iconst (v := 0) hx hb dX11_leave_21 (by decide) ?_
    refine lv_istore (lv' := [(4, .int 0), (3, .int 0), (0, .ref (a 0)), (1, .int p0), (2, .int p1)]) hx hb dX11_leave_22 hl (by decide) rfl (fun ls hl => ?_)
    have qc_21 : (0 : Int32).toInt = 0 := rfl
    refine loop_N (Inv := fun n H locs ls => ∃ (G_15 : GS) (x_19 : Int32) (x_20 : Int32), (n : Int) = 64 - x_19.toInt ∧ (0 ≤ x_19.toInt ∧ x_19.toInt ≤ 64) ∧ Wd D k A a G_15 H ∧ Bd G_15 ∧ Fr [37, 38, 39, 40, 42, 43] [(6, 3), (7, 1), (7, 2), (7, 3), (7, 4), (7, 5), (7, 6), (7, 7)] G G_15 ∧ Fr [40, 42, 43] [] G_12 G_15 ∧ va_S A s.heap H locs ∧ lv_has ls 5 [(4, .int x_19), (3, .int x_20), (0, .ref (a 0)), (2, .int p1)]) (fun n_18 H locs ls ih_17 hI => ?_) (64 - 0 : Int).toNat ⟨G_12, 0, 0, (Int.toNat_of_nonneg (by omega)), ⟨by omega, by omega⟩, hW, hB_G_12, hF, Fr.rf, hS, lv_sub hl [0, 1, 2, 4] rfl⟩
    obtain ⟨G_15, x_19, x_20, hn_23, f_22, hW, hB_G_15, hF, hq_16, hS, hl⟩ := hI
    refine lv_iload hx hb dX11_leave_24 (lv_at hl 0 rfl) ?_
    refine lv_iconst (v := 1) hx hb dX11_leave_26 (by decide) ?_
    refine lv_aload_n hx hb dX11_leave_27 rfl (lv_at hl 2 rfl) ?_
    refine S_getV (n := 1) (C := RX11) (T := TX11) (N := 13) hx hb hg iX11 hown hK hW kd_0 rfl 0 (by decide) (hg (Cond.fieldLink RX11 10 "SlabWalk" "paving" "LSlabWalk$Paving;") m570) (fun _ h9 => h9) rfl ((((hq_16.r 0 0 (by decide) (by decide)).trans ((hq_13.r 0 0 (by decide) (by decide)).trans (hq_4.r 0 0 (by decide) (by decide))))).trans (hv_0_0)) dX11_leave_28 ?_
    have b_24 : 0 ≤ (G.1 1 11).toInt ∧ (G.1 1 11).toInt ≤ 6 := hB_G.i 1 11 rfl rfl
    refine S_getI (v := (G.1 1 11)) (C := RX6) (T := TX6) (N := 17) hx hb hg iX6 hown hK hW kd_1 rfl 11 (by decide) (hg (Cond.fieldLink RX11 228 "SlabWalk$Paving" "rules" "I") m195) (fun _ h9 => h9) rfl ((hq_16.i 1 11 (by decide) (by decide)).trans ((hq_13.i 1 11 (by decide) (by decide)).trans (hq_4.i 1 11 (by decide) (by decide)))) dX11_leave_31 ?_
    refine lv_ishl hx hb dX11_leave_34 ?_
    refine lv_topi (fun y_25 ey_25 => ?_)
    have ty_25 := sh6 (Y := (G.1 1 11).toInt) rfl ey_25 rfl (by omega) (by omega)
    refine lv_icmp_ge (tgt := 62) hx hb dX11_leave_35 (by decide) (fun c_26 => ?_) (fun c_26 => ?_)
    · have c_26 : y_25.toInt ≤ x_19.toInt := xI_le rfl rfl c_26
      refine lv_iload_n hx hb dX11_leave_62 rfl (lv_at hl 1 rfl) ?_
      exact W.iret (v := x_20) hx hb hr (fun t ht _ => ⟨⟨x_20, G_15, rfl, ⟨hB_G_15, hF⟩, wd_t ht hW⟩, hS.F ht⟩) hS.2.2 dX11_leave_63
    · have c_26 : x_19.toInt < y_25.toInt := xI_nle rfl rfl c_26
      refine lv_iload_n hx hb dX11_leave_38 rfl (lv_at hl 1 rfl) ?_
      refine lv_aload_n hx hb dX11_leave_39 rfl (lv_at hl 2 rfl) ?_
      refine lv_iload_n hx hb dX11_leave_40 rfl (lv_at hl 3 rfl) ?_
      refine lv_iload hx hb dX11_leave_41 (lv_at hl 0 rfl) ?_
      have b_27 : 0 ≤ (G_12.1 7 3).toInt ∧ (G_12.1 7 3).toInt ≤ 60 := hB_G_12.i 7 3 rfl rfl
      have g_28 : (G_15.1 7 3).toInt = (G_12.1 7 3).toInt := by rw [show G_15.1 7 3 = (G_12.1 7 3) from (hq_16.i 7 3 (by decide) (by decide))]
      have b_29 : 0 ≤ (G_12.1 7 4).toInt ∧ (G_12.1 7 4).toInt ≤ 60 := hB_G_12.i 7 4 rfl rfl
      have g_30 : (G_15.1 7 4).toInt = (G_12.1 7 4).toInt := by rw [show G_15.1 7 4 = (G_12.1 7 4) from (hq_16.i 7 4 (by decide) (by decide))]
      have b_31 : (-1) ≤ (G_12.1 7 6).toInt ∧ (G_12.1 7 6).toInt ≤ 400 := hB_G_12.i 7 6 rfl rfl
      have g_32 : (G_15.1 7 6).toInt = (G_12.1 7 6).toInt := by rw [show G_15.1 7 6 = (G_12.1 7 6) from (hq_16.i 7 6 (by decide) (by decide))]
      have b_33 : 0 ≤ (G_12.1 7 7).toInt ∧ (G_12.1 7 7).toInt ≤ 400 := hB_G_12.i 7 7 rfl rfl
      have g_34 : (G_15.1 7 7).toInt = (G_12.1 7 7).toInt := by rw [show G_15.1 7 7 = (G_12.1 7 7) from (hq_16.i 7 7 (by decide) (by decide))]
      refine S_calli (va_runV (As := [.int p1, .int x_19]) (rest := [.int x_20]) ⟨hx, hb, hml, hown, hts⟩ (k_wLeaves_1 l D k A a z G_15 p1 x_19 ((((hq_16.r 0 0 (by decide) (by decide)).trans ((hq_13.r 0 0 (by decide) (by decide)).trans (hq_4.r 0 0 (by decide) (by decide))))).trans (hv_0_0)) ((((hq_16.r 0 1 (by decide) (by decide)).trans ((hq_13.r 0 1 (by decide) (by decide)).trans (hq_4.r 0 1 (by decide) (by decide))))).trans (hv_0_1)) ((((hq_16.r 6 4 (by decide) (by decide)).trans ((hq_13.r 6 4 (by decide) (by decide)).trans (hq_4.r 6 4 (by decide) (by decide))))).trans (hv_6_4)) (by omega)) (cwV 2 hts (gd_V hgd m1154 m1156 m42 m117 m1157) rfl rfl rfl (by decide +kernel) ⟨Nat.le_of_ble_eq_true rfl, Nat.le_of_ble_eq_true rfl⟩) (pre_V hW hB_G_15 hK hZ hS kd_0 rfl) rfl rfl hl.1 rfl (lv_room (Nat.le_of_ble_eq_true rfl)) dX11_leave_43 ⟨Nat.le_of_ble_eq_true rfl, Nat.le_of_ble_eq_true rfl⟩) hS (fun r_35 G_36 H locs hpo hW hS => ?_)
      obtain ⟨hB_G_36, hq_37, f_39, hp_38⟩ := hpo
      have hF := hF.call hq_37 (by decide) (by decide)
      refine lv_if_eq (tgt := 53) hx hb dX11_leave_46 (by decide) (fun c_40 => ?_) (fun c_40 => ?_)
      · have c_40 : r_35.toInt = 0 := xI_eq rfl rfl c_40
        refine lv_iconst (v := 0) hx hb dX11_leave_53 (by decide) ?_
        refine lv_iadd hx hb dX11_leave_54 ?_
        refine lv_topi (fun y_41 ey_41 => ?_)
        have e_42 := tI_rng x_20
        have ty_41 : y_41.toInt = x_20.toInt + 0 := xI_add rfl rfl ey_41 (by omega) (by omega)
        refine lv_istore_n (lv' := [(3, .int y_41), (4, .int x_19), (0, .ref (a 0)), (2, .int p1)]) hx hb dX11_leave_55 rfl hl (by decide) rfl (fun ls hl => ?_)
        obtain ⟨y_43, ey_43⟩ : ∃ q, q = x_19 + 1 := ⟨_, rfl⟩
        have ty_43 : y_43.toInt = x_19.toInt + 1 := xI_add rfl rfl ey_43 (by omega) (by omega)
        refine lv_iinc (v := y_43) (lv' := [(4, .int y_43), (3, .int y_41), (0, .ref (a 0)), (2, .int p1)]) hx hb dX11_leave_56 hl (k := 1) rfl (by rw [ey_43]; rfl) (by decide) rfl (fun ls hl => ?_)
        refine lv_goto (tgt := 24) hx hb dX11_leave_59 (by decide) ?_
        exact ih_17 (64 - y_43.toInt : Int).toNat (by omega) _ _ _ ⟨G_36, y_43, y_41, (Int.toNat_of_nonneg (by omega)), ⟨by omega, by omega⟩, hW, hB_G_36, hF, ((Fr.rf.call hq_16 (by decide) (by decide)).call hq_37 (by decide) (by decide)), hS, lv_sub hl [0, 1, 2, 3] rfl⟩
      · have c_40 : r_35.toInt ≠ 0 := xI_ne rfl rfl c_40
        refine lv_iconst (v := 1) hx hb dX11_leave_49 (by decide) ?_
        refine lv_goto (tgt := 54) hx hb dX11_leave_50 (by decide) ?_
        refine lv_iadd hx hb dX11_leave_54 ?_
        refine lv_topi (fun y_44 ey_44 => ?_)
        refine lv_istore_n (lv' := [(3, .int y_44), (4, .int x_19), (0, .ref (a 0)), (2, .int p1)]) hx hb dX11_leave_55 rfl hl (by decide) rfl (fun ls hl => ?_)
        obtain ⟨y_45, ey_45⟩ : ∃ q, q = x_19 + 1 := ⟨_, rfl⟩
        have ty_45 : y_45.toInt = x_19.toInt + 1 := xI_add rfl rfl ey_45 (by omega) (by omega)
        refine lv_iinc (v := y_45) (lv' := [(4, .int y_45), (3, .int y_44), (0, .ref (a 0)), (2, .int p1)]) hx hb dX11_leave_56 hl (k := 1) rfl (by rw [ey_45]; rfl) (by decide) rfl (fun ls hl => ?_)
        refine lv_goto (tgt := 24) hx hb dX11_leave_59 (by decide) ?_
        exact ih_17 (64 - y_45.toInt : Int).toNat (by omega) _ _ _ ⟨G_36, y_45, y_44, (Int.toNat_of_nonneg (by omega)), ⟨by omega, by omega⟩, hW, hB_G_36, hF, ((Fr.rf.call hq_16 (by decide) (by decide)).call hq_37 (by decide) (by decide)), hS, lv_sub hl [0, 1, 2, 3] rfl⟩
  · have c_7 : r_2.toInt = 0 := xI_eq rfl rfl c_7
    refine lv_iconst (v := (-1)) hx hb dX11_leave_10 (by decide) ?_
    exact W.iret (v := (-1)) hx hb hr (fun t ht _ => ⟨⟨(-1), G_3, rfl, ⟨hB_G_3, hF⟩, wd_t ht hW⟩, hS.F ht⟩) hS.2.2 dX11_leave_11

set_option maxHeartbeats 4000000 in
set_option maxRecDepth 100000 in
theorem k_Wfits_1 (l : Launch) (D : va_G) (k : KT) (A : Nat → Prop) (a : Nat → Nat) (z : SK) (G : GS) (p0 : Int32) (hv_0_0 : G.2.2 0 0 = 1) (hv_0_1 : G.2.2 0 1 = 2) (hv_6_4 : G.2.2 6 4 = 1) : Met l yX11_fits (WS yX11_fits cX11_fits 4 (some .int)) ({ frames := 6, cells := 0, slots := 0, locals := 143 }) (va_Pc [.ref (a 0), .int p0] (cW D k A a z G)) (va_Qi (fun (r : Int32) (G1 : GS) => Bd G1 ∧ Fr [37, 38, 39] [(6, 3)] G G1) (fun (G1 : GS) t => Wd D k A a G1 t.heap) A) 0 0 A := by
  refine Met.ofW (cc := cX11_fits) (maxL := 4) (ret := (some .int)) (by decide) rfl ?_
  intro p e s m args below meth c s₁ B hml hv
  obtain ⟨rfl, hW, hB_G, hK, hZ⟩ := hv
  have hx := B.exec
  have hb := B.bytes
  have hr := B.returns
  have hts := atoms_spec (ws := WS yX11_fits cX11_fits 4 (some .int)) B.pre
  have hgd : ∀ w ∈ gd, w ∈ WS yX11_fits cX11_fits 4 (some .int) := fun w h => List.mem_cons_of_mem _ h
  have hg : ∀ w ∈ gd, w.before _ s = true := fun w h => hts w (hgd w h)
  have hown : s.vm.findClass RX11 = some m.cls := findClass_of_methodNamed B.named
  have hS : va_S A s.heap s.heap [] := va_S.rf
  have hF : Fr [37, 38, 39] [(6, 3)] G G := Fr.rf
  have hl := lv_entry ([.ref (a 0), .int p0]) (n := 4) (Nat.le_of_ble_eq_true rfl)
  rw [lg_entry_eq]
  generalize (lg_sl ([.ref (a 0), .int p0]) ++ List.replicate (4 - (lg_sl ([.ref (a 0), .int p0])).length) Slot.unset).toArray = ls at hl ⊢
  have hl : lv_has ls 4 [(0, .ref (a 0)), (1, .int p0)] := hl
  refine lv_iconst (v := 0) hx hb dX11_fits_0 (by decide) ?_
  refine lv_istore_n (lv' := [(2, .int 0), (0, .ref (a 0)), (1, .int p0)]) hx hb dX11_fits_1 rfl hl (by decide) rfl (fun ls hl => ?_)
  refine lv_iconst (v := 0) hx hb dX11_fits_2 (by decide) ?_
  refine lv_istore_n (lv' := [(3, .int 0), (2, .int 0), (0, .ref (a 0)), (1, .int p0)]) hx hb dX11_fits_3 rfl hl (by decide) rfl (fun ls hl => ?_)
  have qc_7 : (0 : Int32).toInt = 0 := rfl
  refine loop_N (Inv := fun n H locs ls => ∃ (G_1 : GS) (x_5 : Int32) (x_6 : Int32), (n : Int) = 6 - x_5.toInt ∧ (0 ≤ x_5.toInt ∧ x_5.toInt ≤ 6) ∧ (0 ≤ x_6.toInt ∧ x_6.toInt ≤ 63) ∧ Wd D k A a G_1 H ∧ Bd G_1 ∧ Fr [37, 38, 39] [(6, 3)] G G_1 ∧ Fr [37, 38, 39] [(6, 3)] G G_1 ∧ va_S A s.heap H locs ∧ lv_has ls 4 [(3, .int x_5), (2, .int x_6), (0, .ref (a 0)), (1, .int p0)]) (fun n_4 H locs ls ih_3 hI => ?_) (6 - 0 : Int).toNat ⟨G, 0, 0, (Int.toNat_of_nonneg (by omega)), ⟨by omega, by omega⟩, ⟨by omega, by omega⟩, hW, hB_G, hF, Fr.rf, hS, lv_sub hl [0, 1, 2, 3] rfl⟩
  obtain ⟨G_1, x_5, x_6, hn_10, f_8, f_9, hW, hB_G_1, hF, hq_2, hS, hl⟩ := hI
  refine lv_iload_n hx hb dX11_fits_4 rfl (lv_at hl 0 rfl) ?_
  refine lv_aload_n hx hb dX11_fits_5 rfl (lv_at hl 2 rfl) ?_
  refine S_getV (n := 1) (C := RX11) (T := TX11) (N := 13) hx hb hg iX11 hown hK hW kd_0 rfl 0 (by decide) (hg (Cond.fieldLink RX11 10 "SlabWalk" "paving" "LSlabWalk$Paving;") m570) (fun _ h9 => h9) rfl (((hq_2.r 0 0 (by decide) (by decide))).trans (hv_0_0)) dX11_fits_6 ?_
  have b_11 : 0 ≤ (G.1 1 11).toInt ∧ (G.1 1 11).toInt ≤ 6 := hB_G.i 1 11 rfl rfl
  refine S_getI (v := (G.1 1 11)) (C := RX6) (T := TX6) (N := 17) hx hb hg iX6 hown hK hW kd_1 rfl 11 (by decide) (hg (Cond.fieldLink RX11 228 "SlabWalk$Paving" "rules" "I") m195) (fun _ h9 => h9) rfl (hq_2.i 1 11 (by decide) (by decide)) dX11_fits_9 ?_
  refine lv_icmp_ge (tgt := 40) hx hb dX11_fits_12 (by decide) (fun c_12 => ?_) (fun c_12 => ?_)
  · have c_12 : (G.1 1 11).toInt ≤ x_5.toInt := xI_le rfl rfl c_12
    refine lv_iload_n hx hb dX11_fits_40 rfl (lv_at hl 1 rfl) ?_
    exact W.iret (v := x_6) hx hb hr (fun t ht _ => ⟨⟨x_6, G_1, rfl, ⟨hB_G_1, hF⟩, wd_t ht hW⟩, hS.F ht⟩) hS.2.2 dX11_fits_41
  · have c_12 : x_5.toInt < (G.1 1 11).toInt := xI_nle rfl rfl c_12
    refine lv_iload_n hx hb dX11_fits_15 rfl (lv_at hl 1 rfl) ?_
    refine lv_aload_n hx hb dX11_fits_16 rfl (lv_at hl 2 rfl) ?_
    refine lv_iload_n hx hb dX11_fits_17 rfl (lv_at hl 0 rfl) ?_
    refine lv_iload_n hx hb dX11_fits_18 rfl (lv_at hl 3 rfl) ?_
    refine S_calli (va_runV (As := [.int x_5, .int p0]) (rest := [.int x_6]) ⟨hx, hb, hml, hown, hts⟩ (k_wFitsAll_1 l D k A a z G_1 x_5 p0 (((hq_2.r 0 0 (by decide) (by decide))).trans (hv_0_0)) (((hq_2.r 0 1 (by decide) (by decide))).trans (hv_0_1)) (((hq_2.r 6 4 (by decide) (by decide))).trans (hv_6_4))) (cwV 2 hts (gd_V hgd m1267 m1269 m45 m117 m1270) rfl rfl rfl (by decide +kernel) ⟨Nat.le_of_ble_eq_true rfl, Nat.le_of_ble_eq_true rfl⟩) (pre_V hW hB_G_1 hK hZ hS kd_0 rfl) rfl rfl hl.1 rfl (lv_room (Nat.le_of_ble_eq_true rfl)) dX11_fits_19 ⟨Nat.le_of_ble_eq_true rfl, Nat.le_of_ble_eq_true rfl⟩) hS (fun r_13 G_14 H locs hpo hW hS => ?_)
    obtain ⟨hB_G_14, hq_15, f_17⟩ := hpo
    have hF := hF.call hq_15 (by decide) (by decide)
    refine lv_if_eq (tgt := 31) hx hb dX11_fits_22 (by decide) (fun c_18 => ?_) (fun c_18 => ?_)
    · have c_18 : r_13.toInt = 0 := xI_eq rfl rfl c_18
      refine lv_iconst (v := 0) hx hb dX11_fits_31 (by decide) ?_
      refine lv_ior hx hb dX11_fits_32 ?_
      refine lv_topi (fun y_19 ey_19 => ?_)
      have ty_19 := or6 ey_19 ⟨by omega, by omega⟩ ⟨by omega, by omega⟩
      refine lv_istore_n (lv' := [(2, .int y_19), (3, .int x_5), (0, .ref (a 0)), (1, .int p0)]) hx hb dX11_fits_33 rfl hl (by decide) rfl (fun ls hl => ?_)
      obtain ⟨y_20, ey_20⟩ : ∃ q, q = x_5 + 1 := ⟨_, rfl⟩
      have ty_20 : y_20.toInt = x_5.toInt + 1 := xI_add rfl rfl ey_20 (by omega) (by omega)
      refine lv_iinc (v := y_20) (lv' := [(3, .int y_20), (2, .int y_19), (0, .ref (a 0)), (1, .int p0)]) hx hb dX11_fits_34 hl (k := 1) rfl (by rw [ey_20]; rfl) (by decide) rfl (fun ls hl => ?_)
      refine lv_goto (tgt := 4) hx hb dX11_fits_37 (by decide) ?_
      exact ih_3 (6 - y_20.toInt : Int).toNat (by omega) _ _ _ ⟨G_14, y_20, y_19, (Int.toNat_of_nonneg (by omega)), ⟨by omega, by omega⟩, ⟨by omega, by omega⟩, hW, hB_G_14, hF, ((Fr.rf.call hq_2 (by decide) (by decide)).call hq_15 (by decide) (by decide)), hS, lv_sub hl [0, 1, 2, 3] rfl⟩
    · have c_18 : r_13.toInt ≠ 0 := xI_ne rfl rfl c_18
      refine lv_iconst (v := 1) hx hb dX11_fits_25 (by decide) ?_
      refine lv_iload_n hx hb dX11_fits_26 rfl (lv_at hl 0 rfl) ?_
      refine lv_ishl hx hb dX11_fits_27 ?_
      refine lv_topi (fun y_21 ey_21 => ?_)
      have ty_21 := sh5 (Y := x_5.toInt) rfl ey_21 rfl (by omega) (by omega)
      refine lv_goto (tgt := 32) hx hb dX11_fits_28 (by decide) ?_
      refine lv_ior hx hb dX11_fits_32 ?_
      refine lv_topi (fun y_22 ey_22 => ?_)
      have ty_22 := or6 ey_22 ⟨by omega, by omega⟩ ⟨by omega, by omega⟩
      refine lv_istore_n (lv' := [(2, .int y_22), (3, .int x_5), (0, .ref (a 0)), (1, .int p0)]) hx hb dX11_fits_33 rfl hl (by decide) rfl (fun ls hl => ?_)
      obtain ⟨y_23, ey_23⟩ : ∃ q, q = x_5 + 1 := ⟨_, rfl⟩
      have ty_23 : y_23.toInt = x_5.toInt + 1 := xI_add rfl rfl ey_23 (by omega) (by omega)
      refine lv_iinc (v := y_23) (lv' := [(3, .int y_23), (2, .int y_22), (0, .ref (a 0)), (1, .int p0)]) hx hb dX11_fits_34 hl (k := 1) rfl (by rw [ey_23]; rfl) (by decide) rfl (fun ls hl => ?_)
      refine lv_goto (tgt := 4) hx hb dX11_fits_37 (by decide) ?_
      exact ih_3 (6 - y_23.toInt : Int).toNat (by omega) _ _ _ ⟨G_14, y_23, y_22, (Int.toNat_of_nonneg (by omega)), ⟨by omega, by omega⟩, ⟨by omega, by omega⟩, hW, hB_G_14, hF, ((Fr.rf.call hq_2 (by decide) (by decide)).call hq_15 (by decide) (by decide)), hS, lv_sub hl [0, 1, 2, 3] rfl⟩

set_option maxHeartbeats 4000000 in
set_option maxRecDepth 100000 in
theorem k_Wchance_1 (l : Launch) (D : va_G) (k : KT) (A : Nat → Prop) (a : Nat → Nat) (z : SK) (G : GS) (p0 : Int32) (p1 : Int32) (p2 : Int32) (hv_0_0 : G.2.2 0 0 = 1) (hv_0_1 : G.2.2 0 1 = 2) (hv_6_4 : G.2.2 6 4 = 1) : Met l yX11_chance (WS yX11_chance cX11_chance 10 (some .long)) ({ frames := 6, cells := 0, slots := 0, locals := 145 }) (va_Pc [.ref (a 0), .int p0, .int p1, .int p2] (cW D k A a z G)) (va_Ql (fun (r : Int64) (G1 : GS) => Bd G1 ∧ Fr [37, 38, 39] [(6, 3)] G G1) (fun (G1 : GS) t => Wd D k A a G1 t.heap) A) 0 0 A := by
  refine Met.ofW (cc := cX11_chance) (maxL := 10) (ret := (some .long)) (by decide) rfl ?_
  intro p e s m args below meth c s₁ B hml hv
  obtain ⟨rfl, hW, hB_G, hK, hZ⟩ := hv
  have hx := B.exec
  have hb := B.bytes
  have hr := B.returns
  have hts := atoms_spec (ws := WS yX11_chance cX11_chance 10 (some .long)) B.pre
  have hgd : ∀ w ∈ gd, w ∈ WS yX11_chance cX11_chance 10 (some .long) := fun w h => List.mem_cons_of_mem _ h
  have hg : ∀ w ∈ gd, w.before _ s = true := fun w h => hts w (hgd w h)
  have hown : s.vm.findClass RX11 = some m.cls := findClass_of_methodNamed B.named
  have hS : va_S A s.heap s.heap [] := va_S.rf
  have hF : Fr [37, 38, 39] [(6, 3)] G G := Fr.rf
  have hl := lv_entry ([.ref (a 0), .int p0, .int p1, .int p2]) (n := 10) (Nat.le_of_ble_eq_true rfl)
  rw [lg_entry_eq]
  generalize (lg_sl ([.ref (a 0), .int p0, .int p1, .int p2]) ++ List.replicate (10 - (lg_sl ([.ref (a 0), .int p0, .int p1, .int p2])).length) Slot.unset).toArray = ls at hl ⊢
  have hl : lv_has ls 10 [(0, .ref (a 0)), (1, .int p0), (2, .int p1), (3, .int p2)] := hl
  refine lv_aload_n hx hb dX11_chance_0 rfl (lv_at hl 0 rfl) ?_
  refine S_getV (n := 1) (C := RX11) (T := TX11) (N := 13) hx hb hg iX11 hown hK hW kd_0 rfl 0 (by decide) (hg (Cond.fieldLink RX11 10 "SlabWalk" "paving" "LSlabWalk$Paving;") m570) (fun _ h9 => h9) rfl hv_0_0 dX11_chance_1 ?_
  refine lv_iload_n hx hb dX11_chance_4 rfl (lv_at hl 1 rfl) ?_
  refine S_calli (va_runV (As := [.int p0]) (rest := []) ⟨hx, hb, hml, hown, hts⟩ (k_hasRule_1 l D k A a z G p0 ) (cwV 1 hts (gd_V hgd m1206 m1207 m1208 m118 m1209) rfl rfl rfl (by decide +kernel) ⟨Nat.le_of_ble_eq_true rfl, Nat.le_of_ble_eq_true rfl⟩) (pre_V hW hB_G hK hZ hS kd_1 rfl) rfl rfl hl.1 rfl (lv_room (Nat.le_of_ble_eq_true rfl)) dX11_chance_5 ⟨Nat.le_of_ble_eq_true rfl, Nat.le_of_ble_eq_true rfl⟩) hS (fun r_1 G_2 H locs hpo hW hS => ?_)
  obtain ⟨hB_G_2, hq_3, f_5, hp_4⟩ := hpo
  have hF := hF.call hq_3 (by decide) (by decide)
  refine lv_if_eq (tgt := 20) hx hb dX11_chance_8 (by decide) (fun c_6 => ?_) (fun c_6 => ?_)
  · have c_6 : r_1.toInt = 0 := xI_eq rfl rfl c_6
    refine lv_ldc2 (v := (-1)) hx hb hown (hg (Cond.constantLong RX11 165 (-1)) m1018) dX11_chance_20 ?_
    exact W.lret (v := (-1)) hx hb hr (fun t ht _ => ⟨⟨(-1), G_2, rfl, ⟨hB_G_2, hF⟩, wd_t ht hW⟩, hS.F ht⟩) hS.2.2 dX11_chance_23
  · have c_6 : r_1.toInt ≠ 0 := xI_ne rfl rfl c_6
    refine lv_iload_n hx hb dX11_chance_11 rfl (lv_at hl 2 rfl) ?_
    refine lv_if_lt (tgt := 20) hx hb dX11_chance_12 (by decide) (fun c_7 => ?_) (fun c_7 => ?_)
    · have c_7 : p1.toInt < 0 := xI_lt rfl rfl c_7
      refine lv_ldc2 (v := (-1)) hx hb hown (hg (Cond.constantLong RX11 165 (-1)) m1018) dX11_chance_20 ?_
      exact W.lret (v := (-1)) hx hb hr (fun t ht _ => ⟨⟨(-1), G_2, rfl, ⟨hB_G_2, hF⟩, wd_t ht hW⟩, hS.F ht⟩) hS.2.2 dX11_chance_23
    · have c_7 : 0 ≤ p1.toInt := xI_nlt rfl rfl c_7
      refine lv_iload_n hx hb dX11_chance_15 rfl (lv_at hl 2 rfl) ?_
      refine lv_iconst (v := 1) hx hb dX11_chance_16 (by decide) ?_
      refine lv_icmp_le (tgt := 24) hx hb dX11_chance_17 (by decide) (fun c_8 => ?_) (fun c_8 => ?_)
      · have c_8 : p1.toInt ≤ 1 := xI_le rfl rfl c_8
        refine lv_lconst (v := 1) hx hb dX11_chance_24 (by decide) ?_
        refine lv_lstore (lv' := [(4, .long 1), (0, .ref (a 0)), (1, .int p0), (2, .int p1), (3, .int p2)]) hx hb dX11_chance_25 hl (by decide) rfl (fun ls hl => ?_)
        refine lv_lconst (v := 1) hx hb dX11_chance_27 (by decide) ?_
        refine lv_lstore (lv' := [(6, .long 1), (4, .long 1), (0, .ref (a 0)), (1, .int p0), (2, .int p1), (3, .int p2)]) hx hb dX11_chance_28 hl (by decide) rfl (fun ls hl => ?_)
        refine lv_iconst (v := 0) hx hb dX11_chance_30 (by decide) ?_
        refine lv_istore (lv' := [(8, .int 0), (6, .long 1), (4, .long 1), (0, .ref (a 0)), (1, .int p0), (2, .int p1), (3, .int p2)]) hx hb dX11_chance_31 hl (by decide) rfl (fun ls hl => ?_)
        have qc_16 : (0 : Int32).toInt = 0 := rfl
        refine loop_N (Inv := fun n H locs ls => ∃ (G_9 : GS) (x_13 : Int32) (x_14 : Int64) (x_15 : Int64), (n : Int) = 20 - x_13.toInt ∧ (0 ≤ x_13.toInt ∧ x_13.toInt ≤ 20) ∧ Wd D k A a G_9 H ∧ Bd G_9 ∧ Fr [37, 38, 39] [(6, 3)] G G_9 ∧ Fr [37, 38, 39] [(6, 3)] G_2 G_9 ∧ va_S A s.heap H locs ∧ lv_has ls 10 [(8, .int x_13), (6, .long x_14), (4, .long x_15), (0, .ref (a 0)), (1, .int p0), (2, .int p1), (3, .int p2)]) (fun n_12 H locs ls ih_11 hI => ?_) (20 - 0 : Int).toNat ⟨G_2, 0, 1, 1, (Int.toNat_of_nonneg (by omega)), ⟨by omega, by omega⟩, hW, hB_G_2, hF, Fr.rf, hS, lv_sub hl [0, 1, 2, 3, 4, 5, 6] rfl⟩
        obtain ⟨G_9, x_13, x_14, x_15, hn_18, f_17, hW, hB_G_9, hF, hq_10, hS, hl⟩ := hI
        refine lv_iload hx hb dX11_chance_33 (lv_at hl 0 rfl) ?_
        refine lv_aload_n hx hb dX11_chance_35 rfl (lv_at hl 3 rfl) ?_
        refine S_getR (n := 31) (C := RX11) (T := TX11) (N := 13) hx hb hg iX11 hown hK hW kd_0 rfl 9 (by decide) (hg (Cond.fieldLink RX11 72 "SlabWalk" "sights" "LSlabWalk$Sights;") m579) (fun _ h9 => h9) rfl dX11_chance_36 ?_
        have b_19 : 0 ≤ (G.1 31 5).toInt ∧ (G.1 31 5).toInt ≤ 20 := hB_G.i 31 5 rfl rfl
        refine S_getI (v := (G.1 31 5)) (C := RX8) (T := TX8) (N := 7) hx hb hg iX8 hown hK hW kd_31 rfl 5 (by decide) (hg (Cond.fieldLink RX11 285 "SlabWalk$Sights" "count" "I") m529) (fun _ h9 => h9) rfl ((hq_10.i 31 5 (by decide) (by decide)).trans (hq_3.i 31 5 (by decide) (by decide))) dX11_chance_39 ?_
        refine lv_icmp_ge (tgt := 92) hx hb dX11_chance_42 (by decide) (fun c_20 => ?_) (fun c_20 => ?_)
        · have c_20 : (G.1 31 5).toInt ≤ x_13.toInt := xI_le rfl rfl c_20
          refine lv_lload hx hb dX11_chance_92 (lv_at hl 1 rfl) ?_
          refine lv_lload hx hb dX11_chance_94 (lv_at hl 2 rfl) ?_
          refine S_calll (va_runS (As := [.long x_14, .long x_15]) (rest := []) ⟨hx, hb, hml, hown, hts⟩ (k_gcd l D k A a z G_9 x_14 x_15 ) (va_cwS 2 hts (gd_S hgd m1079 m1080 m117 m1081) rfl rfl rfl (by decide +kernel) ⟨Nat.le_of_ble_eq_true rfl, Nat.le_of_ble_eq_true rfl⟩) (pre_S hW hB_G_9 hK hZ hS) rfl rfl hl.1 rfl (lv_room (Nat.le_of_ble_eq_true rfl)) dX11_chance_96 ⟨Nat.le_of_ble_eq_true rfl, Nat.le_of_ble_eq_true rfl⟩) hS (fun r_21 G_22 H locs hpo hW hS => ?_)
          obtain ⟨hB_G_22, hq_23⟩ := hpo
          have hF := hF.call hq_23 (by decide) (by decide)
          refine lv_lstore (lv' := [(8, .long r_21), (6, .long x_14), (4, .long x_15), (0, .ref (a 0)), (1, .int p0), (2, .int p1), (3, .int p2)]) hx hb dX11_chance_99 hl (by decide) rfl (fun ls hl => ?_)
          refine lv_lload hx hb dX11_chance_101 (lv_at hl 0 rfl) ?_
          refine lv_lconst (v := 0) hx hb dX11_chance_103 (by decide) ?_
          refine W.lcmp hx hb dX11_chance_104 ?_
          refine lv_topi (fun y_25 ey_25 => ?_)
          have ty_25 := lcmp_rng ey_25
          refine lv_if_ne (tgt := 112) hx hb dX11_chance_105 (by decide) (fun c_26 => ?_) (fun c_26 => ?_)
          · have c_26 : y_25.toInt ≠ 0 := xI_ne rfl rfl c_26
            refine lv_iload_n hx hb dX11_chance_112 rfl (lv_at hl 5 rfl) ?_
            refine lv_if_ne (tgt := 124) hx hb dX11_chance_113 (by decide) (fun c_27 => ?_) (fun c_27 => ?_)
            · have c_27 : p1.toInt ≠ 0 := xI_ne rfl rfl c_27
              refine lv_lload hx hb dX11_chance_124 (lv_at hl 1 rfl) ?_
              refine lv_lload hx hb dX11_chance_126 (lv_at hl 0 rfl) ?_
              refine lv_ldiv hx hb dX11_chance_128 (lc_ne ey_25 (by omega)) ?_
              refine lv_topl (fun y_28 ey_28 => ?_)
              exact W.lret (v := y_28) hx hb hr (fun t ht _ => ⟨⟨y_28, G_22, rfl, ⟨hB_G_22, hF⟩, wd_t ht hW⟩, hS.F ht⟩) hS.2.2 dX11_chance_129
            · have c_27 : p1.toInt = 0 := xI_eq rfl rfl c_27
              refine lv_lload hx hb dX11_chance_116 (lv_at hl 2 rfl) ?_
              refine lv_lload hx hb dX11_chance_118 (lv_at hl 0 rfl) ?_
              refine lv_ldiv hx hb dX11_chance_120 (lc_ne ey_25 (by omega)) ?_
              refine lv_topl (fun y_29 ey_29 => ?_)
              refine lv_goto (tgt := 129) hx hb dX11_chance_121 (by decide) ?_
              exact W.lret (v := y_29) hx hb hr (fun t ht _ => ⟨⟨y_29, G_22, rfl, ⟨hB_G_22, hF⟩, wd_t ht hW⟩, hS.F ht⟩) hS.2.2 dX11_chance_129
          · have c_26 : y_25.toInt = 0 := xI_eq rfl rfl c_26
            refine lv_ldc2 (v := (-1)) hx hb hown (hg (Cond.constantLong RX11 165 (-1)) m1018) dX11_chance_108 ?_
            exact W.lret (v := (-1)) hx hb hr (fun t ht _ => ⟨⟨(-1), G_22, rfl, ⟨hB_G_22, hF⟩, wd_t ht hW⟩, hS.F ht⟩) hS.2.2 dX11_chance_111
        · have c_20 : x_13.toInt < (G.1 31 5).toInt := xI_nle rfl rfl c_20
          refine lv_aload_n hx hb dX11_chance_45 rfl (lv_at hl 3 rfl) ?_
          refine S_getR (n := 31) (C := RX11) (T := TX11) (N := 13) hx hb hg iX11 hown hK hW kd_0 rfl 9 (by decide) (hg (Cond.fieldLink RX11 72 "SlabWalk" "sights" "LSlabWalk$Sights;") m579) (fun _ h9 => h9) rfl dX11_chance_46 ?_
          refine lv_iload hx hb dX11_chance_49 (lv_at hl 0 rfl) ?_
          refine lv_iload_n hx hb dX11_chance_51 rfl (lv_at hl 6 rfl) ?_
          refine S_calli (va_runV (As := [.int x_13, .int p2]) (rest := []) ⟨hx, hb, hml, hown, hts⟩ (k_sCounts l D k A a z G_9 x_13 p2 ⟨by omega, by omega⟩) (cwV 2 hts (gd_V hgd m1271 m1272 m1273 m128 m1274) rfl rfl rfl (by decide +kernel) ⟨Nat.le_of_ble_eq_true rfl, Nat.le_of_ble_eq_true rfl⟩) (pre_V hW hB_G_9 hK hZ hS kd_31 rfl) rfl rfl hl.1 rfl (lv_room (Nat.le_of_ble_eq_true rfl)) dX11_chance_52 ⟨Nat.le_of_ble_eq_true rfl, Nat.le_of_ble_eq_true rfl⟩) hS (fun r_30 G_31 H locs hpo hW hS => ?_)
          obtain ⟨hB_G_31, hq_32, f_34⟩ := hpo
          have hF := hF.call hq_32 (by decide) (by decide)
          refine lv_if_eq (tgt := 86) hx hb dX11_chance_55 (by decide) (fun c_35 => ?_) (fun c_35 => ?_)
          · have c_35 : r_30.toInt = 0 := xI_eq rfl rfl c_35
            obtain ⟨y_36, ey_36⟩ : ∃ q, q = x_13 + 1 := ⟨_, rfl⟩
            have ty_36 : y_36.toInt = x_13.toInt + 1 := xI_add rfl rfl ey_36 (by omega) (by omega)
            refine lv_iinc (v := y_36) (lv' := [(8, .int y_36), (6, .long x_14), (4, .long x_15), (0, .ref (a 0)), (1, .int p0), (2, .int p1), (3, .int p2)]) hx hb dX11_chance_86 hl (k := 0) rfl (by rw [ey_36]; rfl) (by decide) rfl (fun ls hl => ?_)
            refine lv_goto (tgt := 33) hx hb dX11_chance_89 (by decide) ?_
            exact ih_11 (20 - y_36.toInt : Int).toNat (by omega) _ _ _ ⟨G_31, y_36, x_14, x_15, (Int.toNat_of_nonneg (by omega)), ⟨by omega, by omega⟩, hW, hB_G_31, hF, ((Fr.rf.call hq_10 (by decide) (by decide)).call hq_32 (by decide) (by decide)), hS, lv_sub hl [0, 1, 2, 3, 4, 5, 6] rfl⟩
          · have c_35 : r_30.toInt ≠ 0 := xI_ne rfl rfl c_35
            refine lv_lload hx hb dX11_chance_58 (lv_at hl 2 rfl) ?_
            refine lv_aload_n hx hb dX11_chance_60 rfl (lv_at hl 3 rfl) ?_
            refine lv_iload hx hb dX11_chance_61 (lv_at hl 0 rfl) ?_
            refine lv_iload_n hx hb dX11_chance_63 rfl (lv_at hl 4 rfl) ?_
            refine lv_iconst (v := 1) hx hb dX11_chance_64 (by decide) ?_
            refine S_calli (va_runV (As := [.int x_13, .int p0, .int 1]) (rest := [.long x_15]) ⟨hx, hb, hml, hown, hts⟩ (k_wNear_1 l D k A a z G_31 x_13 p0 1 ⟨by omega, by omega⟩ ⟨by decide, by decide⟩ ((((hq_32.r 0 0 (by decide) (by decide)).trans ((hq_10.r 0 0 (by decide) (by decide)).trans (hq_3.r 0 0 (by decide) (by decide))))).trans (hv_0_0)) ((((hq_32.r 0 1 (by decide) (by decide)).trans ((hq_10.r 0 1 (by decide) (by decide)).trans (hq_3.r 0 1 (by decide) (by decide))))).trans (hv_0_1)) ((((hq_32.r 6 4 (by decide) (by decide)).trans ((hq_10.r 6 4 (by decide) (by decide)).trans (hq_3.r 6 4 (by decide) (by decide))))).trans (hv_6_4))) (cwV 3 hts (gd_V hgd m1283 m1285 m47 m117 m1286) rfl rfl rfl (by decide +kernel) ⟨Nat.le_of_ble_eq_true rfl, Nat.le_of_ble_eq_true rfl⟩) (pre_V hW hB_G_31 hK hZ hS kd_0 rfl) rfl rfl hl.1 rfl (lv_room (Nat.le_of_ble_eq_true rfl)) dX11_chance_65 ⟨Nat.le_of_ble_eq_true rfl, Nat.le_of_ble_eq_true rfl⟩) hS (fun r_37 G_38 H locs hpo hW hS => ?_)
            obtain ⟨hB_G_38, hq_39⟩ := hpo
            have hF := hF.call hq_39 (by decide) (by decide)
            refine lv_i2l hx hb dX11_chance_68 rfl ?_
            refine lv_topl (fun y_41 ey_41 => ?_)
            refine lv_lmul hx hb dX11_chance_69 ?_
            refine lv_topl (fun y_42 ey_42 => ?_)
            refine lv_lstore (lv' := [(4, .long y_42), (8, .int x_13), (6, .long x_14), (0, .ref (a 0)), (1, .int p0), (2, .int p1), (3, .int p2)]) hx hb dX11_chance_70 hl (by decide) rfl (fun ls hl => ?_)
            refine lv_lload hx hb dX11_chance_72 (lv_at hl 2 rfl) ?_
            refine lv_aload_n hx hb dX11_chance_74 rfl (lv_at hl 3 rfl) ?_
            refine lv_iload hx hb dX11_chance_75 (lv_at hl 1 rfl) ?_
            refine lv_iload_n hx hb dX11_chance_77 rfl (lv_at hl 4 rfl) ?_
            refine lv_iconst (v := 0) hx hb dX11_chance_78 (by decide) ?_
            refine S_calli (va_runV (As := [.int x_13, .int p0, .int 0]) (rest := [.long x_14]) ⟨hx, hb, hml, hown, hts⟩ (k_wNear_1 l D k A a z G_38 x_13 p0 0 ⟨by omega, by omega⟩ ⟨by decide, by decide⟩ ((((hq_39.r 0 0 (by decide) (by decide)).trans ((hq_32.r 0 0 (by decide) (by decide)).trans ((hq_10.r 0 0 (by decide) (by decide)).trans (hq_3.r 0 0 (by decide) (by decide)))))).trans (hv_0_0)) ((((hq_39.r 0 1 (by decide) (by decide)).trans ((hq_32.r 0 1 (by decide) (by decide)).trans ((hq_10.r 0 1 (by decide) (by decide)).trans (hq_3.r 0 1 (by decide) (by decide)))))).trans (hv_0_1)) ((((hq_39.r 6 4 (by decide) (by decide)).trans ((hq_32.r 6 4 (by decide) (by decide)).trans ((hq_10.r 6 4 (by decide) (by decide)).trans (hq_3.r 6 4 (by decide) (by decide)))))).trans (hv_6_4))) (cwV 3 hts (gd_V hgd m1283 m1285 m47 m117 m1286) rfl rfl rfl (by decide +kernel) ⟨Nat.le_of_ble_eq_true rfl, Nat.le_of_ble_eq_true rfl⟩) (pre_V hW hB_G_38 hK hZ hS kd_0 rfl) rfl rfl hl.1 rfl (lv_room (Nat.le_of_ble_eq_true rfl)) dX11_chance_79 ⟨Nat.le_of_ble_eq_true rfl, Nat.le_of_ble_eq_true rfl⟩) hS (fun r_43 G_44 H locs hpo hW hS => ?_)
            obtain ⟨hB_G_44, hq_45⟩ := hpo
            have hF := hF.call hq_45 (by decide) (by decide)
            refine lv_i2l hx hb dX11_chance_82 rfl ?_
            refine lv_topl (fun y_47 ey_47 => ?_)
            refine lv_lmul hx hb dX11_chance_83 ?_
            refine lv_topl (fun y_48 ey_48 => ?_)
            refine lv_lstore (lv' := [(6, .long y_48), (4, .long y_42), (8, .int x_13), (0, .ref (a 0)), (1, .int p0), (2, .int p1), (3, .int p2)]) hx hb dX11_chance_84 hl (by decide) rfl (fun ls hl => ?_)
            obtain ⟨y_49, ey_49⟩ : ∃ q, q = x_13 + 1 := ⟨_, rfl⟩
            have ty_49 : y_49.toInt = x_13.toInt + 1 := xI_add rfl rfl ey_49 (by omega) (by omega)
            refine lv_iinc (v := y_49) (lv' := [(8, .int y_49), (6, .long y_48), (4, .long y_42), (0, .ref (a 0)), (1, .int p0), (2, .int p1), (3, .int p2)]) hx hb dX11_chance_86 hl (k := 2) rfl (by rw [ey_49]; rfl) (by decide) rfl (fun ls hl => ?_)
            refine lv_goto (tgt := 33) hx hb dX11_chance_89 (by decide) ?_
            exact ih_11 (20 - y_49.toInt : Int).toNat (by omega) _ _ _ ⟨G_44, y_49, y_48, y_42, (Int.toNat_of_nonneg (by omega)), ⟨by omega, by omega⟩, hW, hB_G_44, hF, ((((Fr.rf.call hq_10 (by decide) (by decide)).call hq_32 (by decide) (by decide)).call hq_39 (by decide) (by decide)).call hq_45 (by decide) (by decide)), hS, lv_sub hl [0, 1, 2, 3, 4, 5, 6] rfl⟩
      · have c_8 : 1 < p1.toInt := xI_nle rfl rfl c_8
        refine lv_ldc2 (v := (-1)) hx hb hown (hg (Cond.constantLong RX11 165 (-1)) m1018) dX11_chance_20 ?_
        exact W.lret (v := (-1)) hx hb hr (fun t ht _ => ⟨⟨(-1), G_2, rfl, ⟨hB_G_2, hF⟩, wd_t ht hW⟩, hS.F ht⟩) hS.2.2 dX11_chance_23
