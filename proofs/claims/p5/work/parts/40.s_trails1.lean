theorem m33 : Cond.selects RX10 yX10_findFeetFrom yX10_findFeetFrom ∈ gd := gd_mem 33 (by decide +kernel) (by decide +kernel)
theorem m35 : Cond.selects RX10 yX10_firstHeel yX10_firstHeel ∈ gd := gd_mem 35 (by decide +kernel) (by decide +kernel)
theorem m123 : Cond.initialized RX0 ∈ gd := gd_mem 123 (by decide +kernel) (by decide +kernel)
theorem m124 : Cond.initialized RX10 ∈ gd := gd_mem 124 (by decide +kernel) (by decide +kernel)
theorem m373 : Cond.fieldLink RX10 55 "SlabWalk$Course" "lawful" "[Z" ∈ gd := gd_mem 373 (by decide +kernel) (by decide +kernel)
theorem m378 : Cond.fieldLink RX10 61 "SlabWalk$Course" "least" "I" ∈ gd := gd_mem 378 (by decide +kernel) (by decide +kernel)
theorem m383 : Cond.fieldLink RX10 64 "SlabWalk$Course" "most" "I" ∈ gd := gd_mem 383 (by decide +kernel) (by decide +kernel)
theorem m386 : Cond.fieldLink RX10 71 "SlabWalk$Course" "leap" "I" ∈ gd := gd_mem 386 (by decide +kernel) (by decide +kernel)
theorem m388 : Cond.fieldLink RX10 34 "SlabWalk$Course" "last" "I" ∈ gd := gd_mem 388 (by decide +kernel) (by decide +kernel)
theorem m394 : Cond.fieldLink RX10 58 "SlabWalk$Course" "end" "I" ∈ gd := gd_mem 394 (by decide +kernel) (by decide +kernel)
theorem m440 : Cond.fieldLink RX10 13 "SlabWalk$Trails" "rows" "[[I" ∈ gd := gd_mem 440 (by decide +kernel) (by decide +kernel)
theorem m993 : Cond.methodLink RX10 40 yX10_findFeetFrom ∈ gd := gd_mem 993 (by decide +kernel) (by decide +kernel)
theorem m995 : Cond.instanceMethod yX10_findFeetFrom ∈ gd := gd_mem 995 (by decide +kernel) (by decide +kernel)
theorem m996 : Cond.code yX10_findFeetFrom cX10_findFeetFrom 8 none ∈ gd := gd_mem 996 (by decide +kernel) (by decide +kernel)
theorem m998 : Cond.methodLink RX10 67 yX10_leastOf ∈ gd := gd_mem 998 (by decide +kernel) (by decide +kernel)
theorem m999 : Cond.static yX10_leastOf ∈ gd := gd_mem 999 (by decide +kernel) (by decide +kernel)
theorem m1000 : Cond.code yX10_leastOf cX10_leastOf 5 (some .int) ∈ gd := gd_mem 1000 (by decide +kernel) (by decide +kernel)
theorem m1002 : Cond.methodLink RX10 45 yX0_lastFirst ∈ gd := gd_mem 1002 (by decide +kernel) (by decide +kernel)
theorem m1003 : Cond.instanceMethod yX0_lastFirst ∈ gd := gd_mem 1003 (by decide +kernel) (by decide +kernel)
theorem m1004 : Cond.selects RX0 yX0_lastFirst yX0_lastFirst ∈ gd := gd_mem 1004 (by decide +kernel) (by decide +kernel)
theorem m1005 : Cond.code yX0_lastFirst cX0_lastFirst 1 (some .int) ∈ gd := gd_mem 1005 (by decide +kernel) (by decide +kernel)
theorem m1011 : Cond.methodLink RX10 74 yX10_rowOf ∈ gd := gd_mem 1011 (by decide +kernel) (by decide +kernel)
theorem m1012 : Cond.static yX10_rowOf ∈ gd := gd_mem 1012 (by decide +kernel) (by decide +kernel)
theorem m1013 : Cond.code yX10_rowOf cX10_rowOf 2 (some .int) ∈ gd := gd_mem 1013 (by decide +kernel) (by decide +kernel)
theorem m1045 : Cond.methodLink RX10 78 yX10_firstHeel ∈ gd := gd_mem 1045 (by decide +kernel) (by decide +kernel)
theorem m1047 : Cond.instanceMethod yX10_firstHeel ∈ gd := gd_mem 1047 (by decide +kernel) (by decide +kernel)
theorem m1048 : Cond.code yX10_firstHeel cX10_firstHeel 7 (some .int) ∈ gd := gd_mem 1048 (by decide +kernel) (by decide +kernel)
theorem dX10_comesEvenly_0 : decode cX10_comesEvenly 0 = .ok (.aload_n 0, 1) := by decide +kernel
theorem dX10_comesEvenly_1 : decode cX10_comesEvenly 1 = .ok (.aload_n 1, 1) := by decide +kernel
theorem dX10_comesEvenly_2 : decode cX10_comesEvenly 2 = .ok (.iload_n 2, 1) := by decide +kernel
theorem dX10_comesEvenly_3 : decode cX10_comesEvenly 3 = .ok (.iload_n 2, 1) := by decide +kernel
theorem dX10_comesEvenly_4 : decode cX10_comesEvenly 4 = .ok (.invokevirtual 78, 3) := by decide +kernel
theorem dX10_comesEvenly_7 : decode cX10_comesEvenly 7 = .ok (.aload_n 1, 1) := by decide +kernel
theorem dX10_comesEvenly_8 : decode cX10_comesEvenly 8 = .ok (.getfield 64, 3) := by decide +kernel
theorem dX10_comesEvenly_11 : decode cX10_comesEvenly 11 = .ok (.if_icmp .ge 7, 3) := by decide +kernel
theorem dX10_comesEvenly_14 : decode cX10_comesEvenly 14 = .ok (.iconst 1, 1) := by decide +kernel
theorem dX10_comesEvenly_15 : decode cX10_comesEvenly 15 = .ok (.goto 4, 3) := by decide +kernel
theorem dX10_comesEvenly_18 : decode cX10_comesEvenly 18 = .ok (.iconst 0, 1) := by decide +kernel
theorem dX10_comesEvenly_19 : decode cX10_comesEvenly 19 = .ok (.ireturn, 1) := by decide +kernel
theorem dX10_fewestFeet_0 : decode cX10_fewestFeet 0 = .ok (.aload_n 1, 1) := by decide +kernel
theorem dX10_fewestFeet_1 : decode cX10_fewestFeet 1 = .ok (.getfield 34, 3) := by decide +kernel
theorem dX10_fewestFeet_4 : decode cX10_fewestFeet 4 = .ok (.istore_n 3, 1) := by decide +kernel
theorem dX10_fewestFeet_5 : decode cX10_fewestFeet 5 = .ok (.iload_n 3, 1) := by decide +kernel
theorem dX10_fewestFeet_6 : decode cX10_fewestFeet 6 = .ok (.ifCond .lt 32, 3) := by decide +kernel
theorem dX10_fewestFeet_9 : decode cX10_fewestFeet 9 = .ok (.iconst 0, 1) := by decide +kernel
theorem dX10_fewestFeet_10 : decode cX10_fewestFeet 10 = .ok (.istore 4, 2) := by decide +kernel
theorem dX10_fewestFeet_12 : decode cX10_fewestFeet 12 = .ok (.iload 4, 2) := by decide +kernel
theorem dX10_fewestFeet_14 : decode cX10_fewestFeet 14 = .ok (.iconst 2, 1) := by decide +kernel
theorem dX10_fewestFeet_15 : decode cX10_fewestFeet 15 = .ok (.if_icmp .ge 17, 3) := by decide +kernel
theorem dX10_fewestFeet_18 : decode cX10_fewestFeet 18 = .ok (.aload_n 0, 1) := by decide +kernel
theorem dX10_fewestFeet_19 : decode cX10_fewestFeet 19 = .ok (.aload_n 1, 1) := by decide +kernel
theorem dX10_fewestFeet_20 : decode cX10_fewestFeet 20 = .ok (.iload_n 3, 1) := by decide +kernel
theorem dX10_fewestFeet_21 : decode cX10_fewestFeet 21 = .ok (.iload 4, 2) := by decide +kernel
theorem dX10_fewestFeet_23 : decode cX10_fewestFeet 23 = .ok (.invokevirtual 40, 3) := by decide +kernel
theorem dX10_fewestFeet_26 : decode cX10_fewestFeet 26 = .ok (.iinc 4 1, 3) := by decide +kernel
theorem dX10_fewestFeet_29 : decode cX10_fewestFeet 29 = .ok (.goto (-17), 3) := by decide +kernel
theorem dX10_fewestFeet_32 : decode cX10_fewestFeet 32 = .ok (.iinc 3 (-1), 3) := by decide +kernel
theorem dX10_fewestFeet_35 : decode cX10_fewestFeet 35 = .ok (.goto (-30), 3) := by decide +kernel
theorem dX10_fewestFeet_38 : decode cX10_fewestFeet 38 = .ok (.ldc 44, 2) := by decide +kernel
theorem dX10_fewestFeet_40 : decode cX10_fewestFeet 40 = .ok (.istore_n 3, 1) := by decide +kernel
theorem dX10_fewestFeet_41 : decode cX10_fewestFeet 41 = .ok (.iconst 0, 1) := by decide +kernel
theorem dX10_fewestFeet_42 : decode cX10_fewestFeet 42 = .ok (.istore 4, 2) := by decide +kernel
theorem dX10_fewestFeet_44 : decode cX10_fewestFeet 44 = .ok (.iload 4, 2) := by decide +kernel
theorem dX10_fewestFeet_46 : decode cX10_fewestFeet 46 = .ok (.aload_n 1, 1) := by decide +kernel
theorem dX10_fewestFeet_47 : decode cX10_fewestFeet 47 = .ok (.invokevirtual 45, 3) := by decide +kernel
theorem dX10_fewestFeet_50 : decode cX10_fewestFeet 50 = .ok (.if_icmp .gt 55, 3) := by decide +kernel
theorem dX10_fewestFeet_53 : decode cX10_fewestFeet 53 = .ok (.iload_n 2, 1) := by decide +kernel
theorem dX10_fewestFeet_54 : decode cX10_fewestFeet 54 = .ok (.iconst 2, 1) := by decide +kernel
theorem dX10_fewestFeet_55 : decode cX10_fewestFeet 55 = .ok (.if_icmp .ne 7, 3) := by decide +kernel
theorem dX10_fewestFeet_58 : decode cX10_fewestFeet 58 = .ok (.iload_n 3, 1) := by decide +kernel
theorem dX10_fewestFeet_59 : decode cX10_fewestFeet 59 = .ok (.goto 16, 3) := by decide +kernel
theorem dX10_fewestFeet_62 : decode cX10_fewestFeet 62 = .ok (.iload_n 3, 1) := by decide +kernel
theorem dX10_fewestFeet_63 : decode cX10_fewestFeet 63 = .ok (.aload_n 0, 1) := by decide +kernel
theorem dX10_fewestFeet_64 : decode cX10_fewestFeet 64 = .ok (.getfield 13, 3) := by decide +kernel
theorem dX10_fewestFeet_67 : decode cX10_fewestFeet 67 = .ok (.iconst 2, 1) := by decide +kernel
theorem dX10_fewestFeet_68 : decode cX10_fewestFeet 68 = .ok (.aaload, 1) := by decide +kernel
theorem dX10_fewestFeet_69 : decode cX10_fewestFeet 69 = .ok (.iload 4, 2) := by decide +kernel
theorem dX10_fewestFeet_71 : decode cX10_fewestFeet 71 = .ok (.iaload, 1) := by decide +kernel
theorem dX10_fewestFeet_72 : decode cX10_fewestFeet 72 = .ok (.invokestatic 49, 3) := by decide +kernel
theorem dX10_fewestFeet_75 : decode cX10_fewestFeet 75 = .ok (.istore_n 3, 1) := by decide +kernel
theorem dX10_fewestFeet_76 : decode cX10_fewestFeet 76 = .ok (.iload_n 2, 1) := by decide +kernel
theorem dX10_fewestFeet_77 : decode cX10_fewestFeet 77 = .ok (.iconst 1, 1) := by decide +kernel
theorem dX10_fewestFeet_78 : decode cX10_fewestFeet 78 = .ok (.if_icmp .ne 7, 3) := by decide +kernel
theorem dX10_fewestFeet_81 : decode cX10_fewestFeet 81 = .ok (.iload_n 3, 1) := by decide +kernel
theorem dX10_fewestFeet_82 : decode cX10_fewestFeet 82 = .ok (.goto 16, 3) := by decide +kernel
theorem dX10_fewestFeet_85 : decode cX10_fewestFeet 85 = .ok (.iload_n 3, 1) := by decide +kernel
theorem dX10_fewestFeet_86 : decode cX10_fewestFeet 86 = .ok (.aload_n 0, 1) := by decide +kernel
theorem dX10_fewestFeet_87 : decode cX10_fewestFeet 87 = .ok (.getfield 13, 3) := by decide +kernel
theorem dX10_fewestFeet_90 : decode cX10_fewestFeet 90 = .ok (.iconst 0, 1) := by decide +kernel
theorem dX10_fewestFeet_91 : decode cX10_fewestFeet 91 = .ok (.aaload, 1) := by decide +kernel
theorem dX10_fewestFeet_92 : decode cX10_fewestFeet 92 = .ok (.iload 4, 2) := by decide +kernel
theorem dX10_fewestFeet_94 : decode cX10_fewestFeet 94 = .ok (.iaload, 1) := by decide +kernel
theorem dX10_fewestFeet_95 : decode cX10_fewestFeet 95 = .ok (.invokestatic 49, 3) := by decide +kernel
theorem dX10_fewestFeet_98 : decode cX10_fewestFeet 98 = .ok (.istore_n 3, 1) := by decide +kernel
theorem dX10_fewestFeet_99 : decode cX10_fewestFeet 99 = .ok (.iinc 4 1, 3) := by decide +kernel
theorem dX10_fewestFeet_102 : decode cX10_fewestFeet 102 = .ok (.goto (-58), 3) := by decide +kernel
theorem dX10_fewestFeet_105 : decode cX10_fewestFeet 105 = .ok (.iload_n 3, 1) := by decide +kernel
theorem dX10_fewestFeet_106 : decode cX10_fewestFeet 106 = .ok (.ldc 44, 2) := by decide +kernel
theorem dX10_fewestFeet_108 : decode cX10_fewestFeet 108 = .ok (.if_icmp .lt 7, 3) := by decide +kernel
theorem dX10_fewestFeet_111 : decode cX10_fewestFeet 111 = .ok (.iconst (-1), 1) := by decide +kernel
theorem dX10_fewestFeet_112 : decode cX10_fewestFeet 112 = .ok (.goto 4, 3) := by decide +kernel
theorem dX10_fewestFeet_115 : decode cX10_fewestFeet 115 = .ok (.iload_n 3, 1) := by decide +kernel
theorem dX10_fewestFeet_116 : decode cX10_fewestFeet 116 = .ok (.ireturn, 1) := by decide +kernel
theorem dX10_findFeetFrom_0 : decode cX10_findFeetFrom 0 = .ok (.ldc 44, 2) := by decide +kernel
theorem dX10_findFeetFrom_2 : decode cX10_findFeetFrom 2 = .ok (.istore 4, 2) := by decide +kernel
theorem dX10_findFeetFrom_4 : decode cX10_findFeetFrom 4 = .ok (.ldc 44, 2) := by decide +kernel
theorem dX10_findFeetFrom_6 : decode cX10_findFeetFrom 6 = .ok (.istore 5, 2) := by decide +kernel
theorem dX10_findFeetFrom_8 : decode cX10_findFeetFrom 8 = .ok (.aload_n 1, 1) := by decide +kernel
theorem dX10_findFeetFrom_9 : decode cX10_findFeetFrom 9 = .ok (.getfield 55, 3) := by decide +kernel
theorem dX10_findFeetFrom_12 : decode cX10_findFeetFrom 12 = .ok (.iload_n 2, 1) := by decide +kernel
theorem dX10_findFeetFrom_13 : decode cX10_findFeetFrom 13 = .ok (.baload, 1) := by decide +kernel
theorem dX10_findFeetFrom_14 : decode cX10_findFeetFrom 14 = .ok (.ifCond .eq 31, 3) := by decide +kernel
theorem dX10_findFeetFrom_17 : decode cX10_findFeetFrom 17 = .ok (.iload_n 2, 1) := by decide +kernel
theorem dX10_findFeetFrom_18 : decode cX10_findFeetFrom 18 = .ok (.aload_n 1, 1) := by decide +kernel
theorem dX10_findFeetFrom_19 : decode cX10_findFeetFrom 19 = .ok (.getfield 58, 3) := by decide +kernel
theorem dX10_findFeetFrom_22 : decode cX10_findFeetFrom 22 = .ok (.if_icmp .lt 23, 3) := by decide +kernel
theorem dX10_findFeetFrom_25 : decode cX10_findFeetFrom 25 = .ok (.iload_n 3, 1) := by decide +kernel
theorem dX10_findFeetFrom_26 : decode cX10_findFeetFrom 26 = .ok (.iconst 1, 1) := by decide +kernel
theorem dX10_findFeetFrom_27 : decode cX10_findFeetFrom 27 = .ok (.if_icmp .ne 7, 3) := by decide +kernel
theorem dX10_findFeetFrom_30 : decode cX10_findFeetFrom 30 = .ok (.iconst 1, 1) := by decide +kernel
theorem dX10_findFeetFrom_31 : decode cX10_findFeetFrom 31 = .ok (.goto 5, 3) := by decide +kernel
theorem dX10_findFeetFrom_34 : decode cX10_findFeetFrom 34 = .ok (.ldc 44, 2) := by decide +kernel
theorem dX10_findFeetFrom_36 : decode cX10_findFeetFrom 36 = .ok (.istore 5, 2) := by decide +kernel
theorem dX10_findFeetFrom_38 : decode cX10_findFeetFrom 38 = .ok (.iload 5, 2) := by decide +kernel
theorem dX10_findFeetFrom_40 : decode cX10_findFeetFrom 40 = .ok (.istore 4, 2) := by decide +kernel
theorem dX10_findFeetFrom_42 : decode cX10_findFeetFrom 42 = .ok (.goto 91, 3) := by decide +kernel
theorem dX10_findFeetFrom_45 : decode cX10_findFeetFrom 45 = .ok (.aload_n 1, 1) := by decide +kernel
theorem dX10_findFeetFrom_46 : decode cX10_findFeetFrom 46 = .ok (.getfield 55, 3) := by decide +kernel
theorem dX10_findFeetFrom_49 : decode cX10_findFeetFrom 49 = .ok (.iload_n 2, 1) := by decide +kernel
theorem dX10_findFeetFrom_50 : decode cX10_findFeetFrom 50 = .ok (.baload, 1) := by decide +kernel
theorem dX10_findFeetFrom_51 : decode cX10_findFeetFrom 51 = .ok (.ifCond .eq 82, 3) := by decide +kernel
theorem dX10_findFeetFrom_54 : decode cX10_findFeetFrom 54 = .ok (.iconst 2, 1) := by decide +kernel
theorem dX10_findFeetFrom_55 : decode cX10_findFeetFrom 55 = .ok (.iconst 1, 1) := by decide +kernel
theorem dX10_findFeetFrom_56 : decode cX10_findFeetFrom 56 = .ok (.iload_n 3, 1) := by decide +kernel
theorem dX10_findFeetFrom_57 : decode cX10_findFeetFrom 57 = .ok (.isub, 1) := by decide +kernel
theorem dX10_findFeetFrom_58 : decode cX10_findFeetFrom 58 = .ok (.imul, 1) := by decide +kernel
theorem dX10_findFeetFrom_59 : decode cX10_findFeetFrom 59 = .ok (.istore 6, 2) := by decide +kernel
theorem dX10_findFeetFrom_61 : decode cX10_findFeetFrom 61 = .ok (.iconst 1, 1) := by decide +kernel
theorem dX10_findFeetFrom_62 : decode cX10_findFeetFrom 62 = .ok (.aload_n 0, 1) := by decide +kernel
theorem dX10_findFeetFrom_63 : decode cX10_findFeetFrom 63 = .ok (.getfield 13, 3) := by decide +kernel
theorem dX10_findFeetFrom_66 : decode cX10_findFeetFrom 66 = .ok (.iload 6, 2) := by decide +kernel
theorem dX10_findFeetFrom_68 : decode cX10_findFeetFrom 68 = .ok (.aaload, 1) := by decide +kernel
theorem dX10_findFeetFrom_69 : decode cX10_findFeetFrom 69 = .ok (.iload_n 2, 1) := by decide +kernel
theorem dX10_findFeetFrom_70 : decode cX10_findFeetFrom 70 = .ok (.aload_n 1, 1) := by decide +kernel
theorem dX10_findFeetFrom_71 : decode cX10_findFeetFrom 71 = .ok (.getfield 61, 3) := by decide +kernel
theorem dX10_findFeetFrom_74 : decode cX10_findFeetFrom 74 = .ok (.iadd, 1) := by decide +kernel
theorem dX10_findFeetFrom_75 : decode cX10_findFeetFrom 75 = .ok (.iload_n 2, 1) := by decide +kernel
theorem dX10_findFeetFrom_76 : decode cX10_findFeetFrom 76 = .ok (.aload_n 1, 1) := by decide +kernel
theorem dX10_findFeetFrom_77 : decode cX10_findFeetFrom 77 = .ok (.getfield 64, 3) := by decide +kernel
theorem dX10_findFeetFrom_80 : decode cX10_findFeetFrom 80 = .ok (.iadd, 1) := by decide +kernel
theorem dX10_findFeetFrom_81 : decode cX10_findFeetFrom 81 = .ok (.invokestatic 67, 3) := by decide +kernel
theorem dX10_findFeetFrom_84 : decode cX10_findFeetFrom 84 = .ok (.iadd, 1) := by decide +kernel
theorem dX10_findFeetFrom_85 : decode cX10_findFeetFrom 85 = .ok (.istore 5, 2) := by decide +kernel
theorem dX10_findFeetFrom_87 : decode cX10_findFeetFrom 87 = .ok (.aload_n 0, 1) := by decide +kernel
theorem dX10_findFeetFrom_88 : decode cX10_findFeetFrom 88 = .ok (.getfield 13, 3) := by decide +kernel
theorem dX10_findFeetFrom_91 : decode cX10_findFeetFrom 91 = .ok (.iload 6, 2) := by decide +kernel
theorem dX10_findFeetFrom_93 : decode cX10_findFeetFrom 93 = .ok (.iconst 1, 1) := by decide +kernel
theorem dX10_findFeetFrom_94 : decode cX10_findFeetFrom 94 = .ok (.iadd, 1) := by decide +kernel
theorem dX10_findFeetFrom_95 : decode cX10_findFeetFrom 95 = .ok (.aaload, 1) := by decide +kernel
theorem dX10_findFeetFrom_96 : decode cX10_findFeetFrom 96 = .ok (.iload_n 2, 1) := by decide +kernel
theorem dX10_findFeetFrom_97 : decode cX10_findFeetFrom 97 = .ok (.aload_n 1, 1) := by decide +kernel
theorem dX10_findFeetFrom_98 : decode cX10_findFeetFrom 98 = .ok (.getfield 64, 3) := by decide +kernel
theorem dX10_findFeetFrom_101 : decode cX10_findFeetFrom 101 = .ok (.iadd, 1) := by decide +kernel
theorem dX10_findFeetFrom_102 : decode cX10_findFeetFrom 102 = .ok (.iconst 1, 1) := by decide +kernel
theorem dX10_findFeetFrom_103 : decode cX10_findFeetFrom 103 = .ok (.iadd, 1) := by decide +kernel
theorem dX10_findFeetFrom_104 : decode cX10_findFeetFrom 104 = .ok (.iload_n 2, 1) := by decide +kernel
theorem dX10_findFeetFrom_105 : decode cX10_findFeetFrom 105 = .ok (.aload_n 1, 1) := by decide +kernel
theorem dX10_findFeetFrom_106 : decode cX10_findFeetFrom 106 = .ok (.getfield 71, 3) := by decide +kernel
theorem dX10_findFeetFrom_109 : decode cX10_findFeetFrom 109 = .ok (.iadd, 1) := by decide +kernel
theorem dX10_findFeetFrom_110 : decode cX10_findFeetFrom 110 = .ok (.aload_n 1, 1) := by decide +kernel
theorem dX10_findFeetFrom_111 : decode cX10_findFeetFrom 111 = .ok (.getfield 34, 3) := by decide +kernel
theorem dX10_findFeetFrom_114 : decode cX10_findFeetFrom 114 = .ok (.invokestatic 49, 3) := by decide +kernel
theorem dX10_findFeetFrom_117 : decode cX10_findFeetFrom 117 = .ok (.invokestatic 67, 3) := by decide +kernel
theorem dX10_findFeetFrom_120 : decode cX10_findFeetFrom 120 = .ok (.istore 7, 2) := by decide +kernel
theorem dX10_findFeetFrom_122 : decode cX10_findFeetFrom 122 = .ok (.iload 5, 2) := by decide +kernel
theorem dX10_findFeetFrom_124 : decode cX10_findFeetFrom 124 = .ok (.iconst 1, 1) := by decide +kernel
theorem dX10_findFeetFrom_125 : decode cX10_findFeetFrom 125 = .ok (.iload 7, 2) := by decide +kernel
theorem dX10_findFeetFrom_127 : decode cX10_findFeetFrom 127 = .ok (.iadd, 1) := by decide +kernel
theorem dX10_findFeetFrom_128 : decode cX10_findFeetFrom 128 = .ok (.invokestatic 49, 3) := by decide +kernel
theorem dX10_findFeetFrom_131 : decode cX10_findFeetFrom 131 = .ok (.istore 4, 2) := by decide +kernel
theorem dX10_findFeetFrom_133 : decode cX10_findFeetFrom 133 = .ok (.aload_n 0, 1) := by decide +kernel
theorem dX10_findFeetFrom_134 : decode cX10_findFeetFrom 134 = .ok (.getfield 13, 3) := by decide +kernel
theorem dX10_findFeetFrom_137 : decode cX10_findFeetFrom 137 = .ok (.iconst 2, 1) := by decide +kernel
theorem dX10_findFeetFrom_138 : decode cX10_findFeetFrom 138 = .ok (.iload_n 3, 1) := by decide +kernel
theorem dX10_findFeetFrom_139 : decode cX10_findFeetFrom 139 = .ok (.imul, 1) := by decide +kernel
theorem dX10_findFeetFrom_140 : decode cX10_findFeetFrom 140 = .ok (.aaload, 1) := by decide +kernel
theorem dX10_findFeetFrom_141 : decode cX10_findFeetFrom 141 = .ok (.iload_n 2, 1) := by decide +kernel
theorem dX10_findFeetFrom_142 : decode cX10_findFeetFrom 142 = .ok (.iload 4, 2) := by decide +kernel
theorem dX10_findFeetFrom_144 : decode cX10_findFeetFrom 144 = .ok (.iastore, 1) := by decide +kernel
theorem dX10_findFeetFrom_145 : decode cX10_findFeetFrom 145 = .ok (.aload_n 0, 1) := by decide +kernel
theorem dX10_findFeetFrom_146 : decode cX10_findFeetFrom 146 = .ok (.getfield 13, 3) := by decide +kernel
theorem dX10_findFeetFrom_149 : decode cX10_findFeetFrom 149 = .ok (.iconst 2, 1) := by decide +kernel
theorem dX10_findFeetFrom_150 : decode cX10_findFeetFrom 150 = .ok (.iload_n 3, 1) := by decide +kernel
theorem dX10_findFeetFrom_151 : decode cX10_findFeetFrom 151 = .ok (.imul, 1) := by decide +kernel
theorem dX10_findFeetFrom_152 : decode cX10_findFeetFrom 152 = .ok (.iconst 1, 1) := by decide +kernel
theorem dX10_findFeetFrom_153 : decode cX10_findFeetFrom 153 = .ok (.iadd, 1) := by decide +kernel
theorem dX10_findFeetFrom_154 : decode cX10_findFeetFrom 154 = .ok (.aaload, 1) := by decide +kernel
theorem dX10_findFeetFrom_155 : decode cX10_findFeetFrom 155 = .ok (.iload_n 2, 1) := by decide +kernel
theorem dX10_findFeetFrom_156 : decode cX10_findFeetFrom 156 = .ok (.iload 5, 2) := by decide +kernel
theorem dX10_findFeetFrom_158 : decode cX10_findFeetFrom 158 = .ok (.iastore, 1) := by decide +kernel
theorem dX10_findFeetFrom_159 : decode cX10_findFeetFrom 159 = .ok (.return_, 1) := by decide +kernel
theorem dX10_firstHeel_0 : decode cX10_firstHeel 0 = .ok (.aload_n 0, 1) := by decide +kernel
theorem dX10_firstHeel_1 : decode cX10_firstHeel 1 = .ok (.getfield 13, 3) := by decide +kernel
theorem dX10_firstHeel_4 : decode cX10_firstHeel 4 = .ok (.iconst 0, 1) := by decide +kernel
theorem dX10_firstHeel_5 : decode cX10_firstHeel 5 = .ok (.aaload, 1) := by decide +kernel
theorem dX10_firstHeel_6 : decode cX10_firstHeel 6 = .ok (.astore 4, 2) := by decide +kernel
theorem dX10_firstHeel_8 : decode cX10_firstHeel 8 = .ok (.aload 4, 2) := by decide +kernel
theorem dX10_firstHeel_10 : decode cX10_firstHeel 10 = .ok (.aload_n 1, 1) := by decide +kernel
theorem dX10_firstHeel_11 : decode cX10_firstHeel 11 = .ok (.getfield 34, 3) := by decide +kernel
theorem dX10_firstHeel_14 : decode cX10_firstHeel 14 = .ok (.iconst 1, 1) := by decide +kernel
theorem dX10_firstHeel_15 : decode cX10_firstHeel 15 = .ok (.iadd, 1) := by decide +kernel
theorem dX10_firstHeel_16 : decode cX10_firstHeel 16 = .ok (.ldc 44, 2) := by decide +kernel
theorem dX10_firstHeel_18 : decode cX10_firstHeel 18 = .ok (.iastore, 1) := by decide +kernel
theorem dX10_firstHeel_19 : decode cX10_firstHeel 19 = .ok (.aload_n 1, 1) := by decide +kernel
theorem dX10_firstHeel_20 : decode cX10_firstHeel 20 = .ok (.getfield 34, 3) := by decide +kernel
theorem dX10_firstHeel_23 : decode cX10_firstHeel 23 = .ok (.istore 5, 2) := by decide +kernel
theorem dX10_firstHeel_25 : decode cX10_firstHeel 25 = .ok (.iload 5, 2) := by decide +kernel
theorem dX10_firstHeel_27 : decode cX10_firstHeel 27 = .ok (.ifCond .lt 71, 3) := by decide +kernel
theorem dX10_firstHeel_30 : decode cX10_firstHeel 30 = .ok (.iload 5, 2) := by decide +kernel
theorem dX10_firstHeel_32 : decode cX10_firstHeel 32 = .ok (.aload_n 1, 1) := by decide +kernel
theorem dX10_firstHeel_33 : decode cX10_firstHeel 33 = .ok (.getfield 58, 3) := by decide +kernel
theorem dX10_firstHeel_36 : decode cX10_firstHeel 36 = .ok (.if_icmp .ge 17, 3) := by decide +kernel
theorem dX10_firstHeel_39 : decode cX10_firstHeel 39 = .ok (.aload 4, 2) := by decide +kernel
theorem dX10_firstHeel_41 : decode cX10_firstHeel 41 = .ok (.iload 5, 2) := by decide +kernel
theorem dX10_firstHeel_43 : decode cX10_firstHeel 43 = .ok (.iload_n 2, 1) := by decide +kernel
theorem dX10_firstHeel_44 : decode cX10_firstHeel 44 = .ok (.iadd, 1) := by decide +kernel
theorem dX10_firstHeel_45 : decode cX10_firstHeel 45 = .ok (.iaload, 1) := by decide +kernel
theorem dX10_firstHeel_46 : decode cX10_firstHeel 46 = .ok (.iload 5, 2) := by decide +kernel
theorem dX10_firstHeel_48 : decode cX10_firstHeel 48 = .ok (.iload_n 3, 1) := by decide +kernel
theorem dX10_firstHeel_49 : decode cX10_firstHeel 49 = .ok (.iadd, 1) := by decide +kernel
theorem dX10_firstHeel_50 : decode cX10_firstHeel 50 = .ok (.if_icmp .gt 7, 3) := by decide +kernel
theorem dX10_firstHeel_53 : decode cX10_firstHeel 53 = .ok (.iconst 1, 1) := by decide +kernel
theorem dX10_firstHeel_54 : decode cX10_firstHeel 54 = .ok (.goto 4, 3) := by decide +kernel
theorem dX10_firstHeel_57 : decode cX10_firstHeel 57 = .ok (.iconst 0, 1) := by decide +kernel
theorem dX10_firstHeel_58 : decode cX10_firstHeel 58 = .ok (.istore 6, 2) := by decide +kernel
theorem dX10_firstHeel_60 : decode cX10_firstHeel 60 = .ok (.aload 4, 2) := by decide +kernel
theorem dX10_firstHeel_62 : decode cX10_firstHeel 62 = .ok (.iload 5, 2) := by decide +kernel
theorem dX10_firstHeel_64 : decode cX10_firstHeel 64 = .ok (.aload_n 1, 1) := by decide +kernel
theorem dX10_firstHeel_65 : decode cX10_firstHeel 65 = .ok (.getfield 55, 3) := by decide +kernel
theorem dX10_firstHeel_68 : decode cX10_firstHeel 68 = .ok (.iload 5, 2) := by decide +kernel
theorem dX10_firstHeel_70 : decode cX10_firstHeel 70 = .ok (.baload, 1) := by decide +kernel
theorem dX10_firstHeel_71 : decode cX10_firstHeel 71 = .ok (.ifCond .eq 13, 3) := by decide +kernel
theorem dX10_firstHeel_74 : decode cX10_firstHeel 74 = .ok (.iload 6, 2) := by decide +kernel
theorem dX10_firstHeel_76 : decode cX10_firstHeel 76 = .ok (.ifCond .eq 8, 3) := by decide +kernel
theorem dX10_firstHeel_79 : decode cX10_firstHeel 79 = .ok (.iload 5, 2) := by decide +kernel
theorem dX10_firstHeel_81 : decode cX10_firstHeel 81 = .ok (.goto 10, 3) := by decide +kernel
theorem dX10_firstHeel_84 : decode cX10_firstHeel 84 = .ok (.aload 4, 2) := by decide +kernel
theorem dX10_firstHeel_86 : decode cX10_firstHeel 86 = .ok (.iload 5, 2) := by decide +kernel
theorem dX10_firstHeel_88 : decode cX10_firstHeel 88 = .ok (.iconst 1, 1) := by decide +kernel
theorem dX10_firstHeel_89 : decode cX10_firstHeel 89 = .ok (.iadd, 1) := by decide +kernel
theorem dX10_firstHeel_90 : decode cX10_firstHeel 90 = .ok (.iaload, 1) := by decide +kernel
theorem dX10_firstHeel_91 : decode cX10_firstHeel 91 = .ok (.iastore, 1) := by decide +kernel
theorem dX10_firstHeel_92 : decode cX10_firstHeel 92 = .ok (.iinc 5 (-1), 3) := by decide +kernel
theorem dX10_firstHeel_95 : decode cX10_firstHeel 95 = .ok (.goto (-70), 3) := by decide +kernel
theorem dX10_firstHeel_98 : decode cX10_firstHeel 98 = .ok (.aload 4, 2) := by decide +kernel
theorem dX10_firstHeel_100 : decode cX10_firstHeel 100 = .ok (.iconst 0, 1) := by decide +kernel
theorem dX10_firstHeel_101 : decode cX10_firstHeel 101 = .ok (.iaload, 1) := by decide +kernel
theorem dX10_firstHeel_102 : decode cX10_firstHeel 102 = .ok (.ireturn, 1) := by decide +kernel
theorem dX10_isThereWay_0 : decode cX10_isThereWay 0 = .ok (.aload_n 0, 1) := by decide +kernel
theorem dX10_isThereWay_1 : decode cX10_isThereWay 1 = .ok (.getfield 13, 3) := by decide +kernel
theorem dX10_isThereWay_4 : decode cX10_isThereWay 4 = .ok (.iconst 0, 1) := by decide +kernel
theorem dX10_isThereWay_5 : decode cX10_isThereWay 5 = .ok (.aaload, 1) := by decide +kernel
theorem dX10_isThereWay_6 : decode cX10_isThereWay 6 = .ok (.astore_n 2, 1) := by decide +kernel
theorem dX10_isThereWay_7 : decode cX10_isThereWay 7 = .ok (.aload_n 0, 1) := by decide +kernel
theorem dX10_isThereWay_8 : decode cX10_isThereWay 8 = .ok (.getfield 13, 3) := by decide +kernel
theorem dX10_isThereWay_11 : decode cX10_isThereWay 11 = .ok (.iconst 1, 1) := by decide +kernel
theorem dX10_isThereWay_12 : decode cX10_isThereWay 12 = .ok (.aaload, 1) := by decide +kernel
theorem dX10_isThereWay_13 : decode cX10_isThereWay 13 = .ok (.astore_n 3, 1) := by decide +kernel
theorem dX10_isThereWay_14 : decode cX10_isThereWay 14 = .ok (.aload_n 2, 1) := by decide +kernel
theorem dX10_isThereWay_15 : decode cX10_isThereWay 15 = .ok (.aload_n 1, 1) := by decide +kernel
theorem dX10_isThereWay_16 : decode cX10_isThereWay 16 = .ok (.getfield 34, 3) := by decide +kernel
theorem dX10_isThereWay_19 : decode cX10_isThereWay 19 = .ok (.iconst 1, 1) := by decide +kernel
theorem dX10_isThereWay_20 : decode cX10_isThereWay 20 = .ok (.iadd, 1) := by decide +kernel
theorem dX10_isThereWay_21 : decode cX10_isThereWay 21 = .ok (.ldc 44, 2) := by decide +kernel
theorem dX10_isThereWay_23 : decode cX10_isThereWay 23 = .ok (.iastore, 1) := by decide +kernel
theorem dX10_isThereWay_24 : decode cX10_isThereWay 24 = .ok (.aload_n 3, 1) := by decide +kernel
theorem dX10_isThereWay_25 : decode cX10_isThereWay 25 = .ok (.aload_n 1, 1) := by decide +kernel
theorem dX10_isThereWay_26 : decode cX10_isThereWay 26 = .ok (.getfield 34, 3) := by decide +kernel
theorem dX10_isThereWay_29 : decode cX10_isThereWay 29 = .ok (.iconst 1, 1) := by decide +kernel
theorem dX10_isThereWay_30 : decode cX10_isThereWay 30 = .ok (.iadd, 1) := by decide +kernel
theorem dX10_isThereWay_31 : decode cX10_isThereWay 31 = .ok (.ldc 44, 2) := by decide +kernel
theorem dX10_isThereWay_33 : decode cX10_isThereWay 33 = .ok (.iastore, 1) := by decide +kernel
theorem dX10_isThereWay_34 : decode cX10_isThereWay 34 = .ok (.aload_n 1, 1) := by decide +kernel
theorem dX10_isThereWay_35 : decode cX10_isThereWay 35 = .ok (.getfield 34, 3) := by decide +kernel
theorem dX10_isThereWay_38 : decode cX10_isThereWay 38 = .ok (.istore 4, 2) := by decide +kernel
theorem dX10_isThereWay_40 : decode cX10_isThereWay 40 = .ok (.iload 4, 2) := by decide +kernel
theorem dX10_isThereWay_42 : decode cX10_isThereWay 42 = .ok (.ifCond .lt 149, 3) := by decide +kernel
theorem dX10_isThereWay_45 : decode cX10_isThereWay 45 = .ok (.iload 4, 2) := by decide +kernel
theorem dX10_isThereWay_47 : decode cX10_isThereWay 47 = .ok (.aload_n 1, 1) := by decide +kernel
theorem dX10_isThereWay_48 : decode cX10_isThereWay 48 = .ok (.getfield 58, 3) := by decide +kernel
theorem dX10_isThereWay_51 : decode cX10_isThereWay 51 = .ok (.if_icmp .lt 7, 3) := by decide +kernel
theorem dX10_isThereWay_54 : decode cX10_isThereWay 54 = .ok (.iconst 1, 1) := by decide +kernel
theorem dX10_isThereWay_55 : decode cX10_isThereWay 55 = .ok (.goto 4, 3) := by decide +kernel
theorem dX10_isThereWay_58 : decode cX10_isThereWay 58 = .ok (.iconst 0, 1) := by decide +kernel
theorem dX10_isThereWay_59 : decode cX10_isThereWay 59 = .ok (.istore 5, 2) := by decide +kernel
theorem dX10_isThereWay_61 : decode cX10_isThereWay 61 = .ok (.iload 5, 2) := by decide +kernel
theorem dX10_isThereWay_63 : decode cX10_isThereWay 63 = .ok (.ifCond .ne 22, 3) := by decide +kernel
theorem dX10_isThereWay_66 : decode cX10_isThereWay 66 = .ok (.aload_n 2, 1) := by decide +kernel
theorem dX10_isThereWay_67 : decode cX10_isThereWay 67 = .ok (.iload 4, 2) := by decide +kernel
theorem dX10_isThereWay_69 : decode cX10_isThereWay 69 = .ok (.aload_n 1, 1) := by decide +kernel
theorem dX10_isThereWay_70 : decode cX10_isThereWay 70 = .ok (.getfield 61, 3) := by decide +kernel
theorem dX10_isThereWay_73 : decode cX10_isThereWay 73 = .ok (.iadd, 1) := by decide +kernel
theorem dX10_isThereWay_74 : decode cX10_isThereWay 74 = .ok (.iaload, 1) := by decide +kernel
theorem dX10_isThereWay_75 : decode cX10_isThereWay 75 = .ok (.iload 4, 2) := by decide +kernel
theorem dX10_isThereWay_77 : decode cX10_isThereWay 77 = .ok (.aload_n 1, 1) := by decide +kernel
theorem dX10_isThereWay_78 : decode cX10_isThereWay 78 = .ok (.getfield 64, 3) := by decide +kernel
theorem dX10_isThereWay_81 : decode cX10_isThereWay 81 = .ok (.iadd, 1) := by decide +kernel
theorem dX10_isThereWay_82 : decode cX10_isThereWay 82 = .ok (.if_icmp .gt 7, 3) := by decide +kernel
theorem dX10_isThereWay_85 : decode cX10_isThereWay 85 = .ok (.iconst 1, 1) := by decide +kernel
theorem dX10_isThereWay_86 : decode cX10_isThereWay 86 = .ok (.goto 4, 3) := by decide +kernel
theorem dX10_isThereWay_89 : decode cX10_isThereWay 89 = .ok (.iconst 0, 1) := by decide +kernel
theorem dX10_isThereWay_90 : decode cX10_isThereWay 90 = .ok (.istore 6, 2) := by decide +kernel
theorem dX10_isThereWay_92 : decode cX10_isThereWay 92 = .ok (.iload 6, 2) := by decide +kernel
theorem dX10_isThereWay_94 : decode cX10_isThereWay 94 = .ok (.ifCond .ne 24, 3) := by decide +kernel
theorem dX10_isThereWay_97 : decode cX10_isThereWay 97 = .ok (.aload_n 3, 1) := by decide +kernel
theorem dX10_isThereWay_98 : decode cX10_isThereWay 98 = .ok (.iload 4, 2) := by decide +kernel
theorem dX10_isThereWay_100 : decode cX10_isThereWay 100 = .ok (.aload_n 1, 1) := by decide +kernel
theorem dX10_isThereWay_101 : decode cX10_isThereWay 101 = .ok (.getfield 64, 3) := by decide +kernel
theorem dX10_isThereWay_104 : decode cX10_isThereWay 104 = .ok (.iadd, 1) := by decide +kernel
theorem dX10_isThereWay_105 : decode cX10_isThereWay 105 = .ok (.iconst 1, 1) := by decide +kernel
theorem dX10_isThereWay_106 : decode cX10_isThereWay 106 = .ok (.iadd, 1) := by decide +kernel
theorem dX10_isThereWay_107 : decode cX10_isThereWay 107 = .ok (.iaload, 1) := by decide +kernel
theorem dX10_isThereWay_108 : decode cX10_isThereWay 108 = .ok (.iload 4, 2) := by decide +kernel
theorem dX10_isThereWay_110 : decode cX10_isThereWay 110 = .ok (.aload_n 1, 1) := by decide +kernel
theorem dX10_isThereWay_111 : decode cX10_isThereWay 111 = .ok (.getfield 71, 3) := by decide +kernel
theorem dX10_isThereWay_114 : decode cX10_isThereWay 114 = .ok (.iadd, 1) := by decide +kernel
theorem dX10_isThereWay_115 : decode cX10_isThereWay 115 = .ok (.if_icmp .gt 7, 3) := by decide +kernel
theorem dX10_isThereWay_118 : decode cX10_isThereWay 118 = .ok (.iconst 1, 1) := by decide +kernel
theorem dX10_isThereWay_119 : decode cX10_isThereWay 119 = .ok (.goto 4, 3) := by decide +kernel
theorem dX10_isThereWay_122 : decode cX10_isThereWay 122 = .ok (.iconst 0, 1) := by decide +kernel
theorem dX10_isThereWay_123 : decode cX10_isThereWay 123 = .ok (.istore 7, 2) := by decide +kernel
theorem dX10_isThereWay_125 : decode cX10_isThereWay 125 = .ok (.aload_n 3, 1) := by decide +kernel
theorem dX10_isThereWay_126 : decode cX10_isThereWay 126 = .ok (.iload 4, 2) := by decide +kernel
theorem dX10_isThereWay_128 : decode cX10_isThereWay 128 = .ok (.aload_n 1, 1) := by decide +kernel
theorem dX10_isThereWay_129 : decode cX10_isThereWay 129 = .ok (.getfield 55, 3) := by decide +kernel
theorem dX10_isThereWay_132 : decode cX10_isThereWay 132 = .ok (.iload 4, 2) := by decide +kernel
theorem dX10_isThereWay_134 : decode cX10_isThereWay 134 = .ok (.baload, 1) := by decide +kernel
theorem dX10_isThereWay_135 : decode cX10_isThereWay 135 = .ok (.ifCond .eq 13, 3) := by decide +kernel
theorem dX10_isThereWay_138 : decode cX10_isThereWay 138 = .ok (.iload 6, 2) := by decide +kernel
theorem dX10_isThereWay_140 : decode cX10_isThereWay 140 = .ok (.ifCond .eq 8, 3) := by decide +kernel
theorem dX10_isThereWay_143 : decode cX10_isThereWay 143 = .ok (.iload 4, 2) := by decide +kernel
theorem dX10_isThereWay_145 : decode cX10_isThereWay 145 = .ok (.goto 9, 3) := by decide +kernel
theorem dX10_isThereWay_148 : decode cX10_isThereWay 148 = .ok (.aload_n 3, 1) := by decide +kernel
theorem dX10_isThereWay_149 : decode cX10_isThereWay 149 = .ok (.iload 4, 2) := by decide +kernel
theorem dX10_isThereWay_151 : decode cX10_isThereWay 151 = .ok (.iconst 1, 1) := by decide +kernel
theorem dX10_isThereWay_152 : decode cX10_isThereWay 152 = .ok (.iadd, 1) := by decide +kernel
theorem dX10_isThereWay_153 : decode cX10_isThereWay 153 = .ok (.iaload, 1) := by decide +kernel
theorem dX10_isThereWay_154 : decode cX10_isThereWay 154 = .ok (.iastore, 1) := by decide +kernel
theorem dX10_isThereWay_155 : decode cX10_isThereWay 155 = .ok (.aload_n 2, 1) := by decide +kernel
theorem dX10_isThereWay_156 : decode cX10_isThereWay 156 = .ok (.iload 4, 2) := by decide +kernel
theorem dX10_isThereWay_158 : decode cX10_isThereWay 158 = .ok (.aload_n 1, 1) := by decide +kernel
theorem dX10_isThereWay_159 : decode cX10_isThereWay 159 = .ok (.getfield 55, 3) := by decide +kernel
theorem dX10_isThereWay_162 : decode cX10_isThereWay 162 = .ok (.iload 4, 2) := by decide +kernel
theorem dX10_isThereWay_164 : decode cX10_isThereWay 164 = .ok (.baload, 1) := by decide +kernel
theorem dX10_isThereWay_165 : decode cX10_isThereWay 165 = .ok (.ifCond .eq 13, 3) := by decide +kernel
theorem dX10_isThereWay_168 : decode cX10_isThereWay 168 = .ok (.iload 7, 2) := by decide +kernel
theorem dX10_isThereWay_170 : decode cX10_isThereWay 170 = .ok (.ifCond .eq 8, 3) := by decide +kernel
theorem dX10_isThereWay_173 : decode cX10_isThereWay 173 = .ok (.iload 4, 2) := by decide +kernel
theorem dX10_isThereWay_175 : decode cX10_isThereWay 175 = .ok (.goto 9, 3) := by decide +kernel
theorem dX10_isThereWay_178 : decode cX10_isThereWay 178 = .ok (.aload_n 2, 1) := by decide +kernel
theorem dX10_isThereWay_179 : decode cX10_isThereWay 179 = .ok (.iload 4, 2) := by decide +kernel
theorem dX10_isThereWay_181 : decode cX10_isThereWay 181 = .ok (.iconst 1, 1) := by decide +kernel
theorem dX10_isThereWay_182 : decode cX10_isThereWay 182 = .ok (.iadd, 1) := by decide +kernel
theorem dX10_isThereWay_183 : decode cX10_isThereWay 183 = .ok (.iaload, 1) := by decide +kernel
theorem dX10_isThereWay_184 : decode cX10_isThereWay 184 = .ok (.iastore, 1) := by decide +kernel
theorem dX10_isThereWay_185 : decode cX10_isThereWay 185 = .ok (.iinc 4 (-1), 3) := by decide +kernel
theorem dX10_isThereWay_188 : decode cX10_isThereWay 188 = .ok (.goto (-148), 3) := by decide +kernel
theorem dX10_isThereWay_191 : decode cX10_isThereWay 191 = .ok (.aload_n 2, 1) := by decide +kernel
theorem dX10_isThereWay_192 : decode cX10_isThereWay 192 = .ok (.iconst 0, 1) := by decide +kernel
theorem dX10_isThereWay_193 : decode cX10_isThereWay 193 = .ok (.iaload, 1) := by decide +kernel
theorem dX10_isThereWay_194 : decode cX10_isThereWay 194 = .ok (.aload_n 1, 1) := by decide +kernel
theorem dX10_isThereWay_195 : decode cX10_isThereWay 195 = .ok (.getfield 64, 3) := by decide +kernel
theorem dX10_isThereWay_198 : decode cX10_isThereWay 198 = .ok (.if_icmp .ge 7, 3) := by decide +kernel
theorem dX10_isThereWay_201 : decode cX10_isThereWay 201 = .ok (.iconst 1, 1) := by decide +kernel
theorem dX10_isThereWay_202 : decode cX10_isThereWay 202 = .ok (.goto 4, 3) := by decide +kernel
theorem dX10_isThereWay_205 : decode cX10_isThereWay 205 = .ok (.iconst 0, 1) := by decide +kernel
theorem dX10_isThereWay_206 : decode cX10_isThereWay 206 = .ok (.ireturn, 1) := by decide +kernel
theorem dX10_layHeels_0 : decode cX10_layHeels 0 = .ok (.iconst 0, 1) := by decide +kernel
theorem dX10_layHeels_1 : decode cX10_layHeels 1 = .ok (.istore 4, 2) := by decide +kernel
theorem dX10_layHeels_3 : decode cX10_layHeels 3 = .ok (.aload_n 1, 1) := by decide +kernel
theorem dX10_layHeels_4 : decode cX10_layHeels 4 = .ok (.invokevirtual 45, 3) := by decide +kernel
theorem dX10_layHeels_7 : decode cX10_layHeels 7 = .ok (.istore 5, 2) := by decide +kernel
theorem dX10_layHeels_9 : decode cX10_layHeels 9 = .ok (.iconst 0, 1) := by decide +kernel
theorem dX10_layHeels_10 : decode cX10_layHeels 10 = .ok (.istore 6, 2) := by decide +kernel
theorem dX10_layHeels_12 : decode cX10_layHeels 12 = .ok (.iconst 0, 1) := by decide +kernel
theorem dX10_layHeels_13 : decode cX10_layHeels 13 = .ok (.istore 7, 2) := by decide +kernel
theorem dX10_layHeels_15 : decode cX10_layHeels 15 = .ok (.iload_n 2, 1) := by decide +kernel
theorem dX10_layHeels_16 : decode cX10_layHeels 16 = .ok (.istore 8, 2) := by decide +kernel
theorem dX10_layHeels_18 : decode cX10_layHeels 18 = .ok (.iload 8, 2) := by decide +kernel
theorem dX10_layHeels_20 : decode cX10_layHeels 20 = .ok (.ifCond .le 146, 3) := by decide +kernel
theorem dX10_layHeels_23 : decode cX10_layHeels 23 = .ok (.iload 7, 2) := by decide +kernel
theorem dX10_layHeels_25 : decode cX10_layHeels 25 = .ok (.aload_n 3, 1) := by decide +kernel
theorem dX10_layHeels_26 : decode cX10_layHeels 26 = .ok (.arraylength, 1) := by decide +kernel
theorem dX10_layHeels_27 : decode cX10_layHeels 27 = .ok (.if_icmp .ge 139, 3) := by decide +kernel
theorem dX10_layHeels_30 : decode cX10_layHeels 30 = .ok (.iload 7, 2) := by decide +kernel
theorem dX10_layHeels_32 : decode cX10_layHeels 32 = .ok (.ifCond .ne 8, 3) := by decide +kernel
theorem dX10_layHeels_35 : decode cX10_layHeels 35 = .ok (.ldc 44, 2) := by decide +kernel
theorem dX10_layHeels_37 : decode cX10_layHeels 37 = .ok (.goto 14, 3) := by decide +kernel
theorem dX10_layHeels_40 : decode cX10_layHeels 40 = .ok (.aload_n 3, 1) := by decide +kernel
theorem dX10_layHeels_41 : decode cX10_layHeels 41 = .ok (.iload 7, 2) := by decide +kernel
theorem dX10_layHeels_43 : decode cX10_layHeels 43 = .ok (.iconst 1, 1) := by decide +kernel
theorem dX10_layHeels_44 : decode cX10_layHeels 44 = .ok (.isub, 1) := by decide +kernel
theorem dX10_layHeels_45 : decode cX10_layHeels 45 = .ok (.iaload, 1) := by decide +kernel
theorem dX10_layHeels_46 : decode cX10_layHeels 46 = .ok (.aload_n 1, 1) := by decide +kernel
theorem dX10_layHeels_47 : decode cX10_layHeels 47 = .ok (.getfield 64, 3) := by decide +kernel
theorem dX10_layHeels_50 : decode cX10_layHeels 50 = .ok (.iadd, 1) := by decide +kernel
theorem dX10_layHeels_51 : decode cX10_layHeels 51 = .ok (.istore 9, 2) := by decide +kernel
theorem dX10_layHeels_53 : decode cX10_layHeels 53 = .ok (.iload 4, 2) := by decide +kernel
theorem dX10_layHeels_55 : decode cX10_layHeels 55 = .ok (.istore 10, 2) := by decide +kernel
theorem dX10_layHeels_57 : decode cX10_layHeels 57 = .ok (.iload 10, 2) := by decide +kernel
theorem dX10_layHeels_59 : decode cX10_layHeels 59 = .ok (.iload 5, 2) := by decide +kernel
theorem dX10_layHeels_61 : decode cX10_layHeels 61 = .ok (.if_icmp .ge 39, 3) := by decide +kernel
theorem dX10_layHeels_64 : decode cX10_layHeels 64 = .ok (.aload_n 0, 1) := by decide +kernel
theorem dX10_layHeels_65 : decode cX10_layHeels 65 = .ok (.getfield 13, 3) := by decide +kernel
theorem dX10_layHeels_68 : decode cX10_layHeels 68 = .ok (.iload 8, 2) := by decide +kernel
theorem dX10_layHeels_70 : decode cX10_layHeels 70 = .ok (.iload 10, 2) := by decide +kernel
theorem dX10_layHeels_72 : decode cX10_layHeels 72 = .ok (.iload 9, 2) := by decide +kernel
theorem dX10_layHeels_74 : decode cX10_layHeels 74 = .ok (.if_icmp .le 7, 3) := by decide +kernel
theorem dX10_layHeels_77 : decode cX10_layHeels 77 = .ok (.iconst 1, 1) := by decide +kernel
theorem dX10_layHeels_78 : decode cX10_layHeels 78 = .ok (.goto 4, 3) := by decide +kernel
theorem dX10_layHeels_81 : decode cX10_layHeels 81 = .ok (.iconst 0, 1) := by decide +kernel
theorem dX10_layHeels_82 : decode cX10_layHeels 82 = .ok (.invokestatic 74, 3) := by decide +kernel
theorem dX10_layHeels_85 : decode cX10_layHeels 85 = .ok (.aaload, 1) := by decide +kernel
theorem dX10_layHeels_86 : decode cX10_layHeels 86 = .ok (.iload 10, 2) := by decide +kernel
theorem dX10_layHeels_88 : decode cX10_layHeels 88 = .ok (.iaload, 1) := by decide +kernel
theorem dX10_layHeels_89 : decode cX10_layHeels 89 = .ok (.iload 8, 2) := by decide +kernel
theorem dX10_layHeels_91 : decode cX10_layHeels 91 = .ok (.if_icmp .eq 9, 3) := by decide +kernel
theorem dX10_layHeels_94 : decode cX10_layHeels 94 = .ok (.iinc 10 1, 3) := by decide +kernel
theorem dX10_layHeels_97 : decode cX10_layHeels 97 = .ok (.goto (-40), 3) := by decide +kernel
theorem dX10_layHeels_100 : decode cX10_layHeels 100 = .ok (.aload_n 3, 1) := by decide +kernel
theorem dX10_layHeels_101 : decode cX10_layHeels 101 = .ok (.iload 7, 2) := by decide +kernel
theorem dX10_layHeels_103 : decode cX10_layHeels 103 = .ok (.iinc 7 1, 3) := by decide +kernel
theorem dX10_layHeels_106 : decode cX10_layHeels 106 = .ok (.iload 10, 2) := by decide +kernel
theorem dX10_layHeels_108 : decode cX10_layHeels 108 = .ok (.iastore, 1) := by decide +kernel
theorem dX10_layHeels_109 : decode cX10_layHeels 109 = .ok (.iload 10, 2) := by decide +kernel
theorem dX10_layHeels_111 : decode cX10_layHeels 111 = .ok (.iload 9, 2) := by decide +kernel
theorem dX10_layHeels_113 : decode cX10_layHeels 113 = .ok (.if_icmp .le 7, 3) := by decide +kernel
theorem dX10_layHeels_116 : decode cX10_layHeels 116 = .ok (.iconst 1, 1) := by decide +kernel
theorem dX10_layHeels_117 : decode cX10_layHeels 117 = .ok (.goto 4, 3) := by decide +kernel
theorem dX10_layHeels_120 : decode cX10_layHeels 120 = .ok (.iconst 0, 1) := by decide +kernel
theorem dX10_layHeels_121 : decode cX10_layHeels 121 = .ok (.istore 6, 2) := by decide +kernel
theorem dX10_layHeels_123 : decode cX10_layHeels 123 = .ok (.iload 10, 2) := by decide +kernel
theorem dX10_layHeels_125 : decode cX10_layHeels 125 = .ok (.aload_n 1, 1) := by decide +kernel
theorem dX10_layHeels_126 : decode cX10_layHeels 126 = .ok (.getfield 61, 3) := by decide +kernel
theorem dX10_layHeels_129 : decode cX10_layHeels 129 = .ok (.iadd, 1) := by decide +kernel
theorem dX10_layHeels_130 : decode cX10_layHeels 130 = .ok (.istore 4, 2) := by decide +kernel
theorem dX10_layHeels_132 : decode cX10_layHeels 132 = .ok (.iload 10, 2) := by decide +kernel
theorem dX10_layHeels_134 : decode cX10_layHeels 134 = .ok (.iload 6, 2) := by decide +kernel
theorem dX10_layHeels_136 : decode cX10_layHeels 136 = .ok (.ifCond .eq 10, 3) := by decide +kernel
theorem dX10_layHeels_139 : decode cX10_layHeels 139 = .ok (.aload_n 1, 1) := by decide +kernel
theorem dX10_layHeels_140 : decode cX10_layHeels 140 = .ok (.getfield 64, 3) := by decide +kernel
theorem dX10_layHeels_143 : decode cX10_layHeels 143 = .ok (.goto 7, 3) := by decide +kernel
theorem dX10_layHeels_146 : decode cX10_layHeels 146 = .ok (.aload_n 1, 1) := by decide +kernel
theorem dX10_layHeels_147 : decode cX10_layHeels 147 = .ok (.getfield 71, 3) := by decide +kernel
theorem dX10_layHeels_150 : decode cX10_layHeels 150 = .ok (.iadd, 1) := by decide +kernel
theorem dX10_layHeels_151 : decode cX10_layHeels 151 = .ok (.aload_n 1, 1) := by decide +kernel
theorem dX10_layHeels_152 : decode cX10_layHeels 152 = .ok (.getfield 34, 3) := by decide +kernel
theorem dX10_layHeels_155 : decode cX10_layHeels 155 = .ok (.invokestatic 49, 3) := by decide +kernel
theorem dX10_layHeels_158 : decode cX10_layHeels 158 = .ok (.istore 5, 2) := by decide +kernel
theorem dX10_layHeels_160 : decode cX10_layHeels 160 = .ok (.iinc 8 (-1), 3) := by decide +kernel
theorem dX10_layHeels_163 : decode cX10_layHeels 163 = .ok (.goto (-145), 3) := by decide +kernel
theorem dX10_layHeels_166 : decode cX10_layHeels 166 = .ok (.iload 7, 2) := by decide +kernel
theorem dX10_layHeels_168 : decode cX10_layHeels 168 = .ok (.ireturn, 1) := by decide +kernel
set_option maxHeartbeats 4000000 in
set_option maxRecDepth 100000 in
theorem k_tFrom_0 (l : Launch) (D : va_G) (k : KT) (A : Nat → Prop) (a : Nat → Nat) (z : SK) (G : GS) (p0 : Int32) (ha_p0 : 0 ≤ p0.toInt ∧ p0.toInt ≤ 399) (hci : (G.1 7 6).toInt ≤ 399 ∧ (G.1 7 3).toInt ≤ (G.1 7 4).toInt ∧ ((G.1 7 7).toInt ≤ 0 ∨ (G.1 7 7).toInt + (G.1 7 4).toInt ≤ (G.1 7 6).toInt + 1)) : Met l yX10_findFeetFrom (WS yX10_findFeetFrom cX10_findFeetFrom 8 none) ({ frames := 2, cells := 0, slots := 0, locals := 37 }) (va_Pc [.ref (a 8), .ref (a 7), .int p0, .int 0] (cW D k A a z G)) (va_Qv (fun (G1 : GS) => Bd G1 ∧ Fr [42, 43] [] G G1) (fun (G1 : GS) t => Wd D k A a G1 t.heap) A) 0 0 A := by
  refine Met.ofW (cc := cX10_findFeetFrom) (maxL := 8) (ret := none) (by decide) rfl ?_
  intro p e s m args below meth c s₁ B hml hv
  obtain ⟨rfl, hW, hB_G, hK, hZ⟩ := hv
  have hx := B.exec
  have hb := B.bytes
  have hr := B.returns
  have hts := atoms_spec (ws := WS yX10_findFeetFrom cX10_findFeetFrom 8 none) B.pre
  have hgd : ∀ w ∈ gd, w ∈ WS yX10_findFeetFrom cX10_findFeetFrom 8 none := fun w h => List.mem_cons_of_mem _ h
  have hg : ∀ w ∈ gd, w.before _ s = true := fun w h => hts w (hgd w h)
  have hown : s.vm.findClass RX10 = some m.cls := findClass_of_methodNamed B.named
  have hS : va_S A s.heap s.heap [] := va_S.rf
  have hF : Fr [42, 43] [] G G := Fr.rf
  have hl := lv_entry ([.ref (a 8), .ref (a 7), .int p0, .int 0]) (n := 8) (Nat.le_of_ble_eq_true rfl)
  rw [lg_entry_eq]
  generalize (lg_sl ([.ref (a 8), .ref (a 7), .int p0, .int 0]) ++ List.replicate (8 - (lg_sl ([.ref (a 8), .ref (a 7), .int p0, .int 0])).length) Slot.unset).toArray = ls at hl ⊢
  have hl : lv_has ls 8 [(0, .ref (a 8)), (1, .ref (a 7)), (2, .int p0), (3, .int 0)] := hl
  have b_1 : (-1) ≤ (G.1 7 6).toInt ∧ (G.1 7 6).toInt ≤ 400 := hB_G.i 7 6 rfl rfl
  refine lv_ldc (v := 1000000) hx hb hown (hg (Cond.constant RX10 44 1000000) m997) dX10_findFeetFrom_0 ?_
  refine lv_istore (lv' := [(4, .int 1000000), (0, .ref (a 8)), (1, .ref (a 7)), (2, .int p0), (3, .int 0)]) hx hb dX10_findFeetFrom_2 hl (by decide) rfl (fun ls hl => ?_)
  refine lv_ldc (v := 1000000) hx hb hown (hg (Cond.constant RX10 44 1000000) m997) dX10_findFeetFrom_4 ?_
  refine lv_istore (lv' := [(5, .int 1000000), (4, .int 1000000), (0, .ref (a 8)), (1, .ref (a 7)), (2, .int p0), (3, .int 0)]) hx hb dX10_findFeetFrom_6 hl (by decide) rfl (fun ls hl => ?_)
  refine lv_aload_n hx hb dX10_findFeetFrom_8 rfl (lv_at hl 3 rfl) ?_
  refine S_getR (n := 40) (C := RX0) (T := TX0) (N := 8) hx hb hg iX0 hown hK hW kd_7 rfl 0 (by decide) (hg (Cond.fieldLink RX10 55 "SlabWalk$Course" "lawful" "[Z") m373) (fun _ h9 => h9) rfl dX10_findFeetFrom_9 ?_
  refine lv_iload_n hx hb dX10_findFeetFrom_12 rfl (lv_at hl 4 rfl) ?_
  refine S_zald hx hb hK hW kd_40 (vin (by omega) (by omega)) dX10_findFeetFrom_13 (fun y_2 ey_2 => ?_)
  have ty_2 : 0 ≤ y_2.toInt ∧ y_2.toInt ≤ 1 := hB_G.v ey_2 rfl rfl
  refine W.cut (σ := Unit) (pcJ := 45) (J := fun y H locs ls => ∃ (G_9 : GS), Wd D k A a G_9 H ∧ Bd G_9 ∧ Fr [42, 43] [] G G_9 ∧ Fr [42, 43] [] G G_9 ∧ va_S A s.heap H locs ∧ lv_has ls 8 [(5, .int 1000000), (4, .int 1000000), (0, .ref (a 8)), (1, .ref (a 7)), (2, .int p0), (3, .int 0)]) (stJ := fun _ => []) ?_ (fun hJ_10 => ?_)
  · intro y H locs ls hI
    obtain ⟨G_9, hW, hB_G_9, hF, hq_11, hS, hl⟩ := hI
    refine lv_aload_n hx hb dX10_findFeetFrom_45 rfl (lv_at hl 3 rfl) ?_
    refine S_getR (n := 40) (C := RX0) (T := TX0) (N := 8) hx hb hg iX0 hown hK hW kd_7 rfl 0 (by decide) (hg (Cond.fieldLink RX10 55 "SlabWalk$Course" "lawful" "[Z") m373) (fun _ h9 => h9) rfl dX10_findFeetFrom_46 ?_
    refine lv_iload_n hx hb dX10_findFeetFrom_49 rfl (lv_at hl 4 rfl) ?_
    refine S_zald hx hb hK hW kd_40 (vin (by omega) (by omega)) dX10_findFeetFrom_50 (fun y_12 ey_12 => ?_)
    have ty_12 : 0 ≤ y_12.toInt ∧ y_12.toInt ≤ 1 := hB_G_9.v ey_12 rfl rfl
    refine W.cut (σ := Unit) (pcJ := 133) (J := fun y H locs ls => ∃ (G_18 : GS) (x_13 : Int32) (x_14 : Int32), Wd D k A a G_18 H ∧ Bd G_18 ∧ Fr [42, 43] [] G G_18 ∧ Fr [] [] G_9 G_18 ∧ va_S A s.heap H locs ∧ lv_has ls 8 [(5, .int x_13), (4, .int x_14), (0, .ref (a 8)), (2, .int p0), (3, .int 0)]) (stJ := fun _ => []) ?_ (fun hJ_19 => ?_)
    · intro y H locs ls hI
      obtain ⟨G_18, x_13, x_14, hW, hB_G_18, hF, hq_20, hS, hl⟩ := hI
      refine lv_aload_n hx hb dX10_findFeetFrom_133 rfl (lv_at hl 2 rfl) ?_
      refine S_getR (n := 41) (C := RX10) (T := TX10) (N := 5) hx hb hg iX10 hown hK hW kd_8 rfl 0 (by decide) (hg (Cond.fieldLink RX10 13 "SlabWalk$Trails" "rows" "[[I") m440) (fun _ h9 => h9) rfl dX10_findFeetFrom_134 ?_
      refine lv_iconst (v := 2) hx hb dX10_findFeetFrom_137 (by decide) ?_
      refine lv_iload_n hx hb dX10_findFeetFrom_138 rfl (lv_at hl 4 rfl) ?_
      refine lv_imul hx hb dX10_findFeetFrom_139 ?_
      refine lv_topi (fun y_21 ey_21 => ?_)
      obtain rfl : y_21 = 0 := ey_21.trans (by decide)
      refine S_aald hx hb hK hW kd_41 (vin (by decide) (by decide)) dX10_findFeetFrom_140 ?_
      refine rows_at (n := 42) (rows_c hB_G_18 0 (by decide)) ?_
      refine lv_iload_n hx hb dX10_findFeetFrom_141 rfl (lv_at hl 3 rfl) ?_
      refine lv_iload hx hb dX10_findFeetFrom_142 (lv_at hl 1 rfl) ?_
      refine S_iast hx hb hK hW hS kd_42 (vin (by omega) (by omega)) dX10_findFeetFrom_144 (fun G_22 H locs eG_22 hW hS => ?_)
      have hB_G_22 : Bd G_22 := hB_G_18.put (lo := (-2147483648)) (hi := 2147483647) eG_22 rfl rfl rfl (tI_rng _).1 (tI_rng _).2 (hB_G_18.2.put eG_22 rfl)
      have hF := hF.put eG_22 (Or.inl (by decide))
      refine lv_aload_n hx hb dX10_findFeetFrom_145 rfl (lv_at hl 2 rfl) ?_
      refine S_getR (n := 41) (C := RX10) (T := TX10) (N := 5) hx hb hg iX10 hown hK hW kd_8 rfl 0 (by decide) (hg (Cond.fieldLink RX10 13 "SlabWalk$Trails" "rows" "[[I") m440) (fun _ h9 => h9) rfl dX10_findFeetFrom_146 ?_
      refine lv_iconst (v := 2) hx hb dX10_findFeetFrom_149 (by decide) ?_
      refine lv_iload_n hx hb dX10_findFeetFrom_150 rfl (lv_at hl 4 rfl) ?_
      refine lv_imul hx hb dX10_findFeetFrom_151 ?_
      refine lv_topi (fun y_23 ey_23 => ?_)
      obtain rfl : y_23 = 0 := ey_23.trans (by decide)
      refine lv_iconst (v := 1) hx hb dX10_findFeetFrom_152 (by decide) ?_
      refine lv_iadd hx hb dX10_findFeetFrom_153 ?_
      refine lv_topi (fun y_24 ey_24 => ?_)
      obtain rfl : y_24 = 1 := ey_24.trans (by decide)
      refine S_aald hx hb hK hW kd_41 (vin (by decide) (by decide)) dX10_findFeetFrom_154 ?_
      refine rows_at (n := 43) (rows_c hB_G_22 1 (by decide)) ?_
      refine lv_iload_n hx hb dX10_findFeetFrom_155 rfl (lv_at hl 3 rfl) ?_
      refine lv_iload hx hb dX10_findFeetFrom_156 (lv_at hl 0 rfl) ?_
      refine S_iast hx hb hK hW hS kd_43 (vin (by omega) (by omega)) dX10_findFeetFrom_158 (fun G_25 H locs eG_25 hW hS => ?_)
      have hB_G_25 : Bd G_25 := hB_G_22.put (lo := (-2147483648)) (hi := 2147483647) eG_25 rfl rfl rfl (tI_rng _).1 (tI_rng _).2 (hB_G_22.2.put eG_25 rfl)
      have hF := hF.put eG_25 (Or.inl (by decide))
      exact W.vret hx hb hr (fun t ht _ => ⟨⟨G_25, rfl, ⟨hB_G_25, hF⟩, wd_t ht hW⟩, hS.F ht⟩) hS.2.2 dX10_findFeetFrom_159
    refine lv_if_eq (tgt := 133) hx hb dX10_findFeetFrom_51 (by decide) (fun c_26 => ?_) (fun c_26 => ?_)
    · have c_26 : y_12.toInt = 0 := xI_eq rfl rfl c_26
      have qc_27 : (1000000 : Int32).toInt = 1000000 := rfl
      exact hJ_19 () _ _ _ ⟨G_9, 1000000, 1000000, hW, hB_G_9, hF, Fr.rf, hS, lv_sub hl [0, 1, 2, 4, 5] rfl⟩
    · have c_26 : y_12.toInt ≠ 0 := xI_ne rfl rfl c_26
      refine lv_iconst (v := 2) hx hb dX10_findFeetFrom_54 (by decide) ?_
      refine lv_iconst (v := 1) hx hb dX10_findFeetFrom_55 (by decide) ?_
      refine lv_iload_n hx hb dX10_findFeetFrom_56 rfl (lv_at hl 5 rfl) ?_
      refine lv_isub hx hb dX10_findFeetFrom_57 ?_
      refine lv_topi (fun y_28 ey_28 => ?_)
      obtain rfl : y_28 = 1 := ey_28.trans (by decide)
      refine lv_imul hx hb dX10_findFeetFrom_58 ?_
      refine lv_topi (fun y_29 ey_29 => ?_)
      obtain rfl : y_29 = 2 := ey_29.trans (by decide)
      refine lv_istore (lv' := [(6, .int 2), (5, .int 1000000), (4, .int 1000000), (0, .ref (a 8)), (1, .ref (a 7)), (2, .int p0), (3, .int 0)]) hx hb dX10_findFeetFrom_59 hl (by decide) rfl (fun ls hl => ?_)
      refine lv_iconst (v := 1) hx hb dX10_findFeetFrom_61 (by decide) ?_
      refine lv_aload_n hx hb dX10_findFeetFrom_62 rfl (lv_at hl 3 rfl) ?_
      refine S_getR (n := 41) (C := RX10) (T := TX10) (N := 5) hx hb hg iX10 hown hK hW kd_8 rfl 0 (by decide) (hg (Cond.fieldLink RX10 13 "SlabWalk$Trails" "rows" "[[I") m440) (fun _ h9 => h9) rfl dX10_findFeetFrom_63 ?_
      refine lv_iload hx hb dX10_findFeetFrom_66 (lv_at hl 0 rfl) ?_
      refine S_aald hx hb hK hW kd_41 (vin (by decide) (by decide)) dX10_findFeetFrom_68 ?_
      refine rows_at (n := 44) (rows_c hB_G_9 2 (by decide)) ?_
      refine lv_iload_n hx hb dX10_findFeetFrom_69 rfl (lv_at hl 5 rfl) ?_
      refine lv_aload_n hx hb dX10_findFeetFrom_70 rfl (lv_at hl 4 rfl) ?_
      have b_30 : 0 ≤ (G.1 7 3).toInt ∧ (G.1 7 3).toInt ≤ 60 := hB_G.i 7 3 rfl rfl
      refine S_getI (v := (G.1 7 3)) (C := RX0) (T := TX0) (N := 8) hx hb hg iX0 hown hK hW kd_7 rfl 3 (by decide) (hg (Cond.fieldLink RX10 61 "SlabWalk$Course" "least" "I") m378) (fun _ h9 => h9) rfl (hq_11.i 7 3 (by decide) (by decide)) dX10_findFeetFrom_71 ?_
      refine lv_iadd hx hb dX10_findFeetFrom_74 ?_
      refine lv_topi (fun y_31 ey_31 => ?_)
      have ty_31 : y_31.toInt = p0.toInt + (G.1 7 3).toInt := xI_add rfl rfl ey_31 (by omega) (by omega)
      refine lv_iload_n hx hb dX10_findFeetFrom_75 rfl (lv_at hl 5 rfl) ?_
      refine lv_aload_n hx hb dX10_findFeetFrom_76 rfl (lv_at hl 4 rfl) ?_
      have b_32 : 0 ≤ (G.1 7 4).toInt ∧ (G.1 7 4).toInt ≤ 60 := hB_G.i 7 4 rfl rfl
      refine S_getI (v := (G.1 7 4)) (C := RX0) (T := TX0) (N := 8) hx hb hg iX0 hown hK hW kd_7 rfl 4 (by decide) (hg (Cond.fieldLink RX10 64 "SlabWalk$Course" "most" "I") m383) (fun _ h9 => h9) rfl (hq_11.i 7 4 (by decide) (by decide)) dX10_findFeetFrom_77 ?_
      refine lv_iadd hx hb dX10_findFeetFrom_80 ?_
      refine lv_topi (fun y_33 ey_33 => ?_)
      have ty_33 : y_33.toInt = p0.toInt + (G.1 7 4).toInt := xI_add rfl rfl ey_33 (by omega) (by omega)
      refine S_calli (va_runS (As := [.ref (a 44), .int y_31, .int y_33]) (rest := [.int 1]) ⟨hx, hb, hml, hown, hts⟩ (k_tLeast_44 l D k A a z G_9 y_31 y_33 ⟨by omega, by omega⟩) (va_cwS 3 hts (gd_S hgd m998 m999 m124 m1000) rfl rfl rfl (by decide +kernel) ⟨Nat.le_of_ble_eq_true rfl, Nat.le_of_ble_eq_true rfl⟩) (pre_S hW hB_G_9 hK hZ hS) rfl rfl hl.1 rfl (lv_room (Nat.le_of_ble_eq_true rfl)) dX10_findFeetFrom_81 ⟨Nat.le_of_ble_eq_true rfl, Nat.le_of_ble_eq_true rfl⟩) hS (fun r_34 G_35 H locs hpo hW hS => ?_)
      obtain ⟨hB_G_35, hq_36⟩ := hpo
      have hF := hF.call hq_36 (by decide) (by decide)
      refine lv_iadd hx hb dX10_findFeetFrom_84 ?_
      refine lv_topi (fun y_38 ey_38 => ?_)
      refine lv_istore (lv' := [(5, .int y_38), (6, .int 2), (4, .int 1000000), (0, .ref (a 8)), (1, .ref (a 7)), (2, .int p0), (3, .int 0)]) hx hb dX10_findFeetFrom_85 hl (by decide) rfl (fun ls hl => ?_)
      refine lv_aload_n hx hb dX10_findFeetFrom_87 rfl (lv_at hl 3 rfl) ?_
      refine S_getR (n := 41) (C := RX10) (T := TX10) (N := 5) hx hb hg iX10 hown hK hW kd_8 rfl 0 (by decide) (hg (Cond.fieldLink RX10 13 "SlabWalk$Trails" "rows" "[[I") m440) (fun _ h9 => h9) rfl dX10_findFeetFrom_88 ?_
      refine lv_iload hx hb dX10_findFeetFrom_91 (lv_at hl 1 rfl) ?_
      refine lv_iconst (v := 1) hx hb dX10_findFeetFrom_93 (by decide) ?_
      refine lv_iadd hx hb dX10_findFeetFrom_94 ?_
      refine lv_topi (fun y_39 ey_39 => ?_)
      obtain rfl : y_39 = 3 := ey_39.trans (by decide)
      refine S_aald hx hb hK hW kd_41 (vin (by decide) (by decide)) dX10_findFeetFrom_95 ?_
      refine rows_at (n := 45) (rows_c hB_G_35 3 (by decide)) ?_
      refine lv_iload_n hx hb dX10_findFeetFrom_96 rfl (lv_at hl 5 rfl) ?_
      refine lv_aload_n hx hb dX10_findFeetFrom_97 rfl (lv_at hl 4 rfl) ?_
      refine S_getI (v := (G.1 7 4)) (C := RX0) (T := TX0) (N := 8) hx hb hg iX0 hown hK hW kd_7 rfl 4 (by decide) (hg (Cond.fieldLink RX10 64 "SlabWalk$Course" "most" "I") m383) (fun _ h9 => h9) rfl ((hq_36.i 7 4 (by decide) (by decide)).trans ((hq_11.i 7 4 (by decide) (by decide)).trans (rfl))) dX10_findFeetFrom_98 ?_
      refine lv_iadd hx hb dX10_findFeetFrom_101 ?_
      refine lv_topi (fun y_40 ey_40 => ?_)
      have ty_40 : y_40.toInt = p0.toInt + (G.1 7 4).toInt := xI_add rfl rfl ey_40 (by omega) (by omega)
      refine lv_iconst (v := 1) hx hb dX10_findFeetFrom_102 (by decide) ?_
      refine lv_iadd hx hb dX10_findFeetFrom_103 ?_
      refine lv_topi (fun y_41 ey_41 => ?_)
      have ty_41 : y_41.toInt = y_40.toInt + 1 := xI_add rfl rfl ey_41 (by omega) (by omega)
      refine lv_iload_n hx hb dX10_findFeetFrom_104 rfl (lv_at hl 5 rfl) ?_
      refine lv_aload_n hx hb dX10_findFeetFrom_105 rfl (lv_at hl 4 rfl) ?_
      have b_42 : 0 ≤ (G.1 7 5).toInt ∧ (G.1 7 5).toInt ≤ 99 := hB_G.i 7 5 rfl rfl
      refine S_getI (v := (G.1 7 5)) (C := RX0) (T := TX0) (N := 8) hx hb hg iX0 hown hK hW kd_7 rfl 5 (by decide) (hg (Cond.fieldLink RX10 71 "SlabWalk$Course" "leap" "I") m386) (fun _ h9 => h9) rfl ((hq_36.i 7 5 (by decide) (by decide)).trans (hq_11.i 7 5 (by decide) (by decide))) dX10_findFeetFrom_106 ?_
      refine lv_iadd hx hb dX10_findFeetFrom_109 ?_
      refine lv_topi (fun y_43 ey_43 => ?_)
      have ty_43 : y_43.toInt = p0.toInt + (G.1 7 5).toInt := xI_add rfl rfl ey_43 (by omega) (by omega)
      refine lv_aload_n hx hb dX10_findFeetFrom_110 rfl (lv_at hl 4 rfl) ?_
      refine S_getI (v := (G.1 7 6)) (C := RX0) (T := TX0) (N := 8) hx hb hg iX0 hown hK hW kd_7 rfl 6 (by decide) (hg (Cond.fieldLink RX10 34 "SlabWalk$Course" "last" "I") m388) (fun _ h9 => h9) rfl ((hq_36.i 7 6 (by decide) (by decide)).trans ((hq_11.i 7 6 (by decide) (by decide)).trans (rfl))) dX10_findFeetFrom_111 ?_
      refine va_mmin hx hb (by rw [hml]; exact hl.1.symm) hown (hg (Cond.methodLink RX10 49 Lib.Math.min.name) m1001) (hg (Cond.static Lib.Math.min.name) m636) (hg (Cond.initialized "java/lang/Math") m132) (hg (Cond.code Lib.Math.min.name Lib.Math.min.code 2 (some .int)) m637) (Nat.le_of_ble_eq_true rfl) (Nat.le_of_ble_eq_true rfl) (Nat.le_of_ble_eq_true rfl) (Nat.le_of_ble_eq_true rfl) dX10_findFeetFrom_114 ?_
      refine lv_topi (fun y_44 ey_44 => ?_)
      have ty_44 := xI_min (X := y_43.toInt) (Y := (G.1 7 6).toInt) rfl rfl ey_44
      refine S_calli (va_runS (As := [.ref (a 45), .int y_41, .int y_44]) (rest := []) ⟨hx, hb, hml, hown, hts⟩ (k_tLeast_45 l D k A a z G_35 y_41 y_44 ⟨by omega, by omega⟩) (va_cwS 3 hts (gd_S hgd m998 m999 m124 m1000) rfl rfl rfl (by decide +kernel) ⟨Nat.le_of_ble_eq_true rfl, Nat.le_of_ble_eq_true rfl⟩) (pre_S hW hB_G_35 hK hZ hS) rfl rfl hl.1 rfl (lv_room (Nat.le_of_ble_eq_true rfl)) dX10_findFeetFrom_117 ⟨Nat.le_of_ble_eq_true rfl, Nat.le_of_ble_eq_true rfl⟩) hS (fun r_45 G_46 H locs hpo hW hS => ?_)
      obtain ⟨hB_G_46, hq_47⟩ := hpo
      have hF := hF.call hq_47 (by decide) (by decide)
      refine lv_istore (lv' := [(7, .int r_45), (5, .int y_38), (6, .int 2), (4, .int 1000000), (0, .ref (a 8)), (1, .ref (a 7)), (2, .int p0), (3, .int 0)]) hx hb dX10_findFeetFrom_120 hl (by decide) rfl (fun ls hl => ?_)
      refine lv_iload hx hb dX10_findFeetFrom_122 (lv_at hl 1 rfl) ?_
      refine lv_iconst (v := 1) hx hb dX10_findFeetFrom_124 (by decide) ?_
      refine lv_iload hx hb dX10_findFeetFrom_125 (lv_at hl 0 rfl) ?_
      refine lv_iadd hx hb dX10_findFeetFrom_127 ?_
      refine lv_topi (fun y_49 ey_49 => ?_)
      refine va_mmin hx hb (by rw [hml]; exact hl.1.symm) hown (hg (Cond.methodLink RX10 49 Lib.Math.min.name) m1001) (hg (Cond.static Lib.Math.min.name) m636) (hg (Cond.initialized "java/lang/Math") m132) (hg (Cond.code Lib.Math.min.name Lib.Math.min.code 2 (some .int)) m637) (Nat.le_of_ble_eq_true rfl) (Nat.le_of_ble_eq_true rfl) (Nat.le_of_ble_eq_true rfl) (Nat.le_of_ble_eq_true rfl) dX10_findFeetFrom_128 ?_
      refine lv_topi (fun y_50 ey_50 => ?_)
      have ty_50 := xI_min (X := y_38.toInt) (Y := y_49.toInt) rfl rfl ey_50
      refine lv_istore (lv' := [(4, .int y_50), (7, .int r_45), (5, .int y_38), (6, .int 2), (0, .ref (a 8)), (1, .ref (a 7)), (2, .int p0), (3, .int 0)]) hx hb dX10_findFeetFrom_131 hl (by decide) rfl (fun ls hl => ?_)
      exact hJ_19 () _ _ _ ⟨G_46, y_38, y_50, hW, hB_G_46, hF, ((Fr.rf.call hq_36 (by decide) (by decide)).call hq_47 (by decide) (by decide)), hS, lv_sub hl [2, 0, 4, 6, 7] rfl⟩
  refine lv_if_eq (tgt := 45) hx hb dX10_findFeetFrom_14 (by decide) (fun c_51 => ?_) (fun c_51 => ?_)
  · have c_51 : y_2.toInt = 0 := xI_eq rfl rfl c_51
    exact hJ_10 () _ _ _ ⟨G, hW, hB_G, hF, Fr.rf, hS, lv_sub hl [0, 1, 2, 3, 4, 5] rfl⟩
  · have c_51 : y_2.toInt ≠ 0 := xI_ne rfl rfl c_51
    refine lv_iload_n hx hb dX10_findFeetFrom_17 rfl (lv_at hl 4 rfl) ?_
    refine lv_aload_n hx hb dX10_findFeetFrom_18 rfl (lv_at hl 3 rfl) ?_
    have b_52 : 0 ≤ (G.1 7 7).toInt ∧ (G.1 7 7).toInt ≤ 400 := hB_G.i 7 7 rfl rfl
    refine S_getI (v := (G.1 7 7)) (C := RX0) (T := TX0) (N := 8) hx hb hg iX0 hown hK hW kd_7 rfl 7 (by decide) (hg (Cond.fieldLink RX10 58 "SlabWalk$Course" "end" "I") m394) (fun _ h9 => h9) rfl rfl dX10_findFeetFrom_19 ?_
    refine lv_icmp_lt (tgt := 45) hx hb dX10_findFeetFrom_22 (by decide) (fun c_53 => ?_) (fun c_53 => ?_)
    · have c_53 : p0.toInt < (G.1 7 7).toInt := xI_lt rfl rfl c_53
      exact hJ_10 () _ _ _ ⟨G, hW, hB_G, hF, Fr.rf, hS, lv_sub hl [0, 1, 2, 3, 4, 5] rfl⟩
    · have c_53 : (G.1 7 7).toInt ≤ p0.toInt := xI_nlt rfl rfl c_53
      refine lv_iload_n hx hb dX10_findFeetFrom_25 rfl (lv_at hl 5 rfl) ?_
      refine lv_iconst (v := 1) hx hb dX10_findFeetFrom_26 (by decide) ?_
      refine lv_icmp_ne (tgt := 34) hx hb dX10_findFeetFrom_27 (by decide) (fun c_54 => ?_) (fun c_54 => ?_)
      · have c_54 : (0 : Int) ≠ (1 : Int) := xI_ne rfl rfl c_54
        refine lv_ldc (v := 1000000) hx hb hown (hg (Cond.constant RX10 44 1000000) m997) dX10_findFeetFrom_34 ?_
        refine lv_istore (lv' := [(5, .int 1000000), (4, .int 1000000), (0, .ref (a 8)), (1, .ref (a 7)), (2, .int p0), (3, .int 0)]) hx hb dX10_findFeetFrom_36 hl (by decide) rfl (fun ls hl => ?_)
        refine lv_iload hx hb dX10_findFeetFrom_38 (lv_at hl 0 rfl) ?_
        refine lv_istore (lv' := [(4, .int 1000000), (5, .int 1000000), (0, .ref (a 8)), (1, .ref (a 7)), (2, .int p0), (3, .int 0)]) hx hb dX10_findFeetFrom_40 hl (by decide) rfl (fun ls hl => ?_)
        refine lv_goto (tgt := 133) hx hb dX10_findFeetFrom_42 (by decide) ?_
        refine lv_aload_n hx hb dX10_findFeetFrom_133 rfl (lv_at hl 2 rfl) ?_
        refine S_getR (n := 41) (C := RX10) (T := TX10) (N := 5) hx hb hg iX10 hown hK hW kd_8 rfl 0 (by decide) (hg (Cond.fieldLink RX10 13 "SlabWalk$Trails" "rows" "[[I") m440) (fun _ h9 => h9) rfl dX10_findFeetFrom_134 ?_
        refine lv_iconst (v := 2) hx hb dX10_findFeetFrom_137 (by decide) ?_
        refine lv_iload_n hx hb dX10_findFeetFrom_138 rfl (lv_at hl 5 rfl) ?_
        refine lv_imul hx hb dX10_findFeetFrom_139 ?_
        refine lv_topi (fun y_55 ey_55 => ?_)
        obtain rfl : y_55 = 0 := ey_55.trans (by decide)
        refine S_aald hx hb hK hW kd_41 (vin (by decide) (by decide)) dX10_findFeetFrom_140 ?_
        refine rows_at (n := 42) (rows_c hB_G 0 (by decide)) ?_
        refine lv_iload_n hx hb dX10_findFeetFrom_141 rfl (lv_at hl 4 rfl) ?_
        refine lv_iload hx hb dX10_findFeetFrom_142 (lv_at hl 0 rfl) ?_
        refine S_iast hx hb hK hW hS kd_42 (vin (by omega) (by omega)) dX10_findFeetFrom_144 (fun G_56 H locs eG_56 hW hS => ?_)
        have hB_G_56 : Bd G_56 := hB_G.put (lo := (-2147483648)) (hi := 2147483647) eG_56 rfl rfl rfl (tI_rng _).1 (tI_rng _).2 (hB_G.2.put eG_56 rfl)
        have hF := hF.put eG_56 (Or.inl (by decide))
        refine lv_aload_n hx hb dX10_findFeetFrom_145 rfl (lv_at hl 2 rfl) ?_
        refine S_getR (n := 41) (C := RX10) (T := TX10) (N := 5) hx hb hg iX10 hown hK hW kd_8 rfl 0 (by decide) (hg (Cond.fieldLink RX10 13 "SlabWalk$Trails" "rows" "[[I") m440) (fun _ h9 => h9) rfl dX10_findFeetFrom_146 ?_
        refine lv_iconst (v := 2) hx hb dX10_findFeetFrom_149 (by decide) ?_
        refine lv_iload_n hx hb dX10_findFeetFrom_150 rfl (lv_at hl 5 rfl) ?_
        refine lv_imul hx hb dX10_findFeetFrom_151 ?_
        refine lv_topi (fun y_57 ey_57 => ?_)
        obtain rfl : y_57 = 0 := ey_57.trans (by decide)
        refine lv_iconst (v := 1) hx hb dX10_findFeetFrom_152 (by decide) ?_
        refine lv_iadd hx hb dX10_findFeetFrom_153 ?_
        refine lv_topi (fun y_58 ey_58 => ?_)
        obtain rfl : y_58 = 1 := ey_58.trans (by decide)
        refine S_aald hx hb hK hW kd_41 (vin (by decide) (by decide)) dX10_findFeetFrom_154 ?_
        refine rows_at (n := 43) (rows_c hB_G_56 1 (by decide)) ?_
        refine lv_iload_n hx hb dX10_findFeetFrom_155 rfl (lv_at hl 4 rfl) ?_
        refine lv_iload hx hb dX10_findFeetFrom_156 (lv_at hl 1 rfl) ?_
        refine S_iast hx hb hK hW hS kd_43 (vin (by omega) (by omega)) dX10_findFeetFrom_158 (fun G_59 H locs eG_59 hW hS => ?_)
        have hB_G_59 : Bd G_59 := hB_G_56.put (lo := (-2147483648)) (hi := 2147483647) eG_59 rfl rfl rfl (tI_rng _).1 (tI_rng _).2 (hB_G_56.2.put eG_59 rfl)
        have hF := hF.put eG_59 (Or.inl (by decide))
        exact W.vret hx hb hr (fun t ht _ => ⟨⟨G_59, rfl, ⟨hB_G_59, hF⟩, wd_t ht hW⟩, hS.F ht⟩) hS.2.2 dX10_findFeetFrom_159
      · have c_54 : (0 : Int) = (1 : Int) := xI_eq rfl rfl c_54
        exfalso; omega

set_option maxHeartbeats 4000000 in
set_option maxRecDepth 100000 in
theorem k_tFrom_1 (l : Launch) (D : va_G) (k : KT) (A : Nat → Prop) (a : Nat → Nat) (z : SK) (G : GS) (p0 : Int32) (ha_p0 : 0 ≤ p0.toInt ∧ p0.toInt ≤ 399) (hci : (G.1 7 6).toInt ≤ 399 ∧ (G.1 7 3).toInt ≤ (G.1 7 4).toInt ∧ ((G.1 7 7).toInt ≤ 0 ∨ (G.1 7 7).toInt + (G.1 7 4).toInt ≤ (G.1 7 6).toInt + 1)) : Met l yX10_findFeetFrom (WS yX10_findFeetFrom cX10_findFeetFrom 8 none) ({ frames := 2, cells := 0, slots := 0, locals := 37 }) (va_Pc [.ref (a 8), .ref (a 7), .int p0, .int 1] (cW D k A a z G)) (va_Qv (fun (G1 : GS) => Bd G1 ∧ Fr [44, 45] [] G G1) (fun (G1 : GS) t => Wd D k A a G1 t.heap) A) 0 0 A := by
  refine Met.ofW (cc := cX10_findFeetFrom) (maxL := 8) (ret := none) (by decide) rfl ?_
  intro p e s m args below meth c s₁ B hml hv
  obtain ⟨rfl, hW, hB_G, hK, hZ⟩ := hv
  have hx := B.exec
  have hb := B.bytes
  have hr := B.returns
  have hts := atoms_spec (ws := WS yX10_findFeetFrom cX10_findFeetFrom 8 none) B.pre
  have hgd : ∀ w ∈ gd, w ∈ WS yX10_findFeetFrom cX10_findFeetFrom 8 none := fun w h => List.mem_cons_of_mem _ h
  have hg : ∀ w ∈ gd, w.before _ s = true := fun w h => hts w (hgd w h)
  have hown : s.vm.findClass RX10 = some m.cls := findClass_of_methodNamed B.named
  have hS : va_S A s.heap s.heap [] := va_S.rf
  have hF : Fr [44, 45] [] G G := Fr.rf
  have hl := lv_entry ([.ref (a 8), .ref (a 7), .int p0, .int 1]) (n := 8) (Nat.le_of_ble_eq_true rfl)
  rw [lg_entry_eq]
  generalize (lg_sl ([.ref (a 8), .ref (a 7), .int p0, .int 1]) ++ List.replicate (8 - (lg_sl ([.ref (a 8), .ref (a 7), .int p0, .int 1])).length) Slot.unset).toArray = ls at hl ⊢
  have hl : lv_has ls 8 [(0, .ref (a 8)), (1, .ref (a 7)), (2, .int p0), (3, .int 1)] := hl
  have b_1 : (-1) ≤ (G.1 7 6).toInt ∧ (G.1 7 6).toInt ≤ 400 := hB_G.i 7 6 rfl rfl
  refine lv_ldc (v := 1000000) hx hb hown (hg (Cond.constant RX10 44 1000000) m997) dX10_findFeetFrom_0 ?_
  refine lv_istore (lv' := [(4, .int 1000000), (0, .ref (a 8)), (1, .ref (a 7)), (2, .int p0), (3, .int 1)]) hx hb dX10_findFeetFrom_2 hl (by decide) rfl (fun ls hl => ?_)
  refine lv_ldc (v := 1000000) hx hb hown (hg (Cond.constant RX10 44 1000000) m997) dX10_findFeetFrom_4 ?_
  refine lv_istore (lv' := [(5, .int 1000000), (4, .int 1000000), (0, .ref (a 8)), (1, .ref (a 7)), (2, .int p0), (3, .int 1)]) hx hb dX10_findFeetFrom_6 hl (by decide) rfl (fun ls hl => ?_)
  refine lv_aload_n hx hb dX10_findFeetFrom_8 rfl (lv_at hl 3 rfl) ?_
  refine S_getR (n := 40) (C := RX0) (T := TX0) (N := 8) hx hb hg iX0 hown hK hW kd_7 rfl 0 (by decide) (hg (Cond.fieldLink RX10 55 "SlabWalk$Course" "lawful" "[Z") m373) (fun _ h9 => h9) rfl dX10_findFeetFrom_9 ?_
  refine lv_iload_n hx hb dX10_findFeetFrom_12 rfl (lv_at hl 4 rfl) ?_
  refine S_zald hx hb hK hW kd_40 (vin (by omega) (by omega)) dX10_findFeetFrom_13 (fun y_2 ey_2 => ?_)
  have ty_2 : 0 ≤ y_2.toInt ∧ y_2.toInt ≤ 1 := hB_G.v ey_2 rfl rfl
  refine W.cut (σ := Unit) (pcJ := 45) (J := fun y H locs ls => ∃ (G_9 : GS), Wd D k A a G_9 H ∧ Bd G_9 ∧ Fr [44, 45] [] G G_9 ∧ Fr [44, 45] [] G G_9 ∧ va_S A s.heap H locs ∧ lv_has ls 8 [(5, .int 1000000), (4, .int 1000000), (0, .ref (a 8)), (1, .ref (a 7)), (2, .int p0), (3, .int 1)]) (stJ := fun _ => []) ?_ (fun hJ_10 => ?_)
  · intro y H locs ls hI
    obtain ⟨G_9, hW, hB_G_9, hF, hq_11, hS, hl⟩ := hI
    refine lv_aload_n hx hb dX10_findFeetFrom_45 rfl (lv_at hl 3 rfl) ?_
    refine S_getR (n := 40) (C := RX0) (T := TX0) (N := 8) hx hb hg iX0 hown hK hW kd_7 rfl 0 (by decide) (hg (Cond.fieldLink RX10 55 "SlabWalk$Course" "lawful" "[Z") m373) (fun _ h9 => h9) rfl dX10_findFeetFrom_46 ?_
    refine lv_iload_n hx hb dX10_findFeetFrom_49 rfl (lv_at hl 4 rfl) ?_
    refine S_zald hx hb hK hW kd_40 (vin (by omega) (by omega)) dX10_findFeetFrom_50 (fun y_12 ey_12 => ?_)
    have ty_12 : 0 ≤ y_12.toInt ∧ y_12.toInt ≤ 1 := hB_G_9.v ey_12 rfl rfl
    refine W.cut (σ := Unit) (pcJ := 133) (J := fun y H locs ls => ∃ (G_18 : GS) (x_13 : Int32) (x_14 : Int32), Wd D k A a G_18 H ∧ Bd G_18 ∧ Fr [44, 45] [] G G_18 ∧ Fr [] [] G_9 G_18 ∧ va_S A s.heap H locs ∧ lv_has ls 8 [(5, .int x_13), (4, .int x_14), (0, .ref (a 8)), (2, .int p0), (3, .int 1)]) (stJ := fun _ => []) ?_ (fun hJ_19 => ?_)
    · intro y H locs ls hI
      obtain ⟨G_18, x_13, x_14, hW, hB_G_18, hF, hq_20, hS, hl⟩ := hI
      refine lv_aload_n hx hb dX10_findFeetFrom_133 rfl (lv_at hl 2 rfl) ?_
      refine S_getR (n := 41) (C := RX10) (T := TX10) (N := 5) hx hb hg iX10 hown hK hW kd_8 rfl 0 (by decide) (hg (Cond.fieldLink RX10 13 "SlabWalk$Trails" "rows" "[[I") m440) (fun _ h9 => h9) rfl dX10_findFeetFrom_134 ?_
      refine lv_iconst (v := 2) hx hb dX10_findFeetFrom_137 (by decide) ?_
      refine lv_iload_n hx hb dX10_findFeetFrom_138 rfl (lv_at hl 4 rfl) ?_
      refine lv_imul hx hb dX10_findFeetFrom_139 ?_
      refine lv_topi (fun y_21 ey_21 => ?_)
      obtain rfl : y_21 = 2 := ey_21.trans (by decide)
      refine S_aald hx hb hK hW kd_41 (vin (by decide) (by decide)) dX10_findFeetFrom_140 ?_
      refine rows_at (n := 44) (rows_c hB_G_18 2 (by decide)) ?_
      refine lv_iload_n hx hb dX10_findFeetFrom_141 rfl (lv_at hl 3 rfl) ?_
      refine lv_iload hx hb dX10_findFeetFrom_142 (lv_at hl 1 rfl) ?_
      refine S_iast hx hb hK hW hS kd_44 (vin (by omega) (by omega)) dX10_findFeetFrom_144 (fun G_22 H locs eG_22 hW hS => ?_)
      have hB_G_22 : Bd G_22 := hB_G_18.put (lo := (-2147483648)) (hi := 2147483647) eG_22 rfl rfl rfl (tI_rng _).1 (tI_rng _).2 (hB_G_18.2.put eG_22 rfl)
      have hF := hF.put eG_22 (Or.inl (by decide))
      refine lv_aload_n hx hb dX10_findFeetFrom_145 rfl (lv_at hl 2 rfl) ?_
      refine S_getR (n := 41) (C := RX10) (T := TX10) (N := 5) hx hb hg iX10 hown hK hW kd_8 rfl 0 (by decide) (hg (Cond.fieldLink RX10 13 "SlabWalk$Trails" "rows" "[[I") m440) (fun _ h9 => h9) rfl dX10_findFeetFrom_146 ?_
      refine lv_iconst (v := 2) hx hb dX10_findFeetFrom_149 (by decide) ?_
      refine lv_iload_n hx hb dX10_findFeetFrom_150 rfl (lv_at hl 4 rfl) ?_
      refine lv_imul hx hb dX10_findFeetFrom_151 ?_
      refine lv_topi (fun y_23 ey_23 => ?_)
      obtain rfl : y_23 = 2 := ey_23.trans (by decide)
      refine lv_iconst (v := 1) hx hb dX10_findFeetFrom_152 (by decide) ?_
      refine lv_iadd hx hb dX10_findFeetFrom_153 ?_
      refine lv_topi (fun y_24 ey_24 => ?_)
      obtain rfl : y_24 = 3 := ey_24.trans (by decide)
      refine S_aald hx hb hK hW kd_41 (vin (by decide) (by decide)) dX10_findFeetFrom_154 ?_
      refine rows_at (n := 45) (rows_c hB_G_22 3 (by decide)) ?_
      refine lv_iload_n hx hb dX10_findFeetFrom_155 rfl (lv_at hl 3 rfl) ?_
      refine lv_iload hx hb dX10_findFeetFrom_156 (lv_at hl 0 rfl) ?_
      refine S_iast hx hb hK hW hS kd_45 (vin (by omega) (by omega)) dX10_findFeetFrom_158 (fun G_25 H locs eG_25 hW hS => ?_)
      have hB_G_25 : Bd G_25 := hB_G_22.put (lo := (-2147483648)) (hi := 2147483647) eG_25 rfl rfl rfl (tI_rng _).1 (tI_rng _).2 (hB_G_22.2.put eG_25 rfl)
      have hF := hF.put eG_25 (Or.inl (by decide))
      exact W.vret hx hb hr (fun t ht _ => ⟨⟨G_25, rfl, ⟨hB_G_25, hF⟩, wd_t ht hW⟩, hS.F ht⟩) hS.2.2 dX10_findFeetFrom_159
    refine lv_if_eq (tgt := 133) hx hb dX10_findFeetFrom_51 (by decide) (fun c_26 => ?_) (fun c_26 => ?_)
    · have c_26 : y_12.toInt = 0 := xI_eq rfl rfl c_26
      have qc_27 : (1000000 : Int32).toInt = 1000000 := rfl
      exact hJ_19 () _ _ _ ⟨G_9, 1000000, 1000000, hW, hB_G_9, hF, Fr.rf, hS, lv_sub hl [0, 1, 2, 4, 5] rfl⟩
    · have c_26 : y_12.toInt ≠ 0 := xI_ne rfl rfl c_26
      refine lv_iconst (v := 2) hx hb dX10_findFeetFrom_54 (by decide) ?_
      refine lv_iconst (v := 1) hx hb dX10_findFeetFrom_55 (by decide) ?_
      refine lv_iload_n hx hb dX10_findFeetFrom_56 rfl (lv_at hl 5 rfl) ?_
      refine lv_isub hx hb dX10_findFeetFrom_57 ?_
      refine lv_topi (fun y_28 ey_28 => ?_)
      obtain rfl : y_28 = 0 := ey_28.trans (by decide)
      refine lv_imul hx hb dX10_findFeetFrom_58 ?_
      refine lv_topi (fun y_29 ey_29 => ?_)
      obtain rfl : y_29 = 0 := ey_29.trans (by decide)
      refine lv_istore (lv' := [(6, .int 0), (5, .int 1000000), (4, .int 1000000), (0, .ref (a 8)), (1, .ref (a 7)), (2, .int p0), (3, .int 1)]) hx hb dX10_findFeetFrom_59 hl (by decide) rfl (fun ls hl => ?_)
      refine lv_iconst (v := 1) hx hb dX10_findFeetFrom_61 (by decide) ?_
      refine lv_aload_n hx hb dX10_findFeetFrom_62 rfl (lv_at hl 3 rfl) ?_
      refine S_getR (n := 41) (C := RX10) (T := TX10) (N := 5) hx hb hg iX10 hown hK hW kd_8 rfl 0 (by decide) (hg (Cond.fieldLink RX10 13 "SlabWalk$Trails" "rows" "[[I") m440) (fun _ h9 => h9) rfl dX10_findFeetFrom_63 ?_
      refine lv_iload hx hb dX10_findFeetFrom_66 (lv_at hl 0 rfl) ?_
      refine S_aald hx hb hK hW kd_41 (vin (by decide) (by decide)) dX10_findFeetFrom_68 ?_
      refine rows_at (n := 42) (rows_c hB_G_9 0 (by decide)) ?_
      refine lv_iload_n hx hb dX10_findFeetFrom_69 rfl (lv_at hl 5 rfl) ?_
      refine lv_aload_n hx hb dX10_findFeetFrom_70 rfl (lv_at hl 4 rfl) ?_
      have b_30 : 0 ≤ (G.1 7 3).toInt ∧ (G.1 7 3).toInt ≤ 60 := hB_G.i 7 3 rfl rfl
      refine S_getI (v := (G.1 7 3)) (C := RX0) (T := TX0) (N := 8) hx hb hg iX0 hown hK hW kd_7 rfl 3 (by decide) (hg (Cond.fieldLink RX10 61 "SlabWalk$Course" "least" "I") m378) (fun _ h9 => h9) rfl (hq_11.i 7 3 (by decide) (by decide)) dX10_findFeetFrom_71 ?_
      refine lv_iadd hx hb dX10_findFeetFrom_74 ?_
      refine lv_topi (fun y_31 ey_31 => ?_)
      have ty_31 : y_31.toInt = p0.toInt + (G.1 7 3).toInt := xI_add rfl rfl ey_31 (by omega) (by omega)
      refine lv_iload_n hx hb dX10_findFeetFrom_75 rfl (lv_at hl 5 rfl) ?_
      refine lv_aload_n hx hb dX10_findFeetFrom_76 rfl (lv_at hl 4 rfl) ?_
      have b_32 : 0 ≤ (G.1 7 4).toInt ∧ (G.1 7 4).toInt ≤ 60 := hB_G.i 7 4 rfl rfl
      refine S_getI (v := (G.1 7 4)) (C := RX0) (T := TX0) (N := 8) hx hb hg iX0 hown hK hW kd_7 rfl 4 (by decide) (hg (Cond.fieldLink RX10 64 "SlabWalk$Course" "most" "I") m383) (fun _ h9 => h9) rfl (hq_11.i 7 4 (by decide) (by decide)) dX10_findFeetFrom_77 ?_
      refine lv_iadd hx hb dX10_findFeetFrom_80 ?_
      refine lv_topi (fun y_33 ey_33 => ?_)
      have ty_33 : y_33.toInt = p0.toInt + (G.1 7 4).toInt := xI_add rfl rfl ey_33 (by omega) (by omega)
      refine S_calli (va_runS (As := [.ref (a 42), .int y_31, .int y_33]) (rest := [.int 1]) ⟨hx, hb, hml, hown, hts⟩ (k_tLeast_42 l D k A a z G_9 y_31 y_33 ⟨by omega, by omega⟩) (va_cwS 3 hts (gd_S hgd m998 m999 m124 m1000) rfl rfl rfl (by decide +kernel) ⟨Nat.le_of_ble_eq_true rfl, Nat.le_of_ble_eq_true rfl⟩) (pre_S hW hB_G_9 hK hZ hS) rfl rfl hl.1 rfl (lv_room (Nat.le_of_ble_eq_true rfl)) dX10_findFeetFrom_81 ⟨Nat.le_of_ble_eq_true rfl, Nat.le_of_ble_eq_true rfl⟩) hS (fun r_34 G_35 H locs hpo hW hS => ?_)
      obtain ⟨hB_G_35, hq_36⟩ := hpo
      have hF := hF.call hq_36 (by decide) (by decide)
      refine lv_iadd hx hb dX10_findFeetFrom_84 ?_
      refine lv_topi (fun y_38 ey_38 => ?_)
      refine lv_istore (lv' := [(5, .int y_38), (6, .int 0), (4, .int 1000000), (0, .ref (a 8)), (1, .ref (a 7)), (2, .int p0), (3, .int 1)]) hx hb dX10_findFeetFrom_85 hl (by decide) rfl (fun ls hl => ?_)
      refine lv_aload_n hx hb dX10_findFeetFrom_87 rfl (lv_at hl 3 rfl) ?_
      refine S_getR (n := 41) (C := RX10) (T := TX10) (N := 5) hx hb hg iX10 hown hK hW kd_8 rfl 0 (by decide) (hg (Cond.fieldLink RX10 13 "SlabWalk$Trails" "rows" "[[I") m440) (fun _ h9 => h9) rfl dX10_findFeetFrom_88 ?_
      refine lv_iload hx hb dX10_findFeetFrom_91 (lv_at hl 1 rfl) ?_
      refine lv_iconst (v := 1) hx hb dX10_findFeetFrom_93 (by decide) ?_
      refine lv_iadd hx hb dX10_findFeetFrom_94 ?_
      refine lv_topi (fun y_39 ey_39 => ?_)
      obtain rfl : y_39 = 1 := ey_39.trans (by decide)
      refine S_aald hx hb hK hW kd_41 (vin (by decide) (by decide)) dX10_findFeetFrom_95 ?_
      refine rows_at (n := 43) (rows_c hB_G_35 1 (by decide)) ?_
      refine lv_iload_n hx hb dX10_findFeetFrom_96 rfl (lv_at hl 5 rfl) ?_
      refine lv_aload_n hx hb dX10_findFeetFrom_97 rfl (lv_at hl 4 rfl) ?_
      refine S_getI (v := (G.1 7 4)) (C := RX0) (T := TX0) (N := 8) hx hb hg iX0 hown hK hW kd_7 rfl 4 (by decide) (hg (Cond.fieldLink RX10 64 "SlabWalk$Course" "most" "I") m383) (fun _ h9 => h9) rfl ((hq_36.i 7 4 (by decide) (by decide)).trans ((hq_11.i 7 4 (by decide) (by decide)).trans (rfl))) dX10_findFeetFrom_98 ?_
      refine lv_iadd hx hb dX10_findFeetFrom_101 ?_
      refine lv_topi (fun y_40 ey_40 => ?_)
      have ty_40 : y_40.toInt = p0.toInt + (G.1 7 4).toInt := xI_add rfl rfl ey_40 (by omega) (by omega)
      refine lv_iconst (v := 1) hx hb dX10_findFeetFrom_102 (by decide) ?_
      refine lv_iadd hx hb dX10_findFeetFrom_103 ?_
      refine lv_topi (fun y_41 ey_41 => ?_)
      have ty_41 : y_41.toInt = y_40.toInt + 1 := xI_add rfl rfl ey_41 (by omega) (by omega)
      refine lv_iload_n hx hb dX10_findFeetFrom_104 rfl (lv_at hl 5 rfl) ?_
      refine lv_aload_n hx hb dX10_findFeetFrom_105 rfl (lv_at hl 4 rfl) ?_
      have b_42 : 0 ≤ (G.1 7 5).toInt ∧ (G.1 7 5).toInt ≤ 99 := hB_G.i 7 5 rfl rfl
      refine S_getI (v := (G.1 7 5)) (C := RX0) (T := TX0) (N := 8) hx hb hg iX0 hown hK hW kd_7 rfl 5 (by decide) (hg (Cond.fieldLink RX10 71 "SlabWalk$Course" "leap" "I") m386) (fun _ h9 => h9) rfl ((hq_36.i 7 5 (by decide) (by decide)).trans (hq_11.i 7 5 (by decide) (by decide))) dX10_findFeetFrom_106 ?_
      refine lv_iadd hx hb dX10_findFeetFrom_109 ?_
      refine lv_topi (fun y_43 ey_43 => ?_)
      have ty_43 : y_43.toInt = p0.toInt + (G.1 7 5).toInt := xI_add rfl rfl ey_43 (by omega) (by omega)
      refine lv_aload_n hx hb dX10_findFeetFrom_110 rfl (lv_at hl 4 rfl) ?_
      refine S_getI (v := (G.1 7 6)) (C := RX0) (T := TX0) (N := 8) hx hb hg iX0 hown hK hW kd_7 rfl 6 (by decide) (hg (Cond.fieldLink RX10 34 "SlabWalk$Course" "last" "I") m388) (fun _ h9 => h9) rfl ((hq_36.i 7 6 (by decide) (by decide)).trans ((hq_11.i 7 6 (by decide) (by decide)).trans (rfl))) dX10_findFeetFrom_111 ?_
      refine va_mmin hx hb (by rw [hml]; exact hl.1.symm) hown (hg (Cond.methodLink RX10 49 Lib.Math.min.name) m1001) (hg (Cond.static Lib.Math.min.name) m636) (hg (Cond.initialized "java/lang/Math") m132) (hg (Cond.code Lib.Math.min.name Lib.Math.min.code 2 (some .int)) m637) (Nat.le_of_ble_eq_true rfl) (Nat.le_of_ble_eq_true rfl) (Nat.le_of_ble_eq_true rfl) (Nat.le_of_ble_eq_true rfl) dX10_findFeetFrom_114 ?_
      refine lv_topi (fun y_44 ey_44 => ?_)
      have ty_44 := xI_min (X := y_43.toInt) (Y := (G.1 7 6).toInt) rfl rfl ey_44
      refine S_calli (va_runS (As := [.ref (a 43), .int y_41, .int y_44]) (rest := []) ⟨hx, hb, hml, hown, hts⟩ (k_tLeast_43 l D k A a z G_35 y_41 y_44 ⟨by omega, by omega⟩) (va_cwS 3 hts (gd_S hgd m998 m999 m124 m1000) rfl rfl rfl (by decide +kernel) ⟨Nat.le_of_ble_eq_true rfl, Nat.le_of_ble_eq_true rfl⟩) (pre_S hW hB_G_35 hK hZ hS) rfl rfl hl.1 rfl (lv_room (Nat.le_of_ble_eq_true rfl)) dX10_findFeetFrom_117 ⟨Nat.le_of_ble_eq_true rfl, Nat.le_of_ble_eq_true rfl⟩) hS (fun r_45 G_46 H locs hpo hW hS => ?_)
      obtain ⟨hB_G_46, hq_47⟩ := hpo
      have hF := hF.call hq_47 (by decide) (by decide)
      refine lv_istore (lv' := [(7, .int r_45), (5, .int y_38), (6, .int 0), (4, .int 1000000), (0, .ref (a 8)), (1, .ref (a 7)), (2, .int p0), (3, .int 1)]) hx hb dX10_findFeetFrom_120 hl (by decide) rfl (fun ls hl => ?_)
      refine lv_iload hx hb dX10_findFeetFrom_122 (lv_at hl 1 rfl) ?_
      refine lv_iconst (v := 1) hx hb dX10_findFeetFrom_124 (by decide) ?_
      refine lv_iload hx hb dX10_findFeetFrom_125 (lv_at hl 0 rfl) ?_
      refine lv_iadd hx hb dX10_findFeetFrom_127 ?_
      refine lv_topi (fun y_49 ey_49 => ?_)
      refine va_mmin hx hb (by rw [hml]; exact hl.1.symm) hown (hg (Cond.methodLink RX10 49 Lib.Math.min.name) m1001) (hg (Cond.static Lib.Math.min.name) m636) (hg (Cond.initialized "java/lang/Math") m132) (hg (Cond.code Lib.Math.min.name Lib.Math.min.code 2 (some .int)) m637) (Nat.le_of_ble_eq_true rfl) (Nat.le_of_ble_eq_true rfl) (Nat.le_of_ble_eq_true rfl) (Nat.le_of_ble_eq_true rfl) dX10_findFeetFrom_128 ?_
      refine lv_topi (fun y_50 ey_50 => ?_)
      have ty_50 := xI_min (X := y_38.toInt) (Y := y_49.toInt) rfl rfl ey_50
      refine lv_istore (lv' := [(4, .int y_50), (7, .int r_45), (5, .int y_38), (6, .int 0), (0, .ref (a 8)), (1, .ref (a 7)), (2, .int p0), (3, .int 1)]) hx hb dX10_findFeetFrom_131 hl (by decide) rfl (fun ls hl => ?_)
      exact hJ_19 () _ _ _ ⟨G_46, y_38, y_50, hW, hB_G_46, hF, ((Fr.rf.call hq_36 (by decide) (by decide)).call hq_47 (by decide) (by decide)), hS, lv_sub hl [2, 0, 4, 6, 7] rfl⟩
  refine lv_if_eq (tgt := 45) hx hb dX10_findFeetFrom_14 (by decide) (fun c_51 => ?_) (fun c_51 => ?_)
  · have c_51 : y_2.toInt = 0 := xI_eq rfl rfl c_51
    exact hJ_10 () _ _ _ ⟨G, hW, hB_G, hF, Fr.rf, hS, lv_sub hl [0, 1, 2, 3, 4, 5] rfl⟩
  · have c_51 : y_2.toInt ≠ 0 := xI_ne rfl rfl c_51
    refine lv_iload_n hx hb dX10_findFeetFrom_17 rfl (lv_at hl 4 rfl) ?_
    refine lv_aload_n hx hb dX10_findFeetFrom_18 rfl (lv_at hl 3 rfl) ?_
    have b_52 : 0 ≤ (G.1 7 7).toInt ∧ (G.1 7 7).toInt ≤ 400 := hB_G.i 7 7 rfl rfl
    refine S_getI (v := (G.1 7 7)) (C := RX0) (T := TX0) (N := 8) hx hb hg iX0 hown hK hW kd_7 rfl 7 (by decide) (hg (Cond.fieldLink RX10 58 "SlabWalk$Course" "end" "I") m394) (fun _ h9 => h9) rfl rfl dX10_findFeetFrom_19 ?_
    refine lv_icmp_lt (tgt := 45) hx hb dX10_findFeetFrom_22 (by decide) (fun c_53 => ?_) (fun c_53 => ?_)
    · have c_53 : p0.toInt < (G.1 7 7).toInt := xI_lt rfl rfl c_53
      exact hJ_10 () _ _ _ ⟨G, hW, hB_G, hF, Fr.rf, hS, lv_sub hl [0, 1, 2, 3, 4, 5] rfl⟩
    · have c_53 : (G.1 7 7).toInt ≤ p0.toInt := xI_nlt rfl rfl c_53
      refine lv_iload_n hx hb dX10_findFeetFrom_25 rfl (lv_at hl 5 rfl) ?_
      refine lv_iconst (v := 1) hx hb dX10_findFeetFrom_26 (by decide) ?_
      refine lv_icmp_ne (tgt := 34) hx hb dX10_findFeetFrom_27 (by decide) (fun c_54 => ?_) (fun c_54 => ?_)
      · have c_54 : (1 : Int) ≠ (1 : Int) := xI_ne rfl rfl c_54
        exfalso; omega
      · have c_54 : (1 : Int) = (1 : Int) := xI_eq rfl rfl c_54
        refine lv_iconst (v := 1) hx hb dX10_findFeetFrom_30 (by decide) ?_
        refine lv_goto (tgt := 36) hx hb dX10_findFeetFrom_31 (by decide) ?_
        refine lv_istore (lv' := [(5, .int 1), (4, .int 1000000), (0, .ref (a 8)), (1, .ref (a 7)), (2, .int p0), (3, .int 1)]) hx hb dX10_findFeetFrom_36 hl (by decide) rfl (fun ls hl => ?_)
        refine lv_iload hx hb dX10_findFeetFrom_38 (lv_at hl 0 rfl) ?_
        refine lv_istore (lv' := [(4, .int 1), (5, .int 1), (0, .ref (a 8)), (1, .ref (a 7)), (2, .int p0), (3, .int 1)]) hx hb dX10_findFeetFrom_40 hl (by decide) rfl (fun ls hl => ?_)
        refine lv_goto (tgt := 133) hx hb dX10_findFeetFrom_42 (by decide) ?_
        refine lv_aload_n hx hb dX10_findFeetFrom_133 rfl (lv_at hl 2 rfl) ?_
        refine S_getR (n := 41) (C := RX10) (T := TX10) (N := 5) hx hb hg iX10 hown hK hW kd_8 rfl 0 (by decide) (hg (Cond.fieldLink RX10 13 "SlabWalk$Trails" "rows" "[[I") m440) (fun _ h9 => h9) rfl dX10_findFeetFrom_134 ?_
        refine lv_iconst (v := 2) hx hb dX10_findFeetFrom_137 (by decide) ?_
        refine lv_iload_n hx hb dX10_findFeetFrom_138 rfl (lv_at hl 5 rfl) ?_
        refine lv_imul hx hb dX10_findFeetFrom_139 ?_
        refine lv_topi (fun y_55 ey_55 => ?_)
        obtain rfl : y_55 = 2 := ey_55.trans (by decide)
        refine S_aald hx hb hK hW kd_41 (vin (by decide) (by decide)) dX10_findFeetFrom_140 ?_
        refine rows_at (n := 44) (rows_c hB_G 2 (by decide)) ?_
        refine lv_iload_n hx hb dX10_findFeetFrom_141 rfl (lv_at hl 4 rfl) ?_
        refine lv_iload hx hb dX10_findFeetFrom_142 (lv_at hl 0 rfl) ?_
        refine S_iast hx hb hK hW hS kd_44 (vin (by omega) (by omega)) dX10_findFeetFrom_144 (fun G_56 H locs eG_56 hW hS => ?_)
        have hB_G_56 : Bd G_56 := hB_G.put (lo := (-2147483648)) (hi := 2147483647) eG_56 rfl rfl rfl (tI_rng _).1 (tI_rng _).2 (hB_G.2.put eG_56 rfl)
        have hF := hF.put eG_56 (Or.inl (by decide))
        refine lv_aload_n hx hb dX10_findFeetFrom_145 rfl (lv_at hl 2 rfl) ?_
        refine S_getR (n := 41) (C := RX10) (T := TX10) (N := 5) hx hb hg iX10 hown hK hW kd_8 rfl 0 (by decide) (hg (Cond.fieldLink RX10 13 "SlabWalk$Trails" "rows" "[[I") m440) (fun _ h9 => h9) rfl dX10_findFeetFrom_146 ?_
        refine lv_iconst (v := 2) hx hb dX10_findFeetFrom_149 (by decide) ?_
        refine lv_iload_n hx hb dX10_findFeetFrom_150 rfl (lv_at hl 5 rfl) ?_
        refine lv_imul hx hb dX10_findFeetFrom_151 ?_
        refine lv_topi (fun y_57 ey_57 => ?_)
        obtain rfl : y_57 = 2 := ey_57.trans (by decide)
        refine lv_iconst (v := 1) hx hb dX10_findFeetFrom_152 (by decide) ?_
        refine lv_iadd hx hb dX10_findFeetFrom_153 ?_
        refine lv_topi (fun y_58 ey_58 => ?_)
        obtain rfl : y_58 = 3 := ey_58.trans (by decide)
        refine S_aald hx hb hK hW kd_41 (vin (by decide) (by decide)) dX10_findFeetFrom_154 ?_
        refine rows_at (n := 45) (rows_c hB_G_56 3 (by decide)) ?_
        refine lv_iload_n hx hb dX10_findFeetFrom_155 rfl (lv_at hl 4 rfl) ?_
        refine lv_iload hx hb dX10_findFeetFrom_156 (lv_at hl 1 rfl) ?_
        refine S_iast hx hb hK hW hS kd_45 (vin (by omega) (by omega)) dX10_findFeetFrom_158 (fun G_59 H locs eG_59 hW hS => ?_)
        have hB_G_59 : Bd G_59 := hB_G_56.put (lo := (-2147483648)) (hi := 2147483647) eG_59 rfl rfl rfl (tI_rng _).1 (tI_rng _).2 (hB_G_56.2.put eG_59 rfl)
        have hF := hF.put eG_59 (Or.inl (by decide))
        exact W.vret hx hb hr (fun t ht _ => ⟨⟨G_59, rfl, ⟨hB_G_59, hF⟩, wd_t ht hW⟩, hS.F ht⟩) hS.2.2 dX10_findFeetFrom_159

set_option maxHeartbeats 4000000 in
set_option maxRecDepth 100000 in
theorem k_tFewest (l : Launch) (D : va_G) (k : KT) (A : Nat → Prop) (a : Nat → Nat) (z : SK) (G : GS) (p0 : Int32) (hci : (G.1 7 6).toInt ≤ 399 ∧ (G.1 7 3).toInt ≤ (G.1 7 4).toInt ∧ ((G.1 7 7).toInt ≤ 0 ∨ (G.1 7 7).toInt + (G.1 7 4).toInt ≤ (G.1 7 6).toInt + 1)) : Met l yX10_fewestFeet (WS yX10_fewestFeet cX10_fewestFeet 5 (some .int)) ({ frames := 3, cells := 0, slots := 0, locals := 64 }) (va_Pc [.ref (a 8), .ref (a 7), .int p0] (cW D k A a z G)) (va_Qi (fun (r : Int32) (G1 : GS) => Bd G1 ∧ Fr [42, 43, 44, 45] [] G G1) (fun (G1 : GS) t => Wd D k A a G1 t.heap) A) 0 0 A := by
  refine Met.ofW (cc := cX10_fewestFeet) (maxL := 5) (ret := (some .int)) (by decide) rfl ?_
  intro p e s m args below meth c s₁ B hml hv
  obtain ⟨rfl, hW, hB_G, hK, hZ⟩ := hv
  have hx := B.exec
  have hb := B.bytes
  have hr := B.returns
  have hts := atoms_spec (ws := WS yX10_fewestFeet cX10_fewestFeet 5 (some .int)) B.pre
  have hgd : ∀ w ∈ gd, w ∈ WS yX10_fewestFeet cX10_fewestFeet 5 (some .int) := fun w h => List.mem_cons_of_mem _ h
  have hg : ∀ w ∈ gd, w.before _ s = true := fun w h => hts w (hgd w h)
  have hown : s.vm.findClass RX10 = some m.cls := findClass_of_methodNamed B.named
  have hS : va_S A s.heap s.heap [] := va_S.rf
  have hF : Fr [42, 43, 44, 45] [] G G := Fr.rf
  have hl := lv_entry ([.ref (a 8), .ref (a 7), .int p0]) (n := 5) (Nat.le_of_ble_eq_true rfl)
  rw [lg_entry_eq]
  generalize (lg_sl ([.ref (a 8), .ref (a 7), .int p0]) ++ List.replicate (5 - (lg_sl ([.ref (a 8), .ref (a 7), .int p0])).length) Slot.unset).toArray = ls at hl ⊢
  have hl : lv_has ls 5 [(0, .ref (a 8)), (1, .ref (a 7)), (2, .int p0)] := hl
  have b_1 : (-1) ≤ (G.1 7 6).toInt ∧ (G.1 7 6).toInt ≤ 400 := hB_G.i 7 6 rfl rfl
  refine lv_aload_n hx hb dX10_fewestFeet_0 rfl (lv_at hl 1 rfl) ?_
  refine S_getI (v := (G.1 7 6)) (C := RX0) (T := TX0) (N := 8) hx hb hg iX0 hown hK hW kd_7 rfl 6 (by decide) (hg (Cond.fieldLink RX10 34 "SlabWalk$Course" "last" "I") m388) (fun _ h9 => h9) rfl rfl dX10_fewestFeet_1 ?_
  refine lv_istore_n (lv' := [(3, .int (G.1 7 6)), (0, .ref (a 8)), (1, .ref (a 7)), (2, .int p0)]) hx hb dX10_fewestFeet_4 rfl hl (by decide) rfl (fun ls hl => ?_)
  refine loop_N (Inv := fun n H locs ls => ∃ (G_2 : GS) (x_6 : Int32), (n : Int) = x_6.toInt - (-1) ∧ ((-1) ≤ x_6.toInt ∧ x_6.toInt ≤ 399) ∧ Wd D k A a G_2 H ∧ Bd G_2 ∧ Fr [42, 43, 44, 45] [] G G_2 ∧ Fr [42, 43, 44, 45] [] G G_2 ∧ va_S A s.heap H locs ∧ lv_has ls 5 [(3, .int x_6), (0, .ref (a 8)), (1, .ref (a 7)), (2, .int p0)]) (fun n_5 H locs ls ih_4 hI => ?_) ((G.1 7 6).toInt - (-1) : Int).toNat ⟨G, (G.1 7 6), (Int.toNat_of_nonneg (by omega)), ⟨by omega, by omega⟩, hW, hB_G, hF, Fr.rf, hS, lv_sub hl [0, 1, 2, 3] rfl⟩
  obtain ⟨G_2, x_6, hn_8, f_7, hW, hB_G_2, hF, hq_3, hS, hl⟩ := hI
  refine lv_iload_n hx hb dX10_fewestFeet_5 rfl (lv_at hl 0 rfl) ?_
  refine lv_if_lt (tgt := 38) hx hb dX10_fewestFeet_6 (by decide) (fun c_9 => ?_) (fun c_9 => ?_)
  · have c_9 : x_6.toInt < 0 := xI_lt rfl rfl c_9
    refine lv_ldc (v := 1000000) hx hb hown (hg (Cond.constant RX10 44 1000000) m997) dX10_fewestFeet_38 ?_
    refine lv_istore_n (lv' := [(3, .int 1000000), (0, .ref (a 8)), (1, .ref (a 7)), (2, .int p0)]) hx hb dX10_fewestFeet_40 rfl hl (by decide) rfl (fun ls hl => ?_)
    refine lv_iconst (v := 0) hx hb dX10_fewestFeet_41 (by decide) ?_
    refine lv_istore (lv' := [(4, .int 0), (3, .int 1000000), (0, .ref (a 8)), (1, .ref (a 7)), (2, .int p0)]) hx hb dX10_fewestFeet_42 hl (by decide) rfl (fun ls hl => ?_)
    have qc_16 : (0 : Int32).toInt = 0 := rfl
    have qc_17 : (1000000 : Int32).toInt = 1000000 := rfl
    refine loop_N (Inv := fun n H locs ls => ∃ (G_10 : GS) (x_14 : Int32) (x_15 : Int32), (n : Int) = 400 - x_14.toInt ∧ (0 ≤ x_14.toInt ∧ x_14.toInt ≤ 400) ∧ (x_15.toInt ≤ 1000000) ∧ Wd D k A a G_10 H ∧ Bd G_10 ∧ Fr [42, 43, 44, 45] [] G G_10 ∧ Fr [] [] G_2 G_10 ∧ va_S A s.heap H locs ∧ lv_has ls 5 [(4, .int x_14), (3, .int x_15), (0, .ref (a 8)), (1, .ref (a 7)), (2, .int p0)]) (fun n_13 H locs ls ih_12 hI => ?_) (400 - 0 : Int).toNat ⟨G_2, 0, 1000000, (Int.toNat_of_nonneg (by omega)), ⟨by omega, by omega⟩, (by omega), hW, hB_G_2, hF, Fr.rf, hS, lv_sub hl [0, 1, 2, 3, 4] rfl⟩
    obtain ⟨G_10, x_14, x_15, hn_20, f_18, f_19, hW, hB_G_10, hF, hq_11, hS, hl⟩ := hI
    refine lv_iload hx hb dX10_fewestFeet_44 (lv_at hl 0 rfl) ?_
    refine lv_aload_n hx hb dX10_fewestFeet_46 rfl (lv_at hl 3 rfl) ?_
    have b_21 : 0 ≤ (G.1 7 3).toInt ∧ (G.1 7 3).toInt ≤ 60 := hB_G.i 7 3 rfl rfl
    have g_22 : (G_10.1 7 3).toInt = (G.1 7 3).toInt := by rw [show G_10.1 7 3 = (G.1 7 3) from ((hq_11.i 7 3 (by decide) (by decide)).trans (hq_3.i 7 3 (by decide) (by decide)))]
    have b_23 : 0 ≤ (G.1 7 4).toInt ∧ (G.1 7 4).toInt ≤ 60 := hB_G.i 7 4 rfl rfl
    have g_24 : (G_10.1 7 4).toInt = (G.1 7 4).toInt := by rw [show G_10.1 7 4 = (G.1 7 4) from ((hq_11.i 7 4 (by decide) (by decide)).trans (hq_3.i 7 4 (by decide) (by decide)))]
    have g_25 : (G_10.1 7 6).toInt = (G.1 7 6).toInt := by rw [show G_10.1 7 6 = (G.1 7 6) from ((hq_11.i 7 6 (by decide) (by decide)).trans ((hq_3.i 7 6 (by decide) (by decide)).trans (rfl)))]
    have b_26 : 0 ≤ (G.1 7 7).toInt ∧ (G.1 7 7).toInt ≤ 400 := hB_G.i 7 7 rfl rfl
    have g_27 : (G_10.1 7 7).toInt = (G.1 7 7).toInt := by rw [show G_10.1 7 7 = (G.1 7 7) from ((hq_11.i 7 7 (by decide) (by decide)).trans (hq_3.i 7 7 (by decide) (by decide)))]
    have g_28 : (G_10.1 7 6).toInt = (G.1 7 6).toInt := by rw [show G_10.1 7 6 = (G.1 7 6) from ((hq_11.i 7 6 (by decide) (by decide)).trans ((hq_3.i 7 6 (by decide) (by decide)).trans (rfl)))]
    refine S_calli (va_runV (As := []) (rest := [.int x_14]) ⟨hx, hb, hml, hown, hts⟩ (k_cFirst l D k A a z G_10  (by omega)) (cwV 0 hts (gd_V hgd m1002 m1003 m1004 m123 m1005) rfl rfl rfl (by decide +kernel) ⟨Nat.le_of_ble_eq_true rfl, Nat.le_of_ble_eq_true rfl⟩) (pre_V hW hB_G_10 hK hZ hS kd_7 rfl) rfl rfl hl.1 rfl (lv_room (Nat.le_of_ble_eq_true rfl)) dX10_fewestFeet_47 ⟨Nat.le_of_ble_eq_true rfl, Nat.le_of_ble_eq_true rfl⟩) hS (fun r_29 G_30 H locs hpo hW hS => ?_)
    obtain ⟨hB_G_30, hq_31, f_33, hp_32⟩ := hpo
    have hF := hF.call hq_31 (by decide) (by decide)
    refine lv_icmp_gt (tgt := 105) hx hb dX10_fewestFeet_50 (by decide) (fun c_34 => ?_) (fun c_34 => ?_)
    · have c_34 : r_29.toInt < x_14.toInt := xI_lt rfl rfl c_34
      refine lv_iload_n hx hb dX10_fewestFeet_105 rfl (lv_at hl 1 rfl) ?_
      refine lv_ldc (v := 1000000) hx hb hown (hg (Cond.constant RX10 44 1000000) m997) dX10_fewestFeet_106 ?_
      refine lv_icmp_lt (tgt := 115) hx hb dX10_fewestFeet_108 (by decide) (fun c_35 => ?_) (fun c_35 => ?_)
      · have c_35 : x_15.toInt < 1000000 := xI_lt rfl rfl c_35
        refine lv_iload_n hx hb dX10_fewestFeet_115 rfl (lv_at hl 1 rfl) ?_
        exact W.iret (v := x_15) hx hb hr (fun t ht _ => ⟨⟨x_15, G_30, rfl, ⟨hB_G_30, hF⟩, wd_t ht hW⟩, hS.F ht⟩) hS.2.2 dX10_fewestFeet_116
      · have c_35 : 1000000 ≤ x_15.toInt := xI_nlt rfl rfl c_35
        refine lv_iconst (v := (-1)) hx hb dX10_fewestFeet_111 (by decide) ?_
        refine lv_goto (tgt := 116) hx hb dX10_fewestFeet_112 (by decide) ?_
        exact W.iret (v := (-1)) hx hb hr (fun t ht _ => ⟨⟨(-1), G_30, rfl, ⟨hB_G_30, hF⟩, wd_t ht hW⟩, hS.F ht⟩) hS.2.2 dX10_fewestFeet_116
    · have c_34 : x_14.toInt ≤ r_29.toInt := xI_nlt rfl rfl c_34
      refine lv_iload_n hx hb dX10_fewestFeet_53 rfl (lv_at hl 4 rfl) ?_
      refine lv_iconst (v := 2) hx hb dX10_fewestFeet_54 (by decide) ?_
      refine W.cut (σ := Int32) (pcJ := 75) (J := fun y H locs ls => ∃ (G_41 : GS), (y.toInt ≤ 1000000) ∧ Wd D k A a G_41 H ∧ Bd G_41 ∧ Fr [42, 43, 44, 45] [] G G_41 ∧ Fr [] [] G_30 G_41 ∧ va_S A s.heap H locs ∧ lv_has ls 5 [(4, .int x_14), (0, .ref (a 8)), (1, .ref (a 7)), (2, .int p0)]) (stJ := fun y => [.int y]) ?_ (fun hJ_42 => ?_)
      · intro y H locs ls hI
        obtain ⟨w_40, hy⟩ : ∃ q, q = y := ⟨_, rfl⟩
        subst hy
        obtain ⟨G_41, f_44, hW, hB_G_41, hF, hq_43, hS, hl⟩ := hI
        refine lv_istore_n (lv' := [(3, .int w_40), (4, .int x_14), (0, .ref (a 8)), (1, .ref (a 7)), (2, .int p0)]) hx hb dX10_fewestFeet_75 rfl hl (by decide) rfl (fun ls hl => ?_)
        refine lv_iload_n hx hb dX10_fewestFeet_76 rfl (lv_at hl 4 rfl) ?_
        refine lv_iconst (v := 1) hx hb dX10_fewestFeet_77 (by decide) ?_
        refine lv_icmp_ne (tgt := 85) hx hb dX10_fewestFeet_78 (by decide) (fun c_45 => ?_) (fun c_45 => ?_)
        · have c_45 : p0.toInt ≠ 1 := xI_ne rfl rfl c_45
          refine lv_iload_n hx hb dX10_fewestFeet_85 rfl (lv_at hl 0 rfl) ?_
          refine lv_aload_n hx hb dX10_fewestFeet_86 rfl (lv_at hl 2 rfl) ?_
          refine S_getR (n := 41) (C := RX10) (T := TX10) (N := 5) hx hb hg iX10 hown hK hW kd_8 rfl 0 (by decide) (hg (Cond.fieldLink RX10 13 "SlabWalk$Trails" "rows" "[[I") m440) (fun _ h9 => h9) rfl dX10_fewestFeet_87 ?_
          refine lv_iconst (v := 0) hx hb dX10_fewestFeet_90 (by decide) ?_
          refine S_aald hx hb hK hW kd_41 (vin (by decide) (by decide)) dX10_fewestFeet_91 ?_
          refine rows_at (n := 42) (rows_c hB_G_41 0 (by decide)) ?_
          refine lv_iload hx hb dX10_fewestFeet_92 (lv_at hl 1 rfl) ?_
          refine S_iald hx hb hK hW kd_42 (vin (by omega) (by omega)) dX10_fewestFeet_94 (fun y_46 ey_46 => ?_)
          refine va_mmin hx hb (by rw [hml]; exact hl.1.symm) hown (hg (Cond.methodLink RX10 49 Lib.Math.min.name) m1001) (hg (Cond.static Lib.Math.min.name) m636) (hg (Cond.initialized "java/lang/Math") m132) (hg (Cond.code Lib.Math.min.name Lib.Math.min.code 2 (some .int)) m637) (Nat.le_of_ble_eq_true rfl) (Nat.le_of_ble_eq_true rfl) (Nat.le_of_ble_eq_true rfl) (Nat.le_of_ble_eq_true rfl) dX10_fewestFeet_95 ?_
          refine lv_topi (fun y_47 ey_47 => ?_)
          have ty_47 := xI_min (X := w_40.toInt) (Y := y_46.toInt) rfl rfl ey_47
          refine lv_istore_n (lv' := [(3, .int y_47), (4, .int x_14), (0, .ref (a 8)), (1, .ref (a 7)), (2, .int p0)]) hx hb dX10_fewestFeet_98 rfl hl (by decide) rfl (fun ls hl => ?_)
          obtain ⟨y_48, ey_48⟩ : ∃ q, q = x_14 + 1 := ⟨_, rfl⟩
          have ty_48 : y_48.toInt = x_14.toInt + 1 := xI_add rfl rfl ey_48 (by omega) (by omega)
          refine lv_iinc (v := y_48) (lv' := [(4, .int y_48), (3, .int y_47), (0, .ref (a 8)), (1, .ref (a 7)), (2, .int p0)]) hx hb dX10_fewestFeet_99 hl (k := 1) rfl (by rw [ey_48]; rfl) (by decide) rfl (fun ls hl => ?_)
          refine lv_goto (tgt := 44) hx hb dX10_fewestFeet_102 (by decide) ?_
          exact ih_12 (400 - y_48.toInt : Int).toNat (by omega) _ _ _ ⟨G_41, y_48, y_47, (Int.toNat_of_nonneg (by omega)), ⟨by omega, by omega⟩, (by omega), hW, hB_G_41, hF, (((Fr.rf.call hq_11 (by decide) (by decide)).call hq_31 (by decide) (by decide)).call hq_43 (by decide) (by decide)), hS, lv_sub hl [0, 1, 2, 3, 4] rfl⟩
        · have c_45 : p0.toInt = 1 := xI_eq rfl rfl c_45
          refine lv_iload_n hx hb dX10_fewestFeet_81 rfl (lv_at hl 0 rfl) ?_
          refine lv_goto (tgt := 98) hx hb dX10_fewestFeet_82 (by decide) ?_
          refine lv_istore_n (lv' := [(3, .int w_40), (4, .int x_14), (0, .ref (a 8)), (1, .ref (a 7)), (2, .int p0)]) hx hb dX10_fewestFeet_98 rfl hl (by decide) rfl (fun ls hl => ?_)
          obtain ⟨y_49, ey_49⟩ : ∃ q, q = x_14 + 1 := ⟨_, rfl⟩
          have ty_49 : y_49.toInt = x_14.toInt + 1 := xI_add rfl rfl ey_49 (by omega) (by omega)
          refine lv_iinc (v := y_49) (lv' := [(4, .int y_49), (3, .int w_40), (0, .ref (a 8)), (1, .ref (a 7)), (2, .int p0)]) hx hb dX10_fewestFeet_99 hl (k := 1) rfl (by rw [ey_49]; rfl) (by decide) rfl (fun ls hl => ?_)
          refine lv_goto (tgt := 44) hx hb dX10_fewestFeet_102 (by decide) ?_
          exact ih_12 (400 - y_49.toInt : Int).toNat (by omega) _ _ _ ⟨G_41, y_49, w_40, (Int.toNat_of_nonneg (by omega)), ⟨by omega, by omega⟩, (by omega), hW, hB_G_41, hF, (((Fr.rf.call hq_11 (by decide) (by decide)).call hq_31 (by decide) (by decide)).call hq_43 (by decide) (by decide)), hS, lv_sub hl [0, 1, 2, 3, 4] rfl⟩
      refine lv_icmp_ne (tgt := 62) hx hb dX10_fewestFeet_55 (by decide) (fun c_50 => ?_) (fun c_50 => ?_)
      · have c_50 : p0.toInt ≠ 2 := xI_ne rfl rfl c_50
        refine lv_iload_n hx hb dX10_fewestFeet_62 rfl (lv_at hl 1 rfl) ?_
        refine lv_aload_n hx hb dX10_fewestFeet_63 rfl (lv_at hl 2 rfl) ?_
        refine S_getR (n := 41) (C := RX10) (T := TX10) (N := 5) hx hb hg iX10 hown hK hW kd_8 rfl 0 (by decide) (hg (Cond.fieldLink RX10 13 "SlabWalk$Trails" "rows" "[[I") m440) (fun _ h9 => h9) rfl dX10_fewestFeet_64 ?_
        refine lv_iconst (v := 2) hx hb dX10_fewestFeet_67 (by decide) ?_
        refine S_aald hx hb hK hW kd_41 (vin (by decide) (by decide)) dX10_fewestFeet_68 ?_
        refine rows_at (n := 44) (rows_c hB_G_30 2 (by decide)) ?_
        refine lv_iload hx hb dX10_fewestFeet_69 (lv_at hl 0 rfl) ?_
        refine S_iald hx hb hK hW kd_44 (vin (by omega) (by omega)) dX10_fewestFeet_71 (fun y_51 ey_51 => ?_)
        refine va_mmin hx hb (by rw [hml]; exact hl.1.symm) hown (hg (Cond.methodLink RX10 49 Lib.Math.min.name) m1001) (hg (Cond.static Lib.Math.min.name) m636) (hg (Cond.initialized "java/lang/Math") m132) (hg (Cond.code Lib.Math.min.name Lib.Math.min.code 2 (some .int)) m637) (Nat.le_of_ble_eq_true rfl) (Nat.le_of_ble_eq_true rfl) (Nat.le_of_ble_eq_true rfl) (Nat.le_of_ble_eq_true rfl) dX10_fewestFeet_72 ?_
        refine lv_topi (fun y_52 ey_52 => ?_)
        have ty_52 := xI_min (X := x_15.toInt) (Y := y_51.toInt) rfl rfl ey_52
        exact hJ_42 y_52 _ _ _ ⟨G_30, (by omega), hW, hB_G_30, hF, Fr.rf, hS, lv_sub hl [0, 2, 3, 4] rfl⟩
      · have c_50 : p0.toInt = 2 := xI_eq rfl rfl c_50
        refine lv_iload_n hx hb dX10_fewestFeet_58 rfl (lv_at hl 1 rfl) ?_
        refine lv_goto (tgt := 75) hx hb dX10_fewestFeet_59 (by decide) ?_
        exact hJ_42 x_15 _ _ _ ⟨G_30, (by omega), hW, hB_G_30, hF, Fr.rf, hS, lv_sub hl [0, 2, 3, 4] rfl⟩
  · have c_9 : 0 ≤ x_6.toInt := xI_nlt rfl rfl c_9
    refine lv_iconst (v := 0) hx hb dX10_fewestFeet_9 (by decide) ?_
    refine lv_istore (lv' := [(4, .int 0), (3, .int x_6), (0, .ref (a 8)), (1, .ref (a 7)), (2, .int p0)]) hx hb dX10_fewestFeet_10 hl (by decide) rfl (fun ls hl => ?_)
    have qc_58 : (0 : Int32).toInt = 0 := rfl
    refine loop_N (Inv := fun n H locs ls => ∃ (G_53 : GS) (x_57 : Int32), (n : Int) = 2 - x_57.toInt ∧ (0 ≤ x_57.toInt ∧ x_57.toInt ≤ 2) ∧ Wd D k A a G_53 H ∧ Bd G_53 ∧ Fr [42, 43, 44, 45] [] G G_53 ∧ Fr [42, 43, 44, 45] [] G_2 G_53 ∧ va_S A s.heap H locs ∧ lv_has ls 5 [(4, .int x_57), (3, .int x_6), (0, .ref (a 8)), (1, .ref (a 7)), (2, .int p0)]) (fun n_56 H locs ls ih_55 hI => ?_) (2 - 0 : Int).toNat ⟨G_2, 0, (Int.toNat_of_nonneg (by omega)), ⟨by omega, by omega⟩, hW, hB_G_2, hF, Fr.rf, hS, lv_sub hl [0, 1, 2, 3, 4] rfl⟩
    obtain ⟨G_53, x_57, hn_60, f_59, hW, hB_G_53, hF, hq_54, hS, hl⟩ := hI
    refine lv_iload hx hb dX10_fewestFeet_12 (lv_at hl 0 rfl) ?_
    refine lv_iconst (v := 2) hx hb dX10_fewestFeet_14 (by decide) ?_
    refine lv_icmp_ge (tgt := 32) hx hb dX10_fewestFeet_15 (by decide) (fun c_61 => ?_) (fun c_61 => ?_)
    · have c_61 : 2 ≤ x_57.toInt := xI_le rfl rfl c_61
      obtain ⟨y_62, ey_62⟩ : ∃ q, q = x_6 + (-1) := ⟨_, rfl⟩
      have ty_62 : y_62.toInt = x_6.toInt + (-1) := xI_add rfl rfl ey_62 (by omega) (by omega)
      refine lv_iinc (v := y_62) (lv' := [(3, .int y_62), (4, .int x_57), (0, .ref (a 8)), (1, .ref (a 7)), (2, .int p0)]) hx hb dX10_fewestFeet_32 hl (k := 1) rfl (by rw [ey_62]; rfl) (by decide) rfl (fun ls hl => ?_)
      refine lv_goto (tgt := 5) hx hb dX10_fewestFeet_35 (by decide) ?_
      exact ih_4 (y_62.toInt - (-1) : Int).toNat (by omega) _ _ _ ⟨G_53, y_62, (Int.toNat_of_nonneg (by omega)), ⟨by omega, by omega⟩, hW, hB_G_53, hF, ((Fr.rf.call hq_3 (by decide) (by decide)).call hq_54 (by decide) (by decide)), hS, lv_sub hl [0, 2, 3, 4] rfl⟩
    · have c_61 : x_57.toInt < 2 := xI_nle rfl rfl c_61
      have h_63 : x_57.toInt = 0 ∨ x_57.toInt = 1 := by omega
      rcases h_63 with h_63 | h_63
      · obtain rfl : x_57 = 0 := Int32.toInt_inj.mp (h_63.trans rfl)
        refine lv_aload_n hx hb dX10_fewestFeet_18 rfl (lv_at hl 2 rfl) ?_
        refine lv_aload_n hx hb dX10_fewestFeet_19 rfl (lv_at hl 3 rfl) ?_
        refine lv_iload_n hx hb dX10_fewestFeet_20 rfl (lv_at hl 1 rfl) ?_
        refine lv_iload hx hb dX10_fewestFeet_21 (lv_at hl 0 rfl) ?_
        have b_64 : 0 ≤ (G.1 7 3).toInt ∧ (G.1 7 3).toInt ≤ 60 := hB_G.i 7 3 rfl rfl
        have g_65 : (G_53.1 7 3).toInt = (G.1 7 3).toInt := by rw [show G_53.1 7 3 = (G.1 7 3) from ((hq_54.i 7 3 (by decide) (by decide)).trans (hq_3.i 7 3 (by decide) (by decide)))]
        have b_66 : 0 ≤ (G.1 7 4).toInt ∧ (G.1 7 4).toInt ≤ 60 := hB_G.i 7 4 rfl rfl
        have g_67 : (G_53.1 7 4).toInt = (G.1 7 4).toInt := by rw [show G_53.1 7 4 = (G.1 7 4) from ((hq_54.i 7 4 (by decide) (by decide)).trans (hq_3.i 7 4 (by decide) (by decide)))]
        have g_68 : (G_53.1 7 6).toInt = (G.1 7 6).toInt := by rw [show G_53.1 7 6 = (G.1 7 6) from ((hq_54.i 7 6 (by decide) (by decide)).trans ((hq_3.i 7 6 (by decide) (by decide)).trans (rfl)))]
        have b_69 : 0 ≤ (G.1 7 7).toInt ∧ (G.1 7 7).toInt ≤ 400 := hB_G.i 7 7 rfl rfl
        have g_70 : (G_53.1 7 7).toInt = (G.1 7 7).toInt := by rw [show G_53.1 7 7 = (G.1 7 7) from ((hq_54.i 7 7 (by decide) (by decide)).trans (hq_3.i 7 7 (by decide) (by decide)))]
        refine S_callv (va_runV (As := [.ref (a 7), .int x_6, .int 0]) (rest := []) ⟨hx, hb, hml, hown, hts⟩ (k_tFrom_0 l D k A a z G_53 x_6 ⟨by omega, by omega⟩ (by omega)) (cwV 3 hts (gd_V hgd m993 m995 m33 m124 m996) rfl rfl rfl (by decide +kernel) ⟨Nat.le_of_ble_eq_true rfl, Nat.le_of_ble_eq_true rfl⟩) (pre_V hW hB_G_53 hK hZ hS kd_8 rfl) rfl rfl hl.1 rfl (lv_room (Nat.le_of_ble_eq_true rfl)) dX10_fewestFeet_23 ⟨Nat.le_of_ble_eq_true rfl, Nat.le_of_ble_eq_true rfl⟩) hS (fun G_72 H locs hpo hW hS => ?_)
        obtain ⟨hB_G_72, hq_73⟩ := hpo
        have hF := hF.call hq_73 (by decide) (by decide)
        refine lv_iinc (v := 1) (lv' := [(4, .int 1), (3, .int x_6), (0, .ref (a 8)), (1, .ref (a 7)), (2, .int p0)]) hx hb dX10_fewestFeet_26 hl (k := 0) rfl (by decide) (by decide) rfl (fun ls hl => ?_)
        refine lv_goto (tgt := 12) hx hb dX10_fewestFeet_29 (by decide) ?_
        have qc_75 : (1 : Int32).toInt = 1 := rfl
        exact ih_55 (2 - 1 : Int).toNat (by omega) _ _ _ ⟨G_72, 1, (Int.toNat_of_nonneg (by omega)), ⟨by omega, by omega⟩, hW, hB_G_72, hF, ((Fr.rf.call hq_54 (by decide) (by decide)).call hq_73 (by decide) (by decide)), hS, lv_sub hl [0, 1, 2, 3, 4] rfl⟩
      · obtain rfl : x_57 = 1 := Int32.toInt_inj.mp (h_63.trans rfl)
        refine lv_aload_n hx hb dX10_fewestFeet_18 rfl (lv_at hl 2 rfl) ?_
        refine lv_aload_n hx hb dX10_fewestFeet_19 rfl (lv_at hl 3 rfl) ?_
        refine lv_iload_n hx hb dX10_fewestFeet_20 rfl (lv_at hl 1 rfl) ?_
        refine lv_iload hx hb dX10_fewestFeet_21 (lv_at hl 0 rfl) ?_
        have b_76 : 0 ≤ (G.1 7 3).toInt ∧ (G.1 7 3).toInt ≤ 60 := hB_G.i 7 3 rfl rfl
        have g_77 : (G_53.1 7 3).toInt = (G.1 7 3).toInt := by rw [show G_53.1 7 3 = (G.1 7 3) from ((hq_54.i 7 3 (by decide) (by decide)).trans (hq_3.i 7 3 (by decide) (by decide)))]
        have b_78 : 0 ≤ (G.1 7 4).toInt ∧ (G.1 7 4).toInt ≤ 60 := hB_G.i 7 4 rfl rfl
        have g_79 : (G_53.1 7 4).toInt = (G.1 7 4).toInt := by rw [show G_53.1 7 4 = (G.1 7 4) from ((hq_54.i 7 4 (by decide) (by decide)).trans (hq_3.i 7 4 (by decide) (by decide)))]
        have g_80 : (G_53.1 7 6).toInt = (G.1 7 6).toInt := by rw [show G_53.1 7 6 = (G.1 7 6) from ((hq_54.i 7 6 (by decide) (by decide)).trans ((hq_3.i 7 6 (by decide) (by decide)).trans (rfl)))]
        have b_81 : 0 ≤ (G.1 7 7).toInt ∧ (G.1 7 7).toInt ≤ 400 := hB_G.i 7 7 rfl rfl
        have g_82 : (G_53.1 7 7).toInt = (G.1 7 7).toInt := by rw [show G_53.1 7 7 = (G.1 7 7) from ((hq_54.i 7 7 (by decide) (by decide)).trans (hq_3.i 7 7 (by decide) (by decide)))]
        refine S_callv (va_runV (As := [.ref (a 7), .int x_6, .int 1]) (rest := []) ⟨hx, hb, hml, hown, hts⟩ (k_tFrom_1 l D k A a z G_53 x_6 ⟨by omega, by omega⟩ (by omega)) (cwV 3 hts (gd_V hgd m993 m995 m33 m124 m996) rfl rfl rfl (by decide +kernel) ⟨Nat.le_of_ble_eq_true rfl, Nat.le_of_ble_eq_true rfl⟩) (pre_V hW hB_G_53 hK hZ hS kd_8 rfl) rfl rfl hl.1 rfl (lv_room (Nat.le_of_ble_eq_true rfl)) dX10_fewestFeet_23 ⟨Nat.le_of_ble_eq_true rfl, Nat.le_of_ble_eq_true rfl⟩) hS (fun G_84 H locs hpo hW hS => ?_)
        obtain ⟨hB_G_84, hq_85⟩ := hpo
        have hF := hF.call hq_85 (by decide) (by decide)
        refine lv_iinc (v := 2) (lv' := [(4, .int 2), (3, .int x_6), (0, .ref (a 8)), (1, .ref (a 7)), (2, .int p0)]) hx hb dX10_fewestFeet_26 hl (k := 0) rfl (by decide) (by decide) rfl (fun ls hl => ?_)
        refine lv_goto (tgt := 12) hx hb dX10_fewestFeet_29 (by decide) ?_
        have qc_87 : (2 : Int32).toInt = 2 := rfl
        exact ih_55 (2 - 2 : Int).toNat (by omega) _ _ _ ⟨G_84, 2, (Int.toNat_of_nonneg (by omega)), ⟨by omega, by omega⟩, hW, hB_G_84, hF, ((Fr.rf.call hq_54 (by decide) (by decide)).call hq_85 (by decide) (by decide)), hS, lv_sub hl [0, 1, 2, 3, 4] rfl⟩

set_option maxHeartbeats 4000000 in
set_option maxRecDepth 100000 in
theorem k_tLay (l : Launch) (D : va_G) (k : KT) (A : Nat → Prop) (a : Nat → Nat) (z : SK) (G : GS) (p0 : Int32) (hci : (G.1 7 6).toInt ≤ 399 ∧ (G.1 7 3).toInt ≤ (G.1 7 4).toInt ∧ ((G.1 7 7).toInt ≤ 0 ∨ (G.1 7 7).toInt + (G.1 7 4).toInt ≤ (G.1 7 6).toInt + 1)) : Met l yX10_layHeels (WS yX10_layHeels cX10_layHeels 11 (some .int)) ({ frames := 2, cells := 0, slots := 0, locals := 33 }) (va_Pc [.ref (a 8), .ref (a 7), .int p0, .ref (a 33)] (cW D k A a z G)) (va_Qi (fun (r : Int32) (G1 : GS) => Bd G1 ∧ Fr [33] [] G G1 ∧ (0 ≤ r.toInt ∧ r.toInt ≤ 400)) (fun (G1 : GS) t => Wd D k A a G1 t.heap) A) 0 0 A := by
  refine Met.ofW (cc := cX10_layHeels) (maxL := 11) (ret := (some .int)) (by decide) rfl ?_
  intro p e s m args below meth c s₁ B hml hv
  obtain ⟨rfl, hW, hB_G, hK, hZ⟩ := hv
  have hx := B.exec
  have hb := B.bytes
  have hr := B.returns
  have hts := atoms_spec (ws := WS yX10_layHeels cX10_layHeels 11 (some .int)) B.pre
  have hgd : ∀ w ∈ gd, w ∈ WS yX10_layHeels cX10_layHeels 11 (some .int) := fun w h => List.mem_cons_of_mem _ h
  have hg : ∀ w ∈ gd, w.before _ s = true := fun w h => hts w (hgd w h)
  have hown : s.vm.findClass RX10 = some m.cls := findClass_of_methodNamed B.named
  have hS : va_S A s.heap s.heap [] := va_S.rf
  have hF : Fr [33] [] G G := Fr.rf
  have hl := lv_entry ([.ref (a 8), .ref (a 7), .int p0, .ref (a 33)]) (n := 11) (Nat.le_of_ble_eq_true rfl)
  rw [lg_entry_eq]
  generalize (lg_sl ([.ref (a 8), .ref (a 7), .int p0, .ref (a 33)]) ++ List.replicate (11 - (lg_sl ([.ref (a 8), .ref (a 7), .int p0, .ref (a 33)])).length) Slot.unset).toArray = ls at hl ⊢
  have hl : lv_has ls 11 [(0, .ref (a 8)), (1, .ref (a 7)), (2, .int p0), (3, .ref (a 33))] := hl
  have b_1 : (-1) ≤ (G.1 7 6).toInt ∧ (G.1 7 6).toInt ≤ 400 := hB_G.i 7 6 rfl rfl
  refine lv_iconst (v := 0) hx hb dX10_layHeels_0 (by decide) ?_
  refine lv_istore (lv' := [(4, .int 0), (0, .ref (a 8)), (1, .ref (a 7)), (2, .int p0), (3, .ref (a 33))]) hx hb dX10_layHeels_1 hl (by decide) rfl (fun ls hl => ?_)
  refine lv_aload_n hx hb dX10_layHeels_3 rfl (lv_at hl 2 rfl) ?_
  have b_2 : 0 ≤ (G.1 7 3).toInt ∧ (G.1 7 3).toInt ≤ 60 := hB_G.i 7 3 rfl rfl
  have b_3 : 0 ≤ (G.1 7 4).toInt ∧ (G.1 7 4).toInt ≤ 60 := hB_G.i 7 4 rfl rfl
  have b_4 : 0 ≤ (G.1 7 7).toInt ∧ (G.1 7 7).toInt ≤ 400 := hB_G.i 7 7 rfl rfl
  refine S_calli (va_runV (As := []) (rest := []) ⟨hx, hb, hml, hown, hts⟩ (k_cFirst l D k A a z G  (by omega)) (cwV 0 hts (gd_V hgd m1002 m1003 m1004 m123 m1005) rfl rfl rfl (by decide +kernel) ⟨Nat.le_of_ble_eq_true rfl, Nat.le_of_ble_eq_true rfl⟩) (pre_V hW hB_G hK hZ hS kd_7 rfl) rfl rfl hl.1 rfl (lv_room (Nat.le_of_ble_eq_true rfl)) dX10_layHeels_4 ⟨Nat.le_of_ble_eq_true rfl, Nat.le_of_ble_eq_true rfl⟩) hS (fun r_5 G_6 H locs hpo hW hS => ?_)
  obtain ⟨hB_G_6, hq_7, f_9, hp_8⟩ := hpo
  have hF := hF.call hq_7 (by decide) (by decide)
  refine lv_istore (lv' := [(5, .int r_5), (4, .int 0), (0, .ref (a 8)), (1, .ref (a 7)), (2, .int p0), (3, .ref (a 33))]) hx hb dX10_layHeels_7 hl (by decide) rfl (fun ls hl => ?_)
  refine lv_iconst (v := 0) hx hb dX10_layHeels_9 (by decide) ?_
  refine lv_istore (lv' := [(6, .int 0), (5, .int r_5), (4, .int 0), (0, .ref (a 8)), (1, .ref (a 7)), (2, .int p0), (3, .ref (a 33))]) hx hb dX10_layHeels_10 hl (by decide) rfl (fun ls hl => ?_)
  refine lv_iconst (v := 0) hx hb dX10_layHeels_12 (by decide) ?_
  refine lv_istore (lv' := [(7, .int 0), (6, .int 0), (5, .int r_5), (4, .int 0), (0, .ref (a 8)), (1, .ref (a 7)), (2, .int p0), (3, .ref (a 33))]) hx hb dX10_layHeels_13 hl (by decide) rfl (fun ls hl => ?_)
  refine lv_iload_n hx hb dX10_layHeels_15 rfl (lv_at hl 6 rfl) ?_
  refine lv_istore (lv' := [(8, .int p0), (7, .int 0), (6, .int 0), (5, .int r_5), (4, .int 0), (0, .ref (a 8)), (1, .ref (a 7)), (2, .int p0), (3, .ref (a 33))]) hx hb dX10_layHeels_16 hl (by decide) rfl (fun ls hl => ?_)
  have qc_18 : (0 : Int32).toInt = 0 := rfl
  refine loop_N (Inv := fun n H locs ls => ∃ (G_10 : GS) (x_14 : Int32) (x_15 : Int32) (x_16 : Int32) (x_17 : Int32), (n : Int) = 400 - x_15.toInt ∧ (0 ≤ x_15.toInt ∧ x_15.toInt ≤ 400) ∧ ((-1) ≤ x_16.toInt ∧ x_16.toInt ≤ 399) ∧ (0 ≤ x_17.toInt ∧ x_17.toInt ≤ 24400) ∧ (x_17.toInt ≤ 400 + 60 * x_15.toInt) ∧ Wd D k A a G_10 H ∧ Bd G_10 ∧ Fr [33] [] G G_10 ∧ Fr [33] [] G_6 G_10 ∧ va_S A s.heap H locs ∧ lv_has ls 11 [(8, .int x_14), (7, .int x_15), (5, .int x_16), (4, .int x_17), (0, .ref (a 8)), (1, .ref (a 7)), (3, .ref (a 33))]) (fun n_13 H locs ls ih_12 hI => ?_) (400 - 0 : Int).toNat ⟨G_6, p0, 0, r_5, 0, (Int.toNat_of_nonneg (by omega)), ⟨by omega, by omega⟩, ⟨by omega, by omega⟩, ⟨by omega, by omega⟩, (by omega), hW, hB_G_6, hF, Fr.rf, hS, lv_sub hl [0, 1, 3, 4, 5, 6, 8] rfl⟩
  obtain ⟨G_10, x_14, x_15, x_16, x_17, hn_23, f_19, f_20, f_21, f_22, hW, hB_G_10, hF, hq_11, hS, hl⟩ := hI
  refine lv_iload hx hb dX10_layHeels_18 (lv_at hl 0 rfl) ?_
  refine lv_if_le (tgt := 166) hx hb dX10_layHeels_20 (by decide) (fun c_24 => ?_) (fun c_24 => ?_)
  · have c_24 : x_14.toInt ≤ 0 := xI_le rfl rfl c_24
    refine lv_iload hx hb dX10_layHeels_166 (lv_at hl 1 rfl) ?_
    exact W.iret (v := x_15) hx hb hr (fun t ht _ => ⟨⟨x_15, G_10, rfl, ⟨hB_G_10, hF, ⟨by omega, by omega⟩⟩, wd_t ht hW⟩, hS.F ht⟩) hS.2.2 dX10_layHeels_168
  · have c_24 : 0 < x_14.toInt := xI_nle rfl rfl c_24
    refine lv_iload hx hb dX10_layHeels_23 (lv_at hl 1 rfl) ?_
    refine lv_aload_n hx hb dX10_layHeels_25 rfl (lv_at hl 6 rfl) ?_
    refine S_alen (v := 400) hx hb hK hW kd_33 1 rfl rfl dX10_layHeels_26 ?_
    refine lv_icmp_ge (tgt := 166) hx hb dX10_layHeels_27 (by decide) (fun c_25 => ?_) (fun c_25 => ?_)
    · have c_25 : 400 ≤ x_15.toInt := xI_le rfl rfl c_25
      refine lv_iload hx hb dX10_layHeels_166 (lv_at hl 1 rfl) ?_
      exact W.iret (v := x_15) hx hb hr (fun t ht _ => ⟨⟨x_15, G_10, rfl, ⟨hB_G_10, hF, ⟨by omega, by omega⟩⟩, wd_t ht hW⟩, hS.F ht⟩) hS.2.2 dX10_layHeels_168
    · have c_25 : x_15.toInt < 400 := xI_nle rfl rfl c_25
      refine lv_iload hx hb dX10_layHeels_30 (lv_at hl 1 rfl) ?_
      refine W.cut (σ := Int32) (pcJ := 51) (J := fun y H locs ls => ∃ (G_34 : GS), Wd D k A a G_34 H ∧ Bd G_34 ∧ Fr [33] [] G G_34 ∧ Fr [] [] G_10 G_34 ∧ va_S A s.heap H locs ∧ lv_has ls 11 [(8, .int x_14), (7, .int x_15), (5, .int x_16), (4, .int x_17), (0, .ref (a 8)), (1, .ref (a 7)), (3, .ref (a 33))]) (stJ := fun y => [.int y]) ?_ (fun hJ_35 => ?_)
      · intro y H locs ls hI
        obtain ⟨w_33, hy⟩ : ∃ q, q = y := ⟨_, rfl⟩
        subst hy
        obtain ⟨G_34, hW, hB_G_34, hF, hq_36, hS, hl⟩ := hI
        refine lv_istore (lv' := [(9, .int w_33), (8, .int x_14), (7, .int x_15), (5, .int x_16), (4, .int x_17), (0, .ref (a 8)), (1, .ref (a 7)), (3, .ref (a 33))]) hx hb dX10_layHeels_51 hl (by decide) rfl (fun ls hl => ?_)
        refine lv_iload hx hb dX10_layHeels_53 (lv_at hl 4 rfl) ?_
        refine lv_istore (lv' := [(10, .int x_17), (9, .int w_33), (8, .int x_14), (7, .int x_15), (5, .int x_16), (4, .int x_17), (0, .ref (a 8)), (1, .ref (a 7)), (3, .ref (a 33))]) hx hb dX10_layHeels_55 hl (by decide) rfl (fun ls hl => ?_)
        refine loop_N (Inv := fun n H locs ls => ∃ (G_37 : GS) (x_41 : Int32), (n : Int) = 24400 - x_41.toInt ∧ (0 ≤ x_41.toInt ∧ x_41.toInt ≤ 24400) ∧ (x_41.toInt ≤ 400 + 60 * x_15.toInt) ∧ Wd D k A a G_37 H ∧ Bd G_37 ∧ Fr [33] [] G G_37 ∧ Fr [33] [] G_34 G_37 ∧ va_S A s.heap H locs ∧ lv_has ls 11 [(10, .int x_41), (9, .int w_33), (8, .int x_14), (7, .int x_15), (5, .int x_16), (0, .ref (a 8)), (1, .ref (a 7)), (3, .ref (a 33))]) (fun n_40 H locs ls ih_39 hI => ?_) (24400 - x_17.toInt : Int).toNat ⟨G_34, x_17, (Int.toNat_of_nonneg (by omega)), ⟨by omega, by omega⟩, (by omega), hW, hB_G_34, hF, Fr.rf, hS, lv_sub hl [0, 1, 2, 3, 4, 6, 7, 8] rfl⟩
        obtain ⟨G_37, x_41, hn_44, f_42, f_43, hW, hB_G_37, hF, hq_38, hS, hl⟩ := hI
        refine lv_iload hx hb dX10_layHeels_57 (lv_at hl 0 rfl) ?_
        refine lv_iload hx hb dX10_layHeels_59 (lv_at hl 4 rfl) ?_
        refine W.cut (σ := Unit) (pcJ := 100) (J := fun y H locs ls => ∃ (G_52 : GS), Wd D k A a G_52 H ∧ Bd G_52 ∧ Fr [33] [] G G_52 ∧ Fr [] [] G_37 G_52 ∧ va_S A s.heap H locs ∧ lv_has ls 11 [(10, .int x_41), (9, .int w_33), (8, .int x_14), (7, .int x_15), (0, .ref (a 8)), (1, .ref (a 7)), (3, .ref (a 33))]) (stJ := fun _ => []) ?_ (fun hJ_53 => ?_)
        · intro y H locs ls hI
          obtain ⟨G_52, hW, hB_G_52, hF, hq_54, hS, hl⟩ := hI
          refine lv_aload_n hx hb dX10_layHeels_100 rfl (lv_at hl 6 rfl) ?_
          refine lv_iload hx hb dX10_layHeels_101 (lv_at hl 3 rfl) ?_
          obtain ⟨y_55, ey_55⟩ : ∃ q, q = x_15 + 1 := ⟨_, rfl⟩
          have ty_55 : y_55.toInt = x_15.toInt + 1 := xI_add rfl rfl ey_55 (by omega) (by omega)
          refine lv_iinc (v := y_55) (lv' := [(7, .int y_55), (10, .int x_41), (9, .int w_33), (8, .int x_14), (0, .ref (a 8)), (1, .ref (a 7)), (3, .ref (a 33))]) hx hb dX10_layHeels_103 hl (k := 3) rfl (by rw [ey_55]; rfl) (by decide) rfl (fun ls hl => ?_)
          refine lv_iload hx hb dX10_layHeels_106 (lv_at hl 1 rfl) ?_
          refine S_iast hx hb hK hW hS kd_33 (vin (by omega) (by omega)) dX10_layHeels_108 (fun G_56 H locs eG_56 hW hS => ?_)
          have hB_G_56 : Bd G_56 := hB_G_52.put (lo := (-2147483648)) (hi := 2147483647) eG_56 rfl rfl rfl (tI_rng _).1 (tI_rng _).2 (hB_G_52.2.put eG_56 rfl)
          have hF := hF.put eG_56 (Or.inl (by decide))
          refine lv_iload hx hb dX10_layHeels_109 (lv_at hl 1 rfl) ?_
          refine lv_iload hx hb dX10_layHeels_111 (lv_at hl 2 rfl) ?_
          refine W.cut (σ := Int32) (pcJ := 121) (J := fun y H locs ls => ∃ (G_64 : GS), (0 ≤ y.toInt ∧ y.toInt ≤ 1) ∧ Wd D k A a G_64 H ∧ Bd G_64 ∧ Fr [33] [] G G_64 ∧ Fr [] [] G_56 G_64 ∧ va_S A s.heap H locs ∧ lv_has ls 11 [(7, .int y_55), (10, .int x_41), (8, .int x_14), (0, .ref (a 8)), (1, .ref (a 7)), (3, .ref (a 33))]) (stJ := fun y => [.int y]) ?_ (fun hJ_65 => ?_)
          · intro y H locs ls hI
            obtain ⟨w_63, hy⟩ : ∃ q, q = y := ⟨_, rfl⟩
            subst hy
            obtain ⟨G_64, f_67, hW, hB_G_64, hF, hq_66, hS, hl⟩ := hI
            refine lv_istore (lv' := [(6, .int w_63), (7, .int y_55), (10, .int x_41), (8, .int x_14), (0, .ref (a 8)), (1, .ref (a 7)), (3, .ref (a 33))]) hx hb dX10_layHeels_121 hl (by decide) rfl (fun ls hl => ?_)
            refine lv_iload hx hb dX10_layHeels_123 (lv_at hl 2 rfl) ?_
            refine lv_aload_n hx hb dX10_layHeels_125 rfl (lv_at hl 5 rfl) ?_
            refine S_getI (v := (G.1 7 3)) (C := RX0) (T := TX0) (N := 8) hx hb hg iX0 hown hK hW kd_7 rfl 3 (by decide) (hg (Cond.fieldLink RX10 61 "SlabWalk$Course" "least" "I") m378) (fun _ h9 => h9) rfl ((hq_66.i 7 3 (by decide) (by decide)).trans ((gp_ne eG_56 (fun q => absurd q.1 (by decide))).trans ((hq_54.i 7 3 (by decide) (by decide)).trans ((hq_38.i 7 3 (by decide) (by decide)).trans ((hq_36.i 7 3 (by decide) (by decide)).trans ((hq_11.i 7 3 (by decide) (by decide)).trans ((hq_7.i 7 3 (by decide) (by decide)).trans (rfl)))))))) dX10_layHeels_126 ?_
            refine lv_iadd hx hb dX10_layHeels_129 ?_
            refine lv_topi (fun y_68 ey_68 => ?_)
            have ty_68 : y_68.toInt = x_41.toInt + (G.1 7 3).toInt := xI_add rfl rfl ey_68 (by omega) (by omega)
            refine lv_istore (lv' := [(4, .int y_68), (6, .int w_63), (7, .int y_55), (10, .int x_41), (8, .int x_14), (0, .ref (a 8)), (1, .ref (a 7)), (3, .ref (a 33))]) hx hb dX10_layHeels_130 hl (by decide) rfl (fun ls hl => ?_)
            refine lv_iload hx hb dX10_layHeels_132 (lv_at hl 3 rfl) ?_
            refine lv_iload hx hb dX10_layHeels_134 (lv_at hl 1 rfl) ?_
            refine lv_if_eq (tgt := 146) hx hb dX10_layHeels_136 (by decide) (fun c_69 => ?_) (fun c_69 => ?_)
            · have c_69 : w_63.toInt = 0 := xI_eq rfl rfl c_69
              refine lv_aload_n hx hb dX10_layHeels_146 rfl (lv_at hl 6 rfl) ?_
              have b_70 : 0 ≤ (G.1 7 5).toInt ∧ (G.1 7 5).toInt ≤ 99 := hB_G.i 7 5 rfl rfl
              refine S_getI (v := (G.1 7 5)) (C := RX0) (T := TX0) (N := 8) hx hb hg iX0 hown hK hW kd_7 rfl 5 (by decide) (hg (Cond.fieldLink RX10 71 "SlabWalk$Course" "leap" "I") m386) (fun _ h9 => h9) rfl ((hq_66.i 7 5 (by decide) (by decide)).trans ((gp_ne eG_56 (fun q => absurd q.1 (by decide))).trans ((hq_54.i 7 5 (by decide) (by decide)).trans ((hq_38.i 7 5 (by decide) (by decide)).trans ((hq_36.i 7 5 (by decide) (by decide)).trans ((hq_11.i 7 5 (by decide) (by decide)).trans (hq_7.i 7 5 (by decide) (by decide)))))))) dX10_layHeels_147 ?_
              refine lv_iadd hx hb dX10_layHeels_150 ?_
              refine lv_topi (fun y_71 ey_71 => ?_)
              have ty_71 : y_71.toInt = x_41.toInt + (G.1 7 5).toInt := xI_add rfl rfl ey_71 (by omega) (by omega)
              refine lv_aload_n hx hb dX10_layHeels_151 rfl (lv_at hl 6 rfl) ?_
              refine S_getI (v := (G.1 7 6)) (C := RX0) (T := TX0) (N := 8) hx hb hg iX0 hown hK hW kd_7 rfl 6 (by decide) (hg (Cond.fieldLink RX10 34 "SlabWalk$Course" "last" "I") m388) (fun _ h9 => h9) rfl ((hq_66.i 7 6 (by decide) (by decide)).trans ((gp_ne eG_56 (fun q => absurd q.1 (by decide))).trans ((hq_54.i 7 6 (by decide) (by decide)).trans ((hq_38.i 7 6 (by decide) (by decide)).trans ((hq_36.i 7 6 (by decide) (by decide)).trans ((hq_11.i 7 6 (by decide) (by decide)).trans ((hq_7.i 7 6 (by decide) (by decide)).trans (rfl)))))))) dX10_layHeels_152 ?_
              refine va_mmin hx hb (by rw [hml]; exact hl.1.symm) hown (hg (Cond.methodLink RX10 49 Lib.Math.min.name) m1001) (hg (Cond.static Lib.Math.min.name) m636) (hg (Cond.initialized "java/lang/Math") m132) (hg (Cond.code Lib.Math.min.name Lib.Math.min.code 2 (some .int)) m637) (Nat.le_of_ble_eq_true rfl) (Nat.le_of_ble_eq_true rfl) (Nat.le_of_ble_eq_true rfl) (Nat.le_of_ble_eq_true rfl) dX10_layHeels_155 ?_
              refine lv_topi (fun y_72 ey_72 => ?_)
              have ty_72 := xI_min (X := y_71.toInt) (Y := (G.1 7 6).toInt) rfl rfl ey_72
              refine lv_istore (lv' := [(5, .int y_72), (4, .int y_68), (6, .int w_63), (7, .int y_55), (10, .int x_41), (8, .int x_14), (0, .ref (a 8)), (1, .ref (a 7)), (3, .ref (a 33))]) hx hb dX10_layHeels_158 hl (by decide) rfl (fun ls hl => ?_)
              obtain ⟨y_73, ey_73⟩ : ∃ q, q = x_14 + (-1) := ⟨_, rfl⟩
              have e_74 := tI_rng x_14
              have ty_73 : y_73.toInt = x_14.toInt + (-1) := xI_add rfl rfl ey_73 (by omega) (by omega)
              refine lv_iinc (v := y_73) (lv' := [(8, .int y_73), (5, .int y_72), (4, .int y_68), (6, .int w_63), (7, .int y_55), (10, .int x_41), (0, .ref (a 8)), (1, .ref (a 7)), (3, .ref (a 33))]) hx hb dX10_layHeels_160 hl (k := 5) rfl (by rw [ey_73]; rfl) (by decide) rfl (fun ls hl => ?_)
              refine lv_goto (tgt := 18) hx hb dX10_layHeels_163 (by decide) ?_
              exact ih_12 (400 - y_55.toInt : Int).toNat (by omega) _ _ _ ⟨G_64, y_73, y_55, y_72, y_68, (Int.toNat_of_nonneg (by omega)), ⟨by omega, by omega⟩, ⟨by omega, by omega⟩, ⟨by omega, by omega⟩, (by omega), hW, hB_G_64, hF, ((((((Fr.rf.call hq_11 (by decide) (by decide)).call hq_36 (by decide) (by decide)).call hq_38 (by decide) (by decide)).call hq_54 (by decide) (by decide)).put eG_56 (Or.inl (by decide))).call hq_66 (by decide) (by decide)), hS, lv_sub hl [0, 4, 1, 2, 6, 7, 8] rfl⟩
            · have c_69 : w_63.toInt ≠ 0 := xI_ne rfl rfl c_69
              refine lv_aload_n hx hb dX10_layHeels_139 rfl (lv_at hl 6 rfl) ?_
              refine S_getI (v := (G.1 7 4)) (C := RX0) (T := TX0) (N := 8) hx hb hg iX0 hown hK hW kd_7 rfl 4 (by decide) (hg (Cond.fieldLink RX10 64 "SlabWalk$Course" "most" "I") m383) (fun _ h9 => h9) rfl ((hq_66.i 7 4 (by decide) (by decide)).trans ((gp_ne eG_56 (fun q => absurd q.1 (by decide))).trans ((hq_54.i 7 4 (by decide) (by decide)).trans ((hq_38.i 7 4 (by decide) (by decide)).trans ((hq_36.i 7 4 (by decide) (by decide)).trans ((hq_11.i 7 4 (by decide) (by decide)).trans ((hq_7.i 7 4 (by decide) (by decide)).trans (rfl)))))))) dX10_layHeels_140 ?_
              refine lv_goto (tgt := 150) hx hb dX10_layHeels_143 (by decide) ?_
              refine lv_iadd hx hb dX10_layHeels_150 ?_
              refine lv_topi (fun y_75 ey_75 => ?_)
              have ty_75 : y_75.toInt = x_41.toInt + (G.1 7 4).toInt := xI_add rfl rfl ey_75 (by omega) (by omega)
              refine lv_aload_n hx hb dX10_layHeels_151 rfl (lv_at hl 6 rfl) ?_
              refine S_getI (v := (G.1 7 6)) (C := RX0) (T := TX0) (N := 8) hx hb hg iX0 hown hK hW kd_7 rfl 6 (by decide) (hg (Cond.fieldLink RX10 34 "SlabWalk$Course" "last" "I") m388) (fun _ h9 => h9) rfl ((hq_66.i 7 6 (by decide) (by decide)).trans ((gp_ne eG_56 (fun q => absurd q.1 (by decide))).trans ((hq_54.i 7 6 (by decide) (by decide)).trans ((hq_38.i 7 6 (by decide) (by decide)).trans ((hq_36.i 7 6 (by decide) (by decide)).trans ((hq_11.i 7 6 (by decide) (by decide)).trans ((hq_7.i 7 6 (by decide) (by decide)).trans (rfl)))))))) dX10_layHeels_152 ?_
              refine va_mmin hx hb (by rw [hml]; exact hl.1.symm) hown (hg (Cond.methodLink RX10 49 Lib.Math.min.name) m1001) (hg (Cond.static Lib.Math.min.name) m636) (hg (Cond.initialized "java/lang/Math") m132) (hg (Cond.code Lib.Math.min.name Lib.Math.min.code 2 (some .int)) m637) (Nat.le_of_ble_eq_true rfl) (Nat.le_of_ble_eq_true rfl) (Nat.le_of_ble_eq_true rfl) (Nat.le_of_ble_eq_true rfl) dX10_layHeels_155 ?_
              refine lv_topi (fun y_76 ey_76 => ?_)
              have ty_76 := xI_min (X := y_75.toInt) (Y := (G.1 7 6).toInt) rfl rfl ey_76
              refine lv_istore (lv' := [(5, .int y_76), (4, .int y_68), (6, .int w_63), (7, .int y_55), (10, .int x_41), (8, .int x_14), (0, .ref (a 8)), (1, .ref (a 7)), (3, .ref (a 33))]) hx hb dX10_layHeels_158 hl (by decide) rfl (fun ls hl => ?_)
              obtain ⟨y_77, ey_77⟩ : ∃ q, q = x_14 + (-1) := ⟨_, rfl⟩
              have e_78 := tI_rng x_14
              have ty_77 : y_77.toInt = x_14.toInt + (-1) := xI_add rfl rfl ey_77 (by omega) (by omega)
              refine lv_iinc (v := y_77) (lv' := [(8, .int y_77), (5, .int y_76), (4, .int y_68), (6, .int w_63), (7, .int y_55), (10, .int x_41), (0, .ref (a 8)), (1, .ref (a 7)), (3, .ref (a 33))]) hx hb dX10_layHeels_160 hl (k := 5) rfl (by rw [ey_77]; rfl) (by decide) rfl (fun ls hl => ?_)
              refine lv_goto (tgt := 18) hx hb dX10_layHeels_163 (by decide) ?_
              exact ih_12 (400 - y_55.toInt : Int).toNat (by omega) _ _ _ ⟨G_64, y_77, y_55, y_76, y_68, (Int.toNat_of_nonneg (by omega)), ⟨by omega, by omega⟩, ⟨by omega, by omega⟩, ⟨by omega, by omega⟩, (by omega), hW, hB_G_64, hF, ((((((Fr.rf.call hq_11 (by decide) (by decide)).call hq_36 (by decide) (by decide)).call hq_38 (by decide) (by decide)).call hq_54 (by decide) (by decide)).put eG_56 (Or.inl (by decide))).call hq_66 (by decide) (by decide)), hS, lv_sub hl [0, 4, 1, 2, 6, 7, 8] rfl⟩
          refine lv_icmp_le (tgt := 120) hx hb dX10_layHeels_113 (by decide) (fun c_79 => ?_) (fun c_79 => ?_)
          · have c_79 : x_41.toInt ≤ w_33.toInt := xI_le rfl rfl c_79
            refine lv_iconst (v := 0) hx hb dX10_layHeels_120 (by decide) ?_
            have qc_80 : (0 : Int32).toInt = 0 := rfl
            exact hJ_65 0 _ _ _ ⟨G_56, ⟨by omega, by omega⟩, hW, hB_G_56, hF, Fr.rf, hS, lv_sub hl [0, 1, 3, 4, 5, 6] rfl⟩
          · have c_79 : w_33.toInt < x_41.toInt := xI_nle rfl rfl c_79
            refine lv_iconst (v := 1) hx hb dX10_layHeels_116 (by decide) ?_
            refine lv_goto (tgt := 121) hx hb dX10_layHeels_117 (by decide) ?_
            have qc_81 : (1 : Int32).toInt = 1 := rfl
            exact hJ_65 1 _ _ _ ⟨G_56, ⟨by omega, by omega⟩, hW, hB_G_56, hF, Fr.rf, hS, lv_sub hl [0, 1, 3, 4, 5, 6] rfl⟩
        refine lv_icmp_ge (tgt := 100) hx hb dX10_layHeels_61 (by decide) (fun c_82 => ?_) (fun c_82 => ?_)
        · have c_82 : x_16.toInt ≤ x_41.toInt := xI_le rfl rfl c_82
          exact hJ_53 () _ _ _ ⟨G_37, hW, hB_G_37, hF, Fr.rf, hS, lv_sub hl [0, 1, 2, 3, 5, 6, 7] rfl⟩
        · have c_82 : x_41.toInt < x_16.toInt := xI_nle rfl rfl c_82
          refine lv_aload_n hx hb dX10_layHeels_64 rfl (lv_at hl 5 rfl) ?_
          refine S_getR (n := 41) (C := RX10) (T := TX10) (N := 5) hx hb hg iX10 hown hK hW kd_8 rfl 0 (by decide) (hg (Cond.fieldLink RX10 13 "SlabWalk$Trails" "rows" "[[I") m440) (fun _ h9 => h9) rfl dX10_layHeels_65 ?_
          refine lv_iload hx hb dX10_layHeels_68 (lv_at hl 2 rfl) ?_
          refine lv_iload hx hb dX10_layHeels_70 (lv_at hl 0 rfl) ?_
          refine lv_iload hx hb dX10_layHeels_72 (lv_at hl 1 rfl) ?_
          refine W.cut (σ := Int32) (pcJ := 82) (J := fun y H locs ls => ∃ (G_94 : GS), (0 ≤ y.toInt ∧ y.toInt ≤ 1) ∧ Wd D k A a G_94 H ∧ Bd G_94 ∧ Fr [33] [] G G_94 ∧ Fr [] [] G_37 G_94 ∧ va_S A s.heap H locs ∧ lv_has ls 11 [(10, .int x_41), (9, .int w_33), (8, .int x_14), (7, .int x_15), (5, .int x_16), (0, .ref (a 8)), (1, .ref (a 7)), (3, .ref (a 33))]) (stJ := fun y => [.int y, .int x_14, .ref (a 41)]) ?_ (fun hJ_95 => ?_)
          · intro y H locs ls hI
            obtain ⟨w_91, hy⟩ : ∃ q, q = y := ⟨_, rfl⟩
            subst hy
            obtain ⟨G_94, f_97, hW, hB_G_94, hF, hq_96, hS, hl⟩ := hI
            refine S_calli (va_runS (As := [.int x_14, .int w_91]) (rest := [.ref (a 41)]) ⟨hx, hb, hml, hown, hts⟩ (k_tRow l D k A a z G_94 x_14 w_91 ) (va_cwS 2 hts (gd_S hgd m1011 m1012 m124 m1013) rfl rfl rfl (by decide +kernel) ⟨Nat.le_of_ble_eq_true rfl, Nat.le_of_ble_eq_true rfl⟩) (pre_S hW hB_G_94 hK hZ hS) rfl rfl hl.1 rfl (lv_room (Nat.le_of_ble_eq_true rfl)) dX10_layHeels_82 ⟨Nat.le_of_ble_eq_true rfl, Nat.le_of_ble_eq_true rfl⟩) hS (fun r_98 G_99 H locs hpo hW hS => ?_)
            obtain ⟨hB_G_99, hq_100, f_102⟩ := hpo
            have hF := hF.call hq_100 (by decide) (by decide)
            refine S_aald hx hb hK hW kd_41 (vin (by omega) (by omega)) dX10_layHeels_85 ?_
            obtain ⟨w_103, ew_103, hk_w_103, hq_w_103⟩ := rows_v hB_G_99 (x := r_98) (by omega) (by omega)
            refine rows_at ew_103 ?_
            refine lv_iload hx hb dX10_layHeels_86 (lv_at hl 0 rfl) ?_
            refine S_iald hx hb hK hW hk_w_103 (vin (by omega) (by omega)) dX10_layHeels_88 (fun y_104 ey_104 => ?_)
            refine lv_iload hx hb dX10_layHeels_89 (lv_at hl 2 rfl) ?_
            refine lv_icmp_eq (tgt := 100) hx hb dX10_layHeels_91 (by decide) (fun c_105 => ?_) (fun c_105 => ?_)
            · have c_105 : y_104.toInt = x_14.toInt := xI_eq rfl rfl c_105
              exact hJ_53 () _ _ _ ⟨G_99, hW, hB_G_99, hF, ((Fr.rf.call hq_96 (by decide) (by decide)).call hq_100 (by decide) (by decide)), hS, lv_sub hl [0, 1, 2, 3, 5, 6, 7] rfl⟩
            · have c_105 : y_104.toInt ≠ x_14.toInt := xI_ne rfl rfl c_105
              obtain ⟨y_106, ey_106⟩ : ∃ q, q = x_41 + 1 := ⟨_, rfl⟩
              have ty_106 : y_106.toInt = x_41.toInt + 1 := xI_add rfl rfl ey_106 (by omega) (by omega)
              refine lv_iinc (v := y_106) (lv' := [(10, .int y_106), (9, .int w_33), (8, .int x_14), (7, .int x_15), (5, .int x_16), (0, .ref (a 8)), (1, .ref (a 7)), (3, .ref (a 33))]) hx hb dX10_layHeels_94 hl (k := 0) rfl (by rw [ey_106]; rfl) (by decide) rfl (fun ls hl => ?_)
              refine lv_goto (tgt := 57) hx hb dX10_layHeels_97 (by decide) ?_
              exact ih_39 (24400 - y_106.toInt : Int).toNat (by omega) _ _ _ ⟨G_99, y_106, (Int.toNat_of_nonneg (by omega)), ⟨by omega, by omega⟩, (by omega), hW, hB_G_99, hF, (((Fr.rf.call hq_38 (by decide) (by decide)).call hq_96 (by decide) (by decide)).call hq_100 (by decide) (by decide)), hS, lv_sub hl [0, 1, 2, 3, 4, 5, 6, 7] rfl⟩
          refine lv_icmp_le (tgt := 81) hx hb dX10_layHeels_74 (by decide) (fun c_107 => ?_) (fun c_107 => ?_)
          · have c_107 : x_41.toInt ≤ w_33.toInt := xI_le rfl rfl c_107
            refine lv_iconst (v := 0) hx hb dX10_layHeels_81 (by decide) ?_
            have qc_108 : (0 : Int32).toInt = 0 := rfl
            exact hJ_95 0 _ _ _ ⟨G_37, ⟨by omega, by omega⟩, hW, hB_G_37, hF, Fr.rf, hS, lv_sub hl [0, 1, 2, 3, 4, 5, 6, 7] rfl⟩
          · have c_107 : w_33.toInt < x_41.toInt := xI_nle rfl rfl c_107
            refine lv_iconst (v := 1) hx hb dX10_layHeels_77 (by decide) ?_
            refine lv_goto (tgt := 82) hx hb dX10_layHeels_78 (by decide) ?_
            have qc_109 : (1 : Int32).toInt = 1 := rfl
            exact hJ_95 1 _ _ _ ⟨G_37, ⟨by omega, by omega⟩, hW, hB_G_37, hF, Fr.rf, hS, lv_sub hl [0, 1, 2, 3, 4, 5, 6, 7] rfl⟩
      refine lv_if_ne (tgt := 40) hx hb dX10_layHeels_32 (by decide) (fun c_110 => ?_) (fun c_110 => ?_)
      · have c_110 : x_15.toInt ≠ 0 := xI_ne rfl rfl c_110
        refine lv_aload_n hx hb dX10_layHeels_40 rfl (lv_at hl 6 rfl) ?_
        refine lv_iload hx hb dX10_layHeels_41 (lv_at hl 1 rfl) ?_
        refine lv_iconst (v := 1) hx hb dX10_layHeels_43 (by decide) ?_
        refine lv_isub hx hb dX10_layHeels_44 ?_
        refine lv_topi (fun y_111 ey_111 => ?_)
        have ty_111 : y_111.toInt = x_15.toInt - 1 := xI_sub rfl rfl ey_111 (by omega) (by omega)
        refine S_iald hx hb hK hW kd_33 (vin (by omega) (by omega)) dX10_layHeels_45 (fun y_112 ey_112 => ?_)
        refine lv_aload_n hx hb dX10_layHeels_46 rfl (lv_at hl 5 rfl) ?_
        refine S_getI (v := (G.1 7 4)) (C := RX0) (T := TX0) (N := 8) hx hb hg iX0 hown hK hW kd_7 rfl 4 (by decide) (hg (Cond.fieldLink RX10 64 "SlabWalk$Course" "most" "I") m383) (fun _ h9 => h9) rfl ((hq_11.i 7 4 (by decide) (by decide)).trans ((hq_7.i 7 4 (by decide) (by decide)).trans (rfl))) dX10_layHeels_47 ?_
        refine lv_iadd hx hb dX10_layHeels_50 ?_
        refine lv_topi (fun y_113 ey_113 => ?_)
        exact hJ_35 y_113 _ _ _ ⟨G_10, hW, hB_G_10, hF, Fr.rf, hS, lv_sub hl [0, 1, 2, 3, 4, 5, 6] rfl⟩
      · have c_110 : x_15.toInt = 0 := xI_eq rfl rfl c_110
        refine lv_ldc (v := 1000000) hx hb hown (hg (Cond.constant RX10 44 1000000) m997) dX10_layHeels_35 ?_
        refine lv_goto (tgt := 51) hx hb dX10_layHeels_37 (by decide) ?_
        have qc_114 : (1000000 : Int32).toInt = 1000000 := rfl
        exact hJ_35 1000000 _ _ _ ⟨G_10, hW, hB_G_10, hF, Fr.rf, hS, lv_sub hl [0, 1, 2, 3, 4, 5, 6] rfl⟩

set_option maxHeartbeats 4000000 in
set_option maxRecDepth 100000 in
theorem k_tThere (l : Launch) (D : va_G) (k : KT) (A : Nat → Prop) (a : Nat → Nat) (z : SK) (G : GS)  (hci : (G.1 7 6).toInt ≤ 399 ∧ (G.1 7 3).toInt ≤ (G.1 7 4).toInt ∧ ((G.1 7 7).toInt ≤ 0 ∨ (G.1 7 7).toInt + (G.1 7 4).toInt ≤ (G.1 7 6).toInt + 1)) : Met l yX10_isThereWay (WS yX10_isThereWay cX10_isThereWay 8 (some .boolean)) ({ frames := 0, cells := 0, slots := 0, locals := 0 }) (va_Pc [.ref (a 8), .ref (a 7)] (cW D k A a z G)) (va_Qi (fun (r : Int32) (G1 : GS) => Bd G1 ∧ Fr [42, 43] [] G G1 ∧ (0 ≤ r.toInt ∧ r.toInt ≤ 1)) (fun (G1 : GS) t => Wd D k A a G1 t.heap) A) 0 0 A := by
  refine Met.ofW (cc := cX10_isThereWay) (maxL := 8) (ret := (some .boolean)) (by decide) rfl ?_
  intro p e s m args below meth c s₁ B hml hv
  obtain ⟨rfl, hW, hB_G, hK, hZ⟩ := hv
  have hx := B.exec
  have hb := B.bytes
  have hr := B.returns
  have hts := atoms_spec (ws := WS yX10_isThereWay cX10_isThereWay 8 (some .boolean)) B.pre
  have hgd : ∀ w ∈ gd, w ∈ WS yX10_isThereWay cX10_isThereWay 8 (some .boolean) := fun w h => List.mem_cons_of_mem _ h
  have hg : ∀ w ∈ gd, w.before _ s = true := fun w h => hts w (hgd w h)
  have hown : s.vm.findClass RX10 = some m.cls := findClass_of_methodNamed B.named
  have hS : va_S A s.heap s.heap [] := va_S.rf
  have hF : Fr [42, 43] [] G G := Fr.rf
  have hl := lv_entry ([.ref (a 8), .ref (a 7)]) (n := 8) (Nat.le_of_ble_eq_true rfl)
  rw [lg_entry_eq]
  generalize (lg_sl ([.ref (a 8), .ref (a 7)]) ++ List.replicate (8 - (lg_sl ([.ref (a 8), .ref (a 7)])).length) Slot.unset).toArray = ls at hl ⊢
  have hl : lv_has ls 8 [(0, .ref (a 8)), (1, .ref (a 7))] := hl
  have b_1 : (-1) ≤ (G.1 7 6).toInt ∧ (G.1 7 6).toInt ≤ 400 := hB_G.i 7 6 rfl rfl
  refine lv_aload_n hx hb dX10_isThereWay_0 rfl (lv_at hl 0 rfl) ?_
  refine S_getR (n := 41) (C := RX10) (T := TX10) (N := 5) hx hb hg iX10 hown hK hW kd_8 rfl 0 (by decide) (hg (Cond.fieldLink RX10 13 "SlabWalk$Trails" "rows" "[[I") m440) (fun _ h9 => h9) rfl dX10_isThereWay_1 ?_
  refine lv_iconst (v := 0) hx hb dX10_isThereWay_4 (by decide) ?_
  refine S_aald hx hb hK hW kd_41 (vin (by decide) (by decide)) dX10_isThereWay_5 ?_
  refine rows_at (n := 42) (rows_c hB_G 0 (by decide)) ?_
  refine lv_astore_n (lv' := [(2, .ref (a 42)), (0, .ref (a 8)), (1, .ref (a 7))]) hx hb dX10_isThereWay_6 rfl hl (by decide) rfl (fun ls hl => ?_)
  refine lv_aload_n hx hb dX10_isThereWay_7 rfl (lv_at hl 1 rfl) ?_
  refine S_getR (n := 41) (C := RX10) (T := TX10) (N := 5) hx hb hg iX10 hown hK hW kd_8 rfl 0 (by decide) (hg (Cond.fieldLink RX10 13 "SlabWalk$Trails" "rows" "[[I") m440) (fun _ h9 => h9) rfl dX10_isThereWay_8 ?_
  refine lv_iconst (v := 1) hx hb dX10_isThereWay_11 (by decide) ?_
  refine S_aald hx hb hK hW kd_41 (vin (by decide) (by decide)) dX10_isThereWay_12 ?_
  refine rows_at (n := 43) (rows_c hB_G 1 (by decide)) ?_
  refine lv_astore_n (lv' := [(3, .ref (a 43)), (2, .ref (a 42)), (0, .ref (a 8)), (1, .ref (a 7))]) hx hb dX10_isThereWay_13 rfl hl (by decide) rfl (fun ls hl => ?_)
  refine lv_aload_n hx hb dX10_isThereWay_14 rfl (lv_at hl 1 rfl) ?_
  refine lv_aload_n hx hb dX10_isThereWay_15 rfl (lv_at hl 3 rfl) ?_
  refine S_getI (v := (G.1 7 6)) (C := RX0) (T := TX0) (N := 8) hx hb hg iX0 hown hK hW kd_7 rfl 6 (by decide) (hg (Cond.fieldLink RX10 34 "SlabWalk$Course" "last" "I") m388) (fun _ h9 => h9) rfl rfl dX10_isThereWay_16 ?_
  refine lv_iconst (v := 1) hx hb dX10_isThereWay_19 (by decide) ?_
  refine lv_iadd hx hb dX10_isThereWay_20 ?_
  refine lv_topi (fun y_2 ey_2 => ?_)
  have ty_2 : y_2.toInt = (G.1 7 6).toInt + 1 := xI_add rfl rfl ey_2 (by omega) (by omega)
  refine lv_ldc (v := 1000000) hx hb hown (hg (Cond.constant RX10 44 1000000) m997) dX10_isThereWay_21 ?_
  refine S_iast hx hb hK hW hS kd_42 (vin (by omega) (by omega)) dX10_isThereWay_23 (fun G_3 H locs eG_3 hW hS => ?_)
  have hB_G_3 : Bd G_3 := hB_G.put (lo := (-2147483648)) (hi := 2147483647) eG_3 rfl rfl rfl (tI_rng _).1 (tI_rng _).2 (hB_G.2.put eG_3 rfl)
  have hF := hF.put eG_3 (Or.inl (by decide))
  refine lv_aload_n hx hb dX10_isThereWay_24 rfl (lv_at hl 0 rfl) ?_
  refine lv_aload_n hx hb dX10_isThereWay_25 rfl (lv_at hl 3 rfl) ?_
  refine S_getI (v := (G.1 7 6)) (C := RX0) (T := TX0) (N := 8) hx hb hg iX0 hown hK hW kd_7 rfl 6 (by decide) (hg (Cond.fieldLink RX10 34 "SlabWalk$Course" "last" "I") m388) (fun _ h9 => h9) rfl ((gp_ne eG_3 (fun q => absurd q.1 (by decide))).trans (rfl)) dX10_isThereWay_26 ?_
  refine lv_iconst (v := 1) hx hb dX10_isThereWay_29 (by decide) ?_
  refine lv_iadd hx hb dX10_isThereWay_30 ?_
  refine lv_topi (fun y_4 ey_4 => ?_)
  have ty_4 : y_4.toInt = (G.1 7 6).toInt + 1 := xI_add rfl rfl ey_4 (by omega) (by omega)
  refine lv_ldc (v := 1000000) hx hb hown (hg (Cond.constant RX10 44 1000000) m997) dX10_isThereWay_31 ?_
  refine S_iast hx hb hK hW hS kd_43 (vin (by omega) (by omega)) dX10_isThereWay_33 (fun G_5 H locs eG_5 hW hS => ?_)
  have hB_G_5 : Bd G_5 := hB_G_3.put (lo := (-2147483648)) (hi := 2147483647) eG_5 rfl rfl rfl (tI_rng _).1 (tI_rng _).2 (hB_G_3.2.put eG_5 rfl)
  have hF := hF.put eG_5 (Or.inl (by decide))
  refine lv_aload_n hx hb dX10_isThereWay_34 rfl (lv_at hl 3 rfl) ?_
  refine S_getI (v := (G.1 7 6)) (C := RX0) (T := TX0) (N := 8) hx hb hg iX0 hown hK hW kd_7 rfl 6 (by decide) (hg (Cond.fieldLink RX10 34 "SlabWalk$Course" "last" "I") m388) (fun _ h9 => h9) rfl ((gp_ne eG_5 (fun q => absurd q.1 (by decide))).trans ((gp_ne eG_3 (fun q => absurd q.1 (by decide))).trans (rfl))) dX10_isThereWay_35 ?_
  refine lv_istore (lv' := [(4, .int (G.1 7 6)), (3, .ref (a 43)), (2, .ref (a 42)), (0, .ref (a 8)), (1, .ref (a 7))]) hx hb dX10_isThereWay_38 hl (by decide) rfl (fun ls hl => ?_)
  refine loop_N (Inv := fun n H locs ls => ∃ (G_6 : GS) (x_10 : Int32), (n : Int) = x_10.toInt - (-1) ∧ ((-1) ≤ x_10.toInt ∧ x_10.toInt ≤ 399) ∧ Wd D k A a G_6 H ∧ Bd G_6 ∧ Fr [42, 43] [] G G_6 ∧ Fr [42, 43] [] G_5 G_6 ∧ va_S A s.heap H locs ∧ lv_has ls 8 [(4, .int x_10), (3, .ref (a 43)), (2, .ref (a 42)), (1, .ref (a 7))]) (fun n_9 H locs ls ih_8 hI => ?_) ((G.1 7 6).toInt - (-1) : Int).toNat ⟨G_5, (G.1 7 6), (Int.toNat_of_nonneg (by omega)), ⟨by omega, by omega⟩, hW, hB_G_5, hF, Fr.rf, hS, lv_sub hl [0, 1, 2, 4] rfl⟩
  obtain ⟨G_6, x_10, hn_12, f_11, hW, hB_G_6, hF, hq_7, hS, hl⟩ := hI
  refine lv_iload hx hb dX10_isThereWay_40 (lv_at hl 0 rfl) ?_
  refine lv_if_lt (tgt := 191) hx hb dX10_isThereWay_42 (by decide) (fun c_13 => ?_) (fun c_13 => ?_)
  · have c_13 : x_10.toInt < 0 := xI_lt rfl rfl c_13
    refine lv_aload_n hx hb dX10_isThereWay_191 rfl (lv_at hl 2 rfl) ?_
    refine lv_iconst (v := 0) hx hb dX10_isThereWay_192 (by decide) ?_
    refine S_iald hx hb hK hW kd_42 (vin (by decide) (by decide)) dX10_isThereWay_193 (fun y_14 ey_14 => ?_)
    refine lv_aload_n hx hb dX10_isThereWay_194 rfl (lv_at hl 3 rfl) ?_
    have b_15 : 0 ≤ (G.1 7 4).toInt ∧ (G.1 7 4).toInt ≤ 60 := hB_G.i 7 4 rfl rfl
    refine S_getI (v := (G.1 7 4)) (C := RX0) (T := TX0) (N := 8) hx hb hg iX0 hown hK hW kd_7 rfl 4 (by decide) (hg (Cond.fieldLink RX10 64 "SlabWalk$Course" "most" "I") m383) (fun _ h9 => h9) rfl ((hq_7.i 7 4 (by decide) (by decide)).trans ((gp_ne eG_5 (fun q => absurd q.1 (by decide))).trans (gp_ne eG_3 (fun q => absurd q.1 (by decide))))) dX10_isThereWay_195 ?_
    refine lv_icmp_ge (tgt := 205) hx hb dX10_isThereWay_198 (by decide) (fun c_16 => ?_) (fun c_16 => ?_)
    · have c_16 : (G.1 7 4).toInt ≤ y_14.toInt := xI_le rfl rfl c_16
      refine lv_iconst (v := 0) hx hb dX10_isThereWay_205 (by decide) ?_
      exact W.zret (v := 0) hx hb hr (by decide) (fun t ht _ => ⟨⟨0, G_6, rfl, ⟨hB_G_6, hF, ⟨by decide, by decide⟩⟩, wd_t ht hW⟩, hS.F ht⟩) hS.2.2 dX10_isThereWay_206
    · have c_16 : y_14.toInt < (G.1 7 4).toInt := xI_nle rfl rfl c_16
      refine lv_iconst (v := 1) hx hb dX10_isThereWay_201 (by decide) ?_
      refine lv_goto (tgt := 206) hx hb dX10_isThereWay_202 (by decide) ?_
      exact W.zret (v := 1) hx hb hr (by decide) (fun t ht _ => ⟨⟨1, G_6, rfl, ⟨hB_G_6, hF, ⟨by decide, by decide⟩⟩, wd_t ht hW⟩, hS.F ht⟩) hS.2.2 dX10_isThereWay_206
  · have c_13 : 0 ≤ x_10.toInt := xI_nlt rfl rfl c_13
    refine lv_iload hx hb dX10_isThereWay_45 (lv_at hl 0 rfl) ?_
    refine lv_aload_n hx hb dX10_isThereWay_47 rfl (lv_at hl 3 rfl) ?_
    have b_17 : 0 ≤ (G.1 7 7).toInt ∧ (G.1 7 7).toInt ≤ 400 := hB_G.i 7 7 rfl rfl
    refine S_getI (v := (G.1 7 7)) (C := RX0) (T := TX0) (N := 8) hx hb hg iX0 hown hK hW kd_7 rfl 7 (by decide) (hg (Cond.fieldLink RX10 58 "SlabWalk$Course" "end" "I") m394) (fun _ h9 => h9) rfl ((hq_7.i 7 7 (by decide) (by decide)).trans ((gp_ne eG_5 (fun q => absurd q.1 (by decide))).trans (gp_ne eG_3 (fun q => absurd q.1 (by decide))))) dX10_isThereWay_48 ?_
    refine W.cut (σ := Int32) (pcJ := 59) (J := fun y H locs ls => ∃ (G_23 : GS), (0 ≤ y.toInt ∧ y.toInt ≤ 1) ∧ (y.toInt = 1 ∨ x_10.toInt < (G.1 7 7).toInt) ∧ Wd D k A a G_23 H ∧ Bd G_23 ∧ Fr [42, 43] [] G G_23 ∧ Fr [] [] G_6 G_23 ∧ va_S A s.heap H locs ∧ lv_has ls 8 [(4, .int x_10), (3, .ref (a 43)), (2, .ref (a 42)), (1, .ref (a 7))]) (stJ := fun y => [.int y]) ?_ (fun hJ_24 => ?_)
    · intro y H locs ls hI
      obtain ⟨w_22, hy⟩ : ∃ q, q = y := ⟨_, rfl⟩
      subst hy
      obtain ⟨G_23, f_26, f_27, hW, hB_G_23, hF, hq_25, hS, hl⟩ := hI
      refine lv_istore (lv' := [(5, .int w_22), (4, .int x_10), (3, .ref (a 43)), (2, .ref (a 42)), (1, .ref (a 7))]) hx hb dX10_isThereWay_59 hl (by decide) rfl (fun ls hl => ?_)
      refine lv_iload hx hb dX10_isThereWay_61 (lv_at hl 0 rfl) ?_
      refine W.cut (σ := Unit) (pcJ := 85) (J := fun y H locs ls => ∃ (G_32 : GS), Wd D k A a G_32 H ∧ Bd G_32 ∧ Fr [42, 43] [] G G_32 ∧ Fr [42, 43] [] G_23 G_32 ∧ va_S A s.heap H locs ∧ lv_has ls 8 [(4, .int x_10), (3, .ref (a 43)), (2, .ref (a 42)), (1, .ref (a 7))]) (stJ := fun _ => []) ?_ (fun hJ_33 => ?_)
      · intro y H locs ls hI
        obtain ⟨G_32, hW, hB_G_32, hF, hq_34, hS, hl⟩ := hI
        refine lv_iconst (v := 1) hx hb dX10_isThereWay_85 (by decide) ?_
        refine lv_goto (tgt := 90) hx hb dX10_isThereWay_86 (by decide) ?_
        refine lv_istore (lv' := [(6, .int 1), (4, .int x_10), (3, .ref (a 43)), (2, .ref (a 42)), (1, .ref (a 7))]) hx hb dX10_isThereWay_90 hl (by decide) rfl (fun ls hl => ?_)
        refine lv_iload hx hb dX10_isThereWay_92 (lv_at hl 0 rfl) ?_
        refine lv_if_ne (tgt := 118) hx hb dX10_isThereWay_94 (by decide) (fun c_35 => ?_) (fun c_35 => ?_)
        · have c_35 : (1 : Int) ≠ (0 : Int) := xI_ne rfl rfl c_35
          refine lv_iconst (v := 1) hx hb dX10_isThereWay_118 (by decide) ?_
          refine lv_goto (tgt := 123) hx hb dX10_isThereWay_119 (by decide) ?_
          refine lv_istore (lv' := [(7, .int 1), (6, .int 1), (4, .int x_10), (3, .ref (a 43)), (2, .ref (a 42)), (1, .ref (a 7))]) hx hb dX10_isThereWay_123 hl (by decide) rfl (fun ls hl => ?_)
          refine lv_aload_n hx hb dX10_isThereWay_125 rfl (lv_at hl 3 rfl) ?_
          refine lv_iload hx hb dX10_isThereWay_126 (lv_at hl 2 rfl) ?_
          refine lv_aload_n hx hb dX10_isThereWay_128 rfl (lv_at hl 5 rfl) ?_
          refine S_getR (n := 40) (C := RX0) (T := TX0) (N := 8) hx hb hg iX0 hown hK hW kd_7 rfl 0 (by decide) (hg (Cond.fieldLink RX10 55 "SlabWalk$Course" "lawful" "[Z") m373) (fun _ h9 => h9) rfl dX10_isThereWay_129 ?_
          refine lv_iload hx hb dX10_isThereWay_132 (lv_at hl 2 rfl) ?_
          refine S_zald hx hb hK hW kd_40 (vin (by omega) (by omega)) dX10_isThereWay_134 (fun y_36 ey_36 => ?_)
          have ty_36 : 0 ≤ y_36.toInt ∧ y_36.toInt ≤ 1 := hB_G_32.v ey_36 rfl rfl
          refine lv_if_eq (tgt := 148) hx hb dX10_isThereWay_135 (by decide) (fun c_37 => ?_) (fun c_37 => ?_)
          · have c_37 : y_36.toInt = 0 := xI_eq rfl rfl c_37
            refine lv_aload_n hx hb dX10_isThereWay_148 rfl (lv_at hl 3 rfl) ?_
            refine lv_iload hx hb dX10_isThereWay_149 (lv_at hl 2 rfl) ?_
            refine lv_iconst (v := 1) hx hb dX10_isThereWay_151 (by decide) ?_
            refine lv_iadd hx hb dX10_isThereWay_152 ?_
            refine lv_topi (fun y_38 ey_38 => ?_)
            have ty_38 : y_38.toInt = x_10.toInt + 1 := xI_add rfl rfl ey_38 (by omega) (by omega)
            refine S_iald hx hb hK hW kd_43 (vin (by omega) (by omega)) dX10_isThereWay_153 (fun y_39 ey_39 => ?_)
            refine S_iast hx hb hK hW hS kd_43 (vin (by omega) (by omega)) dX10_isThereWay_154 (fun G_40 H locs eG_40 hW hS => ?_)
            have hB_G_40 : Bd G_40 := hB_G_32.put (lo := (-2147483648)) (hi := 2147483647) eG_40 rfl rfl rfl (tI_rng _).1 (tI_rng _).2 (hB_G_32.2.put eG_40 rfl)
            have hF := hF.put eG_40 (Or.inl (by decide))
            refine lv_aload_n hx hb dX10_isThereWay_155 rfl (lv_at hl 4 rfl) ?_
            refine lv_iload hx hb dX10_isThereWay_156 (lv_at hl 2 rfl) ?_
            refine lv_aload_n hx hb dX10_isThereWay_158 rfl (lv_at hl 5 rfl) ?_
            refine S_getR (n := 40) (C := RX0) (T := TX0) (N := 8) hx hb hg iX0 hown hK hW kd_7 rfl 0 (by decide) (hg (Cond.fieldLink RX10 55 "SlabWalk$Course" "lawful" "[Z") m373) (fun _ h9 => h9) rfl dX10_isThereWay_159 ?_
            refine lv_iload hx hb dX10_isThereWay_162 (lv_at hl 2 rfl) ?_
            refine S_zald hx hb hK hW kd_40 (vin (by omega) (by omega)) dX10_isThereWay_164 (fun y_41 ey_41 => ?_)
            have ty_41 : 0 ≤ y_41.toInt ∧ y_41.toInt ≤ 1 := hB_G_40.v ey_41 rfl rfl
            refine lv_if_eq (tgt := 178) hx hb dX10_isThereWay_165 (by decide) (fun c_42 => ?_) (fun c_42 => ?_)
            · have c_42 : y_41.toInt = 0 := xI_eq rfl rfl c_42
              refine lv_aload_n hx hb dX10_isThereWay_178 rfl (lv_at hl 4 rfl) ?_
              refine lv_iload hx hb dX10_isThereWay_179 (lv_at hl 2 rfl) ?_
              refine lv_iconst (v := 1) hx hb dX10_isThereWay_181 (by decide) ?_
              refine lv_iadd hx hb dX10_isThereWay_182 ?_
              refine lv_topi (fun y_43 ey_43 => ?_)
              have ty_43 : y_43.toInt = x_10.toInt + 1 := xI_add rfl rfl ey_43 (by omega) (by omega)
              refine S_iald hx hb hK hW kd_42 (vin (by omega) (by omega)) dX10_isThereWay_183 (fun y_44 ey_44 => ?_)
              refine S_iast hx hb hK hW hS kd_42 (vin (by omega) (by omega)) dX10_isThereWay_184 (fun G_45 H locs eG_45 hW hS => ?_)
              have hB_G_45 : Bd G_45 := hB_G_40.put (lo := (-2147483648)) (hi := 2147483647) eG_45 rfl rfl rfl (tI_rng _).1 (tI_rng _).2 (hB_G_40.2.put eG_45 rfl)
              have hF := hF.put eG_45 (Or.inl (by decide))
              obtain ⟨y_46, ey_46⟩ : ∃ q, q = x_10 + (-1) := ⟨_, rfl⟩
              have ty_46 : y_46.toInt = x_10.toInt + (-1) := xI_add rfl rfl ey_46 (by omega) (by omega)
              refine lv_iinc (v := y_46) (lv' := [(4, .int y_46), (7, .int 1), (6, .int 1), (3, .ref (a 43)), (2, .ref (a 42)), (1, .ref (a 7))]) hx hb dX10_isThereWay_185 hl (k := 2) rfl (by rw [ey_46]; rfl) (by decide) rfl (fun ls hl => ?_)
              refine lv_goto (tgt := 40) hx hb dX10_isThereWay_188 (by decide) ?_
              exact ih_8 (y_46.toInt - (-1) : Int).toNat (by omega) _ _ _ ⟨G_45, y_46, (Int.toNat_of_nonneg (by omega)), ⟨by omega, by omega⟩, hW, hB_G_45, hF, (((((Fr.rf.call hq_7 (by decide) (by decide)).call hq_25 (by decide) (by decide)).call hq_34 (by decide) (by decide)).put eG_40 (Or.inl (by decide))).put eG_45 (Or.inl (by decide))), hS, lv_sub hl [0, 3, 4, 5] rfl⟩
            · have c_42 : y_41.toInt ≠ 0 := xI_ne rfl rfl c_42
              refine lv_iload hx hb dX10_isThereWay_168 (lv_at hl 0 rfl) ?_
              refine lv_if_eq (tgt := 178) hx hb dX10_isThereWay_170 (by decide) (fun c_47 => ?_) (fun c_47 => ?_)
              · have c_47 : (1 : Int) = (0 : Int) := xI_eq rfl rfl c_47
                exfalso; omega
              · have c_47 : (1 : Int) ≠ (0 : Int) := xI_ne rfl rfl c_47
                refine lv_iload hx hb dX10_isThereWay_173 (lv_at hl 2 rfl) ?_
                refine lv_goto (tgt := 184) hx hb dX10_isThereWay_175 (by decide) ?_
                refine S_iast hx hb hK hW hS kd_42 (vin (by omega) (by omega)) dX10_isThereWay_184 (fun G_48 H locs eG_48 hW hS => ?_)
                have hB_G_48 : Bd G_48 := hB_G_40.put (lo := (-2147483648)) (hi := 2147483647) eG_48 rfl rfl rfl (tI_rng _).1 (tI_rng _).2 (hB_G_40.2.put eG_48 rfl)
                have hF := hF.put eG_48 (Or.inl (by decide))
                obtain ⟨y_49, ey_49⟩ : ∃ q, q = x_10 + (-1) := ⟨_, rfl⟩
                have ty_49 : y_49.toInt = x_10.toInt + (-1) := xI_add rfl rfl ey_49 (by omega) (by omega)
                refine lv_iinc (v := y_49) (lv' := [(4, .int y_49), (7, .int 1), (6, .int 1), (3, .ref (a 43)), (2, .ref (a 42)), (1, .ref (a 7))]) hx hb dX10_isThereWay_185 hl (k := 2) rfl (by rw [ey_49]; rfl) (by decide) rfl (fun ls hl => ?_)
                refine lv_goto (tgt := 40) hx hb dX10_isThereWay_188 (by decide) ?_
                exact ih_8 (y_49.toInt - (-1) : Int).toNat (by omega) _ _ _ ⟨G_48, y_49, (Int.toNat_of_nonneg (by omega)), ⟨by omega, by omega⟩, hW, hB_G_48, hF, (((((Fr.rf.call hq_7 (by decide) (by decide)).call hq_25 (by decide) (by decide)).call hq_34 (by decide) (by decide)).put eG_40 (Or.inl (by decide))).put eG_48 (Or.inl (by decide))), hS, lv_sub hl [0, 3, 4, 5] rfl⟩
          · have c_37 : y_36.toInt ≠ 0 := xI_ne rfl rfl c_37
            refine lv_iload hx hb dX10_isThereWay_138 (lv_at hl 1 rfl) ?_
            refine lv_if_eq (tgt := 148) hx hb dX10_isThereWay_140 (by decide) (fun c_50 => ?_) (fun c_50 => ?_)
            · have c_50 : (1 : Int) = (0 : Int) := xI_eq rfl rfl c_50
              exfalso; omega
            · have c_50 : (1 : Int) ≠ (0 : Int) := xI_ne rfl rfl c_50
              refine lv_iload hx hb dX10_isThereWay_143 (lv_at hl 2 rfl) ?_
              refine lv_goto (tgt := 154) hx hb dX10_isThereWay_145 (by decide) ?_
              refine S_iast hx hb hK hW hS kd_43 (vin (by omega) (by omega)) dX10_isThereWay_154 (fun G_51 H locs eG_51 hW hS => ?_)
              have hB_G_51 : Bd G_51 := hB_G_32.put (lo := (-2147483648)) (hi := 2147483647) eG_51 rfl rfl rfl (tI_rng _).1 (tI_rng _).2 (hB_G_32.2.put eG_51 rfl)
              have hF := hF.put eG_51 (Or.inl (by decide))
              refine lv_aload_n hx hb dX10_isThereWay_155 rfl (lv_at hl 4 rfl) ?_
              refine lv_iload hx hb dX10_isThereWay_156 (lv_at hl 2 rfl) ?_
              refine lv_aload_n hx hb dX10_isThereWay_158 rfl (lv_at hl 5 rfl) ?_
              refine S_getR (n := 40) (C := RX0) (T := TX0) (N := 8) hx hb hg iX0 hown hK hW kd_7 rfl 0 (by decide) (hg (Cond.fieldLink RX10 55 "SlabWalk$Course" "lawful" "[Z") m373) (fun _ h9 => h9) rfl dX10_isThereWay_159 ?_
              refine lv_iload hx hb dX10_isThereWay_162 (lv_at hl 2 rfl) ?_
              refine S_zald hx hb hK hW kd_40 (vin (by omega) (by omega)) dX10_isThereWay_164 (fun y_52 ey_52 => ?_)
              have ty_52 : 0 ≤ y_52.toInt ∧ y_52.toInt ≤ 1 := hB_G_51.v ey_52 rfl rfl
              refine lv_if_eq (tgt := 178) hx hb dX10_isThereWay_165 (by decide) (fun c_53 => ?_) (fun c_53 => ?_)
              · have c_53 : y_52.toInt = 0 := xI_eq rfl rfl c_53
                refine lv_aload_n hx hb dX10_isThereWay_178 rfl (lv_at hl 4 rfl) ?_
                refine lv_iload hx hb dX10_isThereWay_179 (lv_at hl 2 rfl) ?_
                refine lv_iconst (v := 1) hx hb dX10_isThereWay_181 (by decide) ?_
                refine lv_iadd hx hb dX10_isThereWay_182 ?_
                refine lv_topi (fun y_54 ey_54 => ?_)
                have ty_54 : y_54.toInt = x_10.toInt + 1 := xI_add rfl rfl ey_54 (by omega) (by omega)
                refine S_iald hx hb hK hW kd_42 (vin (by omega) (by omega)) dX10_isThereWay_183 (fun y_55 ey_55 => ?_)
                refine S_iast hx hb hK hW hS kd_42 (vin (by omega) (by omega)) dX10_isThereWay_184 (fun G_56 H locs eG_56 hW hS => ?_)
                have hB_G_56 : Bd G_56 := hB_G_51.put (lo := (-2147483648)) (hi := 2147483647) eG_56 rfl rfl rfl (tI_rng _).1 (tI_rng _).2 (hB_G_51.2.put eG_56 rfl)
                have hF := hF.put eG_56 (Or.inl (by decide))
                obtain ⟨y_57, ey_57⟩ : ∃ q, q = x_10 + (-1) := ⟨_, rfl⟩
                have ty_57 : y_57.toInt = x_10.toInt + (-1) := xI_add rfl rfl ey_57 (by omega) (by omega)
                refine lv_iinc (v := y_57) (lv' := [(4, .int y_57), (7, .int 1), (6, .int 1), (3, .ref (a 43)), (2, .ref (a 42)), (1, .ref (a 7))]) hx hb dX10_isThereWay_185 hl (k := 2) rfl (by rw [ey_57]; rfl) (by decide) rfl (fun ls hl => ?_)
                refine lv_goto (tgt := 40) hx hb dX10_isThereWay_188 (by decide) ?_
                exact ih_8 (y_57.toInt - (-1) : Int).toNat (by omega) _ _ _ ⟨G_56, y_57, (Int.toNat_of_nonneg (by omega)), ⟨by omega, by omega⟩, hW, hB_G_56, hF, (((((Fr.rf.call hq_7 (by decide) (by decide)).call hq_25 (by decide) (by decide)).call hq_34 (by decide) (by decide)).put eG_51 (Or.inl (by decide))).put eG_56 (Or.inl (by decide))), hS, lv_sub hl [0, 3, 4, 5] rfl⟩
              · have c_53 : y_52.toInt ≠ 0 := xI_ne rfl rfl c_53
                refine lv_iload hx hb dX10_isThereWay_168 (lv_at hl 0 rfl) ?_
                refine lv_if_eq (tgt := 178) hx hb dX10_isThereWay_170 (by decide) (fun c_58 => ?_) (fun c_58 => ?_)
                · have c_58 : (1 : Int) = (0 : Int) := xI_eq rfl rfl c_58
                  exfalso; omega
                · have c_58 : (1 : Int) ≠ (0 : Int) := xI_ne rfl rfl c_58
                  refine lv_iload hx hb dX10_isThereWay_173 (lv_at hl 2 rfl) ?_
                  refine lv_goto (tgt := 184) hx hb dX10_isThereWay_175 (by decide) ?_
                  refine S_iast hx hb hK hW hS kd_42 (vin (by omega) (by omega)) dX10_isThereWay_184 (fun G_59 H locs eG_59 hW hS => ?_)
                  have hB_G_59 : Bd G_59 := hB_G_51.put (lo := (-2147483648)) (hi := 2147483647) eG_59 rfl rfl rfl (tI_rng _).1 (tI_rng _).2 (hB_G_51.2.put eG_59 rfl)
                  have hF := hF.put eG_59 (Or.inl (by decide))
                  obtain ⟨y_60, ey_60⟩ : ∃ q, q = x_10 + (-1) := ⟨_, rfl⟩
                  have ty_60 : y_60.toInt = x_10.toInt + (-1) := xI_add rfl rfl ey_60 (by omega) (by omega)
                  refine lv_iinc (v := y_60) (lv' := [(4, .int y_60), (7, .int 1), (6, .int 1), (3, .ref (a 43)), (2, .ref (a 42)), (1, .ref (a 7))]) hx hb dX10_isThereWay_185 hl (k := 2) rfl (by rw [ey_60]; rfl) (by decide) rfl (fun ls hl => ?_)
                  refine lv_goto (tgt := 40) hx hb dX10_isThereWay_188 (by decide) ?_
                  exact ih_8 (y_60.toInt - (-1) : Int).toNat (by omega) _ _ _ ⟨G_59, y_60, (Int.toNat_of_nonneg (by omega)), ⟨by omega, by omega⟩, hW, hB_G_59, hF, (((((Fr.rf.call hq_7 (by decide) (by decide)).call hq_25 (by decide) (by decide)).call hq_34 (by decide) (by decide)).put eG_51 (Or.inl (by decide))).put eG_59 (Or.inl (by decide))), hS, lv_sub hl [0, 3, 4, 5] rfl⟩
        · have c_35 : (1 : Int) = (0 : Int) := xI_eq rfl rfl c_35
          exfalso; omega
      refine lv_if_ne (tgt := 85) hx hb dX10_isThereWay_63 (by decide) (fun c_61 => ?_) (fun c_61 => ?_)
      · have c_61 : w_22.toInt ≠ 0 := xI_ne rfl rfl c_61
        exact hJ_33 () _ _ _ ⟨G_23, hW, hB_G_23, hF, Fr.rf, hS, lv_sub hl [1, 2, 3, 4] rfl⟩
      · have c_61 : w_22.toInt = 0 := xI_eq rfl rfl c_61
        refine lv_aload_n hx hb dX10_isThereWay_66 rfl (lv_at hl 3 rfl) ?_
        refine lv_iload hx hb dX10_isThereWay_67 (lv_at hl 1 rfl) ?_
        refine lv_aload_n hx hb dX10_isThereWay_69 rfl (lv_at hl 4 rfl) ?_
        have b_62 : 0 ≤ (G.1 7 3).toInt ∧ (G.1 7 3).toInt ≤ 60 := hB_G.i 7 3 rfl rfl
        refine S_getI (v := (G.1 7 3)) (C := RX0) (T := TX0) (N := 8) hx hb hg iX0 hown hK hW kd_7 rfl 3 (by decide) (hg (Cond.fieldLink RX10 61 "SlabWalk$Course" "least" "I") m378) (fun _ h9 => h9) rfl ((hq_25.i 7 3 (by decide) (by decide)).trans ((hq_7.i 7 3 (by decide) (by decide)).trans ((gp_ne eG_5 (fun q => absurd q.1 (by decide))).trans (gp_ne eG_3 (fun q => absurd q.1 (by decide)))))) dX10_isThereWay_70 ?_
        refine lv_iadd hx hb dX10_isThereWay_73 ?_
        refine lv_topi (fun y_63 ey_63 => ?_)
        have ty_63 : y_63.toInt = x_10.toInt + (G.1 7 3).toInt := xI_add rfl rfl ey_63 (by omega) (by omega)
        refine S_iald hx hb hK hW kd_42 (vin (by omega) (by omega)) dX10_isThereWay_74 (fun y_64 ey_64 => ?_)
        refine lv_iload hx hb dX10_isThereWay_75 (lv_at hl 1 rfl) ?_
        refine lv_aload_n hx hb dX10_isThereWay_77 rfl (lv_at hl 4 rfl) ?_
        have b_65 : 0 ≤ (G.1 7 4).toInt ∧ (G.1 7 4).toInt ≤ 60 := hB_G.i 7 4 rfl rfl
        refine S_getI (v := (G.1 7 4)) (C := RX0) (T := TX0) (N := 8) hx hb hg iX0 hown hK hW kd_7 rfl 4 (by decide) (hg (Cond.fieldLink RX10 64 "SlabWalk$Course" "most" "I") m383) (fun _ h9 => h9) rfl ((hq_25.i 7 4 (by decide) (by decide)).trans ((hq_7.i 7 4 (by decide) (by decide)).trans ((gp_ne eG_5 (fun q => absurd q.1 (by decide))).trans (gp_ne eG_3 (fun q => absurd q.1 (by decide)))))) dX10_isThereWay_78 ?_
        refine lv_iadd hx hb dX10_isThereWay_81 ?_
        refine lv_topi (fun y_66 ey_66 => ?_)
        have ty_66 : y_66.toInt = x_10.toInt + (G.1 7 4).toInt := xI_add rfl rfl ey_66 (by omega) (by omega)
        refine lv_icmp_gt (tgt := 89) hx hb dX10_isThereWay_82 (by decide) (fun c_67 => ?_) (fun c_67 => ?_)
        · have c_67 : y_66.toInt < y_64.toInt := xI_lt rfl rfl c_67
          refine lv_iconst (v := 0) hx hb dX10_isThereWay_89 (by decide) ?_
          refine lv_istore (lv' := [(6, .int 0), (5, .int w_22), (4, .int x_10), (3, .ref (a 43)), (2, .ref (a 42)), (1, .ref (a 7))]) hx hb dX10_isThereWay_90 hl (by decide) rfl (fun ls hl => ?_)
          refine lv_iload hx hb dX10_isThereWay_92 (lv_at hl 0 rfl) ?_
          refine lv_if_ne (tgt := 118) hx hb dX10_isThereWay_94 (by decide) (fun c_68 => ?_) (fun c_68 => ?_)
          · have c_68 : (0 : Int) ≠ (0 : Int) := xI_ne rfl rfl c_68
            exfalso; omega
          · have c_68 : (0 : Int) = (0 : Int) := xI_eq rfl rfl c_68
            refine lv_aload_n hx hb dX10_isThereWay_97 rfl (lv_at hl 3 rfl) ?_
            refine lv_iload hx hb dX10_isThereWay_98 (lv_at hl 2 rfl) ?_
            refine lv_aload_n hx hb dX10_isThereWay_100 rfl (lv_at hl 5 rfl) ?_
            refine S_getI (v := (G.1 7 4)) (C := RX0) (T := TX0) (N := 8) hx hb hg iX0 hown hK hW kd_7 rfl 4 (by decide) (hg (Cond.fieldLink RX10 64 "SlabWalk$Course" "most" "I") m383) (fun _ h9 => h9) rfl ((hq_25.i 7 4 (by decide) (by decide)).trans ((hq_7.i 7 4 (by decide) (by decide)).trans ((gp_ne eG_5 (fun q => absurd q.1 (by decide))).trans ((gp_ne eG_3 (fun q => absurd q.1 (by decide))).trans (rfl))))) dX10_isThereWay_101 ?_
            refine lv_iadd hx hb dX10_isThereWay_104 ?_
            refine lv_topi (fun y_69 ey_69 => ?_)
            have ty_69 : y_69.toInt = x_10.toInt + (G.1 7 4).toInt := xI_add rfl rfl ey_69 (by omega) (by omega)
            refine lv_iconst (v := 1) hx hb dX10_isThereWay_105 (by decide) ?_
            refine lv_iadd hx hb dX10_isThereWay_106 ?_
            refine lv_topi (fun y_70 ey_70 => ?_)
            have ty_70 : y_70.toInt = y_69.toInt + 1 := xI_add rfl rfl ey_70 (by omega) (by omega)
            refine S_iald hx hb hK hW kd_43 (vin (by omega) (by omega)) dX10_isThereWay_107 (fun y_71 ey_71 => ?_)
            refine lv_iload hx hb dX10_isThereWay_108 (lv_at hl 2 rfl) ?_
            refine lv_aload_n hx hb dX10_isThereWay_110 rfl (lv_at hl 5 rfl) ?_
            have b_72 : 0 ≤ (G.1 7 5).toInt ∧ (G.1 7 5).toInt ≤ 99 := hB_G.i 7 5 rfl rfl
            refine S_getI (v := (G.1 7 5)) (C := RX0) (T := TX0) (N := 8) hx hb hg iX0 hown hK hW kd_7 rfl 5 (by decide) (hg (Cond.fieldLink RX10 71 "SlabWalk$Course" "leap" "I") m386) (fun _ h9 => h9) rfl ((hq_25.i 7 5 (by decide) (by decide)).trans ((hq_7.i 7 5 (by decide) (by decide)).trans ((gp_ne eG_5 (fun q => absurd q.1 (by decide))).trans (gp_ne eG_3 (fun q => absurd q.1 (by decide)))))) dX10_isThereWay_111 ?_
            refine lv_iadd hx hb dX10_isThereWay_114 ?_
            refine lv_topi (fun y_73 ey_73 => ?_)
            have ty_73 : y_73.toInt = x_10.toInt + (G.1 7 5).toInt := xI_add rfl rfl ey_73 (by omega) (by omega)
            refine W.cut (σ := Int32) (pcJ := 123) (J := fun y H locs ls => ∃ (G_80 : GS), (0 ≤ y.toInt ∧ y.toInt ≤ 1) ∧ Wd D k A a G_80 H ∧ Bd G_80 ∧ Fr [42, 43] [] G G_80 ∧ Fr [] [] G_23 G_80 ∧ va_S A s.heap H locs ∧ lv_has ls 8 [(6, .int 0), (4, .int x_10), (3, .ref (a 43)), (2, .ref (a 42)), (1, .ref (a 7))]) (stJ := fun y => [.int y]) ?_ (fun hJ_81 => ?_)
            · intro y H locs ls hI
              obtain ⟨w_79, hy⟩ : ∃ q, q = y := ⟨_, rfl⟩
              subst hy
              obtain ⟨G_80, f_83, hW, hB_G_80, hF, hq_82, hS, hl⟩ := hI
              refine lv_istore (lv' := [(7, .int w_79), (6, .int 0), (4, .int x_10), (3, .ref (a 43)), (2, .ref (a 42)), (1, .ref (a 7))]) hx hb dX10_isThereWay_123 hl (by decide) rfl (fun ls hl => ?_)
              refine lv_aload_n hx hb dX10_isThereWay_125 rfl (lv_at hl 3 rfl) ?_
              refine lv_iload hx hb dX10_isThereWay_126 (lv_at hl 2 rfl) ?_
              refine lv_aload_n hx hb dX10_isThereWay_128 rfl (lv_at hl 5 rfl) ?_
              refine S_getR (n := 40) (C := RX0) (T := TX0) (N := 8) hx hb hg iX0 hown hK hW kd_7 rfl 0 (by decide) (hg (Cond.fieldLink RX10 55 "SlabWalk$Course" "lawful" "[Z") m373) (fun _ h9 => h9) rfl dX10_isThereWay_129 ?_
              refine lv_iload hx hb dX10_isThereWay_132 (lv_at hl 2 rfl) ?_
              refine S_zald hx hb hK hW kd_40 (vin (by omega) (by omega)) dX10_isThereWay_134 (fun y_84 ey_84 => ?_)
              have ty_84 : 0 ≤ y_84.toInt ∧ y_84.toInt ≤ 1 := hB_G_80.v ey_84 rfl rfl
              refine W.cut (σ := Unit) (pcJ := 148) (J := fun y H locs ls => ∃ (G_92 : GS), Wd D k A a G_92 H ∧ Bd G_92 ∧ Fr [42, 43] [] G G_92 ∧ Fr [] [] G_80 G_92 ∧ va_S A s.heap H locs ∧ lv_has ls 8 [(7, .int w_79), (4, .int x_10), (3, .ref (a 43)), (2, .ref (a 42)), (1, .ref (a 7))]) (stJ := fun _ => [.int x_10, .ref (a 43)]) ?_ (fun hJ_93 => ?_)
              · intro y H locs ls hI
                obtain ⟨G_92, hW, hB_G_92, hF, hq_94, hS, hl⟩ := hI
                refine lv_aload_n hx hb dX10_isThereWay_148 rfl (lv_at hl 2 rfl) ?_
                refine lv_iload hx hb dX10_isThereWay_149 (lv_at hl 1 rfl) ?_
                refine lv_iconst (v := 1) hx hb dX10_isThereWay_151 (by decide) ?_
                refine lv_iadd hx hb dX10_isThereWay_152 ?_
                refine lv_topi (fun y_95 ey_95 => ?_)
                have ty_95 : y_95.toInt = x_10.toInt + 1 := xI_add rfl rfl ey_95 (by omega) (by omega)
                refine S_iald hx hb hK hW kd_43 (vin (by omega) (by omega)) dX10_isThereWay_153 (fun y_96 ey_96 => ?_)
                refine S_iast hx hb hK hW hS kd_43 (vin (by omega) (by omega)) dX10_isThereWay_154 (fun G_97 H locs eG_97 hW hS => ?_)
                have hB_G_97 : Bd G_97 := hB_G_92.put (lo := (-2147483648)) (hi := 2147483647) eG_97 rfl rfl rfl (tI_rng _).1 (tI_rng _).2 (hB_G_92.2.put eG_97 rfl)
                have hF := hF.put eG_97 (Or.inl (by decide))
                refine lv_aload_n hx hb dX10_isThereWay_155 rfl (lv_at hl 3 rfl) ?_
                refine lv_iload hx hb dX10_isThereWay_156 (lv_at hl 1 rfl) ?_
                refine lv_aload_n hx hb dX10_isThereWay_158 rfl (lv_at hl 4 rfl) ?_
                refine S_getR (n := 40) (C := RX0) (T := TX0) (N := 8) hx hb hg iX0 hown hK hW kd_7 rfl 0 (by decide) (hg (Cond.fieldLink RX10 55 "SlabWalk$Course" "lawful" "[Z") m373) (fun _ h9 => h9) rfl dX10_isThereWay_159 ?_
                refine lv_iload hx hb dX10_isThereWay_162 (lv_at hl 1 rfl) ?_
                refine S_zald hx hb hK hW kd_40 (vin (by omega) (by omega)) dX10_isThereWay_164 (fun y_98 ey_98 => ?_)
                have ty_98 : 0 ≤ y_98.toInt ∧ y_98.toInt ≤ 1 := hB_G_97.v ey_98 rfl rfl
                refine lv_if_eq (tgt := 178) hx hb dX10_isThereWay_165 (by decide) (fun c_99 => ?_) (fun c_99 => ?_)
                · have c_99 : y_98.toInt = 0 := xI_eq rfl rfl c_99
                  refine lv_aload_n hx hb dX10_isThereWay_178 rfl (lv_at hl 3 rfl) ?_
                  refine lv_iload hx hb dX10_isThereWay_179 (lv_at hl 1 rfl) ?_
                  refine lv_iconst (v := 1) hx hb dX10_isThereWay_181 (by decide) ?_
                  refine lv_iadd hx hb dX10_isThereWay_182 ?_
                  refine lv_topi (fun y_100 ey_100 => ?_)
                  have ty_100 : y_100.toInt = x_10.toInt + 1 := xI_add rfl rfl ey_100 (by omega) (by omega)
                  refine S_iald hx hb hK hW kd_42 (vin (by omega) (by omega)) dX10_isThereWay_183 (fun y_101 ey_101 => ?_)
                  refine S_iast hx hb hK hW hS kd_42 (vin (by omega) (by omega)) dX10_isThereWay_184 (fun G_102 H locs eG_102 hW hS => ?_)
                  have hB_G_102 : Bd G_102 := hB_G_97.put (lo := (-2147483648)) (hi := 2147483647) eG_102 rfl rfl rfl (tI_rng _).1 (tI_rng _).2 (hB_G_97.2.put eG_102 rfl)
                  have hF := hF.put eG_102 (Or.inl (by decide))
                  obtain ⟨y_103, ey_103⟩ : ∃ q, q = x_10 + (-1) := ⟨_, rfl⟩
                  have ty_103 : y_103.toInt = x_10.toInt + (-1) := xI_add rfl rfl ey_103 (by omega) (by omega)
                  refine lv_iinc (v := y_103) (lv' := [(4, .int y_103), (7, .int w_79), (3, .ref (a 43)), (2, .ref (a 42)), (1, .ref (a 7))]) hx hb dX10_isThereWay_185 hl (k := 1) rfl (by rw [ey_103]; rfl) (by decide) rfl (fun ls hl => ?_)
                  refine lv_goto (tgt := 40) hx hb dX10_isThereWay_188 (by decide) ?_
                  exact ih_8 (y_103.toInt - (-1) : Int).toNat (by omega) _ _ _ ⟨G_102, y_103, (Int.toNat_of_nonneg (by omega)), ⟨by omega, by omega⟩, hW, hB_G_102, hF, ((((((Fr.rf.call hq_7 (by decide) (by decide)).call hq_25 (by decide) (by decide)).call hq_82 (by decide) (by decide)).call hq_94 (by decide) (by decide)).put eG_97 (Or.inl (by decide))).put eG_102 (Or.inl (by decide))), hS, lv_sub hl [0, 2, 3, 4] rfl⟩
                · have c_99 : y_98.toInt ≠ 0 := xI_ne rfl rfl c_99
                  refine lv_iload hx hb dX10_isThereWay_168 (lv_at hl 0 rfl) ?_
                  refine lv_if_eq (tgt := 178) hx hb dX10_isThereWay_170 (by decide) (fun c_104 => ?_) (fun c_104 => ?_)
                  · have c_104 : w_79.toInt = 0 := xI_eq rfl rfl c_104
                    refine lv_aload_n hx hb dX10_isThereWay_178 rfl (lv_at hl 3 rfl) ?_
                    refine lv_iload hx hb dX10_isThereWay_179 (lv_at hl 1 rfl) ?_
                    refine lv_iconst (v := 1) hx hb dX10_isThereWay_181 (by decide) ?_
                    refine lv_iadd hx hb dX10_isThereWay_182 ?_
                    refine lv_topi (fun y_105 ey_105 => ?_)
                    have ty_105 : y_105.toInt = x_10.toInt + 1 := xI_add rfl rfl ey_105 (by omega) (by omega)
                    refine S_iald hx hb hK hW kd_42 (vin (by omega) (by omega)) dX10_isThereWay_183 (fun y_106 ey_106 => ?_)
                    refine S_iast hx hb hK hW hS kd_42 (vin (by omega) (by omega)) dX10_isThereWay_184 (fun G_107 H locs eG_107 hW hS => ?_)
                    have hB_G_107 : Bd G_107 := hB_G_97.put (lo := (-2147483648)) (hi := 2147483647) eG_107 rfl rfl rfl (tI_rng _).1 (tI_rng _).2 (hB_G_97.2.put eG_107 rfl)
                    have hF := hF.put eG_107 (Or.inl (by decide))
                    obtain ⟨y_108, ey_108⟩ : ∃ q, q = x_10 + (-1) := ⟨_, rfl⟩
                    have ty_108 : y_108.toInt = x_10.toInt + (-1) := xI_add rfl rfl ey_108 (by omega) (by omega)
                    refine lv_iinc (v := y_108) (lv' := [(4, .int y_108), (7, .int w_79), (3, .ref (a 43)), (2, .ref (a 42)), (1, .ref (a 7))]) hx hb dX10_isThereWay_185 hl (k := 1) rfl (by rw [ey_108]; rfl) (by decide) rfl (fun ls hl => ?_)
                    refine lv_goto (tgt := 40) hx hb dX10_isThereWay_188 (by decide) ?_
                    exact ih_8 (y_108.toInt - (-1) : Int).toNat (by omega) _ _ _ ⟨G_107, y_108, (Int.toNat_of_nonneg (by omega)), ⟨by omega, by omega⟩, hW, hB_G_107, hF, ((((((Fr.rf.call hq_7 (by decide) (by decide)).call hq_25 (by decide) (by decide)).call hq_82 (by decide) (by decide)).call hq_94 (by decide) (by decide)).put eG_97 (Or.inl (by decide))).put eG_107 (Or.inl (by decide))), hS, lv_sub hl [0, 2, 3, 4] rfl⟩
                  · have c_104 : w_79.toInt ≠ 0 := xI_ne rfl rfl c_104
                    refine lv_iload hx hb dX10_isThereWay_173 (lv_at hl 1 rfl) ?_
                    refine lv_goto (tgt := 184) hx hb dX10_isThereWay_175 (by decide) ?_
                    refine S_iast hx hb hK hW hS kd_42 (vin (by omega) (by omega)) dX10_isThereWay_184 (fun G_109 H locs eG_109 hW hS => ?_)
                    have hB_G_109 : Bd G_109 := hB_G_97.put (lo := (-2147483648)) (hi := 2147483647) eG_109 rfl rfl rfl (tI_rng _).1 (tI_rng _).2 (hB_G_97.2.put eG_109 rfl)
                    have hF := hF.put eG_109 (Or.inl (by decide))
                    obtain ⟨y_110, ey_110⟩ : ∃ q, q = x_10 + (-1) := ⟨_, rfl⟩
                    have ty_110 : y_110.toInt = x_10.toInt + (-1) := xI_add rfl rfl ey_110 (by omega) (by omega)
                    refine lv_iinc (v := y_110) (lv' := [(4, .int y_110), (7, .int w_79), (3, .ref (a 43)), (2, .ref (a 42)), (1, .ref (a 7))]) hx hb dX10_isThereWay_185 hl (k := 1) rfl (by rw [ey_110]; rfl) (by decide) rfl (fun ls hl => ?_)
                    refine lv_goto (tgt := 40) hx hb dX10_isThereWay_188 (by decide) ?_
                    exact ih_8 (y_110.toInt - (-1) : Int).toNat (by omega) _ _ _ ⟨G_109, y_110, (Int.toNat_of_nonneg (by omega)), ⟨by omega, by omega⟩, hW, hB_G_109, hF, ((((((Fr.rf.call hq_7 (by decide) (by decide)).call hq_25 (by decide) (by decide)).call hq_82 (by decide) (by decide)).call hq_94 (by decide) (by decide)).put eG_97 (Or.inl (by decide))).put eG_109 (Or.inl (by decide))), hS, lv_sub hl [0, 2, 3, 4] rfl⟩
              refine lv_if_eq (tgt := 148) hx hb dX10_isThereWay_135 (by decide) (fun c_111 => ?_) (fun c_111 => ?_)
              · have c_111 : y_84.toInt = 0 := xI_eq rfl rfl c_111
                exact hJ_93 () _ _ _ ⟨G_80, hW, hB_G_80, hF, Fr.rf, hS, lv_sub hl [0, 2, 3, 4, 5] rfl⟩
              · have c_111 : y_84.toInt ≠ 0 := xI_ne rfl rfl c_111
                refine lv_iload hx hb dX10_isThereWay_138 (lv_at hl 1 rfl) ?_
                refine lv_if_eq (tgt := 148) hx hb dX10_isThereWay_140 (by decide) (fun c_112 => ?_) (fun c_112 => ?_)
                · have c_112 : (0 : Int) = (0 : Int) := xI_eq rfl rfl c_112
                  exact hJ_93 () _ _ _ ⟨G_80, hW, hB_G_80, hF, Fr.rf, hS, lv_sub hl [0, 2, 3, 4, 5] rfl⟩
                · have c_112 : (0 : Int) ≠ (0 : Int) := xI_ne rfl rfl c_112
                  exfalso; omega
            refine lv_icmp_gt (tgt := 122) hx hb dX10_isThereWay_115 (by decide) (fun c_113 => ?_) (fun c_113 => ?_)
            · have c_113 : y_73.toInt < y_71.toInt := xI_lt rfl rfl c_113
              refine lv_iconst (v := 0) hx hb dX10_isThereWay_122 (by decide) ?_
              have qc_114 : (0 : Int32).toInt = 0 := rfl
              exact hJ_81 0 _ _ _ ⟨G_23, ⟨by omega, by omega⟩, hW, hB_G_23, hF, Fr.rf, hS, lv_sub hl [0, 2, 3, 4, 5] rfl⟩
            · have c_113 : y_71.toInt ≤ y_73.toInt := xI_nlt rfl rfl c_113
              refine lv_iconst (v := 1) hx hb dX10_isThereWay_118 (by decide) ?_
              refine lv_goto (tgt := 123) hx hb dX10_isThereWay_119 (by decide) ?_
              have qc_115 : (1 : Int32).toInt = 1 := rfl
              exact hJ_81 1 _ _ _ ⟨G_23, ⟨by omega, by omega⟩, hW, hB_G_23, hF, Fr.rf, hS, lv_sub hl [0, 2, 3, 4, 5] rfl⟩
        · have c_67 : y_64.toInt ≤ y_66.toInt := xI_nlt rfl rfl c_67
          exact hJ_33 () _ _ _ ⟨G_23, hW, hB_G_23, hF, Fr.rf, hS, lv_sub hl [1, 2, 3, 4] rfl⟩
    refine lv_icmp_lt (tgt := 58) hx hb dX10_isThereWay_51 (by decide) (fun c_116 => ?_) (fun c_116 => ?_)
    · have c_116 : x_10.toInt < (G.1 7 7).toInt := xI_lt rfl rfl c_116
      refine lv_iconst (v := 0) hx hb dX10_isThereWay_58 (by decide) ?_
      have qc_117 : (0 : Int32).toInt = 0 := rfl
      exact hJ_24 0 _ _ _ ⟨G_6, ⟨by omega, by omega⟩, (by omega), hW, hB_G_6, hF, Fr.rf, hS, lv_sub hl [0, 1, 2, 3] rfl⟩
    · have c_116 : (G.1 7 7).toInt ≤ x_10.toInt := xI_nlt rfl rfl c_116
      refine lv_iconst (v := 1) hx hb dX10_isThereWay_54 (by decide) ?_
      refine lv_goto (tgt := 59) hx hb dX10_isThereWay_55 (by decide) ?_
      have qc_118 : (1 : Int32).toInt = 1 := rfl
      exact hJ_24 1 _ _ _ ⟨G_6, ⟨by omega, by omega⟩, (by omega), hW, hB_G_6, hF, Fr.rf, hS, lv_sub hl [0, 1, 2, 3] rfl⟩

set_option maxHeartbeats 4000000 in
set_option maxRecDepth 100000 in
theorem k_tFirst (l : Launch) (D : va_G) (k : KT) (A : Nat → Prop) (a : Nat → Nat) (z : SK) (G : GS) (p0 : Int32) (p1 : Int32) (ha_p0 : 0 ≤ p0.toInt ∧ p0.toInt ≤ 60) (ha_p1 : 0 ≤ p1.toInt ∧ p1.toInt ≤ 60) (hci : (G.1 7 6).toInt ≤ 399 ∧ (G.1 7 3).toInt ≤ (G.1 7 4).toInt ∧ ((G.1 7 7).toInt ≤ 0 ∨ (G.1 7 7).toInt + (G.1 7 4).toInt ≤ (G.1 7 6).toInt + 1)) (hs : p0.toInt ≤ (G.1 7 4).toInt) : Met l yX10_firstHeel (WS yX10_firstHeel cX10_firstHeel 7 (some .int)) ({ frames := 0, cells := 0, slots := 0, locals := 0 }) (va_Pc [.ref (a 8), .ref (a 7), .int p0, .int p1] (cW D k A a z G)) (va_Qi (fun (r : Int32) (G1 : GS) => Bd G1 ∧ Fr [42] [] G G1) (fun (G1 : GS) t => Wd D k A a G1 t.heap) A) 0 0 A := by
  refine Met.ofW (cc := cX10_firstHeel) (maxL := 7) (ret := (some .int)) (by decide) rfl ?_
  intro p e s m args below meth c s₁ B hml hv
  obtain ⟨rfl, hW, hB_G, hK, hZ⟩ := hv
  have hx := B.exec
  have hb := B.bytes
  have hr := B.returns
  have hts := atoms_spec (ws := WS yX10_firstHeel cX10_firstHeel 7 (some .int)) B.pre
  have hgd : ∀ w ∈ gd, w ∈ WS yX10_firstHeel cX10_firstHeel 7 (some .int) := fun w h => List.mem_cons_of_mem _ h
  have hg : ∀ w ∈ gd, w.before _ s = true := fun w h => hts w (hgd w h)
  have hown : s.vm.findClass RX10 = some m.cls := findClass_of_methodNamed B.named
  have hS : va_S A s.heap s.heap [] := va_S.rf
  have hF : Fr [42] [] G G := Fr.rf
  have hl := lv_entry ([.ref (a 8), .ref (a 7), .int p0, .int p1]) (n := 7) (Nat.le_of_ble_eq_true rfl)
  rw [lg_entry_eq]
  generalize (lg_sl ([.ref (a 8), .ref (a 7), .int p0, .int p1]) ++ List.replicate (7 - (lg_sl ([.ref (a 8), .ref (a 7), .int p0, .int p1])).length) Slot.unset).toArray = ls at hl ⊢
  have hl : lv_has ls 7 [(0, .ref (a 8)), (1, .ref (a 7)), (2, .int p0), (3, .int p1)] := hl
  have b_1 : (-1) ≤ (G.1 7 6).toInt ∧ (G.1 7 6).toInt ≤ 400 := hB_G.i 7 6 rfl rfl
  refine lv_aload_n hx hb dX10_firstHeel_0 rfl (lv_at hl 0 rfl) ?_
  refine S_getR (n := 41) (C := RX10) (T := TX10) (N := 5) hx hb hg iX10 hown hK hW kd_8 rfl 0 (by decide) (hg (Cond.fieldLink RX10 13 "SlabWalk$Trails" "rows" "[[I") m440) (fun _ h9 => h9) rfl dX10_firstHeel_1 ?_
  refine lv_iconst (v := 0) hx hb dX10_firstHeel_4 (by decide) ?_
  refine S_aald hx hb hK hW kd_41 (vin (by decide) (by decide)) dX10_firstHeel_5 ?_
  refine rows_at (n := 42) (rows_c hB_G 0 (by decide)) ?_
  refine lv_astore (lv' := [(4, .ref (a 42)), (0, .ref (a 8)), (1, .ref (a 7)), (2, .int p0), (3, .int p1)]) hx hb dX10_firstHeel_6 hl (by decide) rfl (fun ls hl => ?_)
  refine lv_aload hx hb dX10_firstHeel_8 (lv_at hl 0 rfl) ?_
  refine lv_aload_n hx hb dX10_firstHeel_10 rfl (lv_at hl 2 rfl) ?_
  refine S_getI (v := (G.1 7 6)) (C := RX0) (T := TX0) (N := 8) hx hb hg iX0 hown hK hW kd_7 rfl 6 (by decide) (hg (Cond.fieldLink RX10 34 "SlabWalk$Course" "last" "I") m388) (fun _ h9 => h9) rfl rfl dX10_firstHeel_11 ?_
  refine lv_iconst (v := 1) hx hb dX10_firstHeel_14 (by decide) ?_
  refine lv_iadd hx hb dX10_firstHeel_15 ?_
  refine lv_topi (fun y_2 ey_2 => ?_)
  have ty_2 : y_2.toInt = (G.1 7 6).toInt + 1 := xI_add rfl rfl ey_2 (by omega) (by omega)
  refine lv_ldc (v := 1000000) hx hb hown (hg (Cond.constant RX10 44 1000000) m997) dX10_firstHeel_16 ?_
  refine S_iast hx hb hK hW hS kd_42 (vin (by omega) (by omega)) dX10_firstHeel_18 (fun G_3 H locs eG_3 hW hS => ?_)
  have hB_G_3 : Bd G_3 := hB_G.put (lo := (-2147483648)) (hi := 2147483647) eG_3 rfl rfl rfl (tI_rng _).1 (tI_rng _).2 (hB_G.2.put eG_3 rfl)
  have hF := hF.put eG_3 (Or.inl (by decide))
  refine lv_aload_n hx hb dX10_firstHeel_19 rfl (lv_at hl 2 rfl) ?_
  refine S_getI (v := (G.1 7 6)) (C := RX0) (T := TX0) (N := 8) hx hb hg iX0 hown hK hW kd_7 rfl 6 (by decide) (hg (Cond.fieldLink RX10 34 "SlabWalk$Course" "last" "I") m388) (fun _ h9 => h9) rfl ((gp_ne eG_3 (fun q => absurd q.1 (by decide))).trans (rfl)) dX10_firstHeel_20 ?_
  refine lv_istore (lv' := [(5, .int (G.1 7 6)), (4, .ref (a 42)), (0, .ref (a 8)), (1, .ref (a 7)), (2, .int p0), (3, .int p1)]) hx hb dX10_firstHeel_23 hl (by decide) rfl (fun ls hl => ?_)
  refine loop_N (Inv := fun n H locs ls => ∃ (G_4 : GS) (x_8 : Int32), (n : Int) = x_8.toInt - (-1) ∧ ((-1) ≤ x_8.toInt ∧ x_8.toInt ≤ 399) ∧ Wd D k A a G_4 H ∧ Bd G_4 ∧ Fr [42] [] G G_4 ∧ Fr [42] [] G_3 G_4 ∧ va_S A s.heap H locs ∧ lv_has ls 7 [(5, .int x_8), (4, .ref (a 42)), (1, .ref (a 7)), (2, .int p0), (3, .int p1)]) (fun n_7 H locs ls ih_6 hI => ?_) ((G.1 7 6).toInt - (-1) : Int).toNat ⟨G_3, (G.1 7 6), (Int.toNat_of_nonneg (by omega)), ⟨by omega, by omega⟩, hW, hB_G_3, hF, Fr.rf, hS, lv_sub hl [0, 1, 3, 4, 5] rfl⟩
  obtain ⟨G_4, x_8, hn_10, f_9, hW, hB_G_4, hF, hq_5, hS, hl⟩ := hI
  refine lv_iload hx hb dX10_firstHeel_25 (lv_at hl 0 rfl) ?_
  refine lv_if_lt (tgt := 98) hx hb dX10_firstHeel_27 (by decide) (fun c_11 => ?_) (fun c_11 => ?_)
  · have c_11 : x_8.toInt < 0 := xI_lt rfl rfl c_11
    refine lv_aload hx hb dX10_firstHeel_98 (lv_at hl 1 rfl) ?_
    refine lv_iconst (v := 0) hx hb dX10_firstHeel_100 (by decide) ?_
    refine S_iald hx hb hK hW kd_42 (vin (by decide) (by decide)) dX10_firstHeel_101 (fun y_12 ey_12 => ?_)
    exact W.iret (v := y_12) hx hb hr (fun t ht _ => ⟨⟨y_12, G_4, rfl, ⟨hB_G_4, hF⟩, wd_t ht hW⟩, hS.F ht⟩) hS.2.2 dX10_firstHeel_102
  · have c_11 : 0 ≤ x_8.toInt := xI_nlt rfl rfl c_11
    refine lv_iload hx hb dX10_firstHeel_30 (lv_at hl 0 rfl) ?_
    refine lv_aload_n hx hb dX10_firstHeel_32 rfl (lv_at hl 2 rfl) ?_
    have b_13 : 0 ≤ (G.1 7 7).toInt ∧ (G.1 7 7).toInt ≤ 400 := hB_G.i 7 7 rfl rfl
    refine S_getI (v := (G.1 7 7)) (C := RX0) (T := TX0) (N := 8) hx hb hg iX0 hown hK hW kd_7 rfl 7 (by decide) (hg (Cond.fieldLink RX10 58 "SlabWalk$Course" "end" "I") m394) (fun _ h9 => h9) rfl ((hq_5.i 7 7 (by decide) (by decide)).trans (gp_ne eG_3 (fun q => absurd q.1 (by decide)))) dX10_firstHeel_33 ?_
    refine W.cut (σ := Unit) (pcJ := 53) (J := fun y H locs ls => ∃ (G_19 : GS), Wd D k A a G_19 H ∧ Bd G_19 ∧ Fr [42] [] G G_19 ∧ Fr [42] [] G_4 G_19 ∧ va_S A s.heap H locs ∧ lv_has ls 7 [(5, .int x_8), (4, .ref (a 42)), (1, .ref (a 7)), (2, .int p0), (3, .int p1)]) (stJ := fun _ => []) ?_ (fun hJ_20 => ?_)
    · intro y H locs ls hI
      obtain ⟨G_19, hW, hB_G_19, hF, hq_21, hS, hl⟩ := hI
      refine lv_iconst (v := 1) hx hb dX10_firstHeel_53 (by decide) ?_
      refine lv_goto (tgt := 58) hx hb dX10_firstHeel_54 (by decide) ?_
      refine lv_istore (lv' := [(6, .int 1), (5, .int x_8), (4, .ref (a 42)), (1, .ref (a 7)), (2, .int p0), (3, .int p1)]) hx hb dX10_firstHeel_58 hl (by decide) rfl (fun ls hl => ?_)
      refine lv_aload hx hb dX10_firstHeel_60 (lv_at hl 2 rfl) ?_
      refine lv_iload hx hb dX10_firstHeel_62 (lv_at hl 1 rfl) ?_
      refine lv_aload_n hx hb dX10_firstHeel_64 rfl (lv_at hl 3 rfl) ?_
      refine S_getR (n := 40) (C := RX0) (T := TX0) (N := 8) hx hb hg iX0 hown hK hW kd_7 rfl 0 (by decide) (hg (Cond.fieldLink RX10 55 "SlabWalk$Course" "lawful" "[Z") m373) (fun _ h9 => h9) rfl dX10_firstHeel_65 ?_
      refine lv_iload hx hb dX10_firstHeel_68 (lv_at hl 1 rfl) ?_
      refine S_zald hx hb hK hW kd_40 (vin (by omega) (by omega)) dX10_firstHeel_70 (fun y_22 ey_22 => ?_)
      have ty_22 : 0 ≤ y_22.toInt ∧ y_22.toInt ≤ 1 := hB_G_19.v ey_22 rfl rfl
      refine lv_if_eq (tgt := 84) hx hb dX10_firstHeel_71 (by decide) (fun c_23 => ?_) (fun c_23 => ?_)
      · have c_23 : y_22.toInt = 0 := xI_eq rfl rfl c_23
        refine lv_aload hx hb dX10_firstHeel_84 (lv_at hl 2 rfl) ?_
        refine lv_iload hx hb dX10_firstHeel_86 (lv_at hl 1 rfl) ?_
        refine lv_iconst (v := 1) hx hb dX10_firstHeel_88 (by decide) ?_
        refine lv_iadd hx hb dX10_firstHeel_89 ?_
        refine lv_topi (fun y_24 ey_24 => ?_)
        have ty_24 : y_24.toInt = x_8.toInt + 1 := xI_add rfl rfl ey_24 (by omega) (by omega)
        refine S_iald hx hb hK hW kd_42 (vin (by omega) (by omega)) dX10_firstHeel_90 (fun y_25 ey_25 => ?_)
        refine S_iast hx hb hK hW hS kd_42 (vin (by omega) (by omega)) dX10_firstHeel_91 (fun G_26 H locs eG_26 hW hS => ?_)
        have hB_G_26 : Bd G_26 := hB_G_19.put (lo := (-2147483648)) (hi := 2147483647) eG_26 rfl rfl rfl (tI_rng _).1 (tI_rng _).2 (hB_G_19.2.put eG_26 rfl)
        have hF := hF.put eG_26 (Or.inl (by decide))
        obtain ⟨y_27, ey_27⟩ : ∃ q, q = x_8 + (-1) := ⟨_, rfl⟩
        have ty_27 : y_27.toInt = x_8.toInt + (-1) := xI_add rfl rfl ey_27 (by omega) (by omega)
        refine lv_iinc (v := y_27) (lv' := [(5, .int y_27), (6, .int 1), (4, .ref (a 42)), (1, .ref (a 7)), (2, .int p0), (3, .int p1)]) hx hb dX10_firstHeel_92 hl (k := 1) rfl (by rw [ey_27]; rfl) (by decide) rfl (fun ls hl => ?_)
        refine lv_goto (tgt := 25) hx hb dX10_firstHeel_95 (by decide) ?_
        exact ih_6 (y_27.toInt - (-1) : Int).toNat (by omega) _ _ _ ⟨G_26, y_27, (Int.toNat_of_nonneg (by omega)), ⟨by omega, by omega⟩, hW, hB_G_26, hF, (((Fr.rf.call hq_5 (by decide) (by decide)).call hq_21 (by decide) (by decide)).put eG_26 (Or.inl (by decide))), hS, lv_sub hl [0, 2, 3, 4, 5] rfl⟩
      · have c_23 : y_22.toInt ≠ 0 := xI_ne rfl rfl c_23
        refine lv_iload hx hb dX10_firstHeel_74 (lv_at hl 0 rfl) ?_
        refine lv_if_eq (tgt := 84) hx hb dX10_firstHeel_76 (by decide) (fun c_28 => ?_) (fun c_28 => ?_)
        · have c_28 : (1 : Int) = (0 : Int) := xI_eq rfl rfl c_28
          exfalso; omega
        · have c_28 : (1 : Int) ≠ (0 : Int) := xI_ne rfl rfl c_28
          refine lv_iload hx hb dX10_firstHeel_79 (lv_at hl 1 rfl) ?_
          refine lv_goto (tgt := 91) hx hb dX10_firstHeel_81 (by decide) ?_
          refine S_iast hx hb hK hW hS kd_42 (vin (by omega) (by omega)) dX10_firstHeel_91 (fun G_29 H locs eG_29 hW hS => ?_)
          have hB_G_29 : Bd G_29 := hB_G_19.put (lo := (-2147483648)) (hi := 2147483647) eG_29 rfl rfl rfl (tI_rng _).1 (tI_rng _).2 (hB_G_19.2.put eG_29 rfl)
          have hF := hF.put eG_29 (Or.inl (by decide))
          obtain ⟨y_30, ey_30⟩ : ∃ q, q = x_8 + (-1) := ⟨_, rfl⟩
          have ty_30 : y_30.toInt = x_8.toInt + (-1) := xI_add rfl rfl ey_30 (by omega) (by omega)
          refine lv_iinc (v := y_30) (lv' := [(5, .int y_30), (6, .int 1), (4, .ref (a 42)), (1, .ref (a 7)), (2, .int p0), (3, .int p1)]) hx hb dX10_firstHeel_92 hl (k := 1) rfl (by rw [ey_30]; rfl) (by decide) rfl (fun ls hl => ?_)
          refine lv_goto (tgt := 25) hx hb dX10_firstHeel_95 (by decide) ?_
          exact ih_6 (y_30.toInt - (-1) : Int).toNat (by omega) _ _ _ ⟨G_29, y_30, (Int.toNat_of_nonneg (by omega)), ⟨by omega, by omega⟩, hW, hB_G_29, hF, (((Fr.rf.call hq_5 (by decide) (by decide)).call hq_21 (by decide) (by decide)).put eG_29 (Or.inl (by decide))), hS, lv_sub hl [0, 2, 3, 4, 5] rfl⟩
    refine lv_icmp_ge (tgt := 53) hx hb dX10_firstHeel_36 (by decide) (fun c_31 => ?_) (fun c_31 => ?_)
    · have c_31 : (G.1 7 7).toInt ≤ x_8.toInt := xI_le rfl rfl c_31
      exact hJ_20 () _ _ _ ⟨G_4, hW, hB_G_4, hF, Fr.rf, hS, lv_sub hl [0, 1, 2, 3, 4] rfl⟩
    · have c_31 : x_8.toInt < (G.1 7 7).toInt := xI_nle rfl rfl c_31
      refine lv_aload hx hb dX10_firstHeel_39 (lv_at hl 1 rfl) ?_
      refine lv_iload hx hb dX10_firstHeel_41 (lv_at hl 0 rfl) ?_
      refine lv_iload_n hx hb dX10_firstHeel_43 rfl (lv_at hl 3 rfl) ?_
      refine lv_iadd hx hb dX10_firstHeel_44 ?_
      refine lv_topi (fun y_32 ey_32 => ?_)
      have ty_32 : y_32.toInt = x_8.toInt + p0.toInt := xI_add rfl rfl ey_32 (by omega) (by omega)
      refine S_iald hx hb hK hW kd_42 (vin (by omega) (by omega)) dX10_firstHeel_45 (fun y_33 ey_33 => ?_)
      refine lv_iload hx hb dX10_firstHeel_46 (lv_at hl 0 rfl) ?_
      refine lv_iload_n hx hb dX10_firstHeel_48 rfl (lv_at hl 4 rfl) ?_
      refine lv_iadd hx hb dX10_firstHeel_49 ?_
      refine lv_topi (fun y_34 ey_34 => ?_)
      have ty_34 : y_34.toInt = x_8.toInt + p1.toInt := xI_add rfl rfl ey_34 (by omega) (by omega)
      refine lv_icmp_gt (tgt := 57) hx hb dX10_firstHeel_50 (by decide) (fun c_35 => ?_) (fun c_35 => ?_)
      · have c_35 : y_34.toInt < y_33.toInt := xI_lt rfl rfl c_35
        refine lv_iconst (v := 0) hx hb dX10_firstHeel_57 (by decide) ?_
        refine lv_istore (lv' := [(6, .int 0), (5, .int x_8), (4, .ref (a 42)), (1, .ref (a 7)), (2, .int p0), (3, .int p1)]) hx hb dX10_firstHeel_58 hl (by decide) rfl (fun ls hl => ?_)
        refine lv_aload hx hb dX10_firstHeel_60 (lv_at hl 2 rfl) ?_
        refine lv_iload hx hb dX10_firstHeel_62 (lv_at hl 1 rfl) ?_
        refine lv_aload_n hx hb dX10_firstHeel_64 rfl (lv_at hl 3 rfl) ?_
        refine S_getR (n := 40) (C := RX0) (T := TX0) (N := 8) hx hb hg iX0 hown hK hW kd_7 rfl 0 (by decide) (hg (Cond.fieldLink RX10 55 "SlabWalk$Course" "lawful" "[Z") m373) (fun _ h9 => h9) rfl dX10_firstHeel_65 ?_
        refine lv_iload hx hb dX10_firstHeel_68 (lv_at hl 1 rfl) ?_
        refine S_zald hx hb hK hW kd_40 (vin (by omega) (by omega)) dX10_firstHeel_70 (fun y_36 ey_36 => ?_)
        have ty_36 : 0 ≤ y_36.toInt ∧ y_36.toInt ≤ 1 := hB_G_4.v ey_36 rfl rfl
        refine lv_if_eq (tgt := 84) hx hb dX10_firstHeel_71 (by decide) (fun c_37 => ?_) (fun c_37 => ?_)
        · have c_37 : y_36.toInt = 0 := xI_eq rfl rfl c_37
          refine lv_aload hx hb dX10_firstHeel_84 (lv_at hl 2 rfl) ?_
          refine lv_iload hx hb dX10_firstHeel_86 (lv_at hl 1 rfl) ?_
          refine lv_iconst (v := 1) hx hb dX10_firstHeel_88 (by decide) ?_
          refine lv_iadd hx hb dX10_firstHeel_89 ?_
          refine lv_topi (fun y_38 ey_38 => ?_)
          have ty_38 : y_38.toInt = x_8.toInt + 1 := xI_add rfl rfl ey_38 (by omega) (by omega)
          refine S_iald hx hb hK hW kd_42 (vin (by omega) (by omega)) dX10_firstHeel_90 (fun y_39 ey_39 => ?_)
          refine S_iast hx hb hK hW hS kd_42 (vin (by omega) (by omega)) dX10_firstHeel_91 (fun G_40 H locs eG_40 hW hS => ?_)
          have hB_G_40 : Bd G_40 := hB_G_4.put (lo := (-2147483648)) (hi := 2147483647) eG_40 rfl rfl rfl (tI_rng _).1 (tI_rng _).2 (hB_G_4.2.put eG_40 rfl)
          have hF := hF.put eG_40 (Or.inl (by decide))
          obtain ⟨y_41, ey_41⟩ : ∃ q, q = x_8 + (-1) := ⟨_, rfl⟩
          have ty_41 : y_41.toInt = x_8.toInt + (-1) := xI_add rfl rfl ey_41 (by omega) (by omega)
          refine lv_iinc (v := y_41) (lv' := [(5, .int y_41), (6, .int 0), (4, .ref (a 42)), (1, .ref (a 7)), (2, .int p0), (3, .int p1)]) hx hb dX10_firstHeel_92 hl (k := 1) rfl (by rw [ey_41]; rfl) (by decide) rfl (fun ls hl => ?_)
          refine lv_goto (tgt := 25) hx hb dX10_firstHeel_95 (by decide) ?_
          exact ih_6 (y_41.toInt - (-1) : Int).toNat (by omega) _ _ _ ⟨G_40, y_41, (Int.toNat_of_nonneg (by omega)), ⟨by omega, by omega⟩, hW, hB_G_40, hF, ((Fr.rf.call hq_5 (by decide) (by decide)).put eG_40 (Or.inl (by decide))), hS, lv_sub hl [0, 2, 3, 4, 5] rfl⟩
        · have c_37 : y_36.toInt ≠ 0 := xI_ne rfl rfl c_37
          refine lv_iload hx hb dX10_firstHeel_74 (lv_at hl 0 rfl) ?_
          refine lv_if_eq (tgt := 84) hx hb dX10_firstHeel_76 (by decide) (fun c_42 => ?_) (fun c_42 => ?_)
          · have c_42 : (0 : Int) = (0 : Int) := xI_eq rfl rfl c_42
            refine lv_aload hx hb dX10_firstHeel_84 (lv_at hl 2 rfl) ?_
            refine lv_iload hx hb dX10_firstHeel_86 (lv_at hl 1 rfl) ?_
            refine lv_iconst (v := 1) hx hb dX10_firstHeel_88 (by decide) ?_
            refine lv_iadd hx hb dX10_firstHeel_89 ?_
            refine lv_topi (fun y_43 ey_43 => ?_)
            have ty_43 : y_43.toInt = x_8.toInt + 1 := xI_add rfl rfl ey_43 (by omega) (by omega)
            refine S_iald hx hb hK hW kd_42 (vin (by omega) (by omega)) dX10_firstHeel_90 (fun y_44 ey_44 => ?_)
            refine S_iast hx hb hK hW hS kd_42 (vin (by omega) (by omega)) dX10_firstHeel_91 (fun G_45 H locs eG_45 hW hS => ?_)
            have hB_G_45 : Bd G_45 := hB_G_4.put (lo := (-2147483648)) (hi := 2147483647) eG_45 rfl rfl rfl (tI_rng _).1 (tI_rng _).2 (hB_G_4.2.put eG_45 rfl)
            have hF := hF.put eG_45 (Or.inl (by decide))
            obtain ⟨y_46, ey_46⟩ : ∃ q, q = x_8 + (-1) := ⟨_, rfl⟩
            have ty_46 : y_46.toInt = x_8.toInt + (-1) := xI_add rfl rfl ey_46 (by omega) (by omega)
            refine lv_iinc (v := y_46) (lv' := [(5, .int y_46), (6, .int 0), (4, .ref (a 42)), (1, .ref (a 7)), (2, .int p0), (3, .int p1)]) hx hb dX10_firstHeel_92 hl (k := 1) rfl (by rw [ey_46]; rfl) (by decide) rfl (fun ls hl => ?_)
            refine lv_goto (tgt := 25) hx hb dX10_firstHeel_95 (by decide) ?_
            exact ih_6 (y_46.toInt - (-1) : Int).toNat (by omega) _ _ _ ⟨G_45, y_46, (Int.toNat_of_nonneg (by omega)), ⟨by omega, by omega⟩, hW, hB_G_45, hF, ((Fr.rf.call hq_5 (by decide) (by decide)).put eG_45 (Or.inl (by decide))), hS, lv_sub hl [0, 2, 3, 4, 5] rfl⟩
          · have c_42 : (0 : Int) ≠ (0 : Int) := xI_ne rfl rfl c_42
            exfalso; omega
      · have c_35 : y_33.toInt ≤ y_34.toInt := xI_nlt rfl rfl c_35
        exact hJ_20 () _ _ _ ⟨G_4, hW, hB_G_4, hF, Fr.rf, hS, lv_sub hl [0, 1, 2, 3, 4] rfl⟩

set_option maxHeartbeats 4000000 in
set_option maxRecDepth 100000 in
theorem k_tEvenly (l : Launch) (D : va_G) (k : KT) (A : Nat → Prop) (a : Nat → Nat) (z : SK) (G : GS) (p0 : Int32) (ha_p0 : 0 ≤ p0.toInt ∧ p0.toInt ≤ 60) (hci : (G.1 7 6).toInt ≤ 399 ∧ (G.1 7 3).toInt ≤ (G.1 7 4).toInt ∧ ((G.1 7 7).toInt ≤ 0 ∨ (G.1 7 7).toInt + (G.1 7 4).toInt ≤ (G.1 7 6).toInt + 1)) (hs : p0.toInt ≤ (G.1 7 4).toInt) : Met l yX10_comesEvenly (WS yX10_comesEvenly cX10_comesEvenly 3 (some .boolean)) ({ frames := 1, cells := 0, slots := 0, locals := 26 }) (va_Pc [.ref (a 8), .ref (a 7), .int p0] (cW D k A a z G)) (va_Qi (fun (r : Int32) (G1 : GS) => Bd G1 ∧ Fr [42] [] G G1 ∧ (0 ≤ r.toInt ∧ r.toInt ≤ 1)) (fun (G1 : GS) t => Wd D k A a G1 t.heap) A) 0 0 A := by
  refine Met.ofW (cc := cX10_comesEvenly) (maxL := 3) (ret := (some .boolean)) (by decide) rfl ?_
  intro p e s m args below meth c s₁ B hml hv
  obtain ⟨rfl, hW, hB_G, hK, hZ⟩ := hv
  have hx := B.exec
  have hb := B.bytes
  have hr := B.returns
  have hts := atoms_spec (ws := WS yX10_comesEvenly cX10_comesEvenly 3 (some .boolean)) B.pre
  have hgd : ∀ w ∈ gd, w ∈ WS yX10_comesEvenly cX10_comesEvenly 3 (some .boolean) := fun w h => List.mem_cons_of_mem _ h
  have hg : ∀ w ∈ gd, w.before _ s = true := fun w h => hts w (hgd w h)
  have hown : s.vm.findClass RX10 = some m.cls := findClass_of_methodNamed B.named
  have hS : va_S A s.heap s.heap [] := va_S.rf
  have hF : Fr [42] [] G G := Fr.rf
  have hl := lv_entry ([.ref (a 8), .ref (a 7), .int p0]) (n := 3) (Nat.le_of_ble_eq_true rfl)
  rw [lg_entry_eq]
  generalize (lg_sl ([.ref (a 8), .ref (a 7), .int p0]) ++ List.replicate (3 - (lg_sl ([.ref (a 8), .ref (a 7), .int p0])).length) Slot.unset).toArray = ls at hl ⊢
  have hl : lv_has ls 3 [(0, .ref (a 8)), (1, .ref (a 7)), (2, .int p0)] := hl
  have b_1 : (-1) ≤ (G.1 7 6).toInt ∧ (G.1 7 6).toInt ≤ 400 := hB_G.i 7 6 rfl rfl
  refine lv_aload_n hx hb dX10_comesEvenly_0 rfl (lv_at hl 0 rfl) ?_
  refine lv_aload_n hx hb dX10_comesEvenly_1 rfl (lv_at hl 1 rfl) ?_
  refine lv_iload_n hx hb dX10_comesEvenly_2 rfl (lv_at hl 2 rfl) ?_
  refine lv_iload_n hx hb dX10_comesEvenly_3 rfl (lv_at hl 2 rfl) ?_
  have b_2 : 0 ≤ (G.1 7 3).toInt ∧ (G.1 7 3).toInt ≤ 60 := hB_G.i 7 3 rfl rfl
  have b_3 : 0 ≤ (G.1 7 4).toInt ∧ (G.1 7 4).toInt ≤ 60 := hB_G.i 7 4 rfl rfl
  have b_4 : 0 ≤ (G.1 7 7).toInt ∧ (G.1 7 7).toInt ≤ 400 := hB_G.i 7 7 rfl rfl
  refine S_calli (va_runV (As := [.ref (a 7), .int p0, .int p0]) (rest := []) ⟨hx, hb, hml, hown, hts⟩ (k_tFirst l D k A a z G p0 p0 ⟨by omega, by omega⟩ ⟨by omega, by omega⟩ (by omega) (by omega)) (cwV 3 hts (gd_V hgd m1045 m1047 m35 m124 m1048) rfl rfl rfl (by decide +kernel) ⟨Nat.le_of_ble_eq_true rfl, Nat.le_of_ble_eq_true rfl⟩) (pre_V hW hB_G hK hZ hS kd_8 rfl) rfl rfl hl.1 rfl (lv_room (Nat.le_of_ble_eq_true rfl)) dX10_comesEvenly_4 ⟨Nat.le_of_ble_eq_true rfl, Nat.le_of_ble_eq_true rfl⟩) hS (fun r_5 G_6 H locs hpo hW hS => ?_)
  obtain ⟨hB_G_6, hq_7⟩ := hpo
  have hF := hF.call hq_7 (by decide) (by decide)
  refine lv_aload_n hx hb dX10_comesEvenly_7 rfl (lv_at hl 1 rfl) ?_
  refine S_getI (v := (G.1 7 4)) (C := RX0) (T := TX0) (N := 8) hx hb hg iX0 hown hK hW kd_7 rfl 4 (by decide) (hg (Cond.fieldLink RX10 64 "SlabWalk$Course" "most" "I") m383) (fun _ h9 => h9) rfl ((hq_7.i 7 4 (by decide) (by decide)).trans (rfl)) dX10_comesEvenly_8 ?_
  refine lv_icmp_ge (tgt := 18) hx hb dX10_comesEvenly_11 (by decide) (fun c_9 => ?_) (fun c_9 => ?_)
  · have c_9 : (G.1 7 4).toInt ≤ r_5.toInt := xI_le rfl rfl c_9
    refine lv_iconst (v := 0) hx hb dX10_comesEvenly_18 (by decide) ?_
    exact W.zret (v := 0) hx hb hr (by decide) (fun t ht _ => ⟨⟨0, G_6, rfl, ⟨hB_G_6, hF, ⟨by decide, by decide⟩⟩, wd_t ht hW⟩, hS.F ht⟩) hS.2.2 dX10_comesEvenly_19
  · have c_9 : r_5.toInt < (G.1 7 4).toInt := xI_nle rfl rfl c_9
    refine lv_iconst (v := 1) hx hb dX10_comesEvenly_14 (by decide) ?_
    refine lv_goto (tgt := 19) hx hb dX10_comesEvenly_15 (by decide) ?_
    exact W.zret (v := 1) hx hb hr (by decide) (fun t ht _ => ⟨⟨1, G_6, rfl, ⟨hB_G_6, hF, ⟨by decide, by decide⟩⟩, wd_t ht hW⟩, hS.F ht⟩) hS.2.2 dX10_comesEvenly_19
