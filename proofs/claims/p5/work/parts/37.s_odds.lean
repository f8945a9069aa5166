theorem m34 : Cond.selects RX5 yX5_setNextFeet yX5_setNextFeet ∈ gd := gd_mem 34 (by decide +kernel) (by decide +kernel)
theorem m40 : Cond.selects RX5 yX5_aimFrom yX5_aimFrom ∈ gd := gd_mem 40 (by decide +kernel) (by decide +kernel)
theorem m126 : Cond.initialized RX5 ∈ gd := gd_mem 126 (by decide +kernel) (by decide +kernel)
theorem m372 : Cond.fieldLink RX5 36 "SlabWalk$Course" "lawful" "[Z" ∈ gd := gd_mem 372 (by decide +kernel) (by decide +kernel)
theorem m379 : Cond.fieldLink RX5 58 "SlabWalk$Course" "least" "I" ∈ gd := gd_mem 379 (by decide +kernel) (by decide +kernel)
theorem m381 : Cond.fieldLink RX5 40 "SlabWalk$Course" "most" "I" ∈ gd := gd_mem 381 (by decide +kernel) (by decide +kernel)
theorem m387 : Cond.fieldLink RX5 65 "SlabWalk$Course" "leap" "I" ∈ gd := gd_mem 387 (by decide +kernel) (by decide +kernel)
theorem m389 : Cond.fieldLink RX5 30 "SlabWalk$Course" "last" "I" ∈ gd := gd_mem 389 (by decide +kernel) (by decide +kernel)
theorem m392 : Cond.fieldLink RX5 47 "SlabWalk$Course" "end" "I" ∈ gd := gd_mem 392 (by decide +kernel) (by decide +kernel)
theorem m464 : Cond.fieldLink RX5 11 "SlabWalk$Odds" "stepped" "[J" ∈ gd := gd_mem 464 (by decide +kernel) (by decide +kernel)
theorem m465 : Cond.fieldLink RX5 15 "SlabWalk$Odds" "leapt" "[J" ∈ gd := gd_mem 465 (by decide +kernel) (by decide +kernel)
theorem m466 : Cond.fieldLink RX5 18 "SlabWalk$Odds" "sums" "[J" ∈ gd := gd_mem 466 (by decide +kernel) (by decide +kernel)
theorem m467 : Cond.fieldLink RX5 21 "SlabWalk$Odds" "steppedSums" "[J" ∈ gd := gd_mem 467 (by decide +kernel) (by decide +kernel)
theorem m469 : Cond.fieldLink RX5 27 "SlabWalk$Odds" "aims" "[J" ∈ gd := gd_mem 469 (by decide +kernel) (by decide +kernel)
theorem m470 : Cond.fieldLink RX5 82 "SlabWalk$Odds" "boldest" "I" ∈ gd := gd_mem 470 (by decide +kernel) (by decide +kernel)
theorem m1023 : Cond.methodLink RX5 43 yX5_setNextFeet ∈ gd := gd_mem 1023 (by decide +kernel) (by decide +kernel)
theorem m1025 : Cond.instanceMethod yX5_setNextFeet ∈ gd := gd_mem 1025 (by decide +kernel) (by decide +kernel)
theorem m1026 : Cond.code yX5_setNextFeet cX5_setNextFeet 4 none ∈ gd := gd_mem 1026 (by decide +kernel) (by decide +kernel)
theorem m1027 : Cond.methodLink RX5 61 yX5_sumOf ∈ gd := gd_mem 1027 (by decide +kernel) (by decide +kernel)
theorem m1028 : Cond.static yX5_sumOf ∈ gd := gd_mem 1028 (by decide +kernel) (by decide +kernel)
theorem m1029 : Cond.code yX5_sumOf cX5_sumOf 6 (some .long) ∈ gd := gd_mem 1029 (by decide +kernel) (by decide +kernel)
theorem m1030 : Cond.methodLink RX5 68 Lib.Math.max.name ∈ gd := gd_mem 1030 (by decide +kernel) (by decide +kernel)
theorem m1031 : Cond.methodLink RX5 72 Lib.Math.min.name ∈ gd := gd_mem 1031 (by decide +kernel) (by decide +kernel)
theorem m1032 : Cond.constantLong RX5 50 1000000000000000 ∈ gd := gd_mem 1032 (by decide +kernel) (by decide +kernel)
theorem m1033 : Cond.methodLink RX5 52 Lib.MathLoose.min_long.x ∈ gd := gd_mem 1033 (by decide +kernel) (by decide +kernel)
theorem m1034 : Cond.static Lib.MathLoose.min_long.x ∈ gd := gd_mem 1034 (by decide +kernel) (by decide +kernel)
theorem m1035 : Cond.code Lib.MathLoose.min_long.x Lib.MathLoose.min_long.code 4 (some .long) ∈ gd := gd_mem 1035 (by decide +kernel) (by decide +kernel)
theorem m1130 : Cond.methodLink RX5 78 yX5_aimFrom ∈ gd := gd_mem 1130 (by decide +kernel) (by decide +kernel)
theorem m1132 : Cond.instanceMethod yX5_aimFrom ∈ gd := gd_mem 1132 (by decide +kernel) (by decide +kernel)
theorem m1133 : Cond.code yX5_aimFrom cX5_aimFrom 4 (some .long) ∈ gd := gd_mem 1133 (by decide +kernel) (by decide +kernel)
theorem dX5_aimFrom_0 : decode cX5_aimFrom 0 = .ok (.aload_n 0, 1) := by decide +kernel
theorem dX5_aimFrom_1 : decode cX5_aimFrom 1 = .ok (.getfield 27, 3) := by decide +kernel
theorem dX5_aimFrom_4 : decode cX5_aimFrom 4 = .ok (.iload_n 2, 1) := by decide +kernel
theorem dX5_aimFrom_5 : decode cX5_aimFrom 5 = .ok (.iload_n 3, 1) := by decide +kernel
theorem dX5_aimFrom_6 : decode cX5_aimFrom 6 = .ok (.iadd, 1) := by decide +kernel
theorem dX5_aimFrom_7 : decode cX5_aimFrom 7 = .ok (.aload_n 1, 1) := by decide +kernel
theorem dX5_aimFrom_8 : decode cX5_aimFrom 8 = .ok (.getfield 30, 3) := by decide +kernel
theorem dX5_aimFrom_11 : decode cX5_aimFrom 11 = .ok (.iconst 2, 1) := by decide +kernel
theorem dX5_aimFrom_12 : decode cX5_aimFrom 12 = .ok (.iadd, 1) := by decide +kernel
theorem dX5_aimFrom_13 : decode cX5_aimFrom 13 = .ok (.invokestatic 72, 3) := by decide +kernel
theorem dX5_aimFrom_16 : decode cX5_aimFrom 16 = .ok (.laload, 1) := by decide +kernel
theorem dX5_aimFrom_17 : decode cX5_aimFrom 17 = .ok (.lreturn, 1) := by decide +kernel
theorem dX5_bestStep_0 : decode cX5_bestStep 0 = .ok (.aload_n 1, 1) := by decide +kernel
theorem dX5_bestStep_1 : decode cX5_bestStep 1 = .ok (.getfield 58, 3) := by decide +kernel
theorem dX5_bestStep_4 : decode cX5_bestStep 4 = .ok (.istore_n 3, 1) := by decide +kernel
theorem dX5_bestStep_5 : decode cX5_bestStep 5 = .ok (.aload_n 0, 1) := by decide +kernel
theorem dX5_bestStep_6 : decode cX5_bestStep 6 = .ok (.aload_n 1, 1) := by decide +kernel
theorem dX5_bestStep_7 : decode cX5_bestStep 7 = .ok (.iload_n 2, 1) := by decide +kernel
theorem dX5_bestStep_8 : decode cX5_bestStep 8 = .ok (.iload_n 3, 1) := by decide +kernel
theorem dX5_bestStep_9 : decode cX5_bestStep 9 = .ok (.invokevirtual 78, 3) := by decide +kernel
theorem dX5_bestStep_12 : decode cX5_bestStep 12 = .ok (.lstore 4, 2) := by decide +kernel
theorem dX5_bestStep_14 : decode cX5_bestStep 14 = .ok (.iload_n 3, 1) := by decide +kernel
theorem dX5_bestStep_15 : decode cX5_bestStep 15 = .ok (.iconst 1, 1) := by decide +kernel
theorem dX5_bestStep_16 : decode cX5_bestStep 16 = .ok (.iadd, 1) := by decide +kernel
theorem dX5_bestStep_17 : decode cX5_bestStep 17 = .ok (.istore 6, 2) := by decide +kernel
theorem dX5_bestStep_19 : decode cX5_bestStep 19 = .ok (.iload 6, 2) := by decide +kernel
theorem dX5_bestStep_21 : decode cX5_bestStep 21 = .ok (.aload_n 1, 1) := by decide +kernel
theorem dX5_bestStep_22 : decode cX5_bestStep 22 = .ok (.getfield 40, 3) := by decide +kernel
theorem dX5_bestStep_25 : decode cX5_bestStep 25 = .ok (.if_icmp .gt 51, 3) := by decide +kernel
theorem dX5_bestStep_28 : decode cX5_bestStep 28 = .ok (.iload_n 2, 1) := by decide +kernel
theorem dX5_bestStep_29 : decode cX5_bestStep 29 = .ok (.iload 6, 2) := by decide +kernel
theorem dX5_bestStep_31 : decode cX5_bestStep 31 = .ok (.iadd, 1) := by decide +kernel
theorem dX5_bestStep_32 : decode cX5_bestStep 32 = .ok (.aload_n 1, 1) := by decide +kernel
theorem dX5_bestStep_33 : decode cX5_bestStep 33 = .ok (.getfield 30, 3) := by decide +kernel
theorem dX5_bestStep_36 : decode cX5_bestStep 36 = .ok (.iconst 2, 1) := by decide +kernel
theorem dX5_bestStep_37 : decode cX5_bestStep 37 = .ok (.iadd, 1) := by decide +kernel
theorem dX5_bestStep_38 : decode cX5_bestStep 38 = .ok (.if_icmp .gt 38, 3) := by decide +kernel
theorem dX5_bestStep_41 : decode cX5_bestStep 41 = .ok (.aload_n 0, 1) := by decide +kernel
theorem dX5_bestStep_42 : decode cX5_bestStep 42 = .ok (.getfield 27, 3) := by decide +kernel
theorem dX5_bestStep_45 : decode cX5_bestStep 45 = .ok (.iload_n 2, 1) := by decide +kernel
theorem dX5_bestStep_46 : decode cX5_bestStep 46 = .ok (.iload 6, 2) := by decide +kernel
theorem dX5_bestStep_48 : decode cX5_bestStep 48 = .ok (.iadd, 1) := by decide +kernel
theorem dX5_bestStep_49 : decode cX5_bestStep 49 = .ok (.laload, 1) := by decide +kernel
theorem dX5_bestStep_50 : decode cX5_bestStep 50 = .ok (.lload 4, 2) := by decide +kernel
theorem dX5_bestStep_52 : decode cX5_bestStep 52 = .ok (.lcmp, 1) := by decide +kernel
theorem dX5_bestStep_53 : decode cX5_bestStep 53 = .ok (.ifCond .le 17, 3) := by decide +kernel
theorem dX5_bestStep_56 : decode cX5_bestStep 56 = .ok (.iload 6, 2) := by decide +kernel
theorem dX5_bestStep_58 : decode cX5_bestStep 58 = .ok (.istore_n 3, 1) := by decide +kernel
theorem dX5_bestStep_59 : decode cX5_bestStep 59 = .ok (.aload_n 0, 1) := by decide +kernel
theorem dX5_bestStep_60 : decode cX5_bestStep 60 = .ok (.getfield 27, 3) := by decide +kernel
theorem dX5_bestStep_63 : decode cX5_bestStep 63 = .ok (.iload_n 2, 1) := by decide +kernel
theorem dX5_bestStep_64 : decode cX5_bestStep 64 = .ok (.iload 6, 2) := by decide +kernel
theorem dX5_bestStep_66 : decode cX5_bestStep 66 = .ok (.iadd, 1) := by decide +kernel
theorem dX5_bestStep_67 : decode cX5_bestStep 67 = .ok (.laload, 1) := by decide +kernel
theorem dX5_bestStep_68 : decode cX5_bestStep 68 = .ok (.lstore 4, 2) := by decide +kernel
theorem dX5_bestStep_70 : decode cX5_bestStep 70 = .ok (.iinc 6 1, 3) := by decide +kernel
theorem dX5_bestStep_73 : decode cX5_bestStep 73 = .ok (.goto (-54), 3) := by decide +kernel
theorem dX5_bestStep_76 : decode cX5_bestStep 76 = .ok (.iload_n 3, 1) := by decide +kernel
theorem dX5_bestStep_77 : decode cX5_bestStep 77 = .ok (.ireturn, 1) := by decide +kernel
theorem dX5_boldestStep_0 : decode cX5_boldestStep 0 = .ok (.aload_n 0, 1) := by decide +kernel
theorem dX5_boldestStep_1 : decode cX5_boldestStep 1 = .ok (.getfield 82, 3) := by decide +kernel
theorem dX5_boldestStep_4 : decode cX5_boldestStep 4 = .ok (.ireturn, 1) := by decide +kernel
theorem dX5_countWays_0 : decode cX5_countWays 0 = .ok (.iconst 0, 1) := by decide +kernel
theorem dX5_countWays_1 : decode cX5_countWays 1 = .ok (.istore_n 3, 1) := by decide +kernel
theorem dX5_countWays_2 : decode cX5_countWays 2 = .ok (.iload_n 3, 1) := by decide +kernel
theorem dX5_countWays_3 : decode cX5_countWays 3 = .ok (.aload_n 1, 1) := by decide +kernel
theorem dX5_countWays_4 : decode cX5_countWays 4 = .ok (.getfield 30, 3) := by decide +kernel
theorem dX5_countWays_7 : decode cX5_countWays 7 = .ok (.if_icmp .gt 44, 3) := by decide +kernel
theorem dX5_countWays_10 : decode cX5_countWays 10 = .ok (.aload_n 0, 1) := by decide +kernel
theorem dX5_countWays_11 : decode cX5_countWays 11 = .ok (.getfield 11, 3) := by decide +kernel
theorem dX5_countWays_14 : decode cX5_countWays 14 = .ok (.iload_n 3, 1) := by decide +kernel
theorem dX5_countWays_15 : decode cX5_countWays 15 = .ok (.aload_n 1, 1) := by decide +kernel
theorem dX5_countWays_16 : decode cX5_countWays 16 = .ok (.getfield 36, 3) := by decide +kernel
theorem dX5_countWays_19 : decode cX5_countWays 19 = .ok (.iload_n 3, 1) := by decide +kernel
theorem dX5_countWays_20 : decode cX5_countWays 20 = .ok (.baload, 1) := by decide +kernel
theorem dX5_countWays_21 : decode cX5_countWays 21 = .ok (.ifCond .eq 15, 3) := by decide +kernel
theorem dX5_countWays_24 : decode cX5_countWays 24 = .ok (.iload_n 3, 1) := by decide +kernel
theorem dX5_countWays_25 : decode cX5_countWays 25 = .ok (.aload_n 1, 1) := by decide +kernel
theorem dX5_countWays_26 : decode cX5_countWays 26 = .ok (.getfield 40, 3) := by decide +kernel
theorem dX5_countWays_29 : decode cX5_countWays 29 = .ok (.if_icmp .ge 7, 3) := by decide +kernel
theorem dX5_countWays_32 : decode cX5_countWays 32 = .ok (.lconst 1, 1) := by decide +kernel
theorem dX5_countWays_33 : decode cX5_countWays 33 = .ok (.goto 4, 3) := by decide +kernel
theorem dX5_countWays_36 : decode cX5_countWays 36 = .ok (.lconst 0, 1) := by decide +kernel
theorem dX5_countWays_37 : decode cX5_countWays 37 = .ok (.lastore, 1) := by decide +kernel
theorem dX5_countWays_38 : decode cX5_countWays 38 = .ok (.aload_n 0, 1) := by decide +kernel
theorem dX5_countWays_39 : decode cX5_countWays 39 = .ok (.getfield 15, 3) := by decide +kernel
theorem dX5_countWays_42 : decode cX5_countWays 42 = .ok (.iload_n 3, 1) := by decide +kernel
theorem dX5_countWays_43 : decode cX5_countWays 43 = .ok (.lconst 0, 1) := by decide +kernel
theorem dX5_countWays_44 : decode cX5_countWays 44 = .ok (.lastore, 1) := by decide +kernel
theorem dX5_countWays_45 : decode cX5_countWays 45 = .ok (.iinc 3 1, 3) := by decide +kernel
theorem dX5_countWays_48 : decode cX5_countWays 48 = .ok (.goto (-46), 3) := by decide +kernel
theorem dX5_countWays_51 : decode cX5_countWays 51 = .ok (.iconst 1, 1) := by decide +kernel
theorem dX5_countWays_52 : decode cX5_countWays 52 = .ok (.istore_n 3, 1) := by decide +kernel
theorem dX5_countWays_53 : decode cX5_countWays 53 = .ok (.iload_n 3, 1) := by decide +kernel
theorem dX5_countWays_54 : decode cX5_countWays 54 = .ok (.iload_n 2, 1) := by decide +kernel
theorem dX5_countWays_55 : decode cX5_countWays 55 = .ok (.if_icmp .ge 14, 3) := by decide +kernel
theorem dX5_countWays_58 : decode cX5_countWays 58 = .ok (.aload_n 0, 1) := by decide +kernel
theorem dX5_countWays_59 : decode cX5_countWays 59 = .ok (.aload_n 1, 1) := by decide +kernel
theorem dX5_countWays_60 : decode cX5_countWays 60 = .ok (.invokevirtual 43, 3) := by decide +kernel
theorem dX5_countWays_63 : decode cX5_countWays 63 = .ok (.iinc 3 1, 3) := by decide +kernel
theorem dX5_countWays_66 : decode cX5_countWays 66 = .ok (.goto (-13), 3) := by decide +kernel
theorem dX5_countWays_69 : decode cX5_countWays 69 = .ok (.lconst 0, 1) := by decide +kernel
theorem dX5_countWays_70 : decode cX5_countWays 70 = .ok (.lstore_n 3, 1) := by decide +kernel
theorem dX5_countWays_71 : decode cX5_countWays 71 = .ok (.aload_n 1, 1) := by decide +kernel
theorem dX5_countWays_72 : decode cX5_countWays 72 = .ok (.getfield 47, 3) := by decide +kernel
theorem dX5_countWays_75 : decode cX5_countWays 75 = .ok (.istore 5, 2) := by decide +kernel
theorem dX5_countWays_77 : decode cX5_countWays 77 = .ok (.iload 5, 2) := by decide +kernel
theorem dX5_countWays_79 : decode cX5_countWays 79 = .ok (.aload_n 1, 1) := by decide +kernel
theorem dX5_countWays_80 : decode cX5_countWays 80 = .ok (.getfield 30, 3) := by decide +kernel
theorem dX5_countWays_83 : decode cX5_countWays 83 = .ok (.if_icmp .gt 33, 3) := by decide +kernel
theorem dX5_countWays_86 : decode cX5_countWays 86 = .ok (.ldc2_w 50, 3) := by decide +kernel
theorem dX5_countWays_89 : decode cX5_countWays 89 = .ok (.lload_n 3, 1) := by decide +kernel
theorem dX5_countWays_90 : decode cX5_countWays 90 = .ok (.aload_n 0, 1) := by decide +kernel
theorem dX5_countWays_91 : decode cX5_countWays 91 = .ok (.getfield 11, 3) := by decide +kernel
theorem dX5_countWays_94 : decode cX5_countWays 94 = .ok (.iload 5, 2) := by decide +kernel
theorem dX5_countWays_96 : decode cX5_countWays 96 = .ok (.laload, 1) := by decide +kernel
theorem dX5_countWays_97 : decode cX5_countWays 97 = .ok (.ladd, 1) := by decide +kernel
theorem dX5_countWays_98 : decode cX5_countWays 98 = .ok (.aload_n 0, 1) := by decide +kernel
theorem dX5_countWays_99 : decode cX5_countWays 99 = .ok (.getfield 15, 3) := by decide +kernel
theorem dX5_countWays_102 : decode cX5_countWays 102 = .ok (.iload 5, 2) := by decide +kernel
theorem dX5_countWays_104 : decode cX5_countWays 104 = .ok (.laload, 1) := by decide +kernel
theorem dX5_countWays_105 : decode cX5_countWays 105 = .ok (.ladd, 1) := by decide +kernel
theorem dX5_countWays_106 : decode cX5_countWays 106 = .ok (.invokestatic 52, 3) := by decide +kernel
theorem dX5_countWays_109 : decode cX5_countWays 109 = .ok (.lstore_n 3, 1) := by decide +kernel
theorem dX5_countWays_110 : decode cX5_countWays 110 = .ok (.iinc 5 1, 3) := by decide +kernel
theorem dX5_countWays_113 : decode cX5_countWays 113 = .ok (.goto (-36), 3) := by decide +kernel
theorem dX5_countWays_116 : decode cX5_countWays 116 = .ok (.lload_n 3, 1) := by decide +kernel
theorem dX5_countWays_117 : decode cX5_countWays 117 = .ok (.lreturn, 1) := by decide +kernel
theorem dX5_setNextFeet_0 : decode cX5_setNextFeet 0 = .ok (.aload_n 0, 1) := by decide +kernel
theorem dX5_setNextFeet_1 : decode cX5_setNextFeet 1 = .ok (.getfield 18, 3) := by decide +kernel
theorem dX5_setNextFeet_4 : decode cX5_setNextFeet 4 = .ok (.iconst 0, 1) := by decide +kernel
theorem dX5_setNextFeet_5 : decode cX5_setNextFeet 5 = .ok (.lconst 0, 1) := by decide +kernel
theorem dX5_setNextFeet_6 : decode cX5_setNextFeet 6 = .ok (.lastore, 1) := by decide +kernel
theorem dX5_setNextFeet_7 : decode cX5_setNextFeet 7 = .ok (.aload_n 0, 1) := by decide +kernel
theorem dX5_setNextFeet_8 : decode cX5_setNextFeet 8 = .ok (.getfield 21, 3) := by decide +kernel
theorem dX5_setNextFeet_11 : decode cX5_setNextFeet 11 = .ok (.iconst 0, 1) := by decide +kernel
theorem dX5_setNextFeet_12 : decode cX5_setNextFeet 12 = .ok (.lconst 0, 1) := by decide +kernel
theorem dX5_setNextFeet_13 : decode cX5_setNextFeet 13 = .ok (.lastore, 1) := by decide +kernel
theorem dX5_setNextFeet_14 : decode cX5_setNextFeet 14 = .ok (.iconst 0, 1) := by decide +kernel
theorem dX5_setNextFeet_15 : decode cX5_setNextFeet 15 = .ok (.istore_n 2, 1) := by decide +kernel
theorem dX5_setNextFeet_16 : decode cX5_setNextFeet 16 = .ok (.iload_n 2, 1) := by decide +kernel
theorem dX5_setNextFeet_17 : decode cX5_setNextFeet 17 = .ok (.aload_n 1, 1) := by decide +kernel
theorem dX5_setNextFeet_18 : decode cX5_setNextFeet 18 = .ok (.getfield 47, 3) := by decide +kernel
theorem dX5_setNextFeet_21 : decode cX5_setNextFeet 21 = .ok (.if_icmp .ge 58, 3) := by decide +kernel
theorem dX5_setNextFeet_24 : decode cX5_setNextFeet 24 = .ok (.aload_n 0, 1) := by decide +kernel
theorem dX5_setNextFeet_25 : decode cX5_setNextFeet 25 = .ok (.getfield 18, 3) := by decide +kernel
theorem dX5_setNextFeet_28 : decode cX5_setNextFeet 28 = .ok (.iload_n 2, 1) := by decide +kernel
theorem dX5_setNextFeet_29 : decode cX5_setNextFeet 29 = .ok (.iconst 1, 1) := by decide +kernel
theorem dX5_setNextFeet_30 : decode cX5_setNextFeet 30 = .ok (.iadd, 1) := by decide +kernel
theorem dX5_setNextFeet_31 : decode cX5_setNextFeet 31 = .ok (.aload_n 0, 1) := by decide +kernel
theorem dX5_setNextFeet_32 : decode cX5_setNextFeet 32 = .ok (.getfield 18, 3) := by decide +kernel
theorem dX5_setNextFeet_35 : decode cX5_setNextFeet 35 = .ok (.iload_n 2, 1) := by decide +kernel
theorem dX5_setNextFeet_36 : decode cX5_setNextFeet 36 = .ok (.laload, 1) := by decide +kernel
theorem dX5_setNextFeet_37 : decode cX5_setNextFeet 37 = .ok (.aload_n 0, 1) := by decide +kernel
theorem dX5_setNextFeet_38 : decode cX5_setNextFeet 38 = .ok (.getfield 11, 3) := by decide +kernel
theorem dX5_setNextFeet_41 : decode cX5_setNextFeet 41 = .ok (.iload_n 2, 1) := by decide +kernel
theorem dX5_setNextFeet_42 : decode cX5_setNextFeet 42 = .ok (.laload, 1) := by decide +kernel
theorem dX5_setNextFeet_43 : decode cX5_setNextFeet 43 = .ok (.ladd, 1) := by decide +kernel
theorem dX5_setNextFeet_44 : decode cX5_setNextFeet 44 = .ok (.aload_n 0, 1) := by decide +kernel
theorem dX5_setNextFeet_45 : decode cX5_setNextFeet 45 = .ok (.getfield 15, 3) := by decide +kernel
theorem dX5_setNextFeet_48 : decode cX5_setNextFeet 48 = .ok (.iload_n 2, 1) := by decide +kernel
theorem dX5_setNextFeet_49 : decode cX5_setNextFeet 49 = .ok (.laload, 1) := by decide +kernel
theorem dX5_setNextFeet_50 : decode cX5_setNextFeet 50 = .ok (.ladd, 1) := by decide +kernel
theorem dX5_setNextFeet_51 : decode cX5_setNextFeet 51 = .ok (.lastore, 1) := by decide +kernel
theorem dX5_setNextFeet_52 : decode cX5_setNextFeet 52 = .ok (.aload_n 0, 1) := by decide +kernel
theorem dX5_setNextFeet_53 : decode cX5_setNextFeet 53 = .ok (.getfield 21, 3) := by decide +kernel
theorem dX5_setNextFeet_56 : decode cX5_setNextFeet 56 = .ok (.iload_n 2, 1) := by decide +kernel
theorem dX5_setNextFeet_57 : decode cX5_setNextFeet 57 = .ok (.iconst 1, 1) := by decide +kernel
theorem dX5_setNextFeet_58 : decode cX5_setNextFeet 58 = .ok (.iadd, 1) := by decide +kernel
theorem dX5_setNextFeet_59 : decode cX5_setNextFeet 59 = .ok (.aload_n 0, 1) := by decide +kernel
theorem dX5_setNextFeet_60 : decode cX5_setNextFeet 60 = .ok (.getfield 21, 3) := by decide +kernel
theorem dX5_setNextFeet_63 : decode cX5_setNextFeet 63 = .ok (.iload_n 2, 1) := by decide +kernel
theorem dX5_setNextFeet_64 : decode cX5_setNextFeet 64 = .ok (.laload, 1) := by decide +kernel
theorem dX5_setNextFeet_65 : decode cX5_setNextFeet 65 = .ok (.aload_n 0, 1) := by decide +kernel
theorem dX5_setNextFeet_66 : decode cX5_setNextFeet 66 = .ok (.getfield 11, 3) := by decide +kernel
theorem dX5_setNextFeet_69 : decode cX5_setNextFeet 69 = .ok (.iload_n 2, 1) := by decide +kernel
theorem dX5_setNextFeet_70 : decode cX5_setNextFeet 70 = .ok (.laload, 1) := by decide +kernel
theorem dX5_setNextFeet_71 : decode cX5_setNextFeet 71 = .ok (.ladd, 1) := by decide +kernel
theorem dX5_setNextFeet_72 : decode cX5_setNextFeet 72 = .ok (.lastore, 1) := by decide +kernel
theorem dX5_setNextFeet_73 : decode cX5_setNextFeet 73 = .ok (.iinc 2 1, 3) := by decide +kernel
theorem dX5_setNextFeet_76 : decode cX5_setNextFeet 76 = .ok (.goto (-60), 3) := by decide +kernel
theorem dX5_setNextFeet_79 : decode cX5_setNextFeet 79 = .ok (.iconst 0, 1) := by decide +kernel
theorem dX5_setNextFeet_80 : decode cX5_setNextFeet 80 = .ok (.istore_n 2, 1) := by decide +kernel
theorem dX5_setNextFeet_81 : decode cX5_setNextFeet 81 = .ok (.iload_n 2, 1) := by decide +kernel
theorem dX5_setNextFeet_82 : decode cX5_setNextFeet 82 = .ok (.aload_n 1, 1) := by decide +kernel
theorem dX5_setNextFeet_83 : decode cX5_setNextFeet 83 = .ok (.getfield 30, 3) := by decide +kernel
theorem dX5_setNextFeet_86 : decode cX5_setNextFeet 86 = .ok (.if_icmp .gt 92, 3) := by decide +kernel
theorem dX5_setNextFeet_89 : decode cX5_setNextFeet 89 = .ok (.aload_n 1, 1) := by decide +kernel
theorem dX5_setNextFeet_90 : decode cX5_setNextFeet 90 = .ok (.getfield 36, 3) := by decide +kernel
theorem dX5_setNextFeet_93 : decode cX5_setNextFeet 93 = .ok (.iload_n 2, 1) := by decide +kernel
theorem dX5_setNextFeet_94 : decode cX5_setNextFeet 94 = .ok (.baload, 1) := by decide +kernel
theorem dX5_setNextFeet_95 : decode cX5_setNextFeet 95 = .ok (.istore_n 3, 1) := by decide +kernel
theorem dX5_setNextFeet_96 : decode cX5_setNextFeet 96 = .ok (.aload_n 0, 1) := by decide +kernel
theorem dX5_setNextFeet_97 : decode cX5_setNextFeet 97 = .ok (.getfield 11, 3) := by decide +kernel
theorem dX5_setNextFeet_100 : decode cX5_setNextFeet 100 = .ok (.iload_n 2, 1) := by decide +kernel
theorem dX5_setNextFeet_101 : decode cX5_setNextFeet 101 = .ok (.iload_n 3, 1) := by decide +kernel
theorem dX5_setNextFeet_102 : decode cX5_setNextFeet 102 = .ok (.ifCond .eq 29, 3) := by decide +kernel
theorem dX5_setNextFeet_105 : decode cX5_setNextFeet 105 = .ok (.aload_n 0, 1) := by decide +kernel
theorem dX5_setNextFeet_106 : decode cX5_setNextFeet 106 = .ok (.getfield 18, 3) := by decide +kernel
theorem dX5_setNextFeet_109 : decode cX5_setNextFeet 109 = .ok (.aload_n 1, 1) := by decide +kernel
theorem dX5_setNextFeet_110 : decode cX5_setNextFeet 110 = .ok (.getfield 47, 3) := by decide +kernel
theorem dX5_setNextFeet_113 : decode cX5_setNextFeet 113 = .ok (.iload_n 2, 1) := by decide +kernel
theorem dX5_setNextFeet_114 : decode cX5_setNextFeet 114 = .ok (.aload_n 1, 1) := by decide +kernel
theorem dX5_setNextFeet_115 : decode cX5_setNextFeet 115 = .ok (.getfield 40, 3) := by decide +kernel
theorem dX5_setNextFeet_118 : decode cX5_setNextFeet 118 = .ok (.isub, 1) := by decide +kernel
theorem dX5_setNextFeet_119 : decode cX5_setNextFeet 119 = .ok (.iload_n 2, 1) := by decide +kernel
theorem dX5_setNextFeet_120 : decode cX5_setNextFeet 120 = .ok (.aload_n 1, 1) := by decide +kernel
theorem dX5_setNextFeet_121 : decode cX5_setNextFeet 121 = .ok (.getfield 58, 3) := by decide +kernel
theorem dX5_setNextFeet_124 : decode cX5_setNextFeet 124 = .ok (.isub, 1) := by decide +kernel
theorem dX5_setNextFeet_125 : decode cX5_setNextFeet 125 = .ok (.invokestatic 61, 3) := by decide +kernel
theorem dX5_setNextFeet_128 : decode cX5_setNextFeet 128 = .ok (.goto 4, 3) := by decide +kernel
theorem dX5_setNextFeet_131 : decode cX5_setNextFeet 131 = .ok (.lconst 0, 1) := by decide +kernel
theorem dX5_setNextFeet_132 : decode cX5_setNextFeet 132 = .ok (.lastore, 1) := by decide +kernel
theorem dX5_setNextFeet_133 : decode cX5_setNextFeet 133 = .ok (.aload_n 0, 1) := by decide +kernel
theorem dX5_setNextFeet_134 : decode cX5_setNextFeet 134 = .ok (.getfield 15, 3) := by decide +kernel
theorem dX5_setNextFeet_137 : decode cX5_setNextFeet 137 = .ok (.iload_n 2, 1) := by decide +kernel
theorem dX5_setNextFeet_138 : decode cX5_setNextFeet 138 = .ok (.iload_n 3, 1) := by decide +kernel
theorem dX5_setNextFeet_139 : decode cX5_setNextFeet 139 = .ok (.ifCond .eq 31, 3) := by decide +kernel
theorem dX5_setNextFeet_142 : decode cX5_setNextFeet 142 = .ok (.aload_n 0, 1) := by decide +kernel
theorem dX5_setNextFeet_143 : decode cX5_setNextFeet 143 = .ok (.getfield 21, 3) := by decide +kernel
theorem dX5_setNextFeet_146 : decode cX5_setNextFeet 146 = .ok (.aload_n 1, 1) := by decide +kernel
theorem dX5_setNextFeet_147 : decode cX5_setNextFeet 147 = .ok (.getfield 47, 3) := by decide +kernel
theorem dX5_setNextFeet_150 : decode cX5_setNextFeet 150 = .ok (.iload_n 2, 1) := by decide +kernel
theorem dX5_setNextFeet_151 : decode cX5_setNextFeet 151 = .ok (.aload_n 1, 1) := by decide +kernel
theorem dX5_setNextFeet_152 : decode cX5_setNextFeet 152 = .ok (.getfield 65, 3) := by decide +kernel
theorem dX5_setNextFeet_155 : decode cX5_setNextFeet 155 = .ok (.isub, 1) := by decide +kernel
theorem dX5_setNextFeet_156 : decode cX5_setNextFeet 156 = .ok (.iload_n 2, 1) := by decide +kernel
theorem dX5_setNextFeet_157 : decode cX5_setNextFeet 157 = .ok (.aload_n 1, 1) := by decide +kernel
theorem dX5_setNextFeet_158 : decode cX5_setNextFeet 158 = .ok (.getfield 40, 3) := by decide +kernel
theorem dX5_setNextFeet_161 : decode cX5_setNextFeet 161 = .ok (.isub, 1) := by decide +kernel
theorem dX5_setNextFeet_162 : decode cX5_setNextFeet 162 = .ok (.iconst 1, 1) := by decide +kernel
theorem dX5_setNextFeet_163 : decode cX5_setNextFeet 163 = .ok (.isub, 1) := by decide +kernel
theorem dX5_setNextFeet_164 : decode cX5_setNextFeet 164 = .ok (.invokestatic 61, 3) := by decide +kernel
theorem dX5_setNextFeet_167 : decode cX5_setNextFeet 167 = .ok (.goto 4, 3) := by decide +kernel
theorem dX5_setNextFeet_170 : decode cX5_setNextFeet 170 = .ok (.lconst 0, 1) := by decide +kernel
theorem dX5_setNextFeet_171 : decode cX5_setNextFeet 171 = .ok (.lastore, 1) := by decide +kernel
theorem dX5_setNextFeet_172 : decode cX5_setNextFeet 172 = .ok (.iinc 2 1, 3) := by decide +kernel
theorem dX5_setNextFeet_175 : decode cX5_setNextFeet 175 = .ok (.goto (-94), 3) := by decide +kernel
theorem dX5_setNextFeet_178 : decode cX5_setNextFeet 178 = .ok (.return_, 1) := by decide +kernel
theorem dX5_sumOf_0 : decode cX5_sumOf 0 = .ok (.iconst 0, 1) := by decide +kernel
theorem dX5_sumOf_1 : decode cX5_sumOf 1 = .ok (.iload_n 2, 1) := by decide +kernel
theorem dX5_sumOf_2 : decode cX5_sumOf 2 = .ok (.invokestatic 68, 3) := by decide +kernel
theorem dX5_sumOf_5 : decode cX5_sumOf 5 = .ok (.istore 4, 2) := by decide +kernel
theorem dX5_sumOf_7 : decode cX5_sumOf 7 = .ok (.iload_n 3, 1) := by decide +kernel
theorem dX5_sumOf_8 : decode cX5_sumOf 8 = .ok (.iconst 1, 1) := by decide +kernel
theorem dX5_sumOf_9 : decode cX5_sumOf 9 = .ok (.iadd, 1) := by decide +kernel
theorem dX5_sumOf_10 : decode cX5_sumOf 10 = .ok (.iload_n 1, 1) := by decide +kernel
theorem dX5_sumOf_11 : decode cX5_sumOf 11 = .ok (.invokestatic 72, 3) := by decide +kernel
theorem dX5_sumOf_14 : decode cX5_sumOf 14 = .ok (.istore 5, 2) := by decide +kernel
theorem dX5_sumOf_16 : decode cX5_sumOf 16 = .ok (.iload 5, 2) := by decide +kernel
theorem dX5_sumOf_18 : decode cX5_sumOf 18 = .ok (.iload 4, 2) := by decide +kernel
theorem dX5_sumOf_20 : decode cX5_sumOf 20 = .ok (.if_icmp .gt 7, 3) := by decide +kernel
theorem dX5_sumOf_23 : decode cX5_sumOf 23 = .ok (.lconst 0, 1) := by decide +kernel
theorem dX5_sumOf_24 : decode cX5_sumOf 24 = .ok (.goto 18, 3) := by decide +kernel
theorem dX5_sumOf_27 : decode cX5_sumOf 27 = .ok (.ldc2_w 50, 3) := by decide +kernel
theorem dX5_sumOf_30 : decode cX5_sumOf 30 = .ok (.aload_n 0, 1) := by decide +kernel
theorem dX5_sumOf_31 : decode cX5_sumOf 31 = .ok (.iload 5, 2) := by decide +kernel
theorem dX5_sumOf_33 : decode cX5_sumOf 33 = .ok (.laload, 1) := by decide +kernel
theorem dX5_sumOf_34 : decode cX5_sumOf 34 = .ok (.aload_n 0, 1) := by decide +kernel
theorem dX5_sumOf_35 : decode cX5_sumOf 35 = .ok (.iload 4, 2) := by decide +kernel
theorem dX5_sumOf_37 : decode cX5_sumOf 37 = .ok (.laload, 1) := by decide +kernel
theorem dX5_sumOf_38 : decode cX5_sumOf 38 = .ok (.lsub, 1) := by decide +kernel
theorem dX5_sumOf_39 : decode cX5_sumOf 39 = .ok (.invokestatic 52, 3) := by decide +kernel
theorem dX5_sumOf_42 : decode cX5_sumOf 42 = .ok (.lreturn, 1) := by decide +kernel
set_option maxHeartbeats 4000000 in
set_option maxRecDepth 100000 in
theorem k_oSum_54 (l : Launch) (D : va_G) (k : KT) (A : Nat → Prop) (a : Nat → Nat) (z : SK) (G : GS) (p0 : Int32) (p1 : Int32) (p2 : Int32) (ha_p0 : 0 ≤ p0.toInt ∧ p0.toInt ≤ 400) (ha_p1 : -200 ≤ p1.toInt ∧ p1.toInt ≤ 600) (ha_p2 : -200 ≤ p2.toInt ∧ p2.toInt ≤ 600) : Met l yX5_sumOf (WS yX5_sumOf cX5_sumOf 6 (some .long)) ({ frames := 1, cells := 0, slots := 0, locals := 15 }) (va_Pc [.ref (a 54), .int p0, .int p1, .int p2] (cW D k A a z G)) (va_Ql (fun (r : Int64) (G1 : GS) => Bd G1 ∧ Fr [] [] G G1) (fun (G1 : GS) t => Wd D k A a G1 t.heap) A) 0 0 A := by
  refine Met.ofW (cc := cX5_sumOf) (maxL := 6) (ret := (some .long)) (by decide) rfl ?_
  intro p e s m args below meth c s₁ B hml hv
  obtain ⟨rfl, hW, hB_G, hK, hZ⟩ := hv
  have hx := B.exec
  have hb := B.bytes
  have hr := B.returns
  have hts := atoms_spec (ws := WS yX5_sumOf cX5_sumOf 6 (some .long)) B.pre
  have hgd : ∀ w ∈ gd, w ∈ WS yX5_sumOf cX5_sumOf 6 (some .long) := fun w h => List.mem_cons_of_mem _ h
  have hg : ∀ w ∈ gd, w.before _ s = true := fun w h => hts w (hgd w h)
  have hown : s.vm.findClass RX5 = some m.cls := findClass_of_methodNamed B.named
  have hS : va_S A s.heap s.heap [] := va_S.rf
  have hF : Fr [] [] G G := Fr.rf
  have hl := lv_entry ([.ref (a 54), .int p0, .int p1, .int p2]) (n := 6) (Nat.le_of_ble_eq_true rfl)
  rw [lg_entry_eq]
  generalize (lg_sl ([.ref (a 54), .int p0, .int p1, .int p2]) ++ List.replicate (6 - (lg_sl ([.ref (a 54), .int p0, .int p1, .int p2])).length) Slot.unset).toArray = ls at hl ⊢
  have hl : lv_has ls 6 [(0, .ref (a 54)), (1, .int p0), (2, .int p1), (3, .int p2)] := hl
  refine lv_iconst (v := 0) hx hb dX5_sumOf_0 (by decide) ?_
  refine lv_iload_n hx hb dX5_sumOf_1 rfl (lv_at hl 2 rfl) ?_
  refine va_mmax hx hb (by rw [hml]; exact hl.1.symm) hown (hg (Cond.methodLink RX5 68 Lib.Math.max.name) m1030) (hg (Cond.static Lib.Math.max.name) m728) (hg (Cond.initialized "java/lang/Math") m132) (hg (Cond.code Lib.Math.max.name Lib.Math.max.code 2 (some .int)) m729) (Nat.le_of_ble_eq_true rfl) (Nat.le_of_ble_eq_true rfl) (Nat.le_of_ble_eq_true rfl) (Nat.le_of_ble_eq_true rfl) dX5_sumOf_2 ?_
  refine lv_topi (fun y_1 ey_1 => ?_)
  have ty_1 := xI_max (X := 0) (Y := p1.toInt) rfl rfl ey_1
  refine lv_istore (lv' := [(4, .int y_1), (0, .ref (a 54)), (1, .int p0), (2, .int p1), (3, .int p2)]) hx hb dX5_sumOf_5 hl (by decide) rfl (fun ls hl => ?_)
  refine lv_iload_n hx hb dX5_sumOf_7 rfl (lv_at hl 4 rfl) ?_
  refine lv_iconst (v := 1) hx hb dX5_sumOf_8 (by decide) ?_
  refine lv_iadd hx hb dX5_sumOf_9 ?_
  refine lv_topi (fun y_2 ey_2 => ?_)
  have ty_2 : y_2.toInt = p2.toInt + 1 := xI_add rfl rfl ey_2 (by omega) (by omega)
  refine lv_iload_n hx hb dX5_sumOf_10 rfl (lv_at hl 2 rfl) ?_
  refine va_mmin hx hb (by rw [hml]; exact hl.1.symm) hown (hg (Cond.methodLink RX5 72 Lib.Math.min.name) m1031) (hg (Cond.static Lib.Math.min.name) m636) (hg (Cond.initialized "java/lang/Math") m132) (hg (Cond.code Lib.Math.min.name Lib.Math.min.code 2 (some .int)) m637) (Nat.le_of_ble_eq_true rfl) (Nat.le_of_ble_eq_true rfl) (Nat.le_of_ble_eq_true rfl) (Nat.le_of_ble_eq_true rfl) dX5_sumOf_11 ?_
  refine lv_topi (fun y_3 ey_3 => ?_)
  have ty_3 := xI_min (X := y_2.toInt) (Y := p0.toInt) rfl rfl ey_3
  refine lv_istore (lv' := [(5, .int y_3), (4, .int y_1), (0, .ref (a 54)), (1, .int p0), (2, .int p1), (3, .int p2)]) hx hb dX5_sumOf_14 hl (by decide) rfl (fun ls hl => ?_)
  refine lv_iload hx hb dX5_sumOf_16 (lv_at hl 0 rfl) ?_
  refine lv_iload hx hb dX5_sumOf_18 (lv_at hl 1 rfl) ?_
  refine lv_icmp_gt (tgt := 27) hx hb dX5_sumOf_20 (by decide) (fun c_4 => ?_) (fun c_4 => ?_)
  · have c_4 : y_1.toInt < y_3.toInt := xI_lt rfl rfl c_4
    refine lv_ldc2 (v := 1000000000000000) hx hb hown (hg (Cond.constantLong RX5 50 1000000000000000) m1032) dX5_sumOf_27 ?_
    refine lv_aload_n hx hb dX5_sumOf_30 rfl (lv_at hl 2 rfl) ?_
    refine lv_iload hx hb dX5_sumOf_31 (lv_at hl 0 rfl) ?_
    refine S_lald hx hb hK hW kd_54 (vin (by omega) (by omega)) dX5_sumOf_33 (fun y_5 ey_5 => ?_)
    refine lv_aload_n hx hb dX5_sumOf_34 rfl (lv_at hl 2 rfl) ?_
    refine lv_iload hx hb dX5_sumOf_35 (lv_at hl 1 rfl) ?_
    refine S_lald hx hb hK hW kd_54 (vin (by omega) (by omega)) dX5_sumOf_37 (fun y_6 ey_6 => ?_)
    refine lv_lsub hx hb dX5_sumOf_38 ?_
    refine lv_topl (fun y_7 ey_7 => ?_)
    refine va_mmin_long hx hb (by rw [hml]; exact hl.1.symm) hown (hg (Cond.methodLink RX5 52 Lib.MathLoose.min_long.x) m1033) (hg (Cond.static Lib.MathLoose.min_long.x) m1034) (hg (Cond.initialized "java/lang/Math") m132) (hg (Cond.code Lib.MathLoose.min_long.x Lib.MathLoose.min_long.code 4 (some .long)) m1035) (Nat.le_of_ble_eq_true rfl) (Nat.le_of_ble_eq_true rfl) (Nat.le_of_ble_eq_true rfl) (Nat.le_of_ble_eq_true rfl) dX5_sumOf_39 ?_
    refine lv_topl (fun y_8 ey_8 => ?_)
    exact W.lret (v := y_8) hx hb hr (fun t ht _ => ⟨⟨y_8, G, rfl, ⟨hB_G, hF⟩, wd_t ht hW⟩, hS.F ht⟩) hS.2.2 dX5_sumOf_42
  · have c_4 : y_3.toInt ≤ y_1.toInt := xI_nlt rfl rfl c_4
    refine lv_lconst (v := 0) hx hb dX5_sumOf_23 (by decide) ?_
    refine lv_goto (tgt := 42) hx hb dX5_sumOf_24 (by decide) ?_
    exact W.lret (v := 0) hx hb hr (fun t ht _ => ⟨⟨0, G, rfl, ⟨hB_G, hF⟩, wd_t ht hW⟩, hS.F ht⟩) hS.2.2 dX5_sumOf_42

set_option maxHeartbeats 4000000 in
set_option maxRecDepth 100000 in
theorem k_oSum_55 (l : Launch) (D : va_G) (k : KT) (A : Nat → Prop) (a : Nat → Nat) (z : SK) (G : GS) (p0 : Int32) (p1 : Int32) (p2 : Int32) (ha_p0 : 0 ≤ p0.toInt ∧ p0.toInt ≤ 400) (ha_p1 : -200 ≤ p1.toInt ∧ p1.toInt ≤ 600) (ha_p2 : -200 ≤ p2.toInt ∧ p2.toInt ≤ 600) : Met l yX5_sumOf (WS yX5_sumOf cX5_sumOf 6 (some .long)) ({ frames := 1, cells := 0, slots := 0, locals := 15 }) (va_Pc [.ref (a 55), .int p0, .int p1, .int p2] (cW D k A a z G)) (va_Ql (fun (r : Int64) (G1 : GS) => Bd G1 ∧ Fr [] [] G G1) (fun (G1 : GS) t => Wd D k A a G1 t.heap) A) 0 0 A := by
  refine Met.ofW (cc := cX5_sumOf) (maxL := 6) (ret := (some .long)) (by decide) rfl ?_
  intro p e s m args below meth c s₁ B hml hv
  obtain ⟨rfl, hW, hB_G, hK, hZ⟩ := hv
  have hx := B.exec
  have hb := B.bytes
  have hr := B.returns
  have hts := atoms_spec (ws := WS yX5_sumOf cX5_sumOf 6 (some .long)) B.pre
  have hgd : ∀ w ∈ gd, w ∈ WS yX5_sumOf cX5_sumOf 6 (some .long) := fun w h => List.mem_cons_of_mem _ h
  have hg : ∀ w ∈ gd, w.before _ s = true := fun w h => hts w (hgd w h)
  have hown : s.vm.findClass RX5 = some m.cls := findClass_of_methodNamed B.named
  have hS : va_S A s.heap s.heap [] := va_S.rf
  have hF : Fr [] [] G G := Fr.rf
  have hl := lv_entry ([.ref (a 55), .int p0, .int p1, .int p2]) (n := 6) (Nat.le_of_ble_eq_true rfl)
  rw [lg_entry_eq]
  generalize (lg_sl ([.ref (a 55), .int p0, .int p1, .int p2]) ++ List.replicate (6 - (lg_sl ([.ref (a 55), .int p0, .int p1, .int p2])).length) Slot.unset).toArray = ls at hl ⊢
  have hl : lv_has ls 6 [(0, .ref (a 55)), (1, .int p0), (2, .int p1), (3, .int p2)] := hl
  refine lv_iconst (v := 0) hx hb dX5_sumOf_0 (by decide) ?_
  refine lv_iload_n hx hb dX5_sumOf_1 rfl (lv_at hl 2 rfl) ?_
  refine va_mmax hx hb (by rw [hml]; exact hl.1.symm) hown (hg (Cond.methodLink RX5 68 Lib.Math.max.name) m1030) (hg (Cond.static Lib.Math.max.name) m728) (hg (Cond.initialized "java/lang/Math") m132) (hg (Cond.code Lib.Math.max.name Lib.Math.max.code 2 (some .int)) m729) (Nat.le_of_ble_eq_true rfl) (Nat.le_of_ble_eq_true rfl) (Nat.le_of_ble_eq_true rfl) (Nat.le_of_ble_eq_true rfl) dX5_sumOf_2 ?_
  refine lv_topi (fun y_1 ey_1 => ?_)
  have ty_1 := xI_max (X := 0) (Y := p1.toInt) rfl rfl ey_1
  refine lv_istore (lv' := [(4, .int y_1), (0, .ref (a 55)), (1, .int p0), (2, .int p1), (3, .int p2)]) hx hb dX5_sumOf_5 hl (by decide) rfl (fun ls hl => ?_)
  refine lv_iload_n hx hb dX5_sumOf_7 rfl (lv_at hl 4 rfl) ?_
  refine lv_iconst (v := 1) hx hb dX5_sumOf_8 (by decide) ?_
  refine lv_iadd hx hb dX5_sumOf_9 ?_
  refine lv_topi (fun y_2 ey_2 => ?_)
  have ty_2 : y_2.toInt = p2.toInt + 1 := xI_add rfl rfl ey_2 (by omega) (by omega)
  refine lv_iload_n hx hb dX5_sumOf_10 rfl (lv_at hl 2 rfl) ?_
  refine va_mmin hx hb (by rw [hml]; exact hl.1.symm) hown (hg (Cond.methodLink RX5 72 Lib.Math.min.name) m1031) (hg (Cond.static Lib.Math.min.name) m636) (hg (Cond.initialized "java/lang/Math") m132) (hg (Cond.code Lib.Math.min.name Lib.Math.min.code 2 (some .int)) m637) (Nat.le_of_ble_eq_true rfl) (Nat.le_of_ble_eq_true rfl) (Nat.le_of_ble_eq_true rfl) (Nat.le_of_ble_eq_true rfl) dX5_sumOf_11 ?_
  refine lv_topi (fun y_3 ey_3 => ?_)
  have ty_3 := xI_min (X := y_2.toInt) (Y := p0.toInt) rfl rfl ey_3
  refine lv_istore (lv' := [(5, .int y_3), (4, .int y_1), (0, .ref (a 55)), (1, .int p0), (2, .int p1), (3, .int p2)]) hx hb dX5_sumOf_14 hl (by decide) rfl (fun ls hl => ?_)
  refine lv_iload hx hb dX5_sumOf_16 (lv_at hl 0 rfl) ?_
  refine lv_iload hx hb dX5_sumOf_18 (lv_at hl 1 rfl) ?_
  refine lv_icmp_gt (tgt := 27) hx hb dX5_sumOf_20 (by decide) (fun c_4 => ?_) (fun c_4 => ?_)
  · have c_4 : y_1.toInt < y_3.toInt := xI_lt rfl rfl c_4
    refine lv_ldc2 (v := 1000000000000000) hx hb hown (hg (Cond.constantLong RX5 50 1000000000000000) m1032) dX5_sumOf_27 ?_
    refine lv_aload_n hx hb dX5_sumOf_30 rfl (lv_at hl 2 rfl) ?_
    refine lv_iload hx hb dX5_sumOf_31 (lv_at hl 0 rfl) ?_
    refine S_lald hx hb hK hW kd_55 (vin (by omega) (by omega)) dX5_sumOf_33 (fun y_5 ey_5 => ?_)
    refine lv_aload_n hx hb dX5_sumOf_34 rfl (lv_at hl 2 rfl) ?_
    refine lv_iload hx hb dX5_sumOf_35 (lv_at hl 1 rfl) ?_
    refine S_lald hx hb hK hW kd_55 (vin (by omega) (by omega)) dX5_sumOf_37 (fun y_6 ey_6 => ?_)
    refine lv_lsub hx hb dX5_sumOf_38 ?_
    refine lv_topl (fun y_7 ey_7 => ?_)
    refine va_mmin_long hx hb (by rw [hml]; exact hl.1.symm) hown (hg (Cond.methodLink RX5 52 Lib.MathLoose.min_long.x) m1033) (hg (Cond.static Lib.MathLoose.min_long.x) m1034) (hg (Cond.initialized "java/lang/Math") m132) (hg (Cond.code Lib.MathLoose.min_long.x Lib.MathLoose.min_long.code 4 (some .long)) m1035) (Nat.le_of_ble_eq_true rfl) (Nat.le_of_ble_eq_true rfl) (Nat.le_of_ble_eq_true rfl) (Nat.le_of_ble_eq_true rfl) dX5_sumOf_39 ?_
    refine lv_topl (fun y_8 ey_8 => ?_)
    exact W.lret (v := y_8) hx hb hr (fun t ht _ => ⟨⟨y_8, G, rfl, ⟨hB_G, hF⟩, wd_t ht hW⟩, hS.F ht⟩) hS.2.2 dX5_sumOf_42
  · have c_4 : y_3.toInt ≤ y_1.toInt := xI_nlt rfl rfl c_4
    refine lv_lconst (v := 0) hx hb dX5_sumOf_23 (by decide) ?_
    refine lv_goto (tgt := 42) hx hb dX5_sumOf_24 (by decide) ?_
    exact W.lret (v := 0) hx hb hr (fun t ht _ => ⟨⟨0, G, rfl, ⟨hB_G, hF⟩, wd_t ht hW⟩, hS.F ht⟩) hS.2.2 dX5_sumOf_42

set_option maxHeartbeats 4000000 in
set_option maxRecDepth 100000 in
theorem k_oNext (l : Launch) (D : va_G) (k : KT) (A : Nat → Prop) (a : Nat → Nat) (z : SK) (G : GS)  (hci : (G.1 7 6).toInt ≤ 399 ∧ (G.1 7 3).toInt ≤ (G.1 7 4).toInt ∧ ((G.1 7 7).toInt ≤ 0 ∨ (G.1 7 7).toInt + (G.1 7 4).toInt ≤ (G.1 7 6).toInt + 1)) : Met l yX5_setNextFeet (WS yX5_setNextFeet cX5_setNextFeet 4 none) ({ frames := 2, cells := 0, slots := 0, locals := 40 }) (va_Pc [.ref (a 29), .ref (a 7)] (cW D k A a z G)) (va_Qv (fun (G1 : GS) => Bd G1 ∧ Fr [52, 53, 54, 55] [] G G1) (fun (G1 : GS) t => Wd D k A a G1 t.heap) A) 0 0 A := by
  refine Met.ofW (cc := cX5_setNextFeet) (maxL := 4) (ret := none) (by decide) rfl ?_
  intro p e s m args below meth c s₁ B hml hv
  obtain ⟨rfl, hW, hB_G, hK, hZ⟩ := hv
  have hx := B.exec
  have hb := B.bytes
  have hr := B.returns
  have hts := atoms_spec (ws := WS yX5_setNextFeet cX5_setNextFeet 4 none) B.pre
  have hgd : ∀ w ∈ gd, w ∈ WS yX5_setNextFeet cX5_setNextFeet 4 none := fun w h => List.mem_cons_of_mem _ h
  have hg : ∀ w ∈ gd, w.before _ s = true := fun w h => hts w (hgd w h)
  have hown : s.vm.findClass RX5 = some m.cls := findClass_of_methodNamed B.named
  have hS : va_S A s.heap s.heap [] := va_S.rf
  have hF : Fr [52, 53, 54, 55] [] G G := Fr.rf
  have hl := lv_entry ([.ref (a 29), .ref (a 7)]) (n := 4) (Nat.le_of_ble_eq_true rfl)
  rw [lg_entry_eq]
  generalize (lg_sl ([.ref (a 29), .ref (a 7)]) ++ List.replicate (4 - (lg_sl ([.ref (a 29), .ref (a 7)])).length) Slot.unset).toArray = ls at hl ⊢
  have hl : lv_has ls 4 [(0, .ref (a 29)), (1, .ref (a 7))] := hl
  have b_1 : (-1) ≤ (G.1 7 6).toInt ∧ (G.1 7 6).toInt ≤ 400 := hB_G.i 7 6 rfl rfl
  refine lv_aload_n hx hb dX5_setNextFeet_0 rfl (lv_at hl 0 rfl) ?_
  refine S_getR (n := 54) (C := RX5) (T := TX5) (N := 7) hx hb hg iX5 hown hK hW kd_29 rfl 2 (by decide) (hg (Cond.fieldLink RX5 18 "SlabWalk$Odds" "sums" "[J") m466) (fun _ h9 => h9) rfl dX5_setNextFeet_1 ?_
  refine lv_iconst (v := 0) hx hb dX5_setNextFeet_4 (by decide) ?_
  refine lv_lconst (v := 0) hx hb dX5_setNextFeet_5 (by decide) ?_
  refine S_last hx hb hK hW hS kd_54 (vin (by decide) (by decide)) dX5_setNextFeet_6 (fun G_2 H locs eG_2 hW hS => ?_)
  have hB_G_2 : Bd G_2 := hB_G.putl eG_2
  have hF := hF.putl eG_2 (Or.inl (by decide))
  refine lv_aload_n hx hb dX5_setNextFeet_7 rfl (lv_at hl 0 rfl) ?_
  refine S_getR (n := 55) (C := RX5) (T := TX5) (N := 7) hx hb hg iX5 hown hK hW kd_29 rfl 3 (by decide) (hg (Cond.fieldLink RX5 21 "SlabWalk$Odds" "steppedSums" "[J") m467) (fun _ h9 => h9) rfl dX5_setNextFeet_8 ?_
  refine lv_iconst (v := 0) hx hb dX5_setNextFeet_11 (by decide) ?_
  refine lv_lconst (v := 0) hx hb dX5_setNextFeet_12 (by decide) ?_
  refine S_last hx hb hK hW hS kd_55 (vin (by decide) (by decide)) dX5_setNextFeet_13 (fun G_3 H locs eG_3 hW hS => ?_)
  have hB_G_3 : Bd G_3 := hB_G_2.putl eG_3
  have hF := hF.putl eG_3 (Or.inl (by decide))
  refine lv_iconst (v := 0) hx hb dX5_setNextFeet_14 (by decide) ?_
  refine lv_istore_n (lv' := [(2, .int 0), (0, .ref (a 29)), (1, .ref (a 7))]) hx hb dX5_setNextFeet_15 rfl hl (by decide) rfl (fun ls hl => ?_)
  have qc_9 : (0 : Int32).toInt = 0 := rfl
  refine loop_N (Inv := fun n H locs ls => ∃ (G_4 : GS) (x_8 : Int32), (n : Int) = 400 - x_8.toInt ∧ (0 ≤ x_8.toInt ∧ x_8.toInt ≤ 400) ∧ Wd D k A a G_4 H ∧ Bd G_4 ∧ Fr [52, 53, 54, 55] [] G G_4 ∧ Fr [52, 53, 54, 55] [] G_3 G_4 ∧ va_S A s.heap H locs ∧ lv_has ls 4 [(2, .int x_8), (0, .ref (a 29)), (1, .ref (a 7))]) (fun n_7 H locs ls ih_6 hI => ?_) (400 - 0 : Int).toNat ⟨G_3, 0, (Int.toNat_of_nonneg (by omega)), ⟨by omega, by omega⟩, hW, hB_G_3, hF, Fr.rf, hS, lv_sub hl [0, 1, 2] rfl⟩
  obtain ⟨G_4, x_8, hn_11, f_10, hW, hB_G_4, hF, hq_5, hS, hl⟩ := hI
  refine lv_iload_n hx hb dX5_setNextFeet_16 rfl (lv_at hl 0 rfl) ?_
  refine lv_aload_n hx hb dX5_setNextFeet_17 rfl (lv_at hl 2 rfl) ?_
  have b_12 : 0 ≤ (G.1 7 7).toInt ∧ (G.1 7 7).toInt ≤ 400 := hB_G.i 7 7 rfl rfl
  refine S_getI (v := (G.1 7 7)) (C := RX0) (T := TX0) (N := 8) hx hb hg iX0 hown hK hW kd_7 rfl 7 (by decide) (hg (Cond.fieldLink RX5 47 "SlabWalk$Course" "end" "I") m392) (fun _ h9 => h9) rfl ((hq_5.i 7 7 (by decide) (by decide)).trans ((congrFun (congrFun (gp_l eG_3).1 7) 7).trans (congrFun (congrFun (gp_l eG_2).1 7) 7))) dX5_setNextFeet_18 ?_
  refine lv_icmp_ge (tgt := 79) hx hb dX5_setNextFeet_21 (by decide) (fun c_13 => ?_) (fun c_13 => ?_)
  · have c_13 : (G.1 7 7).toInt ≤ x_8.toInt := xI_le rfl rfl c_13
    refine lv_iconst (v := 0) hx hb dX5_setNextFeet_79 (by decide) ?_
    refine lv_istore_n (lv' := [(2, .int 0), (0, .ref (a 29)), (1, .ref (a 7))]) hx hb dX5_setNextFeet_80 rfl hl (by decide) rfl (fun ls hl => ?_)
    have qc_19 : (0 : Int32).toInt = 0 := rfl
    refine loop_N (Inv := fun n H locs ls => ∃ (G_14 : GS) (x_18 : Int32), (n : Int) = 400 - x_18.toInt ∧ (0 ≤ x_18.toInt ∧ x_18.toInt ≤ 400) ∧ Wd D k A a G_14 H ∧ Bd G_14 ∧ Fr [52, 53, 54, 55] [] G G_14 ∧ Fr [52, 53] [] G_4 G_14 ∧ va_S A s.heap H locs ∧ lv_has ls 4 [(2, .int x_18), (0, .ref (a 29)), (1, .ref (a 7))]) (fun n_17 H locs ls ih_16 hI => ?_) (400 - 0 : Int).toNat ⟨G_4, 0, (Int.toNat_of_nonneg (by omega)), ⟨by omega, by omega⟩, hW, hB_G_4, hF, Fr.rf, hS, lv_sub hl [0, 1, 2] rfl⟩
    obtain ⟨G_14, x_18, hn_21, f_20, hW, hB_G_14, hF, hq_15, hS, hl⟩ := hI
    refine lv_iload_n hx hb dX5_setNextFeet_81 rfl (lv_at hl 0 rfl) ?_
    refine lv_aload_n hx hb dX5_setNextFeet_82 rfl (lv_at hl 2 rfl) ?_
    refine S_getI (v := (G.1 7 6)) (C := RX0) (T := TX0) (N := 8) hx hb hg iX0 hown hK hW kd_7 rfl 6 (by decide) (hg (Cond.fieldLink RX5 30 "SlabWalk$Course" "last" "I") m389) (fun _ h9 => h9) rfl ((hq_15.i 7 6 (by decide) (by decide)).trans ((hq_5.i 7 6 (by decide) (by decide)).trans ((congrFun (congrFun (gp_l eG_3).1 7) 6).trans ((congrFun (congrFun (gp_l eG_2).1 7) 6).trans (rfl))))) dX5_setNextFeet_83 ?_
    refine lv_icmp_gt (tgt := 178) hx hb dX5_setNextFeet_86 (by decide) (fun c_22 => ?_) (fun c_22 => ?_)
    · have c_22 : (G.1 7 6).toInt < x_18.toInt := xI_lt rfl rfl c_22
      exact W.vret hx hb hr (fun t ht _ => ⟨⟨G_14, rfl, ⟨hB_G_14, hF⟩, wd_t ht hW⟩, hS.F ht⟩) hS.2.2 dX5_setNextFeet_178
    · have c_22 : x_18.toInt ≤ (G.1 7 6).toInt := xI_nlt rfl rfl c_22
      refine lv_aload_n hx hb dX5_setNextFeet_89 rfl (lv_at hl 2 rfl) ?_
      refine S_getR (n := 40) (C := RX0) (T := TX0) (N := 8) hx hb hg iX0 hown hK hW kd_7 rfl 0 (by decide) (hg (Cond.fieldLink RX5 36 "SlabWalk$Course" "lawful" "[Z") m372) (fun _ h9 => h9) rfl dX5_setNextFeet_90 ?_
      refine lv_iload_n hx hb dX5_setNextFeet_93 rfl (lv_at hl 0 rfl) ?_
      refine S_zald hx hb hK hW kd_40 (vin (by omega) (by omega)) dX5_setNextFeet_94 (fun y_23 ey_23 => ?_)
      have ty_23 : 0 ≤ y_23.toInt ∧ y_23.toInt ≤ 1 := hB_G_14.v ey_23 rfl rfl
      refine lv_istore_n (lv' := [(3, .int y_23), (2, .int x_18), (0, .ref (a 29)), (1, .ref (a 7))]) hx hb dX5_setNextFeet_95 rfl hl (by decide) rfl (fun ls hl => ?_)
      refine lv_aload_n hx hb dX5_setNextFeet_96 rfl (lv_at hl 2 rfl) ?_
      refine S_getR (n := 52) (C := RX5) (T := TX5) (N := 7) hx hb hg iX5 hown hK hW kd_29 rfl 0 (by decide) (hg (Cond.fieldLink RX5 11 "SlabWalk$Odds" "stepped" "[J") m464) (fun _ h9 => h9) rfl dX5_setNextFeet_97 ?_
      refine lv_iload_n hx hb dX5_setNextFeet_100 rfl (lv_at hl 1 rfl) ?_
      refine lv_iload_n hx hb dX5_setNextFeet_101 rfl (lv_at hl 0 rfl) ?_
      refine W.cut (σ := Int64) (pcJ := 132) (J := fun y H locs ls => ∃ (G_31 : GS), Wd D k A a G_31 H ∧ Bd G_31 ∧ Fr [52, 53, 54, 55] [] G G_31 ∧ Fr [] [] G_14 G_31 ∧ va_S A s.heap H locs ∧ lv_has ls 4 [(3, .int y_23), (2, .int x_18), (0, .ref (a 29)), (1, .ref (a 7))]) (stJ := fun y => [.long y, .int x_18, .ref (a 52)]) ?_ (fun hJ_32 => ?_)
      · intro y H locs ls hI
        obtain ⟨w_28, hy⟩ : ∃ q, q = y := ⟨_, rfl⟩
        subst hy
        obtain ⟨G_31, hW, hB_G_31, hF, hq_33, hS, hl⟩ := hI
        refine S_last hx hb hK hW hS kd_52 (vin (by omega) (by omega)) dX5_setNextFeet_132 (fun G_34 H locs eG_34 hW hS => ?_)
        have hB_G_34 : Bd G_34 := hB_G_31.putl eG_34
        have hF := hF.putl eG_34 (Or.inl (by decide))
        refine lv_aload_n hx hb dX5_setNextFeet_133 rfl (lv_at hl 2 rfl) ?_
        refine S_getR (n := 53) (C := RX5) (T := TX5) (N := 7) hx hb hg iX5 hown hK hW kd_29 rfl 1 (by decide) (hg (Cond.fieldLink RX5 15 "SlabWalk$Odds" "leapt" "[J") m465) (fun _ h9 => h9) rfl dX5_setNextFeet_134 ?_
        refine lv_iload_n hx hb dX5_setNextFeet_137 rfl (lv_at hl 1 rfl) ?_
        refine lv_iload_n hx hb dX5_setNextFeet_138 rfl (lv_at hl 0 rfl) ?_
        refine lv_if_eq (tgt := 170) hx hb dX5_setNextFeet_139 (by decide) (fun c_35 => ?_) (fun c_35 => ?_)
        · have c_35 : y_23.toInt = 0 := xI_eq rfl rfl c_35
          refine lv_lconst (v := 0) hx hb dX5_setNextFeet_170 (by decide) ?_
          refine S_last hx hb hK hW hS kd_53 (vin (by omega) (by omega)) dX5_setNextFeet_171 (fun G_36 H locs eG_36 hW hS => ?_)
          have hB_G_36 : Bd G_36 := hB_G_34.putl eG_36
          have hF := hF.putl eG_36 (Or.inl (by decide))
          obtain ⟨y_37, ey_37⟩ : ∃ q, q = x_18 + 1 := ⟨_, rfl⟩
          have ty_37 : y_37.toInt = x_18.toInt + 1 := xI_add rfl rfl ey_37 (by omega) (by omega)
          refine lv_iinc (v := y_37) (lv' := [(2, .int y_37), (3, .int y_23), (0, .ref (a 29)), (1, .ref (a 7))]) hx hb dX5_setNextFeet_172 hl (k := 1) rfl (by rw [ey_37]; rfl) (by decide) rfl (fun ls hl => ?_)
          refine lv_goto (tgt := 81) hx hb dX5_setNextFeet_175 (by decide) ?_
          exact ih_16 (400 - y_37.toInt : Int).toNat (by omega) _ _ _ ⟨G_36, y_37, (Int.toNat_of_nonneg (by omega)), ⟨by omega, by omega⟩, hW, hB_G_36, hF, ((((Fr.rf.call hq_15 (by decide) (by decide)).call hq_33 (by decide) (by decide)).putl eG_34 (Or.inl (by decide))).putl eG_36 (Or.inl (by decide))), hS, lv_sub hl [0, 2, 3] rfl⟩
        · have c_35 : y_23.toInt ≠ 0 := xI_ne rfl rfl c_35
          refine lv_aload_n hx hb dX5_setNextFeet_142 rfl (lv_at hl 2 rfl) ?_
          refine S_getR (n := 55) (C := RX5) (T := TX5) (N := 7) hx hb hg iX5 hown hK hW kd_29 rfl 3 (by decide) (hg (Cond.fieldLink RX5 21 "SlabWalk$Odds" "steppedSums" "[J") m467) (fun _ h9 => h9) rfl dX5_setNextFeet_143 ?_
          refine lv_aload_n hx hb dX5_setNextFeet_146 rfl (lv_at hl 3 rfl) ?_
          refine S_getI (v := (G.1 7 7)) (C := RX0) (T := TX0) (N := 8) hx hb hg iX0 hown hK hW kd_7 rfl 7 (by decide) (hg (Cond.fieldLink RX5 47 "SlabWalk$Course" "end" "I") m392) (fun _ h9 => h9) rfl ((congrFun (congrFun (gp_l eG_34).1 7) 7).trans ((hq_33.i 7 7 (by decide) (by decide)).trans ((hq_15.i 7 7 (by decide) (by decide)).trans ((hq_5.i 7 7 (by decide) (by decide)).trans ((congrFun (congrFun (gp_l eG_3).1 7) 7).trans ((congrFun (congrFun (gp_l eG_2).1 7) 7).trans (rfl))))))) dX5_setNextFeet_147 ?_
          refine lv_iload_n hx hb dX5_setNextFeet_150 rfl (lv_at hl 1 rfl) ?_
          refine lv_aload_n hx hb dX5_setNextFeet_151 rfl (lv_at hl 3 rfl) ?_
          have b_38 : 0 ≤ (G.1 7 5).toInt ∧ (G.1 7 5).toInt ≤ 99 := hB_G.i 7 5 rfl rfl
          refine S_getI (v := (G.1 7 5)) (C := RX0) (T := TX0) (N := 8) hx hb hg iX0 hown hK hW kd_7 rfl 5 (by decide) (hg (Cond.fieldLink RX5 65 "SlabWalk$Course" "leap" "I") m387) (fun _ h9 => h9) rfl ((congrFun (congrFun (gp_l eG_34).1 7) 5).trans ((hq_33.i 7 5 (by decide) (by decide)).trans ((hq_15.i 7 5 (by decide) (by decide)).trans ((hq_5.i 7 5 (by decide) (by decide)).trans ((congrFun (congrFun (gp_l eG_3).1 7) 5).trans (congrFun (congrFun (gp_l eG_2).1 7) 5)))))) dX5_setNextFeet_152 ?_
          refine lv_isub hx hb dX5_setNextFeet_155 ?_
          refine lv_topi (fun y_39 ey_39 => ?_)
          have ty_39 : y_39.toInt = x_18.toInt - (G.1 7 5).toInt := xI_sub rfl rfl ey_39 (by omega) (by omega)
          refine lv_iload_n hx hb dX5_setNextFeet_156 rfl (lv_at hl 1 rfl) ?_
          refine lv_aload_n hx hb dX5_setNextFeet_157 rfl (lv_at hl 3 rfl) ?_
          have b_40 : 0 ≤ (G.1 7 4).toInt ∧ (G.1 7 4).toInt ≤ 60 := hB_G.i 7 4 rfl rfl
          refine S_getI (v := (G.1 7 4)) (C := RX0) (T := TX0) (N := 8) hx hb hg iX0 hown hK hW kd_7 rfl 4 (by decide) (hg (Cond.fieldLink RX5 40 "SlabWalk$Course" "most" "I") m381) (fun _ h9 => h9) rfl ((congrFun (congrFun (gp_l eG_34).1 7) 4).trans ((hq_33.i 7 4 (by decide) (by decide)).trans ((hq_15.i 7 4 (by decide) (by decide)).trans ((hq_5.i 7 4 (by decide) (by decide)).trans ((congrFun (congrFun (gp_l eG_3).1 7) 4).trans (congrFun (congrFun (gp_l eG_2).1 7) 4)))))) dX5_setNextFeet_158 ?_
          refine lv_isub hx hb dX5_setNextFeet_161 ?_
          refine lv_topi (fun y_41 ey_41 => ?_)
          have ty_41 : y_41.toInt = x_18.toInt - (G.1 7 4).toInt := xI_sub rfl rfl ey_41 (by omega) (by omega)
          refine lv_iconst (v := 1) hx hb dX5_setNextFeet_162 (by decide) ?_
          refine lv_isub hx hb dX5_setNextFeet_163 ?_
          refine lv_topi (fun y_42 ey_42 => ?_)
          have ty_42 : y_42.toInt = y_41.toInt - 1 := xI_sub rfl rfl ey_42 (by omega) (by omega)
          refine S_calll (va_runS (As := [.ref (a 55), .int (G.1 7 7), .int y_39, .int y_42]) (rest := [.int x_18, .ref (a 53)]) ⟨hx, hb, hml, hown, hts⟩ (k_oSum_55 l D k A a z G_34 (G.1 7 7) y_39 y_42 ⟨by omega, by omega⟩ ⟨by omega, by omega⟩ ⟨by omega, by omega⟩) (va_cwS 4 hts (gd_S hgd m1027 m1028 m126 m1029) rfl rfl rfl (by decide +kernel) ⟨Nat.le_of_ble_eq_true rfl, Nat.le_of_ble_eq_true rfl⟩) (pre_S hW hB_G_34 hK hZ hS) rfl rfl hl.1 rfl (lv_room (Nat.le_of_ble_eq_true rfl)) dX5_setNextFeet_164 ⟨Nat.le_of_ble_eq_true rfl, Nat.le_of_ble_eq_true rfl⟩) hS (fun r_43 G_44 H locs hpo hW hS => ?_)
          obtain ⟨hB_G_44, hq_45⟩ := hpo
          have hF := hF.call hq_45 (by decide) (by decide)
          refine lv_goto (tgt := 171) hx hb dX5_setNextFeet_167 (by decide) ?_
          refine S_last hx hb hK hW hS kd_53 (vin (by omega) (by omega)) dX5_setNextFeet_171 (fun G_47 H locs eG_47 hW hS => ?_)
          have hB_G_47 : Bd G_47 := hB_G_44.putl eG_47
          have hF := hF.putl eG_47 (Or.inl (by decide))
          obtain ⟨y_48, ey_48⟩ : ∃ q, q = x_18 + 1 := ⟨_, rfl⟩
          have ty_48 : y_48.toInt = x_18.toInt + 1 := xI_add rfl rfl ey_48 (by omega) (by omega)
          refine lv_iinc (v := y_48) (lv' := [(2, .int y_48), (3, .int y_23), (0, .ref (a 29)), (1, .ref (a 7))]) hx hb dX5_setNextFeet_172 hl (k := 1) rfl (by rw [ey_48]; rfl) (by decide) rfl (fun ls hl => ?_)
          refine lv_goto (tgt := 81) hx hb dX5_setNextFeet_175 (by decide) ?_
          exact ih_16 (400 - y_48.toInt : Int).toNat (by omega) _ _ _ ⟨G_47, y_48, (Int.toNat_of_nonneg (by omega)), ⟨by omega, by omega⟩, hW, hB_G_47, hF, (((((Fr.rf.call hq_15 (by decide) (by decide)).call hq_33 (by decide) (by decide)).putl eG_34 (Or.inl (by decide))).call hq_45 (by decide) (by decide)).putl eG_47 (Or.inl (by decide))), hS, lv_sub hl [0, 2, 3] rfl⟩
      refine lv_if_eq (tgt := 131) hx hb dX5_setNextFeet_102 (by decide) (fun c_49 => ?_) (fun c_49 => ?_)
      · have c_49 : y_23.toInt = 0 := xI_eq rfl rfl c_49
        refine lv_lconst (v := 0) hx hb dX5_setNextFeet_131 (by decide) ?_
        exact hJ_32 0 _ _ _ ⟨G_14, hW, hB_G_14, hF, Fr.rf, hS, lv_sub hl [0, 1, 2, 3] rfl⟩
      · have c_49 : y_23.toInt ≠ 0 := xI_ne rfl rfl c_49
        refine lv_aload_n hx hb dX5_setNextFeet_105 rfl (lv_at hl 2 rfl) ?_
        refine S_getR (n := 54) (C := RX5) (T := TX5) (N := 7) hx hb hg iX5 hown hK hW kd_29 rfl 2 (by decide) (hg (Cond.fieldLink RX5 18 "SlabWalk$Odds" "sums" "[J") m466) (fun _ h9 => h9) rfl dX5_setNextFeet_106 ?_
        refine lv_aload_n hx hb dX5_setNextFeet_109 rfl (lv_at hl 3 rfl) ?_
        refine S_getI (v := (G.1 7 7)) (C := RX0) (T := TX0) (N := 8) hx hb hg iX0 hown hK hW kd_7 rfl 7 (by decide) (hg (Cond.fieldLink RX5 47 "SlabWalk$Course" "end" "I") m392) (fun _ h9 => h9) rfl ((hq_15.i 7 7 (by decide) (by decide)).trans ((hq_5.i 7 7 (by decide) (by decide)).trans ((congrFun (congrFun (gp_l eG_3).1 7) 7).trans ((congrFun (congrFun (gp_l eG_2).1 7) 7).trans (rfl))))) dX5_setNextFeet_110 ?_
        refine lv_iload_n hx hb dX5_setNextFeet_113 rfl (lv_at hl 1 rfl) ?_
        refine lv_aload_n hx hb dX5_setNextFeet_114 rfl (lv_at hl 3 rfl) ?_
        have b_50 : 0 ≤ (G.1 7 4).toInt ∧ (G.1 7 4).toInt ≤ 60 := hB_G.i 7 4 rfl rfl
        refine S_getI (v := (G.1 7 4)) (C := RX0) (T := TX0) (N := 8) hx hb hg iX0 hown hK hW kd_7 rfl 4 (by decide) (hg (Cond.fieldLink RX5 40 "SlabWalk$Course" "most" "I") m381) (fun _ h9 => h9) rfl ((hq_15.i 7 4 (by decide) (by decide)).trans ((hq_5.i 7 4 (by decide) (by decide)).trans ((congrFun (congrFun (gp_l eG_3).1 7) 4).trans (congrFun (congrFun (gp_l eG_2).1 7) 4)))) dX5_setNextFeet_115 ?_
        refine lv_isub hx hb dX5_setNextFeet_118 ?_
        refine lv_topi (fun y_51 ey_51 => ?_)
        have ty_51 : y_51.toInt = x_18.toInt - (G.1 7 4).toInt := xI_sub rfl rfl ey_51 (by omega) (by omega)
        refine lv_iload_n hx hb dX5_setNextFeet_119 rfl (lv_at hl 1 rfl) ?_
        refine lv_aload_n hx hb dX5_setNextFeet_120 rfl (lv_at hl 3 rfl) ?_
        have b_52 : 0 ≤ (G.1 7 3).toInt ∧ (G.1 7 3).toInt ≤ 60 := hB_G.i 7 3 rfl rfl
        refine S_getI (v := (G.1 7 3)) (C := RX0) (T := TX0) (N := 8) hx hb hg iX0 hown hK hW kd_7 rfl 3 (by decide) (hg (Cond.fieldLink RX5 58 "SlabWalk$Course" "least" "I") m379) (fun _ h9 => h9) rfl ((hq_15.i 7 3 (by decide) (by decide)).trans ((hq_5.i 7 3 (by decide) (by decide)).trans ((congrFun (congrFun (gp_l eG_3).1 7) 3).trans (congrFun (congrFun (gp_l eG_2).1 7) 3)))) dX5_setNextFeet_121 ?_
        refine lv_isub hx hb dX5_setNextFeet_124 ?_
        refine lv_topi (fun y_53 ey_53 => ?_)
        have ty_53 : y_53.toInt = x_18.toInt - (G.1 7 3).toInt := xI_sub rfl rfl ey_53 (by omega) (by omega)
        refine S_calll (va_runS (As := [.ref (a 54), .int (G.1 7 7), .int y_51, .int y_53]) (rest := [.int x_18, .ref (a 52)]) ⟨hx, hb, hml, hown, hts⟩ (k_oSum_54 l D k A a z G_14 (G.1 7 7) y_51 y_53 ⟨by omega, by omega⟩ ⟨by omega, by omega⟩ ⟨by omega, by omega⟩) (va_cwS 4 hts (gd_S hgd m1027 m1028 m126 m1029) rfl rfl rfl (by decide +kernel) ⟨Nat.le_of_ble_eq_true rfl, Nat.le_of_ble_eq_true rfl⟩) (pre_S hW hB_G_14 hK hZ hS) rfl rfl hl.1 rfl (lv_room (Nat.le_of_ble_eq_true rfl)) dX5_setNextFeet_125 ⟨Nat.le_of_ble_eq_true rfl, Nat.le_of_ble_eq_true rfl⟩) hS (fun r_54 G_55 H locs hpo hW hS => ?_)
        obtain ⟨hB_G_55, hq_56⟩ := hpo
        have hF := hF.call hq_56 (by decide) (by decide)
        refine lv_goto (tgt := 132) hx hb dX5_setNextFeet_128 (by decide) ?_
        exact hJ_32 r_54 _ _ _ ⟨G_55, hW, hB_G_55, hF, (Fr.rf.call hq_56 (by decide) (by decide)), hS, lv_sub hl [0, 1, 2, 3] rfl⟩
  · have c_13 : x_8.toInt < (G.1 7 7).toInt := xI_nle rfl rfl c_13
    refine lv_aload_n hx hb dX5_setNextFeet_24 rfl (lv_at hl 1 rfl) ?_
    refine S_getR (n := 54) (C := RX5) (T := TX5) (N := 7) hx hb hg iX5 hown hK hW kd_29 rfl 2 (by decide) (hg (Cond.fieldLink RX5 18 "SlabWalk$Odds" "sums" "[J") m466) (fun _ h9 => h9) rfl dX5_setNextFeet_25 ?_
    refine lv_iload_n hx hb dX5_setNextFeet_28 rfl (lv_at hl 0 rfl) ?_
    refine lv_iconst (v := 1) hx hb dX5_setNextFeet_29 (by decide) ?_
    refine lv_iadd hx hb dX5_setNextFeet_30 ?_
    refine lv_topi (fun y_58 ey_58 => ?_)
    have ty_58 : y_58.toInt = x_8.toInt + 1 := xI_add rfl rfl ey_58 (by omega) (by omega)
    refine lv_aload_n hx hb dX5_setNextFeet_31 rfl (lv_at hl 1 rfl) ?_
    refine S_getR (n := 54) (C := RX5) (T := TX5) (N := 7) hx hb hg iX5 hown hK hW kd_29 rfl 2 (by decide) (hg (Cond.fieldLink RX5 18 "SlabWalk$Odds" "sums" "[J") m466) (fun _ h9 => h9) rfl dX5_setNextFeet_32 ?_
    refine lv_iload_n hx hb dX5_setNextFeet_35 rfl (lv_at hl 0 rfl) ?_
    refine S_lald hx hb hK hW kd_54 (vin (by omega) (by omega)) dX5_setNextFeet_36 (fun y_59 ey_59 => ?_)
    refine lv_aload_n hx hb dX5_setNextFeet_37 rfl (lv_at hl 1 rfl) ?_
    refine S_getR (n := 52) (C := RX5) (T := TX5) (N := 7) hx hb hg iX5 hown hK hW kd_29 rfl 0 (by decide) (hg (Cond.fieldLink RX5 11 "SlabWalk$Odds" "stepped" "[J") m464) (fun _ h9 => h9) rfl dX5_setNextFeet_38 ?_
    refine lv_iload_n hx hb dX5_setNextFeet_41 rfl (lv_at hl 0 rfl) ?_
    refine S_lald hx hb hK hW kd_52 (vin (by omega) (by omega)) dX5_setNextFeet_42 (fun y_60 ey_60 => ?_)
    refine lv_ladd hx hb dX5_setNextFeet_43 ?_
    refine lv_topl (fun y_61 ey_61 => ?_)
    refine lv_aload_n hx hb dX5_setNextFeet_44 rfl (lv_at hl 1 rfl) ?_
    refine S_getR (n := 53) (C := RX5) (T := TX5) (N := 7) hx hb hg iX5 hown hK hW kd_29 rfl 1 (by decide) (hg (Cond.fieldLink RX5 15 "SlabWalk$Odds" "leapt" "[J") m465) (fun _ h9 => h9) rfl dX5_setNextFeet_45 ?_
    refine lv_iload_n hx hb dX5_setNextFeet_48 rfl (lv_at hl 0 rfl) ?_
    refine S_lald hx hb hK hW kd_53 (vin (by omega) (by omega)) dX5_setNextFeet_49 (fun y_62 ey_62 => ?_)
    refine lv_ladd hx hb dX5_setNextFeet_50 ?_
    refine lv_topl (fun y_63 ey_63 => ?_)
    refine S_last hx hb hK hW hS kd_54 (vin (by omega) (by omega)) dX5_setNextFeet_51 (fun G_64 H locs eG_64 hW hS => ?_)
    have hB_G_64 : Bd G_64 := hB_G_4.putl eG_64
    have hF := hF.putl eG_64 (Or.inl (by decide))
    refine lv_aload_n hx hb dX5_setNextFeet_52 rfl (lv_at hl 1 rfl) ?_
    refine S_getR (n := 55) (C := RX5) (T := TX5) (N := 7) hx hb hg iX5 hown hK hW kd_29 rfl 3 (by decide) (hg (Cond.fieldLink RX5 21 "SlabWalk$Odds" "steppedSums" "[J") m467) (fun _ h9 => h9) rfl dX5_setNextFeet_53 ?_
    refine lv_iload_n hx hb dX5_setNextFeet_56 rfl (lv_at hl 0 rfl) ?_
    refine lv_iconst (v := 1) hx hb dX5_setNextFeet_57 (by decide) ?_
    refine lv_iadd hx hb dX5_setNextFeet_58 ?_
    refine lv_topi (fun y_65 ey_65 => ?_)
    have ty_65 : y_65.toInt = x_8.toInt + 1 := xI_add rfl rfl ey_65 (by omega) (by omega)
    refine lv_aload_n hx hb dX5_setNextFeet_59 rfl (lv_at hl 1 rfl) ?_
    refine S_getR (n := 55) (C := RX5) (T := TX5) (N := 7) hx hb hg iX5 hown hK hW kd_29 rfl 3 (by decide) (hg (Cond.fieldLink RX5 21 "SlabWalk$Odds" "steppedSums" "[J") m467) (fun _ h9 => h9) rfl dX5_setNextFeet_60 ?_
    refine lv_iload_n hx hb dX5_setNextFeet_63 rfl (lv_at hl 0 rfl) ?_
    refine S_lald hx hb hK hW kd_55 (vin (by omega) (by omega)) dX5_setNextFeet_64 (fun y_66 ey_66 => ?_)
    refine lv_aload_n hx hb dX5_setNextFeet_65 rfl (lv_at hl 1 rfl) ?_
    refine S_getR (n := 52) (C := RX5) (T := TX5) (N := 7) hx hb hg iX5 hown hK hW kd_29 rfl 0 (by decide) (hg (Cond.fieldLink RX5 11 "SlabWalk$Odds" "stepped" "[J") m464) (fun _ h9 => h9) rfl dX5_setNextFeet_66 ?_
    refine lv_iload_n hx hb dX5_setNextFeet_69 rfl (lv_at hl 0 rfl) ?_
    refine S_lald hx hb hK hW kd_52 (vin (by omega) (by omega)) dX5_setNextFeet_70 (fun y_67 ey_67 => ?_)
    refine lv_ladd hx hb dX5_setNextFeet_71 ?_
    refine lv_topl (fun y_68 ey_68 => ?_)
    refine S_last hx hb hK hW hS kd_55 (vin (by omega) (by omega)) dX5_setNextFeet_72 (fun G_69 H locs eG_69 hW hS => ?_)
    have hB_G_69 : Bd G_69 := hB_G_64.putl eG_69
    have hF := hF.putl eG_69 (Or.inl (by decide))
    obtain ⟨y_70, ey_70⟩ : ∃ q, q = x_8 + 1 := ⟨_, rfl⟩
    have ty_70 : y_70.toInt = x_8.toInt + 1 := xI_add rfl rfl ey_70 (by omega) (by omega)
    refine lv_iinc (v := y_70) (lv' := [(2, .int y_70), (0, .ref (a 29)), (1, .ref (a 7))]) hx hb dX5_setNextFeet_73 hl (k := 0) rfl (by rw [ey_70]; rfl) (by decide) rfl (fun ls hl => ?_)
    refine lv_goto (tgt := 16) hx hb dX5_setNextFeet_76 (by decide) ?_
    exact ih_6 (400 - y_70.toInt : Int).toNat (by omega) _ _ _ ⟨G_69, y_70, (Int.toNat_of_nonneg (by omega)), ⟨by omega, by omega⟩, hW, hB_G_69, hF, (((Fr.rf.call hq_5 (by decide) (by decide)).putl eG_64 (Or.inl (by decide))).putl eG_69 (Or.inl (by decide))), hS, lv_sub hl [0, 1, 2] rfl⟩

set_option maxHeartbeats 4000000 in
set_option maxRecDepth 100000 in
theorem k_oCount (l : Launch) (D : va_G) (k : KT) (A : Nat → Prop) (a : Nat → Nat) (z : SK) (G : GS) (p0 : Int32) (ha_p0 : 1 ≤ p0.toInt ∧ p0.toInt ≤ 60) (hci : (G.1 7 6).toInt ≤ 399 ∧ (G.1 7 3).toInt ≤ (G.1 7 4).toInt ∧ ((G.1 7 7).toInt ≤ 0 ∨ (G.1 7 7).toInt + (G.1 7 4).toInt ≤ (G.1 7 6).toInt + 1)) : Met l yX5_countWays (WS yX5_countWays cX5_countWays 6 (some .long)) ({ frames := 3, cells := 0, slots := 0, locals := 63 }) (va_Pc [.ref (a 29), .ref (a 7), .int p0] (cW D k A a z G)) (va_Ql (fun (r : Int64) (G1 : GS) => Bd G1 ∧ Fr [52, 53, 54, 55] [] G G1) (fun (G1 : GS) t => Wd D k A a G1 t.heap) A) 0 0 A := by
  refine Met.ofW (cc := cX5_countWays) (maxL := 6) (ret := (some .long)) (by decide) rfl ?_
  intro p e s m args below meth c s₁ B hml hv
  obtain ⟨rfl, hW, hB_G, hK, hZ⟩ := hv
  have hx := B.exec
  have hb := B.bytes
  have hr := B.returns
  have hts := atoms_spec (ws := WS yX5_countWays cX5_countWays 6 (some .long)) B.pre
  have hgd : ∀ w ∈ gd, w ∈ WS yX5_countWays cX5_countWays 6 (some .long) := fun w h => List.mem_cons_of_mem _ h
  have hg : ∀ w ∈ gd, w.before _ s = true := fun w h => hts w (hgd w h)
  have hown : s.vm.findClass RX5 = some m.cls := findClass_of_methodNamed B.named
  have hS : va_S A s.heap s.heap [] := va_S.rf
  have hF : Fr [52, 53, 54, 55] [] G G := Fr.rf
  have hl := lv_entry ([.ref (a 29), .ref (a 7), .int p0]) (n := 6) (Nat.le_of_ble_eq_true rfl)
  rw [lg_entry_eq]
  generalize (lg_sl ([.ref (a 29), .ref (a 7), .int p0]) ++ List.replicate (6 - (lg_sl ([.ref (a 29), .ref (a 7), .int p0])).length) Slot.unset).toArray = ls at hl ⊢
  have hl : lv_has ls 6 [(0, .ref (a 29)), (1, .ref (a 7)), (2, .int p0)] := hl
  have b_1 : (-1) ≤ (G.1 7 6).toInt ∧ (G.1 7 6).toInt ≤ 400 := hB_G.i 7 6 rfl rfl
  refine lv_iconst (v := 0) hx hb dX5_countWays_0 (by decide) ?_
  refine lv_istore_n (lv' := [(3, .int 0), (0, .ref (a 29)), (1, .ref (a 7)), (2, .int p0)]) hx hb dX5_countWays_1 rfl hl (by decide) rfl (fun ls hl => ?_)
  have qc_7 : (0 : Int32).toInt = 0 := rfl
  refine loop_N (Inv := fun n H locs ls => ∃ (G_2 : GS) (x_6 : Int32), (n : Int) = 400 - x_6.toInt ∧ (0 ≤ x_6.toInt ∧ x_6.toInt ≤ 400) ∧ Wd D k A a G_2 H ∧ Bd G_2 ∧ Fr [52, 53, 54, 55] [] G G_2 ∧ Fr [52, 53, 54, 55] [] G G_2 ∧ va_S A s.heap H locs ∧ lv_has ls 6 [(3, .int x_6), (0, .ref (a 29)), (1, .ref (a 7)), (2, .int p0)]) (fun n_5 H locs ls ih_4 hI => ?_) (400 - 0 : Int).toNat ⟨G, 0, (Int.toNat_of_nonneg (by omega)), ⟨by omega, by omega⟩, hW, hB_G, hF, Fr.rf, hS, lv_sub hl [0, 1, 2, 3] rfl⟩
  obtain ⟨G_2, x_6, hn_9, f_8, hW, hB_G_2, hF, hq_3, hS, hl⟩ := hI
  refine lv_iload_n hx hb dX5_countWays_2 rfl (lv_at hl 0 rfl) ?_
  refine lv_aload_n hx hb dX5_countWays_3 rfl (lv_at hl 2 rfl) ?_
  refine S_getI (v := (G.1 7 6)) (C := RX0) (T := TX0) (N := 8) hx hb hg iX0 hown hK hW kd_7 rfl 6 (by decide) (hg (Cond.fieldLink RX5 30 "SlabWalk$Course" "last" "I") m389) (fun _ h9 => h9) rfl ((hq_3.i 7 6 (by decide) (by decide)).trans (rfl)) dX5_countWays_4 ?_
  refine lv_icmp_gt (tgt := 51) hx hb dX5_countWays_7 (by decide) (fun c_10 => ?_) (fun c_10 => ?_)
  · have c_10 : (G.1 7 6).toInt < x_6.toInt := xI_lt rfl rfl c_10
    refine lv_iconst (v := 1) hx hb dX5_countWays_51 (by decide) ?_
    refine lv_istore_n (lv' := [(3, .int 1), (0, .ref (a 29)), (1, .ref (a 7)), (2, .int p0)]) hx hb dX5_countWays_52 rfl hl (by decide) rfl (fun ls hl => ?_)
    have qc_16 : (1 : Int32).toInt = 1 := rfl
    refine loop_N (Inv := fun n H locs ls => ∃ (G_11 : GS) (x_15 : Int32), (n : Int) = 60 - x_15.toInt ∧ (1 ≤ x_15.toInt ∧ x_15.toInt ≤ 60) ∧ Wd D k A a G_11 H ∧ Bd G_11 ∧ Fr [52, 53, 54, 55] [] G G_11 ∧ Fr [52, 53, 54, 55] [] G_2 G_11 ∧ va_S A s.heap H locs ∧ lv_has ls 6 [(3, .int x_15), (0, .ref (a 29)), (1, .ref (a 7)), (2, .int p0)]) (fun n_14 H locs ls ih_13 hI => ?_) (60 - 1 : Int).toNat ⟨G_2, 1, (Int.toNat_of_nonneg (by omega)), ⟨by omega, by omega⟩, hW, hB_G_2, hF, Fr.rf, hS, lv_sub hl [0, 1, 2, 3] rfl⟩
    obtain ⟨G_11, x_15, hn_18, f_17, hW, hB_G_11, hF, hq_12, hS, hl⟩ := hI
    refine lv_iload_n hx hb dX5_countWays_53 rfl (lv_at hl 0 rfl) ?_
    refine lv_iload_n hx hb dX5_countWays_54 rfl (lv_at hl 3 rfl) ?_
    refine lv_icmp_ge (tgt := 69) hx hb dX5_countWays_55 (by decide) (fun c_19 => ?_) (fun c_19 => ?_)
    · have c_19 : p0.toInt ≤ x_15.toInt := xI_le rfl rfl c_19
      refine lv_lconst (v := 0) hx hb dX5_countWays_69 (by decide) ?_
      refine lv_lstore_n (lv' := [(3, .long 0), (0, .ref (a 29)), (1, .ref (a 7)), (2, .int p0)]) hx hb dX5_countWays_70 rfl hl (by decide) rfl (fun ls hl => ?_)
      refine lv_aload_n hx hb dX5_countWays_71 rfl (lv_at hl 2 rfl) ?_
      have b_20 : 0 ≤ (G.1 7 7).toInt ∧ (G.1 7 7).toInt ≤ 400 := hB_G.i 7 7 rfl rfl
      refine S_getI (v := (G.1 7 7)) (C := RX0) (T := TX0) (N := 8) hx hb hg iX0 hown hK hW kd_7 rfl 7 (by decide) (hg (Cond.fieldLink RX5 47 "SlabWalk$Course" "end" "I") m392) (fun _ h9 => h9) rfl ((hq_12.i 7 7 (by decide) (by decide)).trans (hq_3.i 7 7 (by decide) (by decide))) dX5_countWays_72 ?_
      refine lv_istore (lv' := [(5, .int (G.1 7 7)), (3, .long 0), (0, .ref (a 29)), (1, .ref (a 7)), (2, .int p0)]) hx hb dX5_countWays_75 hl (by decide) rfl (fun ls hl => ?_)
      refine loop_N (Inv := fun n H locs ls => ∃ (G_21 : GS) (x_25 : Int32) (x_26 : Int64), (n : Int) = 400 - x_25.toInt ∧ (0 ≤ x_25.toInt ∧ x_25.toInt ≤ 400) ∧ Wd D k A a G_21 H ∧ Bd G_21 ∧ Fr [52, 53, 54, 55] [] G G_21 ∧ Fr [] [] G_11 G_21 ∧ va_S A s.heap H locs ∧ lv_has ls 6 [(5, .int x_25), (3, .long x_26), (0, .ref (a 29)), (1, .ref (a 7))]) (fun n_24 H locs ls ih_23 hI => ?_) (400 - (G.1 7 7).toInt : Int).toNat ⟨G_11, (G.1 7 7), 0, (Int.toNat_of_nonneg (by omega)), ⟨by omega, by omega⟩, hW, hB_G_11, hF, Fr.rf, hS, lv_sub hl [0, 1, 2, 3] rfl⟩
      obtain ⟨G_21, x_25, x_26, hn_28, f_27, hW, hB_G_21, hF, hq_22, hS, hl⟩ := hI
      refine lv_iload hx hb dX5_countWays_77 (lv_at hl 0 rfl) ?_
      refine lv_aload_n hx hb dX5_countWays_79 rfl (lv_at hl 3 rfl) ?_
      refine S_getI (v := (G.1 7 6)) (C := RX0) (T := TX0) (N := 8) hx hb hg iX0 hown hK hW kd_7 rfl 6 (by decide) (hg (Cond.fieldLink RX5 30 "SlabWalk$Course" "last" "I") m389) (fun _ h9 => h9) rfl ((hq_22.i 7 6 (by decide) (by decide)).trans ((hq_12.i 7 6 (by decide) (by decide)).trans ((hq_3.i 7 6 (by decide) (by decide)).trans (rfl)))) dX5_countWays_80 ?_
      refine lv_icmp_gt (tgt := 116) hx hb dX5_countWays_83 (by decide) (fun c_29 => ?_) (fun c_29 => ?_)
      · have c_29 : (G.1 7 6).toInt < x_25.toInt := xI_lt rfl rfl c_29
        refine lv_lload_n hx hb dX5_countWays_116 rfl (lv_at hl 1 rfl) ?_
        exact W.lret (v := x_26) hx hb hr (fun t ht _ => ⟨⟨x_26, G_21, rfl, ⟨hB_G_21, hF⟩, wd_t ht hW⟩, hS.F ht⟩) hS.2.2 dX5_countWays_117
      · have c_29 : x_25.toInt ≤ (G.1 7 6).toInt := xI_nlt rfl rfl c_29
        refine lv_ldc2 (v := 1000000000000000) hx hb hown (hg (Cond.constantLong RX5 50 1000000000000000) m1032) dX5_countWays_86 ?_
        refine lv_lload_n hx hb dX5_countWays_89 rfl (lv_at hl 1 rfl) ?_
        refine lv_aload_n hx hb dX5_countWays_90 rfl (lv_at hl 2 rfl) ?_
        refine S_getR (n := 52) (C := RX5) (T := TX5) (N := 7) hx hb hg iX5 hown hK hW kd_29 rfl 0 (by decide) (hg (Cond.fieldLink RX5 11 "SlabWalk$Odds" "stepped" "[J") m464) (fun _ h9 => h9) rfl dX5_countWays_91 ?_
        refine lv_iload hx hb dX5_countWays_94 (lv_at hl 0 rfl) ?_
        refine S_lald hx hb hK hW kd_52 (vin (by omega) (by omega)) dX5_countWays_96 (fun y_30 ey_30 => ?_)
        refine lv_ladd hx hb dX5_countWays_97 ?_
        refine lv_topl (fun y_31 ey_31 => ?_)
        refine lv_aload_n hx hb dX5_countWays_98 rfl (lv_at hl 2 rfl) ?_
        refine S_getR (n := 53) (C := RX5) (T := TX5) (N := 7) hx hb hg iX5 hown hK hW kd_29 rfl 1 (by decide) (hg (Cond.fieldLink RX5 15 "SlabWalk$Odds" "leapt" "[J") m465) (fun _ h9 => h9) rfl dX5_countWays_99 ?_
        refine lv_iload hx hb dX5_countWays_102 (lv_at hl 0 rfl) ?_
        refine S_lald hx hb hK hW kd_53 (vin (by omega) (by omega)) dX5_countWays_104 (fun y_32 ey_32 => ?_)
        refine lv_ladd hx hb dX5_countWays_105 ?_
        refine lv_topl (fun y_33 ey_33 => ?_)
        refine va_mmin_long hx hb (by rw [hml]; exact hl.1.symm) hown (hg (Cond.methodLink RX5 52 Lib.MathLoose.min_long.x) m1033) (hg (Cond.static Lib.MathLoose.min_long.x) m1034) (hg (Cond.initialized "java/lang/Math") m132) (hg (Cond.code Lib.MathLoose.min_long.x Lib.MathLoose.min_long.code 4 (some .long)) m1035) (Nat.le_of_ble_eq_true rfl) (Nat.le_of_ble_eq_true rfl) (Nat.le_of_ble_eq_true rfl) (Nat.le_of_ble_eq_true rfl) dX5_countWays_106 ?_
        refine lv_topl (fun y_34 ey_34 => ?_)
        refine lv_lstore_n (lv' := [(3, .long y_34), (5, .int x_25), (0, .ref (a 29)), (1, .ref (a 7))]) hx hb dX5_countWays_109 rfl hl (by decide) rfl (fun ls hl => ?_)
        obtain ⟨y_35, ey_35⟩ : ∃ q, q = x_25 + 1 := ⟨_, rfl⟩
        have ty_35 : y_35.toInt = x_25.toInt + 1 := xI_add rfl rfl ey_35 (by omega) (by omega)
        refine lv_iinc (v := y_35) (lv' := [(5, .int y_35), (3, .long y_34), (0, .ref (a 29)), (1, .ref (a 7))]) hx hb dX5_countWays_110 hl (k := 1) rfl (by rw [ey_35]; rfl) (by decide) rfl (fun ls hl => ?_)
        refine lv_goto (tgt := 77) hx hb dX5_countWays_113 (by decide) ?_
        exact ih_23 (400 - y_35.toInt : Int).toNat (by omega) _ _ _ ⟨G_21, y_35, y_34, (Int.toNat_of_nonneg (by omega)), ⟨by omega, by omega⟩, hW, hB_G_21, hF, (Fr.rf.call hq_22 (by decide) (by decide)), hS, lv_sub hl [0, 1, 2, 3] rfl⟩
    · have c_19 : x_15.toInt < p0.toInt := xI_nle rfl rfl c_19
      refine lv_aload_n hx hb dX5_countWays_58 rfl (lv_at hl 1 rfl) ?_
      refine lv_aload_n hx hb dX5_countWays_59 rfl (lv_at hl 2 rfl) ?_
      have b_36 : 0 ≤ (G.1 7 3).toInt ∧ (G.1 7 3).toInt ≤ 60 := hB_G.i 7 3 rfl rfl
      have g_37 : (G_11.1 7 3).toInt = (G.1 7 3).toInt := by rw [show G_11.1 7 3 = (G.1 7 3) from ((hq_12.i 7 3 (by decide) (by decide)).trans (hq_3.i 7 3 (by decide) (by decide)))]
      have b_38 : 0 ≤ (G.1 7 4).toInt ∧ (G.1 7 4).toInt ≤ 60 := hB_G.i 7 4 rfl rfl
      have g_39 : (G_11.1 7 4).toInt = (G.1 7 4).toInt := by rw [show G_11.1 7 4 = (G.1 7 4) from ((hq_12.i 7 4 (by decide) (by decide)).trans (hq_3.i 7 4 (by decide) (by decide)))]
      have g_40 : (G_11.1 7 6).toInt = (G.1 7 6).toInt := by rw [show G_11.1 7 6 = (G.1 7 6) from ((hq_12.i 7 6 (by decide) (by decide)).trans ((hq_3.i 7 6 (by decide) (by decide)).trans (rfl)))]
      have b_41 : 0 ≤ (G.1 7 7).toInt ∧ (G.1 7 7).toInt ≤ 400 := hB_G.i 7 7 rfl rfl
      have g_42 : (G_11.1 7 7).toInt = (G.1 7 7).toInt := by rw [show G_11.1 7 7 = (G.1 7 7) from ((hq_12.i 7 7 (by decide) (by decide)).trans (hq_3.i 7 7 (by decide) (by decide)))]
      refine S_callv (va_runV (As := [.ref (a 7)]) (rest := []) ⟨hx, hb, hml, hown, hts⟩ (k_oNext l D k A a z G_11  (by omega)) (cwV 1 hts (gd_V hgd m1023 m1025 m34 m126 m1026) rfl rfl rfl (by decide +kernel) ⟨Nat.le_of_ble_eq_true rfl, Nat.le_of_ble_eq_true rfl⟩) (pre_V hW hB_G_11 hK hZ hS kd_29 rfl) rfl rfl hl.1 rfl (lv_room (Nat.le_of_ble_eq_true rfl)) dX5_countWays_60 ⟨Nat.le_of_ble_eq_true rfl, Nat.le_of_ble_eq_true rfl⟩) hS (fun G_44 H locs hpo hW hS => ?_)
      obtain ⟨hB_G_44, hq_45⟩ := hpo
      have hF := hF.call hq_45 (by decide) (by decide)
      obtain ⟨y_47, ey_47⟩ : ∃ q, q = x_15 + 1 := ⟨_, rfl⟩
      have ty_47 : y_47.toInt = x_15.toInt + 1 := xI_add rfl rfl ey_47 (by omega) (by omega)
      refine lv_iinc (v := y_47) (lv' := [(3, .int y_47), (0, .ref (a 29)), (1, .ref (a 7)), (2, .int p0)]) hx hb dX5_countWays_63 hl (k := 0) rfl (by rw [ey_47]; rfl) (by decide) rfl (fun ls hl => ?_)
      refine lv_goto (tgt := 53) hx hb dX5_countWays_66 (by decide) ?_
      exact ih_13 (60 - y_47.toInt : Int).toNat (by omega) _ _ _ ⟨G_44, y_47, (Int.toNat_of_nonneg (by omega)), ⟨by omega, by omega⟩, hW, hB_G_44, hF, ((Fr.rf.call hq_12 (by decide) (by decide)).call hq_45 (by decide) (by decide)), hS, lv_sub hl [0, 1, 2, 3] rfl⟩
  · have c_10 : x_6.toInt ≤ (G.1 7 6).toInt := xI_nlt rfl rfl c_10
    refine lv_aload_n hx hb dX5_countWays_10 rfl (lv_at hl 1 rfl) ?_
    refine S_getR (n := 52) (C := RX5) (T := TX5) (N := 7) hx hb hg iX5 hown hK hW kd_29 rfl 0 (by decide) (hg (Cond.fieldLink RX5 11 "SlabWalk$Odds" "stepped" "[J") m464) (fun _ h9 => h9) rfl dX5_countWays_11 ?_
    refine lv_iload_n hx hb dX5_countWays_14 rfl (lv_at hl 0 rfl) ?_
    refine lv_aload_n hx hb dX5_countWays_15 rfl (lv_at hl 2 rfl) ?_
    refine S_getR (n := 40) (C := RX0) (T := TX0) (N := 8) hx hb hg iX0 hown hK hW kd_7 rfl 0 (by decide) (hg (Cond.fieldLink RX5 36 "SlabWalk$Course" "lawful" "[Z") m372) (fun _ h9 => h9) rfl dX5_countWays_16 ?_
    refine lv_iload_n hx hb dX5_countWays_19 rfl (lv_at hl 0 rfl) ?_
    refine S_zald hx hb hK hW kd_40 (vin (by omega) (by omega)) dX5_countWays_20 (fun y_48 ey_48 => ?_)
    have ty_48 : 0 ≤ y_48.toInt ∧ y_48.toInt ≤ 1 := hB_G_2.v ey_48 rfl rfl
    refine lv_if_eq (tgt := 36) hx hb dX5_countWays_21 (by decide) (fun c_49 => ?_) (fun c_49 => ?_)
    · have c_49 : y_48.toInt = 0 := xI_eq rfl rfl c_49
      refine lv_lconst (v := 0) hx hb dX5_countWays_36 (by decide) ?_
      refine S_last hx hb hK hW hS kd_52 (vin (by omega) (by omega)) dX5_countWays_37 (fun G_50 H locs eG_50 hW hS => ?_)
      have hB_G_50 : Bd G_50 := hB_G_2.putl eG_50
      have hF := hF.putl eG_50 (Or.inl (by decide))
      refine lv_aload_n hx hb dX5_countWays_38 rfl (lv_at hl 1 rfl) ?_
      refine S_getR (n := 53) (C := RX5) (T := TX5) (N := 7) hx hb hg iX5 hown hK hW kd_29 rfl 1 (by decide) (hg (Cond.fieldLink RX5 15 "SlabWalk$Odds" "leapt" "[J") m465) (fun _ h9 => h9) rfl dX5_countWays_39 ?_
      refine lv_iload_n hx hb dX5_countWays_42 rfl (lv_at hl 0 rfl) ?_
      refine lv_lconst (v := 0) hx hb dX5_countWays_43 (by decide) ?_
      refine S_last hx hb hK hW hS kd_53 (vin (by omega) (by omega)) dX5_countWays_44 (fun G_51 H locs eG_51 hW hS => ?_)
      have hB_G_51 : Bd G_51 := hB_G_50.putl eG_51
      have hF := hF.putl eG_51 (Or.inl (by decide))
      obtain ⟨y_52, ey_52⟩ : ∃ q, q = x_6 + 1 := ⟨_, rfl⟩
      have ty_52 : y_52.toInt = x_6.toInt + 1 := xI_add rfl rfl ey_52 (by omega) (by omega)
      refine lv_iinc (v := y_52) (lv' := [(3, .int y_52), (0, .ref (a 29)), (1, .ref (a 7)), (2, .int p0)]) hx hb dX5_countWays_45 hl (k := 0) rfl (by rw [ey_52]; rfl) (by decide) rfl (fun ls hl => ?_)
      refine lv_goto (tgt := 2) hx hb dX5_countWays_48 (by decide) ?_
      exact ih_4 (400 - y_52.toInt : Int).toNat (by omega) _ _ _ ⟨G_51, y_52, (Int.toNat_of_nonneg (by omega)), ⟨by omega, by omega⟩, hW, hB_G_51, hF, (((Fr.rf.call hq_3 (by decide) (by decide)).putl eG_50 (Or.inl (by decide))).putl eG_51 (Or.inl (by decide))), hS, lv_sub hl [0, 1, 2, 3] rfl⟩
    · have c_49 : y_48.toInt ≠ 0 := xI_ne rfl rfl c_49
      refine lv_iload_n hx hb dX5_countWays_24 rfl (lv_at hl 0 rfl) ?_
      refine lv_aload_n hx hb dX5_countWays_25 rfl (lv_at hl 2 rfl) ?_
      have b_53 : 0 ≤ (G.1 7 4).toInt ∧ (G.1 7 4).toInt ≤ 60 := hB_G.i 7 4 rfl rfl
      refine S_getI (v := (G.1 7 4)) (C := RX0) (T := TX0) (N := 8) hx hb hg iX0 hown hK hW kd_7 rfl 4 (by decide) (hg (Cond.fieldLink RX5 40 "SlabWalk$Course" "most" "I") m381) (fun _ h9 => h9) rfl (hq_3.i 7 4 (by decide) (by decide)) dX5_countWays_26 ?_
      refine lv_icmp_ge (tgt := 36) hx hb dX5_countWays_29 (by decide) (fun c_54 => ?_) (fun c_54 => ?_)
      · have c_54 : (G.1 7 4).toInt ≤ x_6.toInt := xI_le rfl rfl c_54
        refine lv_lconst (v := 0) hx hb dX5_countWays_36 (by decide) ?_
        refine S_last hx hb hK hW hS kd_52 (vin (by omega) (by omega)) dX5_countWays_37 (fun G_55 H locs eG_55 hW hS => ?_)
        have hB_G_55 : Bd G_55 := hB_G_2.putl eG_55
        have hF := hF.putl eG_55 (Or.inl (by decide))
        refine lv_aload_n hx hb dX5_countWays_38 rfl (lv_at hl 1 rfl) ?_
        refine S_getR (n := 53) (C := RX5) (T := TX5) (N := 7) hx hb hg iX5 hown hK hW kd_29 rfl 1 (by decide) (hg (Cond.fieldLink RX5 15 "SlabWalk$Odds" "leapt" "[J") m465) (fun _ h9 => h9) rfl dX5_countWays_39 ?_
        refine lv_iload_n hx hb dX5_countWays_42 rfl (lv_at hl 0 rfl) ?_
        refine lv_lconst (v := 0) hx hb dX5_countWays_43 (by decide) ?_
        refine S_last hx hb hK hW hS kd_53 (vin (by omega) (by omega)) dX5_countWays_44 (fun G_56 H locs eG_56 hW hS => ?_)
        have hB_G_56 : Bd G_56 := hB_G_55.putl eG_56
        have hF := hF.putl eG_56 (Or.inl (by decide))
        obtain ⟨y_57, ey_57⟩ : ∃ q, q = x_6 + 1 := ⟨_, rfl⟩
        have ty_57 : y_57.toInt = x_6.toInt + 1 := xI_add rfl rfl ey_57 (by omega) (by omega)
        refine lv_iinc (v := y_57) (lv' := [(3, .int y_57), (0, .ref (a 29)), (1, .ref (a 7)), (2, .int p0)]) hx hb dX5_countWays_45 hl (k := 0) rfl (by rw [ey_57]; rfl) (by decide) rfl (fun ls hl => ?_)
        refine lv_goto (tgt := 2) hx hb dX5_countWays_48 (by decide) ?_
        exact ih_4 (400 - y_57.toInt : Int).toNat (by omega) _ _ _ ⟨G_56, y_57, (Int.toNat_of_nonneg (by omega)), ⟨by omega, by omega⟩, hW, hB_G_56, hF, (((Fr.rf.call hq_3 (by decide) (by decide)).putl eG_55 (Or.inl (by decide))).putl eG_56 (Or.inl (by decide))), hS, lv_sub hl [0, 1, 2, 3] rfl⟩
      · have c_54 : x_6.toInt < (G.1 7 4).toInt := xI_nle rfl rfl c_54
        refine lv_lconst (v := 1) hx hb dX5_countWays_32 (by decide) ?_
        refine lv_goto (tgt := 37) hx hb dX5_countWays_33 (by decide) ?_
        refine S_last hx hb hK hW hS kd_52 (vin (by omega) (by omega)) dX5_countWays_37 (fun G_58 H locs eG_58 hW hS => ?_)
        have hB_G_58 : Bd G_58 := hB_G_2.putl eG_58
        have hF := hF.putl eG_58 (Or.inl (by decide))
        refine lv_aload_n hx hb dX5_countWays_38 rfl (lv_at hl 1 rfl) ?_
        refine S_getR (n := 53) (C := RX5) (T := TX5) (N := 7) hx hb hg iX5 hown hK hW kd_29 rfl 1 (by decide) (hg (Cond.fieldLink RX5 15 "SlabWalk$Odds" "leapt" "[J") m465) (fun _ h9 => h9) rfl dX5_countWays_39 ?_
        refine lv_iload_n hx hb dX5_countWays_42 rfl (lv_at hl 0 rfl) ?_
        refine lv_lconst (v := 0) hx hb dX5_countWays_43 (by decide) ?_
        refine S_last hx hb hK hW hS kd_53 (vin (by omega) (by omega)) dX5_countWays_44 (fun G_59 H locs eG_59 hW hS => ?_)
        have hB_G_59 : Bd G_59 := hB_G_58.putl eG_59
        have hF := hF.putl eG_59 (Or.inl (by decide))
        obtain ⟨y_60, ey_60⟩ : ∃ q, q = x_6 + 1 := ⟨_, rfl⟩
        have ty_60 : y_60.toInt = x_6.toInt + 1 := xI_add rfl rfl ey_60 (by omega) (by omega)
        refine lv_iinc (v := y_60) (lv' := [(3, .int y_60), (0, .ref (a 29)), (1, .ref (a 7)), (2, .int p0)]) hx hb dX5_countWays_45 hl (k := 0) rfl (by rw [ey_60]; rfl) (by decide) rfl (fun ls hl => ?_)
        refine lv_goto (tgt := 2) hx hb dX5_countWays_48 (by decide) ?_
        exact ih_4 (400 - y_60.toInt : Int).toNat (by omega) _ _ _ ⟨G_59, y_60, (Int.toNat_of_nonneg (by omega)), ⟨by omega, by omega⟩, hW, hB_G_59, hF, (((Fr.rf.call hq_3 (by decide) (by decide)).putl eG_58 (Or.inl (by decide))).putl eG_59 (Or.inl (by decide))), hS, lv_sub hl [0, 1, 2, 3] rfl⟩

set_option maxHeartbeats 4000000 in
set_option maxRecDepth 100000 in
theorem k_oAim (l : Launch) (D : va_G) (k : KT) (A : Nat → Prop) (a : Nat → Nat) (z : SK) (G : GS) (p0 : Int32) (p1 : Int32) (ha_p0 : 0 ≤ p0.toInt ∧ p0.toInt ≤ 400) (ha_p1 : 0 ≤ p1.toInt ∧ p1.toInt ≤ 60) (hci : (G.1 7 6).toInt ≤ 399 ∧ (G.1 7 3).toInt ≤ (G.1 7 4).toInt ∧ ((G.1 7 7).toInt ≤ 0 ∨ (G.1 7 7).toInt + (G.1 7 4).toInt ≤ (G.1 7 6).toInt + 1)) : Met l yX5_aimFrom (WS yX5_aimFrom cX5_aimFrom 4 (some .long)) ({ frames := 1, cells := 0, slots := 0, locals := 14 }) (va_Pc [.ref (a 29), .ref (a 7), .int p0, .int p1] (cW D k A a z G)) (va_Ql (fun (r : Int64) (G1 : GS) => Bd G1 ∧ Fr [] [] G G1) (fun (G1 : GS) t => Wd D k A a G1 t.heap) A) 0 0 A := by
  refine Met.ofW (cc := cX5_aimFrom) (maxL := 4) (ret := (some .long)) (by decide) rfl ?_
  intro p e s m args below meth c s₁ B hml hv
  obtain ⟨rfl, hW, hB_G, hK, hZ⟩ := hv
  have hx := B.exec
  have hb := B.bytes
  have hr := B.returns
  have hts := atoms_spec (ws := WS yX5_aimFrom cX5_aimFrom 4 (some .long)) B.pre
  have hgd : ∀ w ∈ gd, w ∈ WS yX5_aimFrom cX5_aimFrom 4 (some .long) := fun w h => List.mem_cons_of_mem _ h
  have hg : ∀ w ∈ gd, w.before _ s = true := fun w h => hts w (hgd w h)
  have hown : s.vm.findClass RX5 = some m.cls := findClass_of_methodNamed B.named
  have hS : va_S A s.heap s.heap [] := va_S.rf
  have hF : Fr [] [] G G := Fr.rf
  have hl := lv_entry ([.ref (a 29), .ref (a 7), .int p0, .int p1]) (n := 4) (Nat.le_of_ble_eq_true rfl)
  rw [lg_entry_eq]
  generalize (lg_sl ([.ref (a 29), .ref (a 7), .int p0, .int p1]) ++ List.replicate (4 - (lg_sl ([.ref (a 29), .ref (a 7), .int p0, .int p1])).length) Slot.unset).toArray = ls at hl ⊢
  have hl : lv_has ls 4 [(0, .ref (a 29)), (1, .ref (a 7)), (2, .int p0), (3, .int p1)] := hl
  have b_1 : (-1) ≤ (G.1 7 6).toInt ∧ (G.1 7 6).toInt ≤ 400 := hB_G.i 7 6 rfl rfl
  refine lv_aload_n hx hb dX5_aimFrom_0 rfl (lv_at hl 0 rfl) ?_
  refine S_getR (n := 57) (C := RX5) (T := TX5) (N := 7) hx hb hg iX5 hown hK hW kd_29 rfl 5 (by decide) (hg (Cond.fieldLink RX5 27 "SlabWalk$Odds" "aims" "[J") m469) (fun _ h9 => h9) rfl dX5_aimFrom_1 ?_
  refine lv_iload_n hx hb dX5_aimFrom_4 rfl (lv_at hl 2 rfl) ?_
  refine lv_iload_n hx hb dX5_aimFrom_5 rfl (lv_at hl 3 rfl) ?_
  refine lv_iadd hx hb dX5_aimFrom_6 ?_
  refine lv_topi (fun y_2 ey_2 => ?_)
  have ty_2 : y_2.toInt = p0.toInt + p1.toInt := xI_add rfl rfl ey_2 (by omega) (by omega)
  refine lv_aload_n hx hb dX5_aimFrom_7 rfl (lv_at hl 1 rfl) ?_
  refine S_getI (v := (G.1 7 6)) (C := RX0) (T := TX0) (N := 8) hx hb hg iX0 hown hK hW kd_7 rfl 6 (by decide) (hg (Cond.fieldLink RX5 30 "SlabWalk$Course" "last" "I") m389) (fun _ h9 => h9) rfl rfl dX5_aimFrom_8 ?_
  refine lv_iconst (v := 2) hx hb dX5_aimFrom_11 (by decide) ?_
  refine lv_iadd hx hb dX5_aimFrom_12 ?_
  refine lv_topi (fun y_3 ey_3 => ?_)
  have ty_3 : y_3.toInt = (G.1 7 6).toInt + 2 := xI_add rfl rfl ey_3 (by omega) (by omega)
  refine va_mmin hx hb (by rw [hml]; exact hl.1.symm) hown (hg (Cond.methodLink RX5 72 Lib.Math.min.name) m1031) (hg (Cond.static Lib.Math.min.name) m636) (hg (Cond.initialized "java/lang/Math") m132) (hg (Cond.code Lib.Math.min.name Lib.Math.min.code 2 (some .int)) m637) (Nat.le_of_ble_eq_true rfl) (Nat.le_of_ble_eq_true rfl) (Nat.le_of_ble_eq_true rfl) (Nat.le_of_ble_eq_true rfl) dX5_aimFrom_13 ?_
  refine lv_topi (fun y_4 ey_4 => ?_)
  have ty_4 := xI_min (X := y_2.toInt) (Y := y_3.toInt) rfl rfl ey_4
  refine S_lald hx hb hK hW kd_57 (vin (by omega) (by omega)) dX5_aimFrom_16 (fun y_5 ey_5 => ?_)
  exact W.lret (v := y_5) hx hb hr (fun t ht _ => ⟨⟨y_5, G, rfl, ⟨hB_G, hF⟩, wd_t ht hW⟩, hS.F ht⟩) hS.2.2 dX5_aimFrom_17

set_option maxHeartbeats 4000000 in
set_option maxRecDepth 100000 in
theorem k_oBest (l : Launch) (D : va_G) (k : KT) (A : Nat → Prop) (a : Nat → Nat) (z : SK) (G : GS) (p0 : Int32) (ha_p0 : 0 ≤ p0.toInt ∧ p0.toInt ≤ 400) (hci : (G.1 7 6).toInt ≤ 399 ∧ (G.1 7 3).toInt ≤ (G.1 7 4).toInt ∧ ((G.1 7 7).toInt ≤ 0 ∨ (G.1 7 7).toInt + (G.1 7 4).toInt ≤ (G.1 7 6).toInt + 1)) : Met l yX5_bestStep (WS yX5_bestStep cX5_bestStep 7 (some .int)) ({ frames := 2, cells := 0, slots := 0, locals := 37 }) (va_Pc [.ref (a 29), .ref (a 7), .int p0] (cW D k A a z G)) (va_Qi (fun (r : Int32) (G1 : GS) => Bd G1 ∧ Fr [] [] G G1 ∧ (0 ≤ r.toInt ∧ r.toInt ≤ 60)) (fun (G1 : GS) t => Wd D k A a G1 t.heap) A) 0 0 A := by
  refine Met.ofW (cc := cX5_bestStep) (maxL := 7) (ret := (some .int)) (by decide) rfl ?_
  intro p e s m args below meth c s₁ B hml hv
  obtain ⟨rfl, hW, hB_G, hK, hZ⟩ := hv
  have hx := B.exec
  have hb := B.bytes
  have hr := B.returns
  have hts := atoms_spec (ws := WS yX5_bestStep cX5_bestStep 7 (some .int)) B.pre
  have hgd : ∀ w ∈ gd, w ∈ WS yX5_bestStep cX5_bestStep 7 (some .int) := fun w h => List.mem_cons_of_mem _ h
  have hg : ∀ w ∈ gd, w.before _ s = true := fun w h => hts w (hgd w h)
  have hown : s.vm.findClass RX5 = some m.cls := findClass_of_methodNamed B.named
  have hS : va_S A s.heap s.heap [] := va_S.rf
  have hF : Fr [] [] G G := Fr.rf
  have hl := lv_entry ([.ref (a 29), .ref (a 7), .int p0]) (n := 7) (Nat.le_of_ble_eq_true rfl)
  rw [lg_entry_eq]
  generalize (lg_sl ([.ref (a 29), .ref (a 7), .int p0]) ++ List.replicate (7 - (lg_sl ([.ref (a 29), .ref (a 7), .int p0])).length) Slot.unset).toArray = ls at hl ⊢
  have hl : lv_has ls 7 [(0, .ref (a 29)), (1, .ref (a 7)), (2, .int p0)] := hl
  have b_1 : (-1) ≤ (G.1 7 6).toInt ∧ (G.1 7 6).toInt ≤ 400 := hB_G.i 7 6 rfl rfl
  refine lv_aload_n hx hb dX5_bestStep_0 rfl (lv_at hl 1 rfl) ?_
  have b_2 : 0 ≤ (G.1 7 3).toInt ∧ (G.1 7 3).toInt ≤ 60 := hB_G.i 7 3 rfl rfl
  refine S_getI (v := (G.1 7 3)) (C := RX0) (T := TX0) (N := 8) hx hb hg iX0 hown hK hW kd_7 rfl 3 (by decide) (hg (Cond.fieldLink RX5 58 "SlabWalk$Course" "least" "I") m379) (fun _ h9 => h9) rfl rfl dX5_bestStep_1 ?_
  refine lv_istore_n (lv' := [(3, .int (G.1 7 3)), (0, .ref (a 29)), (1, .ref (a 7)), (2, .int p0)]) hx hb dX5_bestStep_4 rfl hl (by decide) rfl (fun ls hl => ?_)
  refine lv_aload_n hx hb dX5_bestStep_5 rfl (lv_at hl 1 rfl) ?_
  refine lv_aload_n hx hb dX5_bestStep_6 rfl (lv_at hl 2 rfl) ?_
  refine lv_iload_n hx hb dX5_bestStep_7 rfl (lv_at hl 3 rfl) ?_
  refine lv_iload_n hx hb dX5_bestStep_8 rfl (lv_at hl 0 rfl) ?_
  have b_3 : 0 ≤ (G.1 7 4).toInt ∧ (G.1 7 4).toInt ≤ 60 := hB_G.i 7 4 rfl rfl
  have b_4 : 0 ≤ (G.1 7 7).toInt ∧ (G.1 7 7).toInt ≤ 400 := hB_G.i 7 7 rfl rfl
  refine S_calll (va_runV (As := [.ref (a 7), .int p0, .int (G.1 7 3)]) (rest := []) ⟨hx, hb, hml, hown, hts⟩ (k_oAim l D k A a z G p0 (G.1 7 3) ⟨by omega, by omega⟩ ⟨by omega, by omega⟩ (by omega)) (cwV 3 hts (gd_V hgd m1130 m1132 m40 m126 m1133) rfl rfl rfl (by decide +kernel) ⟨Nat.le_of_ble_eq_true rfl, Nat.le_of_ble_eq_true rfl⟩) (pre_V hW hB_G hK hZ hS kd_29 rfl) rfl rfl hl.1 rfl (lv_room (Nat.le_of_ble_eq_true rfl)) dX5_bestStep_9 ⟨Nat.le_of_ble_eq_true rfl, Nat.le_of_ble_eq_true rfl⟩) hS (fun r_5 G_6 H locs hpo hW hS => ?_)
  obtain ⟨hB_G_6, hq_7⟩ := hpo
  have hF := hF.call hq_7 (by decide) (by decide)
  refine lv_lstore (lv' := [(4, .long r_5), (3, .int (G.1 7 3)), (0, .ref (a 29)), (1, .ref (a 7)), (2, .int p0)]) hx hb dX5_bestStep_12 hl (by decide) rfl (fun ls hl => ?_)
  refine lv_iload_n hx hb dX5_bestStep_14 rfl (lv_at hl 1 rfl) ?_
  refine lv_iconst (v := 1) hx hb dX5_bestStep_15 (by decide) ?_
  refine lv_iadd hx hb dX5_bestStep_16 ?_
  refine lv_topi (fun y_9 ey_9 => ?_)
  have ty_9 : y_9.toInt = (G.1 7 3).toInt + 1 := xI_add rfl rfl ey_9 (by omega) (by omega)
  refine lv_istore (lv' := [(6, .int y_9), (4, .long r_5), (3, .int (G.1 7 3)), (0, .ref (a 29)), (1, .ref (a 7)), (2, .int p0)]) hx hb dX5_bestStep_17 hl (by decide) rfl (fun ls hl => ?_)
  refine loop_N (Inv := fun n H locs ls => ∃ (G_10 : GS) (x_14 : Int32) (x_15 : Int64) (x_16 : Int32), (n : Int) = 61 - x_14.toInt ∧ (1 ≤ x_14.toInt ∧ x_14.toInt ≤ 61) ∧ (0 ≤ x_16.toInt ∧ x_16.toInt ≤ 60) ∧ Wd D k A a G_10 H ∧ Bd G_10 ∧ Fr [] [] G G_10 ∧ Fr [] [] G_6 G_10 ∧ va_S A s.heap H locs ∧ lv_has ls 7 [(6, .int x_14), (4, .long x_15), (3, .int x_16), (0, .ref (a 29)), (1, .ref (a 7)), (2, .int p0)]) (fun n_13 H locs ls ih_12 hI => ?_) (61 - y_9.toInt : Int).toNat ⟨G_6, y_9, r_5, (G.1 7 3), (Int.toNat_of_nonneg (by omega)), ⟨by omega, by omega⟩, ⟨by omega, by omega⟩, hW, hB_G_6, hF, Fr.rf, hS, lv_sub hl [0, 1, 2, 3, 4, 5] rfl⟩
  obtain ⟨G_10, x_14, x_15, x_16, hn_19, f_17, f_18, hW, hB_G_10, hF, hq_11, hS, hl⟩ := hI
  refine lv_iload hx hb dX5_bestStep_19 (lv_at hl 0 rfl) ?_
  refine lv_aload_n hx hb dX5_bestStep_21 rfl (lv_at hl 4 rfl) ?_
  refine S_getI (v := (G.1 7 4)) (C := RX0) (T := TX0) (N := 8) hx hb hg iX0 hown hK hW kd_7 rfl 4 (by decide) (hg (Cond.fieldLink RX5 40 "SlabWalk$Course" "most" "I") m381) (fun _ h9 => h9) rfl ((hq_11.i 7 4 (by decide) (by decide)).trans ((hq_7.i 7 4 (by decide) (by decide)).trans (rfl))) dX5_bestStep_22 ?_
  refine lv_icmp_gt (tgt := 76) hx hb dX5_bestStep_25 (by decide) (fun c_20 => ?_) (fun c_20 => ?_)
  · have c_20 : (G.1 7 4).toInt < x_14.toInt := xI_lt rfl rfl c_20
    refine lv_iload_n hx hb dX5_bestStep_76 rfl (lv_at hl 2 rfl) ?_
    exact W.iret (v := x_16) hx hb hr (fun t ht _ => ⟨⟨x_16, G_10, rfl, ⟨hB_G_10, hF, ⟨by omega, by omega⟩⟩, wd_t ht hW⟩, hS.F ht⟩) hS.2.2 dX5_bestStep_77
  · have c_20 : x_14.toInt ≤ (G.1 7 4).toInt := xI_nlt rfl rfl c_20
    refine lv_iload_n hx hb dX5_bestStep_28 rfl (lv_at hl 5 rfl) ?_
    refine lv_iload hx hb dX5_bestStep_29 (lv_at hl 0 rfl) ?_
    refine lv_iadd hx hb dX5_bestStep_31 ?_
    refine lv_topi (fun y_21 ey_21 => ?_)
    have ty_21 : y_21.toInt = p0.toInt + x_14.toInt := xI_add rfl rfl ey_21 (by omega) (by omega)
    refine lv_aload_n hx hb dX5_bestStep_32 rfl (lv_at hl 4 rfl) ?_
    refine S_getI (v := (G.1 7 6)) (C := RX0) (T := TX0) (N := 8) hx hb hg iX0 hown hK hW kd_7 rfl 6 (by decide) (hg (Cond.fieldLink RX5 30 "SlabWalk$Course" "last" "I") m389) (fun _ h9 => h9) rfl ((hq_11.i 7 6 (by decide) (by decide)).trans ((hq_7.i 7 6 (by decide) (by decide)).trans (rfl))) dX5_bestStep_33 ?_
    refine lv_iconst (v := 2) hx hb dX5_bestStep_36 (by decide) ?_
    refine lv_iadd hx hb dX5_bestStep_37 ?_
    refine lv_topi (fun y_22 ey_22 => ?_)
    have ty_22 : y_22.toInt = (G.1 7 6).toInt + 2 := xI_add rfl rfl ey_22 (by omega) (by omega)
    refine lv_icmp_gt (tgt := 76) hx hb dX5_bestStep_38 (by decide) (fun c_23 => ?_) (fun c_23 => ?_)
    · have c_23 : y_22.toInt < y_21.toInt := xI_lt rfl rfl c_23
      refine lv_iload_n hx hb dX5_bestStep_76 rfl (lv_at hl 2 rfl) ?_
      exact W.iret (v := x_16) hx hb hr (fun t ht _ => ⟨⟨x_16, G_10, rfl, ⟨hB_G_10, hF, ⟨by omega, by omega⟩⟩, wd_t ht hW⟩, hS.F ht⟩) hS.2.2 dX5_bestStep_77
    · have c_23 : y_21.toInt ≤ y_22.toInt := xI_nlt rfl rfl c_23
      refine lv_aload_n hx hb dX5_bestStep_41 rfl (lv_at hl 3 rfl) ?_
      refine S_getR (n := 57) (C := RX5) (T := TX5) (N := 7) hx hb hg iX5 hown hK hW kd_29 rfl 5 (by decide) (hg (Cond.fieldLink RX5 27 "SlabWalk$Odds" "aims" "[J") m469) (fun _ h9 => h9) rfl dX5_bestStep_42 ?_
      refine lv_iload_n hx hb dX5_bestStep_45 rfl (lv_at hl 5 rfl) ?_
      refine lv_iload hx hb dX5_bestStep_46 (lv_at hl 0 rfl) ?_
      refine lv_iadd hx hb dX5_bestStep_48 ?_
      refine lv_topi (fun y_24 ey_24 => ?_)
      have ty_24 : y_24.toInt = p0.toInt + x_14.toInt := xI_add rfl rfl ey_24 (by omega) (by omega)
      refine S_lald hx hb hK hW kd_57 (vin (by omega) (by omega)) dX5_bestStep_49 (fun y_25 ey_25 => ?_)
      refine lv_lload hx hb dX5_bestStep_50 (lv_at hl 1 rfl) ?_
      refine W.lcmp hx hb dX5_bestStep_52 ?_
      refine lv_topi (fun y_26 ey_26 => ?_)
      have ty_26 := lcmp_rng ey_26
      refine lv_if_le (tgt := 70) hx hb dX5_bestStep_53 (by decide) (fun c_27 => ?_) (fun c_27 => ?_)
      · have c_27 : y_26.toInt ≤ 0 := xI_le rfl rfl c_27
        obtain ⟨y_28, ey_28⟩ : ∃ q, q = x_14 + 1 := ⟨_, rfl⟩
        have ty_28 : y_28.toInt = x_14.toInt + 1 := xI_add rfl rfl ey_28 (by omega) (by omega)
        refine lv_iinc (v := y_28) (lv' := [(6, .int y_28), (4, .long x_15), (3, .int x_16), (0, .ref (a 29)), (1, .ref (a 7)), (2, .int p0)]) hx hb dX5_bestStep_70 hl (k := 0) rfl (by rw [ey_28]; rfl) (by decide) rfl (fun ls hl => ?_)
        refine lv_goto (tgt := 19) hx hb dX5_bestStep_73 (by decide) ?_
        exact ih_12 (61 - y_28.toInt : Int).toNat (by omega) _ _ _ ⟨G_10, y_28, x_15, x_16, (Int.toNat_of_nonneg (by omega)), ⟨by omega, by omega⟩, ⟨by omega, by omega⟩, hW, hB_G_10, hF, (Fr.rf.call hq_11 (by decide) (by decide)), hS, lv_sub hl [0, 1, 2, 3, 4, 5] rfl⟩
      · have c_27 : 0 < y_26.toInt := xI_nle rfl rfl c_27
        refine lv_iload hx hb dX5_bestStep_56 (lv_at hl 0 rfl) ?_
        refine lv_istore_n (lv' := [(3, .int x_14), (6, .int x_14), (4, .long x_15), (0, .ref (a 29)), (1, .ref (a 7)), (2, .int p0)]) hx hb dX5_bestStep_58 rfl hl (by decide) rfl (fun ls hl => ?_)
        refine lv_aload_n hx hb dX5_bestStep_59 rfl (lv_at hl 3 rfl) ?_
        refine S_getR (n := 57) (C := RX5) (T := TX5) (N := 7) hx hb hg iX5 hown hK hW kd_29 rfl 5 (by decide) (hg (Cond.fieldLink RX5 27 "SlabWalk$Odds" "aims" "[J") m469) (fun _ h9 => h9) rfl dX5_bestStep_60 ?_
        refine lv_iload_n hx hb dX5_bestStep_63 rfl (lv_at hl 5 rfl) ?_
        refine lv_iload hx hb dX5_bestStep_64 (lv_at hl 1 rfl) ?_
        refine lv_iadd hx hb dX5_bestStep_66 ?_
        refine lv_topi (fun y_29 ey_29 => ?_)
        have ty_29 : y_29.toInt = p0.toInt + x_14.toInt := xI_add rfl rfl ey_29 (by omega) (by omega)
        refine S_lald hx hb hK hW kd_57 (vin (by omega) (by omega)) dX5_bestStep_67 (fun y_30 ey_30 => ?_)
        refine lv_lstore (lv' := [(4, .long y_30), (3, .int x_14), (6, .int x_14), (0, .ref (a 29)), (1, .ref (a 7)), (2, .int p0)]) hx hb dX5_bestStep_68 hl (by decide) rfl (fun ls hl => ?_)
        obtain ⟨y_31, ey_31⟩ : ∃ q, q = x_14 + 1 := ⟨_, rfl⟩
        have ty_31 : y_31.toInt = x_14.toInt + 1 := xI_add rfl rfl ey_31 (by omega) (by omega)
        refine lv_iinc (v := y_31) (lv' := [(6, .int y_31), (4, .long y_30), (3, .int x_14), (0, .ref (a 29)), (1, .ref (a 7)), (2, .int p0)]) hx hb dX5_bestStep_70 hl (k := 2) rfl (by rw [ey_31]; rfl) (by decide) rfl (fun ls hl => ?_)
        refine lv_goto (tgt := 19) hx hb dX5_bestStep_73 (by decide) ?_
        exact ih_12 (61 - y_31.toInt : Int).toNat (by omega) _ _ _ ⟨G_10, y_31, y_30, x_14, (Int.toNat_of_nonneg (by omega)), ⟨by omega, by omega⟩, ⟨by omega, by omega⟩, hW, hB_G_10, hF, (Fr.rf.call hq_11 (by decide) (by decide)), hS, lv_sub hl [0, 1, 2, 3, 4, 5] rfl⟩

set_option maxHeartbeats 4000000 in
set_option maxRecDepth 100000 in
theorem k_oBoldest (l : Launch) (D : va_G) (k : KT) (A : Nat → Prop) (a : Nat → Nat) (z : SK) (G : GS)   : Met l yX5_boldestStep (WS yX5_boldestStep cX5_boldestStep 1 (some .int)) ({ frames := 0, cells := 0, slots := 0, locals := 0 }) (va_Pc [.ref (a 29)] (cW D k A a z G)) (va_Qi (fun (r : Int32) (G1 : GS) => Bd G1 ∧ Fr [] [] G G1) (fun (G1 : GS) t => Wd D k A a G1 t.heap) A) 0 0 A := by
  refine Met.ofW (cc := cX5_boldestStep) (maxL := 1) (ret := (some .int)) (by decide) rfl ?_
  intro p e s m args below meth c s₁ B hml hv
  obtain ⟨rfl, hW, hB_G, hK, hZ⟩ := hv
  have hx := B.exec
  have hb := B.bytes
  have hr := B.returns
  have hts := atoms_spec (ws := WS yX5_boldestStep cX5_boldestStep 1 (some .int)) B.pre
  have hgd : ∀ w ∈ gd, w ∈ WS yX5_boldestStep cX5_boldestStep 1 (some .int) := fun w h => List.mem_cons_of_mem _ h
  have hg : ∀ w ∈ gd, w.before _ s = true := fun w h => hts w (hgd w h)
  have hown : s.vm.findClass RX5 = some m.cls := findClass_of_methodNamed B.named
  have hS : va_S A s.heap s.heap [] := va_S.rf
  have hF : Fr [] [] G G := Fr.rf
  have hl := lv_entry ([.ref (a 29)]) (n := 1) (Nat.le_of_ble_eq_true rfl)
  rw [lg_entry_eq]
  generalize (lg_sl ([.ref (a 29)]) ++ List.replicate (1 - (lg_sl ([.ref (a 29)])).length) Slot.unset).toArray = ls at hl ⊢
  have hl : lv_has ls 1 [(0, .ref (a 29))] := hl
  refine lv_aload_n hx hb dX5_boldestStep_0 rfl (lv_at hl 0 rfl) ?_
  refine S_getI (v := (G.1 29 6)) (C := RX5) (T := TX5) (N := 7) hx hb hg iX5 hown hK hW kd_29 rfl 6 (by decide) (hg (Cond.fieldLink RX5 82 "SlabWalk$Odds" "boldest" "I") m470) (fun _ h9 => h9) rfl rfl dX5_boldestStep_1 ?_
  exact W.iret (v := (G.1 29 6)) hx hb hr (fun t ht _ => ⟨⟨(G.1 29 6), G, rfl, ⟨hB_G, hF⟩, wd_t ht hW⟩, hS.F ht⟩) hS.2.2 dX5_boldestStep_4
