theorem m86 : Cond.selects RX12 yX12_isLine yX12_isLine ∈ gd := gd_mem 86 (by decide +kernel) (by decide +kernel)
theorem m87 : Cond.selects RX12 yX12_worked yX12_worked ∈ gd := gd_mem 87 (by decide +kernel) (by decide +kernel)
theorem m88 : Cond.selects RX12 yX12_askOf yX12_askOf ∈ gd := gd_mem 88 (by decide +kernel) (by decide +kernel)
theorem m89 : Cond.selects RX12 yX12_isAsked yX12_isAsked ∈ gd := gd_mem 89 (by decide +kernel) (by decide +kernel)
theorem m91 : Cond.selects RX12 yX12_layStreet yX12_layStreet ∈ gd := gd_mem 91 (by decide +kernel) (by decide +kernel)
theorem m1328 : Cond.fieldLink RX12 30 "SlabWalkModel" "step" "[I" ∈ gd := gd_mem 1328 (by decide +kernel) (by decide +kernel)
theorem m1329 : Cond.fieldLink RX12 33 "SlabWalkModel" "arg" "[I" ∈ gd := gd_mem 1329 (by decide +kernel) (by decide +kernel)
theorem m1330 : Cond.fieldLink RX12 36 "SlabWalkModel" "many" "[I" ∈ gd := gd_mem 1330 (by decide +kernel) (by decide +kernel)
theorem m1332 : Cond.fieldLink RX12 42 "SlabWalkModel" "values" "[I" ∈ gd := gd_mem 1332 (by decide +kernel) (by decide +kernel)
theorem m1354 : Cond.fieldLink RX12 90 "SlabWalkModel" "foots" "[I" ∈ gd := gd_mem 1354 (by decide +kernel) (by decide +kernel)
theorem m1355 : Cond.fieldLink RX12 93 "SlabWalkModel" "leasts" "[I" ∈ gd := gd_mem 1355 (by decide +kernel) (by decide +kernel)
theorem m1356 : Cond.fieldLink RX12 96 "SlabWalkModel" "mosts" "[I" ∈ gd := gd_mem 1356 (by decide +kernel) (by decide +kernel)
theorem m1357 : Cond.fieldLink RX12 99 "SlabWalkModel" "leaps" "[I" ∈ gd := gd_mem 1357 (by decide +kernel) (by decide +kernel)
theorem m1371 : Cond.fieldLink RX12 111 "SlabWalkModel" "lines" "[Z" ∈ gd := gd_mem 1371 (by decide +kernel) (by decide +kernel)
theorem m1803 : Cond.methodLink RX12 466 yX12_isLine ∈ gd := gd_mem 1803 (by decide +kernel) (by decide +kernel)
theorem m1805 : Cond.instanceMethod yX12_isLine ∈ gd := gd_mem 1805 (by decide +kernel) (by decide +kernel)
theorem m1806 : Cond.code yX12_isLine cX12_isLine 7 (some .boolean) ∈ gd := gd_mem 1806 (by decide +kernel) (by decide +kernel)
theorem m1807 : Cond.methodLink RX12 460 yX12_worked ∈ gd := gd_mem 1807 (by decide +kernel) (by decide +kernel)
theorem m1809 : Cond.instanceMethod yX12_worked ∈ gd := gd_mem 1809 (by decide +kernel) (by decide +kernel)
theorem m1810 : Cond.code yX12_worked cX12_worked 5 (some .int) ∈ gd := gd_mem 1810 (by decide +kernel) (by decide +kernel)
theorem m1811 : Cond.methodLink RX12 352 yX12_askOf ∈ gd := gd_mem 1811 (by decide +kernel) (by decide +kernel)
theorem m1813 : Cond.instanceMethod yX12_askOf ∈ gd := gd_mem 1813 (by decide +kernel) (by decide +kernel)
theorem m1814 : Cond.code yX12_askOf cX12_askOf 3 (some .int) ∈ gd := gd_mem 1814 (by decide +kernel) (by decide +kernel)
theorem m1815 : Cond.methodLink RX12 355 yX12_done ∈ gd := gd_mem 1815 (by decide +kernel) (by decide +kernel)
theorem m1816 : Cond.static yX12_done ∈ gd := gd_mem 1816 (by decide +kernel) (by decide +kernel)
theorem m1817 : Cond.code yX12_done cX12_done 3 (some .int) ∈ gd := gd_mem 1817 (by decide +kernel) (by decide +kernel)
theorem m1826 : Cond.methodLink RX12 490 yX12_isAsked ∈ gd := gd_mem 1826 (by decide +kernel) (by decide +kernel)
theorem m1828 : Cond.instanceMethod yX12_isAsked ∈ gd := gd_mem 1828 (by decide +kernel) (by decide +kernel)
theorem m1829 : Cond.code yX12_isAsked cX12_isAsked 4 (some .boolean) ∈ gd := gd_mem 1829 (by decide +kernel) (by decide +kernel)
theorem m1834 : Cond.methodLink RX12 493 yX12_layStreet ∈ gd := gd_mem 1834 (by decide +kernel) (by decide +kernel)
theorem m1836 : Cond.instanceMethod yX12_layStreet ∈ gd := gd_mem 1836 (by decide +kernel) (by decide +kernel)
theorem m1837 : Cond.code yX12_layStreet cX12_layStreet 6 none ∈ gd := gd_mem 1837 (by decide +kernel) (by decide +kernel)
theorem dX12_askOf_0 : decode cX12_askOf 0 = .ok (.iload_n 2, 1) := by decide +kernel
theorem dX12_askOf_1 : decode cX12_askOf 1 = .ok (.tableswitch 112 0 7 #[47, 65, 65, 65, 65, 91, 98, 105], 47) := by decide +kernel
theorem dX12_askOf_48 : decode cX12_askOf 48 = .ok (.aload_n 0, 1) := by decide +kernel
theorem dX12_askOf_49 : decode cX12_askOf 49 = .ok (.getfield 75, 3) := by decide +kernel
theorem dX12_askOf_52 : decode cX12_askOf 52 = .ok (.iload_n 1, 1) := by decide +kernel
theorem dX12_askOf_53 : decode cX12_askOf 53 = .ok (.iaload, 1) := by decide +kernel
theorem dX12_askOf_54 : decode cX12_askOf 54 = .ok (.ifCond .ge 7, 3) := by decide +kernel
theorem dX12_askOf_57 : decode cX12_askOf 57 = .ok (.iconst 1, 1) := by decide +kernel
theorem dX12_askOf_58 : decode cX12_askOf 58 = .ok (.goto 4, 3) := by decide +kernel
theorem dX12_askOf_61 : decode cX12_askOf 61 = .ok (.iconst 0, 1) := by decide +kernel
theorem dX12_askOf_62 : decode cX12_askOf 62 = .ok (.invokestatic 348, 3) := by decide +kernel
theorem dX12_askOf_65 : decode cX12_askOf 65 = .ok (.ireturn, 1) := by decide +kernel
theorem dX12_askOf_66 : decode cX12_askOf 66 = .ok (.aload_n 0, 1) := by decide +kernel
theorem dX12_askOf_67 : decode cX12_askOf 67 = .ok (.getfield 75, 3) := by decide +kernel
theorem dX12_askOf_70 : decode cX12_askOf 70 = .ok (.iload_n 1, 1) := by decide +kernel
theorem dX12_askOf_71 : decode cX12_askOf 71 = .ok (.iaload, 1) := by decide +kernel
theorem dX12_askOf_72 : decode cX12_askOf 72 = .ok (.ifCond .ge 7, 3) := by decide +kernel
theorem dX12_askOf_75 : decode cX12_askOf 75 = .ok (.iconst 0, 1) := by decide +kernel
theorem dX12_askOf_76 : decode cX12_askOf 76 = .ok (.goto 15, 3) := by decide +kernel
theorem dX12_askOf_79 : decode cX12_askOf 79 = .ok (.aload_n 0, 1) := by decide +kernel
theorem dX12_askOf_80 : decode cX12_askOf 80 = .ok (.getfield 75, 3) := by decide +kernel
theorem dX12_askOf_83 : decode cX12_askOf 83 = .ok (.iload_n 1, 1) := by decide +kernel
theorem dX12_askOf_84 : decode cX12_askOf 84 = .ok (.iaload, 1) := by decide +kernel
theorem dX12_askOf_85 : decode cX12_askOf 85 = .ok (.iload_n 2, 1) := by decide +kernel
theorem dX12_askOf_86 : decode cX12_askOf 86 = .ok (.iconst 1, 1) := by decide +kernel
theorem dX12_askOf_87 : decode cX12_askOf 87 = .ok (.isub, 1) := by decide +kernel
theorem dX12_askOf_88 : decode cX12_askOf 88 = .ok (.ishr, 1) := by decide +kernel
theorem dX12_askOf_89 : decode cX12_askOf 89 = .ok (.iconst 1, 1) := by decide +kernel
theorem dX12_askOf_90 : decode cX12_askOf 90 = .ok (.iand, 1) := by decide +kernel
theorem dX12_askOf_91 : decode cX12_askOf 91 = .ok (.ireturn, 1) := by decide +kernel
theorem dX12_askOf_92 : decode cX12_askOf 92 = .ok (.aload_n 0, 1) := by decide +kernel
theorem dX12_askOf_93 : decode cX12_askOf 93 = .ok (.getfield 84, 3) := by decide +kernel
theorem dX12_askOf_96 : decode cX12_askOf 96 = .ok (.iload_n 1, 1) := by decide +kernel
theorem dX12_askOf_97 : decode cX12_askOf 97 = .ok (.iaload, 1) := by decide +kernel
theorem dX12_askOf_98 : decode cX12_askOf 98 = .ok (.ireturn, 1) := by decide +kernel
theorem dX12_askOf_99 : decode cX12_askOf 99 = .ok (.aload_n 0, 1) := by decide +kernel
theorem dX12_askOf_100 : decode cX12_askOf 100 = .ok (.getfield 78, 3) := by decide +kernel
theorem dX12_askOf_103 : decode cX12_askOf 103 = .ok (.iload_n 1, 1) := by decide +kernel
theorem dX12_askOf_104 : decode cX12_askOf 104 = .ok (.iaload, 1) := by decide +kernel
theorem dX12_askOf_105 : decode cX12_askOf 105 = .ok (.ireturn, 1) := by decide +kernel
theorem dX12_askOf_106 : decode cX12_askOf 106 = .ok (.aload_n 0, 1) := by decide +kernel
theorem dX12_askOf_107 : decode cX12_askOf 107 = .ok (.getfield 81, 3) := by decide +kernel
theorem dX12_askOf_110 : decode cX12_askOf 110 = .ok (.iload_n 1, 1) := by decide +kernel
theorem dX12_askOf_111 : decode cX12_askOf 111 = .ok (.iaload, 1) := by decide +kernel
theorem dX12_askOf_112 : decode cX12_askOf 112 = .ok (.ireturn, 1) := by decide +kernel
theorem dX12_askOf_113 : decode cX12_askOf 113 = .ok (.aload_n 0, 1) := by decide +kernel
theorem dX12_askOf_114 : decode cX12_askOf 114 = .ok (.getfield 151, 3) := by decide +kernel
theorem dX12_askOf_117 : decode cX12_askOf 117 = .ok (.bipush 6, 2) := by decide +kernel
theorem dX12_askOf_119 : decode cX12_askOf 119 = .ok (.iaload, 1) := by decide +kernel
theorem dX12_askOf_120 : decode cX12_askOf 120 = .ok (.ireturn, 1) := by decide +kernel
theorem dX12_foot_0 : decode cX12_foot 0 = .ok (.aload_n 0, 1) := by decide +kernel
theorem dX12_foot_1 : decode cX12_foot 1 = .ok (.iload_n 1, 1) := by decide +kernel
theorem dX12_foot_2 : decode cX12_foot 2 = .ok (.iload_n 2, 1) := by decide +kernel
theorem dX12_foot_3 : decode cX12_foot 3 = .ok (.iload_n 3, 1) := by decide +kernel
theorem dX12_foot_4 : decode cX12_foot 4 = .ok (.invokevirtual 490, 3) := by decide +kernel
theorem dX12_foot_7 : decode cX12_foot 7 = .ok (.ifCond .eq 13, 3) := by decide +kernel
theorem dX12_foot_10 : decode cX12_foot 10 = .ok (.aload_n 0, 1) := by decide +kernel
theorem dX12_foot_11 : decode cX12_foot 11 = .ok (.iload_n 2, 1) := by decide +kernel
theorem dX12_foot_12 : decode cX12_foot 12 = .ok (.iload 4, 2) := by decide +kernel
theorem dX12_foot_14 : decode cX12_foot 14 = .ok (.invokevirtual 456, 3) := by decide +kernel
theorem dX12_foot_17 : decode cX12_foot 17 = .ok (.ifCond .ne 5, 3) := by decide +kernel
theorem dX12_foot_20 : decode cX12_foot 20 = .ok (.iconst (-1), 1) := by decide +kernel
theorem dX12_foot_21 : decode cX12_foot 21 = .ok (.ireturn, 1) := by decide +kernel
theorem dX12_foot_22 : decode cX12_foot 22 = .ok (.aload_n 0, 1) := by decide +kernel
theorem dX12_foot_23 : decode cX12_foot 23 = .ok (.iload_n 1, 1) := by decide +kernel
theorem dX12_foot_24 : decode cX12_foot 24 = .ok (.iload_n 2, 1) := by decide +kernel
theorem dX12_foot_25 : decode cX12_foot 25 = .ok (.iload_n 3, 1) := by decide +kernel
theorem dX12_foot_26 : decode cX12_foot 26 = .ok (.invokevirtual 493, 3) := by decide +kernel
theorem dX12_foot_29 : decode cX12_foot 29 = .ok (.aload_n 0, 1) := by decide +kernel
theorem dX12_foot_30 : decode cX12_foot 30 = .ok (.getfield 115, 3) := by decide +kernel
theorem dX12_foot_33 : decode cX12_foot 33 = .ok (.iload 4, 2) := by decide +kernel
theorem dX12_foot_35 : decode cX12_foot 35 = .ok (.baload, 1) := by decide +kernel
theorem dX12_foot_36 : decode cX12_foot 36 = .ok (.invokestatic 348, 3) := by decide +kernel
theorem dX12_foot_39 : decode cX12_foot 39 = .ok (.ireturn, 1) := by decide +kernel
theorem dX12_gap_0 : decode cX12_gap 0 = .ok (.aload_n 0, 1) := by decide +kernel
theorem dX12_gap_1 : decode cX12_gap 1 = .ok (.iload_n 1, 1) := by decide +kernel
theorem dX12_gap_2 : decode cX12_gap 2 = .ok (.invokevirtual 453, 3) := by decide +kernel
theorem dX12_gap_5 : decode cX12_gap 5 = .ok (.ifCond .eq 20, 3) := by decide +kernel
theorem dX12_gap_8 : decode cX12_gap 8 = .ok (.aload_n 0, 1) := by decide +kernel
theorem dX12_gap_9 : decode cX12_gap 9 = .ok (.iload_n 2, 1) := by decide +kernel
theorem dX12_gap_10 : decode cX12_gap 10 = .ok (.invokevirtual 463, 3) := by decide +kernel
theorem dX12_gap_13 : decode cX12_gap 13 = .ok (.ifCond .eq 12, 3) := by decide +kernel
theorem dX12_gap_16 : decode cX12_gap 16 = .ok (.iload_n 3, 1) := by decide +kernel
theorem dX12_gap_17 : decode cX12_gap 17 = .ok (.iconst 0, 1) := by decide +kernel
theorem dX12_gap_18 : decode cX12_gap 18 = .ok (.iconst 2, 1) := by decide +kernel
theorem dX12_gap_19 : decode cX12_gap 19 = .ok (.invokestatic 449, 3) := by decide +kernel
theorem dX12_gap_22 : decode cX12_gap 22 = .ok (.ifCond .ne 5, 3) := by decide +kernel
theorem dX12_gap_25 : decode cX12_gap 25 = .ok (.iconst (-1), 1) := by decide +kernel
theorem dX12_gap_26 : decode cX12_gap 26 = .ok (.ireturn, 1) := by decide +kernel
theorem dX12_gap_27 : decode cX12_gap 27 = .ok (.iconst 0, 1) := by decide +kernel
theorem dX12_gap_28 : decode cX12_gap 28 = .ok (.istore 4, 2) := by decide +kernel
theorem dX12_gap_30 : decode cX12_gap 30 = .ok (.iconst (-1), 1) := by decide +kernel
theorem dX12_gap_31 : decode cX12_gap 31 = .ok (.istore 5, 2) := by decide +kernel
theorem dX12_gap_33 : decode cX12_gap 33 = .ok (.iconst 0, 1) := by decide +kernel
theorem dX12_gap_34 : decode cX12_gap 34 = .ok (.istore 6, 2) := by decide +kernel
theorem dX12_gap_36 : decode cX12_gap 36 = .ok (.iconst 0, 1) := by decide +kernel
theorem dX12_gap_37 : decode cX12_gap 37 = .ok (.istore 7, 2) := by decide +kernel
theorem dX12_gap_39 : decode cX12_gap 39 = .ok (.iconst 0, 1) := by decide +kernel
theorem dX12_gap_40 : decode cX12_gap 40 = .ok (.istore 8, 2) := by decide +kernel
theorem dX12_gap_42 : decode cX12_gap 42 = .ok (.iload 8, 2) := by decide +kernel
theorem dX12_gap_44 : decode cX12_gap 44 = .ok (.aload_n 0, 1) := by decide +kernel
theorem dX12_gap_45 : decode cX12_gap 45 = .ok (.getfield 87, 3) := by decide +kernel
theorem dX12_gap_48 : decode cX12_gap 48 = .ok (.iload_n 1, 1) := by decide +kernel
theorem dX12_gap_49 : decode cX12_gap 49 = .ok (.iaload, 1) := by decide +kernel
theorem dX12_gap_50 : decode cX12_gap 50 = .ok (.if_icmp .ge 67, 3) := by decide +kernel
theorem dX12_gap_53 : decode cX12_gap 53 = .ok (.aload_n 0, 1) := by decide +kernel
theorem dX12_gap_54 : decode cX12_gap 54 = .ok (.iload_n 1, 1) := by decide +kernel
theorem dX12_gap_55 : decode cX12_gap 55 = .ok (.iload_n 2, 1) := by decide +kernel
theorem dX12_gap_56 : decode cX12_gap 56 = .ok (.iload 8, 2) := by decide +kernel
theorem dX12_gap_58 : decode cX12_gap 58 = .ok (.invokevirtual 466, 3) := by decide +kernel
theorem dX12_gap_61 : decode cX12_gap 61 = .ok (.istore 9, 2) := by decide +kernel
theorem dX12_gap_63 : decode cX12_gap 63 = .ok (.iload 7, 2) := by decide +kernel
theorem dX12_gap_65 : decode cX12_gap 65 = .ok (.iload 9, 2) := by decide +kernel
theorem dX12_gap_67 : decode cX12_gap 67 = .ok (.invokestatic 348, 3) := by decide +kernel
theorem dX12_gap_70 : decode cX12_gap 70 = .ok (.iadd, 1) := by decide +kernel
theorem dX12_gap_71 : decode cX12_gap 71 = .ok (.istore 7, 2) := by decide +kernel
theorem dX12_gap_73 : decode cX12_gap 73 = .ok (.iload 9, 2) := by decide +kernel
theorem dX12_gap_75 : decode cX12_gap 75 = .ok (.ifCond .eq 7, 3) := by decide +kernel
theorem dX12_gap_78 : decode cX12_gap 78 = .ok (.iconst 0, 1) := by decide +kernel
theorem dX12_gap_79 : decode cX12_gap 79 = .ok (.goto 7, 3) := by decide +kernel
theorem dX12_gap_82 : decode cX12_gap 82 = .ok (.iload 6, 2) := by decide +kernel
theorem dX12_gap_84 : decode cX12_gap 84 = .ok (.iconst 1, 1) := by decide +kernel
theorem dX12_gap_85 : decode cX12_gap 85 = .ok (.iadd, 1) := by decide +kernel
theorem dX12_gap_86 : decode cX12_gap 86 = .ok (.istore 6, 2) := by decide +kernel
theorem dX12_gap_88 : decode cX12_gap 88 = .ok (.iload 6, 2) := by decide +kernel
theorem dX12_gap_90 : decode cX12_gap 90 = .ok (.iload 4, 2) := by decide +kernel
theorem dX12_gap_92 : decode cX12_gap 92 = .ok (.if_icmp .gt 6, 3) := by decide +kernel
theorem dX12_gap_95 : decode cX12_gap 95 = .ok (.goto 16, 3) := by decide +kernel
theorem dX12_gap_98 : decode cX12_gap 98 = .ok (.iload 6, 2) := by decide +kernel
theorem dX12_gap_100 : decode cX12_gap 100 = .ok (.istore 4, 2) := by decide +kernel
theorem dX12_gap_102 : decode cX12_gap 102 = .ok (.iload 8, 2) := by decide +kernel
theorem dX12_gap_104 : decode cX12_gap 104 = .ok (.iload 6, 2) := by decide +kernel
theorem dX12_gap_106 : decode cX12_gap 106 = .ok (.isub, 1) := by decide +kernel
theorem dX12_gap_107 : decode cX12_gap 107 = .ok (.iconst 1, 1) := by decide +kernel
theorem dX12_gap_108 : decode cX12_gap 108 = .ok (.iadd, 1) := by decide +kernel
theorem dX12_gap_109 : decode cX12_gap 109 = .ok (.istore 5, 2) := by decide +kernel
theorem dX12_gap_111 : decode cX12_gap 111 = .ok (.iinc 8 1, 3) := by decide +kernel
theorem dX12_gap_114 : decode cX12_gap 114 = .ok (.goto (-72), 3) := by decide +kernel
theorem dX12_gap_117 : decode cX12_gap 117 = .ok (.iload_n 3, 1) := by decide +kernel
theorem dX12_gap_118 : decode cX12_gap 118 = .ok (.ifCond .ne 8, 3) := by decide +kernel
theorem dX12_gap_121 : decode cX12_gap 121 = .ok (.iload 4, 2) := by decide +kernel
theorem dX12_gap_123 : decode cX12_gap 123 = .ok (.goto 15, 3) := by decide +kernel
theorem dX12_gap_126 : decode cX12_gap 126 = .ok (.iload_n 3, 1) := by decide +kernel
theorem dX12_gap_127 : decode cX12_gap 127 = .ok (.iconst 1, 1) := by decide +kernel
theorem dX12_gap_128 : decode cX12_gap 128 = .ok (.if_icmp .ne 8, 3) := by decide +kernel
theorem dX12_gap_131 : decode cX12_gap 131 = .ok (.iload 5, 2) := by decide +kernel
theorem dX12_gap_133 : decode cX12_gap 133 = .ok (.goto 5, 3) := by decide +kernel
theorem dX12_gap_136 : decode cX12_gap 136 = .ok (.iload 7, 2) := by decide +kernel
theorem dX12_gap_138 : decode cX12_gap 138 = .ok (.ireturn, 1) := by decide +kernel
theorem dX12_isLine_0 : decode cX12_isLine 0 = .ok (.sipush 400, 3) := by decide +kernel
theorem dX12_isLine_3 : decode cX12_isLine 3 = .ok (.iload_n 1, 1) := by decide +kernel
theorem dX12_isLine_4 : decode cX12_isLine 4 = .ok (.imul, 1) := by decide +kernel
theorem dX12_isLine_5 : decode cX12_isLine 5 = .ok (.iload_n 3, 1) := by decide +kernel
theorem dX12_isLine_6 : decode cX12_isLine 6 = .ok (.iadd, 1) := by decide +kernel
theorem dX12_isLine_7 : decode cX12_isLine 7 = .ok (.istore 4, 2) := by decide +kernel
theorem dX12_isLine_9 : decode cX12_isLine 9 = .ok (.iload_n 2, 1) := by decide +kernel
theorem dX12_isLine_10 : decode cX12_isLine 10 = .ok (.ifCond .ne 32, 3) := by decide +kernel
theorem dX12_isLine_13 : decode cX12_isLine 13 = .ok (.aload_n 0, 1) := by decide +kernel
theorem dX12_isLine_14 : decode cX12_isLine 14 = .ok (.getfield 75, 3) := by decide +kernel
theorem dX12_isLine_17 : decode cX12_isLine 17 = .ok (.iload 4, 2) := by decide +kernel
theorem dX12_isLine_19 : decode cX12_isLine 19 = .ok (.iaload, 1) := by decide +kernel
theorem dX12_isLine_20 : decode cX12_isLine 20 = .ok (.ifCond .lt 16, 3) := by decide +kernel
theorem dX12_isLine_23 : decode cX12_isLine 23 = .ok (.aload_n 0, 1) := by decide +kernel
theorem dX12_isLine_24 : decode cX12_isLine 24 = .ok (.getfield 75, 3) := by decide +kernel
theorem dX12_isLine_27 : decode cX12_isLine 27 = .ok (.iload 4, 2) := by decide +kernel
theorem dX12_isLine_29 : decode cX12_isLine 29 = .ok (.iaload, 1) := by decide +kernel
theorem dX12_isLine_30 : decode cX12_isLine 30 = .ok (.bipush 6, 2) := by decide +kernel
theorem dX12_isLine_32 : decode cX12_isLine 32 = .ok (.iand, 1) := by decide +kernel
theorem dX12_isLine_33 : decode cX12_isLine 33 = .ok (.ifCond .eq 7, 3) := by decide +kernel
theorem dX12_isLine_36 : decode cX12_isLine 36 = .ok (.iconst 1, 1) := by decide +kernel
theorem dX12_isLine_37 : decode cX12_isLine 37 = .ok (.goto 4, 3) := by decide +kernel
theorem dX12_isLine_40 : decode cX12_isLine 40 = .ok (.iconst 0, 1) := by decide +kernel
theorem dX12_isLine_41 : decode cX12_isLine 41 = .ok (.ireturn, 1) := by decide +kernel
theorem dX12_isLine_42 : decode cX12_isLine 42 = .ok (.iconst 0, 1) := by decide +kernel
theorem dX12_isLine_43 : decode cX12_isLine 43 = .ok (.istore 5, 2) := by decide +kernel
theorem dX12_isLine_45 : decode cX12_isLine 45 = .ok (.iconst 0, 1) := by decide +kernel
theorem dX12_isLine_46 : decode cX12_isLine 46 = .ok (.istore 6, 2) := by decide +kernel
theorem dX12_isLine_48 : decode cX12_isLine 48 = .ok (.iload 6, 2) := by decide +kernel
theorem dX12_isLine_50 : decode cX12_isLine 50 = .ok (.aload_n 0, 1) := by decide +kernel
theorem dX12_isLine_51 : decode cX12_isLine 51 = .ok (.getfield 431, 3) := by decide +kernel
theorem dX12_isLine_54 : decode cX12_isLine 54 = .ok (.if_icmp .ge 42, 3) := by decide +kernel
theorem dX12_isLine_57 : decode cX12_isLine 57 = .ok (.iload 5, 2) := by decide +kernel
theorem dX12_isLine_59 : decode cX12_isLine 59 = .ok (.ifCond .ne 37, 3) := by decide +kernel
theorem dX12_isLine_62 : decode cX12_isLine 62 = .ok (.iload_n 2, 1) := by decide +kernel
theorem dX12_isLine_63 : decode cX12_isLine 63 = .ok (.iload 6, 2) := by decide +kernel
theorem dX12_isLine_65 : decode cX12_isLine 65 = .ok (.ishr, 1) := by decide +kernel
theorem dX12_isLine_66 : decode cX12_isLine 66 = .ok (.iconst 1, 1) := by decide +kernel
theorem dX12_isLine_67 : decode cX12_isLine 67 = .ok (.iand, 1) := by decide +kernel
theorem dX12_isLine_68 : decode cX12_isLine 68 = .ok (.iconst 1, 1) := by decide +kernel
theorem dX12_isLine_69 : decode cX12_isLine 69 = .ok (.if_icmp .ne 18, 3) := by decide +kernel
theorem dX12_isLine_72 : decode cX12_isLine 72 = .ok (.aload_n 0, 1) := by decide +kernel
theorem dX12_isLine_73 : decode cX12_isLine 73 = .ok (.iload 6, 2) := by decide +kernel
theorem dX12_isLine_75 : decode cX12_isLine 75 = .ok (.iload 4, 2) := by decide +kernel
theorem dX12_isLine_77 : decode cX12_isLine 77 = .ok (.invokevirtual 460, 3) := by decide +kernel
theorem dX12_isLine_80 : decode cX12_isLine 80 = .ok (.ifCond .eq 7, 3) := by decide +kernel
theorem dX12_isLine_83 : decode cX12_isLine 83 = .ok (.iconst 1, 1) := by decide +kernel
theorem dX12_isLine_84 : decode cX12_isLine 84 = .ok (.goto 4, 3) := by decide +kernel
theorem dX12_isLine_87 : decode cX12_isLine 87 = .ok (.iconst 0, 1) := by decide +kernel
theorem dX12_isLine_88 : decode cX12_isLine 88 = .ok (.istore 5, 2) := by decide +kernel
theorem dX12_isLine_90 : decode cX12_isLine 90 = .ok (.iinc 6 1, 3) := by decide +kernel
theorem dX12_isLine_93 : decode cX12_isLine 93 = .ok (.goto (-45), 3) := by decide +kernel
theorem dX12_isLine_96 : decode cX12_isLine 96 = .ok (.iload 5, 2) := by decide +kernel
theorem dX12_isLine_98 : decode cX12_isLine 98 = .ok (.ireturn, 1) := by decide +kernel
theorem dX12_layStreet_0 : decode cX12_layStreet 0 = .ok (.aload_n 0, 1) := by decide +kernel
theorem dX12_layStreet_1 : decode cX12_layStreet 1 = .ok (.aload_n 0, 1) := by decide +kernel
theorem dX12_layStreet_2 : decode cX12_layStreet 2 = .ok (.getfield 87, 3) := by decide +kernel
theorem dX12_layStreet_5 : decode cX12_layStreet 5 = .ok (.iload_n 2, 1) := by decide +kernel
theorem dX12_layStreet_6 : decode cX12_layStreet 6 = .ok (.iaload, 1) := by decide +kernel
theorem dX12_layStreet_7 : decode cX12_layStreet 7 = .ok (.putfield 469, 3) := by decide +kernel
theorem dX12_layStreet_10 : decode cX12_layStreet 10 = .ok (.aload_n 0, 1) := by decide +kernel
theorem dX12_layStreet_11 : decode cX12_layStreet 11 = .ok (.aload_n 0, 1) := by decide +kernel
theorem dX12_layStreet_12 : decode cX12_layStreet 12 = .ok (.getfield 90, 3) := by decide +kernel
theorem dX12_layStreet_15 : decode cX12_layStreet 15 = .ok (.iload_n 1, 1) := by decide +kernel
theorem dX12_layStreet_16 : decode cX12_layStreet 16 = .ok (.iaload, 1) := by decide +kernel
theorem dX12_layStreet_17 : decode cX12_layStreet 17 = .ok (.putfield 472, 3) := by decide +kernel
theorem dX12_layStreet_20 : decode cX12_layStreet 20 = .ok (.aload_n 0, 1) := by decide +kernel
theorem dX12_layStreet_21 : decode cX12_layStreet 21 = .ok (.aload_n 0, 1) := by decide +kernel
theorem dX12_layStreet_22 : decode cX12_layStreet 22 = .ok (.getfield 93, 3) := by decide +kernel
theorem dX12_layStreet_25 : decode cX12_layStreet 25 = .ok (.iload_n 1, 1) := by decide +kernel
theorem dX12_layStreet_26 : decode cX12_layStreet 26 = .ok (.iaload, 1) := by decide +kernel
theorem dX12_layStreet_27 : decode cX12_layStreet 27 = .ok (.putfield 475, 3) := by decide +kernel
theorem dX12_layStreet_30 : decode cX12_layStreet 30 = .ok (.aload_n 0, 1) := by decide +kernel
theorem dX12_layStreet_31 : decode cX12_layStreet 31 = .ok (.aload_n 0, 1) := by decide +kernel
theorem dX12_layStreet_32 : decode cX12_layStreet 32 = .ok (.getfield 96, 3) := by decide +kernel
theorem dX12_layStreet_35 : decode cX12_layStreet 35 = .ok (.iload_n 1, 1) := by decide +kernel
theorem dX12_layStreet_36 : decode cX12_layStreet 36 = .ok (.iaload, 1) := by decide +kernel
theorem dX12_layStreet_37 : decode cX12_layStreet 37 = .ok (.putfield 478, 3) := by decide +kernel
theorem dX12_layStreet_40 : decode cX12_layStreet 40 = .ok (.aload_n 0, 1) := by decide +kernel
theorem dX12_layStreet_41 : decode cX12_layStreet 41 = .ok (.aload_n 0, 1) := by decide +kernel
theorem dX12_layStreet_42 : decode cX12_layStreet 42 = .ok (.getfield 99, 3) := by decide +kernel
theorem dX12_layStreet_45 : decode cX12_layStreet 45 = .ok (.iload_n 1, 1) := by decide +kernel
theorem dX12_layStreet_46 : decode cX12_layStreet 46 = .ok (.iaload, 1) := by decide +kernel
theorem dX12_layStreet_47 : decode cX12_layStreet 47 = .ok (.putfield 481, 3) := by decide +kernel
theorem dX12_layStreet_50 : decode cX12_layStreet 50 = .ok (.iconst 0, 1) := by decide +kernel
theorem dX12_layStreet_51 : decode cX12_layStreet 51 = .ok (.istore 4, 2) := by decide +kernel
theorem dX12_layStreet_53 : decode cX12_layStreet 53 = .ok (.iload 4, 2) := by decide +kernel
theorem dX12_layStreet_55 : decode cX12_layStreet 55 = .ok (.aload_n 0, 1) := by decide +kernel
theorem dX12_layStreet_56 : decode cX12_layStreet 56 = .ok (.getfield 469, 3) := by decide +kernel
theorem dX12_layStreet_59 : decode cX12_layStreet 59 = .ok (.if_icmp .ge 24, 3) := by decide +kernel
theorem dX12_layStreet_62 : decode cX12_layStreet 62 = .ok (.aload_n 0, 1) := by decide +kernel
theorem dX12_layStreet_63 : decode cX12_layStreet 63 = .ok (.getfield 111, 3) := by decide +kernel
theorem dX12_layStreet_66 : decode cX12_layStreet 66 = .ok (.iload 4, 2) := by decide +kernel
theorem dX12_layStreet_68 : decode cX12_layStreet 68 = .ok (.aload_n 0, 1) := by decide +kernel
theorem dX12_layStreet_69 : decode cX12_layStreet 69 = .ok (.iload_n 2, 1) := by decide +kernel
theorem dX12_layStreet_70 : decode cX12_layStreet 70 = .ok (.iload_n 3, 1) := by decide +kernel
theorem dX12_layStreet_71 : decode cX12_layStreet 71 = .ok (.iload 4, 2) := by decide +kernel
theorem dX12_layStreet_73 : decode cX12_layStreet 73 = .ok (.invokevirtual 466, 3) := by decide +kernel
theorem dX12_layStreet_76 : decode cX12_layStreet 76 = .ok (.bastore, 1) := by decide +kernel
theorem dX12_layStreet_77 : decode cX12_layStreet 77 = .ok (.iinc 4 1, 3) := by decide +kernel
theorem dX12_layStreet_80 : decode cX12_layStreet 80 = .ok (.goto (-27), 3) := by decide +kernel
theorem dX12_layStreet_83 : decode cX12_layStreet 83 = .ok (.iconst 0, 1) := by decide +kernel
theorem dX12_layStreet_84 : decode cX12_layStreet 84 = .ok (.istore 4, 2) := by decide +kernel
theorem dX12_layStreet_86 : decode cX12_layStreet 86 = .ok (.iload 4, 2) := by decide +kernel
theorem dX12_layStreet_88 : decode cX12_layStreet 88 = .ok (.sipush 512, 3) := by decide +kernel
theorem dX12_layStreet_91 : decode cX12_layStreet 91 = .ok (.if_icmp .ge 76, 3) := by decide +kernel
theorem dX12_layStreet_94 : decode cX12_layStreet 94 = .ok (.aload_n 0, 1) := by decide +kernel
theorem dX12_layStreet_95 : decode cX12_layStreet 95 = .ok (.getfield 115, 3) := by decide +kernel
theorem dX12_layStreet_98 : decode cX12_layStreet 98 = .ok (.iload 4, 2) := by decide +kernel
theorem dX12_layStreet_100 : decode cX12_layStreet 100 = .ok (.aload_n 0, 1) := by decide +kernel
theorem dX12_layStreet_101 : decode cX12_layStreet 101 = .ok (.iload 4, 2) := by decide +kernel
theorem dX12_layStreet_103 : decode cX12_layStreet 103 = .ok (.invokevirtual 484, 3) := by decide +kernel
theorem dX12_layStreet_106 : decode cX12_layStreet 106 = .ok (.bastore, 1) := by decide +kernel
theorem dX12_layStreet_107 : decode cX12_layStreet 107 = .ok (.iload 4, 2) := by decide +kernel
theorem dX12_layStreet_109 : decode cX12_layStreet 109 = .ok (.istore 5, 2) := by decide +kernel
theorem dX12_layStreet_111 : decode cX12_layStreet 111 = .ok (.iload 5, 2) := by decide +kernel
theorem dX12_layStreet_113 : decode cX12_layStreet 113 = .ok (.iload 4, 2) := by decide +kernel
theorem dX12_layStreet_115 : decode cX12_layStreet 115 = .ok (.aload_n 0, 1) := by decide +kernel
theorem dX12_layStreet_116 : decode cX12_layStreet 116 = .ok (.getfield 472, 3) := by decide +kernel
theorem dX12_layStreet_119 : decode cX12_layStreet 119 = .ok (.iadd, 1) := by decide +kernel
theorem dX12_layStreet_120 : decode cX12_layStreet 120 = .ok (.if_icmp .ge 41, 3) := by decide +kernel
theorem dX12_layStreet_123 : decode cX12_layStreet 123 = .ok (.aload_n 0, 1) := by decide +kernel
theorem dX12_layStreet_124 : decode cX12_layStreet 124 = .ok (.getfield 115, 3) := by decide +kernel
theorem dX12_layStreet_127 : decode cX12_layStreet 127 = .ok (.iload 4, 2) := by decide +kernel
theorem dX12_layStreet_129 : decode cX12_layStreet 129 = .ok (.baload, 1) := by decide +kernel
theorem dX12_layStreet_130 : decode cX12_layStreet 130 = .ok (.ifCond .eq 31, 3) := by decide +kernel
theorem dX12_layStreet_133 : decode cX12_layStreet 133 = .ok (.aload_n 0, 1) := by decide +kernel
theorem dX12_layStreet_134 : decode cX12_layStreet 134 = .ok (.getfield 115, 3) := by decide +kernel
theorem dX12_layStreet_137 : decode cX12_layStreet 137 = .ok (.iload 4, 2) := by decide +kernel
theorem dX12_layStreet_139 : decode cX12_layStreet 139 = .ok (.aload_n 0, 1) := by decide +kernel
theorem dX12_layStreet_140 : decode cX12_layStreet 140 = .ok (.getfield 111, 3) := by decide +kernel
theorem dX12_layStreet_143 : decode cX12_layStreet 143 = .ok (.iload 5, 2) := by decide +kernel
theorem dX12_layStreet_145 : decode cX12_layStreet 145 = .ok (.baload, 1) := by decide +kernel
theorem dX12_layStreet_146 : decode cX12_layStreet 146 = .ok (.ifCond .ne 7, 3) := by decide +kernel
theorem dX12_layStreet_149 : decode cX12_layStreet 149 = .ok (.iconst 1, 1) := by decide +kernel
theorem dX12_layStreet_150 : decode cX12_layStreet 150 = .ok (.goto 4, 3) := by decide +kernel
theorem dX12_layStreet_153 : decode cX12_layStreet 153 = .ok (.iconst 0, 1) := by decide +kernel
theorem dX12_layStreet_154 : decode cX12_layStreet 154 = .ok (.bastore, 1) := by decide +kernel
theorem dX12_layStreet_155 : decode cX12_layStreet 155 = .ok (.iinc 5 1, 3) := by decide +kernel
theorem dX12_layStreet_158 : decode cX12_layStreet 158 = .ok (.goto (-47), 3) := by decide +kernel
theorem dX12_layStreet_161 : decode cX12_layStreet 161 = .ok (.iinc 4 1, 3) := by decide +kernel
theorem dX12_layStreet_164 : decode cX12_layStreet 164 = .ok (.goto (-78), 3) := by decide +kernel
theorem dX12_layStreet_167 : decode cX12_layStreet 167 = .ok (.return_, 1) := by decide +kernel
theorem dX12_line_0 : decode cX12_line 0 = .ok (.aload_n 0, 1) := by decide +kernel
theorem dX12_line_1 : decode cX12_line 1 = .ok (.iload_n 1, 1) := by decide +kernel
theorem dX12_line_2 : decode cX12_line 2 = .ok (.invokevirtual 453, 3) := by decide +kernel
theorem dX12_line_5 : decode cX12_line 5 = .ok (.ifCond .eq 33, 3) := by decide +kernel
theorem dX12_line_8 : decode cX12_line 8 = .ok (.aload_n 0, 1) := by decide +kernel
theorem dX12_line_9 : decode cX12_line 9 = .ok (.iload_n 2, 1) := by decide +kernel
theorem dX12_line_10 : decode cX12_line 10 = .ok (.invokevirtual 463, 3) := by decide +kernel
theorem dX12_line_13 : decode cX12_line 13 = .ok (.ifCond .eq 25, 3) := by decide +kernel
theorem dX12_line_16 : decode cX12_line 16 = .ok (.aload_n 0, 1) := by decide +kernel
theorem dX12_line_17 : decode cX12_line 17 = .ok (.iload_n 1, 1) := by decide +kernel
theorem dX12_line_18 : decode cX12_line 18 = .ok (.iload_n 3, 1) := by decide +kernel
theorem dX12_line_19 : decode cX12_line 19 = .ok (.invokevirtual 456, 3) := by decide +kernel
theorem dX12_line_22 : decode cX12_line 22 = .ok (.ifCond .eq 16, 3) := by decide +kernel
theorem dX12_line_25 : decode cX12_line 25 = .ok (.aload_n 0, 1) := by decide +kernel
theorem dX12_line_26 : decode cX12_line 26 = .ok (.iload_n 1, 1) := by decide +kernel
theorem dX12_line_27 : decode cX12_line 27 = .ok (.iload_n 2, 1) := by decide +kernel
theorem dX12_line_28 : decode cX12_line 28 = .ok (.iload_n 3, 1) := by decide +kernel
theorem dX12_line_29 : decode cX12_line 29 = .ok (.invokevirtual 466, 3) := by decide +kernel
theorem dX12_line_32 : decode cX12_line 32 = .ok (.invokestatic 348, 3) := by decide +kernel
theorem dX12_line_35 : decode cX12_line 35 = .ok (.goto 4, 3) := by decide +kernel
theorem dX12_line_38 : decode cX12_line 38 = .ok (.iconst (-1), 1) := by decide +kernel
theorem dX12_line_39 : decode cX12_line 39 = .ok (.ireturn, 1) := by decide +kernel
theorem dX12_worked_0 : decode cX12_worked 0 = .ok (.iconst 0, 1) := by decide +kernel
theorem dX12_worked_1 : decode cX12_worked 1 = .ok (.istore_n 3, 1) := by decide +kernel
theorem dX12_worked_2 : decode cX12_worked 2 = .ok (.sipush 320, 3) := by decide +kernel
theorem dX12_worked_5 : decode cX12_worked 5 = .ok (.iload_n 1, 1) := by decide +kernel
theorem dX12_worked_6 : decode cX12_worked 6 = .ok (.imul, 1) := by decide +kernel
theorem dX12_worked_7 : decode cX12_worked 7 = .ok (.istore 4, 2) := by decide +kernel
theorem dX12_worked_9 : decode cX12_worked 9 = .ok (.iload 4, 2) := by decide +kernel
theorem dX12_worked_11 : decode cX12_worked 11 = .ok (.sipush 320, 3) := by decide +kernel
theorem dX12_worked_14 : decode cX12_worked 14 = .ok (.iload_n 1, 1) := by decide +kernel
theorem dX12_worked_15 : decode cX12_worked 15 = .ok (.imul, 1) := by decide +kernel
theorem dX12_worked_16 : decode cX12_worked 16 = .ok (.aload_n 0, 1) := by decide +kernel
theorem dX12_worked_17 : decode cX12_worked 17 = .ok (.getfield 36, 3) := by decide +kernel
theorem dX12_worked_20 : decode cX12_worked 20 = .ok (.iload_n 1, 1) := by decide +kernel
theorem dX12_worked_21 : decode cX12_worked 21 = .ok (.iaload, 1) := by decide +kernel
theorem dX12_worked_22 : decode cX12_worked 22 = .ok (.iadd, 1) := by decide +kernel
theorem dX12_worked_23 : decode cX12_worked 23 = .ok (.if_icmp .ge 150, 3) := by decide +kernel
theorem dX12_worked_26 : decode cX12_worked 26 = .ok (.aload_n 0, 1) := by decide +kernel
theorem dX12_worked_27 : decode cX12_worked 27 = .ok (.getfield 30, 3) := by decide +kernel
theorem dX12_worked_30 : decode cX12_worked 30 = .ok (.iload 4, 2) := by decide +kernel
theorem dX12_worked_32 : decode cX12_worked 32 = .ok (.iaload, 1) := by decide +kernel
theorem dX12_worked_33 : decode cX12_worked 33 = .ok (.ifCond .eq 14, 3) := by decide +kernel
theorem dX12_worked_36 : decode cX12_worked 36 = .ok (.aload_n 0, 1) := by decide +kernel
theorem dX12_worked_37 : decode cX12_worked 37 = .ok (.getfield 30, 3) := by decide +kernel
theorem dX12_worked_40 : decode cX12_worked 40 = .ok (.iload 4, 2) := by decide +kernel
theorem dX12_worked_42 : decode cX12_worked 42 = .ok (.iaload, 1) := by decide +kernel
theorem dX12_worked_43 : decode cX12_worked 43 = .ok (.iconst 1, 1) := by decide +kernel
theorem dX12_worked_44 : decode cX12_worked 44 = .ok (.if_icmp .ne 47, 3) := by decide +kernel
theorem dX12_worked_47 : decode cX12_worked 47 = .ok (.aload_n 0, 1) := by decide +kernel
theorem dX12_worked_48 : decode cX12_worked 48 = .ok (.getfield 42, 3) := by decide +kernel
theorem dX12_worked_51 : decode cX12_worked 51 = .ok (.iload_n 3, 1) := by decide +kernel
theorem dX12_worked_52 : decode cX12_worked 52 = .ok (.aload_n 0, 1) := by decide +kernel
theorem dX12_worked_53 : decode cX12_worked 53 = .ok (.getfield 30, 3) := by decide +kernel
theorem dX12_worked_56 : decode cX12_worked 56 = .ok (.iload 4, 2) := by decide +kernel
theorem dX12_worked_58 : decode cX12_worked 58 = .ok (.iaload, 1) := by decide +kernel
theorem dX12_worked_59 : decode cX12_worked 59 = .ok (.ifCond .ne 13, 3) := by decide +kernel
theorem dX12_worked_62 : decode cX12_worked 62 = .ok (.aload_n 0, 1) := by decide +kernel
theorem dX12_worked_63 : decode cX12_worked 63 = .ok (.getfield 33, 3) := by decide +kernel
theorem dX12_worked_66 : decode cX12_worked 66 = .ok (.iload 4, 2) := by decide +kernel
theorem dX12_worked_68 : decode cX12_worked 68 = .ok (.iaload, 1) := by decide +kernel
theorem dX12_worked_69 : decode cX12_worked 69 = .ok (.goto 15, 3) := by decide +kernel
theorem dX12_worked_72 : decode cX12_worked 72 = .ok (.aload_n 0, 1) := by decide +kernel
theorem dX12_worked_73 : decode cX12_worked 73 = .ok (.iload_n 2, 1) := by decide +kernel
theorem dX12_worked_74 : decode cX12_worked 74 = .ok (.aload_n 0, 1) := by decide +kernel
theorem dX12_worked_75 : decode cX12_worked 75 = .ok (.getfield 33, 3) := by decide +kernel
theorem dX12_worked_78 : decode cX12_worked 78 = .ok (.iload 4, 2) := by decide +kernel
theorem dX12_worked_80 : decode cX12_worked 80 = .ok (.iaload, 1) := by decide +kernel
theorem dX12_worked_81 : decode cX12_worked 81 = .ok (.invokevirtual 352, 3) := by decide +kernel
theorem dX12_worked_84 : decode cX12_worked 84 = .ok (.iastore, 1) := by decide +kernel
theorem dX12_worked_85 : decode cX12_worked 85 = .ok (.iinc 3 1, 3) := by decide +kernel
theorem dX12_worked_88 : decode cX12_worked 88 = .ok (.goto 79, 3) := by decide +kernel
theorem dX12_worked_91 : decode cX12_worked 91 = .ok (.aload_n 0, 1) := by decide +kernel
theorem dX12_worked_92 : decode cX12_worked 92 = .ok (.getfield 30, 3) := by decide +kernel
theorem dX12_worked_95 : decode cX12_worked 95 = .ok (.iload 4, 2) := by decide +kernel
theorem dX12_worked_97 : decode cX12_worked 97 = .ok (.iaload, 1) := by decide +kernel
theorem dX12_worked_98 : decode cX12_worked 98 = .ok (.iconst 2, 1) := by decide +kernel
theorem dX12_worked_99 : decode cX12_worked 99 = .ok (.if_icmp .ne 33, 3) := by decide +kernel
theorem dX12_worked_102 : decode cX12_worked 102 = .ok (.aload_n 0, 1) := by decide +kernel
theorem dX12_worked_103 : decode cX12_worked 103 = .ok (.getfield 42, 3) := by decide +kernel
theorem dX12_worked_106 : decode cX12_worked 106 = .ok (.iload_n 3, 1) := by decide +kernel
theorem dX12_worked_107 : decode cX12_worked 107 = .ok (.iconst 1, 1) := by decide +kernel
theorem dX12_worked_108 : decode cX12_worked 108 = .ok (.isub, 1) := by decide +kernel
theorem dX12_worked_109 : decode cX12_worked 109 = .ok (.aload_n 0, 1) := by decide +kernel
theorem dX12_worked_110 : decode cX12_worked 110 = .ok (.getfield 42, 3) := by decide +kernel
theorem dX12_worked_113 : decode cX12_worked 113 = .ok (.iload_n 3, 1) := by decide +kernel
theorem dX12_worked_114 : decode cX12_worked 114 = .ok (.iconst 1, 1) := by decide +kernel
theorem dX12_worked_115 : decode cX12_worked 115 = .ok (.isub, 1) := by decide +kernel
theorem dX12_worked_116 : decode cX12_worked 116 = .ok (.iaload, 1) := by decide +kernel
theorem dX12_worked_117 : decode cX12_worked 117 = .ok (.ifCond .ne 7, 3) := by decide +kernel
theorem dX12_worked_120 : decode cX12_worked 120 = .ok (.iconst 1, 1) := by decide +kernel
theorem dX12_worked_121 : decode cX12_worked 121 = .ok (.goto 4, 3) := by decide +kernel
theorem dX12_worked_124 : decode cX12_worked 124 = .ok (.iconst 0, 1) := by decide +kernel
theorem dX12_worked_125 : decode cX12_worked 125 = .ok (.invokestatic 348, 3) := by decide +kernel
theorem dX12_worked_128 : decode cX12_worked 128 = .ok (.iastore, 1) := by decide +kernel
theorem dX12_worked_129 : decode cX12_worked 129 = .ok (.goto 38, 3) := by decide +kernel
theorem dX12_worked_132 : decode cX12_worked 132 = .ok (.iinc 3 (-1), 3) := by decide +kernel
theorem dX12_worked_135 : decode cX12_worked 135 = .ok (.aload_n 0, 1) := by decide +kernel
theorem dX12_worked_136 : decode cX12_worked 136 = .ok (.getfield 42, 3) := by decide +kernel
theorem dX12_worked_139 : decode cX12_worked 139 = .ok (.iload_n 3, 1) := by decide +kernel
theorem dX12_worked_140 : decode cX12_worked 140 = .ok (.iconst 1, 1) := by decide +kernel
theorem dX12_worked_141 : decode cX12_worked 141 = .ok (.isub, 1) := by decide +kernel
theorem dX12_worked_142 : decode cX12_worked 142 = .ok (.aload_n 0, 1) := by decide +kernel
theorem dX12_worked_143 : decode cX12_worked 143 = .ok (.getfield 33, 3) := by decide +kernel
theorem dX12_worked_146 : decode cX12_worked 146 = .ok (.iload 4, 2) := by decide +kernel
theorem dX12_worked_148 : decode cX12_worked 148 = .ok (.iaload, 1) := by decide +kernel
theorem dX12_worked_149 : decode cX12_worked 149 = .ok (.aload_n 0, 1) := by decide +kernel
theorem dX12_worked_150 : decode cX12_worked 150 = .ok (.getfield 42, 3) := by decide +kernel
theorem dX12_worked_153 : decode cX12_worked 153 = .ok (.iload_n 3, 1) := by decide +kernel
theorem dX12_worked_154 : decode cX12_worked 154 = .ok (.iconst 1, 1) := by decide +kernel
theorem dX12_worked_155 : decode cX12_worked 155 = .ok (.isub, 1) := by decide +kernel
theorem dX12_worked_156 : decode cX12_worked 156 = .ok (.iaload, 1) := by decide +kernel
theorem dX12_worked_157 : decode cX12_worked 157 = .ok (.aload_n 0, 1) := by decide +kernel
theorem dX12_worked_158 : decode cX12_worked 158 = .ok (.getfield 42, 3) := by decide +kernel
theorem dX12_worked_161 : decode cX12_worked 161 = .ok (.iload_n 3, 1) := by decide +kernel
theorem dX12_worked_162 : decode cX12_worked 162 = .ok (.iaload, 1) := by decide +kernel
theorem dX12_worked_163 : decode cX12_worked 163 = .ok (.invokestatic 355, 3) := by decide +kernel
theorem dX12_worked_166 : decode cX12_worked 166 = .ok (.iastore, 1) := by decide +kernel
theorem dX12_worked_167 : decode cX12_worked 167 = .ok (.iinc 4 1, 3) := by decide +kernel
theorem dX12_worked_170 : decode cX12_worked 170 = .ok (.goto (-161), 3) := by decide +kernel
theorem dX12_worked_173 : decode cX12_worked 173 = .ok (.aload_n 0, 1) := by decide +kernel
theorem dX12_worked_174 : decode cX12_worked 174 = .ok (.getfield 42, 3) := by decide +kernel
theorem dX12_worked_177 : decode cX12_worked 177 = .ok (.iconst 0, 1) := by decide +kernel
theorem dX12_worked_178 : decode cX12_worked 178 = .ok (.iaload, 1) := by decide +kernel
theorem dX12_worked_179 : decode cX12_worked 179 = .ok (.ireturn, 1) := by decide +kernel
set_option maxHeartbeats 4000000 in
set_option maxRecDepth 100000 in
theorem n_askOf (l : Launch) (D : va_G) (k : KT) (A : Nat → Prop) (a : Nat → Nat) (z : SK) (G : GS) (p0 : Int32) (p1 : Int32) (ha_p0 : 0 ≤ p0.toInt ∧ p0.toInt ≤ 1199) : Met l yX12_askOf (WS yX12_askOf cX12_askOf 3 (some .int)) ({ frames := 1, cells := 0, slots := 0, locals := 20 }) (va_Pc [.ref (a 66), .int p0, .int p1] (cW D k A a z G)) (va_Qi (fun (r : Int32) (G1 : GS) => Bd G1 ∧ Fr [] [] G G1) (fun (G1 : GS) t => Wd D k A a G1 t.heap) A) 0 0 A := by
  refine Met.ofW (cc := cX12_askOf) (maxL := 3) (ret := (some .int)) (by decide) rfl ?_
  intro p e s m args below meth c s₁ B hml hv
  obtain ⟨rfl, hW, hB_G, hK, hZ⟩ := hv
  have hx := B.exec
  have hb := B.bytes
  have hr := B.returns
  have hts := atoms_spec (ws := WS yX12_askOf cX12_askOf 3 (some .int)) B.pre
  have hgd : ∀ w ∈ gd, w ∈ WS yX12_askOf cX12_askOf 3 (some .int) := fun w h => List.mem_cons_of_mem _ h
  have hg : ∀ w ∈ gd, w.before _ s = true := fun w h => hts w (hgd w h)
  have hown : s.vm.findClass RX12 = some m.cls := findClass_of_methodNamed B.named
  have hS : va_S A s.heap s.heap [] := va_S.rf
  have hF : Fr [] [] G G := Fr.rf
  have hl := lv_entry ([.ref (a 66), .int p0, .int p1]) (n := 3) (Nat.le_of_ble_eq_true rfl)
  rw [lg_entry_eq]
  generalize (lg_sl ([.ref (a 66), .int p0, .int p1]) ++ List.replicate (3 - (lg_sl ([.ref (a 66), .int p0, .int p1])).length) Slot.unset).toArray = ls at hl ⊢
  have hl : lv_has ls 3 [(0, .ref (a 66)), (1, .int p0), (2, .int p1)] := hl
  refine lv_iload_n hx hb dX12_askOf_0 rfl (lv_at hl 2 rfl) ?_
  by_cases c_1 : p1 = 0
  · refine lv_tableIn (tgt := 48) hx hb dX12_askOf_1 (by rw [c_1]; decide) (by rw [c_1]; decide) (off := 47) (by rw [c_1]; decide) (by decide) ?_
    have c_1 : p1.toInt = 0 := xI_eq rfl rfl c_1
    refine lv_aload_n hx hb dX12_askOf_48 rfl (lv_at hl 0 rfl) ?_
    refine S_getR (n := 87) (C := RX12) (T := TX12) (N := 89) hx hb hg iX12 hown hK hW kd_66 rfl 35 (by decide) (hg (Cond.fieldLink RX12 75 "SlabWalkModel" "marks" "[I") m1349) (fun _ h9 => h9) rfl dX12_askOf_49 ?_
    refine lv_iload_n hx hb dX12_askOf_52 rfl (lv_at hl 1 rfl) ?_
    refine S_iald hx hb hK hW kd_87 (vin (by omega) (by omega)) dX12_askOf_53 (fun y_2 ey_2 => ?_)
    refine lv_if_ge (tgt := 61) hx hb dX12_askOf_54 (by decide) (fun c_3 => ?_) (fun c_3 => ?_)
    · have c_3 : 0 ≤ y_2.toInt := xI_le rfl rfl c_3
      refine lv_iconst (v := 0) hx hb dX12_askOf_61 (by decide) ?_
      have qc_4 : (0 : Int32).toInt = 0 := rfl
      refine S_calli (va_runS (As := [.int 0]) (rest := []) ⟨hx, hb, hml, hown, hts⟩ (n_truth l D k A a z G 0 ⟨by decide, by decide⟩) (va_cwS 1 hts (gd_S hgd m1788 m1789 m131 m1790) rfl rfl rfl (by decide +kernel) ⟨Nat.le_of_ble_eq_true rfl, Nat.le_of_ble_eq_true rfl⟩) (pre_S hW hB_G hK hZ hS) rfl rfl hl.1 rfl (lv_room (Nat.le_of_ble_eq_true rfl)) dX12_askOf_62 ⟨Nat.le_of_ble_eq_true rfl, Nat.le_of_ble_eq_true rfl⟩) hS (fun r_5 G_6 H locs hpo hW hS => ?_)
      obtain ⟨hB_G_6, hq_7, f_9, hp_8⟩ := hpo
      have hF := hF.call hq_7 (by decide) (by decide)
      exact W.iret (v := r_5) hx hb hr (fun t ht _ => ⟨⟨r_5, G_6, rfl, ⟨hB_G_6, hF⟩, wd_t ht hW⟩, hS.F ht⟩) hS.2.2 dX12_askOf_65
    · have c_3 : y_2.toInt < 0 := xI_nle rfl rfl c_3
      refine lv_iconst (v := 1) hx hb dX12_askOf_57 (by decide) ?_
      refine lv_goto (tgt := 62) hx hb dX12_askOf_58 (by decide) ?_
      have qc_10 : (1 : Int32).toInt = 1 := rfl
      refine S_calli (va_runS (As := [.int 1]) (rest := []) ⟨hx, hb, hml, hown, hts⟩ (n_truth l D k A a z G 1 ⟨by decide, by decide⟩) (va_cwS 1 hts (gd_S hgd m1788 m1789 m131 m1790) rfl rfl rfl (by decide +kernel) ⟨Nat.le_of_ble_eq_true rfl, Nat.le_of_ble_eq_true rfl⟩) (pre_S hW hB_G hK hZ hS) rfl rfl hl.1 rfl (lv_room (Nat.le_of_ble_eq_true rfl)) dX12_askOf_62 ⟨Nat.le_of_ble_eq_true rfl, Nat.le_of_ble_eq_true rfl⟩) hS (fun r_11 G_12 H locs hpo hW hS => ?_)
      obtain ⟨hB_G_12, hq_13, f_15, hp_14⟩ := hpo
      have hF := hF.call hq_13 (by decide) (by decide)
      exact W.iret (v := r_11) hx hb hr (fun t ht _ => ⟨⟨r_11, G_12, rfl, ⟨hB_G_12, hF⟩, wd_t ht hW⟩, hS.F ht⟩) hS.2.2 dX12_askOf_65
  by_cases c_16 : p1 = 1
  · refine lv_tableIn (tgt := 66) hx hb dX12_askOf_1 (by rw [c_16]; decide) (by rw [c_16]; decide) (off := 65) (by rw [c_16]; decide) (by decide) ?_
    have c_16 : p1.toInt = 1 := xI_eq rfl rfl c_16
    refine lv_aload_n hx hb dX12_askOf_66 rfl (lv_at hl 0 rfl) ?_
    refine S_getR (n := 87) (C := RX12) (T := TX12) (N := 89) hx hb hg iX12 hown hK hW kd_66 rfl 35 (by decide) (hg (Cond.fieldLink RX12 75 "SlabWalkModel" "marks" "[I") m1349) (fun _ h9 => h9) rfl dX12_askOf_67 ?_
    refine lv_iload_n hx hb dX12_askOf_70 rfl (lv_at hl 1 rfl) ?_
    refine S_iald hx hb hK hW kd_87 (vin (by omega) (by omega)) dX12_askOf_71 (fun y_17 ey_17 => ?_)
    refine lv_if_ge (tgt := 79) hx hb dX12_askOf_72 (by decide) (fun c_18 => ?_) (fun c_18 => ?_)
    · have c_18 : 0 ≤ y_17.toInt := xI_le rfl rfl c_18
      refine lv_aload_n hx hb dX12_askOf_79 rfl (lv_at hl 0 rfl) ?_
      refine S_getR (n := 87) (C := RX12) (T := TX12) (N := 89) hx hb hg iX12 hown hK hW kd_66 rfl 35 (by decide) (hg (Cond.fieldLink RX12 75 "SlabWalkModel" "marks" "[I") m1349) (fun _ h9 => h9) rfl dX12_askOf_80 ?_
      refine lv_iload_n hx hb dX12_askOf_83 rfl (lv_at hl 1 rfl) ?_
      refine S_iald hx hb hK hW kd_87 (vin (by omega) (by omega)) dX12_askOf_84 (fun y_19 ey_19 => ?_)
      refine lv_iload_n hx hb dX12_askOf_85 rfl (lv_at hl 2 rfl) ?_
      refine lv_iconst (v := 1) hx hb dX12_askOf_86 (by decide) ?_
      refine lv_isub hx hb dX12_askOf_87 ?_
      refine lv_topi (fun y_20 ey_20 => ?_)
      have ty_20 : y_20.toInt = p1.toInt - 1 := xI_sub rfl rfl ey_20 (by omega) (by omega)
      refine lv_ishr hx hb dX12_askOf_88 ?_
      refine lv_topi (fun y_21 ey_21 => ?_)
      refine lv_iconst (v := 1) hx hb dX12_askOf_89 (by decide) ?_
      refine lv_iand hx hb dX12_askOf_90 ?_
      refine lv_topi (fun y_22 ey_22 => ?_)
      have ty_22 := xI_and (Y := 1) rfl ey_22 (by decide)
      exact W.iret (v := y_22) hx hb hr (fun t ht _ => ⟨⟨y_22, G, rfl, ⟨hB_G, hF⟩, wd_t ht hW⟩, hS.F ht⟩) hS.2.2 dX12_askOf_91
    · have c_18 : y_17.toInt < 0 := xI_nle rfl rfl c_18
      refine lv_iconst (v := 0) hx hb dX12_askOf_75 (by decide) ?_
      refine lv_goto (tgt := 91) hx hb dX12_askOf_76 (by decide) ?_
      exact W.iret (v := 0) hx hb hr (fun t ht _ => ⟨⟨0, G, rfl, ⟨hB_G, hF⟩, wd_t ht hW⟩, hS.F ht⟩) hS.2.2 dX12_askOf_91
  by_cases c_23 : p1 = 2
  · refine lv_tableIn (tgt := 66) hx hb dX12_askOf_1 (by rw [c_23]; decide) (by rw [c_23]; decide) (off := 65) (by rw [c_23]; decide) (by decide) ?_
    have c_23 : p1.toInt = 2 := xI_eq rfl rfl c_23
    refine lv_aload_n hx hb dX12_askOf_66 rfl (lv_at hl 0 rfl) ?_
    refine S_getR (n := 87) (C := RX12) (T := TX12) (N := 89) hx hb hg iX12 hown hK hW kd_66 rfl 35 (by decide) (hg (Cond.fieldLink RX12 75 "SlabWalkModel" "marks" "[I") m1349) (fun _ h9 => h9) rfl dX12_askOf_67 ?_
    refine lv_iload_n hx hb dX12_askOf_70 rfl (lv_at hl 1 rfl) ?_
    refine S_iald hx hb hK hW kd_87 (vin (by omega) (by omega)) dX12_askOf_71 (fun y_24 ey_24 => ?_)
    refine lv_if_ge (tgt := 79) hx hb dX12_askOf_72 (by decide) (fun c_25 => ?_) (fun c_25 => ?_)
    · have c_25 : 0 ≤ y_24.toInt := xI_le rfl rfl c_25
      refine lv_aload_n hx hb dX12_askOf_79 rfl (lv_at hl 0 rfl) ?_
      refine S_getR (n := 87) (C := RX12) (T := TX12) (N := 89) hx hb hg iX12 hown hK hW kd_66 rfl 35 (by decide) (hg (Cond.fieldLink RX12 75 "SlabWalkModel" "marks" "[I") m1349) (fun _ h9 => h9) rfl dX12_askOf_80 ?_
      refine lv_iload_n hx hb dX12_askOf_83 rfl (lv_at hl 1 rfl) ?_
      refine S_iald hx hb hK hW kd_87 (vin (by omega) (by omega)) dX12_askOf_84 (fun y_26 ey_26 => ?_)
      refine lv_iload_n hx hb dX12_askOf_85 rfl (lv_at hl 2 rfl) ?_
      refine lv_iconst (v := 1) hx hb dX12_askOf_86 (by decide) ?_
      refine lv_isub hx hb dX12_askOf_87 ?_
      refine lv_topi (fun y_27 ey_27 => ?_)
      have ty_27 : y_27.toInt = p1.toInt - 1 := xI_sub rfl rfl ey_27 (by omega) (by omega)
      refine lv_ishr hx hb dX12_askOf_88 ?_
      refine lv_topi (fun y_28 ey_28 => ?_)
      refine lv_iconst (v := 1) hx hb dX12_askOf_89 (by decide) ?_
      refine lv_iand hx hb dX12_askOf_90 ?_
      refine lv_topi (fun y_29 ey_29 => ?_)
      have ty_29 := xI_and (Y := 1) rfl ey_29 (by decide)
      exact W.iret (v := y_29) hx hb hr (fun t ht _ => ⟨⟨y_29, G, rfl, ⟨hB_G, hF⟩, wd_t ht hW⟩, hS.F ht⟩) hS.2.2 dX12_askOf_91
    · have c_25 : y_24.toInt < 0 := xI_nle rfl rfl c_25
      refine lv_iconst (v := 0) hx hb dX12_askOf_75 (by decide) ?_
      refine lv_goto (tgt := 91) hx hb dX12_askOf_76 (by decide) ?_
      exact W.iret (v := 0) hx hb hr (fun t ht _ => ⟨⟨0, G, rfl, ⟨hB_G, hF⟩, wd_t ht hW⟩, hS.F ht⟩) hS.2.2 dX12_askOf_91
  by_cases c_30 : p1 = 3
  · refine lv_tableIn (tgt := 66) hx hb dX12_askOf_1 (by rw [c_30]; decide) (by rw [c_30]; decide) (off := 65) (by rw [c_30]; decide) (by decide) ?_
    have c_30 : p1.toInt = 3 := xI_eq rfl rfl c_30
    refine lv_aload_n hx hb dX12_askOf_66 rfl (lv_at hl 0 rfl) ?_
    refine S_getR (n := 87) (C := RX12) (T := TX12) (N := 89) hx hb hg iX12 hown hK hW kd_66 rfl 35 (by decide) (hg (Cond.fieldLink RX12 75 "SlabWalkModel" "marks" "[I") m1349) (fun _ h9 => h9) rfl dX12_askOf_67 ?_
    refine lv_iload_n hx hb dX12_askOf_70 rfl (lv_at hl 1 rfl) ?_
    refine S_iald hx hb hK hW kd_87 (vin (by omega) (by omega)) dX12_askOf_71 (fun y_31 ey_31 => ?_)
    refine lv_if_ge (tgt := 79) hx hb dX12_askOf_72 (by decide) (fun c_32 => ?_) (fun c_32 => ?_)
    · have c_32 : 0 ≤ y_31.toInt := xI_le rfl rfl c_32
      refine lv_aload_n hx hb dX12_askOf_79 rfl (lv_at hl 0 rfl) ?_
      refine S_getR (n := 87) (C := RX12) (T := TX12) (N := 89) hx hb hg iX12 hown hK hW kd_66 rfl 35 (by decide) (hg (Cond.fieldLink RX12 75 "SlabWalkModel" "marks" "[I") m1349) (fun _ h9 => h9) rfl dX12_askOf_80 ?_
      refine lv_iload_n hx hb dX12_askOf_83 rfl (lv_at hl 1 rfl) ?_
      refine S_iald hx hb hK hW kd_87 (vin (by omega) (by omega)) dX12_askOf_84 (fun y_33 ey_33 => ?_)
      refine lv_iload_n hx hb dX12_askOf_85 rfl (lv_at hl 2 rfl) ?_
      refine lv_iconst (v := 1) hx hb dX12_askOf_86 (by decide) ?_
      refine lv_isub hx hb dX12_askOf_87 ?_
      refine lv_topi (fun y_34 ey_34 => ?_)
      have ty_34 : y_34.toInt = p1.toInt - 1 := xI_sub rfl rfl ey_34 (by omega) (by omega)
      refine lv_ishr hx hb dX12_askOf_88 ?_
      refine lv_topi (fun y_35 ey_35 => ?_)
      refine lv_iconst (v := 1) hx hb dX12_askOf_89 (by decide) ?_
      refine lv_iand hx hb dX12_askOf_90 ?_
      refine lv_topi (fun y_36 ey_36 => ?_)
      have ty_36 := xI_and (Y := 1) rfl ey_36 (by decide)
      exact W.iret (v := y_36) hx hb hr (fun t ht _ => ⟨⟨y_36, G, rfl, ⟨hB_G, hF⟩, wd_t ht hW⟩, hS.F ht⟩) hS.2.2 dX12_askOf_91
    · have c_32 : y_31.toInt < 0 := xI_nle rfl rfl c_32
      refine lv_iconst (v := 0) hx hb dX12_askOf_75 (by decide) ?_
      refine lv_goto (tgt := 91) hx hb dX12_askOf_76 (by decide) ?_
      exact W.iret (v := 0) hx hb hr (fun t ht _ => ⟨⟨0, G, rfl, ⟨hB_G, hF⟩, wd_t ht hW⟩, hS.F ht⟩) hS.2.2 dX12_askOf_91
  by_cases c_37 : p1 = 4
  · refine lv_tableIn (tgt := 66) hx hb dX12_askOf_1 (by rw [c_37]; decide) (by rw [c_37]; decide) (off := 65) (by rw [c_37]; decide) (by decide) ?_
    have c_37 : p1.toInt = 4 := xI_eq rfl rfl c_37
    refine lv_aload_n hx hb dX12_askOf_66 rfl (lv_at hl 0 rfl) ?_
    refine S_getR (n := 87) (C := RX12) (T := TX12) (N := 89) hx hb hg iX12 hown hK hW kd_66 rfl 35 (by decide) (hg (Cond.fieldLink RX12 75 "SlabWalkModel" "marks" "[I") m1349) (fun _ h9 => h9) rfl dX12_askOf_67 ?_
    refine lv_iload_n hx hb dX12_askOf_70 rfl (lv_at hl 1 rfl) ?_
    refine S_iald hx hb hK hW kd_87 (vin (by omega) (by omega)) dX12_askOf_71 (fun y_38 ey_38 => ?_)
    refine lv_if_ge (tgt := 79) hx hb dX12_askOf_72 (by decide) (fun c_39 => ?_) (fun c_39 => ?_)
    · have c_39 : 0 ≤ y_38.toInt := xI_le rfl rfl c_39
      refine lv_aload_n hx hb dX12_askOf_79 rfl (lv_at hl 0 rfl) ?_
      refine S_getR (n := 87) (C := RX12) (T := TX12) (N := 89) hx hb hg iX12 hown hK hW kd_66 rfl 35 (by decide) (hg (Cond.fieldLink RX12 75 "SlabWalkModel" "marks" "[I") m1349) (fun _ h9 => h9) rfl dX12_askOf_80 ?_
      refine lv_iload_n hx hb dX12_askOf_83 rfl (lv_at hl 1 rfl) ?_
      refine S_iald hx hb hK hW kd_87 (vin (by omega) (by omega)) dX12_askOf_84 (fun y_40 ey_40 => ?_)
      refine lv_iload_n hx hb dX12_askOf_85 rfl (lv_at hl 2 rfl) ?_
      refine lv_iconst (v := 1) hx hb dX12_askOf_86 (by decide) ?_
      refine lv_isub hx hb dX12_askOf_87 ?_
      refine lv_topi (fun y_41 ey_41 => ?_)
      have ty_41 : y_41.toInt = p1.toInt - 1 := xI_sub rfl rfl ey_41 (by omega) (by omega)
      refine lv_ishr hx hb dX12_askOf_88 ?_
      refine lv_topi (fun y_42 ey_42 => ?_)
      refine lv_iconst (v := 1) hx hb dX12_askOf_89 (by decide) ?_
      refine lv_iand hx hb dX12_askOf_90 ?_
      refine lv_topi (fun y_43 ey_43 => ?_)
      have ty_43 := xI_and (Y := 1) rfl ey_43 (by decide)
      exact W.iret (v := y_43) hx hb hr (fun t ht _ => ⟨⟨y_43, G, rfl, ⟨hB_G, hF⟩, wd_t ht hW⟩, hS.F ht⟩) hS.2.2 dX12_askOf_91
    · have c_39 : y_38.toInt < 0 := xI_nle rfl rfl c_39
      refine lv_iconst (v := 0) hx hb dX12_askOf_75 (by decide) ?_
      refine lv_goto (tgt := 91) hx hb dX12_askOf_76 (by decide) ?_
      exact W.iret (v := 0) hx hb hr (fun t ht _ => ⟨⟨0, G, rfl, ⟨hB_G, hF⟩, wd_t ht hW⟩, hS.F ht⟩) hS.2.2 dX12_askOf_91
  by_cases c_44 : p1 = 5
  · refine lv_tableIn (tgt := 92) hx hb dX12_askOf_1 (by rw [c_44]; decide) (by rw [c_44]; decide) (off := 91) (by rw [c_44]; decide) (by decide) ?_
    have c_44 : p1.toInt = 5 := xI_eq rfl rfl c_44
    refine lv_aload_n hx hb dX12_askOf_92 rfl (lv_at hl 0 rfl) ?_
    refine S_getR (n := 90) (C := RX12) (T := TX12) (N := 89) hx hb hg iX12 hown hK hW kd_66 rfl 38 (by decide) (hg (Cond.fieldLink RX12 84 "SlabWalkModel" "longs" "[I") m1352) (fun _ h9 => h9) rfl dX12_askOf_93 ?_
    refine lv_iload_n hx hb dX12_askOf_96 rfl (lv_at hl 1 rfl) ?_
    refine S_iald hx hb hK hW kd_90 (vin (by omega) (by omega)) dX12_askOf_97 (fun y_45 ey_45 => ?_)
    exact W.iret (v := y_45) hx hb hr (fun t ht _ => ⟨⟨y_45, G, rfl, ⟨hB_G, hF⟩, wd_t ht hW⟩, hS.F ht⟩) hS.2.2 dX12_askOf_98
  by_cases c_46 : p1 = 6
  · refine lv_tableIn (tgt := 99) hx hb dX12_askOf_1 (by rw [c_46]; decide) (by rw [c_46]; decide) (off := 98) (by rw [c_46]; decide) (by decide) ?_
    have c_46 : p1.toInt = 6 := xI_eq rfl rfl c_46
    refine lv_aload_n hx hb dX12_askOf_99 rfl (lv_at hl 0 rfl) ?_
    refine S_getR (n := 88) (C := RX12) (T := TX12) (N := 89) hx hb hg iX12 hown hK hW kd_66 rfl 36 (by decide) (hg (Cond.fieldLink RX12 78 "SlabWalkModel" "nths" "[I") m1350) (fun _ h9 => h9) rfl dX12_askOf_100 ?_
    refine lv_iload_n hx hb dX12_askOf_103 rfl (lv_at hl 1 rfl) ?_
    refine S_iald hx hb hK hW kd_88 (vin (by omega) (by omega)) dX12_askOf_104 (fun y_47 ey_47 => ?_)
    exact W.iret (v := y_47) hx hb hr (fun t ht _ => ⟨⟨y_47, G, rfl, ⟨hB_G, hF⟩, wd_t ht hW⟩, hS.F ht⟩) hS.2.2 dX12_askOf_105
  by_cases c_48 : p1 = 7
  · refine lv_tableIn (tgt := 106) hx hb dX12_askOf_1 (by rw [c_48]; decide) (by rw [c_48]; decide) (off := 105) (by rw [c_48]; decide) (by decide) ?_
    have c_48 : p1.toInt = 7 := xI_eq rfl rfl c_48
    refine lv_aload_n hx hb dX12_askOf_106 rfl (lv_at hl 0 rfl) ?_
    refine S_getR (n := 89) (C := RX12) (T := TX12) (N := 89) hx hb hg iX12 hown hK hW kd_66 rfl 37 (by decide) (hg (Cond.fieldLink RX12 81 "SlabWalkModel" "inches" "[I") m1351) (fun _ h9 => h9) rfl dX12_askOf_107 ?_
    refine lv_iload_n hx hb dX12_askOf_110 rfl (lv_at hl 1 rfl) ?_
    refine S_iald hx hb hK hW kd_89 (vin (by omega) (by omega)) dX12_askOf_111 (fun y_49 ey_49 => ?_)
    exact W.iret (v := y_49) hx hb hr (fun t ht _ => ⟨⟨y_49, G, rfl, ⟨hB_G, hF⟩, wd_t ht hW⟩, hS.F ht⟩) hS.2.2 dX12_askOf_112
  refine lv_tableOut (tgt := 113) hx hb dX12_askOf_1 (tb_out (lo := 0) (hi := 7) (by have c_1 := xI_ne (Y := 0) rfl rfl c_1; have c_16 := xI_ne (Y := 1) rfl rfl c_16; have c_23 := xI_ne (Y := 2) rfl rfl c_23; have c_30 := xI_ne (Y := 3) rfl rfl c_30; have c_37 := xI_ne (Y := 4) rfl rfl c_37; have c_44 := xI_ne (Y := 5) rfl rfl c_44; have c_46 := xI_ne (Y := 6) rfl rfl c_46; have c_48 := xI_ne (Y := 7) rfl rfl c_48; omega)) (by decide) ?_
  have c_1 := xI_ne (Y := 0) rfl rfl c_1
  have c_16 := xI_ne (Y := 1) rfl rfl c_16
  have c_23 := xI_ne (Y := 2) rfl rfl c_23
  have c_30 := xI_ne (Y := 3) rfl rfl c_30
  have c_37 := xI_ne (Y := 4) rfl rfl c_37
  have c_44 := xI_ne (Y := 5) rfl rfl c_44
  have c_46 := xI_ne (Y := 6) rfl rfl c_46
  have c_48 := xI_ne (Y := 7) rfl rfl c_48
  refine lv_aload_n hx hb dX12_askOf_113 rfl (lv_at hl 0 rfl) ?_
  refine S_getR (n := 110) (C := RX12) (T := TX12) (N := 89) hx hb hg iX12 hown hK hW kd_66 rfl 76 (by decide) (hg (Cond.fieldLink RX12 151 "SlabWalkModel" "now" "[I") m1390) (fun _ h9 => h9) rfl dX12_askOf_114 ?_
  refine lv_bipush (v := 6) hx hb dX12_askOf_117 (by decide) ?_
  refine S_iald hx hb hK hW kd_110 (vin (by decide) (by decide)) dX12_askOf_119 (fun y_50 ey_50 => ?_)
  exact W.iret (v := y_50) hx hb hr (fun t ht _ => ⟨⟨y_50, G, rfl, ⟨hB_G, hF⟩, wd_t ht hW⟩, hS.F ht⟩) hS.2.2 dX12_askOf_120

set_option maxHeartbeats 4000000 in
set_option maxRecDepth 100000 in
theorem n_worked (l : Launch) (D : va_G) (k : KT) (A : Nat → Prop) (a : Nat → Nat) (z : SK) (G : GS) (p0 : Int32) (p1 : Int32) (ha_p0 : 0 ≤ p0.toInt ∧ p0.toInt ≤ 5) (ha_p1 : 0 ≤ p1.toInt ∧ p1.toInt ≤ 1199) (hP9 : gP G = 1) (hpr : p0.toInt < (G.1 66 54).toInt) : Met l yX12_worked (WS yX12_worked cX12_worked 5 (some .int)) ({ frames := 2, cells := 0, slots := 0, locals := 42 }) (va_Pc [.ref (a 66), .int p0, .int p1] (cW D k A a z G)) (va_Qi (fun (r : Int32) (G1 : GS) => Bd G1 ∧ Fr [76] [] G G1) (fun (G1 : GS) t => Wd D k A a G1 t.heap) A) 0 0 A := by
  refine Met.ofW (cc := cX12_worked) (maxL := 5) (ret := (some .int)) (by decide) rfl ?_
  intro p e s m args below meth c s₁ B hml hv
  obtain ⟨rfl, hW, hB_G, hK, hZ⟩ := hv
  have hx := B.exec
  have hb := B.bytes
  have hr := B.returns
  have hts := atoms_spec (ws := WS yX12_worked cX12_worked 5 (some .int)) B.pre
  have hgd : ∀ w ∈ gd, w ∈ WS yX12_worked cX12_worked 5 (some .int) := fun w h => List.mem_cons_of_mem _ h
  have hg : ∀ w ∈ gd, w.before _ s = true := fun w h => hts w (hgd w h)
  have hown : s.vm.findClass RX12 = some m.cls := findClass_of_methodNamed B.named
  have hS : va_S A s.heap s.heap [] := va_S.rf
  have hF : Fr [76] [] G G := Fr.rf
  have hl := lv_entry ([.ref (a 66), .int p0, .int p1]) (n := 5) (Nat.le_of_ble_eq_true rfl)
  rw [lg_entry_eq]
  generalize (lg_sl ([.ref (a 66), .int p0, .int p1]) ++ List.replicate (5 - (lg_sl ([.ref (a 66), .int p0, .int p1])).length) Slot.unset).toArray = ls at hl ⊢
  have hl : lv_has ls 5 [(0, .ref (a 66)), (1, .int p0), (2, .int p1)] := hl
  refine lv_iconst (v := 0) hx hb dX12_worked_0 (by decide) ?_
  refine lv_istore_n (lv' := [(3, .int 0), (0, .ref (a 66)), (1, .int p0), (2, .int p1)]) hx hb dX12_worked_1 rfl hl (by decide) rfl (fun ls hl => ?_)
  refine lv_sipush (v := 320) hx hb dX12_worked_2 (by decide) ?_
  refine lv_iload_n hx hb dX12_worked_5 rfl (lv_at hl 2 rfl) ?_
  refine lv_imul hx hb dX12_worked_6 ?_
  refine lv_topi (fun y_1 ey_1 => ?_)
  have ty_1 : y_1.toInt = 320 * p0.toInt := xI_mul rfl rfl ey_1 (by omega) (by omega)
  have u_2 : dpK (G.1 72) (320 * p0.toInt) y_1.toInt = 0 := by rw [ty_1]; exact dpK_0 _ _
  have u_3 : 0 ≤ (G.1 74 p0.toNatClampNeg).toInt ∧ (G.1 74 p0.toNatClampNeg).toInt ≤ 320 := hB_G.i 74 _ rfl rfl
  refine lv_istore (lv' := [(4, .int y_1), (3, .int 0), (0, .ref (a 66)), (1, .int p0), (2, .int p1)]) hx hb dX12_worked_7 hl (by decide) rfl (fun ls hl => ?_)
  have qc_10 : (0 : Int32).toInt = 0 := rfl
  refine loop_N (Inv := fun n H locs ls => ∃ (G_4 : GS) (x_8 : Int32) (x_9 : Int32), (n : Int) = 1920 - x_8.toInt ∧ (0 ≤ x_8.toInt ∧ x_8.toInt ≤ 1920) ∧ (0 ≤ x_9.toInt ∧ x_9.toInt ≤ 41) ∧ (x_9.toInt = dpK (G.1 72) (320 * p0.toInt) x_8.toInt) ∧ (320 * p0.toInt ≤ x_8.toInt) ∧ (x_8.toInt ≤ 320 * p0.toInt + (G.1 74 p0.toNatClampNeg).toInt) ∧ Wd D k A a G_4 H ∧ Bd G_4 ∧ Fr [76] [] G G_4 ∧ Fr [76] [] G G_4 ∧ va_S A s.heap H locs ∧ lv_has ls 5 [(4, .int x_8), (3, .int x_9), (0, .ref (a 66)), (1, .int p0), (2, .int p1)]) (fun n_7 H locs ls ih_6 hI => ?_) (1920 - y_1.toInt : Int).toNat ⟨G, y_1, 0, (Int.toNat_of_nonneg (by omega)), ⟨by omega, by omega⟩, ⟨by omega, by omega⟩, (by omega), (by omega), (by omega), hW, hB_G, hF, Fr.rf, hS, lv_sub hl [0, 1, 2, 3, 4] rfl⟩
  obtain ⟨G_4, x_8, x_9, hn_16, f_11, f_12, f_13, f_14, f_15, hW, hB_G_4, hF, hq_5, hS, hl⟩ := hI
  refine lv_iload hx hb dX12_worked_9 (lv_at hl 0 rfl) ?_
  refine lv_sipush (v := 320) hx hb dX12_worked_11 (by decide) ?_
  refine lv_iload_n hx hb dX12_worked_14 rfl (lv_at hl 3 rfl) ?_
  refine lv_imul hx hb dX12_worked_15 ?_
  refine lv_topi (fun y_17 ey_17 => ?_)
  have ty_17 : y_17.toInt = 320 * p0.toInt := xI_mul rfl rfl ey_17 (by omega) (by omega)
  refine lv_aload_n hx hb dX12_worked_16 rfl (lv_at hl 2 rfl) ?_
  refine S_getR (n := 74) (C := RX12) (T := TX12) (N := 89) hx hb hg iX12 hown hK hW kd_66 rfl 16 (by decide) (hg (Cond.fieldLink RX12 36 "SlabWalkModel" "many" "[I") m1330) (fun _ h9 => h9) rfl dX12_worked_17 ?_
  refine lv_iload_n hx hb dX12_worked_20 rfl (lv_at hl 3 rfl) ?_
  refine S_iald hx hb hK hW kd_74 (vin (by omega) (by omega)) dX12_worked_21 (fun y_18 ey_18 => ?_)
  have ty_18 : 0 ≤ y_18.toInt ∧ y_18.toInt ≤ 320 := hB_G_4.v ey_18 rfl rfl
  have u_19 : y_18.toInt = (G.1 74 p0.toNatClampNeg).toInt := congrArg Int32.toInt (ey_18.trans ((hq_5.ri 74 (by decide) (by decide) p0.toNatClampNeg)))
  refine lv_iadd hx hb dX12_worked_22 ?_
  refine lv_topi (fun y_20 ey_20 => ?_)
  have ty_20 : y_20.toInt = y_17.toInt + y_18.toInt := xI_add rfl rfl ey_20 (by omega) (by omega)
  refine lv_icmp_ge (tgt := 173) hx hb dX12_worked_23 (by decide) (fun c_21 => ?_) (fun c_21 => ?_)
  · have c_21 : y_20.toInt ≤ x_8.toInt := xI_le rfl rfl c_21
    refine lv_aload_n hx hb dX12_worked_173 rfl (lv_at hl 2 rfl) ?_
    refine S_getR (n := 76) (C := RX12) (T := TX12) (N := 89) hx hb hg iX12 hown hK hW kd_66 rfl 18 (by decide) (hg (Cond.fieldLink RX12 42 "SlabWalkModel" "values" "[I") m1332) (fun _ h9 => h9) rfl dX12_worked_174 ?_
    refine lv_iconst (v := 0) hx hb dX12_worked_177 (by decide) ?_
    refine S_iald hx hb hK hW kd_76 (vin (by decide) (by decide)) dX12_worked_178 (fun y_22 ey_22 => ?_)
    exact W.iret (v := y_22) hx hb hr (fun t ht _ => ⟨⟨y_22, G_4, rfl, ⟨hB_G_4, hF⟩, wd_t ht hW⟩, hS.F ht⟩) hS.2.2 dX12_worked_179
  · have c_21 : x_8.toInt < y_20.toInt := xI_nle rfl rfl c_21
    refine lv_aload_n hx hb dX12_worked_26 rfl (lv_at hl 2 rfl) ?_
    refine S_getR (n := 72) (C := RX12) (T := TX12) (N := 89) hx hb hg iX12 hown hK hW kd_66 rfl 14 (by decide) (hg (Cond.fieldLink RX12 30 "SlabWalkModel" "step" "[I") m1328) (fun _ h9 => h9) rfl dX12_worked_27 ?_
    refine lv_iload hx hb dX12_worked_30 (lv_at hl 0 rfl) ?_
    refine S_iald hx hb hK hW kd_72 (vin (by omega) (by omega)) dX12_worked_32 (fun y_23 ey_23 => ?_)
    have u_24 : y_23.toInt = (G.1 72 x_8.toNatClampNeg).toInt := congrArg Int32.toInt (ey_23.trans ((hq_5.ri 72 (by decide) (by decide) x_8.toNatClampNeg)))
    have u_25 := wk_step (ind_p hP9) (p := p0) (k := x_8) (y := y_23) (by omega) (by rw [tN (by omega)]; omega) (by omega) (by omega) (by omega)
    refine lv_if_eq (tgt := 47) hx hb dX12_worked_33 (by decide) (fun c_26 => ?_) (fun c_26 => ?_)
    · have c_26 : y_23.toInt = 0 := xI_eq rfl rfl c_26
      refine lv_aload_n hx hb dX12_worked_47 rfl (lv_at hl 2 rfl) ?_
      refine S_getR (n := 76) (C := RX12) (T := TX12) (N := 89) hx hb hg iX12 hown hK hW kd_66 rfl 18 (by decide) (hg (Cond.fieldLink RX12 42 "SlabWalkModel" "values" "[I") m1332) (fun _ h9 => h9) rfl dX12_worked_48 ?_
      refine lv_iload_n hx hb dX12_worked_51 rfl (lv_at hl 1 rfl) ?_
      refine lv_aload_n hx hb dX12_worked_52 rfl (lv_at hl 2 rfl) ?_
      refine S_getR (n := 72) (C := RX12) (T := TX12) (N := 89) hx hb hg iX12 hown hK hW kd_66 rfl 14 (by decide) (hg (Cond.fieldLink RX12 30 "SlabWalkModel" "step" "[I") m1328) (fun _ h9 => h9) rfl dX12_worked_53 ?_
      refine lv_iload hx hb dX12_worked_56 (lv_at hl 0 rfl) ?_
      refine S_iald hx hb hK hW kd_72 (vin (by omega) (by omega)) dX12_worked_58 (fun y_27 ey_27 => ?_)
      have u_28 : y_27.toInt = y_23.toInt := congrArg Int32.toInt (ey_27.trans (ey_23.symm))
      refine lv_if_ne (tgt := 72) hx hb dX12_worked_59 (by decide) (fun c_29 => ?_) (fun c_29 => ?_)
      · have c_29 : y_27.toInt ≠ 0 := xI_ne rfl rfl c_29
        refine lv_aload_n hx hb dX12_worked_72 rfl (lv_at hl 2 rfl) ?_
        refine lv_iload_n hx hb dX12_worked_73 rfl (lv_at hl 4 rfl) ?_
        refine lv_aload_n hx hb dX12_worked_74 rfl (lv_at hl 2 rfl) ?_
        refine S_getR (n := 73) (C := RX12) (T := TX12) (N := 89) hx hb hg iX12 hown hK hW kd_66 rfl 15 (by decide) (hg (Cond.fieldLink RX12 33 "SlabWalkModel" "arg" "[I") m1329) (fun _ h9 => h9) rfl dX12_worked_75 ?_
        refine lv_iload hx hb dX12_worked_78 (lv_at hl 0 rfl) ?_
        refine S_iald hx hb hK hW kd_73 (vin (by omega) (by omega)) dX12_worked_80 (fun y_30 ey_30 => ?_)
        have u_31 : y_30.toInt = (G.1 73 x_8.toNatClampNeg).toInt := congrArg Int32.toInt (ey_30.trans ((hq_5.ri 73 (by decide) (by decide) x_8.toNatClampNeg)))
        refine S_calli (va_runV (As := [.int p1, .int y_30]) (rest := [.int x_9, .ref (a 76)]) ⟨hx, hb, hml, hown, hts⟩ (n_askOf l D k A a z G_4 p1 y_30 ⟨by omega, by omega⟩) (cwV 2 hts (gd_V hgd m1811 m1813 m88 m131 m1814) rfl rfl rfl (by decide +kernel) ⟨Nat.le_of_ble_eq_true rfl, Nat.le_of_ble_eq_true rfl⟩) (pre_V hW hB_G_4 hK hZ hS kd_66 rfl) rfl rfl hl.1 rfl (lv_room (Nat.le_of_ble_eq_true rfl)) dX12_worked_81 ⟨Nat.le_of_ble_eq_true rfl, Nat.le_of_ble_eq_true rfl⟩) hS (fun r_32 G_33 H locs hpo hW hS => ?_)
        obtain ⟨hB_G_33, hq_34⟩ := hpo
        have hF := hF.call hq_34 (by decide) (by decide)
        refine S_iast hx hb hK hW hS kd_76 (vin (by omega) (by omega)) dX12_worked_84 (fun G_36 H locs eG_36 hW hS => ?_)
        have hB_G_36 : Bd G_36 := hB_G_33.put (lo := (-2147483648)) (hi := 2147483647) eG_36 rfl rfl rfl (tI_rng _).1 (tI_rng _).2 (hB_G_33.2.put eG_36 rfl)
        have hF := hF.put eG_36 (Or.inl (by decide))
        obtain ⟨y_37, ey_37⟩ : ∃ q, q = x_9 + 1 := ⟨_, rfl⟩
        have ty_37 : y_37.toInt = x_9.toInt + 1 := xI_add rfl rfl ey_37 (by omega) (by omega)
        refine lv_iinc (v := y_37) (lv' := [(3, .int y_37), (4, .int x_8), (0, .ref (a 66)), (1, .int p0), (2, .int p1)]) hx hb dX12_worked_85 hl (k := 1) rfl (by rw [ey_37]; rfl) (by decide) rfl (fun ls hl => ?_)
        refine lv_goto (tgt := 167) hx hb dX12_worked_88 (by decide) ?_
        obtain ⟨y_38, ey_38⟩ : ∃ q, q = x_8 + 1 := ⟨_, rfl⟩
        have ty_38 : y_38.toInt = x_8.toInt + 1 := xI_add rfl rfl ey_38 (by omega) (by omega)
        refine lv_iinc (v := y_38) (lv' := [(4, .int y_38), (3, .int y_37), (0, .ref (a 66)), (1, .int p0), (2, .int p1)]) hx hb dX12_worked_167 hl (k := 1) rfl (by rw [ey_38]; rfl) (by decide) rfl (fun ls hl => ?_)
        have u_39 : dpK (G.1 72) (320 * p0.toInt) y_38.toInt = dpK (G.1 72) (320 * p0.toInt) (x_8.toInt + 1) := by rw [ty_38]
        refine lv_goto (tgt := 9) hx hb dX12_worked_170 (by decide) ?_
        exact ih_6 (1920 - y_38.toInt : Int).toNat (by omega) _ _ _ ⟨G_36, y_38, y_37, (Int.toNat_of_nonneg (by omega)), ⟨by omega, by omega⟩, ⟨by omega, by omega⟩, (by omega), (by omega), (by omega), hW, hB_G_36, hF, (((Fr.rf.call hq_5 (by decide) (by decide)).call hq_34 (by decide) (by decide)).put eG_36 (Or.inl (by decide))), hS, lv_sub hl [0, 1, 2, 3, 4] rfl⟩
      · have c_29 : y_27.toInt = 0 := xI_eq rfl rfl c_29
        refine lv_aload_n hx hb dX12_worked_62 rfl (lv_at hl 2 rfl) ?_
        refine S_getR (n := 73) (C := RX12) (T := TX12) (N := 89) hx hb hg iX12 hown hK hW kd_66 rfl 15 (by decide) (hg (Cond.fieldLink RX12 33 "SlabWalkModel" "arg" "[I") m1329) (fun _ h9 => h9) rfl dX12_worked_63 ?_
        refine lv_iload hx hb dX12_worked_66 (lv_at hl 0 rfl) ?_
        refine S_iald hx hb hK hW kd_73 (vin (by omega) (by omega)) dX12_worked_68 (fun y_40 ey_40 => ?_)
        have u_41 : y_40.toInt = (G.1 73 x_8.toNatClampNeg).toInt := congrArg Int32.toInt (ey_40.trans ((hq_5.ri 73 (by decide) (by decide) x_8.toNatClampNeg)))
        refine lv_goto (tgt := 84) hx hb dX12_worked_69 (by decide) ?_
        refine S_iast hx hb hK hW hS kd_76 (vin (by omega) (by omega)) dX12_worked_84 (fun G_42 H locs eG_42 hW hS => ?_)
        have hB_G_42 : Bd G_42 := hB_G_4.put (lo := (-2147483648)) (hi := 2147483647) eG_42 rfl rfl rfl (tI_rng _).1 (tI_rng _).2 (hB_G_4.2.put eG_42 rfl)
        have hF := hF.put eG_42 (Or.inl (by decide))
        obtain ⟨y_43, ey_43⟩ : ∃ q, q = x_9 + 1 := ⟨_, rfl⟩
        have ty_43 : y_43.toInt = x_9.toInt + 1 := xI_add rfl rfl ey_43 (by omega) (by omega)
        refine lv_iinc (v := y_43) (lv' := [(3, .int y_43), (4, .int x_8), (0, .ref (a 66)), (1, .int p0), (2, .int p1)]) hx hb dX12_worked_85 hl (k := 1) rfl (by rw [ey_43]; rfl) (by decide) rfl (fun ls hl => ?_)
        refine lv_goto (tgt := 167) hx hb dX12_worked_88 (by decide) ?_
        obtain ⟨y_44, ey_44⟩ : ∃ q, q = x_8 + 1 := ⟨_, rfl⟩
        have ty_44 : y_44.toInt = x_8.toInt + 1 := xI_add rfl rfl ey_44 (by omega) (by omega)
        refine lv_iinc (v := y_44) (lv' := [(4, .int y_44), (3, .int y_43), (0, .ref (a 66)), (1, .int p0), (2, .int p1)]) hx hb dX12_worked_167 hl (k := 1) rfl (by rw [ey_44]; rfl) (by decide) rfl (fun ls hl => ?_)
        have u_45 : dpK (G.1 72) (320 * p0.toInt) y_44.toInt = dpK (G.1 72) (320 * p0.toInt) (x_8.toInt + 1) := by rw [ty_44]
        refine lv_goto (tgt := 9) hx hb dX12_worked_170 (by decide) ?_
        exact ih_6 (1920 - y_44.toInt : Int).toNat (by omega) _ _ _ ⟨G_42, y_44, y_43, (Int.toNat_of_nonneg (by omega)), ⟨by omega, by omega⟩, ⟨by omega, by omega⟩, (by omega), (by omega), (by omega), hW, hB_G_42, hF, ((Fr.rf.call hq_5 (by decide) (by decide)).put eG_42 (Or.inl (by decide))), hS, lv_sub hl [0, 1, 2, 3, 4] rfl⟩
    · have c_26 : y_23.toInt ≠ 0 := xI_ne rfl rfl c_26
      refine lv_aload_n hx hb dX12_worked_36 rfl (lv_at hl 2 rfl) ?_
      refine S_getR (n := 72) (C := RX12) (T := TX12) (N := 89) hx hb hg iX12 hown hK hW kd_66 rfl 14 (by decide) (hg (Cond.fieldLink RX12 30 "SlabWalkModel" "step" "[I") m1328) (fun _ h9 => h9) rfl dX12_worked_37 ?_
      refine lv_iload hx hb dX12_worked_40 (lv_at hl 0 rfl) ?_
      refine S_iald hx hb hK hW kd_72 (vin (by omega) (by omega)) dX12_worked_42 (fun y_46 ey_46 => ?_)
      have u_47 : y_46.toInt = y_23.toInt := congrArg Int32.toInt (ey_46.trans (ey_23.symm))
      refine lv_iconst (v := 1) hx hb dX12_worked_43 (by decide) ?_
      refine lv_icmp_ne (tgt := 91) hx hb dX12_worked_44 (by decide) (fun c_48 => ?_) (fun c_48 => ?_)
      · have c_48 : y_46.toInt ≠ 1 := xI_ne rfl rfl c_48
        refine lv_aload_n hx hb dX12_worked_91 rfl (lv_at hl 2 rfl) ?_
        refine S_getR (n := 72) (C := RX12) (T := TX12) (N := 89) hx hb hg iX12 hown hK hW kd_66 rfl 14 (by decide) (hg (Cond.fieldLink RX12 30 "SlabWalkModel" "step" "[I") m1328) (fun _ h9 => h9) rfl dX12_worked_92 ?_
        refine lv_iload hx hb dX12_worked_95 (lv_at hl 0 rfl) ?_
        refine S_iald hx hb hK hW kd_72 (vin (by omega) (by omega)) dX12_worked_97 (fun y_49 ey_49 => ?_)
        have u_50 : y_49.toInt = y_46.toInt := congrArg Int32.toInt (ey_49.trans (ey_46.symm))
        refine lv_iconst (v := 2) hx hb dX12_worked_98 (by decide) ?_
        refine lv_icmp_ne (tgt := 132) hx hb dX12_worked_99 (by decide) (fun c_51 => ?_) (fun c_51 => ?_)
        · have c_51 : y_49.toInt ≠ 2 := xI_ne rfl rfl c_51
          obtain ⟨y_52, ey_52⟩ : ∃ q, q = x_9 + (-1) := ⟨_, rfl⟩
          have ty_52 : y_52.toInt = x_9.toInt + (-1) := xI_add rfl rfl ey_52 (by omega) (by omega)
          refine lv_iinc (v := y_52) (lv' := [(3, .int y_52), (4, .int x_8), (0, .ref (a 66)), (1, .int p0), (2, .int p1)]) hx hb dX12_worked_132 hl (k := 1) rfl (by rw [ey_52]; rfl) (by decide) rfl (fun ls hl => ?_)
          refine lv_aload_n hx hb dX12_worked_135 rfl (lv_at hl 2 rfl) ?_
          refine S_getR (n := 76) (C := RX12) (T := TX12) (N := 89) hx hb hg iX12 hown hK hW kd_66 rfl 18 (by decide) (hg (Cond.fieldLink RX12 42 "SlabWalkModel" "values" "[I") m1332) (fun _ h9 => h9) rfl dX12_worked_136 ?_
          refine lv_iload_n hx hb dX12_worked_139 rfl (lv_at hl 0 rfl) ?_
          refine lv_iconst (v := 1) hx hb dX12_worked_140 (by decide) ?_
          refine lv_isub hx hb dX12_worked_141 ?_
          refine lv_topi (fun y_53 ey_53 => ?_)
          have ty_53 : y_53.toInt = y_52.toInt - 1 := xI_sub rfl rfl ey_53 (by omega) (by omega)
          refine lv_aload_n hx hb dX12_worked_142 rfl (lv_at hl 2 rfl) ?_
          refine S_getR (n := 73) (C := RX12) (T := TX12) (N := 89) hx hb hg iX12 hown hK hW kd_66 rfl 15 (by decide) (hg (Cond.fieldLink RX12 33 "SlabWalkModel" "arg" "[I") m1329) (fun _ h9 => h9) rfl dX12_worked_143 ?_
          refine lv_iload hx hb dX12_worked_146 (lv_at hl 1 rfl) ?_
          refine S_iald hx hb hK hW kd_73 (vin (by omega) (by omega)) dX12_worked_148 (fun y_54 ey_54 => ?_)
          have u_55 : y_54.toInt = (G.1 73 x_8.toNatClampNeg).toInt := congrArg Int32.toInt (ey_54.trans ((hq_5.ri 73 (by decide) (by decide) x_8.toNatClampNeg)))
          refine lv_aload_n hx hb dX12_worked_149 rfl (lv_at hl 2 rfl) ?_
          refine S_getR (n := 76) (C := RX12) (T := TX12) (N := 89) hx hb hg iX12 hown hK hW kd_66 rfl 18 (by decide) (hg (Cond.fieldLink RX12 42 "SlabWalkModel" "values" "[I") m1332) (fun _ h9 => h9) rfl dX12_worked_150 ?_
          refine lv_iload_n hx hb dX12_worked_153 rfl (lv_at hl 0 rfl) ?_
          refine lv_iconst (v := 1) hx hb dX12_worked_154 (by decide) ?_
          refine lv_isub hx hb dX12_worked_155 ?_
          refine lv_topi (fun y_56 ey_56 => ?_)
          have ty_56 : y_56.toInt = y_52.toInt - 1 := xI_sub rfl rfl ey_56 (by omega) (by omega)
          refine S_iald hx hb hK hW kd_76 (vin (by omega) (by omega)) dX12_worked_156 (fun y_57 ey_57 => ?_)
          have u_58 : y_57.toInt = (G_4.1 76 y_56.toNatClampNeg).toInt := congrArg Int32.toInt (ey_57)
          refine lv_aload_n hx hb dX12_worked_157 rfl (lv_at hl 2 rfl) ?_
          refine S_getR (n := 76) (C := RX12) (T := TX12) (N := 89) hx hb hg iX12 hown hK hW kd_66 rfl 18 (by decide) (hg (Cond.fieldLink RX12 42 "SlabWalkModel" "values" "[I") m1332) (fun _ h9 => h9) rfl dX12_worked_158 ?_
          refine lv_iload_n hx hb dX12_worked_161 rfl (lv_at hl 0 rfl) ?_
          refine S_iald hx hb hK hW kd_76 (vin (by omega) (by omega)) dX12_worked_162 (fun y_59 ey_59 => ?_)
          have u_60 : y_59.toInt = (G_4.1 76 y_52.toNatClampNeg).toInt := congrArg Int32.toInt (ey_59)
          refine S_calli (va_runS (As := [.int y_54, .int y_57, .int y_59]) (rest := [.int y_53, .ref (a 76)]) ⟨hx, hb, hml, hown, hts⟩ (n_done l D k A a z G_4 y_54 y_57 y_59 ) (va_cwS 3 hts (gd_S hgd m1815 m1816 m131 m1817) rfl rfl rfl (by decide +kernel) ⟨Nat.le_of_ble_eq_true rfl, Nat.le_of_ble_eq_true rfl⟩) (pre_S hW hB_G_4 hK hZ hS) rfl rfl hl.1 rfl (lv_room (Nat.le_of_ble_eq_true rfl)) dX12_worked_163 ⟨Nat.le_of_ble_eq_true rfl, Nat.le_of_ble_eq_true rfl⟩) hS (fun r_61 G_62 H locs hpo hW hS => ?_)
          obtain ⟨hB_G_62, hq_63⟩ := hpo
          have hF := hF.call hq_63 (by decide) (by decide)
          refine S_iast hx hb hK hW hS kd_76 (vin (by omega) (by omega)) dX12_worked_166 (fun G_65 H locs eG_65 hW hS => ?_)
          have hB_G_65 : Bd G_65 := hB_G_62.put (lo := (-2147483648)) (hi := 2147483647) eG_65 rfl rfl rfl (tI_rng _).1 (tI_rng _).2 (hB_G_62.2.put eG_65 rfl)
          have hF := hF.put eG_65 (Or.inl (by decide))
          obtain ⟨y_66, ey_66⟩ : ∃ q, q = x_8 + 1 := ⟨_, rfl⟩
          have ty_66 : y_66.toInt = x_8.toInt + 1 := xI_add rfl rfl ey_66 (by omega) (by omega)
          refine lv_iinc (v := y_66) (lv' := [(4, .int y_66), (3, .int y_52), (0, .ref (a 66)), (1, .int p0), (2, .int p1)]) hx hb dX12_worked_167 hl (k := 1) rfl (by rw [ey_66]; rfl) (by decide) rfl (fun ls hl => ?_)
          have u_67 : dpK (G.1 72) (320 * p0.toInt) y_66.toInt = dpK (G.1 72) (320 * p0.toInt) (x_8.toInt + 1) := by rw [ty_66]
          refine lv_goto (tgt := 9) hx hb dX12_worked_170 (by decide) ?_
          exact ih_6 (1920 - y_66.toInt : Int).toNat (by omega) _ _ _ ⟨G_65, y_66, y_52, (Int.toNat_of_nonneg (by omega)), ⟨by omega, by omega⟩, ⟨by omega, by omega⟩, (by omega), (by omega), (by omega), hW, hB_G_65, hF, (((Fr.rf.call hq_5 (by decide) (by decide)).call hq_63 (by decide) (by decide)).put eG_65 (Or.inl (by decide))), hS, lv_sub hl [0, 1, 2, 3, 4] rfl⟩
        · have c_51 : y_49.toInt = 2 := xI_eq rfl rfl c_51
          refine lv_aload_n hx hb dX12_worked_102 rfl (lv_at hl 2 rfl) ?_
          refine S_getR (n := 76) (C := RX12) (T := TX12) (N := 89) hx hb hg iX12 hown hK hW kd_66 rfl 18 (by decide) (hg (Cond.fieldLink RX12 42 "SlabWalkModel" "values" "[I") m1332) (fun _ h9 => h9) rfl dX12_worked_103 ?_
          refine lv_iload_n hx hb dX12_worked_106 rfl (lv_at hl 1 rfl) ?_
          refine lv_iconst (v := 1) hx hb dX12_worked_107 (by decide) ?_
          refine lv_isub hx hb dX12_worked_108 ?_
          refine lv_topi (fun y_68 ey_68 => ?_)
          have ty_68 : y_68.toInt = x_9.toInt - 1 := xI_sub rfl rfl ey_68 (by omega) (by omega)
          refine lv_aload_n hx hb dX12_worked_109 rfl (lv_at hl 2 rfl) ?_
          refine S_getR (n := 76) (C := RX12) (T := TX12) (N := 89) hx hb hg iX12 hown hK hW kd_66 rfl 18 (by decide) (hg (Cond.fieldLink RX12 42 "SlabWalkModel" "values" "[I") m1332) (fun _ h9 => h9) rfl dX12_worked_110 ?_
          refine lv_iload_n hx hb dX12_worked_113 rfl (lv_at hl 1 rfl) ?_
          refine lv_iconst (v := 1) hx hb dX12_worked_114 (by decide) ?_
          refine lv_isub hx hb dX12_worked_115 ?_
          refine lv_topi (fun y_69 ey_69 => ?_)
          have ty_69 : y_69.toInt = x_9.toInt - 1 := xI_sub rfl rfl ey_69 (by omega) (by omega)
          refine S_iald hx hb hK hW kd_76 (vin (by omega) (by omega)) dX12_worked_116 (fun y_70 ey_70 => ?_)
          have u_71 : y_70.toInt = (G_4.1 76 y_69.toNatClampNeg).toInt := congrArg Int32.toInt (ey_70)
          refine lv_if_ne (tgt := 124) hx hb dX12_worked_117 (by decide) (fun c_72 => ?_) (fun c_72 => ?_)
          · have c_72 : y_70.toInt ≠ 0 := xI_ne rfl rfl c_72
            refine lv_iconst (v := 0) hx hb dX12_worked_124 (by decide) ?_
            have qc_73 : (0 : Int32).toInt = 0 := rfl
            refine S_calli (va_runS (As := [.int 0]) (rest := [.int y_68, .ref (a 76)]) ⟨hx, hb, hml, hown, hts⟩ (n_truth l D k A a z G_4 0 ⟨by decide, by decide⟩) (va_cwS 1 hts (gd_S hgd m1788 m1789 m131 m1790) rfl rfl rfl (by decide +kernel) ⟨Nat.le_of_ble_eq_true rfl, Nat.le_of_ble_eq_true rfl⟩) (pre_S hW hB_G_4 hK hZ hS) rfl rfl hl.1 rfl (lv_room (Nat.le_of_ble_eq_true rfl)) dX12_worked_125 ⟨Nat.le_of_ble_eq_true rfl, Nat.le_of_ble_eq_true rfl⟩) hS (fun r_74 G_75 H locs hpo hW hS => ?_)
            obtain ⟨hB_G_75, hq_76, f_78, hp_77⟩ := hpo
            have hF := hF.call hq_76 (by decide) (by decide)
            refine S_iast hx hb hK hW hS kd_76 (vin (by omega) (by omega)) dX12_worked_128 (fun G_79 H locs eG_79 hW hS => ?_)
            have hB_G_79 : Bd G_79 := hB_G_75.put (lo := (-2147483648)) (hi := 2147483647) eG_79 rfl rfl rfl (tI_rng _).1 (tI_rng _).2 (hB_G_75.2.put eG_79 rfl)
            have hF := hF.put eG_79 (Or.inl (by decide))
            refine lv_goto (tgt := 167) hx hb dX12_worked_129 (by decide) ?_
            obtain ⟨y_80, ey_80⟩ : ∃ q, q = x_8 + 1 := ⟨_, rfl⟩
            have ty_80 : y_80.toInt = x_8.toInt + 1 := xI_add rfl rfl ey_80 (by omega) (by omega)
            refine lv_iinc (v := y_80) (lv' := [(4, .int y_80), (3, .int x_9), (0, .ref (a 66)), (1, .int p0), (2, .int p1)]) hx hb dX12_worked_167 hl (k := 0) rfl (by rw [ey_80]; rfl) (by decide) rfl (fun ls hl => ?_)
            have u_81 : dpK (G.1 72) (320 * p0.toInt) y_80.toInt = dpK (G.1 72) (320 * p0.toInt) (x_8.toInt + 1) := by rw [ty_80]
            refine lv_goto (tgt := 9) hx hb dX12_worked_170 (by decide) ?_
            exact ih_6 (1920 - y_80.toInt : Int).toNat (by omega) _ _ _ ⟨G_79, y_80, x_9, (Int.toNat_of_nonneg (by omega)), ⟨by omega, by omega⟩, ⟨by omega, by omega⟩, (by omega), (by omega), (by omega), hW, hB_G_79, hF, (((Fr.rf.call hq_5 (by decide) (by decide)).call hq_76 (by decide) (by decide)).put eG_79 (Or.inl (by decide))), hS, lv_sub hl [0, 1, 2, 3, 4] rfl⟩
          · have c_72 : y_70.toInt = 0 := xI_eq rfl rfl c_72
            refine lv_iconst (v := 1) hx hb dX12_worked_120 (by decide) ?_
            refine lv_goto (tgt := 125) hx hb dX12_worked_121 (by decide) ?_
            have qc_82 : (1 : Int32).toInt = 1 := rfl
            refine S_calli (va_runS (As := [.int 1]) (rest := [.int y_68, .ref (a 76)]) ⟨hx, hb, hml, hown, hts⟩ (n_truth l D k A a z G_4 1 ⟨by decide, by decide⟩) (va_cwS 1 hts (gd_S hgd m1788 m1789 m131 m1790) rfl rfl rfl (by decide +kernel) ⟨Nat.le_of_ble_eq_true rfl, Nat.le_of_ble_eq_true rfl⟩) (pre_S hW hB_G_4 hK hZ hS) rfl rfl hl.1 rfl (lv_room (Nat.le_of_ble_eq_true rfl)) dX12_worked_125 ⟨Nat.le_of_ble_eq_true rfl, Nat.le_of_ble_eq_true rfl⟩) hS (fun r_83 G_84 H locs hpo hW hS => ?_)
            obtain ⟨hB_G_84, hq_85, f_87, hp_86⟩ := hpo
            have hF := hF.call hq_85 (by decide) (by decide)
            refine S_iast hx hb hK hW hS kd_76 (vin (by omega) (by omega)) dX12_worked_128 (fun G_88 H locs eG_88 hW hS => ?_)
            have hB_G_88 : Bd G_88 := hB_G_84.put (lo := (-2147483648)) (hi := 2147483647) eG_88 rfl rfl rfl (tI_rng _).1 (tI_rng _).2 (hB_G_84.2.put eG_88 rfl)
            have hF := hF.put eG_88 (Or.inl (by decide))
            refine lv_goto (tgt := 167) hx hb dX12_worked_129 (by decide) ?_
            obtain ⟨y_89, ey_89⟩ : ∃ q, q = x_8 + 1 := ⟨_, rfl⟩
            have ty_89 : y_89.toInt = x_8.toInt + 1 := xI_add rfl rfl ey_89 (by omega) (by omega)
            refine lv_iinc (v := y_89) (lv' := [(4, .int y_89), (3, .int x_9), (0, .ref (a 66)), (1, .int p0), (2, .int p1)]) hx hb dX12_worked_167 hl (k := 0) rfl (by rw [ey_89]; rfl) (by decide) rfl (fun ls hl => ?_)
            have u_90 : dpK (G.1 72) (320 * p0.toInt) y_89.toInt = dpK (G.1 72) (320 * p0.toInt) (x_8.toInt + 1) := by rw [ty_89]
            refine lv_goto (tgt := 9) hx hb dX12_worked_170 (by decide) ?_
            exact ih_6 (1920 - y_89.toInt : Int).toNat (by omega) _ _ _ ⟨G_88, y_89, x_9, (Int.toNat_of_nonneg (by omega)), ⟨by omega, by omega⟩, ⟨by omega, by omega⟩, (by omega), (by omega), (by omega), hW, hB_G_88, hF, (((Fr.rf.call hq_5 (by decide) (by decide)).call hq_85 (by decide) (by decide)).put eG_88 (Or.inl (by decide))), hS, lv_sub hl [0, 1, 2, 3, 4] rfl⟩
      · have c_48 : y_46.toInt = 1 := xI_eq rfl rfl c_48
        refine lv_aload_n hx hb dX12_worked_47 rfl (lv_at hl 2 rfl) ?_
        refine S_getR (n := 76) (C := RX12) (T := TX12) (N := 89) hx hb hg iX12 hown hK hW kd_66 rfl 18 (by decide) (hg (Cond.fieldLink RX12 42 "SlabWalkModel" "values" "[I") m1332) (fun _ h9 => h9) rfl dX12_worked_48 ?_
        refine lv_iload_n hx hb dX12_worked_51 rfl (lv_at hl 1 rfl) ?_
        refine lv_aload_n hx hb dX12_worked_52 rfl (lv_at hl 2 rfl) ?_
        refine S_getR (n := 72) (C := RX12) (T := TX12) (N := 89) hx hb hg iX12 hown hK hW kd_66 rfl 14 (by decide) (hg (Cond.fieldLink RX12 30 "SlabWalkModel" "step" "[I") m1328) (fun _ h9 => h9) rfl dX12_worked_53 ?_
        refine lv_iload hx hb dX12_worked_56 (lv_at hl 0 rfl) ?_
        refine S_iald hx hb hK hW kd_72 (vin (by omega) (by omega)) dX12_worked_58 (fun y_91 ey_91 => ?_)
        have u_92 : y_91.toInt = y_46.toInt := congrArg Int32.toInt (ey_91.trans (ey_46.symm))
        refine lv_if_ne (tgt := 72) hx hb dX12_worked_59 (by decide) (fun c_93 => ?_) (fun c_93 => ?_)
        · have c_93 : y_91.toInt ≠ 0 := xI_ne rfl rfl c_93
          refine lv_aload_n hx hb dX12_worked_72 rfl (lv_at hl 2 rfl) ?_
          refine lv_iload_n hx hb dX12_worked_73 rfl (lv_at hl 4 rfl) ?_
          refine lv_aload_n hx hb dX12_worked_74 rfl (lv_at hl 2 rfl) ?_
          refine S_getR (n := 73) (C := RX12) (T := TX12) (N := 89) hx hb hg iX12 hown hK hW kd_66 rfl 15 (by decide) (hg (Cond.fieldLink RX12 33 "SlabWalkModel" "arg" "[I") m1329) (fun _ h9 => h9) rfl dX12_worked_75 ?_
          refine lv_iload hx hb dX12_worked_78 (lv_at hl 0 rfl) ?_
          refine S_iald hx hb hK hW kd_73 (vin (by omega) (by omega)) dX12_worked_80 (fun y_94 ey_94 => ?_)
          have u_95 : y_94.toInt = (G.1 73 x_8.toNatClampNeg).toInt := congrArg Int32.toInt (ey_94.trans ((hq_5.ri 73 (by decide) (by decide) x_8.toNatClampNeg)))
          refine S_calli (va_runV (As := [.int p1, .int y_94]) (rest := [.int x_9, .ref (a 76)]) ⟨hx, hb, hml, hown, hts⟩ (n_askOf l D k A a z G_4 p1 y_94 ⟨by omega, by omega⟩) (cwV 2 hts (gd_V hgd m1811 m1813 m88 m131 m1814) rfl rfl rfl (by decide +kernel) ⟨Nat.le_of_ble_eq_true rfl, Nat.le_of_ble_eq_true rfl⟩) (pre_V hW hB_G_4 hK hZ hS kd_66 rfl) rfl rfl hl.1 rfl (lv_room (Nat.le_of_ble_eq_true rfl)) dX12_worked_81 ⟨Nat.le_of_ble_eq_true rfl, Nat.le_of_ble_eq_true rfl⟩) hS (fun r_96 G_97 H locs hpo hW hS => ?_)
          obtain ⟨hB_G_97, hq_98⟩ := hpo
          have hF := hF.call hq_98 (by decide) (by decide)
          refine S_iast hx hb hK hW hS kd_76 (vin (by omega) (by omega)) dX12_worked_84 (fun G_100 H locs eG_100 hW hS => ?_)
          have hB_G_100 : Bd G_100 := hB_G_97.put (lo := (-2147483648)) (hi := 2147483647) eG_100 rfl rfl rfl (tI_rng _).1 (tI_rng _).2 (hB_G_97.2.put eG_100 rfl)
          have hF := hF.put eG_100 (Or.inl (by decide))
          obtain ⟨y_101, ey_101⟩ : ∃ q, q = x_9 + 1 := ⟨_, rfl⟩
          have ty_101 : y_101.toInt = x_9.toInt + 1 := xI_add rfl rfl ey_101 (by omega) (by omega)
          refine lv_iinc (v := y_101) (lv' := [(3, .int y_101), (4, .int x_8), (0, .ref (a 66)), (1, .int p0), (2, .int p1)]) hx hb dX12_worked_85 hl (k := 1) rfl (by rw [ey_101]; rfl) (by decide) rfl (fun ls hl => ?_)
          refine lv_goto (tgt := 167) hx hb dX12_worked_88 (by decide) ?_
          obtain ⟨y_102, ey_102⟩ : ∃ q, q = x_8 + 1 := ⟨_, rfl⟩
          have ty_102 : y_102.toInt = x_8.toInt + 1 := xI_add rfl rfl ey_102 (by omega) (by omega)
          refine lv_iinc (v := y_102) (lv' := [(4, .int y_102), (3, .int y_101), (0, .ref (a 66)), (1, .int p0), (2, .int p1)]) hx hb dX12_worked_167 hl (k := 1) rfl (by rw [ey_102]; rfl) (by decide) rfl (fun ls hl => ?_)
          have u_103 : dpK (G.1 72) (320 * p0.toInt) y_102.toInt = dpK (G.1 72) (320 * p0.toInt) (x_8.toInt + 1) := by rw [ty_102]
          refine lv_goto (tgt := 9) hx hb dX12_worked_170 (by decide) ?_
          exact ih_6 (1920 - y_102.toInt : Int).toNat (by omega) _ _ _ ⟨G_100, y_102, y_101, (Int.toNat_of_nonneg (by omega)), ⟨by omega, by omega⟩, ⟨by omega, by omega⟩, (by omega), (by omega), (by omega), hW, hB_G_100, hF, (((Fr.rf.call hq_5 (by decide) (by decide)).call hq_98 (by decide) (by decide)).put eG_100 (Or.inl (by decide))), hS, lv_sub hl [0, 1, 2, 3, 4] rfl⟩
        · have c_93 : y_91.toInt = 0 := xI_eq rfl rfl c_93
          refine lv_aload_n hx hb dX12_worked_62 rfl (lv_at hl 2 rfl) ?_
          refine S_getR (n := 73) (C := RX12) (T := TX12) (N := 89) hx hb hg iX12 hown hK hW kd_66 rfl 15 (by decide) (hg (Cond.fieldLink RX12 33 "SlabWalkModel" "arg" "[I") m1329) (fun _ h9 => h9) rfl dX12_worked_63 ?_
          refine lv_iload hx hb dX12_worked_66 (lv_at hl 0 rfl) ?_
          refine S_iald hx hb hK hW kd_73 (vin (by omega) (by omega)) dX12_worked_68 (fun y_104 ey_104 => ?_)
          have u_105 : y_104.toInt = (G.1 73 x_8.toNatClampNeg).toInt := congrArg Int32.toInt (ey_104.trans ((hq_5.ri 73 (by decide) (by decide) x_8.toNatClampNeg)))
          refine lv_goto (tgt := 84) hx hb dX12_worked_69 (by decide) ?_
          refine S_iast hx hb hK hW hS kd_76 (vin (by omega) (by omega)) dX12_worked_84 (fun G_106 H locs eG_106 hW hS => ?_)
          have hB_G_106 : Bd G_106 := hB_G_4.put (lo := (-2147483648)) (hi := 2147483647) eG_106 rfl rfl rfl (tI_rng _).1 (tI_rng _).2 (hB_G_4.2.put eG_106 rfl)
          have hF := hF.put eG_106 (Or.inl (by decide))
          obtain ⟨y_107, ey_107⟩ : ∃ q, q = x_9 + 1 := ⟨_, rfl⟩
          have ty_107 : y_107.toInt = x_9.toInt + 1 := xI_add rfl rfl ey_107 (by omega) (by omega)
          refine lv_iinc (v := y_107) (lv' := [(3, .int y_107), (4, .int x_8), (0, .ref (a 66)), (1, .int p0), (2, .int p1)]) hx hb dX12_worked_85 hl (k := 1) rfl (by rw [ey_107]; rfl) (by decide) rfl (fun ls hl => ?_)
          refine lv_goto (tgt := 167) hx hb dX12_worked_88 (by decide) ?_
          obtain ⟨y_108, ey_108⟩ : ∃ q, q = x_8 + 1 := ⟨_, rfl⟩
          have ty_108 : y_108.toInt = x_8.toInt + 1 := xI_add rfl rfl ey_108 (by omega) (by omega)
          refine lv_iinc (v := y_108) (lv' := [(4, .int y_108), (3, .int y_107), (0, .ref (a 66)), (1, .int p0), (2, .int p1)]) hx hb dX12_worked_167 hl (k := 1) rfl (by rw [ey_108]; rfl) (by decide) rfl (fun ls hl => ?_)
          have u_109 : dpK (G.1 72) (320 * p0.toInt) y_108.toInt = dpK (G.1 72) (320 * p0.toInt) (x_8.toInt + 1) := by rw [ty_108]
          refine lv_goto (tgt := 9) hx hb dX12_worked_170 (by decide) ?_
          exact ih_6 (1920 - y_108.toInt : Int).toNat (by omega) _ _ _ ⟨G_106, y_108, y_107, (Int.toNat_of_nonneg (by omega)), ⟨by omega, by omega⟩, ⟨by omega, by omega⟩, (by omega), (by omega), (by omega), hW, hB_G_106, hF, ((Fr.rf.call hq_5 (by decide) (by decide)).put eG_106 (Or.inl (by decide))), hS, lv_sub hl [0, 1, 2, 3, 4] rfl⟩

set_option maxHeartbeats 4000000 in
set_option maxRecDepth 100000 in
theorem n_isLine (l : Launch) (D : va_G) (k : KT) (A : Nat → Prop) (a : Nat → Nat) (z : SK) (G : GS) (p0 : Int32) (p1 : Int32) (p2 : Int32) (ha_p0 : 0 ≤ p0.toInt ∧ p0.toInt ≤ 2) (ha_p2 : 0 ≤ p2.toInt ∧ p2.toInt ≤ 399) (hP9 : gP G = 1) : Met l yX12_isLine (WS yX12_isLine cX12_isLine 7 (some .boolean)) ({ frames := 3, cells := 0, slots := 0, locals := 66 }) (va_Pc [.ref (a 66), .int p0, .int p1, .int p2] (cW D k A a z G)) (va_Qi (fun (r : Int32) (G1 : GS) => Bd G1 ∧ Fr [76] [] G G1 ∧ (0 ≤ r.toInt ∧ r.toInt ≤ 1)) (fun (G1 : GS) t => Wd D k A a G1 t.heap) A) 0 0 A := by
  refine Met.ofW (cc := cX12_isLine) (maxL := 7) (ret := (some .boolean)) (by decide) rfl ?_
  intro p e s m args below meth c s₁ B hml hv
  obtain ⟨rfl, hW, hB_G, hK, hZ⟩ := hv
  have hx := B.exec
  have hb := B.bytes
  have hr := B.returns
  have hts := atoms_spec (ws := WS yX12_isLine cX12_isLine 7 (some .boolean)) B.pre
  have hgd : ∀ w ∈ gd, w ∈ WS yX12_isLine cX12_isLine 7 (some .boolean) := fun w h => List.mem_cons_of_mem _ h
  have hg : ∀ w ∈ gd, w.before _ s = true := fun w h => hts w (hgd w h)
  have hown : s.vm.findClass RX12 = some m.cls := findClass_of_methodNamed B.named
  have hS : va_S A s.heap s.heap [] := va_S.rf
  have hF : Fr [76] [] G G := Fr.rf
  have hl := lv_entry ([.ref (a 66), .int p0, .int p1, .int p2]) (n := 7) (Nat.le_of_ble_eq_true rfl)
  rw [lg_entry_eq]
  generalize (lg_sl ([.ref (a 66), .int p0, .int p1, .int p2]) ++ List.replicate (7 - (lg_sl ([.ref (a 66), .int p0, .int p1, .int p2])).length) Slot.unset).toArray = ls at hl ⊢
  have hl : lv_has ls 7 [(0, .ref (a 66)), (1, .int p0), (2, .int p1), (3, .int p2)] := hl
  refine lv_sipush (v := 400) hx hb dX12_isLine_0 (by decide) ?_
  refine lv_iload_n hx hb dX12_isLine_3 rfl (lv_at hl 1 rfl) ?_
  refine lv_imul hx hb dX12_isLine_4 ?_
  refine lv_topi (fun y_1 ey_1 => ?_)
  have ty_1 : y_1.toInt = 400 * p0.toInt := xI_mul rfl rfl ey_1 (by omega) (by omega)
  refine lv_iload_n hx hb dX12_isLine_5 rfl (lv_at hl 3 rfl) ?_
  refine lv_iadd hx hb dX12_isLine_6 ?_
  refine lv_topi (fun y_2 ey_2 => ?_)
  have ty_2 : y_2.toInt = y_1.toInt + p2.toInt := xI_add rfl rfl ey_2 (by omega) (by omega)
  refine lv_istore (lv' := [(4, .int y_2), (0, .ref (a 66)), (1, .int p0), (2, .int p1), (3, .int p2)]) hx hb dX12_isLine_7 hl (by decide) rfl (fun ls hl => ?_)
  refine lv_iload_n hx hb dX12_isLine_9 rfl (lv_at hl 3 rfl) ?_
  refine lv_if_ne (tgt := 42) hx hb dX12_isLine_10 (by decide) (fun c_3 => ?_) (fun c_3 => ?_)
  · have c_3 : p1.toInt ≠ 0 := xI_ne rfl rfl c_3
    refine lv_iconst (v := 0) hx hb dX12_isLine_42 (by decide) ?_
    refine lv_istore (lv' := [(5, .int 0), (4, .int y_2), (0, .ref (a 66)), (1, .int p0), (2, .int p1), (3, .int p2)]) hx hb dX12_isLine_43 hl (by decide) rfl (fun ls hl => ?_)
    refine lv_iconst (v := 0) hx hb dX12_isLine_45 (by decide) ?_
    refine lv_istore (lv' := [(6, .int 0), (5, .int 0), (4, .int y_2), (0, .ref (a 66)), (1, .int p0), (2, .int p1), (3, .int p2)]) hx hb dX12_isLine_46 hl (by decide) rfl (fun ls hl => ?_)
    have qc_10 : (0 : Int32).toInt = 0 := rfl
    refine loop_N (Inv := fun n H locs ls => ∃ (G_4 : GS) (x_8 : Int32) (x_9 : Int32), (n : Int) = 6 - x_8.toInt ∧ (0 ≤ x_8.toInt ∧ x_8.toInt ≤ 6) ∧ (0 ≤ x_9.toInt ∧ x_9.toInt ≤ 1) ∧ Wd D k A a G_4 H ∧ Bd G_4 ∧ Fr [76] [] G G_4 ∧ Fr [76] [] G G_4 ∧ va_S A s.heap H locs ∧ lv_has ls 7 [(6, .int x_8), (5, .int x_9), (4, .int y_2), (0, .ref (a 66)), (2, .int p1)]) (fun n_7 H locs ls ih_6 hI => ?_) (6 - 0 : Int).toNat ⟨G, 0, 0, (Int.toNat_of_nonneg (by omega)), ⟨by omega, by omega⟩, ⟨by omega, by omega⟩, hW, hB_G, hF, Fr.rf, hS, lv_sub hl [0, 1, 2, 3, 5] rfl⟩
    obtain ⟨G_4, x_8, x_9, hn_13, f_11, f_12, hW, hB_G_4, hF, hq_5, hS, hl⟩ := hI
    refine lv_iload hx hb dX12_isLine_48 (lv_at hl 0 rfl) ?_
    refine lv_aload_n hx hb dX12_isLine_50 rfl (lv_at hl 3 rfl) ?_
    have b_14 : 0 ≤ (G.1 66 54).toInt ∧ (G.1 66 54).toInt ≤ 6 := hB_G.i 66 54 rfl rfl
    refine S_getI (v := (G.1 66 54)) (C := RX12) (T := TX12) (N := 89) hx hb hg iX12 hown hK hW kd_66 rfl 54 (by decide) (hg (Cond.fieldLink RX12 431 "SlabWalkModel" "rules" "I") m1368) (fun _ h9 => h9) rfl (hq_5.i 66 54 (by decide) (by decide)) dX12_isLine_51 ?_
    refine lv_icmp_ge (tgt := 96) hx hb dX12_isLine_54 (by decide) (fun c_15 => ?_) (fun c_15 => ?_)
    · have c_15 : (G.1 66 54).toInt ≤ x_8.toInt := xI_le rfl rfl c_15
      refine lv_iload hx hb dX12_isLine_96 (lv_at hl 1 rfl) ?_
      exact W.zret (v := x_9) hx hb hr (nar_z (by omega) (by omega)) (fun t ht _ => ⟨⟨x_9, G_4, rfl, ⟨hB_G_4, hF, ⟨by omega, by omega⟩⟩, wd_t ht hW⟩, hS.F ht⟩) hS.2.2 dX12_isLine_98
    · have c_15 : x_8.toInt < (G.1 66 54).toInt := xI_nle rfl rfl c_15
      refine lv_iload hx hb dX12_isLine_57 (lv_at hl 1 rfl) ?_
      refine lv_if_ne (tgt := 96) hx hb dX12_isLine_59 (by decide) (fun c_16 => ?_) (fun c_16 => ?_)
      · have c_16 : x_9.toInt ≠ 0 := xI_ne rfl rfl c_16
        refine lv_iload hx hb dX12_isLine_96 (lv_at hl 1 rfl) ?_
        exact W.zret (v := x_9) hx hb hr (nar_z (by omega) (by omega)) (fun t ht _ => ⟨⟨x_9, G_4, rfl, ⟨hB_G_4, hF, ⟨by omega, by omega⟩⟩, wd_t ht hW⟩, hS.F ht⟩) hS.2.2 dX12_isLine_98
      · have c_16 : x_9.toInt = 0 := xI_eq rfl rfl c_16
        refine lv_iload_n hx hb dX12_isLine_62 rfl (lv_at hl 4 rfl) ?_
        refine lv_iload hx hb dX12_isLine_63 (lv_at hl 0 rfl) ?_
        refine lv_ishr hx hb dX12_isLine_65 ?_
        refine lv_topi (fun y_17 ey_17 => ?_)
        refine lv_iconst (v := 1) hx hb dX12_isLine_66 (by decide) ?_
        refine lv_iand hx hb dX12_isLine_67 ?_
        refine lv_topi (fun y_18 ey_18 => ?_)
        have ty_18 := xI_and (Y := 1) rfl ey_18 (by decide)
        refine lv_iconst (v := 1) hx hb dX12_isLine_68 (by decide) ?_
        refine lv_icmp_ne (tgt := 87) hx hb dX12_isLine_69 (by decide) (fun c_19 => ?_) (fun c_19 => ?_)
        · have c_19 : y_18.toInt ≠ 1 := xI_ne rfl rfl c_19
          refine lv_iconst (v := 0) hx hb dX12_isLine_87 (by decide) ?_
          refine lv_istore (lv' := [(5, .int 0), (6, .int x_8), (4, .int y_2), (0, .ref (a 66)), (2, .int p1)]) hx hb dX12_isLine_88 hl (by decide) rfl (fun ls hl => ?_)
          obtain ⟨y_20, ey_20⟩ : ∃ q, q = x_8 + 1 := ⟨_, rfl⟩
          have ty_20 : y_20.toInt = x_8.toInt + 1 := xI_add rfl rfl ey_20 (by omega) (by omega)
          refine lv_iinc (v := y_20) (lv' := [(6, .int y_20), (5, .int 0), (4, .int y_2), (0, .ref (a 66)), (2, .int p1)]) hx hb dX12_isLine_90 hl (k := 1) rfl (by rw [ey_20]; rfl) (by decide) rfl (fun ls hl => ?_)
          refine lv_goto (tgt := 48) hx hb dX12_isLine_93 (by decide) ?_
          have qc_21 : (0 : Int32).toInt = 0 := rfl
          exact ih_6 (6 - y_20.toInt : Int).toNat (by omega) _ _ _ ⟨G_4, y_20, 0, (Int.toNat_of_nonneg (by omega)), ⟨by omega, by omega⟩, ⟨by omega, by omega⟩, hW, hB_G_4, hF, (Fr.rf.call hq_5 (by decide) (by decide)), hS, lv_sub hl [0, 1, 2, 3, 4] rfl⟩
        · have c_19 : y_18.toInt = 1 := xI_eq rfl rfl c_19
          refine lv_aload_n hx hb dX12_isLine_72 rfl (lv_at hl 3 rfl) ?_
          refine lv_iload hx hb dX12_isLine_73 (lv_at hl 0 rfl) ?_
          refine lv_iload hx hb dX12_isLine_75 (lv_at hl 2 rfl) ?_
          have g_22 : gP G_4 = gP G := gP_fr (rs := [76]) (fs := []) (Fr.rf.call hq_5 (by decide) (by decide)) (by decide) (by decide)
          have g_23 : (G_4.1 66 54).toInt = (G.1 66 54).toInt := by rw [show G_4.1 66 54 = (G.1 66 54) from ((hq_5.i 66 54 (by decide) (by decide)).trans (rfl))]
          refine S_calli (va_runV (As := [.int x_8, .int y_2]) (rest := []) ⟨hx, hb, hml, hown, hts⟩ (n_worked l D k A a z G_4 x_8 y_2 ⟨by omega, by omega⟩ ⟨by omega, by omega⟩ (by omega) (by omega)) (cwV 2 hts (gd_V hgd m1807 m1809 m87 m131 m1810) rfl rfl rfl (by decide +kernel) ⟨Nat.le_of_ble_eq_true rfl, Nat.le_of_ble_eq_true rfl⟩) (pre_V hW hB_G_4 hK hZ hS kd_66 rfl) rfl rfl hl.1 rfl (lv_room (Nat.le_of_ble_eq_true rfl)) dX12_isLine_77 ⟨Nat.le_of_ble_eq_true rfl, Nat.le_of_ble_eq_true rfl⟩) hS (fun r_24 G_25 H locs hpo hW hS => ?_)
          obtain ⟨hB_G_25, hq_26⟩ := hpo
          have hF := hF.call hq_26 (by decide) (by decide)
          refine lv_if_eq (tgt := 87) hx hb dX12_isLine_80 (by decide) (fun c_28 => ?_) (fun c_28 => ?_)
          · have c_28 : r_24.toInt = 0 := xI_eq rfl rfl c_28
            refine lv_iconst (v := 0) hx hb dX12_isLine_87 (by decide) ?_
            refine lv_istore (lv' := [(5, .int 0), (6, .int x_8), (4, .int y_2), (0, .ref (a 66)), (2, .int p1)]) hx hb dX12_isLine_88 hl (by decide) rfl (fun ls hl => ?_)
            obtain ⟨y_29, ey_29⟩ : ∃ q, q = x_8 + 1 := ⟨_, rfl⟩
            have ty_29 : y_29.toInt = x_8.toInt + 1 := xI_add rfl rfl ey_29 (by omega) (by omega)
            refine lv_iinc (v := y_29) (lv' := [(6, .int y_29), (5, .int 0), (4, .int y_2), (0, .ref (a 66)), (2, .int p1)]) hx hb dX12_isLine_90 hl (k := 1) rfl (by rw [ey_29]; rfl) (by decide) rfl (fun ls hl => ?_)
            refine lv_goto (tgt := 48) hx hb dX12_isLine_93 (by decide) ?_
            have qc_30 : (0 : Int32).toInt = 0 := rfl
            exact ih_6 (6 - y_29.toInt : Int).toNat (by omega) _ _ _ ⟨G_25, y_29, 0, (Int.toNat_of_nonneg (by omega)), ⟨by omega, by omega⟩, ⟨by omega, by omega⟩, hW, hB_G_25, hF, ((Fr.rf.call hq_5 (by decide) (by decide)).call hq_26 (by decide) (by decide)), hS, lv_sub hl [0, 1, 2, 3, 4] rfl⟩
          · have c_28 : r_24.toInt ≠ 0 := xI_ne rfl rfl c_28
            refine lv_iconst (v := 1) hx hb dX12_isLine_83 (by decide) ?_
            refine lv_goto (tgt := 88) hx hb dX12_isLine_84 (by decide) ?_
            refine lv_istore (lv' := [(5, .int 1), (6, .int x_8), (4, .int y_2), (0, .ref (a 66)), (2, .int p1)]) hx hb dX12_isLine_88 hl (by decide) rfl (fun ls hl => ?_)
            obtain ⟨y_31, ey_31⟩ : ∃ q, q = x_8 + 1 := ⟨_, rfl⟩
            have ty_31 : y_31.toInt = x_8.toInt + 1 := xI_add rfl rfl ey_31 (by omega) (by omega)
            refine lv_iinc (v := y_31) (lv' := [(6, .int y_31), (5, .int 1), (4, .int y_2), (0, .ref (a 66)), (2, .int p1)]) hx hb dX12_isLine_90 hl (k := 1) rfl (by rw [ey_31]; rfl) (by decide) rfl (fun ls hl => ?_)
            refine lv_goto (tgt := 48) hx hb dX12_isLine_93 (by decide) ?_
            have qc_32 : (1 : Int32).toInt = 1 := rfl
            exact ih_6 (6 - y_31.toInt : Int).toNat (by omega) _ _ _ ⟨G_25, y_31, 1, (Int.toNat_of_nonneg (by omega)), ⟨by omega, by omega⟩, ⟨by omega, by omega⟩, hW, hB_G_25, hF, ((Fr.rf.call hq_5 (by decide) (by decide)).call hq_26 (by decide) (by decide)), hS, lv_sub hl [0, 1, 2, 3, 4] rfl⟩
  · have c_3 : p1.toInt = 0 := xI_eq rfl rfl c_3
    refine lv_aload_n hx hb dX12_isLine_13 rfl (lv_at hl 1 rfl) ?_
    refine S_getR (n := 87) (C := RX12) (T := TX12) (N := 89) hx hb hg iX12 hown hK hW kd_66 rfl 35 (by decide) (hg (Cond.fieldLink RX12 75 "SlabWalkModel" "marks" "[I") m1349) (fun _ h9 => h9) rfl dX12_isLine_14 ?_
    refine lv_iload hx hb dX12_isLine_17 (lv_at hl 0 rfl) ?_
    refine S_iald hx hb hK hW kd_87 (vin (by omega) (by omega)) dX12_isLine_19 (fun y_33 ey_33 => ?_)
    refine lv_if_lt (tgt := 36) hx hb dX12_isLine_20 (by decide) (fun c_34 => ?_) (fun c_34 => ?_)
    · have c_34 : y_33.toInt < 0 := xI_lt rfl rfl c_34
      refine lv_iconst (v := 1) hx hb dX12_isLine_36 (by decide) ?_
      refine lv_goto (tgt := 41) hx hb dX12_isLine_37 (by decide) ?_
      exact W.zret (v := 1) hx hb hr (by decide) (fun t ht _ => ⟨⟨1, G, rfl, ⟨hB_G, hF, ⟨by decide, by decide⟩⟩, wd_t ht hW⟩, hS.F ht⟩) hS.2.2 dX12_isLine_41
    · have c_34 : 0 ≤ y_33.toInt := xI_nlt rfl rfl c_34
      refine lv_aload_n hx hb dX12_isLine_23 rfl (lv_at hl 1 rfl) ?_
      refine S_getR (n := 87) (C := RX12) (T := TX12) (N := 89) hx hb hg iX12 hown hK hW kd_66 rfl 35 (by decide) (hg (Cond.fieldLink RX12 75 "SlabWalkModel" "marks" "[I") m1349) (fun _ h9 => h9) rfl dX12_isLine_24 ?_
      refine lv_iload hx hb dX12_isLine_27 (lv_at hl 0 rfl) ?_
      refine S_iald hx hb hK hW kd_87 (vin (by omega) (by omega)) dX12_isLine_29 (fun y_35 ey_35 => ?_)
      refine lv_bipush (v := 6) hx hb dX12_isLine_30 (by decide) ?_
      refine lv_iand hx hb dX12_isLine_32 ?_
      refine lv_topi (fun y_36 ey_36 => ?_)
      have ty_36 := xI_and (Y := 6) rfl ey_36 (by decide)
      refine lv_if_eq (tgt := 40) hx hb dX12_isLine_33 (by decide) (fun c_37 => ?_) (fun c_37 => ?_)
      · have c_37 : y_36.toInt = 0 := xI_eq rfl rfl c_37
        refine lv_iconst (v := 0) hx hb dX12_isLine_40 (by decide) ?_
        exact W.zret (v := 0) hx hb hr (by decide) (fun t ht _ => ⟨⟨0, G, rfl, ⟨hB_G, hF, ⟨by decide, by decide⟩⟩, wd_t ht hW⟩, hS.F ht⟩) hS.2.2 dX12_isLine_41
      · have c_37 : y_36.toInt ≠ 0 := xI_ne rfl rfl c_37
        refine lv_iconst (v := 1) hx hb dX12_isLine_36 (by decide) ?_
        refine lv_goto (tgt := 41) hx hb dX12_isLine_37 (by decide) ?_
        exact W.zret (v := 1) hx hb hr (by decide) (fun t ht _ => ⟨⟨1, G, rfl, ⟨hB_G, hF, ⟨by decide, by decide⟩⟩, wd_t ht hW⟩, hS.F ht⟩) hS.2.2 dX12_isLine_41

set_option maxHeartbeats 4000000 in
set_option maxRecDepth 100000 in
theorem n_layStreet (l : Launch) (D : va_G) (k : KT) (A : Nat → Prop) (a : Nat → Nat) (z : SK) (G : GS) (p0 : Int32) (p1 : Int32) (p2 : Int32) (ha_p0 : 0 ≤ p0.toInt ∧ p0.toInt ≤ 3) (ha_p1 : 0 ≤ p1.toInt ∧ p1.toInt ≤ 2) (hP9 : gP G = 1) : Met l yX12_layStreet (WS yX12_layStreet cX12_layStreet 6 none) ({ frames := 4, cells := 0, slots := 0, locals := 92 }) (va_Pc [.ref (a 66), .int p0, .int p1, .int p2] (cW D k A a z G)) (va_Qv (fun (G1 : GS) => Bd G1 ∧ Fr [76, 97, 98] [(66, 59), (66, 60), (66, 61), (66, 62), (66, 63)] G G1 ∧ ((G1.1 66 59).toInt = (G.1 91 p1.toNatClampNeg).toInt ∧ (G1.1 66 60).toInt = (G.1 92 p0.toNatClampNeg).toInt ∧ (G1.1 66 61).toInt = (G.1 93 p0.toNatClampNeg).toInt ∧ (G1.1 66 62).toInt = (G.1 94 p0.toNatClampNeg).toInt ∧ (G1.1 66 63).toInt = (G.1 95 p0.toNatClampNeg).toInt ∧ (1 ≤ (G1.1 66 60).toInt → (G1.1 98 400).toInt = 0))) (fun (G1 : GS) t => Wd D k A a G1 t.heap) A) 0 0 A := by
  refine Met.ofW (cc := cX12_layStreet) (maxL := 6) (ret := none) (by decide) rfl ?_
  intro p e s m args below meth c s₁ B hml hv
  obtain ⟨rfl, hW, hB_G, hK, hZ⟩ := hv
  have hx := B.exec
  have hb := B.bytes
  have hr := B.returns
  have hts := atoms_spec (ws := WS yX12_layStreet cX12_layStreet 6 none) B.pre
  have hgd : ∀ w ∈ gd, w ∈ WS yX12_layStreet cX12_layStreet 6 none := fun w h => List.mem_cons_of_mem _ h
  have hg : ∀ w ∈ gd, w.before _ s = true := fun w h => hts w (hgd w h)
  have hown : s.vm.findClass RX12 = some m.cls := findClass_of_methodNamed B.named
  have hS : va_S A s.heap s.heap [] := va_S.rf
  have hF : Fr [76, 97, 98] [(66, 59), (66, 60), (66, 61), (66, 62), (66, 63)] G G := Fr.rf
  have hl := lv_entry ([.ref (a 66), .int p0, .int p1, .int p2]) (n := 6) (Nat.le_of_ble_eq_true rfl)
  rw [lg_entry_eq]
  generalize (lg_sl ([.ref (a 66), .int p0, .int p1, .int p2]) ++ List.replicate (6 - (lg_sl ([.ref (a 66), .int p0, .int p1, .int p2])).length) Slot.unset).toArray = ls at hl ⊢
  have hl : lv_has ls 6 [(0, .ref (a 66)), (1, .int p0), (2, .int p1), (3, .int p2)] := hl
  refine lv_aload_n hx hb dX12_layStreet_0 rfl (lv_at hl 0 rfl) ?_
  refine lv_aload_n hx hb dX12_layStreet_1 rfl (lv_at hl 0 rfl) ?_
  refine S_getR (n := 91) (C := RX12) (T := TX12) (N := 89) hx hb hg iX12 hown hK hW kd_66 rfl 39 (by decide) (hg (Cond.fieldLink RX12 87 "SlabWalkModel" "lengths" "[I") m1353) (fun _ h9 => h9) rfl dX12_layStreet_2 ?_
  refine lv_iload_n hx hb dX12_layStreet_5 rfl (lv_at hl 2 rfl) ?_
  refine S_iald hx hb hK hW kd_91 (vin (by omega) (by omega)) dX12_layStreet_6 (fun y_1 ey_1 => ?_)
  have ty_1 : 0 ≤ y_1.toInt ∧ y_1.toInt ≤ 400 := hB_G.v ey_1 rfl rfl
  have u_2 : y_1.toInt = (G.1 91 p1.toNatClampNeg).toInt := congrArg Int32.toInt (ey_1)
  refine S_putI (ty := .int) (C := RX12) (T := TX12) (N := 89) hx hb hg iX12 tyX12 tyX12_ok nmX12 hown hK hW hS kd_66 rfl 59 (by decide) (hg (Cond.fieldLink RX12 469 "SlabWalkModel" "inchesOf" "I") m1373) (fun _ h9 => h9) rfl (by decide +kernel) rfl rfl rfl dX12_layStreet_7 (fun G_3 H locs eG_3 hW hS => ?_)
  have hB_G_3 : Bd G_3 := hB_G.put (V := y_1.toInt) (lo := 0) (hi := 400) eG_3 rfl rfl rfl (by omega) (by omega) (hB_G.2.put eG_3 rfl)
  have hF := hF.put eG_3 (Or.inr (by decide))
  refine lv_aload_n hx hb dX12_layStreet_10 rfl (lv_at hl 0 rfl) ?_
  refine lv_aload_n hx hb dX12_layStreet_11 rfl (lv_at hl 0 rfl) ?_
  refine S_getR (n := 92) (C := RX12) (T := TX12) (N := 89) hx hb hg iX12 hown hK hW kd_66 rfl 40 (by decide) (hg (Cond.fieldLink RX12 90 "SlabWalkModel" "foots" "[I") m1354) (fun _ h9 => h9) rfl dX12_layStreet_12 ?_
  refine lv_iload_n hx hb dX12_layStreet_15 rfl (lv_at hl 1 rfl) ?_
  refine S_iald hx hb hK hW kd_92 (vin (by omega) (by omega)) dX12_layStreet_16 (fun y_4 ey_4 => ?_)
  have ty_4 : 0 ≤ y_4.toInt ∧ y_4.toInt ≤ 12 := hB_G_3.v ey_4 rfl rfl
  have u_5 : y_4.toInt = (G.1 92 p0.toNatClampNeg).toInt := congrArg Int32.toInt (ey_4.trans ((gp_ne eG_3 (fun q => absurd q.1 (by decide)))))
  refine S_putI (ty := .int) (C := RX12) (T := TX12) (N := 89) hx hb hg iX12 tyX12 tyX12_ok nmX12 hown hK hW hS kd_66 rfl 60 (by decide) (hg (Cond.fieldLink RX12 472 "SlabWalkModel" "foot" "I") m1374) (fun _ h9 => h9) rfl (by decide +kernel) rfl rfl rfl dX12_layStreet_17 (fun G_6 H locs eG_6 hW hS => ?_)
  have hB_G_6 : Bd G_6 := hB_G_3.put (V := y_4.toInt) (lo := 0) (hi := 12) eG_6 rfl rfl rfl (by omega) (by omega) (hB_G_3.2.put eG_6 rfl)
  have hF := hF.put eG_6 (Or.inr (by decide))
  refine lv_aload_n hx hb dX12_layStreet_20 rfl (lv_at hl 0 rfl) ?_
  refine lv_aload_n hx hb dX12_layStreet_21 rfl (lv_at hl 0 rfl) ?_
  refine S_getR (n := 93) (C := RX12) (T := TX12) (N := 89) hx hb hg iX12 hown hK hW kd_66 rfl 41 (by decide) (hg (Cond.fieldLink RX12 93 "SlabWalkModel" "leasts" "[I") m1355) (fun _ h9 => h9) rfl dX12_layStreet_22 ?_
  refine lv_iload_n hx hb dX12_layStreet_25 rfl (lv_at hl 1 rfl) ?_
  refine S_iald hx hb hK hW kd_93 (vin (by omega) (by omega)) dX12_layStreet_26 (fun y_7 ey_7 => ?_)
  have ty_7 : 0 ≤ y_7.toInt ∧ y_7.toInt ≤ 60 := hB_G_6.v ey_7 rfl rfl
  have u_8 : y_7.toInt = (G.1 93 p0.toNatClampNeg).toInt := congrArg Int32.toInt (ey_7.trans (((gp_ne eG_6 (fun q => absurd q.1 (by decide))).trans (gp_ne eG_3 (fun q => absurd q.1 (by decide))))))
  refine S_putI (ty := .int) (C := RX12) (T := TX12) (N := 89) hx hb hg iX12 tyX12 tyX12_ok nmX12 hown hK hW hS kd_66 rfl 61 (by decide) (hg (Cond.fieldLink RX12 475 "SlabWalkModel" "least" "I") m1375) (fun _ h9 => h9) rfl (by decide +kernel) rfl rfl rfl dX12_layStreet_27 (fun G_9 H locs eG_9 hW hS => ?_)
  have hB_G_9 : Bd G_9 := hB_G_6.put (V := y_7.toInt) (lo := 0) (hi := 60) eG_9 rfl rfl rfl (by omega) (by omega) (hB_G_6.2.put eG_9 rfl)
  have hF := hF.put eG_9 (Or.inr (by decide))
  refine lv_aload_n hx hb dX12_layStreet_30 rfl (lv_at hl 0 rfl) ?_
  refine lv_aload_n hx hb dX12_layStreet_31 rfl (lv_at hl 0 rfl) ?_
  refine S_getR (n := 94) (C := RX12) (T := TX12) (N := 89) hx hb hg iX12 hown hK hW kd_66 rfl 42 (by decide) (hg (Cond.fieldLink RX12 96 "SlabWalkModel" "mosts" "[I") m1356) (fun _ h9 => h9) rfl dX12_layStreet_32 ?_
  refine lv_iload_n hx hb dX12_layStreet_35 rfl (lv_at hl 1 rfl) ?_
  refine S_iald hx hb hK hW kd_94 (vin (by omega) (by omega)) dX12_layStreet_36 (fun y_10 ey_10 => ?_)
  have ty_10 : 0 ≤ y_10.toInt ∧ y_10.toInt ≤ 60 := hB_G_9.v ey_10 rfl rfl
  have u_11 : y_10.toInt = (G.1 94 p0.toNatClampNeg).toInt := congrArg Int32.toInt (ey_10.trans (((gp_ne eG_9 (fun q => absurd q.1 (by decide))).trans ((gp_ne eG_6 (fun q => absurd q.1 (by decide))).trans (gp_ne eG_3 (fun q => absurd q.1 (by decide)))))))
  refine S_putI (ty := .int) (C := RX12) (T := TX12) (N := 89) hx hb hg iX12 tyX12 tyX12_ok nmX12 hown hK hW hS kd_66 rfl 62 (by decide) (hg (Cond.fieldLink RX12 478 "SlabWalkModel" "most" "I") m1376) (fun _ h9 => h9) rfl (by decide +kernel) rfl rfl rfl dX12_layStreet_37 (fun G_12 H locs eG_12 hW hS => ?_)
  have hB_G_12 : Bd G_12 := hB_G_9.put (V := y_10.toInt) (lo := 0) (hi := 60) eG_12 rfl rfl rfl (by omega) (by omega) (hB_G_9.2.put eG_12 rfl)
  have hF := hF.put eG_12 (Or.inr (by decide))
  refine lv_aload_n hx hb dX12_layStreet_40 rfl (lv_at hl 0 rfl) ?_
  refine lv_aload_n hx hb dX12_layStreet_41 rfl (lv_at hl 0 rfl) ?_
  refine S_getR (n := 95) (C := RX12) (T := TX12) (N := 89) hx hb hg iX12 hown hK hW kd_66 rfl 43 (by decide) (hg (Cond.fieldLink RX12 99 "SlabWalkModel" "leaps" "[I") m1357) (fun _ h9 => h9) rfl dX12_layStreet_42 ?_
  refine lv_iload_n hx hb dX12_layStreet_45 rfl (lv_at hl 1 rfl) ?_
  refine S_iald hx hb hK hW kd_95 (vin (by omega) (by omega)) dX12_layStreet_46 (fun y_13 ey_13 => ?_)
  have ty_13 : 0 ≤ y_13.toInt ∧ y_13.toInt ≤ 99 := hB_G_12.v ey_13 rfl rfl
  have u_14 : y_13.toInt = (G.1 95 p0.toNatClampNeg).toInt := congrArg Int32.toInt (ey_13.trans (((gp_ne eG_12 (fun q => absurd q.1 (by decide))).trans ((gp_ne eG_9 (fun q => absurd q.1 (by decide))).trans ((gp_ne eG_6 (fun q => absurd q.1 (by decide))).trans (gp_ne eG_3 (fun q => absurd q.1 (by decide))))))))
  refine S_putI (ty := .int) (C := RX12) (T := TX12) (N := 89) hx hb hg iX12 tyX12 tyX12_ok nmX12 hown hK hW hS kd_66 rfl 63 (by decide) (hg (Cond.fieldLink RX12 481 "SlabWalkModel" "leap" "I") m1377) (fun _ h9 => h9) rfl (by decide +kernel) rfl rfl rfl dX12_layStreet_47 (fun G_15 H locs eG_15 hW hS => ?_)
  have hB_G_15 : Bd G_15 := hB_G_12.put (V := y_13.toInt) (lo := 0) (hi := 99) eG_15 rfl rfl rfl (by omega) (by omega) (hB_G_12.2.put eG_15 rfl)
  have hF := hF.put eG_15 (Or.inr (by decide))
  refine lv_iconst (v := 0) hx hb dX12_layStreet_50 (by decide) ?_
  refine lv_istore (lv' := [(4, .int 0), (0, .ref (a 66)), (1, .int p0), (2, .int p1), (3, .int p2)]) hx hb dX12_layStreet_51 hl (by decide) rfl (fun ls hl => ?_)
  have qc_21 : (0 : Int32).toInt = 0 := rfl
  refine loop_N (Inv := fun n H locs ls => ∃ (G_16 : GS) (x_20 : Int32), (n : Int) = 400 - x_20.toInt ∧ (0 ≤ x_20.toInt ∧ x_20.toInt ≤ 400) ∧ Wd D k A a G_16 H ∧ Bd G_16 ∧ Fr [76, 97, 98] [(66, 59), (66, 60), (66, 61), (66, 62), (66, 63)] G G_16 ∧ Fr [76, 97] [] G_15 G_16 ∧ va_S A s.heap H locs ∧ lv_has ls 6 [(4, .int x_20), (0, .ref (a 66)), (2, .int p1), (3, .int p2)]) (fun n_19 H locs ls ih_18 hI => ?_) (400 - 0 : Int).toNat ⟨G_15, 0, (Int.toNat_of_nonneg (by omega)), ⟨by omega, by omega⟩, hW, hB_G_15, hF, Fr.rf, hS, lv_sub hl [0, 1, 3, 4] rfl⟩
  obtain ⟨G_16, x_20, hn_23, f_22, hW, hB_G_16, hF, hq_17, hS, hl⟩ := hI
  refine lv_iload hx hb dX12_layStreet_53 (lv_at hl 0 rfl) ?_
  refine lv_aload_n hx hb dX12_layStreet_55 rfl (lv_at hl 1 rfl) ?_
  refine S_getI (v := y_1) (C := RX12) (T := TX12) (N := 89) hx hb hg iX12 hown hK hW kd_66 rfl 59 (by decide) (hg (Cond.fieldLink RX12 469 "SlabWalkModel" "inchesOf" "I") m1373) (fun _ h9 => h9) rfl ((hq_17.i 66 59 (by decide) (by decide)).trans ((gp_ne eG_15 (by decide)).trans ((gp_ne eG_12 (by decide)).trans ((gp_ne eG_9 (by decide)).trans ((gp_ne eG_6 (by decide)).trans (gp_eq eG_3)))))) dX12_layStreet_56 ?_
  refine lv_icmp_ge (tgt := 83) hx hb dX12_layStreet_59 (by decide) (fun c_24 => ?_) (fun c_24 => ?_)
  · have c_24 : y_1.toInt ≤ x_20.toInt := xI_le rfl rfl c_24
    refine lv_iconst (v := 0) hx hb dX12_layStreet_83 (by decide) ?_
    refine lv_istore (lv' := [(4, .int 0), (0, .ref (a 66)), (2, .int p1), (3, .int p2)]) hx hb dX12_layStreet_84 hl (by decide) rfl (fun ls hl => ?_)
    have g_30 : (G_16.1 66 60).toInt = y_4.toInt := by rw [show G_16.1 66 60 = y_4 from ((hq_17.i 66 60 (by decide) (by decide)).trans ((gp_ne eG_15 (by decide)).trans ((gp_ne eG_12 (by decide)).trans ((gp_ne eG_9 (by decide)).trans (gp_eq eG_6)))))]
    have b_31 : 0 ≤ (G.1 98 400).toInt ∧ (G.1 98 400).toInt ≤ 1 := hB_G.i 98 400 rfl rfl
    have g_32 : (G_16.1 98 400).toInt = (G.1 98 400).toInt := by rw [show G_16.1 98 400 = (G.1 98 400) from ((hq_17.i 98 400 (by decide) (by decide)).trans ((gp_ne eG_15 (by decide)).trans ((gp_ne eG_12 (by decide)).trans ((gp_ne eG_9 (by decide)).trans ((gp_ne eG_6 (by decide)).trans (gp_ne eG_3 (by decide)))))))]
    have qc_33 : (0 : Int32).toInt = 0 := rfl
    refine loop_N (Inv := fun n H locs ls => ∃ (G_25 : GS) (x_29 : Int32), (n : Int) = 512 - x_29.toInt ∧ (0 ≤ x_29.toInt ∧ x_29.toInt ≤ 512) ∧ (x_29.toInt ≤ 400 ∨ (G_25.1 66 60).toInt = 0 ∨ (G_25.1 98 400).toInt = 0) ∧ Wd D k A a G_25 H ∧ Bd G_25 ∧ Fr [76, 97, 98] [(66, 59), (66, 60), (66, 61), (66, 62), (66, 63)] G G_25 ∧ Fr [98] [] G_16 G_25 ∧ va_S A s.heap H locs ∧ lv_has ls 6 [(4, .int x_29), (0, .ref (a 66))]) (fun n_28 H locs ls ih_27 hI => ?_) (512 - 0 : Int).toNat ⟨G_16, 0, (Int.toNat_of_nonneg (by omega)), ⟨by omega, by omega⟩, (by omega), hW, hB_G_16, hF, Fr.rf, hS, lv_sub hl [0, 1] rfl⟩
    obtain ⟨G_25, x_29, hn_36, f_34, f_35, hW, hB_G_25, hF, hq_26, hS, hl⟩ := hI
    have g_37 : (G_25.1 66 60).toInt = y_4.toInt := by rw [show G_25.1 66 60 = y_4 from ((hq_26.i 66 60 (by decide) (by decide)).trans ((hq_17.i 66 60 (by decide) (by decide)).trans ((gp_ne eG_15 (by decide)).trans ((gp_ne eG_12 (by decide)).trans ((gp_ne eG_9 (by decide)).trans (gp_eq eG_6))))))]
    have b_38 : 0 ≤ (G_25.1 98 400).toInt ∧ (G_25.1 98 400).toInt ≤ 1 := hB_G_25.i 98 400 rfl rfl
    refine lv_iload hx hb dX12_layStreet_86 (lv_at hl 0 rfl) ?_
    refine lv_sipush (v := 512) hx hb dX12_layStreet_88 (by decide) ?_
    refine lv_icmp_ge (tgt := 167) hx hb dX12_layStreet_91 (by decide) (fun c_39 => ?_) (fun c_39 => ?_)
    · have c_39 : 512 ≤ x_29.toInt := xI_le rfl rfl c_39
      have g_40 : (G_25.1 66 59).toInt = y_1.toInt := by rw [show G_25.1 66 59 = y_1 from ((hq_26.i 66 59 (by decide) (by decide)).trans ((hq_17.i 66 59 (by decide) (by decide)).trans ((gp_ne eG_15 (by decide)).trans ((gp_ne eG_12 (by decide)).trans ((gp_ne eG_9 (by decide)).trans ((gp_ne eG_6 (by decide)).trans (gp_eq eG_3)))))))]
      have g_41 : (G_25.1 66 60).toInt = y_4.toInt := by rw [show G_25.1 66 60 = y_4 from ((hq_26.i 66 60 (by decide) (by decide)).trans ((hq_17.i 66 60 (by decide) (by decide)).trans ((gp_ne eG_15 (by decide)).trans ((gp_ne eG_12 (by decide)).trans ((gp_ne eG_9 (by decide)).trans (gp_eq eG_6))))))]
      have g_42 : (G_25.1 66 61).toInt = y_7.toInt := by rw [show G_25.1 66 61 = y_7 from ((hq_26.i 66 61 (by decide) (by decide)).trans ((hq_17.i 66 61 (by decide) (by decide)).trans ((gp_ne eG_15 (by decide)).trans ((gp_ne eG_12 (by decide)).trans (gp_eq eG_9)))))]
      have g_43 : (G_25.1 66 62).toInt = y_10.toInt := by rw [show G_25.1 66 62 = y_10 from ((hq_26.i 66 62 (by decide) (by decide)).trans ((hq_17.i 66 62 (by decide) (by decide)).trans ((gp_ne eG_15 (by decide)).trans (gp_eq eG_12))))]
      have g_44 : (G_25.1 66 63).toInt = y_13.toInt := by rw [show G_25.1 66 63 = y_13 from ((hq_26.i 66 63 (by decide) (by decide)).trans ((hq_17.i 66 63 (by decide) (by decide)).trans (gp_eq eG_15)))]
      exact W.vret hx hb hr (fun t ht _ => ⟨⟨G_25, rfl, ⟨hB_G_25, hF, (by omega)⟩, wd_t ht hW⟩, hS.F ht⟩) hS.2.2 dX12_layStreet_167
    · have c_39 : x_29.toInt < 512 := xI_nle rfl rfl c_39
      refine lv_aload_n hx hb dX12_layStreet_94 rfl (lv_at hl 1 rfl) ?_
      refine S_getR (n := 98) (C := RX12) (T := TX12) (N := 89) hx hb hg iX12 hown hK hW kd_66 rfl 58 (by decide) (hg (Cond.fieldLink RX12 115 "SlabWalkModel" "lawful" "[Z") m1372) (fun _ h9 => h9) rfl dX12_layStreet_95 ?_
      refine lv_iload hx hb dX12_layStreet_98 (lv_at hl 0 rfl) ?_
      refine lv_aload_n hx hb dX12_layStreet_100 rfl (lv_at hl 1 rfl) ?_
      refine lv_iload hx hb dX12_layStreet_101 (lv_at hl 0 rfl) ?_
      have g_45 : (G_25.1 66 59).toInt = y_1.toInt := by rw [show G_25.1 66 59 = y_1 from ((hq_26.i 66 59 (by decide) (by decide)).trans ((hq_17.i 66 59 (by decide) (by decide)).trans ((gp_ne eG_15 (by decide)).trans ((gp_ne eG_12 (by decide)).trans ((gp_ne eG_9 (by decide)).trans ((gp_ne eG_6 (by decide)).trans (gp_eq eG_3)))))))]
      have g_46 : (G_25.1 66 60).toInt = y_4.toInt := by rw [show G_25.1 66 60 = y_4 from ((hq_26.i 66 60 (by decide) (by decide)).trans ((hq_17.i 66 60 (by decide) (by decide)).trans ((gp_ne eG_15 (by decide)).trans ((gp_ne eG_12 (by decide)).trans ((gp_ne eG_9 (by decide)).trans (gp_eq eG_6))))))]
      refine S_calli (va_runV (As := [.int x_29]) (rest := [.int x_29, .ref (a 98)]) ⟨hx, hb, hml, hown, hts⟩ (n_stands1 l D k A a z G_25 x_29 ) (cwV 1 hts (gd_V hgd m1838 m1840 m92 m131 m1841) rfl rfl rfl (by decide +kernel) ⟨Nat.le_of_ble_eq_true rfl, Nat.le_of_ble_eq_true rfl⟩) (pre_V hW hB_G_25 hK hZ hS kd_66 rfl) rfl rfl hl.1 rfl (lv_room (Nat.le_of_ble_eq_true rfl)) dX12_layStreet_103 ⟨Nat.le_of_ble_eq_true rfl, Nat.le_of_ble_eq_true rfl⟩) hS (fun r_47 G_48 H locs hpo hW hS => ?_)
      obtain ⟨hB_G_48, hq_49, f_51, hp_50⟩ := hpo
      have hF := hF.call hq_49 (by decide) (by decide)
      refine S_zast hx hb hK hW hS kd_98 (vin (by omega) (by omega)) dX12_layStreet_106 (fun G_52 H locs eG_52 hW hS => ?_)
      have hB_G_52 : Bd G_52 := hB_G_48.putLaw eG_52 (by omega) (by omega)
      have hF := hF.put eG_52 (Or.inl (by decide))
      have u_53 := st400 eG_52 (by omega)
      have u_54 := nar_at eG_52 (by omega) (by omega)
      refine lv_iload hx hb dX12_layStreet_107 (lv_at hl 0 rfl) ?_
      refine lv_istore (lv' := [(5, .int x_29), (4, .int x_29), (0, .ref (a 66))]) hx hb dX12_layStreet_109 hl (by decide) rfl (fun ls hl => ?_)
      have g_60 : (G_52.1 66 59).toInt = y_1.toInt := by rw [show G_52.1 66 59 = y_1 from ((gp_ne eG_52 (fun q => absurd q.1 (by decide))).trans ((hq_49.i 66 59 (by decide) (by decide)).trans ((hq_26.i 66 59 (by decide) (by decide)).trans ((hq_17.i 66 59 (by decide) (by decide)).trans ((gp_ne eG_15 (by decide)).trans ((gp_ne eG_12 (by decide)).trans ((gp_ne eG_9 (by decide)).trans ((gp_ne eG_6 (by decide)).trans (gp_eq eG_3)))))))))]
      have g_61 : (G_52.1 66 60).toInt = y_4.toInt := by rw [show G_52.1 66 60 = y_4 from ((gp_ne eG_52 (fun q => absurd q.1 (by decide))).trans ((hq_49.i 66 60 (by decide) (by decide)).trans ((hq_26.i 66 60 (by decide) (by decide)).trans ((hq_17.i 66 60 (by decide) (by decide)).trans ((gp_ne eG_15 (by decide)).trans ((gp_ne eG_12 (by decide)).trans ((gp_ne eG_9 (by decide)).trans (gp_eq eG_6))))))))]
      have g_62 : (G_52.1 66 60).toInt = y_4.toInt := by rw [show G_52.1 66 60 = y_4 from ((gp_ne eG_52 (fun q => absurd q.1 (by decide))).trans ((hq_49.i 66 60 (by decide) (by decide)).trans ((hq_26.i 66 60 (by decide) (by decide)).trans ((hq_17.i 66 60 (by decide) (by decide)).trans ((gp_ne eG_15 (by decide)).trans ((gp_ne eG_12 (by decide)).trans ((gp_ne eG_9 (by decide)).trans (gp_eq eG_6))))))))]
      have b_63 : 0 ≤ (G_52.1 98 400).toInt ∧ (G_52.1 98 400).toInt ≤ 1 := hB_G_52.i 98 400 rfl rfl
      refine loop_N (Inv := fun n H locs ls => ∃ (G_55 : GS) (x_59 : Int32), (n : Int) = 523 - x_59.toInt ∧ (0 ≤ x_59.toInt ∧ x_59.toInt ≤ 523) ∧ (x_29.toInt + (G_55.1 66 60).toInt ≤ (G_55.1 66 59).toInt ∨ (G_55.1 98 x_29.toNatClampNeg).toInt = 0) ∧ (x_29.toInt ≤ x_59.toInt) ∧ (x_29.toInt ≤ 399 ∨ (G_55.1 66 60).toInt = 0 ∨ (G_55.1 98 400).toInt = 0) ∧ Wd D k A a G_55 H ∧ Bd G_55 ∧ Fr [76, 97, 98] [(66, 59), (66, 60), (66, 61), (66, 62), (66, 63)] G G_55 ∧ Fr [98] [] G_52 G_55 ∧ va_S A s.heap H locs ∧ lv_has ls 6 [(5, .int x_59), (4, .int x_29), (0, .ref (a 66))]) (fun n_58 H locs ls ih_57 hI => ?_) (523 - x_29.toInt : Int).toNat ⟨G_52, x_29, (Int.toNat_of_nonneg (by omega)), ⟨by omega, by omega⟩, (by omega), (by omega), (by omega), hW, hB_G_52, hF, Fr.rf, hS, lv_sub hl [0, 1, 2] rfl⟩
      obtain ⟨G_55, x_59, hn_68, f_64, f_65, f_66, f_67, hW, hB_G_55, hF, hq_56, hS, hl⟩ := hI
      have g_69 : (G_55.1 66 59).toInt = y_1.toInt := by rw [show G_55.1 66 59 = y_1 from ((hq_56.i 66 59 (by decide) (by decide)).trans ((gp_ne eG_52 (fun q => absurd q.1 (by decide))).trans ((hq_49.i 66 59 (by decide) (by decide)).trans ((hq_26.i 66 59 (by decide) (by decide)).trans ((hq_17.i 66 59 (by decide) (by decide)).trans ((gp_ne eG_15 (by decide)).trans ((gp_ne eG_12 (by decide)).trans ((gp_ne eG_9 (by decide)).trans ((gp_ne eG_6 (by decide)).trans (gp_eq eG_3))))))))))]
      have g_70 : (G_55.1 66 60).toInt = y_4.toInt := by rw [show G_55.1 66 60 = y_4 from ((hq_56.i 66 60 (by decide) (by decide)).trans ((gp_ne eG_52 (fun q => absurd q.1 (by decide))).trans ((hq_49.i 66 60 (by decide) (by decide)).trans ((hq_26.i 66 60 (by decide) (by decide)).trans ((hq_17.i 66 60 (by decide) (by decide)).trans ((gp_ne eG_15 (by decide)).trans ((gp_ne eG_12 (by decide)).trans ((gp_ne eG_9 (by decide)).trans (gp_eq eG_6)))))))))]
      have g_71 : (G_55.1 66 60).toInt = y_4.toInt := by rw [show G_55.1 66 60 = y_4 from ((hq_56.i 66 60 (by decide) (by decide)).trans ((gp_ne eG_52 (fun q => absurd q.1 (by decide))).trans ((hq_49.i 66 60 (by decide) (by decide)).trans ((hq_26.i 66 60 (by decide) (by decide)).trans ((hq_17.i 66 60 (by decide) (by decide)).trans ((gp_ne eG_15 (by decide)).trans ((gp_ne eG_12 (by decide)).trans ((gp_ne eG_9 (by decide)).trans (gp_eq eG_6)))))))))]
      have b_72 : 0 ≤ (G_55.1 98 400).toInt ∧ (G_55.1 98 400).toInt ≤ 1 := hB_G_55.i 98 400 rfl rfl
      refine lv_iload hx hb dX12_layStreet_111 (lv_at hl 0 rfl) ?_
      refine lv_iload hx hb dX12_layStreet_113 (lv_at hl 1 rfl) ?_
      refine lv_aload_n hx hb dX12_layStreet_115 rfl (lv_at hl 2 rfl) ?_
      refine S_getI (v := y_4) (C := RX12) (T := TX12) (N := 89) hx hb hg iX12 hown hK hW kd_66 rfl 60 (by decide) (hg (Cond.fieldLink RX12 472 "SlabWalkModel" "foot" "I") m1374) (fun _ h9 => h9) rfl ((hq_56.i 66 60 (by decide) (by decide)).trans ((gp_ne eG_52 (fun q => absurd q.1 (by decide))).trans ((hq_49.i 66 60 (by decide) (by decide)).trans ((hq_26.i 66 60 (by decide) (by decide)).trans ((hq_17.i 66 60 (by decide) (by decide)).trans ((gp_ne eG_15 (by decide)).trans ((gp_ne eG_12 (by decide)).trans ((gp_ne eG_9 (by decide)).trans (gp_eq eG_6))))))))) dX12_layStreet_116 ?_
      refine lv_iadd hx hb dX12_layStreet_119 ?_
      refine lv_topi (fun y_73 ey_73 => ?_)
      have ty_73 : y_73.toInt = x_29.toInt + y_4.toInt := xI_add rfl rfl ey_73 (by omega) (by omega)
      refine lv_icmp_ge (tgt := 161) hx hb dX12_layStreet_120 (by decide) (fun c_74 => ?_) (fun c_74 => ?_)
      · have c_74 : y_73.toInt ≤ x_59.toInt := xI_le rfl rfl c_74
        obtain ⟨y_75, ey_75⟩ : ∃ q, q = x_29 + 1 := ⟨_, rfl⟩
        have ty_75 : y_75.toInt = x_29.toInt + 1 := xI_add rfl rfl ey_75 (by omega) (by omega)
        refine lv_iinc (v := y_75) (lv' := [(4, .int y_75), (5, .int x_59), (0, .ref (a 66))]) hx hb dX12_layStreet_161 hl (k := 1) rfl (by rw [ey_75]; rfl) (by decide) rfl (fun ls hl => ?_)
        refine lv_goto (tgt := 86) hx hb dX12_layStreet_164 (by decide) ?_
        have g_76 : (G_55.1 66 60).toInt = y_4.toInt := by rw [show G_55.1 66 60 = y_4 from ((hq_56.i 66 60 (by decide) (by decide)).trans ((gp_ne eG_52 (fun q => absurd q.1 (by decide))).trans ((hq_49.i 66 60 (by decide) (by decide)).trans ((hq_26.i 66 60 (by decide) (by decide)).trans ((hq_17.i 66 60 (by decide) (by decide)).trans ((gp_ne eG_15 (by decide)).trans ((gp_ne eG_12 (by decide)).trans ((gp_ne eG_9 (by decide)).trans (gp_eq eG_6)))))))))]
        exact ih_27 (512 - y_75.toInt : Int).toNat (by omega) _ _ _ ⟨G_55, y_75, (Int.toNat_of_nonneg (by omega)), ⟨by omega, by omega⟩, (by omega), hW, hB_G_55, hF, ((((Fr.rf.call hq_26 (by decide) (by decide)).call hq_49 (by decide) (by decide)).put eG_52 (Or.inl (by decide))).call hq_56 (by decide) (by decide)), hS, lv_sub hl [0, 2] rfl⟩
      · have c_74 : x_59.toInt < y_73.toInt := xI_nle rfl rfl c_74
        refine lv_aload_n hx hb dX12_layStreet_123 rfl (lv_at hl 2 rfl) ?_
        refine S_getR (n := 98) (C := RX12) (T := TX12) (N := 89) hx hb hg iX12 hown hK hW kd_66 rfl 58 (by decide) (hg (Cond.fieldLink RX12 115 "SlabWalkModel" "lawful" "[Z") m1372) (fun _ h9 => h9) rfl dX12_layStreet_124 ?_
        refine lv_iload hx hb dX12_layStreet_127 (lv_at hl 1 rfl) ?_
        refine S_zald hx hb hK hW kd_98 (vin (by omega) (by omega)) dX12_layStreet_129 (fun y_77 ey_77 => ?_)
        have ty_77 := hB_G_55.law ey_77
        have u_78 : y_77.toInt = (G_55.1 98 x_29.toNatClampNeg).toInt := congrArg Int32.toInt (ey_77)
        refine lv_if_eq (tgt := 161) hx hb dX12_layStreet_130 (by decide) (fun c_79 => ?_) (fun c_79 => ?_)
        · have c_79 : y_77.toInt = 0 := xI_eq rfl rfl c_79
          obtain ⟨y_80, ey_80⟩ : ∃ q, q = x_29 + 1 := ⟨_, rfl⟩
          have ty_80 : y_80.toInt = x_29.toInt + 1 := xI_add rfl rfl ey_80 (by omega) (by omega)
          refine lv_iinc (v := y_80) (lv' := [(4, .int y_80), (5, .int x_59), (0, .ref (a 66))]) hx hb dX12_layStreet_161 hl (k := 1) rfl (by rw [ey_80]; rfl) (by decide) rfl (fun ls hl => ?_)
          refine lv_goto (tgt := 86) hx hb dX12_layStreet_164 (by decide) ?_
          have g_81 : (G_55.1 66 60).toInt = y_4.toInt := by rw [show G_55.1 66 60 = y_4 from ((hq_56.i 66 60 (by decide) (by decide)).trans ((gp_ne eG_52 (fun q => absurd q.1 (by decide))).trans ((hq_49.i 66 60 (by decide) (by decide)).trans ((hq_26.i 66 60 (by decide) (by decide)).trans ((hq_17.i 66 60 (by decide) (by decide)).trans ((gp_ne eG_15 (by decide)).trans ((gp_ne eG_12 (by decide)).trans ((gp_ne eG_9 (by decide)).trans (gp_eq eG_6)))))))))]
          exact ih_27 (512 - y_80.toInt : Int).toNat (by omega) _ _ _ ⟨G_55, y_80, (Int.toNat_of_nonneg (by omega)), ⟨by omega, by omega⟩, (by omega), hW, hB_G_55, hF, ((((Fr.rf.call hq_26 (by decide) (by decide)).call hq_49 (by decide) (by decide)).put eG_52 (Or.inl (by decide))).call hq_56 (by decide) (by decide)), hS, lv_sub hl [0, 2] rfl⟩
        · have c_79 : y_77.toInt ≠ 0 := xI_ne rfl rfl c_79
          refine lv_aload_n hx hb dX12_layStreet_133 rfl (lv_at hl 2 rfl) ?_
          refine S_getR (n := 98) (C := RX12) (T := TX12) (N := 89) hx hb hg iX12 hown hK hW kd_66 rfl 58 (by decide) (hg (Cond.fieldLink RX12 115 "SlabWalkModel" "lawful" "[Z") m1372) (fun _ h9 => h9) rfl dX12_layStreet_134 ?_
          refine lv_iload hx hb dX12_layStreet_137 (lv_at hl 1 rfl) ?_
          refine lv_aload_n hx hb dX12_layStreet_139 rfl (lv_at hl 2 rfl) ?_
          refine S_getR (n := 97) (C := RX12) (T := TX12) (N := 89) hx hb hg iX12 hown hK hW kd_66 rfl 57 (by decide) (hg (Cond.fieldLink RX12 111 "SlabWalkModel" "lines" "[Z") m1371) (fun _ h9 => h9) rfl dX12_layStreet_140 ?_
          refine lv_iload hx hb dX12_layStreet_143 (lv_at hl 0 rfl) ?_
          refine S_zald hx hb hK hW kd_97 (vin (by omega) (by omega)) dX12_layStreet_145 (fun y_82 ey_82 => ?_)
          have ty_82 : 0 ≤ y_82.toInt ∧ y_82.toInt ≤ 1 := hB_G_55.v ey_82 rfl rfl
          have u_83 : y_82.toInt = (G_16.1 97 x_59.toNatClampNeg).toInt := congrArg Int32.toInt (ey_82.trans (((hq_56.ri 97 (by decide) (by decide) x_59.toNatClampNeg).trans ((gp_ne eG_52 (fun q => absurd q.1 (by decide))).trans ((hq_49.ri 97 (by decide) (by decide) x_59.toNatClampNeg).trans (hq_26.ri 97 (by decide) (by decide) x_59.toNatClampNeg))))))
          refine lv_if_ne (tgt := 153) hx hb dX12_layStreet_146 (by decide) (fun c_84 => ?_) (fun c_84 => ?_)
          · have c_84 : y_82.toInt ≠ 0 := xI_ne rfl rfl c_84
            refine lv_iconst (v := 0) hx hb dX12_layStreet_153 (by decide) ?_
            refine S_zast hx hb hK hW hS kd_98 (vin (by omega) (by omega)) dX12_layStreet_154 (fun G_85 H locs eG_85 hW hS => ?_)
            have qc_86 : (0 : Int32).toInt = 0 := rfl
            have hB_G_85 : Bd G_85 := hB_G_55.putLaw eG_85 (by omega) (by omega)
            have hF := hF.put eG_85 (Or.inl (by decide))
            have u_87 := st400 eG_85 (by omega)
            obtain ⟨y_88, ey_88⟩ : ∃ q, q = x_59 + 1 := ⟨_, rfl⟩
            have ty_88 : y_88.toInt = x_59.toInt + 1 := xI_add rfl rfl ey_88 (by omega) (by omega)
            refine lv_iinc (v := y_88) (lv' := [(5, .int y_88), (4, .int x_29), (0, .ref (a 66))]) hx hb dX12_layStreet_155 hl (k := 0) rfl (by rw [ey_88]; rfl) (by decide) rfl (fun ls hl => ?_)
            refine lv_goto (tgt := 111) hx hb dX12_layStreet_158 (by decide) ?_
            have g_89 : (G_85.1 66 59).toInt = y_1.toInt := by rw [show G_85.1 66 59 = y_1 from ((gp_ne eG_85 (fun q => absurd q.1 (by decide))).trans ((hq_56.i 66 59 (by decide) (by decide)).trans ((gp_ne eG_52 (fun q => absurd q.1 (by decide))).trans ((hq_49.i 66 59 (by decide) (by decide)).trans ((hq_26.i 66 59 (by decide) (by decide)).trans ((hq_17.i 66 59 (by decide) (by decide)).trans ((gp_ne eG_15 (by decide)).trans ((gp_ne eG_12 (by decide)).trans ((gp_ne eG_9 (by decide)).trans ((gp_ne eG_6 (by decide)).trans (gp_eq eG_3)))))))))))]
            have g_90 : (G_85.1 66 60).toInt = y_4.toInt := by rw [show G_85.1 66 60 = y_4 from ((gp_ne eG_85 (fun q => absurd q.1 (by decide))).trans ((hq_56.i 66 60 (by decide) (by decide)).trans ((gp_ne eG_52 (fun q => absurd q.1 (by decide))).trans ((hq_49.i 66 60 (by decide) (by decide)).trans ((hq_26.i 66 60 (by decide) (by decide)).trans ((hq_17.i 66 60 (by decide) (by decide)).trans ((gp_ne eG_15 (by decide)).trans ((gp_ne eG_12 (by decide)).trans ((gp_ne eG_9 (by decide)).trans (gp_eq eG_6))))))))))]
            have g_91 : (G_85.1 66 60).toInt = y_4.toInt := by rw [show G_85.1 66 60 = y_4 from ((gp_ne eG_85 (fun q => absurd q.1 (by decide))).trans ((hq_56.i 66 60 (by decide) (by decide)).trans ((gp_ne eG_52 (fun q => absurd q.1 (by decide))).trans ((hq_49.i 66 60 (by decide) (by decide)).trans ((hq_26.i 66 60 (by decide) (by decide)).trans ((hq_17.i 66 60 (by decide) (by decide)).trans ((gp_ne eG_15 (by decide)).trans ((gp_ne eG_12 (by decide)).trans ((gp_ne eG_9 (by decide)).trans (gp_eq eG_6))))))))))]
            have b_92 : 0 ≤ (G_85.1 98 400).toInt ∧ (G_85.1 98 400).toInt ≤ 1 := hB_G_85.i 98 400 rfl rfl
            exact ih_57 (523 - y_88.toInt : Int).toNat (by omega) _ _ _ ⟨G_85, y_88, (Int.toNat_of_nonneg (by omega)), ⟨by omega, by omega⟩, (by omega), (by omega), (by omega), hW, hB_G_85, hF, ((Fr.rf.call hq_56 (by decide) (by decide)).put eG_85 (Or.inl (by decide))), hS, lv_sub hl [0, 1, 2] rfl⟩
          · have c_84 : y_82.toInt = 0 := xI_eq rfl rfl c_84
            refine lv_iconst (v := 1) hx hb dX12_layStreet_149 (by decide) ?_
            refine lv_goto (tgt := 154) hx hb dX12_layStreet_150 (by decide) ?_
            refine S_zast hx hb hK hW hS kd_98 (vin (by omega) (by omega)) dX12_layStreet_154 (fun G_93 H locs eG_93 hW hS => ?_)
            have qc_94 : (1 : Int32).toInt = 1 := rfl
            have hB_G_93 : Bd G_93 := hB_G_55.putLaw eG_93 (by omega) (by omega)
            have hF := hF.put eG_93 (Or.inl (by decide))
            have u_95 := st400 eG_93 (by omega)
            obtain ⟨y_96, ey_96⟩ : ∃ q, q = x_59 + 1 := ⟨_, rfl⟩
            have ty_96 : y_96.toInt = x_59.toInt + 1 := xI_add rfl rfl ey_96 (by omega) (by omega)
            refine lv_iinc (v := y_96) (lv' := [(5, .int y_96), (4, .int x_29), (0, .ref (a 66))]) hx hb dX12_layStreet_155 hl (k := 0) rfl (by rw [ey_96]; rfl) (by decide) rfl (fun ls hl => ?_)
            refine lv_goto (tgt := 111) hx hb dX12_layStreet_158 (by decide) ?_
            have g_97 : (G_93.1 66 59).toInt = y_1.toInt := by rw [show G_93.1 66 59 = y_1 from ((gp_ne eG_93 (fun q => absurd q.1 (by decide))).trans ((hq_56.i 66 59 (by decide) (by decide)).trans ((gp_ne eG_52 (fun q => absurd q.1 (by decide))).trans ((hq_49.i 66 59 (by decide) (by decide)).trans ((hq_26.i 66 59 (by decide) (by decide)).trans ((hq_17.i 66 59 (by decide) (by decide)).trans ((gp_ne eG_15 (by decide)).trans ((gp_ne eG_12 (by decide)).trans ((gp_ne eG_9 (by decide)).trans ((gp_ne eG_6 (by decide)).trans (gp_eq eG_3)))))))))))]
            have g_98 : (G_93.1 66 60).toInt = y_4.toInt := by rw [show G_93.1 66 60 = y_4 from ((gp_ne eG_93 (fun q => absurd q.1 (by decide))).trans ((hq_56.i 66 60 (by decide) (by decide)).trans ((gp_ne eG_52 (fun q => absurd q.1 (by decide))).trans ((hq_49.i 66 60 (by decide) (by decide)).trans ((hq_26.i 66 60 (by decide) (by decide)).trans ((hq_17.i 66 60 (by decide) (by decide)).trans ((gp_ne eG_15 (by decide)).trans ((gp_ne eG_12 (by decide)).trans ((gp_ne eG_9 (by decide)).trans (gp_eq eG_6))))))))))]
            have g_99 : (G_93.1 66 60).toInt = y_4.toInt := by rw [show G_93.1 66 60 = y_4 from ((gp_ne eG_93 (fun q => absurd q.1 (by decide))).trans ((hq_56.i 66 60 (by decide) (by decide)).trans ((gp_ne eG_52 (fun q => absurd q.1 (by decide))).trans ((hq_49.i 66 60 (by decide) (by decide)).trans ((hq_26.i 66 60 (by decide) (by decide)).trans ((hq_17.i 66 60 (by decide) (by decide)).trans ((gp_ne eG_15 (by decide)).trans ((gp_ne eG_12 (by decide)).trans ((gp_ne eG_9 (by decide)).trans (gp_eq eG_6))))))))))]
            have b_100 : 0 ≤ (G_93.1 98 400).toInt ∧ (G_93.1 98 400).toInt ≤ 1 := hB_G_93.i 98 400 rfl rfl
            exact ih_57 (523 - y_96.toInt : Int).toNat (by omega) _ _ _ ⟨G_93, y_96, (Int.toNat_of_nonneg (by omega)), ⟨by omega, by omega⟩, (by omega), (by omega), (by omega), hW, hB_G_93, hF, ((Fr.rf.call hq_56 (by decide) (by decide)).put eG_93 (Or.inl (by decide))), hS, lv_sub hl [0, 1, 2] rfl⟩
  · have c_24 : x_20.toInt < y_1.toInt := xI_nle rfl rfl c_24
    refine lv_aload_n hx hb dX12_layStreet_62 rfl (lv_at hl 1 rfl) ?_
    refine S_getR (n := 97) (C := RX12) (T := TX12) (N := 89) hx hb hg iX12 hown hK hW kd_66 rfl 57 (by decide) (hg (Cond.fieldLink RX12 111 "SlabWalkModel" "lines" "[Z") m1371) (fun _ h9 => h9) rfl dX12_layStreet_63 ?_
    refine lv_iload hx hb dX12_layStreet_66 (lv_at hl 0 rfl) ?_
    refine lv_aload_n hx hb dX12_layStreet_68 rfl (lv_at hl 1 rfl) ?_
    refine lv_iload_n hx hb dX12_layStreet_69 rfl (lv_at hl 2 rfl) ?_
    refine lv_iload_n hx hb dX12_layStreet_70 rfl (lv_at hl 3 rfl) ?_
    refine lv_iload hx hb dX12_layStreet_71 (lv_at hl 0 rfl) ?_
    have g_101 : gP G_16 = gP G := gP_fr (rs := [76, 97]) (fs := [(66, 59), (66, 60), (66, 61), (66, 62), (66, 63)]) ((((((Fr.rf.put eG_3 (Or.inr (by decide))).put eG_6 (Or.inr (by decide))).put eG_9 (Or.inr (by decide))).put eG_12 (Or.inr (by decide))).put eG_15 (Or.inr (by decide))).call hq_17 (by decide) (by decide)) (by decide) (by decide)
    refine S_calli (va_runV (As := [.int p1, .int p2, .int x_20]) (rest := [.int x_20, .ref (a 97)]) ⟨hx, hb, hml, hown, hts⟩ (n_isLine l D k A a z G_16 p1 p2 x_20 ⟨by omega, by omega⟩ ⟨by omega, by omega⟩ (by omega)) (cwV 3 hts (gd_V hgd m1803 m1805 m86 m131 m1806) rfl rfl rfl (by decide +kernel) ⟨Nat.le_of_ble_eq_true rfl, Nat.le_of_ble_eq_true rfl⟩) (pre_V hW hB_G_16 hK hZ hS kd_66 rfl) rfl rfl hl.1 rfl (lv_room (Nat.le_of_ble_eq_true rfl)) dX12_layStreet_73 ⟨Nat.le_of_ble_eq_true rfl, Nat.le_of_ble_eq_true rfl⟩) hS (fun r_102 G_103 H locs hpo hW hS => ?_)
    obtain ⟨hB_G_103, hq_104, f_106⟩ := hpo
    have hF := hF.call hq_104 (by decide) (by decide)
    refine S_zast hx hb hK hW hS kd_97 (vin (by omega) (by omega)) dX12_layStreet_76 (fun G_107 H locs eG_107 hW hS => ?_)
    have hB_G_107 : Bd G_107 := hB_G_103.put (lo := 0) (hi := 1) eG_107 rfl rfl rfl nz_bool.1 nz_bool.2 (hB_G_103.2.put eG_107 rfl)
    have hF := hF.put eG_107 (Or.inl (by decide))
    obtain ⟨y_108, ey_108⟩ : ∃ q, q = x_20 + 1 := ⟨_, rfl⟩
    have ty_108 : y_108.toInt = x_20.toInt + 1 := xI_add rfl rfl ey_108 (by omega) (by omega)
    refine lv_iinc (v := y_108) (lv' := [(4, .int y_108), (0, .ref (a 66)), (2, .int p1), (3, .int p2)]) hx hb dX12_layStreet_77 hl (k := 0) rfl (by rw [ey_108]; rfl) (by decide) rfl (fun ls hl => ?_)
    refine lv_goto (tgt := 53) hx hb dX12_layStreet_80 (by decide) ?_
    exact ih_18 (400 - y_108.toInt : Int).toNat (by omega) _ _ _ ⟨G_107, y_108, (Int.toNat_of_nonneg (by omega)), ⟨by omega, by omega⟩, hW, hB_G_107, hF, (((Fr.rf.call hq_17 (by decide) (by decide)).call hq_104 (by decide) (by decide)).put eG_107 (Or.inl (by decide))), hS, lv_sub hl [0, 1, 2, 3] rfl⟩

set_option maxHeartbeats 4000000 in
set_option maxRecDepth 100000 in
theorem n_line (l : Launch) (D : va_G) (k : KT) (A : Nat → Prop) (a : Nat → Nat) (z : SK) (G : GS) (p0 : Int32) (p1 : Int32) (p2 : Int32) (hP9 : gP G = 1) : Met l yX12_line (WS yX12_line cX12_line 4 (some .int)) ({ frames := 4, cells := 0, slots := 0, locals := 92 }) (va_Pc [.ref (a 66), .int p0, .int p1, .int p2] (cW D k A a z G)) (va_Qi (fun (r : Int32) (G1 : GS) => Bd G1 ∧ Fr [76] [] G G1) (fun (G1 : GS) t => Wd D k A a G1 t.heap) A) 0 0 A := by
  refine Met.ofW (cc := cX12_line) (maxL := 4) (ret := (some .int)) (by decide) rfl ?_
  intro p e s m args below meth c s₁ B hml hv
  obtain ⟨rfl, hW, hB_G, hK, hZ⟩ := hv
  have hx := B.exec
  have hb := B.bytes
  have hr := B.returns
  have hts := atoms_spec (ws := WS yX12_line cX12_line 4 (some .int)) B.pre
  have hgd : ∀ w ∈ gd, w ∈ WS yX12_line cX12_line 4 (some .int) := fun w h => List.mem_cons_of_mem _ h
  have hg : ∀ w ∈ gd, w.before _ s = true := fun w h => hts w (hgd w h)
  have hown : s.vm.findClass RX12 = some m.cls := findClass_of_methodNamed B.named
  have hS : va_S A s.heap s.heap [] := va_S.rf
  have hF : Fr [76] [] G G := Fr.rf
  have hl := lv_entry ([.ref (a 66), .int p0, .int p1, .int p2]) (n := 4) (Nat.le_of_ble_eq_true rfl)
  rw [lg_entry_eq]
  generalize (lg_sl ([.ref (a 66), .int p0, .int p1, .int p2]) ++ List.replicate (4 - (lg_sl ([.ref (a 66), .int p0, .int p1, .int p2])).length) Slot.unset).toArray = ls at hl ⊢
  have hl : lv_has ls 4 [(0, .ref (a 66)), (1, .int p0), (2, .int p1), (3, .int p2)] := hl
  refine lv_aload_n hx hb dX12_line_0 rfl (lv_at hl 0 rfl) ?_
  refine lv_iload_n hx hb dX12_line_1 rfl (lv_at hl 1 rfl) ?_
  refine S_calli (va_runV (As := [.int p0]) (rest := []) ⟨hx, hb, hml, hown, hts⟩ (n_isStreet l D k A a z G p0 ) (cwV 1 hts (gd_V hgd m1777 m1779 m83 m131 m1780) rfl rfl rfl (by decide +kernel) ⟨Nat.le_of_ble_eq_true rfl, Nat.le_of_ble_eq_true rfl⟩) (pre_V hW hB_G hK hZ hS kd_66 rfl) rfl rfl hl.1 rfl (lv_room (Nat.le_of_ble_eq_true rfl)) dX12_line_2 ⟨Nat.le_of_ble_eq_true rfl, Nat.le_of_ble_eq_true rfl⟩) hS (fun r_1 G_2 H locs hpo hW hS => ?_)
  obtain ⟨hB_G_2, hq_3, f_5, hp_4⟩ := hpo
  have hF := hF.call hq_3 (by decide) (by decide)
  refine lv_if_eq (tgt := 38) hx hb dX12_line_5 (by decide) (fun c_6 => ?_) (fun c_6 => ?_)
  · have c_6 : r_1.toInt = 0 := xI_eq rfl rfl c_6
    refine lv_iconst (v := (-1)) hx hb dX12_line_38 (by decide) ?_
    exact W.iret (v := (-1)) hx hb hr (fun t ht _ => ⟨⟨(-1), G_2, rfl, ⟨hB_G_2, hF⟩, wd_t ht hW⟩, hS.F ht⟩) hS.2.2 dX12_line_39
  · have c_6 : r_1.toInt ≠ 0 := xI_ne rfl rfl c_6
    refine lv_aload_n hx hb dX12_line_8 rfl (lv_at hl 0 rfl) ?_
    refine lv_iload_n hx hb dX12_line_9 rfl (lv_at hl 2 rfl) ?_
    refine S_calli (va_runV (As := [.int p1]) (rest := []) ⟨hx, hb, hml, hown, hts⟩ (n_areRules l D k A a z G_2 p1 ) (cwV 1 hts (gd_V hgd m1799 m1801 m85 m131 m1802) rfl rfl rfl (by decide +kernel) ⟨Nat.le_of_ble_eq_true rfl, Nat.le_of_ble_eq_true rfl⟩) (pre_V hW hB_G_2 hK hZ hS kd_66 rfl) rfl rfl hl.1 rfl (lv_room (Nat.le_of_ble_eq_true rfl)) dX12_line_10 ⟨Nat.le_of_ble_eq_true rfl, Nat.le_of_ble_eq_true rfl⟩) hS (fun r_7 G_8 H locs hpo hW hS => ?_)
    obtain ⟨hB_G_8, hq_9, f_11, hp_10⟩ := hpo
    have hF := hF.call hq_9 (by decide) (by decide)
    refine lv_if_eq (tgt := 38) hx hb dX12_line_13 (by decide) (fun c_12 => ?_) (fun c_12 => ?_)
    · have c_12 : r_7.toInt = 0 := xI_eq rfl rfl c_12
      refine lv_iconst (v := (-1)) hx hb dX12_line_38 (by decide) ?_
      exact W.iret (v := (-1)) hx hb hr (fun t ht _ => ⟨⟨(-1), G_8, rfl, ⟨hB_G_8, hF⟩, wd_t ht hW⟩, hS.F ht⟩) hS.2.2 dX12_line_39
    · have c_12 : r_7.toInt ≠ 0 := xI_ne rfl rfl c_12
      refine lv_aload_n hx hb dX12_line_16 rfl (lv_at hl 0 rfl) ?_
      refine lv_iload_n hx hb dX12_line_17 rfl (lv_at hl 1 rfl) ?_
      refine lv_iload_n hx hb dX12_line_18 rfl (lv_at hl 3 rfl) ?_
      refine S_calli (va_runV (As := [.int p0, .int p2]) (rest := []) ⟨hx, hb, hml, hown, hts⟩ (n_isInch l D k A a z G_8 p0 p2 ⟨by omega, by omega⟩) (cwV 2 hts (gd_V hgd m1784 m1786 m84 m131 m1787) rfl rfl rfl (by decide +kernel) ⟨Nat.le_of_ble_eq_true rfl, Nat.le_of_ble_eq_true rfl⟩) (pre_V hW hB_G_8 hK hZ hS kd_66 rfl) rfl rfl hl.1 rfl (lv_room (Nat.le_of_ble_eq_true rfl)) dX12_line_19 ⟨Nat.le_of_ble_eq_true rfl, Nat.le_of_ble_eq_true rfl⟩) hS (fun r_13 G_14 H locs hpo hW hS => ?_)
      obtain ⟨hB_G_14, hq_15, f_17, hp_16⟩ := hpo
      have hF := hF.call hq_15 (by decide) (by decide)
      refine lv_if_eq (tgt := 38) hx hb dX12_line_22 (by decide) (fun c_18 => ?_) (fun c_18 => ?_)
      · have c_18 : r_13.toInt = 0 := xI_eq rfl rfl c_18
        refine lv_iconst (v := (-1)) hx hb dX12_line_38 (by decide) ?_
        exact W.iret (v := (-1)) hx hb hr (fun t ht _ => ⟨⟨(-1), G_14, rfl, ⟨hB_G_14, hF⟩, wd_t ht hW⟩, hS.F ht⟩) hS.2.2 dX12_line_39
      · have c_18 : r_13.toInt ≠ 0 := xI_ne rfl rfl c_18
        refine lv_aload_n hx hb dX12_line_25 rfl (lv_at hl 0 rfl) ?_
        refine lv_iload_n hx hb dX12_line_26 rfl (lv_at hl 1 rfl) ?_
        refine lv_iload_n hx hb dX12_line_27 rfl (lv_at hl 2 rfl) ?_
        refine lv_iload_n hx hb dX12_line_28 rfl (lv_at hl 3 rfl) ?_
        have g_19 : gP G_14 = gP G := gP_fr (rs := []) (fs := []) (((Fr.rf.call hq_3 (by decide) (by decide)).call hq_9 (by decide) (by decide)).call hq_15 (by decide) (by decide)) (by decide) (by decide)
        refine S_calli (va_runV (As := [.int p0, .int p1, .int p2]) (rest := []) ⟨hx, hb, hml, hown, hts⟩ (n_isLine l D k A a z G_14 p0 p1 p2 ⟨by omega, by omega⟩ ⟨by omega, by omega⟩ (by omega)) (cwV 3 hts (gd_V hgd m1803 m1805 m86 m131 m1806) rfl rfl rfl (by decide +kernel) ⟨Nat.le_of_ble_eq_true rfl, Nat.le_of_ble_eq_true rfl⟩) (pre_V hW hB_G_14 hK hZ hS kd_66 rfl) rfl rfl hl.1 rfl (lv_room (Nat.le_of_ble_eq_true rfl)) dX12_line_29 ⟨Nat.le_of_ble_eq_true rfl, Nat.le_of_ble_eq_true rfl⟩) hS (fun r_20 G_21 H locs hpo hW hS => ?_)
        obtain ⟨hB_G_21, hq_22, f_24⟩ := hpo
        have hF := hF.call hq_22 (by decide) (by decide)
        refine S_calli (va_runS (As := [.int r_20]) (rest := []) ⟨hx, hb, hml, hown, hts⟩ (n_truth l D k A a z G_21 r_20 ⟨by omega, by omega⟩) (va_cwS 1 hts (gd_S hgd m1788 m1789 m131 m1790) rfl rfl rfl (by decide +kernel) ⟨Nat.le_of_ble_eq_true rfl, Nat.le_of_ble_eq_true rfl⟩) (pre_S hW hB_G_21 hK hZ hS) rfl rfl hl.1 rfl (lv_room (Nat.le_of_ble_eq_true rfl)) dX12_line_32 ⟨Nat.le_of_ble_eq_true rfl, Nat.le_of_ble_eq_true rfl⟩) hS (fun r_25 G_26 H locs hpo hW hS => ?_)
        obtain ⟨hB_G_26, hq_27, f_29, hp_28⟩ := hpo
        have hF := hF.call hq_27 (by decide) (by decide)
        refine lv_goto (tgt := 39) hx hb dX12_line_35 (by decide) ?_
        exact W.iret (v := r_25) hx hb hr (fun t ht _ => ⟨⟨r_25, G_26, rfl, ⟨hB_G_26, hF⟩, wd_t ht hW⟩, hS.F ht⟩) hS.2.2 dX12_line_39

set_option maxHeartbeats 4000000 in
set_option maxRecDepth 100000 in
theorem n_gap (l : Launch) (D : va_G) (k : KT) (A : Nat → Prop) (a : Nat → Nat) (z : SK) (G : GS) (p0 : Int32) (p1 : Int32) (p2 : Int32) (hP9 : gP G = 1) : Met l yX12_gap (WS yX12_gap cX12_gap 10 (some .int)) ({ frames := 4, cells := 0, slots := 0, locals := 92 }) (va_Pc [.ref (a 66), .int p0, .int p1, .int p2] (cW D k A a z G)) (va_Qi (fun (r : Int32) (G1 : GS) => Bd G1 ∧ Fr [76] [] G G1) (fun (G1 : GS) t => Wd D k A a G1 t.heap) A) 0 0 A := by
  refine Met.ofW (cc := cX12_gap) (maxL := 10) (ret := (some .int)) (by decide) rfl ?_
  intro p e s m args below meth c s₁ B hml hv
  obtain ⟨rfl, hW, hB_G, hK, hZ⟩ := hv
  have hx := B.exec
  have hb := B.bytes
  have hr := B.returns
  have hts := atoms_spec (ws := WS yX12_gap cX12_gap 10 (some .int)) B.pre
  have hgd : ∀ w ∈ gd, w ∈ WS yX12_gap cX12_gap 10 (some .int) := fun w h => List.mem_cons_of_mem _ h
  have hg : ∀ w ∈ gd, w.before _ s = true := fun w h => hts w (hgd w h)
  have hown : s.vm.findClass RX12 = some m.cls := findClass_of_methodNamed B.named
  have hS : va_S A s.heap s.heap [] := va_S.rf
  have hF : Fr [76] [] G G := Fr.rf
  have hl := lv_entry ([.ref (a 66), .int p0, .int p1, .int p2]) (n := 10) (Nat.le_of_ble_eq_true rfl)
  rw [lg_entry_eq]
  generalize (lg_sl ([.ref (a 66), .int p0, .int p1, .int p2]) ++ List.replicate (10 - (lg_sl ([.ref (a 66), .int p0, .int p1, .int p2])).length) Slot.unset).toArray = ls at hl ⊢
  have hl : lv_has ls 10 [(0, .ref (a 66)), (1, .int p0), (2, .int p1), (3, .int p2)] := hl
  refine lv_aload_n hx hb dX12_gap_0 rfl (lv_at hl 0 rfl) ?_
  refine lv_iload_n hx hb dX12_gap_1 rfl (lv_at hl 1 rfl) ?_
  refine S_calli (va_runV (As := [.int p0]) (rest := []) ⟨hx, hb, hml, hown, hts⟩ (n_isStreet l D k A a z G p0 ) (cwV 1 hts (gd_V hgd m1777 m1779 m83 m131 m1780) rfl rfl rfl (by decide +kernel) ⟨Nat.le_of_ble_eq_true rfl, Nat.le_of_ble_eq_true rfl⟩) (pre_V hW hB_G hK hZ hS kd_66 rfl) rfl rfl hl.1 rfl (lv_room (Nat.le_of_ble_eq_true rfl)) dX12_gap_2 ⟨Nat.le_of_ble_eq_true rfl, Nat.le_of_ble_eq_true rfl⟩) hS (fun r_1 G_2 H locs hpo hW hS => ?_)
  obtain ⟨hB_G_2, hq_3, f_5, hp_4⟩ := hpo
  have hF := hF.call hq_3 (by decide) (by decide)
  refine lv_if_eq (tgt := 25) hx hb dX12_gap_5 (by decide) (fun c_6 => ?_) (fun c_6 => ?_)
  · have c_6 : r_1.toInt = 0 := xI_eq rfl rfl c_6
    refine lv_iconst (v := (-1)) hx hb dX12_gap_25 (by decide) ?_
    exact W.iret (v := (-1)) hx hb hr (fun t ht _ => ⟨⟨(-1), G_2, rfl, ⟨hB_G_2, hF⟩, wd_t ht hW⟩, hS.F ht⟩) hS.2.2 dX12_gap_26
  · have c_6 : r_1.toInt ≠ 0 := xI_ne rfl rfl c_6
    refine lv_aload_n hx hb dX12_gap_8 rfl (lv_at hl 0 rfl) ?_
    refine lv_iload_n hx hb dX12_gap_9 rfl (lv_at hl 2 rfl) ?_
    refine S_calli (va_runV (As := [.int p1]) (rest := []) ⟨hx, hb, hml, hown, hts⟩ (n_areRules l D k A a z G_2 p1 ) (cwV 1 hts (gd_V hgd m1799 m1801 m85 m131 m1802) rfl rfl rfl (by decide +kernel) ⟨Nat.le_of_ble_eq_true rfl, Nat.le_of_ble_eq_true rfl⟩) (pre_V hW hB_G_2 hK hZ hS kd_66 rfl) rfl rfl hl.1 rfl (lv_room (Nat.le_of_ble_eq_true rfl)) dX12_gap_10 ⟨Nat.le_of_ble_eq_true rfl, Nat.le_of_ble_eq_true rfl⟩) hS (fun r_7 G_8 H locs hpo hW hS => ?_)
    obtain ⟨hB_G_8, hq_9, f_11, hp_10⟩ := hpo
    have hF := hF.call hq_9 (by decide) (by decide)
    refine lv_if_eq (tgt := 25) hx hb dX12_gap_13 (by decide) (fun c_12 => ?_) (fun c_12 => ?_)
    · have c_12 : r_7.toInt = 0 := xI_eq rfl rfl c_12
      refine lv_iconst (v := (-1)) hx hb dX12_gap_25 (by decide) ?_
      exact W.iret (v := (-1)) hx hb hr (fun t ht _ => ⟨⟨(-1), G_8, rfl, ⟨hB_G_8, hF⟩, wd_t ht hW⟩, hS.F ht⟩) hS.2.2 dX12_gap_26
    · have c_12 : r_7.toInt ≠ 0 := xI_ne rfl rfl c_12
      refine lv_iload_n hx hb dX12_gap_16 rfl (lv_at hl 3 rfl) ?_
      refine lv_iconst (v := 0) hx hb dX12_gap_17 (by decide) ?_
      refine lv_iconst (v := 2) hx hb dX12_gap_18 (by decide) ?_
      have qc_13 : (0 : Int32).toInt = 0 := rfl
      have qc_14 : (2 : Int32).toInt = 2 := rfl
      refine S_calli (va_runS (As := [.int p2, .int 0, .int 2]) (rest := []) ⟨hx, hb, hml, hown, hts⟩ (n_isIn l D k A a z G_8 p2 0 2 ) (va_cwS 3 hts (gd_S hgd m1781 m1782 m131 m1783) rfl rfl rfl (by decide +kernel) ⟨Nat.le_of_ble_eq_true rfl, Nat.le_of_ble_eq_true rfl⟩) (pre_S hW hB_G_8 hK hZ hS) rfl rfl hl.1 rfl (lv_room (Nat.le_of_ble_eq_true rfl)) dX12_gap_19 ⟨Nat.le_of_ble_eq_true rfl, Nat.le_of_ble_eq_true rfl⟩) hS (fun r_15 G_16 H locs hpo hW hS => ?_)
      obtain ⟨hB_G_16, hq_17, f_19, hp_18⟩ := hpo
      have hF := hF.call hq_17 (by decide) (by decide)
      refine lv_if_ne (tgt := 27) hx hb dX12_gap_22 (by decide) (fun c_20 => ?_) (fun c_20 => ?_)
      · have c_20 : r_15.toInt ≠ 0 := xI_ne rfl rfl c_20
        refine lv_iconst (v := 0) hx hb dX12_gap_27 (by decide) ?_
        refine lv_istore (lv' := [(4, .int 0), (0, .ref (a 66)), (1, .int p0), (2, .int p1), (3, .int p2)]) hx hb dX12_gap_28 hl (by decide) rfl (fun ls hl => ?_)
        refine lv_iconst (v := (-1)) hx hb dX12_gap_30 (by decide) ?_
        refine lv_istore (lv' := [(5, .int (-1)), (4, .int 0), (0, .ref (a 66)), (1, .int p0), (2, .int p1), (3, .int p2)]) hx hb dX12_gap_31 hl (by decide) rfl (fun ls hl => ?_)
        refine lv_iconst (v := 0) hx hb dX12_gap_33 (by decide) ?_
        refine lv_istore (lv' := [(6, .int 0), (5, .int (-1)), (4, .int 0), (0, .ref (a 66)), (1, .int p0), (2, .int p1), (3, .int p2)]) hx hb dX12_gap_34 hl (by decide) rfl (fun ls hl => ?_)
        refine lv_iconst (v := 0) hx hb dX12_gap_36 (by decide) ?_
        refine lv_istore (lv' := [(7, .int 0), (6, .int 0), (5, .int (-1)), (4, .int 0), (0, .ref (a 66)), (1, .int p0), (2, .int p1), (3, .int p2)]) hx hb dX12_gap_37 hl (by decide) rfl (fun ls hl => ?_)
        refine lv_iconst (v := 0) hx hb dX12_gap_39 (by decide) ?_
        refine lv_istore (lv' := [(8, .int 0), (7, .int 0), (6, .int 0), (5, .int (-1)), (4, .int 0), (0, .ref (a 66)), (1, .int p0), (2, .int p1), (3, .int p2)]) hx hb dX12_gap_40 hl (by decide) rfl (fun ls hl => ?_)
        have qc_30 : ((-1) : Int32).toInt = (-1) := rfl
        have qc_31 : (0 : Int32).toInt = 0 := rfl
        refine loop_N (Inv := fun n H locs ls => ∃ (G_21 : GS) (x_25 : Int32) (x_26 : Int32) (x_27 : Int32) (x_28 : Int32) (x_29 : Int32), (n : Int) = 400 - x_25.toInt ∧ (0 ≤ x_25.toInt ∧ x_25.toInt ≤ 400) ∧ (x_28.toInt ≤ 400) ∧ (0 ≤ x_29.toInt) ∧ Wd D k A a G_21 H ∧ Bd G_21 ∧ Fr [76] [] G G_21 ∧ Fr [76] [] G_16 G_21 ∧ va_S A s.heap H locs ∧ lv_has ls 10 [(8, .int x_25), (7, .int x_26), (6, .int x_27), (5, .int x_28), (4, .int x_29), (0, .ref (a 66)), (1, .int p0), (2, .int p1), (3, .int p2)]) (fun n_24 H locs ls ih_23 hI => ?_) (400 - 0 : Int).toNat ⟨G_16, 0, 0, 0, (-1), 0, (Int.toNat_of_nonneg (by omega)), ⟨by omega, by omega⟩, (by omega), (by omega), hW, hB_G_16, hF, Fr.rf, hS, lv_sub hl [0, 1, 2, 3, 4, 5, 6, 7, 8] rfl⟩
        obtain ⟨G_21, x_25, x_26, x_27, x_28, x_29, hn_35, f_32, f_33, f_34, hW, hB_G_21, hF, hq_22, hS, hl⟩ := hI
        refine lv_iload hx hb dX12_gap_42 (lv_at hl 0 rfl) ?_
        refine lv_aload_n hx hb dX12_gap_44 rfl (lv_at hl 5 rfl) ?_
        refine S_getR (n := 91) (C := RX12) (T := TX12) (N := 89) hx hb hg iX12 hown hK hW kd_66 rfl 39 (by decide) (hg (Cond.fieldLink RX12 87 "SlabWalkModel" "lengths" "[I") m1353) (fun _ h9 => h9) rfl dX12_gap_45 ?_
        refine lv_iload_n hx hb dX12_gap_48 rfl (lv_at hl 6 rfl) ?_
        refine S_iald hx hb hK hW kd_91 (vin (by omega) (by omega)) dX12_gap_49 (fun y_36 ey_36 => ?_)
        have ty_36 : 0 ≤ y_36.toInt ∧ y_36.toInt ≤ 400 := hB_G_21.v ey_36 rfl rfl
        refine lv_icmp_ge (tgt := 117) hx hb dX12_gap_50 (by decide) (fun c_37 => ?_) (fun c_37 => ?_)
        · have c_37 : y_36.toInt ≤ x_25.toInt := xI_le rfl rfl c_37
          refine lv_iload_n hx hb dX12_gap_117 rfl (lv_at hl 8 rfl) ?_
          refine lv_if_ne (tgt := 126) hx hb dX12_gap_118 (by decide) (fun c_38 => ?_) (fun c_38 => ?_)
          · have c_38 : p2.toInt ≠ 0 := xI_ne rfl rfl c_38
            refine lv_iload_n hx hb dX12_gap_126 rfl (lv_at hl 8 rfl) ?_
            refine lv_iconst (v := 1) hx hb dX12_gap_127 (by decide) ?_
            refine lv_icmp_ne (tgt := 136) hx hb dX12_gap_128 (by decide) (fun c_39 => ?_) (fun c_39 => ?_)
            · have c_39 : p2.toInt ≠ 1 := xI_ne rfl rfl c_39
              refine lv_iload hx hb dX12_gap_136 (lv_at hl 1 rfl) ?_
              exact W.iret (v := x_26) hx hb hr (fun t ht _ => ⟨⟨x_26, G_21, rfl, ⟨hB_G_21, hF⟩, wd_t ht hW⟩, hS.F ht⟩) hS.2.2 dX12_gap_138
            · have c_39 : p2.toInt = 1 := xI_eq rfl rfl c_39
              refine lv_iload hx hb dX12_gap_131 (lv_at hl 3 rfl) ?_
              refine lv_goto (tgt := 138) hx hb dX12_gap_133 (by decide) ?_
              exact W.iret (v := x_28) hx hb hr (fun t ht _ => ⟨⟨x_28, G_21, rfl, ⟨hB_G_21, hF⟩, wd_t ht hW⟩, hS.F ht⟩) hS.2.2 dX12_gap_138
          · have c_38 : p2.toInt = 0 := xI_eq rfl rfl c_38
            refine lv_iload hx hb dX12_gap_121 (lv_at hl 4 rfl) ?_
            refine lv_goto (tgt := 138) hx hb dX12_gap_123 (by decide) ?_
            exact W.iret (v := x_29) hx hb hr (fun t ht _ => ⟨⟨x_29, G_21, rfl, ⟨hB_G_21, hF⟩, wd_t ht hW⟩, hS.F ht⟩) hS.2.2 dX12_gap_138
        · have c_37 : x_25.toInt < y_36.toInt := xI_nle rfl rfl c_37
          refine lv_aload_n hx hb dX12_gap_53 rfl (lv_at hl 5 rfl) ?_
          refine lv_iload_n hx hb dX12_gap_54 rfl (lv_at hl 6 rfl) ?_
          refine lv_iload_n hx hb dX12_gap_55 rfl (lv_at hl 7 rfl) ?_
          refine lv_iload hx hb dX12_gap_56 (lv_at hl 0 rfl) ?_
          have g_40 : gP G_21 = gP G := gP_fr (rs := [76]) (fs := []) ((((Fr.rf.call hq_3 (by decide) (by decide)).call hq_9 (by decide) (by decide)).call hq_17 (by decide) (by decide)).call hq_22 (by decide) (by decide)) (by decide) (by decide)
          refine S_calli (va_runV (As := [.int p0, .int p1, .int x_25]) (rest := []) ⟨hx, hb, hml, hown, hts⟩ (n_isLine l D k A a z G_21 p0 p1 x_25 ⟨by omega, by omega⟩ ⟨by omega, by omega⟩ (by omega)) (cwV 3 hts (gd_V hgd m1803 m1805 m86 m131 m1806) rfl rfl rfl (by decide +kernel) ⟨Nat.le_of_ble_eq_true rfl, Nat.le_of_ble_eq_true rfl⟩) (pre_V hW hB_G_21 hK hZ hS kd_66 rfl) rfl rfl hl.1 rfl (lv_room (Nat.le_of_ble_eq_true rfl)) dX12_gap_58 ⟨Nat.le_of_ble_eq_true rfl, Nat.le_of_ble_eq_true rfl⟩) hS (fun r_41 G_42 H locs hpo hW hS => ?_)
          obtain ⟨hB_G_42, hq_43, f_45⟩ := hpo
          have hF := hF.call hq_43 (by decide) (by decide)
          refine lv_istore (lv' := [(9, .int r_41), (8, .int x_25), (7, .int x_26), (6, .int x_27), (5, .int x_28), (4, .int x_29), (0, .ref (a 66)), (1, .int p0), (2, .int p1), (3, .int p2)]) hx hb dX12_gap_61 hl (by decide) rfl (fun ls hl => ?_)
          refine lv_iload hx hb dX12_gap_63 (lv_at hl 2 rfl) ?_
          refine lv_iload hx hb dX12_gap_65 (lv_at hl 0 rfl) ?_
          refine S_calli (va_runS (As := [.int r_41]) (rest := [.int x_26]) ⟨hx, hb, hml, hown, hts⟩ (n_truth l D k A a z G_42 r_41 ⟨by omega, by omega⟩) (va_cwS 1 hts (gd_S hgd m1788 m1789 m131 m1790) rfl rfl rfl (by decide +kernel) ⟨Nat.le_of_ble_eq_true rfl, Nat.le_of_ble_eq_true rfl⟩) (pre_S hW hB_G_42 hK hZ hS) rfl rfl hl.1 rfl (lv_room (Nat.le_of_ble_eq_true rfl)) dX12_gap_67 ⟨Nat.le_of_ble_eq_true rfl, Nat.le_of_ble_eq_true rfl⟩) hS (fun r_46 G_47 H locs hpo hW hS => ?_)
          obtain ⟨hB_G_47, hq_48, f_50, hp_49⟩ := hpo
          have hF := hF.call hq_48 (by decide) (by decide)
          refine lv_iadd hx hb dX12_gap_70 ?_
          refine lv_topi (fun y_51 ey_51 => ?_)
          refine lv_istore (lv' := [(7, .int y_51), (9, .int r_41), (8, .int x_25), (6, .int x_27), (5, .int x_28), (4, .int x_29), (0, .ref (a 66)), (1, .int p0), (2, .int p1), (3, .int p2)]) hx hb dX12_gap_71 hl (by decide) rfl (fun ls hl => ?_)
          refine lv_iload hx hb dX12_gap_73 (lv_at hl 1 rfl) ?_
          refine W.cut (σ := Int32) (pcJ := 86) (J := fun y H locs ls => ∃ (G_61 : GS) (x_52 : Int32), Wd D k A a G_61 H ∧ Bd G_61 ∧ Fr [76] [] G G_61 ∧ Fr [] [] G_47 G_61 ∧ va_S A s.heap H locs ∧ lv_has ls 10 [(7, .int x_52), (8, .int x_25), (5, .int x_28), (4, .int x_29), (0, .ref (a 66)), (1, .int p0), (2, .int p1), (3, .int p2)]) (stJ := fun y => [.int y]) ?_ (fun hJ_62 => ?_)
          · intro y H locs ls hI
            obtain ⟨w_60, hy⟩ : ∃ q, q = y := ⟨_, rfl⟩
            subst hy
            obtain ⟨G_61, x_52, hW, hB_G_61, hF, hq_63, hS, hl⟩ := hI
            refine lv_istore (lv' := [(6, .int w_60), (7, .int x_52), (8, .int x_25), (5, .int x_28), (4, .int x_29), (0, .ref (a 66)), (1, .int p0), (2, .int p1), (3, .int p2)]) hx hb dX12_gap_86 hl (by decide) rfl (fun ls hl => ?_)
            refine lv_iload hx hb dX12_gap_88 (lv_at hl 0 rfl) ?_
            refine lv_iload hx hb dX12_gap_90 (lv_at hl 4 rfl) ?_
            refine lv_icmp_gt (tgt := 98) hx hb dX12_gap_92 (by decide) (fun c_64 => ?_) (fun c_64 => ?_)
            · have c_64 : x_29.toInt < w_60.toInt := xI_lt rfl rfl c_64
              refine lv_iload hx hb dX12_gap_98 (lv_at hl 0 rfl) ?_
              refine lv_istore (lv' := [(4, .int w_60), (6, .int w_60), (7, .int x_52), (8, .int x_25), (5, .int x_28), (0, .ref (a 66)), (1, .int p0), (2, .int p1), (3, .int p2)]) hx hb dX12_gap_100 hl (by decide) rfl (fun ls hl => ?_)
              refine lv_iload hx hb dX12_gap_102 (lv_at hl 3 rfl) ?_
              refine lv_iload hx hb dX12_gap_104 (lv_at hl 1 rfl) ?_
              refine lv_isub hx hb dX12_gap_106 ?_
              refine lv_topi (fun y_65 ey_65 => ?_)
              have e_66 := tI_rng w_60
              have ty_65 : y_65.toInt = x_25.toInt - w_60.toInt := xI_sub rfl rfl ey_65 (by omega) (by omega)
              refine lv_iconst (v := 1) hx hb dX12_gap_107 (by decide) ?_
              refine lv_iadd hx hb dX12_gap_108 ?_
              refine lv_topi (fun y_67 ey_67 => ?_)
              have e_68 := tI_rng y_65
              have ty_67 : y_67.toInt = y_65.toInt + 1 := xI_add rfl rfl ey_67 (by omega) (by omega)
              refine lv_istore (lv' := [(5, .int y_67), (4, .int w_60), (6, .int w_60), (7, .int x_52), (8, .int x_25), (0, .ref (a 66)), (1, .int p0), (2, .int p1), (3, .int p2)]) hx hb dX12_gap_109 hl (by decide) rfl (fun ls hl => ?_)
              obtain ⟨y_69, ey_69⟩ : ∃ q, q = x_25 + 1 := ⟨_, rfl⟩
              have ty_69 : y_69.toInt = x_25.toInt + 1 := xI_add rfl rfl ey_69 (by omega) (by omega)
              refine lv_iinc (v := y_69) (lv' := [(8, .int y_69), (5, .int y_67), (4, .int w_60), (6, .int w_60), (7, .int x_52), (0, .ref (a 66)), (1, .int p0), (2, .int p1), (3, .int p2)]) hx hb dX12_gap_111 hl (k := 4) rfl (by rw [ey_69]; rfl) (by decide) rfl (fun ls hl => ?_)
              refine lv_goto (tgt := 42) hx hb dX12_gap_114 (by decide) ?_
              exact ih_23 (400 - y_69.toInt : Int).toNat (by omega) _ _ _ ⟨G_61, y_69, x_52, w_60, y_67, w_60, (Int.toNat_of_nonneg (by omega)), ⟨by omega, by omega⟩, (by omega), (by omega), hW, hB_G_61, hF, ((((Fr.rf.call hq_22 (by decide) (by decide)).call hq_43 (by decide) (by decide)).call hq_48 (by decide) (by decide)).call hq_63 (by decide) (by decide)), hS, lv_sub hl [0, 4, 3, 1, 2, 5, 6, 7, 8] rfl⟩
            · have c_64 : w_60.toInt ≤ x_29.toInt := xI_nlt rfl rfl c_64
              refine lv_goto (tgt := 111) hx hb dX12_gap_95 (by decide) ?_
              obtain ⟨y_70, ey_70⟩ : ∃ q, q = x_25 + 1 := ⟨_, rfl⟩
              have ty_70 : y_70.toInt = x_25.toInt + 1 := xI_add rfl rfl ey_70 (by omega) (by omega)
              refine lv_iinc (v := y_70) (lv' := [(8, .int y_70), (6, .int w_60), (7, .int x_52), (5, .int x_28), (4, .int x_29), (0, .ref (a 66)), (1, .int p0), (2, .int p1), (3, .int p2)]) hx hb dX12_gap_111 hl (k := 2) rfl (by rw [ey_70]; rfl) (by decide) rfl (fun ls hl => ?_)
              refine lv_goto (tgt := 42) hx hb dX12_gap_114 (by decide) ?_
              exact ih_23 (400 - y_70.toInt : Int).toNat (by omega) _ _ _ ⟨G_61, y_70, x_52, w_60, x_28, x_29, (Int.toNat_of_nonneg (by omega)), ⟨by omega, by omega⟩, (by omega), (by omega), hW, hB_G_61, hF, ((((Fr.rf.call hq_22 (by decide) (by decide)).call hq_43 (by decide) (by decide)).call hq_48 (by decide) (by decide)).call hq_63 (by decide) (by decide)), hS, lv_sub hl [0, 2, 1, 3, 4, 5, 6, 7, 8] rfl⟩
          refine lv_if_eq (tgt := 82) hx hb dX12_gap_75 (by decide) (fun c_71 => ?_) (fun c_71 => ?_)
          · have c_71 : r_41.toInt = 0 := xI_eq rfl rfl c_71
            refine lv_iload hx hb dX12_gap_82 (lv_at hl 3 rfl) ?_
            refine lv_iconst (v := 1) hx hb dX12_gap_84 (by decide) ?_
            refine lv_iadd hx hb dX12_gap_85 ?_
            refine lv_topi (fun y_72 ey_72 => ?_)
            exact hJ_62 y_72 _ _ _ ⟨G_47, y_51, hW, hB_G_47, hF, Fr.rf, hS, lv_sub hl [0, 2, 4, 5, 6, 7, 8, 9] rfl⟩
          · have c_71 : r_41.toInt ≠ 0 := xI_ne rfl rfl c_71
            refine lv_iconst (v := 0) hx hb dX12_gap_78 (by decide) ?_
            refine lv_goto (tgt := 86) hx hb dX12_gap_79 (by decide) ?_
            have qc_73 : (0 : Int32).toInt = 0 := rfl
            exact hJ_62 0 _ _ _ ⟨G_47, y_51, hW, hB_G_47, hF, Fr.rf, hS, lv_sub hl [0, 2, 4, 5, 6, 7, 8, 9] rfl⟩
      · have c_20 : r_15.toInt = 0 := xI_eq rfl rfl c_20
        refine lv_iconst (v := (-1)) hx hb dX12_gap_25 (by decide) ?_
        exact W.iret (v := (-1)) hx hb hr (fun t ht _ => ⟨⟨(-1), G_16, rfl, ⟨hB_G_16, hF⟩, wd_t ht hW⟩, hS.F ht⟩) hS.2.2 dX12_gap_26

set_option maxHeartbeats 4000000 in
set_option maxRecDepth 100000 in
theorem n_foot (l : Launch) (D : va_G) (k : KT) (A : Nat → Prop) (a : Nat → Nat) (z : SK) (G : GS) (p0 : Int32) (p1 : Int32) (p2 : Int32) (p3 : Int32) (hP9 : gP G = 1) : Met l yX12_foot (WS yX12_foot cX12_foot 5 (some .int)) ({ frames := 5, cells := 0, slots := 0, locals := 117 }) (va_Pc [.ref (a 66), .int p0, .int p1, .int p2, .int p3] (cW D k A a z G)) (va_Qi (fun (r : Int32) (G1 : GS) => Bd G1 ∧ Fr [76, 97, 98] [(66, 59), (66, 60), (66, 61), (66, 62), (66, 63)] G G1) (fun (G1 : GS) t => Wd D k A a G1 t.heap) A) 0 0 A := by
  refine Met.ofW (cc := cX12_foot) (maxL := 5) (ret := (some .int)) (by decide) rfl ?_
  intro p e s m args below meth c s₁ B hml hv
  obtain ⟨rfl, hW, hB_G, hK, hZ⟩ := hv
  have hx := B.exec
  have hb := B.bytes
  have hr := B.returns
  have hts := atoms_spec (ws := WS yX12_foot cX12_foot 5 (some .int)) B.pre
  have hgd : ∀ w ∈ gd, w ∈ WS yX12_foot cX12_foot 5 (some .int) := fun w h => List.mem_cons_of_mem _ h
  have hg : ∀ w ∈ gd, w.before _ s = true := fun w h => hts w (hgd w h)
  have hown : s.vm.findClass RX12 = some m.cls := findClass_of_methodNamed B.named
  have hS : va_S A s.heap s.heap [] := va_S.rf
  have hF : Fr [76, 97, 98] [(66, 59), (66, 60), (66, 61), (66, 62), (66, 63)] G G := Fr.rf
  have hl := lv_entry ([.ref (a 66), .int p0, .int p1, .int p2, .int p3]) (n := 5) (Nat.le_of_ble_eq_true rfl)
  rw [lg_entry_eq]
  generalize (lg_sl ([.ref (a 66), .int p0, .int p1, .int p2, .int p3]) ++ List.replicate (5 - (lg_sl ([.ref (a 66), .int p0, .int p1, .int p2, .int p3])).length) Slot.unset).toArray = ls at hl ⊢
  have hl : lv_has ls 5 [(0, .ref (a 66)), (1, .int p0), (2, .int p1), (3, .int p2), (4, .int p3)] := hl
  refine lv_aload_n hx hb dX12_foot_0 rfl (lv_at hl 0 rfl) ?_
  refine lv_iload_n hx hb dX12_foot_1 rfl (lv_at hl 1 rfl) ?_
  refine lv_iload_n hx hb dX12_foot_2 rfl (lv_at hl 2 rfl) ?_
  refine lv_iload_n hx hb dX12_foot_3 rfl (lv_at hl 3 rfl) ?_
  refine S_calli (va_runV (As := [.int p0, .int p1, .int p2]) (rest := []) ⟨hx, hb, hml, hown, hts⟩ (n_isAsked l D k A a z G p0 p1 p2 ) (cwV 3 hts (gd_V hgd m1826 m1828 m89 m131 m1829) rfl rfl rfl (by decide +kernel) ⟨Nat.le_of_ble_eq_true rfl, Nat.le_of_ble_eq_true rfl⟩) (pre_V hW hB_G hK hZ hS kd_66 rfl) rfl rfl hl.1 rfl (lv_room (Nat.le_of_ble_eq_true rfl)) dX12_foot_4 ⟨Nat.le_of_ble_eq_true rfl, Nat.le_of_ble_eq_true rfl⟩) hS (fun r_1 G_2 H locs hpo hW hS => ?_)
  obtain ⟨hB_G_2, hq_3, f_5, hp_4⟩ := hpo
  have hF := hF.call hq_3 (by decide) (by decide)
  refine lv_if_eq (tgt := 20) hx hb dX12_foot_7 (by decide) (fun c_6 => ?_) (fun c_6 => ?_)
  · have c_6 : r_1.toInt = 0 := xI_eq rfl rfl c_6
    refine lv_iconst (v := (-1)) hx hb dX12_foot_20 (by decide) ?_
    exact W.iret (v := (-1)) hx hb hr (fun t ht _ => ⟨⟨(-1), G_2, rfl, ⟨hB_G_2, hF⟩, wd_t ht hW⟩, hS.F ht⟩) hS.2.2 dX12_foot_21
  · have c_6 : r_1.toInt ≠ 0 := xI_ne rfl rfl c_6
    refine lv_aload_n hx hb dX12_foot_10 rfl (lv_at hl 0 rfl) ?_
    refine lv_iload_n hx hb dX12_foot_11 rfl (lv_at hl 2 rfl) ?_
    refine lv_iload hx hb dX12_foot_12 (lv_at hl 4 rfl) ?_
    refine S_calli (va_runV (As := [.int p1, .int p3]) (rest := []) ⟨hx, hb, hml, hown, hts⟩ (n_isInch l D k A a z G_2 p1 p3 ⟨by omega, by omega⟩) (cwV 2 hts (gd_V hgd m1784 m1786 m84 m131 m1787) rfl rfl rfl (by decide +kernel) ⟨Nat.le_of_ble_eq_true rfl, Nat.le_of_ble_eq_true rfl⟩) (pre_V hW hB_G_2 hK hZ hS kd_66 rfl) rfl rfl hl.1 rfl (lv_room (Nat.le_of_ble_eq_true rfl)) dX12_foot_14 ⟨Nat.le_of_ble_eq_true rfl, Nat.le_of_ble_eq_true rfl⟩) hS (fun r_7 G_8 H locs hpo hW hS => ?_)
    obtain ⟨hB_G_8, hq_9, f_11, hp_10⟩ := hpo
    have hF := hF.call hq_9 (by decide) (by decide)
    refine lv_if_ne (tgt := 22) hx hb dX12_foot_17 (by decide) (fun c_12 => ?_) (fun c_12 => ?_)
    · have c_12 : r_7.toInt ≠ 0 := xI_ne rfl rfl c_12
      refine lv_aload_n hx hb dX12_foot_22 rfl (lv_at hl 0 rfl) ?_
      refine lv_iload_n hx hb dX12_foot_23 rfl (lv_at hl 1 rfl) ?_
      refine lv_iload_n hx hb dX12_foot_24 rfl (lv_at hl 2 rfl) ?_
      refine lv_iload_n hx hb dX12_foot_25 rfl (lv_at hl 3 rfl) ?_
      have g_13 : gP G_8 = gP G := gP_fr (rs := []) (fs := []) ((Fr.rf.call hq_3 (by decide) (by decide)).call hq_9 (by decide) (by decide)) (by decide) (by decide)
      refine S_callv (va_runV (As := [.int p0, .int p1, .int p2]) (rest := []) ⟨hx, hb, hml, hown, hts⟩ (n_layStreet l D k A a z G_8 p0 p1 p2 ⟨by omega, by omega⟩ ⟨by omega, by omega⟩ (by omega)) (cwV 3 hts (gd_V hgd m1834 m1836 m91 m131 m1837) rfl rfl rfl (by decide +kernel) ⟨Nat.le_of_ble_eq_true rfl, Nat.le_of_ble_eq_true rfl⟩) (pre_V hW hB_G_8 hK hZ hS kd_66 rfl) rfl rfl hl.1 rfl (lv_room (Nat.le_of_ble_eq_true rfl)) dX12_foot_26 ⟨Nat.le_of_ble_eq_true rfl, Nat.le_of_ble_eq_true rfl⟩) hS (fun G_15 H locs hpo hW hS => ?_)
      obtain ⟨hB_G_15, hq_16, hp_17⟩ := hpo
      have hF := hF.call hq_16 (by decide) (by decide)
      refine lv_aload_n hx hb dX12_foot_29 rfl (lv_at hl 0 rfl) ?_
      refine S_getR (n := 98) (C := RX12) (T := TX12) (N := 89) hx hb hg iX12 hown hK hW kd_66 rfl 58 (by decide) (hg (Cond.fieldLink RX12 115 "SlabWalkModel" "lawful" "[Z") m1372) (fun _ h9 => h9) rfl dX12_foot_30 ?_
      refine lv_iload hx hb dX12_foot_33 (lv_at hl 4 rfl) ?_
      refine S_zald hx hb hK hW kd_98 (vin (by omega) (by omega)) dX12_foot_35 (fun y_18 ey_18 => ?_)
      have ty_18 := hB_G_15.law ey_18
      refine S_calli (va_runS (As := [.int y_18]) (rest := []) ⟨hx, hb, hml, hown, hts⟩ (n_truth l D k A a z G_15 y_18 ⟨by omega, by omega⟩) (va_cwS 1 hts (gd_S hgd m1788 m1789 m131 m1790) rfl rfl rfl (by decide +kernel) ⟨Nat.le_of_ble_eq_true rfl, Nat.le_of_ble_eq_true rfl⟩) (pre_S hW hB_G_15 hK hZ hS) rfl rfl hl.1 rfl (lv_room (Nat.le_of_ble_eq_true rfl)) dX12_foot_36 ⟨Nat.le_of_ble_eq_true rfl, Nat.le_of_ble_eq_true rfl⟩) hS (fun r_19 G_20 H locs hpo hW hS => ?_)
      obtain ⟨hB_G_20, hq_21, f_23, hp_22⟩ := hpo
      have hF := hF.call hq_21 (by decide) (by decide)
      exact W.iret (v := r_19) hx hb hr (fun t ht _ => ⟨⟨r_19, G_20, rfl, ⟨hB_G_20, hF⟩, wd_t ht hW⟩, hS.F ht⟩) hS.2.2 dX12_foot_39
    · have c_12 : r_7.toInt = 0 := xI_eq rfl rfl c_12
      refine lv_iconst (v := (-1)) hx hb dX12_foot_20 (by decide) ?_
      exact W.iret (v := (-1)) hx hb hr (fun t ht _ => ⟨⟨(-1), G_8, rfl, ⟨hB_G_8, hF⟩, wd_t ht hW⟩, hS.F ht⟩) hS.2.2 dX12_foot_21
