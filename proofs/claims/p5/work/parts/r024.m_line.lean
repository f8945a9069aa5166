theorem m87 : Cond.selects RX12 yX12_worked yX12_worked ∈ gd := gd_mem 87 (by decide +kernel) (by decide +kernel)
theorem m88 : Cond.selects RX12 yX12_askOf yX12_askOf ∈ gd := gd_mem 88 (by decide +kernel) (by decide +kernel)
theorem m1328 : Cond.fieldLink RX12 30 "SlabWalkModel" "step" "[I" ∈ gd := gd_mem 1328 (by decide +kernel) (by decide +kernel)
theorem m1329 : Cond.fieldLink RX12 33 "SlabWalkModel" "arg" "[I" ∈ gd := gd_mem 1329 (by decide +kernel) (by decide +kernel)
theorem m1330 : Cond.fieldLink RX12 36 "SlabWalkModel" "many" "[I" ∈ gd := gd_mem 1330 (by decide +kernel) (by decide +kernel)
theorem m1332 : Cond.fieldLink RX12 42 "SlabWalkModel" "values" "[I" ∈ gd := gd_mem 1332 (by decide +kernel) (by decide +kernel)
theorem m1807 : Cond.methodLink RX12 460 yX12_worked ∈ gd := gd_mem 1807 (by decide +kernel) (by decide +kernel)
theorem m1809 : Cond.instanceMethod yX12_worked ∈ gd := gd_mem 1809 (by decide +kernel) (by decide +kernel)
theorem m1810 : Cond.code yX12_worked cX12_worked 5 (some .int) ∈ gd := gd_mem 1810 (by decide +kernel) (by decide +kernel)
theorem m1811 : Cond.methodLink RX12 352 yX12_askOf ∈ gd := gd_mem 1811 (by decide +kernel) (by decide +kernel)
theorem m1813 : Cond.instanceMethod yX12_askOf ∈ gd := gd_mem 1813 (by decide +kernel) (by decide +kernel)
theorem m1814 : Cond.code yX12_askOf cX12_askOf 3 (some .int) ∈ gd := gd_mem 1814 (by decide +kernel) (by decide +kernel)
theorem m1815 : Cond.methodLink RX12 355 yX12_done ∈ gd := gd_mem 1815 (by decide +kernel) (by decide +kernel)
theorem m1816 : Cond.static yX12_done ∈ gd := gd_mem 1816 (by decide +kernel) (by decide +kernel)
theorem m1817 : Cond.code yX12_done cX12_done 3 (some .int) ∈ gd := gd_mem 1817 (by decide +kernel) (by decide +kernel)
theorem dX12_askOf_0 : decode cX12_askOf 0 = .ok (.iload_n 2, 1) := by decide +kernel
theorem dX12_askOf_1 : decode cX12_askOf 1 = .ok (.tableswitch 112 0 7 #[47, 65, 65, 65, 65, 91, 98, 105], 47) := by decide +kernel
theorem dX12_askOf_48 : decode cX12_askOf 48 = .ok (.aload_n 0, 1) := by decide +kernel
theorem dX12_askOf_49 : decode cX12_askOf 49 = .ok (.getfield 75, 3) := by decide +kernel
theorem dX12_askOf_52 : decode cX12_askOf 52 = .ok (.iload_n 1, 1) := by decide +kernel
theorem dX12_askOf_53 : decode cX12_askOf 53 = .ok (.iaload, 1) := by decide +kernel
theorem dX12_askOf_54 : decode cX12_askOf 54 = .ok (.ifCond .ge 7, 3) := by decide +kernel
theorem dX12_askOf_57 : decode cX12_askOf 57 = .ok (.iconst 1, 1) := by decide +kernel
theorem dX12_askOf_58 : decode cX12_askOf 58 = .ok (.goto 4, 3) := by decide +kernel
theorem dX12_askOf_61 : decode cX12_askOf 61 = .ok (.iconst 0, 1) := by decide +kernel
theorem dX12_askOf_62 : decode cX12_askOf 62 = .ok (.invokestatic 348, 3) := by decide +kernel
theorem dX12_askOf_65 : decode cX12_askOf 65 = .ok (.ireturn, 1) := by decide +kernel
theorem dX12_askOf_66 : decode cX12_askOf 66 = .ok (.aload_n 0, 1) := by decide +kernel
theorem dX12_askOf_67 : decode cX12_askOf 67 = .ok (.getfield 75, 3) := by decide +kernel
theorem dX12_askOf_70 : decode cX12_askOf 70 = .ok (.iload_n 1, 1) := by decide +kernel
theorem dX12_askOf_71 : decode cX12_askOf 71 = .ok (.iaload, 1) := by decide +kernel
theorem dX12_askOf_72 : decode cX12_askOf 72 = .ok (.ifCond .ge 7, 3) := by decide +kernel
theorem dX12_askOf_75 : decode cX12_askOf 75 = .ok (.iconst 0, 1) := by decide +kernel
theorem dX12_askOf_76 : decode cX12_askOf 76 = .ok (.goto 15, 3) := by decide +kernel
theorem dX12_askOf_79 : decode cX12_askOf 79 = .ok (.aload_n 0, 1) := by decide +kernel
theorem dX12_askOf_80 : decode cX12_askOf 80 = .ok (.getfield 75, 3) := by decide +kernel
theorem dX12_askOf_83 : decode cX12_askOf 83 = .ok (.iload_n 1, 1) := by decide +kernel
theorem dX12_askOf_84 : decode cX12_askOf 84 = .ok (.iaload, 1) := by decide +kernel
theorem dX12_askOf_85 : decode cX12_askOf 85 = .ok (.iload_n 2, 1) := by decide +kernel
theorem dX12_askOf_86 : decode cX12_askOf 86 = .ok (.iconst 1, 1) := by decide +kernel
theorem dX12_askOf_87 : decode cX12_askOf 87 = .ok (.isub, 1) := by decide +kernel
theorem dX12_askOf_88 : decode cX12_askOf 88 = .ok (.ishr, 1) := by decide +kernel
theorem dX12_askOf_89 : decode cX12_askOf 89 = .ok (.iconst 1, 1) := by decide +kernel
theorem dX12_askOf_90 : decode cX12_askOf 90 = .ok (.iand, 1) := by decide +kernel
theorem dX12_askOf_91 : decode cX12_askOf 91 = .ok (.ireturn, 1) := by decide +kernel
theorem dX12_askOf_92 : decode cX12_askOf 92 = .ok (.aload_n 0, 1) := by decide +kernel
theorem dX12_askOf_93 : decode cX12_askOf 93 = .ok (.getfield 84, 3) := by decide +kernel
theorem dX12_askOf_96 : decode cX12_askOf 96 = .ok (.iload_n 1, 1) := by decide +kernel
theorem dX12_askOf_97 : decode cX12_askOf 97 = .ok (.iaload, 1) := by decide +kernel
theorem dX12_askOf_98 : decode cX12_askOf 98 = .ok (.ireturn, 1) := by decide +kernel
theorem dX12_askOf_99 : decode cX12_askOf 99 = .ok (.aload_n 0, 1) := by decide +kernel
theorem dX12_askOf_100 : decode cX12_askOf 100 = .ok (.getfield 78, 3) := by decide +kernel
theorem dX12_askOf_103 : decode cX12_askOf 103 = .ok (.iload_n 1, 1) := by decide +kernel
theorem dX12_askOf_104 : decode cX12_askOf 104 = .ok (.iaload, 1) := by decide +kernel
theorem dX12_askOf_105 : decode cX12_askOf 105 = .ok (.ireturn, 1) := by decide +kernel
theorem dX12_askOf_106 : decode cX12_askOf 106 = .ok (.aload_n 0, 1) := by decide +kernel
theorem dX12_askOf_107 : decode cX12_askOf 107 = .ok (.getfield 81, 3) := by decide +kernel
theorem dX12_askOf_110 : decode cX12_askOf 110 = .ok (.iload_n 1, 1) := by decide +kernel
theorem dX12_askOf_111 : decode cX12_askOf 111 = .ok (.iaload, 1) := by decide +kernel
theorem dX12_askOf_112 : decode cX12_askOf 112 = .ok (.ireturn, 1) := by decide +kernel
theorem dX12_askOf_113 : decode cX12_askOf 113 = .ok (.aload_n 0, 1) := by decide +kernel
theorem dX12_askOf_114 : decode cX12_askOf 114 = .ok (.getfield 151, 3) := by decide +kernel
theorem dX12_askOf_117 : decode cX12_askOf 117 = .ok (.bipush 6, 2) := by decide +kernel
theorem dX12_askOf_119 : decode cX12_askOf 119 = .ok (.iaload, 1) := by decide +kernel
theorem dX12_askOf_120 : decode cX12_askOf 120 = .ok (.ireturn, 1) := by decide +kernel
theorem dX12_isLine_0 : decode cX12_isLine 0 = .ok (.sipush 400, 3) := by decide +kernel
theorem dX12_isLine_3 : decode cX12_isLine 3 = .ok (.iload_n 1, 1) := by decide +kernel
theorem dX12_isLine_4 : decode cX12_isLine 4 = .ok (.imul, 1) := by decide +kernel
theorem dX12_isLine_5 : decode cX12_isLine 5 = .ok (.iload_n 3, 1) := by decide +kernel
theorem dX12_isLine_6 : decode cX12_isLine 6 = .ok (.iadd, 1) := by decide +kernel
theorem dX12_isLine_7 : decode cX12_isLine 7 = .ok (.istore 4, 2) := by decide +kernel
theorem dX12_isLine_9 : decode cX12_isLine 9 = .ok (.iload_n 2, 1) := by decide +kernel
theorem dX12_isLine_10 : decode cX12_isLine 10 = .ok (.ifCond .ne 32, 3) := by decide +kernel
theorem dX12_isLine_13 : decode cX12_isLine 13 = .ok (.aload_n 0, 1) := by decide +kernel
theorem dX12_isLine_14 : decode cX12_isLine 14 = .ok (.getfield 75, 3) := by decide +kernel
theorem dX12_isLine_17 : decode cX12_isLine 17 = .ok (.iload 4, 2) := by decide +kernel
theorem dX12_isLine_19 : decode cX12_isLine 19 = .ok (.iaload, 1) := by decide +kernel
theorem dX12_isLine_20 : decode cX12_isLine 20 = .ok (.ifCond .lt 16, 3) := by decide +kernel
theorem dX12_isLine_23 : decode cX12_isLine 23 = .ok (.aload_n 0, 1) := by decide +kernel
theorem dX12_isLine_24 : decode cX12_isLine 24 = .ok (.getfield 75, 3) := by decide +kernel
theorem dX12_isLine_27 : decode cX12_isLine 27 = .ok (.iload 4, 2) := by decide +kernel
theorem dX12_isLine_29 : decode cX12_isLine 29 = .ok (.iaload, 1) := by decide +kernel
theorem dX12_isLine_30 : decode cX12_isLine 30 = .ok (.bipush 6, 2) := by decide +kernel
theorem dX12_isLine_32 : decode cX12_isLine 32 = .ok (.iand, 1) := by decide +kernel
theorem dX12_isLine_33 : decode cX12_isLine 33 = .ok (.ifCond .eq 7, 3) := by decide +kernel
theorem dX12_isLine_36 : decode cX12_isLine 36 = .ok (.iconst 1, 1) := by decide +kernel
theorem dX12_isLine_37 : decode cX12_isLine 37 = .ok (.goto 4, 3) := by decide +kernel
theorem dX12_isLine_40 : decode cX12_isLine 40 = .ok (.iconst 0, 1) := by decide +kernel
theorem dX12_isLine_41 : decode cX12_isLine 41 = .ok (.ireturn, 1) := by decide +kernel
theorem dX12_isLine_42 : decode cX12_isLine 42 = .ok (.iconst 0, 1) := by decide +kernel
theorem dX12_isLine_43 : decode cX12_isLine 43 = .ok (.istore 5, 2) := by decide +kernel
theorem dX12_isLine_45 : decode cX12_isLine 45 = .ok (.iconst 0, 1) := by decide +kernel
theorem dX12_isLine_46 : decode cX12_isLine 46 = .ok (.istore 6, 2) := by decide +kernel
theorem dX12_isLine_48 : decode cX12_isLine 48 = .ok (.iload 6, 2) := by decide +kernel
theorem dX12_isLine_50 : decode cX12_isLine 50 = .ok (.aload_n 0, 1) := by decide +kernel
theorem dX12_isLine_51 : decode cX12_isLine 51 = .ok (.getfield 431, 3) := by decide +kernel
theorem dX12_isLine_54 : decode cX12_isLine 54 = .ok (.if_icmp .ge 42, 3) := by decide +kernel
theorem dX12_isLine_57 : decode cX12_isLine 57 = .ok (.iload 5, 2) := by decide +kernel
theorem dX12_isLine_59 : decode cX12_isLine 59 = .ok (.ifCond .ne 37, 3) := by decide +kernel
theorem dX12_isLine_62 : decode cX12_isLine 62 = .ok (.iload_n 2, 1) := by decide +kernel
theorem dX12_isLine_63 : decode cX12_isLine 63 = .ok (.iload 6, 2) := by decide +kernel
theorem dX12_isLine_65 : decode cX12_isLine 65 = .ok (.ishr, 1) := by decide +kernel
theorem dX12_isLine_66 : decode cX12_isLine 66 = .ok (.iconst 1, 1) := by decide +kernel
theorem dX12_isLine_67 : decode cX12_isLine 67 = .ok (.iand, 1) := by decide +kernel
theorem dX12_isLine_68 : decode cX12_isLine 68 = .ok (.iconst 1, 1) := by decide +kernel
theorem dX12_isLine_69 : decode cX12_isLine 69 = .ok (.if_icmp .ne 18, 3) := by decide +kernel
theorem dX12_isLine_72 : decode cX12_isLine 72 = .ok (.aload_n 0, 1) := by decide +kernel
theorem dX12_isLine_73 : decode cX12_isLine 73 = .ok (.iload 6, 2) := by decide +kernel
theorem dX12_isLine_75 : decode cX12_isLine 75 = .ok (.iload 4, 2) := by decide +kernel
theorem dX12_isLine_77 : decode cX12_isLine 77 = .ok (.invokevirtual 460, 3) := by decide +kernel
theorem dX12_isLine_80 : decode cX12_isLine 80 = .ok (.ifCond .eq 7, 3) := by decide +kernel
theorem dX12_isLine_83 : decode cX12_isLine 83 = .ok (.iconst 1, 1) := by decide +kernel
theorem dX12_isLine_84 : decode cX12_isLine 84 = .ok (.goto 4, 3) := by decide +kernel
theorem dX12_isLine_87 : decode cX12_isLine 87 = .ok (.iconst 0, 1) := by decide +kernel
theorem dX12_isLine_88 : decode cX12_isLine 88 = .ok (.istore 5, 2) := by decide +kernel
theorem dX12_isLine_90 : decode cX12_isLine 90 = .ok (.iinc 6 1, 3) := by decide +kernel
theorem dX12_isLine_93 : decode cX12_isLine 93 = .ok (.goto (-45), 3) := by decide +kernel
theorem dX12_isLine_96 : decode cX12_isLine 96 = .ok (.iload 5, 2) := by decide +kernel
theorem dX12_isLine_98 : decode cX12_isLine 98 = .ok (.ireturn, 1) := by decide +kernel
theorem dX12_worked_0 : decode cX12_worked 0 = .ok (.iconst 0, 1) := by decide +kernel
theorem dX12_worked_1 : decode cX12_worked 1 = .ok (.istore_n 3, 1) := by decide +kernel
theorem dX12_worked_2 : decode cX12_worked 2 = .ok (.sipush 320, 3) := by decide +kernel
theorem dX12_worked_5 : decode cX12_worked 5 = .ok (.iload_n 1, 1) := by decide +kernel
theorem dX12_worked_6 : decode cX12_worked 6 = .ok (.imul, 1) := by decide +kernel
theorem dX12_worked_7 : decode cX12_worked 7 = .ok (.istore 4, 2) := by decide +kernel
theorem dX12_worked_9 : decode cX12_worked 9 = .ok (.iload 4, 2) := by decide +kernel
theorem dX12_worked_11 : decode cX12_worked 11 = .ok (.sipush 320, 3) := by decide +kernel
theorem dX12_worked_14 : decode cX12_worked 14 = .ok (.iload_n 1, 1) := by decide +kernel
theorem dX12_worked_15 : decode cX12_worked 15 = .ok (.imul, 1) := by decide +kernel
theorem dX12_worked_16 : decode cX12_worked 16 = .ok (.aload_n 0, 1) := by decide +kernel
theorem dX12_worked_17 : decode cX12_worked 17 = .ok (.getfield 36, 3) := by decide +kernel
theorem dX12_worked_20 : decode cX12_worked 20 = .ok (.iload_n 1, 1) := by decide +kernel
theorem dX12_worked_21 : decode cX12_worked 21 = .ok (.iaload, 1) := by decide +kernel
theorem dX12_worked_22 : decode cX12_worked 22 = .ok (.iadd, 1) := by decide +kernel
theorem dX12_worked_23 : decode cX12_worked 23 = .ok (.if_icmp .ge 150, 3) := by decide +kernel
theorem dX12_worked_26 : decode cX12_worked 26 = .ok (.aload_n 0, 1) := by decide +kernel
theorem dX12_worked_27 : decode cX12_worked 27 = .ok (.getfield 30, 3) := by decide +kernel
theorem dX12_worked_30 : decode cX12_worked 30 = .ok (.iload 4, 2) := by decide +kernel
theorem dX12_worked_32 : decode cX12_worked 32 = .ok (.iaload, 1) := by decide +kernel
theorem dX12_worked_33 : decode cX12_worked 33 = .ok (.ifCond .eq 14, 3) := by decide +kernel
theorem dX12_worked_36 : decode cX12_worked 36 = .ok (.aload_n 0, 1) := by decide +kernel
theorem dX12_worked_37 : decode cX12_worked 37 = .ok (.getfield 30, 3) := by decide +kernel
theorem dX12_worked_40 : decode cX12_worked 40 = .ok (.iload 4, 2) := by decide +kernel
theorem dX12_worked_42 : decode cX12_worked 42 = .ok (.iaload, 1) := by decide +kernel
theorem dX12_worked_43 : decode cX12_worked 43 = .ok (.iconst 1, 1) := by decide +kernel
theorem dX12_worked_44 : decode cX12_worked 44 = .ok (.if_icmp .ne 47, 3) := by decide +kernel
theorem dX12_worked_47 : decode cX12_worked 47 = .ok (.aload_n 0, 1) := by decide +kernel
theorem dX12_worked_48 : decode cX12_worked 48 = .ok (.getfield 42, 3) := by decide +kernel
theorem dX12_worked_51 : decode cX12_worked 51 = .ok (.iload_n 3, 1) := by decide +kernel
theorem dX12_worked_52 : decode cX12_worked 52 = .ok (.aload_n 0, 1) := by decide +kernel
theorem dX12_worked_53 : decode cX12_worked 53 = .ok (.getfield 30, 3) := by decide +kernel
theorem dX12_worked_56 : decode cX12_worked 56 = .ok (.iload 4, 2) := by decide +kernel
theorem dX12_worked_58 : decode cX12_worked 58 = .ok (.iaload, 1) := by decide +kernel
theorem dX12_worked_59 : decode cX12_worked 59 = .ok (.ifCond .ne 13, 3) := by decide +kernel
theorem dX12_worked_62 : decode cX12_worked 62 = .ok (.aload_n 0, 1) := by decide +kernel
theorem dX12_worked_63 : decode cX12_worked 63 = .ok (.getfield 33, 3) := by decide +kernel
theorem dX12_worked_66 : decode cX12_worked 66 = .ok (.iload 4, 2) := by decide +kernel
theorem dX12_worked_68 : decode cX12_worked 68 = .ok (.iaload, 1) := by decide +kernel
theorem dX12_worked_69 : decode cX12_worked 69 = .ok (.goto 15, 3) := by decide +kernel
theorem dX12_worked_72 : decode cX12_worked 72 = .ok (.aload_n 0, 1) := by decide +kernel
theorem dX12_worked_73 : decode cX12_worked 73 = .ok (.iload_n 2, 1) := by decide +kernel
theorem dX12_worked_74 : decode cX12_worked 74 = .ok (.aload_n 0, 1) := by decide +kernel
theorem dX12_worked_75 : decode cX12_worked 75 = .ok (.getfield 33, 3) := by decide +kernel
theorem dX12_worked_78 : decode cX12_worked 78 = .ok (.iload 4, 2) := by decide +kernel
theorem dX12_worked_80 : decode cX12_worked 80 = .ok (.iaload, 1) := by decide +kernel
theorem dX12_worked_81 : decode cX12_worked 81 = .ok (.invokevirtual 352, 3) := by decide +kernel
theorem dX12_worked_84 : decode cX12_worked 84 = .ok (.iastore, 1) := by decide +kernel
theorem dX12_worked_85 : decode cX12_worked 85 = .ok (.iinc 3 1, 3) := by decide +kernel
theorem dX12_worked_88 : decode cX12_worked 88 = .ok (.goto 79, 3) := by decide +kernel
theorem dX12_worked_91 : decode cX12_worked 91 = .ok (.aload_n 0, 1) := by decide +kernel
theorem dX12_worked_92 : decode cX12_worked 92 = .ok (.getfield 30, 3) := by decide +kernel
theorem dX12_worked_95 : decode cX12_worked 95 = .ok (.iload 4, 2) := by decide +kernel
theorem dX12_worked_97 : decode cX12_worked 97 = .ok (.iaload, 1) := by decide +kernel
theorem dX12_worked_98 : decode cX12_worked 98 = .ok (.iconst 2, 1) := by decide +kernel
theorem dX12_worked_99 : decode cX12_worked 99 = .ok (.if_icmp .ne 33, 3) := by decide +kernel
theorem dX12_worked_102 : decode cX12_worked 102 = .ok (.aload_n 0, 1) := by decide +kernel
theorem dX12_worked_103 : decode cX12_worked 103 = .ok (.getfield 42, 3) := by decide +kernel
theorem dX12_worked_106 : decode cX12_worked 106 = .ok (.iload_n 3, 1) := by decide +kernel
theorem dX12_worked_107 : decode cX12_worked 107 = .ok (.iconst 1, 1) := by decide +kernel
theorem dX12_worked_108 : decode cX12_worked 108 = .ok (.isub, 1) := by decide +kernel
theorem dX12_worked_109 : decode cX12_worked 109 = .ok (.aload_n 0, 1) := by decide +kernel
theorem dX12_worked_110 : decode cX12_worked 110 = .ok (.getfield 42, 3) := by decide +kernel
theorem dX12_worked_113 : decode cX12_worked 113 = .ok (.iload_n 3, 1) := by decide +kernel
theorem dX12_worked_114 : decode cX12_worked 114 = .ok (.iconst 1, 1) := by decide +kernel
theorem dX12_worked_115 : decode cX12_worked 115 = .ok (.isub, 1) := by decide +kernel
theorem dX12_worked_116 : decode cX12_worked 116 = .ok (.iaload, 1) := by decide +kernel
theorem dX12_worked_117 : decode cX12_worked 117 = .ok (.ifCond .ne 7, 3) := by decide +kernel
theorem dX12_worked_120 : decode cX12_worked 120 = .ok (.iconst 1, 1) := by decide +kernel
theorem dX12_worked_121 : decode cX12_worked 121 = .ok (.goto 4, 3) := by decide +kernel
theorem dX12_worked_124 : decode cX12_worked 124 = .ok (.iconst 0, 1) := by decide +kernel
theorem dX12_worked_125 : decode cX12_worked 125 = .ok (.invokestatic 348, 3) := by decide +kernel
theorem dX12_worked_128 : decode cX12_worked 128 = .ok (.iastore, 1) := by decide +kernel
theorem dX12_worked_129 : decode cX12_worked 129 = .ok (.goto 38, 3) := by decide +kernel
theorem dX12_worked_132 : decode cX12_worked 132 = .ok (.iinc 3 (-1), 3) := by decide +kernel
theorem dX12_worked_135 : decode cX12_worked 135 = .ok (.aload_n 0, 1) := by decide +kernel
theorem dX12_worked_136 : decode cX12_worked 136 = .ok (.getfield 42, 3) := by decide +kernel
theorem dX12_worked_139 : decode cX12_worked 139 = .ok (.iload_n 3, 1) := by decide +kernel
theorem dX12_worked_140 : decode cX12_worked 140 = .ok (.iconst 1, 1) := by decide +kernel
theorem dX12_worked_141 : decode cX12_worked 141 = .ok (.isub, 1) := by decide +kernel
theorem dX12_worked_142 : decode cX12_worked 142 = .ok (.aload_n 0, 1) := by decide +kernel
theorem dX12_worked_143 : decode cX12_worked 143 = .ok (.getfield 33, 3) := by decide +kernel
theorem dX12_worked_146 : decode cX12_worked 146 = .ok (.iload 4, 2) := by decide +kernel
theorem dX12_worked_148 : decode cX12_worked 148 = .ok (.iaload, 1) := by decide +kernel
theorem dX12_worked_149 : decode cX12_worked 149 = .ok (.aload_n 0, 1) := by decide +kernel
theorem dX12_worked_150 : decode cX12_worked 150 = .ok (.getfield 42, 3) := by decide +kernel
theorem dX12_worked_153 : decode cX12_worked 153 = .ok (.iload_n 3, 1) := by decide +kernel
theorem dX12_worked_154 : decode cX12_worked 154 = .ok (.iconst 1, 1) := by decide +kernel
theorem dX12_worked_155 : decode cX12_worked 155 = .ok (.isub, 1) := by decide +kernel
theorem dX12_worked_156 : decode cX12_worked 156 = .ok (.iaload, 1) := by decide +kernel
theorem dX12_worked_157 : decode cX12_worked 157 = .ok (.aload_n 0, 1) := by decide +kernel
theorem dX12_worked_158 : decode cX12_worked 158 = .ok (.getfield 42, 3) := by decide +kernel
theorem dX12_worked_161 : decode cX12_worked 161 = .ok (.iload_n 3, 1) := by decide +kernel
theorem dX12_worked_162 : decode cX12_worked 162 = .ok (.iaload, 1) := by decide +kernel
theorem dX12_worked_163 : decode cX12_worked 163 = .ok (.invokestatic 355, 3) := by decide +kernel
theorem dX12_worked_166 : decode cX12_worked 166 = .ok (.iastore, 1) := by decide +kernel
theorem dX12_worked_167 : decode cX12_worked 167 = .ok (.iinc 4 1, 3) := by decide +kernel
theorem dX12_worked_170 : decode cX12_worked 170 = .ok (.goto (-161), 3) := by decide +kernel
theorem dX12_worked_173 : decode cX12_worked 173 = .ok (.aload_n 0, 1) := by decide +kernel
theorem dX12_worked_174 : decode cX12_worked 174 = .ok (.getfield 42, 3) := by decide +kernel
theorem dX12_worked_177 : decode cX12_worked 177 = .ok (.iconst 0, 1) := by decide +kernel
theorem dX12_worked_178 : decode cX12_worked 178 = .ok (.iaload, 1) := by decide +kernel
theorem dX12_worked_179 : decode cX12_worked 179 = .ok (.ireturn, 1) := by decide +kernel
set_option maxHeartbeats 4000000 in
set_option maxRecDepth 100000 in
theorem n_askOf (l : Launch) (D : va_G) (k : KT) (A : Nat → Prop) (a : Nat → Nat) (z : SK) (G : GS) (p0 : Int32) (p1 : Int32) (ha_p0 : 0 ≤ p0.toInt ∧ p0.toInt ≤ 1199) : Met l yX12_askOf (WS yX12_askOf cX12_askOf 3 (some .int)) ({ frames := 1, cells := 0, slots := 0, locals := 20 }) (va_Pc [.ref (a 66), .int p0, .int p1] (cW D k A a z G)) (va_Qi (fun (r : Int32) (G1 : GS) => Bd G1 ∧ Fr [] [] G G1) (fun (G1 : GS) t => Wd D k A a G1 t.heap) A) 0 0 A := by
  refine Met.ofW (cc := cX12_askOf) (maxL := 3) (ret := (some .int)) (by decide) rfl ?_
  intro p e s m args below meth c s₁ B hml hv
  obtain ⟨rfl, hW, hB_G, hK, hZ⟩ := hv
  have hx := B.exec
  have hb := B.bytes
  have hr := B.returns
  have hts := atoms_spec (ws := WS yX12_askOf cX12_askOf 3 (some .int)) B.pre
  have hgd : ∀ w ∈ gd, w ∈ WS yX12_askOf cX12_askOf 3 (some .int) := fun w h => List.mem_cons_of_mem _ h
  have hg : ∀ w ∈ gd, w.before _ s = true := fun w h => hts w (hgd w h)
  have hown : s.vm.findClass RX12 = some m.cls := findClass_of_methodNamed B.named
  have hS : va_S A s.heap s.heap [] := va_S.rf
  have hF : Fr [] [] G G := Fr.rf
  have hl := lv_entry ([.ref (a 66), .int p0, .int p1]) (n := 3) (Nat.le_of_ble_eq_true rfl)
  rw [lg_entry_eq]
  generalize (lg_sl ([.ref (a 66), .int p0, .int p1]) ++ List.replicate (3 - (lg_sl ([.ref (a 66), .int p0, .int p1])).length) Slot.unset).toArray = ls at hl ⊢
  have hl : lv_has ls 3 [(0, .ref (a 66)), (1, .int p0), (2, .int p1)] := hl
  refine lv_iload_n hx hb dX12_askOf_0 rfl (lv_at hl 2 rfl) ?_
  by_cases c_1 : p1 = 0
  · refine lv_tableIn (tgt := 48) hx hb dX12_askOf_1 (by rw [c_1]; decide) (by rw [c_1]; decide) (off := 47) (by rw [c_1]; decide) (by decide) ?_
    have c_1 : p1.toInt = 0 := xI_eq rfl rfl c_1
    refine lv_aload_n hx hb dX12_askOf_48 rfl (lv_at hl 0 rfl) ?_
    refine S_getR (n := 87) (C := RX12) (T := TX12) (N := 89) hx hb hg iX12 hown hK hW kd_66 rfl 35 (by decide) (hg (Cond.fieldLink RX12 75 "SlabWalkModel" "marks" "[I") m1349) (fun _ h9 => h9) rfl dX12_askOf_49 ?_
    refine lv_iload_n hx hb dX12_askOf_52 rfl (lv_at hl 1 rfl) ?_
    refine S_iald hx hb hK hW kd_87 (vin (by omega) (by omega)) dX12_askOf_53 (fun y_2 ey_2 => ?_)
    refine lv_if_ge (tgt := 61) hx hb dX12_askOf_54 (by decide) (fun c_3 => ?_) (fun c_3 => ?_)
    · have c_3 : 0 ≤ y_2.toInt := xI_le rfl rfl c_3
      refine lv_iconst (v := 0) hx hb dX12_askOf_61 (by decide) ?_
      have qc_4 : (0 : Int32).toInt = 0 := rfl
      refine S_calli (va_runS (As := [.int 0]) (rest := []) ⟨hx, hb, hml, hown, hts⟩ (n_truth l D k A a z G 0 ⟨by decide, by decide⟩) (va_cwS 1 hts (gd_S hgd m1788 m1789 m131 m1790) rfl rfl rfl (by decide +kernel) ⟨Nat.le_of_ble_eq_true rfl, Nat.le_of_ble_eq_true rfl⟩) (pre_S hW hB_G hK hZ hS) rfl rfl hl.1 rfl (lv_room (Nat.le_of_ble_eq_true rfl)) dX12_askOf_62 ⟨Nat.le_of_ble_eq_true rfl, Nat.le_of_ble_eq_true rfl⟩) hS (fun r_5 G_6 H locs hpo hW hS => ?_)
      obtain ⟨hB_G_6, hq_7, f_9, hp_8, -⟩ := hpo
      have hF := hF.call hq_7 (by decide) (by decide)
      exact W.iret (v := r_5) hx hb hr (fun t ht _ => ⟨⟨r_5, G_6, rfl, ⟨hB_G_6, hF⟩, wd_t ht hW⟩, hS.F ht⟩) hS.2.2 dX12_askOf_65
    · have c_3 : y_2.toInt < 0 := xI_nle rfl rfl c_3
      refine lv_iconst (v := 1) hx hb dX12_askOf_57 (by decide) ?_
      refine lv_goto (tgt := 62) hx hb dX12_askOf_58 (by decide) ?_
      have qc_10 : (1 : Int32).toInt = 1 := rfl
      refine S_calli (va_runS (As := [.int 1]) (rest := []) ⟨hx, hb, hml, hown, hts⟩ (n_truth l D k A a z G 1 ⟨by decide, by decide⟩) (va_cwS 1 hts (gd_S hgd m1788 m1789 m131 m1790) rfl rfl rfl (by decide +kernel) ⟨Nat.le_of_ble_eq_true rfl, Nat.le_of_ble_eq_true rfl⟩) (pre_S hW hB_G hK hZ hS) rfl rfl hl.1 rfl (lv_room (Nat.le_of_ble_eq_true rfl)) dX12_askOf_62 ⟨Nat.le_of_ble_eq_true rfl, Nat.le_of_ble_eq_true rfl⟩) hS (fun r_11 G_12 H locs hpo hW hS => ?_)
      obtain ⟨hB_G_12, hq_13, f_15, hp_14, -⟩ := hpo
      have hF := hF.call hq_13 (by decide) (by decide)
      exact W.iret (v := r_11) hx hb hr (fun t ht _ => ⟨⟨r_11, G_12, rfl, ⟨hB_G_12, hF⟩, wd_t ht hW⟩, hS.F ht⟩) hS.2.2 dX12_askOf_65
  by_cases c_16 : p1 = 1
  · refine lv_tableIn (tgt := 66) hx hb dX12_askOf_1 (by rw [c_16]; decide) (by rw [c_16]; decide) (off := 65) (by rw [c_16]; decide) (by decide) ?_
    have c_16 : p1.toInt = 1 := xI_eq rfl rfl c_16
    refine lv_aload_n hx hb dX12_askOf_66 rfl (lv_at hl 0 rfl) ?_
    refine S_getR (n := 87) (C := RX12) (T := TX12) (N := 89) hx hb hg iX12 hown hK hW kd_66 rfl 35 (by decide) (hg (Cond.fieldLink RX12 75 "SlabWalkModel" "marks" "[I") m1349) (fun _ h9 => h9) rfl dX12_askOf_67 ?_
    refine lv_iload_n hx hb dX12_askOf_70 rfl (lv_at hl 1 rfl) ?_
    refine S_iald hx hb hK hW kd_87 (vin (by omega) (by omega)) dX12_askOf_71 (fun y_17 ey_17 => ?_)
    refine lv_if_ge (tgt := 79) hx hb dX12_askOf_72 (by decide) (fun c_18 => ?_) (fun c_18 => ?_)
    · have c_18 : 0 ≤ y_17.toInt := xI_le rfl rfl c_18
      refine lv_aload_n hx hb dX12_askOf_79 rfl (lv_at hl 0 rfl) ?_
      refine S_getR (n := 87) (C := RX12) (T := TX12) (N := 89) hx hb hg iX12 hown hK hW kd_66 rfl 35 (by decide) (hg (Cond.fieldLink RX12 75 "SlabWalkModel" "marks" "[I") m1349) (fun _ h9 => h9) rfl dX12_askOf_80 ?_
      refine lv_iload_n hx hb dX12_askOf_83 rfl (lv_at hl 1 rfl) ?_
      refine S_iald hx hb hK hW kd_87 (vin (by omega) (by omega)) dX12_askOf_84 (fun y_19 ey_19 => ?_)
      refine lv_iload_n hx hb dX12_askOf_85 rfl (lv_at hl 2 rfl) ?_
      refine lv_iconst (v := 1) hx hb dX12_askOf_86 (by decide) ?_
      refine lv_isub hx hb dX12_askOf_87 ?_
      refine lv_topi (fun y_20 ey_20 => ?_)
      have ty_20 : y_20.toInt = p1.toInt - 1 := xI_sub rfl rfl ey_20 (by omega) (by omega)
      refine lv_ishr hx hb dX12_askOf_88 ?_
      refine lv_topi (fun y_21 ey_21 => ?_)
      refine lv_iconst (v := 1) hx hb dX12_askOf_89 (by decide) ?_
      refine lv_iand hx hb dX12_askOf_90 ?_
      refine lv_topi (fun y_22 ey_22 => ?_)
      have ty_22 := xI_and (Y := 1) rfl ey_22 (by decide)
      exact W.iret (v := y_22) hx hb hr (fun t ht _ => ⟨⟨y_22, G, rfl, ⟨hB_G, hF⟩, wd_t ht hW⟩, hS.F ht⟩) hS.2.2 dX12_askOf_91
    · have c_18 : y_17.toInt < 0 := xI_nle rfl rfl c_18
      refine lv_iconst (v := 0) hx hb dX12_askOf_75 (by decide) ?_
      refine lv_goto (tgt := 91) hx hb dX12_askOf_76 (by decide) ?_
      exact W.iret (v := 0) hx hb hr (fun t ht _ => ⟨⟨0, G, rfl, ⟨hB_G, hF⟩, wd_t ht hW⟩, hS.F ht⟩) hS.2.2 dX12_askOf_91
  by_cases c_23 : p1 = 2
  · refine lv_tableIn (tgt := 66) hx hb dX12_askOf_1 (by rw [c_23]; decide) (by rw [c_23]; decide) (off := 65) (by rw [c_23]; decide) (by decide) ?_
    have c_23 : p1.toInt = 2 := xI_eq rfl rfl c_23
    refine lv_aload_n hx hb dX12_askOf_66 rfl (lv_at hl 0 rfl) ?_
    refine S_getR (n := 87) (C := RX12) (T := TX12) (N := 89) hx hb hg iX12 hown hK hW kd_66 rfl 35 (by decide) (hg (Cond.fieldLink RX12 75 "SlabWalkModel" "marks" "[I") m1349) (fun _ h9 => h9) rfl dX12_askOf_67 ?_
    refine lv_iload_n hx hb dX12_askOf_70 rfl (lv_at hl 1 rfl) ?_
    refine S_iald hx hb hK hW kd_87 (vin (by omega) (by omega)) dX12_askOf_71 (fun y_24 ey_24 => ?_)
    refine lv_if_ge (tgt := 79) hx hb dX12_askOf_72 (by decide) (fun c_25 => ?_) (fun c_25 => ?_)
    · have c_25 : 0 ≤ y_24.toInt := xI_le rfl rfl c_25
      refine lv_aload_n hx hb dX12_askOf_79 rfl (lv_at hl 0 rfl) ?_
      refine S_getR (n := 87) (C := RX12) (T := TX12) (N := 89) hx hb hg iX12 hown hK hW kd_66 rfl 35 (by decide) (hg (Cond.fieldLink RX12 75 "SlabWalkModel" "marks" "[I") m1349) (fun _ h9 => h9) rfl dX12_askOf_80 ?_
      refine lv_iload_n hx hb dX12_askOf_83 rfl (lv_at hl 1 rfl) ?_
      refine S_iald hx hb hK hW kd_87 (vin (by omega) (by omega)) dX12_askOf_84 (fun y_26 ey_26 => ?_)
      refine lv_iload_n hx hb dX12_askOf_85 rfl (lv_at hl 2 rfl) ?_
      refine lv_iconst (v := 1) hx hb dX12_askOf_86 (by decide) ?_
      refine lv_isub hx hb dX12_askOf_87 ?_
      refine lv_topi (fun y_27 ey_27 => ?_)
      have ty_27 : y_27.toInt = p1.toInt - 1 := xI_sub rfl rfl ey_27 (by omega) (by omega)
      refine lv_ishr hx hb dX12_askOf_88 ?_
      refine lv_topi (fun y_28 ey_28 => ?_)
      refine lv_iconst (v := 1) hx hb dX12_askOf_89 (by decide) ?_
      refine lv_iand hx hb dX12_askOf_90 ?_
      refine lv_topi (fun y_29 ey_29 => ?_)
      have ty_29 := xI_and (Y := 1) rfl ey_29 (by decide)
      exact W.iret (v := y_29) hx hb hr (fun t ht _ => ⟨⟨y_29, G, rfl, ⟨hB_G, hF⟩, wd_t ht hW⟩, hS.F ht⟩) hS.2.2 dX12_askOf_91
    · have c_25 : y_24.toInt < 0 := xI_nle rfl rfl c_25
      refine lv_iconst (v := 0) hx hb dX12_askOf_75 (by decide) ?_
      refine lv_goto (tgt := 91) hx hb dX12_askOf_76 (by decide) ?_
      exact W.iret (v := 0) hx hb hr (fun t ht _ => ⟨⟨0, G, rfl, ⟨hB_G, hF⟩, wd_t ht hW⟩, hS.F ht⟩) hS.2.2 dX12_askOf_91
  by_cases c_30 : p1 = 3
  · refine lv_tableIn (tgt := 66) hx hb dX12_askOf_1 (by rw [c_30]; decide) (by rw [c_30]; decide) (off := 65) (by rw [c_30]; decide) (by decide) ?_
    have c_30 : p1.toInt = 3 := xI_eq rfl rfl c_30
    refine lv_aload_n hx hb dX12_askOf_66 rfl (lv_at hl 0 rfl) ?_
    refine S_getR (n := 87) (C := RX12) (T := TX12) (N := 89) hx hb hg iX12 hown hK hW kd_66 rfl 35 (by decide) (hg (Cond.fieldLink RX12 75 "SlabWalkModel" "marks" "[I") m1349) (fun _ h9 => h9) rfl dX12_askOf_67 ?_
    refine lv_iload_n hx hb dX12_askOf_70 rfl (lv_at hl 1 rfl) ?_
    refine S_iald hx hb hK hW kd_87 (vin (by omega) (by omega)) dX12_askOf_71 (fun y_31 ey_31 => ?_)
    refine lv_if_ge (tgt := 79) hx hb dX12_askOf_72 (by decide) (fun c_32 => ?_) (fun c_32 => ?_)
    · have c_32 : 0 ≤ y_31.toInt := xI_le rfl rfl c_32
      refine lv_aload_n hx hb dX12_askOf_79 rfl (lv_at hl 0 rfl) ?_
      refine S_getR (n := 87) (C := RX12) (T := TX12) (N := 89) hx hb hg iX12 hown hK hW kd_66 rfl 35 (by decide) (hg (Cond.fieldLink RX12 75 "SlabWalkModel" "marks" "[I") m1349) (fun _ h9 => h9) rfl dX12_askOf_80 ?_
      refine lv_iload_n hx hb dX12_askOf_83 rfl (lv_at hl 1 rfl) ?_
      refine S_iald hx hb hK hW kd_87 (vin (by omega) (by omega)) dX12_askOf_84 (fun y_33 ey_33 => ?_)
      refine lv_iload_n hx hb dX12_askOf_85 rfl (lv_at hl 2 rfl) ?_
      refine lv_iconst (v := 1) hx hb dX12_askOf_86 (by decide) ?_
      refine lv_isub hx hb dX12_askOf_87 ?_
      refine lv_topi (fun y_34 ey_34 => ?_)
      have ty_34 : y_34.toInt = p1.toInt - 1 := xI_sub rfl rfl ey_34 (by omega) (by omega)
      refine lv_ishr hx hb dX12_askOf_88 ?_
      refine lv_topi (fun y_35 ey_35 => ?_)
      refine lv_iconst (v := 1) hx hb dX12_askOf_89 (by decide) ?_
      refine lv_iand hx hb dX12_askOf_90 ?_
      refine lv_topi (fun y_36 ey_36 => ?_)
      have ty_36 := xI_and (Y := 1) rfl ey_36 (by decide)
      exact W.iret (v := y_36) hx hb hr (fun t ht _ => ⟨⟨y_36, G, rfl, ⟨hB_G, hF⟩, wd_t ht hW⟩, hS.F ht⟩) hS.2.2 dX12_askOf_91
    · have c_32 : y_31.toInt < 0 := xI_nle rfl rfl c_32
      refine lv_iconst (v := 0) hx hb dX12_askOf_75 (by decide) ?_
      refine lv_goto (tgt := 91) hx hb dX12_askOf_76 (by decide) ?_
      exact W.iret (v := 0) hx hb hr (fun t ht _ => ⟨⟨0, G, rfl, ⟨hB_G, hF⟩, wd_t ht hW⟩, hS.F ht⟩) hS.2.2 dX12_askOf_91
  by_cases c_37 : p1 = 4
  · refine lv_tableIn (tgt := 66) hx hb dX12_askOf_1 (by rw [c_37]; decide) (by rw [c_37]; decide) (off := 65) (by rw [c_37]; decide) (by decide) ?_
    have c_37 : p1.toInt = 4 := xI_eq rfl rfl c_37
    refine lv_aload_n hx hb dX12_askOf_66 rfl (lv_at hl 0 rfl) ?_
    refine S_getR (n := 87) (C := RX12) (T := TX12) (N := 89) hx hb hg iX12 hown hK hW kd_66 rfl 35 (by decide) (hg (Cond.fieldLink RX12 75 "SlabWalkModel" "marks" "[I") m1349) (fun _ h9 => h9) rfl dX12_askOf_67 ?_
    refine lv_iload_n hx hb dX12_askOf_70 rfl (lv_at hl 1 rfl) ?_
    refine S_iald hx hb hK hW kd_87 (vin (by omega) (by omega)) dX12_askOf_71 (fun y_38 ey_38 => ?_)
    refine lv_if_ge (tgt := 79) hx hb dX12_askOf_72 (by decide) (fun c_39 => ?_) (fun c_39 => ?_)
    · have c_39 : 0 ≤ y_38.toInt := xI_le rfl rfl c_39
      refine lv_aload_n hx hb dX12_askOf_79 rfl (lv_at hl 0 rfl) ?_
      refine S_getR (n := 87) (C := RX12) (T := TX12) (N := 89) hx hb hg iX12 hown hK hW kd_66 rfl 35 (by decide) (hg (Cond.fieldLink RX12 75 "SlabWalkModel" "marks" "[I") m1349) (fun _ h9 => h9) rfl dX12_askOf_80 ?_
      refine lv_iload_n hx hb dX12_askOf_83 rfl (lv_at hl 1 rfl) ?_
      refine S_iald hx hb hK hW kd_87 (vin (by omega) (by omega)) dX12_askOf_84 (fun y_40 ey_40 => ?_)
      refine lv_iload_n hx hb dX12_askOf_85 rfl (lv_at hl 2 rfl) ?_
      refine lv_iconst (v := 1) hx hb dX12_askOf_86 (by decide) ?_
      refine lv_isub hx hb dX12_askOf_87 ?_
      refine lv_topi (fun y_41 ey_41 => ?_)
      have ty_41 : y_41.toInt = p1.toInt - 1 := xI_sub rfl rfl ey_41 (by omega) (by omega)
      refine lv_ishr hx hb dX12_askOf_88 ?_
      refine lv_topi (fun y_42 ey_42 => ?_)
      refine lv_iconst (v := 1) hx hb dX12_askOf_89 (by decide) ?_
      refine lv_iand hx hb dX12_askOf_90 ?_
      refine lv_topi (fun y_43 ey_43 => ?_)
      have ty_43 := xI_and (Y := 1) rfl ey_43 (by decide)
      exact W.iret (v := y_43) hx hb hr (fun t ht _ => ⟨⟨y_43, G, rfl, ⟨hB_G, hF⟩, wd_t ht hW⟩, hS.F ht⟩) hS.2.2 dX12_askOf_91
    · have c_39 : y_38.toInt < 0 := xI_nle rfl rfl c_39
      refine lv_iconst (v := 0) hx hb dX12_askOf_75 (by decide) ?_
      refine lv_goto (tgt := 91) hx hb dX12_askOf_76 (by decide) ?_
      exact W.iret (v := 0) hx hb hr (fun t ht _ => ⟨⟨0, G, rfl, ⟨hB_G, hF⟩, wd_t ht hW⟩, hS.F ht⟩) hS.2.2 dX12_askOf_91
  by_cases c_44 : p1 = 5
  · refine lv_tableIn (tgt := 92) hx hb dX12_askOf_1 (by rw [c_44]; decide) (by rw [c_44]; decide) (off := 91) (by rw [c_44]; decide) (by decide) ?_
    have c_44 : p1.toInt = 5 := xI_eq rfl rfl c_44
    refine lv_aload_n hx hb dX12_askOf_92 rfl (lv_at hl 0 rfl) ?_
    refine S_getR (n := 90) (C := RX12) (T := TX12) (N := 89) hx hb hg iX12 hown hK hW kd_66 rfl 38 (by decide) (hg (Cond.fieldLink RX12 84 "SlabWalkModel" "longs" "[I") m1352) (fun _ h9 => h9) rfl dX12_askOf_93 ?_
    refine lv_iload_n hx hb dX12_askOf_96 rfl (lv_at hl 1 rfl) ?_
    refine S_iald hx hb hK hW kd_90 (vin (by omega) (by omega)) dX12_askOf_97 (fun y_45 ey_45 => ?_)
    exact W.iret (v := y_45) hx hb hr (fun t ht _ => ⟨⟨y_45, G, rfl, ⟨hB_G, hF⟩, wd_t ht hW⟩, hS.F ht⟩) hS.2.2 dX12_askOf_98
  by_cases c_46 : p1 = 6
  · refine lv_tableIn (tgt := 99) hx hb dX12_askOf_1 (by rw [c_46]; decide) (by rw [c_46]; decide) (off := 98) (by rw [c_46]; decide) (by decide) ?_
    have c_46 : p1.toInt = 6 := xI_eq rfl rfl c_46
    refine lv_aload_n hx hb dX12_askOf_99 rfl (lv_at hl 0 rfl) ?_
    refine S_getR (n := 88) (C := RX12) (T := TX12) (N := 89) hx hb hg iX12 hown hK hW kd_66 rfl 36 (by decide) (hg (Cond.fieldLink RX12 78 "SlabWalkModel" "nths" "[I") m1350) (fun _ h9 => h9) rfl dX12_askOf_100 ?_
    refine lv_iload_n hx hb dX12_askOf_103 rfl (lv_at hl 1 rfl) ?_
    refine S_iald hx hb hK hW kd_88 (vin (by omega) (by omega)) dX12_askOf_104 (fun y_47 ey_47 => ?_)
    exact W.iret (v := y_47) hx hb hr (fun t ht _ => ⟨⟨y_47, G, rfl, ⟨hB_G, hF⟩, wd_t ht hW⟩, hS.F ht⟩) hS.2.2 dX12_askOf_105
  by_cases c_48 : p1 = 7
  · refine lv_tableIn (tgt := 106) hx hb dX12_askOf_1 (by rw [c_48]; decide) (by rw [c_48]; decide) (off := 105) (by rw [c_48]; decide) (by decide) ?_
    have c_48 : p1.toInt = 7 := xI_eq rfl rfl c_48
    refine lv_aload_n hx hb dX12_askOf_106 rfl (lv_at hl 0 rfl) ?_
    refine S_getR (n := 89) (C := RX12) (T := TX12) (N := 89) hx hb hg iX12 hown hK hW kd_66 rfl 37 (by decide) (hg (Cond.fieldLink RX12 81 "SlabWalkModel" "inches" "[I") m1351) (fun _ h9 => h9) rfl dX12_askOf_107 ?_
    refine lv_iload_n hx hb dX12_askOf_110 rfl (lv_at hl 1 rfl) ?_
    refine S_iald hx hb hK hW kd_89 (vin (by omega) (by omega)) dX12_askOf_111 (fun y_49 ey_49 => ?_)
    exact W.iret (v := y_49) hx hb hr (fun t ht _ => ⟨⟨y_49, G, rfl, ⟨hB_G, hF⟩, wd_t ht hW⟩, hS.F ht⟩) hS.2.2 dX12_askOf_112
  refine lv_tableOut (tgt := 113) hx hb dX12_askOf_1 (tb_out (lo := 0) (hi := 7) (by have c_1 := xI_ne (Y := 0) rfl rfl c_1; have c_16 := xI_ne (Y := 1) rfl rfl c_16; have c_23 := xI_ne (Y := 2) rfl rfl c_23; have c_30 := xI_ne (Y := 3) rfl rfl c_30; have c_37 := xI_ne (Y := 4) rfl rfl c_37; have c_44 := xI_ne (Y := 5) rfl rfl c_44; have c_46 := xI_ne (Y := 6) rfl rfl c_46; have c_48 := xI_ne (Y := 7) rfl rfl c_48; omega)) (by decide) ?_
  have c_1 := xI_ne (Y := 0) rfl rfl c_1
  have c_16 := xI_ne (Y := 1) rfl rfl c_16
  have c_23 := xI_ne (Y := 2) rfl rfl c_23
  have c_30 := xI_ne (Y := 3) rfl rfl c_30
  have c_37 := xI_ne (Y := 4) rfl rfl c_37
  have c_44 := xI_ne (Y := 5) rfl rfl c_44
  have c_46 := xI_ne (Y := 6) rfl rfl c_46
  have c_48 := xI_ne (Y := 7) rfl rfl c_48
  refine lv_aload_n hx hb dX12_askOf_113 rfl (lv_at hl 0 rfl) ?_
  refine S_getR (n := 110) (C := RX12) (T := TX12) (N := 89) hx hb hg iX12 hown hK hW kd_66 rfl 76 (by decide) (hg (Cond.fieldLink RX12 151 "SlabWalkModel" "now" "[I") m1390) (fun _ h9 => h9) rfl dX12_askOf_114 ?_
  refine lv_bipush (v := 6) hx hb dX12_askOf_117 (by decide) ?_
  refine S_iald hx hb hK hW kd_110 (vin (by decide) (by decide)) dX12_askOf_119 (fun y_50 ey_50 => ?_)
  exact W.iret (v := y_50) hx hb hr (fun t ht _ => ⟨⟨y_50, G, rfl, ⟨hB_G, hF⟩, wd_t ht hW⟩, hS.F ht⟩) hS.2.2 dX12_askOf_120

set_option maxHeartbeats 4000000 in
set_option maxRecDepth 100000 in
theorem n_worked (l : Launch) (D : va_G) (k : KT) (A : Nat → Prop) (a : Nat → Nat) (z : SK) (G : GS) (p0 : Int32) (p1 : Int32) (ha_p0 : 0 ≤ p0.toInt ∧ p0.toInt ≤ 5) (ha_p1 : 0 ≤ p1.toInt ∧ p1.toInt ≤ 1199) (hP9 : gP G = 1) (hpr : p0.toInt < (G.1 66 54).toInt) : Met l yX12_worked (WS yX12_worked cX12_worked 5 (some .int)) ({ frames := 2, cells := 0, slots := 0, locals := 42 }) (va_Pc [.ref (a 66), .int p0, .int p1] (cW D k A a z G)) (va_Qi (fun (r : Int32) (G1 : GS) => Bd G1 ∧ Fr [76] [] G G1) (fun (G1 : GS) t => Wd D k A a G1 t.heap) A) 0 0 A := by
  refine Met.ofW (cc := cX12_worked) (maxL := 5) (ret := (some .int)) (by decide) rfl ?_
  intro p e s m args below meth c s₁ B hml hv
  obtain ⟨rfl, hW, hB_G, hK, hZ⟩ := hv
  have hx := B.exec
  have hb := B.bytes
  have hr := B.returns
  have hts := atoms_spec (ws := WS yX12_worked cX12_worked 5 (some .int)) B.pre
  have hgd : ∀ w ∈ gd, w ∈ WS yX12_worked cX12_worked 5 (some .int) := fun w h => List.mem_cons_of_mem _ h
  have hg : ∀ w ∈ gd, w.before _ s = true := fun w h => hts w (hgd w h)
  have hown : s.vm.findClass RX12 = some m.cls := findClass_of_methodNamed B.named
  have hS : va_S A s.heap s.heap [] := va_S.rf
  have hF : Fr [76] [] G G := Fr.rf
  have hl := lv_entry ([.ref (a 66), .int p0, .int p1]) (n := 5) (Nat.le_of_ble_eq_true rfl)
  rw [lg_entry_eq]
  generalize (lg_sl ([.ref (a 66), .int p0, .int p1]) ++ List.replicate (5 - (lg_sl ([.ref (a 66), .int p0, .int p1])).length) Slot.unset).toArray = ls at hl ⊢
  have hl : lv_has ls 5 [(0, .ref (a 66)), (1, .int p0), (2, .int p1)] := hl
  refine lv_iconst (v := 0) hx hb dX12_worked_0 (by decide) ?_
  refine lv_istore_n (lv' := [(3, .int 0), (0, .ref (a 66)), (1, .int p0), (2, .int p1)]) hx hb dX12_worked_1 rfl hl (by decide) rfl (fun ls hl => ?_)
  refine lv_sipush (v := 320) hx hb dX12_worked_2 (by decide) ?_
  refine lv_iload_n hx hb dX12_worked_5 rfl (lv_at hl 2 rfl) ?_
  refine lv_imul hx hb dX12_worked_6 ?_
  refine lv_topi (fun y_1 ey_1 => ?_)
  have ty_1 : y_1.toInt = 320 * p0.toInt := xI_mul rfl rfl ey_1 (by omega) (by omega)
  have u_2 : dpK (G.1 72) (320 * p0.toInt) y_1.toInt = 0 := by rw [ty_1]; exact dpK_0 _ _
  have u_3 : 0 ≤ (G.1 74 p0.toNatClampNeg).toInt ∧ (G.1 74 p0.toNatClampNeg).toInt ≤ 320 := hB_G.i 74 _ rfl rfl
  refine lv_istore (lv' := [(4, .int y_1), (3, .int 0), (0, .ref (a 66)), (1, .int p0), (2, .int p1)]) hx hb dX12_worked_7 hl (by decide) rfl (fun ls hl => ?_)
  have qc_10 : (0 : Int32).toInt = 0 := rfl
  refine loop_N (Inv := fun n H locs ls => ∃ (G_4 : GS) (x_8 : Int32) (x_9 : Int32), (n : Int) = 1920 - x_8.toInt ∧ (0 ≤ x_8.toInt ∧ x_8.toInt ≤ 1920) ∧ (0 ≤ x_9.toInt ∧ x_9.toInt ≤ 41) ∧ (x_9.toInt = dpK (G.1 72) (320 * p0.toInt) x_8.toInt) ∧ (320 * p0.toInt ≤ x_8.toInt) ∧ (x_8.toInt ≤ 320 * p0.toInt + (G.1 74 p0.toNatClampNeg).toInt) ∧ Wd D k A a G_4 H ∧ Bd G_4 ∧ Fr [76] [] G G_4 ∧ Fr [76] [] G G_4 ∧ va_S A s.heap H locs ∧ lv_has ls 5 [(4, .int x_8), (3, .int x_9), (0, .ref (a 66)), (1, .int p0), (2, .int p1)]) (fun n_7 H locs ls ih_6 hI => ?_) (1920 - y_1.toInt : Int).toNat ⟨G, y_1, 0, (Int.toNat_of_nonneg (by omega)), ⟨by omega, by omega⟩, ⟨by omega, by omega⟩, (by omega), (by omega), (by omega), hW, hB_G, hF, Fr.rf, hS, lv_sub hl [0, 1, 2, 3, 4] rfl⟩
  obtain ⟨G_4, x_8, x_9, hn_16, f_11, f_12, f_13, f_14, f_15, hW, hB_G_4, hF, hq_5, hS, hl⟩ := hI
  refine lv_iload hx hb dX12_worked_9 (lv_at hl 0 rfl) ?_
  refine lv_sipush (v := 320) hx hb dX12_worked_11 (by decide) ?_
  refine lv_iload_n hx hb dX12_worked_14 rfl (lv_at hl 3 rfl) ?_
  refine lv_imul hx hb dX12_worked_15 ?_
  refine lv_topi (fun y_17 ey_17 => ?_)
  have ty_17 : y_17.toInt = 320 * p0.toInt := xI_mul rfl rfl ey_17 (by omega) (by omega)
  refine lv_aload_n hx hb dX12_worked_16 rfl (lv_at hl 2 rfl) ?_
  refine S_getR (n := 74) (C := RX12) (T := TX12) (N := 89) hx hb hg iX12 hown hK hW kd_66 rfl 16 (by decide) (hg (Cond.fieldLink RX12 36 "SlabWalkModel" "many" "[I") m1330) (fun _ h9 => h9) rfl dX12_worked_17 ?_
  refine lv_iload_n hx hb dX12_worked_20 rfl (lv_at hl 3 rfl) ?_
  refine S_iald hx hb hK hW kd_74 (vin (by omega) (by omega)) dX12_worked_21 (fun y_18 ey_18 => ?_)
  have ty_18 : 0 ≤ y_18.toInt ∧ y_18.toInt ≤ 320 := hB_G_4.v ey_18 rfl rfl
  have u_19 : y_18.toInt = (G.1 74 p0.toNatClampNeg).toInt := congrArg Int32.toInt (ey_18.trans ((hq_5.ri 74 (by decide) (by decide) p0.toNatClampNeg)))
  refine lv_iadd hx hb dX12_worked_22 ?_
  refine lv_topi (fun y_20 ey_20 => ?_)
  have ty_20 : y_20.toInt = y_17.toInt + y_18.toInt := xI_add rfl rfl ey_20 (by omega) (by omega)
  refine lv_icmp_ge (tgt := 173) hx hb dX12_worked_23 (by decide) (fun c_21 => ?_) (fun c_21 => ?_)
  · have c_21 : y_20.toInt ≤ x_8.toInt := xI_le rfl rfl c_21
    refine lv_aload_n hx hb dX12_worked_173 rfl (lv_at hl 2 rfl) ?_
    refine S_getR (n := 76) (C := RX12) (T := TX12) (N := 89) hx hb hg iX12 hown hK hW kd_66 rfl 18 (by decide) (hg (Cond.fieldLink RX12 42 "SlabWalkModel" "values" "[I") m1332) (fun _ h9 => h9) rfl dX12_worked_174 ?_
    refine lv_iconst (v := 0) hx hb dX12_worked_177 (by decide) ?_
    refine S_iald hx hb hK hW kd_76 (vin (by decide) (by decide)) dX12_worked_178 (fun y_22 ey_22 => ?_)
    exact W.iret (v := y_22) hx hb hr (fun t ht _ => ⟨⟨y_22, G_4, rfl, ⟨hB_G_4, hF⟩, wd_t ht hW⟩, hS.F ht⟩) hS.2.2 dX12_worked_179
  · have c_21 : x_8.toInt < y_20.toInt := xI_nle rfl rfl c_21
    refine lv_aload_n hx hb dX12_worked_26 rfl (lv_at hl 2 rfl) ?_
    refine S_getR (n := 72) (C := RX12) (T := TX12) (N := 89) hx hb hg iX12 hown hK hW kd_66 rfl 14 (by decide) (hg (Cond.fieldLink RX12 30 "SlabWalkModel" "step" "[I") m1328) (fun _ h9 => h9) rfl dX12_worked_27 ?_
    refine lv_iload hx hb dX12_worked_30 (lv_at hl 0 rfl) ?_
    refine S_iald hx hb hK hW kd_72 (vin (by omega) (by omega)) dX12_worked_32 (fun y_23 ey_23 => ?_)
    have u_24 : y_23.toInt = (G.1 72 x_8.toNatClampNeg).toInt := congrArg Int32.toInt (ey_23.trans ((hq_5.ri 72 (by decide) (by decide) x_8.toNatClampNeg)))
    have u_25 := wk_step (ind_p hP9) (p := p0) (k := x_8) (y := y_23) (by omega) (by rw [tN (by omega)]; omega) (by omega) (by omega) (by omega)
    refine lv_if_eq (tgt := 47) hx hb dX12_worked_33 (by decide) (fun c_26 => ?_) (fun c_26 => ?_)
    · have c_26 : y_23.toInt = 0 := xI_eq rfl rfl c_26
      refine lv_aload_n hx hb dX12_worked_47 rfl (lv_at hl 2 rfl) ?_
      refine S_getR (n := 76) (C := RX12) (T := TX12) (N := 89) hx hb hg iX12 hown hK hW kd_66 rfl 18 (by decide) (hg (Cond.fieldLink RX12 42 "SlabWalkModel" "values" "[I") m1332) (fun _ h9 => h9) rfl dX12_worked_48 ?_
      refine lv_iload_n hx hb dX12_worked_51 rfl (lv_at hl 1 rfl) ?_
      refine lv_aload_n hx hb dX12_worked_52 rfl (lv_at hl 2 rfl) ?_
      refine S_getR (n := 72) (C := RX12) (T := TX12) (N := 89) hx hb hg iX12 hown hK hW kd_66 rfl 14 (by decide) (hg (Cond.fieldLink RX12 30 "SlabWalkModel" "step" "[I") m1328) (fun _ h9 => h9) rfl dX12_worked_53 ?_
      refine lv_iload hx hb dX12_worked_56 (lv_at hl 0 rfl) ?_
      refine S_iald hx hb hK hW kd_72 (vin (by omega) (by omega)) dX12_worked_58 (fun y_27 ey_27 => ?_)
      have u_28 : y_27.toInt = y_23.toInt := congrArg Int32.toInt (ey_27.trans (ey_23.symm))
      refine lv_if_ne (tgt := 72) hx hb dX12_worked_59 (by decide) (fun c_29 => ?_) (fun c_29 => ?_)
      · have c_29 : y_27.toInt ≠ 0 := xI_ne rfl rfl c_29
        refine lv_aload_n hx hb dX12_worked_72 rfl (lv_at hl 2 rfl) ?_
        refine lv_iload_n hx hb dX12_worked_73 rfl (lv_at hl 4 rfl) ?_
        refine lv_aload_n hx hb dX12_worked_74 rfl (lv_at hl 2 rfl) ?_
        refine S_getR (n := 73) (C := RX12) (T := TX12) (N := 89) hx hb hg iX12 hown hK hW kd_66 rfl 15 (by decide) (hg (Cond.fieldLink RX12 33 "SlabWalkModel" "arg" "[I") m1329) (fun _ h9 => h9) rfl dX12_worked_75 ?_
        refine lv_iload hx hb dX12_worked_78 (lv_at hl 0 rfl) ?_
        refine S_iald hx hb hK hW kd_73 (vin (by omega) (by omega)) dX12_worked_80 (fun y_30 ey_30 => ?_)
        have u_31 : y_30.toInt = (G.1 73 x_8.toNatClampNeg).toInt := congrArg Int32.toInt (ey_30.trans ((hq_5.ri 73 (by decide) (by decide) x_8.toNatClampNeg)))
        refine S_calli (va_runV (As := [.int p1, .int y_30]) (rest := [.int x_9, .ref (a 76)]) ⟨hx, hb, hml, hown, hts⟩ (n_askOf l D k A a z G_4 p1 y_30 ⟨by omega, by omega⟩) (cwV 2 hts (gd_V hgd m1811 m1813 m88 m131 m1814) rfl rfl rfl (by decide +kernel) ⟨Nat.le_of_ble_eq_true rfl, Nat.le_of_ble_eq_true rfl⟩) (pre_V hW hB_G_4 hK hZ hS kd_66 rfl) rfl rfl hl.1 rfl (lv_room (Nat.le_of_ble_eq_true rfl)) dX12_worked_81 ⟨Nat.le_of_ble_eq_true rfl, Nat.le_of_ble_eq_true rfl⟩) hS (fun r_32 G_33 H locs hpo hW hS => ?_)
        obtain ⟨hB_G_33, hq_34⟩ := hpo
        have hF := hF.call hq_34 (by decide) (by decide)
        refine S_iast hx hb hK hW hS kd_76 (vin (by omega) (by omega)) dX12_worked_84 (fun G_36 H locs eG_36 hW hS => ?_)
        have hB_G_36 : Bd G_36 := hB_G_33.put (lo := (-2147483648)) (hi := 2147483647) eG_36 rfl rfl rfl (tI_rng _).1 (tI_rng _).2 (hB_G_33.2.put eG_36 rfl)
        have hF := hF.put eG_36 (Or.inl (by decide))
        obtain ⟨y_37, ey_37⟩ : ∃ q, q = x_9 + 1 := ⟨_, rfl⟩
        have ty_37 : y_37.toInt = x_9.toInt + 1 := xI_add rfl rfl ey_37 (by omega) (by omega)
        refine lv_iinc (v := y_37) (lv' := [(3, .int y_37), (4, .int x_8), (0, .ref (a 66)), (1, .int p0), (2, .int p1)]) hx hb dX12_worked_85 hl (k := 1) rfl (by rw [ey_37]; rfl) (by decide) rfl (fun ls hl => ?_)
        refine lv_goto (tgt := 167) hx hb dX12_worked_88 (by decide) ?_
        obtain ⟨y_38, ey_38⟩ : ∃ q, q = x_8 + 1 := ⟨_, rfl⟩
        have ty_38 : y_38.toInt = x_8.toInt + 1 := xI_add rfl rfl ey_38 (by omega) (by omega)
        refine lv_iinc (v := y_38) (lv' := [(4, .int y_38), (3, .int y_37), (0, .ref (a 66)), (1, .int p0), (2, .int p1)]) hx hb dX12_worked_167 hl (k := 1) rfl (by rw [ey_38]; rfl) (by decide) rfl (fun ls hl => ?_)
        have u_39 : dpK (G.1 72) (320 * p0.toInt) y_38.toInt = dpK (G.1 72) (320 * p0.toInt) (x_8.toInt + 1) := by rw [ty_38]
        refine lv_goto (tgt := 9) hx hb dX12_worked_170 (by decide) ?_
        exact ih_6 (1920 - y_38.toInt : Int).toNat (by omega) _ _ _ ⟨G_36, y_38, y_37, (Int.toNat_of_nonneg (by omega)), ⟨by omega, by omega⟩, ⟨by omega, by omega⟩, (by omega), (by omega), (by omega), hW, hB_G_36, hF, (((Fr.rf.call hq_5 (by decide) (by decide)).call hq_34 (by decide) (by decide)).put eG_36 (Or.inl (by decide))), hS, lv_sub hl [0, 1, 2, 3, 4] rfl⟩
      · have c_29 : y_27.toInt = 0 := xI_eq rfl rfl c_29
        refine lv_aload_n hx hb dX12_worked_62 rfl (lv_at hl 2 rfl) ?_
        refine S_getR (n := 73) (C := RX12) (T := TX12) (N := 89) hx hb hg iX12 hown hK hW kd_66 rfl 15 (by decide) (hg (Cond.fieldLink RX12 33 "SlabWalkModel" "arg" "[I") m1329) (fun _ h9 => h9) rfl dX12_worked_63 ?_
        refine lv_iload hx hb dX12_worked_66 (lv_at hl 0 rfl) ?_
        refine S_iald hx hb hK hW kd_73 (vin (by omega) (by omega)) dX12_worked_68 (fun y_40 ey_40 => ?_)
        have u_41 : y_40.toInt = (G.1 73 x_8.toNatClampNeg).toInt := congrArg Int32.toInt (ey_40.trans ((hq_5.ri 73 (by decide) (by decide) x_8.toNatClampNeg)))
        refine lv_goto (tgt := 84) hx hb dX12_worked_69 (by decide) ?_
        refine S_iast hx hb hK hW hS kd_76 (vin (by omega) (by omega)) dX12_worked_84 (fun G_42 H locs eG_42 hW hS => ?_)
        have hB_G_42 : Bd G_42 := hB_G_4.put (lo := (-2147483648)) (hi := 2147483647) eG_42 rfl rfl rfl (tI_rng _).1 (tI_rng _).2 (hB_G_4.2.put eG_42 rfl)
        have hF := hF.put eG_42 (Or.inl (by decide))
        obtain ⟨y_43, ey_43⟩ : ∃ q, q = x_9 + 1 := ⟨_, rfl⟩
        have ty_43 : y_43.toInt = x_9.toInt + 1 := xI_add rfl rfl ey_43 (by omega) (by omega)
        refine lv_iinc (v := y_43) (lv' := [(3, .int y_43), (4, .int x_8), (0, .ref (a 66)), (1, .int p0), (2, .int p1)]) hx hb dX12_worked_85 hl (k := 1) rfl (by rw [ey_43]; rfl) (by decide) rfl (fun ls hl => ?_)
        refine lv_goto (tgt := 167) hx hb dX12_worked_88 (by decide) ?_
        obtain ⟨y_44, ey_44⟩ : ∃ q, q = x_8 + 1 := ⟨_, rfl⟩
        have ty_44 : y_44.toInt = x_8.toInt + 1 := xI_add rfl rfl ey_44 (by omega) (by omega)
        refine lv_iinc (v := y_44) (lv' := [(4, .int y_44), (3, .int y_43), (0, .ref (a 66)), (1, .int p0), (2, .int p1)]) hx hb dX12_worked_167 hl (k := 1) rfl (by rw [ey_44]; rfl) (by decide) rfl (fun ls hl => ?_)
        have u_45 : dpK (G.1 72) (320 * p0.toInt) y_44.toInt = dpK (G.1 72) (320 * p0.toInt) (x_8.toInt + 1) := by rw [ty_44]
        refine lv_goto (tgt := 9) hx hb dX12_worked_170 (by decide) ?_
        exact ih_6 (1920 - y_44.toInt : Int).toNat (by omega) _ _ _ ⟨G_42, y_44, y_43, (Int.toNat_of_nonneg (by omega)), ⟨by omega, by omega⟩, ⟨by omega, by omega⟩, (by omega), (by omega), (by omega), hW, hB_G_42, hF, ((Fr.rf.call hq_5 (by decide) (by decide)).put eG_42 (Or.inl (by decide))), hS, lv_sub hl [0, 1, 2, 3, 4] rfl⟩
    · have c_26 : y_23.toInt ≠ 0 := xI_ne rfl rfl c_26
      refine lv_aload_n hx hb dX12_worked_36 rfl (lv_at hl 2 rfl) ?_
      refine S_getR (n := 72) (C := RX12) (T := TX12) (N := 89) hx hb hg iX12 hown hK hW kd_66 rfl 14 (by decide) (hg (Cond.fieldLink RX12 30 "SlabWalkModel" "step" "[I") m1328) (fun _ h9 => h9) rfl dX12_worked_37 ?_
      refine lv_iload hx hb dX12_worked_40 (lv_at hl 0 rfl) ?_
      refine S_iald hx hb hK hW kd_72 (vin (by omega) (by omega)) dX12_worked_42 (fun y_46 ey_46 => ?_)
      have u_47 : y_46.toInt = y_23.toInt := congrArg Int32.toInt (ey_46.trans (ey_23.symm))
      refine lv_iconst (v := 1) hx hb dX12_worked_43 (by decide) ?_
      refine lv_icmp_ne (tgt := 91) hx hb dX12_worked_44 (by decide) (fun c_48 => ?_) (fun c_48 => ?_)
      · have c_48 : y_46.toInt ≠ 1 := xI_ne rfl rfl c_48
        refine lv_aload_n hx hb dX12_worked_91 rfl (lv_at hl 2 rfl) ?_
        refine S_getR (n := 72) (C := RX12) (T := TX12) (N := 89) hx hb hg iX12 hown hK hW kd_66 rfl 14 (by decide) (hg (Cond.fieldLink RX12 30 "SlabWalkModel" "step" "[I") m1328) (fun _ h9 => h9) rfl dX12_worked_92 ?_
        refine lv_iload hx hb dX12_worked_95 (lv_at hl 0 rfl) ?_
        refine S_iald hx hb hK hW kd_72 (vin (by omega) (by omega)) dX12_worked_97 (fun y_49 ey_49 => ?_)
        have u_50 : y_49.toInt = y_46.toInt := congrArg Int32.toInt (ey_49.trans (ey_46.symm))
        refine lv_iconst (v := 2) hx hb dX12_worked_98 (by decide) ?_
        refine lv_icmp_ne (tgt := 132) hx hb dX12_worked_99 (by decide) (fun c_51 => ?_) (fun c_51 => ?_)
        · have c_51 : y_49.toInt ≠ 2 := xI_ne rfl rfl c_51
          obtain ⟨y_52, ey_52⟩ : ∃ q, q = x_9 + (-1) := ⟨_, rfl⟩
          have ty_52 : y_52.toInt = x_9.toInt + (-1) := xI_add rfl rfl ey_52 (by omega) (by omega)
          refine lv_iinc (v := y_52) (lv' := [(3, .int y_52), (4, .int x_8), (0, .ref (a 66)), (1, .int p0), (2, .int p1)]) hx hb dX12_worked_132 hl (k := 1) rfl (by rw [ey_52]; rfl) (by decide) rfl (fun ls hl => ?_)
          refine lv_aload_n hx hb dX12_worked_135 rfl (lv_at hl 2 rfl) ?_
          refine S_getR (n := 76) (C := RX12) (T := TX12) (N := 89) hx hb hg iX12 hown hK hW kd_66 rfl 18 (by decide) (hg (Cond.fieldLink RX12 42 "SlabWalkModel" "values" "[I") m1332) (fun _ h9 => h9) rfl dX12_worked_136 ?_
          refine lv_iload_n hx hb dX12_worked_139 rfl (lv_at hl 0 rfl) ?_
          refine lv_iconst (v := 1) hx hb dX12_worked_140 (by decide) ?_
          refine lv_isub hx hb dX12_worked_141 ?_
          refine lv_topi (fun y_53 ey_53 => ?_)
          have ty_53 : y_53.toInt = y_52.toInt - 1 := xI_sub rfl rfl ey_53 (by omega) (by omega)
          refine lv_aload_n hx hb dX12_worked_142 rfl (lv_at hl 2 rfl) ?_
          refine S_getR (n := 73) (C := RX12) (T := TX12) (N := 89) hx hb hg iX12 hown hK hW kd_66 rfl 15 (by decide) (hg (Cond.fieldLink RX12 33 "SlabWalkModel" "arg" "[I") m1329) (fun _ h9 => h9) rfl dX12_worked_143 ?_
          refine lv_iload hx hb dX12_worked_146 (lv_at hl 1 rfl) ?_
          refine S_iald hx hb hK hW kd_73 (vin (by omega) (by omega)) dX12_worked_148 (fun y_54 ey_54 => ?_)
          have u_55 : y_54.toInt = (G.1 73 x_8.toNatClampNeg).toInt := congrArg Int32.toInt (ey_54.trans ((hq_5.ri 73 (by decide) (by decide) x_8.toNatClampNeg)))
          refine lv_aload_n hx hb dX12_worked_149 rfl (lv_at hl 2 rfl) ?_
          refine S_getR (n := 76) (C := RX12) (T := TX12) (N := 89) hx hb hg iX12 hown hK hW kd_66 rfl 18 (by decide) (hg (Cond.fieldLink RX12 42 "SlabWalkModel" "values" "[I") m1332) (fun _ h9 => h9) rfl dX12_worked_150 ?_
          refine lv_iload_n hx hb dX12_worked_153 rfl (lv_at hl 0 rfl) ?_
          refine lv_iconst (v := 1) hx hb dX12_worked_154 (by decide) ?_
          refine lv_isub hx hb dX12_worked_155 ?_
          refine lv_topi (fun y_56 ey_56 => ?_)
          have ty_56 : y_56.toInt = y_52.toInt - 1 := xI_sub rfl rfl ey_56 (by omega) (by omega)
          refine S_iald hx hb hK hW kd_76 (vin (by omega) (by omega)) dX12_worked_156 (fun y_57 ey_57 => ?_)
          have u_58 : y_57.toInt = (G_4.1 76 y_56.toNatClampNeg).toInt := congrArg Int32.toInt (ey_57)
          refine lv_aload_n hx hb dX12_worked_157 rfl (lv_at hl 2 rfl) ?_
          refine S_getR (n := 76) (C := RX12) (T := TX12) (N := 89) hx hb hg iX12 hown hK hW kd_66 rfl 18 (by decide) (hg (Cond.fieldLink RX12 42 "SlabWalkModel" "values" "[I") m1332) (fun _ h9 => h9) rfl dX12_worked_158 ?_
          refine lv_iload_n hx hb dX12_worked_161 rfl (lv_at hl 0 rfl) ?_
          refine S_iald hx hb hK hW kd_76 (vin (by omega) (by omega)) dX12_worked_162 (fun y_59 ey_59 => ?_)
          have u_60 : y_59.toInt = (G_4.1 76 y_52.toNatClampNeg).toInt := congrArg Int32.toInt (ey_59)
          refine S_calli (va_runS (As := [.int y_54, .int y_57, .int y_59]) (rest := [.int y_53, .ref (a 76)]) ⟨hx, hb, hml, hown, hts⟩ (n_done l D k A a z G_4 y_54 y_57 y_59 ) (va_cwS 3 hts (gd_S hgd m1815 m1816 m131 m1817) rfl rfl rfl (by decide +kernel) ⟨Nat.le_of_ble_eq_true rfl, Nat.le_of_ble_eq_true rfl⟩) (pre_S hW hB_G_4 hK hZ hS) rfl rfl hl.1 rfl (lv_room (Nat.le_of_ble_eq_true rfl)) dX12_worked_163 ⟨Nat.le_of_ble_eq_true rfl, Nat.le_of_ble_eq_true rfl⟩) hS (fun r_61 G_62 H locs hpo hW hS => ?_)
          obtain ⟨hB_G_62, hq_63⟩ := hpo
          have hF := hF.call hq_63 (by decide) (by decide)
          refine S_iast hx hb hK hW hS kd_76 (vin (by omega) (by omega)) dX12_worked_166 (fun G_65 H locs eG_65 hW hS => ?_)
          have hB_G_65 : Bd G_65 := hB_G_62.put (lo := (-2147483648)) (hi := 2147483647) eG_65 rfl rfl rfl (tI_rng _).1 (tI_rng _).2 (hB_G_62.2.put eG_65 rfl)
          have hF := hF.put eG_65 (Or.inl (by decide))
          obtain ⟨y_66, ey_66⟩ : ∃ q, q = x_8 + 1 := ⟨_, rfl⟩
          have ty_66 : y_66.toInt = x_8.toInt + 1 := xI_add rfl rfl ey_66 (by omega) (by omega)
          refine lv_iinc (v := y_66) (lv' := [(4, .int y_66), (3, .int y_52), (0, .ref (a 66)), (1, .int p0), (2, .int p1)]) hx hb dX12_worked_167 hl (k := 1) rfl (by rw [ey_66]; rfl) (by decide) rfl (fun ls hl => ?_)
          have u_67 : dpK (G.1 72) (320 * p0.toInt) y_66.toInt = dpK (G.1 72) (320 * p0.toInt) (x_8.toInt + 1) := by rw [ty_66]
          refine lv_goto (tgt := 9) hx hb dX12_worked_170 (by decide) ?_
          exact ih_6 (1920 - y_66.toInt : Int).toNat (by omega) _ _ _ ⟨G_65, y_66, y_52, (Int.toNat_of_nonneg (by omega)), ⟨by omega, by omega⟩, ⟨by omega, by omega⟩, (by omega), (by omega), (by omega), hW, hB_G_65, hF, (((Fr.rf.call hq_5 (by decide) (by decide)).call hq_63 (by decide) (by decide)).put eG_65 (Or.inl (by decide))), hS, lv_sub hl [0, 1, 2, 3, 4] rfl⟩
        · have c_51 : y_49.toInt = 2 := xI_eq rfl rfl c_51
          refine lv_aload_n hx hb dX12_worked_102 rfl (lv_at hl 2 rfl) ?_
          refine S_getR (n := 76) (C := RX12) (T := TX12) (N := 89) hx hb hg iX12 hown hK hW kd_66 rfl 18 (by decide) (hg (Cond.fieldLink RX12 42 "SlabWalkModel" "values" "[I") m1332) (fun _ h9 => h9) rfl dX12_worked_103 ?_
          refine lv_iload_n hx hb dX12_worked_106 rfl (lv_at hl 1 rfl) ?_
          refine lv_iconst (v := 1) hx hb dX12_worked_107 (by decide) ?_
          refine lv_isub hx hb dX12_worked_108 ?_
          refine lv_topi (fun y_68 ey_68 => ?_)
          have ty_68 : y_68.toInt = x_9.toInt - 1 := xI_sub rfl rfl ey_68 (by omega) (by omega)
          refine lv_aload_n hx hb dX12_worked_109 rfl (lv_at hl 2 rfl) ?_
          refine S_getR (n := 76) (C := RX12) (T := TX12) (N := 89) hx hb hg iX12 hown hK hW kd_66 rfl 18 (by decide) (hg (Cond.fieldLink RX12 42 "SlabWalkModel" "values" "[I") m1332) (fun _ h9 => h9) rfl dX12_worked_110 ?_
          refine lv_iload_n hx hb dX12_worked_113 rfl (lv_at hl 1 rfl) ?_
          refine lv_iconst (v := 1) hx hb dX12_worked_114 (by decide) ?_
          refine lv_isub hx hb dX12_worked_115 ?_
          refine lv_topi (fun y_69 ey_69 => ?_)
          have ty_69 : y_69.toInt = x_9.toInt - 1 := xI_sub rfl rfl ey_69 (by omega) (by omega)
          refine S_iald hx hb hK hW kd_76 (vin (by omega) (by omega)) dX12_worked_116 (fun y_70 ey_70 => ?_)
          have u_71 : y_70.toInt = (G_4.1 76 y_69.toNatClampNeg).toInt := congrArg Int32.toInt (ey_70)
          refine lv_if_ne (tgt := 124) hx hb dX12_worked_117 (by decide) (fun c_72 => ?_) (fun c_72 => ?_)
          · have c_72 : y_70.toInt ≠ 0 := xI_ne rfl rfl c_72
            refine lv_iconst (v := 0) hx hb dX12_worked_124 (by decide) ?_
            have qc_73 : (0 : Int32).toInt = 0 := rfl
            refine S_calli (va_runS (As := [.int 0]) (rest := [.int y_68, .ref (a 76)]) ⟨hx, hb, hml, hown, hts⟩ (n_truth l D k A a z G_4 0 ⟨by decide, by decide⟩) (va_cwS 1 hts (gd_S hgd m1788 m1789 m131 m1790) rfl rfl rfl (by decide +kernel) ⟨Nat.le_of_ble_eq_true rfl, Nat.le_of_ble_eq_true rfl⟩) (pre_S hW hB_G_4 hK hZ hS) rfl rfl hl.1 rfl (lv_room (Nat.le_of_ble_eq_true rfl)) dX12_worked_125 ⟨Nat.le_of_ble_eq_true rfl, Nat.le_of_ble_eq_true rfl⟩) hS (fun r_74 G_75 H locs hpo hW hS => ?_)
            obtain ⟨hB_G_75, hq_76, f_78, hp_77, -⟩ := hpo
            have hF := hF.call hq_76 (by decide) (by decide)
            refine S_iast hx hb hK hW hS kd_76 (vin (by omega) (by omega)) dX12_worked_128 (fun G_79 H locs eG_79 hW hS => ?_)
            have hB_G_79 : Bd G_79 := hB_G_75.put (lo := (-2147483648)) (hi := 2147483647) eG_79 rfl rfl rfl (tI_rng _).1 (tI_rng _).2 (hB_G_75.2.put eG_79 rfl)
            have hF := hF.put eG_79 (Or.inl (by decide))
            refine lv_goto (tgt := 167) hx hb dX12_worked_129 (by decide) ?_
            obtain ⟨y_80, ey_80⟩ : ∃ q, q = x_8 + 1 := ⟨_, rfl⟩
            have ty_80 : y_80.toInt = x_8.toInt + 1 := xI_add rfl rfl ey_80 (by omega) (by omega)
            refine lv_iinc (v := y_80) (lv' := [(4, .int y_80), (3, .int x_9), (0, .ref (a 66)), (1, .int p0), (2, .int p1)]) hx hb dX12_worked_167 hl (k := 0) rfl (by rw [ey_80]; rfl) (by decide) rfl (fun ls hl => ?_)
            have u_81 : dpK (G.1 72) (320 * p0.toInt) y_80.toInt = dpK (G.1 72) (320 * p0.toInt) (x_8.toInt + 1) := by rw [ty_80]
            refine lv_goto (tgt := 9) hx hb dX12_worked_170 (by decide) ?_
            exact ih_6 (1920 - y_80.toInt : Int).toNat (by omega) _ _ _ ⟨G_79, y_80, x_9, (Int.toNat_of_nonneg (by omega)), ⟨by omega, by omega⟩, ⟨by omega, by omega⟩, (by omega), (by omega), (by omega), hW, hB_G_79, hF, (((Fr.rf.call hq_5 (by decide) (by decide)).call hq_76 (by decide) (by decide)).put eG_79 (Or.inl (by decide))), hS, lv_sub hl [0, 1, 2, 3, 4] rfl⟩
          · have c_72 : y_70.toInt = 0 := xI_eq rfl rfl c_72
            refine lv_iconst (v := 1) hx hb dX12_worked_120 (by decide) ?_
            refine lv_goto (tgt := 125) hx hb dX12_worked_121 (by decide) ?_
            have qc_82 : (1 : Int32).toInt = 1 := rfl
            refine S_calli (va_runS (As := [.int 1]) (rest := [.int y_68, .ref (a 76)]) ⟨hx, hb, hml, hown, hts⟩ (n_truth l D k A a z G_4 1 ⟨by decide, by decide⟩) (va_cwS 1 hts (gd_S hgd m1788 m1789 m131 m1790) rfl rfl rfl (by decide +kernel) ⟨Nat.le_of_ble_eq_true rfl, Nat.le_of_ble_eq_true rfl⟩) (pre_S hW hB_G_4 hK hZ hS) rfl rfl hl.1 rfl (lv_room (Nat.le_of_ble_eq_true rfl)) dX12_worked_125 ⟨Nat.le_of_ble_eq_true rfl, Nat.le_of_ble_eq_true rfl⟩) hS (fun r_83 G_84 H locs hpo hW hS => ?_)
            obtain ⟨hB_G_84, hq_85, f_87, hp_86, -⟩ := hpo
            have hF := hF.call hq_85 (by decide) (by decide)
            refine S_iast hx hb hK hW hS kd_76 (vin (by omega) (by omega)) dX12_worked_128 (fun G_88 H locs eG_88 hW hS => ?_)
            have hB_G_88 : Bd G_88 := hB_G_84.put (lo := (-2147483648)) (hi := 2147483647) eG_88 rfl rfl rfl (tI_rng _).1 (tI_rng _).2 (hB_G_84.2.put eG_88 rfl)
            have hF := hF.put eG_88 (Or.inl (by decide))
            refine lv_goto (tgt := 167) hx hb dX12_worked_129 (by decide) ?_
            obtain ⟨y_89, ey_89⟩ : ∃ q, q = x_8 + 1 := ⟨_, rfl⟩
            have ty_89 : y_89.toInt = x_8.toInt + 1 := xI_add rfl rfl ey_89 (by omega) (by omega)
            refine lv_iinc (v := y_89) (lv' := [(4, .int y_89), (3, .int x_9), (0, .ref (a 66)), (1, .int p0), (2, .int p1)]) hx hb dX12_worked_167 hl (k := 0) rfl (by rw [ey_89]; rfl) (by decide) rfl (fun ls hl => ?_)
            have u_90 : dpK (G.1 72) (320 * p0.toInt) y_89.toInt = dpK (G.1 72) (320 * p0.toInt) (x_8.toInt + 1) := by rw [ty_89]
            refine lv_goto (tgt := 9) hx hb dX12_worked_170 (by decide) ?_
            exact ih_6 (1920 - y_89.toInt : Int).toNat (by omega) _ _ _ ⟨G_88, y_89, x_9, (Int.toNat_of_nonneg (by omega)), ⟨by omega, by omega⟩, ⟨by omega, by omega⟩, (by omega), (by omega), (by omega), hW, hB_G_88, hF, (((Fr.rf.call hq_5 (by decide) (by decide)).call hq_85 (by decide) (by decide)).put eG_88 (Or.inl (by decide))), hS, lv_sub hl [0, 1, 2, 3, 4] rfl⟩
      · have c_48 : y_46.toInt = 1 := xI_eq rfl rfl c_48
        refine lv_aload_n hx hb dX12_worked_47 rfl (lv_at hl 2 rfl) ?_
        refine S_getR (n := 76) (C := RX12) (T := TX12) (N := 89) hx hb hg iX12 hown hK hW kd_66 rfl 18 (by decide) (hg (Cond.fieldLink RX12 42 "SlabWalkModel" "values" "[I") m1332) (fun _ h9 => h9) rfl dX12_worked_48 ?_
        refine lv_iload_n hx hb dX12_worked_51 rfl (lv_at hl 1 rfl) ?_
        refine lv_aload_n hx hb dX12_worked_52 rfl (lv_at hl 2 rfl) ?_
        refine S_getR (n := 72) (C := RX12) (T := TX12) (N := 89) hx hb hg iX12 hown hK hW kd_66 rfl 14 (by decide) (hg (Cond.fieldLink RX12 30 "SlabWalkModel" "step" "[I") m1328) (fun _ h9 => h9) rfl dX12_worked_53 ?_
        refine lv_iload hx hb dX12_worked_56 (lv_at hl 0 rfl) ?_
        refine S_iald hx hb hK hW kd_72 (vin (by omega) (by omega)) dX12_worked_58 (fun y_91 ey_91 => ?_)
        have u_92 : y_91.toInt = y_46.toInt := congrArg Int32.toInt (ey_91.trans (ey_46.symm))
        refine lv_if_ne (tgt := 72) hx hb dX12_worked_59 (by decide) (fun c_93 => ?_) (fun c_93 => ?_)
        · have c_93 : y_91.toInt ≠ 0 := xI_ne rfl rfl c_93
          refine lv_aload_n hx hb dX12_worked_72 rfl (lv_at hl 2 rfl) ?_
          refine lv_iload_n hx hb dX12_worked_73 rfl (lv_at hl 4 rfl) ?_
          refine lv_aload_n hx hb dX12_worked_74 rfl (lv_at hl 2 rfl) ?_
          refine S_getR (n := 73) (C := RX12) (T := TX12) (N := 89) hx hb hg iX12 hown hK hW kd_66 rfl 15 (by decide) (hg (Cond.fieldLink RX12 33 "SlabWalkModel" "arg" "[I") m1329) (fun _ h9 => h9) rfl dX12_worked_75 ?_
          refine lv_iload hx hb dX12_worked_78 (lv_at hl 0 rfl) ?_
          refine S_iald hx hb hK hW kd_73 (vin (by omega) (by omega)) dX12_worked_80 (fun y_94 ey_94 => ?_)
          have u_95 : y_94.toInt = (G.1 73 x_8.toNatClampNeg).toInt := congrArg Int32.toInt (ey_94.trans ((hq_5.ri 73 (by decide) (by decide) x_8.toNatClampNeg)))
          refine S_calli (va_runV (As := [.int p1, .int y_94]) (rest := [.int x_9, .ref (a 76)]) ⟨hx, hb, hml, hown, hts⟩ (n_askOf l D k A a z G_4 p1 y_94 ⟨by omega, by omega⟩) (cwV 2 hts (gd_V hgd m1811 m1813 m88 m131 m1814) rfl rfl rfl (by decide +kernel) ⟨Nat.le_of_ble_eq_true rfl, Nat.le_of_ble_eq_true rfl⟩) (pre_V hW hB_G_4 hK hZ hS kd_66 rfl) rfl rfl hl.1 rfl (lv_room (Nat.le_of_ble_eq_true rfl)) dX12_worked_81 ⟨Nat.le_of_ble_eq_true rfl, Nat.le_of_ble_eq_true rfl⟩) hS (fun r_96 G_97 H locs hpo hW hS => ?_)
          obtain ⟨hB_G_97, hq_98⟩ := hpo
          have hF := hF.call hq_98 (by decide) (by decide)
          refine S_iast hx hb hK hW hS kd_76 (vin (by omega) (by omega)) dX12_worked_84 (fun G_100 H locs eG_100 hW hS => ?_)
          have hB_G_100 : Bd G_100 := hB_G_97.put (lo := (-2147483648)) (hi := 2147483647) eG_100 rfl rfl rfl (tI_rng _).1 (tI_rng _).2 (hB_G_97.2.put eG_100 rfl)
          have hF := hF.put eG_100 (Or.inl (by decide))
          obtain ⟨y_101, ey_101⟩ : ∃ q, q = x_9 + 1 := ⟨_, rfl⟩
          have ty_101 : y_101.toInt = x_9.toInt + 1 := xI_add rfl rfl ey_101 (by omega) (by omega)
          refine lv_iinc (v := y_101) (lv' := [(3, .int y_101), (4, .int x_8), (0, .ref (a 66)), (1, .int p0), (2, .int p1)]) hx hb dX12_worked_85 hl (k := 1) rfl (by rw [ey_101]; rfl) (by decide) rfl (fun ls hl => ?_)
          refine lv_goto (tgt := 167) hx hb dX12_worked_88 (by decide) ?_
          obtain ⟨y_102, ey_102⟩ : ∃ q, q = x_8 + 1 := ⟨_, rfl⟩
          have ty_102 : y_102.toInt = x_8.toInt + 1 := xI_add rfl rfl ey_102 (by omega) (by omega)
          refine lv_iinc (v := y_102) (lv' := [(4, .int y_102), (3, .int y_101), (0, .ref (a 66)), (1, .int p0), (2, .int p1)]) hx hb dX12_worked_167 hl (k := 1) rfl (by rw [ey_102]; rfl) (by decide) rfl (fun ls hl => ?_)
          have u_103 : dpK (G.1 72) (320 * p0.toInt) y_102.toInt = dpK (G.1 72) (320 * p0.toInt) (x_8.toInt + 1) := by rw [ty_102]
          refine lv_goto (tgt := 9) hx hb dX12_worked_170 (by decide) ?_
          exact ih_6 (1920 - y_102.toInt : Int).toNat (by omega) _ _ _ ⟨G_100, y_102, y_101, (Int.toNat_of_nonneg (by omega)), ⟨by omega, by omega⟩, ⟨by omega, by omega⟩, (by omega), (by omega), (by omega), hW, hB_G_100, hF, (((Fr.rf.call hq_5 (by decide) (by decide)).call hq_98 (by decide) (by decide)).put eG_100 (Or.inl (by decide))), hS, lv_sub hl [0, 1, 2, 3, 4] rfl⟩
        · have c_93 : y_91.toInt = 0 := xI_eq rfl rfl c_93
          refine lv_aload_n hx hb dX12_worked_62 rfl (lv_at hl 2 rfl) ?_
          refine S_getR (n := 73) (C := RX12) (T := TX12) (N := 89) hx hb hg iX12 hown hK hW kd_66 rfl 15 (by decide) (hg (Cond.fieldLink RX12 33 "SlabWalkModel" "arg" "[I") m1329) (fun _ h9 => h9) rfl dX12_worked_63 ?_
          refine lv_iload hx hb dX12_worked_66 (lv_at hl 0 rfl) ?_
          refine S_iald hx hb hK hW kd_73 (vin (by omega) (by omega)) dX12_worked_68 (fun y_104 ey_104 => ?_)
          have u_105 : y_104.toInt = (G.1 73 x_8.toNatClampNeg).toInt := congrArg Int32.toInt (ey_104.trans ((hq_5.ri 73 (by decide) (by decide) x_8.toNatClampNeg)))
          refine lv_goto (tgt := 84) hx hb dX12_worked_69 (by decide) ?_
          refine S_iast hx hb hK hW hS kd_76 (vin (by omega) (by omega)) dX12_worked_84 (fun G_106 H locs eG_106 hW hS => ?_)
          have hB_G_106 : Bd G_106 := hB_G_4.put (lo := (-2147483648)) (hi := 2147483647) eG_106 rfl rfl rfl (tI_rng _).1 (tI_rng _).2 (hB_G_4.2.put eG_106 rfl)
          have hF := hF.put eG_106 (Or.inl (by decide))
          obtain ⟨y_107, ey_107⟩ : ∃ q, q = x_9 + 1 := ⟨_, rfl⟩
          have ty_107 : y_107.toInt = x_9.toInt + 1 := xI_add rfl rfl ey_107 (by omega) (by omega)
          refine lv_iinc (v := y_107) (lv' := [(3, .int y_107), (4, .int x_8), (0, .ref (a 66)), (1, .int p0), (2, .int p1)]) hx hb dX12_worked_85 hl (k := 1) rfl (by rw [ey_107]; rfl) (by decide) rfl (fun ls hl => ?_)
          refine lv_goto (tgt := 167) hx hb dX12_worked_88 (by decide) ?_
          obtain ⟨y_108, ey_108⟩ : ∃ q, q = x_8 + 1 := ⟨_, rfl⟩
          have ty_108 : y_108.toInt = x_8.toInt + 1 := xI_add rfl rfl ey_108 (by omega) (by omega)
          refine lv_iinc (v := y_108) (lv' := [(4, .int y_108), (3, .int y_107), (0, .ref (a 66)), (1, .int p0), (2, .int p1)]) hx hb dX12_worked_167 hl (k := 1) rfl (by rw [ey_108]; rfl) (by decide) rfl (fun ls hl => ?_)
          have u_109 : dpK (G.1 72) (320 * p0.toInt) y_108.toInt = dpK (G.1 72) (320 * p0.toInt) (x_8.toInt + 1) := by rw [ty_108]
          refine lv_goto (tgt := 9) hx hb dX12_worked_170 (by decide) ?_
          exact ih_6 (1920 - y_108.toInt : Int).toNat (by omega) _ _ _ ⟨G_106, y_108, y_107, (Int.toNat_of_nonneg (by omega)), ⟨by omega, by omega⟩, ⟨by omega, by omega⟩, (by omega), (by omega), (by omega), hW, hB_G_106, hF, ((Fr.rf.call hq_5 (by decide) (by decide)).put eG_106 (Or.inl (by decide))), hS, lv_sub hl [0, 1, 2, 3, 4] rfl⟩

set_option maxHeartbeats 4000000 in
set_option maxRecDepth 100000 in
theorem n_isLine (l : Launch) (D : va_G) (k : KT) (A : Nat → Prop) (a : Nat → Nat) (z : SK) (G : GS) (p0 : Int32) (p1 : Int32) (p2 : Int32) (ha_p0 : 0 ≤ p0.toInt ∧ p0.toInt ≤ 2) (ha_p2 : 0 ≤ p2.toInt ∧ p2.toInt ≤ 399) (hP9 : gP G = 1) : Met l yX12_isLine (WS yX12_isLine cX12_isLine 7 (some .boolean)) ({ frames := 3, cells := 0, slots := 0, locals := 66 }) (va_Pc [.ref (a 66), .int p0, .int p1, .int p2] (cW D k A a z G)) (va_Qi (fun (r : Int32) (G1 : GS) => Bd G1 ∧ Fr [76] [] G G1 ∧ (0 ≤ r.toInt ∧ r.toInt ≤ 1)) (fun (G1 : GS) t => Wd D k A a G1 t.heap) A) 0 0 A := by
  refine Met.ofW (cc := cX12_isLine) (maxL := 7) (ret := (some .boolean)) (by decide) rfl ?_
  intro p e s m args below meth c s₁ B hml hv
  obtain ⟨rfl, hW, hB_G, hK, hZ⟩ := hv
  have hx := B.exec
  have hb := B.bytes
  have hr := B.returns
  have hts := atoms_spec (ws := WS yX12_isLine cX12_isLine 7 (some .boolean)) B.pre
  have hgd : ∀ w ∈ gd, w ∈ WS yX12_isLine cX12_isLine 7 (some .boolean) := fun w h => List.mem_cons_of_mem _ h
  have hg : ∀ w ∈ gd, w.before _ s = true := fun w h => hts w (hgd w h)
  have hown : s.vm.findClass RX12 = some m.cls := findClass_of_methodNamed B.named
  have hS : va_S A s.heap s.heap [] := va_S.rf
  have hF : Fr [76] [] G G := Fr.rf
  have hl := lv_entry ([.ref (a 66), .int p0, .int p1, .int p2]) (n := 7) (Nat.le_of_ble_eq_true rfl)
  rw [lg_entry_eq]
  generalize (lg_sl ([.ref (a 66), .int p0, .int p1, .int p2]) ++ List.replicate (7 - (lg_sl ([.ref (a 66), .int p0, .int p1, .int p2])).length) Slot.unset).toArray = ls at hl ⊢
  have hl : lv_has ls 7 [(0, .ref (a 66)), (1, .int p0), (2, .int p1), (3, .int p2)] := hl
  refine lv_sipush (v := 400) hx hb dX12_isLine_0 (by decide) ?_
  refine lv_iload_n hx hb dX12_isLine_3 rfl (lv_at hl 1 rfl) ?_
  refine lv_imul hx hb dX12_isLine_4 ?_
  refine lv_topi (fun y_1 ey_1 => ?_)
  have ty_1 : y_1.toInt = 400 * p0.toInt := xI_mul rfl rfl ey_1 (by omega) (by omega)
  refine lv_iload_n hx hb dX12_isLine_5 rfl (lv_at hl 3 rfl) ?_
  refine lv_iadd hx hb dX12_isLine_6 ?_
  refine lv_topi (fun y_2 ey_2 => ?_)
  have ty_2 : y_2.toInt = y_1.toInt + p2.toInt := xI_add rfl rfl ey_2 (by omega) (by omega)
  refine lv_istore (lv' := [(4, .int y_2), (0, .ref (a 66)), (1, .int p0), (2, .int p1), (3, .int p2)]) hx hb dX12_isLine_7 hl (by decide) rfl (fun ls hl => ?_)
  refine lv_iload_n hx hb dX12_isLine_9 rfl (lv_at hl 3 rfl) ?_
  refine lv_if_ne (tgt := 42) hx hb dX12_isLine_10 (by decide) (fun c_3 => ?_) (fun c_3 => ?_)
  · have c_3 : p1.toInt ≠ 0 := xI_ne rfl rfl c_3
    refine lv_iconst (v := 0) hx hb dX12_isLine_42 (by decide) ?_
    refine lv_istore (lv' := [(5, .int 0), (4, .int y_2), (0, .ref (a 66)), (1, .int p0), (2, .int p1), (3, .int p2)]) hx hb dX12_isLine_43 hl (by decide) rfl (fun ls hl => ?_)
    refine lv_iconst (v := 0) hx hb dX12_isLine_45 (by decide) ?_
    refine lv_istore (lv' := [(6, .int 0), (5, .int 0), (4, .int y_2), (0, .ref (a 66)), (1, .int p0), (2, .int p1), (3, .int p2)]) hx hb dX12_isLine_46 hl (by decide) rfl (fun ls hl => ?_)
    have qc_10 : (0 : Int32).toInt = 0 := rfl
    refine loop_N (Inv := fun n H locs ls => ∃ (G_4 : GS) (x_8 : Int32) (x_9 : Int32), (n : Int) = 6 - x_8.toInt ∧ (0 ≤ x_8.toInt ∧ x_8.toInt ≤ 6) ∧ (0 ≤ x_9.toInt ∧ x_9.toInt ≤ 1) ∧ Wd D k A a G_4 H ∧ Bd G_4 ∧ Fr [76] [] G G_4 ∧ Fr [76] [] G G_4 ∧ va_S A s.heap H locs ∧ lv_has ls 7 [(6, .int x_8), (5, .int x_9), (4, .int y_2), (0, .ref (a 66)), (2, .int p1)]) (fun n_7 H locs ls ih_6 hI => ?_) (6 - 0 : Int).toNat ⟨G, 0, 0, (Int.toNat_of_nonneg (by omega)), ⟨by omega, by omega⟩, ⟨by omega, by omega⟩, hW, hB_G, hF, Fr.rf, hS, lv_sub hl [0, 1, 2, 3, 5] rfl⟩
    obtain ⟨G_4, x_8, x_9, hn_13, f_11, f_12, hW, hB_G_4, hF, hq_5, hS, hl⟩ := hI
    refine lv_iload hx hb dX12_isLine_48 (lv_at hl 0 rfl) ?_
    refine lv_aload_n hx hb dX12_isLine_50 rfl (lv_at hl 3 rfl) ?_
    have b_14 : 0 ≤ (G.1 66 54).toInt ∧ (G.1 66 54).toInt ≤ 6 := hB_G.i 66 54 rfl rfl
    refine S_getI (v := (G.1 66 54)) (C := RX12) (T := TX12) (N := 89) hx hb hg iX12 hown hK hW kd_66 rfl 54 (by decide) (hg (Cond.fieldLink RX12 431 "SlabWalkModel" "rules" "I") m1368) (fun _ h9 => h9) rfl (hq_5.i 66 54 (by decide) (by decide)) dX12_isLine_51 ?_
    refine lv_icmp_ge (tgt := 96) hx hb dX12_isLine_54 (by decide) (fun c_15 => ?_) (fun c_15 => ?_)
    · have c_15 : (G.1 66 54).toInt ≤ x_8.toInt := xI_le rfl rfl c_15
      refine lv_iload hx hb dX12_isLine_96 (lv_at hl 1 rfl) ?_
      exact W.zret (v := x_9) hx hb hr (nar_z (by omega) (by omega)) (fun t ht _ => ⟨⟨x_9, G_4, rfl, ⟨hB_G_4, hF, ⟨by omega, by omega⟩⟩, wd_t ht hW⟩, hS.F ht⟩) hS.2.2 dX12_isLine_98
    · have c_15 : x_8.toInt < (G.1 66 54).toInt := xI_nle rfl rfl c_15
      refine lv_iload hx hb dX12_isLine_57 (lv_at hl 1 rfl) ?_
      refine lv_if_ne (tgt := 96) hx hb dX12_isLine_59 (by decide) (fun c_16 => ?_) (fun c_16 => ?_)
      · have c_16 : x_9.toInt ≠ 0 := xI_ne rfl rfl c_16
        refine lv_iload hx hb dX12_isLine_96 (lv_at hl 1 rfl) ?_
        exact W.zret (v := x_9) hx hb hr (nar_z (by omega) (by omega)) (fun t ht _ => ⟨⟨x_9, G_4, rfl, ⟨hB_G_4, hF, ⟨by omega, by omega⟩⟩, wd_t ht hW⟩, hS.F ht⟩) hS.2.2 dX12_isLine_98
      · have c_16 : x_9.toInt = 0 := xI_eq rfl rfl c_16
        refine lv_iload_n hx hb dX12_isLine_62 rfl (lv_at hl 4 rfl) ?_
        refine lv_iload hx hb dX12_isLine_63 (lv_at hl 0 rfl) ?_
        refine lv_ishr hx hb dX12_isLine_65 ?_
        refine lv_topi (fun y_17 ey_17 => ?_)
        refine lv_iconst (v := 1) hx hb dX12_isLine_66 (by decide) ?_
        refine lv_iand hx hb dX12_isLine_67 ?_
        refine lv_topi (fun y_18 ey_18 => ?_)
        have ty_18 := xI_and (Y := 1) rfl ey_18 (by decide)
        refine lv_iconst (v := 1) hx hb dX12_isLine_68 (by decide) ?_
        refine lv_icmp_ne (tgt := 87) hx hb dX12_isLine_69 (by decide) (fun c_19 => ?_) (fun c_19 => ?_)
        · have c_19 : y_18.toInt ≠ 1 := xI_ne rfl rfl c_19
          refine lv_iconst (v := 0) hx hb dX12_isLine_87 (by decide) ?_
          refine lv_istore (lv' := [(5, .int 0), (6, .int x_8), (4, .int y_2), (0, .ref (a 66)), (2, .int p1)]) hx hb dX12_isLine_88 hl (by decide) rfl (fun ls hl => ?_)
          obtain ⟨y_20, ey_20⟩ : ∃ q, q = x_8 + 1 := ⟨_, rfl⟩
          have ty_20 : y_20.toInt = x_8.toInt + 1 := xI_add rfl rfl ey_20 (by omega) (by omega)
          refine lv_iinc (v := y_20) (lv' := [(6, .int y_20), (5, .int 0), (4, .int y_2), (0, .ref (a 66)), (2, .int p1)]) hx hb dX12_isLine_90 hl (k := 1) rfl (by rw [ey_20]; rfl) (by decide) rfl (fun ls hl => ?_)
          refine lv_goto (tgt := 48) hx hb dX12_isLine_93 (by decide) ?_
          have qc_21 : (0 : Int32).toInt = 0 := rfl
          exact ih_6 (6 - y_20.toInt : Int).toNat (by omega) _ _ _ ⟨G_4, y_20, 0, (Int.toNat_of_nonneg (by omega)), ⟨by omega, by omega⟩, ⟨by omega, by omega⟩, hW, hB_G_4, hF, (Fr.rf.call hq_5 (by decide) (by decide)), hS, lv_sub hl [0, 1, 2, 3, 4] rfl⟩
        · have c_19 : y_18.toInt = 1 := xI_eq rfl rfl c_19
          refine lv_aload_n hx hb dX12_isLine_72 rfl (lv_at hl 3 rfl) ?_
          refine lv_iload hx hb dX12_isLine_73 (lv_at hl 0 rfl) ?_
          refine lv_iload hx hb dX12_isLine_75 (lv_at hl 2 rfl) ?_
          have g_22 : gP G_4 = gP G := gP_fr (rs := [76]) (fs := []) (Fr.rf.call hq_5 (by decide) (by decide)) (by decide) (by decide)
          have g_23 : (G_4.1 66 54).toInt = (G.1 66 54).toInt := by rw [show G_4.1 66 54 = (G.1 66 54) from ((hq_5.i 66 54 (by decide) (by decide)).trans (rfl))]
          refine S_calli (va_runV (As := [.int x_8, .int y_2]) (rest := []) ⟨hx, hb, hml, hown, hts⟩ (n_worked l D k A a z G_4 x_8 y_2 ⟨by omega, by omega⟩ ⟨by omega, by omega⟩ (by omega) (by omega)) (cwV 2 hts (gd_V hgd m1807 m1809 m87 m131 m1810) rfl rfl rfl (by decide +kernel) ⟨Nat.le_of_ble_eq_true rfl, Nat.le_of_ble_eq_true rfl⟩) (pre_V hW hB_G_4 hK hZ hS kd_66 rfl) rfl rfl hl.1 rfl (lv_room (Nat.le_of_ble_eq_true rfl)) dX12_isLine_77 ⟨Nat.le_of_ble_eq_true rfl, Nat.le_of_ble_eq_true rfl⟩) hS (fun r_24 G_25 H locs hpo hW hS => ?_)
          obtain ⟨hB_G_25, hq_26⟩ := hpo
          have hF := hF.call hq_26 (by decide) (by decide)
          refine lv_if_eq (tgt := 87) hx hb dX12_isLine_80 (by decide) (fun c_28 => ?_) (fun c_28 => ?_)
          · have c_28 : r_24.toInt = 0 := xI_eq rfl rfl c_28
            refine lv_iconst (v := 0) hx hb dX12_isLine_87 (by decide) ?_
            refine lv_istore (lv' := [(5, .int 0), (6, .int x_8), (4, .int y_2), (0, .ref (a 66)), (2, .int p1)]) hx hb dX12_isLine_88 hl (by decide) rfl (fun ls hl => ?_)
            obtain ⟨y_29, ey_29⟩ : ∃ q, q = x_8 + 1 := ⟨_, rfl⟩
            have ty_29 : y_29.toInt = x_8.toInt + 1 := xI_add rfl rfl ey_29 (by omega) (by omega)
            refine lv_iinc (v := y_29) (lv' := [(6, .int y_29), (5, .int 0), (4, .int y_2), (0, .ref (a 66)), (2, .int p1)]) hx hb dX12_isLine_90 hl (k := 1) rfl (by rw [ey_29]; rfl) (by decide) rfl (fun ls hl => ?_)
            refine lv_goto (tgt := 48) hx hb dX12_isLine_93 (by decide) ?_
            have qc_30 : (0 : Int32).toInt = 0 := rfl
            exact ih_6 (6 - y_29.toInt : Int).toNat (by omega) _ _ _ ⟨G_25, y_29, 0, (Int.toNat_of_nonneg (by omega)), ⟨by omega, by omega⟩, ⟨by omega, by omega⟩, hW, hB_G_25, hF, ((Fr.rf.call hq_5 (by decide) (by decide)).call hq_26 (by decide) (by decide)), hS, lv_sub hl [0, 1, 2, 3, 4] rfl⟩
          · have c_28 : r_24.toInt ≠ 0 := xI_ne rfl rfl c_28
            refine lv_iconst (v := 1) hx hb dX12_isLine_83 (by decide) ?_
            refine lv_goto (tgt := 88) hx hb dX12_isLine_84 (by decide) ?_
            refine lv_istore (lv' := [(5, .int 1), (6, .int x_8), (4, .int y_2), (0, .ref (a 66)), (2, .int p1)]) hx hb dX12_isLine_88 hl (by decide) rfl (fun ls hl => ?_)
            obtain ⟨y_31, ey_31⟩ : ∃ q, q = x_8 + 1 := ⟨_, rfl⟩
            have ty_31 : y_31.toInt = x_8.toInt + 1 := xI_add rfl rfl ey_31 (by omega) (by omega)
            refine lv_iinc (v := y_31) (lv' := [(6, .int y_31), (5, .int 1), (4, .int y_2), (0, .ref (a 66)), (2, .int p1)]) hx hb dX12_isLine_90 hl (k := 1) rfl (by rw [ey_31]; rfl) (by decide) rfl (fun ls hl => ?_)
            refine lv_goto (tgt := 48) hx hb dX12_isLine_93 (by decide) ?_
            have qc_32 : (1 : Int32).toInt = 1 := rfl
            exact ih_6 (6 - y_31.toInt : Int).toNat (by omega) _ _ _ ⟨G_25, y_31, 1, (Int.toNat_of_nonneg (by omega)), ⟨by omega, by omega⟩, ⟨by omega, by omega⟩, hW, hB_G_25, hF, ((Fr.rf.call hq_5 (by decide) (by decide)).call hq_26 (by decide) (by decide)), hS, lv_sub hl [0, 1, 2, 3, 4] rfl⟩
  · have c_3 : p1.toInt = 0 := xI_eq rfl rfl c_3
    refine lv_aload_n hx hb dX12_isLine_13 rfl (lv_at hl 1 rfl) ?_
    refine S_getR (n := 87) (C := RX12) (T := TX12) (N := 89) hx hb hg iX12 hown hK hW kd_66 rfl 35 (by decide) (hg (Cond.fieldLink RX12 75 "SlabWalkModel" "marks" "[I") m1349) (fun _ h9 => h9) rfl dX12_isLine_14 ?_
    refine lv_iload hx hb dX12_isLine_17 (lv_at hl 0 rfl) ?_
    refine S_iald hx hb hK hW kd_87 (vin (by omega) (by omega)) dX12_isLine_19 (fun y_33 ey_33 => ?_)
    refine lv_if_lt (tgt := 36) hx hb dX12_isLine_20 (by decide) (fun c_34 => ?_) (fun c_34 => ?_)
    · have c_34 : y_33.toInt < 0 := xI_lt rfl rfl c_34
      refine lv_iconst (v := 1) hx hb dX12_isLine_36 (by decide) ?_
      refine lv_goto (tgt := 41) hx hb dX12_isLine_37 (by decide) ?_
      exact W.zret (v := 1) hx hb hr (by decide) (fun t ht _ => ⟨⟨1, G, rfl, ⟨hB_G, hF, ⟨by decide, by decide⟩⟩, wd_t ht hW⟩, hS.F ht⟩) hS.2.2 dX12_isLine_41
    · have c_34 : 0 ≤ y_33.toInt := xI_nlt rfl rfl c_34
      refine lv_aload_n hx hb dX12_isLine_23 rfl (lv_at hl 1 rfl) ?_
      refine S_getR (n := 87) (C := RX12) (T := TX12) (N := 89) hx hb hg iX12 hown hK hW kd_66 rfl 35 (by decide) (hg (Cond.fieldLink RX12 75 "SlabWalkModel" "marks" "[I") m1349) (fun _ h9 => h9) rfl dX12_isLine_24 ?_
      refine lv_iload hx hb dX12_isLine_27 (lv_at hl 0 rfl) ?_
      refine S_iald hx hb hK hW kd_87 (vin (by omega) (by omega)) dX12_isLine_29 (fun y_35 ey_35 => ?_)
      refine lv_bipush (v := 6) hx hb dX12_isLine_30 (by decide) ?_
      refine lv_iand hx hb dX12_isLine_32 ?_
      refine lv_topi (fun y_36 ey_36 => ?_)
      have ty_36 := xI_and (Y := 6) rfl ey_36 (by decide)
      refine lv_if_eq (tgt := 40) hx hb dX12_isLine_33 (by decide) (fun c_37 => ?_) (fun c_37 => ?_)
      · have c_37 : y_36.toInt = 0 := xI_eq rfl rfl c_37
        refine lv_iconst (v := 0) hx hb dX12_isLine_40 (by decide) ?_
        exact W.zret (v := 0) hx hb hr (by decide) (fun t ht _ => ⟨⟨0, G, rfl, ⟨hB_G, hF, ⟨by decide, by decide⟩⟩, wd_t ht hW⟩, hS.F ht⟩) hS.2.2 dX12_isLine_41
      · have c_37 : y_36.toInt ≠ 0 := xI_ne rfl rfl c_37
        refine lv_iconst (v := 1) hx hb dX12_isLine_36 (by decide) ?_
        refine lv_goto (tgt := 41) hx hb dX12_isLine_37 (by decide) ?_
        exact W.zret (v := 1) hx hb hr (by decide) (fun t ht _ => ⟨⟨1, G, rfl, ⟨hB_G, hF, ⟨by decide, by decide⟩⟩, wd_t ht hW⟩, hS.F ht⟩) hS.2.2 dX12_isLine_41
