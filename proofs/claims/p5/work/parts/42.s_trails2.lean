theorem m37 : Cond.selects RX10 yX10_followHand yX10_followHand ∈ gd := gd_mem 37 (by decide +kernel) (by decide +kernel)
theorem m125 : Cond.initialized RX4 ∈ gd := gd_mem 125 (by decide +kernel) (by decide +kernel)
theorem m441 : Cond.fieldLink RX10 19 "SlabWalk$Trails" "steps" "LSlabWalk$Minima;" ∈ gd := gd_mem 441 (by decide +kernel) (by decide +kernel)
theorem m442 : Cond.fieldLink RX10 23 "SlabWalk$Trails" "leaps" "LSlabWalk$Minima;" ∈ gd := gd_mem 442 (by decide +kernel) (by decide +kernel)
theorem m443 : Cond.fieldLink RX10 26 "SlabWalk$Trails" "winning" "[I" ∈ gd := gd_mem 443 (by decide +kernel) (by decide +kernel)
theorem m445 : Cond.fieldLink RX10 30 "SlabWalk$Trails" "leaving" "[Z" ∈ gd := gd_mem 445 (by decide +kernel) (by decide +kernel)
theorem m1095 : Cond.methodLink RX10 85 yJ7_fill_53178 ∈ gd := gd_mem 1095 (by decide +kernel) (by decide +kernel)
theorem m1096 : Cond.methodLink RX10 91 yX10_followHand ∈ gd := gd_mem 1096 (by decide +kernel) (by decide +kernel)
theorem m1098 : Cond.instanceMethod yX10_followHand ∈ gd := gd_mem 1098 (by decide +kernel) (by decide +kernel)
theorem m1099 : Cond.code yX10_followHand cX10_followHand 12 (some .boolean) ∈ gd := gd_mem 1099 (by decide +kernel) (by decide +kernel)
theorem m1100 : Cond.methodLink RX10 95 yX4_empty ∈ gd := gd_mem 1100 (by decide +kernel) (by decide +kernel)
theorem m1101 : Cond.instanceMethod yX4_empty ∈ gd := gd_mem 1101 (by decide +kernel) (by decide +kernel)
theorem m1102 : Cond.selects RX4 yX4_empty yX4_empty ∈ gd := gd_mem 1102 (by decide +kernel) (by decide +kernel)
theorem m1103 : Cond.code yX4_empty cX4_empty 1 none ∈ gd := gd_mem 1103 (by decide +kernel) (by decide +kernel)
theorem m1104 : Cond.methodLink RX10 98 yX4_add ∈ gd := gd_mem 1104 (by decide +kernel) (by decide +kernel)
theorem m1105 : Cond.instanceMethod yX4_add ∈ gd := gd_mem 1105 (by decide +kernel) (by decide +kernel)
theorem m1106 : Cond.selects RX4 yX4_add yX4_add ∈ gd := gd_mem 1106 (by decide +kernel) (by decide +kernel)
theorem m1107 : Cond.code yX4_add cX4_add 3 none ∈ gd := gd_mem 1107 (by decide +kernel) (by decide +kernel)
theorem m1108 : Cond.methodLink RX10 102 yX4_leastFrom ∈ gd := gd_mem 1108 (by decide +kernel) (by decide +kernel)
theorem m1109 : Cond.instanceMethod yX4_leastFrom ∈ gd := gd_mem 1109 (by decide +kernel) (by decide +kernel)
theorem m1110 : Cond.selects RX4 yX4_leastFrom yX4_leastFrom ∈ gd := gd_mem 1110 (by decide +kernel) (by decide +kernel)
theorem m1111 : Cond.code yX4_leastFrom cX4_leastFrom 2 (some .int) ∈ gd := gd_mem 1111 (by decide +kernel) (by decide +kernel)
theorem dX10_fewestLeaps_0 : decode cX10_fewestLeaps 0 = .ok (.aload_n 0, 1) := by decide +kernel
theorem dX10_fewestLeaps_1 : decode cX10_fewestLeaps 1 = .ok (.getfield 13, 3) := by decide +kernel
theorem dX10_fewestLeaps_4 : decode cX10_fewestLeaps 4 = .ok (.iconst 0, 1) := by decide +kernel
theorem dX10_fewestLeaps_5 : decode cX10_fewestLeaps 5 = .ok (.aaload, 1) := by decide +kernel
theorem dX10_fewestLeaps_6 : decode cX10_fewestLeaps 6 = .ok (.ldc 44, 2) := by decide +kernel
theorem dX10_fewestLeaps_8 : decode cX10_fewestLeaps 8 = .ok (.invokestatic 85, 3) := by decide +kernel
theorem dX10_fewestLeaps_11 : decode cX10_fewestLeaps 11 = .ok (.aload_n 0, 1) := by decide +kernel
theorem dX10_fewestLeaps_12 : decode cX10_fewestLeaps 12 = .ok (.getfield 13, 3) := by decide +kernel
theorem dX10_fewestLeaps_15 : decode cX10_fewestLeaps 15 = .ok (.iconst 1, 1) := by decide +kernel
theorem dX10_fewestLeaps_16 : decode cX10_fewestLeaps 16 = .ok (.aaload, 1) := by decide +kernel
theorem dX10_fewestLeaps_17 : decode cX10_fewestLeaps 17 = .ok (.ldc 44, 2) := by decide +kernel
theorem dX10_fewestLeaps_19 : decode cX10_fewestLeaps 19 = .ok (.invokestatic 85, 3) := by decide +kernel
theorem dX10_fewestLeaps_22 : decode cX10_fewestLeaps 22 = .ok (.iconst 0, 1) := by decide +kernel
theorem dX10_fewestLeaps_23 : decode cX10_fewestLeaps 23 = .ok (.istore 4, 2) := by decide +kernel
theorem dX10_fewestLeaps_25 : decode cX10_fewestLeaps 25 = .ok (.iload 4, 2) := by decide +kernel
theorem dX10_fewestLeaps_27 : decode cX10_fewestLeaps 27 = .ok (.iload_n 3, 1) := by decide +kernel
theorem dX10_fewestLeaps_28 : decode cX10_fewestLeaps 28 = .ok (.aload_n 1, 1) := by decide +kernel
theorem dX10_fewestLeaps_29 : decode cX10_fewestLeaps 29 = .ok (.invokevirtual 45, 3) := by decide +kernel
theorem dX10_fewestLeaps_32 : decode cX10_fewestLeaps 32 = .ok (.invokestatic 49, 3) := by decide +kernel
theorem dX10_fewestLeaps_35 : decode cX10_fewestLeaps 35 = .ok (.if_icmp .gt 34, 3) := by decide +kernel
theorem dX10_fewestLeaps_38 : decode cX10_fewestLeaps 38 = .ok (.aload_n 0, 1) := by decide +kernel
theorem dX10_fewestLeaps_39 : decode cX10_fewestLeaps 39 = .ok (.getfield 13, 3) := by decide +kernel
theorem dX10_fewestLeaps_42 : decode cX10_fewestLeaps 42 = .ok (.iconst 0, 1) := by decide +kernel
theorem dX10_fewestLeaps_43 : decode cX10_fewestLeaps 43 = .ok (.aaload, 1) := by decide +kernel
theorem dX10_fewestLeaps_44 : decode cX10_fewestLeaps 44 = .ok (.iload 4, 2) := by decide +kernel
theorem dX10_fewestLeaps_46 : decode cX10_fewestLeaps 46 = .ok (.aload_n 1, 1) := by decide +kernel
theorem dX10_fewestLeaps_47 : decode cX10_fewestLeaps 47 = .ok (.getfield 55, 3) := by decide +kernel
theorem dX10_fewestLeaps_50 : decode cX10_fewestLeaps 50 = .ok (.iload 4, 2) := by decide +kernel
theorem dX10_fewestLeaps_52 : decode cX10_fewestLeaps 52 = .ok (.baload, 1) := by decide +kernel
theorem dX10_fewestLeaps_53 : decode cX10_fewestLeaps 53 = .ok (.ifCond .eq 7, 3) := by decide +kernel
theorem dX10_fewestLeaps_56 : decode cX10_fewestLeaps 56 = .ok (.iconst 0, 1) := by decide +kernel
theorem dX10_fewestLeaps_57 : decode cX10_fewestLeaps 57 = .ok (.goto 5, 3) := by decide +kernel
theorem dX10_fewestLeaps_60 : decode cX10_fewestLeaps 60 = .ok (.ldc 44, 2) := by decide +kernel
theorem dX10_fewestLeaps_62 : decode cX10_fewestLeaps 62 = .ok (.iastore, 1) := by decide +kernel
theorem dX10_fewestLeaps_63 : decode cX10_fewestLeaps 63 = .ok (.iinc 4 1, 3) := by decide +kernel
theorem dX10_fewestLeaps_66 : decode cX10_fewestLeaps 66 = .ok (.goto (-41), 3) := by decide +kernel
theorem dX10_fewestLeaps_69 : decode cX10_fewestLeaps 69 = .ok (.ldc 44, 2) := by decide +kernel
theorem dX10_fewestLeaps_71 : decode cX10_fewestLeaps 71 = .ok (.istore 4, 2) := by decide +kernel
theorem dX10_fewestLeaps_73 : decode cX10_fewestLeaps 73 = .ok (.iconst 0, 1) := by decide +kernel
theorem dX10_fewestLeaps_74 : decode cX10_fewestLeaps 74 = .ok (.istore 5, 2) := by decide +kernel
theorem dX10_fewestLeaps_76 : decode cX10_fewestLeaps 76 = .ok (.iconst 1, 1) := by decide +kernel
theorem dX10_fewestLeaps_77 : decode cX10_fewestLeaps 77 = .ok (.istore 6, 2) := by decide +kernel
theorem dX10_fewestLeaps_79 : decode cX10_fewestLeaps 79 = .ok (.iconst 1, 1) := by decide +kernel
theorem dX10_fewestLeaps_80 : decode cX10_fewestLeaps 80 = .ok (.istore 7, 2) := by decide +kernel
theorem dX10_fewestLeaps_82 : decode cX10_fewestLeaps 82 = .ok (.iload 6, 2) := by decide +kernel
theorem dX10_fewestLeaps_84 : decode cX10_fewestLeaps 84 = .ok (.ifCond .eq 96, 3) := by decide +kernel
theorem dX10_fewestLeaps_87 : decode cX10_fewestLeaps 87 = .ok (.iload 7, 2) := by decide +kernel
theorem dX10_fewestLeaps_89 : decode cX10_fewestLeaps 89 = .ok (.sipush 400, 3) := by decide +kernel
theorem dX10_fewestLeaps_92 : decode cX10_fewestLeaps 92 = .ok (.if_icmp .gt 88, 3) := by decide +kernel
theorem dX10_fewestLeaps_95 : decode cX10_fewestLeaps 95 = .ok (.iload 4, 2) := by decide +kernel
theorem dX10_fewestLeaps_97 : decode cX10_fewestLeaps 97 = .ok (.aload_n 0, 1) := by decide +kernel
theorem dX10_fewestLeaps_98 : decode cX10_fewestLeaps 98 = .ok (.getfield 13, 3) := by decide +kernel
theorem dX10_fewestLeaps_101 : decode cX10_fewestLeaps 101 = .ok (.iload 5, 2) := by decide +kernel
theorem dX10_fewestLeaps_103 : decode cX10_fewestLeaps 103 = .ok (.aaload, 1) := by decide +kernel
theorem dX10_fewestLeaps_104 : decode cX10_fewestLeaps 104 = .ok (.aload_n 1, 1) := by decide +kernel
theorem dX10_fewestLeaps_105 : decode cX10_fewestLeaps 105 = .ok (.getfield 58, 3) := by decide +kernel
theorem dX10_fewestLeaps_108 : decode cX10_fewestLeaps 108 = .ok (.aload_n 1, 1) := by decide +kernel
theorem dX10_fewestLeaps_109 : decode cX10_fewestLeaps 109 = .ok (.getfield 34, 3) := by decide +kernel
theorem dX10_fewestLeaps_112 : decode cX10_fewestLeaps 112 = .ok (.invokestatic 67, 3) := by decide +kernel
theorem dX10_fewestLeaps_115 : decode cX10_fewestLeaps 115 = .ok (.invokestatic 49, 3) := by decide +kernel
theorem dX10_fewestLeaps_118 : decode cX10_fewestLeaps 118 = .ok (.istore 4, 2) := by decide +kernel
theorem dX10_fewestLeaps_120 : decode cX10_fewestLeaps 120 = .ok (.iload 4, 2) := by decide +kernel
theorem dX10_fewestLeaps_122 : decode cX10_fewestLeaps 122 = .ok (.aload_n 0, 1) := by decide +kernel
theorem dX10_fewestLeaps_123 : decode cX10_fewestLeaps 123 = .ok (.getfield 13, 3) := by decide +kernel
theorem dX10_fewestLeaps_126 : decode cX10_fewestLeaps 126 = .ok (.iload 5, 2) := by decide +kernel
theorem dX10_fewestLeaps_128 : decode cX10_fewestLeaps 128 = .ok (.iconst 1, 1) := by decide +kernel
theorem dX10_fewestLeaps_129 : decode cX10_fewestLeaps 129 = .ok (.iadd, 1) := by decide +kernel
theorem dX10_fewestLeaps_130 : decode cX10_fewestLeaps 130 = .ok (.aaload, 1) := by decide +kernel
theorem dX10_fewestLeaps_131 : decode cX10_fewestLeaps 131 = .ok (.aload_n 1, 1) := by decide +kernel
theorem dX10_fewestLeaps_132 : decode cX10_fewestLeaps 132 = .ok (.getfield 58, 3) := by decide +kernel
theorem dX10_fewestLeaps_135 : decode cX10_fewestLeaps 135 = .ok (.aload_n 1, 1) := by decide +kernel
theorem dX10_fewestLeaps_136 : decode cX10_fewestLeaps 136 = .ok (.getfield 34, 3) := by decide +kernel
theorem dX10_fewestLeaps_139 : decode cX10_fewestLeaps 139 = .ok (.invokestatic 67, 3) := by decide +kernel
theorem dX10_fewestLeaps_142 : decode cX10_fewestLeaps 142 = .ok (.invokestatic 49, 3) := by decide +kernel
theorem dX10_fewestLeaps_145 : decode cX10_fewestLeaps 145 = .ok (.istore 4, 2) := by decide +kernel
theorem dX10_fewestLeaps_147 : decode cX10_fewestLeaps 147 = .ok (.aload_n 0, 1) := by decide +kernel
theorem dX10_fewestLeaps_148 : decode cX10_fewestLeaps 148 = .ok (.aload_n 1, 1) := by decide +kernel
theorem dX10_fewestLeaps_149 : decode cX10_fewestLeaps 149 = .ok (.iload 5, 2) := by decide +kernel
theorem dX10_fewestLeaps_151 : decode cX10_fewestLeaps 151 = .ok (.iload_n 2, 1) := by decide +kernel
theorem dX10_fewestLeaps_152 : decode cX10_fewestLeaps 152 = .ok (.iload 7, 2) := by decide +kernel
theorem dX10_fewestLeaps_154 : decode cX10_fewestLeaps 154 = .ok (.imul, 1) := by decide +kernel
theorem dX10_fewestLeaps_155 : decode cX10_fewestLeaps 155 = .ok (.iload_n 3, 1) := by decide +kernel
theorem dX10_fewestLeaps_156 : decode cX10_fewestLeaps 156 = .ok (.isub, 1) := by decide +kernel
theorem dX10_fewestLeaps_157 : decode cX10_fewestLeaps 157 = .ok (.iload_n 2, 1) := by decide +kernel
theorem dX10_fewestLeaps_158 : decode cX10_fewestLeaps 158 = .ok (.iload 7, 2) := by decide +kernel
theorem dX10_fewestLeaps_160 : decode cX10_fewestLeaps 160 = .ok (.imul, 1) := by decide +kernel
theorem dX10_fewestLeaps_161 : decode cX10_fewestLeaps 161 = .ok (.iload_n 3, 1) := by decide +kernel
theorem dX10_fewestLeaps_162 : decode cX10_fewestLeaps 162 = .ok (.iadd, 1) := by decide +kernel
theorem dX10_fewestLeaps_163 : decode cX10_fewestLeaps 163 = .ok (.invokevirtual 91, 3) := by decide +kernel
theorem dX10_fewestLeaps_166 : decode cX10_fewestLeaps 166 = .ok (.istore 6, 2) := by decide +kernel
theorem dX10_fewestLeaps_168 : decode cX10_fewestLeaps 168 = .ok (.iconst 2, 1) := by decide +kernel
theorem dX10_fewestLeaps_169 : decode cX10_fewestLeaps 169 = .ok (.iload 5, 2) := by decide +kernel
theorem dX10_fewestLeaps_171 : decode cX10_fewestLeaps 171 = .ok (.isub, 1) := by decide +kernel
theorem dX10_fewestLeaps_172 : decode cX10_fewestLeaps 172 = .ok (.istore 5, 2) := by decide +kernel
theorem dX10_fewestLeaps_174 : decode cX10_fewestLeaps 174 = .ok (.iinc 7 1, 3) := by decide +kernel
theorem dX10_fewestLeaps_177 : decode cX10_fewestLeaps 177 = .ok (.goto (-95), 3) := by decide +kernel
theorem dX10_fewestLeaps_180 : decode cX10_fewestLeaps 180 = .ok (.iload 4, 2) := by decide +kernel
theorem dX10_fewestLeaps_182 : decode cX10_fewestLeaps 182 = .ok (.ldc 44, 2) := by decide +kernel
theorem dX10_fewestLeaps_184 : decode cX10_fewestLeaps 184 = .ok (.if_icmp .lt 7, 3) := by decide +kernel
theorem dX10_fewestLeaps_187 : decode cX10_fewestLeaps 187 = .ok (.iconst (-1), 1) := by decide +kernel
theorem dX10_fewestLeaps_188 : decode cX10_fewestLeaps 188 = .ok (.goto 5, 3) := by decide +kernel
theorem dX10_fewestLeaps_191 : decode cX10_fewestLeaps 191 = .ok (.iload 4, 2) := by decide +kernel
theorem dX10_fewestLeaps_193 : decode cX10_fewestLeaps 193 = .ok (.ireturn, 1) := by decide +kernel
theorem dX10_followHand_0 : decode cX10_followHand 0 = .ok (.aload_n 0, 1) := by decide +kernel
theorem dX10_followHand_1 : decode cX10_followHand 1 = .ok (.getfield 13, 3) := by decide +kernel
theorem dX10_followHand_4 : decode cX10_followHand 4 = .ok (.iconst 2, 1) := by decide +kernel
theorem dX10_followHand_5 : decode cX10_followHand 5 = .ok (.iload_n 2, 1) := by decide +kernel
theorem dX10_followHand_6 : decode cX10_followHand 6 = .ok (.isub, 1) := by decide +kernel
theorem dX10_followHand_7 : decode cX10_followHand 7 = .ok (.aaload, 1) := by decide +kernel
theorem dX10_followHand_8 : decode cX10_followHand 8 = .ok (.astore 5, 2) := by decide +kernel
theorem dX10_followHand_10 : decode cX10_followHand 10 = .ok (.aload_n 0, 1) := by decide +kernel
theorem dX10_followHand_11 : decode cX10_followHand 11 = .ok (.getfield 13, 3) := by decide +kernel
theorem dX10_followHand_14 : decode cX10_followHand 14 = .ok (.iconst 3, 1) := by decide +kernel
theorem dX10_followHand_15 : decode cX10_followHand 15 = .ok (.iload_n 2, 1) := by decide +kernel
theorem dX10_followHand_16 : decode cX10_followHand 16 = .ok (.isub, 1) := by decide +kernel
theorem dX10_followHand_17 : decode cX10_followHand 17 = .ok (.aaload, 1) := by decide +kernel
theorem dX10_followHand_18 : decode cX10_followHand 18 = .ok (.astore 6, 2) := by decide +kernel
theorem dX10_followHand_20 : decode cX10_followHand 20 = .ok (.aload 5, 2) := by decide +kernel
theorem dX10_followHand_22 : decode cX10_followHand 22 = .ok (.ldc 44, 2) := by decide +kernel
theorem dX10_followHand_24 : decode cX10_followHand 24 = .ok (.invokestatic 85, 3) := by decide +kernel
theorem dX10_followHand_27 : decode cX10_followHand 27 = .ok (.aload 6, 2) := by decide +kernel
theorem dX10_followHand_29 : decode cX10_followHand 29 = .ok (.ldc 44, 2) := by decide +kernel
theorem dX10_followHand_31 : decode cX10_followHand 31 = .ok (.invokestatic 85, 3) := by decide +kernel
theorem dX10_followHand_34 : decode cX10_followHand 34 = .ok (.aload_n 0, 1) := by decide +kernel
theorem dX10_followHand_35 : decode cX10_followHand 35 = .ok (.getfield 19, 3) := by decide +kernel
theorem dX10_followHand_38 : decode cX10_followHand 38 = .ok (.invokevirtual 95, 3) := by decide +kernel
theorem dX10_followHand_41 : decode cX10_followHand 41 = .ok (.aload_n 0, 1) := by decide +kernel
theorem dX10_followHand_42 : decode cX10_followHand 42 = .ok (.getfield 23, 3) := by decide +kernel
theorem dX10_followHand_45 : decode cX10_followHand 45 = .ok (.invokevirtual 95, 3) := by decide +kernel
theorem dX10_followHand_48 : decode cX10_followHand 48 = .ok (.iconst 0, 1) := by decide +kernel
theorem dX10_followHand_49 : decode cX10_followHand 49 = .ok (.istore 7, 2) := by decide +kernel
theorem dX10_followHand_51 : decode cX10_followHand 51 = .ok (.iconst 0, 1) := by decide +kernel
theorem dX10_followHand_52 : decode cX10_followHand 52 = .ok (.iload_n 3, 1) := by decide +kernel
theorem dX10_followHand_53 : decode cX10_followHand 53 = .ok (.invokestatic 82, 3) := by decide +kernel
theorem dX10_followHand_56 : decode cX10_followHand 56 = .ok (.istore 8, 2) := by decide +kernel
theorem dX10_followHand_58 : decode cX10_followHand 58 = .ok (.iconst 0, 1) := by decide +kernel
theorem dX10_followHand_59 : decode cX10_followHand 59 = .ok (.iload 8, 2) := by decide +kernel
theorem dX10_followHand_61 : decode cX10_followHand 61 = .ok (.aload_n 1, 1) := by decide +kernel
theorem dX10_followHand_62 : decode cX10_followHand 62 = .ok (.getfield 64, 3) := by decide +kernel
theorem dX10_followHand_65 : decode cX10_followHand 65 = .ok (.isub, 1) := by decide +kernel
theorem dX10_followHand_66 : decode cX10_followHand 66 = .ok (.invokestatic 82, 3) := by decide +kernel
theorem dX10_followHand_69 : decode cX10_followHand 69 = .ok (.istore 9, 2) := by decide +kernel
theorem dX10_followHand_71 : decode cX10_followHand 71 = .ok (.iconst 0, 1) := by decide +kernel
theorem dX10_followHand_72 : decode cX10_followHand 72 = .ok (.iload 8, 2) := by decide +kernel
theorem dX10_followHand_74 : decode cX10_followHand 74 = .ok (.aload_n 1, 1) := by decide +kernel
theorem dX10_followHand_75 : decode cX10_followHand 75 = .ok (.getfield 71, 3) := by decide +kernel
theorem dX10_followHand_78 : decode cX10_followHand 78 = .ok (.isub, 1) := by decide +kernel
theorem dX10_followHand_79 : decode cX10_followHand 79 = .ok (.invokestatic 82, 3) := by decide +kernel
theorem dX10_followHand_82 : decode cX10_followHand 82 = .ok (.istore 10, 2) := by decide +kernel
theorem dX10_followHand_84 : decode cX10_followHand 84 = .ok (.iload 8, 2) := by decide +kernel
theorem dX10_followHand_86 : decode cX10_followHand 86 = .ok (.istore 11, 2) := by decide +kernel
theorem dX10_followHand_88 : decode cX10_followHand 88 = .ok (.iload 11, 2) := by decide +kernel
theorem dX10_followHand_90 : decode cX10_followHand 90 = .ok (.iload 4, 2) := by decide +kernel
theorem dX10_followHand_92 : decode cX10_followHand 92 = .ok (.aload_n 1, 1) := by decide +kernel
theorem dX10_followHand_93 : decode cX10_followHand 93 = .ok (.getfield 34, 3) := by decide +kernel
theorem dX10_followHand_96 : decode cX10_followHand 96 = .ok (.invokestatic 49, 3) := by decide +kernel
theorem dX10_followHand_99 : decode cX10_followHand 99 = .ok (.if_icmp .gt 200, 3) := by decide +kernel
theorem dX10_followHand_102 : decode cX10_followHand 102 = .ok (.iload 9, 2) := by decide +kernel
theorem dX10_followHand_104 : decode cX10_followHand 104 = .ok (.iload 11, 2) := by decide +kernel
theorem dX10_followHand_106 : decode cX10_followHand 106 = .ok (.aload_n 1, 1) := by decide +kernel
theorem dX10_followHand_107 : decode cX10_followHand 107 = .ok (.getfield 61, 3) := by decide +kernel
theorem dX10_followHand_110 : decode cX10_followHand 110 = .ok (.isub, 1) := by decide +kernel
theorem dX10_followHand_111 : decode cX10_followHand 111 = .ok (.if_icmp .gt 50, 3) := by decide +kernel
theorem dX10_followHand_114 : decode cX10_followHand 114 = .ok (.iload 9, 2) := by decide +kernel
theorem dX10_followHand_116 : decode cX10_followHand 116 = .ok (.aload_n 1, 1) := by decide +kernel
theorem dX10_followHand_117 : decode cX10_followHand 117 = .ok (.getfield 58, 3) := by decide +kernel
theorem dX10_followHand_120 : decode cX10_followHand 120 = .ok (.if_icmp .ge 41, 3) := by decide +kernel
theorem dX10_followHand_123 : decode cX10_followHand 123 = .ok (.aload_n 0, 1) := by decide +kernel
theorem dX10_followHand_124 : decode cX10_followHand 124 = .ok (.getfield 19, 3) := by decide +kernel
theorem dX10_followHand_127 : decode cX10_followHand 127 = .ok (.iload 9, 2) := by decide +kernel
theorem dX10_followHand_129 : decode cX10_followHand 129 = .ok (.aload_n 0, 1) := by decide +kernel
theorem dX10_followHand_130 : decode cX10_followHand 130 = .ok (.getfield 13, 3) := by decide +kernel
theorem dX10_followHand_133 : decode cX10_followHand 133 = .ok (.iload_n 2, 1) := by decide +kernel
theorem dX10_followHand_134 : decode cX10_followHand 134 = .ok (.aaload, 1) := by decide +kernel
theorem dX10_followHand_135 : decode cX10_followHand 135 = .ok (.iload 9, 2) := by decide +kernel
theorem dX10_followHand_137 : decode cX10_followHand 137 = .ok (.iaload, 1) := by decide +kernel
theorem dX10_followHand_138 : decode cX10_followHand 138 = .ok (.aload_n 0, 1) := by decide +kernel
theorem dX10_followHand_139 : decode cX10_followHand 139 = .ok (.getfield 13, 3) := by decide +kernel
theorem dX10_followHand_142 : decode cX10_followHand 142 = .ok (.iload_n 2, 1) := by decide +kernel
theorem dX10_followHand_143 : decode cX10_followHand 143 = .ok (.iconst 1, 1) := by decide +kernel
theorem dX10_followHand_144 : decode cX10_followHand 144 = .ok (.iadd, 1) := by decide +kernel
theorem dX10_followHand_145 : decode cX10_followHand 145 = .ok (.aaload, 1) := by decide +kernel
theorem dX10_followHand_146 : decode cX10_followHand 146 = .ok (.iload 9, 2) := by decide +kernel
theorem dX10_followHand_148 : decode cX10_followHand 148 = .ok (.iaload, 1) := by decide +kernel
theorem dX10_followHand_149 : decode cX10_followHand 149 = .ok (.invokestatic 49, 3) := by decide +kernel
theorem dX10_followHand_152 : decode cX10_followHand 152 = .ok (.invokevirtual 98, 3) := by decide +kernel
theorem dX10_followHand_155 : decode cX10_followHand 155 = .ok (.iinc 9 1, 3) := by decide +kernel
theorem dX10_followHand_158 : decode cX10_followHand 158 = .ok (.goto (-56), 3) := by decide +kernel
theorem dX10_followHand_161 : decode cX10_followHand 161 = .ok (.iload 10, 2) := by decide +kernel
theorem dX10_followHand_163 : decode cX10_followHand 163 = .ok (.iload 11, 2) := by decide +kernel
theorem dX10_followHand_165 : decode cX10_followHand 165 = .ok (.aload_n 1, 1) := by decide +kernel
theorem dX10_followHand_166 : decode cX10_followHand 166 = .ok (.getfield 64, 3) := by decide +kernel
theorem dX10_followHand_169 : decode cX10_followHand 169 = .ok (.isub, 1) := by decide +kernel
theorem dX10_followHand_170 : decode cX10_followHand 170 = .ok (.if_icmp .ge 43, 3) := by decide +kernel
theorem dX10_followHand_173 : decode cX10_followHand 173 = .ok (.iload 10, 2) := by decide +kernel
theorem dX10_followHand_175 : decode cX10_followHand 175 = .ok (.aload_n 1, 1) := by decide +kernel
theorem dX10_followHand_176 : decode cX10_followHand 176 = .ok (.getfield 58, 3) := by decide +kernel
theorem dX10_followHand_179 : decode cX10_followHand 179 = .ok (.if_icmp .ge 34, 3) := by decide +kernel
theorem dX10_followHand_182 : decode cX10_followHand 182 = .ok (.aload_n 0, 1) := by decide +kernel
theorem dX10_followHand_183 : decode cX10_followHand 183 = .ok (.getfield 23, 3) := by decide +kernel
theorem dX10_followHand_186 : decode cX10_followHand 186 = .ok (.iload 10, 2) := by decide +kernel
theorem dX10_followHand_188 : decode cX10_followHand 188 = .ok (.ldc 44, 2) := by decide +kernel
theorem dX10_followHand_190 : decode cX10_followHand 190 = .ok (.aload_n 0, 1) := by decide +kernel
theorem dX10_followHand_191 : decode cX10_followHand 191 = .ok (.getfield 13, 3) := by decide +kernel
theorem dX10_followHand_194 : decode cX10_followHand 194 = .ok (.iload_n 2, 1) := by decide +kernel
theorem dX10_followHand_195 : decode cX10_followHand 195 = .ok (.aaload, 1) := by decide +kernel
theorem dX10_followHand_196 : decode cX10_followHand 196 = .ok (.iload 10, 2) := by decide +kernel
theorem dX10_followHand_198 : decode cX10_followHand 198 = .ok (.iaload, 1) := by decide +kernel
theorem dX10_followHand_199 : decode cX10_followHand 199 = .ok (.iconst 1, 1) := by decide +kernel
theorem dX10_followHand_200 : decode cX10_followHand 200 = .ok (.iadd, 1) := by decide +kernel
theorem dX10_followHand_201 : decode cX10_followHand 201 = .ok (.invokestatic 49, 3) := by decide +kernel
theorem dX10_followHand_204 : decode cX10_followHand 204 = .ok (.invokevirtual 98, 3) := by decide +kernel
theorem dX10_followHand_207 : decode cX10_followHand 207 = .ok (.iinc 10 1, 3) := by decide +kernel
theorem dX10_followHand_210 : decode cX10_followHand 210 = .ok (.goto (-49), 3) := by decide +kernel
theorem dX10_followHand_213 : decode cX10_followHand 213 = .ok (.aload_n 1, 1) := by decide +kernel
theorem dX10_followHand_214 : decode cX10_followHand 214 = .ok (.getfield 55, 3) := by decide +kernel
theorem dX10_followHand_217 : decode cX10_followHand 217 = .ok (.iload 11, 2) := by decide +kernel
theorem dX10_followHand_219 : decode cX10_followHand 219 = .ok (.baload, 1) := by decide +kernel
theorem dX10_followHand_220 : decode cX10_followHand 220 = .ok (.ifCond .eq 73, 3) := by decide +kernel
theorem dX10_followHand_223 : decode cX10_followHand 223 = .ok (.aload 5, 2) := by decide +kernel
theorem dX10_followHand_225 : decode cX10_followHand 225 = .ok (.iload 11, 2) := by decide +kernel
theorem dX10_followHand_227 : decode cX10_followHand 227 = .ok (.aload_n 0, 1) := by decide +kernel
theorem dX10_followHand_228 : decode cX10_followHand 228 = .ok (.getfield 19, 3) := by decide +kernel
theorem dX10_followHand_231 : decode cX10_followHand 231 = .ok (.iload 11, 2) := by decide +kernel
theorem dX10_followHand_233 : decode cX10_followHand 233 = .ok (.aload_n 1, 1) := by decide +kernel
theorem dX10_followHand_234 : decode cX10_followHand 234 = .ok (.getfield 64, 3) := by decide +kernel
theorem dX10_followHand_237 : decode cX10_followHand 237 = .ok (.isub, 1) := by decide +kernel
theorem dX10_followHand_238 : decode cX10_followHand 238 = .ok (.invokevirtual 102, 3) := by decide +kernel
theorem dX10_followHand_241 : decode cX10_followHand 241 = .ok (.iastore, 1) := by decide +kernel
theorem dX10_followHand_242 : decode cX10_followHand 242 = .ok (.aload 6, 2) := by decide +kernel
theorem dX10_followHand_244 : decode cX10_followHand 244 = .ok (.iload 11, 2) := by decide +kernel
theorem dX10_followHand_246 : decode cX10_followHand 246 = .ok (.aload_n 0, 1) := by decide +kernel
theorem dX10_followHand_247 : decode cX10_followHand 247 = .ok (.getfield 23, 3) := by decide +kernel
theorem dX10_followHand_250 : decode cX10_followHand 250 = .ok (.iload 11, 2) := by decide +kernel
theorem dX10_followHand_252 : decode cX10_followHand 252 = .ok (.aload_n 1, 1) := by decide +kernel
theorem dX10_followHand_253 : decode cX10_followHand 253 = .ok (.getfield 71, 3) := by decide +kernel
theorem dX10_followHand_256 : decode cX10_followHand 256 = .ok (.isub, 1) := by decide +kernel
theorem dX10_followHand_257 : decode cX10_followHand 257 = .ok (.invokevirtual 102, 3) := by decide +kernel
theorem dX10_followHand_260 : decode cX10_followHand 260 = .ok (.iastore, 1) := by decide +kernel
theorem dX10_followHand_261 : decode cX10_followHand 261 = .ok (.iload 7, 2) := by decide +kernel
theorem dX10_followHand_263 : decode cX10_followHand 263 = .ok (.ifCond .ne 23, 3) := by decide +kernel
theorem dX10_followHand_266 : decode cX10_followHand 266 = .ok (.aload 5, 2) := by decide +kernel
theorem dX10_followHand_268 : decode cX10_followHand 268 = .ok (.iload 11, 2) := by decide +kernel
theorem dX10_followHand_270 : decode cX10_followHand 270 = .ok (.iaload, 1) := by decide +kernel
theorem dX10_followHand_271 : decode cX10_followHand 271 = .ok (.ldc 44, 2) := by decide +kernel
theorem dX10_followHand_273 : decode cX10_followHand 273 = .ok (.if_icmp .lt 13, 3) := by decide +kernel
theorem dX10_followHand_276 : decode cX10_followHand 276 = .ok (.aload 6, 2) := by decide +kernel
theorem dX10_followHand_278 : decode cX10_followHand 278 = .ok (.iload 11, 2) := by decide +kernel
theorem dX10_followHand_280 : decode cX10_followHand 280 = .ok (.iaload, 1) := by decide +kernel
theorem dX10_followHand_281 : decode cX10_followHand 281 = .ok (.ldc 44, 2) := by decide +kernel
theorem dX10_followHand_283 : decode cX10_followHand 283 = .ok (.if_icmp .ge 7, 3) := by decide +kernel
theorem dX10_followHand_286 : decode cX10_followHand 286 = .ok (.iconst 1, 1) := by decide +kernel
theorem dX10_followHand_287 : decode cX10_followHand 287 = .ok (.goto 4, 3) := by decide +kernel
theorem dX10_followHand_290 : decode cX10_followHand 290 = .ok (.iconst 0, 1) := by decide +kernel
theorem dX10_followHand_291 : decode cX10_followHand 291 = .ok (.istore 7, 2) := by decide +kernel
theorem dX10_followHand_293 : decode cX10_followHand 293 = .ok (.iinc 11 1, 3) := by decide +kernel
theorem dX10_followHand_296 : decode cX10_followHand 296 = .ok (.goto (-208), 3) := by decide +kernel
theorem dX10_followHand_299 : decode cX10_followHand 299 = .ok (.iload 7, 2) := by decide +kernel
theorem dX10_followHand_301 : decode cX10_followHand 301 = .ok (.ireturn, 1) := by decide +kernel
theorem dX10_winningFrom_0 : decode cX10_winningFrom 0 = .ok (.iconst 0, 1) := by decide +kernel
theorem dX10_winningFrom_1 : decode cX10_winningFrom 1 = .ok (.istore_n 3, 1) := by decide +kernel
theorem dX10_winningFrom_2 : decode cX10_winningFrom 2 = .ok (.iload_n 3, 1) := by decide +kernel
theorem dX10_winningFrom_3 : decode cX10_winningFrom 3 = .ok (.bipush 6, 2) := by decide +kernel
theorem dX10_winningFrom_5 : decode cX10_winningFrom 5 = .ok (.if_icmp .ge 52, 3) := by decide +kernel
theorem dX10_winningFrom_8 : decode cX10_winningFrom 8 = .ok (.iconst 1, 1) := by decide +kernel
theorem dX10_winningFrom_9 : decode cX10_winningFrom 9 = .ok (.iload_n 3, 1) := by decide +kernel
theorem dX10_winningFrom_10 : decode cX10_winningFrom 10 = .ok (.ishl, 1) := by decide +kernel
theorem dX10_winningFrom_11 : decode cX10_winningFrom 11 = .ok (.iload_n 2, 1) := by decide +kernel
theorem dX10_winningFrom_12 : decode cX10_winningFrom 12 = .ok (.if_icmp .gt 45, 3) := by decide +kernel
theorem dX10_winningFrom_15 : decode cX10_winningFrom 15 = .ok (.iload_n 1, 1) := by decide +kernel
theorem dX10_winningFrom_16 : decode cX10_winningFrom 16 = .ok (.iconst 1, 1) := by decide +kernel
theorem dX10_winningFrom_17 : decode cX10_winningFrom 17 = .ok (.iload_n 3, 1) := by decide +kernel
theorem dX10_winningFrom_18 : decode cX10_winningFrom 18 = .ok (.ishl, 1) := by decide +kernel
theorem dX10_winningFrom_19 : decode cX10_winningFrom 19 = .ok (.ior, 1) := by decide +kernel
theorem dX10_winningFrom_20 : decode cX10_winningFrom 20 = .ok (.istore 4, 2) := by decide +kernel
theorem dX10_winningFrom_22 : decode cX10_winningFrom 22 = .ok (.iload 4, 2) := by decide +kernel
theorem dX10_winningFrom_24 : decode cX10_winningFrom 24 = .ok (.iload_n 1, 1) := by decide +kernel
theorem dX10_winningFrom_25 : decode cX10_winningFrom 25 = .ok (.if_icmp .eq 26, 3) := by decide +kernel
theorem dX10_winningFrom_28 : decode cX10_winningFrom 28 = .ok (.aload_n 0, 1) := by decide +kernel
theorem dX10_winningFrom_29 : decode cX10_winningFrom 29 = .ok (.getfield 30, 3) := by decide +kernel
theorem dX10_winningFrom_32 : decode cX10_winningFrom 32 = .ok (.iload 4, 2) := by decide +kernel
theorem dX10_winningFrom_34 : decode cX10_winningFrom 34 = .ok (.baload, 1) := by decide +kernel
theorem dX10_winningFrom_35 : decode cX10_winningFrom 35 = .ok (.ifCond .eq 16, 3) := by decide +kernel
theorem dX10_winningFrom_38 : decode cX10_winningFrom 38 = .ok (.aload_n 0, 1) := by decide +kernel
theorem dX10_winningFrom_39 : decode cX10_winningFrom 39 = .ok (.getfield 26, 3) := by decide +kernel
theorem dX10_winningFrom_42 : decode cX10_winningFrom 42 = .ok (.iload 4, 2) := by decide +kernel
theorem dX10_winningFrom_44 : decode cX10_winningFrom 44 = .ok (.iaload, 1) := by decide +kernel
theorem dX10_winningFrom_45 : decode cX10_winningFrom 45 = .ok (.iconst (-1), 1) := by decide +kernel
theorem dX10_winningFrom_46 : decode cX10_winningFrom 46 = .ok (.if_icmp .ne 5, 3) := by decide +kernel
theorem dX10_winningFrom_49 : decode cX10_winningFrom 49 = .ok (.iload_n 3, 1) := by decide +kernel
theorem dX10_winningFrom_50 : decode cX10_winningFrom 50 = .ok (.ireturn, 1) := by decide +kernel
theorem dX10_winningFrom_51 : decode cX10_winningFrom 51 = .ok (.iinc 3 1, 3) := by decide +kernel
theorem dX10_winningFrom_54 : decode cX10_winningFrom 54 = .ok (.goto (-52), 3) := by decide +kernel
theorem dX10_winningFrom_57 : decode cX10_winningFrom 57 = .ok (.iconst (-1), 1) := by decide +kernel
theorem dX10_winningFrom_58 : decode cX10_winningFrom 58 = .ok (.ireturn, 1) := by decide +kernel
set_option maxHeartbeats 4000000 in
set_option maxRecDepth 100000 in
theorem k_tHand_0 (l : Launch) (D : va_G) (k : KT) (A : Nat → Prop) (a : Nat → Nat) (z : SK) (G : GS) (p0 : Int32) (p1 : Int32) (ha_p0 : -99 ≤ p0.toInt ∧ p0.toInt ≤ 39600) (ha_p1 : -99 ≤ p1.toInt ∧ p1.toInt ≤ 39699) (hci : (G.1 7 6).toInt ≤ 399 ∧ (G.1 7 3).toInt ≤ (G.1 7 4).toInt ∧ ((G.1 7 7).toInt ≤ 0 ∨ (G.1 7 7).toInt + (G.1 7 4).toInt ≤ (G.1 7 6).toInt + 1)) : Met l yX10_followHand (WS yX10_followHand cX10_followHand 12 (some .boolean)) ({ frames := 1, cells := 0, slots := 0, locals := 23 }) (va_Pc [.ref (a 8), .ref (a 7), .int 0, .int p0, .int p1] (cW D k A a z G)) (va_Qi (fun (r : Int32) (G1 : GS) => Bd G1 ∧ Fr [44, 45, 48, 49, 50, 51] [(9, 2), (9, 3), (19, 2), (19, 3)] G G1 ∧ (0 ≤ r.toInt ∧ r.toInt ≤ 1)) (fun (G1 : GS) t => Wd D k A a G1 t.heap) A) 0 0 A := by
  refine Met.ofW (cc := cX10_followHand) (maxL := 12) (ret := (some .boolean)) (by decide) rfl ?_
  intro p e s m args below meth c s₁ B hml hv
  obtain ⟨rfl, hW, hB_G, hK, hZ⟩ := hv
  have hx := B.exec
  have hb := B.bytes
  have hr := B.returns
  have hts := atoms_spec (ws := WS yX10_followHand cX10_followHand 12 (some .boolean)) B.pre
  have hgd : ∀ w ∈ gd, w ∈ WS yX10_followHand cX10_followHand 12 (some .boolean) := fun w h => List.mem_cons_of_mem _ h
  have hg : ∀ w ∈ gd, w.before _ s = true := fun w h => hts w (hgd w h)
  have hown : s.vm.findClass RX10 = some m.cls := findClass_of_methodNamed B.named
  have hS : va_S A s.heap s.heap [] := va_S.rf
  have hF : Fr [44, 45, 48, 49, 50, 51] [(9, 2), (9, 3), (19, 2), (19, 3)] G G := Fr.rf
  have hl := lv_entry ([.ref (a 8), .ref (a 7), .int 0, .int p0, .int p1]) (n := 12) (Nat.le_of_ble_eq_true rfl)
  rw [lg_entry_eq]
  generalize (lg_sl ([.ref (a 8), .ref (a 7), .int 0, .int p0, .int p1]) ++ List.replicate (12 - (lg_sl ([.ref (a 8), .ref (a 7), .int 0, .int p0, .int p1])).length) Slot.unset).toArray = ls at hl ⊢
  have hl : lv_has ls 12 [(0, .ref (a 8)), (1, .ref (a 7)), (2, .int 0), (3, .int p0), (4, .int p1)] := hl
  have b_1 : (-1) ≤ (G.1 7 6).toInt ∧ (G.1 7 6).toInt ≤ 400 := hB_G.i 7 6 rfl rfl
  refine lv_aload_n hx hb dX10_followHand_0 rfl (lv_at hl 0 rfl) ?_
  refine S_getR (n := 41) (C := RX10) (T := TX10) (N := 5) hx hb hg iX10 hown hK hW kd_8 rfl 0 (by decide) (hg (Cond.fieldLink RX10 13 "SlabWalk$Trails" "rows" "[[I") m440) (fun _ h9 => h9) rfl dX10_followHand_1 ?_
  refine lv_iconst (v := 2) hx hb dX10_followHand_4 (by decide) ?_
  refine lv_iload_n hx hb dX10_followHand_5 rfl (lv_at hl 2 rfl) ?_
  refine lv_isub hx hb dX10_followHand_6 ?_
  refine lv_topi (fun y_2 ey_2 => ?_)
  obtain rfl : y_2 = 2 := ey_2.trans (by decide)
  refine S_aald hx hb hK hW kd_41 (vin (by decide) (by decide)) dX10_followHand_7 ?_
  refine rows_at (n := 44) (rows_c hB_G 2 (by decide)) ?_
  refine lv_astore (lv' := [(5, .ref (a 44)), (0, .ref (a 8)), (1, .ref (a 7)), (2, .int 0), (3, .int p0), (4, .int p1)]) hx hb dX10_followHand_8 hl (by decide) rfl (fun ls hl => ?_)
  refine lv_aload_n hx hb dX10_followHand_10 rfl (lv_at hl 1 rfl) ?_
  refine S_getR (n := 41) (C := RX10) (T := TX10) (N := 5) hx hb hg iX10 hown hK hW kd_8 rfl 0 (by decide) (hg (Cond.fieldLink RX10 13 "SlabWalk$Trails" "rows" "[[I") m440) (fun _ h9 => h9) rfl dX10_followHand_11 ?_
  refine lv_iconst (v := 3) hx hb dX10_followHand_14 (by decide) ?_
  refine lv_iload_n hx hb dX10_followHand_15 rfl (lv_at hl 3 rfl) ?_
  refine lv_isub hx hb dX10_followHand_16 ?_
  refine lv_topi (fun y_3 ey_3 => ?_)
  obtain rfl : y_3 = 3 := ey_3.trans (by decide)
  refine S_aald hx hb hK hW kd_41 (vin (by decide) (by decide)) dX10_followHand_17 ?_
  refine rows_at (n := 45) (rows_c hB_G 3 (by decide)) ?_
  refine lv_astore (lv' := [(6, .ref (a 45)), (5, .ref (a 44)), (0, .ref (a 8)), (1, .ref (a 7)), (2, .int 0), (3, .int p0), (4, .int p1)]) hx hb dX10_followHand_18 hl (by decide) rfl (fun ls hl => ?_)
  refine lv_aload hx hb dX10_followHand_20 (lv_at hl 1 rfl) ?_
  refine lv_ldc (v := 1000000) hx hb hown (hg (Cond.constant RX10 44 1000000) m997) dX10_followHand_22 ?_
  refine S_callv (va_runS (As := [.ref (a 44), .int 1000000]) (rest := []) ⟨hx, hb, hml, hown, hts⟩ (k_fill_44 l D k A a z G 1000000 ) (va_cwS 2 hts (gd_S hgd m1095 m556 m129 m557) rfl rfl rfl (by decide +kernel) ⟨Nat.le_of_ble_eq_true rfl, Nat.le_of_ble_eq_true rfl⟩) (pre_S hW hB_G hK hZ hS) rfl rfl hl.1 rfl (lv_room (Nat.le_of_ble_eq_true rfl)) dX10_followHand_24 ⟨Nat.le_of_ble_eq_true rfl, Nat.le_of_ble_eq_true rfl⟩) hS (fun G_5 H locs hpo hW hS => ?_)
  obtain ⟨hB_G_5, hq_6⟩ := hpo
  have hF := hF.call hq_6 (by decide) (by decide)
  refine lv_aload hx hb dX10_followHand_27 (lv_at hl 0 rfl) ?_
  refine lv_ldc (v := 1000000) hx hb hown (hg (Cond.constant RX10 44 1000000) m997) dX10_followHand_29 ?_
  refine S_callv (va_runS (As := [.ref (a 45), .int 1000000]) (rest := []) ⟨hx, hb, hml, hown, hts⟩ (k_fill_45 l D k A a z G_5 1000000 ) (va_cwS 2 hts (gd_S hgd m1095 m556 m129 m557) rfl rfl rfl (by decide +kernel) ⟨Nat.le_of_ble_eq_true rfl, Nat.le_of_ble_eq_true rfl⟩) (pre_S hW hB_G_5 hK hZ hS) rfl rfl hl.1 rfl (lv_room (Nat.le_of_ble_eq_true rfl)) dX10_followHand_31 ⟨Nat.le_of_ble_eq_true rfl, Nat.le_of_ble_eq_true rfl⟩) hS (fun G_9 H locs hpo hW hS => ?_)
  obtain ⟨hB_G_9, hq_10⟩ := hpo
  have hF := hF.call hq_10 (by decide) (by decide)
  refine lv_aload_n hx hb dX10_followHand_34 rfl (lv_at hl 2 rfl) ?_
  refine S_getR (n := 9) (C := RX10) (T := TX10) (N := 5) hx hb hg iX10 hown hK hW kd_8 rfl 1 (by decide) (hg (Cond.fieldLink RX10 19 "SlabWalk$Trails" "steps" "LSlabWalk$Minima;") m441) (fun _ h9 => h9) rfl dX10_followHand_35 ?_
  refine S_callv (va_runV (As := []) (rest := []) ⟨hx, hb, hml, hown, hts⟩ (k_mempty_9 l D k A a z G_9  ) (cwV 0 hts (gd_V hgd m1100 m1101 m1102 m125 m1103) rfl rfl rfl (by decide +kernel) ⟨Nat.le_of_ble_eq_true rfl, Nat.le_of_ble_eq_true rfl⟩) (pre_V hW hB_G_9 hK hZ hS kd_9 rfl) rfl rfl hl.1 rfl (lv_room (Nat.le_of_ble_eq_true rfl)) dX10_followHand_38 ⟨Nat.le_of_ble_eq_true rfl, Nat.le_of_ble_eq_true rfl⟩) hS (fun G_13 H locs hpo hW hS => ?_)
  obtain ⟨hB_G_13, hq_14⟩ := hpo
  have hF := hF.call hq_14 (by decide) (by decide)
  refine lv_aload_n hx hb dX10_followHand_41 rfl (lv_at hl 2 rfl) ?_
  refine S_getR (n := 19) (C := RX10) (T := TX10) (N := 5) hx hb hg iX10 hown hK hW kd_8 rfl 2 (by decide) (hg (Cond.fieldLink RX10 23 "SlabWalk$Trails" "leaps" "LSlabWalk$Minima;") m442) (fun _ h9 => h9) rfl dX10_followHand_42 ?_
  refine S_callv (va_runV (As := []) (rest := []) ⟨hx, hb, hml, hown, hts⟩ (k_mempty_19 l D k A a z G_13  ) (cwV 0 hts (gd_V hgd m1100 m1101 m1102 m125 m1103) rfl rfl rfl (by decide +kernel) ⟨Nat.le_of_ble_eq_true rfl, Nat.le_of_ble_eq_true rfl⟩) (pre_V hW hB_G_13 hK hZ hS kd_19 rfl) rfl rfl hl.1 rfl (lv_room (Nat.le_of_ble_eq_true rfl)) dX10_followHand_45 ⟨Nat.le_of_ble_eq_true rfl, Nat.le_of_ble_eq_true rfl⟩) hS (fun G_17 H locs hpo hW hS => ?_)
  obtain ⟨hB_G_17, hq_18⟩ := hpo
  have hF := hF.call hq_18 (by decide) (by decide)
  refine lv_iconst (v := 0) hx hb dX10_followHand_48 (by decide) ?_
  refine lv_istore (lv' := [(7, .int 0), (6, .ref (a 45)), (5, .ref (a 44)), (0, .ref (a 8)), (1, .ref (a 7)), (2, .int 0), (3, .int p0), (4, .int p1)]) hx hb dX10_followHand_49 hl (by decide) rfl (fun ls hl => ?_)
  refine lv_iconst (v := 0) hx hb dX10_followHand_51 (by decide) ?_
  refine lv_iload_n hx hb dX10_followHand_52 rfl (lv_at hl 6 rfl) ?_
  refine va_mmax hx hb (by rw [hml]; exact hl.1.symm) hown (hg (Cond.methodLink RX10 82 Lib.Math.max.name) m1044) (hg (Cond.static Lib.Math.max.name) m728) (hg (Cond.initialized "java/lang/Math") m132) (hg (Cond.code Lib.Math.max.name Lib.Math.max.code 2 (some .int)) m729) (Nat.le_of_ble_eq_true rfl) (Nat.le_of_ble_eq_true rfl) (Nat.le_of_ble_eq_true rfl) (Nat.le_of_ble_eq_true rfl) dX10_followHand_53 ?_
  refine lv_topi (fun y_20 ey_20 => ?_)
  have ty_20 := xI_max (X := 0) (Y := p0.toInt) rfl rfl ey_20
  refine lv_istore (lv' := [(8, .int y_20), (7, .int 0), (6, .ref (a 45)), (5, .ref (a 44)), (0, .ref (a 8)), (1, .ref (a 7)), (2, .int 0), (3, .int p0), (4, .int p1)]) hx hb dX10_followHand_56 hl (by decide) rfl (fun ls hl => ?_)
  refine lv_iconst (v := 0) hx hb dX10_followHand_58 (by decide) ?_
  refine lv_iload hx hb dX10_followHand_59 (lv_at hl 0 rfl) ?_
  refine lv_aload_n hx hb dX10_followHand_61 rfl (lv_at hl 5 rfl) ?_
  have b_21 : 0 ≤ (G.1 7 4).toInt ∧ (G.1 7 4).toInt ≤ 60 := hB_G.i 7 4 rfl rfl
  refine S_getI (v := (G.1 7 4)) (C := RX0) (T := TX0) (N := 8) hx hb hg iX0 hown hK hW kd_7 rfl 4 (by decide) (hg (Cond.fieldLink RX10 64 "SlabWalk$Course" "most" "I") m383) (fun _ h9 => h9) rfl ((hq_18.i 7 4 (by decide) (by decide)).trans ((hq_14.i 7 4 (by decide) (by decide)).trans ((hq_10.i 7 4 (by decide) (by decide)).trans (hq_6.i 7 4 (by decide) (by decide))))) dX10_followHand_62 ?_
  refine lv_isub hx hb dX10_followHand_65 ?_
  refine lv_topi (fun y_22 ey_22 => ?_)
  have ty_22 : y_22.toInt = y_20.toInt - (G.1 7 4).toInt := xI_sub rfl rfl ey_22 (by omega) (by omega)
  refine va_mmax hx hb (by rw [hml]; exact hl.1.symm) hown (hg (Cond.methodLink RX10 82 Lib.Math.max.name) m1044) (hg (Cond.static Lib.Math.max.name) m728) (hg (Cond.initialized "java/lang/Math") m132) (hg (Cond.code Lib.Math.max.name Lib.Math.max.code 2 (some .int)) m729) (Nat.le_of_ble_eq_true rfl) (Nat.le_of_ble_eq_true rfl) (Nat.le_of_ble_eq_true rfl) (Nat.le_of_ble_eq_true rfl) dX10_followHand_66 ?_
  refine lv_topi (fun y_23 ey_23 => ?_)
  have ty_23 := xI_max (X := 0) (Y := y_22.toInt) rfl rfl ey_23
  refine lv_istore (lv' := [(9, .int y_23), (8, .int y_20), (7, .int 0), (6, .ref (a 45)), (5, .ref (a 44)), (0, .ref (a 8)), (1, .ref (a 7)), (2, .int 0), (3, .int p0), (4, .int p1)]) hx hb dX10_followHand_69 hl (by decide) rfl (fun ls hl => ?_)
  refine lv_iconst (v := 0) hx hb dX10_followHand_71 (by decide) ?_
  refine lv_iload hx hb dX10_followHand_72 (lv_at hl 1 rfl) ?_
  refine lv_aload_n hx hb dX10_followHand_74 rfl (lv_at hl 6 rfl) ?_
  have b_24 : 0 ≤ (G.1 7 5).toInt ∧ (G.1 7 5).toInt ≤ 99 := hB_G.i 7 5 rfl rfl
  refine S_getI (v := (G.1 7 5)) (C := RX0) (T := TX0) (N := 8) hx hb hg iX0 hown hK hW kd_7 rfl 5 (by decide) (hg (Cond.fieldLink RX10 71 "SlabWalk$Course" "leap" "I") m386) (fun _ h9 => h9) rfl ((hq_18.i 7 5 (by decide) (by decide)).trans ((hq_14.i 7 5 (by decide) (by decide)).trans ((hq_10.i 7 5 (by decide) (by decide)).trans (hq_6.i 7 5 (by decide) (by decide))))) dX10_followHand_75 ?_
  refine lv_isub hx hb dX10_followHand_78 ?_
  refine lv_topi (fun y_25 ey_25 => ?_)
  have ty_25 : y_25.toInt = y_20.toInt - (G.1 7 5).toInt := xI_sub rfl rfl ey_25 (by omega) (by omega)
  refine va_mmax hx hb (by rw [hml]; exact hl.1.symm) hown (hg (Cond.methodLink RX10 82 Lib.Math.max.name) m1044) (hg (Cond.static Lib.Math.max.name) m728) (hg (Cond.initialized "java/lang/Math") m132) (hg (Cond.code Lib.Math.max.name Lib.Math.max.code 2 (some .int)) m729) (Nat.le_of_ble_eq_true rfl) (Nat.le_of_ble_eq_true rfl) (Nat.le_of_ble_eq_true rfl) (Nat.le_of_ble_eq_true rfl) dX10_followHand_79 ?_
  refine lv_topi (fun y_26 ey_26 => ?_)
  have ty_26 := xI_max (X := 0) (Y := y_25.toInt) rfl rfl ey_26
  refine lv_istore (lv' := [(10, .int y_26), (9, .int y_23), (8, .int y_20), (7, .int 0), (6, .ref (a 45)), (5, .ref (a 44)), (0, .ref (a 8)), (1, .ref (a 7)), (2, .int 0), (3, .int p0), (4, .int p1)]) hx hb dX10_followHand_82 hl (by decide) rfl (fun ls hl => ?_)
  refine lv_iload hx hb dX10_followHand_84 (lv_at hl 2 rfl) ?_
  refine lv_istore (lv' := [(11, .int y_20), (10, .int y_26), (9, .int y_23), (8, .int y_20), (7, .int 0), (6, .ref (a 45)), (5, .ref (a 44)), (0, .ref (a 8)), (1, .ref (a 7)), (2, .int 0), (3, .int p0), (4, .int p1)]) hx hb dX10_followHand_86 hl (by decide) rfl (fun ls hl => ?_)
  have qc_35 : (0 : Int32).toInt = 0 := rfl
  refine loop_N (Inv := fun n H locs ls => ∃ (G_27 : GS) (x_31 : Int32) (x_32 : Int32) (x_33 : Int32) (x_34 : Int32), (n : Int) = 39600 - x_31.toInt ∧ (0 ≤ x_31.toInt ∧ x_31.toInt ≤ 39600) ∧ (0 ≤ x_32.toInt ∧ x_32.toInt ≤ 39600) ∧ (0 ≤ x_33.toInt ∧ x_33.toInt ≤ 39600) ∧ (0 ≤ x_34.toInt ∧ x_34.toInt ≤ 1) ∧ Wd D k A a G_27 H ∧ Bd G_27 ∧ Fr [44, 45, 48, 49, 50, 51] [(9, 2), (9, 3), (19, 2), (19, 3)] G G_27 ∧ Fr [44, 45, 48, 49, 50, 51] [(9, 2), (9, 3), (19, 2), (19, 3)] G_17 G_27 ∧ va_S A s.heap H locs ∧ lv_has ls 12 [(11, .int x_31), (10, .int x_32), (9, .int x_33), (7, .int x_34), (6, .ref (a 45)), (5, .ref (a 44)), (0, .ref (a 8)), (1, .ref (a 7)), (2, .int 0), (4, .int p1)]) (fun n_30 H locs ls ih_29 hI => ?_) (39600 - y_20.toInt : Int).toNat ⟨G_17, y_20, y_26, y_23, 0, (Int.toNat_of_nonneg (by omega)), ⟨by omega, by omega⟩, ⟨by omega, by omega⟩, ⟨by omega, by omega⟩, ⟨by omega, by omega⟩, hW, hB_G_17, hF, Fr.rf, hS, lv_sub hl [0, 1, 2, 4, 5, 6, 7, 8, 9, 11] rfl⟩
  obtain ⟨G_27, x_31, x_32, x_33, x_34, hn_40, f_36, f_37, f_38, f_39, hW, hB_G_27, hF, hq_28, hS, hl⟩ := hI
  refine lv_iload hx hb dX10_followHand_88 (lv_at hl 0 rfl) ?_
  refine lv_iload hx hb dX10_followHand_90 (lv_at hl 9 rfl) ?_
  refine lv_aload_n hx hb dX10_followHand_92 rfl (lv_at hl 7 rfl) ?_
  refine S_getI (v := (G.1 7 6)) (C := RX0) (T := TX0) (N := 8) hx hb hg iX0 hown hK hW kd_7 rfl 6 (by decide) (hg (Cond.fieldLink RX10 34 "SlabWalk$Course" "last" "I") m388) (fun _ h9 => h9) rfl ((hq_28.i 7 6 (by decide) (by decide)).trans ((hq_18.i 7 6 (by decide) (by decide)).trans ((hq_14.i 7 6 (by decide) (by decide)).trans ((hq_10.i 7 6 (by decide) (by decide)).trans ((hq_6.i 7 6 (by decide) (by decide)).trans (rfl)))))) dX10_followHand_93 ?_
  refine va_mmin hx hb (by rw [hml]; exact hl.1.symm) hown (hg (Cond.methodLink RX10 49 Lib.Math.min.name) m1001) (hg (Cond.static Lib.Math.min.name) m636) (hg (Cond.initialized "java/lang/Math") m132) (hg (Cond.code Lib.Math.min.name Lib.Math.min.code 2 (some .int)) m637) (Nat.le_of_ble_eq_true rfl) (Nat.le_of_ble_eq_true rfl) (Nat.le_of_ble_eq_true rfl) (Nat.le_of_ble_eq_true rfl) dX10_followHand_96 ?_
  refine lv_topi (fun y_41 ey_41 => ?_)
  have ty_41 := xI_min (X := p1.toInt) (Y := (G.1 7 6).toInt) rfl rfl ey_41
  refine lv_icmp_gt (tgt := 299) hx hb dX10_followHand_99 (by decide) (fun c_42 => ?_) (fun c_42 => ?_)
  · have c_42 : y_41.toInt < x_31.toInt := xI_lt rfl rfl c_42
    refine lv_iload hx hb dX10_followHand_299 (lv_at hl 3 rfl) ?_
    exact W.zret (v := x_34) hx hb hr (nar_z (by omega) (by omega)) (fun t ht _ => ⟨⟨x_34, G_27, rfl, ⟨hB_G_27, hF, ⟨by omega, by omega⟩⟩, wd_t ht hW⟩, hS.F ht⟩) hS.2.2 dX10_followHand_301
  · have c_42 : x_31.toInt ≤ y_41.toInt := xI_nlt rfl rfl c_42
    refine loop_N (Inv := fun n H locs ls => ∃ (G_43 : GS) (x_47 : Int32), (n : Int) = 39600 - x_47.toInt ∧ (0 ≤ x_47.toInt ∧ x_47.toInt ≤ 39600) ∧ Wd D k A a G_43 H ∧ Bd G_43 ∧ Fr [44, 45, 48, 49, 50, 51] [(9, 2), (9, 3), (19, 2), (19, 3)] G G_43 ∧ Fr [44, 45, 48, 49, 50, 51] [(9, 2), (9, 3), (19, 2), (19, 3)] G_27 G_43 ∧ va_S A s.heap H locs ∧ lv_has ls 12 [(11, .int x_31), (10, .int x_32), (9, .int x_47), (7, .int x_34), (6, .ref (a 45)), (5, .ref (a 44)), (0, .ref (a 8)), (1, .ref (a 7)), (2, .int 0), (4, .int p1)]) (fun n_46 H locs ls ih_45 hI => ?_) (39600 - x_33.toInt : Int).toNat ⟨G_27, x_33, (Int.toNat_of_nonneg (by omega)), ⟨by omega, by omega⟩, hW, hB_G_27, hF, Fr.rf, hS, lv_sub hl [0, 1, 2, 3, 4, 5, 6, 7, 8, 9] rfl⟩
    obtain ⟨G_43, x_47, hn_49, f_48, hW, hB_G_43, hF, hq_44, hS, hl⟩ := hI
    refine lv_iload hx hb dX10_followHand_102 (lv_at hl 2 rfl) ?_
    refine lv_iload hx hb dX10_followHand_104 (lv_at hl 0 rfl) ?_
    refine lv_aload_n hx hb dX10_followHand_106 rfl (lv_at hl 7 rfl) ?_
    have b_50 : 0 ≤ (G.1 7 3).toInt ∧ (G.1 7 3).toInt ≤ 60 := hB_G.i 7 3 rfl rfl
    refine S_getI (v := (G.1 7 3)) (C := RX0) (T := TX0) (N := 8) hx hb hg iX0 hown hK hW kd_7 rfl 3 (by decide) (hg (Cond.fieldLink RX10 61 "SlabWalk$Course" "least" "I") m378) (fun _ h9 => h9) rfl ((hq_44.i 7 3 (by decide) (by decide)).trans ((hq_28.i 7 3 (by decide) (by decide)).trans ((hq_18.i 7 3 (by decide) (by decide)).trans ((hq_14.i 7 3 (by decide) (by decide)).trans ((hq_10.i 7 3 (by decide) (by decide)).trans (hq_6.i 7 3 (by decide) (by decide))))))) dX10_followHand_107 ?_
    refine lv_isub hx hb dX10_followHand_110 ?_
    refine lv_topi (fun y_51 ey_51 => ?_)
    have ty_51 : y_51.toInt = x_31.toInt - (G.1 7 3).toInt := xI_sub rfl rfl ey_51 (by omega) (by omega)
    refine W.cut (σ := Unit) (pcJ := 161) (J := fun y H locs ls => ∃ (G_62 : GS), Wd D k A a G_62 H ∧ Bd G_62 ∧ Fr [44, 45, 48, 49, 50, 51] [(9, 2), (9, 3), (19, 2), (19, 3)] G G_62 ∧ Fr [48, 49] [(9, 3)] G_43 G_62 ∧ va_S A s.heap H locs ∧ lv_has ls 12 [(11, .int x_31), (10, .int x_32), (9, .int x_47), (7, .int x_34), (6, .ref (a 45)), (5, .ref (a 44)), (0, .ref (a 8)), (1, .ref (a 7)), (2, .int 0), (4, .int p1)]) (stJ := fun _ => []) ?_ (fun hJ_63 => ?_)
    · intro y H locs ls hI
      obtain ⟨G_62, hW, hB_G_62, hF, hq_64, hS, hl⟩ := hI
      refine loop_N (Inv := fun n H locs ls => ∃ (G_65 : GS) (x_69 : Int32), (n : Int) = 39600 - x_69.toInt ∧ (0 ≤ x_69.toInt ∧ x_69.toInt ≤ 39600) ∧ Wd D k A a G_65 H ∧ Bd G_65 ∧ Fr [44, 45, 48, 49, 50, 51] [(9, 2), (9, 3), (19, 2), (19, 3)] G G_65 ∧ Fr [44, 45, 50, 51] [(9, 2), (19, 2), (19, 3)] G_62 G_65 ∧ va_S A s.heap H locs ∧ lv_has ls 12 [(11, .int x_31), (10, .int x_69), (9, .int x_47), (7, .int x_34), (6, .ref (a 45)), (5, .ref (a 44)), (0, .ref (a 8)), (1, .ref (a 7)), (2, .int 0), (4, .int p1)]) (fun n_68 H locs ls ih_67 hI => ?_) (39600 - x_32.toInt : Int).toNat ⟨G_62, x_32, (Int.toNat_of_nonneg (by omega)), ⟨by omega, by omega⟩, hW, hB_G_62, hF, Fr.rf, hS, lv_sub hl [0, 1, 2, 3, 4, 5, 6, 7, 8, 9] rfl⟩
      obtain ⟨G_65, x_69, hn_71, f_70, hW, hB_G_65, hF, hq_66, hS, hl⟩ := hI
      refine lv_iload hx hb dX10_followHand_161 (lv_at hl 1 rfl) ?_
      refine lv_iload hx hb dX10_followHand_163 (lv_at hl 0 rfl) ?_
      refine lv_aload_n hx hb dX10_followHand_165 rfl (lv_at hl 7 rfl) ?_
      refine S_getI (v := (G.1 7 4)) (C := RX0) (T := TX0) (N := 8) hx hb hg iX0 hown hK hW kd_7 rfl 4 (by decide) (hg (Cond.fieldLink RX10 64 "SlabWalk$Course" "most" "I") m383) (fun _ h9 => h9) rfl ((hq_66.i 7 4 (by decide) (by decide)).trans ((hq_64.i 7 4 (by decide) (by decide)).trans ((hq_44.i 7 4 (by decide) (by decide)).trans ((hq_28.i 7 4 (by decide) (by decide)).trans ((hq_18.i 7 4 (by decide) (by decide)).trans ((hq_14.i 7 4 (by decide) (by decide)).trans ((hq_10.i 7 4 (by decide) (by decide)).trans ((hq_6.i 7 4 (by decide) (by decide)).trans (rfl))))))))) dX10_followHand_166 ?_
      refine lv_isub hx hb dX10_followHand_169 ?_
      refine lv_topi (fun y_72 ey_72 => ?_)
      have ty_72 : y_72.toInt = x_31.toInt - (G.1 7 4).toInt := xI_sub rfl rfl ey_72 (by omega) (by omega)
      refine W.cut (σ := Unit) (pcJ := 213) (J := fun y H locs ls => ∃ (G_83 : GS), Wd D k A a G_83 H ∧ Bd G_83 ∧ Fr [44, 45, 48, 49, 50, 51] [(9, 2), (9, 3), (19, 2), (19, 3)] G G_83 ∧ Fr [50, 51] [(19, 3)] G_65 G_83 ∧ va_S A s.heap H locs ∧ lv_has ls 12 [(11, .int x_31), (10, .int x_69), (9, .int x_47), (7, .int x_34), (6, .ref (a 45)), (5, .ref (a 44)), (0, .ref (a 8)), (1, .ref (a 7)), (2, .int 0), (4, .int p1)]) (stJ := fun _ => []) ?_ (fun hJ_84 => ?_)
      · intro y H locs ls hI
        obtain ⟨G_83, hW, hB_G_83, hF, hq_85, hS, hl⟩ := hI
        refine lv_aload_n hx hb dX10_followHand_213 rfl (lv_at hl 7 rfl) ?_
        refine S_getR (n := 40) (C := RX0) (T := TX0) (N := 8) hx hb hg iX0 hown hK hW kd_7 rfl 0 (by decide) (hg (Cond.fieldLink RX10 55 "SlabWalk$Course" "lawful" "[Z") m373) (fun _ h9 => h9) rfl dX10_followHand_214 ?_
        refine lv_iload hx hb dX10_followHand_217 (lv_at hl 0 rfl) ?_
        refine S_zald hx hb hK hW kd_40 (vin (by omega) (by omega)) dX10_followHand_219 (fun y_86 ey_86 => ?_)
        have ty_86 : 0 ≤ y_86.toInt ∧ y_86.toInt ≤ 1 := hB_G_83.v ey_86 rfl rfl
        refine lv_if_eq (tgt := 293) hx hb dX10_followHand_220 (by decide) (fun c_87 => ?_) (fun c_87 => ?_)
        · have c_87 : y_86.toInt = 0 := xI_eq rfl rfl c_87
          obtain ⟨y_88, ey_88⟩ : ∃ q, q = x_31 + 1 := ⟨_, rfl⟩
          have ty_88 : y_88.toInt = x_31.toInt + 1 := xI_add rfl rfl ey_88 (by omega) (by omega)
          refine lv_iinc (v := y_88) (lv' := [(11, .int y_88), (10, .int x_69), (9, .int x_47), (7, .int x_34), (6, .ref (a 45)), (5, .ref (a 44)), (0, .ref (a 8)), (1, .ref (a 7)), (2, .int 0), (4, .int p1)]) hx hb dX10_followHand_293 hl (k := 0) rfl (by rw [ey_88]; rfl) (by decide) rfl (fun ls hl => ?_)
          refine lv_goto (tgt := 88) hx hb dX10_followHand_296 (by decide) ?_
          exact ih_29 (39600 - y_88.toInt : Int).toNat (by omega) _ _ _ ⟨G_83, y_88, x_69, x_47, x_34, (Int.toNat_of_nonneg (by omega)), ⟨by omega, by omega⟩, ⟨by omega, by omega⟩, ⟨by omega, by omega⟩, ⟨by omega, by omega⟩, hW, hB_G_83, hF, (((((Fr.rf.call hq_28 (by decide) (by decide)).call hq_44 (by decide) (by decide)).call hq_64 (by decide) (by decide)).call hq_66 (by decide) (by decide)).call hq_85 (by decide) (by decide)), hS, lv_sub hl [0, 1, 2, 3, 4, 5, 6, 7, 8, 9] rfl⟩
        · have c_87 : y_86.toInt ≠ 0 := xI_ne rfl rfl c_87
          refine lv_aload hx hb dX10_followHand_223 (lv_at hl 5 rfl) ?_
          refine lv_iload hx hb dX10_followHand_225 (lv_at hl 0 rfl) ?_
          refine lv_aload_n hx hb dX10_followHand_227 rfl (lv_at hl 6 rfl) ?_
          refine S_getR (n := 9) (C := RX10) (T := TX10) (N := 5) hx hb hg iX10 hown hK hW kd_8 rfl 1 (by decide) (hg (Cond.fieldLink RX10 19 "SlabWalk$Trails" "steps" "LSlabWalk$Minima;") m441) (fun _ h9 => h9) rfl dX10_followHand_228 ?_
          refine lv_iload hx hb dX10_followHand_231 (lv_at hl 0 rfl) ?_
          refine lv_aload_n hx hb dX10_followHand_233 rfl (lv_at hl 7 rfl) ?_
          refine S_getI (v := (G.1 7 4)) (C := RX0) (T := TX0) (N := 8) hx hb hg iX0 hown hK hW kd_7 rfl 4 (by decide) (hg (Cond.fieldLink RX10 64 "SlabWalk$Course" "most" "I") m383) (fun _ h9 => h9) rfl ((hq_85.i 7 4 (by decide) (by decide)).trans ((hq_66.i 7 4 (by decide) (by decide)).trans ((hq_64.i 7 4 (by decide) (by decide)).trans ((hq_44.i 7 4 (by decide) (by decide)).trans ((hq_28.i 7 4 (by decide) (by decide)).trans ((hq_18.i 7 4 (by decide) (by decide)).trans ((hq_14.i 7 4 (by decide) (by decide)).trans ((hq_10.i 7 4 (by decide) (by decide)).trans ((hq_6.i 7 4 (by decide) (by decide)).trans (rfl)))))))))) dX10_followHand_234 ?_
          refine lv_isub hx hb dX10_followHand_237 ?_
          refine lv_topi (fun y_89 ey_89 => ?_)
          have ty_89 : y_89.toInt = x_31.toInt - (G.1 7 4).toInt := xI_sub rfl rfl ey_89 (by omega) (by omega)
          refine S_calli (va_runV (As := [.int y_89]) (rest := [.int x_31, .ref (a 44)]) ⟨hx, hb, hml, hown, hts⟩ (k_mleast_9 l D k A a z G_83 y_89 ) (cwV 1 hts (gd_V hgd m1108 m1109 m1110 m125 m1111) rfl rfl rfl (by decide +kernel) ⟨Nat.le_of_ble_eq_true rfl, Nat.le_of_ble_eq_true rfl⟩) (pre_V hW hB_G_83 hK hZ hS kd_9 rfl) rfl rfl hl.1 rfl (lv_room (Nat.le_of_ble_eq_true rfl)) dX10_followHand_238 ⟨Nat.le_of_ble_eq_true rfl, Nat.le_of_ble_eq_true rfl⟩) hS (fun r_90 G_91 H locs hpo hW hS => ?_)
          obtain ⟨hB_G_91, hq_92⟩ := hpo
          have hF := hF.call hq_92 (by decide) (by decide)
          refine S_iast hx hb hK hW hS kd_44 (vin (by omega) (by omega)) dX10_followHand_241 (fun G_94 H locs eG_94 hW hS => ?_)
          have hB_G_94 : Bd G_94 := hB_G_91.put (lo := (-2147483648)) (hi := 2147483647) eG_94 rfl rfl rfl (tI_rng _).1 (tI_rng _).2 (hB_G_91.2.put eG_94 rfl)
          have hF := hF.put eG_94 (Or.inl (by decide))
          refine lv_aload hx hb dX10_followHand_242 (lv_at hl 4 rfl) ?_
          refine lv_iload hx hb dX10_followHand_244 (lv_at hl 0 rfl) ?_
          refine lv_aload_n hx hb dX10_followHand_246 rfl (lv_at hl 6 rfl) ?_
          refine S_getR (n := 19) (C := RX10) (T := TX10) (N := 5) hx hb hg iX10 hown hK hW kd_8 rfl 2 (by decide) (hg (Cond.fieldLink RX10 23 "SlabWalk$Trails" "leaps" "LSlabWalk$Minima;") m442) (fun _ h9 => h9) rfl dX10_followHand_247 ?_
          refine lv_iload hx hb dX10_followHand_250 (lv_at hl 0 rfl) ?_
          refine lv_aload_n hx hb dX10_followHand_252 rfl (lv_at hl 7 rfl) ?_
          refine S_getI (v := (G.1 7 5)) (C := RX0) (T := TX0) (N := 8) hx hb hg iX0 hown hK hW kd_7 rfl 5 (by decide) (hg (Cond.fieldLink RX10 71 "SlabWalk$Course" "leap" "I") m386) (fun _ h9 => h9) rfl ((gp_ne eG_94 (fun q => absurd q.1 (by decide))).trans ((hq_92.i 7 5 (by decide) (by decide)).trans ((hq_85.i 7 5 (by decide) (by decide)).trans ((hq_66.i 7 5 (by decide) (by decide)).trans ((hq_64.i 7 5 (by decide) (by decide)).trans ((hq_44.i 7 5 (by decide) (by decide)).trans ((hq_28.i 7 5 (by decide) (by decide)).trans ((hq_18.i 7 5 (by decide) (by decide)).trans ((hq_14.i 7 5 (by decide) (by decide)).trans ((hq_10.i 7 5 (by decide) (by decide)).trans ((hq_6.i 7 5 (by decide) (by decide)).trans (rfl)))))))))))) dX10_followHand_253 ?_
          refine lv_isub hx hb dX10_followHand_256 ?_
          refine lv_topi (fun y_95 ey_95 => ?_)
          have ty_95 : y_95.toInt = x_31.toInt - (G.1 7 5).toInt := xI_sub rfl rfl ey_95 (by omega) (by omega)
          refine S_calli (va_runV (As := [.int y_95]) (rest := [.int x_31, .ref (a 45)]) ⟨hx, hb, hml, hown, hts⟩ (k_mleast_19 l D k A a z G_94 y_95 ) (cwV 1 hts (gd_V hgd m1108 m1109 m1110 m125 m1111) rfl rfl rfl (by decide +kernel) ⟨Nat.le_of_ble_eq_true rfl, Nat.le_of_ble_eq_true rfl⟩) (pre_V hW hB_G_94 hK hZ hS kd_19 rfl) rfl rfl hl.1 rfl (lv_room (Nat.le_of_ble_eq_true rfl)) dX10_followHand_257 ⟨Nat.le_of_ble_eq_true rfl, Nat.le_of_ble_eq_true rfl⟩) hS (fun r_96 G_97 H locs hpo hW hS => ?_)
          obtain ⟨hB_G_97, hq_98⟩ := hpo
          have hF := hF.call hq_98 (by decide) (by decide)
          refine S_iast hx hb hK hW hS kd_45 (vin (by omega) (by omega)) dX10_followHand_260 (fun G_100 H locs eG_100 hW hS => ?_)
          have hB_G_100 : Bd G_100 := hB_G_97.put (lo := (-2147483648)) (hi := 2147483647) eG_100 rfl rfl rfl (tI_rng _).1 (tI_rng _).2 (hB_G_97.2.put eG_100 rfl)
          have hF := hF.put eG_100 (Or.inl (by decide))
          refine lv_iload hx hb dX10_followHand_261 (lv_at hl 3 rfl) ?_
          refine lv_if_ne (tgt := 286) hx hb dX10_followHand_263 (by decide) (fun c_101 => ?_) (fun c_101 => ?_)
          · have c_101 : x_34.toInt ≠ 0 := xI_ne rfl rfl c_101
            refine lv_iconst (v := 1) hx hb dX10_followHand_286 (by decide) ?_
            refine lv_goto (tgt := 291) hx hb dX10_followHand_287 (by decide) ?_
            refine lv_istore (lv' := [(7, .int 1), (11, .int x_31), (10, .int x_69), (9, .int x_47), (6, .ref (a 45)), (5, .ref (a 44)), (0, .ref (a 8)), (1, .ref (a 7)), (2, .int 0), (4, .int p1)]) hx hb dX10_followHand_291 hl (by decide) rfl (fun ls hl => ?_)
            obtain ⟨y_102, ey_102⟩ : ∃ q, q = x_31 + 1 := ⟨_, rfl⟩
            have ty_102 : y_102.toInt = x_31.toInt + 1 := xI_add rfl rfl ey_102 (by omega) (by omega)
            refine lv_iinc (v := y_102) (lv' := [(11, .int y_102), (7, .int 1), (10, .int x_69), (9, .int x_47), (6, .ref (a 45)), (5, .ref (a 44)), (0, .ref (a 8)), (1, .ref (a 7)), (2, .int 0), (4, .int p1)]) hx hb dX10_followHand_293 hl (k := 1) rfl (by rw [ey_102]; rfl) (by decide) rfl (fun ls hl => ?_)
            refine lv_goto (tgt := 88) hx hb dX10_followHand_296 (by decide) ?_
            have qc_103 : (1 : Int32).toInt = 1 := rfl
            exact ih_29 (39600 - y_102.toInt : Int).toNat (by omega) _ _ _ ⟨G_100, y_102, x_69, x_47, 1, (Int.toNat_of_nonneg (by omega)), ⟨by omega, by omega⟩, ⟨by omega, by omega⟩, ⟨by omega, by omega⟩, ⟨by omega, by omega⟩, hW, hB_G_100, hF, (((((((((Fr.rf.call hq_28 (by decide) (by decide)).call hq_44 (by decide) (by decide)).call hq_64 (by decide) (by decide)).call hq_66 (by decide) (by decide)).call hq_85 (by decide) (by decide)).call hq_92 (by decide) (by decide)).put eG_94 (Or.inl (by decide))).call hq_98 (by decide) (by decide)).put eG_100 (Or.inl (by decide))), hS, lv_sub hl [0, 2, 3, 1, 4, 5, 6, 7, 8, 9] rfl⟩
          · have c_101 : x_34.toInt = 0 := xI_eq rfl rfl c_101
            refine lv_aload hx hb dX10_followHand_266 (lv_at hl 5 rfl) ?_
            refine lv_iload hx hb dX10_followHand_268 (lv_at hl 0 rfl) ?_
            refine S_iald hx hb hK hW kd_44 (vin (by omega) (by omega)) dX10_followHand_270 (fun y_104 ey_104 => ?_)
            refine lv_ldc (v := 1000000) hx hb hown (hg (Cond.constant RX10 44 1000000) m997) dX10_followHand_271 ?_
            refine lv_icmp_lt (tgt := 286) hx hb dX10_followHand_273 (by decide) (fun c_105 => ?_) (fun c_105 => ?_)
            · have c_105 : y_104.toInt < 1000000 := xI_lt rfl rfl c_105
              refine lv_iconst (v := 1) hx hb dX10_followHand_286 (by decide) ?_
              refine lv_goto (tgt := 291) hx hb dX10_followHand_287 (by decide) ?_
              refine lv_istore (lv' := [(7, .int 1), (11, .int x_31), (10, .int x_69), (9, .int x_47), (6, .ref (a 45)), (5, .ref (a 44)), (0, .ref (a 8)), (1, .ref (a 7)), (2, .int 0), (4, .int p1)]) hx hb dX10_followHand_291 hl (by decide) rfl (fun ls hl => ?_)
              obtain ⟨y_106, ey_106⟩ : ∃ q, q = x_31 + 1 := ⟨_, rfl⟩
              have ty_106 : y_106.toInt = x_31.toInt + 1 := xI_add rfl rfl ey_106 (by omega) (by omega)
              refine lv_iinc (v := y_106) (lv' := [(11, .int y_106), (7, .int 1), (10, .int x_69), (9, .int x_47), (6, .ref (a 45)), (5, .ref (a 44)), (0, .ref (a 8)), (1, .ref (a 7)), (2, .int 0), (4, .int p1)]) hx hb dX10_followHand_293 hl (k := 1) rfl (by rw [ey_106]; rfl) (by decide) rfl (fun ls hl => ?_)
              refine lv_goto (tgt := 88) hx hb dX10_followHand_296 (by decide) ?_
              have qc_107 : (1 : Int32).toInt = 1 := rfl
              exact ih_29 (39600 - y_106.toInt : Int).toNat (by omega) _ _ _ ⟨G_100, y_106, x_69, x_47, 1, (Int.toNat_of_nonneg (by omega)), ⟨by omega, by omega⟩, ⟨by omega, by omega⟩, ⟨by omega, by omega⟩, ⟨by omega, by omega⟩, hW, hB_G_100, hF, (((((((((Fr.rf.call hq_28 (by decide) (by decide)).call hq_44 (by decide) (by decide)).call hq_64 (by decide) (by decide)).call hq_66 (by decide) (by decide)).call hq_85 (by decide) (by decide)).call hq_92 (by decide) (by decide)).put eG_94 (Or.inl (by decide))).call hq_98 (by decide) (by decide)).put eG_100 (Or.inl (by decide))), hS, lv_sub hl [0, 2, 3, 1, 4, 5, 6, 7, 8, 9] rfl⟩
            · have c_105 : 1000000 ≤ y_104.toInt := xI_nlt rfl rfl c_105
              refine lv_aload hx hb dX10_followHand_276 (lv_at hl 4 rfl) ?_
              refine lv_iload hx hb dX10_followHand_278 (lv_at hl 0 rfl) ?_
              refine S_iald hx hb hK hW kd_45 (vin (by omega) (by omega)) dX10_followHand_280 (fun y_108 ey_108 => ?_)
              refine lv_ldc (v := 1000000) hx hb hown (hg (Cond.constant RX10 44 1000000) m997) dX10_followHand_281 ?_
              refine lv_icmp_ge (tgt := 290) hx hb dX10_followHand_283 (by decide) (fun c_109 => ?_) (fun c_109 => ?_)
              · have c_109 : 1000000 ≤ y_108.toInt := xI_le rfl rfl c_109
                refine lv_iconst (v := 0) hx hb dX10_followHand_290 (by decide) ?_
                refine lv_istore (lv' := [(7, .int 0), (11, .int x_31), (10, .int x_69), (9, .int x_47), (6, .ref (a 45)), (5, .ref (a 44)), (0, .ref (a 8)), (1, .ref (a 7)), (2, .int 0), (4, .int p1)]) hx hb dX10_followHand_291 hl (by decide) rfl (fun ls hl => ?_)
                obtain ⟨y_110, ey_110⟩ : ∃ q, q = x_31 + 1 := ⟨_, rfl⟩
                have ty_110 : y_110.toInt = x_31.toInt + 1 := xI_add rfl rfl ey_110 (by omega) (by omega)
                refine lv_iinc (v := y_110) (lv' := [(11, .int y_110), (7, .int 0), (10, .int x_69), (9, .int x_47), (6, .ref (a 45)), (5, .ref (a 44)), (0, .ref (a 8)), (1, .ref (a 7)), (2, .int 0), (4, .int p1)]) hx hb dX10_followHand_293 hl (k := 1) rfl (by rw [ey_110]; rfl) (by decide) rfl (fun ls hl => ?_)
                refine lv_goto (tgt := 88) hx hb dX10_followHand_296 (by decide) ?_
                have qc_111 : (0 : Int32).toInt = 0 := rfl
                exact ih_29 (39600 - y_110.toInt : Int).toNat (by omega) _ _ _ ⟨G_100, y_110, x_69, x_47, 0, (Int.toNat_of_nonneg (by omega)), ⟨by omega, by omega⟩, ⟨by omega, by omega⟩, ⟨by omega, by omega⟩, ⟨by omega, by omega⟩, hW, hB_G_100, hF, (((((((((Fr.rf.call hq_28 (by decide) (by decide)).call hq_44 (by decide) (by decide)).call hq_64 (by decide) (by decide)).call hq_66 (by decide) (by decide)).call hq_85 (by decide) (by decide)).call hq_92 (by decide) (by decide)).put eG_94 (Or.inl (by decide))).call hq_98 (by decide) (by decide)).put eG_100 (Or.inl (by decide))), hS, lv_sub hl [0, 2, 3, 1, 4, 5, 6, 7, 8, 9] rfl⟩
              · have c_109 : y_108.toInt < 1000000 := xI_nle rfl rfl c_109
                refine lv_iconst (v := 1) hx hb dX10_followHand_286 (by decide) ?_
                refine lv_goto (tgt := 291) hx hb dX10_followHand_287 (by decide) ?_
                refine lv_istore (lv' := [(7, .int 1), (11, .int x_31), (10, .int x_69), (9, .int x_47), (6, .ref (a 45)), (5, .ref (a 44)), (0, .ref (a 8)), (1, .ref (a 7)), (2, .int 0), (4, .int p1)]) hx hb dX10_followHand_291 hl (by decide) rfl (fun ls hl => ?_)
                obtain ⟨y_112, ey_112⟩ : ∃ q, q = x_31 + 1 := ⟨_, rfl⟩
                have ty_112 : y_112.toInt = x_31.toInt + 1 := xI_add rfl rfl ey_112 (by omega) (by omega)
                refine lv_iinc (v := y_112) (lv' := [(11, .int y_112), (7, .int 1), (10, .int x_69), (9, .int x_47), (6, .ref (a 45)), (5, .ref (a 44)), (0, .ref (a 8)), (1, .ref (a 7)), (2, .int 0), (4, .int p1)]) hx hb dX10_followHand_293 hl (k := 1) rfl (by rw [ey_112]; rfl) (by decide) rfl (fun ls hl => ?_)
                refine lv_goto (tgt := 88) hx hb dX10_followHand_296 (by decide) ?_
                have qc_113 : (1 : Int32).toInt = 1 := rfl
                exact ih_29 (39600 - y_112.toInt : Int).toNat (by omega) _ _ _ ⟨G_100, y_112, x_69, x_47, 1, (Int.toNat_of_nonneg (by omega)), ⟨by omega, by omega⟩, ⟨by omega, by omega⟩, ⟨by omega, by omega⟩, ⟨by omega, by omega⟩, hW, hB_G_100, hF, (((((((((Fr.rf.call hq_28 (by decide) (by decide)).call hq_44 (by decide) (by decide)).call hq_64 (by decide) (by decide)).call hq_66 (by decide) (by decide)).call hq_85 (by decide) (by decide)).call hq_92 (by decide) (by decide)).put eG_94 (Or.inl (by decide))).call hq_98 (by decide) (by decide)).put eG_100 (Or.inl (by decide))), hS, lv_sub hl [0, 2, 3, 1, 4, 5, 6, 7, 8, 9] rfl⟩
      refine lv_icmp_ge (tgt := 213) hx hb dX10_followHand_170 (by decide) (fun c_114 => ?_) (fun c_114 => ?_)
      · have c_114 : y_72.toInt ≤ x_69.toInt := xI_le rfl rfl c_114
        exact hJ_84 () _ _ _ ⟨G_65, hW, hB_G_65, hF, Fr.rf, hS, lv_sub hl [0, 1, 2, 3, 4, 5, 6, 7, 8, 9] rfl⟩
      · have c_114 : x_69.toInt < y_72.toInt := xI_nle rfl rfl c_114
        refine lv_iload hx hb dX10_followHand_173 (lv_at hl 1 rfl) ?_
        refine lv_aload_n hx hb dX10_followHand_175 rfl (lv_at hl 7 rfl) ?_
        have b_115 : 0 ≤ (G.1 7 7).toInt ∧ (G.1 7 7).toInt ≤ 400 := hB_G.i 7 7 rfl rfl
        refine S_getI (v := (G.1 7 7)) (C := RX0) (T := TX0) (N := 8) hx hb hg iX0 hown hK hW kd_7 rfl 7 (by decide) (hg (Cond.fieldLink RX10 58 "SlabWalk$Course" "end" "I") m394) (fun _ h9 => h9) rfl ((hq_66.i 7 7 (by decide) (by decide)).trans ((hq_64.i 7 7 (by decide) (by decide)).trans ((hq_44.i 7 7 (by decide) (by decide)).trans ((hq_28.i 7 7 (by decide) (by decide)).trans ((hq_18.i 7 7 (by decide) (by decide)).trans ((hq_14.i 7 7 (by decide) (by decide)).trans ((hq_10.i 7 7 (by decide) (by decide)).trans (hq_6.i 7 7 (by decide) (by decide))))))))) dX10_followHand_176 ?_
        refine lv_icmp_ge (tgt := 213) hx hb dX10_followHand_179 (by decide) (fun c_116 => ?_) (fun c_116 => ?_)
        · have c_116 : (G.1 7 7).toInt ≤ x_69.toInt := xI_le rfl rfl c_116
          exact hJ_84 () _ _ _ ⟨G_65, hW, hB_G_65, hF, Fr.rf, hS, lv_sub hl [0, 1, 2, 3, 4, 5, 6, 7, 8, 9] rfl⟩
        · have c_116 : x_69.toInt < (G.1 7 7).toInt := xI_nle rfl rfl c_116
          refine lv_aload_n hx hb dX10_followHand_182 rfl (lv_at hl 6 rfl) ?_
          refine S_getR (n := 19) (C := RX10) (T := TX10) (N := 5) hx hb hg iX10 hown hK hW kd_8 rfl 2 (by decide) (hg (Cond.fieldLink RX10 23 "SlabWalk$Trails" "leaps" "LSlabWalk$Minima;") m442) (fun _ h9 => h9) rfl dX10_followHand_183 ?_
          refine lv_iload hx hb dX10_followHand_186 (lv_at hl 1 rfl) ?_
          refine lv_ldc (v := 1000000) hx hb hown (hg (Cond.constant RX10 44 1000000) m997) dX10_followHand_188 ?_
          refine lv_aload_n hx hb dX10_followHand_190 rfl (lv_at hl 6 rfl) ?_
          refine S_getR (n := 41) (C := RX10) (T := TX10) (N := 5) hx hb hg iX10 hown hK hW kd_8 rfl 0 (by decide) (hg (Cond.fieldLink RX10 13 "SlabWalk$Trails" "rows" "[[I") m440) (fun _ h9 => h9) rfl dX10_followHand_191 ?_
          refine lv_iload_n hx hb dX10_followHand_194 rfl (lv_at hl 8 rfl) ?_
          refine S_aald hx hb hK hW kd_41 (vin (by decide) (by decide)) dX10_followHand_195 ?_
          refine rows_at (n := 42) (rows_c hB_G_65 0 (by decide)) ?_
          refine lv_iload hx hb dX10_followHand_196 (lv_at hl 1 rfl) ?_
          refine S_iald hx hb hK hW kd_42 (vin (by omega) (by omega)) dX10_followHand_198 (fun y_117 ey_117 => ?_)
          refine lv_iconst (v := 1) hx hb dX10_followHand_199 (by decide) ?_
          refine lv_iadd hx hb dX10_followHand_200 ?_
          refine lv_topi (fun y_118 ey_118 => ?_)
          refine va_mmin hx hb (by rw [hml]; exact hl.1.symm) hown (hg (Cond.methodLink RX10 49 Lib.Math.min.name) m1001) (hg (Cond.static Lib.Math.min.name) m636) (hg (Cond.initialized "java/lang/Math") m132) (hg (Cond.code Lib.Math.min.name Lib.Math.min.code 2 (some .int)) m637) (Nat.le_of_ble_eq_true rfl) (Nat.le_of_ble_eq_true rfl) (Nat.le_of_ble_eq_true rfl) (Nat.le_of_ble_eq_true rfl) dX10_followHand_201 ?_
          refine lv_topi (fun y_119 ey_119 => ?_)
          have ty_119 := xI_min (X := 1000000) (Y := y_118.toInt) rfl rfl ey_119
          refine S_callv (va_runV (As := [.int x_69, .int y_119]) (rest := []) ⟨hx, hb, hml, hown, hts⟩ (k_madd_19 l D k A a z G_65 x_69 y_119 ) (cwV 2 hts (gd_V hgd m1104 m1105 m1106 m125 m1107) rfl rfl rfl (by decide +kernel) ⟨Nat.le_of_ble_eq_true rfl, Nat.le_of_ble_eq_true rfl⟩) (pre_V hW hB_G_65 hK hZ hS kd_19 rfl) rfl rfl hl.1 rfl (lv_room (Nat.le_of_ble_eq_true rfl)) dX10_followHand_204 ⟨Nat.le_of_ble_eq_true rfl, Nat.le_of_ble_eq_true rfl⟩) hS (fun G_121 H locs hpo hW hS => ?_)
          obtain ⟨hB_G_121, hq_122⟩ := hpo
          have hF := hF.call hq_122 (by decide) (by decide)
          obtain ⟨y_124, ey_124⟩ : ∃ q, q = x_69 + 1 := ⟨_, rfl⟩
          have ty_124 : y_124.toInt = x_69.toInt + 1 := xI_add rfl rfl ey_124 (by omega) (by omega)
          refine lv_iinc (v := y_124) (lv' := [(10, .int y_124), (11, .int x_31), (9, .int x_47), (7, .int x_34), (6, .ref (a 45)), (5, .ref (a 44)), (0, .ref (a 8)), (1, .ref (a 7)), (2, .int 0), (4, .int p1)]) hx hb dX10_followHand_207 hl (k := 1) rfl (by rw [ey_124]; rfl) (by decide) rfl (fun ls hl => ?_)
          refine lv_goto (tgt := 161) hx hb dX10_followHand_210 (by decide) ?_
          exact ih_67 (39600 - y_124.toInt : Int).toNat (by omega) _ _ _ ⟨G_121, y_124, (Int.toNat_of_nonneg (by omega)), ⟨by omega, by omega⟩, hW, hB_G_121, hF, ((Fr.rf.call hq_66 (by decide) (by decide)).call hq_122 (by decide) (by decide)), hS, lv_sub hl [1, 0, 2, 3, 4, 5, 6, 7, 8, 9] rfl⟩
    refine lv_icmp_gt (tgt := 161) hx hb dX10_followHand_111 (by decide) (fun c_125 => ?_) (fun c_125 => ?_)
    · have c_125 : y_51.toInt < x_47.toInt := xI_lt rfl rfl c_125
      exact hJ_63 () _ _ _ ⟨G_43, hW, hB_G_43, hF, Fr.rf, hS, lv_sub hl [0, 1, 2, 3, 4, 5, 6, 7, 8, 9] rfl⟩
    · have c_125 : x_47.toInt ≤ y_51.toInt := xI_nlt rfl rfl c_125
      refine lv_iload hx hb dX10_followHand_114 (lv_at hl 2 rfl) ?_
      refine lv_aload_n hx hb dX10_followHand_116 rfl (lv_at hl 7 rfl) ?_
      have b_126 : 0 ≤ (G.1 7 7).toInt ∧ (G.1 7 7).toInt ≤ 400 := hB_G.i 7 7 rfl rfl
      refine S_getI (v := (G.1 7 7)) (C := RX0) (T := TX0) (N := 8) hx hb hg iX0 hown hK hW kd_7 rfl 7 (by decide) (hg (Cond.fieldLink RX10 58 "SlabWalk$Course" "end" "I") m394) (fun _ h9 => h9) rfl ((hq_44.i 7 7 (by decide) (by decide)).trans ((hq_28.i 7 7 (by decide) (by decide)).trans ((hq_18.i 7 7 (by decide) (by decide)).trans ((hq_14.i 7 7 (by decide) (by decide)).trans ((hq_10.i 7 7 (by decide) (by decide)).trans (hq_6.i 7 7 (by decide) (by decide))))))) dX10_followHand_117 ?_
      refine lv_icmp_ge (tgt := 161) hx hb dX10_followHand_120 (by decide) (fun c_127 => ?_) (fun c_127 => ?_)
      · have c_127 : (G.1 7 7).toInt ≤ x_47.toInt := xI_le rfl rfl c_127
        exact hJ_63 () _ _ _ ⟨G_43, hW, hB_G_43, hF, Fr.rf, hS, lv_sub hl [0, 1, 2, 3, 4, 5, 6, 7, 8, 9] rfl⟩
      · have c_127 : x_47.toInt < (G.1 7 7).toInt := xI_nle rfl rfl c_127
        refine lv_aload_n hx hb dX10_followHand_123 rfl (lv_at hl 6 rfl) ?_
        refine S_getR (n := 9) (C := RX10) (T := TX10) (N := 5) hx hb hg iX10 hown hK hW kd_8 rfl 1 (by decide) (hg (Cond.fieldLink RX10 19 "SlabWalk$Trails" "steps" "LSlabWalk$Minima;") m441) (fun _ h9 => h9) rfl dX10_followHand_124 ?_
        refine lv_iload hx hb dX10_followHand_127 (lv_at hl 2 rfl) ?_
        refine lv_aload_n hx hb dX10_followHand_129 rfl (lv_at hl 6 rfl) ?_
        refine S_getR (n := 41) (C := RX10) (T := TX10) (N := 5) hx hb hg iX10 hown hK hW kd_8 rfl 0 (by decide) (hg (Cond.fieldLink RX10 13 "SlabWalk$Trails" "rows" "[[I") m440) (fun _ h9 => h9) rfl dX10_followHand_130 ?_
        refine lv_iload_n hx hb dX10_followHand_133 rfl (lv_at hl 8 rfl) ?_
        refine S_aald hx hb hK hW kd_41 (vin (by decide) (by decide)) dX10_followHand_134 ?_
        refine rows_at (n := 42) (rows_c hB_G_43 0 (by decide)) ?_
        refine lv_iload hx hb dX10_followHand_135 (lv_at hl 2 rfl) ?_
        refine S_iald hx hb hK hW kd_42 (vin (by omega) (by omega)) dX10_followHand_137 (fun y_128 ey_128 => ?_)
        refine lv_aload_n hx hb dX10_followHand_138 rfl (lv_at hl 6 rfl) ?_
        refine S_getR (n := 41) (C := RX10) (T := TX10) (N := 5) hx hb hg iX10 hown hK hW kd_8 rfl 0 (by decide) (hg (Cond.fieldLink RX10 13 "SlabWalk$Trails" "rows" "[[I") m440) (fun _ h9 => h9) rfl dX10_followHand_139 ?_
        refine lv_iload_n hx hb dX10_followHand_142 rfl (lv_at hl 8 rfl) ?_
        refine lv_iconst (v := 1) hx hb dX10_followHand_143 (by decide) ?_
        refine lv_iadd hx hb dX10_followHand_144 ?_
        refine lv_topi (fun y_129 ey_129 => ?_)
        obtain rfl : y_129 = 1 := ey_129.trans (by decide)
        refine S_aald hx hb hK hW kd_41 (vin (by decide) (by decide)) dX10_followHand_145 ?_
        refine rows_at (n := 43) (rows_c hB_G_43 1 (by decide)) ?_
        refine lv_iload hx hb dX10_followHand_146 (lv_at hl 2 rfl) ?_
        refine S_iald hx hb hK hW kd_43 (vin (by omega) (by omega)) dX10_followHand_148 (fun y_130 ey_130 => ?_)
        refine va_mmin hx hb (by rw [hml]; exact hl.1.symm) hown (hg (Cond.methodLink RX10 49 Lib.Math.min.name) m1001) (hg (Cond.static Lib.Math.min.name) m636) (hg (Cond.initialized "java/lang/Math") m132) (hg (Cond.code Lib.Math.min.name Lib.Math.min.code 2 (some .int)) m637) (Nat.le_of_ble_eq_true rfl) (Nat.le_of_ble_eq_true rfl) (Nat.le_of_ble_eq_true rfl) (Nat.le_of_ble_eq_true rfl) dX10_followHand_149 ?_
        refine lv_topi (fun y_131 ey_131 => ?_)
        have ty_131 := xI_min (X := y_128.toInt) (Y := y_130.toInt) rfl rfl ey_131
        refine S_callv (va_runV (As := [.int x_47, .int y_131]) (rest := []) ⟨hx, hb, hml, hown, hts⟩ (k_madd_9 l D k A a z G_43 x_47 y_131 ) (cwV 2 hts (gd_V hgd m1104 m1105 m1106 m125 m1107) rfl rfl rfl (by decide +kernel) ⟨Nat.le_of_ble_eq_true rfl, Nat.le_of_ble_eq_true rfl⟩) (pre_V hW hB_G_43 hK hZ hS kd_9 rfl) rfl rfl hl.1 rfl (lv_room (Nat.le_of_ble_eq_true rfl)) dX10_followHand_152 ⟨Nat.le_of_ble_eq_true rfl, Nat.le_of_ble_eq_true rfl⟩) hS (fun G_133 H locs hpo hW hS => ?_)
        obtain ⟨hB_G_133, hq_134⟩ := hpo
        have hF := hF.call hq_134 (by decide) (by decide)
        obtain ⟨y_136, ey_136⟩ : ∃ q, q = x_47 + 1 := ⟨_, rfl⟩
        have ty_136 : y_136.toInt = x_47.toInt + 1 := xI_add rfl rfl ey_136 (by omega) (by omega)
        refine lv_iinc (v := y_136) (lv' := [(9, .int y_136), (11, .int x_31), (10, .int x_32), (7, .int x_34), (6, .ref (a 45)), (5, .ref (a 44)), (0, .ref (a 8)), (1, .ref (a 7)), (2, .int 0), (4, .int p1)]) hx hb dX10_followHand_155 hl (k := 2) rfl (by rw [ey_136]; rfl) (by decide) rfl (fun ls hl => ?_)
        refine lv_goto (tgt := 102) hx hb dX10_followHand_158 (by decide) ?_
        exact ih_45 (39600 - y_136.toInt : Int).toNat (by omega) _ _ _ ⟨G_133, y_136, (Int.toNat_of_nonneg (by omega)), ⟨by omega, by omega⟩, hW, hB_G_133, hF, ((Fr.rf.call hq_44 (by decide) (by decide)).call hq_134 (by decide) (by decide)), hS, lv_sub hl [1, 2, 0, 3, 4, 5, 6, 7, 8, 9] rfl⟩

set_option maxHeartbeats 4000000 in
set_option maxRecDepth 100000 in
theorem k_tHand_2 (l : Launch) (D : va_G) (k : KT) (A : Nat → Prop) (a : Nat → Nat) (z : SK) (G : GS) (p0 : Int32) (p1 : Int32) (ha_p0 : -99 ≤ p0.toInt ∧ p0.toInt ≤ 39600) (ha_p1 : -99 ≤ p1.toInt ∧ p1.toInt ≤ 39699) (hci : (G.1 7 6).toInt ≤ 399 ∧ (G.1 7 3).toInt ≤ (G.1 7 4).toInt ∧ ((G.1 7 7).toInt ≤ 0 ∨ (G.1 7 7).toInt + (G.1 7 4).toInt ≤ (G.1 7 6).toInt + 1)) : Met l yX10_followHand (WS yX10_followHand cX10_followHand 12 (some .boolean)) ({ frames := 1, cells := 0, slots := 0, locals := 23 }) (va_Pc [.ref (a 8), .ref (a 7), .int 2, .int p0, .int p1] (cW D k A a z G)) (va_Qi (fun (r : Int32) (G1 : GS) => Bd G1 ∧ Fr [42, 43, 48, 49, 50, 51] [(9, 2), (9, 3), (19, 2), (19, 3)] G G1 ∧ (0 ≤ r.toInt ∧ r.toInt ≤ 1)) (fun (G1 : GS) t => Wd D k A a G1 t.heap) A) 0 0 A := by
  refine Met.ofW (cc := cX10_followHand) (maxL := 12) (ret := (some .boolean)) (by decide) rfl ?_
  intro p e s m args below meth c s₁ B hml hv
  obtain ⟨rfl, hW, hB_G, hK, hZ⟩ := hv
  have hx := B.exec
  have hb := B.bytes
  have hr := B.returns
  have hts := atoms_spec (ws := WS yX10_followHand cX10_followHand 12 (some .boolean)) B.pre
  have hgd : ∀ w ∈ gd, w ∈ WS yX10_followHand cX10_followHand 12 (some .boolean) := fun w h => List.mem_cons_of_mem _ h
  have hg : ∀ w ∈ gd, w.before _ s = true := fun w h => hts w (hgd w h)
  have hown : s.vm.findClass RX10 = some m.cls := findClass_of_methodNamed B.named
  have hS : va_S A s.heap s.heap [] := va_S.rf
  have hF : Fr [42, 43, 48, 49, 50, 51] [(9, 2), (9, 3), (19, 2), (19, 3)] G G := Fr.rf
  have hl := lv_entry ([.ref (a 8), .ref (a 7), .int 2, .int p0, .int p1]) (n := 12) (Nat.le_of_ble_eq_true rfl)
  rw [lg_entry_eq]
  generalize (lg_sl ([.ref (a 8), .ref (a 7), .int 2, .int p0, .int p1]) ++ List.replicate (12 - (lg_sl ([.ref (a 8), .ref (a 7), .int 2, .int p0, .int p1])).length) Slot.unset).toArray = ls at hl ⊢
  have hl : lv_has ls 12 [(0, .ref (a 8)), (1, .ref (a 7)), (2, .int 2), (3, .int p0), (4, .int p1)] := hl
  have b_1 : (-1) ≤ (G.1 7 6).toInt ∧ (G.1 7 6).toInt ≤ 400 := hB_G.i 7 6 rfl rfl
  refine lv_aload_n hx hb dX10_followHand_0 rfl (lv_at hl 0 rfl) ?_
  refine S_getR (n := 41) (C := RX10) (T := TX10) (N := 5) hx hb hg iX10 hown hK hW kd_8 rfl 0 (by decide) (hg (Cond.fieldLink RX10 13 "SlabWalk$Trails" "rows" "[[I") m440) (fun _ h9 => h9) rfl dX10_followHand_1 ?_
  refine lv_iconst (v := 2) hx hb dX10_followHand_4 (by decide) ?_
  refine lv_iload_n hx hb dX10_followHand_5 rfl (lv_at hl 2 rfl) ?_
  refine lv_isub hx hb dX10_followHand_6 ?_
  refine lv_topi (fun y_2 ey_2 => ?_)
  obtain rfl : y_2 = 0 := ey_2.trans (by decide)
  refine S_aald hx hb hK hW kd_41 (vin (by decide) (by decide)) dX10_followHand_7 ?_
  refine rows_at (n := 42) (rows_c hB_G 0 (by decide)) ?_
  refine lv_astore (lv' := [(5, .ref (a 42)), (0, .ref (a 8)), (1, .ref (a 7)), (2, .int 2), (3, .int p0), (4, .int p1)]) hx hb dX10_followHand_8 hl (by decide) rfl (fun ls hl => ?_)
  refine lv_aload_n hx hb dX10_followHand_10 rfl (lv_at hl 1 rfl) ?_
  refine S_getR (n := 41) (C := RX10) (T := TX10) (N := 5) hx hb hg iX10 hown hK hW kd_8 rfl 0 (by decide) (hg (Cond.fieldLink RX10 13 "SlabWalk$Trails" "rows" "[[I") m440) (fun _ h9 => h9) rfl dX10_followHand_11 ?_
  refine lv_iconst (v := 3) hx hb dX10_followHand_14 (by decide) ?_
  refine lv_iload_n hx hb dX10_followHand_15 rfl (lv_at hl 3 rfl) ?_
  refine lv_isub hx hb dX10_followHand_16 ?_
  refine lv_topi (fun y_3 ey_3 => ?_)
  obtain rfl : y_3 = 1 := ey_3.trans (by decide)
  refine S_aald hx hb hK hW kd_41 (vin (by decide) (by decide)) dX10_followHand_17 ?_
  refine rows_at (n := 43) (rows_c hB_G 1 (by decide)) ?_
  refine lv_astore (lv' := [(6, .ref (a 43)), (5, .ref (a 42)), (0, .ref (a 8)), (1, .ref (a 7)), (2, .int 2), (3, .int p0), (4, .int p1)]) hx hb dX10_followHand_18 hl (by decide) rfl (fun ls hl => ?_)
  refine lv_aload hx hb dX10_followHand_20 (lv_at hl 1 rfl) ?_
  refine lv_ldc (v := 1000000) hx hb hown (hg (Cond.constant RX10 44 1000000) m997) dX10_followHand_22 ?_
  refine S_callv (va_runS (As := [.ref (a 42), .int 1000000]) (rest := []) ⟨hx, hb, hml, hown, hts⟩ (k_fill_42 l D k A a z G 1000000 ) (va_cwS 2 hts (gd_S hgd m1095 m556 m129 m557) rfl rfl rfl (by decide +kernel) ⟨Nat.le_of_ble_eq_true rfl, Nat.le_of_ble_eq_true rfl⟩) (pre_S hW hB_G hK hZ hS) rfl rfl hl.1 rfl (lv_room (Nat.le_of_ble_eq_true rfl)) dX10_followHand_24 ⟨Nat.le_of_ble_eq_true rfl, Nat.le_of_ble_eq_true rfl⟩) hS (fun G_5 H locs hpo hW hS => ?_)
  obtain ⟨hB_G_5, hq_6⟩ := hpo
  have hF := hF.call hq_6 (by decide) (by decide)
  refine lv_aload hx hb dX10_followHand_27 (lv_at hl 0 rfl) ?_
  refine lv_ldc (v := 1000000) hx hb hown (hg (Cond.constant RX10 44 1000000) m997) dX10_followHand_29 ?_
  refine S_callv (va_runS (As := [.ref (a 43), .int 1000000]) (rest := []) ⟨hx, hb, hml, hown, hts⟩ (k_fill_43 l D k A a z G_5 1000000 ) (va_cwS 2 hts (gd_S hgd m1095 m556 m129 m557) rfl rfl rfl (by decide +kernel) ⟨Nat.le_of_ble_eq_true rfl, Nat.le_of_ble_eq_true rfl⟩) (pre_S hW hB_G_5 hK hZ hS) rfl rfl hl.1 rfl (lv_room (Nat.le_of_ble_eq_true rfl)) dX10_followHand_31 ⟨Nat.le_of_ble_eq_true rfl, Nat.le_of_ble_eq_true rfl⟩) hS (fun G_9 H locs hpo hW hS => ?_)
  obtain ⟨hB_G_9, hq_10⟩ := hpo
  have hF := hF.call hq_10 (by decide) (by decide)
  refine lv_aload_n hx hb dX10_followHand_34 rfl (lv_at hl 2 rfl) ?_
  refine S_getR (n := 9) (C := RX10) (T := TX10) (N := 5) hx hb hg iX10 hown hK hW kd_8 rfl 1 (by decide) (hg (Cond.fieldLink RX10 19 "SlabWalk$Trails" "steps" "LSlabWalk$Minima;") m441) (fun _ h9 => h9) rfl dX10_followHand_35 ?_
  refine S_callv (va_runV (As := []) (rest := []) ⟨hx, hb, hml, hown, hts⟩ (k_mempty_9 l D k A a z G_9  ) (cwV 0 hts (gd_V hgd m1100 m1101 m1102 m125 m1103) rfl rfl rfl (by decide +kernel) ⟨Nat.le_of_ble_eq_true rfl, Nat.le_of_ble_eq_true rfl⟩) (pre_V hW hB_G_9 hK hZ hS kd_9 rfl) rfl rfl hl.1 rfl (lv_room (Nat.le_of_ble_eq_true rfl)) dX10_followHand_38 ⟨Nat.le_of_ble_eq_true rfl, Nat.le_of_ble_eq_true rfl⟩) hS (fun G_13 H locs hpo hW hS => ?_)
  obtain ⟨hB_G_13, hq_14⟩ := hpo
  have hF := hF.call hq_14 (by decide) (by decide)
  refine lv_aload_n hx hb dX10_followHand_41 rfl (lv_at hl 2 rfl) ?_
  refine S_getR (n := 19) (C := RX10) (T := TX10) (N := 5) hx hb hg iX10 hown hK hW kd_8 rfl 2 (by decide) (hg (Cond.fieldLink RX10 23 "SlabWalk$Trails" "leaps" "LSlabWalk$Minima;") m442) (fun _ h9 => h9) rfl dX10_followHand_42 ?_
  refine S_callv (va_runV (As := []) (rest := []) ⟨hx, hb, hml, hown, hts⟩ (k_mempty_19 l D k A a z G_13  ) (cwV 0 hts (gd_V hgd m1100 m1101 m1102 m125 m1103) rfl rfl rfl (by decide +kernel) ⟨Nat.le_of_ble_eq_true rfl, Nat.le_of_ble_eq_true rfl⟩) (pre_V hW hB_G_13 hK hZ hS kd_19 rfl) rfl rfl hl.1 rfl (lv_room (Nat.le_of_ble_eq_true rfl)) dX10_followHand_45 ⟨Nat.le_of_ble_eq_true rfl, Nat.le_of_ble_eq_true rfl⟩) hS (fun G_17 H locs hpo hW hS => ?_)
  obtain ⟨hB_G_17, hq_18⟩ := hpo
  have hF := hF.call hq_18 (by decide) (by decide)
  refine lv_iconst (v := 0) hx hb dX10_followHand_48 (by decide) ?_
  refine lv_istore (lv' := [(7, .int 0), (6, .ref (a 43)), (5, .ref (a 42)), (0, .ref (a 8)), (1, .ref (a 7)), (2, .int 2), (3, .int p0), (4, .int p1)]) hx hb dX10_followHand_49 hl (by decide) rfl (fun ls hl => ?_)
  refine lv_iconst (v := 0) hx hb dX10_followHand_51 (by decide) ?_
  refine lv_iload_n hx hb dX10_followHand_52 rfl (lv_at hl 6 rfl) ?_
  refine va_mmax hx hb (by rw [hml]; exact hl.1.symm) hown (hg (Cond.methodLink RX10 82 Lib.Math.max.name) m1044) (hg (Cond.static Lib.Math.max.name) m728) (hg (Cond.initialized "java/lang/Math") m132) (hg (Cond.code Lib.Math.max.name Lib.Math.max.code 2 (some .int)) m729) (Nat.le_of_ble_eq_true rfl) (Nat.le_of_ble_eq_true rfl) (Nat.le_of_ble_eq_true rfl) (Nat.le_of_ble_eq_true rfl) dX10_followHand_53 ?_
  refine lv_topi (fun y_20 ey_20 => ?_)
  have ty_20 := xI_max (X := 0) (Y := p0.toInt) rfl rfl ey_20
  refine lv_istore (lv' := [(8, .int y_20), (7, .int 0), (6, .ref (a 43)), (5, .ref (a 42)), (0, .ref (a 8)), (1, .ref (a 7)), (2, .int 2), (3, .int p0), (4, .int p1)]) hx hb dX10_followHand_56 hl (by decide) rfl (fun ls hl => ?_)
  refine lv_iconst (v := 0) hx hb dX10_followHand_58 (by decide) ?_
  refine lv_iload hx hb dX10_followHand_59 (lv_at hl 0 rfl) ?_
  refine lv_aload_n hx hb dX10_followHand_61 rfl (lv_at hl 5 rfl) ?_
  have b_21 : 0 ≤ (G.1 7 4).toInt ∧ (G.1 7 4).toInt ≤ 60 := hB_G.i 7 4 rfl rfl
  refine S_getI (v := (G.1 7 4)) (C := RX0) (T := TX0) (N := 8) hx hb hg iX0 hown hK hW kd_7 rfl 4 (by decide) (hg (Cond.fieldLink RX10 64 "SlabWalk$Course" "most" "I") m383) (fun _ h9 => h9) rfl ((hq_18.i 7 4 (by decide) (by decide)).trans ((hq_14.i 7 4 (by decide) (by decide)).trans ((hq_10.i 7 4 (by decide) (by decide)).trans (hq_6.i 7 4 (by decide) (by decide))))) dX10_followHand_62 ?_
  refine lv_isub hx hb dX10_followHand_65 ?_
  refine lv_topi (fun y_22 ey_22 => ?_)
  have ty_22 : y_22.toInt = y_20.toInt - (G.1 7 4).toInt := xI_sub rfl rfl ey_22 (by omega) (by omega)
  refine va_mmax hx hb (by rw [hml]; exact hl.1.symm) hown (hg (Cond.methodLink RX10 82 Lib.Math.max.name) m1044) (hg (Cond.static Lib.Math.max.name) m728) (hg (Cond.initialized "java/lang/Math") m132) (hg (Cond.code Lib.Math.max.name Lib.Math.max.code 2 (some .int)) m729) (Nat.le_of_ble_eq_true rfl) (Nat.le_of_ble_eq_true rfl) (Nat.le_of_ble_eq_true rfl) (Nat.le_of_ble_eq_true rfl) dX10_followHand_66 ?_
  refine lv_topi (fun y_23 ey_23 => ?_)
  have ty_23 := xI_max (X := 0) (Y := y_22.toInt) rfl rfl ey_23
  refine lv_istore (lv' := [(9, .int y_23), (8, .int y_20), (7, .int 0), (6, .ref (a 43)), (5, .ref (a 42)), (0, .ref (a 8)), (1, .ref (a 7)), (2, .int 2), (3, .int p0), (4, .int p1)]) hx hb dX10_followHand_69 hl (by decide) rfl (fun ls hl => ?_)
  refine lv_iconst (v := 0) hx hb dX10_followHand_71 (by decide) ?_
  refine lv_iload hx hb dX10_followHand_72 (lv_at hl 1 rfl) ?_
  refine lv_aload_n hx hb dX10_followHand_74 rfl (lv_at hl 6 rfl) ?_
  have b_24 : 0 ≤ (G.1 7 5).toInt ∧ (G.1 7 5).toInt ≤ 99 := hB_G.i 7 5 rfl rfl
  refine S_getI (v := (G.1 7 5)) (C := RX0) (T := TX0) (N := 8) hx hb hg iX0 hown hK hW kd_7 rfl 5 (by decide) (hg (Cond.fieldLink RX10 71 "SlabWalk$Course" "leap" "I") m386) (fun _ h9 => h9) rfl ((hq_18.i 7 5 (by decide) (by decide)).trans ((hq_14.i 7 5 (by decide) (by decide)).trans ((hq_10.i 7 5 (by decide) (by decide)).trans (hq_6.i 7 5 (by decide) (by decide))))) dX10_followHand_75 ?_
  refine lv_isub hx hb dX10_followHand_78 ?_
  refine lv_topi (fun y_25 ey_25 => ?_)
  have ty_25 : y_25.toInt = y_20.toInt - (G.1 7 5).toInt := xI_sub rfl rfl ey_25 (by omega) (by omega)
  refine va_mmax hx hb (by rw [hml]; exact hl.1.symm) hown (hg (Cond.methodLink RX10 82 Lib.Math.max.name) m1044) (hg (Cond.static Lib.Math.max.name) m728) (hg (Cond.initialized "java/lang/Math") m132) (hg (Cond.code Lib.Math.max.name Lib.Math.max.code 2 (some .int)) m729) (Nat.le_of_ble_eq_true rfl) (Nat.le_of_ble_eq_true rfl) (Nat.le_of_ble_eq_true rfl) (Nat.le_of_ble_eq_true rfl) dX10_followHand_79 ?_
  refine lv_topi (fun y_26 ey_26 => ?_)
  have ty_26 := xI_max (X := 0) (Y := y_25.toInt) rfl rfl ey_26
  refine lv_istore (lv' := [(10, .int y_26), (9, .int y_23), (8, .int y_20), (7, .int 0), (6, .ref (a 43)), (5, .ref (a 42)), (0, .ref (a 8)), (1, .ref (a 7)), (2, .int 2), (3, .int p0), (4, .int p1)]) hx hb dX10_followHand_82 hl (by decide) rfl (fun ls hl => ?_)
  refine lv_iload hx hb dX10_followHand_84 (lv_at hl 2 rfl) ?_
  refine lv_istore (lv' := [(11, .int y_20), (10, .int y_26), (9, .int y_23), (8, .int y_20), (7, .int 0), (6, .ref (a 43)), (5, .ref (a 42)), (0, .ref (a 8)), (1, .ref (a 7)), (2, .int 2), (3, .int p0), (4, .int p1)]) hx hb dX10_followHand_86 hl (by decide) rfl (fun ls hl => ?_)
  have qc_35 : (0 : Int32).toInt = 0 := rfl
  refine loop_N (Inv := fun n H locs ls => ∃ (G_27 : GS) (x_31 : Int32) (x_32 : Int32) (x_33 : Int32) (x_34 : Int32), (n : Int) = 39600 - x_31.toInt ∧ (0 ≤ x_31.toInt ∧ x_31.toInt ≤ 39600) ∧ (0 ≤ x_32.toInt ∧ x_32.toInt ≤ 39600) ∧ (0 ≤ x_33.toInt ∧ x_33.toInt ≤ 39600) ∧ (0 ≤ x_34.toInt ∧ x_34.toInt ≤ 1) ∧ Wd D k A a G_27 H ∧ Bd G_27 ∧ Fr [42, 43, 48, 49, 50, 51] [(9, 2), (9, 3), (19, 2), (19, 3)] G G_27 ∧ Fr [42, 43, 48, 49, 50, 51] [(9, 2), (9, 3), (19, 2), (19, 3)] G_17 G_27 ∧ va_S A s.heap H locs ∧ lv_has ls 12 [(11, .int x_31), (10, .int x_32), (9, .int x_33), (7, .int x_34), (6, .ref (a 43)), (5, .ref (a 42)), (0, .ref (a 8)), (1, .ref (a 7)), (2, .int 2), (4, .int p1)]) (fun n_30 H locs ls ih_29 hI => ?_) (39600 - y_20.toInt : Int).toNat ⟨G_17, y_20, y_26, y_23, 0, (Int.toNat_of_nonneg (by omega)), ⟨by omega, by omega⟩, ⟨by omega, by omega⟩, ⟨by omega, by omega⟩, ⟨by omega, by omega⟩, hW, hB_G_17, hF, Fr.rf, hS, lv_sub hl [0, 1, 2, 4, 5, 6, 7, 8, 9, 11] rfl⟩
  obtain ⟨G_27, x_31, x_32, x_33, x_34, hn_40, f_36, f_37, f_38, f_39, hW, hB_G_27, hF, hq_28, hS, hl⟩ := hI
  refine lv_iload hx hb dX10_followHand_88 (lv_at hl 0 rfl) ?_
  refine lv_iload hx hb dX10_followHand_90 (lv_at hl 9 rfl) ?_
  refine lv_aload_n hx hb dX10_followHand_92 rfl (lv_at hl 7 rfl) ?_
  refine S_getI (v := (G.1 7 6)) (C := RX0) (T := TX0) (N := 8) hx hb hg iX0 hown hK hW kd_7 rfl 6 (by decide) (hg (Cond.fieldLink RX10 34 "SlabWalk$Course" "last" "I") m388) (fun _ h9 => h9) rfl ((hq_28.i 7 6 (by decide) (by decide)).trans ((hq_18.i 7 6 (by decide) (by decide)).trans ((hq_14.i 7 6 (by decide) (by decide)).trans ((hq_10.i 7 6 (by decide) (by decide)).trans ((hq_6.i 7 6 (by decide) (by decide)).trans (rfl)))))) dX10_followHand_93 ?_
  refine va_mmin hx hb (by rw [hml]; exact hl.1.symm) hown (hg (Cond.methodLink RX10 49 Lib.Math.min.name) m1001) (hg (Cond.static Lib.Math.min.name) m636) (hg (Cond.initialized "java/lang/Math") m132) (hg (Cond.code Lib.Math.min.name Lib.Math.min.code 2 (some .int)) m637) (Nat.le_of_ble_eq_true rfl) (Nat.le_of_ble_eq_true rfl) (Nat.le_of_ble_eq_true rfl) (Nat.le_of_ble_eq_true rfl) dX10_followHand_96 ?_
  refine lv_topi (fun y_41 ey_41 => ?_)
  have ty_41 := xI_min (X := p1.toInt) (Y := (G.1 7 6).toInt) rfl rfl ey_41
  refine lv_icmp_gt (tgt := 299) hx hb dX10_followHand_99 (by decide) (fun c_42 => ?_) (fun c_42 => ?_)
  · have c_42 : y_41.toInt < x_31.toInt := xI_lt rfl rfl c_42
    refine lv_iload hx hb dX10_followHand_299 (lv_at hl 3 rfl) ?_
    exact W.zret (v := x_34) hx hb hr (nar_z (by omega) (by omega)) (fun t ht _ => ⟨⟨x_34, G_27, rfl, ⟨hB_G_27, hF, ⟨by omega, by omega⟩⟩, wd_t ht hW⟩, hS.F ht⟩) hS.2.2 dX10_followHand_301
  · have c_42 : x_31.toInt ≤ y_41.toInt := xI_nlt rfl rfl c_42
    refine loop_N (Inv := fun n H locs ls => ∃ (G_43 : GS) (x_47 : Int32), (n : Int) = 39600 - x_47.toInt ∧ (0 ≤ x_47.toInt ∧ x_47.toInt ≤ 39600) ∧ Wd D k A a G_43 H ∧ Bd G_43 ∧ Fr [42, 43, 48, 49, 50, 51] [(9, 2), (9, 3), (19, 2), (19, 3)] G G_43 ∧ Fr [42, 43, 48, 49, 50, 51] [(9, 2), (9, 3), (19, 2), (19, 3)] G_27 G_43 ∧ va_S A s.heap H locs ∧ lv_has ls 12 [(11, .int x_31), (10, .int x_32), (9, .int x_47), (7, .int x_34), (6, .ref (a 43)), (5, .ref (a 42)), (0, .ref (a 8)), (1, .ref (a 7)), (2, .int 2), (4, .int p1)]) (fun n_46 H locs ls ih_45 hI => ?_) (39600 - x_33.toInt : Int).toNat ⟨G_27, x_33, (Int.toNat_of_nonneg (by omega)), ⟨by omega, by omega⟩, hW, hB_G_27, hF, Fr.rf, hS, lv_sub hl [0, 1, 2, 3, 4, 5, 6, 7, 8, 9] rfl⟩
    obtain ⟨G_43, x_47, hn_49, f_48, hW, hB_G_43, hF, hq_44, hS, hl⟩ := hI
    refine lv_iload hx hb dX10_followHand_102 (lv_at hl 2 rfl) ?_
    refine lv_iload hx hb dX10_followHand_104 (lv_at hl 0 rfl) ?_
    refine lv_aload_n hx hb dX10_followHand_106 rfl (lv_at hl 7 rfl) ?_
    have b_50 : 0 ≤ (G.1 7 3).toInt ∧ (G.1 7 3).toInt ≤ 60 := hB_G.i 7 3 rfl rfl
    refine S_getI (v := (G.1 7 3)) (C := RX0) (T := TX0) (N := 8) hx hb hg iX0 hown hK hW kd_7 rfl 3 (by decide) (hg (Cond.fieldLink RX10 61 "SlabWalk$Course" "least" "I") m378) (fun _ h9 => h9) rfl ((hq_44.i 7 3 (by decide) (by decide)).trans ((hq_28.i 7 3 (by decide) (by decide)).trans ((hq_18.i 7 3 (by decide) (by decide)).trans ((hq_14.i 7 3 (by decide) (by decide)).trans ((hq_10.i 7 3 (by decide) (by decide)).trans (hq_6.i 7 3 (by decide) (by decide))))))) dX10_followHand_107 ?_
    refine lv_isub hx hb dX10_followHand_110 ?_
    refine lv_topi (fun y_51 ey_51 => ?_)
    have ty_51 : y_51.toInt = x_31.toInt - (G.1 7 3).toInt := xI_sub rfl rfl ey_51 (by omega) (by omega)
    refine W.cut (σ := Unit) (pcJ := 161) (J := fun y H locs ls => ∃ (G_62 : GS), Wd D k A a G_62 H ∧ Bd G_62 ∧ Fr [42, 43, 48, 49, 50, 51] [(9, 2), (9, 3), (19, 2), (19, 3)] G G_62 ∧ Fr [48, 49] [(9, 3)] G_43 G_62 ∧ va_S A s.heap H locs ∧ lv_has ls 12 [(11, .int x_31), (10, .int x_32), (9, .int x_47), (7, .int x_34), (6, .ref (a 43)), (5, .ref (a 42)), (0, .ref (a 8)), (1, .ref (a 7)), (2, .int 2), (4, .int p1)]) (stJ := fun _ => []) ?_ (fun hJ_63 => ?_)
    · intro y H locs ls hI
      obtain ⟨G_62, hW, hB_G_62, hF, hq_64, hS, hl⟩ := hI
      refine loop_N (Inv := fun n H locs ls => ∃ (G_65 : GS) (x_69 : Int32), (n : Int) = 39600 - x_69.toInt ∧ (0 ≤ x_69.toInt ∧ x_69.toInt ≤ 39600) ∧ Wd D k A a G_65 H ∧ Bd G_65 ∧ Fr [42, 43, 48, 49, 50, 51] [(9, 2), (9, 3), (19, 2), (19, 3)] G G_65 ∧ Fr [42, 43, 50, 51] [(9, 2), (19, 2), (19, 3)] G_62 G_65 ∧ va_S A s.heap H locs ∧ lv_has ls 12 [(11, .int x_31), (10, .int x_69), (9, .int x_47), (7, .int x_34), (6, .ref (a 43)), (5, .ref (a 42)), (0, .ref (a 8)), (1, .ref (a 7)), (2, .int 2), (4, .int p1)]) (fun n_68 H locs ls ih_67 hI => ?_) (39600 - x_32.toInt : Int).toNat ⟨G_62, x_32, (Int.toNat_of_nonneg (by omega)), ⟨by omega, by omega⟩, hW, hB_G_62, hF, Fr.rf, hS, lv_sub hl [0, 1, 2, 3, 4, 5, 6, 7, 8, 9] rfl⟩
      obtain ⟨G_65, x_69, hn_71, f_70, hW, hB_G_65, hF, hq_66, hS, hl⟩ := hI
      refine lv_iload hx hb dX10_followHand_161 (lv_at hl 1 rfl) ?_
      refine lv_iload hx hb dX10_followHand_163 (lv_at hl 0 rfl) ?_
      refine lv_aload_n hx hb dX10_followHand_165 rfl (lv_at hl 7 rfl) ?_
      refine S_getI (v := (G.1 7 4)) (C := RX0) (T := TX0) (N := 8) hx hb hg iX0 hown hK hW kd_7 rfl 4 (by decide) (hg (Cond.fieldLink RX10 64 "SlabWalk$Course" "most" "I") m383) (fun _ h9 => h9) rfl ((hq_66.i 7 4 (by decide) (by decide)).trans ((hq_64.i 7 4 (by decide) (by decide)).trans ((hq_44.i 7 4 (by decide) (by decide)).trans ((hq_28.i 7 4 (by decide) (by decide)).trans ((hq_18.i 7 4 (by decide) (by decide)).trans ((hq_14.i 7 4 (by decide) (by decide)).trans ((hq_10.i 7 4 (by decide) (by decide)).trans ((hq_6.i 7 4 (by decide) (by decide)).trans (rfl))))))))) dX10_followHand_166 ?_
      refine lv_isub hx hb dX10_followHand_169 ?_
      refine lv_topi (fun y_72 ey_72 => ?_)
      have ty_72 : y_72.toInt = x_31.toInt - (G.1 7 4).toInt := xI_sub rfl rfl ey_72 (by omega) (by omega)
      refine W.cut (σ := Unit) (pcJ := 213) (J := fun y H locs ls => ∃ (G_83 : GS), Wd D k A a G_83 H ∧ Bd G_83 ∧ Fr [42, 43, 48, 49, 50, 51] [(9, 2), (9, 3), (19, 2), (19, 3)] G G_83 ∧ Fr [50, 51] [(19, 3)] G_65 G_83 ∧ va_S A s.heap H locs ∧ lv_has ls 12 [(11, .int x_31), (10, .int x_69), (9, .int x_47), (7, .int x_34), (6, .ref (a 43)), (5, .ref (a 42)), (0, .ref (a 8)), (1, .ref (a 7)), (2, .int 2), (4, .int p1)]) (stJ := fun _ => []) ?_ (fun hJ_84 => ?_)
      · intro y H locs ls hI
        obtain ⟨G_83, hW, hB_G_83, hF, hq_85, hS, hl⟩ := hI
        refine lv_aload_n hx hb dX10_followHand_213 rfl (lv_at hl 7 rfl) ?_
        refine S_getR (n := 40) (C := RX0) (T := TX0) (N := 8) hx hb hg iX0 hown hK hW kd_7 rfl 0 (by decide) (hg (Cond.fieldLink RX10 55 "SlabWalk$Course" "lawful" "[Z") m373) (fun _ h9 => h9) rfl dX10_followHand_214 ?_
        refine lv_iload hx hb dX10_followHand_217 (lv_at hl 0 rfl) ?_
        refine S_zald hx hb hK hW kd_40 (vin (by omega) (by omega)) dX10_followHand_219 (fun y_86 ey_86 => ?_)
        have ty_86 : 0 ≤ y_86.toInt ∧ y_86.toInt ≤ 1 := hB_G_83.v ey_86 rfl rfl
        refine lv_if_eq (tgt := 293) hx hb dX10_followHand_220 (by decide) (fun c_87 => ?_) (fun c_87 => ?_)
        · have c_87 : y_86.toInt = 0 := xI_eq rfl rfl c_87
          obtain ⟨y_88, ey_88⟩ : ∃ q, q = x_31 + 1 := ⟨_, rfl⟩
          have ty_88 : y_88.toInt = x_31.toInt + 1 := xI_add rfl rfl ey_88 (by omega) (by omega)
          refine lv_iinc (v := y_88) (lv' := [(11, .int y_88), (10, .int x_69), (9, .int x_47), (7, .int x_34), (6, .ref (a 43)), (5, .ref (a 42)), (0, .ref (a 8)), (1, .ref (a 7)), (2, .int 2), (4, .int p1)]) hx hb dX10_followHand_293 hl (k := 0) rfl (by rw [ey_88]; rfl) (by decide) rfl (fun ls hl => ?_)
          refine lv_goto (tgt := 88) hx hb dX10_followHand_296 (by decide) ?_
          exact ih_29 (39600 - y_88.toInt : Int).toNat (by omega) _ _ _ ⟨G_83, y_88, x_69, x_47, x_34, (Int.toNat_of_nonneg (by omega)), ⟨by omega, by omega⟩, ⟨by omega, by omega⟩, ⟨by omega, by omega⟩, ⟨by omega, by omega⟩, hW, hB_G_83, hF, (((((Fr.rf.call hq_28 (by decide) (by decide)).call hq_44 (by decide) (by decide)).call hq_64 (by decide) (by decide)).call hq_66 (by decide) (by decide)).call hq_85 (by decide) (by decide)), hS, lv_sub hl [0, 1, 2, 3, 4, 5, 6, 7, 8, 9] rfl⟩
        · have c_87 : y_86.toInt ≠ 0 := xI_ne rfl rfl c_87
          refine lv_aload hx hb dX10_followHand_223 (lv_at hl 5 rfl) ?_
          refine lv_iload hx hb dX10_followHand_225 (lv_at hl 0 rfl) ?_
          refine lv_aload_n hx hb dX10_followHand_227 rfl (lv_at hl 6 rfl) ?_
          refine S_getR (n := 9) (C := RX10) (T := TX10) (N := 5) hx hb hg iX10 hown hK hW kd_8 rfl 1 (by decide) (hg (Cond.fieldLink RX10 19 "SlabWalk$Trails" "steps" "LSlabWalk$Minima;") m441) (fun _ h9 => h9) rfl dX10_followHand_228 ?_
          refine lv_iload hx hb dX10_followHand_231 (lv_at hl 0 rfl) ?_
          refine lv_aload_n hx hb dX10_followHand_233 rfl (lv_at hl 7 rfl) ?_
          refine S_getI (v := (G.1 7 4)) (C := RX0) (T := TX0) (N := 8) hx hb hg iX0 hown hK hW kd_7 rfl 4 (by decide) (hg (Cond.fieldLink RX10 64 "SlabWalk$Course" "most" "I") m383) (fun _ h9 => h9) rfl ((hq_85.i 7 4 (by decide) (by decide)).trans ((hq_66.i 7 4 (by decide) (by decide)).trans ((hq_64.i 7 4 (by decide) (by decide)).trans ((hq_44.i 7 4 (by decide) (by decide)).trans ((hq_28.i 7 4 (by decide) (by decide)).trans ((hq_18.i 7 4 (by decide) (by decide)).trans ((hq_14.i 7 4 (by decide) (by decide)).trans ((hq_10.i 7 4 (by decide) (by decide)).trans ((hq_6.i 7 4 (by decide) (by decide)).trans (rfl)))))))))) dX10_followHand_234 ?_
          refine lv_isub hx hb dX10_followHand_237 ?_
          refine lv_topi (fun y_89 ey_89 => ?_)
          have ty_89 : y_89.toInt = x_31.toInt - (G.1 7 4).toInt := xI_sub rfl rfl ey_89 (by omega) (by omega)
          refine S_calli (va_runV (As := [.int y_89]) (rest := [.int x_31, .ref (a 42)]) ⟨hx, hb, hml, hown, hts⟩ (k_mleast_9 l D k A a z G_83 y_89 ) (cwV 1 hts (gd_V hgd m1108 m1109 m1110 m125 m1111) rfl rfl rfl (by decide +kernel) ⟨Nat.le_of_ble_eq_true rfl, Nat.le_of_ble_eq_true rfl⟩) (pre_V hW hB_G_83 hK hZ hS kd_9 rfl) rfl rfl hl.1 rfl (lv_room (Nat.le_of_ble_eq_true rfl)) dX10_followHand_238 ⟨Nat.le_of_ble_eq_true rfl, Nat.le_of_ble_eq_true rfl⟩) hS (fun r_90 G_91 H locs hpo hW hS => ?_)
          obtain ⟨hB_G_91, hq_92⟩ := hpo
          have hF := hF.call hq_92 (by decide) (by decide)
          refine S_iast hx hb hK hW hS kd_42 (vin (by omega) (by omega)) dX10_followHand_241 (fun G_94 H locs eG_94 hW hS => ?_)
          have hB_G_94 : Bd G_94 := hB_G_91.put (lo := (-2147483648)) (hi := 2147483647) eG_94 rfl rfl rfl (tI_rng _).1 (tI_rng _).2 (hB_G_91.2.put eG_94 rfl)
          have hF := hF.put eG_94 (Or.inl (by decide))
          refine lv_aload hx hb dX10_followHand_242 (lv_at hl 4 rfl) ?_
          refine lv_iload hx hb dX10_followHand_244 (lv_at hl 0 rfl) ?_
          refine lv_aload_n hx hb dX10_followHand_246 rfl (lv_at hl 6 rfl) ?_
          refine S_getR (n := 19) (C := RX10) (T := TX10) (N := 5) hx hb hg iX10 hown hK hW kd_8 rfl 2 (by decide) (hg (Cond.fieldLink RX10 23 "SlabWalk$Trails" "leaps" "LSlabWalk$Minima;") m442) (fun _ h9 => h9) rfl dX10_followHand_247 ?_
          refine lv_iload hx hb dX10_followHand_250 (lv_at hl 0 rfl) ?_
          refine lv_aload_n hx hb dX10_followHand_252 rfl (lv_at hl 7 rfl) ?_
          refine S_getI (v := (G.1 7 5)) (C := RX0) (T := TX0) (N := 8) hx hb hg iX0 hown hK hW kd_7 rfl 5 (by decide) (hg (Cond.fieldLink RX10 71 "SlabWalk$Course" "leap" "I") m386) (fun _ h9 => h9) rfl ((gp_ne eG_94 (fun q => absurd q.1 (by decide))).trans ((hq_92.i 7 5 (by decide) (by decide)).trans ((hq_85.i 7 5 (by decide) (by decide)).trans ((hq_66.i 7 5 (by decide) (by decide)).trans ((hq_64.i 7 5 (by decide) (by decide)).trans ((hq_44.i 7 5 (by decide) (by decide)).trans ((hq_28.i 7 5 (by decide) (by decide)).trans ((hq_18.i 7 5 (by decide) (by decide)).trans ((hq_14.i 7 5 (by decide) (by decide)).trans ((hq_10.i 7 5 (by decide) (by decide)).trans ((hq_6.i 7 5 (by decide) (by decide)).trans (rfl)))))))))))) dX10_followHand_253 ?_
          refine lv_isub hx hb dX10_followHand_256 ?_
          refine lv_topi (fun y_95 ey_95 => ?_)
          have ty_95 : y_95.toInt = x_31.toInt - (G.1 7 5).toInt := xI_sub rfl rfl ey_95 (by omega) (by omega)
          refine S_calli (va_runV (As := [.int y_95]) (rest := [.int x_31, .ref (a 43)]) ⟨hx, hb, hml, hown, hts⟩ (k_mleast_19 l D k A a z G_94 y_95 ) (cwV 1 hts (gd_V hgd m1108 m1109 m1110 m125 m1111) rfl rfl rfl (by decide +kernel) ⟨Nat.le_of_ble_eq_true rfl, Nat.le_of_ble_eq_true rfl⟩) (pre_V hW hB_G_94 hK hZ hS kd_19 rfl) rfl rfl hl.1 rfl (lv_room (Nat.le_of_ble_eq_true rfl)) dX10_followHand_257 ⟨Nat.le_of_ble_eq_true rfl, Nat.le_of_ble_eq_true rfl⟩) hS (fun r_96 G_97 H locs hpo hW hS => ?_)
          obtain ⟨hB_G_97, hq_98⟩ := hpo
          have hF := hF.call hq_98 (by decide) (by decide)
          refine S_iast hx hb hK hW hS kd_43 (vin (by omega) (by omega)) dX10_followHand_260 (fun G_100 H locs eG_100 hW hS => ?_)
          have hB_G_100 : Bd G_100 := hB_G_97.put (lo := (-2147483648)) (hi := 2147483647) eG_100 rfl rfl rfl (tI_rng _).1 (tI_rng _).2 (hB_G_97.2.put eG_100 rfl)
          have hF := hF.put eG_100 (Or.inl (by decide))
          refine lv_iload hx hb dX10_followHand_261 (lv_at hl 3 rfl) ?_
          refine lv_if_ne (tgt := 286) hx hb dX10_followHand_263 (by decide) (fun c_101 => ?_) (fun c_101 => ?_)
          · have c_101 : x_34.toInt ≠ 0 := xI_ne rfl rfl c_101
            refine lv_iconst (v := 1) hx hb dX10_followHand_286 (by decide) ?_
            refine lv_goto (tgt := 291) hx hb dX10_followHand_287 (by decide) ?_
            refine lv_istore (lv' := [(7, .int 1), (11, .int x_31), (10, .int x_69), (9, .int x_47), (6, .ref (a 43)), (5, .ref (a 42)), (0, .ref (a 8)), (1, .ref (a 7)), (2, .int 2), (4, .int p1)]) hx hb dX10_followHand_291 hl (by decide) rfl (fun ls hl => ?_)
            obtain ⟨y_102, ey_102⟩ : ∃ q, q = x_31 + 1 := ⟨_, rfl⟩
            have ty_102 : y_102.toInt = x_31.toInt + 1 := xI_add rfl rfl ey_102 (by omega) (by omega)
            refine lv_iinc (v := y_102) (lv' := [(11, .int y_102), (7, .int 1), (10, .int x_69), (9, .int x_47), (6, .ref (a 43)), (5, .ref (a 42)), (0, .ref (a 8)), (1, .ref (a 7)), (2, .int 2), (4, .int p1)]) hx hb dX10_followHand_293 hl (k := 1) rfl (by rw [ey_102]; rfl) (by decide) rfl (fun ls hl => ?_)
            refine lv_goto (tgt := 88) hx hb dX10_followHand_296 (by decide) ?_
            have qc_103 : (1 : Int32).toInt = 1 := rfl
            exact ih_29 (39600 - y_102.toInt : Int).toNat (by omega) _ _ _ ⟨G_100, y_102, x_69, x_47, 1, (Int.toNat_of_nonneg (by omega)), ⟨by omega, by omega⟩, ⟨by omega, by omega⟩, ⟨by omega, by omega⟩, ⟨by omega, by omega⟩, hW, hB_G_100, hF, (((((((((Fr.rf.call hq_28 (by decide) (by decide)).call hq_44 (by decide) (by decide)).call hq_64 (by decide) (by decide)).call hq_66 (by decide) (by decide)).call hq_85 (by decide) (by decide)).call hq_92 (by decide) (by decide)).put eG_94 (Or.inl (by decide))).call hq_98 (by decide) (by decide)).put eG_100 (Or.inl (by decide))), hS, lv_sub hl [0, 2, 3, 1, 4, 5, 6, 7, 8, 9] rfl⟩
          · have c_101 : x_34.toInt = 0 := xI_eq rfl rfl c_101
            refine lv_aload hx hb dX10_followHand_266 (lv_at hl 5 rfl) ?_
            refine lv_iload hx hb dX10_followHand_268 (lv_at hl 0 rfl) ?_
            refine S_iald hx hb hK hW kd_42 (vin (by omega) (by omega)) dX10_followHand_270 (fun y_104 ey_104 => ?_)
            refine lv_ldc (v := 1000000) hx hb hown (hg (Cond.constant RX10 44 1000000) m997) dX10_followHand_271 ?_
            refine lv_icmp_lt (tgt := 286) hx hb dX10_followHand_273 (by decide) (fun c_105 => ?_) (fun c_105 => ?_)
            · have c_105 : y_104.toInt < 1000000 := xI_lt rfl rfl c_105
              refine lv_iconst (v := 1) hx hb dX10_followHand_286 (by decide) ?_
              refine lv_goto (tgt := 291) hx hb dX10_followHand_287 (by decide) ?_
              refine lv_istore (lv' := [(7, .int 1), (11, .int x_31), (10, .int x_69), (9, .int x_47), (6, .ref (a 43)), (5, .ref (a 42)), (0, .ref (a 8)), (1, .ref (a 7)), (2, .int 2), (4, .int p1)]) hx hb dX10_followHand_291 hl (by decide) rfl (fun ls hl => ?_)
              obtain ⟨y_106, ey_106⟩ : ∃ q, q = x_31 + 1 := ⟨_, rfl⟩
              have ty_106 : y_106.toInt = x_31.toInt + 1 := xI_add rfl rfl ey_106 (by omega) (by omega)
              refine lv_iinc (v := y_106) (lv' := [(11, .int y_106), (7, .int 1), (10, .int x_69), (9, .int x_47), (6, .ref (a 43)), (5, .ref (a 42)), (0, .ref (a 8)), (1, .ref (a 7)), (2, .int 2), (4, .int p1)]) hx hb dX10_followHand_293 hl (k := 1) rfl (by rw [ey_106]; rfl) (by decide) rfl (fun ls hl => ?_)
              refine lv_goto (tgt := 88) hx hb dX10_followHand_296 (by decide) ?_
              have qc_107 : (1 : Int32).toInt = 1 := rfl
              exact ih_29 (39600 - y_106.toInt : Int).toNat (by omega) _ _ _ ⟨G_100, y_106, x_69, x_47, 1, (Int.toNat_of_nonneg (by omega)), ⟨by omega, by omega⟩, ⟨by omega, by omega⟩, ⟨by omega, by omega⟩, ⟨by omega, by omega⟩, hW, hB_G_100, hF, (((((((((Fr.rf.call hq_28 (by decide) (by decide)).call hq_44 (by decide) (by decide)).call hq_64 (by decide) (by decide)).call hq_66 (by decide) (by decide)).call hq_85 (by decide) (by decide)).call hq_92 (by decide) (by decide)).put eG_94 (Or.inl (by decide))).call hq_98 (by decide) (by decide)).put eG_100 (Or.inl (by decide))), hS, lv_sub hl [0, 2, 3, 1, 4, 5, 6, 7, 8, 9] rfl⟩
            · have c_105 : 1000000 ≤ y_104.toInt := xI_nlt rfl rfl c_105
              refine lv_aload hx hb dX10_followHand_276 (lv_at hl 4 rfl) ?_
              refine lv_iload hx hb dX10_followHand_278 (lv_at hl 0 rfl) ?_
              refine S_iald hx hb hK hW kd_43 (vin (by omega) (by omega)) dX10_followHand_280 (fun y_108 ey_108 => ?_)
              refine lv_ldc (v := 1000000) hx hb hown (hg (Cond.constant RX10 44 1000000) m997) dX10_followHand_281 ?_
              refine lv_icmp_ge (tgt := 290) hx hb dX10_followHand_283 (by decide) (fun c_109 => ?_) (fun c_109 => ?_)
              · have c_109 : 1000000 ≤ y_108.toInt := xI_le rfl rfl c_109
                refine lv_iconst (v := 0) hx hb dX10_followHand_290 (by decide) ?_
                refine lv_istore (lv' := [(7, .int 0), (11, .int x_31), (10, .int x_69), (9, .int x_47), (6, .ref (a 43)), (5, .ref (a 42)), (0, .ref (a 8)), (1, .ref (a 7)), (2, .int 2), (4, .int p1)]) hx hb dX10_followHand_291 hl (by decide) rfl (fun ls hl => ?_)
                obtain ⟨y_110, ey_110⟩ : ∃ q, q = x_31 + 1 := ⟨_, rfl⟩
                have ty_110 : y_110.toInt = x_31.toInt + 1 := xI_add rfl rfl ey_110 (by omega) (by omega)
                refine lv_iinc (v := y_110) (lv' := [(11, .int y_110), (7, .int 0), (10, .int x_69), (9, .int x_47), (6, .ref (a 43)), (5, .ref (a 42)), (0, .ref (a 8)), (1, .ref (a 7)), (2, .int 2), (4, .int p1)]) hx hb dX10_followHand_293 hl (k := 1) rfl (by rw [ey_110]; rfl) (by decide) rfl (fun ls hl => ?_)
                refine lv_goto (tgt := 88) hx hb dX10_followHand_296 (by decide) ?_
                have qc_111 : (0 : Int32).toInt = 0 := rfl
                exact ih_29 (39600 - y_110.toInt : Int).toNat (by omega) _ _ _ ⟨G_100, y_110, x_69, x_47, 0, (Int.toNat_of_nonneg (by omega)), ⟨by omega, by omega⟩, ⟨by omega, by omega⟩, ⟨by omega, by omega⟩, ⟨by omega, by omega⟩, hW, hB_G_100, hF, (((((((((Fr.rf.call hq_28 (by decide) (by decide)).call hq_44 (by decide) (by decide)).call hq_64 (by decide) (by decide)).call hq_66 (by decide) (by decide)).call hq_85 (by decide) (by decide)).call hq_92 (by decide) (by decide)).put eG_94 (Or.inl (by decide))).call hq_98 (by decide) (by decide)).put eG_100 (Or.inl (by decide))), hS, lv_sub hl [0, 2, 3, 1, 4, 5, 6, 7, 8, 9] rfl⟩
              · have c_109 : y_108.toInt < 1000000 := xI_nle rfl rfl c_109
                refine lv_iconst (v := 1) hx hb dX10_followHand_286 (by decide) ?_
                refine lv_goto (tgt := 291) hx hb dX10_followHand_287 (by decide) ?_
                refine lv_istore (lv' := [(7, .int 1), (11, .int x_31), (10, .int x_69), (9, .int x_47), (6, .ref (a 43)), (5, .ref (a 42)), (0, .ref (a 8)), (1, .ref (a 7)), (2, .int 2), (4, .int p1)]) hx hb dX10_followHand_291 hl (by decide) rfl (fun ls hl => ?_)
                obtain ⟨y_112, ey_112⟩ : ∃ q, q = x_31 + 1 := ⟨_, rfl⟩
                have ty_112 : y_112.toInt = x_31.toInt + 1 := xI_add rfl rfl ey_112 (by omega) (by omega)
                refine lv_iinc (v := y_112) (lv' := [(11, .int y_112), (7, .int 1), (10, .int x_69), (9, .int x_47), (6, .ref (a 43)), (5, .ref (a 42)), (0, .ref (a 8)), (1, .ref (a 7)), (2, .int 2), (4, .int p1)]) hx hb dX10_followHand_293 hl (k := 1) rfl (by rw [ey_112]; rfl) (by decide) rfl (fun ls hl => ?_)
                refine lv_goto (tgt := 88) hx hb dX10_followHand_296 (by decide) ?_
                have qc_113 : (1 : Int32).toInt = 1 := rfl
                exact ih_29 (39600 - y_112.toInt : Int).toNat (by omega) _ _ _ ⟨G_100, y_112, x_69, x_47, 1, (Int.toNat_of_nonneg (by omega)), ⟨by omega, by omega⟩, ⟨by omega, by omega⟩, ⟨by omega, by omega⟩, ⟨by omega, by omega⟩, hW, hB_G_100, hF, (((((((((Fr.rf.call hq_28 (by decide) (by decide)).call hq_44 (by decide) (by decide)).call hq_64 (by decide) (by decide)).call hq_66 (by decide) (by decide)).call hq_85 (by decide) (by decide)).call hq_92 (by decide) (by decide)).put eG_94 (Or.inl (by decide))).call hq_98 (by decide) (by decide)).put eG_100 (Or.inl (by decide))), hS, lv_sub hl [0, 2, 3, 1, 4, 5, 6, 7, 8, 9] rfl⟩
      refine lv_icmp_ge (tgt := 213) hx hb dX10_followHand_170 (by decide) (fun c_114 => ?_) (fun c_114 => ?_)
      · have c_114 : y_72.toInt ≤ x_69.toInt := xI_le rfl rfl c_114
        exact hJ_84 () _ _ _ ⟨G_65, hW, hB_G_65, hF, Fr.rf, hS, lv_sub hl [0, 1, 2, 3, 4, 5, 6, 7, 8, 9] rfl⟩
      · have c_114 : x_69.toInt < y_72.toInt := xI_nle rfl rfl c_114
        refine lv_iload hx hb dX10_followHand_173 (lv_at hl 1 rfl) ?_
        refine lv_aload_n hx hb dX10_followHand_175 rfl (lv_at hl 7 rfl) ?_
        have b_115 : 0 ≤ (G.1 7 7).toInt ∧ (G.1 7 7).toInt ≤ 400 := hB_G.i 7 7 rfl rfl
        refine S_getI (v := (G.1 7 7)) (C := RX0) (T := TX0) (N := 8) hx hb hg iX0 hown hK hW kd_7 rfl 7 (by decide) (hg (Cond.fieldLink RX10 58 "SlabWalk$Course" "end" "I") m394) (fun _ h9 => h9) rfl ((hq_66.i 7 7 (by decide) (by decide)).trans ((hq_64.i 7 7 (by decide) (by decide)).trans ((hq_44.i 7 7 (by decide) (by decide)).trans ((hq_28.i 7 7 (by decide) (by decide)).trans ((hq_18.i 7 7 (by decide) (by decide)).trans ((hq_14.i 7 7 (by decide) (by decide)).trans ((hq_10.i 7 7 (by decide) (by decide)).trans (hq_6.i 7 7 (by decide) (by decide))))))))) dX10_followHand_176 ?_
        refine lv_icmp_ge (tgt := 213) hx hb dX10_followHand_179 (by decide) (fun c_116 => ?_) (fun c_116 => ?_)
        · have c_116 : (G.1 7 7).toInt ≤ x_69.toInt := xI_le rfl rfl c_116
          exact hJ_84 () _ _ _ ⟨G_65, hW, hB_G_65, hF, Fr.rf, hS, lv_sub hl [0, 1, 2, 3, 4, 5, 6, 7, 8, 9] rfl⟩
        · have c_116 : x_69.toInt < (G.1 7 7).toInt := xI_nle rfl rfl c_116
          refine lv_aload_n hx hb dX10_followHand_182 rfl (lv_at hl 6 rfl) ?_
          refine S_getR (n := 19) (C := RX10) (T := TX10) (N := 5) hx hb hg iX10 hown hK hW kd_8 rfl 2 (by decide) (hg (Cond.fieldLink RX10 23 "SlabWalk$Trails" "leaps" "LSlabWalk$Minima;") m442) (fun _ h9 => h9) rfl dX10_followHand_183 ?_
          refine lv_iload hx hb dX10_followHand_186 (lv_at hl 1 rfl) ?_
          refine lv_ldc (v := 1000000) hx hb hown (hg (Cond.constant RX10 44 1000000) m997) dX10_followHand_188 ?_
          refine lv_aload_n hx hb dX10_followHand_190 rfl (lv_at hl 6 rfl) ?_
          refine S_getR (n := 41) (C := RX10) (T := TX10) (N := 5) hx hb hg iX10 hown hK hW kd_8 rfl 0 (by decide) (hg (Cond.fieldLink RX10 13 "SlabWalk$Trails" "rows" "[[I") m440) (fun _ h9 => h9) rfl dX10_followHand_191 ?_
          refine lv_iload_n hx hb dX10_followHand_194 rfl (lv_at hl 8 rfl) ?_
          refine S_aald hx hb hK hW kd_41 (vin (by decide) (by decide)) dX10_followHand_195 ?_
          refine rows_at (n := 44) (rows_c hB_G_65 2 (by decide)) ?_
          refine lv_iload hx hb dX10_followHand_196 (lv_at hl 1 rfl) ?_
          refine S_iald hx hb hK hW kd_44 (vin (by omega) (by omega)) dX10_followHand_198 (fun y_117 ey_117 => ?_)
          refine lv_iconst (v := 1) hx hb dX10_followHand_199 (by decide) ?_
          refine lv_iadd hx hb dX10_followHand_200 ?_
          refine lv_topi (fun y_118 ey_118 => ?_)
          refine va_mmin hx hb (by rw [hml]; exact hl.1.symm) hown (hg (Cond.methodLink RX10 49 Lib.Math.min.name) m1001) (hg (Cond.static Lib.Math.min.name) m636) (hg (Cond.initialized "java/lang/Math") m132) (hg (Cond.code Lib.Math.min.name Lib.Math.min.code 2 (some .int)) m637) (Nat.le_of_ble_eq_true rfl) (Nat.le_of_ble_eq_true rfl) (Nat.le_of_ble_eq_true rfl) (Nat.le_of_ble_eq_true rfl) dX10_followHand_201 ?_
          refine lv_topi (fun y_119 ey_119 => ?_)
          have ty_119 := xI_min (X := 1000000) (Y := y_118.toInt) rfl rfl ey_119
          refine S_callv (va_runV (As := [.int x_69, .int y_119]) (rest := []) ⟨hx, hb, hml, hown, hts⟩ (k_madd_19 l D k A a z G_65 x_69 y_119 ) (cwV 2 hts (gd_V hgd m1104 m1105 m1106 m125 m1107) rfl rfl rfl (by decide +kernel) ⟨Nat.le_of_ble_eq_true rfl, Nat.le_of_ble_eq_true rfl⟩) (pre_V hW hB_G_65 hK hZ hS kd_19 rfl) rfl rfl hl.1 rfl (lv_room (Nat.le_of_ble_eq_true rfl)) dX10_followHand_204 ⟨Nat.le_of_ble_eq_true rfl, Nat.le_of_ble_eq_true rfl⟩) hS (fun G_121 H locs hpo hW hS => ?_)
          obtain ⟨hB_G_121, hq_122⟩ := hpo
          have hF := hF.call hq_122 (by decide) (by decide)
          obtain ⟨y_124, ey_124⟩ : ∃ q, q = x_69 + 1 := ⟨_, rfl⟩
          have ty_124 : y_124.toInt = x_69.toInt + 1 := xI_add rfl rfl ey_124 (by omega) (by omega)
          refine lv_iinc (v := y_124) (lv' := [(10, .int y_124), (11, .int x_31), (9, .int x_47), (7, .int x_34), (6, .ref (a 43)), (5, .ref (a 42)), (0, .ref (a 8)), (1, .ref (a 7)), (2, .int 2), (4, .int p1)]) hx hb dX10_followHand_207 hl (k := 1) rfl (by rw [ey_124]; rfl) (by decide) rfl (fun ls hl => ?_)
          refine lv_goto (tgt := 161) hx hb dX10_followHand_210 (by decide) ?_
          exact ih_67 (39600 - y_124.toInt : Int).toNat (by omega) _ _ _ ⟨G_121, y_124, (Int.toNat_of_nonneg (by omega)), ⟨by omega, by omega⟩, hW, hB_G_121, hF, ((Fr.rf.call hq_66 (by decide) (by decide)).call hq_122 (by decide) (by decide)), hS, lv_sub hl [1, 0, 2, 3, 4, 5, 6, 7, 8, 9] rfl⟩
    refine lv_icmp_gt (tgt := 161) hx hb dX10_followHand_111 (by decide) (fun c_125 => ?_) (fun c_125 => ?_)
    · have c_125 : y_51.toInt < x_47.toInt := xI_lt rfl rfl c_125
      exact hJ_63 () _ _ _ ⟨G_43, hW, hB_G_43, hF, Fr.rf, hS, lv_sub hl [0, 1, 2, 3, 4, 5, 6, 7, 8, 9] rfl⟩
    · have c_125 : x_47.toInt ≤ y_51.toInt := xI_nlt rfl rfl c_125
      refine lv_iload hx hb dX10_followHand_114 (lv_at hl 2 rfl) ?_
      refine lv_aload_n hx hb dX10_followHand_116 rfl (lv_at hl 7 rfl) ?_
      have b_126 : 0 ≤ (G.1 7 7).toInt ∧ (G.1 7 7).toInt ≤ 400 := hB_G.i 7 7 rfl rfl
      refine S_getI (v := (G.1 7 7)) (C := RX0) (T := TX0) (N := 8) hx hb hg iX0 hown hK hW kd_7 rfl 7 (by decide) (hg (Cond.fieldLink RX10 58 "SlabWalk$Course" "end" "I") m394) (fun _ h9 => h9) rfl ((hq_44.i 7 7 (by decide) (by decide)).trans ((hq_28.i 7 7 (by decide) (by decide)).trans ((hq_18.i 7 7 (by decide) (by decide)).trans ((hq_14.i 7 7 (by decide) (by decide)).trans ((hq_10.i 7 7 (by decide) (by decide)).trans (hq_6.i 7 7 (by decide) (by decide))))))) dX10_followHand_117 ?_
      refine lv_icmp_ge (tgt := 161) hx hb dX10_followHand_120 (by decide) (fun c_127 => ?_) (fun c_127 => ?_)
      · have c_127 : (G.1 7 7).toInt ≤ x_47.toInt := xI_le rfl rfl c_127
        exact hJ_63 () _ _ _ ⟨G_43, hW, hB_G_43, hF, Fr.rf, hS, lv_sub hl [0, 1, 2, 3, 4, 5, 6, 7, 8, 9] rfl⟩
      · have c_127 : x_47.toInt < (G.1 7 7).toInt := xI_nle rfl rfl c_127
        refine lv_aload_n hx hb dX10_followHand_123 rfl (lv_at hl 6 rfl) ?_
        refine S_getR (n := 9) (C := RX10) (T := TX10) (N := 5) hx hb hg iX10 hown hK hW kd_8 rfl 1 (by decide) (hg (Cond.fieldLink RX10 19 "SlabWalk$Trails" "steps" "LSlabWalk$Minima;") m441) (fun _ h9 => h9) rfl dX10_followHand_124 ?_
        refine lv_iload hx hb dX10_followHand_127 (lv_at hl 2 rfl) ?_
        refine lv_aload_n hx hb dX10_followHand_129 rfl (lv_at hl 6 rfl) ?_
        refine S_getR (n := 41) (C := RX10) (T := TX10) (N := 5) hx hb hg iX10 hown hK hW kd_8 rfl 0 (by decide) (hg (Cond.fieldLink RX10 13 "SlabWalk$Trails" "rows" "[[I") m440) (fun _ h9 => h9) rfl dX10_followHand_130 ?_
        refine lv_iload_n hx hb dX10_followHand_133 rfl (lv_at hl 8 rfl) ?_
        refine S_aald hx hb hK hW kd_41 (vin (by decide) (by decide)) dX10_followHand_134 ?_
        refine rows_at (n := 44) (rows_c hB_G_43 2 (by decide)) ?_
        refine lv_iload hx hb dX10_followHand_135 (lv_at hl 2 rfl) ?_
        refine S_iald hx hb hK hW kd_44 (vin (by omega) (by omega)) dX10_followHand_137 (fun y_128 ey_128 => ?_)
        refine lv_aload_n hx hb dX10_followHand_138 rfl (lv_at hl 6 rfl) ?_
        refine S_getR (n := 41) (C := RX10) (T := TX10) (N := 5) hx hb hg iX10 hown hK hW kd_8 rfl 0 (by decide) (hg (Cond.fieldLink RX10 13 "SlabWalk$Trails" "rows" "[[I") m440) (fun _ h9 => h9) rfl dX10_followHand_139 ?_
        refine lv_iload_n hx hb dX10_followHand_142 rfl (lv_at hl 8 rfl) ?_
        refine lv_iconst (v := 1) hx hb dX10_followHand_143 (by decide) ?_
        refine lv_iadd hx hb dX10_followHand_144 ?_
        refine lv_topi (fun y_129 ey_129 => ?_)
        obtain rfl : y_129 = 3 := ey_129.trans (by decide)
        refine S_aald hx hb hK hW kd_41 (vin (by decide) (by decide)) dX10_followHand_145 ?_
        refine rows_at (n := 45) (rows_c hB_G_43 3 (by decide)) ?_
        refine lv_iload hx hb dX10_followHand_146 (lv_at hl 2 rfl) ?_
        refine S_iald hx hb hK hW kd_45 (vin (by omega) (by omega)) dX10_followHand_148 (fun y_130 ey_130 => ?_)
        refine va_mmin hx hb (by rw [hml]; exact hl.1.symm) hown (hg (Cond.methodLink RX10 49 Lib.Math.min.name) m1001) (hg (Cond.static Lib.Math.min.name) m636) (hg (Cond.initialized "java/lang/Math") m132) (hg (Cond.code Lib.Math.min.name Lib.Math.min.code 2 (some .int)) m637) (Nat.le_of_ble_eq_true rfl) (Nat.le_of_ble_eq_true rfl) (Nat.le_of_ble_eq_true rfl) (Nat.le_of_ble_eq_true rfl) dX10_followHand_149 ?_
        refine lv_topi (fun y_131 ey_131 => ?_)
        have ty_131 := xI_min (X := y_128.toInt) (Y := y_130.toInt) rfl rfl ey_131
        refine S_callv (va_runV (As := [.int x_47, .int y_131]) (rest := []) ⟨hx, hb, hml, hown, hts⟩ (k_madd_9 l D k A a z G_43 x_47 y_131 ) (cwV 2 hts (gd_V hgd m1104 m1105 m1106 m125 m1107) rfl rfl rfl (by decide +kernel) ⟨Nat.le_of_ble_eq_true rfl, Nat.le_of_ble_eq_true rfl⟩) (pre_V hW hB_G_43 hK hZ hS kd_9 rfl) rfl rfl hl.1 rfl (lv_room (Nat.le_of_ble_eq_true rfl)) dX10_followHand_152 ⟨Nat.le_of_ble_eq_true rfl, Nat.le_of_ble_eq_true rfl⟩) hS (fun G_133 H locs hpo hW hS => ?_)
        obtain ⟨hB_G_133, hq_134⟩ := hpo
        have hF := hF.call hq_134 (by decide) (by decide)
        obtain ⟨y_136, ey_136⟩ : ∃ q, q = x_47 + 1 := ⟨_, rfl⟩
        have ty_136 : y_136.toInt = x_47.toInt + 1 := xI_add rfl rfl ey_136 (by omega) (by omega)
        refine lv_iinc (v := y_136) (lv' := [(9, .int y_136), (11, .int x_31), (10, .int x_32), (7, .int x_34), (6, .ref (a 43)), (5, .ref (a 42)), (0, .ref (a 8)), (1, .ref (a 7)), (2, .int 2), (4, .int p1)]) hx hb dX10_followHand_155 hl (k := 2) rfl (by rw [ey_136]; rfl) (by decide) rfl (fun ls hl => ?_)
        refine lv_goto (tgt := 102) hx hb dX10_followHand_158 (by decide) ?_
        exact ih_45 (39600 - y_136.toInt : Int).toNat (by omega) _ _ _ ⟨G_133, y_136, (Int.toNat_of_nonneg (by omega)), ⟨by omega, by omega⟩, hW, hB_G_133, hF, ((Fr.rf.call hq_44 (by decide) (by decide)).call hq_134 (by decide) (by decide)), hS, lv_sub hl [1, 2, 0, 3, 4, 5, 6, 7, 8, 9] rfl⟩

set_option maxHeartbeats 4000000 in
set_option maxRecDepth 100000 in
theorem k_tLeaps (l : Launch) (D : va_G) (k : KT) (A : Nat → Prop) (a : Nat → Nat) (z : SK) (G : GS) (p0 : Int32) (p1 : Int32) (ha_p0 : 0 ≤ p0.toInt ∧ p0.toInt ≤ 99) (ha_p1 : 0 ≤ p1.toInt ∧ p1.toInt ≤ 99) (hci : (G.1 7 6).toInt ≤ 399 ∧ (G.1 7 3).toInt ≤ (G.1 7 4).toInt ∧ ((G.1 7 7).toInt ≤ 0 ∨ (G.1 7 7).toInt + (G.1 7 4).toInt ≤ (G.1 7 6).toInt + 1)) : Met l yX10_fewestLeaps (WS yX10_fewestLeaps cX10_fewestLeaps 8 (some .int)) ({ frames := 2, cells := 0, slots := 0, locals := 54 }) (va_Pc [.ref (a 8), .ref (a 7), .int p0, .int p1] (cW D k A a z G)) (va_Qi (fun (r : Int32) (G1 : GS) => Bd G1 ∧ Fr [42, 43, 44, 45, 48, 49, 50, 51] [(9, 2), (9, 3), (19, 2), (19, 3)] G G1) (fun (G1 : GS) t => Wd D k A a G1 t.heap) A) 0 0 A := by
  refine Met.ofW (cc := cX10_fewestLeaps) (maxL := 8) (ret := (some .int)) (by decide) rfl ?_
  intro p e s m args below meth c s₁ B hml hv
  obtain ⟨rfl, hW, hB_G, hK, hZ⟩ := hv
  have hx := B.exec
  have hb := B.bytes
  have hr := B.returns
  have hts := atoms_spec (ws := WS yX10_fewestLeaps cX10_fewestLeaps 8 (some .int)) B.pre
  have hgd : ∀ w ∈ gd, w ∈ WS yX10_fewestLeaps cX10_fewestLeaps 8 (some .int) := fun w h => List.mem_cons_of_mem _ h
  have hg : ∀ w ∈ gd, w.before _ s = true := fun w h => hts w (hgd w h)
  have hown : s.vm.findClass RX10 = some m.cls := findClass_of_methodNamed B.named
  have hS : va_S A s.heap s.heap [] := va_S.rf
  have hF : Fr [42, 43, 44, 45, 48, 49, 50, 51] [(9, 2), (9, 3), (19, 2), (19, 3)] G G := Fr.rf
  have hl := lv_entry ([.ref (a 8), .ref (a 7), .int p0, .int p1]) (n := 8) (Nat.le_of_ble_eq_true rfl)
  rw [lg_entry_eq]
  generalize (lg_sl ([.ref (a 8), .ref (a 7), .int p0, .int p1]) ++ List.replicate (8 - (lg_sl ([.ref (a 8), .ref (a 7), .int p0, .int p1])).length) Slot.unset).toArray = ls at hl ⊢
  have hl : lv_has ls 8 [(0, .ref (a 8)), (1, .ref (a 7)), (2, .int p0), (3, .int p1)] := hl
  have b_1 : (-1) ≤ (G.1 7 6).toInt ∧ (G.1 7 6).toInt ≤ 400 := hB_G.i 7 6 rfl rfl
  refine lv_aload_n hx hb dX10_fewestLeaps_0 rfl (lv_at hl 0 rfl) ?_
  refine S_getR (n := 41) (C := RX10) (T := TX10) (N := 5) hx hb hg iX10 hown hK hW kd_8 rfl 0 (by decide) (hg (Cond.fieldLink RX10 13 "SlabWalk$Trails" "rows" "[[I") m440) (fun _ h9 => h9) rfl dX10_fewestLeaps_1 ?_
  refine lv_iconst (v := 0) hx hb dX10_fewestLeaps_4 (by decide) ?_
  refine S_aald hx hb hK hW kd_41 (vin (by decide) (by decide)) dX10_fewestLeaps_5 ?_
  refine rows_at (n := 42) (rows_c hB_G 0 (by decide)) ?_
  refine lv_ldc (v := 1000000) hx hb hown (hg (Cond.constant RX10 44 1000000) m997) dX10_fewestLeaps_6 ?_
  refine S_callv (va_runS (As := [.ref (a 42), .int 1000000]) (rest := []) ⟨hx, hb, hml, hown, hts⟩ (k_fill_42 l D k A a z G 1000000 ) (va_cwS 2 hts (gd_S hgd m1095 m556 m129 m557) rfl rfl rfl (by decide +kernel) ⟨Nat.le_of_ble_eq_true rfl, Nat.le_of_ble_eq_true rfl⟩) (pre_S hW hB_G hK hZ hS) rfl rfl hl.1 rfl (lv_room (Nat.le_of_ble_eq_true rfl)) dX10_fewestLeaps_8 ⟨Nat.le_of_ble_eq_true rfl, Nat.le_of_ble_eq_true rfl⟩) hS (fun G_3 H locs hpo hW hS => ?_)
  obtain ⟨hB_G_3, hq_4⟩ := hpo
  have hF := hF.call hq_4 (by decide) (by decide)
  refine lv_aload_n hx hb dX10_fewestLeaps_11 rfl (lv_at hl 0 rfl) ?_
  refine S_getR (n := 41) (C := RX10) (T := TX10) (N := 5) hx hb hg iX10 hown hK hW kd_8 rfl 0 (by decide) (hg (Cond.fieldLink RX10 13 "SlabWalk$Trails" "rows" "[[I") m440) (fun _ h9 => h9) rfl dX10_fewestLeaps_12 ?_
  refine lv_iconst (v := 1) hx hb dX10_fewestLeaps_15 (by decide) ?_
  refine S_aald hx hb hK hW kd_41 (vin (by decide) (by decide)) dX10_fewestLeaps_16 ?_
  refine rows_at (n := 43) (rows_c hB_G_3 1 (by decide)) ?_
  refine lv_ldc (v := 1000000) hx hb hown (hg (Cond.constant RX10 44 1000000) m997) dX10_fewestLeaps_17 ?_
  refine S_callv (va_runS (As := [.ref (a 43), .int 1000000]) (rest := []) ⟨hx, hb, hml, hown, hts⟩ (k_fill_43 l D k A a z G_3 1000000 ) (va_cwS 2 hts (gd_S hgd m1095 m556 m129 m557) rfl rfl rfl (by decide +kernel) ⟨Nat.le_of_ble_eq_true rfl, Nat.le_of_ble_eq_true rfl⟩) (pre_S hW hB_G_3 hK hZ hS) rfl rfl hl.1 rfl (lv_room (Nat.le_of_ble_eq_true rfl)) dX10_fewestLeaps_19 ⟨Nat.le_of_ble_eq_true rfl, Nat.le_of_ble_eq_true rfl⟩) hS (fun G_7 H locs hpo hW hS => ?_)
  obtain ⟨hB_G_7, hq_8⟩ := hpo
  have hF := hF.call hq_8 (by decide) (by decide)
  refine lv_iconst (v := 0) hx hb dX10_fewestLeaps_22 (by decide) ?_
  refine lv_istore (lv' := [(4, .int 0), (0, .ref (a 8)), (1, .ref (a 7)), (2, .int p0), (3, .int p1)]) hx hb dX10_fewestLeaps_23 hl (by decide) rfl (fun ls hl => ?_)
  have qc_15 : (0 : Int32).toInt = 0 := rfl
  refine loop_N (Inv := fun n H locs ls => ∃ (G_10 : GS) (x_14 : Int32), (n : Int) = 100 - x_14.toInt ∧ (0 ≤ x_14.toInt ∧ x_14.toInt ≤ 100) ∧ Wd D k A a G_10 H ∧ Bd G_10 ∧ Fr [42, 43, 44, 45, 48, 49, 50, 51] [(9, 2), (9, 3), (19, 2), (19, 3)] G G_10 ∧ Fr [42, 43, 44, 45, 48, 49, 50, 51] [(9, 2), (9, 3), (19, 2), (19, 3)] G_7 G_10 ∧ va_S A s.heap H locs ∧ lv_has ls 8 [(4, .int x_14), (0, .ref (a 8)), (1, .ref (a 7)), (2, .int p0), (3, .int p1)]) (fun n_13 H locs ls ih_12 hI => ?_) (100 - 0 : Int).toNat ⟨G_7, 0, (Int.toNat_of_nonneg (by omega)), ⟨by omega, by omega⟩, hW, hB_G_7, hF, Fr.rf, hS, lv_sub hl [0, 1, 2, 3, 4] rfl⟩
  obtain ⟨G_10, x_14, hn_17, f_16, hW, hB_G_10, hF, hq_11, hS, hl⟩ := hI
  refine lv_iload hx hb dX10_fewestLeaps_25 (lv_at hl 0 rfl) ?_
  refine lv_iload_n hx hb dX10_fewestLeaps_27 rfl (lv_at hl 4 rfl) ?_
  refine lv_aload_n hx hb dX10_fewestLeaps_28 rfl (lv_at hl 2 rfl) ?_
  have b_18 : 0 ≤ (G.1 7 3).toInt ∧ (G.1 7 3).toInt ≤ 60 := hB_G.i 7 3 rfl rfl
  have g_19 : (G_10.1 7 3).toInt = (G.1 7 3).toInt := by rw [show G_10.1 7 3 = (G.1 7 3) from ((hq_11.i 7 3 (by decide) (by decide)).trans ((hq_8.i 7 3 (by decide) (by decide)).trans (hq_4.i 7 3 (by decide) (by decide))))]
  have b_20 : 0 ≤ (G.1 7 4).toInt ∧ (G.1 7 4).toInt ≤ 60 := hB_G.i 7 4 rfl rfl
  have g_21 : (G_10.1 7 4).toInt = (G.1 7 4).toInt := by rw [show G_10.1 7 4 = (G.1 7 4) from ((hq_11.i 7 4 (by decide) (by decide)).trans ((hq_8.i 7 4 (by decide) (by decide)).trans (hq_4.i 7 4 (by decide) (by decide))))]
  have g_22 : (G_10.1 7 6).toInt = (G.1 7 6).toInt := by rw [show G_10.1 7 6 = (G.1 7 6) from ((hq_11.i 7 6 (by decide) (by decide)).trans ((hq_8.i 7 6 (by decide) (by decide)).trans ((hq_4.i 7 6 (by decide) (by decide)).trans (rfl))))]
  have b_23 : 0 ≤ (G.1 7 7).toInt ∧ (G.1 7 7).toInt ≤ 400 := hB_G.i 7 7 rfl rfl
  have g_24 : (G_10.1 7 7).toInt = (G.1 7 7).toInt := by rw [show G_10.1 7 7 = (G.1 7 7) from ((hq_11.i 7 7 (by decide) (by decide)).trans ((hq_8.i 7 7 (by decide) (by decide)).trans (hq_4.i 7 7 (by decide) (by decide))))]
  have g_25 : (G_10.1 7 6).toInt = (G.1 7 6).toInt := by rw [show G_10.1 7 6 = (G.1 7 6) from ((hq_11.i 7 6 (by decide) (by decide)).trans ((hq_8.i 7 6 (by decide) (by decide)).trans ((hq_4.i 7 6 (by decide) (by decide)).trans (rfl))))]
  refine S_calli (va_runV (As := []) (rest := [.int p1, .int x_14]) ⟨hx, hb, hml, hown, hts⟩ (k_cFirst l D k A a z G_10  (by omega)) (cwV 0 hts (gd_V hgd m1002 m1003 m1004 m123 m1005) rfl rfl rfl (by decide +kernel) ⟨Nat.le_of_ble_eq_true rfl, Nat.le_of_ble_eq_true rfl⟩) (pre_V hW hB_G_10 hK hZ hS kd_7 rfl) rfl rfl hl.1 rfl (lv_room (Nat.le_of_ble_eq_true rfl)) dX10_fewestLeaps_29 ⟨Nat.le_of_ble_eq_true rfl, Nat.le_of_ble_eq_true rfl⟩) hS (fun r_26 G_27 H locs hpo hW hS => ?_)
  obtain ⟨hB_G_27, hq_28, f_30, hp_29⟩ := hpo
  have hF := hF.call hq_28 (by decide) (by decide)
  refine va_mmin hx hb (by rw [hml]; exact hl.1.symm) hown (hg (Cond.methodLink RX10 49 Lib.Math.min.name) m1001) (hg (Cond.static Lib.Math.min.name) m636) (hg (Cond.initialized "java/lang/Math") m132) (hg (Cond.code Lib.Math.min.name Lib.Math.min.code 2 (some .int)) m637) (Nat.le_of_ble_eq_true rfl) (Nat.le_of_ble_eq_true rfl) (Nat.le_of_ble_eq_true rfl) (Nat.le_of_ble_eq_true rfl) dX10_fewestLeaps_32 ?_
  refine lv_topi (fun y_31 ey_31 => ?_)
  have ty_31 := xI_min (X := p1.toInt) (Y := r_26.toInt) rfl rfl ey_31
  refine lv_icmp_gt (tgt := 69) hx hb dX10_fewestLeaps_35 (by decide) (fun c_32 => ?_) (fun c_32 => ?_)
  · have c_32 : y_31.toInt < x_14.toInt := xI_lt rfl rfl c_32
    refine lv_ldc (v := 1000000) hx hb hown (hg (Cond.constant RX10 44 1000000) m997) dX10_fewestLeaps_69 ?_
    refine lv_istore (lv' := [(4, .int 1000000), (0, .ref (a 8)), (1, .ref (a 7)), (2, .int p0), (3, .int p1)]) hx hb dX10_fewestLeaps_71 hl (by decide) rfl (fun ls hl => ?_)
    refine lv_iconst (v := 0) hx hb dX10_fewestLeaps_73 (by decide) ?_
    refine lv_istore (lv' := [(5, .int 0), (4, .int 1000000), (0, .ref (a 8)), (1, .ref (a 7)), (2, .int p0), (3, .int p1)]) hx hb dX10_fewestLeaps_74 hl (by decide) rfl (fun ls hl => ?_)
    refine lv_iconst (v := 1) hx hb dX10_fewestLeaps_76 (by decide) ?_
    refine lv_istore (lv' := [(6, .int 1), (5, .int 0), (4, .int 1000000), (0, .ref (a 8)), (1, .ref (a 7)), (2, .int p0), (3, .int p1)]) hx hb dX10_fewestLeaps_77 hl (by decide) rfl (fun ls hl => ?_)
    refine lv_iconst (v := 1) hx hb dX10_fewestLeaps_79 (by decide) ?_
    refine lv_istore (lv' := [(7, .int 1), (6, .int 1), (5, .int 0), (4, .int 1000000), (0, .ref (a 8)), (1, .ref (a 7)), (2, .int p0), (3, .int p1)]) hx hb dX10_fewestLeaps_80 hl (by decide) rfl (fun ls hl => ?_)
    have qc_41 : (0 : Int32).toInt = 0 := rfl
    have qc_42 : (1 : Int32).toInt = 1 := rfl
    have qc_43 : (1000000 : Int32).toInt = 1000000 := rfl
    refine loop_N (Inv := fun n H locs ls => ∃ (G_33 : GS) (x_37 : Int32) (x_38 : Int32) (x_39 : Int32) (x_40 : Int32), (n : Int) = 401 - x_37.toInt ∧ (1 ≤ x_37.toInt ∧ x_37.toInt ≤ 401) ∧ (0 ≤ x_38.toInt ∧ x_38.toInt ≤ 1) ∧ (0 ≤ x_39.toInt ∧ x_39.toInt ≤ 2) ∧ (x_40.toInt ≤ 1000000) ∧ (x_39.toInt = 0 ∨ x_39.toInt = 2) ∧ Wd D k A a G_33 H ∧ Bd G_33 ∧ Fr [42, 43, 44, 45, 48, 49, 50, 51] [(9, 2), (9, 3), (19, 2), (19, 3)] G G_33 ∧ Fr [42, 43, 44, 45, 48, 49, 50, 51] [(9, 2), (9, 3), (19, 2), (19, 3)] G_27 G_33 ∧ va_S A s.heap H locs ∧ lv_has ls 8 [(7, .int x_37), (6, .int x_38), (5, .int x_39), (4, .int x_40), (0, .ref (a 8)), (1, .ref (a 7)), (2, .int p0), (3, .int p1)]) (fun n_36 H locs ls ih_35 hI => ?_) (401 - 1 : Int).toNat ⟨G_27, 1, 1, 0, 1000000, (Int.toNat_of_nonneg (by omega)), ⟨by omega, by omega⟩, ⟨by omega, by omega⟩, ⟨by omega, by omega⟩, (by omega), (by omega), hW, hB_G_27, hF, Fr.rf, hS, lv_sub hl [0, 1, 2, 3, 4, 5, 6, 7] rfl⟩
    obtain ⟨G_33, x_37, x_38, x_39, x_40, hn_49, f_44, f_45, f_46, f_47, f_48, hW, hB_G_33, hF, hq_34, hS, hl⟩ := hI
    refine lv_iload hx hb dX10_fewestLeaps_82 (lv_at hl 1 rfl) ?_
    refine lv_if_eq (tgt := 180) hx hb dX10_fewestLeaps_84 (by decide) (fun c_50 => ?_) (fun c_50 => ?_)
    · have c_50 : x_38.toInt = 0 := xI_eq rfl rfl c_50
      refine lv_iload hx hb dX10_fewestLeaps_180 (lv_at hl 3 rfl) ?_
      refine lv_ldc (v := 1000000) hx hb hown (hg (Cond.constant RX10 44 1000000) m997) dX10_fewestLeaps_182 ?_
      refine lv_icmp_lt (tgt := 191) hx hb dX10_fewestLeaps_184 (by decide) (fun c_51 => ?_) (fun c_51 => ?_)
      · have c_51 : x_40.toInt < 1000000 := xI_lt rfl rfl c_51
        refine lv_iload hx hb dX10_fewestLeaps_191 (lv_at hl 3 rfl) ?_
        exact W.iret (v := x_40) hx hb hr (fun t ht _ => ⟨⟨x_40, G_33, rfl, ⟨hB_G_33, hF⟩, wd_t ht hW⟩, hS.F ht⟩) hS.2.2 dX10_fewestLeaps_193
      · have c_51 : 1000000 ≤ x_40.toInt := xI_nlt rfl rfl c_51
        refine lv_iconst (v := (-1)) hx hb dX10_fewestLeaps_187 (by decide) ?_
        refine lv_goto (tgt := 193) hx hb dX10_fewestLeaps_188 (by decide) ?_
        exact W.iret (v := (-1)) hx hb hr (fun t ht _ => ⟨⟨(-1), G_33, rfl, ⟨hB_G_33, hF⟩, wd_t ht hW⟩, hS.F ht⟩) hS.2.2 dX10_fewestLeaps_193
    · have c_50 : x_38.toInt ≠ 0 := xI_ne rfl rfl c_50
      refine lv_iload hx hb dX10_fewestLeaps_87 (lv_at hl 0 rfl) ?_
      refine lv_sipush (v := 400) hx hb dX10_fewestLeaps_89 (by decide) ?_
      refine lv_icmp_gt (tgt := 180) hx hb dX10_fewestLeaps_92 (by decide) (fun c_52 => ?_) (fun c_52 => ?_)
      · have c_52 : 400 < x_37.toInt := xI_lt rfl rfl c_52
        refine lv_iload hx hb dX10_fewestLeaps_180 (lv_at hl 3 rfl) ?_
        refine lv_ldc (v := 1000000) hx hb hown (hg (Cond.constant RX10 44 1000000) m997) dX10_fewestLeaps_182 ?_
        refine lv_icmp_lt (tgt := 191) hx hb dX10_fewestLeaps_184 (by decide) (fun c_53 => ?_) (fun c_53 => ?_)
        · have c_53 : x_40.toInt < 1000000 := xI_lt rfl rfl c_53
          refine lv_iload hx hb dX10_fewestLeaps_191 (lv_at hl 3 rfl) ?_
          exact W.iret (v := x_40) hx hb hr (fun t ht _ => ⟨⟨x_40, G_33, rfl, ⟨hB_G_33, hF⟩, wd_t ht hW⟩, hS.F ht⟩) hS.2.2 dX10_fewestLeaps_193
        · have c_53 : 1000000 ≤ x_40.toInt := xI_nlt rfl rfl c_53
          refine lv_iconst (v := (-1)) hx hb dX10_fewestLeaps_187 (by decide) ?_
          refine lv_goto (tgt := 193) hx hb dX10_fewestLeaps_188 (by decide) ?_
          exact W.iret (v := (-1)) hx hb hr (fun t ht _ => ⟨⟨(-1), G_33, rfl, ⟨hB_G_33, hF⟩, wd_t ht hW⟩, hS.F ht⟩) hS.2.2 dX10_fewestLeaps_193
      · have c_52 : x_37.toInt ≤ 400 := xI_nlt rfl rfl c_52
        have h_54 : x_39.toInt = 0 ∨ x_39.toInt = 2 := by omega
        rcases h_54 with h_54 | h_54
        · obtain rfl : x_39 = 0 := Int32.toInt_inj.mp (h_54.trans rfl)
          refine lv_iload hx hb dX10_fewestLeaps_95 (lv_at hl 3 rfl) ?_
          refine lv_aload_n hx hb dX10_fewestLeaps_97 rfl (lv_at hl 4 rfl) ?_
          refine S_getR (n := 41) (C := RX10) (T := TX10) (N := 5) hx hb hg iX10 hown hK hW kd_8 rfl 0 (by decide) (hg (Cond.fieldLink RX10 13 "SlabWalk$Trails" "rows" "[[I") m440) (fun _ h9 => h9) rfl dX10_fewestLeaps_98 ?_
          refine lv_iload hx hb dX10_fewestLeaps_101 (lv_at hl 2 rfl) ?_
          refine S_aald hx hb hK hW kd_41 (vin (by decide) (by decide)) dX10_fewestLeaps_103 ?_
          refine rows_at (n := 42) (rows_c hB_G_33 0 (by decide)) ?_
          refine lv_aload_n hx hb dX10_fewestLeaps_104 rfl (lv_at hl 5 rfl) ?_
          refine S_getI (v := (G.1 7 7)) (C := RX0) (T := TX0) (N := 8) hx hb hg iX0 hown hK hW kd_7 rfl 7 (by decide) (hg (Cond.fieldLink RX10 58 "SlabWalk$Course" "end" "I") m394) (fun _ h9 => h9) rfl ((hq_34.i 7 7 (by decide) (by decide)).trans ((hq_28.i 7 7 (by decide) (by decide)).trans ((hq_11.i 7 7 (by decide) (by decide)).trans ((hq_8.i 7 7 (by decide) (by decide)).trans ((hq_4.i 7 7 (by decide) (by decide)).trans (rfl)))))) dX10_fewestLeaps_105 ?_
          refine lv_aload_n hx hb dX10_fewestLeaps_108 rfl (lv_at hl 5 rfl) ?_
          refine S_getI (v := (G.1 7 6)) (C := RX0) (T := TX0) (N := 8) hx hb hg iX0 hown hK hW kd_7 rfl 6 (by decide) (hg (Cond.fieldLink RX10 34 "SlabWalk$Course" "last" "I") m388) (fun _ h9 => h9) rfl ((hq_34.i 7 6 (by decide) (by decide)).trans ((hq_28.i 7 6 (by decide) (by decide)).trans ((hq_11.i 7 6 (by decide) (by decide)).trans ((hq_8.i 7 6 (by decide) (by decide)).trans ((hq_4.i 7 6 (by decide) (by decide)).trans (rfl)))))) dX10_fewestLeaps_109 ?_
          refine S_calli (va_runS (As := [.ref (a 42), .int (G.1 7 7), .int (G.1 7 6)]) (rest := [.int x_40]) ⟨hx, hb, hml, hown, hts⟩ (k_tLeast_42 l D k A a z G_33 (G.1 7 7) (G.1 7 6) ⟨by omega, by omega⟩) (va_cwS 3 hts (gd_S hgd m998 m999 m124 m1000) rfl rfl rfl (by decide +kernel) ⟨Nat.le_of_ble_eq_true rfl, Nat.le_of_ble_eq_true rfl⟩) (pre_S hW hB_G_33 hK hZ hS) rfl rfl hl.1 rfl (lv_room (Nat.le_of_ble_eq_true rfl)) dX10_fewestLeaps_112 ⟨Nat.le_of_ble_eq_true rfl, Nat.le_of_ble_eq_true rfl⟩) hS (fun r_55 G_56 H locs hpo hW hS => ?_)
          obtain ⟨hB_G_56, hq_57⟩ := hpo
          have hF := hF.call hq_57 (by decide) (by decide)
          refine va_mmin hx hb (by rw [hml]; exact hl.1.symm) hown (hg (Cond.methodLink RX10 49 Lib.Math.min.name) m1001) (hg (Cond.static Lib.Math.min.name) m636) (hg (Cond.initialized "java/lang/Math") m132) (hg (Cond.code Lib.Math.min.name Lib.Math.min.code 2 (some .int)) m637) (Nat.le_of_ble_eq_true rfl) (Nat.le_of_ble_eq_true rfl) (Nat.le_of_ble_eq_true rfl) (Nat.le_of_ble_eq_true rfl) dX10_fewestLeaps_115 ?_
          refine lv_topi (fun y_59 ey_59 => ?_)
          have ty_59 := xI_min (X := x_40.toInt) (Y := r_55.toInt) rfl rfl ey_59
          refine lv_istore (lv' := [(4, .int y_59), (7, .int x_37), (6, .int x_38), (5, .int 0), (0, .ref (a 8)), (1, .ref (a 7)), (2, .int p0), (3, .int p1)]) hx hb dX10_fewestLeaps_118 hl (by decide) rfl (fun ls hl => ?_)
          refine lv_iload hx hb dX10_fewestLeaps_120 (lv_at hl 0 rfl) ?_
          refine lv_aload_n hx hb dX10_fewestLeaps_122 rfl (lv_at hl 4 rfl) ?_
          refine S_getR (n := 41) (C := RX10) (T := TX10) (N := 5) hx hb hg iX10 hown hK hW kd_8 rfl 0 (by decide) (hg (Cond.fieldLink RX10 13 "SlabWalk$Trails" "rows" "[[I") m440) (fun _ h9 => h9) rfl dX10_fewestLeaps_123 ?_
          refine lv_iload hx hb dX10_fewestLeaps_126 (lv_at hl 3 rfl) ?_
          refine lv_iconst (v := 1) hx hb dX10_fewestLeaps_128 (by decide) ?_
          refine lv_iadd hx hb dX10_fewestLeaps_129 ?_
          refine lv_topi (fun y_60 ey_60 => ?_)
          obtain rfl : y_60 = 1 := ey_60.trans (by decide)
          refine S_aald hx hb hK hW kd_41 (vin (by decide) (by decide)) dX10_fewestLeaps_130 ?_
          refine rows_at (n := 43) (rows_c hB_G_56 1 (by decide)) ?_
          refine lv_aload_n hx hb dX10_fewestLeaps_131 rfl (lv_at hl 5 rfl) ?_
          refine S_getI (v := (G.1 7 7)) (C := RX0) (T := TX0) (N := 8) hx hb hg iX0 hown hK hW kd_7 rfl 7 (by decide) (hg (Cond.fieldLink RX10 58 "SlabWalk$Course" "end" "I") m394) (fun _ h9 => h9) rfl ((hq_57.i 7 7 (by decide) (by decide)).trans ((hq_34.i 7 7 (by decide) (by decide)).trans ((hq_28.i 7 7 (by decide) (by decide)).trans ((hq_11.i 7 7 (by decide) (by decide)).trans ((hq_8.i 7 7 (by decide) (by decide)).trans ((hq_4.i 7 7 (by decide) (by decide)).trans (rfl))))))) dX10_fewestLeaps_132 ?_
          refine lv_aload_n hx hb dX10_fewestLeaps_135 rfl (lv_at hl 5 rfl) ?_
          refine S_getI (v := (G.1 7 6)) (C := RX0) (T := TX0) (N := 8) hx hb hg iX0 hown hK hW kd_7 rfl 6 (by decide) (hg (Cond.fieldLink RX10 34 "SlabWalk$Course" "last" "I") m388) (fun _ h9 => h9) rfl ((hq_57.i 7 6 (by decide) (by decide)).trans ((hq_34.i 7 6 (by decide) (by decide)).trans ((hq_28.i 7 6 (by decide) (by decide)).trans ((hq_11.i 7 6 (by decide) (by decide)).trans ((hq_8.i 7 6 (by decide) (by decide)).trans ((hq_4.i 7 6 (by decide) (by decide)).trans (rfl))))))) dX10_fewestLeaps_136 ?_
          refine S_calli (va_runS (As := [.ref (a 43), .int (G.1 7 7), .int (G.1 7 6)]) (rest := [.int y_59]) ⟨hx, hb, hml, hown, hts⟩ (k_tLeast_43 l D k A a z G_56 (G.1 7 7) (G.1 7 6) ⟨by omega, by omega⟩) (va_cwS 3 hts (gd_S hgd m998 m999 m124 m1000) rfl rfl rfl (by decide +kernel) ⟨Nat.le_of_ble_eq_true rfl, Nat.le_of_ble_eq_true rfl⟩) (pre_S hW hB_G_56 hK hZ hS) rfl rfl hl.1 rfl (lv_room (Nat.le_of_ble_eq_true rfl)) dX10_fewestLeaps_139 ⟨Nat.le_of_ble_eq_true rfl, Nat.le_of_ble_eq_true rfl⟩) hS (fun r_61 G_62 H locs hpo hW hS => ?_)
          obtain ⟨hB_G_62, hq_63⟩ := hpo
          have hF := hF.call hq_63 (by decide) (by decide)
          refine va_mmin hx hb (by rw [hml]; exact hl.1.symm) hown (hg (Cond.methodLink RX10 49 Lib.Math.min.name) m1001) (hg (Cond.static Lib.Math.min.name) m636) (hg (Cond.initialized "java/lang/Math") m132) (hg (Cond.code Lib.Math.min.name Lib.Math.min.code 2 (some .int)) m637) (Nat.le_of_ble_eq_true rfl) (Nat.le_of_ble_eq_true rfl) (Nat.le_of_ble_eq_true rfl) (Nat.le_of_ble_eq_true rfl) dX10_fewestLeaps_142 ?_
          refine lv_topi (fun y_65 ey_65 => ?_)
          have ty_65 := xI_min (X := y_59.toInt) (Y := r_61.toInt) rfl rfl ey_65
          refine lv_istore (lv' := [(4, .int y_65), (7, .int x_37), (6, .int x_38), (5, .int 0), (0, .ref (a 8)), (1, .ref (a 7)), (2, .int p0), (3, .int p1)]) hx hb dX10_fewestLeaps_145 hl (by decide) rfl (fun ls hl => ?_)
          refine lv_aload_n hx hb dX10_fewestLeaps_147 rfl (lv_at hl 4 rfl) ?_
          refine lv_aload_n hx hb dX10_fewestLeaps_148 rfl (lv_at hl 5 rfl) ?_
          refine lv_iload hx hb dX10_fewestLeaps_149 (lv_at hl 3 rfl) ?_
          refine lv_iload_n hx hb dX10_fewestLeaps_151 rfl (lv_at hl 6 rfl) ?_
          refine lv_iload hx hb dX10_fewestLeaps_152 (lv_at hl 1 rfl) ?_
          refine lv_imul hx hb dX10_fewestLeaps_154 ?_
          refine lv_topi (fun y_66 ey_66 => ?_)
          have ty_66 := (xI_mulB (a := 99) (b := 400) ey_66 (by omega) (by omega) (by omega) (by omega) (by decide)).2
          refine lv_iload_n hx hb dX10_fewestLeaps_155 rfl (lv_at hl 7 rfl) ?_
          refine lv_isub hx hb dX10_fewestLeaps_156 ?_
          refine lv_topi (fun y_67 ey_67 => ?_)
          have ty_67 : y_67.toInt = y_66.toInt - p1.toInt := xI_sub rfl rfl ey_67 (by omega) (by omega)
          refine lv_iload_n hx hb dX10_fewestLeaps_157 rfl (lv_at hl 6 rfl) ?_
          refine lv_iload hx hb dX10_fewestLeaps_158 (lv_at hl 1 rfl) ?_
          refine lv_imul hx hb dX10_fewestLeaps_160 ?_
          refine lv_topi (fun y_68 ey_68 => ?_)
          have ty_68 := (xI_mulB (a := 99) (b := 400) ey_68 (by omega) (by omega) (by omega) (by omega) (by decide)).2
          refine lv_iload_n hx hb dX10_fewestLeaps_161 rfl (lv_at hl 7 rfl) ?_
          refine lv_iadd hx hb dX10_fewestLeaps_162 ?_
          refine lv_topi (fun y_69 ey_69 => ?_)
          have ty_69 : y_69.toInt = y_68.toInt + p1.toInt := xI_add rfl rfl ey_69 (by omega) (by omega)
          have g_70 : (G_62.1 7 3).toInt = (G.1 7 3).toInt := by rw [show G_62.1 7 3 = (G.1 7 3) from ((hq_63.i 7 3 (by decide) (by decide)).trans ((hq_57.i 7 3 (by decide) (by decide)).trans ((hq_34.i 7 3 (by decide) (by decide)).trans ((hq_28.i 7 3 (by decide) (by decide)).trans ((hq_11.i 7 3 (by decide) (by decide)).trans ((hq_8.i 7 3 (by decide) (by decide)).trans ((hq_4.i 7 3 (by decide) (by decide)).trans (rfl))))))))]
          have g_71 : (G_62.1 7 4).toInt = (G.1 7 4).toInt := by rw [show G_62.1 7 4 = (G.1 7 4) from ((hq_63.i 7 4 (by decide) (by decide)).trans ((hq_57.i 7 4 (by decide) (by decide)).trans ((hq_34.i 7 4 (by decide) (by decide)).trans ((hq_28.i 7 4 (by decide) (by decide)).trans ((hq_11.i 7 4 (by decide) (by decide)).trans ((hq_8.i 7 4 (by decide) (by decide)).trans ((hq_4.i 7 4 (by decide) (by decide)).trans (rfl))))))))]
          have g_72 : (G_62.1 7 6).toInt = (G.1 7 6).toInt := by rw [show G_62.1 7 6 = (G.1 7 6) from ((hq_63.i 7 6 (by decide) (by decide)).trans ((hq_57.i 7 6 (by decide) (by decide)).trans ((hq_34.i 7 6 (by decide) (by decide)).trans ((hq_28.i 7 6 (by decide) (by decide)).trans ((hq_11.i 7 6 (by decide) (by decide)).trans ((hq_8.i 7 6 (by decide) (by decide)).trans ((hq_4.i 7 6 (by decide) (by decide)).trans (rfl))))))))]
          have g_73 : (G_62.1 7 7).toInt = (G.1 7 7).toInt := by rw [show G_62.1 7 7 = (G.1 7 7) from ((hq_63.i 7 7 (by decide) (by decide)).trans ((hq_57.i 7 7 (by decide) (by decide)).trans ((hq_34.i 7 7 (by decide) (by decide)).trans ((hq_28.i 7 7 (by decide) (by decide)).trans ((hq_11.i 7 7 (by decide) (by decide)).trans ((hq_8.i 7 7 (by decide) (by decide)).trans ((hq_4.i 7 7 (by decide) (by decide)).trans (rfl))))))))]
          refine S_calli (va_runV (As := [.ref (a 7), .int 0, .int y_67, .int y_69]) (rest := []) ⟨hx, hb, hml, hown, hts⟩ (k_tHand_0 l D k A a z G_62 y_67 y_69 ⟨by omega, by omega⟩ ⟨by omega, by omega⟩ (by omega)) (cwV 4 hts (gd_V hgd m1096 m1098 m37 m124 m1099) rfl rfl rfl (by decide +kernel) ⟨Nat.le_of_ble_eq_true rfl, Nat.le_of_ble_eq_true rfl⟩) (pre_V hW hB_G_62 hK hZ hS kd_8 rfl) rfl rfl hl.1 rfl (lv_room (Nat.le_of_ble_eq_true rfl)) dX10_fewestLeaps_163 ⟨Nat.le_of_ble_eq_true rfl, Nat.le_of_ble_eq_true rfl⟩) hS (fun r_74 G_75 H locs hpo hW hS => ?_)
          obtain ⟨hB_G_75, hq_76, f_78⟩ := hpo
          have hF := hF.call hq_76 (by decide) (by decide)
          refine lv_istore (lv' := [(6, .int r_74), (4, .int y_65), (7, .int x_37), (5, .int 0), (0, .ref (a 8)), (1, .ref (a 7)), (2, .int p0), (3, .int p1)]) hx hb dX10_fewestLeaps_166 hl (by decide) rfl (fun ls hl => ?_)
          refine lv_iconst (v := 2) hx hb dX10_fewestLeaps_168 (by decide) ?_
          refine lv_iload hx hb dX10_fewestLeaps_169 (lv_at hl 3 rfl) ?_
          refine lv_isub hx hb dX10_fewestLeaps_171 ?_
          refine lv_topi (fun y_79 ey_79 => ?_)
          obtain rfl : y_79 = 2 := ey_79.trans (by decide)
          refine lv_istore (lv' := [(5, .int 2), (6, .int r_74), (4, .int y_65), (7, .int x_37), (0, .ref (a 8)), (1, .ref (a 7)), (2, .int p0), (3, .int p1)]) hx hb dX10_fewestLeaps_172 hl (by decide) rfl (fun ls hl => ?_)
          obtain ⟨y_80, ey_80⟩ : ∃ q, q = x_37 + 1 := ⟨_, rfl⟩
          have ty_80 : y_80.toInt = x_37.toInt + 1 := xI_add rfl rfl ey_80 (by omega) (by omega)
          refine lv_iinc (v := y_80) (lv' := [(7, .int y_80), (5, .int 2), (6, .int r_74), (4, .int y_65), (0, .ref (a 8)), (1, .ref (a 7)), (2, .int p0), (3, .int p1)]) hx hb dX10_fewestLeaps_174 hl (k := 3) rfl (by rw [ey_80]; rfl) (by decide) rfl (fun ls hl => ?_)
          refine lv_goto (tgt := 82) hx hb dX10_fewestLeaps_177 (by decide) ?_
          have qc_81 : (2 : Int32).toInt = 2 := rfl
          exact ih_35 (401 - y_80.toInt : Int).toNat (by omega) _ _ _ ⟨G_75, y_80, r_74, 2, y_65, (Int.toNat_of_nonneg (by omega)), ⟨by omega, by omega⟩, ⟨by omega, by omega⟩, ⟨by omega, by omega⟩, (by omega), (by omega), hW, hB_G_75, hF, ((((Fr.rf.call hq_34 (by decide) (by decide)).call hq_57 (by decide) (by decide)).call hq_63 (by decide) (by decide)).call hq_76 (by decide) (by decide)), hS, lv_sub hl [0, 2, 1, 3, 4, 5, 6, 7] rfl⟩
        · obtain rfl : x_39 = 2 := Int32.toInt_inj.mp (h_54.trans rfl)
          refine lv_iload hx hb dX10_fewestLeaps_95 (lv_at hl 3 rfl) ?_
          refine lv_aload_n hx hb dX10_fewestLeaps_97 rfl (lv_at hl 4 rfl) ?_
          refine S_getR (n := 41) (C := RX10) (T := TX10) (N := 5) hx hb hg iX10 hown hK hW kd_8 rfl 0 (by decide) (hg (Cond.fieldLink RX10 13 "SlabWalk$Trails" "rows" "[[I") m440) (fun _ h9 => h9) rfl dX10_fewestLeaps_98 ?_
          refine lv_iload hx hb dX10_fewestLeaps_101 (lv_at hl 2 rfl) ?_
          refine S_aald hx hb hK hW kd_41 (vin (by decide) (by decide)) dX10_fewestLeaps_103 ?_
          refine rows_at (n := 44) (rows_c hB_G_33 2 (by decide)) ?_
          refine lv_aload_n hx hb dX10_fewestLeaps_104 rfl (lv_at hl 5 rfl) ?_
          refine S_getI (v := (G.1 7 7)) (C := RX0) (T := TX0) (N := 8) hx hb hg iX0 hown hK hW kd_7 rfl 7 (by decide) (hg (Cond.fieldLink RX10 58 "SlabWalk$Course" "end" "I") m394) (fun _ h9 => h9) rfl ((hq_34.i 7 7 (by decide) (by decide)).trans ((hq_28.i 7 7 (by decide) (by decide)).trans ((hq_11.i 7 7 (by decide) (by decide)).trans ((hq_8.i 7 7 (by decide) (by decide)).trans ((hq_4.i 7 7 (by decide) (by decide)).trans (rfl)))))) dX10_fewestLeaps_105 ?_
          refine lv_aload_n hx hb dX10_fewestLeaps_108 rfl (lv_at hl 5 rfl) ?_
          refine S_getI (v := (G.1 7 6)) (C := RX0) (T := TX0) (N := 8) hx hb hg iX0 hown hK hW kd_7 rfl 6 (by decide) (hg (Cond.fieldLink RX10 34 "SlabWalk$Course" "last" "I") m388) (fun _ h9 => h9) rfl ((hq_34.i 7 6 (by decide) (by decide)).trans ((hq_28.i 7 6 (by decide) (by decide)).trans ((hq_11.i 7 6 (by decide) (by decide)).trans ((hq_8.i 7 6 (by decide) (by decide)).trans ((hq_4.i 7 6 (by decide) (by decide)).trans (rfl)))))) dX10_fewestLeaps_109 ?_
          refine S_calli (va_runS (As := [.ref (a 44), .int (G.1 7 7), .int (G.1 7 6)]) (rest := [.int x_40]) ⟨hx, hb, hml, hown, hts⟩ (k_tLeast_44 l D k A a z G_33 (G.1 7 7) (G.1 7 6) ⟨by omega, by omega⟩) (va_cwS 3 hts (gd_S hgd m998 m999 m124 m1000) rfl rfl rfl (by decide +kernel) ⟨Nat.le_of_ble_eq_true rfl, Nat.le_of_ble_eq_true rfl⟩) (pre_S hW hB_G_33 hK hZ hS) rfl rfl hl.1 rfl (lv_room (Nat.le_of_ble_eq_true rfl)) dX10_fewestLeaps_112 ⟨Nat.le_of_ble_eq_true rfl, Nat.le_of_ble_eq_true rfl⟩) hS (fun r_82 G_83 H locs hpo hW hS => ?_)
          obtain ⟨hB_G_83, hq_84⟩ := hpo
          have hF := hF.call hq_84 (by decide) (by decide)
          refine va_mmin hx hb (by rw [hml]; exact hl.1.symm) hown (hg (Cond.methodLink RX10 49 Lib.Math.min.name) m1001) (hg (Cond.static Lib.Math.min.name) m636) (hg (Cond.initialized "java/lang/Math") m132) (hg (Cond.code Lib.Math.min.name Lib.Math.min.code 2 (some .int)) m637) (Nat.le_of_ble_eq_true rfl) (Nat.le_of_ble_eq_true rfl) (Nat.le_of_ble_eq_true rfl) (Nat.le_of_ble_eq_true rfl) dX10_fewestLeaps_115 ?_
          refine lv_topi (fun y_86 ey_86 => ?_)
          have ty_86 := xI_min (X := x_40.toInt) (Y := r_82.toInt) rfl rfl ey_86
          refine lv_istore (lv' := [(4, .int y_86), (7, .int x_37), (6, .int x_38), (5, .int 2), (0, .ref (a 8)), (1, .ref (a 7)), (2, .int p0), (3, .int p1)]) hx hb dX10_fewestLeaps_118 hl (by decide) rfl (fun ls hl => ?_)
          refine lv_iload hx hb dX10_fewestLeaps_120 (lv_at hl 0 rfl) ?_
          refine lv_aload_n hx hb dX10_fewestLeaps_122 rfl (lv_at hl 4 rfl) ?_
          refine S_getR (n := 41) (C := RX10) (T := TX10) (N := 5) hx hb hg iX10 hown hK hW kd_8 rfl 0 (by decide) (hg (Cond.fieldLink RX10 13 "SlabWalk$Trails" "rows" "[[I") m440) (fun _ h9 => h9) rfl dX10_fewestLeaps_123 ?_
          refine lv_iload hx hb dX10_fewestLeaps_126 (lv_at hl 3 rfl) ?_
          refine lv_iconst (v := 1) hx hb dX10_fewestLeaps_128 (by decide) ?_
          refine lv_iadd hx hb dX10_fewestLeaps_129 ?_
          refine lv_topi (fun y_87 ey_87 => ?_)
          obtain rfl : y_87 = 3 := ey_87.trans (by decide)
          refine S_aald hx hb hK hW kd_41 (vin (by decide) (by decide)) dX10_fewestLeaps_130 ?_
          refine rows_at (n := 45) (rows_c hB_G_83 3 (by decide)) ?_
          refine lv_aload_n hx hb dX10_fewestLeaps_131 rfl (lv_at hl 5 rfl) ?_
          refine S_getI (v := (G.1 7 7)) (C := RX0) (T := TX0) (N := 8) hx hb hg iX0 hown hK hW kd_7 rfl 7 (by decide) (hg (Cond.fieldLink RX10 58 "SlabWalk$Course" "end" "I") m394) (fun _ h9 => h9) rfl ((hq_84.i 7 7 (by decide) (by decide)).trans ((hq_34.i 7 7 (by decide) (by decide)).trans ((hq_28.i 7 7 (by decide) (by decide)).trans ((hq_11.i 7 7 (by decide) (by decide)).trans ((hq_8.i 7 7 (by decide) (by decide)).trans ((hq_4.i 7 7 (by decide) (by decide)).trans (rfl))))))) dX10_fewestLeaps_132 ?_
          refine lv_aload_n hx hb dX10_fewestLeaps_135 rfl (lv_at hl 5 rfl) ?_
          refine S_getI (v := (G.1 7 6)) (C := RX0) (T := TX0) (N := 8) hx hb hg iX0 hown hK hW kd_7 rfl 6 (by decide) (hg (Cond.fieldLink RX10 34 "SlabWalk$Course" "last" "I") m388) (fun _ h9 => h9) rfl ((hq_84.i 7 6 (by decide) (by decide)).trans ((hq_34.i 7 6 (by decide) (by decide)).trans ((hq_28.i 7 6 (by decide) (by decide)).trans ((hq_11.i 7 6 (by decide) (by decide)).trans ((hq_8.i 7 6 (by decide) (by decide)).trans ((hq_4.i 7 6 (by decide) (by decide)).trans (rfl))))))) dX10_fewestLeaps_136 ?_
          refine S_calli (va_runS (As := [.ref (a 45), .int (G.1 7 7), .int (G.1 7 6)]) (rest := [.int y_86]) ⟨hx, hb, hml, hown, hts⟩ (k_tLeast_45 l D k A a z G_83 (G.1 7 7) (G.1 7 6) ⟨by omega, by omega⟩) (va_cwS 3 hts (gd_S hgd m998 m999 m124 m1000) rfl rfl rfl (by decide +kernel) ⟨Nat.le_of_ble_eq_true rfl, Nat.le_of_ble_eq_true rfl⟩) (pre_S hW hB_G_83 hK hZ hS) rfl rfl hl.1 rfl (lv_room (Nat.le_of_ble_eq_true rfl)) dX10_fewestLeaps_139 ⟨Nat.le_of_ble_eq_true rfl, Nat.le_of_ble_eq_true rfl⟩) hS (fun r_88 G_89 H locs hpo hW hS => ?_)
          obtain ⟨hB_G_89, hq_90⟩ := hpo
          have hF := hF.call hq_90 (by decide) (by decide)
          refine va_mmin hx hb (by rw [hml]; exact hl.1.symm) hown (hg (Cond.methodLink RX10 49 Lib.Math.min.name) m1001) (hg (Cond.static Lib.Math.min.name) m636) (hg (Cond.initialized "java/lang/Math") m132) (hg (Cond.code Lib.Math.min.name Lib.Math.min.code 2 (some .int)) m637) (Nat.le_of_ble_eq_true rfl) (Nat.le_of_ble_eq_true rfl) (Nat.le_of_ble_eq_true rfl) (Nat.le_of_ble_eq_true rfl) dX10_fewestLeaps_142 ?_
          refine lv_topi (fun y_92 ey_92 => ?_)
          have ty_92 := xI_min (X := y_86.toInt) (Y := r_88.toInt) rfl rfl ey_92
          refine lv_istore (lv' := [(4, .int y_92), (7, .int x_37), (6, .int x_38), (5, .int 2), (0, .ref (a 8)), (1, .ref (a 7)), (2, .int p0), (3, .int p1)]) hx hb dX10_fewestLeaps_145 hl (by decide) rfl (fun ls hl => ?_)
          refine lv_aload_n hx hb dX10_fewestLeaps_147 rfl (lv_at hl 4 rfl) ?_
          refine lv_aload_n hx hb dX10_fewestLeaps_148 rfl (lv_at hl 5 rfl) ?_
          refine lv_iload hx hb dX10_fewestLeaps_149 (lv_at hl 3 rfl) ?_
          refine lv_iload_n hx hb dX10_fewestLeaps_151 rfl (lv_at hl 6 rfl) ?_
          refine lv_iload hx hb dX10_fewestLeaps_152 (lv_at hl 1 rfl) ?_
          refine lv_imul hx hb dX10_fewestLeaps_154 ?_
          refine lv_topi (fun y_93 ey_93 => ?_)
          have ty_93 := (xI_mulB (a := 99) (b := 400) ey_93 (by omega) (by omega) (by omega) (by omega) (by decide)).2
          refine lv_iload_n hx hb dX10_fewestLeaps_155 rfl (lv_at hl 7 rfl) ?_
          refine lv_isub hx hb dX10_fewestLeaps_156 ?_
          refine lv_topi (fun y_94 ey_94 => ?_)
          have ty_94 : y_94.toInt = y_93.toInt - p1.toInt := xI_sub rfl rfl ey_94 (by omega) (by omega)
          refine lv_iload_n hx hb dX10_fewestLeaps_157 rfl (lv_at hl 6 rfl) ?_
          refine lv_iload hx hb dX10_fewestLeaps_158 (lv_at hl 1 rfl) ?_
          refine lv_imul hx hb dX10_fewestLeaps_160 ?_
          refine lv_topi (fun y_95 ey_95 => ?_)
          have ty_95 := (xI_mulB (a := 99) (b := 400) ey_95 (by omega) (by omega) (by omega) (by omega) (by decide)).2
          refine lv_iload_n hx hb dX10_fewestLeaps_161 rfl (lv_at hl 7 rfl) ?_
          refine lv_iadd hx hb dX10_fewestLeaps_162 ?_
          refine lv_topi (fun y_96 ey_96 => ?_)
          have ty_96 : y_96.toInt = y_95.toInt + p1.toInt := xI_add rfl rfl ey_96 (by omega) (by omega)
          have g_97 : (G_89.1 7 3).toInt = (G.1 7 3).toInt := by rw [show G_89.1 7 3 = (G.1 7 3) from ((hq_90.i 7 3 (by decide) (by decide)).trans ((hq_84.i 7 3 (by decide) (by decide)).trans ((hq_34.i 7 3 (by decide) (by decide)).trans ((hq_28.i 7 3 (by decide) (by decide)).trans ((hq_11.i 7 3 (by decide) (by decide)).trans ((hq_8.i 7 3 (by decide) (by decide)).trans ((hq_4.i 7 3 (by decide) (by decide)).trans (rfl))))))))]
          have g_98 : (G_89.1 7 4).toInt = (G.1 7 4).toInt := by rw [show G_89.1 7 4 = (G.1 7 4) from ((hq_90.i 7 4 (by decide) (by decide)).trans ((hq_84.i 7 4 (by decide) (by decide)).trans ((hq_34.i 7 4 (by decide) (by decide)).trans ((hq_28.i 7 4 (by decide) (by decide)).trans ((hq_11.i 7 4 (by decide) (by decide)).trans ((hq_8.i 7 4 (by decide) (by decide)).trans ((hq_4.i 7 4 (by decide) (by decide)).trans (rfl))))))))]
          have g_99 : (G_89.1 7 6).toInt = (G.1 7 6).toInt := by rw [show G_89.1 7 6 = (G.1 7 6) from ((hq_90.i 7 6 (by decide) (by decide)).trans ((hq_84.i 7 6 (by decide) (by decide)).trans ((hq_34.i 7 6 (by decide) (by decide)).trans ((hq_28.i 7 6 (by decide) (by decide)).trans ((hq_11.i 7 6 (by decide) (by decide)).trans ((hq_8.i 7 6 (by decide) (by decide)).trans ((hq_4.i 7 6 (by decide) (by decide)).trans (rfl))))))))]
          have g_100 : (G_89.1 7 7).toInt = (G.1 7 7).toInt := by rw [show G_89.1 7 7 = (G.1 7 7) from ((hq_90.i 7 7 (by decide) (by decide)).trans ((hq_84.i 7 7 (by decide) (by decide)).trans ((hq_34.i 7 7 (by decide) (by decide)).trans ((hq_28.i 7 7 (by decide) (by decide)).trans ((hq_11.i 7 7 (by decide) (by decide)).trans ((hq_8.i 7 7 (by decide) (by decide)).trans ((hq_4.i 7 7 (by decide) (by decide)).trans (rfl))))))))]
          refine S_calli (va_runV (As := [.ref (a 7), .int 2, .int y_94, .int y_96]) (rest := []) ⟨hx, hb, hml, hown, hts⟩ (k_tHand_2 l D k A a z G_89 y_94 y_96 ⟨by omega, by omega⟩ ⟨by omega, by omega⟩ (by omega)) (cwV 4 hts (gd_V hgd m1096 m1098 m37 m124 m1099) rfl rfl rfl (by decide +kernel) ⟨Nat.le_of_ble_eq_true rfl, Nat.le_of_ble_eq_true rfl⟩) (pre_V hW hB_G_89 hK hZ hS kd_8 rfl) rfl rfl hl.1 rfl (lv_room (Nat.le_of_ble_eq_true rfl)) dX10_fewestLeaps_163 ⟨Nat.le_of_ble_eq_true rfl, Nat.le_of_ble_eq_true rfl⟩) hS (fun r_101 G_102 H locs hpo hW hS => ?_)
          obtain ⟨hB_G_102, hq_103, f_105⟩ := hpo
          have hF := hF.call hq_103 (by decide) (by decide)
          refine lv_istore (lv' := [(6, .int r_101), (4, .int y_92), (7, .int x_37), (5, .int 2), (0, .ref (a 8)), (1, .ref (a 7)), (2, .int p0), (3, .int p1)]) hx hb dX10_fewestLeaps_166 hl (by decide) rfl (fun ls hl => ?_)
          refine lv_iconst (v := 2) hx hb dX10_fewestLeaps_168 (by decide) ?_
          refine lv_iload hx hb dX10_fewestLeaps_169 (lv_at hl 3 rfl) ?_
          refine lv_isub hx hb dX10_fewestLeaps_171 ?_
          refine lv_topi (fun y_106 ey_106 => ?_)
          obtain rfl : y_106 = 0 := ey_106.trans (by decide)
          refine lv_istore (lv' := [(5, .int 0), (6, .int r_101), (4, .int y_92), (7, .int x_37), (0, .ref (a 8)), (1, .ref (a 7)), (2, .int p0), (3, .int p1)]) hx hb dX10_fewestLeaps_172 hl (by decide) rfl (fun ls hl => ?_)
          obtain ⟨y_107, ey_107⟩ : ∃ q, q = x_37 + 1 := ⟨_, rfl⟩
          have ty_107 : y_107.toInt = x_37.toInt + 1 := xI_add rfl rfl ey_107 (by omega) (by omega)
          refine lv_iinc (v := y_107) (lv' := [(7, .int y_107), (5, .int 0), (6, .int r_101), (4, .int y_92), (0, .ref (a 8)), (1, .ref (a 7)), (2, .int p0), (3, .int p1)]) hx hb dX10_fewestLeaps_174 hl (k := 3) rfl (by rw [ey_107]; rfl) (by decide) rfl (fun ls hl => ?_)
          refine lv_goto (tgt := 82) hx hb dX10_fewestLeaps_177 (by decide) ?_
          have qc_108 : (0 : Int32).toInt = 0 := rfl
          exact ih_35 (401 - y_107.toInt : Int).toNat (by omega) _ _ _ ⟨G_102, y_107, r_101, 0, y_92, (Int.toNat_of_nonneg (by omega)), ⟨by omega, by omega⟩, ⟨by omega, by omega⟩, ⟨by omega, by omega⟩, (by omega), (by omega), hW, hB_G_102, hF, ((((Fr.rf.call hq_34 (by decide) (by decide)).call hq_84 (by decide) (by decide)).call hq_90 (by decide) (by decide)).call hq_103 (by decide) (by decide)), hS, lv_sub hl [0, 2, 1, 3, 4, 5, 6, 7] rfl⟩
  · have c_32 : x_14.toInt ≤ y_31.toInt := xI_nlt rfl rfl c_32
    refine lv_aload_n hx hb dX10_fewestLeaps_38 rfl (lv_at hl 1 rfl) ?_
    refine S_getR (n := 41) (C := RX10) (T := TX10) (N := 5) hx hb hg iX10 hown hK hW kd_8 rfl 0 (by decide) (hg (Cond.fieldLink RX10 13 "SlabWalk$Trails" "rows" "[[I") m440) (fun _ h9 => h9) rfl dX10_fewestLeaps_39 ?_
    refine lv_iconst (v := 0) hx hb dX10_fewestLeaps_42 (by decide) ?_
    refine S_aald hx hb hK hW kd_41 (vin (by decide) (by decide)) dX10_fewestLeaps_43 ?_
    refine rows_at (n := 42) (rows_c hB_G_27 0 (by decide)) ?_
    refine lv_iload hx hb dX10_fewestLeaps_44 (lv_at hl 0 rfl) ?_
    refine lv_aload_n hx hb dX10_fewestLeaps_46 rfl (lv_at hl 2 rfl) ?_
    refine S_getR (n := 40) (C := RX0) (T := TX0) (N := 8) hx hb hg iX0 hown hK hW kd_7 rfl 0 (by decide) (hg (Cond.fieldLink RX10 55 "SlabWalk$Course" "lawful" "[Z") m373) (fun _ h9 => h9) rfl dX10_fewestLeaps_47 ?_
    refine lv_iload hx hb dX10_fewestLeaps_50 (lv_at hl 0 rfl) ?_
    refine S_zald hx hb hK hW kd_40 (vin (by omega) (by omega)) dX10_fewestLeaps_52 (fun y_109 ey_109 => ?_)
    have ty_109 : 0 ≤ y_109.toInt ∧ y_109.toInt ≤ 1 := hB_G_27.v ey_109 rfl rfl
    refine lv_if_eq (tgt := 60) hx hb dX10_fewestLeaps_53 (by decide) (fun c_110 => ?_) (fun c_110 => ?_)
    · have c_110 : y_109.toInt = 0 := xI_eq rfl rfl c_110
      refine lv_ldc (v := 1000000) hx hb hown (hg (Cond.constant RX10 44 1000000) m997) dX10_fewestLeaps_60 ?_
      refine S_iast hx hb hK hW hS kd_42 (vin (by omega) (by omega)) dX10_fewestLeaps_62 (fun G_111 H locs eG_111 hW hS => ?_)
      have hB_G_111 : Bd G_111 := hB_G_27.put (lo := (-2147483648)) (hi := 2147483647) eG_111 rfl rfl rfl (tI_rng _).1 (tI_rng _).2 (hB_G_27.2.put eG_111 rfl)
      have hF := hF.put eG_111 (Or.inl (by decide))
      obtain ⟨y_112, ey_112⟩ : ∃ q, q = x_14 + 1 := ⟨_, rfl⟩
      have ty_112 : y_112.toInt = x_14.toInt + 1 := xI_add rfl rfl ey_112 (by omega) (by omega)
      refine lv_iinc (v := y_112) (lv' := [(4, .int y_112), (0, .ref (a 8)), (1, .ref (a 7)), (2, .int p0), (3, .int p1)]) hx hb dX10_fewestLeaps_63 hl (k := 0) rfl (by rw [ey_112]; rfl) (by decide) rfl (fun ls hl => ?_)
      refine lv_goto (tgt := 25) hx hb dX10_fewestLeaps_66 (by decide) ?_
      exact ih_12 (100 - y_112.toInt : Int).toNat (by omega) _ _ _ ⟨G_111, y_112, (Int.toNat_of_nonneg (by omega)), ⟨by omega, by omega⟩, hW, hB_G_111, hF, (((Fr.rf.call hq_11 (by decide) (by decide)).call hq_28 (by decide) (by decide)).put eG_111 (Or.inl (by decide))), hS, lv_sub hl [0, 1, 2, 3, 4] rfl⟩
    · have c_110 : y_109.toInt ≠ 0 := xI_ne rfl rfl c_110
      refine lv_iconst (v := 0) hx hb dX10_fewestLeaps_56 (by decide) ?_
      refine lv_goto (tgt := 62) hx hb dX10_fewestLeaps_57 (by decide) ?_
      refine S_iast hx hb hK hW hS kd_42 (vin (by omega) (by omega)) dX10_fewestLeaps_62 (fun G_113 H locs eG_113 hW hS => ?_)
      have hB_G_113 : Bd G_113 := hB_G_27.put (lo := (-2147483648)) (hi := 2147483647) eG_113 rfl rfl rfl (tI_rng _).1 (tI_rng _).2 (hB_G_27.2.put eG_113 rfl)
      have hF := hF.put eG_113 (Or.inl (by decide))
      obtain ⟨y_114, ey_114⟩ : ∃ q, q = x_14 + 1 := ⟨_, rfl⟩
      have ty_114 : y_114.toInt = x_14.toInt + 1 := xI_add rfl rfl ey_114 (by omega) (by omega)
      refine lv_iinc (v := y_114) (lv' := [(4, .int y_114), (0, .ref (a 8)), (1, .ref (a 7)), (2, .int p0), (3, .int p1)]) hx hb dX10_fewestLeaps_63 hl (k := 0) rfl (by rw [ey_114]; rfl) (by decide) rfl (fun ls hl => ?_)
      refine lv_goto (tgt := 25) hx hb dX10_fewestLeaps_66 (by decide) ?_
      exact ih_12 (100 - y_114.toInt : Int).toNat (by omega) _ _ _ ⟨G_113, y_114, (Int.toNat_of_nonneg (by omega)), ⟨by omega, by omega⟩, hW, hB_G_113, hF, (((Fr.rf.call hq_11 (by decide) (by decide)).call hq_28 (by decide) (by decide)).put eG_113 (Or.inl (by decide))), hS, lv_sub hl [0, 1, 2, 3, 4] rfl⟩

set_option maxHeartbeats 4000000 in
set_option maxRecDepth 100000 in
theorem k_tWin (l : Launch) (D : va_G) (k : KT) (A : Nat → Prop) (a : Nat → Nat) (z : SK) (G : GS) (p0 : Int32) (p1 : Int32) (ha_p0 : 0 ≤ p0.toInt ∧ p0.toInt ≤ 63) (ha_p1 : 0 ≤ p1.toInt ∧ p1.toInt ≤ 63) : Met l yX10_winningFrom (WS yX10_winningFrom cX10_winningFrom 5 (some .int)) ({ frames := 0, cells := 0, slots := 0, locals := 0 }) (va_Pc [.ref (a 8), .int p0, .int p1] (cW D k A a z G)) (va_Qi (fun (r : Int32) (G1 : GS) => Bd G1 ∧ Fr [] [] G G1) (fun (G1 : GS) t => Wd D k A a G1 t.heap) A) 0 0 A := by
  refine Met.ofW (cc := cX10_winningFrom) (maxL := 5) (ret := (some .int)) (by decide) rfl ?_
  intro p e s m args below meth c s₁ B hml hv
  obtain ⟨rfl, hW, hB_G, hK, hZ⟩ := hv
  have hx := B.exec
  have hb := B.bytes
  have hr := B.returns
  have hts := atoms_spec (ws := WS yX10_winningFrom cX10_winningFrom 5 (some .int)) B.pre
  have hgd : ∀ w ∈ gd, w ∈ WS yX10_winningFrom cX10_winningFrom 5 (some .int) := fun w h => List.mem_cons_of_mem _ h
  have hg : ∀ w ∈ gd, w.before _ s = true := fun w h => hts w (hgd w h)
  have hown : s.vm.findClass RX10 = some m.cls := findClass_of_methodNamed B.named
  have hS : va_S A s.heap s.heap [] := va_S.rf
  have hF : Fr [] [] G G := Fr.rf
  have hl := lv_entry ([.ref (a 8), .int p0, .int p1]) (n := 5) (Nat.le_of_ble_eq_true rfl)
  rw [lg_entry_eq]
  generalize (lg_sl ([.ref (a 8), .int p0, .int p1]) ++ List.replicate (5 - (lg_sl ([.ref (a 8), .int p0, .int p1])).length) Slot.unset).toArray = ls at hl ⊢
  have hl : lv_has ls 5 [(0, .ref (a 8)), (1, .int p0), (2, .int p1)] := hl
  refine lv_iconst (v := 0) hx hb dX10_winningFrom_0 (by decide) ?_
  refine lv_istore_n (lv' := [(3, .int 0), (0, .ref (a 8)), (1, .int p0), (2, .int p1)]) hx hb dX10_winningFrom_1 rfl hl (by decide) rfl (fun ls hl => ?_)
  have qc_6 : (0 : Int32).toInt = 0 := rfl
  refine loop_N (Inv := fun n H locs ls => ∃ (G_1 : GS) (x_5 : Int32), (n : Int) = 6 - x_5.toInt ∧ (0 ≤ x_5.toInt ∧ x_5.toInt ≤ 6) ∧ Wd D k A a G_1 H ∧ Bd G_1 ∧ Fr [] [] G G_1 ∧ Fr [] [] G G_1 ∧ va_S A s.heap H locs ∧ lv_has ls 5 [(3, .int x_5), (0, .ref (a 8)), (1, .int p0), (2, .int p1)]) (fun n_4 H locs ls ih_3 hI => ?_) (6 - 0 : Int).toNat ⟨G, 0, (Int.toNat_of_nonneg (by omega)), ⟨by omega, by omega⟩, hW, hB_G, hF, Fr.rf, hS, lv_sub hl [0, 1, 2, 3] rfl⟩
  obtain ⟨G_1, x_5, hn_8, f_7, hW, hB_G_1, hF, hq_2, hS, hl⟩ := hI
  refine lv_iload_n hx hb dX10_winningFrom_2 rfl (lv_at hl 0 rfl) ?_
  refine lv_bipush (v := 6) hx hb dX10_winningFrom_3 (by decide) ?_
  refine lv_icmp_ge (tgt := 57) hx hb dX10_winningFrom_5 (by decide) (fun c_9 => ?_) (fun c_9 => ?_)
  · have c_9 : 6 ≤ x_5.toInt := xI_le rfl rfl c_9
    refine lv_iconst (v := (-1)) hx hb dX10_winningFrom_57 (by decide) ?_
    exact W.iret (v := (-1)) hx hb hr (fun t ht _ => ⟨⟨(-1), G_1, rfl, ⟨hB_G_1, hF⟩, wd_t ht hW⟩, hS.F ht⟩) hS.2.2 dX10_winningFrom_58
  · have c_9 : x_5.toInt < 6 := xI_nle rfl rfl c_9
    refine lv_iconst (v := 1) hx hb dX10_winningFrom_8 (by decide) ?_
    refine lv_iload_n hx hb dX10_winningFrom_9 rfl (lv_at hl 0 rfl) ?_
    refine lv_ishl hx hb dX10_winningFrom_10 ?_
    refine lv_topi (fun y_10 ey_10 => ?_)
    have ty_10 := sh5 (Y := x_5.toInt) rfl ey_10 rfl (by omega) (by omega)
    refine lv_iload_n hx hb dX10_winningFrom_11 rfl (lv_at hl 3 rfl) ?_
    refine lv_icmp_gt (tgt := 57) hx hb dX10_winningFrom_12 (by decide) (fun c_11 => ?_) (fun c_11 => ?_)
    · have c_11 : p1.toInt < y_10.toInt := xI_lt rfl rfl c_11
      refine lv_iconst (v := (-1)) hx hb dX10_winningFrom_57 (by decide) ?_
      exact W.iret (v := (-1)) hx hb hr (fun t ht _ => ⟨⟨(-1), G_1, rfl, ⟨hB_G_1, hF⟩, wd_t ht hW⟩, hS.F ht⟩) hS.2.2 dX10_winningFrom_58
    · have c_11 : y_10.toInt ≤ p1.toInt := xI_nlt rfl rfl c_11
      refine lv_iload_n hx hb dX10_winningFrom_15 rfl (lv_at hl 2 rfl) ?_
      refine lv_iconst (v := 1) hx hb dX10_winningFrom_16 (by decide) ?_
      refine lv_iload_n hx hb dX10_winningFrom_17 rfl (lv_at hl 0 rfl) ?_
      refine lv_ishl hx hb dX10_winningFrom_18 ?_
      refine lv_topi (fun y_12 ey_12 => ?_)
      have ty_12 := sh5 (Y := x_5.toInt) rfl ey_12 rfl (by omega) (by omega)
      refine lv_ior hx hb dX10_winningFrom_19 ?_
      refine lv_topi (fun y_13 ey_13 => ?_)
      have ty_13 := or6 ey_13 ⟨by omega, by omega⟩ ⟨by omega, by omega⟩
      refine lv_istore (lv' := [(4, .int y_13), (3, .int x_5), (0, .ref (a 8)), (1, .int p0), (2, .int p1)]) hx hb dX10_winningFrom_20 hl (by decide) rfl (fun ls hl => ?_)
      refine lv_iload hx hb dX10_winningFrom_22 (lv_at hl 0 rfl) ?_
      refine lv_iload_n hx hb dX10_winningFrom_24 rfl (lv_at hl 3 rfl) ?_
      refine lv_icmp_eq (tgt := 51) hx hb dX10_winningFrom_25 (by decide) (fun c_14 => ?_) (fun c_14 => ?_)
      · have c_14 : y_13.toInt = p0.toInt := xI_eq rfl rfl c_14
        obtain ⟨y_15, ey_15⟩ : ∃ q, q = x_5 + 1 := ⟨_, rfl⟩
        have ty_15 : y_15.toInt = x_5.toInt + 1 := xI_add rfl rfl ey_15 (by omega) (by omega)
        refine lv_iinc (v := y_15) (lv' := [(3, .int y_15), (4, .int y_13), (0, .ref (a 8)), (1, .int p0), (2, .int p1)]) hx hb dX10_winningFrom_51 hl (k := 1) rfl (by rw [ey_15]; rfl) (by decide) rfl (fun ls hl => ?_)
        refine lv_goto (tgt := 2) hx hb dX10_winningFrom_54 (by decide) ?_
        exact ih_3 (6 - y_15.toInt : Int).toNat (by omega) _ _ _ ⟨G_1, y_15, (Int.toNat_of_nonneg (by omega)), ⟨by omega, by omega⟩, hW, hB_G_1, hF, (Fr.rf.call hq_2 (by decide) (by decide)), hS, lv_sub hl [0, 2, 3, 4] rfl⟩
      · have c_14 : y_13.toInt ≠ p0.toInt := xI_ne rfl rfl c_14
        refine lv_aload_n hx hb dX10_winningFrom_28 rfl (lv_at hl 2 rfl) ?_
        refine S_getR (n := 47) (C := RX10) (T := TX10) (N := 5) hx hb hg iX10 hown hK hW kd_8 rfl 4 (by decide) (hg (Cond.fieldLink RX10 30 "SlabWalk$Trails" "leaving" "[Z") m445) (fun _ h9 => h9) rfl dX10_winningFrom_29 ?_
        refine lv_iload hx hb dX10_winningFrom_32 (lv_at hl 0 rfl) ?_
        refine S_zald hx hb hK hW kd_47 (vin (by omega) (by omega)) dX10_winningFrom_34 (fun y_16 ey_16 => ?_)
        have ty_16 : 0 ≤ y_16.toInt ∧ y_16.toInt ≤ 1 := hB_G_1.v ey_16 rfl rfl
        refine lv_if_eq (tgt := 51) hx hb dX10_winningFrom_35 (by decide) (fun c_17 => ?_) (fun c_17 => ?_)
        · have c_17 : y_16.toInt = 0 := xI_eq rfl rfl c_17
          obtain ⟨y_18, ey_18⟩ : ∃ q, q = x_5 + 1 := ⟨_, rfl⟩
          have ty_18 : y_18.toInt = x_5.toInt + 1 := xI_add rfl rfl ey_18 (by omega) (by omega)
          refine lv_iinc (v := y_18) (lv' := [(3, .int y_18), (4, .int y_13), (0, .ref (a 8)), (1, .int p0), (2, .int p1)]) hx hb dX10_winningFrom_51 hl (k := 1) rfl (by rw [ey_18]; rfl) (by decide) rfl (fun ls hl => ?_)
          refine lv_goto (tgt := 2) hx hb dX10_winningFrom_54 (by decide) ?_
          exact ih_3 (6 - y_18.toInt : Int).toNat (by omega) _ _ _ ⟨G_1, y_18, (Int.toNat_of_nonneg (by omega)), ⟨by omega, by omega⟩, hW, hB_G_1, hF, (Fr.rf.call hq_2 (by decide) (by decide)), hS, lv_sub hl [0, 2, 3, 4] rfl⟩
        · have c_17 : y_16.toInt ≠ 0 := xI_ne rfl rfl c_17
          refine lv_aload_n hx hb dX10_winningFrom_38 rfl (lv_at hl 2 rfl) ?_
          refine S_getR (n := 46) (C := RX10) (T := TX10) (N := 5) hx hb hg iX10 hown hK hW kd_8 rfl 3 (by decide) (hg (Cond.fieldLink RX10 26 "SlabWalk$Trails" "winning" "[I") m443) (fun _ h9 => h9) rfl dX10_winningFrom_39 ?_
          refine lv_iload hx hb dX10_winningFrom_42 (lv_at hl 0 rfl) ?_
          refine S_iald hx hb hK hW kd_46 (vin (by omega) (by omega)) dX10_winningFrom_44 (fun y_19 ey_19 => ?_)
          refine lv_iconst (v := (-1)) hx hb dX10_winningFrom_45 (by decide) ?_
          refine lv_icmp_ne (tgt := 51) hx hb dX10_winningFrom_46 (by decide) (fun c_20 => ?_) (fun c_20 => ?_)
          · have c_20 : y_19.toInt ≠ (-1) := xI_ne rfl rfl c_20
            obtain ⟨y_21, ey_21⟩ : ∃ q, q = x_5 + 1 := ⟨_, rfl⟩
            have ty_21 : y_21.toInt = x_5.toInt + 1 := xI_add rfl rfl ey_21 (by omega) (by omega)
            refine lv_iinc (v := y_21) (lv' := [(3, .int y_21), (4, .int y_13), (0, .ref (a 8)), (1, .int p0), (2, .int p1)]) hx hb dX10_winningFrom_51 hl (k := 1) rfl (by rw [ey_21]; rfl) (by decide) rfl (fun ls hl => ?_)
            refine lv_goto (tgt := 2) hx hb dX10_winningFrom_54 (by decide) ?_
            exact ih_3 (6 - y_21.toInt : Int).toNat (by omega) _ _ _ ⟨G_1, y_21, (Int.toNat_of_nonneg (by omega)), ⟨by omega, by omega⟩, hW, hB_G_1, hF, (Fr.rf.call hq_2 (by decide) (by decide)), hS, lv_sub hl [0, 2, 3, 4] rfl⟩
          · have c_20 : y_19.toInt = (-1) := xI_eq rfl rfl c_20
            refine lv_iload_n hx hb dX10_winningFrom_49 rfl (lv_at hl 1 rfl) ?_
            exact W.iret (v := x_5) hx hb hr (fun t ht _ => ⟨⟨x_5, G_1, rfl, ⟨hB_G_1, hF⟩, wd_t ht hW⟩, hS.F ht⟩) hS.2.2 dX10_winningFrom_50
