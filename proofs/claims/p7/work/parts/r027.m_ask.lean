theorem m115 : Cond.selects RX12 yX12_counts yX12_counts ∈ gd := gd_mem 115 (by decide +kernel) (by decide +kernel)
theorem m1394 : Cond.fieldLink RX12 157 "SlabWalkModel" "sightWho" "[I" ∈ gd := gd_mem 1394 (by decide +kernel) (by decide +kernel)
theorem m1395 : Cond.fieldLink RX12 160 "SlabWalkModel" "sightWhere" "[I" ∈ gd := gd_mem 1395 (by decide +kernel) (by decide +kernel)
theorem m1396 : Cond.fieldLink RX12 163 "SlabWalkModel" "sightHeel" "[I" ∈ gd := gd_mem 1396 (by decide +kernel) (by decide +kernel)
theorem m2055 : Cond.methodLink RX12 596 yX12_counts ∈ gd := gd_mem 2055 (by decide +kernel) (by decide +kernel)
theorem m2057 : Cond.instanceMethod yX12_counts ∈ gd := gd_mem 2057 (by decide +kernel) (by decide +kernel)
theorem m2058 : Cond.code yX12_counts cX12_counts 3 (some .boolean) ∈ gd := gd_mem 2058 (by decide +kernel) (by decide +kernel)
theorem dX12_fits_0 : decode cX12_fits 0 = .ok (.iconst 0, 1) := by decide +kernel
theorem dX12_fits_1 : decode cX12_fits 1 = .ok (.istore_n 2, 1) := by decide +kernel
theorem dX12_fits_2 : decode cX12_fits 2 = .ok (.iconst 0, 1) := by decide +kernel
theorem dX12_fits_3 : decode cX12_fits 3 = .ok (.istore_n 3, 1) := by decide +kernel
theorem dX12_fits_4 : decode cX12_fits 4 = .ok (.iload_n 3, 1) := by decide +kernel
theorem dX12_fits_5 : decode cX12_fits 5 = .ok (.aload_n 0, 1) := by decide +kernel
theorem dX12_fits_6 : decode cX12_fits 6 = .ok (.getfield 431, 3) := by decide +kernel
theorem dX12_fits_9 : decode cX12_fits 9 = .ok (.if_icmp .ge 98, 3) := by decide +kernel
theorem dX12_fits_12 : decode cX12_fits 12 = .ok (.iconst 1, 1) := by decide +kernel
theorem dX12_fits_13 : decode cX12_fits 13 = .ok (.istore 4, 2) := by decide +kernel
theorem dX12_fits_15 : decode cX12_fits 15 = .ok (.iconst 0, 1) := by decide +kernel
theorem dX12_fits_16 : decode cX12_fits 16 = .ok (.istore 5, 2) := by decide +kernel
theorem dX12_fits_18 : decode cX12_fits 18 = .ok (.iload 5, 2) := by decide +kernel
theorem dX12_fits_20 : decode cX12_fits 20 = .ok (.aload_n 0, 1) := by decide +kernel
theorem dX12_fits_21 : decode cX12_fits 21 = .ok (.getfield 443, 3) := by decide +kernel
theorem dX12_fits_24 : decode cX12_fits 24 = .ok (.if_icmp .ge 62, 3) := by decide +kernel
theorem dX12_fits_27 : decode cX12_fits 27 = .ok (.iload 4, 2) := by decide +kernel
theorem dX12_fits_29 : decode cX12_fits 29 = .ok (.ifCond .eq 57, 3) := by decide +kernel
theorem dX12_fits_32 : decode cX12_fits 32 = .ok (.aload_n 0, 1) := by decide +kernel
theorem dX12_fits_33 : decode cX12_fits 33 = .ok (.iload 5, 2) := by decide +kernel
theorem dX12_fits_35 : decode cX12_fits 35 = .ok (.iload_n 1, 1) := by decide +kernel
theorem dX12_fits_36 : decode cX12_fits 36 = .ok (.invokevirtual 596, 3) := by decide +kernel
theorem dX12_fits_39 : decode cX12_fits 39 = .ok (.ifCond .ne 6, 3) := by decide +kernel
theorem dX12_fits_42 : decode cX12_fits 42 = .ok (.goto 38, 3) := by decide +kernel
theorem dX12_fits_45 : decode cX12_fits 45 = .ok (.aload_n 0, 1) := by decide +kernel
theorem dX12_fits_46 : decode cX12_fits 46 = .ok (.aload_n 0, 1) := by decide +kernel
theorem dX12_fits_47 : decode cX12_fits 47 = .ok (.getfield 157, 3) := by decide +kernel
theorem dX12_fits_50 : decode cX12_fits 50 = .ok (.iload 5, 2) := by decide +kernel
theorem dX12_fits_52 : decode cX12_fits 52 = .ok (.iaload, 1) := by decide +kernel
theorem dX12_fits_53 : decode cX12_fits 53 = .ok (.aload_n 0, 1) := by decide +kernel
theorem dX12_fits_54 : decode cX12_fits 54 = .ok (.getfield 160, 3) := by decide +kernel
theorem dX12_fits_57 : decode cX12_fits 57 = .ok (.iload 5, 2) := by decide +kernel
theorem dX12_fits_59 : decode cX12_fits 59 = .ok (.iaload, 1) := by decide +kernel
theorem dX12_fits_60 : decode cX12_fits 60 = .ok (.iconst 1, 1) := by decide +kernel
theorem dX12_fits_61 : decode cX12_fits 61 = .ok (.iload_n 3, 1) := by decide +kernel
theorem dX12_fits_62 : decode cX12_fits 62 = .ok (.ishl, 1) := by decide +kernel
theorem dX12_fits_63 : decode cX12_fits 63 = .ok (.invokevirtual 493, 3) := by decide +kernel
theorem dX12_fits_66 : decode cX12_fits 66 = .ok (.aload_n 0, 1) := by decide +kernel
theorem dX12_fits_67 : decode cX12_fits 67 = .ok (.getfield 115, 3) := by decide +kernel
theorem dX12_fits_70 : decode cX12_fits 70 = .ok (.aload_n 0, 1) := by decide +kernel
theorem dX12_fits_71 : decode cX12_fits 71 = .ok (.getfield 163, 3) := by decide +kernel
theorem dX12_fits_74 : decode cX12_fits 74 = .ok (.iload 5, 2) := by decide +kernel
theorem dX12_fits_76 : decode cX12_fits 76 = .ok (.iaload, 1) := by decide +kernel
theorem dX12_fits_77 : decode cX12_fits 77 = .ok (.baload, 1) := by decide +kernel
theorem dX12_fits_78 : decode cX12_fits 78 = .ok (.istore 4, 2) := by decide +kernel
theorem dX12_fits_80 : decode cX12_fits 80 = .ok (.iinc 5 1, 3) := by decide +kernel
theorem dX12_fits_83 : decode cX12_fits 83 = .ok (.goto (-65), 3) := by decide +kernel
theorem dX12_fits_86 : decode cX12_fits 86 = .ok (.iload_n 2, 1) := by decide +kernel
theorem dX12_fits_87 : decode cX12_fits 87 = .ok (.iload 4, 2) := by decide +kernel
theorem dX12_fits_89 : decode cX12_fits 89 = .ok (.ifCond .eq 9, 3) := by decide +kernel
theorem dX12_fits_92 : decode cX12_fits 92 = .ok (.iconst 1, 1) := by decide +kernel
theorem dX12_fits_93 : decode cX12_fits 93 = .ok (.iload_n 3, 1) := by decide +kernel
theorem dX12_fits_94 : decode cX12_fits 94 = .ok (.ishl, 1) := by decide +kernel
theorem dX12_fits_95 : decode cX12_fits 95 = .ok (.goto 4, 3) := by decide +kernel
theorem dX12_fits_98 : decode cX12_fits 98 = .ok (.iconst 0, 1) := by decide +kernel
theorem dX12_fits_99 : decode cX12_fits 99 = .ok (.ior, 1) := by decide +kernel
theorem dX12_fits_100 : decode cX12_fits 100 = .ok (.istore_n 2, 1) := by decide +kernel
theorem dX12_fits_101 : decode cX12_fits 101 = .ok (.iinc 3 1, 3) := by decide +kernel
theorem dX12_fits_104 : decode cX12_fits 104 = .ok (.goto (-100), 3) := by decide +kernel
theorem dX12_fits_107 : decode cX12_fits 107 = .ok (.iload_n 2, 1) := by decide +kernel
theorem dX12_fits_108 : decode cX12_fits 108 = .ok (.ireturn, 1) := by decide +kernel
theorem dX12_go_0 : decode cX12_go 0 = .ok (.aload_n 0, 1) := by decide +kernel
theorem dX12_go_1 : decode cX12_go 1 = .ok (.getfield 151, 3) := by decide +kernel
theorem dX12_go_4 : decode cX12_go 4 = .ok (.iconst 0, 1) := by decide +kernel
theorem dX12_go_5 : decode cX12_go 5 = .ok (.iaload, 1) := by decide +kernel
theorem dX12_go_6 : decode cX12_go 6 = .ok (.ifCond .lt 13, 3) := by decide +kernel
theorem dX12_go_9 : decode cX12_go 9 = .ok (.aload_n 0, 1) := by decide +kernel
theorem dX12_go_10 : decode cX12_go 10 = .ok (.getfield 151, 3) := by decide +kernel
theorem dX12_go_13 : decode cX12_go 13 = .ok (.iconst 4, 1) := by decide +kernel
theorem dX12_go_14 : decode cX12_go 14 = .ok (.iaload, 1) := by decide +kernel
theorem dX12_go_15 : decode cX12_go 15 = .ok (.iconst 1, 1) := by decide +kernel
theorem dX12_go_16 : decode cX12_go 16 = .ok (.if_icmp .eq 5, 3) := by decide +kernel
theorem dX12_go_19 : decode cX12_go 19 = .ok (.iconst (-1), 1) := by decide +kernel
theorem dX12_go_20 : decode cX12_go 20 = .ok (.ireturn, 1) := by decide +kernel
theorem dX12_go_21 : decode cX12_go 21 = .ok (.aload_n 0, 1) := by decide +kernel
theorem dX12_go_22 : decode cX12_go 22 = .ok (.getfield 151, 3) := by decide +kernel
theorem dX12_go_25 : decode cX12_go 25 = .ok (.iconst 0, 1) := by decide +kernel
theorem dX12_go_26 : decode cX12_go 26 = .ok (.iaload, 1) := by decide +kernel
theorem dX12_go_27 : decode cX12_go 27 = .ok (.istore_n 2, 1) := by decide +kernel
theorem dX12_go_28 : decode cX12_go 28 = .ok (.iload_n 1, 1) := by decide +kernel
theorem dX12_go_29 : decode cX12_go 29 = .ok (.aload_n 0, 1) := by decide +kernel
theorem dX12_go_30 : decode cX12_go 30 = .ok (.getfield 93, 3) := by decide +kernel
theorem dX12_go_33 : decode cX12_go 33 = .ok (.iload_n 2, 1) := by decide +kernel
theorem dX12_go_34 : decode cX12_go 34 = .ok (.iaload, 1) := by decide +kernel
theorem dX12_go_35 : decode cX12_go 35 = .ok (.aload_n 0, 1) := by decide +kernel
theorem dX12_go_36 : decode cX12_go 36 = .ok (.getfield 151, 3) := by decide +kernel
theorem dX12_go_39 : decode cX12_go 39 = .ok (.iconst 5, 1) := by decide +kernel
theorem dX12_go_40 : decode cX12_go 40 = .ok (.iaload, 1) := by decide +kernel
theorem dX12_go_41 : decode cX12_go 41 = .ok (.iconst 1, 1) := by decide +kernel
theorem dX12_go_42 : decode cX12_go 42 = .ok (.if_icmp .ne 12, 3) := by decide +kernel
theorem dX12_go_45 : decode cX12_go 45 = .ok (.aload_n 0, 1) := by decide +kernel
theorem dX12_go_46 : decode cX12_go 46 = .ok (.getfield 96, 3) := by decide +kernel
theorem dX12_go_49 : decode cX12_go 49 = .ok (.iload_n 2, 1) := by decide +kernel
theorem dX12_go_50 : decode cX12_go 50 = .ok (.iaload, 1) := by decide +kernel
theorem dX12_go_51 : decode cX12_go 51 = .ok (.goto 9, 3) := by decide +kernel
theorem dX12_go_54 : decode cX12_go 54 = .ok (.aload_n 0, 1) := by decide +kernel
theorem dX12_go_55 : decode cX12_go 55 = .ok (.getfield 99, 3) := by decide +kernel
theorem dX12_go_58 : decode cX12_go 58 = .ok (.iload_n 2, 1) := by decide +kernel
theorem dX12_go_59 : decode cX12_go 59 = .ok (.iaload, 1) := by decide +kernel
theorem dX12_go_60 : decode cX12_go 60 = .ok (.invokestatic 449, 3) := by decide +kernel
theorem dX12_go_63 : decode cX12_go 63 = .ok (.ifCond .ne 5, 3) := by decide +kernel
theorem dX12_go_66 : decode cX12_go 66 = .ok (.iconst (-1), 1) := by decide +kernel
theorem dX12_go_67 : decode cX12_go 67 = .ok (.ireturn, 1) := by decide +kernel
theorem dX12_go_68 : decode cX12_go 68 = .ok (.aload_n 0, 1) := by decide +kernel
theorem dX12_go_69 : decode cX12_go 69 = .ok (.invokevirtual 581, 3) := by decide +kernel
theorem dX12_go_72 : decode cX12_go 72 = .ok (.aload_n 0, 1) := by decide +kernel
theorem dX12_go_73 : decode cX12_go 73 = .ok (.iload_n 2, 1) := by decide +kernel
theorem dX12_go_74 : decode cX12_go 74 = .ok (.aload_n 0, 1) := by decide +kernel
theorem dX12_go_75 : decode cX12_go 75 = .ok (.getfield 151, 3) := by decide +kernel
theorem dX12_go_78 : decode cX12_go 78 = .ok (.iconst 1, 1) := by decide +kernel
theorem dX12_go_79 : decode cX12_go 79 = .ok (.iaload, 1) := by decide +kernel
theorem dX12_go_80 : decode cX12_go 80 = .ok (.aload_n 0, 1) := by decide +kernel
theorem dX12_go_81 : decode cX12_go 81 = .ok (.getfield 151, 3) := by decide +kernel
theorem dX12_go_84 : decode cX12_go 84 = .ok (.bipush 8, 2) := by decide +kernel
theorem dX12_go_86 : decode cX12_go 86 = .ok (.iaload, 1) := by decide +kernel
theorem dX12_go_87 : decode cX12_go 87 = .ok (.invokevirtual 493, 3) := by decide +kernel
theorem dX12_go_90 : decode cX12_go 90 = .ok (.aload_n 0, 1) := by decide +kernel
theorem dX12_go_91 : decode cX12_go 91 = .ok (.getfield 151, 3) := by decide +kernel
theorem dX12_go_94 : decode cX12_go 94 = .ok (.bipush 7, 2) := by decide +kernel
theorem dX12_go_96 : decode cX12_go 96 = .ok (.aload_n 0, 1) := by decide +kernel
theorem dX12_go_97 : decode cX12_go 97 = .ok (.getfield 151, 3) := by decide +kernel
theorem dX12_go_100 : decode cX12_go 100 = .ok (.bipush 7, 2) := by decide +kernel
theorem dX12_go_102 : decode cX12_go 102 = .ok (.iaload, 1) := by decide +kernel
theorem dX12_go_103 : decode cX12_go 103 = .ok (.sipush 137, 3) := by decide +kernel
theorem dX12_go_106 : decode cX12_go 106 = .ok (.imul, 1) := by decide +kernel
theorem dX12_go_107 : decode cX12_go 107 = .ok (.bipush 71, 2) := by decide +kernel
theorem dX12_go_109 : decode cX12_go 109 = .ok (.iadd, 1) := by decide +kernel
theorem dX12_go_110 : decode cX12_go 110 = .ok (.sipush 1000, 3) := by decide +kernel
theorem dX12_go_113 : decode cX12_go 113 = .ok (.irem, 1) := by decide +kernel
theorem dX12_go_114 : decode cX12_go 114 = .ok (.iastore, 1) := by decide +kernel
theorem dX12_go_115 : decode cX12_go 115 = .ok (.aload_n 0, 1) := by decide +kernel
theorem dX12_go_116 : decode cX12_go 116 = .ok (.getfield 151, 3) := by decide +kernel
theorem dX12_go_119 : decode cX12_go 119 = .ok (.bipush 7, 2) := by decide +kernel
theorem dX12_go_121 : decode cX12_go 121 = .ok (.iaload, 1) := by decide +kernel
theorem dX12_go_122 : decode cX12_go 122 = .ok (.aload_n 0, 1) := by decide +kernel
theorem dX12_go_123 : decode cX12_go 123 = .ok (.invokevirtual 553, 3) := by decide +kernel
theorem dX12_go_126 : decode cX12_go 126 = .ok (.irem, 1) := by decide +kernel
theorem dX12_go_127 : decode cX12_go 127 = .ok (.istore_n 3, 1) := by decide +kernel
theorem dX12_go_128 : decode cX12_go 128 = .ok (.aload_n 0, 1) := by decide +kernel
theorem dX12_go_129 : decode cX12_go 129 = .ok (.getfield 151, 3) := by decide +kernel
theorem dX12_go_132 : decode cX12_go 132 = .ok (.iconst 2, 1) := by decide +kernel
theorem dX12_go_133 : decode cX12_go 133 = .ok (.iaload, 1) := by decide +kernel
theorem dX12_go_134 : decode cX12_go 134 = .ok (.iload_n 1, 1) := by decide +kernel
theorem dX12_go_135 : decode cX12_go 135 = .ok (.iadd, 1) := by decide +kernel
theorem dX12_go_136 : decode cX12_go 136 = .ok (.iload_n 3, 1) := by decide +kernel
theorem dX12_go_137 : decode cX12_go 137 = .ok (.aload_n 0, 1) := by decide +kernel
theorem dX12_go_138 : decode cX12_go 138 = .ok (.getfield 102, 3) := by decide +kernel
theorem dX12_go_141 : decode cX12_go 141 = .ok (.iconst 0, 1) := by decide +kernel
theorem dX12_go_142 : decode cX12_go 142 = .ok (.iaload, 1) := by decide +kernel
theorem dX12_go_143 : decode cX12_go 143 = .ok (.if_icmp .ge 7, 3) := by decide +kernel
theorem dX12_go_146 : decode cX12_go 146 = .ok (.iconst (-1), 1) := by decide +kernel
theorem dX12_go_147 : decode cX12_go 147 = .ok (.goto 25, 3) := by decide +kernel
theorem dX12_go_150 : decode cX12_go 150 = .ok (.iload_n 3, 1) := by decide +kernel
theorem dX12_go_151 : decode cX12_go 151 = .ok (.aload_n 0, 1) := by decide +kernel
theorem dX12_go_152 : decode cX12_go 152 = .ok (.getfield 102, 3) := by decide +kernel
theorem dX12_go_155 : decode cX12_go 155 = .ok (.iconst 0, 1) := by decide +kernel
theorem dX12_go_156 : decode cX12_go 156 = .ok (.iaload, 1) := by decide +kernel
theorem dX12_go_157 : decode cX12_go 157 = .ok (.aload_n 0, 1) := by decide +kernel
theorem dX12_go_158 : decode cX12_go 158 = .ok (.getfield 102, 3) := by decide +kernel
theorem dX12_go_161 : decode cX12_go 161 = .ok (.iconst 1, 1) := by decide +kernel
theorem dX12_go_162 : decode cX12_go 162 = .ok (.iaload, 1) := by decide +kernel
theorem dX12_go_163 : decode cX12_go 163 = .ok (.iadd, 1) := by decide +kernel
theorem dX12_go_164 : decode cX12_go 164 = .ok (.if_icmp .ge 7, 3) := by decide +kernel
theorem dX12_go_167 : decode cX12_go 167 = .ok (.iconst 0, 1) := by decide +kernel
theorem dX12_go_168 : decode cX12_go 168 = .ok (.goto 4, 3) := by decide +kernel
theorem dX12_go_171 : decode cX12_go 171 = .ok (.iconst 1, 1) := by decide +kernel
theorem dX12_go_172 : decode cX12_go 172 = .ok (.iadd, 1) := by decide +kernel
theorem dX12_go_173 : decode cX12_go 173 = .ok (.istore 4, 2) := by decide +kernel
theorem dX12_go_175 : decode cX12_go 175 = .ok (.aload_n 0, 1) := by decide +kernel
theorem dX12_go_176 : decode cX12_go 176 = .ok (.getfield 151, 3) := by decide +kernel
theorem dX12_go_179 : decode cX12_go 179 = .ok (.iconst 5, 1) := by decide +kernel
theorem dX12_go_180 : decode cX12_go 180 = .ok (.iload_n 1, 1) := by decide +kernel
theorem dX12_go_181 : decode cX12_go 181 = .ok (.aload_n 0, 1) := by decide +kernel
theorem dX12_go_182 : decode cX12_go 182 = .ok (.getfield 96, 3) := by decide +kernel
theorem dX12_go_185 : decode cX12_go 185 = .ok (.iload_n 2, 1) := by decide +kernel
theorem dX12_go_186 : decode cX12_go 186 = .ok (.iaload, 1) := by decide +kernel
theorem dX12_go_187 : decode cX12_go 187 = .ok (.if_icmp .le 7, 3) := by decide +kernel
theorem dX12_go_190 : decode cX12_go 190 = .ok (.iconst 1, 1) := by decide +kernel
theorem dX12_go_191 : decode cX12_go 191 = .ok (.goto 4, 3) := by decide +kernel
theorem dX12_go_194 : decode cX12_go 194 = .ok (.iconst 0, 1) := by decide +kernel
theorem dX12_go_195 : decode cX12_go 195 = .ok (.invokestatic 348, 3) := by decide +kernel
theorem dX12_go_198 : decode cX12_go 198 = .ok (.iastore, 1) := by decide +kernel
theorem dX12_go_199 : decode cX12_go 199 = .ok (.aload_n 0, 1) := by decide +kernel
theorem dX12_go_200 : decode cX12_go 200 = .ok (.iload 4, 2) := by decide +kernel
theorem dX12_go_202 : decode cX12_go 202 = .ok (.invokevirtual 484, 3) := by decide +kernel
theorem dX12_go_205 : decode cX12_go 205 = .ok (.ifCond .ne 12, 3) := by decide +kernel
theorem dX12_go_208 : decode cX12_go 208 = .ok (.aload_n 0, 1) := by decide +kernel
theorem dX12_go_209 : decode cX12_go 209 = .ok (.getfield 151, 3) := by decide +kernel
theorem dX12_go_212 : decode cX12_go 212 = .ok (.iconst 4, 1) := by decide +kernel
theorem dX12_go_213 : decode cX12_go 213 = .ok (.iconst 2, 1) := by decide +kernel
theorem dX12_go_214 : decode cX12_go 214 = .ok (.iastore, 1) := by decide +kernel
theorem dX12_go_215 : decode cX12_go 215 = .ok (.iconst 2, 1) := by decide +kernel
theorem dX12_go_216 : decode cX12_go 216 = .ok (.ireturn, 1) := by decide +kernel
theorem dX12_go_217 : decode cX12_go 217 = .ok (.aload_n 0, 1) := by decide +kernel
theorem dX12_go_218 : decode cX12_go 218 = .ok (.getfield 151, 3) := by decide +kernel
theorem dX12_go_221 : decode cX12_go 221 = .ok (.iconst 2, 1) := by decide +kernel
theorem dX12_go_222 : decode cX12_go 222 = .ok (.iload 4, 2) := by decide +kernel
theorem dX12_go_224 : decode cX12_go 224 = .ok (.iastore, 1) := by decide +kernel
theorem dX12_go_225 : decode cX12_go 225 = .ok (.aload_n 0, 1) := by decide +kernel
theorem dX12_go_226 : decode cX12_go 226 = .ok (.getfield 151, 3) := by decide +kernel
theorem dX12_go_229 : decode cX12_go 229 = .ok (.iconst 3, 1) := by decide +kernel
theorem dX12_go_230 : decode cX12_go 230 = .ok (.dup2, 1) := by decide +kernel
theorem dX12_go_231 : decode cX12_go 231 = .ok (.iaload, 1) := by decide +kernel
theorem dX12_go_232 : decode cX12_go 232 = .ok (.iconst 1, 1) := by decide +kernel
theorem dX12_go_233 : decode cX12_go 233 = .ok (.iadd, 1) := by decide +kernel
theorem dX12_go_234 : decode cX12_go 234 = .ok (.iastore, 1) := by decide +kernel
theorem dX12_go_235 : decode cX12_go 235 = .ok (.aload_n 0, 1) := by decide +kernel
theorem dX12_go_236 : decode cX12_go 236 = .ok (.getfield 151, 3) := by decide +kernel
theorem dX12_go_239 : decode cX12_go 239 = .ok (.iconst 4, 1) := by decide +kernel
theorem dX12_go_240 : decode cX12_go 240 = .ok (.aload_n 0, 1) := by decide +kernel
theorem dX12_go_241 : decode cX12_go 241 = .ok (.iload 4, 2) := by decide +kernel
theorem dX12_go_243 : decode cX12_go 243 = .ok (.invokevirtual 584, 3) := by decide +kernel
theorem dX12_go_246 : decode cX12_go 246 = .ok (.iastore, 1) := by decide +kernel
theorem dX12_go_247 : decode cX12_go 247 = .ok (.aload_n 0, 1) := by decide +kernel
theorem dX12_go_248 : decode cX12_go 248 = .ok (.getfield 151, 3) := by decide +kernel
theorem dX12_go_251 : decode cX12_go 251 = .ok (.iconst 4, 1) := by decide +kernel
theorem dX12_go_252 : decode cX12_go 252 = .ok (.iaload, 1) := by decide +kernel
theorem dX12_go_253 : decode cX12_go 253 = .ok (.ireturn, 1) := by decide +kernel
set_option maxHeartbeats 4000000 in
set_option maxRecDepth 100000 in
theorem n_go (l : Launch) (D : va_G) (k : KT) (A : Nat → Prop) (a : Nat → Nat) (z : SK) (G : GS) (p0 : Int32) (hP9 : gP G = 1) (hac : (G.1 66 78).toInt + (G.1 66 79).toInt ≤ 40) (hsl : 1 ≤ (G.1 96 0).toInt + (G.1 96 1).toInt + (G.1 96 2).toInt) : Met l yX12_go (WS yX12_go cX12_go 5 (some .int)) ({ frames := 5, cells := 0, slots := 0, locals := 117 }) (va_Pc [.ref (a 66), .int p0] (cW D k A a z G)) (va_Qi (fun (r : Int32) (G1 : GS) => Q_go p0 G r G1) (fun (G1 : GS) t => Wd D k A a G1 t.heap) A) 0 0 A := by
  refine Met.ofW (cc := cX12_go) (maxL := 5) (ret := (some .int)) (by decide) rfl ?_
  intro p e s m args below meth c s₁ B hml hv
  obtain ⟨rfl, hW, hB_G, hK, hZ⟩ := hv
  have hx := B.exec
  have hb := B.bytes
  have hr := B.returns
  have hts := atoms_spec (ws := WS yX12_go cX12_go 5 (some .int)) B.pre
  have hgd : ∀ w ∈ gd, w ∈ WS yX12_go cX12_go 5 (some .int) := fun w h => List.mem_cons_of_mem _ h
  have hg : ∀ w ∈ gd, w.before _ s = true := fun w h => hts w (hgd w h)
  have hown : s.vm.findClass RX12 = some m.cls := findClass_of_methodNamed B.named
  have hS : va_S A s.heap s.heap [] := va_S.rf
  have hF : Fr [110, 111, 76, 97, 98] [(66, 59), (66, 60), (66, 61), (66, 62), (66, 63), (66, 78), (66, 79)] G G := Fr.rf
  have hl := lv_entry ([.ref (a 66), .int p0]) (n := 5) (Nat.le_of_ble_eq_true rfl)
  rw [lg_entry_eq]
  generalize (lg_sl ([.ref (a 66), .int p0]) ++ List.replicate (5 - (lg_sl ([.ref (a 66), .int p0])).length) Slot.unset).toArray = ls at hl ⊢
  have hl : lv_has ls 5 [(0, .ref (a 66)), (1, .int p0)] := hl
  refine lv_aload_n hx hb dX12_go_0 rfl (lv_at hl 0 rfl) ?_
  refine S_getR (n := 110) (C := RX12) (T := TX12) (N := 89) hx hb hg iX12 hown hK hW kd_66 rfl 76 (by decide) (hg (Cond.fieldLink RX12 151 "SlabWalkModel" "now" "[I") m1390) (fun _ h9 => h9) rfl dX12_go_1 ?_
  refine lv_iconst (v := 0) hx hb dX12_go_4 (by decide) ?_
  refine S_iald hx hb hK hW kd_110 (vin (by decide) (by decide)) dX12_go_5 (fun y_1 ey_1 => ?_)
  have ty_1 := hB_G.now0 110 (by decide) ey_1
  refine lv_if_lt (tgt := 19) hx hb dX12_go_6 (by decide) (fun c_2 => ?_) (fun c_2 => ?_)
  · have c_2 : y_1.toInt < 0 := xI_lt rfl rfl c_2
    refine lv_iconst (v := (-1)) hx hb dX12_go_19 (by decide) ?_
    have b_3 : 0 ≤ (G.1 66 78).toInt ∧ (G.1 66 78).toInt ≤ 40 := hB_G.i 66 78 rfl rfl
    have b_4 : 0 ≤ (G.1 66 79).toInt ∧ (G.1 66 79).toInt ≤ 40 := hB_G.i 66 79 rfl rfl
    exact W.iret (v := (-1)) hx hb hr (fun t ht _ => ⟨⟨(-1), G, rfl, (Q_go_mk ⟨hB_G, hF, (by have hq : ((-1) : Int32).toInt = (-1) := rfl; (try dsimp only); omega), ⟨y_1, ey_1, (Or.inl ⟨c_2, ⟨rfl, rfl⟩⟩)⟩⟩), wd_t ht hW⟩, hS.F ht⟩) hS.2.2 dX12_go_20
  · have c_2 : 0 ≤ y_1.toInt := xI_nlt rfl rfl c_2
    refine lv_aload_n hx hb dX12_go_9 rfl (lv_at hl 0 rfl) ?_
    refine S_getR (n := 110) (C := RX12) (T := TX12) (N := 89) hx hb hg iX12 hown hK hW kd_66 rfl 76 (by decide) (hg (Cond.fieldLink RX12 151 "SlabWalkModel" "now" "[I") m1390) (fun _ h9 => h9) rfl dX12_go_10 ?_
    refine lv_iconst (v := 4) hx hb dX12_go_13 (by decide) ?_
    refine S_iald hx hb hK hW kd_110 (vin (by decide) (by decide)) dX12_go_14 (fun y_5 ey_5 => ?_)
    refine lv_iconst (v := 1) hx hb dX12_go_15 (by decide) ?_
    refine lv_icmp_eq (tgt := 21) hx hb dX12_go_16 (by decide) (fun c_6 => ?_) (fun c_6 => ?_)
    · have c_6 : y_5.toInt = 1 := xI_eq rfl rfl c_6
      refine lv_aload_n hx hb dX12_go_21 rfl (lv_at hl 0 rfl) ?_
      refine S_getR (n := 110) (C := RX12) (T := TX12) (N := 89) hx hb hg iX12 hown hK hW kd_66 rfl 76 (by decide) (hg (Cond.fieldLink RX12 151 "SlabWalkModel" "now" "[I") m1390) (fun _ h9 => h9) rfl dX12_go_22 ?_
      refine lv_iconst (v := 0) hx hb dX12_go_25 (by decide) ?_
      refine S_iald hx hb hK hW kd_110 (vin (by decide) (by decide)) dX12_go_26 (fun y_7 ey_7 => ?_)
      have ty_7 := hB_G.now0 110 (by decide) ey_7
      have u_8 : y_7.toInt = y_1.toInt := congrArg Int32.toInt (ey_7.trans (ey_1.symm))
      refine lv_istore_n (lv' := [(2, .int y_7), (0, .ref (a 66)), (1, .int p0)]) hx hb dX12_go_27 rfl hl (by decide) rfl (fun ls hl => ?_)
      refine lv_iload_n hx hb dX12_go_28 rfl (lv_at hl 2 rfl) ?_
      refine lv_aload_n hx hb dX12_go_29 rfl (lv_at hl 1 rfl) ?_
      refine S_getR (n := 93) (C := RX12) (T := TX12) (N := 89) hx hb hg iX12 hown hK hW kd_66 rfl 41 (by decide) (hg (Cond.fieldLink RX12 93 "SlabWalkModel" "leasts" "[I") m1355) (fun _ h9 => h9) rfl dX12_go_30 ?_
      refine lv_iload_n hx hb dX12_go_33 rfl (lv_at hl 0 rfl) ?_
      refine S_iald hx hb hK hW kd_93 (vin (by omega) (by omega)) dX12_go_34 (fun y_9 ey_9 => ?_)
      have ty_9 : 0 ≤ y_9.toInt ∧ y_9.toInt ≤ 60 := hB_G.v ey_9 rfl rfl
      have u_10 : y_9.toInt = (G.1 93 y_7.toNatClampNeg).toInt := congrArg Int32.toInt (ey_9)
      refine lv_aload_n hx hb dX12_go_35 rfl (lv_at hl 1 rfl) ?_
      refine S_getR (n := 110) (C := RX12) (T := TX12) (N := 89) hx hb hg iX12 hown hK hW kd_66 rfl 76 (by decide) (hg (Cond.fieldLink RX12 151 "SlabWalkModel" "now" "[I") m1390) (fun _ h9 => h9) rfl dX12_go_36 ?_
      refine lv_iconst (v := 5) hx hb dX12_go_39 (by decide) ?_
      refine S_iald hx hb hK hW kd_110 (vin (by decide) (by decide)) dX12_go_40 (fun y_11 ey_11 => ?_)
      refine lv_iconst (v := 1) hx hb dX12_go_41 (by decide) ?_
      refine W.cut (σ := Int32) (pcJ := 60) (J := fun y H locs ls => ∃ (G_18 : GS), (0 ≤ y.toInt ∧ y.toInt ≤ 99) ∧ Jn_n_go_1 y_7 y_11 G y G_18 ∧ Wd D k A a G_18 H ∧ Bd G_18 ∧ Fr [110, 111, 76, 97, 98] [(66, 59), (66, 60), (66, 61), (66, 62), (66, 63), (66, 78), (66, 79)] G G_18 ∧ Fr [] [] G G_18 ∧ va_S A s.heap H locs ∧ lv_has ls 5 [(2, .int y_7), (0, .ref (a 66)), (1, .int p0)]) (stJ := fun y => [.int y, .int y_9, .int p0]) ?_ (fun hJ_19 => ?_)
      · intro y H locs ls hI
        obtain ⟨w_15, hy⟩ : ∃ q, q = y := ⟨_, rfl⟩
        subst hy
        obtain ⟨G_18, f_22, hX_21, hW, hB_G_18, hF, hq_20, hS, hl⟩ := hI
        refine S_calli (va_runS (As := [.int p0, .int y_9, .int w_15]) (rest := []) ⟨hx, hb, hml, hown, hts⟩ (n_isIn l D k A a z G_18 p0 y_9 w_15 ) (va_cwS 3 hts (gd_S hgd m1781 m1782 m131 m1783) rfl rfl rfl (by decide +kernel) ⟨Nat.le_of_ble_eq_true rfl, Nat.le_of_ble_eq_true rfl⟩) (pre_S hW hB_G_18 hK hZ hS) rfl rfl hl.1 rfl (lv_room (Nat.le_of_ble_eq_true rfl)) dX12_go_60 ⟨Nat.le_of_ble_eq_true rfl, Nat.le_of_ble_eq_true rfl⟩) hS (fun r_23 G_24 H locs hpo hW hS => ?_)
        have hX_27 : Q_isIn p0 y_9 w_15 G_18 r_23 G_24 := hpo
        obtain ⟨hB_G_24, hq_25, f_28, hp_26, -⟩ := hpo
        have hF := hF.call hq_25 (by decide) (by decide)
        refine lv_if_ne (tgt := 68) hx hb dX12_go_63 (by decide) (fun c_29 => ?_) (fun c_29 => ?_)
        · have c_29 : r_23.toInt ≠ 0 := xI_ne rfl rfl c_29
          refine lv_aload_n hx hb dX12_go_68 rfl (lv_at hl 1 rfl) ?_
          refine S_callv (va_runV (As := []) (rest := []) ⟨hx, hb, hml, hown, hts⟩ (n_act l D k A a z G_24  ) (cwV 0 hts (gd_V hgd m1991 m1993 m111 m131 m1994) rfl rfl rfl (by decide +kernel) ⟨Nat.le_of_ble_eq_true rfl, Nat.le_of_ble_eq_true rfl⟩) (pre_V hW hB_G_24 hK hZ hS kd_66 rfl) rfl rfl hl.1 rfl (lv_room (Nat.le_of_ble_eq_true rfl)) dX12_go_69 ⟨Nat.le_of_ble_eq_true rfl, Nat.le_of_ble_eq_true rfl⟩) hS (fun G_31 H locs hpo hW hS => ?_)
          have hX_34 : Q_act G_24 G_31 := hpo
          obtain ⟨hB_G_31, hq_32, hp_33, -⟩ := hpo
          have hF := hF.call hq_32 (by decide) (by decide)
          refine lv_aload_n hx hb dX12_go_72 rfl (lv_at hl 1 rfl) ?_
          refine lv_iload_n hx hb dX12_go_73 rfl (lv_at hl 0 rfl) ?_
          refine lv_aload_n hx hb dX12_go_74 rfl (lv_at hl 1 rfl) ?_
          refine S_getR (n := 110) (C := RX12) (T := TX12) (N := 89) hx hb hg iX12 hown hK hW kd_66 rfl 76 (by decide) (hg (Cond.fieldLink RX12 151 "SlabWalkModel" "now" "[I") m1390) (fun _ h9 => h9) rfl dX12_go_75 ?_
          refine lv_iconst (v := 1) hx hb dX12_go_78 (by decide) ?_
          refine S_iald hx hb hK hW kd_110 (vin (by decide) (by decide)) dX12_go_79 (fun y_35 ey_35 => ?_)
          have ty_35 := hB_G_31.now1 110 (by decide) ey_35
          refine lv_aload_n hx hb dX12_go_80 rfl (lv_at hl 1 rfl) ?_
          refine S_getR (n := 110) (C := RX12) (T := TX12) (N := 89) hx hb hg iX12 hown hK hW kd_66 rfl 76 (by decide) (hg (Cond.fieldLink RX12 151 "SlabWalkModel" "now" "[I") m1390) (fun _ h9 => h9) rfl dX12_go_81 ?_
          refine lv_bipush (v := 8) hx hb dX12_go_84 (by decide) ?_
          refine S_iald hx hb hK hW kd_110 (vin (by decide) (by decide)) dX12_go_86 (fun y_36 ey_36 => ?_)
          have g_37 : gP G_31 = gP G := gP_fr (rs := [111]) (fs := [(66, 78), (66, 79)]) (((Fr.rf.call hq_20 (by decide) (by decide)).call hq_25 (by decide) (by decide)).call hq_32 (by decide) (by decide)) (by decide) (by decide)
          refine S_callv (va_runV (As := [.int y_7, .int y_35, .int y_36]) (rest := []) ⟨hx, hb, hml, hown, hts⟩ (n_layStreet l D k A a z G_31 y_7 y_35 y_36 ⟨by omega, by omega⟩ ⟨by omega, by omega⟩ (by omega)) (cwV 3 hts (gd_V hgd m1834 m1836 m91 m131 m1837) rfl rfl rfl (by decide +kernel) ⟨Nat.le_of_ble_eq_true rfl, Nat.le_of_ble_eq_true rfl⟩) (pre_V hW hB_G_31 hK hZ hS kd_66 rfl) rfl rfl hl.1 rfl (lv_room (Nat.le_of_ble_eq_true rfl)) dX12_go_87 ⟨Nat.le_of_ble_eq_true rfl, Nat.le_of_ble_eq_true rfl⟩) hS (fun G_39 H locs hpo hW hS => ?_)
          have hX_42 : Q_layStreet y_7 y_35 y_36 G_31 G_39 := hpo
          obtain ⟨hB_G_39, hq_40, hp_41, -⟩ := hpo
          have hF := hF.call hq_40 (by decide) (by decide)
          refine lv_aload_n hx hb dX12_go_90 rfl (lv_at hl 1 rfl) ?_
          refine S_getR (n := 110) (C := RX12) (T := TX12) (N := 89) hx hb hg iX12 hown hK hW kd_66 rfl 76 (by decide) (hg (Cond.fieldLink RX12 151 "SlabWalkModel" "now" "[I") m1390) (fun _ h9 => h9) rfl dX12_go_91 ?_
          refine lv_bipush (v := 7) hx hb dX12_go_94 (by decide) ?_
          refine lv_aload_n hx hb dX12_go_96 rfl (lv_at hl 1 rfl) ?_
          refine S_getR (n := 110) (C := RX12) (T := TX12) (N := 89) hx hb hg iX12 hown hK hW kd_66 rfl 76 (by decide) (hg (Cond.fieldLink RX12 151 "SlabWalkModel" "now" "[I") m1390) (fun _ h9 => h9) rfl dX12_go_97 ?_
          refine lv_bipush (v := 7) hx hb dX12_go_100 (by decide) ?_
          refine S_iald hx hb hK hW kd_110 (vin (by decide) (by decide)) dX12_go_102 (fun y_43 ey_43 => ?_)
          refine lv_sipush (v := 137) hx hb dX12_go_103 (by decide) ?_
          refine lv_imul hx hb dX12_go_106 ?_
          refine lv_topi (fun y_44 ey_44 => ?_)
          refine lv_bipush (v := 71) hx hb dX12_go_107 (by decide) ?_
          refine lv_iadd hx hb dX12_go_109 ?_
          refine lv_topi (fun y_45 ey_45 => ?_)
          refine lv_sipush (v := 1000) hx hb dX12_go_110 (by decide) ?_
          refine lv_irem hx hb dX12_go_113 (by decide) ?_
          refine lv_topi (fun y_46 ey_46 => ?_)
          refine S_iast hx hb hK hW hS kd_110 (vin (by decide) (by decide)) dX12_go_114 (fun G_47 H locs eG_47 hW hS => ?_)
          have qc_48 : (7 : Int32).toInt = 7 := rfl
          have hB_G_47 : Bd G_47 := hB_G_39.putNow 110 (by decide) eG_47 (by omega) (by omega) (by omega) rfl
          have hF := hF.put eG_47 (Or.inl (by decide))
          refine lv_aload_n hx hb dX12_go_115 rfl (lv_at hl 1 rfl) ?_
          refine S_getR (n := 110) (C := RX12) (T := TX12) (N := 89) hx hb hg iX12 hown hK hW kd_66 rfl 76 (by decide) (hg (Cond.fieldLink RX12 151 "SlabWalkModel" "now" "[I") m1390) (fun _ h9 => h9) rfl dX12_go_116 ?_
          refine lv_bipush (v := 7) hx hb dX12_go_119 (by decide) ?_
          refine S_iald hx hb hK hW kd_110 (vin (by decide) (by decide)) dX12_go_121 (fun y_49 ey_49 => ?_)
          have u_50 : y_49.toInt = y_46.toInt := congrArg Int32.toInt (ey_49.trans ((gp_eq eG_47)))
          refine lv_aload_n hx hb dX12_go_122 rfl (lv_at hl 1 rfl) ?_
          have b_51 : 0 ≤ (G.1 96 0).toInt ∧ (G.1 96 0).toInt ≤ 9 := hB_G.i 96 0 rfl rfl
          have g_52 : (G_47.1 96 0).toInt = (G.1 96 0).toInt := by rw [show G_47.1 96 0 = (G.1 96 0) from ((gp_ne eG_47 (fun q => absurd q.1 (by decide))).trans ((hq_40.i 96 0 (by decide) (by decide)).trans ((hq_32.i 96 0 (by decide) (by decide)).trans ((hq_25.i 96 0 (by decide) (by decide)).trans (hq_20.i 96 0 (by decide) (by decide))))))]
          have b_53 : 0 ≤ (G.1 96 1).toInt ∧ (G.1 96 1).toInt ≤ 9 := hB_G.i 96 1 rfl rfl
          have g_54 : (G_47.1 96 1).toInt = (G.1 96 1).toInt := by rw [show G_47.1 96 1 = (G.1 96 1) from ((gp_ne eG_47 (fun q => absurd q.1 (by decide))).trans ((hq_40.i 96 1 (by decide) (by decide)).trans ((hq_32.i 96 1 (by decide) (by decide)).trans ((hq_25.i 96 1 (by decide) (by decide)).trans (hq_20.i 96 1 (by decide) (by decide))))))]
          have b_55 : 0 ≤ (G.1 96 2).toInt ∧ (G.1 96 2).toInt ≤ 9 := hB_G.i 96 2 rfl rfl
          have g_56 : (G_47.1 96 2).toInt = (G.1 96 2).toInt := by rw [show G_47.1 96 2 = (G.1 96 2) from ((gp_ne eG_47 (fun q => absurd q.1 (by decide))).trans ((hq_40.i 96 2 (by decide) (by decide)).trans ((hq_32.i 96 2 (by decide) (by decide)).trans ((hq_25.i 96 2 (by decide) (by decide)).trans (hq_20.i 96 2 (by decide) (by decide))))))]
          refine S_calli (va_runV (As := []) (rest := [.int y_49]) ⟨hx, hb, hml, hown, hts⟩ (n_allSlips l D k A a z G_47  ) (cwV 0 hts (gd_V hgd m1955 m1957 m106 m131 m1958) rfl rfl rfl (by decide +kernel) ⟨Nat.le_of_ble_eq_true rfl, Nat.le_of_ble_eq_true rfl⟩) (pre_V hW hB_G_47 hK hZ hS kd_66 rfl) rfl rfl hl.1 rfl (lv_room (Nat.le_of_ble_eq_true rfl)) dX12_go_123 ⟨Nat.le_of_ble_eq_true rfl, Nat.le_of_ble_eq_true rfl⟩) hS (fun r_57 G_58 H locs hpo hW hS => ?_)
          have hX_61 : Q_allSlips G_47 r_57 G_58 := hpo
          obtain ⟨hB_G_58, hq_59, f_62, hp_60, -⟩ := hpo
          have hF := hF.call hq_59 (by decide) (by decide)
          refine lv_irem hx hb dX12_go_126 (fun q => by have q := xI_eq (Y := 0) rfl rfl q; omega) ?_
          refine lv_topi (fun y_63 ey_63 => ?_)
          refine lv_istore_n (lv' := [(3, .int y_63), (2, .int y_7), (0, .ref (a 66)), (1, .int p0)]) hx hb dX12_go_127 rfl hl (by decide) rfl (fun ls hl => ?_)
          refine lv_aload_n hx hb dX12_go_128 rfl (lv_at hl 2 rfl) ?_
          refine S_getR (n := 110) (C := RX12) (T := TX12) (N := 89) hx hb hg iX12 hown hK hW kd_66 rfl 76 (by decide) (hg (Cond.fieldLink RX12 151 "SlabWalkModel" "now" "[I") m1390) (fun _ h9 => h9) rfl dX12_go_129 ?_
          refine lv_iconst (v := 2) hx hb dX12_go_132 (by decide) ?_
          refine S_iald hx hb hK hW kd_110 (vin (by decide) (by decide)) dX12_go_133 (fun y_64 ey_64 => ?_)
          refine lv_iload_n hx hb dX12_go_134 rfl (lv_at hl 3 rfl) ?_
          refine lv_iadd hx hb dX12_go_135 ?_
          refine lv_topi (fun y_65 ey_65 => ?_)
          refine lv_iload_n hx hb dX12_go_136 rfl (lv_at hl 0 rfl) ?_
          refine lv_aload_n hx hb dX12_go_137 rfl (lv_at hl 2 rfl) ?_
          refine S_getR (n := 96) (C := RX12) (T := TX12) (N := 89) hx hb hg iX12 hown hK hW kd_66 rfl 44 (by decide) (hg (Cond.fieldLink RX12 102 "SlabWalkModel" "slips" "[I") m1358) (fun _ h9 => h9) rfl dX12_go_138 ?_
          refine lv_iconst (v := 0) hx hb dX12_go_141 (by decide) ?_
          refine S_iald hx hb hK hW kd_96 (vin (by decide) (by decide)) dX12_go_142 (fun y_66 ey_66 => ?_)
          have ty_66 : 0 ≤ y_66.toInt ∧ y_66.toInt ≤ 9 := hB_G_58.v ey_66 rfl rfl
          have u_67 : y_66.toInt = (G.1 96 0).toInt := congrArg Int32.toInt (ey_66.trans (((hq_59.i 96 0 (by decide) (by decide)).trans ((gp_ne eG_47 (fun q => absurd q.1 (by decide))).trans ((hq_40.i 96 0 (by decide) (by decide)).trans ((hq_32.i 96 0 (by decide) (by decide)).trans ((hq_25.i 96 0 (by decide) (by decide)).trans ((hq_20.i 96 0 (by decide) (by decide)).trans (rfl)))))))))
          refine W.cut (σ := Int32) (pcJ := 195) (J := fun y H locs ls => ∃ (G_73 : GS) (x_68 : Int32), (0 ≤ y.toInt ∧ y.toInt ≤ 1) ∧ Jn_n_go_2 p0 y_7 y_63 y_65 y_66 G_58 x_68 y G_73 ∧ Wd D k A a G_73 H ∧ Bd G_73 ∧ Fr [110, 111, 76, 97, 98] [(66, 59), (66, 60), (66, 61), (66, 62), (66, 63), (66, 78), (66, 79)] G G_73 ∧ Fr [] [] G_58 G_73 ∧ va_S A s.heap H locs ∧ lv_has ls 5 [(4, .int x_68), (0, .ref (a 66))]) (stJ := fun y => [.int y, .int 5, .ref (a 110)]) ?_ (fun hJ_74 => ?_)
          · intro y H locs ls hI
            obtain ⟨w_70, hy⟩ : ∃ q, q = y := ⟨_, rfl⟩
            subst hy
            obtain ⟨G_73, x_68, f_77, hX_76, hW, hB_G_73, hF, hq_75, hS, hl⟩ := hI
            refine S_calli (va_runS (As := [.int w_70]) (rest := [.int 5, .ref (a 110)]) ⟨hx, hb, hml, hown, hts⟩ (n_truth l D k A a z G_73 w_70 ⟨by omega, by omega⟩) (va_cwS 1 hts (gd_S hgd m1788 m1789 m131 m1790) rfl rfl rfl (by decide +kernel) ⟨Nat.le_of_ble_eq_true rfl, Nat.le_of_ble_eq_true rfl⟩) (pre_S hW hB_G_73 hK hZ hS) rfl rfl hl.1 rfl (lv_room (Nat.le_of_ble_eq_true rfl)) dX12_go_195 ⟨Nat.le_of_ble_eq_true rfl, Nat.le_of_ble_eq_true rfl⟩) hS (fun r_78 G_79 H locs hpo hW hS => ?_)
            have hX_82 : Q_truth w_70 G_73 r_78 G_79 := hpo
            obtain ⟨hB_G_79, hq_80, f_83, hp_81, -⟩ := hpo
            have hF := hF.call hq_80 (by decide) (by decide)
            refine S_iast hx hb hK hW hS kd_110 (vin (by decide) (by decide)) dX12_go_198 (fun G_84 H locs eG_84 hW hS => ?_)
            have qc_85 : (5 : Int32).toInt = 5 := rfl
            have hB_G_84 : Bd G_84 := hB_G_79.putNow 110 (by decide) eG_84 (by omega) (by omega) (by omega) rfl
            have hF := hF.put eG_84 (Or.inl (by decide))
            refine lv_aload_n hx hb dX12_go_199 rfl (lv_at hl 1 rfl) ?_
            refine lv_iload hx hb dX12_go_200 (lv_at hl 0 rfl) ?_
            have b_86 : 0 ≤ (G_39.1 66 59).toInt ∧ (G_39.1 66 59).toInt ≤ 400 := hB_G_39.i 66 59 rfl rfl
            have g_87 : (G_84.1 66 59).toInt = (G_39.1 66 59).toInt := by rw [show G_84.1 66 59 = (G_39.1 66 59) from ((gp_ne eG_84 (fun q => absurd q.1 (by decide))).trans ((hq_80.i 66 59 (by decide) (by decide)).trans ((hq_75.i 66 59 (by decide) (by decide)).trans ((hq_59.i 66 59 (by decide) (by decide)).trans (gp_ne eG_47 (fun q => absurd q.1 (by decide)))))))]
            have b_88 : 0 ≤ (G_39.1 66 60).toInt ∧ (G_39.1 66 60).toInt ≤ 12 := hB_G_39.i 66 60 rfl rfl
            have g_89 : (G_84.1 66 60).toInt = (G_39.1 66 60).toInt := by rw [show G_84.1 66 60 = (G_39.1 66 60) from ((gp_ne eG_84 (fun q => absurd q.1 (by decide))).trans ((hq_80.i 66 60 (by decide) (by decide)).trans ((hq_75.i 66 60 (by decide) (by decide)).trans ((hq_59.i 66 60 (by decide) (by decide)).trans (gp_ne eG_47 (fun q => absurd q.1 (by decide)))))))]
            refine S_calli (va_runV (As := [.int x_68]) (rest := []) ⟨hx, hb, hml, hown, hts⟩ (n_stands1 l D k A a z G_84 x_68 ) (cwV 1 hts (gd_V hgd m1838 m1840 m92 m131 m1841) rfl rfl rfl (by decide +kernel) ⟨Nat.le_of_ble_eq_true rfl, Nat.le_of_ble_eq_true rfl⟩) (pre_V hW hB_G_84 hK hZ hS kd_66 rfl) rfl rfl hl.1 rfl (lv_room (Nat.le_of_ble_eq_true rfl)) dX12_go_202 ⟨Nat.le_of_ble_eq_true rfl, Nat.le_of_ble_eq_true rfl⟩) hS (fun r_90 G_91 H locs hpo hW hS => ?_)
            have hX_94 : Q_stands1 x_68 G_84 r_90 G_91 := hpo
            obtain ⟨hB_G_91, hq_92, f_95, hp_93, -⟩ := hpo
            have hF := hF.call hq_92 (by decide) (by decide)
            refine lv_if_ne (tgt := 217) hx hb dX12_go_205 (by decide) (fun c_96 => ?_) (fun c_96 => ?_)
            · have c_96 : r_90.toInt ≠ 0 := xI_ne rfl rfl c_96
              refine lv_aload_n hx hb dX12_go_217 rfl (lv_at hl 1 rfl) ?_
              refine S_getR (n := 110) (C := RX12) (T := TX12) (N := 89) hx hb hg iX12 hown hK hW kd_66 rfl 76 (by decide) (hg (Cond.fieldLink RX12 151 "SlabWalkModel" "now" "[I") m1390) (fun _ h9 => h9) rfl dX12_go_218 ?_
              refine lv_iconst (v := 2) hx hb dX12_go_221 (by decide) ?_
              refine lv_iload hx hb dX12_go_222 (lv_at hl 0 rfl) ?_
              refine S_iast hx hb hK hW hS kd_110 (vin (by decide) (by decide)) dX12_go_224 (fun G_97 H locs eG_97 hW hS => ?_)
              have qc_98 : (2 : Int32).toInt = 2 := rfl
              have hB_G_97 : Bd G_97 := hB_G_91.putNow 110 (by decide) eG_97 (by omega) (by omega) (by omega) rfl
              have hF := hF.put eG_97 (Or.inl (by decide))
              refine lv_aload_n hx hb dX12_go_225 rfl (lv_at hl 1 rfl) ?_
              refine S_getR (n := 110) (C := RX12) (T := TX12) (N := 89) hx hb hg iX12 hown hK hW kd_66 rfl 76 (by decide) (hg (Cond.fieldLink RX12 151 "SlabWalkModel" "now" "[I") m1390) (fun _ h9 => h9) rfl dX12_go_226 ?_
              refine lv_iconst (v := 3) hx hb dX12_go_229 (by decide) ?_
              refine lv_dup2_11 hx hb dX12_go_230 rfl rfl ?_
              refine S_iald hx hb hK hW kd_110 (vin (by decide) (by decide)) dX12_go_231 (fun y_99 ey_99 => ?_)
              refine lv_iconst (v := 1) hx hb dX12_go_232 (by decide) ?_
              refine lv_iadd hx hb dX12_go_233 ?_
              refine lv_topi (fun y_100 ey_100 => ?_)
              refine S_iast hx hb hK hW hS kd_110 (vin (by decide) (by decide)) dX12_go_234 (fun G_101 H locs eG_101 hW hS => ?_)
              have qc_102 : (3 : Int32).toInt = 3 := rfl
              have hB_G_101 : Bd G_101 := hB_G_97.putNow 110 (by decide) eG_101 (by omega) (by omega) (by omega) rfl
              have hF := hF.put eG_101 (Or.inl (by decide))
              refine lv_aload_n hx hb dX12_go_235 rfl (lv_at hl 1 rfl) ?_
              refine S_getR (n := 110) (C := RX12) (T := TX12) (N := 89) hx hb hg iX12 hown hK hW kd_66 rfl 76 (by decide) (hg (Cond.fieldLink RX12 151 "SlabWalkModel" "now" "[I") m1390) (fun _ h9 => h9) rfl dX12_go_236 ?_
              refine lv_iconst (v := 4) hx hb dX12_go_239 (by decide) ?_
              refine lv_aload_n hx hb dX12_go_240 rfl (lv_at hl 1 rfl) ?_
              refine lv_iload hx hb dX12_go_241 (lv_at hl 0 rfl) ?_
              refine S_calli (va_runV (As := [.int x_68]) (rest := [.int 4, .ref (a 110)]) ⟨hx, hb, hml, hown, hts⟩ (n_stands l D k A a z G_101 x_68 ⟨by omega, by omega⟩) (cwV 1 hts (gd_V hgd m1995 m1997 m112 m131 m1998) rfl rfl rfl (by decide +kernel) ⟨Nat.le_of_ble_eq_true rfl, Nat.le_of_ble_eq_true rfl⟩) (pre_V hW hB_G_101 hK hZ hS kd_66 rfl) rfl rfl hl.1 rfl (lv_room (Nat.le_of_ble_eq_true rfl)) dX12_go_243 ⟨Nat.le_of_ble_eq_true rfl, Nat.le_of_ble_eq_true rfl⟩) hS (fun r_103 G_104 H locs hpo hW hS => ?_)
              have hX_107 : Q_stands x_68 G_101 r_103 G_104 := hpo
              obtain ⟨hB_G_104, hq_105, f_108, -⟩ := hpo
              have hF := hF.call hq_105 (by decide) (by decide)
              refine S_iast hx hb hK hW hS kd_110 (vin (by decide) (by decide)) dX12_go_246 (fun G_109 H locs eG_109 hW hS => ?_)
              have qc_110 : (4 : Int32).toInt = 4 := rfl
              have hB_G_109 : Bd G_109 := hB_G_104.putNow 110 (by decide) eG_109 (by omega) (by omega) (by omega) rfl
              have hF := hF.put eG_109 (Or.inl (by decide))
              refine lv_aload_n hx hb dX12_go_247 rfl (lv_at hl 1 rfl) ?_
              refine S_getR (n := 110) (C := RX12) (T := TX12) (N := 89) hx hb hg iX12 hown hK hW kd_66 rfl 76 (by decide) (hg (Cond.fieldLink RX12 151 "SlabWalkModel" "now" "[I") m1390) (fun _ h9 => h9) rfl dX12_go_248 ?_
              refine lv_iconst (v := 4) hx hb dX12_go_251 (by decide) ?_
              refine S_iald hx hb hK hW kd_110 (vin (by decide) (by decide)) dX12_go_252 (fun y_111 ey_111 => ?_)
              have u_112 : y_111.toInt = r_103.toInt := congrArg Int32.toInt (ey_111.trans ((gp_eq eG_109)))
              have b_113 : 0 ≤ (G_31.1 66 78).toInt ∧ (G_31.1 66 78).toInt ≤ 40 := hB_G_31.i 66 78 rfl rfl
              have g_114 : (G_109.1 66 78).toInt = (G_31.1 66 78).toInt := by rw [show G_109.1 66 78 = (G_31.1 66 78) from ((gp_ne eG_109 (fun q => absurd q.1 (by decide))).trans ((hq_105.i 66 78 (by decide) (by decide)).trans ((gp_ne eG_101 (fun q => absurd q.1 (by decide))).trans ((gp_ne eG_97 (fun q => absurd q.1 (by decide))).trans ((hq_92.i 66 78 (by decide) (by decide)).trans ((gp_ne eG_84 (fun q => absurd q.1 (by decide))).trans ((hq_80.i 66 78 (by decide) (by decide)).trans ((hq_75.i 66 78 (by decide) (by decide)).trans ((hq_59.i 66 78 (by decide) (by decide)).trans ((gp_ne eG_47 (fun q => absurd q.1 (by decide))).trans (hq_40.i 66 78 (by decide) (by decide))))))))))))]
              have b_115 : 0 ≤ (G_31.1 66 79).toInt ∧ (G_31.1 66 79).toInt ≤ 40 := hB_G_31.i 66 79 rfl rfl
              have g_116 : (G_109.1 66 79).toInt = (G_31.1 66 79).toInt := by rw [show G_109.1 66 79 = (G_31.1 66 79) from ((gp_ne eG_109 (fun q => absurd q.1 (by decide))).trans ((hq_105.i 66 79 (by decide) (by decide)).trans ((gp_ne eG_101 (fun q => absurd q.1 (by decide))).trans ((gp_ne eG_97 (fun q => absurd q.1 (by decide))).trans ((hq_92.i 66 79 (by decide) (by decide)).trans ((gp_ne eG_84 (fun q => absurd q.1 (by decide))).trans ((hq_80.i 66 79 (by decide) (by decide)).trans ((hq_75.i 66 79 (by decide) (by decide)).trans ((hq_59.i 66 79 (by decide) (by decide)).trans ((gp_ne eG_47 (fun q => absurd q.1 (by decide))).trans (hq_40.i 66 79 (by decide) (by decide))))))))))))]
              exact W.iret (v := y_111) hx hb hr (fun t ht _ => ⟨⟨y_111, G_109, rfl, (Q_go_mk ⟨hB_G_109, hF, (by omega), ⟨y_1, ey_1, (Or.inr ⟨c_2, ⟨y_5, ey_5, (Or.inl ⟨c_6, ⟨y_7, ey_7, ⟨y_9, ey_9, ⟨y_11, ey_11, ⟨w_15, G_18, hX_21, f_22, hB_G_18, hq_20, ⟨r_23, G_24, hX_27, (Or.inr ⟨c_29, ⟨G_31, hX_34, ⟨y_35, ey_35, ⟨y_36, ey_36, ⟨G_39, hX_42, ⟨y_43, ey_43, ⟨y_44, ey_44, ⟨y_45, ey_45, ⟨y_46, ey_46, ⟨y_49, ey_49.trans (congrFun (rw_ast eG_47) _), ⟨G_47, hB_G_47, (Fr.rf.put eG_47 (Or.inl (by decide))), rw_ast eG_47, ⟨r_57, G_58, hX_61, ⟨y_63, ey_63, ⟨y_64, ey_64, ⟨y_65, ey_65, ⟨y_66, ey_66, ⟨x_68, w_70, G_73, hX_76, f_77, hB_G_73, hq_75, ⟨r_78, G_79, hX_82, ⟨G_84, hB_G_84, (Fr.rf.put eG_84 (Or.inl (by decide))), rw_ast eG_84, ⟨r_90, G_91, hX_94, (Or.inr ⟨c_96, ⟨y_99, ey_99.trans (congrFun (rw_ast eG_97) _), ⟨y_100, ey_100, ⟨G_101, hB_G_101, ((Fr.rf.put eG_97 (Or.inl (by decide))).put eG_101 (Or.inl (by decide))), (rw_ast eG_101).trans (congrArg (fun q => upd q ((3 : Int32).toNatClampNeg) y_100) (rw_ast eG_97)), ⟨r_103, G_104, hX_107, ⟨y_111, ey_111.trans (congrFun (rw_ast eG_109) _), ⟨rfl, (Fr.rf.put eG_109 (Or.inl (by decide))), rw_ast eG_109⟩⟩⟩⟩⟩⟩⟩)⟩⟩⟩⟩⟩⟩⟩⟩⟩⟩⟩⟩⟩⟩⟩⟩⟩⟩⟩⟩)⟩⟩⟩⟩⟩⟩)⟩⟩)⟩⟩), wd_t ht hW⟩, hS.F ht⟩) hS.2.2 dX12_go_253
            · have c_96 : r_90.toInt = 0 := xI_eq rfl rfl c_96
              refine lv_aload_n hx hb dX12_go_208 rfl (lv_at hl 1 rfl) ?_
              refine S_getR (n := 110) (C := RX12) (T := TX12) (N := 89) hx hb hg iX12 hown hK hW kd_66 rfl 76 (by decide) (hg (Cond.fieldLink RX12 151 "SlabWalkModel" "now" "[I") m1390) (fun _ h9 => h9) rfl dX12_go_209 ?_
              refine lv_iconst (v := 4) hx hb dX12_go_212 (by decide) ?_
              refine lv_iconst (v := 2) hx hb dX12_go_213 (by decide) ?_
              refine S_iast hx hb hK hW hS kd_110 (vin (by decide) (by decide)) dX12_go_214 (fun G_117 H locs eG_117 hW hS => ?_)
              have qc_118 : (2 : Int32).toInt = 2 := rfl
              have qc_119 : (4 : Int32).toInt = 4 := rfl
              have hB_G_117 : Bd G_117 := hB_G_91.putNow 110 (by decide) eG_117 (by omega) (by omega) (by omega) rfl
              have hF := hF.put eG_117 (Or.inl (by decide))
              refine lv_iconst (v := 2) hx hb dX12_go_215 (by decide) ?_
              have b_120 : 0 ≤ (G_31.1 66 78).toInt ∧ (G_31.1 66 78).toInt ≤ 40 := hB_G_31.i 66 78 rfl rfl
              have g_121 : (G_117.1 66 78).toInt = (G_31.1 66 78).toInt := by rw [show G_117.1 66 78 = (G_31.1 66 78) from ((gp_ne eG_117 (fun q => absurd q.1 (by decide))).trans ((hq_92.i 66 78 (by decide) (by decide)).trans ((gp_ne eG_84 (fun q => absurd q.1 (by decide))).trans ((hq_80.i 66 78 (by decide) (by decide)).trans ((hq_75.i 66 78 (by decide) (by decide)).trans ((hq_59.i 66 78 (by decide) (by decide)).trans ((gp_ne eG_47 (fun q => absurd q.1 (by decide))).trans (hq_40.i 66 78 (by decide) (by decide)))))))))]
              have b_122 : 0 ≤ (G_31.1 66 79).toInt ∧ (G_31.1 66 79).toInt ≤ 40 := hB_G_31.i 66 79 rfl rfl
              have g_123 : (G_117.1 66 79).toInt = (G_31.1 66 79).toInt := by rw [show G_117.1 66 79 = (G_31.1 66 79) from ((gp_ne eG_117 (fun q => absurd q.1 (by decide))).trans ((hq_92.i 66 79 (by decide) (by decide)).trans ((gp_ne eG_84 (fun q => absurd q.1 (by decide))).trans ((hq_80.i 66 79 (by decide) (by decide)).trans ((hq_75.i 66 79 (by decide) (by decide)).trans ((hq_59.i 66 79 (by decide) (by decide)).trans ((gp_ne eG_47 (fun q => absurd q.1 (by decide))).trans (hq_40.i 66 79 (by decide) (by decide)))))))))]
              exact W.iret (v := 2) hx hb hr (fun t ht _ => ⟨⟨2, G_117, rfl, (Q_go_mk ⟨hB_G_117, hF, (by have hq : (2 : Int32).toInt = 2 := rfl; (try dsimp only); omega), ⟨y_1, ey_1, (Or.inr ⟨c_2, ⟨y_5, ey_5, (Or.inl ⟨c_6, ⟨y_7, ey_7, ⟨y_9, ey_9, ⟨y_11, ey_11, ⟨w_15, G_18, hX_21, f_22, hB_G_18, hq_20, ⟨r_23, G_24, hX_27, (Or.inr ⟨c_29, ⟨G_31, hX_34, ⟨y_35, ey_35, ⟨y_36, ey_36, ⟨G_39, hX_42, ⟨y_43, ey_43, ⟨y_44, ey_44, ⟨y_45, ey_45, ⟨y_46, ey_46, ⟨y_49, ey_49.trans (congrFun (rw_ast eG_47) _), ⟨G_47, hB_G_47, (Fr.rf.put eG_47 (Or.inl (by decide))), rw_ast eG_47, ⟨r_57, G_58, hX_61, ⟨y_63, ey_63, ⟨y_64, ey_64, ⟨y_65, ey_65, ⟨y_66, ey_66, ⟨x_68, w_70, G_73, hX_76, f_77, hB_G_73, hq_75, ⟨r_78, G_79, hX_82, ⟨G_84, hB_G_84, (Fr.rf.put eG_84 (Or.inl (by decide))), rw_ast eG_84, ⟨r_90, G_91, hX_94, (Or.inl ⟨c_96, ⟨rfl, (Fr.rf.put eG_117 (Or.inl (by decide))), rw_ast eG_117⟩⟩)⟩⟩⟩⟩⟩⟩⟩⟩⟩⟩⟩⟩⟩⟩⟩⟩⟩⟩⟩⟩)⟩⟩⟩⟩⟩⟩)⟩⟩)⟩⟩), wd_t ht hW⟩, hS.F ht⟩) hS.2.2 dX12_go_216
          refine lv_icmp_ge (tgt := 150) hx hb dX12_go_143 (by decide) (fun c_124 => ?_) (fun c_124 => ?_)
          · have c_124 : y_66.toInt ≤ y_63.toInt := xI_le rfl rfl c_124
            refine lv_iload_n hx hb dX12_go_150 rfl (lv_at hl 0 rfl) ?_
            refine lv_aload_n hx hb dX12_go_151 rfl (lv_at hl 2 rfl) ?_
            refine S_getR (n := 96) (C := RX12) (T := TX12) (N := 89) hx hb hg iX12 hown hK hW kd_66 rfl 44 (by decide) (hg (Cond.fieldLink RX12 102 "SlabWalkModel" "slips" "[I") m1358) (fun _ h9 => h9) rfl dX12_go_152 ?_
            refine lv_iconst (v := 0) hx hb dX12_go_155 (by decide) ?_
            refine S_iald hx hb hK hW kd_96 (vin (by decide) (by decide)) dX12_go_156 (fun y_125 ey_125 => ?_)
            have ty_125 : 0 ≤ y_125.toInt ∧ y_125.toInt ≤ 9 := hB_G_58.v ey_125 rfl rfl
            have u_126 : y_125.toInt = y_66.toInt := congrArg Int32.toInt (ey_125.trans (ey_66.symm))
            refine lv_aload_n hx hb dX12_go_157 rfl (lv_at hl 2 rfl) ?_
            refine S_getR (n := 96) (C := RX12) (T := TX12) (N := 89) hx hb hg iX12 hown hK hW kd_66 rfl 44 (by decide) (hg (Cond.fieldLink RX12 102 "SlabWalkModel" "slips" "[I") m1358) (fun _ h9 => h9) rfl dX12_go_158 ?_
            refine lv_iconst (v := 1) hx hb dX12_go_161 (by decide) ?_
            refine S_iald hx hb hK hW kd_96 (vin (by decide) (by decide)) dX12_go_162 (fun y_127 ey_127 => ?_)
            have ty_127 : 0 ≤ y_127.toInt ∧ y_127.toInt ≤ 9 := hB_G_58.v ey_127 rfl rfl
            have u_128 : y_127.toInt = (G.1 96 1).toInt := congrArg Int32.toInt (ey_127.trans (((hq_59.i 96 1 (by decide) (by decide)).trans ((gp_ne eG_47 (fun q => absurd q.1 (by decide))).trans ((hq_40.i 96 1 (by decide) (by decide)).trans ((hq_32.i 96 1 (by decide) (by decide)).trans ((hq_25.i 96 1 (by decide) (by decide)).trans ((hq_20.i 96 1 (by decide) (by decide)).trans (rfl)))))))))
            refine lv_iadd hx hb dX12_go_163 ?_
            refine lv_topi (fun y_129 ey_129 => ?_)
            have ty_129 : y_129.toInt = y_125.toInt + y_127.toInt := xI_add rfl rfl ey_129 (by omega) (by omega)
            refine lv_icmp_ge (tgt := 171) hx hb dX12_go_164 (by decide) (fun c_130 => ?_) (fun c_130 => ?_)
            · have c_130 : y_129.toInt ≤ y_63.toInt := xI_le rfl rfl c_130
              refine lv_iconst (v := 1) hx hb dX12_go_171 (by decide) ?_
              refine lv_iadd hx hb dX12_go_172 ?_
              refine lv_topi (fun y_131 ey_131 => ?_)
              refine lv_istore (lv' := [(4, .int y_131), (3, .int y_63), (2, .int y_7), (0, .ref (a 66)), (1, .int p0)]) hx hb dX12_go_173 hl (by decide) rfl (fun ls hl => ?_)
              refine lv_aload_n hx hb dX12_go_175 rfl (lv_at hl 3 rfl) ?_
              refine S_getR (n := 110) (C := RX12) (T := TX12) (N := 89) hx hb hg iX12 hown hK hW kd_66 rfl 76 (by decide) (hg (Cond.fieldLink RX12 151 "SlabWalkModel" "now" "[I") m1390) (fun _ h9 => h9) rfl dX12_go_176 ?_
              refine lv_iconst (v := 5) hx hb dX12_go_179 (by decide) ?_
              refine lv_iload_n hx hb dX12_go_180 rfl (lv_at hl 4 rfl) ?_
              refine lv_aload_n hx hb dX12_go_181 rfl (lv_at hl 3 rfl) ?_
              refine S_getR (n := 94) (C := RX12) (T := TX12) (N := 89) hx hb hg iX12 hown hK hW kd_66 rfl 42 (by decide) (hg (Cond.fieldLink RX12 96 "SlabWalkModel" "mosts" "[I") m1356) (fun _ h9 => h9) rfl dX12_go_182 ?_
              refine lv_iload_n hx hb dX12_go_185 rfl (lv_at hl 2 rfl) ?_
              refine S_iald hx hb hK hW kd_94 (vin (by omega) (by omega)) dX12_go_186 (fun y_132 ey_132 => ?_)
              have ty_132 : 0 ≤ y_132.toInt ∧ y_132.toInt ≤ 60 := hB_G_58.v ey_132 rfl rfl
              have u_133 : y_132.toInt = (G.1 94 y_7.toNatClampNeg).toInt := congrArg Int32.toInt (ey_132.trans (((hq_59.ri 94 (by decide) (by decide) y_7.toNatClampNeg).trans ((gp_ne eG_47 (fun q => absurd q.1 (by decide))).trans ((hq_40.ri 94 (by decide) (by decide) y_7.toNatClampNeg).trans ((hq_32.ri 94 (by decide) (by decide) y_7.toNatClampNeg).trans ((hq_25.ri 94 (by decide) (by decide) y_7.toNatClampNeg).trans (hq_20.ri 94 (by decide) (by decide) y_7.toNatClampNeg))))))))
              refine lv_icmp_le (tgt := 194) hx hb dX12_go_187 (by decide) (fun c_134 => ?_) (fun c_134 => ?_)
              · have c_134 : p0.toInt ≤ y_132.toInt := xI_le rfl rfl c_134
                refine lv_iconst (v := 0) hx hb dX12_go_194 (by decide) ?_
                have qc_135 : (0 : Int32).toInt = 0 := rfl
                exact hJ_74 0 _ _ _ ⟨G_58, y_131, ⟨by omega, by omega⟩, (Jn_n_go_2_mk (Or.inl ⟨c_124, ⟨y_125, ey_125, ⟨y_127, ey_127, ⟨y_129, ty_129, (Or.inl ⟨c_130, ⟨y_131, ey_131, ⟨y_132, ey_132, (Or.inl ⟨c_134, ⟨rfl, rfl, rfl⟩⟩)⟩⟩⟩)⟩⟩⟩⟩)), hW, hB_G_58, hF, Fr.rf, hS, lv_sub hl [0, 3] rfl⟩
              · have c_134 : y_132.toInt < p0.toInt := xI_nle rfl rfl c_134
                refine lv_iconst (v := 1) hx hb dX12_go_190 (by decide) ?_
                refine lv_goto (tgt := 195) hx hb dX12_go_191 (by decide) ?_
                have qc_136 : (1 : Int32).toInt = 1 := rfl
                exact hJ_74 1 _ _ _ ⟨G_58, y_131, ⟨by omega, by omega⟩, (Jn_n_go_2_mk (Or.inl ⟨c_124, ⟨y_125, ey_125, ⟨y_127, ey_127, ⟨y_129, ty_129, (Or.inl ⟨c_130, ⟨y_131, ey_131, ⟨y_132, ey_132, (Or.inr ⟨c_134, ⟨rfl, rfl, rfl⟩⟩)⟩⟩⟩)⟩⟩⟩⟩)), hW, hB_G_58, hF, Fr.rf, hS, lv_sub hl [0, 3] rfl⟩
            · have c_130 : y_63.toInt < y_129.toInt := xI_nle rfl rfl c_130
              refine lv_iconst (v := 0) hx hb dX12_go_167 (by decide) ?_
              refine lv_goto (tgt := 172) hx hb dX12_go_168 (by decide) ?_
              refine lv_iadd hx hb dX12_go_172 ?_
              refine lv_topi (fun y_137 ey_137 => ?_)
              have e_138 := tI_rng y_65
              have ty_137 : y_137.toInt = y_65.toInt + 0 := xI_add rfl rfl ey_137 (by omega) (by omega)
              refine lv_istore (lv' := [(4, .int y_137), (3, .int y_63), (2, .int y_7), (0, .ref (a 66)), (1, .int p0)]) hx hb dX12_go_173 hl (by decide) rfl (fun ls hl => ?_)
              refine lv_aload_n hx hb dX12_go_175 rfl (lv_at hl 3 rfl) ?_
              refine S_getR (n := 110) (C := RX12) (T := TX12) (N := 89) hx hb hg iX12 hown hK hW kd_66 rfl 76 (by decide) (hg (Cond.fieldLink RX12 151 "SlabWalkModel" "now" "[I") m1390) (fun _ h9 => h9) rfl dX12_go_176 ?_
              refine lv_iconst (v := 5) hx hb dX12_go_179 (by decide) ?_
              refine lv_iload_n hx hb dX12_go_180 rfl (lv_at hl 4 rfl) ?_
              refine lv_aload_n hx hb dX12_go_181 rfl (lv_at hl 3 rfl) ?_
              refine S_getR (n := 94) (C := RX12) (T := TX12) (N := 89) hx hb hg iX12 hown hK hW kd_66 rfl 42 (by decide) (hg (Cond.fieldLink RX12 96 "SlabWalkModel" "mosts" "[I") m1356) (fun _ h9 => h9) rfl dX12_go_182 ?_
              refine lv_iload_n hx hb dX12_go_185 rfl (lv_at hl 2 rfl) ?_
              refine S_iald hx hb hK hW kd_94 (vin (by omega) (by omega)) dX12_go_186 (fun y_139 ey_139 => ?_)
              have ty_139 : 0 ≤ y_139.toInt ∧ y_139.toInt ≤ 60 := hB_G_58.v ey_139 rfl rfl
              have u_140 : y_139.toInt = (G.1 94 y_7.toNatClampNeg).toInt := congrArg Int32.toInt (ey_139.trans (((hq_59.ri 94 (by decide) (by decide) y_7.toNatClampNeg).trans ((gp_ne eG_47 (fun q => absurd q.1 (by decide))).trans ((hq_40.ri 94 (by decide) (by decide) y_7.toNatClampNeg).trans ((hq_32.ri 94 (by decide) (by decide) y_7.toNatClampNeg).trans ((hq_25.ri 94 (by decide) (by decide) y_7.toNatClampNeg).trans (hq_20.ri 94 (by decide) (by decide) y_7.toNatClampNeg))))))))
              refine lv_icmp_le (tgt := 194) hx hb dX12_go_187 (by decide) (fun c_141 => ?_) (fun c_141 => ?_)
              · have c_141 : p0.toInt ≤ y_139.toInt := xI_le rfl rfl c_141
                refine lv_iconst (v := 0) hx hb dX12_go_194 (by decide) ?_
                have qc_142 : (0 : Int32).toInt = 0 := rfl
                exact hJ_74 0 _ _ _ ⟨G_58, y_137, ⟨by omega, by omega⟩, (Jn_n_go_2_mk (Or.inl ⟨c_124, ⟨y_125, ey_125, ⟨y_127, ey_127, ⟨y_129, ty_129, (Or.inr ⟨c_130, ⟨y_137, ty_137, ⟨y_139, ey_139, (Or.inl ⟨c_141, ⟨rfl, rfl, rfl⟩⟩)⟩⟩⟩)⟩⟩⟩⟩)), hW, hB_G_58, hF, Fr.rf, hS, lv_sub hl [0, 3] rfl⟩
              · have c_141 : y_139.toInt < p0.toInt := xI_nle rfl rfl c_141
                refine lv_iconst (v := 1) hx hb dX12_go_190 (by decide) ?_
                refine lv_goto (tgt := 195) hx hb dX12_go_191 (by decide) ?_
                have qc_143 : (1 : Int32).toInt = 1 := rfl
                exact hJ_74 1 _ _ _ ⟨G_58, y_137, ⟨by omega, by omega⟩, (Jn_n_go_2_mk (Or.inl ⟨c_124, ⟨y_125, ey_125, ⟨y_127, ey_127, ⟨y_129, ty_129, (Or.inr ⟨c_130, ⟨y_137, ty_137, ⟨y_139, ey_139, (Or.inr ⟨c_141, ⟨rfl, rfl, rfl⟩⟩)⟩⟩⟩)⟩⟩⟩⟩)), hW, hB_G_58, hF, Fr.rf, hS, lv_sub hl [0, 3] rfl⟩
          · have c_124 : y_63.toInt < y_66.toInt := xI_nle rfl rfl c_124
            refine lv_iconst (v := (-1)) hx hb dX12_go_146 (by decide) ?_
            refine lv_goto (tgt := 172) hx hb dX12_go_147 (by decide) ?_
            refine lv_iadd hx hb dX12_go_172 ?_
            refine lv_topi (fun y_144 ey_144 => ?_)
            refine lv_istore (lv' := [(4, .int y_144), (3, .int y_63), (2, .int y_7), (0, .ref (a 66)), (1, .int p0)]) hx hb dX12_go_173 hl (by decide) rfl (fun ls hl => ?_)
            refine lv_aload_n hx hb dX12_go_175 rfl (lv_at hl 3 rfl) ?_
            refine S_getR (n := 110) (C := RX12) (T := TX12) (N := 89) hx hb hg iX12 hown hK hW kd_66 rfl 76 (by decide) (hg (Cond.fieldLink RX12 151 "SlabWalkModel" "now" "[I") m1390) (fun _ h9 => h9) rfl dX12_go_176 ?_
            refine lv_iconst (v := 5) hx hb dX12_go_179 (by decide) ?_
            refine lv_iload_n hx hb dX12_go_180 rfl (lv_at hl 4 rfl) ?_
            refine lv_aload_n hx hb dX12_go_181 rfl (lv_at hl 3 rfl) ?_
            refine S_getR (n := 94) (C := RX12) (T := TX12) (N := 89) hx hb hg iX12 hown hK hW kd_66 rfl 42 (by decide) (hg (Cond.fieldLink RX12 96 "SlabWalkModel" "mosts" "[I") m1356) (fun _ h9 => h9) rfl dX12_go_182 ?_
            refine lv_iload_n hx hb dX12_go_185 rfl (lv_at hl 2 rfl) ?_
            refine S_iald hx hb hK hW kd_94 (vin (by omega) (by omega)) dX12_go_186 (fun y_145 ey_145 => ?_)
            have ty_145 : 0 ≤ y_145.toInt ∧ y_145.toInt ≤ 60 := hB_G_58.v ey_145 rfl rfl
            have u_146 : y_145.toInt = (G.1 94 y_7.toNatClampNeg).toInt := congrArg Int32.toInt (ey_145.trans (((hq_59.ri 94 (by decide) (by decide) y_7.toNatClampNeg).trans ((gp_ne eG_47 (fun q => absurd q.1 (by decide))).trans ((hq_40.ri 94 (by decide) (by decide) y_7.toNatClampNeg).trans ((hq_32.ri 94 (by decide) (by decide) y_7.toNatClampNeg).trans ((hq_25.ri 94 (by decide) (by decide) y_7.toNatClampNeg).trans (hq_20.ri 94 (by decide) (by decide) y_7.toNatClampNeg))))))))
            refine lv_icmp_le (tgt := 194) hx hb dX12_go_187 (by decide) (fun c_147 => ?_) (fun c_147 => ?_)
            · have c_147 : p0.toInt ≤ y_145.toInt := xI_le rfl rfl c_147
              refine lv_iconst (v := 0) hx hb dX12_go_194 (by decide) ?_
              have qc_148 : (0 : Int32).toInt = 0 := rfl
              exact hJ_74 0 _ _ _ ⟨G_58, y_144, ⟨by omega, by omega⟩, (Jn_n_go_2_mk (Or.inr ⟨c_124, ⟨y_144, ey_144, ⟨y_145, ey_145, (Or.inl ⟨c_147, ⟨rfl, rfl, rfl⟩⟩)⟩⟩⟩)), hW, hB_G_58, hF, Fr.rf, hS, lv_sub hl [0, 3] rfl⟩
            · have c_147 : y_145.toInt < p0.toInt := xI_nle rfl rfl c_147
              refine lv_iconst (v := 1) hx hb dX12_go_190 (by decide) ?_
              refine lv_goto (tgt := 195) hx hb dX12_go_191 (by decide) ?_
              have qc_149 : (1 : Int32).toInt = 1 := rfl
              exact hJ_74 1 _ _ _ ⟨G_58, y_144, ⟨by omega, by omega⟩, (Jn_n_go_2_mk (Or.inr ⟨c_124, ⟨y_144, ey_144, ⟨y_145, ey_145, (Or.inr ⟨c_147, ⟨rfl, rfl, rfl⟩⟩)⟩⟩⟩)), hW, hB_G_58, hF, Fr.rf, hS, lv_sub hl [0, 3] rfl⟩
        · have c_29 : r_23.toInt = 0 := xI_eq rfl rfl c_29
          refine lv_iconst (v := (-1)) hx hb dX12_go_66 (by decide) ?_
          have b_150 : 0 ≤ (G.1 66 78).toInt ∧ (G.1 66 78).toInt ≤ 40 := hB_G.i 66 78 rfl rfl
          have g_151 : (G_24.1 66 78).toInt = (G.1 66 78).toInt := by rw [show G_24.1 66 78 = (G.1 66 78) from ((hq_25.i 66 78 (by decide) (by decide)).trans (hq_20.i 66 78 (by decide) (by decide)))]
          have b_152 : 0 ≤ (G.1 66 79).toInt ∧ (G.1 66 79).toInt ≤ 40 := hB_G.i 66 79 rfl rfl
          have g_153 : (G_24.1 66 79).toInt = (G.1 66 79).toInt := by rw [show G_24.1 66 79 = (G.1 66 79) from ((hq_25.i 66 79 (by decide) (by decide)).trans (hq_20.i 66 79 (by decide) (by decide)))]
          exact W.iret (v := (-1)) hx hb hr (fun t ht _ => ⟨⟨(-1), G_24, rfl, (Q_go_mk ⟨hB_G_24, hF, (by have hq : ((-1) : Int32).toInt = (-1) := rfl; (try dsimp only); omega), ⟨y_1, ey_1, (Or.inr ⟨c_2, ⟨y_5, ey_5, (Or.inl ⟨c_6, ⟨y_7, ey_7, ⟨y_9, ey_9, ⟨y_11, ey_11, ⟨w_15, G_18, hX_21, f_22, hB_G_18, hq_20, ⟨r_23, G_24, hX_27, (Or.inl ⟨c_29, ⟨rfl, rfl⟩⟩)⟩⟩⟩⟩⟩⟩)⟩⟩)⟩⟩), wd_t ht hW⟩, hS.F ht⟩) hS.2.2 dX12_go_67
      refine lv_icmp_ne (tgt := 54) hx hb dX12_go_42 (by decide) (fun c_154 => ?_) (fun c_154 => ?_)
      · have c_154 : y_11.toInt ≠ 1 := xI_ne rfl rfl c_154
        refine lv_aload_n hx hb dX12_go_54 rfl (lv_at hl 1 rfl) ?_
        refine S_getR (n := 95) (C := RX12) (T := TX12) (N := 89) hx hb hg iX12 hown hK hW kd_66 rfl 43 (by decide) (hg (Cond.fieldLink RX12 99 "SlabWalkModel" "leaps" "[I") m1357) (fun _ h9 => h9) rfl dX12_go_55 ?_
        refine lv_iload_n hx hb dX12_go_58 rfl (lv_at hl 0 rfl) ?_
        refine S_iald hx hb hK hW kd_95 (vin (by omega) (by omega)) dX12_go_59 (fun y_155 ey_155 => ?_)
        have ty_155 : 0 ≤ y_155.toInt ∧ y_155.toInt ≤ 99 := hB_G.v ey_155 rfl rfl
        have u_156 : y_155.toInt = (G.1 95 y_7.toNatClampNeg).toInt := congrArg Int32.toInt (ey_155)
        exact hJ_19 y_155 _ _ _ ⟨G, ⟨by omega, by omega⟩, (Jn_n_go_1_mk (Or.inr ⟨c_154, ⟨y_155, ey_155, ⟨rfl, rfl⟩⟩⟩)), hW, hB_G, hF, Fr.rf, hS, lv_sub hl [0, 1, 2] rfl⟩
      · have c_154 : y_11.toInt = 1 := xI_eq rfl rfl c_154
        refine lv_aload_n hx hb dX12_go_45 rfl (lv_at hl 1 rfl) ?_
        refine S_getR (n := 94) (C := RX12) (T := TX12) (N := 89) hx hb hg iX12 hown hK hW kd_66 rfl 42 (by decide) (hg (Cond.fieldLink RX12 96 "SlabWalkModel" "mosts" "[I") m1356) (fun _ h9 => h9) rfl dX12_go_46 ?_
        refine lv_iload_n hx hb dX12_go_49 rfl (lv_at hl 0 rfl) ?_
        refine S_iald hx hb hK hW kd_94 (vin (by omega) (by omega)) dX12_go_50 (fun y_157 ey_157 => ?_)
        have ty_157 : 0 ≤ y_157.toInt ∧ y_157.toInt ≤ 60 := hB_G.v ey_157 rfl rfl
        have u_158 : y_157.toInt = (G.1 94 y_7.toNatClampNeg).toInt := congrArg Int32.toInt (ey_157)
        refine lv_goto (tgt := 60) hx hb dX12_go_51 (by decide) ?_
        exact hJ_19 y_157 _ _ _ ⟨G, ⟨by omega, by omega⟩, (Jn_n_go_1_mk (Or.inl ⟨c_154, ⟨y_157, ey_157, ⟨rfl, rfl⟩⟩⟩)), hW, hB_G, hF, Fr.rf, hS, lv_sub hl [0, 1, 2] rfl⟩
    · have c_6 : y_5.toInt ≠ 1 := xI_ne rfl rfl c_6
      refine lv_iconst (v := (-1)) hx hb dX12_go_19 (by decide) ?_
      have b_159 : 0 ≤ (G.1 66 78).toInt ∧ (G.1 66 78).toInt ≤ 40 := hB_G.i 66 78 rfl rfl
      have b_160 : 0 ≤ (G.1 66 79).toInt ∧ (G.1 66 79).toInt ≤ 40 := hB_G.i 66 79 rfl rfl
      exact W.iret (v := (-1)) hx hb hr (fun t ht _ => ⟨⟨(-1), G, rfl, (Q_go_mk ⟨hB_G, hF, (by have hq : ((-1) : Int32).toInt = (-1) := rfl; (try dsimp only); omega), ⟨y_1, ey_1, (Or.inr ⟨c_2, ⟨y_5, ey_5, (Or.inr ⟨c_6, ⟨rfl, rfl⟩⟩)⟩⟩)⟩⟩), wd_t ht hW⟩, hS.F ht⟩) hS.2.2 dX12_go_20

set_option maxHeartbeats 4000000 in
set_option maxRecDepth 100000 in
theorem n_fits (l : Launch) (D : va_G) (k : KT) (A : Nat → Prop) (a : Nat → Nat) (z : SK) (G : GS) (p0 : Int32) (hP9 : gP G = 1) : Met l yX12_fits (WS yX12_fits cX12_fits 6 (some .int)) ({ frames := 5, cells := 0, slots := 0, locals := 117 }) (va_Pc [.ref (a 66), .int p0] (cW D k A a z G)) (va_Qi (fun (r : Int32) (G1 : GS) => Q_fits p0 G r G1) (fun (G1 : GS) t => Wd D k A a G1 t.heap) A) 0 0 A := by
  refine Met.ofW (cc := cX12_fits) (maxL := 6) (ret := (some .int)) (by decide) rfl ?_
  intro p e s m args below meth c s₁ B hml hv
  obtain ⟨rfl, hW, hB_G, hK, hZ⟩ := hv
  have hx := B.exec
  have hb := B.bytes
  have hr := B.returns
  have hts := atoms_spec (ws := WS yX12_fits cX12_fits 6 (some .int)) B.pre
  have hgd : ∀ w ∈ gd, w ∈ WS yX12_fits cX12_fits 6 (some .int) := fun w h => List.mem_cons_of_mem _ h
  have hg : ∀ w ∈ gd, w.before _ s = true := fun w h => hts w (hgd w h)
  have hown : s.vm.findClass RX12 = some m.cls := findClass_of_methodNamed B.named
  have hS : va_S A s.heap s.heap [] := va_S.rf
  have hF : Fr [76, 97, 98] [(66, 59), (66, 60), (66, 61), (66, 62), (66, 63)] G G := Fr.rf
  have hl := lv_entry ([.ref (a 66), .int p0]) (n := 6) (Nat.le_of_ble_eq_true rfl)
  rw [lg_entry_eq]
  generalize (lg_sl ([.ref (a 66), .int p0]) ++ List.replicate (6 - (lg_sl ([.ref (a 66), .int p0])).length) Slot.unset).toArray = ls at hl ⊢
  have hl : lv_has ls 6 [(0, .ref (a 66)), (1, .int p0)] := hl
  refine lv_iconst (v := 0) hx hb dX12_fits_0 (by decide) ?_
  refine lv_istore_n (lv' := [(2, .int 0), (0, .ref (a 66)), (1, .int p0)]) hx hb dX12_fits_1 rfl hl (by decide) rfl (fun ls hl => ?_)
  refine lv_iconst (v := 0) hx hb dX12_fits_2 (by decide) ?_
  refine lv_istore_n (lv' := [(3, .int 0), (2, .int 0), (0, .ref (a 66)), (1, .int p0)]) hx hb dX12_fits_3 rfl hl (by decide) rfl (fun ls hl => ?_)
  have qc_8 : (0 : Int32).toInt = 0 := rfl
  refine loop_N (Inv := fun n H locs ls => ∃ (G_1 : GS) (x_5 : Int32) (x_6 : Int32), (n : Int) = 6 - x_5.toInt ∧ (0 ≤ x_5.toInt ∧ x_5.toInt ≤ 6) ∧ (0 ≤ x_6.toInt ∧ x_6.toInt ≤ 63) ∧ Rc (St_n_fits_1 p0 G) (0, 0, G) (x_5, x_6, G_1) ∧ Wd D k A a G_1 H ∧ Bd G_1 ∧ Fr [76, 97, 98] [(66, 59), (66, 60), (66, 61), (66, 62), (66, 63)] G G_1 ∧ Fr [76, 97, 98] [(66, 59), (66, 60), (66, 61), (66, 62), (66, 63)] G G_1 ∧ va_S A s.heap H locs ∧ lv_has ls 6 [(3, .int x_5), (2, .int x_6), (0, .ref (a 66)), (1, .int p0)]) (fun n_4 H locs ls ih_3 hI => ?_) (6 - 0 : Int).toNat ⟨G, 0, 0, (Int.toNat_of_nonneg (by omega)), ⟨by omega, by omega⟩, ⟨by omega, by omega⟩, Rc.rf, hW, hB_G, hF, Fr.rf, hS, lv_sub hl [0, 1, 2, 3] rfl⟩
  obtain ⟨G_1, x_5, x_6, hn_11, f_9, f_10, hX_7, hW, hB_G_1, hF, hq_2, hS, hl⟩ := hI
  refine lv_iload_n hx hb dX12_fits_4 rfl (lv_at hl 0 rfl) ?_
  refine lv_aload_n hx hb dX12_fits_5 rfl (lv_at hl 2 rfl) ?_
  have b_12 : 0 ≤ (G.1 66 54).toInt ∧ (G.1 66 54).toInt ≤ 6 := hB_G.i 66 54 rfl rfl
  refine S_getI (v := (G.1 66 54)) (C := RX12) (T := TX12) (N := 89) hx hb hg iX12 hown hK hW kd_66 rfl 54 (by decide) (hg (Cond.fieldLink RX12 431 "SlabWalkModel" "rules" "I") m1368) (fun _ h9 => h9) rfl (hq_2.i 66 54 (by decide) (by decide)) dX12_fits_6 ?_
  refine lv_icmp_ge (tgt := 107) hx hb dX12_fits_9 (by decide) (fun c_13 => ?_) (fun c_13 => ?_)
  · have c_13 : (G.1 66 54).toInt ≤ x_5.toInt := xI_le rfl rfl c_13
    refine lv_iload_n hx hb dX12_fits_107 rfl (lv_at hl 1 rfl) ?_
    exact W.iret (v := x_6) hx hb hr (fun t ht _ => ⟨⟨x_6, G_1, rfl, (Q_fits_mk ⟨hB_G_1, hF, ⟨x_5, x_6, G_1, hX_7, f_9, f_10, hB_G_1, hq_2, ⟨c_13, ⟨rfl, rfl⟩⟩⟩⟩), wd_t ht hW⟩, hS.F ht⟩) hS.2.2 dX12_fits_108
  · have c_13 : x_5.toInt < (G.1 66 54).toInt := xI_nle rfl rfl c_13
    refine lv_iconst (v := 1) hx hb dX12_fits_12 (by decide) ?_
    refine lv_istore (lv' := [(4, .int 1), (3, .int x_5), (2, .int x_6), (0, .ref (a 66)), (1, .int p0)]) hx hb dX12_fits_13 hl (by decide) rfl (fun ls hl => ?_)
    refine lv_iconst (v := 0) hx hb dX12_fits_15 (by decide) ?_
    refine lv_istore (lv' := [(5, .int 0), (4, .int 1), (3, .int x_5), (2, .int x_6), (0, .ref (a 66)), (1, .int p0)]) hx hb dX12_fits_16 hl (by decide) rfl (fun ls hl => ?_)
    have qc_21 : (0 : Int32).toInt = 0 := rfl
    have qc_22 : (1 : Int32).toInt = 1 := rfl
    refine loop_N (Inv := fun n H locs ls => ∃ (G_14 : GS) (x_18 : Int32) (x_19 : Int32), (n : Int) = 20 - x_18.toInt ∧ (0 ≤ x_18.toInt ∧ x_18.toInt ≤ 20) ∧ (0 ≤ x_19.toInt ∧ x_19.toInt ≤ 1) ∧ Rc (St_n_fits_2 p0 x_5 G) (0, 1, G_1) (x_18, x_19, G_14) ∧ Wd D k A a G_14 H ∧ Bd G_14 ∧ Fr [76, 97, 98] [(66, 59), (66, 60), (66, 61), (66, 62), (66, 63)] G G_14 ∧ Fr [76, 97, 98] [(66, 59), (66, 60), (66, 61), (66, 62), (66, 63)] G_1 G_14 ∧ va_S A s.heap H locs ∧ lv_has ls 6 [(5, .int x_18), (4, .int x_19), (3, .int x_5), (2, .int x_6), (0, .ref (a 66)), (1, .int p0)]) (fun n_17 H locs ls ih_16 hI => ?_) (20 - 0 : Int).toNat ⟨G_1, 0, 1, (Int.toNat_of_nonneg (by omega)), ⟨by omega, by omega⟩, ⟨by omega, by omega⟩, Rc.rf, hW, hB_G_1, hF, Fr.rf, hS, lv_sub hl [0, 1, 2, 3, 4, 5] rfl⟩
    obtain ⟨G_14, x_18, x_19, hn_25, f_23, f_24, hX_20, hW, hB_G_14, hF, hq_15, hS, hl⟩ := hI
    refine lv_iload hx hb dX12_fits_18 (lv_at hl 0 rfl) ?_
    refine lv_aload_n hx hb dX12_fits_20 rfl (lv_at hl 4 rfl) ?_
    have b_26 : 0 ≤ (G.1 66 85).toInt ∧ (G.1 66 85).toInt ≤ 20 := hB_G.i 66 85 rfl rfl
    refine S_getI (v := (G.1 66 85)) (C := RX12) (T := TX12) (N := 89) hx hb hg iX12 hown hK hW kd_66 rfl 85 (by decide) (hg (Cond.fieldLink RX12 443 "SlabWalkModel" "sights" "I") m1399) (fun _ h9 => h9) rfl ((hq_15.i 66 85 (by decide) (by decide)).trans (hq_2.i 66 85 (by decide) (by decide))) dX12_fits_21 ?_
    refine lv_icmp_ge (tgt := 86) hx hb dX12_fits_24 (by decide) (fun c_27 => ?_) (fun c_27 => ?_)
    · have c_27 : (G.1 66 85).toInt ≤ x_18.toInt := xI_le rfl rfl c_27
      refine lv_iload_n hx hb dX12_fits_86 rfl (lv_at hl 3 rfl) ?_
      refine lv_iload hx hb dX12_fits_87 (lv_at hl 1 rfl) ?_
      refine lv_if_eq (tgt := 98) hx hb dX12_fits_89 (by decide) (fun c_28 => ?_) (fun c_28 => ?_)
      · have c_28 : x_19.toInt = 0 := xI_eq rfl rfl c_28
        refine lv_iconst (v := 0) hx hb dX12_fits_98 (by decide) ?_
        refine lv_ior hx hb dX12_fits_99 ?_
        refine lv_topi (fun y_29 ey_29 => ?_)
        have ty_29 := or6 ey_29 ⟨by omega, by omega⟩ ⟨by omega, by omega⟩
        refine lv_istore_n (lv' := [(2, .int y_29), (5, .int x_18), (4, .int x_19), (3, .int x_5), (0, .ref (a 66)), (1, .int p0)]) hx hb dX12_fits_100 rfl hl (by decide) rfl (fun ls hl => ?_)
        obtain ⟨y_30, ey_30⟩ : ∃ q, q = x_5 + 1 := ⟨_, rfl⟩
        have ty_30 : y_30.toInt = x_5.toInt + 1 := xI_add rfl rfl ey_30 (by omega) (by omega)
        refine lv_iinc (v := y_30) (lv' := [(3, .int y_30), (2, .int y_29), (5, .int x_18), (4, .int x_19), (0, .ref (a 66)), (1, .int p0)]) hx hb dX12_fits_101 hl (k := 3) rfl (by rw [ey_30]; rfl) (by decide) rfl (fun ls hl => ?_)
        refine lv_goto (tgt := 4) hx hb dX12_fits_104 (by decide) ?_
        exact ih_3 (6 - y_30.toInt : Int).toNat (by omega) _ _ _ ⟨G_14, y_30, y_29, (Int.toNat_of_nonneg (by omega)), ⟨by omega, by omega⟩, ⟨by omega, by omega⟩, (hX_7.st (St_n_fits_1_mk ⟨x_5, x_6, G_1, y_30, y_29, G_14, rfl, rfl, f_9, f_10, hB_G_1, ⟨c_13, ⟨x_18, x_19, G_14, hX_20, f_23, f_24, hB_G_14, hq_15, (Or.inl ⟨c_27, (Or.inl ⟨c_28, ⟨y_29, ey_29, ⟨y_30, ty_30, ⟨rfl, rfl, rfl⟩⟩⟩⟩)⟩)⟩⟩⟩)), hW, hB_G_14, hF, ((Fr.rf.call hq_2 (by decide) (by decide)).call hq_15 (by decide) (by decide)), hS, lv_sub hl [0, 1, 4, 5] rfl⟩
      · have c_28 : x_19.toInt ≠ 0 := xI_ne rfl rfl c_28
        refine lv_iconst (v := 1) hx hb dX12_fits_92 (by decide) ?_
        refine lv_iload_n hx hb dX12_fits_93 rfl (lv_at hl 2 rfl) ?_
        refine lv_ishl hx hb dX12_fits_94 ?_
        refine lv_topi (fun y_31 ey_31 => ?_)
        have ty_31 := sh5 (Y := x_5.toInt) rfl ey_31 rfl (by omega) (by omega)
        refine lv_goto (tgt := 99) hx hb dX12_fits_95 (by decide) ?_
        refine lv_ior hx hb dX12_fits_99 ?_
        refine lv_topi (fun y_32 ey_32 => ?_)
        have ty_32 := or6 ey_32 ⟨by omega, by omega⟩ ⟨by omega, by omega⟩
        refine lv_istore_n (lv' := [(2, .int y_32), (5, .int x_18), (4, .int x_19), (3, .int x_5), (0, .ref (a 66)), (1, .int p0)]) hx hb dX12_fits_100 rfl hl (by decide) rfl (fun ls hl => ?_)
        obtain ⟨y_33, ey_33⟩ : ∃ q, q = x_5 + 1 := ⟨_, rfl⟩
        have ty_33 : y_33.toInt = x_5.toInt + 1 := xI_add rfl rfl ey_33 (by omega) (by omega)
        refine lv_iinc (v := y_33) (lv' := [(3, .int y_33), (2, .int y_32), (5, .int x_18), (4, .int x_19), (0, .ref (a 66)), (1, .int p0)]) hx hb dX12_fits_101 hl (k := 3) rfl (by rw [ey_33]; rfl) (by decide) rfl (fun ls hl => ?_)
        refine lv_goto (tgt := 4) hx hb dX12_fits_104 (by decide) ?_
        exact ih_3 (6 - y_33.toInt : Int).toNat (by omega) _ _ _ ⟨G_14, y_33, y_32, (Int.toNat_of_nonneg (by omega)), ⟨by omega, by omega⟩, ⟨by omega, by omega⟩, (hX_7.st (St_n_fits_1_mk ⟨x_5, x_6, G_1, y_33, y_32, G_14, rfl, rfl, f_9, f_10, hB_G_1, ⟨c_13, ⟨x_18, x_19, G_14, hX_20, f_23, f_24, hB_G_14, hq_15, (Or.inl ⟨c_27, (Or.inr ⟨c_28, ⟨y_31, ey_31, ⟨y_32, ey_32, ⟨y_33, ty_33, ⟨rfl, rfl, rfl⟩⟩⟩⟩⟩)⟩)⟩⟩⟩)), hW, hB_G_14, hF, ((Fr.rf.call hq_2 (by decide) (by decide)).call hq_15 (by decide) (by decide)), hS, lv_sub hl [0, 1, 4, 5] rfl⟩
    · have c_27 : x_18.toInt < (G.1 66 85).toInt := xI_nle rfl rfl c_27
      refine lv_iload hx hb dX12_fits_27 (lv_at hl 1 rfl) ?_
      refine lv_if_eq (tgt := 86) hx hb dX12_fits_29 (by decide) (fun c_34 => ?_) (fun c_34 => ?_)
      · have c_34 : x_19.toInt = 0 := xI_eq rfl rfl c_34
        refine lv_iload_n hx hb dX12_fits_86 rfl (lv_at hl 3 rfl) ?_
        refine lv_iload hx hb dX12_fits_87 (lv_at hl 1 rfl) ?_
        refine lv_if_eq (tgt := 98) hx hb dX12_fits_89 (by decide) (fun c_35 => ?_) (fun c_35 => ?_)
        · have c_35 : x_19.toInt = 0 := xI_eq rfl rfl c_35
          refine lv_iconst (v := 0) hx hb dX12_fits_98 (by decide) ?_
          refine lv_ior hx hb dX12_fits_99 ?_
          refine lv_topi (fun y_36 ey_36 => ?_)
          have ty_36 := or6 ey_36 ⟨by omega, by omega⟩ ⟨by omega, by omega⟩
          refine lv_istore_n (lv' := [(2, .int y_36), (5, .int x_18), (4, .int x_19), (3, .int x_5), (0, .ref (a 66)), (1, .int p0)]) hx hb dX12_fits_100 rfl hl (by decide) rfl (fun ls hl => ?_)
          obtain ⟨y_37, ey_37⟩ : ∃ q, q = x_5 + 1 := ⟨_, rfl⟩
          have ty_37 : y_37.toInt = x_5.toInt + 1 := xI_add rfl rfl ey_37 (by omega) (by omega)
          refine lv_iinc (v := y_37) (lv' := [(3, .int y_37), (2, .int y_36), (5, .int x_18), (4, .int x_19), (0, .ref (a 66)), (1, .int p0)]) hx hb dX12_fits_101 hl (k := 3) rfl (by rw [ey_37]; rfl) (by decide) rfl (fun ls hl => ?_)
          refine lv_goto (tgt := 4) hx hb dX12_fits_104 (by decide) ?_
          exact ih_3 (6 - y_37.toInt : Int).toNat (by omega) _ _ _ ⟨G_14, y_37, y_36, (Int.toNat_of_nonneg (by omega)), ⟨by omega, by omega⟩, ⟨by omega, by omega⟩, (hX_7.st (St_n_fits_1_mk ⟨x_5, x_6, G_1, y_37, y_36, G_14, rfl, rfl, f_9, f_10, hB_G_1, ⟨c_13, ⟨x_18, x_19, G_14, hX_20, f_23, f_24, hB_G_14, hq_15, (Or.inr ⟨c_27, ⟨c_34, ⟨y_36, ey_36, ⟨y_37, ty_37, ⟨rfl, rfl, rfl⟩⟩⟩⟩⟩)⟩⟩⟩)), hW, hB_G_14, hF, ((Fr.rf.call hq_2 (by decide) (by decide)).call hq_15 (by decide) (by decide)), hS, lv_sub hl [0, 1, 4, 5] rfl⟩
        · have c_35 : x_19.toInt ≠ 0 := xI_ne rfl rfl c_35
          exfalso; omega
      · have c_34 : x_19.toInt ≠ 0 := xI_ne rfl rfl c_34
        refine lv_aload_n hx hb dX12_fits_32 rfl (lv_at hl 4 rfl) ?_
        refine lv_iload hx hb dX12_fits_33 (lv_at hl 0 rfl) ?_
        refine lv_iload_n hx hb dX12_fits_35 rfl (lv_at hl 5 rfl) ?_
        refine S_calli (va_runV (As := [.int x_18, .int p0]) (rest := []) ⟨hx, hb, hml, hown, hts⟩ (n_counts l D k A a z G_14 x_18 p0 ⟨by omega, by omega⟩) (cwV 2 hts (gd_V hgd m2055 m2057 m115 m131 m2058) rfl rfl rfl (by decide +kernel) ⟨Nat.le_of_ble_eq_true rfl, Nat.le_of_ble_eq_true rfl⟩) (pre_V hW hB_G_14 hK hZ hS kd_66 rfl) rfl rfl hl.1 rfl (lv_room (Nat.le_of_ble_eq_true rfl)) dX12_fits_36 ⟨Nat.le_of_ble_eq_true rfl, Nat.le_of_ble_eq_true rfl⟩) hS (fun r_38 G_39 H locs hpo hW hS => ?_)
        have hX_42 : Q_counts x_18 p0 G_14 r_38 G_39 := hpo
        obtain ⟨hB_G_39, hq_40, f_43, -⟩ := hpo
        have hF := hF.call hq_40 (by decide) (by decide)
        refine lv_if_ne (tgt := 45) hx hb dX12_fits_39 (by decide) (fun c_44 => ?_) (fun c_44 => ?_)
        · have c_44 : r_38.toInt ≠ 0 := xI_ne rfl rfl c_44
          refine lv_aload_n hx hb dX12_fits_45 rfl (lv_at hl 4 rfl) ?_
          refine lv_aload_n hx hb dX12_fits_46 rfl (lv_at hl 4 rfl) ?_
          refine S_getR (n := 112) (C := RX12) (T := TX12) (N := 89) hx hb hg iX12 hown hK hW kd_66 rfl 80 (by decide) (hg (Cond.fieldLink RX12 157 "SlabWalkModel" "sightWho" "[I") m1394) (fun _ h9 => h9) rfl dX12_fits_47 ?_
          refine lv_iload hx hb dX12_fits_50 (lv_at hl 0 rfl) ?_
          refine S_iald hx hb hK hW kd_112 (vin (by omega) (by omega)) dX12_fits_52 (fun y_45 ey_45 => ?_)
          have ty_45 : 0 ≤ y_45.toInt ∧ y_45.toInt ≤ 3 := hB_G_39.v ey_45 rfl rfl
          refine lv_aload_n hx hb dX12_fits_53 rfl (lv_at hl 4 rfl) ?_
          refine S_getR (n := 113) (C := RX12) (T := TX12) (N := 89) hx hb hg iX12 hown hK hW kd_66 rfl 81 (by decide) (hg (Cond.fieldLink RX12 160 "SlabWalkModel" "sightWhere" "[I") m1395) (fun _ h9 => h9) rfl dX12_fits_54 ?_
          refine lv_iload hx hb dX12_fits_57 (lv_at hl 0 rfl) ?_
          refine S_iald hx hb hK hW kd_113 (vin (by omega) (by omega)) dX12_fits_59 (fun y_46 ey_46 => ?_)
          have ty_46 : 0 ≤ y_46.toInt ∧ y_46.toInt ≤ 2 := hB_G_39.v ey_46 rfl rfl
          refine lv_iconst (v := 1) hx hb dX12_fits_60 (by decide) ?_
          refine lv_iload_n hx hb dX12_fits_61 rfl (lv_at hl 2 rfl) ?_
          refine lv_ishl hx hb dX12_fits_62 ?_
          refine lv_topi (fun y_47 ey_47 => ?_)
          have ty_47 := sh5 (Y := x_5.toInt) rfl ey_47 rfl (by omega) (by omega)
          have g_48 : gP G_39 = gP G := gP_fr (rs := [76, 97, 98]) (fs := [(66, 59), (66, 60), (66, 61), (66, 62), (66, 63)]) (((Fr.rf.call hq_2 (by decide) (by decide)).call hq_15 (by decide) (by decide)).call hq_40 (by decide) (by decide)) (by decide) (by decide)
          refine S_callv (va_runV (As := [.int y_45, .int y_46, .int y_47]) (rest := []) ⟨hx, hb, hml, hown, hts⟩ (n_layStreet l D k A a z G_39 y_45 y_46 y_47 ⟨by omega, by omega⟩ ⟨by omega, by omega⟩ (by omega)) (cwV 3 hts (gd_V hgd m1834 m1836 m91 m131 m1837) rfl rfl rfl (by decide +kernel) ⟨Nat.le_of_ble_eq_true rfl, Nat.le_of_ble_eq_true rfl⟩) (pre_V hW hB_G_39 hK hZ hS kd_66 rfl) rfl rfl hl.1 rfl (lv_room (Nat.le_of_ble_eq_true rfl)) dX12_fits_63 ⟨Nat.le_of_ble_eq_true rfl, Nat.le_of_ble_eq_true rfl⟩) hS (fun G_50 H locs hpo hW hS => ?_)
          have hX_53 : Q_layStreet y_45 y_46 y_47 G_39 G_50 := hpo
          obtain ⟨hB_G_50, hq_51, hp_52, -⟩ := hpo
          have hF := hF.call hq_51 (by decide) (by decide)
          refine lv_aload_n hx hb dX12_fits_66 rfl (lv_at hl 4 rfl) ?_
          refine S_getR (n := 98) (C := RX12) (T := TX12) (N := 89) hx hb hg iX12 hown hK hW kd_66 rfl 58 (by decide) (hg (Cond.fieldLink RX12 115 "SlabWalkModel" "lawful" "[Z") m1372) (fun _ h9 => h9) rfl dX12_fits_67 ?_
          refine lv_aload_n hx hb dX12_fits_70 rfl (lv_at hl 4 rfl) ?_
          refine S_getR (n := 114) (C := RX12) (T := TX12) (N := 89) hx hb hg iX12 hown hK hW kd_66 rfl 82 (by decide) (hg (Cond.fieldLink RX12 163 "SlabWalkModel" "sightHeel" "[I") m1396) (fun _ h9 => h9) rfl dX12_fits_71 ?_
          refine lv_iload hx hb dX12_fits_74 (lv_at hl 0 rfl) ?_
          refine S_iald hx hb hK hW kd_114 (vin (by omega) (by omega)) dX12_fits_76 (fun y_54 ey_54 => ?_)
          have ty_54 : 0 ≤ y_54.toInt ∧ y_54.toInt ≤ 399 := hB_G_50.v ey_54 rfl rfl
          refine S_zald hx hb hK hW kd_98 (vin (by omega) (by omega)) dX12_fits_77 (fun y_55 ey_55 => ?_)
          have ty_55 := hB_G_50.law ey_55
          refine lv_istore (lv' := [(4, .int y_55), (5, .int x_18), (3, .int x_5), (2, .int x_6), (0, .ref (a 66)), (1, .int p0)]) hx hb dX12_fits_78 hl (by decide) rfl (fun ls hl => ?_)
          obtain ⟨y_56, ey_56⟩ : ∃ q, q = x_18 + 1 := ⟨_, rfl⟩
          have ty_56 : y_56.toInt = x_18.toInt + 1 := xI_add rfl rfl ey_56 (by omega) (by omega)
          refine lv_iinc (v := y_56) (lv' := [(5, .int y_56), (4, .int y_55), (3, .int x_5), (2, .int x_6), (0, .ref (a 66)), (1, .int p0)]) hx hb dX12_fits_80 hl (k := 1) rfl (by rw [ey_56]; rfl) (by decide) rfl (fun ls hl => ?_)
          refine lv_goto (tgt := 18) hx hb dX12_fits_83 (by decide) ?_
          exact ih_16 (20 - y_56.toInt : Int).toNat (by omega) _ _ _ ⟨G_50, y_56, y_55, (Int.toNat_of_nonneg (by omega)), ⟨by omega, by omega⟩, ⟨by omega, by omega⟩, (hX_20.st (St_n_fits_2_mk ⟨x_18, x_19, G_14, y_56, y_55, G_50, rfl, rfl, f_23, f_24, hB_G_14, ⟨c_27, ⟨c_34, ⟨r_38, G_39, hX_42, (Or.inr ⟨c_44, ⟨y_45, ey_45, ⟨y_46, ey_46, ⟨y_47, ey_47, ⟨G_50, hX_53, ⟨y_54, ey_54, ⟨y_55, ey_55, ⟨y_56, ty_56, ⟨rfl, rfl, rfl⟩⟩⟩⟩⟩⟩⟩⟩⟩)⟩⟩⟩⟩)), hW, hB_G_50, hF, (((Fr.rf.call hq_15 (by decide) (by decide)).call hq_40 (by decide) (by decide)).call hq_51 (by decide) (by decide)), hS, lv_sub hl [0, 1, 2, 3, 4, 5] rfl⟩
        · have c_44 : r_38.toInt = 0 := xI_eq rfl rfl c_44
          refine lv_goto (tgt := 80) hx hb dX12_fits_42 (by decide) ?_
          obtain ⟨y_57, ey_57⟩ : ∃ q, q = x_18 + 1 := ⟨_, rfl⟩
          have ty_57 : y_57.toInt = x_18.toInt + 1 := xI_add rfl rfl ey_57 (by omega) (by omega)
          refine lv_iinc (v := y_57) (lv' := [(5, .int y_57), (4, .int x_19), (3, .int x_5), (2, .int x_6), (0, .ref (a 66)), (1, .int p0)]) hx hb dX12_fits_80 hl (k := 0) rfl (by rw [ey_57]; rfl) (by decide) rfl (fun ls hl => ?_)
          refine lv_goto (tgt := 18) hx hb dX12_fits_83 (by decide) ?_
          exact ih_16 (20 - y_57.toInt : Int).toNat (by omega) _ _ _ ⟨G_39, y_57, x_19, (Int.toNat_of_nonneg (by omega)), ⟨by omega, by omega⟩, ⟨by omega, by omega⟩, (hX_20.st (St_n_fits_2_mk ⟨x_18, x_19, G_14, y_57, x_19, G_39, rfl, rfl, f_23, f_24, hB_G_14, ⟨c_27, ⟨c_34, ⟨r_38, G_39, hX_42, (Or.inl ⟨c_44, ⟨y_57, ty_57, ⟨rfl, rfl, rfl⟩⟩⟩)⟩⟩⟩⟩)), hW, hB_G_39, hF, ((Fr.rf.call hq_15 (by decide) (by decide)).call hq_40 (by decide) (by decide)), hS, lv_sub hl [0, 1, 2, 3, 4, 5] rfl⟩
