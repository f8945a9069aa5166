theorem m102 : Cond.selects RX12 yX12_keepOn yX12_keepOn ∈ gd := gd_mem 102 (by decide +kernel) (by decide +kernel)
theorem m112 : Cond.selects RX12 yX12_stands yX12_stands ∈ gd := gd_mem 112 (by decide +kernel) (by decide +kernel)
theorem m1935 : Cond.methodLink RX12 550 yX12_keepOn ∈ gd := gd_mem 1935 (by decide +kernel) (by decide +kernel)
theorem m1937 : Cond.instanceMethod yX12_keepOn ∈ gd := gd_mem 1937 (by decide +kernel) (by decide +kernel)
theorem m1938 : Cond.code yX12_keepOn cX12_keepOn 6 none ∈ gd := gd_mem 1938 (by decide +kernel) (by decide +kernel)
theorem m1995 : Cond.methodLink RX12 584 yX12_stands ∈ gd := gd_mem 1995 (by decide +kernel) (by decide +kernel)
theorem m1997 : Cond.instanceMethod yX12_stands ∈ gd := gd_mem 1997 (by decide +kernel) (by decide +kernel)
theorem m1998 : Cond.code yX12_stands cX12_stands 2 (some .int) ∈ gd := gd_mem 1998 (by decide +kernel) (by decide +kernel)
theorem dX12_go_0 : decode cX12_go 0 = .ok (.aload_n 0, 1) := by decide +kernel
theorem dX12_go_1 : decode cX12_go 1 = .ok (.getfield 151, 3) := by decide +kernel
theorem dX12_go_4 : decode cX12_go 4 = .ok (.iconst 0, 1) := by decide +kernel
theorem dX12_go_5 : decode cX12_go 5 = .ok (.iaload, 1) := by decide +kernel
theorem dX12_go_6 : decode cX12_go 6 = .ok (.ifCond .lt 13, 3) := by decide +kernel
theorem dX12_go_9 : decode cX12_go 9 = .ok (.aload_n 0, 1) := by decide +kernel
theorem dX12_go_10 : decode cX12_go 10 = .ok (.getfield 151, 3) := by decide +kernel
theorem dX12_go_13 : decode cX12_go 13 = .ok (.iconst 4, 1) := by decide +kernel
theorem dX12_go_14 : decode cX12_go 14 = .ok (.iaload, 1) := by decide +kernel
theorem dX12_go_15 : decode cX12_go 15 = .ok (.iconst 1, 1) := by decide +kernel
theorem dX12_go_16 : decode cX12_go 16 = .ok (.if_icmp .eq 5, 3) := by decide +kernel
theorem dX12_go_19 : decode cX12_go 19 = .ok (.iconst (-1), 1) := by decide +kernel
theorem dX12_go_20 : decode cX12_go 20 = .ok (.ireturn, 1) := by decide +kernel
theorem dX12_go_21 : decode cX12_go 21 = .ok (.aload_n 0, 1) := by decide +kernel
theorem dX12_go_22 : decode cX12_go 22 = .ok (.getfield 151, 3) := by decide +kernel
theorem dX12_go_25 : decode cX12_go 25 = .ok (.iconst 0, 1) := by decide +kernel
theorem dX12_go_26 : decode cX12_go 26 = .ok (.iaload, 1) := by decide +kernel
theorem dX12_go_27 : decode cX12_go 27 = .ok (.istore_n 2, 1) := by decide +kernel
theorem dX12_go_28 : decode cX12_go 28 = .ok (.iload_n 1, 1) := by decide +kernel
theorem dX12_go_29 : decode cX12_go 29 = .ok (.aload_n 0, 1) := by decide +kernel
theorem dX12_go_30 : decode cX12_go 30 = .ok (.getfield 93, 3) := by decide +kernel
theorem dX12_go_33 : decode cX12_go 33 = .ok (.iload_n 2, 1) := by decide +kernel
theorem dX12_go_34 : decode cX12_go 34 = .ok (.iaload, 1) := by decide +kernel
theorem dX12_go_35 : decode cX12_go 35 = .ok (.aload_n 0, 1) := by decide +kernel
theorem dX12_go_36 : decode cX12_go 36 = .ok (.getfield 151, 3) := by decide +kernel
theorem dX12_go_39 : decode cX12_go 39 = .ok (.iconst 5, 1) := by decide +kernel
theorem dX12_go_40 : decode cX12_go 40 = .ok (.iaload, 1) := by decide +kernel
theorem dX12_go_41 : decode cX12_go 41 = .ok (.iconst 1, 1) := by decide +kernel
theorem dX12_go_42 : decode cX12_go 42 = .ok (.if_icmp .ne 12, 3) := by decide +kernel
theorem dX12_go_45 : decode cX12_go 45 = .ok (.aload_n 0, 1) := by decide +kernel
theorem dX12_go_46 : decode cX12_go 46 = .ok (.getfield 96, 3) := by decide +kernel
theorem dX12_go_49 : decode cX12_go 49 = .ok (.iload_n 2, 1) := by decide +kernel
theorem dX12_go_50 : decode cX12_go 50 = .ok (.iaload, 1) := by decide +kernel
theorem dX12_go_51 : decode cX12_go 51 = .ok (.goto 9, 3) := by decide +kernel
theorem dX12_go_54 : decode cX12_go 54 = .ok (.aload_n 0, 1) := by decide +kernel
theorem dX12_go_55 : decode cX12_go 55 = .ok (.getfield 99, 3) := by decide +kernel
theorem dX12_go_58 : decode cX12_go 58 = .ok (.iload_n 2, 1) := by decide +kernel
theorem dX12_go_59 : decode cX12_go 59 = .ok (.iaload, 1) := by decide +kernel
theorem dX12_go_60 : decode cX12_go 60 = .ok (.invokestatic 449, 3) := by decide +kernel
theorem dX12_go_63 : decode cX12_go 63 = .ok (.ifCond .ne 5, 3) := by decide +kernel
theorem dX12_go_66 : decode cX12_go 66 = .ok (.iconst (-1), 1) := by decide +kernel
theorem dX12_go_67 : decode cX12_go 67 = .ok (.ireturn, 1) := by decide +kernel
theorem dX12_go_68 : decode cX12_go 68 = .ok (.aload_n 0, 1) := by decide +kernel
theorem dX12_go_69 : decode cX12_go 69 = .ok (.invokevirtual 581, 3) := by decide +kernel
theorem dX12_go_72 : decode cX12_go 72 = .ok (.aload_n 0, 1) := by decide +kernel
theorem dX12_go_73 : decode cX12_go 73 = .ok (.iload_n 2, 1) := by decide +kernel
theorem dX12_go_74 : decode cX12_go 74 = .ok (.aload_n 0, 1) := by decide +kernel
theorem dX12_go_75 : decode cX12_go 75 = .ok (.getfield 151, 3) := by decide +kernel
theorem dX12_go_78 : decode cX12_go 78 = .ok (.iconst 1, 1) := by decide +kernel
theorem dX12_go_79 : decode cX12_go 79 = .ok (.iaload, 1) := by decide +kernel
theorem dX12_go_80 : decode cX12_go 80 = .ok (.aload_n 0, 1) := by decide +kernel
theorem dX12_go_81 : decode cX12_go 81 = .ok (.getfield 151, 3) := by decide +kernel
theorem dX12_go_84 : decode cX12_go 84 = .ok (.bipush 8, 2) := by decide +kernel
theorem dX12_go_86 : decode cX12_go 86 = .ok (.iaload, 1) := by decide +kernel
theorem dX12_go_87 : decode cX12_go 87 = .ok (.invokevirtual 493, 3) := by decide +kernel
theorem dX12_go_90 : decode cX12_go 90 = .ok (.aload_n 0, 1) := by decide +kernel
theorem dX12_go_91 : decode cX12_go 91 = .ok (.getfield 151, 3) := by decide +kernel
theorem dX12_go_94 : decode cX12_go 94 = .ok (.bipush 7, 2) := by decide +kernel
theorem dX12_go_96 : decode cX12_go 96 = .ok (.aload_n 0, 1) := by decide +kernel
theorem dX12_go_97 : decode cX12_go 97 = .ok (.getfield 151, 3) := by decide +kernel
theorem dX12_go_100 : decode cX12_go 100 = .ok (.bipush 7, 2) := by decide +kernel
theorem dX12_go_102 : decode cX12_go 102 = .ok (.iaload, 1) := by decide +kernel
theorem dX12_go_103 : decode cX12_go 103 = .ok (.sipush 137, 3) := by decide +kernel
theorem dX12_go_106 : decode cX12_go 106 = .ok (.imul, 1) := by decide +kernel
theorem dX12_go_107 : decode cX12_go 107 = .ok (.bipush 71, 2) := by decide +kernel
theorem dX12_go_109 : decode cX12_go 109 = .ok (.iadd, 1) := by decide +kernel
theorem dX12_go_110 : decode cX12_go 110 = .ok (.sipush 1000, 3) := by decide +kernel
theorem dX12_go_113 : decode cX12_go 113 = .ok (.irem, 1) := by decide +kernel
theorem dX12_go_114 : decode cX12_go 114 = .ok (.iastore, 1) := by decide +kernel
theorem dX12_go_115 : decode cX12_go 115 = .ok (.aload_n 0, 1) := by decide +kernel
theorem dX12_go_116 : decode cX12_go 116 = .ok (.getfield 151, 3) := by decide +kernel
theorem dX12_go_119 : decode cX12_go 119 = .ok (.bipush 7, 2) := by decide +kernel
theorem dX12_go_121 : decode cX12_go 121 = .ok (.iaload, 1) := by decide +kernel
theorem dX12_go_122 : decode cX12_go 122 = .ok (.aload_n 0, 1) := by decide +kernel
theorem dX12_go_123 : decode cX12_go 123 = .ok (.invokevirtual 553, 3) := by decide +kernel
theorem dX12_go_126 : decode cX12_go 126 = .ok (.irem, 1) := by decide +kernel
theorem dX12_go_127 : decode cX12_go 127 = .ok (.istore_n 3, 1) := by decide +kernel
theorem dX12_go_128 : decode cX12_go 128 = .ok (.aload_n 0, 1) := by decide +kernel
theorem dX12_go_129 : decode cX12_go 129 = .ok (.getfield 151, 3) := by decide +kernel
theorem dX12_go_132 : decode cX12_go 132 = .ok (.iconst 2, 1) := by decide +kernel
theorem dX12_go_133 : decode cX12_go 133 = .ok (.iaload, 1) := by decide +kernel
theorem dX12_go_134 : decode cX12_go 134 = .ok (.iload_n 1, 1) := by decide +kernel
theorem dX12_go_135 : decode cX12_go 135 = .ok (.iadd, 1) := by decide +kernel
theorem dX12_go_136 : decode cX12_go 136 = .ok (.iload_n 3, 1) := by decide +kernel
theorem dX12_go_137 : decode cX12_go 137 = .ok (.aload_n 0, 1) := by decide +kernel
theorem dX12_go_138 : decode cX12_go 138 = .ok (.getfield 102, 3) := by decide +kernel
theorem dX12_go_141 : decode cX12_go 141 = .ok (.iconst 0, 1) := by decide +kernel
theorem dX12_go_142 : decode cX12_go 142 = .ok (.iaload, 1) := by decide +kernel
theorem dX12_go_143 : decode cX12_go 143 = .ok (.if_icmp .ge 7, 3) := by decide +kernel
theorem dX12_go_146 : decode cX12_go 146 = .ok (.iconst (-1), 1) := by decide +kernel
theorem dX12_go_147 : decode cX12_go 147 = .ok (.goto 25, 3) := by decide +kernel
theorem dX12_go_150 : decode cX12_go 150 = .ok (.iload_n 3, 1) := by decide +kernel
theorem dX12_go_151 : decode cX12_go 151 = .ok (.aload_n 0, 1) := by decide +kernel
theorem dX12_go_152 : decode cX12_go 152 = .ok (.getfield 102, 3) := by decide +kernel
theorem dX12_go_155 : decode cX12_go 155 = .ok (.iconst 0, 1) := by decide +kernel
theorem dX12_go_156 : decode cX12_go 156 = .ok (.iaload, 1) := by decide +kernel
theorem dX12_go_157 : decode cX12_go 157 = .ok (.aload_n 0, 1) := by decide +kernel
theorem dX12_go_158 : decode cX12_go 158 = .ok (.getfield 102, 3) := by decide +kernel
theorem dX12_go_161 : decode cX12_go 161 = .ok (.iconst 1, 1) := by decide +kernel
theorem dX12_go_162 : decode cX12_go 162 = .ok (.iaload, 1) := by decide +kernel
theorem dX12_go_163 : decode cX12_go 163 = .ok (.iadd, 1) := by decide +kernel
theorem dX12_go_164 : decode cX12_go 164 = .ok (.if_icmp .ge 7, 3) := by decide +kernel
theorem dX12_go_167 : decode cX12_go 167 = .ok (.iconst 0, 1) := by decide +kernel
theorem dX12_go_168 : decode cX12_go 168 = .ok (.goto 4, 3) := by decide +kernel
theorem dX12_go_171 : decode cX12_go 171 = .ok (.iconst 1, 1) := by decide +kernel
theorem dX12_go_172 : decode cX12_go 172 = .ok (.iadd, 1) := by decide +kernel
theorem dX12_go_173 : decode cX12_go 173 = .ok (.istore 4, 2) := by decide +kernel
theorem dX12_go_175 : decode cX12_go 175 = .ok (.aload_n 0, 1) := by decide +kernel
theorem dX12_go_176 : decode cX12_go 176 = .ok (.getfield 151, 3) := by decide +kernel
theorem dX12_go_179 : decode cX12_go 179 = .ok (.iconst 5, 1) := by decide +kernel
theorem dX12_go_180 : decode cX12_go 180 = .ok (.iload_n 1, 1) := by decide +kernel
theorem dX12_go_181 : decode cX12_go 181 = .ok (.aload_n 0, 1) := by decide +kernel
theorem dX12_go_182 : decode cX12_go 182 = .ok (.getfield 96, 3) := by decide +kernel
theorem dX12_go_185 : decode cX12_go 185 = .ok (.iload_n 2, 1) := by decide +kernel
theorem dX12_go_186 : decode cX12_go 186 = .ok (.iaload, 1) := by decide +kernel
theorem dX12_go_187 : decode cX12_go 187 = .ok (.if_icmp .le 7, 3) := by decide +kernel
theorem dX12_go_190 : decode cX12_go 190 = .ok (.iconst 1, 1) := by decide +kernel
theorem dX12_go_191 : decode cX12_go 191 = .ok (.goto 4, 3) := by decide +kernel
theorem dX12_go_194 : decode cX12_go 194 = .ok (.iconst 0, 1) := by decide +kernel
theorem dX12_go_195 : decode cX12_go 195 = .ok (.invokestatic 348, 3) := by decide +kernel
theorem dX12_go_198 : decode cX12_go 198 = .ok (.iastore, 1) := by decide +kernel
theorem dX12_go_199 : decode cX12_go 199 = .ok (.aload_n 0, 1) := by decide +kernel
theorem dX12_go_200 : decode cX12_go 200 = .ok (.iload 4, 2) := by decide +kernel
theorem dX12_go_202 : decode cX12_go 202 = .ok (.invokevirtual 484, 3) := by decide +kernel
theorem dX12_go_205 : decode cX12_go 205 = .ok (.ifCond .ne 12, 3) := by decide +kernel
theorem dX12_go_208 : decode cX12_go 208 = .ok (.aload_n 0, 1) := by decide +kernel
theorem dX12_go_209 : decode cX12_go 209 = .ok (.getfield 151, 3) := by decide +kernel
theorem dX12_go_212 : decode cX12_go 212 = .ok (.iconst 4, 1) := by decide +kernel
theorem dX12_go_213 : decode cX12_go 213 = .ok (.iconst 2, 1) := by decide +kernel
theorem dX12_go_214 : decode cX12_go 214 = .ok (.iastore, 1) := by decide +kernel
theorem dX12_go_215 : decode cX12_go 215 = .ok (.iconst 2, 1) := by decide +kernel
theorem dX12_go_216 : decode cX12_go 216 = .ok (.ireturn, 1) := by decide +kernel
theorem dX12_go_217 : decode cX12_go 217 = .ok (.aload_n 0, 1) := by decide +kernel
theorem dX12_go_218 : decode cX12_go 218 = .ok (.getfield 151, 3) := by decide +kernel
theorem dX12_go_221 : decode cX12_go 221 = .ok (.iconst 2, 1) := by decide +kernel
theorem dX12_go_222 : decode cX12_go 222 = .ok (.iload 4, 2) := by decide +kernel
theorem dX12_go_224 : decode cX12_go 224 = .ok (.iastore, 1) := by decide +kernel
theorem dX12_go_225 : decode cX12_go 225 = .ok (.aload_n 0, 1) := by decide +kernel
theorem dX12_go_226 : decode cX12_go 226 = .ok (.getfield 151, 3) := by decide +kernel
theorem dX12_go_229 : decode cX12_go 229 = .ok (.iconst 3, 1) := by decide +kernel
theorem dX12_go_230 : decode cX12_go 230 = .ok (.dup2, 1) := by decide +kernel
theorem dX12_go_231 : decode cX12_go 231 = .ok (.iaload, 1) := by decide +kernel
theorem dX12_go_232 : decode cX12_go 232 = .ok (.iconst 1, 1) := by decide +kernel
theorem dX12_go_233 : decode cX12_go 233 = .ok (.iadd, 1) := by decide +kernel
theorem dX12_go_234 : decode cX12_go 234 = .ok (.iastore, 1) := by decide +kernel
theorem dX12_go_235 : decode cX12_go 235 = .ok (.aload_n 0, 1) := by decide +kernel
theorem dX12_go_236 : decode cX12_go 236 = .ok (.getfield 151, 3) := by decide +kernel
theorem dX12_go_239 : decode cX12_go 239 = .ok (.iconst 4, 1) := by decide +kernel
theorem dX12_go_240 : decode cX12_go 240 = .ok (.aload_n 0, 1) := by decide +kernel
theorem dX12_go_241 : decode cX12_go 241 = .ok (.iload 4, 2) := by decide +kernel
theorem dX12_go_243 : decode cX12_go 243 = .ok (.invokevirtual 584, 3) := by decide +kernel
theorem dX12_go_246 : decode cX12_go 246 = .ok (.iastore, 1) := by decide +kernel
theorem dX12_go_247 : decode cX12_go 247 = .ok (.aload_n 0, 1) := by decide +kernel
theorem dX12_go_248 : decode cX12_go 248 = .ok (.getfield 151, 3) := by decide +kernel
theorem dX12_go_251 : decode cX12_go 251 = .ok (.iconst 4, 1) := by decide +kernel
theorem dX12_go_252 : decode cX12_go 252 = .ok (.iaload, 1) := by decide +kernel
theorem dX12_go_253 : decode cX12_go 253 = .ok (.ireturn, 1) := by decide +kernel
theorem dX12_keeps_0 : decode cX12_keeps 0 = .ok (.aload_n 0, 1) := by decide +kernel
theorem dX12_keeps_1 : decode cX12_keeps 1 = .ok (.iload_n 1, 1) := by decide +kernel
theorem dX12_keeps_2 : decode cX12_keeps 2 = .ok (.iload_n 2, 1) := by decide +kernel
theorem dX12_keeps_3 : decode cX12_keeps 3 = .ok (.iload_n 3, 1) := by decide +kernel
theorem dX12_keeps_4 : decode cX12_keeps 4 = .ok (.invokevirtual 490, 3) := by decide +kernel
theorem dX12_keeps_7 : decode cX12_keeps 7 = .ok (.ifCond .ne 5, 3) := by decide +kernel
theorem dX12_keeps_10 : decode cX12_keeps 10 = .ok (.iconst (-1), 1) := by decide +kernel
theorem dX12_keeps_11 : decode cX12_keeps 11 = .ok (.ireturn, 1) := by decide +kernel
theorem dX12_keeps_12 : decode cX12_keeps 12 = .ok (.aload_n 0, 1) := by decide +kernel
theorem dX12_keeps_13 : decode cX12_keeps 13 = .ok (.iload_n 1, 1) := by decide +kernel
theorem dX12_keeps_14 : decode cX12_keeps 14 = .ok (.iload_n 2, 1) := by decide +kernel
theorem dX12_keeps_15 : decode cX12_keeps 15 = .ok (.iload_n 3, 1) := by decide +kernel
theorem dX12_keeps_16 : decode cX12_keeps 16 = .ok (.invokevirtual 493, 3) := by decide +kernel
theorem dX12_keeps_19 : decode cX12_keeps 19 = .ok (.iconst 0, 1) := by decide +kernel
theorem dX12_keeps_20 : decode cX12_keeps 20 = .ok (.istore 4, 2) := by decide +kernel
theorem dX12_keeps_22 : decode cX12_keeps 22 = .ok (.iload 4, 2) := by decide +kernel
theorem dX12_keeps_24 : decode cX12_keeps 24 = .ok (.sipush 1024, 3) := by decide +kernel
theorem dX12_keeps_27 : decode cX12_keeps 27 = .ok (.if_icmp .ge 75, 3) := by decide +kernel
theorem dX12_keeps_30 : decode cX12_keeps 30 = .ok (.aload_n 0, 1) := by decide +kernel
theorem dX12_keeps_31 : decode cX12_keeps 31 = .ok (.getfield 133, 3) := by decide +kernel
theorem dX12_keeps_34 : decode cX12_keeps 34 = .ok (.iload 4, 2) := by decide +kernel
theorem dX12_keeps_36 : decode cX12_keeps 36 = .ok (.iload 4, 2) := by decide +kernel
theorem dX12_keeps_38 : decode cX12_keeps 38 = .ok (.iconst 2, 1) := by decide +kernel
theorem dX12_keeps_39 : decode cX12_keeps 39 = .ok (.irem, 1) := by decide +kernel
theorem dX12_keeps_40 : decode cX12_keeps 40 = .ok (.ifCond .ne 52, 3) := by decide +kernel
theorem dX12_keeps_43 : decode cX12_keeps 43 = .ok (.iload 4, 2) := by decide +kernel
theorem dX12_keeps_45 : decode cX12_keeps 45 = .ok (.iconst 2, 1) := by decide +kernel
theorem dX12_keeps_46 : decode cX12_keeps 46 = .ok (.idiv, 1) := by decide +kernel
theorem dX12_keeps_47 : decode cX12_keeps 47 = .ok (.aload_n 0, 1) := by decide +kernel
theorem dX12_keeps_48 : decode cX12_keeps 48 = .ok (.getfield 478, 3) := by decide +kernel
theorem dX12_keeps_51 : decode cX12_keeps 51 = .ok (.if_icmp .ge 41, 3) := by decide +kernel
theorem dX12_keeps_54 : decode cX12_keeps 54 = .ok (.iload 4, 2) := by decide +kernel
theorem dX12_keeps_56 : decode cX12_keeps 56 = .ok (.iconst 2, 1) := by decide +kernel
theorem dX12_keeps_57 : decode cX12_keeps 57 = .ok (.idiv, 1) := by decide +kernel
theorem dX12_keeps_58 : decode cX12_keeps 58 = .ok (.sipush 400, 3) := by decide +kernel
theorem dX12_keeps_61 : decode cX12_keeps 61 = .ok (.if_icmp .ge 31, 3) := by decide +kernel
theorem dX12_keeps_64 : decode cX12_keeps 64 = .ok (.aload_n 0, 1) := by decide +kernel
theorem dX12_keeps_65 : decode cX12_keeps 65 = .ok (.getfield 115, 3) := by decide +kernel
theorem dX12_keeps_68 : decode cX12_keeps 68 = .ok (.iload 4, 2) := by decide +kernel
theorem dX12_keeps_70 : decode cX12_keeps 70 = .ok (.iconst 2, 1) := by decide +kernel
theorem dX12_keeps_71 : decode cX12_keeps 71 = .ok (.idiv, 1) := by decide +kernel
theorem dX12_keeps_72 : decode cX12_keeps 72 = .ok (.baload, 1) := by decide +kernel
theorem dX12_keeps_73 : decode cX12_keeps 73 = .ok (.ifCond .eq 19, 3) := by decide +kernel
theorem dX12_keeps_76 : decode cX12_keeps 76 = .ok (.aload_n 0, 1) := by decide +kernel
theorem dX12_keeps_77 : decode cX12_keeps 77 = .ok (.iload 4, 2) := by decide +kernel
theorem dX12_keeps_79 : decode cX12_keeps 79 = .ok (.iconst 2, 1) := by decide +kernel
theorem dX12_keeps_80 : decode cX12_keeps 80 = .ok (.idiv, 1) := by decide +kernel
theorem dX12_keeps_81 : decode cX12_keeps 81 = .ok (.iconst 0, 1) := by decide +kernel
theorem dX12_keeps_82 : decode cX12_keeps 82 = .ok (.invokevirtual 547, 3) := by decide +kernel
theorem dX12_keeps_85 : decode cX12_keeps 85 = .ok (.ifCond .eq 7, 3) := by decide +kernel
theorem dX12_keeps_88 : decode cX12_keeps 88 = .ok (.iconst 0, 1) := by decide +kernel
theorem dX12_keeps_89 : decode cX12_keeps 89 = .ok (.goto 6, 3) := by decide +kernel
theorem dX12_keeps_92 : decode cX12_keeps 92 = .ok (.ldc_w 502, 3) := by decide +kernel
theorem dX12_keeps_95 : decode cX12_keeps 95 = .ok (.iastore, 1) := by decide +kernel
theorem dX12_keeps_96 : decode cX12_keeps 96 = .ok (.iinc 4 1, 3) := by decide +kernel
theorem dX12_keeps_99 : decode cX12_keeps 99 = .ok (.goto (-77), 3) := by decide +kernel
theorem dX12_keeps_102 : decode cX12_keeps 102 = .ok (.ldc_w 502, 3) := by decide +kernel
theorem dX12_keeps_105 : decode cX12_keeps 105 = .ok (.istore 4, 2) := by decide +kernel
theorem dX12_keeps_107 : decode cX12_keeps 107 = .ok (.iconst 1, 1) := by decide +kernel
theorem dX12_keeps_108 : decode cX12_keeps 108 = .ok (.istore 5, 2) := by decide +kernel
theorem dX12_keeps_110 : decode cX12_keeps 110 = .ok (.iload 5, 2) := by decide +kernel
theorem dX12_keeps_112 : decode cX12_keeps 112 = .ok (.sipush 400, 3) := by decide +kernel
theorem dX12_keeps_115 : decode cX12_keeps 115 = .ok (.if_icmp .gt 136, 3) := by decide +kernel
theorem dX12_keeps_118 : decode cX12_keeps 118 = .ok (.iconst 0, 1) := by decide +kernel
theorem dX12_keeps_119 : decode cX12_keeps 119 = .ok (.istore 6, 2) := by decide +kernel
theorem dX12_keeps_121 : decode cX12_keeps 121 = .ok (.iload 6, 2) := by decide +kernel
theorem dX12_keeps_123 : decode cX12_keeps 123 = .ok (.sipush 1024, 3) := by decide +kernel
theorem dX12_keeps_126 : decode cX12_keeps 126 = .ok (.if_icmp .ge 19, 3) := by decide +kernel
theorem dX12_keeps_129 : decode cX12_keeps 129 = .ok (.aload_n 0, 1) := by decide +kernel
theorem dX12_keeps_130 : decode cX12_keeps 130 = .ok (.getfield 136, 3) := by decide +kernel
theorem dX12_keeps_133 : decode cX12_keeps 133 = .ok (.iload 6, 2) := by decide +kernel
theorem dX12_keeps_135 : decode cX12_keeps 135 = .ok (.ldc_w 502, 3) := by decide +kernel
theorem dX12_keeps_138 : decode cX12_keeps 138 = .ok (.iastore, 1) := by decide +kernel
theorem dX12_keeps_139 : decode cX12_keeps 139 = .ok (.iinc 6 1, 3) := by decide +kernel
theorem dX12_keeps_142 : decode cX12_keeps 142 = .ok (.goto (-21), 3) := by decide +kernel
theorem dX12_keeps_145 : decode cX12_keeps 145 = .ok (.iconst 0, 1) := by decide +kernel
theorem dX12_keeps_146 : decode cX12_keeps 146 = .ok (.istore 6, 2) := by decide +kernel
theorem dX12_keeps_148 : decode cX12_keeps 148 = .ok (.iload 6, 2) := by decide +kernel
theorem dX12_keeps_150 : decode cX12_keeps 150 = .ok (.sipush 800, 3) := by decide +kernel
theorem dX12_keeps_153 : decode cX12_keeps 153 = .ok (.if_icmp .ge 61, 3) := by decide +kernel
theorem dX12_keeps_156 : decode cX12_keeps 156 = .ok (.aload_n 0, 1) := by decide +kernel
theorem dX12_keeps_157 : decode cX12_keeps 157 = .ok (.getfield 133, 3) := by decide +kernel
theorem dX12_keeps_160 : decode cX12_keeps 160 = .ok (.iload 6, 2) := by decide +kernel
theorem dX12_keeps_162 : decode cX12_keeps 162 = .ok (.iaload, 1) := by decide +kernel
theorem dX12_keeps_163 : decode cX12_keeps 163 = .ok (.ldc_w 502, 3) := by decide +kernel
theorem dX12_keeps_166 : decode cX12_keeps 166 = .ok (.if_icmp .ne 6, 3) := by decide +kernel
theorem dX12_keeps_169 : decode cX12_keeps 169 = .ok (.goto 39, 3) := by decide +kernel
theorem dX12_keeps_172 : decode cX12_keeps 172 = .ok (.aload_n 0, 1) := by decide +kernel
theorem dX12_keeps_173 : decode cX12_keeps 173 = .ok (.iload 6, 2) := by decide +kernel
theorem dX12_keeps_175 : decode cX12_keeps 175 = .ok (.iconst 2, 1) := by decide +kernel
theorem dX12_keeps_176 : decode cX12_keeps 176 = .ok (.idiv, 1) := by decide +kernel
theorem dX12_keeps_177 : decode cX12_keeps 177 = .ok (.invokevirtual 499, 3) := by decide +kernel
theorem dX12_keeps_180 : decode cX12_keeps 180 = .ok (.ifCond .eq 20, 3) := by decide +kernel
theorem dX12_keeps_183 : decode cX12_keeps 183 = .ok (.iload 4, 2) := by decide +kernel
theorem dX12_keeps_185 : decode cX12_keeps 185 = .ok (.aload_n 0, 1) := by decide +kernel
theorem dX12_keeps_186 : decode cX12_keeps 186 = .ok (.getfield 133, 3) := by decide +kernel
theorem dX12_keeps_189 : decode cX12_keeps 189 = .ok (.iload 6, 2) := by decide +kernel
theorem dX12_keeps_191 : decode cX12_keeps 191 = .ok (.iaload, 1) := by decide +kernel
theorem dX12_keeps_192 : decode cX12_keeps 192 = .ok (.invokestatic 506, 3) := by decide +kernel
theorem dX12_keeps_195 : decode cX12_keeps 195 = .ok (.istore 4, 2) := by decide +kernel
theorem dX12_keeps_197 : decode cX12_keeps 197 = .ok (.goto 11, 3) := by decide +kernel
theorem dX12_keeps_200 : decode cX12_keeps 200 = .ok (.aload_n 0, 1) := by decide +kernel
theorem dX12_keeps_201 : decode cX12_keeps 201 = .ok (.iload 6, 2) := by decide +kernel
theorem dX12_keeps_203 : decode cX12_keeps 203 = .ok (.iload 5, 2) := by decide +kernel
theorem dX12_keeps_205 : decode cX12_keeps 205 = .ok (.invokevirtual 550, 3) := by decide +kernel
theorem dX12_keeps_208 : decode cX12_keeps 208 = .ok (.iinc 6 1, 3) := by decide +kernel
theorem dX12_keeps_211 : decode cX12_keeps 211 = .ok (.goto (-63), 3) := by decide +kernel
theorem dX12_keeps_214 : decode cX12_keeps 214 = .ok (.iconst 0, 1) := by decide +kernel
theorem dX12_keeps_215 : decode cX12_keeps 215 = .ok (.istore 6, 2) := by decide +kernel
theorem dX12_keeps_217 : decode cX12_keeps 217 = .ok (.iload 6, 2) := by decide +kernel
theorem dX12_keeps_219 : decode cX12_keeps 219 = .ok (.sipush 1024, 3) := by decide +kernel
theorem dX12_keeps_222 : decode cX12_keeps 222 = .ok (.if_icmp .ge 23, 3) := by decide +kernel
theorem dX12_keeps_225 : decode cX12_keeps 225 = .ok (.aload_n 0, 1) := by decide +kernel
theorem dX12_keeps_226 : decode cX12_keeps 226 = .ok (.getfield 133, 3) := by decide +kernel
theorem dX12_keeps_229 : decode cX12_keeps 229 = .ok (.iload 6, 2) := by decide +kernel
theorem dX12_keeps_231 : decode cX12_keeps 231 = .ok (.aload_n 0, 1) := by decide +kernel
theorem dX12_keeps_232 : decode cX12_keeps 232 = .ok (.getfield 136, 3) := by decide +kernel
theorem dX12_keeps_235 : decode cX12_keeps 235 = .ok (.iload 6, 2) := by decide +kernel
theorem dX12_keeps_237 : decode cX12_keeps 237 = .ok (.iaload, 1) := by decide +kernel
theorem dX12_keeps_238 : decode cX12_keeps 238 = .ok (.iastore, 1) := by decide +kernel
theorem dX12_keeps_239 : decode cX12_keeps 239 = .ok (.iinc 6 1, 3) := by decide +kernel
theorem dX12_keeps_242 : decode cX12_keeps 242 = .ok (.goto (-25), 3) := by decide +kernel
theorem dX12_keeps_245 : decode cX12_keeps 245 = .ok (.iinc 5 1, 3) := by decide +kernel
theorem dX12_keeps_248 : decode cX12_keeps 248 = .ok (.goto (-138), 3) := by decide +kernel
theorem dX12_keeps_251 : decode cX12_keeps 251 = .ok (.iload 4, 2) := by decide +kernel
theorem dX12_keeps_253 : decode cX12_keeps 253 = .ok (.ldc_w 502, 3) := by decide +kernel
theorem dX12_keeps_256 : decode cX12_keeps 256 = .ok (.if_icmp .ne 7, 3) := by decide +kernel
theorem dX12_keeps_259 : decode cX12_keeps 259 = .ok (.iconst (-1), 1) := by decide +kernel
theorem dX12_keeps_260 : decode cX12_keeps 260 = .ok (.goto 5, 3) := by decide +kernel
theorem dX12_keeps_263 : decode cX12_keeps 263 = .ok (.iload 4, 2) := by decide +kernel
theorem dX12_keeps_265 : decode cX12_keeps 265 = .ok (.ireturn, 1) := by decide +kernel
theorem dX12_walk_0 : decode cX12_walk 0 = .ok (.aload_n 0, 1) := by decide +kernel
theorem dX12_walk_1 : decode cX12_walk 1 = .ok (.iload_n 1, 1) := by decide +kernel
theorem dX12_walk_2 : decode cX12_walk 2 = .ok (.invokevirtual 487, 3) := by decide +kernel
theorem dX12_walk_5 : decode cX12_walk 5 = .ok (.ifCond .eq 27, 3) := by decide +kernel
theorem dX12_walk_8 : decode cX12_walk 8 = .ok (.aload_n 0, 1) := by decide +kernel
theorem dX12_walk_9 : decode cX12_walk 9 = .ok (.iload_n 2, 1) := by decide +kernel
theorem dX12_walk_10 : decode cX12_walk 10 = .ok (.invokevirtual 453, 3) := by decide +kernel
theorem dX12_walk_13 : decode cX12_walk 13 = .ok (.ifCond .eq 19, 3) := by decide +kernel
theorem dX12_walk_16 : decode cX12_walk 16 = .ok (.iload_n 3, 1) := by decide +kernel
theorem dX12_walk_17 : decode cX12_walk 17 = .ok (.iconst 0, 1) := by decide +kernel
theorem dX12_walk_18 : decode cX12_walk 18 = .ok (.aload_n 0, 1) := by decide +kernel
theorem dX12_walk_19 : decode cX12_walk 19 = .ok (.getfield 96, 3) := by decide +kernel
theorem dX12_walk_22 : decode cX12_walk 22 = .ok (.iload_n 1, 1) := by decide +kernel
theorem dX12_walk_23 : decode cX12_walk 23 = .ok (.iaload, 1) := by decide +kernel
theorem dX12_walk_24 : decode cX12_walk 24 = .ok (.iconst 1, 1) := by decide +kernel
theorem dX12_walk_25 : decode cX12_walk 25 = .ok (.isub, 1) := by decide +kernel
theorem dX12_walk_26 : decode cX12_walk 26 = .ok (.invokestatic 449, 3) := by decide +kernel
theorem dX12_walk_29 : decode cX12_walk 29 = .ok (.ifCond .ne 5, 3) := by decide +kernel
theorem dX12_walk_32 : decode cX12_walk 32 = .ok (.iconst (-1), 1) := by decide +kernel
theorem dX12_walk_33 : decode cX12_walk 33 = .ok (.ireturn, 1) := by decide +kernel
theorem dX12_walk_34 : decode cX12_walk 34 = .ok (.aload_n 0, 1) := by decide +kernel
theorem dX12_walk_35 : decode cX12_walk 35 = .ok (.iload_n 1, 1) := by decide +kernel
theorem dX12_walk_36 : decode cX12_walk 36 = .ok (.iload_n 2, 1) := by decide +kernel
theorem dX12_walk_37 : decode cX12_walk 37 = .ok (.aload_n 0, 1) := by decide +kernel
theorem dX12_walk_38 : decode cX12_walk 38 = .ok (.getfield 151, 3) := by decide +kernel
theorem dX12_walk_41 : decode cX12_walk 41 = .ok (.bipush 8, 2) := by decide +kernel
theorem dX12_walk_43 : decode cX12_walk 43 = .ok (.iaload, 1) := by decide +kernel
theorem dX12_walk_44 : decode cX12_walk 44 = .ok (.invokevirtual 493, 3) := by decide +kernel
theorem dX12_walk_47 : decode cX12_walk 47 = .ok (.aload_n 0, 1) := by decide +kernel
theorem dX12_walk_48 : decode cX12_walk 48 = .ok (.iload_n 3, 1) := by decide +kernel
theorem dX12_walk_49 : decode cX12_walk 49 = .ok (.invokevirtual 484, 3) := by decide +kernel
theorem dX12_walk_52 : decode cX12_walk 52 = .ok (.ifCond .ne 5, 3) := by decide +kernel
theorem dX12_walk_55 : decode cX12_walk 55 = .ok (.iconst (-1), 1) := by decide +kernel
theorem dX12_walk_56 : decode cX12_walk 56 = .ok (.ireturn, 1) := by decide +kernel
theorem dX12_walk_57 : decode cX12_walk 57 = .ok (.aload_n 0, 1) := by decide +kernel
theorem dX12_walk_58 : decode cX12_walk 58 = .ok (.invokevirtual 581, 3) := by decide +kernel
theorem dX12_walk_61 : decode cX12_walk 61 = .ok (.aload_n 0, 1) := by decide +kernel
theorem dX12_walk_62 : decode cX12_walk 62 = .ok (.getfield 151, 3) := by decide +kernel
theorem dX12_walk_65 : decode cX12_walk 65 = .ok (.iconst 0, 1) := by decide +kernel
theorem dX12_walk_66 : decode cX12_walk 66 = .ok (.iload_n 1, 1) := by decide +kernel
theorem dX12_walk_67 : decode cX12_walk 67 = .ok (.iastore, 1) := by decide +kernel
theorem dX12_walk_68 : decode cX12_walk 68 = .ok (.aload_n 0, 1) := by decide +kernel
theorem dX12_walk_69 : decode cX12_walk 69 = .ok (.getfield 151, 3) := by decide +kernel
theorem dX12_walk_72 : decode cX12_walk 72 = .ok (.iconst 1, 1) := by decide +kernel
theorem dX12_walk_73 : decode cX12_walk 73 = .ok (.iload_n 2, 1) := by decide +kernel
theorem dX12_walk_74 : decode cX12_walk 74 = .ok (.iastore, 1) := by decide +kernel
theorem dX12_walk_75 : decode cX12_walk 75 = .ok (.aload_n 0, 1) := by decide +kernel
theorem dX12_walk_76 : decode cX12_walk 76 = .ok (.getfield 151, 3) := by decide +kernel
theorem dX12_walk_79 : decode cX12_walk 79 = .ok (.iconst 2, 1) := by decide +kernel
theorem dX12_walk_80 : decode cX12_walk 80 = .ok (.iload_n 3, 1) := by decide +kernel
theorem dX12_walk_81 : decode cX12_walk 81 = .ok (.iastore, 1) := by decide +kernel
theorem dX12_walk_82 : decode cX12_walk 82 = .ok (.aload_n 0, 1) := by decide +kernel
theorem dX12_walk_83 : decode cX12_walk 83 = .ok (.getfield 151, 3) := by decide +kernel
theorem dX12_walk_86 : decode cX12_walk 86 = .ok (.iconst 3, 1) := by decide +kernel
theorem dX12_walk_87 : decode cX12_walk 87 = .ok (.iconst 1, 1) := by decide +kernel
theorem dX12_walk_88 : decode cX12_walk 88 = .ok (.iastore, 1) := by decide +kernel
theorem dX12_walk_89 : decode cX12_walk 89 = .ok (.aload_n 0, 1) := by decide +kernel
theorem dX12_walk_90 : decode cX12_walk 90 = .ok (.getfield 151, 3) := by decide +kernel
theorem dX12_walk_93 : decode cX12_walk 93 = .ok (.iconst 4, 1) := by decide +kernel
theorem dX12_walk_94 : decode cX12_walk 94 = .ok (.aload_n 0, 1) := by decide +kernel
theorem dX12_walk_95 : decode cX12_walk 95 = .ok (.iload_n 3, 1) := by decide +kernel
theorem dX12_walk_96 : decode cX12_walk 96 = .ok (.invokevirtual 584, 3) := by decide +kernel
theorem dX12_walk_99 : decode cX12_walk 99 = .ok (.iastore, 1) := by decide +kernel
theorem dX12_walk_100 : decode cX12_walk 100 = .ok (.aload_n 0, 1) := by decide +kernel
theorem dX12_walk_101 : decode cX12_walk 101 = .ok (.getfield 151, 3) := by decide +kernel
theorem dX12_walk_104 : decode cX12_walk 104 = .ok (.iconst 5, 1) := by decide +kernel
theorem dX12_walk_105 : decode cX12_walk 105 = .ok (.iconst 0, 1) := by decide +kernel
theorem dX12_walk_106 : decode cX12_walk 106 = .ok (.iastore, 1) := by decide +kernel
theorem dX12_walk_107 : decode cX12_walk 107 = .ok (.aload_n 0, 1) := by decide +kernel
theorem dX12_walk_108 : decode cX12_walk 108 = .ok (.getfield 151, 3) := by decide +kernel
theorem dX12_walk_111 : decode cX12_walk 111 = .ok (.iconst 4, 1) := by decide +kernel
theorem dX12_walk_112 : decode cX12_walk 112 = .ok (.iaload, 1) := by decide +kernel
theorem dX12_walk_113 : decode cX12_walk 113 = .ok (.ireturn, 1) := by decide +kernel
set_option maxHeartbeats 4000000 in
set_option maxRecDepth 100000 in
theorem n_keeps (l : Launch) (D : va_G) (k : KT) (A : Nat → Prop) (a : Nat → Nat) (z : SK) (G : GS) (p0 : Int32) (p1 : Int32) (p2 : Int32) (hP9 : gP G = 1) : Met l yX12_keeps (WS yX12_keeps cX12_keeps 7 (some .int)) ({ frames := 5, cells := 0, slots := 0, locals := 117 }) (va_Pc [.ref (a 66), .int p0, .int p1, .int p2] (cW D k A a z G)) (va_Qi (fun (r : Int32) (G1 : GS) => Bd G1 ∧ Fr [104, 105, 76, 97, 98] [(66, 59), (66, 60), (66, 61), (66, 62), (66, 63)] G G1) (fun (G1 : GS) t => Wd D k A a G1 t.heap) A) 0 0 A := by
  refine Met.ofW (cc := cX12_keeps) (maxL := 7) (ret := (some .int)) (by decide) rfl ?_
  intro p e s m args below meth c s₁ B hml hv
  obtain ⟨rfl, hW, hB_G, hK, hZ⟩ := hv
  have hx := B.exec
  have hb := B.bytes
  have hr := B.returns
  have hts := atoms_spec (ws := WS yX12_keeps cX12_keeps 7 (some .int)) B.pre
  have hgd : ∀ w ∈ gd, w ∈ WS yX12_keeps cX12_keeps 7 (some .int) := fun w h => List.mem_cons_of_mem _ h
  have hg : ∀ w ∈ gd, w.before _ s = true := fun w h => hts w (hgd w h)
  have hown : s.vm.findClass RX12 = some m.cls := findClass_of_methodNamed B.named
  have hS : va_S A s.heap s.heap [] := va_S.rf
  have hF : Fr [104, 105, 76, 97, 98] [(66, 59), (66, 60), (66, 61), (66, 62), (66, 63)] G G := Fr.rf
  have hl := lv_entry ([.ref (a 66), .int p0, .int p1, .int p2]) (n := 7) (Nat.le_of_ble_eq_true rfl)
  rw [lg_entry_eq]
  generalize (lg_sl ([.ref (a 66), .int p0, .int p1, .int p2]) ++ List.replicate (7 - (lg_sl ([.ref (a 66), .int p0, .int p1, .int p2])).length) Slot.unset).toArray = ls at hl ⊢
  have hl : lv_has ls 7 [(0, .ref (a 66)), (1, .int p0), (2, .int p1), (3, .int p2)] := hl
  refine lv_aload_n hx hb dX12_keeps_0 rfl (lv_at hl 0 rfl) ?_
  refine lv_iload_n hx hb dX12_keeps_1 rfl (lv_at hl 1 rfl) ?_
  refine lv_iload_n hx hb dX12_keeps_2 rfl (lv_at hl 2 rfl) ?_
  refine lv_iload_n hx hb dX12_keeps_3 rfl (lv_at hl 3 rfl) ?_
  refine S_calli (va_runV (As := [.int p0, .int p1, .int p2]) (rest := []) ⟨hx, hb, hml, hown, hts⟩ (n_isAsked l D k A a z G p0 p1 p2 ) (cwV 3 hts (gd_V hgd m1826 m1828 m89 m131 m1829) rfl rfl rfl (by decide +kernel) ⟨Nat.le_of_ble_eq_true rfl, Nat.le_of_ble_eq_true rfl⟩) (pre_V hW hB_G hK hZ hS kd_66 rfl) rfl rfl hl.1 rfl (lv_room (Nat.le_of_ble_eq_true rfl)) dX12_keeps_4 ⟨Nat.le_of_ble_eq_true rfl, Nat.le_of_ble_eq_true rfl⟩) hS (fun r_1 G_2 H locs hpo hW hS => ?_)
  obtain ⟨hB_G_2, hq_3, f_5, hp_4⟩ := hpo
  have hF := hF.call hq_3 (by decide) (by decide)
  refine lv_if_ne (tgt := 12) hx hb dX12_keeps_7 (by decide) (fun c_6 => ?_) (fun c_6 => ?_)
  · have c_6 : r_1.toInt ≠ 0 := xI_ne rfl rfl c_6
    refine lv_aload_n hx hb dX12_keeps_12 rfl (lv_at hl 0 rfl) ?_
    refine lv_iload_n hx hb dX12_keeps_13 rfl (lv_at hl 1 rfl) ?_
    refine lv_iload_n hx hb dX12_keeps_14 rfl (lv_at hl 2 rfl) ?_
    refine lv_iload_n hx hb dX12_keeps_15 rfl (lv_at hl 3 rfl) ?_
    have g_7 : gP G_2 = gP G := gP_fr (rs := []) (fs := []) (Fr.rf.call hq_3 (by decide) (by decide)) (by decide) (by decide)
    refine S_callv (va_runV (As := [.int p0, .int p1, .int p2]) (rest := []) ⟨hx, hb, hml, hown, hts⟩ (n_layStreet l D k A a z G_2 p0 p1 p2 ⟨by omega, by omega⟩ ⟨by omega, by omega⟩ (by omega)) (cwV 3 hts (gd_V hgd m1834 m1836 m91 m131 m1837) rfl rfl rfl (by decide +kernel) ⟨Nat.le_of_ble_eq_true rfl, Nat.le_of_ble_eq_true rfl⟩) (pre_V hW hB_G_2 hK hZ hS kd_66 rfl) rfl rfl hl.1 rfl (lv_room (Nat.le_of_ble_eq_true rfl)) dX12_keeps_16 ⟨Nat.le_of_ble_eq_true rfl, Nat.le_of_ble_eq_true rfl⟩) hS (fun G_9 H locs hpo hW hS => ?_)
    obtain ⟨hB_G_9, hq_10, hp_11⟩ := hpo
    have hF := hF.call hq_10 (by decide) (by decide)
    refine lv_iconst (v := 0) hx hb dX12_keeps_19 (by decide) ?_
    refine lv_istore (lv' := [(4, .int 0), (0, .ref (a 66)), (1, .int p0), (2, .int p1), (3, .int p2)]) hx hb dX12_keeps_20 hl (by decide) rfl (fun ls hl => ?_)
    have qc_17 : (0 : Int32).toInt = 0 := rfl
    refine loop_N (Inv := fun n H locs ls => ∃ (G_12 : GS) (x_16 : Int32), (n : Int) = 1024 - x_16.toInt ∧ (0 ≤ x_16.toInt ∧ x_16.toInt ≤ 1024) ∧ Wd D k A a G_12 H ∧ Bd G_12 ∧ Fr [104, 105, 76, 97, 98] [(66, 59), (66, 60), (66, 61), (66, 62), (66, 63)] G G_12 ∧ Fr [104] [] G_9 G_12 ∧ va_S A s.heap H locs ∧ lv_has ls 7 [(4, .int x_16), (0, .ref (a 66))]) (fun n_15 H locs ls ih_14 hI => ?_) (1024 - 0 : Int).toNat ⟨G_9, 0, (Int.toNat_of_nonneg (by omega)), ⟨by omega, by omega⟩, hW, hB_G_9, hF, Fr.rf, hS, lv_sub hl [0, 1] rfl⟩
    obtain ⟨G_12, x_16, hn_19, f_18, hW, hB_G_12, hF, hq_13, hS, hl⟩ := hI
    refine lv_iload hx hb dX12_keeps_22 (lv_at hl 0 rfl) ?_
    refine lv_sipush (v := 1024) hx hb dX12_keeps_24 (by decide) ?_
    refine lv_icmp_ge (tgt := 102) hx hb dX12_keeps_27 (by decide) (fun c_20 => ?_) (fun c_20 => ?_)
    · have c_20 : 1024 ≤ x_16.toInt := xI_le rfl rfl c_20
      refine lv_ldcw (v := 100000) hx hb hown (hg (Cond.constant RX12 502 100000) m1858) dX12_keeps_102 ?_
      refine lv_istore (lv' := [(4, .int 100000), (0, .ref (a 66))]) hx hb dX12_keeps_105 hl (by decide) rfl (fun ls hl => ?_)
      refine lv_iconst (v := 1) hx hb dX12_keeps_107 (by decide) ?_
      refine lv_istore (lv' := [(5, .int 1), (4, .int 100000), (0, .ref (a 66))]) hx hb dX12_keeps_108 hl (by decide) rfl (fun ls hl => ?_)
      have qc_27 : (1 : Int32).toInt = 1 := rfl
      have qc_28 : (100000 : Int32).toInt = 100000 := rfl
      refine loop_N (Inv := fun n H locs ls => ∃ (G_21 : GS) (x_25 : Int32) (x_26 : Int32), (n : Int) = 401 - x_25.toInt ∧ (1 ≤ x_25.toInt ∧ x_25.toInt ≤ 401) ∧ Wd D k A a G_21 H ∧ Bd G_21 ∧ Fr [104, 105, 76, 97, 98] [(66, 59), (66, 60), (66, 61), (66, 62), (66, 63)] G G_21 ∧ Fr [104, 105] [] G_12 G_21 ∧ va_S A s.heap H locs ∧ lv_has ls 7 [(5, .int x_25), (4, .int x_26), (0, .ref (a 66))]) (fun n_24 H locs ls ih_23 hI => ?_) (401 - 1 : Int).toNat ⟨G_12, 1, 100000, (Int.toNat_of_nonneg (by omega)), ⟨by omega, by omega⟩, hW, hB_G_12, hF, Fr.rf, hS, lv_sub hl [0, 1, 2] rfl⟩
      obtain ⟨G_21, x_25, x_26, hn_30, f_29, hW, hB_G_21, hF, hq_22, hS, hl⟩ := hI
      refine lv_iload hx hb dX12_keeps_110 (lv_at hl 0 rfl) ?_
      refine lv_sipush (v := 400) hx hb dX12_keeps_112 (by decide) ?_
      refine lv_icmp_gt (tgt := 251) hx hb dX12_keeps_115 (by decide) (fun c_31 => ?_) (fun c_31 => ?_)
      · have c_31 : 400 < x_25.toInt := xI_lt rfl rfl c_31
        refine lv_iload hx hb dX12_keeps_251 (lv_at hl 1 rfl) ?_
        refine lv_ldcw (v := 100000) hx hb hown (hg (Cond.constant RX12 502 100000) m1858) dX12_keeps_253 ?_
        refine lv_icmp_ne (tgt := 263) hx hb dX12_keeps_256 (by decide) (fun c_32 => ?_) (fun c_32 => ?_)
        · have c_32 : x_26.toInt ≠ 100000 := xI_ne rfl rfl c_32
          refine lv_iload hx hb dX12_keeps_263 (lv_at hl 1 rfl) ?_
          exact W.iret (v := x_26) hx hb hr (fun t ht _ => ⟨⟨x_26, G_21, rfl, ⟨hB_G_21, hF⟩, wd_t ht hW⟩, hS.F ht⟩) hS.2.2 dX12_keeps_265
        · have c_32 : x_26.toInt = 100000 := xI_eq rfl rfl c_32
          refine lv_iconst (v := (-1)) hx hb dX12_keeps_259 (by decide) ?_
          refine lv_goto (tgt := 265) hx hb dX12_keeps_260 (by decide) ?_
          exact W.iret (v := (-1)) hx hb hr (fun t ht _ => ⟨⟨(-1), G_21, rfl, ⟨hB_G_21, hF⟩, wd_t ht hW⟩, hS.F ht⟩) hS.2.2 dX12_keeps_265
      · have c_31 : x_25.toInt ≤ 400 := xI_nlt rfl rfl c_31
        refine lv_iconst (v := 0) hx hb dX12_keeps_118 (by decide) ?_
        refine lv_istore (lv' := [(6, .int 0), (5, .int x_25), (4, .int x_26), (0, .ref (a 66))]) hx hb dX12_keeps_119 hl (by decide) rfl (fun ls hl => ?_)
        have qc_38 : (0 : Int32).toInt = 0 := rfl
        refine loop_N (Inv := fun n H locs ls => ∃ (G_33 : GS) (x_37 : Int32), (n : Int) = 1024 - x_37.toInt ∧ (0 ≤ x_37.toInt ∧ x_37.toInt ≤ 1024) ∧ Wd D k A a G_33 H ∧ Bd G_33 ∧ Fr [104, 105, 76, 97, 98] [(66, 59), (66, 60), (66, 61), (66, 62), (66, 63)] G G_33 ∧ Fr [105] [] G_21 G_33 ∧ va_S A s.heap H locs ∧ lv_has ls 7 [(6, .int x_37), (5, .int x_25), (4, .int x_26), (0, .ref (a 66))]) (fun n_36 H locs ls ih_35 hI => ?_) (1024 - 0 : Int).toNat ⟨G_21, 0, (Int.toNat_of_nonneg (by omega)), ⟨by omega, by omega⟩, hW, hB_G_21, hF, Fr.rf, hS, lv_sub hl [0, 1, 2, 3] rfl⟩
        obtain ⟨G_33, x_37, hn_40, f_39, hW, hB_G_33, hF, hq_34, hS, hl⟩ := hI
        refine lv_iload hx hb dX12_keeps_121 (lv_at hl 0 rfl) ?_
        refine lv_sipush (v := 1024) hx hb dX12_keeps_123 (by decide) ?_
        refine lv_icmp_ge (tgt := 145) hx hb dX12_keeps_126 (by decide) (fun c_41 => ?_) (fun c_41 => ?_)
        · have c_41 : 1024 ≤ x_37.toInt := xI_le rfl rfl c_41
          refine lv_iconst (v := 0) hx hb dX12_keeps_145 (by decide) ?_
          refine lv_istore (lv' := [(6, .int 0), (5, .int x_25), (4, .int x_26), (0, .ref (a 66))]) hx hb dX12_keeps_146 hl (by decide) rfl (fun ls hl => ?_)
          have qc_48 : (0 : Int32).toInt = 0 := rfl
          refine loop_N (Inv := fun n H locs ls => ∃ (G_42 : GS) (x_46 : Int32) (x_47 : Int32), (n : Int) = 800 - x_46.toInt ∧ (0 ≤ x_46.toInt ∧ x_46.toInt ≤ 800) ∧ Wd D k A a G_42 H ∧ Bd G_42 ∧ Fr [104, 105, 76, 97, 98] [(66, 59), (66, 60), (66, 61), (66, 62), (66, 63)] G G_42 ∧ Fr [105] [] G_33 G_42 ∧ va_S A s.heap H locs ∧ lv_has ls 7 [(6, .int x_46), (5, .int x_25), (4, .int x_47), (0, .ref (a 66))]) (fun n_45 H locs ls ih_44 hI => ?_) (800 - 0 : Int).toNat ⟨G_33, 0, x_26, (Int.toNat_of_nonneg (by omega)), ⟨by omega, by omega⟩, hW, hB_G_33, hF, Fr.rf, hS, lv_sub hl [0, 1, 2, 3] rfl⟩
          obtain ⟨G_42, x_46, x_47, hn_50, f_49, hW, hB_G_42, hF, hq_43, hS, hl⟩ := hI
          refine lv_iload hx hb dX12_keeps_148 (lv_at hl 0 rfl) ?_
          refine lv_sipush (v := 800) hx hb dX12_keeps_150 (by decide) ?_
          refine lv_icmp_ge (tgt := 214) hx hb dX12_keeps_153 (by decide) (fun c_51 => ?_) (fun c_51 => ?_)
          · have c_51 : 800 ≤ x_46.toInt := xI_le rfl rfl c_51
            refine lv_iconst (v := 0) hx hb dX12_keeps_214 (by decide) ?_
            refine lv_istore (lv' := [(6, .int 0), (5, .int x_25), (4, .int x_47), (0, .ref (a 66))]) hx hb dX12_keeps_215 hl (by decide) rfl (fun ls hl => ?_)
            have qc_57 : (0 : Int32).toInt = 0 := rfl
            refine loop_N (Inv := fun n H locs ls => ∃ (G_52 : GS) (x_56 : Int32), (n : Int) = 1024 - x_56.toInt ∧ (0 ≤ x_56.toInt ∧ x_56.toInt ≤ 1024) ∧ Wd D k A a G_52 H ∧ Bd G_52 ∧ Fr [104, 105, 76, 97, 98] [(66, 59), (66, 60), (66, 61), (66, 62), (66, 63)] G G_52 ∧ Fr [104] [] G_42 G_52 ∧ va_S A s.heap H locs ∧ lv_has ls 7 [(6, .int x_56), (5, .int x_25), (4, .int x_47), (0, .ref (a 66))]) (fun n_55 H locs ls ih_54 hI => ?_) (1024 - 0 : Int).toNat ⟨G_42, 0, (Int.toNat_of_nonneg (by omega)), ⟨by omega, by omega⟩, hW, hB_G_42, hF, Fr.rf, hS, lv_sub hl [0, 1, 2, 3] rfl⟩
            obtain ⟨G_52, x_56, hn_59, f_58, hW, hB_G_52, hF, hq_53, hS, hl⟩ := hI
            refine lv_iload hx hb dX12_keeps_217 (lv_at hl 0 rfl) ?_
            refine lv_sipush (v := 1024) hx hb dX12_keeps_219 (by decide) ?_
            refine lv_icmp_ge (tgt := 245) hx hb dX12_keeps_222 (by decide) (fun c_60 => ?_) (fun c_60 => ?_)
            · have c_60 : 1024 ≤ x_56.toInt := xI_le rfl rfl c_60
              obtain ⟨y_61, ey_61⟩ : ∃ q, q = x_25 + 1 := ⟨_, rfl⟩
              have ty_61 : y_61.toInt = x_25.toInt + 1 := xI_add rfl rfl ey_61 (by omega) (by omega)
              refine lv_iinc (v := y_61) (lv' := [(5, .int y_61), (6, .int x_56), (4, .int x_47), (0, .ref (a 66))]) hx hb dX12_keeps_245 hl (k := 1) rfl (by rw [ey_61]; rfl) (by decide) rfl (fun ls hl => ?_)
              refine lv_goto (tgt := 110) hx hb dX12_keeps_248 (by decide) ?_
              exact ih_23 (401 - y_61.toInt : Int).toNat (by omega) _ _ _ ⟨G_52, y_61, x_47, (Int.toNat_of_nonneg (by omega)), ⟨by omega, by omega⟩, hW, hB_G_52, hF, ((((Fr.rf.call hq_22 (by decide) (by decide)).call hq_34 (by decide) (by decide)).call hq_43 (by decide) (by decide)).call hq_53 (by decide) (by decide)), hS, lv_sub hl [0, 2, 3] rfl⟩
            · have c_60 : x_56.toInt < 1024 := xI_nle rfl rfl c_60
              refine lv_aload_n hx hb dX12_keeps_225 rfl (lv_at hl 3 rfl) ?_
              refine S_getR (n := 104) (C := RX12) (T := TX12) (N := 89) hx hb hg iX12 hown hK hW kd_66 rfl 70 (by decide) (hg (Cond.fieldLink RX12 133 "SlabWalkModel" "leapt" "[I") m1384) (fun _ h9 => h9) rfl dX12_keeps_226 ?_
              refine lv_iload hx hb dX12_keeps_229 (lv_at hl 0 rfl) ?_
              refine lv_aload_n hx hb dX12_keeps_231 rfl (lv_at hl 3 rfl) ?_
              refine S_getR (n := 105) (C := RX12) (T := TX12) (N := 89) hx hb hg iX12 hown hK hW kd_66 rfl 71 (by decide) (hg (Cond.fieldLink RX12 136 "SlabWalkModel" "leaptNext" "[I") m1385) (fun _ h9 => h9) rfl dX12_keeps_232 ?_
              refine lv_iload hx hb dX12_keeps_235 (lv_at hl 0 rfl) ?_
              refine S_iald hx hb hK hW kd_105 (vin (by omega) (by omega)) dX12_keeps_237 (fun y_62 ey_62 => ?_)
              refine S_iast hx hb hK hW hS kd_104 (vin (by omega) (by omega)) dX12_keeps_238 (fun G_63 H locs eG_63 hW hS => ?_)
              have hB_G_63 : Bd G_63 := hB_G_52.put (lo := (-2147483648)) (hi := 2147483647) eG_63 rfl rfl rfl (tI_rng _).1 (tI_rng _).2 (hB_G_52.2.put eG_63 rfl)
              have hF := hF.put eG_63 (Or.inl (by decide))
              obtain ⟨y_64, ey_64⟩ : ∃ q, q = x_56 + 1 := ⟨_, rfl⟩
              have ty_64 : y_64.toInt = x_56.toInt + 1 := xI_add rfl rfl ey_64 (by omega) (by omega)
              refine lv_iinc (v := y_64) (lv' := [(6, .int y_64), (5, .int x_25), (4, .int x_47), (0, .ref (a 66))]) hx hb dX12_keeps_239 hl (k := 0) rfl (by rw [ey_64]; rfl) (by decide) rfl (fun ls hl => ?_)
              refine lv_goto (tgt := 217) hx hb dX12_keeps_242 (by decide) ?_
              exact ih_54 (1024 - y_64.toInt : Int).toNat (by omega) _ _ _ ⟨G_63, y_64, (Int.toNat_of_nonneg (by omega)), ⟨by omega, by omega⟩, hW, hB_G_63, hF, ((Fr.rf.call hq_53 (by decide) (by decide)).put eG_63 (Or.inl (by decide))), hS, lv_sub hl [0, 1, 2, 3] rfl⟩
          · have c_51 : x_46.toInt < 800 := xI_nle rfl rfl c_51
            refine lv_aload_n hx hb dX12_keeps_156 rfl (lv_at hl 3 rfl) ?_
            refine S_getR (n := 104) (C := RX12) (T := TX12) (N := 89) hx hb hg iX12 hown hK hW kd_66 rfl 70 (by decide) (hg (Cond.fieldLink RX12 133 "SlabWalkModel" "leapt" "[I") m1384) (fun _ h9 => h9) rfl dX12_keeps_157 ?_
            refine lv_iload hx hb dX12_keeps_160 (lv_at hl 0 rfl) ?_
            refine S_iald hx hb hK hW kd_104 (vin (by omega) (by omega)) dX12_keeps_162 (fun y_65 ey_65 => ?_)
            refine lv_ldcw (v := 100000) hx hb hown (hg (Cond.constant RX12 502 100000) m1858) dX12_keeps_163 ?_
            refine lv_icmp_ne (tgt := 172) hx hb dX12_keeps_166 (by decide) (fun c_66 => ?_) (fun c_66 => ?_)
            · have c_66 : y_65.toInt ≠ 100000 := xI_ne rfl rfl c_66
              refine lv_aload_n hx hb dX12_keeps_172 rfl (lv_at hl 3 rfl) ?_
              refine lv_iload hx hb dX12_keeps_173 (lv_at hl 0 rfl) ?_
              refine lv_iconst (v := 2) hx hb dX12_keeps_175 (by decide) ?_
              refine lv_idiv hx hb dX12_keeps_176 (by decide) ?_
              refine lv_topi (fun y_67 ey_67 => ?_)
              have ty_67 : y_67.toInt = x_46.toInt / 2 := xI_div rfl ey_67 (by decide) (by omega)
              have b_68 : 0 ≤ (G_9.1 66 59).toInt ∧ (G_9.1 66 59).toInt ≤ 400 := hB_G_9.i 66 59 rfl rfl
              have g_69 : (G_42.1 66 59).toInt = (G_9.1 66 59).toInt := by rw [show G_42.1 66 59 = (G_9.1 66 59) from ((hq_43.i 66 59 (by decide) (by decide)).trans ((hq_34.i 66 59 (by decide) (by decide)).trans ((hq_22.i 66 59 (by decide) (by decide)).trans (hq_13.i 66 59 (by decide) (by decide)))))]
              have b_70 : 0 ≤ (G_9.1 66 60).toInt ∧ (G_9.1 66 60).toInt ≤ 12 := hB_G_9.i 66 60 rfl rfl
              have g_71 : (G_42.1 66 60).toInt = (G_9.1 66 60).toInt := by rw [show G_42.1 66 60 = (G_9.1 66 60) from ((hq_43.i 66 60 (by decide) (by decide)).trans ((hq_34.i 66 60 (by decide) (by decide)).trans ((hq_22.i 66 60 (by decide) (by decide)).trans (hq_13.i 66 60 (by decide) (by decide)))))]
              have b_72 : 0 ≤ (G_9.1 66 62).toInt ∧ (G_9.1 66 62).toInt ≤ 60 := hB_G_9.i 66 62 rfl rfl
              have g_73 : (G_42.1 66 62).toInt = (G_9.1 66 62).toInt := by rw [show G_42.1 66 62 = (G_9.1 66 62) from ((hq_43.i 66 62 (by decide) (by decide)).trans ((hq_34.i 66 62 (by decide) (by decide)).trans ((hq_22.i 66 62 (by decide) (by decide)).trans (hq_13.i 66 62 (by decide) (by decide)))))]
              refine S_calli (va_runV (As := [.int y_67]) (rest := []) ⟨hx, hb, hml, hown, hts⟩ (n_isEnd l D k A a z G_42 y_67 ⟨by omega, by omega⟩) (cwV 1 hts (gd_V hgd m1854 m1856 m95 m131 m1857) rfl rfl rfl (by decide +kernel) ⟨Nat.le_of_ble_eq_true rfl, Nat.le_of_ble_eq_true rfl⟩) (pre_V hW hB_G_42 hK hZ hS kd_66 rfl) rfl rfl hl.1 rfl (lv_room (Nat.le_of_ble_eq_true rfl)) dX12_keeps_177 ⟨Nat.le_of_ble_eq_true rfl, Nat.le_of_ble_eq_true rfl⟩) hS (fun r_74 G_75 H locs hpo hW hS => ?_)
              obtain ⟨hB_G_75, hq_76, f_78, hp_77⟩ := hpo
              have hF := hF.call hq_76 (by decide) (by decide)
              refine lv_if_eq (tgt := 200) hx hb dX12_keeps_180 (by decide) (fun c_79 => ?_) (fun c_79 => ?_)
              · have c_79 : r_74.toInt = 0 := xI_eq rfl rfl c_79
                refine lv_aload_n hx hb dX12_keeps_200 rfl (lv_at hl 3 rfl) ?_
                refine lv_iload hx hb dX12_keeps_201 (lv_at hl 0 rfl) ?_
                refine lv_iload hx hb dX12_keeps_203 (lv_at hl 1 rfl) ?_
                refine S_callv (va_runV (As := [.int x_46, .int x_25]) (rest := []) ⟨hx, hb, hml, hown, hts⟩ (n_keepOn l D k A a z G_75 x_46 x_25 ⟨by omega, by omega⟩ ⟨by omega, by omega⟩) (cwV 2 hts (gd_V hgd m1935 m1937 m102 m131 m1938) rfl rfl rfl (by decide +kernel) ⟨Nat.le_of_ble_eq_true rfl, Nat.le_of_ble_eq_true rfl⟩) (pre_V hW hB_G_75 hK hZ hS kd_66 rfl) rfl rfl hl.1 rfl (lv_room (Nat.le_of_ble_eq_true rfl)) dX12_keeps_205 ⟨Nat.le_of_ble_eq_true rfl, Nat.le_of_ble_eq_true rfl⟩) hS (fun G_81 H locs hpo hW hS => ?_)
                obtain ⟨hB_G_81, hq_82⟩ := hpo
                have hF := hF.call hq_82 (by decide) (by decide)
                obtain ⟨y_84, ey_84⟩ : ∃ q, q = x_46 + 1 := ⟨_, rfl⟩
                have ty_84 : y_84.toInt = x_46.toInt + 1 := xI_add rfl rfl ey_84 (by omega) (by omega)
                refine lv_iinc (v := y_84) (lv' := [(6, .int y_84), (5, .int x_25), (4, .int x_47), (0, .ref (a 66))]) hx hb dX12_keeps_208 hl (k := 0) rfl (by rw [ey_84]; rfl) (by decide) rfl (fun ls hl => ?_)
                refine lv_goto (tgt := 148) hx hb dX12_keeps_211 (by decide) ?_
                exact ih_44 (800 - y_84.toInt : Int).toNat (by omega) _ _ _ ⟨G_81, y_84, x_47, (Int.toNat_of_nonneg (by omega)), ⟨by omega, by omega⟩, hW, hB_G_81, hF, (((Fr.rf.call hq_43 (by decide) (by decide)).call hq_76 (by decide) (by decide)).call hq_82 (by decide) (by decide)), hS, lv_sub hl [0, 1, 2, 3] rfl⟩
              · have c_79 : r_74.toInt ≠ 0 := xI_ne rfl rfl c_79
                refine lv_iload hx hb dX12_keeps_183 (lv_at hl 2 rfl) ?_
                refine lv_aload_n hx hb dX12_keeps_185 rfl (lv_at hl 3 rfl) ?_
                refine S_getR (n := 104) (C := RX12) (T := TX12) (N := 89) hx hb hg iX12 hown hK hW kd_66 rfl 70 (by decide) (hg (Cond.fieldLink RX12 133 "SlabWalkModel" "leapt" "[I") m1384) (fun _ h9 => h9) rfl dX12_keeps_186 ?_
                refine lv_iload hx hb dX12_keeps_189 (lv_at hl 0 rfl) ?_
                refine S_iald hx hb hK hW kd_104 (vin (by omega) (by omega)) dX12_keeps_191 (fun y_85 ey_85 => ?_)
                refine S_calli (va_runS (As := [.int x_47, .int y_85]) (rest := []) ⟨hx, hb, hml, hown, hts⟩ (n_lesser l D k A a z G_75 x_47 y_85 ) (va_cwS 2 hts (gd_S hgd m1863 m1864 m131 m1865) rfl rfl rfl (by decide +kernel) ⟨Nat.le_of_ble_eq_true rfl, Nat.le_of_ble_eq_true rfl⟩) (pre_S hW hB_G_75 hK hZ hS) rfl rfl hl.1 rfl (lv_room (Nat.le_of_ble_eq_true rfl)) dX12_keeps_192 ⟨Nat.le_of_ble_eq_true rfl, Nat.le_of_ble_eq_true rfl⟩) hS (fun r_86 G_87 H locs hpo hW hS => ?_)
                obtain ⟨hB_G_87, hq_88, hp_89⟩ := hpo
                have hF := hF.call hq_88 (by decide) (by decide)
                refine lv_istore (lv' := [(4, .int r_86), (6, .int x_46), (5, .int x_25), (0, .ref (a 66))]) hx hb dX12_keeps_195 hl (by decide) rfl (fun ls hl => ?_)
                refine lv_goto (tgt := 208) hx hb dX12_keeps_197 (by decide) ?_
                obtain ⟨y_90, ey_90⟩ : ∃ q, q = x_46 + 1 := ⟨_, rfl⟩
                have ty_90 : y_90.toInt = x_46.toInt + 1 := xI_add rfl rfl ey_90 (by omega) (by omega)
                refine lv_iinc (v := y_90) (lv' := [(6, .int y_90), (4, .int r_86), (5, .int x_25), (0, .ref (a 66))]) hx hb dX12_keeps_208 hl (k := 1) rfl (by rw [ey_90]; rfl) (by decide) rfl (fun ls hl => ?_)
                refine lv_goto (tgt := 148) hx hb dX12_keeps_211 (by decide) ?_
                exact ih_44 (800 - y_90.toInt : Int).toNat (by omega) _ _ _ ⟨G_87, y_90, r_86, (Int.toNat_of_nonneg (by omega)), ⟨by omega, by omega⟩, hW, hB_G_87, hF, (((Fr.rf.call hq_43 (by decide) (by decide)).call hq_76 (by decide) (by decide)).call hq_88 (by decide) (by decide)), hS, lv_sub hl [0, 2, 1, 3] rfl⟩
            · have c_66 : y_65.toInt = 100000 := xI_eq rfl rfl c_66
              refine lv_goto (tgt := 208) hx hb dX12_keeps_169 (by decide) ?_
              obtain ⟨y_91, ey_91⟩ : ∃ q, q = x_46 + 1 := ⟨_, rfl⟩
              have ty_91 : y_91.toInt = x_46.toInt + 1 := xI_add rfl rfl ey_91 (by omega) (by omega)
              refine lv_iinc (v := y_91) (lv' := [(6, .int y_91), (5, .int x_25), (4, .int x_47), (0, .ref (a 66))]) hx hb dX12_keeps_208 hl (k := 0) rfl (by rw [ey_91]; rfl) (by decide) rfl (fun ls hl => ?_)
              refine lv_goto (tgt := 148) hx hb dX12_keeps_211 (by decide) ?_
              exact ih_44 (800 - y_91.toInt : Int).toNat (by omega) _ _ _ ⟨G_42, y_91, x_47, (Int.toNat_of_nonneg (by omega)), ⟨by omega, by omega⟩, hW, hB_G_42, hF, (Fr.rf.call hq_43 (by decide) (by decide)), hS, lv_sub hl [0, 1, 2, 3] rfl⟩
        · have c_41 : x_37.toInt < 1024 := xI_nle rfl rfl c_41
          refine lv_aload_n hx hb dX12_keeps_129 rfl (lv_at hl 3 rfl) ?_
          refine S_getR (n := 105) (C := RX12) (T := TX12) (N := 89) hx hb hg iX12 hown hK hW kd_66 rfl 71 (by decide) (hg (Cond.fieldLink RX12 136 "SlabWalkModel" "leaptNext" "[I") m1385) (fun _ h9 => h9) rfl dX12_keeps_130 ?_
          refine lv_iload hx hb dX12_keeps_133 (lv_at hl 0 rfl) ?_
          refine lv_ldcw (v := 100000) hx hb hown (hg (Cond.constant RX12 502 100000) m1858) dX12_keeps_135 ?_
          refine S_iast hx hb hK hW hS kd_105 (vin (by omega) (by omega)) dX12_keeps_138 (fun G_92 H locs eG_92 hW hS => ?_)
          have hB_G_92 : Bd G_92 := hB_G_33.put (lo := (-2147483648)) (hi := 2147483647) eG_92 rfl rfl rfl (tI_rng _).1 (tI_rng _).2 (hB_G_33.2.put eG_92 rfl)
          have hF := hF.put eG_92 (Or.inl (by decide))
          obtain ⟨y_93, ey_93⟩ : ∃ q, q = x_37 + 1 := ⟨_, rfl⟩
          have ty_93 : y_93.toInt = x_37.toInt + 1 := xI_add rfl rfl ey_93 (by omega) (by omega)
          refine lv_iinc (v := y_93) (lv' := [(6, .int y_93), (5, .int x_25), (4, .int x_26), (0, .ref (a 66))]) hx hb dX12_keeps_139 hl (k := 0) rfl (by rw [ey_93]; rfl) (by decide) rfl (fun ls hl => ?_)
          refine lv_goto (tgt := 121) hx hb dX12_keeps_142 (by decide) ?_
          exact ih_35 (1024 - y_93.toInt : Int).toNat (by omega) _ _ _ ⟨G_92, y_93, (Int.toNat_of_nonneg (by omega)), ⟨by omega, by omega⟩, hW, hB_G_92, hF, ((Fr.rf.call hq_34 (by decide) (by decide)).put eG_92 (Or.inl (by decide))), hS, lv_sub hl [0, 1, 2, 3] rfl⟩
    · have c_20 : x_16.toInt < 1024 := xI_nle rfl rfl c_20
      refine lv_aload_n hx hb dX12_keeps_30 rfl (lv_at hl 1 rfl) ?_
      refine S_getR (n := 104) (C := RX12) (T := TX12) (N := 89) hx hb hg iX12 hown hK hW kd_66 rfl 70 (by decide) (hg (Cond.fieldLink RX12 133 "SlabWalkModel" "leapt" "[I") m1384) (fun _ h9 => h9) rfl dX12_keeps_31 ?_
      refine lv_iload hx hb dX12_keeps_34 (lv_at hl 0 rfl) ?_
      refine lv_iload hx hb dX12_keeps_36 (lv_at hl 0 rfl) ?_
      refine lv_iconst (v := 2) hx hb dX12_keeps_38 (by decide) ?_
      refine lv_irem hx hb dX12_keeps_39 (by decide) ?_
      refine lv_topi (fun y_94 ey_94 => ?_)
      have ty_94 : y_94.toInt = x_16.toInt % 2 := xI_mod rfl ey_94 (by decide) (by omega)
      refine lv_if_ne (tgt := 92) hx hb dX12_keeps_40 (by decide) (fun c_95 => ?_) (fun c_95 => ?_)
      · have c_95 : y_94.toInt ≠ 0 := xI_ne rfl rfl c_95
        refine lv_ldcw (v := 100000) hx hb hown (hg (Cond.constant RX12 502 100000) m1858) dX12_keeps_92 ?_
        refine S_iast hx hb hK hW hS kd_104 (vin (by omega) (by omega)) dX12_keeps_95 (fun G_96 H locs eG_96 hW hS => ?_)
        have hB_G_96 : Bd G_96 := hB_G_12.put (lo := (-2147483648)) (hi := 2147483647) eG_96 rfl rfl rfl (tI_rng _).1 (tI_rng _).2 (hB_G_12.2.put eG_96 rfl)
        have hF := hF.put eG_96 (Or.inl (by decide))
        obtain ⟨y_97, ey_97⟩ : ∃ q, q = x_16 + 1 := ⟨_, rfl⟩
        have ty_97 : y_97.toInt = x_16.toInt + 1 := xI_add rfl rfl ey_97 (by omega) (by omega)
        refine lv_iinc (v := y_97) (lv' := [(4, .int y_97), (0, .ref (a 66))]) hx hb dX12_keeps_96 hl (k := 0) rfl (by rw [ey_97]; rfl) (by decide) rfl (fun ls hl => ?_)
        refine lv_goto (tgt := 22) hx hb dX12_keeps_99 (by decide) ?_
        exact ih_14 (1024 - y_97.toInt : Int).toNat (by omega) _ _ _ ⟨G_96, y_97, (Int.toNat_of_nonneg (by omega)), ⟨by omega, by omega⟩, hW, hB_G_96, hF, ((Fr.rf.call hq_13 (by decide) (by decide)).put eG_96 (Or.inl (by decide))), hS, lv_sub hl [0, 1] rfl⟩
      · have c_95 : y_94.toInt = 0 := xI_eq rfl rfl c_95
        refine lv_iload hx hb dX12_keeps_43 (lv_at hl 0 rfl) ?_
        refine lv_iconst (v := 2) hx hb dX12_keeps_45 (by decide) ?_
        refine lv_idiv hx hb dX12_keeps_46 (by decide) ?_
        refine lv_topi (fun y_98 ey_98 => ?_)
        have ty_98 : y_98.toInt = x_16.toInt / 2 := xI_div rfl ey_98 (by decide) (by omega)
        refine lv_aload_n hx hb dX12_keeps_47 rfl (lv_at hl 1 rfl) ?_
        have b_99 : 0 ≤ (G_9.1 66 62).toInt ∧ (G_9.1 66 62).toInt ≤ 60 := hB_G_9.i 66 62 rfl rfl
        refine S_getI (v := (G_9.1 66 62)) (C := RX12) (T := TX12) (N := 89) hx hb hg iX12 hown hK hW kd_66 rfl 62 (by decide) (hg (Cond.fieldLink RX12 478 "SlabWalkModel" "most" "I") m1376) (fun _ h9 => h9) rfl (hq_13.i 66 62 (by decide) (by decide)) dX12_keeps_48 ?_
        refine lv_icmp_ge (tgt := 92) hx hb dX12_keeps_51 (by decide) (fun c_100 => ?_) (fun c_100 => ?_)
        · have c_100 : (G_9.1 66 62).toInt ≤ y_98.toInt := xI_le rfl rfl c_100
          refine lv_ldcw (v := 100000) hx hb hown (hg (Cond.constant RX12 502 100000) m1858) dX12_keeps_92 ?_
          refine S_iast hx hb hK hW hS kd_104 (vin (by omega) (by omega)) dX12_keeps_95 (fun G_101 H locs eG_101 hW hS => ?_)
          have hB_G_101 : Bd G_101 := hB_G_12.put (lo := (-2147483648)) (hi := 2147483647) eG_101 rfl rfl rfl (tI_rng _).1 (tI_rng _).2 (hB_G_12.2.put eG_101 rfl)
          have hF := hF.put eG_101 (Or.inl (by decide))
          obtain ⟨y_102, ey_102⟩ : ∃ q, q = x_16 + 1 := ⟨_, rfl⟩
          have ty_102 : y_102.toInt = x_16.toInt + 1 := xI_add rfl rfl ey_102 (by omega) (by omega)
          refine lv_iinc (v := y_102) (lv' := [(4, .int y_102), (0, .ref (a 66))]) hx hb dX12_keeps_96 hl (k := 0) rfl (by rw [ey_102]; rfl) (by decide) rfl (fun ls hl => ?_)
          refine lv_goto (tgt := 22) hx hb dX12_keeps_99 (by decide) ?_
          exact ih_14 (1024 - y_102.toInt : Int).toNat (by omega) _ _ _ ⟨G_101, y_102, (Int.toNat_of_nonneg (by omega)), ⟨by omega, by omega⟩, hW, hB_G_101, hF, ((Fr.rf.call hq_13 (by decide) (by decide)).put eG_101 (Or.inl (by decide))), hS, lv_sub hl [0, 1] rfl⟩
        · have c_100 : y_98.toInt < (G_9.1 66 62).toInt := xI_nle rfl rfl c_100
          refine lv_iload hx hb dX12_keeps_54 (lv_at hl 0 rfl) ?_
          refine lv_iconst (v := 2) hx hb dX12_keeps_56 (by decide) ?_
          refine lv_idiv hx hb dX12_keeps_57 (by decide) ?_
          refine lv_topi (fun y_103 ey_103 => ?_)
          have ty_103 : y_103.toInt = x_16.toInt / 2 := xI_div rfl ey_103 (by decide) (by omega)
          refine lv_sipush (v := 400) hx hb dX12_keeps_58 (by decide) ?_
          refine lv_icmp_ge (tgt := 92) hx hb dX12_keeps_61 (by decide) (fun c_104 => ?_) (fun c_104 => ?_)
          · have c_104 : 400 ≤ y_103.toInt := xI_le rfl rfl c_104
            refine lv_ldcw (v := 100000) hx hb hown (hg (Cond.constant RX12 502 100000) m1858) dX12_keeps_92 ?_
            refine S_iast hx hb hK hW hS kd_104 (vin (by omega) (by omega)) dX12_keeps_95 (fun G_105 H locs eG_105 hW hS => ?_)
            have hB_G_105 : Bd G_105 := hB_G_12.put (lo := (-2147483648)) (hi := 2147483647) eG_105 rfl rfl rfl (tI_rng _).1 (tI_rng _).2 (hB_G_12.2.put eG_105 rfl)
            have hF := hF.put eG_105 (Or.inl (by decide))
            obtain ⟨y_106, ey_106⟩ : ∃ q, q = x_16 + 1 := ⟨_, rfl⟩
            have ty_106 : y_106.toInt = x_16.toInt + 1 := xI_add rfl rfl ey_106 (by omega) (by omega)
            refine lv_iinc (v := y_106) (lv' := [(4, .int y_106), (0, .ref (a 66))]) hx hb dX12_keeps_96 hl (k := 0) rfl (by rw [ey_106]; rfl) (by decide) rfl (fun ls hl => ?_)
            refine lv_goto (tgt := 22) hx hb dX12_keeps_99 (by decide) ?_
            exact ih_14 (1024 - y_106.toInt : Int).toNat (by omega) _ _ _ ⟨G_105, y_106, (Int.toNat_of_nonneg (by omega)), ⟨by omega, by omega⟩, hW, hB_G_105, hF, ((Fr.rf.call hq_13 (by decide) (by decide)).put eG_105 (Or.inl (by decide))), hS, lv_sub hl [0, 1] rfl⟩
          · have c_104 : y_103.toInt < 400 := xI_nle rfl rfl c_104
            refine lv_aload_n hx hb dX12_keeps_64 rfl (lv_at hl 1 rfl) ?_
            refine S_getR (n := 98) (C := RX12) (T := TX12) (N := 89) hx hb hg iX12 hown hK hW kd_66 rfl 58 (by decide) (hg (Cond.fieldLink RX12 115 "SlabWalkModel" "lawful" "[Z") m1372) (fun _ h9 => h9) rfl dX12_keeps_65 ?_
            refine lv_iload hx hb dX12_keeps_68 (lv_at hl 0 rfl) ?_
            refine lv_iconst (v := 2) hx hb dX12_keeps_70 (by decide) ?_
            refine lv_idiv hx hb dX12_keeps_71 (by decide) ?_
            refine lv_topi (fun y_107 ey_107 => ?_)
            have ty_107 : y_107.toInt = x_16.toInt / 2 := xI_div rfl ey_107 (by decide) (by omega)
            refine S_zald hx hb hK hW kd_98 (vin (by omega) (by omega)) dX12_keeps_72 (fun y_108 ey_108 => ?_)
            have ty_108 := hB_G_12.law ey_108
            refine lv_if_eq (tgt := 92) hx hb dX12_keeps_73 (by decide) (fun c_109 => ?_) (fun c_109 => ?_)
            · have c_109 : y_108.toInt = 0 := xI_eq rfl rfl c_109
              refine lv_ldcw (v := 100000) hx hb hown (hg (Cond.constant RX12 502 100000) m1858) dX12_keeps_92 ?_
              refine S_iast hx hb hK hW hS kd_104 (vin (by omega) (by omega)) dX12_keeps_95 (fun G_110 H locs eG_110 hW hS => ?_)
              have hB_G_110 : Bd G_110 := hB_G_12.put (lo := (-2147483648)) (hi := 2147483647) eG_110 rfl rfl rfl (tI_rng _).1 (tI_rng _).2 (hB_G_12.2.put eG_110 rfl)
              have hF := hF.put eG_110 (Or.inl (by decide))
              obtain ⟨y_111, ey_111⟩ : ∃ q, q = x_16 + 1 := ⟨_, rfl⟩
              have ty_111 : y_111.toInt = x_16.toInt + 1 := xI_add rfl rfl ey_111 (by omega) (by omega)
              refine lv_iinc (v := y_111) (lv' := [(4, .int y_111), (0, .ref (a 66))]) hx hb dX12_keeps_96 hl (k := 0) rfl (by rw [ey_111]; rfl) (by decide) rfl (fun ls hl => ?_)
              refine lv_goto (tgt := 22) hx hb dX12_keeps_99 (by decide) ?_
              exact ih_14 (1024 - y_111.toInt : Int).toNat (by omega) _ _ _ ⟨G_110, y_111, (Int.toNat_of_nonneg (by omega)), ⟨by omega, by omega⟩, hW, hB_G_110, hF, ((Fr.rf.call hq_13 (by decide) (by decide)).put eG_110 (Or.inl (by decide))), hS, lv_sub hl [0, 1] rfl⟩
            · have c_109 : y_108.toInt ≠ 0 := xI_ne rfl rfl c_109
              refine lv_aload_n hx hb dX12_keeps_76 rfl (lv_at hl 1 rfl) ?_
              refine lv_iload hx hb dX12_keeps_77 (lv_at hl 0 rfl) ?_
              refine lv_iconst (v := 2) hx hb dX12_keeps_79 (by decide) ?_
              refine lv_idiv hx hb dX12_keeps_80 (by decide) ?_
              refine lv_topi (fun y_112 ey_112 => ?_)
              have ty_112 : y_112.toInt = x_16.toInt / 2 := xI_div rfl ey_112 (by decide) (by omega)
              refine lv_iconst (v := 0) hx hb dX12_keeps_81 (by decide) ?_
              refine S_calli (va_runV (As := [.int y_112, .int 0]) (rest := [.int x_16, .ref (a 104)]) ⟨hx, hb, hml, hown, hts⟩ (n_isHeld l D k A a z G_12 y_112 0 ⟨by omega, by omega⟩ ⟨by decide, by decide⟩) (cwV 2 hts (gd_V hgd m1931 m1933 m101 m131 m1934) rfl rfl rfl (by decide +kernel) ⟨Nat.le_of_ble_eq_true rfl, Nat.le_of_ble_eq_true rfl⟩) (pre_V hW hB_G_12 hK hZ hS kd_66 rfl) rfl rfl hl.1 rfl (lv_room (Nat.le_of_ble_eq_true rfl)) dX12_keeps_82 ⟨Nat.le_of_ble_eq_true rfl, Nat.le_of_ble_eq_true rfl⟩) hS (fun r_113 G_114 H locs hpo hW hS => ?_)
              obtain ⟨hB_G_114, hq_115, f_117⟩ := hpo
              have hF := hF.call hq_115 (by decide) (by decide)
              refine lv_if_eq (tgt := 92) hx hb dX12_keeps_85 (by decide) (fun c_118 => ?_) (fun c_118 => ?_)
              · have c_118 : r_113.toInt = 0 := xI_eq rfl rfl c_118
                refine lv_ldcw (v := 100000) hx hb hown (hg (Cond.constant RX12 502 100000) m1858) dX12_keeps_92 ?_
                refine S_iast hx hb hK hW hS kd_104 (vin (by omega) (by omega)) dX12_keeps_95 (fun G_119 H locs eG_119 hW hS => ?_)
                have hB_G_119 : Bd G_119 := hB_G_114.put (lo := (-2147483648)) (hi := 2147483647) eG_119 rfl rfl rfl (tI_rng _).1 (tI_rng _).2 (hB_G_114.2.put eG_119 rfl)
                have hF := hF.put eG_119 (Or.inl (by decide))
                obtain ⟨y_120, ey_120⟩ : ∃ q, q = x_16 + 1 := ⟨_, rfl⟩
                have ty_120 : y_120.toInt = x_16.toInt + 1 := xI_add rfl rfl ey_120 (by omega) (by omega)
                refine lv_iinc (v := y_120) (lv' := [(4, .int y_120), (0, .ref (a 66))]) hx hb dX12_keeps_96 hl (k := 0) rfl (by rw [ey_120]; rfl) (by decide) rfl (fun ls hl => ?_)
                refine lv_goto (tgt := 22) hx hb dX12_keeps_99 (by decide) ?_
                exact ih_14 (1024 - y_120.toInt : Int).toNat (by omega) _ _ _ ⟨G_119, y_120, (Int.toNat_of_nonneg (by omega)), ⟨by omega, by omega⟩, hW, hB_G_119, hF, (((Fr.rf.call hq_13 (by decide) (by decide)).call hq_115 (by decide) (by decide)).put eG_119 (Or.inl (by decide))), hS, lv_sub hl [0, 1] rfl⟩
              · have c_118 : r_113.toInt ≠ 0 := xI_ne rfl rfl c_118
                refine lv_iconst (v := 0) hx hb dX12_keeps_88 (by decide) ?_
                refine lv_goto (tgt := 95) hx hb dX12_keeps_89 (by decide) ?_
                refine S_iast hx hb hK hW hS kd_104 (vin (by omega) (by omega)) dX12_keeps_95 (fun G_121 H locs eG_121 hW hS => ?_)
                have hB_G_121 : Bd G_121 := hB_G_114.put (lo := (-2147483648)) (hi := 2147483647) eG_121 rfl rfl rfl (tI_rng _).1 (tI_rng _).2 (hB_G_114.2.put eG_121 rfl)
                have hF := hF.put eG_121 (Or.inl (by decide))
                obtain ⟨y_122, ey_122⟩ : ∃ q, q = x_16 + 1 := ⟨_, rfl⟩
                have ty_122 : y_122.toInt = x_16.toInt + 1 := xI_add rfl rfl ey_122 (by omega) (by omega)
                refine lv_iinc (v := y_122) (lv' := [(4, .int y_122), (0, .ref (a 66))]) hx hb dX12_keeps_96 hl (k := 0) rfl (by rw [ey_122]; rfl) (by decide) rfl (fun ls hl => ?_)
                refine lv_goto (tgt := 22) hx hb dX12_keeps_99 (by decide) ?_
                exact ih_14 (1024 - y_122.toInt : Int).toNat (by omega) _ _ _ ⟨G_121, y_122, (Int.toNat_of_nonneg (by omega)), ⟨by omega, by omega⟩, hW, hB_G_121, hF, (((Fr.rf.call hq_13 (by decide) (by decide)).call hq_115 (by decide) (by decide)).put eG_121 (Or.inl (by decide))), hS, lv_sub hl [0, 1] rfl⟩
  · have c_6 : r_1.toInt = 0 := xI_eq rfl rfl c_6
    refine lv_iconst (v := (-1)) hx hb dX12_keeps_10 (by decide) ?_
    exact W.iret (v := (-1)) hx hb hr (fun t ht _ => ⟨⟨(-1), G_2, rfl, ⟨hB_G_2, hF⟩, wd_t ht hW⟩, hS.F ht⟩) hS.2.2 dX12_keeps_11

set_option maxHeartbeats 4000000 in
set_option maxRecDepth 100000 in
theorem n_walk (l : Launch) (D : va_G) (k : KT) (A : Nat → Prop) (a : Nat → Nat) (z : SK) (G : GS) (p0 : Int32) (p1 : Int32) (p2 : Int32) (hP9 : gP G = 1) (hac : (G.1 66 78).toInt + (G.1 66 79).toInt ≤ 40) : Met l yX12_walk (WS yX12_walk cX12_walk 4 (some .int)) ({ frames := 5, cells := 0, slots := 0, locals := 117 }) (va_Pc [.ref (a 66), .int p0, .int p1, .int p2] (cW D k A a z G)) (va_Qi (fun (r : Int32) (G1 : GS) => Bd G1 ∧ Fr [110, 111, 76, 97, 98] [(66, 59), (66, 60), (66, 61), (66, 62), (66, 63), (66, 78), (66, 79)] G G1 ∧ ((G1.1 66 78).toInt + (G1.1 66 79).toInt ≤ 40)) (fun (G1 : GS) t => Wd D k A a G1 t.heap) A) 0 0 A := by
  refine Met.ofW (cc := cX12_walk) (maxL := 4) (ret := (some .int)) (by decide) rfl ?_
  intro p e s m args below meth c s₁ B hml hv
  obtain ⟨rfl, hW, hB_G, hK, hZ⟩ := hv
  have hx := B.exec
  have hb := B.bytes
  have hr := B.returns
  have hts := atoms_spec (ws := WS yX12_walk cX12_walk 4 (some .int)) B.pre
  have hgd : ∀ w ∈ gd, w ∈ WS yX12_walk cX12_walk 4 (some .int) := fun w h => List.mem_cons_of_mem _ h
  have hg : ∀ w ∈ gd, w.before _ s = true := fun w h => hts w (hgd w h)
  have hown : s.vm.findClass RX12 = some m.cls := findClass_of_methodNamed B.named
  have hS : va_S A s.heap s.heap [] := va_S.rf
  have hF : Fr [110, 111, 76, 97, 98] [(66, 59), (66, 60), (66, 61), (66, 62), (66, 63), (66, 78), (66, 79)] G G := Fr.rf
  have hl := lv_entry ([.ref (a 66), .int p0, .int p1, .int p2]) (n := 4) (Nat.le_of_ble_eq_true rfl)
  rw [lg_entry_eq]
  generalize (lg_sl ([.ref (a 66), .int p0, .int p1, .int p2]) ++ List.replicate (4 - (lg_sl ([.ref (a 66), .int p0, .int p1, .int p2])).length) Slot.unset).toArray = ls at hl ⊢
  have hl : lv_has ls 4 [(0, .ref (a 66)), (1, .int p0), (2, .int p1), (3, .int p2)] := hl
  refine lv_aload_n hx hb dX12_walk_0 rfl (lv_at hl 0 rfl) ?_
  refine lv_iload_n hx hb dX12_walk_1 rfl (lv_at hl 1 rfl) ?_
  refine S_calli (va_runV (As := [.int p0]) (rest := []) ⟨hx, hb, hml, hown, hts⟩ (n_isWalker l D k A a z G p0 ) (cwV 1 hts (gd_V hgd m1830 m1832 m90 m131 m1833) rfl rfl rfl (by decide +kernel) ⟨Nat.le_of_ble_eq_true rfl, Nat.le_of_ble_eq_true rfl⟩) (pre_V hW hB_G hK hZ hS kd_66 rfl) rfl rfl hl.1 rfl (lv_room (Nat.le_of_ble_eq_true rfl)) dX12_walk_2 ⟨Nat.le_of_ble_eq_true rfl, Nat.le_of_ble_eq_true rfl⟩) hS (fun r_1 G_2 H locs hpo hW hS => ?_)
  obtain ⟨hB_G_2, hq_3, f_5, hp_4⟩ := hpo
  have hF := hF.call hq_3 (by decide) (by decide)
  refine lv_if_eq (tgt := 32) hx hb dX12_walk_5 (by decide) (fun c_6 => ?_) (fun c_6 => ?_)
  · have c_6 : r_1.toInt = 0 := xI_eq rfl rfl c_6
    refine lv_iconst (v := (-1)) hx hb dX12_walk_32 (by decide) ?_
    have b_7 : 0 ≤ (G.1 66 78).toInt ∧ (G.1 66 78).toInt ≤ 40 := hB_G.i 66 78 rfl rfl
    have g_8 : (G_2.1 66 78).toInt = (G.1 66 78).toInt := by rw [show G_2.1 66 78 = (G.1 66 78) from (hq_3.i 66 78 (by decide) (by decide))]
    have b_9 : 0 ≤ (G.1 66 79).toInt ∧ (G.1 66 79).toInt ≤ 40 := hB_G.i 66 79 rfl rfl
    have g_10 : (G_2.1 66 79).toInt = (G.1 66 79).toInt := by rw [show G_2.1 66 79 = (G.1 66 79) from (hq_3.i 66 79 (by decide) (by decide))]
    exact W.iret (v := (-1)) hx hb hr (fun t ht _ => ⟨⟨(-1), G_2, rfl, ⟨hB_G_2, hF, (by have hq : ((-1) : Int32).toInt = (-1) := rfl; (try dsimp only); omega)⟩, wd_t ht hW⟩, hS.F ht⟩) hS.2.2 dX12_walk_33
  · have c_6 : r_1.toInt ≠ 0 := xI_ne rfl rfl c_6
    refine lv_aload_n hx hb dX12_walk_8 rfl (lv_at hl 0 rfl) ?_
    refine lv_iload_n hx hb dX12_walk_9 rfl (lv_at hl 2 rfl) ?_
    have b_11 : 0 ≤ (G.1 66 52).toInt ∧ (G.1 66 52).toInt ≤ 3 := hB_G.i 66 52 rfl rfl
    have g_12 : (G_2.1 66 52).toInt = (G.1 66 52).toInt := by rw [show G_2.1 66 52 = (G.1 66 52) from (hq_3.i 66 52 (by decide) (by decide))]
    refine S_calli (va_runV (As := [.int p1]) (rest := []) ⟨hx, hb, hml, hown, hts⟩ (n_isStreet l D k A a z G_2 p1 ) (cwV 1 hts (gd_V hgd m1777 m1779 m83 m131 m1780) rfl rfl rfl (by decide +kernel) ⟨Nat.le_of_ble_eq_true rfl, Nat.le_of_ble_eq_true rfl⟩) (pre_V hW hB_G_2 hK hZ hS kd_66 rfl) rfl rfl hl.1 rfl (lv_room (Nat.le_of_ble_eq_true rfl)) dX12_walk_10 ⟨Nat.le_of_ble_eq_true rfl, Nat.le_of_ble_eq_true rfl⟩) hS (fun r_13 G_14 H locs hpo hW hS => ?_)
    obtain ⟨hB_G_14, hq_15, f_17, hp_16⟩ := hpo
    have hF := hF.call hq_15 (by decide) (by decide)
    refine lv_if_eq (tgt := 32) hx hb dX12_walk_13 (by decide) (fun c_18 => ?_) (fun c_18 => ?_)
    · have c_18 : r_13.toInt = 0 := xI_eq rfl rfl c_18
      refine lv_iconst (v := (-1)) hx hb dX12_walk_32 (by decide) ?_
      have b_19 : 0 ≤ (G.1 66 78).toInt ∧ (G.1 66 78).toInt ≤ 40 := hB_G.i 66 78 rfl rfl
      have g_20 : (G_14.1 66 78).toInt = (G.1 66 78).toInt := by rw [show G_14.1 66 78 = (G.1 66 78) from ((hq_15.i 66 78 (by decide) (by decide)).trans (hq_3.i 66 78 (by decide) (by decide)))]
      have b_21 : 0 ≤ (G.1 66 79).toInt ∧ (G.1 66 79).toInt ≤ 40 := hB_G.i 66 79 rfl rfl
      have g_22 : (G_14.1 66 79).toInt = (G.1 66 79).toInt := by rw [show G_14.1 66 79 = (G.1 66 79) from ((hq_15.i 66 79 (by decide) (by decide)).trans (hq_3.i 66 79 (by decide) (by decide)))]
      exact W.iret (v := (-1)) hx hb hr (fun t ht _ => ⟨⟨(-1), G_14, rfl, ⟨hB_G_14, hF, (by have hq : ((-1) : Int32).toInt = (-1) := rfl; (try dsimp only); omega)⟩, wd_t ht hW⟩, hS.F ht⟩) hS.2.2 dX12_walk_33
    · have c_18 : r_13.toInt ≠ 0 := xI_ne rfl rfl c_18
      refine lv_iload_n hx hb dX12_walk_16 rfl (lv_at hl 3 rfl) ?_
      refine lv_iconst (v := 0) hx hb dX12_walk_17 (by decide) ?_
      refine lv_aload_n hx hb dX12_walk_18 rfl (lv_at hl 0 rfl) ?_
      refine S_getR (n := 94) (C := RX12) (T := TX12) (N := 89) hx hb hg iX12 hown hK hW kd_66 rfl 42 (by decide) (hg (Cond.fieldLink RX12 96 "SlabWalkModel" "mosts" "[I") m1356) (fun _ h9 => h9) rfl dX12_walk_19 ?_
      refine lv_iload_n hx hb dX12_walk_22 rfl (lv_at hl 1 rfl) ?_
      refine S_iald hx hb hK hW kd_94 (vin (by omega) (by omega)) dX12_walk_23 (fun y_23 ey_23 => ?_)
      have ty_23 : 0 ≤ y_23.toInt ∧ y_23.toInt ≤ 60 := hB_G_14.v ey_23 rfl rfl
      refine lv_iconst (v := 1) hx hb dX12_walk_24 (by decide) ?_
      refine lv_isub hx hb dX12_walk_25 ?_
      refine lv_topi (fun y_24 ey_24 => ?_)
      have ty_24 : y_24.toInt = y_23.toInt - 1 := xI_sub rfl rfl ey_24 (by omega) (by omega)
      have qc_25 : (0 : Int32).toInt = 0 := rfl
      refine S_calli (va_runS (As := [.int p2, .int 0, .int y_24]) (rest := []) ⟨hx, hb, hml, hown, hts⟩ (n_isIn l D k A a z G_14 p2 0 y_24 ) (va_cwS 3 hts (gd_S hgd m1781 m1782 m131 m1783) rfl rfl rfl (by decide +kernel) ⟨Nat.le_of_ble_eq_true rfl, Nat.le_of_ble_eq_true rfl⟩) (pre_S hW hB_G_14 hK hZ hS) rfl rfl hl.1 rfl (lv_room (Nat.le_of_ble_eq_true rfl)) dX12_walk_26 ⟨Nat.le_of_ble_eq_true rfl, Nat.le_of_ble_eq_true rfl⟩) hS (fun r_26 G_27 H locs hpo hW hS => ?_)
      obtain ⟨hB_G_27, hq_28, f_30, hp_29⟩ := hpo
      have hF := hF.call hq_28 (by decide) (by decide)
      refine lv_if_ne (tgt := 34) hx hb dX12_walk_29 (by decide) (fun c_31 => ?_) (fun c_31 => ?_)
      · have c_31 : r_26.toInt ≠ 0 := xI_ne rfl rfl c_31
        refine lv_aload_n hx hb dX12_walk_34 rfl (lv_at hl 0 rfl) ?_
        refine lv_iload_n hx hb dX12_walk_35 rfl (lv_at hl 1 rfl) ?_
        refine lv_iload_n hx hb dX12_walk_36 rfl (lv_at hl 2 rfl) ?_
        refine lv_aload_n hx hb dX12_walk_37 rfl (lv_at hl 0 rfl) ?_
        refine S_getR (n := 110) (C := RX12) (T := TX12) (N := 89) hx hb hg iX12 hown hK hW kd_66 rfl 76 (by decide) (hg (Cond.fieldLink RX12 151 "SlabWalkModel" "now" "[I") m1390) (fun _ h9 => h9) rfl dX12_walk_38 ?_
        refine lv_bipush (v := 8) hx hb dX12_walk_41 (by decide) ?_
        refine S_iald hx hb hK hW kd_110 (vin (by decide) (by decide)) dX12_walk_43 (fun y_32 ey_32 => ?_)
        have g_33 : gP G_27 = gP G := gP_fr (rs := []) (fs := []) (((Fr.rf.call hq_3 (by decide) (by decide)).call hq_15 (by decide) (by decide)).call hq_28 (by decide) (by decide)) (by decide) (by decide)
        refine S_callv (va_runV (As := [.int p0, .int p1, .int y_32]) (rest := []) ⟨hx, hb, hml, hown, hts⟩ (n_layStreet l D k A a z G_27 p0 p1 y_32 ⟨by omega, by omega⟩ ⟨by omega, by omega⟩ (by omega)) (cwV 3 hts (gd_V hgd m1834 m1836 m91 m131 m1837) rfl rfl rfl (by decide +kernel) ⟨Nat.le_of_ble_eq_true rfl, Nat.le_of_ble_eq_true rfl⟩) (pre_V hW hB_G_27 hK hZ hS kd_66 rfl) rfl rfl hl.1 rfl (lv_room (Nat.le_of_ble_eq_true rfl)) dX12_walk_44 ⟨Nat.le_of_ble_eq_true rfl, Nat.le_of_ble_eq_true rfl⟩) hS (fun G_35 H locs hpo hW hS => ?_)
        obtain ⟨hB_G_35, hq_36, hp_37⟩ := hpo
        have hF := hF.call hq_36 (by decide) (by decide)
        refine lv_aload_n hx hb dX12_walk_47 rfl (lv_at hl 0 rfl) ?_
        refine lv_iload_n hx hb dX12_walk_48 rfl (lv_at hl 3 rfl) ?_
        have b_38 : 0 ≤ (G_35.1 66 59).toInt ∧ (G_35.1 66 59).toInt ≤ 400 := hB_G_35.i 66 59 rfl rfl
        have b_39 : 0 ≤ (G_35.1 66 60).toInt ∧ (G_35.1 66 60).toInt ≤ 12 := hB_G_35.i 66 60 rfl rfl
        refine S_calli (va_runV (As := [.int p2]) (rest := []) ⟨hx, hb, hml, hown, hts⟩ (n_stands1 l D k A a z G_35 p2 ) (cwV 1 hts (gd_V hgd m1838 m1840 m92 m131 m1841) rfl rfl rfl (by decide +kernel) ⟨Nat.le_of_ble_eq_true rfl, Nat.le_of_ble_eq_true rfl⟩) (pre_V hW hB_G_35 hK hZ hS kd_66 rfl) rfl rfl hl.1 rfl (lv_room (Nat.le_of_ble_eq_true rfl)) dX12_walk_49 ⟨Nat.le_of_ble_eq_true rfl, Nat.le_of_ble_eq_true rfl⟩) hS (fun r_40 G_41 H locs hpo hW hS => ?_)
        obtain ⟨hB_G_41, hq_42, f_44, hp_43⟩ := hpo
        have hF := hF.call hq_42 (by decide) (by decide)
        refine lv_if_ne (tgt := 57) hx hb dX12_walk_52 (by decide) (fun c_45 => ?_) (fun c_45 => ?_)
        · have c_45 : r_40.toInt ≠ 0 := xI_ne rfl rfl c_45
          refine lv_aload_n hx hb dX12_walk_57 rfl (lv_at hl 0 rfl) ?_
          refine S_callv (va_runV (As := []) (rest := []) ⟨hx, hb, hml, hown, hts⟩ (n_act l D k A a z G_41  ) (cwV 0 hts (gd_V hgd m1991 m1993 m111 m131 m1994) rfl rfl rfl (by decide +kernel) ⟨Nat.le_of_ble_eq_true rfl, Nat.le_of_ble_eq_true rfl⟩) (pre_V hW hB_G_41 hK hZ hS kd_66 rfl) rfl rfl hl.1 rfl (lv_room (Nat.le_of_ble_eq_true rfl)) dX12_walk_58 ⟨Nat.le_of_ble_eq_true rfl, Nat.le_of_ble_eq_true rfl⟩) hS (fun G_47 H locs hpo hW hS => ?_)
          obtain ⟨hB_G_47, hq_48, hp_49⟩ := hpo
          have hF := hF.call hq_48 (by decide) (by decide)
          refine lv_aload_n hx hb dX12_walk_61 rfl (lv_at hl 0 rfl) ?_
          refine S_getR (n := 110) (C := RX12) (T := TX12) (N := 89) hx hb hg iX12 hown hK hW kd_66 rfl 76 (by decide) (hg (Cond.fieldLink RX12 151 "SlabWalkModel" "now" "[I") m1390) (fun _ h9 => h9) rfl dX12_walk_62 ?_
          refine lv_iconst (v := 0) hx hb dX12_walk_65 (by decide) ?_
          refine lv_iload_n hx hb dX12_walk_66 rfl (lv_at hl 1 rfl) ?_
          refine S_iast hx hb hK hW hS kd_110 (vin (by decide) (by decide)) dX12_walk_67 (fun G_50 H locs eG_50 hW hS => ?_)
          have qc_51 : (0 : Int32).toInt = 0 := rfl
          have hB_G_50 : Bd G_50 := hB_G_47.putNow 110 (by decide) eG_50 (by omega) (by omega) (by omega) rfl
          have hF := hF.put eG_50 (Or.inl (by decide))
          refine lv_aload_n hx hb dX12_walk_68 rfl (lv_at hl 0 rfl) ?_
          refine S_getR (n := 110) (C := RX12) (T := TX12) (N := 89) hx hb hg iX12 hown hK hW kd_66 rfl 76 (by decide) (hg (Cond.fieldLink RX12 151 "SlabWalkModel" "now" "[I") m1390) (fun _ h9 => h9) rfl dX12_walk_69 ?_
          refine lv_iconst (v := 1) hx hb dX12_walk_72 (by decide) ?_
          refine lv_iload_n hx hb dX12_walk_73 rfl (lv_at hl 2 rfl) ?_
          refine S_iast hx hb hK hW hS kd_110 (vin (by decide) (by decide)) dX12_walk_74 (fun G_52 H locs eG_52 hW hS => ?_)
          have qc_53 : (1 : Int32).toInt = 1 := rfl
          have hB_G_52 : Bd G_52 := hB_G_50.putNow 110 (by decide) eG_52 (by omega) (by omega) (by omega) rfl
          have hF := hF.put eG_52 (Or.inl (by decide))
          refine lv_aload_n hx hb dX12_walk_75 rfl (lv_at hl 0 rfl) ?_
          refine S_getR (n := 110) (C := RX12) (T := TX12) (N := 89) hx hb hg iX12 hown hK hW kd_66 rfl 76 (by decide) (hg (Cond.fieldLink RX12 151 "SlabWalkModel" "now" "[I") m1390) (fun _ h9 => h9) rfl dX12_walk_76 ?_
          refine lv_iconst (v := 2) hx hb dX12_walk_79 (by decide) ?_
          refine lv_iload_n hx hb dX12_walk_80 rfl (lv_at hl 3 rfl) ?_
          refine S_iast hx hb hK hW hS kd_110 (vin (by decide) (by decide)) dX12_walk_81 (fun G_54 H locs eG_54 hW hS => ?_)
          have qc_55 : (2 : Int32).toInt = 2 := rfl
          have hB_G_54 : Bd G_54 := hB_G_52.putNow 110 (by decide) eG_54 (by omega) (by omega) (by omega) rfl
          have hF := hF.put eG_54 (Or.inl (by decide))
          refine lv_aload_n hx hb dX12_walk_82 rfl (lv_at hl 0 rfl) ?_
          refine S_getR (n := 110) (C := RX12) (T := TX12) (N := 89) hx hb hg iX12 hown hK hW kd_66 rfl 76 (by decide) (hg (Cond.fieldLink RX12 151 "SlabWalkModel" "now" "[I") m1390) (fun _ h9 => h9) rfl dX12_walk_83 ?_
          refine lv_iconst (v := 3) hx hb dX12_walk_86 (by decide) ?_
          refine lv_iconst (v := 1) hx hb dX12_walk_87 (by decide) ?_
          refine S_iast hx hb hK hW hS kd_110 (vin (by decide) (by decide)) dX12_walk_88 (fun G_56 H locs eG_56 hW hS => ?_)
          have qc_57 : (1 : Int32).toInt = 1 := rfl
          have qc_58 : (3 : Int32).toInt = 3 := rfl
          have hB_G_56 : Bd G_56 := hB_G_54.putNow 110 (by decide) eG_56 (by omega) (by omega) (by omega) rfl
          have hF := hF.put eG_56 (Or.inl (by decide))
          refine lv_aload_n hx hb dX12_walk_89 rfl (lv_at hl 0 rfl) ?_
          refine S_getR (n := 110) (C := RX12) (T := TX12) (N := 89) hx hb hg iX12 hown hK hW kd_66 rfl 76 (by decide) (hg (Cond.fieldLink RX12 151 "SlabWalkModel" "now" "[I") m1390) (fun _ h9 => h9) rfl dX12_walk_90 ?_
          refine lv_iconst (v := 4) hx hb dX12_walk_93 (by decide) ?_
          refine lv_aload_n hx hb dX12_walk_94 rfl (lv_at hl 0 rfl) ?_
          refine lv_iload_n hx hb dX12_walk_95 rfl (lv_at hl 3 rfl) ?_
          refine S_calli (va_runV (As := [.int p2]) (rest := [.int 4, .ref (a 110)]) ⟨hx, hb, hml, hown, hts⟩ (n_stands l D k A a z G_56 p2 ⟨by omega, by omega⟩) (cwV 1 hts (gd_V hgd m1995 m1997 m112 m131 m1998) rfl rfl rfl (by decide +kernel) ⟨Nat.le_of_ble_eq_true rfl, Nat.le_of_ble_eq_true rfl⟩) (pre_V hW hB_G_56 hK hZ hS kd_66 rfl) rfl rfl hl.1 rfl (lv_room (Nat.le_of_ble_eq_true rfl)) dX12_walk_96 ⟨Nat.le_of_ble_eq_true rfl, Nat.le_of_ble_eq_true rfl⟩) hS (fun r_59 G_60 H locs hpo hW hS => ?_)
          obtain ⟨hB_G_60, hq_61, f_63⟩ := hpo
          have hF := hF.call hq_61 (by decide) (by decide)
          refine S_iast hx hb hK hW hS kd_110 (vin (by decide) (by decide)) dX12_walk_99 (fun G_64 H locs eG_64 hW hS => ?_)
          have qc_65 : (4 : Int32).toInt = 4 := rfl
          have hB_G_64 : Bd G_64 := hB_G_60.putNow 110 (by decide) eG_64 (by omega) (by omega) (by omega) rfl
          have hF := hF.put eG_64 (Or.inl (by decide))
          refine lv_aload_n hx hb dX12_walk_100 rfl (lv_at hl 0 rfl) ?_
          refine S_getR (n := 110) (C := RX12) (T := TX12) (N := 89) hx hb hg iX12 hown hK hW kd_66 rfl 76 (by decide) (hg (Cond.fieldLink RX12 151 "SlabWalkModel" "now" "[I") m1390) (fun _ h9 => h9) rfl dX12_walk_101 ?_
          refine lv_iconst (v := 5) hx hb dX12_walk_104 (by decide) ?_
          refine lv_iconst (v := 0) hx hb dX12_walk_105 (by decide) ?_
          refine S_iast hx hb hK hW hS kd_110 (vin (by decide) (by decide)) dX12_walk_106 (fun G_66 H locs eG_66 hW hS => ?_)
          have qc_67 : (0 : Int32).toInt = 0 := rfl
          have qc_68 : (5 : Int32).toInt = 5 := rfl
          have hB_G_66 : Bd G_66 := hB_G_64.putNow 110 (by decide) eG_66 (by omega) (by omega) (by omega) rfl
          have hF := hF.put eG_66 (Or.inl (by decide))
          refine lv_aload_n hx hb dX12_walk_107 rfl (lv_at hl 0 rfl) ?_
          refine S_getR (n := 110) (C := RX12) (T := TX12) (N := 89) hx hb hg iX12 hown hK hW kd_66 rfl 76 (by decide) (hg (Cond.fieldLink RX12 151 "SlabWalkModel" "now" "[I") m1390) (fun _ h9 => h9) rfl dX12_walk_108 ?_
          refine lv_iconst (v := 4) hx hb dX12_walk_111 (by decide) ?_
          refine S_iald hx hb hK hW kd_110 (vin (by decide) (by decide)) dX12_walk_112 (fun y_69 ey_69 => ?_)
          have b_70 : 0 ≤ (G_47.1 66 78).toInt ∧ (G_47.1 66 78).toInt ≤ 40 := hB_G_47.i 66 78 rfl rfl
          have g_71 : (G_66.1 66 78).toInt = (G_47.1 66 78).toInt := by rw [show G_66.1 66 78 = (G_47.1 66 78) from ((gp_ne eG_66 (fun q => absurd q.1 (by decide))).trans ((gp_ne eG_64 (fun q => absurd q.1 (by decide))).trans ((hq_61.i 66 78 (by decide) (by decide)).trans ((gp_ne eG_56 (fun q => absurd q.1 (by decide))).trans ((gp_ne eG_54 (fun q => absurd q.1 (by decide))).trans ((gp_ne eG_52 (fun q => absurd q.1 (by decide))).trans (gp_ne eG_50 (fun q => absurd q.1 (by decide)))))))))]
          have b_72 : 0 ≤ (G_47.1 66 79).toInt ∧ (G_47.1 66 79).toInt ≤ 40 := hB_G_47.i 66 79 rfl rfl
          have g_73 : (G_66.1 66 79).toInt = (G_47.1 66 79).toInt := by rw [show G_66.1 66 79 = (G_47.1 66 79) from ((gp_ne eG_66 (fun q => absurd q.1 (by decide))).trans ((gp_ne eG_64 (fun q => absurd q.1 (by decide))).trans ((hq_61.i 66 79 (by decide) (by decide)).trans ((gp_ne eG_56 (fun q => absurd q.1 (by decide))).trans ((gp_ne eG_54 (fun q => absurd q.1 (by decide))).trans ((gp_ne eG_52 (fun q => absurd q.1 (by decide))).trans (gp_ne eG_50 (fun q => absurd q.1 (by decide)))))))))]
          exact W.iret (v := y_69) hx hb hr (fun t ht _ => ⟨⟨y_69, G_66, rfl, ⟨hB_G_66, hF, (by omega)⟩, wd_t ht hW⟩, hS.F ht⟩) hS.2.2 dX12_walk_113
        · have c_45 : r_40.toInt = 0 := xI_eq rfl rfl c_45
          refine lv_iconst (v := (-1)) hx hb dX12_walk_55 (by decide) ?_
          have b_74 : 0 ≤ (G.1 66 78).toInt ∧ (G.1 66 78).toInt ≤ 40 := hB_G.i 66 78 rfl rfl
          have g_75 : (G_41.1 66 78).toInt = (G.1 66 78).toInt := by rw [show G_41.1 66 78 = (G.1 66 78) from ((hq_42.i 66 78 (by decide) (by decide)).trans ((hq_36.i 66 78 (by decide) (by decide)).trans ((hq_28.i 66 78 (by decide) (by decide)).trans ((hq_15.i 66 78 (by decide) (by decide)).trans (hq_3.i 66 78 (by decide) (by decide))))))]
          have b_76 : 0 ≤ (G.1 66 79).toInt ∧ (G.1 66 79).toInt ≤ 40 := hB_G.i 66 79 rfl rfl
          have g_77 : (G_41.1 66 79).toInt = (G.1 66 79).toInt := by rw [show G_41.1 66 79 = (G.1 66 79) from ((hq_42.i 66 79 (by decide) (by decide)).trans ((hq_36.i 66 79 (by decide) (by decide)).trans ((hq_28.i 66 79 (by decide) (by decide)).trans ((hq_15.i 66 79 (by decide) (by decide)).trans (hq_3.i 66 79 (by decide) (by decide))))))]
          exact W.iret (v := (-1)) hx hb hr (fun t ht _ => ⟨⟨(-1), G_41, rfl, ⟨hB_G_41, hF, (by have hq : ((-1) : Int32).toInt = (-1) := rfl; (try dsimp only); omega)⟩, wd_t ht hW⟩, hS.F ht⟩) hS.2.2 dX12_walk_56
      · have c_31 : r_26.toInt = 0 := xI_eq rfl rfl c_31
        refine lv_iconst (v := (-1)) hx hb dX12_walk_32 (by decide) ?_
        have b_78 : 0 ≤ (G.1 66 78).toInt ∧ (G.1 66 78).toInt ≤ 40 := hB_G.i 66 78 rfl rfl
        have g_79 : (G_27.1 66 78).toInt = (G.1 66 78).toInt := by rw [show G_27.1 66 78 = (G.1 66 78) from ((hq_28.i 66 78 (by decide) (by decide)).trans ((hq_15.i 66 78 (by decide) (by decide)).trans (hq_3.i 66 78 (by decide) (by decide))))]
        have b_80 : 0 ≤ (G.1 66 79).toInt ∧ (G.1 66 79).toInt ≤ 40 := hB_G.i 66 79 rfl rfl
        have g_81 : (G_27.1 66 79).toInt = (G.1 66 79).toInt := by rw [show G_27.1 66 79 = (G.1 66 79) from ((hq_28.i 66 79 (by decide) (by decide)).trans ((hq_15.i 66 79 (by decide) (by decide)).trans (hq_3.i 66 79 (by decide) (by decide))))]
        exact W.iret (v := (-1)) hx hb hr (fun t ht _ => ⟨⟨(-1), G_27, rfl, ⟨hB_G_27, hF, (by have hq : ((-1) : Int32).toInt = (-1) := rfl; (try dsimp only); omega)⟩, wd_t ht hW⟩, hS.F ht⟩) hS.2.2 dX12_walk_33

set_option maxHeartbeats 4000000 in
set_option maxRecDepth 100000 in
theorem n_go (l : Launch) (D : va_G) (k : KT) (A : Nat → Prop) (a : Nat → Nat) (z : SK) (G : GS) (p0 : Int32) (hP9 : gP G = 1) (hac : (G.1 66 78).toInt + (G.1 66 79).toInt ≤ 40) (hsl : 1 ≤ (G.1 96 0).toInt + (G.1 96 1).toInt + (G.1 96 2).toInt) : Met l yX12_go (WS yX12_go cX12_go 5 (some .int)) ({ frames := 5, cells := 0, slots := 0, locals := 117 }) (va_Pc [.ref (a 66), .int p0] (cW D k A a z G)) (va_Qi (fun (r : Int32) (G1 : GS) => Bd G1 ∧ Fr [110, 111, 76, 97, 98] [(66, 59), (66, 60), (66, 61), (66, 62), (66, 63), (66, 78), (66, 79)] G G1 ∧ ((G1.1 66 78).toInt + (G1.1 66 79).toInt ≤ 40)) (fun (G1 : GS) t => Wd D k A a G1 t.heap) A) 0 0 A := by
  refine Met.ofW (cc := cX12_go) (maxL := 5) (ret := (some .int)) (by decide) rfl ?_
  intro p e s m args below meth c s₁ B hml hv
  obtain ⟨rfl, hW, hB_G, hK, hZ⟩ := hv
  have hx := B.exec
  have hb := B.bytes
  have hr := B.returns
  have hts := atoms_spec (ws := WS yX12_go cX12_go 5 (some .int)) B.pre
  have hgd : ∀ w ∈ gd, w ∈ WS yX12_go cX12_go 5 (some .int) := fun w h => List.mem_cons_of_mem _ h
  have hg : ∀ w ∈ gd, w.before _ s = true := fun w h => hts w (hgd w h)
  have hown : s.vm.findClass RX12 = some m.cls := findClass_of_methodNamed B.named
  have hS : va_S A s.heap s.heap [] := va_S.rf
  have hF : Fr [110, 111, 76, 97, 98] [(66, 59), (66, 60), (66, 61), (66, 62), (66, 63), (66, 78), (66, 79)] G G := Fr.rf
  have hl := lv_entry ([.ref (a 66), .int p0]) (n := 5) (Nat.le_of_ble_eq_true rfl)
  rw [lg_entry_eq]
  generalize (lg_sl ([.ref (a 66), .int p0]) ++ List.replicate (5 - (lg_sl ([.ref (a 66), .int p0])).length) Slot.unset).toArray = ls at hl ⊢
  have hl : lv_has ls 5 [(0, .ref (a 66)), (1, .int p0)] := hl
  refine lv_aload_n hx hb dX12_go_0 rfl (lv_at hl 0 rfl) ?_
  refine S_getR (n := 110) (C := RX12) (T := TX12) (N := 89) hx hb hg iX12 hown hK hW kd_66 rfl 76 (by decide) (hg (Cond.fieldLink RX12 151 "SlabWalkModel" "now" "[I") m1390) (fun _ h9 => h9) rfl dX12_go_1 ?_
  refine lv_iconst (v := 0) hx hb dX12_go_4 (by decide) ?_
  refine S_iald hx hb hK hW kd_110 (vin (by decide) (by decide)) dX12_go_5 (fun y_1 ey_1 => ?_)
  have ty_1 := hB_G.now0 110 (by decide) ey_1
  refine lv_if_lt (tgt := 19) hx hb dX12_go_6 (by decide) (fun c_2 => ?_) (fun c_2 => ?_)
  · have c_2 : y_1.toInt < 0 := xI_lt rfl rfl c_2
    refine lv_iconst (v := (-1)) hx hb dX12_go_19 (by decide) ?_
    have b_3 : 0 ≤ (G.1 66 78).toInt ∧ (G.1 66 78).toInt ≤ 40 := hB_G.i 66 78 rfl rfl
    have b_4 : 0 ≤ (G.1 66 79).toInt ∧ (G.1 66 79).toInt ≤ 40 := hB_G.i 66 79 rfl rfl
    exact W.iret (v := (-1)) hx hb hr (fun t ht _ => ⟨⟨(-1), G, rfl, ⟨hB_G, hF, (by have hq : ((-1) : Int32).toInt = (-1) := rfl; (try dsimp only); omega)⟩, wd_t ht hW⟩, hS.F ht⟩) hS.2.2 dX12_go_20
  · have c_2 : 0 ≤ y_1.toInt := xI_nlt rfl rfl c_2
    refine lv_aload_n hx hb dX12_go_9 rfl (lv_at hl 0 rfl) ?_
    refine S_getR (n := 110) (C := RX12) (T := TX12) (N := 89) hx hb hg iX12 hown hK hW kd_66 rfl 76 (by decide) (hg (Cond.fieldLink RX12 151 "SlabWalkModel" "now" "[I") m1390) (fun _ h9 => h9) rfl dX12_go_10 ?_
    refine lv_iconst (v := 4) hx hb dX12_go_13 (by decide) ?_
    refine S_iald hx hb hK hW kd_110 (vin (by decide) (by decide)) dX12_go_14 (fun y_5 ey_5 => ?_)
    refine lv_iconst (v := 1) hx hb dX12_go_15 (by decide) ?_
    refine lv_icmp_eq (tgt := 21) hx hb dX12_go_16 (by decide) (fun c_6 => ?_) (fun c_6 => ?_)
    · have c_6 : y_5.toInt = 1 := xI_eq rfl rfl c_6
      refine lv_aload_n hx hb dX12_go_21 rfl (lv_at hl 0 rfl) ?_
      refine S_getR (n := 110) (C := RX12) (T := TX12) (N := 89) hx hb hg iX12 hown hK hW kd_66 rfl 76 (by decide) (hg (Cond.fieldLink RX12 151 "SlabWalkModel" "now" "[I") m1390) (fun _ h9 => h9) rfl dX12_go_22 ?_
      refine lv_iconst (v := 0) hx hb dX12_go_25 (by decide) ?_
      refine S_iald hx hb hK hW kd_110 (vin (by decide) (by decide)) dX12_go_26 (fun y_7 ey_7 => ?_)
      have ty_7 := hB_G.now0 110 (by decide) ey_7
      have u_8 : y_7.toInt = y_1.toInt := congrArg Int32.toInt (ey_7.trans (ey_1.symm))
      refine lv_istore_n (lv' := [(2, .int y_7), (0, .ref (a 66)), (1, .int p0)]) hx hb dX12_go_27 rfl hl (by decide) rfl (fun ls hl => ?_)
      refine lv_iload_n hx hb dX12_go_28 rfl (lv_at hl 2 rfl) ?_
      refine lv_aload_n hx hb dX12_go_29 rfl (lv_at hl 1 rfl) ?_
      refine S_getR (n := 93) (C := RX12) (T := TX12) (N := 89) hx hb hg iX12 hown hK hW kd_66 rfl 41 (by decide) (hg (Cond.fieldLink RX12 93 "SlabWalkModel" "leasts" "[I") m1355) (fun _ h9 => h9) rfl dX12_go_30 ?_
      refine lv_iload_n hx hb dX12_go_33 rfl (lv_at hl 0 rfl) ?_
      refine S_iald hx hb hK hW kd_93 (vin (by omega) (by omega)) dX12_go_34 (fun y_9 ey_9 => ?_)
      have ty_9 : 0 ≤ y_9.toInt ∧ y_9.toInt ≤ 60 := hB_G.v ey_9 rfl rfl
      have u_10 : y_9.toInt = (G.1 93 y_7.toNatClampNeg).toInt := congrArg Int32.toInt (ey_9)
      refine lv_aload_n hx hb dX12_go_35 rfl (lv_at hl 1 rfl) ?_
      refine S_getR (n := 110) (C := RX12) (T := TX12) (N := 89) hx hb hg iX12 hown hK hW kd_66 rfl 76 (by decide) (hg (Cond.fieldLink RX12 151 "SlabWalkModel" "now" "[I") m1390) (fun _ h9 => h9) rfl dX12_go_36 ?_
      refine lv_iconst (v := 5) hx hb dX12_go_39 (by decide) ?_
      refine S_iald hx hb hK hW kd_110 (vin (by decide) (by decide)) dX12_go_40 (fun y_11 ey_11 => ?_)
      refine lv_iconst (v := 1) hx hb dX12_go_41 (by decide) ?_
      refine W.cut (σ := Int32) (pcJ := 60) (J := fun y H locs ls => ∃ (G_18 : GS), (0 ≤ y.toInt ∧ y.toInt ≤ 99) ∧ Wd D k A a G_18 H ∧ Bd G_18 ∧ Fr [110, 111, 76, 97, 98] [(66, 59), (66, 60), (66, 61), (66, 62), (66, 63), (66, 78), (66, 79)] G G_18 ∧ Fr [] [] G G_18 ∧ va_S A s.heap H locs ∧ lv_has ls 5 [(2, .int y_7), (0, .ref (a 66)), (1, .int p0)]) (stJ := fun y => [.int y, .int y_9, .int p0]) ?_ (fun hJ_19 => ?_)
      · intro y H locs ls hI
        obtain ⟨w_15, hy⟩ : ∃ q, q = y := ⟨_, rfl⟩
        subst hy
        obtain ⟨G_18, f_21, hW, hB_G_18, hF, hq_20, hS, hl⟩ := hI
        refine S_calli (va_runS (As := [.int p0, .int y_9, .int w_15]) (rest := []) ⟨hx, hb, hml, hown, hts⟩ (n_isIn l D k A a z G_18 p0 y_9 w_15 ) (va_cwS 3 hts (gd_S hgd m1781 m1782 m131 m1783) rfl rfl rfl (by decide +kernel) ⟨Nat.le_of_ble_eq_true rfl, Nat.le_of_ble_eq_true rfl⟩) (pre_S hW hB_G_18 hK hZ hS) rfl rfl hl.1 rfl (lv_room (Nat.le_of_ble_eq_true rfl)) dX12_go_60 ⟨Nat.le_of_ble_eq_true rfl, Nat.le_of_ble_eq_true rfl⟩) hS (fun r_22 G_23 H locs hpo hW hS => ?_)
        obtain ⟨hB_G_23, hq_24, f_26, hp_25⟩ := hpo
        have hF := hF.call hq_24 (by decide) (by decide)
        refine lv_if_ne (tgt := 68) hx hb dX12_go_63 (by decide) (fun c_27 => ?_) (fun c_27 => ?_)
        · have c_27 : r_22.toInt ≠ 0 := xI_ne rfl rfl c_27
          refine lv_aload_n hx hb dX12_go_68 rfl (lv_at hl 1 rfl) ?_
          refine S_callv (va_runV (As := []) (rest := []) ⟨hx, hb, hml, hown, hts⟩ (n_act l D k A a z G_23  ) (cwV 0 hts (gd_V hgd m1991 m1993 m111 m131 m1994) rfl rfl rfl (by decide +kernel) ⟨Nat.le_of_ble_eq_true rfl, Nat.le_of_ble_eq_true rfl⟩) (pre_V hW hB_G_23 hK hZ hS kd_66 rfl) rfl rfl hl.1 rfl (lv_room (Nat.le_of_ble_eq_true rfl)) dX12_go_69 ⟨Nat.le_of_ble_eq_true rfl, Nat.le_of_ble_eq_true rfl⟩) hS (fun G_29 H locs hpo hW hS => ?_)
          obtain ⟨hB_G_29, hq_30, hp_31⟩ := hpo
          have hF := hF.call hq_30 (by decide) (by decide)
          refine lv_aload_n hx hb dX12_go_72 rfl (lv_at hl 1 rfl) ?_
          refine lv_iload_n hx hb dX12_go_73 rfl (lv_at hl 0 rfl) ?_
          refine lv_aload_n hx hb dX12_go_74 rfl (lv_at hl 1 rfl) ?_
          refine S_getR (n := 110) (C := RX12) (T := TX12) (N := 89) hx hb hg iX12 hown hK hW kd_66 rfl 76 (by decide) (hg (Cond.fieldLink RX12 151 "SlabWalkModel" "now" "[I") m1390) (fun _ h9 => h9) rfl dX12_go_75 ?_
          refine lv_iconst (v := 1) hx hb dX12_go_78 (by decide) ?_
          refine S_iald hx hb hK hW kd_110 (vin (by decide) (by decide)) dX12_go_79 (fun y_32 ey_32 => ?_)
          have ty_32 := hB_G_29.now1 110 (by decide) ey_32
          refine lv_aload_n hx hb dX12_go_80 rfl (lv_at hl 1 rfl) ?_
          refine S_getR (n := 110) (C := RX12) (T := TX12) (N := 89) hx hb hg iX12 hown hK hW kd_66 rfl 76 (by decide) (hg (Cond.fieldLink RX12 151 "SlabWalkModel" "now" "[I") m1390) (fun _ h9 => h9) rfl dX12_go_81 ?_
          refine lv_bipush (v := 8) hx hb dX12_go_84 (by decide) ?_
          refine S_iald hx hb hK hW kd_110 (vin (by decide) (by decide)) dX12_go_86 (fun y_33 ey_33 => ?_)
          have g_34 : gP G_29 = gP G := gP_fr (rs := [111]) (fs := [(66, 78), (66, 79)]) (((Fr.rf.call hq_20 (by decide) (by decide)).call hq_24 (by decide) (by decide)).call hq_30 (by decide) (by decide)) (by decide) (by decide)
          refine S_callv (va_runV (As := [.int y_7, .int y_32, .int y_33]) (rest := []) ⟨hx, hb, hml, hown, hts⟩ (n_layStreet l D k A a z G_29 y_7 y_32 y_33 ⟨by omega, by omega⟩ ⟨by omega, by omega⟩ (by omega)) (cwV 3 hts (gd_V hgd m1834 m1836 m91 m131 m1837) rfl rfl rfl (by decide +kernel) ⟨Nat.le_of_ble_eq_true rfl, Nat.le_of_ble_eq_true rfl⟩) (pre_V hW hB_G_29 hK hZ hS kd_66 rfl) rfl rfl hl.1 rfl (lv_room (Nat.le_of_ble_eq_true rfl)) dX12_go_87 ⟨Nat.le_of_ble_eq_true rfl, Nat.le_of_ble_eq_true rfl⟩) hS (fun G_36 H locs hpo hW hS => ?_)
          obtain ⟨hB_G_36, hq_37, hp_38⟩ := hpo
          have hF := hF.call hq_37 (by decide) (by decide)
          refine lv_aload_n hx hb dX12_go_90 rfl (lv_at hl 1 rfl) ?_
          refine S_getR (n := 110) (C := RX12) (T := TX12) (N := 89) hx hb hg iX12 hown hK hW kd_66 rfl 76 (by decide) (hg (Cond.fieldLink RX12 151 "SlabWalkModel" "now" "[I") m1390) (fun _ h9 => h9) rfl dX12_go_91 ?_
          refine lv_bipush (v := 7) hx hb dX12_go_94 (by decide) ?_
          refine lv_aload_n hx hb dX12_go_96 rfl (lv_at hl 1 rfl) ?_
          refine S_getR (n := 110) (C := RX12) (T := TX12) (N := 89) hx hb hg iX12 hown hK hW kd_66 rfl 76 (by decide) (hg (Cond.fieldLink RX12 151 "SlabWalkModel" "now" "[I") m1390) (fun _ h9 => h9) rfl dX12_go_97 ?_
          refine lv_bipush (v := 7) hx hb dX12_go_100 (by decide) ?_
          refine S_iald hx hb hK hW kd_110 (vin (by decide) (by decide)) dX12_go_102 (fun y_39 ey_39 => ?_)
          refine lv_sipush (v := 137) hx hb dX12_go_103 (by decide) ?_
          refine lv_imul hx hb dX12_go_106 ?_
          refine lv_topi (fun y_40 ey_40 => ?_)
          refine lv_bipush (v := 71) hx hb dX12_go_107 (by decide) ?_
          refine lv_iadd hx hb dX12_go_109 ?_
          refine lv_topi (fun y_41 ey_41 => ?_)
          refine lv_sipush (v := 1000) hx hb dX12_go_110 (by decide) ?_
          refine lv_irem hx hb dX12_go_113 (by decide) ?_
          refine lv_topi (fun y_42 ey_42 => ?_)
          refine S_iast hx hb hK hW hS kd_110 (vin (by decide) (by decide)) dX12_go_114 (fun G_43 H locs eG_43 hW hS => ?_)
          have qc_44 : (7 : Int32).toInt = 7 := rfl
          have hB_G_43 : Bd G_43 := hB_G_36.putNow 110 (by decide) eG_43 (by omega) (by omega) (by omega) rfl
          have hF := hF.put eG_43 (Or.inl (by decide))
          refine lv_aload_n hx hb dX12_go_115 rfl (lv_at hl 1 rfl) ?_
          refine S_getR (n := 110) (C := RX12) (T := TX12) (N := 89) hx hb hg iX12 hown hK hW kd_66 rfl 76 (by decide) (hg (Cond.fieldLink RX12 151 "SlabWalkModel" "now" "[I") m1390) (fun _ h9 => h9) rfl dX12_go_116 ?_
          refine lv_bipush (v := 7) hx hb dX12_go_119 (by decide) ?_
          refine S_iald hx hb hK hW kd_110 (vin (by decide) (by decide)) dX12_go_121 (fun y_45 ey_45 => ?_)
          have u_46 : y_45.toInt = y_42.toInt := congrArg Int32.toInt (ey_45.trans ((gp_eq eG_43)))
          refine lv_aload_n hx hb dX12_go_122 rfl (lv_at hl 1 rfl) ?_
          have b_47 : 0 ≤ (G.1 96 0).toInt ∧ (G.1 96 0).toInt ≤ 9 := hB_G.i 96 0 rfl rfl
          have g_48 : (G_43.1 96 0).toInt = (G.1 96 0).toInt := by rw [show G_43.1 96 0 = (G.1 96 0) from ((gp_ne eG_43 (fun q => absurd q.1 (by decide))).trans ((hq_37.i 96 0 (by decide) (by decide)).trans ((hq_30.i 96 0 (by decide) (by decide)).trans ((hq_24.i 96 0 (by decide) (by decide)).trans (hq_20.i 96 0 (by decide) (by decide))))))]
          have b_49 : 0 ≤ (G.1 96 1).toInt ∧ (G.1 96 1).toInt ≤ 9 := hB_G.i 96 1 rfl rfl
          have g_50 : (G_43.1 96 1).toInt = (G.1 96 1).toInt := by rw [show G_43.1 96 1 = (G.1 96 1) from ((gp_ne eG_43 (fun q => absurd q.1 (by decide))).trans ((hq_37.i 96 1 (by decide) (by decide)).trans ((hq_30.i 96 1 (by decide) (by decide)).trans ((hq_24.i 96 1 (by decide) (by decide)).trans (hq_20.i 96 1 (by decide) (by decide))))))]
          have b_51 : 0 ≤ (G.1 96 2).toInt ∧ (G.1 96 2).toInt ≤ 9 := hB_G.i 96 2 rfl rfl
          have g_52 : (G_43.1 96 2).toInt = (G.1 96 2).toInt := by rw [show G_43.1 96 2 = (G.1 96 2) from ((gp_ne eG_43 (fun q => absurd q.1 (by decide))).trans ((hq_37.i 96 2 (by decide) (by decide)).trans ((hq_30.i 96 2 (by decide) (by decide)).trans ((hq_24.i 96 2 (by decide) (by decide)).trans (hq_20.i 96 2 (by decide) (by decide))))))]
          refine S_calli (va_runV (As := []) (rest := [.int y_45]) ⟨hx, hb, hml, hown, hts⟩ (n_allSlips l D k A a z G_43  ) (cwV 0 hts (gd_V hgd m1955 m1957 m106 m131 m1958) rfl rfl rfl (by decide +kernel) ⟨Nat.le_of_ble_eq_true rfl, Nat.le_of_ble_eq_true rfl⟩) (pre_V hW hB_G_43 hK hZ hS kd_66 rfl) rfl rfl hl.1 rfl (lv_room (Nat.le_of_ble_eq_true rfl)) dX12_go_123 ⟨Nat.le_of_ble_eq_true rfl, Nat.le_of_ble_eq_true rfl⟩) hS (fun r_53 G_54 H locs hpo hW hS => ?_)
          obtain ⟨hB_G_54, hq_55, f_57, hp_56⟩ := hpo
          have hF := hF.call hq_55 (by decide) (by decide)
          refine lv_irem hx hb dX12_go_126 (fun q => by have q := xI_eq (Y := 0) rfl rfl q; omega) ?_
          refine lv_topi (fun y_58 ey_58 => ?_)
          refine lv_istore_n (lv' := [(3, .int y_58), (2, .int y_7), (0, .ref (a 66)), (1, .int p0)]) hx hb dX12_go_127 rfl hl (by decide) rfl (fun ls hl => ?_)
          refine lv_aload_n hx hb dX12_go_128 rfl (lv_at hl 2 rfl) ?_
          refine S_getR (n := 110) (C := RX12) (T := TX12) (N := 89) hx hb hg iX12 hown hK hW kd_66 rfl 76 (by decide) (hg (Cond.fieldLink RX12 151 "SlabWalkModel" "now" "[I") m1390) (fun _ h9 => h9) rfl dX12_go_129 ?_
          refine lv_iconst (v := 2) hx hb dX12_go_132 (by decide) ?_
          refine S_iald hx hb hK hW kd_110 (vin (by decide) (by decide)) dX12_go_133 (fun y_59 ey_59 => ?_)
          refine lv_iload_n hx hb dX12_go_134 rfl (lv_at hl 3 rfl) ?_
          refine lv_iadd hx hb dX12_go_135 ?_
          refine lv_topi (fun y_60 ey_60 => ?_)
          refine lv_iload_n hx hb dX12_go_136 rfl (lv_at hl 0 rfl) ?_
          refine lv_aload_n hx hb dX12_go_137 rfl (lv_at hl 2 rfl) ?_
          refine S_getR (n := 96) (C := RX12) (T := TX12) (N := 89) hx hb hg iX12 hown hK hW kd_66 rfl 44 (by decide) (hg (Cond.fieldLink RX12 102 "SlabWalkModel" "slips" "[I") m1358) (fun _ h9 => h9) rfl dX12_go_138 ?_
          refine lv_iconst (v := 0) hx hb dX12_go_141 (by decide) ?_
          refine S_iald hx hb hK hW kd_96 (vin (by decide) (by decide)) dX12_go_142 (fun y_61 ey_61 => ?_)
          have ty_61 : 0 ≤ y_61.toInt ∧ y_61.toInt ≤ 9 := hB_G_54.v ey_61 rfl rfl
          have u_62 : y_61.toInt = (G.1 96 0).toInt := congrArg Int32.toInt (ey_61.trans (((hq_55.i 96 0 (by decide) (by decide)).trans ((gp_ne eG_43 (fun q => absurd q.1 (by decide))).trans ((hq_37.i 96 0 (by decide) (by decide)).trans ((hq_30.i 96 0 (by decide) (by decide)).trans ((hq_24.i 96 0 (by decide) (by decide)).trans ((hq_20.i 96 0 (by decide) (by decide)).trans (rfl)))))))))
          refine W.cut (σ := Int32) (pcJ := 195) (J := fun y H locs ls => ∃ (G_68 : GS) (x_63 : Int32), (0 ≤ y.toInt ∧ y.toInt ≤ 1) ∧ Wd D k A a G_68 H ∧ Bd G_68 ∧ Fr [110, 111, 76, 97, 98] [(66, 59), (66, 60), (66, 61), (66, 62), (66, 63), (66, 78), (66, 79)] G G_68 ∧ Fr [] [] G_54 G_68 ∧ va_S A s.heap H locs ∧ lv_has ls 5 [(4, .int x_63), (0, .ref (a 66))]) (stJ := fun y => [.int y, .int 5, .ref (a 110)]) ?_ (fun hJ_69 => ?_)
          · intro y H locs ls hI
            obtain ⟨w_65, hy⟩ : ∃ q, q = y := ⟨_, rfl⟩
            subst hy
            obtain ⟨G_68, x_63, f_71, hW, hB_G_68, hF, hq_70, hS, hl⟩ := hI
            refine S_calli (va_runS (As := [.int w_65]) (rest := [.int 5, .ref (a 110)]) ⟨hx, hb, hml, hown, hts⟩ (n_truth l D k A a z G_68 w_65 ⟨by omega, by omega⟩) (va_cwS 1 hts (gd_S hgd m1788 m1789 m131 m1790) rfl rfl rfl (by decide +kernel) ⟨Nat.le_of_ble_eq_true rfl, Nat.le_of_ble_eq_true rfl⟩) (pre_S hW hB_G_68 hK hZ hS) rfl rfl hl.1 rfl (lv_room (Nat.le_of_ble_eq_true rfl)) dX12_go_195 ⟨Nat.le_of_ble_eq_true rfl, Nat.le_of_ble_eq_true rfl⟩) hS (fun r_72 G_73 H locs hpo hW hS => ?_)
            obtain ⟨hB_G_73, hq_74, f_76, hp_75, -⟩ := hpo
            have hF := hF.call hq_74 (by decide) (by decide)
            refine S_iast hx hb hK hW hS kd_110 (vin (by decide) (by decide)) dX12_go_198 (fun G_77 H locs eG_77 hW hS => ?_)
            have qc_78 : (5 : Int32).toInt = 5 := rfl
            have hB_G_77 : Bd G_77 := hB_G_73.putNow 110 (by decide) eG_77 (by omega) (by omega) (by omega) rfl
            have hF := hF.put eG_77 (Or.inl (by decide))
            refine lv_aload_n hx hb dX12_go_199 rfl (lv_at hl 1 rfl) ?_
            refine lv_iload hx hb dX12_go_200 (lv_at hl 0 rfl) ?_
            have b_79 : 0 ≤ (G_36.1 66 59).toInt ∧ (G_36.1 66 59).toInt ≤ 400 := hB_G_36.i 66 59 rfl rfl
            have g_80 : (G_77.1 66 59).toInt = (G_36.1 66 59).toInt := by rw [show G_77.1 66 59 = (G_36.1 66 59) from ((gp_ne eG_77 (fun q => absurd q.1 (by decide))).trans ((hq_74.i 66 59 (by decide) (by decide)).trans ((hq_70.i 66 59 (by decide) (by decide)).trans ((hq_55.i 66 59 (by decide) (by decide)).trans (gp_ne eG_43 (fun q => absurd q.1 (by decide)))))))]
            have b_81 : 0 ≤ (G_36.1 66 60).toInt ∧ (G_36.1 66 60).toInt ≤ 12 := hB_G_36.i 66 60 rfl rfl
            have g_82 : (G_77.1 66 60).toInt = (G_36.1 66 60).toInt := by rw [show G_77.1 66 60 = (G_36.1 66 60) from ((gp_ne eG_77 (fun q => absurd q.1 (by decide))).trans ((hq_74.i 66 60 (by decide) (by decide)).trans ((hq_70.i 66 60 (by decide) (by decide)).trans ((hq_55.i 66 60 (by decide) (by decide)).trans (gp_ne eG_43 (fun q => absurd q.1 (by decide)))))))]
            refine S_calli (va_runV (As := [.int x_63]) (rest := []) ⟨hx, hb, hml, hown, hts⟩ (n_stands1 l D k A a z G_77 x_63 ) (cwV 1 hts (gd_V hgd m1838 m1840 m92 m131 m1841) rfl rfl rfl (by decide +kernel) ⟨Nat.le_of_ble_eq_true rfl, Nat.le_of_ble_eq_true rfl⟩) (pre_V hW hB_G_77 hK hZ hS kd_66 rfl) rfl rfl hl.1 rfl (lv_room (Nat.le_of_ble_eq_true rfl)) dX12_go_202 ⟨Nat.le_of_ble_eq_true rfl, Nat.le_of_ble_eq_true rfl⟩) hS (fun r_83 G_84 H locs hpo hW hS => ?_)
            obtain ⟨hB_G_84, hq_85, f_87, hp_86⟩ := hpo
            have hF := hF.call hq_85 (by decide) (by decide)
            refine lv_if_ne (tgt := 217) hx hb dX12_go_205 (by decide) (fun c_88 => ?_) (fun c_88 => ?_)
            · have c_88 : r_83.toInt ≠ 0 := xI_ne rfl rfl c_88
              refine lv_aload_n hx hb dX12_go_217 rfl (lv_at hl 1 rfl) ?_
              refine S_getR (n := 110) (C := RX12) (T := TX12) (N := 89) hx hb hg iX12 hown hK hW kd_66 rfl 76 (by decide) (hg (Cond.fieldLink RX12 151 "SlabWalkModel" "now" "[I") m1390) (fun _ h9 => h9) rfl dX12_go_218 ?_
              refine lv_iconst (v := 2) hx hb dX12_go_221 (by decide) ?_
              refine lv_iload hx hb dX12_go_222 (lv_at hl 0 rfl) ?_
              refine S_iast hx hb hK hW hS kd_110 (vin (by decide) (by decide)) dX12_go_224 (fun G_89 H locs eG_89 hW hS => ?_)
              have qc_90 : (2 : Int32).toInt = 2 := rfl
              have hB_G_89 : Bd G_89 := hB_G_84.putNow 110 (by decide) eG_89 (by omega) (by omega) (by omega) rfl
              have hF := hF.put eG_89 (Or.inl (by decide))
              refine lv_aload_n hx hb dX12_go_225 rfl (lv_at hl 1 rfl) ?_
              refine S_getR (n := 110) (C := RX12) (T := TX12) (N := 89) hx hb hg iX12 hown hK hW kd_66 rfl 76 (by decide) (hg (Cond.fieldLink RX12 151 "SlabWalkModel" "now" "[I") m1390) (fun _ h9 => h9) rfl dX12_go_226 ?_
              refine lv_iconst (v := 3) hx hb dX12_go_229 (by decide) ?_
              refine lv_dup2_11 hx hb dX12_go_230 rfl rfl ?_
              refine S_iald hx hb hK hW kd_110 (vin (by decide) (by decide)) dX12_go_231 (fun y_91 ey_91 => ?_)
              refine lv_iconst (v := 1) hx hb dX12_go_232 (by decide) ?_
              refine lv_iadd hx hb dX12_go_233 ?_
              refine lv_topi (fun y_92 ey_92 => ?_)
              refine S_iast hx hb hK hW hS kd_110 (vin (by decide) (by decide)) dX12_go_234 (fun G_93 H locs eG_93 hW hS => ?_)
              have qc_94 : (3 : Int32).toInt = 3 := rfl
              have hB_G_93 : Bd G_93 := hB_G_89.putNow 110 (by decide) eG_93 (by omega) (by omega) (by omega) rfl
              have hF := hF.put eG_93 (Or.inl (by decide))
              refine lv_aload_n hx hb dX12_go_235 rfl (lv_at hl 1 rfl) ?_
              refine S_getR (n := 110) (C := RX12) (T := TX12) (N := 89) hx hb hg iX12 hown hK hW kd_66 rfl 76 (by decide) (hg (Cond.fieldLink RX12 151 "SlabWalkModel" "now" "[I") m1390) (fun _ h9 => h9) rfl dX12_go_236 ?_
              refine lv_iconst (v := 4) hx hb dX12_go_239 (by decide) ?_
              refine lv_aload_n hx hb dX12_go_240 rfl (lv_at hl 1 rfl) ?_
              refine lv_iload hx hb dX12_go_241 (lv_at hl 0 rfl) ?_
              refine S_calli (va_runV (As := [.int x_63]) (rest := [.int 4, .ref (a 110)]) ⟨hx, hb, hml, hown, hts⟩ (n_stands l D k A a z G_93 x_63 ⟨by omega, by omega⟩) (cwV 1 hts (gd_V hgd m1995 m1997 m112 m131 m1998) rfl rfl rfl (by decide +kernel) ⟨Nat.le_of_ble_eq_true rfl, Nat.le_of_ble_eq_true rfl⟩) (pre_V hW hB_G_93 hK hZ hS kd_66 rfl) rfl rfl hl.1 rfl (lv_room (Nat.le_of_ble_eq_true rfl)) dX12_go_243 ⟨Nat.le_of_ble_eq_true rfl, Nat.le_of_ble_eq_true rfl⟩) hS (fun r_95 G_96 H locs hpo hW hS => ?_)
              obtain ⟨hB_G_96, hq_97, f_99⟩ := hpo
              have hF := hF.call hq_97 (by decide) (by decide)
              refine S_iast hx hb hK hW hS kd_110 (vin (by decide) (by decide)) dX12_go_246 (fun G_100 H locs eG_100 hW hS => ?_)
              have qc_101 : (4 : Int32).toInt = 4 := rfl
              have hB_G_100 : Bd G_100 := hB_G_96.putNow 110 (by decide) eG_100 (by omega) (by omega) (by omega) rfl
              have hF := hF.put eG_100 (Or.inl (by decide))
              refine lv_aload_n hx hb dX12_go_247 rfl (lv_at hl 1 rfl) ?_
              refine S_getR (n := 110) (C := RX12) (T := TX12) (N := 89) hx hb hg iX12 hown hK hW kd_66 rfl 76 (by decide) (hg (Cond.fieldLink RX12 151 "SlabWalkModel" "now" "[I") m1390) (fun _ h9 => h9) rfl dX12_go_248 ?_
              refine lv_iconst (v := 4) hx hb dX12_go_251 (by decide) ?_
              refine S_iald hx hb hK hW kd_110 (vin (by decide) (by decide)) dX12_go_252 (fun y_102 ey_102 => ?_)
              have u_103 : y_102.toInt = r_95.toInt := congrArg Int32.toInt (ey_102.trans ((gp_eq eG_100)))
              have b_104 : 0 ≤ (G_29.1 66 78).toInt ∧ (G_29.1 66 78).toInt ≤ 40 := hB_G_29.i 66 78 rfl rfl
              have g_105 : (G_100.1 66 78).toInt = (G_29.1 66 78).toInt := by rw [show G_100.1 66 78 = (G_29.1 66 78) from ((gp_ne eG_100 (fun q => absurd q.1 (by decide))).trans ((hq_97.i 66 78 (by decide) (by decide)).trans ((gp_ne eG_93 (fun q => absurd q.1 (by decide))).trans ((gp_ne eG_89 (fun q => absurd q.1 (by decide))).trans ((hq_85.i 66 78 (by decide) (by decide)).trans ((gp_ne eG_77 (fun q => absurd q.1 (by decide))).trans ((hq_74.i 66 78 (by decide) (by decide)).trans ((hq_70.i 66 78 (by decide) (by decide)).trans ((hq_55.i 66 78 (by decide) (by decide)).trans ((gp_ne eG_43 (fun q => absurd q.1 (by decide))).trans (hq_37.i 66 78 (by decide) (by decide))))))))))))]
              have b_106 : 0 ≤ (G_29.1 66 79).toInt ∧ (G_29.1 66 79).toInt ≤ 40 := hB_G_29.i 66 79 rfl rfl
              have g_107 : (G_100.1 66 79).toInt = (G_29.1 66 79).toInt := by rw [show G_100.1 66 79 = (G_29.1 66 79) from ((gp_ne eG_100 (fun q => absurd q.1 (by decide))).trans ((hq_97.i 66 79 (by decide) (by decide)).trans ((gp_ne eG_93 (fun q => absurd q.1 (by decide))).trans ((gp_ne eG_89 (fun q => absurd q.1 (by decide))).trans ((hq_85.i 66 79 (by decide) (by decide)).trans ((gp_ne eG_77 (fun q => absurd q.1 (by decide))).trans ((hq_74.i 66 79 (by decide) (by decide)).trans ((hq_70.i 66 79 (by decide) (by decide)).trans ((hq_55.i 66 79 (by decide) (by decide)).trans ((gp_ne eG_43 (fun q => absurd q.1 (by decide))).trans (hq_37.i 66 79 (by decide) (by decide))))))))))))]
              exact W.iret (v := y_102) hx hb hr (fun t ht _ => ⟨⟨y_102, G_100, rfl, ⟨hB_G_100, hF, (by omega)⟩, wd_t ht hW⟩, hS.F ht⟩) hS.2.2 dX12_go_253
            · have c_88 : r_83.toInt = 0 := xI_eq rfl rfl c_88
              refine lv_aload_n hx hb dX12_go_208 rfl (lv_at hl 1 rfl) ?_
              refine S_getR (n := 110) (C := RX12) (T := TX12) (N := 89) hx hb hg iX12 hown hK hW kd_66 rfl 76 (by decide) (hg (Cond.fieldLink RX12 151 "SlabWalkModel" "now" "[I") m1390) (fun _ h9 => h9) rfl dX12_go_209 ?_
              refine lv_iconst (v := 4) hx hb dX12_go_212 (by decide) ?_
              refine lv_iconst (v := 2) hx hb dX12_go_213 (by decide) ?_
              refine S_iast hx hb hK hW hS kd_110 (vin (by decide) (by decide)) dX12_go_214 (fun G_108 H locs eG_108 hW hS => ?_)
              have qc_109 : (2 : Int32).toInt = 2 := rfl
              have qc_110 : (4 : Int32).toInt = 4 := rfl
              have hB_G_108 : Bd G_108 := hB_G_84.putNow 110 (by decide) eG_108 (by omega) (by omega) (by omega) rfl
              have hF := hF.put eG_108 (Or.inl (by decide))
              refine lv_iconst (v := 2) hx hb dX12_go_215 (by decide) ?_
              have b_111 : 0 ≤ (G_29.1 66 78).toInt ∧ (G_29.1 66 78).toInt ≤ 40 := hB_G_29.i 66 78 rfl rfl
              have g_112 : (G_108.1 66 78).toInt = (G_29.1 66 78).toInt := by rw [show G_108.1 66 78 = (G_29.1 66 78) from ((gp_ne eG_108 (fun q => absurd q.1 (by decide))).trans ((hq_85.i 66 78 (by decide) (by decide)).trans ((gp_ne eG_77 (fun q => absurd q.1 (by decide))).trans ((hq_74.i 66 78 (by decide) (by decide)).trans ((hq_70.i 66 78 (by decide) (by decide)).trans ((hq_55.i 66 78 (by decide) (by decide)).trans ((gp_ne eG_43 (fun q => absurd q.1 (by decide))).trans (hq_37.i 66 78 (by decide) (by decide)))))))))]
              have b_113 : 0 ≤ (G_29.1 66 79).toInt ∧ (G_29.1 66 79).toInt ≤ 40 := hB_G_29.i 66 79 rfl rfl
              have g_114 : (G_108.1 66 79).toInt = (G_29.1 66 79).toInt := by rw [show G_108.1 66 79 = (G_29.1 66 79) from ((gp_ne eG_108 (fun q => absurd q.1 (by decide))).trans ((hq_85.i 66 79 (by decide) (by decide)).trans ((gp_ne eG_77 (fun q => absurd q.1 (by decide))).trans ((hq_74.i 66 79 (by decide) (by decide)).trans ((hq_70.i 66 79 (by decide) (by decide)).trans ((hq_55.i 66 79 (by decide) (by decide)).trans ((gp_ne eG_43 (fun q => absurd q.1 (by decide))).trans (hq_37.i 66 79 (by decide) (by decide)))))))))]
              exact W.iret (v := 2) hx hb hr (fun t ht _ => ⟨⟨2, G_108, rfl, ⟨hB_G_108, hF, (by have hq : (2 : Int32).toInt = 2 := rfl; (try dsimp only); omega)⟩, wd_t ht hW⟩, hS.F ht⟩) hS.2.2 dX12_go_216
          refine lv_icmp_ge (tgt := 150) hx hb dX12_go_143 (by decide) (fun c_115 => ?_) (fun c_115 => ?_)
          · have c_115 : y_61.toInt ≤ y_58.toInt := xI_le rfl rfl c_115
            refine lv_iload_n hx hb dX12_go_150 rfl (lv_at hl 0 rfl) ?_
            refine lv_aload_n hx hb dX12_go_151 rfl (lv_at hl 2 rfl) ?_
            refine S_getR (n := 96) (C := RX12) (T := TX12) (N := 89) hx hb hg iX12 hown hK hW kd_66 rfl 44 (by decide) (hg (Cond.fieldLink RX12 102 "SlabWalkModel" "slips" "[I") m1358) (fun _ h9 => h9) rfl dX12_go_152 ?_
            refine lv_iconst (v := 0) hx hb dX12_go_155 (by decide) ?_
            refine S_iald hx hb hK hW kd_96 (vin (by decide) (by decide)) dX12_go_156 (fun y_116 ey_116 => ?_)
            have ty_116 : 0 ≤ y_116.toInt ∧ y_116.toInt ≤ 9 := hB_G_54.v ey_116 rfl rfl
            have u_117 : y_116.toInt = y_61.toInt := congrArg Int32.toInt (ey_116.trans (ey_61.symm))
            refine lv_aload_n hx hb dX12_go_157 rfl (lv_at hl 2 rfl) ?_
            refine S_getR (n := 96) (C := RX12) (T := TX12) (N := 89) hx hb hg iX12 hown hK hW kd_66 rfl 44 (by decide) (hg (Cond.fieldLink RX12 102 "SlabWalkModel" "slips" "[I") m1358) (fun _ h9 => h9) rfl dX12_go_158 ?_
            refine lv_iconst (v := 1) hx hb dX12_go_161 (by decide) ?_
            refine S_iald hx hb hK hW kd_96 (vin (by decide) (by decide)) dX12_go_162 (fun y_118 ey_118 => ?_)
            have ty_118 : 0 ≤ y_118.toInt ∧ y_118.toInt ≤ 9 := hB_G_54.v ey_118 rfl rfl
            have u_119 : y_118.toInt = (G.1 96 1).toInt := congrArg Int32.toInt (ey_118.trans (((hq_55.i 96 1 (by decide) (by decide)).trans ((gp_ne eG_43 (fun q => absurd q.1 (by decide))).trans ((hq_37.i 96 1 (by decide) (by decide)).trans ((hq_30.i 96 1 (by decide) (by decide)).trans ((hq_24.i 96 1 (by decide) (by decide)).trans ((hq_20.i 96 1 (by decide) (by decide)).trans (rfl)))))))))
            refine lv_iadd hx hb dX12_go_163 ?_
            refine lv_topi (fun y_120 ey_120 => ?_)
            have ty_120 : y_120.toInt = y_116.toInt + y_118.toInt := xI_add rfl rfl ey_120 (by omega) (by omega)
            refine lv_icmp_ge (tgt := 171) hx hb dX12_go_164 (by decide) (fun c_121 => ?_) (fun c_121 => ?_)
            · have c_121 : y_120.toInt ≤ y_58.toInt := xI_le rfl rfl c_121
              refine lv_iconst (v := 1) hx hb dX12_go_171 (by decide) ?_
              refine lv_iadd hx hb dX12_go_172 ?_
              refine lv_topi (fun y_122 ey_122 => ?_)
              refine lv_istore (lv' := [(4, .int y_122), (3, .int y_58), (2, .int y_7), (0, .ref (a 66)), (1, .int p0)]) hx hb dX12_go_173 hl (by decide) rfl (fun ls hl => ?_)
              refine lv_aload_n hx hb dX12_go_175 rfl (lv_at hl 3 rfl) ?_
              refine S_getR (n := 110) (C := RX12) (T := TX12) (N := 89) hx hb hg iX12 hown hK hW kd_66 rfl 76 (by decide) (hg (Cond.fieldLink RX12 151 "SlabWalkModel" "now" "[I") m1390) (fun _ h9 => h9) rfl dX12_go_176 ?_
              refine lv_iconst (v := 5) hx hb dX12_go_179 (by decide) ?_
              refine lv_iload_n hx hb dX12_go_180 rfl (lv_at hl 4 rfl) ?_
              refine lv_aload_n hx hb dX12_go_181 rfl (lv_at hl 3 rfl) ?_
              refine S_getR (n := 94) (C := RX12) (T := TX12) (N := 89) hx hb hg iX12 hown hK hW kd_66 rfl 42 (by decide) (hg (Cond.fieldLink RX12 96 "SlabWalkModel" "mosts" "[I") m1356) (fun _ h9 => h9) rfl dX12_go_182 ?_
              refine lv_iload_n hx hb dX12_go_185 rfl (lv_at hl 2 rfl) ?_
              refine S_iald hx hb hK hW kd_94 (vin (by omega) (by omega)) dX12_go_186 (fun y_123 ey_123 => ?_)
              have ty_123 : 0 ≤ y_123.toInt ∧ y_123.toInt ≤ 60 := hB_G_54.v ey_123 rfl rfl
              have u_124 : y_123.toInt = (G.1 94 y_7.toNatClampNeg).toInt := congrArg Int32.toInt (ey_123.trans (((hq_55.ri 94 (by decide) (by decide) y_7.toNatClampNeg).trans ((gp_ne eG_43 (fun q => absurd q.1 (by decide))).trans ((hq_37.ri 94 (by decide) (by decide) y_7.toNatClampNeg).trans ((hq_30.ri 94 (by decide) (by decide) y_7.toNatClampNeg).trans ((hq_24.ri 94 (by decide) (by decide) y_7.toNatClampNeg).trans (hq_20.ri 94 (by decide) (by decide) y_7.toNatClampNeg))))))))
              refine lv_icmp_le (tgt := 194) hx hb dX12_go_187 (by decide) (fun c_125 => ?_) (fun c_125 => ?_)
              · have c_125 : p0.toInt ≤ y_123.toInt := xI_le rfl rfl c_125
                refine lv_iconst (v := 0) hx hb dX12_go_194 (by decide) ?_
                have qc_126 : (0 : Int32).toInt = 0 := rfl
                exact hJ_69 0 _ _ _ ⟨G_54, y_122, ⟨by omega, by omega⟩, hW, hB_G_54, hF, Fr.rf, hS, lv_sub hl [0, 3] rfl⟩
              · have c_125 : y_123.toInt < p0.toInt := xI_nle rfl rfl c_125
                refine lv_iconst (v := 1) hx hb dX12_go_190 (by decide) ?_
                refine lv_goto (tgt := 195) hx hb dX12_go_191 (by decide) ?_
                have qc_127 : (1 : Int32).toInt = 1 := rfl
                exact hJ_69 1 _ _ _ ⟨G_54, y_122, ⟨by omega, by omega⟩, hW, hB_G_54, hF, Fr.rf, hS, lv_sub hl [0, 3] rfl⟩
            · have c_121 : y_58.toInt < y_120.toInt := xI_nle rfl rfl c_121
              refine lv_iconst (v := 0) hx hb dX12_go_167 (by decide) ?_
              refine lv_goto (tgt := 172) hx hb dX12_go_168 (by decide) ?_
              refine lv_iadd hx hb dX12_go_172 ?_
              refine lv_topi (fun y_128 ey_128 => ?_)
              have e_129 := tI_rng y_60
              have ty_128 : y_128.toInt = y_60.toInt + 0 := xI_add rfl rfl ey_128 (by omega) (by omega)
              refine lv_istore (lv' := [(4, .int y_128), (3, .int y_58), (2, .int y_7), (0, .ref (a 66)), (1, .int p0)]) hx hb dX12_go_173 hl (by decide) rfl (fun ls hl => ?_)
              refine lv_aload_n hx hb dX12_go_175 rfl (lv_at hl 3 rfl) ?_
              refine S_getR (n := 110) (C := RX12) (T := TX12) (N := 89) hx hb hg iX12 hown hK hW kd_66 rfl 76 (by decide) (hg (Cond.fieldLink RX12 151 "SlabWalkModel" "now" "[I") m1390) (fun _ h9 => h9) rfl dX12_go_176 ?_
              refine lv_iconst (v := 5) hx hb dX12_go_179 (by decide) ?_
              refine lv_iload_n hx hb dX12_go_180 rfl (lv_at hl 4 rfl) ?_
              refine lv_aload_n hx hb dX12_go_181 rfl (lv_at hl 3 rfl) ?_
              refine S_getR (n := 94) (C := RX12) (T := TX12) (N := 89) hx hb hg iX12 hown hK hW kd_66 rfl 42 (by decide) (hg (Cond.fieldLink RX12 96 "SlabWalkModel" "mosts" "[I") m1356) (fun _ h9 => h9) rfl dX12_go_182 ?_
              refine lv_iload_n hx hb dX12_go_185 rfl (lv_at hl 2 rfl) ?_
              refine S_iald hx hb hK hW kd_94 (vin (by omega) (by omega)) dX12_go_186 (fun y_130 ey_130 => ?_)
              have ty_130 : 0 ≤ y_130.toInt ∧ y_130.toInt ≤ 60 := hB_G_54.v ey_130 rfl rfl
              have u_131 : y_130.toInt = (G.1 94 y_7.toNatClampNeg).toInt := congrArg Int32.toInt (ey_130.trans (((hq_55.ri 94 (by decide) (by decide) y_7.toNatClampNeg).trans ((gp_ne eG_43 (fun q => absurd q.1 (by decide))).trans ((hq_37.ri 94 (by decide) (by decide) y_7.toNatClampNeg).trans ((hq_30.ri 94 (by decide) (by decide) y_7.toNatClampNeg).trans ((hq_24.ri 94 (by decide) (by decide) y_7.toNatClampNeg).trans (hq_20.ri 94 (by decide) (by decide) y_7.toNatClampNeg))))))))
              refine lv_icmp_le (tgt := 194) hx hb dX12_go_187 (by decide) (fun c_132 => ?_) (fun c_132 => ?_)
              · have c_132 : p0.toInt ≤ y_130.toInt := xI_le rfl rfl c_132
                refine lv_iconst (v := 0) hx hb dX12_go_194 (by decide) ?_
                have qc_133 : (0 : Int32).toInt = 0 := rfl
                exact hJ_69 0 _ _ _ ⟨G_54, y_128, ⟨by omega, by omega⟩, hW, hB_G_54, hF, Fr.rf, hS, lv_sub hl [0, 3] rfl⟩
              · have c_132 : y_130.toInt < p0.toInt := xI_nle rfl rfl c_132
                refine lv_iconst (v := 1) hx hb dX12_go_190 (by decide) ?_
                refine lv_goto (tgt := 195) hx hb dX12_go_191 (by decide) ?_
                have qc_134 : (1 : Int32).toInt = 1 := rfl
                exact hJ_69 1 _ _ _ ⟨G_54, y_128, ⟨by omega, by omega⟩, hW, hB_G_54, hF, Fr.rf, hS, lv_sub hl [0, 3] rfl⟩
          · have c_115 : y_58.toInt < y_61.toInt := xI_nle rfl rfl c_115
            refine lv_iconst (v := (-1)) hx hb dX12_go_146 (by decide) ?_
            refine lv_goto (tgt := 172) hx hb dX12_go_147 (by decide) ?_
            refine lv_iadd hx hb dX12_go_172 ?_
            refine lv_topi (fun y_135 ey_135 => ?_)
            refine lv_istore (lv' := [(4, .int y_135), (3, .int y_58), (2, .int y_7), (0, .ref (a 66)), (1, .int p0)]) hx hb dX12_go_173 hl (by decide) rfl (fun ls hl => ?_)
            refine lv_aload_n hx hb dX12_go_175 rfl (lv_at hl 3 rfl) ?_
            refine S_getR (n := 110) (C := RX12) (T := TX12) (N := 89) hx hb hg iX12 hown hK hW kd_66 rfl 76 (by decide) (hg (Cond.fieldLink RX12 151 "SlabWalkModel" "now" "[I") m1390) (fun _ h9 => h9) rfl dX12_go_176 ?_
            refine lv_iconst (v := 5) hx hb dX12_go_179 (by decide) ?_
            refine lv_iload_n hx hb dX12_go_180 rfl (lv_at hl 4 rfl) ?_
            refine lv_aload_n hx hb dX12_go_181 rfl (lv_at hl 3 rfl) ?_
            refine S_getR (n := 94) (C := RX12) (T := TX12) (N := 89) hx hb hg iX12 hown hK hW kd_66 rfl 42 (by decide) (hg (Cond.fieldLink RX12 96 "SlabWalkModel" "mosts" "[I") m1356) (fun _ h9 => h9) rfl dX12_go_182 ?_
            refine lv_iload_n hx hb dX12_go_185 rfl (lv_at hl 2 rfl) ?_
            refine S_iald hx hb hK hW kd_94 (vin (by omega) (by omega)) dX12_go_186 (fun y_136 ey_136 => ?_)
            have ty_136 : 0 ≤ y_136.toInt ∧ y_136.toInt ≤ 60 := hB_G_54.v ey_136 rfl rfl
            have u_137 : y_136.toInt = (G.1 94 y_7.toNatClampNeg).toInt := congrArg Int32.toInt (ey_136.trans (((hq_55.ri 94 (by decide) (by decide) y_7.toNatClampNeg).trans ((gp_ne eG_43 (fun q => absurd q.1 (by decide))).trans ((hq_37.ri 94 (by decide) (by decide) y_7.toNatClampNeg).trans ((hq_30.ri 94 (by decide) (by decide) y_7.toNatClampNeg).trans ((hq_24.ri 94 (by decide) (by decide) y_7.toNatClampNeg).trans (hq_20.ri 94 (by decide) (by decide) y_7.toNatClampNeg))))))))
            refine lv_icmp_le (tgt := 194) hx hb dX12_go_187 (by decide) (fun c_138 => ?_) (fun c_138 => ?_)
            · have c_138 : p0.toInt ≤ y_136.toInt := xI_le rfl rfl c_138
              refine lv_iconst (v := 0) hx hb dX12_go_194 (by decide) ?_
              have qc_139 : (0 : Int32).toInt = 0 := rfl
              exact hJ_69 0 _ _ _ ⟨G_54, y_135, ⟨by omega, by omega⟩, hW, hB_G_54, hF, Fr.rf, hS, lv_sub hl [0, 3] rfl⟩
            · have c_138 : y_136.toInt < p0.toInt := xI_nle rfl rfl c_138
              refine lv_iconst (v := 1) hx hb dX12_go_190 (by decide) ?_
              refine lv_goto (tgt := 195) hx hb dX12_go_191 (by decide) ?_
              have qc_140 : (1 : Int32).toInt = 1 := rfl
              exact hJ_69 1 _ _ _ ⟨G_54, y_135, ⟨by omega, by omega⟩, hW, hB_G_54, hF, Fr.rf, hS, lv_sub hl [0, 3] rfl⟩
        · have c_27 : r_22.toInt = 0 := xI_eq rfl rfl c_27
          refine lv_iconst (v := (-1)) hx hb dX12_go_66 (by decide) ?_
          have b_141 : 0 ≤ (G.1 66 78).toInt ∧ (G.1 66 78).toInt ≤ 40 := hB_G.i 66 78 rfl rfl
          have g_142 : (G_23.1 66 78).toInt = (G.1 66 78).toInt := by rw [show G_23.1 66 78 = (G.1 66 78) from ((hq_24.i 66 78 (by decide) (by decide)).trans (hq_20.i 66 78 (by decide) (by decide)))]
          have b_143 : 0 ≤ (G.1 66 79).toInt ∧ (G.1 66 79).toInt ≤ 40 := hB_G.i 66 79 rfl rfl
          have g_144 : (G_23.1 66 79).toInt = (G.1 66 79).toInt := by rw [show G_23.1 66 79 = (G.1 66 79) from ((hq_24.i 66 79 (by decide) (by decide)).trans (hq_20.i 66 79 (by decide) (by decide)))]
          exact W.iret (v := (-1)) hx hb hr (fun t ht _ => ⟨⟨(-1), G_23, rfl, ⟨hB_G_23, hF, (by have hq : ((-1) : Int32).toInt = (-1) := rfl; (try dsimp only); omega)⟩, wd_t ht hW⟩, hS.F ht⟩) hS.2.2 dX12_go_67
      refine lv_icmp_ne (tgt := 54) hx hb dX12_go_42 (by decide) (fun c_145 => ?_) (fun c_145 => ?_)
      · have c_145 : y_11.toInt ≠ 1 := xI_ne rfl rfl c_145
        refine lv_aload_n hx hb dX12_go_54 rfl (lv_at hl 1 rfl) ?_
        refine S_getR (n := 95) (C := RX12) (T := TX12) (N := 89) hx hb hg iX12 hown hK hW kd_66 rfl 43 (by decide) (hg (Cond.fieldLink RX12 99 "SlabWalkModel" "leaps" "[I") m1357) (fun _ h9 => h9) rfl dX12_go_55 ?_
        refine lv_iload_n hx hb dX12_go_58 rfl (lv_at hl 0 rfl) ?_
        refine S_iald hx hb hK hW kd_95 (vin (by omega) (by omega)) dX12_go_59 (fun y_146 ey_146 => ?_)
        have ty_146 : 0 ≤ y_146.toInt ∧ y_146.toInt ≤ 99 := hB_G.v ey_146 rfl rfl
        have u_147 : y_146.toInt = (G.1 95 y_7.toNatClampNeg).toInt := congrArg Int32.toInt (ey_146)
        exact hJ_19 y_146 _ _ _ ⟨G, ⟨by omega, by omega⟩, hW, hB_G, hF, Fr.rf, hS, lv_sub hl [0, 1, 2] rfl⟩
      · have c_145 : y_11.toInt = 1 := xI_eq rfl rfl c_145
        refine lv_aload_n hx hb dX12_go_45 rfl (lv_at hl 1 rfl) ?_
        refine S_getR (n := 94) (C := RX12) (T := TX12) (N := 89) hx hb hg iX12 hown hK hW kd_66 rfl 42 (by decide) (hg (Cond.fieldLink RX12 96 "SlabWalkModel" "mosts" "[I") m1356) (fun _ h9 => h9) rfl dX12_go_46 ?_
        refine lv_iload_n hx hb dX12_go_49 rfl (lv_at hl 0 rfl) ?_
        refine S_iald hx hb hK hW kd_94 (vin (by omega) (by omega)) dX12_go_50 (fun y_148 ey_148 => ?_)
        have ty_148 : 0 ≤ y_148.toInt ∧ y_148.toInt ≤ 60 := hB_G.v ey_148 rfl rfl
        have u_149 : y_148.toInt = (G.1 94 y_7.toNatClampNeg).toInt := congrArg Int32.toInt (ey_148)
        refine lv_goto (tgt := 60) hx hb dX12_go_51 (by decide) ?_
        exact hJ_19 y_148 _ _ _ ⟨G, ⟨by omega, by omega⟩, hW, hB_G, hF, Fr.rf, hS, lv_sub hl [0, 1, 2] rfl⟩
    · have c_6 : y_5.toInt ≠ 1 := xI_ne rfl rfl c_6
      refine lv_iconst (v := (-1)) hx hb dX12_go_19 (by decide) ?_
      have b_150 : 0 ≤ (G.1 66 78).toInt ∧ (G.1 66 78).toInt ≤ 40 := hB_G.i 66 78 rfl rfl
      have b_151 : 0 ≤ (G.1 66 79).toInt ∧ (G.1 66 79).toInt ≤ 40 := hB_G.i 66 79 rfl rfl
      exact W.iret (v := (-1)) hx hb hr (fun t ht _ => ⟨⟨(-1), G, rfl, ⟨hB_G, hF, (by have hq : ((-1) : Int32).toInt = (-1) := rfl; (try dsimp only); omega)⟩, wd_t ht hW⟩, hS.F ht⟩) hS.2.2 dX12_go_20
