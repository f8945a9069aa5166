theorem m102 : Cond.selects RX12 yX12_keepOn yX12_keepOn ∈ gd := gd_mem 102 (by decide +kernel) (by decide +kernel)
theorem m112 : Cond.selects RX12 yX12_stands yX12_stands ∈ gd := gd_mem 112 (by decide +kernel) (by decide +kernel)
theorem m1935 : Cond.methodLink RX12 550 yX12_keepOn ∈ gd := gd_mem 1935 (by decide +kernel) (by decide +kernel)
theorem m1937 : Cond.instanceMethod yX12_keepOn ∈ gd := gd_mem 1937 (by decide +kernel) (by decide +kernel)
theorem m1938 : Cond.code yX12_keepOn cX12_keepOn 6 none ∈ gd := gd_mem 1938 (by decide +kernel) (by decide +kernel)
theorem m1995 : Cond.methodLink RX12 584 yX12_stands ∈ gd := gd_mem 1995 (by decide +kernel) (by decide +kernel)
theorem m1997 : Cond.instanceMethod yX12_stands ∈ gd := gd_mem 1997 (by decide +kernel) (by decide +kernel)
theorem m1998 : Cond.code yX12_stands cX12_stands 2 (some .int) ∈ gd := gd_mem 1998 (by decide +kernel) (by decide +kernel)
theorem dX12_keeps_0 : decode cX12_keeps 0 = .ok (.aload_n 0, 1) := by decide +kernel
theorem dX12_keeps_1 : decode cX12_keeps 1 = .ok (.iload_n 1, 1) := by decide +kernel
theorem dX12_keeps_2 : decode cX12_keeps 2 = .ok (.iload_n 2, 1) := by decide +kernel
theorem dX12_keeps_3 : decode cX12_keeps 3 = .ok (.iload_n 3, 1) := by decide +kernel
theorem dX12_keeps_4 : decode cX12_keeps 4 = .ok (.invokevirtual 490, 3) := by decide +kernel
theorem dX12_keeps_7 : decode cX12_keeps 7 = .ok (.ifCond .ne 5, 3) := by decide +kernel
theorem dX12_keeps_10 : decode cX12_keeps 10 = .ok (.iconst (-1), 1) := by decide +kernel
theorem dX12_keeps_11 : decode cX12_keeps 11 = .ok (.ireturn, 1) := by decide +kernel
theorem dX12_keeps_12 : decode cX12_keeps 12 = .ok (.aload_n 0, 1) := by decide +kernel
theorem dX12_keeps_13 : decode cX12_keeps 13 = .ok (.iload_n 1, 1) := by decide +kernel
theorem dX12_keeps_14 : decode cX12_keeps 14 = .ok (.iload_n 2, 1) := by decide +kernel
theorem dX12_keeps_15 : decode cX12_keeps 15 = .ok (.iload_n 3, 1) := by decide +kernel
theorem dX12_keeps_16 : decode cX12_keeps 16 = .ok (.invokevirtual 493, 3) := by decide +kernel
theorem dX12_keeps_19 : decode cX12_keeps 19 = .ok (.iconst 0, 1) := by decide +kernel
theorem dX12_keeps_20 : decode cX12_keeps 20 = .ok (.istore 4, 2) := by decide +kernel
theorem dX12_keeps_22 : decode cX12_keeps 22 = .ok (.iload 4, 2) := by decide +kernel
theorem dX12_keeps_24 : decode cX12_keeps 24 = .ok (.sipush 1024, 3) := by decide +kernel
theorem dX12_keeps_27 : decode cX12_keeps 27 = .ok (.if_icmp .ge 75, 3) := by decide +kernel
theorem dX12_keeps_30 : decode cX12_keeps 30 = .ok (.aload_n 0, 1) := by decide +kernel
theorem dX12_keeps_31 : decode cX12_keeps 31 = .ok (.getfield 133, 3) := by decide +kernel
theorem dX12_keeps_34 : decode cX12_keeps 34 = .ok (.iload 4, 2) := by decide +kernel
theorem dX12_keeps_36 : decode cX12_keeps 36 = .ok (.iload 4, 2) := by decide +kernel
theorem dX12_keeps_38 : decode cX12_keeps 38 = .ok (.iconst 2, 1) := by decide +kernel
theorem dX12_keeps_39 : decode cX12_keeps 39 = .ok (.irem, 1) := by decide +kernel
theorem dX12_keeps_40 : decode cX12_keeps 40 = .ok (.ifCond .ne 52, 3) := by decide +kernel
theorem dX12_keeps_43 : decode cX12_keeps 43 = .ok (.iload 4, 2) := by decide +kernel
theorem dX12_keeps_45 : decode cX12_keeps 45 = .ok (.iconst 2, 1) := by decide +kernel
theorem dX12_keeps_46 : decode cX12_keeps 46 = .ok (.idiv, 1) := by decide +kernel
theorem dX12_keeps_47 : decode cX12_keeps 47 = .ok (.aload_n 0, 1) := by decide +kernel
theorem dX12_keeps_48 : decode cX12_keeps 48 = .ok (.getfield 478, 3) := by decide +kernel
theorem dX12_keeps_51 : decode cX12_keeps 51 = .ok (.if_icmp .ge 41, 3) := by decide +kernel
theorem dX12_keeps_54 : decode cX12_keeps 54 = .ok (.iload 4, 2) := by decide +kernel
theorem dX12_keeps_56 : decode cX12_keeps 56 = .ok (.iconst 2, 1) := by decide +kernel
theorem dX12_keeps_57 : decode cX12_keeps 57 = .ok (.idiv, 1) := by decide +kernel
theorem dX12_keeps_58 : decode cX12_keeps 58 = .ok (.sipush 400, 3) := by decide +kernel
theorem dX12_keeps_61 : decode cX12_keeps 61 = .ok (.if_icmp .ge 31, 3) := by decide +kernel
theorem dX12_keeps_64 : decode cX12_keeps 64 = .ok (.aload_n 0, 1) := by decide +kernel
theorem dX12_keeps_65 : decode cX12_keeps 65 = .ok (.getfield 115, 3) := by decide +kernel
theorem dX12_keeps_68 : decode cX12_keeps 68 = .ok (.iload 4, 2) := by decide +kernel
theorem dX12_keeps_70 : decode cX12_keeps 70 = .ok (.iconst 2, 1) := by decide +kernel
theorem dX12_keeps_71 : decode cX12_keeps 71 = .ok (.idiv, 1) := by decide +kernel
theorem dX12_keeps_72 : decode cX12_keeps 72 = .ok (.baload, 1) := by decide +kernel
theorem dX12_keeps_73 : decode cX12_keeps 73 = .ok (.ifCond .eq 19, 3) := by decide +kernel
theorem dX12_keeps_76 : decode cX12_keeps 76 = .ok (.aload_n 0, 1) := by decide +kernel
theorem dX12_keeps_77 : decode cX12_keeps 77 = .ok (.iload 4, 2) := by decide +kernel
theorem dX12_keeps_79 : decode cX12_keeps 79 = .ok (.iconst 2, 1) := by decide +kernel
theorem dX12_keeps_80 : decode cX12_keeps 80 = .ok (.idiv, 1) := by decide +kernel
theorem dX12_keeps_81 : decode cX12_keeps 81 = .ok (.iconst 0, 1) := by decide +kernel
theorem dX12_keeps_82 : decode cX12_keeps 82 = .ok (.invokevirtual 547, 3) := by decide +kernel
theorem dX12_keeps_85 : decode cX12_keeps 85 = .ok (.ifCond .eq 7, 3) := by decide +kernel
theorem dX12_keeps_88 : decode cX12_keeps 88 = .ok (.iconst 0, 1) := by decide +kernel
theorem dX12_keeps_89 : decode cX12_keeps 89 = .ok (.goto 6, 3) := by decide +kernel
theorem dX12_keeps_92 : decode cX12_keeps 92 = .ok (.ldc_w 502, 3) := by decide +kernel
theorem dX12_keeps_95 : decode cX12_keeps 95 = .ok (.iastore, 1) := by decide +kernel
theorem dX12_keeps_96 : decode cX12_keeps 96 = .ok (.iinc 4 1, 3) := by decide +kernel
theorem dX12_keeps_99 : decode cX12_keeps 99 = .ok (.goto (-77), 3) := by decide +kernel
theorem dX12_keeps_102 : decode cX12_keeps 102 = .ok (.ldc_w 502, 3) := by decide +kernel
theorem dX12_keeps_105 : decode cX12_keeps 105 = .ok (.istore 4, 2) := by decide +kernel
theorem dX12_keeps_107 : decode cX12_keeps 107 = .ok (.iconst 1, 1) := by decide +kernel
theorem dX12_keeps_108 : decode cX12_keeps 108 = .ok (.istore 5, 2) := by decide +kernel
theorem dX12_keeps_110 : decode cX12_keeps 110 = .ok (.iload 5, 2) := by decide +kernel
theorem dX12_keeps_112 : decode cX12_keeps 112 = .ok (.sipush 400, 3) := by decide +kernel
theorem dX12_keeps_115 : decode cX12_keeps 115 = .ok (.if_icmp .gt 136, 3) := by decide +kernel
theorem dX12_keeps_118 : decode cX12_keeps 118 = .ok (.iconst 0, 1) := by decide +kernel
theorem dX12_keeps_119 : decode cX12_keeps 119 = .ok (.istore 6, 2) := by decide +kernel
theorem dX12_keeps_121 : decode cX12_keeps 121 = .ok (.iload 6, 2) := by decide +kernel
theorem dX12_keeps_123 : decode cX12_keeps 123 = .ok (.sipush 1024, 3) := by decide +kernel
theorem dX12_keeps_126 : decode cX12_keeps 126 = .ok (.if_icmp .ge 19, 3) := by decide +kernel
theorem dX12_keeps_129 : decode cX12_keeps 129 = .ok (.aload_n 0, 1) := by decide +kernel
theorem dX12_keeps_130 : decode cX12_keeps 130 = .ok (.getfield 136, 3) := by decide +kernel
theorem dX12_keeps_133 : decode cX12_keeps 133 = .ok (.iload 6, 2) := by decide +kernel
theorem dX12_keeps_135 : decode cX12_keeps 135 = .ok (.ldc_w 502, 3) := by decide +kernel
theorem dX12_keeps_138 : decode cX12_keeps 138 = .ok (.iastore, 1) := by decide +kernel
theorem dX12_keeps_139 : decode cX12_keeps 139 = .ok (.iinc 6 1, 3) := by decide +kernel
theorem dX12_keeps_142 : decode cX12_keeps 142 = .ok (.goto (-21), 3) := by decide +kernel
theorem dX12_keeps_145 : decode cX12_keeps 145 = .ok (.iconst 0, 1) := by decide +kernel
theorem dX12_keeps_146 : decode cX12_keeps 146 = .ok (.istore 6, 2) := by decide +kernel
theorem dX12_keeps_148 : decode cX12_keeps 148 = .ok (.iload 6, 2) := by decide +kernel
theorem dX12_keeps_150 : decode cX12_keeps 150 = .ok (.sipush 800, 3) := by decide +kernel
theorem dX12_keeps_153 : decode cX12_keeps 153 = .ok (.if_icmp .ge 61, 3) := by decide +kernel
theorem dX12_keeps_156 : decode cX12_keeps 156 = .ok (.aload_n 0, 1) := by decide +kernel
theorem dX12_keeps_157 : decode cX12_keeps 157 = .ok (.getfield 133, 3) := by decide +kernel
theorem dX12_keeps_160 : decode cX12_keeps 160 = .ok (.iload 6, 2) := by decide +kernel
theorem dX12_keeps_162 : decode cX12_keeps 162 = .ok (.iaload, 1) := by decide +kernel
theorem dX12_keeps_163 : decode cX12_keeps 163 = .ok (.ldc_w 502, 3) := by decide +kernel
theorem dX12_keeps_166 : decode cX12_keeps 166 = .ok (.if_icmp .ne 6, 3) := by decide +kernel
theorem dX12_keeps_169 : decode cX12_keeps 169 = .ok (.goto 39, 3) := by decide +kernel
theorem dX12_keeps_172 : decode cX12_keeps 172 = .ok (.aload_n 0, 1) := by decide +kernel
theorem dX12_keeps_173 : decode cX12_keeps 173 = .ok (.iload 6, 2) := by decide +kernel
theorem dX12_keeps_175 : decode cX12_keeps 175 = .ok (.iconst 2, 1) := by decide +kernel
theorem dX12_keeps_176 : decode cX12_keeps 176 = .ok (.idiv, 1) := by decide +kernel
theorem dX12_keeps_177 : decode cX12_keeps 177 = .ok (.invokevirtual 499, 3) := by decide +kernel
theorem dX12_keeps_180 : decode cX12_keeps 180 = .ok (.ifCond .eq 20, 3) := by decide +kernel
theorem dX12_keeps_183 : decode cX12_keeps 183 = .ok (.iload 4, 2) := by decide +kernel
theorem dX12_keeps_185 : decode cX12_keeps 185 = .ok (.aload_n 0, 1) := by decide +kernel
theorem dX12_keeps_186 : decode cX12_keeps 186 = .ok (.getfield 133, 3) := by decide +kernel
theorem dX12_keeps_189 : decode cX12_keeps 189 = .ok (.iload 6, 2) := by decide +kernel
theorem dX12_keeps_191 : decode cX12_keeps 191 = .ok (.iaload, 1) := by decide +kernel
theorem dX12_keeps_192 : decode cX12_keeps 192 = .ok (.invokestatic 506, 3) := by decide +kernel
theorem dX12_keeps_195 : decode cX12_keeps 195 = .ok (.istore 4, 2) := by decide +kernel
theorem dX12_keeps_197 : decode cX12_keeps 197 = .ok (.goto 11, 3) := by decide +kernel
theorem dX12_keeps_200 : decode cX12_keeps 200 = .ok (.aload_n 0, 1) := by decide +kernel
theorem dX12_keeps_201 : decode cX12_keeps 201 = .ok (.iload 6, 2) := by decide +kernel
theorem dX12_keeps_203 : decode cX12_keeps 203 = .ok (.iload 5, 2) := by decide +kernel
theorem dX12_keeps_205 : decode cX12_keeps 205 = .ok (.invokevirtual 550, 3) := by decide +kernel
theorem dX12_keeps_208 : decode cX12_keeps 208 = .ok (.iinc 6 1, 3) := by decide +kernel
theorem dX12_keeps_211 : decode cX12_keeps 211 = .ok (.goto (-63), 3) := by decide +kernel
theorem dX12_keeps_214 : decode cX12_keeps 214 = .ok (.iconst 0, 1) := by decide +kernel
theorem dX12_keeps_215 : decode cX12_keeps 215 = .ok (.istore 6, 2) := by decide +kernel
theorem dX12_keeps_217 : decode cX12_keeps 217 = .ok (.iload 6, 2) := by decide +kernel
theorem dX12_keeps_219 : decode cX12_keeps 219 = .ok (.sipush 1024, 3) := by decide +kernel
theorem dX12_keeps_222 : decode cX12_keeps 222 = .ok (.if_icmp .ge 23, 3) := by decide +kernel
theorem dX12_keeps_225 : decode cX12_keeps 225 = .ok (.aload_n 0, 1) := by decide +kernel
theorem dX12_keeps_226 : decode cX12_keeps 226 = .ok (.getfield 133, 3) := by decide +kernel
theorem dX12_keeps_229 : decode cX12_keeps 229 = .ok (.iload 6, 2) := by decide +kernel
theorem dX12_keeps_231 : decode cX12_keeps 231 = .ok (.aload_n 0, 1) := by decide +kernel
theorem dX12_keeps_232 : decode cX12_keeps 232 = .ok (.getfield 136, 3) := by decide +kernel
theorem dX12_keeps_235 : decode cX12_keeps 235 = .ok (.iload 6, 2) := by decide +kernel
theorem dX12_keeps_237 : decode cX12_keeps 237 = .ok (.iaload, 1) := by decide +kernel
theorem dX12_keeps_238 : decode cX12_keeps 238 = .ok (.iastore, 1) := by decide +kernel
theorem dX12_keeps_239 : decode cX12_keeps 239 = .ok (.iinc 6 1, 3) := by decide +kernel
theorem dX12_keeps_242 : decode cX12_keeps 242 = .ok (.goto (-25), 3) := by decide +kernel
theorem dX12_keeps_245 : decode cX12_keeps 245 = .ok (.iinc 5 1, 3) := by decide +kernel
theorem dX12_keeps_248 : decode cX12_keeps 248 = .ok (.goto (-138), 3) := by decide +kernel
theorem dX12_keeps_251 : decode cX12_keeps 251 = .ok (.iload 4, 2) := by decide +kernel
theorem dX12_keeps_253 : decode cX12_keeps 253 = .ok (.ldc_w 502, 3) := by decide +kernel
theorem dX12_keeps_256 : decode cX12_keeps 256 = .ok (.if_icmp .ne 7, 3) := by decide +kernel
theorem dX12_keeps_259 : decode cX12_keeps 259 = .ok (.iconst (-1), 1) := by decide +kernel
theorem dX12_keeps_260 : decode cX12_keeps 260 = .ok (.goto 5, 3) := by decide +kernel
theorem dX12_keeps_263 : decode cX12_keeps 263 = .ok (.iload 4, 2) := by decide +kernel
theorem dX12_keeps_265 : decode cX12_keeps 265 = .ok (.ireturn, 1) := by decide +kernel
theorem dX12_walk_0 : decode cX12_walk 0 = .ok (.aload_n 0, 1) := by decide +kernel
theorem dX12_walk_1 : decode cX12_walk 1 = .ok (.iload_n 1, 1) := by decide +kernel
theorem dX12_walk_2 : decode cX12_walk 2 = .ok (.invokevirtual 487, 3) := by decide +kernel
theorem dX12_walk_5 : decode cX12_walk 5 = .ok (.ifCond .eq 27, 3) := by decide +kernel
theorem dX12_walk_8 : decode cX12_walk 8 = .ok (.aload_n 0, 1) := by decide +kernel
theorem dX12_walk_9 : decode cX12_walk 9 = .ok (.iload_n 2, 1) := by decide +kernel
theorem dX12_walk_10 : decode cX12_walk 10 = .ok (.invokevirtual 453, 3) := by decide +kernel
theorem dX12_walk_13 : decode cX12_walk 13 = .ok (.ifCond .eq 19, 3) := by decide +kernel
theorem dX12_walk_16 : decode cX12_walk 16 = .ok (.iload_n 3, 1) := by decide +kernel
theorem dX12_walk_17 : decode cX12_walk 17 = .ok (.iconst 0, 1) := by decide +kernel
theorem dX12_walk_18 : decode cX12_walk 18 = .ok (.aload_n 0, 1) := by decide +kernel
theorem dX12_walk_19 : decode cX12_walk 19 = .ok (.getfield 96, 3) := by decide +kernel
theorem dX12_walk_22 : decode cX12_walk 22 = .ok (.iload_n 1, 1) := by decide +kernel
theorem dX12_walk_23 : decode cX12_walk 23 = .ok (.iaload, 1) := by decide +kernel
theorem dX12_walk_24 : decode cX12_walk 24 = .ok (.iconst 1, 1) := by decide +kernel
theorem dX12_walk_25 : decode cX12_walk 25 = .ok (.isub, 1) := by decide +kernel
theorem dX12_walk_26 : decode cX12_walk 26 = .ok (.invokestatic 449, 3) := by decide +kernel
theorem dX12_walk_29 : decode cX12_walk 29 = .ok (.ifCond .ne 5, 3) := by decide +kernel
theorem dX12_walk_32 : decode cX12_walk 32 = .ok (.iconst (-1), 1) := by decide +kernel
theorem dX12_walk_33 : decode cX12_walk 33 = .ok (.ireturn, 1) := by decide +kernel
theorem dX12_walk_34 : decode cX12_walk 34 = .ok (.aload_n 0, 1) := by decide +kernel
theorem dX12_walk_35 : decode cX12_walk 35 = .ok (.iload_n 1, 1) := by decide +kernel
theorem dX12_walk_36 : decode cX12_walk 36 = .ok (.iload_n 2, 1) := by decide +kernel
theorem dX12_walk_37 : decode cX12_walk 37 = .ok (.aload_n 0, 1) := by decide +kernel
theorem dX12_walk_38 : decode cX12_walk 38 = .ok (.getfield 151, 3) := by decide +kernel
theorem dX12_walk_41 : decode cX12_walk 41 = .ok (.bipush 8, 2) := by decide +kernel
theorem dX12_walk_43 : decode cX12_walk 43 = .ok (.iaload, 1) := by decide +kernel
theorem dX12_walk_44 : decode cX12_walk 44 = .ok (.invokevirtual 493, 3) := by decide +kernel
theorem dX12_walk_47 : decode cX12_walk 47 = .ok (.aload_n 0, 1) := by decide +kernel
theorem dX12_walk_48 : decode cX12_walk 48 = .ok (.iload_n 3, 1) := by decide +kernel
theorem dX12_walk_49 : decode cX12_walk 49 = .ok (.invokevirtual 484, 3) := by decide +kernel
theorem dX12_walk_52 : decode cX12_walk 52 = .ok (.ifCond .ne 5, 3) := by decide +kernel
theorem dX12_walk_55 : decode cX12_walk 55 = .ok (.iconst (-1), 1) := by decide +kernel
theorem dX12_walk_56 : decode cX12_walk 56 = .ok (.ireturn, 1) := by decide +kernel
theorem dX12_walk_57 : decode cX12_walk 57 = .ok (.aload_n 0, 1) := by decide +kernel
theorem dX12_walk_58 : decode cX12_walk 58 = .ok (.invokevirtual 581, 3) := by decide +kernel
theorem dX12_walk_61 : decode cX12_walk 61 = .ok (.aload_n 0, 1) := by decide +kernel
theorem dX12_walk_62 : decode cX12_walk 62 = .ok (.getfield 151, 3) := by decide +kernel
theorem dX12_walk_65 : decode cX12_walk 65 = .ok (.iconst 0, 1) := by decide +kernel
theorem dX12_walk_66 : decode cX12_walk 66 = .ok (.iload_n 1, 1) := by decide +kernel
theorem dX12_walk_67 : decode cX12_walk 67 = .ok (.iastore, 1) := by decide +kernel
theorem dX12_walk_68 : decode cX12_walk 68 = .ok (.aload_n 0, 1) := by decide +kernel
theorem dX12_walk_69 : decode cX12_walk 69 = .ok (.getfield 151, 3) := by decide +kernel
theorem dX12_walk_72 : decode cX12_walk 72 = .ok (.iconst 1, 1) := by decide +kernel
theorem dX12_walk_73 : decode cX12_walk 73 = .ok (.iload_n 2, 1) := by decide +kernel
theorem dX12_walk_74 : decode cX12_walk 74 = .ok (.iastore, 1) := by decide +kernel
theorem dX12_walk_75 : decode cX12_walk 75 = .ok (.aload_n 0, 1) := by decide +kernel
theorem dX12_walk_76 : decode cX12_walk 76 = .ok (.getfield 151, 3) := by decide +kernel
theorem dX12_walk_79 : decode cX12_walk 79 = .ok (.iconst 2, 1) := by decide +kernel
theorem dX12_walk_80 : decode cX12_walk 80 = .ok (.iload_n 3, 1) := by decide +kernel
theorem dX12_walk_81 : decode cX12_walk 81 = .ok (.iastore, 1) := by decide +kernel
theorem dX12_walk_82 : decode cX12_walk 82 = .ok (.aload_n 0, 1) := by decide +kernel
theorem dX12_walk_83 : decode cX12_walk 83 = .ok (.getfield 151, 3) := by decide +kernel
theorem dX12_walk_86 : decode cX12_walk 86 = .ok (.iconst 3, 1) := by decide +kernel
theorem dX12_walk_87 : decode cX12_walk 87 = .ok (.iconst 1, 1) := by decide +kernel
theorem dX12_walk_88 : decode cX12_walk 88 = .ok (.iastore, 1) := by decide +kernel
theorem dX12_walk_89 : decode cX12_walk 89 = .ok (.aload_n 0, 1) := by decide +kernel
theorem dX12_walk_90 : decode cX12_walk 90 = .ok (.getfield 151, 3) := by decide +kernel
theorem dX12_walk_93 : decode cX12_walk 93 = .ok (.iconst 4, 1) := by decide +kernel
theorem dX12_walk_94 : decode cX12_walk 94 = .ok (.aload_n 0, 1) := by decide +kernel
theorem dX12_walk_95 : decode cX12_walk 95 = .ok (.iload_n 3, 1) := by decide +kernel
theorem dX12_walk_96 : decode cX12_walk 96 = .ok (.invokevirtual 584, 3) := by decide +kernel
theorem dX12_walk_99 : decode cX12_walk 99 = .ok (.iastore, 1) := by decide +kernel
theorem dX12_walk_100 : decode cX12_walk 100 = .ok (.aload_n 0, 1) := by decide +kernel
theorem dX12_walk_101 : decode cX12_walk 101 = .ok (.getfield 151, 3) := by decide +kernel
theorem dX12_walk_104 : decode cX12_walk 104 = .ok (.iconst 5, 1) := by decide +kernel
theorem dX12_walk_105 : decode cX12_walk 105 = .ok (.iconst 0, 1) := by decide +kernel
theorem dX12_walk_106 : decode cX12_walk 106 = .ok (.iastore, 1) := by decide +kernel
theorem dX12_walk_107 : decode cX12_walk 107 = .ok (.aload_n 0, 1) := by decide +kernel
theorem dX12_walk_108 : decode cX12_walk 108 = .ok (.getfield 151, 3) := by decide +kernel
theorem dX12_walk_111 : decode cX12_walk 111 = .ok (.iconst 4, 1) := by decide +kernel
theorem dX12_walk_112 : decode cX12_walk 112 = .ok (.iaload, 1) := by decide +kernel
theorem dX12_walk_113 : decode cX12_walk 113 = .ok (.ireturn, 1) := by decide +kernel
set_option maxHeartbeats 4000000 in
set_option maxRecDepth 100000 in
theorem n_keeps (l : Launch) (D : va_G) (k : KT) (A : Nat → Prop) (a : Nat → Nat) (z : SK) (G : GS) (p0 : Int32) (p1 : Int32) (p2 : Int32) (hP9 : gP G = 1) : Met l yX12_keeps (WS yX12_keeps cX12_keeps 7 (some .int)) ({ frames := 5, cells := 0, slots := 0, locals := 117 }) (va_Pc [.ref (a 66), .int p0, .int p1, .int p2] (cW D k A a z G)) (va_Qi (fun (r : Int32) (G1 : GS) => Q_keeps p0 p1 p2 G r G1) (fun (G1 : GS) t => Wd D k A a G1 t.heap) A) 0 0 A := by
  refine Met.ofW (cc := cX12_keeps) (maxL := 7) (ret := (some .int)) (by decide) rfl ?_
  intro p e s m args below meth c s₁ B hml hv
  obtain ⟨rfl, hW, hB_G, hK, hZ⟩ := hv
  have hx := B.exec
  have hb := B.bytes
  have hr := B.returns
  have hts := atoms_spec (ws := WS yX12_keeps cX12_keeps 7 (some .int)) B.pre
  have hgd : ∀ w ∈ gd, w ∈ WS yX12_keeps cX12_keeps 7 (some .int) := fun w h => List.mem_cons_of_mem _ h
  have hg : ∀ w ∈ gd, w.before _ s = true := fun w h => hts w (hgd w h)
  have hown : s.vm.findClass RX12 = some m.cls := findClass_of_methodNamed B.named
  have hS : va_S A s.heap s.heap [] := va_S.rf
  have hF : Fr [104, 105, 76, 97, 98] [(66, 59), (66, 60), (66, 61), (66, 62), (66, 63)] G G := Fr.rf
  have hl := lv_entry ([.ref (a 66), .int p0, .int p1, .int p2]) (n := 7) (Nat.le_of_ble_eq_true rfl)
  rw [lg_entry_eq]
  generalize (lg_sl ([.ref (a 66), .int p0, .int p1, .int p2]) ++ List.replicate (7 - (lg_sl ([.ref (a 66), .int p0, .int p1, .int p2])).length) Slot.unset).toArray = ls at hl ⊢
  have hl : lv_has ls 7 [(0, .ref (a 66)), (1, .int p0), (2, .int p1), (3, .int p2)] := hl
  refine lv_aload_n hx hb dX12_keeps_0 rfl (lv_at hl 0 rfl) ?_
  refine lv_iload_n hx hb dX12_keeps_1 rfl (lv_at hl 1 rfl) ?_
  refine lv_iload_n hx hb dX12_keeps_2 rfl (lv_at hl 2 rfl) ?_
  refine lv_iload_n hx hb dX12_keeps_3 rfl (lv_at hl 3 rfl) ?_
  refine S_calli (va_runV (As := [.int p0, .int p1, .int p2]) (rest := []) ⟨hx, hb, hml, hown, hts⟩ (n_isAsked l D k A a z G p0 p1 p2 ) (cwV 3 hts (gd_V hgd m1826 m1828 m89 m131 m1829) rfl rfl rfl (by decide +kernel) ⟨Nat.le_of_ble_eq_true rfl, Nat.le_of_ble_eq_true rfl⟩) (pre_V hW hB_G hK hZ hS kd_66 rfl) rfl rfl hl.1 rfl (lv_room (Nat.le_of_ble_eq_true rfl)) dX12_keeps_4 ⟨Nat.le_of_ble_eq_true rfl, Nat.le_of_ble_eq_true rfl⟩) hS (fun r_1 G_2 H locs hpo hW hS => ?_)
  have hX_5 : Q_isAsked p0 p1 p2 G r_1 G_2 := hpo
  obtain ⟨hB_G_2, hq_3, f_6, hp_4, -⟩ := hpo
  have hF := hF.call hq_3 (by decide) (by decide)
  refine lv_if_ne (tgt := 12) hx hb dX12_keeps_7 (by decide) (fun c_7 => ?_) (fun c_7 => ?_)
  · have c_7 : r_1.toInt ≠ 0 := xI_ne rfl rfl c_7
    refine lv_aload_n hx hb dX12_keeps_12 rfl (lv_at hl 0 rfl) ?_
    refine lv_iload_n hx hb dX12_keeps_13 rfl (lv_at hl 1 rfl) ?_
    refine lv_iload_n hx hb dX12_keeps_14 rfl (lv_at hl 2 rfl) ?_
    refine lv_iload_n hx hb dX12_keeps_15 rfl (lv_at hl 3 rfl) ?_
    have g_8 : gP G_2 = gP G := gP_fr (rs := []) (fs := []) (Fr.rf.call hq_3 (by decide) (by decide)) (by decide) (by decide)
    refine S_callv (va_runV (As := [.int p0, .int p1, .int p2]) (rest := []) ⟨hx, hb, hml, hown, hts⟩ (n_layStreet l D k A a z G_2 p0 p1 p2 ⟨by omega, by omega⟩ ⟨by omega, by omega⟩ (by omega)) (cwV 3 hts (gd_V hgd m1834 m1836 m91 m131 m1837) rfl rfl rfl (by decide +kernel) ⟨Nat.le_of_ble_eq_true rfl, Nat.le_of_ble_eq_true rfl⟩) (pre_V hW hB_G_2 hK hZ hS kd_66 rfl) rfl rfl hl.1 rfl (lv_room (Nat.le_of_ble_eq_true rfl)) dX12_keeps_16 ⟨Nat.le_of_ble_eq_true rfl, Nat.le_of_ble_eq_true rfl⟩) hS (fun G_10 H locs hpo hW hS => ?_)
    have hX_13 : Q_layStreet p0 p1 p2 G_2 G_10 := hpo
    obtain ⟨hB_G_10, hq_11, hp_12, -⟩ := hpo
    have hF := hF.call hq_11 (by decide) (by decide)
    refine lv_iconst (v := 0) hx hb dX12_keeps_19 (by decide) ?_
    refine lv_istore (lv' := [(4, .int 0), (0, .ref (a 66)), (1, .int p0), (2, .int p1), (3, .int p2)]) hx hb dX12_keeps_20 hl (by decide) rfl (fun ls hl => ?_)
    have qc_20 : (0 : Int32).toInt = 0 := rfl
    refine loop_N (Inv := fun n H locs ls => ∃ (G_14 : GS) (x_18 : Int32), (n : Int) = 1024 - x_18.toInt ∧ (0 ≤ x_18.toInt ∧ x_18.toInt ≤ 1024) ∧ Rc (St_n_keeps_1 G_10) (0, G_10) (x_18, G_14) ∧ Wd D k A a G_14 H ∧ Bd G_14 ∧ Fr [104, 105, 76, 97, 98] [(66, 59), (66, 60), (66, 61), (66, 62), (66, 63)] G G_14 ∧ Fr [104] [] G_10 G_14 ∧ va_S A s.heap H locs ∧ lv_has ls 7 [(4, .int x_18), (0, .ref (a 66))]) (fun n_17 H locs ls ih_16 hI => ?_) (1024 - 0 : Int).toNat ⟨G_10, 0, (Int.toNat_of_nonneg (by omega)), ⟨by omega, by omega⟩, Rc.rf, hW, hB_G_10, hF, Fr.rf, hS, lv_sub hl [0, 1] rfl⟩
    obtain ⟨G_14, x_18, hn_22, f_21, hX_19, hW, hB_G_14, hF, hq_15, hS, hl⟩ := hI
    refine lv_iload hx hb dX12_keeps_22 (lv_at hl 0 rfl) ?_
    refine lv_sipush (v := 1024) hx hb dX12_keeps_24 (by decide) ?_
    refine lv_icmp_ge (tgt := 102) hx hb dX12_keeps_27 (by decide) (fun c_23 => ?_) (fun c_23 => ?_)
    · have c_23 : 1024 ≤ x_18.toInt := xI_le rfl rfl c_23
      refine lv_ldcw (v := 100000) hx hb hown (hg (Cond.constant RX12 502 100000) m1858) dX12_keeps_102 ?_
      refine lv_istore (lv' := [(4, .int 100000), (0, .ref (a 66))]) hx hb dX12_keeps_105 hl (by decide) rfl (fun ls hl => ?_)
      refine lv_iconst (v := 1) hx hb dX12_keeps_107 (by decide) ?_
      refine lv_istore (lv' := [(5, .int 1), (4, .int 100000), (0, .ref (a 66))]) hx hb dX12_keeps_108 hl (by decide) rfl (fun ls hl => ?_)
      have qc_31 : (1 : Int32).toInt = 1 := rfl
      have qc_32 : (100000 : Int32).toInt = 100000 := rfl
      refine loop_N (Inv := fun n H locs ls => ∃ (G_24 : GS) (x_28 : Int32) (x_29 : Int32), (n : Int) = 401 - x_28.toInt ∧ (1 ≤ x_28.toInt ∧ x_28.toInt ≤ 401) ∧ Rc (St_n_keeps_2) (1, 100000, G_14) (x_28, x_29, G_24) ∧ Wd D k A a G_24 H ∧ Bd G_24 ∧ Fr [104, 105, 76, 97, 98] [(66, 59), (66, 60), (66, 61), (66, 62), (66, 63)] G G_24 ∧ Fr [104, 105] [] G_14 G_24 ∧ va_S A s.heap H locs ∧ lv_has ls 7 [(5, .int x_28), (4, .int x_29), (0, .ref (a 66))]) (fun n_27 H locs ls ih_26 hI => ?_) (401 - 1 : Int).toNat ⟨G_14, 1, 100000, (Int.toNat_of_nonneg (by omega)), ⟨by omega, by omega⟩, Rc.rf, hW, hB_G_14, hF, Fr.rf, hS, lv_sub hl [0, 1, 2] rfl⟩
      obtain ⟨G_24, x_28, x_29, hn_34, f_33, hX_30, hW, hB_G_24, hF, hq_25, hS, hl⟩ := hI
      refine lv_iload hx hb dX12_keeps_110 (lv_at hl 0 rfl) ?_
      refine lv_sipush (v := 400) hx hb dX12_keeps_112 (by decide) ?_
      refine lv_icmp_gt (tgt := 251) hx hb dX12_keeps_115 (by decide) (fun c_35 => ?_) (fun c_35 => ?_)
      · have c_35 : 400 < x_28.toInt := xI_lt rfl rfl c_35
        refine lv_iload hx hb dX12_keeps_251 (lv_at hl 1 rfl) ?_
        refine lv_ldcw (v := 100000) hx hb hown (hg (Cond.constant RX12 502 100000) m1858) dX12_keeps_253 ?_
        refine lv_icmp_ne (tgt := 263) hx hb dX12_keeps_256 (by decide) (fun c_36 => ?_) (fun c_36 => ?_)
        · have c_36 : x_29.toInt ≠ 100000 := xI_ne rfl rfl c_36
          refine lv_iload hx hb dX12_keeps_263 (lv_at hl 1 rfl) ?_
          exact W.iret (v := x_29) hx hb hr (fun t ht _ => ⟨⟨x_29, G_24, rfl, (Q_keeps_mk ⟨hB_G_24, hF, ⟨r_1, G_2, hX_5, (Or.inr ⟨c_7, ⟨G_10, hX_13, ⟨x_18, G_14, hX_19, f_21, hB_G_14, hq_15, ⟨c_23, ⟨x_28, x_29, G_24, hX_30, f_33, hB_G_24, hq_25, ⟨c_35, (Or.inr ⟨c_36, ⟨rfl, rfl⟩⟩)⟩⟩⟩⟩⟩⟩)⟩⟩), wd_t ht hW⟩, hS.F ht⟩) hS.2.2 dX12_keeps_265
        · have c_36 : x_29.toInt = 100000 := xI_eq rfl rfl c_36
          refine lv_iconst (v := (-1)) hx hb dX12_keeps_259 (by decide) ?_
          refine lv_goto (tgt := 265) hx hb dX12_keeps_260 (by decide) ?_
          exact W.iret (v := (-1)) hx hb hr (fun t ht _ => ⟨⟨(-1), G_24, rfl, (Q_keeps_mk ⟨hB_G_24, hF, ⟨r_1, G_2, hX_5, (Or.inr ⟨c_7, ⟨G_10, hX_13, ⟨x_18, G_14, hX_19, f_21, hB_G_14, hq_15, ⟨c_23, ⟨x_28, x_29, G_24, hX_30, f_33, hB_G_24, hq_25, ⟨c_35, (Or.inl ⟨c_36, ⟨rfl, rfl⟩⟩)⟩⟩⟩⟩⟩⟩)⟩⟩), wd_t ht hW⟩, hS.F ht⟩) hS.2.2 dX12_keeps_265
      · have c_35 : x_28.toInt ≤ 400 := xI_nlt rfl rfl c_35
        refine lv_iconst (v := 0) hx hb dX12_keeps_118 (by decide) ?_
        refine lv_istore (lv' := [(6, .int 0), (5, .int x_28), (4, .int x_29), (0, .ref (a 66))]) hx hb dX12_keeps_119 hl (by decide) rfl (fun ls hl => ?_)
        have qc_43 : (0 : Int32).toInt = 0 := rfl
        refine loop_N (Inv := fun n H locs ls => ∃ (G_37 : GS) (x_41 : Int32), (n : Int) = 1024 - x_41.toInt ∧ (0 ≤ x_41.toInt ∧ x_41.toInt ≤ 1024) ∧ Rc (St_n_keeps_3) (0, G_24) (x_41, G_37) ∧ Wd D k A a G_37 H ∧ Bd G_37 ∧ Fr [104, 105, 76, 97, 98] [(66, 59), (66, 60), (66, 61), (66, 62), (66, 63)] G G_37 ∧ Fr [105] [] G_24 G_37 ∧ va_S A s.heap H locs ∧ lv_has ls 7 [(6, .int x_41), (5, .int x_28), (4, .int x_29), (0, .ref (a 66))]) (fun n_40 H locs ls ih_39 hI => ?_) (1024 - 0 : Int).toNat ⟨G_24, 0, (Int.toNat_of_nonneg (by omega)), ⟨by omega, by omega⟩, Rc.rf, hW, hB_G_24, hF, Fr.rf, hS, lv_sub hl [0, 1, 2, 3] rfl⟩
        obtain ⟨G_37, x_41, hn_45, f_44, hX_42, hW, hB_G_37, hF, hq_38, hS, hl⟩ := hI
        refine lv_iload hx hb dX12_keeps_121 (lv_at hl 0 rfl) ?_
        refine lv_sipush (v := 1024) hx hb dX12_keeps_123 (by decide) ?_
        refine lv_icmp_ge (tgt := 145) hx hb dX12_keeps_126 (by decide) (fun c_46 => ?_) (fun c_46 => ?_)
        · have c_46 : 1024 ≤ x_41.toInt := xI_le rfl rfl c_46
          refine lv_iconst (v := 0) hx hb dX12_keeps_145 (by decide) ?_
          refine lv_istore (lv' := [(6, .int 0), (5, .int x_28), (4, .int x_29), (0, .ref (a 66))]) hx hb dX12_keeps_146 hl (by decide) rfl (fun ls hl => ?_)
          have qc_54 : (0 : Int32).toInt = 0 := rfl
          refine loop_N (Inv := fun n H locs ls => ∃ (G_47 : GS) (x_51 : Int32) (x_52 : Int32), (n : Int) = 800 - x_51.toInt ∧ (0 ≤ x_51.toInt ∧ x_51.toInt ≤ 800) ∧ Rc (St_n_keeps_4 x_28) (0, x_29, G_37) (x_51, x_52, G_47) ∧ Wd D k A a G_47 H ∧ Bd G_47 ∧ Fr [104, 105, 76, 97, 98] [(66, 59), (66, 60), (66, 61), (66, 62), (66, 63)] G G_47 ∧ Fr [105] [] G_37 G_47 ∧ va_S A s.heap H locs ∧ lv_has ls 7 [(6, .int x_51), (5, .int x_28), (4, .int x_52), (0, .ref (a 66))]) (fun n_50 H locs ls ih_49 hI => ?_) (800 - 0 : Int).toNat ⟨G_37, 0, x_29, (Int.toNat_of_nonneg (by omega)), ⟨by omega, by omega⟩, Rc.rf, hW, hB_G_37, hF, Fr.rf, hS, lv_sub hl [0, 1, 2, 3] rfl⟩
          obtain ⟨G_47, x_51, x_52, hn_56, f_55, hX_53, hW, hB_G_47, hF, hq_48, hS, hl⟩ := hI
          refine lv_iload hx hb dX12_keeps_148 (lv_at hl 0 rfl) ?_
          refine lv_sipush (v := 800) hx hb dX12_keeps_150 (by decide) ?_
          refine lv_icmp_ge (tgt := 214) hx hb dX12_keeps_153 (by decide) (fun c_57 => ?_) (fun c_57 => ?_)
          · have c_57 : 800 ≤ x_51.toInt := xI_le rfl rfl c_57
            refine lv_iconst (v := 0) hx hb dX12_keeps_214 (by decide) ?_
            refine lv_istore (lv' := [(6, .int 0), (5, .int x_28), (4, .int x_52), (0, .ref (a 66))]) hx hb dX12_keeps_215 hl (by decide) rfl (fun ls hl => ?_)
            have qc_64 : (0 : Int32).toInt = 0 := rfl
            refine loop_N (Inv := fun n H locs ls => ∃ (G_58 : GS) (x_62 : Int32), (n : Int) = 1024 - x_62.toInt ∧ (0 ≤ x_62.toInt ∧ x_62.toInt ≤ 1024) ∧ Rc (St_n_keeps_5) (0, G_47) (x_62, G_58) ∧ Wd D k A a G_58 H ∧ Bd G_58 ∧ Fr [104, 105, 76, 97, 98] [(66, 59), (66, 60), (66, 61), (66, 62), (66, 63)] G G_58 ∧ Fr [104] [] G_47 G_58 ∧ va_S A s.heap H locs ∧ lv_has ls 7 [(6, .int x_62), (5, .int x_28), (4, .int x_52), (0, .ref (a 66))]) (fun n_61 H locs ls ih_60 hI => ?_) (1024 - 0 : Int).toNat ⟨G_47, 0, (Int.toNat_of_nonneg (by omega)), ⟨by omega, by omega⟩, Rc.rf, hW, hB_G_47, hF, Fr.rf, hS, lv_sub hl [0, 1, 2, 3] rfl⟩
            obtain ⟨G_58, x_62, hn_66, f_65, hX_63, hW, hB_G_58, hF, hq_59, hS, hl⟩ := hI
            refine lv_iload hx hb dX12_keeps_217 (lv_at hl 0 rfl) ?_
            refine lv_sipush (v := 1024) hx hb dX12_keeps_219 (by decide) ?_
            refine lv_icmp_ge (tgt := 245) hx hb dX12_keeps_222 (by decide) (fun c_67 => ?_) (fun c_67 => ?_)
            · have c_67 : 1024 ≤ x_62.toInt := xI_le rfl rfl c_67
              obtain ⟨y_68, ey_68⟩ : ∃ q, q = x_28 + 1 := ⟨_, rfl⟩
              have ty_68 : y_68.toInt = x_28.toInt + 1 := xI_add rfl rfl ey_68 (by omega) (by omega)
              refine lv_iinc (v := y_68) (lv' := [(5, .int y_68), (6, .int x_62), (4, .int x_52), (0, .ref (a 66))]) hx hb dX12_keeps_245 hl (k := 1) rfl (by rw [ey_68]; rfl) (by decide) rfl (fun ls hl => ?_)
              refine lv_goto (tgt := 110) hx hb dX12_keeps_248 (by decide) ?_
              exact ih_26 (401 - y_68.toInt : Int).toNat (by omega) _ _ _ ⟨G_58, y_68, x_52, (Int.toNat_of_nonneg (by omega)), ⟨by omega, by omega⟩, (hX_30.st (St_n_keeps_2_mk ⟨x_28, x_29, G_24, y_68, x_52, G_58, rfl, rfl, f_33, hB_G_24, ⟨c_35, ⟨x_41, G_37, hX_42, f_44, hB_G_37, hq_38, ⟨c_46, ⟨x_51, x_52, G_47, hX_53, f_55, hB_G_47, hq_48, ⟨c_57, ⟨x_62, G_58, hX_63, f_65, hB_G_58, hq_59, ⟨c_67, ⟨y_68, ty_68, ⟨rfl, rfl, rfl⟩⟩⟩⟩⟩⟩⟩⟩⟩⟩)), hW, hB_G_58, hF, ((((Fr.rf.call hq_25 (by decide) (by decide)).call hq_38 (by decide) (by decide)).call hq_48 (by decide) (by decide)).call hq_59 (by decide) (by decide)), hS, lv_sub hl [0, 2, 3] rfl⟩
            · have c_67 : x_62.toInt < 1024 := xI_nle rfl rfl c_67
              refine lv_aload_n hx hb dX12_keeps_225 rfl (lv_at hl 3 rfl) ?_
              refine S_getR (n := 104) (C := RX12) (T := TX12) (N := 89) hx hb hg iX12 hown hK hW kd_66 rfl 70 (by decide) (hg (Cond.fieldLink RX12 133 "SlabWalkModel" "leapt" "[I") m1384) (fun _ h9 => h9) rfl dX12_keeps_226 ?_
              refine lv_iload hx hb dX12_keeps_229 (lv_at hl 0 rfl) ?_
              refine lv_aload_n hx hb dX12_keeps_231 rfl (lv_at hl 3 rfl) ?_
              refine S_getR (n := 105) (C := RX12) (T := TX12) (N := 89) hx hb hg iX12 hown hK hW kd_66 rfl 71 (by decide) (hg (Cond.fieldLink RX12 136 "SlabWalkModel" "leaptNext" "[I") m1385) (fun _ h9 => h9) rfl dX12_keeps_232 ?_
              refine lv_iload hx hb dX12_keeps_235 (lv_at hl 0 rfl) ?_
              refine S_iald hx hb hK hW kd_105 (vin (by omega) (by omega)) dX12_keeps_237 (fun y_69 ey_69 => ?_)
              refine S_iast hx hb hK hW hS kd_104 (vin (by omega) (by omega)) dX12_keeps_238 (fun G_70 H locs eG_70 hW hS => ?_)
              have hB_G_70 : Bd G_70 := hB_G_58.put (lo := (-2147483648)) (hi := 2147483647) eG_70 rfl rfl rfl (tI_rng _).1 (tI_rng _).2 (hB_G_58.2.put eG_70 rfl)
              have hF := hF.put eG_70 (Or.inl (by decide))
              obtain ⟨y_71, ey_71⟩ : ∃ q, q = x_62 + 1 := ⟨_, rfl⟩
              have ty_71 : y_71.toInt = x_62.toInt + 1 := xI_add rfl rfl ey_71 (by omega) (by omega)
              refine lv_iinc (v := y_71) (lv' := [(6, .int y_71), (5, .int x_28), (4, .int x_52), (0, .ref (a 66))]) hx hb dX12_keeps_239 hl (k := 0) rfl (by rw [ey_71]; rfl) (by decide) rfl (fun ls hl => ?_)
              refine lv_goto (tgt := 217) hx hb dX12_keeps_242 (by decide) ?_
              exact ih_60 (1024 - y_71.toInt : Int).toNat (by omega) _ _ _ ⟨G_70, y_71, (Int.toNat_of_nonneg (by omega)), ⟨by omega, by omega⟩, (hX_63.st (St_n_keeps_5_mk ⟨x_62, G_58, y_71, G_70, rfl, rfl, f_65, hB_G_58, ⟨c_67, ⟨y_69, ey_69, ⟨y_71, ty_71, ⟨rfl, (Fr.rf.put eG_70 (Or.inl (by decide))), rw_ast eG_70⟩⟩⟩⟩⟩)), hW, hB_G_70, hF, ((Fr.rf.call hq_59 (by decide) (by decide)).put eG_70 (Or.inl (by decide))), hS, lv_sub hl [0, 1, 2, 3] rfl⟩
          · have c_57 : x_51.toInt < 800 := xI_nle rfl rfl c_57
            refine lv_aload_n hx hb dX12_keeps_156 rfl (lv_at hl 3 rfl) ?_
            refine S_getR (n := 104) (C := RX12) (T := TX12) (N := 89) hx hb hg iX12 hown hK hW kd_66 rfl 70 (by decide) (hg (Cond.fieldLink RX12 133 "SlabWalkModel" "leapt" "[I") m1384) (fun _ h9 => h9) rfl dX12_keeps_157 ?_
            refine lv_iload hx hb dX12_keeps_160 (lv_at hl 0 rfl) ?_
            refine S_iald hx hb hK hW kd_104 (vin (by omega) (by omega)) dX12_keeps_162 (fun y_72 ey_72 => ?_)
            refine lv_ldcw (v := 100000) hx hb hown (hg (Cond.constant RX12 502 100000) m1858) dX12_keeps_163 ?_
            refine lv_icmp_ne (tgt := 172) hx hb dX12_keeps_166 (by decide) (fun c_73 => ?_) (fun c_73 => ?_)
            · have c_73 : y_72.toInt ≠ 100000 := xI_ne rfl rfl c_73
              refine lv_aload_n hx hb dX12_keeps_172 rfl (lv_at hl 3 rfl) ?_
              refine lv_iload hx hb dX12_keeps_173 (lv_at hl 0 rfl) ?_
              refine lv_iconst (v := 2) hx hb dX12_keeps_175 (by decide) ?_
              refine lv_idiv hx hb dX12_keeps_176 (by decide) ?_
              refine lv_topi (fun y_74 ey_74 => ?_)
              have ty_74 : y_74.toInt = x_51.toInt / 2 := xI_div rfl ey_74 (by decide) (by omega)
              have b_75 : 0 ≤ (G_10.1 66 59).toInt ∧ (G_10.1 66 59).toInt ≤ 400 := hB_G_10.i 66 59 rfl rfl
              have g_76 : (G_47.1 66 59).toInt = (G_10.1 66 59).toInt := by rw [show G_47.1 66 59 = (G_10.1 66 59) from ((hq_48.i 66 59 (by decide) (by decide)).trans ((hq_38.i 66 59 (by decide) (by decide)).trans ((hq_25.i 66 59 (by decide) (by decide)).trans (hq_15.i 66 59 (by decide) (by decide)))))]
              have b_77 : 0 ≤ (G_10.1 66 60).toInt ∧ (G_10.1 66 60).toInt ≤ 12 := hB_G_10.i 66 60 rfl rfl
              have g_78 : (G_47.1 66 60).toInt = (G_10.1 66 60).toInt := by rw [show G_47.1 66 60 = (G_10.1 66 60) from ((hq_48.i 66 60 (by decide) (by decide)).trans ((hq_38.i 66 60 (by decide) (by decide)).trans ((hq_25.i 66 60 (by decide) (by decide)).trans (hq_15.i 66 60 (by decide) (by decide)))))]
              have b_79 : 0 ≤ (G_10.1 66 62).toInt ∧ (G_10.1 66 62).toInt ≤ 60 := hB_G_10.i 66 62 rfl rfl
              have g_80 : (G_47.1 66 62).toInt = (G_10.1 66 62).toInt := by rw [show G_47.1 66 62 = (G_10.1 66 62) from ((hq_48.i 66 62 (by decide) (by decide)).trans ((hq_38.i 66 62 (by decide) (by decide)).trans ((hq_25.i 66 62 (by decide) (by decide)).trans (hq_15.i 66 62 (by decide) (by decide)))))]
              refine S_calli (va_runV (As := [.int y_74]) (rest := []) ⟨hx, hb, hml, hown, hts⟩ (n_isEnd l D k A a z G_47 y_74 ⟨by omega, by omega⟩) (cwV 1 hts (gd_V hgd m1854 m1856 m95 m131 m1857) rfl rfl rfl (by decide +kernel) ⟨Nat.le_of_ble_eq_true rfl, Nat.le_of_ble_eq_true rfl⟩) (pre_V hW hB_G_47 hK hZ hS kd_66 rfl) rfl rfl hl.1 rfl (lv_room (Nat.le_of_ble_eq_true rfl)) dX12_keeps_177 ⟨Nat.le_of_ble_eq_true rfl, Nat.le_of_ble_eq_true rfl⟩) hS (fun r_81 G_82 H locs hpo hW hS => ?_)
              have hX_85 : Q_isEnd y_74 G_47 r_81 G_82 := hpo
              obtain ⟨hB_G_82, hq_83, f_86, hp_84, -⟩ := hpo
              have hF := hF.call hq_83 (by decide) (by decide)
              refine lv_if_eq (tgt := 200) hx hb dX12_keeps_180 (by decide) (fun c_87 => ?_) (fun c_87 => ?_)
              · have c_87 : r_81.toInt = 0 := xI_eq rfl rfl c_87
                refine lv_aload_n hx hb dX12_keeps_200 rfl (lv_at hl 3 rfl) ?_
                refine lv_iload hx hb dX12_keeps_201 (lv_at hl 0 rfl) ?_
                refine lv_iload hx hb dX12_keeps_203 (lv_at hl 1 rfl) ?_
                refine S_callv (va_runV (As := [.int x_51, .int x_28]) (rest := []) ⟨hx, hb, hml, hown, hts⟩ (n_keepOn l D k A a z G_82 x_51 x_28 ⟨by omega, by omega⟩ ⟨by omega, by omega⟩) (cwV 2 hts (gd_V hgd m1935 m1937 m102 m131 m1938) rfl rfl rfl (by decide +kernel) ⟨Nat.le_of_ble_eq_true rfl, Nat.le_of_ble_eq_true rfl⟩) (pre_V hW hB_G_82 hK hZ hS kd_66 rfl) rfl rfl hl.1 rfl (lv_room (Nat.le_of_ble_eq_true rfl)) dX12_keeps_205 ⟨Nat.le_of_ble_eq_true rfl, Nat.le_of_ble_eq_true rfl⟩) hS (fun G_89 H locs hpo hW hS => ?_)
                have hX_92 : Q_keepOn x_51 x_28 G_82 G_89 := hpo
                obtain ⟨hB_G_89, hq_90, -⟩ := hpo
                have hF := hF.call hq_90 (by decide) (by decide)
                obtain ⟨y_93, ey_93⟩ : ∃ q, q = x_51 + 1 := ⟨_, rfl⟩
                have ty_93 : y_93.toInt = x_51.toInt + 1 := xI_add rfl rfl ey_93 (by omega) (by omega)
                refine lv_iinc (v := y_93) (lv' := [(6, .int y_93), (5, .int x_28), (4, .int x_52), (0, .ref (a 66))]) hx hb dX12_keeps_208 hl (k := 0) rfl (by rw [ey_93]; rfl) (by decide) rfl (fun ls hl => ?_)
                refine lv_goto (tgt := 148) hx hb dX12_keeps_211 (by decide) ?_
                exact ih_49 (800 - y_93.toInt : Int).toNat (by omega) _ _ _ ⟨G_89, y_93, x_52, (Int.toNat_of_nonneg (by omega)), ⟨by omega, by omega⟩, (hX_53.st (St_n_keeps_4_mk ⟨x_51, x_52, G_47, y_93, x_52, G_89, rfl, rfl, f_55, hB_G_47, ⟨c_57, ⟨y_72, ey_72, (Or.inr ⟨c_73, ⟨y_74, ty_74, ⟨r_81, G_82, hX_85, (Or.inl ⟨c_87, ⟨G_89, hX_92, ⟨y_93, ty_93, ⟨rfl, rfl, rfl⟩⟩⟩⟩)⟩⟩⟩)⟩⟩⟩)), hW, hB_G_89, hF, (((Fr.rf.call hq_48 (by decide) (by decide)).call hq_83 (by decide) (by decide)).call hq_90 (by decide) (by decide)), hS, lv_sub hl [0, 1, 2, 3] rfl⟩
              · have c_87 : r_81.toInt ≠ 0 := xI_ne rfl rfl c_87
                refine lv_iload hx hb dX12_keeps_183 (lv_at hl 2 rfl) ?_
                refine lv_aload_n hx hb dX12_keeps_185 rfl (lv_at hl 3 rfl) ?_
                refine S_getR (n := 104) (C := RX12) (T := TX12) (N := 89) hx hb hg iX12 hown hK hW kd_66 rfl 70 (by decide) (hg (Cond.fieldLink RX12 133 "SlabWalkModel" "leapt" "[I") m1384) (fun _ h9 => h9) rfl dX12_keeps_186 ?_
                refine lv_iload hx hb dX12_keeps_189 (lv_at hl 0 rfl) ?_
                refine S_iald hx hb hK hW kd_104 (vin (by omega) (by omega)) dX12_keeps_191 (fun y_94 ey_94 => ?_)
                refine S_calli (va_runS (As := [.int x_52, .int y_94]) (rest := []) ⟨hx, hb, hml, hown, hts⟩ (n_lesser l D k A a z G_82 x_52 y_94 ) (va_cwS 2 hts (gd_S hgd m1863 m1864 m131 m1865) rfl rfl rfl (by decide +kernel) ⟨Nat.le_of_ble_eq_true rfl, Nat.le_of_ble_eq_true rfl⟩) (pre_S hW hB_G_82 hK hZ hS) rfl rfl hl.1 rfl (lv_room (Nat.le_of_ble_eq_true rfl)) dX12_keeps_192 ⟨Nat.le_of_ble_eq_true rfl, Nat.le_of_ble_eq_true rfl⟩) hS (fun r_95 G_96 H locs hpo hW hS => ?_)
                have hX_99 : Q_lesser x_52 y_94 G_82 r_95 G_96 := hpo
                obtain ⟨hB_G_96, hq_97, hp_98, -⟩ := hpo
                have hF := hF.call hq_97 (by decide) (by decide)
                refine lv_istore (lv' := [(4, .int r_95), (6, .int x_51), (5, .int x_28), (0, .ref (a 66))]) hx hb dX12_keeps_195 hl (by decide) rfl (fun ls hl => ?_)
                refine lv_goto (tgt := 208) hx hb dX12_keeps_197 (by decide) ?_
                obtain ⟨y_100, ey_100⟩ : ∃ q, q = x_51 + 1 := ⟨_, rfl⟩
                have ty_100 : y_100.toInt = x_51.toInt + 1 := xI_add rfl rfl ey_100 (by omega) (by omega)
                refine lv_iinc (v := y_100) (lv' := [(6, .int y_100), (4, .int r_95), (5, .int x_28), (0, .ref (a 66))]) hx hb dX12_keeps_208 hl (k := 1) rfl (by rw [ey_100]; rfl) (by decide) rfl (fun ls hl => ?_)
                refine lv_goto (tgt := 148) hx hb dX12_keeps_211 (by decide) ?_
                exact ih_49 (800 - y_100.toInt : Int).toNat (by omega) _ _ _ ⟨G_96, y_100, r_95, (Int.toNat_of_nonneg (by omega)), ⟨by omega, by omega⟩, (hX_53.st (St_n_keeps_4_mk ⟨x_51, x_52, G_47, y_100, r_95, G_96, rfl, rfl, f_55, hB_G_47, ⟨c_57, ⟨y_72, ey_72, (Or.inr ⟨c_73, ⟨y_74, ty_74, ⟨r_81, G_82, hX_85, (Or.inr ⟨c_87, ⟨y_94, ey_94, ⟨r_95, G_96, hX_99, ⟨y_100, ty_100, ⟨rfl, rfl, rfl⟩⟩⟩⟩⟩)⟩⟩⟩)⟩⟩⟩)), hW, hB_G_96, hF, (((Fr.rf.call hq_48 (by decide) (by decide)).call hq_83 (by decide) (by decide)).call hq_97 (by decide) (by decide)), hS, lv_sub hl [0, 2, 1, 3] rfl⟩
            · have c_73 : y_72.toInt = 100000 := xI_eq rfl rfl c_73
              refine lv_goto (tgt := 208) hx hb dX12_keeps_169 (by decide) ?_
              obtain ⟨y_101, ey_101⟩ : ∃ q, q = x_51 + 1 := ⟨_, rfl⟩
              have ty_101 : y_101.toInt = x_51.toInt + 1 := xI_add rfl rfl ey_101 (by omega) (by omega)
              refine lv_iinc (v := y_101) (lv' := [(6, .int y_101), (5, .int x_28), (4, .int x_52), (0, .ref (a 66))]) hx hb dX12_keeps_208 hl (k := 0) rfl (by rw [ey_101]; rfl) (by decide) rfl (fun ls hl => ?_)
              refine lv_goto (tgt := 148) hx hb dX12_keeps_211 (by decide) ?_
              exact ih_49 (800 - y_101.toInt : Int).toNat (by omega) _ _ _ ⟨G_47, y_101, x_52, (Int.toNat_of_nonneg (by omega)), ⟨by omega, by omega⟩, (hX_53.st (St_n_keeps_4_mk ⟨x_51, x_52, G_47, y_101, x_52, G_47, rfl, rfl, f_55, hB_G_47, ⟨c_57, ⟨y_72, ey_72, (Or.inl ⟨c_73, ⟨y_101, ty_101, ⟨rfl, rfl, rfl⟩⟩⟩)⟩⟩⟩)), hW, hB_G_47, hF, (Fr.rf.call hq_48 (by decide) (by decide)), hS, lv_sub hl [0, 1, 2, 3] rfl⟩
        · have c_46 : x_41.toInt < 1024 := xI_nle rfl rfl c_46
          refine lv_aload_n hx hb dX12_keeps_129 rfl (lv_at hl 3 rfl) ?_
          refine S_getR (n := 105) (C := RX12) (T := TX12) (N := 89) hx hb hg iX12 hown hK hW kd_66 rfl 71 (by decide) (hg (Cond.fieldLink RX12 136 "SlabWalkModel" "leaptNext" "[I") m1385) (fun _ h9 => h9) rfl dX12_keeps_130 ?_
          refine lv_iload hx hb dX12_keeps_133 (lv_at hl 0 rfl) ?_
          refine lv_ldcw (v := 100000) hx hb hown (hg (Cond.constant RX12 502 100000) m1858) dX12_keeps_135 ?_
          refine S_iast hx hb hK hW hS kd_105 (vin (by omega) (by omega)) dX12_keeps_138 (fun G_102 H locs eG_102 hW hS => ?_)
          have hB_G_102 : Bd G_102 := hB_G_37.put (lo := (-2147483648)) (hi := 2147483647) eG_102 rfl rfl rfl (tI_rng _).1 (tI_rng _).2 (hB_G_37.2.put eG_102 rfl)
          have hF := hF.put eG_102 (Or.inl (by decide))
          obtain ⟨y_103, ey_103⟩ : ∃ q, q = x_41 + 1 := ⟨_, rfl⟩
          have ty_103 : y_103.toInt = x_41.toInt + 1 := xI_add rfl rfl ey_103 (by omega) (by omega)
          refine lv_iinc (v := y_103) (lv' := [(6, .int y_103), (5, .int x_28), (4, .int x_29), (0, .ref (a 66))]) hx hb dX12_keeps_139 hl (k := 0) rfl (by rw [ey_103]; rfl) (by decide) rfl (fun ls hl => ?_)
          refine lv_goto (tgt := 121) hx hb dX12_keeps_142 (by decide) ?_
          exact ih_39 (1024 - y_103.toInt : Int).toNat (by omega) _ _ _ ⟨G_102, y_103, (Int.toNat_of_nonneg (by omega)), ⟨by omega, by omega⟩, (hX_42.st (St_n_keeps_3_mk ⟨x_41, G_37, y_103, G_102, rfl, rfl, f_44, hB_G_37, ⟨c_46, ⟨y_103, ty_103, ⟨rfl, (Fr.rf.put eG_102 (Or.inl (by decide))), rw_ast eG_102⟩⟩⟩⟩)), hW, hB_G_102, hF, ((Fr.rf.call hq_38 (by decide) (by decide)).put eG_102 (Or.inl (by decide))), hS, lv_sub hl [0, 1, 2, 3] rfl⟩
    · have c_23 : x_18.toInt < 1024 := xI_nle rfl rfl c_23
      refine lv_aload_n hx hb dX12_keeps_30 rfl (lv_at hl 1 rfl) ?_
      refine S_getR (n := 104) (C := RX12) (T := TX12) (N := 89) hx hb hg iX12 hown hK hW kd_66 rfl 70 (by decide) (hg (Cond.fieldLink RX12 133 "SlabWalkModel" "leapt" "[I") m1384) (fun _ h9 => h9) rfl dX12_keeps_31 ?_
      refine lv_iload hx hb dX12_keeps_34 (lv_at hl 0 rfl) ?_
      refine lv_iload hx hb dX12_keeps_36 (lv_at hl 0 rfl) ?_
      refine lv_iconst (v := 2) hx hb dX12_keeps_38 (by decide) ?_
      refine lv_irem hx hb dX12_keeps_39 (by decide) ?_
      refine lv_topi (fun y_104 ey_104 => ?_)
      have ty_104 : y_104.toInt = x_18.toInt % 2 := xI_mod rfl ey_104 (by decide) (by omega)
      refine lv_if_ne (tgt := 92) hx hb dX12_keeps_40 (by decide) (fun c_105 => ?_) (fun c_105 => ?_)
      · have c_105 : y_104.toInt ≠ 0 := xI_ne rfl rfl c_105
        refine lv_ldcw (v := 100000) hx hb hown (hg (Cond.constant RX12 502 100000) m1858) dX12_keeps_92 ?_
        refine S_iast hx hb hK hW hS kd_104 (vin (by omega) (by omega)) dX12_keeps_95 (fun G_106 H locs eG_106 hW hS => ?_)
        have hB_G_106 : Bd G_106 := hB_G_14.put (lo := (-2147483648)) (hi := 2147483647) eG_106 rfl rfl rfl (tI_rng _).1 (tI_rng _).2 (hB_G_14.2.put eG_106 rfl)
        have hF := hF.put eG_106 (Or.inl (by decide))
        obtain ⟨y_107, ey_107⟩ : ∃ q, q = x_18 + 1 := ⟨_, rfl⟩
        have ty_107 : y_107.toInt = x_18.toInt + 1 := xI_add rfl rfl ey_107 (by omega) (by omega)
        refine lv_iinc (v := y_107) (lv' := [(4, .int y_107), (0, .ref (a 66))]) hx hb dX12_keeps_96 hl (k := 0) rfl (by rw [ey_107]; rfl) (by decide) rfl (fun ls hl => ?_)
        refine lv_goto (tgt := 22) hx hb dX12_keeps_99 (by decide) ?_
        exact ih_16 (1024 - y_107.toInt : Int).toNat (by omega) _ _ _ ⟨G_106, y_107, (Int.toNat_of_nonneg (by omega)), ⟨by omega, by omega⟩, (hX_19.st (St_n_keeps_1_mk ⟨x_18, G_14, y_107, G_106, rfl, rfl, f_21, hB_G_14, ⟨c_23, ⟨y_104, ty_104, (Or.inr ⟨c_105, ⟨y_107, ty_107, ⟨rfl, (Fr.rf.put eG_106 (Or.inl (by decide))), rw_ast eG_106⟩⟩⟩)⟩⟩⟩)), hW, hB_G_106, hF, ((Fr.rf.call hq_15 (by decide) (by decide)).put eG_106 (Or.inl (by decide))), hS, lv_sub hl [0, 1] rfl⟩
      · have c_105 : y_104.toInt = 0 := xI_eq rfl rfl c_105
        refine lv_iload hx hb dX12_keeps_43 (lv_at hl 0 rfl) ?_
        refine lv_iconst (v := 2) hx hb dX12_keeps_45 (by decide) ?_
        refine lv_idiv hx hb dX12_keeps_46 (by decide) ?_
        refine lv_topi (fun y_108 ey_108 => ?_)
        have ty_108 : y_108.toInt = x_18.toInt / 2 := xI_div rfl ey_108 (by decide) (by omega)
        refine lv_aload_n hx hb dX12_keeps_47 rfl (lv_at hl 1 rfl) ?_
        have b_109 : 0 ≤ (G_10.1 66 62).toInt ∧ (G_10.1 66 62).toInt ≤ 60 := hB_G_10.i 66 62 rfl rfl
        refine S_getI (v := (G_10.1 66 62)) (C := RX12) (T := TX12) (N := 89) hx hb hg iX12 hown hK hW kd_66 rfl 62 (by decide) (hg (Cond.fieldLink RX12 478 "SlabWalkModel" "most" "I") m1376) (fun _ h9 => h9) rfl (hq_15.i 66 62 (by decide) (by decide)) dX12_keeps_48 ?_
        refine lv_icmp_ge (tgt := 92) hx hb dX12_keeps_51 (by decide) (fun c_110 => ?_) (fun c_110 => ?_)
        · have c_110 : (G_10.1 66 62).toInt ≤ y_108.toInt := xI_le rfl rfl c_110
          refine lv_ldcw (v := 100000) hx hb hown (hg (Cond.constant RX12 502 100000) m1858) dX12_keeps_92 ?_
          refine S_iast hx hb hK hW hS kd_104 (vin (by omega) (by omega)) dX12_keeps_95 (fun G_111 H locs eG_111 hW hS => ?_)
          have hB_G_111 : Bd G_111 := hB_G_14.put (lo := (-2147483648)) (hi := 2147483647) eG_111 rfl rfl rfl (tI_rng _).1 (tI_rng _).2 (hB_G_14.2.put eG_111 rfl)
          have hF := hF.put eG_111 (Or.inl (by decide))
          obtain ⟨y_112, ey_112⟩ : ∃ q, q = x_18 + 1 := ⟨_, rfl⟩
          have ty_112 : y_112.toInt = x_18.toInt + 1 := xI_add rfl rfl ey_112 (by omega) (by omega)
          refine lv_iinc (v := y_112) (lv' := [(4, .int y_112), (0, .ref (a 66))]) hx hb dX12_keeps_96 hl (k := 0) rfl (by rw [ey_112]; rfl) (by decide) rfl (fun ls hl => ?_)
          refine lv_goto (tgt := 22) hx hb dX12_keeps_99 (by decide) ?_
          exact ih_16 (1024 - y_112.toInt : Int).toNat (by omega) _ _ _ ⟨G_111, y_112, (Int.toNat_of_nonneg (by omega)), ⟨by omega, by omega⟩, (hX_19.st (St_n_keeps_1_mk ⟨x_18, G_14, y_112, G_111, rfl, rfl, f_21, hB_G_14, ⟨c_23, ⟨y_104, ty_104, (Or.inl ⟨c_105, ⟨y_108, ty_108, (Or.inl ⟨c_110, ⟨y_112, ty_112, ⟨rfl, (Fr.rf.put eG_111 (Or.inl (by decide))), rw_ast eG_111⟩⟩⟩)⟩⟩)⟩⟩⟩)), hW, hB_G_111, hF, ((Fr.rf.call hq_15 (by decide) (by decide)).put eG_111 (Or.inl (by decide))), hS, lv_sub hl [0, 1] rfl⟩
        · have c_110 : y_108.toInt < (G_10.1 66 62).toInt := xI_nle rfl rfl c_110
          refine lv_iload hx hb dX12_keeps_54 (lv_at hl 0 rfl) ?_
          refine lv_iconst (v := 2) hx hb dX12_keeps_56 (by decide) ?_
          refine lv_idiv hx hb dX12_keeps_57 (by decide) ?_
          refine lv_topi (fun y_113 ey_113 => ?_)
          have ty_113 : y_113.toInt = x_18.toInt / 2 := xI_div rfl ey_113 (by decide) (by omega)
          refine lv_sipush (v := 400) hx hb dX12_keeps_58 (by decide) ?_
          refine lv_icmp_ge (tgt := 92) hx hb dX12_keeps_61 (by decide) (fun c_114 => ?_) (fun c_114 => ?_)
          · have c_114 : 400 ≤ y_113.toInt := xI_le rfl rfl c_114
            refine lv_ldcw (v := 100000) hx hb hown (hg (Cond.constant RX12 502 100000) m1858) dX12_keeps_92 ?_
            refine S_iast hx hb hK hW hS kd_104 (vin (by omega) (by omega)) dX12_keeps_95 (fun G_115 H locs eG_115 hW hS => ?_)
            have hB_G_115 : Bd G_115 := hB_G_14.put (lo := (-2147483648)) (hi := 2147483647) eG_115 rfl rfl rfl (tI_rng _).1 (tI_rng _).2 (hB_G_14.2.put eG_115 rfl)
            have hF := hF.put eG_115 (Or.inl (by decide))
            obtain ⟨y_116, ey_116⟩ : ∃ q, q = x_18 + 1 := ⟨_, rfl⟩
            have ty_116 : y_116.toInt = x_18.toInt + 1 := xI_add rfl rfl ey_116 (by omega) (by omega)
            refine lv_iinc (v := y_116) (lv' := [(4, .int y_116), (0, .ref (a 66))]) hx hb dX12_keeps_96 hl (k := 0) rfl (by rw [ey_116]; rfl) (by decide) rfl (fun ls hl => ?_)
            refine lv_goto (tgt := 22) hx hb dX12_keeps_99 (by decide) ?_
            exact ih_16 (1024 - y_116.toInt : Int).toNat (by omega) _ _ _ ⟨G_115, y_116, (Int.toNat_of_nonneg (by omega)), ⟨by omega, by omega⟩, (hX_19.st (St_n_keeps_1_mk ⟨x_18, G_14, y_116, G_115, rfl, rfl, f_21, hB_G_14, ⟨c_23, ⟨y_104, ty_104, (Or.inl ⟨c_105, ⟨y_108, ty_108, (Or.inr ⟨c_110, ⟨y_113, ty_113, (Or.inl ⟨c_114, ⟨y_116, ty_116, ⟨rfl, (Fr.rf.put eG_115 (Or.inl (by decide))), rw_ast eG_115⟩⟩⟩)⟩⟩)⟩⟩)⟩⟩⟩)), hW, hB_G_115, hF, ((Fr.rf.call hq_15 (by decide) (by decide)).put eG_115 (Or.inl (by decide))), hS, lv_sub hl [0, 1] rfl⟩
          · have c_114 : y_113.toInt < 400 := xI_nle rfl rfl c_114
            refine lv_aload_n hx hb dX12_keeps_64 rfl (lv_at hl 1 rfl) ?_
            refine S_getR (n := 98) (C := RX12) (T := TX12) (N := 89) hx hb hg iX12 hown hK hW kd_66 rfl 58 (by decide) (hg (Cond.fieldLink RX12 115 "SlabWalkModel" "lawful" "[Z") m1372) (fun _ h9 => h9) rfl dX12_keeps_65 ?_
            refine lv_iload hx hb dX12_keeps_68 (lv_at hl 0 rfl) ?_
            refine lv_iconst (v := 2) hx hb dX12_keeps_70 (by decide) ?_
            refine lv_idiv hx hb dX12_keeps_71 (by decide) ?_
            refine lv_topi (fun y_117 ey_117 => ?_)
            have ty_117 : y_117.toInt = x_18.toInt / 2 := xI_div rfl ey_117 (by decide) (by omega)
            refine S_zald hx hb hK hW kd_98 (vin (by omega) (by omega)) dX12_keeps_72 (fun y_118 ey_118 => ?_)
            have ty_118 := hB_G_14.law ey_118
            refine lv_if_eq (tgt := 92) hx hb dX12_keeps_73 (by decide) (fun c_119 => ?_) (fun c_119 => ?_)
            · have c_119 : y_118.toInt = 0 := xI_eq rfl rfl c_119
              refine lv_ldcw (v := 100000) hx hb hown (hg (Cond.constant RX12 502 100000) m1858) dX12_keeps_92 ?_
              refine S_iast hx hb hK hW hS kd_104 (vin (by omega) (by omega)) dX12_keeps_95 (fun G_120 H locs eG_120 hW hS => ?_)
              have hB_G_120 : Bd G_120 := hB_G_14.put (lo := (-2147483648)) (hi := 2147483647) eG_120 rfl rfl rfl (tI_rng _).1 (tI_rng _).2 (hB_G_14.2.put eG_120 rfl)
              have hF := hF.put eG_120 (Or.inl (by decide))
              obtain ⟨y_121, ey_121⟩ : ∃ q, q = x_18 + 1 := ⟨_, rfl⟩
              have ty_121 : y_121.toInt = x_18.toInt + 1 := xI_add rfl rfl ey_121 (by omega) (by omega)
              refine lv_iinc (v := y_121) (lv' := [(4, .int y_121), (0, .ref (a 66))]) hx hb dX12_keeps_96 hl (k := 0) rfl (by rw [ey_121]; rfl) (by decide) rfl (fun ls hl => ?_)
              refine lv_goto (tgt := 22) hx hb dX12_keeps_99 (by decide) ?_
              exact ih_16 (1024 - y_121.toInt : Int).toNat (by omega) _ _ _ ⟨G_120, y_121, (Int.toNat_of_nonneg (by omega)), ⟨by omega, by omega⟩, (hX_19.st (St_n_keeps_1_mk ⟨x_18, G_14, y_121, G_120, rfl, rfl, f_21, hB_G_14, ⟨c_23, ⟨y_104, ty_104, (Or.inl ⟨c_105, ⟨y_108, ty_108, (Or.inr ⟨c_110, ⟨y_113, ty_113, (Or.inr ⟨c_114, ⟨y_117, ty_117, ⟨y_118, ey_118, (Or.inl ⟨c_119, ⟨y_121, ty_121, ⟨rfl, (Fr.rf.put eG_120 (Or.inl (by decide))), rw_ast eG_120⟩⟩⟩)⟩⟩⟩)⟩⟩)⟩⟩)⟩⟩⟩)), hW, hB_G_120, hF, ((Fr.rf.call hq_15 (by decide) (by decide)).put eG_120 (Or.inl (by decide))), hS, lv_sub hl [0, 1] rfl⟩
            · have c_119 : y_118.toInt ≠ 0 := xI_ne rfl rfl c_119
              refine lv_aload_n hx hb dX12_keeps_76 rfl (lv_at hl 1 rfl) ?_
              refine lv_iload hx hb dX12_keeps_77 (lv_at hl 0 rfl) ?_
              refine lv_iconst (v := 2) hx hb dX12_keeps_79 (by decide) ?_
              refine lv_idiv hx hb dX12_keeps_80 (by decide) ?_
              refine lv_topi (fun y_122 ey_122 => ?_)
              have ty_122 : y_122.toInt = x_18.toInt / 2 := xI_div rfl ey_122 (by decide) (by omega)
              refine lv_iconst (v := 0) hx hb dX12_keeps_81 (by decide) ?_
              refine S_calli (va_runV (As := [.int y_122, .int 0]) (rest := [.int x_18, .ref (a 104)]) ⟨hx, hb, hml, hown, hts⟩ (n_isHeld l D k A a z G_14 y_122 0 ⟨by omega, by omega⟩ ⟨by decide, by decide⟩) (cwV 2 hts (gd_V hgd m1931 m1933 m101 m131 m1934) rfl rfl rfl (by decide +kernel) ⟨Nat.le_of_ble_eq_true rfl, Nat.le_of_ble_eq_true rfl⟩) (pre_V hW hB_G_14 hK hZ hS kd_66 rfl) rfl rfl hl.1 rfl (lv_room (Nat.le_of_ble_eq_true rfl)) dX12_keeps_82 ⟨Nat.le_of_ble_eq_true rfl, Nat.le_of_ble_eq_true rfl⟩) hS (fun r_123 G_124 H locs hpo hW hS => ?_)
              have hX_127 : Q_isHeld y_122 0 G_14 r_123 G_124 := hpo
              obtain ⟨hB_G_124, hq_125, f_128, -⟩ := hpo
              have hF := hF.call hq_125 (by decide) (by decide)
              refine lv_if_eq (tgt := 92) hx hb dX12_keeps_85 (by decide) (fun c_129 => ?_) (fun c_129 => ?_)
              · have c_129 : r_123.toInt = 0 := xI_eq rfl rfl c_129
                refine lv_ldcw (v := 100000) hx hb hown (hg (Cond.constant RX12 502 100000) m1858) dX12_keeps_92 ?_
                refine S_iast hx hb hK hW hS kd_104 (vin (by omega) (by omega)) dX12_keeps_95 (fun G_130 H locs eG_130 hW hS => ?_)
                have hB_G_130 : Bd G_130 := hB_G_124.put (lo := (-2147483648)) (hi := 2147483647) eG_130 rfl rfl rfl (tI_rng _).1 (tI_rng _).2 (hB_G_124.2.put eG_130 rfl)
                have hF := hF.put eG_130 (Or.inl (by decide))
                obtain ⟨y_131, ey_131⟩ : ∃ q, q = x_18 + 1 := ⟨_, rfl⟩
                have ty_131 : y_131.toInt = x_18.toInt + 1 := xI_add rfl rfl ey_131 (by omega) (by omega)
                refine lv_iinc (v := y_131) (lv' := [(4, .int y_131), (0, .ref (a 66))]) hx hb dX12_keeps_96 hl (k := 0) rfl (by rw [ey_131]; rfl) (by decide) rfl (fun ls hl => ?_)
                refine lv_goto (tgt := 22) hx hb dX12_keeps_99 (by decide) ?_
                exact ih_16 (1024 - y_131.toInt : Int).toNat (by omega) _ _ _ ⟨G_130, y_131, (Int.toNat_of_nonneg (by omega)), ⟨by omega, by omega⟩, (hX_19.st (St_n_keeps_1_mk ⟨x_18, G_14, y_131, G_130, rfl, rfl, f_21, hB_G_14, ⟨c_23, ⟨y_104, ty_104, (Or.inl ⟨c_105, ⟨y_108, ty_108, (Or.inr ⟨c_110, ⟨y_113, ty_113, (Or.inr ⟨c_114, ⟨y_117, ty_117, ⟨y_118, ey_118, (Or.inr ⟨c_119, ⟨y_122, ty_122, ⟨r_123, G_124, hX_127, (Or.inl ⟨c_129, ⟨y_131, ty_131, ⟨rfl, (Fr.rf.put eG_130 (Or.inl (by decide))), rw_ast eG_130⟩⟩⟩)⟩⟩⟩)⟩⟩⟩)⟩⟩)⟩⟩)⟩⟩⟩)), hW, hB_G_130, hF, (((Fr.rf.call hq_15 (by decide) (by decide)).call hq_125 (by decide) (by decide)).put eG_130 (Or.inl (by decide))), hS, lv_sub hl [0, 1] rfl⟩
              · have c_129 : r_123.toInt ≠ 0 := xI_ne rfl rfl c_129
                refine lv_iconst (v := 0) hx hb dX12_keeps_88 (by decide) ?_
                refine lv_goto (tgt := 95) hx hb dX12_keeps_89 (by decide) ?_
                refine S_iast hx hb hK hW hS kd_104 (vin (by omega) (by omega)) dX12_keeps_95 (fun G_132 H locs eG_132 hW hS => ?_)
                have hB_G_132 : Bd G_132 := hB_G_124.put (lo := (-2147483648)) (hi := 2147483647) eG_132 rfl rfl rfl (tI_rng _).1 (tI_rng _).2 (hB_G_124.2.put eG_132 rfl)
                have hF := hF.put eG_132 (Or.inl (by decide))
                obtain ⟨y_133, ey_133⟩ : ∃ q, q = x_18 + 1 := ⟨_, rfl⟩
                have ty_133 : y_133.toInt = x_18.toInt + 1 := xI_add rfl rfl ey_133 (by omega) (by omega)
                refine lv_iinc (v := y_133) (lv' := [(4, .int y_133), (0, .ref (a 66))]) hx hb dX12_keeps_96 hl (k := 0) rfl (by rw [ey_133]; rfl) (by decide) rfl (fun ls hl => ?_)
                refine lv_goto (tgt := 22) hx hb dX12_keeps_99 (by decide) ?_
                exact ih_16 (1024 - y_133.toInt : Int).toNat (by omega) _ _ _ ⟨G_132, y_133, (Int.toNat_of_nonneg (by omega)), ⟨by omega, by omega⟩, (hX_19.st (St_n_keeps_1_mk ⟨x_18, G_14, y_133, G_132, rfl, rfl, f_21, hB_G_14, ⟨c_23, ⟨y_104, ty_104, (Or.inl ⟨c_105, ⟨y_108, ty_108, (Or.inr ⟨c_110, ⟨y_113, ty_113, (Or.inr ⟨c_114, ⟨y_117, ty_117, ⟨y_118, ey_118, (Or.inr ⟨c_119, ⟨y_122, ty_122, ⟨r_123, G_124, hX_127, (Or.inr ⟨c_129, ⟨y_133, ty_133, ⟨rfl, (Fr.rf.put eG_132 (Or.inl (by decide))), rw_ast eG_132⟩⟩⟩)⟩⟩⟩)⟩⟩⟩)⟩⟩)⟩⟩)⟩⟩⟩)), hW, hB_G_132, hF, (((Fr.rf.call hq_15 (by decide) (by decide)).call hq_125 (by decide) (by decide)).put eG_132 (Or.inl (by decide))), hS, lv_sub hl [0, 1] rfl⟩
  · have c_7 : r_1.toInt = 0 := xI_eq rfl rfl c_7
    refine lv_iconst (v := (-1)) hx hb dX12_keeps_10 (by decide) ?_
    exact W.iret (v := (-1)) hx hb hr (fun t ht _ => ⟨⟨(-1), G_2, rfl, (Q_keeps_mk ⟨hB_G_2, hF, ⟨r_1, G_2, hX_5, (Or.inl ⟨c_7, ⟨rfl, rfl⟩⟩)⟩⟩), wd_t ht hW⟩, hS.F ht⟩) hS.2.2 dX12_keeps_11

set_option maxHeartbeats 4000000 in
set_option maxRecDepth 100000 in
theorem n_walk (l : Launch) (D : va_G) (k : KT) (A : Nat → Prop) (a : Nat → Nat) (z : SK) (G : GS) (p0 : Int32) (p1 : Int32) (p2 : Int32) (hP9 : gP G = 1) (hac : (G.1 66 78).toInt + (G.1 66 79).toInt ≤ 40) : Met l yX12_walk (WS yX12_walk cX12_walk 4 (some .int)) ({ frames := 5, cells := 0, slots := 0, locals := 117 }) (va_Pc [.ref (a 66), .int p0, .int p1, .int p2] (cW D k A a z G)) (va_Qi (fun (r : Int32) (G1 : GS) => Q_walk p0 p1 p2 G r G1) (fun (G1 : GS) t => Wd D k A a G1 t.heap) A) 0 0 A := by
  refine Met.ofW (cc := cX12_walk) (maxL := 4) (ret := (some .int)) (by decide) rfl ?_
  intro p e s m args below meth c s₁ B hml hv
  obtain ⟨rfl, hW, hB_G, hK, hZ⟩ := hv
  have hx := B.exec
  have hb := B.bytes
  have hr := B.returns
  have hts := atoms_spec (ws := WS yX12_walk cX12_walk 4 (some .int)) B.pre
  have hgd : ∀ w ∈ gd, w ∈ WS yX12_walk cX12_walk 4 (some .int) := fun w h => List.mem_cons_of_mem _ h
  have hg : ∀ w ∈ gd, w.before _ s = true := fun w h => hts w (hgd w h)
  have hown : s.vm.findClass RX12 = some m.cls := findClass_of_methodNamed B.named
  have hS : va_S A s.heap s.heap [] := va_S.rf
  have hF : Fr [110, 111, 76, 97, 98] [(66, 59), (66, 60), (66, 61), (66, 62), (66, 63), (66, 78), (66, 79)] G G := Fr.rf
  have hl := lv_entry ([.ref (a 66), .int p0, .int p1, .int p2]) (n := 4) (Nat.le_of_ble_eq_true rfl)
  rw [lg_entry_eq]
  generalize (lg_sl ([.ref (a 66), .int p0, .int p1, .int p2]) ++ List.replicate (4 - (lg_sl ([.ref (a 66), .int p0, .int p1, .int p2])).length) Slot.unset).toArray = ls at hl ⊢
  have hl : lv_has ls 4 [(0, .ref (a 66)), (1, .int p0), (2, .int p1), (3, .int p2)] := hl
  refine lv_aload_n hx hb dX12_walk_0 rfl (lv_at hl 0 rfl) ?_
  refine lv_iload_n hx hb dX12_walk_1 rfl (lv_at hl 1 rfl) ?_
  refine S_calli (va_runV (As := [.int p0]) (rest := []) ⟨hx, hb, hml, hown, hts⟩ (n_isWalker l D k A a z G p0 ) (cwV 1 hts (gd_V hgd m1830 m1832 m90 m131 m1833) rfl rfl rfl (by decide +kernel) ⟨Nat.le_of_ble_eq_true rfl, Nat.le_of_ble_eq_true rfl⟩) (pre_V hW hB_G hK hZ hS kd_66 rfl) rfl rfl hl.1 rfl (lv_room (Nat.le_of_ble_eq_true rfl)) dX12_walk_2 ⟨Nat.le_of_ble_eq_true rfl, Nat.le_of_ble_eq_true rfl⟩) hS (fun r_1 G_2 H locs hpo hW hS => ?_)
  have hX_5 : Q_isWalker p0 G r_1 G_2 := hpo
  obtain ⟨hB_G_2, hq_3, f_6, hp_4, -⟩ := hpo
  have hF := hF.call hq_3 (by decide) (by decide)
  refine lv_if_eq (tgt := 32) hx hb dX12_walk_5 (by decide) (fun c_7 => ?_) (fun c_7 => ?_)
  · have c_7 : r_1.toInt = 0 := xI_eq rfl rfl c_7
    refine lv_iconst (v := (-1)) hx hb dX12_walk_32 (by decide) ?_
    have b_8 : 0 ≤ (G.1 66 78).toInt ∧ (G.1 66 78).toInt ≤ 40 := hB_G.i 66 78 rfl rfl
    have g_9 : (G_2.1 66 78).toInt = (G.1 66 78).toInt := by rw [show G_2.1 66 78 = (G.1 66 78) from (hq_3.i 66 78 (by decide) (by decide))]
    have b_10 : 0 ≤ (G.1 66 79).toInt ∧ (G.1 66 79).toInt ≤ 40 := hB_G.i 66 79 rfl rfl
    have g_11 : (G_2.1 66 79).toInt = (G.1 66 79).toInt := by rw [show G_2.1 66 79 = (G.1 66 79) from (hq_3.i 66 79 (by decide) (by decide))]
    exact W.iret (v := (-1)) hx hb hr (fun t ht _ => ⟨⟨(-1), G_2, rfl, (Q_walk_mk ⟨hB_G_2, hF, (by have hq : ((-1) : Int32).toInt = (-1) := rfl; (try dsimp only); omega), ⟨r_1, G_2, hX_5, (Or.inl ⟨c_7, ⟨rfl, rfl⟩⟩)⟩⟩), wd_t ht hW⟩, hS.F ht⟩) hS.2.2 dX12_walk_33
  · have c_7 : r_1.toInt ≠ 0 := xI_ne rfl rfl c_7
    refine lv_aload_n hx hb dX12_walk_8 rfl (lv_at hl 0 rfl) ?_
    refine lv_iload_n hx hb dX12_walk_9 rfl (lv_at hl 2 rfl) ?_
    have b_12 : 0 ≤ (G.1 66 52).toInt ∧ (G.1 66 52).toInt ≤ 3 := hB_G.i 66 52 rfl rfl
    have g_13 : (G_2.1 66 52).toInt = (G.1 66 52).toInt := by rw [show G_2.1 66 52 = (G.1 66 52) from (hq_3.i 66 52 (by decide) (by decide))]
    refine S_calli (va_runV (As := [.int p1]) (rest := []) ⟨hx, hb, hml, hown, hts⟩ (n_isStreet l D k A a z G_2 p1 ) (cwV 1 hts (gd_V hgd m1777 m1779 m83 m131 m1780) rfl rfl rfl (by decide +kernel) ⟨Nat.le_of_ble_eq_true rfl, Nat.le_of_ble_eq_true rfl⟩) (pre_V hW hB_G_2 hK hZ hS kd_66 rfl) rfl rfl hl.1 rfl (lv_room (Nat.le_of_ble_eq_true rfl)) dX12_walk_10 ⟨Nat.le_of_ble_eq_true rfl, Nat.le_of_ble_eq_true rfl⟩) hS (fun r_14 G_15 H locs hpo hW hS => ?_)
    have hX_18 : Q_isStreet p1 G_2 r_14 G_15 := hpo
    obtain ⟨hB_G_15, hq_16, f_19, hp_17, -⟩ := hpo
    have hF := hF.call hq_16 (by decide) (by decide)
    refine lv_if_eq (tgt := 32) hx hb dX12_walk_13 (by decide) (fun c_20 => ?_) (fun c_20 => ?_)
    · have c_20 : r_14.toInt = 0 := xI_eq rfl rfl c_20
      refine lv_iconst (v := (-1)) hx hb dX12_walk_32 (by decide) ?_
      have b_21 : 0 ≤ (G.1 66 78).toInt ∧ (G.1 66 78).toInt ≤ 40 := hB_G.i 66 78 rfl rfl
      have g_22 : (G_15.1 66 78).toInt = (G.1 66 78).toInt := by rw [show G_15.1 66 78 = (G.1 66 78) from ((hq_16.i 66 78 (by decide) (by decide)).trans (hq_3.i 66 78 (by decide) (by decide)))]
      have b_23 : 0 ≤ (G.1 66 79).toInt ∧ (G.1 66 79).toInt ≤ 40 := hB_G.i 66 79 rfl rfl
      have g_24 : (G_15.1 66 79).toInt = (G.1 66 79).toInt := by rw [show G_15.1 66 79 = (G.1 66 79) from ((hq_16.i 66 79 (by decide) (by decide)).trans (hq_3.i 66 79 (by decide) (by decide)))]
      exact W.iret (v := (-1)) hx hb hr (fun t ht _ => ⟨⟨(-1), G_15, rfl, (Q_walk_mk ⟨hB_G_15, hF, (by have hq : ((-1) : Int32).toInt = (-1) := rfl; (try dsimp only); omega), ⟨r_1, G_2, hX_5, (Or.inr ⟨c_7, ⟨r_14, G_15, hX_18, (Or.inl ⟨c_20, ⟨rfl, rfl⟩⟩)⟩⟩)⟩⟩), wd_t ht hW⟩, hS.F ht⟩) hS.2.2 dX12_walk_33
    · have c_20 : r_14.toInt ≠ 0 := xI_ne rfl rfl c_20
      refine lv_iload_n hx hb dX12_walk_16 rfl (lv_at hl 3 rfl) ?_
      refine lv_iconst (v := 0) hx hb dX12_walk_17 (by decide) ?_
      refine lv_aload_n hx hb dX12_walk_18 rfl (lv_at hl 0 rfl) ?_
      refine S_getR (n := 94) (C := RX12) (T := TX12) (N := 89) hx hb hg iX12 hown hK hW kd_66 rfl 42 (by decide) (hg (Cond.fieldLink RX12 96 "SlabWalkModel" "mosts" "[I") m1356) (fun _ h9 => h9) rfl dX12_walk_19 ?_
      refine lv_iload_n hx hb dX12_walk_22 rfl (lv_at hl 1 rfl) ?_
      refine S_iald hx hb hK hW kd_94 (vin (by omega) (by omega)) dX12_walk_23 (fun y_25 ey_25 => ?_)
      have ty_25 : 0 ≤ y_25.toInt ∧ y_25.toInt ≤ 60 := hB_G_15.v ey_25 rfl rfl
      refine lv_iconst (v := 1) hx hb dX12_walk_24 (by decide) ?_
      refine lv_isub hx hb dX12_walk_25 ?_
      refine lv_topi (fun y_26 ey_26 => ?_)
      have ty_26 : y_26.toInt = y_25.toInt - 1 := xI_sub rfl rfl ey_26 (by omega) (by omega)
      have qc_27 : (0 : Int32).toInt = 0 := rfl
      refine S_calli (va_runS (As := [.int p2, .int 0, .int y_26]) (rest := []) ⟨hx, hb, hml, hown, hts⟩ (n_isIn l D k A a z G_15 p2 0 y_26 ) (va_cwS 3 hts (gd_S hgd m1781 m1782 m131 m1783) rfl rfl rfl (by decide +kernel) ⟨Nat.le_of_ble_eq_true rfl, Nat.le_of_ble_eq_true rfl⟩) (pre_S hW hB_G_15 hK hZ hS) rfl rfl hl.1 rfl (lv_room (Nat.le_of_ble_eq_true rfl)) dX12_walk_26 ⟨Nat.le_of_ble_eq_true rfl, Nat.le_of_ble_eq_true rfl⟩) hS (fun r_28 G_29 H locs hpo hW hS => ?_)
      have hX_32 : Q_isIn p2 0 y_26 G_15 r_28 G_29 := hpo
      obtain ⟨hB_G_29, hq_30, f_33, hp_31, -⟩ := hpo
      have hF := hF.call hq_30 (by decide) (by decide)
      refine lv_if_ne (tgt := 34) hx hb dX12_walk_29 (by decide) (fun c_34 => ?_) (fun c_34 => ?_)
      · have c_34 : r_28.toInt ≠ 0 := xI_ne rfl rfl c_34
        refine lv_aload_n hx hb dX12_walk_34 rfl (lv_at hl 0 rfl) ?_
        refine lv_iload_n hx hb dX12_walk_35 rfl (lv_at hl 1 rfl) ?_
        refine lv_iload_n hx hb dX12_walk_36 rfl (lv_at hl 2 rfl) ?_
        refine lv_aload_n hx hb dX12_walk_37 rfl (lv_at hl 0 rfl) ?_
        refine S_getR (n := 110) (C := RX12) (T := TX12) (N := 89) hx hb hg iX12 hown hK hW kd_66 rfl 76 (by decide) (hg (Cond.fieldLink RX12 151 "SlabWalkModel" "now" "[I") m1390) (fun _ h9 => h9) rfl dX12_walk_38 ?_
        refine lv_bipush (v := 8) hx hb dX12_walk_41 (by decide) ?_
        refine S_iald hx hb hK hW kd_110 (vin (by decide) (by decide)) dX12_walk_43 (fun y_35 ey_35 => ?_)
        have g_36 : gP G_29 = gP G := gP_fr (rs := []) (fs := []) (((Fr.rf.call hq_3 (by decide) (by decide)).call hq_16 (by decide) (by decide)).call hq_30 (by decide) (by decide)) (by decide) (by decide)
        refine S_callv (va_runV (As := [.int p0, .int p1, .int y_35]) (rest := []) ⟨hx, hb, hml, hown, hts⟩ (n_layStreet l D k A a z G_29 p0 p1 y_35 ⟨by omega, by omega⟩ ⟨by omega, by omega⟩ (by omega)) (cwV 3 hts (gd_V hgd m1834 m1836 m91 m131 m1837) rfl rfl rfl (by decide +kernel) ⟨Nat.le_of_ble_eq_true rfl, Nat.le_of_ble_eq_true rfl⟩) (pre_V hW hB_G_29 hK hZ hS kd_66 rfl) rfl rfl hl.1 rfl (lv_room (Nat.le_of_ble_eq_true rfl)) dX12_walk_44 ⟨Nat.le_of_ble_eq_true rfl, Nat.le_of_ble_eq_true rfl⟩) hS (fun G_38 H locs hpo hW hS => ?_)
        have hX_41 : Q_layStreet p0 p1 y_35 G_29 G_38 := hpo
        obtain ⟨hB_G_38, hq_39, hp_40, -⟩ := hpo
        have hF := hF.call hq_39 (by decide) (by decide)
        refine lv_aload_n hx hb dX12_walk_47 rfl (lv_at hl 0 rfl) ?_
        refine lv_iload_n hx hb dX12_walk_48 rfl (lv_at hl 3 rfl) ?_
        have b_42 : 0 ≤ (G_38.1 66 59).toInt ∧ (G_38.1 66 59).toInt ≤ 400 := hB_G_38.i 66 59 rfl rfl
        have b_43 : 0 ≤ (G_38.1 66 60).toInt ∧ (G_38.1 66 60).toInt ≤ 12 := hB_G_38.i 66 60 rfl rfl
        refine S_calli (va_runV (As := [.int p2]) (rest := []) ⟨hx, hb, hml, hown, hts⟩ (n_stands1 l D k A a z G_38 p2 ) (cwV 1 hts (gd_V hgd m1838 m1840 m92 m131 m1841) rfl rfl rfl (by decide +kernel) ⟨Nat.le_of_ble_eq_true rfl, Nat.le_of_ble_eq_true rfl⟩) (pre_V hW hB_G_38 hK hZ hS kd_66 rfl) rfl rfl hl.1 rfl (lv_room (Nat.le_of_ble_eq_true rfl)) dX12_walk_49 ⟨Nat.le_of_ble_eq_true rfl, Nat.le_of_ble_eq_true rfl⟩) hS (fun r_44 G_45 H locs hpo hW hS => ?_)
        have hX_48 : Q_stands1 p2 G_38 r_44 G_45 := hpo
        obtain ⟨hB_G_45, hq_46, f_49, hp_47, -⟩ := hpo
        have hF := hF.call hq_46 (by decide) (by decide)
        refine lv_if_ne (tgt := 57) hx hb dX12_walk_52 (by decide) (fun c_50 => ?_) (fun c_50 => ?_)
        · have c_50 : r_44.toInt ≠ 0 := xI_ne rfl rfl c_50
          refine lv_aload_n hx hb dX12_walk_57 rfl (lv_at hl 0 rfl) ?_
          refine S_callv (va_runV (As := []) (rest := []) ⟨hx, hb, hml, hown, hts⟩ (n_act l D k A a z G_45  ) (cwV 0 hts (gd_V hgd m1991 m1993 m111 m131 m1994) rfl rfl rfl (by decide +kernel) ⟨Nat.le_of_ble_eq_true rfl, Nat.le_of_ble_eq_true rfl⟩) (pre_V hW hB_G_45 hK hZ hS kd_66 rfl) rfl rfl hl.1 rfl (lv_room (Nat.le_of_ble_eq_true rfl)) dX12_walk_58 ⟨Nat.le_of_ble_eq_true rfl, Nat.le_of_ble_eq_true rfl⟩) hS (fun G_52 H locs hpo hW hS => ?_)
          have hX_55 : Q_act G_45 G_52 := hpo
          obtain ⟨hB_G_52, hq_53, hp_54, -⟩ := hpo
          have hF := hF.call hq_53 (by decide) (by decide)
          refine lv_aload_n hx hb dX12_walk_61 rfl (lv_at hl 0 rfl) ?_
          refine S_getR (n := 110) (C := RX12) (T := TX12) (N := 89) hx hb hg iX12 hown hK hW kd_66 rfl 76 (by decide) (hg (Cond.fieldLink RX12 151 "SlabWalkModel" "now" "[I") m1390) (fun _ h9 => h9) rfl dX12_walk_62 ?_
          refine lv_iconst (v := 0) hx hb dX12_walk_65 (by decide) ?_
          refine lv_iload_n hx hb dX12_walk_66 rfl (lv_at hl 1 rfl) ?_
          refine S_iast hx hb hK hW hS kd_110 (vin (by decide) (by decide)) dX12_walk_67 (fun G_56 H locs eG_56 hW hS => ?_)
          have qc_57 : (0 : Int32).toInt = 0 := rfl
          have hB_G_56 : Bd G_56 := hB_G_52.putNow 110 (by decide) eG_56 (by omega) (by omega) (by omega) rfl
          have hF := hF.put eG_56 (Or.inl (by decide))
          refine lv_aload_n hx hb dX12_walk_68 rfl (lv_at hl 0 rfl) ?_
          refine S_getR (n := 110) (C := RX12) (T := TX12) (N := 89) hx hb hg iX12 hown hK hW kd_66 rfl 76 (by decide) (hg (Cond.fieldLink RX12 151 "SlabWalkModel" "now" "[I") m1390) (fun _ h9 => h9) rfl dX12_walk_69 ?_
          refine lv_iconst (v := 1) hx hb dX12_walk_72 (by decide) ?_
          refine lv_iload_n hx hb dX12_walk_73 rfl (lv_at hl 2 rfl) ?_
          refine S_iast hx hb hK hW hS kd_110 (vin (by decide) (by decide)) dX12_walk_74 (fun G_58 H locs eG_58 hW hS => ?_)
          have qc_59 : (1 : Int32).toInt = 1 := rfl
          have hB_G_58 : Bd G_58 := hB_G_56.putNow 110 (by decide) eG_58 (by omega) (by omega) (by omega) rfl
          have hF := hF.put eG_58 (Or.inl (by decide))
          refine lv_aload_n hx hb dX12_walk_75 rfl (lv_at hl 0 rfl) ?_
          refine S_getR (n := 110) (C := RX12) (T := TX12) (N := 89) hx hb hg iX12 hown hK hW kd_66 rfl 76 (by decide) (hg (Cond.fieldLink RX12 151 "SlabWalkModel" "now" "[I") m1390) (fun _ h9 => h9) rfl dX12_walk_76 ?_
          refine lv_iconst (v := 2) hx hb dX12_walk_79 (by decide) ?_
          refine lv_iload_n hx hb dX12_walk_80 rfl (lv_at hl 3 rfl) ?_
          refine S_iast hx hb hK hW hS kd_110 (vin (by decide) (by decide)) dX12_walk_81 (fun G_60 H locs eG_60 hW hS => ?_)
          have qc_61 : (2 : Int32).toInt = 2 := rfl
          have hB_G_60 : Bd G_60 := hB_G_58.putNow 110 (by decide) eG_60 (by omega) (by omega) (by omega) rfl
          have hF := hF.put eG_60 (Or.inl (by decide))
          refine lv_aload_n hx hb dX12_walk_82 rfl (lv_at hl 0 rfl) ?_
          refine S_getR (n := 110) (C := RX12) (T := TX12) (N := 89) hx hb hg iX12 hown hK hW kd_66 rfl 76 (by decide) (hg (Cond.fieldLink RX12 151 "SlabWalkModel" "now" "[I") m1390) (fun _ h9 => h9) rfl dX12_walk_83 ?_
          refine lv_iconst (v := 3) hx hb dX12_walk_86 (by decide) ?_
          refine lv_iconst (v := 1) hx hb dX12_walk_87 (by decide) ?_
          refine S_iast hx hb hK hW hS kd_110 (vin (by decide) (by decide)) dX12_walk_88 (fun G_62 H locs eG_62 hW hS => ?_)
          have qc_63 : (1 : Int32).toInt = 1 := rfl
          have qc_64 : (3 : Int32).toInt = 3 := rfl
          have hB_G_62 : Bd G_62 := hB_G_60.putNow 110 (by decide) eG_62 (by omega) (by omega) (by omega) rfl
          have hF := hF.put eG_62 (Or.inl (by decide))
          refine lv_aload_n hx hb dX12_walk_89 rfl (lv_at hl 0 rfl) ?_
          refine S_getR (n := 110) (C := RX12) (T := TX12) (N := 89) hx hb hg iX12 hown hK hW kd_66 rfl 76 (by decide) (hg (Cond.fieldLink RX12 151 "SlabWalkModel" "now" "[I") m1390) (fun _ h9 => h9) rfl dX12_walk_90 ?_
          refine lv_iconst (v := 4) hx hb dX12_walk_93 (by decide) ?_
          refine lv_aload_n hx hb dX12_walk_94 rfl (lv_at hl 0 rfl) ?_
          refine lv_iload_n hx hb dX12_walk_95 rfl (lv_at hl 3 rfl) ?_
          refine S_calli (va_runV (As := [.int p2]) (rest := [.int 4, .ref (a 110)]) ⟨hx, hb, hml, hown, hts⟩ (n_stands l D k A a z G_62 p2 ⟨by omega, by omega⟩) (cwV 1 hts (gd_V hgd m1995 m1997 m112 m131 m1998) rfl rfl rfl (by decide +kernel) ⟨Nat.le_of_ble_eq_true rfl, Nat.le_of_ble_eq_true rfl⟩) (pre_V hW hB_G_62 hK hZ hS kd_66 rfl) rfl rfl hl.1 rfl (lv_room (Nat.le_of_ble_eq_true rfl)) dX12_walk_96 ⟨Nat.le_of_ble_eq_true rfl, Nat.le_of_ble_eq_true rfl⟩) hS (fun r_65 G_66 H locs hpo hW hS => ?_)
          have hX_69 : Q_stands p2 G_62 r_65 G_66 := hpo
          obtain ⟨hB_G_66, hq_67, f_70, -⟩ := hpo
          have hF := hF.call hq_67 (by decide) (by decide)
          refine S_iast hx hb hK hW hS kd_110 (vin (by decide) (by decide)) dX12_walk_99 (fun G_71 H locs eG_71 hW hS => ?_)
          have qc_72 : (4 : Int32).toInt = 4 := rfl
          have hB_G_71 : Bd G_71 := hB_G_66.putNow 110 (by decide) eG_71 (by omega) (by omega) (by omega) rfl
          have hF := hF.put eG_71 (Or.inl (by decide))
          refine lv_aload_n hx hb dX12_walk_100 rfl (lv_at hl 0 rfl) ?_
          refine S_getR (n := 110) (C := RX12) (T := TX12) (N := 89) hx hb hg iX12 hown hK hW kd_66 rfl 76 (by decide) (hg (Cond.fieldLink RX12 151 "SlabWalkModel" "now" "[I") m1390) (fun _ h9 => h9) rfl dX12_walk_101 ?_
          refine lv_iconst (v := 5) hx hb dX12_walk_104 (by decide) ?_
          refine lv_iconst (v := 0) hx hb dX12_walk_105 (by decide) ?_
          refine S_iast hx hb hK hW hS kd_110 (vin (by decide) (by decide)) dX12_walk_106 (fun G_73 H locs eG_73 hW hS => ?_)
          have qc_74 : (0 : Int32).toInt = 0 := rfl
          have qc_75 : (5 : Int32).toInt = 5 := rfl
          have hB_G_73 : Bd G_73 := hB_G_71.putNow 110 (by decide) eG_73 (by omega) (by omega) (by omega) rfl
          have hF := hF.put eG_73 (Or.inl (by decide))
          refine lv_aload_n hx hb dX12_walk_107 rfl (lv_at hl 0 rfl) ?_
          refine S_getR (n := 110) (C := RX12) (T := TX12) (N := 89) hx hb hg iX12 hown hK hW kd_66 rfl 76 (by decide) (hg (Cond.fieldLink RX12 151 "SlabWalkModel" "now" "[I") m1390) (fun _ h9 => h9) rfl dX12_walk_108 ?_
          refine lv_iconst (v := 4) hx hb dX12_walk_111 (by decide) ?_
          refine S_iald hx hb hK hW kd_110 (vin (by decide) (by decide)) dX12_walk_112 (fun y_76 ey_76 => ?_)
          have b_77 : 0 ≤ (G_52.1 66 78).toInt ∧ (G_52.1 66 78).toInt ≤ 40 := hB_G_52.i 66 78 rfl rfl
          have g_78 : (G_73.1 66 78).toInt = (G_52.1 66 78).toInt := by rw [show G_73.1 66 78 = (G_52.1 66 78) from ((gp_ne eG_73 (fun q => absurd q.1 (by decide))).trans ((gp_ne eG_71 (fun q => absurd q.1 (by decide))).trans ((hq_67.i 66 78 (by decide) (by decide)).trans ((gp_ne eG_62 (fun q => absurd q.1 (by decide))).trans ((gp_ne eG_60 (fun q => absurd q.1 (by decide))).trans ((gp_ne eG_58 (fun q => absurd q.1 (by decide))).trans (gp_ne eG_56 (fun q => absurd q.1 (by decide)))))))))]
          have b_79 : 0 ≤ (G_52.1 66 79).toInt ∧ (G_52.1 66 79).toInt ≤ 40 := hB_G_52.i 66 79 rfl rfl
          have g_80 : (G_73.1 66 79).toInt = (G_52.1 66 79).toInt := by rw [show G_73.1 66 79 = (G_52.1 66 79) from ((gp_ne eG_73 (fun q => absurd q.1 (by decide))).trans ((gp_ne eG_71 (fun q => absurd q.1 (by decide))).trans ((hq_67.i 66 79 (by decide) (by decide)).trans ((gp_ne eG_62 (fun q => absurd q.1 (by decide))).trans ((gp_ne eG_60 (fun q => absurd q.1 (by decide))).trans ((gp_ne eG_58 (fun q => absurd q.1 (by decide))).trans (gp_ne eG_56 (fun q => absurd q.1 (by decide)))))))))]
          exact W.iret (v := y_76) hx hb hr (fun t ht _ => ⟨⟨y_76, G_73, rfl, (Q_walk_mk ⟨hB_G_73, hF, (by omega), ⟨r_1, G_2, hX_5, (Or.inr ⟨c_7, ⟨r_14, G_15, hX_18, (Or.inr ⟨c_20, ⟨y_25, ey_25, ⟨y_26, ty_26, ⟨r_28, G_29, hX_32, (Or.inr ⟨c_34, ⟨y_35, ey_35, ⟨G_38, hX_41, ⟨r_44, G_45, hX_48, (Or.inr ⟨c_50, ⟨G_52, hX_55, ⟨G_62, hB_G_62, ((((Fr.rf.put eG_56 (Or.inl (by decide))).put eG_58 (Or.inl (by decide))).put eG_60 (Or.inl (by decide))).put eG_62 (Or.inl (by decide))), (rw_ast eG_62).trans (congrArg (fun q => upd q ((3 : Int32).toNatClampNeg) 1) ((rw_ast eG_60).trans (congrArg (fun q => upd q ((2 : Int32).toNatClampNeg) p2) ((rw_ast eG_58).trans (congrArg (fun q => upd q ((1 : Int32).toNatClampNeg) p1) (rw_ast eG_56)))))), ⟨r_65, G_66, hX_69, ⟨y_76, ey_76.trans (congrFun ((rw_ast eG_73).trans (congrArg (fun q => upd q ((5 : Int32).toNatClampNeg) 0) (rw_ast eG_71))) _), ⟨rfl, ((Fr.rf.put eG_71 (Or.inl (by decide))).put eG_73 (Or.inl (by decide))), (rw_ast eG_73).trans (congrArg (fun q => upd q ((5 : Int32).toNatClampNeg) 0) (rw_ast eG_71))⟩⟩⟩⟩⟩⟩)⟩⟩⟩⟩)⟩⟩⟩⟩)⟩⟩)⟩⟩), wd_t ht hW⟩, hS.F ht⟩) hS.2.2 dX12_walk_113
        · have c_50 : r_44.toInt = 0 := xI_eq rfl rfl c_50
          refine lv_iconst (v := (-1)) hx hb dX12_walk_55 (by decide) ?_
          have b_81 : 0 ≤ (G.1 66 78).toInt ∧ (G.1 66 78).toInt ≤ 40 := hB_G.i 66 78 rfl rfl
          have g_82 : (G_45.1 66 78).toInt = (G.1 66 78).toInt := by rw [show G_45.1 66 78 = (G.1 66 78) from ((hq_46.i 66 78 (by decide) (by decide)).trans ((hq_39.i 66 78 (by decide) (by decide)).trans ((hq_30.i 66 78 (by decide) (by decide)).trans ((hq_16.i 66 78 (by decide) (by decide)).trans (hq_3.i 66 78 (by decide) (by decide))))))]
          have b_83 : 0 ≤ (G.1 66 79).toInt ∧ (G.1 66 79).toInt ≤ 40 := hB_G.i 66 79 rfl rfl
          have g_84 : (G_45.1 66 79).toInt = (G.1 66 79).toInt := by rw [show G_45.1 66 79 = (G.1 66 79) from ((hq_46.i 66 79 (by decide) (by decide)).trans ((hq_39.i 66 79 (by decide) (by decide)).trans ((hq_30.i 66 79 (by decide) (by decide)).trans ((hq_16.i 66 79 (by decide) (by decide)).trans (hq_3.i 66 79 (by decide) (by decide))))))]
          exact W.iret (v := (-1)) hx hb hr (fun t ht _ => ⟨⟨(-1), G_45, rfl, (Q_walk_mk ⟨hB_G_45, hF, (by have hq : ((-1) : Int32).toInt = (-1) := rfl; (try dsimp only); omega), ⟨r_1, G_2, hX_5, (Or.inr ⟨c_7, ⟨r_14, G_15, hX_18, (Or.inr ⟨c_20, ⟨y_25, ey_25, ⟨y_26, ty_26, ⟨r_28, G_29, hX_32, (Or.inr ⟨c_34, ⟨y_35, ey_35, ⟨G_38, hX_41, ⟨r_44, G_45, hX_48, (Or.inl ⟨c_50, ⟨rfl, rfl⟩⟩)⟩⟩⟩⟩)⟩⟩⟩⟩)⟩⟩)⟩⟩), wd_t ht hW⟩, hS.F ht⟩) hS.2.2 dX12_walk_56
      · have c_34 : r_28.toInt = 0 := xI_eq rfl rfl c_34
        refine lv_iconst (v := (-1)) hx hb dX12_walk_32 (by decide) ?_
        have b_85 : 0 ≤ (G.1 66 78).toInt ∧ (G.1 66 78).toInt ≤ 40 := hB_G.i 66 78 rfl rfl
        have g_86 : (G_29.1 66 78).toInt = (G.1 66 78).toInt := by rw [show G_29.1 66 78 = (G.1 66 78) from ((hq_30.i 66 78 (by decide) (by decide)).trans ((hq_16.i 66 78 (by decide) (by decide)).trans (hq_3.i 66 78 (by decide) (by decide))))]
        have b_87 : 0 ≤ (G.1 66 79).toInt ∧ (G.1 66 79).toInt ≤ 40 := hB_G.i 66 79 rfl rfl
        have g_88 : (G_29.1 66 79).toInt = (G.1 66 79).toInt := by rw [show G_29.1 66 79 = (G.1 66 79) from ((hq_30.i 66 79 (by decide) (by decide)).trans ((hq_16.i 66 79 (by decide) (by decide)).trans (hq_3.i 66 79 (by decide) (by decide))))]
        exact W.iret (v := (-1)) hx hb hr (fun t ht _ => ⟨⟨(-1), G_29, rfl, (Q_walk_mk ⟨hB_G_29, hF, (by have hq : ((-1) : Int32).toInt = (-1) := rfl; (try dsimp only); omega), ⟨r_1, G_2, hX_5, (Or.inr ⟨c_7, ⟨r_14, G_15, hX_18, (Or.inr ⟨c_20, ⟨y_25, ey_25, ⟨y_26, ty_26, ⟨r_28, G_29, hX_32, (Or.inl ⟨c_34, ⟨rfl, rfl⟩⟩)⟩⟩⟩⟩)⟩⟩)⟩⟩), wd_t ht hW⟩, hS.F ht⟩) hS.2.2 dX12_walk_33
