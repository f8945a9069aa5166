theorem m102 : Cond.selects RX12 yX12_keepOn yX12_keepOn ∈ gd := gd_mem 102 (by decide +kernel) (by decide +kernel)
theorem m112 : Cond.selects RX12 yX12_stands yX12_stands ∈ gd := gd_mem 112 (by decide +kernel) (by decide +kernel)
theorem m1935 : Cond.methodLink RX12 550 yX12_keepOn ∈ gd := gdk_8 139 rfl rfl
theorem m1937 : Cond.instanceMethod yX12_keepOn ∈ gd := gdk_8 141 rfl rfl
theorem m1938 : Cond.code yX12_keepOn cX12_keepOn 6 none ∈ gd := gdk_8 142 rfl rfl
theorem m1995 : Cond.methodLink RX12 584 yX12_stands ∈ gd := gdk_8 199 rfl rfl
theorem m1997 : Cond.instanceMethod yX12_stands ∈ gd := gdk_8 201 rfl rfl
theorem m1998 : Cond.code yX12_stands cX12_stands 2 (some .int) ∈ gd := gdk_8 202 rfl rfl
theorem dX12_keeps_0 : decode cX12_keeps 0 = .ok (.aload_n 0, 1) := dq_of (by decide +kernel)
theorem dX12_keeps_1 : decode cX12_keeps 1 = .ok (.iload_n 1, 1) := dq_of (by decide +kernel)
theorem dX12_keeps_2 : decode cX12_keeps 2 = .ok (.iload_n 2, 1) := dq_of (by decide +kernel)
theorem dX12_keeps_3 : decode cX12_keeps 3 = .ok (.iload_n 3, 1) := dq_of (by decide +kernel)
theorem dX12_keeps_4 : decode cX12_keeps 4 = .ok (.invokevirtual 490, 3) := dq_of (by decide +kernel)
theorem dX12_keeps_7 : decode cX12_keeps 7 = .ok (.ifCond .ne 5, 3) := dq_of (by decide +kernel)
theorem dX12_keeps_10 : decode cX12_keeps 10 = .ok (.iconst (-1), 1) := dq_of (by decide +kernel)
theorem dX12_keeps_11 : decode cX12_keeps 11 = .ok (.ireturn, 1) := dq_of (by decide +kernel)
theorem dX12_keeps_12 : decode cX12_keeps 12 = .ok (.aload_n 0, 1) := dq_of (by decide +kernel)
theorem dX12_keeps_13 : decode cX12_keeps 13 = .ok (.iload_n 1, 1) := dq_of (by decide +kernel)
theorem dX12_keeps_14 : decode cX12_keeps 14 = .ok (.iload_n 2, 1) := dq_of (by decide +kernel)
theorem dX12_keeps_15 : decode cX12_keeps 15 = .ok (.iload_n 3, 1) := dq_of (by decide +kernel)
theorem dX12_keeps_16 : decode cX12_keeps 16 = .ok (.invokevirtual 493, 3) := dq_of (by decide +kernel)
theorem dX12_keeps_19 : decode cX12_keeps 19 = .ok (.iconst 0, 1) := dq_of (by decide +kernel)
theorem dX12_keeps_20 : decode cX12_keeps 20 = .ok (.istore 4, 2) := dq_of (by decide +kernel)
theorem dX12_keeps_22 : decode cX12_keeps 22 = .ok (.iload 4, 2) := dq_of (by decide +kernel)
theorem dX12_keeps_24 : decode cX12_keeps 24 = .ok (.sipush 1024, 3) := dq_of (by decide +kernel)
theorem dX12_keeps_27 : decode cX12_keeps 27 = .ok (.if_icmp .ge 75, 3) := dq_of (by decide +kernel)
theorem dX12_keeps_30 : decode cX12_keeps 30 = .ok (.aload_n 0, 1) := dq_of (by decide +kernel)
theorem dX12_keeps_31 : decode cX12_keeps 31 = .ok (.getfield 133, 3) := dq_of (by decide +kernel)
theorem dX12_keeps_34 : decode cX12_keeps 34 = .ok (.iload 4, 2) := dq_of (by decide +kernel)
theorem dX12_keeps_36 : decode cX12_keeps 36 = .ok (.iload 4, 2) := dq_of (by decide +kernel)
theorem dX12_keeps_38 : decode cX12_keeps 38 = .ok (.iconst 2, 1) := dq_of (by decide +kernel)
theorem dX12_keeps_39 : decode cX12_keeps 39 = .ok (.irem, 1) := dq_of (by decide +kernel)
theorem dX12_keeps_40 : decode cX12_keeps 40 = .ok (.ifCond .ne 52, 3) := dq_of (by decide +kernel)
theorem dX12_keeps_43 : decode cX12_keeps 43 = .ok (.iload 4, 2) := dq_of (by decide +kernel)
theorem dX12_keeps_45 : decode cX12_keeps 45 = .ok (.iconst 2, 1) := dq_of (by decide +kernel)
theorem dX12_keeps_46 : decode cX12_keeps 46 = .ok (.idiv, 1) := dq_of (by decide +kernel)
theorem dX12_keeps_47 : decode cX12_keeps 47 = .ok (.aload_n 0, 1) := dq_of (by decide +kernel)
theorem dX12_keeps_48 : decode cX12_keeps 48 = .ok (.getfield 478, 3) := dq_of (by decide +kernel)
theorem dX12_keeps_51 : decode cX12_keeps 51 = .ok (.if_icmp .ge 41, 3) := dq_of (by decide +kernel)
theorem dX12_keeps_54 : decode cX12_keeps 54 = .ok (.iload 4, 2) := dq_of (by decide +kernel)
theorem dX12_keeps_56 : decode cX12_keeps 56 = .ok (.iconst 2, 1) := dq_of (by decide +kernel)
theorem dX12_keeps_57 : decode cX12_keeps 57 = .ok (.idiv, 1) := dq_of (by decide +kernel)
theorem dX12_keeps_58 : decode cX12_keeps 58 = .ok (.sipush 400, 3) := dq_of (by decide +kernel)
theorem dX12_keeps_61 : decode cX12_keeps 61 = .ok (.if_icmp .ge 31, 3) := dq_of (by decide +kernel)
theorem dX12_keeps_64 : decode cX12_keeps 64 = .ok (.aload_n 0, 1) := dq_of (by decide +kernel)
theorem dX12_keeps_65 : decode cX12_keeps 65 = .ok (.getfield 115, 3) := dq_of (by decide +kernel)
theorem dX12_keeps_68 : decode cX12_keeps 68 = .ok (.iload 4, 2) := dq_of (by decide +kernel)
theorem dX12_keeps_70 : decode cX12_keeps 70 = .ok (.iconst 2, 1) := dq_of (by decide +kernel)
theorem dX12_keeps_71 : decode cX12_keeps 71 = .ok (.idiv, 1) := dq_of (by decide +kernel)
theorem dX12_keeps_72 : decode cX12_keeps 72 = .ok (.baload, 1) := dq_of (by decide +kernel)
theorem dX12_keeps_73 : decode cX12_keeps 73 = .ok (.ifCond .eq 19, 3) := dq_of (by decide +kernel)
theorem dX12_keeps_76 : decode cX12_keeps 76 = .ok (.aload_n 0, 1) := dq_of (by decide +kernel)
theorem dX12_keeps_77 : decode cX12_keeps 77 = .ok (.iload 4, 2) := dq_of (by decide +kernel)
theorem dX12_keeps_79 : decode cX12_keeps 79 = .ok (.iconst 2, 1) := dq_of (by decide +kernel)
theorem dX12_keeps_80 : decode cX12_keeps 80 = .ok (.idiv, 1) := dq_of (by decide +kernel)
theorem dX12_keeps_81 : decode cX12_keeps 81 = .ok (.iconst 0, 1) := dq_of (by decide +kernel)
theorem dX12_keeps_82 : decode cX12_keeps 82 = .ok (.invokevirtual 547, 3) := dq_of (by decide +kernel)
theorem dX12_keeps_85 : decode cX12_keeps 85 = .ok (.ifCond .eq 7, 3) := dq_of (by decide +kernel)
theorem dX12_keeps_88 : decode cX12_keeps 88 = .ok (.iconst 0, 1) := dq_of (by decide +kernel)
theorem dX12_keeps_89 : decode cX12_keeps 89 = .ok (.goto 6, 3) := dq_of (by decide +kernel)
theorem dX12_keeps_92 : decode cX12_keeps 92 = .ok (.ldc_w 502, 3) := dq_of (by decide +kernel)
theorem dX12_keeps_95 : decode cX12_keeps 95 = .ok (.iastore, 1) := dq_of (by decide +kernel)
theorem dX12_keeps_96 : decode cX12_keeps 96 = .ok (.iinc 4 1, 3) := dq_of (by decide +kernel)
theorem dX12_keeps_99 : decode cX12_keeps 99 = .ok (.goto (-77), 3) := dq_of (by decide +kernel)
theorem dX12_keeps_102 : decode cX12_keeps 102 = .ok (.ldc_w 502, 3) := dq_of (by decide +kernel)
theorem dX12_keeps_105 : decode cX12_keeps 105 = .ok (.istore 4, 2) := dq_of (by decide +kernel)
theorem dX12_keeps_107 : decode cX12_keeps 107 = .ok (.iconst 1, 1) := dq_of (by decide +kernel)
theorem dX12_keeps_108 : decode cX12_keeps 108 = .ok (.istore 5, 2) := dq_of (by decide +kernel)
theorem dX12_keeps_110 : decode cX12_keeps 110 = .ok (.iload 5, 2) := dq_of (by decide +kernel)
theorem dX12_keeps_112 : decode cX12_keeps 112 = .ok (.sipush 400, 3) := dq_of (by decide +kernel)
theorem dX12_keeps_115 : decode cX12_keeps 115 = .ok (.if_icmp .gt 136, 3) := dq_of (by decide +kernel)
theorem dX12_keeps_118 : decode cX12_keeps 118 = .ok (.iconst 0, 1) := dq_of (by decide +kernel)
theorem dX12_keeps_119 : decode cX12_keeps 119 = .ok (.istore 6, 2) := dq_of (by decide +kernel)
theorem dX12_keeps_121 : decode cX12_keeps 121 = .ok (.iload 6, 2) := dq_of (by decide +kernel)
theorem dX12_keeps_123 : decode cX12_keeps 123 = .ok (.sipush 1024, 3) := dq_of (by decide +kernel)
theorem dX12_keeps_126 : decode cX12_keeps 126 = .ok (.if_icmp .ge 19, 3) := dq_of (by decide +kernel)
theorem dX12_keeps_129 : decode cX12_keeps 129 = .ok (.aload_n 0, 1) := dq_of (by decide +kernel)
theorem dX12_keeps_130 : decode cX12_keeps 130 = .ok (.getfield 136, 3) := dq_of (by decide +kernel)
theorem dX12_keeps_133 : decode cX12_keeps 133 = .ok (.iload 6, 2) := dq_of (by decide +kernel)
theorem dX12_keeps_135 : decode cX12_keeps 135 = .ok (.ldc_w 502, 3) := dq_of (by decide +kernel)
theorem dX12_keeps_138 : decode cX12_keeps 138 = .ok (.iastore, 1) := dq_of (by decide +kernel)
theorem dX12_keeps_139 : decode cX12_keeps 139 = .ok (.iinc 6 1, 3) := dq_of (by decide +kernel)
theorem dX12_keeps_142 : decode cX12_keeps 142 = .ok (.goto (-21), 3) := dq_of (by decide +kernel)
theorem dX12_keeps_145 : decode cX12_keeps 145 = .ok (.iconst 0, 1) := dq_of (by decide +kernel)
theorem dX12_keeps_146 : decode cX12_keeps 146 = .ok (.istore 6, 2) := dq_of (by decide +kernel)
theorem dX12_keeps_148 : decode cX12_keeps 148 = .ok (.iload 6, 2) := dq_of (by decide +kernel)
theorem dX12_keeps_150 : decode cX12_keeps 150 = .ok (.sipush 800, 3) := dq_of (by decide +kernel)
theorem dX12_keeps_153 : decode cX12_keeps 153 = .ok (.if_icmp .ge 61, 3) := dq_of (by decide +kernel)
theorem dX12_keeps_156 : decode cX12_keeps 156 = .ok (.aload_n 0, 1) := dq_of (by decide +kernel)
theorem dX12_keeps_157 : decode cX12_keeps 157 = .ok (.getfield 133, 3) := dq_of (by decide +kernel)
theorem dX12_keeps_160 : decode cX12_keeps 160 = .ok (.iload 6, 2) := dq_of (by decide +kernel)
theorem dX12_keeps_162 : decode cX12_keeps 162 = .ok (.iaload, 1) := dq_of (by decide +kernel)
theorem dX12_keeps_163 : decode cX12_keeps 163 = .ok (.ldc_w 502, 3) := dq_of (by decide +kernel)
theorem dX12_keeps_166 : decode cX12_keeps 166 = .ok (.if_icmp .ne 6, 3) := dq_of (by decide +kernel)
theorem dX12_keeps_169 : decode cX12_keeps 169 = .ok (.goto 39, 3) := dq_of (by decide +kernel)
theorem dX12_keeps_172 : decode cX12_keeps 172 = .ok (.aload_n 0, 1) := dq_of (by decide +kernel)
theorem dX12_keeps_173 : decode cX12_keeps 173 = .ok (.iload 6, 2) := dq_of (by decide +kernel)
theorem dX12_keeps_175 : decode cX12_keeps 175 = .ok (.iconst 2, 1) := dq_of (by decide +kernel)
theorem dX12_keeps_176 : decode cX12_keeps 176 = .ok (.idiv, 1) := dq_of (by decide +kernel)
theorem dX12_keeps_177 : decode cX12_keeps 177 = .ok (.invokevirtual 499, 3) := dq_of (by decide +kernel)
theorem dX12_keeps_180 : decode cX12_keeps 180 = .ok (.ifCond .eq 20, 3) := dq_of (by decide +kernel)
theorem dX12_keeps_183 : decode cX12_keeps 183 = .ok (.iload 4, 2) := dq_of (by decide +kernel)
theorem dX12_keeps_185 : decode cX12_keeps 185 = .ok (.aload_n 0, 1) := dq_of (by decide +kernel)
theorem dX12_keeps_186 : decode cX12_keeps 186 = .ok (.getfield 133, 3) := dq_of (by decide +kernel)
theorem dX12_keeps_189 : decode cX12_keeps 189 = .ok (.iload 6, 2) := dq_of (by decide +kernel)
theorem dX12_keeps_191 : decode cX12_keeps 191 = .ok (.iaload, 1) := dq_of (by decide +kernel)
theorem dX12_keeps_192 : decode cX12_keeps 192 = .ok (.invokestatic 506, 3) := dq_of (by decide +kernel)
theorem dX12_keeps_195 : decode cX12_keeps 195 = .ok (.istore 4, 2) := dq_of (by decide +kernel)
theorem dX12_keeps_197 : decode cX12_keeps 197 = .ok (.goto 11, 3) := dq_of (by decide +kernel)
theorem dX12_keeps_200 : decode cX12_keeps 200 = .ok (.aload_n 0, 1) := dq_of (by decide +kernel)
theorem dX12_keeps_201 : decode cX12_keeps 201 = .ok (.iload 6, 2) := dq_of (by decide +kernel)
theorem dX12_keeps_203 : decode cX12_keeps 203 = .ok (.iload 5, 2) := dq_of (by decide +kernel)
theorem dX12_keeps_205 : decode cX12_keeps 205 = .ok (.invokevirtual 550, 3) := dq_of (by decide +kernel)
theorem dX12_keeps_208 : decode cX12_keeps 208 = .ok (.iinc 6 1, 3) := dq_of (by decide +kernel)
theorem dX12_keeps_211 : decode cX12_keeps 211 = .ok (.goto (-63), 3) := dq_of (by decide +kernel)
theorem dX12_keeps_214 : decode cX12_keeps 214 = .ok (.iconst 0, 1) := dq_of (by decide +kernel)
theorem dX12_keeps_215 : decode cX12_keeps 215 = .ok (.istore 6, 2) := dq_of (by decide +kernel)
theorem dX12_keeps_217 : decode cX12_keeps 217 = .ok (.iload 6, 2) := dq_of (by decide +kernel)
theorem dX12_keeps_219 : decode cX12_keeps 219 = .ok (.sipush 1024, 3) := dq_of (by decide +kernel)
theorem dX12_keeps_222 : decode cX12_keeps 222 = .ok (.if_icmp .ge 23, 3) := dq_of (by decide +kernel)
theorem dX12_keeps_225 : decode cX12_keeps 225 = .ok (.aload_n 0, 1) := dq_of (by decide +kernel)
theorem dX12_keeps_226 : decode cX12_keeps 226 = .ok (.getfield 133, 3) := dq_of (by decide +kernel)
theorem dX12_keeps_229 : decode cX12_keeps 229 = .ok (.iload 6, 2) := dq_of (by decide +kernel)
theorem dX12_keeps_231 : decode cX12_keeps 231 = .ok (.aload_n 0, 1) := dq_of (by decide +kernel)
theorem dX12_keeps_232 : decode cX12_keeps 232 = .ok (.getfield 136, 3) := dq_of (by decide +kernel)
theorem dX12_keeps_235 : decode cX12_keeps 235 = .ok (.iload 6, 2) := dq_of (by decide +kernel)
theorem dX12_keeps_237 : decode cX12_keeps 237 = .ok (.iaload, 1) := dq_of (by decide +kernel)
theorem dX12_keeps_238 : decode cX12_keeps 238 = .ok (.iastore, 1) := dq_of (by decide +kernel)
theorem dX12_keeps_239 : decode cX12_keeps 239 = .ok (.iinc 6 1, 3) := dq_of (by decide +kernel)
theorem dX12_keeps_242 : decode cX12_keeps 242 = .ok (.goto (-25), 3) := dq_of (by decide +kernel)
theorem dX12_keeps_245 : decode cX12_keeps 245 = .ok (.iinc 5 1, 3) := dq_of (by decide +kernel)
theorem dX12_keeps_248 : decode cX12_keeps 248 = .ok (.goto (-138), 3) := dq_of (by decide +kernel)
theorem dX12_keeps_251 : decode cX12_keeps 251 = .ok (.iload 4, 2) := dq_of (by decide +kernel)
theorem dX12_keeps_253 : decode cX12_keeps 253 = .ok (.ldc_w 502, 3) := dq_of (by decide +kernel)
theorem dX12_keeps_256 : decode cX12_keeps 256 = .ok (.if_icmp .ne 7, 3) := dq_of (by decide +kernel)
theorem dX12_keeps_259 : decode cX12_keeps 259 = .ok (.iconst (-1), 1) := dq_of (by decide +kernel)
theorem dX12_keeps_260 : decode cX12_keeps 260 = .ok (.goto 5, 3) := dq_of (by decide +kernel)
theorem dX12_keeps_263 : decode cX12_keeps 263 = .ok (.iload 4, 2) := dq_of (by decide +kernel)
theorem dX12_keeps_265 : decode cX12_keeps 265 = .ok (.ireturn, 1) := dq_of (by decide +kernel)
theorem dX12_walk_0 : decode cX12_walk 0 = .ok (.aload_n 0, 1) := dq_of (by decide +kernel)
theorem dX12_walk_1 : decode cX12_walk 1 = .ok (.iload_n 1, 1) := dq_of (by decide +kernel)
theorem dX12_walk_2 : decode cX12_walk 2 = .ok (.invokevirtual 487, 3) := dq_of (by decide +kernel)
theorem dX12_walk_5 : decode cX12_walk 5 = .ok (.ifCond .eq 27, 3) := dq_of (by decide +kernel)
theorem dX12_walk_8 : decode cX12_walk 8 = .ok (.aload_n 0, 1) := dq_of (by decide +kernel)
theorem dX12_walk_9 : decode cX12_walk 9 = .ok (.iload_n 2, 1) := dq_of (by decide +kernel)
theorem dX12_walk_10 : decode cX12_walk 10 = .ok (.invokevirtual 453, 3) := dq_of (by decide +kernel)
theorem dX12_walk_13 : decode cX12_walk 13 = .ok (.ifCond .eq 19, 3) := dq_of (by decide +kernel)
theorem dX12_walk_16 : decode cX12_walk 16 = .ok (.iload_n 3, 1) := dq_of (by decide +kernel)
theorem dX12_walk_17 : decode cX12_walk 17 = .ok (.iconst 0, 1) := dq_of (by decide +kernel)
theorem dX12_walk_18 : decode cX12_walk 18 = .ok (.aload_n 0, 1) := dq_of (by decide +kernel)
theorem dX12_walk_19 : decode cX12_walk 19 = .ok (.getfield 96, 3) := dq_of (by decide +kernel)
theorem dX12_walk_22 : decode cX12_walk 22 = .ok (.iload_n 1, 1) := dq_of (by decide +kernel)
theorem dX12_walk_23 : decode cX12_walk 23 = .ok (.iaload, 1) := dq_of (by decide +kernel)
theorem dX12_walk_24 : decode cX12_walk 24 = .ok (.iconst 1, 1) := dq_of (by decide +kernel)
theorem dX12_walk_25 : decode cX12_walk 25 = .ok (.isub, 1) := dq_of (by decide +kernel)
theorem dX12_walk_26 : decode cX12_walk 26 = .ok (.invokestatic 449, 3) := dq_of (by decide +kernel)
theorem dX12_walk_29 : decode cX12_walk 29 = .ok (.ifCond .ne 5, 3) := dq_of (by decide +kernel)
theorem dX12_walk_32 : decode cX12_walk 32 = .ok (.iconst (-1), 1) := dq_of (by decide +kernel)
theorem dX12_walk_33 : decode cX12_walk 33 = .ok (.ireturn, 1) := dq_of (by decide +kernel)
theorem dX12_walk_34 : decode cX12_walk 34 = .ok (.aload_n 0, 1) := dq_of (by decide +kernel)
theorem dX12_walk_35 : decode cX12_walk 35 = .ok (.iload_n 1, 1) := dq_of (by decide +kernel)
theorem dX12_walk_36 : decode cX12_walk 36 = .ok (.iload_n 2, 1) := dq_of (by decide +kernel)
theorem dX12_walk_37 : decode cX12_walk 37 = .ok (.aload_n 0, 1) := dq_of (by decide +kernel)
theorem dX12_walk_38 : decode cX12_walk 38 = .ok (.getfield 151, 3) := dq_of (by decide +kernel)
theorem dX12_walk_41 : decode cX12_walk 41 = .ok (.bipush 8, 2) := dq_of (by decide +kernel)
theorem dX12_walk_43 : decode cX12_walk 43 = .ok (.iaload, 1) := dq_of (by decide +kernel)
theorem dX12_walk_44 : decode cX12_walk 44 = .ok (.invokevirtual 493, 3) := dq_of (by decide +kernel)
theorem dX12_walk_47 : decode cX12_walk 47 = .ok (.aload_n 0, 1) := dq_of (by decide +kernel)
theorem dX12_walk_48 : decode cX12_walk 48 = .ok (.iload_n 3, 1) := dq_of (by decide +kernel)
theorem dX12_walk_49 : decode cX12_walk 49 = .ok (.invokevirtual 484, 3) := dq_of (by decide +kernel)
theorem dX12_walk_52 : decode cX12_walk 52 = .ok (.ifCond .ne 5, 3) := dq_of (by decide +kernel)
theorem dX12_walk_55 : decode cX12_walk 55 = .ok (.iconst (-1), 1) := dq_of (by decide +kernel)
theorem dX12_walk_56 : decode cX12_walk 56 = .ok (.ireturn, 1) := dq_of (by decide +kernel)
theorem dX12_walk_57 : decode cX12_walk 57 = .ok (.aload_n 0, 1) := dq_of (by decide +kernel)
theorem dX12_walk_58 : decode cX12_walk 58 = .ok (.invokevirtual 581, 3) := dq_of (by decide +kernel)
theorem dX12_walk_61 : decode cX12_walk 61 = .ok (.aload_n 0, 1) := dq_of (by decide +kernel)
theorem dX12_walk_62 : decode cX12_walk 62 = .ok (.getfield 151, 3) := dq_of (by decide +kernel)
theorem dX12_walk_65 : decode cX12_walk 65 = .ok (.iconst 0, 1) := dq_of (by decide +kernel)
theorem dX12_walk_66 : decode cX12_walk 66 = .ok (.iload_n 1, 1) := dq_of (by decide +kernel)
theorem dX12_walk_67 : decode cX12_walk 67 = .ok (.iastore, 1) := dq_of (by decide +kernel)
theorem dX12_walk_68 : decode cX12_walk 68 = .ok (.aload_n 0, 1) := dq_of (by decide +kernel)
theorem dX12_walk_69 : decode cX12_walk 69 = .ok (.getfield 151, 3) := dq_of (by decide +kernel)
theorem dX12_walk_72 : decode cX12_walk 72 = .ok (.iconst 1, 1) := dq_of (by decide +kernel)
theorem dX12_walk_73 : decode cX12_walk 73 = .ok (.iload_n 2, 1) := dq_of (by decide +kernel)
theorem dX12_walk_74 : decode cX12_walk 74 = .ok (.iastore, 1) := dq_of (by decide +kernel)
theorem dX12_walk_75 : decode cX12_walk 75 = .ok (.aload_n 0, 1) := dq_of (by decide +kernel)
theorem dX12_walk_76 : decode cX12_walk 76 = .ok (.getfield 151, 3) := dq_of (by decide +kernel)
theorem dX12_walk_79 : decode cX12_walk 79 = .ok (.iconst 2, 1) := dq_of (by decide +kernel)
theorem dX12_walk_80 : decode cX12_walk 80 = .ok (.iload_n 3, 1) := dq_of (by decide +kernel)
theorem dX12_walk_81 : decode cX12_walk 81 = .ok (.iastore, 1) := dq_of (by decide +kernel)
theorem dX12_walk_82 : decode cX12_walk 82 = .ok (.aload_n 0, 1) := dq_of (by decide +kernel)
theorem dX12_walk_83 : decode cX12_walk 83 = .ok (.getfield 151, 3) := dq_of (by decide +kernel)
theorem dX12_walk_86 : decode cX12_walk 86 = .ok (.iconst 3, 1) := dq_of (by decide +kernel)
theorem dX12_walk_87 : decode cX12_walk 87 = .ok (.iconst 1, 1) := dq_of (by decide +kernel)
theorem dX12_walk_88 : decode cX12_walk 88 = .ok (.iastore, 1) := dq_of (by decide +kernel)
theorem dX12_walk_89 : decode cX12_walk 89 = .ok (.aload_n 0, 1) := dq_of (by decide +kernel)
theorem dX12_walk_90 : decode cX12_walk 90 = .ok (.getfield 151, 3) := dq_of (by decide +kernel)
theorem dX12_walk_93 : decode cX12_walk 93 = .ok (.iconst 4, 1) := dq_of (by decide +kernel)
theorem dX12_walk_94 : decode cX12_walk 94 = .ok (.aload_n 0, 1) := dq_of (by decide +kernel)
theorem dX12_walk_95 : decode cX12_walk 95 = .ok (.iload_n 3, 1) := dq_of (by decide +kernel)
theorem dX12_walk_96 : decode cX12_walk 96 = .ok (.invokevirtual 584, 3) := dq_of (by decide +kernel)
theorem dX12_walk_99 : decode cX12_walk 99 = .ok (.iastore, 1) := dq_of (by decide +kernel)
theorem dX12_walk_100 : decode cX12_walk 100 = .ok (.aload_n 0, 1) := dq_of (by decide +kernel)
theorem dX12_walk_101 : decode cX12_walk 101 = .ok (.getfield 151, 3) := dq_of (by decide +kernel)
theorem dX12_walk_104 : decode cX12_walk 104 = .ok (.iconst 5, 1) := dq_of (by decide +kernel)
theorem dX12_walk_105 : decode cX12_walk 105 = .ok (.iconst 0, 1) := dq_of (by decide +kernel)
theorem dX12_walk_106 : decode cX12_walk 106 = .ok (.iastore, 1) := dq_of (by decide +kernel)
theorem dX12_walk_107 : decode cX12_walk 107 = .ok (.aload_n 0, 1) := dq_of (by decide +kernel)
theorem dX12_walk_108 : decode cX12_walk 108 = .ok (.getfield 151, 3) := dq_of (by decide +kernel)
theorem dX12_walk_111 : decode cX12_walk 111 = .ok (.iconst 4, 1) := dq_of (by decide +kernel)
theorem dX12_walk_112 : decode cX12_walk 112 = .ok (.iaload, 1) := dq_of (by decide +kernel)
theorem dX12_walk_113 : decode cX12_walk 113 = .ok (.ireturn, 1) := dq_of (by decide +kernel)
set_option maxHeartbeats 4000000 in
set_option maxRecDepth 100000 in
theorem n_keeps (l : Launch) (D : va_G) (k : KT) (A : Nat → Prop) (a : Nat → Nat) (z : SK) (G : GS) (p0 : Int32) (p1 : Int32) (p2 : Int32) (hP9 : gP G = 1) : Met l yX12_keeps (WS yX12_keeps cX12_keeps 7 (some .int)) ({ frames := 5, cells := 0, slots := 0, locals := 117 }) (va_Pc [.ref (a 66), .int p0, .int p1, .int p2] (cW D k A a z G)) (va_Qi (fun (r : Int32) (G1 : GS) => Q_keeps p0 p1 p2 G r G1) (fun (G1 : GS) t => Wd D k A a G1 t.heap) A) 0 0 A := by
  refine Met.ofW (cc := cX12_keeps) (maxL := 7) (ret := (some .int)) (by decide) rfl ?_
  intro p e s m args below meth c s₁ B hml hv
  obtain ⟨rfl, hW, hB_G, hK, hZ⟩ := hv
  have hx := B.exec
  have hb := B.bytes
  have hr := B.returns
  have hts := atoms_spec (ws := WS yX12_keeps cX12_keeps 7 (some .int)) B.pre
  have hgd : ∀ w ∈ gd, w ∈ WS yX12_keeps cX12_keeps 7 (some .int) := fun w h => List.mem_cons_of_mem _ h
  have hg : ∀ w ∈ gd, w.before _ s = true := fun w h => hts w (hgd w h)
  have hown : s.vm.findClass RX12 = some m.cls := findClass_of_methodNamed B.named
  have hS : va_S A s.heap s.heap [] := va_S.rf
  have hF : Fr [104, 105, 76, 97, 98] [(66, 59), (66, 60), (66, 61), (66, 62), (66, 63)] G G := Fr.rf
  have hl := lv_entry ([.ref (a 66), .int p0, .int p1, .int p2]) (n := 7) (Nat.le_of_ble_eq_true rfl)
  rw [lg_entry_eq]
  generalize (lg_sl ([.ref (a 66), .int p0, .int p1, .int p2]) ++ List.replicate (7 - (lg_sl ([.ref (a 66), .int p0, .int p1, .int p2])).length) Slot.unset).toArray = ls at hl ⊢
  have hl : lv_has ls 7 [(0, .ref (a 66)), (1, .int p0), (2, .int p1), (3, .int p2)] := hl
  refine lv_aload_n hx hb dX12_keeps_0 rfl (lv_at hl 0 rfl) ?_
  refine lv_iload_n hx hb dX12_keeps_1 rfl (lv_at hl 1 rfl) ?_
  refine lv_iload_n hx hb dX12_keeps_2 rfl (lv_at hl 2 rfl) ?_
  refine lv_iload_n hx hb dX12_keeps_3 rfl (lv_at hl 3 rfl) ?_
  refine S_calli (va_runV (As := [.int p0, .int p1, .int p2]) (rest := []) ⟨hx, hb, hml, hown, hts⟩ (n_isAsked l D k A a z G p0 p1 p2 ) (cwV 3 hts (gd_V hgd m1826 m1828 m89 m131 m1829) rfl rfl rfl hd_X12_isAsked ⟨Nat.le_of_ble_eq_true rfl, Nat.le_of_ble_eq_true rfl⟩) (pre_V hW hB_G hK hZ hS kd_66 rfl) rfl rfl hl.1 rfl (lv_room (Nat.le_of_ble_eq_true rfl)) dX12_keeps_4 ⟨Nat.le_of_ble_eq_true rfl, Nat.le_of_ble_eq_true rfl⟩) hS (fun r_1 G_2 H locs hpo hW hS => ?_)
  have hX_5 : Q_isAsked p0 p1 p2 G r_1 G_2 := hpo
  obtain ⟨hB_G_2, hq_3, f_6, hp_4, -⟩ := hpo
  have hF := hF.call9 hq_3 rfl rfl
  refine lv_if_ne (tgt := 12) hx hb dX12_keeps_7 rfl (fun c_7 => ?_) (fun c_7 => ?_)
  · have c_7 : r_1.toInt ≠ 0 := xI_ne rfl rfl c_7
    refine lv_aload_n hx hb dX12_keeps_12 rfl (lv_at hl 0 rfl) ?_
    refine lv_iload_n hx hb dX12_keeps_13 rfl (lv_at hl 1 rfl) ?_
    refine lv_iload_n hx hb dX12_keeps_14 rfl (lv_at hl 2 rfl) ?_
    refine lv_iload_n hx hb dX12_keeps_15 rfl (lv_at hl 3 rfl) ?_
    have fr_8 : Fr [] [] G G_2 := (Fr.call9 (rs := []) (fs := []) Fr.rf hq_3 rfl rfl)
    have g_9 : gP G_2 = gP G := gP_fr fr_8 (gr_q rfl) (gf_q rfl)
    refine S_callv (va_runV (As := [.int p0, .int p1, .int p2]) (rest := []) ⟨hx, hb, hml, hown, hts⟩ (n_layStreet l D k A a z G_2 p0 p1 p2 ⟨by omega, by omega⟩ ⟨by omega, by omega⟩ (by omega)) (cwV 3 hts (gd_V hgd m1834 m1836 m91 m131 m1837) rfl rfl rfl hd_X12_layStreet ⟨Nat.le_of_ble_eq_true rfl, Nat.le_of_ble_eq_true rfl⟩) (pre_V hW hB_G_2 hK hZ hS kd_66 rfl) rfl rfl hl.1 rfl (lv_room (Nat.le_of_ble_eq_true rfl)) dX12_keeps_16 ⟨Nat.le_of_ble_eq_true rfl, Nat.le_of_ble_eq_true rfl⟩) hS (fun G_11 H locs hpo hW hS => ?_)
    have hX_14 : Q_layStreet p0 p1 p2 G_2 G_11 := hpo
    obtain ⟨hB_G_11, hq_12, hp_13, -⟩ := hpo
    have hF := hF.call9 hq_12 rfl rfl
    refine ic_0 hx hb dX12_keeps_19 ?_
    refine lv_istore (lv' := [(4, .int 0), (0, .ref (a 66)), (1, .int p0), (2, .int p1), (3, .int p2)]) hx hb dX12_keeps_20 hl (lt_b rfl) rfl (fun ls hl => ?_)
    have qc_21 : (0 : Int32).toInt = 0 := rfl
    refine loop_N (Inv := fun n H locs ls => ∃ (G_15 : GS) (x_19 : Int32), (n : Int) = 1024 - x_19.toInt ∧ (0 ≤ x_19.toInt ∧ x_19.toInt ≤ 1024) ∧ Rc (St_n_keeps_1 G_11) (0, G_11) (x_19, G_15) ∧ Wd D k A a G_15 H ∧ Bd G_15 ∧ Fr [104, 105, 76, 97, 98] [(66, 59), (66, 60), (66, 61), (66, 62), (66, 63)] G G_15 ∧ Fr [104] [] G_11 G_15 ∧ va_S A s.heap H locs ∧ lv_has ls 7 [(4, .int x_19), (0, .ref (a 66))]) (fun n_18 H locs ls ih_17 hI => ?_) (1024 - 0 : Int).toNat ⟨G_11, 0, (Int.toNat_of_nonneg (by omega)), ⟨by omega, by omega⟩, Rc.rf, hW, hB_G_11, hF, Fr.rf, hS, lv_sub hl [0, 1] rfl⟩
    obtain ⟨G_15, x_19, hn_23, f_22, hX_20, hW, hB_G_15, hF, hq_16, hS, hl⟩ := hI
    refine lv_iload hx hb dX12_keeps_22 (lv_at hl 0 rfl) ?_
    refine lv_sipush (v := 1024) hx hb dX12_keeps_24 (by decide) ?_
    refine lv_icmp_ge (tgt := 102) hx hb dX12_keeps_27 rfl (fun c_24 => ?_) (fun c_24 => ?_)
    · have c_24 : 1024 ≤ x_19.toInt := xI_le rfl rfl c_24
      refine lv_ldcw (v := 100000) hx hb hown (hg (Cond.constant RX12 502 100000) m1858) dX12_keeps_102 ?_
      refine lv_istore (lv' := [(4, .int 100000), (0, .ref (a 66))]) hx hb dX12_keeps_105 hl (lt_b rfl) rfl (fun ls hl => ?_)
      refine ic_1 hx hb dX12_keeps_107 ?_
      refine lv_istore (lv' := [(5, .int 1), (4, .int 100000), (0, .ref (a 66))]) hx hb dX12_keeps_108 hl (lt_b rfl) rfl (fun ls hl => ?_)
      have qc_32 : (1 : Int32).toInt = 1 := rfl
      have qc_33 : (100000 : Int32).toInt = 100000 := rfl
      refine loop_N (Inv := fun n H locs ls => ∃ (G_25 : GS) (x_29 : Int32) (x_30 : Int32), (n : Int) = 401 - x_29.toInt ∧ (1 ≤ x_29.toInt ∧ x_29.toInt ≤ 401) ∧ Rc (St_n_keeps_2) (1, 100000, G_15) (x_29, x_30, G_25) ∧ Wd D k A a G_25 H ∧ Bd G_25 ∧ Fr [104, 105, 76, 97, 98] [(66, 59), (66, 60), (66, 61), (66, 62), (66, 63)] G G_25 ∧ Fr [104, 105] [] G_15 G_25 ∧ va_S A s.heap H locs ∧ lv_has ls 7 [(5, .int x_29), (4, .int x_30), (0, .ref (a 66))]) (fun n_28 H locs ls ih_27 hI => ?_) (401 - 1 : Int).toNat ⟨G_15, 1, 100000, (Int.toNat_of_nonneg (by omega)), ⟨by omega, by omega⟩, Rc.rf, hW, hB_G_15, hF, Fr.rf, hS, lv_sub hl [0, 1, 2] rfl⟩
      obtain ⟨G_25, x_29, x_30, hn_35, f_34, hX_31, hW, hB_G_25, hF, hq_26, hS, hl⟩ := hI
      refine lv_iload hx hb dX12_keeps_110 (lv_at hl 0 rfl) ?_
      refine lv_sipush (v := 400) hx hb dX12_keeps_112 (by decide) ?_
      refine lv_icmp_gt (tgt := 251) hx hb dX12_keeps_115 rfl (fun c_36 => ?_) (fun c_36 => ?_)
      · have c_36 : 400 < x_29.toInt := xI_lt rfl rfl c_36
        refine lv_iload hx hb dX12_keeps_251 (lv_at hl 1 rfl) ?_
        refine lv_ldcw (v := 100000) hx hb hown (hg (Cond.constant RX12 502 100000) m1858) dX12_keeps_253 ?_
        refine lv_icmp_ne (tgt := 263) hx hb dX12_keeps_256 rfl (fun c_37 => ?_) (fun c_37 => ?_)
        · have c_37 : x_30.toInt ≠ 100000 := xI_ne rfl rfl c_37
          refine lv_iload hx hb dX12_keeps_263 (lv_at hl 1 rfl) ?_
          exact W.iret (v := x_30) hx hb hr (fun t ht _ => ⟨⟨x_30, G_25, rfl, (Q_keeps_mk ⟨hB_G_25, hF, ⟨r_1, G_2, hX_5, (Or.inr ⟨c_7, ⟨G_11, hX_14, ⟨x_19, G_15, hX_20, f_22, hB_G_15, hq_16, ⟨c_24, ⟨x_29, x_30, G_25, hX_31, f_34, hB_G_25, hq_26, ⟨c_36, (Or.inr ⟨c_37, ⟨rfl, rfl⟩⟩)⟩⟩⟩⟩⟩⟩)⟩⟩), wd_t ht hW⟩, hS.F ht⟩) hS.2.2 dX12_keeps_265
        · have c_37 : x_30.toInt = 100000 := xI_eq rfl rfl c_37
          refine ic_m1 hx hb dX12_keeps_259 ?_
          refine lv_goto (tgt := 265) hx hb dX12_keeps_260 rfl ?_
          exact W.iret (v := (-1)) hx hb hr (fun t ht _ => ⟨⟨(-1), G_25, rfl, (Q_keeps_mk ⟨hB_G_25, hF, ⟨r_1, G_2, hX_5, (Or.inr ⟨c_7, ⟨G_11, hX_14, ⟨x_19, G_15, hX_20, f_22, hB_G_15, hq_16, ⟨c_24, ⟨x_29, x_30, G_25, hX_31, f_34, hB_G_25, hq_26, ⟨c_36, (Or.inl ⟨c_37, ⟨rfl, rfl⟩⟩)⟩⟩⟩⟩⟩⟩)⟩⟩), wd_t ht hW⟩, hS.F ht⟩) hS.2.2 dX12_keeps_265
      · have c_36 : x_29.toInt ≤ 400 := xI_nlt rfl rfl c_36
        refine ic_0 hx hb dX12_keeps_118 ?_
        refine lv_istore (lv' := [(6, .int 0), (5, .int x_29), (4, .int x_30), (0, .ref (a 66))]) hx hb dX12_keeps_119 hl (lt_b rfl) rfl (fun ls hl => ?_)
        have qc_44 : (0 : Int32).toInt = 0 := rfl
        refine loop_N (Inv := fun n H locs ls => ∃ (G_38 : GS) (x_42 : Int32), (n : Int) = 1024 - x_42.toInt ∧ (0 ≤ x_42.toInt ∧ x_42.toInt ≤ 1024) ∧ Rc (St_n_keeps_3) (0, G_25) (x_42, G_38) ∧ Wd D k A a G_38 H ∧ Bd G_38 ∧ Fr [104, 105, 76, 97, 98] [(66, 59), (66, 60), (66, 61), (66, 62), (66, 63)] G G_38 ∧ Fr [105] [] G_25 G_38 ∧ va_S A s.heap H locs ∧ lv_has ls 7 [(6, .int x_42), (5, .int x_29), (4, .int x_30), (0, .ref (a 66))]) (fun n_41 H locs ls ih_40 hI => ?_) (1024 - 0 : Int).toNat ⟨G_25, 0, (Int.toNat_of_nonneg (by omega)), ⟨by omega, by omega⟩, Rc.rf, hW, hB_G_25, hF, Fr.rf, hS, lv_sub hl [0, 1, 2, 3] rfl⟩
        obtain ⟨G_38, x_42, hn_46, f_45, hX_43, hW, hB_G_38, hF, hq_39, hS, hl⟩ := hI
        refine lv_iload hx hb dX12_keeps_121 (lv_at hl 0 rfl) ?_
        refine lv_sipush (v := 1024) hx hb dX12_keeps_123 (by decide) ?_
        refine lv_icmp_ge (tgt := 145) hx hb dX12_keeps_126 rfl (fun c_47 => ?_) (fun c_47 => ?_)
        · have c_47 : 1024 ≤ x_42.toInt := xI_le rfl rfl c_47
          refine ic_0 hx hb dX12_keeps_145 ?_
          refine lv_istore (lv' := [(6, .int 0), (5, .int x_29), (4, .int x_30), (0, .ref (a 66))]) hx hb dX12_keeps_146 hl (lt_b rfl) rfl (fun ls hl => ?_)
          have qc_55 : (0 : Int32).toInt = 0 := rfl
          refine loop_N (Inv := fun n H locs ls => ∃ (G_48 : GS) (x_52 : Int32) (x_53 : Int32), (n : Int) = 800 - x_52.toInt ∧ (0 ≤ x_52.toInt ∧ x_52.toInt ≤ 800) ∧ Rc (St_n_keeps_4 x_29) (0, x_30, G_38) (x_52, x_53, G_48) ∧ Wd D k A a G_48 H ∧ Bd G_48 ∧ Fr [104, 105, 76, 97, 98] [(66, 59), (66, 60), (66, 61), (66, 62), (66, 63)] G G_48 ∧ Fr [105] [] G_38 G_48 ∧ va_S A s.heap H locs ∧ lv_has ls 7 [(6, .int x_52), (5, .int x_29), (4, .int x_53), (0, .ref (a 66))]) (fun n_51 H locs ls ih_50 hI => ?_) (800 - 0 : Int).toNat ⟨G_38, 0, x_30, (Int.toNat_of_nonneg (by omega)), ⟨by omega, by omega⟩, Rc.rf, hW, hB_G_38, hF, Fr.rf, hS, lv_sub hl [0, 1, 2, 3] rfl⟩
          obtain ⟨G_48, x_52, x_53, hn_57, f_56, hX_54, hW, hB_G_48, hF, hq_49, hS, hl⟩ := hI
          refine lv_iload hx hb dX12_keeps_148 (lv_at hl 0 rfl) ?_
          refine lv_sipush (v := 800) hx hb dX12_keeps_150 (by decide) ?_
          refine lv_icmp_ge (tgt := 214) hx hb dX12_keeps_153 rfl (fun c_58 => ?_) (fun c_58 => ?_)
          · have c_58 : 800 ≤ x_52.toInt := xI_le rfl rfl c_58
            refine ic_0 hx hb dX12_keeps_214 ?_
            refine lv_istore (lv' := [(6, .int 0), (5, .int x_29), (4, .int x_53), (0, .ref (a 66))]) hx hb dX12_keeps_215 hl (lt_b rfl) rfl (fun ls hl => ?_)
            have qc_65 : (0 : Int32).toInt = 0 := rfl
            refine loop_N (Inv := fun n H locs ls => ∃ (G_59 : GS) (x_63 : Int32), (n : Int) = 1024 - x_63.toInt ∧ (0 ≤ x_63.toInt ∧ x_63.toInt ≤ 1024) ∧ Rc (St_n_keeps_5) (0, G_48) (x_63, G_59) ∧ Wd D k A a G_59 H ∧ Bd G_59 ∧ Fr [104, 105, 76, 97, 98] [(66, 59), (66, 60), (66, 61), (66, 62), (66, 63)] G G_59 ∧ Fr [104] [] G_48 G_59 ∧ va_S A s.heap H locs ∧ lv_has ls 7 [(6, .int x_63), (5, .int x_29), (4, .int x_53), (0, .ref (a 66))]) (fun n_62 H locs ls ih_61 hI => ?_) (1024 - 0 : Int).toNat ⟨G_48, 0, (Int.toNat_of_nonneg (by omega)), ⟨by omega, by omega⟩, Rc.rf, hW, hB_G_48, hF, Fr.rf, hS, lv_sub hl [0, 1, 2, 3] rfl⟩
            obtain ⟨G_59, x_63, hn_67, f_66, hX_64, hW, hB_G_59, hF, hq_60, hS, hl⟩ := hI
            refine lv_iload hx hb dX12_keeps_217 (lv_at hl 0 rfl) ?_
            refine lv_sipush (v := 1024) hx hb dX12_keeps_219 (by decide) ?_
            refine lv_icmp_ge (tgt := 245) hx hb dX12_keeps_222 rfl (fun c_68 => ?_) (fun c_68 => ?_)
            · have c_68 : 1024 ≤ x_63.toInt := xI_le rfl rfl c_68
              obtain ⟨y_69, ey_69⟩ : ∃ q, q = x_29 + 1 := ⟨_, rfl⟩
              have ty_69 : y_69.toInt = x_29.toInt + 1 := xI_add rfl rfl ey_69 (by omega) (by omega)
              refine lv_iinc (v := y_69) (lv' := [(5, .int y_69), (6, .int x_63), (4, .int x_53), (0, .ref (a 66))]) hx hb dX12_keeps_245 hl (k := 1) rfl (by rw [ey_69]; rfl) (lt_b rfl) rfl (fun ls hl => ?_)
              refine lv_goto (tgt := 110) hx hb dX12_keeps_248 rfl ?_
              exact ih_27 (401 - y_69.toInt : Int).toNat (by omega) _ _ _ ⟨G_59, y_69, x_53, (Int.toNat_of_nonneg (by omega)), ⟨by omega, by omega⟩, (hX_31.st (St_n_keeps_2_mk ⟨x_29, x_30, G_25, y_69, x_53, G_59, rfl, rfl, f_34, hB_G_25, ⟨c_36, ⟨x_42, G_38, hX_43, f_45, hB_G_38, hq_39, ⟨c_47, ⟨x_52, x_53, G_48, hX_54, f_56, hB_G_48, hq_49, ⟨c_58, ⟨x_63, G_59, hX_64, f_66, hB_G_59, hq_60, ⟨c_68, ⟨y_69, ty_69, ⟨rfl, rfl, rfl⟩⟩⟩⟩⟩⟩⟩⟩⟩⟩)), hW, hB_G_59, hF, (Fr.call9 (rs := [104, 105]) (fs := []) (Fr.call9 (rs := [104, 105]) (fs := []) (Fr.call9 (rs := [104, 105]) (fs := []) (Fr.call9 (rs := [104, 105]) (fs := []) Fr.rf hq_26 rfl rfl) hq_39 rfl rfl) hq_49 rfl rfl) hq_60 rfl rfl), hS, lv_sub hl [0, 2, 3] rfl⟩
            · have c_68 : x_63.toInt < 1024 := xI_nle rfl rfl c_68
              refine lv_aload_n hx hb dX12_keeps_225 rfl (lv_at hl 3 rfl) ?_
              refine S_getR (n := 104) (C := RX12) (T := TX12) (N := 89) hx hb hg iX12 hown hK hW kd_66 rfl 70 (lt_b rfl) (hg (Cond.fieldLink RX12 133 "SlabWalkModel" "leapt" "[I") m1384) (fun _ h9 => h9) rfl dX12_keeps_226 ?_
              refine lv_iload hx hb dX12_keeps_229 (lv_at hl 0 rfl) ?_
              refine lv_aload_n hx hb dX12_keeps_231 rfl (lv_at hl 3 rfl) ?_
              refine S_getR (n := 105) (C := RX12) (T := TX12) (N := 89) hx hb hg iX12 hown hK hW kd_66 rfl 71 (lt_b rfl) (hg (Cond.fieldLink RX12 136 "SlabWalkModel" "leaptNext" "[I") m1385) (fun _ h9 => h9) rfl dX12_keeps_232 ?_
              refine lv_iload hx hb dX12_keeps_235 (lv_at hl 0 rfl) ?_
              refine S_iald hx hb hK hW kd_105 (vin (by omega) (by omega)) dX12_keeps_237 (fun y_70 ey_70 => ?_)
              refine S_iast hx hb hK hW hS kd_104 (vin (by omega) (by omega)) dX12_keeps_238 (fun G_71 H locs eG_71 hW hS => ?_)
              have hB_G_71 : Bd G_71 := hB_G_59.put (lo := (-2147483648)) (hi := 2147483647) eG_71 rfl rfl rfl (tI_rng _).1 (tI_rng _).2 (hB_G_59.2.put eG_71 rfl)
              have hF := hF.put eG_71 (Or.inl (by decide))
              obtain ⟨y_72, ey_72⟩ : ∃ q, q = x_63 + 1 := ⟨_, rfl⟩
              have ty_72 : y_72.toInt = x_63.toInt + 1 := xI_add rfl rfl ey_72 (by omega) (by omega)
              refine lv_iinc (v := y_72) (lv' := [(6, .int y_72), (5, .int x_29), (4, .int x_53), (0, .ref (a 66))]) hx hb dX12_keeps_239 hl (k := 0) rfl (by rw [ey_72]; rfl) (lt_b rfl) rfl (fun ls hl => ?_)
              refine lv_goto (tgt := 217) hx hb dX12_keeps_242 rfl ?_
              exact ih_61 (1024 - y_72.toInt : Int).toNat (by omega) _ _ _ ⟨G_71, y_72, (Int.toNat_of_nonneg (by omega)), ⟨by omega, by omega⟩, (hX_64.st (St_n_keeps_5_mk ⟨x_63, G_59, y_72, G_71, rfl, rfl, f_66, hB_G_59, ⟨c_68, ⟨y_70, ey_70, ⟨y_72, ty_72, ⟨rfl, (Fr.put (rs := [104]) (fs := []) Fr.rf eG_71 (Or.inl (by decide))), rw_ast eG_71⟩⟩⟩⟩⟩)), hW, hB_G_71, hF, (Fr.put (rs := [104]) (fs := []) (Fr.call9 (rs := [104]) (fs := []) Fr.rf hq_60 rfl rfl) eG_71 (Or.inl (by decide))), hS, lv_sub hl [0, 1, 2, 3] rfl⟩
          · have c_58 : x_52.toInt < 800 := xI_nle rfl rfl c_58
            refine lv_aload_n hx hb dX12_keeps_156 rfl (lv_at hl 3 rfl) ?_
            refine S_getR (n := 104) (C := RX12) (T := TX12) (N := 89) hx hb hg iX12 hown hK hW kd_66 rfl 70 (lt_b rfl) (hg (Cond.fieldLink RX12 133 "SlabWalkModel" "leapt" "[I") m1384) (fun _ h9 => h9) rfl dX12_keeps_157 ?_
            refine lv_iload hx hb dX12_keeps_160 (lv_at hl 0 rfl) ?_
            refine S_iald hx hb hK hW kd_104 (vin (by omega) (by omega)) dX12_keeps_162 (fun y_73 ey_73 => ?_)
            refine lv_ldcw (v := 100000) hx hb hown (hg (Cond.constant RX12 502 100000) m1858) dX12_keeps_163 ?_
            refine lv_icmp_ne (tgt := 172) hx hb dX12_keeps_166 rfl (fun c_74 => ?_) (fun c_74 => ?_)
            · have c_74 : y_73.toInt ≠ 100000 := xI_ne rfl rfl c_74
              refine lv_aload_n hx hb dX12_keeps_172 rfl (lv_at hl 3 rfl) ?_
              refine lv_iload hx hb dX12_keeps_173 (lv_at hl 0 rfl) ?_
              refine ic_2 hx hb dX12_keeps_175 ?_
              refine lv_idiv hx hb dX12_keeps_176 (by decide) ?_
              refine lv_topi (fun y_75 ey_75 => ?_)
              have ty_75 : y_75.toInt = x_52.toInt / 2 := xI_div rfl ey_75 (by decide) (by omega)
              have b_76 : 0 ≤ (G_11.1 66 59).toInt ∧ (G_11.1 66 59).toInt ≤ 400 := bd_66_59 hB_G_11
              have g_77 : (G_48.1 66 59).toInt = (G_11.1 66 59).toInt := (congrArg Int32.toInt (show G_48.1 66 59 = (G_11.1 66 59) from ((hq_49.i9 66 59 rfl rfl).trans ((hq_39.i9 66 59 rfl rfl).trans ((hq_26.i9 66 59 rfl rfl).trans (hq_16.i9 66 59 rfl rfl))))))
              have b_78 : 0 ≤ (G_11.1 66 60).toInt ∧ (G_11.1 66 60).toInt ≤ 12 := bd_66_60 hB_G_11
              have g_79 : (G_48.1 66 60).toInt = (G_11.1 66 60).toInt := (congrArg Int32.toInt (show G_48.1 66 60 = (G_11.1 66 60) from ((hq_49.i9 66 60 rfl rfl).trans ((hq_39.i9 66 60 rfl rfl).trans ((hq_26.i9 66 60 rfl rfl).trans (hq_16.i9 66 60 rfl rfl))))))
              have b_80 : 0 ≤ (G_11.1 66 62).toInt ∧ (G_11.1 66 62).toInt ≤ 60 := bd_66_62 hB_G_11
              have g_81 : (G_48.1 66 62).toInt = (G_11.1 66 62).toInt := (congrArg Int32.toInt (show G_48.1 66 62 = (G_11.1 66 62) from ((hq_49.i9 66 62 rfl rfl).trans ((hq_39.i9 66 62 rfl rfl).trans ((hq_26.i9 66 62 rfl rfl).trans (hq_16.i9 66 62 rfl rfl))))))
              refine S_calli (va_runV (As := [.int y_75]) (rest := []) ⟨hx, hb, hml, hown, hts⟩ (n_isEnd l D k A a z G_48 y_75 ⟨by omega, by omega⟩) (cwV 1 hts (gd_V hgd m1854 m1856 m95 m131 m1857) rfl rfl rfl hd_X12_isEnd ⟨Nat.le_of_ble_eq_true rfl, Nat.le_of_ble_eq_true rfl⟩) (pre_V hW hB_G_48 hK hZ hS kd_66 rfl) rfl rfl hl.1 rfl (lv_room (Nat.le_of_ble_eq_true rfl)) dX12_keeps_177 ⟨Nat.le_of_ble_eq_true rfl, Nat.le_of_ble_eq_true rfl⟩) hS (fun r_82 G_83 H locs hpo hW hS => ?_)
              have hX_86 : Q_isEnd y_75 G_48 r_82 G_83 := hpo
              obtain ⟨hB_G_83, hq_84, f_87, hp_85, -⟩ := hpo
              have hF := hF.call9 hq_84 rfl rfl
              refine lv_if_eq (tgt := 200) hx hb dX12_keeps_180 rfl (fun c_88 => ?_) (fun c_88 => ?_)
              · have c_88 : r_82.toInt = 0 := xI_eq rfl rfl c_88
                refine lv_aload_n hx hb dX12_keeps_200 rfl (lv_at hl 3 rfl) ?_
                refine lv_iload hx hb dX12_keeps_201 (lv_at hl 0 rfl) ?_
                refine lv_iload hx hb dX12_keeps_203 (lv_at hl 1 rfl) ?_
                refine S_callv (va_runV (As := [.int x_52, .int x_29]) (rest := []) ⟨hx, hb, hml, hown, hts⟩ (n_keepOn l D k A a z G_83 x_52 x_29 ⟨by omega, by omega⟩ ⟨by omega, by omega⟩) (cwV 2 hts (gd_V hgd m1935 m1937 m102 m131 m1938) rfl rfl rfl hd_X12_keepOn ⟨Nat.le_of_ble_eq_true rfl, Nat.le_of_ble_eq_true rfl⟩) (pre_V hW hB_G_83 hK hZ hS kd_66 rfl) rfl rfl hl.1 rfl (lv_room (Nat.le_of_ble_eq_true rfl)) dX12_keeps_205 ⟨Nat.le_of_ble_eq_true rfl, Nat.le_of_ble_eq_true rfl⟩) hS (fun G_90 H locs hpo hW hS => ?_)
                have hX_93 : Q_keepOn x_52 x_29 G_83 G_90 := hpo
                obtain ⟨hB_G_90, hq_91, -⟩ := hpo
                have hF := hF.call9 hq_91 rfl rfl
                obtain ⟨y_94, ey_94⟩ : ∃ q, q = x_52 + 1 := ⟨_, rfl⟩
                have ty_94 : y_94.toInt = x_52.toInt + 1 := xI_add rfl rfl ey_94 (by omega) (by omega)
                refine lv_iinc (v := y_94) (lv' := [(6, .int y_94), (5, .int x_29), (4, .int x_53), (0, .ref (a 66))]) hx hb dX12_keeps_208 hl (k := 0) rfl (by rw [ey_94]; rfl) (lt_b rfl) rfl (fun ls hl => ?_)
                refine lv_goto (tgt := 148) hx hb dX12_keeps_211 rfl ?_
                exact ih_50 (800 - y_94.toInt : Int).toNat (by omega) _ _ _ ⟨G_90, y_94, x_53, (Int.toNat_of_nonneg (by omega)), ⟨by omega, by omega⟩, (hX_54.st (St_n_keeps_4_mk ⟨x_52, x_53, G_48, y_94, x_53, G_90, rfl, rfl, f_56, hB_G_48, ⟨c_58, ⟨y_73, ey_73, (Or.inr ⟨c_74, ⟨y_75, ty_75, ⟨r_82, G_83, hX_86, (Or.inl ⟨c_88, ⟨G_90, hX_93, ⟨y_94, ty_94, ⟨rfl, rfl, rfl⟩⟩⟩⟩)⟩⟩⟩)⟩⟩⟩)), hW, hB_G_90, hF, (Fr.call9 (rs := [105]) (fs := []) (Fr.call9 (rs := [105]) (fs := []) (Fr.call9 (rs := [105]) (fs := []) Fr.rf hq_49 rfl rfl) hq_84 rfl rfl) hq_91 rfl rfl), hS, lv_sub hl [0, 1, 2, 3] rfl⟩
              · have c_88 : r_82.toInt ≠ 0 := xI_ne rfl rfl c_88
                refine lv_iload hx hb dX12_keeps_183 (lv_at hl 2 rfl) ?_
                refine lv_aload_n hx hb dX12_keeps_185 rfl (lv_at hl 3 rfl) ?_
                refine S_getR (n := 104) (C := RX12) (T := TX12) (N := 89) hx hb hg iX12 hown hK hW kd_66 rfl 70 (lt_b rfl) (hg (Cond.fieldLink RX12 133 "SlabWalkModel" "leapt" "[I") m1384) (fun _ h9 => h9) rfl dX12_keeps_186 ?_
                refine lv_iload hx hb dX12_keeps_189 (lv_at hl 0 rfl) ?_
                refine S_iald hx hb hK hW kd_104 (vin (by omega) (by omega)) dX12_keeps_191 (fun y_95 ey_95 => ?_)
                refine S_calli (va_runS (As := [.int x_53, .int y_95]) (rest := []) ⟨hx, hb, hml, hown, hts⟩ (n_lesser l D k A a z G_83 x_53 y_95 ) (va_cwS 2 hts (gd_S hgd m1863 m1864 m131 m1865) rfl rfl rfl hd_X12_lesser.2 ⟨Nat.le_of_ble_eq_true rfl, Nat.le_of_ble_eq_true rfl⟩) (pre_S hW hB_G_83 hK hZ hS) rfl rfl hl.1 rfl (lv_room (Nat.le_of_ble_eq_true rfl)) dX12_keeps_192 ⟨Nat.le_of_ble_eq_true rfl, Nat.le_of_ble_eq_true rfl⟩) hS (fun r_96 G_97 H locs hpo hW hS => ?_)
                have hX_100 : Q_lesser x_53 y_95 G_83 r_96 G_97 := hpo
                obtain ⟨hB_G_97, hq_98, hp_99, -⟩ := hpo
                have hF := hF.call9 hq_98 rfl rfl
                refine lv_istore (lv' := [(4, .int r_96), (6, .int x_52), (5, .int x_29), (0, .ref (a 66))]) hx hb dX12_keeps_195 hl (lt_b rfl) rfl (fun ls hl => ?_)
                refine lv_goto (tgt := 208) hx hb dX12_keeps_197 rfl ?_
                obtain ⟨y_101, ey_101⟩ : ∃ q, q = x_52 + 1 := ⟨_, rfl⟩
                have ty_101 : y_101.toInt = x_52.toInt + 1 := xI_add rfl rfl ey_101 (by omega) (by omega)
                refine lv_iinc (v := y_101) (lv' := [(6, .int y_101), (4, .int r_96), (5, .int x_29), (0, .ref (a 66))]) hx hb dX12_keeps_208 hl (k := 1) rfl (by rw [ey_101]; rfl) (lt_b rfl) rfl (fun ls hl => ?_)
                refine lv_goto (tgt := 148) hx hb dX12_keeps_211 rfl ?_
                exact ih_50 (800 - y_101.toInt : Int).toNat (by omega) _ _ _ ⟨G_97, y_101, r_96, (Int.toNat_of_nonneg (by omega)), ⟨by omega, by omega⟩, (hX_54.st (St_n_keeps_4_mk ⟨x_52, x_53, G_48, y_101, r_96, G_97, rfl, rfl, f_56, hB_G_48, ⟨c_58, ⟨y_73, ey_73, (Or.inr ⟨c_74, ⟨y_75, ty_75, ⟨r_82, G_83, hX_86, (Or.inr ⟨c_88, ⟨y_95, ey_95, ⟨r_96, G_97, hX_100, ⟨y_101, ty_101, ⟨rfl, rfl, rfl⟩⟩⟩⟩⟩)⟩⟩⟩)⟩⟩⟩)), hW, hB_G_97, hF, (Fr.call9 (rs := [105]) (fs := []) (Fr.call9 (rs := [105]) (fs := []) (Fr.call9 (rs := [105]) (fs := []) Fr.rf hq_49 rfl rfl) hq_84 rfl rfl) hq_98 rfl rfl), hS, lv_sub hl [0, 2, 1, 3] rfl⟩
            · have c_74 : y_73.toInt = 100000 := xI_eq rfl rfl c_74
              refine lv_goto (tgt := 208) hx hb dX12_keeps_169 rfl ?_
              obtain ⟨y_102, ey_102⟩ : ∃ q, q = x_52 + 1 := ⟨_, rfl⟩
              have ty_102 : y_102.toInt = x_52.toInt + 1 := xI_add rfl rfl ey_102 (by omega) (by omega)
              refine lv_iinc (v := y_102) (lv' := [(6, .int y_102), (5, .int x_29), (4, .int x_53), (0, .ref (a 66))]) hx hb dX12_keeps_208 hl (k := 0) rfl (by rw [ey_102]; rfl) (lt_b rfl) rfl (fun ls hl => ?_)
              refine lv_goto (tgt := 148) hx hb dX12_keeps_211 rfl ?_
              exact ih_50 (800 - y_102.toInt : Int).toNat (by omega) _ _ _ ⟨G_48, y_102, x_53, (Int.toNat_of_nonneg (by omega)), ⟨by omega, by omega⟩, (hX_54.st (St_n_keeps_4_mk ⟨x_52, x_53, G_48, y_102, x_53, G_48, rfl, rfl, f_56, hB_G_48, ⟨c_58, ⟨y_73, ey_73, (Or.inl ⟨c_74, ⟨y_102, ty_102, ⟨rfl, rfl, rfl⟩⟩⟩)⟩⟩⟩)), hW, hB_G_48, hF, (Fr.call9 (rs := [105]) (fs := []) Fr.rf hq_49 rfl rfl), hS, lv_sub hl [0, 1, 2, 3] rfl⟩
        · have c_47 : x_42.toInt < 1024 := xI_nle rfl rfl c_47
          refine lv_aload_n hx hb dX12_keeps_129 rfl (lv_at hl 3 rfl) ?_
          refine S_getR (n := 105) (C := RX12) (T := TX12) (N := 89) hx hb hg iX12 hown hK hW kd_66 rfl 71 (lt_b rfl) (hg (Cond.fieldLink RX12 136 "SlabWalkModel" "leaptNext" "[I") m1385) (fun _ h9 => h9) rfl dX12_keeps_130 ?_
          refine lv_iload hx hb dX12_keeps_133 (lv_at hl 0 rfl) ?_
          refine lv_ldcw (v := 100000) hx hb hown (hg (Cond.constant RX12 502 100000) m1858) dX12_keeps_135 ?_
          refine S_iast hx hb hK hW hS kd_105 (vin (by omega) (by omega)) dX12_keeps_138 (fun G_103 H locs eG_103 hW hS => ?_)
          have hB_G_103 : Bd G_103 := hB_G_38.put (lo := (-2147483648)) (hi := 2147483647) eG_103 rfl rfl rfl (tI_rng _).1 (tI_rng _).2 (hB_G_38.2.put eG_103 rfl)
          have hF := hF.put eG_103 (Or.inl (by decide))
          obtain ⟨y_104, ey_104⟩ : ∃ q, q = x_42 + 1 := ⟨_, rfl⟩
          have ty_104 : y_104.toInt = x_42.toInt + 1 := xI_add rfl rfl ey_104 (by omega) (by omega)
          refine lv_iinc (v := y_104) (lv' := [(6, .int y_104), (5, .int x_29), (4, .int x_30), (0, .ref (a 66))]) hx hb dX12_keeps_139 hl (k := 0) rfl (by rw [ey_104]; rfl) (lt_b rfl) rfl (fun ls hl => ?_)
          refine lv_goto (tgt := 121) hx hb dX12_keeps_142 rfl ?_
          exact ih_40 (1024 - y_104.toInt : Int).toNat (by omega) _ _ _ ⟨G_103, y_104, (Int.toNat_of_nonneg (by omega)), ⟨by omega, by omega⟩, (hX_43.st (St_n_keeps_3_mk ⟨x_42, G_38, y_104, G_103, rfl, rfl, f_45, hB_G_38, ⟨c_47, ⟨y_104, ty_104, ⟨rfl, (Fr.put (rs := [105]) (fs := []) Fr.rf eG_103 (Or.inl (by decide))), rw_ast eG_103⟩⟩⟩⟩)), hW, hB_G_103, hF, (Fr.put (rs := [105]) (fs := []) (Fr.call9 (rs := [105]) (fs := []) Fr.rf hq_39 rfl rfl) eG_103 (Or.inl (by decide))), hS, lv_sub hl [0, 1, 2, 3] rfl⟩
    · have c_24 : x_19.toInt < 1024 := xI_nle rfl rfl c_24
      refine lv_aload_n hx hb dX12_keeps_30 rfl (lv_at hl 1 rfl) ?_
      refine S_getR (n := 104) (C := RX12) (T := TX12) (N := 89) hx hb hg iX12 hown hK hW kd_66 rfl 70 (lt_b rfl) (hg (Cond.fieldLink RX12 133 "SlabWalkModel" "leapt" "[I") m1384) (fun _ h9 => h9) rfl dX12_keeps_31 ?_
      refine lv_iload hx hb dX12_keeps_34 (lv_at hl 0 rfl) ?_
      refine lv_iload hx hb dX12_keeps_36 (lv_at hl 0 rfl) ?_
      refine ic_2 hx hb dX12_keeps_38 ?_
      refine lv_irem hx hb dX12_keeps_39 (by decide) ?_
      refine lv_topi (fun y_105 ey_105 => ?_)
      have ty_105 : y_105.toInt = x_19.toInt % 2 := xI_mod rfl ey_105 (by decide) (by omega)
      refine lv_if_ne (tgt := 92) hx hb dX12_keeps_40 rfl (fun c_106 => ?_) (fun c_106 => ?_)
      · have c_106 : y_105.toInt ≠ 0 := xI_ne rfl rfl c_106
        refine lv_ldcw (v := 100000) hx hb hown (hg (Cond.constant RX12 502 100000) m1858) dX12_keeps_92 ?_
        refine S_iast hx hb hK hW hS kd_104 (vin (by omega) (by omega)) dX12_keeps_95 (fun G_107 H locs eG_107 hW hS => ?_)
        have hB_G_107 : Bd G_107 := hB_G_15.put (lo := (-2147483648)) (hi := 2147483647) eG_107 rfl rfl rfl (tI_rng _).1 (tI_rng _).2 (hB_G_15.2.put eG_107 rfl)
        have hF := hF.put eG_107 (Or.inl (by decide))
        obtain ⟨y_108, ey_108⟩ : ∃ q, q = x_19 + 1 := ⟨_, rfl⟩
        have ty_108 : y_108.toInt = x_19.toInt + 1 := xI_add rfl rfl ey_108 (by omega) (by omega)
        refine lv_iinc (v := y_108) (lv' := [(4, .int y_108), (0, .ref (a 66))]) hx hb dX12_keeps_96 hl (k := 0) rfl (by rw [ey_108]; rfl) (lt_b rfl) rfl (fun ls hl => ?_)
        refine lv_goto (tgt := 22) hx hb dX12_keeps_99 rfl ?_
        exact ih_17 (1024 - y_108.toInt : Int).toNat (by omega) _ _ _ ⟨G_107, y_108, (Int.toNat_of_nonneg (by omega)), ⟨by omega, by omega⟩, (hX_20.st (St_n_keeps_1_mk ⟨x_19, G_15, y_108, G_107, rfl, rfl, f_22, hB_G_15, ⟨c_24, ⟨y_105, ty_105, (Or.inr ⟨c_106, ⟨y_108, ty_108, ⟨rfl, (Fr.put (rs := [104]) (fs := []) Fr.rf eG_107 (Or.inl (by decide))), rw_ast eG_107⟩⟩⟩)⟩⟩⟩)), hW, hB_G_107, hF, (Fr.put (rs := [104]) (fs := []) (Fr.call9 (rs := [104]) (fs := []) Fr.rf hq_16 rfl rfl) eG_107 (Or.inl (by decide))), hS, lv_sub hl [0, 1] rfl⟩
      · have c_106 : y_105.toInt = 0 := xI_eq rfl rfl c_106
        refine lv_iload hx hb dX12_keeps_43 (lv_at hl 0 rfl) ?_
        refine ic_2 hx hb dX12_keeps_45 ?_
        refine lv_idiv hx hb dX12_keeps_46 (by decide) ?_
        refine lv_topi (fun y_109 ey_109 => ?_)
        have ty_109 : y_109.toInt = x_19.toInt / 2 := xI_div rfl ey_109 (by decide) (by omega)
        refine lv_aload_n hx hb dX12_keeps_47 rfl (lv_at hl 1 rfl) ?_
        have b_110 : 0 ≤ (G_11.1 66 62).toInt ∧ (G_11.1 66 62).toInt ≤ 60 := bd_66_62 hB_G_11
        refine S_getI (v := (G_11.1 66 62)) (C := RX12) (T := TX12) (N := 89) hx hb hg iX12 hown hK hW kd_66 rfl 62 (lt_b rfl) (hg (Cond.fieldLink RX12 478 "SlabWalkModel" "most" "I") m1376) (fun _ h9 => h9) rfl (hq_16.i9 66 62 rfl rfl) dX12_keeps_48 ?_
        refine lv_icmp_ge (tgt := 92) hx hb dX12_keeps_51 rfl (fun c_111 => ?_) (fun c_111 => ?_)
        · have c_111 : (G_11.1 66 62).toInt ≤ y_109.toInt := xI_le rfl rfl c_111
          refine lv_ldcw (v := 100000) hx hb hown (hg (Cond.constant RX12 502 100000) m1858) dX12_keeps_92 ?_
          refine S_iast hx hb hK hW hS kd_104 (vin (by omega) (by omega)) dX12_keeps_95 (fun G_112 H locs eG_112 hW hS => ?_)
          have hB_G_112 : Bd G_112 := hB_G_15.put (lo := (-2147483648)) (hi := 2147483647) eG_112 rfl rfl rfl (tI_rng _).1 (tI_rng _).2 (hB_G_15.2.put eG_112 rfl)
          have hF := hF.put eG_112 (Or.inl (by decide))
          obtain ⟨y_113, ey_113⟩ : ∃ q, q = x_19 + 1 := ⟨_, rfl⟩
          have ty_113 : y_113.toInt = x_19.toInt + 1 := xI_add rfl rfl ey_113 (by omega) (by omega)
          refine lv_iinc (v := y_113) (lv' := [(4, .int y_113), (0, .ref (a 66))]) hx hb dX12_keeps_96 hl (k := 0) rfl (by rw [ey_113]; rfl) (lt_b rfl) rfl (fun ls hl => ?_)
          refine lv_goto (tgt := 22) hx hb dX12_keeps_99 rfl ?_
          exact ih_17 (1024 - y_113.toInt : Int).toNat (by omega) _ _ _ ⟨G_112, y_113, (Int.toNat_of_nonneg (by omega)), ⟨by omega, by omega⟩, (hX_20.st (St_n_keeps_1_mk ⟨x_19, G_15, y_113, G_112, rfl, rfl, f_22, hB_G_15, ⟨c_24, ⟨y_105, ty_105, (Or.inl ⟨c_106, ⟨y_109, ty_109, (Or.inl ⟨c_111, ⟨y_113, ty_113, ⟨rfl, (Fr.put (rs := [104]) (fs := []) Fr.rf eG_112 (Or.inl (by decide))), rw_ast eG_112⟩⟩⟩)⟩⟩)⟩⟩⟩)), hW, hB_G_112, hF, (Fr.put (rs := [104]) (fs := []) (Fr.call9 (rs := [104]) (fs := []) Fr.rf hq_16 rfl rfl) eG_112 (Or.inl (by decide))), hS, lv_sub hl [0, 1] rfl⟩
        · have c_111 : y_109.toInt < (G_11.1 66 62).toInt := xI_nle rfl rfl c_111
          refine lv_iload hx hb dX12_keeps_54 (lv_at hl 0 rfl) ?_
          refine ic_2 hx hb dX12_keeps_56 ?_
          refine lv_idiv hx hb dX12_keeps_57 (by decide) ?_
          refine lv_topi (fun y_114 ey_114 => ?_)
          have ty_114 : y_114.toInt = x_19.toInt / 2 := xI_div rfl ey_114 (by decide) (by omega)
          refine lv_sipush (v := 400) hx hb dX12_keeps_58 (by decide) ?_
          refine lv_icmp_ge (tgt := 92) hx hb dX12_keeps_61 rfl (fun c_115 => ?_) (fun c_115 => ?_)
          · have c_115 : 400 ≤ y_114.toInt := xI_le rfl rfl c_115
            refine lv_ldcw (v := 100000) hx hb hown (hg (Cond.constant RX12 502 100000) m1858) dX12_keeps_92 ?_
            refine S_iast hx hb hK hW hS kd_104 (vin (by omega) (by omega)) dX12_keeps_95 (fun G_116 H locs eG_116 hW hS => ?_)
            have hB_G_116 : Bd G_116 := hB_G_15.put (lo := (-2147483648)) (hi := 2147483647) eG_116 rfl rfl rfl (tI_rng _).1 (tI_rng _).2 (hB_G_15.2.put eG_116 rfl)
            have hF := hF.put eG_116 (Or.inl (by decide))
            obtain ⟨y_117, ey_117⟩ : ∃ q, q = x_19 + 1 := ⟨_, rfl⟩
            have ty_117 : y_117.toInt = x_19.toInt + 1 := xI_add rfl rfl ey_117 (by omega) (by omega)
            refine lv_iinc (v := y_117) (lv' := [(4, .int y_117), (0, .ref (a 66))]) hx hb dX12_keeps_96 hl (k := 0) rfl (by rw [ey_117]; rfl) (lt_b rfl) rfl (fun ls hl => ?_)
            refine lv_goto (tgt := 22) hx hb dX12_keeps_99 rfl ?_
            exact ih_17 (1024 - y_117.toInt : Int).toNat (by omega) _ _ _ ⟨G_116, y_117, (Int.toNat_of_nonneg (by omega)), ⟨by omega, by omega⟩, (hX_20.st (St_n_keeps_1_mk ⟨x_19, G_15, y_117, G_116, rfl, rfl, f_22, hB_G_15, ⟨c_24, ⟨y_105, ty_105, (Or.inl ⟨c_106, ⟨y_109, ty_109, (Or.inr ⟨c_111, ⟨y_114, ty_114, (Or.inl ⟨c_115, ⟨y_117, ty_117, ⟨rfl, (Fr.put (rs := [104]) (fs := []) Fr.rf eG_116 (Or.inl (by decide))), rw_ast eG_116⟩⟩⟩)⟩⟩)⟩⟩)⟩⟩⟩)), hW, hB_G_116, hF, (Fr.put (rs := [104]) (fs := []) (Fr.call9 (rs := [104]) (fs := []) Fr.rf hq_16 rfl rfl) eG_116 (Or.inl (by decide))), hS, lv_sub hl [0, 1] rfl⟩
          · have c_115 : y_114.toInt < 400 := xI_nle rfl rfl c_115
            refine lv_aload_n hx hb dX12_keeps_64 rfl (lv_at hl 1 rfl) ?_
            refine S_getR (n := 98) (C := RX12) (T := TX12) (N := 89) hx hb hg iX12 hown hK hW kd_66 rfl 58 (lt_b rfl) (hg (Cond.fieldLink RX12 115 "SlabWalkModel" "lawful" "[Z") m1372) (fun _ h9 => h9) rfl dX12_keeps_65 ?_
            refine lv_iload hx hb dX12_keeps_68 (lv_at hl 0 rfl) ?_
            refine ic_2 hx hb dX12_keeps_70 ?_
            refine lv_idiv hx hb dX12_keeps_71 (by decide) ?_
            refine lv_topi (fun y_118 ey_118 => ?_)
            have ty_118 : y_118.toInt = x_19.toInt / 2 := xI_div rfl ey_118 (by decide) (by omega)
            refine S_zald hx hb hK hW kd_98 (vin (by omega) (by omega)) dX12_keeps_72 (fun y_119 ey_119 => ?_)
            have ty_119 := hB_G_15.law ey_119
            refine lv_if_eq (tgt := 92) hx hb dX12_keeps_73 rfl (fun c_120 => ?_) (fun c_120 => ?_)
            · have c_120 : y_119.toInt = 0 := xI_eq rfl rfl c_120
              refine lv_ldcw (v := 100000) hx hb hown (hg (Cond.constant RX12 502 100000) m1858) dX12_keeps_92 ?_
              refine S_iast hx hb hK hW hS kd_104 (vin (by omega) (by omega)) dX12_keeps_95 (fun G_121 H locs eG_121 hW hS => ?_)
              have hB_G_121 : Bd G_121 := hB_G_15.put (lo := (-2147483648)) (hi := 2147483647) eG_121 rfl rfl rfl (tI_rng _).1 (tI_rng _).2 (hB_G_15.2.put eG_121 rfl)
              have hF := hF.put eG_121 (Or.inl (by decide))
              obtain ⟨y_122, ey_122⟩ : ∃ q, q = x_19 + 1 := ⟨_, rfl⟩
              have ty_122 : y_122.toInt = x_19.toInt + 1 := xI_add rfl rfl ey_122 (by omega) (by omega)
              refine lv_iinc (v := y_122) (lv' := [(4, .int y_122), (0, .ref (a 66))]) hx hb dX12_keeps_96 hl (k := 0) rfl (by rw [ey_122]; rfl) (lt_b rfl) rfl (fun ls hl => ?_)
              refine lv_goto (tgt := 22) hx hb dX12_keeps_99 rfl ?_
              exact ih_17 (1024 - y_122.toInt : Int).toNat (by omega) _ _ _ ⟨G_121, y_122, (Int.toNat_of_nonneg (by omega)), ⟨by omega, by omega⟩, (hX_20.st (St_n_keeps_1_mk ⟨x_19, G_15, y_122, G_121, rfl, rfl, f_22, hB_G_15, ⟨c_24, ⟨y_105, ty_105, (Or.inl ⟨c_106, ⟨y_109, ty_109, (Or.inr ⟨c_111, ⟨y_114, ty_114, (Or.inr ⟨c_115, ⟨y_118, ty_118, ⟨y_119, ey_119, (Or.inl ⟨c_120, ⟨y_122, ty_122, ⟨rfl, (Fr.put (rs := [104]) (fs := []) Fr.rf eG_121 (Or.inl (by decide))), rw_ast eG_121⟩⟩⟩)⟩⟩⟩)⟩⟩)⟩⟩)⟩⟩⟩)), hW, hB_G_121, hF, (Fr.put (rs := [104]) (fs := []) (Fr.call9 (rs := [104]) (fs := []) Fr.rf hq_16 rfl rfl) eG_121 (Or.inl (by decide))), hS, lv_sub hl [0, 1] rfl⟩
            · have c_120 : y_119.toInt ≠ 0 := xI_ne rfl rfl c_120
              refine lv_aload_n hx hb dX12_keeps_76 rfl (lv_at hl 1 rfl) ?_
              refine lv_iload hx hb dX12_keeps_77 (lv_at hl 0 rfl) ?_
              refine ic_2 hx hb dX12_keeps_79 ?_
              refine lv_idiv hx hb dX12_keeps_80 (by decide) ?_
              refine lv_topi (fun y_123 ey_123 => ?_)
              have ty_123 : y_123.toInt = x_19.toInt / 2 := xI_div rfl ey_123 (by decide) (by omega)
              refine ic_0 hx hb dX12_keeps_81 ?_
              refine S_calli (va_runV (As := [.int y_123, .int 0]) (rest := [.int x_19, .ref (a 104)]) ⟨hx, hb, hml, hown, hts⟩ (n_isHeld l D k A a z G_15 y_123 0 ⟨by omega, by omega⟩ ⟨by decide, by decide⟩) (cwV 2 hts (gd_V hgd m1931 m1933 m101 m131 m1934) rfl rfl rfl hd_X12_isHeld ⟨Nat.le_of_ble_eq_true rfl, Nat.le_of_ble_eq_true rfl⟩) (pre_V hW hB_G_15 hK hZ hS kd_66 rfl) rfl rfl hl.1 rfl (lv_room (Nat.le_of_ble_eq_true rfl)) dX12_keeps_82 ⟨Nat.le_of_ble_eq_true rfl, Nat.le_of_ble_eq_true rfl⟩) hS (fun r_124 G_125 H locs hpo hW hS => ?_)
              have hX_128 : Q_isHeld y_123 0 G_15 r_124 G_125 := hpo
              obtain ⟨hB_G_125, hq_126, f_129, -⟩ := hpo
              have hF := hF.call9 hq_126 rfl rfl
              refine lv_if_eq (tgt := 92) hx hb dX12_keeps_85 rfl (fun c_130 => ?_) (fun c_130 => ?_)
              · have c_130 : r_124.toInt = 0 := xI_eq rfl rfl c_130
                refine lv_ldcw (v := 100000) hx hb hown (hg (Cond.constant RX12 502 100000) m1858) dX12_keeps_92 ?_
                refine S_iast hx hb hK hW hS kd_104 (vin (by omega) (by omega)) dX12_keeps_95 (fun G_131 H locs eG_131 hW hS => ?_)
                have hB_G_131 : Bd G_131 := hB_G_125.put (lo := (-2147483648)) (hi := 2147483647) eG_131 rfl rfl rfl (tI_rng _).1 (tI_rng _).2 (hB_G_125.2.put eG_131 rfl)
                have hF := hF.put eG_131 (Or.inl (by decide))
                obtain ⟨y_132, ey_132⟩ : ∃ q, q = x_19 + 1 := ⟨_, rfl⟩
                have ty_132 : y_132.toInt = x_19.toInt + 1 := xI_add rfl rfl ey_132 (by omega) (by omega)
                refine lv_iinc (v := y_132) (lv' := [(4, .int y_132), (0, .ref (a 66))]) hx hb dX12_keeps_96 hl (k := 0) rfl (by rw [ey_132]; rfl) (lt_b rfl) rfl (fun ls hl => ?_)
                refine lv_goto (tgt := 22) hx hb dX12_keeps_99 rfl ?_
                exact ih_17 (1024 - y_132.toInt : Int).toNat (by omega) _ _ _ ⟨G_131, y_132, (Int.toNat_of_nonneg (by omega)), ⟨by omega, by omega⟩, (hX_20.st (St_n_keeps_1_mk ⟨x_19, G_15, y_132, G_131, rfl, rfl, f_22, hB_G_15, ⟨c_24, ⟨y_105, ty_105, (Or.inl ⟨c_106, ⟨y_109, ty_109, (Or.inr ⟨c_111, ⟨y_114, ty_114, (Or.inr ⟨c_115, ⟨y_118, ty_118, ⟨y_119, ey_119, (Or.inr ⟨c_120, ⟨y_123, ty_123, ⟨r_124, G_125, hX_128, (Or.inl ⟨c_130, ⟨y_132, ty_132, ⟨rfl, (Fr.put (rs := [104]) (fs := []) Fr.rf eG_131 (Or.inl (by decide))), rw_ast eG_131⟩⟩⟩)⟩⟩⟩)⟩⟩⟩)⟩⟩)⟩⟩)⟩⟩⟩)), hW, hB_G_131, hF, (Fr.put (rs := [104]) (fs := []) (Fr.call9 (rs := [104]) (fs := []) (Fr.call9 (rs := [104]) (fs := []) Fr.rf hq_16 rfl rfl) hq_126 rfl rfl) eG_131 (Or.inl (by decide))), hS, lv_sub hl [0, 1] rfl⟩
              · have c_130 : r_124.toInt ≠ 0 := xI_ne rfl rfl c_130
                refine ic_0 hx hb dX12_keeps_88 ?_
                refine lv_goto (tgt := 95) hx hb dX12_keeps_89 rfl ?_
                refine S_iast hx hb hK hW hS kd_104 (vin (by omega) (by omega)) dX12_keeps_95 (fun G_133 H locs eG_133 hW hS => ?_)
                have hB_G_133 : Bd G_133 := hB_G_125.put (lo := (-2147483648)) (hi := 2147483647) eG_133 rfl rfl rfl (tI_rng _).1 (tI_rng _).2 (hB_G_125.2.put eG_133 rfl)
                have hF := hF.put eG_133 (Or.inl (by decide))
                obtain ⟨y_134, ey_134⟩ : ∃ q, q = x_19 + 1 := ⟨_, rfl⟩
                have ty_134 : y_134.toInt = x_19.toInt + 1 := xI_add rfl rfl ey_134 (by omega) (by omega)
                refine lv_iinc (v := y_134) (lv' := [(4, .int y_134), (0, .ref (a 66))]) hx hb dX12_keeps_96 hl (k := 0) rfl (by rw [ey_134]; rfl) (lt_b rfl) rfl (fun ls hl => ?_)
                refine lv_goto (tgt := 22) hx hb dX12_keeps_99 rfl ?_
                exact ih_17 (1024 - y_134.toInt : Int).toNat (by omega) _ _ _ ⟨G_133, y_134, (Int.toNat_of_nonneg (by omega)), ⟨by omega, by omega⟩, (hX_20.st (St_n_keeps_1_mk ⟨x_19, G_15, y_134, G_133, rfl, rfl, f_22, hB_G_15, ⟨c_24, ⟨y_105, ty_105, (Or.inl ⟨c_106, ⟨y_109, ty_109, (Or.inr ⟨c_111, ⟨y_114, ty_114, (Or.inr ⟨c_115, ⟨y_118, ty_118, ⟨y_119, ey_119, (Or.inr ⟨c_120, ⟨y_123, ty_123, ⟨r_124, G_125, hX_128, (Or.inr ⟨c_130, ⟨y_134, ty_134, ⟨rfl, (Fr.put (rs := [104]) (fs := []) Fr.rf eG_133 (Or.inl (by decide))), rw_ast eG_133⟩⟩⟩)⟩⟩⟩)⟩⟩⟩)⟩⟩)⟩⟩)⟩⟩⟩)), hW, hB_G_133, hF, (Fr.put (rs := [104]) (fs := []) (Fr.call9 (rs := [104]) (fs := []) (Fr.call9 (rs := [104]) (fs := []) Fr.rf hq_16 rfl rfl) hq_126 rfl rfl) eG_133 (Or.inl (by decide))), hS, lv_sub hl [0, 1] rfl⟩
  · have c_7 : r_1.toInt = 0 := xI_eq rfl rfl c_7
    refine ic_m1 hx hb dX12_keeps_10 ?_
    exact W.iret (v := (-1)) hx hb hr (fun t ht _ => ⟨⟨(-1), G_2, rfl, (Q_keeps_mk ⟨hB_G_2, hF, ⟨r_1, G_2, hX_5, (Or.inl ⟨c_7, ⟨rfl, rfl⟩⟩)⟩⟩), wd_t ht hW⟩, hS.F ht⟩) hS.2.2 dX12_keeps_11

set_option maxHeartbeats 4000000 in
set_option maxRecDepth 100000 in
theorem n_walk (l : Launch) (D : va_G) (k : KT) (A : Nat → Prop) (a : Nat → Nat) (z : SK) (G : GS) (p0 : Int32) (p1 : Int32) (p2 : Int32) (hP9 : gP G = 1) (hac : (G.1 66 78).toInt + (G.1 66 79).toInt ≤ 40) : Met l yX12_walk (WS yX12_walk cX12_walk 4 (some .int)) ({ frames := 5, cells := 0, slots := 0, locals := 117 }) (va_Pc [.ref (a 66), .int p0, .int p1, .int p2] (cW D k A a z G)) (va_Qi (fun (r : Int32) (G1 : GS) => Q_walk p0 p1 p2 G r G1) (fun (G1 : GS) t => Wd D k A a G1 t.heap) A) 0 0 A := by
  refine Met.ofW (cc := cX12_walk) (maxL := 4) (ret := (some .int)) (by decide) rfl ?_
  intro p e s m args below meth c s₁ B hml hv
  obtain ⟨rfl, hW, hB_G, hK, hZ⟩ := hv
  have hx := B.exec
  have hb := B.bytes
  have hr := B.returns
  have hts := atoms_spec (ws := WS yX12_walk cX12_walk 4 (some .int)) B.pre
  have hgd : ∀ w ∈ gd, w ∈ WS yX12_walk cX12_walk 4 (some .int) := fun w h => List.mem_cons_of_mem _ h
  have hg : ∀ w ∈ gd, w.before _ s = true := fun w h => hts w (hgd w h)
  have hown : s.vm.findClass RX12 = some m.cls := findClass_of_methodNamed B.named
  have hS : va_S A s.heap s.heap [] := va_S.rf
  have hF : Fr [110, 111, 76, 97, 98] [(66, 59), (66, 60), (66, 61), (66, 62), (66, 63), (66, 78), (66, 79)] G G := Fr.rf
  have hl := lv_entry ([.ref (a 66), .int p0, .int p1, .int p2]) (n := 4) (Nat.le_of_ble_eq_true rfl)
  rw [lg_entry_eq]
  generalize (lg_sl ([.ref (a 66), .int p0, .int p1, .int p2]) ++ List.replicate (4 - (lg_sl ([.ref (a 66), .int p0, .int p1, .int p2])).length) Slot.unset).toArray = ls at hl ⊢
  have hl : lv_has ls 4 [(0, .ref (a 66)), (1, .int p0), (2, .int p1), (3, .int p2)] := hl
  refine lv_aload_n hx hb dX12_walk_0 rfl (lv_at hl 0 rfl) ?_
  refine lv_iload_n hx hb dX12_walk_1 rfl (lv_at hl 1 rfl) ?_
  refine S_calli (va_runV (As := [.int p0]) (rest := []) ⟨hx, hb, hml, hown, hts⟩ (n_isWalker l D k A a z G p0 ) (cwV 1 hts (gd_V hgd m1830 m1832 m90 m131 m1833) rfl rfl rfl hd_X12_isWalker ⟨Nat.le_of_ble_eq_true rfl, Nat.le_of_ble_eq_true rfl⟩) (pre_V hW hB_G hK hZ hS kd_66 rfl) rfl rfl hl.1 rfl (lv_room (Nat.le_of_ble_eq_true rfl)) dX12_walk_2 ⟨Nat.le_of_ble_eq_true rfl, Nat.le_of_ble_eq_true rfl⟩) hS (fun r_1 G_2 H locs hpo hW hS => ?_)
  have hX_5 : Q_isWalker p0 G r_1 G_2 := hpo
  obtain ⟨hB_G_2, hq_3, f_6, hp_4, -⟩ := hpo
  have hF := hF.call9 hq_3 rfl rfl
  refine lv_if_eq (tgt := 32) hx hb dX12_walk_5 rfl (fun c_7 => ?_) (fun c_7 => ?_)
  · have c_7 : r_1.toInt = 0 := xI_eq rfl rfl c_7
    refine ic_m1 hx hb dX12_walk_32 ?_
    have b_8 : 0 ≤ (G.1 66 78).toInt ∧ (G.1 66 78).toInt ≤ 40 := bd_66_78 hB_G
    have g_9 : (G_2.1 66 78).toInt = (G.1 66 78).toInt := (congrArg Int32.toInt (show G_2.1 66 78 = (G.1 66 78) from (hq_3.i9 66 78 rfl rfl)))
    have b_10 : 0 ≤ (G.1 66 79).toInt ∧ (G.1 66 79).toInt ≤ 40 := bd_66_79 hB_G
    have g_11 : (G_2.1 66 79).toInt = (G.1 66 79).toInt := (congrArg Int32.toInt (show G_2.1 66 79 = (G.1 66 79) from (hq_3.i9 66 79 rfl rfl)))
    exact W.iret (v := (-1)) hx hb hr (fun t ht _ => ⟨⟨(-1), G_2, rfl, (Q_walk_mk ⟨hB_G_2, hF, (by have hq : ((-1) : Int32).toInt = (-1) := rfl; (try dsimp only); omega), ⟨r_1, G_2, hX_5, (Or.inl ⟨c_7, ⟨rfl, rfl⟩⟩)⟩⟩), wd_t ht hW⟩, hS.F ht⟩) hS.2.2 dX12_walk_33
  · have c_7 : r_1.toInt ≠ 0 := xI_ne rfl rfl c_7
    refine lv_aload_n hx hb dX12_walk_8 rfl (lv_at hl 0 rfl) ?_
    refine lv_iload_n hx hb dX12_walk_9 rfl (lv_at hl 2 rfl) ?_
    have b_12 : 0 ≤ (G.1 66 52).toInt ∧ (G.1 66 52).toInt ≤ 3 := bd_66_52 hB_G
    have g_13 : (G_2.1 66 52).toInt = (G.1 66 52).toInt := (congrArg Int32.toInt (show G_2.1 66 52 = (G.1 66 52) from (hq_3.i9 66 52 rfl rfl)))
    refine S_calli (va_runV (As := [.int p1]) (rest := []) ⟨hx, hb, hml, hown, hts⟩ (n_isStreet l D k A a z G_2 p1 ) (cwV 1 hts (gd_V hgd m1777 m1779 m83 m131 m1780) rfl rfl rfl hd_X12_isStreet ⟨Nat.le_of_ble_eq_true rfl, Nat.le_of_ble_eq_true rfl⟩) (pre_V hW hB_G_2 hK hZ hS kd_66 rfl) rfl rfl hl.1 rfl (lv_room (Nat.le_of_ble_eq_true rfl)) dX12_walk_10 ⟨Nat.le_of_ble_eq_true rfl, Nat.le_of_ble_eq_true rfl⟩) hS (fun r_14 G_15 H locs hpo hW hS => ?_)
    have hX_18 : Q_isStreet p1 G_2 r_14 G_15 := hpo
    obtain ⟨hB_G_15, hq_16, f_19, hp_17, -⟩ := hpo
    have hF := hF.call9 hq_16 rfl rfl
    refine lv_if_eq (tgt := 32) hx hb dX12_walk_13 rfl (fun c_20 => ?_) (fun c_20 => ?_)
    · have c_20 : r_14.toInt = 0 := xI_eq rfl rfl c_20
      refine ic_m1 hx hb dX12_walk_32 ?_
      have b_21 : 0 ≤ (G.1 66 78).toInt ∧ (G.1 66 78).toInt ≤ 40 := bd_66_78 hB_G
      have g_22 : (G_15.1 66 78).toInt = (G.1 66 78).toInt := (congrArg Int32.toInt (show G_15.1 66 78 = (G.1 66 78) from ((hq_16.i9 66 78 rfl rfl).trans (hq_3.i9 66 78 rfl rfl))))
      have b_23 : 0 ≤ (G.1 66 79).toInt ∧ (G.1 66 79).toInt ≤ 40 := bd_66_79 hB_G
      have g_24 : (G_15.1 66 79).toInt = (G.1 66 79).toInt := (congrArg Int32.toInt (show G_15.1 66 79 = (G.1 66 79) from ((hq_16.i9 66 79 rfl rfl).trans (hq_3.i9 66 79 rfl rfl))))
      exact W.iret (v := (-1)) hx hb hr (fun t ht _ => ⟨⟨(-1), G_15, rfl, (Q_walk_mk ⟨hB_G_15, hF, (by have hq : ((-1) : Int32).toInt = (-1) := rfl; (try dsimp only); omega), ⟨r_1, G_2, hX_5, (Or.inr ⟨c_7, ⟨r_14, G_15, hX_18, (Or.inl ⟨c_20, ⟨rfl, rfl⟩⟩)⟩⟩)⟩⟩), wd_t ht hW⟩, hS.F ht⟩) hS.2.2 dX12_walk_33
    · have c_20 : r_14.toInt ≠ 0 := xI_ne rfl rfl c_20
      refine lv_iload_n hx hb dX12_walk_16 rfl (lv_at hl 3 rfl) ?_
      refine ic_0 hx hb dX12_walk_17 ?_
      refine lv_aload_n hx hb dX12_walk_18 rfl (lv_at hl 0 rfl) ?_
      refine S_getR (n := 94) (C := RX12) (T := TX12) (N := 89) hx hb hg iX12 hown hK hW kd_66 rfl 42 (lt_b rfl) (hg (Cond.fieldLink RX12 96 "SlabWalkModel" "mosts" "[I") m1356) (fun _ h9 => h9) rfl dX12_walk_19 ?_
      refine lv_iload_n hx hb dX12_walk_22 rfl (lv_at hl 1 rfl) ?_
      refine S_iald hx hb hK hW kd_94 (vin (by omega) (by omega)) dX12_walk_23 (fun y_25 ey_25 => ?_)
      have ty_25 : 0 ≤ y_25.toInt ∧ y_25.toInt ≤ 60 := bv_94 hB_G_15 ey_25
      refine ic_1 hx hb dX12_walk_24 ?_
      refine lv_isub hx hb dX12_walk_25 ?_
      refine lv_topi (fun y_26 ey_26 => ?_)
      have ty_26 : y_26.toInt = y_25.toInt - 1 := xI_sub rfl rfl ey_26 (by omega) (by omega)
      have qc_27 : (0 : Int32).toInt = 0 := rfl
      refine S_calli (va_runS (As := [.int p2, .int 0, .int y_26]) (rest := []) ⟨hx, hb, hml, hown, hts⟩ (n_isIn l D k A a z G_15 p2 0 y_26 ) (va_cwS 3 hts (gd_S hgd m1781 m1782 m131 m1783) rfl rfl rfl hd_X12_isIn.2 ⟨Nat.le_of_ble_eq_true rfl, Nat.le_of_ble_eq_true rfl⟩) (pre_S hW hB_G_15 hK hZ hS) rfl rfl hl.1 rfl (lv_room (Nat.le_of_ble_eq_true rfl)) dX12_walk_26 ⟨Nat.le_of_ble_eq_true rfl, Nat.le_of_ble_eq_true rfl⟩) hS (fun r_28 G_29 H locs hpo hW hS => ?_)
      have hX_32 : Q_isIn p2 0 y_26 G_15 r_28 G_29 := hpo
      obtain ⟨hB_G_29, hq_30, f_33, hp_31, -⟩ := hpo
      have hF := hF.call9 hq_30 rfl rfl
      refine lv_if_ne (tgt := 34) hx hb dX12_walk_29 rfl (fun c_34 => ?_) (fun c_34 => ?_)
      · have c_34 : r_28.toInt ≠ 0 := xI_ne rfl rfl c_34
        refine lv_aload_n hx hb dX12_walk_34 rfl (lv_at hl 0 rfl) ?_
        refine lv_iload_n hx hb dX12_walk_35 rfl (lv_at hl 1 rfl) ?_
        refine lv_iload_n hx hb dX12_walk_36 rfl (lv_at hl 2 rfl) ?_
        refine lv_aload_n hx hb dX12_walk_37 rfl (lv_at hl 0 rfl) ?_
        refine S_getR (n := 110) (C := RX12) (T := TX12) (N := 89) hx hb hg iX12 hown hK hW kd_66 rfl 76 (lt_b rfl) (hg (Cond.fieldLink RX12 151 "SlabWalkModel" "now" "[I") m1390) (fun _ h9 => h9) rfl dX12_walk_38 ?_
        refine lv_bipush (v := 8) hx hb dX12_walk_41 (by decide) ?_
        refine S_iald hx hb hK hW kd_110 (vin (by decide) (by decide)) dX12_walk_43 (fun y_35 ey_35 => ?_)
        have fr_36 : Fr [] [] G G_29 := (Fr.call9 (rs := []) (fs := []) (Fr.call9 (rs := []) (fs := []) (Fr.call9 (rs := []) (fs := []) Fr.rf hq_3 rfl rfl) hq_16 rfl rfl) hq_30 rfl rfl)
        have g_37 : gP G_29 = gP G := gP_fr fr_36 (gr_q rfl) (gf_q rfl)
        refine S_callv (va_runV (As := [.int p0, .int p1, .int y_35]) (rest := []) ⟨hx, hb, hml, hown, hts⟩ (n_layStreet l D k A a z G_29 p0 p1 y_35 ⟨by omega, by omega⟩ ⟨by omega, by omega⟩ (by omega)) (cwV 3 hts (gd_V hgd m1834 m1836 m91 m131 m1837) rfl rfl rfl hd_X12_layStreet ⟨Nat.le_of_ble_eq_true rfl, Nat.le_of_ble_eq_true rfl⟩) (pre_V hW hB_G_29 hK hZ hS kd_66 rfl) rfl rfl hl.1 rfl (lv_room (Nat.le_of_ble_eq_true rfl)) dX12_walk_44 ⟨Nat.le_of_ble_eq_true rfl, Nat.le_of_ble_eq_true rfl⟩) hS (fun G_39 H locs hpo hW hS => ?_)
        have hX_42 : Q_layStreet p0 p1 y_35 G_29 G_39 := hpo
        obtain ⟨hB_G_39, hq_40, hp_41, -⟩ := hpo
        have hF := hF.call9 hq_40 rfl rfl
        refine lv_aload_n hx hb dX12_walk_47 rfl (lv_at hl 0 rfl) ?_
        refine lv_iload_n hx hb dX12_walk_48 rfl (lv_at hl 3 rfl) ?_
        have b_43 : 0 ≤ (G_39.1 66 59).toInt ∧ (G_39.1 66 59).toInt ≤ 400 := bd_66_59 hB_G_39
        have b_44 : 0 ≤ (G_39.1 66 60).toInt ∧ (G_39.1 66 60).toInt ≤ 12 := bd_66_60 hB_G_39
        refine S_calli (va_runV (As := [.int p2]) (rest := []) ⟨hx, hb, hml, hown, hts⟩ (n_stands1 l D k A a z G_39 p2 ) (cwV 1 hts (gd_V hgd m1838 m1840 m92 m131 m1841) rfl rfl rfl hd_X12_doesStand ⟨Nat.le_of_ble_eq_true rfl, Nat.le_of_ble_eq_true rfl⟩) (pre_V hW hB_G_39 hK hZ hS kd_66 rfl) rfl rfl hl.1 rfl (lv_room (Nat.le_of_ble_eq_true rfl)) dX12_walk_49 ⟨Nat.le_of_ble_eq_true rfl, Nat.le_of_ble_eq_true rfl⟩) hS (fun r_45 G_46 H locs hpo hW hS => ?_)
        have hX_49 : Q_stands1 p2 G_39 r_45 G_46 := hpo
        obtain ⟨hB_G_46, hq_47, f_50, hp_48, -⟩ := hpo
        have hF := hF.call9 hq_47 rfl rfl
        refine lv_if_ne (tgt := 57) hx hb dX12_walk_52 rfl (fun c_51 => ?_) (fun c_51 => ?_)
        · have c_51 : r_45.toInt ≠ 0 := xI_ne rfl rfl c_51
          refine lv_aload_n hx hb dX12_walk_57 rfl (lv_at hl 0 rfl) ?_
          refine S_callv (va_runV (As := []) (rest := []) ⟨hx, hb, hml, hown, hts⟩ (n_act l D k A a z G_46  ) (cwV 0 hts (gd_V hgd m1991 m1993 m111 m131 m1994) rfl rfl rfl hd_X12_act ⟨Nat.le_of_ble_eq_true rfl, Nat.le_of_ble_eq_true rfl⟩) (pre_V hW hB_G_46 hK hZ hS kd_66 rfl) rfl rfl hl.1 rfl (lv_room (Nat.le_of_ble_eq_true rfl)) dX12_walk_58 ⟨Nat.le_of_ble_eq_true rfl, Nat.le_of_ble_eq_true rfl⟩) hS (fun G_53 H locs hpo hW hS => ?_)
          have hX_56 : Q_act G_46 G_53 := hpo
          obtain ⟨hB_G_53, hq_54, hp_55, -⟩ := hpo
          have hF := hF.call9 hq_54 rfl rfl
          refine lv_aload_n hx hb dX12_walk_61 rfl (lv_at hl 0 rfl) ?_
          refine S_getR (n := 110) (C := RX12) (T := TX12) (N := 89) hx hb hg iX12 hown hK hW kd_66 rfl 76 (lt_b rfl) (hg (Cond.fieldLink RX12 151 "SlabWalkModel" "now" "[I") m1390) (fun _ h9 => h9) rfl dX12_walk_62 ?_
          refine ic_0 hx hb dX12_walk_65 ?_
          refine lv_iload_n hx hb dX12_walk_66 rfl (lv_at hl 1 rfl) ?_
          refine S_iast hx hb hK hW hS kd_110 (vin (by decide) (by decide)) dX12_walk_67 (fun G_57 H locs eG_57 hW hS => ?_)
          have qc_58 : (0 : Int32).toInt = 0 := rfl
          have hB_G_57 : Bd G_57 := hB_G_53.putNow 110 (by decide) eG_57 (by omega) (by omega) (by omega) rfl
          have hF := hF.put eG_57 (Or.inl (by decide))
          refine lv_aload_n hx hb dX12_walk_68 rfl (lv_at hl 0 rfl) ?_
          refine S_getR (n := 110) (C := RX12) (T := TX12) (N := 89) hx hb hg iX12 hown hK hW kd_66 rfl 76 (lt_b rfl) (hg (Cond.fieldLink RX12 151 "SlabWalkModel" "now" "[I") m1390) (fun _ h9 => h9) rfl dX12_walk_69 ?_
          refine ic_1 hx hb dX12_walk_72 ?_
          refine lv_iload_n hx hb dX12_walk_73 rfl (lv_at hl 2 rfl) ?_
          refine S_iast hx hb hK hW hS kd_110 (vin (by decide) (by decide)) dX12_walk_74 (fun G_59 H locs eG_59 hW hS => ?_)
          have qc_60 : (1 : Int32).toInt = 1 := rfl
          have hB_G_59 : Bd G_59 := hB_G_57.putNow 110 (by decide) eG_59 (by omega) (by omega) (by omega) rfl
          have hF := hF.put eG_59 (Or.inl (by decide))
          refine lv_aload_n hx hb dX12_walk_75 rfl (lv_at hl 0 rfl) ?_
          refine S_getR (n := 110) (C := RX12) (T := TX12) (N := 89) hx hb hg iX12 hown hK hW kd_66 rfl 76 (lt_b rfl) (hg (Cond.fieldLink RX12 151 "SlabWalkModel" "now" "[I") m1390) (fun _ h9 => h9) rfl dX12_walk_76 ?_
          refine ic_2 hx hb dX12_walk_79 ?_
          refine lv_iload_n hx hb dX12_walk_80 rfl (lv_at hl 3 rfl) ?_
          refine S_iast hx hb hK hW hS kd_110 (vin (by decide) (by decide)) dX12_walk_81 (fun G_61 H locs eG_61 hW hS => ?_)
          have qc_62 : (2 : Int32).toInt = 2 := rfl
          have hB_G_61 : Bd G_61 := hB_G_59.putNow 110 (by decide) eG_61 (by omega) (by omega) (by omega) rfl
          have hF := hF.put eG_61 (Or.inl (by decide))
          refine lv_aload_n hx hb dX12_walk_82 rfl (lv_at hl 0 rfl) ?_
          refine S_getR (n := 110) (C := RX12) (T := TX12) (N := 89) hx hb hg iX12 hown hK hW kd_66 rfl 76 (lt_b rfl) (hg (Cond.fieldLink RX12 151 "SlabWalkModel" "now" "[I") m1390) (fun _ h9 => h9) rfl dX12_walk_83 ?_
          refine ic_3 hx hb dX12_walk_86 ?_
          refine ic_1 hx hb dX12_walk_87 ?_
          refine S_iast hx hb hK hW hS kd_110 (vin (by decide) (by decide)) dX12_walk_88 (fun G_63 H locs eG_63 hW hS => ?_)
          have qc_64 : (1 : Int32).toInt = 1 := rfl
          have qc_65 : (3 : Int32).toInt = 3 := rfl
          have hB_G_63 : Bd G_63 := hB_G_61.putNow 110 (by decide) eG_63 (by omega) (by omega) (by omega) rfl
          have hF := hF.put eG_63 (Or.inl (by decide))
          refine lv_aload_n hx hb dX12_walk_89 rfl (lv_at hl 0 rfl) ?_
          refine S_getR (n := 110) (C := RX12) (T := TX12) (N := 89) hx hb hg iX12 hown hK hW kd_66 rfl 76 (lt_b rfl) (hg (Cond.fieldLink RX12 151 "SlabWalkModel" "now" "[I") m1390) (fun _ h9 => h9) rfl dX12_walk_90 ?_
          refine ic_4 hx hb dX12_walk_93 ?_
          refine lv_aload_n hx hb dX12_walk_94 rfl (lv_at hl 0 rfl) ?_
          refine lv_iload_n hx hb dX12_walk_95 rfl (lv_at hl 3 rfl) ?_
          refine S_calli (va_runV (As := [.int p2]) (rest := [.int 4, .ref (a 110)]) ⟨hx, hb, hml, hown, hts⟩ (n_stands l D k A a z G_63 p2 ⟨by omega, by omega⟩) (cwV 1 hts (gd_V hgd m1995 m1997 m112 m131 m1998) rfl rfl rfl hd_X12_stands ⟨Nat.le_of_ble_eq_true rfl, Nat.le_of_ble_eq_true rfl⟩) (pre_V hW hB_G_63 hK hZ hS kd_66 rfl) rfl rfl hl.1 rfl (lv_room (Nat.le_of_ble_eq_true rfl)) dX12_walk_96 ⟨Nat.le_of_ble_eq_true rfl, Nat.le_of_ble_eq_true rfl⟩) hS (fun r_66 G_67 H locs hpo hW hS => ?_)
          have hX_70 : Q_stands p2 G_63 r_66 G_67 := hpo
          obtain ⟨hB_G_67, hq_68, f_71, -⟩ := hpo
          have hF := hF.call9 hq_68 rfl rfl
          refine S_iast hx hb hK hW hS kd_110 (vin (by decide) (by decide)) dX12_walk_99 (fun G_72 H locs eG_72 hW hS => ?_)
          have qc_73 : (4 : Int32).toInt = 4 := rfl
          have hB_G_72 : Bd G_72 := hB_G_67.putNow 110 (by decide) eG_72 (by omega) (by omega) (by omega) rfl
          have hF := hF.put eG_72 (Or.inl (by decide))
          refine lv_aload_n hx hb dX12_walk_100 rfl (lv_at hl 0 rfl) ?_
          refine S_getR (n := 110) (C := RX12) (T := TX12) (N := 89) hx hb hg iX12 hown hK hW kd_66 rfl 76 (lt_b rfl) (hg (Cond.fieldLink RX12 151 "SlabWalkModel" "now" "[I") m1390) (fun _ h9 => h9) rfl dX12_walk_101 ?_
          refine ic_5 hx hb dX12_walk_104 ?_
          refine ic_0 hx hb dX12_walk_105 ?_
          refine S_iast hx hb hK hW hS kd_110 (vin (by decide) (by decide)) dX12_walk_106 (fun G_74 H locs eG_74 hW hS => ?_)
          have qc_75 : (0 : Int32).toInt = 0 := rfl
          have qc_76 : (5 : Int32).toInt = 5 := rfl
          have hB_G_74 : Bd G_74 := hB_G_72.putNow 110 (by decide) eG_74 (by omega) (by omega) (by omega) rfl
          have hF := hF.put eG_74 (Or.inl (by decide))
          refine lv_aload_n hx hb dX12_walk_107 rfl (lv_at hl 0 rfl) ?_
          refine S_getR (n := 110) (C := RX12) (T := TX12) (N := 89) hx hb hg iX12 hown hK hW kd_66 rfl 76 (lt_b rfl) (hg (Cond.fieldLink RX12 151 "SlabWalkModel" "now" "[I") m1390) (fun _ h9 => h9) rfl dX12_walk_108 ?_
          refine ic_4 hx hb dX12_walk_111 ?_
          refine S_iald hx hb hK hW kd_110 (vin (by decide) (by decide)) dX12_walk_112 (fun y_77 ey_77 => ?_)
          have b_78 : 0 ≤ (G_53.1 66 78).toInt ∧ (G_53.1 66 78).toInt ≤ 40 := bd_66_78 hB_G_53
          have g_79 : (G_74.1 66 78).toInt = (G_53.1 66 78).toInt := (congrArg Int32.toInt (show G_74.1 66 78 = (G_53.1 66 78) from ((gp_ne eG_74 (fun q => absurd q.1 (Nat.ne_of_beq_eq_false rfl))).trans ((gp_ne eG_72 (fun q => absurd q.1 (Nat.ne_of_beq_eq_false rfl))).trans ((hq_68.i9 66 78 rfl rfl).trans ((gp_ne eG_63 (fun q => absurd q.1 (Nat.ne_of_beq_eq_false rfl))).trans ((gp_ne eG_61 (fun q => absurd q.1 (Nat.ne_of_beq_eq_false rfl))).trans ((gp_ne eG_59 (fun q => absurd q.1 (Nat.ne_of_beq_eq_false rfl))).trans (gp_ne eG_57 (fun q => absurd q.1 (Nat.ne_of_beq_eq_false rfl)))))))))))
          have b_80 : 0 ≤ (G_53.1 66 79).toInt ∧ (G_53.1 66 79).toInt ≤ 40 := bd_66_79 hB_G_53
          have g_81 : (G_74.1 66 79).toInt = (G_53.1 66 79).toInt := (congrArg Int32.toInt (show G_74.1 66 79 = (G_53.1 66 79) from ((gp_ne eG_74 (fun q => absurd q.1 (Nat.ne_of_beq_eq_false rfl))).trans ((gp_ne eG_72 (fun q => absurd q.1 (Nat.ne_of_beq_eq_false rfl))).trans ((hq_68.i9 66 79 rfl rfl).trans ((gp_ne eG_63 (fun q => absurd q.1 (Nat.ne_of_beq_eq_false rfl))).trans ((gp_ne eG_61 (fun q => absurd q.1 (Nat.ne_of_beq_eq_false rfl))).trans ((gp_ne eG_59 (fun q => absurd q.1 (Nat.ne_of_beq_eq_false rfl))).trans (gp_ne eG_57 (fun q => absurd q.1 (Nat.ne_of_beq_eq_false rfl)))))))))))
          exact W.iret (v := y_77) hx hb hr (fun t ht _ => ⟨⟨y_77, G_74, rfl, (Q_walk_mk ⟨hB_G_74, hF, (by omega), ⟨r_1, G_2, hX_5, (Or.inr ⟨c_7, ⟨r_14, G_15, hX_18, (Or.inr ⟨c_20, ⟨y_25, ey_25, ⟨y_26, ty_26, ⟨r_28, G_29, hX_32, (Or.inr ⟨c_34, ⟨y_35, ey_35, ⟨G_39, hX_42, ⟨r_45, G_46, hX_49, (Or.inr ⟨c_51, ⟨G_53, hX_56, ⟨G_63, hB_G_63, (Fr.put (rs := [110]) (fs := []) (Fr.put (rs := [110]) (fs := []) (Fr.put (rs := [110]) (fs := []) (Fr.put (rs := [110]) (fs := []) Fr.rf eG_57 (Or.inl (by decide))) eG_59 (Or.inl (by decide))) eG_61 (Or.inl (by decide))) eG_63 (Or.inl (by decide))), (rw_ast eG_63).trans (congrArg (fun q => upd q ((3 : Int32).toNatClampNeg) 1) ((rw_ast eG_61).trans (congrArg (fun q => upd q ((2 : Int32).toNatClampNeg) p2) ((rw_ast eG_59).trans (congrArg (fun q => upd q ((1 : Int32).toNatClampNeg) p1) (rw_ast eG_57)))))), ⟨r_66, G_67, hX_70, ⟨y_77, ey_77.trans (congrFun ((rw_ast eG_74).trans (congrArg (fun q => upd q ((5 : Int32).toNatClampNeg) 0) (rw_ast eG_72))) _), ⟨rfl, (Fr.put (rs := [110]) (fs := []) (Fr.put (rs := [110]) (fs := []) Fr.rf eG_72 (Or.inl (by decide))) eG_74 (Or.inl (by decide))), (rw_ast eG_74).trans (congrArg (fun q => upd q ((5 : Int32).toNatClampNeg) 0) (rw_ast eG_72))⟩⟩⟩⟩⟩⟩)⟩⟩⟩⟩)⟩⟩⟩⟩)⟩⟩)⟩⟩), wd_t ht hW⟩, hS.F ht⟩) hS.2.2 dX12_walk_113
        · have c_51 : r_45.toInt = 0 := xI_eq rfl rfl c_51
          refine ic_m1 hx hb dX12_walk_55 ?_
          have b_82 : 0 ≤ (G.1 66 78).toInt ∧ (G.1 66 78).toInt ≤ 40 := bd_66_78 hB_G
          have g_83 : (G_46.1 66 78).toInt = (G.1 66 78).toInt := (congrArg Int32.toInt (show G_46.1 66 78 = (G.1 66 78) from ((hq_47.i9 66 78 rfl rfl).trans ((hq_40.i9 66 78 rfl rfl).trans ((hq_30.i9 66 78 rfl rfl).trans ((hq_16.i9 66 78 rfl rfl).trans (hq_3.i9 66 78 rfl rfl)))))))
          have b_84 : 0 ≤ (G.1 66 79).toInt ∧ (G.1 66 79).toInt ≤ 40 := bd_66_79 hB_G
          have g_85 : (G_46.1 66 79).toInt = (G.1 66 79).toInt := (congrArg Int32.toInt (show G_46.1 66 79 = (G.1 66 79) from ((hq_47.i9 66 79 rfl rfl).trans ((hq_40.i9 66 79 rfl rfl).trans ((hq_30.i9 66 79 rfl rfl).trans ((hq_16.i9 66 79 rfl rfl).trans (hq_3.i9 66 79 rfl rfl)))))))
          exact W.iret (v := (-1)) hx hb hr (fun t ht _ => ⟨⟨(-1), G_46, rfl, (Q_walk_mk ⟨hB_G_46, hF, (by have hq : ((-1) : Int32).toInt = (-1) := rfl; (try dsimp only); omega), ⟨r_1, G_2, hX_5, (Or.inr ⟨c_7, ⟨r_14, G_15, hX_18, (Or.inr ⟨c_20, ⟨y_25, ey_25, ⟨y_26, ty_26, ⟨r_28, G_29, hX_32, (Or.inr ⟨c_34, ⟨y_35, ey_35, ⟨G_39, hX_42, ⟨r_45, G_46, hX_49, (Or.inl ⟨c_51, ⟨rfl, rfl⟩⟩)⟩⟩⟩⟩)⟩⟩⟩⟩)⟩⟩)⟩⟩), wd_t ht hW⟩, hS.F ht⟩) hS.2.2 dX12_walk_56
      · have c_34 : r_28.toInt = 0 := xI_eq rfl rfl c_34
        refine ic_m1 hx hb dX12_walk_32 ?_
        have b_86 : 0 ≤ (G.1 66 78).toInt ∧ (G.1 66 78).toInt ≤ 40 := bd_66_78 hB_G
        have g_87 : (G_29.1 66 78).toInt = (G.1 66 78).toInt := (congrArg Int32.toInt (show G_29.1 66 78 = (G.1 66 78) from ((hq_30.i9 66 78 rfl rfl).trans ((hq_16.i9 66 78 rfl rfl).trans (hq_3.i9 66 78 rfl rfl)))))
        have b_88 : 0 ≤ (G.1 66 79).toInt ∧ (G.1 66 79).toInt ≤ 40 := bd_66_79 hB_G
        have g_89 : (G_29.1 66 79).toInt = (G.1 66 79).toInt := (congrArg Int32.toInt (show G_29.1 66 79 = (G.1 66 79) from ((hq_30.i9 66 79 rfl rfl).trans ((hq_16.i9 66 79 rfl rfl).trans (hq_3.i9 66 79 rfl rfl)))))
        exact W.iret (v := (-1)) hx hb hr (fun t ht _ => ⟨⟨(-1), G_29, rfl, (Q_walk_mk ⟨hB_G_29, hF, (by have hq : ((-1) : Int32).toInt = (-1) := rfl; (try dsimp only); omega), ⟨r_1, G_2, hX_5, (Or.inr ⟨c_7, ⟨r_14, G_15, hX_18, (Or.inr ⟨c_20, ⟨y_25, ey_25, ⟨y_26, ty_26, ⟨r_28, G_29, hX_32, (Or.inl ⟨c_34, ⟨rfl, rfl⟩⟩)⟩⟩⟩⟩)⟩⟩)⟩⟩), wd_t ht hW⟩, hS.F ht⟩) hS.2.2 dX12_walk_33
