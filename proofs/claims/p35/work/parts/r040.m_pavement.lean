theorem m49 : Cond.selects RX12 yX12_readAll yX12_readAll ∈ gd := gd_mem 49 (by decide +kernel) (by decide +kernel)
theorem m1598 : Cond.methodLink RX12 422 yX12_readAll ∈ gd := gd_mem 1598 (by decide +kernel) (by decide +kernel)
theorem m1600 : Cond.instanceMethod yX12_readAll ∈ gd := gd_mem 1600 (by decide +kernel) (by decide +kernel)
theorem m1601 : Cond.code yX12_readAll cX12_readAll 1 none ∈ gd := gd_mem 1601 (by decide +kernel) (by decide +kernel)
theorem dX12_pavement_0 : decode cX12_pavement 0 = .ok (.aload_n 0, 1) := by decide +kernel
theorem dX12_pavement_1 : decode cX12_pavement 1 = .ok (.invokevirtual 422, 3) := by decide +kernel
theorem dX12_pavement_4 : decode cX12_pavement 4 = .ok (.aload_n 0, 1) := by decide +kernel
theorem dX12_pavement_5 : decode cX12_pavement 5 = .ok (.getfield 218, 3) := by decide +kernel
theorem dX12_pavement_8 : decode cX12_pavement 8 = .ok (.ifCond .le 5, 3) := by decide +kernel
theorem dX12_pavement_11 : decode cX12_pavement 11 = .ok (.iconst (-1), 1) := by decide +kernel
theorem dX12_pavement_12 : decode cX12_pavement 12 = .ok (.ireturn, 1) := by decide +kernel
theorem dX12_pavement_13 : decode cX12_pavement 13 = .ok (.aload_n 0, 1) := by decide +kernel
theorem dX12_pavement_14 : decode cX12_pavement 14 = .ok (.aload_n 0, 1) := by decide +kernel
theorem dX12_pavement_15 : decode cX12_pavement 15 = .ok (.getfield 359, 3) := by decide +kernel
theorem dX12_pavement_18 : decode cX12_pavement 18 = .ok (.putfield 425, 3) := by decide +kernel
theorem dX12_pavement_21 : decode cX12_pavement 21 = .ok (.aload_n 0, 1) := by decide +kernel
theorem dX12_pavement_22 : decode cX12_pavement 22 = .ok (.aload_n 0, 1) := by decide +kernel
theorem dX12_pavement_23 : decode cX12_pavement 23 = .ok (.getfield 379, 3) := by decide +kernel
theorem dX12_pavement_26 : decode cX12_pavement 26 = .ok (.putfield 428, 3) := by decide +kernel
theorem dX12_pavement_29 : decode cX12_pavement 29 = .ok (.aload_n 0, 1) := by decide +kernel
theorem dX12_pavement_30 : decode cX12_pavement 30 = .ok (.aload_n 0, 1) := by decide +kernel
theorem dX12_pavement_31 : decode cX12_pavement 31 = .ok (.getfield 385, 3) := by decide +kernel
theorem dX12_pavement_34 : decode cX12_pavement 34 = .ok (.putfield 431, 3) := by decide +kernel
theorem dX12_pavement_37 : decode cX12_pavement 37 = .ok (.aload_n 0, 1) := by decide +kernel
theorem dX12_pavement_38 : decode cX12_pavement 38 = .ok (.aload_n 0, 1) := by decide +kernel
theorem dX12_pavement_39 : decode cX12_pavement 39 = .ok (.getfield 410, 3) := by decide +kernel
theorem dX12_pavement_42 : decode cX12_pavement 42 = .ok (.putfield 105, 3) := by decide +kernel
theorem dX12_pavement_45 : decode cX12_pavement 45 = .ok (.aload_n 0, 1) := by decide +kernel
theorem dX12_pavement_46 : decode cX12_pavement 46 = .ok (.aload_n 0, 1) := by decide +kernel
theorem dX12_pavement_47 : decode cX12_pavement 47 = .ok (.getfield 413, 3) := by decide +kernel
theorem dX12_pavement_50 : decode cX12_pavement 50 = .ok (.putfield 108, 3) := by decide +kernel
theorem dX12_pavement_53 : decode cX12_pavement 53 = .ok (.aload_n 0, 1) := by decide +kernel
theorem dX12_pavement_54 : decode cX12_pavement 54 = .ok (.aload_n 0, 1) := by decide +kernel
theorem dX12_pavement_55 : decode cX12_pavement 55 = .ok (.getfield 312, 3) := by decide +kernel
theorem dX12_pavement_58 : decode cX12_pavement 58 = .ok (.putfield 434, 3) := by decide +kernel
theorem dX12_pavement_61 : decode cX12_pavement 61 = .ok (.iconst 0, 1) := by decide +kernel
theorem dX12_pavement_62 : decode cX12_pavement 62 = .ok (.istore_n 1, 1) := by decide +kernel
theorem dX12_pavement_63 : decode cX12_pavement 63 = .ok (.iload_n 1, 1) := by decide +kernel
theorem dX12_pavement_64 : decode cX12_pavement 64 = .ok (.iconst 3, 1) := by decide +kernel
theorem dX12_pavement_65 : decode cX12_pavement 65 = .ok (.if_icmp .ge 21, 3) := by decide +kernel
theorem dX12_pavement_68 : decode cX12_pavement 68 = .ok (.aload_n 0, 1) := by decide +kernel
theorem dX12_pavement_69 : decode cX12_pavement 69 = .ok (.getfield 102, 3) := by decide +kernel
theorem dX12_pavement_72 : decode cX12_pavement 72 = .ok (.iload_n 1, 1) := by decide +kernel
theorem dX12_pavement_73 : decode cX12_pavement 73 = .ok (.aload_n 0, 1) := by decide +kernel
theorem dX12_pavement_74 : decode cX12_pavement 74 = .ok (.getfield 72, 3) := by decide +kernel
theorem dX12_pavement_77 : decode cX12_pavement 77 = .ok (.iload_n 1, 1) := by decide +kernel
theorem dX12_pavement_78 : decode cX12_pavement 78 = .ok (.iaload, 1) := by decide +kernel
theorem dX12_pavement_79 : decode cX12_pavement 79 = .ok (.iastore, 1) := by decide +kernel
theorem dX12_pavement_80 : decode cX12_pavement 80 = .ok (.iinc 1 1, 3) := by decide +kernel
theorem dX12_pavement_83 : decode cX12_pavement 83 = .ok (.goto (-20), 3) := by decide +kernel
theorem dX12_pavement_86 : decode cX12_pavement 86 = .ok (.iconst 0, 1) := by decide +kernel
theorem dX12_pavement_87 : decode cX12_pavement 87 = .ok (.istore_n 1, 1) := by decide +kernel
theorem dX12_pavement_88 : decode cX12_pavement 88 = .ok (.iload_n 1, 1) := by decide +kernel
theorem dX12_pavement_89 : decode cX12_pavement 89 = .ok (.aload_n 0, 1) := by decide +kernel
theorem dX12_pavement_90 : decode cX12_pavement 90 = .ok (.getfield 431, 3) := by decide +kernel
theorem dX12_pavement_93 : decode cX12_pavement 93 = .ok (.if_icmp .ge 73, 3) := by decide +kernel
theorem dX12_pavement_96 : decode cX12_pavement 96 = .ok (.aload_n 0, 1) := by decide +kernel
theorem dX12_pavement_97 : decode cX12_pavement 97 = .ok (.getfield 36, 3) := by decide +kernel
theorem dX12_pavement_100 : decode cX12_pavement 100 = .ok (.iload_n 1, 1) := by decide +kernel
theorem dX12_pavement_101 : decode cX12_pavement 101 = .ok (.aload_n 0, 1) := by decide +kernel
theorem dX12_pavement_102 : decode cX12_pavement 102 = .ok (.getfield 27, 3) := by decide +kernel
theorem dX12_pavement_105 : decode cX12_pavement 105 = .ok (.iload_n 1, 1) := by decide +kernel
theorem dX12_pavement_106 : decode cX12_pavement 106 = .ok (.iaload, 1) := by decide +kernel
theorem dX12_pavement_107 : decode cX12_pavement 107 = .ok (.iastore, 1) := by decide +kernel
theorem dX12_pavement_108 : decode cX12_pavement 108 = .ok (.sipush 320, 3) := by decide +kernel
theorem dX12_pavement_111 : decode cX12_pavement 111 = .ok (.iload_n 1, 1) := by decide +kernel
theorem dX12_pavement_112 : decode cX12_pavement 112 = .ok (.imul, 1) := by decide +kernel
theorem dX12_pavement_113 : decode cX12_pavement 113 = .ok (.istore_n 2, 1) := by decide +kernel
theorem dX12_pavement_114 : decode cX12_pavement 114 = .ok (.iload_n 2, 1) := by decide +kernel
theorem dX12_pavement_115 : decode cX12_pavement 115 = .ok (.sipush 320, 3) := by decide +kernel
theorem dX12_pavement_118 : decode cX12_pavement 118 = .ok (.iload_n 1, 1) := by decide +kernel
theorem dX12_pavement_119 : decode cX12_pavement 119 = .ok (.imul, 1) := by decide +kernel
theorem dX12_pavement_120 : decode cX12_pavement 120 = .ok (.aload_n 0, 1) := by decide +kernel
theorem dX12_pavement_121 : decode cX12_pavement 121 = .ok (.getfield 36, 3) := by decide +kernel
theorem dX12_pavement_124 : decode cX12_pavement 124 = .ok (.iload_n 1, 1) := by decide +kernel
theorem dX12_pavement_125 : decode cX12_pavement 125 = .ok (.iaload, 1) := by decide +kernel
theorem dX12_pavement_126 : decode cX12_pavement 126 = .ok (.iadd, 1) := by decide +kernel
theorem dX12_pavement_127 : decode cX12_pavement 127 = .ok (.if_icmp .ge 33, 3) := by decide +kernel
theorem dX12_pavement_130 : decode cX12_pavement 130 = .ok (.aload_n 0, 1) := by decide +kernel
theorem dX12_pavement_131 : decode cX12_pavement 131 = .ok (.getfield 30, 3) := by decide +kernel
theorem dX12_pavement_134 : decode cX12_pavement 134 = .ok (.iload_n 2, 1) := by decide +kernel
theorem dX12_pavement_135 : decode cX12_pavement 135 = .ok (.aload_n 0, 1) := by decide +kernel
theorem dX12_pavement_136 : decode cX12_pavement 136 = .ok (.getfield 21, 3) := by decide +kernel
theorem dX12_pavement_139 : decode cX12_pavement 139 = .ok (.iload_n 2, 1) := by decide +kernel
theorem dX12_pavement_140 : decode cX12_pavement 140 = .ok (.iaload, 1) := by decide +kernel
theorem dX12_pavement_141 : decode cX12_pavement 141 = .ok (.iastore, 1) := by decide +kernel
theorem dX12_pavement_142 : decode cX12_pavement 142 = .ok (.aload_n 0, 1) := by decide +kernel
theorem dX12_pavement_143 : decode cX12_pavement 143 = .ok (.getfield 33, 3) := by decide +kernel
theorem dX12_pavement_146 : decode cX12_pavement 146 = .ok (.iload_n 2, 1) := by decide +kernel
theorem dX12_pavement_147 : decode cX12_pavement 147 = .ok (.aload_n 0, 1) := by decide +kernel
theorem dX12_pavement_148 : decode cX12_pavement 148 = .ok (.getfield 24, 3) := by decide +kernel
theorem dX12_pavement_151 : decode cX12_pavement 151 = .ok (.iload_n 2, 1) := by decide +kernel
theorem dX12_pavement_152 : decode cX12_pavement 152 = .ok (.iaload, 1) := by decide +kernel
theorem dX12_pavement_153 : decode cX12_pavement 153 = .ok (.iastore, 1) := by decide +kernel
theorem dX12_pavement_154 : decode cX12_pavement 154 = .ok (.iinc 2 1, 3) := by decide +kernel
theorem dX12_pavement_157 : decode cX12_pavement 157 = .ok (.goto (-43), 3) := by decide +kernel
theorem dX12_pavement_160 : decode cX12_pavement 160 = .ok (.iinc 1 1, 3) := by decide +kernel
theorem dX12_pavement_163 : decode cX12_pavement 163 = .ok (.goto (-75), 3) := by decide +kernel
theorem dX12_pavement_166 : decode cX12_pavement 166 = .ok (.iconst 0, 1) := by decide +kernel
theorem dX12_pavement_167 : decode cX12_pavement 167 = .ok (.istore_n 1, 1) := by decide +kernel
theorem dX12_pavement_168 : decode cX12_pavement 168 = .ok (.iload_n 1, 1) := by decide +kernel
theorem dX12_pavement_169 : decode cX12_pavement 169 = .ok (.aload_n 0, 1) := by decide +kernel
theorem dX12_pavement_170 : decode cX12_pavement 170 = .ok (.getfield 425, 3) := by decide +kernel
theorem dX12_pavement_173 : decode cX12_pavement 173 = .ok (.if_icmp .ge 97, 3) := by decide +kernel
theorem dX12_pavement_176 : decode cX12_pavement 176 = .ok (.aload_n 0, 1) := by decide +kernel
theorem dX12_pavement_177 : decode cX12_pavement 177 = .ok (.getfield 87, 3) := by decide +kernel
theorem dX12_pavement_180 : decode cX12_pavement 180 = .ok (.iload_n 1, 1) := by decide +kernel
theorem dX12_pavement_181 : decode cX12_pavement 181 = .ok (.aload_n 0, 1) := by decide +kernel
theorem dX12_pavement_182 : decode cX12_pavement 182 = .ok (.getfield 57, 3) := by decide +kernel
theorem dX12_pavement_185 : decode cX12_pavement 185 = .ok (.iload_n 1, 1) := by decide +kernel
theorem dX12_pavement_186 : decode cX12_pavement 186 = .ok (.iaload, 1) := by decide +kernel
theorem dX12_pavement_187 : decode cX12_pavement 187 = .ok (.iastore, 1) := by decide +kernel
theorem dX12_pavement_188 : decode cX12_pavement 188 = .ok (.sipush 400, 3) := by decide +kernel
theorem dX12_pavement_191 : decode cX12_pavement 191 = .ok (.iload_n 1, 1) := by decide +kernel
theorem dX12_pavement_192 : decode cX12_pavement 192 = .ok (.imul, 1) := by decide +kernel
theorem dX12_pavement_193 : decode cX12_pavement 193 = .ok (.istore_n 2, 1) := by decide +kernel
theorem dX12_pavement_194 : decode cX12_pavement 194 = .ok (.iload_n 2, 1) := by decide +kernel
theorem dX12_pavement_195 : decode cX12_pavement 195 = .ok (.sipush 400, 3) := by decide +kernel
theorem dX12_pavement_198 : decode cX12_pavement 198 = .ok (.iload_n 1, 1) := by decide +kernel
theorem dX12_pavement_199 : decode cX12_pavement 199 = .ok (.imul, 1) := by decide +kernel
theorem dX12_pavement_200 : decode cX12_pavement 200 = .ok (.aload_n 0, 1) := by decide +kernel
theorem dX12_pavement_201 : decode cX12_pavement 201 = .ok (.getfield 87, 3) := by decide +kernel
theorem dX12_pavement_204 : decode cX12_pavement 204 = .ok (.iload_n 1, 1) := by decide +kernel
theorem dX12_pavement_205 : decode cX12_pavement 205 = .ok (.iaload, 1) := by decide +kernel
theorem dX12_pavement_206 : decode cX12_pavement 206 = .ok (.iadd, 1) := by decide +kernel
theorem dX12_pavement_207 : decode cX12_pavement 207 = .ok (.if_icmp .ge 57, 3) := by decide +kernel
theorem dX12_pavement_210 : decode cX12_pavement 210 = .ok (.aload_n 0, 1) := by decide +kernel
theorem dX12_pavement_211 : decode cX12_pavement 211 = .ok (.getfield 75, 3) := by decide +kernel
theorem dX12_pavement_214 : decode cX12_pavement 214 = .ok (.iload_n 2, 1) := by decide +kernel
theorem dX12_pavement_215 : decode cX12_pavement 215 = .ok (.aload_n 0, 1) := by decide +kernel
theorem dX12_pavement_216 : decode cX12_pavement 216 = .ok (.getfield 45, 3) := by decide +kernel
theorem dX12_pavement_219 : decode cX12_pavement 219 = .ok (.iload_n 2, 1) := by decide +kernel
theorem dX12_pavement_220 : decode cX12_pavement 220 = .ok (.iaload, 1) := by decide +kernel
theorem dX12_pavement_221 : decode cX12_pavement 221 = .ok (.iastore, 1) := by decide +kernel
theorem dX12_pavement_222 : decode cX12_pavement 222 = .ok (.aload_n 0, 1) := by decide +kernel
theorem dX12_pavement_223 : decode cX12_pavement 223 = .ok (.getfield 78, 3) := by decide +kernel
theorem dX12_pavement_226 : decode cX12_pavement 226 = .ok (.iload_n 2, 1) := by decide +kernel
theorem dX12_pavement_227 : decode cX12_pavement 227 = .ok (.aload_n 0, 1) := by decide +kernel
theorem dX12_pavement_228 : decode cX12_pavement 228 = .ok (.getfield 48, 3) := by decide +kernel
theorem dX12_pavement_231 : decode cX12_pavement 231 = .ok (.iload_n 2, 1) := by decide +kernel
theorem dX12_pavement_232 : decode cX12_pavement 232 = .ok (.iaload, 1) := by decide +kernel
theorem dX12_pavement_233 : decode cX12_pavement 233 = .ok (.iastore, 1) := by decide +kernel
theorem dX12_pavement_234 : decode cX12_pavement 234 = .ok (.aload_n 0, 1) := by decide +kernel
theorem dX12_pavement_235 : decode cX12_pavement 235 = .ok (.getfield 81, 3) := by decide +kernel
theorem dX12_pavement_238 : decode cX12_pavement 238 = .ok (.iload_n 2, 1) := by decide +kernel
theorem dX12_pavement_239 : decode cX12_pavement 239 = .ok (.aload_n 0, 1) := by decide +kernel
theorem dX12_pavement_240 : decode cX12_pavement 240 = .ok (.getfield 51, 3) := by decide +kernel
theorem dX12_pavement_243 : decode cX12_pavement 243 = .ok (.iload_n 2, 1) := by decide +kernel
theorem dX12_pavement_244 : decode cX12_pavement 244 = .ok (.iaload, 1) := by decide +kernel
theorem dX12_pavement_245 : decode cX12_pavement 245 = .ok (.iastore, 1) := by decide +kernel
theorem dX12_pavement_246 : decode cX12_pavement 246 = .ok (.aload_n 0, 1) := by decide +kernel
theorem dX12_pavement_247 : decode cX12_pavement 247 = .ok (.getfield 84, 3) := by decide +kernel
theorem dX12_pavement_250 : decode cX12_pavement 250 = .ok (.iload_n 2, 1) := by decide +kernel
theorem dX12_pavement_251 : decode cX12_pavement 251 = .ok (.aload_n 0, 1) := by decide +kernel
theorem dX12_pavement_252 : decode cX12_pavement 252 = .ok (.getfield 54, 3) := by decide +kernel
theorem dX12_pavement_255 : decode cX12_pavement 255 = .ok (.iload_n 2, 1) := by decide +kernel
theorem dX12_pavement_256 : decode cX12_pavement 256 = .ok (.iaload, 1) := by decide +kernel
theorem dX12_pavement_257 : decode cX12_pavement 257 = .ok (.iastore, 1) := by decide +kernel
theorem dX12_pavement_258 : decode cX12_pavement 258 = .ok (.iinc 2 1, 3) := by decide +kernel
theorem dX12_pavement_261 : decode cX12_pavement 261 = .ok (.goto (-67), 3) := by decide +kernel
theorem dX12_pavement_264 : decode cX12_pavement 264 = .ok (.iinc 1 1, 3) := by decide +kernel
theorem dX12_pavement_267 : decode cX12_pavement 267 = .ok (.goto (-99), 3) := by decide +kernel
theorem dX12_pavement_270 : decode cX12_pavement 270 = .ok (.iconst 0, 1) := by decide +kernel
theorem dX12_pavement_271 : decode cX12_pavement 271 = .ok (.istore_n 1, 1) := by decide +kernel
theorem dX12_pavement_272 : decode cX12_pavement 272 = .ok (.iload_n 1, 1) := by decide +kernel
theorem dX12_pavement_273 : decode cX12_pavement 273 = .ok (.aload_n 0, 1) := by decide +kernel
theorem dX12_pavement_274 : decode cX12_pavement 274 = .ok (.getfield 428, 3) := by decide +kernel
theorem dX12_pavement_277 : decode cX12_pavement 277 = .ok (.if_icmp .ge 57, 3) := by decide +kernel
theorem dX12_pavement_280 : decode cX12_pavement 280 = .ok (.aload_n 0, 1) := by decide +kernel
theorem dX12_pavement_281 : decode cX12_pavement 281 = .ok (.getfield 90, 3) := by decide +kernel
theorem dX12_pavement_284 : decode cX12_pavement 284 = .ok (.iload_n 1, 1) := by decide +kernel
theorem dX12_pavement_285 : decode cX12_pavement 285 = .ok (.aload_n 0, 1) := by decide +kernel
theorem dX12_pavement_286 : decode cX12_pavement 286 = .ok (.getfield 60, 3) := by decide +kernel
theorem dX12_pavement_289 : decode cX12_pavement 289 = .ok (.iload_n 1, 1) := by decide +kernel
theorem dX12_pavement_290 : decode cX12_pavement 290 = .ok (.iaload, 1) := by decide +kernel
theorem dX12_pavement_291 : decode cX12_pavement 291 = .ok (.iastore, 1) := by decide +kernel
theorem dX12_pavement_292 : decode cX12_pavement 292 = .ok (.aload_n 0, 1) := by decide +kernel
theorem dX12_pavement_293 : decode cX12_pavement 293 = .ok (.getfield 93, 3) := by decide +kernel
theorem dX12_pavement_296 : decode cX12_pavement 296 = .ok (.iload_n 1, 1) := by decide +kernel
theorem dX12_pavement_297 : decode cX12_pavement 297 = .ok (.aload_n 0, 1) := by decide +kernel
theorem dX12_pavement_298 : decode cX12_pavement 298 = .ok (.getfield 63, 3) := by decide +kernel
theorem dX12_pavement_301 : decode cX12_pavement 301 = .ok (.iload_n 1, 1) := by decide +kernel
theorem dX12_pavement_302 : decode cX12_pavement 302 = .ok (.iaload, 1) := by decide +kernel
theorem dX12_pavement_303 : decode cX12_pavement 303 = .ok (.iastore, 1) := by decide +kernel
theorem dX12_pavement_304 : decode cX12_pavement 304 = .ok (.aload_n 0, 1) := by decide +kernel
theorem dX12_pavement_305 : decode cX12_pavement 305 = .ok (.getfield 96, 3) := by decide +kernel
theorem dX12_pavement_308 : decode cX12_pavement 308 = .ok (.iload_n 1, 1) := by decide +kernel
theorem dX12_pavement_309 : decode cX12_pavement 309 = .ok (.aload_n 0, 1) := by decide +kernel
theorem dX12_pavement_310 : decode cX12_pavement 310 = .ok (.getfield 66, 3) := by decide +kernel
theorem dX12_pavement_313 : decode cX12_pavement 313 = .ok (.iload_n 1, 1) := by decide +kernel
theorem dX12_pavement_314 : decode cX12_pavement 314 = .ok (.iaload, 1) := by decide +kernel
theorem dX12_pavement_315 : decode cX12_pavement 315 = .ok (.iastore, 1) := by decide +kernel
theorem dX12_pavement_316 : decode cX12_pavement 316 = .ok (.aload_n 0, 1) := by decide +kernel
theorem dX12_pavement_317 : decode cX12_pavement 317 = .ok (.getfield 99, 3) := by decide +kernel
theorem dX12_pavement_320 : decode cX12_pavement 320 = .ok (.iload_n 1, 1) := by decide +kernel
theorem dX12_pavement_321 : decode cX12_pavement 321 = .ok (.aload_n 0, 1) := by decide +kernel
theorem dX12_pavement_322 : decode cX12_pavement 322 = .ok (.getfield 69, 3) := by decide +kernel
theorem dX12_pavement_325 : decode cX12_pavement 325 = .ok (.iload_n 1, 1) := by decide +kernel
theorem dX12_pavement_326 : decode cX12_pavement 326 = .ok (.iaload, 1) := by decide +kernel
theorem dX12_pavement_327 : decode cX12_pavement 327 = .ok (.iastore, 1) := by decide +kernel
theorem dX12_pavement_328 : decode cX12_pavement 328 = .ok (.iinc 1 1, 3) := by decide +kernel
theorem dX12_pavement_331 : decode cX12_pavement 331 = .ok (.goto (-59), 3) := by decide +kernel
theorem dX12_pavement_334 : decode cX12_pavement 334 = .ok (.iconst 0, 1) := by decide +kernel
theorem dX12_pavement_335 : decode cX12_pavement 335 = .ok (.istore_n 1, 1) := by decide +kernel
theorem dX12_pavement_336 : decode cX12_pavement 336 = .ok (.iload_n 1, 1) := by decide +kernel
theorem dX12_pavement_337 : decode cX12_pavement 337 = .ok (.bipush 10, 2) := by decide +kernel
theorem dX12_pavement_339 : decode cX12_pavement 339 = .ok (.if_icmp .ge 16, 3) := by decide +kernel
theorem dX12_pavement_342 : decode cX12_pavement 342 = .ok (.aload_n 0, 1) := by decide +kernel
theorem dX12_pavement_343 : decode cX12_pavement 343 = .ok (.getfield 151, 3) := by decide +kernel
theorem dX12_pavement_346 : decode cX12_pavement 346 = .ok (.iload_n 1, 1) := by decide +kernel
theorem dX12_pavement_347 : decode cX12_pavement 347 = .ok (.iconst 0, 1) := by decide +kernel
theorem dX12_pavement_348 : decode cX12_pavement 348 = .ok (.iastore, 1) := by decide +kernel
theorem dX12_pavement_349 : decode cX12_pavement 349 = .ok (.iinc 1 1, 3) := by decide +kernel
theorem dX12_pavement_352 : decode cX12_pavement 352 = .ok (.goto (-16), 3) := by decide +kernel
theorem dX12_pavement_355 : decode cX12_pavement 355 = .ok (.aload_n 0, 1) := by decide +kernel
theorem dX12_pavement_356 : decode cX12_pavement 356 = .ok (.getfield 151, 3) := by decide +kernel
theorem dX12_pavement_359 : decode cX12_pavement 359 = .ok (.iconst 0, 1) := by decide +kernel
theorem dX12_pavement_360 : decode cX12_pavement 360 = .ok (.iconst (-1), 1) := by decide +kernel
theorem dX12_pavement_361 : decode cX12_pavement 361 = .ok (.iastore, 1) := by decide +kernel
theorem dX12_pavement_362 : decode cX12_pavement 362 = .ok (.aload_n 0, 1) := by decide +kernel
theorem dX12_pavement_363 : decode cX12_pavement 363 = .ok (.getfield 151, 3) := by decide +kernel
theorem dX12_pavement_366 : decode cX12_pavement 366 = .ok (.bipush 7, 2) := by decide +kernel
theorem dX12_pavement_368 : decode cX12_pavement 368 = .ok (.aload_n 0, 1) := by decide +kernel
theorem dX12_pavement_369 : decode cX12_pavement 369 = .ok (.getfield 416, 3) := by decide +kernel
theorem dX12_pavement_372 : decode cX12_pavement 372 = .ok (.iastore, 1) := by decide +kernel
theorem dX12_pavement_373 : decode cX12_pavement 373 = .ok (.aload_n 0, 1) := by decide +kernel
theorem dX12_pavement_374 : decode cX12_pavement 374 = .ok (.iconst 0, 1) := by decide +kernel
theorem dX12_pavement_375 : decode cX12_pavement 375 = .ok (.putfield 437, 3) := by decide +kernel
theorem dX12_pavement_378 : decode cX12_pavement 378 = .ok (.aload_n 0, 1) := by decide +kernel
theorem dX12_pavement_379 : decode cX12_pavement 379 = .ok (.iconst 0, 1) := by decide +kernel
theorem dX12_pavement_380 : decode cX12_pavement 380 = .ok (.putfield 440, 3) := by decide +kernel
theorem dX12_pavement_383 : decode cX12_pavement 383 = .ok (.aload_n 0, 1) := by decide +kernel
theorem dX12_pavement_384 : decode cX12_pavement 384 = .ok (.iconst 0, 1) := by decide +kernel
theorem dX12_pavement_385 : decode cX12_pavement 385 = .ok (.putfield 443, 3) := by decide +kernel
theorem dX12_pavement_388 : decode cX12_pavement 388 = .ok (.aload_n 0, 1) := by decide +kernel
theorem dX12_pavement_389 : decode cX12_pavement 389 = .ok (.iconst 0, 1) := by decide +kernel
theorem dX12_pavement_390 : decode cX12_pavement 390 = .ok (.putfield 446, 3) := by decide +kernel
theorem dX12_pavement_393 : decode cX12_pavement 393 = .ok (.iconst 0, 1) := by decide +kernel
theorem dX12_pavement_394 : decode cX12_pavement 394 = .ok (.istore_n 1, 1) := by decide +kernel
theorem dX12_pavement_395 : decode cX12_pavement 395 = .ok (.iload_n 1, 1) := by decide +kernel
theorem dX12_pavement_396 : decode cX12_pavement 396 = .ok (.iconst 3, 1) := by decide +kernel
theorem dX12_pavement_397 : decode cX12_pavement 397 = .ok (.if_icmp .ge 16, 3) := by decide +kernel
theorem dX12_pavement_400 : decode cX12_pavement 400 = .ok (.aload_n 0, 1) := by decide +kernel
theorem dX12_pavement_401 : decode cX12_pavement 401 = .ok (.getfield 172, 3) := by decide +kernel
theorem dX12_pavement_404 : decode cX12_pavement 404 = .ok (.iload_n 1, 1) := by decide +kernel
theorem dX12_pavement_405 : decode cX12_pavement 405 = .ok (.iconst 0, 1) := by decide +kernel
theorem dX12_pavement_406 : decode cX12_pavement 406 = .ok (.bastore, 1) := by decide +kernel
theorem dX12_pavement_407 : decode cX12_pavement 407 = .ok (.iinc 1 1, 3) := by decide +kernel
theorem dX12_pavement_410 : decode cX12_pavement 410 = .ok (.goto (-15), 3) := by decide +kernel
theorem dX12_pavement_413 : decode cX12_pavement 413 = .ok (.aload_n 0, 1) := by decide +kernel
theorem dX12_pavement_414 : decode cX12_pavement 414 = .ok (.getfield 425, 3) := by decide +kernel
theorem dX12_pavement_417 : decode cX12_pavement 417 = .ok (.ireturn, 1) := by decide +kernel
set_option maxHeartbeats 4000000 in
set_option maxRecDepth 100000 in
theorem n_pavement (l : Launch) (D : va_G) (k : KT) (A : Nat → Prop) (a : Nat → Nat) (z : SK) (G : GS)  (hP9 : gP G = 1) (hW9 : gW G = 1) (hS9 : gS G = 1) (hac : (G.1 66 78).toInt + (G.1 66 79).toInt ≤ 40) (hsl : 1 ≤ (G.1 96 0).toInt + (G.1 96 1).toInt + (G.1 96 2).toInt) : Met l yX12_pavement (WS yX12_pavement cX12_pavement 3 (some .int)) ({ frames := 8, cells := 0, slots := 0, locals := 169 }) (va_Pc [.ref (a 66)] (cW D k A a z G)) (va_Qi (fun (r : Int32) (G1 : GS) => Bd G1 ∧ Fr [110, 117, 68, 69, 70, 71, 72, 73, 74, 75, 77, 78, 79, 80, 81, 82, 83, 84, 85, 86, 87, 88, 89, 90, 91, 92, 93, 94, 95, 96] [(66, 1), (66, 2), (66, 3), (66, 4), (66, 5), (66, 6), (66, 7), (66, 8), (66, 9), (66, 19), (66, 20), (66, 21), (66, 22), (66, 23), (66, 24), (66, 45), (66, 46), (66, 47), (66, 48), (66, 49), (66, 50), (66, 51), (66, 52), (66, 53), (66, 54), (66, 55), (66, 56), (66, 66), (66, 78), (66, 79), (66, 85)] G G1 ∧ ((G1.1 66 1).toInt = 0 ∧ gW G1 = 1 ∧ gP G1 = 1 ∧ gS G1 = 1 ∧ 1 ≤ (G1.1 96 0).toInt + (G1.1 96 1).toInt + (G1.1 96 2).toInt ∧ (G1.1 66 78).toInt + (G1.1 66 79).toInt ≤ 40)) (fun (G1 : GS) t => Wd D k A a G1 t.heap) A) 0 0 A := by
  refine Met.ofW (cc := cX12_pavement) (maxL := 3) (ret := (some .int)) (by decide) rfl ?_
  intro p e s m args below meth c s₁ B hml hv
  obtain ⟨rfl, hW, hB_G, hK, hZ⟩ := hv
  have hx := B.exec
  have hb := B.bytes
  have hr := B.returns
  have hts := atoms_spec (ws := WS yX12_pavement cX12_pavement 3 (some .int)) B.pre
  have hgd : ∀ w ∈ gd, w ∈ WS yX12_pavement cX12_pavement 3 (some .int) := fun w h => List.mem_cons_of_mem _ h
  have hg : ∀ w ∈ gd, w.before _ s = true := fun w h => hts w (hgd w h)
  have hown : s.vm.findClass RX12 = some m.cls := findClass_of_methodNamed B.named
  have hS : va_S A s.heap s.heap [] := va_S.rf
  have hF : Fr [110, 117, 68, 69, 70, 71, 72, 73, 74, 75, 77, 78, 79, 80, 81, 82, 83, 84, 85, 86, 87, 88, 89, 90, 91, 92, 93, 94, 95, 96] [(66, 1), (66, 2), (66, 3), (66, 4), (66, 5), (66, 6), (66, 7), (66, 8), (66, 9), (66, 19), (66, 20), (66, 21), (66, 22), (66, 23), (66, 24), (66, 45), (66, 46), (66, 47), (66, 48), (66, 49), (66, 50), (66, 51), (66, 52), (66, 53), (66, 54), (66, 55), (66, 56), (66, 66), (66, 78), (66, 79), (66, 85)] G G := Fr.rf
  have hl := lv_entry ([.ref (a 66)]) (n := 3) (Nat.le_of_ble_eq_true rfl)
  rw [lg_entry_eq]
  generalize (lg_sl ([.ref (a 66)]) ++ List.replicate (3 - (lg_sl ([.ref (a 66)])).length) Slot.unset).toArray = ls at hl ⊢
  have hl : lv_has ls 3 [(0, .ref (a 66))] := hl
  refine lv_aload_n hx hb dX12_pavement_0 rfl (lv_at hl 0 rfl) ?_
  refine S_callv (va_runV (As := []) (rest := []) ⟨hx, hb, hml, hown, hts⟩ (n_readAll l D k A a z G  ) (cwV 0 hts (gd_V hgd m1598 m1600 m49 m131 m1601) rfl rfl rfl (by decide +kernel) ⟨Nat.le_of_ble_eq_true rfl, Nat.le_of_ble_eq_true rfl⟩) (pre_V hW hB_G hK hZ hS kd_66 rfl) rfl rfl hl.1 rfl (lv_room (Nat.le_of_ble_eq_true rfl)) dX12_pavement_1 ⟨Nat.le_of_ble_eq_true rfl, Nat.le_of_ble_eq_true rfl⟩) hS (fun G_2 H locs hpo hW hS => ?_)
  obtain ⟨hB_G_2, hq_3, hp_4⟩ := hpo
  have hF := hF.call hq_3 (by decide) (by decide)
  refine lv_aload_n hx hb dX12_pavement_4 rfl (lv_at hl 0 rfl) ?_
  have b_5 : 0 ≤ (G_2.1 66 2).toInt ∧ (G_2.1 66 2).toInt ≤ 4 := hB_G_2.i 66 2 rfl rfl
  refine S_getI (v := (G_2.1 66 2)) (C := RX12) (T := TX12) (N := 89) hx hb hg iX12 hown hK hW kd_66 rfl 2 (by decide) (hg (Cond.fieldLink RX12 218 "SlabWalkModel" "fault" "I") m1316) (fun _ h9 => h9) rfl rfl dX12_pavement_5 ?_
  refine lv_if_le (tgt := 13) hx hb dX12_pavement_8 (by decide) (fun c_6 => ?_) (fun c_6 => ?_)
  · have c_6 : (G_2.1 66 2).toInt ≤ 0 := xI_le rfl rfl c_6
    refine lv_aload_n hx hb dX12_pavement_13 rfl (lv_at hl 0 rfl) ?_
    refine lv_aload_n hx hb dX12_pavement_14 rfl (lv_at hl 0 rfl) ?_
    have b_7 : 0 ≤ (G_2.1 66 45).toInt ∧ (G_2.1 66 45).toInt ≤ 3 := hB_G_2.i 66 45 rfl rfl
    refine S_getI (v := (G_2.1 66 45)) (C := RX12) (T := TX12) (N := 89) hx hb hg iX12 hown hK hW kd_66 rfl 45 (by decide) (hg (Cond.fieldLink RX12 359 "SlabWalkModel" "nStreets" "I") m1359) (fun _ h9 => h9) rfl rfl dX12_pavement_15 ?_
    refine S_putI (ty := .int) (C := RX12) (T := TX12) (N := 89) hx hb hg iX12 tyX12 tyX12_ok nmX12 hown hK hW hS kd_66 rfl 52 (by decide) (hg (Cond.fieldLink RX12 425 "SlabWalkModel" "streets" "I") m1366) (fun _ h9 => h9) rfl (by decide +kernel) rfl rfl rfl dX12_pavement_18 (fun G_8 H locs eG_8 hW hS => ?_)
    have hB_G_8 : Bd G_8 := hB_G_2.put (V := (G_2.1 66 45).toInt) (lo := 0) (hi := 3) eG_8 rfl rfl rfl (by omega) (by omega) (hB_G_2.2.put eG_8 rfl)
    have hF := hF.put eG_8 (Or.inr (by decide))
    refine lv_aload_n hx hb dX12_pavement_21 rfl (lv_at hl 0 rfl) ?_
    refine lv_aload_n hx hb dX12_pavement_22 rfl (lv_at hl 0 rfl) ?_
    have b_9 : 0 ≤ (G_2.1 66 46).toInt ∧ (G_2.1 66 46).toInt ≤ 4 := hB_G_2.i 66 46 rfl rfl
    refine S_getI (v := (G_2.1 66 46)) (C := RX12) (T := TX12) (N := 89) hx hb hg iX12 hown hK hW kd_66 rfl 46 (by decide) (hg (Cond.fieldLink RX12 379 "SlabWalkModel" "nWalkers" "I") m1360) (fun _ h9 => h9) rfl (gp_ne eG_8 (by decide)) dX12_pavement_23 ?_
    refine S_putI (ty := .int) (C := RX12) (T := TX12) (N := 89) hx hb hg iX12 tyX12 tyX12_ok nmX12 hown hK hW hS kd_66 rfl 53 (by decide) (hg (Cond.fieldLink RX12 428 "SlabWalkModel" "walkers" "I") m1367) (fun _ h9 => h9) rfl (by decide +kernel) rfl rfl rfl dX12_pavement_26 (fun G_10 H locs eG_10 hW hS => ?_)
    have hB_G_10 : Bd G_10 := hB_G_8.put (V := (G_2.1 66 46).toInt) (lo := 0) (hi := 4) eG_10 rfl rfl rfl (by omega) (by omega) (hB_G_8.2.put eG_10 rfl)
    have hF := hF.put eG_10 (Or.inr (by decide))
    refine lv_aload_n hx hb dX12_pavement_29 rfl (lv_at hl 0 rfl) ?_
    refine lv_aload_n hx hb dX12_pavement_30 rfl (lv_at hl 0 rfl) ?_
    have b_11 : 0 ≤ (G_2.1 66 47).toInt ∧ (G_2.1 66 47).toInt ≤ 6 := hB_G_2.i 66 47 rfl rfl
    refine S_getI (v := (G_2.1 66 47)) (C := RX12) (T := TX12) (N := 89) hx hb hg iX12 hown hK hW kd_66 rfl 47 (by decide) (hg (Cond.fieldLink RX12 385 "SlabWalkModel" "nRules" "I") m1361) (fun _ h9 => h9) rfl ((gp_ne eG_10 (by decide)).trans (gp_ne eG_8 (by decide))) dX12_pavement_31 ?_
    refine S_putI (ty := .int) (C := RX12) (T := TX12) (N := 89) hx hb hg iX12 tyX12 tyX12_ok nmX12 hown hK hW hS kd_66 rfl 54 (by decide) (hg (Cond.fieldLink RX12 431 "SlabWalkModel" "rules" "I") m1368) (fun _ h9 => h9) rfl (by decide +kernel) rfl rfl rfl dX12_pavement_34 (fun G_12 H locs eG_12 hW hS => ?_)
    have hB_G_12 : Bd G_12 := hB_G_10.put (V := (G_2.1 66 47).toInt) (lo := 0) (hi := 6) eG_12 rfl rfl rfl (by omega) (by omega) (hB_G_10.2.put eG_12 rfl)
    have hF := hF.put eG_12 (Or.inr (by decide))
    refine lv_aload_n hx hb dX12_pavement_37 rfl (lv_at hl 0 rfl) ?_
    refine lv_aload_n hx hb dX12_pavement_38 rfl (lv_at hl 0 rfl) ?_
    refine S_getI (v := (G_2.1 66 48)) (C := RX12) (T := TX12) (N := 89) hx hb hg iX12 hown hK hW kd_66 rfl 48 (by decide) (hg (Cond.fieldLink RX12 410 "SlabWalkModel" "nHand" "I") m1362) (fun _ h9 => h9) rfl ((gp_ne eG_12 (by decide)).trans ((gp_ne eG_10 (by decide)).trans (gp_ne eG_8 (by decide)))) dX12_pavement_39 ?_
    refine S_putI (ty := .int) (C := RX12) (T := TX12) (N := 89) hx hb hg iX12 tyX12 tyX12_ok nmX12 hown hK hW hS kd_66 rfl 55 (by decide) (hg (Cond.fieldLink RX12 105 "SlabWalkModel" "hand" "I") m1369) (fun _ h9 => h9) rfl (by decide +kernel) rfl rfl rfl dX12_pavement_42 (fun G_13 H locs eG_13 hW hS => ?_)
    have hB_G_13 : Bd G_13 := hB_G_12.put (lo := (-2147483648)) (hi := 2147483647) eG_13 rfl rfl rfl (tI_rng _).1 (tI_rng _).2 (hB_G_12.2.put eG_13 rfl)
    have hF := hF.put eG_13 (Or.inr (by decide))
    refine lv_aload_n hx hb dX12_pavement_45 rfl (lv_at hl 0 rfl) ?_
    refine lv_aload_n hx hb dX12_pavement_46 rfl (lv_at hl 0 rfl) ?_
    refine S_getI (v := (G_2.1 66 49)) (C := RX12) (T := TX12) (N := 89) hx hb hg iX12 hown hK hW kd_66 rfl 49 (by decide) (hg (Cond.fieldLink RX12 413 "SlabWalkModel" "nSlack" "I") m1363) (fun _ h9 => h9) rfl ((gp_ne eG_13 (by decide)).trans ((gp_ne eG_12 (by decide)).trans ((gp_ne eG_10 (by decide)).trans (gp_ne eG_8 (by decide))))) dX12_pavement_47 ?_
    refine S_putI (ty := .int) (C := RX12) (T := TX12) (N := 89) hx hb hg iX12 tyX12 tyX12_ok nmX12 hown hK hW hS kd_66 rfl 56 (by decide) (hg (Cond.fieldLink RX12 108 "SlabWalkModel" "slack" "I") m1370) (fun _ h9 => h9) rfl (by decide +kernel) rfl rfl rfl dX12_pavement_50 (fun G_14 H locs eG_14 hW hS => ?_)
    have hB_G_14 : Bd G_14 := hB_G_13.put (lo := (-2147483648)) (hi := 2147483647) eG_14 rfl rfl rfl (tI_rng _).1 (tI_rng _).2 (hB_G_13.2.put eG_14 rfl)
    have hF := hF.put eG_14 (Or.inr (by decide))
    refine lv_aload_n hx hb dX12_pavement_53 rfl (lv_at hl 0 rfl) ?_
    refine lv_aload_n hx hb dX12_pavement_54 rfl (lv_at hl 0 rfl) ?_
    refine S_getI (v := (G_2.1 66 21)) (C := RX12) (T := TX12) (N := 89) hx hb hg iX12 hown hK hW kd_66 rfl 21 (by decide) (hg (Cond.fieldLink RX12 312 "SlabWalkModel" "nUnits" "I") m1335) (fun _ h9 => h9) rfl ((gp_ne eG_14 (by decide)).trans ((gp_ne eG_13 (by decide)).trans ((gp_ne eG_12 (by decide)).trans ((gp_ne eG_10 (by decide)).trans (gp_ne eG_8 (by decide)))))) dX12_pavement_55 ?_
    refine S_putI (ty := .int) (C := RX12) (T := TX12) (N := 89) hx hb hg iX12 tyX12 tyX12_ok nmX12 hown hK hW hS kd_66 rfl 22 (by decide) (hg (Cond.fieldLink RX12 434 "SlabWalkModel" "units" "I") m1336) (fun _ h9 => h9) rfl (by decide +kernel) rfl rfl rfl dX12_pavement_58 (fun G_15 H locs eG_15 hW hS => ?_)
    have hB_G_15 : Bd G_15 := hB_G_14.put (lo := (-2147483648)) (hi := 2147483647) eG_15 rfl rfl rfl (tI_rng _).1 (tI_rng _).2 (hB_G_14.2.put eG_15 rfl)
    have hF := hF.put eG_15 (Or.inr (by decide))
    refine lv_iconst (v := 0) hx hb dX12_pavement_61 (by decide) ?_
    have hsp_16 : SP G_15 (0 : Int32).toInt := SP_0
    refine lv_istore_n (lv' := [(1, .int 0), (0, .ref (a 66))]) hx hb dX12_pavement_62 rfl hl (by decide) rfl (fun ls hl => ?_)
    have qc_22 : (0 : Int32).toInt = 0 := rfl
    refine loop_N (Inv := fun n H locs ls => ∃ (G_17 : GS) (x_21 : Int32), (n : Int) = 3 - x_21.toInt ∧ (0 ≤ x_21.toInt ∧ x_21.toInt ≤ 3) ∧ (SP G_17 x_21.toInt) ∧ Wd D k A a G_17 H ∧ Bd G_17 ∧ Fr [110, 117, 68, 69, 70, 71, 72, 73, 74, 75, 77, 78, 79, 80, 81, 82, 83, 84, 85, 86, 87, 88, 89, 90, 91, 92, 93, 94, 95, 96] [(66, 1), (66, 2), (66, 3), (66, 4), (66, 5), (66, 6), (66, 7), (66, 8), (66, 9), (66, 19), (66, 20), (66, 21), (66, 22), (66, 23), (66, 24), (66, 45), (66, 46), (66, 47), (66, 48), (66, 49), (66, 50), (66, 51), (66, 52), (66, 53), (66, 54), (66, 55), (66, 56), (66, 66), (66, 78), (66, 79), (66, 85)] G G_17 ∧ Fr [96] [] G_15 G_17 ∧ va_S A s.heap H locs ∧ lv_has ls 3 [(1, .int x_21), (0, .ref (a 66))]) (fun n_20 H locs ls ih_19 hI => ?_) (3 - 0 : Int).toNat ⟨G_15, 0, (Int.toNat_of_nonneg (by omega)), ⟨by omega, by omega⟩, (by assumption), hW, hB_G_15, hF, Fr.rf, hS, lv_sub hl [0, 1] rfl⟩
    obtain ⟨G_17, x_21, hn_25, f_23, f_24, hW, hB_G_17, hF, hq_18, hS, hl⟩ := hI
    refine lv_iload_n hx hb dX12_pavement_63 rfl (lv_at hl 0 rfl) ?_
    refine lv_iconst (v := 3) hx hb dX12_pavement_64 (by decide) ?_
    refine lv_icmp_ge (tgt := 86) hx hb dX12_pavement_65 (by decide) (fun c_26 => ?_) (fun c_26 => ?_)
    · have c_26 : 3 ≤ x_21.toInt := xI_le rfl rfl c_26
      have u_27 := SP_end (G := G_17) (x := x_21.toInt) (by assumption) (by omega)
      have g_28 : (G_17.1 86 0).toInt = (G_2.1 86 0).toInt := by rw [show G_17.1 86 0 = (G_2.1 86 0) from ((hq_18.i 86 0 (by decide) (by decide)).trans ((gp_ne eG_15 (by decide)).trans ((gp_ne eG_14 (by decide)).trans ((gp_ne eG_13 (by decide)).trans ((gp_ne eG_12 (by decide)).trans ((gp_ne eG_10 (by decide)).trans (gp_ne eG_8 (by decide))))))))]
      have g_29 : (G_17.1 86 1).toInt = (G_2.1 86 1).toInt := by rw [show G_17.1 86 1 = (G_2.1 86 1) from ((hq_18.i 86 1 (by decide) (by decide)).trans ((gp_ne eG_15 (by decide)).trans ((gp_ne eG_14 (by decide)).trans ((gp_ne eG_13 (by decide)).trans ((gp_ne eG_12 (by decide)).trans ((gp_ne eG_10 (by decide)).trans (gp_ne eG_8 (by decide))))))))]
      have g_30 : (G_17.1 86 2).toInt = (G_2.1 86 2).toInt := by rw [show G_17.1 86 2 = (G_2.1 86 2) from ((hq_18.i 86 2 (by decide) (by decide)).trans ((gp_ne eG_15 (by decide)).trans ((gp_ne eG_14 (by decide)).trans ((gp_ne eG_13 (by decide)).trans ((gp_ne eG_12 (by decide)).trans ((gp_ne eG_10 (by decide)).trans (gp_ne eG_8 (by decide))))))))]
      refine lv_iconst (v := 0) hx hb dX12_pavement_86 (by decide) ?_
      have hcp_31 : CP G_17 (0 : Int32).toInt (320 * (0 : Int32).toInt) := CP_0
      refine lv_istore_n (lv' := [(1, .int 0), (0, .ref (a 66))]) hx hb dX12_pavement_87 rfl hl (by decide) rfl (fun ls hl => ?_)
      have qc_37 : (0 : Int32).toInt = 0 := rfl
      refine loop_N (Inv := fun n H locs ls => ∃ (G_32 : GS) (x_36 : Int32), (n : Int) = 6 - x_36.toInt ∧ (0 ≤ x_36.toInt ∧ x_36.toInt ≤ 6) ∧ (CP G_32 x_36.toInt (320 * x_36.toInt)) ∧ Wd D k A a G_32 H ∧ Bd G_32 ∧ Fr [110, 117, 68, 69, 70, 71, 72, 73, 74, 75, 77, 78, 79, 80, 81, 82, 83, 84, 85, 86, 87, 88, 89, 90, 91, 92, 93, 94, 95, 96] [(66, 1), (66, 2), (66, 3), (66, 4), (66, 5), (66, 6), (66, 7), (66, 8), (66, 9), (66, 19), (66, 20), (66, 21), (66, 22), (66, 23), (66, 24), (66, 45), (66, 46), (66, 47), (66, 48), (66, 49), (66, 50), (66, 51), (66, 52), (66, 53), (66, 54), (66, 55), (66, 56), (66, 66), (66, 78), (66, 79), (66, 85)] G G_32 ∧ Fr [72, 73, 74] [] G_17 G_32 ∧ va_S A s.heap H locs ∧ lv_has ls 3 [(1, .int x_36), (0, .ref (a 66))]) (fun n_35 H locs ls ih_34 hI => ?_) (6 - 0 : Int).toNat ⟨G_17, 0, (Int.toNat_of_nonneg (by omega)), ⟨by omega, by omega⟩, (by assumption), hW, hB_G_17, hF, Fr.rf, hS, lv_sub hl [0, 1] rfl⟩
      obtain ⟨G_32, x_36, hn_40, f_38, f_39, hW, hB_G_32, hF, hq_33, hS, hl⟩ := hI
      refine lv_iload_n hx hb dX12_pavement_88 rfl (lv_at hl 0 rfl) ?_
      refine lv_aload_n hx hb dX12_pavement_89 rfl (lv_at hl 1 rfl) ?_
      refine S_getI (v := (G_2.1 66 47)) (C := RX12) (T := TX12) (N := 89) hx hb hg iX12 hown hK hW kd_66 rfl 54 (by decide) (hg (Cond.fieldLink RX12 431 "SlabWalkModel" "rules" "I") m1368) (fun _ h9 => h9) rfl ((hq_33.i 66 54 (by decide) (by decide)).trans ((hq_18.i 66 54 (by decide) (by decide)).trans ((gp_ne eG_15 (by decide)).trans ((gp_ne eG_14 (by decide)).trans ((gp_ne eG_13 (by decide)).trans (gp_eq eG_12)))))) dX12_pavement_90 ?_
      refine lv_icmp_ge (tgt := 166) hx hb dX12_pavement_93 (by decide) (fun c_41 => ?_) (fun c_41 => ?_)
      · have c_41 : (G_2.1 66 47).toInt ≤ x_36.toInt := xI_le rfl rfl c_41
        have g_42 : (G_32.1 66 54).toInt = (G_2.1 66 47).toInt := by rw [show G_32.1 66 54 = (G_2.1 66 47) from ((hq_33.i 66 54 (by decide) (by decide)).trans ((hq_18.i 66 54 (by decide) (by decide)).trans ((gp_ne eG_15 (by decide)).trans ((gp_ne eG_14 (by decide)).trans ((gp_ne eG_13 (by decide)).trans (gp_eq eG_12))))))]
        have u_43 : gP G_32 = 1 := CP_end (show CP G_32 x_36.toInt (320 * x_36.toInt) by assumption) (by omega) (by omega)
        refine lv_iconst (v := 0) hx hb dX12_pavement_166 (by decide) ?_
        refine lv_istore_n (lv' := [(1, .int 0), (0, .ref (a 66))]) hx hb dX12_pavement_167 rfl hl (by decide) rfl (fun ls hl => ?_)
        have qc_49 : (0 : Int32).toInt = 0 := rfl
        refine loop_N (Inv := fun n H locs ls => ∃ (G_44 : GS) (x_48 : Int32), (n : Int) = 3 - x_48.toInt ∧ (0 ≤ x_48.toInt ∧ x_48.toInt ≤ 3) ∧ Wd D k A a G_44 H ∧ Bd G_44 ∧ Fr [110, 117, 68, 69, 70, 71, 72, 73, 74, 75, 77, 78, 79, 80, 81, 82, 83, 84, 85, 86, 87, 88, 89, 90, 91, 92, 93, 94, 95, 96] [(66, 1), (66, 2), (66, 3), (66, 4), (66, 5), (66, 6), (66, 7), (66, 8), (66, 9), (66, 19), (66, 20), (66, 21), (66, 22), (66, 23), (66, 24), (66, 45), (66, 46), (66, 47), (66, 48), (66, 49), (66, 50), (66, 51), (66, 52), (66, 53), (66, 54), (66, 55), (66, 56), (66, 66), (66, 78), (66, 79), (66, 85)] G G_44 ∧ Fr [87, 88, 89, 90, 91] [] G_32 G_44 ∧ va_S A s.heap H locs ∧ lv_has ls 3 [(1, .int x_48), (0, .ref (a 66))]) (fun n_47 H locs ls ih_46 hI => ?_) (3 - 0 : Int).toNat ⟨G_32, 0, (Int.toNat_of_nonneg (by omega)), ⟨by omega, by omega⟩, hW, hB_G_32, hF, Fr.rf, hS, lv_sub hl [0, 1] rfl⟩
        obtain ⟨G_44, x_48, hn_51, f_50, hW, hB_G_44, hF, hq_45, hS, hl⟩ := hI
        refine lv_iload_n hx hb dX12_pavement_168 rfl (lv_at hl 0 rfl) ?_
        refine lv_aload_n hx hb dX12_pavement_169 rfl (lv_at hl 1 rfl) ?_
        refine S_getI (v := (G_2.1 66 45)) (C := RX12) (T := TX12) (N := 89) hx hb hg iX12 hown hK hW kd_66 rfl 52 (by decide) (hg (Cond.fieldLink RX12 425 "SlabWalkModel" "streets" "I") m1366) (fun _ h9 => h9) rfl ((hq_45.i 66 52 (by decide) (by decide)).trans ((hq_33.i 66 52 (by decide) (by decide)).trans ((hq_18.i 66 52 (by decide) (by decide)).trans ((gp_ne eG_15 (by decide)).trans ((gp_ne eG_14 (by decide)).trans ((gp_ne eG_13 (by decide)).trans ((gp_ne eG_12 (by decide)).trans ((gp_ne eG_10 (by decide)).trans (gp_eq eG_8))))))))) dX12_pavement_170 ?_
        refine lv_icmp_ge (tgt := 270) hx hb dX12_pavement_173 (by decide) (fun c_52 => ?_) (fun c_52 => ?_)
        · have c_52 : (G_2.1 66 45).toInt ≤ x_48.toInt := xI_le rfl rfl c_52
          refine lv_iconst (v := 0) hx hb dX12_pavement_270 (by decide) ?_
          have hwp_53 : WP G_44 (0 : Int32).toInt := WP_0
          refine lv_istore_n (lv' := [(1, .int 0), (0, .ref (a 66))]) hx hb dX12_pavement_271 rfl hl (by decide) rfl (fun ls hl => ?_)
          have qc_59 : (0 : Int32).toInt = 0 := rfl
          refine loop_N (Inv := fun n H locs ls => ∃ (G_54 : GS) (x_58 : Int32), (n : Int) = 4 - x_58.toInt ∧ (0 ≤ x_58.toInt ∧ x_58.toInt ≤ 4) ∧ (WP G_54 x_58.toInt) ∧ Wd D k A a G_54 H ∧ Bd G_54 ∧ Fr [110, 117, 68, 69, 70, 71, 72, 73, 74, 75, 77, 78, 79, 80, 81, 82, 83, 84, 85, 86, 87, 88, 89, 90, 91, 92, 93, 94, 95, 96] [(66, 1), (66, 2), (66, 3), (66, 4), (66, 5), (66, 6), (66, 7), (66, 8), (66, 9), (66, 19), (66, 20), (66, 21), (66, 22), (66, 23), (66, 24), (66, 45), (66, 46), (66, 47), (66, 48), (66, 49), (66, 50), (66, 51), (66, 52), (66, 53), (66, 54), (66, 55), (66, 56), (66, 66), (66, 78), (66, 79), (66, 85)] G G_54 ∧ Fr [92, 93, 94, 95] [] G_44 G_54 ∧ va_S A s.heap H locs ∧ lv_has ls 3 [(1, .int x_58), (0, .ref (a 66))]) (fun n_57 H locs ls ih_56 hI => ?_) (4 - 0 : Int).toNat ⟨G_44, 0, (Int.toNat_of_nonneg (by omega)), ⟨by omega, by omega⟩, (by assumption), hW, hB_G_44, hF, Fr.rf, hS, lv_sub hl [0, 1] rfl⟩
          obtain ⟨G_54, x_58, hn_62, f_60, f_61, hW, hB_G_54, hF, hq_55, hS, hl⟩ := hI
          refine lv_iload_n hx hb dX12_pavement_272 rfl (lv_at hl 0 rfl) ?_
          refine lv_aload_n hx hb dX12_pavement_273 rfl (lv_at hl 1 rfl) ?_
          refine S_getI (v := (G_2.1 66 46)) (C := RX12) (T := TX12) (N := 89) hx hb hg iX12 hown hK hW kd_66 rfl 53 (by decide) (hg (Cond.fieldLink RX12 428 "SlabWalkModel" "walkers" "I") m1367) (fun _ h9 => h9) rfl ((hq_55.i 66 53 (by decide) (by decide)).trans ((hq_45.i 66 53 (by decide) (by decide)).trans ((hq_33.i 66 53 (by decide) (by decide)).trans ((hq_18.i 66 53 (by decide) (by decide)).trans ((gp_ne eG_15 (by decide)).trans ((gp_ne eG_14 (by decide)).trans ((gp_ne eG_13 (by decide)).trans ((gp_ne eG_12 (by decide)).trans (gp_eq eG_10))))))))) dX12_pavement_274 ?_
          refine lv_icmp_ge (tgt := 334) hx hb dX12_pavement_277 (by decide) (fun c_63 => ?_) (fun c_63 => ?_)
          · have c_63 : (G_2.1 66 46).toInt ≤ x_58.toInt := xI_le rfl rfl c_63
            have g_64 : (G_54.1 66 53).toInt = (G_2.1 66 46).toInt := by rw [show G_54.1 66 53 = (G_2.1 66 46) from ((hq_55.i 66 53 (by decide) (by decide)).trans ((hq_45.i 66 53 (by decide) (by decide)).trans ((hq_33.i 66 53 (by decide) (by decide)).trans ((hq_18.i 66 53 (by decide) (by decide)).trans ((gp_ne eG_15 (by decide)).trans ((gp_ne eG_14 (by decide)).trans ((gp_ne eG_13 (by decide)).trans ((gp_ne eG_12 (by decide)).trans (gp_eq eG_10)))))))))]
            have u_65 : gW G_54 = 1 := WP_end (show WP G_54 x_58.toInt by assumption) (by omega) (by omega)
            refine lv_iconst (v := 0) hx hb dX12_pavement_334 (by decide) ?_
            refine lv_istore_n (lv' := [(1, .int 0), (0, .ref (a 66))]) hx hb dX12_pavement_335 rfl hl (by decide) rfl (fun ls hl => ?_)
            have qc_71 : (0 : Int32).toInt = 0 := rfl
            refine loop_N (Inv := fun n H locs ls => ∃ (G_66 : GS) (x_70 : Int32), (n : Int) = 10 - x_70.toInt ∧ (0 ≤ x_70.toInt ∧ x_70.toInt ≤ 10) ∧ Wd D k A a G_66 H ∧ Bd G_66 ∧ Fr [110, 117, 68, 69, 70, 71, 72, 73, 74, 75, 77, 78, 79, 80, 81, 82, 83, 84, 85, 86, 87, 88, 89, 90, 91, 92, 93, 94, 95, 96] [(66, 1), (66, 2), (66, 3), (66, 4), (66, 5), (66, 6), (66, 7), (66, 8), (66, 9), (66, 19), (66, 20), (66, 21), (66, 22), (66, 23), (66, 24), (66, 45), (66, 46), (66, 47), (66, 48), (66, 49), (66, 50), (66, 51), (66, 52), (66, 53), (66, 54), (66, 55), (66, 56), (66, 66), (66, 78), (66, 79), (66, 85)] G G_66 ∧ Fr [110] [] G_54 G_66 ∧ va_S A s.heap H locs ∧ lv_has ls 3 [(1, .int x_70), (0, .ref (a 66))]) (fun n_69 H locs ls ih_68 hI => ?_) (10 - 0 : Int).toNat ⟨G_54, 0, (Int.toNat_of_nonneg (by omega)), ⟨by omega, by omega⟩, hW, hB_G_54, hF, Fr.rf, hS, lv_sub hl [0, 1] rfl⟩
            obtain ⟨G_66, x_70, hn_73, f_72, hW, hB_G_66, hF, hq_67, hS, hl⟩ := hI
            refine lv_iload_n hx hb dX12_pavement_336 rfl (lv_at hl 0 rfl) ?_
            refine lv_bipush (v := 10) hx hb dX12_pavement_337 (by decide) ?_
            refine lv_icmp_ge (tgt := 355) hx hb dX12_pavement_339 (by decide) (fun c_74 => ?_) (fun c_74 => ?_)
            · have c_74 : 10 ≤ x_70.toInt := xI_le rfl rfl c_74
              refine lv_aload_n hx hb dX12_pavement_355 rfl (lv_at hl 1 rfl) ?_
              refine S_getR (n := 110) (C := RX12) (T := TX12) (N := 89) hx hb hg iX12 hown hK hW kd_66 rfl 76 (by decide) (hg (Cond.fieldLink RX12 151 "SlabWalkModel" "now" "[I") m1390) (fun _ h9 => h9) rfl dX12_pavement_356 ?_
              refine lv_iconst (v := 0) hx hb dX12_pavement_359 (by decide) ?_
              refine lv_iconst (v := (-1)) hx hb dX12_pavement_360 (by decide) ?_
              refine S_iast hx hb hK hW hS kd_110 (vin (by decide) (by decide)) dX12_pavement_361 (fun G_75 H locs eG_75 hW hS => ?_)
              have qc_76 : ((-1) : Int32).toInt = (-1) := rfl
              have qc_77 : (0 : Int32).toInt = 0 := rfl
              have hB_G_75 : Bd G_75 := hB_G_66.putNow 110 (by decide) eG_75 (by omega) (by omega) (by omega) rfl
              have hF := hF.put eG_75 (Or.inl (by decide))
              refine lv_aload_n hx hb dX12_pavement_362 rfl (lv_at hl 1 rfl) ?_
              refine S_getR (n := 110) (C := RX12) (T := TX12) (N := 89) hx hb hg iX12 hown hK hW kd_66 rfl 76 (by decide) (hg (Cond.fieldLink RX12 151 "SlabWalkModel" "now" "[I") m1390) (fun _ h9 => h9) rfl dX12_pavement_363 ?_
              refine lv_bipush (v := 7) hx hb dX12_pavement_366 (by decide) ?_
              refine lv_aload_n hx hb dX12_pavement_368 rfl (lv_at hl 1 rfl) ?_
              refine S_getI (v := (G_2.1 66 50)) (C := RX12) (T := TX12) (N := 89) hx hb hg iX12 hown hK hW kd_66 rfl 50 (by decide) (hg (Cond.fieldLink RX12 416 "SlabWalkModel" "nDraw" "I") m1364) (fun _ h9 => h9) rfl ((gp_ne eG_75 (fun q => absurd q.1 (by decide))).trans ((hq_67.i 66 50 (by decide) (by decide)).trans ((hq_55.i 66 50 (by decide) (by decide)).trans ((hq_45.i 66 50 (by decide) (by decide)).trans ((hq_33.i 66 50 (by decide) (by decide)).trans ((hq_18.i 66 50 (by decide) (by decide)).trans ((gp_ne eG_15 (by decide)).trans ((gp_ne eG_14 (by decide)).trans ((gp_ne eG_13 (by decide)).trans ((gp_ne eG_12 (by decide)).trans ((gp_ne eG_10 (by decide)).trans (gp_ne eG_8 (by decide))))))))))))) dX12_pavement_369 ?_
              refine S_iast hx hb hK hW hS kd_110 (vin (by decide) (by decide)) dX12_pavement_372 (fun G_78 H locs eG_78 hW hS => ?_)
              have qc_79 : (7 : Int32).toInt = 7 := rfl
              have hB_G_78 : Bd G_78 := hB_G_75.putNow 110 (by decide) eG_78 (by omega) (by omega) (by omega) rfl
              have hF := hF.put eG_78 (Or.inl (by decide))
              refine lv_aload_n hx hb dX12_pavement_373 rfl (lv_at hl 1 rfl) ?_
              refine lv_iconst (v := 0) hx hb dX12_pavement_374 (by decide) ?_
              refine S_putI (ty := .int) (C := RX12) (T := TX12) (N := 89) hx hb hg iX12 tyX12 tyX12_ok nmX12 hown hK hW hS kd_66 rfl 78 (by decide) (hg (Cond.fieldLink RX12 437 "SlabWalkModel" "acts" "I") m1392) (fun _ h9 => h9) rfl (by decide +kernel) rfl rfl rfl dX12_pavement_375 (fun G_80 H locs eG_80 hW hS => ?_)
              have hB_G_80 : Bd G_80 := hB_G_78.put (V := 0) (lo := 0) (hi := 40) eG_80 rfl rfl rfl (by omega) (by omega) (hB_G_78.2.put eG_80 rfl)
              have hF := hF.put eG_80 (Or.inr (by decide))
              refine lv_aload_n hx hb dX12_pavement_378 rfl (lv_at hl 1 rfl) ?_
              refine lv_iconst (v := 0) hx hb dX12_pavement_379 (by decide) ?_
              refine S_putI (ty := .int) (C := RX12) (T := TX12) (N := 89) hx hb hg iX12 tyX12 tyX12_ok nmX12 hown hK hW hS kd_66 rfl 79 (by decide) (hg (Cond.fieldLink RX12 440 "SlabWalkModel" "undone" "I") m1393) (fun _ h9 => h9) rfl (by decide +kernel) rfl rfl rfl dX12_pavement_380 (fun G_81 H locs eG_81 hW hS => ?_)
              have hB_G_81 : Bd G_81 := hB_G_80.put (V := 0) (lo := 0) (hi := 40) eG_81 rfl rfl rfl (by omega) (by omega) (hB_G_80.2.put eG_81 rfl)
              have hF := hF.put eG_81 (Or.inr (by decide))
              refine lv_aload_n hx hb dX12_pavement_383 rfl (lv_at hl 1 rfl) ?_
              refine lv_iconst (v := 0) hx hb dX12_pavement_384 (by decide) ?_
              refine S_putI (ty := .int) (C := RX12) (T := TX12) (N := 89) hx hb hg iX12 tyX12 tyX12_ok nmX12 hown hK hW hS kd_66 rfl 85 (by decide) (hg (Cond.fieldLink RX12 443 "SlabWalkModel" "sights" "I") m1399) (fun _ h9 => h9) rfl (by decide +kernel) rfl rfl rfl dX12_pavement_385 (fun G_82 H locs eG_82 hW hS => ?_)
              have hB_G_82 : Bd G_82 := hB_G_81.put (V := 0) (lo := 0) (hi := 20) eG_82 rfl rfl rfl (by omega) (by omega) (hB_G_81.2.put eG_82 rfl)
              have hF := hF.put eG_82 (Or.inr (by decide))
              have u_83 := gS_0 (G := G_82) (gp_eq eG_82)
              refine lv_aload_n hx hb dX12_pavement_388 rfl (lv_at hl 1 rfl) ?_
              refine lv_iconst (v := 0) hx hb dX12_pavement_389 (by decide) ?_
              refine S_putI (ty := .int) (C := RX12) (T := TX12) (N := 89) hx hb hg iX12 tyX12 tyX12_ok nmX12 hown hK hW hS kd_66 rfl 66 (by decide) (hg (Cond.fieldLink RX12 446 "SlabWalkModel" "lain" "I") m1380) (fun _ h9 => h9) rfl (by decide +kernel) rfl rfl rfl dX12_pavement_390 (fun G_84 H locs eG_84 hW hS => ?_)
              have hB_G_84 : Bd G_84 := hB_G_82.put (V := 0) (lo := 0) (hi := 400) eG_84 rfl rfl rfl (by omega) (by omega) (hB_G_82.2.put eG_84 rfl)
              have hF := hF.put eG_84 (Or.inr (by decide))
              refine lv_iconst (v := 0) hx hb dX12_pavement_393 (by decide) ?_
              refine lv_istore_n (lv' := [(1, .int 0), (0, .ref (a 66))]) hx hb dX12_pavement_394 rfl hl (by decide) rfl (fun ls hl => ?_)
              have qc_90 : (0 : Int32).toInt = 0 := rfl
              refine loop_N (Inv := fun n H locs ls => ∃ (G_85 : GS) (x_89 : Int32), (n : Int) = 3 - x_89.toInt ∧ (0 ≤ x_89.toInt ∧ x_89.toInt ≤ 3) ∧ Wd D k A a G_85 H ∧ Bd G_85 ∧ Fr [110, 117, 68, 69, 70, 71, 72, 73, 74, 75, 77, 78, 79, 80, 81, 82, 83, 84, 85, 86, 87, 88, 89, 90, 91, 92, 93, 94, 95, 96] [(66, 1), (66, 2), (66, 3), (66, 4), (66, 5), (66, 6), (66, 7), (66, 8), (66, 9), (66, 19), (66, 20), (66, 21), (66, 22), (66, 23), (66, 24), (66, 45), (66, 46), (66, 47), (66, 48), (66, 49), (66, 50), (66, 51), (66, 52), (66, 53), (66, 54), (66, 55), (66, 56), (66, 66), (66, 78), (66, 79), (66, 85)] G G_85 ∧ Fr [117] [] G_84 G_85 ∧ va_S A s.heap H locs ∧ lv_has ls 3 [(1, .int x_89), (0, .ref (a 66))]) (fun n_88 H locs ls ih_87 hI => ?_) (3 - 0 : Int).toNat ⟨G_84, 0, (Int.toNat_of_nonneg (by omega)), ⟨by omega, by omega⟩, hW, hB_G_84, hF, Fr.rf, hS, lv_sub hl [0, 1] rfl⟩
              obtain ⟨G_85, x_89, hn_92, f_91, hW, hB_G_85, hF, hq_86, hS, hl⟩ := hI
              refine lv_iload_n hx hb dX12_pavement_395 rfl (lv_at hl 0 rfl) ?_
              refine lv_iconst (v := 3) hx hb dX12_pavement_396 (by decide) ?_
              refine lv_icmp_ge (tgt := 413) hx hb dX12_pavement_397 (by decide) (fun c_93 => ?_) (fun c_93 => ?_)
              · have c_93 : 3 ≤ x_89.toInt := xI_le rfl rfl c_93
                refine lv_aload_n hx hb dX12_pavement_413 rfl (lv_at hl 1 rfl) ?_
                refine S_getI (v := (G_2.1 66 45)) (C := RX12) (T := TX12) (N := 89) hx hb hg iX12 hown hK hW kd_66 rfl 52 (by decide) (hg (Cond.fieldLink RX12 425 "SlabWalkModel" "streets" "I") m1366) (fun _ h9 => h9) rfl ((hq_86.i 66 52 (by decide) (by decide)).trans ((gp_ne eG_84 (by decide)).trans ((gp_ne eG_82 (by decide)).trans ((gp_ne eG_81 (by decide)).trans ((gp_ne eG_80 (by decide)).trans ((gp_ne eG_78 (fun q => absurd q.1 (by decide))).trans ((gp_ne eG_75 (fun q => absurd q.1 (by decide))).trans ((hq_67.i 66 52 (by decide) (by decide)).trans ((hq_55.i 66 52 (by decide) (by decide)).trans ((hq_45.i 66 52 (by decide) (by decide)).trans ((hq_33.i 66 52 (by decide) (by decide)).trans ((hq_18.i 66 52 (by decide) (by decide)).trans ((gp_ne eG_15 (by decide)).trans ((gp_ne eG_14 (by decide)).trans ((gp_ne eG_13 (by decide)).trans ((gp_ne eG_12 (by decide)).trans ((gp_ne eG_10 (by decide)).trans (gp_eq eG_8)))))))))))))))))) dX12_pavement_414 ?_
                have g_94 : gP G_85 = gP G_32 := gP_fr (rs := [87, 88, 89, 90, 91, 92, 93, 94, 95, 110, 117]) (fs := [(66, 66), (66, 78), (66, 79), (66, 85)]) ((((((((((Fr.rf.call hq_45 (by decide) (by decide)).call hq_55 (by decide) (by decide)).call hq_67 (by decide) (by decide)).put eG_75 (Or.inl (by decide))).put eG_78 (Or.inl (by decide))).put eG_80 (Or.inr (by decide))).put eG_81 (Or.inr (by decide))).put eG_82 (Or.inr (by decide))).put eG_84 (Or.inr (by decide))).call hq_86 (by decide) (by decide)) (by decide) (by decide)
                have g_95 : gS G_85 = gS G_82 := gS_fr (rs := [117]) (fs := [(66, 66)]) ((Fr.rf.put eG_84 (Or.inr (by decide))).call hq_86 (by decide) (by decide)) (by decide) (by decide)
                have g_96 : gW G_85 = gW G_54 := gW_fr (rs := [110, 117]) (fs := [(66, 66), (66, 78), (66, 79), (66, 85)]) ((((((((Fr.rf.call hq_67 (by decide) (by decide)).put eG_75 (Or.inl (by decide))).put eG_78 (Or.inl (by decide))).put eG_80 (Or.inr (by decide))).put eG_81 (Or.inr (by decide))).put eG_82 (Or.inr (by decide))).put eG_84 (Or.inr (by decide))).call hq_86 (by decide) (by decide)) (by decide) (by decide)
                have b_97 : 0 ≤ (G_2.1 66 1).toInt ∧ (G_2.1 66 1).toInt ≤ 1600 := hB_G_2.i 66 1 rfl rfl
                have g_98 : (G_85.1 66 1).toInt = (G_2.1 66 1).toInt := by rw [show G_85.1 66 1 = (G_2.1 66 1) from ((hq_86.i 66 1 (by decide) (by decide)).trans ((gp_ne eG_84 (by decide)).trans ((gp_ne eG_82 (by decide)).trans ((gp_ne eG_81 (by decide)).trans ((gp_ne eG_80 (by decide)).trans ((gp_ne eG_78 (fun q => absurd q.1 (by decide))).trans ((gp_ne eG_75 (fun q => absurd q.1 (by decide))).trans ((hq_67.i 66 1 (by decide) (by decide)).trans ((hq_55.i 66 1 (by decide) (by decide)).trans ((hq_45.i 66 1 (by decide) (by decide)).trans ((hq_33.i 66 1 (by decide) (by decide)).trans ((hq_18.i 66 1 (by decide) (by decide)).trans ((gp_ne eG_15 (by decide)).trans ((gp_ne eG_14 (by decide)).trans ((gp_ne eG_13 (by decide)).trans ((gp_ne eG_12 (by decide)).trans ((gp_ne eG_10 (by decide)).trans (gp_ne eG_8 (by decide)))))))))))))))))))]
                have g_99 : (G_85.1 66 78).toInt = 0 := by rw [show G_85.1 66 78 = 0 from ((hq_86.i 66 78 (by decide) (by decide)).trans ((gp_ne eG_84 (by decide)).trans ((gp_ne eG_82 (by decide)).trans ((gp_ne eG_81 (by decide)).trans (gp_eq eG_80)))))]; rfl
                have g_100 : (G_85.1 66 79).toInt = 0 := by rw [show G_85.1 66 79 = 0 from ((hq_86.i 66 79 (by decide) (by decide)).trans ((gp_ne eG_84 (by decide)).trans ((gp_ne eG_82 (by decide)).trans (gp_eq eG_81))))]; rfl
                have b_101 : 0 ≤ (G_17.1 96 0).toInt ∧ (G_17.1 96 0).toInt ≤ 9 := hB_G_17.i 96 0 rfl rfl
                have g_102 : (G_85.1 96 0).toInt = (G_17.1 96 0).toInt := by rw [show G_85.1 96 0 = (G_17.1 96 0) from ((hq_86.i 96 0 (by decide) (by decide)).trans ((gp_ne eG_84 (by decide)).trans ((gp_ne eG_82 (by decide)).trans ((gp_ne eG_81 (by decide)).trans ((gp_ne eG_80 (by decide)).trans ((gp_ne eG_78 (fun q => absurd q.1 (by decide))).trans ((gp_ne eG_75 (fun q => absurd q.1 (by decide))).trans ((hq_67.i 96 0 (by decide) (by decide)).trans ((hq_55.i 96 0 (by decide) (by decide)).trans ((hq_45.i 96 0 (by decide) (by decide)).trans (hq_33.i 96 0 (by decide) (by decide))))))))))))]
                have b_103 : 0 ≤ (G_17.1 96 1).toInt ∧ (G_17.1 96 1).toInt ≤ 9 := hB_G_17.i 96 1 rfl rfl
                have g_104 : (G_85.1 96 1).toInt = (G_17.1 96 1).toInt := by rw [show G_85.1 96 1 = (G_17.1 96 1) from ((hq_86.i 96 1 (by decide) (by decide)).trans ((gp_ne eG_84 (by decide)).trans ((gp_ne eG_82 (by decide)).trans ((gp_ne eG_81 (by decide)).trans ((gp_ne eG_80 (by decide)).trans ((gp_ne eG_78 (fun q => absurd q.1 (by decide))).trans ((gp_ne eG_75 (fun q => absurd q.1 (by decide))).trans ((hq_67.i 96 1 (by decide) (by decide)).trans ((hq_55.i 96 1 (by decide) (by decide)).trans ((hq_45.i 96 1 (by decide) (by decide)).trans (hq_33.i 96 1 (by decide) (by decide))))))))))))]
                have b_105 : 0 ≤ (G_17.1 96 2).toInt ∧ (G_17.1 96 2).toInt ≤ 9 := hB_G_17.i 96 2 rfl rfl
                have g_106 : (G_85.1 96 2).toInt = (G_17.1 96 2).toInt := by rw [show G_85.1 96 2 = (G_17.1 96 2) from ((hq_86.i 96 2 (by decide) (by decide)).trans ((gp_ne eG_84 (by decide)).trans ((gp_ne eG_82 (by decide)).trans ((gp_ne eG_81 (by decide)).trans ((gp_ne eG_80 (by decide)).trans ((gp_ne eG_78 (fun q => absurd q.1 (by decide))).trans ((gp_ne eG_75 (fun q => absurd q.1 (by decide))).trans ((hq_67.i 96 2 (by decide) (by decide)).trans ((hq_55.i 96 2 (by decide) (by decide)).trans ((hq_45.i 96 2 (by decide) (by decide)).trans (hq_33.i 96 2 (by decide) (by decide))))))))))))]
                exact W.iret (v := (G_2.1 66 45)) hx hb hr (fun t ht _ => ⟨⟨(G_2.1 66 45), G_85, rfl, ⟨hB_G_85, hF, (by omega)⟩, wd_t ht hW⟩, hS.F ht⟩) hS.2.2 dX12_pavement_417
              · have c_93 : x_89.toInt < 3 := xI_nle rfl rfl c_93
                refine lv_aload_n hx hb dX12_pavement_400 rfl (lv_at hl 1 rfl) ?_
                refine S_getR (n := 117) (C := RX12) (T := TX12) (N := 89) hx hb hg iX12 hown hK hW kd_66 rfl 87 (by decide) (hg (Cond.fieldLink RX12 172 "SlabWalkModel" "hasBox" "[Z") m1401) (fun _ h9 => h9) rfl dX12_pavement_401 ?_
                refine lv_iload_n hx hb dX12_pavement_404 rfl (lv_at hl 0 rfl) ?_
                refine lv_iconst (v := 0) hx hb dX12_pavement_405 (by decide) ?_
                refine S_zast hx hb hK hW hS kd_117 (vin (by omega) (by omega)) dX12_pavement_406 (fun G_107 H locs eG_107 hW hS => ?_)
                have hB_G_107 : Bd G_107 := hB_G_85.put (lo := 0) (hi := 1) eG_107 rfl rfl rfl nz_bool.1 nz_bool.2 (hB_G_85.2.put eG_107 rfl)
                have hF := hF.put eG_107 (Or.inl (by decide))
                obtain ⟨y_108, ey_108⟩ : ∃ q, q = x_89 + 1 := ⟨_, rfl⟩
                have ty_108 : y_108.toInt = x_89.toInt + 1 := xI_add rfl rfl ey_108 (by omega) (by omega)
                refine lv_iinc (v := y_108) (lv' := [(1, .int y_108), (0, .ref (a 66))]) hx hb dX12_pavement_407 hl (k := 0) rfl (by rw [ey_108]; rfl) (by decide) rfl (fun ls hl => ?_)
                refine lv_goto (tgt := 395) hx hb dX12_pavement_410 (by decide) ?_
                exact ih_87 (3 - y_108.toInt : Int).toNat (by omega) _ _ _ ⟨G_107, y_108, (Int.toNat_of_nonneg (by omega)), ⟨by omega, by omega⟩, hW, hB_G_107, hF, ((Fr.rf.call hq_86 (by decide) (by decide)).put eG_107 (Or.inl (by decide))), hS, lv_sub hl [0, 1] rfl⟩
            · have c_74 : x_70.toInt < 10 := xI_nle rfl rfl c_74
              refine lv_aload_n hx hb dX12_pavement_342 rfl (lv_at hl 1 rfl) ?_
              refine S_getR (n := 110) (C := RX12) (T := TX12) (N := 89) hx hb hg iX12 hown hK hW kd_66 rfl 76 (by decide) (hg (Cond.fieldLink RX12 151 "SlabWalkModel" "now" "[I") m1390) (fun _ h9 => h9) rfl dX12_pavement_343 ?_
              refine lv_iload_n hx hb dX12_pavement_346 rfl (lv_at hl 0 rfl) ?_
              refine lv_iconst (v := 0) hx hb dX12_pavement_347 (by decide) ?_
              refine S_iast hx hb hK hW hS kd_110 (vin (by omega) (by omega)) dX12_pavement_348 (fun G_109 H locs eG_109 hW hS => ?_)
              have qc_110 : (0 : Int32).toInt = 0 := rfl
              have hB_G_109 : Bd G_109 := hB_G_66.putNow 110 (by decide) eG_109 (by omega) (by omega) (by omega) rfl
              have hF := hF.put eG_109 (Or.inl (by decide))
              obtain ⟨y_111, ey_111⟩ : ∃ q, q = x_70 + 1 := ⟨_, rfl⟩
              have ty_111 : y_111.toInt = x_70.toInt + 1 := xI_add rfl rfl ey_111 (by omega) (by omega)
              refine lv_iinc (v := y_111) (lv' := [(1, .int y_111), (0, .ref (a 66))]) hx hb dX12_pavement_349 hl (k := 0) rfl (by rw [ey_111]; rfl) (by decide) rfl (fun ls hl => ?_)
              refine lv_goto (tgt := 336) hx hb dX12_pavement_352 (by decide) ?_
              exact ih_68 (10 - y_111.toInt : Int).toNat (by omega) _ _ _ ⟨G_109, y_111, (Int.toNat_of_nonneg (by omega)), ⟨by omega, by omega⟩, hW, hB_G_109, hF, ((Fr.rf.call hq_67 (by decide) (by decide)).put eG_109 (Or.inl (by decide))), hS, lv_sub hl [0, 1] rfl⟩
          · have c_63 : x_58.toInt < (G_2.1 66 46).toInt := xI_nle rfl rfl c_63
            obtain ⟨w1_, w2_, w3_, w4_, w5_, w6_, w7_⟩ := gN_at (G := G_2) (by omega) x_58 (by omega) (by omega)
            refine lv_aload_n hx hb dX12_pavement_280 rfl (lv_at hl 1 rfl) ?_
            refine S_getR (n := 92) (C := RX12) (T := TX12) (N := 89) hx hb hg iX12 hown hK hW kd_66 rfl 40 (by decide) (hg (Cond.fieldLink RX12 90 "SlabWalkModel" "foots" "[I") m1354) (fun _ h9 => h9) rfl dX12_pavement_281 ?_
            refine lv_iload_n hx hb dX12_pavement_284 rfl (lv_at hl 0 rfl) ?_
            refine lv_aload_n hx hb dX12_pavement_285 rfl (lv_at hl 1 rfl) ?_
            refine S_getR (n := 82) (C := RX12) (T := TX12) (N := 89) hx hb hg iX12 hown hK hW kd_66 rfl 30 (by decide) (hg (Cond.fieldLink RX12 60 "SlabWalkModel" "nFoot" "[I") m1344) (fun _ h9 => h9) rfl dX12_pavement_286 ?_
            refine lv_iload_n hx hb dX12_pavement_289 rfl (lv_at hl 0 rfl) ?_
            refine S_iald hx hb hK hW kd_82 (vin (by omega) (by omega)) dX12_pavement_290 (fun y_112 ey_112 => ?_)
            have u_113 : y_112.toInt = (G_2.1 82 x_58.toNatClampNeg).toInt := congrArg Int32.toInt (ey_112.trans (((hq_55.ri 82 (by decide) (by decide) x_58.toNatClampNeg).trans ((hq_45.ri 82 (by decide) (by decide) x_58.toNatClampNeg).trans ((hq_33.ri 82 (by decide) (by decide) x_58.toNatClampNeg).trans ((hq_18.ri 82 (by decide) (by decide) x_58.toNatClampNeg).trans ((gp_ne eG_15 (fun q => absurd q.1 (by decide))).trans ((gp_ne eG_14 (fun q => absurd q.1 (by decide))).trans ((gp_ne eG_13 (fun q => absurd q.1 (by decide))).trans ((gp_ne eG_12 (fun q => absurd q.1 (by decide))).trans ((gp_ne eG_10 (fun q => absurd q.1 (by decide))).trans (gp_ne eG_8 (fun q => absurd q.1 (by decide))))))))))))))
            refine S_iast hx hb hK hW hS kd_92 (vin (by omega) (by omega)) dX12_pavement_291 (fun G_114 H locs eG_114 hW hS => ?_)
            have hB_G_114 : Bd G_114 := hB_G_54.put (V := y_112.toInt) (lo := 0) (hi := 12) eG_114 rfl rfl rfl (by omega) (by omega) (hB_G_54.2.put eG_114 rfl)
            have hF := hF.put eG_114 (Or.inl (by decide))
            refine lv_aload_n hx hb dX12_pavement_292 rfl (lv_at hl 1 rfl) ?_
            refine S_getR (n := 93) (C := RX12) (T := TX12) (N := 89) hx hb hg iX12 hown hK hW kd_66 rfl 41 (by decide) (hg (Cond.fieldLink RX12 93 "SlabWalkModel" "leasts" "[I") m1355) (fun _ h9 => h9) rfl dX12_pavement_293 ?_
            refine lv_iload_n hx hb dX12_pavement_296 rfl (lv_at hl 0 rfl) ?_
            refine lv_aload_n hx hb dX12_pavement_297 rfl (lv_at hl 1 rfl) ?_
            refine S_getR (n := 83) (C := RX12) (T := TX12) (N := 89) hx hb hg iX12 hown hK hW kd_66 rfl 31 (by decide) (hg (Cond.fieldLink RX12 63 "SlabWalkModel" "nLeast" "[I") m1345) (fun _ h9 => h9) rfl dX12_pavement_298 ?_
            refine lv_iload_n hx hb dX12_pavement_301 rfl (lv_at hl 0 rfl) ?_
            refine S_iald hx hb hK hW kd_83 (vin (by omega) (by omega)) dX12_pavement_302 (fun y_115 ey_115 => ?_)
            have u_116 : y_115.toInt = (G_2.1 83 x_58.toNatClampNeg).toInt := congrArg Int32.toInt (ey_115.trans (((gp_ne eG_114 (fun q => absurd q.1 (by decide))).trans ((hq_55.ri 83 (by decide) (by decide) x_58.toNatClampNeg).trans ((hq_45.ri 83 (by decide) (by decide) x_58.toNatClampNeg).trans ((hq_33.ri 83 (by decide) (by decide) x_58.toNatClampNeg).trans ((hq_18.ri 83 (by decide) (by decide) x_58.toNatClampNeg).trans ((gp_ne eG_15 (fun q => absurd q.1 (by decide))).trans ((gp_ne eG_14 (fun q => absurd q.1 (by decide))).trans ((gp_ne eG_13 (fun q => absurd q.1 (by decide))).trans ((gp_ne eG_12 (fun q => absurd q.1 (by decide))).trans ((gp_ne eG_10 (fun q => absurd q.1 (by decide))).trans (gp_ne eG_8 (fun q => absurd q.1 (by decide)))))))))))))))
            refine S_iast hx hb hK hW hS kd_93 (vin (by omega) (by omega)) dX12_pavement_303 (fun G_117 H locs eG_117 hW hS => ?_)
            have hB_G_117 : Bd G_117 := hB_G_114.put (V := y_115.toInt) (lo := 0) (hi := 60) eG_117 rfl rfl rfl (by omega) (by omega) (hB_G_114.2.put eG_117 rfl)
            have hF := hF.put eG_117 (Or.inl (by decide))
            refine lv_aload_n hx hb dX12_pavement_304 rfl (lv_at hl 1 rfl) ?_
            refine S_getR (n := 94) (C := RX12) (T := TX12) (N := 89) hx hb hg iX12 hown hK hW kd_66 rfl 42 (by decide) (hg (Cond.fieldLink RX12 96 "SlabWalkModel" "mosts" "[I") m1356) (fun _ h9 => h9) rfl dX12_pavement_305 ?_
            refine lv_iload_n hx hb dX12_pavement_308 rfl (lv_at hl 0 rfl) ?_
            refine lv_aload_n hx hb dX12_pavement_309 rfl (lv_at hl 1 rfl) ?_
            refine S_getR (n := 84) (C := RX12) (T := TX12) (N := 89) hx hb hg iX12 hown hK hW kd_66 rfl 32 (by decide) (hg (Cond.fieldLink RX12 66 "SlabWalkModel" "nMost" "[I") m1346) (fun _ h9 => h9) rfl dX12_pavement_310 ?_
            refine lv_iload_n hx hb dX12_pavement_313 rfl (lv_at hl 0 rfl) ?_
            refine S_iald hx hb hK hW kd_84 (vin (by omega) (by omega)) dX12_pavement_314 (fun y_118 ey_118 => ?_)
            have u_119 : y_118.toInt = (G_2.1 84 x_58.toNatClampNeg).toInt := congrArg Int32.toInt (ey_118.trans (((gp_ne eG_117 (fun q => absurd q.1 (by decide))).trans ((gp_ne eG_114 (fun q => absurd q.1 (by decide))).trans ((hq_55.ri 84 (by decide) (by decide) x_58.toNatClampNeg).trans ((hq_45.ri 84 (by decide) (by decide) x_58.toNatClampNeg).trans ((hq_33.ri 84 (by decide) (by decide) x_58.toNatClampNeg).trans ((hq_18.ri 84 (by decide) (by decide) x_58.toNatClampNeg).trans ((gp_ne eG_15 (fun q => absurd q.1 (by decide))).trans ((gp_ne eG_14 (fun q => absurd q.1 (by decide))).trans ((gp_ne eG_13 (fun q => absurd q.1 (by decide))).trans ((gp_ne eG_12 (fun q => absurd q.1 (by decide))).trans ((gp_ne eG_10 (fun q => absurd q.1 (by decide))).trans (gp_ne eG_8 (fun q => absurd q.1 (by decide))))))))))))))))
            refine S_iast hx hb hK hW hS kd_94 (vin (by omega) (by omega)) dX12_pavement_315 (fun G_120 H locs eG_120 hW hS => ?_)
            have hB_G_120 : Bd G_120 := hB_G_117.put (V := y_118.toInt) (lo := 0) (hi := 60) eG_120 rfl rfl rfl (by omega) (by omega) (hB_G_117.2.put eG_120 rfl)
            have hF := hF.put eG_120 (Or.inl (by decide))
            refine lv_aload_n hx hb dX12_pavement_316 rfl (lv_at hl 1 rfl) ?_
            refine S_getR (n := 95) (C := RX12) (T := TX12) (N := 89) hx hb hg iX12 hown hK hW kd_66 rfl 43 (by decide) (hg (Cond.fieldLink RX12 99 "SlabWalkModel" "leaps" "[I") m1357) (fun _ h9 => h9) rfl dX12_pavement_317 ?_
            refine lv_iload_n hx hb dX12_pavement_320 rfl (lv_at hl 0 rfl) ?_
            refine lv_aload_n hx hb dX12_pavement_321 rfl (lv_at hl 1 rfl) ?_
            refine S_getR (n := 85) (C := RX12) (T := TX12) (N := 89) hx hb hg iX12 hown hK hW kd_66 rfl 33 (by decide) (hg (Cond.fieldLink RX12 69 "SlabWalkModel" "nLeap" "[I") m1347) (fun _ h9 => h9) rfl dX12_pavement_322 ?_
            refine lv_iload_n hx hb dX12_pavement_325 rfl (lv_at hl 0 rfl) ?_
            refine S_iald hx hb hK hW kd_85 (vin (by omega) (by omega)) dX12_pavement_326 (fun y_121 ey_121 => ?_)
            have u_122 : y_121.toInt = (G_2.1 85 x_58.toNatClampNeg).toInt := congrArg Int32.toInt (ey_121.trans (((gp_ne eG_120 (fun q => absurd q.1 (by decide))).trans ((gp_ne eG_117 (fun q => absurd q.1 (by decide))).trans ((gp_ne eG_114 (fun q => absurd q.1 (by decide))).trans ((hq_55.ri 85 (by decide) (by decide) x_58.toNatClampNeg).trans ((hq_45.ri 85 (by decide) (by decide) x_58.toNatClampNeg).trans ((hq_33.ri 85 (by decide) (by decide) x_58.toNatClampNeg).trans ((hq_18.ri 85 (by decide) (by decide) x_58.toNatClampNeg).trans ((gp_ne eG_15 (fun q => absurd q.1 (by decide))).trans ((gp_ne eG_14 (fun q => absurd q.1 (by decide))).trans ((gp_ne eG_13 (fun q => absurd q.1 (by decide))).trans ((gp_ne eG_12 (fun q => absurd q.1 (by decide))).trans ((gp_ne eG_10 (fun q => absurd q.1 (by decide))).trans (gp_ne eG_8 (fun q => absurd q.1 (by decide)))))))))))))))))
            refine S_iast hx hb hK hW hS kd_95 (vin (by omega) (by omega)) dX12_pavement_327 (fun G_123 H locs eG_123 hW hS => ?_)
            have hB_G_123 : Bd G_123 := hB_G_120.put (V := y_121.toInt) (lo := 0) (hi := 99) eG_123 rfl rfl rfl (by omega) (by omega) (hB_G_120.2.put eG_123 rfl)
            have hF := hF.put eG_123 (Or.inl (by decide))
            obtain ⟨y_124, ey_124⟩ : ∃ q, q = x_58 + 1 := ⟨_, rfl⟩
            have ty_124 : y_124.toInt = x_58.toInt + 1 := xI_add rfl rfl ey_124 (by omega) (by omega)
            refine lv_iinc (v := y_124) (lv' := [(1, .int y_124), (0, .ref (a 66))]) hx hb dX12_pavement_328 hl (k := 0) rfl (by rw [ey_124]; rfl) (by decide) rfl (fun ls hl => ?_)
            have hwp_125 : WP G_123 y_124.toInt := WP_step (x := x_58) (show WP G_54 x_58.toInt by assumption) (by omega) eG_114 eG_117 eG_120 eG_123 ⟨by omega, by omega, by omega, by omega, by omega, by omega, by omega⟩ (by omega)
            refine lv_goto (tgt := 272) hx hb dX12_pavement_331 (by decide) ?_
            exact ih_56 (4 - y_124.toInt : Int).toNat (by omega) _ _ _ ⟨G_123, y_124, (Int.toNat_of_nonneg (by omega)), ⟨by omega, by omega⟩, (by assumption), hW, hB_G_123, hF, (((((Fr.rf.call hq_55 (by decide) (by decide)).put eG_114 (Or.inl (by decide))).put eG_117 (Or.inl (by decide))).put eG_120 (Or.inl (by decide))).put eG_123 (Or.inl (by decide))), hS, lv_sub hl [0, 1] rfl⟩
        · have c_52 : x_48.toInt < (G_2.1 66 45).toInt := xI_nle rfl rfl c_52
          refine lv_aload_n hx hb dX12_pavement_176 rfl (lv_at hl 1 rfl) ?_
          refine S_getR (n := 91) (C := RX12) (T := TX12) (N := 89) hx hb hg iX12 hown hK hW kd_66 rfl 39 (by decide) (hg (Cond.fieldLink RX12 87 "SlabWalkModel" "lengths" "[I") m1353) (fun _ h9 => h9) rfl dX12_pavement_177 ?_
          refine lv_iload_n hx hb dX12_pavement_180 rfl (lv_at hl 0 rfl) ?_
          refine lv_aload_n hx hb dX12_pavement_181 rfl (lv_at hl 1 rfl) ?_
          refine S_getR (n := 81) (C := RX12) (T := TX12) (N := 89) hx hb hg iX12 hown hK hW kd_66 rfl 29 (by decide) (hg (Cond.fieldLink RX12 57 "SlabWalkModel" "nLength" "[I") m1343) (fun _ h9 => h9) rfl dX12_pavement_182 ?_
          refine lv_iload_n hx hb dX12_pavement_185 rfl (lv_at hl 0 rfl) ?_
          refine S_iald hx hb hK hW kd_81 (vin (by omega) (by omega)) dX12_pavement_186 (fun y_126 ey_126 => ?_)
          have ty_126 : 0 ≤ y_126.toInt ∧ y_126.toInt ≤ 400 := hB_G_44.v ey_126 rfl rfl
          have u_127 : y_126.toInt = (G_2.1 81 x_48.toNatClampNeg).toInt := congrArg Int32.toInt (ey_126.trans (((hq_45.ri 81 (by decide) (by decide) x_48.toNatClampNeg).trans ((hq_33.ri 81 (by decide) (by decide) x_48.toNatClampNeg).trans ((hq_18.ri 81 (by decide) (by decide) x_48.toNatClampNeg).trans ((gp_ne eG_15 (fun q => absurd q.1 (by decide))).trans ((gp_ne eG_14 (fun q => absurd q.1 (by decide))).trans ((gp_ne eG_13 (fun q => absurd q.1 (by decide))).trans ((gp_ne eG_12 (fun q => absurd q.1 (by decide))).trans ((gp_ne eG_10 (fun q => absurd q.1 (by decide))).trans (gp_ne eG_8 (fun q => absurd q.1 (by decide)))))))))))))
          refine S_iast hx hb hK hW hS kd_91 (vin (by omega) (by omega)) dX12_pavement_187 (fun G_128 H locs eG_128 hW hS => ?_)
          have hB_G_128 : Bd G_128 := hB_G_44.put (V := y_126.toInt) (lo := 0) (hi := 400) eG_128 rfl rfl rfl (by omega) (by omega) (hB_G_44.2.put eG_128 rfl)
          have hF := hF.put eG_128 (Or.inl (by decide))
          refine lv_sipush (v := 400) hx hb dX12_pavement_188 (by decide) ?_
          refine lv_iload_n hx hb dX12_pavement_191 rfl (lv_at hl 0 rfl) ?_
          refine lv_imul hx hb dX12_pavement_192 ?_
          refine lv_topi (fun y_129 ey_129 => ?_)
          have ty_129 : y_129.toInt = 400 * x_48.toInt := xI_mul rfl rfl ey_129 (by omega) (by omega)
          refine lv_istore_n (lv' := [(2, .int y_129), (1, .int x_48), (0, .ref (a 66))]) hx hb dX12_pavement_193 rfl hl (by decide) rfl (fun ls hl => ?_)
          refine loop_N (Inv := fun n H locs ls => ∃ (G_130 : GS) (x_134 : Int32), (n : Int) = 1200 - x_134.toInt ∧ (0 ≤ x_134.toInt ∧ x_134.toInt ≤ 1200) ∧ Wd D k A a G_130 H ∧ Bd G_130 ∧ Fr [110, 117, 68, 69, 70, 71, 72, 73, 74, 75, 77, 78, 79, 80, 81, 82, 83, 84, 85, 86, 87, 88, 89, 90, 91, 92, 93, 94, 95, 96] [(66, 1), (66, 2), (66, 3), (66, 4), (66, 5), (66, 6), (66, 7), (66, 8), (66, 9), (66, 19), (66, 20), (66, 21), (66, 22), (66, 23), (66, 24), (66, 45), (66, 46), (66, 47), (66, 48), (66, 49), (66, 50), (66, 51), (66, 52), (66, 53), (66, 54), (66, 55), (66, 56), (66, 66), (66, 78), (66, 79), (66, 85)] G G_130 ∧ Fr [87, 88, 89, 90] [] G_128 G_130 ∧ va_S A s.heap H locs ∧ lv_has ls 3 [(2, .int x_134), (1, .int x_48), (0, .ref (a 66))]) (fun n_133 H locs ls ih_132 hI => ?_) (1200 - y_129.toInt : Int).toNat ⟨G_128, y_129, (Int.toNat_of_nonneg (by omega)), ⟨by omega, by omega⟩, hW, hB_G_128, hF, Fr.rf, hS, lv_sub hl [0, 1, 2] rfl⟩
          obtain ⟨G_130, x_134, hn_136, f_135, hW, hB_G_130, hF, hq_131, hS, hl⟩ := hI
          refine lv_iload_n hx hb dX12_pavement_194 rfl (lv_at hl 0 rfl) ?_
          refine lv_sipush (v := 400) hx hb dX12_pavement_195 (by decide) ?_
          refine lv_iload_n hx hb dX12_pavement_198 rfl (lv_at hl 1 rfl) ?_
          refine lv_imul hx hb dX12_pavement_199 ?_
          refine lv_topi (fun y_137 ey_137 => ?_)
          have ty_137 : y_137.toInt = 400 * x_48.toInt := xI_mul rfl rfl ey_137 (by omega) (by omega)
          refine lv_aload_n hx hb dX12_pavement_200 rfl (lv_at hl 2 rfl) ?_
          refine S_getR (n := 91) (C := RX12) (T := TX12) (N := 89) hx hb hg iX12 hown hK hW kd_66 rfl 39 (by decide) (hg (Cond.fieldLink RX12 87 "SlabWalkModel" "lengths" "[I") m1353) (fun _ h9 => h9) rfl dX12_pavement_201 ?_
          refine lv_iload_n hx hb dX12_pavement_204 rfl (lv_at hl 1 rfl) ?_
          refine S_iald hx hb hK hW kd_91 (vin (by omega) (by omega)) dX12_pavement_205 (fun y_138 ey_138 => ?_)
          have ty_138 : 0 ≤ y_138.toInt ∧ y_138.toInt ≤ 400 := hB_G_130.v ey_138 rfl rfl
          have u_139 : y_138.toInt = y_126.toInt := congrArg Int32.toInt (ey_138.trans (((hq_131.ri 91 (by decide) (by decide) x_48.toNatClampNeg).trans (gp_eq eG_128))))
          refine lv_iadd hx hb dX12_pavement_206 ?_
          refine lv_topi (fun y_140 ey_140 => ?_)
          have ty_140 : y_140.toInt = y_137.toInt + y_138.toInt := xI_add rfl rfl ey_140 (by omega) (by omega)
          refine lv_icmp_ge (tgt := 264) hx hb dX12_pavement_207 (by decide) (fun c_141 => ?_) (fun c_141 => ?_)
          · have c_141 : y_140.toInt ≤ x_134.toInt := xI_le rfl rfl c_141
            obtain ⟨y_142, ey_142⟩ : ∃ q, q = x_48 + 1 := ⟨_, rfl⟩
            have ty_142 : y_142.toInt = x_48.toInt + 1 := xI_add rfl rfl ey_142 (by omega) (by omega)
            refine lv_iinc (v := y_142) (lv' := [(1, .int y_142), (2, .int x_134), (0, .ref (a 66))]) hx hb dX12_pavement_264 hl (k := 1) rfl (by rw [ey_142]; rfl) (by decide) rfl (fun ls hl => ?_)
            refine lv_goto (tgt := 168) hx hb dX12_pavement_267 (by decide) ?_
            exact ih_46 (3 - y_142.toInt : Int).toNat (by omega) _ _ _ ⟨G_130, y_142, (Int.toNat_of_nonneg (by omega)), ⟨by omega, by omega⟩, hW, hB_G_130, hF, (((Fr.rf.call hq_45 (by decide) (by decide)).put eG_128 (Or.inl (by decide))).call hq_131 (by decide) (by decide)), hS, lv_sub hl [0, 2] rfl⟩
          · have c_141 : x_134.toInt < y_140.toInt := xI_nle rfl rfl c_141
            refine lv_aload_n hx hb dX12_pavement_210 rfl (lv_at hl 2 rfl) ?_
            refine S_getR (n := 87) (C := RX12) (T := TX12) (N := 89) hx hb hg iX12 hown hK hW kd_66 rfl 35 (by decide) (hg (Cond.fieldLink RX12 75 "SlabWalkModel" "marks" "[I") m1349) (fun _ h9 => h9) rfl dX12_pavement_211 ?_
            refine lv_iload_n hx hb dX12_pavement_214 rfl (lv_at hl 0 rfl) ?_
            refine lv_aload_n hx hb dX12_pavement_215 rfl (lv_at hl 2 rfl) ?_
            refine S_getR (n := 77) (C := RX12) (T := TX12) (N := 89) hx hb hg iX12 hown hK hW kd_66 rfl 25 (by decide) (hg (Cond.fieldLink RX12 45 "SlabWalkModel" "nMarks" "[I") m1339) (fun _ h9 => h9) rfl dX12_pavement_216 ?_
            refine lv_iload_n hx hb dX12_pavement_219 rfl (lv_at hl 0 rfl) ?_
            refine S_iald hx hb hK hW kd_77 (vin (by omega) (by omega)) dX12_pavement_220 (fun y_143 ey_143 => ?_)
            have u_144 : y_143.toInt = (G_2.1 77 x_134.toNatClampNeg).toInt := congrArg Int32.toInt (ey_143.trans (((hq_131.ri 77 (by decide) (by decide) x_134.toNatClampNeg).trans ((gp_ne eG_128 (fun q => absurd q.1 (by decide))).trans ((hq_45.ri 77 (by decide) (by decide) x_134.toNatClampNeg).trans ((hq_33.ri 77 (by decide) (by decide) x_134.toNatClampNeg).trans ((hq_18.ri 77 (by decide) (by decide) x_134.toNatClampNeg).trans ((gp_ne eG_15 (fun q => absurd q.1 (by decide))).trans ((gp_ne eG_14 (fun q => absurd q.1 (by decide))).trans ((gp_ne eG_13 (fun q => absurd q.1 (by decide))).trans ((gp_ne eG_12 (fun q => absurd q.1 (by decide))).trans ((gp_ne eG_10 (fun q => absurd q.1 (by decide))).trans (gp_ne eG_8 (fun q => absurd q.1 (by decide)))))))))))))))
            refine S_iast hx hb hK hW hS kd_87 (vin (by omega) (by omega)) dX12_pavement_221 (fun G_145 H locs eG_145 hW hS => ?_)
            have hB_G_145 : Bd G_145 := hB_G_130.put (lo := (-2147483648)) (hi := 2147483647) eG_145 rfl rfl rfl (tI_rng _).1 (tI_rng _).2 (hB_G_130.2.put eG_145 rfl)
            have hF := hF.put eG_145 (Or.inl (by decide))
            refine lv_aload_n hx hb dX12_pavement_222 rfl (lv_at hl 2 rfl) ?_
            refine S_getR (n := 88) (C := RX12) (T := TX12) (N := 89) hx hb hg iX12 hown hK hW kd_66 rfl 36 (by decide) (hg (Cond.fieldLink RX12 78 "SlabWalkModel" "nths" "[I") m1350) (fun _ h9 => h9) rfl dX12_pavement_223 ?_
            refine lv_iload_n hx hb dX12_pavement_226 rfl (lv_at hl 0 rfl) ?_
            refine lv_aload_n hx hb dX12_pavement_227 rfl (lv_at hl 2 rfl) ?_
            refine S_getR (n := 78) (C := RX12) (T := TX12) (N := 89) hx hb hg iX12 hown hK hW kd_66 rfl 26 (by decide) (hg (Cond.fieldLink RX12 48 "SlabWalkModel" "nNths" "[I") m1340) (fun _ h9 => h9) rfl dX12_pavement_228 ?_
            refine lv_iload_n hx hb dX12_pavement_231 rfl (lv_at hl 0 rfl) ?_
            refine S_iald hx hb hK hW kd_78 (vin (by omega) (by omega)) dX12_pavement_232 (fun y_146 ey_146 => ?_)
            have u_147 : y_146.toInt = (G_2.1 78 x_134.toNatClampNeg).toInt := congrArg Int32.toInt (ey_146.trans (((gp_ne eG_145 (fun q => absurd q.1 (by decide))).trans ((hq_131.ri 78 (by decide) (by decide) x_134.toNatClampNeg).trans ((gp_ne eG_128 (fun q => absurd q.1 (by decide))).trans ((hq_45.ri 78 (by decide) (by decide) x_134.toNatClampNeg).trans ((hq_33.ri 78 (by decide) (by decide) x_134.toNatClampNeg).trans ((hq_18.ri 78 (by decide) (by decide) x_134.toNatClampNeg).trans ((gp_ne eG_15 (fun q => absurd q.1 (by decide))).trans ((gp_ne eG_14 (fun q => absurd q.1 (by decide))).trans ((gp_ne eG_13 (fun q => absurd q.1 (by decide))).trans ((gp_ne eG_12 (fun q => absurd q.1 (by decide))).trans ((gp_ne eG_10 (fun q => absurd q.1 (by decide))).trans (gp_ne eG_8 (fun q => absurd q.1 (by decide))))))))))))))))
            refine S_iast hx hb hK hW hS kd_88 (vin (by omega) (by omega)) dX12_pavement_233 (fun G_148 H locs eG_148 hW hS => ?_)
            have hB_G_148 : Bd G_148 := hB_G_145.put (lo := (-2147483648)) (hi := 2147483647) eG_148 rfl rfl rfl (tI_rng _).1 (tI_rng _).2 (hB_G_145.2.put eG_148 rfl)
            have hF := hF.put eG_148 (Or.inl (by decide))
            refine lv_aload_n hx hb dX12_pavement_234 rfl (lv_at hl 2 rfl) ?_
            refine S_getR (n := 89) (C := RX12) (T := TX12) (N := 89) hx hb hg iX12 hown hK hW kd_66 rfl 37 (by decide) (hg (Cond.fieldLink RX12 81 "SlabWalkModel" "inches" "[I") m1351) (fun _ h9 => h9) rfl dX12_pavement_235 ?_
            refine lv_iload_n hx hb dX12_pavement_238 rfl (lv_at hl 0 rfl) ?_
            refine lv_aload_n hx hb dX12_pavement_239 rfl (lv_at hl 2 rfl) ?_
            refine S_getR (n := 79) (C := RX12) (T := TX12) (N := 89) hx hb hg iX12 hown hK hW kd_66 rfl 27 (by decide) (hg (Cond.fieldLink RX12 51 "SlabWalkModel" "nInches" "[I") m1341) (fun _ h9 => h9) rfl dX12_pavement_240 ?_
            refine lv_iload_n hx hb dX12_pavement_243 rfl (lv_at hl 0 rfl) ?_
            refine S_iald hx hb hK hW kd_79 (vin (by omega) (by omega)) dX12_pavement_244 (fun y_149 ey_149 => ?_)
            have u_150 : y_149.toInt = (G_2.1 79 x_134.toNatClampNeg).toInt := congrArg Int32.toInt (ey_149.trans (((gp_ne eG_148 (fun q => absurd q.1 (by decide))).trans ((gp_ne eG_145 (fun q => absurd q.1 (by decide))).trans ((hq_131.ri 79 (by decide) (by decide) x_134.toNatClampNeg).trans ((gp_ne eG_128 (fun q => absurd q.1 (by decide))).trans ((hq_45.ri 79 (by decide) (by decide) x_134.toNatClampNeg).trans ((hq_33.ri 79 (by decide) (by decide) x_134.toNatClampNeg).trans ((hq_18.ri 79 (by decide) (by decide) x_134.toNatClampNeg).trans ((gp_ne eG_15 (fun q => absurd q.1 (by decide))).trans ((gp_ne eG_14 (fun q => absurd q.1 (by decide))).trans ((gp_ne eG_13 (fun q => absurd q.1 (by decide))).trans ((gp_ne eG_12 (fun q => absurd q.1 (by decide))).trans ((gp_ne eG_10 (fun q => absurd q.1 (by decide))).trans (gp_ne eG_8 (fun q => absurd q.1 (by decide)))))))))))))))))
            refine S_iast hx hb hK hW hS kd_89 (vin (by omega) (by omega)) dX12_pavement_245 (fun G_151 H locs eG_151 hW hS => ?_)
            have hB_G_151 : Bd G_151 := hB_G_148.put (lo := (-2147483648)) (hi := 2147483647) eG_151 rfl rfl rfl (tI_rng _).1 (tI_rng _).2 (hB_G_148.2.put eG_151 rfl)
            have hF := hF.put eG_151 (Or.inl (by decide))
            refine lv_aload_n hx hb dX12_pavement_246 rfl (lv_at hl 2 rfl) ?_
            refine S_getR (n := 90) (C := RX12) (T := TX12) (N := 89) hx hb hg iX12 hown hK hW kd_66 rfl 38 (by decide) (hg (Cond.fieldLink RX12 84 "SlabWalkModel" "longs" "[I") m1352) (fun _ h9 => h9) rfl dX12_pavement_247 ?_
            refine lv_iload_n hx hb dX12_pavement_250 rfl (lv_at hl 0 rfl) ?_
            refine lv_aload_n hx hb dX12_pavement_251 rfl (lv_at hl 2 rfl) ?_
            refine S_getR (n := 80) (C := RX12) (T := TX12) (N := 89) hx hb hg iX12 hown hK hW kd_66 rfl 28 (by decide) (hg (Cond.fieldLink RX12 54 "SlabWalkModel" "nLongs" "[I") m1342) (fun _ h9 => h9) rfl dX12_pavement_252 ?_
            refine lv_iload_n hx hb dX12_pavement_255 rfl (lv_at hl 0 rfl) ?_
            refine S_iald hx hb hK hW kd_80 (vin (by omega) (by omega)) dX12_pavement_256 (fun y_152 ey_152 => ?_)
            have u_153 : y_152.toInt = (G_2.1 80 x_134.toNatClampNeg).toInt := congrArg Int32.toInt (ey_152.trans (((gp_ne eG_151 (fun q => absurd q.1 (by decide))).trans ((gp_ne eG_148 (fun q => absurd q.1 (by decide))).trans ((gp_ne eG_145 (fun q => absurd q.1 (by decide))).trans ((hq_131.ri 80 (by decide) (by decide) x_134.toNatClampNeg).trans ((gp_ne eG_128 (fun q => absurd q.1 (by decide))).trans ((hq_45.ri 80 (by decide) (by decide) x_134.toNatClampNeg).trans ((hq_33.ri 80 (by decide) (by decide) x_134.toNatClampNeg).trans ((hq_18.ri 80 (by decide) (by decide) x_134.toNatClampNeg).trans ((gp_ne eG_15 (fun q => absurd q.1 (by decide))).trans ((gp_ne eG_14 (fun q => absurd q.1 (by decide))).trans ((gp_ne eG_13 (fun q => absurd q.1 (by decide))).trans ((gp_ne eG_12 (fun q => absurd q.1 (by decide))).trans ((gp_ne eG_10 (fun q => absurd q.1 (by decide))).trans (gp_ne eG_8 (fun q => absurd q.1 (by decide))))))))))))))))))
            refine S_iast hx hb hK hW hS kd_90 (vin (by omega) (by omega)) dX12_pavement_257 (fun G_154 H locs eG_154 hW hS => ?_)
            have hB_G_154 : Bd G_154 := hB_G_151.put (lo := (-2147483648)) (hi := 2147483647) eG_154 rfl rfl rfl (tI_rng _).1 (tI_rng _).2 (hB_G_151.2.put eG_154 rfl)
            have hF := hF.put eG_154 (Or.inl (by decide))
            obtain ⟨y_155, ey_155⟩ : ∃ q, q = x_134 + 1 := ⟨_, rfl⟩
            have ty_155 : y_155.toInt = x_134.toInt + 1 := xI_add rfl rfl ey_155 (by omega) (by omega)
            refine lv_iinc (v := y_155) (lv' := [(2, .int y_155), (1, .int x_48), (0, .ref (a 66))]) hx hb dX12_pavement_258 hl (k := 0) rfl (by rw [ey_155]; rfl) (by decide) rfl (fun ls hl => ?_)
            refine lv_goto (tgt := 194) hx hb dX12_pavement_261 (by decide) ?_
            exact ih_132 (1200 - y_155.toInt : Int).toNat (by omega) _ _ _ ⟨G_154, y_155, (Int.toNat_of_nonneg (by omega)), ⟨by omega, by omega⟩, hW, hB_G_154, hF, (((((Fr.rf.call hq_131 (by decide) (by decide)).put eG_145 (Or.inl (by decide))).put eG_148 (Or.inl (by decide))).put eG_151 (Or.inl (by decide))).put eG_154 (Or.inl (by decide))), hS, lv_sub hl [0, 1, 2] rfl⟩
      · have c_41 : x_36.toInt < (G_2.1 66 47).toInt := xI_nle rfl rfl c_41
        refine lv_aload_n hx hb dX12_pavement_96 rfl (lv_at hl 1 rfl) ?_
        refine S_getR (n := 74) (C := RX12) (T := TX12) (N := 89) hx hb hg iX12 hown hK hW kd_66 rfl 16 (by decide) (hg (Cond.fieldLink RX12 36 "SlabWalkModel" "many" "[I") m1330) (fun _ h9 => h9) rfl dX12_pavement_97 ?_
        refine lv_iload_n hx hb dX12_pavement_100 rfl (lv_at hl 0 rfl) ?_
        refine lv_aload_n hx hb dX12_pavement_101 rfl (lv_at hl 1 rfl) ?_
        refine S_getR (n := 71) (C := RX12) (T := TX12) (N := 89) hx hb hg iX12 hown hK hW kd_66 rfl 13 (by decide) (hg (Cond.fieldLink RX12 27 "SlabWalkModel" "nMany" "[I") m1327) (fun _ h9 => h9) rfl dX12_pavement_102 ?_
        refine lv_iload_n hx hb dX12_pavement_105 rfl (lv_at hl 0 rfl) ?_
        refine S_iald hx hb hK hW kd_71 (vin (by omega) (by omega)) dX12_pavement_106 (fun y_156 ey_156 => ?_)
        have ty_156 : 0 ≤ y_156.toInt ∧ y_156.toInt ≤ 320 := hB_G_32.v ey_156 rfl rfl
        have u_157 : y_156.toInt = (G_2.1 71 x_36.toNatClampNeg).toInt := congrArg Int32.toInt (ey_156.trans (((hq_33.ri 71 (by decide) (by decide) x_36.toNatClampNeg).trans ((hq_18.ri 71 (by decide) (by decide) x_36.toNatClampNeg).trans ((gp_ne eG_15 (fun q => absurd q.1 (by decide))).trans ((gp_ne eG_14 (fun q => absurd q.1 (by decide))).trans ((gp_ne eG_13 (fun q => absurd q.1 (by decide))).trans ((gp_ne eG_12 (fun q => absurd q.1 (by decide))).trans ((gp_ne eG_10 (fun q => absurd q.1 (by decide))).trans (gp_ne eG_8 (fun q => absurd q.1 (by decide))))))))))))
        refine S_iast hx hb hK hW hS kd_74 (vin (by omega) (by omega)) dX12_pavement_107 (fun G_158 H locs eG_158 hW hS => ?_)
        have hB_G_158 : Bd G_158 := hB_G_32.put (V := y_156.toInt) (lo := 0) (hi := 320) eG_158 rfl rfl rfl (by omega) (by omega) (hB_G_32.2.put eG_158 rfl)
        have hF := hF.put eG_158 (Or.inl (by decide))
        have hCm_ : CP G_158 x_36.toInt (320 * x_36.toInt) := CP_many (x := x_36) (show CP G_32 x_36.toInt (320 * x_36.toInt) by assumption) eG_158 rfl
        have hmn_159 : G_158.1 74 x_36.toNatClampNeg = G_158.1 71 x_36.toNatClampNeg := (gp_eq eG_158).trans (ey_156.trans (gp_ne eG_158 (fun q => absurd q.1 (by decide))).symm)
        have b_160 : 0 ≤ (G_158.1 74 x_36.toNatClampNeg).toInt ∧ (G_158.1 74 x_36.toNatClampNeg).toInt ≤ 320 := hB_G_158.i 74 _ rfl rfl
        refine lv_sipush (v := 320) hx hb dX12_pavement_108 (by decide) ?_
        refine lv_iload_n hx hb dX12_pavement_111 rfl (lv_at hl 0 rfl) ?_
        refine lv_imul hx hb dX12_pavement_112 ?_
        refine lv_topi (fun y_161 ey_161 => ?_)
        have ty_161 : y_161.toInt = 320 * x_36.toInt := xI_mul rfl rfl ey_161 (by omega) (by omega)
        have hcp_162 : CP G_158 x_36.toInt (y_161.toInt) := by rw [ty_161]; exact hCm_
        refine lv_istore_n (lv' := [(2, .int y_161), (1, .int x_36), (0, .ref (a 66))]) hx hb dX12_pavement_113 rfl hl (by decide) rfl (fun ls hl => ?_)
        refine loop_N (Inv := fun n H locs ls => ∃ (G_163 : GS) (x_167 : Int32), (n : Int) = 1920 - x_167.toInt ∧ (0 ≤ x_167.toInt ∧ x_167.toInt ≤ 1920) ∧ (CP G_163 x_36.toInt (x_167.toInt)) ∧ (G_163.1 74 x_36.toNatClampNeg = G_163.1 71 x_36.toNatClampNeg) ∧ (320 * x_36.toInt ≤ x_167.toInt) ∧ (x_167.toInt ≤ 320 * x_36.toInt + (G_163.1 74 x_36.toNatClampNeg).toInt) ∧ ((G_163.1 74 x_36.toNatClampNeg).toInt ≤ 320) ∧ Wd D k A a G_163 H ∧ Bd G_163 ∧ Fr [110, 117, 68, 69, 70, 71, 72, 73, 74, 75, 77, 78, 79, 80, 81, 82, 83, 84, 85, 86, 87, 88, 89, 90, 91, 92, 93, 94, 95, 96] [(66, 1), (66, 2), (66, 3), (66, 4), (66, 5), (66, 6), (66, 7), (66, 8), (66, 9), (66, 19), (66, 20), (66, 21), (66, 22), (66, 23), (66, 24), (66, 45), (66, 46), (66, 47), (66, 48), (66, 49), (66, 50), (66, 51), (66, 52), (66, 53), (66, 54), (66, 55), (66, 56), (66, 66), (66, 78), (66, 79), (66, 85)] G G_163 ∧ Fr [72, 73] [] G_158 G_163 ∧ va_S A s.heap H locs ∧ lv_has ls 3 [(2, .int x_167), (1, .int x_36), (0, .ref (a 66))]) (fun n_166 H locs ls ih_165 hI => ?_) (1920 - y_161.toInt : Int).toNat ⟨G_158, y_161, (Int.toNat_of_nonneg (by omega)), ⟨by omega, by omega⟩, (by assumption), (by assumption), (by omega), (by omega), (by omega), hW, hB_G_158, hF, Fr.rf, hS, lv_sub hl [0, 1, 2] rfl⟩
        obtain ⟨G_163, x_167, hn_174, f_168, f_169, f_170, f_171, f_172, f_173, hW, hB_G_163, hF, hq_164, hS, hl⟩ := hI
        have u_175 : (G_163.1 74 x_36.toNatClampNeg).toInt = y_156.toInt := congrArg Int32.toInt (((hq_164.ri 74 (by decide) (by decide) x_36.toNatClampNeg).trans (gp_eq eG_158)))
        refine lv_iload_n hx hb dX12_pavement_114 rfl (lv_at hl 0 rfl) ?_
        refine lv_sipush (v := 320) hx hb dX12_pavement_115 (by decide) ?_
        refine lv_iload_n hx hb dX12_pavement_118 rfl (lv_at hl 1 rfl) ?_
        refine lv_imul hx hb dX12_pavement_119 ?_
        refine lv_topi (fun y_176 ey_176 => ?_)
        have ty_176 : y_176.toInt = 320 * x_36.toInt := xI_mul rfl rfl ey_176 (by omega) (by omega)
        refine lv_aload_n hx hb dX12_pavement_120 rfl (lv_at hl 2 rfl) ?_
        refine S_getR (n := 74) (C := RX12) (T := TX12) (N := 89) hx hb hg iX12 hown hK hW kd_66 rfl 16 (by decide) (hg (Cond.fieldLink RX12 36 "SlabWalkModel" "many" "[I") m1330) (fun _ h9 => h9) rfl dX12_pavement_121 ?_
        refine lv_iload_n hx hb dX12_pavement_124 rfl (lv_at hl 1 rfl) ?_
        refine S_iald hx hb hK hW kd_74 (vin (by omega) (by omega)) dX12_pavement_125 (fun y_177 ey_177 => ?_)
        have ty_177 : 0 ≤ y_177.toInt ∧ y_177.toInt ≤ 320 := hB_G_163.v ey_177 rfl rfl
        have u_178 : y_177.toInt = y_156.toInt := congrArg Int32.toInt (ey_177.trans (((hq_164.ri 74 (by decide) (by decide) x_36.toNatClampNeg).trans (gp_eq eG_158))))
        refine lv_iadd hx hb dX12_pavement_126 ?_
        refine lv_topi (fun y_179 ey_179 => ?_)
        have ty_179 : y_179.toInt = y_176.toInt + y_177.toInt := xI_add rfl rfl ey_179 (by omega) (by omega)
        refine lv_icmp_ge (tgt := 160) hx hb dX12_pavement_127 (by decide) (fun c_180 => ?_) (fun c_180 => ?_)
        · have c_180 : y_179.toInt ≤ x_167.toInt := xI_le rfl rfl c_180
          obtain ⟨y_181, ey_181⟩ : ∃ q, q = x_36 + 1 := ⟨_, rfl⟩
          have ty_181 : y_181.toInt = x_36.toInt + 1 := xI_add rfl rfl ey_181 (by omega) (by omega)
          refine lv_iinc (v := y_181) (lv' := [(1, .int y_181), (2, .int x_167), (0, .ref (a 66))]) hx hb dX12_pavement_160 hl (k := 1) rfl (by rw [ey_181]; rfl) (by decide) rfl (fun ls hl => ?_)
          have g_182 : gE G_163 = gE G_2 := gE_fr (rs := [72, 73, 74, 96]) (fs := [(66, 22), (66, 52), (66, 53), (66, 54), (66, 55), (66, 56)]) ((((((((((Fr.rf.put eG_8 (Or.inr (by decide))).put eG_10 (Or.inr (by decide))).put eG_12 (Or.inr (by decide))).put eG_13 (Or.inr (by decide))).put eG_14 (Or.inr (by decide))).put eG_15 (Or.inr (by decide))).call hq_18 (by decide) (by decide)).call hq_33 (by decide) (by decide)).put eG_158 (Or.inl (by decide))).call hq_164 (by decide) (by decide)) (by decide) (by decide)
          have g_183 : (G_163.1 66 47).toInt = (G_2.1 66 47).toInt := by rw [show G_163.1 66 47 = (G_2.1 66 47) from ((hq_164.i 66 47 (by decide) (by decide)).trans ((gp_ne eG_158 (fun q => absurd q.1 (by decide))).trans ((hq_33.i 66 47 (by decide) (by decide)).trans ((hq_18.i 66 47 (by decide) (by decide)).trans ((gp_ne eG_15 (by decide)).trans ((gp_ne eG_14 (by decide)).trans ((gp_ne eG_13 (by decide)).trans ((gp_ne eG_12 (by decide)).trans ((gp_ne eG_10 (by decide)).trans ((gp_ne eG_8 (by decide)).trans (rfl)))))))))))]
          have hcp_184 : CP G_163 y_181.toInt (320 * y_181.toInt) := CP_next (f := x_36) (show CP G_163 x_36.toInt (x_167.toInt) by assumption) (by omega) (by omega) (by omega) (by assumption) (by omega) (by omega)
          refine lv_goto (tgt := 88) hx hb dX12_pavement_163 (by decide) ?_
          exact ih_34 (6 - y_181.toInt : Int).toNat (by omega) _ _ _ ⟨G_163, y_181, (Int.toNat_of_nonneg (by omega)), ⟨by omega, by omega⟩, (by assumption), hW, hB_G_163, hF, (((Fr.rf.call hq_33 (by decide) (by decide)).put eG_158 (Or.inl (by decide))).call hq_164 (by decide) (by decide)), hS, lv_sub hl [0, 2] rfl⟩
        · have c_180 : x_167.toInt < y_179.toInt := xI_nle rfl rfl c_180
          refine lv_aload_n hx hb dX12_pavement_130 rfl (lv_at hl 2 rfl) ?_
          refine S_getR (n := 72) (C := RX12) (T := TX12) (N := 89) hx hb hg iX12 hown hK hW kd_66 rfl 14 (by decide) (hg (Cond.fieldLink RX12 30 "SlabWalkModel" "step" "[I") m1328) (fun _ h9 => h9) rfl dX12_pavement_131 ?_
          refine lv_iload_n hx hb dX12_pavement_134 rfl (lv_at hl 0 rfl) ?_
          refine lv_aload_n hx hb dX12_pavement_135 rfl (lv_at hl 2 rfl) ?_
          refine S_getR (n := 69) (C := RX12) (T := TX12) (N := 89) hx hb hg iX12 hown hK hW kd_66 rfl 11 (by decide) (hg (Cond.fieldLink RX12 21 "SlabWalkModel" "nStep" "[I") m1325) (fun _ h9 => h9) rfl dX12_pavement_136 ?_
          refine lv_iload_n hx hb dX12_pavement_139 rfl (lv_at hl 0 rfl) ?_
          refine S_iald hx hb hK hW kd_69 (vin (by omega) (by omega)) dX12_pavement_140 (fun y_185 ey_185 => ?_)
          have u_186 : y_185.toInt = (G_2.1 69 x_167.toNatClampNeg).toInt := congrArg Int32.toInt (ey_185.trans (((hq_164.ri 69 (by decide) (by decide) x_167.toNatClampNeg).trans ((gp_ne eG_158 (fun q => absurd q.1 (by decide))).trans ((hq_33.ri 69 (by decide) (by decide) x_167.toNatClampNeg).trans ((hq_18.ri 69 (by decide) (by decide) x_167.toNatClampNeg).trans ((gp_ne eG_15 (fun q => absurd q.1 (by decide))).trans ((gp_ne eG_14 (fun q => absurd q.1 (by decide))).trans ((gp_ne eG_13 (fun q => absurd q.1 (by decide))).trans ((gp_ne eG_12 (fun q => absurd q.1 (by decide))).trans ((gp_ne eG_10 (fun q => absurd q.1 (by decide))).trans (gp_ne eG_8 (fun q => absurd q.1 (by decide))))))))))))))
          refine S_iast hx hb hK hW hS kd_72 (vin (by omega) (by omega)) dX12_pavement_141 (fun G_187 H locs eG_187 hW hS => ?_)
          have hB_G_187 : Bd G_187 := hB_G_163.put (lo := (-2147483648)) (hi := 2147483647) eG_187 rfl rfl rfl (tI_rng _).1 (tI_rng _).2 (hB_G_163.2.put eG_187 rfl)
          have hF := hF.put eG_187 (Or.inl (by decide))
          refine lv_aload_n hx hb dX12_pavement_142 rfl (lv_at hl 2 rfl) ?_
          refine S_getR (n := 73) (C := RX12) (T := TX12) (N := 89) hx hb hg iX12 hown hK hW kd_66 rfl 15 (by decide) (hg (Cond.fieldLink RX12 33 "SlabWalkModel" "arg" "[I") m1329) (fun _ h9 => h9) rfl dX12_pavement_143 ?_
          refine lv_iload_n hx hb dX12_pavement_146 rfl (lv_at hl 0 rfl) ?_
          refine lv_aload_n hx hb dX12_pavement_147 rfl (lv_at hl 2 rfl) ?_
          refine S_getR (n := 70) (C := RX12) (T := TX12) (N := 89) hx hb hg iX12 hown hK hW kd_66 rfl 12 (by decide) (hg (Cond.fieldLink RX12 24 "SlabWalkModel" "nArg" "[I") m1326) (fun _ h9 => h9) rfl dX12_pavement_148 ?_
          refine lv_iload_n hx hb dX12_pavement_151 rfl (lv_at hl 0 rfl) ?_
          refine S_iald hx hb hK hW kd_70 (vin (by omega) (by omega)) dX12_pavement_152 (fun y_188 ey_188 => ?_)
          have u_189 : y_188.toInt = (G_2.1 70 x_167.toNatClampNeg).toInt := congrArg Int32.toInt (ey_188.trans (((gp_ne eG_187 (fun q => absurd q.1 (by decide))).trans ((hq_164.ri 70 (by decide) (by decide) x_167.toNatClampNeg).trans ((gp_ne eG_158 (fun q => absurd q.1 (by decide))).trans ((hq_33.ri 70 (by decide) (by decide) x_167.toNatClampNeg).trans ((hq_18.ri 70 (by decide) (by decide) x_167.toNatClampNeg).trans ((gp_ne eG_15 (fun q => absurd q.1 (by decide))).trans ((gp_ne eG_14 (fun q => absurd q.1 (by decide))).trans ((gp_ne eG_13 (fun q => absurd q.1 (by decide))).trans ((gp_ne eG_12 (fun q => absurd q.1 (by decide))).trans ((gp_ne eG_10 (fun q => absurd q.1 (by decide))).trans (gp_ne eG_8 (fun q => absurd q.1 (by decide)))))))))))))))
          refine S_iast hx hb hK hW hS kd_73 (vin (by omega) (by omega)) dX12_pavement_153 (fun G_190 H locs eG_190 hW hS => ?_)
          have hB_G_190 : Bd G_190 := hB_G_187.put (lo := (-2147483648)) (hi := 2147483647) eG_190 rfl rfl rfl (tI_rng _).1 (tI_rng _).2 (hB_G_187.2.put eG_190 rfl)
          have hF := hF.put eG_190 (Or.inl (by decide))
          obtain ⟨y_191, ey_191⟩ : ∃ q, q = x_167 + 1 := ⟨_, rfl⟩
          have ty_191 : y_191.toInt = x_167.toInt + 1 := xI_add rfl rfl ey_191 (by omega) (by omega)
          refine lv_iinc (v := y_191) (lv' := [(2, .int y_191), (1, .int x_36), (0, .ref (a 66))]) hx hb dX12_pavement_154 hl (k := 0) rfl (by rw [ey_191]; rfl) (by decide) rfl (fun ls hl => ?_)
          have hcp_192 : CP G_190 x_36.toInt (y_191.toInt) := CP_step (k := x_167) hB_G_163 (show CP G_163 x_36.toInt (x_167.toInt) by assumption) eG_187 ey_185 eG_190 (by decide) (by omega) (by omega) (by omega)
          have hk74_ : G_190.1 74 x_36.toNatClampNeg = G_163.1 74 x_36.toNatClampNeg := (gp_ne eG_190 (fun q => absurd q.1 (by decide))).trans (gp_ne eG_187 (fun q => absurd q.1 (by decide)))
          have hk71_ : G_190.1 71 x_36.toNatClampNeg = G_163.1 71 x_36.toNatClampNeg := (gp_ne eG_190 (fun q => absurd q.1 (by decide))).trans (gp_ne eG_187 (fun q => absurd q.1 (by decide)))
          have hmn_193 : G_190.1 74 x_36.toNatClampNeg = G_190.1 71 x_36.toNatClampNeg := hk74_.trans ((show G_163.1 74 x_36.toNatClampNeg = G_163.1 71 x_36.toNatClampNeg by assumption).trans hk71_.symm)
          have u_194 : (G_190.1 74 x_36.toNatClampNeg).toInt = (G_163.1 74 x_36.toNatClampNeg).toInt := congrArg Int32.toInt hk74_
          refine lv_goto (tgt := 114) hx hb dX12_pavement_157 (by decide) ?_
          exact ih_165 (1920 - y_191.toInt : Int).toNat (by omega) _ _ _ ⟨G_190, y_191, (Int.toNat_of_nonneg (by omega)), ⟨by omega, by omega⟩, (by assumption), (by assumption), (by omega), (by omega), (by omega), hW, hB_G_190, hF, (((Fr.rf.call hq_164 (by decide) (by decide)).put eG_187 (Or.inl (by decide))).put eG_190 (Or.inl (by decide))), hS, lv_sub hl [0, 1, 2] rfl⟩
    · have c_26 : x_21.toInt < 3 := xI_nle rfl rfl c_26
      refine lv_aload_n hx hb dX12_pavement_68 rfl (lv_at hl 1 rfl) ?_
      refine S_getR (n := 96) (C := RX12) (T := TX12) (N := 89) hx hb hg iX12 hown hK hW kd_66 rfl 44 (by decide) (hg (Cond.fieldLink RX12 102 "SlabWalkModel" "slips" "[I") m1358) (fun _ h9 => h9) rfl dX12_pavement_69 ?_
      refine lv_iload_n hx hb dX12_pavement_72 rfl (lv_at hl 0 rfl) ?_
      refine lv_aload_n hx hb dX12_pavement_73 rfl (lv_at hl 1 rfl) ?_
      refine S_getR (n := 86) (C := RX12) (T := TX12) (N := 89) hx hb hg iX12 hown hK hW kd_66 rfl 34 (by decide) (hg (Cond.fieldLink RX12 72 "SlabWalkModel" "nSlips" "[I") m1348) (fun _ h9 => h9) rfl dX12_pavement_74 ?_
      refine lv_iload_n hx hb dX12_pavement_77 rfl (lv_at hl 0 rfl) ?_
      refine S_iald hx hb hK hW kd_86 (vin (by omega) (by omega)) dX12_pavement_78 (fun y_195 ey_195 => ?_)
      have u_196 : y_195.toInt = (G_2.1 86 x_21.toNatClampNeg).toInt := congrArg Int32.toInt (ey_195.trans (((hq_18.ri 86 (by decide) (by decide) x_21.toNatClampNeg).trans ((gp_ne eG_15 (fun q => absurd q.1 (by decide))).trans ((gp_ne eG_14 (fun q => absurd q.1 (by decide))).trans ((gp_ne eG_13 (fun q => absurd q.1 (by decide))).trans ((gp_ne eG_12 (fun q => absurd q.1 (by decide))).trans ((gp_ne eG_10 (fun q => absurd q.1 (by decide))).trans (gp_ne eG_8 (fun q => absurd q.1 (by decide)))))))))))
      have u_197 := slN (G := G_2) (x := x_21) (by omega) (by omega) (by omega)
      refine S_iast hx hb hK hW hS kd_96 (vin (by omega) (by omega)) dX12_pavement_79 (fun G_198 H locs eG_198 hW hS => ?_)
      have hB_G_198 : Bd G_198 := hB_G_17.put (V := y_195.toInt) (lo := 0) (hi := 9) eG_198 rfl rfl rfl (by omega) (by omega) (hB_G_17.2.put eG_198 rfl)
      have hF := hF.put eG_198 (Or.inl (by decide))
      obtain ⟨y_199, ey_199⟩ : ∃ q, q = x_21 + 1 := ⟨_, rfl⟩
      have ty_199 : y_199.toInt = x_21.toInt + 1 := xI_add rfl rfl ey_199 (by omega) (by omega)
      refine lv_iinc (v := y_199) (lv' := [(1, .int y_199), (0, .ref (a 66))]) hx hb dX12_pavement_80 hl (k := 0) rfl (by rw [ey_199]; rfl) (by decide) rfl (fun ls hl => ?_)
      have hsp_200 : SP G_198 y_199.toInt := SP_step (x := x_21) (by assumption) (by omega) eG_198 ey_195 (by omega)
      refine lv_goto (tgt := 63) hx hb dX12_pavement_83 (by decide) ?_
      exact ih_19 (3 - y_199.toInt : Int).toNat (by omega) _ _ _ ⟨G_198, y_199, (Int.toNat_of_nonneg (by omega)), ⟨by omega, by omega⟩, (by assumption), hW, hB_G_198, hF, ((Fr.rf.call hq_18 (by decide) (by decide)).put eG_198 (Or.inl (by decide))), hS, lv_sub hl [0, 1] rfl⟩
  · have c_6 : 0 < (G_2.1 66 2).toInt := xI_nle rfl rfl c_6
    refine lv_iconst (v := (-1)) hx hb dX12_pavement_11 (by decide) ?_
    have g_201 : gP G_2 = gP G := gP_fr (rs := [68, 69, 70, 71, 75, 77, 78, 79, 80, 81, 82, 83, 84, 85, 86]) (fs := [(66, 1), (66, 2), (66, 3), (66, 4), (66, 5), (66, 6), (66, 7), (66, 8), (66, 9), (66, 19), (66, 20), (66, 21), (66, 23), (66, 24), (66, 45), (66, 46), (66, 47), (66, 48), (66, 49), (66, 50), (66, 51)]) (Fr.rf.call hq_3 (by decide) (by decide)) (by decide) (by decide)
    have g_202 : gS G_2 = gS G := gS_fr (rs := [68, 69, 70, 71, 75, 77, 78, 79, 80, 81, 82, 83, 84, 85, 86]) (fs := [(66, 1), (66, 2), (66, 3), (66, 4), (66, 5), (66, 6), (66, 7), (66, 8), (66, 9), (66, 19), (66, 20), (66, 21), (66, 23), (66, 24), (66, 45), (66, 46), (66, 47), (66, 48), (66, 49), (66, 50), (66, 51)]) (Fr.rf.call hq_3 (by decide) (by decide)) (by decide) (by decide)
    have g_203 : gW G_2 = gW G := gW_fr (rs := [68, 69, 70, 71, 75, 77, 78, 79, 80, 81, 82, 83, 84, 85, 86]) (fs := [(66, 1), (66, 2), (66, 3), (66, 4), (66, 5), (66, 6), (66, 7), (66, 8), (66, 9), (66, 19), (66, 20), (66, 21), (66, 23), (66, 24), (66, 45), (66, 46), (66, 47), (66, 48), (66, 49), (66, 50), (66, 51)]) (Fr.rf.call hq_3 (by decide) (by decide)) (by decide) (by decide)
    have b_204 : 0 ≤ (G_2.1 66 1).toInt ∧ (G_2.1 66 1).toInt ≤ 1600 := hB_G_2.i 66 1 rfl rfl
    have b_205 : 0 ≤ (G.1 66 78).toInt ∧ (G.1 66 78).toInt ≤ 40 := hB_G.i 66 78 rfl rfl
    have g_206 : (G_2.1 66 78).toInt = (G.1 66 78).toInt := by rw [show G_2.1 66 78 = (G.1 66 78) from (hq_3.i 66 78 (by decide) (by decide))]
    have b_207 : 0 ≤ (G.1 66 79).toInt ∧ (G.1 66 79).toInt ≤ 40 := hB_G.i 66 79 rfl rfl
    have g_208 : (G_2.1 66 79).toInt = (G.1 66 79).toInt := by rw [show G_2.1 66 79 = (G.1 66 79) from (hq_3.i 66 79 (by decide) (by decide))]
    have b_209 : 0 ≤ (G.1 96 0).toInt ∧ (G.1 96 0).toInt ≤ 9 := hB_G.i 96 0 rfl rfl
    have g_210 : (G_2.1 96 0).toInt = (G.1 96 0).toInt := by rw [show G_2.1 96 0 = (G.1 96 0) from (hq_3.i 96 0 (by decide) (by decide))]
    have b_211 : 0 ≤ (G.1 96 1).toInt ∧ (G.1 96 1).toInt ≤ 9 := hB_G.i 96 1 rfl rfl
    have g_212 : (G_2.1 96 1).toInt = (G.1 96 1).toInt := by rw [show G_2.1 96 1 = (G.1 96 1) from (hq_3.i 96 1 (by decide) (by decide))]
    have b_213 : 0 ≤ (G.1 96 2).toInt ∧ (G.1 96 2).toInt ≤ 9 := hB_G.i 96 2 rfl rfl
    have g_214 : (G_2.1 96 2).toInt = (G.1 96 2).toInt := by rw [show G_2.1 96 2 = (G.1 96 2) from (hq_3.i 96 2 (by decide) (by decide))]
    exact W.iret (v := (-1)) hx hb hr (fun t ht _ => ⟨⟨(-1), G_2, rfl, ⟨hB_G_2, hF, (by have hq : ((-1) : Int32).toInt = (-1) := rfl; (try dsimp only); omega)⟩, wd_t ht hW⟩, hS.F ht⟩) hS.2.2 dX12_pavement_12
