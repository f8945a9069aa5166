theorem m610 : Cond.methodLink RL 13 yX11_feed ∈ gd := gdc_3_0 14 rfl gw_methodLink
theorem m611 : Cond.instanceMethod yX11_feed ∈ gd := gdc_3_0 15 rfl gw_instanceMethod
theorem m612 : Cond.selects RX11 yX11_feed yX11_feed ∈ gd := gdc_3_1 0 rfl gw_selects
theorem m613 : Cond.code yX11_feed cX11_feed 6 (some .int) ∈ gd := gdc_3_1 1 rfl gw_code
theorem m618 : Cond.methodLink RL 18 yX11_end ∈ gd := gdc_3_1 6 rfl gw_methodLink
theorem m619 : Cond.instanceMethod yX11_end ∈ gd := gdc_3_1 7 rfl gw_instanceMethod
theorem m620 : Cond.selects RX11 yX11_end yX11_end ∈ gd := gdc_3_1 8 rfl gw_selects
theorem m621 : Cond.code yX11_end cX11_end 2 (some .int) ∈ gd := gdc_3_1 9 rfl gw_code
theorem m622 : Cond.methodLink RL 23 yX11_pavement ∈ gd := gdc_3_1 10 rfl gw_methodLink
theorem m623 : Cond.instanceMethod yX11_pavement ∈ gd := gdc_3_1 11 rfl gw_instanceMethod
theorem m624 : Cond.selects RX11 yX11_pavement yX11_pavement ∈ gd := gdc_3_1 12 rfl gw_selects
theorem m625 : Cond.code yX11_pavement cX11_pavement 3 (some .int) ∈ gd := gdc_3_1 13 rfl gw_code
theorem m874 : Cond.methodLink RL 28 yX11_fault ∈ gd := gdc_4_2 6 rfl gw_methodLink
theorem m875 : Cond.instanceMethod yX11_fault ∈ gd := gdc_4_2 7 rfl gw_instanceMethod
theorem m876 : Cond.selects RX11 yX11_fault yX11_fault ∈ gd := gdc_4_2 8 rfl gw_selects
theorem m877 : Cond.code yX11_fault cX11_fault 2 (some .int) ∈ gd := gdc_4_2 9 rfl gw_code
theorem m878 : Cond.methodLink RL 32 yX11_inch ∈ gd := gdc_4_2 10 rfl gw_methodLink
theorem m879 : Cond.instanceMethod yX11_inch ∈ gd := gdc_4_2 11 rfl gw_instanceMethod
theorem m880 : Cond.selects RX11 yX11_inch yX11_inch ∈ gd := gdc_4_2 12 rfl gw_selects
theorem m881 : Cond.code yX11_inch cX11_inch 4 (some .int) ∈ gd := gdc_4_2 13 rfl gw_code
theorem m898 : Cond.methodLink RL 37 yX11_length ∈ gd := gdc_4_3 14 rfl gw_methodLink
theorem m899 : Cond.instanceMethod yX11_length ∈ gd := gdc_4_3 15 rfl gw_instanceMethod
theorem m900 : Cond.selects RX11 yX11_length yX11_length ∈ gd := gdc_4_4 0 rfl gw_selects
theorem m901 : Cond.code yX11_length cX11_length 2 (some .int) ∈ gd := gdc_4_4 1 rfl gw_code
theorem m1582 : Cond.methodLink RL 17 yX12_feed ∈ gd := gdc_7_1 10 rfl gw_methodLink
theorem m1583 : Cond.instanceMethod yX12_feed ∈ gd := gdc_7_1 11 rfl gw_instanceMethod
theorem m1584 : Cond.selects RX12 yX12_feed yX12_feed ∈ gd := gdc_7_1 12 rfl gw_selects
theorem m1585 : Cond.code yX12_feed cX12_feed 6 (some .int) ∈ gd := gdc_7_1 13 rfl gw_code
theorem m1590 : Cond.methodLink RL 22 yX12_end ∈ gd := gdc_7_2 2 rfl gw_methodLink
theorem m1591 : Cond.instanceMethod yX12_end ∈ gd := gdc_7_2 3 rfl gw_instanceMethod
theorem m1592 : Cond.selects RX12 yX12_end yX12_end ∈ gd := gdc_7_2 4 rfl gw_selects
theorem m1593 : Cond.code yX12_end cX12_end 2 (some .int) ∈ gd := gdc_7_2 5 rfl gw_code
theorem m1594 : Cond.methodLink RL 27 yX12_pavement ∈ gd := gdc_7_2 6 rfl gw_methodLink
theorem m1595 : Cond.instanceMethod yX12_pavement ∈ gd := gdc_7_2 7 rfl gw_instanceMethod
theorem m1596 : Cond.selects RX12 yX12_pavement yX12_pavement ∈ gd := gdc_7_2 8 rfl gw_selects
theorem m1597 : Cond.code yX12_pavement cX12_pavement 3 (some .int) ∈ gd := gdc_7_2 9 rfl gw_code
theorem m1769 : Cond.methodLink RL 31 yX12_fault ∈ gd := gdc_7_13 5 rfl gw_methodLink
theorem m1770 : Cond.instanceMethod yX12_fault ∈ gd := gdc_7_13 6 rfl gw_instanceMethod
theorem m1771 : Cond.selects RX12 yX12_fault yX12_fault ∈ gd := gdc_7_13 7 rfl gw_selects
theorem m1772 : Cond.code yX12_fault cX12_fault 2 (some .int) ∈ gd := gdc_7_13 8 rfl gw_code
theorem m1773 : Cond.methodLink RL 36 yX12_inch ∈ gd := gdc_7_13 9 rfl gw_methodLink
theorem m1774 : Cond.instanceMethod yX12_inch ∈ gd := gdc_7_13 10 rfl gw_instanceMethod
theorem m1775 : Cond.selects RX12 yX12_inch yX12_inch ∈ gd := gdc_7_13 11 rfl gw_selects
theorem m1776 : Cond.code yX12_inch cX12_inch 5 (some .int) ∈ gd := gdc_7_13 12 rfl gw_code
theorem m1791 : Cond.methodLink RL 40 yX12_length ∈ gd := gdc_7_14 11 rfl gw_methodLink
theorem m1792 : Cond.instanceMethod yX12_length ∈ gd := gdc_7_14 12 rfl gw_instanceMethod
theorem m1793 : Cond.selects RX12 yX12_length yX12_length ∈ gd := gdc_7_14 13 rfl gw_selects
theorem m1794 : Cond.code yX12_length cX12_length 2 (some .int) ∈ gd := gdc_7_14 14 rfl gw_code
def rbL_law_204 : List (Nat × List Nat) := [(204, [43]), (205, [42]), (206, [29]), (207, [4]), (208, [96]), (209, [46]), (210, [42]), (211, [29]), (212, [5]), (213, [96]), (214, [46]), (215, [42]), (216, [29]), (217, [6]), (218, [96]), (219, [46]), (220, [42]), (221, [29]), (222, [7]), (223, [96]), (224, [46]), (225, [42]), (226, [29]), (227, [8])]
theorem rcL_law_204 : dgo (lb cL_law) 0 rbL_law_204 = true := by decide +kernel
theorem dL_law_204 : decode cL_law 204 = .ok (.aload_n 1, 1) := dk_43 (dw rcL_law_204 0 rfl)
theorem dL_law_205 : decode cL_law 205 = .ok (.aload_n 0, 1) := dk_42 (dw rcL_law_204 1 rfl)
theorem dL_law_206 : decode cL_law 206 = .ok (.iload_n 3, 1) := dk_29 (dw rcL_law_204 2 rfl)
theorem dL_law_207 : decode cL_law 207 = .ok (.iconst 1, 1) := dk_4 (dw rcL_law_204 3 rfl)
theorem dL_law_208 : decode cL_law 208 = .ok (.iadd, 1) := dk_96 (dw rcL_law_204 4 rfl)
theorem dL_law_209 : decode cL_law 209 = .ok (.iaload, 1) := dk_46 (dw rcL_law_204 5 rfl)
theorem dL_law_210 : decode cL_law 210 = .ok (.aload_n 0, 1) := dk_42 (dw rcL_law_204 6 rfl)
theorem dL_law_211 : decode cL_law 211 = .ok (.iload_n 3, 1) := dk_29 (dw rcL_law_204 7 rfl)
theorem dL_law_212 : decode cL_law 212 = .ok (.iconst 2, 1) := dk_5 (dw rcL_law_204 8 rfl)
theorem dL_law_213 : decode cL_law 213 = .ok (.iadd, 1) := dk_96 (dw rcL_law_204 9 rfl)
theorem dL_law_214 : decode cL_law 214 = .ok (.iaload, 1) := dk_46 (dw rcL_law_204 10 rfl)
theorem dL_law_215 : decode cL_law 215 = .ok (.aload_n 0, 1) := dk_42 (dw rcL_law_204 11 rfl)
theorem dL_law_216 : decode cL_law 216 = .ok (.iload_n 3, 1) := dk_29 (dw rcL_law_204 12 rfl)
theorem dL_law_217 : decode cL_law 217 = .ok (.iconst 3, 1) := dk_6 (dw rcL_law_204 13 rfl)
theorem dL_law_218 : decode cL_law 218 = .ok (.iadd, 1) := dk_96 (dw rcL_law_204 14 rfl)
theorem dL_law_219 : decode cL_law 219 = .ok (.iaload, 1) := dk_46 (dw rcL_law_204 15 rfl)
theorem dL_law_220 : decode cL_law 220 = .ok (.aload_n 0, 1) := dk_42 (dw rcL_law_204 16 rfl)
theorem dL_law_221 : decode cL_law 221 = .ok (.iload_n 3, 1) := dk_29 (dw rcL_law_204 17 rfl)
theorem dL_law_222 : decode cL_law 222 = .ok (.iconst 4, 1) := dk_7 (dw rcL_law_204 18 rfl)
theorem dL_law_223 : decode cL_law 223 = .ok (.iadd, 1) := dk_96 (dw rcL_law_204 19 rfl)
theorem dL_law_224 : decode cL_law 224 = .ok (.iaload, 1) := dk_46 (dw rcL_law_204 20 rfl)
theorem dL_law_225 : decode cL_law 225 = .ok (.aload_n 0, 1) := dk_42 (dw rcL_law_204 21 rfl)
theorem dL_law_226 : decode cL_law 226 = .ok (.iload_n 3, 1) := dk_29 (dw rcL_law_204 22 rfl)
theorem dL_law_227 : decode cL_law 227 = .ok (.iconst 5, 1) := dk_8 (dw rcL_law_204 23 rfl)
def rbL_law_228 : List (Nat × List Nat) := [(228, [96]), (229, [46]), (230, [182, 0, 13]), (233, [87]), (234, [44]), (235, [42]), (236, [29]), (237, [4]), (238, [96]), (239, [46]), (240, [42]), (241, [29]), (242, [5]), (243, [96]), (244, [46]), (245, [42]), (246, [29]), (247, [6]), (248, [96]), (249, [46]), (250, [42]), (251, [29]), (252, [7]), (253, [96])]
theorem rcL_law_228 : dgo (lb cL_law) 0 rbL_law_228 = true := by decide +kernel
theorem dL_law_228 : decode cL_law 228 = .ok (.iadd, 1) := dk_96 (dw rcL_law_228 0 rfl)
theorem dL_law_229 : decode cL_law 229 = .ok (.iaload, 1) := dk_46 (dw rcL_law_228 1 rfl)
theorem dL_law_230 : decode cL_law 230 = .ok (.invokevirtual 13, 3) := dk_182 (dw rcL_law_228 2 rfl) rfl
theorem dL_law_233 : decode cL_law 233 = .ok (.pop, 1) := dk_87 (dw rcL_law_228 3 rfl)
theorem dL_law_234 : decode cL_law 234 = .ok (.aload_n 2, 1) := dk_44 (dw rcL_law_228 4 rfl)
theorem dL_law_235 : decode cL_law 235 = .ok (.aload_n 0, 1) := dk_42 (dw rcL_law_228 5 rfl)
theorem dL_law_236 : decode cL_law 236 = .ok (.iload_n 3, 1) := dk_29 (dw rcL_law_228 6 rfl)
theorem dL_law_237 : decode cL_law 237 = .ok (.iconst 1, 1) := dk_4 (dw rcL_law_228 7 rfl)
theorem dL_law_238 : decode cL_law 238 = .ok (.iadd, 1) := dk_96 (dw rcL_law_228 8 rfl)
theorem dL_law_239 : decode cL_law 239 = .ok (.iaload, 1) := dk_46 (dw rcL_law_228 9 rfl)
theorem dL_law_240 : decode cL_law 240 = .ok (.aload_n 0, 1) := dk_42 (dw rcL_law_228 10 rfl)
theorem dL_law_241 : decode cL_law 241 = .ok (.iload_n 3, 1) := dk_29 (dw rcL_law_228 11 rfl)
theorem dL_law_242 : decode cL_law 242 = .ok (.iconst 2, 1) := dk_5 (dw rcL_law_228 12 rfl)
theorem dL_law_243 : decode cL_law 243 = .ok (.iadd, 1) := dk_96 (dw rcL_law_228 13 rfl)
theorem dL_law_244 : decode cL_law 244 = .ok (.iaload, 1) := dk_46 (dw rcL_law_228 14 rfl)
theorem dL_law_245 : decode cL_law 245 = .ok (.aload_n 0, 1) := dk_42 (dw rcL_law_228 15 rfl)
theorem dL_law_246 : decode cL_law 246 = .ok (.iload_n 3, 1) := dk_29 (dw rcL_law_228 16 rfl)
theorem dL_law_247 : decode cL_law 247 = .ok (.iconst 3, 1) := dk_6 (dw rcL_law_228 17 rfl)
theorem dL_law_248 : decode cL_law 248 = .ok (.iadd, 1) := dk_96 (dw rcL_law_228 18 rfl)
theorem dL_law_249 : decode cL_law 249 = .ok (.iaload, 1) := dk_46 (dw rcL_law_228 19 rfl)
theorem dL_law_250 : decode cL_law 250 = .ok (.aload_n 0, 1) := dk_42 (dw rcL_law_228 20 rfl)
theorem dL_law_251 : decode cL_law 251 = .ok (.iload_n 3, 1) := dk_29 (dw rcL_law_228 21 rfl)
theorem dL_law_252 : decode cL_law 252 = .ok (.iconst 4, 1) := dk_7 (dw rcL_law_228 22 rfl)
theorem dL_law_253 : decode cL_law 253 = .ok (.iadd, 1) := dk_96 (dw rcL_law_228 23 rfl)
def rbL_law_254 : List (Nat × List Nat) := [(254, [46]), (255, [42]), (256, [29]), (257, [8]), (258, [96]), (259, [46]), (260, [182, 0, 17]), (263, [87]), (264, [167, 5, 97]), (267, [43]), (268, [42]), (269, [29]), (270, [4]), (271, [96]), (272, [46]), (273, [182, 0, 18]), (276, [87]), (277, [44]), (278, [42]), (279, [29]), (280, [4]), (281, [96]), (282, [46]), (283, [182, 0, 22])]
theorem rcL_law_254 : dgo (lb cL_law) 0 rbL_law_254 = true := by decide +kernel
theorem dL_law_254 : decode cL_law 254 = .ok (.iaload, 1) := dk_46 (dw rcL_law_254 0 rfl)
theorem dL_law_255 : decode cL_law 255 = .ok (.aload_n 0, 1) := dk_42 (dw rcL_law_254 1 rfl)
theorem dL_law_256 : decode cL_law 256 = .ok (.iload_n 3, 1) := dk_29 (dw rcL_law_254 2 rfl)
theorem dL_law_257 : decode cL_law 257 = .ok (.iconst 5, 1) := dk_8 (dw rcL_law_254 3 rfl)
theorem dL_law_258 : decode cL_law 258 = .ok (.iadd, 1) := dk_96 (dw rcL_law_254 4 rfl)
theorem dL_law_259 : decode cL_law 259 = .ok (.iaload, 1) := dk_46 (dw rcL_law_254 5 rfl)
theorem dL_law_260 : decode cL_law 260 = .ok (.invokevirtual 17, 3) := dk_182 (dw rcL_law_254 6 rfl) rfl
theorem dL_law_263 : decode cL_law 263 = .ok (.pop, 1) := dk_87 (dw rcL_law_254 7 rfl)
theorem dL_law_264 : decode cL_law 264 = .ok (.goto 1377, 3) := dk_167 (dw rcL_law_254 8 rfl) rfl
theorem dL_law_267 : decode cL_law 267 = .ok (.aload_n 1, 1) := dk_43 (dw rcL_law_254 9 rfl)
theorem dL_law_268 : decode cL_law 268 = .ok (.aload_n 0, 1) := dk_42 (dw rcL_law_254 10 rfl)
theorem dL_law_269 : decode cL_law 269 = .ok (.iload_n 3, 1) := dk_29 (dw rcL_law_254 11 rfl)
theorem dL_law_270 : decode cL_law 270 = .ok (.iconst 1, 1) := dk_4 (dw rcL_law_254 12 rfl)
theorem dL_law_271 : decode cL_law 271 = .ok (.iadd, 1) := dk_96 (dw rcL_law_254 13 rfl)
theorem dL_law_272 : decode cL_law 272 = .ok (.iaload, 1) := dk_46 (dw rcL_law_254 14 rfl)
theorem dL_law_273 : decode cL_law 273 = .ok (.invokevirtual 18, 3) := dk_182 (dw rcL_law_254 15 rfl) rfl
theorem dL_law_276 : decode cL_law 276 = .ok (.pop, 1) := dk_87 (dw rcL_law_254 16 rfl)
theorem dL_law_277 : decode cL_law 277 = .ok (.aload_n 2, 1) := dk_44 (dw rcL_law_254 17 rfl)
theorem dL_law_278 : decode cL_law 278 = .ok (.aload_n 0, 1) := dk_42 (dw rcL_law_254 18 rfl)
theorem dL_law_279 : decode cL_law 279 = .ok (.iload_n 3, 1) := dk_29 (dw rcL_law_254 19 rfl)
theorem dL_law_280 : decode cL_law 280 = .ok (.iconst 1, 1) := dk_4 (dw rcL_law_254 20 rfl)
theorem dL_law_281 : decode cL_law 281 = .ok (.iadd, 1) := dk_96 (dw rcL_law_254 21 rfl)
theorem dL_law_282 : decode cL_law 282 = .ok (.iaload, 1) := dk_46 (dw rcL_law_254 22 rfl)
theorem dL_law_283 : decode cL_law 283 = .ok (.invokevirtual 22, 3) := dk_182 (dw rcL_law_254 23 rfl) rfl
def rbL_law_286 : List (Nat × List Nat) := [(286, [87]), (287, [167, 5, 74]), (290, [43]), (291, [182, 0, 23]), (294, [87]), (295, [44]), (296, [182, 0, 27]), (299, [87]), (300, [167, 5, 61]), (303, [43]), (304, [42]), (305, [29]), (306, [4]), (307, [96]), (308, [46]), (309, [182, 0, 28]), (312, [87]), (313, [44]), (314, [42]), (315, [29]), (316, [4]), (317, [96]), (318, [46]), (319, [182, 0, 31])]
theorem rcL_law_286 : dgo (lb cL_law) 0 rbL_law_286 = true := by decide +kernel
theorem dL_law_286 : decode cL_law 286 = .ok (.pop, 1) := dk_87 (dw rcL_law_286 0 rfl)
theorem dL_law_287 : decode cL_law 287 = .ok (.goto 1354, 3) := dk_167 (dw rcL_law_286 1 rfl) rfl
theorem dL_law_290 : decode cL_law 290 = .ok (.aload_n 1, 1) := dk_43 (dw rcL_law_286 2 rfl)
theorem dL_law_291 : decode cL_law 291 = .ok (.invokevirtual 23, 3) := dk_182 (dw rcL_law_286 3 rfl) rfl
theorem dL_law_294 : decode cL_law 294 = .ok (.pop, 1) := dk_87 (dw rcL_law_286 4 rfl)
theorem dL_law_295 : decode cL_law 295 = .ok (.aload_n 2, 1) := dk_44 (dw rcL_law_286 5 rfl)
theorem dL_law_296 : decode cL_law 296 = .ok (.invokevirtual 27, 3) := dk_182 (dw rcL_law_286 6 rfl) rfl
theorem dL_law_299 : decode cL_law 299 = .ok (.pop, 1) := dk_87 (dw rcL_law_286 7 rfl)
theorem dL_law_300 : decode cL_law 300 = .ok (.goto 1341, 3) := dk_167 (dw rcL_law_286 8 rfl) rfl
theorem dL_law_303 : decode cL_law 303 = .ok (.aload_n 1, 1) := dk_43 (dw rcL_law_286 9 rfl)
theorem dL_law_304 : decode cL_law 304 = .ok (.aload_n 0, 1) := dk_42 (dw rcL_law_286 10 rfl)
theorem dL_law_305 : decode cL_law 305 = .ok (.iload_n 3, 1) := dk_29 (dw rcL_law_286 11 rfl)
theorem dL_law_306 : decode cL_law 306 = .ok (.iconst 1, 1) := dk_4 (dw rcL_law_286 12 rfl)
theorem dL_law_307 : decode cL_law 307 = .ok (.iadd, 1) := dk_96 (dw rcL_law_286 13 rfl)
theorem dL_law_308 : decode cL_law 308 = .ok (.iaload, 1) := dk_46 (dw rcL_law_286 14 rfl)
theorem dL_law_309 : decode cL_law 309 = .ok (.invokevirtual 28, 3) := dk_182 (dw rcL_law_286 15 rfl) rfl
theorem dL_law_312 : decode cL_law 312 = .ok (.pop, 1) := dk_87 (dw rcL_law_286 16 rfl)
theorem dL_law_313 : decode cL_law 313 = .ok (.aload_n 2, 1) := dk_44 (dw rcL_law_286 17 rfl)
theorem dL_law_314 : decode cL_law 314 = .ok (.aload_n 0, 1) := dk_42 (dw rcL_law_286 18 rfl)
theorem dL_law_315 : decode cL_law 315 = .ok (.iload_n 3, 1) := dk_29 (dw rcL_law_286 19 rfl)
theorem dL_law_316 : decode cL_law 316 = .ok (.iconst 1, 1) := dk_4 (dw rcL_law_286 20 rfl)
theorem dL_law_317 : decode cL_law 317 = .ok (.iadd, 1) := dk_96 (dw rcL_law_286 21 rfl)
theorem dL_law_318 : decode cL_law 318 = .ok (.iaload, 1) := dk_46 (dw rcL_law_286 22 rfl)
theorem dL_law_319 : decode cL_law 319 = .ok (.invokevirtual 31, 3) := dk_182 (dw rcL_law_286 23 rfl) rfl
def rbL_law_322 : List (Nat × List Nat) := [(322, [87]), (323, [167, 5, 38]), (326, [43]), (327, [42]), (328, [29]), (329, [4]), (330, [96]), (331, [46]), (332, [42]), (333, [29]), (334, [5]), (335, [96]), (336, [46]), (337, [42]), (338, [29]), (339, [6]), (340, [96]), (341, [46]), (342, [182, 0, 32]), (345, [87]), (346, [44]), (347, [42]), (348, [29]), (349, [4])]
theorem rcL_law_322 : dgo (lb cL_law) 0 rbL_law_322 = true := by decide +kernel
theorem dL_law_322 : decode cL_law 322 = .ok (.pop, 1) := dk_87 (dw rcL_law_322 0 rfl)
theorem dL_law_323 : decode cL_law 323 = .ok (.goto 1318, 3) := dk_167 (dw rcL_law_322 1 rfl) rfl
theorem dL_law_326 : decode cL_law 326 = .ok (.aload_n 1, 1) := dk_43 (dw rcL_law_322 2 rfl)
theorem dL_law_327 : decode cL_law 327 = .ok (.aload_n 0, 1) := dk_42 (dw rcL_law_322 3 rfl)
theorem dL_law_328 : decode cL_law 328 = .ok (.iload_n 3, 1) := dk_29 (dw rcL_law_322 4 rfl)
theorem dL_law_329 : decode cL_law 329 = .ok (.iconst 1, 1) := dk_4 (dw rcL_law_322 5 rfl)
theorem dL_law_330 : decode cL_law 330 = .ok (.iadd, 1) := dk_96 (dw rcL_law_322 6 rfl)
theorem dL_law_331 : decode cL_law 331 = .ok (.iaload, 1) := dk_46 (dw rcL_law_322 7 rfl)
theorem dL_law_332 : decode cL_law 332 = .ok (.aload_n 0, 1) := dk_42 (dw rcL_law_322 8 rfl)
theorem dL_law_333 : decode cL_law 333 = .ok (.iload_n 3, 1) := dk_29 (dw rcL_law_322 9 rfl)
theorem dL_law_334 : decode cL_law 334 = .ok (.iconst 2, 1) := dk_5 (dw rcL_law_322 10 rfl)
theorem dL_law_335 : decode cL_law 335 = .ok (.iadd, 1) := dk_96 (dw rcL_law_322 11 rfl)
theorem dL_law_336 : decode cL_law 336 = .ok (.iaload, 1) := dk_46 (dw rcL_law_322 12 rfl)
theorem dL_law_337 : decode cL_law 337 = .ok (.aload_n 0, 1) := dk_42 (dw rcL_law_322 13 rfl)
theorem dL_law_338 : decode cL_law 338 = .ok (.iload_n 3, 1) := dk_29 (dw rcL_law_322 14 rfl)
theorem dL_law_339 : decode cL_law 339 = .ok (.iconst 3, 1) := dk_6 (dw rcL_law_322 15 rfl)
theorem dL_law_340 : decode cL_law 340 = .ok (.iadd, 1) := dk_96 (dw rcL_law_322 16 rfl)
theorem dL_law_341 : decode cL_law 341 = .ok (.iaload, 1) := dk_46 (dw rcL_law_322 17 rfl)
theorem dL_law_342 : decode cL_law 342 = .ok (.invokevirtual 32, 3) := dk_182 (dw rcL_law_322 18 rfl) rfl
theorem dL_law_345 : decode cL_law 345 = .ok (.pop, 1) := dk_87 (dw rcL_law_322 19 rfl)
theorem dL_law_346 : decode cL_law 346 = .ok (.aload_n 2, 1) := dk_44 (dw rcL_law_322 20 rfl)
theorem dL_law_347 : decode cL_law 347 = .ok (.aload_n 0, 1) := dk_42 (dw rcL_law_322 21 rfl)
theorem dL_law_348 : decode cL_law 348 = .ok (.iload_n 3, 1) := dk_29 (dw rcL_law_322 22 rfl)
theorem dL_law_349 : decode cL_law 349 = .ok (.iconst 1, 1) := dk_4 (dw rcL_law_322 23 rfl)
def rbL_law_350 : List (Nat × List Nat) := [(350, [96]), (351, [46]), (352, [42]), (353, [29]), (354, [5]), (355, [96]), (356, [46]), (357, [42]), (358, [29]), (359, [6]), (360, [96]), (361, [46]), (362, [182, 0, 36]), (365, [87]), (366, [167, 4, 251]), (369, [43]), (370, [42]), (371, [29]), (372, [4]), (373, [96]), (374, [46]), (375, [182, 0, 37]), (378, [87]), (379, [44])]
theorem rcL_law_350 : dgo (lb cL_law) 0 rbL_law_350 = true := by decide +kernel
theorem dL_law_350 : decode cL_law 350 = .ok (.iadd, 1) := dk_96 (dw rcL_law_350 0 rfl)
theorem dL_law_351 : decode cL_law 351 = .ok (.iaload, 1) := dk_46 (dw rcL_law_350 1 rfl)
theorem dL_law_352 : decode cL_law 352 = .ok (.aload_n 0, 1) := dk_42 (dw rcL_law_350 2 rfl)
theorem dL_law_353 : decode cL_law 353 = .ok (.iload_n 3, 1) := dk_29 (dw rcL_law_350 3 rfl)
theorem dL_law_354 : decode cL_law 354 = .ok (.iconst 2, 1) := dk_5 (dw rcL_law_350 4 rfl)
theorem dL_law_355 : decode cL_law 355 = .ok (.iadd, 1) := dk_96 (dw rcL_law_350 5 rfl)
theorem dL_law_356 : decode cL_law 356 = .ok (.iaload, 1) := dk_46 (dw rcL_law_350 6 rfl)
theorem dL_law_357 : decode cL_law 357 = .ok (.aload_n 0, 1) := dk_42 (dw rcL_law_350 7 rfl)
theorem dL_law_358 : decode cL_law 358 = .ok (.iload_n 3, 1) := dk_29 (dw rcL_law_350 8 rfl)
theorem dL_law_359 : decode cL_law 359 = .ok (.iconst 3, 1) := dk_6 (dw rcL_law_350 9 rfl)
theorem dL_law_360 : decode cL_law 360 = .ok (.iadd, 1) := dk_96 (dw rcL_law_350 10 rfl)
theorem dL_law_361 : decode cL_law 361 = .ok (.iaload, 1) := dk_46 (dw rcL_law_350 11 rfl)
theorem dL_law_362 : decode cL_law 362 = .ok (.invokevirtual 36, 3) := dk_182 (dw rcL_law_350 12 rfl) rfl
theorem dL_law_365 : decode cL_law 365 = .ok (.pop, 1) := dk_87 (dw rcL_law_350 13 rfl)
theorem dL_law_366 : decode cL_law 366 = .ok (.goto 1275, 3) := dk_167 (dw rcL_law_350 14 rfl) rfl
theorem dL_law_369 : decode cL_law 369 = .ok (.aload_n 1, 1) := dk_43 (dw rcL_law_350 15 rfl)
theorem dL_law_370 : decode cL_law 370 = .ok (.aload_n 0, 1) := dk_42 (dw rcL_law_350 16 rfl)
theorem dL_law_371 : decode cL_law 371 = .ok (.iload_n 3, 1) := dk_29 (dw rcL_law_350 17 rfl)
theorem dL_law_372 : decode cL_law 372 = .ok (.iconst 1, 1) := dk_4 (dw rcL_law_350 18 rfl)
theorem dL_law_373 : decode cL_law 373 = .ok (.iadd, 1) := dk_96 (dw rcL_law_350 19 rfl)
theorem dL_law_374 : decode cL_law 374 = .ok (.iaload, 1) := dk_46 (dw rcL_law_350 20 rfl)
theorem dL_law_375 : decode cL_law 375 = .ok (.invokevirtual 37, 3) := dk_182 (dw rcL_law_350 21 rfl) rfl
theorem dL_law_378 : decode cL_law 378 = .ok (.pop, 1) := dk_87 (dw rcL_law_350 22 rfl)
theorem dL_law_379 : decode cL_law 379 = .ok (.aload_n 2, 1) := dk_44 (dw rcL_law_350 23 rfl)
def rbL_law_380 : List (Nat × List Nat) := [(380, [42]), (381, [29]), (382, [4]), (383, [96]), (384, [46]), (385, [182, 0, 40]), (388, [87]), (389, [167, 4, 228])]
theorem rcL_law_380 : dgo (lb cL_law) 0 rbL_law_380 = true := by decide +kernel
theorem dL_law_380 : decode cL_law 380 = .ok (.aload_n 0, 1) := dk_42 (dw rcL_law_380 0 rfl)
theorem dL_law_381 : decode cL_law 381 = .ok (.iload_n 3, 1) := dk_29 (dw rcL_law_380 1 rfl)
theorem dL_law_382 : decode cL_law 382 = .ok (.iconst 1, 1) := dk_4 (dw rcL_law_380 2 rfl)
theorem dL_law_383 : decode cL_law 383 = .ok (.iadd, 1) := dk_96 (dw rcL_law_380 3 rfl)
theorem dL_law_384 : decode cL_law 384 = .ok (.iaload, 1) := dk_46 (dw rcL_law_380 4 rfl)
theorem dL_law_385 : decode cL_law 385 = .ok (.invokevirtual 40, 3) := dk_182 (dw rcL_law_380 5 rfl) rfl
theorem dL_law_388 : decode cL_law 388 = .ok (.pop, 1) := dk_87 (dw rcL_law_380 6 rfl)
theorem dL_law_389 : decode cL_law 389 = .ok (.goto 1252, 3) := dk_167 (dw rcL_law_380 7 rfl) rfl
set_option maxHeartbeats 4000000 in
set_option maxRecDepth 100000 in
theorem law_0 {p : Program} {l : Launch} {e : Env} {s : State} {m : MethodId} {below : List Frame} {meth : Method} {c : Code} {D : va_G} {k : KT} {A : Nat → Prop} {a : Nat → Nat} {z : SK} {b L : Nat} {xs : Nat → Int32} (hL : L ≤ 3072) (C0 : lw_At p s m meth c b L xs) (hK : cK D k s) (hZ : Sx A z s) (hbA : ¬ A b) {G : GS} {i0 : Int32} (hi0 : 0 ≤ i0.toInt) (hi6 : i0.toInt + 6 ≤ L) (hI : LI G) (hB_G : Bd G) {H : Heap} {locs : List Loc} {ls : Array Slot} (hW : Wd D k A a G H) (hS : va_S A s.heap H locs) (hl : lv_has ls 4 [(0, .ref b), (1, .ref (a 0)), (2, .ref (a 66)), (3, .int i0)]) (K : ∀ (G1 : GS) (H1 : Heap) (locs1 : List Loc) (ls1 : Array Slot), LI G1 → Bd G1 → Wd D k A a G1 H1 → va_S A s.heap H1 locs1 → lv_has ls1 4 [(0, .ref b), (1, .ref (a 0)), (2, .ref (a 66)), (3, .int i0)] → W p l e room_1 s m #[Value.ref b] below meth c H1 locs1 119 46443 (lw_Z below #[Value.ref b] s) (F0 m 1641 ls1 [])) : W p l e room_1 s m #[Value.ref b] below meth c H locs 119 46443 (lw_Z below #[Value.ref b] s) (F0 m 204 ls []) := by
  obtain ⟨hx, hb, hr, hml, hown, hts, hX, hbl, hlocks, hgv⟩ := id C0
  have hown : s.vm.findClass RL = some m.cls := hown
  have hgd : ∀ w ∈ gd, w ∈ lw_tbl := fun w h => (List.mem_filter.mp h).1
  have hg : ∀ w ∈ gd, w.before #[Value.ref b] s = true := fun w h => hts w (hgd w h)
  rcases hI with ⟨hv_0_0, hv_0_1, hv_6_4, hj0, hj1, hj2, hj3, hj4, hj5, hj6, hj7, hj8, hj9, hj10, hj11, hj12⟩ | ⟨hv_0_0, hv_0_1, hv_6_4, hj0, hj1, hj2, hj3, hj4, hj5, hj6, hj7, hj8, hj9, hj10, hj11, hj12⟩
  · skip
    obtain ⟨p0, hp0⟩ : ∃ y, y = xs (i0 + 1).toNatClampNeg := ⟨_, rfl⟩
    obtain ⟨p1, hp1⟩ : ∃ y, y = xs (i0 + 2).toNatClampNeg := ⟨_, rfl⟩
    obtain ⟨p2, hp2⟩ : ∃ y, y = xs (i0 + 3).toNatClampNeg := ⟨_, rfl⟩
    obtain ⟨p3, hp3⟩ : ∃ y, y = xs (i0 + 4).toNatClampNeg := ⟨_, rfl⟩
    obtain ⟨p4, hp4⟩ : ∃ y, y = xs (i0 + 5).toNatClampNeg := ⟨_, rfl⟩
    refine lv_aload_n hx hb dL_law_204 rfl (lv_at hl 1 rfl) ?_
    refine ld_1 hL hi0 hi6 hx hb hX hbl hbA hS hl dL_law_205 dL_law_206 dL_law_207 dL_law_208 dL_law_209 hp0 ?_
    refine ld_2 hL hi0 hi6 hx hb hX hbl hbA hS hl dL_law_210 dL_law_211 dL_law_212 dL_law_213 dL_law_214 hp1 ?_
    refine ld_3 hL hi0 hi6 hx hb hX hbl hbA hS hl dL_law_215 dL_law_216 dL_law_217 dL_law_218 dL_law_219 hp2 ?_
    refine ld_4 hL hi0 hi6 hx hb hX hbl hbA hS hl dL_law_220 dL_law_221 dL_law_222 dL_law_223 dL_law_224 hp3 ?_
    refine ld_5 hL hi0 hi6 hx hb hX hbl hbA hS hl dL_law_225 dL_law_226 dL_law_227 dL_law_228 dL_law_229 hp4 ?_
    refine S_calli (va_runV (As := [.int p0, .int p1, .int p2, .int p3, .int p4]) (rest := []) ⟨hx, hb, hml, hown, hts⟩ (k_Wfeed l D k A a z G p0 p1 p2 p3 p4 ) (cwV 5 hts (gd_V hgd m610 m611 m612 m117 m613) rfl rfl rfl hd_X11_feed ⟨Nat.le_of_ble_eq_true rfl, Nat.le_of_ble_eq_true rfl⟩) (pre_W hW hB_G hK hZ hS kd_0 rfl) rfl rfl hl.1 rfl (lv_room (Nat.le_of_ble_eq_true rfl)) dL_law_230 ⟨Nat.le_of_ble_eq_true rfl, Nat.le_of_ble_eq_true rfl⟩) hS (fun r_1 G_2 H locs hpo hW hS => ?_)
    have hX_5 : P_Wfeed p0 p1 p2 p3 p4 G r_1 G_2 := hpo
    obtain ⟨hB_G_2, hq_3, hp_4, -⟩ := hpo
    refine lv_pop hx hb dL_law_233 rfl ?_
    refine lv_aload_n hx hb dL_law_234 rfl (lv_at hl 2 rfl) ?_
    refine ld_1 hL hi0 hi6 hx hb hX hbl hbA hS hl dL_law_235 dL_law_236 dL_law_237 dL_law_238 dL_law_239 hp0 ?_
    refine ld_2 hL hi0 hi6 hx hb hX hbl hbA hS hl dL_law_240 dL_law_241 dL_law_242 dL_law_243 dL_law_244 hp1 ?_
    refine ld_3 hL hi0 hi6 hx hb hX hbl hbA hS hl dL_law_245 dL_law_246 dL_law_247 dL_law_248 dL_law_249 hp2 ?_
    refine ld_4 hL hi0 hi6 hx hb hX hbl hbA hS hl dL_law_250 dL_law_251 dL_law_252 dL_law_253 dL_law_254 hp3 ?_
    refine ld_5 hL hi0 hi6 hx hb hX hbl hbA hS hl dL_law_255 dL_law_256 dL_law_257 dL_law_258 dL_law_259 hp4 ?_
    have b_6 : 0 ≤ (G.1 66 1).toInt ∧ (G.1 66 1).toInt ≤ 1600 := bd_66_1 hB_G
    have g_7 : (G_2.1 66 1).toInt = (G.1 66 1).toInt := (congrArg Int32.toInt (show G_2.1 66 1 = (G.1 66 1) from (hq_3.i9 66 1 rfl rfl)))
    refine S_calli (va_runV (As := [.int p0, .int p1, .int p2, .int p3, .int p4]) (rest := []) ⟨hx, hb, hml, hown, hts⟩ (n_feed l D k A a z G_2 p0 p1 p2 p3 p4 ) (cwV 5 hts (gd_V hgd m1582 m1583 m1584 m131 m1585) rfl rfl rfl hd_X12_feed ⟨Nat.le_of_ble_eq_true rfl, Nat.le_of_ble_eq_true rfl⟩) (pre_W hW hB_G_2 hK hZ hS kd_66 rfl) rfl rfl hl.1 rfl (lv_room (Nat.le_of_ble_eq_true rfl)) dL_law_260 ⟨Nat.le_of_ble_eq_true rfl, Nat.le_of_ble_eq_true rfl⟩) hS (fun r_8 G_9 H locs hpo hW hS => ?_)
    have hX_12 : Q_feed p0 p1 p2 p3 p4 G_2 r_8 G_9 := hpo
    obtain ⟨hB_G_9, hq_10, hp_11, -⟩ := hpo
    have u_13 : gTE G_9 = 1 := ind_1 (te_feed hX_5 hX_12 (by omega) (by omega) (by omega) (by omega) (by omega) (gTE_p (by omega)) (by omega) (hB_G.i 0 11 (lo := 0) (hi := 1600) rfl rfl).1)
    refine lv_pop hx hb dL_law_263 rfl ?_
    refine lv_goto (tgt := 1641) hx hb dL_law_264 rfl ?_
    have fr_14 : Fr [32, 67] [(0, 11), (66, 1)] G G_9 := (Fr.call9 (rs := [32, 67]) (fs := [(0, 11), (66, 1)]) (Fr.call9 (rs := [32, 67]) (fs := [(0, 11), (66, 1)]) Fr.rf hq_3 rfl rfl) hq_10 rfl rfl)
    have g_15 : gIA G_9 = gIA G := gIA_fr fr_14 (gr_q rfl) (gf_q rfl)
    have g_16 : gO G_9 = gO G := gO_fr fr_14 (gr_q rfl) (gf_q rfl)
    have g_17 : gP G_9 = gP G := gP_fr fr_14 (gr_q rfl) (gf_q rfl)
    have g_18 : gS G_9 = gS G := gS_fr fr_14 (gr_q rfl) (gf_q rfl)
    have g_19 : gW G_9 = gW G := gW_fr fr_14 (gr_q rfl) (gf_q rfl)
    have b_20 : 0 ≤ (G_2.1 0 11).toInt ∧ (G_2.1 0 11).toInt ≤ 1600 := bd_0_11 hB_G_2
    have g_21 : (G_9.1 0 11).toInt = (G_2.1 0 11).toInt := (congrArg Int32.toInt (show G_9.1 0 11 = (G_2.1 0 11) from (hq_10.i9 0 11 rfl rfl)))
    have b_22 : 0 ≤ (G.1 3 7).toInt ∧ (G.1 3 7).toInt ≤ 4 := bd_3_7 hB_G
    have g_23 : (G_9.1 3 7).toInt = (G.1 3 7).toInt := (congrArg Int32.toInt (show G_9.1 3 7 = (G.1 3 7) from ((hq_10.i9 3 7 rfl rfl).trans (hq_3.i9 3 7 rfl rfl))))
    have b_24 : (-1) ≤ (G.1 3 8).toInt ∧ (G.1 3 8).toInt ≤ 1600 := bd_3_8 hB_G
    have g_25 : (G_9.1 3 8).toInt = (G.1 3 8).toInt := (congrArg Int32.toInt (show G_9.1 3 8 = (G.1 3 8) from ((hq_10.i9 3 8 rfl rfl).trans (hq_3.i9 3 8 rfl rfl))))
    have b_26 : 0 ≤ (G.1 30 4).toInt ∧ (G.1 30 4).toInt ≤ 40 := bd_30_4 hB_G
    have g_27 : (G_9.1 30 4).toInt = (G.1 30 4).toInt := (congrArg Int32.toInt (show G_9.1 30 4 = (G.1 30 4) from ((hq_10.i9 30 4 rfl rfl).trans (hq_3.i9 30 4 rfl rfl))))
    have b_28 : 0 ≤ (G.1 30 5).toInt ∧ (G.1 30 5).toInt ≤ 40 := bd_30_5 hB_G
    have g_29 : (G_9.1 30 5).toInt = (G.1 30 5).toInt := (congrArg Int32.toInt (show G_9.1 30 5 = (G.1 30 5) from ((hq_10.i9 30 5 rfl rfl).trans (hq_3.i9 30 5 rfl rfl))))
    have b_30 : 0 ≤ (G.1 31 6).toInt ∧ (G.1 31 6).toInt ≤ 100000 := bd_31_6 hB_G
    have g_31 : (G_9.1 31 6).toInt = (G.1 31 6).toInt := (congrArg Int32.toInt (show G_9.1 31 6 = (G.1 31 6) from ((hq_10.i9 31 6 rfl rfl).trans (hq_3.i9 31 6 rfl rfl))))
    have b_32 : 0 ≤ (G_9.1 66 1).toInt ∧ (G_9.1 66 1).toInt ≤ 1600 := bd_66_1 hB_G_9
    have b_33 : 0 ≤ (G.1 66 2).toInt ∧ (G.1 66 2).toInt ≤ 4 := bd_66_2 hB_G
    have g_34 : (G_9.1 66 2).toInt = (G.1 66 2).toInt := (congrArg Int32.toInt (show G_9.1 66 2 = (G.1 66 2) from ((hq_10.i9 66 2 rfl rfl).trans (hq_3.i9 66 2 rfl rfl))))
    have b_35 : (-1) ≤ (G.1 66 3).toInt ∧ (G.1 66 3).toInt ≤ 1600 := bd_66_3 hB_G
    have g_36 : (G_9.1 66 3).toInt = (G.1 66 3).toInt := (congrArg Int32.toInt (show G_9.1 66 3 = (G.1 66 3) from ((hq_10.i9 66 3 rfl rfl).trans (hq_3.i9 66 3 rfl rfl))))
    have b_37 : 0 ≤ (G.1 66 78).toInt ∧ (G.1 66 78).toInt ≤ 40 := bd_66_78 hB_G
    have g_38 : (G_9.1 66 78).toInt = (G.1 66 78).toInt := (congrArg Int32.toInt (show G_9.1 66 78 = (G.1 66 78) from ((hq_10.i9 66 78 rfl rfl).trans (hq_3.i9 66 78 rfl rfl))))
    have b_39 : 0 ≤ (G.1 66 79).toInt ∧ (G.1 66 79).toInt ≤ 40 := bd_66_79 hB_G
    have g_40 : (G_9.1 66 79).toInt = (G.1 66 79).toInt := (congrArg Int32.toInt (show G_9.1 66 79 = (G.1 66 79) from ((hq_10.i9 66 79 rfl rfl).trans (hq_3.i9 66 79 rfl rfl))))
    have b_41 : 0 ≤ (G.1 66 86).toInt ∧ (G.1 66 86).toInt ≤ 100000 := bd_66_86 hB_G
    have g_42 : (G_9.1 66 86).toInt = (G.1 66 86).toInt := (congrArg Int32.toInt (show G_9.1 66 86 = (G.1 66 86) from ((hq_10.i9 66 86 rfl rfl).trans (hq_3.i9 66 86 rfl rfl))))
    have b_43 : 0 ≤ (G.1 96 0).toInt ∧ (G.1 96 0).toInt ≤ 9 := bd_96_0 hB_G
    have g_44 : (G_9.1 96 0).toInt = (G.1 96 0).toInt := (congrArg Int32.toInt (show G_9.1 96 0 = (G.1 96 0) from ((hq_10.i9 96 0 rfl rfl).trans (hq_3.i9 96 0 rfl rfl))))
    have b_45 : 0 ≤ (G.1 96 1).toInt ∧ (G.1 96 1).toInt ≤ 9 := bd_96_1 hB_G
    have g_46 : (G_9.1 96 1).toInt = (G.1 96 1).toInt := (congrArg Int32.toInt (show G_9.1 96 1 = (G.1 96 1) from ((hq_10.i9 96 1 rfl rfl).trans (hq_3.i9 96 1 rfl rfl))))
    have b_47 : 0 ≤ (G.1 96 2).toInt ∧ (G.1 96 2).toInt ≤ 9 := bd_96_2 hB_G
    have g_48 : (G_9.1 96 2).toInt = (G.1 96 2).toInt := (congrArg Int32.toInt (show G_9.1 96 2 = (G.1 96 2) from ((hq_10.i9 96 2 rfl rfl).trans (hq_3.i9 96 2 rfl rfl))))
    exact K G_9 _ _ _ (Or.inl ⟨((((hq_10.r9 0 0 rfl rfl).trans (hq_3.r9 0 0 rfl rfl))).trans (hv_0_0)), ((((hq_10.r9 0 1 rfl rfl).trans (hq_3.r9 0 1 rfl rfl))).trans (hv_0_1)), ((((hq_10.r9 6 4 rfl rfl).trans (hq_3.r9 6 4 rfl rfl))).trans (hv_6_4)), by omega, by omega, by omega, by omega, by omega, by omega, by omega, by omega, by omega, by omega, by omega, by omega, by omega⟩) hB_G_9 hW hS (lv_sub hl [0, 1, 2, 3] rfl)
  · skip
    obtain ⟨p0, hp0⟩ : ∃ y, y = xs (i0 + 1).toNatClampNeg := ⟨_, rfl⟩
    obtain ⟨p1, hp1⟩ : ∃ y, y = xs (i0 + 2).toNatClampNeg := ⟨_, rfl⟩
    obtain ⟨p2, hp2⟩ : ∃ y, y = xs (i0 + 3).toNatClampNeg := ⟨_, rfl⟩
    obtain ⟨p3, hp3⟩ : ∃ y, y = xs (i0 + 4).toNatClampNeg := ⟨_, rfl⟩
    obtain ⟨p4, hp4⟩ : ∃ y, y = xs (i0 + 5).toNatClampNeg := ⟨_, rfl⟩
    refine lv_aload_n hx hb dL_law_204 rfl (lv_at hl 1 rfl) ?_
    refine ld_1 hL hi0 hi6 hx hb hX hbl hbA hS hl dL_law_205 dL_law_206 dL_law_207 dL_law_208 dL_law_209 hp0 ?_
    refine ld_2 hL hi0 hi6 hx hb hX hbl hbA hS hl dL_law_210 dL_law_211 dL_law_212 dL_law_213 dL_law_214 hp1 ?_
    refine ld_3 hL hi0 hi6 hx hb hX hbl hbA hS hl dL_law_215 dL_law_216 dL_law_217 dL_law_218 dL_law_219 hp2 ?_
    refine ld_4 hL hi0 hi6 hx hb hX hbl hbA hS hl dL_law_220 dL_law_221 dL_law_222 dL_law_223 dL_law_224 hp3 ?_
    refine ld_5 hL hi0 hi6 hx hb hX hbl hbA hS hl dL_law_225 dL_law_226 dL_law_227 dL_law_228 dL_law_229 hp4 ?_
    refine S_calli (va_runV (As := [.int p0, .int p1, .int p2, .int p3, .int p4]) (rest := []) ⟨hx, hb, hml, hown, hts⟩ (k_Wfeed l D k A a z G p0 p1 p2 p3 p4 ) (cwV 5 hts (gd_V hgd m610 m611 m612 m117 m613) rfl rfl rfl hd_X11_feed ⟨Nat.le_of_ble_eq_true rfl, Nat.le_of_ble_eq_true rfl⟩) (pre_W hW hB_G hK hZ hS kd_0 rfl) rfl rfl hl.1 rfl (lv_room (Nat.le_of_ble_eq_true rfl)) dL_law_230 ⟨Nat.le_of_ble_eq_true rfl, Nat.le_of_ble_eq_true rfl⟩) hS (fun r_1 G_2 H locs hpo hW hS => ?_)
    have hX_5 : P_Wfeed p0 p1 p2 p3 p4 G r_1 G_2 := hpo
    obtain ⟨hB_G_2, hq_3, hp_4, -⟩ := hpo
    refine lv_pop hx hb dL_law_233 rfl ?_
    refine lv_aload_n hx hb dL_law_234 rfl (lv_at hl 2 rfl) ?_
    refine ld_1 hL hi0 hi6 hx hb hX hbl hbA hS hl dL_law_235 dL_law_236 dL_law_237 dL_law_238 dL_law_239 hp0 ?_
    refine ld_2 hL hi0 hi6 hx hb hX hbl hbA hS hl dL_law_240 dL_law_241 dL_law_242 dL_law_243 dL_law_244 hp1 ?_
    refine ld_3 hL hi0 hi6 hx hb hX hbl hbA hS hl dL_law_245 dL_law_246 dL_law_247 dL_law_248 dL_law_249 hp2 ?_
    refine ld_4 hL hi0 hi6 hx hb hX hbl hbA hS hl dL_law_250 dL_law_251 dL_law_252 dL_law_253 dL_law_254 hp3 ?_
    refine ld_5 hL hi0 hi6 hx hb hX hbl hbA hS hl dL_law_255 dL_law_256 dL_law_257 dL_law_258 dL_law_259 hp4 ?_
    have b_6 : 0 ≤ (G.1 66 1).toInt ∧ (G.1 66 1).toInt ≤ 1600 := bd_66_1 hB_G
    have g_7 : (G_2.1 66 1).toInt = (G.1 66 1).toInt := (congrArg Int32.toInt (show G_2.1 66 1 = (G.1 66 1) from (hq_3.i9 66 1 rfl rfl)))
    refine S_calli (va_runV (As := [.int p0, .int p1, .int p2, .int p3, .int p4]) (rest := []) ⟨hx, hb, hml, hown, hts⟩ (n_feed l D k A a z G_2 p0 p1 p2 p3 p4 ) (cwV 5 hts (gd_V hgd m1582 m1583 m1584 m131 m1585) rfl rfl rfl hd_X12_feed ⟨Nat.le_of_ble_eq_true rfl, Nat.le_of_ble_eq_true rfl⟩) (pre_W hW hB_G_2 hK hZ hS kd_66 rfl) rfl rfl hl.1 rfl (lv_room (Nat.le_of_ble_eq_true rfl)) dL_law_260 ⟨Nat.le_of_ble_eq_true rfl, Nat.le_of_ble_eq_true rfl⟩) hS (fun r_8 G_9 H locs hpo hW hS => ?_)
    have hX_12 : Q_feed p0 p1 p2 p3 p4 G_2 r_8 G_9 := hpo
    obtain ⟨hB_G_9, hq_10, hp_11, -⟩ := hpo
    have u_13 : gTE G_9 = 1 := ind_1 (te_feed hX_5 hX_12 (by omega) (by omega) (by omega) (by omega) (by omega) (gTE_p (by omega)) (by omega) (hB_G.i 0 11 (lo := 0) (hi := 1600) rfl rfl).1)
    refine lv_pop hx hb dL_law_263 rfl ?_
    refine lv_goto (tgt := 1641) hx hb dL_law_264 rfl ?_
    have fr_14 : Fr [32, 67] [(0, 11), (66, 1)] G G_9 := (Fr.call9 (rs := [32, 67]) (fs := [(0, 11), (66, 1)]) (Fr.call9 (rs := [32, 67]) (fs := [(0, 11), (66, 1)]) Fr.rf hq_3 rfl rfl) hq_10 rfl rfl)
    have g_15 : gIB G_9 = gIB G := gIB_fr fr_14 (gr_q rfl) (gf_q rfl)
    have g_16 : gO G_9 = gO G := gO_fr fr_14 (gr_q rfl) (gf_q rfl)
    have g_17 : gP G_9 = gP G := gP_fr fr_14 (gr_q rfl) (gf_q rfl)
    have g_18 : gS G_9 = gS G := gS_fr fr_14 (gr_q rfl) (gf_q rfl)
    have g_19 : gW G_9 = gW G := gW_fr fr_14 (gr_q rfl) (gf_q rfl)
    have b_20 : 0 ≤ (G_2.1 0 11).toInt ∧ (G_2.1 0 11).toInt ≤ 1600 := bd_0_11 hB_G_2
    have g_21 : (G_9.1 0 11).toInt = (G_2.1 0 11).toInt := (congrArg Int32.toInt (show G_9.1 0 11 = (G_2.1 0 11) from (hq_10.i9 0 11 rfl rfl)))
    have b_22 : 0 ≤ (G.1 3 7).toInt ∧ (G.1 3 7).toInt ≤ 4 := bd_3_7 hB_G
    have g_23 : (G_9.1 3 7).toInt = (G.1 3 7).toInt := (congrArg Int32.toInt (show G_9.1 3 7 = (G.1 3 7) from ((hq_10.i9 3 7 rfl rfl).trans (hq_3.i9 3 7 rfl rfl))))
    have b_24 : (-1) ≤ (G.1 3 8).toInt ∧ (G.1 3 8).toInt ≤ 1600 := bd_3_8 hB_G
    have g_25 : (G_9.1 3 8).toInt = (G.1 3 8).toInt := (congrArg Int32.toInt (show G_9.1 3 8 = (G.1 3 8) from ((hq_10.i9 3 8 rfl rfl).trans (hq_3.i9 3 8 rfl rfl))))
    have b_26 : 0 ≤ (G.1 30 4).toInt ∧ (G.1 30 4).toInt ≤ 40 := bd_30_4 hB_G
    have g_27 : (G_9.1 30 4).toInt = (G.1 30 4).toInt := (congrArg Int32.toInt (show G_9.1 30 4 = (G.1 30 4) from ((hq_10.i9 30 4 rfl rfl).trans (hq_3.i9 30 4 rfl rfl))))
    have b_28 : 0 ≤ (G.1 30 5).toInt ∧ (G.1 30 5).toInt ≤ 40 := bd_30_5 hB_G
    have g_29 : (G_9.1 30 5).toInt = (G.1 30 5).toInt := (congrArg Int32.toInt (show G_9.1 30 5 = (G.1 30 5) from ((hq_10.i9 30 5 rfl rfl).trans (hq_3.i9 30 5 rfl rfl))))
    have b_30 : 0 ≤ (G.1 31 6).toInt ∧ (G.1 31 6).toInt ≤ 100000 := bd_31_6 hB_G
    have g_31 : (G_9.1 31 6).toInt = (G.1 31 6).toInt := (congrArg Int32.toInt (show G_9.1 31 6 = (G.1 31 6) from ((hq_10.i9 31 6 rfl rfl).trans (hq_3.i9 31 6 rfl rfl))))
    have b_32 : 0 ≤ (G_9.1 66 1).toInt ∧ (G_9.1 66 1).toInt ≤ 1600 := bd_66_1 hB_G_9
    have b_33 : 0 ≤ (G.1 66 2).toInt ∧ (G.1 66 2).toInt ≤ 4 := bd_66_2 hB_G
    have g_34 : (G_9.1 66 2).toInt = (G.1 66 2).toInt := (congrArg Int32.toInt (show G_9.1 66 2 = (G.1 66 2) from ((hq_10.i9 66 2 rfl rfl).trans (hq_3.i9 66 2 rfl rfl))))
    have b_35 : (-1) ≤ (G.1 66 3).toInt ∧ (G.1 66 3).toInt ≤ 1600 := bd_66_3 hB_G
    have g_36 : (G_9.1 66 3).toInt = (G.1 66 3).toInt := (congrArg Int32.toInt (show G_9.1 66 3 = (G.1 66 3) from ((hq_10.i9 66 3 rfl rfl).trans (hq_3.i9 66 3 rfl rfl))))
    have b_37 : 0 ≤ (G.1 66 78).toInt ∧ (G.1 66 78).toInt ≤ 40 := bd_66_78 hB_G
    have g_38 : (G_9.1 66 78).toInt = (G.1 66 78).toInt := (congrArg Int32.toInt (show G_9.1 66 78 = (G.1 66 78) from ((hq_10.i9 66 78 rfl rfl).trans (hq_3.i9 66 78 rfl rfl))))
    have b_39 : 0 ≤ (G.1 66 79).toInt ∧ (G.1 66 79).toInt ≤ 40 := bd_66_79 hB_G
    have g_40 : (G_9.1 66 79).toInt = (G.1 66 79).toInt := (congrArg Int32.toInt (show G_9.1 66 79 = (G.1 66 79) from ((hq_10.i9 66 79 rfl rfl).trans (hq_3.i9 66 79 rfl rfl))))
    have b_41 : 0 ≤ (G.1 66 86).toInt ∧ (G.1 66 86).toInt ≤ 100000 := bd_66_86 hB_G
    have g_42 : (G_9.1 66 86).toInt = (G.1 66 86).toInt := (congrArg Int32.toInt (show G_9.1 66 86 = (G.1 66 86) from ((hq_10.i9 66 86 rfl rfl).trans (hq_3.i9 66 86 rfl rfl))))
    have b_43 : 0 ≤ (G.1 96 0).toInt ∧ (G.1 96 0).toInt ≤ 9 := bd_96_0 hB_G
    have g_44 : (G_9.1 96 0).toInt = (G.1 96 0).toInt := (congrArg Int32.toInt (show G_9.1 96 0 = (G.1 96 0) from ((hq_10.i9 96 0 rfl rfl).trans (hq_3.i9 96 0 rfl rfl))))
    have b_45 : 0 ≤ (G.1 96 1).toInt ∧ (G.1 96 1).toInt ≤ 9 := bd_96_1 hB_G
    have g_46 : (G_9.1 96 1).toInt = (G.1 96 1).toInt := (congrArg Int32.toInt (show G_9.1 96 1 = (G.1 96 1) from ((hq_10.i9 96 1 rfl rfl).trans (hq_3.i9 96 1 rfl rfl))))
    have b_47 : 0 ≤ (G.1 96 2).toInt ∧ (G.1 96 2).toInt ≤ 9 := bd_96_2 hB_G
    have g_48 : (G_9.1 96 2).toInt = (G.1 96 2).toInt := (congrArg Int32.toInt (show G_9.1 96 2 = (G.1 96 2) from ((hq_10.i9 96 2 rfl rfl).trans (hq_3.i9 96 2 rfl rfl))))
    exact K G_9 _ _ _ (Or.inr ⟨((((hq_10.r9 0 0 rfl rfl).trans (hq_3.r9 0 0 rfl rfl))).trans (hv_0_0)), ((((hq_10.r9 0 1 rfl rfl).trans (hq_3.r9 0 1 rfl rfl))).trans (hv_0_1)), ((((hq_10.r9 6 4 rfl rfl).trans (hq_3.r9 6 4 rfl rfl))).trans (hv_6_4)), by omega, by omega, by omega, by omega, by omega, by omega, by omega, by omega, by omega, by omega, by omega, by omega, by omega⟩) hB_G_9 hW hS (lv_sub hl [0, 1, 2, 3] rfl)

set_option maxHeartbeats 4000000 in
set_option maxRecDepth 100000 in
theorem law_1 {p : Program} {l : Launch} {e : Env} {s : State} {m : MethodId} {below : List Frame} {meth : Method} {c : Code} {D : va_G} {k : KT} {A : Nat → Prop} {a : Nat → Nat} {z : SK} {b L : Nat} {xs : Nat → Int32} (hL : L ≤ 3072) (C0 : lw_At p s m meth c b L xs) (hK : cK D k s) (hZ : Sx A z s) (hbA : ¬ A b) {G : GS} {i0 : Int32} (hi0 : 0 ≤ i0.toInt) (hi6 : i0.toInt + 6 ≤ L) (hI : LI G) (hB_G : Bd G) {H : Heap} {locs : List Loc} {ls : Array Slot} (hW : Wd D k A a G H) (hS : va_S A s.heap H locs) (hl : lv_has ls 4 [(0, .ref b), (1, .ref (a 0)), (2, .ref (a 66)), (3, .int i0)]) (K : ∀ (G1 : GS) (H1 : Heap) (locs1 : List Loc) (ls1 : Array Slot), LI G1 → Bd G1 → Wd D k A a G1 H1 → va_S A s.heap H1 locs1 → lv_has ls1 4 [(0, .ref b), (1, .ref (a 0)), (2, .ref (a 66)), (3, .int i0)] → W p l e room_1 s m #[Value.ref b] below meth c H1 locs1 119 46443 (lw_Z below #[Value.ref b] s) (F0 m 1641 ls1 [])) : W p l e room_1 s m #[Value.ref b] below meth c H locs 119 46443 (lw_Z below #[Value.ref b] s) (F0 m 267 ls []) := by
  obtain ⟨hx, hb, hr, hml, hown, hts, hX, hbl, hlocks, hgv⟩ := id C0
  have hown : s.vm.findClass RL = some m.cls := hown
  have hgd : ∀ w ∈ gd, w ∈ lw_tbl := fun w h => (List.mem_filter.mp h).1
  have hg : ∀ w ∈ gd, w.before #[Value.ref b] s = true := fun w h => hts w (hgd w h)
  rcases hI with ⟨hv_0_0, hv_0_1, hv_6_4, hj0, hj1, hj2, hj3, hj4, hj5, hj6, hj7, hj8, hj9, hj10, hj11, hj12⟩ | ⟨hv_0_0, hv_0_1, hv_6_4, hj0, hj1, hj2, hj3, hj4, hj5, hj6, hj7, hj8, hj9, hj10, hj11, hj12⟩
  · skip
    obtain ⟨p0, hp0⟩ : ∃ y, y = xs (i0 + 1).toNatClampNeg := ⟨_, rfl⟩
    obtain ⟨p1, hp1⟩ : ∃ y, y = xs (i0 + 2).toNatClampNeg := ⟨_, rfl⟩
    obtain ⟨p2, hp2⟩ : ∃ y, y = xs (i0 + 3).toNatClampNeg := ⟨_, rfl⟩
    obtain ⟨p3, hp3⟩ : ∃ y, y = xs (i0 + 4).toNatClampNeg := ⟨_, rfl⟩
    obtain ⟨p4, hp4⟩ : ∃ y, y = xs (i0 + 5).toNatClampNeg := ⟨_, rfl⟩
    refine lv_aload_n hx hb dL_law_267 rfl (lv_at hl 1 rfl) ?_
    refine ld_1 hL hi0 hi6 hx hb hX hbl hbA hS hl dL_law_268 dL_law_269 dL_law_270 dL_law_271 dL_law_272 hp0 ?_
    refine S_calli (va_runV (As := [.int p0]) (rest := []) ⟨hx, hb, hml, hown, hts⟩ (k_Wend l D k A a z G p0 ) (cwV 1 hts (gd_V hgd m618 m619 m620 m117 m621) rfl rfl rfl hd_X11_end ⟨Nat.le_of_ble_eq_true rfl, Nat.le_of_ble_eq_true rfl⟩) (pre_W hW hB_G hK hZ hS kd_0 rfl) rfl rfl hl.1 rfl (lv_room (Nat.le_of_ble_eq_true rfl)) dL_law_273 ⟨Nat.le_of_ble_eq_true rfl, Nat.le_of_ble_eq_true rfl⟩) hS (fun r_1 G_2 H locs hpo hW hS => ?_)
    have hX_5 : P_Wend p0 G r_1 G_2 := hpo
    obtain ⟨hB_G_2, hq_3, hp_4, -⟩ := hpo
    refine lv_pop hx hb dL_law_276 rfl ?_
    refine lv_aload_n hx hb dL_law_277 rfl (lv_at hl 2 rfl) ?_
    refine ld_1 hL hi0 hi6 hx hb hX hbl hbA hS hl dL_law_278 dL_law_279 dL_law_280 dL_law_281 dL_law_282 hp0 ?_
    have b_6 : 0 ≤ (G.1 66 1).toInt ∧ (G.1 66 1).toInt ≤ 1600 := bd_66_1 hB_G
    have g_7 : (G_2.1 66 1).toInt = (G.1 66 1).toInt := (congrArg Int32.toInt (show G_2.1 66 1 = (G.1 66 1) from (hq_3.i9 66 1 rfl rfl)))
    refine S_calli (va_runV (As := [.int p0]) (rest := []) ⟨hx, hb, hml, hown, hts⟩ (n_end l D k A a z G_2 p0 ) (cwV 1 hts (gd_V hgd m1590 m1591 m1592 m131 m1593) rfl rfl rfl hd_X12_end ⟨Nat.le_of_ble_eq_true rfl, Nat.le_of_ble_eq_true rfl⟩) (pre_W hW hB_G_2 hK hZ hS kd_66 rfl) rfl rfl hl.1 rfl (lv_room (Nat.le_of_ble_eq_true rfl)) dL_law_283 ⟨Nat.le_of_ble_eq_true rfl, Nat.le_of_ble_eq_true rfl⟩) hS (fun r_8 G_9 H locs hpo hW hS => ?_)
    have hX_12 : Q_end p0 G_2 r_8 G_9 := hpo
    obtain ⟨hB_G_9, hq_10, hp_11, -⟩ := hpo
    refine lv_pop hx hb dL_law_286 rfl ?_
    refine lv_goto (tgt := 1641) hx hb dL_law_287 rfl ?_
    have fr_13 : Fr [] [(0, 11), (66, 1)] G G_9 := (Fr.call9 (rs := []) (fs := [(0, 11), (66, 1)]) (Fr.call9 (rs := []) (fs := [(0, 11), (66, 1)]) Fr.rf hq_3 rfl rfl) hq_10 rfl rfl)
    have g_14 : gIA G_9 = gIA G := gIA_fr fr_13 (gr_q rfl) (gf_q rfl)
    have g_15 : gO G_9 = gO G := gO_fr fr_13 (gr_q rfl) (gf_q rfl)
    have g_16 : gP G_9 = gP G := gP_fr fr_13 (gr_q rfl) (gf_q rfl)
    have g_17 : gS G_9 = gS G := gS_fr fr_13 (gr_q rfl) (gf_q rfl)
    have g_18 : gTE G_9 = gTE G := gTE_fr fr_13 (gr_q rfl) (gf_q rfl)
    have g_19 : gW G_9 = gW G := gW_fr fr_13 (gr_q rfl) (gf_q rfl)
    have b_20 : 0 ≤ (G_2.1 0 11).toInt ∧ (G_2.1 0 11).toInt ≤ 1600 := bd_0_11 hB_G_2
    have g_21 : (G_9.1 0 11).toInt = (G_2.1 0 11).toInt := (congrArg Int32.toInt (show G_9.1 0 11 = (G_2.1 0 11) from (hq_10.i9 0 11 rfl rfl)))
    have b_22 : 0 ≤ (G.1 3 7).toInt ∧ (G.1 3 7).toInt ≤ 4 := bd_3_7 hB_G
    have g_23 : (G_9.1 3 7).toInt = (G.1 3 7).toInt := (congrArg Int32.toInt (show G_9.1 3 7 = (G.1 3 7) from ((hq_10.i9 3 7 rfl rfl).trans (hq_3.i9 3 7 rfl rfl))))
    have b_24 : (-1) ≤ (G.1 3 8).toInt ∧ (G.1 3 8).toInt ≤ 1600 := bd_3_8 hB_G
    have g_25 : (G_9.1 3 8).toInt = (G.1 3 8).toInt := (congrArg Int32.toInt (show G_9.1 3 8 = (G.1 3 8) from ((hq_10.i9 3 8 rfl rfl).trans (hq_3.i9 3 8 rfl rfl))))
    have b_26 : 0 ≤ (G.1 30 4).toInt ∧ (G.1 30 4).toInt ≤ 40 := bd_30_4 hB_G
    have g_27 : (G_9.1 30 4).toInt = (G.1 30 4).toInt := (congrArg Int32.toInt (show G_9.1 30 4 = (G.1 30 4) from ((hq_10.i9 30 4 rfl rfl).trans (hq_3.i9 30 4 rfl rfl))))
    have b_28 : 0 ≤ (G.1 30 5).toInt ∧ (G.1 30 5).toInt ≤ 40 := bd_30_5 hB_G
    have g_29 : (G_9.1 30 5).toInt = (G.1 30 5).toInt := (congrArg Int32.toInt (show G_9.1 30 5 = (G.1 30 5) from ((hq_10.i9 30 5 rfl rfl).trans (hq_3.i9 30 5 rfl rfl))))
    have b_30 : 0 ≤ (G.1 31 6).toInt ∧ (G.1 31 6).toInt ≤ 100000 := bd_31_6 hB_G
    have g_31 : (G_9.1 31 6).toInt = (G.1 31 6).toInt := (congrArg Int32.toInt (show G_9.1 31 6 = (G.1 31 6) from ((hq_10.i9 31 6 rfl rfl).trans (hq_3.i9 31 6 rfl rfl))))
    have b_32 : 0 ≤ (G_9.1 66 1).toInt ∧ (G_9.1 66 1).toInt ≤ 1600 := bd_66_1 hB_G_9
    have b_33 : 0 ≤ (G.1 66 2).toInt ∧ (G.1 66 2).toInt ≤ 4 := bd_66_2 hB_G
    have g_34 : (G_9.1 66 2).toInt = (G.1 66 2).toInt := (congrArg Int32.toInt (show G_9.1 66 2 = (G.1 66 2) from ((hq_10.i9 66 2 rfl rfl).trans (hq_3.i9 66 2 rfl rfl))))
    have b_35 : (-1) ≤ (G.1 66 3).toInt ∧ (G.1 66 3).toInt ≤ 1600 := bd_66_3 hB_G
    have g_36 : (G_9.1 66 3).toInt = (G.1 66 3).toInt := (congrArg Int32.toInt (show G_9.1 66 3 = (G.1 66 3) from ((hq_10.i9 66 3 rfl rfl).trans (hq_3.i9 66 3 rfl rfl))))
    have b_37 : 0 ≤ (G.1 66 78).toInt ∧ (G.1 66 78).toInt ≤ 40 := bd_66_78 hB_G
    have g_38 : (G_9.1 66 78).toInt = (G.1 66 78).toInt := (congrArg Int32.toInt (show G_9.1 66 78 = (G.1 66 78) from ((hq_10.i9 66 78 rfl rfl).trans (hq_3.i9 66 78 rfl rfl))))
    have b_39 : 0 ≤ (G.1 66 79).toInt ∧ (G.1 66 79).toInt ≤ 40 := bd_66_79 hB_G
    have g_40 : (G_9.1 66 79).toInt = (G.1 66 79).toInt := (congrArg Int32.toInt (show G_9.1 66 79 = (G.1 66 79) from ((hq_10.i9 66 79 rfl rfl).trans (hq_3.i9 66 79 rfl rfl))))
    have b_41 : 0 ≤ (G.1 66 86).toInt ∧ (G.1 66 86).toInt ≤ 100000 := bd_66_86 hB_G
    have g_42 : (G_9.1 66 86).toInt = (G.1 66 86).toInt := (congrArg Int32.toInt (show G_9.1 66 86 = (G.1 66 86) from ((hq_10.i9 66 86 rfl rfl).trans (hq_3.i9 66 86 rfl rfl))))
    have b_43 : 0 ≤ (G.1 96 0).toInt ∧ (G.1 96 0).toInt ≤ 9 := bd_96_0 hB_G
    have g_44 : (G_9.1 96 0).toInt = (G.1 96 0).toInt := (congrArg Int32.toInt (show G_9.1 96 0 = (G.1 96 0) from ((hq_10.i9 96 0 rfl rfl).trans (hq_3.i9 96 0 rfl rfl))))
    have b_45 : 0 ≤ (G.1 96 1).toInt ∧ (G.1 96 1).toInt ≤ 9 := bd_96_1 hB_G
    have g_46 : (G_9.1 96 1).toInt = (G.1 96 1).toInt := (congrArg Int32.toInt (show G_9.1 96 1 = (G.1 96 1) from ((hq_10.i9 96 1 rfl rfl).trans (hq_3.i9 96 1 rfl rfl))))
    have b_47 : 0 ≤ (G.1 96 2).toInt ∧ (G.1 96 2).toInt ≤ 9 := bd_96_2 hB_G
    have g_48 : (G_9.1 96 2).toInt = (G.1 96 2).toInt := (congrArg Int32.toInt (show G_9.1 96 2 = (G.1 96 2) from ((hq_10.i9 96 2 rfl rfl).trans (hq_3.i9 96 2 rfl rfl))))
    exact K G_9 _ _ _ (Or.inl ⟨((((hq_10.r9 0 0 rfl rfl).trans (hq_3.r9 0 0 rfl rfl))).trans (hv_0_0)), ((((hq_10.r9 0 1 rfl rfl).trans (hq_3.r9 0 1 rfl rfl))).trans (hv_0_1)), ((((hq_10.r9 6 4 rfl rfl).trans (hq_3.r9 6 4 rfl rfl))).trans (hv_6_4)), by omega, by omega, by omega, by omega, by omega, by omega, by omega, by omega, by omega, by omega, by omega, by omega, by omega⟩) hB_G_9 hW hS (lv_sub hl [0, 1, 2, 3] rfl)
  · skip
    obtain ⟨p0, hp0⟩ : ∃ y, y = xs (i0 + 1).toNatClampNeg := ⟨_, rfl⟩
    obtain ⟨p1, hp1⟩ : ∃ y, y = xs (i0 + 2).toNatClampNeg := ⟨_, rfl⟩
    obtain ⟨p2, hp2⟩ : ∃ y, y = xs (i0 + 3).toNatClampNeg := ⟨_, rfl⟩
    obtain ⟨p3, hp3⟩ : ∃ y, y = xs (i0 + 4).toNatClampNeg := ⟨_, rfl⟩
    obtain ⟨p4, hp4⟩ : ∃ y, y = xs (i0 + 5).toNatClampNeg := ⟨_, rfl⟩
    refine lv_aload_n hx hb dL_law_267 rfl (lv_at hl 1 rfl) ?_
    refine ld_1 hL hi0 hi6 hx hb hX hbl hbA hS hl dL_law_268 dL_law_269 dL_law_270 dL_law_271 dL_law_272 hp0 ?_
    refine S_calli (va_runV (As := [.int p0]) (rest := []) ⟨hx, hb, hml, hown, hts⟩ (k_Wend l D k A a z G p0 ) (cwV 1 hts (gd_V hgd m618 m619 m620 m117 m621) rfl rfl rfl hd_X11_end ⟨Nat.le_of_ble_eq_true rfl, Nat.le_of_ble_eq_true rfl⟩) (pre_W hW hB_G hK hZ hS kd_0 rfl) rfl rfl hl.1 rfl (lv_room (Nat.le_of_ble_eq_true rfl)) dL_law_273 ⟨Nat.le_of_ble_eq_true rfl, Nat.le_of_ble_eq_true rfl⟩) hS (fun r_1 G_2 H locs hpo hW hS => ?_)
    have hX_5 : P_Wend p0 G r_1 G_2 := hpo
    obtain ⟨hB_G_2, hq_3, hp_4, -⟩ := hpo
    refine lv_pop hx hb dL_law_276 rfl ?_
    refine lv_aload_n hx hb dL_law_277 rfl (lv_at hl 2 rfl) ?_
    refine ld_1 hL hi0 hi6 hx hb hX hbl hbA hS hl dL_law_278 dL_law_279 dL_law_280 dL_law_281 dL_law_282 hp0 ?_
    have b_6 : 0 ≤ (G.1 66 1).toInt ∧ (G.1 66 1).toInt ≤ 1600 := bd_66_1 hB_G
    have g_7 : (G_2.1 66 1).toInt = (G.1 66 1).toInt := (congrArg Int32.toInt (show G_2.1 66 1 = (G.1 66 1) from (hq_3.i9 66 1 rfl rfl)))
    refine S_calli (va_runV (As := [.int p0]) (rest := []) ⟨hx, hb, hml, hown, hts⟩ (n_end l D k A a z G_2 p0 ) (cwV 1 hts (gd_V hgd m1590 m1591 m1592 m131 m1593) rfl rfl rfl hd_X12_end ⟨Nat.le_of_ble_eq_true rfl, Nat.le_of_ble_eq_true rfl⟩) (pre_W hW hB_G_2 hK hZ hS kd_66 rfl) rfl rfl hl.1 rfl (lv_room (Nat.le_of_ble_eq_true rfl)) dL_law_283 ⟨Nat.le_of_ble_eq_true rfl, Nat.le_of_ble_eq_true rfl⟩) hS (fun r_8 G_9 H locs hpo hW hS => ?_)
    have hX_12 : Q_end p0 G_2 r_8 G_9 := hpo
    obtain ⟨hB_G_9, hq_10, hp_11, -⟩ := hpo
    refine lv_pop hx hb dL_law_286 rfl ?_
    refine lv_goto (tgt := 1641) hx hb dL_law_287 rfl ?_
    have fr_13 : Fr [] [(0, 11), (66, 1)] G G_9 := (Fr.call9 (rs := []) (fs := [(0, 11), (66, 1)]) (Fr.call9 (rs := []) (fs := [(0, 11), (66, 1)]) Fr.rf hq_3 rfl rfl) hq_10 rfl rfl)
    have g_14 : gIB G_9 = gIB G := gIB_fr fr_13 (gr_q rfl) (gf_q rfl)
    have g_15 : gO G_9 = gO G := gO_fr fr_13 (gr_q rfl) (gf_q rfl)
    have g_16 : gP G_9 = gP G := gP_fr fr_13 (gr_q rfl) (gf_q rfl)
    have g_17 : gS G_9 = gS G := gS_fr fr_13 (gr_q rfl) (gf_q rfl)
    have g_18 : gTE G_9 = gTE G := gTE_fr fr_13 (gr_q rfl) (gf_q rfl)
    have g_19 : gW G_9 = gW G := gW_fr fr_13 (gr_q rfl) (gf_q rfl)
    have b_20 : 0 ≤ (G_2.1 0 11).toInt ∧ (G_2.1 0 11).toInt ≤ 1600 := bd_0_11 hB_G_2
    have g_21 : (G_9.1 0 11).toInt = (G_2.1 0 11).toInt := (congrArg Int32.toInt (show G_9.1 0 11 = (G_2.1 0 11) from (hq_10.i9 0 11 rfl rfl)))
    have b_22 : 0 ≤ (G.1 3 7).toInt ∧ (G.1 3 7).toInt ≤ 4 := bd_3_7 hB_G
    have g_23 : (G_9.1 3 7).toInt = (G.1 3 7).toInt := (congrArg Int32.toInt (show G_9.1 3 7 = (G.1 3 7) from ((hq_10.i9 3 7 rfl rfl).trans (hq_3.i9 3 7 rfl rfl))))
    have b_24 : (-1) ≤ (G.1 3 8).toInt ∧ (G.1 3 8).toInt ≤ 1600 := bd_3_8 hB_G
    have g_25 : (G_9.1 3 8).toInt = (G.1 3 8).toInt := (congrArg Int32.toInt (show G_9.1 3 8 = (G.1 3 8) from ((hq_10.i9 3 8 rfl rfl).trans (hq_3.i9 3 8 rfl rfl))))
    have b_26 : 0 ≤ (G.1 30 4).toInt ∧ (G.1 30 4).toInt ≤ 40 := bd_30_4 hB_G
    have g_27 : (G_9.1 30 4).toInt = (G.1 30 4).toInt := (congrArg Int32.toInt (show G_9.1 30 4 = (G.1 30 4) from ((hq_10.i9 30 4 rfl rfl).trans (hq_3.i9 30 4 rfl rfl))))
    have b_28 : 0 ≤ (G.1 30 5).toInt ∧ (G.1 30 5).toInt ≤ 40 := bd_30_5 hB_G
    have g_29 : (G_9.1 30 5).toInt = (G.1 30 5).toInt := (congrArg Int32.toInt (show G_9.1 30 5 = (G.1 30 5) from ((hq_10.i9 30 5 rfl rfl).trans (hq_3.i9 30 5 rfl rfl))))
    have b_30 : 0 ≤ (G.1 31 6).toInt ∧ (G.1 31 6).toInt ≤ 100000 := bd_31_6 hB_G
    have g_31 : (G_9.1 31 6).toInt = (G.1 31 6).toInt := (congrArg Int32.toInt (show G_9.1 31 6 = (G.1 31 6) from ((hq_10.i9 31 6 rfl rfl).trans (hq_3.i9 31 6 rfl rfl))))
    have b_32 : 0 ≤ (G_9.1 66 1).toInt ∧ (G_9.1 66 1).toInt ≤ 1600 := bd_66_1 hB_G_9
    have b_33 : 0 ≤ (G.1 66 2).toInt ∧ (G.1 66 2).toInt ≤ 4 := bd_66_2 hB_G
    have g_34 : (G_9.1 66 2).toInt = (G.1 66 2).toInt := (congrArg Int32.toInt (show G_9.1 66 2 = (G.1 66 2) from ((hq_10.i9 66 2 rfl rfl).trans (hq_3.i9 66 2 rfl rfl))))
    have b_35 : (-1) ≤ (G.1 66 3).toInt ∧ (G.1 66 3).toInt ≤ 1600 := bd_66_3 hB_G
    have g_36 : (G_9.1 66 3).toInt = (G.1 66 3).toInt := (congrArg Int32.toInt (show G_9.1 66 3 = (G.1 66 3) from ((hq_10.i9 66 3 rfl rfl).trans (hq_3.i9 66 3 rfl rfl))))
    have b_37 : 0 ≤ (G.1 66 78).toInt ∧ (G.1 66 78).toInt ≤ 40 := bd_66_78 hB_G
    have g_38 : (G_9.1 66 78).toInt = (G.1 66 78).toInt := (congrArg Int32.toInt (show G_9.1 66 78 = (G.1 66 78) from ((hq_10.i9 66 78 rfl rfl).trans (hq_3.i9 66 78 rfl rfl))))
    have b_39 : 0 ≤ (G.1 66 79).toInt ∧ (G.1 66 79).toInt ≤ 40 := bd_66_79 hB_G
    have g_40 : (G_9.1 66 79).toInt = (G.1 66 79).toInt := (congrArg Int32.toInt (show G_9.1 66 79 = (G.1 66 79) from ((hq_10.i9 66 79 rfl rfl).trans (hq_3.i9 66 79 rfl rfl))))
    have b_41 : 0 ≤ (G.1 66 86).toInt ∧ (G.1 66 86).toInt ≤ 100000 := bd_66_86 hB_G
    have g_42 : (G_9.1 66 86).toInt = (G.1 66 86).toInt := (congrArg Int32.toInt (show G_9.1 66 86 = (G.1 66 86) from ((hq_10.i9 66 86 rfl rfl).trans (hq_3.i9 66 86 rfl rfl))))
    have b_43 : 0 ≤ (G.1 96 0).toInt ∧ (G.1 96 0).toInt ≤ 9 := bd_96_0 hB_G
    have g_44 : (G_9.1 96 0).toInt = (G.1 96 0).toInt := (congrArg Int32.toInt (show G_9.1 96 0 = (G.1 96 0) from ((hq_10.i9 96 0 rfl rfl).trans (hq_3.i9 96 0 rfl rfl))))
    have b_45 : 0 ≤ (G.1 96 1).toInt ∧ (G.1 96 1).toInt ≤ 9 := bd_96_1 hB_G
    have g_46 : (G_9.1 96 1).toInt = (G.1 96 1).toInt := (congrArg Int32.toInt (show G_9.1 96 1 = (G.1 96 1) from ((hq_10.i9 96 1 rfl rfl).trans (hq_3.i9 96 1 rfl rfl))))
    have b_47 : 0 ≤ (G.1 96 2).toInt ∧ (G.1 96 2).toInt ≤ 9 := bd_96_2 hB_G
    have g_48 : (G_9.1 96 2).toInt = (G.1 96 2).toInt := (congrArg Int32.toInt (show G_9.1 96 2 = (G.1 96 2) from ((hq_10.i9 96 2 rfl rfl).trans (hq_3.i9 96 2 rfl rfl))))
    exact K G_9 _ _ _ (Or.inr ⟨((((hq_10.r9 0 0 rfl rfl).trans (hq_3.r9 0 0 rfl rfl))).trans (hv_0_0)), ((((hq_10.r9 0 1 rfl rfl).trans (hq_3.r9 0 1 rfl rfl))).trans (hv_0_1)), ((((hq_10.r9 6 4 rfl rfl).trans (hq_3.r9 6 4 rfl rfl))).trans (hv_6_4)), by omega, by omega, by omega, by omega, by omega, by omega, by omega, by omega, by omega, by omega, by omega, by omega, by omega⟩) hB_G_9 hW hS (lv_sub hl [0, 1, 2, 3] rfl)

set_option maxHeartbeats 4000000 in
set_option maxRecDepth 100000 in
theorem law_2 {p : Program} {l : Launch} {e : Env} {s : State} {m : MethodId} {below : List Frame} {meth : Method} {c : Code} {D : va_G} {k : KT} {A : Nat → Prop} {a : Nat → Nat} {z : SK} {b L : Nat} {xs : Nat → Int32} (hL : L ≤ 3072) (C0 : lw_At p s m meth c b L xs) (hK : cK D k s) (hZ : Sx A z s) (hbA : ¬ A b) {G : GS} {i0 : Int32} (hi0 : 0 ≤ i0.toInt) (hi6 : i0.toInt + 6 ≤ L) (hI : LI G) (hB_G : Bd G) {H : Heap} {locs : List Loc} {ls : Array Slot} (hW : Wd D k A a G H) (hS : va_S A s.heap H locs) (hl : lv_has ls 4 [(0, .ref b), (1, .ref (a 0)), (2, .ref (a 66)), (3, .int i0)]) (K : ∀ (G1 : GS) (H1 : Heap) (locs1 : List Loc) (ls1 : Array Slot), LI G1 → Bd G1 → Wd D k A a G1 H1 → va_S A s.heap H1 locs1 → lv_has ls1 4 [(0, .ref b), (1, .ref (a 0)), (2, .ref (a 66)), (3, .int i0)] → W p l e room_1 s m #[Value.ref b] below meth c H1 locs1 119 46443 (lw_Z below #[Value.ref b] s) (F0 m 1641 ls1 [])) : W p l e room_1 s m #[Value.ref b] below meth c H locs 119 46443 (lw_Z below #[Value.ref b] s) (F0 m 290 ls []) := by
  obtain ⟨hx, hb, hr, hml, hown, hts, hX, hbl, hlocks, hgv⟩ := id C0
  have hown : s.vm.findClass RL = some m.cls := hown
  have hgd : ∀ w ∈ gd, w ∈ lw_tbl := fun w h => (List.mem_filter.mp h).1
  have hg : ∀ w ∈ gd, w.before #[Value.ref b] s = true := fun w h => hts w (hgd w h)
  rcases hI with ⟨hv_0_0, hv_0_1, hv_6_4, hj0, hj1, hj2, hj3, hj4, hj5, hj6, hj7, hj8, hj9, hj10, hj11, hj12⟩ | ⟨hv_0_0, hv_0_1, hv_6_4, hj0, hj1, hj2, hj3, hj4, hj5, hj6, hj7, hj8, hj9, hj10, hj11, hj12⟩
  · skip
    obtain ⟨p0, hp0⟩ : ∃ y, y = xs (i0 + 1).toNatClampNeg := ⟨_, rfl⟩
    obtain ⟨p1, hp1⟩ : ∃ y, y = xs (i0 + 2).toNatClampNeg := ⟨_, rfl⟩
    obtain ⟨p2, hp2⟩ : ∃ y, y = xs (i0 + 3).toNatClampNeg := ⟨_, rfl⟩
    obtain ⟨p3, hp3⟩ : ∃ y, y = xs (i0 + 4).toNatClampNeg := ⟨_, rfl⟩
    obtain ⟨p4, hp4⟩ : ∃ y, y = xs (i0 + 5).toNatClampNeg := ⟨_, rfl⟩
    refine lv_aload_n hx hb dL_law_290 rfl (lv_at hl 1 rfl) ?_
    have b_1 : 0 ≤ (G.1 30 4).toInt ∧ (G.1 30 4).toInt ≤ 40 := bd_30_4 hB_G
    have b_2 : 0 ≤ (G.1 30 5).toInt ∧ (G.1 30 5).toInt ≤ 40 := bd_30_5 hB_G
    refine S_calli (va_runV (As := []) (rest := []) ⟨hx, hb, hml, hown, hts⟩ (k_Wpavement_1 l D k A a z G  hv_0_0 hv_0_1 hv_6_4 (by omega)) (cwV 0 hts (gd_V hgd m622 m623 m624 m117 m625) rfl rfl rfl hd_X11_pavement ⟨Nat.le_of_ble_eq_true rfl, Nat.le_of_ble_eq_true rfl⟩) (pre_W hW hB_G hK hZ hS kd_0 rfl) rfl rfl hl.1 rfl (lv_room (Nat.le_of_ble_eq_true rfl)) dL_law_291 ⟨Nat.le_of_ble_eq_true rfl, Nat.le_of_ble_eq_true rfl⟩) hS (fun r_3 G_4 H locs hpo hW hS => ?_)
    have hX_7 : P_Wpavement_1 G r_3 G_4 := hpo
    obtain ⟨hB_G_4, hq_5, hp_6, -⟩ := hpo
    refine lv_pop hx hb dL_law_294 rfl ?_
    refine lv_aload_n hx hb dL_law_295 rfl (lv_at hl 2 rfl) ?_
    have fr_8 : Fr [20, 21, 22, 23, 24, 25, 26, 27, 28, 34, 35, 36, 38, 58, 59] [(0, 0), (0, 1), (0, 11), (0, 12), (2, 9), (2, 10), (2, 11), (2, 12), (2, 13), (2, 14), (2, 15), (2, 16), (3, 1), (3, 2), (3, 3), (3, 4), (3, 5), (3, 6), (3, 7), (3, 8), (4, 1), (4, 2), (5, 5), (5, 6), (5, 7), (5, 8), (5, 9), (6, 4), (30, 3), (30, 4), (30, 5), (31, 5)] G G_4 := (Fr.call9 (rs := [20, 21, 22, 23, 24, 25, 26, 27, 28, 34, 35, 36, 38, 58, 59]) (fs := [(0, 0), (0, 1), (0, 11), (0, 12), (2, 9), (2, 10), (2, 11), (2, 12), (2, 13), (2, 14), (2, 15), (2, 16), (3, 1), (3, 2), (3, 3), (3, 4), (3, 5), (3, 6), (3, 7), (3, 8), (4, 1), (4, 2), (5, 5), (5, 6), (5, 7), (5, 8), (5, 9), (6, 4), (30, 3), (30, 4), (30, 5), (31, 5)]) Fr.rf hq_5 rfl rfl)
    have g_9 : gP G_4 = gP G := gP_fr fr_8 (gr_q rfl) (gf_q rfl)
    have g_10 : gW G_4 = gW G := gW_fr fr_8 (gr_q rfl) (gf_q rfl)
    have g_11 : gS G_4 = gS G := gS_fr fr_8 (gr_q rfl) (gf_q rfl)
    have b_12 : 0 ≤ (G.1 66 78).toInt ∧ (G.1 66 78).toInt ≤ 40 := bd_66_78 hB_G
    have g_13 : (G_4.1 66 78).toInt = (G.1 66 78).toInt := (congrArg Int32.toInt (show G_4.1 66 78 = (G.1 66 78) from (hq_5.i9 66 78 rfl rfl)))
    have b_14 : 0 ≤ (G.1 66 79).toInt ∧ (G.1 66 79).toInt ≤ 40 := bd_66_79 hB_G
    have g_15 : (G_4.1 66 79).toInt = (G.1 66 79).toInt := (congrArg Int32.toInt (show G_4.1 66 79 = (G.1 66 79) from (hq_5.i9 66 79 rfl rfl)))
    have b_16 : 0 ≤ (G.1 96 0).toInt ∧ (G.1 96 0).toInt ≤ 9 := bd_96_0 hB_G
    have g_17 : (G_4.1 96 0).toInt = (G.1 96 0).toInt := (congrArg Int32.toInt (show G_4.1 96 0 = (G.1 96 0) from (hq_5.i9 96 0 rfl rfl)))
    have b_18 : 0 ≤ (G.1 96 1).toInt ∧ (G.1 96 1).toInt ≤ 9 := bd_96_1 hB_G
    have g_19 : (G_4.1 96 1).toInt = (G.1 96 1).toInt := (congrArg Int32.toInt (show G_4.1 96 1 = (G.1 96 1) from (hq_5.i9 96 1 rfl rfl)))
    have b_20 : 0 ≤ (G.1 96 2).toInt ∧ (G.1 96 2).toInt ≤ 9 := bd_96_2 hB_G
    have g_21 : (G_4.1 96 2).toInt = (G.1 96 2).toInt := (congrArg Int32.toInt (show G_4.1 96 2 = (G.1 96 2) from (hq_5.i9 96 2 rfl rfl)))
    refine S_calli (va_runV (As := []) (rest := []) ⟨hx, hb, hml, hown, hts⟩ (n_pavement l D k A a z G_4  ((by first | (clear b_1 b_2 g_10 g_11 b_12 g_13 b_14 g_15 b_16 g_17 b_18 g_19 b_20 g_21; omega) | omega)) ((by first | (clear b_1 b_2 g_9 g_11 b_12 g_13 b_14 g_15 b_16 g_17 b_18 g_19 b_20 g_21; omega) | omega)) ((by first | (clear b_1 b_2 g_9 g_10 b_12 g_13 b_14 g_15 b_16 g_17 b_18 g_19 b_20 g_21; omega) | omega)) ((by first | (clear b_1 b_2 g_9 g_10 g_11 b_16 g_17 b_18 g_19 b_20 g_21; omega) | omega)) ((by first | (clear b_1 b_2 g_9 g_10 g_11 b_12 g_13 b_14 g_15; omega) | omega))) (cwV 0 hts (gd_V hgd m1594 m1595 m1596 m131 m1597) rfl rfl rfl hd_X12_pavement ⟨Nat.le_of_ble_eq_true rfl, Nat.le_of_ble_eq_true rfl⟩) (pre_W hW hB_G_4 hK hZ hS kd_66 rfl) rfl rfl hl.1 rfl (lv_room (Nat.le_of_ble_eq_true rfl)) dL_law_296 ⟨Nat.le_of_ble_eq_true rfl, Nat.le_of_ble_eq_true rfl⟩) hS (fun r_22 G_23 H locs hpo hW hS => ?_)
    have hX_26 : Q_pavement G_4 r_22 G_23 := hpo
    obtain ⟨hB_G_23, hq_24, hp_25, -⟩ := hpo
    obtain ⟨u_27, u_28, u_29, u_30, hg_1, hg_2⟩ := L_pavement_1 hX_7 hX_26 (by omega) (by omega) (hB_G.i 0 11 (lo := 0) (hi := 1600) rfl rfl).1 (hB_G.i 0 11 (lo := 0) (hi := 1600) rfl rfl).2 hv_0_0 (by omega)
    have v_31 : gTE G_23 = 1 := u_30
    refine lv_pop hx hb dL_law_299 rfl ?_
    refine lv_goto (tgt := 1641) hx hb dL_law_300 rfl ?_
    have fr_32 : Fr [110, 117, 20, 21, 22, 23, 24, 25, 26, 27, 28, 34, 35, 36, 38, 58, 59, 68, 69, 70, 71, 72, 73, 74, 75, 77, 78, 79, 80, 81, 82, 83, 84, 85, 86, 87, 88, 89, 90, 91, 92, 93, 94, 95, 96] [(0, 0), (0, 1), (0, 11), (0, 12), (2, 9), (2, 10), (2, 11), (2, 12), (2, 13), (2, 14), (2, 15), (2, 16), (3, 1), (3, 2), (3, 3), (3, 4), (3, 5), (3, 6), (3, 7), (3, 8), (4, 1), (4, 2), (5, 5), (5, 6), (5, 7), (5, 8), (5, 9), (6, 4), (30, 3), (30, 4), (30, 5), (31, 5), (66, 1), (66, 2), (66, 3), (66, 4), (66, 5), (66, 6), (66, 7), (66, 8), (66, 9), (66, 19), (66, 20), (66, 21), (66, 22), (66, 23), (66, 24), (66, 45), (66, 46), (66, 47), (66, 48), (66, 49), (66, 50), (66, 51), (66, 52), (66, 53), (66, 54), (66, 55), (66, 56), (66, 66), (66, 78), (66, 79), (66, 85)] G G_23 := (Fr.call9 (rs := [110, 117, 20, 21, 22, 23, 24, 25, 26, 27, 28, 34, 35, 36, 38, 58, 59, 68, 69, 70, 71, 72, 73, 74, 75, 77, 78, 79, 80, 81, 82, 83, 84, 85, 86, 87, 88, 89, 90, 91, 92, 93, 94, 95, 96]) (fs := [(0, 0), (0, 1), (0, 11), (0, 12), (2, 9), (2, 10), (2, 11), (2, 12), (2, 13), (2, 14), (2, 15), (2, 16), (3, 1), (3, 2), (3, 3), (3, 4), (3, 5), (3, 6), (3, 7), (3, 8), (4, 1), (4, 2), (5, 5), (5, 6), (5, 7), (5, 8), (5, 9), (6, 4), (30, 3), (30, 4), (30, 5), (31, 5), (66, 1), (66, 2), (66, 3), (66, 4), (66, 5), (66, 6), (66, 7), (66, 8), (66, 9), (66, 19), (66, 20), (66, 21), (66, 22), (66, 23), (66, 24), (66, 45), (66, 46), (66, 47), (66, 48), (66, 49), (66, 50), (66, 51), (66, 52), (66, 53), (66, 54), (66, 55), (66, 56), (66, 66), (66, 78), (66, 79), (66, 85)]) (Fr.call9 (rs := [110, 117, 20, 21, 22, 23, 24, 25, 26, 27, 28, 34, 35, 36, 38, 58, 59, 68, 69, 70, 71, 72, 73, 74, 75, 77, 78, 79, 80, 81, 82, 83, 84, 85, 86, 87, 88, 89, 90, 91, 92, 93, 94, 95, 96]) (fs := [(0, 0), (0, 1), (0, 11), (0, 12), (2, 9), (2, 10), (2, 11), (2, 12), (2, 13), (2, 14), (2, 15), (2, 16), (3, 1), (3, 2), (3, 3), (3, 4), (3, 5), (3, 6), (3, 7), (3, 8), (4, 1), (4, 2), (5, 5), (5, 6), (5, 7), (5, 8), (5, 9), (6, 4), (30, 3), (30, 4), (30, 5), (31, 5), (66, 1), (66, 2), (66, 3), (66, 4), (66, 5), (66, 6), (66, 7), (66, 8), (66, 9), (66, 19), (66, 20), (66, 21), (66, 22), (66, 23), (66, 24), (66, 45), (66, 46), (66, 47), (66, 48), (66, 49), (66, 50), (66, 51), (66, 52), (66, 53), (66, 54), (66, 55), (66, 56), (66, 66), (66, 78), (66, 79), (66, 85)]) Fr.rf hq_5 rfl rfl) hq_24 rfl rfl)
    have g_33 : gO G_23 = gO G := gO_fr fr_32 (gr_q rfl) (gf_q rfl)
    have g_34 : gTE G_23 = gTE G := gTE_fr fr_32 (gr_q rfl) (gf_q rfl)
    have b_35 : 0 ≤ (G_4.1 0 11).toInt ∧ (G_4.1 0 11).toInt ≤ 1600 := bd_0_11 hB_G_4
    have g_36 : (G_23.1 0 11).toInt = (G_4.1 0 11).toInt := (congrArg Int32.toInt (show G_23.1 0 11 = (G_4.1 0 11) from (hq_24.i9 0 11 rfl rfl)))
    have b_37 : 0 ≤ (G_4.1 3 7).toInt ∧ (G_4.1 3 7).toInt ≤ 4 := bd_3_7 hB_G_4
    have g_38 : (G_23.1 3 7).toInt = (G_4.1 3 7).toInt := (congrArg Int32.toInt (show G_23.1 3 7 = (G_4.1 3 7) from (hq_24.i9 3 7 rfl rfl)))
    have b_39 : (-1) ≤ (G_4.1 3 8).toInt ∧ (G_4.1 3 8).toInt ≤ 1600 := bd_3_8 hB_G_4
    have g_40 : (G_23.1 3 8).toInt = (G_4.1 3 8).toInt := (congrArg Int32.toInt (show G_23.1 3 8 = (G_4.1 3 8) from (hq_24.i9 3 8 rfl rfl)))
    have b_41 : 0 ≤ (G_4.1 30 4).toInt ∧ (G_4.1 30 4).toInt ≤ 40 := bd_30_4 hB_G_4
    have g_42 : (G_23.1 30 4).toInt = (G_4.1 30 4).toInt := (congrArg Int32.toInt (show G_23.1 30 4 = (G_4.1 30 4) from (hq_24.i9 30 4 rfl rfl)))
    have b_43 : 0 ≤ (G_4.1 30 5).toInt ∧ (G_4.1 30 5).toInt ≤ 40 := bd_30_5 hB_G_4
    have g_44 : (G_23.1 30 5).toInt = (G_4.1 30 5).toInt := (congrArg Int32.toInt (show G_23.1 30 5 = (G_4.1 30 5) from (hq_24.i9 30 5 rfl rfl)))
    have b_45 : 0 ≤ (G.1 31 6).toInt ∧ (G.1 31 6).toInt ≤ 100000 := bd_31_6 hB_G
    have g_46 : (G_23.1 31 6).toInt = (G.1 31 6).toInt := (congrArg Int32.toInt (show G_23.1 31 6 = (G.1 31 6) from ((hq_24.i9 31 6 rfl rfl).trans (hq_5.i9 31 6 rfl rfl))))
    have b_47 : 0 ≤ (G_23.1 66 1).toInt ∧ (G_23.1 66 1).toInt ≤ 1600 := bd_66_1 hB_G_23
    have b_48 : 0 ≤ (G_23.1 66 2).toInt ∧ (G_23.1 66 2).toInt ≤ 4 := bd_66_2 hB_G_23
    have b_49 : (-1) ≤ (G_23.1 66 3).toInt ∧ (G_23.1 66 3).toInt ≤ 1600 := bd_66_3 hB_G_23
    have b_50 : 0 ≤ (G_23.1 66 78).toInt ∧ (G_23.1 66 78).toInt ≤ 40 := bd_66_78 hB_G_23
    have b_51 : 0 ≤ (G_23.1 66 79).toInt ∧ (G_23.1 66 79).toInt ≤ 40 := bd_66_79 hB_G_23
    have b_52 : 0 ≤ (G.1 66 86).toInt ∧ (G.1 66 86).toInt ≤ 100000 := bd_66_86 hB_G
    have g_53 : (G_23.1 66 86).toInt = (G.1 66 86).toInt := (congrArg Int32.toInt (show G_23.1 66 86 = (G.1 66 86) from ((hq_24.i9 66 86 rfl rfl).trans (hq_5.i9 66 86 rfl rfl))))
    have b_54 : 0 ≤ (G_23.1 96 0).toInt ∧ (G_23.1 96 0).toInt ≤ 9 := bd_96_0 hB_G_23
    have b_55 : 0 ≤ (G_23.1 96 1).toInt ∧ (G_23.1 96 1).toInt ≤ 9 := bd_96_1 hB_G_23
    have b_56 : 0 ≤ (G_23.1 96 2).toInt ∧ (G_23.1 96 2).toInt ≤ 9 := bd_96_2 hB_G_23
    rcases hp_6.2.2 with ⟨q1, q2, q3⟩ | ⟨q1, q2, q3⟩
    · have hg9 := hg_1 ((((hq_24.r9 0 0 rfl rfl)).trans (q1)))
      exact K G_23 _ _ _ (Or.inl ⟨((((hq_24.r9 0 0 rfl rfl)).trans (q1))), ((((hq_24.r9 0 1 rfl rfl)).trans (q2))), ((((hq_24.r9 6 4 rfl rfl)).trans (q3))), by omega, by omega, by omega, by omega, by omega, by omega, by omega, by omega, by omega, by omega, by omega, by omega, by omega⟩) hB_G_23 hW hS (lv_sub hl [0, 1, 2, 3] rfl)
    · have hg9 := hg_2 ((((hq_24.r9 0 0 rfl rfl)).trans (q1)))
      exact K G_23 _ _ _ (Or.inr ⟨((((hq_24.r9 0 0 rfl rfl)).trans (q1))), ((((hq_24.r9 0 1 rfl rfl)).trans (q2))), ((((hq_24.r9 6 4 rfl rfl)).trans (q3))), by omega, by omega, by omega, by omega, by omega, by omega, by omega, by omega, by omega, by omega, by omega, by omega, by omega⟩) hB_G_23 hW hS (lv_sub hl [0, 1, 2, 3] rfl)
  · skip
    obtain ⟨p0, hp0⟩ : ∃ y, y = xs (i0 + 1).toNatClampNeg := ⟨_, rfl⟩
    obtain ⟨p1, hp1⟩ : ∃ y, y = xs (i0 + 2).toNatClampNeg := ⟨_, rfl⟩
    obtain ⟨p2, hp2⟩ : ∃ y, y = xs (i0 + 3).toNatClampNeg := ⟨_, rfl⟩
    obtain ⟨p3, hp3⟩ : ∃ y, y = xs (i0 + 4).toNatClampNeg := ⟨_, rfl⟩
    obtain ⟨p4, hp4⟩ : ∃ y, y = xs (i0 + 5).toNatClampNeg := ⟨_, rfl⟩
    refine lv_aload_n hx hb dL_law_290 rfl (lv_at hl 1 rfl) ?_
    have b_1 : 0 ≤ (G.1 30 4).toInt ∧ (G.1 30 4).toInt ≤ 40 := bd_30_4 hB_G
    have b_2 : 0 ≤ (G.1 30 5).toInt ∧ (G.1 30 5).toInt ≤ 40 := bd_30_5 hB_G
    refine S_calli (va_runV (As := []) (rest := []) ⟨hx, hb, hml, hown, hts⟩ (k_Wpavement_2 l D k A a z G  hv_0_0 hv_0_1 hv_6_4 (by omega)) (cwV 0 hts (gd_V hgd m622 m623 m624 m117 m625) rfl rfl rfl hd_X11_pavement ⟨Nat.le_of_ble_eq_true rfl, Nat.le_of_ble_eq_true rfl⟩) (pre_W hW hB_G hK hZ hS kd_0 rfl) rfl rfl hl.1 rfl (lv_room (Nat.le_of_ble_eq_true rfl)) dL_law_291 ⟨Nat.le_of_ble_eq_true rfl, Nat.le_of_ble_eq_true rfl⟩) hS (fun r_3 G_4 H locs hpo hW hS => ?_)
    have hX_7 : P_Wpavement_2 G r_3 G_4 := hpo
    obtain ⟨hB_G_4, hq_5, hp_6, -⟩ := hpo
    refine lv_pop hx hb dL_law_294 rfl ?_
    refine lv_aload_n hx hb dL_law_295 rfl (lv_at hl 2 rfl) ?_
    have fr_8 : Fr [10, 11, 12, 13, 14, 15, 16, 17, 18, 34, 35, 36, 38, 58, 59] [(0, 0), (0, 1), (0, 11), (0, 12), (1, 9), (1, 10), (1, 11), (1, 12), (1, 13), (1, 14), (1, 15), (1, 16), (3, 1), (3, 2), (3, 3), (3, 4), (3, 5), (3, 6), (3, 7), (3, 8), (4, 1), (4, 2), (5, 5), (5, 6), (5, 7), (5, 8), (5, 9), (6, 4), (30, 3), (30, 4), (30, 5), (31, 5)] G G_4 := (Fr.call9 (rs := [10, 11, 12, 13, 14, 15, 16, 17, 18, 34, 35, 36, 38, 58, 59]) (fs := [(0, 0), (0, 1), (0, 11), (0, 12), (1, 9), (1, 10), (1, 11), (1, 12), (1, 13), (1, 14), (1, 15), (1, 16), (3, 1), (3, 2), (3, 3), (3, 4), (3, 5), (3, 6), (3, 7), (3, 8), (4, 1), (4, 2), (5, 5), (5, 6), (5, 7), (5, 8), (5, 9), (6, 4), (30, 3), (30, 4), (30, 5), (31, 5)]) Fr.rf hq_5 rfl rfl)
    have g_9 : gP G_4 = gP G := gP_fr fr_8 (gr_q rfl) (gf_q rfl)
    have g_10 : gW G_4 = gW G := gW_fr fr_8 (gr_q rfl) (gf_q rfl)
    have g_11 : gS G_4 = gS G := gS_fr fr_8 (gr_q rfl) (gf_q rfl)
    have b_12 : 0 ≤ (G.1 66 78).toInt ∧ (G.1 66 78).toInt ≤ 40 := bd_66_78 hB_G
    have g_13 : (G_4.1 66 78).toInt = (G.1 66 78).toInt := (congrArg Int32.toInt (show G_4.1 66 78 = (G.1 66 78) from (hq_5.i9 66 78 rfl rfl)))
    have b_14 : 0 ≤ (G.1 66 79).toInt ∧ (G.1 66 79).toInt ≤ 40 := bd_66_79 hB_G
    have g_15 : (G_4.1 66 79).toInt = (G.1 66 79).toInt := (congrArg Int32.toInt (show G_4.1 66 79 = (G.1 66 79) from (hq_5.i9 66 79 rfl rfl)))
    have b_16 : 0 ≤ (G.1 96 0).toInt ∧ (G.1 96 0).toInt ≤ 9 := bd_96_0 hB_G
    have g_17 : (G_4.1 96 0).toInt = (G.1 96 0).toInt := (congrArg Int32.toInt (show G_4.1 96 0 = (G.1 96 0) from (hq_5.i9 96 0 rfl rfl)))
    have b_18 : 0 ≤ (G.1 96 1).toInt ∧ (G.1 96 1).toInt ≤ 9 := bd_96_1 hB_G
    have g_19 : (G_4.1 96 1).toInt = (G.1 96 1).toInt := (congrArg Int32.toInt (show G_4.1 96 1 = (G.1 96 1) from (hq_5.i9 96 1 rfl rfl)))
    have b_20 : 0 ≤ (G.1 96 2).toInt ∧ (G.1 96 2).toInt ≤ 9 := bd_96_2 hB_G
    have g_21 : (G_4.1 96 2).toInt = (G.1 96 2).toInt := (congrArg Int32.toInt (show G_4.1 96 2 = (G.1 96 2) from (hq_5.i9 96 2 rfl rfl)))
    refine S_calli (va_runV (As := []) (rest := []) ⟨hx, hb, hml, hown, hts⟩ (n_pavement l D k A a z G_4  ((by first | (clear b_1 b_2 g_10 g_11 b_12 g_13 b_14 g_15 b_16 g_17 b_18 g_19 b_20 g_21; omega) | omega)) ((by first | (clear b_1 b_2 g_9 g_11 b_12 g_13 b_14 g_15 b_16 g_17 b_18 g_19 b_20 g_21; omega) | omega)) ((by first | (clear b_1 b_2 g_9 g_10 b_12 g_13 b_14 g_15 b_16 g_17 b_18 g_19 b_20 g_21; omega) | omega)) ((by first | (clear b_1 b_2 g_9 g_10 g_11 b_16 g_17 b_18 g_19 b_20 g_21; omega) | omega)) ((by first | (clear b_1 b_2 g_9 g_10 g_11 b_12 g_13 b_14 g_15; omega) | omega))) (cwV 0 hts (gd_V hgd m1594 m1595 m1596 m131 m1597) rfl rfl rfl hd_X12_pavement ⟨Nat.le_of_ble_eq_true rfl, Nat.le_of_ble_eq_true rfl⟩) (pre_W hW hB_G_4 hK hZ hS kd_66 rfl) rfl rfl hl.1 rfl (lv_room (Nat.le_of_ble_eq_true rfl)) dL_law_296 ⟨Nat.le_of_ble_eq_true rfl, Nat.le_of_ble_eq_true rfl⟩) hS (fun r_22 G_23 H locs hpo hW hS => ?_)
    have hX_26 : Q_pavement G_4 r_22 G_23 := hpo
    obtain ⟨hB_G_23, hq_24, hp_25, -⟩ := hpo
    obtain ⟨u_27, u_28, u_29, u_30, hg_1, hg_2⟩ := L_pavement_2 hX_7 hX_26 (by omega) (by omega) (hB_G.i 0 11 (lo := 0) (hi := 1600) rfl rfl).1 (hB_G.i 0 11 (lo := 0) (hi := 1600) rfl rfl).2 hv_0_0 (by omega)
    have v_31 : gTE G_23 = 1 := u_30
    refine lv_pop hx hb dL_law_299 rfl ?_
    refine lv_goto (tgt := 1641) hx hb dL_law_300 rfl ?_
    have fr_32 : Fr [10, 11, 110, 117, 12, 13, 14, 15, 16, 17, 18, 34, 35, 36, 38, 58, 59, 68, 69, 70, 71, 72, 73, 74, 75, 77, 78, 79, 80, 81, 82, 83, 84, 85, 86, 87, 88, 89, 90, 91, 92, 93, 94, 95, 96] [(0, 0), (0, 1), (0, 11), (0, 12), (1, 9), (1, 10), (1, 11), (1, 12), (1, 13), (1, 14), (1, 15), (1, 16), (3, 1), (3, 2), (3, 3), (3, 4), (3, 5), (3, 6), (3, 7), (3, 8), (4, 1), (4, 2), (5, 5), (5, 6), (5, 7), (5, 8), (5, 9), (6, 4), (30, 3), (30, 4), (30, 5), (31, 5), (66, 1), (66, 2), (66, 3), (66, 4), (66, 5), (66, 6), (66, 7), (66, 8), (66, 9), (66, 19), (66, 20), (66, 21), (66, 22), (66, 23), (66, 24), (66, 45), (66, 46), (66, 47), (66, 48), (66, 49), (66, 50), (66, 51), (66, 52), (66, 53), (66, 54), (66, 55), (66, 56), (66, 66), (66, 78), (66, 79), (66, 85)] G G_23 := (Fr.call9 (rs := [10, 11, 110, 117, 12, 13, 14, 15, 16, 17, 18, 34, 35, 36, 38, 58, 59, 68, 69, 70, 71, 72, 73, 74, 75, 77, 78, 79, 80, 81, 82, 83, 84, 85, 86, 87, 88, 89, 90, 91, 92, 93, 94, 95, 96]) (fs := [(0, 0), (0, 1), (0, 11), (0, 12), (1, 9), (1, 10), (1, 11), (1, 12), (1, 13), (1, 14), (1, 15), (1, 16), (3, 1), (3, 2), (3, 3), (3, 4), (3, 5), (3, 6), (3, 7), (3, 8), (4, 1), (4, 2), (5, 5), (5, 6), (5, 7), (5, 8), (5, 9), (6, 4), (30, 3), (30, 4), (30, 5), (31, 5), (66, 1), (66, 2), (66, 3), (66, 4), (66, 5), (66, 6), (66, 7), (66, 8), (66, 9), (66, 19), (66, 20), (66, 21), (66, 22), (66, 23), (66, 24), (66, 45), (66, 46), (66, 47), (66, 48), (66, 49), (66, 50), (66, 51), (66, 52), (66, 53), (66, 54), (66, 55), (66, 56), (66, 66), (66, 78), (66, 79), (66, 85)]) (Fr.call9 (rs := [10, 11, 110, 117, 12, 13, 14, 15, 16, 17, 18, 34, 35, 36, 38, 58, 59, 68, 69, 70, 71, 72, 73, 74, 75, 77, 78, 79, 80, 81, 82, 83, 84, 85, 86, 87, 88, 89, 90, 91, 92, 93, 94, 95, 96]) (fs := [(0, 0), (0, 1), (0, 11), (0, 12), (1, 9), (1, 10), (1, 11), (1, 12), (1, 13), (1, 14), (1, 15), (1, 16), (3, 1), (3, 2), (3, 3), (3, 4), (3, 5), (3, 6), (3, 7), (3, 8), (4, 1), (4, 2), (5, 5), (5, 6), (5, 7), (5, 8), (5, 9), (6, 4), (30, 3), (30, 4), (30, 5), (31, 5), (66, 1), (66, 2), (66, 3), (66, 4), (66, 5), (66, 6), (66, 7), (66, 8), (66, 9), (66, 19), (66, 20), (66, 21), (66, 22), (66, 23), (66, 24), (66, 45), (66, 46), (66, 47), (66, 48), (66, 49), (66, 50), (66, 51), (66, 52), (66, 53), (66, 54), (66, 55), (66, 56), (66, 66), (66, 78), (66, 79), (66, 85)]) Fr.rf hq_5 rfl rfl) hq_24 rfl rfl)
    have g_33 : gO G_23 = gO G := gO_fr fr_32 (gr_q rfl) (gf_q rfl)
    have g_34 : gTE G_23 = gTE G := gTE_fr fr_32 (gr_q rfl) (gf_q rfl)
    have b_35 : 0 ≤ (G_4.1 0 11).toInt ∧ (G_4.1 0 11).toInt ≤ 1600 := bd_0_11 hB_G_4
    have g_36 : (G_23.1 0 11).toInt = (G_4.1 0 11).toInt := (congrArg Int32.toInt (show G_23.1 0 11 = (G_4.1 0 11) from (hq_24.i9 0 11 rfl rfl)))
    have b_37 : 0 ≤ (G_4.1 3 7).toInt ∧ (G_4.1 3 7).toInt ≤ 4 := bd_3_7 hB_G_4
    have g_38 : (G_23.1 3 7).toInt = (G_4.1 3 7).toInt := (congrArg Int32.toInt (show G_23.1 3 7 = (G_4.1 3 7) from (hq_24.i9 3 7 rfl rfl)))
    have b_39 : (-1) ≤ (G_4.1 3 8).toInt ∧ (G_4.1 3 8).toInt ≤ 1600 := bd_3_8 hB_G_4
    have g_40 : (G_23.1 3 8).toInt = (G_4.1 3 8).toInt := (congrArg Int32.toInt (show G_23.1 3 8 = (G_4.1 3 8) from (hq_24.i9 3 8 rfl rfl)))
    have b_41 : 0 ≤ (G_4.1 30 4).toInt ∧ (G_4.1 30 4).toInt ≤ 40 := bd_30_4 hB_G_4
    have g_42 : (G_23.1 30 4).toInt = (G_4.1 30 4).toInt := (congrArg Int32.toInt (show G_23.1 30 4 = (G_4.1 30 4) from (hq_24.i9 30 4 rfl rfl)))
    have b_43 : 0 ≤ (G_4.1 30 5).toInt ∧ (G_4.1 30 5).toInt ≤ 40 := bd_30_5 hB_G_4
    have g_44 : (G_23.1 30 5).toInt = (G_4.1 30 5).toInt := (congrArg Int32.toInt (show G_23.1 30 5 = (G_4.1 30 5) from (hq_24.i9 30 5 rfl rfl)))
    have b_45 : 0 ≤ (G.1 31 6).toInt ∧ (G.1 31 6).toInt ≤ 100000 := bd_31_6 hB_G
    have g_46 : (G_23.1 31 6).toInt = (G.1 31 6).toInt := (congrArg Int32.toInt (show G_23.1 31 6 = (G.1 31 6) from ((hq_24.i9 31 6 rfl rfl).trans (hq_5.i9 31 6 rfl rfl))))
    have b_47 : 0 ≤ (G_23.1 66 1).toInt ∧ (G_23.1 66 1).toInt ≤ 1600 := bd_66_1 hB_G_23
    have b_48 : 0 ≤ (G_23.1 66 2).toInt ∧ (G_23.1 66 2).toInt ≤ 4 := bd_66_2 hB_G_23
    have b_49 : (-1) ≤ (G_23.1 66 3).toInt ∧ (G_23.1 66 3).toInt ≤ 1600 := bd_66_3 hB_G_23
    have b_50 : 0 ≤ (G_23.1 66 78).toInt ∧ (G_23.1 66 78).toInt ≤ 40 := bd_66_78 hB_G_23
    have b_51 : 0 ≤ (G_23.1 66 79).toInt ∧ (G_23.1 66 79).toInt ≤ 40 := bd_66_79 hB_G_23
    have b_52 : 0 ≤ (G.1 66 86).toInt ∧ (G.1 66 86).toInt ≤ 100000 := bd_66_86 hB_G
    have g_53 : (G_23.1 66 86).toInt = (G.1 66 86).toInt := (congrArg Int32.toInt (show G_23.1 66 86 = (G.1 66 86) from ((hq_24.i9 66 86 rfl rfl).trans (hq_5.i9 66 86 rfl rfl))))
    have b_54 : 0 ≤ (G_23.1 96 0).toInt ∧ (G_23.1 96 0).toInt ≤ 9 := bd_96_0 hB_G_23
    have b_55 : 0 ≤ (G_23.1 96 1).toInt ∧ (G_23.1 96 1).toInt ≤ 9 := bd_96_1 hB_G_23
    have b_56 : 0 ≤ (G_23.1 96 2).toInt ∧ (G_23.1 96 2).toInt ≤ 9 := bd_96_2 hB_G_23
    rcases hp_6.2.2 with ⟨q1, q2, q3⟩ | ⟨q1, q2, q3⟩
    · have hg9 := hg_2 ((((hq_24.r9 0 0 rfl rfl)).trans (q1)))
      exact K G_23 _ _ _ (Or.inr ⟨((((hq_24.r9 0 0 rfl rfl)).trans (q1))), ((((hq_24.r9 0 1 rfl rfl)).trans (q2))), ((((hq_24.r9 6 4 rfl rfl)).trans (q3))), by omega, by omega, by omega, by omega, by omega, by omega, by omega, by omega, by omega, by omega, by omega, by omega, by omega⟩) hB_G_23 hW hS (lv_sub hl [0, 1, 2, 3] rfl)
    · have hg9 := hg_1 ((((hq_24.r9 0 0 rfl rfl)).trans (q1)))
      exact K G_23 _ _ _ (Or.inl ⟨((((hq_24.r9 0 0 rfl rfl)).trans (q1))), ((((hq_24.r9 0 1 rfl rfl)).trans (q2))), ((((hq_24.r9 6 4 rfl rfl)).trans (q3))), by omega, by omega, by omega, by omega, by omega, by omega, by omega, by omega, by omega, by omega, by omega, by omega, by omega⟩) hB_G_23 hW hS (lv_sub hl [0, 1, 2, 3] rfl)

set_option maxHeartbeats 4000000 in
set_option maxRecDepth 100000 in
theorem law_3 {p : Program} {l : Launch} {e : Env} {s : State} {m : MethodId} {below : List Frame} {meth : Method} {c : Code} {D : va_G} {k : KT} {A : Nat → Prop} {a : Nat → Nat} {z : SK} {b L : Nat} {xs : Nat → Int32} (hL : L ≤ 3072) (C0 : lw_At p s m meth c b L xs) (hK : cK D k s) (hZ : Sx A z s) (hbA : ¬ A b) {G : GS} {i0 : Int32} (hi0 : 0 ≤ i0.toInt) (hi6 : i0.toInt + 6 ≤ L) (hI : LI G) (hB_G : Bd G) {H : Heap} {locs : List Loc} {ls : Array Slot} (hW : Wd D k A a G H) (hS : va_S A s.heap H locs) (hl : lv_has ls 4 [(0, .ref b), (1, .ref (a 0)), (2, .ref (a 66)), (3, .int i0)]) (K : ∀ (G1 : GS) (H1 : Heap) (locs1 : List Loc) (ls1 : Array Slot), LI G1 → Bd G1 → Wd D k A a G1 H1 → va_S A s.heap H1 locs1 → lv_has ls1 4 [(0, .ref b), (1, .ref (a 0)), (2, .ref (a 66)), (3, .int i0)] → W p l e room_1 s m #[Value.ref b] below meth c H1 locs1 119 46443 (lw_Z below #[Value.ref b] s) (F0 m 1641 ls1 [])) : W p l e room_1 s m #[Value.ref b] below meth c H locs 119 46443 (lw_Z below #[Value.ref b] s) (F0 m 303 ls []) := by
  obtain ⟨hx, hb, hr, hml, hown, hts, hX, hbl, hlocks, hgv⟩ := id C0
  have hown : s.vm.findClass RL = some m.cls := hown
  have hgd : ∀ w ∈ gd, w ∈ lw_tbl := fun w h => (List.mem_filter.mp h).1
  have hg : ∀ w ∈ gd, w.before #[Value.ref b] s = true := fun w h => hts w (hgd w h)
  rcases hI with ⟨hv_0_0, hv_0_1, hv_6_4, hj0, hj1, hj2, hj3, hj4, hj5, hj6, hj7, hj8, hj9, hj10, hj11, hj12⟩ | ⟨hv_0_0, hv_0_1, hv_6_4, hj0, hj1, hj2, hj3, hj4, hj5, hj6, hj7, hj8, hj9, hj10, hj11, hj12⟩
  · skip
    obtain ⟨p0, hp0⟩ : ∃ y, y = xs (i0 + 1).toNatClampNeg := ⟨_, rfl⟩
    obtain ⟨p1, hp1⟩ : ∃ y, y = xs (i0 + 2).toNatClampNeg := ⟨_, rfl⟩
    obtain ⟨p2, hp2⟩ : ∃ y, y = xs (i0 + 3).toNatClampNeg := ⟨_, rfl⟩
    obtain ⟨p3, hp3⟩ : ∃ y, y = xs (i0 + 4).toNatClampNeg := ⟨_, rfl⟩
    obtain ⟨p4, hp4⟩ : ∃ y, y = xs (i0 + 5).toNatClampNeg := ⟨_, rfl⟩
    refine lv_aload_n hx hb dL_law_303 rfl (lv_at hl 1 rfl) ?_
    refine ld_1 hL hi0 hi6 hx hb hX hbl hbA hS hl dL_law_304 dL_law_305 dL_law_306 dL_law_307 dL_law_308 hp0 ?_
    refine S_calli (va_runV (As := [.int p0]) (rest := []) ⟨hx, hb, hml, hown, hts⟩ (k_Wfault l D k A a z G p0 ) (cwV 1 hts (gd_V hgd m874 m875 m876 m117 m877) rfl rfl rfl hd_X11_fault ⟨Nat.le_of_ble_eq_true rfl, Nat.le_of_ble_eq_true rfl⟩) (pre_W hW hB_G hK hZ hS kd_0 rfl) rfl rfl hl.1 rfl (lv_room (Nat.le_of_ble_eq_true rfl)) dL_law_309 ⟨Nat.le_of_ble_eq_true rfl, Nat.le_of_ble_eq_true rfl⟩) hS (fun r_1 G_2 H locs hpo hW hS => ?_)
    have hX_5 : P_Wfault p0 G r_1 G_2 := hpo
    obtain ⟨hB_G_2, hq_3, -⟩ := hpo
    refine lv_pop hx hb dL_law_312 rfl ?_
    refine lv_aload_n hx hb dL_law_313 rfl (lv_at hl 2 rfl) ?_
    refine ld_1 hL hi0 hi6 hx hb hX hbl hbA hS hl dL_law_314 dL_law_315 dL_law_316 dL_law_317 dL_law_318 hp0 ?_
    refine S_calli (va_runV (As := [.int p0]) (rest := []) ⟨hx, hb, hml, hown, hts⟩ (n_fault l D k A a z G_2 p0 ) (cwV 1 hts (gd_V hgd m1769 m1770 m1771 m131 m1772) rfl rfl rfl hd_X12_fault ⟨Nat.le_of_ble_eq_true rfl, Nat.le_of_ble_eq_true rfl⟩) (pre_W hW hB_G_2 hK hZ hS kd_66 rfl) rfl rfl hl.1 rfl (lv_room (Nat.le_of_ble_eq_true rfl)) dL_law_319 ⟨Nat.le_of_ble_eq_true rfl, Nat.le_of_ble_eq_true rfl⟩) hS (fun r_6 G_7 H locs hpo hW hS => ?_)
    have hX_10 : Q_fault p0 G_2 r_6 G_7 := hpo
    obtain ⟨hB_G_7, hq_8, -⟩ := hpo
    have u_11 := flt_eq hX_5 hX_10 (by omega) (by omega) (by omega)
    refine lv_pop hx hb dL_law_322 rfl ?_
    refine lv_goto (tgt := 1641) hx hb dL_law_323 rfl ?_
    have fr_12 : Fr [] [] G G_7 := (Fr.call9 (rs := []) (fs := []) (Fr.call9 (rs := []) (fs := []) Fr.rf hq_3 rfl rfl) hq_8 rfl rfl)
    have g_13 : gIA G_7 = gIA G := gIA_fr fr_12 (gr_q rfl) (gf_q rfl)
    exact K G_7 _ _ _ (Or.inl (LI_of_1 (LIn_fr_1 (LIn_fr_1 (show LIn_1 G from ⟨hv_0_0, hv_0_1, hv_6_4, hj0, hj1, hj2, hj3, hj4, hj5, hj6, hj7, hj8, hj9, hj10, hj11⟩) hq_3 (by decide +kernel)) hq_8 (by decide +kernel)) (by omega))) hB_G_7 hW hS (lv_sub hl [0, 1, 2, 3] rfl)
  · skip
    obtain ⟨p0, hp0⟩ : ∃ y, y = xs (i0 + 1).toNatClampNeg := ⟨_, rfl⟩
    obtain ⟨p1, hp1⟩ : ∃ y, y = xs (i0 + 2).toNatClampNeg := ⟨_, rfl⟩
    obtain ⟨p2, hp2⟩ : ∃ y, y = xs (i0 + 3).toNatClampNeg := ⟨_, rfl⟩
    obtain ⟨p3, hp3⟩ : ∃ y, y = xs (i0 + 4).toNatClampNeg := ⟨_, rfl⟩
    obtain ⟨p4, hp4⟩ : ∃ y, y = xs (i0 + 5).toNatClampNeg := ⟨_, rfl⟩
    refine lv_aload_n hx hb dL_law_303 rfl (lv_at hl 1 rfl) ?_
    refine ld_1 hL hi0 hi6 hx hb hX hbl hbA hS hl dL_law_304 dL_law_305 dL_law_306 dL_law_307 dL_law_308 hp0 ?_
    refine S_calli (va_runV (As := [.int p0]) (rest := []) ⟨hx, hb, hml, hown, hts⟩ (k_Wfault l D k A a z G p0 ) (cwV 1 hts (gd_V hgd m874 m875 m876 m117 m877) rfl rfl rfl hd_X11_fault ⟨Nat.le_of_ble_eq_true rfl, Nat.le_of_ble_eq_true rfl⟩) (pre_W hW hB_G hK hZ hS kd_0 rfl) rfl rfl hl.1 rfl (lv_room (Nat.le_of_ble_eq_true rfl)) dL_law_309 ⟨Nat.le_of_ble_eq_true rfl, Nat.le_of_ble_eq_true rfl⟩) hS (fun r_1 G_2 H locs hpo hW hS => ?_)
    have hX_5 : P_Wfault p0 G r_1 G_2 := hpo
    obtain ⟨hB_G_2, hq_3, -⟩ := hpo
    refine lv_pop hx hb dL_law_312 rfl ?_
    refine lv_aload_n hx hb dL_law_313 rfl (lv_at hl 2 rfl) ?_
    refine ld_1 hL hi0 hi6 hx hb hX hbl hbA hS hl dL_law_314 dL_law_315 dL_law_316 dL_law_317 dL_law_318 hp0 ?_
    refine S_calli (va_runV (As := [.int p0]) (rest := []) ⟨hx, hb, hml, hown, hts⟩ (n_fault l D k A a z G_2 p0 ) (cwV 1 hts (gd_V hgd m1769 m1770 m1771 m131 m1772) rfl rfl rfl hd_X12_fault ⟨Nat.le_of_ble_eq_true rfl, Nat.le_of_ble_eq_true rfl⟩) (pre_W hW hB_G_2 hK hZ hS kd_66 rfl) rfl rfl hl.1 rfl (lv_room (Nat.le_of_ble_eq_true rfl)) dL_law_319 ⟨Nat.le_of_ble_eq_true rfl, Nat.le_of_ble_eq_true rfl⟩) hS (fun r_6 G_7 H locs hpo hW hS => ?_)
    have hX_10 : Q_fault p0 G_2 r_6 G_7 := hpo
    obtain ⟨hB_G_7, hq_8, -⟩ := hpo
    have u_11 := flt_eq hX_5 hX_10 (by omega) (by omega) (by omega)
    refine lv_pop hx hb dL_law_322 rfl ?_
    refine lv_goto (tgt := 1641) hx hb dL_law_323 rfl ?_
    have fr_12 : Fr [] [] G G_7 := (Fr.call9 (rs := []) (fs := []) (Fr.call9 (rs := []) (fs := []) Fr.rf hq_3 rfl rfl) hq_8 rfl rfl)
    have g_13 : gIB G_7 = gIB G := gIB_fr fr_12 (gr_q rfl) (gf_q rfl)
    exact K G_7 _ _ _ (Or.inr (LI_of_2 (LIn_fr_2 (LIn_fr_2 (show LIn_2 G from ⟨hv_0_0, hv_0_1, hv_6_4, hj0, hj1, hj2, hj3, hj4, hj5, hj6, hj7, hj8, hj9, hj10, hj11⟩) hq_3 (by decide +kernel)) hq_8 (by decide +kernel)) (by omega))) hB_G_7 hW hS (lv_sub hl [0, 1, 2, 3] rfl)

set_option maxHeartbeats 4000000 in
set_option maxRecDepth 100000 in
theorem law_4 {p : Program} {l : Launch} {e : Env} {s : State} {m : MethodId} {below : List Frame} {meth : Method} {c : Code} {D : va_G} {k : KT} {A : Nat → Prop} {a : Nat → Nat} {z : SK} {b L : Nat} {xs : Nat → Int32} (hL : L ≤ 3072) (C0 : lw_At p s m meth c b L xs) (hK : cK D k s) (hZ : Sx A z s) (hbA : ¬ A b) {G : GS} {i0 : Int32} (hi0 : 0 ≤ i0.toInt) (hi6 : i0.toInt + 6 ≤ L) (hI : LI G) (hB_G : Bd G) {H : Heap} {locs : List Loc} {ls : Array Slot} (hW : Wd D k A a G H) (hS : va_S A s.heap H locs) (hl : lv_has ls 4 [(0, .ref b), (1, .ref (a 0)), (2, .ref (a 66)), (3, .int i0)]) (K : ∀ (G1 : GS) (H1 : Heap) (locs1 : List Loc) (ls1 : Array Slot), LI G1 → Bd G1 → Wd D k A a G1 H1 → va_S A s.heap H1 locs1 → lv_has ls1 4 [(0, .ref b), (1, .ref (a 0)), (2, .ref (a 66)), (3, .int i0)] → W p l e room_1 s m #[Value.ref b] below meth c H1 locs1 119 46443 (lw_Z below #[Value.ref b] s) (F0 m 1641 ls1 [])) : W p l e room_1 s m #[Value.ref b] below meth c H locs 119 46443 (lw_Z below #[Value.ref b] s) (F0 m 326 ls []) := by
  obtain ⟨hx, hb, hr, hml, hown, hts, hX, hbl, hlocks, hgv⟩ := id C0
  have hown : s.vm.findClass RL = some m.cls := hown
  have hgd : ∀ w ∈ gd, w ∈ lw_tbl := fun w h => (List.mem_filter.mp h).1
  have hg : ∀ w ∈ gd, w.before #[Value.ref b] s = true := fun w h => hts w (hgd w h)
  rcases hI with ⟨hv_0_0, hv_0_1, hv_6_4, hj0, hj1, hj2, hj3, hj4, hj5, hj6, hj7, hj8, hj9, hj10, hj11, hj12⟩ | ⟨hv_0_0, hv_0_1, hv_6_4, hj0, hj1, hj2, hj3, hj4, hj5, hj6, hj7, hj8, hj9, hj10, hj11, hj12⟩
  · skip
    obtain ⟨p0, hp0⟩ : ∃ y, y = xs (i0 + 1).toNatClampNeg := ⟨_, rfl⟩
    obtain ⟨p1, hp1⟩ : ∃ y, y = xs (i0 + 2).toNatClampNeg := ⟨_, rfl⟩
    obtain ⟨p2, hp2⟩ : ∃ y, y = xs (i0 + 3).toNatClampNeg := ⟨_, rfl⟩
    obtain ⟨p3, hp3⟩ : ∃ y, y = xs (i0 + 4).toNatClampNeg := ⟨_, rfl⟩
    obtain ⟨p4, hp4⟩ : ∃ y, y = xs (i0 + 5).toNatClampNeg := ⟨_, rfl⟩
    refine lv_aload_n hx hb dL_law_326 rfl (lv_at hl 1 rfl) ?_
    refine ld_1 hL hi0 hi6 hx hb hX hbl hbA hS hl dL_law_327 dL_law_328 dL_law_329 dL_law_330 dL_law_331 hp0 ?_
    refine ld_2 hL hi0 hi6 hx hb hX hbl hbA hS hl dL_law_332 dL_law_333 dL_law_334 dL_law_335 dL_law_336 hp1 ?_
    refine ld_3 hL hi0 hi6 hx hb hX hbl hbA hS hl dL_law_337 dL_law_338 dL_law_339 dL_law_340 dL_law_341 hp2 ?_
    refine S_calli (va_runV (As := [.int p0, .int p1, .int p2]) (rest := []) ⟨hx, hb, hml, hown, hts⟩ (k_Winch_1 l D k A a z G p0 p1 p2 hv_0_0 hv_0_1 hv_6_4) (cwV 3 hts (gd_V hgd m878 m879 m880 m117 m881) rfl rfl rfl hd_X11_inch ⟨Nat.le_of_ble_eq_true rfl, Nat.le_of_ble_eq_true rfl⟩) (pre_W hW hB_G hK hZ hS kd_0 rfl) rfl rfl hl.1 rfl (lv_room (Nat.le_of_ble_eq_true rfl)) dL_law_342 ⟨Nat.le_of_ble_eq_true rfl, Nat.le_of_ble_eq_true rfl⟩) hS (fun r_1 G_2 H locs hpo hW hS => ?_)
    have hX_5 : P_Winch_1 p0 p1 p2 G r_1 G_2 := hpo
    obtain ⟨hB_G_2, hq_3, -⟩ := hpo
    refine lv_pop hx hb dL_law_345 rfl ?_
    refine lv_aload_n hx hb dL_law_346 rfl (lv_at hl 2 rfl) ?_
    refine ld_1 hL hi0 hi6 hx hb hX hbl hbA hS hl dL_law_347 dL_law_348 dL_law_349 dL_law_350 dL_law_351 hp0 ?_
    refine ld_2 hL hi0 hi6 hx hb hX hbl hbA hS hl dL_law_352 dL_law_353 dL_law_354 dL_law_355 dL_law_356 hp1 ?_
    refine ld_3 hL hi0 hi6 hx hb hX hbl hbA hS hl dL_law_357 dL_law_358 dL_law_359 dL_law_360 dL_law_361 hp2 ?_
    refine S_calli (va_runV (As := [.int p0, .int p1, .int p2]) (rest := []) ⟨hx, hb, hml, hown, hts⟩ (n_inch l D k A a z G_2 p0 p1 p2 ) (cwV 3 hts (gd_V hgd m1773 m1774 m1775 m131 m1776) rfl rfl rfl hd_X12_inch ⟨Nat.le_of_ble_eq_true rfl, Nat.le_of_ble_eq_true rfl⟩) (pre_W hW hB_G_2 hK hZ hS kd_66 rfl) rfl rfl hl.1 rfl (lv_room (Nat.le_of_ble_eq_true rfl)) dL_law_362 ⟨Nat.le_of_ble_eq_true rfl, Nat.le_of_ble_eq_true rfl⟩) hS (fun r_6 G_7 H locs hpo hW hS => ?_)
    have hX_10 : Q_inch p0 p1 p2 G_2 r_6 G_7 := hpo
    obtain ⟨hB_G_7, hq_8, -⟩ := hpo
    have u_11 := L_inch_1 hX_5 hX_10 rfl rfl rfl (by omega)
    refine lv_pop hx hb dL_law_365 rfl ?_
    refine lv_goto (tgt := 1641) hx hb dL_law_366 rfl ?_
    have fr_12 : Fr [] [] G G_7 := (Fr.call9 (rs := []) (fs := []) (Fr.call9 (rs := []) (fs := []) Fr.rf hq_3 rfl rfl) hq_8 rfl rfl)
    have g_13 : gIA G_7 = gIA G := gIA_fr fr_12 (gr_q rfl) (gf_q rfl)
    exact K G_7 _ _ _ (Or.inl (LI_of_1 (LIn_fr_1 (LIn_fr_1 (show LIn_1 G from ⟨hv_0_0, hv_0_1, hv_6_4, hj0, hj1, hj2, hj3, hj4, hj5, hj6, hj7, hj8, hj9, hj10, hj11⟩) hq_3 (by decide +kernel)) hq_8 (by decide +kernel)) (by omega))) hB_G_7 hW hS (lv_sub hl [0, 1, 2, 3] rfl)
  · skip
    obtain ⟨p0, hp0⟩ : ∃ y, y = xs (i0 + 1).toNatClampNeg := ⟨_, rfl⟩
    obtain ⟨p1, hp1⟩ : ∃ y, y = xs (i0 + 2).toNatClampNeg := ⟨_, rfl⟩
    obtain ⟨p2, hp2⟩ : ∃ y, y = xs (i0 + 3).toNatClampNeg := ⟨_, rfl⟩
    obtain ⟨p3, hp3⟩ : ∃ y, y = xs (i0 + 4).toNatClampNeg := ⟨_, rfl⟩
    obtain ⟨p4, hp4⟩ : ∃ y, y = xs (i0 + 5).toNatClampNeg := ⟨_, rfl⟩
    refine lv_aload_n hx hb dL_law_326 rfl (lv_at hl 1 rfl) ?_
    refine ld_1 hL hi0 hi6 hx hb hX hbl hbA hS hl dL_law_327 dL_law_328 dL_law_329 dL_law_330 dL_law_331 hp0 ?_
    refine ld_2 hL hi0 hi6 hx hb hX hbl hbA hS hl dL_law_332 dL_law_333 dL_law_334 dL_law_335 dL_law_336 hp1 ?_
    refine ld_3 hL hi0 hi6 hx hb hX hbl hbA hS hl dL_law_337 dL_law_338 dL_law_339 dL_law_340 dL_law_341 hp2 ?_
    refine S_calli (va_runV (As := [.int p0, .int p1, .int p2]) (rest := []) ⟨hx, hb, hml, hown, hts⟩ (k_Winch_2 l D k A a z G p0 p1 p2 hv_0_0 hv_0_1 hv_6_4) (cwV 3 hts (gd_V hgd m878 m879 m880 m117 m881) rfl rfl rfl hd_X11_inch ⟨Nat.le_of_ble_eq_true rfl, Nat.le_of_ble_eq_true rfl⟩) (pre_W hW hB_G hK hZ hS kd_0 rfl) rfl rfl hl.1 rfl (lv_room (Nat.le_of_ble_eq_true rfl)) dL_law_342 ⟨Nat.le_of_ble_eq_true rfl, Nat.le_of_ble_eq_true rfl⟩) hS (fun r_1 G_2 H locs hpo hW hS => ?_)
    have hX_5 : P_Winch_2 p0 p1 p2 G r_1 G_2 := hpo
    obtain ⟨hB_G_2, hq_3, -⟩ := hpo
    refine lv_pop hx hb dL_law_345 rfl ?_
    refine lv_aload_n hx hb dL_law_346 rfl (lv_at hl 2 rfl) ?_
    refine ld_1 hL hi0 hi6 hx hb hX hbl hbA hS hl dL_law_347 dL_law_348 dL_law_349 dL_law_350 dL_law_351 hp0 ?_
    refine ld_2 hL hi0 hi6 hx hb hX hbl hbA hS hl dL_law_352 dL_law_353 dL_law_354 dL_law_355 dL_law_356 hp1 ?_
    refine ld_3 hL hi0 hi6 hx hb hX hbl hbA hS hl dL_law_357 dL_law_358 dL_law_359 dL_law_360 dL_law_361 hp2 ?_
    refine S_calli (va_runV (As := [.int p0, .int p1, .int p2]) (rest := []) ⟨hx, hb, hml, hown, hts⟩ (n_inch l D k A a z G_2 p0 p1 p2 ) (cwV 3 hts (gd_V hgd m1773 m1774 m1775 m131 m1776) rfl rfl rfl hd_X12_inch ⟨Nat.le_of_ble_eq_true rfl, Nat.le_of_ble_eq_true rfl⟩) (pre_W hW hB_G_2 hK hZ hS kd_66 rfl) rfl rfl hl.1 rfl (lv_room (Nat.le_of_ble_eq_true rfl)) dL_law_362 ⟨Nat.le_of_ble_eq_true rfl, Nat.le_of_ble_eq_true rfl⟩) hS (fun r_6 G_7 H locs hpo hW hS => ?_)
    have hX_10 : Q_inch p0 p1 p2 G_2 r_6 G_7 := hpo
    obtain ⟨hB_G_7, hq_8, -⟩ := hpo
    have u_11 := L_inch_2 hX_5 hX_10 rfl rfl rfl (by omega)
    refine lv_pop hx hb dL_law_365 rfl ?_
    refine lv_goto (tgt := 1641) hx hb dL_law_366 rfl ?_
    have fr_12 : Fr [] [] G G_7 := (Fr.call9 (rs := []) (fs := []) (Fr.call9 (rs := []) (fs := []) Fr.rf hq_3 rfl rfl) hq_8 rfl rfl)
    have g_13 : gIB G_7 = gIB G := gIB_fr fr_12 (gr_q rfl) (gf_q rfl)
    exact K G_7 _ _ _ (Or.inr (LI_of_2 (LIn_fr_2 (LIn_fr_2 (show LIn_2 G from ⟨hv_0_0, hv_0_1, hv_6_4, hj0, hj1, hj2, hj3, hj4, hj5, hj6, hj7, hj8, hj9, hj10, hj11⟩) hq_3 (by decide +kernel)) hq_8 (by decide +kernel)) (by omega))) hB_G_7 hW hS (lv_sub hl [0, 1, 2, 3] rfl)

set_option maxHeartbeats 4000000 in
set_option maxRecDepth 100000 in
theorem law_5 {p : Program} {l : Launch} {e : Env} {s : State} {m : MethodId} {below : List Frame} {meth : Method} {c : Code} {D : va_G} {k : KT} {A : Nat → Prop} {a : Nat → Nat} {z : SK} {b L : Nat} {xs : Nat → Int32} (hL : L ≤ 3072) (C0 : lw_At p s m meth c b L xs) (hK : cK D k s) (hZ : Sx A z s) (hbA : ¬ A b) {G : GS} {i0 : Int32} (hi0 : 0 ≤ i0.toInt) (hi6 : i0.toInt + 6 ≤ L) (hI : LI G) (hB_G : Bd G) {H : Heap} {locs : List Loc} {ls : Array Slot} (hW : Wd D k A a G H) (hS : va_S A s.heap H locs) (hl : lv_has ls 4 [(0, .ref b), (1, .ref (a 0)), (2, .ref (a 66)), (3, .int i0)]) (K : ∀ (G1 : GS) (H1 : Heap) (locs1 : List Loc) (ls1 : Array Slot), LI G1 → Bd G1 → Wd D k A a G1 H1 → va_S A s.heap H1 locs1 → lv_has ls1 4 [(0, .ref b), (1, .ref (a 0)), (2, .ref (a 66)), (3, .int i0)] → W p l e room_1 s m #[Value.ref b] below meth c H1 locs1 119 46443 (lw_Z below #[Value.ref b] s) (F0 m 1641 ls1 [])) : W p l e room_1 s m #[Value.ref b] below meth c H locs 119 46443 (lw_Z below #[Value.ref b] s) (F0 m 369 ls []) := by
  obtain ⟨hx, hb, hr, hml, hown, hts, hX, hbl, hlocks, hgv⟩ := id C0
  have hown : s.vm.findClass RL = some m.cls := hown
  have hgd : ∀ w ∈ gd, w ∈ lw_tbl := fun w h => (List.mem_filter.mp h).1
  have hg : ∀ w ∈ gd, w.before #[Value.ref b] s = true := fun w h => hts w (hgd w h)
  rcases hI with ⟨hv_0_0, hv_0_1, hv_6_4, hj0, hj1, hj2, hj3, hj4, hj5, hj6, hj7, hj8, hj9, hj10, hj11, hj12⟩ | ⟨hv_0_0, hv_0_1, hv_6_4, hj0, hj1, hj2, hj3, hj4, hj5, hj6, hj7, hj8, hj9, hj10, hj11, hj12⟩
  · skip
    obtain ⟨p0, hp0⟩ : ∃ y, y = xs (i0 + 1).toNatClampNeg := ⟨_, rfl⟩
    obtain ⟨p1, hp1⟩ : ∃ y, y = xs (i0 + 2).toNatClampNeg := ⟨_, rfl⟩
    obtain ⟨p2, hp2⟩ : ∃ y, y = xs (i0 + 3).toNatClampNeg := ⟨_, rfl⟩
    obtain ⟨p3, hp3⟩ : ∃ y, y = xs (i0 + 4).toNatClampNeg := ⟨_, rfl⟩
    obtain ⟨p4, hp4⟩ : ∃ y, y = xs (i0 + 5).toNatClampNeg := ⟨_, rfl⟩
    refine lv_aload_n hx hb dL_law_369 rfl (lv_at hl 1 rfl) ?_
    refine ld_1 hL hi0 hi6 hx hb hX hbl hbA hS hl dL_law_370 dL_law_371 dL_law_372 dL_law_373 dL_law_374 hp0 ?_
    refine S_calli (va_runV (As := [.int p0]) (rest := []) ⟨hx, hb, hml, hown, hts⟩ (k_Wlength_1 l D k A a z G p0 hv_0_0 hv_0_1 hv_6_4) (cwV 1 hts (gd_V hgd m898 m899 m900 m117 m901) rfl rfl rfl hd_X11_length ⟨Nat.le_of_ble_eq_true rfl, Nat.le_of_ble_eq_true rfl⟩) (pre_W hW hB_G hK hZ hS kd_0 rfl) rfl rfl hl.1 rfl (lv_room (Nat.le_of_ble_eq_true rfl)) dL_law_375 ⟨Nat.le_of_ble_eq_true rfl, Nat.le_of_ble_eq_true rfl⟩) hS (fun r_1 G_2 H locs hpo hW hS => ?_)
    have hX_5 : P_Wlength_1 p0 G r_1 G_2 := hpo
    obtain ⟨hB_G_2, hq_3, -⟩ := hpo
    refine lv_pop hx hb dL_law_378 rfl ?_
    refine lv_aload_n hx hb dL_law_379 rfl (lv_at hl 2 rfl) ?_
    refine ld_1 hL hi0 hi6 hx hb hX hbl hbA hS hl dL_law_380 dL_law_381 dL_law_382 dL_law_383 dL_law_384 hp0 ?_
    refine S_calli (va_runV (As := [.int p0]) (rest := []) ⟨hx, hb, hml, hown, hts⟩ (n_length l D k A a z G_2 p0 ) (cwV 1 hts (gd_V hgd m1791 m1792 m1793 m131 m1794) rfl rfl rfl hd_X12_length ⟨Nat.le_of_ble_eq_true rfl, Nat.le_of_ble_eq_true rfl⟩) (pre_W hW hB_G_2 hK hZ hS kd_66 rfl) rfl rfl hl.1 rfl (lv_room (Nat.le_of_ble_eq_true rfl)) dL_law_385 ⟨Nat.le_of_ble_eq_true rfl, Nat.le_of_ble_eq_true rfl⟩) hS (fun r_6 G_7 H locs hpo hW hS => ?_)
    have hX_10 : Q_length p0 G_2 r_6 G_7 := hpo
    obtain ⟨hB_G_7, hq_8, -⟩ := hpo
    have u_11 := L_length_1 hX_5 hX_10 rfl (by omega)
    refine lv_pop hx hb dL_law_388 rfl ?_
    refine lv_goto (tgt := 1641) hx hb dL_law_389 rfl ?_
    have fr_12 : Fr [] [] G G_7 := (Fr.call9 (rs := []) (fs := []) (Fr.call9 (rs := []) (fs := []) Fr.rf hq_3 rfl rfl) hq_8 rfl rfl)
    have g_13 : gIA G_7 = gIA G := gIA_fr fr_12 (gr_q rfl) (gf_q rfl)
    exact K G_7 _ _ _ (Or.inl (LI_of_1 (LIn_fr_1 (LIn_fr_1 (show LIn_1 G from ⟨hv_0_0, hv_0_1, hv_6_4, hj0, hj1, hj2, hj3, hj4, hj5, hj6, hj7, hj8, hj9, hj10, hj11⟩) hq_3 (by decide +kernel)) hq_8 (by decide +kernel)) (by omega))) hB_G_7 hW hS (lv_sub hl [0, 1, 2, 3] rfl)
  · skip
    obtain ⟨p0, hp0⟩ : ∃ y, y = xs (i0 + 1).toNatClampNeg := ⟨_, rfl⟩
    obtain ⟨p1, hp1⟩ : ∃ y, y = xs (i0 + 2).toNatClampNeg := ⟨_, rfl⟩
    obtain ⟨p2, hp2⟩ : ∃ y, y = xs (i0 + 3).toNatClampNeg := ⟨_, rfl⟩
    obtain ⟨p3, hp3⟩ : ∃ y, y = xs (i0 + 4).toNatClampNeg := ⟨_, rfl⟩
    obtain ⟨p4, hp4⟩ : ∃ y, y = xs (i0 + 5).toNatClampNeg := ⟨_, rfl⟩
    refine lv_aload_n hx hb dL_law_369 rfl (lv_at hl 1 rfl) ?_
    refine ld_1 hL hi0 hi6 hx hb hX hbl hbA hS hl dL_law_370 dL_law_371 dL_law_372 dL_law_373 dL_law_374 hp0 ?_
    refine S_calli (va_runV (As := [.int p0]) (rest := []) ⟨hx, hb, hml, hown, hts⟩ (k_Wlength_2 l D k A a z G p0 hv_0_0 hv_0_1 hv_6_4) (cwV 1 hts (gd_V hgd m898 m899 m900 m117 m901) rfl rfl rfl hd_X11_length ⟨Nat.le_of_ble_eq_true rfl, Nat.le_of_ble_eq_true rfl⟩) (pre_W hW hB_G hK hZ hS kd_0 rfl) rfl rfl hl.1 rfl (lv_room (Nat.le_of_ble_eq_true rfl)) dL_law_375 ⟨Nat.le_of_ble_eq_true rfl, Nat.le_of_ble_eq_true rfl⟩) hS (fun r_1 G_2 H locs hpo hW hS => ?_)
    have hX_5 : P_Wlength_2 p0 G r_1 G_2 := hpo
    obtain ⟨hB_G_2, hq_3, -⟩ := hpo
    refine lv_pop hx hb dL_law_378 rfl ?_
    refine lv_aload_n hx hb dL_law_379 rfl (lv_at hl 2 rfl) ?_
    refine ld_1 hL hi0 hi6 hx hb hX hbl hbA hS hl dL_law_380 dL_law_381 dL_law_382 dL_law_383 dL_law_384 hp0 ?_
    refine S_calli (va_runV (As := [.int p0]) (rest := []) ⟨hx, hb, hml, hown, hts⟩ (n_length l D k A a z G_2 p0 ) (cwV 1 hts (gd_V hgd m1791 m1792 m1793 m131 m1794) rfl rfl rfl hd_X12_length ⟨Nat.le_of_ble_eq_true rfl, Nat.le_of_ble_eq_true rfl⟩) (pre_W hW hB_G_2 hK hZ hS kd_66 rfl) rfl rfl hl.1 rfl (lv_room (Nat.le_of_ble_eq_true rfl)) dL_law_385 ⟨Nat.le_of_ble_eq_true rfl, Nat.le_of_ble_eq_true rfl⟩) hS (fun r_6 G_7 H locs hpo hW hS => ?_)
    have hX_10 : Q_length p0 G_2 r_6 G_7 := hpo
    obtain ⟨hB_G_7, hq_8, -⟩ := hpo
    have u_11 := L_length_2 hX_5 hX_10 rfl (by omega)
    refine lv_pop hx hb dL_law_388 rfl ?_
    refine lv_goto (tgt := 1641) hx hb dL_law_389 rfl ?_
    have fr_12 : Fr [] [] G G_7 := (Fr.call9 (rs := []) (fs := []) (Fr.call9 (rs := []) (fs := []) Fr.rf hq_3 rfl rfl) hq_8 rfl rfl)
    have g_13 : gIB G_7 = gIB G := gIB_fr fr_12 (gr_q rfl) (gf_q rfl)
    exact K G_7 _ _ _ (Or.inr (LI_of_2 (LIn_fr_2 (LIn_fr_2 (show LIn_2 G from ⟨hv_0_0, hv_0_1, hv_6_4, hj0, hj1, hj2, hj3, hj4, hj5, hj6, hj7, hj8, hj9, hj10, hj11⟩) hq_3 (by decide +kernel)) hq_8 (by decide +kernel)) (by omega))) hB_G_7 hW hS (lv_sub hl [0, 1, 2, 3] rfl)
