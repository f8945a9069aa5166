set_option maxRecDepth 20000 in
theorem m0 : Cond.selects RX11 yX11_startAnew yX11_startAnew ∈ gd := gd_mem 0 (by decide +kernel) (by decide +kernel)
set_option maxRecDepth 20000 in
theorem m1 : Cond.selects RX1 yX1_forgetActs yX1_forgetActs ∈ gd := gd_mem 1 (by decide +kernel) (by decide +kernel)
set_option maxRecDepth 20000 in
theorem m117 : Cond.initialized RX11 ∈ gd := gd_mem 117 (by decide +kernel) (by decide +kernel)
set_option maxRecDepth 20000 in
theorem m118 : Cond.initialized RX6 ∈ gd := gd_mem 118 (by decide +kernel) (by decide +kernel)
set_option maxRecDepth 20000 in
theorem m119 : Cond.initialized RX7 ∈ gd := gd_mem 119 (by decide +kernel) (by decide +kernel)
set_option maxRecDepth 20000 in
theorem m120 : Cond.initialized RX9 ∈ gd := gd_mem 120 (by decide +kernel) (by decide +kernel)
set_option maxRecDepth 20000 in
theorem m121 : Cond.initialized RX2 ∈ gd := gd_mem 121 (by decide +kernel) (by decide +kernel)
set_option maxRecDepth 20000 in
theorem m122 : Cond.initialized RX3 ∈ gd := gd_mem 122 (by decide +kernel) (by decide +kernel)
set_option maxRecDepth 20000 in
theorem m123 : Cond.initialized RX0 ∈ gd := gd_mem 123 (by decide +kernel) (by decide +kernel)
set_option maxRecDepth 20000 in
theorem m124 : Cond.initialized RX10 ∈ gd := gd_mem 124 (by decide +kernel) (by decide +kernel)
set_option maxRecDepth 20000 in
theorem m125 : Cond.initialized RX4 ∈ gd := gd_mem 125 (by decide +kernel) (by decide +kernel)
set_option maxRecDepth 20000 in
theorem m126 : Cond.initialized RX5 ∈ gd := gd_mem 126 (by decide +kernel) (by decide +kernel)
set_option maxRecDepth 20000 in
theorem m127 : Cond.initialized RX1 ∈ gd := gd_mem 127 (by decide +kernel) (by decide +kernel)
set_option maxRecDepth 20000 in
theorem m128 : Cond.initialized RX8 ∈ gd := gd_mem 128 (by decide +kernel) (by decide +kernel)
set_option maxRecDepth 20000 in
theorem m129 : Cond.initialized RJ7 ∈ gd := gd_mem 129 (by decide +kernel) (by decide +kernel)
set_option maxRecDepth 20000 in
theorem m130 : Cond.initialized "java/lang/System" ∈ gd := gd_mem 130 (by decide +kernel) (by decide +kernel)
set_option maxRecDepth 20000 in
theorem m143 : Cond.methodLink RX11 1 objectInit ∈ gd := gd_mem 143 (by decide +kernel) (by decide +kernel)
set_option maxRecDepth 20000 in
theorem m144 : Cond.instanceMethod objectInit ∈ gd := gd_mem 144 (by decide +kernel) (by decide +kernel)
set_option maxRecDepth 20000 in
theorem m145 : Cond.code objectInit ⟨#[0xb1]⟩ 1 none ∈ gd := gd_mem 145 (by decide +kernel) (by decide +kernel)
set_option maxRecDepth 20000 in
theorem m146 : Cond.classLink RX11 7 RX6 ∈ gd := gd_mem 146 (by decide +kernel) (by decide +kernel)
set_option maxRecDepth 20000 in
theorem m147 : Cond.instantiable RX6 17 ∈ gd := gd_mem 147 (by decide +kernel) (by decide +kernel)
set_option maxRecDepth 20000 in
theorem m148 : Cond.methodLink RX11 9 yX6_init ∈ gd := gd_mem 148 (by decide +kernel) (by decide +kernel)
set_option maxRecDepth 20000 in
theorem m149 : Cond.instanceMethod yX6_init ∈ gd := gd_mem 149 (by decide +kernel) (by decide +kernel)
set_option maxRecDepth 20000 in
theorem m150 : Cond.code yX6_init cX6_init 1 none ∈ gd := gd_mem 150 (by decide +kernel) (by decide +kernel)
set_option maxRecDepth 20000 in
theorem m151 : Cond.methodLink RX6 3 objectInit ∈ gd := gd_mem 151 (by decide +kernel) (by decide +kernel)
set_option maxRecDepth 20000 in
theorem m152 : Cond.methodLink RX6 39 yX6_empty ∈ gd := gd_mem 152 (by decide +kernel) (by decide +kernel)
set_option maxRecDepth 20000 in
theorem m153 : Cond.instanceMethod yX6_empty ∈ gd := gd_mem 153 (by decide +kernel) (by decide +kernel)
set_option maxRecDepth 20000 in
theorem m154 : Cond.selects RX6 yX6_empty yX6_empty ∈ gd := gd_mem 154 (by decide +kernel) (by decide +kernel)
set_option maxRecDepth 20000 in
theorem m155 : Cond.code yX6_empty cX6_empty 1 none ∈ gd := gd_mem 155 (by decide +kernel) (by decide +kernel)
set_option maxRecDepth 20000 in
theorem m156 : Cond.fieldLink RX6 9 "SlabWalk$Paving" "length" "[I" ∈ gd := gd_mem 156 (by decide +kernel) (by decide +kernel)
set_option maxRecDepth 20000 in
theorem m161 : Cond.fieldLink RX6 15 "SlabWalk$Paving" "inches" "[I" ∈ gd := gd_mem 161 (by decide +kernel) (by decide +kernel)
set_option maxRecDepth 20000 in
theorem m162 : Cond.fieldLink RX6 18 "SlabWalk$Paving" "foot" "[I" ∈ gd := gd_mem 162 (by decide +kernel) (by decide +kernel)
set_option maxRecDepth 20000 in
theorem m166 : Cond.fieldLink RX6 21 "SlabWalk$Paving" "least" "[I" ∈ gd := gd_mem 166 (by decide +kernel) (by decide +kernel)
set_option maxRecDepth 20000 in
theorem m170 : Cond.fieldLink RX6 24 "SlabWalk$Paving" "most" "[I" ∈ gd := gd_mem 170 (by decide +kernel) (by decide +kernel)
set_option maxRecDepth 20000 in
theorem m174 : Cond.fieldLink RX6 27 "SlabWalk$Paving" "leap" "[I" ∈ gd := gd_mem 174 (by decide +kernel) (by decide +kernel)
set_option maxRecDepth 20000 in
theorem m178 : Cond.fieldLink RX6 30 "SlabWalk$Paving" "slip" "[I" ∈ gd := gd_mem 178 (by decide +kernel) (by decide +kernel)
set_option maxRecDepth 20000 in
theorem m181 : Cond.fieldLink RX6 33 "SlabWalk$Paving" "code" "[I" ∈ gd := gd_mem 181 (by decide +kernel) (by decide +kernel)
set_option maxRecDepth 20000 in
theorem m183 : Cond.fieldLink RX6 36 "SlabWalk$Paving" "codeEnd" "[I" ∈ gd := gd_mem 183 (by decide +kernel) (by decide +kernel)
set_option maxRecDepth 20000 in
theorem m186 : Cond.fieldLink RX6 42 "SlabWalk$Paving" "streets" "I" ∈ gd := gd_mem 186 (by decide +kernel) (by decide +kernel)
set_option maxRecDepth 20000 in
theorem m189 : Cond.fieldLink RX6 46 "SlabWalk$Paving" "walkers" "I" ∈ gd := gd_mem 189 (by decide +kernel) (by decide +kernel)
set_option maxRecDepth 20000 in
theorem m192 : Cond.fieldLink RX6 49 "SlabWalk$Paving" "rules" "I" ∈ gd := gd_mem 192 (by decide +kernel) (by decide +kernel)
set_option maxRecDepth 20000 in
theorem m196 : Cond.fieldLink RX6 52 "SlabWalk$Paving" "units" "I" ∈ gd := gd_mem 196 (by decide +kernel) (by decide +kernel)
set_option maxRecDepth 20000 in
theorem m199 : Cond.fieldLink RX6 55 "SlabWalk$Paving" "coded" "I" ∈ gd := gd_mem 199 (by decide +kernel) (by decide +kernel)
set_option maxRecDepth 20000 in
theorem m201 : Cond.fieldLink RX6 58 "SlabWalk$Paving" "hand" "I" ∈ gd := gd_mem 201 (by decide +kernel) (by decide +kernel)
set_option maxRecDepth 20000 in
theorem m204 : Cond.fieldLink RX6 61 "SlabWalk$Paving" "slack" "I" ∈ gd := gd_mem 204 (by decide +kernel) (by decide +kernel)
set_option maxRecDepth 20000 in
theorem m207 : Cond.fieldLink RX6 64 "SlabWalk$Paving" "draw" "I" ∈ gd := gd_mem 207 (by decide +kernel) (by decide +kernel)
set_option maxRecDepth 20000 in
theorem m209 : Cond.fieldLink RX11 323 "SlabWalk$Paving" "draw" "I" ∈ gd := gd_mem 209 (by decide +kernel) (by decide +kernel)
set_option maxRecDepth 20000 in
theorem m245 : Cond.arrayClass .int ∈ gd := gd_mem 245 (by decide +kernel) (by decide +kernel)
set_option maxRecDepth 20000 in
theorem m246 : Cond.classLink RX11 23 RX7 ∈ gd := gd_mem 246 (by decide +kernel) (by decide +kernel)
set_option maxRecDepth 20000 in
theorem m247 : Cond.instantiable RX7 10 ∈ gd := gd_mem 247 (by decide +kernel) (by decide +kernel)
set_option maxRecDepth 20000 in
theorem m248 : Cond.methodLink RX11 25 yX7_init ∈ gd := gd_mem 248 (by decide +kernel) (by decide +kernel)
set_option maxRecDepth 20000 in
theorem m249 : Cond.instanceMethod yX7_init ∈ gd := gd_mem 249 (by decide +kernel) (by decide +kernel)
set_option maxRecDepth 20000 in
theorem m250 : Cond.code yX7_init cX7_init 3 none ∈ gd := gd_mem 250 (by decide +kernel) (by decide +kernel)
set_option maxRecDepth 20000 in
theorem m251 : Cond.methodLink RX7 3 objectInit ∈ gd := gd_mem 251 (by decide +kernel) (by decide +kernel)
set_option maxRecDepth 20000 in
theorem m252 : Cond.classLink RX7 21 RX9 ∈ gd := gd_mem 252 (by decide +kernel) (by decide +kernel)
set_option maxRecDepth 20000 in
theorem m253 : Cond.instantiable RX9 9 ∈ gd := gd_mem 253 (by decide +kernel) (by decide +kernel)
set_option maxRecDepth 20000 in
theorem m254 : Cond.methodLink RX7 23 yX9_init ∈ gd := gd_mem 254 (by decide +kernel) (by decide +kernel)
set_option maxRecDepth 20000 in
theorem m255 : Cond.instanceMethod yX9_init ∈ gd := gd_mem 255 (by decide +kernel) (by decide +kernel)
set_option maxRecDepth 20000 in
theorem m256 : Cond.code yX9_init cX9_init 2 none ∈ gd := gd_mem 256 (by decide +kernel) (by decide +kernel)
set_option maxRecDepth 20000 in
theorem m257 : Cond.methodLink RX9 3 objectInit ∈ gd := gd_mem 257 (by decide +kernel) (by decide +kernel)
set_option maxRecDepth 20000 in
theorem m258 : Cond.fieldLink RX9 15 "SlabWalk$Tokens" "text" "[B" ∈ gd := gd_mem 258 (by decide +kernel) (by decide +kernel)
set_option maxRecDepth 20000 in
theorem m272 : Cond.fieldLink RX9 9 "SlabWalk$Tokens" "faultPlace" "I" ∈ gd := gd_mem 272 (by decide +kernel) (by decide +kernel)
set_option maxRecDepth 20000 in
theorem m293 : Cond.arrayClass .byte ∈ gd := gd_mem 293 (by decide +kernel) (by decide +kernel)
set_option maxRecDepth 20000 in
theorem m294 : Cond.arrayClass .long ∈ gd := gd_mem 294 (by decide +kernel) (by decide +kernel)
set_option maxRecDepth 20000 in
theorem m295 : Cond.classLink RX7 30 RX2 ∈ gd := gd_mem 295 (by decide +kernel) (by decide +kernel)
set_option maxRecDepth 20000 in
theorem m296 : Cond.instantiable RX2 3 ∈ gd := gd_mem 296 (by decide +kernel) (by decide +kernel)
set_option maxRecDepth 20000 in
theorem m297 : Cond.methodLink RX7 32 yX2_init ∈ gd := gd_mem 297 (by decide +kernel) (by decide +kernel)
set_option maxRecDepth 20000 in
theorem m298 : Cond.instanceMethod yX2_init ∈ gd := gd_mem 298 (by decide +kernel) (by decide +kernel)
set_option maxRecDepth 20000 in
theorem m299 : Cond.code yX2_init cX2_init 3 none ∈ gd := gd_mem 299 (by decide +kernel) (by decide +kernel)
set_option maxRecDepth 20000 in
theorem m300 : Cond.methodLink RX2 3 objectInit ∈ gd := gd_mem 300 (by decide +kernel) (by decide +kernel)
set_option maxRecDepth 20000 in
theorem m301 : Cond.fieldLink RX2 9 "SlabWalk$Formulas" "tokens" "LSlabWalk$Tokens;" ∈ gd := gd_mem 301 (by decide +kernel) (by decide +kernel)
set_option maxRecDepth 20000 in
theorem m302 : Cond.fieldLink RX2 15 "SlabWalk$Formulas" "paving" "LSlabWalk$Paving;" ∈ gd := gd_mem 302 (by decide +kernel) (by decide +kernel)
set_option maxRecDepth 20000 in
theorem m311 : Cond.fieldLink RX7 26 "SlabWalk$Reader" "tokens" "LSlabWalk$Tokens;" ∈ gd := gd_mem 311 (by decide +kernel) (by decide +kernel)
set_option maxRecDepth 20000 in
theorem m313 : Cond.fieldLink RX7 35 "SlabWalk$Reader" "formulas" "LSlabWalk$Formulas;" ∈ gd := gd_mem 313 (by decide +kernel) (by decide +kernel)
set_option maxRecDepth 20000 in
theorem m314 : Cond.fieldLink RX7 9 "SlabWalk$Reader" "streetNames" "[J" ∈ gd := gd_mem 314 (by decide +kernel) (by decide +kernel)
set_option maxRecDepth 20000 in
theorem m315 : Cond.fieldLink RX7 15 "SlabWalk$Reader" "walkerNames" "[J" ∈ gd := gd_mem 315 (by decide +kernel) (by decide +kernel)
set_option maxRecDepth 20000 in
theorem m316 : Cond.fieldLink RX7 18 "SlabWalk$Reader" "ruleNames" "[J" ∈ gd := gd_mem 316 (by decide +kernel) (by decide +kernel)
set_option maxRecDepth 20000 in
theorem m317 : Cond.fieldLink RX7 39 "SlabWalk$Reader" "paving" "LSlabWalk$Paving;" ∈ gd := gd_mem 317 (by decide +kernel) (by decide +kernel)
set_option maxRecDepth 20000 in
theorem m343 : Cond.classLink RX11 32 RX3 ∈ gd := gd_mem 343 (by decide +kernel) (by decide +kernel)
set_option maxRecDepth 20000 in
theorem m344 : Cond.instantiable RX3 5 ∈ gd := gd_mem 344 (by decide +kernel) (by decide +kernel)
set_option maxRecDepth 20000 in
theorem m345 : Cond.methodLink RX11 34 yX3_init ∈ gd := gd_mem 345 (by decide +kernel) (by decide +kernel)
set_option maxRecDepth 20000 in
theorem m346 : Cond.instanceMethod yX3_init ∈ gd := gd_mem 346 (by decide +kernel) (by decide +kernel)
set_option maxRecDepth 20000 in
theorem m347 : Cond.code yX3_init cX3_init 2 none ∈ gd := gd_mem 347 (by decide +kernel) (by decide +kernel)
set_option maxRecDepth 20000 in
theorem m348 : Cond.methodLink RX3 3 objectInit ∈ gd := gd_mem 348 (by decide +kernel) (by decide +kernel)
set_option maxRecDepth 20000 in
theorem m349 : Cond.fieldLink RX3 9 "SlabWalk$Lines" "found" "[I" ∈ gd := gd_mem 349 (by decide +kernel) (by decide +kernel)
set_option maxRecDepth 20000 in
theorem m350 : Cond.fieldLink RX3 15 "SlabWalk$Lines" "foundOn" "[I" ∈ gd := gd_mem 350 (by decide +kernel) (by decide +kernel)
set_option maxRecDepth 20000 in
theorem m351 : Cond.fieldLink RX3 18 "SlabWalk$Lines" "values" "[I" ∈ gd := gd_mem 351 (by decide +kernel) (by decide +kernel)
set_option maxRecDepth 20000 in
theorem m353 : Cond.fieldLink RX3 21 "SlabWalk$Lines" "paving" "LSlabWalk$Paving;" ∈ gd := gd_mem 353 (by decide +kernel) (by decide +kernel)
set_option maxRecDepth 20000 in
theorem m365 : Cond.classLink RX11 41 RX0 ∈ gd := gd_mem 365 (by decide +kernel) (by decide +kernel)
set_option maxRecDepth 20000 in
theorem m366 : Cond.instantiable RX0 8 ∈ gd := gd_mem 366 (by decide +kernel) (by decide +kernel)
set_option maxRecDepth 20000 in
theorem m368 : Cond.instanceMethod yX0_init ∈ gd := gd_mem 368 (by decide +kernel) (by decide +kernel)
set_option maxRecDepth 20000 in
theorem m369 : Cond.code yX0_init cX0_init 1 none ∈ gd := gd_mem 369 (by decide +kernel) (by decide +kernel)
set_option maxRecDepth 20000 in
theorem m370 : Cond.methodLink RX0 3 objectInit ∈ gd := gd_mem 370 (by decide +kernel) (by decide +kernel)
set_option maxRecDepth 20000 in
theorem m371 : Cond.fieldLink RX0 9 "SlabWalk$Course" "lawful" "[Z" ∈ gd := gd_mem 371 (by decide +kernel) (by decide +kernel)
set_option maxRecDepth 20000 in
theorem m412 : Cond.arrayClass .boolean ∈ gd := gd_mem 412 (by decide +kernel) (by decide +kernel)
set_option maxRecDepth 20000 in
theorem m413 : Cond.classLink RX11 48 RX10 ∈ gd := gd_mem 413 (by decide +kernel) (by decide +kernel)
set_option maxRecDepth 20000 in
theorem m414 : Cond.instantiable RX10 5 ∈ gd := gd_mem 414 (by decide +kernel) (by decide +kernel)
set_option maxRecDepth 20000 in
theorem m416 : Cond.instanceMethod yX10_init ∈ gd := gd_mem 416 (by decide +kernel) (by decide +kernel)
set_option maxRecDepth 20000 in
theorem m417 : Cond.code yX10_init cX10_init 1 none ∈ gd := gd_mem 417 (by decide +kernel) (by decide +kernel)
set_option maxRecDepth 20000 in
theorem m418 : Cond.methodLink RX10 3 objectInit ∈ gd := gd_mem 418 (by decide +kernel) (by decide +kernel)
set_option maxRecDepth 20000 in
theorem m419 : Cond.classLink RX10 11 "[[I" ∈ gd := gd_mem 419 (by decide +kernel) (by decide +kernel)
set_option maxRecDepth 20000 in
theorem m421 : Cond.classLink RX10 16 RX4 ∈ gd := gd_mem 421 (by decide +kernel) (by decide +kernel)
set_option maxRecDepth 20000 in
theorem m422 : Cond.instantiable RX4 4 ∈ gd := gd_mem 422 (by decide +kernel) (by decide +kernel)
set_option maxRecDepth 20000 in
theorem m424 : Cond.instanceMethod yX4_init ∈ gd := gd_mem 424 (by decide +kernel) (by decide +kernel)
set_option maxRecDepth 20000 in
theorem m425 : Cond.code yX4_init cX4_init 1 none ∈ gd := gd_mem 425 (by decide +kernel) (by decide +kernel)
set_option maxRecDepth 20000 in
theorem m426 : Cond.methodLink RX4 3 objectInit ∈ gd := gd_mem 426 (by decide +kernel) (by decide +kernel)
set_option maxRecDepth 20000 in
theorem m427 : Cond.fieldLink RX4 9 "SlabWalk$Minima" "keys" "[I" ∈ gd := gd_mem 427 (by decide +kernel) (by decide +kernel)
set_option maxRecDepth 20000 in
theorem m428 : Cond.fieldLink RX4 15 "SlabWalk$Minima" "values" "[I" ∈ gd := gd_mem 428 (by decide +kernel) (by decide +kernel)
set_option maxRecDepth 20000 in
theorem m440 : Cond.fieldLink RX10 13 "SlabWalk$Trails" "rows" "[[I" ∈ gd := gd_mem 440 (by decide +kernel) (by decide +kernel)
set_option maxRecDepth 20000 in
theorem m441 : Cond.fieldLink RX10 19 "SlabWalk$Trails" "steps" "LSlabWalk$Minima;" ∈ gd := gd_mem 441 (by decide +kernel) (by decide +kernel)
set_option maxRecDepth 20000 in
theorem m442 : Cond.fieldLink RX10 23 "SlabWalk$Trails" "leaps" "LSlabWalk$Minima;" ∈ gd := gd_mem 442 (by decide +kernel) (by decide +kernel)
set_option maxRecDepth 20000 in
theorem m443 : Cond.fieldLink RX10 26 "SlabWalk$Trails" "winning" "[I" ∈ gd := gd_mem 443 (by decide +kernel) (by decide +kernel)
set_option maxRecDepth 20000 in
theorem m445 : Cond.fieldLink RX10 30 "SlabWalk$Trails" "leaving" "[Z" ∈ gd := gd_mem 445 (by decide +kernel) (by decide +kernel)
set_option maxRecDepth 20000 in
theorem m458 : Cond.classLink RX11 55 RX5 ∈ gd := gd_mem 458 (by decide +kernel) (by decide +kernel)
set_option maxRecDepth 20000 in
theorem m459 : Cond.instantiable RX5 7 ∈ gd := gd_mem 459 (by decide +kernel) (by decide +kernel)
set_option maxRecDepth 20000 in
theorem m461 : Cond.instanceMethod yX5_init ∈ gd := gd_mem 461 (by decide +kernel) (by decide +kernel)
set_option maxRecDepth 20000 in
theorem m462 : Cond.code yX5_init cX5_init 1 none ∈ gd := gd_mem 462 (by decide +kernel) (by decide +kernel)
set_option maxRecDepth 20000 in
theorem m463 : Cond.methodLink RX5 3 objectInit ∈ gd := gd_mem 463 (by decide +kernel) (by decide +kernel)
set_option maxRecDepth 20000 in
theorem m464 : Cond.fieldLink RX5 11 "SlabWalk$Odds" "stepped" "[J" ∈ gd := gd_mem 464 (by decide +kernel) (by decide +kernel)
set_option maxRecDepth 20000 in
theorem m465 : Cond.fieldLink RX5 15 "SlabWalk$Odds" "leapt" "[J" ∈ gd := gd_mem 465 (by decide +kernel) (by decide +kernel)
set_option maxRecDepth 20000 in
theorem m466 : Cond.fieldLink RX5 18 "SlabWalk$Odds" "sums" "[J" ∈ gd := gd_mem 466 (by decide +kernel) (by decide +kernel)
set_option maxRecDepth 20000 in
theorem m467 : Cond.fieldLink RX5 21 "SlabWalk$Odds" "steppedSums" "[J" ∈ gd := gd_mem 467 (by decide +kernel) (by decide +kernel)
set_option maxRecDepth 20000 in
theorem m468 : Cond.fieldLink RX5 24 "SlabWalk$Odds" "odds" "[J" ∈ gd := gd_mem 468 (by decide +kernel) (by decide +kernel)
set_option maxRecDepth 20000 in
theorem m469 : Cond.fieldLink RX5 27 "SlabWalk$Odds" "aims" "[J" ∈ gd := gd_mem 469 (by decide +kernel) (by decide +kernel)
set_option maxRecDepth 20000 in
theorem m486 : Cond.classLink RX11 62 RX1 ∈ gd := gd_mem 486 (by decide +kernel) (by decide +kernel)
set_option maxRecDepth 20000 in
theorem m487 : Cond.instantiable RX1 6 ∈ gd := gd_mem 487 (by decide +kernel) (by decide +kernel)
set_option maxRecDepth 20000 in
theorem m489 : Cond.instanceMethod yX1_init ∈ gd := gd_mem 489 (by decide +kernel) (by decide +kernel)
set_option maxRecDepth 20000 in
theorem m490 : Cond.code yX1_init cX1_init 1 none ∈ gd := gd_mem 490 (by decide +kernel) (by decide +kernel)
set_option maxRecDepth 20000 in
theorem m491 : Cond.methodLink RX1 3 objectInit ∈ gd := gd_mem 491 (by decide +kernel) (by decide +kernel)
set_option maxRecDepth 20000 in
theorem m492 : Cond.fieldLink RX1 11 "SlabWalk$Earnest" "now" "[I" ∈ gd := gd_mem 492 (by decide +kernel) (by decide +kernel)
set_option maxRecDepth 20000 in
theorem m494 : Cond.fieldLink RX1 15 "SlabWalk$Earnest" "kept" "[I" ∈ gd := gd_mem 494 (by decide +kernel) (by decide +kernel)
set_option maxRecDepth 20000 in
theorem m495 : Cond.fieldLink RX1 18 "SlabWalk$Earnest" "boxes" "[I" ∈ gd := gd_mem 495 (by decide +kernel) (by decide +kernel)
set_option maxRecDepth 20000 in
theorem m496 : Cond.fieldLink RX1 27 "SlabWalk$Earnest" "full" "I" ∈ gd := gd_mem 496 (by decide +kernel) (by decide +kernel)
set_option maxRecDepth 20000 in
theorem m497 : Cond.fieldLink RX1 34 "SlabWalk$Earnest" "done" "I" ∈ gd := gd_mem 497 (by decide +kernel) (by decide +kernel)
set_option maxRecDepth 20000 in
theorem m499 : Cond.fieldLink RX1 37 "SlabWalk$Earnest" "undone" "I" ∈ gd := gd_mem 499 (by decide +kernel) (by decide +kernel)
set_option maxRecDepth 20000 in
theorem m514 : Cond.classLink RX11 69 RX8 ∈ gd := gd_mem 514 (by decide +kernel) (by decide +kernel)
set_option maxRecDepth 20000 in
theorem m515 : Cond.instantiable RX8 7 ∈ gd := gd_mem 515 (by decide +kernel) (by decide +kernel)
set_option maxRecDepth 20000 in
theorem m517 : Cond.instanceMethod yX8_init ∈ gd := gd_mem 517 (by decide +kernel) (by decide +kernel)
set_option maxRecDepth 20000 in
theorem m518 : Cond.code yX8_init cX8_init 1 none ∈ gd := gd_mem 518 (by decide +kernel) (by decide +kernel)
set_option maxRecDepth 20000 in
theorem m519 : Cond.methodLink RX8 3 objectInit ∈ gd := gd_mem 519 (by decide +kernel) (by decide +kernel)
set_option maxRecDepth 20000 in
theorem m520 : Cond.fieldLink RX8 11 "SlabWalk$Sights" "walker" "[I" ∈ gd := gd_mem 520 (by decide +kernel) (by decide +kernel)
set_option maxRecDepth 20000 in
theorem m522 : Cond.fieldLink RX8 15 "SlabWalk$Sights" "street" "[I" ∈ gd := gd_mem 522 (by decide +kernel) (by decide +kernel)
set_option maxRecDepth 20000 in
theorem m524 : Cond.fieldLink RX8 18 "SlabWalk$Sights" "heel" "[I" ∈ gd := gd_mem 524 (by decide +kernel) (by decide +kernel)
set_option maxRecDepth 20000 in
theorem m526 : Cond.fieldLink RX8 21 "SlabWalk$Sights" "told" "[I" ∈ gd := gd_mem 526 (by decide +kernel) (by decide +kernel)
set_option maxRecDepth 20000 in
theorem m527 : Cond.fieldLink RX8 24 "SlabWalk$Sights" "untold" "[I" ∈ gd := gd_mem 527 (by decide +kernel) (by decide +kernel)
set_option maxRecDepth 20000 in
theorem m529 : Cond.fieldLink RX11 285 "SlabWalk$Sights" "count" "I" ∈ gd := gd_mem 529 (by decide +kernel) (by decide +kernel)
set_option maxRecDepth 20000 in
theorem m547 : Cond.methodLink RX11 80 yX11_startAnew ∈ gd := gd_mem 547 (by decide +kernel) (by decide +kernel)
set_option maxRecDepth 20000 in
theorem m549 : Cond.instanceMethod yX11_startAnew ∈ gd := gd_mem 549 (by decide +kernel) (by decide +kernel)
set_option maxRecDepth 20000 in
theorem m550 : Cond.code yX11_startAnew cX11_startAnew 1 none ∈ gd := gd_mem 550 (by decide +kernel) (by decide +kernel)
set_option maxRecDepth 20000 in
theorem m551 : Cond.methodLink RX11 320 yX3_lookAt ∈ gd := gd_mem 551 (by decide +kernel) (by decide +kernel)
set_option maxRecDepth 20000 in
theorem m552 : Cond.instanceMethod yX3_lookAt ∈ gd := gd_mem 552 (by decide +kernel) (by decide +kernel)
set_option maxRecDepth 20000 in
theorem m553 : Cond.selects RX3 yX3_lookAt yX3_lookAt ∈ gd := gd_mem 553 (by decide +kernel) (by decide +kernel)
set_option maxRecDepth 20000 in
theorem m554 : Cond.code yX3_lookAt cX3_lookAt 2 none ∈ gd := gd_mem 554 (by decide +kernel) (by decide +kernel)
set_option maxRecDepth 20000 in
theorem m555 : Cond.methodLink RX3 25 yJ7_fill_53178 ∈ gd := gd_mem 555 (by decide +kernel) (by decide +kernel)
set_option maxRecDepth 20000 in
theorem m556 : Cond.static yJ7_fill_53178 ∈ gd := gd_mem 556 (by decide +kernel) (by decide +kernel)
set_option maxRecDepth 20000 in
theorem m557 : Cond.code yJ7_fill_53178 cJ7_fill_53178 4 none ∈ gd := gd_mem 557 (by decide +kernel) (by decide +kernel)
set_option maxRecDepth 20000 in
theorem m558 : Cond.methodLink RX11 326 yX1_startAnew ∈ gd := gd_mem 558 (by decide +kernel) (by decide +kernel)
set_option maxRecDepth 20000 in
theorem m559 : Cond.instanceMethod yX1_startAnew ∈ gd := gd_mem 559 (by decide +kernel) (by decide +kernel)
set_option maxRecDepth 20000 in
theorem m560 : Cond.selects RX1 yX1_startAnew yX1_startAnew ∈ gd := gd_mem 560 (by decide +kernel) (by decide +kernel)
set_option maxRecDepth 20000 in
theorem m561 : Cond.code yX1_startAnew cX1_startAnew 2 none ∈ gd := gd_mem 561 (by decide +kernel) (by decide +kernel)
set_option maxRecDepth 20000 in
theorem m562 : Cond.methodLink RX1 21 yJ7_fill_53178 ∈ gd := gd_mem 562 (by decide +kernel) (by decide +kernel)
set_option maxRecDepth 20000 in
theorem m563 : Cond.methodLink RX1 31 yX1_forgetActs ∈ gd := gd_mem 563 (by decide +kernel) (by decide +kernel)
set_option maxRecDepth 20000 in
theorem m565 : Cond.instanceMethod yX1_forgetActs ∈ gd := gd_mem 565 (by decide +kernel) (by decide +kernel)
set_option maxRecDepth 20000 in
theorem m566 : Cond.code yX1_forgetActs cX1_forgetActs 1 none ∈ gd := gd_mem 566 (by decide +kernel) (by decide +kernel)
set_option maxRecDepth 20000 in
theorem m567 : Cond.methodLink RX1 40 arraycopyName ∈ gd := gd_mem 567 (by decide +kernel) (by decide +kernel)
set_option maxRecDepth 20000 in
theorem m568 : Cond.static arraycopyName ∈ gd := gd_mem 568 (by decide +kernel) (by decide +kernel)
set_option maxRecDepth 20000 in
theorem m569 : Cond.native arraycopyName ∈ gd := gd_mem 569 (by decide +kernel) (by decide +kernel)
set_option maxRecDepth 20000 in
theorem m570 : Cond.fieldLink RX11 10 "SlabWalk" "paving" "LSlabWalk$Paving;" ∈ gd := gd_mem 570 (by decide +kernel) (by decide +kernel)
set_option maxRecDepth 20000 in
theorem m571 : Cond.fieldLink RX11 16 "SlabWalk" "spare" "LSlabWalk$Paving;" ∈ gd := gd_mem 571 (by decide +kernel) (by decide +kernel)
set_option maxRecDepth 20000 in
theorem m572 : Cond.fieldLink RX11 19 "SlabWalk" "tape" "[B" ∈ gd := gd_mem 572 (by decide +kernel) (by decide +kernel)
set_option maxRecDepth 20000 in
theorem m573 : Cond.fieldLink RX11 28 "SlabWalk" "reader" "LSlabWalk$Reader;" ∈ gd := gd_mem 573 (by decide +kernel) (by decide +kernel)
set_option maxRecDepth 20000 in
theorem m574 : Cond.fieldLink RX11 37 "SlabWalk" "lines" "LSlabWalk$Lines;" ∈ gd := gd_mem 574 (by decide +kernel) (by decide +kernel)
set_option maxRecDepth 20000 in
theorem m575 : Cond.fieldLink RX11 44 "SlabWalk" "course" "LSlabWalk$Course;" ∈ gd := gd_mem 575 (by decide +kernel) (by decide +kernel)
set_option maxRecDepth 20000 in
theorem m576 : Cond.fieldLink RX11 51 "SlabWalk" "trails" "LSlabWalk$Trails;" ∈ gd := gd_mem 576 (by decide +kernel) (by decide +kernel)
set_option maxRecDepth 20000 in
theorem m577 : Cond.fieldLink RX11 58 "SlabWalk" "odds" "LSlabWalk$Odds;" ∈ gd := gd_mem 577 (by decide +kernel) (by decide +kernel)
set_option maxRecDepth 20000 in
theorem m578 : Cond.fieldLink RX11 65 "SlabWalk" "earnest" "LSlabWalk$Earnest;" ∈ gd := gd_mem 578 (by decide +kernel) (by decide +kernel)
set_option maxRecDepth 20000 in
theorem m579 : Cond.fieldLink RX11 72 "SlabWalk" "sights" "LSlabWalk$Sights;" ∈ gd := gd_mem 579 (by decide +kernel) (by decide +kernel)
set_option maxRecDepth 20000 in
theorem m580 : Cond.fieldLink RX11 76 "SlabWalk" "lying" "[I" ∈ gd := gd_mem 580 (by decide +kernel) (by decide +kernel)
set_option maxRecDepth 20000 in
theorem m582 : Cond.fieldLink RX11 150 "SlabWalk" "lie" "I" ∈ gd := gd_mem 582 (by decide +kernel) (by decide +kernel)
set_option maxRecDepth 20000 in
theorem m886 : Cond.methodLink RX6 77 yX6_hasStreet ∈ gd := gd_mem 886 (by decide +kernel) (by decide +kernel)
set_option maxRecDepth 20000 in
theorem m887 : Cond.instanceMethod yX6_hasStreet ∈ gd := gd_mem 887 (by decide +kernel) (by decide +kernel)
set_option maxRecDepth 20000 in
theorem m888 : Cond.selects RX6 yX6_hasStreet yX6_hasStreet ∈ gd := gd_mem 888 (by decide +kernel) (by decide +kernel)
set_option maxRecDepth 20000 in
theorem m889 : Cond.code yX6_hasStreet cX6_hasStreet 2 (some .boolean) ∈ gd := gd_mem 889 (by decide +kernel) (by decide +kernel)
set_option maxRecDepth 20000 in
theorem m958 : Cond.instanceMethod yX6_hasWalker ∈ gd := gd_mem 958 (by decide +kernel) (by decide +kernel)
set_option maxRecDepth 20000 in
theorem m959 : Cond.selects RX6 yX6_hasWalker yX6_hasWalker ∈ gd := gd_mem 959 (by decide +kernel) (by decide +kernel)
set_option maxRecDepth 20000 in
theorem m960 : Cond.code yX6_hasWalker cX6_hasWalker 2 (some .boolean) ∈ gd := gd_mem 960 (by decide +kernel) (by decide +kernel)
set_option maxRecDepth 20000 in
theorem m969 : Cond.methodLink RX6 81 yX6_hasWalker ∈ gd := gd_mem 969 (by decide +kernel) (by decide +kernel)
