set_option maxRecDepth 20000 in
theorem m2 : Cond.selects RX11 yX11_putOnTape yX11_putOnTape ∈ gd := gd_mem 2 (by decide +kernel) (by decide +kernel)
set_option maxRecDepth 20000 in
theorem m27 : Cond.selects RX11 yX11_today yX11_today ∈ gd := gd_mem 27 (by decide +kernel) (by decide +kernel)
set_option maxRecDepth 20000 in
theorem m31 : Cond.selects RX11 yX11_canAsk yX11_canAsk ∈ gd := gd_mem 31 (by decide +kernel) (by decide +kernel)
set_option maxRecDepth 20000 in
theorem m38 : Cond.selects RX11 yX11_canBeBrave yX11_canBeBrave ∈ gd := gd_mem 38 (by decide +kernel) (by decide +kernel)
set_option maxRecDepth 20000 in
theorem m44 : Cond.selects RX11 yX11_canGo yX11_canGo ∈ gd := gd_mem 44 (by decide +kernel) (by decide +kernel)
set_option maxRecDepth 20000 in
theorem m132 : Cond.initialized "java/lang/Math" ∈ gd := gd_mem 132 (by decide +kernel) (by decide +kernel)
set_option maxRecDepth 20000 in
theorem m187 : Cond.fieldLink RX11 95 "SlabWalk$Paving" "streets" "I" ∈ gd := gd_mem 187 (by decide +kernel) (by decide +kernel)
set_option maxRecDepth 20000 in
theorem m191 : Cond.fieldLink RX11 305 "SlabWalk$Paving" "walkers" "I" ∈ gd := gd_mem 191 (by decide +kernel) (by decide +kernel)
set_option maxRecDepth 20000 in
theorem m195 : Cond.fieldLink RX11 228 "SlabWalk$Paving" "rules" "I" ∈ gd := gd_mem 195 (by decide +kernel) (by decide +kernel)
set_option maxRecDepth 20000 in
theorem m198 : Cond.fieldLink RX11 314 "SlabWalk$Paving" "units" "I" ∈ gd := gd_mem 198 (by decide +kernel) (by decide +kernel)
set_option maxRecDepth 20000 in
theorem m259 : Cond.fieldLink RX9 25 "SlabWalk$Tokens" "size" "I" ∈ gd := gd_mem 259 (by decide +kernel) (by decide +kernel)
set_option maxRecDepth 20000 in
theorem m260 : Cond.fieldLink RX9 28 "SlabWalk$Tokens" "at" "I" ∈ gd := gd_mem 260 (by decide +kernel) (by decide +kernel)
set_option maxRecDepth 20000 in
theorem m261 : Cond.fieldLink RX7 62 "SlabWalk$Tokens" "kind" "I" ∈ gd := gd_mem 261 (by decide +kernel) (by decide +kernel)
set_option maxRecDepth 20000 in
theorem m262 : Cond.fieldLink RX9 38 "SlabWalk$Tokens" "kind" "I" ∈ gd := gd_mem 262 (by decide +kernel) (by decide +kernel)
set_option maxRecDepth 20000 in
theorem m264 : Cond.fieldLink RX9 41 "SlabWalk$Tokens" "place" "I" ∈ gd := gd_mem 264 (by decide +kernel) (by decide +kernel)
set_option maxRecDepth 20000 in
theorem m270 : Cond.fieldLink RX9 31 "SlabWalk$Tokens" "fault" "I" ∈ gd := gd_mem 270 (by decide +kernel) (by decide +kernel)
set_option maxRecDepth 20000 in
theorem m271 : Cond.fieldLink RX11 102 "SlabWalk$Tokens" "fault" "I" ∈ gd := gd_mem 271 (by decide +kernel) (by decide +kernel)
set_option maxRecDepth 20000 in
theorem m273 : Cond.fieldLink RX11 107 "SlabWalk$Tokens" "faultPlace" "I" ∈ gd := gd_mem 273 (by decide +kernel) (by decide +kernel)
set_option maxRecDepth 20000 in
theorem m312 : Cond.fieldLink RX11 98 "SlabWalk$Reader" "tokens" "LSlabWalk$Tokens;" ∈ gd := gd_mem 312 (by decide +kernel) (by decide +kernel)
set_option maxRecDepth 20000 in
theorem m318 : Cond.fieldLink RX7 48 "SlabWalk$Reader" "slipTold" "Z" ∈ gd := gd_mem 318 (by decide +kernel) (by decide +kernel)
set_option maxRecDepth 20000 in
theorem m319 : Cond.fieldLink RX7 52 "SlabWalk$Reader" "handTold" "Z" ∈ gd := gd_mem 319 (by decide +kernel) (by decide +kernel)
set_option maxRecDepth 20000 in
theorem m320 : Cond.fieldLink RX7 55 "SlabWalk$Reader" "drawTold" "Z" ∈ gd := gd_mem 320 (by decide +kernel) (by decide +kernel)
set_option maxRecDepth 20000 in
theorem m493 : Cond.fieldLink RX11 246 "SlabWalk$Earnest" "now" "[I" ∈ gd := gd_mem 493 (by decide +kernel) (by decide +kernel)
set_option maxRecDepth 20000 in
theorem m498 : Cond.fieldLink RX11 308 "SlabWalk$Earnest" "done" "I" ∈ gd := gd_mem 498 (by decide +kernel) (by decide +kernel)
set_option maxRecDepth 20000 in
theorem m500 : Cond.fieldLink RX11 311 "SlabWalk$Earnest" "undone" "I" ∈ gd := gd_mem 500 (by decide +kernel) (by decide +kernel)
set_option maxRecDepth 20000 in
theorem m528 : Cond.fieldLink RX8 27 "SlabWalk$Sights" "count" "I" ∈ gd := gd_mem 528 (by decide +kernel) (by decide +kernel)
set_option maxRecDepth 20000 in
theorem m531 : Cond.fieldLink RX11 278 "SlabWalk$Sights" "time" "I" ∈ gd := gd_mem 531 (by decide +kernel) (by decide +kernel)
set_option maxRecDepth 20000 in
theorem m581 : Cond.fieldLink RX11 83 "SlabWalk" "taped" "I" ∈ gd := gd_mem 581 (by decide +kernel) (by decide +kernel)
set_option maxRecDepth 20000 in
theorem m614 : Cond.methodLink RX11 87 yX11_putOnTape ∈ gd := gd_mem 614 (by decide +kernel) (by decide +kernel)
set_option maxRecDepth 20000 in
theorem m616 : Cond.instanceMethod yX11_putOnTape ∈ gd := gd_mem 616 (by decide +kernel) (by decide +kernel)
set_option maxRecDepth 20000 in
theorem m617 : Cond.code yX11_putOnTape cX11_putOnTape 3 none ∈ gd := gd_mem 617 (by decide +kernel) (by decide +kernel)
set_option maxRecDepth 20000 in
theorem m626 : Cond.methodLink RX11 91 yX7_read ∈ gd := gd_mem 626 (by decide +kernel) (by decide +kernel)
set_option maxRecDepth 20000 in
theorem m627 : Cond.instanceMethod yX7_read ∈ gd := gd_mem 627 (by decide +kernel) (by decide +kernel)
set_option maxRecDepth 20000 in
theorem m628 : Cond.selects RX7 yX7_read yX7_read ∈ gd := gd_mem 628 (by decide +kernel) (by decide +kernel)
set_option maxRecDepth 20000 in
theorem m629 : Cond.code yX7_read cX7_read 5 (some .boolean) ∈ gd := gd_mem 629 (by decide +kernel) (by decide +kernel)
set_option maxRecDepth 20000 in
theorem m630 : Cond.methodLink RX7 43 yX6_empty ∈ gd := gd_mem 630 (by decide +kernel) (by decide +kernel)
set_option maxRecDepth 20000 in
theorem m631 : Cond.methodLink RX7 58 yX9_open ∈ gd := gd_mem 631 (by decide +kernel) (by decide +kernel)
set_option maxRecDepth 20000 in
theorem m632 : Cond.instanceMethod yX9_open ∈ gd := gd_mem 632 (by decide +kernel) (by decide +kernel)
set_option maxRecDepth 20000 in
theorem m633 : Cond.selects RX9 yX9_open yX9_open ∈ gd := gd_mem 633 (by decide +kernel) (by decide +kernel)
set_option maxRecDepth 20000 in
theorem m634 : Cond.code yX9_open cX9_open 2 none ∈ gd := gd_mem 634 (by decide +kernel) (by decide +kernel)
set_option maxRecDepth 20000 in
theorem m635 : Cond.methodLink RX9 19 Lib.Math.min.name ∈ gd := gd_mem 635 (by decide +kernel) (by decide +kernel)
set_option maxRecDepth 20000 in
theorem m636 : Cond.static Lib.Math.min.name ∈ gd := gd_mem 636 (by decide +kernel) (by decide +kernel)
set_option maxRecDepth 20000 in
theorem m637 : Cond.code Lib.Math.min.name Lib.Math.min.code 2 (some .int) ∈ gd := gd_mem 637 (by decide +kernel) (by decide +kernel)
set_option maxRecDepth 20000 in
theorem m638 : Cond.methodLink RX9 34 yX9_advance ∈ gd := gd_mem 638 (by decide +kernel) (by decide +kernel)
set_option maxRecDepth 20000 in
theorem m639 : Cond.instanceMethod yX9_advance ∈ gd := gd_mem 639 (by decide +kernel) (by decide +kernel)
set_option maxRecDepth 20000 in
theorem m640 : Cond.selects RX9 yX9_advance yX9_advance ∈ gd := gd_mem 640 (by decide +kernel) (by decide +kernel)
set_option maxRecDepth 20000 in
theorem m641 : Cond.code yX9_advance cX9_advance 2 (some .boolean) ∈ gd := gd_mem 641 (by decide +kernel) (by decide +kernel)
set_option maxRecDepth 20000 in
theorem m882 : Cond.methodLink RX11 110 yX6_hasInch ∈ gd := gd_mem 882 (by decide +kernel) (by decide +kernel)
set_option maxRecDepth 20000 in
theorem m883 : Cond.instanceMethod yX6_hasInch ∈ gd := gd_mem 883 (by decide +kernel) (by decide +kernel)
set_option maxRecDepth 20000 in
theorem m884 : Cond.selects RX6 yX6_hasInch yX6_hasInch ∈ gd := gd_mem 884 (by decide +kernel) (by decide +kernel)
set_option maxRecDepth 20000 in
theorem m885 : Cond.code yX6_hasInch cX6_hasInch 3 (some .boolean) ∈ gd := gd_mem 885 (by decide +kernel) (by decide +kernel)
set_option maxRecDepth 20000 in
theorem m902 : Cond.methodLink RX11 121 yX6_hasStreet ∈ gd := gd_mem 902 (by decide +kernel) (by decide +kernel)
set_option maxRecDepth 20000 in
theorem m911 : Cond.methodLink RX11 131 yX11_today ∈ gd := gd_mem 911 (by decide +kernel) (by decide +kernel)
set_option maxRecDepth 20000 in
theorem m913 : Cond.instanceMethod yX11_today ∈ gd := gd_mem 913 (by decide +kernel) (by decide +kernel)
set_option maxRecDepth 20000 in
theorem m914 : Cond.code yX11_today cX11_today 1 (some .int) ∈ gd := gd_mem 914 (by decide +kernel) (by decide +kernel)
set_option maxRecDepth 20000 in
theorem m953 : Cond.methodLink RX11 143 yX11_canAsk ∈ gd := gd_mem 953 (by decide +kernel) (by decide +kernel)
set_option maxRecDepth 20000 in
theorem m955 : Cond.instanceMethod yX11_canAsk ∈ gd := gd_mem 955 (by decide +kernel) (by decide +kernel)
set_option maxRecDepth 20000 in
theorem m956 : Cond.code yX11_canAsk cX11_canAsk 4 (some .boolean) ∈ gd := gd_mem 956 (by decide +kernel) (by decide +kernel)
set_option maxRecDepth 20000 in
theorem m957 : Cond.methodLink RX11 328 yX6_hasWalker ∈ gd := gd_mem 957 (by decide +kernel) (by decide +kernel)
set_option maxRecDepth 20000 in
theorem m966 : Cond.instanceMethod yX6_stands ∈ gd := gd_mem 966 (by decide +kernel) (by decide +kernel)
set_option maxRecDepth 20000 in
theorem m967 : Cond.selects RX6 yX6_stands yX6_stands ∈ gd := gd_mem 967 (by decide +kernel) (by decide +kernel)
set_option maxRecDepth 20000 in
theorem m968 : Cond.code yX6_stands cX6_stands 4 (some .boolean) ∈ gd := gd_mem 968 (by decide +kernel) (by decide +kernel)
set_option maxRecDepth 20000 in
theorem m1018 : Cond.constantLong RX11 165 (-1) ∈ gd := gd_mem 1018 (by decide +kernel) (by decide +kernel)
set_option maxRecDepth 20000 in
theorem m1117 : Cond.methodLink RX11 211 yX11_canBeBrave ∈ gd := gd_mem 1117 (by decide +kernel) (by decide +kernel)
set_option maxRecDepth 20000 in
theorem m1119 : Cond.instanceMethod yX11_canBeBrave ∈ gd := gd_mem 1119 (by decide +kernel) (by decide +kernel)
set_option maxRecDepth 20000 in
theorem m1120 : Cond.code yX11_canBeBrave cX11_canBeBrave 6 (some .boolean) ∈ gd := gd_mem 1120 (by decide +kernel) (by decide +kernel)
set_option maxRecDepth 20000 in
theorem m1121 : Cond.methodLink RX11 234 yX6_stands ∈ gd := gd_mem 1121 (by decide +kernel) (by decide +kernel)
set_option maxRecDepth 20000 in
theorem m1178 : Cond.methodLink RX11 249 yX1_keepAct ∈ gd := gd_mem 1178 (by decide +kernel) (by decide +kernel)
set_option maxRecDepth 20000 in
theorem m1179 : Cond.instanceMethod yX1_keepAct ∈ gd := gd_mem 1179 (by decide +kernel) (by decide +kernel)
set_option maxRecDepth 20000 in
theorem m1180 : Cond.selects RX1 yX1_keepAct yX1_keepAct ∈ gd := gd_mem 1180 (by decide +kernel) (by decide +kernel)
set_option maxRecDepth 20000 in
theorem m1181 : Cond.code yX1_keepAct cX1_keepAct 1 none ∈ gd := gd_mem 1181 (by decide +kernel) (by decide +kernel)
set_option maxRecDepth 20000 in
theorem m1186 : Cond.methodLink RX11 252 yX11_canGo ∈ gd := gd_mem 1186 (by decide +kernel) (by decide +kernel)
set_option maxRecDepth 20000 in
theorem m1188 : Cond.instanceMethod yX11_canGo ∈ gd := gd_mem 1188 (by decide +kernel) (by decide +kernel)
set_option maxRecDepth 20000 in
theorem m1189 : Cond.code yX11_canGo cX11_canGo 4 (some .boolean) ∈ gd := gd_mem 1189 (by decide +kernel) (by decide +kernel)
set_option maxRecDepth 20000 in
theorem m1199 : Cond.instanceMethod yX6_allSlips ∈ gd := gd_mem 1199 (by decide +kernel) (by decide +kernel)
set_option maxRecDepth 20000 in
theorem m1200 : Cond.selects RX6 yX6_allSlips yX6_allSlips ∈ gd := gd_mem 1200 (by decide +kernel) (by decide +kernel)
set_option maxRecDepth 20000 in
theorem m1201 : Cond.code yX6_allSlips cX6_allSlips 1 (some .int) ∈ gd := gd_mem 1201 (by decide +kernel) (by decide +kernel)
set_option maxRecDepth 20000 in
theorem m1206 : Cond.methodLink RX11 262 yX6_hasRule ∈ gd := gd_mem 1206 (by decide +kernel) (by decide +kernel)
set_option maxRecDepth 20000 in
theorem m1207 : Cond.instanceMethod yX6_hasRule ∈ gd := gd_mem 1207 (by decide +kernel) (by decide +kernel)
set_option maxRecDepth 20000 in
theorem m1208 : Cond.selects RX6 yX6_hasRule yX6_hasRule ∈ gd := gd_mem 1208 (by decide +kernel) (by decide +kernel)
set_option maxRecDepth 20000 in
theorem m1209 : Cond.code yX6_hasRule cX6_hasRule 2 (some .boolean) ∈ gd := gd_mem 1209 (by decide +kernel) (by decide +kernel)
set_option maxRecDepth 20000 in
theorem m1222 : Cond.methodLink RX11 265 yX1_takeBack ∈ gd := gd_mem 1222 (by decide +kernel) (by decide +kernel)
set_option maxRecDepth 20000 in
theorem m1223 : Cond.instanceMethod yX1_takeBack ∈ gd := gd_mem 1223 (by decide +kernel) (by decide +kernel)
set_option maxRecDepth 20000 in
theorem m1224 : Cond.selects RX1 yX1_takeBack yX1_takeBack ∈ gd := gd_mem 1224 (by decide +kernel) (by decide +kernel)
set_option maxRecDepth 20000 in
theorem m1225 : Cond.code yX1_takeBack cX1_takeBack 1 (some .boolean) ∈ gd := gd_mem 1225 (by decide +kernel) (by decide +kernel)
set_option maxRecDepth 20000 in
theorem m1230 : Cond.methodLink RX11 268 yX1_doAgain ∈ gd := gd_mem 1230 (by decide +kernel) (by decide +kernel)
set_option maxRecDepth 20000 in
theorem m1231 : Cond.instanceMethod yX1_doAgain ∈ gd := gd_mem 1231 (by decide +kernel) (by decide +kernel)
set_option maxRecDepth 20000 in
theorem m1232 : Cond.selects RX1 yX1_doAgain yX1_doAgain ∈ gd := gd_mem 1232 (by decide +kernel) (by decide +kernel)
set_option maxRecDepth 20000 in
theorem m1233 : Cond.code yX1_doAgain cX1_doAgain 1 (some .boolean) ∈ gd := gd_mem 1233 (by decide +kernel) (by decide +kernel)
set_option maxRecDepth 20000 in
theorem m1254 : Cond.methodLink RX11 275 yX8_takeFrom ∈ gd := gd_mem 1254 (by decide +kernel) (by decide +kernel)
set_option maxRecDepth 20000 in
theorem m1255 : Cond.instanceMethod yX8_takeFrom ∈ gd := gd_mem 1255 (by decide +kernel) (by decide +kernel)
set_option maxRecDepth 20000 in
theorem m1256 : Cond.selects RX8 yX8_takeFrom yX8_takeFrom ∈ gd := gd_mem 1256 (by decide +kernel) (by decide +kernel)
set_option maxRecDepth 20000 in
theorem m1257 : Cond.code yX8_takeFrom cX8_takeFrom 2 (some .boolean) ∈ gd := gd_mem 1257 (by decide +kernel) (by decide +kernel)
set_option maxRecDepth 20000 in
theorem m1262 : Cond.constant RX11 281 100000 ∈ gd := gd_mem 1262 (by decide +kernel) (by decide +kernel)
set_option maxRecDepth 20000 in
theorem m1291 : Cond.methodLink RX11 299 yX1_keepIn ∈ gd := gd_mem 1291 (by decide +kernel) (by decide +kernel)
set_option maxRecDepth 20000 in
theorem m1292 : Cond.instanceMethod yX1_keepIn ∈ gd := gd_mem 1292 (by decide +kernel) (by decide +kernel)
set_option maxRecDepth 20000 in
theorem m1293 : Cond.selects RX1 yX1_keepIn yX1_keepIn ∈ gd := gd_mem 1293 (by decide +kernel) (by decide +kernel)
set_option maxRecDepth 20000 in
theorem m1294 : Cond.code yX1_keepIn cX1_keepIn 2 (some .boolean) ∈ gd := gd_mem 1294 (by decide +kernel) (by decide +kernel)
set_option maxRecDepth 20000 in
theorem m1299 : Cond.methodLink RX11 302 yX1_bringFrom ∈ gd := gd_mem 1299 (by decide +kernel) (by decide +kernel)
set_option maxRecDepth 20000 in
theorem m1300 : Cond.instanceMethod yX1_bringFrom ∈ gd := gd_mem 1300 (by decide +kernel) (by decide +kernel)
set_option maxRecDepth 20000 in
theorem m1301 : Cond.selects RX1 yX1_bringFrom yX1_bringFrom ∈ gd := gd_mem 1301 (by decide +kernel) (by decide +kernel)
set_option maxRecDepth 20000 in
theorem m1302 : Cond.code yX1_bringFrom cX1_bringFrom 2 (some .boolean) ∈ gd := gd_mem 1302 (by decide +kernel) (by decide +kernel)
set_option maxRecDepth 20000 in
theorem m1307 : Cond.methodLink RX11 317 yX6_allSlips ∈ gd := gd_mem 1307 (by decide +kernel) (by decide +kernel)
