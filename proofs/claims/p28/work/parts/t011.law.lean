theorem m1182 : Cond.methodLink RL 113 yX11_go ∈ gd := gdc_5_6 10 rfl gw_methodLink
theorem m1183 : Cond.instanceMethod yX11_go ∈ gd := gdc_5_6 11 rfl gw_instanceMethod
theorem m1184 : Cond.selects RX11 yX11_go yX11_go ∈ gd := gdc_5_6 12 rfl gw_selects
theorem m1185 : Cond.code yX11_go cX11_go 5 (some .int) ∈ gd := gdc_5_6 13 rfl gw_code
theorem m1202 : Cond.methodLink RL 117 yX11_force ∈ gd := gdc_5_7 14 rfl gw_methodLink
theorem m1203 : Cond.instanceMethod yX11_force ∈ gd := gdc_5_7 15 rfl gw_instanceMethod
theorem m1204 : Cond.selects RX11 yX11_force yX11_force ∈ gd := gdc_5_8 0 rfl gw_selects
theorem m1205 : Cond.code yX11_force cX11_force 2 (some .int) ∈ gd := gdc_5_8 1 rfl gw_code
theorem m1210 : Cond.methodLink RL 121 yX11_rain ∈ gd := gdc_5_8 6 rfl gw_methodLink
theorem m1211 : Cond.instanceMethod yX11_rain ∈ gd := gdc_5_8 7 rfl gw_instanceMethod
theorem m1212 : Cond.selects RX11 yX11_rain yX11_rain ∈ gd := gdc_5_8 8 rfl gw_selects
theorem m1213 : Cond.code yX11_rain cX11_rain 1 (some .boolean) ∈ gd := gdc_5_8 9 rfl gw_code
theorem m1214 : Cond.methodLink RL 126 yX11_day ∈ gd := gdc_5_8 10 rfl gw_methodLink
theorem m1215 : Cond.instanceMethod yX11_day ∈ gd := gdc_5_8 11 rfl gw_instanceMethod
theorem m1216 : Cond.selects RX11 yX11_day yX11_day ∈ gd := gdc_5_8 12 rfl gw_selects
theorem m1217 : Cond.code yX11_day cX11_day 1 (some .int) ∈ gd := gdc_5_8 13 rfl gw_code
theorem m1218 : Cond.methodLink RL 130 yX11_undo ∈ gd := gdc_5_8 14 rfl gw_methodLink
theorem m1219 : Cond.instanceMethod yX11_undo ∈ gd := gdc_5_8 15 rfl gw_instanceMethod
theorem m1220 : Cond.selects RX11 yX11_undo yX11_undo ∈ gd := gdc_5_9 0 rfl gw_selects
theorem m1221 : Cond.code yX11_undo cX11_undo 1 (some .boolean) ∈ gd := gdc_5_9 1 rfl gw_code
theorem m1226 : Cond.methodLink RL 134 yX11_redo ∈ gd := gdc_5_9 6 rfl gw_methodLink
theorem m1227 : Cond.instanceMethod yX11_redo ∈ gd := gdc_5_9 7 rfl gw_instanceMethod
theorem m1228 : Cond.selects RX11 yX11_redo yX11_redo ∈ gd := gdc_5_9 8 rfl gw_selects
theorem m1229 : Cond.code yX11_redo cX11_redo 1 (some .boolean) ∈ gd := gdc_5_9 9 rfl gw_code
theorem m1234 : Cond.methodLink RL 138 yX11_walker ∈ gd := gdc_5_9 14 rfl gw_methodLink
theorem m1235 : Cond.instanceMethod yX11_walker ∈ gd := gdc_5_9 15 rfl gw_instanceMethod
theorem m1236 : Cond.selects RX11 yX11_walker yX11_walker ∈ gd := gdc_5_10 0 rfl gw_selects
theorem m1237 : Cond.code yX11_walker cX11_walker 2 (some .int) ∈ gd := gdc_5_10 1 rfl gw_code
theorem m1238 : Cond.methodLink RL 142 yX11_lies ∈ gd := gdc_5_10 2 rfl gw_methodLink
theorem m1239 : Cond.instanceMethod yX11_lies ∈ gd := gdc_5_10 3 rfl gw_instanceMethod
theorem m1240 : Cond.selects RX11 yX11_lies yX11_lies ∈ gd := gdc_5_10 4 rfl gw_selects
theorem m1241 : Cond.code yX11_lies cX11_lies 2 (some .int) ∈ gd := gdc_5_10 5 rfl gw_code
theorem m1242 : Cond.methodLink RL 146 yX11_sight ∈ gd := gdc_5_10 6 rfl gw_methodLink
theorem m1243 : Cond.instanceMethod yX11_sight ∈ gd := gdc_5_10 7 rfl gw_instanceMethod
theorem m1244 : Cond.selects RX11 yX11_sight yX11_sight ∈ gd := gdc_5_10 8 rfl gw_selects
theorem m1245 : Cond.code yX11_sight cX11_sight 4 (some .int) ∈ gd := gdc_5_10 9 rfl gw_code
theorem m1250 : Cond.methodLink RL 150 yX11_untell ∈ gd := gdc_5_10 14 rfl gw_methodLink
theorem m1251 : Cond.instanceMethod yX11_untell ∈ gd := gdc_5_10 15 rfl gw_instanceMethod
theorem m1252 : Cond.selects RX11 yX11_untell yX11_untell ∈ gd := gdc_5_11 0 rfl gw_selects
theorem m1253 : Cond.code yX11_untell cX11_untell 2 (some .boolean) ∈ gd := gdc_5_11 1 rfl gw_code
theorem m1258 : Cond.methodLink RL 155 yX11_later ∈ gd := gdc_5_11 6 rfl gw_methodLink
theorem m1259 : Cond.instanceMethod yX11_later ∈ gd := gdc_5_11 7 rfl gw_instanceMethod
theorem m1260 : Cond.selects RX11 yX11_later yX11_later ∈ gd := gdc_5_11 8 rfl gw_selects
theorem m1261 : Cond.code yX11_later cX11_later 2 (some .int) ∈ gd := gdc_5_11 9 rfl gw_code
theorem m1263 : Cond.methodLink RL 159 yX11_fits ∈ gd := gdc_5_11 11 rfl gw_methodLink
theorem m1264 : Cond.instanceMethod yX11_fits ∈ gd := gdc_5_11 12 rfl gw_instanceMethod
theorem m1265 : Cond.selects RX11 yX11_fits yX11_fits ∈ gd := gdc_5_11 13 rfl gw_selects
theorem m1266 : Cond.code yX11_fits cX11_fits 4 (some .int) ∈ gd := gdc_5_11 14 rfl gw_code
theorem m1279 : Cond.methodLink RL 163 yX11_chance ∈ gd := gdc_5_12 11 rfl gw_methodLink
theorem m1280 : Cond.instanceMethod yX11_chance ∈ gd := gdc_5_12 12 rfl gw_instanceMethod
theorem m1281 : Cond.selects RX11 yX11_chance yX11_chance ∈ gd := gdc_5_12 13 rfl gw_selects
theorem m1282 : Cond.code yX11_chance cX11_chance 10 (some .long) ∈ gd := gdc_5_12 14 rfl gw_code
theorem m1287 : Cond.methodLink RL 168 yX11_image ∈ gd := gdc_5_13 3 rfl gw_methodLink
theorem m1288 : Cond.instanceMethod yX11_image ∈ gd := gdc_5_13 4 rfl gw_instanceMethod
theorem m1289 : Cond.selects RX11 yX11_image yX11_image ∈ gd := gdc_5_13 5 rfl gw_selects
theorem m1290 : Cond.code yX11_image cX11_image 2 (some .int) ∈ gd := gdc_5_13 6 rfl gw_code
theorem m1295 : Cond.methodLink RL 172 yX11_back ∈ gd := gdc_5_13 11 rfl gw_methodLink
theorem m1296 : Cond.instanceMethod yX11_back ∈ gd := gdc_5_13 12 rfl gw_instanceMethod
theorem m1297 : Cond.selects RX11 yX11_back yX11_back ∈ gd := gdc_5_13 13 rfl gw_selects
theorem m1298 : Cond.code yX11_back cX11_back 2 (some .int) ∈ gd := gdc_5_13 14 rfl gw_code
theorem m1303 : Cond.methodLink RL 176 yX11_about ∈ gd := gdc_5_14 3 rfl gw_methodLink
theorem m1304 : Cond.instanceMethod yX11_about ∈ gd := gdc_5_14 4 rfl gw_instanceMethod
theorem m1305 : Cond.selects RX11 yX11_about yX11_about ∈ gd := gdc_5_14 5 rfl gw_selects
theorem m1306 : Cond.code yX11_about cX11_about 2 (some .int) ∈ gd := gdc_5_14 6 rfl gw_code
theorem m1999 : Cond.methodLink RL 116 yX12_go ∈ gd := gdc_8_12 11 rfl gw_methodLink
theorem m2000 : Cond.instanceMethod yX12_go ∈ gd := gdc_8_12 12 rfl gw_instanceMethod
theorem m2001 : Cond.selects RX12 yX12_go yX12_go ∈ gd := gdc_8_12 13 rfl gw_selects
theorem m2002 : Cond.code yX12_go cX12_go 5 (some .int) ∈ gd := gdc_8_12 14 rfl gw_code
theorem m2003 : Cond.methodLink RL 120 yX12_force ∈ gd := gdc_8_12 15 rfl gw_methodLink
theorem m2004 : Cond.instanceMethod yX12_force ∈ gd := gdc_8_13 0 rfl gw_instanceMethod
theorem m2005 : Cond.selects RX12 yX12_force yX12_force ∈ gd := gdc_8_13 1 rfl gw_selects
theorem m2006 : Cond.code yX12_force cX12_force 2 (some .int) ∈ gd := gdc_8_13 2 rfl gw_code
theorem m2011 : Cond.methodLink RL 125 yX12_rain ∈ gd := gdc_8_13 7 rfl gw_methodLink
theorem m2012 : Cond.instanceMethod yX12_rain ∈ gd := gdc_8_13 8 rfl gw_instanceMethod
theorem m2013 : Cond.selects RX12 yX12_rain yX12_rain ∈ gd := gdc_8_13 9 rfl gw_selects
theorem m2014 : Cond.code yX12_rain cX12_rain 1 (some .boolean) ∈ gd := gdc_8_13 10 rfl gw_code
theorem m2015 : Cond.methodLink RL 129 yX12_day ∈ gd := gdc_8_13 11 rfl gw_methodLink
theorem m2016 : Cond.instanceMethod yX12_day ∈ gd := gdc_8_13 12 rfl gw_instanceMethod
theorem m2017 : Cond.selects RX12 yX12_day yX12_day ∈ gd := gdc_8_13 13 rfl gw_selects
theorem m2018 : Cond.code yX12_day cX12_day 1 (some .int) ∈ gd := gdc_8_13 14 rfl gw_code
theorem m2019 : Cond.methodLink RL 133 yX12_undo ∈ gd := gdc_8_13 15 rfl gw_methodLink
theorem m2020 : Cond.instanceMethod yX12_undo ∈ gd := gdc_8_14 0 rfl gw_instanceMethod
theorem m2021 : Cond.selects RX12 yX12_undo yX12_undo ∈ gd := gdc_8_14 1 rfl gw_selects
theorem m2022 : Cond.code yX12_undo cX12_undo 1 (some .boolean) ∈ gd := gdc_8_14 2 rfl gw_code
theorem m2027 : Cond.methodLink RL 137 yX12_redo ∈ gd := gdc_8_14 7 rfl gw_methodLink
theorem m2028 : Cond.instanceMethod yX12_redo ∈ gd := gdc_8_14 8 rfl gw_instanceMethod
theorem m2029 : Cond.selects RX12 yX12_redo yX12_redo ∈ gd := gdc_8_14 9 rfl gw_selects
theorem m2030 : Cond.code yX12_redo cX12_redo 1 (some .boolean) ∈ gd := gdc_8_14 10 rfl gw_code
theorem m2031 : Cond.methodLink RL 141 yX12_walker ∈ gd := gdc_8_14 11 rfl gw_methodLink
theorem m2032 : Cond.instanceMethod yX12_walker ∈ gd := gdc_8_14 12 rfl gw_instanceMethod
theorem m2033 : Cond.selects RX12 yX12_walker yX12_walker ∈ gd := gdc_8_14 13 rfl gw_selects
theorem m2034 : Cond.code yX12_walker cX12_walker 2 (some .int) ∈ gd := gdc_8_14 14 rfl gw_code
theorem m2035 : Cond.methodLink RL 145 yX12_lies ∈ gd := gdc_8_14 15 rfl gw_methodLink
theorem m2036 : Cond.instanceMethod yX12_lies ∈ gd := gdc_9_0 0 rfl gw_instanceMethod
theorem m2037 : Cond.selects RX12 yX12_lies yX12_lies ∈ gd := gdc_9_0 1 rfl gw_selects
theorem m2038 : Cond.code yX12_lies cX12_lies 2 (some .int) ∈ gd := gdc_9_0 2 rfl gw_code
theorem m2039 : Cond.methodLink RL 149 yX12_sight ∈ gd := gdc_9_0 3 rfl gw_methodLink
theorem m2040 : Cond.instanceMethod yX12_sight ∈ gd := gdc_9_0 4 rfl gw_instanceMethod
theorem m2041 : Cond.selects RX12 yX12_sight yX12_sight ∈ gd := gdc_9_0 5 rfl gw_selects
theorem m2042 : Cond.code yX12_sight cX12_sight 4 (some .int) ∈ gd := gdc_9_0 6 rfl gw_code
theorem m2043 : Cond.methodLink RL 154 yX12_untell ∈ gd := gdc_9_0 7 rfl gw_methodLink
theorem m2044 : Cond.instanceMethod yX12_untell ∈ gd := gdc_9_0 8 rfl gw_instanceMethod
theorem m2045 : Cond.selects RX12 yX12_untell yX12_untell ∈ gd := gdc_9_0 9 rfl gw_selects
theorem m2046 : Cond.code yX12_untell cX12_untell 2 (some .boolean) ∈ gd := gdc_9_0 10 rfl gw_code
theorem m2047 : Cond.methodLink RL 158 yX12_later ∈ gd := gdc_9_0 11 rfl gw_methodLink
theorem m2048 : Cond.instanceMethod yX12_later ∈ gd := gdc_9_0 12 rfl gw_instanceMethod
theorem m2049 : Cond.selects RX12 yX12_later yX12_later ∈ gd := gdc_9_0 13 rfl gw_selects
theorem m2050 : Cond.code yX12_later cX12_later 2 (some .int) ∈ gd := gdc_9_0 14 rfl gw_code
theorem m2051 : Cond.methodLink RL 162 yX12_fits ∈ gd := gdc_9_0 15 rfl gw_methodLink
theorem m2052 : Cond.instanceMethod yX12_fits ∈ gd := gdc_9_1 0 rfl gw_instanceMethod
theorem m2053 : Cond.selects RX12 yX12_fits yX12_fits ∈ gd := gdc_9_1 1 rfl gw_selects
theorem m2054 : Cond.code yX12_fits cX12_fits 6 (some .int) ∈ gd := gdc_9_1 2 rfl gw_code
theorem m2059 : Cond.methodLink RL 167 yX12_chance ∈ gd := gdc_9_1 7 rfl gw_methodLink
theorem m2060 : Cond.instanceMethod yX12_chance ∈ gd := gdc_9_1 8 rfl gw_instanceMethod
theorem m2061 : Cond.selects RX12 yX12_chance yX12_chance ∈ gd := gdc_9_1 9 rfl gw_selects
theorem m2062 : Cond.code yX12_chance cX12_chance 12 (some .long) ∈ gd := gdc_9_1 10 rfl gw_code
theorem m2066 : Cond.methodLink RL 171 yX12_image ∈ gd := gdc_9_1 14 rfl gw_methodLink
theorem m2067 : Cond.instanceMethod yX12_image ∈ gd := gdc_9_1 15 rfl gw_instanceMethod
theorem m2068 : Cond.selects RX12 yX12_image yX12_image ∈ gd := gdc_9_2 0 rfl gw_selects
theorem m2069 : Cond.code yX12_image cX12_image 3 (some .int) ∈ gd := gdc_9_2 1 rfl gw_code
theorem m2073 : Cond.methodLink RL 175 yX12_back ∈ gd := gdc_9_2 5 rfl gw_methodLink
theorem m2074 : Cond.instanceMethod yX12_back ∈ gd := gdc_9_2 6 rfl gw_instanceMethod
theorem m2075 : Cond.selects RX12 yX12_back yX12_back ∈ gd := gdc_9_2 7 rfl gw_selects
theorem m2076 : Cond.code yX12_back cX12_back 3 (some .int) ∈ gd := gdc_9_2 8 rfl gw_code
theorem m2077 : Cond.methodLink RL 179 yX12_about ∈ gd := gdc_9_2 9 rfl gw_methodLink
theorem m2078 : Cond.instanceMethod yX12_about ∈ gd := gdc_9_2 10 rfl gw_instanceMethod
theorem m2079 : Cond.selects RX12 yX12_about yX12_about ∈ gd := gdc_9_2 11 rfl gw_selects
theorem m2080 : Cond.code yX12_about cX12_about 2 (some .int) ∈ gd := gdc_9_2 12 rfl gw_code
noncomputable def rbL_law_1273 : List (Nat × List Nat) := [(1273, [43]), (1274, [42]), (1275, [29]), (1276, [4]), (1277, [96]), (1278, [46]), (1279, [182, 0, 113]), (1282, [87]), (1283, [44]), (1284, [42]), (1285, [29]), (1286, [4]), (1287, [96]), (1288, [46]), (1289, [182, 0, 116]), (1292, [87]), (1293, [167, 1, 92]), (1296, [43]), (1297, [42]), (1298, [29]), (1299, [4]), (1300, [96]), (1301, [46]), (1302, [182, 0, 117])]
theorem rcL_law_1273 : dgo (lb cL_law) 0 rbL_law_1273 = true := by decide +kernel
theorem dL_law_1273 : decode cL_law 1273 = .ok (.aload_n 1, 1) := dk_43 (dw rcL_law_1273 0 rfl)
theorem dL_law_1274 : decode cL_law 1274 = .ok (.aload_n 0, 1) := dk_42 (dw rcL_law_1273 1 rfl)
theorem dL_law_1275 : decode cL_law 1275 = .ok (.iload_n 3, 1) := dk_29 (dw rcL_law_1273 2 rfl)
theorem dL_law_1276 : decode cL_law 1276 = .ok (.iconst 1, 1) := dk_4 (dw rcL_law_1273 3 rfl)
theorem dL_law_1277 : decode cL_law 1277 = .ok (.iadd, 1) := dk_96 (dw rcL_law_1273 4 rfl)
theorem dL_law_1278 : decode cL_law 1278 = .ok (.iaload, 1) := dk_46 (dw rcL_law_1273 5 rfl)
theorem dL_law_1279 : decode cL_law 1279 = .ok (.invokevirtual 113, 3) := dk_182 (dw rcL_law_1273 6 rfl) rfl
theorem dL_law_1282 : decode cL_law 1282 = .ok (.pop, 1) := dk_87 (dw rcL_law_1273 7 rfl)
theorem dL_law_1283 : decode cL_law 1283 = .ok (.aload_n 2, 1) := dk_44 (dw rcL_law_1273 8 rfl)
theorem dL_law_1284 : decode cL_law 1284 = .ok (.aload_n 0, 1) := dk_42 (dw rcL_law_1273 9 rfl)
theorem dL_law_1285 : decode cL_law 1285 = .ok (.iload_n 3, 1) := dk_29 (dw rcL_law_1273 10 rfl)
theorem dL_law_1286 : decode cL_law 1286 = .ok (.iconst 1, 1) := dk_4 (dw rcL_law_1273 11 rfl)
theorem dL_law_1287 : decode cL_law 1287 = .ok (.iadd, 1) := dk_96 (dw rcL_law_1273 12 rfl)
theorem dL_law_1288 : decode cL_law 1288 = .ok (.iaload, 1) := dk_46 (dw rcL_law_1273 13 rfl)
theorem dL_law_1289 : decode cL_law 1289 = .ok (.invokevirtual 116, 3) := dk_182 (dw rcL_law_1273 14 rfl) rfl
theorem dL_law_1292 : decode cL_law 1292 = .ok (.pop, 1) := dk_87 (dw rcL_law_1273 15 rfl)
theorem dL_law_1293 : decode cL_law 1293 = .ok (.goto 348, 3) := dk_167 (dw rcL_law_1273 16 rfl) rfl
theorem dL_law_1296 : decode cL_law 1296 = .ok (.aload_n 1, 1) := dk_43 (dw rcL_law_1273 17 rfl)
theorem dL_law_1297 : decode cL_law 1297 = .ok (.aload_n 0, 1) := dk_42 (dw rcL_law_1273 18 rfl)
theorem dL_law_1298 : decode cL_law 1298 = .ok (.iload_n 3, 1) := dk_29 (dw rcL_law_1273 19 rfl)
theorem dL_law_1299 : decode cL_law 1299 = .ok (.iconst 1, 1) := dk_4 (dw rcL_law_1273 20 rfl)
theorem dL_law_1300 : decode cL_law 1300 = .ok (.iadd, 1) := dk_96 (dw rcL_law_1273 21 rfl)
theorem dL_law_1301 : decode cL_law 1301 = .ok (.iaload, 1) := dk_46 (dw rcL_law_1273 22 rfl)
theorem dL_law_1302 : decode cL_law 1302 = .ok (.invokevirtual 117, 3) := dk_182 (dw rcL_law_1273 23 rfl) rfl
noncomputable def rbL_law_1305 : List (Nat × List Nat) := [(1305, [87]), (1306, [44]), (1307, [42]), (1308, [29]), (1309, [4]), (1310, [96]), (1311, [46]), (1312, [182, 0, 120]), (1315, [87]), (1316, [167, 1, 69]), (1319, [43]), (1320, [182, 0, 121]), (1323, [87]), (1324, [44]), (1325, [182, 0, 125]), (1328, [87]), (1329, [167, 1, 56]), (1332, [43]), (1333, [182, 0, 126]), (1336, [44]), (1337, [182, 0, 129]), (1340, [159, 1, 45]), (1345, [43]), (1346, [182, 0, 130])]
theorem rcL_law_1305 : dgo (lb cL_law) 0 rbL_law_1305 = true := by decide +kernel
theorem dL_law_1305 : decode cL_law 1305 = .ok (.pop, 1) := dk_87 (dw rcL_law_1305 0 rfl)
theorem dL_law_1306 : decode cL_law 1306 = .ok (.aload_n 2, 1) := dk_44 (dw rcL_law_1305 1 rfl)
theorem dL_law_1307 : decode cL_law 1307 = .ok (.aload_n 0, 1) := dk_42 (dw rcL_law_1305 2 rfl)
theorem dL_law_1308 : decode cL_law 1308 = .ok (.iload_n 3, 1) := dk_29 (dw rcL_law_1305 3 rfl)
theorem dL_law_1309 : decode cL_law 1309 = .ok (.iconst 1, 1) := dk_4 (dw rcL_law_1305 4 rfl)
theorem dL_law_1310 : decode cL_law 1310 = .ok (.iadd, 1) := dk_96 (dw rcL_law_1305 5 rfl)
theorem dL_law_1311 : decode cL_law 1311 = .ok (.iaload, 1) := dk_46 (dw rcL_law_1305 6 rfl)
theorem dL_law_1312 : decode cL_law 1312 = .ok (.invokevirtual 120, 3) := dk_182 (dw rcL_law_1305 7 rfl) rfl
theorem dL_law_1315 : decode cL_law 1315 = .ok (.pop, 1) := dk_87 (dw rcL_law_1305 8 rfl)
theorem dL_law_1316 : decode cL_law 1316 = .ok (.goto 325, 3) := dk_167 (dw rcL_law_1305 9 rfl) rfl
theorem dL_law_1319 : decode cL_law 1319 = .ok (.aload_n 1, 1) := dk_43 (dw rcL_law_1305 10 rfl)
theorem dL_law_1320 : decode cL_law 1320 = .ok (.invokevirtual 121, 3) := dk_182 (dw rcL_law_1305 11 rfl) rfl
theorem dL_law_1323 : decode cL_law 1323 = .ok (.pop, 1) := dk_87 (dw rcL_law_1305 12 rfl)
theorem dL_law_1324 : decode cL_law 1324 = .ok (.aload_n 2, 1) := dk_44 (dw rcL_law_1305 13 rfl)
theorem dL_law_1325 : decode cL_law 1325 = .ok (.invokevirtual 125, 3) := dk_182 (dw rcL_law_1305 14 rfl) rfl
theorem dL_law_1328 : decode cL_law 1328 = .ok (.pop, 1) := dk_87 (dw rcL_law_1305 15 rfl)
theorem dL_law_1329 : decode cL_law 1329 = .ok (.goto 312, 3) := dk_167 (dw rcL_law_1305 16 rfl) rfl
theorem dL_law_1332 : decode cL_law 1332 = .ok (.aload_n 1, 1) := dk_43 (dw rcL_law_1305 17 rfl)
theorem dL_law_1333 : decode cL_law 1333 = .ok (.invokevirtual 126, 3) := dk_182 (dw rcL_law_1305 18 rfl) rfl
theorem dL_law_1336 : decode cL_law 1336 = .ok (.aload_n 2, 1) := dk_44 (dw rcL_law_1305 19 rfl)
theorem dL_law_1337 : decode cL_law 1337 = .ok (.invokevirtual 129, 3) := dk_182 (dw rcL_law_1305 20 rfl) rfl
theorem dL_law_1340 : decode cL_law 1340 = .ok (.if_icmp .eq 301, 3) := dk_159 (dw rcL_law_1305 21 rfl) rfl
theorem dL_law_1345 : decode cL_law 1345 = .ok (.aload_n 1, 1) := dk_43 (dw rcL_law_1305 22 rfl)
theorem dL_law_1346 : decode cL_law 1346 = .ok (.invokevirtual 130, 3) := dk_182 (dw rcL_law_1305 23 rfl) rfl
noncomputable def rbL_law_1349 : List (Nat × List Nat) := [(1349, [87]), (1350, [44]), (1351, [182, 0, 133]), (1354, [87]), (1355, [167, 1, 30]), (1358, [43]), (1359, [182, 0, 134]), (1362, [87]), (1363, [44]), (1364, [182, 0, 137]), (1367, [87]), (1368, [167, 1, 17]), (1371, [43]), (1372, [42]), (1373, [29]), (1374, [4]), (1375, [96]), (1376, [46]), (1377, [182, 0, 138]), (1380, [87]), (1381, [44]), (1382, [42]), (1383, [29]), (1384, [4])]
theorem rcL_law_1349 : dgo (lb cL_law) 0 rbL_law_1349 = true := by decide +kernel
theorem dL_law_1349 : decode cL_law 1349 = .ok (.pop, 1) := dk_87 (dw rcL_law_1349 0 rfl)
theorem dL_law_1350 : decode cL_law 1350 = .ok (.aload_n 2, 1) := dk_44 (dw rcL_law_1349 1 rfl)
theorem dL_law_1351 : decode cL_law 1351 = .ok (.invokevirtual 133, 3) := dk_182 (dw rcL_law_1349 2 rfl) rfl
theorem dL_law_1354 : decode cL_law 1354 = .ok (.pop, 1) := dk_87 (dw rcL_law_1349 3 rfl)
theorem dL_law_1355 : decode cL_law 1355 = .ok (.goto 286, 3) := dk_167 (dw rcL_law_1349 4 rfl) rfl
theorem dL_law_1358 : decode cL_law 1358 = .ok (.aload_n 1, 1) := dk_43 (dw rcL_law_1349 5 rfl)
theorem dL_law_1359 : decode cL_law 1359 = .ok (.invokevirtual 134, 3) := dk_182 (dw rcL_law_1349 6 rfl) rfl
theorem dL_law_1362 : decode cL_law 1362 = .ok (.pop, 1) := dk_87 (dw rcL_law_1349 7 rfl)
theorem dL_law_1363 : decode cL_law 1363 = .ok (.aload_n 2, 1) := dk_44 (dw rcL_law_1349 8 rfl)
theorem dL_law_1364 : decode cL_law 1364 = .ok (.invokevirtual 137, 3) := dk_182 (dw rcL_law_1349 9 rfl) rfl
theorem dL_law_1367 : decode cL_law 1367 = .ok (.pop, 1) := dk_87 (dw rcL_law_1349 10 rfl)
theorem dL_law_1368 : decode cL_law 1368 = .ok (.goto 273, 3) := dk_167 (dw rcL_law_1349 11 rfl) rfl
theorem dL_law_1371 : decode cL_law 1371 = .ok (.aload_n 1, 1) := dk_43 (dw rcL_law_1349 12 rfl)
theorem dL_law_1372 : decode cL_law 1372 = .ok (.aload_n 0, 1) := dk_42 (dw rcL_law_1349 13 rfl)
theorem dL_law_1373 : decode cL_law 1373 = .ok (.iload_n 3, 1) := dk_29 (dw rcL_law_1349 14 rfl)
theorem dL_law_1374 : decode cL_law 1374 = .ok (.iconst 1, 1) := dk_4 (dw rcL_law_1349 15 rfl)
theorem dL_law_1375 : decode cL_law 1375 = .ok (.iadd, 1) := dk_96 (dw rcL_law_1349 16 rfl)
theorem dL_law_1376 : decode cL_law 1376 = .ok (.iaload, 1) := dk_46 (dw rcL_law_1349 17 rfl)
theorem dL_law_1377 : decode cL_law 1377 = .ok (.invokevirtual 138, 3) := dk_182 (dw rcL_law_1349 18 rfl) rfl
theorem dL_law_1380 : decode cL_law 1380 = .ok (.pop, 1) := dk_87 (dw rcL_law_1349 19 rfl)
theorem dL_law_1381 : decode cL_law 1381 = .ok (.aload_n 2, 1) := dk_44 (dw rcL_law_1349 20 rfl)
theorem dL_law_1382 : decode cL_law 1382 = .ok (.aload_n 0, 1) := dk_42 (dw rcL_law_1349 21 rfl)
theorem dL_law_1383 : decode cL_law 1383 = .ok (.iload_n 3, 1) := dk_29 (dw rcL_law_1349 22 rfl)
theorem dL_law_1384 : decode cL_law 1384 = .ok (.iconst 1, 1) := dk_4 (dw rcL_law_1349 23 rfl)
noncomputable def rbL_law_1385 : List (Nat × List Nat) := [(1385, [96]), (1386, [46]), (1387, [182, 0, 141]), (1390, [87]), (1391, [167, 0, 250]), (1394, [43]), (1395, [42]), (1396, [29]), (1397, [4]), (1398, [96]), (1399, [46]), (1400, [182, 0, 142]), (1403, [87]), (1404, [44]), (1405, [42]), (1406, [29]), (1407, [4]), (1408, [96]), (1409, [46]), (1410, [182, 0, 145]), (1413, [87]), (1414, [167, 0, 227]), (1417, [43]), (1418, [42])]
theorem rcL_law_1385 : dgo (lb cL_law) 0 rbL_law_1385 = true := by decide +kernel
theorem dL_law_1385 : decode cL_law 1385 = .ok (.iadd, 1) := dk_96 (dw rcL_law_1385 0 rfl)
theorem dL_law_1386 : decode cL_law 1386 = .ok (.iaload, 1) := dk_46 (dw rcL_law_1385 1 rfl)
theorem dL_law_1387 : decode cL_law 1387 = .ok (.invokevirtual 141, 3) := dk_182 (dw rcL_law_1385 2 rfl) rfl
theorem dL_law_1390 : decode cL_law 1390 = .ok (.pop, 1) := dk_87 (dw rcL_law_1385 3 rfl)
theorem dL_law_1391 : decode cL_law 1391 = .ok (.goto 250, 3) := dk_167 (dw rcL_law_1385 4 rfl) rfl
theorem dL_law_1394 : decode cL_law 1394 = .ok (.aload_n 1, 1) := dk_43 (dw rcL_law_1385 5 rfl)
theorem dL_law_1395 : decode cL_law 1395 = .ok (.aload_n 0, 1) := dk_42 (dw rcL_law_1385 6 rfl)
theorem dL_law_1396 : decode cL_law 1396 = .ok (.iload_n 3, 1) := dk_29 (dw rcL_law_1385 7 rfl)
theorem dL_law_1397 : decode cL_law 1397 = .ok (.iconst 1, 1) := dk_4 (dw rcL_law_1385 8 rfl)
theorem dL_law_1398 : decode cL_law 1398 = .ok (.iadd, 1) := dk_96 (dw rcL_law_1385 9 rfl)
theorem dL_law_1399 : decode cL_law 1399 = .ok (.iaload, 1) := dk_46 (dw rcL_law_1385 10 rfl)
theorem dL_law_1400 : decode cL_law 1400 = .ok (.invokevirtual 142, 3) := dk_182 (dw rcL_law_1385 11 rfl) rfl
theorem dL_law_1403 : decode cL_law 1403 = .ok (.pop, 1) := dk_87 (dw rcL_law_1385 12 rfl)
theorem dL_law_1404 : decode cL_law 1404 = .ok (.aload_n 2, 1) := dk_44 (dw rcL_law_1385 13 rfl)
theorem dL_law_1405 : decode cL_law 1405 = .ok (.aload_n 0, 1) := dk_42 (dw rcL_law_1385 14 rfl)
theorem dL_law_1406 : decode cL_law 1406 = .ok (.iload_n 3, 1) := dk_29 (dw rcL_law_1385 15 rfl)
theorem dL_law_1407 : decode cL_law 1407 = .ok (.iconst 1, 1) := dk_4 (dw rcL_law_1385 16 rfl)
theorem dL_law_1408 : decode cL_law 1408 = .ok (.iadd, 1) := dk_96 (dw rcL_law_1385 17 rfl)
theorem dL_law_1409 : decode cL_law 1409 = .ok (.iaload, 1) := dk_46 (dw rcL_law_1385 18 rfl)
theorem dL_law_1410 : decode cL_law 1410 = .ok (.invokevirtual 145, 3) := dk_182 (dw rcL_law_1385 19 rfl) rfl
theorem dL_law_1413 : decode cL_law 1413 = .ok (.pop, 1) := dk_87 (dw rcL_law_1385 20 rfl)
theorem dL_law_1414 : decode cL_law 1414 = .ok (.goto 227, 3) := dk_167 (dw rcL_law_1385 21 rfl) rfl
theorem dL_law_1417 : decode cL_law 1417 = .ok (.aload_n 1, 1) := dk_43 (dw rcL_law_1385 22 rfl)
theorem dL_law_1418 : decode cL_law 1418 = .ok (.aload_n 0, 1) := dk_42 (dw rcL_law_1385 23 rfl)
noncomputable def rbL_law_1419 : List (Nat × List Nat) := [(1419, [29]), (1420, [4]), (1421, [96]), (1422, [46]), (1423, [42]), (1424, [29]), (1425, [5]), (1426, [96]), (1427, [46]), (1428, [42]), (1429, [29]), (1430, [6]), (1431, [96]), (1432, [46]), (1433, [182, 0, 146]), (1436, [87]), (1437, [44]), (1438, [42]), (1439, [29]), (1440, [4]), (1441, [96]), (1442, [46]), (1443, [42]), (1444, [29])]
theorem rcL_law_1419 : dgo (lb cL_law) 0 rbL_law_1419 = true := by decide +kernel
theorem dL_law_1419 : decode cL_law 1419 = .ok (.iload_n 3, 1) := dk_29 (dw rcL_law_1419 0 rfl)
theorem dL_law_1420 : decode cL_law 1420 = .ok (.iconst 1, 1) := dk_4 (dw rcL_law_1419 1 rfl)
theorem dL_law_1421 : decode cL_law 1421 = .ok (.iadd, 1) := dk_96 (dw rcL_law_1419 2 rfl)
theorem dL_law_1422 : decode cL_law 1422 = .ok (.iaload, 1) := dk_46 (dw rcL_law_1419 3 rfl)
theorem dL_law_1423 : decode cL_law 1423 = .ok (.aload_n 0, 1) := dk_42 (dw rcL_law_1419 4 rfl)
theorem dL_law_1424 : decode cL_law 1424 = .ok (.iload_n 3, 1) := dk_29 (dw rcL_law_1419 5 rfl)
theorem dL_law_1425 : decode cL_law 1425 = .ok (.iconst 2, 1) := dk_5 (dw rcL_law_1419 6 rfl)
theorem dL_law_1426 : decode cL_law 1426 = .ok (.iadd, 1) := dk_96 (dw rcL_law_1419 7 rfl)
theorem dL_law_1427 : decode cL_law 1427 = .ok (.iaload, 1) := dk_46 (dw rcL_law_1419 8 rfl)
theorem dL_law_1428 : decode cL_law 1428 = .ok (.aload_n 0, 1) := dk_42 (dw rcL_law_1419 9 rfl)
theorem dL_law_1429 : decode cL_law 1429 = .ok (.iload_n 3, 1) := dk_29 (dw rcL_law_1419 10 rfl)
theorem dL_law_1430 : decode cL_law 1430 = .ok (.iconst 3, 1) := dk_6 (dw rcL_law_1419 11 rfl)
theorem dL_law_1431 : decode cL_law 1431 = .ok (.iadd, 1) := dk_96 (dw rcL_law_1419 12 rfl)
theorem dL_law_1432 : decode cL_law 1432 = .ok (.iaload, 1) := dk_46 (dw rcL_law_1419 13 rfl)
theorem dL_law_1433 : decode cL_law 1433 = .ok (.invokevirtual 146, 3) := dk_182 (dw rcL_law_1419 14 rfl) rfl
theorem dL_law_1436 : decode cL_law 1436 = .ok (.pop, 1) := dk_87 (dw rcL_law_1419 15 rfl)
theorem dL_law_1437 : decode cL_law 1437 = .ok (.aload_n 2, 1) := dk_44 (dw rcL_law_1419 16 rfl)
theorem dL_law_1438 : decode cL_law 1438 = .ok (.aload_n 0, 1) := dk_42 (dw rcL_law_1419 17 rfl)
theorem dL_law_1439 : decode cL_law 1439 = .ok (.iload_n 3, 1) := dk_29 (dw rcL_law_1419 18 rfl)
theorem dL_law_1440 : decode cL_law 1440 = .ok (.iconst 1, 1) := dk_4 (dw rcL_law_1419 19 rfl)
theorem dL_law_1441 : decode cL_law 1441 = .ok (.iadd, 1) := dk_96 (dw rcL_law_1419 20 rfl)
theorem dL_law_1442 : decode cL_law 1442 = .ok (.iaload, 1) := dk_46 (dw rcL_law_1419 21 rfl)
theorem dL_law_1443 : decode cL_law 1443 = .ok (.aload_n 0, 1) := dk_42 (dw rcL_law_1419 22 rfl)
theorem dL_law_1444 : decode cL_law 1444 = .ok (.iload_n 3, 1) := dk_29 (dw rcL_law_1419 23 rfl)
noncomputable def rbL_law_1445 : List (Nat × List Nat) := [(1445, [5]), (1446, [96]), (1447, [46]), (1448, [42]), (1449, [29]), (1450, [6]), (1451, [96]), (1452, [46]), (1453, [182, 0, 149]), (1456, [87]), (1457, [167, 0, 184]), (1460, [43]), (1461, [42]), (1462, [29]), (1463, [4]), (1464, [96]), (1465, [46]), (1466, [182, 0, 150]), (1469, [87]), (1470, [44]), (1471, [42]), (1472, [29]), (1473, [4]), (1474, [96])]
theorem rcL_law_1445 : dgo (lb cL_law) 0 rbL_law_1445 = true := by decide +kernel
theorem dL_law_1445 : decode cL_law 1445 = .ok (.iconst 2, 1) := dk_5 (dw rcL_law_1445 0 rfl)
theorem dL_law_1446 : decode cL_law 1446 = .ok (.iadd, 1) := dk_96 (dw rcL_law_1445 1 rfl)
theorem dL_law_1447 : decode cL_law 1447 = .ok (.iaload, 1) := dk_46 (dw rcL_law_1445 2 rfl)
theorem dL_law_1448 : decode cL_law 1448 = .ok (.aload_n 0, 1) := dk_42 (dw rcL_law_1445 3 rfl)
theorem dL_law_1449 : decode cL_law 1449 = .ok (.iload_n 3, 1) := dk_29 (dw rcL_law_1445 4 rfl)
theorem dL_law_1450 : decode cL_law 1450 = .ok (.iconst 3, 1) := dk_6 (dw rcL_law_1445 5 rfl)
theorem dL_law_1451 : decode cL_law 1451 = .ok (.iadd, 1) := dk_96 (dw rcL_law_1445 6 rfl)
theorem dL_law_1452 : decode cL_law 1452 = .ok (.iaload, 1) := dk_46 (dw rcL_law_1445 7 rfl)
theorem dL_law_1453 : decode cL_law 1453 = .ok (.invokevirtual 149, 3) := dk_182 (dw rcL_law_1445 8 rfl) rfl
theorem dL_law_1456 : decode cL_law 1456 = .ok (.pop, 1) := dk_87 (dw rcL_law_1445 9 rfl)
theorem dL_law_1457 : decode cL_law 1457 = .ok (.goto 184, 3) := dk_167 (dw rcL_law_1445 10 rfl) rfl
theorem dL_law_1460 : decode cL_law 1460 = .ok (.aload_n 1, 1) := dk_43 (dw rcL_law_1445 11 rfl)
theorem dL_law_1461 : decode cL_law 1461 = .ok (.aload_n 0, 1) := dk_42 (dw rcL_law_1445 12 rfl)
theorem dL_law_1462 : decode cL_law 1462 = .ok (.iload_n 3, 1) := dk_29 (dw rcL_law_1445 13 rfl)
theorem dL_law_1463 : decode cL_law 1463 = .ok (.iconst 1, 1) := dk_4 (dw rcL_law_1445 14 rfl)
theorem dL_law_1464 : decode cL_law 1464 = .ok (.iadd, 1) := dk_96 (dw rcL_law_1445 15 rfl)
theorem dL_law_1465 : decode cL_law 1465 = .ok (.iaload, 1) := dk_46 (dw rcL_law_1445 16 rfl)
theorem dL_law_1466 : decode cL_law 1466 = .ok (.invokevirtual 150, 3) := dk_182 (dw rcL_law_1445 17 rfl) rfl
theorem dL_law_1469 : decode cL_law 1469 = .ok (.pop, 1) := dk_87 (dw rcL_law_1445 18 rfl)
theorem dL_law_1470 : decode cL_law 1470 = .ok (.aload_n 2, 1) := dk_44 (dw rcL_law_1445 19 rfl)
theorem dL_law_1471 : decode cL_law 1471 = .ok (.aload_n 0, 1) := dk_42 (dw rcL_law_1445 20 rfl)
theorem dL_law_1472 : decode cL_law 1472 = .ok (.iload_n 3, 1) := dk_29 (dw rcL_law_1445 21 rfl)
theorem dL_law_1473 : decode cL_law 1473 = .ok (.iconst 1, 1) := dk_4 (dw rcL_law_1445 22 rfl)
theorem dL_law_1474 : decode cL_law 1474 = .ok (.iadd, 1) := dk_96 (dw rcL_law_1445 23 rfl)
noncomputable def rbL_law_1475 : List (Nat × List Nat) := [(1475, [46]), (1476, [182, 0, 154]), (1479, [87]), (1480, [167, 0, 161]), (1483, [43]), (1484, [42]), (1485, [29]), (1486, [4]), (1487, [96]), (1488, [46]), (1489, [182, 0, 155]), (1492, [87]), (1493, [44]), (1494, [42]), (1495, [29]), (1496, [4]), (1497, [96]), (1498, [46]), (1499, [182, 0, 158]), (1502, [87]), (1503, [167, 0, 138]), (1506, [43]), (1507, [42]), (1508, [29])]
theorem rcL_law_1475 : dgo (lb cL_law) 0 rbL_law_1475 = true := by decide +kernel
theorem dL_law_1475 : decode cL_law 1475 = .ok (.iaload, 1) := dk_46 (dw rcL_law_1475 0 rfl)
theorem dL_law_1476 : decode cL_law 1476 = .ok (.invokevirtual 154, 3) := dk_182 (dw rcL_law_1475 1 rfl) rfl
theorem dL_law_1479 : decode cL_law 1479 = .ok (.pop, 1) := dk_87 (dw rcL_law_1475 2 rfl)
theorem dL_law_1480 : decode cL_law 1480 = .ok (.goto 161, 3) := dk_167 (dw rcL_law_1475 3 rfl) rfl
theorem dL_law_1483 : decode cL_law 1483 = .ok (.aload_n 1, 1) := dk_43 (dw rcL_law_1475 4 rfl)
theorem dL_law_1484 : decode cL_law 1484 = .ok (.aload_n 0, 1) := dk_42 (dw rcL_law_1475 5 rfl)
theorem dL_law_1485 : decode cL_law 1485 = .ok (.iload_n 3, 1) := dk_29 (dw rcL_law_1475 6 rfl)
theorem dL_law_1486 : decode cL_law 1486 = .ok (.iconst 1, 1) := dk_4 (dw rcL_law_1475 7 rfl)
theorem dL_law_1487 : decode cL_law 1487 = .ok (.iadd, 1) := dk_96 (dw rcL_law_1475 8 rfl)
theorem dL_law_1488 : decode cL_law 1488 = .ok (.iaload, 1) := dk_46 (dw rcL_law_1475 9 rfl)
theorem dL_law_1489 : decode cL_law 1489 = .ok (.invokevirtual 155, 3) := dk_182 (dw rcL_law_1475 10 rfl) rfl
theorem dL_law_1492 : decode cL_law 1492 = .ok (.pop, 1) := dk_87 (dw rcL_law_1475 11 rfl)
theorem dL_law_1493 : decode cL_law 1493 = .ok (.aload_n 2, 1) := dk_44 (dw rcL_law_1475 12 rfl)
theorem dL_law_1494 : decode cL_law 1494 = .ok (.aload_n 0, 1) := dk_42 (dw rcL_law_1475 13 rfl)
theorem dL_law_1495 : decode cL_law 1495 = .ok (.iload_n 3, 1) := dk_29 (dw rcL_law_1475 14 rfl)
theorem dL_law_1496 : decode cL_law 1496 = .ok (.iconst 1, 1) := dk_4 (dw rcL_law_1475 15 rfl)
theorem dL_law_1497 : decode cL_law 1497 = .ok (.iadd, 1) := dk_96 (dw rcL_law_1475 16 rfl)
theorem dL_law_1498 : decode cL_law 1498 = .ok (.iaload, 1) := dk_46 (dw rcL_law_1475 17 rfl)
theorem dL_law_1499 : decode cL_law 1499 = .ok (.invokevirtual 158, 3) := dk_182 (dw rcL_law_1475 18 rfl) rfl
theorem dL_law_1502 : decode cL_law 1502 = .ok (.pop, 1) := dk_87 (dw rcL_law_1475 19 rfl)
theorem dL_law_1503 : decode cL_law 1503 = .ok (.goto 138, 3) := dk_167 (dw rcL_law_1475 20 rfl) rfl
theorem dL_law_1506 : decode cL_law 1506 = .ok (.aload_n 1, 1) := dk_43 (dw rcL_law_1475 21 rfl)
theorem dL_law_1507 : decode cL_law 1507 = .ok (.aload_n 0, 1) := dk_42 (dw rcL_law_1475 22 rfl)
theorem dL_law_1508 : decode cL_law 1508 = .ok (.iload_n 3, 1) := dk_29 (dw rcL_law_1475 23 rfl)
noncomputable def rbL_law_1509 : List (Nat × List Nat) := [(1509, [4]), (1510, [96]), (1511, [46]), (1512, [182, 0, 159]), (1515, [87]), (1516, [44]), (1517, [42]), (1518, [29]), (1519, [4]), (1520, [96]), (1521, [46]), (1522, [182, 0, 162]), (1525, [87]), (1526, [167, 0, 115]), (1529, [43]), (1530, [42]), (1531, [29]), (1532, [4]), (1533, [96]), (1534, [46]), (1535, [42]), (1536, [29]), (1537, [5]), (1538, [96])]
theorem rcL_law_1509 : dgo (lb cL_law) 0 rbL_law_1509 = true := by decide +kernel
theorem dL_law_1509 : decode cL_law 1509 = .ok (.iconst 1, 1) := dk_4 (dw rcL_law_1509 0 rfl)
theorem dL_law_1510 : decode cL_law 1510 = .ok (.iadd, 1) := dk_96 (dw rcL_law_1509 1 rfl)
theorem dL_law_1511 : decode cL_law 1511 = .ok (.iaload, 1) := dk_46 (dw rcL_law_1509 2 rfl)
theorem dL_law_1512 : decode cL_law 1512 = .ok (.invokevirtual 159, 3) := dk_182 (dw rcL_law_1509 3 rfl) rfl
theorem dL_law_1515 : decode cL_law 1515 = .ok (.pop, 1) := dk_87 (dw rcL_law_1509 4 rfl)
theorem dL_law_1516 : decode cL_law 1516 = .ok (.aload_n 2, 1) := dk_44 (dw rcL_law_1509 5 rfl)
theorem dL_law_1517 : decode cL_law 1517 = .ok (.aload_n 0, 1) := dk_42 (dw rcL_law_1509 6 rfl)
theorem dL_law_1518 : decode cL_law 1518 = .ok (.iload_n 3, 1) := dk_29 (dw rcL_law_1509 7 rfl)
theorem dL_law_1519 : decode cL_law 1519 = .ok (.iconst 1, 1) := dk_4 (dw rcL_law_1509 8 rfl)
theorem dL_law_1520 : decode cL_law 1520 = .ok (.iadd, 1) := dk_96 (dw rcL_law_1509 9 rfl)
theorem dL_law_1521 : decode cL_law 1521 = .ok (.iaload, 1) := dk_46 (dw rcL_law_1509 10 rfl)
theorem dL_law_1522 : decode cL_law 1522 = .ok (.invokevirtual 162, 3) := dk_182 (dw rcL_law_1509 11 rfl) rfl
theorem dL_law_1525 : decode cL_law 1525 = .ok (.pop, 1) := dk_87 (dw rcL_law_1509 12 rfl)
theorem dL_law_1526 : decode cL_law 1526 = .ok (.goto 115, 3) := dk_167 (dw rcL_law_1509 13 rfl) rfl
theorem dL_law_1529 : decode cL_law 1529 = .ok (.aload_n 1, 1) := dk_43 (dw rcL_law_1509 14 rfl)
theorem dL_law_1530 : decode cL_law 1530 = .ok (.aload_n 0, 1) := dk_42 (dw rcL_law_1509 15 rfl)
theorem dL_law_1531 : decode cL_law 1531 = .ok (.iload_n 3, 1) := dk_29 (dw rcL_law_1509 16 rfl)
theorem dL_law_1532 : decode cL_law 1532 = .ok (.iconst 1, 1) := dk_4 (dw rcL_law_1509 17 rfl)
theorem dL_law_1533 : decode cL_law 1533 = .ok (.iadd, 1) := dk_96 (dw rcL_law_1509 18 rfl)
theorem dL_law_1534 : decode cL_law 1534 = .ok (.iaload, 1) := dk_46 (dw rcL_law_1509 19 rfl)
theorem dL_law_1535 : decode cL_law 1535 = .ok (.aload_n 0, 1) := dk_42 (dw rcL_law_1509 20 rfl)
theorem dL_law_1536 : decode cL_law 1536 = .ok (.iload_n 3, 1) := dk_29 (dw rcL_law_1509 21 rfl)
theorem dL_law_1537 : decode cL_law 1537 = .ok (.iconst 2, 1) := dk_5 (dw rcL_law_1509 22 rfl)
theorem dL_law_1538 : decode cL_law 1538 = .ok (.iadd, 1) := dk_96 (dw rcL_law_1509 23 rfl)
noncomputable def rbL_law_1539 : List (Nat × List Nat) := [(1539, [46]), (1540, [42]), (1541, [29]), (1542, [6]), (1543, [96]), (1544, [46]), (1545, [182, 0, 163]), (1548, [88]), (1549, [44]), (1550, [42]), (1551, [29]), (1552, [4]), (1553, [96]), (1554, [46]), (1555, [42]), (1556, [29]), (1557, [5]), (1558, [96]), (1559, [46]), (1560, [42]), (1561, [29]), (1562, [6]), (1563, [96]), (1564, [46])]
theorem rcL_law_1539 : dgo (lb cL_law) 0 rbL_law_1539 = true := by decide +kernel
theorem dL_law_1539 : decode cL_law 1539 = .ok (.iaload, 1) := dk_46 (dw rcL_law_1539 0 rfl)
theorem dL_law_1540 : decode cL_law 1540 = .ok (.aload_n 0, 1) := dk_42 (dw rcL_law_1539 1 rfl)
theorem dL_law_1541 : decode cL_law 1541 = .ok (.iload_n 3, 1) := dk_29 (dw rcL_law_1539 2 rfl)
theorem dL_law_1542 : decode cL_law 1542 = .ok (.iconst 3, 1) := dk_6 (dw rcL_law_1539 3 rfl)
theorem dL_law_1543 : decode cL_law 1543 = .ok (.iadd, 1) := dk_96 (dw rcL_law_1539 4 rfl)
theorem dL_law_1544 : decode cL_law 1544 = .ok (.iaload, 1) := dk_46 (dw rcL_law_1539 5 rfl)
theorem dL_law_1545 : decode cL_law 1545 = .ok (.invokevirtual 163, 3) := dk_182 (dw rcL_law_1539 6 rfl) rfl
theorem dL_law_1548 : decode cL_law 1548 = .ok (.pop2, 1) := dk_88 (dw rcL_law_1539 7 rfl)
theorem dL_law_1549 : decode cL_law 1549 = .ok (.aload_n 2, 1) := dk_44 (dw rcL_law_1539 8 rfl)
theorem dL_law_1550 : decode cL_law 1550 = .ok (.aload_n 0, 1) := dk_42 (dw rcL_law_1539 9 rfl)
theorem dL_law_1551 : decode cL_law 1551 = .ok (.iload_n 3, 1) := dk_29 (dw rcL_law_1539 10 rfl)
theorem dL_law_1552 : decode cL_law 1552 = .ok (.iconst 1, 1) := dk_4 (dw rcL_law_1539 11 rfl)
theorem dL_law_1553 : decode cL_law 1553 = .ok (.iadd, 1) := dk_96 (dw rcL_law_1539 12 rfl)
theorem dL_law_1554 : decode cL_law 1554 = .ok (.iaload, 1) := dk_46 (dw rcL_law_1539 13 rfl)
theorem dL_law_1555 : decode cL_law 1555 = .ok (.aload_n 0, 1) := dk_42 (dw rcL_law_1539 14 rfl)
theorem dL_law_1556 : decode cL_law 1556 = .ok (.iload_n 3, 1) := dk_29 (dw rcL_law_1539 15 rfl)
theorem dL_law_1557 : decode cL_law 1557 = .ok (.iconst 2, 1) := dk_5 (dw rcL_law_1539 16 rfl)
theorem dL_law_1558 : decode cL_law 1558 = .ok (.iadd, 1) := dk_96 (dw rcL_law_1539 17 rfl)
theorem dL_law_1559 : decode cL_law 1559 = .ok (.iaload, 1) := dk_46 (dw rcL_law_1539 18 rfl)
theorem dL_law_1560 : decode cL_law 1560 = .ok (.aload_n 0, 1) := dk_42 (dw rcL_law_1539 19 rfl)
theorem dL_law_1561 : decode cL_law 1561 = .ok (.iload_n 3, 1) := dk_29 (dw rcL_law_1539 20 rfl)
theorem dL_law_1562 : decode cL_law 1562 = .ok (.iconst 3, 1) := dk_6 (dw rcL_law_1539 21 rfl)
theorem dL_law_1563 : decode cL_law 1563 = .ok (.iadd, 1) := dk_96 (dw rcL_law_1539 22 rfl)
theorem dL_law_1564 : decode cL_law 1564 = .ok (.iaload, 1) := dk_46 (dw rcL_law_1539 23 rfl)
noncomputable def rbL_law_1565 : List (Nat × List Nat) := [(1565, [182, 0, 167]), (1568, [88]), (1569, [167, 0, 72]), (1572, [43]), (1573, [42]), (1574, [29]), (1575, [4]), (1576, [96]), (1577, [46]), (1578, [182, 0, 168]), (1581, [87]), (1582, [44]), (1583, [42]), (1584, [29]), (1585, [4]), (1586, [96]), (1587, [46]), (1588, [182, 0, 171]), (1591, [87]), (1592, [167, 0, 49]), (1595, [43]), (1596, [42]), (1597, [29]), (1598, [4])]
theorem rcL_law_1565 : dgo (lb cL_law) 0 rbL_law_1565 = true := by decide +kernel
theorem dL_law_1565 : decode cL_law 1565 = .ok (.invokevirtual 167, 3) := dk_182 (dw rcL_law_1565 0 rfl) rfl
theorem dL_law_1568 : decode cL_law 1568 = .ok (.pop2, 1) := dk_88 (dw rcL_law_1565 1 rfl)
theorem dL_law_1569 : decode cL_law 1569 = .ok (.goto 72, 3) := dk_167 (dw rcL_law_1565 2 rfl) rfl
theorem dL_law_1572 : decode cL_law 1572 = .ok (.aload_n 1, 1) := dk_43 (dw rcL_law_1565 3 rfl)
theorem dL_law_1573 : decode cL_law 1573 = .ok (.aload_n 0, 1) := dk_42 (dw rcL_law_1565 4 rfl)
theorem dL_law_1574 : decode cL_law 1574 = .ok (.iload_n 3, 1) := dk_29 (dw rcL_law_1565 5 rfl)
theorem dL_law_1575 : decode cL_law 1575 = .ok (.iconst 1, 1) := dk_4 (dw rcL_law_1565 6 rfl)
theorem dL_law_1576 : decode cL_law 1576 = .ok (.iadd, 1) := dk_96 (dw rcL_law_1565 7 rfl)
theorem dL_law_1577 : decode cL_law 1577 = .ok (.iaload, 1) := dk_46 (dw rcL_law_1565 8 rfl)
theorem dL_law_1578 : decode cL_law 1578 = .ok (.invokevirtual 168, 3) := dk_182 (dw rcL_law_1565 9 rfl) rfl
theorem dL_law_1581 : decode cL_law 1581 = .ok (.pop, 1) := dk_87 (dw rcL_law_1565 10 rfl)
theorem dL_law_1582 : decode cL_law 1582 = .ok (.aload_n 2, 1) := dk_44 (dw rcL_law_1565 11 rfl)
theorem dL_law_1583 : decode cL_law 1583 = .ok (.aload_n 0, 1) := dk_42 (dw rcL_law_1565 12 rfl)
theorem dL_law_1584 : decode cL_law 1584 = .ok (.iload_n 3, 1) := dk_29 (dw rcL_law_1565 13 rfl)
theorem dL_law_1585 : decode cL_law 1585 = .ok (.iconst 1, 1) := dk_4 (dw rcL_law_1565 14 rfl)
theorem dL_law_1586 : decode cL_law 1586 = .ok (.iadd, 1) := dk_96 (dw rcL_law_1565 15 rfl)
theorem dL_law_1587 : decode cL_law 1587 = .ok (.iaload, 1) := dk_46 (dw rcL_law_1565 16 rfl)
theorem dL_law_1588 : decode cL_law 1588 = .ok (.invokevirtual 171, 3) := dk_182 (dw rcL_law_1565 17 rfl) rfl
theorem dL_law_1591 : decode cL_law 1591 = .ok (.pop, 1) := dk_87 (dw rcL_law_1565 18 rfl)
theorem dL_law_1592 : decode cL_law 1592 = .ok (.goto 49, 3) := dk_167 (dw rcL_law_1565 19 rfl) rfl
theorem dL_law_1595 : decode cL_law 1595 = .ok (.aload_n 1, 1) := dk_43 (dw rcL_law_1565 20 rfl)
theorem dL_law_1596 : decode cL_law 1596 = .ok (.aload_n 0, 1) := dk_42 (dw rcL_law_1565 21 rfl)
theorem dL_law_1597 : decode cL_law 1597 = .ok (.iload_n 3, 1) := dk_29 (dw rcL_law_1565 22 rfl)
theorem dL_law_1598 : decode cL_law 1598 = .ok (.iconst 1, 1) := dk_4 (dw rcL_law_1565 23 rfl)
noncomputable def rbL_law_1599 : List (Nat × List Nat) := [(1599, [96]), (1600, [46]), (1601, [182, 0, 172]), (1604, [87]), (1605, [44]), (1606, [42]), (1607, [29]), (1608, [4]), (1609, [96]), (1610, [46]), (1611, [182, 0, 175]), (1614, [87]), (1615, [167, 0, 26]), (1618, [43]), (1619, [42]), (1620, [29]), (1621, [4]), (1622, [96]), (1623, [46]), (1624, [182, 0, 176]), (1627, [87]), (1628, [44]), (1629, [42]), (1630, [29])]
theorem rcL_law_1599 : dgo (lb cL_law) 0 rbL_law_1599 = true := by decide +kernel
theorem dL_law_1599 : decode cL_law 1599 = .ok (.iadd, 1) := dk_96 (dw rcL_law_1599 0 rfl)
theorem dL_law_1600 : decode cL_law 1600 = .ok (.iaload, 1) := dk_46 (dw rcL_law_1599 1 rfl)
theorem dL_law_1601 : decode cL_law 1601 = .ok (.invokevirtual 172, 3) := dk_182 (dw rcL_law_1599 2 rfl) rfl
theorem dL_law_1604 : decode cL_law 1604 = .ok (.pop, 1) := dk_87 (dw rcL_law_1599 3 rfl)
theorem dL_law_1605 : decode cL_law 1605 = .ok (.aload_n 2, 1) := dk_44 (dw rcL_law_1599 4 rfl)
theorem dL_law_1606 : decode cL_law 1606 = .ok (.aload_n 0, 1) := dk_42 (dw rcL_law_1599 5 rfl)
theorem dL_law_1607 : decode cL_law 1607 = .ok (.iload_n 3, 1) := dk_29 (dw rcL_law_1599 6 rfl)
theorem dL_law_1608 : decode cL_law 1608 = .ok (.iconst 1, 1) := dk_4 (dw rcL_law_1599 7 rfl)
theorem dL_law_1609 : decode cL_law 1609 = .ok (.iadd, 1) := dk_96 (dw rcL_law_1599 8 rfl)
theorem dL_law_1610 : decode cL_law 1610 = .ok (.iaload, 1) := dk_46 (dw rcL_law_1599 9 rfl)
theorem dL_law_1611 : decode cL_law 1611 = .ok (.invokevirtual 175, 3) := dk_182 (dw rcL_law_1599 10 rfl) rfl
theorem dL_law_1614 : decode cL_law 1614 = .ok (.pop, 1) := dk_87 (dw rcL_law_1599 11 rfl)
theorem dL_law_1615 : decode cL_law 1615 = .ok (.goto 26, 3) := dk_167 (dw rcL_law_1599 12 rfl) rfl
theorem dL_law_1618 : decode cL_law 1618 = .ok (.aload_n 1, 1) := dk_43 (dw rcL_law_1599 13 rfl)
theorem dL_law_1619 : decode cL_law 1619 = .ok (.aload_n 0, 1) := dk_42 (dw rcL_law_1599 14 rfl)
theorem dL_law_1620 : decode cL_law 1620 = .ok (.iload_n 3, 1) := dk_29 (dw rcL_law_1599 15 rfl)
theorem dL_law_1621 : decode cL_law 1621 = .ok (.iconst 1, 1) := dk_4 (dw rcL_law_1599 16 rfl)
theorem dL_law_1622 : decode cL_law 1622 = .ok (.iadd, 1) := dk_96 (dw rcL_law_1599 17 rfl)
theorem dL_law_1623 : decode cL_law 1623 = .ok (.iaload, 1) := dk_46 (dw rcL_law_1599 18 rfl)
theorem dL_law_1624 : decode cL_law 1624 = .ok (.invokevirtual 176, 3) := dk_182 (dw rcL_law_1599 19 rfl) rfl
theorem dL_law_1627 : decode cL_law 1627 = .ok (.pop, 1) := dk_87 (dw rcL_law_1599 20 rfl)
theorem dL_law_1628 : decode cL_law 1628 = .ok (.aload_n 2, 1) := dk_44 (dw rcL_law_1599 21 rfl)
theorem dL_law_1629 : decode cL_law 1629 = .ok (.aload_n 0, 1) := dk_42 (dw rcL_law_1599 22 rfl)
theorem dL_law_1630 : decode cL_law 1630 = .ok (.iload_n 3, 1) := dk_29 (dw rcL_law_1599 23 rfl)
noncomputable def rbL_law_1631 : List (Nat × List Nat) := [(1631, [4]), (1632, [96]), (1633, [46]), (1634, [182, 0, 179]), (1637, [87]), (1638, [167, 0, 3])]
theorem rcL_law_1631 : dgo (lb cL_law) 0 rbL_law_1631 = true := by decide +kernel
theorem dL_law_1631 : decode cL_law 1631 = .ok (.iconst 1, 1) := dk_4 (dw rcL_law_1631 0 rfl)
theorem dL_law_1632 : decode cL_law 1632 = .ok (.iadd, 1) := dk_96 (dw rcL_law_1631 1 rfl)
theorem dL_law_1633 : decode cL_law 1633 = .ok (.iaload, 1) := dk_46 (dw rcL_law_1631 2 rfl)
theorem dL_law_1634 : decode cL_law 1634 = .ok (.invokevirtual 179, 3) := dk_182 (dw rcL_law_1631 3 rfl) rfl
theorem dL_law_1637 : decode cL_law 1637 = .ok (.pop, 1) := dk_87 (dw rcL_law_1631 4 rfl)
theorem dL_law_1638 : decode cL_law 1638 = .ok (.goto 3, 3) := dk_167 (dw rcL_law_1631 5 rfl) rfl
set_option maxHeartbeats 4000000 in
set_option maxRecDepth 100000 in
theorem law_23 {p : Program} {l : Launch} {e : Env} {s : State} {m : MethodId} {below : List Frame} {meth : Method} {c : Code} {D : va_G} {k : KT} {A : Nat → Prop} {a : Nat → Nat} {z : SK} {b L : Nat} {xs : Nat → Int32} (hL : L ≤ 3072) (C0 : lw_At p s m meth c b L xs) (hK : cK D k s) (hZ : Sx A z s) (hbA : ¬ A b) {G : GS} {i0 : Int32} (hi0 : 0 ≤ i0.toInt) (hi6 : i0.toInt + 6 ≤ L) (hI : LI G) (hB_G : Bd G) {H : Heap} {locs : List Loc} {ls : Array Slot} (hW : Wd D k A a G H) (hS : va_S A s.heap H locs) (hl : lv_has ls 4 [(0, .ref b), (1, .ref (a 0)), (2, .ref (a 66)), (3, .int i0)]) (K : ∀ (G1 : GS) (H1 : Heap) (locs1 : List Loc) (ls1 : Array Slot), LI G1 → Bd G1 → Wd D k A a G1 H1 → va_S A s.heap H1 locs1 → lv_has ls1 4 [(0, .ref b), (1, .ref (a 0)), (2, .ref (a 66)), (3, .int i0)] → W p l e room_1 s m #[Value.ref b] below meth c H1 locs1 119 46443 (lw_Z below #[Value.ref b] s) (F0 m 1641 ls1 [])) : W p l e room_1 s m #[Value.ref b] below meth c H locs 119 46443 (lw_Z below #[Value.ref b] s) (F0 m 1273 ls []) := by
  obtain ⟨hx, hb, hr, hml, hown, hts, hX, hbl, hlocks, hgv⟩ := id C0
  have hown : s.vm.findClass RL = some m.cls := hown
  have hgd : ∀ w ∈ gd, w ∈ lw_tbl := fun w h => (List.mem_filter.mp h).1
  have hg : ∀ w ∈ gd, w.before #[Value.ref b] s = true := fun w h => hts w (hgd w h)
  rcases hI with ⟨hv_0_0, hv_0_1, hv_6_4, hj0, hj1, hj2, hj3, hj4, hj5, hj6, hj7, hj8, hj9, hj10, hj11, hj12⟩ | ⟨hv_0_0, hv_0_1, hv_6_4, hj0, hj1, hj2, hj3, hj4, hj5, hj6, hj7, hj8, hj9, hj10, hj11, hj12⟩
  · skip
    obtain ⟨p0, hp0⟩ : ∃ y, y = xs (i0 + 1).toNatClampNeg := ⟨_, rfl⟩
    obtain ⟨p1, hp1⟩ : ∃ y, y = xs (i0 + 2).toNatClampNeg := ⟨_, rfl⟩
    obtain ⟨p2, hp2⟩ : ∃ y, y = xs (i0 + 3).toNatClampNeg := ⟨_, rfl⟩
    obtain ⟨p3, hp3⟩ : ∃ y, y = xs (i0 + 4).toNatClampNeg := ⟨_, rfl⟩
    obtain ⟨p4, hp4⟩ : ∃ y, y = xs (i0 + 5).toNatClampNeg := ⟨_, rfl⟩
    refine lv_aload_n hx hb dL_law_1273 rfl (lv_at hl 1 rfl) ?_
    refine ld_1 hL hi0 hi6 hx hb hX hbl hbA hS hl dL_law_1274 dL_law_1275 dL_law_1276 dL_law_1277 dL_law_1278 hp0 ?_
    have b_1 : 0 ≤ (G.1 30 4).toInt ∧ (G.1 30 4).toInt ≤ 40 := bd_30_4 hB_G
    have b_2 : 0 ≤ (G.1 30 5).toInt ∧ (G.1 30 5).toInt ≤ 40 := bd_30_5 hB_G
    refine S_calli (va_runV (As := [.int p0]) (rest := []) ⟨hx, hb, hml, hown, hts⟩ (k_Wgo_1 l D k A a z G p0 hv_0_0 hv_0_1 hv_6_4 (by omega)) (cwV 1 hts (gd_V hgd m1182 m1183 m1184 m117 m1185) rfl rfl rfl hd_X11_go ⟨Nat.le_of_ble_eq_true rfl, Nat.le_of_ble_eq_true rfl⟩) (pre_W hW hB_G hK hZ hS kd_0 rfl) rfl rfl hl.1 rfl (lv_room (Nat.le_of_ble_eq_true rfl)) dL_law_1279 ⟨Nat.le_of_ble_eq_true rfl, Nat.le_of_ble_eq_true rfl⟩) hS (fun r_3 G_4 H locs hpo hW hS => ?_)
    have hX_7 : P_Wgo_1 p0 G r_3 G_4 := hpo
    obtain ⟨hB_G_4, hq_5, hp_6, -⟩ := hpo
    refine lv_pop hx hb dL_law_1282 rfl ?_
    refine lv_aload_n hx hb dL_law_1283 rfl (lv_at hl 2 rfl) ?_
    refine ld_1 hL hi0 hi6 hx hb hX hbl hbA hS hl dL_law_1284 dL_law_1285 dL_law_1286 dL_law_1287 dL_law_1288 hp0 ?_
    have fr_8 : Fr [37, 38, 39, 58, 59] [(6, 3), (30, 4), (30, 5)] G G_4 := (Fr.call9 (rs := [37, 38, 39, 58, 59]) (fs := [(6, 3), (30, 4), (30, 5)]) Fr.rf hq_5 rfl rfl)
    have g_9 : gP G_4 = gP G := gP_fr fr_8 (gr_q rfl) (gf_q rfl)
    have b_10 : 0 ≤ (G.1 66 78).toInt ∧ (G.1 66 78).toInt ≤ 40 := bd_66_78 hB_G
    have g_11 : (G_4.1 66 78).toInt = (G.1 66 78).toInt := (congrArg Int32.toInt (show G_4.1 66 78 = (G.1 66 78) from (hq_5.i9 66 78 rfl rfl)))
    have b_12 : 0 ≤ (G.1 66 79).toInt ∧ (G.1 66 79).toInt ≤ 40 := bd_66_79 hB_G
    have g_13 : (G_4.1 66 79).toInt = (G.1 66 79).toInt := (congrArg Int32.toInt (show G_4.1 66 79 = (G.1 66 79) from (hq_5.i9 66 79 rfl rfl)))
    have b_14 : 0 ≤ (G.1 96 0).toInt ∧ (G.1 96 0).toInt ≤ 9 := bd_96_0 hB_G
    have g_15 : (G_4.1 96 0).toInt = (G.1 96 0).toInt := (congrArg Int32.toInt (show G_4.1 96 0 = (G.1 96 0) from (hq_5.i9 96 0 rfl rfl)))
    have b_16 : 0 ≤ (G.1 96 1).toInt ∧ (G.1 96 1).toInt ≤ 9 := bd_96_1 hB_G
    have g_17 : (G_4.1 96 1).toInt = (G.1 96 1).toInt := (congrArg Int32.toInt (show G_4.1 96 1 = (G.1 96 1) from (hq_5.i9 96 1 rfl rfl)))
    have b_18 : 0 ≤ (G.1 96 2).toInt ∧ (G.1 96 2).toInt ≤ 9 := bd_96_2 hB_G
    have g_19 : (G_4.1 96 2).toInt = (G.1 96 2).toInt := (congrArg Int32.toInt (show G_4.1 96 2 = (G.1 96 2) from (hq_5.i9 96 2 rfl rfl)))
    refine S_calli (va_runV (As := [.int p0]) (rest := []) ⟨hx, hb, hml, hown, hts⟩ (n_go l D k A a z G_4 p0 ((by first | (clear b_1 b_2 b_10 g_11 b_12 g_13 b_14 g_15 b_16 g_17 b_18 g_19; omega) | omega)) ((by first | (clear b_1 b_2 g_9 b_14 g_15 b_16 g_17 b_18 g_19; omega) | omega)) ((by first | (clear b_1 b_2 g_9 b_10 g_11 b_12 g_13; omega) | omega))) (cwV 1 hts (gd_V hgd m1999 m2000 m2001 m131 m2002) rfl rfl rfl hd_X12_go ⟨Nat.le_of_ble_eq_true rfl, Nat.le_of_ble_eq_true rfl⟩) (pre_W hW hB_G_4 hK hZ hS kd_66 rfl) rfl rfl hl.1 rfl (lv_room (Nat.le_of_ble_eq_true rfl)) dL_law_1289 ⟨Nat.le_of_ble_eq_true rfl, Nat.le_of_ble_eq_true rfl⟩) hS (fun r_20 G_21 H locs hpo hW hS => ?_)
    have hX_24 : Q_go p0 G_4 r_20 G_21 := hpo
    obtain ⟨hB_G_21, hq_22, hp_23, -⟩ := hpo
    obtain ⟨u_25, u_26⟩ := L_go_1 hX_7 hX_24 rfl (by omega) (by omega)
    refine lv_pop hx hb dL_law_1292 rfl ?_
    refine lv_goto (tgt := 1641) hx hb dL_law_1293 rfl ?_
    have fr_27 : Fr [110, 111, 37, 38, 39, 58, 59, 76, 97, 98] [(6, 3), (30, 4), (30, 5), (66, 59), (66, 60), (66, 61), (66, 62), (66, 63), (66, 78), (66, 79)] G G_21 := (Fr.call9 (rs := [110, 111, 37, 38, 39, 58, 59, 76, 97, 98]) (fs := [(6, 3), (30, 4), (30, 5), (66, 59), (66, 60), (66, 61), (66, 62), (66, 63), (66, 78), (66, 79)]) (Fr.call9 (rs := [110, 111, 37, 38, 39, 58, 59, 76, 97, 98]) (fs := [(6, 3), (30, 4), (30, 5), (66, 59), (66, 60), (66, 61), (66, 62), (66, 63), (66, 78), (66, 79)]) Fr.rf hq_5 rfl rfl) hq_22 rfl rfl)
    have g_28 : gO G_21 = gO G := gO_fr fr_27 (gr_q rfl) (gf_q rfl)
    have g_29 : gP G_21 = gP G := gP_fr fr_27 (gr_q rfl) (gf_q rfl)
    have g_30 : gS G_21 = gS G := gS_fr fr_27 (gr_q rfl) (gf_q rfl)
    have g_31 : gTE G_21 = gTE G := gTE_fr fr_27 (gr_q rfl) (gf_q rfl)
    have g_32 : gW G_21 = gW G := gW_fr fr_27 (gr_q rfl) (gf_q rfl)
    have b_33 : 0 ≤ (G.1 0 11).toInt ∧ (G.1 0 11).toInt ≤ 1600 := bd_0_11 hB_G
    have g_34 : (G_21.1 0 11).toInt = (G.1 0 11).toInt := (congrArg Int32.toInt (show G_21.1 0 11 = (G.1 0 11) from ((hq_22.i9 0 11 rfl rfl).trans (hq_5.i9 0 11 rfl rfl))))
    have b_35 : 0 ≤ (G.1 3 7).toInt ∧ (G.1 3 7).toInt ≤ 4 := bd_3_7 hB_G
    have g_36 : (G_21.1 3 7).toInt = (G.1 3 7).toInt := (congrArg Int32.toInt (show G_21.1 3 7 = (G.1 3 7) from ((hq_22.i9 3 7 rfl rfl).trans (hq_5.i9 3 7 rfl rfl))))
    have b_37 : (-1) ≤ (G.1 3 8).toInt ∧ (G.1 3 8).toInt ≤ 1600 := bd_3_8 hB_G
    have g_38 : (G_21.1 3 8).toInt = (G.1 3 8).toInt := (congrArg Int32.toInt (show G_21.1 3 8 = (G.1 3 8) from ((hq_22.i9 3 8 rfl rfl).trans (hq_5.i9 3 8 rfl rfl))))
    have b_39 : 0 ≤ (G_4.1 30 4).toInt ∧ (G_4.1 30 4).toInt ≤ 40 := bd_30_4 hB_G_4
    have g_40 : (G_21.1 30 4).toInt = (G_4.1 30 4).toInt := (congrArg Int32.toInt (show G_21.1 30 4 = (G_4.1 30 4) from (hq_22.i9 30 4 rfl rfl)))
    have b_41 : 0 ≤ (G_4.1 30 5).toInt ∧ (G_4.1 30 5).toInt ≤ 40 := bd_30_5 hB_G_4
    have g_42 : (G_21.1 30 5).toInt = (G_4.1 30 5).toInt := (congrArg Int32.toInt (show G_21.1 30 5 = (G_4.1 30 5) from (hq_22.i9 30 5 rfl rfl)))
    have b_43 : 0 ≤ (G.1 31 6).toInt ∧ (G.1 31 6).toInt ≤ 100000 := bd_31_6 hB_G
    have g_44 : (G_21.1 31 6).toInt = (G.1 31 6).toInt := (congrArg Int32.toInt (show G_21.1 31 6 = (G.1 31 6) from ((hq_22.i9 31 6 rfl rfl).trans (hq_5.i9 31 6 rfl rfl))))
    have b_45 : 0 ≤ (G.1 66 1).toInt ∧ (G.1 66 1).toInt ≤ 1600 := bd_66_1 hB_G
    have g_46 : (G_21.1 66 1).toInt = (G.1 66 1).toInt := (congrArg Int32.toInt (show G_21.1 66 1 = (G.1 66 1) from ((hq_22.i9 66 1 rfl rfl).trans (hq_5.i9 66 1 rfl rfl))))
    have b_47 : 0 ≤ (G.1 66 2).toInt ∧ (G.1 66 2).toInt ≤ 4 := bd_66_2 hB_G
    have g_48 : (G_21.1 66 2).toInt = (G.1 66 2).toInt := (congrArg Int32.toInt (show G_21.1 66 2 = (G.1 66 2) from ((hq_22.i9 66 2 rfl rfl).trans (hq_5.i9 66 2 rfl rfl))))
    have b_49 : (-1) ≤ (G.1 66 3).toInt ∧ (G.1 66 3).toInt ≤ 1600 := bd_66_3 hB_G
    have g_50 : (G_21.1 66 3).toInt = (G.1 66 3).toInt := (congrArg Int32.toInt (show G_21.1 66 3 = (G.1 66 3) from ((hq_22.i9 66 3 rfl rfl).trans (hq_5.i9 66 3 rfl rfl))))
    have b_51 : 0 ≤ (G_21.1 66 78).toInt ∧ (G_21.1 66 78).toInt ≤ 40 := bd_66_78 hB_G_21
    have b_52 : 0 ≤ (G_21.1 66 79).toInt ∧ (G_21.1 66 79).toInt ≤ 40 := bd_66_79 hB_G_21
    have b_53 : 0 ≤ (G.1 66 86).toInt ∧ (G.1 66 86).toInt ≤ 100000 := bd_66_86 hB_G
    have g_54 : (G_21.1 66 86).toInt = (G.1 66 86).toInt := (congrArg Int32.toInt (show G_21.1 66 86 = (G.1 66 86) from ((hq_22.i9 66 86 rfl rfl).trans (hq_5.i9 66 86 rfl rfl))))
    have g_55 : (G_21.1 96 0).toInt = (G.1 96 0).toInt := (congrArg Int32.toInt (show G_21.1 96 0 = (G.1 96 0) from ((hq_22.i9 96 0 rfl rfl).trans ((hq_5.i9 96 0 rfl rfl).trans (rfl)))))
    have g_56 : (G_21.1 96 1).toInt = (G.1 96 1).toInt := (congrArg Int32.toInt (show G_21.1 96 1 = (G.1 96 1) from ((hq_22.i9 96 1 rfl rfl).trans ((hq_5.i9 96 1 rfl rfl).trans (rfl)))))
    have g_57 : (G_21.1 96 2).toInt = (G.1 96 2).toInt := (congrArg Int32.toInt (show G_21.1 96 2 = (G.1 96 2) from ((hq_22.i9 96 2 rfl rfl).trans ((hq_5.i9 96 2 rfl rfl).trans (rfl)))))
    exact K G_21 _ _ _ (Or.inl ⟨((((hq_22.r9 0 0 rfl rfl).trans (hq_5.r9 0 0 rfl rfl))).trans (hv_0_0)), ((((hq_22.r9 0 1 rfl rfl).trans (hq_5.r9 0 1 rfl rfl))).trans (hv_0_1)), ((((hq_22.r9 6 4 rfl rfl).trans (hq_5.r9 6 4 rfl rfl))).trans (hv_6_4)), by omega, by omega, by omega, by omega, by omega, by omega, by omega, by omega, by omega, by omega, by omega, by omega, by omega⟩) hB_G_21 hW hS (lv_sub hl [0, 1, 2, 3] rfl)
  · skip
    obtain ⟨p0, hp0⟩ : ∃ y, y = xs (i0 + 1).toNatClampNeg := ⟨_, rfl⟩
    obtain ⟨p1, hp1⟩ : ∃ y, y = xs (i0 + 2).toNatClampNeg := ⟨_, rfl⟩
    obtain ⟨p2, hp2⟩ : ∃ y, y = xs (i0 + 3).toNatClampNeg := ⟨_, rfl⟩
    obtain ⟨p3, hp3⟩ : ∃ y, y = xs (i0 + 4).toNatClampNeg := ⟨_, rfl⟩
    obtain ⟨p4, hp4⟩ : ∃ y, y = xs (i0 + 5).toNatClampNeg := ⟨_, rfl⟩
    refine lv_aload_n hx hb dL_law_1273 rfl (lv_at hl 1 rfl) ?_
    refine ld_1 hL hi0 hi6 hx hb hX hbl hbA hS hl dL_law_1274 dL_law_1275 dL_law_1276 dL_law_1277 dL_law_1278 hp0 ?_
    have b_1 : 0 ≤ (G.1 30 4).toInt ∧ (G.1 30 4).toInt ≤ 40 := bd_30_4 hB_G
    have b_2 : 0 ≤ (G.1 30 5).toInt ∧ (G.1 30 5).toInt ≤ 40 := bd_30_5 hB_G
    refine S_calli (va_runV (As := [.int p0]) (rest := []) ⟨hx, hb, hml, hown, hts⟩ (k_Wgo_2 l D k A a z G p0 hv_0_0 hv_0_1 hv_6_4 (by omega)) (cwV 1 hts (gd_V hgd m1182 m1183 m1184 m117 m1185) rfl rfl rfl hd_X11_go ⟨Nat.le_of_ble_eq_true rfl, Nat.le_of_ble_eq_true rfl⟩) (pre_W hW hB_G hK hZ hS kd_0 rfl) rfl rfl hl.1 rfl (lv_room (Nat.le_of_ble_eq_true rfl)) dL_law_1279 ⟨Nat.le_of_ble_eq_true rfl, Nat.le_of_ble_eq_true rfl⟩) hS (fun r_3 G_4 H locs hpo hW hS => ?_)
    have hX_7 : P_Wgo_2 p0 G r_3 G_4 := hpo
    obtain ⟨hB_G_4, hq_5, hp_6, -⟩ := hpo
    refine lv_pop hx hb dL_law_1282 rfl ?_
    refine lv_aload_n hx hb dL_law_1283 rfl (lv_at hl 2 rfl) ?_
    refine ld_1 hL hi0 hi6 hx hb hX hbl hbA hS hl dL_law_1284 dL_law_1285 dL_law_1286 dL_law_1287 dL_law_1288 hp0 ?_
    have fr_8 : Fr [37, 38, 39, 58, 59] [(6, 3), (30, 4), (30, 5)] G G_4 := (Fr.call9 (rs := [37, 38, 39, 58, 59]) (fs := [(6, 3), (30, 4), (30, 5)]) Fr.rf hq_5 rfl rfl)
    have g_9 : gP G_4 = gP G := gP_fr fr_8 (gr_q rfl) (gf_q rfl)
    have b_10 : 0 ≤ (G.1 66 78).toInt ∧ (G.1 66 78).toInt ≤ 40 := bd_66_78 hB_G
    have g_11 : (G_4.1 66 78).toInt = (G.1 66 78).toInt := (congrArg Int32.toInt (show G_4.1 66 78 = (G.1 66 78) from (hq_5.i9 66 78 rfl rfl)))
    have b_12 : 0 ≤ (G.1 66 79).toInt ∧ (G.1 66 79).toInt ≤ 40 := bd_66_79 hB_G
    have g_13 : (G_4.1 66 79).toInt = (G.1 66 79).toInt := (congrArg Int32.toInt (show G_4.1 66 79 = (G.1 66 79) from (hq_5.i9 66 79 rfl rfl)))
    have b_14 : 0 ≤ (G.1 96 0).toInt ∧ (G.1 96 0).toInt ≤ 9 := bd_96_0 hB_G
    have g_15 : (G_4.1 96 0).toInt = (G.1 96 0).toInt := (congrArg Int32.toInt (show G_4.1 96 0 = (G.1 96 0) from (hq_5.i9 96 0 rfl rfl)))
    have b_16 : 0 ≤ (G.1 96 1).toInt ∧ (G.1 96 1).toInt ≤ 9 := bd_96_1 hB_G
    have g_17 : (G_4.1 96 1).toInt = (G.1 96 1).toInt := (congrArg Int32.toInt (show G_4.1 96 1 = (G.1 96 1) from (hq_5.i9 96 1 rfl rfl)))
    have b_18 : 0 ≤ (G.1 96 2).toInt ∧ (G.1 96 2).toInt ≤ 9 := bd_96_2 hB_G
    have g_19 : (G_4.1 96 2).toInt = (G.1 96 2).toInt := (congrArg Int32.toInt (show G_4.1 96 2 = (G.1 96 2) from (hq_5.i9 96 2 rfl rfl)))
    refine S_calli (va_runV (As := [.int p0]) (rest := []) ⟨hx, hb, hml, hown, hts⟩ (n_go l D k A a z G_4 p0 ((by first | (clear b_1 b_2 b_10 g_11 b_12 g_13 b_14 g_15 b_16 g_17 b_18 g_19; omega) | omega)) ((by first | (clear b_1 b_2 g_9 b_14 g_15 b_16 g_17 b_18 g_19; omega) | omega)) ((by first | (clear b_1 b_2 g_9 b_10 g_11 b_12 g_13; omega) | omega))) (cwV 1 hts (gd_V hgd m1999 m2000 m2001 m131 m2002) rfl rfl rfl hd_X12_go ⟨Nat.le_of_ble_eq_true rfl, Nat.le_of_ble_eq_true rfl⟩) (pre_W hW hB_G_4 hK hZ hS kd_66 rfl) rfl rfl hl.1 rfl (lv_room (Nat.le_of_ble_eq_true rfl)) dL_law_1289 ⟨Nat.le_of_ble_eq_true rfl, Nat.le_of_ble_eq_true rfl⟩) hS (fun r_20 G_21 H locs hpo hW hS => ?_)
    have hX_24 : Q_go p0 G_4 r_20 G_21 := hpo
    obtain ⟨hB_G_21, hq_22, hp_23, -⟩ := hpo
    obtain ⟨u_25, u_26⟩ := L_go_2 hX_7 hX_24 rfl (by omega) (by omega)
    refine lv_pop hx hb dL_law_1292 rfl ?_
    refine lv_goto (tgt := 1641) hx hb dL_law_1293 rfl ?_
    have fr_27 : Fr [110, 111, 37, 38, 39, 58, 59, 76, 97, 98] [(6, 3), (30, 4), (30, 5), (66, 59), (66, 60), (66, 61), (66, 62), (66, 63), (66, 78), (66, 79)] G G_21 := (Fr.call9 (rs := [110, 111, 37, 38, 39, 58, 59, 76, 97, 98]) (fs := [(6, 3), (30, 4), (30, 5), (66, 59), (66, 60), (66, 61), (66, 62), (66, 63), (66, 78), (66, 79)]) (Fr.call9 (rs := [110, 111, 37, 38, 39, 58, 59, 76, 97, 98]) (fs := [(6, 3), (30, 4), (30, 5), (66, 59), (66, 60), (66, 61), (66, 62), (66, 63), (66, 78), (66, 79)]) Fr.rf hq_5 rfl rfl) hq_22 rfl rfl)
    have g_28 : gO G_21 = gO G := gO_fr fr_27 (gr_q rfl) (gf_q rfl)
    have g_29 : gP G_21 = gP G := gP_fr fr_27 (gr_q rfl) (gf_q rfl)
    have g_30 : gS G_21 = gS G := gS_fr fr_27 (gr_q rfl) (gf_q rfl)
    have g_31 : gTE G_21 = gTE G := gTE_fr fr_27 (gr_q rfl) (gf_q rfl)
    have g_32 : gW G_21 = gW G := gW_fr fr_27 (gr_q rfl) (gf_q rfl)
    have b_33 : 0 ≤ (G.1 0 11).toInt ∧ (G.1 0 11).toInt ≤ 1600 := bd_0_11 hB_G
    have g_34 : (G_21.1 0 11).toInt = (G.1 0 11).toInt := (congrArg Int32.toInt (show G_21.1 0 11 = (G.1 0 11) from ((hq_22.i9 0 11 rfl rfl).trans (hq_5.i9 0 11 rfl rfl))))
    have b_35 : 0 ≤ (G.1 3 7).toInt ∧ (G.1 3 7).toInt ≤ 4 := bd_3_7 hB_G
    have g_36 : (G_21.1 3 7).toInt = (G.1 3 7).toInt := (congrArg Int32.toInt (show G_21.1 3 7 = (G.1 3 7) from ((hq_22.i9 3 7 rfl rfl).trans (hq_5.i9 3 7 rfl rfl))))
    have b_37 : (-1) ≤ (G.1 3 8).toInt ∧ (G.1 3 8).toInt ≤ 1600 := bd_3_8 hB_G
    have g_38 : (G_21.1 3 8).toInt = (G.1 3 8).toInt := (congrArg Int32.toInt (show G_21.1 3 8 = (G.1 3 8) from ((hq_22.i9 3 8 rfl rfl).trans (hq_5.i9 3 8 rfl rfl))))
    have b_39 : 0 ≤ (G_4.1 30 4).toInt ∧ (G_4.1 30 4).toInt ≤ 40 := bd_30_4 hB_G_4
    have g_40 : (G_21.1 30 4).toInt = (G_4.1 30 4).toInt := (congrArg Int32.toInt (show G_21.1 30 4 = (G_4.1 30 4) from (hq_22.i9 30 4 rfl rfl)))
    have b_41 : 0 ≤ (G_4.1 30 5).toInt ∧ (G_4.1 30 5).toInt ≤ 40 := bd_30_5 hB_G_4
    have g_42 : (G_21.1 30 5).toInt = (G_4.1 30 5).toInt := (congrArg Int32.toInt (show G_21.1 30 5 = (G_4.1 30 5) from (hq_22.i9 30 5 rfl rfl)))
    have b_43 : 0 ≤ (G.1 31 6).toInt ∧ (G.1 31 6).toInt ≤ 100000 := bd_31_6 hB_G
    have g_44 : (G_21.1 31 6).toInt = (G.1 31 6).toInt := (congrArg Int32.toInt (show G_21.1 31 6 = (G.1 31 6) from ((hq_22.i9 31 6 rfl rfl).trans (hq_5.i9 31 6 rfl rfl))))
    have b_45 : 0 ≤ (G.1 66 1).toInt ∧ (G.1 66 1).toInt ≤ 1600 := bd_66_1 hB_G
    have g_46 : (G_21.1 66 1).toInt = (G.1 66 1).toInt := (congrArg Int32.toInt (show G_21.1 66 1 = (G.1 66 1) from ((hq_22.i9 66 1 rfl rfl).trans (hq_5.i9 66 1 rfl rfl))))
    have b_47 : 0 ≤ (G.1 66 2).toInt ∧ (G.1 66 2).toInt ≤ 4 := bd_66_2 hB_G
    have g_48 : (G_21.1 66 2).toInt = (G.1 66 2).toInt := (congrArg Int32.toInt (show G_21.1 66 2 = (G.1 66 2) from ((hq_22.i9 66 2 rfl rfl).trans (hq_5.i9 66 2 rfl rfl))))
    have b_49 : (-1) ≤ (G.1 66 3).toInt ∧ (G.1 66 3).toInt ≤ 1600 := bd_66_3 hB_G
    have g_50 : (G_21.1 66 3).toInt = (G.1 66 3).toInt := (congrArg Int32.toInt (show G_21.1 66 3 = (G.1 66 3) from ((hq_22.i9 66 3 rfl rfl).trans (hq_5.i9 66 3 rfl rfl))))
    have b_51 : 0 ≤ (G_21.1 66 78).toInt ∧ (G_21.1 66 78).toInt ≤ 40 := bd_66_78 hB_G_21
    have b_52 : 0 ≤ (G_21.1 66 79).toInt ∧ (G_21.1 66 79).toInt ≤ 40 := bd_66_79 hB_G_21
    have b_53 : 0 ≤ (G.1 66 86).toInt ∧ (G.1 66 86).toInt ≤ 100000 := bd_66_86 hB_G
    have g_54 : (G_21.1 66 86).toInt = (G.1 66 86).toInt := (congrArg Int32.toInt (show G_21.1 66 86 = (G.1 66 86) from ((hq_22.i9 66 86 rfl rfl).trans (hq_5.i9 66 86 rfl rfl))))
    have g_55 : (G_21.1 96 0).toInt = (G.1 96 0).toInt := (congrArg Int32.toInt (show G_21.1 96 0 = (G.1 96 0) from ((hq_22.i9 96 0 rfl rfl).trans ((hq_5.i9 96 0 rfl rfl).trans (rfl)))))
    have g_56 : (G_21.1 96 1).toInt = (G.1 96 1).toInt := (congrArg Int32.toInt (show G_21.1 96 1 = (G.1 96 1) from ((hq_22.i9 96 1 rfl rfl).trans ((hq_5.i9 96 1 rfl rfl).trans (rfl)))))
    have g_57 : (G_21.1 96 2).toInt = (G.1 96 2).toInt := (congrArg Int32.toInt (show G_21.1 96 2 = (G.1 96 2) from ((hq_22.i9 96 2 rfl rfl).trans ((hq_5.i9 96 2 rfl rfl).trans (rfl)))))
    exact K G_21 _ _ _ (Or.inr ⟨((((hq_22.r9 0 0 rfl rfl).trans (hq_5.r9 0 0 rfl rfl))).trans (hv_0_0)), ((((hq_22.r9 0 1 rfl rfl).trans (hq_5.r9 0 1 rfl rfl))).trans (hv_0_1)), ((((hq_22.r9 6 4 rfl rfl).trans (hq_5.r9 6 4 rfl rfl))).trans (hv_6_4)), by omega, by omega, by omega, by omega, by omega, by omega, by omega, by omega, by omega, by omega, by omega, by omega, by omega⟩) hB_G_21 hW hS (lv_sub hl [0, 1, 2, 3] rfl)

set_option maxHeartbeats 4000000 in
set_option maxRecDepth 100000 in
theorem law_24 {p : Program} {l : Launch} {e : Env} {s : State} {m : MethodId} {below : List Frame} {meth : Method} {c : Code} {D : va_G} {k : KT} {A : Nat → Prop} {a : Nat → Nat} {z : SK} {b L : Nat} {xs : Nat → Int32} (hL : L ≤ 3072) (C0 : lw_At p s m meth c b L xs) (hK : cK D k s) (hZ : Sx A z s) (hbA : ¬ A b) {G : GS} {i0 : Int32} (hi0 : 0 ≤ i0.toInt) (hi6 : i0.toInt + 6 ≤ L) (hI : LI G) (hB_G : Bd G) {H : Heap} {locs : List Loc} {ls : Array Slot} (hW : Wd D k A a G H) (hS : va_S A s.heap H locs) (hl : lv_has ls 4 [(0, .ref b), (1, .ref (a 0)), (2, .ref (a 66)), (3, .int i0)]) (K : ∀ (G1 : GS) (H1 : Heap) (locs1 : List Loc) (ls1 : Array Slot), LI G1 → Bd G1 → Wd D k A a G1 H1 → va_S A s.heap H1 locs1 → lv_has ls1 4 [(0, .ref b), (1, .ref (a 0)), (2, .ref (a 66)), (3, .int i0)] → W p l e room_1 s m #[Value.ref b] below meth c H1 locs1 119 46443 (lw_Z below #[Value.ref b] s) (F0 m 1641 ls1 [])) : W p l e room_1 s m #[Value.ref b] below meth c H locs 119 46443 (lw_Z below #[Value.ref b] s) (F0 m 1296 ls []) := by
  obtain ⟨hx, hb, hr, hml, hown, hts, hX, hbl, hlocks, hgv⟩ := id C0
  have hown : s.vm.findClass RL = some m.cls := hown
  have hgd : ∀ w ∈ gd, w ∈ lw_tbl := fun w h => (List.mem_filter.mp h).1
  have hg : ∀ w ∈ gd, w.before #[Value.ref b] s = true := fun w h => hts w (hgd w h)
  rcases hI with ⟨hv_0_0, hv_0_1, hv_6_4, hj0, hj1, hj2, hj3, hj4, hj5, hj6, hj7, hj8, hj9, hj10, hj11, hj12⟩ | ⟨hv_0_0, hv_0_1, hv_6_4, hj0, hj1, hj2, hj3, hj4, hj5, hj6, hj7, hj8, hj9, hj10, hj11, hj12⟩
  · skip
    obtain ⟨p0, hp0⟩ : ∃ y, y = xs (i0 + 1).toNatClampNeg := ⟨_, rfl⟩
    obtain ⟨p1, hp1⟩ : ∃ y, y = xs (i0 + 2).toNatClampNeg := ⟨_, rfl⟩
    obtain ⟨p2, hp2⟩ : ∃ y, y = xs (i0 + 3).toNatClampNeg := ⟨_, rfl⟩
    obtain ⟨p3, hp3⟩ : ∃ y, y = xs (i0 + 4).toNatClampNeg := ⟨_, rfl⟩
    obtain ⟨p4, hp4⟩ : ∃ y, y = xs (i0 + 5).toNatClampNeg := ⟨_, rfl⟩
    refine lv_aload_n hx hb dL_law_1296 rfl (lv_at hl 1 rfl) ?_
    refine ld_1 hL hi0 hi6 hx hb hX hbl hbA hS hl dL_law_1297 dL_law_1298 dL_law_1299 dL_law_1300 dL_law_1301 hp0 ?_
    have b_1 : 0 ≤ (G.1 30 4).toInt ∧ (G.1 30 4).toInt ≤ 40 := bd_30_4 hB_G
    have b_2 : 0 ≤ (G.1 30 5).toInt ∧ (G.1 30 5).toInt ≤ 40 := bd_30_5 hB_G
    refine S_calli (va_runV (As := [.int p0]) (rest := []) ⟨hx, hb, hml, hown, hts⟩ (k_Wforce_1 l D k A a z G p0 hv_0_0 hv_0_1 hv_6_4 (by omega)) (cwV 1 hts (gd_V hgd m1202 m1203 m1204 m117 m1205) rfl rfl rfl hd_X11_force ⟨Nat.le_of_ble_eq_true rfl, Nat.le_of_ble_eq_true rfl⟩) (pre_W hW hB_G hK hZ hS kd_0 rfl) rfl rfl hl.1 rfl (lv_room (Nat.le_of_ble_eq_true rfl)) dL_law_1302 ⟨Nat.le_of_ble_eq_true rfl, Nat.le_of_ble_eq_true rfl⟩) hS (fun r_3 G_4 H locs hpo hW hS => ?_)
    have hX_7 : P_Wforce_1 p0 G r_3 G_4 := hpo
    obtain ⟨hB_G_4, hq_5, hp_6, -⟩ := hpo
    refine lv_pop hx hb dL_law_1305 rfl ?_
    refine lv_aload_n hx hb dL_law_1306 rfl (lv_at hl 2 rfl) ?_
    refine ld_1 hL hi0 hi6 hx hb hX hbl hbA hS hl dL_law_1307 dL_law_1308 dL_law_1309 dL_law_1310 dL_law_1311 hp0 ?_
    have b_8 : 0 ≤ (G.1 66 78).toInt ∧ (G.1 66 78).toInt ≤ 40 := bd_66_78 hB_G
    have g_9 : (G_4.1 66 78).toInt = (G.1 66 78).toInt := (congrArg Int32.toInt (show G_4.1 66 78 = (G.1 66 78) from (hq_5.i9 66 78 rfl rfl)))
    have b_10 : 0 ≤ (G.1 66 79).toInt ∧ (G.1 66 79).toInt ≤ 40 := bd_66_79 hB_G
    have g_11 : (G_4.1 66 79).toInt = (G.1 66 79).toInt := (congrArg Int32.toInt (show G_4.1 66 79 = (G.1 66 79) from (hq_5.i9 66 79 rfl rfl)))
    refine S_calli (va_runV (As := [.int p0]) (rest := []) ⟨hx, hb, hml, hown, hts⟩ (n_force l D k A a z G_4 p0 (by omega)) (cwV 1 hts (gd_V hgd m2003 m2004 m2005 m131 m2006) rfl rfl rfl hd_X12_force ⟨Nat.le_of_ble_eq_true rfl, Nat.le_of_ble_eq_true rfl⟩) (pre_W hW hB_G_4 hK hZ hS kd_66 rfl) rfl rfl hl.1 rfl (lv_room (Nat.le_of_ble_eq_true rfl)) dL_law_1312 ⟨Nat.le_of_ble_eq_true rfl, Nat.le_of_ble_eq_true rfl⟩) hS (fun r_12 G_13 H locs hpo hW hS => ?_)
    have hX_16 : Q_force p0 G_4 r_12 G_13 := hpo
    obtain ⟨hB_G_13, hq_14, hp_15, -⟩ := hpo
    obtain ⟨u_17, u_18⟩ := L_force_1 hX_7 hX_16 rfl (by omega)
    refine lv_pop hx hb dL_law_1315 rfl ?_
    refine lv_goto (tgt := 1641) hx hb dL_law_1316 rfl ?_
    have fr_19 : Fr [110, 111, 58, 59] [(30, 4), (30, 5), (66, 78), (66, 79)] G G_13 := (Fr.call9 (rs := [110, 111, 58, 59]) (fs := [(30, 4), (30, 5), (66, 78), (66, 79)]) (Fr.call9 (rs := [110, 111, 58, 59]) (fs := [(30, 4), (30, 5), (66, 78), (66, 79)]) Fr.rf hq_5 rfl rfl) hq_14 rfl rfl)
    have g_20 : gO G_13 = gO G := gO_fr fr_19 (gr_q rfl) (gf_q rfl)
    have g_21 : gP G_13 = gP G := gP_fr fr_19 (gr_q rfl) (gf_q rfl)
    have g_22 : gS G_13 = gS G := gS_fr fr_19 (gr_q rfl) (gf_q rfl)
    have g_23 : gTE G_13 = gTE G := gTE_fr fr_19 (gr_q rfl) (gf_q rfl)
    have g_24 : gW G_13 = gW G := gW_fr fr_19 (gr_q rfl) (gf_q rfl)
    have b_25 : 0 ≤ (G.1 0 11).toInt ∧ (G.1 0 11).toInt ≤ 1600 := bd_0_11 hB_G
    have g_26 : (G_13.1 0 11).toInt = (G.1 0 11).toInt := (congrArg Int32.toInt (show G_13.1 0 11 = (G.1 0 11) from ((hq_14.i9 0 11 rfl rfl).trans (hq_5.i9 0 11 rfl rfl))))
    have b_27 : 0 ≤ (G.1 3 7).toInt ∧ (G.1 3 7).toInt ≤ 4 := bd_3_7 hB_G
    have g_28 : (G_13.1 3 7).toInt = (G.1 3 7).toInt := (congrArg Int32.toInt (show G_13.1 3 7 = (G.1 3 7) from ((hq_14.i9 3 7 rfl rfl).trans (hq_5.i9 3 7 rfl rfl))))
    have b_29 : (-1) ≤ (G.1 3 8).toInt ∧ (G.1 3 8).toInt ≤ 1600 := bd_3_8 hB_G
    have g_30 : (G_13.1 3 8).toInt = (G.1 3 8).toInt := (congrArg Int32.toInt (show G_13.1 3 8 = (G.1 3 8) from ((hq_14.i9 3 8 rfl rfl).trans (hq_5.i9 3 8 rfl rfl))))
    have b_31 : 0 ≤ (G_4.1 30 4).toInt ∧ (G_4.1 30 4).toInt ≤ 40 := bd_30_4 hB_G_4
    have g_32 : (G_13.1 30 4).toInt = (G_4.1 30 4).toInt := (congrArg Int32.toInt (show G_13.1 30 4 = (G_4.1 30 4) from (hq_14.i9 30 4 rfl rfl)))
    have b_33 : 0 ≤ (G_4.1 30 5).toInt ∧ (G_4.1 30 5).toInt ≤ 40 := bd_30_5 hB_G_4
    have g_34 : (G_13.1 30 5).toInt = (G_4.1 30 5).toInt := (congrArg Int32.toInt (show G_13.1 30 5 = (G_4.1 30 5) from (hq_14.i9 30 5 rfl rfl)))
    have b_35 : 0 ≤ (G.1 31 6).toInt ∧ (G.1 31 6).toInt ≤ 100000 := bd_31_6 hB_G
    have g_36 : (G_13.1 31 6).toInt = (G.1 31 6).toInt := (congrArg Int32.toInt (show G_13.1 31 6 = (G.1 31 6) from ((hq_14.i9 31 6 rfl rfl).trans (hq_5.i9 31 6 rfl rfl))))
    have b_37 : 0 ≤ (G.1 66 1).toInt ∧ (G.1 66 1).toInt ≤ 1600 := bd_66_1 hB_G
    have g_38 : (G_13.1 66 1).toInt = (G.1 66 1).toInt := (congrArg Int32.toInt (show G_13.1 66 1 = (G.1 66 1) from ((hq_14.i9 66 1 rfl rfl).trans (hq_5.i9 66 1 rfl rfl))))
    have b_39 : 0 ≤ (G.1 66 2).toInt ∧ (G.1 66 2).toInt ≤ 4 := bd_66_2 hB_G
    have g_40 : (G_13.1 66 2).toInt = (G.1 66 2).toInt := (congrArg Int32.toInt (show G_13.1 66 2 = (G.1 66 2) from ((hq_14.i9 66 2 rfl rfl).trans (hq_5.i9 66 2 rfl rfl))))
    have b_41 : (-1) ≤ (G.1 66 3).toInt ∧ (G.1 66 3).toInt ≤ 1600 := bd_66_3 hB_G
    have g_42 : (G_13.1 66 3).toInt = (G.1 66 3).toInt := (congrArg Int32.toInt (show G_13.1 66 3 = (G.1 66 3) from ((hq_14.i9 66 3 rfl rfl).trans (hq_5.i9 66 3 rfl rfl))))
    have b_43 : 0 ≤ (G_13.1 66 78).toInt ∧ (G_13.1 66 78).toInt ≤ 40 := bd_66_78 hB_G_13
    have b_44 : 0 ≤ (G_13.1 66 79).toInt ∧ (G_13.1 66 79).toInt ≤ 40 := bd_66_79 hB_G_13
    have b_45 : 0 ≤ (G.1 66 86).toInt ∧ (G.1 66 86).toInt ≤ 100000 := bd_66_86 hB_G
    have g_46 : (G_13.1 66 86).toInt = (G.1 66 86).toInt := (congrArg Int32.toInt (show G_13.1 66 86 = (G.1 66 86) from ((hq_14.i9 66 86 rfl rfl).trans (hq_5.i9 66 86 rfl rfl))))
    have b_47 : 0 ≤ (G.1 96 0).toInt ∧ (G.1 96 0).toInt ≤ 9 := bd_96_0 hB_G
    have g_48 : (G_13.1 96 0).toInt = (G.1 96 0).toInt := (congrArg Int32.toInt (show G_13.1 96 0 = (G.1 96 0) from ((hq_14.i9 96 0 rfl rfl).trans (hq_5.i9 96 0 rfl rfl))))
    have b_49 : 0 ≤ (G.1 96 1).toInt ∧ (G.1 96 1).toInt ≤ 9 := bd_96_1 hB_G
    have g_50 : (G_13.1 96 1).toInt = (G.1 96 1).toInt := (congrArg Int32.toInt (show G_13.1 96 1 = (G.1 96 1) from ((hq_14.i9 96 1 rfl rfl).trans (hq_5.i9 96 1 rfl rfl))))
    have b_51 : 0 ≤ (G.1 96 2).toInt ∧ (G.1 96 2).toInt ≤ 9 := bd_96_2 hB_G
    have g_52 : (G_13.1 96 2).toInt = (G.1 96 2).toInt := (congrArg Int32.toInt (show G_13.1 96 2 = (G.1 96 2) from ((hq_14.i9 96 2 rfl rfl).trans (hq_5.i9 96 2 rfl rfl))))
    exact K G_13 _ _ _ (Or.inl ⟨((((hq_14.r9 0 0 rfl rfl).trans (hq_5.r9 0 0 rfl rfl))).trans (hv_0_0)), ((((hq_14.r9 0 1 rfl rfl).trans (hq_5.r9 0 1 rfl rfl))).trans (hv_0_1)), ((((hq_14.r9 6 4 rfl rfl).trans (hq_5.r9 6 4 rfl rfl))).trans (hv_6_4)), by omega, by omega, by omega, by omega, by omega, by omega, by omega, by omega, by omega, by omega, by omega, by omega, by omega⟩) hB_G_13 hW hS (lv_sub hl [0, 1, 2, 3] rfl)
  · skip
    obtain ⟨p0, hp0⟩ : ∃ y, y = xs (i0 + 1).toNatClampNeg := ⟨_, rfl⟩
    obtain ⟨p1, hp1⟩ : ∃ y, y = xs (i0 + 2).toNatClampNeg := ⟨_, rfl⟩
    obtain ⟨p2, hp2⟩ : ∃ y, y = xs (i0 + 3).toNatClampNeg := ⟨_, rfl⟩
    obtain ⟨p3, hp3⟩ : ∃ y, y = xs (i0 + 4).toNatClampNeg := ⟨_, rfl⟩
    obtain ⟨p4, hp4⟩ : ∃ y, y = xs (i0 + 5).toNatClampNeg := ⟨_, rfl⟩
    refine lv_aload_n hx hb dL_law_1296 rfl (lv_at hl 1 rfl) ?_
    refine ld_1 hL hi0 hi6 hx hb hX hbl hbA hS hl dL_law_1297 dL_law_1298 dL_law_1299 dL_law_1300 dL_law_1301 hp0 ?_
    have b_1 : 0 ≤ (G.1 30 4).toInt ∧ (G.1 30 4).toInt ≤ 40 := bd_30_4 hB_G
    have b_2 : 0 ≤ (G.1 30 5).toInt ∧ (G.1 30 5).toInt ≤ 40 := bd_30_5 hB_G
    refine S_calli (va_runV (As := [.int p0]) (rest := []) ⟨hx, hb, hml, hown, hts⟩ (k_Wforce_2 l D k A a z G p0 hv_0_0 hv_0_1 hv_6_4 (by omega)) (cwV 1 hts (gd_V hgd m1202 m1203 m1204 m117 m1205) rfl rfl rfl hd_X11_force ⟨Nat.le_of_ble_eq_true rfl, Nat.le_of_ble_eq_true rfl⟩) (pre_W hW hB_G hK hZ hS kd_0 rfl) rfl rfl hl.1 rfl (lv_room (Nat.le_of_ble_eq_true rfl)) dL_law_1302 ⟨Nat.le_of_ble_eq_true rfl, Nat.le_of_ble_eq_true rfl⟩) hS (fun r_3 G_4 H locs hpo hW hS => ?_)
    have hX_7 : P_Wforce_2 p0 G r_3 G_4 := hpo
    obtain ⟨hB_G_4, hq_5, hp_6, -⟩ := hpo
    refine lv_pop hx hb dL_law_1305 rfl ?_
    refine lv_aload_n hx hb dL_law_1306 rfl (lv_at hl 2 rfl) ?_
    refine ld_1 hL hi0 hi6 hx hb hX hbl hbA hS hl dL_law_1307 dL_law_1308 dL_law_1309 dL_law_1310 dL_law_1311 hp0 ?_
    have b_8 : 0 ≤ (G.1 66 78).toInt ∧ (G.1 66 78).toInt ≤ 40 := bd_66_78 hB_G
    have g_9 : (G_4.1 66 78).toInt = (G.1 66 78).toInt := (congrArg Int32.toInt (show G_4.1 66 78 = (G.1 66 78) from (hq_5.i9 66 78 rfl rfl)))
    have b_10 : 0 ≤ (G.1 66 79).toInt ∧ (G.1 66 79).toInt ≤ 40 := bd_66_79 hB_G
    have g_11 : (G_4.1 66 79).toInt = (G.1 66 79).toInt := (congrArg Int32.toInt (show G_4.1 66 79 = (G.1 66 79) from (hq_5.i9 66 79 rfl rfl)))
    refine S_calli (va_runV (As := [.int p0]) (rest := []) ⟨hx, hb, hml, hown, hts⟩ (n_force l D k A a z G_4 p0 (by omega)) (cwV 1 hts (gd_V hgd m2003 m2004 m2005 m131 m2006) rfl rfl rfl hd_X12_force ⟨Nat.le_of_ble_eq_true rfl, Nat.le_of_ble_eq_true rfl⟩) (pre_W hW hB_G_4 hK hZ hS kd_66 rfl) rfl rfl hl.1 rfl (lv_room (Nat.le_of_ble_eq_true rfl)) dL_law_1312 ⟨Nat.le_of_ble_eq_true rfl, Nat.le_of_ble_eq_true rfl⟩) hS (fun r_12 G_13 H locs hpo hW hS => ?_)
    have hX_16 : Q_force p0 G_4 r_12 G_13 := hpo
    obtain ⟨hB_G_13, hq_14, hp_15, -⟩ := hpo
    obtain ⟨u_17, u_18⟩ := L_force_2 hX_7 hX_16 rfl (by omega)
    refine lv_pop hx hb dL_law_1315 rfl ?_
    refine lv_goto (tgt := 1641) hx hb dL_law_1316 rfl ?_
    have fr_19 : Fr [110, 111, 58, 59] [(30, 4), (30, 5), (66, 78), (66, 79)] G G_13 := (Fr.call9 (rs := [110, 111, 58, 59]) (fs := [(30, 4), (30, 5), (66, 78), (66, 79)]) (Fr.call9 (rs := [110, 111, 58, 59]) (fs := [(30, 4), (30, 5), (66, 78), (66, 79)]) Fr.rf hq_5 rfl rfl) hq_14 rfl rfl)
    have g_20 : gO G_13 = gO G := gO_fr fr_19 (gr_q rfl) (gf_q rfl)
    have g_21 : gP G_13 = gP G := gP_fr fr_19 (gr_q rfl) (gf_q rfl)
    have g_22 : gS G_13 = gS G := gS_fr fr_19 (gr_q rfl) (gf_q rfl)
    have g_23 : gTE G_13 = gTE G := gTE_fr fr_19 (gr_q rfl) (gf_q rfl)
    have g_24 : gW G_13 = gW G := gW_fr fr_19 (gr_q rfl) (gf_q rfl)
    have b_25 : 0 ≤ (G.1 0 11).toInt ∧ (G.1 0 11).toInt ≤ 1600 := bd_0_11 hB_G
    have g_26 : (G_13.1 0 11).toInt = (G.1 0 11).toInt := (congrArg Int32.toInt (show G_13.1 0 11 = (G.1 0 11) from ((hq_14.i9 0 11 rfl rfl).trans (hq_5.i9 0 11 rfl rfl))))
    have b_27 : 0 ≤ (G.1 3 7).toInt ∧ (G.1 3 7).toInt ≤ 4 := bd_3_7 hB_G
    have g_28 : (G_13.1 3 7).toInt = (G.1 3 7).toInt := (congrArg Int32.toInt (show G_13.1 3 7 = (G.1 3 7) from ((hq_14.i9 3 7 rfl rfl).trans (hq_5.i9 3 7 rfl rfl))))
    have b_29 : (-1) ≤ (G.1 3 8).toInt ∧ (G.1 3 8).toInt ≤ 1600 := bd_3_8 hB_G
    have g_30 : (G_13.1 3 8).toInt = (G.1 3 8).toInt := (congrArg Int32.toInt (show G_13.1 3 8 = (G.1 3 8) from ((hq_14.i9 3 8 rfl rfl).trans (hq_5.i9 3 8 rfl rfl))))
    have b_31 : 0 ≤ (G_4.1 30 4).toInt ∧ (G_4.1 30 4).toInt ≤ 40 := bd_30_4 hB_G_4
    have g_32 : (G_13.1 30 4).toInt = (G_4.1 30 4).toInt := (congrArg Int32.toInt (show G_13.1 30 4 = (G_4.1 30 4) from (hq_14.i9 30 4 rfl rfl)))
    have b_33 : 0 ≤ (G_4.1 30 5).toInt ∧ (G_4.1 30 5).toInt ≤ 40 := bd_30_5 hB_G_4
    have g_34 : (G_13.1 30 5).toInt = (G_4.1 30 5).toInt := (congrArg Int32.toInt (show G_13.1 30 5 = (G_4.1 30 5) from (hq_14.i9 30 5 rfl rfl)))
    have b_35 : 0 ≤ (G.1 31 6).toInt ∧ (G.1 31 6).toInt ≤ 100000 := bd_31_6 hB_G
    have g_36 : (G_13.1 31 6).toInt = (G.1 31 6).toInt := (congrArg Int32.toInt (show G_13.1 31 6 = (G.1 31 6) from ((hq_14.i9 31 6 rfl rfl).trans (hq_5.i9 31 6 rfl rfl))))
    have b_37 : 0 ≤ (G.1 66 1).toInt ∧ (G.1 66 1).toInt ≤ 1600 := bd_66_1 hB_G
    have g_38 : (G_13.1 66 1).toInt = (G.1 66 1).toInt := (congrArg Int32.toInt (show G_13.1 66 1 = (G.1 66 1) from ((hq_14.i9 66 1 rfl rfl).trans (hq_5.i9 66 1 rfl rfl))))
    have b_39 : 0 ≤ (G.1 66 2).toInt ∧ (G.1 66 2).toInt ≤ 4 := bd_66_2 hB_G
    have g_40 : (G_13.1 66 2).toInt = (G.1 66 2).toInt := (congrArg Int32.toInt (show G_13.1 66 2 = (G.1 66 2) from ((hq_14.i9 66 2 rfl rfl).trans (hq_5.i9 66 2 rfl rfl))))
    have b_41 : (-1) ≤ (G.1 66 3).toInt ∧ (G.1 66 3).toInt ≤ 1600 := bd_66_3 hB_G
    have g_42 : (G_13.1 66 3).toInt = (G.1 66 3).toInt := (congrArg Int32.toInt (show G_13.1 66 3 = (G.1 66 3) from ((hq_14.i9 66 3 rfl rfl).trans (hq_5.i9 66 3 rfl rfl))))
    have b_43 : 0 ≤ (G_13.1 66 78).toInt ∧ (G_13.1 66 78).toInt ≤ 40 := bd_66_78 hB_G_13
    have b_44 : 0 ≤ (G_13.1 66 79).toInt ∧ (G_13.1 66 79).toInt ≤ 40 := bd_66_79 hB_G_13
    have b_45 : 0 ≤ (G.1 66 86).toInt ∧ (G.1 66 86).toInt ≤ 100000 := bd_66_86 hB_G
    have g_46 : (G_13.1 66 86).toInt = (G.1 66 86).toInt := (congrArg Int32.toInt (show G_13.1 66 86 = (G.1 66 86) from ((hq_14.i9 66 86 rfl rfl).trans (hq_5.i9 66 86 rfl rfl))))
    have b_47 : 0 ≤ (G.1 96 0).toInt ∧ (G.1 96 0).toInt ≤ 9 := bd_96_0 hB_G
    have g_48 : (G_13.1 96 0).toInt = (G.1 96 0).toInt := (congrArg Int32.toInt (show G_13.1 96 0 = (G.1 96 0) from ((hq_14.i9 96 0 rfl rfl).trans (hq_5.i9 96 0 rfl rfl))))
    have b_49 : 0 ≤ (G.1 96 1).toInt ∧ (G.1 96 1).toInt ≤ 9 := bd_96_1 hB_G
    have g_50 : (G_13.1 96 1).toInt = (G.1 96 1).toInt := (congrArg Int32.toInt (show G_13.1 96 1 = (G.1 96 1) from ((hq_14.i9 96 1 rfl rfl).trans (hq_5.i9 96 1 rfl rfl))))
    have b_51 : 0 ≤ (G.1 96 2).toInt ∧ (G.1 96 2).toInt ≤ 9 := bd_96_2 hB_G
    have g_52 : (G_13.1 96 2).toInt = (G.1 96 2).toInt := (congrArg Int32.toInt (show G_13.1 96 2 = (G.1 96 2) from ((hq_14.i9 96 2 rfl rfl).trans (hq_5.i9 96 2 rfl rfl))))
    exact K G_13 _ _ _ (Or.inr ⟨((((hq_14.r9 0 0 rfl rfl).trans (hq_5.r9 0 0 rfl rfl))).trans (hv_0_0)), ((((hq_14.r9 0 1 rfl rfl).trans (hq_5.r9 0 1 rfl rfl))).trans (hv_0_1)), ((((hq_14.r9 6 4 rfl rfl).trans (hq_5.r9 6 4 rfl rfl))).trans (hv_6_4)), by omega, by omega, by omega, by omega, by omega, by omega, by omega, by omega, by omega, by omega, by omega, by omega, by omega⟩) hB_G_13 hW hS (lv_sub hl [0, 1, 2, 3] rfl)

set_option maxHeartbeats 4000000 in
set_option maxRecDepth 100000 in
theorem law_25 {p : Program} {l : Launch} {e : Env} {s : State} {m : MethodId} {below : List Frame} {meth : Method} {c : Code} {D : va_G} {k : KT} {A : Nat → Prop} {a : Nat → Nat} {z : SK} {b L : Nat} {xs : Nat → Int32} (hL : L ≤ 3072) (C0 : lw_At p s m meth c b L xs) (hK : cK D k s) (hZ : Sx A z s) (hbA : ¬ A b) {G : GS} {i0 : Int32} (hi0 : 0 ≤ i0.toInt) (hi6 : i0.toInt + 6 ≤ L) (hI : LI G) (hB_G : Bd G) {H : Heap} {locs : List Loc} {ls : Array Slot} (hW : Wd D k A a G H) (hS : va_S A s.heap H locs) (hl : lv_has ls 4 [(0, .ref b), (1, .ref (a 0)), (2, .ref (a 66)), (3, .int i0)]) (K : ∀ (G1 : GS) (H1 : Heap) (locs1 : List Loc) (ls1 : Array Slot), LI G1 → Bd G1 → Wd D k A a G1 H1 → va_S A s.heap H1 locs1 → lv_has ls1 4 [(0, .ref b), (1, .ref (a 0)), (2, .ref (a 66)), (3, .int i0)] → W p l e room_1 s m #[Value.ref b] below meth c H1 locs1 119 46443 (lw_Z below #[Value.ref b] s) (F0 m 1641 ls1 [])) : W p l e room_1 s m #[Value.ref b] below meth c H locs 119 46443 (lw_Z below #[Value.ref b] s) (F0 m 1319 ls []) := by
  obtain ⟨hx, hb, hr, hml, hown, hts, hX, hbl, hlocks, hgv⟩ := id C0
  have hown : s.vm.findClass RL = some m.cls := hown
  have hgd : ∀ w ∈ gd, w ∈ lw_tbl := fun w h => (List.mem_filter.mp h).1
  have hg : ∀ w ∈ gd, w.before #[Value.ref b] s = true := fun w h => hts w (hgd w h)
  rcases hI with ⟨hv_0_0, hv_0_1, hv_6_4, hj0, hj1, hj2, hj3, hj4, hj5, hj6, hj7, hj8, hj9, hj10, hj11, hj12⟩ | ⟨hv_0_0, hv_0_1, hv_6_4, hj0, hj1, hj2, hj3, hj4, hj5, hj6, hj7, hj8, hj9, hj10, hj11, hj12⟩
  · skip
    obtain ⟨p0, hp0⟩ : ∃ y, y = xs (i0 + 1).toNatClampNeg := ⟨_, rfl⟩
    obtain ⟨p1, hp1⟩ : ∃ y, y = xs (i0 + 2).toNatClampNeg := ⟨_, rfl⟩
    obtain ⟨p2, hp2⟩ : ∃ y, y = xs (i0 + 3).toNatClampNeg := ⟨_, rfl⟩
    obtain ⟨p3, hp3⟩ : ∃ y, y = xs (i0 + 4).toNatClampNeg := ⟨_, rfl⟩
    obtain ⟨p4, hp4⟩ : ∃ y, y = xs (i0 + 5).toNatClampNeg := ⟨_, rfl⟩
    refine lv_aload_n hx hb dL_law_1319 rfl (lv_at hl 1 rfl) ?_
    refine S_calli (va_runV (As := []) (rest := []) ⟨hx, hb, hml, hown, hts⟩ (k_Wrain l D k A a z G  ) (cwV 0 hts (gd_V hgd m1210 m1211 m1212 m117 m1213) rfl rfl rfl hd_X11_rain ⟨Nat.le_of_ble_eq_true rfl, Nat.le_of_ble_eq_true rfl⟩) (pre_W hW hB_G hK hZ hS kd_0 rfl) rfl rfl hl.1 rfl (lv_room (Nat.le_of_ble_eq_true rfl)) dL_law_1320 ⟨Nat.le_of_ble_eq_true rfl, Nat.le_of_ble_eq_true rfl⟩) hS (fun r_1 G_2 H locs hpo hW hS => ?_)
    have hX_5 : P_Wrain G r_1 G_2 := hpo
    obtain ⟨hB_G_2, hq_3, f_6, hp_4, -⟩ := hpo
    refine lv_pop hx hb dL_law_1323 rfl ?_
    refine lv_aload_n hx hb dL_law_1324 rfl (lv_at hl 2 rfl) ?_
    have b_7 : 0 ≤ (G.1 66 78).toInt ∧ (G.1 66 78).toInt ≤ 40 := bd_66_78 hB_G
    have g_8 : (G_2.1 66 78).toInt = (G.1 66 78).toInt := (congrArg Int32.toInt (show G_2.1 66 78 = (G.1 66 78) from (hq_3.i9 66 78 rfl rfl)))
    have b_9 : 0 ≤ (G.1 66 79).toInt ∧ (G.1 66 79).toInt ≤ 40 := bd_66_79 hB_G
    have g_10 : (G_2.1 66 79).toInt = (G.1 66 79).toInt := (congrArg Int32.toInt (show G_2.1 66 79 = (G.1 66 79) from (hq_3.i9 66 79 rfl rfl)))
    refine S_calli (va_runV (As := []) (rest := []) ⟨hx, hb, hml, hown, hts⟩ (n_rain l D k A a z G_2  (by omega)) (cwV 0 hts (gd_V hgd m2011 m2012 m2013 m131 m2014) rfl rfl rfl hd_X12_rain ⟨Nat.le_of_ble_eq_true rfl, Nat.le_of_ble_eq_true rfl⟩) (pre_W hW hB_G_2 hK hZ hS kd_66 rfl) rfl rfl hl.1 rfl (lv_room (Nat.le_of_ble_eq_true rfl)) dL_law_1325 ⟨Nat.le_of_ble_eq_true rfl, Nat.le_of_ble_eq_true rfl⟩) hS (fun r_11 G_12 H locs hpo hW hS => ?_)
    have hX_15 : Q_rain G_2 r_11 G_12 := hpo
    obtain ⟨hB_G_12, hq_13, f_16, hp_14, -⟩ := hpo
    obtain ⟨u_17, u_18⟩ := L_rain_1 hX_5 hX_15  (by omega)
    refine lv_pop hx hb dL_law_1328 rfl ?_
    refine lv_goto (tgt := 1641) hx hb dL_law_1329 rfl ?_
    have fr_19 : Fr [110, 111, 58, 59] [(30, 4), (30, 5), (66, 78), (66, 79)] G G_12 := (Fr.call9 (rs := [110, 111, 58, 59]) (fs := [(30, 4), (30, 5), (66, 78), (66, 79)]) (Fr.call9 (rs := [110, 111, 58, 59]) (fs := [(30, 4), (30, 5), (66, 78), (66, 79)]) Fr.rf hq_3 rfl rfl) hq_13 rfl rfl)
    have g_20 : gO G_12 = gO G := gO_fr fr_19 (gr_q rfl) (gf_q rfl)
    have g_21 : gP G_12 = gP G := gP_fr fr_19 (gr_q rfl) (gf_q rfl)
    have g_22 : gS G_12 = gS G := gS_fr fr_19 (gr_q rfl) (gf_q rfl)
    have g_23 : gTE G_12 = gTE G := gTE_fr fr_19 (gr_q rfl) (gf_q rfl)
    have g_24 : gW G_12 = gW G := gW_fr fr_19 (gr_q rfl) (gf_q rfl)
    have b_25 : 0 ≤ (G.1 0 11).toInt ∧ (G.1 0 11).toInt ≤ 1600 := bd_0_11 hB_G
    have g_26 : (G_12.1 0 11).toInt = (G.1 0 11).toInt := (congrArg Int32.toInt (show G_12.1 0 11 = (G.1 0 11) from ((hq_13.i9 0 11 rfl rfl).trans (hq_3.i9 0 11 rfl rfl))))
    have b_27 : 0 ≤ (G.1 3 7).toInt ∧ (G.1 3 7).toInt ≤ 4 := bd_3_7 hB_G
    have g_28 : (G_12.1 3 7).toInt = (G.1 3 7).toInt := (congrArg Int32.toInt (show G_12.1 3 7 = (G.1 3 7) from ((hq_13.i9 3 7 rfl rfl).trans (hq_3.i9 3 7 rfl rfl))))
    have b_29 : (-1) ≤ (G.1 3 8).toInt ∧ (G.1 3 8).toInt ≤ 1600 := bd_3_8 hB_G
    have g_30 : (G_12.1 3 8).toInt = (G.1 3 8).toInt := (congrArg Int32.toInt (show G_12.1 3 8 = (G.1 3 8) from ((hq_13.i9 3 8 rfl rfl).trans (hq_3.i9 3 8 rfl rfl))))
    have b_31 : 0 ≤ (G_2.1 30 4).toInt ∧ (G_2.1 30 4).toInt ≤ 40 := bd_30_4 hB_G_2
    have g_32 : (G_12.1 30 4).toInt = (G_2.1 30 4).toInt := (congrArg Int32.toInt (show G_12.1 30 4 = (G_2.1 30 4) from (hq_13.i9 30 4 rfl rfl)))
    have b_33 : 0 ≤ (G_2.1 30 5).toInt ∧ (G_2.1 30 5).toInt ≤ 40 := bd_30_5 hB_G_2
    have g_34 : (G_12.1 30 5).toInt = (G_2.1 30 5).toInt := (congrArg Int32.toInt (show G_12.1 30 5 = (G_2.1 30 5) from (hq_13.i9 30 5 rfl rfl)))
    have b_35 : 0 ≤ (G.1 31 6).toInt ∧ (G.1 31 6).toInt ≤ 100000 := bd_31_6 hB_G
    have g_36 : (G_12.1 31 6).toInt = (G.1 31 6).toInt := (congrArg Int32.toInt (show G_12.1 31 6 = (G.1 31 6) from ((hq_13.i9 31 6 rfl rfl).trans (hq_3.i9 31 6 rfl rfl))))
    have b_37 : 0 ≤ (G.1 66 1).toInt ∧ (G.1 66 1).toInt ≤ 1600 := bd_66_1 hB_G
    have g_38 : (G_12.1 66 1).toInt = (G.1 66 1).toInt := (congrArg Int32.toInt (show G_12.1 66 1 = (G.1 66 1) from ((hq_13.i9 66 1 rfl rfl).trans (hq_3.i9 66 1 rfl rfl))))
    have b_39 : 0 ≤ (G.1 66 2).toInt ∧ (G.1 66 2).toInt ≤ 4 := bd_66_2 hB_G
    have g_40 : (G_12.1 66 2).toInt = (G.1 66 2).toInt := (congrArg Int32.toInt (show G_12.1 66 2 = (G.1 66 2) from ((hq_13.i9 66 2 rfl rfl).trans (hq_3.i9 66 2 rfl rfl))))
    have b_41 : (-1) ≤ (G.1 66 3).toInt ∧ (G.1 66 3).toInt ≤ 1600 := bd_66_3 hB_G
    have g_42 : (G_12.1 66 3).toInt = (G.1 66 3).toInt := (congrArg Int32.toInt (show G_12.1 66 3 = (G.1 66 3) from ((hq_13.i9 66 3 rfl rfl).trans (hq_3.i9 66 3 rfl rfl))))
    have b_43 : 0 ≤ (G_12.1 66 78).toInt ∧ (G_12.1 66 78).toInt ≤ 40 := bd_66_78 hB_G_12
    have b_44 : 0 ≤ (G_12.1 66 79).toInt ∧ (G_12.1 66 79).toInt ≤ 40 := bd_66_79 hB_G_12
    have b_45 : 0 ≤ (G.1 66 86).toInt ∧ (G.1 66 86).toInt ≤ 100000 := bd_66_86 hB_G
    have g_46 : (G_12.1 66 86).toInt = (G.1 66 86).toInt := (congrArg Int32.toInt (show G_12.1 66 86 = (G.1 66 86) from ((hq_13.i9 66 86 rfl rfl).trans (hq_3.i9 66 86 rfl rfl))))
    have b_47 : 0 ≤ (G.1 96 0).toInt ∧ (G.1 96 0).toInt ≤ 9 := bd_96_0 hB_G
    have g_48 : (G_12.1 96 0).toInt = (G.1 96 0).toInt := (congrArg Int32.toInt (show G_12.1 96 0 = (G.1 96 0) from ((hq_13.i9 96 0 rfl rfl).trans (hq_3.i9 96 0 rfl rfl))))
    have b_49 : 0 ≤ (G.1 96 1).toInt ∧ (G.1 96 1).toInt ≤ 9 := bd_96_1 hB_G
    have g_50 : (G_12.1 96 1).toInt = (G.1 96 1).toInt := (congrArg Int32.toInt (show G_12.1 96 1 = (G.1 96 1) from ((hq_13.i9 96 1 rfl rfl).trans (hq_3.i9 96 1 rfl rfl))))
    have b_51 : 0 ≤ (G.1 96 2).toInt ∧ (G.1 96 2).toInt ≤ 9 := bd_96_2 hB_G
    have g_52 : (G_12.1 96 2).toInt = (G.1 96 2).toInt := (congrArg Int32.toInt (show G_12.1 96 2 = (G.1 96 2) from ((hq_13.i9 96 2 rfl rfl).trans (hq_3.i9 96 2 rfl rfl))))
    exact K G_12 _ _ _ (Or.inl ⟨((((hq_13.r9 0 0 rfl rfl).trans (hq_3.r9 0 0 rfl rfl))).trans (hv_0_0)), ((((hq_13.r9 0 1 rfl rfl).trans (hq_3.r9 0 1 rfl rfl))).trans (hv_0_1)), ((((hq_13.r9 6 4 rfl rfl).trans (hq_3.r9 6 4 rfl rfl))).trans (hv_6_4)), by omega, by omega, by omega, by omega, by omega, by omega, by omega, by omega, by omega, by omega, by omega, by omega, by omega⟩) hB_G_12 hW hS (lv_sub hl [0, 1, 2, 3] rfl)
  · skip
    obtain ⟨p0, hp0⟩ : ∃ y, y = xs (i0 + 1).toNatClampNeg := ⟨_, rfl⟩
    obtain ⟨p1, hp1⟩ : ∃ y, y = xs (i0 + 2).toNatClampNeg := ⟨_, rfl⟩
    obtain ⟨p2, hp2⟩ : ∃ y, y = xs (i0 + 3).toNatClampNeg := ⟨_, rfl⟩
    obtain ⟨p3, hp3⟩ : ∃ y, y = xs (i0 + 4).toNatClampNeg := ⟨_, rfl⟩
    obtain ⟨p4, hp4⟩ : ∃ y, y = xs (i0 + 5).toNatClampNeg := ⟨_, rfl⟩
    refine lv_aload_n hx hb dL_law_1319 rfl (lv_at hl 1 rfl) ?_
    refine S_calli (va_runV (As := []) (rest := []) ⟨hx, hb, hml, hown, hts⟩ (k_Wrain l D k A a z G  ) (cwV 0 hts (gd_V hgd m1210 m1211 m1212 m117 m1213) rfl rfl rfl hd_X11_rain ⟨Nat.le_of_ble_eq_true rfl, Nat.le_of_ble_eq_true rfl⟩) (pre_W hW hB_G hK hZ hS kd_0 rfl) rfl rfl hl.1 rfl (lv_room (Nat.le_of_ble_eq_true rfl)) dL_law_1320 ⟨Nat.le_of_ble_eq_true rfl, Nat.le_of_ble_eq_true rfl⟩) hS (fun r_1 G_2 H locs hpo hW hS => ?_)
    have hX_5 : P_Wrain G r_1 G_2 := hpo
    obtain ⟨hB_G_2, hq_3, f_6, hp_4, -⟩ := hpo
    refine lv_pop hx hb dL_law_1323 rfl ?_
    refine lv_aload_n hx hb dL_law_1324 rfl (lv_at hl 2 rfl) ?_
    have b_7 : 0 ≤ (G.1 66 78).toInt ∧ (G.1 66 78).toInt ≤ 40 := bd_66_78 hB_G
    have g_8 : (G_2.1 66 78).toInt = (G.1 66 78).toInt := (congrArg Int32.toInt (show G_2.1 66 78 = (G.1 66 78) from (hq_3.i9 66 78 rfl rfl)))
    have b_9 : 0 ≤ (G.1 66 79).toInt ∧ (G.1 66 79).toInt ≤ 40 := bd_66_79 hB_G
    have g_10 : (G_2.1 66 79).toInt = (G.1 66 79).toInt := (congrArg Int32.toInt (show G_2.1 66 79 = (G.1 66 79) from (hq_3.i9 66 79 rfl rfl)))
    refine S_calli (va_runV (As := []) (rest := []) ⟨hx, hb, hml, hown, hts⟩ (n_rain l D k A a z G_2  (by omega)) (cwV 0 hts (gd_V hgd m2011 m2012 m2013 m131 m2014) rfl rfl rfl hd_X12_rain ⟨Nat.le_of_ble_eq_true rfl, Nat.le_of_ble_eq_true rfl⟩) (pre_W hW hB_G_2 hK hZ hS kd_66 rfl) rfl rfl hl.1 rfl (lv_room (Nat.le_of_ble_eq_true rfl)) dL_law_1325 ⟨Nat.le_of_ble_eq_true rfl, Nat.le_of_ble_eq_true rfl⟩) hS (fun r_11 G_12 H locs hpo hW hS => ?_)
    have hX_15 : Q_rain G_2 r_11 G_12 := hpo
    obtain ⟨hB_G_12, hq_13, f_16, hp_14, -⟩ := hpo
    obtain ⟨u_17, u_18⟩ := L_rain_2 hX_5 hX_15  (by omega)
    refine lv_pop hx hb dL_law_1328 rfl ?_
    refine lv_goto (tgt := 1641) hx hb dL_law_1329 rfl ?_
    have fr_19 : Fr [110, 111, 58, 59] [(30, 4), (30, 5), (66, 78), (66, 79)] G G_12 := (Fr.call9 (rs := [110, 111, 58, 59]) (fs := [(30, 4), (30, 5), (66, 78), (66, 79)]) (Fr.call9 (rs := [110, 111, 58, 59]) (fs := [(30, 4), (30, 5), (66, 78), (66, 79)]) Fr.rf hq_3 rfl rfl) hq_13 rfl rfl)
    have g_20 : gO G_12 = gO G := gO_fr fr_19 (gr_q rfl) (gf_q rfl)
    have g_21 : gP G_12 = gP G := gP_fr fr_19 (gr_q rfl) (gf_q rfl)
    have g_22 : gS G_12 = gS G := gS_fr fr_19 (gr_q rfl) (gf_q rfl)
    have g_23 : gTE G_12 = gTE G := gTE_fr fr_19 (gr_q rfl) (gf_q rfl)
    have g_24 : gW G_12 = gW G := gW_fr fr_19 (gr_q rfl) (gf_q rfl)
    have b_25 : 0 ≤ (G.1 0 11).toInt ∧ (G.1 0 11).toInt ≤ 1600 := bd_0_11 hB_G
    have g_26 : (G_12.1 0 11).toInt = (G.1 0 11).toInt := (congrArg Int32.toInt (show G_12.1 0 11 = (G.1 0 11) from ((hq_13.i9 0 11 rfl rfl).trans (hq_3.i9 0 11 rfl rfl))))
    have b_27 : 0 ≤ (G.1 3 7).toInt ∧ (G.1 3 7).toInt ≤ 4 := bd_3_7 hB_G
    have g_28 : (G_12.1 3 7).toInt = (G.1 3 7).toInt := (congrArg Int32.toInt (show G_12.1 3 7 = (G.1 3 7) from ((hq_13.i9 3 7 rfl rfl).trans (hq_3.i9 3 7 rfl rfl))))
    have b_29 : (-1) ≤ (G.1 3 8).toInt ∧ (G.1 3 8).toInt ≤ 1600 := bd_3_8 hB_G
    have g_30 : (G_12.1 3 8).toInt = (G.1 3 8).toInt := (congrArg Int32.toInt (show G_12.1 3 8 = (G.1 3 8) from ((hq_13.i9 3 8 rfl rfl).trans (hq_3.i9 3 8 rfl rfl))))
    have b_31 : 0 ≤ (G_2.1 30 4).toInt ∧ (G_2.1 30 4).toInt ≤ 40 := bd_30_4 hB_G_2
    have g_32 : (G_12.1 30 4).toInt = (G_2.1 30 4).toInt := (congrArg Int32.toInt (show G_12.1 30 4 = (G_2.1 30 4) from (hq_13.i9 30 4 rfl rfl)))
    have b_33 : 0 ≤ (G_2.1 30 5).toInt ∧ (G_2.1 30 5).toInt ≤ 40 := bd_30_5 hB_G_2
    have g_34 : (G_12.1 30 5).toInt = (G_2.1 30 5).toInt := (congrArg Int32.toInt (show G_12.1 30 5 = (G_2.1 30 5) from (hq_13.i9 30 5 rfl rfl)))
    have b_35 : 0 ≤ (G.1 31 6).toInt ∧ (G.1 31 6).toInt ≤ 100000 := bd_31_6 hB_G
    have g_36 : (G_12.1 31 6).toInt = (G.1 31 6).toInt := (congrArg Int32.toInt (show G_12.1 31 6 = (G.1 31 6) from ((hq_13.i9 31 6 rfl rfl).trans (hq_3.i9 31 6 rfl rfl))))
    have b_37 : 0 ≤ (G.1 66 1).toInt ∧ (G.1 66 1).toInt ≤ 1600 := bd_66_1 hB_G
    have g_38 : (G_12.1 66 1).toInt = (G.1 66 1).toInt := (congrArg Int32.toInt (show G_12.1 66 1 = (G.1 66 1) from ((hq_13.i9 66 1 rfl rfl).trans (hq_3.i9 66 1 rfl rfl))))
    have b_39 : 0 ≤ (G.1 66 2).toInt ∧ (G.1 66 2).toInt ≤ 4 := bd_66_2 hB_G
    have g_40 : (G_12.1 66 2).toInt = (G.1 66 2).toInt := (congrArg Int32.toInt (show G_12.1 66 2 = (G.1 66 2) from ((hq_13.i9 66 2 rfl rfl).trans (hq_3.i9 66 2 rfl rfl))))
    have b_41 : (-1) ≤ (G.1 66 3).toInt ∧ (G.1 66 3).toInt ≤ 1600 := bd_66_3 hB_G
    have g_42 : (G_12.1 66 3).toInt = (G.1 66 3).toInt := (congrArg Int32.toInt (show G_12.1 66 3 = (G.1 66 3) from ((hq_13.i9 66 3 rfl rfl).trans (hq_3.i9 66 3 rfl rfl))))
    have b_43 : 0 ≤ (G_12.1 66 78).toInt ∧ (G_12.1 66 78).toInt ≤ 40 := bd_66_78 hB_G_12
    have b_44 : 0 ≤ (G_12.1 66 79).toInt ∧ (G_12.1 66 79).toInt ≤ 40 := bd_66_79 hB_G_12
    have b_45 : 0 ≤ (G.1 66 86).toInt ∧ (G.1 66 86).toInt ≤ 100000 := bd_66_86 hB_G
    have g_46 : (G_12.1 66 86).toInt = (G.1 66 86).toInt := (congrArg Int32.toInt (show G_12.1 66 86 = (G.1 66 86) from ((hq_13.i9 66 86 rfl rfl).trans (hq_3.i9 66 86 rfl rfl))))
    have b_47 : 0 ≤ (G.1 96 0).toInt ∧ (G.1 96 0).toInt ≤ 9 := bd_96_0 hB_G
    have g_48 : (G_12.1 96 0).toInt = (G.1 96 0).toInt := (congrArg Int32.toInt (show G_12.1 96 0 = (G.1 96 0) from ((hq_13.i9 96 0 rfl rfl).trans (hq_3.i9 96 0 rfl rfl))))
    have b_49 : 0 ≤ (G.1 96 1).toInt ∧ (G.1 96 1).toInt ≤ 9 := bd_96_1 hB_G
    have g_50 : (G_12.1 96 1).toInt = (G.1 96 1).toInt := (congrArg Int32.toInt (show G_12.1 96 1 = (G.1 96 1) from ((hq_13.i9 96 1 rfl rfl).trans (hq_3.i9 96 1 rfl rfl))))
    have b_51 : 0 ≤ (G.1 96 2).toInt ∧ (G.1 96 2).toInt ≤ 9 := bd_96_2 hB_G
    have g_52 : (G_12.1 96 2).toInt = (G.1 96 2).toInt := (congrArg Int32.toInt (show G_12.1 96 2 = (G.1 96 2) from ((hq_13.i9 96 2 rfl rfl).trans (hq_3.i9 96 2 rfl rfl))))
    exact K G_12 _ _ _ (Or.inr ⟨((((hq_13.r9 0 0 rfl rfl).trans (hq_3.r9 0 0 rfl rfl))).trans (hv_0_0)), ((((hq_13.r9 0 1 rfl rfl).trans (hq_3.r9 0 1 rfl rfl))).trans (hv_0_1)), ((((hq_13.r9 6 4 rfl rfl).trans (hq_3.r9 6 4 rfl rfl))).trans (hv_6_4)), by omega, by omega, by omega, by omega, by omega, by omega, by omega, by omega, by omega, by omega, by omega, by omega, by omega⟩) hB_G_12 hW hS (lv_sub hl [0, 1, 2, 3] rfl)

set_option maxHeartbeats 4000000 in
set_option maxRecDepth 100000 in
theorem law_26 {p : Program} {l : Launch} {e : Env} {s : State} {m : MethodId} {below : List Frame} {meth : Method} {c : Code} {D : va_G} {k : KT} {A : Nat → Prop} {a : Nat → Nat} {z : SK} {b L : Nat} {xs : Nat → Int32} (hL : L ≤ 3072) (C0 : lw_At p s m meth c b L xs) (hK : cK D k s) (hZ : Sx A z s) (hbA : ¬ A b) {G : GS} {i0 : Int32} (hi0 : 0 ≤ i0.toInt) (hi6 : i0.toInt + 6 ≤ L) (hI : LI G) (hB_G : Bd G) {H : Heap} {locs : List Loc} {ls : Array Slot} (hW : Wd D k A a G H) (hS : va_S A s.heap H locs) (hl : lv_has ls 4 [(0, .ref b), (1, .ref (a 0)), (2, .ref (a 66)), (3, .int i0)]) (K : ∀ (G1 : GS) (H1 : Heap) (locs1 : List Loc) (ls1 : Array Slot), LI G1 → Bd G1 → Wd D k A a G1 H1 → va_S A s.heap H1 locs1 → lv_has ls1 4 [(0, .ref b), (1, .ref (a 0)), (2, .ref (a 66)), (3, .int i0)] → W p l e room_1 s m #[Value.ref b] below meth c H1 locs1 119 46443 (lw_Z below #[Value.ref b] s) (F0 m 1641 ls1 [])) : W p l e room_1 s m #[Value.ref b] below meth c H locs 119 46443 (lw_Z below #[Value.ref b] s) (F0 m 1332 ls []) := by
  obtain ⟨hx, hb, hr, hml, hown, hts, hX, hbl, hlocks, hgv⟩ := id C0
  have hown : s.vm.findClass RL = some m.cls := hown
  have hgd : ∀ w ∈ gd, w ∈ lw_tbl := fun w h => (List.mem_filter.mp h).1
  have hg : ∀ w ∈ gd, w.before #[Value.ref b] s = true := fun w h => hts w (hgd w h)
  rcases hI with ⟨hv_0_0, hv_0_1, hv_6_4, hj0, hj1, hj2, hj3, hj4, hj5, hj6, hj7, hj8, hj9, hj10, hj11, hj12⟩ | ⟨hv_0_0, hv_0_1, hv_6_4, hj0, hj1, hj2, hj3, hj4, hj5, hj6, hj7, hj8, hj9, hj10, hj11, hj12⟩
  · skip
    obtain ⟨p0, hp0⟩ : ∃ y, y = xs (i0 + 1).toNatClampNeg := ⟨_, rfl⟩
    obtain ⟨p1, hp1⟩ : ∃ y, y = xs (i0 + 2).toNatClampNeg := ⟨_, rfl⟩
    obtain ⟨p2, hp2⟩ : ∃ y, y = xs (i0 + 3).toNatClampNeg := ⟨_, rfl⟩
    obtain ⟨p3, hp3⟩ : ∃ y, y = xs (i0 + 4).toNatClampNeg := ⟨_, rfl⟩
    obtain ⟨p4, hp4⟩ : ∃ y, y = xs (i0 + 5).toNatClampNeg := ⟨_, rfl⟩
    refine lv_aload_n hx hb dL_law_1332 rfl (lv_at hl 1 rfl) ?_
    have b_1 : 0 ≤ (G.1 30 4).toInt ∧ (G.1 30 4).toInt ≤ 40 := bd_30_4 hB_G
    have b_2 : 0 ≤ (G.1 30 5).toInt ∧ (G.1 30 5).toInt ≤ 40 := bd_30_5 hB_G
    refine S_calli (va_runV (As := []) (rest := []) ⟨hx, hb, hml, hown, hts⟩ (k_Wday l D k A a z G  (by omega)) (cwV 0 hts (gd_V hgd m1214 m1215 m1216 m117 m1217) rfl rfl rfl hd_X11_day ⟨Nat.le_of_ble_eq_true rfl, Nat.le_of_ble_eq_true rfl⟩) (pre_W hW hB_G hK hZ hS kd_0 rfl) rfl rfl hl.1 rfl (lv_room (Nat.le_of_ble_eq_true rfl)) dL_law_1333 ⟨Nat.le_of_ble_eq_true rfl, Nat.le_of_ble_eq_true rfl⟩) hS (fun r_3 G_4 H locs hpo hW hS => ?_)
    have hX_7 : P_Wday G r_3 G_4 := hpo
    obtain ⟨hB_G_4, hq_5, hp_6, -⟩ := hpo
    refine lv_aload_n hx hb dL_law_1336 rfl (lv_at hl 2 rfl) ?_
    have b_8 : 0 ≤ (G.1 66 78).toInt ∧ (G.1 66 78).toInt ≤ 40 := bd_66_78 hB_G
    have g_9 : (G_4.1 66 78).toInt = (G.1 66 78).toInt := (congrArg Int32.toInt (show G_4.1 66 78 = (G.1 66 78) from (hq_5.i9 66 78 rfl rfl)))
    have b_10 : 0 ≤ (G.1 66 79).toInt ∧ (G.1 66 79).toInt ≤ 40 := bd_66_79 hB_G
    have g_11 : (G_4.1 66 79).toInt = (G.1 66 79).toInt := (congrArg Int32.toInt (show G_4.1 66 79 = (G.1 66 79) from (hq_5.i9 66 79 rfl rfl)))
    refine S_calli (va_runV (As := []) (rest := [.int r_3]) ⟨hx, hb, hml, hown, hts⟩ (n_day l D k A a z G_4  (by omega)) (cwV 0 hts (gd_V hgd m2015 m2016 m2017 m131 m2018) rfl rfl rfl hd_X12_day ⟨Nat.le_of_ble_eq_true rfl, Nat.le_of_ble_eq_true rfl⟩) (pre_W hW hB_G_4 hK hZ hS kd_66 rfl) rfl rfl hl.1 rfl (lv_room (Nat.le_of_ble_eq_true rfl)) dL_law_1337 ⟨Nat.le_of_ble_eq_true rfl, Nat.le_of_ble_eq_true rfl⟩) hS (fun r_12 G_13 H locs hpo hW hS => ?_)
    have hX_16 : Q_day G_4 r_12 G_13 := hpo
    obtain ⟨hB_G_13, hq_14, hp_15, -⟩ := hpo
    obtain ⟨u_17, u_18⟩ := L_day_1 hX_7 hX_16  (by omega)
    refine lv_icmp_eq (tgt := 1641) hx hb dL_law_1340 rfl (fun c_19 => ?_) (fun c_19 => ?_)
    · have c_19 : r_3.toInt = r_12.toInt := xI_eq rfl rfl c_19
      have fr_20 : Fr [110, 111, 58, 59] [(30, 4), (30, 5), (66, 78), (66, 79)] G G_13 := (Fr.call9 (rs := [110, 111, 58, 59]) (fs := [(30, 4), (30, 5), (66, 78), (66, 79)]) (Fr.call9 (rs := [110, 111, 58, 59]) (fs := [(30, 4), (30, 5), (66, 78), (66, 79)]) Fr.rf hq_5 rfl rfl) hq_14 rfl rfl)
      have g_21 : gO G_13 = gO G := gO_fr fr_20 (gr_q rfl) (gf_q rfl)
      have g_22 : gP G_13 = gP G := gP_fr fr_20 (gr_q rfl) (gf_q rfl)
      have g_23 : gS G_13 = gS G := gS_fr fr_20 (gr_q rfl) (gf_q rfl)
      have g_24 : gTE G_13 = gTE G := gTE_fr fr_20 (gr_q rfl) (gf_q rfl)
      have g_25 : gW G_13 = gW G := gW_fr fr_20 (gr_q rfl) (gf_q rfl)
      have b_26 : 0 ≤ (G.1 0 11).toInt ∧ (G.1 0 11).toInt ≤ 1600 := bd_0_11 hB_G
      have g_27 : (G_13.1 0 11).toInt = (G.1 0 11).toInt := (congrArg Int32.toInt (show G_13.1 0 11 = (G.1 0 11) from ((hq_14.i9 0 11 rfl rfl).trans (hq_5.i9 0 11 rfl rfl))))
      have b_28 : 0 ≤ (G.1 3 7).toInt ∧ (G.1 3 7).toInt ≤ 4 := bd_3_7 hB_G
      have g_29 : (G_13.1 3 7).toInt = (G.1 3 7).toInt := (congrArg Int32.toInt (show G_13.1 3 7 = (G.1 3 7) from ((hq_14.i9 3 7 rfl rfl).trans (hq_5.i9 3 7 rfl rfl))))
      have b_30 : (-1) ≤ (G.1 3 8).toInt ∧ (G.1 3 8).toInt ≤ 1600 := bd_3_8 hB_G
      have g_31 : (G_13.1 3 8).toInt = (G.1 3 8).toInt := (congrArg Int32.toInt (show G_13.1 3 8 = (G.1 3 8) from ((hq_14.i9 3 8 rfl rfl).trans (hq_5.i9 3 8 rfl rfl))))
      have b_32 : 0 ≤ (G_4.1 30 4).toInt ∧ (G_4.1 30 4).toInt ≤ 40 := bd_30_4 hB_G_4
      have g_33 : (G_13.1 30 4).toInt = (G_4.1 30 4).toInt := (congrArg Int32.toInt (show G_13.1 30 4 = (G_4.1 30 4) from (hq_14.i9 30 4 rfl rfl)))
      have b_34 : 0 ≤ (G_4.1 30 5).toInt ∧ (G_4.1 30 5).toInt ≤ 40 := bd_30_5 hB_G_4
      have g_35 : (G_13.1 30 5).toInt = (G_4.1 30 5).toInt := (congrArg Int32.toInt (show G_13.1 30 5 = (G_4.1 30 5) from (hq_14.i9 30 5 rfl rfl)))
      have b_36 : 0 ≤ (G.1 31 6).toInt ∧ (G.1 31 6).toInt ≤ 100000 := bd_31_6 hB_G
      have g_37 : (G_13.1 31 6).toInt = (G.1 31 6).toInt := (congrArg Int32.toInt (show G_13.1 31 6 = (G.1 31 6) from ((hq_14.i9 31 6 rfl rfl).trans (hq_5.i9 31 6 rfl rfl))))
      have b_38 : 0 ≤ (G.1 66 1).toInt ∧ (G.1 66 1).toInt ≤ 1600 := bd_66_1 hB_G
      have g_39 : (G_13.1 66 1).toInt = (G.1 66 1).toInt := (congrArg Int32.toInt (show G_13.1 66 1 = (G.1 66 1) from ((hq_14.i9 66 1 rfl rfl).trans (hq_5.i9 66 1 rfl rfl))))
      have b_40 : 0 ≤ (G.1 66 2).toInt ∧ (G.1 66 2).toInt ≤ 4 := bd_66_2 hB_G
      have g_41 : (G_13.1 66 2).toInt = (G.1 66 2).toInt := (congrArg Int32.toInt (show G_13.1 66 2 = (G.1 66 2) from ((hq_14.i9 66 2 rfl rfl).trans (hq_5.i9 66 2 rfl rfl))))
      have b_42 : (-1) ≤ (G.1 66 3).toInt ∧ (G.1 66 3).toInt ≤ 1600 := bd_66_3 hB_G
      have g_43 : (G_13.1 66 3).toInt = (G.1 66 3).toInt := (congrArg Int32.toInt (show G_13.1 66 3 = (G.1 66 3) from ((hq_14.i9 66 3 rfl rfl).trans (hq_5.i9 66 3 rfl rfl))))
      have b_44 : 0 ≤ (G_13.1 66 78).toInt ∧ (G_13.1 66 78).toInt ≤ 40 := bd_66_78 hB_G_13
      have b_45 : 0 ≤ (G_13.1 66 79).toInt ∧ (G_13.1 66 79).toInt ≤ 40 := bd_66_79 hB_G_13
      have b_46 : 0 ≤ (G.1 66 86).toInt ∧ (G.1 66 86).toInt ≤ 100000 := bd_66_86 hB_G
      have g_47 : (G_13.1 66 86).toInt = (G.1 66 86).toInt := (congrArg Int32.toInt (show G_13.1 66 86 = (G.1 66 86) from ((hq_14.i9 66 86 rfl rfl).trans (hq_5.i9 66 86 rfl rfl))))
      have b_48 : 0 ≤ (G.1 96 0).toInt ∧ (G.1 96 0).toInt ≤ 9 := bd_96_0 hB_G
      have g_49 : (G_13.1 96 0).toInt = (G.1 96 0).toInt := (congrArg Int32.toInt (show G_13.1 96 0 = (G.1 96 0) from ((hq_14.i9 96 0 rfl rfl).trans (hq_5.i9 96 0 rfl rfl))))
      have b_50 : 0 ≤ (G.1 96 1).toInt ∧ (G.1 96 1).toInt ≤ 9 := bd_96_1 hB_G
      have g_51 : (G_13.1 96 1).toInt = (G.1 96 1).toInt := (congrArg Int32.toInt (show G_13.1 96 1 = (G.1 96 1) from ((hq_14.i9 96 1 rfl rfl).trans (hq_5.i9 96 1 rfl rfl))))
      have b_52 : 0 ≤ (G.1 96 2).toInt ∧ (G.1 96 2).toInt ≤ 9 := bd_96_2 hB_G
      have g_53 : (G_13.1 96 2).toInt = (G.1 96 2).toInt := (congrArg Int32.toInt (show G_13.1 96 2 = (G.1 96 2) from ((hq_14.i9 96 2 rfl rfl).trans (hq_5.i9 96 2 rfl rfl))))
      exact K G_13 _ _ _ (Or.inl ⟨((((hq_14.r9 0 0 rfl rfl).trans (hq_5.r9 0 0 rfl rfl))).trans (hv_0_0)), ((((hq_14.r9 0 1 rfl rfl).trans (hq_5.r9 0 1 rfl rfl))).trans (hv_0_1)), ((((hq_14.r9 6 4 rfl rfl).trans (hq_5.r9 6 4 rfl rfl))).trans (hv_6_4)), by omega, by omega, by omega, by omega, by omega, by omega, by omega, by omega, by omega, by omega, by omega, by omega, by omega⟩) hB_G_13 hW hS (lv_sub hl [0, 1, 2, 3] rfl)
    · have c_19 : r_3.toInt ≠ r_12.toInt := xI_ne rfl rfl c_19
      exfalso; omega
  · skip
    obtain ⟨p0, hp0⟩ : ∃ y, y = xs (i0 + 1).toNatClampNeg := ⟨_, rfl⟩
    obtain ⟨p1, hp1⟩ : ∃ y, y = xs (i0 + 2).toNatClampNeg := ⟨_, rfl⟩
    obtain ⟨p2, hp2⟩ : ∃ y, y = xs (i0 + 3).toNatClampNeg := ⟨_, rfl⟩
    obtain ⟨p3, hp3⟩ : ∃ y, y = xs (i0 + 4).toNatClampNeg := ⟨_, rfl⟩
    obtain ⟨p4, hp4⟩ : ∃ y, y = xs (i0 + 5).toNatClampNeg := ⟨_, rfl⟩
    refine lv_aload_n hx hb dL_law_1332 rfl (lv_at hl 1 rfl) ?_
    have b_1 : 0 ≤ (G.1 30 4).toInt ∧ (G.1 30 4).toInt ≤ 40 := bd_30_4 hB_G
    have b_2 : 0 ≤ (G.1 30 5).toInt ∧ (G.1 30 5).toInt ≤ 40 := bd_30_5 hB_G
    refine S_calli (va_runV (As := []) (rest := []) ⟨hx, hb, hml, hown, hts⟩ (k_Wday l D k A a z G  (by omega)) (cwV 0 hts (gd_V hgd m1214 m1215 m1216 m117 m1217) rfl rfl rfl hd_X11_day ⟨Nat.le_of_ble_eq_true rfl, Nat.le_of_ble_eq_true rfl⟩) (pre_W hW hB_G hK hZ hS kd_0 rfl) rfl rfl hl.1 rfl (lv_room (Nat.le_of_ble_eq_true rfl)) dL_law_1333 ⟨Nat.le_of_ble_eq_true rfl, Nat.le_of_ble_eq_true rfl⟩) hS (fun r_3 G_4 H locs hpo hW hS => ?_)
    have hX_7 : P_Wday G r_3 G_4 := hpo
    obtain ⟨hB_G_4, hq_5, hp_6, -⟩ := hpo
    refine lv_aload_n hx hb dL_law_1336 rfl (lv_at hl 2 rfl) ?_
    have b_8 : 0 ≤ (G.1 66 78).toInt ∧ (G.1 66 78).toInt ≤ 40 := bd_66_78 hB_G
    have g_9 : (G_4.1 66 78).toInt = (G.1 66 78).toInt := (congrArg Int32.toInt (show G_4.1 66 78 = (G.1 66 78) from (hq_5.i9 66 78 rfl rfl)))
    have b_10 : 0 ≤ (G.1 66 79).toInt ∧ (G.1 66 79).toInt ≤ 40 := bd_66_79 hB_G
    have g_11 : (G_4.1 66 79).toInt = (G.1 66 79).toInt := (congrArg Int32.toInt (show G_4.1 66 79 = (G.1 66 79) from (hq_5.i9 66 79 rfl rfl)))
    refine S_calli (va_runV (As := []) (rest := [.int r_3]) ⟨hx, hb, hml, hown, hts⟩ (n_day l D k A a z G_4  (by omega)) (cwV 0 hts (gd_V hgd m2015 m2016 m2017 m131 m2018) rfl rfl rfl hd_X12_day ⟨Nat.le_of_ble_eq_true rfl, Nat.le_of_ble_eq_true rfl⟩) (pre_W hW hB_G_4 hK hZ hS kd_66 rfl) rfl rfl hl.1 rfl (lv_room (Nat.le_of_ble_eq_true rfl)) dL_law_1337 ⟨Nat.le_of_ble_eq_true rfl, Nat.le_of_ble_eq_true rfl⟩) hS (fun r_12 G_13 H locs hpo hW hS => ?_)
    have hX_16 : Q_day G_4 r_12 G_13 := hpo
    obtain ⟨hB_G_13, hq_14, hp_15, -⟩ := hpo
    obtain ⟨u_17, u_18⟩ := L_day_2 hX_7 hX_16  (by omega)
    refine lv_icmp_eq (tgt := 1641) hx hb dL_law_1340 rfl (fun c_19 => ?_) (fun c_19 => ?_)
    · have c_19 : r_3.toInt = r_12.toInt := xI_eq rfl rfl c_19
      have fr_20 : Fr [110, 111, 58, 59] [(30, 4), (30, 5), (66, 78), (66, 79)] G G_13 := (Fr.call9 (rs := [110, 111, 58, 59]) (fs := [(30, 4), (30, 5), (66, 78), (66, 79)]) (Fr.call9 (rs := [110, 111, 58, 59]) (fs := [(30, 4), (30, 5), (66, 78), (66, 79)]) Fr.rf hq_5 rfl rfl) hq_14 rfl rfl)
      have g_21 : gO G_13 = gO G := gO_fr fr_20 (gr_q rfl) (gf_q rfl)
      have g_22 : gP G_13 = gP G := gP_fr fr_20 (gr_q rfl) (gf_q rfl)
      have g_23 : gS G_13 = gS G := gS_fr fr_20 (gr_q rfl) (gf_q rfl)
      have g_24 : gTE G_13 = gTE G := gTE_fr fr_20 (gr_q rfl) (gf_q rfl)
      have g_25 : gW G_13 = gW G := gW_fr fr_20 (gr_q rfl) (gf_q rfl)
      have b_26 : 0 ≤ (G.1 0 11).toInt ∧ (G.1 0 11).toInt ≤ 1600 := bd_0_11 hB_G
      have g_27 : (G_13.1 0 11).toInt = (G.1 0 11).toInt := (congrArg Int32.toInt (show G_13.1 0 11 = (G.1 0 11) from ((hq_14.i9 0 11 rfl rfl).trans (hq_5.i9 0 11 rfl rfl))))
      have b_28 : 0 ≤ (G.1 3 7).toInt ∧ (G.1 3 7).toInt ≤ 4 := bd_3_7 hB_G
      have g_29 : (G_13.1 3 7).toInt = (G.1 3 7).toInt := (congrArg Int32.toInt (show G_13.1 3 7 = (G.1 3 7) from ((hq_14.i9 3 7 rfl rfl).trans (hq_5.i9 3 7 rfl rfl))))
      have b_30 : (-1) ≤ (G.1 3 8).toInt ∧ (G.1 3 8).toInt ≤ 1600 := bd_3_8 hB_G
      have g_31 : (G_13.1 3 8).toInt = (G.1 3 8).toInt := (congrArg Int32.toInt (show G_13.1 3 8 = (G.1 3 8) from ((hq_14.i9 3 8 rfl rfl).trans (hq_5.i9 3 8 rfl rfl))))
      have b_32 : 0 ≤ (G_4.1 30 4).toInt ∧ (G_4.1 30 4).toInt ≤ 40 := bd_30_4 hB_G_4
      have g_33 : (G_13.1 30 4).toInt = (G_4.1 30 4).toInt := (congrArg Int32.toInt (show G_13.1 30 4 = (G_4.1 30 4) from (hq_14.i9 30 4 rfl rfl)))
      have b_34 : 0 ≤ (G_4.1 30 5).toInt ∧ (G_4.1 30 5).toInt ≤ 40 := bd_30_5 hB_G_4
      have g_35 : (G_13.1 30 5).toInt = (G_4.1 30 5).toInt := (congrArg Int32.toInt (show G_13.1 30 5 = (G_4.1 30 5) from (hq_14.i9 30 5 rfl rfl)))
      have b_36 : 0 ≤ (G.1 31 6).toInt ∧ (G.1 31 6).toInt ≤ 100000 := bd_31_6 hB_G
      have g_37 : (G_13.1 31 6).toInt = (G.1 31 6).toInt := (congrArg Int32.toInt (show G_13.1 31 6 = (G.1 31 6) from ((hq_14.i9 31 6 rfl rfl).trans (hq_5.i9 31 6 rfl rfl))))
      have b_38 : 0 ≤ (G.1 66 1).toInt ∧ (G.1 66 1).toInt ≤ 1600 := bd_66_1 hB_G
      have g_39 : (G_13.1 66 1).toInt = (G.1 66 1).toInt := (congrArg Int32.toInt (show G_13.1 66 1 = (G.1 66 1) from ((hq_14.i9 66 1 rfl rfl).trans (hq_5.i9 66 1 rfl rfl))))
      have b_40 : 0 ≤ (G.1 66 2).toInt ∧ (G.1 66 2).toInt ≤ 4 := bd_66_2 hB_G
      have g_41 : (G_13.1 66 2).toInt = (G.1 66 2).toInt := (congrArg Int32.toInt (show G_13.1 66 2 = (G.1 66 2) from ((hq_14.i9 66 2 rfl rfl).trans (hq_5.i9 66 2 rfl rfl))))
      have b_42 : (-1) ≤ (G.1 66 3).toInt ∧ (G.1 66 3).toInt ≤ 1600 := bd_66_3 hB_G
      have g_43 : (G_13.1 66 3).toInt = (G.1 66 3).toInt := (congrArg Int32.toInt (show G_13.1 66 3 = (G.1 66 3) from ((hq_14.i9 66 3 rfl rfl).trans (hq_5.i9 66 3 rfl rfl))))
      have b_44 : 0 ≤ (G_13.1 66 78).toInt ∧ (G_13.1 66 78).toInt ≤ 40 := bd_66_78 hB_G_13
      have b_45 : 0 ≤ (G_13.1 66 79).toInt ∧ (G_13.1 66 79).toInt ≤ 40 := bd_66_79 hB_G_13
      have b_46 : 0 ≤ (G.1 66 86).toInt ∧ (G.1 66 86).toInt ≤ 100000 := bd_66_86 hB_G
      have g_47 : (G_13.1 66 86).toInt = (G.1 66 86).toInt := (congrArg Int32.toInt (show G_13.1 66 86 = (G.1 66 86) from ((hq_14.i9 66 86 rfl rfl).trans (hq_5.i9 66 86 rfl rfl))))
      have b_48 : 0 ≤ (G.1 96 0).toInt ∧ (G.1 96 0).toInt ≤ 9 := bd_96_0 hB_G
      have g_49 : (G_13.1 96 0).toInt = (G.1 96 0).toInt := (congrArg Int32.toInt (show G_13.1 96 0 = (G.1 96 0) from ((hq_14.i9 96 0 rfl rfl).trans (hq_5.i9 96 0 rfl rfl))))
      have b_50 : 0 ≤ (G.1 96 1).toInt ∧ (G.1 96 1).toInt ≤ 9 := bd_96_1 hB_G
      have g_51 : (G_13.1 96 1).toInt = (G.1 96 1).toInt := (congrArg Int32.toInt (show G_13.1 96 1 = (G.1 96 1) from ((hq_14.i9 96 1 rfl rfl).trans (hq_5.i9 96 1 rfl rfl))))
      have b_52 : 0 ≤ (G.1 96 2).toInt ∧ (G.1 96 2).toInt ≤ 9 := bd_96_2 hB_G
      have g_53 : (G_13.1 96 2).toInt = (G.1 96 2).toInt := (congrArg Int32.toInt (show G_13.1 96 2 = (G.1 96 2) from ((hq_14.i9 96 2 rfl rfl).trans (hq_5.i9 96 2 rfl rfl))))
      exact K G_13 _ _ _ (Or.inr ⟨((((hq_14.r9 0 0 rfl rfl).trans (hq_5.r9 0 0 rfl rfl))).trans (hv_0_0)), ((((hq_14.r9 0 1 rfl rfl).trans (hq_5.r9 0 1 rfl rfl))).trans (hv_0_1)), ((((hq_14.r9 6 4 rfl rfl).trans (hq_5.r9 6 4 rfl rfl))).trans (hv_6_4)), by omega, by omega, by omega, by omega, by omega, by omega, by omega, by omega, by omega, by omega, by omega, by omega, by omega⟩) hB_G_13 hW hS (lv_sub hl [0, 1, 2, 3] rfl)
    · have c_19 : r_3.toInt ≠ r_12.toInt := xI_ne rfl rfl c_19
      exfalso; omega

set_option maxHeartbeats 4000000 in
set_option maxRecDepth 100000 in
theorem law_27 {p : Program} {l : Launch} {e : Env} {s : State} {m : MethodId} {below : List Frame} {meth : Method} {c : Code} {D : va_G} {k : KT} {A : Nat → Prop} {a : Nat → Nat} {z : SK} {b L : Nat} {xs : Nat → Int32} (hL : L ≤ 3072) (C0 : lw_At p s m meth c b L xs) (hK : cK D k s) (hZ : Sx A z s) (hbA : ¬ A b) {G : GS} {i0 : Int32} (hi0 : 0 ≤ i0.toInt) (hi6 : i0.toInt + 6 ≤ L) (hI : LI G) (hB_G : Bd G) {H : Heap} {locs : List Loc} {ls : Array Slot} (hW : Wd D k A a G H) (hS : va_S A s.heap H locs) (hl : lv_has ls 4 [(0, .ref b), (1, .ref (a 0)), (2, .ref (a 66)), (3, .int i0)]) (K : ∀ (G1 : GS) (H1 : Heap) (locs1 : List Loc) (ls1 : Array Slot), LI G1 → Bd G1 → Wd D k A a G1 H1 → va_S A s.heap H1 locs1 → lv_has ls1 4 [(0, .ref b), (1, .ref (a 0)), (2, .ref (a 66)), (3, .int i0)] → W p l e room_1 s m #[Value.ref b] below meth c H1 locs1 119 46443 (lw_Z below #[Value.ref b] s) (F0 m 1641 ls1 [])) : W p l e room_1 s m #[Value.ref b] below meth c H locs 119 46443 (lw_Z below #[Value.ref b] s) (F0 m 1345 ls []) := by
  obtain ⟨hx, hb, hr, hml, hown, hts, hX, hbl, hlocks, hgv⟩ := id C0
  have hown : s.vm.findClass RL = some m.cls := hown
  have hgd : ∀ w ∈ gd, w ∈ lw_tbl := fun w h => (List.mem_filter.mp h).1
  have hg : ∀ w ∈ gd, w.before #[Value.ref b] s = true := fun w h => hts w (hgd w h)
  rcases hI with ⟨hv_0_0, hv_0_1, hv_6_4, hj0, hj1, hj2, hj3, hj4, hj5, hj6, hj7, hj8, hj9, hj10, hj11, hj12⟩ | ⟨hv_0_0, hv_0_1, hv_6_4, hj0, hj1, hj2, hj3, hj4, hj5, hj6, hj7, hj8, hj9, hj10, hj11, hj12⟩
  · skip
    obtain ⟨p0, hp0⟩ : ∃ y, y = xs (i0 + 1).toNatClampNeg := ⟨_, rfl⟩
    obtain ⟨p1, hp1⟩ : ∃ y, y = xs (i0 + 2).toNatClampNeg := ⟨_, rfl⟩
    obtain ⟨p2, hp2⟩ : ∃ y, y = xs (i0 + 3).toNatClampNeg := ⟨_, rfl⟩
    obtain ⟨p3, hp3⟩ : ∃ y, y = xs (i0 + 4).toNatClampNeg := ⟨_, rfl⟩
    obtain ⟨p4, hp4⟩ : ∃ y, y = xs (i0 + 5).toNatClampNeg := ⟨_, rfl⟩
    refine lv_aload_n hx hb dL_law_1345 rfl (lv_at hl 1 rfl) ?_
    have b_1 : 0 ≤ (G.1 30 4).toInt ∧ (G.1 30 4).toInt ≤ 40 := bd_30_4 hB_G
    have b_2 : 0 ≤ (G.1 30 5).toInt ∧ (G.1 30 5).toInt ≤ 40 := bd_30_5 hB_G
    refine S_calli (va_runV (As := []) (rest := []) ⟨hx, hb, hml, hown, hts⟩ (k_Wundo l D k A a z G  (by omega)) (cwV 0 hts (gd_V hgd m1218 m1219 m1220 m117 m1221) rfl rfl rfl hd_X11_undo ⟨Nat.le_of_ble_eq_true rfl, Nat.le_of_ble_eq_true rfl⟩) (pre_W hW hB_G hK hZ hS kd_0 rfl) rfl rfl hl.1 rfl (lv_room (Nat.le_of_ble_eq_true rfl)) dL_law_1346 ⟨Nat.le_of_ble_eq_true rfl, Nat.le_of_ble_eq_true rfl⟩) hS (fun r_3 G_4 H locs hpo hW hS => ?_)
    have hX_7 : P_Wundo G r_3 G_4 := hpo
    obtain ⟨hB_G_4, hq_5, f_8, hp_6, -⟩ := hpo
    refine lv_pop hx hb dL_law_1349 rfl ?_
    refine lv_aload_n hx hb dL_law_1350 rfl (lv_at hl 2 rfl) ?_
    have b_9 : 0 ≤ (G.1 66 78).toInt ∧ (G.1 66 78).toInt ≤ 40 := bd_66_78 hB_G
    have g_10 : (G_4.1 66 78).toInt = (G.1 66 78).toInt := (congrArg Int32.toInt (show G_4.1 66 78 = (G.1 66 78) from (hq_5.i9 66 78 rfl rfl)))
    have b_11 : 0 ≤ (G.1 66 79).toInt ∧ (G.1 66 79).toInt ≤ 40 := bd_66_79 hB_G
    have g_12 : (G_4.1 66 79).toInt = (G.1 66 79).toInt := (congrArg Int32.toInt (show G_4.1 66 79 = (G.1 66 79) from (hq_5.i9 66 79 rfl rfl)))
    refine S_calli (va_runV (As := []) (rest := []) ⟨hx, hb, hml, hown, hts⟩ (n_undo l D k A a z G_4  (by omega)) (cwV 0 hts (gd_V hgd m2019 m2020 m2021 m131 m2022) rfl rfl rfl hd_X12_undo ⟨Nat.le_of_ble_eq_true rfl, Nat.le_of_ble_eq_true rfl⟩) (pre_W hW hB_G_4 hK hZ hS kd_66 rfl) rfl rfl hl.1 rfl (lv_room (Nat.le_of_ble_eq_true rfl)) dL_law_1351 ⟨Nat.le_of_ble_eq_true rfl, Nat.le_of_ble_eq_true rfl⟩) hS (fun r_13 G_14 H locs hpo hW hS => ?_)
    have hX_17 : Q_undo G_4 r_13 G_14 := hpo
    obtain ⟨hB_G_14, hq_15, f_18, hp_16, -⟩ := hpo
    obtain ⟨u_19, u_20⟩ := L_undo_1 hX_7 hX_17  (by omega)
    refine lv_pop hx hb dL_law_1354 rfl ?_
    refine lv_goto (tgt := 1641) hx hb dL_law_1355 rfl ?_
    have fr_21 : Fr [110, 111, 58] [(30, 4), (30, 5), (66, 78), (66, 79)] G G_14 := (Fr.call9 (rs := [110, 111, 58]) (fs := [(30, 4), (30, 5), (66, 78), (66, 79)]) (Fr.call9 (rs := [110, 111, 58]) (fs := [(30, 4), (30, 5), (66, 78), (66, 79)]) Fr.rf hq_5 rfl rfl) hq_15 rfl rfl)
    have g_22 : gO G_14 = gO G := gO_fr fr_21 (gr_q rfl) (gf_q rfl)
    have g_23 : gP G_14 = gP G := gP_fr fr_21 (gr_q rfl) (gf_q rfl)
    have g_24 : gS G_14 = gS G := gS_fr fr_21 (gr_q rfl) (gf_q rfl)
    have g_25 : gTE G_14 = gTE G := gTE_fr fr_21 (gr_q rfl) (gf_q rfl)
    have g_26 : gW G_14 = gW G := gW_fr fr_21 (gr_q rfl) (gf_q rfl)
    have b_27 : 0 ≤ (G.1 0 11).toInt ∧ (G.1 0 11).toInt ≤ 1600 := bd_0_11 hB_G
    have g_28 : (G_14.1 0 11).toInt = (G.1 0 11).toInt := (congrArg Int32.toInt (show G_14.1 0 11 = (G.1 0 11) from ((hq_15.i9 0 11 rfl rfl).trans (hq_5.i9 0 11 rfl rfl))))
    have b_29 : 0 ≤ (G.1 3 7).toInt ∧ (G.1 3 7).toInt ≤ 4 := bd_3_7 hB_G
    have g_30 : (G_14.1 3 7).toInt = (G.1 3 7).toInt := (congrArg Int32.toInt (show G_14.1 3 7 = (G.1 3 7) from ((hq_15.i9 3 7 rfl rfl).trans (hq_5.i9 3 7 rfl rfl))))
    have b_31 : (-1) ≤ (G.1 3 8).toInt ∧ (G.1 3 8).toInt ≤ 1600 := bd_3_8 hB_G
    have g_32 : (G_14.1 3 8).toInt = (G.1 3 8).toInt := (congrArg Int32.toInt (show G_14.1 3 8 = (G.1 3 8) from ((hq_15.i9 3 8 rfl rfl).trans (hq_5.i9 3 8 rfl rfl))))
    have b_33 : 0 ≤ (G_4.1 30 4).toInt ∧ (G_4.1 30 4).toInt ≤ 40 := bd_30_4 hB_G_4
    have g_34 : (G_14.1 30 4).toInt = (G_4.1 30 4).toInt := (congrArg Int32.toInt (show G_14.1 30 4 = (G_4.1 30 4) from (hq_15.i9 30 4 rfl rfl)))
    have b_35 : 0 ≤ (G_4.1 30 5).toInt ∧ (G_4.1 30 5).toInt ≤ 40 := bd_30_5 hB_G_4
    have g_36 : (G_14.1 30 5).toInt = (G_4.1 30 5).toInt := (congrArg Int32.toInt (show G_14.1 30 5 = (G_4.1 30 5) from (hq_15.i9 30 5 rfl rfl)))
    have b_37 : 0 ≤ (G.1 31 6).toInt ∧ (G.1 31 6).toInt ≤ 100000 := bd_31_6 hB_G
    have g_38 : (G_14.1 31 6).toInt = (G.1 31 6).toInt := (congrArg Int32.toInt (show G_14.1 31 6 = (G.1 31 6) from ((hq_15.i9 31 6 rfl rfl).trans (hq_5.i9 31 6 rfl rfl))))
    have b_39 : 0 ≤ (G.1 66 1).toInt ∧ (G.1 66 1).toInt ≤ 1600 := bd_66_1 hB_G
    have g_40 : (G_14.1 66 1).toInt = (G.1 66 1).toInt := (congrArg Int32.toInt (show G_14.1 66 1 = (G.1 66 1) from ((hq_15.i9 66 1 rfl rfl).trans (hq_5.i9 66 1 rfl rfl))))
    have b_41 : 0 ≤ (G.1 66 2).toInt ∧ (G.1 66 2).toInt ≤ 4 := bd_66_2 hB_G
    have g_42 : (G_14.1 66 2).toInt = (G.1 66 2).toInt := (congrArg Int32.toInt (show G_14.1 66 2 = (G.1 66 2) from ((hq_15.i9 66 2 rfl rfl).trans (hq_5.i9 66 2 rfl rfl))))
    have b_43 : (-1) ≤ (G.1 66 3).toInt ∧ (G.1 66 3).toInt ≤ 1600 := bd_66_3 hB_G
    have g_44 : (G_14.1 66 3).toInt = (G.1 66 3).toInt := (congrArg Int32.toInt (show G_14.1 66 3 = (G.1 66 3) from ((hq_15.i9 66 3 rfl rfl).trans (hq_5.i9 66 3 rfl rfl))))
    have b_45 : 0 ≤ (G_14.1 66 78).toInt ∧ (G_14.1 66 78).toInt ≤ 40 := bd_66_78 hB_G_14
    have b_46 : 0 ≤ (G_14.1 66 79).toInt ∧ (G_14.1 66 79).toInt ≤ 40 := bd_66_79 hB_G_14
    have b_47 : 0 ≤ (G.1 66 86).toInt ∧ (G.1 66 86).toInt ≤ 100000 := bd_66_86 hB_G
    have g_48 : (G_14.1 66 86).toInt = (G.1 66 86).toInt := (congrArg Int32.toInt (show G_14.1 66 86 = (G.1 66 86) from ((hq_15.i9 66 86 rfl rfl).trans (hq_5.i9 66 86 rfl rfl))))
    have b_49 : 0 ≤ (G.1 96 0).toInt ∧ (G.1 96 0).toInt ≤ 9 := bd_96_0 hB_G
    have g_50 : (G_14.1 96 0).toInt = (G.1 96 0).toInt := (congrArg Int32.toInt (show G_14.1 96 0 = (G.1 96 0) from ((hq_15.i9 96 0 rfl rfl).trans (hq_5.i9 96 0 rfl rfl))))
    have b_51 : 0 ≤ (G.1 96 1).toInt ∧ (G.1 96 1).toInt ≤ 9 := bd_96_1 hB_G
    have g_52 : (G_14.1 96 1).toInt = (G.1 96 1).toInt := (congrArg Int32.toInt (show G_14.1 96 1 = (G.1 96 1) from ((hq_15.i9 96 1 rfl rfl).trans (hq_5.i9 96 1 rfl rfl))))
    have b_53 : 0 ≤ (G.1 96 2).toInt ∧ (G.1 96 2).toInt ≤ 9 := bd_96_2 hB_G
    have g_54 : (G_14.1 96 2).toInt = (G.1 96 2).toInt := (congrArg Int32.toInt (show G_14.1 96 2 = (G.1 96 2) from ((hq_15.i9 96 2 rfl rfl).trans (hq_5.i9 96 2 rfl rfl))))
    exact K G_14 _ _ _ (Or.inl ⟨((((hq_15.r9 0 0 rfl rfl).trans (hq_5.r9 0 0 rfl rfl))).trans (hv_0_0)), ((((hq_15.r9 0 1 rfl rfl).trans (hq_5.r9 0 1 rfl rfl))).trans (hv_0_1)), ((((hq_15.r9 6 4 rfl rfl).trans (hq_5.r9 6 4 rfl rfl))).trans (hv_6_4)), by omega, by omega, by omega, by omega, by omega, by omega, by omega, by omega, by omega, by omega, by omega, by omega, by omega⟩) hB_G_14 hW hS (lv_sub hl [0, 1, 2, 3] rfl)
  · skip
    obtain ⟨p0, hp0⟩ : ∃ y, y = xs (i0 + 1).toNatClampNeg := ⟨_, rfl⟩
    obtain ⟨p1, hp1⟩ : ∃ y, y = xs (i0 + 2).toNatClampNeg := ⟨_, rfl⟩
    obtain ⟨p2, hp2⟩ : ∃ y, y = xs (i0 + 3).toNatClampNeg := ⟨_, rfl⟩
    obtain ⟨p3, hp3⟩ : ∃ y, y = xs (i0 + 4).toNatClampNeg := ⟨_, rfl⟩
    obtain ⟨p4, hp4⟩ : ∃ y, y = xs (i0 + 5).toNatClampNeg := ⟨_, rfl⟩
    refine lv_aload_n hx hb dL_law_1345 rfl (lv_at hl 1 rfl) ?_
    have b_1 : 0 ≤ (G.1 30 4).toInt ∧ (G.1 30 4).toInt ≤ 40 := bd_30_4 hB_G
    have b_2 : 0 ≤ (G.1 30 5).toInt ∧ (G.1 30 5).toInt ≤ 40 := bd_30_5 hB_G
    refine S_calli (va_runV (As := []) (rest := []) ⟨hx, hb, hml, hown, hts⟩ (k_Wundo l D k A a z G  (by omega)) (cwV 0 hts (gd_V hgd m1218 m1219 m1220 m117 m1221) rfl rfl rfl hd_X11_undo ⟨Nat.le_of_ble_eq_true rfl, Nat.le_of_ble_eq_true rfl⟩) (pre_W hW hB_G hK hZ hS kd_0 rfl) rfl rfl hl.1 rfl (lv_room (Nat.le_of_ble_eq_true rfl)) dL_law_1346 ⟨Nat.le_of_ble_eq_true rfl, Nat.le_of_ble_eq_true rfl⟩) hS (fun r_3 G_4 H locs hpo hW hS => ?_)
    have hX_7 : P_Wundo G r_3 G_4 := hpo
    obtain ⟨hB_G_4, hq_5, f_8, hp_6, -⟩ := hpo
    refine lv_pop hx hb dL_law_1349 rfl ?_
    refine lv_aload_n hx hb dL_law_1350 rfl (lv_at hl 2 rfl) ?_
    have b_9 : 0 ≤ (G.1 66 78).toInt ∧ (G.1 66 78).toInt ≤ 40 := bd_66_78 hB_G
    have g_10 : (G_4.1 66 78).toInt = (G.1 66 78).toInt := (congrArg Int32.toInt (show G_4.1 66 78 = (G.1 66 78) from (hq_5.i9 66 78 rfl rfl)))
    have b_11 : 0 ≤ (G.1 66 79).toInt ∧ (G.1 66 79).toInt ≤ 40 := bd_66_79 hB_G
    have g_12 : (G_4.1 66 79).toInt = (G.1 66 79).toInt := (congrArg Int32.toInt (show G_4.1 66 79 = (G.1 66 79) from (hq_5.i9 66 79 rfl rfl)))
    refine S_calli (va_runV (As := []) (rest := []) ⟨hx, hb, hml, hown, hts⟩ (n_undo l D k A a z G_4  (by omega)) (cwV 0 hts (gd_V hgd m2019 m2020 m2021 m131 m2022) rfl rfl rfl hd_X12_undo ⟨Nat.le_of_ble_eq_true rfl, Nat.le_of_ble_eq_true rfl⟩) (pre_W hW hB_G_4 hK hZ hS kd_66 rfl) rfl rfl hl.1 rfl (lv_room (Nat.le_of_ble_eq_true rfl)) dL_law_1351 ⟨Nat.le_of_ble_eq_true rfl, Nat.le_of_ble_eq_true rfl⟩) hS (fun r_13 G_14 H locs hpo hW hS => ?_)
    have hX_17 : Q_undo G_4 r_13 G_14 := hpo
    obtain ⟨hB_G_14, hq_15, f_18, hp_16, -⟩ := hpo
    obtain ⟨u_19, u_20⟩ := L_undo_2 hX_7 hX_17  (by omega)
    refine lv_pop hx hb dL_law_1354 rfl ?_
    refine lv_goto (tgt := 1641) hx hb dL_law_1355 rfl ?_
    have fr_21 : Fr [110, 111, 58] [(30, 4), (30, 5), (66, 78), (66, 79)] G G_14 := (Fr.call9 (rs := [110, 111, 58]) (fs := [(30, 4), (30, 5), (66, 78), (66, 79)]) (Fr.call9 (rs := [110, 111, 58]) (fs := [(30, 4), (30, 5), (66, 78), (66, 79)]) Fr.rf hq_5 rfl rfl) hq_15 rfl rfl)
    have g_22 : gO G_14 = gO G := gO_fr fr_21 (gr_q rfl) (gf_q rfl)
    have g_23 : gP G_14 = gP G := gP_fr fr_21 (gr_q rfl) (gf_q rfl)
    have g_24 : gS G_14 = gS G := gS_fr fr_21 (gr_q rfl) (gf_q rfl)
    have g_25 : gTE G_14 = gTE G := gTE_fr fr_21 (gr_q rfl) (gf_q rfl)
    have g_26 : gW G_14 = gW G := gW_fr fr_21 (gr_q rfl) (gf_q rfl)
    have b_27 : 0 ≤ (G.1 0 11).toInt ∧ (G.1 0 11).toInt ≤ 1600 := bd_0_11 hB_G
    have g_28 : (G_14.1 0 11).toInt = (G.1 0 11).toInt := (congrArg Int32.toInt (show G_14.1 0 11 = (G.1 0 11) from ((hq_15.i9 0 11 rfl rfl).trans (hq_5.i9 0 11 rfl rfl))))
    have b_29 : 0 ≤ (G.1 3 7).toInt ∧ (G.1 3 7).toInt ≤ 4 := bd_3_7 hB_G
    have g_30 : (G_14.1 3 7).toInt = (G.1 3 7).toInt := (congrArg Int32.toInt (show G_14.1 3 7 = (G.1 3 7) from ((hq_15.i9 3 7 rfl rfl).trans (hq_5.i9 3 7 rfl rfl))))
    have b_31 : (-1) ≤ (G.1 3 8).toInt ∧ (G.1 3 8).toInt ≤ 1600 := bd_3_8 hB_G
    have g_32 : (G_14.1 3 8).toInt = (G.1 3 8).toInt := (congrArg Int32.toInt (show G_14.1 3 8 = (G.1 3 8) from ((hq_15.i9 3 8 rfl rfl).trans (hq_5.i9 3 8 rfl rfl))))
    have b_33 : 0 ≤ (G_4.1 30 4).toInt ∧ (G_4.1 30 4).toInt ≤ 40 := bd_30_4 hB_G_4
    have g_34 : (G_14.1 30 4).toInt = (G_4.1 30 4).toInt := (congrArg Int32.toInt (show G_14.1 30 4 = (G_4.1 30 4) from (hq_15.i9 30 4 rfl rfl)))
    have b_35 : 0 ≤ (G_4.1 30 5).toInt ∧ (G_4.1 30 5).toInt ≤ 40 := bd_30_5 hB_G_4
    have g_36 : (G_14.1 30 5).toInt = (G_4.1 30 5).toInt := (congrArg Int32.toInt (show G_14.1 30 5 = (G_4.1 30 5) from (hq_15.i9 30 5 rfl rfl)))
    have b_37 : 0 ≤ (G.1 31 6).toInt ∧ (G.1 31 6).toInt ≤ 100000 := bd_31_6 hB_G
    have g_38 : (G_14.1 31 6).toInt = (G.1 31 6).toInt := (congrArg Int32.toInt (show G_14.1 31 6 = (G.1 31 6) from ((hq_15.i9 31 6 rfl rfl).trans (hq_5.i9 31 6 rfl rfl))))
    have b_39 : 0 ≤ (G.1 66 1).toInt ∧ (G.1 66 1).toInt ≤ 1600 := bd_66_1 hB_G
    have g_40 : (G_14.1 66 1).toInt = (G.1 66 1).toInt := (congrArg Int32.toInt (show G_14.1 66 1 = (G.1 66 1) from ((hq_15.i9 66 1 rfl rfl).trans (hq_5.i9 66 1 rfl rfl))))
    have b_41 : 0 ≤ (G.1 66 2).toInt ∧ (G.1 66 2).toInt ≤ 4 := bd_66_2 hB_G
    have g_42 : (G_14.1 66 2).toInt = (G.1 66 2).toInt := (congrArg Int32.toInt (show G_14.1 66 2 = (G.1 66 2) from ((hq_15.i9 66 2 rfl rfl).trans (hq_5.i9 66 2 rfl rfl))))
    have b_43 : (-1) ≤ (G.1 66 3).toInt ∧ (G.1 66 3).toInt ≤ 1600 := bd_66_3 hB_G
    have g_44 : (G_14.1 66 3).toInt = (G.1 66 3).toInt := (congrArg Int32.toInt (show G_14.1 66 3 = (G.1 66 3) from ((hq_15.i9 66 3 rfl rfl).trans (hq_5.i9 66 3 rfl rfl))))
    have b_45 : 0 ≤ (G_14.1 66 78).toInt ∧ (G_14.1 66 78).toInt ≤ 40 := bd_66_78 hB_G_14
    have b_46 : 0 ≤ (G_14.1 66 79).toInt ∧ (G_14.1 66 79).toInt ≤ 40 := bd_66_79 hB_G_14
    have b_47 : 0 ≤ (G.1 66 86).toInt ∧ (G.1 66 86).toInt ≤ 100000 := bd_66_86 hB_G
    have g_48 : (G_14.1 66 86).toInt = (G.1 66 86).toInt := (congrArg Int32.toInt (show G_14.1 66 86 = (G.1 66 86) from ((hq_15.i9 66 86 rfl rfl).trans (hq_5.i9 66 86 rfl rfl))))
    have b_49 : 0 ≤ (G.1 96 0).toInt ∧ (G.1 96 0).toInt ≤ 9 := bd_96_0 hB_G
    have g_50 : (G_14.1 96 0).toInt = (G.1 96 0).toInt := (congrArg Int32.toInt (show G_14.1 96 0 = (G.1 96 0) from ((hq_15.i9 96 0 rfl rfl).trans (hq_5.i9 96 0 rfl rfl))))
    have b_51 : 0 ≤ (G.1 96 1).toInt ∧ (G.1 96 1).toInt ≤ 9 := bd_96_1 hB_G
    have g_52 : (G_14.1 96 1).toInt = (G.1 96 1).toInt := (congrArg Int32.toInt (show G_14.1 96 1 = (G.1 96 1) from ((hq_15.i9 96 1 rfl rfl).trans (hq_5.i9 96 1 rfl rfl))))
    have b_53 : 0 ≤ (G.1 96 2).toInt ∧ (G.1 96 2).toInt ≤ 9 := bd_96_2 hB_G
    have g_54 : (G_14.1 96 2).toInt = (G.1 96 2).toInt := (congrArg Int32.toInt (show G_14.1 96 2 = (G.1 96 2) from ((hq_15.i9 96 2 rfl rfl).trans (hq_5.i9 96 2 rfl rfl))))
    exact K G_14 _ _ _ (Or.inr ⟨((((hq_15.r9 0 0 rfl rfl).trans (hq_5.r9 0 0 rfl rfl))).trans (hv_0_0)), ((((hq_15.r9 0 1 rfl rfl).trans (hq_5.r9 0 1 rfl rfl))).trans (hv_0_1)), ((((hq_15.r9 6 4 rfl rfl).trans (hq_5.r9 6 4 rfl rfl))).trans (hv_6_4)), by omega, by omega, by omega, by omega, by omega, by omega, by omega, by omega, by omega, by omega, by omega, by omega, by omega⟩) hB_G_14 hW hS (lv_sub hl [0, 1, 2, 3] rfl)

set_option maxHeartbeats 4000000 in
set_option maxRecDepth 100000 in
theorem law_28 {p : Program} {l : Launch} {e : Env} {s : State} {m : MethodId} {below : List Frame} {meth : Method} {c : Code} {D : va_G} {k : KT} {A : Nat → Prop} {a : Nat → Nat} {z : SK} {b L : Nat} {xs : Nat → Int32} (hL : L ≤ 3072) (C0 : lw_At p s m meth c b L xs) (hK : cK D k s) (hZ : Sx A z s) (hbA : ¬ A b) {G : GS} {i0 : Int32} (hi0 : 0 ≤ i0.toInt) (hi6 : i0.toInt + 6 ≤ L) (hI : LI G) (hB_G : Bd G) {H : Heap} {locs : List Loc} {ls : Array Slot} (hW : Wd D k A a G H) (hS : va_S A s.heap H locs) (hl : lv_has ls 4 [(0, .ref b), (1, .ref (a 0)), (2, .ref (a 66)), (3, .int i0)]) (K : ∀ (G1 : GS) (H1 : Heap) (locs1 : List Loc) (ls1 : Array Slot), LI G1 → Bd G1 → Wd D k A a G1 H1 → va_S A s.heap H1 locs1 → lv_has ls1 4 [(0, .ref b), (1, .ref (a 0)), (2, .ref (a 66)), (3, .int i0)] → W p l e room_1 s m #[Value.ref b] below meth c H1 locs1 119 46443 (lw_Z below #[Value.ref b] s) (F0 m 1641 ls1 [])) : W p l e room_1 s m #[Value.ref b] below meth c H locs 119 46443 (lw_Z below #[Value.ref b] s) (F0 m 1358 ls []) := by
  obtain ⟨hx, hb, hr, hml, hown, hts, hX, hbl, hlocks, hgv⟩ := id C0
  have hown : s.vm.findClass RL = some m.cls := hown
  have hgd : ∀ w ∈ gd, w ∈ lw_tbl := fun w h => (List.mem_filter.mp h).1
  have hg : ∀ w ∈ gd, w.before #[Value.ref b] s = true := fun w h => hts w (hgd w h)
  rcases hI with ⟨hv_0_0, hv_0_1, hv_6_4, hj0, hj1, hj2, hj3, hj4, hj5, hj6, hj7, hj8, hj9, hj10, hj11, hj12⟩ | ⟨hv_0_0, hv_0_1, hv_6_4, hj0, hj1, hj2, hj3, hj4, hj5, hj6, hj7, hj8, hj9, hj10, hj11, hj12⟩
  · skip
    obtain ⟨p0, hp0⟩ : ∃ y, y = xs (i0 + 1).toNatClampNeg := ⟨_, rfl⟩
    obtain ⟨p1, hp1⟩ : ∃ y, y = xs (i0 + 2).toNatClampNeg := ⟨_, rfl⟩
    obtain ⟨p2, hp2⟩ : ∃ y, y = xs (i0 + 3).toNatClampNeg := ⟨_, rfl⟩
    obtain ⟨p3, hp3⟩ : ∃ y, y = xs (i0 + 4).toNatClampNeg := ⟨_, rfl⟩
    obtain ⟨p4, hp4⟩ : ∃ y, y = xs (i0 + 5).toNatClampNeg := ⟨_, rfl⟩
    refine lv_aload_n hx hb dL_law_1358 rfl (lv_at hl 1 rfl) ?_
    have b_1 : 0 ≤ (G.1 30 4).toInt ∧ (G.1 30 4).toInt ≤ 40 := bd_30_4 hB_G
    have b_2 : 0 ≤ (G.1 30 5).toInt ∧ (G.1 30 5).toInt ≤ 40 := bd_30_5 hB_G
    refine S_calli (va_runV (As := []) (rest := []) ⟨hx, hb, hml, hown, hts⟩ (k_Wredo l D k A a z G  (by omega)) (cwV 0 hts (gd_V hgd m1226 m1227 m1228 m117 m1229) rfl rfl rfl hd_X11_redo ⟨Nat.le_of_ble_eq_true rfl, Nat.le_of_ble_eq_true rfl⟩) (pre_W hW hB_G hK hZ hS kd_0 rfl) rfl rfl hl.1 rfl (lv_room (Nat.le_of_ble_eq_true rfl)) dL_law_1359 ⟨Nat.le_of_ble_eq_true rfl, Nat.le_of_ble_eq_true rfl⟩) hS (fun r_3 G_4 H locs hpo hW hS => ?_)
    have hX_7 : P_Wredo G r_3 G_4 := hpo
    obtain ⟨hB_G_4, hq_5, f_8, hp_6, -⟩ := hpo
    refine lv_pop hx hb dL_law_1362 rfl ?_
    refine lv_aload_n hx hb dL_law_1363 rfl (lv_at hl 2 rfl) ?_
    have b_9 : 0 ≤ (G.1 66 78).toInt ∧ (G.1 66 78).toInt ≤ 40 := bd_66_78 hB_G
    have g_10 : (G_4.1 66 78).toInt = (G.1 66 78).toInt := (congrArg Int32.toInt (show G_4.1 66 78 = (G.1 66 78) from (hq_5.i9 66 78 rfl rfl)))
    have b_11 : 0 ≤ (G.1 66 79).toInt ∧ (G.1 66 79).toInt ≤ 40 := bd_66_79 hB_G
    have g_12 : (G_4.1 66 79).toInt = (G.1 66 79).toInt := (congrArg Int32.toInt (show G_4.1 66 79 = (G.1 66 79) from (hq_5.i9 66 79 rfl rfl)))
    refine S_calli (va_runV (As := []) (rest := []) ⟨hx, hb, hml, hown, hts⟩ (n_redo l D k A a z G_4  (by omega)) (cwV 0 hts (gd_V hgd m2027 m2028 m2029 m131 m2030) rfl rfl rfl hd_X12_redo ⟨Nat.le_of_ble_eq_true rfl, Nat.le_of_ble_eq_true rfl⟩) (pre_W hW hB_G_4 hK hZ hS kd_66 rfl) rfl rfl hl.1 rfl (lv_room (Nat.le_of_ble_eq_true rfl)) dL_law_1364 ⟨Nat.le_of_ble_eq_true rfl, Nat.le_of_ble_eq_true rfl⟩) hS (fun r_13 G_14 H locs hpo hW hS => ?_)
    have hX_17 : Q_redo G_4 r_13 G_14 := hpo
    obtain ⟨hB_G_14, hq_15, f_18, hp_16, -⟩ := hpo
    obtain ⟨u_19, u_20⟩ := L_redo_1 hX_7 hX_17  (by omega)
    refine lv_pop hx hb dL_law_1367 rfl ?_
    refine lv_goto (tgt := 1641) hx hb dL_law_1368 rfl ?_
    have fr_21 : Fr [110, 111, 58] [(30, 4), (30, 5), (66, 78), (66, 79)] G G_14 := (Fr.call9 (rs := [110, 111, 58]) (fs := [(30, 4), (30, 5), (66, 78), (66, 79)]) (Fr.call9 (rs := [110, 111, 58]) (fs := [(30, 4), (30, 5), (66, 78), (66, 79)]) Fr.rf hq_5 rfl rfl) hq_15 rfl rfl)
    have g_22 : gO G_14 = gO G := gO_fr fr_21 (gr_q rfl) (gf_q rfl)
    have g_23 : gP G_14 = gP G := gP_fr fr_21 (gr_q rfl) (gf_q rfl)
    have g_24 : gS G_14 = gS G := gS_fr fr_21 (gr_q rfl) (gf_q rfl)
    have g_25 : gTE G_14 = gTE G := gTE_fr fr_21 (gr_q rfl) (gf_q rfl)
    have g_26 : gW G_14 = gW G := gW_fr fr_21 (gr_q rfl) (gf_q rfl)
    have b_27 : 0 ≤ (G.1 0 11).toInt ∧ (G.1 0 11).toInt ≤ 1600 := bd_0_11 hB_G
    have g_28 : (G_14.1 0 11).toInt = (G.1 0 11).toInt := (congrArg Int32.toInt (show G_14.1 0 11 = (G.1 0 11) from ((hq_15.i9 0 11 rfl rfl).trans (hq_5.i9 0 11 rfl rfl))))
    have b_29 : 0 ≤ (G.1 3 7).toInt ∧ (G.1 3 7).toInt ≤ 4 := bd_3_7 hB_G
    have g_30 : (G_14.1 3 7).toInt = (G.1 3 7).toInt := (congrArg Int32.toInt (show G_14.1 3 7 = (G.1 3 7) from ((hq_15.i9 3 7 rfl rfl).trans (hq_5.i9 3 7 rfl rfl))))
    have b_31 : (-1) ≤ (G.1 3 8).toInt ∧ (G.1 3 8).toInt ≤ 1600 := bd_3_8 hB_G
    have g_32 : (G_14.1 3 8).toInt = (G.1 3 8).toInt := (congrArg Int32.toInt (show G_14.1 3 8 = (G.1 3 8) from ((hq_15.i9 3 8 rfl rfl).trans (hq_5.i9 3 8 rfl rfl))))
    have b_33 : 0 ≤ (G_4.1 30 4).toInt ∧ (G_4.1 30 4).toInt ≤ 40 := bd_30_4 hB_G_4
    have g_34 : (G_14.1 30 4).toInt = (G_4.1 30 4).toInt := (congrArg Int32.toInt (show G_14.1 30 4 = (G_4.1 30 4) from (hq_15.i9 30 4 rfl rfl)))
    have b_35 : 0 ≤ (G_4.1 30 5).toInt ∧ (G_4.1 30 5).toInt ≤ 40 := bd_30_5 hB_G_4
    have g_36 : (G_14.1 30 5).toInt = (G_4.1 30 5).toInt := (congrArg Int32.toInt (show G_14.1 30 5 = (G_4.1 30 5) from (hq_15.i9 30 5 rfl rfl)))
    have b_37 : 0 ≤ (G.1 31 6).toInt ∧ (G.1 31 6).toInt ≤ 100000 := bd_31_6 hB_G
    have g_38 : (G_14.1 31 6).toInt = (G.1 31 6).toInt := (congrArg Int32.toInt (show G_14.1 31 6 = (G.1 31 6) from ((hq_15.i9 31 6 rfl rfl).trans (hq_5.i9 31 6 rfl rfl))))
    have b_39 : 0 ≤ (G.1 66 1).toInt ∧ (G.1 66 1).toInt ≤ 1600 := bd_66_1 hB_G
    have g_40 : (G_14.1 66 1).toInt = (G.1 66 1).toInt := (congrArg Int32.toInt (show G_14.1 66 1 = (G.1 66 1) from ((hq_15.i9 66 1 rfl rfl).trans (hq_5.i9 66 1 rfl rfl))))
    have b_41 : 0 ≤ (G.1 66 2).toInt ∧ (G.1 66 2).toInt ≤ 4 := bd_66_2 hB_G
    have g_42 : (G_14.1 66 2).toInt = (G.1 66 2).toInt := (congrArg Int32.toInt (show G_14.1 66 2 = (G.1 66 2) from ((hq_15.i9 66 2 rfl rfl).trans (hq_5.i9 66 2 rfl rfl))))
    have b_43 : (-1) ≤ (G.1 66 3).toInt ∧ (G.1 66 3).toInt ≤ 1600 := bd_66_3 hB_G
    have g_44 : (G_14.1 66 3).toInt = (G.1 66 3).toInt := (congrArg Int32.toInt (show G_14.1 66 3 = (G.1 66 3) from ((hq_15.i9 66 3 rfl rfl).trans (hq_5.i9 66 3 rfl rfl))))
    have b_45 : 0 ≤ (G_14.1 66 78).toInt ∧ (G_14.1 66 78).toInt ≤ 40 := bd_66_78 hB_G_14
    have b_46 : 0 ≤ (G_14.1 66 79).toInt ∧ (G_14.1 66 79).toInt ≤ 40 := bd_66_79 hB_G_14
    have b_47 : 0 ≤ (G.1 66 86).toInt ∧ (G.1 66 86).toInt ≤ 100000 := bd_66_86 hB_G
    have g_48 : (G_14.1 66 86).toInt = (G.1 66 86).toInt := (congrArg Int32.toInt (show G_14.1 66 86 = (G.1 66 86) from ((hq_15.i9 66 86 rfl rfl).trans (hq_5.i9 66 86 rfl rfl))))
    have b_49 : 0 ≤ (G.1 96 0).toInt ∧ (G.1 96 0).toInt ≤ 9 := bd_96_0 hB_G
    have g_50 : (G_14.1 96 0).toInt = (G.1 96 0).toInt := (congrArg Int32.toInt (show G_14.1 96 0 = (G.1 96 0) from ((hq_15.i9 96 0 rfl rfl).trans (hq_5.i9 96 0 rfl rfl))))
    have b_51 : 0 ≤ (G.1 96 1).toInt ∧ (G.1 96 1).toInt ≤ 9 := bd_96_1 hB_G
    have g_52 : (G_14.1 96 1).toInt = (G.1 96 1).toInt := (congrArg Int32.toInt (show G_14.1 96 1 = (G.1 96 1) from ((hq_15.i9 96 1 rfl rfl).trans (hq_5.i9 96 1 rfl rfl))))
    have b_53 : 0 ≤ (G.1 96 2).toInt ∧ (G.1 96 2).toInt ≤ 9 := bd_96_2 hB_G
    have g_54 : (G_14.1 96 2).toInt = (G.1 96 2).toInt := (congrArg Int32.toInt (show G_14.1 96 2 = (G.1 96 2) from ((hq_15.i9 96 2 rfl rfl).trans (hq_5.i9 96 2 rfl rfl))))
    exact K G_14 _ _ _ (Or.inl ⟨((((hq_15.r9 0 0 rfl rfl).trans (hq_5.r9 0 0 rfl rfl))).trans (hv_0_0)), ((((hq_15.r9 0 1 rfl rfl).trans (hq_5.r9 0 1 rfl rfl))).trans (hv_0_1)), ((((hq_15.r9 6 4 rfl rfl).trans (hq_5.r9 6 4 rfl rfl))).trans (hv_6_4)), by omega, by omega, by omega, by omega, by omega, by omega, by omega, by omega, by omega, by omega, by omega, by omega, by omega⟩) hB_G_14 hW hS (lv_sub hl [0, 1, 2, 3] rfl)
  · skip
    obtain ⟨p0, hp0⟩ : ∃ y, y = xs (i0 + 1).toNatClampNeg := ⟨_, rfl⟩
    obtain ⟨p1, hp1⟩ : ∃ y, y = xs (i0 + 2).toNatClampNeg := ⟨_, rfl⟩
    obtain ⟨p2, hp2⟩ : ∃ y, y = xs (i0 + 3).toNatClampNeg := ⟨_, rfl⟩
    obtain ⟨p3, hp3⟩ : ∃ y, y = xs (i0 + 4).toNatClampNeg := ⟨_, rfl⟩
    obtain ⟨p4, hp4⟩ : ∃ y, y = xs (i0 + 5).toNatClampNeg := ⟨_, rfl⟩
    refine lv_aload_n hx hb dL_law_1358 rfl (lv_at hl 1 rfl) ?_
    have b_1 : 0 ≤ (G.1 30 4).toInt ∧ (G.1 30 4).toInt ≤ 40 := bd_30_4 hB_G
    have b_2 : 0 ≤ (G.1 30 5).toInt ∧ (G.1 30 5).toInt ≤ 40 := bd_30_5 hB_G
    refine S_calli (va_runV (As := []) (rest := []) ⟨hx, hb, hml, hown, hts⟩ (k_Wredo l D k A a z G  (by omega)) (cwV 0 hts (gd_V hgd m1226 m1227 m1228 m117 m1229) rfl rfl rfl hd_X11_redo ⟨Nat.le_of_ble_eq_true rfl, Nat.le_of_ble_eq_true rfl⟩) (pre_W hW hB_G hK hZ hS kd_0 rfl) rfl rfl hl.1 rfl (lv_room (Nat.le_of_ble_eq_true rfl)) dL_law_1359 ⟨Nat.le_of_ble_eq_true rfl, Nat.le_of_ble_eq_true rfl⟩) hS (fun r_3 G_4 H locs hpo hW hS => ?_)
    have hX_7 : P_Wredo G r_3 G_4 := hpo
    obtain ⟨hB_G_4, hq_5, f_8, hp_6, -⟩ := hpo
    refine lv_pop hx hb dL_law_1362 rfl ?_
    refine lv_aload_n hx hb dL_law_1363 rfl (lv_at hl 2 rfl) ?_
    have b_9 : 0 ≤ (G.1 66 78).toInt ∧ (G.1 66 78).toInt ≤ 40 := bd_66_78 hB_G
    have g_10 : (G_4.1 66 78).toInt = (G.1 66 78).toInt := (congrArg Int32.toInt (show G_4.1 66 78 = (G.1 66 78) from (hq_5.i9 66 78 rfl rfl)))
    have b_11 : 0 ≤ (G.1 66 79).toInt ∧ (G.1 66 79).toInt ≤ 40 := bd_66_79 hB_G
    have g_12 : (G_4.1 66 79).toInt = (G.1 66 79).toInt := (congrArg Int32.toInt (show G_4.1 66 79 = (G.1 66 79) from (hq_5.i9 66 79 rfl rfl)))
    refine S_calli (va_runV (As := []) (rest := []) ⟨hx, hb, hml, hown, hts⟩ (n_redo l D k A a z G_4  (by omega)) (cwV 0 hts (gd_V hgd m2027 m2028 m2029 m131 m2030) rfl rfl rfl hd_X12_redo ⟨Nat.le_of_ble_eq_true rfl, Nat.le_of_ble_eq_true rfl⟩) (pre_W hW hB_G_4 hK hZ hS kd_66 rfl) rfl rfl hl.1 rfl (lv_room (Nat.le_of_ble_eq_true rfl)) dL_law_1364 ⟨Nat.le_of_ble_eq_true rfl, Nat.le_of_ble_eq_true rfl⟩) hS (fun r_13 G_14 H locs hpo hW hS => ?_)
    have hX_17 : Q_redo G_4 r_13 G_14 := hpo
    obtain ⟨hB_G_14, hq_15, f_18, hp_16, -⟩ := hpo
    obtain ⟨u_19, u_20⟩ := L_redo_2 hX_7 hX_17  (by omega)
    refine lv_pop hx hb dL_law_1367 rfl ?_
    refine lv_goto (tgt := 1641) hx hb dL_law_1368 rfl ?_
    have fr_21 : Fr [110, 111, 58] [(30, 4), (30, 5), (66, 78), (66, 79)] G G_14 := (Fr.call9 (rs := [110, 111, 58]) (fs := [(30, 4), (30, 5), (66, 78), (66, 79)]) (Fr.call9 (rs := [110, 111, 58]) (fs := [(30, 4), (30, 5), (66, 78), (66, 79)]) Fr.rf hq_5 rfl rfl) hq_15 rfl rfl)
    have g_22 : gO G_14 = gO G := gO_fr fr_21 (gr_q rfl) (gf_q rfl)
    have g_23 : gP G_14 = gP G := gP_fr fr_21 (gr_q rfl) (gf_q rfl)
    have g_24 : gS G_14 = gS G := gS_fr fr_21 (gr_q rfl) (gf_q rfl)
    have g_25 : gTE G_14 = gTE G := gTE_fr fr_21 (gr_q rfl) (gf_q rfl)
    have g_26 : gW G_14 = gW G := gW_fr fr_21 (gr_q rfl) (gf_q rfl)
    have b_27 : 0 ≤ (G.1 0 11).toInt ∧ (G.1 0 11).toInt ≤ 1600 := bd_0_11 hB_G
    have g_28 : (G_14.1 0 11).toInt = (G.1 0 11).toInt := (congrArg Int32.toInt (show G_14.1 0 11 = (G.1 0 11) from ((hq_15.i9 0 11 rfl rfl).trans (hq_5.i9 0 11 rfl rfl))))
    have b_29 : 0 ≤ (G.1 3 7).toInt ∧ (G.1 3 7).toInt ≤ 4 := bd_3_7 hB_G
    have g_30 : (G_14.1 3 7).toInt = (G.1 3 7).toInt := (congrArg Int32.toInt (show G_14.1 3 7 = (G.1 3 7) from ((hq_15.i9 3 7 rfl rfl).trans (hq_5.i9 3 7 rfl rfl))))
    have b_31 : (-1) ≤ (G.1 3 8).toInt ∧ (G.1 3 8).toInt ≤ 1600 := bd_3_8 hB_G
    have g_32 : (G_14.1 3 8).toInt = (G.1 3 8).toInt := (congrArg Int32.toInt (show G_14.1 3 8 = (G.1 3 8) from ((hq_15.i9 3 8 rfl rfl).trans (hq_5.i9 3 8 rfl rfl))))
    have b_33 : 0 ≤ (G_4.1 30 4).toInt ∧ (G_4.1 30 4).toInt ≤ 40 := bd_30_4 hB_G_4
    have g_34 : (G_14.1 30 4).toInt = (G_4.1 30 4).toInt := (congrArg Int32.toInt (show G_14.1 30 4 = (G_4.1 30 4) from (hq_15.i9 30 4 rfl rfl)))
    have b_35 : 0 ≤ (G_4.1 30 5).toInt ∧ (G_4.1 30 5).toInt ≤ 40 := bd_30_5 hB_G_4
    have g_36 : (G_14.1 30 5).toInt = (G_4.1 30 5).toInt := (congrArg Int32.toInt (show G_14.1 30 5 = (G_4.1 30 5) from (hq_15.i9 30 5 rfl rfl)))
    have b_37 : 0 ≤ (G.1 31 6).toInt ∧ (G.1 31 6).toInt ≤ 100000 := bd_31_6 hB_G
    have g_38 : (G_14.1 31 6).toInt = (G.1 31 6).toInt := (congrArg Int32.toInt (show G_14.1 31 6 = (G.1 31 6) from ((hq_15.i9 31 6 rfl rfl).trans (hq_5.i9 31 6 rfl rfl))))
    have b_39 : 0 ≤ (G.1 66 1).toInt ∧ (G.1 66 1).toInt ≤ 1600 := bd_66_1 hB_G
    have g_40 : (G_14.1 66 1).toInt = (G.1 66 1).toInt := (congrArg Int32.toInt (show G_14.1 66 1 = (G.1 66 1) from ((hq_15.i9 66 1 rfl rfl).trans (hq_5.i9 66 1 rfl rfl))))
    have b_41 : 0 ≤ (G.1 66 2).toInt ∧ (G.1 66 2).toInt ≤ 4 := bd_66_2 hB_G
    have g_42 : (G_14.1 66 2).toInt = (G.1 66 2).toInt := (congrArg Int32.toInt (show G_14.1 66 2 = (G.1 66 2) from ((hq_15.i9 66 2 rfl rfl).trans (hq_5.i9 66 2 rfl rfl))))
    have b_43 : (-1) ≤ (G.1 66 3).toInt ∧ (G.1 66 3).toInt ≤ 1600 := bd_66_3 hB_G
    have g_44 : (G_14.1 66 3).toInt = (G.1 66 3).toInt := (congrArg Int32.toInt (show G_14.1 66 3 = (G.1 66 3) from ((hq_15.i9 66 3 rfl rfl).trans (hq_5.i9 66 3 rfl rfl))))
    have b_45 : 0 ≤ (G_14.1 66 78).toInt ∧ (G_14.1 66 78).toInt ≤ 40 := bd_66_78 hB_G_14
    have b_46 : 0 ≤ (G_14.1 66 79).toInt ∧ (G_14.1 66 79).toInt ≤ 40 := bd_66_79 hB_G_14
    have b_47 : 0 ≤ (G.1 66 86).toInt ∧ (G.1 66 86).toInt ≤ 100000 := bd_66_86 hB_G
    have g_48 : (G_14.1 66 86).toInt = (G.1 66 86).toInt := (congrArg Int32.toInt (show G_14.1 66 86 = (G.1 66 86) from ((hq_15.i9 66 86 rfl rfl).trans (hq_5.i9 66 86 rfl rfl))))
    have b_49 : 0 ≤ (G.1 96 0).toInt ∧ (G.1 96 0).toInt ≤ 9 := bd_96_0 hB_G
    have g_50 : (G_14.1 96 0).toInt = (G.1 96 0).toInt := (congrArg Int32.toInt (show G_14.1 96 0 = (G.1 96 0) from ((hq_15.i9 96 0 rfl rfl).trans (hq_5.i9 96 0 rfl rfl))))
    have b_51 : 0 ≤ (G.1 96 1).toInt ∧ (G.1 96 1).toInt ≤ 9 := bd_96_1 hB_G
    have g_52 : (G_14.1 96 1).toInt = (G.1 96 1).toInt := (congrArg Int32.toInt (show G_14.1 96 1 = (G.1 96 1) from ((hq_15.i9 96 1 rfl rfl).trans (hq_5.i9 96 1 rfl rfl))))
    have b_53 : 0 ≤ (G.1 96 2).toInt ∧ (G.1 96 2).toInt ≤ 9 := bd_96_2 hB_G
    have g_54 : (G_14.1 96 2).toInt = (G.1 96 2).toInt := (congrArg Int32.toInt (show G_14.1 96 2 = (G.1 96 2) from ((hq_15.i9 96 2 rfl rfl).trans (hq_5.i9 96 2 rfl rfl))))
    exact K G_14 _ _ _ (Or.inr ⟨((((hq_15.r9 0 0 rfl rfl).trans (hq_5.r9 0 0 rfl rfl))).trans (hv_0_0)), ((((hq_15.r9 0 1 rfl rfl).trans (hq_5.r9 0 1 rfl rfl))).trans (hv_0_1)), ((((hq_15.r9 6 4 rfl rfl).trans (hq_5.r9 6 4 rfl rfl))).trans (hv_6_4)), by omega, by omega, by omega, by omega, by omega, by omega, by omega, by omega, by omega, by omega, by omega, by omega, by omega⟩) hB_G_14 hW hS (lv_sub hl [0, 1, 2, 3] rfl)

set_option maxHeartbeats 4000000 in
set_option maxRecDepth 100000 in
theorem law_29 {p : Program} {l : Launch} {e : Env} {s : State} {m : MethodId} {below : List Frame} {meth : Method} {c : Code} {D : va_G} {k : KT} {A : Nat → Prop} {a : Nat → Nat} {z : SK} {b L : Nat} {xs : Nat → Int32} (hL : L ≤ 3072) (C0 : lw_At p s m meth c b L xs) (hK : cK D k s) (hZ : Sx A z s) (hbA : ¬ A b) {G : GS} {i0 : Int32} (hi0 : 0 ≤ i0.toInt) (hi6 : i0.toInt + 6 ≤ L) (hI : LI G) (hB_G : Bd G) {H : Heap} {locs : List Loc} {ls : Array Slot} (hW : Wd D k A a G H) (hS : va_S A s.heap H locs) (hl : lv_has ls 4 [(0, .ref b), (1, .ref (a 0)), (2, .ref (a 66)), (3, .int i0)]) (K : ∀ (G1 : GS) (H1 : Heap) (locs1 : List Loc) (ls1 : Array Slot), LI G1 → Bd G1 → Wd D k A a G1 H1 → va_S A s.heap H1 locs1 → lv_has ls1 4 [(0, .ref b), (1, .ref (a 0)), (2, .ref (a 66)), (3, .int i0)] → W p l e room_1 s m #[Value.ref b] below meth c H1 locs1 119 46443 (lw_Z below #[Value.ref b] s) (F0 m 1641 ls1 [])) : W p l e room_1 s m #[Value.ref b] below meth c H locs 119 46443 (lw_Z below #[Value.ref b] s) (F0 m 1371 ls []) := by
  obtain ⟨hx, hb, hr, hml, hown, hts, hX, hbl, hlocks, hgv⟩ := id C0
  have hown : s.vm.findClass RL = some m.cls := hown
  have hgd : ∀ w ∈ gd, w ∈ lw_tbl := fun w h => (List.mem_filter.mp h).1
  have hg : ∀ w ∈ gd, w.before #[Value.ref b] s = true := fun w h => hts w (hgd w h)
  rcases hI with ⟨hv_0_0, hv_0_1, hv_6_4, hj0, hj1, hj2, hj3, hj4, hj5, hj6, hj7, hj8, hj9, hj10, hj11, hj12⟩ | ⟨hv_0_0, hv_0_1, hv_6_4, hj0, hj1, hj2, hj3, hj4, hj5, hj6, hj7, hj8, hj9, hj10, hj11, hj12⟩
  · skip
    obtain ⟨p0, hp0⟩ : ∃ y, y = xs (i0 + 1).toNatClampNeg := ⟨_, rfl⟩
    obtain ⟨p1, hp1⟩ : ∃ y, y = xs (i0 + 2).toNatClampNeg := ⟨_, rfl⟩
    obtain ⟨p2, hp2⟩ : ∃ y, y = xs (i0 + 3).toNatClampNeg := ⟨_, rfl⟩
    obtain ⟨p3, hp3⟩ : ∃ y, y = xs (i0 + 4).toNatClampNeg := ⟨_, rfl⟩
    obtain ⟨p4, hp4⟩ : ∃ y, y = xs (i0 + 5).toNatClampNeg := ⟨_, rfl⟩
    refine lv_aload_n hx hb dL_law_1371 rfl (lv_at hl 1 rfl) ?_
    refine ld_1 hL hi0 hi6 hx hb hX hbl hbA hS hl dL_law_1372 dL_law_1373 dL_law_1374 dL_law_1375 dL_law_1376 hp0 ?_
    refine S_calli (va_runV (As := [.int p0]) (rest := []) ⟨hx, hb, hml, hown, hts⟩ (k_Wwalker l D k A a z G p0 ) (cwV 1 hts (gd_V hgd m1234 m1235 m1236 m117 m1237) rfl rfl rfl hd_X11_walker ⟨Nat.le_of_ble_eq_true rfl, Nat.le_of_ble_eq_true rfl⟩) (pre_W hW hB_G hK hZ hS kd_0 rfl) rfl rfl hl.1 rfl (lv_room (Nat.le_of_ble_eq_true rfl)) dL_law_1377 ⟨Nat.le_of_ble_eq_true rfl, Nat.le_of_ble_eq_true rfl⟩) hS (fun r_1 G_2 H locs hpo hW hS => ?_)
    have hX_5 : P_Wwalker p0 G r_1 G_2 := hpo
    obtain ⟨hB_G_2, hq_3, -⟩ := hpo
    refine lv_pop hx hb dL_law_1380 rfl ?_
    refine lv_aload_n hx hb dL_law_1381 rfl (lv_at hl 2 rfl) ?_
    refine ld_1 hL hi0 hi6 hx hb hX hbl hbA hS hl dL_law_1382 dL_law_1383 dL_law_1384 dL_law_1385 dL_law_1386 hp0 ?_
    refine S_calli (va_runV (As := [.int p0]) (rest := []) ⟨hx, hb, hml, hown, hts⟩ (n_walker l D k A a z G_2 p0 ) (cwV 1 hts (gd_V hgd m2031 m2032 m2033 m131 m2034) rfl rfl rfl hd_X12_walker ⟨Nat.le_of_ble_eq_true rfl, Nat.le_of_ble_eq_true rfl⟩) (pre_W hW hB_G_2 hK hZ hS kd_66 rfl) rfl rfl hl.1 rfl (lv_room (Nat.le_of_ble_eq_true rfl)) dL_law_1387 ⟨Nat.le_of_ble_eq_true rfl, Nat.le_of_ble_eq_true rfl⟩) hS (fun r_6 G_7 H locs hpo hW hS => ?_)
    have hX_10 : Q_walker p0 G_2 r_6 G_7 := hpo
    obtain ⟨hB_G_7, hq_8, -⟩ := hpo
    have u_11 := L_walker_1 hX_5 hX_10 rfl (by omega)
    refine lv_pop hx hb dL_law_1390 rfl ?_
    refine lv_goto (tgt := 1641) hx hb dL_law_1391 rfl ?_
    have fr_12 : Fr [] [] G G_7 := (Fr.call9 (rs := []) (fs := []) (Fr.call9 (rs := []) (fs := []) Fr.rf hq_3 rfl rfl) hq_8 rfl rfl)
    have g_13 : gIA G_7 = gIA G := gIA_fr fr_12 (gr_q rfl) (gf_q rfl)
    exact K G_7 _ _ _ (Or.inl (LI_of_1 (LIn_fr_1 (LIn_fr_1 (show LIn_1 G from ⟨hv_0_0, hv_0_1, hv_6_4, hj0, hj1, hj2, hj3, hj4, hj5, hj6, hj7, hj8, hj9, hj10, hj11⟩) hq_3 (by decide +kernel)) hq_8 (by decide +kernel)) (by omega))) hB_G_7 hW hS (lv_sub hl [0, 1, 2, 3] rfl)
  · skip
    obtain ⟨p0, hp0⟩ : ∃ y, y = xs (i0 + 1).toNatClampNeg := ⟨_, rfl⟩
    obtain ⟨p1, hp1⟩ : ∃ y, y = xs (i0 + 2).toNatClampNeg := ⟨_, rfl⟩
    obtain ⟨p2, hp2⟩ : ∃ y, y = xs (i0 + 3).toNatClampNeg := ⟨_, rfl⟩
    obtain ⟨p3, hp3⟩ : ∃ y, y = xs (i0 + 4).toNatClampNeg := ⟨_, rfl⟩
    obtain ⟨p4, hp4⟩ : ∃ y, y = xs (i0 + 5).toNatClampNeg := ⟨_, rfl⟩
    refine lv_aload_n hx hb dL_law_1371 rfl (lv_at hl 1 rfl) ?_
    refine ld_1 hL hi0 hi6 hx hb hX hbl hbA hS hl dL_law_1372 dL_law_1373 dL_law_1374 dL_law_1375 dL_law_1376 hp0 ?_
    refine S_calli (va_runV (As := [.int p0]) (rest := []) ⟨hx, hb, hml, hown, hts⟩ (k_Wwalker l D k A a z G p0 ) (cwV 1 hts (gd_V hgd m1234 m1235 m1236 m117 m1237) rfl rfl rfl hd_X11_walker ⟨Nat.le_of_ble_eq_true rfl, Nat.le_of_ble_eq_true rfl⟩) (pre_W hW hB_G hK hZ hS kd_0 rfl) rfl rfl hl.1 rfl (lv_room (Nat.le_of_ble_eq_true rfl)) dL_law_1377 ⟨Nat.le_of_ble_eq_true rfl, Nat.le_of_ble_eq_true rfl⟩) hS (fun r_1 G_2 H locs hpo hW hS => ?_)
    have hX_5 : P_Wwalker p0 G r_1 G_2 := hpo
    obtain ⟨hB_G_2, hq_3, -⟩ := hpo
    refine lv_pop hx hb dL_law_1380 rfl ?_
    refine lv_aload_n hx hb dL_law_1381 rfl (lv_at hl 2 rfl) ?_
    refine ld_1 hL hi0 hi6 hx hb hX hbl hbA hS hl dL_law_1382 dL_law_1383 dL_law_1384 dL_law_1385 dL_law_1386 hp0 ?_
    refine S_calli (va_runV (As := [.int p0]) (rest := []) ⟨hx, hb, hml, hown, hts⟩ (n_walker l D k A a z G_2 p0 ) (cwV 1 hts (gd_V hgd m2031 m2032 m2033 m131 m2034) rfl rfl rfl hd_X12_walker ⟨Nat.le_of_ble_eq_true rfl, Nat.le_of_ble_eq_true rfl⟩) (pre_W hW hB_G_2 hK hZ hS kd_66 rfl) rfl rfl hl.1 rfl (lv_room (Nat.le_of_ble_eq_true rfl)) dL_law_1387 ⟨Nat.le_of_ble_eq_true rfl, Nat.le_of_ble_eq_true rfl⟩) hS (fun r_6 G_7 H locs hpo hW hS => ?_)
    have hX_10 : Q_walker p0 G_2 r_6 G_7 := hpo
    obtain ⟨hB_G_7, hq_8, -⟩ := hpo
    have u_11 := L_walker_2 hX_5 hX_10 rfl (by omega)
    refine lv_pop hx hb dL_law_1390 rfl ?_
    refine lv_goto (tgt := 1641) hx hb dL_law_1391 rfl ?_
    have fr_12 : Fr [] [] G G_7 := (Fr.call9 (rs := []) (fs := []) (Fr.call9 (rs := []) (fs := []) Fr.rf hq_3 rfl rfl) hq_8 rfl rfl)
    have g_13 : gIB G_7 = gIB G := gIB_fr fr_12 (gr_q rfl) (gf_q rfl)
    exact K G_7 _ _ _ (Or.inr (LI_of_2 (LIn_fr_2 (LIn_fr_2 (show LIn_2 G from ⟨hv_0_0, hv_0_1, hv_6_4, hj0, hj1, hj2, hj3, hj4, hj5, hj6, hj7, hj8, hj9, hj10, hj11⟩) hq_3 (by decide +kernel)) hq_8 (by decide +kernel)) (by omega))) hB_G_7 hW hS (lv_sub hl [0, 1, 2, 3] rfl)

set_option maxHeartbeats 4000000 in
set_option maxRecDepth 100000 in
theorem law_30 {p : Program} {l : Launch} {e : Env} {s : State} {m : MethodId} {below : List Frame} {meth : Method} {c : Code} {D : va_G} {k : KT} {A : Nat → Prop} {a : Nat → Nat} {z : SK} {b L : Nat} {xs : Nat → Int32} (hL : L ≤ 3072) (C0 : lw_At p s m meth c b L xs) (hK : cK D k s) (hZ : Sx A z s) (hbA : ¬ A b) {G : GS} {i0 : Int32} (hi0 : 0 ≤ i0.toInt) (hi6 : i0.toInt + 6 ≤ L) (hI : LI G) (hB_G : Bd G) {H : Heap} {locs : List Loc} {ls : Array Slot} (hW : Wd D k A a G H) (hS : va_S A s.heap H locs) (hl : lv_has ls 4 [(0, .ref b), (1, .ref (a 0)), (2, .ref (a 66)), (3, .int i0)]) (K : ∀ (G1 : GS) (H1 : Heap) (locs1 : List Loc) (ls1 : Array Slot), LI G1 → Bd G1 → Wd D k A a G1 H1 → va_S A s.heap H1 locs1 → lv_has ls1 4 [(0, .ref b), (1, .ref (a 0)), (2, .ref (a 66)), (3, .int i0)] → W p l e room_1 s m #[Value.ref b] below meth c H1 locs1 119 46443 (lw_Z below #[Value.ref b] s) (F0 m 1641 ls1 [])) : W p l e room_1 s m #[Value.ref b] below meth c H locs 119 46443 (lw_Z below #[Value.ref b] s) (F0 m 1394 ls []) := by
  obtain ⟨hx, hb, hr, hml, hown, hts, hX, hbl, hlocks, hgv⟩ := id C0
  have hown : s.vm.findClass RL = some m.cls := hown
  have hgd : ∀ w ∈ gd, w ∈ lw_tbl := fun w h => (List.mem_filter.mp h).1
  have hg : ∀ w ∈ gd, w.before #[Value.ref b] s = true := fun w h => hts w (hgd w h)
  rcases hI with ⟨hv_0_0, hv_0_1, hv_6_4, hj0, hj1, hj2, hj3, hj4, hj5, hj6, hj7, hj8, hj9, hj10, hj11, hj12⟩ | ⟨hv_0_0, hv_0_1, hv_6_4, hj0, hj1, hj2, hj3, hj4, hj5, hj6, hj7, hj8, hj9, hj10, hj11, hj12⟩
  · skip
    obtain ⟨p0, hp0⟩ : ∃ y, y = xs (i0 + 1).toNatClampNeg := ⟨_, rfl⟩
    obtain ⟨p1, hp1⟩ : ∃ y, y = xs (i0 + 2).toNatClampNeg := ⟨_, rfl⟩
    obtain ⟨p2, hp2⟩ : ∃ y, y = xs (i0 + 3).toNatClampNeg := ⟨_, rfl⟩
    obtain ⟨p3, hp3⟩ : ∃ y, y = xs (i0 + 4).toNatClampNeg := ⟨_, rfl⟩
    obtain ⟨p4, hp4⟩ : ∃ y, y = xs (i0 + 5).toNatClampNeg := ⟨_, rfl⟩
    refine lv_aload_n hx hb dL_law_1394 rfl (lv_at hl 1 rfl) ?_
    refine ld_1 hL hi0 hi6 hx hb hX hbl hbA hS hl dL_law_1395 dL_law_1396 dL_law_1397 dL_law_1398 dL_law_1399 hp0 ?_
    refine S_calli (va_runV (As := [.int p0]) (rest := []) ⟨hx, hb, hml, hown, hts⟩ (k_Wlies l D k A a z G p0 ) (cwV 1 hts (gd_V hgd m1238 m1239 m1240 m117 m1241) rfl rfl rfl hd_X11_lies ⟨Nat.le_of_ble_eq_true rfl, Nat.le_of_ble_eq_true rfl⟩) (pre_W hW hB_G hK hZ hS kd_0 rfl) rfl rfl hl.1 rfl (lv_room (Nat.le_of_ble_eq_true rfl)) dL_law_1400 ⟨Nat.le_of_ble_eq_true rfl, Nat.le_of_ble_eq_true rfl⟩) hS (fun r_1 G_2 H locs hpo hW hS => ?_)
    have hX_5 : P_Wlies p0 G r_1 G_2 := hpo
    obtain ⟨hB_G_2, hq_3, -⟩ := hpo
    refine lv_pop hx hb dL_law_1403 rfl ?_
    refine lv_aload_n hx hb dL_law_1404 rfl (lv_at hl 2 rfl) ?_
    refine ld_1 hL hi0 hi6 hx hb hX hbl hbA hS hl dL_law_1405 dL_law_1406 dL_law_1407 dL_law_1408 dL_law_1409 hp0 ?_
    refine S_calli (va_runV (As := [.int p0]) (rest := []) ⟨hx, hb, hml, hown, hts⟩ (n_lies l D k A a z G_2 p0 ) (cwV 1 hts (gd_V hgd m2035 m2036 m2037 m131 m2038) rfl rfl rfl hd_X12_lies ⟨Nat.le_of_ble_eq_true rfl, Nat.le_of_ble_eq_true rfl⟩) (pre_W hW hB_G_2 hK hZ hS kd_66 rfl) rfl rfl hl.1 rfl (lv_room (Nat.le_of_ble_eq_true rfl)) dL_law_1410 ⟨Nat.le_of_ble_eq_true rfl, Nat.le_of_ble_eq_true rfl⟩) hS (fun r_6 G_7 H locs hpo hW hS => ?_)
    have hX_10 : Q_lies p0 G_2 r_6 G_7 := hpo
    obtain ⟨hB_G_7, hq_8, -⟩ := hpo
    refine lv_pop hx hb dL_law_1413 rfl ?_
    refine lv_goto (tgt := 1641) hx hb dL_law_1414 rfl ?_
    have fr_11 : Fr [] [] G G_7 := (Fr.call9 (rs := []) (fs := []) (Fr.call9 (rs := []) (fs := []) Fr.rf hq_3 rfl rfl) hq_8 rfl rfl)
    have g_12 : gIA G_7 = gIA G := gIA_fr fr_11 (gr_q rfl) (gf_q rfl)
    exact K G_7 _ _ _ (Or.inl (LI_of_1 (LIn_fr_1 (LIn_fr_1 (show LIn_1 G from ⟨hv_0_0, hv_0_1, hv_6_4, hj0, hj1, hj2, hj3, hj4, hj5, hj6, hj7, hj8, hj9, hj10, hj11⟩) hq_3 (by decide +kernel)) hq_8 (by decide +kernel)) (by omega))) hB_G_7 hW hS (lv_sub hl [0, 1, 2, 3] rfl)
  · skip
    obtain ⟨p0, hp0⟩ : ∃ y, y = xs (i0 + 1).toNatClampNeg := ⟨_, rfl⟩
    obtain ⟨p1, hp1⟩ : ∃ y, y = xs (i0 + 2).toNatClampNeg := ⟨_, rfl⟩
    obtain ⟨p2, hp2⟩ : ∃ y, y = xs (i0 + 3).toNatClampNeg := ⟨_, rfl⟩
    obtain ⟨p3, hp3⟩ : ∃ y, y = xs (i0 + 4).toNatClampNeg := ⟨_, rfl⟩
    obtain ⟨p4, hp4⟩ : ∃ y, y = xs (i0 + 5).toNatClampNeg := ⟨_, rfl⟩
    refine lv_aload_n hx hb dL_law_1394 rfl (lv_at hl 1 rfl) ?_
    refine ld_1 hL hi0 hi6 hx hb hX hbl hbA hS hl dL_law_1395 dL_law_1396 dL_law_1397 dL_law_1398 dL_law_1399 hp0 ?_
    refine S_calli (va_runV (As := [.int p0]) (rest := []) ⟨hx, hb, hml, hown, hts⟩ (k_Wlies l D k A a z G p0 ) (cwV 1 hts (gd_V hgd m1238 m1239 m1240 m117 m1241) rfl rfl rfl hd_X11_lies ⟨Nat.le_of_ble_eq_true rfl, Nat.le_of_ble_eq_true rfl⟩) (pre_W hW hB_G hK hZ hS kd_0 rfl) rfl rfl hl.1 rfl (lv_room (Nat.le_of_ble_eq_true rfl)) dL_law_1400 ⟨Nat.le_of_ble_eq_true rfl, Nat.le_of_ble_eq_true rfl⟩) hS (fun r_1 G_2 H locs hpo hW hS => ?_)
    have hX_5 : P_Wlies p0 G r_1 G_2 := hpo
    obtain ⟨hB_G_2, hq_3, -⟩ := hpo
    refine lv_pop hx hb dL_law_1403 rfl ?_
    refine lv_aload_n hx hb dL_law_1404 rfl (lv_at hl 2 rfl) ?_
    refine ld_1 hL hi0 hi6 hx hb hX hbl hbA hS hl dL_law_1405 dL_law_1406 dL_law_1407 dL_law_1408 dL_law_1409 hp0 ?_
    refine S_calli (va_runV (As := [.int p0]) (rest := []) ⟨hx, hb, hml, hown, hts⟩ (n_lies l D k A a z G_2 p0 ) (cwV 1 hts (gd_V hgd m2035 m2036 m2037 m131 m2038) rfl rfl rfl hd_X12_lies ⟨Nat.le_of_ble_eq_true rfl, Nat.le_of_ble_eq_true rfl⟩) (pre_W hW hB_G_2 hK hZ hS kd_66 rfl) rfl rfl hl.1 rfl (lv_room (Nat.le_of_ble_eq_true rfl)) dL_law_1410 ⟨Nat.le_of_ble_eq_true rfl, Nat.le_of_ble_eq_true rfl⟩) hS (fun r_6 G_7 H locs hpo hW hS => ?_)
    have hX_10 : Q_lies p0 G_2 r_6 G_7 := hpo
    obtain ⟨hB_G_7, hq_8, -⟩ := hpo
    refine lv_pop hx hb dL_law_1413 rfl ?_
    refine lv_goto (tgt := 1641) hx hb dL_law_1414 rfl ?_
    have fr_11 : Fr [] [] G G_7 := (Fr.call9 (rs := []) (fs := []) (Fr.call9 (rs := []) (fs := []) Fr.rf hq_3 rfl rfl) hq_8 rfl rfl)
    have g_12 : gIB G_7 = gIB G := gIB_fr fr_11 (gr_q rfl) (gf_q rfl)
    exact K G_7 _ _ _ (Or.inr (LI_of_2 (LIn_fr_2 (LIn_fr_2 (show LIn_2 G from ⟨hv_0_0, hv_0_1, hv_6_4, hj0, hj1, hj2, hj3, hj4, hj5, hj6, hj7, hj8, hj9, hj10, hj11⟩) hq_3 (by decide +kernel)) hq_8 (by decide +kernel)) (by omega))) hB_G_7 hW hS (lv_sub hl [0, 1, 2, 3] rfl)

set_option maxHeartbeats 4000000 in
set_option maxRecDepth 100000 in
theorem law_31 {p : Program} {l : Launch} {e : Env} {s : State} {m : MethodId} {below : List Frame} {meth : Method} {c : Code} {D : va_G} {k : KT} {A : Nat → Prop} {a : Nat → Nat} {z : SK} {b L : Nat} {xs : Nat → Int32} (hL : L ≤ 3072) (C0 : lw_At p s m meth c b L xs) (hK : cK D k s) (hZ : Sx A z s) (hbA : ¬ A b) {G : GS} {i0 : Int32} (hi0 : 0 ≤ i0.toInt) (hi6 : i0.toInt + 6 ≤ L) (hI : LI G) (hB_G : Bd G) {H : Heap} {locs : List Loc} {ls : Array Slot} (hW : Wd D k A a G H) (hS : va_S A s.heap H locs) (hl : lv_has ls 4 [(0, .ref b), (1, .ref (a 0)), (2, .ref (a 66)), (3, .int i0)]) (K : ∀ (G1 : GS) (H1 : Heap) (locs1 : List Loc) (ls1 : Array Slot), LI G1 → Bd G1 → Wd D k A a G1 H1 → va_S A s.heap H1 locs1 → lv_has ls1 4 [(0, .ref b), (1, .ref (a 0)), (2, .ref (a 66)), (3, .int i0)] → W p l e room_1 s m #[Value.ref b] below meth c H1 locs1 119 46443 (lw_Z below #[Value.ref b] s) (F0 m 1641 ls1 [])) : W p l e room_1 s m #[Value.ref b] below meth c H locs 119 46443 (lw_Z below #[Value.ref b] s) (F0 m 1417 ls []) := by
  obtain ⟨hx, hb, hr, hml, hown, hts, hX, hbl, hlocks, hgv⟩ := id C0
  have hown : s.vm.findClass RL = some m.cls := hown
  have hgd : ∀ w ∈ gd, w ∈ lw_tbl := fun w h => (List.mem_filter.mp h).1
  have hg : ∀ w ∈ gd, w.before #[Value.ref b] s = true := fun w h => hts w (hgd w h)
  rcases hI with ⟨hv_0_0, hv_0_1, hv_6_4, hj0, hj1, hj2, hj3, hj4, hj5, hj6, hj7, hj8, hj9, hj10, hj11, hj12⟩ | ⟨hv_0_0, hv_0_1, hv_6_4, hj0, hj1, hj2, hj3, hj4, hj5, hj6, hj7, hj8, hj9, hj10, hj11, hj12⟩
  · skip
    obtain ⟨p0, hp0⟩ : ∃ y, y = xs (i0 + 1).toNatClampNeg := ⟨_, rfl⟩
    obtain ⟨p1, hp1⟩ : ∃ y, y = xs (i0 + 2).toNatClampNeg := ⟨_, rfl⟩
    obtain ⟨p2, hp2⟩ : ∃ y, y = xs (i0 + 3).toNatClampNeg := ⟨_, rfl⟩
    obtain ⟨p3, hp3⟩ : ∃ y, y = xs (i0 + 4).toNatClampNeg := ⟨_, rfl⟩
    obtain ⟨p4, hp4⟩ : ∃ y, y = xs (i0 + 5).toNatClampNeg := ⟨_, rfl⟩
    refine lv_aload_n hx hb dL_law_1417 rfl (lv_at hl 1 rfl) ?_
    refine ld_1 hL hi0 hi6 hx hb hX hbl hbA hS hl dL_law_1418 dL_law_1419 dL_law_1420 dL_law_1421 dL_law_1422 hp0 ?_
    refine ld_2 hL hi0 hi6 hx hb hX hbl hbA hS hl dL_law_1423 dL_law_1424 dL_law_1425 dL_law_1426 dL_law_1427 hp1 ?_
    refine ld_3 hL hi0 hi6 hx hb hX hbl hbA hS hl dL_law_1428 dL_law_1429 dL_law_1430 dL_law_1431 dL_law_1432 hp2 ?_
    refine S_calli (va_runV (As := [.int p0, .int p1, .int p2]) (rest := []) ⟨hx, hb, hml, hown, hts⟩ (k_Wsight_1 l D k A a z G p0 p1 p2 hv_0_0 hv_0_1 hv_6_4) (cwV 3 hts (gd_V hgd m1242 m1243 m1244 m117 m1245) rfl rfl rfl hd_X11_sight ⟨Nat.le_of_ble_eq_true rfl, Nat.le_of_ble_eq_true rfl⟩) (pre_W hW hB_G hK hZ hS kd_0 rfl) rfl rfl hl.1 rfl (lv_room (Nat.le_of_ble_eq_true rfl)) dL_law_1433 ⟨Nat.le_of_ble_eq_true rfl, Nat.le_of_ble_eq_true rfl⟩) hS (fun r_1 G_2 H locs hpo hW hS => ?_)
    have hX_5 : P_Wsight_1 p0 p1 p2 G r_1 G_2 := hpo
    obtain ⟨hB_G_2, hq_3, -⟩ := hpo
    refine lv_pop hx hb dL_law_1436 rfl ?_
    refine lv_aload_n hx hb dL_law_1437 rfl (lv_at hl 2 rfl) ?_
    refine ld_1 hL hi0 hi6 hx hb hX hbl hbA hS hl dL_law_1438 dL_law_1439 dL_law_1440 dL_law_1441 dL_law_1442 hp0 ?_
    refine ld_2 hL hi0 hi6 hx hb hX hbl hbA hS hl dL_law_1443 dL_law_1444 dL_law_1445 dL_law_1446 dL_law_1447 hp1 ?_
    refine ld_3 hL hi0 hi6 hx hb hX hbl hbA hS hl dL_law_1448 dL_law_1449 dL_law_1450 dL_law_1451 dL_law_1452 hp2 ?_
    have fr_6 : Fr [61, 62, 63, 64, 65] [(31, 5)] G G_2 := (Fr.call9 (rs := [61, 62, 63, 64, 65]) (fs := [(31, 5)]) Fr.rf hq_3 rfl rfl)
    have g_7 : gW G_2 = gW G := gW_fr fr_6 (gr_q rfl) (gf_q rfl)
    have g_8 : gS G_2 = gS G := gS_fr fr_6 (gr_q rfl) (gf_q rfl)
    refine S_calli (va_runV (As := [.int p0, .int p1, .int p2]) (rest := []) ⟨hx, hb, hml, hown, hts⟩ (n_sight l D k A a z G_2 p0 p1 p2 (by omega) (by omega)) (cwV 3 hts (gd_V hgd m2039 m2040 m2041 m131 m2042) rfl rfl rfl hd_X12_sight ⟨Nat.le_of_ble_eq_true rfl, Nat.le_of_ble_eq_true rfl⟩) (pre_W hW hB_G_2 hK hZ hS kd_66 rfl) rfl rfl hl.1 rfl (lv_room (Nat.le_of_ble_eq_true rfl)) dL_law_1453 ⟨Nat.le_of_ble_eq_true rfl, Nat.le_of_ble_eq_true rfl⟩) hS (fun r_9 G_10 H locs hpo hW hS => ?_)
    have hX_13 : Q_sight p0 p1 p2 G_2 r_9 G_10 := hpo
    obtain ⟨hB_G_10, hq_11, hp_12, -⟩ := hpo
    obtain ⟨u_14, u_15⟩ := L_sight_1 hX_5 hX_13 rfl rfl rfl (by omega) hB_G (by omega)
    refine lv_pop hx hb dL_law_1456 rfl ?_
    refine lv_goto (tgt := 1641) hx hb dL_law_1457 rfl ?_
    have fr_16 : Fr [112, 113, 114, 115, 116, 61, 62, 63, 64, 65] [(31, 5), (66, 85)] G G_10 := (Fr.call9 (rs := [112, 113, 114, 115, 116, 61, 62, 63, 64, 65]) (fs := [(31, 5), (66, 85)]) (Fr.call9 (rs := [112, 113, 114, 115, 116, 61, 62, 63, 64, 65]) (fs := [(31, 5), (66, 85)]) Fr.rf hq_3 rfl rfl) hq_11 rfl rfl)
    have g_17 : gO G_10 = gO G := gO_fr fr_16 (gr_q rfl) (gf_q rfl)
    have g_18 : gP G_10 = gP G := gP_fr fr_16 (gr_q rfl) (gf_q rfl)
    have g_19 : gTE G_10 = gTE G := gTE_fr fr_16 (gr_q rfl) (gf_q rfl)
    have g_20 : gW G_10 = gW G := gW_fr fr_16 (gr_q rfl) (gf_q rfl)
    have b_21 : 0 ≤ (G.1 0 11).toInt ∧ (G.1 0 11).toInt ≤ 1600 := bd_0_11 hB_G
    have g_22 : (G_10.1 0 11).toInt = (G.1 0 11).toInt := (congrArg Int32.toInt (show G_10.1 0 11 = (G.1 0 11) from ((hq_11.i9 0 11 rfl rfl).trans (hq_3.i9 0 11 rfl rfl))))
    have b_23 : 0 ≤ (G.1 3 7).toInt ∧ (G.1 3 7).toInt ≤ 4 := bd_3_7 hB_G
    have g_24 : (G_10.1 3 7).toInt = (G.1 3 7).toInt := (congrArg Int32.toInt (show G_10.1 3 7 = (G.1 3 7) from ((hq_11.i9 3 7 rfl rfl).trans (hq_3.i9 3 7 rfl rfl))))
    have b_25 : (-1) ≤ (G.1 3 8).toInt ∧ (G.1 3 8).toInt ≤ 1600 := bd_3_8 hB_G
    have g_26 : (G_10.1 3 8).toInt = (G.1 3 8).toInt := (congrArg Int32.toInt (show G_10.1 3 8 = (G.1 3 8) from ((hq_11.i9 3 8 rfl rfl).trans (hq_3.i9 3 8 rfl rfl))))
    have b_27 : 0 ≤ (G.1 30 4).toInt ∧ (G.1 30 4).toInt ≤ 40 := bd_30_4 hB_G
    have g_28 : (G_10.1 30 4).toInt = (G.1 30 4).toInt := (congrArg Int32.toInt (show G_10.1 30 4 = (G.1 30 4) from ((hq_11.i9 30 4 rfl rfl).trans (hq_3.i9 30 4 rfl rfl))))
    have b_29 : 0 ≤ (G.1 30 5).toInt ∧ (G.1 30 5).toInt ≤ 40 := bd_30_5 hB_G
    have g_30 : (G_10.1 30 5).toInt = (G.1 30 5).toInt := (congrArg Int32.toInt (show G_10.1 30 5 = (G.1 30 5) from ((hq_11.i9 30 5 rfl rfl).trans (hq_3.i9 30 5 rfl rfl))))
    have b_31 : 0 ≤ (G.1 31 6).toInt ∧ (G.1 31 6).toInt ≤ 100000 := bd_31_6 hB_G
    have g_32 : (G_10.1 31 6).toInt = (G.1 31 6).toInt := (congrArg Int32.toInt (show G_10.1 31 6 = (G.1 31 6) from ((hq_11.i9 31 6 rfl rfl).trans (hq_3.i9 31 6 rfl rfl))))
    have b_33 : 0 ≤ (G.1 66 1).toInt ∧ (G.1 66 1).toInt ≤ 1600 := bd_66_1 hB_G
    have g_34 : (G_10.1 66 1).toInt = (G.1 66 1).toInt := (congrArg Int32.toInt (show G_10.1 66 1 = (G.1 66 1) from ((hq_11.i9 66 1 rfl rfl).trans (hq_3.i9 66 1 rfl rfl))))
    have b_35 : 0 ≤ (G.1 66 2).toInt ∧ (G.1 66 2).toInt ≤ 4 := bd_66_2 hB_G
    have g_36 : (G_10.1 66 2).toInt = (G.1 66 2).toInt := (congrArg Int32.toInt (show G_10.1 66 2 = (G.1 66 2) from ((hq_11.i9 66 2 rfl rfl).trans (hq_3.i9 66 2 rfl rfl))))
    have b_37 : (-1) ≤ (G.1 66 3).toInt ∧ (G.1 66 3).toInt ≤ 1600 := bd_66_3 hB_G
    have g_38 : (G_10.1 66 3).toInt = (G.1 66 3).toInt := (congrArg Int32.toInt (show G_10.1 66 3 = (G.1 66 3) from ((hq_11.i9 66 3 rfl rfl).trans (hq_3.i9 66 3 rfl rfl))))
    have b_39 : 0 ≤ (G.1 66 78).toInt ∧ (G.1 66 78).toInt ≤ 40 := bd_66_78 hB_G
    have g_40 : (G_10.1 66 78).toInt = (G.1 66 78).toInt := (congrArg Int32.toInt (show G_10.1 66 78 = (G.1 66 78) from ((hq_11.i9 66 78 rfl rfl).trans (hq_3.i9 66 78 rfl rfl))))
    have b_41 : 0 ≤ (G.1 66 79).toInt ∧ (G.1 66 79).toInt ≤ 40 := bd_66_79 hB_G
    have g_42 : (G_10.1 66 79).toInt = (G.1 66 79).toInt := (congrArg Int32.toInt (show G_10.1 66 79 = (G.1 66 79) from ((hq_11.i9 66 79 rfl rfl).trans (hq_3.i9 66 79 rfl rfl))))
    have b_43 : 0 ≤ (G.1 66 86).toInt ∧ (G.1 66 86).toInt ≤ 100000 := bd_66_86 hB_G
    have g_44 : (G_10.1 66 86).toInt = (G.1 66 86).toInt := (congrArg Int32.toInt (show G_10.1 66 86 = (G.1 66 86) from ((hq_11.i9 66 86 rfl rfl).trans (hq_3.i9 66 86 rfl rfl))))
    have b_45 : 0 ≤ (G.1 96 0).toInt ∧ (G.1 96 0).toInt ≤ 9 := bd_96_0 hB_G
    have g_46 : (G_10.1 96 0).toInt = (G.1 96 0).toInt := (congrArg Int32.toInt (show G_10.1 96 0 = (G.1 96 0) from ((hq_11.i9 96 0 rfl rfl).trans (hq_3.i9 96 0 rfl rfl))))
    have b_47 : 0 ≤ (G.1 96 1).toInt ∧ (G.1 96 1).toInt ≤ 9 := bd_96_1 hB_G
    have g_48 : (G_10.1 96 1).toInt = (G.1 96 1).toInt := (congrArg Int32.toInt (show G_10.1 96 1 = (G.1 96 1) from ((hq_11.i9 96 1 rfl rfl).trans (hq_3.i9 96 1 rfl rfl))))
    have b_49 : 0 ≤ (G.1 96 2).toInt ∧ (G.1 96 2).toInt ≤ 9 := bd_96_2 hB_G
    have g_50 : (G_10.1 96 2).toInt = (G.1 96 2).toInt := (congrArg Int32.toInt (show G_10.1 96 2 = (G.1 96 2) from ((hq_11.i9 96 2 rfl rfl).trans (hq_3.i9 96 2 rfl rfl))))
    exact K G_10 _ _ _ (Or.inl ⟨((((hq_11.r9 0 0 rfl rfl).trans (hq_3.r9 0 0 rfl rfl))).trans (hv_0_0)), ((((hq_11.r9 0 1 rfl rfl).trans (hq_3.r9 0 1 rfl rfl))).trans (hv_0_1)), ((((hq_11.r9 6 4 rfl rfl).trans (hq_3.r9 6 4 rfl rfl))).trans (hv_6_4)), by omega, by omega, by omega, by omega, by omega, by omega, by omega, by omega, by omega, by omega, by omega, by omega, by omega⟩) hB_G_10 hW hS (lv_sub hl [0, 1, 2, 3] rfl)
  · skip
    obtain ⟨p0, hp0⟩ : ∃ y, y = xs (i0 + 1).toNatClampNeg := ⟨_, rfl⟩
    obtain ⟨p1, hp1⟩ : ∃ y, y = xs (i0 + 2).toNatClampNeg := ⟨_, rfl⟩
    obtain ⟨p2, hp2⟩ : ∃ y, y = xs (i0 + 3).toNatClampNeg := ⟨_, rfl⟩
    obtain ⟨p3, hp3⟩ : ∃ y, y = xs (i0 + 4).toNatClampNeg := ⟨_, rfl⟩
    obtain ⟨p4, hp4⟩ : ∃ y, y = xs (i0 + 5).toNatClampNeg := ⟨_, rfl⟩
    refine lv_aload_n hx hb dL_law_1417 rfl (lv_at hl 1 rfl) ?_
    refine ld_1 hL hi0 hi6 hx hb hX hbl hbA hS hl dL_law_1418 dL_law_1419 dL_law_1420 dL_law_1421 dL_law_1422 hp0 ?_
    refine ld_2 hL hi0 hi6 hx hb hX hbl hbA hS hl dL_law_1423 dL_law_1424 dL_law_1425 dL_law_1426 dL_law_1427 hp1 ?_
    refine ld_3 hL hi0 hi6 hx hb hX hbl hbA hS hl dL_law_1428 dL_law_1429 dL_law_1430 dL_law_1431 dL_law_1432 hp2 ?_
    refine S_calli (va_runV (As := [.int p0, .int p1, .int p2]) (rest := []) ⟨hx, hb, hml, hown, hts⟩ (k_Wsight_2 l D k A a z G p0 p1 p2 hv_0_0 hv_0_1 hv_6_4) (cwV 3 hts (gd_V hgd m1242 m1243 m1244 m117 m1245) rfl rfl rfl hd_X11_sight ⟨Nat.le_of_ble_eq_true rfl, Nat.le_of_ble_eq_true rfl⟩) (pre_W hW hB_G hK hZ hS kd_0 rfl) rfl rfl hl.1 rfl (lv_room (Nat.le_of_ble_eq_true rfl)) dL_law_1433 ⟨Nat.le_of_ble_eq_true rfl, Nat.le_of_ble_eq_true rfl⟩) hS (fun r_1 G_2 H locs hpo hW hS => ?_)
    have hX_5 : P_Wsight_2 p0 p1 p2 G r_1 G_2 := hpo
    obtain ⟨hB_G_2, hq_3, -⟩ := hpo
    refine lv_pop hx hb dL_law_1436 rfl ?_
    refine lv_aload_n hx hb dL_law_1437 rfl (lv_at hl 2 rfl) ?_
    refine ld_1 hL hi0 hi6 hx hb hX hbl hbA hS hl dL_law_1438 dL_law_1439 dL_law_1440 dL_law_1441 dL_law_1442 hp0 ?_
    refine ld_2 hL hi0 hi6 hx hb hX hbl hbA hS hl dL_law_1443 dL_law_1444 dL_law_1445 dL_law_1446 dL_law_1447 hp1 ?_
    refine ld_3 hL hi0 hi6 hx hb hX hbl hbA hS hl dL_law_1448 dL_law_1449 dL_law_1450 dL_law_1451 dL_law_1452 hp2 ?_
    have fr_6 : Fr [61, 62, 63, 64, 65] [(31, 5)] G G_2 := (Fr.call9 (rs := [61, 62, 63, 64, 65]) (fs := [(31, 5)]) Fr.rf hq_3 rfl rfl)
    have g_7 : gW G_2 = gW G := gW_fr fr_6 (gr_q rfl) (gf_q rfl)
    have g_8 : gS G_2 = gS G := gS_fr fr_6 (gr_q rfl) (gf_q rfl)
    refine S_calli (va_runV (As := [.int p0, .int p1, .int p2]) (rest := []) ⟨hx, hb, hml, hown, hts⟩ (n_sight l D k A a z G_2 p0 p1 p2 (by omega) (by omega)) (cwV 3 hts (gd_V hgd m2039 m2040 m2041 m131 m2042) rfl rfl rfl hd_X12_sight ⟨Nat.le_of_ble_eq_true rfl, Nat.le_of_ble_eq_true rfl⟩) (pre_W hW hB_G_2 hK hZ hS kd_66 rfl) rfl rfl hl.1 rfl (lv_room (Nat.le_of_ble_eq_true rfl)) dL_law_1453 ⟨Nat.le_of_ble_eq_true rfl, Nat.le_of_ble_eq_true rfl⟩) hS (fun r_9 G_10 H locs hpo hW hS => ?_)
    have hX_13 : Q_sight p0 p1 p2 G_2 r_9 G_10 := hpo
    obtain ⟨hB_G_10, hq_11, hp_12, -⟩ := hpo
    obtain ⟨u_14, u_15⟩ := L_sight_2 hX_5 hX_13 rfl rfl rfl (by omega) hB_G (by omega)
    refine lv_pop hx hb dL_law_1456 rfl ?_
    refine lv_goto (tgt := 1641) hx hb dL_law_1457 rfl ?_
    have fr_16 : Fr [112, 113, 114, 115, 116, 61, 62, 63, 64, 65] [(31, 5), (66, 85)] G G_10 := (Fr.call9 (rs := [112, 113, 114, 115, 116, 61, 62, 63, 64, 65]) (fs := [(31, 5), (66, 85)]) (Fr.call9 (rs := [112, 113, 114, 115, 116, 61, 62, 63, 64, 65]) (fs := [(31, 5), (66, 85)]) Fr.rf hq_3 rfl rfl) hq_11 rfl rfl)
    have g_17 : gO G_10 = gO G := gO_fr fr_16 (gr_q rfl) (gf_q rfl)
    have g_18 : gP G_10 = gP G := gP_fr fr_16 (gr_q rfl) (gf_q rfl)
    have g_19 : gTE G_10 = gTE G := gTE_fr fr_16 (gr_q rfl) (gf_q rfl)
    have g_20 : gW G_10 = gW G := gW_fr fr_16 (gr_q rfl) (gf_q rfl)
    have b_21 : 0 ≤ (G.1 0 11).toInt ∧ (G.1 0 11).toInt ≤ 1600 := bd_0_11 hB_G
    have g_22 : (G_10.1 0 11).toInt = (G.1 0 11).toInt := (congrArg Int32.toInt (show G_10.1 0 11 = (G.1 0 11) from ((hq_11.i9 0 11 rfl rfl).trans (hq_3.i9 0 11 rfl rfl))))
    have b_23 : 0 ≤ (G.1 3 7).toInt ∧ (G.1 3 7).toInt ≤ 4 := bd_3_7 hB_G
    have g_24 : (G_10.1 3 7).toInt = (G.1 3 7).toInt := (congrArg Int32.toInt (show G_10.1 3 7 = (G.1 3 7) from ((hq_11.i9 3 7 rfl rfl).trans (hq_3.i9 3 7 rfl rfl))))
    have b_25 : (-1) ≤ (G.1 3 8).toInt ∧ (G.1 3 8).toInt ≤ 1600 := bd_3_8 hB_G
    have g_26 : (G_10.1 3 8).toInt = (G.1 3 8).toInt := (congrArg Int32.toInt (show G_10.1 3 8 = (G.1 3 8) from ((hq_11.i9 3 8 rfl rfl).trans (hq_3.i9 3 8 rfl rfl))))
    have b_27 : 0 ≤ (G.1 30 4).toInt ∧ (G.1 30 4).toInt ≤ 40 := bd_30_4 hB_G
    have g_28 : (G_10.1 30 4).toInt = (G.1 30 4).toInt := (congrArg Int32.toInt (show G_10.1 30 4 = (G.1 30 4) from ((hq_11.i9 30 4 rfl rfl).trans (hq_3.i9 30 4 rfl rfl))))
    have b_29 : 0 ≤ (G.1 30 5).toInt ∧ (G.1 30 5).toInt ≤ 40 := bd_30_5 hB_G
    have g_30 : (G_10.1 30 5).toInt = (G.1 30 5).toInt := (congrArg Int32.toInt (show G_10.1 30 5 = (G.1 30 5) from ((hq_11.i9 30 5 rfl rfl).trans (hq_3.i9 30 5 rfl rfl))))
    have b_31 : 0 ≤ (G.1 31 6).toInt ∧ (G.1 31 6).toInt ≤ 100000 := bd_31_6 hB_G
    have g_32 : (G_10.1 31 6).toInt = (G.1 31 6).toInt := (congrArg Int32.toInt (show G_10.1 31 6 = (G.1 31 6) from ((hq_11.i9 31 6 rfl rfl).trans (hq_3.i9 31 6 rfl rfl))))
    have b_33 : 0 ≤ (G.1 66 1).toInt ∧ (G.1 66 1).toInt ≤ 1600 := bd_66_1 hB_G
    have g_34 : (G_10.1 66 1).toInt = (G.1 66 1).toInt := (congrArg Int32.toInt (show G_10.1 66 1 = (G.1 66 1) from ((hq_11.i9 66 1 rfl rfl).trans (hq_3.i9 66 1 rfl rfl))))
    have b_35 : 0 ≤ (G.1 66 2).toInt ∧ (G.1 66 2).toInt ≤ 4 := bd_66_2 hB_G
    have g_36 : (G_10.1 66 2).toInt = (G.1 66 2).toInt := (congrArg Int32.toInt (show G_10.1 66 2 = (G.1 66 2) from ((hq_11.i9 66 2 rfl rfl).trans (hq_3.i9 66 2 rfl rfl))))
    have b_37 : (-1) ≤ (G.1 66 3).toInt ∧ (G.1 66 3).toInt ≤ 1600 := bd_66_3 hB_G
    have g_38 : (G_10.1 66 3).toInt = (G.1 66 3).toInt := (congrArg Int32.toInt (show G_10.1 66 3 = (G.1 66 3) from ((hq_11.i9 66 3 rfl rfl).trans (hq_3.i9 66 3 rfl rfl))))
    have b_39 : 0 ≤ (G.1 66 78).toInt ∧ (G.1 66 78).toInt ≤ 40 := bd_66_78 hB_G
    have g_40 : (G_10.1 66 78).toInt = (G.1 66 78).toInt := (congrArg Int32.toInt (show G_10.1 66 78 = (G.1 66 78) from ((hq_11.i9 66 78 rfl rfl).trans (hq_3.i9 66 78 rfl rfl))))
    have b_41 : 0 ≤ (G.1 66 79).toInt ∧ (G.1 66 79).toInt ≤ 40 := bd_66_79 hB_G
    have g_42 : (G_10.1 66 79).toInt = (G.1 66 79).toInt := (congrArg Int32.toInt (show G_10.1 66 79 = (G.1 66 79) from ((hq_11.i9 66 79 rfl rfl).trans (hq_3.i9 66 79 rfl rfl))))
    have b_43 : 0 ≤ (G.1 66 86).toInt ∧ (G.1 66 86).toInt ≤ 100000 := bd_66_86 hB_G
    have g_44 : (G_10.1 66 86).toInt = (G.1 66 86).toInt := (congrArg Int32.toInt (show G_10.1 66 86 = (G.1 66 86) from ((hq_11.i9 66 86 rfl rfl).trans (hq_3.i9 66 86 rfl rfl))))
    have b_45 : 0 ≤ (G.1 96 0).toInt ∧ (G.1 96 0).toInt ≤ 9 := bd_96_0 hB_G
    have g_46 : (G_10.1 96 0).toInt = (G.1 96 0).toInt := (congrArg Int32.toInt (show G_10.1 96 0 = (G.1 96 0) from ((hq_11.i9 96 0 rfl rfl).trans (hq_3.i9 96 0 rfl rfl))))
    have b_47 : 0 ≤ (G.1 96 1).toInt ∧ (G.1 96 1).toInt ≤ 9 := bd_96_1 hB_G
    have g_48 : (G_10.1 96 1).toInt = (G.1 96 1).toInt := (congrArg Int32.toInt (show G_10.1 96 1 = (G.1 96 1) from ((hq_11.i9 96 1 rfl rfl).trans (hq_3.i9 96 1 rfl rfl))))
    have b_49 : 0 ≤ (G.1 96 2).toInt ∧ (G.1 96 2).toInt ≤ 9 := bd_96_2 hB_G
    have g_50 : (G_10.1 96 2).toInt = (G.1 96 2).toInt := (congrArg Int32.toInt (show G_10.1 96 2 = (G.1 96 2) from ((hq_11.i9 96 2 rfl rfl).trans (hq_3.i9 96 2 rfl rfl))))
    exact K G_10 _ _ _ (Or.inr ⟨((((hq_11.r9 0 0 rfl rfl).trans (hq_3.r9 0 0 rfl rfl))).trans (hv_0_0)), ((((hq_11.r9 0 1 rfl rfl).trans (hq_3.r9 0 1 rfl rfl))).trans (hv_0_1)), ((((hq_11.r9 6 4 rfl rfl).trans (hq_3.r9 6 4 rfl rfl))).trans (hv_6_4)), by omega, by omega, by omega, by omega, by omega, by omega, by omega, by omega, by omega, by omega, by omega, by omega, by omega⟩) hB_G_10 hW hS (lv_sub hl [0, 1, 2, 3] rfl)

set_option maxHeartbeats 4000000 in
set_option maxRecDepth 100000 in
theorem law_32 {p : Program} {l : Launch} {e : Env} {s : State} {m : MethodId} {below : List Frame} {meth : Method} {c : Code} {D : va_G} {k : KT} {A : Nat → Prop} {a : Nat → Nat} {z : SK} {b L : Nat} {xs : Nat → Int32} (hL : L ≤ 3072) (C0 : lw_At p s m meth c b L xs) (hK : cK D k s) (hZ : Sx A z s) (hbA : ¬ A b) {G : GS} {i0 : Int32} (hi0 : 0 ≤ i0.toInt) (hi6 : i0.toInt + 6 ≤ L) (hI : LI G) (hB_G : Bd G) {H : Heap} {locs : List Loc} {ls : Array Slot} (hW : Wd D k A a G H) (hS : va_S A s.heap H locs) (hl : lv_has ls 4 [(0, .ref b), (1, .ref (a 0)), (2, .ref (a 66)), (3, .int i0)]) (K : ∀ (G1 : GS) (H1 : Heap) (locs1 : List Loc) (ls1 : Array Slot), LI G1 → Bd G1 → Wd D k A a G1 H1 → va_S A s.heap H1 locs1 → lv_has ls1 4 [(0, .ref b), (1, .ref (a 0)), (2, .ref (a 66)), (3, .int i0)] → W p l e room_1 s m #[Value.ref b] below meth c H1 locs1 119 46443 (lw_Z below #[Value.ref b] s) (F0 m 1641 ls1 [])) : W p l e room_1 s m #[Value.ref b] below meth c H locs 119 46443 (lw_Z below #[Value.ref b] s) (F0 m 1460 ls []) := by
  obtain ⟨hx, hb, hr, hml, hown, hts, hX, hbl, hlocks, hgv⟩ := id C0
  have hown : s.vm.findClass RL = some m.cls := hown
  have hgd : ∀ w ∈ gd, w ∈ lw_tbl := fun w h => (List.mem_filter.mp h).1
  have hg : ∀ w ∈ gd, w.before #[Value.ref b] s = true := fun w h => hts w (hgd w h)
  rcases hI with ⟨hv_0_0, hv_0_1, hv_6_4, hj0, hj1, hj2, hj3, hj4, hj5, hj6, hj7, hj8, hj9, hj10, hj11, hj12⟩ | ⟨hv_0_0, hv_0_1, hv_6_4, hj0, hj1, hj2, hj3, hj4, hj5, hj6, hj7, hj8, hj9, hj10, hj11, hj12⟩
  · skip
    obtain ⟨p0, hp0⟩ : ∃ y, y = xs (i0 + 1).toNatClampNeg := ⟨_, rfl⟩
    obtain ⟨p1, hp1⟩ : ∃ y, y = xs (i0 + 2).toNatClampNeg := ⟨_, rfl⟩
    obtain ⟨p2, hp2⟩ : ∃ y, y = xs (i0 + 3).toNatClampNeg := ⟨_, rfl⟩
    obtain ⟨p3, hp3⟩ : ∃ y, y = xs (i0 + 4).toNatClampNeg := ⟨_, rfl⟩
    obtain ⟨p4, hp4⟩ : ∃ y, y = xs (i0 + 5).toNatClampNeg := ⟨_, rfl⟩
    refine lv_aload_n hx hb dL_law_1460 rfl (lv_at hl 1 rfl) ?_
    refine ld_1 hL hi0 hi6 hx hb hX hbl hbA hS hl dL_law_1461 dL_law_1462 dL_law_1463 dL_law_1464 dL_law_1465 hp0 ?_
    refine S_calli (va_runV (As := [.int p0]) (rest := []) ⟨hx, hb, hml, hown, hts⟩ (k_Wuntell l D k A a z G p0 ) (cwV 1 hts (gd_V hgd m1250 m1251 m1252 m117 m1253) rfl rfl rfl hd_X11_untell ⟨Nat.le_of_ble_eq_true rfl, Nat.le_of_ble_eq_true rfl⟩) (pre_W hW hB_G hK hZ hS kd_0 rfl) rfl rfl hl.1 rfl (lv_room (Nat.le_of_ble_eq_true rfl)) dL_law_1466 ⟨Nat.le_of_ble_eq_true rfl, Nat.le_of_ble_eq_true rfl⟩) hS (fun r_1 G_2 H locs hpo hW hS => ?_)
    have hX_5 : P_Wuntell p0 G r_1 G_2 := hpo
    obtain ⟨hB_G_2, hq_3, f_6, -⟩ := hpo
    refine lv_pop hx hb dL_law_1469 rfl ?_
    refine lv_aload_n hx hb dL_law_1470 rfl (lv_at hl 2 rfl) ?_
    refine ld_1 hL hi0 hi6 hx hb hX hbl hbA hS hl dL_law_1471 dL_law_1472 dL_law_1473 dL_law_1474 dL_law_1475 hp0 ?_
    refine S_calli (va_runV (As := [.int p0]) (rest := []) ⟨hx, hb, hml, hown, hts⟩ (n_untell l D k A a z G_2 p0 ) (cwV 1 hts (gd_V hgd m2043 m2044 m2045 m131 m2046) rfl rfl rfl hd_X12_untell ⟨Nat.le_of_ble_eq_true rfl, Nat.le_of_ble_eq_true rfl⟩) (pre_W hW hB_G_2 hK hZ hS kd_66 rfl) rfl rfl hl.1 rfl (lv_room (Nat.le_of_ble_eq_true rfl)) dL_law_1476 ⟨Nat.le_of_ble_eq_true rfl, Nat.le_of_ble_eq_true rfl⟩) hS (fun r_7 G_8 H locs hpo hW hS => ?_)
    have hX_11 : Q_untell p0 G_2 r_7 G_8 := hpo
    obtain ⟨hB_G_8, hq_9, f_12, -⟩ := hpo
    obtain ⟨u_13, u_14⟩ := L_untell_1 hX_5 hX_11 rfl (by omega) hB_G (by omega)
    refine lv_pop hx hb dL_law_1479 rfl ?_
    refine lv_goto (tgt := 1641) hx hb dL_law_1480 rfl ?_
    exact K G_8 _ _ _ (Or.inl (LI_of_1 (LIn_fr_1 (LIn_fr_1 (show LIn_1 G from ⟨hv_0_0, hv_0_1, hv_6_4, hj0, hj1, hj2, hj3, hj4, hj5, hj6, hj7, hj8, hj9, hj10, hj11⟩) hq_3 (by decide +kernel)) hq_9 (by decide +kernel)) (by omega))) hB_G_8 hW hS (lv_sub hl [0, 1, 2, 3] rfl)
  · skip
    obtain ⟨p0, hp0⟩ : ∃ y, y = xs (i0 + 1).toNatClampNeg := ⟨_, rfl⟩
    obtain ⟨p1, hp1⟩ : ∃ y, y = xs (i0 + 2).toNatClampNeg := ⟨_, rfl⟩
    obtain ⟨p2, hp2⟩ : ∃ y, y = xs (i0 + 3).toNatClampNeg := ⟨_, rfl⟩
    obtain ⟨p3, hp3⟩ : ∃ y, y = xs (i0 + 4).toNatClampNeg := ⟨_, rfl⟩
    obtain ⟨p4, hp4⟩ : ∃ y, y = xs (i0 + 5).toNatClampNeg := ⟨_, rfl⟩
    refine lv_aload_n hx hb dL_law_1460 rfl (lv_at hl 1 rfl) ?_
    refine ld_1 hL hi0 hi6 hx hb hX hbl hbA hS hl dL_law_1461 dL_law_1462 dL_law_1463 dL_law_1464 dL_law_1465 hp0 ?_
    refine S_calli (va_runV (As := [.int p0]) (rest := []) ⟨hx, hb, hml, hown, hts⟩ (k_Wuntell l D k A a z G p0 ) (cwV 1 hts (gd_V hgd m1250 m1251 m1252 m117 m1253) rfl rfl rfl hd_X11_untell ⟨Nat.le_of_ble_eq_true rfl, Nat.le_of_ble_eq_true rfl⟩) (pre_W hW hB_G hK hZ hS kd_0 rfl) rfl rfl hl.1 rfl (lv_room (Nat.le_of_ble_eq_true rfl)) dL_law_1466 ⟨Nat.le_of_ble_eq_true rfl, Nat.le_of_ble_eq_true rfl⟩) hS (fun r_1 G_2 H locs hpo hW hS => ?_)
    have hX_5 : P_Wuntell p0 G r_1 G_2 := hpo
    obtain ⟨hB_G_2, hq_3, f_6, -⟩ := hpo
    refine lv_pop hx hb dL_law_1469 rfl ?_
    refine lv_aload_n hx hb dL_law_1470 rfl (lv_at hl 2 rfl) ?_
    refine ld_1 hL hi0 hi6 hx hb hX hbl hbA hS hl dL_law_1471 dL_law_1472 dL_law_1473 dL_law_1474 dL_law_1475 hp0 ?_
    refine S_calli (va_runV (As := [.int p0]) (rest := []) ⟨hx, hb, hml, hown, hts⟩ (n_untell l D k A a z G_2 p0 ) (cwV 1 hts (gd_V hgd m2043 m2044 m2045 m131 m2046) rfl rfl rfl hd_X12_untell ⟨Nat.le_of_ble_eq_true rfl, Nat.le_of_ble_eq_true rfl⟩) (pre_W hW hB_G_2 hK hZ hS kd_66 rfl) rfl rfl hl.1 rfl (lv_room (Nat.le_of_ble_eq_true rfl)) dL_law_1476 ⟨Nat.le_of_ble_eq_true rfl, Nat.le_of_ble_eq_true rfl⟩) hS (fun r_7 G_8 H locs hpo hW hS => ?_)
    have hX_11 : Q_untell p0 G_2 r_7 G_8 := hpo
    obtain ⟨hB_G_8, hq_9, f_12, -⟩ := hpo
    obtain ⟨u_13, u_14⟩ := L_untell_2 hX_5 hX_11 rfl (by omega) hB_G (by omega)
    refine lv_pop hx hb dL_law_1479 rfl ?_
    refine lv_goto (tgt := 1641) hx hb dL_law_1480 rfl ?_
    exact K G_8 _ _ _ (Or.inr (LI_of_2 (LIn_fr_2 (LIn_fr_2 (show LIn_2 G from ⟨hv_0_0, hv_0_1, hv_6_4, hj0, hj1, hj2, hj3, hj4, hj5, hj6, hj7, hj8, hj9, hj10, hj11⟩) hq_3 (by decide +kernel)) hq_9 (by decide +kernel)) (by omega))) hB_G_8 hW hS (lv_sub hl [0, 1, 2, 3] rfl)

set_option maxHeartbeats 4000000 in
set_option maxRecDepth 100000 in
theorem law_33 {p : Program} {l : Launch} {e : Env} {s : State} {m : MethodId} {below : List Frame} {meth : Method} {c : Code} {D : va_G} {k : KT} {A : Nat → Prop} {a : Nat → Nat} {z : SK} {b L : Nat} {xs : Nat → Int32} (hL : L ≤ 3072) (C0 : lw_At p s m meth c b L xs) (hK : cK D k s) (hZ : Sx A z s) (hbA : ¬ A b) {G : GS} {i0 : Int32} (hi0 : 0 ≤ i0.toInt) (hi6 : i0.toInt + 6 ≤ L) (hI : LI G) (hB_G : Bd G) {H : Heap} {locs : List Loc} {ls : Array Slot} (hW : Wd D k A a G H) (hS : va_S A s.heap H locs) (hl : lv_has ls 4 [(0, .ref b), (1, .ref (a 0)), (2, .ref (a 66)), (3, .int i0)]) (K : ∀ (G1 : GS) (H1 : Heap) (locs1 : List Loc) (ls1 : Array Slot), LI G1 → Bd G1 → Wd D k A a G1 H1 → va_S A s.heap H1 locs1 → lv_has ls1 4 [(0, .ref b), (1, .ref (a 0)), (2, .ref (a 66)), (3, .int i0)] → W p l e room_1 s m #[Value.ref b] below meth c H1 locs1 119 46443 (lw_Z below #[Value.ref b] s) (F0 m 1641 ls1 [])) : W p l e room_1 s m #[Value.ref b] below meth c H locs 119 46443 (lw_Z below #[Value.ref b] s) (F0 m 1483 ls []) := by
  obtain ⟨hx, hb, hr, hml, hown, hts, hX, hbl, hlocks, hgv⟩ := id C0
  have hown : s.vm.findClass RL = some m.cls := hown
  have hgd : ∀ w ∈ gd, w ∈ lw_tbl := fun w h => (List.mem_filter.mp h).1
  have hg : ∀ w ∈ gd, w.before #[Value.ref b] s = true := fun w h => hts w (hgd w h)
  rcases hI with ⟨hv_0_0, hv_0_1, hv_6_4, hj0, hj1, hj2, hj3, hj4, hj5, hj6, hj7, hj8, hj9, hj10, hj11, hj12⟩ | ⟨hv_0_0, hv_0_1, hv_6_4, hj0, hj1, hj2, hj3, hj4, hj5, hj6, hj7, hj8, hj9, hj10, hj11, hj12⟩
  · skip
    obtain ⟨p0, hp0⟩ : ∃ y, y = xs (i0 + 1).toNatClampNeg := ⟨_, rfl⟩
    obtain ⟨p1, hp1⟩ : ∃ y, y = xs (i0 + 2).toNatClampNeg := ⟨_, rfl⟩
    obtain ⟨p2, hp2⟩ : ∃ y, y = xs (i0 + 3).toNatClampNeg := ⟨_, rfl⟩
    obtain ⟨p3, hp3⟩ : ∃ y, y = xs (i0 + 4).toNatClampNeg := ⟨_, rfl⟩
    obtain ⟨p4, hp4⟩ : ∃ y, y = xs (i0 + 5).toNatClampNeg := ⟨_, rfl⟩
    refine lv_aload_n hx hb dL_law_1483 rfl (lv_at hl 1 rfl) ?_
    refine ld_1 hL hi0 hi6 hx hb hX hbl hbA hS hl dL_law_1484 dL_law_1485 dL_law_1486 dL_law_1487 dL_law_1488 hp0 ?_
    refine S_calli (va_runV (As := [.int p0]) (rest := []) ⟨hx, hb, hml, hown, hts⟩ (k_Wlater l D k A a z G p0 ) (cwV 1 hts (gd_V hgd m1258 m1259 m1260 m117 m1261) rfl rfl rfl hd_X11_later ⟨Nat.le_of_ble_eq_true rfl, Nat.le_of_ble_eq_true rfl⟩) (pre_W hW hB_G hK hZ hS kd_0 rfl) rfl rfl hl.1 rfl (lv_room (Nat.le_of_ble_eq_true rfl)) dL_law_1489 ⟨Nat.le_of_ble_eq_true rfl, Nat.le_of_ble_eq_true rfl⟩) hS (fun r_1 G_2 H locs hpo hW hS => ?_)
    have hX_5 : P_Wlater p0 G r_1 G_2 := hpo
    obtain ⟨hB_G_2, hq_3, hp_4, -⟩ := hpo
    refine lv_pop hx hb dL_law_1492 rfl ?_
    refine lv_aload_n hx hb dL_law_1493 rfl (lv_at hl 2 rfl) ?_
    refine ld_1 hL hi0 hi6 hx hb hX hbl hbA hS hl dL_law_1494 dL_law_1495 dL_law_1496 dL_law_1497 dL_law_1498 hp0 ?_
    have b_6 : 0 ≤ (G.1 66 86).toInt ∧ (G.1 66 86).toInt ≤ 100000 := bd_66_86 hB_G
    have g_7 : (G_2.1 66 86).toInt = (G.1 66 86).toInt := (congrArg Int32.toInt (show G_2.1 66 86 = (G.1 66 86) from (hq_3.i9 66 86 rfl rfl)))
    refine S_calli (va_runV (As := [.int p0]) (rest := []) ⟨hx, hb, hml, hown, hts⟩ (n_later l D k A a z G_2 p0 ) (cwV 1 hts (gd_V hgd m2047 m2048 m2049 m131 m2050) rfl rfl rfl hd_X12_later ⟨Nat.le_of_ble_eq_true rfl, Nat.le_of_ble_eq_true rfl⟩) (pre_W hW hB_G_2 hK hZ hS kd_66 rfl) rfl rfl hl.1 rfl (lv_room (Nat.le_of_ble_eq_true rfl)) dL_law_1499 ⟨Nat.le_of_ble_eq_true rfl, Nat.le_of_ble_eq_true rfl⟩) hS (fun r_8 G_9 H locs hpo hW hS => ?_)
    have hX_12 : Q_later p0 G_2 r_8 G_9 := hpo
    obtain ⟨hB_G_9, hq_10, hp_11, -⟩ := hpo
    refine lv_pop hx hb dL_law_1502 rfl ?_
    refine lv_goto (tgt := 1641) hx hb dL_law_1503 rfl ?_
    have fr_13 : Fr [] [(31, 6), (66, 86)] G G_9 := (Fr.call9 (rs := []) (fs := [(31, 6), (66, 86)]) (Fr.call9 (rs := []) (fs := [(31, 6), (66, 86)]) Fr.rf hq_3 rfl rfl) hq_10 rfl rfl)
    have g_14 : gIA G_9 = gIA G := gIA_fr fr_13 (gr_q rfl) (gf_q rfl)
    have g_15 : gO G_9 = gO G := gO_fr fr_13 (gr_q rfl) (gf_q rfl)
    have g_16 : gP G_9 = gP G := gP_fr fr_13 (gr_q rfl) (gf_q rfl)
    have g_17 : gS G_9 = gS G := gS_fr fr_13 (gr_q rfl) (gf_q rfl)
    have g_18 : gTE G_9 = gTE G := gTE_fr fr_13 (gr_q rfl) (gf_q rfl)
    have g_19 : gW G_9 = gW G := gW_fr fr_13 (gr_q rfl) (gf_q rfl)
    have b_20 : 0 ≤ (G.1 0 11).toInt ∧ (G.1 0 11).toInt ≤ 1600 := bd_0_11 hB_G
    have g_21 : (G_9.1 0 11).toInt = (G.1 0 11).toInt := (congrArg Int32.toInt (show G_9.1 0 11 = (G.1 0 11) from ((hq_10.i9 0 11 rfl rfl).trans (hq_3.i9 0 11 rfl rfl))))
    have b_22 : 0 ≤ (G.1 3 7).toInt ∧ (G.1 3 7).toInt ≤ 4 := bd_3_7 hB_G
    have g_23 : (G_9.1 3 7).toInt = (G.1 3 7).toInt := (congrArg Int32.toInt (show G_9.1 3 7 = (G.1 3 7) from ((hq_10.i9 3 7 rfl rfl).trans (hq_3.i9 3 7 rfl rfl))))
    have b_24 : (-1) ≤ (G.1 3 8).toInt ∧ (G.1 3 8).toInt ≤ 1600 := bd_3_8 hB_G
    have g_25 : (G_9.1 3 8).toInt = (G.1 3 8).toInt := (congrArg Int32.toInt (show G_9.1 3 8 = (G.1 3 8) from ((hq_10.i9 3 8 rfl rfl).trans (hq_3.i9 3 8 rfl rfl))))
    have b_26 : 0 ≤ (G.1 30 4).toInt ∧ (G.1 30 4).toInt ≤ 40 := bd_30_4 hB_G
    have g_27 : (G_9.1 30 4).toInt = (G.1 30 4).toInt := (congrArg Int32.toInt (show G_9.1 30 4 = (G.1 30 4) from ((hq_10.i9 30 4 rfl rfl).trans (hq_3.i9 30 4 rfl rfl))))
    have b_28 : 0 ≤ (G.1 30 5).toInt ∧ (G.1 30 5).toInt ≤ 40 := bd_30_5 hB_G
    have g_29 : (G_9.1 30 5).toInt = (G.1 30 5).toInt := (congrArg Int32.toInt (show G_9.1 30 5 = (G.1 30 5) from ((hq_10.i9 30 5 rfl rfl).trans (hq_3.i9 30 5 rfl rfl))))
    have b_30 : 0 ≤ (G_2.1 31 6).toInt ∧ (G_2.1 31 6).toInt ≤ 100000 := bd_31_6 hB_G_2
    have g_31 : (G_9.1 31 6).toInt = (G_2.1 31 6).toInt := (congrArg Int32.toInt (show G_9.1 31 6 = (G_2.1 31 6) from (hq_10.i9 31 6 rfl rfl)))
    have b_32 : 0 ≤ (G.1 66 1).toInt ∧ (G.1 66 1).toInt ≤ 1600 := bd_66_1 hB_G
    have g_33 : (G_9.1 66 1).toInt = (G.1 66 1).toInt := (congrArg Int32.toInt (show G_9.1 66 1 = (G.1 66 1) from ((hq_10.i9 66 1 rfl rfl).trans (hq_3.i9 66 1 rfl rfl))))
    have b_34 : 0 ≤ (G.1 66 2).toInt ∧ (G.1 66 2).toInt ≤ 4 := bd_66_2 hB_G
    have g_35 : (G_9.1 66 2).toInt = (G.1 66 2).toInt := (congrArg Int32.toInt (show G_9.1 66 2 = (G.1 66 2) from ((hq_10.i9 66 2 rfl rfl).trans (hq_3.i9 66 2 rfl rfl))))
    have b_36 : (-1) ≤ (G.1 66 3).toInt ∧ (G.1 66 3).toInt ≤ 1600 := bd_66_3 hB_G
    have g_37 : (G_9.1 66 3).toInt = (G.1 66 3).toInt := (congrArg Int32.toInt (show G_9.1 66 3 = (G.1 66 3) from ((hq_10.i9 66 3 rfl rfl).trans (hq_3.i9 66 3 rfl rfl))))
    have b_38 : 0 ≤ (G.1 66 78).toInt ∧ (G.1 66 78).toInt ≤ 40 := bd_66_78 hB_G
    have g_39 : (G_9.1 66 78).toInt = (G.1 66 78).toInt := (congrArg Int32.toInt (show G_9.1 66 78 = (G.1 66 78) from ((hq_10.i9 66 78 rfl rfl).trans (hq_3.i9 66 78 rfl rfl))))
    have b_40 : 0 ≤ (G.1 66 79).toInt ∧ (G.1 66 79).toInt ≤ 40 := bd_66_79 hB_G
    have g_41 : (G_9.1 66 79).toInt = (G.1 66 79).toInt := (congrArg Int32.toInt (show G_9.1 66 79 = (G.1 66 79) from ((hq_10.i9 66 79 rfl rfl).trans (hq_3.i9 66 79 rfl rfl))))
    have b_42 : 0 ≤ (G_9.1 66 86).toInt ∧ (G_9.1 66 86).toInt ≤ 100000 := bd_66_86 hB_G_9
    have b_43 : 0 ≤ (G.1 96 0).toInt ∧ (G.1 96 0).toInt ≤ 9 := bd_96_0 hB_G
    have g_44 : (G_9.1 96 0).toInt = (G.1 96 0).toInt := (congrArg Int32.toInt (show G_9.1 96 0 = (G.1 96 0) from ((hq_10.i9 96 0 rfl rfl).trans (hq_3.i9 96 0 rfl rfl))))
    have b_45 : 0 ≤ (G.1 96 1).toInt ∧ (G.1 96 1).toInt ≤ 9 := bd_96_1 hB_G
    have g_46 : (G_9.1 96 1).toInt = (G.1 96 1).toInt := (congrArg Int32.toInt (show G_9.1 96 1 = (G.1 96 1) from ((hq_10.i9 96 1 rfl rfl).trans (hq_3.i9 96 1 rfl rfl))))
    have b_47 : 0 ≤ (G.1 96 2).toInt ∧ (G.1 96 2).toInt ≤ 9 := bd_96_2 hB_G
    have g_48 : (G_9.1 96 2).toInt = (G.1 96 2).toInt := (congrArg Int32.toInt (show G_9.1 96 2 = (G.1 96 2) from ((hq_10.i9 96 2 rfl rfl).trans (hq_3.i9 96 2 rfl rfl))))
    exact K G_9 _ _ _ (Or.inl ⟨((((hq_10.r9 0 0 rfl rfl).trans (hq_3.r9 0 0 rfl rfl))).trans (hv_0_0)), ((((hq_10.r9 0 1 rfl rfl).trans (hq_3.r9 0 1 rfl rfl))).trans (hv_0_1)), ((((hq_10.r9 6 4 rfl rfl).trans (hq_3.r9 6 4 rfl rfl))).trans (hv_6_4)), by omega, by omega, by omega, by omega, by omega, by omega, by omega, by omega, by omega, by omega, by omega, by omega, by omega⟩) hB_G_9 hW hS (lv_sub hl [0, 1, 2, 3] rfl)
  · skip
    obtain ⟨p0, hp0⟩ : ∃ y, y = xs (i0 + 1).toNatClampNeg := ⟨_, rfl⟩
    obtain ⟨p1, hp1⟩ : ∃ y, y = xs (i0 + 2).toNatClampNeg := ⟨_, rfl⟩
    obtain ⟨p2, hp2⟩ : ∃ y, y = xs (i0 + 3).toNatClampNeg := ⟨_, rfl⟩
    obtain ⟨p3, hp3⟩ : ∃ y, y = xs (i0 + 4).toNatClampNeg := ⟨_, rfl⟩
    obtain ⟨p4, hp4⟩ : ∃ y, y = xs (i0 + 5).toNatClampNeg := ⟨_, rfl⟩
    refine lv_aload_n hx hb dL_law_1483 rfl (lv_at hl 1 rfl) ?_
    refine ld_1 hL hi0 hi6 hx hb hX hbl hbA hS hl dL_law_1484 dL_law_1485 dL_law_1486 dL_law_1487 dL_law_1488 hp0 ?_
    refine S_calli (va_runV (As := [.int p0]) (rest := []) ⟨hx, hb, hml, hown, hts⟩ (k_Wlater l D k A a z G p0 ) (cwV 1 hts (gd_V hgd m1258 m1259 m1260 m117 m1261) rfl rfl rfl hd_X11_later ⟨Nat.le_of_ble_eq_true rfl, Nat.le_of_ble_eq_true rfl⟩) (pre_W hW hB_G hK hZ hS kd_0 rfl) rfl rfl hl.1 rfl (lv_room (Nat.le_of_ble_eq_true rfl)) dL_law_1489 ⟨Nat.le_of_ble_eq_true rfl, Nat.le_of_ble_eq_true rfl⟩) hS (fun r_1 G_2 H locs hpo hW hS => ?_)
    have hX_5 : P_Wlater p0 G r_1 G_2 := hpo
    obtain ⟨hB_G_2, hq_3, hp_4, -⟩ := hpo
    refine lv_pop hx hb dL_law_1492 rfl ?_
    refine lv_aload_n hx hb dL_law_1493 rfl (lv_at hl 2 rfl) ?_
    refine ld_1 hL hi0 hi6 hx hb hX hbl hbA hS hl dL_law_1494 dL_law_1495 dL_law_1496 dL_law_1497 dL_law_1498 hp0 ?_
    have b_6 : 0 ≤ (G.1 66 86).toInt ∧ (G.1 66 86).toInt ≤ 100000 := bd_66_86 hB_G
    have g_7 : (G_2.1 66 86).toInt = (G.1 66 86).toInt := (congrArg Int32.toInt (show G_2.1 66 86 = (G.1 66 86) from (hq_3.i9 66 86 rfl rfl)))
    refine S_calli (va_runV (As := [.int p0]) (rest := []) ⟨hx, hb, hml, hown, hts⟩ (n_later l D k A a z G_2 p0 ) (cwV 1 hts (gd_V hgd m2047 m2048 m2049 m131 m2050) rfl rfl rfl hd_X12_later ⟨Nat.le_of_ble_eq_true rfl, Nat.le_of_ble_eq_true rfl⟩) (pre_W hW hB_G_2 hK hZ hS kd_66 rfl) rfl rfl hl.1 rfl (lv_room (Nat.le_of_ble_eq_true rfl)) dL_law_1499 ⟨Nat.le_of_ble_eq_true rfl, Nat.le_of_ble_eq_true rfl⟩) hS (fun r_8 G_9 H locs hpo hW hS => ?_)
    have hX_12 : Q_later p0 G_2 r_8 G_9 := hpo
    obtain ⟨hB_G_9, hq_10, hp_11, -⟩ := hpo
    refine lv_pop hx hb dL_law_1502 rfl ?_
    refine lv_goto (tgt := 1641) hx hb dL_law_1503 rfl ?_
    have fr_13 : Fr [] [(31, 6), (66, 86)] G G_9 := (Fr.call9 (rs := []) (fs := [(31, 6), (66, 86)]) (Fr.call9 (rs := []) (fs := [(31, 6), (66, 86)]) Fr.rf hq_3 rfl rfl) hq_10 rfl rfl)
    have g_14 : gIB G_9 = gIB G := gIB_fr fr_13 (gr_q rfl) (gf_q rfl)
    have g_15 : gO G_9 = gO G := gO_fr fr_13 (gr_q rfl) (gf_q rfl)
    have g_16 : gP G_9 = gP G := gP_fr fr_13 (gr_q rfl) (gf_q rfl)
    have g_17 : gS G_9 = gS G := gS_fr fr_13 (gr_q rfl) (gf_q rfl)
    have g_18 : gTE G_9 = gTE G := gTE_fr fr_13 (gr_q rfl) (gf_q rfl)
    have g_19 : gW G_9 = gW G := gW_fr fr_13 (gr_q rfl) (gf_q rfl)
    have b_20 : 0 ≤ (G.1 0 11).toInt ∧ (G.1 0 11).toInt ≤ 1600 := bd_0_11 hB_G
    have g_21 : (G_9.1 0 11).toInt = (G.1 0 11).toInt := (congrArg Int32.toInt (show G_9.1 0 11 = (G.1 0 11) from ((hq_10.i9 0 11 rfl rfl).trans (hq_3.i9 0 11 rfl rfl))))
    have b_22 : 0 ≤ (G.1 3 7).toInt ∧ (G.1 3 7).toInt ≤ 4 := bd_3_7 hB_G
    have g_23 : (G_9.1 3 7).toInt = (G.1 3 7).toInt := (congrArg Int32.toInt (show G_9.1 3 7 = (G.1 3 7) from ((hq_10.i9 3 7 rfl rfl).trans (hq_3.i9 3 7 rfl rfl))))
    have b_24 : (-1) ≤ (G.1 3 8).toInt ∧ (G.1 3 8).toInt ≤ 1600 := bd_3_8 hB_G
    have g_25 : (G_9.1 3 8).toInt = (G.1 3 8).toInt := (congrArg Int32.toInt (show G_9.1 3 8 = (G.1 3 8) from ((hq_10.i9 3 8 rfl rfl).trans (hq_3.i9 3 8 rfl rfl))))
    have b_26 : 0 ≤ (G.1 30 4).toInt ∧ (G.1 30 4).toInt ≤ 40 := bd_30_4 hB_G
    have g_27 : (G_9.1 30 4).toInt = (G.1 30 4).toInt := (congrArg Int32.toInt (show G_9.1 30 4 = (G.1 30 4) from ((hq_10.i9 30 4 rfl rfl).trans (hq_3.i9 30 4 rfl rfl))))
    have b_28 : 0 ≤ (G.1 30 5).toInt ∧ (G.1 30 5).toInt ≤ 40 := bd_30_5 hB_G
    have g_29 : (G_9.1 30 5).toInt = (G.1 30 5).toInt := (congrArg Int32.toInt (show G_9.1 30 5 = (G.1 30 5) from ((hq_10.i9 30 5 rfl rfl).trans (hq_3.i9 30 5 rfl rfl))))
    have b_30 : 0 ≤ (G_2.1 31 6).toInt ∧ (G_2.1 31 6).toInt ≤ 100000 := bd_31_6 hB_G_2
    have g_31 : (G_9.1 31 6).toInt = (G_2.1 31 6).toInt := (congrArg Int32.toInt (show G_9.1 31 6 = (G_2.1 31 6) from (hq_10.i9 31 6 rfl rfl)))
    have b_32 : 0 ≤ (G.1 66 1).toInt ∧ (G.1 66 1).toInt ≤ 1600 := bd_66_1 hB_G
    have g_33 : (G_9.1 66 1).toInt = (G.1 66 1).toInt := (congrArg Int32.toInt (show G_9.1 66 1 = (G.1 66 1) from ((hq_10.i9 66 1 rfl rfl).trans (hq_3.i9 66 1 rfl rfl))))
    have b_34 : 0 ≤ (G.1 66 2).toInt ∧ (G.1 66 2).toInt ≤ 4 := bd_66_2 hB_G
    have g_35 : (G_9.1 66 2).toInt = (G.1 66 2).toInt := (congrArg Int32.toInt (show G_9.1 66 2 = (G.1 66 2) from ((hq_10.i9 66 2 rfl rfl).trans (hq_3.i9 66 2 rfl rfl))))
    have b_36 : (-1) ≤ (G.1 66 3).toInt ∧ (G.1 66 3).toInt ≤ 1600 := bd_66_3 hB_G
    have g_37 : (G_9.1 66 3).toInt = (G.1 66 3).toInt := (congrArg Int32.toInt (show G_9.1 66 3 = (G.1 66 3) from ((hq_10.i9 66 3 rfl rfl).trans (hq_3.i9 66 3 rfl rfl))))
    have b_38 : 0 ≤ (G.1 66 78).toInt ∧ (G.1 66 78).toInt ≤ 40 := bd_66_78 hB_G
    have g_39 : (G_9.1 66 78).toInt = (G.1 66 78).toInt := (congrArg Int32.toInt (show G_9.1 66 78 = (G.1 66 78) from ((hq_10.i9 66 78 rfl rfl).trans (hq_3.i9 66 78 rfl rfl))))
    have b_40 : 0 ≤ (G.1 66 79).toInt ∧ (G.1 66 79).toInt ≤ 40 := bd_66_79 hB_G
    have g_41 : (G_9.1 66 79).toInt = (G.1 66 79).toInt := (congrArg Int32.toInt (show G_9.1 66 79 = (G.1 66 79) from ((hq_10.i9 66 79 rfl rfl).trans (hq_3.i9 66 79 rfl rfl))))
    have b_42 : 0 ≤ (G_9.1 66 86).toInt ∧ (G_9.1 66 86).toInt ≤ 100000 := bd_66_86 hB_G_9
    have b_43 : 0 ≤ (G.1 96 0).toInt ∧ (G.1 96 0).toInt ≤ 9 := bd_96_0 hB_G
    have g_44 : (G_9.1 96 0).toInt = (G.1 96 0).toInt := (congrArg Int32.toInt (show G_9.1 96 0 = (G.1 96 0) from ((hq_10.i9 96 0 rfl rfl).trans (hq_3.i9 96 0 rfl rfl))))
    have b_45 : 0 ≤ (G.1 96 1).toInt ∧ (G.1 96 1).toInt ≤ 9 := bd_96_1 hB_G
    have g_46 : (G_9.1 96 1).toInt = (G.1 96 1).toInt := (congrArg Int32.toInt (show G_9.1 96 1 = (G.1 96 1) from ((hq_10.i9 96 1 rfl rfl).trans (hq_3.i9 96 1 rfl rfl))))
    have b_47 : 0 ≤ (G.1 96 2).toInt ∧ (G.1 96 2).toInt ≤ 9 := bd_96_2 hB_G
    have g_48 : (G_9.1 96 2).toInt = (G.1 96 2).toInt := (congrArg Int32.toInt (show G_9.1 96 2 = (G.1 96 2) from ((hq_10.i9 96 2 rfl rfl).trans (hq_3.i9 96 2 rfl rfl))))
    exact K G_9 _ _ _ (Or.inr ⟨((((hq_10.r9 0 0 rfl rfl).trans (hq_3.r9 0 0 rfl rfl))).trans (hv_0_0)), ((((hq_10.r9 0 1 rfl rfl).trans (hq_3.r9 0 1 rfl rfl))).trans (hv_0_1)), ((((hq_10.r9 6 4 rfl rfl).trans (hq_3.r9 6 4 rfl rfl))).trans (hv_6_4)), by omega, by omega, by omega, by omega, by omega, by omega, by omega, by omega, by omega, by omega, by omega, by omega, by omega⟩) hB_G_9 hW hS (lv_sub hl [0, 1, 2, 3] rfl)

set_option maxHeartbeats 4000000 in
set_option maxRecDepth 100000 in
theorem law_34 {p : Program} {l : Launch} {e : Env} {s : State} {m : MethodId} {below : List Frame} {meth : Method} {c : Code} {D : va_G} {k : KT} {A : Nat → Prop} {a : Nat → Nat} {z : SK} {b L : Nat} {xs : Nat → Int32} (hL : L ≤ 3072) (C0 : lw_At p s m meth c b L xs) (hK : cK D k s) (hZ : Sx A z s) (hbA : ¬ A b) {G : GS} {i0 : Int32} (hi0 : 0 ≤ i0.toInt) (hi6 : i0.toInt + 6 ≤ L) (hI : LI G) (hB_G : Bd G) {H : Heap} {locs : List Loc} {ls : Array Slot} (hW : Wd D k A a G H) (hS : va_S A s.heap H locs) (hl : lv_has ls 4 [(0, .ref b), (1, .ref (a 0)), (2, .ref (a 66)), (3, .int i0)]) (K : ∀ (G1 : GS) (H1 : Heap) (locs1 : List Loc) (ls1 : Array Slot), LI G1 → Bd G1 → Wd D k A a G1 H1 → va_S A s.heap H1 locs1 → lv_has ls1 4 [(0, .ref b), (1, .ref (a 0)), (2, .ref (a 66)), (3, .int i0)] → W p l e room_1 s m #[Value.ref b] below meth c H1 locs1 119 46443 (lw_Z below #[Value.ref b] s) (F0 m 1641 ls1 [])) : W p l e room_1 s m #[Value.ref b] below meth c H locs 119 46443 (lw_Z below #[Value.ref b] s) (F0 m 1506 ls []) := by
  obtain ⟨hx, hb, hr, hml, hown, hts, hX, hbl, hlocks, hgv⟩ := id C0
  have hown : s.vm.findClass RL = some m.cls := hown
  have hgd : ∀ w ∈ gd, w ∈ lw_tbl := fun w h => (List.mem_filter.mp h).1
  have hg : ∀ w ∈ gd, w.before #[Value.ref b] s = true := fun w h => hts w (hgd w h)
  rcases hI with ⟨hv_0_0, hv_0_1, hv_6_4, hj0, hj1, hj2, hj3, hj4, hj5, hj6, hj7, hj8, hj9, hj10, hj11, hj12⟩ | ⟨hv_0_0, hv_0_1, hv_6_4, hj0, hj1, hj2, hj3, hj4, hj5, hj6, hj7, hj8, hj9, hj10, hj11, hj12⟩
  · skip
    obtain ⟨p0, hp0⟩ : ∃ y, y = xs (i0 + 1).toNatClampNeg := ⟨_, rfl⟩
    obtain ⟨p1, hp1⟩ : ∃ y, y = xs (i0 + 2).toNatClampNeg := ⟨_, rfl⟩
    obtain ⟨p2, hp2⟩ : ∃ y, y = xs (i0 + 3).toNatClampNeg := ⟨_, rfl⟩
    obtain ⟨p3, hp3⟩ : ∃ y, y = xs (i0 + 4).toNatClampNeg := ⟨_, rfl⟩
    obtain ⟨p4, hp4⟩ : ∃ y, y = xs (i0 + 5).toNatClampNeg := ⟨_, rfl⟩
    refine lv_aload_n hx hb dL_law_1506 rfl (lv_at hl 1 rfl) ?_
    refine ld_1 hL hi0 hi6 hx hb hX hbl hbA hS hl dL_law_1507 dL_law_1508 dL_law_1509 dL_law_1510 dL_law_1511 hp0 ?_
    refine S_calli (va_runV (As := [.int p0]) (rest := []) ⟨hx, hb, hml, hown, hts⟩ (k_Wfits_1 l D k A a z G p0 hv_0_0 hv_0_1 hv_6_4) (cwV 1 hts (gd_V hgd m1263 m1264 m1265 m117 m1266) rfl rfl rfl hd_X11_fits ⟨Nat.le_of_ble_eq_true rfl, Nat.le_of_ble_eq_true rfl⟩) (pre_W hW hB_G hK hZ hS kd_0 rfl) rfl rfl hl.1 rfl (lv_room (Nat.le_of_ble_eq_true rfl)) dL_law_1512 ⟨Nat.le_of_ble_eq_true rfl, Nat.le_of_ble_eq_true rfl⟩) hS (fun r_1 G_2 H locs hpo hW hS => ?_)
    have hX_5 : P_Wfits_1 p0 G r_1 G_2 := hpo
    obtain ⟨hB_G_2, hq_3, -⟩ := hpo
    refine lv_pop hx hb dL_law_1515 rfl ?_
    refine lv_aload_n hx hb dL_law_1516 rfl (lv_at hl 2 rfl) ?_
    refine ld_1 hL hi0 hi6 hx hb hX hbl hbA hS hl dL_law_1517 dL_law_1518 dL_law_1519 dL_law_1520 dL_law_1521 hp0 ?_
    have fr_6 : Fr [37, 38, 39] [(6, 3)] G G_2 := (Fr.call9 (rs := [37, 38, 39]) (fs := [(6, 3)]) Fr.rf hq_3 rfl rfl)
    have g_7 : gP G_2 = gP G := gP_fr fr_6 (gr_q rfl) (gf_q rfl)
    refine S_calli (va_runV (As := [.int p0]) (rest := []) ⟨hx, hb, hml, hown, hts⟩ (n_fits l D k A a z G_2 p0 (by omega)) (cwV 1 hts (gd_V hgd m2051 m2052 m2053 m131 m2054) rfl rfl rfl hd_X12_fits ⟨Nat.le_of_ble_eq_true rfl, Nat.le_of_ble_eq_true rfl⟩) (pre_W hW hB_G_2 hK hZ hS kd_66 rfl) rfl rfl hl.1 rfl (lv_room (Nat.le_of_ble_eq_true rfl)) dL_law_1522 ⟨Nat.le_of_ble_eq_true rfl, Nat.le_of_ble_eq_true rfl⟩) hS (fun r_8 G_9 H locs hpo hW hS => ?_)
    have hX_12 : Q_fits p0 G_2 r_8 G_9 := hpo
    obtain ⟨hB_G_9, hq_10, -⟩ := hpo
    have u_13 := L_fits_1 hX_5 hX_12 rfl (by omega)
    refine lv_pop hx hb dL_law_1525 rfl ?_
    refine lv_goto (tgt := 1641) hx hb dL_law_1526 rfl ?_
    exact K G_9 _ _ _ (Or.inl (LI_of_1 (LIn_fr_1 (LIn_fr_1 (show LIn_1 G from ⟨hv_0_0, hv_0_1, hv_6_4, hj0, hj1, hj2, hj3, hj4, hj5, hj6, hj7, hj8, hj9, hj10, hj11⟩) hq_3 (by decide +kernel)) hq_10 (by decide +kernel)) (by omega))) hB_G_9 hW hS (lv_sub hl [0, 1, 2, 3] rfl)
  · skip
    obtain ⟨p0, hp0⟩ : ∃ y, y = xs (i0 + 1).toNatClampNeg := ⟨_, rfl⟩
    obtain ⟨p1, hp1⟩ : ∃ y, y = xs (i0 + 2).toNatClampNeg := ⟨_, rfl⟩
    obtain ⟨p2, hp2⟩ : ∃ y, y = xs (i0 + 3).toNatClampNeg := ⟨_, rfl⟩
    obtain ⟨p3, hp3⟩ : ∃ y, y = xs (i0 + 4).toNatClampNeg := ⟨_, rfl⟩
    obtain ⟨p4, hp4⟩ : ∃ y, y = xs (i0 + 5).toNatClampNeg := ⟨_, rfl⟩
    refine lv_aload_n hx hb dL_law_1506 rfl (lv_at hl 1 rfl) ?_
    refine ld_1 hL hi0 hi6 hx hb hX hbl hbA hS hl dL_law_1507 dL_law_1508 dL_law_1509 dL_law_1510 dL_law_1511 hp0 ?_
    refine S_calli (va_runV (As := [.int p0]) (rest := []) ⟨hx, hb, hml, hown, hts⟩ (k_Wfits_2 l D k A a z G p0 hv_0_0 hv_0_1 hv_6_4) (cwV 1 hts (gd_V hgd m1263 m1264 m1265 m117 m1266) rfl rfl rfl hd_X11_fits ⟨Nat.le_of_ble_eq_true rfl, Nat.le_of_ble_eq_true rfl⟩) (pre_W hW hB_G hK hZ hS kd_0 rfl) rfl rfl hl.1 rfl (lv_room (Nat.le_of_ble_eq_true rfl)) dL_law_1512 ⟨Nat.le_of_ble_eq_true rfl, Nat.le_of_ble_eq_true rfl⟩) hS (fun r_1 G_2 H locs hpo hW hS => ?_)
    have hX_5 : P_Wfits_2 p0 G r_1 G_2 := hpo
    obtain ⟨hB_G_2, hq_3, -⟩ := hpo
    refine lv_pop hx hb dL_law_1515 rfl ?_
    refine lv_aload_n hx hb dL_law_1516 rfl (lv_at hl 2 rfl) ?_
    refine ld_1 hL hi0 hi6 hx hb hX hbl hbA hS hl dL_law_1517 dL_law_1518 dL_law_1519 dL_law_1520 dL_law_1521 hp0 ?_
    have fr_6 : Fr [37, 38, 39] [(6, 3)] G G_2 := (Fr.call9 (rs := [37, 38, 39]) (fs := [(6, 3)]) Fr.rf hq_3 rfl rfl)
    have g_7 : gP G_2 = gP G := gP_fr fr_6 (gr_q rfl) (gf_q rfl)
    refine S_calli (va_runV (As := [.int p0]) (rest := []) ⟨hx, hb, hml, hown, hts⟩ (n_fits l D k A a z G_2 p0 (by omega)) (cwV 1 hts (gd_V hgd m2051 m2052 m2053 m131 m2054) rfl rfl rfl hd_X12_fits ⟨Nat.le_of_ble_eq_true rfl, Nat.le_of_ble_eq_true rfl⟩) (pre_W hW hB_G_2 hK hZ hS kd_66 rfl) rfl rfl hl.1 rfl (lv_room (Nat.le_of_ble_eq_true rfl)) dL_law_1522 ⟨Nat.le_of_ble_eq_true rfl, Nat.le_of_ble_eq_true rfl⟩) hS (fun r_8 G_9 H locs hpo hW hS => ?_)
    have hX_12 : Q_fits p0 G_2 r_8 G_9 := hpo
    obtain ⟨hB_G_9, hq_10, -⟩ := hpo
    have u_13 := L_fits_2 hX_5 hX_12 rfl (by omega)
    refine lv_pop hx hb dL_law_1525 rfl ?_
    refine lv_goto (tgt := 1641) hx hb dL_law_1526 rfl ?_
    exact K G_9 _ _ _ (Or.inr (LI_of_2 (LIn_fr_2 (LIn_fr_2 (show LIn_2 G from ⟨hv_0_0, hv_0_1, hv_6_4, hj0, hj1, hj2, hj3, hj4, hj5, hj6, hj7, hj8, hj9, hj10, hj11⟩) hq_3 (by decide +kernel)) hq_10 (by decide +kernel)) (by omega))) hB_G_9 hW hS (lv_sub hl [0, 1, 2, 3] rfl)

set_option maxHeartbeats 4000000 in
set_option maxRecDepth 100000 in
theorem law_35 {p : Program} {l : Launch} {e : Env} {s : State} {m : MethodId} {below : List Frame} {meth : Method} {c : Code} {D : va_G} {k : KT} {A : Nat → Prop} {a : Nat → Nat} {z : SK} {b L : Nat} {xs : Nat → Int32} (hL : L ≤ 3072) (C0 : lw_At p s m meth c b L xs) (hK : cK D k s) (hZ : Sx A z s) (hbA : ¬ A b) {G : GS} {i0 : Int32} (hi0 : 0 ≤ i0.toInt) (hi6 : i0.toInt + 6 ≤ L) (hI : LI G) (hB_G : Bd G) {H : Heap} {locs : List Loc} {ls : Array Slot} (hW : Wd D k A a G H) (hS : va_S A s.heap H locs) (hl : lv_has ls 4 [(0, .ref b), (1, .ref (a 0)), (2, .ref (a 66)), (3, .int i0)]) (K : ∀ (G1 : GS) (H1 : Heap) (locs1 : List Loc) (ls1 : Array Slot), LI G1 → Bd G1 → Wd D k A a G1 H1 → va_S A s.heap H1 locs1 → lv_has ls1 4 [(0, .ref b), (1, .ref (a 0)), (2, .ref (a 66)), (3, .int i0)] → W p l e room_1 s m #[Value.ref b] below meth c H1 locs1 119 46443 (lw_Z below #[Value.ref b] s) (F0 m 1641 ls1 [])) : W p l e room_1 s m #[Value.ref b] below meth c H locs 119 46443 (lw_Z below #[Value.ref b] s) (F0 m 1529 ls []) := by
  obtain ⟨hx, hb, hr, hml, hown, hts, hX, hbl, hlocks, hgv⟩ := id C0
  have hown : s.vm.findClass RL = some m.cls := hown
  have hgd : ∀ w ∈ gd, w ∈ lw_tbl := fun w h => (List.mem_filter.mp h).1
  have hg : ∀ w ∈ gd, w.before #[Value.ref b] s = true := fun w h => hts w (hgd w h)
  rcases hI with ⟨hv_0_0, hv_0_1, hv_6_4, hj0, hj1, hj2, hj3, hj4, hj5, hj6, hj7, hj8, hj9, hj10, hj11, hj12⟩ | ⟨hv_0_0, hv_0_1, hv_6_4, hj0, hj1, hj2, hj3, hj4, hj5, hj6, hj7, hj8, hj9, hj10, hj11, hj12⟩
  · skip
    obtain ⟨p0, hp0⟩ : ∃ y, y = xs (i0 + 1).toNatClampNeg := ⟨_, rfl⟩
    obtain ⟨p1, hp1⟩ : ∃ y, y = xs (i0 + 2).toNatClampNeg := ⟨_, rfl⟩
    obtain ⟨p2, hp2⟩ : ∃ y, y = xs (i0 + 3).toNatClampNeg := ⟨_, rfl⟩
    obtain ⟨p3, hp3⟩ : ∃ y, y = xs (i0 + 4).toNatClampNeg := ⟨_, rfl⟩
    obtain ⟨p4, hp4⟩ : ∃ y, y = xs (i0 + 5).toNatClampNeg := ⟨_, rfl⟩
    refine lv_aload_n hx hb dL_law_1529 rfl (lv_at hl 1 rfl) ?_
    refine ld_1 hL hi0 hi6 hx hb hX hbl hbA hS hl dL_law_1530 dL_law_1531 dL_law_1532 dL_law_1533 dL_law_1534 hp0 ?_
    refine ld_2 hL hi0 hi6 hx hb hX hbl hbA hS hl dL_law_1535 dL_law_1536 dL_law_1537 dL_law_1538 dL_law_1539 hp1 ?_
    refine ld_3 hL hi0 hi6 hx hb hX hbl hbA hS hl dL_law_1540 dL_law_1541 dL_law_1542 dL_law_1543 dL_law_1544 hp2 ?_
    refine S_calll (va_runV (As := [.int p0, .int p1, .int p2]) (rest := []) ⟨hx, hb, hml, hown, hts⟩ (k_Wchance_1 l D k A a z G p0 p1 p2 hv_0_0 hv_0_1 hv_6_4) (cwV 3 hts (gd_V hgd m1279 m1280 m1281 m117 m1282) rfl rfl rfl hd_X11_chance ⟨Nat.le_of_ble_eq_true rfl, Nat.le_of_ble_eq_true rfl⟩) (pre_W hW hB_G hK hZ hS kd_0 rfl) rfl rfl hl.1 rfl (lv_room (Nat.le_of_ble_eq_true rfl)) dL_law_1545 ⟨Nat.le_of_ble_eq_true rfl, Nat.le_of_ble_eq_true rfl⟩) hS (fun r_1 G_2 H locs hpo hW hS => ?_)
    have hX_5 : P_Wchance_1 p0 p1 p2 G r_1 G_2 := hpo
    obtain ⟨hB_G_2, hq_3, -⟩ := hpo
    refine lv_pop2_2 hx hb dL_law_1548 rfl ?_
    refine lv_aload_n hx hb dL_law_1549 rfl (lv_at hl 2 rfl) ?_
    refine ld_1 hL hi0 hi6 hx hb hX hbl hbA hS hl dL_law_1550 dL_law_1551 dL_law_1552 dL_law_1553 dL_law_1554 hp0 ?_
    refine ld_2 hL hi0 hi6 hx hb hX hbl hbA hS hl dL_law_1555 dL_law_1556 dL_law_1557 dL_law_1558 dL_law_1559 hp1 ?_
    refine ld_3 hL hi0 hi6 hx hb hX hbl hbA hS hl dL_law_1560 dL_law_1561 dL_law_1562 dL_law_1563 dL_law_1564 hp2 ?_
    have fr_6 : Fr [37, 38, 39] [(6, 3)] G G_2 := (Fr.call9 (rs := [37, 38, 39]) (fs := [(6, 3)]) Fr.rf hq_3 rfl rfl)
    have g_7 : gP G_2 = gP G := gP_fr fr_6 (gr_q rfl) (gf_q rfl)
    have g_8 : gS G_2 = gS G := gS_fr fr_6 (gr_q rfl) (gf_q rfl)
    refine S_calll (va_runV (As := [.int p0, .int p1, .int p2]) (rest := []) ⟨hx, hb, hml, hown, hts⟩ (n_chance l D k A a z G_2 p0 p1 p2 (by omega) (by omega)) (cwV 3 hts (gd_V hgd m2059 m2060 m2061 m131 m2062) rfl rfl rfl hd_X12_chance ⟨Nat.le_of_ble_eq_true rfl, Nat.le_of_ble_eq_true rfl⟩) (pre_W hW hB_G_2 hK hZ hS kd_66 rfl) rfl rfl hl.1 rfl (lv_room (Nat.le_of_ble_eq_true rfl)) dL_law_1565 ⟨Nat.le_of_ble_eq_true rfl, Nat.le_of_ble_eq_true rfl⟩) hS (fun r_9 G_10 H locs hpo hW hS => ?_)
    have hX_13 : Q_chance p0 p1 p2 G_2 r_9 G_10 := hpo
    obtain ⟨hB_G_10, hq_11, -⟩ := hpo
    have u_14 := L_chance_1 hX_5 hX_13 rfl rfl rfl (by omega)
    refine lv_pop2_2 hx hb dL_law_1568 rfl ?_
    refine lv_goto (tgt := 1641) hx hb dL_law_1569 rfl ?_
    exact K G_10 _ _ _ (Or.inl (LI_of_1 (LIn_fr_1 (LIn_fr_1 (show LIn_1 G from ⟨hv_0_0, hv_0_1, hv_6_4, hj0, hj1, hj2, hj3, hj4, hj5, hj6, hj7, hj8, hj9, hj10, hj11⟩) hq_3 (by decide +kernel)) hq_11 (by decide +kernel)) (by omega))) hB_G_10 hW hS (lv_sub hl [0, 1, 2, 3] rfl)
  · skip
    obtain ⟨p0, hp0⟩ : ∃ y, y = xs (i0 + 1).toNatClampNeg := ⟨_, rfl⟩
    obtain ⟨p1, hp1⟩ : ∃ y, y = xs (i0 + 2).toNatClampNeg := ⟨_, rfl⟩
    obtain ⟨p2, hp2⟩ : ∃ y, y = xs (i0 + 3).toNatClampNeg := ⟨_, rfl⟩
    obtain ⟨p3, hp3⟩ : ∃ y, y = xs (i0 + 4).toNatClampNeg := ⟨_, rfl⟩
    obtain ⟨p4, hp4⟩ : ∃ y, y = xs (i0 + 5).toNatClampNeg := ⟨_, rfl⟩
    refine lv_aload_n hx hb dL_law_1529 rfl (lv_at hl 1 rfl) ?_
    refine ld_1 hL hi0 hi6 hx hb hX hbl hbA hS hl dL_law_1530 dL_law_1531 dL_law_1532 dL_law_1533 dL_law_1534 hp0 ?_
    refine ld_2 hL hi0 hi6 hx hb hX hbl hbA hS hl dL_law_1535 dL_law_1536 dL_law_1537 dL_law_1538 dL_law_1539 hp1 ?_
    refine ld_3 hL hi0 hi6 hx hb hX hbl hbA hS hl dL_law_1540 dL_law_1541 dL_law_1542 dL_law_1543 dL_law_1544 hp2 ?_
    refine S_calll (va_runV (As := [.int p0, .int p1, .int p2]) (rest := []) ⟨hx, hb, hml, hown, hts⟩ (k_Wchance_2 l D k A a z G p0 p1 p2 hv_0_0 hv_0_1 hv_6_4) (cwV 3 hts (gd_V hgd m1279 m1280 m1281 m117 m1282) rfl rfl rfl hd_X11_chance ⟨Nat.le_of_ble_eq_true rfl, Nat.le_of_ble_eq_true rfl⟩) (pre_W hW hB_G hK hZ hS kd_0 rfl) rfl rfl hl.1 rfl (lv_room (Nat.le_of_ble_eq_true rfl)) dL_law_1545 ⟨Nat.le_of_ble_eq_true rfl, Nat.le_of_ble_eq_true rfl⟩) hS (fun r_1 G_2 H locs hpo hW hS => ?_)
    have hX_5 : P_Wchance_2 p0 p1 p2 G r_1 G_2 := hpo
    obtain ⟨hB_G_2, hq_3, -⟩ := hpo
    refine lv_pop2_2 hx hb dL_law_1548 rfl ?_
    refine lv_aload_n hx hb dL_law_1549 rfl (lv_at hl 2 rfl) ?_
    refine ld_1 hL hi0 hi6 hx hb hX hbl hbA hS hl dL_law_1550 dL_law_1551 dL_law_1552 dL_law_1553 dL_law_1554 hp0 ?_
    refine ld_2 hL hi0 hi6 hx hb hX hbl hbA hS hl dL_law_1555 dL_law_1556 dL_law_1557 dL_law_1558 dL_law_1559 hp1 ?_
    refine ld_3 hL hi0 hi6 hx hb hX hbl hbA hS hl dL_law_1560 dL_law_1561 dL_law_1562 dL_law_1563 dL_law_1564 hp2 ?_
    have fr_6 : Fr [37, 38, 39] [(6, 3)] G G_2 := (Fr.call9 (rs := [37, 38, 39]) (fs := [(6, 3)]) Fr.rf hq_3 rfl rfl)
    have g_7 : gP G_2 = gP G := gP_fr fr_6 (gr_q rfl) (gf_q rfl)
    have g_8 : gS G_2 = gS G := gS_fr fr_6 (gr_q rfl) (gf_q rfl)
    refine S_calll (va_runV (As := [.int p0, .int p1, .int p2]) (rest := []) ⟨hx, hb, hml, hown, hts⟩ (n_chance l D k A a z G_2 p0 p1 p2 (by omega) (by omega)) (cwV 3 hts (gd_V hgd m2059 m2060 m2061 m131 m2062) rfl rfl rfl hd_X12_chance ⟨Nat.le_of_ble_eq_true rfl, Nat.le_of_ble_eq_true rfl⟩) (pre_W hW hB_G_2 hK hZ hS kd_66 rfl) rfl rfl hl.1 rfl (lv_room (Nat.le_of_ble_eq_true rfl)) dL_law_1565 ⟨Nat.le_of_ble_eq_true rfl, Nat.le_of_ble_eq_true rfl⟩) hS (fun r_9 G_10 H locs hpo hW hS => ?_)
    have hX_13 : Q_chance p0 p1 p2 G_2 r_9 G_10 := hpo
    obtain ⟨hB_G_10, hq_11, -⟩ := hpo
    have u_14 := L_chance_2 hX_5 hX_13 rfl rfl rfl (by omega)
    refine lv_pop2_2 hx hb dL_law_1568 rfl ?_
    refine lv_goto (tgt := 1641) hx hb dL_law_1569 rfl ?_
    exact K G_10 _ _ _ (Or.inr (LI_of_2 (LIn_fr_2 (LIn_fr_2 (show LIn_2 G from ⟨hv_0_0, hv_0_1, hv_6_4, hj0, hj1, hj2, hj3, hj4, hj5, hj6, hj7, hj8, hj9, hj10, hj11⟩) hq_3 (by decide +kernel)) hq_11 (by decide +kernel)) (by omega))) hB_G_10 hW hS (lv_sub hl [0, 1, 2, 3] rfl)

set_option maxHeartbeats 4000000 in
set_option maxRecDepth 100000 in
theorem law_36 {p : Program} {l : Launch} {e : Env} {s : State} {m : MethodId} {below : List Frame} {meth : Method} {c : Code} {D : va_G} {k : KT} {A : Nat → Prop} {a : Nat → Nat} {z : SK} {b L : Nat} {xs : Nat → Int32} (hL : L ≤ 3072) (C0 : lw_At p s m meth c b L xs) (hK : cK D k s) (hZ : Sx A z s) (hbA : ¬ A b) {G : GS} {i0 : Int32} (hi0 : 0 ≤ i0.toInt) (hi6 : i0.toInt + 6 ≤ L) (hI : LI G) (hB_G : Bd G) {H : Heap} {locs : List Loc} {ls : Array Slot} (hW : Wd D k A a G H) (hS : va_S A s.heap H locs) (hl : lv_has ls 4 [(0, .ref b), (1, .ref (a 0)), (2, .ref (a 66)), (3, .int i0)]) (K : ∀ (G1 : GS) (H1 : Heap) (locs1 : List Loc) (ls1 : Array Slot), LI G1 → Bd G1 → Wd D k A a G1 H1 → va_S A s.heap H1 locs1 → lv_has ls1 4 [(0, .ref b), (1, .ref (a 0)), (2, .ref (a 66)), (3, .int i0)] → W p l e room_1 s m #[Value.ref b] below meth c H1 locs1 119 46443 (lw_Z below #[Value.ref b] s) (F0 m 1641 ls1 [])) : W p l e room_1 s m #[Value.ref b] below meth c H locs 119 46443 (lw_Z below #[Value.ref b] s) (F0 m 1572 ls []) := by
  obtain ⟨hx, hb, hr, hml, hown, hts, hX, hbl, hlocks, hgv⟩ := id C0
  have hown : s.vm.findClass RL = some m.cls := hown
  have hgd : ∀ w ∈ gd, w ∈ lw_tbl := fun w h => (List.mem_filter.mp h).1
  have hg : ∀ w ∈ gd, w.before #[Value.ref b] s = true := fun w h => hts w (hgd w h)
  rcases hI with ⟨hv_0_0, hv_0_1, hv_6_4, hj0, hj1, hj2, hj3, hj4, hj5, hj6, hj7, hj8, hj9, hj10, hj11, hj12⟩ | ⟨hv_0_0, hv_0_1, hv_6_4, hj0, hj1, hj2, hj3, hj4, hj5, hj6, hj7, hj8, hj9, hj10, hj11, hj12⟩
  · skip
    obtain ⟨p0, hp0⟩ : ∃ y, y = xs (i0 + 1).toNatClampNeg := ⟨_, rfl⟩
    obtain ⟨p1, hp1⟩ : ∃ y, y = xs (i0 + 2).toNatClampNeg := ⟨_, rfl⟩
    obtain ⟨p2, hp2⟩ : ∃ y, y = xs (i0 + 3).toNatClampNeg := ⟨_, rfl⟩
    obtain ⟨p3, hp3⟩ : ∃ y, y = xs (i0 + 4).toNatClampNeg := ⟨_, rfl⟩
    obtain ⟨p4, hp4⟩ : ∃ y, y = xs (i0 + 5).toNatClampNeg := ⟨_, rfl⟩
    refine lv_aload_n hx hb dL_law_1572 rfl (lv_at hl 1 rfl) ?_
    refine ld_1 hL hi0 hi6 hx hb hX hbl hbA hS hl dL_law_1573 dL_law_1574 dL_law_1575 dL_law_1576 dL_law_1577 hp0 ?_
    have b_1 : 0 ≤ (G.1 30 4).toInt ∧ (G.1 30 4).toInt ≤ 40 := bd_30_4 hB_G
    have b_2 : 0 ≤ (G.1 30 5).toInt ∧ (G.1 30 5).toInt ≤ 40 := bd_30_5 hB_G
    refine S_calli (va_runV (As := [.int p0]) (rest := []) ⟨hx, hb, hml, hown, hts⟩ (k_Wimage l D k A a z G p0 (by omega)) (cwV 1 hts (gd_V hgd m1287 m1288 m1289 m117 m1290) rfl rfl rfl hd_X11_image ⟨Nat.le_of_ble_eq_true rfl, Nat.le_of_ble_eq_true rfl⟩) (pre_W hW hB_G hK hZ hS kd_0 rfl) rfl rfl hl.1 rfl (lv_room (Nat.le_of_ble_eq_true rfl)) dL_law_1578 ⟨Nat.le_of_ble_eq_true rfl, Nat.le_of_ble_eq_true rfl⟩) hS (fun r_3 G_4 H locs hpo hW hS => ?_)
    have hX_7 : P_Wimage p0 G r_3 G_4 := hpo
    obtain ⟨hB_G_4, hq_5, hp_6, -⟩ := hpo
    refine lv_pop hx hb dL_law_1581 rfl ?_
    refine lv_aload_n hx hb dL_law_1582 rfl (lv_at hl 2 rfl) ?_
    refine ld_1 hL hi0 hi6 hx hb hX hbl hbA hS hl dL_law_1583 dL_law_1584 dL_law_1585 dL_law_1586 dL_law_1587 hp0 ?_
    have b_8 : 0 ≤ (G.1 66 78).toInt ∧ (G.1 66 78).toInt ≤ 40 := bd_66_78 hB_G
    have g_9 : (G_4.1 66 78).toInt = (G.1 66 78).toInt := (congrArg Int32.toInt (show G_4.1 66 78 = (G.1 66 78) from (hq_5.i9 66 78 rfl rfl)))
    have b_10 : 0 ≤ (G.1 66 79).toInt ∧ (G.1 66 79).toInt ≤ 40 := bd_66_79 hB_G
    have g_11 : (G_4.1 66 79).toInt = (G.1 66 79).toInt := (congrArg Int32.toInt (show G_4.1 66 79 = (G.1 66 79) from (hq_5.i9 66 79 rfl rfl)))
    refine S_calli (va_runV (As := [.int p0]) (rest := []) ⟨hx, hb, hml, hown, hts⟩ (n_image l D k A a z G_4 p0 (by omega)) (cwV 1 hts (gd_V hgd m2066 m2067 m2068 m131 m2069) rfl rfl rfl hd_X12_image ⟨Nat.le_of_ble_eq_true rfl, Nat.le_of_ble_eq_true rfl⟩) (pre_W hW hB_G_4 hK hZ hS kd_66 rfl) rfl rfl hl.1 rfl (lv_room (Nat.le_of_ble_eq_true rfl)) dL_law_1588 ⟨Nat.le_of_ble_eq_true rfl, Nat.le_of_ble_eq_true rfl⟩) hS (fun r_12 G_13 H locs hpo hW hS => ?_)
    have hX_16 : Q_image p0 G_4 r_12 G_13 := hpo
    obtain ⟨hB_G_13, hq_14, hp_15, -⟩ := hpo
    obtain ⟨u_17, u_18⟩ := L_image_1 hX_7 hX_16 rfl (by omega)
    refine lv_pop hx hb dL_law_1591 rfl ?_
    refine lv_goto (tgt := 1641) hx hb dL_law_1592 rfl ?_
    exact K G_13 _ _ _ (Or.inl (LI_of_1 (LIn_fr_1 (LIn_fr_1 (show LIn_1 G from ⟨hv_0_0, hv_0_1, hv_6_4, hj0, hj1, hj2, hj3, hj4, hj5, hj6, hj7, hj8, hj9, hj10, hj11⟩) hq_5 (by decide +kernel)) hq_14 (by decide +kernel)) (by omega))) hB_G_13 hW hS (lv_sub hl [0, 1, 2, 3] rfl)
  · skip
    obtain ⟨p0, hp0⟩ : ∃ y, y = xs (i0 + 1).toNatClampNeg := ⟨_, rfl⟩
    obtain ⟨p1, hp1⟩ : ∃ y, y = xs (i0 + 2).toNatClampNeg := ⟨_, rfl⟩
    obtain ⟨p2, hp2⟩ : ∃ y, y = xs (i0 + 3).toNatClampNeg := ⟨_, rfl⟩
    obtain ⟨p3, hp3⟩ : ∃ y, y = xs (i0 + 4).toNatClampNeg := ⟨_, rfl⟩
    obtain ⟨p4, hp4⟩ : ∃ y, y = xs (i0 + 5).toNatClampNeg := ⟨_, rfl⟩
    refine lv_aload_n hx hb dL_law_1572 rfl (lv_at hl 1 rfl) ?_
    refine ld_1 hL hi0 hi6 hx hb hX hbl hbA hS hl dL_law_1573 dL_law_1574 dL_law_1575 dL_law_1576 dL_law_1577 hp0 ?_
    have b_1 : 0 ≤ (G.1 30 4).toInt ∧ (G.1 30 4).toInt ≤ 40 := bd_30_4 hB_G
    have b_2 : 0 ≤ (G.1 30 5).toInt ∧ (G.1 30 5).toInt ≤ 40 := bd_30_5 hB_G
    refine S_calli (va_runV (As := [.int p0]) (rest := []) ⟨hx, hb, hml, hown, hts⟩ (k_Wimage l D k A a z G p0 (by omega)) (cwV 1 hts (gd_V hgd m1287 m1288 m1289 m117 m1290) rfl rfl rfl hd_X11_image ⟨Nat.le_of_ble_eq_true rfl, Nat.le_of_ble_eq_true rfl⟩) (pre_W hW hB_G hK hZ hS kd_0 rfl) rfl rfl hl.1 rfl (lv_room (Nat.le_of_ble_eq_true rfl)) dL_law_1578 ⟨Nat.le_of_ble_eq_true rfl, Nat.le_of_ble_eq_true rfl⟩) hS (fun r_3 G_4 H locs hpo hW hS => ?_)
    have hX_7 : P_Wimage p0 G r_3 G_4 := hpo
    obtain ⟨hB_G_4, hq_5, hp_6, -⟩ := hpo
    refine lv_pop hx hb dL_law_1581 rfl ?_
    refine lv_aload_n hx hb dL_law_1582 rfl (lv_at hl 2 rfl) ?_
    refine ld_1 hL hi0 hi6 hx hb hX hbl hbA hS hl dL_law_1583 dL_law_1584 dL_law_1585 dL_law_1586 dL_law_1587 hp0 ?_
    have b_8 : 0 ≤ (G.1 66 78).toInt ∧ (G.1 66 78).toInt ≤ 40 := bd_66_78 hB_G
    have g_9 : (G_4.1 66 78).toInt = (G.1 66 78).toInt := (congrArg Int32.toInt (show G_4.1 66 78 = (G.1 66 78) from (hq_5.i9 66 78 rfl rfl)))
    have b_10 : 0 ≤ (G.1 66 79).toInt ∧ (G.1 66 79).toInt ≤ 40 := bd_66_79 hB_G
    have g_11 : (G_4.1 66 79).toInt = (G.1 66 79).toInt := (congrArg Int32.toInt (show G_4.1 66 79 = (G.1 66 79) from (hq_5.i9 66 79 rfl rfl)))
    refine S_calli (va_runV (As := [.int p0]) (rest := []) ⟨hx, hb, hml, hown, hts⟩ (n_image l D k A a z G_4 p0 (by omega)) (cwV 1 hts (gd_V hgd m2066 m2067 m2068 m131 m2069) rfl rfl rfl hd_X12_image ⟨Nat.le_of_ble_eq_true rfl, Nat.le_of_ble_eq_true rfl⟩) (pre_W hW hB_G_4 hK hZ hS kd_66 rfl) rfl rfl hl.1 rfl (lv_room (Nat.le_of_ble_eq_true rfl)) dL_law_1588 ⟨Nat.le_of_ble_eq_true rfl, Nat.le_of_ble_eq_true rfl⟩) hS (fun r_12 G_13 H locs hpo hW hS => ?_)
    have hX_16 : Q_image p0 G_4 r_12 G_13 := hpo
    obtain ⟨hB_G_13, hq_14, hp_15, -⟩ := hpo
    obtain ⟨u_17, u_18⟩ := L_image_2 hX_7 hX_16 rfl (by omega)
    refine lv_pop hx hb dL_law_1591 rfl ?_
    refine lv_goto (tgt := 1641) hx hb dL_law_1592 rfl ?_
    exact K G_13 _ _ _ (Or.inr (LI_of_2 (LIn_fr_2 (LIn_fr_2 (show LIn_2 G from ⟨hv_0_0, hv_0_1, hv_6_4, hj0, hj1, hj2, hj3, hj4, hj5, hj6, hj7, hj8, hj9, hj10, hj11⟩) hq_5 (by decide +kernel)) hq_14 (by decide +kernel)) (by omega))) hB_G_13 hW hS (lv_sub hl [0, 1, 2, 3] rfl)

set_option maxHeartbeats 4000000 in
set_option maxRecDepth 100000 in
theorem law_37 {p : Program} {l : Launch} {e : Env} {s : State} {m : MethodId} {below : List Frame} {meth : Method} {c : Code} {D : va_G} {k : KT} {A : Nat → Prop} {a : Nat → Nat} {z : SK} {b L : Nat} {xs : Nat → Int32} (hL : L ≤ 3072) (C0 : lw_At p s m meth c b L xs) (hK : cK D k s) (hZ : Sx A z s) (hbA : ¬ A b) {G : GS} {i0 : Int32} (hi0 : 0 ≤ i0.toInt) (hi6 : i0.toInt + 6 ≤ L) (hI : LI G) (hB_G : Bd G) {H : Heap} {locs : List Loc} {ls : Array Slot} (hW : Wd D k A a G H) (hS : va_S A s.heap H locs) (hl : lv_has ls 4 [(0, .ref b), (1, .ref (a 0)), (2, .ref (a 66)), (3, .int i0)]) (K : ∀ (G1 : GS) (H1 : Heap) (locs1 : List Loc) (ls1 : Array Slot), LI G1 → Bd G1 → Wd D k A a G1 H1 → va_S A s.heap H1 locs1 → lv_has ls1 4 [(0, .ref b), (1, .ref (a 0)), (2, .ref (a 66)), (3, .int i0)] → W p l e room_1 s m #[Value.ref b] below meth c H1 locs1 119 46443 (lw_Z below #[Value.ref b] s) (F0 m 1641 ls1 [])) : W p l e room_1 s m #[Value.ref b] below meth c H locs 119 46443 (lw_Z below #[Value.ref b] s) (F0 m 1595 ls []) := by
  obtain ⟨hx, hb, hr, hml, hown, hts, hX, hbl, hlocks, hgv⟩ := id C0
  have hown : s.vm.findClass RL = some m.cls := hown
  have hgd : ∀ w ∈ gd, w ∈ lw_tbl := fun w h => (List.mem_filter.mp h).1
  have hg : ∀ w ∈ gd, w.before #[Value.ref b] s = true := fun w h => hts w (hgd w h)
  rcases hI with ⟨hv_0_0, hv_0_1, hv_6_4, hj0, hj1, hj2, hj3, hj4, hj5, hj6, hj7, hj8, hj9, hj10, hj11, hj12⟩ | ⟨hv_0_0, hv_0_1, hv_6_4, hj0, hj1, hj2, hj3, hj4, hj5, hj6, hj7, hj8, hj9, hj10, hj11, hj12⟩
  · skip
    obtain ⟨p0, hp0⟩ : ∃ y, y = xs (i0 + 1).toNatClampNeg := ⟨_, rfl⟩
    obtain ⟨p1, hp1⟩ : ∃ y, y = xs (i0 + 2).toNatClampNeg := ⟨_, rfl⟩
    obtain ⟨p2, hp2⟩ : ∃ y, y = xs (i0 + 3).toNatClampNeg := ⟨_, rfl⟩
    obtain ⟨p3, hp3⟩ : ∃ y, y = xs (i0 + 4).toNatClampNeg := ⟨_, rfl⟩
    obtain ⟨p4, hp4⟩ : ∃ y, y = xs (i0 + 5).toNatClampNeg := ⟨_, rfl⟩
    refine lv_aload_n hx hb dL_law_1595 rfl (lv_at hl 1 rfl) ?_
    refine ld_1 hL hi0 hi6 hx hb hX hbl hbA hS hl dL_law_1596 dL_law_1597 dL_law_1598 dL_law_1599 dL_law_1600 hp0 ?_
    have b_1 : 0 ≤ (G.1 30 4).toInt ∧ (G.1 30 4).toInt ≤ 40 := bd_30_4 hB_G
    have b_2 : 0 ≤ (G.1 30 5).toInt ∧ (G.1 30 5).toInt ≤ 40 := bd_30_5 hB_G
    refine S_calli (va_runV (As := [.int p0]) (rest := []) ⟨hx, hb, hml, hown, hts⟩ (k_Wback l D k A a z G p0 (by omega)) (cwV 1 hts (gd_V hgd m1295 m1296 m1297 m117 m1298) rfl rfl rfl hd_X11_back ⟨Nat.le_of_ble_eq_true rfl, Nat.le_of_ble_eq_true rfl⟩) (pre_W hW hB_G hK hZ hS kd_0 rfl) rfl rfl hl.1 rfl (lv_room (Nat.le_of_ble_eq_true rfl)) dL_law_1601 ⟨Nat.le_of_ble_eq_true rfl, Nat.le_of_ble_eq_true rfl⟩) hS (fun r_3 G_4 H locs hpo hW hS => ?_)
    have hX_7 : P_Wback p0 G r_3 G_4 := hpo
    obtain ⟨hB_G_4, hq_5, hp_6, -⟩ := hpo
    refine lv_pop hx hb dL_law_1604 rfl ?_
    refine lv_aload_n hx hb dL_law_1605 rfl (lv_at hl 2 rfl) ?_
    refine ld_1 hL hi0 hi6 hx hb hX hbl hbA hS hl dL_law_1606 dL_law_1607 dL_law_1608 dL_law_1609 dL_law_1610 hp0 ?_
    have b_8 : 0 ≤ (G.1 66 78).toInt ∧ (G.1 66 78).toInt ≤ 40 := bd_66_78 hB_G
    have g_9 : (G_4.1 66 78).toInt = (G.1 66 78).toInt := (congrArg Int32.toInt (show G_4.1 66 78 = (G.1 66 78) from (hq_5.i9 66 78 rfl rfl)))
    have b_10 : 0 ≤ (G.1 66 79).toInt ∧ (G.1 66 79).toInt ≤ 40 := bd_66_79 hB_G
    have g_11 : (G_4.1 66 79).toInt = (G.1 66 79).toInt := (congrArg Int32.toInt (show G_4.1 66 79 = (G.1 66 79) from (hq_5.i9 66 79 rfl rfl)))
    refine S_calli (va_runV (As := [.int p0]) (rest := []) ⟨hx, hb, hml, hown, hts⟩ (n_back l D k A a z G_4 p0 (by omega)) (cwV 1 hts (gd_V hgd m2073 m2074 m2075 m131 m2076) rfl rfl rfl hd_X12_back ⟨Nat.le_of_ble_eq_true rfl, Nat.le_of_ble_eq_true rfl⟩) (pre_W hW hB_G_4 hK hZ hS kd_66 rfl) rfl rfl hl.1 rfl (lv_room (Nat.le_of_ble_eq_true rfl)) dL_law_1611 ⟨Nat.le_of_ble_eq_true rfl, Nat.le_of_ble_eq_true rfl⟩) hS (fun r_12 G_13 H locs hpo hW hS => ?_)
    have hX_16 : Q_back p0 G_4 r_12 G_13 := hpo
    obtain ⟨hB_G_13, hq_14, hp_15, -⟩ := hpo
    obtain ⟨u_17, u_18⟩ := L_back_1 hX_7 hX_16 rfl (by omega)
    refine lv_pop hx hb dL_law_1614 rfl ?_
    refine lv_goto (tgt := 1641) hx hb dL_law_1615 rfl ?_
    have fr_19 : Fr [110, 58, 59] [(30, 4), (30, 5), (66, 78), (66, 79)] G G_13 := (Fr.call9 (rs := [110, 58, 59]) (fs := [(30, 4), (30, 5), (66, 78), (66, 79)]) (Fr.call9 (rs := [110, 58, 59]) (fs := [(30, 4), (30, 5), (66, 78), (66, 79)]) Fr.rf hq_5 rfl rfl) hq_14 rfl rfl)
    have g_20 : gO G_13 = gO G := gO_fr fr_19 (gr_q rfl) (gf_q rfl)
    have g_21 : gP G_13 = gP G := gP_fr fr_19 (gr_q rfl) (gf_q rfl)
    have g_22 : gS G_13 = gS G := gS_fr fr_19 (gr_q rfl) (gf_q rfl)
    have g_23 : gTE G_13 = gTE G := gTE_fr fr_19 (gr_q rfl) (gf_q rfl)
    have g_24 : gW G_13 = gW G := gW_fr fr_19 (gr_q rfl) (gf_q rfl)
    have b_25 : 0 ≤ (G.1 0 11).toInt ∧ (G.1 0 11).toInt ≤ 1600 := bd_0_11 hB_G
    have g_26 : (G_13.1 0 11).toInt = (G.1 0 11).toInt := (congrArg Int32.toInt (show G_13.1 0 11 = (G.1 0 11) from ((hq_14.i9 0 11 rfl rfl).trans (hq_5.i9 0 11 rfl rfl))))
    have b_27 : 0 ≤ (G.1 3 7).toInt ∧ (G.1 3 7).toInt ≤ 4 := bd_3_7 hB_G
    have g_28 : (G_13.1 3 7).toInt = (G.1 3 7).toInt := (congrArg Int32.toInt (show G_13.1 3 7 = (G.1 3 7) from ((hq_14.i9 3 7 rfl rfl).trans (hq_5.i9 3 7 rfl rfl))))
    have b_29 : (-1) ≤ (G.1 3 8).toInt ∧ (G.1 3 8).toInt ≤ 1600 := bd_3_8 hB_G
    have g_30 : (G_13.1 3 8).toInt = (G.1 3 8).toInt := (congrArg Int32.toInt (show G_13.1 3 8 = (G.1 3 8) from ((hq_14.i9 3 8 rfl rfl).trans (hq_5.i9 3 8 rfl rfl))))
    have b_31 : 0 ≤ (G_4.1 30 4).toInt ∧ (G_4.1 30 4).toInt ≤ 40 := bd_30_4 hB_G_4
    have g_32 : (G_13.1 30 4).toInt = (G_4.1 30 4).toInt := (congrArg Int32.toInt (show G_13.1 30 4 = (G_4.1 30 4) from (hq_14.i9 30 4 rfl rfl)))
    have b_33 : 0 ≤ (G_4.1 30 5).toInt ∧ (G_4.1 30 5).toInt ≤ 40 := bd_30_5 hB_G_4
    have g_34 : (G_13.1 30 5).toInt = (G_4.1 30 5).toInt := (congrArg Int32.toInt (show G_13.1 30 5 = (G_4.1 30 5) from (hq_14.i9 30 5 rfl rfl)))
    have b_35 : 0 ≤ (G.1 31 6).toInt ∧ (G.1 31 6).toInt ≤ 100000 := bd_31_6 hB_G
    have g_36 : (G_13.1 31 6).toInt = (G.1 31 6).toInt := (congrArg Int32.toInt (show G_13.1 31 6 = (G.1 31 6) from ((hq_14.i9 31 6 rfl rfl).trans (hq_5.i9 31 6 rfl rfl))))
    have b_37 : 0 ≤ (G.1 66 1).toInt ∧ (G.1 66 1).toInt ≤ 1600 := bd_66_1 hB_G
    have g_38 : (G_13.1 66 1).toInt = (G.1 66 1).toInt := (congrArg Int32.toInt (show G_13.1 66 1 = (G.1 66 1) from ((hq_14.i9 66 1 rfl rfl).trans (hq_5.i9 66 1 rfl rfl))))
    have b_39 : 0 ≤ (G.1 66 2).toInt ∧ (G.1 66 2).toInt ≤ 4 := bd_66_2 hB_G
    have g_40 : (G_13.1 66 2).toInt = (G.1 66 2).toInt := (congrArg Int32.toInt (show G_13.1 66 2 = (G.1 66 2) from ((hq_14.i9 66 2 rfl rfl).trans (hq_5.i9 66 2 rfl rfl))))
    have b_41 : (-1) ≤ (G.1 66 3).toInt ∧ (G.1 66 3).toInt ≤ 1600 := bd_66_3 hB_G
    have g_42 : (G_13.1 66 3).toInt = (G.1 66 3).toInt := (congrArg Int32.toInt (show G_13.1 66 3 = (G.1 66 3) from ((hq_14.i9 66 3 rfl rfl).trans (hq_5.i9 66 3 rfl rfl))))
    have b_43 : 0 ≤ (G_13.1 66 78).toInt ∧ (G_13.1 66 78).toInt ≤ 40 := bd_66_78 hB_G_13
    have b_44 : 0 ≤ (G_13.1 66 79).toInt ∧ (G_13.1 66 79).toInt ≤ 40 := bd_66_79 hB_G_13
    have b_45 : 0 ≤ (G.1 66 86).toInt ∧ (G.1 66 86).toInt ≤ 100000 := bd_66_86 hB_G
    have g_46 : (G_13.1 66 86).toInt = (G.1 66 86).toInt := (congrArg Int32.toInt (show G_13.1 66 86 = (G.1 66 86) from ((hq_14.i9 66 86 rfl rfl).trans (hq_5.i9 66 86 rfl rfl))))
    have b_47 : 0 ≤ (G.1 96 0).toInt ∧ (G.1 96 0).toInt ≤ 9 := bd_96_0 hB_G
    have g_48 : (G_13.1 96 0).toInt = (G.1 96 0).toInt := (congrArg Int32.toInt (show G_13.1 96 0 = (G.1 96 0) from ((hq_14.i9 96 0 rfl rfl).trans (hq_5.i9 96 0 rfl rfl))))
    have b_49 : 0 ≤ (G.1 96 1).toInt ∧ (G.1 96 1).toInt ≤ 9 := bd_96_1 hB_G
    have g_50 : (G_13.1 96 1).toInt = (G.1 96 1).toInt := (congrArg Int32.toInt (show G_13.1 96 1 = (G.1 96 1) from ((hq_14.i9 96 1 rfl rfl).trans (hq_5.i9 96 1 rfl rfl))))
    have b_51 : 0 ≤ (G.1 96 2).toInt ∧ (G.1 96 2).toInt ≤ 9 := bd_96_2 hB_G
    have g_52 : (G_13.1 96 2).toInt = (G.1 96 2).toInt := (congrArg Int32.toInt (show G_13.1 96 2 = (G.1 96 2) from ((hq_14.i9 96 2 rfl rfl).trans (hq_5.i9 96 2 rfl rfl))))
    exact K G_13 _ _ _ (Or.inl ⟨((((hq_14.r9 0 0 rfl rfl).trans (hq_5.r9 0 0 rfl rfl))).trans (hv_0_0)), ((((hq_14.r9 0 1 rfl rfl).trans (hq_5.r9 0 1 rfl rfl))).trans (hv_0_1)), ((((hq_14.r9 6 4 rfl rfl).trans (hq_5.r9 6 4 rfl rfl))).trans (hv_6_4)), by omega, by omega, by omega, by omega, by omega, by omega, by omega, by omega, by omega, by omega, by omega, by omega, by omega⟩) hB_G_13 hW hS (lv_sub hl [0, 1, 2, 3] rfl)
  · skip
    obtain ⟨p0, hp0⟩ : ∃ y, y = xs (i0 + 1).toNatClampNeg := ⟨_, rfl⟩
    obtain ⟨p1, hp1⟩ : ∃ y, y = xs (i0 + 2).toNatClampNeg := ⟨_, rfl⟩
    obtain ⟨p2, hp2⟩ : ∃ y, y = xs (i0 + 3).toNatClampNeg := ⟨_, rfl⟩
    obtain ⟨p3, hp3⟩ : ∃ y, y = xs (i0 + 4).toNatClampNeg := ⟨_, rfl⟩
    obtain ⟨p4, hp4⟩ : ∃ y, y = xs (i0 + 5).toNatClampNeg := ⟨_, rfl⟩
    refine lv_aload_n hx hb dL_law_1595 rfl (lv_at hl 1 rfl) ?_
    refine ld_1 hL hi0 hi6 hx hb hX hbl hbA hS hl dL_law_1596 dL_law_1597 dL_law_1598 dL_law_1599 dL_law_1600 hp0 ?_
    have b_1 : 0 ≤ (G.1 30 4).toInt ∧ (G.1 30 4).toInt ≤ 40 := bd_30_4 hB_G
    have b_2 : 0 ≤ (G.1 30 5).toInt ∧ (G.1 30 5).toInt ≤ 40 := bd_30_5 hB_G
    refine S_calli (va_runV (As := [.int p0]) (rest := []) ⟨hx, hb, hml, hown, hts⟩ (k_Wback l D k A a z G p0 (by omega)) (cwV 1 hts (gd_V hgd m1295 m1296 m1297 m117 m1298) rfl rfl rfl hd_X11_back ⟨Nat.le_of_ble_eq_true rfl, Nat.le_of_ble_eq_true rfl⟩) (pre_W hW hB_G hK hZ hS kd_0 rfl) rfl rfl hl.1 rfl (lv_room (Nat.le_of_ble_eq_true rfl)) dL_law_1601 ⟨Nat.le_of_ble_eq_true rfl, Nat.le_of_ble_eq_true rfl⟩) hS (fun r_3 G_4 H locs hpo hW hS => ?_)
    have hX_7 : P_Wback p0 G r_3 G_4 := hpo
    obtain ⟨hB_G_4, hq_5, hp_6, -⟩ := hpo
    refine lv_pop hx hb dL_law_1604 rfl ?_
    refine lv_aload_n hx hb dL_law_1605 rfl (lv_at hl 2 rfl) ?_
    refine ld_1 hL hi0 hi6 hx hb hX hbl hbA hS hl dL_law_1606 dL_law_1607 dL_law_1608 dL_law_1609 dL_law_1610 hp0 ?_
    have b_8 : 0 ≤ (G.1 66 78).toInt ∧ (G.1 66 78).toInt ≤ 40 := bd_66_78 hB_G
    have g_9 : (G_4.1 66 78).toInt = (G.1 66 78).toInt := (congrArg Int32.toInt (show G_4.1 66 78 = (G.1 66 78) from (hq_5.i9 66 78 rfl rfl)))
    have b_10 : 0 ≤ (G.1 66 79).toInt ∧ (G.1 66 79).toInt ≤ 40 := bd_66_79 hB_G
    have g_11 : (G_4.1 66 79).toInt = (G.1 66 79).toInt := (congrArg Int32.toInt (show G_4.1 66 79 = (G.1 66 79) from (hq_5.i9 66 79 rfl rfl)))
    refine S_calli (va_runV (As := [.int p0]) (rest := []) ⟨hx, hb, hml, hown, hts⟩ (n_back l D k A a z G_4 p0 (by omega)) (cwV 1 hts (gd_V hgd m2073 m2074 m2075 m131 m2076) rfl rfl rfl hd_X12_back ⟨Nat.le_of_ble_eq_true rfl, Nat.le_of_ble_eq_true rfl⟩) (pre_W hW hB_G_4 hK hZ hS kd_66 rfl) rfl rfl hl.1 rfl (lv_room (Nat.le_of_ble_eq_true rfl)) dL_law_1611 ⟨Nat.le_of_ble_eq_true rfl, Nat.le_of_ble_eq_true rfl⟩) hS (fun r_12 G_13 H locs hpo hW hS => ?_)
    have hX_16 : Q_back p0 G_4 r_12 G_13 := hpo
    obtain ⟨hB_G_13, hq_14, hp_15, -⟩ := hpo
    obtain ⟨u_17, u_18⟩ := L_back_2 hX_7 hX_16 rfl (by omega)
    refine lv_pop hx hb dL_law_1614 rfl ?_
    refine lv_goto (tgt := 1641) hx hb dL_law_1615 rfl ?_
    have fr_19 : Fr [110, 58, 59] [(30, 4), (30, 5), (66, 78), (66, 79)] G G_13 := (Fr.call9 (rs := [110, 58, 59]) (fs := [(30, 4), (30, 5), (66, 78), (66, 79)]) (Fr.call9 (rs := [110, 58, 59]) (fs := [(30, 4), (30, 5), (66, 78), (66, 79)]) Fr.rf hq_5 rfl rfl) hq_14 rfl rfl)
    have g_20 : gO G_13 = gO G := gO_fr fr_19 (gr_q rfl) (gf_q rfl)
    have g_21 : gP G_13 = gP G := gP_fr fr_19 (gr_q rfl) (gf_q rfl)
    have g_22 : gS G_13 = gS G := gS_fr fr_19 (gr_q rfl) (gf_q rfl)
    have g_23 : gTE G_13 = gTE G := gTE_fr fr_19 (gr_q rfl) (gf_q rfl)
    have g_24 : gW G_13 = gW G := gW_fr fr_19 (gr_q rfl) (gf_q rfl)
    have b_25 : 0 ≤ (G.1 0 11).toInt ∧ (G.1 0 11).toInt ≤ 1600 := bd_0_11 hB_G
    have g_26 : (G_13.1 0 11).toInt = (G.1 0 11).toInt := (congrArg Int32.toInt (show G_13.1 0 11 = (G.1 0 11) from ((hq_14.i9 0 11 rfl rfl).trans (hq_5.i9 0 11 rfl rfl))))
    have b_27 : 0 ≤ (G.1 3 7).toInt ∧ (G.1 3 7).toInt ≤ 4 := bd_3_7 hB_G
    have g_28 : (G_13.1 3 7).toInt = (G.1 3 7).toInt := (congrArg Int32.toInt (show G_13.1 3 7 = (G.1 3 7) from ((hq_14.i9 3 7 rfl rfl).trans (hq_5.i9 3 7 rfl rfl))))
    have b_29 : (-1) ≤ (G.1 3 8).toInt ∧ (G.1 3 8).toInt ≤ 1600 := bd_3_8 hB_G
    have g_30 : (G_13.1 3 8).toInt = (G.1 3 8).toInt := (congrArg Int32.toInt (show G_13.1 3 8 = (G.1 3 8) from ((hq_14.i9 3 8 rfl rfl).trans (hq_5.i9 3 8 rfl rfl))))
    have b_31 : 0 ≤ (G_4.1 30 4).toInt ∧ (G_4.1 30 4).toInt ≤ 40 := bd_30_4 hB_G_4
    have g_32 : (G_13.1 30 4).toInt = (G_4.1 30 4).toInt := (congrArg Int32.toInt (show G_13.1 30 4 = (G_4.1 30 4) from (hq_14.i9 30 4 rfl rfl)))
    have b_33 : 0 ≤ (G_4.1 30 5).toInt ∧ (G_4.1 30 5).toInt ≤ 40 := bd_30_5 hB_G_4
    have g_34 : (G_13.1 30 5).toInt = (G_4.1 30 5).toInt := (congrArg Int32.toInt (show G_13.1 30 5 = (G_4.1 30 5) from (hq_14.i9 30 5 rfl rfl)))
    have b_35 : 0 ≤ (G.1 31 6).toInt ∧ (G.1 31 6).toInt ≤ 100000 := bd_31_6 hB_G
    have g_36 : (G_13.1 31 6).toInt = (G.1 31 6).toInt := (congrArg Int32.toInt (show G_13.1 31 6 = (G.1 31 6) from ((hq_14.i9 31 6 rfl rfl).trans (hq_5.i9 31 6 rfl rfl))))
    have b_37 : 0 ≤ (G.1 66 1).toInt ∧ (G.1 66 1).toInt ≤ 1600 := bd_66_1 hB_G
    have g_38 : (G_13.1 66 1).toInt = (G.1 66 1).toInt := (congrArg Int32.toInt (show G_13.1 66 1 = (G.1 66 1) from ((hq_14.i9 66 1 rfl rfl).trans (hq_5.i9 66 1 rfl rfl))))
    have b_39 : 0 ≤ (G.1 66 2).toInt ∧ (G.1 66 2).toInt ≤ 4 := bd_66_2 hB_G
    have g_40 : (G_13.1 66 2).toInt = (G.1 66 2).toInt := (congrArg Int32.toInt (show G_13.1 66 2 = (G.1 66 2) from ((hq_14.i9 66 2 rfl rfl).trans (hq_5.i9 66 2 rfl rfl))))
    have b_41 : (-1) ≤ (G.1 66 3).toInt ∧ (G.1 66 3).toInt ≤ 1600 := bd_66_3 hB_G
    have g_42 : (G_13.1 66 3).toInt = (G.1 66 3).toInt := (congrArg Int32.toInt (show G_13.1 66 3 = (G.1 66 3) from ((hq_14.i9 66 3 rfl rfl).trans (hq_5.i9 66 3 rfl rfl))))
    have b_43 : 0 ≤ (G_13.1 66 78).toInt ∧ (G_13.1 66 78).toInt ≤ 40 := bd_66_78 hB_G_13
    have b_44 : 0 ≤ (G_13.1 66 79).toInt ∧ (G_13.1 66 79).toInt ≤ 40 := bd_66_79 hB_G_13
    have b_45 : 0 ≤ (G.1 66 86).toInt ∧ (G.1 66 86).toInt ≤ 100000 := bd_66_86 hB_G
    have g_46 : (G_13.1 66 86).toInt = (G.1 66 86).toInt := (congrArg Int32.toInt (show G_13.1 66 86 = (G.1 66 86) from ((hq_14.i9 66 86 rfl rfl).trans (hq_5.i9 66 86 rfl rfl))))
    have b_47 : 0 ≤ (G.1 96 0).toInt ∧ (G.1 96 0).toInt ≤ 9 := bd_96_0 hB_G
    have g_48 : (G_13.1 96 0).toInt = (G.1 96 0).toInt := (congrArg Int32.toInt (show G_13.1 96 0 = (G.1 96 0) from ((hq_14.i9 96 0 rfl rfl).trans (hq_5.i9 96 0 rfl rfl))))
    have b_49 : 0 ≤ (G.1 96 1).toInt ∧ (G.1 96 1).toInt ≤ 9 := bd_96_1 hB_G
    have g_50 : (G_13.1 96 1).toInt = (G.1 96 1).toInt := (congrArg Int32.toInt (show G_13.1 96 1 = (G.1 96 1) from ((hq_14.i9 96 1 rfl rfl).trans (hq_5.i9 96 1 rfl rfl))))
    have b_51 : 0 ≤ (G.1 96 2).toInt ∧ (G.1 96 2).toInt ≤ 9 := bd_96_2 hB_G
    have g_52 : (G_13.1 96 2).toInt = (G.1 96 2).toInt := (congrArg Int32.toInt (show G_13.1 96 2 = (G.1 96 2) from ((hq_14.i9 96 2 rfl rfl).trans (hq_5.i9 96 2 rfl rfl))))
    exact K G_13 _ _ _ (Or.inr ⟨((((hq_14.r9 0 0 rfl rfl).trans (hq_5.r9 0 0 rfl rfl))).trans (hv_0_0)), ((((hq_14.r9 0 1 rfl rfl).trans (hq_5.r9 0 1 rfl rfl))).trans (hv_0_1)), ((((hq_14.r9 6 4 rfl rfl).trans (hq_5.r9 6 4 rfl rfl))).trans (hv_6_4)), by omega, by omega, by omega, by omega, by omega, by omega, by omega, by omega, by omega, by omega, by omega, by omega, by omega⟩) hB_G_13 hW hS (lv_sub hl [0, 1, 2, 3] rfl)

set_option maxHeartbeats 4000000 in
set_option maxRecDepth 100000 in
theorem law_38 {p : Program} {l : Launch} {e : Env} {s : State} {m : MethodId} {below : List Frame} {meth : Method} {c : Code} {D : va_G} {k : KT} {A : Nat → Prop} {a : Nat → Nat} {z : SK} {b L : Nat} {xs : Nat → Int32} (hL : L ≤ 3072) (C0 : lw_At p s m meth c b L xs) (hK : cK D k s) (hZ : Sx A z s) (hbA : ¬ A b) {G : GS} {i0 : Int32} (hi0 : 0 ≤ i0.toInt) (hi6 : i0.toInt + 6 ≤ L) (hI : LI G) (hB_G : Bd G) {H : Heap} {locs : List Loc} {ls : Array Slot} (hW : Wd D k A a G H) (hS : va_S A s.heap H locs) (hl : lv_has ls 4 [(0, .ref b), (1, .ref (a 0)), (2, .ref (a 66)), (3, .int i0)]) (K : ∀ (G1 : GS) (H1 : Heap) (locs1 : List Loc) (ls1 : Array Slot), LI G1 → Bd G1 → Wd D k A a G1 H1 → va_S A s.heap H1 locs1 → lv_has ls1 4 [(0, .ref b), (1, .ref (a 0)), (2, .ref (a 66)), (3, .int i0)] → W p l e room_1 s m #[Value.ref b] below meth c H1 locs1 119 46443 (lw_Z below #[Value.ref b] s) (F0 m 1641 ls1 [])) : W p l e room_1 s m #[Value.ref b] below meth c H locs 119 46443 (lw_Z below #[Value.ref b] s) (F0 m 1618 ls []) := by
  obtain ⟨hx, hb, hr, hml, hown, hts, hX, hbl, hlocks, hgv⟩ := id C0
  have hown : s.vm.findClass RL = some m.cls := hown
  have hgd : ∀ w ∈ gd, w ∈ lw_tbl := fun w h => (List.mem_filter.mp h).1
  have hg : ∀ w ∈ gd, w.before #[Value.ref b] s = true := fun w h => hts w (hgd w h)
  rcases hI with ⟨hv_0_0, hv_0_1, hv_6_4, hj0, hj1, hj2, hj3, hj4, hj5, hj6, hj7, hj8, hj9, hj10, hj11, hj12⟩ | ⟨hv_0_0, hv_0_1, hv_6_4, hj0, hj1, hj2, hj3, hj4, hj5, hj6, hj7, hj8, hj9, hj10, hj11, hj12⟩
  · skip
    obtain ⟨p0, hp0⟩ : ∃ y, y = xs (i0 + 1).toNatClampNeg := ⟨_, rfl⟩
    obtain ⟨p1, hp1⟩ : ∃ y, y = xs (i0 + 2).toNatClampNeg := ⟨_, rfl⟩
    obtain ⟨p2, hp2⟩ : ∃ y, y = xs (i0 + 3).toNatClampNeg := ⟨_, rfl⟩
    obtain ⟨p3, hp3⟩ : ∃ y, y = xs (i0 + 4).toNatClampNeg := ⟨_, rfl⟩
    obtain ⟨p4, hp4⟩ : ∃ y, y = xs (i0 + 5).toNatClampNeg := ⟨_, rfl⟩
    refine lv_aload_n hx hb dL_law_1618 rfl (lv_at hl 1 rfl) ?_
    refine ld_1 hL hi0 hi6 hx hb hX hbl hbA hS hl dL_law_1619 dL_law_1620 dL_law_1621 dL_law_1622 dL_law_1623 hp0 ?_
    refine S_calli (va_runV (As := [.int p0]) (rest := []) ⟨hx, hb, hml, hown, hts⟩ (k_Wabout_1 l D k A a z G p0 hv_0_0 hv_0_1 hv_6_4) (cwV 1 hts (gd_V hgd m1303 m1304 m1305 m117 m1306) rfl rfl rfl hd_X11_about ⟨Nat.le_of_ble_eq_true rfl, Nat.le_of_ble_eq_true rfl⟩) (pre_W hW hB_G hK hZ hS kd_0 rfl) rfl rfl hl.1 rfl (lv_room (Nat.le_of_ble_eq_true rfl)) dL_law_1624 ⟨Nat.le_of_ble_eq_true rfl, Nat.le_of_ble_eq_true rfl⟩) hS (fun r_1 G_2 H locs hpo hW hS => ?_)
    have hX_5 : P_Wabout_1 p0 G r_1 G_2 := hpo
    obtain ⟨hB_G_2, hq_3, -⟩ := hpo
    refine lv_pop hx hb dL_law_1627 rfl ?_
    refine lv_aload_n hx hb dL_law_1628 rfl (lv_at hl 2 rfl) ?_
    refine ld_1 hL hi0 hi6 hx hb hX hbl hbA hS hl dL_law_1629 dL_law_1630 dL_law_1631 dL_law_1632 dL_law_1633 hp0 ?_
    refine S_calli (va_runV (As := [.int p0]) (rest := []) ⟨hx, hb, hml, hown, hts⟩ (n_about l D k A a z G_2 p0 ) (cwV 1 hts (gd_V hgd m2077 m2078 m2079 m131 m2080) rfl rfl rfl hd_X12_about ⟨Nat.le_of_ble_eq_true rfl, Nat.le_of_ble_eq_true rfl⟩) (pre_W hW hB_G_2 hK hZ hS kd_66 rfl) rfl rfl hl.1 rfl (lv_room (Nat.le_of_ble_eq_true rfl)) dL_law_1634 ⟨Nat.le_of_ble_eq_true rfl, Nat.le_of_ble_eq_true rfl⟩) hS (fun r_6 G_7 H locs hpo hW hS => ?_)
    have hX_10 : Q_about p0 G_2 r_6 G_7 := hpo
    obtain ⟨hB_G_7, hq_8, -⟩ := hpo
    refine lv_pop hx hb dL_law_1637 rfl ?_
    refine lv_goto (tgt := 1641) hx hb dL_law_1638 rfl ?_
    have fr_11 : Fr [] [] G G_7 := (Fr.call9 (rs := []) (fs := []) (Fr.call9 (rs := []) (fs := []) Fr.rf hq_3 rfl rfl) hq_8 rfl rfl)
    have g_12 : gIA G_7 = gIA G := gIA_fr fr_11 (gr_q rfl) (gf_q rfl)
    exact K G_7 _ _ _ (Or.inl (LI_of_1 (LIn_fr_1 (LIn_fr_1 (show LIn_1 G from ⟨hv_0_0, hv_0_1, hv_6_4, hj0, hj1, hj2, hj3, hj4, hj5, hj6, hj7, hj8, hj9, hj10, hj11⟩) hq_3 (by decide +kernel)) hq_8 (by decide +kernel)) (by omega))) hB_G_7 hW hS (lv_sub hl [0, 1, 2, 3] rfl)
  · skip
    obtain ⟨p0, hp0⟩ : ∃ y, y = xs (i0 + 1).toNatClampNeg := ⟨_, rfl⟩
    obtain ⟨p1, hp1⟩ : ∃ y, y = xs (i0 + 2).toNatClampNeg := ⟨_, rfl⟩
    obtain ⟨p2, hp2⟩ : ∃ y, y = xs (i0 + 3).toNatClampNeg := ⟨_, rfl⟩
    obtain ⟨p3, hp3⟩ : ∃ y, y = xs (i0 + 4).toNatClampNeg := ⟨_, rfl⟩
    obtain ⟨p4, hp4⟩ : ∃ y, y = xs (i0 + 5).toNatClampNeg := ⟨_, rfl⟩
    refine lv_aload_n hx hb dL_law_1618 rfl (lv_at hl 1 rfl) ?_
    refine ld_1 hL hi0 hi6 hx hb hX hbl hbA hS hl dL_law_1619 dL_law_1620 dL_law_1621 dL_law_1622 dL_law_1623 hp0 ?_
    refine S_calli (va_runV (As := [.int p0]) (rest := []) ⟨hx, hb, hml, hown, hts⟩ (k_Wabout_2 l D k A a z G p0 hv_0_0 hv_0_1 hv_6_4) (cwV 1 hts (gd_V hgd m1303 m1304 m1305 m117 m1306) rfl rfl rfl hd_X11_about ⟨Nat.le_of_ble_eq_true rfl, Nat.le_of_ble_eq_true rfl⟩) (pre_W hW hB_G hK hZ hS kd_0 rfl) rfl rfl hl.1 rfl (lv_room (Nat.le_of_ble_eq_true rfl)) dL_law_1624 ⟨Nat.le_of_ble_eq_true rfl, Nat.le_of_ble_eq_true rfl⟩) hS (fun r_1 G_2 H locs hpo hW hS => ?_)
    have hX_5 : P_Wabout_2 p0 G r_1 G_2 := hpo
    obtain ⟨hB_G_2, hq_3, -⟩ := hpo
    refine lv_pop hx hb dL_law_1627 rfl ?_
    refine lv_aload_n hx hb dL_law_1628 rfl (lv_at hl 2 rfl) ?_
    refine ld_1 hL hi0 hi6 hx hb hX hbl hbA hS hl dL_law_1629 dL_law_1630 dL_law_1631 dL_law_1632 dL_law_1633 hp0 ?_
    refine S_calli (va_runV (As := [.int p0]) (rest := []) ⟨hx, hb, hml, hown, hts⟩ (n_about l D k A a z G_2 p0 ) (cwV 1 hts (gd_V hgd m2077 m2078 m2079 m131 m2080) rfl rfl rfl hd_X12_about ⟨Nat.le_of_ble_eq_true rfl, Nat.le_of_ble_eq_true rfl⟩) (pre_W hW hB_G_2 hK hZ hS kd_66 rfl) rfl rfl hl.1 rfl (lv_room (Nat.le_of_ble_eq_true rfl)) dL_law_1634 ⟨Nat.le_of_ble_eq_true rfl, Nat.le_of_ble_eq_true rfl⟩) hS (fun r_6 G_7 H locs hpo hW hS => ?_)
    have hX_10 : Q_about p0 G_2 r_6 G_7 := hpo
    obtain ⟨hB_G_7, hq_8, -⟩ := hpo
    refine lv_pop hx hb dL_law_1637 rfl ?_
    refine lv_goto (tgt := 1641) hx hb dL_law_1638 rfl ?_
    have fr_11 : Fr [] [] G G_7 := (Fr.call9 (rs := []) (fs := []) (Fr.call9 (rs := []) (fs := []) Fr.rf hq_3 rfl rfl) hq_8 rfl rfl)
    have g_12 : gIB G_7 = gIB G := gIB_fr fr_11 (gr_q rfl) (gf_q rfl)
    exact K G_7 _ _ _ (Or.inr (LI_of_2 (LIn_fr_2 (LIn_fr_2 (show LIn_2 G from ⟨hv_0_0, hv_0_1, hv_6_4, hj0, hj1, hj2, hj3, hj4, hj5, hj6, hj7, hj8, hj9, hj10, hj11⟩) hq_3 (by decide +kernel)) hq_8 (by decide +kernel)) (by omega))) hB_G_7 hW hS (lv_sub hl [0, 1, 2, 3] rfl)
