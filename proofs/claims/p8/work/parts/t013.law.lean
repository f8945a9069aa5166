theorem m1162 : Cond.methodLink RL 104 yX11_leave ∈ gd := gdc_5_5 6 rfl gw_methodLink
theorem m1163 : Cond.instanceMethod yX11_leave ∈ gd := gdc_5_5 7 rfl gw_instanceMethod
theorem m1164 : Cond.selects RX11 yX11_leave yX11_leave ∈ gd := gdc_5_5 8 rfl gw_selects
theorem m1165 : Cond.code yX11_leave cX11_leave 5 (some .int) ∈ gd := gdc_5_5 9 rfl gw_code
theorem m1166 : Cond.methodLink RL 109 yX11_walk ∈ gd := gdc_5_5 10 rfl gw_methodLink
theorem m1167 : Cond.instanceMethod yX11_walk ∈ gd := gdc_5_5 11 rfl gw_instanceMethod
theorem m1168 : Cond.selects RX11 yX11_walk yX11_walk ∈ gd := gdc_5_5 12 rfl gw_selects
theorem m1169 : Cond.code yX11_walk cX11_walk 4 (some .int) ∈ gd := gdc_5_5 13 rfl gw_code
theorem m1182 : Cond.methodLink RL 113 yX11_go ∈ gd := gdc_5_6 10 rfl gw_methodLink
theorem m1183 : Cond.instanceMethod yX11_go ∈ gd := gdc_5_6 11 rfl gw_instanceMethod
theorem m1184 : Cond.selects RX11 yX11_go yX11_go ∈ gd := gdc_5_6 12 rfl gw_selects
theorem m1185 : Cond.code yX11_go cX11_go 5 (some .int) ∈ gd := gdc_5_6 13 rfl gw_code
theorem m1202 : Cond.methodLink RL 117 yX11_force ∈ gd := gdc_5_7 14 rfl gw_methodLink
theorem m1203 : Cond.instanceMethod yX11_force ∈ gd := gdc_5_7 15 rfl gw_instanceMethod
theorem m1204 : Cond.selects RX11 yX11_force yX11_force ∈ gd := gdc_5_8 0 rfl gw_selects
theorem m1205 : Cond.code yX11_force cX11_force 2 (some .int) ∈ gd := gdc_5_8 1 rfl gw_code
theorem m1210 : Cond.methodLink RL 121 yX11_rain ∈ gd := gdc_5_8 6 rfl gw_methodLink
theorem m1211 : Cond.instanceMethod yX11_rain ∈ gd := gdc_5_8 7 rfl gw_instanceMethod
theorem m1212 : Cond.selects RX11 yX11_rain yX11_rain ∈ gd := gdc_5_8 8 rfl gw_selects
theorem m1213 : Cond.code yX11_rain cX11_rain 1 (some .boolean) ∈ gd := gdc_5_8 9 rfl gw_code
theorem m1983 : Cond.methodLink RL 108 yX12_leave ∈ gd := gdc_8_11 11 rfl gw_methodLink
theorem m1984 : Cond.instanceMethod yX12_leave ∈ gd := gdc_8_11 12 rfl gw_instanceMethod
theorem m1985 : Cond.selects RX12 yX12_leave yX12_leave ∈ gd := gdc_8_11 13 rfl gw_selects
theorem m1986 : Cond.code yX12_leave cX12_leave 5 (some .int) ∈ gd := gdc_8_11 14 rfl gw_code
theorem m1987 : Cond.methodLink RL 112 yX12_walk ∈ gd := gdc_8_11 15 rfl gw_methodLink
theorem m1988 : Cond.instanceMethod yX12_walk ∈ gd := gdc_8_12 0 rfl gw_instanceMethod
theorem m1989 : Cond.selects RX12 yX12_walk yX12_walk ∈ gd := gdc_8_12 1 rfl gw_selects
theorem m1990 : Cond.code yX12_walk cX12_walk 4 (some .int) ∈ gd := gdc_8_12 2 rfl gw_code
theorem m1999 : Cond.methodLink RL 116 yX12_go ∈ gd := gdc_8_12 11 rfl gw_methodLink
theorem m2000 : Cond.instanceMethod yX12_go ∈ gd := gdc_8_12 12 rfl gw_instanceMethod
theorem m2001 : Cond.selects RX12 yX12_go yX12_go ∈ gd := gdc_8_12 13 rfl gw_selects
theorem m2002 : Cond.code yX12_go cX12_go 5 (some .int) ∈ gd := gdc_8_12 14 rfl gw_code
theorem m2003 : Cond.methodLink RL 120 yX12_force ∈ gd := gdc_8_12 15 rfl gw_methodLink
theorem m2004 : Cond.instanceMethod yX12_force ∈ gd := gdc_8_13 0 rfl gw_instanceMethod
theorem m2005 : Cond.selects RX12 yX12_force yX12_force ∈ gd := gdc_8_13 1 rfl gw_selects
theorem m2006 : Cond.code yX12_force cX12_force 2 (some .int) ∈ gd := gdc_8_13 2 rfl gw_code
theorem m2011 : Cond.methodLink RL 125 yX12_rain ∈ gd := gdc_8_13 7 rfl gw_methodLink
theorem m2012 : Cond.instanceMethod yX12_rain ∈ gd := gdc_8_13 8 rfl gw_instanceMethod
theorem m2013 : Cond.selects RX12 yX12_rain yX12_rain ∈ gd := gdc_8_13 9 rfl gw_selects
theorem m2014 : Cond.code yX12_rain cX12_rain 1 (some .boolean) ∈ gd := gdc_8_13 10 rfl gw_code
def rbL_law_1197 : List (Nat × List Nat) := [(1197, [43]), (1198, [42]), (1199, [29]), (1200, [4]), (1201, [96]), (1202, [46]), (1203, [42]), (1204, [29]), (1205, [5]), (1206, [96]), (1207, [46]), (1208, [182, 0, 104]), (1211, [87]), (1212, [44]), (1213, [42]), (1214, [29]), (1215, [4]), (1216, [96]), (1217, [46]), (1218, [42]), (1219, [29]), (1220, [5]), (1221, [96]), (1222, [46])]
theorem rcL_law_1197 : dgo (lb cL_law) 0 rbL_law_1197 = true := by decide +kernel
theorem dL_law_1197 : decode cL_law 1197 = .ok (.aload_n 1, 1) := dk_43 (dw rcL_law_1197 0 rfl)
theorem dL_law_1198 : decode cL_law 1198 = .ok (.aload_n 0, 1) := dk_42 (dw rcL_law_1197 1 rfl)
theorem dL_law_1199 : decode cL_law 1199 = .ok (.iload_n 3, 1) := dk_29 (dw rcL_law_1197 2 rfl)
theorem dL_law_1200 : decode cL_law 1200 = .ok (.iconst 1, 1) := dk_4 (dw rcL_law_1197 3 rfl)
theorem dL_law_1201 : decode cL_law 1201 = .ok (.iadd, 1) := dk_96 (dw rcL_law_1197 4 rfl)
theorem dL_law_1202 : decode cL_law 1202 = .ok (.iaload, 1) := dk_46 (dw rcL_law_1197 5 rfl)
theorem dL_law_1203 : decode cL_law 1203 = .ok (.aload_n 0, 1) := dk_42 (dw rcL_law_1197 6 rfl)
theorem dL_law_1204 : decode cL_law 1204 = .ok (.iload_n 3, 1) := dk_29 (dw rcL_law_1197 7 rfl)
theorem dL_law_1205 : decode cL_law 1205 = .ok (.iconst 2, 1) := dk_5 (dw rcL_law_1197 8 rfl)
theorem dL_law_1206 : decode cL_law 1206 = .ok (.iadd, 1) := dk_96 (dw rcL_law_1197 9 rfl)
theorem dL_law_1207 : decode cL_law 1207 = .ok (.iaload, 1) := dk_46 (dw rcL_law_1197 10 rfl)
theorem dL_law_1208 : decode cL_law 1208 = .ok (.invokevirtual 104, 3) := dk_182 (dw rcL_law_1197 11 rfl) rfl
theorem dL_law_1211 : decode cL_law 1211 = .ok (.pop, 1) := dk_87 (dw rcL_law_1197 12 rfl)
theorem dL_law_1212 : decode cL_law 1212 = .ok (.aload_n 2, 1) := dk_44 (dw rcL_law_1197 13 rfl)
theorem dL_law_1213 : decode cL_law 1213 = .ok (.aload_n 0, 1) := dk_42 (dw rcL_law_1197 14 rfl)
theorem dL_law_1214 : decode cL_law 1214 = .ok (.iload_n 3, 1) := dk_29 (dw rcL_law_1197 15 rfl)
theorem dL_law_1215 : decode cL_law 1215 = .ok (.iconst 1, 1) := dk_4 (dw rcL_law_1197 16 rfl)
theorem dL_law_1216 : decode cL_law 1216 = .ok (.iadd, 1) := dk_96 (dw rcL_law_1197 17 rfl)
theorem dL_law_1217 : decode cL_law 1217 = .ok (.iaload, 1) := dk_46 (dw rcL_law_1197 18 rfl)
theorem dL_law_1218 : decode cL_law 1218 = .ok (.aload_n 0, 1) := dk_42 (dw rcL_law_1197 19 rfl)
theorem dL_law_1219 : decode cL_law 1219 = .ok (.iload_n 3, 1) := dk_29 (dw rcL_law_1197 20 rfl)
theorem dL_law_1220 : decode cL_law 1220 = .ok (.iconst 2, 1) := dk_5 (dw rcL_law_1197 21 rfl)
theorem dL_law_1221 : decode cL_law 1221 = .ok (.iadd, 1) := dk_96 (dw rcL_law_1197 22 rfl)
theorem dL_law_1222 : decode cL_law 1222 = .ok (.iaload, 1) := dk_46 (dw rcL_law_1197 23 rfl)
def rbL_law_1223 : List (Nat × List Nat) := [(1223, [182, 0, 108]), (1226, [87]), (1227, [167, 1, 158]), (1230, [43]), (1231, [42]), (1232, [29]), (1233, [4]), (1234, [96]), (1235, [46]), (1236, [42]), (1237, [29]), (1238, [5]), (1239, [96]), (1240, [46]), (1241, [42]), (1242, [29]), (1243, [6]), (1244, [96]), (1245, [46]), (1246, [182, 0, 109]), (1249, [87]), (1250, [44]), (1251, [42]), (1252, [29])]
theorem rcL_law_1223 : dgo (lb cL_law) 0 rbL_law_1223 = true := by decide +kernel
theorem dL_law_1223 : decode cL_law 1223 = .ok (.invokevirtual 108, 3) := dk_182 (dw rcL_law_1223 0 rfl) rfl
theorem dL_law_1226 : decode cL_law 1226 = .ok (.pop, 1) := dk_87 (dw rcL_law_1223 1 rfl)
theorem dL_law_1227 : decode cL_law 1227 = .ok (.goto 414, 3) := dk_167 (dw rcL_law_1223 2 rfl) rfl
theorem dL_law_1230 : decode cL_law 1230 = .ok (.aload_n 1, 1) := dk_43 (dw rcL_law_1223 3 rfl)
theorem dL_law_1231 : decode cL_law 1231 = .ok (.aload_n 0, 1) := dk_42 (dw rcL_law_1223 4 rfl)
theorem dL_law_1232 : decode cL_law 1232 = .ok (.iload_n 3, 1) := dk_29 (dw rcL_law_1223 5 rfl)
theorem dL_law_1233 : decode cL_law 1233 = .ok (.iconst 1, 1) := dk_4 (dw rcL_law_1223 6 rfl)
theorem dL_law_1234 : decode cL_law 1234 = .ok (.iadd, 1) := dk_96 (dw rcL_law_1223 7 rfl)
theorem dL_law_1235 : decode cL_law 1235 = .ok (.iaload, 1) := dk_46 (dw rcL_law_1223 8 rfl)
theorem dL_law_1236 : decode cL_law 1236 = .ok (.aload_n 0, 1) := dk_42 (dw rcL_law_1223 9 rfl)
theorem dL_law_1237 : decode cL_law 1237 = .ok (.iload_n 3, 1) := dk_29 (dw rcL_law_1223 10 rfl)
theorem dL_law_1238 : decode cL_law 1238 = .ok (.iconst 2, 1) := dk_5 (dw rcL_law_1223 11 rfl)
theorem dL_law_1239 : decode cL_law 1239 = .ok (.iadd, 1) := dk_96 (dw rcL_law_1223 12 rfl)
theorem dL_law_1240 : decode cL_law 1240 = .ok (.iaload, 1) := dk_46 (dw rcL_law_1223 13 rfl)
theorem dL_law_1241 : decode cL_law 1241 = .ok (.aload_n 0, 1) := dk_42 (dw rcL_law_1223 14 rfl)
theorem dL_law_1242 : decode cL_law 1242 = .ok (.iload_n 3, 1) := dk_29 (dw rcL_law_1223 15 rfl)
theorem dL_law_1243 : decode cL_law 1243 = .ok (.iconst 3, 1) := dk_6 (dw rcL_law_1223 16 rfl)
theorem dL_law_1244 : decode cL_law 1244 = .ok (.iadd, 1) := dk_96 (dw rcL_law_1223 17 rfl)
theorem dL_law_1245 : decode cL_law 1245 = .ok (.iaload, 1) := dk_46 (dw rcL_law_1223 18 rfl)
theorem dL_law_1246 : decode cL_law 1246 = .ok (.invokevirtual 109, 3) := dk_182 (dw rcL_law_1223 19 rfl) rfl
theorem dL_law_1249 : decode cL_law 1249 = .ok (.pop, 1) := dk_87 (dw rcL_law_1223 20 rfl)
theorem dL_law_1250 : decode cL_law 1250 = .ok (.aload_n 2, 1) := dk_44 (dw rcL_law_1223 21 rfl)
theorem dL_law_1251 : decode cL_law 1251 = .ok (.aload_n 0, 1) := dk_42 (dw rcL_law_1223 22 rfl)
theorem dL_law_1252 : decode cL_law 1252 = .ok (.iload_n 3, 1) := dk_29 (dw rcL_law_1223 23 rfl)
def rbL_law_1253 : List (Nat × List Nat) := [(1253, [4]), (1254, [96]), (1255, [46]), (1256, [42]), (1257, [29]), (1258, [5]), (1259, [96]), (1260, [46]), (1261, [42]), (1262, [29]), (1263, [6]), (1264, [96]), (1265, [46]), (1266, [182, 0, 112]), (1269, [87]), (1270, [167, 1, 115]), (1273, [43]), (1274, [42]), (1275, [29]), (1276, [4]), (1277, [96]), (1278, [46]), (1279, [182, 0, 113]), (1282, [87])]
theorem rcL_law_1253 : dgo (lb cL_law) 0 rbL_law_1253 = true := by decide +kernel
theorem dL_law_1253 : decode cL_law 1253 = .ok (.iconst 1, 1) := dk_4 (dw rcL_law_1253 0 rfl)
theorem dL_law_1254 : decode cL_law 1254 = .ok (.iadd, 1) := dk_96 (dw rcL_law_1253 1 rfl)
theorem dL_law_1255 : decode cL_law 1255 = .ok (.iaload, 1) := dk_46 (dw rcL_law_1253 2 rfl)
theorem dL_law_1256 : decode cL_law 1256 = .ok (.aload_n 0, 1) := dk_42 (dw rcL_law_1253 3 rfl)
theorem dL_law_1257 : decode cL_law 1257 = .ok (.iload_n 3, 1) := dk_29 (dw rcL_law_1253 4 rfl)
theorem dL_law_1258 : decode cL_law 1258 = .ok (.iconst 2, 1) := dk_5 (dw rcL_law_1253 5 rfl)
theorem dL_law_1259 : decode cL_law 1259 = .ok (.iadd, 1) := dk_96 (dw rcL_law_1253 6 rfl)
theorem dL_law_1260 : decode cL_law 1260 = .ok (.iaload, 1) := dk_46 (dw rcL_law_1253 7 rfl)
theorem dL_law_1261 : decode cL_law 1261 = .ok (.aload_n 0, 1) := dk_42 (dw rcL_law_1253 8 rfl)
theorem dL_law_1262 : decode cL_law 1262 = .ok (.iload_n 3, 1) := dk_29 (dw rcL_law_1253 9 rfl)
theorem dL_law_1263 : decode cL_law 1263 = .ok (.iconst 3, 1) := dk_6 (dw rcL_law_1253 10 rfl)
theorem dL_law_1264 : decode cL_law 1264 = .ok (.iadd, 1) := dk_96 (dw rcL_law_1253 11 rfl)
theorem dL_law_1265 : decode cL_law 1265 = .ok (.iaload, 1) := dk_46 (dw rcL_law_1253 12 rfl)
theorem dL_law_1266 : decode cL_law 1266 = .ok (.invokevirtual 112, 3) := dk_182 (dw rcL_law_1253 13 rfl) rfl
theorem dL_law_1269 : decode cL_law 1269 = .ok (.pop, 1) := dk_87 (dw rcL_law_1253 14 rfl)
theorem dL_law_1270 : decode cL_law 1270 = .ok (.goto 371, 3) := dk_167 (dw rcL_law_1253 15 rfl) rfl
theorem dL_law_1273 : decode cL_law 1273 = .ok (.aload_n 1, 1) := dk_43 (dw rcL_law_1253 16 rfl)
theorem dL_law_1274 : decode cL_law 1274 = .ok (.aload_n 0, 1) := dk_42 (dw rcL_law_1253 17 rfl)
theorem dL_law_1275 : decode cL_law 1275 = .ok (.iload_n 3, 1) := dk_29 (dw rcL_law_1253 18 rfl)
theorem dL_law_1276 : decode cL_law 1276 = .ok (.iconst 1, 1) := dk_4 (dw rcL_law_1253 19 rfl)
theorem dL_law_1277 : decode cL_law 1277 = .ok (.iadd, 1) := dk_96 (dw rcL_law_1253 20 rfl)
theorem dL_law_1278 : decode cL_law 1278 = .ok (.iaload, 1) := dk_46 (dw rcL_law_1253 21 rfl)
theorem dL_law_1279 : decode cL_law 1279 = .ok (.invokevirtual 113, 3) := dk_182 (dw rcL_law_1253 22 rfl) rfl
theorem dL_law_1282 : decode cL_law 1282 = .ok (.pop, 1) := dk_87 (dw rcL_law_1253 23 rfl)
def rbL_law_1283 : List (Nat × List Nat) := [(1283, [44]), (1284, [42]), (1285, [29]), (1286, [4]), (1287, [96]), (1288, [46]), (1289, [182, 0, 116]), (1292, [87]), (1293, [167, 1, 92]), (1296, [43]), (1297, [42]), (1298, [29]), (1299, [4]), (1300, [96]), (1301, [46]), (1302, [182, 0, 117]), (1305, [87]), (1306, [44]), (1307, [42]), (1308, [29]), (1309, [4]), (1310, [96]), (1311, [46]), (1312, [182, 0, 120])]
theorem rcL_law_1283 : dgo (lb cL_law) 0 rbL_law_1283 = true := by decide +kernel
theorem dL_law_1283 : decode cL_law 1283 = .ok (.aload_n 2, 1) := dk_44 (dw rcL_law_1283 0 rfl)
theorem dL_law_1284 : decode cL_law 1284 = .ok (.aload_n 0, 1) := dk_42 (dw rcL_law_1283 1 rfl)
theorem dL_law_1285 : decode cL_law 1285 = .ok (.iload_n 3, 1) := dk_29 (dw rcL_law_1283 2 rfl)
theorem dL_law_1286 : decode cL_law 1286 = .ok (.iconst 1, 1) := dk_4 (dw rcL_law_1283 3 rfl)
theorem dL_law_1287 : decode cL_law 1287 = .ok (.iadd, 1) := dk_96 (dw rcL_law_1283 4 rfl)
theorem dL_law_1288 : decode cL_law 1288 = .ok (.iaload, 1) := dk_46 (dw rcL_law_1283 5 rfl)
theorem dL_law_1289 : decode cL_law 1289 = .ok (.invokevirtual 116, 3) := dk_182 (dw rcL_law_1283 6 rfl) rfl
theorem dL_law_1292 : decode cL_law 1292 = .ok (.pop, 1) := dk_87 (dw rcL_law_1283 7 rfl)
theorem dL_law_1293 : decode cL_law 1293 = .ok (.goto 348, 3) := dk_167 (dw rcL_law_1283 8 rfl) rfl
theorem dL_law_1296 : decode cL_law 1296 = .ok (.aload_n 1, 1) := dk_43 (dw rcL_law_1283 9 rfl)
theorem dL_law_1297 : decode cL_law 1297 = .ok (.aload_n 0, 1) := dk_42 (dw rcL_law_1283 10 rfl)
theorem dL_law_1298 : decode cL_law 1298 = .ok (.iload_n 3, 1) := dk_29 (dw rcL_law_1283 11 rfl)
theorem dL_law_1299 : decode cL_law 1299 = .ok (.iconst 1, 1) := dk_4 (dw rcL_law_1283 12 rfl)
theorem dL_law_1300 : decode cL_law 1300 = .ok (.iadd, 1) := dk_96 (dw rcL_law_1283 13 rfl)
theorem dL_law_1301 : decode cL_law 1301 = .ok (.iaload, 1) := dk_46 (dw rcL_law_1283 14 rfl)
theorem dL_law_1302 : decode cL_law 1302 = .ok (.invokevirtual 117, 3) := dk_182 (dw rcL_law_1283 15 rfl) rfl
theorem dL_law_1305 : decode cL_law 1305 = .ok (.pop, 1) := dk_87 (dw rcL_law_1283 16 rfl)
theorem dL_law_1306 : decode cL_law 1306 = .ok (.aload_n 2, 1) := dk_44 (dw rcL_law_1283 17 rfl)
theorem dL_law_1307 : decode cL_law 1307 = .ok (.aload_n 0, 1) := dk_42 (dw rcL_law_1283 18 rfl)
theorem dL_law_1308 : decode cL_law 1308 = .ok (.iload_n 3, 1) := dk_29 (dw rcL_law_1283 19 rfl)
theorem dL_law_1309 : decode cL_law 1309 = .ok (.iconst 1, 1) := dk_4 (dw rcL_law_1283 20 rfl)
theorem dL_law_1310 : decode cL_law 1310 = .ok (.iadd, 1) := dk_96 (dw rcL_law_1283 21 rfl)
theorem dL_law_1311 : decode cL_law 1311 = .ok (.iaload, 1) := dk_46 (dw rcL_law_1283 22 rfl)
theorem dL_law_1312 : decode cL_law 1312 = .ok (.invokevirtual 120, 3) := dk_182 (dw rcL_law_1283 23 rfl) rfl
def rbL_law_1315 : List (Nat × List Nat) := [(1315, [87]), (1316, [167, 1, 69]), (1319, [43]), (1320, [182, 0, 121]), (1323, [87]), (1324, [44]), (1325, [182, 0, 125]), (1328, [87]), (1329, [167, 1, 56])]
theorem rcL_law_1315 : dgo (lb cL_law) 0 rbL_law_1315 = true := by decide +kernel
theorem dL_law_1315 : decode cL_law 1315 = .ok (.pop, 1) := dk_87 (dw rcL_law_1315 0 rfl)
theorem dL_law_1316 : decode cL_law 1316 = .ok (.goto 325, 3) := dk_167 (dw rcL_law_1315 1 rfl) rfl
theorem dL_law_1319 : decode cL_law 1319 = .ok (.aload_n 1, 1) := dk_43 (dw rcL_law_1315 2 rfl)
theorem dL_law_1320 : decode cL_law 1320 = .ok (.invokevirtual 121, 3) := dk_182 (dw rcL_law_1315 3 rfl) rfl
theorem dL_law_1323 : decode cL_law 1323 = .ok (.pop, 1) := dk_87 (dw rcL_law_1315 4 rfl)
theorem dL_law_1324 : decode cL_law 1324 = .ok (.aload_n 2, 1) := dk_44 (dw rcL_law_1315 5 rfl)
theorem dL_law_1325 : decode cL_law 1325 = .ok (.invokevirtual 125, 3) := dk_182 (dw rcL_law_1315 6 rfl) rfl
theorem dL_law_1328 : decode cL_law 1328 = .ok (.pop, 1) := dk_87 (dw rcL_law_1315 7 rfl)
theorem dL_law_1329 : decode cL_law 1329 = .ok (.goto 312, 3) := dk_167 (dw rcL_law_1315 8 rfl) rfl
set_option maxHeartbeats 4000000 in
set_option maxRecDepth 100000 in
theorem law_21 {p : Program} {l : Launch} {e : Env} {s : State} {m : MethodId} {below : List Frame} {meth : Method} {c : Code} {D : va_G} {k : KT} {A : Nat → Prop} {a : Nat → Nat} {z : SK} {b L : Nat} {xs : Nat → Int32} (hL : L ≤ 3072) (C0 : lw_At p s m meth c b L xs) (hK : cK D k s) (hZ : Sx A z s) (hbA : ¬ A b) {G : GS} {i0 : Int32} (hi0 : 0 ≤ i0.toInt) (hi6 : i0.toInt + 6 ≤ L) (hI : LI G) (hB_G : Bd G) {H : Heap} {locs : List Loc} {ls : Array Slot} (hW : Wd D k A a G H) (hS : va_S A s.heap H locs) (hl : lv_has ls 4 [(0, .ref b), (1, .ref (a 0)), (2, .ref (a 66)), (3, .int i0)]) (K : ∀ (G1 : GS) (H1 : Heap) (locs1 : List Loc) (ls1 : Array Slot), LI G1 → Bd G1 → Wd D k A a G1 H1 → va_S A s.heap H1 locs1 → lv_has ls1 4 [(0, .ref b), (1, .ref (a 0)), (2, .ref (a 66)), (3, .int i0)] → W p l e room_1 s m #[Value.ref b] below meth c H1 locs1 119 46443 (lw_Z below #[Value.ref b] s) (F0 m 1641 ls1 [])) : W p l e room_1 s m #[Value.ref b] below meth c H locs 119 46443 (lw_Z below #[Value.ref b] s) (F0 m 1197 ls []) := by
  obtain ⟨hx, hb, hr, hml, hown, hts, hX, hbl, hlocks, hgv⟩ := id C0
  have hown : s.vm.findClass RL = some m.cls := hown
  have hgd : ∀ w ∈ gd, w ∈ lw_tbl := fun w h => (List.mem_filter.mp h).1
  have hg : ∀ w ∈ gd, w.before #[Value.ref b] s = true := fun w h => hts w (hgd w h)
  rcases hI with ⟨hv_0_0, hv_0_1, hv_6_4, hj0, hj1, hj2, hj3, hj4, hj5, hj6, hj7, hj8, hj9, hj10, hj11, hj12⟩ | ⟨hv_0_0, hv_0_1, hv_6_4, hj0, hj1, hj2, hj3, hj4, hj5, hj6, hj7, hj8, hj9, hj10, hj11, hj12⟩
  · skip
    obtain ⟨p0, hp0⟩ : ∃ y, y = xs (i0 + 1).toNatClampNeg := ⟨_, rfl⟩
    obtain ⟨p1, hp1⟩ : ∃ y, y = xs (i0 + 2).toNatClampNeg := ⟨_, rfl⟩
    obtain ⟨p2, hp2⟩ : ∃ y, y = xs (i0 + 3).toNatClampNeg := ⟨_, rfl⟩
    obtain ⟨p3, hp3⟩ : ∃ y, y = xs (i0 + 4).toNatClampNeg := ⟨_, rfl⟩
    obtain ⟨p4, hp4⟩ : ∃ y, y = xs (i0 + 5).toNatClampNeg := ⟨_, rfl⟩
    refine lv_aload_n hx hb dL_law_1197 rfl (lv_at hl 1 rfl) ?_
    refine ld_1 hL hi0 hi6 hx hb hX hbl hbA hS hl dL_law_1198 dL_law_1199 dL_law_1200 dL_law_1201 dL_law_1202 hp0 ?_
    refine ld_2 hL hi0 hi6 hx hb hX hbl hbA hS hl dL_law_1203 dL_law_1204 dL_law_1205 dL_law_1206 dL_law_1207 hp1 ?_
    refine S_calli (va_runV (As := [.int p0, .int p1]) (rest := []) ⟨hx, hb, hml, hown, hts⟩ (k_Wleave_1 l D k A a z G p0 p1 hv_0_0 hv_0_1 hv_6_4) (cwV 2 hts (gd_V hgd m1162 m1163 m1164 m117 m1165) rfl rfl rfl hd_X11_leave ⟨Nat.le_of_ble_eq_true rfl, Nat.le_of_ble_eq_true rfl⟩) (pre_W hW hB_G hK hZ hS kd_0 rfl) rfl rfl hl.1 rfl (lv_room (Nat.le_of_ble_eq_true rfl)) dL_law_1208 ⟨Nat.le_of_ble_eq_true rfl, Nat.le_of_ble_eq_true rfl⟩) hS (fun r_1 G_2 H locs hpo hW hS => ?_)
    have hX_5 : P_Wleave_1 p0 p1 G r_1 G_2 := hpo
    obtain ⟨hB_G_2, hq_3, -⟩ := hpo
    refine lv_pop hx hb dL_law_1211 rfl ?_
    refine lv_aload_n hx hb dL_law_1212 rfl (lv_at hl 2 rfl) ?_
    refine ld_1 hL hi0 hi6 hx hb hX hbl hbA hS hl dL_law_1213 dL_law_1214 dL_law_1215 dL_law_1216 dL_law_1217 hp0 ?_
    refine ld_2 hL hi0 hi6 hx hb hX hbl hbA hS hl dL_law_1218 dL_law_1219 dL_law_1220 dL_law_1221 dL_law_1222 hp1 ?_
    have fr_6 : Fr [37, 38, 39, 40, 42, 43] [(6, 3), (7, 1), (7, 2), (7, 3), (7, 4), (7, 5), (7, 6), (7, 7)] G G_2 := (Fr.call9 (rs := [37, 38, 39, 40, 42, 43]) (fs := [(6, 3), (7, 1), (7, 2), (7, 3), (7, 4), (7, 5), (7, 6), (7, 7)]) Fr.rf hq_3 rfl rfl)
    have g_7 : gP G_2 = gP G := gP_fr fr_6 (gr_q rfl) (gf_q rfl)
    have g_8 : gW G_2 = gW G := gW_fr fr_6 (gr_q rfl) (gf_q rfl)
    refine S_calli (va_runV (As := [.int p0, .int p1]) (rest := []) ⟨hx, hb, hml, hown, hts⟩ (n_leave l D k A a z G_2 p0 p1 (by omega) (by omega)) (cwV 2 hts (gd_V hgd m1983 m1984 m1985 m131 m1986) rfl rfl rfl hd_X12_leave ⟨Nat.le_of_ble_eq_true rfl, Nat.le_of_ble_eq_true rfl⟩) (pre_W hW hB_G_2 hK hZ hS kd_66 rfl) rfl rfl hl.1 rfl (lv_room (Nat.le_of_ble_eq_true rfl)) dL_law_1223 ⟨Nat.le_of_ble_eq_true rfl, Nat.le_of_ble_eq_true rfl⟩) hS (fun r_9 G_10 H locs hpo hW hS => ?_)
    have hX_13 : Q_leave p0 p1 G_2 r_9 G_10 := hpo
    obtain ⟨hB_G_10, hq_11, -⟩ := hpo
    have u_14 := L_leave_1 hX_5 hX_13 rfl rfl (by omega)
    refine lv_pop hx hb dL_law_1226 rfl ?_
    refine lv_goto (tgt := 1641) hx hb dL_law_1227 rfl ?_
    exact K G_10 _ _ _ (Or.inl (LI_of_1 (LIn_fr_1 (LIn_fr_1 (show LIn_1 G from ⟨hv_0_0, hv_0_1, hv_6_4, hj0, hj1, hj2, hj3, hj4, hj5, hj6, hj7, hj8, hj9, hj10, hj11⟩) hq_3 (by decide +kernel)) hq_11 (by decide +kernel)) (by omega))) hB_G_10 hW hS (lv_sub hl [0, 1, 2, 3] rfl)
  · skip
    obtain ⟨p0, hp0⟩ : ∃ y, y = xs (i0 + 1).toNatClampNeg := ⟨_, rfl⟩
    obtain ⟨p1, hp1⟩ : ∃ y, y = xs (i0 + 2).toNatClampNeg := ⟨_, rfl⟩
    obtain ⟨p2, hp2⟩ : ∃ y, y = xs (i0 + 3).toNatClampNeg := ⟨_, rfl⟩
    obtain ⟨p3, hp3⟩ : ∃ y, y = xs (i0 + 4).toNatClampNeg := ⟨_, rfl⟩
    obtain ⟨p4, hp4⟩ : ∃ y, y = xs (i0 + 5).toNatClampNeg := ⟨_, rfl⟩
    refine lv_aload_n hx hb dL_law_1197 rfl (lv_at hl 1 rfl) ?_
    refine ld_1 hL hi0 hi6 hx hb hX hbl hbA hS hl dL_law_1198 dL_law_1199 dL_law_1200 dL_law_1201 dL_law_1202 hp0 ?_
    refine ld_2 hL hi0 hi6 hx hb hX hbl hbA hS hl dL_law_1203 dL_law_1204 dL_law_1205 dL_law_1206 dL_law_1207 hp1 ?_
    refine S_calli (va_runV (As := [.int p0, .int p1]) (rest := []) ⟨hx, hb, hml, hown, hts⟩ (k_Wleave_2 l D k A a z G p0 p1 hv_0_0 hv_0_1 hv_6_4) (cwV 2 hts (gd_V hgd m1162 m1163 m1164 m117 m1165) rfl rfl rfl hd_X11_leave ⟨Nat.le_of_ble_eq_true rfl, Nat.le_of_ble_eq_true rfl⟩) (pre_W hW hB_G hK hZ hS kd_0 rfl) rfl rfl hl.1 rfl (lv_room (Nat.le_of_ble_eq_true rfl)) dL_law_1208 ⟨Nat.le_of_ble_eq_true rfl, Nat.le_of_ble_eq_true rfl⟩) hS (fun r_1 G_2 H locs hpo hW hS => ?_)
    have hX_5 : P_Wleave_2 p0 p1 G r_1 G_2 := hpo
    obtain ⟨hB_G_2, hq_3, -⟩ := hpo
    refine lv_pop hx hb dL_law_1211 rfl ?_
    refine lv_aload_n hx hb dL_law_1212 rfl (lv_at hl 2 rfl) ?_
    refine ld_1 hL hi0 hi6 hx hb hX hbl hbA hS hl dL_law_1213 dL_law_1214 dL_law_1215 dL_law_1216 dL_law_1217 hp0 ?_
    refine ld_2 hL hi0 hi6 hx hb hX hbl hbA hS hl dL_law_1218 dL_law_1219 dL_law_1220 dL_law_1221 dL_law_1222 hp1 ?_
    have fr_6 : Fr [37, 38, 39, 40, 42, 43] [(6, 3), (7, 1), (7, 2), (7, 3), (7, 4), (7, 5), (7, 6), (7, 7)] G G_2 := (Fr.call9 (rs := [37, 38, 39, 40, 42, 43]) (fs := [(6, 3), (7, 1), (7, 2), (7, 3), (7, 4), (7, 5), (7, 6), (7, 7)]) Fr.rf hq_3 rfl rfl)
    have g_7 : gP G_2 = gP G := gP_fr fr_6 (gr_q rfl) (gf_q rfl)
    have g_8 : gW G_2 = gW G := gW_fr fr_6 (gr_q rfl) (gf_q rfl)
    refine S_calli (va_runV (As := [.int p0, .int p1]) (rest := []) ⟨hx, hb, hml, hown, hts⟩ (n_leave l D k A a z G_2 p0 p1 (by omega) (by omega)) (cwV 2 hts (gd_V hgd m1983 m1984 m1985 m131 m1986) rfl rfl rfl hd_X12_leave ⟨Nat.le_of_ble_eq_true rfl, Nat.le_of_ble_eq_true rfl⟩) (pre_W hW hB_G_2 hK hZ hS kd_66 rfl) rfl rfl hl.1 rfl (lv_room (Nat.le_of_ble_eq_true rfl)) dL_law_1223 ⟨Nat.le_of_ble_eq_true rfl, Nat.le_of_ble_eq_true rfl⟩) hS (fun r_9 G_10 H locs hpo hW hS => ?_)
    have hX_13 : Q_leave p0 p1 G_2 r_9 G_10 := hpo
    obtain ⟨hB_G_10, hq_11, -⟩ := hpo
    have u_14 := L_leave_2 hX_5 hX_13 rfl rfl (by omega)
    refine lv_pop hx hb dL_law_1226 rfl ?_
    refine lv_goto (tgt := 1641) hx hb dL_law_1227 rfl ?_
    exact K G_10 _ _ _ (Or.inr (LI_of_2 (LIn_fr_2 (LIn_fr_2 (show LIn_2 G from ⟨hv_0_0, hv_0_1, hv_6_4, hj0, hj1, hj2, hj3, hj4, hj5, hj6, hj7, hj8, hj9, hj10, hj11⟩) hq_3 (by decide +kernel)) hq_11 (by decide +kernel)) (by omega))) hB_G_10 hW hS (lv_sub hl [0, 1, 2, 3] rfl)

set_option maxHeartbeats 4000000 in
set_option maxRecDepth 100000 in
theorem law_22 {p : Program} {l : Launch} {e : Env} {s : State} {m : MethodId} {below : List Frame} {meth : Method} {c : Code} {D : va_G} {k : KT} {A : Nat → Prop} {a : Nat → Nat} {z : SK} {b L : Nat} {xs : Nat → Int32} (hL : L ≤ 3072) (C0 : lw_At p s m meth c b L xs) (hK : cK D k s) (hZ : Sx A z s) (hbA : ¬ A b) {G : GS} {i0 : Int32} (hi0 : 0 ≤ i0.toInt) (hi6 : i0.toInt + 6 ≤ L) (hI : LI G) (hB_G : Bd G) {H : Heap} {locs : List Loc} {ls : Array Slot} (hW : Wd D k A a G H) (hS : va_S A s.heap H locs) (hl : lv_has ls 4 [(0, .ref b), (1, .ref (a 0)), (2, .ref (a 66)), (3, .int i0)]) (K : ∀ (G1 : GS) (H1 : Heap) (locs1 : List Loc) (ls1 : Array Slot), LI G1 → Bd G1 → Wd D k A a G1 H1 → va_S A s.heap H1 locs1 → lv_has ls1 4 [(0, .ref b), (1, .ref (a 0)), (2, .ref (a 66)), (3, .int i0)] → W p l e room_1 s m #[Value.ref b] below meth c H1 locs1 119 46443 (lw_Z below #[Value.ref b] s) (F0 m 1641 ls1 [])) : W p l e room_1 s m #[Value.ref b] below meth c H locs 119 46443 (lw_Z below #[Value.ref b] s) (F0 m 1230 ls []) := by
  obtain ⟨hx, hb, hr, hml, hown, hts, hX, hbl, hlocks, hgv⟩ := id C0
  have hown : s.vm.findClass RL = some m.cls := hown
  have hgd : ∀ w ∈ gd, w ∈ lw_tbl := fun w h => (List.mem_filter.mp h).1
  have hg : ∀ w ∈ gd, w.before #[Value.ref b] s = true := fun w h => hts w (hgd w h)
  rcases hI with ⟨hv_0_0, hv_0_1, hv_6_4, hj0, hj1, hj2, hj3, hj4, hj5, hj6, hj7, hj8, hj9, hj10, hj11, hj12⟩ | ⟨hv_0_0, hv_0_1, hv_6_4, hj0, hj1, hj2, hj3, hj4, hj5, hj6, hj7, hj8, hj9, hj10, hj11, hj12⟩
  · skip
    obtain ⟨p0, hp0⟩ : ∃ y, y = xs (i0 + 1).toNatClampNeg := ⟨_, rfl⟩
    obtain ⟨p1, hp1⟩ : ∃ y, y = xs (i0 + 2).toNatClampNeg := ⟨_, rfl⟩
    obtain ⟨p2, hp2⟩ : ∃ y, y = xs (i0 + 3).toNatClampNeg := ⟨_, rfl⟩
    obtain ⟨p3, hp3⟩ : ∃ y, y = xs (i0 + 4).toNatClampNeg := ⟨_, rfl⟩
    obtain ⟨p4, hp4⟩ : ∃ y, y = xs (i0 + 5).toNatClampNeg := ⟨_, rfl⟩
    refine lv_aload_n hx hb dL_law_1230 rfl (lv_at hl 1 rfl) ?_
    refine ld_1 hL hi0 hi6 hx hb hX hbl hbA hS hl dL_law_1231 dL_law_1232 dL_law_1233 dL_law_1234 dL_law_1235 hp0 ?_
    refine ld_2 hL hi0 hi6 hx hb hX hbl hbA hS hl dL_law_1236 dL_law_1237 dL_law_1238 dL_law_1239 dL_law_1240 hp1 ?_
    refine ld_3 hL hi0 hi6 hx hb hX hbl hbA hS hl dL_law_1241 dL_law_1242 dL_law_1243 dL_law_1244 dL_law_1245 hp2 ?_
    have b_1 : 0 ≤ (G.1 30 4).toInt ∧ (G.1 30 4).toInt ≤ 40 := bd_30_4 hB_G
    have b_2 : 0 ≤ (G.1 30 5).toInt ∧ (G.1 30 5).toInt ≤ 40 := bd_30_5 hB_G
    refine S_calli (va_runV (As := [.int p0, .int p1, .int p2]) (rest := []) ⟨hx, hb, hml, hown, hts⟩ (k_Wwalk_1 l D k A a z G p0 p1 p2 hv_0_0 hv_0_1 hv_6_4 (by omega)) (cwV 3 hts (gd_V hgd m1166 m1167 m1168 m117 m1169) rfl rfl rfl hd_X11_walk ⟨Nat.le_of_ble_eq_true rfl, Nat.le_of_ble_eq_true rfl⟩) (pre_W hW hB_G hK hZ hS kd_0 rfl) rfl rfl hl.1 rfl (lv_room (Nat.le_of_ble_eq_true rfl)) dL_law_1246 ⟨Nat.le_of_ble_eq_true rfl, Nat.le_of_ble_eq_true rfl⟩) hS (fun r_3 G_4 H locs hpo hW hS => ?_)
    have hX_7 : P_Wwalk_1 p0 p1 p2 G r_3 G_4 := hpo
    obtain ⟨hB_G_4, hq_5, hp_6, -⟩ := hpo
    refine lv_pop hx hb dL_law_1249 rfl ?_
    refine lv_aload_n hx hb dL_law_1250 rfl (lv_at hl 2 rfl) ?_
    refine ld_1 hL hi0 hi6 hx hb hX hbl hbA hS hl dL_law_1251 dL_law_1252 dL_law_1253 dL_law_1254 dL_law_1255 hp0 ?_
    refine ld_2 hL hi0 hi6 hx hb hX hbl hbA hS hl dL_law_1256 dL_law_1257 dL_law_1258 dL_law_1259 dL_law_1260 hp1 ?_
    refine ld_3 hL hi0 hi6 hx hb hX hbl hbA hS hl dL_law_1261 dL_law_1262 dL_law_1263 dL_law_1264 dL_law_1265 hp2 ?_
    have fr_8 : Fr [37, 38, 39, 58, 59] [(6, 3), (30, 4), (30, 5)] G G_4 := (Fr.call9 (rs := [37, 38, 39, 58, 59]) (fs := [(6, 3), (30, 4), (30, 5)]) Fr.rf hq_5 rfl rfl)
    have g_9 : gP G_4 = gP G := gP_fr fr_8 (gr_q rfl) (gf_q rfl)
    have b_10 : 0 ≤ (G.1 66 78).toInt ∧ (G.1 66 78).toInt ≤ 40 := bd_66_78 hB_G
    have g_11 : (G_4.1 66 78).toInt = (G.1 66 78).toInt := (congrArg Int32.toInt (show G_4.1 66 78 = (G.1 66 78) from (hq_5.i9 66 78 rfl rfl)))
    have b_12 : 0 ≤ (G.1 66 79).toInt ∧ (G.1 66 79).toInt ≤ 40 := bd_66_79 hB_G
    have g_13 : (G_4.1 66 79).toInt = (G.1 66 79).toInt := (congrArg Int32.toInt (show G_4.1 66 79 = (G.1 66 79) from (hq_5.i9 66 79 rfl rfl)))
    refine S_calli (va_runV (As := [.int p0, .int p1, .int p2]) (rest := []) ⟨hx, hb, hml, hown, hts⟩ (n_walk l D k A a z G_4 p0 p1 p2 ((by first | (clear b_1 b_2 b_10 g_11 b_12 g_13; omega) | omega)) ((by first | (clear b_1 b_2 g_9; omega) | omega))) (cwV 3 hts (gd_V hgd m1987 m1988 m1989 m131 m1990) rfl rfl rfl hd_X12_walk ⟨Nat.le_of_ble_eq_true rfl, Nat.le_of_ble_eq_true rfl⟩) (pre_W hW hB_G_4 hK hZ hS kd_66 rfl) rfl rfl hl.1 rfl (lv_room (Nat.le_of_ble_eq_true rfl)) dL_law_1266 ⟨Nat.le_of_ble_eq_true rfl, Nat.le_of_ble_eq_true rfl⟩) hS (fun r_14 G_15 H locs hpo hW hS => ?_)
    have hX_18 : Q_walk p0 p1 p2 G_4 r_14 G_15 := hpo
    obtain ⟨hB_G_15, hq_16, hp_17, -⟩ := hpo
    obtain ⟨u_19, u_20⟩ := L_walk_1 hX_7 hX_18 rfl rfl rfl (by omega)
    refine lv_pop hx hb dL_law_1269 rfl ?_
    refine lv_goto (tgt := 1641) hx hb dL_law_1270 rfl ?_
    have fr_21 : Fr [110, 111, 37, 38, 39, 58, 59, 76, 97, 98] [(6, 3), (30, 4), (30, 5), (66, 59), (66, 60), (66, 61), (66, 62), (66, 63), (66, 78), (66, 79)] G G_15 := (Fr.call9 (rs := [110, 111, 37, 38, 39, 58, 59, 76, 97, 98]) (fs := [(6, 3), (30, 4), (30, 5), (66, 59), (66, 60), (66, 61), (66, 62), (66, 63), (66, 78), (66, 79)]) (Fr.call9 (rs := [110, 111, 37, 38, 39, 58, 59, 76, 97, 98]) (fs := [(6, 3), (30, 4), (30, 5), (66, 59), (66, 60), (66, 61), (66, 62), (66, 63), (66, 78), (66, 79)]) Fr.rf hq_5 rfl rfl) hq_16 rfl rfl)
    have g_22 : gO G_15 = gO G := gO_fr fr_21 (gr_q rfl) (gf_q rfl)
    have g_23 : gP G_15 = gP G := gP_fr fr_21 (gr_q rfl) (gf_q rfl)
    have g_24 : gS G_15 = gS G := gS_fr fr_21 (gr_q rfl) (gf_q rfl)
    have g_25 : gTE G_15 = gTE G := gTE_fr fr_21 (gr_q rfl) (gf_q rfl)
    have g_26 : gW G_15 = gW G := gW_fr fr_21 (gr_q rfl) (gf_q rfl)
    have b_27 : 0 ≤ (G.1 0 11).toInt ∧ (G.1 0 11).toInt ≤ 1600 := bd_0_11 hB_G
    have g_28 : (G_15.1 0 11).toInt = (G.1 0 11).toInt := (congrArg Int32.toInt (show G_15.1 0 11 = (G.1 0 11) from ((hq_16.i9 0 11 rfl rfl).trans (hq_5.i9 0 11 rfl rfl))))
    have b_29 : 0 ≤ (G.1 3 7).toInt ∧ (G.1 3 7).toInt ≤ 4 := bd_3_7 hB_G
    have g_30 : (G_15.1 3 7).toInt = (G.1 3 7).toInt := (congrArg Int32.toInt (show G_15.1 3 7 = (G.1 3 7) from ((hq_16.i9 3 7 rfl rfl).trans (hq_5.i9 3 7 rfl rfl))))
    have b_31 : (-1) ≤ (G.1 3 8).toInt ∧ (G.1 3 8).toInt ≤ 1600 := bd_3_8 hB_G
    have g_32 : (G_15.1 3 8).toInt = (G.1 3 8).toInt := (congrArg Int32.toInt (show G_15.1 3 8 = (G.1 3 8) from ((hq_16.i9 3 8 rfl rfl).trans (hq_5.i9 3 8 rfl rfl))))
    have b_33 : 0 ≤ (G_4.1 30 4).toInt ∧ (G_4.1 30 4).toInt ≤ 40 := bd_30_4 hB_G_4
    have g_34 : (G_15.1 30 4).toInt = (G_4.1 30 4).toInt := (congrArg Int32.toInt (show G_15.1 30 4 = (G_4.1 30 4) from (hq_16.i9 30 4 rfl rfl)))
    have b_35 : 0 ≤ (G_4.1 30 5).toInt ∧ (G_4.1 30 5).toInt ≤ 40 := bd_30_5 hB_G_4
    have g_36 : (G_15.1 30 5).toInt = (G_4.1 30 5).toInt := (congrArg Int32.toInt (show G_15.1 30 5 = (G_4.1 30 5) from (hq_16.i9 30 5 rfl rfl)))
    have b_37 : 0 ≤ (G.1 31 6).toInt ∧ (G.1 31 6).toInt ≤ 100000 := bd_31_6 hB_G
    have g_38 : (G_15.1 31 6).toInt = (G.1 31 6).toInt := (congrArg Int32.toInt (show G_15.1 31 6 = (G.1 31 6) from ((hq_16.i9 31 6 rfl rfl).trans (hq_5.i9 31 6 rfl rfl))))
    have b_39 : 0 ≤ (G.1 66 1).toInt ∧ (G.1 66 1).toInt ≤ 1600 := bd_66_1 hB_G
    have g_40 : (G_15.1 66 1).toInt = (G.1 66 1).toInt := (congrArg Int32.toInt (show G_15.1 66 1 = (G.1 66 1) from ((hq_16.i9 66 1 rfl rfl).trans (hq_5.i9 66 1 rfl rfl))))
    have b_41 : 0 ≤ (G.1 66 2).toInt ∧ (G.1 66 2).toInt ≤ 4 := bd_66_2 hB_G
    have g_42 : (G_15.1 66 2).toInt = (G.1 66 2).toInt := (congrArg Int32.toInt (show G_15.1 66 2 = (G.1 66 2) from ((hq_16.i9 66 2 rfl rfl).trans (hq_5.i9 66 2 rfl rfl))))
    have b_43 : (-1) ≤ (G.1 66 3).toInt ∧ (G.1 66 3).toInt ≤ 1600 := bd_66_3 hB_G
    have g_44 : (G_15.1 66 3).toInt = (G.1 66 3).toInt := (congrArg Int32.toInt (show G_15.1 66 3 = (G.1 66 3) from ((hq_16.i9 66 3 rfl rfl).trans (hq_5.i9 66 3 rfl rfl))))
    have b_45 : 0 ≤ (G_15.1 66 78).toInt ∧ (G_15.1 66 78).toInt ≤ 40 := bd_66_78 hB_G_15
    have b_46 : 0 ≤ (G_15.1 66 79).toInt ∧ (G_15.1 66 79).toInt ≤ 40 := bd_66_79 hB_G_15
    have b_47 : 0 ≤ (G.1 66 86).toInt ∧ (G.1 66 86).toInt ≤ 100000 := bd_66_86 hB_G
    have g_48 : (G_15.1 66 86).toInt = (G.1 66 86).toInt := (congrArg Int32.toInt (show G_15.1 66 86 = (G.1 66 86) from ((hq_16.i9 66 86 rfl rfl).trans (hq_5.i9 66 86 rfl rfl))))
    have b_49 : 0 ≤ (G.1 96 0).toInt ∧ (G.1 96 0).toInt ≤ 9 := bd_96_0 hB_G
    have g_50 : (G_15.1 96 0).toInt = (G.1 96 0).toInt := (congrArg Int32.toInt (show G_15.1 96 0 = (G.1 96 0) from ((hq_16.i9 96 0 rfl rfl).trans (hq_5.i9 96 0 rfl rfl))))
    have b_51 : 0 ≤ (G.1 96 1).toInt ∧ (G.1 96 1).toInt ≤ 9 := bd_96_1 hB_G
    have g_52 : (G_15.1 96 1).toInt = (G.1 96 1).toInt := (congrArg Int32.toInt (show G_15.1 96 1 = (G.1 96 1) from ((hq_16.i9 96 1 rfl rfl).trans (hq_5.i9 96 1 rfl rfl))))
    have b_53 : 0 ≤ (G.1 96 2).toInt ∧ (G.1 96 2).toInt ≤ 9 := bd_96_2 hB_G
    have g_54 : (G_15.1 96 2).toInt = (G.1 96 2).toInt := (congrArg Int32.toInt (show G_15.1 96 2 = (G.1 96 2) from ((hq_16.i9 96 2 rfl rfl).trans (hq_5.i9 96 2 rfl rfl))))
    exact K G_15 _ _ _ (Or.inl ⟨((((hq_16.r9 0 0 rfl rfl).trans (hq_5.r9 0 0 rfl rfl))).trans (hv_0_0)), ((((hq_16.r9 0 1 rfl rfl).trans (hq_5.r9 0 1 rfl rfl))).trans (hv_0_1)), ((((hq_16.r9 6 4 rfl rfl).trans (hq_5.r9 6 4 rfl rfl))).trans (hv_6_4)), by omega, by omega, by omega, by omega, by omega, by omega, by omega, by omega, by omega, by omega, by omega, by omega, by omega⟩) hB_G_15 hW hS (lv_sub hl [0, 1, 2, 3] rfl)
  · skip
    obtain ⟨p0, hp0⟩ : ∃ y, y = xs (i0 + 1).toNatClampNeg := ⟨_, rfl⟩
    obtain ⟨p1, hp1⟩ : ∃ y, y = xs (i0 + 2).toNatClampNeg := ⟨_, rfl⟩
    obtain ⟨p2, hp2⟩ : ∃ y, y = xs (i0 + 3).toNatClampNeg := ⟨_, rfl⟩
    obtain ⟨p3, hp3⟩ : ∃ y, y = xs (i0 + 4).toNatClampNeg := ⟨_, rfl⟩
    obtain ⟨p4, hp4⟩ : ∃ y, y = xs (i0 + 5).toNatClampNeg := ⟨_, rfl⟩
    refine lv_aload_n hx hb dL_law_1230 rfl (lv_at hl 1 rfl) ?_
    refine ld_1 hL hi0 hi6 hx hb hX hbl hbA hS hl dL_law_1231 dL_law_1232 dL_law_1233 dL_law_1234 dL_law_1235 hp0 ?_
    refine ld_2 hL hi0 hi6 hx hb hX hbl hbA hS hl dL_law_1236 dL_law_1237 dL_law_1238 dL_law_1239 dL_law_1240 hp1 ?_
    refine ld_3 hL hi0 hi6 hx hb hX hbl hbA hS hl dL_law_1241 dL_law_1242 dL_law_1243 dL_law_1244 dL_law_1245 hp2 ?_
    have b_1 : 0 ≤ (G.1 30 4).toInt ∧ (G.1 30 4).toInt ≤ 40 := bd_30_4 hB_G
    have b_2 : 0 ≤ (G.1 30 5).toInt ∧ (G.1 30 5).toInt ≤ 40 := bd_30_5 hB_G
    refine S_calli (va_runV (As := [.int p0, .int p1, .int p2]) (rest := []) ⟨hx, hb, hml, hown, hts⟩ (k_Wwalk_2 l D k A a z G p0 p1 p2 hv_0_0 hv_0_1 hv_6_4 (by omega)) (cwV 3 hts (gd_V hgd m1166 m1167 m1168 m117 m1169) rfl rfl rfl hd_X11_walk ⟨Nat.le_of_ble_eq_true rfl, Nat.le_of_ble_eq_true rfl⟩) (pre_W hW hB_G hK hZ hS kd_0 rfl) rfl rfl hl.1 rfl (lv_room (Nat.le_of_ble_eq_true rfl)) dL_law_1246 ⟨Nat.le_of_ble_eq_true rfl, Nat.le_of_ble_eq_true rfl⟩) hS (fun r_3 G_4 H locs hpo hW hS => ?_)
    have hX_7 : P_Wwalk_2 p0 p1 p2 G r_3 G_4 := hpo
    obtain ⟨hB_G_4, hq_5, hp_6, -⟩ := hpo
    refine lv_pop hx hb dL_law_1249 rfl ?_
    refine lv_aload_n hx hb dL_law_1250 rfl (lv_at hl 2 rfl) ?_
    refine ld_1 hL hi0 hi6 hx hb hX hbl hbA hS hl dL_law_1251 dL_law_1252 dL_law_1253 dL_law_1254 dL_law_1255 hp0 ?_
    refine ld_2 hL hi0 hi6 hx hb hX hbl hbA hS hl dL_law_1256 dL_law_1257 dL_law_1258 dL_law_1259 dL_law_1260 hp1 ?_
    refine ld_3 hL hi0 hi6 hx hb hX hbl hbA hS hl dL_law_1261 dL_law_1262 dL_law_1263 dL_law_1264 dL_law_1265 hp2 ?_
    have fr_8 : Fr [37, 38, 39, 58, 59] [(6, 3), (30, 4), (30, 5)] G G_4 := (Fr.call9 (rs := [37, 38, 39, 58, 59]) (fs := [(6, 3), (30, 4), (30, 5)]) Fr.rf hq_5 rfl rfl)
    have g_9 : gP G_4 = gP G := gP_fr fr_8 (gr_q rfl) (gf_q rfl)
    have b_10 : 0 ≤ (G.1 66 78).toInt ∧ (G.1 66 78).toInt ≤ 40 := bd_66_78 hB_G
    have g_11 : (G_4.1 66 78).toInt = (G.1 66 78).toInt := (congrArg Int32.toInt (show G_4.1 66 78 = (G.1 66 78) from (hq_5.i9 66 78 rfl rfl)))
    have b_12 : 0 ≤ (G.1 66 79).toInt ∧ (G.1 66 79).toInt ≤ 40 := bd_66_79 hB_G
    have g_13 : (G_4.1 66 79).toInt = (G.1 66 79).toInt := (congrArg Int32.toInt (show G_4.1 66 79 = (G.1 66 79) from (hq_5.i9 66 79 rfl rfl)))
    refine S_calli (va_runV (As := [.int p0, .int p1, .int p2]) (rest := []) ⟨hx, hb, hml, hown, hts⟩ (n_walk l D k A a z G_4 p0 p1 p2 ((by first | (clear b_1 b_2 b_10 g_11 b_12 g_13; omega) | omega)) ((by first | (clear b_1 b_2 g_9; omega) | omega))) (cwV 3 hts (gd_V hgd m1987 m1988 m1989 m131 m1990) rfl rfl rfl hd_X12_walk ⟨Nat.le_of_ble_eq_true rfl, Nat.le_of_ble_eq_true rfl⟩) (pre_W hW hB_G_4 hK hZ hS kd_66 rfl) rfl rfl hl.1 rfl (lv_room (Nat.le_of_ble_eq_true rfl)) dL_law_1266 ⟨Nat.le_of_ble_eq_true rfl, Nat.le_of_ble_eq_true rfl⟩) hS (fun r_14 G_15 H locs hpo hW hS => ?_)
    have hX_18 : Q_walk p0 p1 p2 G_4 r_14 G_15 := hpo
    obtain ⟨hB_G_15, hq_16, hp_17, -⟩ := hpo
    obtain ⟨u_19, u_20⟩ := L_walk_2 hX_7 hX_18 rfl rfl rfl (by omega)
    refine lv_pop hx hb dL_law_1269 rfl ?_
    refine lv_goto (tgt := 1641) hx hb dL_law_1270 rfl ?_
    have fr_21 : Fr [110, 111, 37, 38, 39, 58, 59, 76, 97, 98] [(6, 3), (30, 4), (30, 5), (66, 59), (66, 60), (66, 61), (66, 62), (66, 63), (66, 78), (66, 79)] G G_15 := (Fr.call9 (rs := [110, 111, 37, 38, 39, 58, 59, 76, 97, 98]) (fs := [(6, 3), (30, 4), (30, 5), (66, 59), (66, 60), (66, 61), (66, 62), (66, 63), (66, 78), (66, 79)]) (Fr.call9 (rs := [110, 111, 37, 38, 39, 58, 59, 76, 97, 98]) (fs := [(6, 3), (30, 4), (30, 5), (66, 59), (66, 60), (66, 61), (66, 62), (66, 63), (66, 78), (66, 79)]) Fr.rf hq_5 rfl rfl) hq_16 rfl rfl)
    have g_22 : gO G_15 = gO G := gO_fr fr_21 (gr_q rfl) (gf_q rfl)
    have g_23 : gP G_15 = gP G := gP_fr fr_21 (gr_q rfl) (gf_q rfl)
    have g_24 : gS G_15 = gS G := gS_fr fr_21 (gr_q rfl) (gf_q rfl)
    have g_25 : gTE G_15 = gTE G := gTE_fr fr_21 (gr_q rfl) (gf_q rfl)
    have g_26 : gW G_15 = gW G := gW_fr fr_21 (gr_q rfl) (gf_q rfl)
    have b_27 : 0 ≤ (G.1 0 11).toInt ∧ (G.1 0 11).toInt ≤ 1600 := bd_0_11 hB_G
    have g_28 : (G_15.1 0 11).toInt = (G.1 0 11).toInt := (congrArg Int32.toInt (show G_15.1 0 11 = (G.1 0 11) from ((hq_16.i9 0 11 rfl rfl).trans (hq_5.i9 0 11 rfl rfl))))
    have b_29 : 0 ≤ (G.1 3 7).toInt ∧ (G.1 3 7).toInt ≤ 4 := bd_3_7 hB_G
    have g_30 : (G_15.1 3 7).toInt = (G.1 3 7).toInt := (congrArg Int32.toInt (show G_15.1 3 7 = (G.1 3 7) from ((hq_16.i9 3 7 rfl rfl).trans (hq_5.i9 3 7 rfl rfl))))
    have b_31 : (-1) ≤ (G.1 3 8).toInt ∧ (G.1 3 8).toInt ≤ 1600 := bd_3_8 hB_G
    have g_32 : (G_15.1 3 8).toInt = (G.1 3 8).toInt := (congrArg Int32.toInt (show G_15.1 3 8 = (G.1 3 8) from ((hq_16.i9 3 8 rfl rfl).trans (hq_5.i9 3 8 rfl rfl))))
    have b_33 : 0 ≤ (G_4.1 30 4).toInt ∧ (G_4.1 30 4).toInt ≤ 40 := bd_30_4 hB_G_4
    have g_34 : (G_15.1 30 4).toInt = (G_4.1 30 4).toInt := (congrArg Int32.toInt (show G_15.1 30 4 = (G_4.1 30 4) from (hq_16.i9 30 4 rfl rfl)))
    have b_35 : 0 ≤ (G_4.1 30 5).toInt ∧ (G_4.1 30 5).toInt ≤ 40 := bd_30_5 hB_G_4
    have g_36 : (G_15.1 30 5).toInt = (G_4.1 30 5).toInt := (congrArg Int32.toInt (show G_15.1 30 5 = (G_4.1 30 5) from (hq_16.i9 30 5 rfl rfl)))
    have b_37 : 0 ≤ (G.1 31 6).toInt ∧ (G.1 31 6).toInt ≤ 100000 := bd_31_6 hB_G
    have g_38 : (G_15.1 31 6).toInt = (G.1 31 6).toInt := (congrArg Int32.toInt (show G_15.1 31 6 = (G.1 31 6) from ((hq_16.i9 31 6 rfl rfl).trans (hq_5.i9 31 6 rfl rfl))))
    have b_39 : 0 ≤ (G.1 66 1).toInt ∧ (G.1 66 1).toInt ≤ 1600 := bd_66_1 hB_G
    have g_40 : (G_15.1 66 1).toInt = (G.1 66 1).toInt := (congrArg Int32.toInt (show G_15.1 66 1 = (G.1 66 1) from ((hq_16.i9 66 1 rfl rfl).trans (hq_5.i9 66 1 rfl rfl))))
    have b_41 : 0 ≤ (G.1 66 2).toInt ∧ (G.1 66 2).toInt ≤ 4 := bd_66_2 hB_G
    have g_42 : (G_15.1 66 2).toInt = (G.1 66 2).toInt := (congrArg Int32.toInt (show G_15.1 66 2 = (G.1 66 2) from ((hq_16.i9 66 2 rfl rfl).trans (hq_5.i9 66 2 rfl rfl))))
    have b_43 : (-1) ≤ (G.1 66 3).toInt ∧ (G.1 66 3).toInt ≤ 1600 := bd_66_3 hB_G
    have g_44 : (G_15.1 66 3).toInt = (G.1 66 3).toInt := (congrArg Int32.toInt (show G_15.1 66 3 = (G.1 66 3) from ((hq_16.i9 66 3 rfl rfl).trans (hq_5.i9 66 3 rfl rfl))))
    have b_45 : 0 ≤ (G_15.1 66 78).toInt ∧ (G_15.1 66 78).toInt ≤ 40 := bd_66_78 hB_G_15
    have b_46 : 0 ≤ (G_15.1 66 79).toInt ∧ (G_15.1 66 79).toInt ≤ 40 := bd_66_79 hB_G_15
    have b_47 : 0 ≤ (G.1 66 86).toInt ∧ (G.1 66 86).toInt ≤ 100000 := bd_66_86 hB_G
    have g_48 : (G_15.1 66 86).toInt = (G.1 66 86).toInt := (congrArg Int32.toInt (show G_15.1 66 86 = (G.1 66 86) from ((hq_16.i9 66 86 rfl rfl).trans (hq_5.i9 66 86 rfl rfl))))
    have b_49 : 0 ≤ (G.1 96 0).toInt ∧ (G.1 96 0).toInt ≤ 9 := bd_96_0 hB_G
    have g_50 : (G_15.1 96 0).toInt = (G.1 96 0).toInt := (congrArg Int32.toInt (show G_15.1 96 0 = (G.1 96 0) from ((hq_16.i9 96 0 rfl rfl).trans (hq_5.i9 96 0 rfl rfl))))
    have b_51 : 0 ≤ (G.1 96 1).toInt ∧ (G.1 96 1).toInt ≤ 9 := bd_96_1 hB_G
    have g_52 : (G_15.1 96 1).toInt = (G.1 96 1).toInt := (congrArg Int32.toInt (show G_15.1 96 1 = (G.1 96 1) from ((hq_16.i9 96 1 rfl rfl).trans (hq_5.i9 96 1 rfl rfl))))
    have b_53 : 0 ≤ (G.1 96 2).toInt ∧ (G.1 96 2).toInt ≤ 9 := bd_96_2 hB_G
    have g_54 : (G_15.1 96 2).toInt = (G.1 96 2).toInt := (congrArg Int32.toInt (show G_15.1 96 2 = (G.1 96 2) from ((hq_16.i9 96 2 rfl rfl).trans (hq_5.i9 96 2 rfl rfl))))
    exact K G_15 _ _ _ (Or.inr ⟨((((hq_16.r9 0 0 rfl rfl).trans (hq_5.r9 0 0 rfl rfl))).trans (hv_0_0)), ((((hq_16.r9 0 1 rfl rfl).trans (hq_5.r9 0 1 rfl rfl))).trans (hv_0_1)), ((((hq_16.r9 6 4 rfl rfl).trans (hq_5.r9 6 4 rfl rfl))).trans (hv_6_4)), by omega, by omega, by omega, by omega, by omega, by omega, by omega, by omega, by omega, by omega, by omega, by omega, by omega⟩) hB_G_15 hW hS (lv_sub hl [0, 1, 2, 3] rfl)

set_option maxHeartbeats 4000000 in
set_option maxRecDepth 100000 in
theorem law_23 {p : Program} {l : Launch} {e : Env} {s : State} {m : MethodId} {below : List Frame} {meth : Method} {c : Code} {D : va_G} {k : KT} {A : Nat → Prop} {a : Nat → Nat} {z : SK} {b L : Nat} {xs : Nat → Int32} (hL : L ≤ 3072) (C0 : lw_At p s m meth c b L xs) (hK : cK D k s) (hZ : Sx A z s) (hbA : ¬ A b) {G : GS} {i0 : Int32} (hi0 : 0 ≤ i0.toInt) (hi6 : i0.toInt + 6 ≤ L) (hI : LI G) (hB_G : Bd G) {H : Heap} {locs : List Loc} {ls : Array Slot} (hW : Wd D k A a G H) (hS : va_S A s.heap H locs) (hl : lv_has ls 4 [(0, .ref b), (1, .ref (a 0)), (2, .ref (a 66)), (3, .int i0)]) (K : ∀ (G1 : GS) (H1 : Heap) (locs1 : List Loc) (ls1 : Array Slot), LI G1 → Bd G1 → Wd D k A a G1 H1 → va_S A s.heap H1 locs1 → lv_has ls1 4 [(0, .ref b), (1, .ref (a 0)), (2, .ref (a 66)), (3, .int i0)] → W p l e room_1 s m #[Value.ref b] below meth c H1 locs1 119 46443 (lw_Z below #[Value.ref b] s) (F0 m 1641 ls1 [])) : W p l e room_1 s m #[Value.ref b] below meth c H locs 119 46443 (lw_Z below #[Value.ref b] s) (F0 m 1273 ls []) := by
  obtain ⟨hx, hb, hr, hml, hown, hts, hX, hbl, hlocks, hgv⟩ := id C0
  have hown : s.vm.findClass RL = some m.cls := hown
  have hgd : ∀ w ∈ gd, w ∈ lw_tbl := fun w h => (List.mem_filter.mp h).1
  have hg : ∀ w ∈ gd, w.before #[Value.ref b] s = true := fun w h => hts w (hgd w h)
  rcases hI with ⟨hv_0_0, hv_0_1, hv_6_4, hj0, hj1, hj2, hj3, hj4, hj5, hj6, hj7, hj8, hj9, hj10, hj11, hj12⟩ | ⟨hv_0_0, hv_0_1, hv_6_4, hj0, hj1, hj2, hj3, hj4, hj5, hj6, hj7, hj8, hj9, hj10, hj11, hj12⟩
  · skip
    obtain ⟨p0, hp0⟩ : ∃ y, y = xs (i0 + 1).toNatClampNeg := ⟨_, rfl⟩
    obtain ⟨p1, hp1⟩ : ∃ y, y = xs (i0 + 2).toNatClampNeg := ⟨_, rfl⟩
    obtain ⟨p2, hp2⟩ : ∃ y, y = xs (i0 + 3).toNatClampNeg := ⟨_, rfl⟩
    obtain ⟨p3, hp3⟩ : ∃ y, y = xs (i0 + 4).toNatClampNeg := ⟨_, rfl⟩
    obtain ⟨p4, hp4⟩ : ∃ y, y = xs (i0 + 5).toNatClampNeg := ⟨_, rfl⟩
    refine lv_aload_n hx hb dL_law_1273 rfl (lv_at hl 1 rfl) ?_
    refine ld_1 hL hi0 hi6 hx hb hX hbl hbA hS hl dL_law_1274 dL_law_1275 dL_law_1276 dL_law_1277 dL_law_1278 hp0 ?_
    have b_1 : 0 ≤ (G.1 30 4).toInt ∧ (G.1 30 4).toInt ≤ 40 := bd_30_4 hB_G
    have b_2 : 0 ≤ (G.1 30 5).toInt ∧ (G.1 30 5).toInt ≤ 40 := bd_30_5 hB_G
    refine S_calli (va_runV (As := [.int p0]) (rest := []) ⟨hx, hb, hml, hown, hts⟩ (k_Wgo_1 l D k A a z G p0 hv_0_0 hv_0_1 hv_6_4 (by omega)) (cwV 1 hts (gd_V hgd m1182 m1183 m1184 m117 m1185) rfl rfl rfl hd_X11_go ⟨Nat.le_of_ble_eq_true rfl, Nat.le_of_ble_eq_true rfl⟩) (pre_W hW hB_G hK hZ hS kd_0 rfl) rfl rfl hl.1 rfl (lv_room (Nat.le_of_ble_eq_true rfl)) dL_law_1279 ⟨Nat.le_of_ble_eq_true rfl, Nat.le_of_ble_eq_true rfl⟩) hS (fun r_3 G_4 H locs hpo hW hS => ?_)
    have hX_7 : P_Wgo_1 p0 G r_3 G_4 := hpo
    obtain ⟨hB_G_4, hq_5, hp_6, -⟩ := hpo
    refine lv_pop hx hb dL_law_1282 rfl ?_
    refine lv_aload_n hx hb dL_law_1283 rfl (lv_at hl 2 rfl) ?_
    refine ld_1 hL hi0 hi6 hx hb hX hbl hbA hS hl dL_law_1284 dL_law_1285 dL_law_1286 dL_law_1287 dL_law_1288 hp0 ?_
    have fr_8 : Fr [37, 38, 39, 58, 59] [(6, 3), (30, 4), (30, 5)] G G_4 := (Fr.call9 (rs := [37, 38, 39, 58, 59]) (fs := [(6, 3), (30, 4), (30, 5)]) Fr.rf hq_5 rfl rfl)
    have g_9 : gP G_4 = gP G := gP_fr fr_8 (gr_q rfl) (gf_q rfl)
    have b_10 : 0 ≤ (G.1 66 78).toInt ∧ (G.1 66 78).toInt ≤ 40 := bd_66_78 hB_G
    have g_11 : (G_4.1 66 78).toInt = (G.1 66 78).toInt := (congrArg Int32.toInt (show G_4.1 66 78 = (G.1 66 78) from (hq_5.i9 66 78 rfl rfl)))
    have b_12 : 0 ≤ (G.1 66 79).toInt ∧ (G.1 66 79).toInt ≤ 40 := bd_66_79 hB_G
    have g_13 : (G_4.1 66 79).toInt = (G.1 66 79).toInt := (congrArg Int32.toInt (show G_4.1 66 79 = (G.1 66 79) from (hq_5.i9 66 79 rfl rfl)))
    have b_14 : 0 ≤ (G.1 96 0).toInt ∧ (G.1 96 0).toInt ≤ 9 := bd_96_0 hB_G
    have g_15 : (G_4.1 96 0).toInt = (G.1 96 0).toInt := (congrArg Int32.toInt (show G_4.1 96 0 = (G.1 96 0) from (hq_5.i9 96 0 rfl rfl)))
    have b_16 : 0 ≤ (G.1 96 1).toInt ∧ (G.1 96 1).toInt ≤ 9 := bd_96_1 hB_G
    have g_17 : (G_4.1 96 1).toInt = (G.1 96 1).toInt := (congrArg Int32.toInt (show G_4.1 96 1 = (G.1 96 1) from (hq_5.i9 96 1 rfl rfl)))
    have b_18 : 0 ≤ (G.1 96 2).toInt ∧ (G.1 96 2).toInt ≤ 9 := bd_96_2 hB_G
    have g_19 : (G_4.1 96 2).toInt = (G.1 96 2).toInt := (congrArg Int32.toInt (show G_4.1 96 2 = (G.1 96 2) from (hq_5.i9 96 2 rfl rfl)))
    refine S_calli (va_runV (As := [.int p0]) (rest := []) ⟨hx, hb, hml, hown, hts⟩ (n_go l D k A a z G_4 p0 ((by first | (clear b_1 b_2 b_10 g_11 b_12 g_13 b_14 g_15 b_16 g_17 b_18 g_19; omega) | omega)) ((by first | (clear b_1 b_2 g_9 b_14 g_15 b_16 g_17 b_18 g_19; omega) | omega)) ((by first | (clear b_1 b_2 g_9 b_10 g_11 b_12 g_13; omega) | omega))) (cwV 1 hts (gd_V hgd m1999 m2000 m2001 m131 m2002) rfl rfl rfl hd_X12_go ⟨Nat.le_of_ble_eq_true rfl, Nat.le_of_ble_eq_true rfl⟩) (pre_W hW hB_G_4 hK hZ hS kd_66 rfl) rfl rfl hl.1 rfl (lv_room (Nat.le_of_ble_eq_true rfl)) dL_law_1289 ⟨Nat.le_of_ble_eq_true rfl, Nat.le_of_ble_eq_true rfl⟩) hS (fun r_20 G_21 H locs hpo hW hS => ?_)
    have hX_24 : Q_go p0 G_4 r_20 G_21 := hpo
    obtain ⟨hB_G_21, hq_22, hp_23, -⟩ := hpo
    obtain ⟨u_25, u_26⟩ := L_go_1 hX_7 hX_24 rfl (by omega) (by omega)
    refine lv_pop hx hb dL_law_1292 rfl ?_
    refine lv_goto (tgt := 1641) hx hb dL_law_1293 rfl ?_
    have fr_27 : Fr [110, 111, 37, 38, 39, 58, 59, 76, 97, 98] [(6, 3), (30, 4), (30, 5), (66, 59), (66, 60), (66, 61), (66, 62), (66, 63), (66, 78), (66, 79)] G G_21 := (Fr.call9 (rs := [110, 111, 37, 38, 39, 58, 59, 76, 97, 98]) (fs := [(6, 3), (30, 4), (30, 5), (66, 59), (66, 60), (66, 61), (66, 62), (66, 63), (66, 78), (66, 79)]) (Fr.call9 (rs := [110, 111, 37, 38, 39, 58, 59, 76, 97, 98]) (fs := [(6, 3), (30, 4), (30, 5), (66, 59), (66, 60), (66, 61), (66, 62), (66, 63), (66, 78), (66, 79)]) Fr.rf hq_5 rfl rfl) hq_22 rfl rfl)
    have g_28 : gO G_21 = gO G := gO_fr fr_27 (gr_q rfl) (gf_q rfl)
    have g_29 : gP G_21 = gP G := gP_fr fr_27 (gr_q rfl) (gf_q rfl)
    have g_30 : gS G_21 = gS G := gS_fr fr_27 (gr_q rfl) (gf_q rfl)
    have g_31 : gTE G_21 = gTE G := gTE_fr fr_27 (gr_q rfl) (gf_q rfl)
    have g_32 : gW G_21 = gW G := gW_fr fr_27 (gr_q rfl) (gf_q rfl)
    have b_33 : 0 ≤ (G.1 0 11).toInt ∧ (G.1 0 11).toInt ≤ 1600 := bd_0_11 hB_G
    have g_34 : (G_21.1 0 11).toInt = (G.1 0 11).toInt := (congrArg Int32.toInt (show G_21.1 0 11 = (G.1 0 11) from ((hq_22.i9 0 11 rfl rfl).trans (hq_5.i9 0 11 rfl rfl))))
    have b_35 : 0 ≤ (G.1 3 7).toInt ∧ (G.1 3 7).toInt ≤ 4 := bd_3_7 hB_G
    have g_36 : (G_21.1 3 7).toInt = (G.1 3 7).toInt := (congrArg Int32.toInt (show G_21.1 3 7 = (G.1 3 7) from ((hq_22.i9 3 7 rfl rfl).trans (hq_5.i9 3 7 rfl rfl))))
    have b_37 : (-1) ≤ (G.1 3 8).toInt ∧ (G.1 3 8).toInt ≤ 1600 := bd_3_8 hB_G
    have g_38 : (G_21.1 3 8).toInt = (G.1 3 8).toInt := (congrArg Int32.toInt (show G_21.1 3 8 = (G.1 3 8) from ((hq_22.i9 3 8 rfl rfl).trans (hq_5.i9 3 8 rfl rfl))))
    have b_39 : 0 ≤ (G_4.1 30 4).toInt ∧ (G_4.1 30 4).toInt ≤ 40 := bd_30_4 hB_G_4
    have g_40 : (G_21.1 30 4).toInt = (G_4.1 30 4).toInt := (congrArg Int32.toInt (show G_21.1 30 4 = (G_4.1 30 4) from (hq_22.i9 30 4 rfl rfl)))
    have b_41 : 0 ≤ (G_4.1 30 5).toInt ∧ (G_4.1 30 5).toInt ≤ 40 := bd_30_5 hB_G_4
    have g_42 : (G_21.1 30 5).toInt = (G_4.1 30 5).toInt := (congrArg Int32.toInt (show G_21.1 30 5 = (G_4.1 30 5) from (hq_22.i9 30 5 rfl rfl)))
    have b_43 : 0 ≤ (G.1 31 6).toInt ∧ (G.1 31 6).toInt ≤ 100000 := bd_31_6 hB_G
    have g_44 : (G_21.1 31 6).toInt = (G.1 31 6).toInt := (congrArg Int32.toInt (show G_21.1 31 6 = (G.1 31 6) from ((hq_22.i9 31 6 rfl rfl).trans (hq_5.i9 31 6 rfl rfl))))
    have b_45 : 0 ≤ (G.1 66 1).toInt ∧ (G.1 66 1).toInt ≤ 1600 := bd_66_1 hB_G
    have g_46 : (G_21.1 66 1).toInt = (G.1 66 1).toInt := (congrArg Int32.toInt (show G_21.1 66 1 = (G.1 66 1) from ((hq_22.i9 66 1 rfl rfl).trans (hq_5.i9 66 1 rfl rfl))))
    have b_47 : 0 ≤ (G.1 66 2).toInt ∧ (G.1 66 2).toInt ≤ 4 := bd_66_2 hB_G
    have g_48 : (G_21.1 66 2).toInt = (G.1 66 2).toInt := (congrArg Int32.toInt (show G_21.1 66 2 = (G.1 66 2) from ((hq_22.i9 66 2 rfl rfl).trans (hq_5.i9 66 2 rfl rfl))))
    have b_49 : (-1) ≤ (G.1 66 3).toInt ∧ (G.1 66 3).toInt ≤ 1600 := bd_66_3 hB_G
    have g_50 : (G_21.1 66 3).toInt = (G.1 66 3).toInt := (congrArg Int32.toInt (show G_21.1 66 3 = (G.1 66 3) from ((hq_22.i9 66 3 rfl rfl).trans (hq_5.i9 66 3 rfl rfl))))
    have b_51 : 0 ≤ (G_21.1 66 78).toInt ∧ (G_21.1 66 78).toInt ≤ 40 := bd_66_78 hB_G_21
    have b_52 : 0 ≤ (G_21.1 66 79).toInt ∧ (G_21.1 66 79).toInt ≤ 40 := bd_66_79 hB_G_21
    have b_53 : 0 ≤ (G.1 66 86).toInt ∧ (G.1 66 86).toInt ≤ 100000 := bd_66_86 hB_G
    have g_54 : (G_21.1 66 86).toInt = (G.1 66 86).toInt := (congrArg Int32.toInt (show G_21.1 66 86 = (G.1 66 86) from ((hq_22.i9 66 86 rfl rfl).trans (hq_5.i9 66 86 rfl rfl))))
    have g_55 : (G_21.1 96 0).toInt = (G.1 96 0).toInt := (congrArg Int32.toInt (show G_21.1 96 0 = (G.1 96 0) from ((hq_22.i9 96 0 rfl rfl).trans ((hq_5.i9 96 0 rfl rfl).trans (rfl)))))
    have g_56 : (G_21.1 96 1).toInt = (G.1 96 1).toInt := (congrArg Int32.toInt (show G_21.1 96 1 = (G.1 96 1) from ((hq_22.i9 96 1 rfl rfl).trans ((hq_5.i9 96 1 rfl rfl).trans (rfl)))))
    have g_57 : (G_21.1 96 2).toInt = (G.1 96 2).toInt := (congrArg Int32.toInt (show G_21.1 96 2 = (G.1 96 2) from ((hq_22.i9 96 2 rfl rfl).trans ((hq_5.i9 96 2 rfl rfl).trans (rfl)))))
    exact K G_21 _ _ _ (Or.inl ⟨((((hq_22.r9 0 0 rfl rfl).trans (hq_5.r9 0 0 rfl rfl))).trans (hv_0_0)), ((((hq_22.r9 0 1 rfl rfl).trans (hq_5.r9 0 1 rfl rfl))).trans (hv_0_1)), ((((hq_22.r9 6 4 rfl rfl).trans (hq_5.r9 6 4 rfl rfl))).trans (hv_6_4)), by omega, by omega, by omega, by omega, by omega, by omega, by omega, by omega, by omega, by omega, by omega, by omega, by omega⟩) hB_G_21 hW hS (lv_sub hl [0, 1, 2, 3] rfl)
  · skip
    obtain ⟨p0, hp0⟩ : ∃ y, y = xs (i0 + 1).toNatClampNeg := ⟨_, rfl⟩
    obtain ⟨p1, hp1⟩ : ∃ y, y = xs (i0 + 2).toNatClampNeg := ⟨_, rfl⟩
    obtain ⟨p2, hp2⟩ : ∃ y, y = xs (i0 + 3).toNatClampNeg := ⟨_, rfl⟩
    obtain ⟨p3, hp3⟩ : ∃ y, y = xs (i0 + 4).toNatClampNeg := ⟨_, rfl⟩
    obtain ⟨p4, hp4⟩ : ∃ y, y = xs (i0 + 5).toNatClampNeg := ⟨_, rfl⟩
    refine lv_aload_n hx hb dL_law_1273 rfl (lv_at hl 1 rfl) ?_
    refine ld_1 hL hi0 hi6 hx hb hX hbl hbA hS hl dL_law_1274 dL_law_1275 dL_law_1276 dL_law_1277 dL_law_1278 hp0 ?_
    have b_1 : 0 ≤ (G.1 30 4).toInt ∧ (G.1 30 4).toInt ≤ 40 := bd_30_4 hB_G
    have b_2 : 0 ≤ (G.1 30 5).toInt ∧ (G.1 30 5).toInt ≤ 40 := bd_30_5 hB_G
    refine S_calli (va_runV (As := [.int p0]) (rest := []) ⟨hx, hb, hml, hown, hts⟩ (k_Wgo_2 l D k A a z G p0 hv_0_0 hv_0_1 hv_6_4 (by omega)) (cwV 1 hts (gd_V hgd m1182 m1183 m1184 m117 m1185) rfl rfl rfl hd_X11_go ⟨Nat.le_of_ble_eq_true rfl, Nat.le_of_ble_eq_true rfl⟩) (pre_W hW hB_G hK hZ hS kd_0 rfl) rfl rfl hl.1 rfl (lv_room (Nat.le_of_ble_eq_true rfl)) dL_law_1279 ⟨Nat.le_of_ble_eq_true rfl, Nat.le_of_ble_eq_true rfl⟩) hS (fun r_3 G_4 H locs hpo hW hS => ?_)
    have hX_7 : P_Wgo_2 p0 G r_3 G_4 := hpo
    obtain ⟨hB_G_4, hq_5, hp_6, -⟩ := hpo
    refine lv_pop hx hb dL_law_1282 rfl ?_
    refine lv_aload_n hx hb dL_law_1283 rfl (lv_at hl 2 rfl) ?_
    refine ld_1 hL hi0 hi6 hx hb hX hbl hbA hS hl dL_law_1284 dL_law_1285 dL_law_1286 dL_law_1287 dL_law_1288 hp0 ?_
    have fr_8 : Fr [37, 38, 39, 58, 59] [(6, 3), (30, 4), (30, 5)] G G_4 := (Fr.call9 (rs := [37, 38, 39, 58, 59]) (fs := [(6, 3), (30, 4), (30, 5)]) Fr.rf hq_5 rfl rfl)
    have g_9 : gP G_4 = gP G := gP_fr fr_8 (gr_q rfl) (gf_q rfl)
    have b_10 : 0 ≤ (G.1 66 78).toInt ∧ (G.1 66 78).toInt ≤ 40 := bd_66_78 hB_G
    have g_11 : (G_4.1 66 78).toInt = (G.1 66 78).toInt := (congrArg Int32.toInt (show G_4.1 66 78 = (G.1 66 78) from (hq_5.i9 66 78 rfl rfl)))
    have b_12 : 0 ≤ (G.1 66 79).toInt ∧ (G.1 66 79).toInt ≤ 40 := bd_66_79 hB_G
    have g_13 : (G_4.1 66 79).toInt = (G.1 66 79).toInt := (congrArg Int32.toInt (show G_4.1 66 79 = (G.1 66 79) from (hq_5.i9 66 79 rfl rfl)))
    have b_14 : 0 ≤ (G.1 96 0).toInt ∧ (G.1 96 0).toInt ≤ 9 := bd_96_0 hB_G
    have g_15 : (G_4.1 96 0).toInt = (G.1 96 0).toInt := (congrArg Int32.toInt (show G_4.1 96 0 = (G.1 96 0) from (hq_5.i9 96 0 rfl rfl)))
    have b_16 : 0 ≤ (G.1 96 1).toInt ∧ (G.1 96 1).toInt ≤ 9 := bd_96_1 hB_G
    have g_17 : (G_4.1 96 1).toInt = (G.1 96 1).toInt := (congrArg Int32.toInt (show G_4.1 96 1 = (G.1 96 1) from (hq_5.i9 96 1 rfl rfl)))
    have b_18 : 0 ≤ (G.1 96 2).toInt ∧ (G.1 96 2).toInt ≤ 9 := bd_96_2 hB_G
    have g_19 : (G_4.1 96 2).toInt = (G.1 96 2).toInt := (congrArg Int32.toInt (show G_4.1 96 2 = (G.1 96 2) from (hq_5.i9 96 2 rfl rfl)))
    refine S_calli (va_runV (As := [.int p0]) (rest := []) ⟨hx, hb, hml, hown, hts⟩ (n_go l D k A a z G_4 p0 ((by first | (clear b_1 b_2 b_10 g_11 b_12 g_13 b_14 g_15 b_16 g_17 b_18 g_19; omega) | omega)) ((by first | (clear b_1 b_2 g_9 b_14 g_15 b_16 g_17 b_18 g_19; omega) | omega)) ((by first | (clear b_1 b_2 g_9 b_10 g_11 b_12 g_13; omega) | omega))) (cwV 1 hts (gd_V hgd m1999 m2000 m2001 m131 m2002) rfl rfl rfl hd_X12_go ⟨Nat.le_of_ble_eq_true rfl, Nat.le_of_ble_eq_true rfl⟩) (pre_W hW hB_G_4 hK hZ hS kd_66 rfl) rfl rfl hl.1 rfl (lv_room (Nat.le_of_ble_eq_true rfl)) dL_law_1289 ⟨Nat.le_of_ble_eq_true rfl, Nat.le_of_ble_eq_true rfl⟩) hS (fun r_20 G_21 H locs hpo hW hS => ?_)
    have hX_24 : Q_go p0 G_4 r_20 G_21 := hpo
    obtain ⟨hB_G_21, hq_22, hp_23, -⟩ := hpo
    obtain ⟨u_25, u_26⟩ := L_go_2 hX_7 hX_24 rfl (by omega) (by omega)
    refine lv_pop hx hb dL_law_1292 rfl ?_
    refine lv_goto (tgt := 1641) hx hb dL_law_1293 rfl ?_
    have fr_27 : Fr [110, 111, 37, 38, 39, 58, 59, 76, 97, 98] [(6, 3), (30, 4), (30, 5), (66, 59), (66, 60), (66, 61), (66, 62), (66, 63), (66, 78), (66, 79)] G G_21 := (Fr.call9 (rs := [110, 111, 37, 38, 39, 58, 59, 76, 97, 98]) (fs := [(6, 3), (30, 4), (30, 5), (66, 59), (66, 60), (66, 61), (66, 62), (66, 63), (66, 78), (66, 79)]) (Fr.call9 (rs := [110, 111, 37, 38, 39, 58, 59, 76, 97, 98]) (fs := [(6, 3), (30, 4), (30, 5), (66, 59), (66, 60), (66, 61), (66, 62), (66, 63), (66, 78), (66, 79)]) Fr.rf hq_5 rfl rfl) hq_22 rfl rfl)
    have g_28 : gO G_21 = gO G := gO_fr fr_27 (gr_q rfl) (gf_q rfl)
    have g_29 : gP G_21 = gP G := gP_fr fr_27 (gr_q rfl) (gf_q rfl)
    have g_30 : gS G_21 = gS G := gS_fr fr_27 (gr_q rfl) (gf_q rfl)
    have g_31 : gTE G_21 = gTE G := gTE_fr fr_27 (gr_q rfl) (gf_q rfl)
    have g_32 : gW G_21 = gW G := gW_fr fr_27 (gr_q rfl) (gf_q rfl)
    have b_33 : 0 ≤ (G.1 0 11).toInt ∧ (G.1 0 11).toInt ≤ 1600 := bd_0_11 hB_G
    have g_34 : (G_21.1 0 11).toInt = (G.1 0 11).toInt := (congrArg Int32.toInt (show G_21.1 0 11 = (G.1 0 11) from ((hq_22.i9 0 11 rfl rfl).trans (hq_5.i9 0 11 rfl rfl))))
    have b_35 : 0 ≤ (G.1 3 7).toInt ∧ (G.1 3 7).toInt ≤ 4 := bd_3_7 hB_G
    have g_36 : (G_21.1 3 7).toInt = (G.1 3 7).toInt := (congrArg Int32.toInt (show G_21.1 3 7 = (G.1 3 7) from ((hq_22.i9 3 7 rfl rfl).trans (hq_5.i9 3 7 rfl rfl))))
    have b_37 : (-1) ≤ (G.1 3 8).toInt ∧ (G.1 3 8).toInt ≤ 1600 := bd_3_8 hB_G
    have g_38 : (G_21.1 3 8).toInt = (G.1 3 8).toInt := (congrArg Int32.toInt (show G_21.1 3 8 = (G.1 3 8) from ((hq_22.i9 3 8 rfl rfl).trans (hq_5.i9 3 8 rfl rfl))))
    have b_39 : 0 ≤ (G_4.1 30 4).toInt ∧ (G_4.1 30 4).toInt ≤ 40 := bd_30_4 hB_G_4
    have g_40 : (G_21.1 30 4).toInt = (G_4.1 30 4).toInt := (congrArg Int32.toInt (show G_21.1 30 4 = (G_4.1 30 4) from (hq_22.i9 30 4 rfl rfl)))
    have b_41 : 0 ≤ (G_4.1 30 5).toInt ∧ (G_4.1 30 5).toInt ≤ 40 := bd_30_5 hB_G_4
    have g_42 : (G_21.1 30 5).toInt = (G_4.1 30 5).toInt := (congrArg Int32.toInt (show G_21.1 30 5 = (G_4.1 30 5) from (hq_22.i9 30 5 rfl rfl)))
    have b_43 : 0 ≤ (G.1 31 6).toInt ∧ (G.1 31 6).toInt ≤ 100000 := bd_31_6 hB_G
    have g_44 : (G_21.1 31 6).toInt = (G.1 31 6).toInt := (congrArg Int32.toInt (show G_21.1 31 6 = (G.1 31 6) from ((hq_22.i9 31 6 rfl rfl).trans (hq_5.i9 31 6 rfl rfl))))
    have b_45 : 0 ≤ (G.1 66 1).toInt ∧ (G.1 66 1).toInt ≤ 1600 := bd_66_1 hB_G
    have g_46 : (G_21.1 66 1).toInt = (G.1 66 1).toInt := (congrArg Int32.toInt (show G_21.1 66 1 = (G.1 66 1) from ((hq_22.i9 66 1 rfl rfl).trans (hq_5.i9 66 1 rfl rfl))))
    have b_47 : 0 ≤ (G.1 66 2).toInt ∧ (G.1 66 2).toInt ≤ 4 := bd_66_2 hB_G
    have g_48 : (G_21.1 66 2).toInt = (G.1 66 2).toInt := (congrArg Int32.toInt (show G_21.1 66 2 = (G.1 66 2) from ((hq_22.i9 66 2 rfl rfl).trans (hq_5.i9 66 2 rfl rfl))))
    have b_49 : (-1) ≤ (G.1 66 3).toInt ∧ (G.1 66 3).toInt ≤ 1600 := bd_66_3 hB_G
    have g_50 : (G_21.1 66 3).toInt = (G.1 66 3).toInt := (congrArg Int32.toInt (show G_21.1 66 3 = (G.1 66 3) from ((hq_22.i9 66 3 rfl rfl).trans (hq_5.i9 66 3 rfl rfl))))
    have b_51 : 0 ≤ (G_21.1 66 78).toInt ∧ (G_21.1 66 78).toInt ≤ 40 := bd_66_78 hB_G_21
    have b_52 : 0 ≤ (G_21.1 66 79).toInt ∧ (G_21.1 66 79).toInt ≤ 40 := bd_66_79 hB_G_21
    have b_53 : 0 ≤ (G.1 66 86).toInt ∧ (G.1 66 86).toInt ≤ 100000 := bd_66_86 hB_G
    have g_54 : (G_21.1 66 86).toInt = (G.1 66 86).toInt := (congrArg Int32.toInt (show G_21.1 66 86 = (G.1 66 86) from ((hq_22.i9 66 86 rfl rfl).trans (hq_5.i9 66 86 rfl rfl))))
    have g_55 : (G_21.1 96 0).toInt = (G.1 96 0).toInt := (congrArg Int32.toInt (show G_21.1 96 0 = (G.1 96 0) from ((hq_22.i9 96 0 rfl rfl).trans ((hq_5.i9 96 0 rfl rfl).trans (rfl)))))
    have g_56 : (G_21.1 96 1).toInt = (G.1 96 1).toInt := (congrArg Int32.toInt (show G_21.1 96 1 = (G.1 96 1) from ((hq_22.i9 96 1 rfl rfl).trans ((hq_5.i9 96 1 rfl rfl).trans (rfl)))))
    have g_57 : (G_21.1 96 2).toInt = (G.1 96 2).toInt := (congrArg Int32.toInt (show G_21.1 96 2 = (G.1 96 2) from ((hq_22.i9 96 2 rfl rfl).trans ((hq_5.i9 96 2 rfl rfl).trans (rfl)))))
    exact K G_21 _ _ _ (Or.inr ⟨((((hq_22.r9 0 0 rfl rfl).trans (hq_5.r9 0 0 rfl rfl))).trans (hv_0_0)), ((((hq_22.r9 0 1 rfl rfl).trans (hq_5.r9 0 1 rfl rfl))).trans (hv_0_1)), ((((hq_22.r9 6 4 rfl rfl).trans (hq_5.r9 6 4 rfl rfl))).trans (hv_6_4)), by omega, by omega, by omega, by omega, by omega, by omega, by omega, by omega, by omega, by omega, by omega, by omega, by omega⟩) hB_G_21 hW hS (lv_sub hl [0, 1, 2, 3] rfl)

set_option maxHeartbeats 4000000 in
set_option maxRecDepth 100000 in
theorem law_24 {p : Program} {l : Launch} {e : Env} {s : State} {m : MethodId} {below : List Frame} {meth : Method} {c : Code} {D : va_G} {k : KT} {A : Nat → Prop} {a : Nat → Nat} {z : SK} {b L : Nat} {xs : Nat → Int32} (hL : L ≤ 3072) (C0 : lw_At p s m meth c b L xs) (hK : cK D k s) (hZ : Sx A z s) (hbA : ¬ A b) {G : GS} {i0 : Int32} (hi0 : 0 ≤ i0.toInt) (hi6 : i0.toInt + 6 ≤ L) (hI : LI G) (hB_G : Bd G) {H : Heap} {locs : List Loc} {ls : Array Slot} (hW : Wd D k A a G H) (hS : va_S A s.heap H locs) (hl : lv_has ls 4 [(0, .ref b), (1, .ref (a 0)), (2, .ref (a 66)), (3, .int i0)]) (K : ∀ (G1 : GS) (H1 : Heap) (locs1 : List Loc) (ls1 : Array Slot), LI G1 → Bd G1 → Wd D k A a G1 H1 → va_S A s.heap H1 locs1 → lv_has ls1 4 [(0, .ref b), (1, .ref (a 0)), (2, .ref (a 66)), (3, .int i0)] → W p l e room_1 s m #[Value.ref b] below meth c H1 locs1 119 46443 (lw_Z below #[Value.ref b] s) (F0 m 1641 ls1 [])) : W p l e room_1 s m #[Value.ref b] below meth c H locs 119 46443 (lw_Z below #[Value.ref b] s) (F0 m 1296 ls []) := by
  obtain ⟨hx, hb, hr, hml, hown, hts, hX, hbl, hlocks, hgv⟩ := id C0
  have hown : s.vm.findClass RL = some m.cls := hown
  have hgd : ∀ w ∈ gd, w ∈ lw_tbl := fun w h => (List.mem_filter.mp h).1
  have hg : ∀ w ∈ gd, w.before #[Value.ref b] s = true := fun w h => hts w (hgd w h)
  rcases hI with ⟨hv_0_0, hv_0_1, hv_6_4, hj0, hj1, hj2, hj3, hj4, hj5, hj6, hj7, hj8, hj9, hj10, hj11, hj12⟩ | ⟨hv_0_0, hv_0_1, hv_6_4, hj0, hj1, hj2, hj3, hj4, hj5, hj6, hj7, hj8, hj9, hj10, hj11, hj12⟩
  · skip
    obtain ⟨p0, hp0⟩ : ∃ y, y = xs (i0 + 1).toNatClampNeg := ⟨_, rfl⟩
    obtain ⟨p1, hp1⟩ : ∃ y, y = xs (i0 + 2).toNatClampNeg := ⟨_, rfl⟩
    obtain ⟨p2, hp2⟩ : ∃ y, y = xs (i0 + 3).toNatClampNeg := ⟨_, rfl⟩
    obtain ⟨p3, hp3⟩ : ∃ y, y = xs (i0 + 4).toNatClampNeg := ⟨_, rfl⟩
    obtain ⟨p4, hp4⟩ : ∃ y, y = xs (i0 + 5).toNatClampNeg := ⟨_, rfl⟩
    refine lv_aload_n hx hb dL_law_1296 rfl (lv_at hl 1 rfl) ?_
    refine ld_1 hL hi0 hi6 hx hb hX hbl hbA hS hl dL_law_1297 dL_law_1298 dL_law_1299 dL_law_1300 dL_law_1301 hp0 ?_
    have b_1 : 0 ≤ (G.1 30 4).toInt ∧ (G.1 30 4).toInt ≤ 40 := bd_30_4 hB_G
    have b_2 : 0 ≤ (G.1 30 5).toInt ∧ (G.1 30 5).toInt ≤ 40 := bd_30_5 hB_G
    refine S_calli (va_runV (As := [.int p0]) (rest := []) ⟨hx, hb, hml, hown, hts⟩ (k_Wforce_1 l D k A a z G p0 hv_0_0 hv_0_1 hv_6_4 (by omega)) (cwV 1 hts (gd_V hgd m1202 m1203 m1204 m117 m1205) rfl rfl rfl hd_X11_force ⟨Nat.le_of_ble_eq_true rfl, Nat.le_of_ble_eq_true rfl⟩) (pre_W hW hB_G hK hZ hS kd_0 rfl) rfl rfl hl.1 rfl (lv_room (Nat.le_of_ble_eq_true rfl)) dL_law_1302 ⟨Nat.le_of_ble_eq_true rfl, Nat.le_of_ble_eq_true rfl⟩) hS (fun r_3 G_4 H locs hpo hW hS => ?_)
    have hX_7 : P_Wforce_1 p0 G r_3 G_4 := hpo
    obtain ⟨hB_G_4, hq_5, hp_6, -⟩ := hpo
    refine lv_pop hx hb dL_law_1305 rfl ?_
    refine lv_aload_n hx hb dL_law_1306 rfl (lv_at hl 2 rfl) ?_
    refine ld_1 hL hi0 hi6 hx hb hX hbl hbA hS hl dL_law_1307 dL_law_1308 dL_law_1309 dL_law_1310 dL_law_1311 hp0 ?_
    have b_8 : 0 ≤ (G.1 66 78).toInt ∧ (G.1 66 78).toInt ≤ 40 := bd_66_78 hB_G
    have g_9 : (G_4.1 66 78).toInt = (G.1 66 78).toInt := (congrArg Int32.toInt (show G_4.1 66 78 = (G.1 66 78) from (hq_5.i9 66 78 rfl rfl)))
    have b_10 : 0 ≤ (G.1 66 79).toInt ∧ (G.1 66 79).toInt ≤ 40 := bd_66_79 hB_G
    have g_11 : (G_4.1 66 79).toInt = (G.1 66 79).toInt := (congrArg Int32.toInt (show G_4.1 66 79 = (G.1 66 79) from (hq_5.i9 66 79 rfl rfl)))
    refine S_calli (va_runV (As := [.int p0]) (rest := []) ⟨hx, hb, hml, hown, hts⟩ (n_force l D k A a z G_4 p0 (by omega)) (cwV 1 hts (gd_V hgd m2003 m2004 m2005 m131 m2006) rfl rfl rfl hd_X12_force ⟨Nat.le_of_ble_eq_true rfl, Nat.le_of_ble_eq_true rfl⟩) (pre_W hW hB_G_4 hK hZ hS kd_66 rfl) rfl rfl hl.1 rfl (lv_room (Nat.le_of_ble_eq_true rfl)) dL_law_1312 ⟨Nat.le_of_ble_eq_true rfl, Nat.le_of_ble_eq_true rfl⟩) hS (fun r_12 G_13 H locs hpo hW hS => ?_)
    have hX_16 : Q_force p0 G_4 r_12 G_13 := hpo
    obtain ⟨hB_G_13, hq_14, hp_15, -⟩ := hpo
    obtain ⟨u_17, u_18⟩ := L_force_1 hX_7 hX_16 rfl (by omega)
    refine lv_pop hx hb dL_law_1315 rfl ?_
    refine lv_goto (tgt := 1641) hx hb dL_law_1316 rfl ?_
    have fr_19 : Fr [110, 111, 58, 59] [(30, 4), (30, 5), (66, 78), (66, 79)] G G_13 := (Fr.call9 (rs := [110, 111, 58, 59]) (fs := [(30, 4), (30, 5), (66, 78), (66, 79)]) (Fr.call9 (rs := [110, 111, 58, 59]) (fs := [(30, 4), (30, 5), (66, 78), (66, 79)]) Fr.rf hq_5 rfl rfl) hq_14 rfl rfl)
    have g_20 : gO G_13 = gO G := gO_fr fr_19 (gr_q rfl) (gf_q rfl)
    have g_21 : gP G_13 = gP G := gP_fr fr_19 (gr_q rfl) (gf_q rfl)
    have g_22 : gS G_13 = gS G := gS_fr fr_19 (gr_q rfl) (gf_q rfl)
    have g_23 : gTE G_13 = gTE G := gTE_fr fr_19 (gr_q rfl) (gf_q rfl)
    have g_24 : gW G_13 = gW G := gW_fr fr_19 (gr_q rfl) (gf_q rfl)
    have b_25 : 0 ≤ (G.1 0 11).toInt ∧ (G.1 0 11).toInt ≤ 1600 := bd_0_11 hB_G
    have g_26 : (G_13.1 0 11).toInt = (G.1 0 11).toInt := (congrArg Int32.toInt (show G_13.1 0 11 = (G.1 0 11) from ((hq_14.i9 0 11 rfl rfl).trans (hq_5.i9 0 11 rfl rfl))))
    have b_27 : 0 ≤ (G.1 3 7).toInt ∧ (G.1 3 7).toInt ≤ 4 := bd_3_7 hB_G
    have g_28 : (G_13.1 3 7).toInt = (G.1 3 7).toInt := (congrArg Int32.toInt (show G_13.1 3 7 = (G.1 3 7) from ((hq_14.i9 3 7 rfl rfl).trans (hq_5.i9 3 7 rfl rfl))))
    have b_29 : (-1) ≤ (G.1 3 8).toInt ∧ (G.1 3 8).toInt ≤ 1600 := bd_3_8 hB_G
    have g_30 : (G_13.1 3 8).toInt = (G.1 3 8).toInt := (congrArg Int32.toInt (show G_13.1 3 8 = (G.1 3 8) from ((hq_14.i9 3 8 rfl rfl).trans (hq_5.i9 3 8 rfl rfl))))
    have b_31 : 0 ≤ (G_4.1 30 4).toInt ∧ (G_4.1 30 4).toInt ≤ 40 := bd_30_4 hB_G_4
    have g_32 : (G_13.1 30 4).toInt = (G_4.1 30 4).toInt := (congrArg Int32.toInt (show G_13.1 30 4 = (G_4.1 30 4) from (hq_14.i9 30 4 rfl rfl)))
    have b_33 : 0 ≤ (G_4.1 30 5).toInt ∧ (G_4.1 30 5).toInt ≤ 40 := bd_30_5 hB_G_4
    have g_34 : (G_13.1 30 5).toInt = (G_4.1 30 5).toInt := (congrArg Int32.toInt (show G_13.1 30 5 = (G_4.1 30 5) from (hq_14.i9 30 5 rfl rfl)))
    have b_35 : 0 ≤ (G.1 31 6).toInt ∧ (G.1 31 6).toInt ≤ 100000 := bd_31_6 hB_G
    have g_36 : (G_13.1 31 6).toInt = (G.1 31 6).toInt := (congrArg Int32.toInt (show G_13.1 31 6 = (G.1 31 6) from ((hq_14.i9 31 6 rfl rfl).trans (hq_5.i9 31 6 rfl rfl))))
    have b_37 : 0 ≤ (G.1 66 1).toInt ∧ (G.1 66 1).toInt ≤ 1600 := bd_66_1 hB_G
    have g_38 : (G_13.1 66 1).toInt = (G.1 66 1).toInt := (congrArg Int32.toInt (show G_13.1 66 1 = (G.1 66 1) from ((hq_14.i9 66 1 rfl rfl).trans (hq_5.i9 66 1 rfl rfl))))
    have b_39 : 0 ≤ (G.1 66 2).toInt ∧ (G.1 66 2).toInt ≤ 4 := bd_66_2 hB_G
    have g_40 : (G_13.1 66 2).toInt = (G.1 66 2).toInt := (congrArg Int32.toInt (show G_13.1 66 2 = (G.1 66 2) from ((hq_14.i9 66 2 rfl rfl).trans (hq_5.i9 66 2 rfl rfl))))
    have b_41 : (-1) ≤ (G.1 66 3).toInt ∧ (G.1 66 3).toInt ≤ 1600 := bd_66_3 hB_G
    have g_42 : (G_13.1 66 3).toInt = (G.1 66 3).toInt := (congrArg Int32.toInt (show G_13.1 66 3 = (G.1 66 3) from ((hq_14.i9 66 3 rfl rfl).trans (hq_5.i9 66 3 rfl rfl))))
    have b_43 : 0 ≤ (G_13.1 66 78).toInt ∧ (G_13.1 66 78).toInt ≤ 40 := bd_66_78 hB_G_13
    have b_44 : 0 ≤ (G_13.1 66 79).toInt ∧ (G_13.1 66 79).toInt ≤ 40 := bd_66_79 hB_G_13
    have b_45 : 0 ≤ (G.1 66 86).toInt ∧ (G.1 66 86).toInt ≤ 100000 := bd_66_86 hB_G
    have g_46 : (G_13.1 66 86).toInt = (G.1 66 86).toInt := (congrArg Int32.toInt (show G_13.1 66 86 = (G.1 66 86) from ((hq_14.i9 66 86 rfl rfl).trans (hq_5.i9 66 86 rfl rfl))))
    have b_47 : 0 ≤ (G.1 96 0).toInt ∧ (G.1 96 0).toInt ≤ 9 := bd_96_0 hB_G
    have g_48 : (G_13.1 96 0).toInt = (G.1 96 0).toInt := (congrArg Int32.toInt (show G_13.1 96 0 = (G.1 96 0) from ((hq_14.i9 96 0 rfl rfl).trans (hq_5.i9 96 0 rfl rfl))))
    have b_49 : 0 ≤ (G.1 96 1).toInt ∧ (G.1 96 1).toInt ≤ 9 := bd_96_1 hB_G
    have g_50 : (G_13.1 96 1).toInt = (G.1 96 1).toInt := (congrArg Int32.toInt (show G_13.1 96 1 = (G.1 96 1) from ((hq_14.i9 96 1 rfl rfl).trans (hq_5.i9 96 1 rfl rfl))))
    have b_51 : 0 ≤ (G.1 96 2).toInt ∧ (G.1 96 2).toInt ≤ 9 := bd_96_2 hB_G
    have g_52 : (G_13.1 96 2).toInt = (G.1 96 2).toInt := (congrArg Int32.toInt (show G_13.1 96 2 = (G.1 96 2) from ((hq_14.i9 96 2 rfl rfl).trans (hq_5.i9 96 2 rfl rfl))))
    exact K G_13 _ _ _ (Or.inl ⟨((((hq_14.r9 0 0 rfl rfl).trans (hq_5.r9 0 0 rfl rfl))).trans (hv_0_0)), ((((hq_14.r9 0 1 rfl rfl).trans (hq_5.r9 0 1 rfl rfl))).trans (hv_0_1)), ((((hq_14.r9 6 4 rfl rfl).trans (hq_5.r9 6 4 rfl rfl))).trans (hv_6_4)), by omega, by omega, by omega, by omega, by omega, by omega, by omega, by omega, by omega, by omega, by omega, by omega, by omega⟩) hB_G_13 hW hS (lv_sub hl [0, 1, 2, 3] rfl)
  · skip
    obtain ⟨p0, hp0⟩ : ∃ y, y = xs (i0 + 1).toNatClampNeg := ⟨_, rfl⟩
    obtain ⟨p1, hp1⟩ : ∃ y, y = xs (i0 + 2).toNatClampNeg := ⟨_, rfl⟩
    obtain ⟨p2, hp2⟩ : ∃ y, y = xs (i0 + 3).toNatClampNeg := ⟨_, rfl⟩
    obtain ⟨p3, hp3⟩ : ∃ y, y = xs (i0 + 4).toNatClampNeg := ⟨_, rfl⟩
    obtain ⟨p4, hp4⟩ : ∃ y, y = xs (i0 + 5).toNatClampNeg := ⟨_, rfl⟩
    refine lv_aload_n hx hb dL_law_1296 rfl (lv_at hl 1 rfl) ?_
    refine ld_1 hL hi0 hi6 hx hb hX hbl hbA hS hl dL_law_1297 dL_law_1298 dL_law_1299 dL_law_1300 dL_law_1301 hp0 ?_
    have b_1 : 0 ≤ (G.1 30 4).toInt ∧ (G.1 30 4).toInt ≤ 40 := bd_30_4 hB_G
    have b_2 : 0 ≤ (G.1 30 5).toInt ∧ (G.1 30 5).toInt ≤ 40 := bd_30_5 hB_G
    refine S_calli (va_runV (As := [.int p0]) (rest := []) ⟨hx, hb, hml, hown, hts⟩ (k_Wforce_2 l D k A a z G p0 hv_0_0 hv_0_1 hv_6_4 (by omega)) (cwV 1 hts (gd_V hgd m1202 m1203 m1204 m117 m1205) rfl rfl rfl hd_X11_force ⟨Nat.le_of_ble_eq_true rfl, Nat.le_of_ble_eq_true rfl⟩) (pre_W hW hB_G hK hZ hS kd_0 rfl) rfl rfl hl.1 rfl (lv_room (Nat.le_of_ble_eq_true rfl)) dL_law_1302 ⟨Nat.le_of_ble_eq_true rfl, Nat.le_of_ble_eq_true rfl⟩) hS (fun r_3 G_4 H locs hpo hW hS => ?_)
    have hX_7 : P_Wforce_2 p0 G r_3 G_4 := hpo
    obtain ⟨hB_G_4, hq_5, hp_6, -⟩ := hpo
    refine lv_pop hx hb dL_law_1305 rfl ?_
    refine lv_aload_n hx hb dL_law_1306 rfl (lv_at hl 2 rfl) ?_
    refine ld_1 hL hi0 hi6 hx hb hX hbl hbA hS hl dL_law_1307 dL_law_1308 dL_law_1309 dL_law_1310 dL_law_1311 hp0 ?_
    have b_8 : 0 ≤ (G.1 66 78).toInt ∧ (G.1 66 78).toInt ≤ 40 := bd_66_78 hB_G
    have g_9 : (G_4.1 66 78).toInt = (G.1 66 78).toInt := (congrArg Int32.toInt (show G_4.1 66 78 = (G.1 66 78) from (hq_5.i9 66 78 rfl rfl)))
    have b_10 : 0 ≤ (G.1 66 79).toInt ∧ (G.1 66 79).toInt ≤ 40 := bd_66_79 hB_G
    have g_11 : (G_4.1 66 79).toInt = (G.1 66 79).toInt := (congrArg Int32.toInt (show G_4.1 66 79 = (G.1 66 79) from (hq_5.i9 66 79 rfl rfl)))
    refine S_calli (va_runV (As := [.int p0]) (rest := []) ⟨hx, hb, hml, hown, hts⟩ (n_force l D k A a z G_4 p0 (by omega)) (cwV 1 hts (gd_V hgd m2003 m2004 m2005 m131 m2006) rfl rfl rfl hd_X12_force ⟨Nat.le_of_ble_eq_true rfl, Nat.le_of_ble_eq_true rfl⟩) (pre_W hW hB_G_4 hK hZ hS kd_66 rfl) rfl rfl hl.1 rfl (lv_room (Nat.le_of_ble_eq_true rfl)) dL_law_1312 ⟨Nat.le_of_ble_eq_true rfl, Nat.le_of_ble_eq_true rfl⟩) hS (fun r_12 G_13 H locs hpo hW hS => ?_)
    have hX_16 : Q_force p0 G_4 r_12 G_13 := hpo
    obtain ⟨hB_G_13, hq_14, hp_15, -⟩ := hpo
    obtain ⟨u_17, u_18⟩ := L_force_2 hX_7 hX_16 rfl (by omega)
    refine lv_pop hx hb dL_law_1315 rfl ?_
    refine lv_goto (tgt := 1641) hx hb dL_law_1316 rfl ?_
    have fr_19 : Fr [110, 111, 58, 59] [(30, 4), (30, 5), (66, 78), (66, 79)] G G_13 := (Fr.call9 (rs := [110, 111, 58, 59]) (fs := [(30, 4), (30, 5), (66, 78), (66, 79)]) (Fr.call9 (rs := [110, 111, 58, 59]) (fs := [(30, 4), (30, 5), (66, 78), (66, 79)]) Fr.rf hq_5 rfl rfl) hq_14 rfl rfl)
    have g_20 : gO G_13 = gO G := gO_fr fr_19 (gr_q rfl) (gf_q rfl)
    have g_21 : gP G_13 = gP G := gP_fr fr_19 (gr_q rfl) (gf_q rfl)
    have g_22 : gS G_13 = gS G := gS_fr fr_19 (gr_q rfl) (gf_q rfl)
    have g_23 : gTE G_13 = gTE G := gTE_fr fr_19 (gr_q rfl) (gf_q rfl)
    have g_24 : gW G_13 = gW G := gW_fr fr_19 (gr_q rfl) (gf_q rfl)
    have b_25 : 0 ≤ (G.1 0 11).toInt ∧ (G.1 0 11).toInt ≤ 1600 := bd_0_11 hB_G
    have g_26 : (G_13.1 0 11).toInt = (G.1 0 11).toInt := (congrArg Int32.toInt (show G_13.1 0 11 = (G.1 0 11) from ((hq_14.i9 0 11 rfl rfl).trans (hq_5.i9 0 11 rfl rfl))))
    have b_27 : 0 ≤ (G.1 3 7).toInt ∧ (G.1 3 7).toInt ≤ 4 := bd_3_7 hB_G
    have g_28 : (G_13.1 3 7).toInt = (G.1 3 7).toInt := (congrArg Int32.toInt (show G_13.1 3 7 = (G.1 3 7) from ((hq_14.i9 3 7 rfl rfl).trans (hq_5.i9 3 7 rfl rfl))))
    have b_29 : (-1) ≤ (G.1 3 8).toInt ∧ (G.1 3 8).toInt ≤ 1600 := bd_3_8 hB_G
    have g_30 : (G_13.1 3 8).toInt = (G.1 3 8).toInt := (congrArg Int32.toInt (show G_13.1 3 8 = (G.1 3 8) from ((hq_14.i9 3 8 rfl rfl).trans (hq_5.i9 3 8 rfl rfl))))
    have b_31 : 0 ≤ (G_4.1 30 4).toInt ∧ (G_4.1 30 4).toInt ≤ 40 := bd_30_4 hB_G_4
    have g_32 : (G_13.1 30 4).toInt = (G_4.1 30 4).toInt := (congrArg Int32.toInt (show G_13.1 30 4 = (G_4.1 30 4) from (hq_14.i9 30 4 rfl rfl)))
    have b_33 : 0 ≤ (G_4.1 30 5).toInt ∧ (G_4.1 30 5).toInt ≤ 40 := bd_30_5 hB_G_4
    have g_34 : (G_13.1 30 5).toInt = (G_4.1 30 5).toInt := (congrArg Int32.toInt (show G_13.1 30 5 = (G_4.1 30 5) from (hq_14.i9 30 5 rfl rfl)))
    have b_35 : 0 ≤ (G.1 31 6).toInt ∧ (G.1 31 6).toInt ≤ 100000 := bd_31_6 hB_G
    have g_36 : (G_13.1 31 6).toInt = (G.1 31 6).toInt := (congrArg Int32.toInt (show G_13.1 31 6 = (G.1 31 6) from ((hq_14.i9 31 6 rfl rfl).trans (hq_5.i9 31 6 rfl rfl))))
    have b_37 : 0 ≤ (G.1 66 1).toInt ∧ (G.1 66 1).toInt ≤ 1600 := bd_66_1 hB_G
    have g_38 : (G_13.1 66 1).toInt = (G.1 66 1).toInt := (congrArg Int32.toInt (show G_13.1 66 1 = (G.1 66 1) from ((hq_14.i9 66 1 rfl rfl).trans (hq_5.i9 66 1 rfl rfl))))
    have b_39 : 0 ≤ (G.1 66 2).toInt ∧ (G.1 66 2).toInt ≤ 4 := bd_66_2 hB_G
    have g_40 : (G_13.1 66 2).toInt = (G.1 66 2).toInt := (congrArg Int32.toInt (show G_13.1 66 2 = (G.1 66 2) from ((hq_14.i9 66 2 rfl rfl).trans (hq_5.i9 66 2 rfl rfl))))
    have b_41 : (-1) ≤ (G.1 66 3).toInt ∧ (G.1 66 3).toInt ≤ 1600 := bd_66_3 hB_G
    have g_42 : (G_13.1 66 3).toInt = (G.1 66 3).toInt := (congrArg Int32.toInt (show G_13.1 66 3 = (G.1 66 3) from ((hq_14.i9 66 3 rfl rfl).trans (hq_5.i9 66 3 rfl rfl))))
    have b_43 : 0 ≤ (G_13.1 66 78).toInt ∧ (G_13.1 66 78).toInt ≤ 40 := bd_66_78 hB_G_13
    have b_44 : 0 ≤ (G_13.1 66 79).toInt ∧ (G_13.1 66 79).toInt ≤ 40 := bd_66_79 hB_G_13
    have b_45 : 0 ≤ (G.1 66 86).toInt ∧ (G.1 66 86).toInt ≤ 100000 := bd_66_86 hB_G
    have g_46 : (G_13.1 66 86).toInt = (G.1 66 86).toInt := (congrArg Int32.toInt (show G_13.1 66 86 = (G.1 66 86) from ((hq_14.i9 66 86 rfl rfl).trans (hq_5.i9 66 86 rfl rfl))))
    have b_47 : 0 ≤ (G.1 96 0).toInt ∧ (G.1 96 0).toInt ≤ 9 := bd_96_0 hB_G
    have g_48 : (G_13.1 96 0).toInt = (G.1 96 0).toInt := (congrArg Int32.toInt (show G_13.1 96 0 = (G.1 96 0) from ((hq_14.i9 96 0 rfl rfl).trans (hq_5.i9 96 0 rfl rfl))))
    have b_49 : 0 ≤ (G.1 96 1).toInt ∧ (G.1 96 1).toInt ≤ 9 := bd_96_1 hB_G
    have g_50 : (G_13.1 96 1).toInt = (G.1 96 1).toInt := (congrArg Int32.toInt (show G_13.1 96 1 = (G.1 96 1) from ((hq_14.i9 96 1 rfl rfl).trans (hq_5.i9 96 1 rfl rfl))))
    have b_51 : 0 ≤ (G.1 96 2).toInt ∧ (G.1 96 2).toInt ≤ 9 := bd_96_2 hB_G
    have g_52 : (G_13.1 96 2).toInt = (G.1 96 2).toInt := (congrArg Int32.toInt (show G_13.1 96 2 = (G.1 96 2) from ((hq_14.i9 96 2 rfl rfl).trans (hq_5.i9 96 2 rfl rfl))))
    exact K G_13 _ _ _ (Or.inr ⟨((((hq_14.r9 0 0 rfl rfl).trans (hq_5.r9 0 0 rfl rfl))).trans (hv_0_0)), ((((hq_14.r9 0 1 rfl rfl).trans (hq_5.r9 0 1 rfl rfl))).trans (hv_0_1)), ((((hq_14.r9 6 4 rfl rfl).trans (hq_5.r9 6 4 rfl rfl))).trans (hv_6_4)), by omega, by omega, by omega, by omega, by omega, by omega, by omega, by omega, by omega, by omega, by omega, by omega, by omega⟩) hB_G_13 hW hS (lv_sub hl [0, 1, 2, 3] rfl)

set_option maxHeartbeats 4000000 in
set_option maxRecDepth 100000 in
theorem law_25 {p : Program} {l : Launch} {e : Env} {s : State} {m : MethodId} {below : List Frame} {meth : Method} {c : Code} {D : va_G} {k : KT} {A : Nat → Prop} {a : Nat → Nat} {z : SK} {b L : Nat} {xs : Nat → Int32} (hL : L ≤ 3072) (C0 : lw_At p s m meth c b L xs) (hK : cK D k s) (hZ : Sx A z s) (hbA : ¬ A b) {G : GS} {i0 : Int32} (hi0 : 0 ≤ i0.toInt) (hi6 : i0.toInt + 6 ≤ L) (hI : LI G) (hB_G : Bd G) {H : Heap} {locs : List Loc} {ls : Array Slot} (hW : Wd D k A a G H) (hS : va_S A s.heap H locs) (hl : lv_has ls 4 [(0, .ref b), (1, .ref (a 0)), (2, .ref (a 66)), (3, .int i0)]) (K : ∀ (G1 : GS) (H1 : Heap) (locs1 : List Loc) (ls1 : Array Slot), LI G1 → Bd G1 → Wd D k A a G1 H1 → va_S A s.heap H1 locs1 → lv_has ls1 4 [(0, .ref b), (1, .ref (a 0)), (2, .ref (a 66)), (3, .int i0)] → W p l e room_1 s m #[Value.ref b] below meth c H1 locs1 119 46443 (lw_Z below #[Value.ref b] s) (F0 m 1641 ls1 [])) : W p l e room_1 s m #[Value.ref b] below meth c H locs 119 46443 (lw_Z below #[Value.ref b] s) (F0 m 1319 ls []) := by
  obtain ⟨hx, hb, hr, hml, hown, hts, hX, hbl, hlocks, hgv⟩ := id C0
  have hown : s.vm.findClass RL = some m.cls := hown
  have hgd : ∀ w ∈ gd, w ∈ lw_tbl := fun w h => (List.mem_filter.mp h).1
  have hg : ∀ w ∈ gd, w.before #[Value.ref b] s = true := fun w h => hts w (hgd w h)
  rcases hI with ⟨hv_0_0, hv_0_1, hv_6_4, hj0, hj1, hj2, hj3, hj4, hj5, hj6, hj7, hj8, hj9, hj10, hj11, hj12⟩ | ⟨hv_0_0, hv_0_1, hv_6_4, hj0, hj1, hj2, hj3, hj4, hj5, hj6, hj7, hj8, hj9, hj10, hj11, hj12⟩
  · skip
    obtain ⟨p0, hp0⟩ : ∃ y, y = xs (i0 + 1).toNatClampNeg := ⟨_, rfl⟩
    obtain ⟨p1, hp1⟩ : ∃ y, y = xs (i0 + 2).toNatClampNeg := ⟨_, rfl⟩
    obtain ⟨p2, hp2⟩ : ∃ y, y = xs (i0 + 3).toNatClampNeg := ⟨_, rfl⟩
    obtain ⟨p3, hp3⟩ : ∃ y, y = xs (i0 + 4).toNatClampNeg := ⟨_, rfl⟩
    obtain ⟨p4, hp4⟩ : ∃ y, y = xs (i0 + 5).toNatClampNeg := ⟨_, rfl⟩
    refine lv_aload_n hx hb dL_law_1319 rfl (lv_at hl 1 rfl) ?_
    refine S_calli (va_runV (As := []) (rest := []) ⟨hx, hb, hml, hown, hts⟩ (k_Wrain l D k A a z G  ) (cwV 0 hts (gd_V hgd m1210 m1211 m1212 m117 m1213) rfl rfl rfl hd_X11_rain ⟨Nat.le_of_ble_eq_true rfl, Nat.le_of_ble_eq_true rfl⟩) (pre_W hW hB_G hK hZ hS kd_0 rfl) rfl rfl hl.1 rfl (lv_room (Nat.le_of_ble_eq_true rfl)) dL_law_1320 ⟨Nat.le_of_ble_eq_true rfl, Nat.le_of_ble_eq_true rfl⟩) hS (fun r_1 G_2 H locs hpo hW hS => ?_)
    have hX_5 : P_Wrain G r_1 G_2 := hpo
    obtain ⟨hB_G_2, hq_3, f_6, hp_4, -⟩ := hpo
    refine lv_pop hx hb dL_law_1323 rfl ?_
    refine lv_aload_n hx hb dL_law_1324 rfl (lv_at hl 2 rfl) ?_
    have b_7 : 0 ≤ (G.1 66 78).toInt ∧ (G.1 66 78).toInt ≤ 40 := bd_66_78 hB_G
    have g_8 : (G_2.1 66 78).toInt = (G.1 66 78).toInt := (congrArg Int32.toInt (show G_2.1 66 78 = (G.1 66 78) from (hq_3.i9 66 78 rfl rfl)))
    have b_9 : 0 ≤ (G.1 66 79).toInt ∧ (G.1 66 79).toInt ≤ 40 := bd_66_79 hB_G
    have g_10 : (G_2.1 66 79).toInt = (G.1 66 79).toInt := (congrArg Int32.toInt (show G_2.1 66 79 = (G.1 66 79) from (hq_3.i9 66 79 rfl rfl)))
    refine S_calli (va_runV (As := []) (rest := []) ⟨hx, hb, hml, hown, hts⟩ (n_rain l D k A a z G_2  (by omega)) (cwV 0 hts (gd_V hgd m2011 m2012 m2013 m131 m2014) rfl rfl rfl hd_X12_rain ⟨Nat.le_of_ble_eq_true rfl, Nat.le_of_ble_eq_true rfl⟩) (pre_W hW hB_G_2 hK hZ hS kd_66 rfl) rfl rfl hl.1 rfl (lv_room (Nat.le_of_ble_eq_true rfl)) dL_law_1325 ⟨Nat.le_of_ble_eq_true rfl, Nat.le_of_ble_eq_true rfl⟩) hS (fun r_11 G_12 H locs hpo hW hS => ?_)
    have hX_15 : Q_rain G_2 r_11 G_12 := hpo
    obtain ⟨hB_G_12, hq_13, f_16, hp_14, -⟩ := hpo
    obtain ⟨u_17, u_18⟩ := L_rain_1 hX_5 hX_15  (by omega)
    refine lv_pop hx hb dL_law_1328 rfl ?_
    refine lv_goto (tgt := 1641) hx hb dL_law_1329 rfl ?_
    have fr_19 : Fr [110, 111, 58, 59] [(30, 4), (30, 5), (66, 78), (66, 79)] G G_12 := (Fr.call9 (rs := [110, 111, 58, 59]) (fs := [(30, 4), (30, 5), (66, 78), (66, 79)]) (Fr.call9 (rs := [110, 111, 58, 59]) (fs := [(30, 4), (30, 5), (66, 78), (66, 79)]) Fr.rf hq_3 rfl rfl) hq_13 rfl rfl)
    have g_20 : gO G_12 = gO G := gO_fr fr_19 (gr_q rfl) (gf_q rfl)
    have g_21 : gP G_12 = gP G := gP_fr fr_19 (gr_q rfl) (gf_q rfl)
    have g_22 : gS G_12 = gS G := gS_fr fr_19 (gr_q rfl) (gf_q rfl)
    have g_23 : gTE G_12 = gTE G := gTE_fr fr_19 (gr_q rfl) (gf_q rfl)
    have g_24 : gW G_12 = gW G := gW_fr fr_19 (gr_q rfl) (gf_q rfl)
    have b_25 : 0 ≤ (G.1 0 11).toInt ∧ (G.1 0 11).toInt ≤ 1600 := bd_0_11 hB_G
    have g_26 : (G_12.1 0 11).toInt = (G.1 0 11).toInt := (congrArg Int32.toInt (show G_12.1 0 11 = (G.1 0 11) from ((hq_13.i9 0 11 rfl rfl).trans (hq_3.i9 0 11 rfl rfl))))
    have b_27 : 0 ≤ (G.1 3 7).toInt ∧ (G.1 3 7).toInt ≤ 4 := bd_3_7 hB_G
    have g_28 : (G_12.1 3 7).toInt = (G.1 3 7).toInt := (congrArg Int32.toInt (show G_12.1 3 7 = (G.1 3 7) from ((hq_13.i9 3 7 rfl rfl).trans (hq_3.i9 3 7 rfl rfl))))
    have b_29 : (-1) ≤ (G.1 3 8).toInt ∧ (G.1 3 8).toInt ≤ 1600 := bd_3_8 hB_G
    have g_30 : (G_12.1 3 8).toInt = (G.1 3 8).toInt := (congrArg Int32.toInt (show G_12.1 3 8 = (G.1 3 8) from ((hq_13.i9 3 8 rfl rfl).trans (hq_3.i9 3 8 rfl rfl))))
    have b_31 : 0 ≤ (G_2.1 30 4).toInt ∧ (G_2.1 30 4).toInt ≤ 40 := bd_30_4 hB_G_2
    have g_32 : (G_12.1 30 4).toInt = (G_2.1 30 4).toInt := (congrArg Int32.toInt (show G_12.1 30 4 = (G_2.1 30 4) from (hq_13.i9 30 4 rfl rfl)))
    have b_33 : 0 ≤ (G_2.1 30 5).toInt ∧ (G_2.1 30 5).toInt ≤ 40 := bd_30_5 hB_G_2
    have g_34 : (G_12.1 30 5).toInt = (G_2.1 30 5).toInt := (congrArg Int32.toInt (show G_12.1 30 5 = (G_2.1 30 5) from (hq_13.i9 30 5 rfl rfl)))
    have b_35 : 0 ≤ (G.1 31 6).toInt ∧ (G.1 31 6).toInt ≤ 100000 := bd_31_6 hB_G
    have g_36 : (G_12.1 31 6).toInt = (G.1 31 6).toInt := (congrArg Int32.toInt (show G_12.1 31 6 = (G.1 31 6) from ((hq_13.i9 31 6 rfl rfl).trans (hq_3.i9 31 6 rfl rfl))))
    have b_37 : 0 ≤ (G.1 66 1).toInt ∧ (G.1 66 1).toInt ≤ 1600 := bd_66_1 hB_G
    have g_38 : (G_12.1 66 1).toInt = (G.1 66 1).toInt := (congrArg Int32.toInt (show G_12.1 66 1 = (G.1 66 1) from ((hq_13.i9 66 1 rfl rfl).trans (hq_3.i9 66 1 rfl rfl))))
    have b_39 : 0 ≤ (G.1 66 2).toInt ∧ (G.1 66 2).toInt ≤ 4 := bd_66_2 hB_G
    have g_40 : (G_12.1 66 2).toInt = (G.1 66 2).toInt := (congrArg Int32.toInt (show G_12.1 66 2 = (G.1 66 2) from ((hq_13.i9 66 2 rfl rfl).trans (hq_3.i9 66 2 rfl rfl))))
    have b_41 : (-1) ≤ (G.1 66 3).toInt ∧ (G.1 66 3).toInt ≤ 1600 := bd_66_3 hB_G
    have g_42 : (G_12.1 66 3).toInt = (G.1 66 3).toInt := (congrArg Int32.toInt (show G_12.1 66 3 = (G.1 66 3) from ((hq_13.i9 66 3 rfl rfl).trans (hq_3.i9 66 3 rfl rfl))))
    have b_43 : 0 ≤ (G_12.1 66 78).toInt ∧ (G_12.1 66 78).toInt ≤ 40 := bd_66_78 hB_G_12
    have b_44 : 0 ≤ (G_12.1 66 79).toInt ∧ (G_12.1 66 79).toInt ≤ 40 := bd_66_79 hB_G_12
    have b_45 : 0 ≤ (G.1 66 86).toInt ∧ (G.1 66 86).toInt ≤ 100000 := bd_66_86 hB_G
    have g_46 : (G_12.1 66 86).toInt = (G.1 66 86).toInt := (congrArg Int32.toInt (show G_12.1 66 86 = (G.1 66 86) from ((hq_13.i9 66 86 rfl rfl).trans (hq_3.i9 66 86 rfl rfl))))
    have b_47 : 0 ≤ (G.1 96 0).toInt ∧ (G.1 96 0).toInt ≤ 9 := bd_96_0 hB_G
    have g_48 : (G_12.1 96 0).toInt = (G.1 96 0).toInt := (congrArg Int32.toInt (show G_12.1 96 0 = (G.1 96 0) from ((hq_13.i9 96 0 rfl rfl).trans (hq_3.i9 96 0 rfl rfl))))
    have b_49 : 0 ≤ (G.1 96 1).toInt ∧ (G.1 96 1).toInt ≤ 9 := bd_96_1 hB_G
    have g_50 : (G_12.1 96 1).toInt = (G.1 96 1).toInt := (congrArg Int32.toInt (show G_12.1 96 1 = (G.1 96 1) from ((hq_13.i9 96 1 rfl rfl).trans (hq_3.i9 96 1 rfl rfl))))
    have b_51 : 0 ≤ (G.1 96 2).toInt ∧ (G.1 96 2).toInt ≤ 9 := bd_96_2 hB_G
    have g_52 : (G_12.1 96 2).toInt = (G.1 96 2).toInt := (congrArg Int32.toInt (show G_12.1 96 2 = (G.1 96 2) from ((hq_13.i9 96 2 rfl rfl).trans (hq_3.i9 96 2 rfl rfl))))
    exact K G_12 _ _ _ (Or.inl ⟨((((hq_13.r9 0 0 rfl rfl).trans (hq_3.r9 0 0 rfl rfl))).trans (hv_0_0)), ((((hq_13.r9 0 1 rfl rfl).trans (hq_3.r9 0 1 rfl rfl))).trans (hv_0_1)), ((((hq_13.r9 6 4 rfl rfl).trans (hq_3.r9 6 4 rfl rfl))).trans (hv_6_4)), by omega, by omega, by omega, by omega, by omega, by omega, by omega, by omega, by omega, by omega, by omega, by omega, by omega⟩) hB_G_12 hW hS (lv_sub hl [0, 1, 2, 3] rfl)
  · skip
    obtain ⟨p0, hp0⟩ : ∃ y, y = xs (i0 + 1).toNatClampNeg := ⟨_, rfl⟩
    obtain ⟨p1, hp1⟩ : ∃ y, y = xs (i0 + 2).toNatClampNeg := ⟨_, rfl⟩
    obtain ⟨p2, hp2⟩ : ∃ y, y = xs (i0 + 3).toNatClampNeg := ⟨_, rfl⟩
    obtain ⟨p3, hp3⟩ : ∃ y, y = xs (i0 + 4).toNatClampNeg := ⟨_, rfl⟩
    obtain ⟨p4, hp4⟩ : ∃ y, y = xs (i0 + 5).toNatClampNeg := ⟨_, rfl⟩
    refine lv_aload_n hx hb dL_law_1319 rfl (lv_at hl 1 rfl) ?_
    refine S_calli (va_runV (As := []) (rest := []) ⟨hx, hb, hml, hown, hts⟩ (k_Wrain l D k A a z G  ) (cwV 0 hts (gd_V hgd m1210 m1211 m1212 m117 m1213) rfl rfl rfl hd_X11_rain ⟨Nat.le_of_ble_eq_true rfl, Nat.le_of_ble_eq_true rfl⟩) (pre_W hW hB_G hK hZ hS kd_0 rfl) rfl rfl hl.1 rfl (lv_room (Nat.le_of_ble_eq_true rfl)) dL_law_1320 ⟨Nat.le_of_ble_eq_true rfl, Nat.le_of_ble_eq_true rfl⟩) hS (fun r_1 G_2 H locs hpo hW hS => ?_)
    have hX_5 : P_Wrain G r_1 G_2 := hpo
    obtain ⟨hB_G_2, hq_3, f_6, hp_4, -⟩ := hpo
    refine lv_pop hx hb dL_law_1323 rfl ?_
    refine lv_aload_n hx hb dL_law_1324 rfl (lv_at hl 2 rfl) ?_
    have b_7 : 0 ≤ (G.1 66 78).toInt ∧ (G.1 66 78).toInt ≤ 40 := bd_66_78 hB_G
    have g_8 : (G_2.1 66 78).toInt = (G.1 66 78).toInt := (congrArg Int32.toInt (show G_2.1 66 78 = (G.1 66 78) from (hq_3.i9 66 78 rfl rfl)))
    have b_9 : 0 ≤ (G.1 66 79).toInt ∧ (G.1 66 79).toInt ≤ 40 := bd_66_79 hB_G
    have g_10 : (G_2.1 66 79).toInt = (G.1 66 79).toInt := (congrArg Int32.toInt (show G_2.1 66 79 = (G.1 66 79) from (hq_3.i9 66 79 rfl rfl)))
    refine S_calli (va_runV (As := []) (rest := []) ⟨hx, hb, hml, hown, hts⟩ (n_rain l D k A a z G_2  (by omega)) (cwV 0 hts (gd_V hgd m2011 m2012 m2013 m131 m2014) rfl rfl rfl hd_X12_rain ⟨Nat.le_of_ble_eq_true rfl, Nat.le_of_ble_eq_true rfl⟩) (pre_W hW hB_G_2 hK hZ hS kd_66 rfl) rfl rfl hl.1 rfl (lv_room (Nat.le_of_ble_eq_true rfl)) dL_law_1325 ⟨Nat.le_of_ble_eq_true rfl, Nat.le_of_ble_eq_true rfl⟩) hS (fun r_11 G_12 H locs hpo hW hS => ?_)
    have hX_15 : Q_rain G_2 r_11 G_12 := hpo
    obtain ⟨hB_G_12, hq_13, f_16, hp_14, -⟩ := hpo
    obtain ⟨u_17, u_18⟩ := L_rain_2 hX_5 hX_15  (by omega)
    refine lv_pop hx hb dL_law_1328 rfl ?_
    refine lv_goto (tgt := 1641) hx hb dL_law_1329 rfl ?_
    have fr_19 : Fr [110, 111, 58, 59] [(30, 4), (30, 5), (66, 78), (66, 79)] G G_12 := (Fr.call9 (rs := [110, 111, 58, 59]) (fs := [(30, 4), (30, 5), (66, 78), (66, 79)]) (Fr.call9 (rs := [110, 111, 58, 59]) (fs := [(30, 4), (30, 5), (66, 78), (66, 79)]) Fr.rf hq_3 rfl rfl) hq_13 rfl rfl)
    have g_20 : gO G_12 = gO G := gO_fr fr_19 (gr_q rfl) (gf_q rfl)
    have g_21 : gP G_12 = gP G := gP_fr fr_19 (gr_q rfl) (gf_q rfl)
    have g_22 : gS G_12 = gS G := gS_fr fr_19 (gr_q rfl) (gf_q rfl)
    have g_23 : gTE G_12 = gTE G := gTE_fr fr_19 (gr_q rfl) (gf_q rfl)
    have g_24 : gW G_12 = gW G := gW_fr fr_19 (gr_q rfl) (gf_q rfl)
    have b_25 : 0 ≤ (G.1 0 11).toInt ∧ (G.1 0 11).toInt ≤ 1600 := bd_0_11 hB_G
    have g_26 : (G_12.1 0 11).toInt = (G.1 0 11).toInt := (congrArg Int32.toInt (show G_12.1 0 11 = (G.1 0 11) from ((hq_13.i9 0 11 rfl rfl).trans (hq_3.i9 0 11 rfl rfl))))
    have b_27 : 0 ≤ (G.1 3 7).toInt ∧ (G.1 3 7).toInt ≤ 4 := bd_3_7 hB_G
    have g_28 : (G_12.1 3 7).toInt = (G.1 3 7).toInt := (congrArg Int32.toInt (show G_12.1 3 7 = (G.1 3 7) from ((hq_13.i9 3 7 rfl rfl).trans (hq_3.i9 3 7 rfl rfl))))
    have b_29 : (-1) ≤ (G.1 3 8).toInt ∧ (G.1 3 8).toInt ≤ 1600 := bd_3_8 hB_G
    have g_30 : (G_12.1 3 8).toInt = (G.1 3 8).toInt := (congrArg Int32.toInt (show G_12.1 3 8 = (G.1 3 8) from ((hq_13.i9 3 8 rfl rfl).trans (hq_3.i9 3 8 rfl rfl))))
    have b_31 : 0 ≤ (G_2.1 30 4).toInt ∧ (G_2.1 30 4).toInt ≤ 40 := bd_30_4 hB_G_2
    have g_32 : (G_12.1 30 4).toInt = (G_2.1 30 4).toInt := (congrArg Int32.toInt (show G_12.1 30 4 = (G_2.1 30 4) from (hq_13.i9 30 4 rfl rfl)))
    have b_33 : 0 ≤ (G_2.1 30 5).toInt ∧ (G_2.1 30 5).toInt ≤ 40 := bd_30_5 hB_G_2
    have g_34 : (G_12.1 30 5).toInt = (G_2.1 30 5).toInt := (congrArg Int32.toInt (show G_12.1 30 5 = (G_2.1 30 5) from (hq_13.i9 30 5 rfl rfl)))
    have b_35 : 0 ≤ (G.1 31 6).toInt ∧ (G.1 31 6).toInt ≤ 100000 := bd_31_6 hB_G
    have g_36 : (G_12.1 31 6).toInt = (G.1 31 6).toInt := (congrArg Int32.toInt (show G_12.1 31 6 = (G.1 31 6) from ((hq_13.i9 31 6 rfl rfl).trans (hq_3.i9 31 6 rfl rfl))))
    have b_37 : 0 ≤ (G.1 66 1).toInt ∧ (G.1 66 1).toInt ≤ 1600 := bd_66_1 hB_G
    have g_38 : (G_12.1 66 1).toInt = (G.1 66 1).toInt := (congrArg Int32.toInt (show G_12.1 66 1 = (G.1 66 1) from ((hq_13.i9 66 1 rfl rfl).trans (hq_3.i9 66 1 rfl rfl))))
    have b_39 : 0 ≤ (G.1 66 2).toInt ∧ (G.1 66 2).toInt ≤ 4 := bd_66_2 hB_G
    have g_40 : (G_12.1 66 2).toInt = (G.1 66 2).toInt := (congrArg Int32.toInt (show G_12.1 66 2 = (G.1 66 2) from ((hq_13.i9 66 2 rfl rfl).trans (hq_3.i9 66 2 rfl rfl))))
    have b_41 : (-1) ≤ (G.1 66 3).toInt ∧ (G.1 66 3).toInt ≤ 1600 := bd_66_3 hB_G
    have g_42 : (G_12.1 66 3).toInt = (G.1 66 3).toInt := (congrArg Int32.toInt (show G_12.1 66 3 = (G.1 66 3) from ((hq_13.i9 66 3 rfl rfl).trans (hq_3.i9 66 3 rfl rfl))))
    have b_43 : 0 ≤ (G_12.1 66 78).toInt ∧ (G_12.1 66 78).toInt ≤ 40 := bd_66_78 hB_G_12
    have b_44 : 0 ≤ (G_12.1 66 79).toInt ∧ (G_12.1 66 79).toInt ≤ 40 := bd_66_79 hB_G_12
    have b_45 : 0 ≤ (G.1 66 86).toInt ∧ (G.1 66 86).toInt ≤ 100000 := bd_66_86 hB_G
    have g_46 : (G_12.1 66 86).toInt = (G.1 66 86).toInt := (congrArg Int32.toInt (show G_12.1 66 86 = (G.1 66 86) from ((hq_13.i9 66 86 rfl rfl).trans (hq_3.i9 66 86 rfl rfl))))
    have b_47 : 0 ≤ (G.1 96 0).toInt ∧ (G.1 96 0).toInt ≤ 9 := bd_96_0 hB_G
    have g_48 : (G_12.1 96 0).toInt = (G.1 96 0).toInt := (congrArg Int32.toInt (show G_12.1 96 0 = (G.1 96 0) from ((hq_13.i9 96 0 rfl rfl).trans (hq_3.i9 96 0 rfl rfl))))
    have b_49 : 0 ≤ (G.1 96 1).toInt ∧ (G.1 96 1).toInt ≤ 9 := bd_96_1 hB_G
    have g_50 : (G_12.1 96 1).toInt = (G.1 96 1).toInt := (congrArg Int32.toInt (show G_12.1 96 1 = (G.1 96 1) from ((hq_13.i9 96 1 rfl rfl).trans (hq_3.i9 96 1 rfl rfl))))
    have b_51 : 0 ≤ (G.1 96 2).toInt ∧ (G.1 96 2).toInt ≤ 9 := bd_96_2 hB_G
    have g_52 : (G_12.1 96 2).toInt = (G.1 96 2).toInt := (congrArg Int32.toInt (show G_12.1 96 2 = (G.1 96 2) from ((hq_13.i9 96 2 rfl rfl).trans (hq_3.i9 96 2 rfl rfl))))
    exact K G_12 _ _ _ (Or.inr ⟨((((hq_13.r9 0 0 rfl rfl).trans (hq_3.r9 0 0 rfl rfl))).trans (hv_0_0)), ((((hq_13.r9 0 1 rfl rfl).trans (hq_3.r9 0 1 rfl rfl))).trans (hv_0_1)), ((((hq_13.r9 6 4 rfl rfl).trans (hq_3.r9 6 4 rfl rfl))).trans (hv_6_4)), by omega, by omega, by omega, by omega, by omega, by omega, by omega, by omega, by omega, by omega, by omega, by omega, by omega⟩) hB_G_12 hW hS (lv_sub hl [0, 1, 2, 3] rfl)
