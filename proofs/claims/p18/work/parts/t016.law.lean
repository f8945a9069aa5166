theorem m1162 : Cond.methodLink RL 104 yX11_leave ∈ gd := gd_mem 1162 (by decide +kernel) (by decide +kernel)
theorem m1163 : Cond.instanceMethod yX11_leave ∈ gd := gd_mem 1163 (by decide +kernel) (by decide +kernel)
theorem m1164 : Cond.selects RX11 yX11_leave yX11_leave ∈ gd := gd_mem 1164 (by decide +kernel) (by decide +kernel)
theorem m1165 : Cond.code yX11_leave cX11_leave 5 (some .int) ∈ gd := gd_mem 1165 (by decide +kernel) (by decide +kernel)
theorem m1166 : Cond.methodLink RL 109 yX11_walk ∈ gd := gd_mem 1166 (by decide +kernel) (by decide +kernel)
theorem m1167 : Cond.instanceMethod yX11_walk ∈ gd := gd_mem 1167 (by decide +kernel) (by decide +kernel)
theorem m1168 : Cond.selects RX11 yX11_walk yX11_walk ∈ gd := gd_mem 1168 (by decide +kernel) (by decide +kernel)
theorem m1169 : Cond.code yX11_walk cX11_walk 4 (some .int) ∈ gd := gd_mem 1169 (by decide +kernel) (by decide +kernel)
theorem m1182 : Cond.methodLink RL 113 yX11_go ∈ gd := gd_mem 1182 (by decide +kernel) (by decide +kernel)
theorem m1183 : Cond.instanceMethod yX11_go ∈ gd := gd_mem 1183 (by decide +kernel) (by decide +kernel)
theorem m1184 : Cond.selects RX11 yX11_go yX11_go ∈ gd := gd_mem 1184 (by decide +kernel) (by decide +kernel)
theorem m1185 : Cond.code yX11_go cX11_go 5 (some .int) ∈ gd := gd_mem 1185 (by decide +kernel) (by decide +kernel)
theorem m1202 : Cond.methodLink RL 117 yX11_force ∈ gd := gd_mem 1202 (by decide +kernel) (by decide +kernel)
theorem m1203 : Cond.instanceMethod yX11_force ∈ gd := gd_mem 1203 (by decide +kernel) (by decide +kernel)
theorem m1204 : Cond.selects RX11 yX11_force yX11_force ∈ gd := gd_mem 1204 (by decide +kernel) (by decide +kernel)
theorem m1205 : Cond.code yX11_force cX11_force 2 (some .int) ∈ gd := gd_mem 1205 (by decide +kernel) (by decide +kernel)
theorem m1983 : Cond.methodLink RL 108 yX12_leave ∈ gd := gd_mem 1983 (by decide +kernel) (by decide +kernel)
theorem m1984 : Cond.instanceMethod yX12_leave ∈ gd := gd_mem 1984 (by decide +kernel) (by decide +kernel)
theorem m1985 : Cond.selects RX12 yX12_leave yX12_leave ∈ gd := gd_mem 1985 (by decide +kernel) (by decide +kernel)
theorem m1986 : Cond.code yX12_leave cX12_leave 5 (some .int) ∈ gd := gd_mem 1986 (by decide +kernel) (by decide +kernel)
theorem m1987 : Cond.methodLink RL 112 yX12_walk ∈ gd := gd_mem 1987 (by decide +kernel) (by decide +kernel)
theorem m1988 : Cond.instanceMethod yX12_walk ∈ gd := gd_mem 1988 (by decide +kernel) (by decide +kernel)
theorem m1989 : Cond.selects RX12 yX12_walk yX12_walk ∈ gd := gd_mem 1989 (by decide +kernel) (by decide +kernel)
theorem m1990 : Cond.code yX12_walk cX12_walk 4 (some .int) ∈ gd := gd_mem 1990 (by decide +kernel) (by decide +kernel)
theorem m1999 : Cond.methodLink RL 116 yX12_go ∈ gd := gd_mem 1999 (by decide +kernel) (by decide +kernel)
theorem m2000 : Cond.instanceMethod yX12_go ∈ gd := gd_mem 2000 (by decide +kernel) (by decide +kernel)
theorem m2001 : Cond.selects RX12 yX12_go yX12_go ∈ gd := gd_mem 2001 (by decide +kernel) (by decide +kernel)
theorem m2002 : Cond.code yX12_go cX12_go 5 (some .int) ∈ gd := gd_mem 2002 (by decide +kernel) (by decide +kernel)
theorem m2003 : Cond.methodLink RL 120 yX12_force ∈ gd := gd_mem 2003 (by decide +kernel) (by decide +kernel)
theorem m2004 : Cond.instanceMethod yX12_force ∈ gd := gd_mem 2004 (by decide +kernel) (by decide +kernel)
theorem m2005 : Cond.selects RX12 yX12_force yX12_force ∈ gd := gd_mem 2005 (by decide +kernel) (by decide +kernel)
theorem m2006 : Cond.code yX12_force cX12_force 2 (some .int) ∈ gd := gd_mem 2006 (by decide +kernel) (by decide +kernel)
theorem dL_law_1198 : decode cL_law 1198 = .ok (.aload_n 1, 1) := by decide +kernel
theorem dL_law_1199 : decode cL_law 1199 = .ok (.aload_n 0, 1) := by decide +kernel
theorem dL_law_1200 : decode cL_law 1200 = .ok (.iload_n 3, 1) := by decide +kernel
theorem dL_law_1201 : decode cL_law 1201 = .ok (.iconst 1, 1) := by decide +kernel
theorem dL_law_1202 : decode cL_law 1202 = .ok (.iadd, 1) := by decide +kernel
theorem dL_law_1203 : decode cL_law 1203 = .ok (.iaload, 1) := by decide +kernel
theorem dL_law_1204 : decode cL_law 1204 = .ok (.aload_n 0, 1) := by decide +kernel
theorem dL_law_1205 : decode cL_law 1205 = .ok (.iload_n 3, 1) := by decide +kernel
theorem dL_law_1206 : decode cL_law 1206 = .ok (.iconst 2, 1) := by decide +kernel
theorem dL_law_1207 : decode cL_law 1207 = .ok (.iadd, 1) := by decide +kernel
theorem dL_law_1208 : decode cL_law 1208 = .ok (.iaload, 1) := by decide +kernel
theorem dL_law_1209 : decode cL_law 1209 = .ok (.invokevirtual 104, 3) := by decide +kernel
theorem dL_law_1212 : decode cL_law 1212 = .ok (.pop, 1) := by decide +kernel
theorem dL_law_1213 : decode cL_law 1213 = .ok (.aload_n 2, 1) := by decide +kernel
theorem dL_law_1214 : decode cL_law 1214 = .ok (.aload_n 0, 1) := by decide +kernel
theorem dL_law_1215 : decode cL_law 1215 = .ok (.iload_n 3, 1) := by decide +kernel
theorem dL_law_1216 : decode cL_law 1216 = .ok (.iconst 1, 1) := by decide +kernel
theorem dL_law_1217 : decode cL_law 1217 = .ok (.iadd, 1) := by decide +kernel
theorem dL_law_1218 : decode cL_law 1218 = .ok (.iaload, 1) := by decide +kernel
theorem dL_law_1219 : decode cL_law 1219 = .ok (.aload_n 0, 1) := by decide +kernel
theorem dL_law_1220 : decode cL_law 1220 = .ok (.iload_n 3, 1) := by decide +kernel
theorem dL_law_1221 : decode cL_law 1221 = .ok (.iconst 2, 1) := by decide +kernel
theorem dL_law_1222 : decode cL_law 1222 = .ok (.iadd, 1) := by decide +kernel
theorem dL_law_1223 : decode cL_law 1223 = .ok (.iaload, 1) := by decide +kernel
theorem dL_law_1224 : decode cL_law 1224 = .ok (.invokevirtual 108, 3) := by decide +kernel
theorem dL_law_1227 : decode cL_law 1227 = .ok (.pop, 1) := by decide +kernel
theorem dL_law_1228 : decode cL_law 1228 = .ok (.goto 414, 3) := by decide +kernel
theorem dL_law_1231 : decode cL_law 1231 = .ok (.aload_n 1, 1) := by decide +kernel
theorem dL_law_1232 : decode cL_law 1232 = .ok (.aload_n 0, 1) := by decide +kernel
theorem dL_law_1233 : decode cL_law 1233 = .ok (.iload_n 3, 1) := by decide +kernel
theorem dL_law_1234 : decode cL_law 1234 = .ok (.iconst 1, 1) := by decide +kernel
theorem dL_law_1235 : decode cL_law 1235 = .ok (.iadd, 1) := by decide +kernel
theorem dL_law_1236 : decode cL_law 1236 = .ok (.iaload, 1) := by decide +kernel
theorem dL_law_1237 : decode cL_law 1237 = .ok (.aload_n 0, 1) := by decide +kernel
theorem dL_law_1238 : decode cL_law 1238 = .ok (.iload_n 3, 1) := by decide +kernel
theorem dL_law_1239 : decode cL_law 1239 = .ok (.iconst 2, 1) := by decide +kernel
theorem dL_law_1240 : decode cL_law 1240 = .ok (.iadd, 1) := by decide +kernel
theorem dL_law_1241 : decode cL_law 1241 = .ok (.iaload, 1) := by decide +kernel
theorem dL_law_1242 : decode cL_law 1242 = .ok (.aload_n 0, 1) := by decide +kernel
theorem dL_law_1243 : decode cL_law 1243 = .ok (.iload_n 3, 1) := by decide +kernel
theorem dL_law_1244 : decode cL_law 1244 = .ok (.iconst 3, 1) := by decide +kernel
theorem dL_law_1245 : decode cL_law 1245 = .ok (.iadd, 1) := by decide +kernel
theorem dL_law_1246 : decode cL_law 1246 = .ok (.iaload, 1) := by decide +kernel
theorem dL_law_1247 : decode cL_law 1247 = .ok (.invokevirtual 109, 3) := by decide +kernel
theorem dL_law_1250 : decode cL_law 1250 = .ok (.pop, 1) := by decide +kernel
theorem dL_law_1251 : decode cL_law 1251 = .ok (.aload_n 2, 1) := by decide +kernel
theorem dL_law_1252 : decode cL_law 1252 = .ok (.aload_n 0, 1) := by decide +kernel
theorem dL_law_1253 : decode cL_law 1253 = .ok (.iload_n 3, 1) := by decide +kernel
theorem dL_law_1254 : decode cL_law 1254 = .ok (.iconst 1, 1) := by decide +kernel
theorem dL_law_1255 : decode cL_law 1255 = .ok (.iadd, 1) := by decide +kernel
theorem dL_law_1256 : decode cL_law 1256 = .ok (.iaload, 1) := by decide +kernel
theorem dL_law_1257 : decode cL_law 1257 = .ok (.aload_n 0, 1) := by decide +kernel
theorem dL_law_1258 : decode cL_law 1258 = .ok (.iload_n 3, 1) := by decide +kernel
theorem dL_law_1259 : decode cL_law 1259 = .ok (.iconst 2, 1) := by decide +kernel
theorem dL_law_1260 : decode cL_law 1260 = .ok (.iadd, 1) := by decide +kernel
theorem dL_law_1261 : decode cL_law 1261 = .ok (.iaload, 1) := by decide +kernel
theorem dL_law_1262 : decode cL_law 1262 = .ok (.aload_n 0, 1) := by decide +kernel
theorem dL_law_1263 : decode cL_law 1263 = .ok (.iload_n 3, 1) := by decide +kernel
theorem dL_law_1264 : decode cL_law 1264 = .ok (.iconst 3, 1) := by decide +kernel
theorem dL_law_1265 : decode cL_law 1265 = .ok (.iadd, 1) := by decide +kernel
theorem dL_law_1266 : decode cL_law 1266 = .ok (.iaload, 1) := by decide +kernel
theorem dL_law_1267 : decode cL_law 1267 = .ok (.invokevirtual 112, 3) := by decide +kernel
theorem dL_law_1270 : decode cL_law 1270 = .ok (.pop, 1) := by decide +kernel
theorem dL_law_1271 : decode cL_law 1271 = .ok (.goto 371, 3) := by decide +kernel
theorem dL_law_1274 : decode cL_law 1274 = .ok (.aload_n 1, 1) := by decide +kernel
theorem dL_law_1275 : decode cL_law 1275 = .ok (.aload_n 0, 1) := by decide +kernel
theorem dL_law_1276 : decode cL_law 1276 = .ok (.iload_n 3, 1) := by decide +kernel
theorem dL_law_1277 : decode cL_law 1277 = .ok (.iconst 1, 1) := by decide +kernel
theorem dL_law_1278 : decode cL_law 1278 = .ok (.iadd, 1) := by decide +kernel
theorem dL_law_1279 : decode cL_law 1279 = .ok (.iaload, 1) := by decide +kernel
theorem dL_law_1280 : decode cL_law 1280 = .ok (.invokevirtual 113, 3) := by decide +kernel
theorem dL_law_1283 : decode cL_law 1283 = .ok (.pop, 1) := by decide +kernel
theorem dL_law_1284 : decode cL_law 1284 = .ok (.aload_n 2, 1) := by decide +kernel
theorem dL_law_1285 : decode cL_law 1285 = .ok (.aload_n 0, 1) := by decide +kernel
theorem dL_law_1286 : decode cL_law 1286 = .ok (.iload_n 3, 1) := by decide +kernel
theorem dL_law_1287 : decode cL_law 1287 = .ok (.iconst 1, 1) := by decide +kernel
theorem dL_law_1288 : decode cL_law 1288 = .ok (.iadd, 1) := by decide +kernel
theorem dL_law_1289 : decode cL_law 1289 = .ok (.iaload, 1) := by decide +kernel
theorem dL_law_1290 : decode cL_law 1290 = .ok (.invokevirtual 116, 3) := by decide +kernel
theorem dL_law_1293 : decode cL_law 1293 = .ok (.pop, 1) := by decide +kernel
theorem dL_law_1294 : decode cL_law 1294 = .ok (.goto 348, 3) := by decide +kernel
theorem dL_law_1297 : decode cL_law 1297 = .ok (.aload_n 1, 1) := by decide +kernel
theorem dL_law_1298 : decode cL_law 1298 = .ok (.aload_n 0, 1) := by decide +kernel
theorem dL_law_1299 : decode cL_law 1299 = .ok (.iload_n 3, 1) := by decide +kernel
theorem dL_law_1300 : decode cL_law 1300 = .ok (.iconst 1, 1) := by decide +kernel
theorem dL_law_1301 : decode cL_law 1301 = .ok (.iadd, 1) := by decide +kernel
theorem dL_law_1302 : decode cL_law 1302 = .ok (.iaload, 1) := by decide +kernel
theorem dL_law_1303 : decode cL_law 1303 = .ok (.invokevirtual 117, 3) := by decide +kernel
theorem dL_law_1306 : decode cL_law 1306 = .ok (.pop, 1) := by decide +kernel
theorem dL_law_1307 : decode cL_law 1307 = .ok (.aload_n 2, 1) := by decide +kernel
theorem dL_law_1308 : decode cL_law 1308 = .ok (.aload_n 0, 1) := by decide +kernel
theorem dL_law_1309 : decode cL_law 1309 = .ok (.iload_n 3, 1) := by decide +kernel
theorem dL_law_1310 : decode cL_law 1310 = .ok (.iconst 1, 1) := by decide +kernel
theorem dL_law_1311 : decode cL_law 1311 = .ok (.iadd, 1) := by decide +kernel
theorem dL_law_1312 : decode cL_law 1312 = .ok (.iaload, 1) := by decide +kernel
theorem dL_law_1313 : decode cL_law 1313 = .ok (.invokevirtual 120, 3) := by decide +kernel
theorem dL_law_1316 : decode cL_law 1316 = .ok (.pop, 1) := by decide +kernel
theorem dL_law_1317 : decode cL_law 1317 = .ok (.goto 325, 3) := by decide +kernel
set_option maxHeartbeats 4000000 in
set_option maxRecDepth 100000 in
theorem law_21 {p : Program} {l : Launch} {e : Env} {s : State} {m : MethodId} {below : List Frame} {meth : Method} {c : Code} {D : va_G} {k : KT} {A : Nat → Prop} {a : Nat → Nat} {z : SK} {b L : Nat} {xs : Nat → Int32} (hL : L ≤ 3072) (C0 : lw_At p s m meth c b L xs) (hK : cK D k s) (hZ : Sx A z s) (hbA : ¬ A b) (hA : ∀ q : Nat, s.heap.size ≤ q → A q) {G : GS} {i0 : Int32} (hi0 : 0 ≤ i0.toInt) (hi6 : i0.toInt + 6 ≤ L) (hI : LI G) (hB_G : Bd G) {H : Heap} {locs : List Loc} {ls : Array Slot} (hW : Wd D k A a G H) (hS : va_S A s.heap H locs) (hl : lv_has ls 4 [(0, .ref b), (1, .ref (a 0)), (2, .ref (a 66)), (3, .int i0)]) (K : ∀ (G1 : GS) (H1 : Heap) (locs1 : List Loc) (ls1 : Array Slot), LI G1 → Bd G1 → Wd D k A a G1 H1 → va_S A s.heap H1 locs1 → lv_has ls1 4 [(0, .ref b), (1, .ref (a 0)), (2, .ref (a 66)), (3, .int i0)] → W p l e room_1 s m #[Value.ref b] below meth c H1 locs1 119 46443 (lw_Z below #[Value.ref b] s) (F0 m 1642 ls1 [])) : W p l e room_1 s m #[Value.ref b] below meth c H locs 119 46443 (lw_Z below #[Value.ref b] s) (F0 m 1198 ls []) := by
  obtain ⟨hx, hb, hr, hml, hown, hts, hX, hbl, hlocks, hgv⟩ := id C0
  have hown : s.vm.findClass RL = some m.cls := hown
  have hgd : ∀ w ∈ gd, w ∈ lw_tbl := fun w h => (List.mem_filter.mp h).1
  have hg : ∀ w ∈ gd, w.before #[Value.ref b] s = true := fun w h => hts w (hgd w h)
  rcases hI with ⟨hv_0_0, hv_0_1, hv_6_4, hj0, hj1, hj2, hj3, hj4, hj5, hj6, hj7, hj8⟩ | ⟨hv_0_0, hv_0_1, hv_6_4, hj0, hj1, hj2, hj3, hj4, hj5, hj6, hj7, hj8⟩
  · skip
    refine lv_aload_n hx hb dL_law_1198 rfl (lv_at hl 1 rfl) ?_
    refine lv_aload_n hx hb dL_law_1199 rfl (lv_at hl 0 rfl) ?_
    refine lv_iload_n hx hb dL_law_1200 rfl (lv_at hl 3 rfl) ?_
    refine lv_iconst (v := 1) hx hb dL_law_1201 (by decide) ?_
    refine lv_iadd hx hb dL_law_1202 ?_
    refine lv_topi (fun y_1 ey_1 => ?_)
    have ty_1 : y_1.toInt = i0.toInt + 1 := xI_add rfl rfl ey_1 (by omega) (by omega)
    refine va_sld hx hb hX hbl hbA hS (vin (by omega) (by omega)) dL_law_1203 ?_
    refine lv_topi (fun y_2 ey_2 => ?_)
    have u_3 : y_2.toInt = (xs (i0 + 1).toNatClampNeg).toInt := by rw [ey_2, ey_1]
    refine lv_aload_n hx hb dL_law_1204 rfl (lv_at hl 0 rfl) ?_
    refine lv_iload_n hx hb dL_law_1205 rfl (lv_at hl 3 rfl) ?_
    refine lv_iconst (v := 2) hx hb dL_law_1206 (by decide) ?_
    refine lv_iadd hx hb dL_law_1207 ?_
    refine lv_topi (fun y_4 ey_4 => ?_)
    have ty_4 : y_4.toInt = i0.toInt + 2 := xI_add rfl rfl ey_4 (by omega) (by omega)
    refine va_sld hx hb hX hbl hbA hS (vin (by omega) (by omega)) dL_law_1208 ?_
    refine lv_topi (fun y_5 ey_5 => ?_)
    have u_6 : y_5.toInt = (xs (i0 + 2).toNatClampNeg).toInt := by rw [ey_5, ey_4]
    refine S_calli (va_runV (As := [.int y_2, .int y_5]) (rest := []) ⟨hx, hb, hml, hown, hts⟩ (k_Wleave_1 l D k A a z G y_2 y_5 hv_0_0 hv_0_1 hv_6_4) (cwV 2 hts (gd_V hgd m1162 m1163 m1164 m117 m1165) rfl rfl rfl (by decide +kernel) ⟨Nat.le_of_ble_eq_true rfl, Nat.le_of_ble_eq_true rfl⟩) (pre_V hW hB_G hK hZ hS kd_0 rfl) rfl rfl hl.1 rfl (lv_room (Nat.le_of_ble_eq_true rfl)) dL_law_1209 ⟨Nat.le_of_ble_eq_true rfl, Nat.le_of_ble_eq_true rfl⟩) hS (fun r_7 G_8 H locs hpo hW hS => ?_)
    obtain ⟨hB_G_8, hq_9⟩ := hpo
    refine lv_pop hx hb dL_law_1212 rfl ?_
    refine lv_aload_n hx hb dL_law_1213 rfl (lv_at hl 2 rfl) ?_
    refine lv_aload_n hx hb dL_law_1214 rfl (lv_at hl 0 rfl) ?_
    refine lv_iload_n hx hb dL_law_1215 rfl (lv_at hl 3 rfl) ?_
    refine lv_iconst (v := 1) hx hb dL_law_1216 (by decide) ?_
    refine lv_iadd hx hb dL_law_1217 ?_
    refine lv_topi (fun y_11 ey_11 => ?_)
    have ty_11 : y_11.toInt = i0.toInt + 1 := xI_add rfl rfl ey_11 (by omega) (by omega)
    refine va_sld hx hb hX hbl hbA hS (vin (by omega) (by omega)) dL_law_1218 ?_
    refine lv_topi (fun y_12 ey_12 => ?_)
    have u_13 : y_12.toInt = (xs (i0 + 1).toNatClampNeg).toInt := by rw [ey_12, ey_11]
    refine lv_aload_n hx hb dL_law_1219 rfl (lv_at hl 0 rfl) ?_
    refine lv_iload_n hx hb dL_law_1220 rfl (lv_at hl 3 rfl) ?_
    refine lv_iconst (v := 2) hx hb dL_law_1221 (by decide) ?_
    refine lv_iadd hx hb dL_law_1222 ?_
    refine lv_topi (fun y_14 ey_14 => ?_)
    have ty_14 : y_14.toInt = i0.toInt + 2 := xI_add rfl rfl ey_14 (by omega) (by omega)
    refine va_sld hx hb hX hbl hbA hS (vin (by omega) (by omega)) dL_law_1223 ?_
    refine lv_topi (fun y_15 ey_15 => ?_)
    have u_16 : y_15.toInt = (xs (i0 + 2).toNatClampNeg).toInt := by rw [ey_15, ey_14]
    have g_17 : gP G_8 = gP G := gP_fr (rs := [37, 38, 39, 40, 42, 43]) (fs := [(6, 3), (7, 1), (7, 2), (7, 3), (7, 4), (7, 5), (7, 6), (7, 7)]) (Fr.rf.call hq_9 (by decide) (by decide)) (by decide) (by decide)
    have g_18 : gW G_8 = gW G := gW_fr (rs := [37, 38, 39, 40, 42, 43]) (fs := [(6, 3), (7, 1), (7, 2), (7, 3), (7, 4), (7, 5), (7, 6), (7, 7)]) (Fr.rf.call hq_9 (by decide) (by decide)) (by decide) (by decide)
    refine S_calli (va_runV (As := [.int y_12, .int y_15]) (rest := []) ⟨hx, hb, hml, hown, hts⟩ (n_leave l D k A a z G_8 y_12 y_15 (by omega) (by omega)) (cwV 2 hts (gd_V hgd m1983 m1984 m1985 m131 m1986) rfl rfl rfl (by decide +kernel) ⟨Nat.le_of_ble_eq_true rfl, Nat.le_of_ble_eq_true rfl⟩) (pre_V hW hB_G_8 hK hZ hS kd_66 rfl) rfl rfl hl.1 rfl (lv_room (Nat.le_of_ble_eq_true rfl)) dL_law_1224 ⟨Nat.le_of_ble_eq_true rfl, Nat.le_of_ble_eq_true rfl⟩) hS (fun r_19 G_20 H locs hpo hW hS => ?_)
    obtain ⟨hB_G_20, hq_21⟩ := hpo
    refine lv_pop hx hb dL_law_1227 rfl ?_
    refine lv_goto (tgt := 1642) hx hb dL_law_1228 (by decide) ?_
    have g_23 : gO G_20 = gO G := gO_fr (rs := [37, 38, 39, 40, 42, 43, 76, 97, 98, 99, 107]) (fs := [(6, 3), (7, 1), (7, 2), (7, 3), (7, 4), (7, 5), (7, 6), (7, 7), (66, 59), (66, 60), (66, 61), (66, 62), (66, 63)]) ((Fr.rf.call hq_9 (by decide) (by decide)).call hq_21 (by decide) (by decide)) (by decide) (by decide)
    have g_24 : gP G_20 = gP G := gP_fr (rs := [37, 38, 39, 40, 42, 43, 76, 97, 98, 99, 107]) (fs := [(6, 3), (7, 1), (7, 2), (7, 3), (7, 4), (7, 5), (7, 6), (7, 7), (66, 59), (66, 60), (66, 61), (66, 62), (66, 63)]) ((Fr.rf.call hq_9 (by decide) (by decide)).call hq_21 (by decide) (by decide)) (by decide) (by decide)
    have g_25 : gS G_20 = gS G := gS_fr (rs := [37, 38, 39, 40, 42, 43, 76, 97, 98, 99, 107]) (fs := [(6, 3), (7, 1), (7, 2), (7, 3), (7, 4), (7, 5), (7, 6), (7, 7), (66, 59), (66, 60), (66, 61), (66, 62), (66, 63)]) ((Fr.rf.call hq_9 (by decide) (by decide)).call hq_21 (by decide) (by decide)) (by decide) (by decide)
    have g_26 : gW G_20 = gW G := gW_fr (rs := [37, 38, 39, 40, 42, 43, 76, 97, 98, 99, 107]) (fs := [(6, 3), (7, 1), (7, 2), (7, 3), (7, 4), (7, 5), (7, 6), (7, 7), (66, 59), (66, 60), (66, 61), (66, 62), (66, 63)]) ((Fr.rf.call hq_9 (by decide) (by decide)).call hq_21 (by decide) (by decide)) (by decide) (by decide)
    have b_27 : 0 ≤ (G.1 0 11).toInt ∧ (G.1 0 11).toInt ≤ 1600 := hB_G.i 0 11 rfl rfl
    have g_28 : (G_20.1 0 11).toInt = (G.1 0 11).toInt := by rw [show G_20.1 0 11 = (G.1 0 11) from ((hq_21.i 0 11 (by decide) (by decide)).trans (hq_9.i 0 11 (by decide) (by decide)))]
    have b_29 : 0 ≤ (G.1 30 4).toInt ∧ (G.1 30 4).toInt ≤ 40 := hB_G.i 30 4 rfl rfl
    have g_30 : (G_20.1 30 4).toInt = (G.1 30 4).toInt := by rw [show G_20.1 30 4 = (G.1 30 4) from ((hq_21.i 30 4 (by decide) (by decide)).trans (hq_9.i 30 4 (by decide) (by decide)))]
    have b_31 : 0 ≤ (G.1 30 5).toInt ∧ (G.1 30 5).toInt ≤ 40 := hB_G.i 30 5 rfl rfl
    have g_32 : (G_20.1 30 5).toInt = (G.1 30 5).toInt := by rw [show G_20.1 30 5 = (G.1 30 5) from ((hq_21.i 30 5 (by decide) (by decide)).trans (hq_9.i 30 5 (by decide) (by decide)))]
    have b_33 : 0 ≤ (G.1 31 6).toInt ∧ (G.1 31 6).toInt ≤ 100000 := hB_G.i 31 6 rfl rfl
    have g_34 : (G_20.1 31 6).toInt = (G.1 31 6).toInt := by rw [show G_20.1 31 6 = (G.1 31 6) from ((hq_21.i 31 6 (by decide) (by decide)).trans (hq_9.i 31 6 (by decide) (by decide)))]
    have b_35 : 0 ≤ (G.1 66 1).toInt ∧ (G.1 66 1).toInt ≤ 1600 := hB_G.i 66 1 rfl rfl
    have g_36 : (G_20.1 66 1).toInt = (G.1 66 1).toInt := by rw [show G_20.1 66 1 = (G.1 66 1) from ((hq_21.i 66 1 (by decide) (by decide)).trans (hq_9.i 66 1 (by decide) (by decide)))]
    have b_37 : 0 ≤ (G.1 66 78).toInt ∧ (G.1 66 78).toInt ≤ 40 := hB_G.i 66 78 rfl rfl
    have g_38 : (G_20.1 66 78).toInt = (G.1 66 78).toInt := by rw [show G_20.1 66 78 = (G.1 66 78) from ((hq_21.i 66 78 (by decide) (by decide)).trans (hq_9.i 66 78 (by decide) (by decide)))]
    have b_39 : 0 ≤ (G.1 66 79).toInt ∧ (G.1 66 79).toInt ≤ 40 := hB_G.i 66 79 rfl rfl
    have g_40 : (G_20.1 66 79).toInt = (G.1 66 79).toInt := by rw [show G_20.1 66 79 = (G.1 66 79) from ((hq_21.i 66 79 (by decide) (by decide)).trans (hq_9.i 66 79 (by decide) (by decide)))]
    have b_41 : 0 ≤ (G.1 66 86).toInt ∧ (G.1 66 86).toInt ≤ 100000 := hB_G.i 66 86 rfl rfl
    have g_42 : (G_20.1 66 86).toInt = (G.1 66 86).toInt := by rw [show G_20.1 66 86 = (G.1 66 86) from ((hq_21.i 66 86 (by decide) (by decide)).trans (hq_9.i 66 86 (by decide) (by decide)))]
    have b_43 : 0 ≤ (G.1 96 0).toInt ∧ (G.1 96 0).toInt ≤ 9 := hB_G.i 96 0 rfl rfl
    have g_44 : (G_20.1 96 0).toInt = (G.1 96 0).toInt := by rw [show G_20.1 96 0 = (G.1 96 0) from ((hq_21.i 96 0 (by decide) (by decide)).trans (hq_9.i 96 0 (by decide) (by decide)))]
    have b_45 : 0 ≤ (G.1 96 1).toInt ∧ (G.1 96 1).toInt ≤ 9 := hB_G.i 96 1 rfl rfl
    have g_46 : (G_20.1 96 1).toInt = (G.1 96 1).toInt := by rw [show G_20.1 96 1 = (G.1 96 1) from ((hq_21.i 96 1 (by decide) (by decide)).trans (hq_9.i 96 1 (by decide) (by decide)))]
    have b_47 : 0 ≤ (G.1 96 2).toInt ∧ (G.1 96 2).toInt ≤ 9 := hB_G.i 96 2 rfl rfl
    have g_48 : (G_20.1 96 2).toInt = (G.1 96 2).toInt := by rw [show G_20.1 96 2 = (G.1 96 2) from ((hq_21.i 96 2 (by decide) (by decide)).trans (hq_9.i 96 2 (by decide) (by decide)))]
    exact K G_20 _ _ _ (Or.inl ⟨((((hq_21.r 0 0 (by decide) (by decide)).trans (hq_9.r 0 0 (by decide) (by decide)))).trans (hv_0_0)), ((((hq_21.r 0 1 (by decide) (by decide)).trans (hq_9.r 0 1 (by decide) (by decide)))).trans (hv_0_1)), ((((hq_21.r 6 4 (by decide) (by decide)).trans (hq_9.r 6 4 (by decide) (by decide)))).trans (hv_6_4)), by omega, by omega, by omega, by omega, by omega, by omega, by omega, by omega, by omega⟩) hB_G_20 hW hS (lv_sub hl [0, 1, 2, 3] rfl)
  · skip
    refine lv_aload_n hx hb dL_law_1198 rfl (lv_at hl 1 rfl) ?_
    refine lv_aload_n hx hb dL_law_1199 rfl (lv_at hl 0 rfl) ?_
    refine lv_iload_n hx hb dL_law_1200 rfl (lv_at hl 3 rfl) ?_
    refine lv_iconst (v := 1) hx hb dL_law_1201 (by decide) ?_
    refine lv_iadd hx hb dL_law_1202 ?_
    refine lv_topi (fun y_1 ey_1 => ?_)
    have ty_1 : y_1.toInt = i0.toInt + 1 := xI_add rfl rfl ey_1 (by omega) (by omega)
    refine va_sld hx hb hX hbl hbA hS (vin (by omega) (by omega)) dL_law_1203 ?_
    refine lv_topi (fun y_2 ey_2 => ?_)
    have u_3 : y_2.toInt = (xs (i0 + 1).toNatClampNeg).toInt := by rw [ey_2, ey_1]
    refine lv_aload_n hx hb dL_law_1204 rfl (lv_at hl 0 rfl) ?_
    refine lv_iload_n hx hb dL_law_1205 rfl (lv_at hl 3 rfl) ?_
    refine lv_iconst (v := 2) hx hb dL_law_1206 (by decide) ?_
    refine lv_iadd hx hb dL_law_1207 ?_
    refine lv_topi (fun y_4 ey_4 => ?_)
    have ty_4 : y_4.toInt = i0.toInt + 2 := xI_add rfl rfl ey_4 (by omega) (by omega)
    refine va_sld hx hb hX hbl hbA hS (vin (by omega) (by omega)) dL_law_1208 ?_
    refine lv_topi (fun y_5 ey_5 => ?_)
    have u_6 : y_5.toInt = (xs (i0 + 2).toNatClampNeg).toInt := by rw [ey_5, ey_4]
    refine S_calli (va_runV (As := [.int y_2, .int y_5]) (rest := []) ⟨hx, hb, hml, hown, hts⟩ (k_Wleave_2 l D k A a z G y_2 y_5 hv_0_0 hv_0_1 hv_6_4) (cwV 2 hts (gd_V hgd m1162 m1163 m1164 m117 m1165) rfl rfl rfl (by decide +kernel) ⟨Nat.le_of_ble_eq_true rfl, Nat.le_of_ble_eq_true rfl⟩) (pre_V hW hB_G hK hZ hS kd_0 rfl) rfl rfl hl.1 rfl (lv_room (Nat.le_of_ble_eq_true rfl)) dL_law_1209 ⟨Nat.le_of_ble_eq_true rfl, Nat.le_of_ble_eq_true rfl⟩) hS (fun r_7 G_8 H locs hpo hW hS => ?_)
    obtain ⟨hB_G_8, hq_9⟩ := hpo
    refine lv_pop hx hb dL_law_1212 rfl ?_
    refine lv_aload_n hx hb dL_law_1213 rfl (lv_at hl 2 rfl) ?_
    refine lv_aload_n hx hb dL_law_1214 rfl (lv_at hl 0 rfl) ?_
    refine lv_iload_n hx hb dL_law_1215 rfl (lv_at hl 3 rfl) ?_
    refine lv_iconst (v := 1) hx hb dL_law_1216 (by decide) ?_
    refine lv_iadd hx hb dL_law_1217 ?_
    refine lv_topi (fun y_11 ey_11 => ?_)
    have ty_11 : y_11.toInt = i0.toInt + 1 := xI_add rfl rfl ey_11 (by omega) (by omega)
    refine va_sld hx hb hX hbl hbA hS (vin (by omega) (by omega)) dL_law_1218 ?_
    refine lv_topi (fun y_12 ey_12 => ?_)
    have u_13 : y_12.toInt = (xs (i0 + 1).toNatClampNeg).toInt := by rw [ey_12, ey_11]
    refine lv_aload_n hx hb dL_law_1219 rfl (lv_at hl 0 rfl) ?_
    refine lv_iload_n hx hb dL_law_1220 rfl (lv_at hl 3 rfl) ?_
    refine lv_iconst (v := 2) hx hb dL_law_1221 (by decide) ?_
    refine lv_iadd hx hb dL_law_1222 ?_
    refine lv_topi (fun y_14 ey_14 => ?_)
    have ty_14 : y_14.toInt = i0.toInt + 2 := xI_add rfl rfl ey_14 (by omega) (by omega)
    refine va_sld hx hb hX hbl hbA hS (vin (by omega) (by omega)) dL_law_1223 ?_
    refine lv_topi (fun y_15 ey_15 => ?_)
    have u_16 : y_15.toInt = (xs (i0 + 2).toNatClampNeg).toInt := by rw [ey_15, ey_14]
    have g_17 : gP G_8 = gP G := gP_fr (rs := [37, 38, 39, 40, 42, 43]) (fs := [(6, 3), (7, 1), (7, 2), (7, 3), (7, 4), (7, 5), (7, 6), (7, 7)]) (Fr.rf.call hq_9 (by decide) (by decide)) (by decide) (by decide)
    have g_18 : gW G_8 = gW G := gW_fr (rs := [37, 38, 39, 40, 42, 43]) (fs := [(6, 3), (7, 1), (7, 2), (7, 3), (7, 4), (7, 5), (7, 6), (7, 7)]) (Fr.rf.call hq_9 (by decide) (by decide)) (by decide) (by decide)
    refine S_calli (va_runV (As := [.int y_12, .int y_15]) (rest := []) ⟨hx, hb, hml, hown, hts⟩ (n_leave l D k A a z G_8 y_12 y_15 (by omega) (by omega)) (cwV 2 hts (gd_V hgd m1983 m1984 m1985 m131 m1986) rfl rfl rfl (by decide +kernel) ⟨Nat.le_of_ble_eq_true rfl, Nat.le_of_ble_eq_true rfl⟩) (pre_V hW hB_G_8 hK hZ hS kd_66 rfl) rfl rfl hl.1 rfl (lv_room (Nat.le_of_ble_eq_true rfl)) dL_law_1224 ⟨Nat.le_of_ble_eq_true rfl, Nat.le_of_ble_eq_true rfl⟩) hS (fun r_19 G_20 H locs hpo hW hS => ?_)
    obtain ⟨hB_G_20, hq_21⟩ := hpo
    refine lv_pop hx hb dL_law_1227 rfl ?_
    refine lv_goto (tgt := 1642) hx hb dL_law_1228 (by decide) ?_
    have g_23 : gO G_20 = gO G := gO_fr (rs := [37, 38, 39, 40, 42, 43, 76, 97, 98, 99, 107]) (fs := [(6, 3), (7, 1), (7, 2), (7, 3), (7, 4), (7, 5), (7, 6), (7, 7), (66, 59), (66, 60), (66, 61), (66, 62), (66, 63)]) ((Fr.rf.call hq_9 (by decide) (by decide)).call hq_21 (by decide) (by decide)) (by decide) (by decide)
    have g_24 : gP G_20 = gP G := gP_fr (rs := [37, 38, 39, 40, 42, 43, 76, 97, 98, 99, 107]) (fs := [(6, 3), (7, 1), (7, 2), (7, 3), (7, 4), (7, 5), (7, 6), (7, 7), (66, 59), (66, 60), (66, 61), (66, 62), (66, 63)]) ((Fr.rf.call hq_9 (by decide) (by decide)).call hq_21 (by decide) (by decide)) (by decide) (by decide)
    have g_25 : gS G_20 = gS G := gS_fr (rs := [37, 38, 39, 40, 42, 43, 76, 97, 98, 99, 107]) (fs := [(6, 3), (7, 1), (7, 2), (7, 3), (7, 4), (7, 5), (7, 6), (7, 7), (66, 59), (66, 60), (66, 61), (66, 62), (66, 63)]) ((Fr.rf.call hq_9 (by decide) (by decide)).call hq_21 (by decide) (by decide)) (by decide) (by decide)
    have g_26 : gW G_20 = gW G := gW_fr (rs := [37, 38, 39, 40, 42, 43, 76, 97, 98, 99, 107]) (fs := [(6, 3), (7, 1), (7, 2), (7, 3), (7, 4), (7, 5), (7, 6), (7, 7), (66, 59), (66, 60), (66, 61), (66, 62), (66, 63)]) ((Fr.rf.call hq_9 (by decide) (by decide)).call hq_21 (by decide) (by decide)) (by decide) (by decide)
    have b_27 : 0 ≤ (G.1 0 11).toInt ∧ (G.1 0 11).toInt ≤ 1600 := hB_G.i 0 11 rfl rfl
    have g_28 : (G_20.1 0 11).toInt = (G.1 0 11).toInt := by rw [show G_20.1 0 11 = (G.1 0 11) from ((hq_21.i 0 11 (by decide) (by decide)).trans (hq_9.i 0 11 (by decide) (by decide)))]
    have b_29 : 0 ≤ (G.1 30 4).toInt ∧ (G.1 30 4).toInt ≤ 40 := hB_G.i 30 4 rfl rfl
    have g_30 : (G_20.1 30 4).toInt = (G.1 30 4).toInt := by rw [show G_20.1 30 4 = (G.1 30 4) from ((hq_21.i 30 4 (by decide) (by decide)).trans (hq_9.i 30 4 (by decide) (by decide)))]
    have b_31 : 0 ≤ (G.1 30 5).toInt ∧ (G.1 30 5).toInt ≤ 40 := hB_G.i 30 5 rfl rfl
    have g_32 : (G_20.1 30 5).toInt = (G.1 30 5).toInt := by rw [show G_20.1 30 5 = (G.1 30 5) from ((hq_21.i 30 5 (by decide) (by decide)).trans (hq_9.i 30 5 (by decide) (by decide)))]
    have b_33 : 0 ≤ (G.1 31 6).toInt ∧ (G.1 31 6).toInt ≤ 100000 := hB_G.i 31 6 rfl rfl
    have g_34 : (G_20.1 31 6).toInt = (G.1 31 6).toInt := by rw [show G_20.1 31 6 = (G.1 31 6) from ((hq_21.i 31 6 (by decide) (by decide)).trans (hq_9.i 31 6 (by decide) (by decide)))]
    have b_35 : 0 ≤ (G.1 66 1).toInt ∧ (G.1 66 1).toInt ≤ 1600 := hB_G.i 66 1 rfl rfl
    have g_36 : (G_20.1 66 1).toInt = (G.1 66 1).toInt := by rw [show G_20.1 66 1 = (G.1 66 1) from ((hq_21.i 66 1 (by decide) (by decide)).trans (hq_9.i 66 1 (by decide) (by decide)))]
    have b_37 : 0 ≤ (G.1 66 78).toInt ∧ (G.1 66 78).toInt ≤ 40 := hB_G.i 66 78 rfl rfl
    have g_38 : (G_20.1 66 78).toInt = (G.1 66 78).toInt := by rw [show G_20.1 66 78 = (G.1 66 78) from ((hq_21.i 66 78 (by decide) (by decide)).trans (hq_9.i 66 78 (by decide) (by decide)))]
    have b_39 : 0 ≤ (G.1 66 79).toInt ∧ (G.1 66 79).toInt ≤ 40 := hB_G.i 66 79 rfl rfl
    have g_40 : (G_20.1 66 79).toInt = (G.1 66 79).toInt := by rw [show G_20.1 66 79 = (G.1 66 79) from ((hq_21.i 66 79 (by decide) (by decide)).trans (hq_9.i 66 79 (by decide) (by decide)))]
    have b_41 : 0 ≤ (G.1 66 86).toInt ∧ (G.1 66 86).toInt ≤ 100000 := hB_G.i 66 86 rfl rfl
    have g_42 : (G_20.1 66 86).toInt = (G.1 66 86).toInt := by rw [show G_20.1 66 86 = (G.1 66 86) from ((hq_21.i 66 86 (by decide) (by decide)).trans (hq_9.i 66 86 (by decide) (by decide)))]
    have b_43 : 0 ≤ (G.1 96 0).toInt ∧ (G.1 96 0).toInt ≤ 9 := hB_G.i 96 0 rfl rfl
    have g_44 : (G_20.1 96 0).toInt = (G.1 96 0).toInt := by rw [show G_20.1 96 0 = (G.1 96 0) from ((hq_21.i 96 0 (by decide) (by decide)).trans (hq_9.i 96 0 (by decide) (by decide)))]
    have b_45 : 0 ≤ (G.1 96 1).toInt ∧ (G.1 96 1).toInt ≤ 9 := hB_G.i 96 1 rfl rfl
    have g_46 : (G_20.1 96 1).toInt = (G.1 96 1).toInt := by rw [show G_20.1 96 1 = (G.1 96 1) from ((hq_21.i 96 1 (by decide) (by decide)).trans (hq_9.i 96 1 (by decide) (by decide)))]
    have b_47 : 0 ≤ (G.1 96 2).toInt ∧ (G.1 96 2).toInt ≤ 9 := hB_G.i 96 2 rfl rfl
    have g_48 : (G_20.1 96 2).toInt = (G.1 96 2).toInt := by rw [show G_20.1 96 2 = (G.1 96 2) from ((hq_21.i 96 2 (by decide) (by decide)).trans (hq_9.i 96 2 (by decide) (by decide)))]
    exact K G_20 _ _ _ (Or.inr ⟨((((hq_21.r 0 0 (by decide) (by decide)).trans (hq_9.r 0 0 (by decide) (by decide)))).trans (hv_0_0)), ((((hq_21.r 0 1 (by decide) (by decide)).trans (hq_9.r 0 1 (by decide) (by decide)))).trans (hv_0_1)), ((((hq_21.r 6 4 (by decide) (by decide)).trans (hq_9.r 6 4 (by decide) (by decide)))).trans (hv_6_4)), by omega, by omega, by omega, by omega, by omega, by omega, by omega, by omega, by omega⟩) hB_G_20 hW hS (lv_sub hl [0, 1, 2, 3] rfl)

set_option maxHeartbeats 4000000 in
set_option maxRecDepth 100000 in
theorem law_22 {p : Program} {l : Launch} {e : Env} {s : State} {m : MethodId} {below : List Frame} {meth : Method} {c : Code} {D : va_G} {k : KT} {A : Nat → Prop} {a : Nat → Nat} {z : SK} {b L : Nat} {xs : Nat → Int32} (hL : L ≤ 3072) (C0 : lw_At p s m meth c b L xs) (hK : cK D k s) (hZ : Sx A z s) (hbA : ¬ A b) (hA : ∀ q : Nat, s.heap.size ≤ q → A q) {G : GS} {i0 : Int32} (hi0 : 0 ≤ i0.toInt) (hi6 : i0.toInt + 6 ≤ L) (hI : LI G) (hB_G : Bd G) {H : Heap} {locs : List Loc} {ls : Array Slot} (hW : Wd D k A a G H) (hS : va_S A s.heap H locs) (hl : lv_has ls 4 [(0, .ref b), (1, .ref (a 0)), (2, .ref (a 66)), (3, .int i0)]) (K : ∀ (G1 : GS) (H1 : Heap) (locs1 : List Loc) (ls1 : Array Slot), LI G1 → Bd G1 → Wd D k A a G1 H1 → va_S A s.heap H1 locs1 → lv_has ls1 4 [(0, .ref b), (1, .ref (a 0)), (2, .ref (a 66)), (3, .int i0)] → W p l e room_1 s m #[Value.ref b] below meth c H1 locs1 119 46443 (lw_Z below #[Value.ref b] s) (F0 m 1642 ls1 [])) : W p l e room_1 s m #[Value.ref b] below meth c H locs 119 46443 (lw_Z below #[Value.ref b] s) (F0 m 1231 ls []) := by
  obtain ⟨hx, hb, hr, hml, hown, hts, hX, hbl, hlocks, hgv⟩ := id C0
  have hown : s.vm.findClass RL = some m.cls := hown
  have hgd : ∀ w ∈ gd, w ∈ lw_tbl := fun w h => (List.mem_filter.mp h).1
  have hg : ∀ w ∈ gd, w.before #[Value.ref b] s = true := fun w h => hts w (hgd w h)
  rcases hI with ⟨hv_0_0, hv_0_1, hv_6_4, hj0, hj1, hj2, hj3, hj4, hj5, hj6, hj7, hj8⟩ | ⟨hv_0_0, hv_0_1, hv_6_4, hj0, hj1, hj2, hj3, hj4, hj5, hj6, hj7, hj8⟩
  · skip
    refine lv_aload_n hx hb dL_law_1231 rfl (lv_at hl 1 rfl) ?_
    refine lv_aload_n hx hb dL_law_1232 rfl (lv_at hl 0 rfl) ?_
    refine lv_iload_n hx hb dL_law_1233 rfl (lv_at hl 3 rfl) ?_
    refine lv_iconst (v := 1) hx hb dL_law_1234 (by decide) ?_
    refine lv_iadd hx hb dL_law_1235 ?_
    refine lv_topi (fun y_1 ey_1 => ?_)
    have ty_1 : y_1.toInt = i0.toInt + 1 := xI_add rfl rfl ey_1 (by omega) (by omega)
    refine va_sld hx hb hX hbl hbA hS (vin (by omega) (by omega)) dL_law_1236 ?_
    refine lv_topi (fun y_2 ey_2 => ?_)
    have u_3 : y_2.toInt = (xs (i0 + 1).toNatClampNeg).toInt := by rw [ey_2, ey_1]
    refine lv_aload_n hx hb dL_law_1237 rfl (lv_at hl 0 rfl) ?_
    refine lv_iload_n hx hb dL_law_1238 rfl (lv_at hl 3 rfl) ?_
    refine lv_iconst (v := 2) hx hb dL_law_1239 (by decide) ?_
    refine lv_iadd hx hb dL_law_1240 ?_
    refine lv_topi (fun y_4 ey_4 => ?_)
    have ty_4 : y_4.toInt = i0.toInt + 2 := xI_add rfl rfl ey_4 (by omega) (by omega)
    refine va_sld hx hb hX hbl hbA hS (vin (by omega) (by omega)) dL_law_1241 ?_
    refine lv_topi (fun y_5 ey_5 => ?_)
    have u_6 : y_5.toInt = (xs (i0 + 2).toNatClampNeg).toInt := by rw [ey_5, ey_4]
    refine lv_aload_n hx hb dL_law_1242 rfl (lv_at hl 0 rfl) ?_
    refine lv_iload_n hx hb dL_law_1243 rfl (lv_at hl 3 rfl) ?_
    refine lv_iconst (v := 3) hx hb dL_law_1244 (by decide) ?_
    refine lv_iadd hx hb dL_law_1245 ?_
    refine lv_topi (fun y_7 ey_7 => ?_)
    have ty_7 : y_7.toInt = i0.toInt + 3 := xI_add rfl rfl ey_7 (by omega) (by omega)
    refine va_sld hx hb hX hbl hbA hS (vin (by omega) (by omega)) dL_law_1246 ?_
    refine lv_topi (fun y_8 ey_8 => ?_)
    have u_9 : y_8.toInt = (xs (i0 + 3).toNatClampNeg).toInt := by rw [ey_8, ey_7]
    have b_10 : 0 ≤ (G.1 30 4).toInt ∧ (G.1 30 4).toInt ≤ 40 := hB_G.i 30 4 rfl rfl
    have b_11 : 0 ≤ (G.1 30 5).toInt ∧ (G.1 30 5).toInt ≤ 40 := hB_G.i 30 5 rfl rfl
    refine S_calli (va_runV (As := [.int y_2, .int y_5, .int y_8]) (rest := []) ⟨hx, hb, hml, hown, hts⟩ (k_Wwalk_1 l D k A a z G y_2 y_5 y_8 hv_0_0 hv_0_1 hv_6_4 (by omega)) (cwV 3 hts (gd_V hgd m1166 m1167 m1168 m117 m1169) rfl rfl rfl (by decide +kernel) ⟨Nat.le_of_ble_eq_true rfl, Nat.le_of_ble_eq_true rfl⟩) (pre_V hW hB_G hK hZ hS kd_0 rfl) rfl rfl hl.1 rfl (lv_room (Nat.le_of_ble_eq_true rfl)) dL_law_1247 ⟨Nat.le_of_ble_eq_true rfl, Nat.le_of_ble_eq_true rfl⟩) hS (fun r_12 G_13 H locs hpo hW hS => ?_)
    obtain ⟨hB_G_13, hq_14, hp_15⟩ := hpo
    refine lv_pop hx hb dL_law_1250 rfl ?_
    refine lv_aload_n hx hb dL_law_1251 rfl (lv_at hl 2 rfl) ?_
    refine lv_aload_n hx hb dL_law_1252 rfl (lv_at hl 0 rfl) ?_
    refine lv_iload_n hx hb dL_law_1253 rfl (lv_at hl 3 rfl) ?_
    refine lv_iconst (v := 1) hx hb dL_law_1254 (by decide) ?_
    refine lv_iadd hx hb dL_law_1255 ?_
    refine lv_topi (fun y_16 ey_16 => ?_)
    have ty_16 : y_16.toInt = i0.toInt + 1 := xI_add rfl rfl ey_16 (by omega) (by omega)
    refine va_sld hx hb hX hbl hbA hS (vin (by omega) (by omega)) dL_law_1256 ?_
    refine lv_topi (fun y_17 ey_17 => ?_)
    have u_18 : y_17.toInt = (xs (i0 + 1).toNatClampNeg).toInt := by rw [ey_17, ey_16]
    refine lv_aload_n hx hb dL_law_1257 rfl (lv_at hl 0 rfl) ?_
    refine lv_iload_n hx hb dL_law_1258 rfl (lv_at hl 3 rfl) ?_
    refine lv_iconst (v := 2) hx hb dL_law_1259 (by decide) ?_
    refine lv_iadd hx hb dL_law_1260 ?_
    refine lv_topi (fun y_19 ey_19 => ?_)
    have ty_19 : y_19.toInt = i0.toInt + 2 := xI_add rfl rfl ey_19 (by omega) (by omega)
    refine va_sld hx hb hX hbl hbA hS (vin (by omega) (by omega)) dL_law_1261 ?_
    refine lv_topi (fun y_20 ey_20 => ?_)
    have u_21 : y_20.toInt = (xs (i0 + 2).toNatClampNeg).toInt := by rw [ey_20, ey_19]
    refine lv_aload_n hx hb dL_law_1262 rfl (lv_at hl 0 rfl) ?_
    refine lv_iload_n hx hb dL_law_1263 rfl (lv_at hl 3 rfl) ?_
    refine lv_iconst (v := 3) hx hb dL_law_1264 (by decide) ?_
    refine lv_iadd hx hb dL_law_1265 ?_
    refine lv_topi (fun y_22 ey_22 => ?_)
    have ty_22 : y_22.toInt = i0.toInt + 3 := xI_add rfl rfl ey_22 (by omega) (by omega)
    refine va_sld hx hb hX hbl hbA hS (vin (by omega) (by omega)) dL_law_1266 ?_
    refine lv_topi (fun y_23 ey_23 => ?_)
    have u_24 : y_23.toInt = (xs (i0 + 3).toNatClampNeg).toInt := by rw [ey_23, ey_22]
    have g_25 : gP G_13 = gP G := gP_fr (rs := [37, 38, 39, 58, 59]) (fs := [(6, 3), (30, 4), (30, 5)]) (Fr.rf.call hq_14 (by decide) (by decide)) (by decide) (by decide)
    have b_26 : 0 ≤ (G.1 66 78).toInt ∧ (G.1 66 78).toInt ≤ 40 := hB_G.i 66 78 rfl rfl
    have g_27 : (G_13.1 66 78).toInt = (G.1 66 78).toInt := by rw [show G_13.1 66 78 = (G.1 66 78) from (hq_14.i 66 78 (by decide) (by decide))]
    have b_28 : 0 ≤ (G.1 66 79).toInt ∧ (G.1 66 79).toInt ≤ 40 := hB_G.i 66 79 rfl rfl
    have g_29 : (G_13.1 66 79).toInt = (G.1 66 79).toInt := by rw [show G_13.1 66 79 = (G.1 66 79) from (hq_14.i 66 79 (by decide) (by decide))]
    refine S_calli (va_runV (As := [.int y_17, .int y_20, .int y_23]) (rest := []) ⟨hx, hb, hml, hown, hts⟩ (n_walk l D k A a z G_13 y_17 y_20 y_23 (by omega) (by omega)) (cwV 3 hts (gd_V hgd m1987 m1988 m1989 m131 m1990) rfl rfl rfl (by decide +kernel) ⟨Nat.le_of_ble_eq_true rfl, Nat.le_of_ble_eq_true rfl⟩) (pre_V hW hB_G_13 hK hZ hS kd_66 rfl) rfl rfl hl.1 rfl (lv_room (Nat.le_of_ble_eq_true rfl)) dL_law_1267 ⟨Nat.le_of_ble_eq_true rfl, Nat.le_of_ble_eq_true rfl⟩) hS (fun r_30 G_31 H locs hpo hW hS => ?_)
    obtain ⟨hB_G_31, hq_32, hp_33⟩ := hpo
    refine lv_pop hx hb dL_law_1270 rfl ?_
    refine lv_goto (tgt := 1642) hx hb dL_law_1271 (by decide) ?_
    have g_34 : gO G_31 = gO G := gO_fr (rs := [37, 38, 39, 58, 59, 76, 97, 98, 110, 111]) (fs := [(6, 3), (30, 4), (30, 5), (66, 59), (66, 60), (66, 61), (66, 62), (66, 63), (66, 78), (66, 79)]) ((Fr.rf.call hq_14 (by decide) (by decide)).call hq_32 (by decide) (by decide)) (by decide) (by decide)
    have g_35 : gP G_31 = gP G := gP_fr (rs := [37, 38, 39, 58, 59, 76, 97, 98, 110, 111]) (fs := [(6, 3), (30, 4), (30, 5), (66, 59), (66, 60), (66, 61), (66, 62), (66, 63), (66, 78), (66, 79)]) ((Fr.rf.call hq_14 (by decide) (by decide)).call hq_32 (by decide) (by decide)) (by decide) (by decide)
    have g_36 : gS G_31 = gS G := gS_fr (rs := [37, 38, 39, 58, 59, 76, 97, 98, 110, 111]) (fs := [(6, 3), (30, 4), (30, 5), (66, 59), (66, 60), (66, 61), (66, 62), (66, 63), (66, 78), (66, 79)]) ((Fr.rf.call hq_14 (by decide) (by decide)).call hq_32 (by decide) (by decide)) (by decide) (by decide)
    have g_37 : gW G_31 = gW G := gW_fr (rs := [37, 38, 39, 58, 59, 76, 97, 98, 110, 111]) (fs := [(6, 3), (30, 4), (30, 5), (66, 59), (66, 60), (66, 61), (66, 62), (66, 63), (66, 78), (66, 79)]) ((Fr.rf.call hq_14 (by decide) (by decide)).call hq_32 (by decide) (by decide)) (by decide) (by decide)
    have b_38 : 0 ≤ (G.1 0 11).toInt ∧ (G.1 0 11).toInt ≤ 1600 := hB_G.i 0 11 rfl rfl
    have g_39 : (G_31.1 0 11).toInt = (G.1 0 11).toInt := by rw [show G_31.1 0 11 = (G.1 0 11) from ((hq_32.i 0 11 (by decide) (by decide)).trans (hq_14.i 0 11 (by decide) (by decide)))]
    have b_40 : 0 ≤ (G_13.1 30 4).toInt ∧ (G_13.1 30 4).toInt ≤ 40 := hB_G_13.i 30 4 rfl rfl
    have g_41 : (G_31.1 30 4).toInt = (G_13.1 30 4).toInt := by rw [show G_31.1 30 4 = (G_13.1 30 4) from (hq_32.i 30 4 (by decide) (by decide))]
    have b_42 : 0 ≤ (G_13.1 30 5).toInt ∧ (G_13.1 30 5).toInt ≤ 40 := hB_G_13.i 30 5 rfl rfl
    have g_43 : (G_31.1 30 5).toInt = (G_13.1 30 5).toInt := by rw [show G_31.1 30 5 = (G_13.1 30 5) from (hq_32.i 30 5 (by decide) (by decide))]
    have b_44 : 0 ≤ (G.1 31 6).toInt ∧ (G.1 31 6).toInt ≤ 100000 := hB_G.i 31 6 rfl rfl
    have g_45 : (G_31.1 31 6).toInt = (G.1 31 6).toInt := by rw [show G_31.1 31 6 = (G.1 31 6) from ((hq_32.i 31 6 (by decide) (by decide)).trans (hq_14.i 31 6 (by decide) (by decide)))]
    have b_46 : 0 ≤ (G.1 66 1).toInt ∧ (G.1 66 1).toInt ≤ 1600 := hB_G.i 66 1 rfl rfl
    have g_47 : (G_31.1 66 1).toInt = (G.1 66 1).toInt := by rw [show G_31.1 66 1 = (G.1 66 1) from ((hq_32.i 66 1 (by decide) (by decide)).trans (hq_14.i 66 1 (by decide) (by decide)))]
    have b_48 : 0 ≤ (G_31.1 66 78).toInt ∧ (G_31.1 66 78).toInt ≤ 40 := hB_G_31.i 66 78 rfl rfl
    have b_49 : 0 ≤ (G_31.1 66 79).toInt ∧ (G_31.1 66 79).toInt ≤ 40 := hB_G_31.i 66 79 rfl rfl
    have b_50 : 0 ≤ (G.1 66 86).toInt ∧ (G.1 66 86).toInt ≤ 100000 := hB_G.i 66 86 rfl rfl
    have g_51 : (G_31.1 66 86).toInt = (G.1 66 86).toInt := by rw [show G_31.1 66 86 = (G.1 66 86) from ((hq_32.i 66 86 (by decide) (by decide)).trans (hq_14.i 66 86 (by decide) (by decide)))]
    have b_52 : 0 ≤ (G.1 96 0).toInt ∧ (G.1 96 0).toInt ≤ 9 := hB_G.i 96 0 rfl rfl
    have g_53 : (G_31.1 96 0).toInt = (G.1 96 0).toInt := by rw [show G_31.1 96 0 = (G.1 96 0) from ((hq_32.i 96 0 (by decide) (by decide)).trans (hq_14.i 96 0 (by decide) (by decide)))]
    have b_54 : 0 ≤ (G.1 96 1).toInt ∧ (G.1 96 1).toInt ≤ 9 := hB_G.i 96 1 rfl rfl
    have g_55 : (G_31.1 96 1).toInt = (G.1 96 1).toInt := by rw [show G_31.1 96 1 = (G.1 96 1) from ((hq_32.i 96 1 (by decide) (by decide)).trans (hq_14.i 96 1 (by decide) (by decide)))]
    have b_56 : 0 ≤ (G.1 96 2).toInt ∧ (G.1 96 2).toInt ≤ 9 := hB_G.i 96 2 rfl rfl
    have g_57 : (G_31.1 96 2).toInt = (G.1 96 2).toInt := by rw [show G_31.1 96 2 = (G.1 96 2) from ((hq_32.i 96 2 (by decide) (by decide)).trans (hq_14.i 96 2 (by decide) (by decide)))]
    exact K G_31 _ _ _ (Or.inl ⟨((((hq_32.r 0 0 (by decide) (by decide)).trans (hq_14.r 0 0 (by decide) (by decide)))).trans (hv_0_0)), ((((hq_32.r 0 1 (by decide) (by decide)).trans (hq_14.r 0 1 (by decide) (by decide)))).trans (hv_0_1)), ((((hq_32.r 6 4 (by decide) (by decide)).trans (hq_14.r 6 4 (by decide) (by decide)))).trans (hv_6_4)), by omega, by omega, by omega, by omega, by omega, by omega, by omega, by omega, by omega⟩) hB_G_31 hW hS (lv_sub hl [0, 1, 2, 3] rfl)
  · skip
    refine lv_aload_n hx hb dL_law_1231 rfl (lv_at hl 1 rfl) ?_
    refine lv_aload_n hx hb dL_law_1232 rfl (lv_at hl 0 rfl) ?_
    refine lv_iload_n hx hb dL_law_1233 rfl (lv_at hl 3 rfl) ?_
    refine lv_iconst (v := 1) hx hb dL_law_1234 (by decide) ?_
    refine lv_iadd hx hb dL_law_1235 ?_
    refine lv_topi (fun y_1 ey_1 => ?_)
    have ty_1 : y_1.toInt = i0.toInt + 1 := xI_add rfl rfl ey_1 (by omega) (by omega)
    refine va_sld hx hb hX hbl hbA hS (vin (by omega) (by omega)) dL_law_1236 ?_
    refine lv_topi (fun y_2 ey_2 => ?_)
    have u_3 : y_2.toInt = (xs (i0 + 1).toNatClampNeg).toInt := by rw [ey_2, ey_1]
    refine lv_aload_n hx hb dL_law_1237 rfl (lv_at hl 0 rfl) ?_
    refine lv_iload_n hx hb dL_law_1238 rfl (lv_at hl 3 rfl) ?_
    refine lv_iconst (v := 2) hx hb dL_law_1239 (by decide) ?_
    refine lv_iadd hx hb dL_law_1240 ?_
    refine lv_topi (fun y_4 ey_4 => ?_)
    have ty_4 : y_4.toInt = i0.toInt + 2 := xI_add rfl rfl ey_4 (by omega) (by omega)
    refine va_sld hx hb hX hbl hbA hS (vin (by omega) (by omega)) dL_law_1241 ?_
    refine lv_topi (fun y_5 ey_5 => ?_)
    have u_6 : y_5.toInt = (xs (i0 + 2).toNatClampNeg).toInt := by rw [ey_5, ey_4]
    refine lv_aload_n hx hb dL_law_1242 rfl (lv_at hl 0 rfl) ?_
    refine lv_iload_n hx hb dL_law_1243 rfl (lv_at hl 3 rfl) ?_
    refine lv_iconst (v := 3) hx hb dL_law_1244 (by decide) ?_
    refine lv_iadd hx hb dL_law_1245 ?_
    refine lv_topi (fun y_7 ey_7 => ?_)
    have ty_7 : y_7.toInt = i0.toInt + 3 := xI_add rfl rfl ey_7 (by omega) (by omega)
    refine va_sld hx hb hX hbl hbA hS (vin (by omega) (by omega)) dL_law_1246 ?_
    refine lv_topi (fun y_8 ey_8 => ?_)
    have u_9 : y_8.toInt = (xs (i0 + 3).toNatClampNeg).toInt := by rw [ey_8, ey_7]
    have b_10 : 0 ≤ (G.1 30 4).toInt ∧ (G.1 30 4).toInt ≤ 40 := hB_G.i 30 4 rfl rfl
    have b_11 : 0 ≤ (G.1 30 5).toInt ∧ (G.1 30 5).toInt ≤ 40 := hB_G.i 30 5 rfl rfl
    refine S_calli (va_runV (As := [.int y_2, .int y_5, .int y_8]) (rest := []) ⟨hx, hb, hml, hown, hts⟩ (k_Wwalk_2 l D k A a z G y_2 y_5 y_8 hv_0_0 hv_0_1 hv_6_4 (by omega)) (cwV 3 hts (gd_V hgd m1166 m1167 m1168 m117 m1169) rfl rfl rfl (by decide +kernel) ⟨Nat.le_of_ble_eq_true rfl, Nat.le_of_ble_eq_true rfl⟩) (pre_V hW hB_G hK hZ hS kd_0 rfl) rfl rfl hl.1 rfl (lv_room (Nat.le_of_ble_eq_true rfl)) dL_law_1247 ⟨Nat.le_of_ble_eq_true rfl, Nat.le_of_ble_eq_true rfl⟩) hS (fun r_12 G_13 H locs hpo hW hS => ?_)
    obtain ⟨hB_G_13, hq_14, hp_15⟩ := hpo
    refine lv_pop hx hb dL_law_1250 rfl ?_
    refine lv_aload_n hx hb dL_law_1251 rfl (lv_at hl 2 rfl) ?_
    refine lv_aload_n hx hb dL_law_1252 rfl (lv_at hl 0 rfl) ?_
    refine lv_iload_n hx hb dL_law_1253 rfl (lv_at hl 3 rfl) ?_
    refine lv_iconst (v := 1) hx hb dL_law_1254 (by decide) ?_
    refine lv_iadd hx hb dL_law_1255 ?_
    refine lv_topi (fun y_16 ey_16 => ?_)
    have ty_16 : y_16.toInt = i0.toInt + 1 := xI_add rfl rfl ey_16 (by omega) (by omega)
    refine va_sld hx hb hX hbl hbA hS (vin (by omega) (by omega)) dL_law_1256 ?_
    refine lv_topi (fun y_17 ey_17 => ?_)
    have u_18 : y_17.toInt = (xs (i0 + 1).toNatClampNeg).toInt := by rw [ey_17, ey_16]
    refine lv_aload_n hx hb dL_law_1257 rfl (lv_at hl 0 rfl) ?_
    refine lv_iload_n hx hb dL_law_1258 rfl (lv_at hl 3 rfl) ?_
    refine lv_iconst (v := 2) hx hb dL_law_1259 (by decide) ?_
    refine lv_iadd hx hb dL_law_1260 ?_
    refine lv_topi (fun y_19 ey_19 => ?_)
    have ty_19 : y_19.toInt = i0.toInt + 2 := xI_add rfl rfl ey_19 (by omega) (by omega)
    refine va_sld hx hb hX hbl hbA hS (vin (by omega) (by omega)) dL_law_1261 ?_
    refine lv_topi (fun y_20 ey_20 => ?_)
    have u_21 : y_20.toInt = (xs (i0 + 2).toNatClampNeg).toInt := by rw [ey_20, ey_19]
    refine lv_aload_n hx hb dL_law_1262 rfl (lv_at hl 0 rfl) ?_
    refine lv_iload_n hx hb dL_law_1263 rfl (lv_at hl 3 rfl) ?_
    refine lv_iconst (v := 3) hx hb dL_law_1264 (by decide) ?_
    refine lv_iadd hx hb dL_law_1265 ?_
    refine lv_topi (fun y_22 ey_22 => ?_)
    have ty_22 : y_22.toInt = i0.toInt + 3 := xI_add rfl rfl ey_22 (by omega) (by omega)
    refine va_sld hx hb hX hbl hbA hS (vin (by omega) (by omega)) dL_law_1266 ?_
    refine lv_topi (fun y_23 ey_23 => ?_)
    have u_24 : y_23.toInt = (xs (i0 + 3).toNatClampNeg).toInt := by rw [ey_23, ey_22]
    have g_25 : gP G_13 = gP G := gP_fr (rs := [37, 38, 39, 58, 59]) (fs := [(6, 3), (30, 4), (30, 5)]) (Fr.rf.call hq_14 (by decide) (by decide)) (by decide) (by decide)
    have b_26 : 0 ≤ (G.1 66 78).toInt ∧ (G.1 66 78).toInt ≤ 40 := hB_G.i 66 78 rfl rfl
    have g_27 : (G_13.1 66 78).toInt = (G.1 66 78).toInt := by rw [show G_13.1 66 78 = (G.1 66 78) from (hq_14.i 66 78 (by decide) (by decide))]
    have b_28 : 0 ≤ (G.1 66 79).toInt ∧ (G.1 66 79).toInt ≤ 40 := hB_G.i 66 79 rfl rfl
    have g_29 : (G_13.1 66 79).toInt = (G.1 66 79).toInt := by rw [show G_13.1 66 79 = (G.1 66 79) from (hq_14.i 66 79 (by decide) (by decide))]
    refine S_calli (va_runV (As := [.int y_17, .int y_20, .int y_23]) (rest := []) ⟨hx, hb, hml, hown, hts⟩ (n_walk l D k A a z G_13 y_17 y_20 y_23 (by omega) (by omega)) (cwV 3 hts (gd_V hgd m1987 m1988 m1989 m131 m1990) rfl rfl rfl (by decide +kernel) ⟨Nat.le_of_ble_eq_true rfl, Nat.le_of_ble_eq_true rfl⟩) (pre_V hW hB_G_13 hK hZ hS kd_66 rfl) rfl rfl hl.1 rfl (lv_room (Nat.le_of_ble_eq_true rfl)) dL_law_1267 ⟨Nat.le_of_ble_eq_true rfl, Nat.le_of_ble_eq_true rfl⟩) hS (fun r_30 G_31 H locs hpo hW hS => ?_)
    obtain ⟨hB_G_31, hq_32, hp_33⟩ := hpo
    refine lv_pop hx hb dL_law_1270 rfl ?_
    refine lv_goto (tgt := 1642) hx hb dL_law_1271 (by decide) ?_
    have g_34 : gO G_31 = gO G := gO_fr (rs := [37, 38, 39, 58, 59, 76, 97, 98, 110, 111]) (fs := [(6, 3), (30, 4), (30, 5), (66, 59), (66, 60), (66, 61), (66, 62), (66, 63), (66, 78), (66, 79)]) ((Fr.rf.call hq_14 (by decide) (by decide)).call hq_32 (by decide) (by decide)) (by decide) (by decide)
    have g_35 : gP G_31 = gP G := gP_fr (rs := [37, 38, 39, 58, 59, 76, 97, 98, 110, 111]) (fs := [(6, 3), (30, 4), (30, 5), (66, 59), (66, 60), (66, 61), (66, 62), (66, 63), (66, 78), (66, 79)]) ((Fr.rf.call hq_14 (by decide) (by decide)).call hq_32 (by decide) (by decide)) (by decide) (by decide)
    have g_36 : gS G_31 = gS G := gS_fr (rs := [37, 38, 39, 58, 59, 76, 97, 98, 110, 111]) (fs := [(6, 3), (30, 4), (30, 5), (66, 59), (66, 60), (66, 61), (66, 62), (66, 63), (66, 78), (66, 79)]) ((Fr.rf.call hq_14 (by decide) (by decide)).call hq_32 (by decide) (by decide)) (by decide) (by decide)
    have g_37 : gW G_31 = gW G := gW_fr (rs := [37, 38, 39, 58, 59, 76, 97, 98, 110, 111]) (fs := [(6, 3), (30, 4), (30, 5), (66, 59), (66, 60), (66, 61), (66, 62), (66, 63), (66, 78), (66, 79)]) ((Fr.rf.call hq_14 (by decide) (by decide)).call hq_32 (by decide) (by decide)) (by decide) (by decide)
    have b_38 : 0 ≤ (G.1 0 11).toInt ∧ (G.1 0 11).toInt ≤ 1600 := hB_G.i 0 11 rfl rfl
    have g_39 : (G_31.1 0 11).toInt = (G.1 0 11).toInt := by rw [show G_31.1 0 11 = (G.1 0 11) from ((hq_32.i 0 11 (by decide) (by decide)).trans (hq_14.i 0 11 (by decide) (by decide)))]
    have b_40 : 0 ≤ (G_13.1 30 4).toInt ∧ (G_13.1 30 4).toInt ≤ 40 := hB_G_13.i 30 4 rfl rfl
    have g_41 : (G_31.1 30 4).toInt = (G_13.1 30 4).toInt := by rw [show G_31.1 30 4 = (G_13.1 30 4) from (hq_32.i 30 4 (by decide) (by decide))]
    have b_42 : 0 ≤ (G_13.1 30 5).toInt ∧ (G_13.1 30 5).toInt ≤ 40 := hB_G_13.i 30 5 rfl rfl
    have g_43 : (G_31.1 30 5).toInt = (G_13.1 30 5).toInt := by rw [show G_31.1 30 5 = (G_13.1 30 5) from (hq_32.i 30 5 (by decide) (by decide))]
    have b_44 : 0 ≤ (G.1 31 6).toInt ∧ (G.1 31 6).toInt ≤ 100000 := hB_G.i 31 6 rfl rfl
    have g_45 : (G_31.1 31 6).toInt = (G.1 31 6).toInt := by rw [show G_31.1 31 6 = (G.1 31 6) from ((hq_32.i 31 6 (by decide) (by decide)).trans (hq_14.i 31 6 (by decide) (by decide)))]
    have b_46 : 0 ≤ (G.1 66 1).toInt ∧ (G.1 66 1).toInt ≤ 1600 := hB_G.i 66 1 rfl rfl
    have g_47 : (G_31.1 66 1).toInt = (G.1 66 1).toInt := by rw [show G_31.1 66 1 = (G.1 66 1) from ((hq_32.i 66 1 (by decide) (by decide)).trans (hq_14.i 66 1 (by decide) (by decide)))]
    have b_48 : 0 ≤ (G_31.1 66 78).toInt ∧ (G_31.1 66 78).toInt ≤ 40 := hB_G_31.i 66 78 rfl rfl
    have b_49 : 0 ≤ (G_31.1 66 79).toInt ∧ (G_31.1 66 79).toInt ≤ 40 := hB_G_31.i 66 79 rfl rfl
    have b_50 : 0 ≤ (G.1 66 86).toInt ∧ (G.1 66 86).toInt ≤ 100000 := hB_G.i 66 86 rfl rfl
    have g_51 : (G_31.1 66 86).toInt = (G.1 66 86).toInt := by rw [show G_31.1 66 86 = (G.1 66 86) from ((hq_32.i 66 86 (by decide) (by decide)).trans (hq_14.i 66 86 (by decide) (by decide)))]
    have b_52 : 0 ≤ (G.1 96 0).toInt ∧ (G.1 96 0).toInt ≤ 9 := hB_G.i 96 0 rfl rfl
    have g_53 : (G_31.1 96 0).toInt = (G.1 96 0).toInt := by rw [show G_31.1 96 0 = (G.1 96 0) from ((hq_32.i 96 0 (by decide) (by decide)).trans (hq_14.i 96 0 (by decide) (by decide)))]
    have b_54 : 0 ≤ (G.1 96 1).toInt ∧ (G.1 96 1).toInt ≤ 9 := hB_G.i 96 1 rfl rfl
    have g_55 : (G_31.1 96 1).toInt = (G.1 96 1).toInt := by rw [show G_31.1 96 1 = (G.1 96 1) from ((hq_32.i 96 1 (by decide) (by decide)).trans (hq_14.i 96 1 (by decide) (by decide)))]
    have b_56 : 0 ≤ (G.1 96 2).toInt ∧ (G.1 96 2).toInt ≤ 9 := hB_G.i 96 2 rfl rfl
    have g_57 : (G_31.1 96 2).toInt = (G.1 96 2).toInt := by rw [show G_31.1 96 2 = (G.1 96 2) from ((hq_32.i 96 2 (by decide) (by decide)).trans (hq_14.i 96 2 (by decide) (by decide)))]
    exact K G_31 _ _ _ (Or.inr ⟨((((hq_32.r 0 0 (by decide) (by decide)).trans (hq_14.r 0 0 (by decide) (by decide)))).trans (hv_0_0)), ((((hq_32.r 0 1 (by decide) (by decide)).trans (hq_14.r 0 1 (by decide) (by decide)))).trans (hv_0_1)), ((((hq_32.r 6 4 (by decide) (by decide)).trans (hq_14.r 6 4 (by decide) (by decide)))).trans (hv_6_4)), by omega, by omega, by omega, by omega, by omega, by omega, by omega, by omega, by omega⟩) hB_G_31 hW hS (lv_sub hl [0, 1, 2, 3] rfl)

set_option maxHeartbeats 4000000 in
set_option maxRecDepth 100000 in
theorem law_23 {p : Program} {l : Launch} {e : Env} {s : State} {m : MethodId} {below : List Frame} {meth : Method} {c : Code} {D : va_G} {k : KT} {A : Nat → Prop} {a : Nat → Nat} {z : SK} {b L : Nat} {xs : Nat → Int32} (hL : L ≤ 3072) (C0 : lw_At p s m meth c b L xs) (hK : cK D k s) (hZ : Sx A z s) (hbA : ¬ A b) (hA : ∀ q : Nat, s.heap.size ≤ q → A q) {G : GS} {i0 : Int32} (hi0 : 0 ≤ i0.toInt) (hi6 : i0.toInt + 6 ≤ L) (hI : LI G) (hB_G : Bd G) {H : Heap} {locs : List Loc} {ls : Array Slot} (hW : Wd D k A a G H) (hS : va_S A s.heap H locs) (hl : lv_has ls 4 [(0, .ref b), (1, .ref (a 0)), (2, .ref (a 66)), (3, .int i0)]) (K : ∀ (G1 : GS) (H1 : Heap) (locs1 : List Loc) (ls1 : Array Slot), LI G1 → Bd G1 → Wd D k A a G1 H1 → va_S A s.heap H1 locs1 → lv_has ls1 4 [(0, .ref b), (1, .ref (a 0)), (2, .ref (a 66)), (3, .int i0)] → W p l e room_1 s m #[Value.ref b] below meth c H1 locs1 119 46443 (lw_Z below #[Value.ref b] s) (F0 m 1642 ls1 [])) : W p l e room_1 s m #[Value.ref b] below meth c H locs 119 46443 (lw_Z below #[Value.ref b] s) (F0 m 1274 ls []) := by
  obtain ⟨hx, hb, hr, hml, hown, hts, hX, hbl, hlocks, hgv⟩ := id C0
  have hown : s.vm.findClass RL = some m.cls := hown
  have hgd : ∀ w ∈ gd, w ∈ lw_tbl := fun w h => (List.mem_filter.mp h).1
  have hg : ∀ w ∈ gd, w.before #[Value.ref b] s = true := fun w h => hts w (hgd w h)
  rcases hI with ⟨hv_0_0, hv_0_1, hv_6_4, hj0, hj1, hj2, hj3, hj4, hj5, hj6, hj7, hj8⟩ | ⟨hv_0_0, hv_0_1, hv_6_4, hj0, hj1, hj2, hj3, hj4, hj5, hj6, hj7, hj8⟩
  · skip
    refine lv_aload_n hx hb dL_law_1274 rfl (lv_at hl 1 rfl) ?_
    refine lv_aload_n hx hb dL_law_1275 rfl (lv_at hl 0 rfl) ?_
    refine lv_iload_n hx hb dL_law_1276 rfl (lv_at hl 3 rfl) ?_
    refine lv_iconst (v := 1) hx hb dL_law_1277 (by decide) ?_
    refine lv_iadd hx hb dL_law_1278 ?_
    refine lv_topi (fun y_1 ey_1 => ?_)
    have ty_1 : y_1.toInt = i0.toInt + 1 := xI_add rfl rfl ey_1 (by omega) (by omega)
    refine va_sld hx hb hX hbl hbA hS (vin (by omega) (by omega)) dL_law_1279 ?_
    refine lv_topi (fun y_2 ey_2 => ?_)
    have u_3 : y_2.toInt = (xs (i0 + 1).toNatClampNeg).toInt := by rw [ey_2, ey_1]
    have b_4 : 0 ≤ (G.1 30 4).toInt ∧ (G.1 30 4).toInt ≤ 40 := hB_G.i 30 4 rfl rfl
    have b_5 : 0 ≤ (G.1 30 5).toInt ∧ (G.1 30 5).toInt ≤ 40 := hB_G.i 30 5 rfl rfl
    refine S_calli (va_runV (As := [.int y_2]) (rest := []) ⟨hx, hb, hml, hown, hts⟩ (k_Wgo_1 l D k A a z G y_2 hv_0_0 hv_0_1 hv_6_4 (by omega)) (cwV 1 hts (gd_V hgd m1182 m1183 m1184 m117 m1185) rfl rfl rfl (by decide +kernel) ⟨Nat.le_of_ble_eq_true rfl, Nat.le_of_ble_eq_true rfl⟩) (pre_V hW hB_G hK hZ hS kd_0 rfl) rfl rfl hl.1 rfl (lv_room (Nat.le_of_ble_eq_true rfl)) dL_law_1280 ⟨Nat.le_of_ble_eq_true rfl, Nat.le_of_ble_eq_true rfl⟩) hS (fun r_6 G_7 H locs hpo hW hS => ?_)
    obtain ⟨hB_G_7, hq_8, hp_9⟩ := hpo
    refine lv_pop hx hb dL_law_1283 rfl ?_
    refine lv_aload_n hx hb dL_law_1284 rfl (lv_at hl 2 rfl) ?_
    refine lv_aload_n hx hb dL_law_1285 rfl (lv_at hl 0 rfl) ?_
    refine lv_iload_n hx hb dL_law_1286 rfl (lv_at hl 3 rfl) ?_
    refine lv_iconst (v := 1) hx hb dL_law_1287 (by decide) ?_
    refine lv_iadd hx hb dL_law_1288 ?_
    refine lv_topi (fun y_10 ey_10 => ?_)
    have ty_10 : y_10.toInt = i0.toInt + 1 := xI_add rfl rfl ey_10 (by omega) (by omega)
    refine va_sld hx hb hX hbl hbA hS (vin (by omega) (by omega)) dL_law_1289 ?_
    refine lv_topi (fun y_11 ey_11 => ?_)
    have u_12 : y_11.toInt = (xs (i0 + 1).toNatClampNeg).toInt := by rw [ey_11, ey_10]
    have g_13 : gP G_7 = gP G := gP_fr (rs := [37, 38, 39, 58, 59]) (fs := [(6, 3), (30, 4), (30, 5)]) (Fr.rf.call hq_8 (by decide) (by decide)) (by decide) (by decide)
    have b_14 : 0 ≤ (G.1 66 78).toInt ∧ (G.1 66 78).toInt ≤ 40 := hB_G.i 66 78 rfl rfl
    have g_15 : (G_7.1 66 78).toInt = (G.1 66 78).toInt := by rw [show G_7.1 66 78 = (G.1 66 78) from (hq_8.i 66 78 (by decide) (by decide))]
    have b_16 : 0 ≤ (G.1 66 79).toInt ∧ (G.1 66 79).toInt ≤ 40 := hB_G.i 66 79 rfl rfl
    have g_17 : (G_7.1 66 79).toInt = (G.1 66 79).toInt := by rw [show G_7.1 66 79 = (G.1 66 79) from (hq_8.i 66 79 (by decide) (by decide))]
    have b_18 : 0 ≤ (G.1 96 0).toInt ∧ (G.1 96 0).toInt ≤ 9 := hB_G.i 96 0 rfl rfl
    have g_19 : (G_7.1 96 0).toInt = (G.1 96 0).toInt := by rw [show G_7.1 96 0 = (G.1 96 0) from (hq_8.i 96 0 (by decide) (by decide))]
    have b_20 : 0 ≤ (G.1 96 1).toInt ∧ (G.1 96 1).toInt ≤ 9 := hB_G.i 96 1 rfl rfl
    have g_21 : (G_7.1 96 1).toInt = (G.1 96 1).toInt := by rw [show G_7.1 96 1 = (G.1 96 1) from (hq_8.i 96 1 (by decide) (by decide))]
    have b_22 : 0 ≤ (G.1 96 2).toInt ∧ (G.1 96 2).toInt ≤ 9 := hB_G.i 96 2 rfl rfl
    have g_23 : (G_7.1 96 2).toInt = (G.1 96 2).toInt := by rw [show G_7.1 96 2 = (G.1 96 2) from (hq_8.i 96 2 (by decide) (by decide))]
    refine S_calli (va_runV (As := [.int y_11]) (rest := []) ⟨hx, hb, hml, hown, hts⟩ (n_go l D k A a z G_7 y_11 (by omega) (by omega) (by omega)) (cwV 1 hts (gd_V hgd m1999 m2000 m2001 m131 m2002) rfl rfl rfl (by decide +kernel) ⟨Nat.le_of_ble_eq_true rfl, Nat.le_of_ble_eq_true rfl⟩) (pre_V hW hB_G_7 hK hZ hS kd_66 rfl) rfl rfl hl.1 rfl (lv_room (Nat.le_of_ble_eq_true rfl)) dL_law_1290 ⟨Nat.le_of_ble_eq_true rfl, Nat.le_of_ble_eq_true rfl⟩) hS (fun r_24 G_25 H locs hpo hW hS => ?_)
    obtain ⟨hB_G_25, hq_26, hp_27⟩ := hpo
    refine lv_pop hx hb dL_law_1293 rfl ?_
    refine lv_goto (tgt := 1642) hx hb dL_law_1294 (by decide) ?_
    have g_28 : gO G_25 = gO G := gO_fr (rs := [37, 38, 39, 58, 59, 76, 97, 98, 110, 111]) (fs := [(6, 3), (30, 4), (30, 5), (66, 59), (66, 60), (66, 61), (66, 62), (66, 63), (66, 78), (66, 79)]) ((Fr.rf.call hq_8 (by decide) (by decide)).call hq_26 (by decide) (by decide)) (by decide) (by decide)
    have g_29 : gP G_25 = gP G := gP_fr (rs := [37, 38, 39, 58, 59, 76, 97, 98, 110, 111]) (fs := [(6, 3), (30, 4), (30, 5), (66, 59), (66, 60), (66, 61), (66, 62), (66, 63), (66, 78), (66, 79)]) ((Fr.rf.call hq_8 (by decide) (by decide)).call hq_26 (by decide) (by decide)) (by decide) (by decide)
    have g_30 : gS G_25 = gS G := gS_fr (rs := [37, 38, 39, 58, 59, 76, 97, 98, 110, 111]) (fs := [(6, 3), (30, 4), (30, 5), (66, 59), (66, 60), (66, 61), (66, 62), (66, 63), (66, 78), (66, 79)]) ((Fr.rf.call hq_8 (by decide) (by decide)).call hq_26 (by decide) (by decide)) (by decide) (by decide)
    have g_31 : gW G_25 = gW G := gW_fr (rs := [37, 38, 39, 58, 59, 76, 97, 98, 110, 111]) (fs := [(6, 3), (30, 4), (30, 5), (66, 59), (66, 60), (66, 61), (66, 62), (66, 63), (66, 78), (66, 79)]) ((Fr.rf.call hq_8 (by decide) (by decide)).call hq_26 (by decide) (by decide)) (by decide) (by decide)
    have b_32 : 0 ≤ (G.1 0 11).toInt ∧ (G.1 0 11).toInt ≤ 1600 := hB_G.i 0 11 rfl rfl
    have g_33 : (G_25.1 0 11).toInt = (G.1 0 11).toInt := by rw [show G_25.1 0 11 = (G.1 0 11) from ((hq_26.i 0 11 (by decide) (by decide)).trans (hq_8.i 0 11 (by decide) (by decide)))]
    have b_34 : 0 ≤ (G_7.1 30 4).toInt ∧ (G_7.1 30 4).toInt ≤ 40 := hB_G_7.i 30 4 rfl rfl
    have g_35 : (G_25.1 30 4).toInt = (G_7.1 30 4).toInt := by rw [show G_25.1 30 4 = (G_7.1 30 4) from (hq_26.i 30 4 (by decide) (by decide))]
    have b_36 : 0 ≤ (G_7.1 30 5).toInt ∧ (G_7.1 30 5).toInt ≤ 40 := hB_G_7.i 30 5 rfl rfl
    have g_37 : (G_25.1 30 5).toInt = (G_7.1 30 5).toInt := by rw [show G_25.1 30 5 = (G_7.1 30 5) from (hq_26.i 30 5 (by decide) (by decide))]
    have b_38 : 0 ≤ (G.1 31 6).toInt ∧ (G.1 31 6).toInt ≤ 100000 := hB_G.i 31 6 rfl rfl
    have g_39 : (G_25.1 31 6).toInt = (G.1 31 6).toInt := by rw [show G_25.1 31 6 = (G.1 31 6) from ((hq_26.i 31 6 (by decide) (by decide)).trans (hq_8.i 31 6 (by decide) (by decide)))]
    have b_40 : 0 ≤ (G.1 66 1).toInt ∧ (G.1 66 1).toInt ≤ 1600 := hB_G.i 66 1 rfl rfl
    have g_41 : (G_25.1 66 1).toInt = (G.1 66 1).toInt := by rw [show G_25.1 66 1 = (G.1 66 1) from ((hq_26.i 66 1 (by decide) (by decide)).trans (hq_8.i 66 1 (by decide) (by decide)))]
    have b_42 : 0 ≤ (G_25.1 66 78).toInt ∧ (G_25.1 66 78).toInt ≤ 40 := hB_G_25.i 66 78 rfl rfl
    have b_43 : 0 ≤ (G_25.1 66 79).toInt ∧ (G_25.1 66 79).toInt ≤ 40 := hB_G_25.i 66 79 rfl rfl
    have b_44 : 0 ≤ (G.1 66 86).toInt ∧ (G.1 66 86).toInt ≤ 100000 := hB_G.i 66 86 rfl rfl
    have g_45 : (G_25.1 66 86).toInt = (G.1 66 86).toInt := by rw [show G_25.1 66 86 = (G.1 66 86) from ((hq_26.i 66 86 (by decide) (by decide)).trans (hq_8.i 66 86 (by decide) (by decide)))]
    have g_46 : (G_25.1 96 0).toInt = (G.1 96 0).toInt := by rw [show G_25.1 96 0 = (G.1 96 0) from ((hq_26.i 96 0 (by decide) (by decide)).trans ((hq_8.i 96 0 (by decide) (by decide)).trans (rfl)))]
    have g_47 : (G_25.1 96 1).toInt = (G.1 96 1).toInt := by rw [show G_25.1 96 1 = (G.1 96 1) from ((hq_26.i 96 1 (by decide) (by decide)).trans ((hq_8.i 96 1 (by decide) (by decide)).trans (rfl)))]
    have g_48 : (G_25.1 96 2).toInt = (G.1 96 2).toInt := by rw [show G_25.1 96 2 = (G.1 96 2) from ((hq_26.i 96 2 (by decide) (by decide)).trans ((hq_8.i 96 2 (by decide) (by decide)).trans (rfl)))]
    exact K G_25 _ _ _ (Or.inl ⟨((((hq_26.r 0 0 (by decide) (by decide)).trans (hq_8.r 0 0 (by decide) (by decide)))).trans (hv_0_0)), ((((hq_26.r 0 1 (by decide) (by decide)).trans (hq_8.r 0 1 (by decide) (by decide)))).trans (hv_0_1)), ((((hq_26.r 6 4 (by decide) (by decide)).trans (hq_8.r 6 4 (by decide) (by decide)))).trans (hv_6_4)), by omega, by omega, by omega, by omega, by omega, by omega, by omega, by omega, by omega⟩) hB_G_25 hW hS (lv_sub hl [0, 1, 2, 3] rfl)
  · skip
    refine lv_aload_n hx hb dL_law_1274 rfl (lv_at hl 1 rfl) ?_
    refine lv_aload_n hx hb dL_law_1275 rfl (lv_at hl 0 rfl) ?_
    refine lv_iload_n hx hb dL_law_1276 rfl (lv_at hl 3 rfl) ?_
    refine lv_iconst (v := 1) hx hb dL_law_1277 (by decide) ?_
    refine lv_iadd hx hb dL_law_1278 ?_
    refine lv_topi (fun y_1 ey_1 => ?_)
    have ty_1 : y_1.toInt = i0.toInt + 1 := xI_add rfl rfl ey_1 (by omega) (by omega)
    refine va_sld hx hb hX hbl hbA hS (vin (by omega) (by omega)) dL_law_1279 ?_
    refine lv_topi (fun y_2 ey_2 => ?_)
    have u_3 : y_2.toInt = (xs (i0 + 1).toNatClampNeg).toInt := by rw [ey_2, ey_1]
    have b_4 : 0 ≤ (G.1 30 4).toInt ∧ (G.1 30 4).toInt ≤ 40 := hB_G.i 30 4 rfl rfl
    have b_5 : 0 ≤ (G.1 30 5).toInt ∧ (G.1 30 5).toInt ≤ 40 := hB_G.i 30 5 rfl rfl
    refine S_calli (va_runV (As := [.int y_2]) (rest := []) ⟨hx, hb, hml, hown, hts⟩ (k_Wgo_2 l D k A a z G y_2 hv_0_0 hv_0_1 hv_6_4 (by omega)) (cwV 1 hts (gd_V hgd m1182 m1183 m1184 m117 m1185) rfl rfl rfl (by decide +kernel) ⟨Nat.le_of_ble_eq_true rfl, Nat.le_of_ble_eq_true rfl⟩) (pre_V hW hB_G hK hZ hS kd_0 rfl) rfl rfl hl.1 rfl (lv_room (Nat.le_of_ble_eq_true rfl)) dL_law_1280 ⟨Nat.le_of_ble_eq_true rfl, Nat.le_of_ble_eq_true rfl⟩) hS (fun r_6 G_7 H locs hpo hW hS => ?_)
    obtain ⟨hB_G_7, hq_8, hp_9⟩ := hpo
    refine lv_pop hx hb dL_law_1283 rfl ?_
    refine lv_aload_n hx hb dL_law_1284 rfl (lv_at hl 2 rfl) ?_
    refine lv_aload_n hx hb dL_law_1285 rfl (lv_at hl 0 rfl) ?_
    refine lv_iload_n hx hb dL_law_1286 rfl (lv_at hl 3 rfl) ?_
    refine lv_iconst (v := 1) hx hb dL_law_1287 (by decide) ?_
    refine lv_iadd hx hb dL_law_1288 ?_
    refine lv_topi (fun y_10 ey_10 => ?_)
    have ty_10 : y_10.toInt = i0.toInt + 1 := xI_add rfl rfl ey_10 (by omega) (by omega)
    refine va_sld hx hb hX hbl hbA hS (vin (by omega) (by omega)) dL_law_1289 ?_
    refine lv_topi (fun y_11 ey_11 => ?_)
    have u_12 : y_11.toInt = (xs (i0 + 1).toNatClampNeg).toInt := by rw [ey_11, ey_10]
    have g_13 : gP G_7 = gP G := gP_fr (rs := [37, 38, 39, 58, 59]) (fs := [(6, 3), (30, 4), (30, 5)]) (Fr.rf.call hq_8 (by decide) (by decide)) (by decide) (by decide)
    have b_14 : 0 ≤ (G.1 66 78).toInt ∧ (G.1 66 78).toInt ≤ 40 := hB_G.i 66 78 rfl rfl
    have g_15 : (G_7.1 66 78).toInt = (G.1 66 78).toInt := by rw [show G_7.1 66 78 = (G.1 66 78) from (hq_8.i 66 78 (by decide) (by decide))]
    have b_16 : 0 ≤ (G.1 66 79).toInt ∧ (G.1 66 79).toInt ≤ 40 := hB_G.i 66 79 rfl rfl
    have g_17 : (G_7.1 66 79).toInt = (G.1 66 79).toInt := by rw [show G_7.1 66 79 = (G.1 66 79) from (hq_8.i 66 79 (by decide) (by decide))]
    have b_18 : 0 ≤ (G.1 96 0).toInt ∧ (G.1 96 0).toInt ≤ 9 := hB_G.i 96 0 rfl rfl
    have g_19 : (G_7.1 96 0).toInt = (G.1 96 0).toInt := by rw [show G_7.1 96 0 = (G.1 96 0) from (hq_8.i 96 0 (by decide) (by decide))]
    have b_20 : 0 ≤ (G.1 96 1).toInt ∧ (G.1 96 1).toInt ≤ 9 := hB_G.i 96 1 rfl rfl
    have g_21 : (G_7.1 96 1).toInt = (G.1 96 1).toInt := by rw [show G_7.1 96 1 = (G.1 96 1) from (hq_8.i 96 1 (by decide) (by decide))]
    have b_22 : 0 ≤ (G.1 96 2).toInt ∧ (G.1 96 2).toInt ≤ 9 := hB_G.i 96 2 rfl rfl
    have g_23 : (G_7.1 96 2).toInt = (G.1 96 2).toInt := by rw [show G_7.1 96 2 = (G.1 96 2) from (hq_8.i 96 2 (by decide) (by decide))]
    refine S_calli (va_runV (As := [.int y_11]) (rest := []) ⟨hx, hb, hml, hown, hts⟩ (n_go l D k A a z G_7 y_11 (by omega) (by omega) (by omega)) (cwV 1 hts (gd_V hgd m1999 m2000 m2001 m131 m2002) rfl rfl rfl (by decide +kernel) ⟨Nat.le_of_ble_eq_true rfl, Nat.le_of_ble_eq_true rfl⟩) (pre_V hW hB_G_7 hK hZ hS kd_66 rfl) rfl rfl hl.1 rfl (lv_room (Nat.le_of_ble_eq_true rfl)) dL_law_1290 ⟨Nat.le_of_ble_eq_true rfl, Nat.le_of_ble_eq_true rfl⟩) hS (fun r_24 G_25 H locs hpo hW hS => ?_)
    obtain ⟨hB_G_25, hq_26, hp_27⟩ := hpo
    refine lv_pop hx hb dL_law_1293 rfl ?_
    refine lv_goto (tgt := 1642) hx hb dL_law_1294 (by decide) ?_
    have g_28 : gO G_25 = gO G := gO_fr (rs := [37, 38, 39, 58, 59, 76, 97, 98, 110, 111]) (fs := [(6, 3), (30, 4), (30, 5), (66, 59), (66, 60), (66, 61), (66, 62), (66, 63), (66, 78), (66, 79)]) ((Fr.rf.call hq_8 (by decide) (by decide)).call hq_26 (by decide) (by decide)) (by decide) (by decide)
    have g_29 : gP G_25 = gP G := gP_fr (rs := [37, 38, 39, 58, 59, 76, 97, 98, 110, 111]) (fs := [(6, 3), (30, 4), (30, 5), (66, 59), (66, 60), (66, 61), (66, 62), (66, 63), (66, 78), (66, 79)]) ((Fr.rf.call hq_8 (by decide) (by decide)).call hq_26 (by decide) (by decide)) (by decide) (by decide)
    have g_30 : gS G_25 = gS G := gS_fr (rs := [37, 38, 39, 58, 59, 76, 97, 98, 110, 111]) (fs := [(6, 3), (30, 4), (30, 5), (66, 59), (66, 60), (66, 61), (66, 62), (66, 63), (66, 78), (66, 79)]) ((Fr.rf.call hq_8 (by decide) (by decide)).call hq_26 (by decide) (by decide)) (by decide) (by decide)
    have g_31 : gW G_25 = gW G := gW_fr (rs := [37, 38, 39, 58, 59, 76, 97, 98, 110, 111]) (fs := [(6, 3), (30, 4), (30, 5), (66, 59), (66, 60), (66, 61), (66, 62), (66, 63), (66, 78), (66, 79)]) ((Fr.rf.call hq_8 (by decide) (by decide)).call hq_26 (by decide) (by decide)) (by decide) (by decide)
    have b_32 : 0 ≤ (G.1 0 11).toInt ∧ (G.1 0 11).toInt ≤ 1600 := hB_G.i 0 11 rfl rfl
    have g_33 : (G_25.1 0 11).toInt = (G.1 0 11).toInt := by rw [show G_25.1 0 11 = (G.1 0 11) from ((hq_26.i 0 11 (by decide) (by decide)).trans (hq_8.i 0 11 (by decide) (by decide)))]
    have b_34 : 0 ≤ (G_7.1 30 4).toInt ∧ (G_7.1 30 4).toInt ≤ 40 := hB_G_7.i 30 4 rfl rfl
    have g_35 : (G_25.1 30 4).toInt = (G_7.1 30 4).toInt := by rw [show G_25.1 30 4 = (G_7.1 30 4) from (hq_26.i 30 4 (by decide) (by decide))]
    have b_36 : 0 ≤ (G_7.1 30 5).toInt ∧ (G_7.1 30 5).toInt ≤ 40 := hB_G_7.i 30 5 rfl rfl
    have g_37 : (G_25.1 30 5).toInt = (G_7.1 30 5).toInt := by rw [show G_25.1 30 5 = (G_7.1 30 5) from (hq_26.i 30 5 (by decide) (by decide))]
    have b_38 : 0 ≤ (G.1 31 6).toInt ∧ (G.1 31 6).toInt ≤ 100000 := hB_G.i 31 6 rfl rfl
    have g_39 : (G_25.1 31 6).toInt = (G.1 31 6).toInt := by rw [show G_25.1 31 6 = (G.1 31 6) from ((hq_26.i 31 6 (by decide) (by decide)).trans (hq_8.i 31 6 (by decide) (by decide)))]
    have b_40 : 0 ≤ (G.1 66 1).toInt ∧ (G.1 66 1).toInt ≤ 1600 := hB_G.i 66 1 rfl rfl
    have g_41 : (G_25.1 66 1).toInt = (G.1 66 1).toInt := by rw [show G_25.1 66 1 = (G.1 66 1) from ((hq_26.i 66 1 (by decide) (by decide)).trans (hq_8.i 66 1 (by decide) (by decide)))]
    have b_42 : 0 ≤ (G_25.1 66 78).toInt ∧ (G_25.1 66 78).toInt ≤ 40 := hB_G_25.i 66 78 rfl rfl
    have b_43 : 0 ≤ (G_25.1 66 79).toInt ∧ (G_25.1 66 79).toInt ≤ 40 := hB_G_25.i 66 79 rfl rfl
    have b_44 : 0 ≤ (G.1 66 86).toInt ∧ (G.1 66 86).toInt ≤ 100000 := hB_G.i 66 86 rfl rfl
    have g_45 : (G_25.1 66 86).toInt = (G.1 66 86).toInt := by rw [show G_25.1 66 86 = (G.1 66 86) from ((hq_26.i 66 86 (by decide) (by decide)).trans (hq_8.i 66 86 (by decide) (by decide)))]
    have g_46 : (G_25.1 96 0).toInt = (G.1 96 0).toInt := by rw [show G_25.1 96 0 = (G.1 96 0) from ((hq_26.i 96 0 (by decide) (by decide)).trans ((hq_8.i 96 0 (by decide) (by decide)).trans (rfl)))]
    have g_47 : (G_25.1 96 1).toInt = (G.1 96 1).toInt := by rw [show G_25.1 96 1 = (G.1 96 1) from ((hq_26.i 96 1 (by decide) (by decide)).trans ((hq_8.i 96 1 (by decide) (by decide)).trans (rfl)))]
    have g_48 : (G_25.1 96 2).toInt = (G.1 96 2).toInt := by rw [show G_25.1 96 2 = (G.1 96 2) from ((hq_26.i 96 2 (by decide) (by decide)).trans ((hq_8.i 96 2 (by decide) (by decide)).trans (rfl)))]
    exact K G_25 _ _ _ (Or.inr ⟨((((hq_26.r 0 0 (by decide) (by decide)).trans (hq_8.r 0 0 (by decide) (by decide)))).trans (hv_0_0)), ((((hq_26.r 0 1 (by decide) (by decide)).trans (hq_8.r 0 1 (by decide) (by decide)))).trans (hv_0_1)), ((((hq_26.r 6 4 (by decide) (by decide)).trans (hq_8.r 6 4 (by decide) (by decide)))).trans (hv_6_4)), by omega, by omega, by omega, by omega, by omega, by omega, by omega, by omega, by omega⟩) hB_G_25 hW hS (lv_sub hl [0, 1, 2, 3] rfl)

set_option maxHeartbeats 4000000 in
set_option maxRecDepth 100000 in
theorem law_24 {p : Program} {l : Launch} {e : Env} {s : State} {m : MethodId} {below : List Frame} {meth : Method} {c : Code} {D : va_G} {k : KT} {A : Nat → Prop} {a : Nat → Nat} {z : SK} {b L : Nat} {xs : Nat → Int32} (hL : L ≤ 3072) (C0 : lw_At p s m meth c b L xs) (hK : cK D k s) (hZ : Sx A z s) (hbA : ¬ A b) (hA : ∀ q : Nat, s.heap.size ≤ q → A q) {G : GS} {i0 : Int32} (hi0 : 0 ≤ i0.toInt) (hi6 : i0.toInt + 6 ≤ L) (hI : LI G) (hB_G : Bd G) {H : Heap} {locs : List Loc} {ls : Array Slot} (hW : Wd D k A a G H) (hS : va_S A s.heap H locs) (hl : lv_has ls 4 [(0, .ref b), (1, .ref (a 0)), (2, .ref (a 66)), (3, .int i0)]) (K : ∀ (G1 : GS) (H1 : Heap) (locs1 : List Loc) (ls1 : Array Slot), LI G1 → Bd G1 → Wd D k A a G1 H1 → va_S A s.heap H1 locs1 → lv_has ls1 4 [(0, .ref b), (1, .ref (a 0)), (2, .ref (a 66)), (3, .int i0)] → W p l e room_1 s m #[Value.ref b] below meth c H1 locs1 119 46443 (lw_Z below #[Value.ref b] s) (F0 m 1642 ls1 [])) : W p l e room_1 s m #[Value.ref b] below meth c H locs 119 46443 (lw_Z below #[Value.ref b] s) (F0 m 1297 ls []) := by
  obtain ⟨hx, hb, hr, hml, hown, hts, hX, hbl, hlocks, hgv⟩ := id C0
  have hown : s.vm.findClass RL = some m.cls := hown
  have hgd : ∀ w ∈ gd, w ∈ lw_tbl := fun w h => (List.mem_filter.mp h).1
  have hg : ∀ w ∈ gd, w.before #[Value.ref b] s = true := fun w h => hts w (hgd w h)
  rcases hI with ⟨hv_0_0, hv_0_1, hv_6_4, hj0, hj1, hj2, hj3, hj4, hj5, hj6, hj7, hj8⟩ | ⟨hv_0_0, hv_0_1, hv_6_4, hj0, hj1, hj2, hj3, hj4, hj5, hj6, hj7, hj8⟩
  · skip
    refine lv_aload_n hx hb dL_law_1297 rfl (lv_at hl 1 rfl) ?_
    refine lv_aload_n hx hb dL_law_1298 rfl (lv_at hl 0 rfl) ?_
    refine lv_iload_n hx hb dL_law_1299 rfl (lv_at hl 3 rfl) ?_
    refine lv_iconst (v := 1) hx hb dL_law_1300 (by decide) ?_
    refine lv_iadd hx hb dL_law_1301 ?_
    refine lv_topi (fun y_1 ey_1 => ?_)
    have ty_1 : y_1.toInt = i0.toInt + 1 := xI_add rfl rfl ey_1 (by omega) (by omega)
    refine va_sld hx hb hX hbl hbA hS (vin (by omega) (by omega)) dL_law_1302 ?_
    refine lv_topi (fun y_2 ey_2 => ?_)
    have u_3 : y_2.toInt = (xs (i0 + 1).toNatClampNeg).toInt := by rw [ey_2, ey_1]
    have b_4 : 0 ≤ (G.1 30 4).toInt ∧ (G.1 30 4).toInt ≤ 40 := hB_G.i 30 4 rfl rfl
    have b_5 : 0 ≤ (G.1 30 5).toInt ∧ (G.1 30 5).toInt ≤ 40 := hB_G.i 30 5 rfl rfl
    refine S_calli (va_runV (As := [.int y_2]) (rest := []) ⟨hx, hb, hml, hown, hts⟩ (k_Wforce_1 l D k A a z G y_2 hv_0_0 hv_0_1 hv_6_4 (by omega)) (cwV 1 hts (gd_V hgd m1202 m1203 m1204 m117 m1205) rfl rfl rfl (by decide +kernel) ⟨Nat.le_of_ble_eq_true rfl, Nat.le_of_ble_eq_true rfl⟩) (pre_V hW hB_G hK hZ hS kd_0 rfl) rfl rfl hl.1 rfl (lv_room (Nat.le_of_ble_eq_true rfl)) dL_law_1303 ⟨Nat.le_of_ble_eq_true rfl, Nat.le_of_ble_eq_true rfl⟩) hS (fun r_6 G_7 H locs hpo hW hS => ?_)
    obtain ⟨hB_G_7, hq_8, hp_9⟩ := hpo
    refine lv_pop hx hb dL_law_1306 rfl ?_
    refine lv_aload_n hx hb dL_law_1307 rfl (lv_at hl 2 rfl) ?_
    refine lv_aload_n hx hb dL_law_1308 rfl (lv_at hl 0 rfl) ?_
    refine lv_iload_n hx hb dL_law_1309 rfl (lv_at hl 3 rfl) ?_
    refine lv_iconst (v := 1) hx hb dL_law_1310 (by decide) ?_
    refine lv_iadd hx hb dL_law_1311 ?_
    refine lv_topi (fun y_10 ey_10 => ?_)
    have ty_10 : y_10.toInt = i0.toInt + 1 := xI_add rfl rfl ey_10 (by omega) (by omega)
    refine va_sld hx hb hX hbl hbA hS (vin (by omega) (by omega)) dL_law_1312 ?_
    refine lv_topi (fun y_11 ey_11 => ?_)
    have u_12 : y_11.toInt = (xs (i0 + 1).toNatClampNeg).toInt := by rw [ey_11, ey_10]
    have b_13 : 0 ≤ (G.1 66 78).toInt ∧ (G.1 66 78).toInt ≤ 40 := hB_G.i 66 78 rfl rfl
    have g_14 : (G_7.1 66 78).toInt = (G.1 66 78).toInt := by rw [show G_7.1 66 78 = (G.1 66 78) from (hq_8.i 66 78 (by decide) (by decide))]
    have b_15 : 0 ≤ (G.1 66 79).toInt ∧ (G.1 66 79).toInt ≤ 40 := hB_G.i 66 79 rfl rfl
    have g_16 : (G_7.1 66 79).toInt = (G.1 66 79).toInt := by rw [show G_7.1 66 79 = (G.1 66 79) from (hq_8.i 66 79 (by decide) (by decide))]
    refine S_calli (va_runV (As := [.int y_11]) (rest := []) ⟨hx, hb, hml, hown, hts⟩ (n_force l D k A a z G_7 y_11 (by omega)) (cwV 1 hts (gd_V hgd m2003 m2004 m2005 m131 m2006) rfl rfl rfl (by decide +kernel) ⟨Nat.le_of_ble_eq_true rfl, Nat.le_of_ble_eq_true rfl⟩) (pre_V hW hB_G_7 hK hZ hS kd_66 rfl) rfl rfl hl.1 rfl (lv_room (Nat.le_of_ble_eq_true rfl)) dL_law_1313 ⟨Nat.le_of_ble_eq_true rfl, Nat.le_of_ble_eq_true rfl⟩) hS (fun r_17 G_18 H locs hpo hW hS => ?_)
    obtain ⟨hB_G_18, hq_19, hp_20⟩ := hpo
    refine lv_pop hx hb dL_law_1316 rfl ?_
    refine lv_goto (tgt := 1642) hx hb dL_law_1317 (by decide) ?_
    have g_21 : gO G_18 = gO G := gO_fr (rs := [58, 59, 110, 111]) (fs := [(30, 4), (30, 5), (66, 78), (66, 79)]) ((Fr.rf.call hq_8 (by decide) (by decide)).call hq_19 (by decide) (by decide)) (by decide) (by decide)
    have g_22 : gP G_18 = gP G := gP_fr (rs := [58, 59, 110, 111]) (fs := [(30, 4), (30, 5), (66, 78), (66, 79)]) ((Fr.rf.call hq_8 (by decide) (by decide)).call hq_19 (by decide) (by decide)) (by decide) (by decide)
    have g_23 : gS G_18 = gS G := gS_fr (rs := [58, 59, 110, 111]) (fs := [(30, 4), (30, 5), (66, 78), (66, 79)]) ((Fr.rf.call hq_8 (by decide) (by decide)).call hq_19 (by decide) (by decide)) (by decide) (by decide)
    have g_24 : gW G_18 = gW G := gW_fr (rs := [58, 59, 110, 111]) (fs := [(30, 4), (30, 5), (66, 78), (66, 79)]) ((Fr.rf.call hq_8 (by decide) (by decide)).call hq_19 (by decide) (by decide)) (by decide) (by decide)
    have b_25 : 0 ≤ (G.1 0 11).toInt ∧ (G.1 0 11).toInt ≤ 1600 := hB_G.i 0 11 rfl rfl
    have g_26 : (G_18.1 0 11).toInt = (G.1 0 11).toInt := by rw [show G_18.1 0 11 = (G.1 0 11) from ((hq_19.i 0 11 (by decide) (by decide)).trans (hq_8.i 0 11 (by decide) (by decide)))]
    have b_27 : 0 ≤ (G_7.1 30 4).toInt ∧ (G_7.1 30 4).toInt ≤ 40 := hB_G_7.i 30 4 rfl rfl
    have g_28 : (G_18.1 30 4).toInt = (G_7.1 30 4).toInt := by rw [show G_18.1 30 4 = (G_7.1 30 4) from (hq_19.i 30 4 (by decide) (by decide))]
    have b_29 : 0 ≤ (G_7.1 30 5).toInt ∧ (G_7.1 30 5).toInt ≤ 40 := hB_G_7.i 30 5 rfl rfl
    have g_30 : (G_18.1 30 5).toInt = (G_7.1 30 5).toInt := by rw [show G_18.1 30 5 = (G_7.1 30 5) from (hq_19.i 30 5 (by decide) (by decide))]
    have b_31 : 0 ≤ (G.1 31 6).toInt ∧ (G.1 31 6).toInt ≤ 100000 := hB_G.i 31 6 rfl rfl
    have g_32 : (G_18.1 31 6).toInt = (G.1 31 6).toInt := by rw [show G_18.1 31 6 = (G.1 31 6) from ((hq_19.i 31 6 (by decide) (by decide)).trans (hq_8.i 31 6 (by decide) (by decide)))]
    have b_33 : 0 ≤ (G.1 66 1).toInt ∧ (G.1 66 1).toInt ≤ 1600 := hB_G.i 66 1 rfl rfl
    have g_34 : (G_18.1 66 1).toInt = (G.1 66 1).toInt := by rw [show G_18.1 66 1 = (G.1 66 1) from ((hq_19.i 66 1 (by decide) (by decide)).trans (hq_8.i 66 1 (by decide) (by decide)))]
    have b_35 : 0 ≤ (G_18.1 66 78).toInt ∧ (G_18.1 66 78).toInt ≤ 40 := hB_G_18.i 66 78 rfl rfl
    have b_36 : 0 ≤ (G_18.1 66 79).toInt ∧ (G_18.1 66 79).toInt ≤ 40 := hB_G_18.i 66 79 rfl rfl
    have b_37 : 0 ≤ (G.1 66 86).toInt ∧ (G.1 66 86).toInt ≤ 100000 := hB_G.i 66 86 rfl rfl
    have g_38 : (G_18.1 66 86).toInt = (G.1 66 86).toInt := by rw [show G_18.1 66 86 = (G.1 66 86) from ((hq_19.i 66 86 (by decide) (by decide)).trans (hq_8.i 66 86 (by decide) (by decide)))]
    have b_39 : 0 ≤ (G.1 96 0).toInt ∧ (G.1 96 0).toInt ≤ 9 := hB_G.i 96 0 rfl rfl
    have g_40 : (G_18.1 96 0).toInt = (G.1 96 0).toInt := by rw [show G_18.1 96 0 = (G.1 96 0) from ((hq_19.i 96 0 (by decide) (by decide)).trans (hq_8.i 96 0 (by decide) (by decide)))]
    have b_41 : 0 ≤ (G.1 96 1).toInt ∧ (G.1 96 1).toInt ≤ 9 := hB_G.i 96 1 rfl rfl
    have g_42 : (G_18.1 96 1).toInt = (G.1 96 1).toInt := by rw [show G_18.1 96 1 = (G.1 96 1) from ((hq_19.i 96 1 (by decide) (by decide)).trans (hq_8.i 96 1 (by decide) (by decide)))]
    have b_43 : 0 ≤ (G.1 96 2).toInt ∧ (G.1 96 2).toInt ≤ 9 := hB_G.i 96 2 rfl rfl
    have g_44 : (G_18.1 96 2).toInt = (G.1 96 2).toInt := by rw [show G_18.1 96 2 = (G.1 96 2) from ((hq_19.i 96 2 (by decide) (by decide)).trans (hq_8.i 96 2 (by decide) (by decide)))]
    exact K G_18 _ _ _ (Or.inl ⟨((((hq_19.r 0 0 (by decide) (by decide)).trans (hq_8.r 0 0 (by decide) (by decide)))).trans (hv_0_0)), ((((hq_19.r 0 1 (by decide) (by decide)).trans (hq_8.r 0 1 (by decide) (by decide)))).trans (hv_0_1)), ((((hq_19.r 6 4 (by decide) (by decide)).trans (hq_8.r 6 4 (by decide) (by decide)))).trans (hv_6_4)), by omega, by omega, by omega, by omega, by omega, by omega, by omega, by omega, by omega⟩) hB_G_18 hW hS (lv_sub hl [0, 1, 2, 3] rfl)
  · skip
    refine lv_aload_n hx hb dL_law_1297 rfl (lv_at hl 1 rfl) ?_
    refine lv_aload_n hx hb dL_law_1298 rfl (lv_at hl 0 rfl) ?_
    refine lv_iload_n hx hb dL_law_1299 rfl (lv_at hl 3 rfl) ?_
    refine lv_iconst (v := 1) hx hb dL_law_1300 (by decide) ?_
    refine lv_iadd hx hb dL_law_1301 ?_
    refine lv_topi (fun y_1 ey_1 => ?_)
    have ty_1 : y_1.toInt = i0.toInt + 1 := xI_add rfl rfl ey_1 (by omega) (by omega)
    refine va_sld hx hb hX hbl hbA hS (vin (by omega) (by omega)) dL_law_1302 ?_
    refine lv_topi (fun y_2 ey_2 => ?_)
    have u_3 : y_2.toInt = (xs (i0 + 1).toNatClampNeg).toInt := by rw [ey_2, ey_1]
    have b_4 : 0 ≤ (G.1 30 4).toInt ∧ (G.1 30 4).toInt ≤ 40 := hB_G.i 30 4 rfl rfl
    have b_5 : 0 ≤ (G.1 30 5).toInt ∧ (G.1 30 5).toInt ≤ 40 := hB_G.i 30 5 rfl rfl
    refine S_calli (va_runV (As := [.int y_2]) (rest := []) ⟨hx, hb, hml, hown, hts⟩ (k_Wforce_2 l D k A a z G y_2 hv_0_0 hv_0_1 hv_6_4 (by omega)) (cwV 1 hts (gd_V hgd m1202 m1203 m1204 m117 m1205) rfl rfl rfl (by decide +kernel) ⟨Nat.le_of_ble_eq_true rfl, Nat.le_of_ble_eq_true rfl⟩) (pre_V hW hB_G hK hZ hS kd_0 rfl) rfl rfl hl.1 rfl (lv_room (Nat.le_of_ble_eq_true rfl)) dL_law_1303 ⟨Nat.le_of_ble_eq_true rfl, Nat.le_of_ble_eq_true rfl⟩) hS (fun r_6 G_7 H locs hpo hW hS => ?_)
    obtain ⟨hB_G_7, hq_8, hp_9⟩ := hpo
    refine lv_pop hx hb dL_law_1306 rfl ?_
    refine lv_aload_n hx hb dL_law_1307 rfl (lv_at hl 2 rfl) ?_
    refine lv_aload_n hx hb dL_law_1308 rfl (lv_at hl 0 rfl) ?_
    refine lv_iload_n hx hb dL_law_1309 rfl (lv_at hl 3 rfl) ?_
    refine lv_iconst (v := 1) hx hb dL_law_1310 (by decide) ?_
    refine lv_iadd hx hb dL_law_1311 ?_
    refine lv_topi (fun y_10 ey_10 => ?_)
    have ty_10 : y_10.toInt = i0.toInt + 1 := xI_add rfl rfl ey_10 (by omega) (by omega)
    refine va_sld hx hb hX hbl hbA hS (vin (by omega) (by omega)) dL_law_1312 ?_
    refine lv_topi (fun y_11 ey_11 => ?_)
    have u_12 : y_11.toInt = (xs (i0 + 1).toNatClampNeg).toInt := by rw [ey_11, ey_10]
    have b_13 : 0 ≤ (G.1 66 78).toInt ∧ (G.1 66 78).toInt ≤ 40 := hB_G.i 66 78 rfl rfl
    have g_14 : (G_7.1 66 78).toInt = (G.1 66 78).toInt := by rw [show G_7.1 66 78 = (G.1 66 78) from (hq_8.i 66 78 (by decide) (by decide))]
    have b_15 : 0 ≤ (G.1 66 79).toInt ∧ (G.1 66 79).toInt ≤ 40 := hB_G.i 66 79 rfl rfl
    have g_16 : (G_7.1 66 79).toInt = (G.1 66 79).toInt := by rw [show G_7.1 66 79 = (G.1 66 79) from (hq_8.i 66 79 (by decide) (by decide))]
    refine S_calli (va_runV (As := [.int y_11]) (rest := []) ⟨hx, hb, hml, hown, hts⟩ (n_force l D k A a z G_7 y_11 (by omega)) (cwV 1 hts (gd_V hgd m2003 m2004 m2005 m131 m2006) rfl rfl rfl (by decide +kernel) ⟨Nat.le_of_ble_eq_true rfl, Nat.le_of_ble_eq_true rfl⟩) (pre_V hW hB_G_7 hK hZ hS kd_66 rfl) rfl rfl hl.1 rfl (lv_room (Nat.le_of_ble_eq_true rfl)) dL_law_1313 ⟨Nat.le_of_ble_eq_true rfl, Nat.le_of_ble_eq_true rfl⟩) hS (fun r_17 G_18 H locs hpo hW hS => ?_)
    obtain ⟨hB_G_18, hq_19, hp_20⟩ := hpo
    refine lv_pop hx hb dL_law_1316 rfl ?_
    refine lv_goto (tgt := 1642) hx hb dL_law_1317 (by decide) ?_
    have g_21 : gO G_18 = gO G := gO_fr (rs := [58, 59, 110, 111]) (fs := [(30, 4), (30, 5), (66, 78), (66, 79)]) ((Fr.rf.call hq_8 (by decide) (by decide)).call hq_19 (by decide) (by decide)) (by decide) (by decide)
    have g_22 : gP G_18 = gP G := gP_fr (rs := [58, 59, 110, 111]) (fs := [(30, 4), (30, 5), (66, 78), (66, 79)]) ((Fr.rf.call hq_8 (by decide) (by decide)).call hq_19 (by decide) (by decide)) (by decide) (by decide)
    have g_23 : gS G_18 = gS G := gS_fr (rs := [58, 59, 110, 111]) (fs := [(30, 4), (30, 5), (66, 78), (66, 79)]) ((Fr.rf.call hq_8 (by decide) (by decide)).call hq_19 (by decide) (by decide)) (by decide) (by decide)
    have g_24 : gW G_18 = gW G := gW_fr (rs := [58, 59, 110, 111]) (fs := [(30, 4), (30, 5), (66, 78), (66, 79)]) ((Fr.rf.call hq_8 (by decide) (by decide)).call hq_19 (by decide) (by decide)) (by decide) (by decide)
    have b_25 : 0 ≤ (G.1 0 11).toInt ∧ (G.1 0 11).toInt ≤ 1600 := hB_G.i 0 11 rfl rfl
    have g_26 : (G_18.1 0 11).toInt = (G.1 0 11).toInt := by rw [show G_18.1 0 11 = (G.1 0 11) from ((hq_19.i 0 11 (by decide) (by decide)).trans (hq_8.i 0 11 (by decide) (by decide)))]
    have b_27 : 0 ≤ (G_7.1 30 4).toInt ∧ (G_7.1 30 4).toInt ≤ 40 := hB_G_7.i 30 4 rfl rfl
    have g_28 : (G_18.1 30 4).toInt = (G_7.1 30 4).toInt := by rw [show G_18.1 30 4 = (G_7.1 30 4) from (hq_19.i 30 4 (by decide) (by decide))]
    have b_29 : 0 ≤ (G_7.1 30 5).toInt ∧ (G_7.1 30 5).toInt ≤ 40 := hB_G_7.i 30 5 rfl rfl
    have g_30 : (G_18.1 30 5).toInt = (G_7.1 30 5).toInt := by rw [show G_18.1 30 5 = (G_7.1 30 5) from (hq_19.i 30 5 (by decide) (by decide))]
    have b_31 : 0 ≤ (G.1 31 6).toInt ∧ (G.1 31 6).toInt ≤ 100000 := hB_G.i 31 6 rfl rfl
    have g_32 : (G_18.1 31 6).toInt = (G.1 31 6).toInt := by rw [show G_18.1 31 6 = (G.1 31 6) from ((hq_19.i 31 6 (by decide) (by decide)).trans (hq_8.i 31 6 (by decide) (by decide)))]
    have b_33 : 0 ≤ (G.1 66 1).toInt ∧ (G.1 66 1).toInt ≤ 1600 := hB_G.i 66 1 rfl rfl
    have g_34 : (G_18.1 66 1).toInt = (G.1 66 1).toInt := by rw [show G_18.1 66 1 = (G.1 66 1) from ((hq_19.i 66 1 (by decide) (by decide)).trans (hq_8.i 66 1 (by decide) (by decide)))]
    have b_35 : 0 ≤ (G_18.1 66 78).toInt ∧ (G_18.1 66 78).toInt ≤ 40 := hB_G_18.i 66 78 rfl rfl
    have b_36 : 0 ≤ (G_18.1 66 79).toInt ∧ (G_18.1 66 79).toInt ≤ 40 := hB_G_18.i 66 79 rfl rfl
    have b_37 : 0 ≤ (G.1 66 86).toInt ∧ (G.1 66 86).toInt ≤ 100000 := hB_G.i 66 86 rfl rfl
    have g_38 : (G_18.1 66 86).toInt = (G.1 66 86).toInt := by rw [show G_18.1 66 86 = (G.1 66 86) from ((hq_19.i 66 86 (by decide) (by decide)).trans (hq_8.i 66 86 (by decide) (by decide)))]
    have b_39 : 0 ≤ (G.1 96 0).toInt ∧ (G.1 96 0).toInt ≤ 9 := hB_G.i 96 0 rfl rfl
    have g_40 : (G_18.1 96 0).toInt = (G.1 96 0).toInt := by rw [show G_18.1 96 0 = (G.1 96 0) from ((hq_19.i 96 0 (by decide) (by decide)).trans (hq_8.i 96 0 (by decide) (by decide)))]
    have b_41 : 0 ≤ (G.1 96 1).toInt ∧ (G.1 96 1).toInt ≤ 9 := hB_G.i 96 1 rfl rfl
    have g_42 : (G_18.1 96 1).toInt = (G.1 96 1).toInt := by rw [show G_18.1 96 1 = (G.1 96 1) from ((hq_19.i 96 1 (by decide) (by decide)).trans (hq_8.i 96 1 (by decide) (by decide)))]
    have b_43 : 0 ≤ (G.1 96 2).toInt ∧ (G.1 96 2).toInt ≤ 9 := hB_G.i 96 2 rfl rfl
    have g_44 : (G_18.1 96 2).toInt = (G.1 96 2).toInt := by rw [show G_18.1 96 2 = (G.1 96 2) from ((hq_19.i 96 2 (by decide) (by decide)).trans (hq_8.i 96 2 (by decide) (by decide)))]
    exact K G_18 _ _ _ (Or.inr ⟨((((hq_19.r 0 0 (by decide) (by decide)).trans (hq_8.r 0 0 (by decide) (by decide)))).trans (hv_0_0)), ((((hq_19.r 0 1 (by decide) (by decide)).trans (hq_8.r 0 1 (by decide) (by decide)))).trans (hv_0_1)), ((((hq_19.r 6 4 (by decide) (by decide)).trans (hq_8.r 6 4 (by decide) (by decide)))).trans (hv_6_4)), by omega, by omega, by omega, by omega, by omega, by omega, by omega, by omega, by omega⟩) hB_G_18 hW hS (lv_sub hl [0, 1, 2, 3] rfl)
