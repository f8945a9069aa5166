theorem m1142 : Cond.methodLink RL 100 yX11_wager ∈ gd := gd_mem 1142 (by decide +kernel) (by decide +kernel)
theorem m1143 : Cond.instanceMethod yX11_wager ∈ gd := gd_mem 1143 (by decide +kernel) (by decide +kernel)
theorem m1144 : Cond.selects RX11 yX11_wager yX11_wager ∈ gd := gd_mem 1144 (by decide +kernel) (by decide +kernel)
theorem m1145 : Cond.code yX11_wager cX11_wager 6 (some .int) ∈ gd := gd_mem 1145 (by decide +kernel) (by decide +kernel)
theorem m1162 : Cond.methodLink RL 104 yX11_leave ∈ gd := gd_mem 1162 (by decide +kernel) (by decide +kernel)
theorem m1163 : Cond.instanceMethod yX11_leave ∈ gd := gd_mem 1163 (by decide +kernel) (by decide +kernel)
theorem m1164 : Cond.selects RX11 yX11_leave yX11_leave ∈ gd := gd_mem 1164 (by decide +kernel) (by decide +kernel)
theorem m1165 : Cond.code yX11_leave cX11_leave 5 (some .int) ∈ gd := gd_mem 1165 (by decide +kernel) (by decide +kernel)
theorem m1166 : Cond.methodLink RL 109 yX11_walk ∈ gd := gd_mem 1166 (by decide +kernel) (by decide +kernel)
theorem m1167 : Cond.instanceMethod yX11_walk ∈ gd := gd_mem 1167 (by decide +kernel) (by decide +kernel)
theorem m1168 : Cond.selects RX11 yX11_walk yX11_walk ∈ gd := gd_mem 1168 (by decide +kernel) (by decide +kernel)
theorem m1169 : Cond.code yX11_walk cX11_walk 4 (some .int) ∈ gd := gd_mem 1169 (by decide +kernel) (by decide +kernel)
theorem m1967 : Cond.methodLink RL 103 yX12_wager ∈ gd := gd_mem 1967 (by decide +kernel) (by decide +kernel)
theorem m1968 : Cond.instanceMethod yX12_wager ∈ gd := gd_mem 1968 (by decide +kernel) (by decide +kernel)
theorem m1969 : Cond.selects RX12 yX12_wager yX12_wager ∈ gd := gd_mem 1969 (by decide +kernel) (by decide +kernel)
theorem m1970 : Cond.code yX12_wager cX12_wager 6 (some .int) ∈ gd := gd_mem 1970 (by decide +kernel) (by decide +kernel)
theorem m1983 : Cond.methodLink RL 108 yX12_leave ∈ gd := gd_mem 1983 (by decide +kernel) (by decide +kernel)
theorem m1984 : Cond.instanceMethod yX12_leave ∈ gd := gd_mem 1984 (by decide +kernel) (by decide +kernel)
theorem m1985 : Cond.selects RX12 yX12_leave yX12_leave ∈ gd := gd_mem 1985 (by decide +kernel) (by decide +kernel)
theorem m1986 : Cond.code yX12_leave cX12_leave 5 (some .int) ∈ gd := gd_mem 1986 (by decide +kernel) (by decide +kernel)
theorem m1987 : Cond.methodLink RL 112 yX12_walk ∈ gd := gd_mem 1987 (by decide +kernel) (by decide +kernel)
theorem m1988 : Cond.instanceMethod yX12_walk ∈ gd := gd_mem 1988 (by decide +kernel) (by decide +kernel)
theorem m1989 : Cond.selects RX12 yX12_walk yX12_walk ∈ gd := gd_mem 1989 (by decide +kernel) (by decide +kernel)
theorem m1990 : Cond.code yX12_walk cX12_walk 4 (some .int) ∈ gd := gd_mem 1990 (by decide +kernel) (by decide +kernel)
theorem dL_law_1144 : decode cL_law 1144 = .ok (.aload_n 1, 1) := by decide +kernel
theorem dL_law_1145 : decode cL_law 1145 = .ok (.aload_n 0, 1) := by decide +kernel
theorem dL_law_1146 : decode cL_law 1146 = .ok (.iload_n 3, 1) := by decide +kernel
theorem dL_law_1147 : decode cL_law 1147 = .ok (.iconst 1, 1) := by decide +kernel
theorem dL_law_1148 : decode cL_law 1148 = .ok (.iadd, 1) := by decide +kernel
theorem dL_law_1149 : decode cL_law 1149 = .ok (.iaload, 1) := by decide +kernel
theorem dL_law_1150 : decode cL_law 1150 = .ok (.aload_n 0, 1) := by decide +kernel
theorem dL_law_1151 : decode cL_law 1151 = .ok (.iload_n 3, 1) := by decide +kernel
theorem dL_law_1152 : decode cL_law 1152 = .ok (.iconst 2, 1) := by decide +kernel
theorem dL_law_1153 : decode cL_law 1153 = .ok (.iadd, 1) := by decide +kernel
theorem dL_law_1154 : decode cL_law 1154 = .ok (.iaload, 1) := by decide +kernel
theorem dL_law_1155 : decode cL_law 1155 = .ok (.aload_n 0, 1) := by decide +kernel
theorem dL_law_1156 : decode cL_law 1156 = .ok (.iload_n 3, 1) := by decide +kernel
theorem dL_law_1157 : decode cL_law 1157 = .ok (.iconst 3, 1) := by decide +kernel
theorem dL_law_1158 : decode cL_law 1158 = .ok (.iadd, 1) := by decide +kernel
theorem dL_law_1159 : decode cL_law 1159 = .ok (.iaload, 1) := by decide +kernel
theorem dL_law_1160 : decode cL_law 1160 = .ok (.aload_n 0, 1) := by decide +kernel
theorem dL_law_1161 : decode cL_law 1161 = .ok (.iload_n 3, 1) := by decide +kernel
theorem dL_law_1162 : decode cL_law 1162 = .ok (.iconst 4, 1) := by decide +kernel
theorem dL_law_1163 : decode cL_law 1163 = .ok (.iadd, 1) := by decide +kernel
theorem dL_law_1164 : decode cL_law 1164 = .ok (.iaload, 1) := by decide +kernel
theorem dL_law_1165 : decode cL_law 1165 = .ok (.invokevirtual 100, 3) := by decide +kernel
theorem dL_law_1168 : decode cL_law 1168 = .ok (.pop, 1) := by decide +kernel
theorem dL_law_1169 : decode cL_law 1169 = .ok (.aload_n 2, 1) := by decide +kernel
theorem dL_law_1170 : decode cL_law 1170 = .ok (.aload_n 0, 1) := by decide +kernel
theorem dL_law_1171 : decode cL_law 1171 = .ok (.iload_n 3, 1) := by decide +kernel
theorem dL_law_1172 : decode cL_law 1172 = .ok (.iconst 1, 1) := by decide +kernel
theorem dL_law_1173 : decode cL_law 1173 = .ok (.iadd, 1) := by decide +kernel
theorem dL_law_1174 : decode cL_law 1174 = .ok (.iaload, 1) := by decide +kernel
theorem dL_law_1175 : decode cL_law 1175 = .ok (.aload_n 0, 1) := by decide +kernel
theorem dL_law_1176 : decode cL_law 1176 = .ok (.iload_n 3, 1) := by decide +kernel
theorem dL_law_1177 : decode cL_law 1177 = .ok (.iconst 2, 1) := by decide +kernel
theorem dL_law_1178 : decode cL_law 1178 = .ok (.iadd, 1) := by decide +kernel
theorem dL_law_1179 : decode cL_law 1179 = .ok (.iaload, 1) := by decide +kernel
theorem dL_law_1180 : decode cL_law 1180 = .ok (.aload_n 0, 1) := by decide +kernel
theorem dL_law_1181 : decode cL_law 1181 = .ok (.iload_n 3, 1) := by decide +kernel
theorem dL_law_1182 : decode cL_law 1182 = .ok (.iconst 3, 1) := by decide +kernel
theorem dL_law_1183 : decode cL_law 1183 = .ok (.iadd, 1) := by decide +kernel
theorem dL_law_1184 : decode cL_law 1184 = .ok (.iaload, 1) := by decide +kernel
theorem dL_law_1185 : decode cL_law 1185 = .ok (.aload_n 0, 1) := by decide +kernel
theorem dL_law_1186 : decode cL_law 1186 = .ok (.iload_n 3, 1) := by decide +kernel
theorem dL_law_1187 : decode cL_law 1187 = .ok (.iconst 4, 1) := by decide +kernel
theorem dL_law_1188 : decode cL_law 1188 = .ok (.iadd, 1) := by decide +kernel
theorem dL_law_1189 : decode cL_law 1189 = .ok (.iaload, 1) := by decide +kernel
theorem dL_law_1190 : decode cL_law 1190 = .ok (.invokevirtual 103, 3) := by decide +kernel
theorem dL_law_1193 : decode cL_law 1193 = .ok (.pop, 1) := by decide +kernel
theorem dL_law_1194 : decode cL_law 1194 = .ok (.goto 447, 3) := by decide +kernel
theorem dL_law_1197 : decode cL_law 1197 = .ok (.aload_n 1, 1) := by decide +kernel
theorem dL_law_1198 : decode cL_law 1198 = .ok (.aload_n 0, 1) := by decide +kernel
theorem dL_law_1199 : decode cL_law 1199 = .ok (.iload_n 3, 1) := by decide +kernel
theorem dL_law_1200 : decode cL_law 1200 = .ok (.iconst 1, 1) := by decide +kernel
theorem dL_law_1201 : decode cL_law 1201 = .ok (.iadd, 1) := by decide +kernel
theorem dL_law_1202 : decode cL_law 1202 = .ok (.iaload, 1) := by decide +kernel
theorem dL_law_1203 : decode cL_law 1203 = .ok (.aload_n 0, 1) := by decide +kernel
theorem dL_law_1204 : decode cL_law 1204 = .ok (.iload_n 3, 1) := by decide +kernel
theorem dL_law_1205 : decode cL_law 1205 = .ok (.iconst 2, 1) := by decide +kernel
theorem dL_law_1206 : decode cL_law 1206 = .ok (.iadd, 1) := by decide +kernel
theorem dL_law_1207 : decode cL_law 1207 = .ok (.iaload, 1) := by decide +kernel
theorem dL_law_1208 : decode cL_law 1208 = .ok (.invokevirtual 104, 3) := by decide +kernel
theorem dL_law_1211 : decode cL_law 1211 = .ok (.pop, 1) := by decide +kernel
theorem dL_law_1212 : decode cL_law 1212 = .ok (.aload_n 2, 1) := by decide +kernel
theorem dL_law_1213 : decode cL_law 1213 = .ok (.aload_n 0, 1) := by decide +kernel
theorem dL_law_1214 : decode cL_law 1214 = .ok (.iload_n 3, 1) := by decide +kernel
theorem dL_law_1215 : decode cL_law 1215 = .ok (.iconst 1, 1) := by decide +kernel
theorem dL_law_1216 : decode cL_law 1216 = .ok (.iadd, 1) := by decide +kernel
theorem dL_law_1217 : decode cL_law 1217 = .ok (.iaload, 1) := by decide +kernel
theorem dL_law_1218 : decode cL_law 1218 = .ok (.aload_n 0, 1) := by decide +kernel
theorem dL_law_1219 : decode cL_law 1219 = .ok (.iload_n 3, 1) := by decide +kernel
theorem dL_law_1220 : decode cL_law 1220 = .ok (.iconst 2, 1) := by decide +kernel
theorem dL_law_1221 : decode cL_law 1221 = .ok (.iadd, 1) := by decide +kernel
theorem dL_law_1222 : decode cL_law 1222 = .ok (.iaload, 1) := by decide +kernel
theorem dL_law_1223 : decode cL_law 1223 = .ok (.invokevirtual 108, 3) := by decide +kernel
theorem dL_law_1226 : decode cL_law 1226 = .ok (.pop, 1) := by decide +kernel
theorem dL_law_1227 : decode cL_law 1227 = .ok (.goto 414, 3) := by decide +kernel
theorem dL_law_1230 : decode cL_law 1230 = .ok (.aload_n 1, 1) := by decide +kernel
theorem dL_law_1231 : decode cL_law 1231 = .ok (.aload_n 0, 1) := by decide +kernel
theorem dL_law_1232 : decode cL_law 1232 = .ok (.iload_n 3, 1) := by decide +kernel
theorem dL_law_1233 : decode cL_law 1233 = .ok (.iconst 1, 1) := by decide +kernel
theorem dL_law_1234 : decode cL_law 1234 = .ok (.iadd, 1) := by decide +kernel
theorem dL_law_1235 : decode cL_law 1235 = .ok (.iaload, 1) := by decide +kernel
theorem dL_law_1236 : decode cL_law 1236 = .ok (.aload_n 0, 1) := by decide +kernel
theorem dL_law_1237 : decode cL_law 1237 = .ok (.iload_n 3, 1) := by decide +kernel
theorem dL_law_1238 : decode cL_law 1238 = .ok (.iconst 2, 1) := by decide +kernel
theorem dL_law_1239 : decode cL_law 1239 = .ok (.iadd, 1) := by decide +kernel
theorem dL_law_1240 : decode cL_law 1240 = .ok (.iaload, 1) := by decide +kernel
theorem dL_law_1241 : decode cL_law 1241 = .ok (.aload_n 0, 1) := by decide +kernel
theorem dL_law_1242 : decode cL_law 1242 = .ok (.iload_n 3, 1) := by decide +kernel
theorem dL_law_1243 : decode cL_law 1243 = .ok (.iconst 3, 1) := by decide +kernel
theorem dL_law_1244 : decode cL_law 1244 = .ok (.iadd, 1) := by decide +kernel
theorem dL_law_1245 : decode cL_law 1245 = .ok (.iaload, 1) := by decide +kernel
theorem dL_law_1246 : decode cL_law 1246 = .ok (.invokevirtual 109, 3) := by decide +kernel
theorem dL_law_1249 : decode cL_law 1249 = .ok (.pop, 1) := by decide +kernel
theorem dL_law_1250 : decode cL_law 1250 = .ok (.aload_n 2, 1) := by decide +kernel
theorem dL_law_1251 : decode cL_law 1251 = .ok (.aload_n 0, 1) := by decide +kernel
theorem dL_law_1252 : decode cL_law 1252 = .ok (.iload_n 3, 1) := by decide +kernel
theorem dL_law_1253 : decode cL_law 1253 = .ok (.iconst 1, 1) := by decide +kernel
theorem dL_law_1254 : decode cL_law 1254 = .ok (.iadd, 1) := by decide +kernel
theorem dL_law_1255 : decode cL_law 1255 = .ok (.iaload, 1) := by decide +kernel
theorem dL_law_1256 : decode cL_law 1256 = .ok (.aload_n 0, 1) := by decide +kernel
theorem dL_law_1257 : decode cL_law 1257 = .ok (.iload_n 3, 1) := by decide +kernel
theorem dL_law_1258 : decode cL_law 1258 = .ok (.iconst 2, 1) := by decide +kernel
theorem dL_law_1259 : decode cL_law 1259 = .ok (.iadd, 1) := by decide +kernel
theorem dL_law_1260 : decode cL_law 1260 = .ok (.iaload, 1) := by decide +kernel
theorem dL_law_1261 : decode cL_law 1261 = .ok (.aload_n 0, 1) := by decide +kernel
theorem dL_law_1262 : decode cL_law 1262 = .ok (.iload_n 3, 1) := by decide +kernel
theorem dL_law_1263 : decode cL_law 1263 = .ok (.iconst 3, 1) := by decide +kernel
theorem dL_law_1264 : decode cL_law 1264 = .ok (.iadd, 1) := by decide +kernel
theorem dL_law_1265 : decode cL_law 1265 = .ok (.iaload, 1) := by decide +kernel
theorem dL_law_1266 : decode cL_law 1266 = .ok (.invokevirtual 112, 3) := by decide +kernel
theorem dL_law_1269 : decode cL_law 1269 = .ok (.pop, 1) := by decide +kernel
theorem dL_law_1270 : decode cL_law 1270 = .ok (.goto 371, 3) := by decide +kernel
set_option maxHeartbeats 4000000 in
set_option maxRecDepth 100000 in
theorem law_20 {p : Program} {l : Launch} {e : Env} {s : State} {m : MethodId} {below : List Frame} {meth : Method} {c : Code} {D : va_G} {k : KT} {A : Nat → Prop} {a : Nat → Nat} {z : SK} {b L : Nat} {xs : Nat → Int32} (hL : L ≤ 3072) (C0 : lw_At p s m meth c b L xs) (hK : cK D k s) (hZ : Sx A z s) (hbA : ¬ A b) {G : GS} {i0 : Int32} (hi0 : 0 ≤ i0.toInt) (hi6 : i0.toInt + 6 ≤ L) (hI : LI G) (hB_G : Bd G) {H : Heap} {locs : List Loc} {ls : Array Slot} (hW : Wd D k A a G H) (hS : va_S A s.heap H locs) (hl : lv_has ls 4 [(0, .ref b), (1, .ref (a 0)), (2, .ref (a 66)), (3, .int i0)]) (K : ∀ (G1 : GS) (H1 : Heap) (locs1 : List Loc) (ls1 : Array Slot), LI G1 → Bd G1 → Wd D k A a G1 H1 → va_S A s.heap H1 locs1 → lv_has ls1 4 [(0, .ref b), (1, .ref (a 0)), (2, .ref (a 66)), (3, .int i0)] → W p l e room_1 s m #[Value.ref b] below meth c H1 locs1 119 46443 (lw_Z below #[Value.ref b] s) (F0 m 1641 ls1 [])) : W p l e room_1 s m #[Value.ref b] below meth c H locs 119 46443 (lw_Z below #[Value.ref b] s) (F0 m 1144 ls []) := by
  obtain ⟨hx, hb, hr, hml, hown, hts, hX, hbl, hlocks, hgv⟩ := id C0
  have hown : s.vm.findClass RL = some m.cls := hown
  have hgd : ∀ w ∈ gd, w ∈ lw_tbl := fun w h => (List.mem_filter.mp h).1
  have hg : ∀ w ∈ gd, w.before #[Value.ref b] s = true := fun w h => hts w (hgd w h)
  rcases hI with ⟨hv_0_0, hv_0_1, hv_6_4, hj0, hj1, hj2, hj3, hj4, hj5, hj6, hj7, hj8, hj9, hj10, hj11⟩ | ⟨hv_0_0, hv_0_1, hv_6_4, hj0, hj1, hj2, hj3, hj4, hj5, hj6, hj7, hj8, hj9, hj10, hj11⟩
  · skip
    refine lv_aload_n hx hb dL_law_1144 rfl (lv_at hl 1 rfl) ?_
    refine lv_aload_n hx hb dL_law_1145 rfl (lv_at hl 0 rfl) ?_
    refine lv_iload_n hx hb dL_law_1146 rfl (lv_at hl 3 rfl) ?_
    refine lv_iconst (v := 1) hx hb dL_law_1147 (by decide) ?_
    refine lv_iadd hx hb dL_law_1148 ?_
    refine lv_topi (fun y_1 ey_1 => ?_)
    have ty_1 : y_1.toInt = i0.toInt + 1 := xI_add rfl rfl ey_1 (by omega) (by omega)
    refine va_sld hx hb hX hbl hbA hS (vin (by omega) (by omega)) dL_law_1149 ?_
    refine lv_topi (fun y_2 ey_2 => ?_)
    have u_3 : y_2.toInt = (xs (i0 + 1).toNatClampNeg).toInt := by rw [ey_2, ey_1]
    refine lv_aload_n hx hb dL_law_1150 rfl (lv_at hl 0 rfl) ?_
    refine lv_iload_n hx hb dL_law_1151 rfl (lv_at hl 3 rfl) ?_
    refine lv_iconst (v := 2) hx hb dL_law_1152 (by decide) ?_
    refine lv_iadd hx hb dL_law_1153 ?_
    refine lv_topi (fun y_4 ey_4 => ?_)
    have ty_4 : y_4.toInt = i0.toInt + 2 := xI_add rfl rfl ey_4 (by omega) (by omega)
    refine va_sld hx hb hX hbl hbA hS (vin (by omega) (by omega)) dL_law_1154 ?_
    refine lv_topi (fun y_5 ey_5 => ?_)
    have u_6 : y_5.toInt = (xs (i0 + 2).toNatClampNeg).toInt := by rw [ey_5, ey_4]
    refine lv_aload_n hx hb dL_law_1155 rfl (lv_at hl 0 rfl) ?_
    refine lv_iload_n hx hb dL_law_1156 rfl (lv_at hl 3 rfl) ?_
    refine lv_iconst (v := 3) hx hb dL_law_1157 (by decide) ?_
    refine lv_iadd hx hb dL_law_1158 ?_
    refine lv_topi (fun y_7 ey_7 => ?_)
    have ty_7 : y_7.toInt = i0.toInt + 3 := xI_add rfl rfl ey_7 (by omega) (by omega)
    refine va_sld hx hb hX hbl hbA hS (vin (by omega) (by omega)) dL_law_1159 ?_
    refine lv_topi (fun y_8 ey_8 => ?_)
    have u_9 : y_8.toInt = (xs (i0 + 3).toNatClampNeg).toInt := by rw [ey_8, ey_7]
    refine lv_aload_n hx hb dL_law_1160 rfl (lv_at hl 0 rfl) ?_
    refine lv_iload_n hx hb dL_law_1161 rfl (lv_at hl 3 rfl) ?_
    refine lv_iconst (v := 4) hx hb dL_law_1162 (by decide) ?_
    refine lv_iadd hx hb dL_law_1163 ?_
    refine lv_topi (fun y_10 ey_10 => ?_)
    have ty_10 : y_10.toInt = i0.toInt + 4 := xI_add rfl rfl ey_10 (by omega) (by omega)
    refine va_sld hx hb hX hbl hbA hS (vin (by omega) (by omega)) dL_law_1164 ?_
    refine lv_topi (fun y_11 ey_11 => ?_)
    have u_12 : y_11.toInt = (xs (i0 + 4).toNatClampNeg).toInt := by rw [ey_11, ey_10]
    refine S_calli (va_runV (As := [.int y_2, .int y_5, .int y_8, .int y_11]) (rest := []) ⟨hx, hb, hml, hown, hts⟩ (k_Wwager_1 l D k A a z G y_2 y_5 y_8 y_11 hv_0_0 hv_0_1 hv_6_4) (cwV 4 hts (gd_V hgd m1142 m1143 m1144 m117 m1145) rfl rfl rfl (by decide +kernel) ⟨Nat.le_of_ble_eq_true rfl, Nat.le_of_ble_eq_true rfl⟩) (pre_V hW hB_G hK hZ hS kd_0 rfl) rfl rfl hl.1 rfl (lv_room (Nat.le_of_ble_eq_true rfl)) dL_law_1165 ⟨Nat.le_of_ble_eq_true rfl, Nat.le_of_ble_eq_true rfl⟩) hS (fun r_13 G_14 H locs hpo hW hS => ?_)
    have hX_17 : P_Wwager_1 y_2 y_5 y_8 y_11 G r_13 G_14 := hpo
    obtain ⟨hB_G_14, hq_15, -⟩ := hpo
    refine lv_pop hx hb dL_law_1168 rfl ?_
    refine lv_aload_n hx hb dL_law_1169 rfl (lv_at hl 2 rfl) ?_
    refine lv_aload_n hx hb dL_law_1170 rfl (lv_at hl 0 rfl) ?_
    refine lv_iload_n hx hb dL_law_1171 rfl (lv_at hl 3 rfl) ?_
    refine lv_iconst (v := 1) hx hb dL_law_1172 (by decide) ?_
    refine lv_iadd hx hb dL_law_1173 ?_
    refine lv_topi (fun y_18 ey_18 => ?_)
    have ty_18 : y_18.toInt = i0.toInt + 1 := xI_add rfl rfl ey_18 (by omega) (by omega)
    refine va_sld hx hb hX hbl hbA hS (vin (by omega) (by omega)) dL_law_1174 ?_
    refine lv_topi (fun y_19 ey_19 => ?_)
    have u_20 : y_19.toInt = (xs (i0 + 1).toNatClampNeg).toInt := by rw [ey_19, ey_18]
    refine lv_aload_n hx hb dL_law_1175 rfl (lv_at hl 0 rfl) ?_
    refine lv_iload_n hx hb dL_law_1176 rfl (lv_at hl 3 rfl) ?_
    refine lv_iconst (v := 2) hx hb dL_law_1177 (by decide) ?_
    refine lv_iadd hx hb dL_law_1178 ?_
    refine lv_topi (fun y_21 ey_21 => ?_)
    have ty_21 : y_21.toInt = i0.toInt + 2 := xI_add rfl rfl ey_21 (by omega) (by omega)
    refine va_sld hx hb hX hbl hbA hS (vin (by omega) (by omega)) dL_law_1179 ?_
    refine lv_topi (fun y_22 ey_22 => ?_)
    have u_23 : y_22.toInt = (xs (i0 + 2).toNatClampNeg).toInt := by rw [ey_22, ey_21]
    refine lv_aload_n hx hb dL_law_1180 rfl (lv_at hl 0 rfl) ?_
    refine lv_iload_n hx hb dL_law_1181 rfl (lv_at hl 3 rfl) ?_
    refine lv_iconst (v := 3) hx hb dL_law_1182 (by decide) ?_
    refine lv_iadd hx hb dL_law_1183 ?_
    refine lv_topi (fun y_24 ey_24 => ?_)
    have ty_24 : y_24.toInt = i0.toInt + 3 := xI_add rfl rfl ey_24 (by omega) (by omega)
    refine va_sld hx hb hX hbl hbA hS (vin (by omega) (by omega)) dL_law_1184 ?_
    refine lv_topi (fun y_25 ey_25 => ?_)
    have u_26 : y_25.toInt = (xs (i0 + 3).toNatClampNeg).toInt := by rw [ey_25, ey_24]
    refine lv_aload_n hx hb dL_law_1185 rfl (lv_at hl 0 rfl) ?_
    refine lv_iload_n hx hb dL_law_1186 rfl (lv_at hl 3 rfl) ?_
    refine lv_iconst (v := 4) hx hb dL_law_1187 (by decide) ?_
    refine lv_iadd hx hb dL_law_1188 ?_
    refine lv_topi (fun y_27 ey_27 => ?_)
    have ty_27 : y_27.toInt = i0.toInt + 4 := xI_add rfl rfl ey_27 (by omega) (by omega)
    refine va_sld hx hb hX hbl hbA hS (vin (by omega) (by omega)) dL_law_1189 ?_
    refine lv_topi (fun y_28 ey_28 => ?_)
    have u_29 : y_28.toInt = (xs (i0 + 4).toNatClampNeg).toInt := by rw [ey_28, ey_27]
    have g_30 : gP G_14 = gP G := gP_fr (rs := [37, 38, 39, 40, 42, 43, 46, 47]) (fs := [(6, 3), (7, 1), (7, 2), (7, 3), (7, 4), (7, 5), (7, 6), (7, 7)]) (Fr.rf.call hq_15 (by decide) (by decide)) (by decide) (by decide)
    have g_31 : gW G_14 = gW G := gW_fr (rs := [37, 38, 39, 40, 42, 43, 46, 47]) (fs := [(6, 3), (7, 1), (7, 2), (7, 3), (7, 4), (7, 5), (7, 6), (7, 7)]) (Fr.rf.call hq_15 (by decide) (by decide)) (by decide) (by decide)
    refine S_calli (va_runV (As := [.int y_19, .int y_22, .int y_25, .int y_28]) (rest := []) ⟨hx, hb, hml, hown, hts⟩ (n_wager l D k A a z G_14 y_19 y_22 y_25 y_28 (by omega) (by omega)) (cwV 4 hts (gd_V hgd m1967 m1968 m1969 m131 m1970) rfl rfl rfl (by decide +kernel) ⟨Nat.le_of_ble_eq_true rfl, Nat.le_of_ble_eq_true rfl⟩) (pre_V hW hB_G_14 hK hZ hS kd_66 rfl) rfl rfl hl.1 rfl (lv_room (Nat.le_of_ble_eq_true rfl)) dL_law_1190 ⟨Nat.le_of_ble_eq_true rfl, Nat.le_of_ble_eq_true rfl⟩) hS (fun r_32 G_33 H locs hpo hW hS => ?_)
    have hX_36 : Q_wager y_19 y_22 y_25 y_28 G_14 r_32 G_33 := hpo
    obtain ⟨hB_G_33, hq_34, -⟩ := hpo
    have u_37 := L_wager_1 hX_17 hX_36 (by omega) (by omega) (by omega) (by omega) (by omega)
    refine lv_pop hx hb dL_law_1193 rfl ?_
    refine lv_goto (tgt := 1641) hx hb dL_law_1194 (by decide) ?_
    have g_38 : gO G_33 = gO G := gO_fr (rs := [37, 38, 39, 40, 42, 43, 46, 47, 76, 97, 98, 99, 107, 108, 109]) (fs := [(6, 3), (7, 1), (7, 2), (7, 3), (7, 4), (7, 5), (7, 6), (7, 7), (66, 59), (66, 60), (66, 61), (66, 62), (66, 63)]) ((Fr.rf.call hq_15 (by decide) (by decide)).call hq_34 (by decide) (by decide)) (by decide) (by decide)
    have g_39 : gP G_33 = gP G := gP_fr (rs := [37, 38, 39, 40, 42, 43, 46, 47, 76, 97, 98, 99, 107, 108, 109]) (fs := [(6, 3), (7, 1), (7, 2), (7, 3), (7, 4), (7, 5), (7, 6), (7, 7), (66, 59), (66, 60), (66, 61), (66, 62), (66, 63)]) ((Fr.rf.call hq_15 (by decide) (by decide)).call hq_34 (by decide) (by decide)) (by decide) (by decide)
    have g_40 : gS G_33 = gS G := gS_fr (rs := [37, 38, 39, 40, 42, 43, 46, 47, 76, 97, 98, 99, 107, 108, 109]) (fs := [(6, 3), (7, 1), (7, 2), (7, 3), (7, 4), (7, 5), (7, 6), (7, 7), (66, 59), (66, 60), (66, 61), (66, 62), (66, 63)]) ((Fr.rf.call hq_15 (by decide) (by decide)).call hq_34 (by decide) (by decide)) (by decide) (by decide)
    have g_41 : gTE G_33 = gTE G := gTE_fr (rs := [37, 38, 39, 40, 42, 43, 46, 47, 76, 97, 98, 99, 107, 108, 109]) (fs := [(6, 3), (7, 1), (7, 2), (7, 3), (7, 4), (7, 5), (7, 6), (7, 7), (66, 59), (66, 60), (66, 61), (66, 62), (66, 63)]) ((Fr.rf.call hq_15 (by decide) (by decide)).call hq_34 (by decide) (by decide)) (by decide) (by decide)
    have g_42 : gW G_33 = gW G := gW_fr (rs := [37, 38, 39, 40, 42, 43, 46, 47, 76, 97, 98, 99, 107, 108, 109]) (fs := [(6, 3), (7, 1), (7, 2), (7, 3), (7, 4), (7, 5), (7, 6), (7, 7), (66, 59), (66, 60), (66, 61), (66, 62), (66, 63)]) ((Fr.rf.call hq_15 (by decide) (by decide)).call hq_34 (by decide) (by decide)) (by decide) (by decide)
    have b_43 : 0 ≤ (G.1 0 11).toInt ∧ (G.1 0 11).toInt ≤ 1600 := hB_G.i 0 11 rfl rfl
    have g_44 : (G_33.1 0 11).toInt = (G.1 0 11).toInt := by rw [show G_33.1 0 11 = (G.1 0 11) from ((hq_34.i 0 11 (by decide) (by decide)).trans (hq_15.i 0 11 (by decide) (by decide)))]
    have b_45 : 0 ≤ (G.1 3 7).toInt ∧ (G.1 3 7).toInt ≤ 4 := hB_G.i 3 7 rfl rfl
    have g_46 : (G_33.1 3 7).toInt = (G.1 3 7).toInt := by rw [show G_33.1 3 7 = (G.1 3 7) from ((hq_34.i 3 7 (by decide) (by decide)).trans (hq_15.i 3 7 (by decide) (by decide)))]
    have b_47 : (-1) ≤ (G.1 3 8).toInt ∧ (G.1 3 8).toInt ≤ 1600 := hB_G.i 3 8 rfl rfl
    have g_48 : (G_33.1 3 8).toInt = (G.1 3 8).toInt := by rw [show G_33.1 3 8 = (G.1 3 8) from ((hq_34.i 3 8 (by decide) (by decide)).trans (hq_15.i 3 8 (by decide) (by decide)))]
    have b_49 : 0 ≤ (G.1 30 4).toInt ∧ (G.1 30 4).toInt ≤ 40 := hB_G.i 30 4 rfl rfl
    have g_50 : (G_33.1 30 4).toInt = (G.1 30 4).toInt := by rw [show G_33.1 30 4 = (G.1 30 4) from ((hq_34.i 30 4 (by decide) (by decide)).trans (hq_15.i 30 4 (by decide) (by decide)))]
    have b_51 : 0 ≤ (G.1 30 5).toInt ∧ (G.1 30 5).toInt ≤ 40 := hB_G.i 30 5 rfl rfl
    have g_52 : (G_33.1 30 5).toInt = (G.1 30 5).toInt := by rw [show G_33.1 30 5 = (G.1 30 5) from ((hq_34.i 30 5 (by decide) (by decide)).trans (hq_15.i 30 5 (by decide) (by decide)))]
    have b_53 : 0 ≤ (G.1 31 6).toInt ∧ (G.1 31 6).toInt ≤ 100000 := hB_G.i 31 6 rfl rfl
    have g_54 : (G_33.1 31 6).toInt = (G.1 31 6).toInt := by rw [show G_33.1 31 6 = (G.1 31 6) from ((hq_34.i 31 6 (by decide) (by decide)).trans (hq_15.i 31 6 (by decide) (by decide)))]
    have b_55 : 0 ≤ (G.1 66 1).toInt ∧ (G.1 66 1).toInt ≤ 1600 := hB_G.i 66 1 rfl rfl
    have g_56 : (G_33.1 66 1).toInt = (G.1 66 1).toInt := by rw [show G_33.1 66 1 = (G.1 66 1) from ((hq_34.i 66 1 (by decide) (by decide)).trans (hq_15.i 66 1 (by decide) (by decide)))]
    have b_57 : 0 ≤ (G.1 66 2).toInt ∧ (G.1 66 2).toInt ≤ 4 := hB_G.i 66 2 rfl rfl
    have g_58 : (G_33.1 66 2).toInt = (G.1 66 2).toInt := by rw [show G_33.1 66 2 = (G.1 66 2) from ((hq_34.i 66 2 (by decide) (by decide)).trans (hq_15.i 66 2 (by decide) (by decide)))]
    have b_59 : (-1) ≤ (G.1 66 3).toInt ∧ (G.1 66 3).toInt ≤ 1600 := hB_G.i 66 3 rfl rfl
    have g_60 : (G_33.1 66 3).toInt = (G.1 66 3).toInt := by rw [show G_33.1 66 3 = (G.1 66 3) from ((hq_34.i 66 3 (by decide) (by decide)).trans (hq_15.i 66 3 (by decide) (by decide)))]
    have b_61 : 0 ≤ (G.1 66 78).toInt ∧ (G.1 66 78).toInt ≤ 40 := hB_G.i 66 78 rfl rfl
    have g_62 : (G_33.1 66 78).toInt = (G.1 66 78).toInt := by rw [show G_33.1 66 78 = (G.1 66 78) from ((hq_34.i 66 78 (by decide) (by decide)).trans (hq_15.i 66 78 (by decide) (by decide)))]
    have b_63 : 0 ≤ (G.1 66 79).toInt ∧ (G.1 66 79).toInt ≤ 40 := hB_G.i 66 79 rfl rfl
    have g_64 : (G_33.1 66 79).toInt = (G.1 66 79).toInt := by rw [show G_33.1 66 79 = (G.1 66 79) from ((hq_34.i 66 79 (by decide) (by decide)).trans (hq_15.i 66 79 (by decide) (by decide)))]
    have b_65 : 0 ≤ (G.1 66 86).toInt ∧ (G.1 66 86).toInt ≤ 100000 := hB_G.i 66 86 rfl rfl
    have g_66 : (G_33.1 66 86).toInt = (G.1 66 86).toInt := by rw [show G_33.1 66 86 = (G.1 66 86) from ((hq_34.i 66 86 (by decide) (by decide)).trans (hq_15.i 66 86 (by decide) (by decide)))]
    have b_67 : 0 ≤ (G.1 96 0).toInt ∧ (G.1 96 0).toInt ≤ 9 := hB_G.i 96 0 rfl rfl
    have g_68 : (G_33.1 96 0).toInt = (G.1 96 0).toInt := by rw [show G_33.1 96 0 = (G.1 96 0) from ((hq_34.i 96 0 (by decide) (by decide)).trans (hq_15.i 96 0 (by decide) (by decide)))]
    have b_69 : 0 ≤ (G.1 96 1).toInt ∧ (G.1 96 1).toInt ≤ 9 := hB_G.i 96 1 rfl rfl
    have g_70 : (G_33.1 96 1).toInt = (G.1 96 1).toInt := by rw [show G_33.1 96 1 = (G.1 96 1) from ((hq_34.i 96 1 (by decide) (by decide)).trans (hq_15.i 96 1 (by decide) (by decide)))]
    have b_71 : 0 ≤ (G.1 96 2).toInt ∧ (G.1 96 2).toInt ≤ 9 := hB_G.i 96 2 rfl rfl
    have g_72 : (G_33.1 96 2).toInt = (G.1 96 2).toInt := by rw [show G_33.1 96 2 = (G.1 96 2) from ((hq_34.i 96 2 (by decide) (by decide)).trans (hq_15.i 96 2 (by decide) (by decide)))]
    exact K G_33 _ _ _ (Or.inl ⟨((((hq_34.r 0 0 (by decide) (by decide)).trans (hq_15.r 0 0 (by decide) (by decide)))).trans (hv_0_0)), ((((hq_34.r 0 1 (by decide) (by decide)).trans (hq_15.r 0 1 (by decide) (by decide)))).trans (hv_0_1)), ((((hq_34.r 6 4 (by decide) (by decide)).trans (hq_15.r 6 4 (by decide) (by decide)))).trans (hv_6_4)), by omega, by omega, by omega, by omega, by omega, by omega, by omega, by omega, by omega, by omega, by omega, by omega, by omega⟩) hB_G_33 hW hS (lv_sub hl [0, 1, 2, 3] rfl)
  · skip
    refine lv_aload_n hx hb dL_law_1144 rfl (lv_at hl 1 rfl) ?_
    refine lv_aload_n hx hb dL_law_1145 rfl (lv_at hl 0 rfl) ?_
    refine lv_iload_n hx hb dL_law_1146 rfl (lv_at hl 3 rfl) ?_
    refine lv_iconst (v := 1) hx hb dL_law_1147 (by decide) ?_
    refine lv_iadd hx hb dL_law_1148 ?_
    refine lv_topi (fun y_1 ey_1 => ?_)
    have ty_1 : y_1.toInt = i0.toInt + 1 := xI_add rfl rfl ey_1 (by omega) (by omega)
    refine va_sld hx hb hX hbl hbA hS (vin (by omega) (by omega)) dL_law_1149 ?_
    refine lv_topi (fun y_2 ey_2 => ?_)
    have u_3 : y_2.toInt = (xs (i0 + 1).toNatClampNeg).toInt := by rw [ey_2, ey_1]
    refine lv_aload_n hx hb dL_law_1150 rfl (lv_at hl 0 rfl) ?_
    refine lv_iload_n hx hb dL_law_1151 rfl (lv_at hl 3 rfl) ?_
    refine lv_iconst (v := 2) hx hb dL_law_1152 (by decide) ?_
    refine lv_iadd hx hb dL_law_1153 ?_
    refine lv_topi (fun y_4 ey_4 => ?_)
    have ty_4 : y_4.toInt = i0.toInt + 2 := xI_add rfl rfl ey_4 (by omega) (by omega)
    refine va_sld hx hb hX hbl hbA hS (vin (by omega) (by omega)) dL_law_1154 ?_
    refine lv_topi (fun y_5 ey_5 => ?_)
    have u_6 : y_5.toInt = (xs (i0 + 2).toNatClampNeg).toInt := by rw [ey_5, ey_4]
    refine lv_aload_n hx hb dL_law_1155 rfl (lv_at hl 0 rfl) ?_
    refine lv_iload_n hx hb dL_law_1156 rfl (lv_at hl 3 rfl) ?_
    refine lv_iconst (v := 3) hx hb dL_law_1157 (by decide) ?_
    refine lv_iadd hx hb dL_law_1158 ?_
    refine lv_topi (fun y_7 ey_7 => ?_)
    have ty_7 : y_7.toInt = i0.toInt + 3 := xI_add rfl rfl ey_7 (by omega) (by omega)
    refine va_sld hx hb hX hbl hbA hS (vin (by omega) (by omega)) dL_law_1159 ?_
    refine lv_topi (fun y_8 ey_8 => ?_)
    have u_9 : y_8.toInt = (xs (i0 + 3).toNatClampNeg).toInt := by rw [ey_8, ey_7]
    refine lv_aload_n hx hb dL_law_1160 rfl (lv_at hl 0 rfl) ?_
    refine lv_iload_n hx hb dL_law_1161 rfl (lv_at hl 3 rfl) ?_
    refine lv_iconst (v := 4) hx hb dL_law_1162 (by decide) ?_
    refine lv_iadd hx hb dL_law_1163 ?_
    refine lv_topi (fun y_10 ey_10 => ?_)
    have ty_10 : y_10.toInt = i0.toInt + 4 := xI_add rfl rfl ey_10 (by omega) (by omega)
    refine va_sld hx hb hX hbl hbA hS (vin (by omega) (by omega)) dL_law_1164 ?_
    refine lv_topi (fun y_11 ey_11 => ?_)
    have u_12 : y_11.toInt = (xs (i0 + 4).toNatClampNeg).toInt := by rw [ey_11, ey_10]
    refine S_calli (va_runV (As := [.int y_2, .int y_5, .int y_8, .int y_11]) (rest := []) ⟨hx, hb, hml, hown, hts⟩ (k_Wwager_2 l D k A a z G y_2 y_5 y_8 y_11 hv_0_0 hv_0_1 hv_6_4) (cwV 4 hts (gd_V hgd m1142 m1143 m1144 m117 m1145) rfl rfl rfl (by decide +kernel) ⟨Nat.le_of_ble_eq_true rfl, Nat.le_of_ble_eq_true rfl⟩) (pre_V hW hB_G hK hZ hS kd_0 rfl) rfl rfl hl.1 rfl (lv_room (Nat.le_of_ble_eq_true rfl)) dL_law_1165 ⟨Nat.le_of_ble_eq_true rfl, Nat.le_of_ble_eq_true rfl⟩) hS (fun r_13 G_14 H locs hpo hW hS => ?_)
    have hX_17 : P_Wwager_2 y_2 y_5 y_8 y_11 G r_13 G_14 := hpo
    obtain ⟨hB_G_14, hq_15, -⟩ := hpo
    refine lv_pop hx hb dL_law_1168 rfl ?_
    refine lv_aload_n hx hb dL_law_1169 rfl (lv_at hl 2 rfl) ?_
    refine lv_aload_n hx hb dL_law_1170 rfl (lv_at hl 0 rfl) ?_
    refine lv_iload_n hx hb dL_law_1171 rfl (lv_at hl 3 rfl) ?_
    refine lv_iconst (v := 1) hx hb dL_law_1172 (by decide) ?_
    refine lv_iadd hx hb dL_law_1173 ?_
    refine lv_topi (fun y_18 ey_18 => ?_)
    have ty_18 : y_18.toInt = i0.toInt + 1 := xI_add rfl rfl ey_18 (by omega) (by omega)
    refine va_sld hx hb hX hbl hbA hS (vin (by omega) (by omega)) dL_law_1174 ?_
    refine lv_topi (fun y_19 ey_19 => ?_)
    have u_20 : y_19.toInt = (xs (i0 + 1).toNatClampNeg).toInt := by rw [ey_19, ey_18]
    refine lv_aload_n hx hb dL_law_1175 rfl (lv_at hl 0 rfl) ?_
    refine lv_iload_n hx hb dL_law_1176 rfl (lv_at hl 3 rfl) ?_
    refine lv_iconst (v := 2) hx hb dL_law_1177 (by decide) ?_
    refine lv_iadd hx hb dL_law_1178 ?_
    refine lv_topi (fun y_21 ey_21 => ?_)
    have ty_21 : y_21.toInt = i0.toInt + 2 := xI_add rfl rfl ey_21 (by omega) (by omega)
    refine va_sld hx hb hX hbl hbA hS (vin (by omega) (by omega)) dL_law_1179 ?_
    refine lv_topi (fun y_22 ey_22 => ?_)
    have u_23 : y_22.toInt = (xs (i0 + 2).toNatClampNeg).toInt := by rw [ey_22, ey_21]
    refine lv_aload_n hx hb dL_law_1180 rfl (lv_at hl 0 rfl) ?_
    refine lv_iload_n hx hb dL_law_1181 rfl (lv_at hl 3 rfl) ?_
    refine lv_iconst (v := 3) hx hb dL_law_1182 (by decide) ?_
    refine lv_iadd hx hb dL_law_1183 ?_
    refine lv_topi (fun y_24 ey_24 => ?_)
    have ty_24 : y_24.toInt = i0.toInt + 3 := xI_add rfl rfl ey_24 (by omega) (by omega)
    refine va_sld hx hb hX hbl hbA hS (vin (by omega) (by omega)) dL_law_1184 ?_
    refine lv_topi (fun y_25 ey_25 => ?_)
    have u_26 : y_25.toInt = (xs (i0 + 3).toNatClampNeg).toInt := by rw [ey_25, ey_24]
    refine lv_aload_n hx hb dL_law_1185 rfl (lv_at hl 0 rfl) ?_
    refine lv_iload_n hx hb dL_law_1186 rfl (lv_at hl 3 rfl) ?_
    refine lv_iconst (v := 4) hx hb dL_law_1187 (by decide) ?_
    refine lv_iadd hx hb dL_law_1188 ?_
    refine lv_topi (fun y_27 ey_27 => ?_)
    have ty_27 : y_27.toInt = i0.toInt + 4 := xI_add rfl rfl ey_27 (by omega) (by omega)
    refine va_sld hx hb hX hbl hbA hS (vin (by omega) (by omega)) dL_law_1189 ?_
    refine lv_topi (fun y_28 ey_28 => ?_)
    have u_29 : y_28.toInt = (xs (i0 + 4).toNatClampNeg).toInt := by rw [ey_28, ey_27]
    have g_30 : gP G_14 = gP G := gP_fr (rs := [37, 38, 39, 40, 42, 43, 46, 47]) (fs := [(6, 3), (7, 1), (7, 2), (7, 3), (7, 4), (7, 5), (7, 6), (7, 7)]) (Fr.rf.call hq_15 (by decide) (by decide)) (by decide) (by decide)
    have g_31 : gW G_14 = gW G := gW_fr (rs := [37, 38, 39, 40, 42, 43, 46, 47]) (fs := [(6, 3), (7, 1), (7, 2), (7, 3), (7, 4), (7, 5), (7, 6), (7, 7)]) (Fr.rf.call hq_15 (by decide) (by decide)) (by decide) (by decide)
    refine S_calli (va_runV (As := [.int y_19, .int y_22, .int y_25, .int y_28]) (rest := []) ⟨hx, hb, hml, hown, hts⟩ (n_wager l D k A a z G_14 y_19 y_22 y_25 y_28 (by omega) (by omega)) (cwV 4 hts (gd_V hgd m1967 m1968 m1969 m131 m1970) rfl rfl rfl (by decide +kernel) ⟨Nat.le_of_ble_eq_true rfl, Nat.le_of_ble_eq_true rfl⟩) (pre_V hW hB_G_14 hK hZ hS kd_66 rfl) rfl rfl hl.1 rfl (lv_room (Nat.le_of_ble_eq_true rfl)) dL_law_1190 ⟨Nat.le_of_ble_eq_true rfl, Nat.le_of_ble_eq_true rfl⟩) hS (fun r_32 G_33 H locs hpo hW hS => ?_)
    have hX_36 : Q_wager y_19 y_22 y_25 y_28 G_14 r_32 G_33 := hpo
    obtain ⟨hB_G_33, hq_34, -⟩ := hpo
    have u_37 := L_wager_2 hX_17 hX_36 (by omega) (by omega) (by omega) (by omega) (by omega)
    refine lv_pop hx hb dL_law_1193 rfl ?_
    refine lv_goto (tgt := 1641) hx hb dL_law_1194 (by decide) ?_
    have g_38 : gO G_33 = gO G := gO_fr (rs := [37, 38, 39, 40, 42, 43, 46, 47, 76, 97, 98, 99, 107, 108, 109]) (fs := [(6, 3), (7, 1), (7, 2), (7, 3), (7, 4), (7, 5), (7, 6), (7, 7), (66, 59), (66, 60), (66, 61), (66, 62), (66, 63)]) ((Fr.rf.call hq_15 (by decide) (by decide)).call hq_34 (by decide) (by decide)) (by decide) (by decide)
    have g_39 : gP G_33 = gP G := gP_fr (rs := [37, 38, 39, 40, 42, 43, 46, 47, 76, 97, 98, 99, 107, 108, 109]) (fs := [(6, 3), (7, 1), (7, 2), (7, 3), (7, 4), (7, 5), (7, 6), (7, 7), (66, 59), (66, 60), (66, 61), (66, 62), (66, 63)]) ((Fr.rf.call hq_15 (by decide) (by decide)).call hq_34 (by decide) (by decide)) (by decide) (by decide)
    have g_40 : gS G_33 = gS G := gS_fr (rs := [37, 38, 39, 40, 42, 43, 46, 47, 76, 97, 98, 99, 107, 108, 109]) (fs := [(6, 3), (7, 1), (7, 2), (7, 3), (7, 4), (7, 5), (7, 6), (7, 7), (66, 59), (66, 60), (66, 61), (66, 62), (66, 63)]) ((Fr.rf.call hq_15 (by decide) (by decide)).call hq_34 (by decide) (by decide)) (by decide) (by decide)
    have g_41 : gTE G_33 = gTE G := gTE_fr (rs := [37, 38, 39, 40, 42, 43, 46, 47, 76, 97, 98, 99, 107, 108, 109]) (fs := [(6, 3), (7, 1), (7, 2), (7, 3), (7, 4), (7, 5), (7, 6), (7, 7), (66, 59), (66, 60), (66, 61), (66, 62), (66, 63)]) ((Fr.rf.call hq_15 (by decide) (by decide)).call hq_34 (by decide) (by decide)) (by decide) (by decide)
    have g_42 : gW G_33 = gW G := gW_fr (rs := [37, 38, 39, 40, 42, 43, 46, 47, 76, 97, 98, 99, 107, 108, 109]) (fs := [(6, 3), (7, 1), (7, 2), (7, 3), (7, 4), (7, 5), (7, 6), (7, 7), (66, 59), (66, 60), (66, 61), (66, 62), (66, 63)]) ((Fr.rf.call hq_15 (by decide) (by decide)).call hq_34 (by decide) (by decide)) (by decide) (by decide)
    have b_43 : 0 ≤ (G.1 0 11).toInt ∧ (G.1 0 11).toInt ≤ 1600 := hB_G.i 0 11 rfl rfl
    have g_44 : (G_33.1 0 11).toInt = (G.1 0 11).toInt := by rw [show G_33.1 0 11 = (G.1 0 11) from ((hq_34.i 0 11 (by decide) (by decide)).trans (hq_15.i 0 11 (by decide) (by decide)))]
    have b_45 : 0 ≤ (G.1 3 7).toInt ∧ (G.1 3 7).toInt ≤ 4 := hB_G.i 3 7 rfl rfl
    have g_46 : (G_33.1 3 7).toInt = (G.1 3 7).toInt := by rw [show G_33.1 3 7 = (G.1 3 7) from ((hq_34.i 3 7 (by decide) (by decide)).trans (hq_15.i 3 7 (by decide) (by decide)))]
    have b_47 : (-1) ≤ (G.1 3 8).toInt ∧ (G.1 3 8).toInt ≤ 1600 := hB_G.i 3 8 rfl rfl
    have g_48 : (G_33.1 3 8).toInt = (G.1 3 8).toInt := by rw [show G_33.1 3 8 = (G.1 3 8) from ((hq_34.i 3 8 (by decide) (by decide)).trans (hq_15.i 3 8 (by decide) (by decide)))]
    have b_49 : 0 ≤ (G.1 30 4).toInt ∧ (G.1 30 4).toInt ≤ 40 := hB_G.i 30 4 rfl rfl
    have g_50 : (G_33.1 30 4).toInt = (G.1 30 4).toInt := by rw [show G_33.1 30 4 = (G.1 30 4) from ((hq_34.i 30 4 (by decide) (by decide)).trans (hq_15.i 30 4 (by decide) (by decide)))]
    have b_51 : 0 ≤ (G.1 30 5).toInt ∧ (G.1 30 5).toInt ≤ 40 := hB_G.i 30 5 rfl rfl
    have g_52 : (G_33.1 30 5).toInt = (G.1 30 5).toInt := by rw [show G_33.1 30 5 = (G.1 30 5) from ((hq_34.i 30 5 (by decide) (by decide)).trans (hq_15.i 30 5 (by decide) (by decide)))]
    have b_53 : 0 ≤ (G.1 31 6).toInt ∧ (G.1 31 6).toInt ≤ 100000 := hB_G.i 31 6 rfl rfl
    have g_54 : (G_33.1 31 6).toInt = (G.1 31 6).toInt := by rw [show G_33.1 31 6 = (G.1 31 6) from ((hq_34.i 31 6 (by decide) (by decide)).trans (hq_15.i 31 6 (by decide) (by decide)))]
    have b_55 : 0 ≤ (G.1 66 1).toInt ∧ (G.1 66 1).toInt ≤ 1600 := hB_G.i 66 1 rfl rfl
    have g_56 : (G_33.1 66 1).toInt = (G.1 66 1).toInt := by rw [show G_33.1 66 1 = (G.1 66 1) from ((hq_34.i 66 1 (by decide) (by decide)).trans (hq_15.i 66 1 (by decide) (by decide)))]
    have b_57 : 0 ≤ (G.1 66 2).toInt ∧ (G.1 66 2).toInt ≤ 4 := hB_G.i 66 2 rfl rfl
    have g_58 : (G_33.1 66 2).toInt = (G.1 66 2).toInt := by rw [show G_33.1 66 2 = (G.1 66 2) from ((hq_34.i 66 2 (by decide) (by decide)).trans (hq_15.i 66 2 (by decide) (by decide)))]
    have b_59 : (-1) ≤ (G.1 66 3).toInt ∧ (G.1 66 3).toInt ≤ 1600 := hB_G.i 66 3 rfl rfl
    have g_60 : (G_33.1 66 3).toInt = (G.1 66 3).toInt := by rw [show G_33.1 66 3 = (G.1 66 3) from ((hq_34.i 66 3 (by decide) (by decide)).trans (hq_15.i 66 3 (by decide) (by decide)))]
    have b_61 : 0 ≤ (G.1 66 78).toInt ∧ (G.1 66 78).toInt ≤ 40 := hB_G.i 66 78 rfl rfl
    have g_62 : (G_33.1 66 78).toInt = (G.1 66 78).toInt := by rw [show G_33.1 66 78 = (G.1 66 78) from ((hq_34.i 66 78 (by decide) (by decide)).trans (hq_15.i 66 78 (by decide) (by decide)))]
    have b_63 : 0 ≤ (G.1 66 79).toInt ∧ (G.1 66 79).toInt ≤ 40 := hB_G.i 66 79 rfl rfl
    have g_64 : (G_33.1 66 79).toInt = (G.1 66 79).toInt := by rw [show G_33.1 66 79 = (G.1 66 79) from ((hq_34.i 66 79 (by decide) (by decide)).trans (hq_15.i 66 79 (by decide) (by decide)))]
    have b_65 : 0 ≤ (G.1 66 86).toInt ∧ (G.1 66 86).toInt ≤ 100000 := hB_G.i 66 86 rfl rfl
    have g_66 : (G_33.1 66 86).toInt = (G.1 66 86).toInt := by rw [show G_33.1 66 86 = (G.1 66 86) from ((hq_34.i 66 86 (by decide) (by decide)).trans (hq_15.i 66 86 (by decide) (by decide)))]
    have b_67 : 0 ≤ (G.1 96 0).toInt ∧ (G.1 96 0).toInt ≤ 9 := hB_G.i 96 0 rfl rfl
    have g_68 : (G_33.1 96 0).toInt = (G.1 96 0).toInt := by rw [show G_33.1 96 0 = (G.1 96 0) from ((hq_34.i 96 0 (by decide) (by decide)).trans (hq_15.i 96 0 (by decide) (by decide)))]
    have b_69 : 0 ≤ (G.1 96 1).toInt ∧ (G.1 96 1).toInt ≤ 9 := hB_G.i 96 1 rfl rfl
    have g_70 : (G_33.1 96 1).toInt = (G.1 96 1).toInt := by rw [show G_33.1 96 1 = (G.1 96 1) from ((hq_34.i 96 1 (by decide) (by decide)).trans (hq_15.i 96 1 (by decide) (by decide)))]
    have b_71 : 0 ≤ (G.1 96 2).toInt ∧ (G.1 96 2).toInt ≤ 9 := hB_G.i 96 2 rfl rfl
    have g_72 : (G_33.1 96 2).toInt = (G.1 96 2).toInt := by rw [show G_33.1 96 2 = (G.1 96 2) from ((hq_34.i 96 2 (by decide) (by decide)).trans (hq_15.i 96 2 (by decide) (by decide)))]
    exact K G_33 _ _ _ (Or.inr ⟨((((hq_34.r 0 0 (by decide) (by decide)).trans (hq_15.r 0 0 (by decide) (by decide)))).trans (hv_0_0)), ((((hq_34.r 0 1 (by decide) (by decide)).trans (hq_15.r 0 1 (by decide) (by decide)))).trans (hv_0_1)), ((((hq_34.r 6 4 (by decide) (by decide)).trans (hq_15.r 6 4 (by decide) (by decide)))).trans (hv_6_4)), by omega, by omega, by omega, by omega, by omega, by omega, by omega, by omega, by omega, by omega, by omega, by omega, by omega⟩) hB_G_33 hW hS (lv_sub hl [0, 1, 2, 3] rfl)

set_option maxHeartbeats 4000000 in
set_option maxRecDepth 100000 in
theorem law_21 {p : Program} {l : Launch} {e : Env} {s : State} {m : MethodId} {below : List Frame} {meth : Method} {c : Code} {D : va_G} {k : KT} {A : Nat → Prop} {a : Nat → Nat} {z : SK} {b L : Nat} {xs : Nat → Int32} (hL : L ≤ 3072) (C0 : lw_At p s m meth c b L xs) (hK : cK D k s) (hZ : Sx A z s) (hbA : ¬ A b) {G : GS} {i0 : Int32} (hi0 : 0 ≤ i0.toInt) (hi6 : i0.toInt + 6 ≤ L) (hI : LI G) (hB_G : Bd G) {H : Heap} {locs : List Loc} {ls : Array Slot} (hW : Wd D k A a G H) (hS : va_S A s.heap H locs) (hl : lv_has ls 4 [(0, .ref b), (1, .ref (a 0)), (2, .ref (a 66)), (3, .int i0)]) (K : ∀ (G1 : GS) (H1 : Heap) (locs1 : List Loc) (ls1 : Array Slot), LI G1 → Bd G1 → Wd D k A a G1 H1 → va_S A s.heap H1 locs1 → lv_has ls1 4 [(0, .ref b), (1, .ref (a 0)), (2, .ref (a 66)), (3, .int i0)] → W p l e room_1 s m #[Value.ref b] below meth c H1 locs1 119 46443 (lw_Z below #[Value.ref b] s) (F0 m 1641 ls1 [])) : W p l e room_1 s m #[Value.ref b] below meth c H locs 119 46443 (lw_Z below #[Value.ref b] s) (F0 m 1197 ls []) := by
  obtain ⟨hx, hb, hr, hml, hown, hts, hX, hbl, hlocks, hgv⟩ := id C0
  have hown : s.vm.findClass RL = some m.cls := hown
  have hgd : ∀ w ∈ gd, w ∈ lw_tbl := fun w h => (List.mem_filter.mp h).1
  have hg : ∀ w ∈ gd, w.before #[Value.ref b] s = true := fun w h => hts w (hgd w h)
  rcases hI with ⟨hv_0_0, hv_0_1, hv_6_4, hj0, hj1, hj2, hj3, hj4, hj5, hj6, hj7, hj8, hj9, hj10, hj11⟩ | ⟨hv_0_0, hv_0_1, hv_6_4, hj0, hj1, hj2, hj3, hj4, hj5, hj6, hj7, hj8, hj9, hj10, hj11⟩
  · skip
    refine lv_aload_n hx hb dL_law_1197 rfl (lv_at hl 1 rfl) ?_
    refine lv_aload_n hx hb dL_law_1198 rfl (lv_at hl 0 rfl) ?_
    refine lv_iload_n hx hb dL_law_1199 rfl (lv_at hl 3 rfl) ?_
    refine lv_iconst (v := 1) hx hb dL_law_1200 (by decide) ?_
    refine lv_iadd hx hb dL_law_1201 ?_
    refine lv_topi (fun y_1 ey_1 => ?_)
    have ty_1 : y_1.toInt = i0.toInt + 1 := xI_add rfl rfl ey_1 (by omega) (by omega)
    refine va_sld hx hb hX hbl hbA hS (vin (by omega) (by omega)) dL_law_1202 ?_
    refine lv_topi (fun y_2 ey_2 => ?_)
    have u_3 : y_2.toInt = (xs (i0 + 1).toNatClampNeg).toInt := by rw [ey_2, ey_1]
    refine lv_aload_n hx hb dL_law_1203 rfl (lv_at hl 0 rfl) ?_
    refine lv_iload_n hx hb dL_law_1204 rfl (lv_at hl 3 rfl) ?_
    refine lv_iconst (v := 2) hx hb dL_law_1205 (by decide) ?_
    refine lv_iadd hx hb dL_law_1206 ?_
    refine lv_topi (fun y_4 ey_4 => ?_)
    have ty_4 : y_4.toInt = i0.toInt + 2 := xI_add rfl rfl ey_4 (by omega) (by omega)
    refine va_sld hx hb hX hbl hbA hS (vin (by omega) (by omega)) dL_law_1207 ?_
    refine lv_topi (fun y_5 ey_5 => ?_)
    have u_6 : y_5.toInt = (xs (i0 + 2).toNatClampNeg).toInt := by rw [ey_5, ey_4]
    refine S_calli (va_runV (As := [.int y_2, .int y_5]) (rest := []) ⟨hx, hb, hml, hown, hts⟩ (k_Wleave_1 l D k A a z G y_2 y_5 hv_0_0 hv_0_1 hv_6_4) (cwV 2 hts (gd_V hgd m1162 m1163 m1164 m117 m1165) rfl rfl rfl (by decide +kernel) ⟨Nat.le_of_ble_eq_true rfl, Nat.le_of_ble_eq_true rfl⟩) (pre_V hW hB_G hK hZ hS kd_0 rfl) rfl rfl hl.1 rfl (lv_room (Nat.le_of_ble_eq_true rfl)) dL_law_1208 ⟨Nat.le_of_ble_eq_true rfl, Nat.le_of_ble_eq_true rfl⟩) hS (fun r_7 G_8 H locs hpo hW hS => ?_)
    have hX_11 : P_Wleave_1 y_2 y_5 G r_7 G_8 := hpo
    obtain ⟨hB_G_8, hq_9, -⟩ := hpo
    refine lv_pop hx hb dL_law_1211 rfl ?_
    refine lv_aload_n hx hb dL_law_1212 rfl (lv_at hl 2 rfl) ?_
    refine lv_aload_n hx hb dL_law_1213 rfl (lv_at hl 0 rfl) ?_
    refine lv_iload_n hx hb dL_law_1214 rfl (lv_at hl 3 rfl) ?_
    refine lv_iconst (v := 1) hx hb dL_law_1215 (by decide) ?_
    refine lv_iadd hx hb dL_law_1216 ?_
    refine lv_topi (fun y_12 ey_12 => ?_)
    have ty_12 : y_12.toInt = i0.toInt + 1 := xI_add rfl rfl ey_12 (by omega) (by omega)
    refine va_sld hx hb hX hbl hbA hS (vin (by omega) (by omega)) dL_law_1217 ?_
    refine lv_topi (fun y_13 ey_13 => ?_)
    have u_14 : y_13.toInt = (xs (i0 + 1).toNatClampNeg).toInt := by rw [ey_13, ey_12]
    refine lv_aload_n hx hb dL_law_1218 rfl (lv_at hl 0 rfl) ?_
    refine lv_iload_n hx hb dL_law_1219 rfl (lv_at hl 3 rfl) ?_
    refine lv_iconst (v := 2) hx hb dL_law_1220 (by decide) ?_
    refine lv_iadd hx hb dL_law_1221 ?_
    refine lv_topi (fun y_15 ey_15 => ?_)
    have ty_15 : y_15.toInt = i0.toInt + 2 := xI_add rfl rfl ey_15 (by omega) (by omega)
    refine va_sld hx hb hX hbl hbA hS (vin (by omega) (by omega)) dL_law_1222 ?_
    refine lv_topi (fun y_16 ey_16 => ?_)
    have u_17 : y_16.toInt = (xs (i0 + 2).toNatClampNeg).toInt := by rw [ey_16, ey_15]
    have g_18 : gP G_8 = gP G := gP_fr (rs := [37, 38, 39, 40, 42, 43]) (fs := [(6, 3), (7, 1), (7, 2), (7, 3), (7, 4), (7, 5), (7, 6), (7, 7)]) (Fr.rf.call hq_9 (by decide) (by decide)) (by decide) (by decide)
    have g_19 : gW G_8 = gW G := gW_fr (rs := [37, 38, 39, 40, 42, 43]) (fs := [(6, 3), (7, 1), (7, 2), (7, 3), (7, 4), (7, 5), (7, 6), (7, 7)]) (Fr.rf.call hq_9 (by decide) (by decide)) (by decide) (by decide)
    refine S_calli (va_runV (As := [.int y_13, .int y_16]) (rest := []) ⟨hx, hb, hml, hown, hts⟩ (n_leave l D k A a z G_8 y_13 y_16 (by omega) (by omega)) (cwV 2 hts (gd_V hgd m1983 m1984 m1985 m131 m1986) rfl rfl rfl (by decide +kernel) ⟨Nat.le_of_ble_eq_true rfl, Nat.le_of_ble_eq_true rfl⟩) (pre_V hW hB_G_8 hK hZ hS kd_66 rfl) rfl rfl hl.1 rfl (lv_room (Nat.le_of_ble_eq_true rfl)) dL_law_1223 ⟨Nat.le_of_ble_eq_true rfl, Nat.le_of_ble_eq_true rfl⟩) hS (fun r_20 G_21 H locs hpo hW hS => ?_)
    have hX_24 : Q_leave y_13 y_16 G_8 r_20 G_21 := hpo
    obtain ⟨hB_G_21, hq_22, -⟩ := hpo
    have u_25 := L_leave_1 hX_11 hX_24 (by omega) (by omega) (by omega)
    refine lv_pop hx hb dL_law_1226 rfl ?_
    refine lv_goto (tgt := 1641) hx hb dL_law_1227 (by decide) ?_
    have g_26 : gO G_21 = gO G := gO_fr (rs := [37, 38, 39, 40, 42, 43, 76, 97, 98, 99, 107]) (fs := [(6, 3), (7, 1), (7, 2), (7, 3), (7, 4), (7, 5), (7, 6), (7, 7), (66, 59), (66, 60), (66, 61), (66, 62), (66, 63)]) ((Fr.rf.call hq_9 (by decide) (by decide)).call hq_22 (by decide) (by decide)) (by decide) (by decide)
    have g_27 : gP G_21 = gP G := gP_fr (rs := [37, 38, 39, 40, 42, 43, 76, 97, 98, 99, 107]) (fs := [(6, 3), (7, 1), (7, 2), (7, 3), (7, 4), (7, 5), (7, 6), (7, 7), (66, 59), (66, 60), (66, 61), (66, 62), (66, 63)]) ((Fr.rf.call hq_9 (by decide) (by decide)).call hq_22 (by decide) (by decide)) (by decide) (by decide)
    have g_28 : gS G_21 = gS G := gS_fr (rs := [37, 38, 39, 40, 42, 43, 76, 97, 98, 99, 107]) (fs := [(6, 3), (7, 1), (7, 2), (7, 3), (7, 4), (7, 5), (7, 6), (7, 7), (66, 59), (66, 60), (66, 61), (66, 62), (66, 63)]) ((Fr.rf.call hq_9 (by decide) (by decide)).call hq_22 (by decide) (by decide)) (by decide) (by decide)
    have g_29 : gTE G_21 = gTE G := gTE_fr (rs := [37, 38, 39, 40, 42, 43, 76, 97, 98, 99, 107]) (fs := [(6, 3), (7, 1), (7, 2), (7, 3), (7, 4), (7, 5), (7, 6), (7, 7), (66, 59), (66, 60), (66, 61), (66, 62), (66, 63)]) ((Fr.rf.call hq_9 (by decide) (by decide)).call hq_22 (by decide) (by decide)) (by decide) (by decide)
    have g_30 : gW G_21 = gW G := gW_fr (rs := [37, 38, 39, 40, 42, 43, 76, 97, 98, 99, 107]) (fs := [(6, 3), (7, 1), (7, 2), (7, 3), (7, 4), (7, 5), (7, 6), (7, 7), (66, 59), (66, 60), (66, 61), (66, 62), (66, 63)]) ((Fr.rf.call hq_9 (by decide) (by decide)).call hq_22 (by decide) (by decide)) (by decide) (by decide)
    have b_31 : 0 ≤ (G.1 0 11).toInt ∧ (G.1 0 11).toInt ≤ 1600 := hB_G.i 0 11 rfl rfl
    have g_32 : (G_21.1 0 11).toInt = (G.1 0 11).toInt := by rw [show G_21.1 0 11 = (G.1 0 11) from ((hq_22.i 0 11 (by decide) (by decide)).trans (hq_9.i 0 11 (by decide) (by decide)))]
    have b_33 : 0 ≤ (G.1 3 7).toInt ∧ (G.1 3 7).toInt ≤ 4 := hB_G.i 3 7 rfl rfl
    have g_34 : (G_21.1 3 7).toInt = (G.1 3 7).toInt := by rw [show G_21.1 3 7 = (G.1 3 7) from ((hq_22.i 3 7 (by decide) (by decide)).trans (hq_9.i 3 7 (by decide) (by decide)))]
    have b_35 : (-1) ≤ (G.1 3 8).toInt ∧ (G.1 3 8).toInt ≤ 1600 := hB_G.i 3 8 rfl rfl
    have g_36 : (G_21.1 3 8).toInt = (G.1 3 8).toInt := by rw [show G_21.1 3 8 = (G.1 3 8) from ((hq_22.i 3 8 (by decide) (by decide)).trans (hq_9.i 3 8 (by decide) (by decide)))]
    have b_37 : 0 ≤ (G.1 30 4).toInt ∧ (G.1 30 4).toInt ≤ 40 := hB_G.i 30 4 rfl rfl
    have g_38 : (G_21.1 30 4).toInt = (G.1 30 4).toInt := by rw [show G_21.1 30 4 = (G.1 30 4) from ((hq_22.i 30 4 (by decide) (by decide)).trans (hq_9.i 30 4 (by decide) (by decide)))]
    have b_39 : 0 ≤ (G.1 30 5).toInt ∧ (G.1 30 5).toInt ≤ 40 := hB_G.i 30 5 rfl rfl
    have g_40 : (G_21.1 30 5).toInt = (G.1 30 5).toInt := by rw [show G_21.1 30 5 = (G.1 30 5) from ((hq_22.i 30 5 (by decide) (by decide)).trans (hq_9.i 30 5 (by decide) (by decide)))]
    have b_41 : 0 ≤ (G.1 31 6).toInt ∧ (G.1 31 6).toInt ≤ 100000 := hB_G.i 31 6 rfl rfl
    have g_42 : (G_21.1 31 6).toInt = (G.1 31 6).toInt := by rw [show G_21.1 31 6 = (G.1 31 6) from ((hq_22.i 31 6 (by decide) (by decide)).trans (hq_9.i 31 6 (by decide) (by decide)))]
    have b_43 : 0 ≤ (G.1 66 1).toInt ∧ (G.1 66 1).toInt ≤ 1600 := hB_G.i 66 1 rfl rfl
    have g_44 : (G_21.1 66 1).toInt = (G.1 66 1).toInt := by rw [show G_21.1 66 1 = (G.1 66 1) from ((hq_22.i 66 1 (by decide) (by decide)).trans (hq_9.i 66 1 (by decide) (by decide)))]
    have b_45 : 0 ≤ (G.1 66 2).toInt ∧ (G.1 66 2).toInt ≤ 4 := hB_G.i 66 2 rfl rfl
    have g_46 : (G_21.1 66 2).toInt = (G.1 66 2).toInt := by rw [show G_21.1 66 2 = (G.1 66 2) from ((hq_22.i 66 2 (by decide) (by decide)).trans (hq_9.i 66 2 (by decide) (by decide)))]
    have b_47 : (-1) ≤ (G.1 66 3).toInt ∧ (G.1 66 3).toInt ≤ 1600 := hB_G.i 66 3 rfl rfl
    have g_48 : (G_21.1 66 3).toInt = (G.1 66 3).toInt := by rw [show G_21.1 66 3 = (G.1 66 3) from ((hq_22.i 66 3 (by decide) (by decide)).trans (hq_9.i 66 3 (by decide) (by decide)))]
    have b_49 : 0 ≤ (G.1 66 78).toInt ∧ (G.1 66 78).toInt ≤ 40 := hB_G.i 66 78 rfl rfl
    have g_50 : (G_21.1 66 78).toInt = (G.1 66 78).toInt := by rw [show G_21.1 66 78 = (G.1 66 78) from ((hq_22.i 66 78 (by decide) (by decide)).trans (hq_9.i 66 78 (by decide) (by decide)))]
    have b_51 : 0 ≤ (G.1 66 79).toInt ∧ (G.1 66 79).toInt ≤ 40 := hB_G.i 66 79 rfl rfl
    have g_52 : (G_21.1 66 79).toInt = (G.1 66 79).toInt := by rw [show G_21.1 66 79 = (G.1 66 79) from ((hq_22.i 66 79 (by decide) (by decide)).trans (hq_9.i 66 79 (by decide) (by decide)))]
    have b_53 : 0 ≤ (G.1 66 86).toInt ∧ (G.1 66 86).toInt ≤ 100000 := hB_G.i 66 86 rfl rfl
    have g_54 : (G_21.1 66 86).toInt = (G.1 66 86).toInt := by rw [show G_21.1 66 86 = (G.1 66 86) from ((hq_22.i 66 86 (by decide) (by decide)).trans (hq_9.i 66 86 (by decide) (by decide)))]
    have b_55 : 0 ≤ (G.1 96 0).toInt ∧ (G.1 96 0).toInt ≤ 9 := hB_G.i 96 0 rfl rfl
    have g_56 : (G_21.1 96 0).toInt = (G.1 96 0).toInt := by rw [show G_21.1 96 0 = (G.1 96 0) from ((hq_22.i 96 0 (by decide) (by decide)).trans (hq_9.i 96 0 (by decide) (by decide)))]
    have b_57 : 0 ≤ (G.1 96 1).toInt ∧ (G.1 96 1).toInt ≤ 9 := hB_G.i 96 1 rfl rfl
    have g_58 : (G_21.1 96 1).toInt = (G.1 96 1).toInt := by rw [show G_21.1 96 1 = (G.1 96 1) from ((hq_22.i 96 1 (by decide) (by decide)).trans (hq_9.i 96 1 (by decide) (by decide)))]
    have b_59 : 0 ≤ (G.1 96 2).toInt ∧ (G.1 96 2).toInt ≤ 9 := hB_G.i 96 2 rfl rfl
    have g_60 : (G_21.1 96 2).toInt = (G.1 96 2).toInt := by rw [show G_21.1 96 2 = (G.1 96 2) from ((hq_22.i 96 2 (by decide) (by decide)).trans (hq_9.i 96 2 (by decide) (by decide)))]
    exact K G_21 _ _ _ (Or.inl ⟨((((hq_22.r 0 0 (by decide) (by decide)).trans (hq_9.r 0 0 (by decide) (by decide)))).trans (hv_0_0)), ((((hq_22.r 0 1 (by decide) (by decide)).trans (hq_9.r 0 1 (by decide) (by decide)))).trans (hv_0_1)), ((((hq_22.r 6 4 (by decide) (by decide)).trans (hq_9.r 6 4 (by decide) (by decide)))).trans (hv_6_4)), by omega, by omega, by omega, by omega, by omega, by omega, by omega, by omega, by omega, by omega, by omega, by omega, by omega⟩) hB_G_21 hW hS (lv_sub hl [0, 1, 2, 3] rfl)
  · skip
    refine lv_aload_n hx hb dL_law_1197 rfl (lv_at hl 1 rfl) ?_
    refine lv_aload_n hx hb dL_law_1198 rfl (lv_at hl 0 rfl) ?_
    refine lv_iload_n hx hb dL_law_1199 rfl (lv_at hl 3 rfl) ?_
    refine lv_iconst (v := 1) hx hb dL_law_1200 (by decide) ?_
    refine lv_iadd hx hb dL_law_1201 ?_
    refine lv_topi (fun y_1 ey_1 => ?_)
    have ty_1 : y_1.toInt = i0.toInt + 1 := xI_add rfl rfl ey_1 (by omega) (by omega)
    refine va_sld hx hb hX hbl hbA hS (vin (by omega) (by omega)) dL_law_1202 ?_
    refine lv_topi (fun y_2 ey_2 => ?_)
    have u_3 : y_2.toInt = (xs (i0 + 1).toNatClampNeg).toInt := by rw [ey_2, ey_1]
    refine lv_aload_n hx hb dL_law_1203 rfl (lv_at hl 0 rfl) ?_
    refine lv_iload_n hx hb dL_law_1204 rfl (lv_at hl 3 rfl) ?_
    refine lv_iconst (v := 2) hx hb dL_law_1205 (by decide) ?_
    refine lv_iadd hx hb dL_law_1206 ?_
    refine lv_topi (fun y_4 ey_4 => ?_)
    have ty_4 : y_4.toInt = i0.toInt + 2 := xI_add rfl rfl ey_4 (by omega) (by omega)
    refine va_sld hx hb hX hbl hbA hS (vin (by omega) (by omega)) dL_law_1207 ?_
    refine lv_topi (fun y_5 ey_5 => ?_)
    have u_6 : y_5.toInt = (xs (i0 + 2).toNatClampNeg).toInt := by rw [ey_5, ey_4]
    refine S_calli (va_runV (As := [.int y_2, .int y_5]) (rest := []) ⟨hx, hb, hml, hown, hts⟩ (k_Wleave_2 l D k A a z G y_2 y_5 hv_0_0 hv_0_1 hv_6_4) (cwV 2 hts (gd_V hgd m1162 m1163 m1164 m117 m1165) rfl rfl rfl (by decide +kernel) ⟨Nat.le_of_ble_eq_true rfl, Nat.le_of_ble_eq_true rfl⟩) (pre_V hW hB_G hK hZ hS kd_0 rfl) rfl rfl hl.1 rfl (lv_room (Nat.le_of_ble_eq_true rfl)) dL_law_1208 ⟨Nat.le_of_ble_eq_true rfl, Nat.le_of_ble_eq_true rfl⟩) hS (fun r_7 G_8 H locs hpo hW hS => ?_)
    have hX_11 : P_Wleave_2 y_2 y_5 G r_7 G_8 := hpo
    obtain ⟨hB_G_8, hq_9, -⟩ := hpo
    refine lv_pop hx hb dL_law_1211 rfl ?_
    refine lv_aload_n hx hb dL_law_1212 rfl (lv_at hl 2 rfl) ?_
    refine lv_aload_n hx hb dL_law_1213 rfl (lv_at hl 0 rfl) ?_
    refine lv_iload_n hx hb dL_law_1214 rfl (lv_at hl 3 rfl) ?_
    refine lv_iconst (v := 1) hx hb dL_law_1215 (by decide) ?_
    refine lv_iadd hx hb dL_law_1216 ?_
    refine lv_topi (fun y_12 ey_12 => ?_)
    have ty_12 : y_12.toInt = i0.toInt + 1 := xI_add rfl rfl ey_12 (by omega) (by omega)
    refine va_sld hx hb hX hbl hbA hS (vin (by omega) (by omega)) dL_law_1217 ?_
    refine lv_topi (fun y_13 ey_13 => ?_)
    have u_14 : y_13.toInt = (xs (i0 + 1).toNatClampNeg).toInt := by rw [ey_13, ey_12]
    refine lv_aload_n hx hb dL_law_1218 rfl (lv_at hl 0 rfl) ?_
    refine lv_iload_n hx hb dL_law_1219 rfl (lv_at hl 3 rfl) ?_
    refine lv_iconst (v := 2) hx hb dL_law_1220 (by decide) ?_
    refine lv_iadd hx hb dL_law_1221 ?_
    refine lv_topi (fun y_15 ey_15 => ?_)
    have ty_15 : y_15.toInt = i0.toInt + 2 := xI_add rfl rfl ey_15 (by omega) (by omega)
    refine va_sld hx hb hX hbl hbA hS (vin (by omega) (by omega)) dL_law_1222 ?_
    refine lv_topi (fun y_16 ey_16 => ?_)
    have u_17 : y_16.toInt = (xs (i0 + 2).toNatClampNeg).toInt := by rw [ey_16, ey_15]
    have g_18 : gP G_8 = gP G := gP_fr (rs := [37, 38, 39, 40, 42, 43]) (fs := [(6, 3), (7, 1), (7, 2), (7, 3), (7, 4), (7, 5), (7, 6), (7, 7)]) (Fr.rf.call hq_9 (by decide) (by decide)) (by decide) (by decide)
    have g_19 : gW G_8 = gW G := gW_fr (rs := [37, 38, 39, 40, 42, 43]) (fs := [(6, 3), (7, 1), (7, 2), (7, 3), (7, 4), (7, 5), (7, 6), (7, 7)]) (Fr.rf.call hq_9 (by decide) (by decide)) (by decide) (by decide)
    refine S_calli (va_runV (As := [.int y_13, .int y_16]) (rest := []) ⟨hx, hb, hml, hown, hts⟩ (n_leave l D k A a z G_8 y_13 y_16 (by omega) (by omega)) (cwV 2 hts (gd_V hgd m1983 m1984 m1985 m131 m1986) rfl rfl rfl (by decide +kernel) ⟨Nat.le_of_ble_eq_true rfl, Nat.le_of_ble_eq_true rfl⟩) (pre_V hW hB_G_8 hK hZ hS kd_66 rfl) rfl rfl hl.1 rfl (lv_room (Nat.le_of_ble_eq_true rfl)) dL_law_1223 ⟨Nat.le_of_ble_eq_true rfl, Nat.le_of_ble_eq_true rfl⟩) hS (fun r_20 G_21 H locs hpo hW hS => ?_)
    have hX_24 : Q_leave y_13 y_16 G_8 r_20 G_21 := hpo
    obtain ⟨hB_G_21, hq_22, -⟩ := hpo
    have u_25 := L_leave_2 hX_11 hX_24 (by omega) (by omega) (by omega)
    refine lv_pop hx hb dL_law_1226 rfl ?_
    refine lv_goto (tgt := 1641) hx hb dL_law_1227 (by decide) ?_
    have g_26 : gO G_21 = gO G := gO_fr (rs := [37, 38, 39, 40, 42, 43, 76, 97, 98, 99, 107]) (fs := [(6, 3), (7, 1), (7, 2), (7, 3), (7, 4), (7, 5), (7, 6), (7, 7), (66, 59), (66, 60), (66, 61), (66, 62), (66, 63)]) ((Fr.rf.call hq_9 (by decide) (by decide)).call hq_22 (by decide) (by decide)) (by decide) (by decide)
    have g_27 : gP G_21 = gP G := gP_fr (rs := [37, 38, 39, 40, 42, 43, 76, 97, 98, 99, 107]) (fs := [(6, 3), (7, 1), (7, 2), (7, 3), (7, 4), (7, 5), (7, 6), (7, 7), (66, 59), (66, 60), (66, 61), (66, 62), (66, 63)]) ((Fr.rf.call hq_9 (by decide) (by decide)).call hq_22 (by decide) (by decide)) (by decide) (by decide)
    have g_28 : gS G_21 = gS G := gS_fr (rs := [37, 38, 39, 40, 42, 43, 76, 97, 98, 99, 107]) (fs := [(6, 3), (7, 1), (7, 2), (7, 3), (7, 4), (7, 5), (7, 6), (7, 7), (66, 59), (66, 60), (66, 61), (66, 62), (66, 63)]) ((Fr.rf.call hq_9 (by decide) (by decide)).call hq_22 (by decide) (by decide)) (by decide) (by decide)
    have g_29 : gTE G_21 = gTE G := gTE_fr (rs := [37, 38, 39, 40, 42, 43, 76, 97, 98, 99, 107]) (fs := [(6, 3), (7, 1), (7, 2), (7, 3), (7, 4), (7, 5), (7, 6), (7, 7), (66, 59), (66, 60), (66, 61), (66, 62), (66, 63)]) ((Fr.rf.call hq_9 (by decide) (by decide)).call hq_22 (by decide) (by decide)) (by decide) (by decide)
    have g_30 : gW G_21 = gW G := gW_fr (rs := [37, 38, 39, 40, 42, 43, 76, 97, 98, 99, 107]) (fs := [(6, 3), (7, 1), (7, 2), (7, 3), (7, 4), (7, 5), (7, 6), (7, 7), (66, 59), (66, 60), (66, 61), (66, 62), (66, 63)]) ((Fr.rf.call hq_9 (by decide) (by decide)).call hq_22 (by decide) (by decide)) (by decide) (by decide)
    have b_31 : 0 ≤ (G.1 0 11).toInt ∧ (G.1 0 11).toInt ≤ 1600 := hB_G.i 0 11 rfl rfl
    have g_32 : (G_21.1 0 11).toInt = (G.1 0 11).toInt := by rw [show G_21.1 0 11 = (G.1 0 11) from ((hq_22.i 0 11 (by decide) (by decide)).trans (hq_9.i 0 11 (by decide) (by decide)))]
    have b_33 : 0 ≤ (G.1 3 7).toInt ∧ (G.1 3 7).toInt ≤ 4 := hB_G.i 3 7 rfl rfl
    have g_34 : (G_21.1 3 7).toInt = (G.1 3 7).toInt := by rw [show G_21.1 3 7 = (G.1 3 7) from ((hq_22.i 3 7 (by decide) (by decide)).trans (hq_9.i 3 7 (by decide) (by decide)))]
    have b_35 : (-1) ≤ (G.1 3 8).toInt ∧ (G.1 3 8).toInt ≤ 1600 := hB_G.i 3 8 rfl rfl
    have g_36 : (G_21.1 3 8).toInt = (G.1 3 8).toInt := by rw [show G_21.1 3 8 = (G.1 3 8) from ((hq_22.i 3 8 (by decide) (by decide)).trans (hq_9.i 3 8 (by decide) (by decide)))]
    have b_37 : 0 ≤ (G.1 30 4).toInt ∧ (G.1 30 4).toInt ≤ 40 := hB_G.i 30 4 rfl rfl
    have g_38 : (G_21.1 30 4).toInt = (G.1 30 4).toInt := by rw [show G_21.1 30 4 = (G.1 30 4) from ((hq_22.i 30 4 (by decide) (by decide)).trans (hq_9.i 30 4 (by decide) (by decide)))]
    have b_39 : 0 ≤ (G.1 30 5).toInt ∧ (G.1 30 5).toInt ≤ 40 := hB_G.i 30 5 rfl rfl
    have g_40 : (G_21.1 30 5).toInt = (G.1 30 5).toInt := by rw [show G_21.1 30 5 = (G.1 30 5) from ((hq_22.i 30 5 (by decide) (by decide)).trans (hq_9.i 30 5 (by decide) (by decide)))]
    have b_41 : 0 ≤ (G.1 31 6).toInt ∧ (G.1 31 6).toInt ≤ 100000 := hB_G.i 31 6 rfl rfl
    have g_42 : (G_21.1 31 6).toInt = (G.1 31 6).toInt := by rw [show G_21.1 31 6 = (G.1 31 6) from ((hq_22.i 31 6 (by decide) (by decide)).trans (hq_9.i 31 6 (by decide) (by decide)))]
    have b_43 : 0 ≤ (G.1 66 1).toInt ∧ (G.1 66 1).toInt ≤ 1600 := hB_G.i 66 1 rfl rfl
    have g_44 : (G_21.1 66 1).toInt = (G.1 66 1).toInt := by rw [show G_21.1 66 1 = (G.1 66 1) from ((hq_22.i 66 1 (by decide) (by decide)).trans (hq_9.i 66 1 (by decide) (by decide)))]
    have b_45 : 0 ≤ (G.1 66 2).toInt ∧ (G.1 66 2).toInt ≤ 4 := hB_G.i 66 2 rfl rfl
    have g_46 : (G_21.1 66 2).toInt = (G.1 66 2).toInt := by rw [show G_21.1 66 2 = (G.1 66 2) from ((hq_22.i 66 2 (by decide) (by decide)).trans (hq_9.i 66 2 (by decide) (by decide)))]
    have b_47 : (-1) ≤ (G.1 66 3).toInt ∧ (G.1 66 3).toInt ≤ 1600 := hB_G.i 66 3 rfl rfl
    have g_48 : (G_21.1 66 3).toInt = (G.1 66 3).toInt := by rw [show G_21.1 66 3 = (G.1 66 3) from ((hq_22.i 66 3 (by decide) (by decide)).trans (hq_9.i 66 3 (by decide) (by decide)))]
    have b_49 : 0 ≤ (G.1 66 78).toInt ∧ (G.1 66 78).toInt ≤ 40 := hB_G.i 66 78 rfl rfl
    have g_50 : (G_21.1 66 78).toInt = (G.1 66 78).toInt := by rw [show G_21.1 66 78 = (G.1 66 78) from ((hq_22.i 66 78 (by decide) (by decide)).trans (hq_9.i 66 78 (by decide) (by decide)))]
    have b_51 : 0 ≤ (G.1 66 79).toInt ∧ (G.1 66 79).toInt ≤ 40 := hB_G.i 66 79 rfl rfl
    have g_52 : (G_21.1 66 79).toInt = (G.1 66 79).toInt := by rw [show G_21.1 66 79 = (G.1 66 79) from ((hq_22.i 66 79 (by decide) (by decide)).trans (hq_9.i 66 79 (by decide) (by decide)))]
    have b_53 : 0 ≤ (G.1 66 86).toInt ∧ (G.1 66 86).toInt ≤ 100000 := hB_G.i 66 86 rfl rfl
    have g_54 : (G_21.1 66 86).toInt = (G.1 66 86).toInt := by rw [show G_21.1 66 86 = (G.1 66 86) from ((hq_22.i 66 86 (by decide) (by decide)).trans (hq_9.i 66 86 (by decide) (by decide)))]
    have b_55 : 0 ≤ (G.1 96 0).toInt ∧ (G.1 96 0).toInt ≤ 9 := hB_G.i 96 0 rfl rfl
    have g_56 : (G_21.1 96 0).toInt = (G.1 96 0).toInt := by rw [show G_21.1 96 0 = (G.1 96 0) from ((hq_22.i 96 0 (by decide) (by decide)).trans (hq_9.i 96 0 (by decide) (by decide)))]
    have b_57 : 0 ≤ (G.1 96 1).toInt ∧ (G.1 96 1).toInt ≤ 9 := hB_G.i 96 1 rfl rfl
    have g_58 : (G_21.1 96 1).toInt = (G.1 96 1).toInt := by rw [show G_21.1 96 1 = (G.1 96 1) from ((hq_22.i 96 1 (by decide) (by decide)).trans (hq_9.i 96 1 (by decide) (by decide)))]
    have b_59 : 0 ≤ (G.1 96 2).toInt ∧ (G.1 96 2).toInt ≤ 9 := hB_G.i 96 2 rfl rfl
    have g_60 : (G_21.1 96 2).toInt = (G.1 96 2).toInt := by rw [show G_21.1 96 2 = (G.1 96 2) from ((hq_22.i 96 2 (by decide) (by decide)).trans (hq_9.i 96 2 (by decide) (by decide)))]
    exact K G_21 _ _ _ (Or.inr ⟨((((hq_22.r 0 0 (by decide) (by decide)).trans (hq_9.r 0 0 (by decide) (by decide)))).trans (hv_0_0)), ((((hq_22.r 0 1 (by decide) (by decide)).trans (hq_9.r 0 1 (by decide) (by decide)))).trans (hv_0_1)), ((((hq_22.r 6 4 (by decide) (by decide)).trans (hq_9.r 6 4 (by decide) (by decide)))).trans (hv_6_4)), by omega, by omega, by omega, by omega, by omega, by omega, by omega, by omega, by omega, by omega, by omega, by omega, by omega⟩) hB_G_21 hW hS (lv_sub hl [0, 1, 2, 3] rfl)

set_option maxHeartbeats 4000000 in
set_option maxRecDepth 100000 in
theorem law_22 {p : Program} {l : Launch} {e : Env} {s : State} {m : MethodId} {below : List Frame} {meth : Method} {c : Code} {D : va_G} {k : KT} {A : Nat → Prop} {a : Nat → Nat} {z : SK} {b L : Nat} {xs : Nat → Int32} (hL : L ≤ 3072) (C0 : lw_At p s m meth c b L xs) (hK : cK D k s) (hZ : Sx A z s) (hbA : ¬ A b) {G : GS} {i0 : Int32} (hi0 : 0 ≤ i0.toInt) (hi6 : i0.toInt + 6 ≤ L) (hI : LI G) (hB_G : Bd G) {H : Heap} {locs : List Loc} {ls : Array Slot} (hW : Wd D k A a G H) (hS : va_S A s.heap H locs) (hl : lv_has ls 4 [(0, .ref b), (1, .ref (a 0)), (2, .ref (a 66)), (3, .int i0)]) (K : ∀ (G1 : GS) (H1 : Heap) (locs1 : List Loc) (ls1 : Array Slot), LI G1 → Bd G1 → Wd D k A a G1 H1 → va_S A s.heap H1 locs1 → lv_has ls1 4 [(0, .ref b), (1, .ref (a 0)), (2, .ref (a 66)), (3, .int i0)] → W p l e room_1 s m #[Value.ref b] below meth c H1 locs1 119 46443 (lw_Z below #[Value.ref b] s) (F0 m 1641 ls1 [])) : W p l e room_1 s m #[Value.ref b] below meth c H locs 119 46443 (lw_Z below #[Value.ref b] s) (F0 m 1230 ls []) := by
  obtain ⟨hx, hb, hr, hml, hown, hts, hX, hbl, hlocks, hgv⟩ := id C0
  have hown : s.vm.findClass RL = some m.cls := hown
  have hgd : ∀ w ∈ gd, w ∈ lw_tbl := fun w h => (List.mem_filter.mp h).1
  have hg : ∀ w ∈ gd, w.before #[Value.ref b] s = true := fun w h => hts w (hgd w h)
  rcases hI with ⟨hv_0_0, hv_0_1, hv_6_4, hj0, hj1, hj2, hj3, hj4, hj5, hj6, hj7, hj8, hj9, hj10, hj11⟩ | ⟨hv_0_0, hv_0_1, hv_6_4, hj0, hj1, hj2, hj3, hj4, hj5, hj6, hj7, hj8, hj9, hj10, hj11⟩
  · skip
    refine lv_aload_n hx hb dL_law_1230 rfl (lv_at hl 1 rfl) ?_
    refine lv_aload_n hx hb dL_law_1231 rfl (lv_at hl 0 rfl) ?_
    refine lv_iload_n hx hb dL_law_1232 rfl (lv_at hl 3 rfl) ?_
    refine lv_iconst (v := 1) hx hb dL_law_1233 (by decide) ?_
    refine lv_iadd hx hb dL_law_1234 ?_
    refine lv_topi (fun y_1 ey_1 => ?_)
    have ty_1 : y_1.toInt = i0.toInt + 1 := xI_add rfl rfl ey_1 (by omega) (by omega)
    refine va_sld hx hb hX hbl hbA hS (vin (by omega) (by omega)) dL_law_1235 ?_
    refine lv_topi (fun y_2 ey_2 => ?_)
    have u_3 : y_2.toInt = (xs (i0 + 1).toNatClampNeg).toInt := by rw [ey_2, ey_1]
    refine lv_aload_n hx hb dL_law_1236 rfl (lv_at hl 0 rfl) ?_
    refine lv_iload_n hx hb dL_law_1237 rfl (lv_at hl 3 rfl) ?_
    refine lv_iconst (v := 2) hx hb dL_law_1238 (by decide) ?_
    refine lv_iadd hx hb dL_law_1239 ?_
    refine lv_topi (fun y_4 ey_4 => ?_)
    have ty_4 : y_4.toInt = i0.toInt + 2 := xI_add rfl rfl ey_4 (by omega) (by omega)
    refine va_sld hx hb hX hbl hbA hS (vin (by omega) (by omega)) dL_law_1240 ?_
    refine lv_topi (fun y_5 ey_5 => ?_)
    have u_6 : y_5.toInt = (xs (i0 + 2).toNatClampNeg).toInt := by rw [ey_5, ey_4]
    refine lv_aload_n hx hb dL_law_1241 rfl (lv_at hl 0 rfl) ?_
    refine lv_iload_n hx hb dL_law_1242 rfl (lv_at hl 3 rfl) ?_
    refine lv_iconst (v := 3) hx hb dL_law_1243 (by decide) ?_
    refine lv_iadd hx hb dL_law_1244 ?_
    refine lv_topi (fun y_7 ey_7 => ?_)
    have ty_7 : y_7.toInt = i0.toInt + 3 := xI_add rfl rfl ey_7 (by omega) (by omega)
    refine va_sld hx hb hX hbl hbA hS (vin (by omega) (by omega)) dL_law_1245 ?_
    refine lv_topi (fun y_8 ey_8 => ?_)
    have u_9 : y_8.toInt = (xs (i0 + 3).toNatClampNeg).toInt := by rw [ey_8, ey_7]
    have b_10 : 0 ≤ (G.1 30 4).toInt ∧ (G.1 30 4).toInt ≤ 40 := hB_G.i 30 4 rfl rfl
    have b_11 : 0 ≤ (G.1 30 5).toInt ∧ (G.1 30 5).toInt ≤ 40 := hB_G.i 30 5 rfl rfl
    refine S_calli (va_runV (As := [.int y_2, .int y_5, .int y_8]) (rest := []) ⟨hx, hb, hml, hown, hts⟩ (k_Wwalk_1 l D k A a z G y_2 y_5 y_8 hv_0_0 hv_0_1 hv_6_4 (by omega)) (cwV 3 hts (gd_V hgd m1166 m1167 m1168 m117 m1169) rfl rfl rfl (by decide +kernel) ⟨Nat.le_of_ble_eq_true rfl, Nat.le_of_ble_eq_true rfl⟩) (pre_V hW hB_G hK hZ hS kd_0 rfl) rfl rfl hl.1 rfl (lv_room (Nat.le_of_ble_eq_true rfl)) dL_law_1246 ⟨Nat.le_of_ble_eq_true rfl, Nat.le_of_ble_eq_true rfl⟩) hS (fun r_12 G_13 H locs hpo hW hS => ?_)
    have hX_16 : P_Wwalk_1 y_2 y_5 y_8 G r_12 G_13 := hpo
    obtain ⟨hB_G_13, hq_14, hp_15, -⟩ := hpo
    refine lv_pop hx hb dL_law_1249 rfl ?_
    refine lv_aload_n hx hb dL_law_1250 rfl (lv_at hl 2 rfl) ?_
    refine lv_aload_n hx hb dL_law_1251 rfl (lv_at hl 0 rfl) ?_
    refine lv_iload_n hx hb dL_law_1252 rfl (lv_at hl 3 rfl) ?_
    refine lv_iconst (v := 1) hx hb dL_law_1253 (by decide) ?_
    refine lv_iadd hx hb dL_law_1254 ?_
    refine lv_topi (fun y_17 ey_17 => ?_)
    have ty_17 : y_17.toInt = i0.toInt + 1 := xI_add rfl rfl ey_17 (by omega) (by omega)
    refine va_sld hx hb hX hbl hbA hS (vin (by omega) (by omega)) dL_law_1255 ?_
    refine lv_topi (fun y_18 ey_18 => ?_)
    have u_19 : y_18.toInt = (xs (i0 + 1).toNatClampNeg).toInt := by rw [ey_18, ey_17]
    refine lv_aload_n hx hb dL_law_1256 rfl (lv_at hl 0 rfl) ?_
    refine lv_iload_n hx hb dL_law_1257 rfl (lv_at hl 3 rfl) ?_
    refine lv_iconst (v := 2) hx hb dL_law_1258 (by decide) ?_
    refine lv_iadd hx hb dL_law_1259 ?_
    refine lv_topi (fun y_20 ey_20 => ?_)
    have ty_20 : y_20.toInt = i0.toInt + 2 := xI_add rfl rfl ey_20 (by omega) (by omega)
    refine va_sld hx hb hX hbl hbA hS (vin (by omega) (by omega)) dL_law_1260 ?_
    refine lv_topi (fun y_21 ey_21 => ?_)
    have u_22 : y_21.toInt = (xs (i0 + 2).toNatClampNeg).toInt := by rw [ey_21, ey_20]
    refine lv_aload_n hx hb dL_law_1261 rfl (lv_at hl 0 rfl) ?_
    refine lv_iload_n hx hb dL_law_1262 rfl (lv_at hl 3 rfl) ?_
    refine lv_iconst (v := 3) hx hb dL_law_1263 (by decide) ?_
    refine lv_iadd hx hb dL_law_1264 ?_
    refine lv_topi (fun y_23 ey_23 => ?_)
    have ty_23 : y_23.toInt = i0.toInt + 3 := xI_add rfl rfl ey_23 (by omega) (by omega)
    refine va_sld hx hb hX hbl hbA hS (vin (by omega) (by omega)) dL_law_1265 ?_
    refine lv_topi (fun y_24 ey_24 => ?_)
    have u_25 : y_24.toInt = (xs (i0 + 3).toNatClampNeg).toInt := by rw [ey_24, ey_23]
    have g_26 : gP G_13 = gP G := gP_fr (rs := [37, 38, 39, 58, 59]) (fs := [(6, 3), (30, 4), (30, 5)]) (Fr.rf.call hq_14 (by decide) (by decide)) (by decide) (by decide)
    have b_27 : 0 ≤ (G.1 66 78).toInt ∧ (G.1 66 78).toInt ≤ 40 := hB_G.i 66 78 rfl rfl
    have g_28 : (G_13.1 66 78).toInt = (G.1 66 78).toInt := by rw [show G_13.1 66 78 = (G.1 66 78) from (hq_14.i 66 78 (by decide) (by decide))]
    have b_29 : 0 ≤ (G.1 66 79).toInt ∧ (G.1 66 79).toInt ≤ 40 := hB_G.i 66 79 rfl rfl
    have g_30 : (G_13.1 66 79).toInt = (G.1 66 79).toInt := by rw [show G_13.1 66 79 = (G.1 66 79) from (hq_14.i 66 79 (by decide) (by decide))]
    refine S_calli (va_runV (As := [.int y_18, .int y_21, .int y_24]) (rest := []) ⟨hx, hb, hml, hown, hts⟩ (n_walk l D k A a z G_13 y_18 y_21 y_24 (by omega) (by omega)) (cwV 3 hts (gd_V hgd m1987 m1988 m1989 m131 m1990) rfl rfl rfl (by decide +kernel) ⟨Nat.le_of_ble_eq_true rfl, Nat.le_of_ble_eq_true rfl⟩) (pre_V hW hB_G_13 hK hZ hS kd_66 rfl) rfl rfl hl.1 rfl (lv_room (Nat.le_of_ble_eq_true rfl)) dL_law_1266 ⟨Nat.le_of_ble_eq_true rfl, Nat.le_of_ble_eq_true rfl⟩) hS (fun r_31 G_32 H locs hpo hW hS => ?_)
    have hX_35 : Q_walk y_18 y_21 y_24 G_13 r_31 G_32 := hpo
    obtain ⟨hB_G_32, hq_33, hp_34, -⟩ := hpo
    obtain ⟨u_36, u_37⟩ := L_walk_1 hX_16 hX_35 (by omega) (by omega) (by omega) (by omega)
    refine lv_pop hx hb dL_law_1269 rfl ?_
    refine lv_goto (tgt := 1641) hx hb dL_law_1270 (by decide) ?_
    have g_38 : gO G_32 = gO G := gO_fr (rs := [37, 38, 39, 58, 59, 76, 97, 98, 110, 111]) (fs := [(6, 3), (30, 4), (30, 5), (66, 59), (66, 60), (66, 61), (66, 62), (66, 63), (66, 78), (66, 79)]) ((Fr.rf.call hq_14 (by decide) (by decide)).call hq_33 (by decide) (by decide)) (by decide) (by decide)
    have g_39 : gP G_32 = gP G := gP_fr (rs := [37, 38, 39, 58, 59, 76, 97, 98, 110, 111]) (fs := [(6, 3), (30, 4), (30, 5), (66, 59), (66, 60), (66, 61), (66, 62), (66, 63), (66, 78), (66, 79)]) ((Fr.rf.call hq_14 (by decide) (by decide)).call hq_33 (by decide) (by decide)) (by decide) (by decide)
    have g_40 : gS G_32 = gS G := gS_fr (rs := [37, 38, 39, 58, 59, 76, 97, 98, 110, 111]) (fs := [(6, 3), (30, 4), (30, 5), (66, 59), (66, 60), (66, 61), (66, 62), (66, 63), (66, 78), (66, 79)]) ((Fr.rf.call hq_14 (by decide) (by decide)).call hq_33 (by decide) (by decide)) (by decide) (by decide)
    have g_41 : gTE G_32 = gTE G := gTE_fr (rs := [37, 38, 39, 58, 59, 76, 97, 98, 110, 111]) (fs := [(6, 3), (30, 4), (30, 5), (66, 59), (66, 60), (66, 61), (66, 62), (66, 63), (66, 78), (66, 79)]) ((Fr.rf.call hq_14 (by decide) (by decide)).call hq_33 (by decide) (by decide)) (by decide) (by decide)
    have g_42 : gW G_32 = gW G := gW_fr (rs := [37, 38, 39, 58, 59, 76, 97, 98, 110, 111]) (fs := [(6, 3), (30, 4), (30, 5), (66, 59), (66, 60), (66, 61), (66, 62), (66, 63), (66, 78), (66, 79)]) ((Fr.rf.call hq_14 (by decide) (by decide)).call hq_33 (by decide) (by decide)) (by decide) (by decide)
    have b_43 : 0 ≤ (G.1 0 11).toInt ∧ (G.1 0 11).toInt ≤ 1600 := hB_G.i 0 11 rfl rfl
    have g_44 : (G_32.1 0 11).toInt = (G.1 0 11).toInt := by rw [show G_32.1 0 11 = (G.1 0 11) from ((hq_33.i 0 11 (by decide) (by decide)).trans (hq_14.i 0 11 (by decide) (by decide)))]
    have b_45 : 0 ≤ (G.1 3 7).toInt ∧ (G.1 3 7).toInt ≤ 4 := hB_G.i 3 7 rfl rfl
    have g_46 : (G_32.1 3 7).toInt = (G.1 3 7).toInt := by rw [show G_32.1 3 7 = (G.1 3 7) from ((hq_33.i 3 7 (by decide) (by decide)).trans (hq_14.i 3 7 (by decide) (by decide)))]
    have b_47 : (-1) ≤ (G.1 3 8).toInt ∧ (G.1 3 8).toInt ≤ 1600 := hB_G.i 3 8 rfl rfl
    have g_48 : (G_32.1 3 8).toInt = (G.1 3 8).toInt := by rw [show G_32.1 3 8 = (G.1 3 8) from ((hq_33.i 3 8 (by decide) (by decide)).trans (hq_14.i 3 8 (by decide) (by decide)))]
    have b_49 : 0 ≤ (G_13.1 30 4).toInt ∧ (G_13.1 30 4).toInt ≤ 40 := hB_G_13.i 30 4 rfl rfl
    have g_50 : (G_32.1 30 4).toInt = (G_13.1 30 4).toInt := by rw [show G_32.1 30 4 = (G_13.1 30 4) from (hq_33.i 30 4 (by decide) (by decide))]
    have b_51 : 0 ≤ (G_13.1 30 5).toInt ∧ (G_13.1 30 5).toInt ≤ 40 := hB_G_13.i 30 5 rfl rfl
    have g_52 : (G_32.1 30 5).toInt = (G_13.1 30 5).toInt := by rw [show G_32.1 30 5 = (G_13.1 30 5) from (hq_33.i 30 5 (by decide) (by decide))]
    have b_53 : 0 ≤ (G.1 31 6).toInt ∧ (G.1 31 6).toInt ≤ 100000 := hB_G.i 31 6 rfl rfl
    have g_54 : (G_32.1 31 6).toInt = (G.1 31 6).toInt := by rw [show G_32.1 31 6 = (G.1 31 6) from ((hq_33.i 31 6 (by decide) (by decide)).trans (hq_14.i 31 6 (by decide) (by decide)))]
    have b_55 : 0 ≤ (G.1 66 1).toInt ∧ (G.1 66 1).toInt ≤ 1600 := hB_G.i 66 1 rfl rfl
    have g_56 : (G_32.1 66 1).toInt = (G.1 66 1).toInt := by rw [show G_32.1 66 1 = (G.1 66 1) from ((hq_33.i 66 1 (by decide) (by decide)).trans (hq_14.i 66 1 (by decide) (by decide)))]
    have b_57 : 0 ≤ (G.1 66 2).toInt ∧ (G.1 66 2).toInt ≤ 4 := hB_G.i 66 2 rfl rfl
    have g_58 : (G_32.1 66 2).toInt = (G.1 66 2).toInt := by rw [show G_32.1 66 2 = (G.1 66 2) from ((hq_33.i 66 2 (by decide) (by decide)).trans (hq_14.i 66 2 (by decide) (by decide)))]
    have b_59 : (-1) ≤ (G.1 66 3).toInt ∧ (G.1 66 3).toInt ≤ 1600 := hB_G.i 66 3 rfl rfl
    have g_60 : (G_32.1 66 3).toInt = (G.1 66 3).toInt := by rw [show G_32.1 66 3 = (G.1 66 3) from ((hq_33.i 66 3 (by decide) (by decide)).trans (hq_14.i 66 3 (by decide) (by decide)))]
    have b_61 : 0 ≤ (G_32.1 66 78).toInt ∧ (G_32.1 66 78).toInt ≤ 40 := hB_G_32.i 66 78 rfl rfl
    have b_62 : 0 ≤ (G_32.1 66 79).toInt ∧ (G_32.1 66 79).toInt ≤ 40 := hB_G_32.i 66 79 rfl rfl
    have b_63 : 0 ≤ (G.1 66 86).toInt ∧ (G.1 66 86).toInt ≤ 100000 := hB_G.i 66 86 rfl rfl
    have g_64 : (G_32.1 66 86).toInt = (G.1 66 86).toInt := by rw [show G_32.1 66 86 = (G.1 66 86) from ((hq_33.i 66 86 (by decide) (by decide)).trans (hq_14.i 66 86 (by decide) (by decide)))]
    have b_65 : 0 ≤ (G.1 96 0).toInt ∧ (G.1 96 0).toInt ≤ 9 := hB_G.i 96 0 rfl rfl
    have g_66 : (G_32.1 96 0).toInt = (G.1 96 0).toInt := by rw [show G_32.1 96 0 = (G.1 96 0) from ((hq_33.i 96 0 (by decide) (by decide)).trans (hq_14.i 96 0 (by decide) (by decide)))]
    have b_67 : 0 ≤ (G.1 96 1).toInt ∧ (G.1 96 1).toInt ≤ 9 := hB_G.i 96 1 rfl rfl
    have g_68 : (G_32.1 96 1).toInt = (G.1 96 1).toInt := by rw [show G_32.1 96 1 = (G.1 96 1) from ((hq_33.i 96 1 (by decide) (by decide)).trans (hq_14.i 96 1 (by decide) (by decide)))]
    have b_69 : 0 ≤ (G.1 96 2).toInt ∧ (G.1 96 2).toInt ≤ 9 := hB_G.i 96 2 rfl rfl
    have g_70 : (G_32.1 96 2).toInt = (G.1 96 2).toInt := by rw [show G_32.1 96 2 = (G.1 96 2) from ((hq_33.i 96 2 (by decide) (by decide)).trans (hq_14.i 96 2 (by decide) (by decide)))]
    exact K G_32 _ _ _ (Or.inl ⟨((((hq_33.r 0 0 (by decide) (by decide)).trans (hq_14.r 0 0 (by decide) (by decide)))).trans (hv_0_0)), ((((hq_33.r 0 1 (by decide) (by decide)).trans (hq_14.r 0 1 (by decide) (by decide)))).trans (hv_0_1)), ((((hq_33.r 6 4 (by decide) (by decide)).trans (hq_14.r 6 4 (by decide) (by decide)))).trans (hv_6_4)), by omega, by omega, by omega, by omega, by omega, by omega, by omega, by omega, by omega, by omega, by omega, by omega, by omega⟩) hB_G_32 hW hS (lv_sub hl [0, 1, 2, 3] rfl)
  · skip
    refine lv_aload_n hx hb dL_law_1230 rfl (lv_at hl 1 rfl) ?_
    refine lv_aload_n hx hb dL_law_1231 rfl (lv_at hl 0 rfl) ?_
    refine lv_iload_n hx hb dL_law_1232 rfl (lv_at hl 3 rfl) ?_
    refine lv_iconst (v := 1) hx hb dL_law_1233 (by decide) ?_
    refine lv_iadd hx hb dL_law_1234 ?_
    refine lv_topi (fun y_1 ey_1 => ?_)
    have ty_1 : y_1.toInt = i0.toInt + 1 := xI_add rfl rfl ey_1 (by omega) (by omega)
    refine va_sld hx hb hX hbl hbA hS (vin (by omega) (by omega)) dL_law_1235 ?_
    refine lv_topi (fun y_2 ey_2 => ?_)
    have u_3 : y_2.toInt = (xs (i0 + 1).toNatClampNeg).toInt := by rw [ey_2, ey_1]
    refine lv_aload_n hx hb dL_law_1236 rfl (lv_at hl 0 rfl) ?_
    refine lv_iload_n hx hb dL_law_1237 rfl (lv_at hl 3 rfl) ?_
    refine lv_iconst (v := 2) hx hb dL_law_1238 (by decide) ?_
    refine lv_iadd hx hb dL_law_1239 ?_
    refine lv_topi (fun y_4 ey_4 => ?_)
    have ty_4 : y_4.toInt = i0.toInt + 2 := xI_add rfl rfl ey_4 (by omega) (by omega)
    refine va_sld hx hb hX hbl hbA hS (vin (by omega) (by omega)) dL_law_1240 ?_
    refine lv_topi (fun y_5 ey_5 => ?_)
    have u_6 : y_5.toInt = (xs (i0 + 2).toNatClampNeg).toInt := by rw [ey_5, ey_4]
    refine lv_aload_n hx hb dL_law_1241 rfl (lv_at hl 0 rfl) ?_
    refine lv_iload_n hx hb dL_law_1242 rfl (lv_at hl 3 rfl) ?_
    refine lv_iconst (v := 3) hx hb dL_law_1243 (by decide) ?_
    refine lv_iadd hx hb dL_law_1244 ?_
    refine lv_topi (fun y_7 ey_7 => ?_)
    have ty_7 : y_7.toInt = i0.toInt + 3 := xI_add rfl rfl ey_7 (by omega) (by omega)
    refine va_sld hx hb hX hbl hbA hS (vin (by omega) (by omega)) dL_law_1245 ?_
    refine lv_topi (fun y_8 ey_8 => ?_)
    have u_9 : y_8.toInt = (xs (i0 + 3).toNatClampNeg).toInt := by rw [ey_8, ey_7]
    have b_10 : 0 ≤ (G.1 30 4).toInt ∧ (G.1 30 4).toInt ≤ 40 := hB_G.i 30 4 rfl rfl
    have b_11 : 0 ≤ (G.1 30 5).toInt ∧ (G.1 30 5).toInt ≤ 40 := hB_G.i 30 5 rfl rfl
    refine S_calli (va_runV (As := [.int y_2, .int y_5, .int y_8]) (rest := []) ⟨hx, hb, hml, hown, hts⟩ (k_Wwalk_2 l D k A a z G y_2 y_5 y_8 hv_0_0 hv_0_1 hv_6_4 (by omega)) (cwV 3 hts (gd_V hgd m1166 m1167 m1168 m117 m1169) rfl rfl rfl (by decide +kernel) ⟨Nat.le_of_ble_eq_true rfl, Nat.le_of_ble_eq_true rfl⟩) (pre_V hW hB_G hK hZ hS kd_0 rfl) rfl rfl hl.1 rfl (lv_room (Nat.le_of_ble_eq_true rfl)) dL_law_1246 ⟨Nat.le_of_ble_eq_true rfl, Nat.le_of_ble_eq_true rfl⟩) hS (fun r_12 G_13 H locs hpo hW hS => ?_)
    have hX_16 : P_Wwalk_2 y_2 y_5 y_8 G r_12 G_13 := hpo
    obtain ⟨hB_G_13, hq_14, hp_15, -⟩ := hpo
    refine lv_pop hx hb dL_law_1249 rfl ?_
    refine lv_aload_n hx hb dL_law_1250 rfl (lv_at hl 2 rfl) ?_
    refine lv_aload_n hx hb dL_law_1251 rfl (lv_at hl 0 rfl) ?_
    refine lv_iload_n hx hb dL_law_1252 rfl (lv_at hl 3 rfl) ?_
    refine lv_iconst (v := 1) hx hb dL_law_1253 (by decide) ?_
    refine lv_iadd hx hb dL_law_1254 ?_
    refine lv_topi (fun y_17 ey_17 => ?_)
    have ty_17 : y_17.toInt = i0.toInt + 1 := xI_add rfl rfl ey_17 (by omega) (by omega)
    refine va_sld hx hb hX hbl hbA hS (vin (by omega) (by omega)) dL_law_1255 ?_
    refine lv_topi (fun y_18 ey_18 => ?_)
    have u_19 : y_18.toInt = (xs (i0 + 1).toNatClampNeg).toInt := by rw [ey_18, ey_17]
    refine lv_aload_n hx hb dL_law_1256 rfl (lv_at hl 0 rfl) ?_
    refine lv_iload_n hx hb dL_law_1257 rfl (lv_at hl 3 rfl) ?_
    refine lv_iconst (v := 2) hx hb dL_law_1258 (by decide) ?_
    refine lv_iadd hx hb dL_law_1259 ?_
    refine lv_topi (fun y_20 ey_20 => ?_)
    have ty_20 : y_20.toInt = i0.toInt + 2 := xI_add rfl rfl ey_20 (by omega) (by omega)
    refine va_sld hx hb hX hbl hbA hS (vin (by omega) (by omega)) dL_law_1260 ?_
    refine lv_topi (fun y_21 ey_21 => ?_)
    have u_22 : y_21.toInt = (xs (i0 + 2).toNatClampNeg).toInt := by rw [ey_21, ey_20]
    refine lv_aload_n hx hb dL_law_1261 rfl (lv_at hl 0 rfl) ?_
    refine lv_iload_n hx hb dL_law_1262 rfl (lv_at hl 3 rfl) ?_
    refine lv_iconst (v := 3) hx hb dL_law_1263 (by decide) ?_
    refine lv_iadd hx hb dL_law_1264 ?_
    refine lv_topi (fun y_23 ey_23 => ?_)
    have ty_23 : y_23.toInt = i0.toInt + 3 := xI_add rfl rfl ey_23 (by omega) (by omega)
    refine va_sld hx hb hX hbl hbA hS (vin (by omega) (by omega)) dL_law_1265 ?_
    refine lv_topi (fun y_24 ey_24 => ?_)
    have u_25 : y_24.toInt = (xs (i0 + 3).toNatClampNeg).toInt := by rw [ey_24, ey_23]
    have g_26 : gP G_13 = gP G := gP_fr (rs := [37, 38, 39, 58, 59]) (fs := [(6, 3), (30, 4), (30, 5)]) (Fr.rf.call hq_14 (by decide) (by decide)) (by decide) (by decide)
    have b_27 : 0 ≤ (G.1 66 78).toInt ∧ (G.1 66 78).toInt ≤ 40 := hB_G.i 66 78 rfl rfl
    have g_28 : (G_13.1 66 78).toInt = (G.1 66 78).toInt := by rw [show G_13.1 66 78 = (G.1 66 78) from (hq_14.i 66 78 (by decide) (by decide))]
    have b_29 : 0 ≤ (G.1 66 79).toInt ∧ (G.1 66 79).toInt ≤ 40 := hB_G.i 66 79 rfl rfl
    have g_30 : (G_13.1 66 79).toInt = (G.1 66 79).toInt := by rw [show G_13.1 66 79 = (G.1 66 79) from (hq_14.i 66 79 (by decide) (by decide))]
    refine S_calli (va_runV (As := [.int y_18, .int y_21, .int y_24]) (rest := []) ⟨hx, hb, hml, hown, hts⟩ (n_walk l D k A a z G_13 y_18 y_21 y_24 (by omega) (by omega)) (cwV 3 hts (gd_V hgd m1987 m1988 m1989 m131 m1990) rfl rfl rfl (by decide +kernel) ⟨Nat.le_of_ble_eq_true rfl, Nat.le_of_ble_eq_true rfl⟩) (pre_V hW hB_G_13 hK hZ hS kd_66 rfl) rfl rfl hl.1 rfl (lv_room (Nat.le_of_ble_eq_true rfl)) dL_law_1266 ⟨Nat.le_of_ble_eq_true rfl, Nat.le_of_ble_eq_true rfl⟩) hS (fun r_31 G_32 H locs hpo hW hS => ?_)
    have hX_35 : Q_walk y_18 y_21 y_24 G_13 r_31 G_32 := hpo
    obtain ⟨hB_G_32, hq_33, hp_34, -⟩ := hpo
    obtain ⟨u_36, u_37⟩ := L_walk_2 hX_16 hX_35 (by omega) (by omega) (by omega) (by omega)
    refine lv_pop hx hb dL_law_1269 rfl ?_
    refine lv_goto (tgt := 1641) hx hb dL_law_1270 (by decide) ?_
    have g_38 : gO G_32 = gO G := gO_fr (rs := [37, 38, 39, 58, 59, 76, 97, 98, 110, 111]) (fs := [(6, 3), (30, 4), (30, 5), (66, 59), (66, 60), (66, 61), (66, 62), (66, 63), (66, 78), (66, 79)]) ((Fr.rf.call hq_14 (by decide) (by decide)).call hq_33 (by decide) (by decide)) (by decide) (by decide)
    have g_39 : gP G_32 = gP G := gP_fr (rs := [37, 38, 39, 58, 59, 76, 97, 98, 110, 111]) (fs := [(6, 3), (30, 4), (30, 5), (66, 59), (66, 60), (66, 61), (66, 62), (66, 63), (66, 78), (66, 79)]) ((Fr.rf.call hq_14 (by decide) (by decide)).call hq_33 (by decide) (by decide)) (by decide) (by decide)
    have g_40 : gS G_32 = gS G := gS_fr (rs := [37, 38, 39, 58, 59, 76, 97, 98, 110, 111]) (fs := [(6, 3), (30, 4), (30, 5), (66, 59), (66, 60), (66, 61), (66, 62), (66, 63), (66, 78), (66, 79)]) ((Fr.rf.call hq_14 (by decide) (by decide)).call hq_33 (by decide) (by decide)) (by decide) (by decide)
    have g_41 : gTE G_32 = gTE G := gTE_fr (rs := [37, 38, 39, 58, 59, 76, 97, 98, 110, 111]) (fs := [(6, 3), (30, 4), (30, 5), (66, 59), (66, 60), (66, 61), (66, 62), (66, 63), (66, 78), (66, 79)]) ((Fr.rf.call hq_14 (by decide) (by decide)).call hq_33 (by decide) (by decide)) (by decide) (by decide)
    have g_42 : gW G_32 = gW G := gW_fr (rs := [37, 38, 39, 58, 59, 76, 97, 98, 110, 111]) (fs := [(6, 3), (30, 4), (30, 5), (66, 59), (66, 60), (66, 61), (66, 62), (66, 63), (66, 78), (66, 79)]) ((Fr.rf.call hq_14 (by decide) (by decide)).call hq_33 (by decide) (by decide)) (by decide) (by decide)
    have b_43 : 0 ≤ (G.1 0 11).toInt ∧ (G.1 0 11).toInt ≤ 1600 := hB_G.i 0 11 rfl rfl
    have g_44 : (G_32.1 0 11).toInt = (G.1 0 11).toInt := by rw [show G_32.1 0 11 = (G.1 0 11) from ((hq_33.i 0 11 (by decide) (by decide)).trans (hq_14.i 0 11 (by decide) (by decide)))]
    have b_45 : 0 ≤ (G.1 3 7).toInt ∧ (G.1 3 7).toInt ≤ 4 := hB_G.i 3 7 rfl rfl
    have g_46 : (G_32.1 3 7).toInt = (G.1 3 7).toInt := by rw [show G_32.1 3 7 = (G.1 3 7) from ((hq_33.i 3 7 (by decide) (by decide)).trans (hq_14.i 3 7 (by decide) (by decide)))]
    have b_47 : (-1) ≤ (G.1 3 8).toInt ∧ (G.1 3 8).toInt ≤ 1600 := hB_G.i 3 8 rfl rfl
    have g_48 : (G_32.1 3 8).toInt = (G.1 3 8).toInt := by rw [show G_32.1 3 8 = (G.1 3 8) from ((hq_33.i 3 8 (by decide) (by decide)).trans (hq_14.i 3 8 (by decide) (by decide)))]
    have b_49 : 0 ≤ (G_13.1 30 4).toInt ∧ (G_13.1 30 4).toInt ≤ 40 := hB_G_13.i 30 4 rfl rfl
    have g_50 : (G_32.1 30 4).toInt = (G_13.1 30 4).toInt := by rw [show G_32.1 30 4 = (G_13.1 30 4) from (hq_33.i 30 4 (by decide) (by decide))]
    have b_51 : 0 ≤ (G_13.1 30 5).toInt ∧ (G_13.1 30 5).toInt ≤ 40 := hB_G_13.i 30 5 rfl rfl
    have g_52 : (G_32.1 30 5).toInt = (G_13.1 30 5).toInt := by rw [show G_32.1 30 5 = (G_13.1 30 5) from (hq_33.i 30 5 (by decide) (by decide))]
    have b_53 : 0 ≤ (G.1 31 6).toInt ∧ (G.1 31 6).toInt ≤ 100000 := hB_G.i 31 6 rfl rfl
    have g_54 : (G_32.1 31 6).toInt = (G.1 31 6).toInt := by rw [show G_32.1 31 6 = (G.1 31 6) from ((hq_33.i 31 6 (by decide) (by decide)).trans (hq_14.i 31 6 (by decide) (by decide)))]
    have b_55 : 0 ≤ (G.1 66 1).toInt ∧ (G.1 66 1).toInt ≤ 1600 := hB_G.i 66 1 rfl rfl
    have g_56 : (G_32.1 66 1).toInt = (G.1 66 1).toInt := by rw [show G_32.1 66 1 = (G.1 66 1) from ((hq_33.i 66 1 (by decide) (by decide)).trans (hq_14.i 66 1 (by decide) (by decide)))]
    have b_57 : 0 ≤ (G.1 66 2).toInt ∧ (G.1 66 2).toInt ≤ 4 := hB_G.i 66 2 rfl rfl
    have g_58 : (G_32.1 66 2).toInt = (G.1 66 2).toInt := by rw [show G_32.1 66 2 = (G.1 66 2) from ((hq_33.i 66 2 (by decide) (by decide)).trans (hq_14.i 66 2 (by decide) (by decide)))]
    have b_59 : (-1) ≤ (G.1 66 3).toInt ∧ (G.1 66 3).toInt ≤ 1600 := hB_G.i 66 3 rfl rfl
    have g_60 : (G_32.1 66 3).toInt = (G.1 66 3).toInt := by rw [show G_32.1 66 3 = (G.1 66 3) from ((hq_33.i 66 3 (by decide) (by decide)).trans (hq_14.i 66 3 (by decide) (by decide)))]
    have b_61 : 0 ≤ (G_32.1 66 78).toInt ∧ (G_32.1 66 78).toInt ≤ 40 := hB_G_32.i 66 78 rfl rfl
    have b_62 : 0 ≤ (G_32.1 66 79).toInt ∧ (G_32.1 66 79).toInt ≤ 40 := hB_G_32.i 66 79 rfl rfl
    have b_63 : 0 ≤ (G.1 66 86).toInt ∧ (G.1 66 86).toInt ≤ 100000 := hB_G.i 66 86 rfl rfl
    have g_64 : (G_32.1 66 86).toInt = (G.1 66 86).toInt := by rw [show G_32.1 66 86 = (G.1 66 86) from ((hq_33.i 66 86 (by decide) (by decide)).trans (hq_14.i 66 86 (by decide) (by decide)))]
    have b_65 : 0 ≤ (G.1 96 0).toInt ∧ (G.1 96 0).toInt ≤ 9 := hB_G.i 96 0 rfl rfl
    have g_66 : (G_32.1 96 0).toInt = (G.1 96 0).toInt := by rw [show G_32.1 96 0 = (G.1 96 0) from ((hq_33.i 96 0 (by decide) (by decide)).trans (hq_14.i 96 0 (by decide) (by decide)))]
    have b_67 : 0 ≤ (G.1 96 1).toInt ∧ (G.1 96 1).toInt ≤ 9 := hB_G.i 96 1 rfl rfl
    have g_68 : (G_32.1 96 1).toInt = (G.1 96 1).toInt := by rw [show G_32.1 96 1 = (G.1 96 1) from ((hq_33.i 96 1 (by decide) (by decide)).trans (hq_14.i 96 1 (by decide) (by decide)))]
    have b_69 : 0 ≤ (G.1 96 2).toInt ∧ (G.1 96 2).toInt ≤ 9 := hB_G.i 96 2 rfl rfl
    have g_70 : (G_32.1 96 2).toInt = (G.1 96 2).toInt := by rw [show G_32.1 96 2 = (G.1 96 2) from ((hq_33.i 96 2 (by decide) (by decide)).trans (hq_14.i 96 2 (by decide) (by decide)))]
    exact K G_32 _ _ _ (Or.inr ⟨((((hq_33.r 0 0 (by decide) (by decide)).trans (hq_14.r 0 0 (by decide) (by decide)))).trans (hv_0_0)), ((((hq_33.r 0 1 (by decide) (by decide)).trans (hq_14.r 0 1 (by decide) (by decide)))).trans (hv_0_1)), ((((hq_33.r 6 4 (by decide) (by decide)).trans (hq_14.r 6 4 (by decide) (by decide)))).trans (hv_6_4)), by omega, by omega, by omega, by omega, by omega, by omega, by omega, by omega, by omega, by omega, by omega, by omega, by omega⟩) hB_G_32 hW hS (lv_sub hl [0, 1, 2, 3] rfl)
