theorem m610 : Cond.methodLink RL 13 yX11_feed ∈ gd := gd_mem 610 (by decide +kernel) (by decide +kernel)
theorem m611 : Cond.instanceMethod yX11_feed ∈ gd := gd_mem 611 (by decide +kernel) (by decide +kernel)
theorem m612 : Cond.selects RX11 yX11_feed yX11_feed ∈ gd := gd_mem 612 (by decide +kernel) (by decide +kernel)
theorem m613 : Cond.code yX11_feed cX11_feed 6 (some .int) ∈ gd := gd_mem 613 (by decide +kernel) (by decide +kernel)
theorem m618 : Cond.methodLink RL 18 yX11_end ∈ gd := gd_mem 618 (by decide +kernel) (by decide +kernel)
theorem m619 : Cond.instanceMethod yX11_end ∈ gd := gd_mem 619 (by decide +kernel) (by decide +kernel)
theorem m620 : Cond.selects RX11 yX11_end yX11_end ∈ gd := gd_mem 620 (by decide +kernel) (by decide +kernel)
theorem m621 : Cond.code yX11_end cX11_end 2 (some .int) ∈ gd := gd_mem 621 (by decide +kernel) (by decide +kernel)
theorem m622 : Cond.methodLink RL 23 yX11_pavement ∈ gd := gd_mem 622 (by decide +kernel) (by decide +kernel)
theorem m623 : Cond.instanceMethod yX11_pavement ∈ gd := gd_mem 623 (by decide +kernel) (by decide +kernel)
theorem m624 : Cond.selects RX11 yX11_pavement yX11_pavement ∈ gd := gd_mem 624 (by decide +kernel) (by decide +kernel)
theorem m625 : Cond.code yX11_pavement cX11_pavement 3 (some .int) ∈ gd := gd_mem 625 (by decide +kernel) (by decide +kernel)
theorem m874 : Cond.methodLink RL 28 yX11_fault ∈ gd := gd_mem 874 (by decide +kernel) (by decide +kernel)
theorem m875 : Cond.instanceMethod yX11_fault ∈ gd := gd_mem 875 (by decide +kernel) (by decide +kernel)
theorem m876 : Cond.selects RX11 yX11_fault yX11_fault ∈ gd := gd_mem 876 (by decide +kernel) (by decide +kernel)
theorem m877 : Cond.code yX11_fault cX11_fault 2 (some .int) ∈ gd := gd_mem 877 (by decide +kernel) (by decide +kernel)
theorem m1582 : Cond.methodLink RL 17 yX12_feed ∈ gd := gd_mem 1582 (by decide +kernel) (by decide +kernel)
theorem m1583 : Cond.instanceMethod yX12_feed ∈ gd := gd_mem 1583 (by decide +kernel) (by decide +kernel)
theorem m1584 : Cond.selects RX12 yX12_feed yX12_feed ∈ gd := gd_mem 1584 (by decide +kernel) (by decide +kernel)
theorem m1585 : Cond.code yX12_feed cX12_feed 6 (some .int) ∈ gd := gd_mem 1585 (by decide +kernel) (by decide +kernel)
theorem m1590 : Cond.methodLink RL 22 yX12_end ∈ gd := gd_mem 1590 (by decide +kernel) (by decide +kernel)
theorem m1591 : Cond.instanceMethod yX12_end ∈ gd := gd_mem 1591 (by decide +kernel) (by decide +kernel)
theorem m1592 : Cond.selects RX12 yX12_end yX12_end ∈ gd := gd_mem 1592 (by decide +kernel) (by decide +kernel)
theorem m1593 : Cond.code yX12_end cX12_end 2 (some .int) ∈ gd := gd_mem 1593 (by decide +kernel) (by decide +kernel)
theorem m1594 : Cond.methodLink RL 27 yX12_pavement ∈ gd := gd_mem 1594 (by decide +kernel) (by decide +kernel)
theorem m1595 : Cond.instanceMethod yX12_pavement ∈ gd := gd_mem 1595 (by decide +kernel) (by decide +kernel)
theorem m1596 : Cond.selects RX12 yX12_pavement yX12_pavement ∈ gd := gd_mem 1596 (by decide +kernel) (by decide +kernel)
theorem m1597 : Cond.code yX12_pavement cX12_pavement 3 (some .int) ∈ gd := gd_mem 1597 (by decide +kernel) (by decide +kernel)
theorem m1769 : Cond.methodLink RL 31 yX12_fault ∈ gd := gd_mem 1769 (by decide +kernel) (by decide +kernel)
theorem m1770 : Cond.instanceMethod yX12_fault ∈ gd := gd_mem 1770 (by decide +kernel) (by decide +kernel)
theorem m1771 : Cond.selects RX12 yX12_fault yX12_fault ∈ gd := gd_mem 1771 (by decide +kernel) (by decide +kernel)
theorem m1772 : Cond.code yX12_fault cX12_fault 2 (some .int) ∈ gd := gd_mem 1772 (by decide +kernel) (by decide +kernel)
theorem dL_law_204 : decode cL_law 204 = .ok (.aload_n 1, 1) := by decide +kernel
theorem dL_law_205 : decode cL_law 205 = .ok (.aload_n 0, 1) := by decide +kernel
theorem dL_law_206 : decode cL_law 206 = .ok (.iload_n 3, 1) := by decide +kernel
theorem dL_law_207 : decode cL_law 207 = .ok (.iconst 1, 1) := by decide +kernel
theorem dL_law_208 : decode cL_law 208 = .ok (.iadd, 1) := by decide +kernel
theorem dL_law_209 : decode cL_law 209 = .ok (.iaload, 1) := by decide +kernel
theorem dL_law_210 : decode cL_law 210 = .ok (.aload_n 0, 1) := by decide +kernel
theorem dL_law_211 : decode cL_law 211 = .ok (.iload_n 3, 1) := by decide +kernel
theorem dL_law_212 : decode cL_law 212 = .ok (.iconst 2, 1) := by decide +kernel
theorem dL_law_213 : decode cL_law 213 = .ok (.iadd, 1) := by decide +kernel
theorem dL_law_214 : decode cL_law 214 = .ok (.iaload, 1) := by decide +kernel
theorem dL_law_215 : decode cL_law 215 = .ok (.aload_n 0, 1) := by decide +kernel
theorem dL_law_216 : decode cL_law 216 = .ok (.iload_n 3, 1) := by decide +kernel
theorem dL_law_217 : decode cL_law 217 = .ok (.iconst 3, 1) := by decide +kernel
theorem dL_law_218 : decode cL_law 218 = .ok (.iadd, 1) := by decide +kernel
theorem dL_law_219 : decode cL_law 219 = .ok (.iaload, 1) := by decide +kernel
theorem dL_law_220 : decode cL_law 220 = .ok (.aload_n 0, 1) := by decide +kernel
theorem dL_law_221 : decode cL_law 221 = .ok (.iload_n 3, 1) := by decide +kernel
theorem dL_law_222 : decode cL_law 222 = .ok (.iconst 4, 1) := by decide +kernel
theorem dL_law_223 : decode cL_law 223 = .ok (.iadd, 1) := by decide +kernel
theorem dL_law_224 : decode cL_law 224 = .ok (.iaload, 1) := by decide +kernel
theorem dL_law_225 : decode cL_law 225 = .ok (.aload_n 0, 1) := by decide +kernel
theorem dL_law_226 : decode cL_law 226 = .ok (.iload_n 3, 1) := by decide +kernel
theorem dL_law_227 : decode cL_law 227 = .ok (.iconst 5, 1) := by decide +kernel
theorem dL_law_228 : decode cL_law 228 = .ok (.iadd, 1) := by decide +kernel
theorem dL_law_229 : decode cL_law 229 = .ok (.iaload, 1) := by decide +kernel
theorem dL_law_230 : decode cL_law 230 = .ok (.invokevirtual 13, 3) := by decide +kernel
theorem dL_law_233 : decode cL_law 233 = .ok (.pop, 1) := by decide +kernel
theorem dL_law_234 : decode cL_law 234 = .ok (.aload_n 2, 1) := by decide +kernel
theorem dL_law_235 : decode cL_law 235 = .ok (.aload_n 0, 1) := by decide +kernel
theorem dL_law_236 : decode cL_law 236 = .ok (.iload_n 3, 1) := by decide +kernel
theorem dL_law_237 : decode cL_law 237 = .ok (.iconst 1, 1) := by decide +kernel
theorem dL_law_238 : decode cL_law 238 = .ok (.iadd, 1) := by decide +kernel
theorem dL_law_239 : decode cL_law 239 = .ok (.iaload, 1) := by decide +kernel
theorem dL_law_240 : decode cL_law 240 = .ok (.aload_n 0, 1) := by decide +kernel
theorem dL_law_241 : decode cL_law 241 = .ok (.iload_n 3, 1) := by decide +kernel
theorem dL_law_242 : decode cL_law 242 = .ok (.iconst 2, 1) := by decide +kernel
theorem dL_law_243 : decode cL_law 243 = .ok (.iadd, 1) := by decide +kernel
theorem dL_law_244 : decode cL_law 244 = .ok (.iaload, 1) := by decide +kernel
theorem dL_law_245 : decode cL_law 245 = .ok (.aload_n 0, 1) := by decide +kernel
theorem dL_law_246 : decode cL_law 246 = .ok (.iload_n 3, 1) := by decide +kernel
theorem dL_law_247 : decode cL_law 247 = .ok (.iconst 3, 1) := by decide +kernel
theorem dL_law_248 : decode cL_law 248 = .ok (.iadd, 1) := by decide +kernel
theorem dL_law_249 : decode cL_law 249 = .ok (.iaload, 1) := by decide +kernel
theorem dL_law_250 : decode cL_law 250 = .ok (.aload_n 0, 1) := by decide +kernel
theorem dL_law_251 : decode cL_law 251 = .ok (.iload_n 3, 1) := by decide +kernel
theorem dL_law_252 : decode cL_law 252 = .ok (.iconst 4, 1) := by decide +kernel
theorem dL_law_253 : decode cL_law 253 = .ok (.iadd, 1) := by decide +kernel
theorem dL_law_254 : decode cL_law 254 = .ok (.iaload, 1) := by decide +kernel
theorem dL_law_255 : decode cL_law 255 = .ok (.aload_n 0, 1) := by decide +kernel
theorem dL_law_256 : decode cL_law 256 = .ok (.iload_n 3, 1) := by decide +kernel
theorem dL_law_257 : decode cL_law 257 = .ok (.iconst 5, 1) := by decide +kernel
theorem dL_law_258 : decode cL_law 258 = .ok (.iadd, 1) := by decide +kernel
theorem dL_law_259 : decode cL_law 259 = .ok (.iaload, 1) := by decide +kernel
theorem dL_law_260 : decode cL_law 260 = .ok (.invokevirtual 17, 3) := by decide +kernel
theorem dL_law_263 : decode cL_law 263 = .ok (.pop, 1) := by decide +kernel
theorem dL_law_264 : decode cL_law 264 = .ok (.goto 1377, 3) := by decide +kernel
theorem dL_law_267 : decode cL_law 267 = .ok (.aload_n 1, 1) := by decide +kernel
theorem dL_law_268 : decode cL_law 268 = .ok (.aload_n 0, 1) := by decide +kernel
theorem dL_law_269 : decode cL_law 269 = .ok (.iload_n 3, 1) := by decide +kernel
theorem dL_law_270 : decode cL_law 270 = .ok (.iconst 1, 1) := by decide +kernel
theorem dL_law_271 : decode cL_law 271 = .ok (.iadd, 1) := by decide +kernel
theorem dL_law_272 : decode cL_law 272 = .ok (.iaload, 1) := by decide +kernel
theorem dL_law_273 : decode cL_law 273 = .ok (.invokevirtual 18, 3) := by decide +kernel
theorem dL_law_276 : decode cL_law 276 = .ok (.pop, 1) := by decide +kernel
theorem dL_law_277 : decode cL_law 277 = .ok (.aload_n 2, 1) := by decide +kernel
theorem dL_law_278 : decode cL_law 278 = .ok (.aload_n 0, 1) := by decide +kernel
theorem dL_law_279 : decode cL_law 279 = .ok (.iload_n 3, 1) := by decide +kernel
theorem dL_law_280 : decode cL_law 280 = .ok (.iconst 1, 1) := by decide +kernel
theorem dL_law_281 : decode cL_law 281 = .ok (.iadd, 1) := by decide +kernel
theorem dL_law_282 : decode cL_law 282 = .ok (.iaload, 1) := by decide +kernel
theorem dL_law_283 : decode cL_law 283 = .ok (.invokevirtual 22, 3) := by decide +kernel
theorem dL_law_286 : decode cL_law 286 = .ok (.pop, 1) := by decide +kernel
theorem dL_law_287 : decode cL_law 287 = .ok (.goto 1354, 3) := by decide +kernel
theorem dL_law_290 : decode cL_law 290 = .ok (.aload_n 1, 1) := by decide +kernel
theorem dL_law_291 : decode cL_law 291 = .ok (.invokevirtual 23, 3) := by decide +kernel
theorem dL_law_294 : decode cL_law 294 = .ok (.pop, 1) := by decide +kernel
theorem dL_law_295 : decode cL_law 295 = .ok (.aload_n 2, 1) := by decide +kernel
theorem dL_law_296 : decode cL_law 296 = .ok (.invokevirtual 27, 3) := by decide +kernel
theorem dL_law_299 : decode cL_law 299 = .ok (.pop, 1) := by decide +kernel
theorem dL_law_300 : decode cL_law 300 = .ok (.goto 1341, 3) := by decide +kernel
theorem dL_law_303 : decode cL_law 303 = .ok (.aload_n 1, 1) := by decide +kernel
theorem dL_law_304 : decode cL_law 304 = .ok (.aload_n 0, 1) := by decide +kernel
theorem dL_law_305 : decode cL_law 305 = .ok (.iload_n 3, 1) := by decide +kernel
theorem dL_law_306 : decode cL_law 306 = .ok (.iconst 1, 1) := by decide +kernel
theorem dL_law_307 : decode cL_law 307 = .ok (.iadd, 1) := by decide +kernel
theorem dL_law_308 : decode cL_law 308 = .ok (.iaload, 1) := by decide +kernel
theorem dL_law_309 : decode cL_law 309 = .ok (.invokevirtual 28, 3) := by decide +kernel
theorem dL_law_312 : decode cL_law 312 = .ok (.pop, 1) := by decide +kernel
theorem dL_law_313 : decode cL_law 313 = .ok (.aload_n 2, 1) := by decide +kernel
theorem dL_law_314 : decode cL_law 314 = .ok (.aload_n 0, 1) := by decide +kernel
theorem dL_law_315 : decode cL_law 315 = .ok (.iload_n 3, 1) := by decide +kernel
theorem dL_law_316 : decode cL_law 316 = .ok (.iconst 1, 1) := by decide +kernel
theorem dL_law_317 : decode cL_law 317 = .ok (.iadd, 1) := by decide +kernel
theorem dL_law_318 : decode cL_law 318 = .ok (.iaload, 1) := by decide +kernel
theorem dL_law_319 : decode cL_law 319 = .ok (.invokevirtual 31, 3) := by decide +kernel
theorem dL_law_322 : decode cL_law 322 = .ok (.pop, 1) := by decide +kernel
theorem dL_law_323 : decode cL_law 323 = .ok (.goto 1318, 3) := by decide +kernel
set_option maxHeartbeats 4000000 in
set_option maxRecDepth 100000 in
theorem law_0 {p : Program} {l : Launch} {e : Env} {s : State} {m : MethodId} {below : List Frame} {meth : Method} {c : Code} {D : va_G} {k : KT} {A : Nat → Prop} {a : Nat → Nat} {z : SK} {b L : Nat} {xs : Nat → Int32} (hL : L ≤ 3072) (C0 : lw_At p s m meth c b L xs) (hK : cK D k s) (hZ : Sx A z s) (hbA : ¬ A b) {G : GS} {i0 : Int32} (hi0 : 0 ≤ i0.toInt) (hi6 : i0.toInt + 6 ≤ L) (hI : LI G) (hB_G : Bd G) {H : Heap} {locs : List Loc} {ls : Array Slot} (hW : Wd D k A a G H) (hS : va_S A s.heap H locs) (hl : lv_has ls 4 [(0, .ref b), (1, .ref (a 0)), (2, .ref (a 66)), (3, .int i0)]) (K : ∀ (G1 : GS) (H1 : Heap) (locs1 : List Loc) (ls1 : Array Slot), LI G1 → Bd G1 → Wd D k A a G1 H1 → va_S A s.heap H1 locs1 → lv_has ls1 4 [(0, .ref b), (1, .ref (a 0)), (2, .ref (a 66)), (3, .int i0)] → W p l e room_1 s m #[Value.ref b] below meth c H1 locs1 119 46443 (lw_Z below #[Value.ref b] s) (F0 m 1641 ls1 [])) : W p l e room_1 s m #[Value.ref b] below meth c H locs 119 46443 (lw_Z below #[Value.ref b] s) (F0 m 204 ls []) := by
  obtain ⟨hx, hb, hr, hml, hown, hts, hX, hbl, hlocks, hgv⟩ := id C0
  have hown : s.vm.findClass RL = some m.cls := hown
  have hgd : ∀ w ∈ gd, w ∈ lw_tbl := fun w h => (List.mem_filter.mp h).1
  have hg : ∀ w ∈ gd, w.before #[Value.ref b] s = true := fun w h => hts w (hgd w h)
  rcases hI with ⟨hv_0_0, hv_0_1, hv_6_4, hj0, hj1, hj2, hj3, hj4, hj5, hj6, hj7, hj8, hj9, hj10, hj11⟩ | ⟨hv_0_0, hv_0_1, hv_6_4, hj0, hj1, hj2, hj3, hj4, hj5, hj6, hj7, hj8, hj9, hj10, hj11⟩
  · skip
    refine lv_aload_n hx hb dL_law_204 rfl (lv_at hl 1 rfl) ?_
    refine lv_aload_n hx hb dL_law_205 rfl (lv_at hl 0 rfl) ?_
    refine lv_iload_n hx hb dL_law_206 rfl (lv_at hl 3 rfl) ?_
    refine lv_iconst (v := 1) hx hb dL_law_207 (by decide) ?_
    refine lv_iadd hx hb dL_law_208 ?_
    refine lv_topi (fun y_1 ey_1 => ?_)
    have ty_1 : y_1.toInt = i0.toInt + 1 := xI_add rfl rfl ey_1 (by omega) (by omega)
    refine va_sld hx hb hX hbl hbA hS (vin (by omega) (by omega)) dL_law_209 ?_
    refine lv_topi (fun y_2 ey_2 => ?_)
    have u_3 : y_2.toInt = (xs (i0 + 1).toNatClampNeg).toInt := by rw [ey_2, ey_1]
    refine lv_aload_n hx hb dL_law_210 rfl (lv_at hl 0 rfl) ?_
    refine lv_iload_n hx hb dL_law_211 rfl (lv_at hl 3 rfl) ?_
    refine lv_iconst (v := 2) hx hb dL_law_212 (by decide) ?_
    refine lv_iadd hx hb dL_law_213 ?_
    refine lv_topi (fun y_4 ey_4 => ?_)
    have ty_4 : y_4.toInt = i0.toInt + 2 := xI_add rfl rfl ey_4 (by omega) (by omega)
    refine va_sld hx hb hX hbl hbA hS (vin (by omega) (by omega)) dL_law_214 ?_
    refine lv_topi (fun y_5 ey_5 => ?_)
    have u_6 : y_5.toInt = (xs (i0 + 2).toNatClampNeg).toInt := by rw [ey_5, ey_4]
    refine lv_aload_n hx hb dL_law_215 rfl (lv_at hl 0 rfl) ?_
    refine lv_iload_n hx hb dL_law_216 rfl (lv_at hl 3 rfl) ?_
    refine lv_iconst (v := 3) hx hb dL_law_217 (by decide) ?_
    refine lv_iadd hx hb dL_law_218 ?_
    refine lv_topi (fun y_7 ey_7 => ?_)
    have ty_7 : y_7.toInt = i0.toInt + 3 := xI_add rfl rfl ey_7 (by omega) (by omega)
    refine va_sld hx hb hX hbl hbA hS (vin (by omega) (by omega)) dL_law_219 ?_
    refine lv_topi (fun y_8 ey_8 => ?_)
    have u_9 : y_8.toInt = (xs (i0 + 3).toNatClampNeg).toInt := by rw [ey_8, ey_7]
    refine lv_aload_n hx hb dL_law_220 rfl (lv_at hl 0 rfl) ?_
    refine lv_iload_n hx hb dL_law_221 rfl (lv_at hl 3 rfl) ?_
    refine lv_iconst (v := 4) hx hb dL_law_222 (by decide) ?_
    refine lv_iadd hx hb dL_law_223 ?_
    refine lv_topi (fun y_10 ey_10 => ?_)
    have ty_10 : y_10.toInt = i0.toInt + 4 := xI_add rfl rfl ey_10 (by omega) (by omega)
    refine va_sld hx hb hX hbl hbA hS (vin (by omega) (by omega)) dL_law_224 ?_
    refine lv_topi (fun y_11 ey_11 => ?_)
    have u_12 : y_11.toInt = (xs (i0 + 4).toNatClampNeg).toInt := by rw [ey_11, ey_10]
    refine lv_aload_n hx hb dL_law_225 rfl (lv_at hl 0 rfl) ?_
    refine lv_iload_n hx hb dL_law_226 rfl (lv_at hl 3 rfl) ?_
    refine lv_iconst (v := 5) hx hb dL_law_227 (by decide) ?_
    refine lv_iadd hx hb dL_law_228 ?_
    refine lv_topi (fun y_13 ey_13 => ?_)
    have ty_13 : y_13.toInt = i0.toInt + 5 := xI_add rfl rfl ey_13 (by omega) (by omega)
    refine va_sld hx hb hX hbl hbA hS (vin (by omega) (by omega)) dL_law_229 ?_
    refine lv_topi (fun y_14 ey_14 => ?_)
    have u_15 : y_14.toInt = (xs (i0 + 5).toNatClampNeg).toInt := by rw [ey_14, ey_13]
    refine S_calli (va_runV (As := [.int y_2, .int y_5, .int y_8, .int y_11, .int y_14]) (rest := []) ⟨hx, hb, hml, hown, hts⟩ (k_Wfeed l D k A a z G y_2 y_5 y_8 y_11 y_14 ) (cwV 5 hts (gd_V hgd m610 m611 m612 m117 m613) rfl rfl rfl (by decide +kernel) ⟨Nat.le_of_ble_eq_true rfl, Nat.le_of_ble_eq_true rfl⟩) (pre_V hW hB_G hK hZ hS kd_0 rfl) rfl rfl hl.1 rfl (lv_room (Nat.le_of_ble_eq_true rfl)) dL_law_230 ⟨Nat.le_of_ble_eq_true rfl, Nat.le_of_ble_eq_true rfl⟩) hS (fun r_16 G_17 H locs hpo hW hS => ?_)
    have hX_20 : P_Wfeed y_2 y_5 y_8 y_11 y_14 G r_16 G_17 := hpo
    obtain ⟨hB_G_17, hq_18, hp_19, -⟩ := hpo
    refine lv_pop hx hb dL_law_233 rfl ?_
    refine lv_aload_n hx hb dL_law_234 rfl (lv_at hl 2 rfl) ?_
    refine lv_aload_n hx hb dL_law_235 rfl (lv_at hl 0 rfl) ?_
    refine lv_iload_n hx hb dL_law_236 rfl (lv_at hl 3 rfl) ?_
    refine lv_iconst (v := 1) hx hb dL_law_237 (by decide) ?_
    refine lv_iadd hx hb dL_law_238 ?_
    refine lv_topi (fun y_21 ey_21 => ?_)
    have ty_21 : y_21.toInt = i0.toInt + 1 := xI_add rfl rfl ey_21 (by omega) (by omega)
    refine va_sld hx hb hX hbl hbA hS (vin (by omega) (by omega)) dL_law_239 ?_
    refine lv_topi (fun y_22 ey_22 => ?_)
    have u_23 : y_22.toInt = (xs (i0 + 1).toNatClampNeg).toInt := by rw [ey_22, ey_21]
    refine lv_aload_n hx hb dL_law_240 rfl (lv_at hl 0 rfl) ?_
    refine lv_iload_n hx hb dL_law_241 rfl (lv_at hl 3 rfl) ?_
    refine lv_iconst (v := 2) hx hb dL_law_242 (by decide) ?_
    refine lv_iadd hx hb dL_law_243 ?_
    refine lv_topi (fun y_24 ey_24 => ?_)
    have ty_24 : y_24.toInt = i0.toInt + 2 := xI_add rfl rfl ey_24 (by omega) (by omega)
    refine va_sld hx hb hX hbl hbA hS (vin (by omega) (by omega)) dL_law_244 ?_
    refine lv_topi (fun y_25 ey_25 => ?_)
    have u_26 : y_25.toInt = (xs (i0 + 2).toNatClampNeg).toInt := by rw [ey_25, ey_24]
    refine lv_aload_n hx hb dL_law_245 rfl (lv_at hl 0 rfl) ?_
    refine lv_iload_n hx hb dL_law_246 rfl (lv_at hl 3 rfl) ?_
    refine lv_iconst (v := 3) hx hb dL_law_247 (by decide) ?_
    refine lv_iadd hx hb dL_law_248 ?_
    refine lv_topi (fun y_27 ey_27 => ?_)
    have ty_27 : y_27.toInt = i0.toInt + 3 := xI_add rfl rfl ey_27 (by omega) (by omega)
    refine va_sld hx hb hX hbl hbA hS (vin (by omega) (by omega)) dL_law_249 ?_
    refine lv_topi (fun y_28 ey_28 => ?_)
    have u_29 : y_28.toInt = (xs (i0 + 3).toNatClampNeg).toInt := by rw [ey_28, ey_27]
    refine lv_aload_n hx hb dL_law_250 rfl (lv_at hl 0 rfl) ?_
    refine lv_iload_n hx hb dL_law_251 rfl (lv_at hl 3 rfl) ?_
    refine lv_iconst (v := 4) hx hb dL_law_252 (by decide) ?_
    refine lv_iadd hx hb dL_law_253 ?_
    refine lv_topi (fun y_30 ey_30 => ?_)
    have ty_30 : y_30.toInt = i0.toInt + 4 := xI_add rfl rfl ey_30 (by omega) (by omega)
    refine va_sld hx hb hX hbl hbA hS (vin (by omega) (by omega)) dL_law_254 ?_
    refine lv_topi (fun y_31 ey_31 => ?_)
    have u_32 : y_31.toInt = (xs (i0 + 4).toNatClampNeg).toInt := by rw [ey_31, ey_30]
    refine lv_aload_n hx hb dL_law_255 rfl (lv_at hl 0 rfl) ?_
    refine lv_iload_n hx hb dL_law_256 rfl (lv_at hl 3 rfl) ?_
    refine lv_iconst (v := 5) hx hb dL_law_257 (by decide) ?_
    refine lv_iadd hx hb dL_law_258 ?_
    refine lv_topi (fun y_33 ey_33 => ?_)
    have ty_33 : y_33.toInt = i0.toInt + 5 := xI_add rfl rfl ey_33 (by omega) (by omega)
    refine va_sld hx hb hX hbl hbA hS (vin (by omega) (by omega)) dL_law_259 ?_
    refine lv_topi (fun y_34 ey_34 => ?_)
    have u_35 : y_34.toInt = (xs (i0 + 5).toNatClampNeg).toInt := by rw [ey_34, ey_33]
    have b_36 : 0 ≤ (G.1 66 1).toInt ∧ (G.1 66 1).toInt ≤ 1600 := hB_G.i 66 1 rfl rfl
    have g_37 : (G_17.1 66 1).toInt = (G.1 66 1).toInt := by rw [show G_17.1 66 1 = (G.1 66 1) from (hq_18.i 66 1 (by decide) (by decide))]
    refine S_calli (va_runV (As := [.int y_22, .int y_25, .int y_28, .int y_31, .int y_34]) (rest := []) ⟨hx, hb, hml, hown, hts⟩ (n_feed l D k A a z G_17 y_22 y_25 y_28 y_31 y_34 ) (cwV 5 hts (gd_V hgd m1582 m1583 m1584 m131 m1585) rfl rfl rfl (by decide +kernel) ⟨Nat.le_of_ble_eq_true rfl, Nat.le_of_ble_eq_true rfl⟩) (pre_V hW hB_G_17 hK hZ hS kd_66 rfl) rfl rfl hl.1 rfl (lv_room (Nat.le_of_ble_eq_true rfl)) dL_law_260 ⟨Nat.le_of_ble_eq_true rfl, Nat.le_of_ble_eq_true rfl⟩) hS (fun r_38 G_39 H locs hpo hW hS => ?_)
    have hX_42 : Q_feed y_22 y_25 y_28 y_31 y_34 G_17 r_38 G_39 := hpo
    obtain ⟨hB_G_39, hq_40, hp_41, -⟩ := hpo
    have u_43 : gTE G_39 = 1 := ind_1 (te_feed hX_20 hX_42 (by omega) (by omega) (by omega) (by omega) (by omega) (gTE_p (by omega)) (by omega) (hB_G.i 0 11 (lo := 0) (hi := 1600) rfl rfl).1)
    refine lv_pop hx hb dL_law_263 rfl ?_
    refine lv_goto (tgt := 1641) hx hb dL_law_264 (by decide) ?_
    have g_44 : gIA G_39 = gIA G := gIA_fr (rs := [32, 67]) (fs := [(0, 11), (66, 1)]) ((Fr.rf.call hq_18 (by decide) (by decide)).call hq_40 (by decide) (by decide)) (by decide) (by decide)
    have g_45 : gO G_39 = gO G := gO_fr (rs := [32, 67]) (fs := [(0, 11), (66, 1)]) ((Fr.rf.call hq_18 (by decide) (by decide)).call hq_40 (by decide) (by decide)) (by decide) (by decide)
    have g_46 : gP G_39 = gP G := gP_fr (rs := [32, 67]) (fs := [(0, 11), (66, 1)]) ((Fr.rf.call hq_18 (by decide) (by decide)).call hq_40 (by decide) (by decide)) (by decide) (by decide)
    have g_47 : gS G_39 = gS G := gS_fr (rs := [32, 67]) (fs := [(0, 11), (66, 1)]) ((Fr.rf.call hq_18 (by decide) (by decide)).call hq_40 (by decide) (by decide)) (by decide) (by decide)
    have g_48 : gW G_39 = gW G := gW_fr (rs := [32, 67]) (fs := [(0, 11), (66, 1)]) ((Fr.rf.call hq_18 (by decide) (by decide)).call hq_40 (by decide) (by decide)) (by decide) (by decide)
    have b_49 : 0 ≤ (G_17.1 0 11).toInt ∧ (G_17.1 0 11).toInt ≤ 1600 := hB_G_17.i 0 11 rfl rfl
    have g_50 : (G_39.1 0 11).toInt = (G_17.1 0 11).toInt := by rw [show G_39.1 0 11 = (G_17.1 0 11) from (hq_40.i 0 11 (by decide) (by decide))]
    have b_51 : 0 ≤ (G.1 3 7).toInt ∧ (G.1 3 7).toInt ≤ 4 := hB_G.i 3 7 rfl rfl
    have g_52 : (G_39.1 3 7).toInt = (G.1 3 7).toInt := by rw [show G_39.1 3 7 = (G.1 3 7) from ((hq_40.i 3 7 (by decide) (by decide)).trans (hq_18.i 3 7 (by decide) (by decide)))]
    have b_53 : (-1) ≤ (G.1 3 8).toInt ∧ (G.1 3 8).toInt ≤ 1600 := hB_G.i 3 8 rfl rfl
    have g_54 : (G_39.1 3 8).toInt = (G.1 3 8).toInt := by rw [show G_39.1 3 8 = (G.1 3 8) from ((hq_40.i 3 8 (by decide) (by decide)).trans (hq_18.i 3 8 (by decide) (by decide)))]
    have b_55 : 0 ≤ (G.1 30 4).toInt ∧ (G.1 30 4).toInt ≤ 40 := hB_G.i 30 4 rfl rfl
    have g_56 : (G_39.1 30 4).toInt = (G.1 30 4).toInt := by rw [show G_39.1 30 4 = (G.1 30 4) from ((hq_40.i 30 4 (by decide) (by decide)).trans (hq_18.i 30 4 (by decide) (by decide)))]
    have b_57 : 0 ≤ (G.1 30 5).toInt ∧ (G.1 30 5).toInt ≤ 40 := hB_G.i 30 5 rfl rfl
    have g_58 : (G_39.1 30 5).toInt = (G.1 30 5).toInt := by rw [show G_39.1 30 5 = (G.1 30 5) from ((hq_40.i 30 5 (by decide) (by decide)).trans (hq_18.i 30 5 (by decide) (by decide)))]
    have b_59 : 0 ≤ (G.1 31 6).toInt ∧ (G.1 31 6).toInt ≤ 100000 := hB_G.i 31 6 rfl rfl
    have g_60 : (G_39.1 31 6).toInt = (G.1 31 6).toInt := by rw [show G_39.1 31 6 = (G.1 31 6) from ((hq_40.i 31 6 (by decide) (by decide)).trans (hq_18.i 31 6 (by decide) (by decide)))]
    have b_61 : 0 ≤ (G_39.1 66 1).toInt ∧ (G_39.1 66 1).toInt ≤ 1600 := hB_G_39.i 66 1 rfl rfl
    have b_62 : 0 ≤ (G.1 66 2).toInt ∧ (G.1 66 2).toInt ≤ 4 := hB_G.i 66 2 rfl rfl
    have g_63 : (G_39.1 66 2).toInt = (G.1 66 2).toInt := by rw [show G_39.1 66 2 = (G.1 66 2) from ((hq_40.i 66 2 (by decide) (by decide)).trans (hq_18.i 66 2 (by decide) (by decide)))]
    have b_64 : (-1) ≤ (G.1 66 3).toInt ∧ (G.1 66 3).toInt ≤ 1600 := hB_G.i 66 3 rfl rfl
    have g_65 : (G_39.1 66 3).toInt = (G.1 66 3).toInt := by rw [show G_39.1 66 3 = (G.1 66 3) from ((hq_40.i 66 3 (by decide) (by decide)).trans (hq_18.i 66 3 (by decide) (by decide)))]
    have b_66 : 0 ≤ (G.1 66 78).toInt ∧ (G.1 66 78).toInt ≤ 40 := hB_G.i 66 78 rfl rfl
    have g_67 : (G_39.1 66 78).toInt = (G.1 66 78).toInt := by rw [show G_39.1 66 78 = (G.1 66 78) from ((hq_40.i 66 78 (by decide) (by decide)).trans (hq_18.i 66 78 (by decide) (by decide)))]
    have b_68 : 0 ≤ (G.1 66 79).toInt ∧ (G.1 66 79).toInt ≤ 40 := hB_G.i 66 79 rfl rfl
    have g_69 : (G_39.1 66 79).toInt = (G.1 66 79).toInt := by rw [show G_39.1 66 79 = (G.1 66 79) from ((hq_40.i 66 79 (by decide) (by decide)).trans (hq_18.i 66 79 (by decide) (by decide)))]
    have b_70 : 0 ≤ (G.1 66 86).toInt ∧ (G.1 66 86).toInt ≤ 100000 := hB_G.i 66 86 rfl rfl
    have g_71 : (G_39.1 66 86).toInt = (G.1 66 86).toInt := by rw [show G_39.1 66 86 = (G.1 66 86) from ((hq_40.i 66 86 (by decide) (by decide)).trans (hq_18.i 66 86 (by decide) (by decide)))]
    have b_72 : 0 ≤ (G.1 96 0).toInt ∧ (G.1 96 0).toInt ≤ 9 := hB_G.i 96 0 rfl rfl
    have g_73 : (G_39.1 96 0).toInt = (G.1 96 0).toInt := by rw [show G_39.1 96 0 = (G.1 96 0) from ((hq_40.i 96 0 (by decide) (by decide)).trans (hq_18.i 96 0 (by decide) (by decide)))]
    have b_74 : 0 ≤ (G.1 96 1).toInt ∧ (G.1 96 1).toInt ≤ 9 := hB_G.i 96 1 rfl rfl
    have g_75 : (G_39.1 96 1).toInt = (G.1 96 1).toInt := by rw [show G_39.1 96 1 = (G.1 96 1) from ((hq_40.i 96 1 (by decide) (by decide)).trans (hq_18.i 96 1 (by decide) (by decide)))]
    have b_76 : 0 ≤ (G.1 96 2).toInt ∧ (G.1 96 2).toInt ≤ 9 := hB_G.i 96 2 rfl rfl
    have g_77 : (G_39.1 96 2).toInt = (G.1 96 2).toInt := by rw [show G_39.1 96 2 = (G.1 96 2) from ((hq_40.i 96 2 (by decide) (by decide)).trans (hq_18.i 96 2 (by decide) (by decide)))]
    exact K G_39 _ _ _ (Or.inl ⟨((((hq_40.r 0 0 (by decide) (by decide)).trans (hq_18.r 0 0 (by decide) (by decide)))).trans (hv_0_0)), ((((hq_40.r 0 1 (by decide) (by decide)).trans (hq_18.r 0 1 (by decide) (by decide)))).trans (hv_0_1)), ((((hq_40.r 6 4 (by decide) (by decide)).trans (hq_18.r 6 4 (by decide) (by decide)))).trans (hv_6_4)), by omega, by omega, by omega, by omega, by omega, by omega, by omega, by omega, by omega, by omega, by omega, by omega, by omega⟩) hB_G_39 hW hS (lv_sub hl [0, 1, 2, 3] rfl)
  · skip
    refine lv_aload_n hx hb dL_law_204 rfl (lv_at hl 1 rfl) ?_
    refine lv_aload_n hx hb dL_law_205 rfl (lv_at hl 0 rfl) ?_
    refine lv_iload_n hx hb dL_law_206 rfl (lv_at hl 3 rfl) ?_
    refine lv_iconst (v := 1) hx hb dL_law_207 (by decide) ?_
    refine lv_iadd hx hb dL_law_208 ?_
    refine lv_topi (fun y_1 ey_1 => ?_)
    have ty_1 : y_1.toInt = i0.toInt + 1 := xI_add rfl rfl ey_1 (by omega) (by omega)
    refine va_sld hx hb hX hbl hbA hS (vin (by omega) (by omega)) dL_law_209 ?_
    refine lv_topi (fun y_2 ey_2 => ?_)
    have u_3 : y_2.toInt = (xs (i0 + 1).toNatClampNeg).toInt := by rw [ey_2, ey_1]
    refine lv_aload_n hx hb dL_law_210 rfl (lv_at hl 0 rfl) ?_
    refine lv_iload_n hx hb dL_law_211 rfl (lv_at hl 3 rfl) ?_
    refine lv_iconst (v := 2) hx hb dL_law_212 (by decide) ?_
    refine lv_iadd hx hb dL_law_213 ?_
    refine lv_topi (fun y_4 ey_4 => ?_)
    have ty_4 : y_4.toInt = i0.toInt + 2 := xI_add rfl rfl ey_4 (by omega) (by omega)
    refine va_sld hx hb hX hbl hbA hS (vin (by omega) (by omega)) dL_law_214 ?_
    refine lv_topi (fun y_5 ey_5 => ?_)
    have u_6 : y_5.toInt = (xs (i0 + 2).toNatClampNeg).toInt := by rw [ey_5, ey_4]
    refine lv_aload_n hx hb dL_law_215 rfl (lv_at hl 0 rfl) ?_
    refine lv_iload_n hx hb dL_law_216 rfl (lv_at hl 3 rfl) ?_
    refine lv_iconst (v := 3) hx hb dL_law_217 (by decide) ?_
    refine lv_iadd hx hb dL_law_218 ?_
    refine lv_topi (fun y_7 ey_7 => ?_)
    have ty_7 : y_7.toInt = i0.toInt + 3 := xI_add rfl rfl ey_7 (by omega) (by omega)
    refine va_sld hx hb hX hbl hbA hS (vin (by omega) (by omega)) dL_law_219 ?_
    refine lv_topi (fun y_8 ey_8 => ?_)
    have u_9 : y_8.toInt = (xs (i0 + 3).toNatClampNeg).toInt := by rw [ey_8, ey_7]
    refine lv_aload_n hx hb dL_law_220 rfl (lv_at hl 0 rfl) ?_
    refine lv_iload_n hx hb dL_law_221 rfl (lv_at hl 3 rfl) ?_
    refine lv_iconst (v := 4) hx hb dL_law_222 (by decide) ?_
    refine lv_iadd hx hb dL_law_223 ?_
    refine lv_topi (fun y_10 ey_10 => ?_)
    have ty_10 : y_10.toInt = i0.toInt + 4 := xI_add rfl rfl ey_10 (by omega) (by omega)
    refine va_sld hx hb hX hbl hbA hS (vin (by omega) (by omega)) dL_law_224 ?_
    refine lv_topi (fun y_11 ey_11 => ?_)
    have u_12 : y_11.toInt = (xs (i0 + 4).toNatClampNeg).toInt := by rw [ey_11, ey_10]
    refine lv_aload_n hx hb dL_law_225 rfl (lv_at hl 0 rfl) ?_
    refine lv_iload_n hx hb dL_law_226 rfl (lv_at hl 3 rfl) ?_
    refine lv_iconst (v := 5) hx hb dL_law_227 (by decide) ?_
    refine lv_iadd hx hb dL_law_228 ?_
    refine lv_topi (fun y_13 ey_13 => ?_)
    have ty_13 : y_13.toInt = i0.toInt + 5 := xI_add rfl rfl ey_13 (by omega) (by omega)
    refine va_sld hx hb hX hbl hbA hS (vin (by omega) (by omega)) dL_law_229 ?_
    refine lv_topi (fun y_14 ey_14 => ?_)
    have u_15 : y_14.toInt = (xs (i0 + 5).toNatClampNeg).toInt := by rw [ey_14, ey_13]
    refine S_calli (va_runV (As := [.int y_2, .int y_5, .int y_8, .int y_11, .int y_14]) (rest := []) ⟨hx, hb, hml, hown, hts⟩ (k_Wfeed l D k A a z G y_2 y_5 y_8 y_11 y_14 ) (cwV 5 hts (gd_V hgd m610 m611 m612 m117 m613) rfl rfl rfl (by decide +kernel) ⟨Nat.le_of_ble_eq_true rfl, Nat.le_of_ble_eq_true rfl⟩) (pre_V hW hB_G hK hZ hS kd_0 rfl) rfl rfl hl.1 rfl (lv_room (Nat.le_of_ble_eq_true rfl)) dL_law_230 ⟨Nat.le_of_ble_eq_true rfl, Nat.le_of_ble_eq_true rfl⟩) hS (fun r_16 G_17 H locs hpo hW hS => ?_)
    have hX_20 : P_Wfeed y_2 y_5 y_8 y_11 y_14 G r_16 G_17 := hpo
    obtain ⟨hB_G_17, hq_18, hp_19, -⟩ := hpo
    refine lv_pop hx hb dL_law_233 rfl ?_
    refine lv_aload_n hx hb dL_law_234 rfl (lv_at hl 2 rfl) ?_
    refine lv_aload_n hx hb dL_law_235 rfl (lv_at hl 0 rfl) ?_
    refine lv_iload_n hx hb dL_law_236 rfl (lv_at hl 3 rfl) ?_
    refine lv_iconst (v := 1) hx hb dL_law_237 (by decide) ?_
    refine lv_iadd hx hb dL_law_238 ?_
    refine lv_topi (fun y_21 ey_21 => ?_)
    have ty_21 : y_21.toInt = i0.toInt + 1 := xI_add rfl rfl ey_21 (by omega) (by omega)
    refine va_sld hx hb hX hbl hbA hS (vin (by omega) (by omega)) dL_law_239 ?_
    refine lv_topi (fun y_22 ey_22 => ?_)
    have u_23 : y_22.toInt = (xs (i0 + 1).toNatClampNeg).toInt := by rw [ey_22, ey_21]
    refine lv_aload_n hx hb dL_law_240 rfl (lv_at hl 0 rfl) ?_
    refine lv_iload_n hx hb dL_law_241 rfl (lv_at hl 3 rfl) ?_
    refine lv_iconst (v := 2) hx hb dL_law_242 (by decide) ?_
    refine lv_iadd hx hb dL_law_243 ?_
    refine lv_topi (fun y_24 ey_24 => ?_)
    have ty_24 : y_24.toInt = i0.toInt + 2 := xI_add rfl rfl ey_24 (by omega) (by omega)
    refine va_sld hx hb hX hbl hbA hS (vin (by omega) (by omega)) dL_law_244 ?_
    refine lv_topi (fun y_25 ey_25 => ?_)
    have u_26 : y_25.toInt = (xs (i0 + 2).toNatClampNeg).toInt := by rw [ey_25, ey_24]
    refine lv_aload_n hx hb dL_law_245 rfl (lv_at hl 0 rfl) ?_
    refine lv_iload_n hx hb dL_law_246 rfl (lv_at hl 3 rfl) ?_
    refine lv_iconst (v := 3) hx hb dL_law_247 (by decide) ?_
    refine lv_iadd hx hb dL_law_248 ?_
    refine lv_topi (fun y_27 ey_27 => ?_)
    have ty_27 : y_27.toInt = i0.toInt + 3 := xI_add rfl rfl ey_27 (by omega) (by omega)
    refine va_sld hx hb hX hbl hbA hS (vin (by omega) (by omega)) dL_law_249 ?_
    refine lv_topi (fun y_28 ey_28 => ?_)
    have u_29 : y_28.toInt = (xs (i0 + 3).toNatClampNeg).toInt := by rw [ey_28, ey_27]
    refine lv_aload_n hx hb dL_law_250 rfl (lv_at hl 0 rfl) ?_
    refine lv_iload_n hx hb dL_law_251 rfl (lv_at hl 3 rfl) ?_
    refine lv_iconst (v := 4) hx hb dL_law_252 (by decide) ?_
    refine lv_iadd hx hb dL_law_253 ?_
    refine lv_topi (fun y_30 ey_30 => ?_)
    have ty_30 : y_30.toInt = i0.toInt + 4 := xI_add rfl rfl ey_30 (by omega) (by omega)
    refine va_sld hx hb hX hbl hbA hS (vin (by omega) (by omega)) dL_law_254 ?_
    refine lv_topi (fun y_31 ey_31 => ?_)
    have u_32 : y_31.toInt = (xs (i0 + 4).toNatClampNeg).toInt := by rw [ey_31, ey_30]
    refine lv_aload_n hx hb dL_law_255 rfl (lv_at hl 0 rfl) ?_
    refine lv_iload_n hx hb dL_law_256 rfl (lv_at hl 3 rfl) ?_
    refine lv_iconst (v := 5) hx hb dL_law_257 (by decide) ?_
    refine lv_iadd hx hb dL_law_258 ?_
    refine lv_topi (fun y_33 ey_33 => ?_)
    have ty_33 : y_33.toInt = i0.toInt + 5 := xI_add rfl rfl ey_33 (by omega) (by omega)
    refine va_sld hx hb hX hbl hbA hS (vin (by omega) (by omega)) dL_law_259 ?_
    refine lv_topi (fun y_34 ey_34 => ?_)
    have u_35 : y_34.toInt = (xs (i0 + 5).toNatClampNeg).toInt := by rw [ey_34, ey_33]
    have b_36 : 0 ≤ (G.1 66 1).toInt ∧ (G.1 66 1).toInt ≤ 1600 := hB_G.i 66 1 rfl rfl
    have g_37 : (G_17.1 66 1).toInt = (G.1 66 1).toInt := by rw [show G_17.1 66 1 = (G.1 66 1) from (hq_18.i 66 1 (by decide) (by decide))]
    refine S_calli (va_runV (As := [.int y_22, .int y_25, .int y_28, .int y_31, .int y_34]) (rest := []) ⟨hx, hb, hml, hown, hts⟩ (n_feed l D k A a z G_17 y_22 y_25 y_28 y_31 y_34 ) (cwV 5 hts (gd_V hgd m1582 m1583 m1584 m131 m1585) rfl rfl rfl (by decide +kernel) ⟨Nat.le_of_ble_eq_true rfl, Nat.le_of_ble_eq_true rfl⟩) (pre_V hW hB_G_17 hK hZ hS kd_66 rfl) rfl rfl hl.1 rfl (lv_room (Nat.le_of_ble_eq_true rfl)) dL_law_260 ⟨Nat.le_of_ble_eq_true rfl, Nat.le_of_ble_eq_true rfl⟩) hS (fun r_38 G_39 H locs hpo hW hS => ?_)
    have hX_42 : Q_feed y_22 y_25 y_28 y_31 y_34 G_17 r_38 G_39 := hpo
    obtain ⟨hB_G_39, hq_40, hp_41, -⟩ := hpo
    have u_43 : gTE G_39 = 1 := ind_1 (te_feed hX_20 hX_42 (by omega) (by omega) (by omega) (by omega) (by omega) (gTE_p (by omega)) (by omega) (hB_G.i 0 11 (lo := 0) (hi := 1600) rfl rfl).1)
    refine lv_pop hx hb dL_law_263 rfl ?_
    refine lv_goto (tgt := 1641) hx hb dL_law_264 (by decide) ?_
    have g_44 : gIB G_39 = gIB G := gIB_fr (rs := [32, 67]) (fs := [(0, 11), (66, 1)]) ((Fr.rf.call hq_18 (by decide) (by decide)).call hq_40 (by decide) (by decide)) (by decide) (by decide)
    have g_45 : gO G_39 = gO G := gO_fr (rs := [32, 67]) (fs := [(0, 11), (66, 1)]) ((Fr.rf.call hq_18 (by decide) (by decide)).call hq_40 (by decide) (by decide)) (by decide) (by decide)
    have g_46 : gP G_39 = gP G := gP_fr (rs := [32, 67]) (fs := [(0, 11), (66, 1)]) ((Fr.rf.call hq_18 (by decide) (by decide)).call hq_40 (by decide) (by decide)) (by decide) (by decide)
    have g_47 : gS G_39 = gS G := gS_fr (rs := [32, 67]) (fs := [(0, 11), (66, 1)]) ((Fr.rf.call hq_18 (by decide) (by decide)).call hq_40 (by decide) (by decide)) (by decide) (by decide)
    have g_48 : gW G_39 = gW G := gW_fr (rs := [32, 67]) (fs := [(0, 11), (66, 1)]) ((Fr.rf.call hq_18 (by decide) (by decide)).call hq_40 (by decide) (by decide)) (by decide) (by decide)
    have b_49 : 0 ≤ (G_17.1 0 11).toInt ∧ (G_17.1 0 11).toInt ≤ 1600 := hB_G_17.i 0 11 rfl rfl
    have g_50 : (G_39.1 0 11).toInt = (G_17.1 0 11).toInt := by rw [show G_39.1 0 11 = (G_17.1 0 11) from (hq_40.i 0 11 (by decide) (by decide))]
    have b_51 : 0 ≤ (G.1 3 7).toInt ∧ (G.1 3 7).toInt ≤ 4 := hB_G.i 3 7 rfl rfl
    have g_52 : (G_39.1 3 7).toInt = (G.1 3 7).toInt := by rw [show G_39.1 3 7 = (G.1 3 7) from ((hq_40.i 3 7 (by decide) (by decide)).trans (hq_18.i 3 7 (by decide) (by decide)))]
    have b_53 : (-1) ≤ (G.1 3 8).toInt ∧ (G.1 3 8).toInt ≤ 1600 := hB_G.i 3 8 rfl rfl
    have g_54 : (G_39.1 3 8).toInt = (G.1 3 8).toInt := by rw [show G_39.1 3 8 = (G.1 3 8) from ((hq_40.i 3 8 (by decide) (by decide)).trans (hq_18.i 3 8 (by decide) (by decide)))]
    have b_55 : 0 ≤ (G.1 30 4).toInt ∧ (G.1 30 4).toInt ≤ 40 := hB_G.i 30 4 rfl rfl
    have g_56 : (G_39.1 30 4).toInt = (G.1 30 4).toInt := by rw [show G_39.1 30 4 = (G.1 30 4) from ((hq_40.i 30 4 (by decide) (by decide)).trans (hq_18.i 30 4 (by decide) (by decide)))]
    have b_57 : 0 ≤ (G.1 30 5).toInt ∧ (G.1 30 5).toInt ≤ 40 := hB_G.i 30 5 rfl rfl
    have g_58 : (G_39.1 30 5).toInt = (G.1 30 5).toInt := by rw [show G_39.1 30 5 = (G.1 30 5) from ((hq_40.i 30 5 (by decide) (by decide)).trans (hq_18.i 30 5 (by decide) (by decide)))]
    have b_59 : 0 ≤ (G.1 31 6).toInt ∧ (G.1 31 6).toInt ≤ 100000 := hB_G.i 31 6 rfl rfl
    have g_60 : (G_39.1 31 6).toInt = (G.1 31 6).toInt := by rw [show G_39.1 31 6 = (G.1 31 6) from ((hq_40.i 31 6 (by decide) (by decide)).trans (hq_18.i 31 6 (by decide) (by decide)))]
    have b_61 : 0 ≤ (G_39.1 66 1).toInt ∧ (G_39.1 66 1).toInt ≤ 1600 := hB_G_39.i 66 1 rfl rfl
    have b_62 : 0 ≤ (G.1 66 2).toInt ∧ (G.1 66 2).toInt ≤ 4 := hB_G.i 66 2 rfl rfl
    have g_63 : (G_39.1 66 2).toInt = (G.1 66 2).toInt := by rw [show G_39.1 66 2 = (G.1 66 2) from ((hq_40.i 66 2 (by decide) (by decide)).trans (hq_18.i 66 2 (by decide) (by decide)))]
    have b_64 : (-1) ≤ (G.1 66 3).toInt ∧ (G.1 66 3).toInt ≤ 1600 := hB_G.i 66 3 rfl rfl
    have g_65 : (G_39.1 66 3).toInt = (G.1 66 3).toInt := by rw [show G_39.1 66 3 = (G.1 66 3) from ((hq_40.i 66 3 (by decide) (by decide)).trans (hq_18.i 66 3 (by decide) (by decide)))]
    have b_66 : 0 ≤ (G.1 66 78).toInt ∧ (G.1 66 78).toInt ≤ 40 := hB_G.i 66 78 rfl rfl
    have g_67 : (G_39.1 66 78).toInt = (G.1 66 78).toInt := by rw [show G_39.1 66 78 = (G.1 66 78) from ((hq_40.i 66 78 (by decide) (by decide)).trans (hq_18.i 66 78 (by decide) (by decide)))]
    have b_68 : 0 ≤ (G.1 66 79).toInt ∧ (G.1 66 79).toInt ≤ 40 := hB_G.i 66 79 rfl rfl
    have g_69 : (G_39.1 66 79).toInt = (G.1 66 79).toInt := by rw [show G_39.1 66 79 = (G.1 66 79) from ((hq_40.i 66 79 (by decide) (by decide)).trans (hq_18.i 66 79 (by decide) (by decide)))]
    have b_70 : 0 ≤ (G.1 66 86).toInt ∧ (G.1 66 86).toInt ≤ 100000 := hB_G.i 66 86 rfl rfl
    have g_71 : (G_39.1 66 86).toInt = (G.1 66 86).toInt := by rw [show G_39.1 66 86 = (G.1 66 86) from ((hq_40.i 66 86 (by decide) (by decide)).trans (hq_18.i 66 86 (by decide) (by decide)))]
    have b_72 : 0 ≤ (G.1 96 0).toInt ∧ (G.1 96 0).toInt ≤ 9 := hB_G.i 96 0 rfl rfl
    have g_73 : (G_39.1 96 0).toInt = (G.1 96 0).toInt := by rw [show G_39.1 96 0 = (G.1 96 0) from ((hq_40.i 96 0 (by decide) (by decide)).trans (hq_18.i 96 0 (by decide) (by decide)))]
    have b_74 : 0 ≤ (G.1 96 1).toInt ∧ (G.1 96 1).toInt ≤ 9 := hB_G.i 96 1 rfl rfl
    have g_75 : (G_39.1 96 1).toInt = (G.1 96 1).toInt := by rw [show G_39.1 96 1 = (G.1 96 1) from ((hq_40.i 96 1 (by decide) (by decide)).trans (hq_18.i 96 1 (by decide) (by decide)))]
    have b_76 : 0 ≤ (G.1 96 2).toInt ∧ (G.1 96 2).toInt ≤ 9 := hB_G.i 96 2 rfl rfl
    have g_77 : (G_39.1 96 2).toInt = (G.1 96 2).toInt := by rw [show G_39.1 96 2 = (G.1 96 2) from ((hq_40.i 96 2 (by decide) (by decide)).trans (hq_18.i 96 2 (by decide) (by decide)))]
    exact K G_39 _ _ _ (Or.inr ⟨((((hq_40.r 0 0 (by decide) (by decide)).trans (hq_18.r 0 0 (by decide) (by decide)))).trans (hv_0_0)), ((((hq_40.r 0 1 (by decide) (by decide)).trans (hq_18.r 0 1 (by decide) (by decide)))).trans (hv_0_1)), ((((hq_40.r 6 4 (by decide) (by decide)).trans (hq_18.r 6 4 (by decide) (by decide)))).trans (hv_6_4)), by omega, by omega, by omega, by omega, by omega, by omega, by omega, by omega, by omega, by omega, by omega, by omega, by omega⟩) hB_G_39 hW hS (lv_sub hl [0, 1, 2, 3] rfl)

set_option maxHeartbeats 4000000 in
set_option maxRecDepth 100000 in
theorem law_1 {p : Program} {l : Launch} {e : Env} {s : State} {m : MethodId} {below : List Frame} {meth : Method} {c : Code} {D : va_G} {k : KT} {A : Nat → Prop} {a : Nat → Nat} {z : SK} {b L : Nat} {xs : Nat → Int32} (hL : L ≤ 3072) (C0 : lw_At p s m meth c b L xs) (hK : cK D k s) (hZ : Sx A z s) (hbA : ¬ A b) {G : GS} {i0 : Int32} (hi0 : 0 ≤ i0.toInt) (hi6 : i0.toInt + 6 ≤ L) (hI : LI G) (hB_G : Bd G) {H : Heap} {locs : List Loc} {ls : Array Slot} (hW : Wd D k A a G H) (hS : va_S A s.heap H locs) (hl : lv_has ls 4 [(0, .ref b), (1, .ref (a 0)), (2, .ref (a 66)), (3, .int i0)]) (K : ∀ (G1 : GS) (H1 : Heap) (locs1 : List Loc) (ls1 : Array Slot), LI G1 → Bd G1 → Wd D k A a G1 H1 → va_S A s.heap H1 locs1 → lv_has ls1 4 [(0, .ref b), (1, .ref (a 0)), (2, .ref (a 66)), (3, .int i0)] → W p l e room_1 s m #[Value.ref b] below meth c H1 locs1 119 46443 (lw_Z below #[Value.ref b] s) (F0 m 1641 ls1 [])) : W p l e room_1 s m #[Value.ref b] below meth c H locs 119 46443 (lw_Z below #[Value.ref b] s) (F0 m 267 ls []) := by
  obtain ⟨hx, hb, hr, hml, hown, hts, hX, hbl, hlocks, hgv⟩ := id C0
  have hown : s.vm.findClass RL = some m.cls := hown
  have hgd : ∀ w ∈ gd, w ∈ lw_tbl := fun w h => (List.mem_filter.mp h).1
  have hg : ∀ w ∈ gd, w.before #[Value.ref b] s = true := fun w h => hts w (hgd w h)
  rcases hI with ⟨hv_0_0, hv_0_1, hv_6_4, hj0, hj1, hj2, hj3, hj4, hj5, hj6, hj7, hj8, hj9, hj10, hj11⟩ | ⟨hv_0_0, hv_0_1, hv_6_4, hj0, hj1, hj2, hj3, hj4, hj5, hj6, hj7, hj8, hj9, hj10, hj11⟩
  · skip
    refine lv_aload_n hx hb dL_law_267 rfl (lv_at hl 1 rfl) ?_
    refine lv_aload_n hx hb dL_law_268 rfl (lv_at hl 0 rfl) ?_
    refine lv_iload_n hx hb dL_law_269 rfl (lv_at hl 3 rfl) ?_
    refine lv_iconst (v := 1) hx hb dL_law_270 (by decide) ?_
    refine lv_iadd hx hb dL_law_271 ?_
    refine lv_topi (fun y_1 ey_1 => ?_)
    have ty_1 : y_1.toInt = i0.toInt + 1 := xI_add rfl rfl ey_1 (by omega) (by omega)
    refine va_sld hx hb hX hbl hbA hS (vin (by omega) (by omega)) dL_law_272 ?_
    refine lv_topi (fun y_2 ey_2 => ?_)
    have u_3 : y_2.toInt = (xs (i0 + 1).toNatClampNeg).toInt := by rw [ey_2, ey_1]
    refine S_calli (va_runV (As := [.int y_2]) (rest := []) ⟨hx, hb, hml, hown, hts⟩ (k_Wend l D k A a z G y_2 ) (cwV 1 hts (gd_V hgd m618 m619 m620 m117 m621) rfl rfl rfl (by decide +kernel) ⟨Nat.le_of_ble_eq_true rfl, Nat.le_of_ble_eq_true rfl⟩) (pre_V hW hB_G hK hZ hS kd_0 rfl) rfl rfl hl.1 rfl (lv_room (Nat.le_of_ble_eq_true rfl)) dL_law_273 ⟨Nat.le_of_ble_eq_true rfl, Nat.le_of_ble_eq_true rfl⟩) hS (fun r_4 G_5 H locs hpo hW hS => ?_)
    have hX_8 : P_Wend y_2 G r_4 G_5 := hpo
    obtain ⟨hB_G_5, hq_6, hp_7, -⟩ := hpo
    refine lv_pop hx hb dL_law_276 rfl ?_
    refine lv_aload_n hx hb dL_law_277 rfl (lv_at hl 2 rfl) ?_
    refine lv_aload_n hx hb dL_law_278 rfl (lv_at hl 0 rfl) ?_
    refine lv_iload_n hx hb dL_law_279 rfl (lv_at hl 3 rfl) ?_
    refine lv_iconst (v := 1) hx hb dL_law_280 (by decide) ?_
    refine lv_iadd hx hb dL_law_281 ?_
    refine lv_topi (fun y_9 ey_9 => ?_)
    have ty_9 : y_9.toInt = i0.toInt + 1 := xI_add rfl rfl ey_9 (by omega) (by omega)
    refine va_sld hx hb hX hbl hbA hS (vin (by omega) (by omega)) dL_law_282 ?_
    refine lv_topi (fun y_10 ey_10 => ?_)
    have u_11 : y_10.toInt = (xs (i0 + 1).toNatClampNeg).toInt := by rw [ey_10, ey_9]
    have b_12 : 0 ≤ (G.1 66 1).toInt ∧ (G.1 66 1).toInt ≤ 1600 := hB_G.i 66 1 rfl rfl
    have g_13 : (G_5.1 66 1).toInt = (G.1 66 1).toInt := by rw [show G_5.1 66 1 = (G.1 66 1) from (hq_6.i 66 1 (by decide) (by decide))]
    refine S_calli (va_runV (As := [.int y_10]) (rest := []) ⟨hx, hb, hml, hown, hts⟩ (n_end l D k A a z G_5 y_10 ) (cwV 1 hts (gd_V hgd m1590 m1591 m1592 m131 m1593) rfl rfl rfl (by decide +kernel) ⟨Nat.le_of_ble_eq_true rfl, Nat.le_of_ble_eq_true rfl⟩) (pre_V hW hB_G_5 hK hZ hS kd_66 rfl) rfl rfl hl.1 rfl (lv_room (Nat.le_of_ble_eq_true rfl)) dL_law_283 ⟨Nat.le_of_ble_eq_true rfl, Nat.le_of_ble_eq_true rfl⟩) hS (fun r_14 G_15 H locs hpo hW hS => ?_)
    have hX_18 : Q_end y_10 G_5 r_14 G_15 := hpo
    obtain ⟨hB_G_15, hq_16, hp_17, -⟩ := hpo
    refine lv_pop hx hb dL_law_286 rfl ?_
    refine lv_goto (tgt := 1641) hx hb dL_law_287 (by decide) ?_
    have g_19 : gIA G_15 = gIA G := gIA_fr (rs := []) (fs := [(0, 11), (66, 1)]) ((Fr.rf.call hq_6 (by decide) (by decide)).call hq_16 (by decide) (by decide)) (by decide) (by decide)
    have g_20 : gO G_15 = gO G := gO_fr (rs := []) (fs := [(0, 11), (66, 1)]) ((Fr.rf.call hq_6 (by decide) (by decide)).call hq_16 (by decide) (by decide)) (by decide) (by decide)
    have g_21 : gP G_15 = gP G := gP_fr (rs := []) (fs := [(0, 11), (66, 1)]) ((Fr.rf.call hq_6 (by decide) (by decide)).call hq_16 (by decide) (by decide)) (by decide) (by decide)
    have g_22 : gS G_15 = gS G := gS_fr (rs := []) (fs := [(0, 11), (66, 1)]) ((Fr.rf.call hq_6 (by decide) (by decide)).call hq_16 (by decide) (by decide)) (by decide) (by decide)
    have g_23 : gTE G_15 = gTE G := gTE_fr (rs := []) (fs := [(0, 11), (66, 1)]) ((Fr.rf.call hq_6 (by decide) (by decide)).call hq_16 (by decide) (by decide)) (by decide) (by decide)
    have g_24 : gW G_15 = gW G := gW_fr (rs := []) (fs := [(0, 11), (66, 1)]) ((Fr.rf.call hq_6 (by decide) (by decide)).call hq_16 (by decide) (by decide)) (by decide) (by decide)
    have b_25 : 0 ≤ (G_5.1 0 11).toInt ∧ (G_5.1 0 11).toInt ≤ 1600 := hB_G_5.i 0 11 rfl rfl
    have g_26 : (G_15.1 0 11).toInt = (G_5.1 0 11).toInt := by rw [show G_15.1 0 11 = (G_5.1 0 11) from (hq_16.i 0 11 (by decide) (by decide))]
    have b_27 : 0 ≤ (G.1 3 7).toInt ∧ (G.1 3 7).toInt ≤ 4 := hB_G.i 3 7 rfl rfl
    have g_28 : (G_15.1 3 7).toInt = (G.1 3 7).toInt := by rw [show G_15.1 3 7 = (G.1 3 7) from ((hq_16.i 3 7 (by decide) (by decide)).trans (hq_6.i 3 7 (by decide) (by decide)))]
    have b_29 : (-1) ≤ (G.1 3 8).toInt ∧ (G.1 3 8).toInt ≤ 1600 := hB_G.i 3 8 rfl rfl
    have g_30 : (G_15.1 3 8).toInt = (G.1 3 8).toInt := by rw [show G_15.1 3 8 = (G.1 3 8) from ((hq_16.i 3 8 (by decide) (by decide)).trans (hq_6.i 3 8 (by decide) (by decide)))]
    have b_31 : 0 ≤ (G.1 30 4).toInt ∧ (G.1 30 4).toInt ≤ 40 := hB_G.i 30 4 rfl rfl
    have g_32 : (G_15.1 30 4).toInt = (G.1 30 4).toInt := by rw [show G_15.1 30 4 = (G.1 30 4) from ((hq_16.i 30 4 (by decide) (by decide)).trans (hq_6.i 30 4 (by decide) (by decide)))]
    have b_33 : 0 ≤ (G.1 30 5).toInt ∧ (G.1 30 5).toInt ≤ 40 := hB_G.i 30 5 rfl rfl
    have g_34 : (G_15.1 30 5).toInt = (G.1 30 5).toInt := by rw [show G_15.1 30 5 = (G.1 30 5) from ((hq_16.i 30 5 (by decide) (by decide)).trans (hq_6.i 30 5 (by decide) (by decide)))]
    have b_35 : 0 ≤ (G.1 31 6).toInt ∧ (G.1 31 6).toInt ≤ 100000 := hB_G.i 31 6 rfl rfl
    have g_36 : (G_15.1 31 6).toInt = (G.1 31 6).toInt := by rw [show G_15.1 31 6 = (G.1 31 6) from ((hq_16.i 31 6 (by decide) (by decide)).trans (hq_6.i 31 6 (by decide) (by decide)))]
    have b_37 : 0 ≤ (G_15.1 66 1).toInt ∧ (G_15.1 66 1).toInt ≤ 1600 := hB_G_15.i 66 1 rfl rfl
    have b_38 : 0 ≤ (G.1 66 2).toInt ∧ (G.1 66 2).toInt ≤ 4 := hB_G.i 66 2 rfl rfl
    have g_39 : (G_15.1 66 2).toInt = (G.1 66 2).toInt := by rw [show G_15.1 66 2 = (G.1 66 2) from ((hq_16.i 66 2 (by decide) (by decide)).trans (hq_6.i 66 2 (by decide) (by decide)))]
    have b_40 : (-1) ≤ (G.1 66 3).toInt ∧ (G.1 66 3).toInt ≤ 1600 := hB_G.i 66 3 rfl rfl
    have g_41 : (G_15.1 66 3).toInt = (G.1 66 3).toInt := by rw [show G_15.1 66 3 = (G.1 66 3) from ((hq_16.i 66 3 (by decide) (by decide)).trans (hq_6.i 66 3 (by decide) (by decide)))]
    have b_42 : 0 ≤ (G.1 66 78).toInt ∧ (G.1 66 78).toInt ≤ 40 := hB_G.i 66 78 rfl rfl
    have g_43 : (G_15.1 66 78).toInt = (G.1 66 78).toInt := by rw [show G_15.1 66 78 = (G.1 66 78) from ((hq_16.i 66 78 (by decide) (by decide)).trans (hq_6.i 66 78 (by decide) (by decide)))]
    have b_44 : 0 ≤ (G.1 66 79).toInt ∧ (G.1 66 79).toInt ≤ 40 := hB_G.i 66 79 rfl rfl
    have g_45 : (G_15.1 66 79).toInt = (G.1 66 79).toInt := by rw [show G_15.1 66 79 = (G.1 66 79) from ((hq_16.i 66 79 (by decide) (by decide)).trans (hq_6.i 66 79 (by decide) (by decide)))]
    have b_46 : 0 ≤ (G.1 66 86).toInt ∧ (G.1 66 86).toInt ≤ 100000 := hB_G.i 66 86 rfl rfl
    have g_47 : (G_15.1 66 86).toInt = (G.1 66 86).toInt := by rw [show G_15.1 66 86 = (G.1 66 86) from ((hq_16.i 66 86 (by decide) (by decide)).trans (hq_6.i 66 86 (by decide) (by decide)))]
    have b_48 : 0 ≤ (G.1 96 0).toInt ∧ (G.1 96 0).toInt ≤ 9 := hB_G.i 96 0 rfl rfl
    have g_49 : (G_15.1 96 0).toInt = (G.1 96 0).toInt := by rw [show G_15.1 96 0 = (G.1 96 0) from ((hq_16.i 96 0 (by decide) (by decide)).trans (hq_6.i 96 0 (by decide) (by decide)))]
    have b_50 : 0 ≤ (G.1 96 1).toInt ∧ (G.1 96 1).toInt ≤ 9 := hB_G.i 96 1 rfl rfl
    have g_51 : (G_15.1 96 1).toInt = (G.1 96 1).toInt := by rw [show G_15.1 96 1 = (G.1 96 1) from ((hq_16.i 96 1 (by decide) (by decide)).trans (hq_6.i 96 1 (by decide) (by decide)))]
    have b_52 : 0 ≤ (G.1 96 2).toInt ∧ (G.1 96 2).toInt ≤ 9 := hB_G.i 96 2 rfl rfl
    have g_53 : (G_15.1 96 2).toInt = (G.1 96 2).toInt := by rw [show G_15.1 96 2 = (G.1 96 2) from ((hq_16.i 96 2 (by decide) (by decide)).trans (hq_6.i 96 2 (by decide) (by decide)))]
    exact K G_15 _ _ _ (Or.inl ⟨((((hq_16.r 0 0 (by decide) (by decide)).trans (hq_6.r 0 0 (by decide) (by decide)))).trans (hv_0_0)), ((((hq_16.r 0 1 (by decide) (by decide)).trans (hq_6.r 0 1 (by decide) (by decide)))).trans (hv_0_1)), ((((hq_16.r 6 4 (by decide) (by decide)).trans (hq_6.r 6 4 (by decide) (by decide)))).trans (hv_6_4)), by omega, by omega, by omega, by omega, by omega, by omega, by omega, by omega, by omega, by omega, by omega, by omega, by omega⟩) hB_G_15 hW hS (lv_sub hl [0, 1, 2, 3] rfl)
  · skip
    refine lv_aload_n hx hb dL_law_267 rfl (lv_at hl 1 rfl) ?_
    refine lv_aload_n hx hb dL_law_268 rfl (lv_at hl 0 rfl) ?_
    refine lv_iload_n hx hb dL_law_269 rfl (lv_at hl 3 rfl) ?_
    refine lv_iconst (v := 1) hx hb dL_law_270 (by decide) ?_
    refine lv_iadd hx hb dL_law_271 ?_
    refine lv_topi (fun y_1 ey_1 => ?_)
    have ty_1 : y_1.toInt = i0.toInt + 1 := xI_add rfl rfl ey_1 (by omega) (by omega)
    refine va_sld hx hb hX hbl hbA hS (vin (by omega) (by omega)) dL_law_272 ?_
    refine lv_topi (fun y_2 ey_2 => ?_)
    have u_3 : y_2.toInt = (xs (i0 + 1).toNatClampNeg).toInt := by rw [ey_2, ey_1]
    refine S_calli (va_runV (As := [.int y_2]) (rest := []) ⟨hx, hb, hml, hown, hts⟩ (k_Wend l D k A a z G y_2 ) (cwV 1 hts (gd_V hgd m618 m619 m620 m117 m621) rfl rfl rfl (by decide +kernel) ⟨Nat.le_of_ble_eq_true rfl, Nat.le_of_ble_eq_true rfl⟩) (pre_V hW hB_G hK hZ hS kd_0 rfl) rfl rfl hl.1 rfl (lv_room (Nat.le_of_ble_eq_true rfl)) dL_law_273 ⟨Nat.le_of_ble_eq_true rfl, Nat.le_of_ble_eq_true rfl⟩) hS (fun r_4 G_5 H locs hpo hW hS => ?_)
    have hX_8 : P_Wend y_2 G r_4 G_5 := hpo
    obtain ⟨hB_G_5, hq_6, hp_7, -⟩ := hpo
    refine lv_pop hx hb dL_law_276 rfl ?_
    refine lv_aload_n hx hb dL_law_277 rfl (lv_at hl 2 rfl) ?_
    refine lv_aload_n hx hb dL_law_278 rfl (lv_at hl 0 rfl) ?_
    refine lv_iload_n hx hb dL_law_279 rfl (lv_at hl 3 rfl) ?_
    refine lv_iconst (v := 1) hx hb dL_law_280 (by decide) ?_
    refine lv_iadd hx hb dL_law_281 ?_
    refine lv_topi (fun y_9 ey_9 => ?_)
    have ty_9 : y_9.toInt = i0.toInt + 1 := xI_add rfl rfl ey_9 (by omega) (by omega)
    refine va_sld hx hb hX hbl hbA hS (vin (by omega) (by omega)) dL_law_282 ?_
    refine lv_topi (fun y_10 ey_10 => ?_)
    have u_11 : y_10.toInt = (xs (i0 + 1).toNatClampNeg).toInt := by rw [ey_10, ey_9]
    have b_12 : 0 ≤ (G.1 66 1).toInt ∧ (G.1 66 1).toInt ≤ 1600 := hB_G.i 66 1 rfl rfl
    have g_13 : (G_5.1 66 1).toInt = (G.1 66 1).toInt := by rw [show G_5.1 66 1 = (G.1 66 1) from (hq_6.i 66 1 (by decide) (by decide))]
    refine S_calli (va_runV (As := [.int y_10]) (rest := []) ⟨hx, hb, hml, hown, hts⟩ (n_end l D k A a z G_5 y_10 ) (cwV 1 hts (gd_V hgd m1590 m1591 m1592 m131 m1593) rfl rfl rfl (by decide +kernel) ⟨Nat.le_of_ble_eq_true rfl, Nat.le_of_ble_eq_true rfl⟩) (pre_V hW hB_G_5 hK hZ hS kd_66 rfl) rfl rfl hl.1 rfl (lv_room (Nat.le_of_ble_eq_true rfl)) dL_law_283 ⟨Nat.le_of_ble_eq_true rfl, Nat.le_of_ble_eq_true rfl⟩) hS (fun r_14 G_15 H locs hpo hW hS => ?_)
    have hX_18 : Q_end y_10 G_5 r_14 G_15 := hpo
    obtain ⟨hB_G_15, hq_16, hp_17, -⟩ := hpo
    refine lv_pop hx hb dL_law_286 rfl ?_
    refine lv_goto (tgt := 1641) hx hb dL_law_287 (by decide) ?_
    have g_19 : gIB G_15 = gIB G := gIB_fr (rs := []) (fs := [(0, 11), (66, 1)]) ((Fr.rf.call hq_6 (by decide) (by decide)).call hq_16 (by decide) (by decide)) (by decide) (by decide)
    have g_20 : gO G_15 = gO G := gO_fr (rs := []) (fs := [(0, 11), (66, 1)]) ((Fr.rf.call hq_6 (by decide) (by decide)).call hq_16 (by decide) (by decide)) (by decide) (by decide)
    have g_21 : gP G_15 = gP G := gP_fr (rs := []) (fs := [(0, 11), (66, 1)]) ((Fr.rf.call hq_6 (by decide) (by decide)).call hq_16 (by decide) (by decide)) (by decide) (by decide)
    have g_22 : gS G_15 = gS G := gS_fr (rs := []) (fs := [(0, 11), (66, 1)]) ((Fr.rf.call hq_6 (by decide) (by decide)).call hq_16 (by decide) (by decide)) (by decide) (by decide)
    have g_23 : gTE G_15 = gTE G := gTE_fr (rs := []) (fs := [(0, 11), (66, 1)]) ((Fr.rf.call hq_6 (by decide) (by decide)).call hq_16 (by decide) (by decide)) (by decide) (by decide)
    have g_24 : gW G_15 = gW G := gW_fr (rs := []) (fs := [(0, 11), (66, 1)]) ((Fr.rf.call hq_6 (by decide) (by decide)).call hq_16 (by decide) (by decide)) (by decide) (by decide)
    have b_25 : 0 ≤ (G_5.1 0 11).toInt ∧ (G_5.1 0 11).toInt ≤ 1600 := hB_G_5.i 0 11 rfl rfl
    have g_26 : (G_15.1 0 11).toInt = (G_5.1 0 11).toInt := by rw [show G_15.1 0 11 = (G_5.1 0 11) from (hq_16.i 0 11 (by decide) (by decide))]
    have b_27 : 0 ≤ (G.1 3 7).toInt ∧ (G.1 3 7).toInt ≤ 4 := hB_G.i 3 7 rfl rfl
    have g_28 : (G_15.1 3 7).toInt = (G.1 3 7).toInt := by rw [show G_15.1 3 7 = (G.1 3 7) from ((hq_16.i 3 7 (by decide) (by decide)).trans (hq_6.i 3 7 (by decide) (by decide)))]
    have b_29 : (-1) ≤ (G.1 3 8).toInt ∧ (G.1 3 8).toInt ≤ 1600 := hB_G.i 3 8 rfl rfl
    have g_30 : (G_15.1 3 8).toInt = (G.1 3 8).toInt := by rw [show G_15.1 3 8 = (G.1 3 8) from ((hq_16.i 3 8 (by decide) (by decide)).trans (hq_6.i 3 8 (by decide) (by decide)))]
    have b_31 : 0 ≤ (G.1 30 4).toInt ∧ (G.1 30 4).toInt ≤ 40 := hB_G.i 30 4 rfl rfl
    have g_32 : (G_15.1 30 4).toInt = (G.1 30 4).toInt := by rw [show G_15.1 30 4 = (G.1 30 4) from ((hq_16.i 30 4 (by decide) (by decide)).trans (hq_6.i 30 4 (by decide) (by decide)))]
    have b_33 : 0 ≤ (G.1 30 5).toInt ∧ (G.1 30 5).toInt ≤ 40 := hB_G.i 30 5 rfl rfl
    have g_34 : (G_15.1 30 5).toInt = (G.1 30 5).toInt := by rw [show G_15.1 30 5 = (G.1 30 5) from ((hq_16.i 30 5 (by decide) (by decide)).trans (hq_6.i 30 5 (by decide) (by decide)))]
    have b_35 : 0 ≤ (G.1 31 6).toInt ∧ (G.1 31 6).toInt ≤ 100000 := hB_G.i 31 6 rfl rfl
    have g_36 : (G_15.1 31 6).toInt = (G.1 31 6).toInt := by rw [show G_15.1 31 6 = (G.1 31 6) from ((hq_16.i 31 6 (by decide) (by decide)).trans (hq_6.i 31 6 (by decide) (by decide)))]
    have b_37 : 0 ≤ (G_15.1 66 1).toInt ∧ (G_15.1 66 1).toInt ≤ 1600 := hB_G_15.i 66 1 rfl rfl
    have b_38 : 0 ≤ (G.1 66 2).toInt ∧ (G.1 66 2).toInt ≤ 4 := hB_G.i 66 2 rfl rfl
    have g_39 : (G_15.1 66 2).toInt = (G.1 66 2).toInt := by rw [show G_15.1 66 2 = (G.1 66 2) from ((hq_16.i 66 2 (by decide) (by decide)).trans (hq_6.i 66 2 (by decide) (by decide)))]
    have b_40 : (-1) ≤ (G.1 66 3).toInt ∧ (G.1 66 3).toInt ≤ 1600 := hB_G.i 66 3 rfl rfl
    have g_41 : (G_15.1 66 3).toInt = (G.1 66 3).toInt := by rw [show G_15.1 66 3 = (G.1 66 3) from ((hq_16.i 66 3 (by decide) (by decide)).trans (hq_6.i 66 3 (by decide) (by decide)))]
    have b_42 : 0 ≤ (G.1 66 78).toInt ∧ (G.1 66 78).toInt ≤ 40 := hB_G.i 66 78 rfl rfl
    have g_43 : (G_15.1 66 78).toInt = (G.1 66 78).toInt := by rw [show G_15.1 66 78 = (G.1 66 78) from ((hq_16.i 66 78 (by decide) (by decide)).trans (hq_6.i 66 78 (by decide) (by decide)))]
    have b_44 : 0 ≤ (G.1 66 79).toInt ∧ (G.1 66 79).toInt ≤ 40 := hB_G.i 66 79 rfl rfl
    have g_45 : (G_15.1 66 79).toInt = (G.1 66 79).toInt := by rw [show G_15.1 66 79 = (G.1 66 79) from ((hq_16.i 66 79 (by decide) (by decide)).trans (hq_6.i 66 79 (by decide) (by decide)))]
    have b_46 : 0 ≤ (G.1 66 86).toInt ∧ (G.1 66 86).toInt ≤ 100000 := hB_G.i 66 86 rfl rfl
    have g_47 : (G_15.1 66 86).toInt = (G.1 66 86).toInt := by rw [show G_15.1 66 86 = (G.1 66 86) from ((hq_16.i 66 86 (by decide) (by decide)).trans (hq_6.i 66 86 (by decide) (by decide)))]
    have b_48 : 0 ≤ (G.1 96 0).toInt ∧ (G.1 96 0).toInt ≤ 9 := hB_G.i 96 0 rfl rfl
    have g_49 : (G_15.1 96 0).toInt = (G.1 96 0).toInt := by rw [show G_15.1 96 0 = (G.1 96 0) from ((hq_16.i 96 0 (by decide) (by decide)).trans (hq_6.i 96 0 (by decide) (by decide)))]
    have b_50 : 0 ≤ (G.1 96 1).toInt ∧ (G.1 96 1).toInt ≤ 9 := hB_G.i 96 1 rfl rfl
    have g_51 : (G_15.1 96 1).toInt = (G.1 96 1).toInt := by rw [show G_15.1 96 1 = (G.1 96 1) from ((hq_16.i 96 1 (by decide) (by decide)).trans (hq_6.i 96 1 (by decide) (by decide)))]
    have b_52 : 0 ≤ (G.1 96 2).toInt ∧ (G.1 96 2).toInt ≤ 9 := hB_G.i 96 2 rfl rfl
    have g_53 : (G_15.1 96 2).toInt = (G.1 96 2).toInt := by rw [show G_15.1 96 2 = (G.1 96 2) from ((hq_16.i 96 2 (by decide) (by decide)).trans (hq_6.i 96 2 (by decide) (by decide)))]
    exact K G_15 _ _ _ (Or.inr ⟨((((hq_16.r 0 0 (by decide) (by decide)).trans (hq_6.r 0 0 (by decide) (by decide)))).trans (hv_0_0)), ((((hq_16.r 0 1 (by decide) (by decide)).trans (hq_6.r 0 1 (by decide) (by decide)))).trans (hv_0_1)), ((((hq_16.r 6 4 (by decide) (by decide)).trans (hq_6.r 6 4 (by decide) (by decide)))).trans (hv_6_4)), by omega, by omega, by omega, by omega, by omega, by omega, by omega, by omega, by omega, by omega, by omega, by omega, by omega⟩) hB_G_15 hW hS (lv_sub hl [0, 1, 2, 3] rfl)

set_option maxHeartbeats 4000000 in
set_option maxRecDepth 100000 in
theorem law_2 {p : Program} {l : Launch} {e : Env} {s : State} {m : MethodId} {below : List Frame} {meth : Method} {c : Code} {D : va_G} {k : KT} {A : Nat → Prop} {a : Nat → Nat} {z : SK} {b L : Nat} {xs : Nat → Int32} (hL : L ≤ 3072) (C0 : lw_At p s m meth c b L xs) (hK : cK D k s) (hZ : Sx A z s) (hbA : ¬ A b) {G : GS} {i0 : Int32} (hi0 : 0 ≤ i0.toInt) (hi6 : i0.toInt + 6 ≤ L) (hI : LI G) (hB_G : Bd G) {H : Heap} {locs : List Loc} {ls : Array Slot} (hW : Wd D k A a G H) (hS : va_S A s.heap H locs) (hl : lv_has ls 4 [(0, .ref b), (1, .ref (a 0)), (2, .ref (a 66)), (3, .int i0)]) (K : ∀ (G1 : GS) (H1 : Heap) (locs1 : List Loc) (ls1 : Array Slot), LI G1 → Bd G1 → Wd D k A a G1 H1 → va_S A s.heap H1 locs1 → lv_has ls1 4 [(0, .ref b), (1, .ref (a 0)), (2, .ref (a 66)), (3, .int i0)] → W p l e room_1 s m #[Value.ref b] below meth c H1 locs1 119 46443 (lw_Z below #[Value.ref b] s) (F0 m 1641 ls1 [])) : W p l e room_1 s m #[Value.ref b] below meth c H locs 119 46443 (lw_Z below #[Value.ref b] s) (F0 m 290 ls []) := by
  obtain ⟨hx, hb, hr, hml, hown, hts, hX, hbl, hlocks, hgv⟩ := id C0
  have hown : s.vm.findClass RL = some m.cls := hown
  have hgd : ∀ w ∈ gd, w ∈ lw_tbl := fun w h => (List.mem_filter.mp h).1
  have hg : ∀ w ∈ gd, w.before #[Value.ref b] s = true := fun w h => hts w (hgd w h)
  rcases hI with ⟨hv_0_0, hv_0_1, hv_6_4, hj0, hj1, hj2, hj3, hj4, hj5, hj6, hj7, hj8, hj9, hj10, hj11⟩ | ⟨hv_0_0, hv_0_1, hv_6_4, hj0, hj1, hj2, hj3, hj4, hj5, hj6, hj7, hj8, hj9, hj10, hj11⟩
  · skip
    refine lv_aload_n hx hb dL_law_290 rfl (lv_at hl 1 rfl) ?_
    have b_1 : 0 ≤ (G.1 30 4).toInt ∧ (G.1 30 4).toInt ≤ 40 := hB_G.i 30 4 rfl rfl
    have b_2 : 0 ≤ (G.1 30 5).toInt ∧ (G.1 30 5).toInt ≤ 40 := hB_G.i 30 5 rfl rfl
    refine S_calli (va_runV (As := []) (rest := []) ⟨hx, hb, hml, hown, hts⟩ (k_Wpavement_1 l D k A a z G  hv_0_0 hv_0_1 hv_6_4 (by omega)) (cwV 0 hts (gd_V hgd m622 m623 m624 m117 m625) rfl rfl rfl (by decide +kernel) ⟨Nat.le_of_ble_eq_true rfl, Nat.le_of_ble_eq_true rfl⟩) (pre_V hW hB_G hK hZ hS kd_0 rfl) rfl rfl hl.1 rfl (lv_room (Nat.le_of_ble_eq_true rfl)) dL_law_291 ⟨Nat.le_of_ble_eq_true rfl, Nat.le_of_ble_eq_true rfl⟩) hS (fun r_3 G_4 H locs hpo hW hS => ?_)
    have hX_7 : P_Wpavement_1 G r_3 G_4 := hpo
    obtain ⟨hB_G_4, hq_5, hp_6, -⟩ := hpo
    refine lv_pop hx hb dL_law_294 rfl ?_
    refine lv_aload_n hx hb dL_law_295 rfl (lv_at hl 2 rfl) ?_
    have g_8 : gP G_4 = gP G := gP_fr (rs := [20, 21, 22, 23, 24, 25, 26, 27, 28, 34, 35, 36, 38, 58, 59]) (fs := [(0, 0), (0, 1), (0, 11), (0, 12), (2, 9), (2, 10), (2, 11), (2, 12), (2, 13), (2, 14), (2, 15), (2, 16), (3, 1), (3, 2), (3, 3), (3, 4), (3, 5), (3, 6), (3, 7), (3, 8), (4, 1), (4, 2), (5, 5), (5, 6), (5, 7), (5, 8), (5, 9), (6, 4), (30, 3), (30, 4), (30, 5), (31, 5)]) (Fr.rf.call hq_5 (by decide) (by decide)) (by decide) (by decide)
    have g_9 : gW G_4 = gW G := gW_fr (rs := [20, 21, 22, 23, 24, 25, 26, 27, 28, 34, 35, 36, 38, 58, 59]) (fs := [(0, 0), (0, 1), (0, 11), (0, 12), (2, 9), (2, 10), (2, 11), (2, 12), (2, 13), (2, 14), (2, 15), (2, 16), (3, 1), (3, 2), (3, 3), (3, 4), (3, 5), (3, 6), (3, 7), (3, 8), (4, 1), (4, 2), (5, 5), (5, 6), (5, 7), (5, 8), (5, 9), (6, 4), (30, 3), (30, 4), (30, 5), (31, 5)]) (Fr.rf.call hq_5 (by decide) (by decide)) (by decide) (by decide)
    have g_10 : gS G_4 = gS G := gS_fr (rs := [20, 21, 22, 23, 24, 25, 26, 27, 28, 34, 35, 36, 38, 58, 59]) (fs := [(0, 0), (0, 1), (0, 11), (0, 12), (2, 9), (2, 10), (2, 11), (2, 12), (2, 13), (2, 14), (2, 15), (2, 16), (3, 1), (3, 2), (3, 3), (3, 4), (3, 5), (3, 6), (3, 7), (3, 8), (4, 1), (4, 2), (5, 5), (5, 6), (5, 7), (5, 8), (5, 9), (6, 4), (30, 3), (30, 4), (30, 5), (31, 5)]) (Fr.rf.call hq_5 (by decide) (by decide)) (by decide) (by decide)
    have b_11 : 0 ≤ (G.1 66 78).toInt ∧ (G.1 66 78).toInt ≤ 40 := hB_G.i 66 78 rfl rfl
    have g_12 : (G_4.1 66 78).toInt = (G.1 66 78).toInt := by rw [show G_4.1 66 78 = (G.1 66 78) from (hq_5.i 66 78 (by decide) (by decide))]
    have b_13 : 0 ≤ (G.1 66 79).toInt ∧ (G.1 66 79).toInt ≤ 40 := hB_G.i 66 79 rfl rfl
    have g_14 : (G_4.1 66 79).toInt = (G.1 66 79).toInt := by rw [show G_4.1 66 79 = (G.1 66 79) from (hq_5.i 66 79 (by decide) (by decide))]
    have b_15 : 0 ≤ (G.1 96 0).toInt ∧ (G.1 96 0).toInt ≤ 9 := hB_G.i 96 0 rfl rfl
    have g_16 : (G_4.1 96 0).toInt = (G.1 96 0).toInt := by rw [show G_4.1 96 0 = (G.1 96 0) from (hq_5.i 96 0 (by decide) (by decide))]
    have b_17 : 0 ≤ (G.1 96 1).toInt ∧ (G.1 96 1).toInt ≤ 9 := hB_G.i 96 1 rfl rfl
    have g_18 : (G_4.1 96 1).toInt = (G.1 96 1).toInt := by rw [show G_4.1 96 1 = (G.1 96 1) from (hq_5.i 96 1 (by decide) (by decide))]
    have b_19 : 0 ≤ (G.1 96 2).toInt ∧ (G.1 96 2).toInt ≤ 9 := hB_G.i 96 2 rfl rfl
    have g_20 : (G_4.1 96 2).toInt = (G.1 96 2).toInt := by rw [show G_4.1 96 2 = (G.1 96 2) from (hq_5.i 96 2 (by decide) (by decide))]
    refine S_calli (va_runV (As := []) (rest := []) ⟨hx, hb, hml, hown, hts⟩ (n_pavement l D k A a z G_4  (by omega) (by omega) (by omega) (by omega) (by omega)) (cwV 0 hts (gd_V hgd m1594 m1595 m1596 m131 m1597) rfl rfl rfl (by decide +kernel) ⟨Nat.le_of_ble_eq_true rfl, Nat.le_of_ble_eq_true rfl⟩) (pre_V hW hB_G_4 hK hZ hS kd_66 rfl) rfl rfl hl.1 rfl (lv_room (Nat.le_of_ble_eq_true rfl)) dL_law_296 ⟨Nat.le_of_ble_eq_true rfl, Nat.le_of_ble_eq_true rfl⟩) hS (fun r_21 G_22 H locs hpo hW hS => ?_)
    have hX_25 : Q_pavement G_4 r_21 G_22 := hpo
    obtain ⟨hB_G_22, hq_23, hp_24, -⟩ := hpo
    obtain ⟨u_26, u_27, u_28, u_29, hg_1, hg_2⟩ := L_pavement_1 hX_7 hX_25 (by omega) (by omega) (hB_G.i 0 11 (lo := 0) (hi := 1600) rfl rfl).1 (hB_G.i 0 11 (lo := 0) (hi := 1600) rfl rfl).2 hv_0_0 (by omega)
    have v_30 : gTE G_22 = 1 := u_29
    refine lv_pop hx hb dL_law_299 rfl ?_
    refine lv_goto (tgt := 1641) hx hb dL_law_300 (by decide) ?_
    have g_31 : gO G_22 = gO G := gO_fr (rs := [20, 21, 22, 23, 24, 25, 26, 27, 28, 34, 35, 36, 38, 58, 59, 68, 69, 70, 71, 72, 73, 74, 75, 77, 78, 79, 80, 81, 82, 83, 84, 85, 86, 87, 88, 89, 90, 91, 92, 93, 94, 95, 96, 110, 117]) (fs := [(0, 0), (0, 1), (0, 11), (0, 12), (2, 9), (2, 10), (2, 11), (2, 12), (2, 13), (2, 14), (2, 15), (2, 16), (3, 1), (3, 2), (3, 3), (3, 4), (3, 5), (3, 6), (3, 7), (3, 8), (4, 1), (4, 2), (5, 5), (5, 6), (5, 7), (5, 8), (5, 9), (6, 4), (30, 3), (30, 4), (30, 5), (31, 5), (66, 1), (66, 2), (66, 3), (66, 4), (66, 5), (66, 6), (66, 7), (66, 8), (66, 9), (66, 19), (66, 20), (66, 21), (66, 22), (66, 23), (66, 24), (66, 45), (66, 46), (66, 47), (66, 48), (66, 49), (66, 50), (66, 51), (66, 52), (66, 53), (66, 54), (66, 55), (66, 56), (66, 66), (66, 78), (66, 79), (66, 85)]) ((Fr.rf.call hq_5 (by decide) (by decide)).call hq_23 (by decide) (by decide)) (by decide) (by decide)
    have g_32 : gTE G_22 = gTE G := gTE_fr (rs := [20, 21, 22, 23, 24, 25, 26, 27, 28, 34, 35, 36, 38, 58, 59, 68, 69, 70, 71, 72, 73, 74, 75, 77, 78, 79, 80, 81, 82, 83, 84, 85, 86, 87, 88, 89, 90, 91, 92, 93, 94, 95, 96, 110, 117]) (fs := [(0, 0), (0, 1), (0, 11), (0, 12), (2, 9), (2, 10), (2, 11), (2, 12), (2, 13), (2, 14), (2, 15), (2, 16), (3, 1), (3, 2), (3, 3), (3, 4), (3, 5), (3, 6), (3, 7), (3, 8), (4, 1), (4, 2), (5, 5), (5, 6), (5, 7), (5, 8), (5, 9), (6, 4), (30, 3), (30, 4), (30, 5), (31, 5), (66, 1), (66, 2), (66, 3), (66, 4), (66, 5), (66, 6), (66, 7), (66, 8), (66, 9), (66, 19), (66, 20), (66, 21), (66, 22), (66, 23), (66, 24), (66, 45), (66, 46), (66, 47), (66, 48), (66, 49), (66, 50), (66, 51), (66, 52), (66, 53), (66, 54), (66, 55), (66, 56), (66, 66), (66, 78), (66, 79), (66, 85)]) ((Fr.rf.call hq_5 (by decide) (by decide)).call hq_23 (by decide) (by decide)) (by decide) (by decide)
    have b_33 : 0 ≤ (G_4.1 0 11).toInt ∧ (G_4.1 0 11).toInt ≤ 1600 := hB_G_4.i 0 11 rfl rfl
    have g_34 : (G_22.1 0 11).toInt = (G_4.1 0 11).toInt := by rw [show G_22.1 0 11 = (G_4.1 0 11) from (hq_23.i 0 11 (by decide) (by decide))]
    have b_35 : 0 ≤ (G_4.1 3 7).toInt ∧ (G_4.1 3 7).toInt ≤ 4 := hB_G_4.i 3 7 rfl rfl
    have g_36 : (G_22.1 3 7).toInt = (G_4.1 3 7).toInt := by rw [show G_22.1 3 7 = (G_4.1 3 7) from (hq_23.i 3 7 (by decide) (by decide))]
    have b_37 : (-1) ≤ (G_4.1 3 8).toInt ∧ (G_4.1 3 8).toInt ≤ 1600 := hB_G_4.i 3 8 rfl rfl
    have g_38 : (G_22.1 3 8).toInt = (G_4.1 3 8).toInt := by rw [show G_22.1 3 8 = (G_4.1 3 8) from (hq_23.i 3 8 (by decide) (by decide))]
    have b_39 : 0 ≤ (G_4.1 30 4).toInt ∧ (G_4.1 30 4).toInt ≤ 40 := hB_G_4.i 30 4 rfl rfl
    have g_40 : (G_22.1 30 4).toInt = (G_4.1 30 4).toInt := by rw [show G_22.1 30 4 = (G_4.1 30 4) from (hq_23.i 30 4 (by decide) (by decide))]
    have b_41 : 0 ≤ (G_4.1 30 5).toInt ∧ (G_4.1 30 5).toInt ≤ 40 := hB_G_4.i 30 5 rfl rfl
    have g_42 : (G_22.1 30 5).toInt = (G_4.1 30 5).toInt := by rw [show G_22.1 30 5 = (G_4.1 30 5) from (hq_23.i 30 5 (by decide) (by decide))]
    have b_43 : 0 ≤ (G.1 31 6).toInt ∧ (G.1 31 6).toInt ≤ 100000 := hB_G.i 31 6 rfl rfl
    have g_44 : (G_22.1 31 6).toInt = (G.1 31 6).toInt := by rw [show G_22.1 31 6 = (G.1 31 6) from ((hq_23.i 31 6 (by decide) (by decide)).trans (hq_5.i 31 6 (by decide) (by decide)))]
    have b_45 : 0 ≤ (G_22.1 66 1).toInt ∧ (G_22.1 66 1).toInt ≤ 1600 := hB_G_22.i 66 1 rfl rfl
    have b_46 : 0 ≤ (G_22.1 66 2).toInt ∧ (G_22.1 66 2).toInt ≤ 4 := hB_G_22.i 66 2 rfl rfl
    have b_47 : (-1) ≤ (G_22.1 66 3).toInt ∧ (G_22.1 66 3).toInt ≤ 1600 := hB_G_22.i 66 3 rfl rfl
    have b_48 : 0 ≤ (G_22.1 66 78).toInt ∧ (G_22.1 66 78).toInt ≤ 40 := hB_G_22.i 66 78 rfl rfl
    have b_49 : 0 ≤ (G_22.1 66 79).toInt ∧ (G_22.1 66 79).toInt ≤ 40 := hB_G_22.i 66 79 rfl rfl
    have b_50 : 0 ≤ (G.1 66 86).toInt ∧ (G.1 66 86).toInt ≤ 100000 := hB_G.i 66 86 rfl rfl
    have g_51 : (G_22.1 66 86).toInt = (G.1 66 86).toInt := by rw [show G_22.1 66 86 = (G.1 66 86) from ((hq_23.i 66 86 (by decide) (by decide)).trans (hq_5.i 66 86 (by decide) (by decide)))]
    have b_52 : 0 ≤ (G_22.1 96 0).toInt ∧ (G_22.1 96 0).toInt ≤ 9 := hB_G_22.i 96 0 rfl rfl
    have b_53 : 0 ≤ (G_22.1 96 1).toInt ∧ (G_22.1 96 1).toInt ≤ 9 := hB_G_22.i 96 1 rfl rfl
    have b_54 : 0 ≤ (G_22.1 96 2).toInt ∧ (G_22.1 96 2).toInt ≤ 9 := hB_G_22.i 96 2 rfl rfl
    rcases hp_6.2.2 with ⟨q1, q2, q3⟩ | ⟨q1, q2, q3⟩
    · have hg9 := hg_1 ((((hq_23.r 0 0 (by decide) (by decide))).trans (q1)))
      exact K G_22 _ _ _ (Or.inl ⟨((((hq_23.r 0 0 (by decide) (by decide))).trans (q1))), ((((hq_23.r 0 1 (by decide) (by decide))).trans (q2))), ((((hq_23.r 6 4 (by decide) (by decide))).trans (q3))), by omega, by omega, by omega, by omega, by omega, by omega, by omega, by omega, by omega, by omega, by omega, by omega, by omega⟩) hB_G_22 hW hS (lv_sub hl [0, 1, 2, 3] rfl)
    · have hg9 := hg_2 ((((hq_23.r 0 0 (by decide) (by decide))).trans (q1)))
      exact K G_22 _ _ _ (Or.inr ⟨((((hq_23.r 0 0 (by decide) (by decide))).trans (q1))), ((((hq_23.r 0 1 (by decide) (by decide))).trans (q2))), ((((hq_23.r 6 4 (by decide) (by decide))).trans (q3))), by omega, by omega, by omega, by omega, by omega, by omega, by omega, by omega, by omega, by omega, by omega, by omega, by omega⟩) hB_G_22 hW hS (lv_sub hl [0, 1, 2, 3] rfl)
  · skip
    refine lv_aload_n hx hb dL_law_290 rfl (lv_at hl 1 rfl) ?_
    have b_1 : 0 ≤ (G.1 30 4).toInt ∧ (G.1 30 4).toInt ≤ 40 := hB_G.i 30 4 rfl rfl
    have b_2 : 0 ≤ (G.1 30 5).toInt ∧ (G.1 30 5).toInt ≤ 40 := hB_G.i 30 5 rfl rfl
    refine S_calli (va_runV (As := []) (rest := []) ⟨hx, hb, hml, hown, hts⟩ (k_Wpavement_2 l D k A a z G  hv_0_0 hv_0_1 hv_6_4 (by omega)) (cwV 0 hts (gd_V hgd m622 m623 m624 m117 m625) rfl rfl rfl (by decide +kernel) ⟨Nat.le_of_ble_eq_true rfl, Nat.le_of_ble_eq_true rfl⟩) (pre_V hW hB_G hK hZ hS kd_0 rfl) rfl rfl hl.1 rfl (lv_room (Nat.le_of_ble_eq_true rfl)) dL_law_291 ⟨Nat.le_of_ble_eq_true rfl, Nat.le_of_ble_eq_true rfl⟩) hS (fun r_3 G_4 H locs hpo hW hS => ?_)
    have hX_7 : P_Wpavement_2 G r_3 G_4 := hpo
    obtain ⟨hB_G_4, hq_5, hp_6, -⟩ := hpo
    refine lv_pop hx hb dL_law_294 rfl ?_
    refine lv_aload_n hx hb dL_law_295 rfl (lv_at hl 2 rfl) ?_
    have g_8 : gP G_4 = gP G := gP_fr (rs := [10, 11, 12, 13, 14, 15, 16, 17, 18, 34, 35, 36, 38, 58, 59]) (fs := [(0, 0), (0, 1), (0, 11), (0, 12), (1, 9), (1, 10), (1, 11), (1, 12), (1, 13), (1, 14), (1, 15), (1, 16), (3, 1), (3, 2), (3, 3), (3, 4), (3, 5), (3, 6), (3, 7), (3, 8), (4, 1), (4, 2), (5, 5), (5, 6), (5, 7), (5, 8), (5, 9), (6, 4), (30, 3), (30, 4), (30, 5), (31, 5)]) (Fr.rf.call hq_5 (by decide) (by decide)) (by decide) (by decide)
    have g_9 : gW G_4 = gW G := gW_fr (rs := [10, 11, 12, 13, 14, 15, 16, 17, 18, 34, 35, 36, 38, 58, 59]) (fs := [(0, 0), (0, 1), (0, 11), (0, 12), (1, 9), (1, 10), (1, 11), (1, 12), (1, 13), (1, 14), (1, 15), (1, 16), (3, 1), (3, 2), (3, 3), (3, 4), (3, 5), (3, 6), (3, 7), (3, 8), (4, 1), (4, 2), (5, 5), (5, 6), (5, 7), (5, 8), (5, 9), (6, 4), (30, 3), (30, 4), (30, 5), (31, 5)]) (Fr.rf.call hq_5 (by decide) (by decide)) (by decide) (by decide)
    have g_10 : gS G_4 = gS G := gS_fr (rs := [10, 11, 12, 13, 14, 15, 16, 17, 18, 34, 35, 36, 38, 58, 59]) (fs := [(0, 0), (0, 1), (0, 11), (0, 12), (1, 9), (1, 10), (1, 11), (1, 12), (1, 13), (1, 14), (1, 15), (1, 16), (3, 1), (3, 2), (3, 3), (3, 4), (3, 5), (3, 6), (3, 7), (3, 8), (4, 1), (4, 2), (5, 5), (5, 6), (5, 7), (5, 8), (5, 9), (6, 4), (30, 3), (30, 4), (30, 5), (31, 5)]) (Fr.rf.call hq_5 (by decide) (by decide)) (by decide) (by decide)
    have b_11 : 0 ≤ (G.1 66 78).toInt ∧ (G.1 66 78).toInt ≤ 40 := hB_G.i 66 78 rfl rfl
    have g_12 : (G_4.1 66 78).toInt = (G.1 66 78).toInt := by rw [show G_4.1 66 78 = (G.1 66 78) from (hq_5.i 66 78 (by decide) (by decide))]
    have b_13 : 0 ≤ (G.1 66 79).toInt ∧ (G.1 66 79).toInt ≤ 40 := hB_G.i 66 79 rfl rfl
    have g_14 : (G_4.1 66 79).toInt = (G.1 66 79).toInt := by rw [show G_4.1 66 79 = (G.1 66 79) from (hq_5.i 66 79 (by decide) (by decide))]
    have b_15 : 0 ≤ (G.1 96 0).toInt ∧ (G.1 96 0).toInt ≤ 9 := hB_G.i 96 0 rfl rfl
    have g_16 : (G_4.1 96 0).toInt = (G.1 96 0).toInt := by rw [show G_4.1 96 0 = (G.1 96 0) from (hq_5.i 96 0 (by decide) (by decide))]
    have b_17 : 0 ≤ (G.1 96 1).toInt ∧ (G.1 96 1).toInt ≤ 9 := hB_G.i 96 1 rfl rfl
    have g_18 : (G_4.1 96 1).toInt = (G.1 96 1).toInt := by rw [show G_4.1 96 1 = (G.1 96 1) from (hq_5.i 96 1 (by decide) (by decide))]
    have b_19 : 0 ≤ (G.1 96 2).toInt ∧ (G.1 96 2).toInt ≤ 9 := hB_G.i 96 2 rfl rfl
    have g_20 : (G_4.1 96 2).toInt = (G.1 96 2).toInt := by rw [show G_4.1 96 2 = (G.1 96 2) from (hq_5.i 96 2 (by decide) (by decide))]
    refine S_calli (va_runV (As := []) (rest := []) ⟨hx, hb, hml, hown, hts⟩ (n_pavement l D k A a z G_4  (by omega) (by omega) (by omega) (by omega) (by omega)) (cwV 0 hts (gd_V hgd m1594 m1595 m1596 m131 m1597) rfl rfl rfl (by decide +kernel) ⟨Nat.le_of_ble_eq_true rfl, Nat.le_of_ble_eq_true rfl⟩) (pre_V hW hB_G_4 hK hZ hS kd_66 rfl) rfl rfl hl.1 rfl (lv_room (Nat.le_of_ble_eq_true rfl)) dL_law_296 ⟨Nat.le_of_ble_eq_true rfl, Nat.le_of_ble_eq_true rfl⟩) hS (fun r_21 G_22 H locs hpo hW hS => ?_)
    have hX_25 : Q_pavement G_4 r_21 G_22 := hpo
    obtain ⟨hB_G_22, hq_23, hp_24, -⟩ := hpo
    obtain ⟨u_26, u_27, u_28, u_29, hg_1, hg_2⟩ := L_pavement_2 hX_7 hX_25 (by omega) (by omega) (hB_G.i 0 11 (lo := 0) (hi := 1600) rfl rfl).1 (hB_G.i 0 11 (lo := 0) (hi := 1600) rfl rfl).2 hv_0_0 (by omega)
    have v_30 : gTE G_22 = 1 := u_29
    refine lv_pop hx hb dL_law_299 rfl ?_
    refine lv_goto (tgt := 1641) hx hb dL_law_300 (by decide) ?_
    have g_31 : gO G_22 = gO G := gO_fr (rs := [10, 11, 12, 13, 14, 15, 16, 17, 18, 34, 35, 36, 38, 58, 59, 68, 69, 70, 71, 72, 73, 74, 75, 77, 78, 79, 80, 81, 82, 83, 84, 85, 86, 87, 88, 89, 90, 91, 92, 93, 94, 95, 96, 110, 117]) (fs := [(0, 0), (0, 1), (0, 11), (0, 12), (1, 9), (1, 10), (1, 11), (1, 12), (1, 13), (1, 14), (1, 15), (1, 16), (3, 1), (3, 2), (3, 3), (3, 4), (3, 5), (3, 6), (3, 7), (3, 8), (4, 1), (4, 2), (5, 5), (5, 6), (5, 7), (5, 8), (5, 9), (6, 4), (30, 3), (30, 4), (30, 5), (31, 5), (66, 1), (66, 2), (66, 3), (66, 4), (66, 5), (66, 6), (66, 7), (66, 8), (66, 9), (66, 19), (66, 20), (66, 21), (66, 22), (66, 23), (66, 24), (66, 45), (66, 46), (66, 47), (66, 48), (66, 49), (66, 50), (66, 51), (66, 52), (66, 53), (66, 54), (66, 55), (66, 56), (66, 66), (66, 78), (66, 79), (66, 85)]) ((Fr.rf.call hq_5 (by decide) (by decide)).call hq_23 (by decide) (by decide)) (by decide) (by decide)
    have g_32 : gTE G_22 = gTE G := gTE_fr (rs := [10, 11, 12, 13, 14, 15, 16, 17, 18, 34, 35, 36, 38, 58, 59, 68, 69, 70, 71, 72, 73, 74, 75, 77, 78, 79, 80, 81, 82, 83, 84, 85, 86, 87, 88, 89, 90, 91, 92, 93, 94, 95, 96, 110, 117]) (fs := [(0, 0), (0, 1), (0, 11), (0, 12), (1, 9), (1, 10), (1, 11), (1, 12), (1, 13), (1, 14), (1, 15), (1, 16), (3, 1), (3, 2), (3, 3), (3, 4), (3, 5), (3, 6), (3, 7), (3, 8), (4, 1), (4, 2), (5, 5), (5, 6), (5, 7), (5, 8), (5, 9), (6, 4), (30, 3), (30, 4), (30, 5), (31, 5), (66, 1), (66, 2), (66, 3), (66, 4), (66, 5), (66, 6), (66, 7), (66, 8), (66, 9), (66, 19), (66, 20), (66, 21), (66, 22), (66, 23), (66, 24), (66, 45), (66, 46), (66, 47), (66, 48), (66, 49), (66, 50), (66, 51), (66, 52), (66, 53), (66, 54), (66, 55), (66, 56), (66, 66), (66, 78), (66, 79), (66, 85)]) ((Fr.rf.call hq_5 (by decide) (by decide)).call hq_23 (by decide) (by decide)) (by decide) (by decide)
    have b_33 : 0 ≤ (G_4.1 0 11).toInt ∧ (G_4.1 0 11).toInt ≤ 1600 := hB_G_4.i 0 11 rfl rfl
    have g_34 : (G_22.1 0 11).toInt = (G_4.1 0 11).toInt := by rw [show G_22.1 0 11 = (G_4.1 0 11) from (hq_23.i 0 11 (by decide) (by decide))]
    have b_35 : 0 ≤ (G_4.1 3 7).toInt ∧ (G_4.1 3 7).toInt ≤ 4 := hB_G_4.i 3 7 rfl rfl
    have g_36 : (G_22.1 3 7).toInt = (G_4.1 3 7).toInt := by rw [show G_22.1 3 7 = (G_4.1 3 7) from (hq_23.i 3 7 (by decide) (by decide))]
    have b_37 : (-1) ≤ (G_4.1 3 8).toInt ∧ (G_4.1 3 8).toInt ≤ 1600 := hB_G_4.i 3 8 rfl rfl
    have g_38 : (G_22.1 3 8).toInt = (G_4.1 3 8).toInt := by rw [show G_22.1 3 8 = (G_4.1 3 8) from (hq_23.i 3 8 (by decide) (by decide))]
    have b_39 : 0 ≤ (G_4.1 30 4).toInt ∧ (G_4.1 30 4).toInt ≤ 40 := hB_G_4.i 30 4 rfl rfl
    have g_40 : (G_22.1 30 4).toInt = (G_4.1 30 4).toInt := by rw [show G_22.1 30 4 = (G_4.1 30 4) from (hq_23.i 30 4 (by decide) (by decide))]
    have b_41 : 0 ≤ (G_4.1 30 5).toInt ∧ (G_4.1 30 5).toInt ≤ 40 := hB_G_4.i 30 5 rfl rfl
    have g_42 : (G_22.1 30 5).toInt = (G_4.1 30 5).toInt := by rw [show G_22.1 30 5 = (G_4.1 30 5) from (hq_23.i 30 5 (by decide) (by decide))]
    have b_43 : 0 ≤ (G.1 31 6).toInt ∧ (G.1 31 6).toInt ≤ 100000 := hB_G.i 31 6 rfl rfl
    have g_44 : (G_22.1 31 6).toInt = (G.1 31 6).toInt := by rw [show G_22.1 31 6 = (G.1 31 6) from ((hq_23.i 31 6 (by decide) (by decide)).trans (hq_5.i 31 6 (by decide) (by decide)))]
    have b_45 : 0 ≤ (G_22.1 66 1).toInt ∧ (G_22.1 66 1).toInt ≤ 1600 := hB_G_22.i 66 1 rfl rfl
    have b_46 : 0 ≤ (G_22.1 66 2).toInt ∧ (G_22.1 66 2).toInt ≤ 4 := hB_G_22.i 66 2 rfl rfl
    have b_47 : (-1) ≤ (G_22.1 66 3).toInt ∧ (G_22.1 66 3).toInt ≤ 1600 := hB_G_22.i 66 3 rfl rfl
    have b_48 : 0 ≤ (G_22.1 66 78).toInt ∧ (G_22.1 66 78).toInt ≤ 40 := hB_G_22.i 66 78 rfl rfl
    have b_49 : 0 ≤ (G_22.1 66 79).toInt ∧ (G_22.1 66 79).toInt ≤ 40 := hB_G_22.i 66 79 rfl rfl
    have b_50 : 0 ≤ (G.1 66 86).toInt ∧ (G.1 66 86).toInt ≤ 100000 := hB_G.i 66 86 rfl rfl
    have g_51 : (G_22.1 66 86).toInt = (G.1 66 86).toInt := by rw [show G_22.1 66 86 = (G.1 66 86) from ((hq_23.i 66 86 (by decide) (by decide)).trans (hq_5.i 66 86 (by decide) (by decide)))]
    have b_52 : 0 ≤ (G_22.1 96 0).toInt ∧ (G_22.1 96 0).toInt ≤ 9 := hB_G_22.i 96 0 rfl rfl
    have b_53 : 0 ≤ (G_22.1 96 1).toInt ∧ (G_22.1 96 1).toInt ≤ 9 := hB_G_22.i 96 1 rfl rfl
    have b_54 : 0 ≤ (G_22.1 96 2).toInt ∧ (G_22.1 96 2).toInt ≤ 9 := hB_G_22.i 96 2 rfl rfl
    rcases hp_6.2.2 with ⟨q1, q2, q3⟩ | ⟨q1, q2, q3⟩
    · have hg9 := hg_2 ((((hq_23.r 0 0 (by decide) (by decide))).trans (q1)))
      exact K G_22 _ _ _ (Or.inr ⟨((((hq_23.r 0 0 (by decide) (by decide))).trans (q1))), ((((hq_23.r 0 1 (by decide) (by decide))).trans (q2))), ((((hq_23.r 6 4 (by decide) (by decide))).trans (q3))), by omega, by omega, by omega, by omega, by omega, by omega, by omega, by omega, by omega, by omega, by omega, by omega, by omega⟩) hB_G_22 hW hS (lv_sub hl [0, 1, 2, 3] rfl)
    · have hg9 := hg_1 ((((hq_23.r 0 0 (by decide) (by decide))).trans (q1)))
      exact K G_22 _ _ _ (Or.inl ⟨((((hq_23.r 0 0 (by decide) (by decide))).trans (q1))), ((((hq_23.r 0 1 (by decide) (by decide))).trans (q2))), ((((hq_23.r 6 4 (by decide) (by decide))).trans (q3))), by omega, by omega, by omega, by omega, by omega, by omega, by omega, by omega, by omega, by omega, by omega, by omega, by omega⟩) hB_G_22 hW hS (lv_sub hl [0, 1, 2, 3] rfl)

set_option maxHeartbeats 4000000 in
set_option maxRecDepth 100000 in
theorem law_3 {p : Program} {l : Launch} {e : Env} {s : State} {m : MethodId} {below : List Frame} {meth : Method} {c : Code} {D : va_G} {k : KT} {A : Nat → Prop} {a : Nat → Nat} {z : SK} {b L : Nat} {xs : Nat → Int32} (hL : L ≤ 3072) (C0 : lw_At p s m meth c b L xs) (hK : cK D k s) (hZ : Sx A z s) (hbA : ¬ A b) {G : GS} {i0 : Int32} (hi0 : 0 ≤ i0.toInt) (hi6 : i0.toInt + 6 ≤ L) (hI : LI G) (hB_G : Bd G) {H : Heap} {locs : List Loc} {ls : Array Slot} (hW : Wd D k A a G H) (hS : va_S A s.heap H locs) (hl : lv_has ls 4 [(0, .ref b), (1, .ref (a 0)), (2, .ref (a 66)), (3, .int i0)]) (K : ∀ (G1 : GS) (H1 : Heap) (locs1 : List Loc) (ls1 : Array Slot), LI G1 → Bd G1 → Wd D k A a G1 H1 → va_S A s.heap H1 locs1 → lv_has ls1 4 [(0, .ref b), (1, .ref (a 0)), (2, .ref (a 66)), (3, .int i0)] → W p l e room_1 s m #[Value.ref b] below meth c H1 locs1 119 46443 (lw_Z below #[Value.ref b] s) (F0 m 1641 ls1 [])) : W p l e room_1 s m #[Value.ref b] below meth c H locs 119 46443 (lw_Z below #[Value.ref b] s) (F0 m 303 ls []) := by
  obtain ⟨hx, hb, hr, hml, hown, hts, hX, hbl, hlocks, hgv⟩ := id C0
  have hown : s.vm.findClass RL = some m.cls := hown
  have hgd : ∀ w ∈ gd, w ∈ lw_tbl := fun w h => (List.mem_filter.mp h).1
  have hg : ∀ w ∈ gd, w.before #[Value.ref b] s = true := fun w h => hts w (hgd w h)
  rcases hI with ⟨hv_0_0, hv_0_1, hv_6_4, hj0, hj1, hj2, hj3, hj4, hj5, hj6, hj7, hj8, hj9, hj10, hj11⟩ | ⟨hv_0_0, hv_0_1, hv_6_4, hj0, hj1, hj2, hj3, hj4, hj5, hj6, hj7, hj8, hj9, hj10, hj11⟩
  · skip
    refine lv_aload_n hx hb dL_law_303 rfl (lv_at hl 1 rfl) ?_
    refine lv_aload_n hx hb dL_law_304 rfl (lv_at hl 0 rfl) ?_
    refine lv_iload_n hx hb dL_law_305 rfl (lv_at hl 3 rfl) ?_
    refine lv_iconst (v := 1) hx hb dL_law_306 (by decide) ?_
    refine lv_iadd hx hb dL_law_307 ?_
    refine lv_topi (fun y_1 ey_1 => ?_)
    have ty_1 : y_1.toInt = i0.toInt + 1 := xI_add rfl rfl ey_1 (by omega) (by omega)
    refine va_sld hx hb hX hbl hbA hS (vin (by omega) (by omega)) dL_law_308 ?_
    refine lv_topi (fun y_2 ey_2 => ?_)
    have u_3 : y_2.toInt = (xs (i0 + 1).toNatClampNeg).toInt := by rw [ey_2, ey_1]
    refine S_calli (va_runV (As := [.int y_2]) (rest := []) ⟨hx, hb, hml, hown, hts⟩ (k_Wfault l D k A a z G y_2 ) (cwV 1 hts (gd_V hgd m874 m875 m876 m117 m877) rfl rfl rfl (by decide +kernel) ⟨Nat.le_of_ble_eq_true rfl, Nat.le_of_ble_eq_true rfl⟩) (pre_V hW hB_G hK hZ hS kd_0 rfl) rfl rfl hl.1 rfl (lv_room (Nat.le_of_ble_eq_true rfl)) dL_law_309 ⟨Nat.le_of_ble_eq_true rfl, Nat.le_of_ble_eq_true rfl⟩) hS (fun r_4 G_5 H locs hpo hW hS => ?_)
    have hX_8 : P_Wfault y_2 G r_4 G_5 := hpo
    obtain ⟨hB_G_5, hq_6, -⟩ := hpo
    refine lv_pop hx hb dL_law_312 rfl ?_
    refine lv_aload_n hx hb dL_law_313 rfl (lv_at hl 2 rfl) ?_
    refine lv_aload_n hx hb dL_law_314 rfl (lv_at hl 0 rfl) ?_
    refine lv_iload_n hx hb dL_law_315 rfl (lv_at hl 3 rfl) ?_
    refine lv_iconst (v := 1) hx hb dL_law_316 (by decide) ?_
    refine lv_iadd hx hb dL_law_317 ?_
    refine lv_topi (fun y_9 ey_9 => ?_)
    have ty_9 : y_9.toInt = i0.toInt + 1 := xI_add rfl rfl ey_9 (by omega) (by omega)
    refine va_sld hx hb hX hbl hbA hS (vin (by omega) (by omega)) dL_law_318 ?_
    refine lv_topi (fun y_10 ey_10 => ?_)
    have u_11 : y_10.toInt = (xs (i0 + 1).toNatClampNeg).toInt := by rw [ey_10, ey_9]
    refine S_calli (va_runV (As := [.int y_10]) (rest := []) ⟨hx, hb, hml, hown, hts⟩ (n_fault l D k A a z G_5 y_10 ) (cwV 1 hts (gd_V hgd m1769 m1770 m1771 m131 m1772) rfl rfl rfl (by decide +kernel) ⟨Nat.le_of_ble_eq_true rfl, Nat.le_of_ble_eq_true rfl⟩) (pre_V hW hB_G_5 hK hZ hS kd_66 rfl) rfl rfl hl.1 rfl (lv_room (Nat.le_of_ble_eq_true rfl)) dL_law_319 ⟨Nat.le_of_ble_eq_true rfl, Nat.le_of_ble_eq_true rfl⟩) hS (fun r_12 G_13 H locs hpo hW hS => ?_)
    have hX_16 : Q_fault y_10 G_5 r_12 G_13 := hpo
    obtain ⟨hB_G_13, hq_14, -⟩ := hpo
    have u_17 := flt_eq hX_8 hX_16 (by omega) (by omega) (by omega)
    refine lv_pop hx hb dL_law_322 rfl ?_
    refine lv_goto (tgt := 1641) hx hb dL_law_323 (by decide) ?_
    have g_18 : gIA G_13 = gIA G := gIA_fr (rs := []) (fs := []) ((Fr.rf.call hq_6 (by decide) (by decide)).call hq_14 (by decide) (by decide)) (by decide) (by decide)
    have g_19 : gO G_13 = gO G := gO_fr (rs := []) (fs := []) ((Fr.rf.call hq_6 (by decide) (by decide)).call hq_14 (by decide) (by decide)) (by decide) (by decide)
    have g_20 : gP G_13 = gP G := gP_fr (rs := []) (fs := []) ((Fr.rf.call hq_6 (by decide) (by decide)).call hq_14 (by decide) (by decide)) (by decide) (by decide)
    have g_21 : gS G_13 = gS G := gS_fr (rs := []) (fs := []) ((Fr.rf.call hq_6 (by decide) (by decide)).call hq_14 (by decide) (by decide)) (by decide) (by decide)
    have g_22 : gTE G_13 = gTE G := gTE_fr (rs := []) (fs := []) ((Fr.rf.call hq_6 (by decide) (by decide)).call hq_14 (by decide) (by decide)) (by decide) (by decide)
    have g_23 : gW G_13 = gW G := gW_fr (rs := []) (fs := []) ((Fr.rf.call hq_6 (by decide) (by decide)).call hq_14 (by decide) (by decide)) (by decide) (by decide)
    have b_24 : 0 ≤ (G.1 0 11).toInt ∧ (G.1 0 11).toInt ≤ 1600 := hB_G.i 0 11 rfl rfl
    have g_25 : (G_13.1 0 11).toInt = (G.1 0 11).toInt := by rw [show G_13.1 0 11 = (G.1 0 11) from ((hq_14.i 0 11 (by decide) (by decide)).trans (hq_6.i 0 11 (by decide) (by decide)))]
    have b_26 : 0 ≤ (G.1 3 7).toInt ∧ (G.1 3 7).toInt ≤ 4 := hB_G.i 3 7 rfl rfl
    have g_27 : (G_13.1 3 7).toInt = (G.1 3 7).toInt := by rw [show G_13.1 3 7 = (G.1 3 7) from ((hq_14.i 3 7 (by decide) (by decide)).trans (hq_6.i 3 7 (by decide) (by decide)))]
    have b_28 : (-1) ≤ (G.1 3 8).toInt ∧ (G.1 3 8).toInt ≤ 1600 := hB_G.i 3 8 rfl rfl
    have g_29 : (G_13.1 3 8).toInt = (G.1 3 8).toInt := by rw [show G_13.1 3 8 = (G.1 3 8) from ((hq_14.i 3 8 (by decide) (by decide)).trans (hq_6.i 3 8 (by decide) (by decide)))]
    have b_30 : 0 ≤ (G.1 30 4).toInt ∧ (G.1 30 4).toInt ≤ 40 := hB_G.i 30 4 rfl rfl
    have g_31 : (G_13.1 30 4).toInt = (G.1 30 4).toInt := by rw [show G_13.1 30 4 = (G.1 30 4) from ((hq_14.i 30 4 (by decide) (by decide)).trans (hq_6.i 30 4 (by decide) (by decide)))]
    have b_32 : 0 ≤ (G.1 30 5).toInt ∧ (G.1 30 5).toInt ≤ 40 := hB_G.i 30 5 rfl rfl
    have g_33 : (G_13.1 30 5).toInt = (G.1 30 5).toInt := by rw [show G_13.1 30 5 = (G.1 30 5) from ((hq_14.i 30 5 (by decide) (by decide)).trans (hq_6.i 30 5 (by decide) (by decide)))]
    have b_34 : 0 ≤ (G.1 31 6).toInt ∧ (G.1 31 6).toInt ≤ 100000 := hB_G.i 31 6 rfl rfl
    have g_35 : (G_13.1 31 6).toInt = (G.1 31 6).toInt := by rw [show G_13.1 31 6 = (G.1 31 6) from ((hq_14.i 31 6 (by decide) (by decide)).trans (hq_6.i 31 6 (by decide) (by decide)))]
    have b_36 : 0 ≤ (G.1 66 1).toInt ∧ (G.1 66 1).toInt ≤ 1600 := hB_G.i 66 1 rfl rfl
    have g_37 : (G_13.1 66 1).toInt = (G.1 66 1).toInt := by rw [show G_13.1 66 1 = (G.1 66 1) from ((hq_14.i 66 1 (by decide) (by decide)).trans (hq_6.i 66 1 (by decide) (by decide)))]
    have b_38 : 0 ≤ (G.1 66 2).toInt ∧ (G.1 66 2).toInt ≤ 4 := hB_G.i 66 2 rfl rfl
    have g_39 : (G_13.1 66 2).toInt = (G.1 66 2).toInt := by rw [show G_13.1 66 2 = (G.1 66 2) from ((hq_14.i 66 2 (by decide) (by decide)).trans (hq_6.i 66 2 (by decide) (by decide)))]
    have b_40 : (-1) ≤ (G.1 66 3).toInt ∧ (G.1 66 3).toInt ≤ 1600 := hB_G.i 66 3 rfl rfl
    have g_41 : (G_13.1 66 3).toInt = (G.1 66 3).toInt := by rw [show G_13.1 66 3 = (G.1 66 3) from ((hq_14.i 66 3 (by decide) (by decide)).trans (hq_6.i 66 3 (by decide) (by decide)))]
    have b_42 : 0 ≤ (G.1 66 78).toInt ∧ (G.1 66 78).toInt ≤ 40 := hB_G.i 66 78 rfl rfl
    have g_43 : (G_13.1 66 78).toInt = (G.1 66 78).toInt := by rw [show G_13.1 66 78 = (G.1 66 78) from ((hq_14.i 66 78 (by decide) (by decide)).trans (hq_6.i 66 78 (by decide) (by decide)))]
    have b_44 : 0 ≤ (G.1 66 79).toInt ∧ (G.1 66 79).toInt ≤ 40 := hB_G.i 66 79 rfl rfl
    have g_45 : (G_13.1 66 79).toInt = (G.1 66 79).toInt := by rw [show G_13.1 66 79 = (G.1 66 79) from ((hq_14.i 66 79 (by decide) (by decide)).trans (hq_6.i 66 79 (by decide) (by decide)))]
    have b_46 : 0 ≤ (G.1 66 86).toInt ∧ (G.1 66 86).toInt ≤ 100000 := hB_G.i 66 86 rfl rfl
    have g_47 : (G_13.1 66 86).toInt = (G.1 66 86).toInt := by rw [show G_13.1 66 86 = (G.1 66 86) from ((hq_14.i 66 86 (by decide) (by decide)).trans (hq_6.i 66 86 (by decide) (by decide)))]
    have b_48 : 0 ≤ (G.1 96 0).toInt ∧ (G.1 96 0).toInt ≤ 9 := hB_G.i 96 0 rfl rfl
    have g_49 : (G_13.1 96 0).toInt = (G.1 96 0).toInt := by rw [show G_13.1 96 0 = (G.1 96 0) from ((hq_14.i 96 0 (by decide) (by decide)).trans (hq_6.i 96 0 (by decide) (by decide)))]
    have b_50 : 0 ≤ (G.1 96 1).toInt ∧ (G.1 96 1).toInt ≤ 9 := hB_G.i 96 1 rfl rfl
    have g_51 : (G_13.1 96 1).toInt = (G.1 96 1).toInt := by rw [show G_13.1 96 1 = (G.1 96 1) from ((hq_14.i 96 1 (by decide) (by decide)).trans (hq_6.i 96 1 (by decide) (by decide)))]
    have b_52 : 0 ≤ (G.1 96 2).toInt ∧ (G.1 96 2).toInt ≤ 9 := hB_G.i 96 2 rfl rfl
    have g_53 : (G_13.1 96 2).toInt = (G.1 96 2).toInt := by rw [show G_13.1 96 2 = (G.1 96 2) from ((hq_14.i 96 2 (by decide) (by decide)).trans (hq_6.i 96 2 (by decide) (by decide)))]
    exact K G_13 _ _ _ (Or.inl ⟨((((hq_14.r 0 0 (by decide) (by decide)).trans (hq_6.r 0 0 (by decide) (by decide)))).trans (hv_0_0)), ((((hq_14.r 0 1 (by decide) (by decide)).trans (hq_6.r 0 1 (by decide) (by decide)))).trans (hv_0_1)), ((((hq_14.r 6 4 (by decide) (by decide)).trans (hq_6.r 6 4 (by decide) (by decide)))).trans (hv_6_4)), by omega, by omega, by omega, by omega, by omega, by omega, by omega, by omega, by omega, by omega, by omega, by omega, by omega⟩) hB_G_13 hW hS (lv_sub hl [0, 1, 2, 3] rfl)
  · skip
    refine lv_aload_n hx hb dL_law_303 rfl (lv_at hl 1 rfl) ?_
    refine lv_aload_n hx hb dL_law_304 rfl (lv_at hl 0 rfl) ?_
    refine lv_iload_n hx hb dL_law_305 rfl (lv_at hl 3 rfl) ?_
    refine lv_iconst (v := 1) hx hb dL_law_306 (by decide) ?_
    refine lv_iadd hx hb dL_law_307 ?_
    refine lv_topi (fun y_1 ey_1 => ?_)
    have ty_1 : y_1.toInt = i0.toInt + 1 := xI_add rfl rfl ey_1 (by omega) (by omega)
    refine va_sld hx hb hX hbl hbA hS (vin (by omega) (by omega)) dL_law_308 ?_
    refine lv_topi (fun y_2 ey_2 => ?_)
    have u_3 : y_2.toInt = (xs (i0 + 1).toNatClampNeg).toInt := by rw [ey_2, ey_1]
    refine S_calli (va_runV (As := [.int y_2]) (rest := []) ⟨hx, hb, hml, hown, hts⟩ (k_Wfault l D k A a z G y_2 ) (cwV 1 hts (gd_V hgd m874 m875 m876 m117 m877) rfl rfl rfl (by decide +kernel) ⟨Nat.le_of_ble_eq_true rfl, Nat.le_of_ble_eq_true rfl⟩) (pre_V hW hB_G hK hZ hS kd_0 rfl) rfl rfl hl.1 rfl (lv_room (Nat.le_of_ble_eq_true rfl)) dL_law_309 ⟨Nat.le_of_ble_eq_true rfl, Nat.le_of_ble_eq_true rfl⟩) hS (fun r_4 G_5 H locs hpo hW hS => ?_)
    have hX_8 : P_Wfault y_2 G r_4 G_5 := hpo
    obtain ⟨hB_G_5, hq_6, -⟩ := hpo
    refine lv_pop hx hb dL_law_312 rfl ?_
    refine lv_aload_n hx hb dL_law_313 rfl (lv_at hl 2 rfl) ?_
    refine lv_aload_n hx hb dL_law_314 rfl (lv_at hl 0 rfl) ?_
    refine lv_iload_n hx hb dL_law_315 rfl (lv_at hl 3 rfl) ?_
    refine lv_iconst (v := 1) hx hb dL_law_316 (by decide) ?_
    refine lv_iadd hx hb dL_law_317 ?_
    refine lv_topi (fun y_9 ey_9 => ?_)
    have ty_9 : y_9.toInt = i0.toInt + 1 := xI_add rfl rfl ey_9 (by omega) (by omega)
    refine va_sld hx hb hX hbl hbA hS (vin (by omega) (by omega)) dL_law_318 ?_
    refine lv_topi (fun y_10 ey_10 => ?_)
    have u_11 : y_10.toInt = (xs (i0 + 1).toNatClampNeg).toInt := by rw [ey_10, ey_9]
    refine S_calli (va_runV (As := [.int y_10]) (rest := []) ⟨hx, hb, hml, hown, hts⟩ (n_fault l D k A a z G_5 y_10 ) (cwV 1 hts (gd_V hgd m1769 m1770 m1771 m131 m1772) rfl rfl rfl (by decide +kernel) ⟨Nat.le_of_ble_eq_true rfl, Nat.le_of_ble_eq_true rfl⟩) (pre_V hW hB_G_5 hK hZ hS kd_66 rfl) rfl rfl hl.1 rfl (lv_room (Nat.le_of_ble_eq_true rfl)) dL_law_319 ⟨Nat.le_of_ble_eq_true rfl, Nat.le_of_ble_eq_true rfl⟩) hS (fun r_12 G_13 H locs hpo hW hS => ?_)
    have hX_16 : Q_fault y_10 G_5 r_12 G_13 := hpo
    obtain ⟨hB_G_13, hq_14, -⟩ := hpo
    have u_17 := flt_eq hX_8 hX_16 (by omega) (by omega) (by omega)
    refine lv_pop hx hb dL_law_322 rfl ?_
    refine lv_goto (tgt := 1641) hx hb dL_law_323 (by decide) ?_
    have g_18 : gIB G_13 = gIB G := gIB_fr (rs := []) (fs := []) ((Fr.rf.call hq_6 (by decide) (by decide)).call hq_14 (by decide) (by decide)) (by decide) (by decide)
    have g_19 : gO G_13 = gO G := gO_fr (rs := []) (fs := []) ((Fr.rf.call hq_6 (by decide) (by decide)).call hq_14 (by decide) (by decide)) (by decide) (by decide)
    have g_20 : gP G_13 = gP G := gP_fr (rs := []) (fs := []) ((Fr.rf.call hq_6 (by decide) (by decide)).call hq_14 (by decide) (by decide)) (by decide) (by decide)
    have g_21 : gS G_13 = gS G := gS_fr (rs := []) (fs := []) ((Fr.rf.call hq_6 (by decide) (by decide)).call hq_14 (by decide) (by decide)) (by decide) (by decide)
    have g_22 : gTE G_13 = gTE G := gTE_fr (rs := []) (fs := []) ((Fr.rf.call hq_6 (by decide) (by decide)).call hq_14 (by decide) (by decide)) (by decide) (by decide)
    have g_23 : gW G_13 = gW G := gW_fr (rs := []) (fs := []) ((Fr.rf.call hq_6 (by decide) (by decide)).call hq_14 (by decide) (by decide)) (by decide) (by decide)
    have b_24 : 0 ≤ (G.1 0 11).toInt ∧ (G.1 0 11).toInt ≤ 1600 := hB_G.i 0 11 rfl rfl
    have g_25 : (G_13.1 0 11).toInt = (G.1 0 11).toInt := by rw [show G_13.1 0 11 = (G.1 0 11) from ((hq_14.i 0 11 (by decide) (by decide)).trans (hq_6.i 0 11 (by decide) (by decide)))]
    have b_26 : 0 ≤ (G.1 3 7).toInt ∧ (G.1 3 7).toInt ≤ 4 := hB_G.i 3 7 rfl rfl
    have g_27 : (G_13.1 3 7).toInt = (G.1 3 7).toInt := by rw [show G_13.1 3 7 = (G.1 3 7) from ((hq_14.i 3 7 (by decide) (by decide)).trans (hq_6.i 3 7 (by decide) (by decide)))]
    have b_28 : (-1) ≤ (G.1 3 8).toInt ∧ (G.1 3 8).toInt ≤ 1600 := hB_G.i 3 8 rfl rfl
    have g_29 : (G_13.1 3 8).toInt = (G.1 3 8).toInt := by rw [show G_13.1 3 8 = (G.1 3 8) from ((hq_14.i 3 8 (by decide) (by decide)).trans (hq_6.i 3 8 (by decide) (by decide)))]
    have b_30 : 0 ≤ (G.1 30 4).toInt ∧ (G.1 30 4).toInt ≤ 40 := hB_G.i 30 4 rfl rfl
    have g_31 : (G_13.1 30 4).toInt = (G.1 30 4).toInt := by rw [show G_13.1 30 4 = (G.1 30 4) from ((hq_14.i 30 4 (by decide) (by decide)).trans (hq_6.i 30 4 (by decide) (by decide)))]
    have b_32 : 0 ≤ (G.1 30 5).toInt ∧ (G.1 30 5).toInt ≤ 40 := hB_G.i 30 5 rfl rfl
    have g_33 : (G_13.1 30 5).toInt = (G.1 30 5).toInt := by rw [show G_13.1 30 5 = (G.1 30 5) from ((hq_14.i 30 5 (by decide) (by decide)).trans (hq_6.i 30 5 (by decide) (by decide)))]
    have b_34 : 0 ≤ (G.1 31 6).toInt ∧ (G.1 31 6).toInt ≤ 100000 := hB_G.i 31 6 rfl rfl
    have g_35 : (G_13.1 31 6).toInt = (G.1 31 6).toInt := by rw [show G_13.1 31 6 = (G.1 31 6) from ((hq_14.i 31 6 (by decide) (by decide)).trans (hq_6.i 31 6 (by decide) (by decide)))]
    have b_36 : 0 ≤ (G.1 66 1).toInt ∧ (G.1 66 1).toInt ≤ 1600 := hB_G.i 66 1 rfl rfl
    have g_37 : (G_13.1 66 1).toInt = (G.1 66 1).toInt := by rw [show G_13.1 66 1 = (G.1 66 1) from ((hq_14.i 66 1 (by decide) (by decide)).trans (hq_6.i 66 1 (by decide) (by decide)))]
    have b_38 : 0 ≤ (G.1 66 2).toInt ∧ (G.1 66 2).toInt ≤ 4 := hB_G.i 66 2 rfl rfl
    have g_39 : (G_13.1 66 2).toInt = (G.1 66 2).toInt := by rw [show G_13.1 66 2 = (G.1 66 2) from ((hq_14.i 66 2 (by decide) (by decide)).trans (hq_6.i 66 2 (by decide) (by decide)))]
    have b_40 : (-1) ≤ (G.1 66 3).toInt ∧ (G.1 66 3).toInt ≤ 1600 := hB_G.i 66 3 rfl rfl
    have g_41 : (G_13.1 66 3).toInt = (G.1 66 3).toInt := by rw [show G_13.1 66 3 = (G.1 66 3) from ((hq_14.i 66 3 (by decide) (by decide)).trans (hq_6.i 66 3 (by decide) (by decide)))]
    have b_42 : 0 ≤ (G.1 66 78).toInt ∧ (G.1 66 78).toInt ≤ 40 := hB_G.i 66 78 rfl rfl
    have g_43 : (G_13.1 66 78).toInt = (G.1 66 78).toInt := by rw [show G_13.1 66 78 = (G.1 66 78) from ((hq_14.i 66 78 (by decide) (by decide)).trans (hq_6.i 66 78 (by decide) (by decide)))]
    have b_44 : 0 ≤ (G.1 66 79).toInt ∧ (G.1 66 79).toInt ≤ 40 := hB_G.i 66 79 rfl rfl
    have g_45 : (G_13.1 66 79).toInt = (G.1 66 79).toInt := by rw [show G_13.1 66 79 = (G.1 66 79) from ((hq_14.i 66 79 (by decide) (by decide)).trans (hq_6.i 66 79 (by decide) (by decide)))]
    have b_46 : 0 ≤ (G.1 66 86).toInt ∧ (G.1 66 86).toInt ≤ 100000 := hB_G.i 66 86 rfl rfl
    have g_47 : (G_13.1 66 86).toInt = (G.1 66 86).toInt := by rw [show G_13.1 66 86 = (G.1 66 86) from ((hq_14.i 66 86 (by decide) (by decide)).trans (hq_6.i 66 86 (by decide) (by decide)))]
    have b_48 : 0 ≤ (G.1 96 0).toInt ∧ (G.1 96 0).toInt ≤ 9 := hB_G.i 96 0 rfl rfl
    have g_49 : (G_13.1 96 0).toInt = (G.1 96 0).toInt := by rw [show G_13.1 96 0 = (G.1 96 0) from ((hq_14.i 96 0 (by decide) (by decide)).trans (hq_6.i 96 0 (by decide) (by decide)))]
    have b_50 : 0 ≤ (G.1 96 1).toInt ∧ (G.1 96 1).toInt ≤ 9 := hB_G.i 96 1 rfl rfl
    have g_51 : (G_13.1 96 1).toInt = (G.1 96 1).toInt := by rw [show G_13.1 96 1 = (G.1 96 1) from ((hq_14.i 96 1 (by decide) (by decide)).trans (hq_6.i 96 1 (by decide) (by decide)))]
    have b_52 : 0 ≤ (G.1 96 2).toInt ∧ (G.1 96 2).toInt ≤ 9 := hB_G.i 96 2 rfl rfl
    have g_53 : (G_13.1 96 2).toInt = (G.1 96 2).toInt := by rw [show G_13.1 96 2 = (G.1 96 2) from ((hq_14.i 96 2 (by decide) (by decide)).trans (hq_6.i 96 2 (by decide) (by decide)))]
    exact K G_13 _ _ _ (Or.inr ⟨((((hq_14.r 0 0 (by decide) (by decide)).trans (hq_6.r 0 0 (by decide) (by decide)))).trans (hv_0_0)), ((((hq_14.r 0 1 (by decide) (by decide)).trans (hq_6.r 0 1 (by decide) (by decide)))).trans (hv_0_1)), ((((hq_14.r 6 4 (by decide) (by decide)).trans (hq_6.r 6 4 (by decide) (by decide)))).trans (hv_6_4)), by omega, by omega, by omega, by omega, by omega, by omega, by omega, by omega, by omega, by omega, by omega, by omega, by omega⟩) hB_G_13 hW hS (lv_sub hl [0, 1, 2, 3] rfl)
