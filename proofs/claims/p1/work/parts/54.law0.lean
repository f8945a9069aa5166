set_option maxHeartbeats 4000000 in
set_option maxRecDepth 100000 in
theorem law_0 {p : Program} {l : Launch} {e : Env} {s : State} {m : MethodId} {below : List Frame} {meth : Method} {c : Code} {D : va_G} {k : ClassId × ClassId × ClassId × ClassId} {A : Nat → Prop} {b L : Nat} {xs : Nat → Int32} (hL : L = 6) (C0 : lw_At p s m meth c b L xs) (hKX : va_K D classes (TY k) s ∧ cX s) (hA : ∀ q : Nat, s.heap.size ≤ q → A q) (hA2 : ∀ q : Nat, A q → s.heap.size ≤ q) (hbA : ¬ A b) {x y : Nat} {H : Heap} {locs : List Loc} (hF : Fresh D k A x y H) (hS : va_S A s.heap H locs) {ls : Array Slot} (hl : lv_has ls 4 [(0, .ref b), (1, .ref x), (2, .ref y), (3, .int 0)]) : W p l e room_1 s m #[Value.ref b] below meth c H locs 119 46443 (lw_Z below #[Value.ref b] s) (F0 m 204 ls []) := by
  obtain ⟨hx, hb, hr, hml, hown, hts, hX, hbl, hlocks, hgv⟩ := id C0
  have hown : s.vm.findClass RL = some m.cls := hown
  have hK := hKX.1
  have hgd : ∀ w ∈ gd, w ∈ lw_tbl := fun w h => (List.mem_filter.mp h).1
  have hg : ∀ w ∈ gd, w.before #[Value.ref b] s = true := fun w h => hts w (hgd w h)
  subst hL
  obtain ⟨F, pv, P, sl, g1, sp, P2, sl2, g2, tp, g3, rd, Rd, tk, K, ln, N, fo, g4, ea, E, nw, f1, kp, f2, bx, f3, si, Z, yM, ytp, ym1, yns, ym2, yss, ym3, ynw, ym4, ywe, ym5, yhbx, ym6, ybx, ym7, hf_0, hf_1, hf_2, hf_3, hf_4, hf_6, hf_7, hf_8, hf_10, hf_11, hf_14, hf_15, hf_18, hf_19, hf_21, hP, hD⟩ := hF
  have u_0_11 : F[11]? = some (.int 0) := hf_0.2.2.1
  have u_0_2 : F[2]? = some (.ref tp) := hf_0.2.2.2.2.1
  have u_15_0 : yM[0]? = some (.ref ytp) := hf_15.1
  have u_15_1 : yM[1]? = some (.int 0) := hf_15.2.1
  have hin1 : vp_in 1 6 := (show ¬ ((1 : Int32) < 0 ∨ 6 ≤ (1 : Int32).toNatClampNeg) from by decide)
  have hin2 : vp_in 2 6 := (show ¬ ((2 : Int32) < 0 ∨ 6 ≤ (2 : Int32).toNatClampNeg) from by decide)
  have hin3 : vp_in 3 6 := (show ¬ ((3 : Int32) < 0 ∨ 6 ≤ (3 : Int32).toNatClampNeg) from by decide)
  have hin4 : vp_in 4 6 := (show ¬ ((4 : Int32) < 0 ∨ 6 ≤ (4 : Int32).toNatClampNeg) from by decide)
  have hin5 : vp_in 5 6 := (show ¬ ((5 : Int32) < 0 ∨ 6 ≤ (5 : Int32).toNatClampNeg) from by decide)
  obtain ⟨p0, hp0⟩ : ∃ z, z = xs 1 := ⟨_, rfl⟩
  obtain ⟨p1, hp1⟩ : ∃ z, z = xs 2 := ⟨_, rfl⟩
  obtain ⟨p2, hp2⟩ : ∃ z, z = xs 3 := ⟨_, rfl⟩
  obtain ⟨p3, hp3⟩ : ∃ z, z = xs 4 := ⟨_, rfl⟩
  obtain ⟨p4, hp4⟩ : ∃ z, z = xs 5 := ⟨_, rfl⟩
  refine lv_aload_n hx hb dL_law_204 rfl (lv_at hl 1 rfl) ?_
  refine lv_aload_n hx hb dL_law_205 rfl (lv_at hl 0 rfl) ?_
  refine lv_iload_n hx hb dL_law_206 rfl (lv_at hl 3 rfl) ?_
  refine lv_iconst (v := 1) hx hb dL_law_207 (by decide) ?_
  refine lv_iadd hx hb dL_law_208 ?_
  refine lv_topi (fun y_1 ey_1 => ?_)
  obtain rfl : y_1 = 1 := ey_1.trans (by decide)
  refine va_sld hx hb hX hbl hbA hS hin1 dL_law_209 ?_
  refine lv_topi (fun y_2 ey_2 => ?_)
  rw [show y_2 = p0 from ey_2.trans hp0.symm]
  refine lv_aload_n hx hb dL_law_210 rfl (lv_at hl 0 rfl) ?_
  refine lv_iload_n hx hb dL_law_211 rfl (lv_at hl 3 rfl) ?_
  refine lv_iconst (v := 2) hx hb dL_law_212 (by decide) ?_
  refine lv_iadd hx hb dL_law_213 ?_
  refine lv_topi (fun y_3 ey_3 => ?_)
  obtain rfl : y_3 = 2 := ey_3.trans (by decide)
  refine va_sld hx hb hX hbl hbA hS hin2 dL_law_214 ?_
  refine lv_topi (fun y_4 ey_4 => ?_)
  rw [show y_4 = p1 from ey_4.trans hp1.symm]
  refine lv_aload_n hx hb dL_law_215 rfl (lv_at hl 0 rfl) ?_
  refine lv_iload_n hx hb dL_law_216 rfl (lv_at hl 3 rfl) ?_
  refine lv_iconst (v := 3) hx hb dL_law_217 (by decide) ?_
  refine lv_iadd hx hb dL_law_218 ?_
  refine lv_topi (fun y_5 ey_5 => ?_)
  obtain rfl : y_5 = 3 := ey_5.trans (by decide)
  refine va_sld hx hb hX hbl hbA hS hin3 dL_law_219 ?_
  refine lv_topi (fun y_6 ey_6 => ?_)
  rw [show y_6 = p2 from ey_6.trans hp2.symm]
  refine lv_aload_n hx hb dL_law_220 rfl (lv_at hl 0 rfl) ?_
  refine lv_iload_n hx hb dL_law_221 rfl (lv_at hl 3 rfl) ?_
  refine lv_iconst (v := 4) hx hb dL_law_222 (by decide) ?_
  refine lv_iadd hx hb dL_law_223 ?_
  refine lv_topi (fun y_7 ey_7 => ?_)
  obtain rfl : y_7 = 4 := ey_7.trans (by decide)
  refine va_sld hx hb hX hbl hbA hS hin4 dL_law_224 ?_
  refine lv_topi (fun y_8 ey_8 => ?_)
  rw [show y_8 = p3 from ey_8.trans hp3.symm]
  refine lv_aload_n hx hb dL_law_225 rfl (lv_at hl 0 rfl) ?_
  refine lv_iload_n hx hb dL_law_226 rfl (lv_at hl 3 rfl) ?_
  refine lv_iconst (v := 5) hx hb dL_law_227 (by decide) ?_
  refine lv_iadd hx hb dL_law_228 ?_
  refine lv_topi (fun y_9 ey_9 => ?_)
  obtain rfl : y_9 = 5 := ey_9.trans (by decide)
  refine va_sld hx hb hX hbl hbA hS hin5 dL_law_229 ?_
  refine lv_topi (fun y_10 ey_10 => ?_)
  rw [show y_10 = p4 from ey_10.trans hp4.symm]
  have hPc := hP.sub (ws' := [(x, .inr (11, F)), (tp, .inl (k.1, 1600, .inl g3))]) [0, 5] rfl
  have hDc := hD.sub (ws' := [(x, .inr (11, F)), (tp, .inl (k.1, 1600, .inl g3))]) [0, 5] (by decide) rfl
  have hFc := va_free (wc := [(x, .inr (11, F)), (tp, .inl (k.1, 1600, .inl g3))]) hD hS hA [0, 5] rfl
  refine va_calli (va_runV (As := [.int p0, .int p1, .int p2, .int p3, .int p4]) (rest := []) ⟨hx, hb, hml, hown, hts⟩ (c_X11_feed l D k H.size x tp F g3 p0 p1 p2 p3 p4 u_0_11 u_0_2) (cwV 5 hts (gd_V hgd m610 m611 m612 m117 m613) rfl rfl rfl (by decide +kernel) ⟨Nat.le_of_ble_eq_true rfl, Nat.le_of_ble_eq_true rfl⟩) (cP_V hPc hKX hDc (ci := 11) (q0 := 0) rfl rfl) rfl rfl hl.1 rfl (lv_room (Nat.le_of_ble_eq_true rfl)) dL_law_230 ⟨Nat.le_of_ble_eq_true rfl, Nat.le_of_ble_eq_true rfl⟩) hS (fun q _ h => hFc q h) hFc (fun r_11 u t H1 locs ht hvm hw hB hz1 hk1 hS => ?_)
  obtain ⟨hP1, hD1⟩ := hB
  rw [ht] at hP1
  obtain ⟨hP, hD⟩ := va_join (wr := [(pv, .inr (6, P)), (sl, .inl (k.2.1, 3, .inl g1)), (sp, .inr (6, P2)), (sl2, .inl (k.2.1, 3, .inl g2)), (rd, .inr (7, Rd)), (tk, .inr (9, K)), (ln, .inr (3, N)), (fo, .inl (k.2.1, 3, .inl g4)), (ea, .inr (1, E)), (nw, .inl (k.2.1, 10, .inl f1)), (kp, .inl (k.2.1, 410, .inl f2)), (bx, .inl (k.2.1, 30, .inl f3)), (si, .inr (8, Z)), (y, .inr (12, yM)), (ytp, .inl (k.2.1, 1600, .inl ym1)), (yns, .inl (k.2.1, 3, .inl ym2)), (yss, .inl (k.2.1, 3, .inl ym3)), (ynw, .inl (k.2.1, 16, .inl ym4)), (ywe, .inl (k.2.1, 640, .inl ym5)), (yhbx, .inl (k.2.2.2, 3, .inl ym6)), (ybx, .inl (k.2.1, 48, .inl ym7))]) (w1 := []) hP hD [0, 5] [1, 2, 3, 4, 6, 7, 8, 9, 10, 11, 12, 13, 14, 15, 16, 17, 18, 19, 20, 21, 22] rfl rfl (by decide) (by decide) hk1 hFc hP1 hD1
  generalize H1 = H at hP hS ⊢
  have hP : va_P D classes [(pv, .inr (6, P)), (sl, .inl (k.2.1, 3, .inl g1)), (sp, .inr (6, P2)), (sl2, .inl (k.2.1, 3, .inl g2)), (rd, .inr (7, Rd)), (tk, .inr (9, K)), (ln, .inr (3, N)), (fo, .inl (k.2.1, 3, .inl g4)), (ea, .inr (1, E)), (nw, .inl (k.2.1, 10, .inl f1)), (kp, .inl (k.2.1, 410, .inl f2)), (bx, .inl (k.2.1, 30, .inl f3)), (si, .inr (8, Z)), (y, .inr (12, yM)), (ytp, .inl (k.2.1, 1600, .inl ym1)), (yns, .inl (k.2.1, 3, .inl ym2)), (yss, .inl (k.2.1, 3, .inl ym3)), (ynw, .inl (k.2.1, 16, .inl ym4)), (ywe, .inl (k.2.1, 640, .inl ym5)), (yhbx, .inl (k.2.2.2, 3, .inl ym6)), (ybx, .inl (k.2.1, 48, .inl ym7))] H := hP
  have hD : va_D A [(pv, .inr (6, P)), (sl, .inl (k.2.1, 3, .inl g1)), (sp, .inr (6, P2)), (sl2, .inl (k.2.1, 3, .inl g2)), (rd, .inr (7, Rd)), (tk, .inr (9, K)), (ln, .inr (3, N)), (fo, .inl (k.2.1, 3, .inl g4)), (ea, .inr (1, E)), (nw, .inl (k.2.1, 10, .inl f1)), (kp, .inl (k.2.1, 410, .inl f2)), (bx, .inl (k.2.1, 30, .inl f3)), (si, .inr (8, Z)), (y, .inr (12, yM)), (ytp, .inl (k.2.1, 1600, .inl ym1)), (yns, .inl (k.2.1, 3, .inl ym2)), (yss, .inl (k.2.1, 3, .inl ym3)), (ynw, .inl (k.2.1, 16, .inl ym4)), (ywe, .inl (k.2.1, 640, .inl ym5)), (yhbx, .inl (k.2.2.2, 3, .inl ym6)), (ybx, .inl (k.2.1, 48, .inl ym7))] := hD
  refine W.widen (k := 119) (n := 46443) (Nat.le_of_ble_eq_true rfl) (Nat.le_of_ble_eq_true rfl) ?_
  have hw9 := hw.symm; subst hw9
  refine lv_aload_n hx hb dL_law_233 rfl (lv_at hl 2 rfl) ?_
  refine lv_aload_n hx hb dL_law_234 rfl (lv_at hl 0 rfl) ?_
  refine lv_iload_n hx hb dL_law_235 rfl (lv_at hl 3 rfl) ?_
  refine lv_iconst (v := 1) hx hb dL_law_236 (by decide) ?_
  refine lv_iadd hx hb dL_law_237 ?_
  refine lv_topi (fun y_12 ey_12 => ?_)
  obtain rfl : y_12 = 1 := ey_12.trans (by decide)
  refine va_sld hx hb hX hbl hbA hS hin1 dL_law_238 ?_
  refine lv_topi (fun y_13 ey_13 => ?_)
  rw [show y_13 = p0 from ey_13.trans hp0.symm]
  refine lv_aload_n hx hb dL_law_239 rfl (lv_at hl 0 rfl) ?_
  refine lv_iload_n hx hb dL_law_240 rfl (lv_at hl 3 rfl) ?_
  refine lv_iconst (v := 2) hx hb dL_law_241 (by decide) ?_
  refine lv_iadd hx hb dL_law_242 ?_
  refine lv_topi (fun y_14 ey_14 => ?_)
  obtain rfl : y_14 = 2 := ey_14.trans (by decide)
  refine va_sld hx hb hX hbl hbA hS hin2 dL_law_243 ?_
  refine lv_topi (fun y_15 ey_15 => ?_)
  rw [show y_15 = p1 from ey_15.trans hp1.symm]
  refine lv_aload_n hx hb dL_law_244 rfl (lv_at hl 0 rfl) ?_
  refine lv_iload_n hx hb dL_law_245 rfl (lv_at hl 3 rfl) ?_
  refine lv_iconst (v := 3) hx hb dL_law_246 (by decide) ?_
  refine lv_iadd hx hb dL_law_247 ?_
  refine lv_topi (fun y_16 ey_16 => ?_)
  obtain rfl : y_16 = 3 := ey_16.trans (by decide)
  refine va_sld hx hb hX hbl hbA hS hin3 dL_law_248 ?_
  refine lv_topi (fun y_17 ey_17 => ?_)
  rw [show y_17 = p2 from ey_17.trans hp2.symm]
  refine lv_aload_n hx hb dL_law_249 rfl (lv_at hl 0 rfl) ?_
  refine lv_iload_n hx hb dL_law_250 rfl (lv_at hl 3 rfl) ?_
  refine lv_iconst (v := 4) hx hb dL_law_251 (by decide) ?_
  refine lv_iadd hx hb dL_law_252 ?_
  refine lv_topi (fun y_18 ey_18 => ?_)
  obtain rfl : y_18 = 4 := ey_18.trans (by decide)
  refine va_sld hx hb hX hbl hbA hS hin4 dL_law_253 ?_
  refine lv_topi (fun y_19 ey_19 => ?_)
  rw [show y_19 = p3 from ey_19.trans hp3.symm]
  refine lv_aload_n hx hb dL_law_254 rfl (lv_at hl 0 rfl) ?_
  refine lv_iload_n hx hb dL_law_255 rfl (lv_at hl 3 rfl) ?_
  refine lv_iconst (v := 5) hx hb dL_law_256 (by decide) ?_
  refine lv_iadd hx hb dL_law_257 ?_
  refine lv_topi (fun y_20 ey_20 => ?_)
  obtain rfl : y_20 = 5 := ey_20.trans (by decide)
  refine va_sld hx hb hX hbl hbA hS hin5 dL_law_258 ?_
  refine lv_topi (fun y_21 ey_21 => ?_)
  rw [show y_21 = p4 from ey_21.trans hp4.symm]
  have hPc := hP.sub (ws' := [(y, .inr (12, yM)), (ytp, .inl (k.2.1, 1600, .inl ym1))]) [13, 14] rfl
  have hDc := hD.sub (ws' := [(y, .inr (12, yM)), (ytp, .inl (k.2.1, 1600, .inl ym1))]) [13, 14] (by decide) rfl
  have hFc := va_free (wc := [(y, .inr (12, yM)), (ytp, .inl (k.2.1, 1600, .inl ym1))]) hD hS hA [13, 14] rfl
  refine va_calli (va_runV (As := [.int p0, .int p1, .int p2, .int p3, .int p4]) (rest := [.int 20]) ⟨hx, hb, hml, hown, hts⟩ (c_X12_feed l D k H.size y ytp yM ym1 p0 p1 p2 p3 p4 u_15_0 u_15_1) (cwV 5 hts (gd_V hgd m1582 m1583 m1584 m131 m1585) rfl rfl rfl (by decide +kernel) ⟨Nat.le_of_ble_eq_true rfl, Nat.le_of_ble_eq_true rfl⟩) (cP_V hPc hKX hDc (ci := 12) (q0 := 0) rfl rfl) rfl rfl hl.1 rfl (lv_room (Nat.le_of_ble_eq_true rfl)) dL_law_259 ⟨Nat.le_of_ble_eq_true rfl, Nat.le_of_ble_eq_true rfl⟩) hS (fun q _ h => hFc q h) hFc (fun r_22 u t H1 locs ht hvm hw hB hz1 hk1 hS => ?_)
  obtain ⟨hP1, hD1⟩ := hB
  rw [ht] at hP1
  obtain ⟨hP, hD⟩ := va_join (wr := [(pv, .inr (6, P)), (sl, .inl (k.2.1, 3, .inl g1)), (sp, .inr (6, P2)), (sl2, .inl (k.2.1, 3, .inl g2)), (rd, .inr (7, Rd)), (tk, .inr (9, K)), (ln, .inr (3, N)), (fo, .inl (k.2.1, 3, .inl g4)), (ea, .inr (1, E)), (nw, .inl (k.2.1, 10, .inl f1)), (kp, .inl (k.2.1, 410, .inl f2)), (bx, .inl (k.2.1, 30, .inl f3)), (si, .inr (8, Z)), (yns, .inl (k.2.1, 3, .inl ym2)), (yss, .inl (k.2.1, 3, .inl ym3)), (ynw, .inl (k.2.1, 16, .inl ym4)), (ywe, .inl (k.2.1, 640, .inl ym5)), (yhbx, .inl (k.2.2.2, 3, .inl ym6)), (ybx, .inl (k.2.1, 48, .inl ym7))]) (w1 := []) hP hD [13, 14] [0, 1, 2, 3, 4, 5, 6, 7, 8, 9, 10, 11, 12, 15, 16, 17, 18, 19, 20] rfl rfl (by decide) (by decide) hk1 hFc hP1 hD1
  generalize H1 = H at hP hS ⊢
  have hP : va_P D classes [(pv, .inr (6, P)), (sl, .inl (k.2.1, 3, .inl g1)), (sp, .inr (6, P2)), (sl2, .inl (k.2.1, 3, .inl g2)), (rd, .inr (7, Rd)), (tk, .inr (9, K)), (ln, .inr (3, N)), (fo, .inl (k.2.1, 3, .inl g4)), (ea, .inr (1, E)), (nw, .inl (k.2.1, 10, .inl f1)), (kp, .inl (k.2.1, 410, .inl f2)), (bx, .inl (k.2.1, 30, .inl f3)), (si, .inr (8, Z)), (yns, .inl (k.2.1, 3, .inl ym2)), (yss, .inl (k.2.1, 3, .inl ym3)), (ynw, .inl (k.2.1, 16, .inl ym4)), (ywe, .inl (k.2.1, 640, .inl ym5)), (yhbx, .inl (k.2.2.2, 3, .inl ym6)), (ybx, .inl (k.2.1, 48, .inl ym7))] H := hP
  have hD : va_D A [(pv, .inr (6, P)), (sl, .inl (k.2.1, 3, .inl g1)), (sp, .inr (6, P2)), (sl2, .inl (k.2.1, 3, .inl g2)), (rd, .inr (7, Rd)), (tk, .inr (9, K)), (ln, .inr (3, N)), (fo, .inl (k.2.1, 3, .inl g4)), (ea, .inr (1, E)), (nw, .inl (k.2.1, 10, .inl f1)), (kp, .inl (k.2.1, 410, .inl f2)), (bx, .inl (k.2.1, 30, .inl f3)), (si, .inr (8, Z)), (yns, .inl (k.2.1, 3, .inl ym2)), (yss, .inl (k.2.1, 3, .inl ym3)), (ynw, .inl (k.2.1, 16, .inl ym4)), (ywe, .inl (k.2.1, 640, .inl ym5)), (yhbx, .inl (k.2.2.2, 3, .inl ym6)), (ybx, .inl (k.2.1, 48, .inl ym7))] := hD
  refine W.widen (k := 119) (n := 46443) (Nat.le_of_ble_eq_true rfl) (Nat.le_of_ble_eq_true rfl) ?_
  have hw9 := hw.symm; subst hw9
  refine lv_icmp_eq (tgt := 1645) hx hb dL_law_262 (by decide) (fun c_23 => ?_) (fun c_23 => ?_)
  · have c_23 : (20 : Int32) = 20 := c_23
    exact law_tail rfl C0 hKX hA hA2 hbA hS (lv_sub hl [0, 1, 2, 3] rfl)
  · exact absurd rfl c_23

set_option maxHeartbeats 4000000 in
set_option maxRecDepth 100000 in
theorem law_1 {p : Program} {l : Launch} {e : Env} {s : State} {m : MethodId} {below : List Frame} {meth : Method} {c : Code} {D : va_G} {k : ClassId × ClassId × ClassId × ClassId} {A : Nat → Prop} {b L : Nat} {xs : Nat → Int32} (hL : L = 6) (C0 : lw_At p s m meth c b L xs) (hKX : va_K D classes (TY k) s ∧ cX s) (hA : ∀ q : Nat, s.heap.size ≤ q → A q) (hA2 : ∀ q : Nat, A q → s.heap.size ≤ q) (hbA : ¬ A b) {x y : Nat} {H : Heap} {locs : List Loc} (hF : Fresh D k A x y H) (hS : va_S A s.heap H locs) {ls : Array Slot} (hl : lv_has ls 4 [(0, .ref b), (1, .ref x), (2, .ref y), (3, .int 0)]) : W p l e room_1 s m #[Value.ref b] below meth c H locs 119 46443 (lw_Z below #[Value.ref b] s) (F0 m 267 ls []) := by
  obtain ⟨hx, hb, hr, hml, hown, hts, hX, hbl, hlocks, hgv⟩ := id C0
  have hown : s.vm.findClass RL = some m.cls := hown
  have hK := hKX.1
  have hgd : ∀ w ∈ gd, w ∈ lw_tbl := fun w h => (List.mem_filter.mp h).1
  have hg : ∀ w ∈ gd, w.before #[Value.ref b] s = true := fun w h => hts w (hgd w h)
  subst hL
  obtain ⟨F, pv, P, sl, g1, sp, P2, sl2, g2, tp, g3, rd, Rd, tk, K, ln, N, fo, g4, ea, E, nw, f1, kp, f2, bx, f3, si, Z, yM, ytp, ym1, yns, ym2, yss, ym3, ynw, ym4, ywe, ym5, yhbx, ym6, ybx, ym7, hf_0, hf_1, hf_2, hf_3, hf_4, hf_6, hf_7, hf_8, hf_10, hf_11, hf_14, hf_15, hf_18, hf_19, hf_21, hP, hD⟩ := hF
  have u_0_11 : F[11]? = some (.int 0) := hf_0.2.2.1
  have u_15_1 : yM[1]? = some (.int 0) := hf_15.2.1
  have hin1 : vp_in 1 6 := (show ¬ ((1 : Int32) < 0 ∨ 6 ≤ (1 : Int32).toNatClampNeg) from by decide)
  have hin2 : vp_in 2 6 := (show ¬ ((2 : Int32) < 0 ∨ 6 ≤ (2 : Int32).toNatClampNeg) from by decide)
  have hin3 : vp_in 3 6 := (show ¬ ((3 : Int32) < 0 ∨ 6 ≤ (3 : Int32).toNatClampNeg) from by decide)
  have hin4 : vp_in 4 6 := (show ¬ ((4 : Int32) < 0 ∨ 6 ≤ (4 : Int32).toNatClampNeg) from by decide)
  have hin5 : vp_in 5 6 := (show ¬ ((5 : Int32) < 0 ∨ 6 ≤ (5 : Int32).toNatClampNeg) from by decide)
  obtain ⟨p0, hp0⟩ : ∃ z, z = xs 1 := ⟨_, rfl⟩
  obtain ⟨p1, hp1⟩ : ∃ z, z = xs 2 := ⟨_, rfl⟩
  obtain ⟨p2, hp2⟩ : ∃ z, z = xs 3 := ⟨_, rfl⟩
  obtain ⟨p3, hp3⟩ : ∃ z, z = xs 4 := ⟨_, rfl⟩
  obtain ⟨p4, hp4⟩ : ∃ z, z = xs 5 := ⟨_, rfl⟩
  by_cases h_lt0 : p0 < 0
  · skip
    refine lv_aload_n hx hb dL_law_267 rfl (lv_at hl 1 rfl) ?_
    refine lv_aload_n hx hb dL_law_268 rfl (lv_at hl 0 rfl) ?_
    refine lv_iload_n hx hb dL_law_269 rfl (lv_at hl 3 rfl) ?_
    refine lv_iconst (v := 1) hx hb dL_law_270 (by decide) ?_
    refine lv_iadd hx hb dL_law_271 ?_
    refine lv_topi (fun y_1 ey_1 => ?_)
    obtain rfl : y_1 = 1 := ey_1.trans (by decide)
    refine va_sld hx hb hX hbl hbA hS hin1 dL_law_272 ?_
    refine lv_topi (fun y_2 ey_2 => ?_)
    rw [show y_2 = p0 from ey_2.trans hp0.symm]
    have hPc := hP.sub (ws' := [(x, .inr (11, F))]) [0] rfl
    have hDc := hD.sub (ws' := [(x, .inr (11, F))]) [0] (by decide) rfl
    have hFc := va_free (wc := [(x, .inr (11, F))]) hD hS hA [0] rfl
    refine va_calli (va_runV (As := [.int p0]) (rest := []) ⟨hx, hb, hml, hown, hts⟩ (c_X11_end_a l D k H.size x F p0 u_0_11 h_lt0) (cwV 1 hts (gd_V hgd m618 m619 m620 m117 m621) rfl rfl rfl (by decide +kernel) ⟨Nat.le_of_ble_eq_true rfl, Nat.le_of_ble_eq_true rfl⟩) (cP_V hPc hKX hDc (ci := 11) (q0 := 0) rfl rfl) rfl rfl hl.1 rfl (lv_room (Nat.le_of_ble_eq_true rfl)) dL_law_273 ⟨Nat.le_of_ble_eq_true rfl, Nat.le_of_ble_eq_true rfl⟩) hS (fun q _ h => hFc q h) hFc (fun r_3 u t H1 locs ht hvm hw hB hz1 hk1 hS => ?_)
    obtain ⟨hP1, hD1⟩ := hB
    rw [ht] at hP1
    obtain ⟨hP, hD⟩ := va_join (wr := [(pv, .inr (6, P)), (sl, .inl (k.2.1, 3, .inl g1)), (sp, .inr (6, P2)), (sl2, .inl (k.2.1, 3, .inl g2)), (tp, .inl (k.1, 1600, .inl g3)), (rd, .inr (7, Rd)), (tk, .inr (9, K)), (ln, .inr (3, N)), (fo, .inl (k.2.1, 3, .inl g4)), (ea, .inr (1, E)), (nw, .inl (k.2.1, 10, .inl f1)), (kp, .inl (k.2.1, 410, .inl f2)), (bx, .inl (k.2.1, 30, .inl f3)), (si, .inr (8, Z)), (y, .inr (12, yM)), (ytp, .inl (k.2.1, 1600, .inl ym1)), (yns, .inl (k.2.1, 3, .inl ym2)), (yss, .inl (k.2.1, 3, .inl ym3)), (ynw, .inl (k.2.1, 16, .inl ym4)), (ywe, .inl (k.2.1, 640, .inl ym5)), (yhbx, .inl (k.2.2.2, 3, .inl ym6)), (ybx, .inl (k.2.1, 48, .inl ym7))]) (w1 := []) hP hD [0] [1, 2, 3, 4, 5, 6, 7, 8, 9, 10, 11, 12, 13, 14, 15, 16, 17, 18, 19, 20, 21, 22] rfl rfl (by decide) (by decide) hk1 hFc hP1 hD1
    generalize H1 = H at hP hS ⊢
    have hP : va_P D classes [(pv, .inr (6, P)), (sl, .inl (k.2.1, 3, .inl g1)), (sp, .inr (6, P2)), (sl2, .inl (k.2.1, 3, .inl g2)), (tp, .inl (k.1, 1600, .inl g3)), (rd, .inr (7, Rd)), (tk, .inr (9, K)), (ln, .inr (3, N)), (fo, .inl (k.2.1, 3, .inl g4)), (ea, .inr (1, E)), (nw, .inl (k.2.1, 10, .inl f1)), (kp, .inl (k.2.1, 410, .inl f2)), (bx, .inl (k.2.1, 30, .inl f3)), (si, .inr (8, Z)), (y, .inr (12, yM)), (ytp, .inl (k.2.1, 1600, .inl ym1)), (yns, .inl (k.2.1, 3, .inl ym2)), (yss, .inl (k.2.1, 3, .inl ym3)), (ynw, .inl (k.2.1, 16, .inl ym4)), (ywe, .inl (k.2.1, 640, .inl ym5)), (yhbx, .inl (k.2.2.2, 3, .inl ym6)), (ybx, .inl (k.2.1, 48, .inl ym7))] H := hP
    have hD : va_D A [(pv, .inr (6, P)), (sl, .inl (k.2.1, 3, .inl g1)), (sp, .inr (6, P2)), (sl2, .inl (k.2.1, 3, .inl g2)), (tp, .inl (k.1, 1600, .inl g3)), (rd, .inr (7, Rd)), (tk, .inr (9, K)), (ln, .inr (3, N)), (fo, .inl (k.2.1, 3, .inl g4)), (ea, .inr (1, E)), (nw, .inl (k.2.1, 10, .inl f1)), (kp, .inl (k.2.1, 410, .inl f2)), (bx, .inl (k.2.1, 30, .inl f3)), (si, .inr (8, Z)), (y, .inr (12, yM)), (ytp, .inl (k.2.1, 1600, .inl ym1)), (yns, .inl (k.2.1, 3, .inl ym2)), (yss, .inl (k.2.1, 3, .inl ym3)), (ynw, .inl (k.2.1, 16, .inl ym4)), (ywe, .inl (k.2.1, 640, .inl ym5)), (yhbx, .inl (k.2.2.2, 3, .inl ym6)), (ybx, .inl (k.2.1, 48, .inl ym7))] := hD
    refine W.widen (k := 119) (n := 46443) (Nat.le_of_ble_eq_true rfl) (Nat.le_of_ble_eq_true rfl) ?_
    have hw9 := hw.symm; subst hw9
    refine lv_aload_n hx hb dL_law_276 rfl (lv_at hl 2 rfl) ?_
    refine lv_aload_n hx hb dL_law_277 rfl (lv_at hl 0 rfl) ?_
    refine lv_iload_n hx hb dL_law_278 rfl (lv_at hl 3 rfl) ?_
    refine lv_iconst (v := 1) hx hb dL_law_279 (by decide) ?_
    refine lv_iadd hx hb dL_law_280 ?_
    refine lv_topi (fun y_4 ey_4 => ?_)
    obtain rfl : y_4 = 1 := ey_4.trans (by decide)
    refine va_sld hx hb hX hbl hbA hS hin1 dL_law_281 ?_
    refine lv_topi (fun y_5 ey_5 => ?_)
    rw [show y_5 = p0 from ey_5.trans hp0.symm]
    have hPc := hP.sub (ws' := [(y, .inr (12, yM))]) [14] rfl
    have hDc := hD.sub (ws' := [(y, .inr (12, yM))]) [14] (by decide) rfl
    have hFc := va_free (wc := [(y, .inr (12, yM))]) hD hS hA [14] rfl
    refine va_calli (va_runV (As := [.int p0]) (rest := [.int (-1)]) ⟨hx, hb, hml, hown, hts⟩ (c_X12_end_a l D k H.size y yM p0 u_15_1 h_lt0) (cwV 1 hts (gd_V hgd m1590 m1591 m1592 m131 m1593) rfl rfl rfl (by decide +kernel) ⟨Nat.le_of_ble_eq_true rfl, Nat.le_of_ble_eq_true rfl⟩) (cP_V hPc hKX hDc (ci := 12) (q0 := 0) rfl rfl) rfl rfl hl.1 rfl (lv_room (Nat.le_of_ble_eq_true rfl)) dL_law_282 ⟨Nat.le_of_ble_eq_true rfl, Nat.le_of_ble_eq_true rfl⟩) hS (fun q _ h => hFc q h) hFc (fun r_6 u t H1 locs ht hvm hw hB hz1 hk1 hS => ?_)
    obtain ⟨hP1, hD1⟩ := hB
    rw [ht] at hP1
    obtain ⟨hP, hD⟩ := va_join (wr := [(pv, .inr (6, P)), (sl, .inl (k.2.1, 3, .inl g1)), (sp, .inr (6, P2)), (sl2, .inl (k.2.1, 3, .inl g2)), (tp, .inl (k.1, 1600, .inl g3)), (rd, .inr (7, Rd)), (tk, .inr (9, K)), (ln, .inr (3, N)), (fo, .inl (k.2.1, 3, .inl g4)), (ea, .inr (1, E)), (nw, .inl (k.2.1, 10, .inl f1)), (kp, .inl (k.2.1, 410, .inl f2)), (bx, .inl (k.2.1, 30, .inl f3)), (si, .inr (8, Z)), (ytp, .inl (k.2.1, 1600, .inl ym1)), (yns, .inl (k.2.1, 3, .inl ym2)), (yss, .inl (k.2.1, 3, .inl ym3)), (ynw, .inl (k.2.1, 16, .inl ym4)), (ywe, .inl (k.2.1, 640, .inl ym5)), (yhbx, .inl (k.2.2.2, 3, .inl ym6)), (ybx, .inl (k.2.1, 48, .inl ym7))]) (w1 := []) hP hD [14] [0, 1, 2, 3, 4, 5, 6, 7, 8, 9, 10, 11, 12, 13, 15, 16, 17, 18, 19, 20, 21] rfl rfl (by decide) (by decide) hk1 hFc hP1 hD1
    generalize H1 = H at hP hS ⊢
    have hP : va_P D classes [(pv, .inr (6, P)), (sl, .inl (k.2.1, 3, .inl g1)), (sp, .inr (6, P2)), (sl2, .inl (k.2.1, 3, .inl g2)), (tp, .inl (k.1, 1600, .inl g3)), (rd, .inr (7, Rd)), (tk, .inr (9, K)), (ln, .inr (3, N)), (fo, .inl (k.2.1, 3, .inl g4)), (ea, .inr (1, E)), (nw, .inl (k.2.1, 10, .inl f1)), (kp, .inl (k.2.1, 410, .inl f2)), (bx, .inl (k.2.1, 30, .inl f3)), (si, .inr (8, Z)), (ytp, .inl (k.2.1, 1600, .inl ym1)), (yns, .inl (k.2.1, 3, .inl ym2)), (yss, .inl (k.2.1, 3, .inl ym3)), (ynw, .inl (k.2.1, 16, .inl ym4)), (ywe, .inl (k.2.1, 640, .inl ym5)), (yhbx, .inl (k.2.2.2, 3, .inl ym6)), (ybx, .inl (k.2.1, 48, .inl ym7))] H := hP
    have hD : va_D A [(pv, .inr (6, P)), (sl, .inl (k.2.1, 3, .inl g1)), (sp, .inr (6, P2)), (sl2, .inl (k.2.1, 3, .inl g2)), (tp, .inl (k.1, 1600, .inl g3)), (rd, .inr (7, Rd)), (tk, .inr (9, K)), (ln, .inr (3, N)), (fo, .inl (k.2.1, 3, .inl g4)), (ea, .inr (1, E)), (nw, .inl (k.2.1, 10, .inl f1)), (kp, .inl (k.2.1, 410, .inl f2)), (bx, .inl (k.2.1, 30, .inl f3)), (si, .inr (8, Z)), (ytp, .inl (k.2.1, 1600, .inl ym1)), (yns, .inl (k.2.1, 3, .inl ym2)), (yss, .inl (k.2.1, 3, .inl ym3)), (ynw, .inl (k.2.1, 16, .inl ym4)), (ywe, .inl (k.2.1, 640, .inl ym5)), (yhbx, .inl (k.2.2.2, 3, .inl ym6)), (ybx, .inl (k.2.1, 48, .inl ym7))] := hD
    refine W.widen (k := 119) (n := 46443) (Nat.le_of_ble_eq_true rfl) (Nat.le_of_ble_eq_true rfl) ?_
    have hw9 := hw.symm; subst hw9
    refine lv_icmp_eq (tgt := 1645) hx hb dL_law_285 (by decide) (fun c_7 => ?_) (fun c_7 => ?_)
    · have c_7 : ((-1) : Int32) = (-1) := c_7
      exact law_tail rfl C0 hKX hA hA2 hbA hS (lv_sub hl [0, 1, 2, 3] rfl)
    · exact absurd rfl c_7
  have h_nlt0 : ¬ (p0 < 0) := h_lt0
  by_cases h_gt0 : 0 < p0
  · skip
    refine lv_aload_n hx hb dL_law_267 rfl (lv_at hl 1 rfl) ?_
    refine lv_aload_n hx hb dL_law_268 rfl (lv_at hl 0 rfl) ?_
    refine lv_iload_n hx hb dL_law_269 rfl (lv_at hl 3 rfl) ?_
    refine lv_iconst (v := 1) hx hb dL_law_270 (by decide) ?_
    refine lv_iadd hx hb dL_law_271 ?_
    refine lv_topi (fun y_8 ey_8 => ?_)
    obtain rfl : y_8 = 1 := ey_8.trans (by decide)
    refine va_sld hx hb hX hbl hbA hS hin1 dL_law_272 ?_
    refine lv_topi (fun y_9 ey_9 => ?_)
    rw [show y_9 = p0 from ey_9.trans hp0.symm]
    have hPc := hP.sub (ws' := [(x, .inr (11, F))]) [0] rfl
    have hDc := hD.sub (ws' := [(x, .inr (11, F))]) [0] (by decide) rfl
    have hFc := va_free (wc := [(x, .inr (11, F))]) hD hS hA [0] rfl
    refine va_calli (va_runV (As := [.int p0]) (rest := []) ⟨hx, hb, hml, hown, hts⟩ (c_X11_end_b l D k H.size x F p0 u_0_11 h_nlt0 h_gt0) (cwV 1 hts (gd_V hgd m618 m619 m620 m117 m621) rfl rfl rfl (by decide +kernel) ⟨Nat.le_of_ble_eq_true rfl, Nat.le_of_ble_eq_true rfl⟩) (cP_V hPc hKX hDc (ci := 11) (q0 := 0) rfl rfl) rfl rfl hl.1 rfl (lv_room (Nat.le_of_ble_eq_true rfl)) dL_law_273 ⟨Nat.le_of_ble_eq_true rfl, Nat.le_of_ble_eq_true rfl⟩) hS (fun q _ h => hFc q h) hFc (fun r_10 u t H1 locs ht hvm hw hB hz1 hk1 hS => ?_)
    obtain ⟨hP1, hD1⟩ := hB
    rw [ht] at hP1
    obtain ⟨hP, hD⟩ := va_join (wr := [(pv, .inr (6, P)), (sl, .inl (k.2.1, 3, .inl g1)), (sp, .inr (6, P2)), (sl2, .inl (k.2.1, 3, .inl g2)), (tp, .inl (k.1, 1600, .inl g3)), (rd, .inr (7, Rd)), (tk, .inr (9, K)), (ln, .inr (3, N)), (fo, .inl (k.2.1, 3, .inl g4)), (ea, .inr (1, E)), (nw, .inl (k.2.1, 10, .inl f1)), (kp, .inl (k.2.1, 410, .inl f2)), (bx, .inl (k.2.1, 30, .inl f3)), (si, .inr (8, Z)), (y, .inr (12, yM)), (ytp, .inl (k.2.1, 1600, .inl ym1)), (yns, .inl (k.2.1, 3, .inl ym2)), (yss, .inl (k.2.1, 3, .inl ym3)), (ynw, .inl (k.2.1, 16, .inl ym4)), (ywe, .inl (k.2.1, 640, .inl ym5)), (yhbx, .inl (k.2.2.2, 3, .inl ym6)), (ybx, .inl (k.2.1, 48, .inl ym7))]) (w1 := []) hP hD [0] [1, 2, 3, 4, 5, 6, 7, 8, 9, 10, 11, 12, 13, 14, 15, 16, 17, 18, 19, 20, 21, 22] rfl rfl (by decide) (by decide) hk1 hFc hP1 hD1
    generalize H1 = H at hP hS ⊢
    have hP : va_P D classes [(pv, .inr (6, P)), (sl, .inl (k.2.1, 3, .inl g1)), (sp, .inr (6, P2)), (sl2, .inl (k.2.1, 3, .inl g2)), (tp, .inl (k.1, 1600, .inl g3)), (rd, .inr (7, Rd)), (tk, .inr (9, K)), (ln, .inr (3, N)), (fo, .inl (k.2.1, 3, .inl g4)), (ea, .inr (1, E)), (nw, .inl (k.2.1, 10, .inl f1)), (kp, .inl (k.2.1, 410, .inl f2)), (bx, .inl (k.2.1, 30, .inl f3)), (si, .inr (8, Z)), (y, .inr (12, yM)), (ytp, .inl (k.2.1, 1600, .inl ym1)), (yns, .inl (k.2.1, 3, .inl ym2)), (yss, .inl (k.2.1, 3, .inl ym3)), (ynw, .inl (k.2.1, 16, .inl ym4)), (ywe, .inl (k.2.1, 640, .inl ym5)), (yhbx, .inl (k.2.2.2, 3, .inl ym6)), (ybx, .inl (k.2.1, 48, .inl ym7))] H := hP
    have hD : va_D A [(pv, .inr (6, P)), (sl, .inl (k.2.1, 3, .inl g1)), (sp, .inr (6, P2)), (sl2, .inl (k.2.1, 3, .inl g2)), (tp, .inl (k.1, 1600, .inl g3)), (rd, .inr (7, Rd)), (tk, .inr (9, K)), (ln, .inr (3, N)), (fo, .inl (k.2.1, 3, .inl g4)), (ea, .inr (1, E)), (nw, .inl (k.2.1, 10, .inl f1)), (kp, .inl (k.2.1, 410, .inl f2)), (bx, .inl (k.2.1, 30, .inl f3)), (si, .inr (8, Z)), (y, .inr (12, yM)), (ytp, .inl (k.2.1, 1600, .inl ym1)), (yns, .inl (k.2.1, 3, .inl ym2)), (yss, .inl (k.2.1, 3, .inl ym3)), (ynw, .inl (k.2.1, 16, .inl ym4)), (ywe, .inl (k.2.1, 640, .inl ym5)), (yhbx, .inl (k.2.2.2, 3, .inl ym6)), (ybx, .inl (k.2.1, 48, .inl ym7))] := hD
    refine W.widen (k := 119) (n := 46443) (Nat.le_of_ble_eq_true rfl) (Nat.le_of_ble_eq_true rfl) ?_
    have hw9 := hw.symm; subst hw9
    refine lv_aload_n hx hb dL_law_276 rfl (lv_at hl 2 rfl) ?_
    refine lv_aload_n hx hb dL_law_277 rfl (lv_at hl 0 rfl) ?_
    refine lv_iload_n hx hb dL_law_278 rfl (lv_at hl 3 rfl) ?_
    refine lv_iconst (v := 1) hx hb dL_law_279 (by decide) ?_
    refine lv_iadd hx hb dL_law_280 ?_
    refine lv_topi (fun y_11 ey_11 => ?_)
    obtain rfl : y_11 = 1 := ey_11.trans (by decide)
    refine va_sld hx hb hX hbl hbA hS hin1 dL_law_281 ?_
    refine lv_topi (fun y_12 ey_12 => ?_)
    rw [show y_12 = p0 from ey_12.trans hp0.symm]
    have hPc := hP.sub (ws' := [(y, .inr (12, yM))]) [14] rfl
    have hDc := hD.sub (ws' := [(y, .inr (12, yM))]) [14] (by decide) rfl
    have hFc := va_free (wc := [(y, .inr (12, yM))]) hD hS hA [14] rfl
    refine va_calli (va_runV (As := [.int p0]) (rest := [.int (-1)]) ⟨hx, hb, hml, hown, hts⟩ (c_X12_end_b l D k H.size y yM p0 u_15_1 h_nlt0 h_gt0) (cwV 1 hts (gd_V hgd m1590 m1591 m1592 m131 m1593) rfl rfl rfl (by decide +kernel) ⟨Nat.le_of_ble_eq_true rfl, Nat.le_of_ble_eq_true rfl⟩) (cP_V hPc hKX hDc (ci := 12) (q0 := 0) rfl rfl) rfl rfl hl.1 rfl (lv_room (Nat.le_of_ble_eq_true rfl)) dL_law_282 ⟨Nat.le_of_ble_eq_true rfl, Nat.le_of_ble_eq_true rfl⟩) hS (fun q _ h => hFc q h) hFc (fun r_13 u t H1 locs ht hvm hw hB hz1 hk1 hS => ?_)
    obtain ⟨hP1, hD1⟩ := hB
    rw [ht] at hP1
    obtain ⟨hP, hD⟩ := va_join (wr := [(pv, .inr (6, P)), (sl, .inl (k.2.1, 3, .inl g1)), (sp, .inr (6, P2)), (sl2, .inl (k.2.1, 3, .inl g2)), (tp, .inl (k.1, 1600, .inl g3)), (rd, .inr (7, Rd)), (tk, .inr (9, K)), (ln, .inr (3, N)), (fo, .inl (k.2.1, 3, .inl g4)), (ea, .inr (1, E)), (nw, .inl (k.2.1, 10, .inl f1)), (kp, .inl (k.2.1, 410, .inl f2)), (bx, .inl (k.2.1, 30, .inl f3)), (si, .inr (8, Z)), (ytp, .inl (k.2.1, 1600, .inl ym1)), (yns, .inl (k.2.1, 3, .inl ym2)), (yss, .inl (k.2.1, 3, .inl ym3)), (ynw, .inl (k.2.1, 16, .inl ym4)), (ywe, .inl (k.2.1, 640, .inl ym5)), (yhbx, .inl (k.2.2.2, 3, .inl ym6)), (ybx, .inl (k.2.1, 48, .inl ym7))]) (w1 := []) hP hD [14] [0, 1, 2, 3, 4, 5, 6, 7, 8, 9, 10, 11, 12, 13, 15, 16, 17, 18, 19, 20, 21] rfl rfl (by decide) (by decide) hk1 hFc hP1 hD1
    generalize H1 = H at hP hS ⊢
    have hP : va_P D classes [(pv, .inr (6, P)), (sl, .inl (k.2.1, 3, .inl g1)), (sp, .inr (6, P2)), (sl2, .inl (k.2.1, 3, .inl g2)), (tp, .inl (k.1, 1600, .inl g3)), (rd, .inr (7, Rd)), (tk, .inr (9, K)), (ln, .inr (3, N)), (fo, .inl (k.2.1, 3, .inl g4)), (ea, .inr (1, E)), (nw, .inl (k.2.1, 10, .inl f1)), (kp, .inl (k.2.1, 410, .inl f2)), (bx, .inl (k.2.1, 30, .inl f3)), (si, .inr (8, Z)), (ytp, .inl (k.2.1, 1600, .inl ym1)), (yns, .inl (k.2.1, 3, .inl ym2)), (yss, .inl (k.2.1, 3, .inl ym3)), (ynw, .inl (k.2.1, 16, .inl ym4)), (ywe, .inl (k.2.1, 640, .inl ym5)), (yhbx, .inl (k.2.2.2, 3, .inl ym6)), (ybx, .inl (k.2.1, 48, .inl ym7))] H := hP
    have hD : va_D A [(pv, .inr (6, P)), (sl, .inl (k.2.1, 3, .inl g1)), (sp, .inr (6, P2)), (sl2, .inl (k.2.1, 3, .inl g2)), (tp, .inl (k.1, 1600, .inl g3)), (rd, .inr (7, Rd)), (tk, .inr (9, K)), (ln, .inr (3, N)), (fo, .inl (k.2.1, 3, .inl g4)), (ea, .inr (1, E)), (nw, .inl (k.2.1, 10, .inl f1)), (kp, .inl (k.2.1, 410, .inl f2)), (bx, .inl (k.2.1, 30, .inl f3)), (si, .inr (8, Z)), (ytp, .inl (k.2.1, 1600, .inl ym1)), (yns, .inl (k.2.1, 3, .inl ym2)), (yss, .inl (k.2.1, 3, .inl ym3)), (ynw, .inl (k.2.1, 16, .inl ym4)), (ywe, .inl (k.2.1, 640, .inl ym5)), (yhbx, .inl (k.2.2.2, 3, .inl ym6)), (ybx, .inl (k.2.1, 48, .inl ym7))] := hD
    refine W.widen (k := 119) (n := 46443) (Nat.le_of_ble_eq_true rfl) (Nat.le_of_ble_eq_true rfl) ?_
    have hw9 := hw.symm; subst hw9
    refine lv_icmp_eq (tgt := 1645) hx hb dL_law_285 (by decide) (fun c_14 => ?_) (fun c_14 => ?_)
    · have c_14 : ((-1) : Int32) = (-1) := c_14
      exact law_tail rfl C0 hKX hA hA2 hbA hS (lv_sub hl [0, 1, 2, 3] rfl)
    · exact absurd rfl c_14
  have h_ngt0 : ¬ (0 < p0) := h_gt0
  refine lv_aload_n hx hb dL_law_267 rfl (lv_at hl 1 rfl) ?_
  refine lv_aload_n hx hb dL_law_268 rfl (lv_at hl 0 rfl) ?_
  refine lv_iload_n hx hb dL_law_269 rfl (lv_at hl 3 rfl) ?_
  refine lv_iconst (v := 1) hx hb dL_law_270 (by decide) ?_
  refine lv_iadd hx hb dL_law_271 ?_
  refine lv_topi (fun y_15 ey_15 => ?_)
  obtain rfl : y_15 = 1 := ey_15.trans (by decide)
  refine va_sld hx hb hX hbl hbA hS hin1 dL_law_272 ?_
  refine lv_topi (fun y_16 ey_16 => ?_)
  rw [show y_16 = p0 from ey_16.trans hp0.symm]
  have hPc := hP.sub (ws' := [(x, .inr (11, F))]) [0] rfl
  have hDc := hD.sub (ws' := [(x, .inr (11, F))]) [0] (by decide) rfl
  have hFc := va_free (wc := [(x, .inr (11, F))]) hD hS hA [0] rfl
  refine va_calli (va_runV (As := [.int p0]) (rest := []) ⟨hx, hb, hml, hown, hts⟩ (c_X11_end_c l D k H.size x F p0 u_0_11 h_nlt0 h_ngt0) (cwV 1 hts (gd_V hgd m618 m619 m620 m117 m621) rfl rfl rfl (by decide +kernel) ⟨Nat.le_of_ble_eq_true rfl, Nat.le_of_ble_eq_true rfl⟩) (cP_V hPc hKX hDc (ci := 11) (q0 := 0) rfl rfl) rfl rfl hl.1 rfl (lv_room (Nat.le_of_ble_eq_true rfl)) dL_law_273 ⟨Nat.le_of_ble_eq_true rfl, Nat.le_of_ble_eq_true rfl⟩) hS (fun q _ h => hFc q h) hFc (fun r_17 u t H1 locs ht hvm hw hB hz1 hk1 hS => ?_)
  obtain ⟨hP1, hD1⟩ := hB
  rw [ht] at hP1
  obtain ⟨hP, hD⟩ := va_join (wr := [(pv, .inr (6, P)), (sl, .inl (k.2.1, 3, .inl g1)), (sp, .inr (6, P2)), (sl2, .inl (k.2.1, 3, .inl g2)), (tp, .inl (k.1, 1600, .inl g3)), (rd, .inr (7, Rd)), (tk, .inr (9, K)), (ln, .inr (3, N)), (fo, .inl (k.2.1, 3, .inl g4)), (ea, .inr (1, E)), (nw, .inl (k.2.1, 10, .inl f1)), (kp, .inl (k.2.1, 410, .inl f2)), (bx, .inl (k.2.1, 30, .inl f3)), (si, .inr (8, Z)), (y, .inr (12, yM)), (ytp, .inl (k.2.1, 1600, .inl ym1)), (yns, .inl (k.2.1, 3, .inl ym2)), (yss, .inl (k.2.1, 3, .inl ym3)), (ynw, .inl (k.2.1, 16, .inl ym4)), (ywe, .inl (k.2.1, 640, .inl ym5)), (yhbx, .inl (k.2.2.2, 3, .inl ym6)), (ybx, .inl (k.2.1, 48, .inl ym7))]) (w1 := []) hP hD [0] [1, 2, 3, 4, 5, 6, 7, 8, 9, 10, 11, 12, 13, 14, 15, 16, 17, 18, 19, 20, 21, 22] rfl rfl (by decide) (by decide) hk1 hFc hP1 hD1
  generalize H1 = H at hP hS ⊢
  have hP : va_P D classes [(pv, .inr (6, P)), (sl, .inl (k.2.1, 3, .inl g1)), (sp, .inr (6, P2)), (sl2, .inl (k.2.1, 3, .inl g2)), (tp, .inl (k.1, 1600, .inl g3)), (rd, .inr (7, Rd)), (tk, .inr (9, K)), (ln, .inr (3, N)), (fo, .inl (k.2.1, 3, .inl g4)), (ea, .inr (1, E)), (nw, .inl (k.2.1, 10, .inl f1)), (kp, .inl (k.2.1, 410, .inl f2)), (bx, .inl (k.2.1, 30, .inl f3)), (si, .inr (8, Z)), (y, .inr (12, yM)), (ytp, .inl (k.2.1, 1600, .inl ym1)), (yns, .inl (k.2.1, 3, .inl ym2)), (yss, .inl (k.2.1, 3, .inl ym3)), (ynw, .inl (k.2.1, 16, .inl ym4)), (ywe, .inl (k.2.1, 640, .inl ym5)), (yhbx, .inl (k.2.2.2, 3, .inl ym6)), (ybx, .inl (k.2.1, 48, .inl ym7))] H := hP
  have hD : va_D A [(pv, .inr (6, P)), (sl, .inl (k.2.1, 3, .inl g1)), (sp, .inr (6, P2)), (sl2, .inl (k.2.1, 3, .inl g2)), (tp, .inl (k.1, 1600, .inl g3)), (rd, .inr (7, Rd)), (tk, .inr (9, K)), (ln, .inr (3, N)), (fo, .inl (k.2.1, 3, .inl g4)), (ea, .inr (1, E)), (nw, .inl (k.2.1, 10, .inl f1)), (kp, .inl (k.2.1, 410, .inl f2)), (bx, .inl (k.2.1, 30, .inl f3)), (si, .inr (8, Z)), (y, .inr (12, yM)), (ytp, .inl (k.2.1, 1600, .inl ym1)), (yns, .inl (k.2.1, 3, .inl ym2)), (yss, .inl (k.2.1, 3, .inl ym3)), (ynw, .inl (k.2.1, 16, .inl ym4)), (ywe, .inl (k.2.1, 640, .inl ym5)), (yhbx, .inl (k.2.2.2, 3, .inl ym6)), (ybx, .inl (k.2.1, 48, .inl ym7))] := hD
  refine W.widen (k := 119) (n := 46443) (Nat.le_of_ble_eq_true rfl) (Nat.le_of_ble_eq_true rfl) ?_
  have hw9 := hw.symm; subst hw9
  refine lv_aload_n hx hb dL_law_276 rfl (lv_at hl 2 rfl) ?_
  refine lv_aload_n hx hb dL_law_277 rfl (lv_at hl 0 rfl) ?_
  refine lv_iload_n hx hb dL_law_278 rfl (lv_at hl 3 rfl) ?_
  refine lv_iconst (v := 1) hx hb dL_law_279 (by decide) ?_
  refine lv_iadd hx hb dL_law_280 ?_
  refine lv_topi (fun y_18 ey_18 => ?_)
  obtain rfl : y_18 = 1 := ey_18.trans (by decide)
  refine va_sld hx hb hX hbl hbA hS hin1 dL_law_281 ?_
  refine lv_topi (fun y_19 ey_19 => ?_)
  rw [show y_19 = p0 from ey_19.trans hp0.symm]
  have hPc := hP.sub (ws' := [(y, .inr (12, yM))]) [14] rfl
  have hDc := hD.sub (ws' := [(y, .inr (12, yM))]) [14] (by decide) rfl
  have hFc := va_free (wc := [(y, .inr (12, yM))]) hD hS hA [14] rfl
  refine va_calli (va_runV (As := [.int p0]) (rest := [.int p0]) ⟨hx, hb, hml, hown, hts⟩ (c_X12_end_c l D k H.size y yM p0 u_15_1 h_nlt0 h_ngt0) (cwV 1 hts (gd_V hgd m1590 m1591 m1592 m131 m1593) rfl rfl rfl (by decide +kernel) ⟨Nat.le_of_ble_eq_true rfl, Nat.le_of_ble_eq_true rfl⟩) (cP_V hPc hKX hDc (ci := 12) (q0 := 0) rfl rfl) rfl rfl hl.1 rfl (lv_room (Nat.le_of_ble_eq_true rfl)) dL_law_282 ⟨Nat.le_of_ble_eq_true rfl, Nat.le_of_ble_eq_true rfl⟩) hS (fun q _ h => hFc q h) hFc (fun r_20 u t H1 locs ht hvm hw hB hz1 hk1 hS => ?_)
  obtain ⟨hP1, hD1⟩ := hB
  rw [ht] at hP1
  obtain ⟨hP, hD⟩ := va_join (wr := [(pv, .inr (6, P)), (sl, .inl (k.2.1, 3, .inl g1)), (sp, .inr (6, P2)), (sl2, .inl (k.2.1, 3, .inl g2)), (tp, .inl (k.1, 1600, .inl g3)), (rd, .inr (7, Rd)), (tk, .inr (9, K)), (ln, .inr (3, N)), (fo, .inl (k.2.1, 3, .inl g4)), (ea, .inr (1, E)), (nw, .inl (k.2.1, 10, .inl f1)), (kp, .inl (k.2.1, 410, .inl f2)), (bx, .inl (k.2.1, 30, .inl f3)), (si, .inr (8, Z)), (ytp, .inl (k.2.1, 1600, .inl ym1)), (yns, .inl (k.2.1, 3, .inl ym2)), (yss, .inl (k.2.1, 3, .inl ym3)), (ynw, .inl (k.2.1, 16, .inl ym4)), (ywe, .inl (k.2.1, 640, .inl ym5)), (yhbx, .inl (k.2.2.2, 3, .inl ym6)), (ybx, .inl (k.2.1, 48, .inl ym7))]) (w1 := []) hP hD [14] [0, 1, 2, 3, 4, 5, 6, 7, 8, 9, 10, 11, 12, 13, 15, 16, 17, 18, 19, 20, 21] rfl rfl (by decide) (by decide) hk1 hFc hP1 hD1
  generalize H1 = H at hP hS ⊢
  have hP : va_P D classes [(pv, .inr (6, P)), (sl, .inl (k.2.1, 3, .inl g1)), (sp, .inr (6, P2)), (sl2, .inl (k.2.1, 3, .inl g2)), (tp, .inl (k.1, 1600, .inl g3)), (rd, .inr (7, Rd)), (tk, .inr (9, K)), (ln, .inr (3, N)), (fo, .inl (k.2.1, 3, .inl g4)), (ea, .inr (1, E)), (nw, .inl (k.2.1, 10, .inl f1)), (kp, .inl (k.2.1, 410, .inl f2)), (bx, .inl (k.2.1, 30, .inl f3)), (si, .inr (8, Z)), (ytp, .inl (k.2.1, 1600, .inl ym1)), (yns, .inl (k.2.1, 3, .inl ym2)), (yss, .inl (k.2.1, 3, .inl ym3)), (ynw, .inl (k.2.1, 16, .inl ym4)), (ywe, .inl (k.2.1, 640, .inl ym5)), (yhbx, .inl (k.2.2.2, 3, .inl ym6)), (ybx, .inl (k.2.1, 48, .inl ym7))] H := hP
  have hD : va_D A [(pv, .inr (6, P)), (sl, .inl (k.2.1, 3, .inl g1)), (sp, .inr (6, P2)), (sl2, .inl (k.2.1, 3, .inl g2)), (tp, .inl (k.1, 1600, .inl g3)), (rd, .inr (7, Rd)), (tk, .inr (9, K)), (ln, .inr (3, N)), (fo, .inl (k.2.1, 3, .inl g4)), (ea, .inr (1, E)), (nw, .inl (k.2.1, 10, .inl f1)), (kp, .inl (k.2.1, 410, .inl f2)), (bx, .inl (k.2.1, 30, .inl f3)), (si, .inr (8, Z)), (ytp, .inl (k.2.1, 1600, .inl ym1)), (yns, .inl (k.2.1, 3, .inl ym2)), (yss, .inl (k.2.1, 3, .inl ym3)), (ynw, .inl (k.2.1, 16, .inl ym4)), (ywe, .inl (k.2.1, 640, .inl ym5)), (yhbx, .inl (k.2.2.2, 3, .inl ym6)), (ybx, .inl (k.2.1, 48, .inl ym7))] := hD
  refine W.widen (k := 119) (n := 46443) (Nat.le_of_ble_eq_true rfl) (Nat.le_of_ble_eq_true rfl) ?_
  have hw9 := hw.symm; subst hw9
  refine lv_icmp_eq (tgt := 1645) hx hb dL_law_285 (by decide) (fun c_21 => ?_) (fun c_21 => ?_)
  · have c_21 : (p0 : Int32) = p0 := c_21
    exact law_tail rfl C0 hKX hA hA2 hbA hS (lv_sub hl [0, 1, 2, 3] rfl)
  · exact absurd rfl c_21

set_option maxHeartbeats 4000000 in
set_option maxRecDepth 100000 in
theorem law_2 {p : Program} {l : Launch} {e : Env} {s : State} {m : MethodId} {below : List Frame} {meth : Method} {c : Code} {D : va_G} {k : ClassId × ClassId × ClassId × ClassId} {A : Nat → Prop} {b L : Nat} {xs : Nat → Int32} (hL : L = 6) (C0 : lw_At p s m meth c b L xs) (hKX : va_K D classes (TY k) s ∧ cX s) (hA : ∀ q : Nat, s.heap.size ≤ q → A q) (hA2 : ∀ q : Nat, A q → s.heap.size ≤ q) (hbA : ¬ A b) {x y : Nat} {H : Heap} {locs : List Loc} (hF : Fresh D k A x y H) (hS : va_S A s.heap H locs) {ls : Array Slot} (hl : lv_has ls 4 [(0, .ref b), (1, .ref x), (2, .ref y), (3, .int 0)]) : W p l e room_1 s m #[Value.ref b] below meth c H locs 119 46443 (lw_Z below #[Value.ref b] s) (F0 m 290 ls []) := by
  obtain ⟨hx, hb, hr, hml, hown, hts, hX, hbl, hlocks, hgv⟩ := id C0
  have hown : s.vm.findClass RL = some m.cls := hown
  have hK := hKX.1
  have hgd : ∀ w ∈ gd, w ∈ lw_tbl := fun w h => (List.mem_filter.mp h).1
  have hg : ∀ w ∈ gd, w.before #[Value.ref b] s = true := fun w h => hts w (hgd w h)
  subst hL
  obtain ⟨F, pv, P, sl, g1, sp, P2, sl2, g2, tp, g3, rd, Rd, tk, K, ln, N, fo, g4, ea, E, nw, f1, kp, f2, bx, f3, si, Z, yM, ytp, ym1, yns, ym2, yss, ym3, ynw, ym4, ywe, ym5, yhbx, ym6, ybx, ym7, hf_0, hf_1, hf_2, hf_3, hf_4, hf_6, hf_7, hf_8, hf_10, hf_11, hf_14, hf_15, hf_18, hf_19, hf_21, hP, hD⟩ := hF
  have u_0_0 : F[0]? = some (.ref pv) := hf_0.1
  have u_0_1 : F[1]? = some (.ref sp) := hf_0.2.1
  have u_0_11 : F[11]? = some (.int 0) := hf_0.2.2.1
  have u_0_12 : F[12]? = some (.int 0) := hf_0.2.2.2.1
  have u_0_2 : F[2]? = some (.ref tp) := hf_0.2.2.2.2.1
  have u_0_3 : F[3]? = some (.ref rd) := hf_0.2.2.2.2.2.1
  have u_0_4 : F[4]? = some (.ref ln) := hf_0.2.2.2.2.2.2.1
  have u_0_8 : F[8]? = some (.ref ea) := hf_0.2.2.2.2.2.2.2.1
  have u_0_9 : F[9]? = some (.ref si) := hf_0.2.2.2.2.2.2.2.2
  have u_3_10 : P2[10]? = some (.int 0) := hf_3.1
  have u_3_11 : P2[11]? = some (.int 0) := hf_3.2.1
  have u_3_12 : P2[12]? = some (.int 0) := hf_3.2.2.1
  have u_3_13 : P2[13]? = some (.int 0) := hf_3.2.2.2.1
  have u_3_14 : P2[14]? = some (.int 30) := hf_3.2.2.2.2.1
  have u_3_15 : P2[15]? = some (.int 10) := hf_3.2.2.2.2.2.1
  have u_3_16 : P2[16]? = some (.int 0) := hf_3.2.2.2.2.2.2.1
  have u_3_6 : P2[6]? = some (.ref sl2) := hf_3.2.2.2.2.2.2.2.1
  have u_3_9 : P2[9]? = some (.int 0) := hf_3.2.2.2.2.2.2.2.2
  have u_6_0 : Rd[0]? = some (.ref tk) := hf_6.1
  have u_6_5 : Rd[5]? = some (.ref sp) := hf_6.2.1
  have u_6_6 : Rd[6]? = some (.int 0) := hf_6.2.2.1
  have u_6_7 : Rd[7]? = some (.int 0) := hf_6.2.2.2.1
  have u_6_8 : Rd[8]? = some (.int 0) := hf_6.2.2.2.2
  have u_7_0 : K[0]? = some (.ref tp) := hf_7.1
  have u_7_1 : K[1]? = some (.int 0) := hf_7.2.1
  have u_7_2 : K[2]? = some (.int 0) := hf_7.2.2.1
  have u_7_3 : K[3]? = some (.int 0) := hf_7.2.2.2.1
  have u_7_4 : K[4]? = some (.int 0) := hf_7.2.2.2.2.1
  have u_7_7 : K[7]? = some (.int 0) := hf_7.2.2.2.2.2.1
  have u_7_8 : K[8]? = some (.int (-1)) := hf_7.2.2.2.2.2.2
  have u_8_1 : N[1]? = some (.ref fo) := hf_8.1
  have u_8_4 : N[4]? = some (.ref pv) := hf_8.2
  have u_10_0 : E[0]? = some (.ref nw) := hf_10.1
  have u_10_1 : E[1]? = some (.ref kp) := hf_10.2.1
  have u_10_2 : E[2]? = some (.ref bx) := hf_10.2.2.1
  have u_10_3 : E[3]? = some (.int 0) := hf_10.2.2.2.1
  have u_10_4 : E[4]? = some (.int 0) := hf_10.2.2.2.2.1
  have u_10_5 : E[5]? = some (.int 0) := hf_10.2.2.2.2.2
  have u_14_5 : Z[5]? = some (.int 0) := hf_14.1
  have u_14_6 : Z[6]? = some (.int 0) := hf_14.2
  have u_15_1 : yM[1]? = some (.int 0) := hf_15.2.1
  have u_15_2 : yM[2]? = some (.int 0) := hf_15.2.2.1
  have u_15_21 : yM[21]? = some (.int 0) := hf_15.2.2.2.1
  have u_15_22 : yM[22]? = some (.int 0) := hf_15.2.2.2.2.1
  have u_15_3 : yM[3]? = some (.int (-1)) := hf_15.2.2.2.2.2.1
  have u_15_34 : yM[34]? = some (.ref yns) := hf_15.2.2.2.2.2.2.1
  have u_15_4 : yM[4]? = some (.int 0) := hf_15.2.2.2.2.2.2.2.1
  have u_15_44 : yM[44]? = some (.ref yss) := hf_15.2.2.2.2.2.2.2.2.1
  have u_15_45 : yM[45]? = some (.int 0) := hf_15.2.2.2.2.2.2.2.2.2.1
  have u_15_46 : yM[46]? = some (.int 0) := hf_15.2.2.2.2.2.2.2.2.2.2.1
  have u_15_47 : yM[47]? = some (.int 0) := hf_15.2.2.2.2.2.2.2.2.2.2.2.1
  have u_15_48 : yM[48]? = some (.int 0) := hf_15.2.2.2.2.2.2.2.2.2.2.2.2.1
  have u_15_49 : yM[49]? = some (.int 0) := hf_15.2.2.2.2.2.2.2.2.2.2.2.2.2.1
  have u_15_5 : yM[5]? = some (.int 0) := hf_15.2.2.2.2.2.2.2.2.2.2.2.2.2.2.1
  have u_15_50 : yM[50]? = some (.int 0) := hf_15.2.2.2.2.2.2.2.2.2.2.2.2.2.2.2.1
  have u_15_51 : yM[51]? = some (.int 0) := hf_15.2.2.2.2.2.2.2.2.2.2.2.2.2.2.2.2.1
  have u_15_52 : yM[52]? = some (.int 0) := hf_15.2.2.2.2.2.2.2.2.2.2.2.2.2.2.2.2.2.1
  have u_15_53 : yM[53]? = some (.int 0) := hf_15.2.2.2.2.2.2.2.2.2.2.2.2.2.2.2.2.2.2.1
  have u_15_54 : yM[54]? = some (.int 0) := hf_15.2.2.2.2.2.2.2.2.2.2.2.2.2.2.2.2.2.2.2.1
  have u_15_55 : yM[55]? = some (.int 30) := hf_15.2.2.2.2.2.2.2.2.2.2.2.2.2.2.2.2.2.2.2.2.1
  have u_15_56 : yM[56]? = some (.int 10) := hf_15.2.2.2.2.2.2.2.2.2.2.2.2.2.2.2.2.2.2.2.2.2.1
  have u_15_6 : yM[6]? = some (.int 0) := hf_15.2.2.2.2.2.2.2.2.2.2.2.2.2.2.2.2.2.2.2.2.2.2.1
  have u_15_66 : yM[66]? = some (.int 0) := hf_15.2.2.2.2.2.2.2.2.2.2.2.2.2.2.2.2.2.2.2.2.2.2.2.1
  have u_15_7 : yM[7]? = some (.int 0) := hf_15.2.2.2.2.2.2.2.2.2.2.2.2.2.2.2.2.2.2.2.2.2.2.2.2.1
  have u_15_76 : yM[76]? = some (.ref ynw) := hf_15.2.2.2.2.2.2.2.2.2.2.2.2.2.2.2.2.2.2.2.2.2.2.2.2.2.1
  have u_15_78 : yM[78]? = some (.int 0) := hf_15.2.2.2.2.2.2.2.2.2.2.2.2.2.2.2.2.2.2.2.2.2.2.2.2.2.2.2.1
  have u_15_79 : yM[79]? = some (.int 0) := hf_15.2.2.2.2.2.2.2.2.2.2.2.2.2.2.2.2.2.2.2.2.2.2.2.2.2.2.2.2.1
  have u_15_8 : yM[8]? = some (.int 0) := hf_15.2.2.2.2.2.2.2.2.2.2.2.2.2.2.2.2.2.2.2.2.2.2.2.2.2.2.2.2.2.1
  have u_15_85 : yM[85]? = some (.int 0) := hf_15.2.2.2.2.2.2.2.2.2.2.2.2.2.2.2.2.2.2.2.2.2.2.2.2.2.2.2.2.2.2.1
  have u_15_87 : yM[87]? = some (.ref yhbx) := hf_15.2.2.2.2.2.2.2.2.2.2.2.2.2.2.2.2.2.2.2.2.2.2.2.2.2.2.2.2.2.2.2.2.1
  have u_15_9 : yM[9]? = some (.long 0) := hf_15.2.2.2.2.2.2.2.2.2.2.2.2.2.2.2.2.2.2.2.2.2.2.2.2.2.2.2.2.2.2.2.2.2.2
  have u_18_0 : ym3 0 = 0 := hf_18.1
  have u_18_1 : ym3 1 = 1 := hf_18.2.1
  have u_18_2 : ym3 2 = 0 := hf_18.2.2
  have u_19_0 : ym4 0 = (-1) := hf_19.1
  have u_19_4 : ym4 4 = 0 := hf_19.2.1
  have u_19_5 : ym4 5 = 0 := hf_19.2.2.1
  have u_19_6 : ym4 6 = 0 := hf_19.2.2.2.1
  have u_19_7 : ym4 7 = 0 := hf_19.2.2.2.2.1
  have u_19_8 : ym4 8 = 0 := hf_19.2.2.2.2.2.1
  have u_19_9 : ym4 9 = 0 := hf_19.2.2.2.2.2.2
  have u_21_all : (∀ j, ym6 j = 0) := hf_21
  have hin1 : vp_in 1 6 := (show ¬ ((1 : Int32) < 0 ∨ 6 ≤ (1 : Int32).toNatClampNeg) from by decide)
  have hin2 : vp_in 2 6 := (show ¬ ((2 : Int32) < 0 ∨ 6 ≤ (2 : Int32).toNatClampNeg) from by decide)
  have hin3 : vp_in 3 6 := (show ¬ ((3 : Int32) < 0 ∨ 6 ≤ (3 : Int32).toNatClampNeg) from by decide)
  have hin4 : vp_in 4 6 := (show ¬ ((4 : Int32) < 0 ∨ 6 ≤ (4 : Int32).toNatClampNeg) from by decide)
  have hin5 : vp_in 5 6 := (show ¬ ((5 : Int32) < 0 ∨ 6 ≤ (5 : Int32).toNatClampNeg) from by decide)
  obtain ⟨p0, hp0⟩ : ∃ z, z = xs 1 := ⟨_, rfl⟩
  obtain ⟨p1, hp1⟩ : ∃ z, z = xs 2 := ⟨_, rfl⟩
  obtain ⟨p2, hp2⟩ : ∃ z, z = xs 3 := ⟨_, rfl⟩
  obtain ⟨p3, hp3⟩ : ∃ z, z = xs 4 := ⟨_, rfl⟩
  obtain ⟨p4, hp4⟩ : ∃ z, z = xs 5 := ⟨_, rfl⟩
  refine lv_aload_n hx hb dL_law_290 rfl (lv_at hl 1 rfl) ?_
  have hPc := hP.sub (ws' := [(x, .inr (11, F)), (rd, .inr (7, Rd)), (sp, .inr (6, P2)), (sl2, .inl (k.2.1, 3, .inl g2)), (tk, .inr (9, K)), (tp, .inl (k.1, 1600, .inl g3)), (ln, .inr (3, N)), (fo, .inl (k.2.1, 3, .inl g4)), (ea, .inr (1, E)), (nw, .inl (k.2.1, 10, .inl f1)), (kp, .inl (k.2.1, 410, .inl f2)), (si, .inr (8, Z))]) [0, 6, 3, 4, 7, 5, 8, 9, 10, 11, 12, 14] rfl
  have hDc := hD.sub (ws' := [(x, .inr (11, F)), (rd, .inr (7, Rd)), (sp, .inr (6, P2)), (sl2, .inl (k.2.1, 3, .inl g2)), (tk, .inr (9, K)), (tp, .inl (k.1, 1600, .inl g3)), (ln, .inr (3, N)), (fo, .inl (k.2.1, 3, .inl g4)), (ea, .inr (1, E)), (nw, .inl (k.2.1, 10, .inl f1)), (kp, .inl (k.2.1, 410, .inl f2)), (si, .inr (8, Z))]) [0, 6, 3, 4, 7, 5, 8, 9, 10, 11, 12, 14] (by decide) rfl
  have hFc := va_free (wc := [(x, .inr (11, F)), (rd, .inr (7, Rd)), (sp, .inr (6, P2)), (sl2, .inl (k.2.1, 3, .inl g2)), (tk, .inr (9, K)), (tp, .inl (k.1, 1600, .inl g3)), (ln, .inr (3, N)), (fo, .inl (k.2.1, 3, .inl g4)), (ea, .inr (1, E)), (nw, .inl (k.2.1, 10, .inl f1)), (kp, .inl (k.2.1, 410, .inl f2)), (si, .inr (8, Z))]) hD hS hA [0, 6, 3, 4, 7, 5, 8, 9, 10, 11, 12, 14] rfl
  refine va_calli (va_runV (As := []) (rest := []) ⟨hx, hb, hml, hown, hts⟩ (c_X11_pavement l D k H.size x pv sp tp rd ln ea si tk sl2 fo nw kp bx F Rd P2 K N E Z g2 g3 g4 f1 f2 u_0_0 u_0_1 u_0_11 u_0_12 u_0_2 u_0_3 u_0_4 u_0_8 u_0_9 u_6_0 u_6_5 u_6_6 u_6_7 u_6_8 u_3_10 u_3_11 u_3_12 u_3_13 u_3_14 u_3_15 u_3_16 u_3_6 u_3_9 u_7_0 u_7_1 u_7_2 u_7_3 u_7_4 u_7_7 u_7_8 u_8_1 u_8_4 u_10_0 u_10_1 u_10_2 u_10_3 u_10_4 u_10_5 u_14_5 u_14_6) (cwV 0 hts (gd_V hgd m622 m623 m624 m117 m625) rfl rfl rfl (by decide +kernel) ⟨Nat.le_of_ble_eq_true rfl, Nat.le_of_ble_eq_true rfl⟩) (cP_V hPc hKX hDc (ci := 11) (q0 := 0) rfl rfl) rfl rfl hl.1 rfl (lv_room (Nat.le_of_ble_eq_true rfl)) dL_law_291 ⟨Nat.le_of_ble_eq_true rfl, Nat.le_of_ble_eq_true rfl⟩) hS (fun q _ h => hFc q h) hFc (fun r_1 u t H1 locs ht hvm hw hB hz1 hk1 hS => ?_)
  obtain ⟨hP1, hD1⟩ := hB
  rw [ht] at hP1
  obtain ⟨hP, hD⟩ := va_join (wr := [(pv, .inr (6, P)), (sl, .inl (k.2.1, 3, .inl g1)), (bx, .inl (k.2.1, 30, .inl f3)), (y, .inr (12, yM)), (ytp, .inl (k.2.1, 1600, .inl ym1)), (yns, .inl (k.2.1, 3, .inl ym2)), (yss, .inl (k.2.1, 3, .inl ym3)), (ynw, .inl (k.2.1, 16, .inl ym4)), (ywe, .inl (k.2.1, 640, .inl ym5)), (yhbx, .inl (k.2.2.2, 3, .inl ym6)), (ybx, .inl (k.2.1, 48, .inl ym7))]) (w1 := []) hP hD [0, 6, 3, 4, 7, 5, 8, 9, 10, 11, 12, 14] [1, 2, 13, 15, 16, 17, 18, 19, 20, 21, 22] rfl rfl (by decide) (by decide) hk1 hFc hP1 hD1
  generalize H1 = H at hP hS ⊢
  have hP : va_P D classes [(pv, .inr (6, P)), (sl, .inl (k.2.1, 3, .inl g1)), (bx, .inl (k.2.1, 30, .inl f3)), (y, .inr (12, yM)), (ytp, .inl (k.2.1, 1600, .inl ym1)), (yns, .inl (k.2.1, 3, .inl ym2)), (yss, .inl (k.2.1, 3, .inl ym3)), (ynw, .inl (k.2.1, 16, .inl ym4)), (ywe, .inl (k.2.1, 640, .inl ym5)), (yhbx, .inl (k.2.2.2, 3, .inl ym6)), (ybx, .inl (k.2.1, 48, .inl ym7))] H := hP
  have hD : va_D A [(pv, .inr (6, P)), (sl, .inl (k.2.1, 3, .inl g1)), (bx, .inl (k.2.1, 30, .inl f3)), (y, .inr (12, yM)), (ytp, .inl (k.2.1, 1600, .inl ym1)), (yns, .inl (k.2.1, 3, .inl ym2)), (yss, .inl (k.2.1, 3, .inl ym3)), (ynw, .inl (k.2.1, 16, .inl ym4)), (ywe, .inl (k.2.1, 640, .inl ym5)), (yhbx, .inl (k.2.2.2, 3, .inl ym6)), (ybx, .inl (k.2.1, 48, .inl ym7))] := hD
  refine W.widen (k := 119) (n := 46443) (Nat.le_of_ble_eq_true rfl) (Nat.le_of_ble_eq_true rfl) ?_
  have hw9 := hw.symm; subst hw9
  refine lv_aload_n hx hb dL_law_294 rfl (lv_at hl 2 rfl) ?_
  have hPc := hP.sub (ws' := [(y, .inr (12, yM)), (yns, .inl (k.2.1, 3, .inl ym2)), (yss, .inl (k.2.1, 3, .inl ym3)), (ynw, .inl (k.2.1, 16, .inl ym4)), (yhbx, .inl (k.2.2.2, 3, .inl ym6))]) [3, 5, 6, 7, 9] rfl
  have hDc := hD.sub (ws' := [(y, .inr (12, yM)), (yns, .inl (k.2.1, 3, .inl ym2)), (yss, .inl (k.2.1, 3, .inl ym3)), (ynw, .inl (k.2.1, 16, .inl ym4)), (yhbx, .inl (k.2.2.2, 3, .inl ym6))]) [3, 5, 6, 7, 9] (by decide) rfl
  have hFc := va_free (wc := [(y, .inr (12, yM)), (yns, .inl (k.2.1, 3, .inl ym2)), (yss, .inl (k.2.1, 3, .inl ym3)), (ynw, .inl (k.2.1, 16, .inl ym4)), (yhbx, .inl (k.2.2.2, 3, .inl ym6))]) hD hS hA [3, 5, 6, 7, 9] rfl
  refine va_calli (va_runV (As := []) (rest := [.int 0]) ⟨hx, hb, hml, hown, hts⟩ (c_X12_pavement l D k H.size y yns yss ynw yhbx yM ym2 ym3 ym4 ym6 u_15_1 u_15_2 u_15_21 u_15_22 u_15_3 u_15_34 u_15_4 u_15_44 u_15_45 u_15_46 u_15_47 u_15_48 u_15_49 u_15_5 u_15_50 u_15_51 u_15_52 u_15_53 u_15_54 u_15_55 u_15_56 u_15_6 u_15_66 u_15_7 u_15_76 u_15_78 u_15_79 u_15_8 u_15_85 u_15_87 u_15_9 u_18_0 u_18_1 u_18_2 u_19_0 u_19_4 u_19_5 u_19_6 u_19_7 u_19_8 u_19_9 u_21_all) (cwV 0 hts (gd_V hgd m1594 m1595 m1596 m131 m1597) rfl rfl rfl (by decide +kernel) ⟨Nat.le_of_ble_eq_true rfl, Nat.le_of_ble_eq_true rfl⟩) (cP_V hPc hKX hDc (ci := 12) (q0 := 0) rfl rfl) rfl rfl hl.1 rfl (lv_room (Nat.le_of_ble_eq_true rfl)) dL_law_295 ⟨Nat.le_of_ble_eq_true rfl, Nat.le_of_ble_eq_true rfl⟩) hS (fun q _ h => hFc q h) hFc (fun r_2 u t H1 locs ht hvm hw hB hz1 hk1 hS => ?_)
  obtain ⟨hP1, hD1⟩ := hB
  rw [ht] at hP1
  obtain ⟨hP, hD⟩ := va_join (wr := [(pv, .inr (6, P)), (sl, .inl (k.2.1, 3, .inl g1)), (bx, .inl (k.2.1, 30, .inl f3)), (ytp, .inl (k.2.1, 1600, .inl ym1)), (ywe, .inl (k.2.1, 640, .inl ym5)), (ybx, .inl (k.2.1, 48, .inl ym7))]) (w1 := []) hP hD [3, 5, 6, 7, 9] [0, 1, 2, 4, 8, 10] rfl rfl (by decide) (by decide) hk1 hFc hP1 hD1
  generalize H1 = H at hP hS ⊢
  have hP : va_P D classes [(pv, .inr (6, P)), (sl, .inl (k.2.1, 3, .inl g1)), (bx, .inl (k.2.1, 30, .inl f3)), (ytp, .inl (k.2.1, 1600, .inl ym1)), (ywe, .inl (k.2.1, 640, .inl ym5)), (ybx, .inl (k.2.1, 48, .inl ym7))] H := hP
  have hD : va_D A [(pv, .inr (6, P)), (sl, .inl (k.2.1, 3, .inl g1)), (bx, .inl (k.2.1, 30, .inl f3)), (ytp, .inl (k.2.1, 1600, .inl ym1)), (ywe, .inl (k.2.1, 640, .inl ym5)), (ybx, .inl (k.2.1, 48, .inl ym7))] := hD
  refine W.widen (k := 119) (n := 46443) (Nat.le_of_ble_eq_true rfl) (Nat.le_of_ble_eq_true rfl) ?_
  have hw9 := hw.symm; subst hw9
  refine lv_icmp_eq (tgt := 1645) hx hb dL_law_298 (by decide) (fun c_3 => ?_) (fun c_3 => ?_)
  · have c_3 : (0 : Int32) = 0 := c_3
    exact law_tail rfl C0 hKX hA hA2 hbA hS (lv_sub hl [0, 1, 2, 3] rfl)
  · exact absurd rfl c_3

set_option maxHeartbeats 4000000 in
set_option maxRecDepth 100000 in
theorem law_3 {p : Program} {l : Launch} {e : Env} {s : State} {m : MethodId} {below : List Frame} {meth : Method} {c : Code} {D : va_G} {k : ClassId × ClassId × ClassId × ClassId} {A : Nat → Prop} {b L : Nat} {xs : Nat → Int32} (hL : L = 6) (C0 : lw_At p s m meth c b L xs) (hKX : va_K D classes (TY k) s ∧ cX s) (hA : ∀ q : Nat, s.heap.size ≤ q → A q) (hA2 : ∀ q : Nat, A q → s.heap.size ≤ q) (hbA : ¬ A b) {x y : Nat} {H : Heap} {locs : List Loc} (hF : Fresh D k A x y H) (hS : va_S A s.heap H locs) {ls : Array Slot} (hl : lv_has ls 4 [(0, .ref b), (1, .ref x), (2, .ref y), (3, .int 0)]) : W p l e room_1 s m #[Value.ref b] below meth c H locs 119 46443 (lw_Z below #[Value.ref b] s) (F0 m 303 ls []) := by
  obtain ⟨hx, hb, hr, hml, hown, hts, hX, hbl, hlocks, hgv⟩ := id C0
  have hown : s.vm.findClass RL = some m.cls := hown
  have hK := hKX.1
  have hgd : ∀ w ∈ gd, w ∈ lw_tbl := fun w h => (List.mem_filter.mp h).1
  have hg : ∀ w ∈ gd, w.before #[Value.ref b] s = true := fun w h => hts w (hgd w h)
  subst hL
  obtain ⟨F, pv, P, sl, g1, sp, P2, sl2, g2, tp, g3, rd, Rd, tk, K, ln, N, fo, g4, ea, E, nw, f1, kp, f2, bx, f3, si, Z, yM, ytp, ym1, yns, ym2, yss, ym3, ynw, ym4, ywe, ym5, yhbx, ym6, ybx, ym7, hf_0, hf_1, hf_2, hf_3, hf_4, hf_6, hf_7, hf_8, hf_10, hf_11, hf_14, hf_15, hf_18, hf_19, hf_21, hP, hD⟩ := hF
  have u_0_3 : F[3]? = some (.ref rd) := hf_0.2.2.2.2.2.1
  have u_6_0 : Rd[0]? = some (.ref tk) := hf_6.1
  have u_7_7 : K[7]? = some (.int 0) := hf_7.2.2.2.2.2.1
  have u_7_8 : K[8]? = some (.int (-1)) := hf_7.2.2.2.2.2.2
  have u_15_2 : yM[2]? = some (.int 0) := hf_15.2.2.1
  have u_15_3 : yM[3]? = some (.int (-1)) := hf_15.2.2.2.2.2.1
  have hin1 : vp_in 1 6 := (show ¬ ((1 : Int32) < 0 ∨ 6 ≤ (1 : Int32).toNatClampNeg) from by decide)
  have hin2 : vp_in 2 6 := (show ¬ ((2 : Int32) < 0 ∨ 6 ≤ (2 : Int32).toNatClampNeg) from by decide)
  have hin3 : vp_in 3 6 := (show ¬ ((3 : Int32) < 0 ∨ 6 ≤ (3 : Int32).toNatClampNeg) from by decide)
  have hin4 : vp_in 4 6 := (show ¬ ((4 : Int32) < 0 ∨ 6 ≤ (4 : Int32).toNatClampNeg) from by decide)
  have hin5 : vp_in 5 6 := (show ¬ ((5 : Int32) < 0 ∨ 6 ≤ (5 : Int32).toNatClampNeg) from by decide)
  obtain ⟨p0, hp0⟩ : ∃ z, z = xs 1 := ⟨_, rfl⟩
  obtain ⟨p1, hp1⟩ : ∃ z, z = xs 2 := ⟨_, rfl⟩
  obtain ⟨p2, hp2⟩ : ∃ z, z = xs 3 := ⟨_, rfl⟩
  obtain ⟨p3, hp3⟩ : ∃ z, z = xs 4 := ⟨_, rfl⟩
  obtain ⟨p4, hp4⟩ : ∃ z, z = xs 5 := ⟨_, rfl⟩
  refine lv_aload_n hx hb dL_law_303 rfl (lv_at hl 1 rfl) ?_
  refine lv_aload_n hx hb dL_law_304 rfl (lv_at hl 0 rfl) ?_
  refine lv_iload_n hx hb dL_law_305 rfl (lv_at hl 3 rfl) ?_
  refine lv_iconst (v := 1) hx hb dL_law_306 (by decide) ?_
  refine lv_iadd hx hb dL_law_307 ?_
  refine lv_topi (fun y_1 ey_1 => ?_)
  obtain rfl : y_1 = 1 := ey_1.trans (by decide)
  refine va_sld hx hb hX hbl hbA hS hin1 dL_law_308 ?_
  refine lv_topi (fun y_2 ey_2 => ?_)
  rw [show y_2 = p0 from ey_2.trans hp0.symm]
  have hPc := hP.sub (ws' := [(x, .inr (11, F)), (rd, .inr (7, Rd)), (tk, .inr (9, K))]) [0, 6, 7] rfl
  have hDc := hD.sub (ws' := [(x, .inr (11, F)), (rd, .inr (7, Rd)), (tk, .inr (9, K))]) [0, 6, 7] (by decide) rfl
  have hFc := va_free (wc := [(x, .inr (11, F)), (rd, .inr (7, Rd)), (tk, .inr (9, K))]) hD hS hA [0, 6, 7] rfl
  refine va_calli (va_runV (As := [.int p0]) (rest := []) ⟨hx, hb, hml, hown, hts⟩ (c_X11_fault l D k H.size x rd tk F Rd K p0 u_0_3 u_6_0 u_7_7 u_7_8) (cwV 1 hts (gd_V hgd m874 m875 m876 m117 m877) rfl rfl rfl (by decide +kernel) ⟨Nat.le_of_ble_eq_true rfl, Nat.le_of_ble_eq_true rfl⟩) (cP_V hPc hKX hDc (ci := 11) (q0 := 0) rfl rfl) rfl rfl hl.1 rfl (lv_room (Nat.le_of_ble_eq_true rfl)) dL_law_309 ⟨Nat.le_of_ble_eq_true rfl, Nat.le_of_ble_eq_true rfl⟩) hS (fun q _ h => hFc q h) hFc (fun r_3 u t H1 locs ht hvm hw hB hz1 hk1 hS => ?_)
  obtain ⟨hP1, hD1⟩ := hB
  rw [ht] at hP1
  obtain ⟨hP, hD⟩ := va_join (wr := [(pv, .inr (6, P)), (sl, .inl (k.2.1, 3, .inl g1)), (sp, .inr (6, P2)), (sl2, .inl (k.2.1, 3, .inl g2)), (tp, .inl (k.1, 1600, .inl g3)), (ln, .inr (3, N)), (fo, .inl (k.2.1, 3, .inl g4)), (ea, .inr (1, E)), (nw, .inl (k.2.1, 10, .inl f1)), (kp, .inl (k.2.1, 410, .inl f2)), (bx, .inl (k.2.1, 30, .inl f3)), (si, .inr (8, Z)), (y, .inr (12, yM)), (ytp, .inl (k.2.1, 1600, .inl ym1)), (yns, .inl (k.2.1, 3, .inl ym2)), (yss, .inl (k.2.1, 3, .inl ym3)), (ynw, .inl (k.2.1, 16, .inl ym4)), (ywe, .inl (k.2.1, 640, .inl ym5)), (yhbx, .inl (k.2.2.2, 3, .inl ym6)), (ybx, .inl (k.2.1, 48, .inl ym7))]) (w1 := []) hP hD [0, 6, 7] [1, 2, 3, 4, 5, 8, 9, 10, 11, 12, 13, 14, 15, 16, 17, 18, 19, 20, 21, 22] rfl rfl (by decide) (by decide) hk1 hFc hP1 hD1
  generalize H1 = H at hP hS ⊢
  have hP : va_P D classes [(pv, .inr (6, P)), (sl, .inl (k.2.1, 3, .inl g1)), (sp, .inr (6, P2)), (sl2, .inl (k.2.1, 3, .inl g2)), (tp, .inl (k.1, 1600, .inl g3)), (ln, .inr (3, N)), (fo, .inl (k.2.1, 3, .inl g4)), (ea, .inr (1, E)), (nw, .inl (k.2.1, 10, .inl f1)), (kp, .inl (k.2.1, 410, .inl f2)), (bx, .inl (k.2.1, 30, .inl f3)), (si, .inr (8, Z)), (y, .inr (12, yM)), (ytp, .inl (k.2.1, 1600, .inl ym1)), (yns, .inl (k.2.1, 3, .inl ym2)), (yss, .inl (k.2.1, 3, .inl ym3)), (ynw, .inl (k.2.1, 16, .inl ym4)), (ywe, .inl (k.2.1, 640, .inl ym5)), (yhbx, .inl (k.2.2.2, 3, .inl ym6)), (ybx, .inl (k.2.1, 48, .inl ym7))] H := hP
  have hD : va_D A [(pv, .inr (6, P)), (sl, .inl (k.2.1, 3, .inl g1)), (sp, .inr (6, P2)), (sl2, .inl (k.2.1, 3, .inl g2)), (tp, .inl (k.1, 1600, .inl g3)), (ln, .inr (3, N)), (fo, .inl (k.2.1, 3, .inl g4)), (ea, .inr (1, E)), (nw, .inl (k.2.1, 10, .inl f1)), (kp, .inl (k.2.1, 410, .inl f2)), (bx, .inl (k.2.1, 30, .inl f3)), (si, .inr (8, Z)), (y, .inr (12, yM)), (ytp, .inl (k.2.1, 1600, .inl ym1)), (yns, .inl (k.2.1, 3, .inl ym2)), (yss, .inl (k.2.1, 3, .inl ym3)), (ynw, .inl (k.2.1, 16, .inl ym4)), (ywe, .inl (k.2.1, 640, .inl ym5)), (yhbx, .inl (k.2.2.2, 3, .inl ym6)), (ybx, .inl (k.2.1, 48, .inl ym7))] := hD
  refine W.widen (k := 119) (n := 46443) (Nat.le_of_ble_eq_true rfl) (Nat.le_of_ble_eq_true rfl) ?_
  have h_4 := hw
  refine lv_aload_n hx hb dL_law_312 rfl (lv_at hl 2 rfl) ?_
  refine lv_aload_n hx hb dL_law_313 rfl (lv_at hl 0 rfl) ?_
  refine lv_iload_n hx hb dL_law_314 rfl (lv_at hl 3 rfl) ?_
  refine lv_iconst (v := 1) hx hb dL_law_315 (by decide) ?_
  refine lv_iadd hx hb dL_law_316 ?_
  refine lv_topi (fun y_5 ey_5 => ?_)
  obtain rfl : y_5 = 1 := ey_5.trans (by decide)
  refine va_sld hx hb hX hbl hbA hS hin1 dL_law_317 ?_
  refine lv_topi (fun y_6 ey_6 => ?_)
  rw [show y_6 = p0 from ey_6.trans hp0.symm]
  have hPc := hP.sub (ws' := [(y, .inr (12, yM))]) [12] rfl
  have hDc := hD.sub (ws' := [(y, .inr (12, yM))]) [12] (by decide) rfl
  have hFc := va_free (wc := [(y, .inr (12, yM))]) hD hS hA [12] rfl
  refine va_calli (va_runV (As := [.int p0]) (rest := [.int r_3]) ⟨hx, hb, hml, hown, hts⟩ (c_X12_fault l D k H.size y yM p0 u_15_2 u_15_3) (cwV 1 hts (gd_V hgd m1769 m1770 m1771 m131 m1772) rfl rfl rfl (by decide +kernel) ⟨Nat.le_of_ble_eq_true rfl, Nat.le_of_ble_eq_true rfl⟩) (cP_V hPc hKX hDc (ci := 12) (q0 := 0) rfl rfl) rfl rfl hl.1 rfl (lv_room (Nat.le_of_ble_eq_true rfl)) dL_law_318 ⟨Nat.le_of_ble_eq_true rfl, Nat.le_of_ble_eq_true rfl⟩) hS (fun q _ h => hFc q h) hFc (fun r_7 u t H1 locs ht hvm hw hB hz1 hk1 hS => ?_)
  obtain ⟨hP1, hD1⟩ := hB
  rw [ht] at hP1
  obtain ⟨hP, hD⟩ := va_join (wr := [(pv, .inr (6, P)), (sl, .inl (k.2.1, 3, .inl g1)), (sp, .inr (6, P2)), (sl2, .inl (k.2.1, 3, .inl g2)), (tp, .inl (k.1, 1600, .inl g3)), (ln, .inr (3, N)), (fo, .inl (k.2.1, 3, .inl g4)), (ea, .inr (1, E)), (nw, .inl (k.2.1, 10, .inl f1)), (kp, .inl (k.2.1, 410, .inl f2)), (bx, .inl (k.2.1, 30, .inl f3)), (si, .inr (8, Z)), (ytp, .inl (k.2.1, 1600, .inl ym1)), (yns, .inl (k.2.1, 3, .inl ym2)), (yss, .inl (k.2.1, 3, .inl ym3)), (ynw, .inl (k.2.1, 16, .inl ym4)), (ywe, .inl (k.2.1, 640, .inl ym5)), (yhbx, .inl (k.2.2.2, 3, .inl ym6)), (ybx, .inl (k.2.1, 48, .inl ym7))]) (w1 := []) hP hD [12] [0, 1, 2, 3, 4, 5, 6, 7, 8, 9, 10, 11, 13, 14, 15, 16, 17, 18, 19] rfl rfl (by decide) (by decide) hk1 hFc hP1 hD1
  generalize H1 = H at hP hS ⊢
  have hP : va_P D classes [(pv, .inr (6, P)), (sl, .inl (k.2.1, 3, .inl g1)), (sp, .inr (6, P2)), (sl2, .inl (k.2.1, 3, .inl g2)), (tp, .inl (k.1, 1600, .inl g3)), (ln, .inr (3, N)), (fo, .inl (k.2.1, 3, .inl g4)), (ea, .inr (1, E)), (nw, .inl (k.2.1, 10, .inl f1)), (kp, .inl (k.2.1, 410, .inl f2)), (bx, .inl (k.2.1, 30, .inl f3)), (si, .inr (8, Z)), (ytp, .inl (k.2.1, 1600, .inl ym1)), (yns, .inl (k.2.1, 3, .inl ym2)), (yss, .inl (k.2.1, 3, .inl ym3)), (ynw, .inl (k.2.1, 16, .inl ym4)), (ywe, .inl (k.2.1, 640, .inl ym5)), (yhbx, .inl (k.2.2.2, 3, .inl ym6)), (ybx, .inl (k.2.1, 48, .inl ym7))] H := hP
  have hD : va_D A [(pv, .inr (6, P)), (sl, .inl (k.2.1, 3, .inl g1)), (sp, .inr (6, P2)), (sl2, .inl (k.2.1, 3, .inl g2)), (tp, .inl (k.1, 1600, .inl g3)), (ln, .inr (3, N)), (fo, .inl (k.2.1, 3, .inl g4)), (ea, .inr (1, E)), (nw, .inl (k.2.1, 10, .inl f1)), (kp, .inl (k.2.1, 410, .inl f2)), (bx, .inl (k.2.1, 30, .inl f3)), (si, .inr (8, Z)), (ytp, .inl (k.2.1, 1600, .inl ym1)), (yns, .inl (k.2.1, 3, .inl ym2)), (yss, .inl (k.2.1, 3, .inl ym3)), (ynw, .inl (k.2.1, 16, .inl ym4)), (ywe, .inl (k.2.1, 640, .inl ym5)), (yhbx, .inl (k.2.2.2, 3, .inl ym6)), (ybx, .inl (k.2.1, 48, .inl ym7))] := hD
  refine W.widen (k := 119) (n := 46443) (Nat.le_of_ble_eq_true rfl) (Nat.le_of_ble_eq_true rfl) ?_
  have h_8 := hw
  refine lv_icmp_eq (tgt := 1645) hx hb dL_law_321 (by decide) (fun c_9 => ?_) (fun c_9 => ?_)
  · have c_9 : (r_3 : Int32) = r_7 := c_9
    exact law_tail rfl C0 hKX hA hA2 hbA hS (lv_sub hl [0, 1, 2, 3] rfl)
  · exact absurd (h_4.trans h_8.symm) c_9

set_option maxHeartbeats 4000000 in
set_option maxRecDepth 100000 in
theorem law_4 {p : Program} {l : Launch} {e : Env} {s : State} {m : MethodId} {below : List Frame} {meth : Method} {c : Code} {D : va_G} {k : ClassId × ClassId × ClassId × ClassId} {A : Nat → Prop} {b L : Nat} {xs : Nat → Int32} (hL : L = 6) (C0 : lw_At p s m meth c b L xs) (hKX : va_K D classes (TY k) s ∧ cX s) (hA : ∀ q : Nat, s.heap.size ≤ q → A q) (hA2 : ∀ q : Nat, A q → s.heap.size ≤ q) (hbA : ¬ A b) {x y : Nat} {H : Heap} {locs : List Loc} (hF : Fresh D k A x y H) (hS : va_S A s.heap H locs) {ls : Array Slot} (hl : lv_has ls 4 [(0, .ref b), (1, .ref x), (2, .ref y), (3, .int 0)]) : W p l e room_1 s m #[Value.ref b] below meth c H locs 119 46443 (lw_Z below #[Value.ref b] s) (F0 m 326 ls []) := by
  obtain ⟨hx, hb, hr, hml, hown, hts, hX, hbl, hlocks, hgv⟩ := id C0
  have hown : s.vm.findClass RL = some m.cls := hown
  have hK := hKX.1
  have hgd : ∀ w ∈ gd, w ∈ lw_tbl := fun w h => (List.mem_filter.mp h).1
  have hg : ∀ w ∈ gd, w.before #[Value.ref b] s = true := fun w h => hts w (hgd w h)
  subst hL
  obtain ⟨F, pv, P, sl, g1, sp, P2, sl2, g2, tp, g3, rd, Rd, tk, K, ln, N, fo, g4, ea, E, nw, f1, kp, f2, bx, f3, si, Z, yM, ytp, ym1, yns, ym2, yss, ym3, ynw, ym4, ywe, ym5, yhbx, ym6, ybx, ym7, hf_0, hf_1, hf_2, hf_3, hf_4, hf_6, hf_7, hf_8, hf_10, hf_11, hf_14, hf_15, hf_18, hf_19, hf_21, hP, hD⟩ := hF
  have u_0_0 : F[0]? = some (.ref pv) := hf_0.1
  have u_1_9 : P[9]? = some (.int 0) := hf_1.2.2.2.2.2.2.2.2
  have u_15_52 : yM[52]? = some (.int 0) := hf_15.2.2.2.2.2.2.2.2.2.2.2.2.2.2.2.2.2.1
  have hin1 : vp_in 1 6 := (show ¬ ((1 : Int32) < 0 ∨ 6 ≤ (1 : Int32).toNatClampNeg) from by decide)
  have hin2 : vp_in 2 6 := (show ¬ ((2 : Int32) < 0 ∨ 6 ≤ (2 : Int32).toNatClampNeg) from by decide)
  have hin3 : vp_in 3 6 := (show ¬ ((3 : Int32) < 0 ∨ 6 ≤ (3 : Int32).toNatClampNeg) from by decide)
  have hin4 : vp_in 4 6 := (show ¬ ((4 : Int32) < 0 ∨ 6 ≤ (4 : Int32).toNatClampNeg) from by decide)
  have hin5 : vp_in 5 6 := (show ¬ ((5 : Int32) < 0 ∨ 6 ≤ (5 : Int32).toNatClampNeg) from by decide)
  obtain ⟨p0, hp0⟩ : ∃ z, z = xs 1 := ⟨_, rfl⟩
  obtain ⟨p1, hp1⟩ : ∃ z, z = xs 2 := ⟨_, rfl⟩
  obtain ⟨p2, hp2⟩ : ∃ z, z = xs 3 := ⟨_, rfl⟩
  obtain ⟨p3, hp3⟩ : ∃ z, z = xs 4 := ⟨_, rfl⟩
  obtain ⟨p4, hp4⟩ : ∃ z, z = xs 5 := ⟨_, rfl⟩
  refine lv_aload_n hx hb dL_law_326 rfl (lv_at hl 1 rfl) ?_
  refine lv_aload_n hx hb dL_law_327 rfl (lv_at hl 0 rfl) ?_
  refine lv_iload_n hx hb dL_law_328 rfl (lv_at hl 3 rfl) ?_
  refine lv_iconst (v := 1) hx hb dL_law_329 (by decide) ?_
  refine lv_iadd hx hb dL_law_330 ?_
  refine lv_topi (fun y_1 ey_1 => ?_)
  obtain rfl : y_1 = 1 := ey_1.trans (by decide)
  refine va_sld hx hb hX hbl hbA hS hin1 dL_law_331 ?_
  refine lv_topi (fun y_2 ey_2 => ?_)
  rw [show y_2 = p0 from ey_2.trans hp0.symm]
  refine lv_aload_n hx hb dL_law_332 rfl (lv_at hl 0 rfl) ?_
  refine lv_iload_n hx hb dL_law_333 rfl (lv_at hl 3 rfl) ?_
  refine lv_iconst (v := 2) hx hb dL_law_334 (by decide) ?_
  refine lv_iadd hx hb dL_law_335 ?_
  refine lv_topi (fun y_3 ey_3 => ?_)
  obtain rfl : y_3 = 2 := ey_3.trans (by decide)
  refine va_sld hx hb hX hbl hbA hS hin2 dL_law_336 ?_
  refine lv_topi (fun y_4 ey_4 => ?_)
  rw [show y_4 = p1 from ey_4.trans hp1.symm]
  refine lv_aload_n hx hb dL_law_337 rfl (lv_at hl 0 rfl) ?_
  refine lv_iload_n hx hb dL_law_338 rfl (lv_at hl 3 rfl) ?_
  refine lv_iconst (v := 3) hx hb dL_law_339 (by decide) ?_
  refine lv_iadd hx hb dL_law_340 ?_
  refine lv_topi (fun y_5 ey_5 => ?_)
  obtain rfl : y_5 = 3 := ey_5.trans (by decide)
  refine va_sld hx hb hX hbl hbA hS hin3 dL_law_341 ?_
  refine lv_topi (fun y_6 ey_6 => ?_)
  rw [show y_6 = p2 from ey_6.trans hp2.symm]
  have hPc := hP.sub (ws' := [(x, .inr (11, F)), (pv, .inr (6, P))]) [0, 1] rfl
  have hDc := hD.sub (ws' := [(x, .inr (11, F)), (pv, .inr (6, P))]) [0, 1] (by decide) rfl
  have hFc := va_free (wc := [(x, .inr (11, F)), (pv, .inr (6, P))]) hD hS hA [0, 1] rfl
  refine va_calli (va_runV (As := [.int p0, .int p1, .int p2]) (rest := []) ⟨hx, hb, hml, hown, hts⟩ (c_X11_inch l D k H.size x pv F P p0 p1 p2 u_0_0 u_1_9) (cwV 3 hts (gd_V hgd m878 m879 m880 m117 m881) rfl rfl rfl (by decide +kernel) ⟨Nat.le_of_ble_eq_true rfl, Nat.le_of_ble_eq_true rfl⟩) (cP_V hPc hKX hDc (ci := 11) (q0 := 0) rfl rfl) rfl rfl hl.1 rfl (lv_room (Nat.le_of_ble_eq_true rfl)) dL_law_342 ⟨Nat.le_of_ble_eq_true rfl, Nat.le_of_ble_eq_true rfl⟩) hS (fun q _ h => hFc q h) hFc (fun r_7 u t H1 locs ht hvm hw hB hz1 hk1 hS => ?_)
  obtain ⟨hP1, hD1⟩ := hB
  rw [ht] at hP1
  obtain ⟨hP, hD⟩ := va_join (wr := [(sl, .inl (k.2.1, 3, .inl g1)), (sp, .inr (6, P2)), (sl2, .inl (k.2.1, 3, .inl g2)), (tp, .inl (k.1, 1600, .inl g3)), (rd, .inr (7, Rd)), (tk, .inr (9, K)), (ln, .inr (3, N)), (fo, .inl (k.2.1, 3, .inl g4)), (ea, .inr (1, E)), (nw, .inl (k.2.1, 10, .inl f1)), (kp, .inl (k.2.1, 410, .inl f2)), (bx, .inl (k.2.1, 30, .inl f3)), (si, .inr (8, Z)), (y, .inr (12, yM)), (ytp, .inl (k.2.1, 1600, .inl ym1)), (yns, .inl (k.2.1, 3, .inl ym2)), (yss, .inl (k.2.1, 3, .inl ym3)), (ynw, .inl (k.2.1, 16, .inl ym4)), (ywe, .inl (k.2.1, 640, .inl ym5)), (yhbx, .inl (k.2.2.2, 3, .inl ym6)), (ybx, .inl (k.2.1, 48, .inl ym7))]) (w1 := []) hP hD [0, 1] [2, 3, 4, 5, 6, 7, 8, 9, 10, 11, 12, 13, 14, 15, 16, 17, 18, 19, 20, 21, 22] rfl rfl (by decide) (by decide) hk1 hFc hP1 hD1
  generalize H1 = H at hP hS ⊢
  have hP : va_P D classes [(sl, .inl (k.2.1, 3, .inl g1)), (sp, .inr (6, P2)), (sl2, .inl (k.2.1, 3, .inl g2)), (tp, .inl (k.1, 1600, .inl g3)), (rd, .inr (7, Rd)), (tk, .inr (9, K)), (ln, .inr (3, N)), (fo, .inl (k.2.1, 3, .inl g4)), (ea, .inr (1, E)), (nw, .inl (k.2.1, 10, .inl f1)), (kp, .inl (k.2.1, 410, .inl f2)), (bx, .inl (k.2.1, 30, .inl f3)), (si, .inr (8, Z)), (y, .inr (12, yM)), (ytp, .inl (k.2.1, 1600, .inl ym1)), (yns, .inl (k.2.1, 3, .inl ym2)), (yss, .inl (k.2.1, 3, .inl ym3)), (ynw, .inl (k.2.1, 16, .inl ym4)), (ywe, .inl (k.2.1, 640, .inl ym5)), (yhbx, .inl (k.2.2.2, 3, .inl ym6)), (ybx, .inl (k.2.1, 48, .inl ym7))] H := hP
  have hD : va_D A [(sl, .inl (k.2.1, 3, .inl g1)), (sp, .inr (6, P2)), (sl2, .inl (k.2.1, 3, .inl g2)), (tp, .inl (k.1, 1600, .inl g3)), (rd, .inr (7, Rd)), (tk, .inr (9, K)), (ln, .inr (3, N)), (fo, .inl (k.2.1, 3, .inl g4)), (ea, .inr (1, E)), (nw, .inl (k.2.1, 10, .inl f1)), (kp, .inl (k.2.1, 410, .inl f2)), (bx, .inl (k.2.1, 30, .inl f3)), (si, .inr (8, Z)), (y, .inr (12, yM)), (ytp, .inl (k.2.1, 1600, .inl ym1)), (yns, .inl (k.2.1, 3, .inl ym2)), (yss, .inl (k.2.1, 3, .inl ym3)), (ynw, .inl (k.2.1, 16, .inl ym4)), (ywe, .inl (k.2.1, 640, .inl ym5)), (yhbx, .inl (k.2.2.2, 3, .inl ym6)), (ybx, .inl (k.2.1, 48, .inl ym7))] := hD
  refine W.widen (k := 119) (n := 46443) (Nat.le_of_ble_eq_true rfl) (Nat.le_of_ble_eq_true rfl) ?_
  have hw9 := hw.symm; subst hw9
  refine lv_aload_n hx hb dL_law_345 rfl (lv_at hl 2 rfl) ?_
  refine lv_aload_n hx hb dL_law_346 rfl (lv_at hl 0 rfl) ?_
  refine lv_iload_n hx hb dL_law_347 rfl (lv_at hl 3 rfl) ?_
  refine lv_iconst (v := 1) hx hb dL_law_348 (by decide) ?_
  refine lv_iadd hx hb dL_law_349 ?_
  refine lv_topi (fun y_8 ey_8 => ?_)
  obtain rfl : y_8 = 1 := ey_8.trans (by decide)
  refine va_sld hx hb hX hbl hbA hS hin1 dL_law_350 ?_
  refine lv_topi (fun y_9 ey_9 => ?_)
  rw [show y_9 = p0 from ey_9.trans hp0.symm]
  refine lv_aload_n hx hb dL_law_351 rfl (lv_at hl 0 rfl) ?_
  refine lv_iload_n hx hb dL_law_352 rfl (lv_at hl 3 rfl) ?_
  refine lv_iconst (v := 2) hx hb dL_law_353 (by decide) ?_
  refine lv_iadd hx hb dL_law_354 ?_
  refine lv_topi (fun y_10 ey_10 => ?_)
  obtain rfl : y_10 = 2 := ey_10.trans (by decide)
  refine va_sld hx hb hX hbl hbA hS hin2 dL_law_355 ?_
  refine lv_topi (fun y_11 ey_11 => ?_)
  rw [show y_11 = p1 from ey_11.trans hp1.symm]
  refine lv_aload_n hx hb dL_law_356 rfl (lv_at hl 0 rfl) ?_
  refine lv_iload_n hx hb dL_law_357 rfl (lv_at hl 3 rfl) ?_
  refine lv_iconst (v := 3) hx hb dL_law_358 (by decide) ?_
  refine lv_iadd hx hb dL_law_359 ?_
  refine lv_topi (fun y_12 ey_12 => ?_)
  obtain rfl : y_12 = 3 := ey_12.trans (by decide)
  refine va_sld hx hb hX hbl hbA hS hin3 dL_law_360 ?_
  refine lv_topi (fun y_13 ey_13 => ?_)
  rw [show y_13 = p2 from ey_13.trans hp2.symm]
  have hPc := hP.sub (ws' := [(y, .inr (12, yM))]) [13] rfl
  have hDc := hD.sub (ws' := [(y, .inr (12, yM))]) [13] (by decide) rfl
  have hFc := va_free (wc := [(y, .inr (12, yM))]) hD hS hA [13] rfl
  refine va_calli (va_runV (As := [.int p0, .int p1, .int p2]) (rest := [.int (-1)]) ⟨hx, hb, hml, hown, hts⟩ (c_X12_inch l D k H.size y yM p0 p1 p2 u_15_52) (cwV 3 hts (gd_V hgd m1773 m1774 m1775 m131 m1776) rfl rfl rfl (by decide +kernel) ⟨Nat.le_of_ble_eq_true rfl, Nat.le_of_ble_eq_true rfl⟩) (cP_V hPc hKX hDc (ci := 12) (q0 := 0) rfl rfl) rfl rfl hl.1 rfl (lv_room (Nat.le_of_ble_eq_true rfl)) dL_law_361 ⟨Nat.le_of_ble_eq_true rfl, Nat.le_of_ble_eq_true rfl⟩) hS (fun q _ h => hFc q h) hFc (fun r_14 u t H1 locs ht hvm hw hB hz1 hk1 hS => ?_)
  obtain ⟨hP1, hD1⟩ := hB
  rw [ht] at hP1
  obtain ⟨hP, hD⟩ := va_join (wr := [(sl, .inl (k.2.1, 3, .inl g1)), (sp, .inr (6, P2)), (sl2, .inl (k.2.1, 3, .inl g2)), (tp, .inl (k.1, 1600, .inl g3)), (rd, .inr (7, Rd)), (tk, .inr (9, K)), (ln, .inr (3, N)), (fo, .inl (k.2.1, 3, .inl g4)), (ea, .inr (1, E)), (nw, .inl (k.2.1, 10, .inl f1)), (kp, .inl (k.2.1, 410, .inl f2)), (bx, .inl (k.2.1, 30, .inl f3)), (si, .inr (8, Z)), (ytp, .inl (k.2.1, 1600, .inl ym1)), (yns, .inl (k.2.1, 3, .inl ym2)), (yss, .inl (k.2.1, 3, .inl ym3)), (ynw, .inl (k.2.1, 16, .inl ym4)), (ywe, .inl (k.2.1, 640, .inl ym5)), (yhbx, .inl (k.2.2.2, 3, .inl ym6)), (ybx, .inl (k.2.1, 48, .inl ym7))]) (w1 := []) hP hD [13] [0, 1, 2, 3, 4, 5, 6, 7, 8, 9, 10, 11, 12, 14, 15, 16, 17, 18, 19, 20] rfl rfl (by decide) (by decide) hk1 hFc hP1 hD1
  generalize H1 = H at hP hS ⊢
  have hP : va_P D classes [(sl, .inl (k.2.1, 3, .inl g1)), (sp, .inr (6, P2)), (sl2, .inl (k.2.1, 3, .inl g2)), (tp, .inl (k.1, 1600, .inl g3)), (rd, .inr (7, Rd)), (tk, .inr (9, K)), (ln, .inr (3, N)), (fo, .inl (k.2.1, 3, .inl g4)), (ea, .inr (1, E)), (nw, .inl (k.2.1, 10, .inl f1)), (kp, .inl (k.2.1, 410, .inl f2)), (bx, .inl (k.2.1, 30, .inl f3)), (si, .inr (8, Z)), (ytp, .inl (k.2.1, 1600, .inl ym1)), (yns, .inl (k.2.1, 3, .inl ym2)), (yss, .inl (k.2.1, 3, .inl ym3)), (ynw, .inl (k.2.1, 16, .inl ym4)), (ywe, .inl (k.2.1, 640, .inl ym5)), (yhbx, .inl (k.2.2.2, 3, .inl ym6)), (ybx, .inl (k.2.1, 48, .inl ym7))] H := hP
  have hD : va_D A [(sl, .inl (k.2.1, 3, .inl g1)), (sp, .inr (6, P2)), (sl2, .inl (k.2.1, 3, .inl g2)), (tp, .inl (k.1, 1600, .inl g3)), (rd, .inr (7, Rd)), (tk, .inr (9, K)), (ln, .inr (3, N)), (fo, .inl (k.2.1, 3, .inl g4)), (ea, .inr (1, E)), (nw, .inl (k.2.1, 10, .inl f1)), (kp, .inl (k.2.1, 410, .inl f2)), (bx, .inl (k.2.1, 30, .inl f3)), (si, .inr (8, Z)), (ytp, .inl (k.2.1, 1600, .inl ym1)), (yns, .inl (k.2.1, 3, .inl ym2)), (yss, .inl (k.2.1, 3, .inl ym3)), (ynw, .inl (k.2.1, 16, .inl ym4)), (ywe, .inl (k.2.1, 640, .inl ym5)), (yhbx, .inl (k.2.2.2, 3, .inl ym6)), (ybx, .inl (k.2.1, 48, .inl ym7))] := hD
  refine W.widen (k := 119) (n := 46443) (Nat.le_of_ble_eq_true rfl) (Nat.le_of_ble_eq_true rfl) ?_
  have hw9 := hw.symm; subst hw9
  refine lv_icmp_eq (tgt := 1645) hx hb dL_law_364 (by decide) (fun c_15 => ?_) (fun c_15 => ?_)
  · have c_15 : ((-1) : Int32) = (-1) := c_15
    exact law_tail rfl C0 hKX hA hA2 hbA hS (lv_sub hl [0, 1, 2, 3] rfl)
  · exact absurd rfl c_15

set_option maxHeartbeats 4000000 in
set_option maxRecDepth 100000 in
theorem law_5 {p : Program} {l : Launch} {e : Env} {s : State} {m : MethodId} {below : List Frame} {meth : Method} {c : Code} {D : va_G} {k : ClassId × ClassId × ClassId × ClassId} {A : Nat → Prop} {b L : Nat} {xs : Nat → Int32} (hL : L = 6) (C0 : lw_At p s m meth c b L xs) (hKX : va_K D classes (TY k) s ∧ cX s) (hA : ∀ q : Nat, s.heap.size ≤ q → A q) (hA2 : ∀ q : Nat, A q → s.heap.size ≤ q) (hbA : ¬ A b) {x y : Nat} {H : Heap} {locs : List Loc} (hF : Fresh D k A x y H) (hS : va_S A s.heap H locs) {ls : Array Slot} (hl : lv_has ls 4 [(0, .ref b), (1, .ref x), (2, .ref y), (3, .int 0)]) : W p l e room_1 s m #[Value.ref b] below meth c H locs 119 46443 (lw_Z below #[Value.ref b] s) (F0 m 369 ls []) := by
  obtain ⟨hx, hb, hr, hml, hown, hts, hX, hbl, hlocks, hgv⟩ := id C0
  have hown : s.vm.findClass RL = some m.cls := hown
  have hK := hKX.1
  have hgd : ∀ w ∈ gd, w ∈ lw_tbl := fun w h => (List.mem_filter.mp h).1
  have hg : ∀ w ∈ gd, w.before #[Value.ref b] s = true := fun w h => hts w (hgd w h)
  subst hL
  obtain ⟨F, pv, P, sl, g1, sp, P2, sl2, g2, tp, g3, rd, Rd, tk, K, ln, N, fo, g4, ea, E, nw, f1, kp, f2, bx, f3, si, Z, yM, ytp, ym1, yns, ym2, yss, ym3, ynw, ym4, ywe, ym5, yhbx, ym6, ybx, ym7, hf_0, hf_1, hf_2, hf_3, hf_4, hf_6, hf_7, hf_8, hf_10, hf_11, hf_14, hf_15, hf_18, hf_19, hf_21, hP, hD⟩ := hF
  have u_0_0 : F[0]? = some (.ref pv) := hf_0.1
  have u_1_9 : P[9]? = some (.int 0) := hf_1.2.2.2.2.2.2.2.2
  have u_15_52 : yM[52]? = some (.int 0) := hf_15.2.2.2.2.2.2.2.2.2.2.2.2.2.2.2.2.2.1
  have hin1 : vp_in 1 6 := (show ¬ ((1 : Int32) < 0 ∨ 6 ≤ (1 : Int32).toNatClampNeg) from by decide)
  have hin2 : vp_in 2 6 := (show ¬ ((2 : Int32) < 0 ∨ 6 ≤ (2 : Int32).toNatClampNeg) from by decide)
  have hin3 : vp_in 3 6 := (show ¬ ((3 : Int32) < 0 ∨ 6 ≤ (3 : Int32).toNatClampNeg) from by decide)
  have hin4 : vp_in 4 6 := (show ¬ ((4 : Int32) < 0 ∨ 6 ≤ (4 : Int32).toNatClampNeg) from by decide)
  have hin5 : vp_in 5 6 := (show ¬ ((5 : Int32) < 0 ∨ 6 ≤ (5 : Int32).toNatClampNeg) from by decide)
  obtain ⟨p0, hp0⟩ : ∃ z, z = xs 1 := ⟨_, rfl⟩
  obtain ⟨p1, hp1⟩ : ∃ z, z = xs 2 := ⟨_, rfl⟩
  obtain ⟨p2, hp2⟩ : ∃ z, z = xs 3 := ⟨_, rfl⟩
  obtain ⟨p3, hp3⟩ : ∃ z, z = xs 4 := ⟨_, rfl⟩
  obtain ⟨p4, hp4⟩ : ∃ z, z = xs 5 := ⟨_, rfl⟩
  refine lv_aload_n hx hb dL_law_369 rfl (lv_at hl 1 rfl) ?_
  refine lv_aload_n hx hb dL_law_370 rfl (lv_at hl 0 rfl) ?_
  refine lv_iload_n hx hb dL_law_371 rfl (lv_at hl 3 rfl) ?_
  refine lv_iconst (v := 1) hx hb dL_law_372 (by decide) ?_
  refine lv_iadd hx hb dL_law_373 ?_
  refine lv_topi (fun y_1 ey_1 => ?_)
  obtain rfl : y_1 = 1 := ey_1.trans (by decide)
  refine va_sld hx hb hX hbl hbA hS hin1 dL_law_374 ?_
  refine lv_topi (fun y_2 ey_2 => ?_)
  rw [show y_2 = p0 from ey_2.trans hp0.symm]
  have hPc := hP.sub (ws' := [(x, .inr (11, F)), (pv, .inr (6, P))]) [0, 1] rfl
  have hDc := hD.sub (ws' := [(x, .inr (11, F)), (pv, .inr (6, P))]) [0, 1] (by decide) rfl
  have hFc := va_free (wc := [(x, .inr (11, F)), (pv, .inr (6, P))]) hD hS hA [0, 1] rfl
  refine va_calli (va_runV (As := [.int p0]) (rest := []) ⟨hx, hb, hml, hown, hts⟩ (c_X11_length l D k H.size x pv F P p0 u_0_0 u_1_9) (cwV 1 hts (gd_V hgd m898 m899 m900 m117 m901) rfl rfl rfl (by decide +kernel) ⟨Nat.le_of_ble_eq_true rfl, Nat.le_of_ble_eq_true rfl⟩) (cP_V hPc hKX hDc (ci := 11) (q0 := 0) rfl rfl) rfl rfl hl.1 rfl (lv_room (Nat.le_of_ble_eq_true rfl)) dL_law_375 ⟨Nat.le_of_ble_eq_true rfl, Nat.le_of_ble_eq_true rfl⟩) hS (fun q _ h => hFc q h) hFc (fun r_3 u t H1 locs ht hvm hw hB hz1 hk1 hS => ?_)
  obtain ⟨hP1, hD1⟩ := hB
  rw [ht] at hP1
  obtain ⟨hP, hD⟩ := va_join (wr := [(sl, .inl (k.2.1, 3, .inl g1)), (sp, .inr (6, P2)), (sl2, .inl (k.2.1, 3, .inl g2)), (tp, .inl (k.1, 1600, .inl g3)), (rd, .inr (7, Rd)), (tk, .inr (9, K)), (ln, .inr (3, N)), (fo, .inl (k.2.1, 3, .inl g4)), (ea, .inr (1, E)), (nw, .inl (k.2.1, 10, .inl f1)), (kp, .inl (k.2.1, 410, .inl f2)), (bx, .inl (k.2.1, 30, .inl f3)), (si, .inr (8, Z)), (y, .inr (12, yM)), (ytp, .inl (k.2.1, 1600, .inl ym1)), (yns, .inl (k.2.1, 3, .inl ym2)), (yss, .inl (k.2.1, 3, .inl ym3)), (ynw, .inl (k.2.1, 16, .inl ym4)), (ywe, .inl (k.2.1, 640, .inl ym5)), (yhbx, .inl (k.2.2.2, 3, .inl ym6)), (ybx, .inl (k.2.1, 48, .inl ym7))]) (w1 := []) hP hD [0, 1] [2, 3, 4, 5, 6, 7, 8, 9, 10, 11, 12, 13, 14, 15, 16, 17, 18, 19, 20, 21, 22] rfl rfl (by decide) (by decide) hk1 hFc hP1 hD1
  generalize H1 = H at hP hS ⊢
  have hP : va_P D classes [(sl, .inl (k.2.1, 3, .inl g1)), (sp, .inr (6, P2)), (sl2, .inl (k.2.1, 3, .inl g2)), (tp, .inl (k.1, 1600, .inl g3)), (rd, .inr (7, Rd)), (tk, .inr (9, K)), (ln, .inr (3, N)), (fo, .inl (k.2.1, 3, .inl g4)), (ea, .inr (1, E)), (nw, .inl (k.2.1, 10, .inl f1)), (kp, .inl (k.2.1, 410, .inl f2)), (bx, .inl (k.2.1, 30, .inl f3)), (si, .inr (8, Z)), (y, .inr (12, yM)), (ytp, .inl (k.2.1, 1600, .inl ym1)), (yns, .inl (k.2.1, 3, .inl ym2)), (yss, .inl (k.2.1, 3, .inl ym3)), (ynw, .inl (k.2.1, 16, .inl ym4)), (ywe, .inl (k.2.1, 640, .inl ym5)), (yhbx, .inl (k.2.2.2, 3, .inl ym6)), (ybx, .inl (k.2.1, 48, .inl ym7))] H := hP
  have hD : va_D A [(sl, .inl (k.2.1, 3, .inl g1)), (sp, .inr (6, P2)), (sl2, .inl (k.2.1, 3, .inl g2)), (tp, .inl (k.1, 1600, .inl g3)), (rd, .inr (7, Rd)), (tk, .inr (9, K)), (ln, .inr (3, N)), (fo, .inl (k.2.1, 3, .inl g4)), (ea, .inr (1, E)), (nw, .inl (k.2.1, 10, .inl f1)), (kp, .inl (k.2.1, 410, .inl f2)), (bx, .inl (k.2.1, 30, .inl f3)), (si, .inr (8, Z)), (y, .inr (12, yM)), (ytp, .inl (k.2.1, 1600, .inl ym1)), (yns, .inl (k.2.1, 3, .inl ym2)), (yss, .inl (k.2.1, 3, .inl ym3)), (ynw, .inl (k.2.1, 16, .inl ym4)), (ywe, .inl (k.2.1, 640, .inl ym5)), (yhbx, .inl (k.2.2.2, 3, .inl ym6)), (ybx, .inl (k.2.1, 48, .inl ym7))] := hD
  refine W.widen (k := 119) (n := 46443) (Nat.le_of_ble_eq_true rfl) (Nat.le_of_ble_eq_true rfl) ?_
  have hw9 := hw.symm; subst hw9
  refine lv_aload_n hx hb dL_law_378 rfl (lv_at hl 2 rfl) ?_
  refine lv_aload_n hx hb dL_law_379 rfl (lv_at hl 0 rfl) ?_
  refine lv_iload_n hx hb dL_law_380 rfl (lv_at hl 3 rfl) ?_
  refine lv_iconst (v := 1) hx hb dL_law_381 (by decide) ?_
  refine lv_iadd hx hb dL_law_382 ?_
  refine lv_topi (fun y_4 ey_4 => ?_)
  obtain rfl : y_4 = 1 := ey_4.trans (by decide)
  refine va_sld hx hb hX hbl hbA hS hin1 dL_law_383 ?_
  refine lv_topi (fun y_5 ey_5 => ?_)
  rw [show y_5 = p0 from ey_5.trans hp0.symm]
  have hPc := hP.sub (ws' := [(y, .inr (12, yM))]) [13] rfl
  have hDc := hD.sub (ws' := [(y, .inr (12, yM))]) [13] (by decide) rfl
  have hFc := va_free (wc := [(y, .inr (12, yM))]) hD hS hA [13] rfl
  refine va_calli (va_runV (As := [.int p0]) (rest := [.int (-1)]) ⟨hx, hb, hml, hown, hts⟩ (c_X12_length l D k H.size y yM p0 u_15_52) (cwV 1 hts (gd_V hgd m1791 m1792 m1793 m131 m1794) rfl rfl rfl (by decide +kernel) ⟨Nat.le_of_ble_eq_true rfl, Nat.le_of_ble_eq_true rfl⟩) (cP_V hPc hKX hDc (ci := 12) (q0 := 0) rfl rfl) rfl rfl hl.1 rfl (lv_room (Nat.le_of_ble_eq_true rfl)) dL_law_384 ⟨Nat.le_of_ble_eq_true rfl, Nat.le_of_ble_eq_true rfl⟩) hS (fun q _ h => hFc q h) hFc (fun r_6 u t H1 locs ht hvm hw hB hz1 hk1 hS => ?_)
  obtain ⟨hP1, hD1⟩ := hB
  rw [ht] at hP1
  obtain ⟨hP, hD⟩ := va_join (wr := [(sl, .inl (k.2.1, 3, .inl g1)), (sp, .inr (6, P2)), (sl2, .inl (k.2.1, 3, .inl g2)), (tp, .inl (k.1, 1600, .inl g3)), (rd, .inr (7, Rd)), (tk, .inr (9, K)), (ln, .inr (3, N)), (fo, .inl (k.2.1, 3, .inl g4)), (ea, .inr (1, E)), (nw, .inl (k.2.1, 10, .inl f1)), (kp, .inl (k.2.1, 410, .inl f2)), (bx, .inl (k.2.1, 30, .inl f3)), (si, .inr (8, Z)), (ytp, .inl (k.2.1, 1600, .inl ym1)), (yns, .inl (k.2.1, 3, .inl ym2)), (yss, .inl (k.2.1, 3, .inl ym3)), (ynw, .inl (k.2.1, 16, .inl ym4)), (ywe, .inl (k.2.1, 640, .inl ym5)), (yhbx, .inl (k.2.2.2, 3, .inl ym6)), (ybx, .inl (k.2.1, 48, .inl ym7))]) (w1 := []) hP hD [13] [0, 1, 2, 3, 4, 5, 6, 7, 8, 9, 10, 11, 12, 14, 15, 16, 17, 18, 19, 20] rfl rfl (by decide) (by decide) hk1 hFc hP1 hD1
  generalize H1 = H at hP hS ⊢
  have hP : va_P D classes [(sl, .inl (k.2.1, 3, .inl g1)), (sp, .inr (6, P2)), (sl2, .inl (k.2.1, 3, .inl g2)), (tp, .inl (k.1, 1600, .inl g3)), (rd, .inr (7, Rd)), (tk, .inr (9, K)), (ln, .inr (3, N)), (fo, .inl (k.2.1, 3, .inl g4)), (ea, .inr (1, E)), (nw, .inl (k.2.1, 10, .inl f1)), (kp, .inl (k.2.1, 410, .inl f2)), (bx, .inl (k.2.1, 30, .inl f3)), (si, .inr (8, Z)), (ytp, .inl (k.2.1, 1600, .inl ym1)), (yns, .inl (k.2.1, 3, .inl ym2)), (yss, .inl (k.2.1, 3, .inl ym3)), (ynw, .inl (k.2.1, 16, .inl ym4)), (ywe, .inl (k.2.1, 640, .inl ym5)), (yhbx, .inl (k.2.2.2, 3, .inl ym6)), (ybx, .inl (k.2.1, 48, .inl ym7))] H := hP
  have hD : va_D A [(sl, .inl (k.2.1, 3, .inl g1)), (sp, .inr (6, P2)), (sl2, .inl (k.2.1, 3, .inl g2)), (tp, .inl (k.1, 1600, .inl g3)), (rd, .inr (7, Rd)), (tk, .inr (9, K)), (ln, .inr (3, N)), (fo, .inl (k.2.1, 3, .inl g4)), (ea, .inr (1, E)), (nw, .inl (k.2.1, 10, .inl f1)), (kp, .inl (k.2.1, 410, .inl f2)), (bx, .inl (k.2.1, 30, .inl f3)), (si, .inr (8, Z)), (ytp, .inl (k.2.1, 1600, .inl ym1)), (yns, .inl (k.2.1, 3, .inl ym2)), (yss, .inl (k.2.1, 3, .inl ym3)), (ynw, .inl (k.2.1, 16, .inl ym4)), (ywe, .inl (k.2.1, 640, .inl ym5)), (yhbx, .inl (k.2.2.2, 3, .inl ym6)), (ybx, .inl (k.2.1, 48, .inl ym7))] := hD
  refine W.widen (k := 119) (n := 46443) (Nat.le_of_ble_eq_true rfl) (Nat.le_of_ble_eq_true rfl) ?_
  have hw9 := hw.symm; subst hw9
  refine lv_icmp_eq (tgt := 1645) hx hb dL_law_387 (by decide) (fun c_7 => ?_) (fun c_7 => ?_)
  · have c_7 : ((-1) : Int32) = (-1) := c_7
    exact law_tail rfl C0 hKX hA hA2 hbA hS (lv_sub hl [0, 1, 2, 3] rfl)
  · exact absurd rfl c_7

set_option maxHeartbeats 4000000 in
set_option maxRecDepth 100000 in
theorem law_6 {p : Program} {l : Launch} {e : Env} {s : State} {m : MethodId} {below : List Frame} {meth : Method} {c : Code} {D : va_G} {k : ClassId × ClassId × ClassId × ClassId} {A : Nat → Prop} {b L : Nat} {xs : Nat → Int32} (hL : L = 6) (C0 : lw_At p s m meth c b L xs) (hKX : va_K D classes (TY k) s ∧ cX s) (hA : ∀ q : Nat, s.heap.size ≤ q → A q) (hA2 : ∀ q : Nat, A q → s.heap.size ≤ q) (hbA : ¬ A b) {x y : Nat} {H : Heap} {locs : List Loc} (hF : Fresh D k A x y H) (hS : va_S A s.heap H locs) {ls : Array Slot} (hl : lv_has ls 4 [(0, .ref b), (1, .ref x), (2, .ref y), (3, .int 0)]) : W p l e room_1 s m #[Value.ref b] below meth c H locs 119 46443 (lw_Z below #[Value.ref b] s) (F0 m 392 ls []) := by
  obtain ⟨hx, hb, hr, hml, hown, hts, hX, hbl, hlocks, hgv⟩ := id C0
  have hown : s.vm.findClass RL = some m.cls := hown
  have hK := hKX.1
  have hgd : ∀ w ∈ gd, w ∈ lw_tbl := fun w h => (List.mem_filter.mp h).1
  have hg : ∀ w ∈ gd, w.before #[Value.ref b] s = true := fun w h => hts w (hgd w h)
  subst hL
  obtain ⟨F, pv, P, sl, g1, sp, P2, sl2, g2, tp, g3, rd, Rd, tk, K, ln, N, fo, g4, ea, E, nw, f1, kp, f2, bx, f3, si, Z, yM, ytp, ym1, yns, ym2, yss, ym3, ynw, ym4, ywe, ym5, yhbx, ym6, ybx, ym7, hf_0, hf_1, hf_2, hf_3, hf_4, hf_6, hf_7, hf_8, hf_10, hf_11, hf_14, hf_15, hf_18, hf_19, hf_21, hP, hD⟩ := hF
  have u_0_0 : F[0]? = some (.ref pv) := hf_0.1
  have u_1_9 : P[9]? = some (.int 0) := hf_1.2.2.2.2.2.2.2.2
  have u_15_52 : yM[52]? = some (.int 0) := hf_15.2.2.2.2.2.2.2.2.2.2.2.2.2.2.2.2.2.1
  have hin1 : vp_in 1 6 := (show ¬ ((1 : Int32) < 0 ∨ 6 ≤ (1 : Int32).toNatClampNeg) from by decide)
  have hin2 : vp_in 2 6 := (show ¬ ((2 : Int32) < 0 ∨ 6 ≤ (2 : Int32).toNatClampNeg) from by decide)
  have hin3 : vp_in 3 6 := (show ¬ ((3 : Int32) < 0 ∨ 6 ≤ (3 : Int32).toNatClampNeg) from by decide)
  have hin4 : vp_in 4 6 := (show ¬ ((4 : Int32) < 0 ∨ 6 ≤ (4 : Int32).toNatClampNeg) from by decide)
  have hin5 : vp_in 5 6 := (show ¬ ((5 : Int32) < 0 ∨ 6 ≤ (5 : Int32).toNatClampNeg) from by decide)
  obtain ⟨p0, hp0⟩ : ∃ z, z = xs 1 := ⟨_, rfl⟩
  obtain ⟨p1, hp1⟩ : ∃ z, z = xs 2 := ⟨_, rfl⟩
  obtain ⟨p2, hp2⟩ : ∃ z, z = xs 3 := ⟨_, rfl⟩
  obtain ⟨p3, hp3⟩ : ∃ z, z = xs 4 := ⟨_, rfl⟩
  obtain ⟨p4, hp4⟩ : ∃ z, z = xs 5 := ⟨_, rfl⟩
  refine lv_aload_n hx hb dL_law_392 rfl (lv_at hl 1 rfl) ?_
  refine lv_aload_n hx hb dL_law_393 rfl (lv_at hl 0 rfl) ?_
  refine lv_iload_n hx hb dL_law_394 rfl (lv_at hl 3 rfl) ?_
  refine lv_iconst (v := 1) hx hb dL_law_395 (by decide) ?_
  refine lv_iadd hx hb dL_law_396 ?_
  refine lv_topi (fun y_1 ey_1 => ?_)
  obtain rfl : y_1 = 1 := ey_1.trans (by decide)
  refine va_sld hx hb hX hbl hbA hS hin1 dL_law_397 ?_
  refine lv_topi (fun y_2 ey_2 => ?_)
  rw [show y_2 = p0 from ey_2.trans hp0.symm]
  refine lv_aload_n hx hb dL_law_398 rfl (lv_at hl 0 rfl) ?_
  refine lv_iload_n hx hb dL_law_399 rfl (lv_at hl 3 rfl) ?_
  refine lv_iconst (v := 2) hx hb dL_law_400 (by decide) ?_
  refine lv_iadd hx hb dL_law_401 ?_
  refine lv_topi (fun y_3 ey_3 => ?_)
  obtain rfl : y_3 = 2 := ey_3.trans (by decide)
  refine va_sld hx hb hX hbl hbA hS hin2 dL_law_402 ?_
  refine lv_topi (fun y_4 ey_4 => ?_)
  rw [show y_4 = p1 from ey_4.trans hp1.symm]
  refine lv_aload_n hx hb dL_law_403 rfl (lv_at hl 0 rfl) ?_
  refine lv_iload_n hx hb dL_law_404 rfl (lv_at hl 3 rfl) ?_
  refine lv_iconst (v := 3) hx hb dL_law_405 (by decide) ?_
  refine lv_iadd hx hb dL_law_406 ?_
  refine lv_topi (fun y_5 ey_5 => ?_)
  obtain rfl : y_5 = 3 := ey_5.trans (by decide)
  refine va_sld hx hb hX hbl hbA hS hin3 dL_law_407 ?_
  refine lv_topi (fun y_6 ey_6 => ?_)
  rw [show y_6 = p2 from ey_6.trans hp2.symm]
  have hPc := hP.sub (ws' := [(x, .inr (11, F)), (pv, .inr (6, P))]) [0, 1] rfl
  have hDc := hD.sub (ws' := [(x, .inr (11, F)), (pv, .inr (6, P))]) [0, 1] (by decide) rfl
  have hFc := va_free (wc := [(x, .inr (11, F)), (pv, .inr (6, P))]) hD hS hA [0, 1] rfl
  refine va_calli (va_runV (As := [.int p0, .int p1, .int p2]) (rest := []) ⟨hx, hb, hml, hown, hts⟩ (c_X11_line l D k H.size x pv F P p0 p1 p2 u_0_0 u_1_9) (cwV 3 hts (gd_V hgd m903 m904 m905 m117 m906) rfl rfl rfl (by decide +kernel) ⟨Nat.le_of_ble_eq_true rfl, Nat.le_of_ble_eq_true rfl⟩) (cP_V hPc hKX hDc (ci := 11) (q0 := 0) rfl rfl) rfl rfl hl.1 rfl (lv_room (Nat.le_of_ble_eq_true rfl)) dL_law_408 ⟨Nat.le_of_ble_eq_true rfl, Nat.le_of_ble_eq_true rfl⟩) hS (fun q _ h => hFc q h) hFc (fun r_7 u t H1 locs ht hvm hw hB hz1 hk1 hS => ?_)
  obtain ⟨hP1, hD1⟩ := hB
  rw [ht] at hP1
  obtain ⟨hP, hD⟩ := va_join (wr := [(sl, .inl (k.2.1, 3, .inl g1)), (sp, .inr (6, P2)), (sl2, .inl (k.2.1, 3, .inl g2)), (tp, .inl (k.1, 1600, .inl g3)), (rd, .inr (7, Rd)), (tk, .inr (9, K)), (ln, .inr (3, N)), (fo, .inl (k.2.1, 3, .inl g4)), (ea, .inr (1, E)), (nw, .inl (k.2.1, 10, .inl f1)), (kp, .inl (k.2.1, 410, .inl f2)), (bx, .inl (k.2.1, 30, .inl f3)), (si, .inr (8, Z)), (y, .inr (12, yM)), (ytp, .inl (k.2.1, 1600, .inl ym1)), (yns, .inl (k.2.1, 3, .inl ym2)), (yss, .inl (k.2.1, 3, .inl ym3)), (ynw, .inl (k.2.1, 16, .inl ym4)), (ywe, .inl (k.2.1, 640, .inl ym5)), (yhbx, .inl (k.2.2.2, 3, .inl ym6)), (ybx, .inl (k.2.1, 48, .inl ym7))]) (w1 := []) hP hD [0, 1] [2, 3, 4, 5, 6, 7, 8, 9, 10, 11, 12, 13, 14, 15, 16, 17, 18, 19, 20, 21, 22] rfl rfl (by decide) (by decide) hk1 hFc hP1 hD1
  generalize H1 = H at hP hS ⊢
  have hP : va_P D classes [(sl, .inl (k.2.1, 3, .inl g1)), (sp, .inr (6, P2)), (sl2, .inl (k.2.1, 3, .inl g2)), (tp, .inl (k.1, 1600, .inl g3)), (rd, .inr (7, Rd)), (tk, .inr (9, K)), (ln, .inr (3, N)), (fo, .inl (k.2.1, 3, .inl g4)), (ea, .inr (1, E)), (nw, .inl (k.2.1, 10, .inl f1)), (kp, .inl (k.2.1, 410, .inl f2)), (bx, .inl (k.2.1, 30, .inl f3)), (si, .inr (8, Z)), (y, .inr (12, yM)), (ytp, .inl (k.2.1, 1600, .inl ym1)), (yns, .inl (k.2.1, 3, .inl ym2)), (yss, .inl (k.2.1, 3, .inl ym3)), (ynw, .inl (k.2.1, 16, .inl ym4)), (ywe, .inl (k.2.1, 640, .inl ym5)), (yhbx, .inl (k.2.2.2, 3, .inl ym6)), (ybx, .inl (k.2.1, 48, .inl ym7))] H := hP
  have hD : va_D A [(sl, .inl (k.2.1, 3, .inl g1)), (sp, .inr (6, P2)), (sl2, .inl (k.2.1, 3, .inl g2)), (tp, .inl (k.1, 1600, .inl g3)), (rd, .inr (7, Rd)), (tk, .inr (9, K)), (ln, .inr (3, N)), (fo, .inl (k.2.1, 3, .inl g4)), (ea, .inr (1, E)), (nw, .inl (k.2.1, 10, .inl f1)), (kp, .inl (k.2.1, 410, .inl f2)), (bx, .inl (k.2.1, 30, .inl f3)), (si, .inr (8, Z)), (y, .inr (12, yM)), (ytp, .inl (k.2.1, 1600, .inl ym1)), (yns, .inl (k.2.1, 3, .inl ym2)), (yss, .inl (k.2.1, 3, .inl ym3)), (ynw, .inl (k.2.1, 16, .inl ym4)), (ywe, .inl (k.2.1, 640, .inl ym5)), (yhbx, .inl (k.2.2.2, 3, .inl ym6)), (ybx, .inl (k.2.1, 48, .inl ym7))] := hD
  refine W.widen (k := 119) (n := 46443) (Nat.le_of_ble_eq_true rfl) (Nat.le_of_ble_eq_true rfl) ?_
  have hw9 := hw.symm; subst hw9
  refine lv_aload_n hx hb dL_law_411 rfl (lv_at hl 2 rfl) ?_
  refine lv_aload_n hx hb dL_law_412 rfl (lv_at hl 0 rfl) ?_
  refine lv_iload_n hx hb dL_law_413 rfl (lv_at hl 3 rfl) ?_
  refine lv_iconst (v := 1) hx hb dL_law_414 (by decide) ?_
  refine lv_iadd hx hb dL_law_415 ?_
  refine lv_topi (fun y_8 ey_8 => ?_)
  obtain rfl : y_8 = 1 := ey_8.trans (by decide)
  refine va_sld hx hb hX hbl hbA hS hin1 dL_law_416 ?_
  refine lv_topi (fun y_9 ey_9 => ?_)
  rw [show y_9 = p0 from ey_9.trans hp0.symm]
  refine lv_aload_n hx hb dL_law_417 rfl (lv_at hl 0 rfl) ?_
  refine lv_iload_n hx hb dL_law_418 rfl (lv_at hl 3 rfl) ?_
  refine lv_iconst (v := 2) hx hb dL_law_419 (by decide) ?_
  refine lv_iadd hx hb dL_law_420 ?_
  refine lv_topi (fun y_10 ey_10 => ?_)
  obtain rfl : y_10 = 2 := ey_10.trans (by decide)
  refine va_sld hx hb hX hbl hbA hS hin2 dL_law_421 ?_
  refine lv_topi (fun y_11 ey_11 => ?_)
  rw [show y_11 = p1 from ey_11.trans hp1.symm]
  refine lv_aload_n hx hb dL_law_422 rfl (lv_at hl 0 rfl) ?_
  refine lv_iload_n hx hb dL_law_423 rfl (lv_at hl 3 rfl) ?_
  refine lv_iconst (v := 3) hx hb dL_law_424 (by decide) ?_
  refine lv_iadd hx hb dL_law_425 ?_
  refine lv_topi (fun y_12 ey_12 => ?_)
  obtain rfl : y_12 = 3 := ey_12.trans (by decide)
  refine va_sld hx hb hX hbl hbA hS hin3 dL_law_426 ?_
  refine lv_topi (fun y_13 ey_13 => ?_)
  rw [show y_13 = p2 from ey_13.trans hp2.symm]
  have hPc := hP.sub (ws' := [(y, .inr (12, yM))]) [13] rfl
  have hDc := hD.sub (ws' := [(y, .inr (12, yM))]) [13] (by decide) rfl
  have hFc := va_free (wc := [(y, .inr (12, yM))]) hD hS hA [13] rfl
  refine va_calli (va_runV (As := [.int p0, .int p1, .int p2]) (rest := [.int (-1)]) ⟨hx, hb, hml, hown, hts⟩ (c_X12_line l D k H.size y yM p0 p1 p2 u_15_52) (cwV 3 hts (gd_V hgd m1795 m1796 m1797 m131 m1798) rfl rfl rfl (by decide +kernel) ⟨Nat.le_of_ble_eq_true rfl, Nat.le_of_ble_eq_true rfl⟩) (cP_V hPc hKX hDc (ci := 12) (q0 := 0) rfl rfl) rfl rfl hl.1 rfl (lv_room (Nat.le_of_ble_eq_true rfl)) dL_law_427 ⟨Nat.le_of_ble_eq_true rfl, Nat.le_of_ble_eq_true rfl⟩) hS (fun q _ h => hFc q h) hFc (fun r_14 u t H1 locs ht hvm hw hB hz1 hk1 hS => ?_)
  obtain ⟨hP1, hD1⟩ := hB
  rw [ht] at hP1
  obtain ⟨hP, hD⟩ := va_join (wr := [(sl, .inl (k.2.1, 3, .inl g1)), (sp, .inr (6, P2)), (sl2, .inl (k.2.1, 3, .inl g2)), (tp, .inl (k.1, 1600, .inl g3)), (rd, .inr (7, Rd)), (tk, .inr (9, K)), (ln, .inr (3, N)), (fo, .inl (k.2.1, 3, .inl g4)), (ea, .inr (1, E)), (nw, .inl (k.2.1, 10, .inl f1)), (kp, .inl (k.2.1, 410, .inl f2)), (bx, .inl (k.2.1, 30, .inl f3)), (si, .inr (8, Z)), (ytp, .inl (k.2.1, 1600, .inl ym1)), (yns, .inl (k.2.1, 3, .inl ym2)), (yss, .inl (k.2.1, 3, .inl ym3)), (ynw, .inl (k.2.1, 16, .inl ym4)), (ywe, .inl (k.2.1, 640, .inl ym5)), (yhbx, .inl (k.2.2.2, 3, .inl ym6)), (ybx, .inl (k.2.1, 48, .inl ym7))]) (w1 := []) hP hD [13] [0, 1, 2, 3, 4, 5, 6, 7, 8, 9, 10, 11, 12, 14, 15, 16, 17, 18, 19, 20] rfl rfl (by decide) (by decide) hk1 hFc hP1 hD1
  generalize H1 = H at hP hS ⊢
  have hP : va_P D classes [(sl, .inl (k.2.1, 3, .inl g1)), (sp, .inr (6, P2)), (sl2, .inl (k.2.1, 3, .inl g2)), (tp, .inl (k.1, 1600, .inl g3)), (rd, .inr (7, Rd)), (tk, .inr (9, K)), (ln, .inr (3, N)), (fo, .inl (k.2.1, 3, .inl g4)), (ea, .inr (1, E)), (nw, .inl (k.2.1, 10, .inl f1)), (kp, .inl (k.2.1, 410, .inl f2)), (bx, .inl (k.2.1, 30, .inl f3)), (si, .inr (8, Z)), (ytp, .inl (k.2.1, 1600, .inl ym1)), (yns, .inl (k.2.1, 3, .inl ym2)), (yss, .inl (k.2.1, 3, .inl ym3)), (ynw, .inl (k.2.1, 16, .inl ym4)), (ywe, .inl (k.2.1, 640, .inl ym5)), (yhbx, .inl (k.2.2.2, 3, .inl ym6)), (ybx, .inl (k.2.1, 48, .inl ym7))] H := hP
  have hD : va_D A [(sl, .inl (k.2.1, 3, .inl g1)), (sp, .inr (6, P2)), (sl2, .inl (k.2.1, 3, .inl g2)), (tp, .inl (k.1, 1600, .inl g3)), (rd, .inr (7, Rd)), (tk, .inr (9, K)), (ln, .inr (3, N)), (fo, .inl (k.2.1, 3, .inl g4)), (ea, .inr (1, E)), (nw, .inl (k.2.1, 10, .inl f1)), (kp, .inl (k.2.1, 410, .inl f2)), (bx, .inl (k.2.1, 30, .inl f3)), (si, .inr (8, Z)), (ytp, .inl (k.2.1, 1600, .inl ym1)), (yns, .inl (k.2.1, 3, .inl ym2)), (yss, .inl (k.2.1, 3, .inl ym3)), (ynw, .inl (k.2.1, 16, .inl ym4)), (ywe, .inl (k.2.1, 640, .inl ym5)), (yhbx, .inl (k.2.2.2, 3, .inl ym6)), (ybx, .inl (k.2.1, 48, .inl ym7))] := hD
  refine W.widen (k := 119) (n := 46443) (Nat.le_of_ble_eq_true rfl) (Nat.le_of_ble_eq_true rfl) ?_
  have hw9 := hw.symm; subst hw9
  refine lv_icmp_eq (tgt := 1645) hx hb dL_law_430 (by decide) (fun c_15 => ?_) (fun c_15 => ?_)
  · have c_15 : ((-1) : Int32) = (-1) := c_15
    exact law_tail rfl C0 hKX hA hA2 hbA hS (lv_sub hl [0, 1, 2, 3] rfl)
  · exact absurd rfl c_15

set_option maxHeartbeats 4000000 in
set_option maxRecDepth 100000 in
theorem law_7 {p : Program} {l : Launch} {e : Env} {s : State} {m : MethodId} {below : List Frame} {meth : Method} {c : Code} {D : va_G} {k : ClassId × ClassId × ClassId × ClassId} {A : Nat → Prop} {b L : Nat} {xs : Nat → Int32} (hL : L = 6) (C0 : lw_At p s m meth c b L xs) (hKX : va_K D classes (TY k) s ∧ cX s) (hA : ∀ q : Nat, s.heap.size ≤ q → A q) (hA2 : ∀ q : Nat, A q → s.heap.size ≤ q) (hbA : ¬ A b) {x y : Nat} {H : Heap} {locs : List Loc} (hF : Fresh D k A x y H) (hS : va_S A s.heap H locs) {ls : Array Slot} (hl : lv_has ls 4 [(0, .ref b), (1, .ref x), (2, .ref y), (3, .int 0)]) : W p l e room_1 s m #[Value.ref b] below meth c H locs 119 46443 (lw_Z below #[Value.ref b] s) (F0 m 435 ls []) := by
  obtain ⟨hx, hb, hr, hml, hown, hts, hX, hbl, hlocks, hgv⟩ := id C0
  have hown : s.vm.findClass RL = some m.cls := hown
  have hK := hKX.1
  have hgd : ∀ w ∈ gd, w ∈ lw_tbl := fun w h => (List.mem_filter.mp h).1
  have hg : ∀ w ∈ gd, w.before #[Value.ref b] s = true := fun w h => hts w (hgd w h)
  subst hL
  obtain ⟨F, pv, P, sl, g1, sp, P2, sl2, g2, tp, g3, rd, Rd, tk, K, ln, N, fo, g4, ea, E, nw, f1, kp, f2, bx, f3, si, Z, yM, ytp, ym1, yns, ym2, yss, ym3, ynw, ym4, ywe, ym5, yhbx, ym6, ybx, ym7, hf_0, hf_1, hf_2, hf_3, hf_4, hf_6, hf_7, hf_8, hf_10, hf_11, hf_14, hf_15, hf_18, hf_19, hf_21, hP, hD⟩ := hF
  have u_0_0 : F[0]? = some (.ref pv) := hf_0.1
  have u_1_9 : P[9]? = some (.int 0) := hf_1.2.2.2.2.2.2.2.2
  have u_15_52 : yM[52]? = some (.int 0) := hf_15.2.2.2.2.2.2.2.2.2.2.2.2.2.2.2.2.2.1
  have hin1 : vp_in 1 6 := (show ¬ ((1 : Int32) < 0 ∨ 6 ≤ (1 : Int32).toNatClampNeg) from by decide)
  have hin2 : vp_in 2 6 := (show ¬ ((2 : Int32) < 0 ∨ 6 ≤ (2 : Int32).toNatClampNeg) from by decide)
  have hin3 : vp_in 3 6 := (show ¬ ((3 : Int32) < 0 ∨ 6 ≤ (3 : Int32).toNatClampNeg) from by decide)
  have hin4 : vp_in 4 6 := (show ¬ ((4 : Int32) < 0 ∨ 6 ≤ (4 : Int32).toNatClampNeg) from by decide)
  have hin5 : vp_in 5 6 := (show ¬ ((5 : Int32) < 0 ∨ 6 ≤ (5 : Int32).toNatClampNeg) from by decide)
  obtain ⟨p0, hp0⟩ : ∃ z, z = xs 1 := ⟨_, rfl⟩
  obtain ⟨p1, hp1⟩ : ∃ z, z = xs 2 := ⟨_, rfl⟩
  obtain ⟨p2, hp2⟩ : ∃ z, z = xs 3 := ⟨_, rfl⟩
  obtain ⟨p3, hp3⟩ : ∃ z, z = xs 4 := ⟨_, rfl⟩
  obtain ⟨p4, hp4⟩ : ∃ z, z = xs 5 := ⟨_, rfl⟩
  refine lv_aload_n hx hb dL_law_435 rfl (lv_at hl 1 rfl) ?_
  refine lv_aload_n hx hb dL_law_436 rfl (lv_at hl 0 rfl) ?_
  refine lv_iload_n hx hb dL_law_437 rfl (lv_at hl 3 rfl) ?_
  refine lv_iconst (v := 1) hx hb dL_law_438 (by decide) ?_
  refine lv_iadd hx hb dL_law_439 ?_
  refine lv_topi (fun y_1 ey_1 => ?_)
  obtain rfl : y_1 = 1 := ey_1.trans (by decide)
  refine va_sld hx hb hX hbl hbA hS hin1 dL_law_440 ?_
  refine lv_topi (fun y_2 ey_2 => ?_)
  rw [show y_2 = p0 from ey_2.trans hp0.symm]
  refine lv_aload_n hx hb dL_law_441 rfl (lv_at hl 0 rfl) ?_
  refine lv_iload_n hx hb dL_law_442 rfl (lv_at hl 3 rfl) ?_
  refine lv_iconst (v := 2) hx hb dL_law_443 (by decide) ?_
  refine lv_iadd hx hb dL_law_444 ?_
  refine lv_topi (fun y_3 ey_3 => ?_)
  obtain rfl : y_3 = 2 := ey_3.trans (by decide)
  refine va_sld hx hb hX hbl hbA hS hin2 dL_law_445 ?_
  refine lv_topi (fun y_4 ey_4 => ?_)
  rw [show y_4 = p1 from ey_4.trans hp1.symm]
  refine lv_aload_n hx hb dL_law_446 rfl (lv_at hl 0 rfl) ?_
  refine lv_iload_n hx hb dL_law_447 rfl (lv_at hl 3 rfl) ?_
  refine lv_iconst (v := 3) hx hb dL_law_448 (by decide) ?_
  refine lv_iadd hx hb dL_law_449 ?_
  refine lv_topi (fun y_5 ey_5 => ?_)
  obtain rfl : y_5 = 3 := ey_5.trans (by decide)
  refine va_sld hx hb hX hbl hbA hS hin3 dL_law_450 ?_
  refine lv_topi (fun y_6 ey_6 => ?_)
  rw [show y_6 = p2 from ey_6.trans hp2.symm]
  have hPc := hP.sub (ws' := [(x, .inr (11, F)), (pv, .inr (6, P))]) [0, 1] rfl
  have hDc := hD.sub (ws' := [(x, .inr (11, F)), (pv, .inr (6, P))]) [0, 1] (by decide) rfl
  have hFc := va_free (wc := [(x, .inr (11, F)), (pv, .inr (6, P))]) hD hS hA [0, 1] rfl
  refine va_calli (va_runV (As := [.int p0, .int p1, .int p2]) (rest := []) ⟨hx, hb, hml, hown, hts⟩ (c_X11_gap l D k H.size x pv F P p0 p1 p2 u_0_0 u_1_9) (cwV 3 hts (gd_V hgd m945 m946 m947 m117 m948) rfl rfl rfl (by decide +kernel) ⟨Nat.le_of_ble_eq_true rfl, Nat.le_of_ble_eq_true rfl⟩) (cP_V hPc hKX hDc (ci := 11) (q0 := 0) rfl rfl) rfl rfl hl.1 rfl (lv_room (Nat.le_of_ble_eq_true rfl)) dL_law_451 ⟨Nat.le_of_ble_eq_true rfl, Nat.le_of_ble_eq_true rfl⟩) hS (fun q _ h => hFc q h) hFc (fun r_7 u t H1 locs ht hvm hw hB hz1 hk1 hS => ?_)
  obtain ⟨hP1, hD1⟩ := hB
  rw [ht] at hP1
  obtain ⟨hP, hD⟩ := va_join (wr := [(sl, .inl (k.2.1, 3, .inl g1)), (sp, .inr (6, P2)), (sl2, .inl (k.2.1, 3, .inl g2)), (tp, .inl (k.1, 1600, .inl g3)), (rd, .inr (7, Rd)), (tk, .inr (9, K)), (ln, .inr (3, N)), (fo, .inl (k.2.1, 3, .inl g4)), (ea, .inr (1, E)), (nw, .inl (k.2.1, 10, .inl f1)), (kp, .inl (k.2.1, 410, .inl f2)), (bx, .inl (k.2.1, 30, .inl f3)), (si, .inr (8, Z)), (y, .inr (12, yM)), (ytp, .inl (k.2.1, 1600, .inl ym1)), (yns, .inl (k.2.1, 3, .inl ym2)), (yss, .inl (k.2.1, 3, .inl ym3)), (ynw, .inl (k.2.1, 16, .inl ym4)), (ywe, .inl (k.2.1, 640, .inl ym5)), (yhbx, .inl (k.2.2.2, 3, .inl ym6)), (ybx, .inl (k.2.1, 48, .inl ym7))]) (w1 := []) hP hD [0, 1] [2, 3, 4, 5, 6, 7, 8, 9, 10, 11, 12, 13, 14, 15, 16, 17, 18, 19, 20, 21, 22] rfl rfl (by decide) (by decide) hk1 hFc hP1 hD1
  generalize H1 = H at hP hS ⊢
  have hP : va_P D classes [(sl, .inl (k.2.1, 3, .inl g1)), (sp, .inr (6, P2)), (sl2, .inl (k.2.1, 3, .inl g2)), (tp, .inl (k.1, 1600, .inl g3)), (rd, .inr (7, Rd)), (tk, .inr (9, K)), (ln, .inr (3, N)), (fo, .inl (k.2.1, 3, .inl g4)), (ea, .inr (1, E)), (nw, .inl (k.2.1, 10, .inl f1)), (kp, .inl (k.2.1, 410, .inl f2)), (bx, .inl (k.2.1, 30, .inl f3)), (si, .inr (8, Z)), (y, .inr (12, yM)), (ytp, .inl (k.2.1, 1600, .inl ym1)), (yns, .inl (k.2.1, 3, .inl ym2)), (yss, .inl (k.2.1, 3, .inl ym3)), (ynw, .inl (k.2.1, 16, .inl ym4)), (ywe, .inl (k.2.1, 640, .inl ym5)), (yhbx, .inl (k.2.2.2, 3, .inl ym6)), (ybx, .inl (k.2.1, 48, .inl ym7))] H := hP
  have hD : va_D A [(sl, .inl (k.2.1, 3, .inl g1)), (sp, .inr (6, P2)), (sl2, .inl (k.2.1, 3, .inl g2)), (tp, .inl (k.1, 1600, .inl g3)), (rd, .inr (7, Rd)), (tk, .inr (9, K)), (ln, .inr (3, N)), (fo, .inl (k.2.1, 3, .inl g4)), (ea, .inr (1, E)), (nw, .inl (k.2.1, 10, .inl f1)), (kp, .inl (k.2.1, 410, .inl f2)), (bx, .inl (k.2.1, 30, .inl f3)), (si, .inr (8, Z)), (y, .inr (12, yM)), (ytp, .inl (k.2.1, 1600, .inl ym1)), (yns, .inl (k.2.1, 3, .inl ym2)), (yss, .inl (k.2.1, 3, .inl ym3)), (ynw, .inl (k.2.1, 16, .inl ym4)), (ywe, .inl (k.2.1, 640, .inl ym5)), (yhbx, .inl (k.2.2.2, 3, .inl ym6)), (ybx, .inl (k.2.1, 48, .inl ym7))] := hD
  refine W.widen (k := 119) (n := 46443) (Nat.le_of_ble_eq_true rfl) (Nat.le_of_ble_eq_true rfl) ?_
  have hw9 := hw.symm; subst hw9
  refine lv_aload_n hx hb dL_law_454 rfl (lv_at hl 2 rfl) ?_
  refine lv_aload_n hx hb dL_law_455 rfl (lv_at hl 0 rfl) ?_
  refine lv_iload_n hx hb dL_law_456 rfl (lv_at hl 3 rfl) ?_
  refine lv_iconst (v := 1) hx hb dL_law_457 (by decide) ?_
  refine lv_iadd hx hb dL_law_458 ?_
  refine lv_topi (fun y_8 ey_8 => ?_)
  obtain rfl : y_8 = 1 := ey_8.trans (by decide)
  refine va_sld hx hb hX hbl hbA hS hin1 dL_law_459 ?_
  refine lv_topi (fun y_9 ey_9 => ?_)
  rw [show y_9 = p0 from ey_9.trans hp0.symm]
  refine lv_aload_n hx hb dL_law_460 rfl (lv_at hl 0 rfl) ?_
  refine lv_iload_n hx hb dL_law_461 rfl (lv_at hl 3 rfl) ?_
  refine lv_iconst (v := 2) hx hb dL_law_462 (by decide) ?_
  refine lv_iadd hx hb dL_law_463 ?_
  refine lv_topi (fun y_10 ey_10 => ?_)
  obtain rfl : y_10 = 2 := ey_10.trans (by decide)
  refine va_sld hx hb hX hbl hbA hS hin2 dL_law_464 ?_
  refine lv_topi (fun y_11 ey_11 => ?_)
  rw [show y_11 = p1 from ey_11.trans hp1.symm]
  refine lv_aload_n hx hb dL_law_465 rfl (lv_at hl 0 rfl) ?_
  refine lv_iload_n hx hb dL_law_466 rfl (lv_at hl 3 rfl) ?_
  refine lv_iconst (v := 3) hx hb dL_law_467 (by decide) ?_
  refine lv_iadd hx hb dL_law_468 ?_
  refine lv_topi (fun y_12 ey_12 => ?_)
  obtain rfl : y_12 = 3 := ey_12.trans (by decide)
  refine va_sld hx hb hX hbl hbA hS hin3 dL_law_469 ?_
  refine lv_topi (fun y_13 ey_13 => ?_)
  rw [show y_13 = p2 from ey_13.trans hp2.symm]
  have hPc := hP.sub (ws' := [(y, .inr (12, yM))]) [13] rfl
  have hDc := hD.sub (ws' := [(y, .inr (12, yM))]) [13] (by decide) rfl
  have hFc := va_free (wc := [(y, .inr (12, yM))]) hD hS hA [13] rfl
  refine va_calli (va_runV (As := [.int p0, .int p1, .int p2]) (rest := [.int (-1)]) ⟨hx, hb, hml, hown, hts⟩ (c_X12_gap l D k H.size y yM p0 p1 p2 u_15_52) (cwV 3 hts (gd_V hgd m1818 m1819 m1820 m131 m1821) rfl rfl rfl (by decide +kernel) ⟨Nat.le_of_ble_eq_true rfl, Nat.le_of_ble_eq_true rfl⟩) (cP_V hPc hKX hDc (ci := 12) (q0 := 0) rfl rfl) rfl rfl hl.1 rfl (lv_room (Nat.le_of_ble_eq_true rfl)) dL_law_470 ⟨Nat.le_of_ble_eq_true rfl, Nat.le_of_ble_eq_true rfl⟩) hS (fun q _ h => hFc q h) hFc (fun r_14 u t H1 locs ht hvm hw hB hz1 hk1 hS => ?_)
  obtain ⟨hP1, hD1⟩ := hB
  rw [ht] at hP1
  obtain ⟨hP, hD⟩ := va_join (wr := [(sl, .inl (k.2.1, 3, .inl g1)), (sp, .inr (6, P2)), (sl2, .inl (k.2.1, 3, .inl g2)), (tp, .inl (k.1, 1600, .inl g3)), (rd, .inr (7, Rd)), (tk, .inr (9, K)), (ln, .inr (3, N)), (fo, .inl (k.2.1, 3, .inl g4)), (ea, .inr (1, E)), (nw, .inl (k.2.1, 10, .inl f1)), (kp, .inl (k.2.1, 410, .inl f2)), (bx, .inl (k.2.1, 30, .inl f3)), (si, .inr (8, Z)), (ytp, .inl (k.2.1, 1600, .inl ym1)), (yns, .inl (k.2.1, 3, .inl ym2)), (yss, .inl (k.2.1, 3, .inl ym3)), (ynw, .inl (k.2.1, 16, .inl ym4)), (ywe, .inl (k.2.1, 640, .inl ym5)), (yhbx, .inl (k.2.2.2, 3, .inl ym6)), (ybx, .inl (k.2.1, 48, .inl ym7))]) (w1 := []) hP hD [13] [0, 1, 2, 3, 4, 5, 6, 7, 8, 9, 10, 11, 12, 14, 15, 16, 17, 18, 19, 20] rfl rfl (by decide) (by decide) hk1 hFc hP1 hD1
  generalize H1 = H at hP hS ⊢
  have hP : va_P D classes [(sl, .inl (k.2.1, 3, .inl g1)), (sp, .inr (6, P2)), (sl2, .inl (k.2.1, 3, .inl g2)), (tp, .inl (k.1, 1600, .inl g3)), (rd, .inr (7, Rd)), (tk, .inr (9, K)), (ln, .inr (3, N)), (fo, .inl (k.2.1, 3, .inl g4)), (ea, .inr (1, E)), (nw, .inl (k.2.1, 10, .inl f1)), (kp, .inl (k.2.1, 410, .inl f2)), (bx, .inl (k.2.1, 30, .inl f3)), (si, .inr (8, Z)), (ytp, .inl (k.2.1, 1600, .inl ym1)), (yns, .inl (k.2.1, 3, .inl ym2)), (yss, .inl (k.2.1, 3, .inl ym3)), (ynw, .inl (k.2.1, 16, .inl ym4)), (ywe, .inl (k.2.1, 640, .inl ym5)), (yhbx, .inl (k.2.2.2, 3, .inl ym6)), (ybx, .inl (k.2.1, 48, .inl ym7))] H := hP
  have hD : va_D A [(sl, .inl (k.2.1, 3, .inl g1)), (sp, .inr (6, P2)), (sl2, .inl (k.2.1, 3, .inl g2)), (tp, .inl (k.1, 1600, .inl g3)), (rd, .inr (7, Rd)), (tk, .inr (9, K)), (ln, .inr (3, N)), (fo, .inl (k.2.1, 3, .inl g4)), (ea, .inr (1, E)), (nw, .inl (k.2.1, 10, .inl f1)), (kp, .inl (k.2.1, 410, .inl f2)), (bx, .inl (k.2.1, 30, .inl f3)), (si, .inr (8, Z)), (ytp, .inl (k.2.1, 1600, .inl ym1)), (yns, .inl (k.2.1, 3, .inl ym2)), (yss, .inl (k.2.1, 3, .inl ym3)), (ynw, .inl (k.2.1, 16, .inl ym4)), (ywe, .inl (k.2.1, 640, .inl ym5)), (yhbx, .inl (k.2.2.2, 3, .inl ym6)), (ybx, .inl (k.2.1, 48, .inl ym7))] := hD
  refine W.widen (k := 119) (n := 46443) (Nat.le_of_ble_eq_true rfl) (Nat.le_of_ble_eq_true rfl) ?_
  have hw9 := hw.symm; subst hw9
  refine lv_icmp_eq (tgt := 1645) hx hb dL_law_473 (by decide) (fun c_15 => ?_) (fun c_15 => ?_)
  · have c_15 : ((-1) : Int32) = (-1) := c_15
    exact law_tail rfl C0 hKX hA hA2 hbA hS (lv_sub hl [0, 1, 2, 3] rfl)
  · exact absurd rfl c_15
