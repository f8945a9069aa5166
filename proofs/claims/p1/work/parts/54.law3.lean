set_option maxHeartbeats 4000000 in
set_option maxRecDepth 100000 in
theorem law_24 {p : Program} {l : Launch} {e : Env} {s : State} {m : MethodId} {below : List Frame} {meth : Method} {c : Code} {D : va_G} {k : ClassId × ClassId × ClassId × ClassId} {A : Nat → Prop} {b L : Nat} {xs : Nat → Int32} (hL : L = 6) (C0 : lw_At p s m meth c b L xs) (hKX : va_K D classes (TY k) s ∧ cX s) (hA : ∀ q : Nat, s.heap.size ≤ q → A q) (hA2 : ∀ q : Nat, A q → s.heap.size ≤ q) (hbA : ¬ A b) {x y : Nat} {H : Heap} {locs : List Loc} (hF : Fresh D k A x y H) (hS : va_S A s.heap H locs) {ls : Array Slot} (hl : lv_has ls 4 [(0, .ref b), (1, .ref x), (2, .ref y), (3, .int 0)]) : W p l e room_1 s m #[Value.ref b] below meth c H locs 119 46443 (lw_Z below #[Value.ref b] s) (F0 m 1299 ls []) := by
  obtain ⟨hx, hb, hr, hml, hown, hts, hX, hbl, hlocks, hgv⟩ := id C0
  have hown : s.vm.findClass RL = some m.cls := hown
  have hK := hKX.1
  have hgd : ∀ w ∈ gd, w ∈ lw_tbl := fun w h => (List.mem_filter.mp h).1
  have hg : ∀ w ∈ gd, w.before #[Value.ref b] s = true := fun w h => hts w (hgd w h)
  subst hL
  obtain ⟨F, pv, P, sl, g1, sp, P2, sl2, g2, tp, g3, rd, Rd, tk, K, ln, N, fo, g4, ea, E, nw, f1, kp, f2, bx, f3, si, Z, yM, ytp, ym1, yns, ym2, yss, ym3, ynw, ym4, ywe, ym5, yhbx, ym6, ybx, ym7, hf_0, hf_1, hf_2, hf_3, hf_4, hf_6, hf_7, hf_8, hf_10, hf_11, hf_14, hf_15, hf_18, hf_19, hf_21, hP, hD⟩ := hF
  have u_0_0 : F[0]? = some (.ref pv) := hf_0.1
  have u_1_11 : P[11]? = some (.int 0) := hf_1.2.1
  have u_15_54 : yM[54]? = some (.int 0) := hf_15.2.2.2.2.2.2.2.2.2.2.2.2.2.2.2.2.2.2.2.1
  have hin1 : vp_in 1 6 := (show ¬ ((1 : Int32) < 0 ∨ 6 ≤ (1 : Int32).toNatClampNeg) from by decide)
  have hin2 : vp_in 2 6 := (show ¬ ((2 : Int32) < 0 ∨ 6 ≤ (2 : Int32).toNatClampNeg) from by decide)
  have hin3 : vp_in 3 6 := (show ¬ ((3 : Int32) < 0 ∨ 6 ≤ (3 : Int32).toNatClampNeg) from by decide)
  have hin4 : vp_in 4 6 := (show ¬ ((4 : Int32) < 0 ∨ 6 ≤ (4 : Int32).toNatClampNeg) from by decide)
  have hin5 : vp_in 5 6 := (show ¬ ((5 : Int32) < 0 ∨ 6 ≤ (5 : Int32).toNatClampNeg) from by decide)
  obtain ⟨p0, hp0⟩ : ∃ z, z = xs 1 := ⟨_, rfl⟩
  obtain ⟨p1, hp1⟩ : ∃ z, z = xs 2 := ⟨_, rfl⟩
  obtain ⟨p2, hp2⟩ : ∃ z, z = xs 3 := ⟨_, rfl⟩
  obtain ⟨p3, hp3⟩ : ∃ z, z = xs 4 := ⟨_, rfl⟩
  obtain ⟨p4, hp4⟩ : ∃ z, z = xs 5 := ⟨_, rfl⟩
  refine lv_aload_n hx hb dL_law_1299 rfl (lv_at hl 1 rfl) ?_
  refine lv_aload_n hx hb dL_law_1300 rfl (lv_at hl 0 rfl) ?_
  refine lv_iload_n hx hb dL_law_1301 rfl (lv_at hl 3 rfl) ?_
  refine lv_iconst (v := 1) hx hb dL_law_1302 (by decide) ?_
  refine lv_iadd hx hb dL_law_1303 ?_
  refine lv_topi (fun y_1 ey_1 => ?_)
  obtain rfl : y_1 = 1 := ey_1.trans (by decide)
  refine va_sld hx hb hX hbl hbA hS hin1 dL_law_1304 ?_
  refine lv_topi (fun y_2 ey_2 => ?_)
  rw [show y_2 = p0 from ey_2.trans hp0.symm]
  have hPc := hP.sub (ws' := [(x, .inr (11, F)), (pv, .inr (6, P))]) [0, 1] rfl
  have hDc := hD.sub (ws' := [(x, .inr (11, F)), (pv, .inr (6, P))]) [0, 1] (by decide) rfl
  have hFc := va_free (wc := [(x, .inr (11, F)), (pv, .inr (6, P))]) hD hS hA [0, 1] rfl
  refine va_calli (va_runV (As := [.int p0]) (rest := []) ⟨hx, hb, hml, hown, hts⟩ (c_X11_force l D k H.size x pv F P p0 u_0_0 u_1_11) (cwV 1 hts (gd_V hgd m1202 m1203 m1204 m117 m1205) rfl rfl rfl (by decide +kernel) ⟨Nat.le_of_ble_eq_true rfl, Nat.le_of_ble_eq_true rfl⟩) (cP_V hPc hKX hDc (ci := 11) (q0 := 0) rfl rfl) rfl rfl hl.1 rfl (lv_room (Nat.le_of_ble_eq_true rfl)) dL_law_1305 ⟨Nat.le_of_ble_eq_true rfl, Nat.le_of_ble_eq_true rfl⟩) hS (fun q _ h => hFc q h) hFc (fun r_3 u t H1 locs ht hvm hw hB hz1 hk1 hS => ?_)
  obtain ⟨hP1, hD1⟩ := hB
  rw [ht] at hP1
  obtain ⟨hP, hD⟩ := va_join (wr := [(sl, .inl (k.2.1, 3, .inl g1)), (sp, .inr (6, P2)), (sl2, .inl (k.2.1, 3, .inl g2)), (tp, .inl (k.1, 1600, .inl g3)), (rd, .inr (7, Rd)), (tk, .inr (9, K)), (ln, .inr (3, N)), (fo, .inl (k.2.1, 3, .inl g4)), (ea, .inr (1, E)), (nw, .inl (k.2.1, 10, .inl f1)), (kp, .inl (k.2.1, 410, .inl f2)), (bx, .inl (k.2.1, 30, .inl f3)), (si, .inr (8, Z)), (y, .inr (12, yM)), (ytp, .inl (k.2.1, 1600, .inl ym1)), (yns, .inl (k.2.1, 3, .inl ym2)), (yss, .inl (k.2.1, 3, .inl ym3)), (ynw, .inl (k.2.1, 16, .inl ym4)), (ywe, .inl (k.2.1, 640, .inl ym5)), (yhbx, .inl (k.2.2.2, 3, .inl ym6)), (ybx, .inl (k.2.1, 48, .inl ym7))]) (w1 := []) hP hD [0, 1] [2, 3, 4, 5, 6, 7, 8, 9, 10, 11, 12, 13, 14, 15, 16, 17, 18, 19, 20, 21, 22] rfl rfl (by decide) (by decide) hk1 hFc hP1 hD1
  generalize H1 = H at hP hS ⊢
  have hP : va_P D classes [(sl, .inl (k.2.1, 3, .inl g1)), (sp, .inr (6, P2)), (sl2, .inl (k.2.1, 3, .inl g2)), (tp, .inl (k.1, 1600, .inl g3)), (rd, .inr (7, Rd)), (tk, .inr (9, K)), (ln, .inr (3, N)), (fo, .inl (k.2.1, 3, .inl g4)), (ea, .inr (1, E)), (nw, .inl (k.2.1, 10, .inl f1)), (kp, .inl (k.2.1, 410, .inl f2)), (bx, .inl (k.2.1, 30, .inl f3)), (si, .inr (8, Z)), (y, .inr (12, yM)), (ytp, .inl (k.2.1, 1600, .inl ym1)), (yns, .inl (k.2.1, 3, .inl ym2)), (yss, .inl (k.2.1, 3, .inl ym3)), (ynw, .inl (k.2.1, 16, .inl ym4)), (ywe, .inl (k.2.1, 640, .inl ym5)), (yhbx, .inl (k.2.2.2, 3, .inl ym6)), (ybx, .inl (k.2.1, 48, .inl ym7))] H := hP
  have hD : va_D A [(sl, .inl (k.2.1, 3, .inl g1)), (sp, .inr (6, P2)), (sl2, .inl (k.2.1, 3, .inl g2)), (tp, .inl (k.1, 1600, .inl g3)), (rd, .inr (7, Rd)), (tk, .inr (9, K)), (ln, .inr (3, N)), (fo, .inl (k.2.1, 3, .inl g4)), (ea, .inr (1, E)), (nw, .inl (k.2.1, 10, .inl f1)), (kp, .inl (k.2.1, 410, .inl f2)), (bx, .inl (k.2.1, 30, .inl f3)), (si, .inr (8, Z)), (y, .inr (12, yM)), (ytp, .inl (k.2.1, 1600, .inl ym1)), (yns, .inl (k.2.1, 3, .inl ym2)), (yss, .inl (k.2.1, 3, .inl ym3)), (ynw, .inl (k.2.1, 16, .inl ym4)), (ywe, .inl (k.2.1, 640, .inl ym5)), (yhbx, .inl (k.2.2.2, 3, .inl ym6)), (ybx, .inl (k.2.1, 48, .inl ym7))] := hD
  refine W.widen (k := 119) (n := 46443) (Nat.le_of_ble_eq_true rfl) (Nat.le_of_ble_eq_true rfl) ?_
  have hw9 := hw.symm; subst hw9
  refine lv_aload_n hx hb dL_law_1308 rfl (lv_at hl 2 rfl) ?_
  refine lv_aload_n hx hb dL_law_1309 rfl (lv_at hl 0 rfl) ?_
  refine lv_iload_n hx hb dL_law_1310 rfl (lv_at hl 3 rfl) ?_
  refine lv_iconst (v := 1) hx hb dL_law_1311 (by decide) ?_
  refine lv_iadd hx hb dL_law_1312 ?_
  refine lv_topi (fun y_4 ey_4 => ?_)
  obtain rfl : y_4 = 1 := ey_4.trans (by decide)
  refine va_sld hx hb hX hbl hbA hS hin1 dL_law_1313 ?_
  refine lv_topi (fun y_5 ey_5 => ?_)
  rw [show y_5 = p0 from ey_5.trans hp0.symm]
  have hPc := hP.sub (ws' := [(y, .inr (12, yM))]) [13] rfl
  have hDc := hD.sub (ws' := [(y, .inr (12, yM))]) [13] (by decide) rfl
  have hFc := va_free (wc := [(y, .inr (12, yM))]) hD hS hA [13] rfl
  refine va_calli (va_runV (As := [.int p0]) (rest := [.int (-1)]) ⟨hx, hb, hml, hown, hts⟩ (c_X12_force l D k H.size y yM p0 u_15_54) (cwV 1 hts (gd_V hgd m2003 m2004 m2005 m131 m2006) rfl rfl rfl (by decide +kernel) ⟨Nat.le_of_ble_eq_true rfl, Nat.le_of_ble_eq_true rfl⟩) (cP_V hPc hKX hDc (ci := 12) (q0 := 0) rfl rfl) rfl rfl hl.1 rfl (lv_room (Nat.le_of_ble_eq_true rfl)) dL_law_1314 ⟨Nat.le_of_ble_eq_true rfl, Nat.le_of_ble_eq_true rfl⟩) hS (fun q _ h => hFc q h) hFc (fun r_6 u t H1 locs ht hvm hw hB hz1 hk1 hS => ?_)
  obtain ⟨hP1, hD1⟩ := hB
  rw [ht] at hP1
  obtain ⟨hP, hD⟩ := va_join (wr := [(sl, .inl (k.2.1, 3, .inl g1)), (sp, .inr (6, P2)), (sl2, .inl (k.2.1, 3, .inl g2)), (tp, .inl (k.1, 1600, .inl g3)), (rd, .inr (7, Rd)), (tk, .inr (9, K)), (ln, .inr (3, N)), (fo, .inl (k.2.1, 3, .inl g4)), (ea, .inr (1, E)), (nw, .inl (k.2.1, 10, .inl f1)), (kp, .inl (k.2.1, 410, .inl f2)), (bx, .inl (k.2.1, 30, .inl f3)), (si, .inr (8, Z)), (ytp, .inl (k.2.1, 1600, .inl ym1)), (yns, .inl (k.2.1, 3, .inl ym2)), (yss, .inl (k.2.1, 3, .inl ym3)), (ynw, .inl (k.2.1, 16, .inl ym4)), (ywe, .inl (k.2.1, 640, .inl ym5)), (yhbx, .inl (k.2.2.2, 3, .inl ym6)), (ybx, .inl (k.2.1, 48, .inl ym7))]) (w1 := []) hP hD [13] [0, 1, 2, 3, 4, 5, 6, 7, 8, 9, 10, 11, 12, 14, 15, 16, 17, 18, 19, 20] rfl rfl (by decide) (by decide) hk1 hFc hP1 hD1
  generalize H1 = H at hP hS ⊢
  have hP : va_P D classes [(sl, .inl (k.2.1, 3, .inl g1)), (sp, .inr (6, P2)), (sl2, .inl (k.2.1, 3, .inl g2)), (tp, .inl (k.1, 1600, .inl g3)), (rd, .inr (7, Rd)), (tk, .inr (9, K)), (ln, .inr (3, N)), (fo, .inl (k.2.1, 3, .inl g4)), (ea, .inr (1, E)), (nw, .inl (k.2.1, 10, .inl f1)), (kp, .inl (k.2.1, 410, .inl f2)), (bx, .inl (k.2.1, 30, .inl f3)), (si, .inr (8, Z)), (ytp, .inl (k.2.1, 1600, .inl ym1)), (yns, .inl (k.2.1, 3, .inl ym2)), (yss, .inl (k.2.1, 3, .inl ym3)), (ynw, .inl (k.2.1, 16, .inl ym4)), (ywe, .inl (k.2.1, 640, .inl ym5)), (yhbx, .inl (k.2.2.2, 3, .inl ym6)), (ybx, .inl (k.2.1, 48, .inl ym7))] H := hP
  have hD : va_D A [(sl, .inl (k.2.1, 3, .inl g1)), (sp, .inr (6, P2)), (sl2, .inl (k.2.1, 3, .inl g2)), (tp, .inl (k.1, 1600, .inl g3)), (rd, .inr (7, Rd)), (tk, .inr (9, K)), (ln, .inr (3, N)), (fo, .inl (k.2.1, 3, .inl g4)), (ea, .inr (1, E)), (nw, .inl (k.2.1, 10, .inl f1)), (kp, .inl (k.2.1, 410, .inl f2)), (bx, .inl (k.2.1, 30, .inl f3)), (si, .inr (8, Z)), (ytp, .inl (k.2.1, 1600, .inl ym1)), (yns, .inl (k.2.1, 3, .inl ym2)), (yss, .inl (k.2.1, 3, .inl ym3)), (ynw, .inl (k.2.1, 16, .inl ym4)), (ywe, .inl (k.2.1, 640, .inl ym5)), (yhbx, .inl (k.2.2.2, 3, .inl ym6)), (ybx, .inl (k.2.1, 48, .inl ym7))] := hD
  refine W.widen (k := 119) (n := 46443) (Nat.le_of_ble_eq_true rfl) (Nat.le_of_ble_eq_true rfl) ?_
  have hw9 := hw.symm; subst hw9
  refine lv_icmp_eq (tgt := 1645) hx hb dL_law_1317 (by decide) (fun c_7 => ?_) (fun c_7 => ?_)
  · have c_7 : ((-1) : Int32) = (-1) := c_7
    exact law_tail rfl C0 hKX hA hA2 hbA hS (lv_sub hl [0, 1, 2, 3] rfl)
  · exact absurd rfl c_7

set_option maxHeartbeats 4000000 in
set_option maxRecDepth 100000 in
theorem law_25 {p : Program} {l : Launch} {e : Env} {s : State} {m : MethodId} {below : List Frame} {meth : Method} {c : Code} {D : va_G} {k : ClassId × ClassId × ClassId × ClassId} {A : Nat → Prop} {b L : Nat} {xs : Nat → Int32} (hL : L = 6) (C0 : lw_At p s m meth c b L xs) (hKX : va_K D classes (TY k) s ∧ cX s) (hA : ∀ q : Nat, s.heap.size ≤ q → A q) (hA2 : ∀ q : Nat, A q → s.heap.size ≤ q) (hbA : ¬ A b) {x y : Nat} {H : Heap} {locs : List Loc} (hF : Fresh D k A x y H) (hS : va_S A s.heap H locs) {ls : Array Slot} (hl : lv_has ls 4 [(0, .ref b), (1, .ref x), (2, .ref y), (3, .int 0)]) : W p l e room_1 s m #[Value.ref b] below meth c H locs 119 46443 (lw_Z below #[Value.ref b] s) (F0 m 1322 ls []) := by
  obtain ⟨hx, hb, hr, hml, hown, hts, hX, hbl, hlocks, hgv⟩ := id C0
  have hown : s.vm.findClass RL = some m.cls := hown
  have hK := hKX.1
  have hgd : ∀ w ∈ gd, w ∈ lw_tbl := fun w h => (List.mem_filter.mp h).1
  have hg : ∀ w ∈ gd, w.before #[Value.ref b] s = true := fun w h => hts w (hgd w h)
  subst hL
  obtain ⟨F, pv, P, sl, g1, sp, P2, sl2, g2, tp, g3, rd, Rd, tk, K, ln, N, fo, g4, ea, E, nw, f1, kp, f2, bx, f3, si, Z, yM, ytp, ym1, yns, ym2, yss, ym3, ynw, ym4, ywe, ym5, yhbx, ym6, ybx, ym7, hf_0, hf_1, hf_2, hf_3, hf_4, hf_6, hf_7, hf_8, hf_10, hf_11, hf_14, hf_15, hf_18, hf_19, hf_21, hP, hD⟩ := hF
  have u_0_8 : F[8]? = some (.ref ea) := hf_0.2.2.2.2.2.2.2.1
  have u_10_0 : E[0]? = some (.ref nw) := hf_10.1
  have u_10_1 : E[1]? = some (.ref kp) := hf_10.2.1
  have u_10_2 : E[2]? = some (.ref bx) := hf_10.2.2.1
  have u_10_4 : E[4]? = some (.int 0) := hf_10.2.2.2.2.1
  have u_10_5 : E[5]? = some (.int 0) := hf_10.2.2.2.2.2
  have u_11_0 : f1 0 = (-1) := hf_11.1
  have u_11_4 : f1 4 = 0 := hf_11.2.1
  have u_11_5 : f1 5 = 0 := hf_11.2.2.1
  have u_11_6 : f1 6 = 0 := hf_11.2.2.2.1
  have u_11_7 : f1 7 = 0 := hf_11.2.2.2.2.1
  have u_11_8 : f1 8 = 0 := hf_11.2.2.2.2.2.1
  have u_11_9 : f1 9 = 0 := hf_11.2.2.2.2.2.2
  have u_15_76 : yM[76]? = some (.ref ynw) := hf_15.2.2.2.2.2.2.2.2.2.2.2.2.2.2.2.2.2.2.2.2.2.2.2.2.2.1
  have u_15_77 : yM[77]? = some (.ref ywe) := hf_15.2.2.2.2.2.2.2.2.2.2.2.2.2.2.2.2.2.2.2.2.2.2.2.2.2.2.1
  have u_15_78 : yM[78]? = some (.int 0) := hf_15.2.2.2.2.2.2.2.2.2.2.2.2.2.2.2.2.2.2.2.2.2.2.2.2.2.2.2.1
  have u_15_79 : yM[79]? = some (.int 0) := hf_15.2.2.2.2.2.2.2.2.2.2.2.2.2.2.2.2.2.2.2.2.2.2.2.2.2.2.2.2.1
  have u_19_0 : ym4 0 = (-1) := hf_19.1
  have u_19_4 : ym4 4 = 0 := hf_19.2.1
  have u_19_5 : ym4 5 = 0 := hf_19.2.2.1
  have u_19_6 : ym4 6 = 0 := hf_19.2.2.2.1
  have u_19_7 : ym4 7 = 0 := hf_19.2.2.2.2.1
  have u_19_8 : ym4 8 = 0 := hf_19.2.2.2.2.2.1
  have u_19_9 : ym4 9 = 0 := hf_19.2.2.2.2.2.2
  have hin1 : vp_in 1 6 := (show ¬ ((1 : Int32) < 0 ∨ 6 ≤ (1 : Int32).toNatClampNeg) from by decide)
  have hin2 : vp_in 2 6 := (show ¬ ((2 : Int32) < 0 ∨ 6 ≤ (2 : Int32).toNatClampNeg) from by decide)
  have hin3 : vp_in 3 6 := (show ¬ ((3 : Int32) < 0 ∨ 6 ≤ (3 : Int32).toNatClampNeg) from by decide)
  have hin4 : vp_in 4 6 := (show ¬ ((4 : Int32) < 0 ∨ 6 ≤ (4 : Int32).toNatClampNeg) from by decide)
  have hin5 : vp_in 5 6 := (show ¬ ((5 : Int32) < 0 ∨ 6 ≤ (5 : Int32).toNatClampNeg) from by decide)
  obtain ⟨p0, hp0⟩ : ∃ z, z = xs 1 := ⟨_, rfl⟩
  obtain ⟨p1, hp1⟩ : ∃ z, z = xs 2 := ⟨_, rfl⟩
  obtain ⟨p2, hp2⟩ : ∃ z, z = xs 3 := ⟨_, rfl⟩
  obtain ⟨p3, hp3⟩ : ∃ z, z = xs 4 := ⟨_, rfl⟩
  obtain ⟨p4, hp4⟩ : ∃ z, z = xs 5 := ⟨_, rfl⟩
  refine lv_aload_n hx hb dL_law_1322 rfl (lv_at hl 1 rfl) ?_
  have hPc := hP.sub (ws' := [(x, .inr (11, F)), (ea, .inr (1, E)), (nw, .inl (k.2.1, 10, .inl f1)), (kp, .inl (k.2.1, 410, .inl f2))]) [0, 10, 11, 12] rfl
  have hDc := hD.sub (ws' := [(x, .inr (11, F)), (ea, .inr (1, E)), (nw, .inl (k.2.1, 10, .inl f1)), (kp, .inl (k.2.1, 410, .inl f2))]) [0, 10, 11, 12] (by decide) rfl
  have hFc := va_free (wc := [(x, .inr (11, F)), (ea, .inr (1, E)), (nw, .inl (k.2.1, 10, .inl f1)), (kp, .inl (k.2.1, 410, .inl f2))]) hD hS hA [0, 10, 11, 12] rfl
  refine va_calli (va_runV (As := []) (rest := []) ⟨hx, hb, hml, hown, hts⟩ (c_X11_rain l D k H.size x ea nw kp bx F E f1 f2 u_0_8 u_10_0 u_10_1 u_10_2 u_10_4 u_10_5 u_11_0 u_11_4 u_11_5 u_11_6 u_11_7 u_11_8 u_11_9) (cwV 0 hts (gd_V hgd m1210 m1211 m1212 m117 m1213) rfl rfl rfl (by decide +kernel) ⟨Nat.le_of_ble_eq_true rfl, Nat.le_of_ble_eq_true rfl⟩) (cP_V hPc hKX hDc (ci := 11) (q0 := 0) rfl rfl) rfl rfl hl.1 rfl (lv_room (Nat.le_of_ble_eq_true rfl)) dL_law_1323 ⟨Nat.le_of_ble_eq_true rfl, Nat.le_of_ble_eq_true rfl⟩) hS (fun q _ h => hFc q h) hFc (fun r_1 u t H1 locs ht hvm hw hB hz1 hk1 hS => ?_)
  obtain ⟨hP1, hD1⟩ := hB
  rw [ht] at hP1
  obtain ⟨hP, hD⟩ := va_join (wr := [(pv, .inr (6, P)), (sl, .inl (k.2.1, 3, .inl g1)), (sp, .inr (6, P2)), (sl2, .inl (k.2.1, 3, .inl g2)), (tp, .inl (k.1, 1600, .inl g3)), (rd, .inr (7, Rd)), (tk, .inr (9, K)), (ln, .inr (3, N)), (fo, .inl (k.2.1, 3, .inl g4)), (bx, .inl (k.2.1, 30, .inl f3)), (si, .inr (8, Z)), (y, .inr (12, yM)), (ytp, .inl (k.2.1, 1600, .inl ym1)), (yns, .inl (k.2.1, 3, .inl ym2)), (yss, .inl (k.2.1, 3, .inl ym3)), (ynw, .inl (k.2.1, 16, .inl ym4)), (ywe, .inl (k.2.1, 640, .inl ym5)), (yhbx, .inl (k.2.2.2, 3, .inl ym6)), (ybx, .inl (k.2.1, 48, .inl ym7))]) (w1 := []) hP hD [0, 10, 11, 12] [1, 2, 3, 4, 5, 6, 7, 8, 9, 13, 14, 15, 16, 17, 18, 19, 20, 21, 22] rfl rfl (by decide) (by decide) hk1 hFc hP1 hD1
  generalize H1 = H at hP hS ⊢
  have hP : va_P D classes [(pv, .inr (6, P)), (sl, .inl (k.2.1, 3, .inl g1)), (sp, .inr (6, P2)), (sl2, .inl (k.2.1, 3, .inl g2)), (tp, .inl (k.1, 1600, .inl g3)), (rd, .inr (7, Rd)), (tk, .inr (9, K)), (ln, .inr (3, N)), (fo, .inl (k.2.1, 3, .inl g4)), (bx, .inl (k.2.1, 30, .inl f3)), (si, .inr (8, Z)), (y, .inr (12, yM)), (ytp, .inl (k.2.1, 1600, .inl ym1)), (yns, .inl (k.2.1, 3, .inl ym2)), (yss, .inl (k.2.1, 3, .inl ym3)), (ynw, .inl (k.2.1, 16, .inl ym4)), (ywe, .inl (k.2.1, 640, .inl ym5)), (yhbx, .inl (k.2.2.2, 3, .inl ym6)), (ybx, .inl (k.2.1, 48, .inl ym7))] H := hP
  have hD : va_D A [(pv, .inr (6, P)), (sl, .inl (k.2.1, 3, .inl g1)), (sp, .inr (6, P2)), (sl2, .inl (k.2.1, 3, .inl g2)), (tp, .inl (k.1, 1600, .inl g3)), (rd, .inr (7, Rd)), (tk, .inr (9, K)), (ln, .inr (3, N)), (fo, .inl (k.2.1, 3, .inl g4)), (bx, .inl (k.2.1, 30, .inl f3)), (si, .inr (8, Z)), (y, .inr (12, yM)), (ytp, .inl (k.2.1, 1600, .inl ym1)), (yns, .inl (k.2.1, 3, .inl ym2)), (yss, .inl (k.2.1, 3, .inl ym3)), (ynw, .inl (k.2.1, 16, .inl ym4)), (ywe, .inl (k.2.1, 640, .inl ym5)), (yhbx, .inl (k.2.2.2, 3, .inl ym6)), (ybx, .inl (k.2.1, 48, .inl ym7))] := hD
  refine W.widen (k := 119) (n := 46443) (Nat.le_of_ble_eq_true rfl) (Nat.le_of_ble_eq_true rfl) ?_
  have hw9 := hw.symm; subst hw9
  refine lv_aload_n hx hb dL_law_1326 rfl (lv_at hl 2 rfl) ?_
  have hPc := hP.sub (ws' := [(y, .inr (12, yM)), (ynw, .inl (k.2.1, 16, .inl ym4)), (ywe, .inl (k.2.1, 640, .inl ym5))]) [11, 15, 16] rfl
  have hDc := hD.sub (ws' := [(y, .inr (12, yM)), (ynw, .inl (k.2.1, 16, .inl ym4)), (ywe, .inl (k.2.1, 640, .inl ym5))]) [11, 15, 16] (by decide) rfl
  have hFc := va_free (wc := [(y, .inr (12, yM)), (ynw, .inl (k.2.1, 16, .inl ym4)), (ywe, .inl (k.2.1, 640, .inl ym5))]) hD hS hA [11, 15, 16] rfl
  refine va_calli (va_runV (As := []) (rest := [.int 1]) ⟨hx, hb, hml, hown, hts⟩ (c_X12_rain l D k H.size y ynw ywe yM ym4 ym5 u_15_76 u_15_77 u_15_78 u_15_79 u_19_0 u_19_4 u_19_5 u_19_6 u_19_7 u_19_8 u_19_9) (cwV 0 hts (gd_V hgd m2011 m2012 m2013 m131 m2014) rfl rfl rfl (by decide +kernel) ⟨Nat.le_of_ble_eq_true rfl, Nat.le_of_ble_eq_true rfl⟩) (cP_V hPc hKX hDc (ci := 12) (q0 := 0) rfl rfl) rfl rfl hl.1 rfl (lv_room (Nat.le_of_ble_eq_true rfl)) dL_law_1327 ⟨Nat.le_of_ble_eq_true rfl, Nat.le_of_ble_eq_true rfl⟩) hS (fun q _ h => hFc q h) hFc (fun r_2 u t H1 locs ht hvm hw hB hz1 hk1 hS => ?_)
  obtain ⟨hP1, hD1⟩ := hB
  rw [ht] at hP1
  obtain ⟨hP, hD⟩ := va_join (wr := [(pv, .inr (6, P)), (sl, .inl (k.2.1, 3, .inl g1)), (sp, .inr (6, P2)), (sl2, .inl (k.2.1, 3, .inl g2)), (tp, .inl (k.1, 1600, .inl g3)), (rd, .inr (7, Rd)), (tk, .inr (9, K)), (ln, .inr (3, N)), (fo, .inl (k.2.1, 3, .inl g4)), (bx, .inl (k.2.1, 30, .inl f3)), (si, .inr (8, Z)), (ytp, .inl (k.2.1, 1600, .inl ym1)), (yns, .inl (k.2.1, 3, .inl ym2)), (yss, .inl (k.2.1, 3, .inl ym3)), (yhbx, .inl (k.2.2.2, 3, .inl ym6)), (ybx, .inl (k.2.1, 48, .inl ym7))]) (w1 := []) hP hD [11, 15, 16] [0, 1, 2, 3, 4, 5, 6, 7, 8, 9, 10, 12, 13, 14, 17, 18] rfl rfl (by decide) (by decide) hk1 hFc hP1 hD1
  generalize H1 = H at hP hS ⊢
  have hP : va_P D classes [(pv, .inr (6, P)), (sl, .inl (k.2.1, 3, .inl g1)), (sp, .inr (6, P2)), (sl2, .inl (k.2.1, 3, .inl g2)), (tp, .inl (k.1, 1600, .inl g3)), (rd, .inr (7, Rd)), (tk, .inr (9, K)), (ln, .inr (3, N)), (fo, .inl (k.2.1, 3, .inl g4)), (bx, .inl (k.2.1, 30, .inl f3)), (si, .inr (8, Z)), (ytp, .inl (k.2.1, 1600, .inl ym1)), (yns, .inl (k.2.1, 3, .inl ym2)), (yss, .inl (k.2.1, 3, .inl ym3)), (yhbx, .inl (k.2.2.2, 3, .inl ym6)), (ybx, .inl (k.2.1, 48, .inl ym7))] H := hP
  have hD : va_D A [(pv, .inr (6, P)), (sl, .inl (k.2.1, 3, .inl g1)), (sp, .inr (6, P2)), (sl2, .inl (k.2.1, 3, .inl g2)), (tp, .inl (k.1, 1600, .inl g3)), (rd, .inr (7, Rd)), (tk, .inr (9, K)), (ln, .inr (3, N)), (fo, .inl (k.2.1, 3, .inl g4)), (bx, .inl (k.2.1, 30, .inl f3)), (si, .inr (8, Z)), (ytp, .inl (k.2.1, 1600, .inl ym1)), (yns, .inl (k.2.1, 3, .inl ym2)), (yss, .inl (k.2.1, 3, .inl ym3)), (yhbx, .inl (k.2.2.2, 3, .inl ym6)), (ybx, .inl (k.2.1, 48, .inl ym7))] := hD
  refine W.widen (k := 119) (n := 46443) (Nat.le_of_ble_eq_true rfl) (Nat.le_of_ble_eq_true rfl) ?_
  have hw9 := hw.symm; subst hw9
  refine lv_icmp_eq (tgt := 1645) hx hb dL_law_1330 (by decide) (fun c_3 => ?_) (fun c_3 => ?_)
  · have c_3 : (1 : Int32) = 1 := c_3
    exact law_tail rfl C0 hKX hA hA2 hbA hS (lv_sub hl [0, 1, 2, 3] rfl)
  · exact absurd rfl c_3

set_option maxHeartbeats 4000000 in
set_option maxRecDepth 100000 in
theorem law_26 {p : Program} {l : Launch} {e : Env} {s : State} {m : MethodId} {below : List Frame} {meth : Method} {c : Code} {D : va_G} {k : ClassId × ClassId × ClassId × ClassId} {A : Nat → Prop} {b L : Nat} {xs : Nat → Int32} (hL : L = 6) (C0 : lw_At p s m meth c b L xs) (hKX : va_K D classes (TY k) s ∧ cX s) (hA : ∀ q : Nat, s.heap.size ≤ q → A q) (hA2 : ∀ q : Nat, A q → s.heap.size ≤ q) (hbA : ¬ A b) {x y : Nat} {H : Heap} {locs : List Loc} (hF : Fresh D k A x y H) (hS : va_S A s.heap H locs) {ls : Array Slot} (hl : lv_has ls 4 [(0, .ref b), (1, .ref x), (2, .ref y), (3, .int 0)]) : W p l e room_1 s m #[Value.ref b] below meth c H locs 119 46443 (lw_Z below #[Value.ref b] s) (F0 m 1335 ls []) := by
  obtain ⟨hx, hb, hr, hml, hown, hts, hX, hbl, hlocks, hgv⟩ := id C0
  have hown : s.vm.findClass RL = some m.cls := hown
  have hK := hKX.1
  have hgd : ∀ w ∈ gd, w ∈ lw_tbl := fun w h => (List.mem_filter.mp h).1
  have hg : ∀ w ∈ gd, w.before #[Value.ref b] s = true := fun w h => hts w (hgd w h)
  subst hL
  obtain ⟨F, pv, P, sl, g1, sp, P2, sl2, g2, tp, g3, rd, Rd, tk, K, ln, N, fo, g4, ea, E, nw, f1, kp, f2, bx, f3, si, Z, yM, ytp, ym1, yns, ym2, yss, ym3, ynw, ym4, ywe, ym5, yhbx, ym6, ybx, ym7, hf_0, hf_1, hf_2, hf_3, hf_4, hf_6, hf_7, hf_8, hf_10, hf_11, hf_14, hf_15, hf_18, hf_19, hf_21, hP, hD⟩ := hF
  have u_0_8 : F[8]? = some (.ref ea) := hf_0.2.2.2.2.2.2.2.1
  have u_10_0 : E[0]? = some (.ref nw) := hf_10.1
  have u_10_1 : E[1]? = some (.ref kp) := hf_10.2.1
  have u_10_2 : E[2]? = some (.ref bx) := hf_10.2.2.1
  have u_10_4 : E[4]? = some (.int 0) := hf_10.2.2.2.2.1
  have u_10_5 : E[5]? = some (.int 0) := hf_10.2.2.2.2.2
  have u_11_0 : f1 0 = (-1) := hf_11.1
  have u_11_4 : f1 4 = 0 := hf_11.2.1
  have u_11_5 : f1 5 = 0 := hf_11.2.2.1
  have u_11_6 : f1 6 = 0 := hf_11.2.2.2.1
  have u_11_7 : f1 7 = 0 := hf_11.2.2.2.2.1
  have u_11_8 : f1 8 = 0 := hf_11.2.2.2.2.2.1
  have u_11_9 : f1 9 = 0 := hf_11.2.2.2.2.2.2
  have u_15_76 : yM[76]? = some (.ref ynw) := hf_15.2.2.2.2.2.2.2.2.2.2.2.2.2.2.2.2.2.2.2.2.2.2.2.2.2.1
  have u_15_77 : yM[77]? = some (.ref ywe) := hf_15.2.2.2.2.2.2.2.2.2.2.2.2.2.2.2.2.2.2.2.2.2.2.2.2.2.2.1
  have u_15_78 : yM[78]? = some (.int 0) := hf_15.2.2.2.2.2.2.2.2.2.2.2.2.2.2.2.2.2.2.2.2.2.2.2.2.2.2.2.1
  have u_15_79 : yM[79]? = some (.int 0) := hf_15.2.2.2.2.2.2.2.2.2.2.2.2.2.2.2.2.2.2.2.2.2.2.2.2.2.2.2.2.1
  have u_19_0 : ym4 0 = (-1) := hf_19.1
  have u_19_4 : ym4 4 = 0 := hf_19.2.1
  have u_19_5 : ym4 5 = 0 := hf_19.2.2.1
  have u_19_6 : ym4 6 = 0 := hf_19.2.2.2.1
  have u_19_7 : ym4 7 = 0 := hf_19.2.2.2.2.1
  have u_19_8 : ym4 8 = 0 := hf_19.2.2.2.2.2.1
  have u_19_9 : ym4 9 = 0 := hf_19.2.2.2.2.2.2
  have hin1 : vp_in 1 6 := (show ¬ ((1 : Int32) < 0 ∨ 6 ≤ (1 : Int32).toNatClampNeg) from by decide)
  have hin2 : vp_in 2 6 := (show ¬ ((2 : Int32) < 0 ∨ 6 ≤ (2 : Int32).toNatClampNeg) from by decide)
  have hin3 : vp_in 3 6 := (show ¬ ((3 : Int32) < 0 ∨ 6 ≤ (3 : Int32).toNatClampNeg) from by decide)
  have hin4 : vp_in 4 6 := (show ¬ ((4 : Int32) < 0 ∨ 6 ≤ (4 : Int32).toNatClampNeg) from by decide)
  have hin5 : vp_in 5 6 := (show ¬ ((5 : Int32) < 0 ∨ 6 ≤ (5 : Int32).toNatClampNeg) from by decide)
  obtain ⟨p0, hp0⟩ : ∃ z, z = xs 1 := ⟨_, rfl⟩
  obtain ⟨p1, hp1⟩ : ∃ z, z = xs 2 := ⟨_, rfl⟩
  obtain ⟨p2, hp2⟩ : ∃ z, z = xs 3 := ⟨_, rfl⟩
  obtain ⟨p3, hp3⟩ : ∃ z, z = xs 4 := ⟨_, rfl⟩
  obtain ⟨p4, hp4⟩ : ∃ z, z = xs 5 := ⟨_, rfl⟩
  refine lv_aload_n hx hb dL_law_1335 rfl (lv_at hl 1 rfl) ?_
  have hPc := hP.sub (ws' := [(x, .inr (11, F)), (ea, .inr (1, E)), (nw, .inl (k.2.1, 10, .inl f1)), (kp, .inl (k.2.1, 410, .inl f2))]) [0, 10, 11, 12] rfl
  have hDc := hD.sub (ws' := [(x, .inr (11, F)), (ea, .inr (1, E)), (nw, .inl (k.2.1, 10, .inl f1)), (kp, .inl (k.2.1, 410, .inl f2))]) [0, 10, 11, 12] (by decide) rfl
  have hFc := va_free (wc := [(x, .inr (11, F)), (ea, .inr (1, E)), (nw, .inl (k.2.1, 10, .inl f1)), (kp, .inl (k.2.1, 410, .inl f2))]) hD hS hA [0, 10, 11, 12] rfl
  refine va_calli (va_runV (As := []) (rest := []) ⟨hx, hb, hml, hown, hts⟩ (c_X11_day l D k H.size x ea nw kp bx F E f1 f2 u_0_8 u_10_0 u_10_1 u_10_2 u_10_4 u_10_5 u_11_0 u_11_4 u_11_5 u_11_6 u_11_7 u_11_8 u_11_9) (cwV 0 hts (gd_V hgd m1214 m1215 m1216 m117 m1217) rfl rfl rfl (by decide +kernel) ⟨Nat.le_of_ble_eq_true rfl, Nat.le_of_ble_eq_true rfl⟩) (cP_V hPc hKX hDc (ci := 11) (q0 := 0) rfl rfl) rfl rfl hl.1 rfl (lv_room (Nat.le_of_ble_eq_true rfl)) dL_law_1336 ⟨Nat.le_of_ble_eq_true rfl, Nat.le_of_ble_eq_true rfl⟩) hS (fun q _ h => hFc q h) hFc (fun r_1 u t H1 locs ht hvm hw hB hz1 hk1 hS => ?_)
  obtain ⟨hP1, hD1⟩ := hB
  rw [ht] at hP1
  obtain ⟨hP, hD⟩ := va_join (wr := [(pv, .inr (6, P)), (sl, .inl (k.2.1, 3, .inl g1)), (sp, .inr (6, P2)), (sl2, .inl (k.2.1, 3, .inl g2)), (tp, .inl (k.1, 1600, .inl g3)), (rd, .inr (7, Rd)), (tk, .inr (9, K)), (ln, .inr (3, N)), (fo, .inl (k.2.1, 3, .inl g4)), (bx, .inl (k.2.1, 30, .inl f3)), (si, .inr (8, Z)), (y, .inr (12, yM)), (ytp, .inl (k.2.1, 1600, .inl ym1)), (yns, .inl (k.2.1, 3, .inl ym2)), (yss, .inl (k.2.1, 3, .inl ym3)), (ynw, .inl (k.2.1, 16, .inl ym4)), (ywe, .inl (k.2.1, 640, .inl ym5)), (yhbx, .inl (k.2.2.2, 3, .inl ym6)), (ybx, .inl (k.2.1, 48, .inl ym7))]) (w1 := []) hP hD [0, 10, 11, 12] [1, 2, 3, 4, 5, 6, 7, 8, 9, 13, 14, 15, 16, 17, 18, 19, 20, 21, 22] rfl rfl (by decide) (by decide) hk1 hFc hP1 hD1
  generalize H1 = H at hP hS ⊢
  have hP : va_P D classes [(pv, .inr (6, P)), (sl, .inl (k.2.1, 3, .inl g1)), (sp, .inr (6, P2)), (sl2, .inl (k.2.1, 3, .inl g2)), (tp, .inl (k.1, 1600, .inl g3)), (rd, .inr (7, Rd)), (tk, .inr (9, K)), (ln, .inr (3, N)), (fo, .inl (k.2.1, 3, .inl g4)), (bx, .inl (k.2.1, 30, .inl f3)), (si, .inr (8, Z)), (y, .inr (12, yM)), (ytp, .inl (k.2.1, 1600, .inl ym1)), (yns, .inl (k.2.1, 3, .inl ym2)), (yss, .inl (k.2.1, 3, .inl ym3)), (ynw, .inl (k.2.1, 16, .inl ym4)), (ywe, .inl (k.2.1, 640, .inl ym5)), (yhbx, .inl (k.2.2.2, 3, .inl ym6)), (ybx, .inl (k.2.1, 48, .inl ym7))] H := hP
  have hD : va_D A [(pv, .inr (6, P)), (sl, .inl (k.2.1, 3, .inl g1)), (sp, .inr (6, P2)), (sl2, .inl (k.2.1, 3, .inl g2)), (tp, .inl (k.1, 1600, .inl g3)), (rd, .inr (7, Rd)), (tk, .inr (9, K)), (ln, .inr (3, N)), (fo, .inl (k.2.1, 3, .inl g4)), (bx, .inl (k.2.1, 30, .inl f3)), (si, .inr (8, Z)), (y, .inr (12, yM)), (ytp, .inl (k.2.1, 1600, .inl ym1)), (yns, .inl (k.2.1, 3, .inl ym2)), (yss, .inl (k.2.1, 3, .inl ym3)), (ynw, .inl (k.2.1, 16, .inl ym4)), (ywe, .inl (k.2.1, 640, .inl ym5)), (yhbx, .inl (k.2.2.2, 3, .inl ym6)), (ybx, .inl (k.2.1, 48, .inl ym7))] := hD
  refine W.widen (k := 119) (n := 46443) (Nat.le_of_ble_eq_true rfl) (Nat.le_of_ble_eq_true rfl) ?_
  have hw9 := hw.symm; subst hw9
  refine lv_aload_n hx hb dL_law_1339 rfl (lv_at hl 2 rfl) ?_
  have hPc := hP.sub (ws' := [(y, .inr (12, yM)), (ynw, .inl (k.2.1, 16, .inl ym4)), (ywe, .inl (k.2.1, 640, .inl ym5))]) [11, 15, 16] rfl
  have hDc := hD.sub (ws' := [(y, .inr (12, yM)), (ynw, .inl (k.2.1, 16, .inl ym4)), (ywe, .inl (k.2.1, 640, .inl ym5))]) [11, 15, 16] (by decide) rfl
  have hFc := va_free (wc := [(y, .inr (12, yM)), (ynw, .inl (k.2.1, 16, .inl ym4)), (ywe, .inl (k.2.1, 640, .inl ym5))]) hD hS hA [11, 15, 16] rfl
  refine va_calli (va_runV (As := []) (rest := [.int 1]) ⟨hx, hb, hml, hown, hts⟩ (c_X12_day l D k H.size y ynw ywe yM ym4 ym5 u_15_76 u_15_77 u_15_78 u_15_79 u_19_0 u_19_4 u_19_5 u_19_6 u_19_7 u_19_8 u_19_9) (cwV 0 hts (gd_V hgd m2015 m2016 m2017 m131 m2018) rfl rfl rfl (by decide +kernel) ⟨Nat.le_of_ble_eq_true rfl, Nat.le_of_ble_eq_true rfl⟩) (cP_V hPc hKX hDc (ci := 12) (q0 := 0) rfl rfl) rfl rfl hl.1 rfl (lv_room (Nat.le_of_ble_eq_true rfl)) dL_law_1340 ⟨Nat.le_of_ble_eq_true rfl, Nat.le_of_ble_eq_true rfl⟩) hS (fun q _ h => hFc q h) hFc (fun r_2 u t H1 locs ht hvm hw hB hz1 hk1 hS => ?_)
  obtain ⟨hP1, hD1⟩ := hB
  rw [ht] at hP1
  obtain ⟨hP, hD⟩ := va_join (wr := [(pv, .inr (6, P)), (sl, .inl (k.2.1, 3, .inl g1)), (sp, .inr (6, P2)), (sl2, .inl (k.2.1, 3, .inl g2)), (tp, .inl (k.1, 1600, .inl g3)), (rd, .inr (7, Rd)), (tk, .inr (9, K)), (ln, .inr (3, N)), (fo, .inl (k.2.1, 3, .inl g4)), (bx, .inl (k.2.1, 30, .inl f3)), (si, .inr (8, Z)), (ytp, .inl (k.2.1, 1600, .inl ym1)), (yns, .inl (k.2.1, 3, .inl ym2)), (yss, .inl (k.2.1, 3, .inl ym3)), (yhbx, .inl (k.2.2.2, 3, .inl ym6)), (ybx, .inl (k.2.1, 48, .inl ym7))]) (w1 := []) hP hD [11, 15, 16] [0, 1, 2, 3, 4, 5, 6, 7, 8, 9, 10, 12, 13, 14, 17, 18] rfl rfl (by decide) (by decide) hk1 hFc hP1 hD1
  generalize H1 = H at hP hS ⊢
  have hP : va_P D classes [(pv, .inr (6, P)), (sl, .inl (k.2.1, 3, .inl g1)), (sp, .inr (6, P2)), (sl2, .inl (k.2.1, 3, .inl g2)), (tp, .inl (k.1, 1600, .inl g3)), (rd, .inr (7, Rd)), (tk, .inr (9, K)), (ln, .inr (3, N)), (fo, .inl (k.2.1, 3, .inl g4)), (bx, .inl (k.2.1, 30, .inl f3)), (si, .inr (8, Z)), (ytp, .inl (k.2.1, 1600, .inl ym1)), (yns, .inl (k.2.1, 3, .inl ym2)), (yss, .inl (k.2.1, 3, .inl ym3)), (yhbx, .inl (k.2.2.2, 3, .inl ym6)), (ybx, .inl (k.2.1, 48, .inl ym7))] H := hP
  have hD : va_D A [(pv, .inr (6, P)), (sl, .inl (k.2.1, 3, .inl g1)), (sp, .inr (6, P2)), (sl2, .inl (k.2.1, 3, .inl g2)), (tp, .inl (k.1, 1600, .inl g3)), (rd, .inr (7, Rd)), (tk, .inr (9, K)), (ln, .inr (3, N)), (fo, .inl (k.2.1, 3, .inl g4)), (bx, .inl (k.2.1, 30, .inl f3)), (si, .inr (8, Z)), (ytp, .inl (k.2.1, 1600, .inl ym1)), (yns, .inl (k.2.1, 3, .inl ym2)), (yss, .inl (k.2.1, 3, .inl ym3)), (yhbx, .inl (k.2.2.2, 3, .inl ym6)), (ybx, .inl (k.2.1, 48, .inl ym7))] := hD
  refine W.widen (k := 119) (n := 46443) (Nat.le_of_ble_eq_true rfl) (Nat.le_of_ble_eq_true rfl) ?_
  have hw9 := hw.symm; subst hw9
  refine lv_icmp_eq (tgt := 1645) hx hb dL_law_1343 (by decide) (fun c_3 => ?_) (fun c_3 => ?_)
  · have c_3 : (1 : Int32) = 1 := c_3
    exact law_tail rfl C0 hKX hA hA2 hbA hS (lv_sub hl [0, 1, 2, 3] rfl)
  · exact absurd rfl c_3

set_option maxHeartbeats 4000000 in
set_option maxRecDepth 100000 in
theorem law_27 {p : Program} {l : Launch} {e : Env} {s : State} {m : MethodId} {below : List Frame} {meth : Method} {c : Code} {D : va_G} {k : ClassId × ClassId × ClassId × ClassId} {A : Nat → Prop} {b L : Nat} {xs : Nat → Int32} (hL : L = 6) (C0 : lw_At p s m meth c b L xs) (hKX : va_K D classes (TY k) s ∧ cX s) (hA : ∀ q : Nat, s.heap.size ≤ q → A q) (hA2 : ∀ q : Nat, A q → s.heap.size ≤ q) (hbA : ¬ A b) {x y : Nat} {H : Heap} {locs : List Loc} (hF : Fresh D k A x y H) (hS : va_S A s.heap H locs) {ls : Array Slot} (hl : lv_has ls 4 [(0, .ref b), (1, .ref x), (2, .ref y), (3, .int 0)]) : W p l e room_1 s m #[Value.ref b] below meth c H locs 119 46443 (lw_Z below #[Value.ref b] s) (F0 m 1348 ls []) := by
  obtain ⟨hx, hb, hr, hml, hown, hts, hX, hbl, hlocks, hgv⟩ := id C0
  have hown : s.vm.findClass RL = some m.cls := hown
  have hK := hKX.1
  have hgd : ∀ w ∈ gd, w ∈ lw_tbl := fun w h => (List.mem_filter.mp h).1
  have hg : ∀ w ∈ gd, w.before #[Value.ref b] s = true := fun w h => hts w (hgd w h)
  subst hL
  obtain ⟨F, pv, P, sl, g1, sp, P2, sl2, g2, tp, g3, rd, Rd, tk, K, ln, N, fo, g4, ea, E, nw, f1, kp, f2, bx, f3, si, Z, yM, ytp, ym1, yns, ym2, yss, ym3, ynw, ym4, ywe, ym5, yhbx, ym6, ybx, ym7, hf_0, hf_1, hf_2, hf_3, hf_4, hf_6, hf_7, hf_8, hf_10, hf_11, hf_14, hf_15, hf_18, hf_19, hf_21, hP, hD⟩ := hF
  have u_0_8 : F[8]? = some (.ref ea) := hf_0.2.2.2.2.2.2.2.1
  have u_10_4 : E[4]? = some (.int 0) := hf_10.2.2.2.2.1
  have u_15_78 : yM[78]? = some (.int 0) := hf_15.2.2.2.2.2.2.2.2.2.2.2.2.2.2.2.2.2.2.2.2.2.2.2.2.2.2.2.1
  have hin1 : vp_in 1 6 := (show ¬ ((1 : Int32) < 0 ∨ 6 ≤ (1 : Int32).toNatClampNeg) from by decide)
  have hin2 : vp_in 2 6 := (show ¬ ((2 : Int32) < 0 ∨ 6 ≤ (2 : Int32).toNatClampNeg) from by decide)
  have hin3 : vp_in 3 6 := (show ¬ ((3 : Int32) < 0 ∨ 6 ≤ (3 : Int32).toNatClampNeg) from by decide)
  have hin4 : vp_in 4 6 := (show ¬ ((4 : Int32) < 0 ∨ 6 ≤ (4 : Int32).toNatClampNeg) from by decide)
  have hin5 : vp_in 5 6 := (show ¬ ((5 : Int32) < 0 ∨ 6 ≤ (5 : Int32).toNatClampNeg) from by decide)
  obtain ⟨p0, hp0⟩ : ∃ z, z = xs 1 := ⟨_, rfl⟩
  obtain ⟨p1, hp1⟩ : ∃ z, z = xs 2 := ⟨_, rfl⟩
  obtain ⟨p2, hp2⟩ : ∃ z, z = xs 3 := ⟨_, rfl⟩
  obtain ⟨p3, hp3⟩ : ∃ z, z = xs 4 := ⟨_, rfl⟩
  obtain ⟨p4, hp4⟩ : ∃ z, z = xs 5 := ⟨_, rfl⟩
  refine lv_aload_n hx hb dL_law_1348 rfl (lv_at hl 1 rfl) ?_
  have hPc := hP.sub (ws' := [(x, .inr (11, F)), (ea, .inr (1, E))]) [0, 10] rfl
  have hDc := hD.sub (ws' := [(x, .inr (11, F)), (ea, .inr (1, E))]) [0, 10] (by decide) rfl
  have hFc := va_free (wc := [(x, .inr (11, F)), (ea, .inr (1, E))]) hD hS hA [0, 10] rfl
  refine va_calli (va_runV (As := []) (rest := []) ⟨hx, hb, hml, hown, hts⟩ (c_X11_undo l D k H.size x ea F E u_0_8 u_10_4) (cwV 0 hts (gd_V hgd m1218 m1219 m1220 m117 m1221) rfl rfl rfl (by decide +kernel) ⟨Nat.le_of_ble_eq_true rfl, Nat.le_of_ble_eq_true rfl⟩) (cP_V hPc hKX hDc (ci := 11) (q0 := 0) rfl rfl) rfl rfl hl.1 rfl (lv_room (Nat.le_of_ble_eq_true rfl)) dL_law_1349 ⟨Nat.le_of_ble_eq_true rfl, Nat.le_of_ble_eq_true rfl⟩) hS (fun q _ h => hFc q h) hFc (fun r_1 u t H1 locs ht hvm hw hB hz1 hk1 hS => ?_)
  obtain ⟨hP1, hD1⟩ := hB
  rw [ht] at hP1
  obtain ⟨hP, hD⟩ := va_join (wr := [(pv, .inr (6, P)), (sl, .inl (k.2.1, 3, .inl g1)), (sp, .inr (6, P2)), (sl2, .inl (k.2.1, 3, .inl g2)), (tp, .inl (k.1, 1600, .inl g3)), (rd, .inr (7, Rd)), (tk, .inr (9, K)), (ln, .inr (3, N)), (fo, .inl (k.2.1, 3, .inl g4)), (nw, .inl (k.2.1, 10, .inl f1)), (kp, .inl (k.2.1, 410, .inl f2)), (bx, .inl (k.2.1, 30, .inl f3)), (si, .inr (8, Z)), (y, .inr (12, yM)), (ytp, .inl (k.2.1, 1600, .inl ym1)), (yns, .inl (k.2.1, 3, .inl ym2)), (yss, .inl (k.2.1, 3, .inl ym3)), (ynw, .inl (k.2.1, 16, .inl ym4)), (ywe, .inl (k.2.1, 640, .inl ym5)), (yhbx, .inl (k.2.2.2, 3, .inl ym6)), (ybx, .inl (k.2.1, 48, .inl ym7))]) (w1 := []) hP hD [0, 10] [1, 2, 3, 4, 5, 6, 7, 8, 9, 11, 12, 13, 14, 15, 16, 17, 18, 19, 20, 21, 22] rfl rfl (by decide) (by decide) hk1 hFc hP1 hD1
  generalize H1 = H at hP hS ⊢
  have hP : va_P D classes [(pv, .inr (6, P)), (sl, .inl (k.2.1, 3, .inl g1)), (sp, .inr (6, P2)), (sl2, .inl (k.2.1, 3, .inl g2)), (tp, .inl (k.1, 1600, .inl g3)), (rd, .inr (7, Rd)), (tk, .inr (9, K)), (ln, .inr (3, N)), (fo, .inl (k.2.1, 3, .inl g4)), (nw, .inl (k.2.1, 10, .inl f1)), (kp, .inl (k.2.1, 410, .inl f2)), (bx, .inl (k.2.1, 30, .inl f3)), (si, .inr (8, Z)), (y, .inr (12, yM)), (ytp, .inl (k.2.1, 1600, .inl ym1)), (yns, .inl (k.2.1, 3, .inl ym2)), (yss, .inl (k.2.1, 3, .inl ym3)), (ynw, .inl (k.2.1, 16, .inl ym4)), (ywe, .inl (k.2.1, 640, .inl ym5)), (yhbx, .inl (k.2.2.2, 3, .inl ym6)), (ybx, .inl (k.2.1, 48, .inl ym7))] H := hP
  have hD : va_D A [(pv, .inr (6, P)), (sl, .inl (k.2.1, 3, .inl g1)), (sp, .inr (6, P2)), (sl2, .inl (k.2.1, 3, .inl g2)), (tp, .inl (k.1, 1600, .inl g3)), (rd, .inr (7, Rd)), (tk, .inr (9, K)), (ln, .inr (3, N)), (fo, .inl (k.2.1, 3, .inl g4)), (nw, .inl (k.2.1, 10, .inl f1)), (kp, .inl (k.2.1, 410, .inl f2)), (bx, .inl (k.2.1, 30, .inl f3)), (si, .inr (8, Z)), (y, .inr (12, yM)), (ytp, .inl (k.2.1, 1600, .inl ym1)), (yns, .inl (k.2.1, 3, .inl ym2)), (yss, .inl (k.2.1, 3, .inl ym3)), (ynw, .inl (k.2.1, 16, .inl ym4)), (ywe, .inl (k.2.1, 640, .inl ym5)), (yhbx, .inl (k.2.2.2, 3, .inl ym6)), (ybx, .inl (k.2.1, 48, .inl ym7))] := hD
  refine W.widen (k := 119) (n := 46443) (Nat.le_of_ble_eq_true rfl) (Nat.le_of_ble_eq_true rfl) ?_
  have hw9 := hw.symm; subst hw9
  refine lv_aload_n hx hb dL_law_1352 rfl (lv_at hl 2 rfl) ?_
  have hPc := hP.sub (ws' := [(y, .inr (12, yM))]) [13] rfl
  have hDc := hD.sub (ws' := [(y, .inr (12, yM))]) [13] (by decide) rfl
  have hFc := va_free (wc := [(y, .inr (12, yM))]) hD hS hA [13] rfl
  refine va_calli (va_runV (As := []) (rest := [.int 0]) ⟨hx, hb, hml, hown, hts⟩ (c_X12_undo l D k H.size y yM u_15_78) (cwV 0 hts (gd_V hgd m2019 m2020 m2021 m131 m2022) rfl rfl rfl (by decide +kernel) ⟨Nat.le_of_ble_eq_true rfl, Nat.le_of_ble_eq_true rfl⟩) (cP_V hPc hKX hDc (ci := 12) (q0 := 0) rfl rfl) rfl rfl hl.1 rfl (lv_room (Nat.le_of_ble_eq_true rfl)) dL_law_1353 ⟨Nat.le_of_ble_eq_true rfl, Nat.le_of_ble_eq_true rfl⟩) hS (fun q _ h => hFc q h) hFc (fun r_2 u t H1 locs ht hvm hw hB hz1 hk1 hS => ?_)
  obtain ⟨hP1, hD1⟩ := hB
  rw [ht] at hP1
  obtain ⟨hP, hD⟩ := va_join (wr := [(pv, .inr (6, P)), (sl, .inl (k.2.1, 3, .inl g1)), (sp, .inr (6, P2)), (sl2, .inl (k.2.1, 3, .inl g2)), (tp, .inl (k.1, 1600, .inl g3)), (rd, .inr (7, Rd)), (tk, .inr (9, K)), (ln, .inr (3, N)), (fo, .inl (k.2.1, 3, .inl g4)), (nw, .inl (k.2.1, 10, .inl f1)), (kp, .inl (k.2.1, 410, .inl f2)), (bx, .inl (k.2.1, 30, .inl f3)), (si, .inr (8, Z)), (ytp, .inl (k.2.1, 1600, .inl ym1)), (yns, .inl (k.2.1, 3, .inl ym2)), (yss, .inl (k.2.1, 3, .inl ym3)), (ynw, .inl (k.2.1, 16, .inl ym4)), (ywe, .inl (k.2.1, 640, .inl ym5)), (yhbx, .inl (k.2.2.2, 3, .inl ym6)), (ybx, .inl (k.2.1, 48, .inl ym7))]) (w1 := []) hP hD [13] [0, 1, 2, 3, 4, 5, 6, 7, 8, 9, 10, 11, 12, 14, 15, 16, 17, 18, 19, 20] rfl rfl (by decide) (by decide) hk1 hFc hP1 hD1
  generalize H1 = H at hP hS ⊢
  have hP : va_P D classes [(pv, .inr (6, P)), (sl, .inl (k.2.1, 3, .inl g1)), (sp, .inr (6, P2)), (sl2, .inl (k.2.1, 3, .inl g2)), (tp, .inl (k.1, 1600, .inl g3)), (rd, .inr (7, Rd)), (tk, .inr (9, K)), (ln, .inr (3, N)), (fo, .inl (k.2.1, 3, .inl g4)), (nw, .inl (k.2.1, 10, .inl f1)), (kp, .inl (k.2.1, 410, .inl f2)), (bx, .inl (k.2.1, 30, .inl f3)), (si, .inr (8, Z)), (ytp, .inl (k.2.1, 1600, .inl ym1)), (yns, .inl (k.2.1, 3, .inl ym2)), (yss, .inl (k.2.1, 3, .inl ym3)), (ynw, .inl (k.2.1, 16, .inl ym4)), (ywe, .inl (k.2.1, 640, .inl ym5)), (yhbx, .inl (k.2.2.2, 3, .inl ym6)), (ybx, .inl (k.2.1, 48, .inl ym7))] H := hP
  have hD : va_D A [(pv, .inr (6, P)), (sl, .inl (k.2.1, 3, .inl g1)), (sp, .inr (6, P2)), (sl2, .inl (k.2.1, 3, .inl g2)), (tp, .inl (k.1, 1600, .inl g3)), (rd, .inr (7, Rd)), (tk, .inr (9, K)), (ln, .inr (3, N)), (fo, .inl (k.2.1, 3, .inl g4)), (nw, .inl (k.2.1, 10, .inl f1)), (kp, .inl (k.2.1, 410, .inl f2)), (bx, .inl (k.2.1, 30, .inl f3)), (si, .inr (8, Z)), (ytp, .inl (k.2.1, 1600, .inl ym1)), (yns, .inl (k.2.1, 3, .inl ym2)), (yss, .inl (k.2.1, 3, .inl ym3)), (ynw, .inl (k.2.1, 16, .inl ym4)), (ywe, .inl (k.2.1, 640, .inl ym5)), (yhbx, .inl (k.2.2.2, 3, .inl ym6)), (ybx, .inl (k.2.1, 48, .inl ym7))] := hD
  refine W.widen (k := 119) (n := 46443) (Nat.le_of_ble_eq_true rfl) (Nat.le_of_ble_eq_true rfl) ?_
  have hw9 := hw.symm; subst hw9
  refine lv_icmp_eq (tgt := 1645) hx hb dL_law_1356 (by decide) (fun c_3 => ?_) (fun c_3 => ?_)
  · have c_3 : (0 : Int32) = 0 := c_3
    exact law_tail rfl C0 hKX hA hA2 hbA hS (lv_sub hl [0, 1, 2, 3] rfl)
  · exact absurd rfl c_3

set_option maxHeartbeats 4000000 in
set_option maxRecDepth 100000 in
theorem law_28 {p : Program} {l : Launch} {e : Env} {s : State} {m : MethodId} {below : List Frame} {meth : Method} {c : Code} {D : va_G} {k : ClassId × ClassId × ClassId × ClassId} {A : Nat → Prop} {b L : Nat} {xs : Nat → Int32} (hL : L = 6) (C0 : lw_At p s m meth c b L xs) (hKX : va_K D classes (TY k) s ∧ cX s) (hA : ∀ q : Nat, s.heap.size ≤ q → A q) (hA2 : ∀ q : Nat, A q → s.heap.size ≤ q) (hbA : ¬ A b) {x y : Nat} {H : Heap} {locs : List Loc} (hF : Fresh D k A x y H) (hS : va_S A s.heap H locs) {ls : Array Slot} (hl : lv_has ls 4 [(0, .ref b), (1, .ref x), (2, .ref y), (3, .int 0)]) : W p l e room_1 s m #[Value.ref b] below meth c H locs 119 46443 (lw_Z below #[Value.ref b] s) (F0 m 1361 ls []) := by
  obtain ⟨hx, hb, hr, hml, hown, hts, hX, hbl, hlocks, hgv⟩ := id C0
  have hown : s.vm.findClass RL = some m.cls := hown
  have hK := hKX.1
  have hgd : ∀ w ∈ gd, w ∈ lw_tbl := fun w h => (List.mem_filter.mp h).1
  have hg : ∀ w ∈ gd, w.before #[Value.ref b] s = true := fun w h => hts w (hgd w h)
  subst hL
  obtain ⟨F, pv, P, sl, g1, sp, P2, sl2, g2, tp, g3, rd, Rd, tk, K, ln, N, fo, g4, ea, E, nw, f1, kp, f2, bx, f3, si, Z, yM, ytp, ym1, yns, ym2, yss, ym3, ynw, ym4, ywe, ym5, yhbx, ym6, ybx, ym7, hf_0, hf_1, hf_2, hf_3, hf_4, hf_6, hf_7, hf_8, hf_10, hf_11, hf_14, hf_15, hf_18, hf_19, hf_21, hP, hD⟩ := hF
  have u_0_8 : F[8]? = some (.ref ea) := hf_0.2.2.2.2.2.2.2.1
  have u_10_5 : E[5]? = some (.int 0) := hf_10.2.2.2.2.2
  have u_15_79 : yM[79]? = some (.int 0) := hf_15.2.2.2.2.2.2.2.2.2.2.2.2.2.2.2.2.2.2.2.2.2.2.2.2.2.2.2.2.1
  have hin1 : vp_in 1 6 := (show ¬ ((1 : Int32) < 0 ∨ 6 ≤ (1 : Int32).toNatClampNeg) from by decide)
  have hin2 : vp_in 2 6 := (show ¬ ((2 : Int32) < 0 ∨ 6 ≤ (2 : Int32).toNatClampNeg) from by decide)
  have hin3 : vp_in 3 6 := (show ¬ ((3 : Int32) < 0 ∨ 6 ≤ (3 : Int32).toNatClampNeg) from by decide)
  have hin4 : vp_in 4 6 := (show ¬ ((4 : Int32) < 0 ∨ 6 ≤ (4 : Int32).toNatClampNeg) from by decide)
  have hin5 : vp_in 5 6 := (show ¬ ((5 : Int32) < 0 ∨ 6 ≤ (5 : Int32).toNatClampNeg) from by decide)
  obtain ⟨p0, hp0⟩ : ∃ z, z = xs 1 := ⟨_, rfl⟩
  obtain ⟨p1, hp1⟩ : ∃ z, z = xs 2 := ⟨_, rfl⟩
  obtain ⟨p2, hp2⟩ : ∃ z, z = xs 3 := ⟨_, rfl⟩
  obtain ⟨p3, hp3⟩ : ∃ z, z = xs 4 := ⟨_, rfl⟩
  obtain ⟨p4, hp4⟩ : ∃ z, z = xs 5 := ⟨_, rfl⟩
  refine lv_aload_n hx hb dL_law_1361 rfl (lv_at hl 1 rfl) ?_
  have hPc := hP.sub (ws' := [(x, .inr (11, F)), (ea, .inr (1, E))]) [0, 10] rfl
  have hDc := hD.sub (ws' := [(x, .inr (11, F)), (ea, .inr (1, E))]) [0, 10] (by decide) rfl
  have hFc := va_free (wc := [(x, .inr (11, F)), (ea, .inr (1, E))]) hD hS hA [0, 10] rfl
  refine va_calli (va_runV (As := []) (rest := []) ⟨hx, hb, hml, hown, hts⟩ (c_X11_redo l D k H.size x ea F E u_0_8 u_10_5) (cwV 0 hts (gd_V hgd m1226 m1227 m1228 m117 m1229) rfl rfl rfl (by decide +kernel) ⟨Nat.le_of_ble_eq_true rfl, Nat.le_of_ble_eq_true rfl⟩) (cP_V hPc hKX hDc (ci := 11) (q0 := 0) rfl rfl) rfl rfl hl.1 rfl (lv_room (Nat.le_of_ble_eq_true rfl)) dL_law_1362 ⟨Nat.le_of_ble_eq_true rfl, Nat.le_of_ble_eq_true rfl⟩) hS (fun q _ h => hFc q h) hFc (fun r_1 u t H1 locs ht hvm hw hB hz1 hk1 hS => ?_)
  obtain ⟨hP1, hD1⟩ := hB
  rw [ht] at hP1
  obtain ⟨hP, hD⟩ := va_join (wr := [(pv, .inr (6, P)), (sl, .inl (k.2.1, 3, .inl g1)), (sp, .inr (6, P2)), (sl2, .inl (k.2.1, 3, .inl g2)), (tp, .inl (k.1, 1600, .inl g3)), (rd, .inr (7, Rd)), (tk, .inr (9, K)), (ln, .inr (3, N)), (fo, .inl (k.2.1, 3, .inl g4)), (nw, .inl (k.2.1, 10, .inl f1)), (kp, .inl (k.2.1, 410, .inl f2)), (bx, .inl (k.2.1, 30, .inl f3)), (si, .inr (8, Z)), (y, .inr (12, yM)), (ytp, .inl (k.2.1, 1600, .inl ym1)), (yns, .inl (k.2.1, 3, .inl ym2)), (yss, .inl (k.2.1, 3, .inl ym3)), (ynw, .inl (k.2.1, 16, .inl ym4)), (ywe, .inl (k.2.1, 640, .inl ym5)), (yhbx, .inl (k.2.2.2, 3, .inl ym6)), (ybx, .inl (k.2.1, 48, .inl ym7))]) (w1 := []) hP hD [0, 10] [1, 2, 3, 4, 5, 6, 7, 8, 9, 11, 12, 13, 14, 15, 16, 17, 18, 19, 20, 21, 22] rfl rfl (by decide) (by decide) hk1 hFc hP1 hD1
  generalize H1 = H at hP hS ⊢
  have hP : va_P D classes [(pv, .inr (6, P)), (sl, .inl (k.2.1, 3, .inl g1)), (sp, .inr (6, P2)), (sl2, .inl (k.2.1, 3, .inl g2)), (tp, .inl (k.1, 1600, .inl g3)), (rd, .inr (7, Rd)), (tk, .inr (9, K)), (ln, .inr (3, N)), (fo, .inl (k.2.1, 3, .inl g4)), (nw, .inl (k.2.1, 10, .inl f1)), (kp, .inl (k.2.1, 410, .inl f2)), (bx, .inl (k.2.1, 30, .inl f3)), (si, .inr (8, Z)), (y, .inr (12, yM)), (ytp, .inl (k.2.1, 1600, .inl ym1)), (yns, .inl (k.2.1, 3, .inl ym2)), (yss, .inl (k.2.1, 3, .inl ym3)), (ynw, .inl (k.2.1, 16, .inl ym4)), (ywe, .inl (k.2.1, 640, .inl ym5)), (yhbx, .inl (k.2.2.2, 3, .inl ym6)), (ybx, .inl (k.2.1, 48, .inl ym7))] H := hP
  have hD : va_D A [(pv, .inr (6, P)), (sl, .inl (k.2.1, 3, .inl g1)), (sp, .inr (6, P2)), (sl2, .inl (k.2.1, 3, .inl g2)), (tp, .inl (k.1, 1600, .inl g3)), (rd, .inr (7, Rd)), (tk, .inr (9, K)), (ln, .inr (3, N)), (fo, .inl (k.2.1, 3, .inl g4)), (nw, .inl (k.2.1, 10, .inl f1)), (kp, .inl (k.2.1, 410, .inl f2)), (bx, .inl (k.2.1, 30, .inl f3)), (si, .inr (8, Z)), (y, .inr (12, yM)), (ytp, .inl (k.2.1, 1600, .inl ym1)), (yns, .inl (k.2.1, 3, .inl ym2)), (yss, .inl (k.2.1, 3, .inl ym3)), (ynw, .inl (k.2.1, 16, .inl ym4)), (ywe, .inl (k.2.1, 640, .inl ym5)), (yhbx, .inl (k.2.2.2, 3, .inl ym6)), (ybx, .inl (k.2.1, 48, .inl ym7))] := hD
  refine W.widen (k := 119) (n := 46443) (Nat.le_of_ble_eq_true rfl) (Nat.le_of_ble_eq_true rfl) ?_
  have hw9 := hw.symm; subst hw9
  refine lv_aload_n hx hb dL_law_1365 rfl (lv_at hl 2 rfl) ?_
  have hPc := hP.sub (ws' := [(y, .inr (12, yM))]) [13] rfl
  have hDc := hD.sub (ws' := [(y, .inr (12, yM))]) [13] (by decide) rfl
  have hFc := va_free (wc := [(y, .inr (12, yM))]) hD hS hA [13] rfl
  refine va_calli (va_runV (As := []) (rest := [.int 0]) ⟨hx, hb, hml, hown, hts⟩ (c_X12_redo l D k H.size y yM u_15_79) (cwV 0 hts (gd_V hgd m2027 m2028 m2029 m131 m2030) rfl rfl rfl (by decide +kernel) ⟨Nat.le_of_ble_eq_true rfl, Nat.le_of_ble_eq_true rfl⟩) (cP_V hPc hKX hDc (ci := 12) (q0 := 0) rfl rfl) rfl rfl hl.1 rfl (lv_room (Nat.le_of_ble_eq_true rfl)) dL_law_1366 ⟨Nat.le_of_ble_eq_true rfl, Nat.le_of_ble_eq_true rfl⟩) hS (fun q _ h => hFc q h) hFc (fun r_2 u t H1 locs ht hvm hw hB hz1 hk1 hS => ?_)
  obtain ⟨hP1, hD1⟩ := hB
  rw [ht] at hP1
  obtain ⟨hP, hD⟩ := va_join (wr := [(pv, .inr (6, P)), (sl, .inl (k.2.1, 3, .inl g1)), (sp, .inr (6, P2)), (sl2, .inl (k.2.1, 3, .inl g2)), (tp, .inl (k.1, 1600, .inl g3)), (rd, .inr (7, Rd)), (tk, .inr (9, K)), (ln, .inr (3, N)), (fo, .inl (k.2.1, 3, .inl g4)), (nw, .inl (k.2.1, 10, .inl f1)), (kp, .inl (k.2.1, 410, .inl f2)), (bx, .inl (k.2.1, 30, .inl f3)), (si, .inr (8, Z)), (ytp, .inl (k.2.1, 1600, .inl ym1)), (yns, .inl (k.2.1, 3, .inl ym2)), (yss, .inl (k.2.1, 3, .inl ym3)), (ynw, .inl (k.2.1, 16, .inl ym4)), (ywe, .inl (k.2.1, 640, .inl ym5)), (yhbx, .inl (k.2.2.2, 3, .inl ym6)), (ybx, .inl (k.2.1, 48, .inl ym7))]) (w1 := []) hP hD [13] [0, 1, 2, 3, 4, 5, 6, 7, 8, 9, 10, 11, 12, 14, 15, 16, 17, 18, 19, 20] rfl rfl (by decide) (by decide) hk1 hFc hP1 hD1
  generalize H1 = H at hP hS ⊢
  have hP : va_P D classes [(pv, .inr (6, P)), (sl, .inl (k.2.1, 3, .inl g1)), (sp, .inr (6, P2)), (sl2, .inl (k.2.1, 3, .inl g2)), (tp, .inl (k.1, 1600, .inl g3)), (rd, .inr (7, Rd)), (tk, .inr (9, K)), (ln, .inr (3, N)), (fo, .inl (k.2.1, 3, .inl g4)), (nw, .inl (k.2.1, 10, .inl f1)), (kp, .inl (k.2.1, 410, .inl f2)), (bx, .inl (k.2.1, 30, .inl f3)), (si, .inr (8, Z)), (ytp, .inl (k.2.1, 1600, .inl ym1)), (yns, .inl (k.2.1, 3, .inl ym2)), (yss, .inl (k.2.1, 3, .inl ym3)), (ynw, .inl (k.2.1, 16, .inl ym4)), (ywe, .inl (k.2.1, 640, .inl ym5)), (yhbx, .inl (k.2.2.2, 3, .inl ym6)), (ybx, .inl (k.2.1, 48, .inl ym7))] H := hP
  have hD : va_D A [(pv, .inr (6, P)), (sl, .inl (k.2.1, 3, .inl g1)), (sp, .inr (6, P2)), (sl2, .inl (k.2.1, 3, .inl g2)), (tp, .inl (k.1, 1600, .inl g3)), (rd, .inr (7, Rd)), (tk, .inr (9, K)), (ln, .inr (3, N)), (fo, .inl (k.2.1, 3, .inl g4)), (nw, .inl (k.2.1, 10, .inl f1)), (kp, .inl (k.2.1, 410, .inl f2)), (bx, .inl (k.2.1, 30, .inl f3)), (si, .inr (8, Z)), (ytp, .inl (k.2.1, 1600, .inl ym1)), (yns, .inl (k.2.1, 3, .inl ym2)), (yss, .inl (k.2.1, 3, .inl ym3)), (ynw, .inl (k.2.1, 16, .inl ym4)), (ywe, .inl (k.2.1, 640, .inl ym5)), (yhbx, .inl (k.2.2.2, 3, .inl ym6)), (ybx, .inl (k.2.1, 48, .inl ym7))] := hD
  refine W.widen (k := 119) (n := 46443) (Nat.le_of_ble_eq_true rfl) (Nat.le_of_ble_eq_true rfl) ?_
  have hw9 := hw.symm; subst hw9
  refine lv_icmp_eq (tgt := 1645) hx hb dL_law_1369 (by decide) (fun c_3 => ?_) (fun c_3 => ?_)
  · have c_3 : (0 : Int32) = 0 := c_3
    exact law_tail rfl C0 hKX hA hA2 hbA hS (lv_sub hl [0, 1, 2, 3] rfl)
  · exact absurd rfl c_3

set_option maxHeartbeats 4000000 in
set_option maxRecDepth 100000 in
theorem law_29 {p : Program} {l : Launch} {e : Env} {s : State} {m : MethodId} {below : List Frame} {meth : Method} {c : Code} {D : va_G} {k : ClassId × ClassId × ClassId × ClassId} {A : Nat → Prop} {b L : Nat} {xs : Nat → Int32} (hL : L = 6) (C0 : lw_At p s m meth c b L xs) (hKX : va_K D classes (TY k) s ∧ cX s) (hA : ∀ q : Nat, s.heap.size ≤ q → A q) (hA2 : ∀ q : Nat, A q → s.heap.size ≤ q) (hbA : ¬ A b) {x y : Nat} {H : Heap} {locs : List Loc} (hF : Fresh D k A x y H) (hS : va_S A s.heap H locs) {ls : Array Slot} (hl : lv_has ls 4 [(0, .ref b), (1, .ref x), (2, .ref y), (3, .int 0)]) : W p l e room_1 s m #[Value.ref b] below meth c H locs 119 46443 (lw_Z below #[Value.ref b] s) (F0 m 1374 ls []) := by
  obtain ⟨hx, hb, hr, hml, hown, hts, hX, hbl, hlocks, hgv⟩ := id C0
  have hown : s.vm.findClass RL = some m.cls := hown
  have hK := hKX.1
  have hgd : ∀ w ∈ gd, w ∈ lw_tbl := fun w h => (List.mem_filter.mp h).1
  have hg : ∀ w ∈ gd, w.before #[Value.ref b] s = true := fun w h => hts w (hgd w h)
  subst hL
  obtain ⟨F, pv, P, sl, g1, sp, P2, sl2, g2, tp, g3, rd, Rd, tk, K, ln, N, fo, g4, ea, E, nw, f1, kp, f2, bx, f3, si, Z, yM, ytp, ym1, yns, ym2, yss, ym3, ynw, ym4, ywe, ym5, yhbx, ym6, ybx, ym7, hf_0, hf_1, hf_2, hf_3, hf_4, hf_6, hf_7, hf_8, hf_10, hf_11, hf_14, hf_15, hf_18, hf_19, hf_21, hP, hD⟩ := hF
  have u_0_8 : F[8]? = some (.ref ea) := hf_0.2.2.2.2.2.2.2.1
  have u_10_0 : E[0]? = some (.ref nw) := hf_10.1
  have u_11_0 : f1 0 = (-1) := hf_11.1
  have u_15_76 : yM[76]? = some (.ref ynw) := hf_15.2.2.2.2.2.2.2.2.2.2.2.2.2.2.2.2.2.2.2.2.2.2.2.2.2.1
  have u_19_0 : ym4 0 = (-1) := hf_19.1
  have hin1 : vp_in 1 6 := (show ¬ ((1 : Int32) < 0 ∨ 6 ≤ (1 : Int32).toNatClampNeg) from by decide)
  have hin2 : vp_in 2 6 := (show ¬ ((2 : Int32) < 0 ∨ 6 ≤ (2 : Int32).toNatClampNeg) from by decide)
  have hin3 : vp_in 3 6 := (show ¬ ((3 : Int32) < 0 ∨ 6 ≤ (3 : Int32).toNatClampNeg) from by decide)
  have hin4 : vp_in 4 6 := (show ¬ ((4 : Int32) < 0 ∨ 6 ≤ (4 : Int32).toNatClampNeg) from by decide)
  have hin5 : vp_in 5 6 := (show ¬ ((5 : Int32) < 0 ∨ 6 ≤ (5 : Int32).toNatClampNeg) from by decide)
  obtain ⟨p0, hp0⟩ : ∃ z, z = xs 1 := ⟨_, rfl⟩
  obtain ⟨p1, hp1⟩ : ∃ z, z = xs 2 := ⟨_, rfl⟩
  obtain ⟨p2, hp2⟩ : ∃ z, z = xs 3 := ⟨_, rfl⟩
  obtain ⟨p3, hp3⟩ : ∃ z, z = xs 4 := ⟨_, rfl⟩
  obtain ⟨p4, hp4⟩ : ∃ z, z = xs 5 := ⟨_, rfl⟩
  refine lv_aload_n hx hb dL_law_1374 rfl (lv_at hl 1 rfl) ?_
  refine lv_aload_n hx hb dL_law_1375 rfl (lv_at hl 0 rfl) ?_
  refine lv_iload_n hx hb dL_law_1376 rfl (lv_at hl 3 rfl) ?_
  refine lv_iconst (v := 1) hx hb dL_law_1377 (by decide) ?_
  refine lv_iadd hx hb dL_law_1378 ?_
  refine lv_topi (fun y_1 ey_1 => ?_)
  obtain rfl : y_1 = 1 := ey_1.trans (by decide)
  refine va_sld hx hb hX hbl hbA hS hin1 dL_law_1379 ?_
  refine lv_topi (fun y_2 ey_2 => ?_)
  rw [show y_2 = p0 from ey_2.trans hp0.symm]
  have hPc := hP.sub (ws' := [(x, .inr (11, F)), (ea, .inr (1, E)), (nw, .inl (k.2.1, 10, .inl f1))]) [0, 10, 11] rfl
  have hDc := hD.sub (ws' := [(x, .inr (11, F)), (ea, .inr (1, E)), (nw, .inl (k.2.1, 10, .inl f1))]) [0, 10, 11] (by decide) rfl
  have hFc := va_free (wc := [(x, .inr (11, F)), (ea, .inr (1, E)), (nw, .inl (k.2.1, 10, .inl f1))]) hD hS hA [0, 10, 11] rfl
  refine va_calli (va_runV (As := [.int p0]) (rest := []) ⟨hx, hb, hml, hown, hts⟩ (c_X11_walker l D k H.size x ea nw F E f1 p0 u_0_8 u_10_0 u_11_0) (cwV 1 hts (gd_V hgd m1234 m1235 m1236 m117 m1237) rfl rfl rfl (by decide +kernel) ⟨Nat.le_of_ble_eq_true rfl, Nat.le_of_ble_eq_true rfl⟩) (cP_V hPc hKX hDc (ci := 11) (q0 := 0) rfl rfl) rfl rfl hl.1 rfl (lv_room (Nat.le_of_ble_eq_true rfl)) dL_law_1380 ⟨Nat.le_of_ble_eq_true rfl, Nat.le_of_ble_eq_true rfl⟩) hS (fun q _ h => hFc q h) hFc (fun r_3 u t H1 locs ht hvm hw hB hz1 hk1 hS => ?_)
  obtain ⟨hP1, hD1⟩ := hB
  rw [ht] at hP1
  obtain ⟨hP, hD⟩ := va_join (wr := [(pv, .inr (6, P)), (sl, .inl (k.2.1, 3, .inl g1)), (sp, .inr (6, P2)), (sl2, .inl (k.2.1, 3, .inl g2)), (tp, .inl (k.1, 1600, .inl g3)), (rd, .inr (7, Rd)), (tk, .inr (9, K)), (ln, .inr (3, N)), (fo, .inl (k.2.1, 3, .inl g4)), (kp, .inl (k.2.1, 410, .inl f2)), (bx, .inl (k.2.1, 30, .inl f3)), (si, .inr (8, Z)), (y, .inr (12, yM)), (ytp, .inl (k.2.1, 1600, .inl ym1)), (yns, .inl (k.2.1, 3, .inl ym2)), (yss, .inl (k.2.1, 3, .inl ym3)), (ynw, .inl (k.2.1, 16, .inl ym4)), (ywe, .inl (k.2.1, 640, .inl ym5)), (yhbx, .inl (k.2.2.2, 3, .inl ym6)), (ybx, .inl (k.2.1, 48, .inl ym7))]) (w1 := []) hP hD [0, 10, 11] [1, 2, 3, 4, 5, 6, 7, 8, 9, 12, 13, 14, 15, 16, 17, 18, 19, 20, 21, 22] rfl rfl (by decide) (by decide) hk1 hFc hP1 hD1
  generalize H1 = H at hP hS ⊢
  have hP : va_P D classes [(pv, .inr (6, P)), (sl, .inl (k.2.1, 3, .inl g1)), (sp, .inr (6, P2)), (sl2, .inl (k.2.1, 3, .inl g2)), (tp, .inl (k.1, 1600, .inl g3)), (rd, .inr (7, Rd)), (tk, .inr (9, K)), (ln, .inr (3, N)), (fo, .inl (k.2.1, 3, .inl g4)), (kp, .inl (k.2.1, 410, .inl f2)), (bx, .inl (k.2.1, 30, .inl f3)), (si, .inr (8, Z)), (y, .inr (12, yM)), (ytp, .inl (k.2.1, 1600, .inl ym1)), (yns, .inl (k.2.1, 3, .inl ym2)), (yss, .inl (k.2.1, 3, .inl ym3)), (ynw, .inl (k.2.1, 16, .inl ym4)), (ywe, .inl (k.2.1, 640, .inl ym5)), (yhbx, .inl (k.2.2.2, 3, .inl ym6)), (ybx, .inl (k.2.1, 48, .inl ym7))] H := hP
  have hD : va_D A [(pv, .inr (6, P)), (sl, .inl (k.2.1, 3, .inl g1)), (sp, .inr (6, P2)), (sl2, .inl (k.2.1, 3, .inl g2)), (tp, .inl (k.1, 1600, .inl g3)), (rd, .inr (7, Rd)), (tk, .inr (9, K)), (ln, .inr (3, N)), (fo, .inl (k.2.1, 3, .inl g4)), (kp, .inl (k.2.1, 410, .inl f2)), (bx, .inl (k.2.1, 30, .inl f3)), (si, .inr (8, Z)), (y, .inr (12, yM)), (ytp, .inl (k.2.1, 1600, .inl ym1)), (yns, .inl (k.2.1, 3, .inl ym2)), (yss, .inl (k.2.1, 3, .inl ym3)), (ynw, .inl (k.2.1, 16, .inl ym4)), (ywe, .inl (k.2.1, 640, .inl ym5)), (yhbx, .inl (k.2.2.2, 3, .inl ym6)), (ybx, .inl (k.2.1, 48, .inl ym7))] := hD
  refine W.widen (k := 119) (n := 46443) (Nat.le_of_ble_eq_true rfl) (Nat.le_of_ble_eq_true rfl) ?_
  have hw9 := hw.symm; subst hw9
  refine lv_aload_n hx hb dL_law_1383 rfl (lv_at hl 2 rfl) ?_
  refine lv_aload_n hx hb dL_law_1384 rfl (lv_at hl 0 rfl) ?_
  refine lv_iload_n hx hb dL_law_1385 rfl (lv_at hl 3 rfl) ?_
  refine lv_iconst (v := 1) hx hb dL_law_1386 (by decide) ?_
  refine lv_iadd hx hb dL_law_1387 ?_
  refine lv_topi (fun y_4 ey_4 => ?_)
  obtain rfl : y_4 = 1 := ey_4.trans (by decide)
  refine va_sld hx hb hX hbl hbA hS hin1 dL_law_1388 ?_
  refine lv_topi (fun y_5 ey_5 => ?_)
  rw [show y_5 = p0 from ey_5.trans hp0.symm]
  have hPc := hP.sub (ws' := [(y, .inr (12, yM)), (ynw, .inl (k.2.1, 16, .inl ym4))]) [12, 16] rfl
  have hDc := hD.sub (ws' := [(y, .inr (12, yM)), (ynw, .inl (k.2.1, 16, .inl ym4))]) [12, 16] (by decide) rfl
  have hFc := va_free (wc := [(y, .inr (12, yM)), (ynw, .inl (k.2.1, 16, .inl ym4))]) hD hS hA [12, 16] rfl
  refine va_calli (va_runV (As := [.int p0]) (rest := [.int (-1)]) ⟨hx, hb, hml, hown, hts⟩ (c_X12_walker l D k H.size y ynw yM ym4 p0 u_15_76 u_19_0) (cwV 1 hts (gd_V hgd m2031 m2032 m2033 m131 m2034) rfl rfl rfl (by decide +kernel) ⟨Nat.le_of_ble_eq_true rfl, Nat.le_of_ble_eq_true rfl⟩) (cP_V hPc hKX hDc (ci := 12) (q0 := 0) rfl rfl) rfl rfl hl.1 rfl (lv_room (Nat.le_of_ble_eq_true rfl)) dL_law_1389 ⟨Nat.le_of_ble_eq_true rfl, Nat.le_of_ble_eq_true rfl⟩) hS (fun q _ h => hFc q h) hFc (fun r_6 u t H1 locs ht hvm hw hB hz1 hk1 hS => ?_)
  obtain ⟨hP1, hD1⟩ := hB
  rw [ht] at hP1
  obtain ⟨hP, hD⟩ := va_join (wr := [(pv, .inr (6, P)), (sl, .inl (k.2.1, 3, .inl g1)), (sp, .inr (6, P2)), (sl2, .inl (k.2.1, 3, .inl g2)), (tp, .inl (k.1, 1600, .inl g3)), (rd, .inr (7, Rd)), (tk, .inr (9, K)), (ln, .inr (3, N)), (fo, .inl (k.2.1, 3, .inl g4)), (kp, .inl (k.2.1, 410, .inl f2)), (bx, .inl (k.2.1, 30, .inl f3)), (si, .inr (8, Z)), (ytp, .inl (k.2.1, 1600, .inl ym1)), (yns, .inl (k.2.1, 3, .inl ym2)), (yss, .inl (k.2.1, 3, .inl ym3)), (ywe, .inl (k.2.1, 640, .inl ym5)), (yhbx, .inl (k.2.2.2, 3, .inl ym6)), (ybx, .inl (k.2.1, 48, .inl ym7))]) (w1 := []) hP hD [12, 16] [0, 1, 2, 3, 4, 5, 6, 7, 8, 9, 10, 11, 13, 14, 15, 17, 18, 19] rfl rfl (by decide) (by decide) hk1 hFc hP1 hD1
  generalize H1 = H at hP hS ⊢
  have hP : va_P D classes [(pv, .inr (6, P)), (sl, .inl (k.2.1, 3, .inl g1)), (sp, .inr (6, P2)), (sl2, .inl (k.2.1, 3, .inl g2)), (tp, .inl (k.1, 1600, .inl g3)), (rd, .inr (7, Rd)), (tk, .inr (9, K)), (ln, .inr (3, N)), (fo, .inl (k.2.1, 3, .inl g4)), (kp, .inl (k.2.1, 410, .inl f2)), (bx, .inl (k.2.1, 30, .inl f3)), (si, .inr (8, Z)), (ytp, .inl (k.2.1, 1600, .inl ym1)), (yns, .inl (k.2.1, 3, .inl ym2)), (yss, .inl (k.2.1, 3, .inl ym3)), (ywe, .inl (k.2.1, 640, .inl ym5)), (yhbx, .inl (k.2.2.2, 3, .inl ym6)), (ybx, .inl (k.2.1, 48, .inl ym7))] H := hP
  have hD : va_D A [(pv, .inr (6, P)), (sl, .inl (k.2.1, 3, .inl g1)), (sp, .inr (6, P2)), (sl2, .inl (k.2.1, 3, .inl g2)), (tp, .inl (k.1, 1600, .inl g3)), (rd, .inr (7, Rd)), (tk, .inr (9, K)), (ln, .inr (3, N)), (fo, .inl (k.2.1, 3, .inl g4)), (kp, .inl (k.2.1, 410, .inl f2)), (bx, .inl (k.2.1, 30, .inl f3)), (si, .inr (8, Z)), (ytp, .inl (k.2.1, 1600, .inl ym1)), (yns, .inl (k.2.1, 3, .inl ym2)), (yss, .inl (k.2.1, 3, .inl ym3)), (ywe, .inl (k.2.1, 640, .inl ym5)), (yhbx, .inl (k.2.2.2, 3, .inl ym6)), (ybx, .inl (k.2.1, 48, .inl ym7))] := hD
  refine W.widen (k := 119) (n := 46443) (Nat.le_of_ble_eq_true rfl) (Nat.le_of_ble_eq_true rfl) ?_
  have hw9 := hw.symm; subst hw9
  refine lv_icmp_eq (tgt := 1645) hx hb dL_law_1392 (by decide) (fun c_7 => ?_) (fun c_7 => ?_)
  · have c_7 : ((-1) : Int32) = (-1) := c_7
    exact law_tail rfl C0 hKX hA hA2 hbA hS (lv_sub hl [0, 1, 2, 3] rfl)
  · exact absurd rfl c_7

set_option maxHeartbeats 4000000 in
set_option maxRecDepth 100000 in
theorem law_30 {p : Program} {l : Launch} {e : Env} {s : State} {m : MethodId} {below : List Frame} {meth : Method} {c : Code} {D : va_G} {k : ClassId × ClassId × ClassId × ClassId} {A : Nat → Prop} {b L : Nat} {xs : Nat → Int32} (hL : L = 6) (C0 : lw_At p s m meth c b L xs) (hKX : va_K D classes (TY k) s ∧ cX s) (hA : ∀ q : Nat, s.heap.size ≤ q → A q) (hA2 : ∀ q : Nat, A q → s.heap.size ≤ q) (hbA : ¬ A b) {x y : Nat} {H : Heap} {locs : List Loc} (hF : Fresh D k A x y H) (hS : va_S A s.heap H locs) {ls : Array Slot} (hl : lv_has ls 4 [(0, .ref b), (1, .ref x), (2, .ref y), (3, .int 0)]) : W p l e room_1 s m #[Value.ref b] below meth c H locs 119 46443 (lw_Z below #[Value.ref b] s) (F0 m 1397 ls []) := by
  obtain ⟨hx, hb, hr, hml, hown, hts, hX, hbl, hlocks, hgv⟩ := id C0
  have hown : s.vm.findClass RL = some m.cls := hown
  have hK := hKX.1
  have hgd : ∀ w ∈ gd, w ∈ lw_tbl := fun w h => (List.mem_filter.mp h).1
  have hg : ∀ w ∈ gd, w.before #[Value.ref b] s = true := fun w h => hts w (hgd w h)
  subst hL
  obtain ⟨F, pv, P, sl, g1, sp, P2, sl2, g2, tp, g3, rd, Rd, tk, K, ln, N, fo, g4, ea, E, nw, f1, kp, f2, bx, f3, si, Z, yM, ytp, ym1, yns, ym2, yss, ym3, ynw, ym4, ywe, ym5, yhbx, ym6, ybx, ym7, hf_0, hf_1, hf_2, hf_3, hf_4, hf_6, hf_7, hf_8, hf_10, hf_11, hf_14, hf_15, hf_18, hf_19, hf_21, hP, hD⟩ := hF
  have u_0_12 : F[12]? = some (.int 0) := hf_0.2.2.2.1
  have u_15_66 : yM[66]? = some (.int 0) := hf_15.2.2.2.2.2.2.2.2.2.2.2.2.2.2.2.2.2.2.2.2.2.2.2.1
  have hin1 : vp_in 1 6 := (show ¬ ((1 : Int32) < 0 ∨ 6 ≤ (1 : Int32).toNatClampNeg) from by decide)
  have hin2 : vp_in 2 6 := (show ¬ ((2 : Int32) < 0 ∨ 6 ≤ (2 : Int32).toNatClampNeg) from by decide)
  have hin3 : vp_in 3 6 := (show ¬ ((3 : Int32) < 0 ∨ 6 ≤ (3 : Int32).toNatClampNeg) from by decide)
  have hin4 : vp_in 4 6 := (show ¬ ((4 : Int32) < 0 ∨ 6 ≤ (4 : Int32).toNatClampNeg) from by decide)
  have hin5 : vp_in 5 6 := (show ¬ ((5 : Int32) < 0 ∨ 6 ≤ (5 : Int32).toNatClampNeg) from by decide)
  obtain ⟨p0, hp0⟩ : ∃ z, z = xs 1 := ⟨_, rfl⟩
  obtain ⟨p1, hp1⟩ : ∃ z, z = xs 2 := ⟨_, rfl⟩
  obtain ⟨p2, hp2⟩ : ∃ z, z = xs 3 := ⟨_, rfl⟩
  obtain ⟨p3, hp3⟩ : ∃ z, z = xs 4 := ⟨_, rfl⟩
  obtain ⟨p4, hp4⟩ : ∃ z, z = xs 5 := ⟨_, rfl⟩
  refine lv_aload_n hx hb dL_law_1397 rfl (lv_at hl 1 rfl) ?_
  refine lv_aload_n hx hb dL_law_1398 rfl (lv_at hl 0 rfl) ?_
  refine lv_iload_n hx hb dL_law_1399 rfl (lv_at hl 3 rfl) ?_
  refine lv_iconst (v := 1) hx hb dL_law_1400 (by decide) ?_
  refine lv_iadd hx hb dL_law_1401 ?_
  refine lv_topi (fun y_1 ey_1 => ?_)
  obtain rfl : y_1 = 1 := ey_1.trans (by decide)
  refine va_sld hx hb hX hbl hbA hS hin1 dL_law_1402 ?_
  refine lv_topi (fun y_2 ey_2 => ?_)
  rw [show y_2 = p0 from ey_2.trans hp0.symm]
  have hPc := hP.sub (ws' := [(x, .inr (11, F))]) [0] rfl
  have hDc := hD.sub (ws' := [(x, .inr (11, F))]) [0] (by decide) rfl
  have hFc := va_free (wc := [(x, .inr (11, F))]) hD hS hA [0] rfl
  refine va_calli (va_runV (As := [.int p0]) (rest := []) ⟨hx, hb, hml, hown, hts⟩ (c_X11_lies l D k H.size x F p0 u_0_12) (cwV 1 hts (gd_V hgd m1238 m1239 m1240 m117 m1241) rfl rfl rfl (by decide +kernel) ⟨Nat.le_of_ble_eq_true rfl, Nat.le_of_ble_eq_true rfl⟩) (cP_V hPc hKX hDc (ci := 11) (q0 := 0) rfl rfl) rfl rfl hl.1 rfl (lv_room (Nat.le_of_ble_eq_true rfl)) dL_law_1403 ⟨Nat.le_of_ble_eq_true rfl, Nat.le_of_ble_eq_true rfl⟩) hS (fun q _ h => hFc q h) hFc (fun r_3 u t H1 locs ht hvm hw hB hz1 hk1 hS => ?_)
  obtain ⟨hP1, hD1⟩ := hB
  rw [ht] at hP1
  obtain ⟨hP, hD⟩ := va_join (wr := [(pv, .inr (6, P)), (sl, .inl (k.2.1, 3, .inl g1)), (sp, .inr (6, P2)), (sl2, .inl (k.2.1, 3, .inl g2)), (tp, .inl (k.1, 1600, .inl g3)), (rd, .inr (7, Rd)), (tk, .inr (9, K)), (ln, .inr (3, N)), (fo, .inl (k.2.1, 3, .inl g4)), (ea, .inr (1, E)), (nw, .inl (k.2.1, 10, .inl f1)), (kp, .inl (k.2.1, 410, .inl f2)), (bx, .inl (k.2.1, 30, .inl f3)), (si, .inr (8, Z)), (y, .inr (12, yM)), (ytp, .inl (k.2.1, 1600, .inl ym1)), (yns, .inl (k.2.1, 3, .inl ym2)), (yss, .inl (k.2.1, 3, .inl ym3)), (ynw, .inl (k.2.1, 16, .inl ym4)), (ywe, .inl (k.2.1, 640, .inl ym5)), (yhbx, .inl (k.2.2.2, 3, .inl ym6)), (ybx, .inl (k.2.1, 48, .inl ym7))]) (w1 := []) hP hD [0] [1, 2, 3, 4, 5, 6, 7, 8, 9, 10, 11, 12, 13, 14, 15, 16, 17, 18, 19, 20, 21, 22] rfl rfl (by decide) (by decide) hk1 hFc hP1 hD1
  generalize H1 = H at hP hS ⊢
  have hP : va_P D classes [(pv, .inr (6, P)), (sl, .inl (k.2.1, 3, .inl g1)), (sp, .inr (6, P2)), (sl2, .inl (k.2.1, 3, .inl g2)), (tp, .inl (k.1, 1600, .inl g3)), (rd, .inr (7, Rd)), (tk, .inr (9, K)), (ln, .inr (3, N)), (fo, .inl (k.2.1, 3, .inl g4)), (ea, .inr (1, E)), (nw, .inl (k.2.1, 10, .inl f1)), (kp, .inl (k.2.1, 410, .inl f2)), (bx, .inl (k.2.1, 30, .inl f3)), (si, .inr (8, Z)), (y, .inr (12, yM)), (ytp, .inl (k.2.1, 1600, .inl ym1)), (yns, .inl (k.2.1, 3, .inl ym2)), (yss, .inl (k.2.1, 3, .inl ym3)), (ynw, .inl (k.2.1, 16, .inl ym4)), (ywe, .inl (k.2.1, 640, .inl ym5)), (yhbx, .inl (k.2.2.2, 3, .inl ym6)), (ybx, .inl (k.2.1, 48, .inl ym7))] H := hP
  have hD : va_D A [(pv, .inr (6, P)), (sl, .inl (k.2.1, 3, .inl g1)), (sp, .inr (6, P2)), (sl2, .inl (k.2.1, 3, .inl g2)), (tp, .inl (k.1, 1600, .inl g3)), (rd, .inr (7, Rd)), (tk, .inr (9, K)), (ln, .inr (3, N)), (fo, .inl (k.2.1, 3, .inl g4)), (ea, .inr (1, E)), (nw, .inl (k.2.1, 10, .inl f1)), (kp, .inl (k.2.1, 410, .inl f2)), (bx, .inl (k.2.1, 30, .inl f3)), (si, .inr (8, Z)), (y, .inr (12, yM)), (ytp, .inl (k.2.1, 1600, .inl ym1)), (yns, .inl (k.2.1, 3, .inl ym2)), (yss, .inl (k.2.1, 3, .inl ym3)), (ynw, .inl (k.2.1, 16, .inl ym4)), (ywe, .inl (k.2.1, 640, .inl ym5)), (yhbx, .inl (k.2.2.2, 3, .inl ym6)), (ybx, .inl (k.2.1, 48, .inl ym7))] := hD
  refine W.widen (k := 119) (n := 46443) (Nat.le_of_ble_eq_true rfl) (Nat.le_of_ble_eq_true rfl) ?_
  have hw9 := hw.symm; subst hw9
  refine lv_aload_n hx hb dL_law_1406 rfl (lv_at hl 2 rfl) ?_
  refine lv_aload_n hx hb dL_law_1407 rfl (lv_at hl 0 rfl) ?_
  refine lv_iload_n hx hb dL_law_1408 rfl (lv_at hl 3 rfl) ?_
  refine lv_iconst (v := 1) hx hb dL_law_1409 (by decide) ?_
  refine lv_iadd hx hb dL_law_1410 ?_
  refine lv_topi (fun y_4 ey_4 => ?_)
  obtain rfl : y_4 = 1 := ey_4.trans (by decide)
  refine va_sld hx hb hX hbl hbA hS hin1 dL_law_1411 ?_
  refine lv_topi (fun y_5 ey_5 => ?_)
  rw [show y_5 = p0 from ey_5.trans hp0.symm]
  have hPc := hP.sub (ws' := [(y, .inr (12, yM))]) [14] rfl
  have hDc := hD.sub (ws' := [(y, .inr (12, yM))]) [14] (by decide) rfl
  have hFc := va_free (wc := [(y, .inr (12, yM))]) hD hS hA [14] rfl
  refine va_calli (va_runV (As := [.int p0]) (rest := [.int (-1)]) ⟨hx, hb, hml, hown, hts⟩ (c_X12_lies l D k H.size y yM p0 u_15_66) (cwV 1 hts (gd_V hgd m2035 m2036 m2037 m131 m2038) rfl rfl rfl (by decide +kernel) ⟨Nat.le_of_ble_eq_true rfl, Nat.le_of_ble_eq_true rfl⟩) (cP_V hPc hKX hDc (ci := 12) (q0 := 0) rfl rfl) rfl rfl hl.1 rfl (lv_room (Nat.le_of_ble_eq_true rfl)) dL_law_1412 ⟨Nat.le_of_ble_eq_true rfl, Nat.le_of_ble_eq_true rfl⟩) hS (fun q _ h => hFc q h) hFc (fun r_6 u t H1 locs ht hvm hw hB hz1 hk1 hS => ?_)
  obtain ⟨hP1, hD1⟩ := hB
  rw [ht] at hP1
  obtain ⟨hP, hD⟩ := va_join (wr := [(pv, .inr (6, P)), (sl, .inl (k.2.1, 3, .inl g1)), (sp, .inr (6, P2)), (sl2, .inl (k.2.1, 3, .inl g2)), (tp, .inl (k.1, 1600, .inl g3)), (rd, .inr (7, Rd)), (tk, .inr (9, K)), (ln, .inr (3, N)), (fo, .inl (k.2.1, 3, .inl g4)), (ea, .inr (1, E)), (nw, .inl (k.2.1, 10, .inl f1)), (kp, .inl (k.2.1, 410, .inl f2)), (bx, .inl (k.2.1, 30, .inl f3)), (si, .inr (8, Z)), (ytp, .inl (k.2.1, 1600, .inl ym1)), (yns, .inl (k.2.1, 3, .inl ym2)), (yss, .inl (k.2.1, 3, .inl ym3)), (ynw, .inl (k.2.1, 16, .inl ym4)), (ywe, .inl (k.2.1, 640, .inl ym5)), (yhbx, .inl (k.2.2.2, 3, .inl ym6)), (ybx, .inl (k.2.1, 48, .inl ym7))]) (w1 := []) hP hD [14] [0, 1, 2, 3, 4, 5, 6, 7, 8, 9, 10, 11, 12, 13, 15, 16, 17, 18, 19, 20, 21] rfl rfl (by decide) (by decide) hk1 hFc hP1 hD1
  generalize H1 = H at hP hS ⊢
  have hP : va_P D classes [(pv, .inr (6, P)), (sl, .inl (k.2.1, 3, .inl g1)), (sp, .inr (6, P2)), (sl2, .inl (k.2.1, 3, .inl g2)), (tp, .inl (k.1, 1600, .inl g3)), (rd, .inr (7, Rd)), (tk, .inr (9, K)), (ln, .inr (3, N)), (fo, .inl (k.2.1, 3, .inl g4)), (ea, .inr (1, E)), (nw, .inl (k.2.1, 10, .inl f1)), (kp, .inl (k.2.1, 410, .inl f2)), (bx, .inl (k.2.1, 30, .inl f3)), (si, .inr (8, Z)), (ytp, .inl (k.2.1, 1600, .inl ym1)), (yns, .inl (k.2.1, 3, .inl ym2)), (yss, .inl (k.2.1, 3, .inl ym3)), (ynw, .inl (k.2.1, 16, .inl ym4)), (ywe, .inl (k.2.1, 640, .inl ym5)), (yhbx, .inl (k.2.2.2, 3, .inl ym6)), (ybx, .inl (k.2.1, 48, .inl ym7))] H := hP
  have hD : va_D A [(pv, .inr (6, P)), (sl, .inl (k.2.1, 3, .inl g1)), (sp, .inr (6, P2)), (sl2, .inl (k.2.1, 3, .inl g2)), (tp, .inl (k.1, 1600, .inl g3)), (rd, .inr (7, Rd)), (tk, .inr (9, K)), (ln, .inr (3, N)), (fo, .inl (k.2.1, 3, .inl g4)), (ea, .inr (1, E)), (nw, .inl (k.2.1, 10, .inl f1)), (kp, .inl (k.2.1, 410, .inl f2)), (bx, .inl (k.2.1, 30, .inl f3)), (si, .inr (8, Z)), (ytp, .inl (k.2.1, 1600, .inl ym1)), (yns, .inl (k.2.1, 3, .inl ym2)), (yss, .inl (k.2.1, 3, .inl ym3)), (ynw, .inl (k.2.1, 16, .inl ym4)), (ywe, .inl (k.2.1, 640, .inl ym5)), (yhbx, .inl (k.2.2.2, 3, .inl ym6)), (ybx, .inl (k.2.1, 48, .inl ym7))] := hD
  refine W.widen (k := 119) (n := 46443) (Nat.le_of_ble_eq_true rfl) (Nat.le_of_ble_eq_true rfl) ?_
  have hw9 := hw.symm; subst hw9
  refine lv_icmp_eq (tgt := 1645) hx hb dL_law_1415 (by decide) (fun c_7 => ?_) (fun c_7 => ?_)
  · have c_7 : ((-1) : Int32) = (-1) := c_7
    exact law_tail rfl C0 hKX hA hA2 hbA hS (lv_sub hl [0, 1, 2, 3] rfl)
  · exact absurd rfl c_7

set_option maxHeartbeats 4000000 in
set_option maxRecDepth 100000 in
theorem law_31 {p : Program} {l : Launch} {e : Env} {s : State} {m : MethodId} {below : List Frame} {meth : Method} {c : Code} {D : va_G} {k : ClassId × ClassId × ClassId × ClassId} {A : Nat → Prop} {b L : Nat} {xs : Nat → Int32} (hL : L = 6) (C0 : lw_At p s m meth c b L xs) (hKX : va_K D classes (TY k) s ∧ cX s) (hA : ∀ q : Nat, s.heap.size ≤ q → A q) (hA2 : ∀ q : Nat, A q → s.heap.size ≤ q) (hbA : ¬ A b) {x y : Nat} {H : Heap} {locs : List Loc} (hF : Fresh D k A x y H) (hS : va_S A s.heap H locs) {ls : Array Slot} (hl : lv_has ls 4 [(0, .ref b), (1, .ref x), (2, .ref y), (3, .int 0)]) : W p l e room_1 s m #[Value.ref b] below meth c H locs 119 46443 (lw_Z below #[Value.ref b] s) (F0 m 1420 ls []) := by
  obtain ⟨hx, hb, hr, hml, hown, hts, hX, hbl, hlocks, hgv⟩ := id C0
  have hown : s.vm.findClass RL = some m.cls := hown
  have hK := hKX.1
  have hgd : ∀ w ∈ gd, w ∈ lw_tbl := fun w h => (List.mem_filter.mp h).1
  have hg : ∀ w ∈ gd, w.before #[Value.ref b] s = true := fun w h => hts w (hgd w h)
  subst hL
  obtain ⟨F, pv, P, sl, g1, sp, P2, sl2, g2, tp, g3, rd, Rd, tk, K, ln, N, fo, g4, ea, E, nw, f1, kp, f2, bx, f3, si, Z, yM, ytp, ym1, yns, ym2, yss, ym3, ynw, ym4, ywe, ym5, yhbx, ym6, ybx, ym7, hf_0, hf_1, hf_2, hf_3, hf_4, hf_6, hf_7, hf_8, hf_10, hf_11, hf_14, hf_15, hf_18, hf_19, hf_21, hP, hD⟩ := hF
  have u_0_0 : F[0]? = some (.ref pv) := hf_0.1
  have u_1_10 : P[10]? = some (.int 0) := hf_1.1
  have u_15_53 : yM[53]? = some (.int 0) := hf_15.2.2.2.2.2.2.2.2.2.2.2.2.2.2.2.2.2.2.1
  have hin1 : vp_in 1 6 := (show ¬ ((1 : Int32) < 0 ∨ 6 ≤ (1 : Int32).toNatClampNeg) from by decide)
  have hin2 : vp_in 2 6 := (show ¬ ((2 : Int32) < 0 ∨ 6 ≤ (2 : Int32).toNatClampNeg) from by decide)
  have hin3 : vp_in 3 6 := (show ¬ ((3 : Int32) < 0 ∨ 6 ≤ (3 : Int32).toNatClampNeg) from by decide)
  have hin4 : vp_in 4 6 := (show ¬ ((4 : Int32) < 0 ∨ 6 ≤ (4 : Int32).toNatClampNeg) from by decide)
  have hin5 : vp_in 5 6 := (show ¬ ((5 : Int32) < 0 ∨ 6 ≤ (5 : Int32).toNatClampNeg) from by decide)
  obtain ⟨p0, hp0⟩ : ∃ z, z = xs 1 := ⟨_, rfl⟩
  obtain ⟨p1, hp1⟩ : ∃ z, z = xs 2 := ⟨_, rfl⟩
  obtain ⟨p2, hp2⟩ : ∃ z, z = xs 3 := ⟨_, rfl⟩
  obtain ⟨p3, hp3⟩ : ∃ z, z = xs 4 := ⟨_, rfl⟩
  obtain ⟨p4, hp4⟩ : ∃ z, z = xs 5 := ⟨_, rfl⟩
  refine lv_aload_n hx hb dL_law_1420 rfl (lv_at hl 1 rfl) ?_
  refine lv_aload_n hx hb dL_law_1421 rfl (lv_at hl 0 rfl) ?_
  refine lv_iload_n hx hb dL_law_1422 rfl (lv_at hl 3 rfl) ?_
  refine lv_iconst (v := 1) hx hb dL_law_1423 (by decide) ?_
  refine lv_iadd hx hb dL_law_1424 ?_
  refine lv_topi (fun y_1 ey_1 => ?_)
  obtain rfl : y_1 = 1 := ey_1.trans (by decide)
  refine va_sld hx hb hX hbl hbA hS hin1 dL_law_1425 ?_
  refine lv_topi (fun y_2 ey_2 => ?_)
  rw [show y_2 = p0 from ey_2.trans hp0.symm]
  refine lv_aload_n hx hb dL_law_1426 rfl (lv_at hl 0 rfl) ?_
  refine lv_iload_n hx hb dL_law_1427 rfl (lv_at hl 3 rfl) ?_
  refine lv_iconst (v := 2) hx hb dL_law_1428 (by decide) ?_
  refine lv_iadd hx hb dL_law_1429 ?_
  refine lv_topi (fun y_3 ey_3 => ?_)
  obtain rfl : y_3 = 2 := ey_3.trans (by decide)
  refine va_sld hx hb hX hbl hbA hS hin2 dL_law_1430 ?_
  refine lv_topi (fun y_4 ey_4 => ?_)
  rw [show y_4 = p1 from ey_4.trans hp1.symm]
  refine lv_aload_n hx hb dL_law_1431 rfl (lv_at hl 0 rfl) ?_
  refine lv_iload_n hx hb dL_law_1432 rfl (lv_at hl 3 rfl) ?_
  refine lv_iconst (v := 3) hx hb dL_law_1433 (by decide) ?_
  refine lv_iadd hx hb dL_law_1434 ?_
  refine lv_topi (fun y_5 ey_5 => ?_)
  obtain rfl : y_5 = 3 := ey_5.trans (by decide)
  refine va_sld hx hb hX hbl hbA hS hin3 dL_law_1435 ?_
  refine lv_topi (fun y_6 ey_6 => ?_)
  rw [show y_6 = p2 from ey_6.trans hp2.symm]
  have hPc := hP.sub (ws' := [(x, .inr (11, F)), (pv, .inr (6, P))]) [0, 1] rfl
  have hDc := hD.sub (ws' := [(x, .inr (11, F)), (pv, .inr (6, P))]) [0, 1] (by decide) rfl
  have hFc := va_free (wc := [(x, .inr (11, F)), (pv, .inr (6, P))]) hD hS hA [0, 1] rfl
  refine va_calli (va_runV (As := [.int p0, .int p1, .int p2]) (rest := []) ⟨hx, hb, hml, hown, hts⟩ (c_X11_sight l D k H.size x pv F P p0 p1 p2 u_0_0 u_1_10) (cwV 3 hts (gd_V hgd m1242 m1243 m1244 m117 m1245) rfl rfl rfl (by decide +kernel) ⟨Nat.le_of_ble_eq_true rfl, Nat.le_of_ble_eq_true rfl⟩) (cP_V hPc hKX hDc (ci := 11) (q0 := 0) rfl rfl) rfl rfl hl.1 rfl (lv_room (Nat.le_of_ble_eq_true rfl)) dL_law_1436 ⟨Nat.le_of_ble_eq_true rfl, Nat.le_of_ble_eq_true rfl⟩) hS (fun q _ h => hFc q h) hFc (fun r_7 u t H1 locs ht hvm hw hB hz1 hk1 hS => ?_)
  obtain ⟨hP1, hD1⟩ := hB
  rw [ht] at hP1
  obtain ⟨hP, hD⟩ := va_join (wr := [(sl, .inl (k.2.1, 3, .inl g1)), (sp, .inr (6, P2)), (sl2, .inl (k.2.1, 3, .inl g2)), (tp, .inl (k.1, 1600, .inl g3)), (rd, .inr (7, Rd)), (tk, .inr (9, K)), (ln, .inr (3, N)), (fo, .inl (k.2.1, 3, .inl g4)), (ea, .inr (1, E)), (nw, .inl (k.2.1, 10, .inl f1)), (kp, .inl (k.2.1, 410, .inl f2)), (bx, .inl (k.2.1, 30, .inl f3)), (si, .inr (8, Z)), (y, .inr (12, yM)), (ytp, .inl (k.2.1, 1600, .inl ym1)), (yns, .inl (k.2.1, 3, .inl ym2)), (yss, .inl (k.2.1, 3, .inl ym3)), (ynw, .inl (k.2.1, 16, .inl ym4)), (ywe, .inl (k.2.1, 640, .inl ym5)), (yhbx, .inl (k.2.2.2, 3, .inl ym6)), (ybx, .inl (k.2.1, 48, .inl ym7))]) (w1 := []) hP hD [0, 1] [2, 3, 4, 5, 6, 7, 8, 9, 10, 11, 12, 13, 14, 15, 16, 17, 18, 19, 20, 21, 22] rfl rfl (by decide) (by decide) hk1 hFc hP1 hD1
  generalize H1 = H at hP hS ⊢
  have hP : va_P D classes [(sl, .inl (k.2.1, 3, .inl g1)), (sp, .inr (6, P2)), (sl2, .inl (k.2.1, 3, .inl g2)), (tp, .inl (k.1, 1600, .inl g3)), (rd, .inr (7, Rd)), (tk, .inr (9, K)), (ln, .inr (3, N)), (fo, .inl (k.2.1, 3, .inl g4)), (ea, .inr (1, E)), (nw, .inl (k.2.1, 10, .inl f1)), (kp, .inl (k.2.1, 410, .inl f2)), (bx, .inl (k.2.1, 30, .inl f3)), (si, .inr (8, Z)), (y, .inr (12, yM)), (ytp, .inl (k.2.1, 1600, .inl ym1)), (yns, .inl (k.2.1, 3, .inl ym2)), (yss, .inl (k.2.1, 3, .inl ym3)), (ynw, .inl (k.2.1, 16, .inl ym4)), (ywe, .inl (k.2.1, 640, .inl ym5)), (yhbx, .inl (k.2.2.2, 3, .inl ym6)), (ybx, .inl (k.2.1, 48, .inl ym7))] H := hP
  have hD : va_D A [(sl, .inl (k.2.1, 3, .inl g1)), (sp, .inr (6, P2)), (sl2, .inl (k.2.1, 3, .inl g2)), (tp, .inl (k.1, 1600, .inl g3)), (rd, .inr (7, Rd)), (tk, .inr (9, K)), (ln, .inr (3, N)), (fo, .inl (k.2.1, 3, .inl g4)), (ea, .inr (1, E)), (nw, .inl (k.2.1, 10, .inl f1)), (kp, .inl (k.2.1, 410, .inl f2)), (bx, .inl (k.2.1, 30, .inl f3)), (si, .inr (8, Z)), (y, .inr (12, yM)), (ytp, .inl (k.2.1, 1600, .inl ym1)), (yns, .inl (k.2.1, 3, .inl ym2)), (yss, .inl (k.2.1, 3, .inl ym3)), (ynw, .inl (k.2.1, 16, .inl ym4)), (ywe, .inl (k.2.1, 640, .inl ym5)), (yhbx, .inl (k.2.2.2, 3, .inl ym6)), (ybx, .inl (k.2.1, 48, .inl ym7))] := hD
  refine W.widen (k := 119) (n := 46443) (Nat.le_of_ble_eq_true rfl) (Nat.le_of_ble_eq_true rfl) ?_
  have hw9 := hw.symm; subst hw9
  refine lv_aload_n hx hb dL_law_1439 rfl (lv_at hl 2 rfl) ?_
  refine lv_aload_n hx hb dL_law_1440 rfl (lv_at hl 0 rfl) ?_
  refine lv_iload_n hx hb dL_law_1441 rfl (lv_at hl 3 rfl) ?_
  refine lv_iconst (v := 1) hx hb dL_law_1442 (by decide) ?_
  refine lv_iadd hx hb dL_law_1443 ?_
  refine lv_topi (fun y_8 ey_8 => ?_)
  obtain rfl : y_8 = 1 := ey_8.trans (by decide)
  refine va_sld hx hb hX hbl hbA hS hin1 dL_law_1444 ?_
  refine lv_topi (fun y_9 ey_9 => ?_)
  rw [show y_9 = p0 from ey_9.trans hp0.symm]
  refine lv_aload_n hx hb dL_law_1445 rfl (lv_at hl 0 rfl) ?_
  refine lv_iload_n hx hb dL_law_1446 rfl (lv_at hl 3 rfl) ?_
  refine lv_iconst (v := 2) hx hb dL_law_1447 (by decide) ?_
  refine lv_iadd hx hb dL_law_1448 ?_
  refine lv_topi (fun y_10 ey_10 => ?_)
  obtain rfl : y_10 = 2 := ey_10.trans (by decide)
  refine va_sld hx hb hX hbl hbA hS hin2 dL_law_1449 ?_
  refine lv_topi (fun y_11 ey_11 => ?_)
  rw [show y_11 = p1 from ey_11.trans hp1.symm]
  refine lv_aload_n hx hb dL_law_1450 rfl (lv_at hl 0 rfl) ?_
  refine lv_iload_n hx hb dL_law_1451 rfl (lv_at hl 3 rfl) ?_
  refine lv_iconst (v := 3) hx hb dL_law_1452 (by decide) ?_
  refine lv_iadd hx hb dL_law_1453 ?_
  refine lv_topi (fun y_12 ey_12 => ?_)
  obtain rfl : y_12 = 3 := ey_12.trans (by decide)
  refine va_sld hx hb hX hbl hbA hS hin3 dL_law_1454 ?_
  refine lv_topi (fun y_13 ey_13 => ?_)
  rw [show y_13 = p2 from ey_13.trans hp2.symm]
  have hPc := hP.sub (ws' := [(y, .inr (12, yM))]) [13] rfl
  have hDc := hD.sub (ws' := [(y, .inr (12, yM))]) [13] (by decide) rfl
  have hFc := va_free (wc := [(y, .inr (12, yM))]) hD hS hA [13] rfl
  refine va_calli (va_runV (As := [.int p0, .int p1, .int p2]) (rest := [.int (-1)]) ⟨hx, hb, hml, hown, hts⟩ (c_X12_sight l D k H.size y yM p0 p1 p2 u_15_53) (cwV 3 hts (gd_V hgd m2039 m2040 m2041 m131 m2042) rfl rfl rfl (by decide +kernel) ⟨Nat.le_of_ble_eq_true rfl, Nat.le_of_ble_eq_true rfl⟩) (cP_V hPc hKX hDc (ci := 12) (q0 := 0) rfl rfl) rfl rfl hl.1 rfl (lv_room (Nat.le_of_ble_eq_true rfl)) dL_law_1455 ⟨Nat.le_of_ble_eq_true rfl, Nat.le_of_ble_eq_true rfl⟩) hS (fun q _ h => hFc q h) hFc (fun r_14 u t H1 locs ht hvm hw hB hz1 hk1 hS => ?_)
  obtain ⟨hP1, hD1⟩ := hB
  rw [ht] at hP1
  obtain ⟨hP, hD⟩ := va_join (wr := [(sl, .inl (k.2.1, 3, .inl g1)), (sp, .inr (6, P2)), (sl2, .inl (k.2.1, 3, .inl g2)), (tp, .inl (k.1, 1600, .inl g3)), (rd, .inr (7, Rd)), (tk, .inr (9, K)), (ln, .inr (3, N)), (fo, .inl (k.2.1, 3, .inl g4)), (ea, .inr (1, E)), (nw, .inl (k.2.1, 10, .inl f1)), (kp, .inl (k.2.1, 410, .inl f2)), (bx, .inl (k.2.1, 30, .inl f3)), (si, .inr (8, Z)), (ytp, .inl (k.2.1, 1600, .inl ym1)), (yns, .inl (k.2.1, 3, .inl ym2)), (yss, .inl (k.2.1, 3, .inl ym3)), (ynw, .inl (k.2.1, 16, .inl ym4)), (ywe, .inl (k.2.1, 640, .inl ym5)), (yhbx, .inl (k.2.2.2, 3, .inl ym6)), (ybx, .inl (k.2.1, 48, .inl ym7))]) (w1 := []) hP hD [13] [0, 1, 2, 3, 4, 5, 6, 7, 8, 9, 10, 11, 12, 14, 15, 16, 17, 18, 19, 20] rfl rfl (by decide) (by decide) hk1 hFc hP1 hD1
  generalize H1 = H at hP hS ⊢
  have hP : va_P D classes [(sl, .inl (k.2.1, 3, .inl g1)), (sp, .inr (6, P2)), (sl2, .inl (k.2.1, 3, .inl g2)), (tp, .inl (k.1, 1600, .inl g3)), (rd, .inr (7, Rd)), (tk, .inr (9, K)), (ln, .inr (3, N)), (fo, .inl (k.2.1, 3, .inl g4)), (ea, .inr (1, E)), (nw, .inl (k.2.1, 10, .inl f1)), (kp, .inl (k.2.1, 410, .inl f2)), (bx, .inl (k.2.1, 30, .inl f3)), (si, .inr (8, Z)), (ytp, .inl (k.2.1, 1600, .inl ym1)), (yns, .inl (k.2.1, 3, .inl ym2)), (yss, .inl (k.2.1, 3, .inl ym3)), (ynw, .inl (k.2.1, 16, .inl ym4)), (ywe, .inl (k.2.1, 640, .inl ym5)), (yhbx, .inl (k.2.2.2, 3, .inl ym6)), (ybx, .inl (k.2.1, 48, .inl ym7))] H := hP
  have hD : va_D A [(sl, .inl (k.2.1, 3, .inl g1)), (sp, .inr (6, P2)), (sl2, .inl (k.2.1, 3, .inl g2)), (tp, .inl (k.1, 1600, .inl g3)), (rd, .inr (7, Rd)), (tk, .inr (9, K)), (ln, .inr (3, N)), (fo, .inl (k.2.1, 3, .inl g4)), (ea, .inr (1, E)), (nw, .inl (k.2.1, 10, .inl f1)), (kp, .inl (k.2.1, 410, .inl f2)), (bx, .inl (k.2.1, 30, .inl f3)), (si, .inr (8, Z)), (ytp, .inl (k.2.1, 1600, .inl ym1)), (yns, .inl (k.2.1, 3, .inl ym2)), (yss, .inl (k.2.1, 3, .inl ym3)), (ynw, .inl (k.2.1, 16, .inl ym4)), (ywe, .inl (k.2.1, 640, .inl ym5)), (yhbx, .inl (k.2.2.2, 3, .inl ym6)), (ybx, .inl (k.2.1, 48, .inl ym7))] := hD
  refine W.widen (k := 119) (n := 46443) (Nat.le_of_ble_eq_true rfl) (Nat.le_of_ble_eq_true rfl) ?_
  have hw9 := hw.symm; subst hw9
  refine lv_icmp_eq (tgt := 1645) hx hb dL_law_1458 (by decide) (fun c_15 => ?_) (fun c_15 => ?_)
  · have c_15 : ((-1) : Int32) = (-1) := c_15
    exact law_tail rfl C0 hKX hA hA2 hbA hS (lv_sub hl [0, 1, 2, 3] rfl)
  · exact absurd rfl c_15
