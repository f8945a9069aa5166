set_option maxHeartbeats 4000000 in
set_option maxRecDepth 100000 in
theorem law_32 {p : Program} {l : Launch} {e : Env} {s : State} {m : MethodId} {below : List Frame} {meth : Method} {c : Code} {D : va_G} {k : ClassId × ClassId × ClassId × ClassId} {A : Nat → Prop} {b L : Nat} {xs : Nat → Int32} (hL : L = 6) (C0 : lw_At p s m meth c b L xs) (hKX : va_K D classes (TY k) s ∧ cX s) (hA : ∀ q : Nat, s.heap.size ≤ q → A q) (hA2 : ∀ q : Nat, A q → s.heap.size ≤ q) (hbA : ¬ A b) {x y : Nat} {H : Heap} {locs : List Loc} (hF : Fresh D k A x y H) (hS : va_S A s.heap H locs) {ls : Array Slot} (hl : lv_has ls 4 [(0, .ref b), (1, .ref x), (2, .ref y), (3, .int 0)]) : W p l e room_1 s m #[Value.ref b] below meth c H locs 119 46443 (lw_Z below #[Value.ref b] s) (F0 m 1463 ls []) := by
  obtain ⟨hx, hb, hr, hml, hown, hts, hX, hbl, hlocks, hgv⟩ := id C0
  have hown : s.vm.findClass RL = some m.cls := hown
  have hK := hKX.1
  have hgd : ∀ w ∈ gd, w ∈ lw_tbl := fun w h => (List.mem_filter.mp h).1
  have hg : ∀ w ∈ gd, w.before #[Value.ref b] s = true := fun w h => hts w (hgd w h)
  subst hL
  obtain ⟨F, pv, P, sl, g1, sp, P2, sl2, g2, tp, g3, rd, Rd, tk, K, ln, N, fo, g4, ea, E, nw, f1, kp, f2, bx, f3, si, Z, yM, ytp, ym1, yns, ym2, yss, ym3, ynw, ym4, ywe, ym5, yhbx, ym6, ybx, ym7, hf_0, hf_1, hf_2, hf_3, hf_4, hf_6, hf_7, hf_8, hf_10, hf_11, hf_14, hf_15, hf_18, hf_19, hf_21, hP, hD⟩ := hF
  have u_0_9 : F[9]? = some (.ref si) := hf_0.2.2.2.2.2.2.2.2
  have u_14_5 : Z[5]? = some (.int 0) := hf_14.1
  have u_15_85 : yM[85]? = some (.int 0) := hf_15.2.2.2.2.2.2.2.2.2.2.2.2.2.2.2.2.2.2.2.2.2.2.2.2.2.2.2.2.2.2.1
  have hin1 : vp_in 1 6 := (show ¬ ((1 : Int32) < 0 ∨ 6 ≤ (1 : Int32).toNatClampNeg) from by decide)
  have hin2 : vp_in 2 6 := (show ¬ ((2 : Int32) < 0 ∨ 6 ≤ (2 : Int32).toNatClampNeg) from by decide)
  have hin3 : vp_in 3 6 := (show ¬ ((3 : Int32) < 0 ∨ 6 ≤ (3 : Int32).toNatClampNeg) from by decide)
  have hin4 : vp_in 4 6 := (show ¬ ((4 : Int32) < 0 ∨ 6 ≤ (4 : Int32).toNatClampNeg) from by decide)
  have hin5 : vp_in 5 6 := (show ¬ ((5 : Int32) < 0 ∨ 6 ≤ (5 : Int32).toNatClampNeg) from by decide)
  obtain ⟨p0, hp0⟩ : ∃ z, z = xs 1 := ⟨_, rfl⟩
  obtain ⟨p1, hp1⟩ : ∃ z, z = xs 2 := ⟨_, rfl⟩
  obtain ⟨p2, hp2⟩ : ∃ z, z = xs 3 := ⟨_, rfl⟩
  obtain ⟨p3, hp3⟩ : ∃ z, z = xs 4 := ⟨_, rfl⟩
  obtain ⟨p4, hp4⟩ : ∃ z, z = xs 5 := ⟨_, rfl⟩
  refine lv_aload_n hx hb dL_law_1463 rfl (lv_at hl 1 rfl) ?_
  refine lv_aload_n hx hb dL_law_1464 rfl (lv_at hl 0 rfl) ?_
  refine lv_iload_n hx hb dL_law_1465 rfl (lv_at hl 3 rfl) ?_
  refine lv_iconst (v := 1) hx hb dL_law_1466 (by decide) ?_
  refine lv_iadd hx hb dL_law_1467 ?_
  refine lv_topi (fun y_1 ey_1 => ?_)
  obtain rfl : y_1 = 1 := ey_1.trans (by decide)
  refine va_sld hx hb hX hbl hbA hS hin1 dL_law_1468 ?_
  refine lv_topi (fun y_2 ey_2 => ?_)
  rw [show y_2 = p0 from ey_2.trans hp0.symm]
  have hPc := hP.sub (ws' := [(x, .inr (11, F)), (si, .inr (8, Z))]) [0, 14] rfl
  have hDc := hD.sub (ws' := [(x, .inr (11, F)), (si, .inr (8, Z))]) [0, 14] (by decide) rfl
  have hFc := va_free (wc := [(x, .inr (11, F)), (si, .inr (8, Z))]) hD hS hA [0, 14] rfl
  refine va_calli (va_runV (As := [.int p0]) (rest := []) ⟨hx, hb, hml, hown, hts⟩ (c_X11_untell l D k H.size x si F Z p0 u_0_9 u_14_5) (cwV 1 hts (gd_V hgd m1250 m1251 m1252 m117 m1253) rfl rfl rfl (by decide +kernel) ⟨Nat.le_of_ble_eq_true rfl, Nat.le_of_ble_eq_true rfl⟩) (cP_V hPc hKX hDc (ci := 11) (q0 := 0) rfl rfl) rfl rfl hl.1 rfl (lv_room (Nat.le_of_ble_eq_true rfl)) dL_law_1469 ⟨Nat.le_of_ble_eq_true rfl, Nat.le_of_ble_eq_true rfl⟩) hS (fun q _ h => hFc q h) hFc (fun r_3 u t H1 locs ht hvm hw hB hz1 hk1 hS => ?_)
  obtain ⟨hP1, hD1⟩ := hB
  rw [ht] at hP1
  obtain ⟨hP, hD⟩ := va_join (wr := [(pv, .inr (6, P)), (sl, .inl (k.2.1, 3, .inl g1)), (sp, .inr (6, P2)), (sl2, .inl (k.2.1, 3, .inl g2)), (tp, .inl (k.1, 1600, .inl g3)), (rd, .inr (7, Rd)), (tk, .inr (9, K)), (ln, .inr (3, N)), (fo, .inl (k.2.1, 3, .inl g4)), (ea, .inr (1, E)), (nw, .inl (k.2.1, 10, .inl f1)), (kp, .inl (k.2.1, 410, .inl f2)), (bx, .inl (k.2.1, 30, .inl f3)), (y, .inr (12, yM)), (ytp, .inl (k.2.1, 1600, .inl ym1)), (yns, .inl (k.2.1, 3, .inl ym2)), (yss, .inl (k.2.1, 3, .inl ym3)), (ynw, .inl (k.2.1, 16, .inl ym4)), (ywe, .inl (k.2.1, 640, .inl ym5)), (yhbx, .inl (k.2.2.2, 3, .inl ym6)), (ybx, .inl (k.2.1, 48, .inl ym7))]) (w1 := []) hP hD [0, 14] [1, 2, 3, 4, 5, 6, 7, 8, 9, 10, 11, 12, 13, 15, 16, 17, 18, 19, 20, 21, 22] rfl rfl (by decide) (by decide) hk1 hFc hP1 hD1
  generalize H1 = H at hP hS ⊢
  have hP : va_P D classes [(pv, .inr (6, P)), (sl, .inl (k.2.1, 3, .inl g1)), (sp, .inr (6, P2)), (sl2, .inl (k.2.1, 3, .inl g2)), (tp, .inl (k.1, 1600, .inl g3)), (rd, .inr (7, Rd)), (tk, .inr (9, K)), (ln, .inr (3, N)), (fo, .inl (k.2.1, 3, .inl g4)), (ea, .inr (1, E)), (nw, .inl (k.2.1, 10, .inl f1)), (kp, .inl (k.2.1, 410, .inl f2)), (bx, .inl (k.2.1, 30, .inl f3)), (y, .inr (12, yM)), (ytp, .inl (k.2.1, 1600, .inl ym1)), (yns, .inl (k.2.1, 3, .inl ym2)), (yss, .inl (k.2.1, 3, .inl ym3)), (ynw, .inl (k.2.1, 16, .inl ym4)), (ywe, .inl (k.2.1, 640, .inl ym5)), (yhbx, .inl (k.2.2.2, 3, .inl ym6)), (ybx, .inl (k.2.1, 48, .inl ym7))] H := hP
  have hD : va_D A [(pv, .inr (6, P)), (sl, .inl (k.2.1, 3, .inl g1)), (sp, .inr (6, P2)), (sl2, .inl (k.2.1, 3, .inl g2)), (tp, .inl (k.1, 1600, .inl g3)), (rd, .inr (7, Rd)), (tk, .inr (9, K)), (ln, .inr (3, N)), (fo, .inl (k.2.1, 3, .inl g4)), (ea, .inr (1, E)), (nw, .inl (k.2.1, 10, .inl f1)), (kp, .inl (k.2.1, 410, .inl f2)), (bx, .inl (k.2.1, 30, .inl f3)), (y, .inr (12, yM)), (ytp, .inl (k.2.1, 1600, .inl ym1)), (yns, .inl (k.2.1, 3, .inl ym2)), (yss, .inl (k.2.1, 3, .inl ym3)), (ynw, .inl (k.2.1, 16, .inl ym4)), (ywe, .inl (k.2.1, 640, .inl ym5)), (yhbx, .inl (k.2.2.2, 3, .inl ym6)), (ybx, .inl (k.2.1, 48, .inl ym7))] := hD
  refine W.widen (k := 119) (n := 46443) (Nat.le_of_ble_eq_true rfl) (Nat.le_of_ble_eq_true rfl) ?_
  have hw9 := hw.symm; subst hw9
  refine lv_aload_n hx hb dL_law_1472 rfl (lv_at hl 2 rfl) ?_
  refine lv_aload_n hx hb dL_law_1473 rfl (lv_at hl 0 rfl) ?_
  refine lv_iload_n hx hb dL_law_1474 rfl (lv_at hl 3 rfl) ?_
  refine lv_iconst (v := 1) hx hb dL_law_1475 (by decide) ?_
  refine lv_iadd hx hb dL_law_1476 ?_
  refine lv_topi (fun y_4 ey_4 => ?_)
  obtain rfl : y_4 = 1 := ey_4.trans (by decide)
  refine va_sld hx hb hX hbl hbA hS hin1 dL_law_1477 ?_
  refine lv_topi (fun y_5 ey_5 => ?_)
  rw [show y_5 = p0 from ey_5.trans hp0.symm]
  have hPc := hP.sub (ws' := [(y, .inr (12, yM))]) [13] rfl
  have hDc := hD.sub (ws' := [(y, .inr (12, yM))]) [13] (by decide) rfl
  have hFc := va_free (wc := [(y, .inr (12, yM))]) hD hS hA [13] rfl
  refine va_calli (va_runV (As := [.int p0]) (rest := [.int 0]) ⟨hx, hb, hml, hown, hts⟩ (c_X12_untell l D k H.size y yM p0 u_15_85) (cwV 1 hts (gd_V hgd m2043 m2044 m2045 m131 m2046) rfl rfl rfl (by decide +kernel) ⟨Nat.le_of_ble_eq_true rfl, Nat.le_of_ble_eq_true rfl⟩) (cP_V hPc hKX hDc (ci := 12) (q0 := 0) rfl rfl) rfl rfl hl.1 rfl (lv_room (Nat.le_of_ble_eq_true rfl)) dL_law_1478 ⟨Nat.le_of_ble_eq_true rfl, Nat.le_of_ble_eq_true rfl⟩) hS (fun q _ h => hFc q h) hFc (fun r_6 u t H1 locs ht hvm hw hB hz1 hk1 hS => ?_)
  obtain ⟨hP1, hD1⟩ := hB
  rw [ht] at hP1
  obtain ⟨hP, hD⟩ := va_join (wr := [(pv, .inr (6, P)), (sl, .inl (k.2.1, 3, .inl g1)), (sp, .inr (6, P2)), (sl2, .inl (k.2.1, 3, .inl g2)), (tp, .inl (k.1, 1600, .inl g3)), (rd, .inr (7, Rd)), (tk, .inr (9, K)), (ln, .inr (3, N)), (fo, .inl (k.2.1, 3, .inl g4)), (ea, .inr (1, E)), (nw, .inl (k.2.1, 10, .inl f1)), (kp, .inl (k.2.1, 410, .inl f2)), (bx, .inl (k.2.1, 30, .inl f3)), (ytp, .inl (k.2.1, 1600, .inl ym1)), (yns, .inl (k.2.1, 3, .inl ym2)), (yss, .inl (k.2.1, 3, .inl ym3)), (ynw, .inl (k.2.1, 16, .inl ym4)), (ywe, .inl (k.2.1, 640, .inl ym5)), (yhbx, .inl (k.2.2.2, 3, .inl ym6)), (ybx, .inl (k.2.1, 48, .inl ym7))]) (w1 := []) hP hD [13] [0, 1, 2, 3, 4, 5, 6, 7, 8, 9, 10, 11, 12, 14, 15, 16, 17, 18, 19, 20] rfl rfl (by decide) (by decide) hk1 hFc hP1 hD1
  generalize H1 = H at hP hS ⊢
  have hP : va_P D classes [(pv, .inr (6, P)), (sl, .inl (k.2.1, 3, .inl g1)), (sp, .inr (6, P2)), (sl2, .inl (k.2.1, 3, .inl g2)), (tp, .inl (k.1, 1600, .inl g3)), (rd, .inr (7, Rd)), (tk, .inr (9, K)), (ln, .inr (3, N)), (fo, .inl (k.2.1, 3, .inl g4)), (ea, .inr (1, E)), (nw, .inl (k.2.1, 10, .inl f1)), (kp, .inl (k.2.1, 410, .inl f2)), (bx, .inl (k.2.1, 30, .inl f3)), (ytp, .inl (k.2.1, 1600, .inl ym1)), (yns, .inl (k.2.1, 3, .inl ym2)), (yss, .inl (k.2.1, 3, .inl ym3)), (ynw, .inl (k.2.1, 16, .inl ym4)), (ywe, .inl (k.2.1, 640, .inl ym5)), (yhbx, .inl (k.2.2.2, 3, .inl ym6)), (ybx, .inl (k.2.1, 48, .inl ym7))] H := hP
  have hD : va_D A [(pv, .inr (6, P)), (sl, .inl (k.2.1, 3, .inl g1)), (sp, .inr (6, P2)), (sl2, .inl (k.2.1, 3, .inl g2)), (tp, .inl (k.1, 1600, .inl g3)), (rd, .inr (7, Rd)), (tk, .inr (9, K)), (ln, .inr (3, N)), (fo, .inl (k.2.1, 3, .inl g4)), (ea, .inr (1, E)), (nw, .inl (k.2.1, 10, .inl f1)), (kp, .inl (k.2.1, 410, .inl f2)), (bx, .inl (k.2.1, 30, .inl f3)), (ytp, .inl (k.2.1, 1600, .inl ym1)), (yns, .inl (k.2.1, 3, .inl ym2)), (yss, .inl (k.2.1, 3, .inl ym3)), (ynw, .inl (k.2.1, 16, .inl ym4)), (ywe, .inl (k.2.1, 640, .inl ym5)), (yhbx, .inl (k.2.2.2, 3, .inl ym6)), (ybx, .inl (k.2.1, 48, .inl ym7))] := hD
  refine W.widen (k := 119) (n := 46443) (Nat.le_of_ble_eq_true rfl) (Nat.le_of_ble_eq_true rfl) ?_
  have hw9 := hw.symm; subst hw9
  refine lv_icmp_eq (tgt := 1645) hx hb dL_law_1481 (by decide) (fun c_7 => ?_) (fun c_7 => ?_)
  · have c_7 : (0 : Int32) = 0 := c_7
    exact law_tail rfl C0 hKX hA hA2 hbA hS (lv_sub hl [0, 1, 2, 3] rfl)
  · exact absurd rfl c_7

set_option maxHeartbeats 4000000 in
set_option maxRecDepth 100000 in
theorem law_33 {p : Program} {l : Launch} {e : Env} {s : State} {m : MethodId} {below : List Frame} {meth : Method} {c : Code} {D : va_G} {k : ClassId × ClassId × ClassId × ClassId} {A : Nat → Prop} {b L : Nat} {xs : Nat → Int32} (hL : L = 6) (C0 : lw_At p s m meth c b L xs) (hKX : va_K D classes (TY k) s ∧ cX s) (hA : ∀ q : Nat, s.heap.size ≤ q → A q) (hA2 : ∀ q : Nat, A q → s.heap.size ≤ q) (hbA : ¬ A b) {x y : Nat} {H : Heap} {locs : List Loc} (hF : Fresh D k A x y H) (hS : va_S A s.heap H locs) {ls : Array Slot} (hl : lv_has ls 4 [(0, .ref b), (1, .ref x), (2, .ref y), (3, .int 0)]) : W p l e room_1 s m #[Value.ref b] below meth c H locs 119 46443 (lw_Z below #[Value.ref b] s) (F0 m 1486 ls []) := by
  obtain ⟨hx, hb, hr, hml, hown, hts, hX, hbl, hlocks, hgv⟩ := id C0
  have hown : s.vm.findClass RL = some m.cls := hown
  have hK := hKX.1
  have hgd : ∀ w ∈ gd, w ∈ lw_tbl := fun w h => (List.mem_filter.mp h).1
  have hg : ∀ w ∈ gd, w.before #[Value.ref b] s = true := fun w h => hts w (hgd w h)
  subst hL
  obtain ⟨F, pv, P, sl, g1, sp, P2, sl2, g2, tp, g3, rd, Rd, tk, K, ln, N, fo, g4, ea, E, nw, f1, kp, f2, bx, f3, si, Z, yM, ytp, ym1, yns, ym2, yss, ym3, ynw, ym4, ywe, ym5, yhbx, ym6, ybx, ym7, hf_0, hf_1, hf_2, hf_3, hf_4, hf_6, hf_7, hf_8, hf_10, hf_11, hf_14, hf_15, hf_18, hf_19, hf_21, hP, hD⟩ := hF
  have u_0_9 : F[9]? = some (.ref si) := hf_0.2.2.2.2.2.2.2.2
  have u_14_6 : Z[6]? = some (.int 0) := hf_14.2
  have u_15_86 : yM[86]? = some (.int 0) := hf_15.2.2.2.2.2.2.2.2.2.2.2.2.2.2.2.2.2.2.2.2.2.2.2.2.2.2.2.2.2.2.2.1
  have hin1 : vp_in 1 6 := (show ¬ ((1 : Int32) < 0 ∨ 6 ≤ (1 : Int32).toNatClampNeg) from by decide)
  have hin2 : vp_in 2 6 := (show ¬ ((2 : Int32) < 0 ∨ 6 ≤ (2 : Int32).toNatClampNeg) from by decide)
  have hin3 : vp_in 3 6 := (show ¬ ((3 : Int32) < 0 ∨ 6 ≤ (3 : Int32).toNatClampNeg) from by decide)
  have hin4 : vp_in 4 6 := (show ¬ ((4 : Int32) < 0 ∨ 6 ≤ (4 : Int32).toNatClampNeg) from by decide)
  have hin5 : vp_in 5 6 := (show ¬ ((5 : Int32) < 0 ∨ 6 ≤ (5 : Int32).toNatClampNeg) from by decide)
  obtain ⟨p0, hp0⟩ : ∃ z, z = xs 1 := ⟨_, rfl⟩
  obtain ⟨p1, hp1⟩ : ∃ z, z = xs 2 := ⟨_, rfl⟩
  obtain ⟨p2, hp2⟩ : ∃ z, z = xs 3 := ⟨_, rfl⟩
  obtain ⟨p3, hp3⟩ : ∃ z, z = xs 4 := ⟨_, rfl⟩
  obtain ⟨p4, hp4⟩ : ∃ z, z = xs 5 := ⟨_, rfl⟩
  by_cases h_lt0 : p0 < 0
  · skip
    refine lv_aload_n hx hb dL_law_1486 rfl (lv_at hl 1 rfl) ?_
    refine lv_aload_n hx hb dL_law_1487 rfl (lv_at hl 0 rfl) ?_
    refine lv_iload_n hx hb dL_law_1488 rfl (lv_at hl 3 rfl) ?_
    refine lv_iconst (v := 1) hx hb dL_law_1489 (by decide) ?_
    refine lv_iadd hx hb dL_law_1490 ?_
    refine lv_topi (fun y_1 ey_1 => ?_)
    obtain rfl : y_1 = 1 := ey_1.trans (by decide)
    refine va_sld hx hb hX hbl hbA hS hin1 dL_law_1491 ?_
    refine lv_topi (fun y_2 ey_2 => ?_)
    rw [show y_2 = p0 from ey_2.trans hp0.symm]
    have hPc := hP.sub (ws' := [(x, .inr (11, F)), (si, .inr (8, Z))]) [0, 14] rfl
    have hDc := hD.sub (ws' := [(x, .inr (11, F)), (si, .inr (8, Z))]) [0, 14] (by decide) rfl
    have hFc := va_free (wc := [(x, .inr (11, F)), (si, .inr (8, Z))]) hD hS hA [0, 14] rfl
    refine va_calli (va_runV (As := [.int p0]) (rest := []) ⟨hx, hb, hml, hown, hts⟩ (c_X11_later_a l D k H.size x si F Z p0 u_0_9 u_14_6 h_lt0) (cwV 1 hts (gd_V hgd m1258 m1259 m1260 m117 m1261) rfl rfl rfl (by decide +kernel) ⟨Nat.le_of_ble_eq_true rfl, Nat.le_of_ble_eq_true rfl⟩) (cP_V hPc hKX hDc (ci := 11) (q0 := 0) rfl rfl) rfl rfl hl.1 rfl (lv_room (Nat.le_of_ble_eq_true rfl)) dL_law_1492 ⟨Nat.le_of_ble_eq_true rfl, Nat.le_of_ble_eq_true rfl⟩) hS (fun q _ h => hFc q h) hFc (fun r_3 u t H1 locs ht hvm hw hB hz1 hk1 hS => ?_)
    obtain ⟨hP1, hD1⟩ := hB
    rw [ht] at hP1
    obtain ⟨hP, hD⟩ := va_join (wr := [(pv, .inr (6, P)), (sl, .inl (k.2.1, 3, .inl g1)), (sp, .inr (6, P2)), (sl2, .inl (k.2.1, 3, .inl g2)), (tp, .inl (k.1, 1600, .inl g3)), (rd, .inr (7, Rd)), (tk, .inr (9, K)), (ln, .inr (3, N)), (fo, .inl (k.2.1, 3, .inl g4)), (ea, .inr (1, E)), (nw, .inl (k.2.1, 10, .inl f1)), (kp, .inl (k.2.1, 410, .inl f2)), (bx, .inl (k.2.1, 30, .inl f3)), (y, .inr (12, yM)), (ytp, .inl (k.2.1, 1600, .inl ym1)), (yns, .inl (k.2.1, 3, .inl ym2)), (yss, .inl (k.2.1, 3, .inl ym3)), (ynw, .inl (k.2.1, 16, .inl ym4)), (ywe, .inl (k.2.1, 640, .inl ym5)), (yhbx, .inl (k.2.2.2, 3, .inl ym6)), (ybx, .inl (k.2.1, 48, .inl ym7))]) (w1 := []) hP hD [0, 14] [1, 2, 3, 4, 5, 6, 7, 8, 9, 10, 11, 12, 13, 15, 16, 17, 18, 19, 20, 21, 22] rfl rfl (by decide) (by decide) hk1 hFc hP1 hD1
    generalize H1 = H at hP hS ⊢
    have hP : va_P D classes [(pv, .inr (6, P)), (sl, .inl (k.2.1, 3, .inl g1)), (sp, .inr (6, P2)), (sl2, .inl (k.2.1, 3, .inl g2)), (tp, .inl (k.1, 1600, .inl g3)), (rd, .inr (7, Rd)), (tk, .inr (9, K)), (ln, .inr (3, N)), (fo, .inl (k.2.1, 3, .inl g4)), (ea, .inr (1, E)), (nw, .inl (k.2.1, 10, .inl f1)), (kp, .inl (k.2.1, 410, .inl f2)), (bx, .inl (k.2.1, 30, .inl f3)), (y, .inr (12, yM)), (ytp, .inl (k.2.1, 1600, .inl ym1)), (yns, .inl (k.2.1, 3, .inl ym2)), (yss, .inl (k.2.1, 3, .inl ym3)), (ynw, .inl (k.2.1, 16, .inl ym4)), (ywe, .inl (k.2.1, 640, .inl ym5)), (yhbx, .inl (k.2.2.2, 3, .inl ym6)), (ybx, .inl (k.2.1, 48, .inl ym7))] H := hP
    have hD : va_D A [(pv, .inr (6, P)), (sl, .inl (k.2.1, 3, .inl g1)), (sp, .inr (6, P2)), (sl2, .inl (k.2.1, 3, .inl g2)), (tp, .inl (k.1, 1600, .inl g3)), (rd, .inr (7, Rd)), (tk, .inr (9, K)), (ln, .inr (3, N)), (fo, .inl (k.2.1, 3, .inl g4)), (ea, .inr (1, E)), (nw, .inl (k.2.1, 10, .inl f1)), (kp, .inl (k.2.1, 410, .inl f2)), (bx, .inl (k.2.1, 30, .inl f3)), (y, .inr (12, yM)), (ytp, .inl (k.2.1, 1600, .inl ym1)), (yns, .inl (k.2.1, 3, .inl ym2)), (yss, .inl (k.2.1, 3, .inl ym3)), (ynw, .inl (k.2.1, 16, .inl ym4)), (ywe, .inl (k.2.1, 640, .inl ym5)), (yhbx, .inl (k.2.2.2, 3, .inl ym6)), (ybx, .inl (k.2.1, 48, .inl ym7))] := hD
    refine W.widen (k := 119) (n := 46443) (Nat.le_of_ble_eq_true rfl) (Nat.le_of_ble_eq_true rfl) ?_
    have hw9 := hw.symm; subst hw9
    refine lv_aload_n hx hb dL_law_1495 rfl (lv_at hl 2 rfl) ?_
    refine lv_aload_n hx hb dL_law_1496 rfl (lv_at hl 0 rfl) ?_
    refine lv_iload_n hx hb dL_law_1497 rfl (lv_at hl 3 rfl) ?_
    refine lv_iconst (v := 1) hx hb dL_law_1498 (by decide) ?_
    refine lv_iadd hx hb dL_law_1499 ?_
    refine lv_topi (fun y_4 ey_4 => ?_)
    obtain rfl : y_4 = 1 := ey_4.trans (by decide)
    refine va_sld hx hb hX hbl hbA hS hin1 dL_law_1500 ?_
    refine lv_topi (fun y_5 ey_5 => ?_)
    rw [show y_5 = p0 from ey_5.trans hp0.symm]
    have hPc := hP.sub (ws' := [(y, .inr (12, yM))]) [13] rfl
    have hDc := hD.sub (ws' := [(y, .inr (12, yM))]) [13] (by decide) rfl
    have hFc := va_free (wc := [(y, .inr (12, yM))]) hD hS hA [13] rfl
    refine va_calli (va_runV (As := [.int p0]) (rest := [.int (-1)]) ⟨hx, hb, hml, hown, hts⟩ (c_X12_later_a l D k H.size y yM p0 u_15_86 h_lt0) (cwV 1 hts (gd_V hgd m2047 m2048 m2049 m131 m2050) rfl rfl rfl (by decide +kernel) ⟨Nat.le_of_ble_eq_true rfl, Nat.le_of_ble_eq_true rfl⟩) (cP_V hPc hKX hDc (ci := 12) (q0 := 0) rfl rfl) rfl rfl hl.1 rfl (lv_room (Nat.le_of_ble_eq_true rfl)) dL_law_1501 ⟨Nat.le_of_ble_eq_true rfl, Nat.le_of_ble_eq_true rfl⟩) hS (fun q _ h => hFc q h) hFc (fun r_6 u t H1 locs ht hvm hw hB hz1 hk1 hS => ?_)
    obtain ⟨hP1, hD1⟩ := hB
    rw [ht] at hP1
    obtain ⟨hP, hD⟩ := va_join (wr := [(pv, .inr (6, P)), (sl, .inl (k.2.1, 3, .inl g1)), (sp, .inr (6, P2)), (sl2, .inl (k.2.1, 3, .inl g2)), (tp, .inl (k.1, 1600, .inl g3)), (rd, .inr (7, Rd)), (tk, .inr (9, K)), (ln, .inr (3, N)), (fo, .inl (k.2.1, 3, .inl g4)), (ea, .inr (1, E)), (nw, .inl (k.2.1, 10, .inl f1)), (kp, .inl (k.2.1, 410, .inl f2)), (bx, .inl (k.2.1, 30, .inl f3)), (ytp, .inl (k.2.1, 1600, .inl ym1)), (yns, .inl (k.2.1, 3, .inl ym2)), (yss, .inl (k.2.1, 3, .inl ym3)), (ynw, .inl (k.2.1, 16, .inl ym4)), (ywe, .inl (k.2.1, 640, .inl ym5)), (yhbx, .inl (k.2.2.2, 3, .inl ym6)), (ybx, .inl (k.2.1, 48, .inl ym7))]) (w1 := []) hP hD [13] [0, 1, 2, 3, 4, 5, 6, 7, 8, 9, 10, 11, 12, 14, 15, 16, 17, 18, 19, 20] rfl rfl (by decide) (by decide) hk1 hFc hP1 hD1
    generalize H1 = H at hP hS ⊢
    have hP : va_P D classes [(pv, .inr (6, P)), (sl, .inl (k.2.1, 3, .inl g1)), (sp, .inr (6, P2)), (sl2, .inl (k.2.1, 3, .inl g2)), (tp, .inl (k.1, 1600, .inl g3)), (rd, .inr (7, Rd)), (tk, .inr (9, K)), (ln, .inr (3, N)), (fo, .inl (k.2.1, 3, .inl g4)), (ea, .inr (1, E)), (nw, .inl (k.2.1, 10, .inl f1)), (kp, .inl (k.2.1, 410, .inl f2)), (bx, .inl (k.2.1, 30, .inl f3)), (ytp, .inl (k.2.1, 1600, .inl ym1)), (yns, .inl (k.2.1, 3, .inl ym2)), (yss, .inl (k.2.1, 3, .inl ym3)), (ynw, .inl (k.2.1, 16, .inl ym4)), (ywe, .inl (k.2.1, 640, .inl ym5)), (yhbx, .inl (k.2.2.2, 3, .inl ym6)), (ybx, .inl (k.2.1, 48, .inl ym7))] H := hP
    have hD : va_D A [(pv, .inr (6, P)), (sl, .inl (k.2.1, 3, .inl g1)), (sp, .inr (6, P2)), (sl2, .inl (k.2.1, 3, .inl g2)), (tp, .inl (k.1, 1600, .inl g3)), (rd, .inr (7, Rd)), (tk, .inr (9, K)), (ln, .inr (3, N)), (fo, .inl (k.2.1, 3, .inl g4)), (ea, .inr (1, E)), (nw, .inl (k.2.1, 10, .inl f1)), (kp, .inl (k.2.1, 410, .inl f2)), (bx, .inl (k.2.1, 30, .inl f3)), (ytp, .inl (k.2.1, 1600, .inl ym1)), (yns, .inl (k.2.1, 3, .inl ym2)), (yss, .inl (k.2.1, 3, .inl ym3)), (ynw, .inl (k.2.1, 16, .inl ym4)), (ywe, .inl (k.2.1, 640, .inl ym5)), (yhbx, .inl (k.2.2.2, 3, .inl ym6)), (ybx, .inl (k.2.1, 48, .inl ym7))] := hD
    refine W.widen (k := 119) (n := 46443) (Nat.le_of_ble_eq_true rfl) (Nat.le_of_ble_eq_true rfl) ?_
    have hw9 := hw.symm; subst hw9
    refine lv_icmp_eq (tgt := 1645) hx hb dL_law_1504 (by decide) (fun c_7 => ?_) (fun c_7 => ?_)
    · have c_7 : ((-1) : Int32) = (-1) := c_7
      exact law_tail rfl C0 hKX hA hA2 hbA hS (lv_sub hl [0, 1, 2, 3] rfl)
    · exact absurd rfl c_7
  have h_nlt0 : ¬ (p0 < 0) := h_lt0
  by_cases h_gt1000 : 1000 < p0
  · skip
    refine lv_aload_n hx hb dL_law_1486 rfl (lv_at hl 1 rfl) ?_
    refine lv_aload_n hx hb dL_law_1487 rfl (lv_at hl 0 rfl) ?_
    refine lv_iload_n hx hb dL_law_1488 rfl (lv_at hl 3 rfl) ?_
    refine lv_iconst (v := 1) hx hb dL_law_1489 (by decide) ?_
    refine lv_iadd hx hb dL_law_1490 ?_
    refine lv_topi (fun y_8 ey_8 => ?_)
    obtain rfl : y_8 = 1 := ey_8.trans (by decide)
    refine va_sld hx hb hX hbl hbA hS hin1 dL_law_1491 ?_
    refine lv_topi (fun y_9 ey_9 => ?_)
    rw [show y_9 = p0 from ey_9.trans hp0.symm]
    have hPc := hP.sub (ws' := [(x, .inr (11, F)), (si, .inr (8, Z))]) [0, 14] rfl
    have hDc := hD.sub (ws' := [(x, .inr (11, F)), (si, .inr (8, Z))]) [0, 14] (by decide) rfl
    have hFc := va_free (wc := [(x, .inr (11, F)), (si, .inr (8, Z))]) hD hS hA [0, 14] rfl
    refine va_calli (va_runV (As := [.int p0]) (rest := []) ⟨hx, hb, hml, hown, hts⟩ (c_X11_later_b l D k H.size x si F Z p0 u_0_9 u_14_6 h_nlt0 h_gt1000) (cwV 1 hts (gd_V hgd m1258 m1259 m1260 m117 m1261) rfl rfl rfl (by decide +kernel) ⟨Nat.le_of_ble_eq_true rfl, Nat.le_of_ble_eq_true rfl⟩) (cP_V hPc hKX hDc (ci := 11) (q0 := 0) rfl rfl) rfl rfl hl.1 rfl (lv_room (Nat.le_of_ble_eq_true rfl)) dL_law_1492 ⟨Nat.le_of_ble_eq_true rfl, Nat.le_of_ble_eq_true rfl⟩) hS (fun q _ h => hFc q h) hFc (fun r_10 u t H1 locs ht hvm hw hB hz1 hk1 hS => ?_)
    obtain ⟨hP1, hD1⟩ := hB
    rw [ht] at hP1
    obtain ⟨hP, hD⟩ := va_join (wr := [(pv, .inr (6, P)), (sl, .inl (k.2.1, 3, .inl g1)), (sp, .inr (6, P2)), (sl2, .inl (k.2.1, 3, .inl g2)), (tp, .inl (k.1, 1600, .inl g3)), (rd, .inr (7, Rd)), (tk, .inr (9, K)), (ln, .inr (3, N)), (fo, .inl (k.2.1, 3, .inl g4)), (ea, .inr (1, E)), (nw, .inl (k.2.1, 10, .inl f1)), (kp, .inl (k.2.1, 410, .inl f2)), (bx, .inl (k.2.1, 30, .inl f3)), (y, .inr (12, yM)), (ytp, .inl (k.2.1, 1600, .inl ym1)), (yns, .inl (k.2.1, 3, .inl ym2)), (yss, .inl (k.2.1, 3, .inl ym3)), (ynw, .inl (k.2.1, 16, .inl ym4)), (ywe, .inl (k.2.1, 640, .inl ym5)), (yhbx, .inl (k.2.2.2, 3, .inl ym6)), (ybx, .inl (k.2.1, 48, .inl ym7))]) (w1 := []) hP hD [0, 14] [1, 2, 3, 4, 5, 6, 7, 8, 9, 10, 11, 12, 13, 15, 16, 17, 18, 19, 20, 21, 22] rfl rfl (by decide) (by decide) hk1 hFc hP1 hD1
    generalize H1 = H at hP hS ⊢
    have hP : va_P D classes [(pv, .inr (6, P)), (sl, .inl (k.2.1, 3, .inl g1)), (sp, .inr (6, P2)), (sl2, .inl (k.2.1, 3, .inl g2)), (tp, .inl (k.1, 1600, .inl g3)), (rd, .inr (7, Rd)), (tk, .inr (9, K)), (ln, .inr (3, N)), (fo, .inl (k.2.1, 3, .inl g4)), (ea, .inr (1, E)), (nw, .inl (k.2.1, 10, .inl f1)), (kp, .inl (k.2.1, 410, .inl f2)), (bx, .inl (k.2.1, 30, .inl f3)), (y, .inr (12, yM)), (ytp, .inl (k.2.1, 1600, .inl ym1)), (yns, .inl (k.2.1, 3, .inl ym2)), (yss, .inl (k.2.1, 3, .inl ym3)), (ynw, .inl (k.2.1, 16, .inl ym4)), (ywe, .inl (k.2.1, 640, .inl ym5)), (yhbx, .inl (k.2.2.2, 3, .inl ym6)), (ybx, .inl (k.2.1, 48, .inl ym7))] H := hP
    have hD : va_D A [(pv, .inr (6, P)), (sl, .inl (k.2.1, 3, .inl g1)), (sp, .inr (6, P2)), (sl2, .inl (k.2.1, 3, .inl g2)), (tp, .inl (k.1, 1600, .inl g3)), (rd, .inr (7, Rd)), (tk, .inr (9, K)), (ln, .inr (3, N)), (fo, .inl (k.2.1, 3, .inl g4)), (ea, .inr (1, E)), (nw, .inl (k.2.1, 10, .inl f1)), (kp, .inl (k.2.1, 410, .inl f2)), (bx, .inl (k.2.1, 30, .inl f3)), (y, .inr (12, yM)), (ytp, .inl (k.2.1, 1600, .inl ym1)), (yns, .inl (k.2.1, 3, .inl ym2)), (yss, .inl (k.2.1, 3, .inl ym3)), (ynw, .inl (k.2.1, 16, .inl ym4)), (ywe, .inl (k.2.1, 640, .inl ym5)), (yhbx, .inl (k.2.2.2, 3, .inl ym6)), (ybx, .inl (k.2.1, 48, .inl ym7))] := hD
    refine W.widen (k := 119) (n := 46443) (Nat.le_of_ble_eq_true rfl) (Nat.le_of_ble_eq_true rfl) ?_
    have hw9 := hw.symm; subst hw9
    refine lv_aload_n hx hb dL_law_1495 rfl (lv_at hl 2 rfl) ?_
    refine lv_aload_n hx hb dL_law_1496 rfl (lv_at hl 0 rfl) ?_
    refine lv_iload_n hx hb dL_law_1497 rfl (lv_at hl 3 rfl) ?_
    refine lv_iconst (v := 1) hx hb dL_law_1498 (by decide) ?_
    refine lv_iadd hx hb dL_law_1499 ?_
    refine lv_topi (fun y_11 ey_11 => ?_)
    obtain rfl : y_11 = 1 := ey_11.trans (by decide)
    refine va_sld hx hb hX hbl hbA hS hin1 dL_law_1500 ?_
    refine lv_topi (fun y_12 ey_12 => ?_)
    rw [show y_12 = p0 from ey_12.trans hp0.symm]
    have hPc := hP.sub (ws' := [(y, .inr (12, yM))]) [13] rfl
    have hDc := hD.sub (ws' := [(y, .inr (12, yM))]) [13] (by decide) rfl
    have hFc := va_free (wc := [(y, .inr (12, yM))]) hD hS hA [13] rfl
    refine va_calli (va_runV (As := [.int p0]) (rest := [.int (-1)]) ⟨hx, hb, hml, hown, hts⟩ (c_X12_later_b l D k H.size y yM p0 u_15_86 h_nlt0 h_gt1000) (cwV 1 hts (gd_V hgd m2047 m2048 m2049 m131 m2050) rfl rfl rfl (by decide +kernel) ⟨Nat.le_of_ble_eq_true rfl, Nat.le_of_ble_eq_true rfl⟩) (cP_V hPc hKX hDc (ci := 12) (q0 := 0) rfl rfl) rfl rfl hl.1 rfl (lv_room (Nat.le_of_ble_eq_true rfl)) dL_law_1501 ⟨Nat.le_of_ble_eq_true rfl, Nat.le_of_ble_eq_true rfl⟩) hS (fun q _ h => hFc q h) hFc (fun r_13 u t H1 locs ht hvm hw hB hz1 hk1 hS => ?_)
    obtain ⟨hP1, hD1⟩ := hB
    rw [ht] at hP1
    obtain ⟨hP, hD⟩ := va_join (wr := [(pv, .inr (6, P)), (sl, .inl (k.2.1, 3, .inl g1)), (sp, .inr (6, P2)), (sl2, .inl (k.2.1, 3, .inl g2)), (tp, .inl (k.1, 1600, .inl g3)), (rd, .inr (7, Rd)), (tk, .inr (9, K)), (ln, .inr (3, N)), (fo, .inl (k.2.1, 3, .inl g4)), (ea, .inr (1, E)), (nw, .inl (k.2.1, 10, .inl f1)), (kp, .inl (k.2.1, 410, .inl f2)), (bx, .inl (k.2.1, 30, .inl f3)), (ytp, .inl (k.2.1, 1600, .inl ym1)), (yns, .inl (k.2.1, 3, .inl ym2)), (yss, .inl (k.2.1, 3, .inl ym3)), (ynw, .inl (k.2.1, 16, .inl ym4)), (ywe, .inl (k.2.1, 640, .inl ym5)), (yhbx, .inl (k.2.2.2, 3, .inl ym6)), (ybx, .inl (k.2.1, 48, .inl ym7))]) (w1 := []) hP hD [13] [0, 1, 2, 3, 4, 5, 6, 7, 8, 9, 10, 11, 12, 14, 15, 16, 17, 18, 19, 20] rfl rfl (by decide) (by decide) hk1 hFc hP1 hD1
    generalize H1 = H at hP hS ⊢
    have hP : va_P D classes [(pv, .inr (6, P)), (sl, .inl (k.2.1, 3, .inl g1)), (sp, .inr (6, P2)), (sl2, .inl (k.2.1, 3, .inl g2)), (tp, .inl (k.1, 1600, .inl g3)), (rd, .inr (7, Rd)), (tk, .inr (9, K)), (ln, .inr (3, N)), (fo, .inl (k.2.1, 3, .inl g4)), (ea, .inr (1, E)), (nw, .inl (k.2.1, 10, .inl f1)), (kp, .inl (k.2.1, 410, .inl f2)), (bx, .inl (k.2.1, 30, .inl f3)), (ytp, .inl (k.2.1, 1600, .inl ym1)), (yns, .inl (k.2.1, 3, .inl ym2)), (yss, .inl (k.2.1, 3, .inl ym3)), (ynw, .inl (k.2.1, 16, .inl ym4)), (ywe, .inl (k.2.1, 640, .inl ym5)), (yhbx, .inl (k.2.2.2, 3, .inl ym6)), (ybx, .inl (k.2.1, 48, .inl ym7))] H := hP
    have hD : va_D A [(pv, .inr (6, P)), (sl, .inl (k.2.1, 3, .inl g1)), (sp, .inr (6, P2)), (sl2, .inl (k.2.1, 3, .inl g2)), (tp, .inl (k.1, 1600, .inl g3)), (rd, .inr (7, Rd)), (tk, .inr (9, K)), (ln, .inr (3, N)), (fo, .inl (k.2.1, 3, .inl g4)), (ea, .inr (1, E)), (nw, .inl (k.2.1, 10, .inl f1)), (kp, .inl (k.2.1, 410, .inl f2)), (bx, .inl (k.2.1, 30, .inl f3)), (ytp, .inl (k.2.1, 1600, .inl ym1)), (yns, .inl (k.2.1, 3, .inl ym2)), (yss, .inl (k.2.1, 3, .inl ym3)), (ynw, .inl (k.2.1, 16, .inl ym4)), (ywe, .inl (k.2.1, 640, .inl ym5)), (yhbx, .inl (k.2.2.2, 3, .inl ym6)), (ybx, .inl (k.2.1, 48, .inl ym7))] := hD
    refine W.widen (k := 119) (n := 46443) (Nat.le_of_ble_eq_true rfl) (Nat.le_of_ble_eq_true rfl) ?_
    have hw9 := hw.symm; subst hw9
    refine lv_icmp_eq (tgt := 1645) hx hb dL_law_1504 (by decide) (fun c_14 => ?_) (fun c_14 => ?_)
    · have c_14 : ((-1) : Int32) = (-1) := c_14
      exact law_tail rfl C0 hKX hA hA2 hbA hS (lv_sub hl [0, 1, 2, 3] rfl)
    · exact absurd rfl c_14
  have h_ngt1000 : ¬ (1000 < p0) := h_gt1000
  have h_nbig : ¬ (100000 < (0 : Int32) + p0) := later_big h_nlt0 h_ngt1000
  refine lv_aload_n hx hb dL_law_1486 rfl (lv_at hl 1 rfl) ?_
  refine lv_aload_n hx hb dL_law_1487 rfl (lv_at hl 0 rfl) ?_
  refine lv_iload_n hx hb dL_law_1488 rfl (lv_at hl 3 rfl) ?_
  refine lv_iconst (v := 1) hx hb dL_law_1489 (by decide) ?_
  refine lv_iadd hx hb dL_law_1490 ?_
  refine lv_topi (fun y_15 ey_15 => ?_)
  obtain rfl : y_15 = 1 := ey_15.trans (by decide)
  refine va_sld hx hb hX hbl hbA hS hin1 dL_law_1491 ?_
  refine lv_topi (fun y_16 ey_16 => ?_)
  rw [show y_16 = p0 from ey_16.trans hp0.symm]
  have hPc := hP.sub (ws' := [(x, .inr (11, F)), (si, .inr (8, Z))]) [0, 14] rfl
  have hDc := hD.sub (ws' := [(x, .inr (11, F)), (si, .inr (8, Z))]) [0, 14] (by decide) rfl
  have hFc := va_free (wc := [(x, .inr (11, F)), (si, .inr (8, Z))]) hD hS hA [0, 14] rfl
  refine va_calli (va_runV (As := [.int p0]) (rest := []) ⟨hx, hb, hml, hown, hts⟩ (c_X11_later_c l D k H.size x si F Z p0 u_0_9 u_14_6 h_nlt0 h_ngt1000 h_nbig) (cwV 1 hts (gd_V hgd m1258 m1259 m1260 m117 m1261) rfl rfl rfl (by decide +kernel) ⟨Nat.le_of_ble_eq_true rfl, Nat.le_of_ble_eq_true rfl⟩) (cP_V hPc hKX hDc (ci := 11) (q0 := 0) rfl rfl) rfl rfl hl.1 rfl (lv_room (Nat.le_of_ble_eq_true rfl)) dL_law_1492 ⟨Nat.le_of_ble_eq_true rfl, Nat.le_of_ble_eq_true rfl⟩) hS (fun q _ h => hFc q h) hFc (fun r_17 u t H1 locs ht hvm hw hB hz1 hk1 hS => ?_)
  obtain ⟨hP1, hD1⟩ := hB
  rw [ht] at hP1
  obtain ⟨hP, hD⟩ := va_join (wr := [(pv, .inr (6, P)), (sl, .inl (k.2.1, 3, .inl g1)), (sp, .inr (6, P2)), (sl2, .inl (k.2.1, 3, .inl g2)), (tp, .inl (k.1, 1600, .inl g3)), (rd, .inr (7, Rd)), (tk, .inr (9, K)), (ln, .inr (3, N)), (fo, .inl (k.2.1, 3, .inl g4)), (ea, .inr (1, E)), (nw, .inl (k.2.1, 10, .inl f1)), (kp, .inl (k.2.1, 410, .inl f2)), (bx, .inl (k.2.1, 30, .inl f3)), (y, .inr (12, yM)), (ytp, .inl (k.2.1, 1600, .inl ym1)), (yns, .inl (k.2.1, 3, .inl ym2)), (yss, .inl (k.2.1, 3, .inl ym3)), (ynw, .inl (k.2.1, 16, .inl ym4)), (ywe, .inl (k.2.1, 640, .inl ym5)), (yhbx, .inl (k.2.2.2, 3, .inl ym6)), (ybx, .inl (k.2.1, 48, .inl ym7))]) (w1 := []) hP hD [0, 14] [1, 2, 3, 4, 5, 6, 7, 8, 9, 10, 11, 12, 13, 15, 16, 17, 18, 19, 20, 21, 22] rfl rfl (by decide) (by decide) hk1 hFc hP1 hD1
  generalize H1 = H at hP hS ⊢
  have hP : va_P D classes [(pv, .inr (6, P)), (sl, .inl (k.2.1, 3, .inl g1)), (sp, .inr (6, P2)), (sl2, .inl (k.2.1, 3, .inl g2)), (tp, .inl (k.1, 1600, .inl g3)), (rd, .inr (7, Rd)), (tk, .inr (9, K)), (ln, .inr (3, N)), (fo, .inl (k.2.1, 3, .inl g4)), (ea, .inr (1, E)), (nw, .inl (k.2.1, 10, .inl f1)), (kp, .inl (k.2.1, 410, .inl f2)), (bx, .inl (k.2.1, 30, .inl f3)), (y, .inr (12, yM)), (ytp, .inl (k.2.1, 1600, .inl ym1)), (yns, .inl (k.2.1, 3, .inl ym2)), (yss, .inl (k.2.1, 3, .inl ym3)), (ynw, .inl (k.2.1, 16, .inl ym4)), (ywe, .inl (k.2.1, 640, .inl ym5)), (yhbx, .inl (k.2.2.2, 3, .inl ym6)), (ybx, .inl (k.2.1, 48, .inl ym7))] H := hP
  have hD : va_D A [(pv, .inr (6, P)), (sl, .inl (k.2.1, 3, .inl g1)), (sp, .inr (6, P2)), (sl2, .inl (k.2.1, 3, .inl g2)), (tp, .inl (k.1, 1600, .inl g3)), (rd, .inr (7, Rd)), (tk, .inr (9, K)), (ln, .inr (3, N)), (fo, .inl (k.2.1, 3, .inl g4)), (ea, .inr (1, E)), (nw, .inl (k.2.1, 10, .inl f1)), (kp, .inl (k.2.1, 410, .inl f2)), (bx, .inl (k.2.1, 30, .inl f3)), (y, .inr (12, yM)), (ytp, .inl (k.2.1, 1600, .inl ym1)), (yns, .inl (k.2.1, 3, .inl ym2)), (yss, .inl (k.2.1, 3, .inl ym3)), (ynw, .inl (k.2.1, 16, .inl ym4)), (ywe, .inl (k.2.1, 640, .inl ym5)), (yhbx, .inl (k.2.2.2, 3, .inl ym6)), (ybx, .inl (k.2.1, 48, .inl ym7))] := hD
  refine W.widen (k := 119) (n := 46443) (Nat.le_of_ble_eq_true rfl) (Nat.le_of_ble_eq_true rfl) ?_
  have hw9 := hw.symm; subst hw9
  refine lv_aload_n hx hb dL_law_1495 rfl (lv_at hl 2 rfl) ?_
  refine lv_aload_n hx hb dL_law_1496 rfl (lv_at hl 0 rfl) ?_
  refine lv_iload_n hx hb dL_law_1497 rfl (lv_at hl 3 rfl) ?_
  refine lv_iconst (v := 1) hx hb dL_law_1498 (by decide) ?_
  refine lv_iadd hx hb dL_law_1499 ?_
  refine lv_topi (fun y_18 ey_18 => ?_)
  obtain rfl : y_18 = 1 := ey_18.trans (by decide)
  refine va_sld hx hb hX hbl hbA hS hin1 dL_law_1500 ?_
  refine lv_topi (fun y_19 ey_19 => ?_)
  rw [show y_19 = p0 from ey_19.trans hp0.symm]
  have hPc := hP.sub (ws' := [(y, .inr (12, yM))]) [13] rfl
  have hDc := hD.sub (ws' := [(y, .inr (12, yM))]) [13] (by decide) rfl
  have hFc := va_free (wc := [(y, .inr (12, yM))]) hD hS hA [13] rfl
  refine va_calli (va_runV (As := [.int p0]) (rest := [.int ((0 : Int32) + p0)]) ⟨hx, hb, hml, hown, hts⟩ (c_X12_later_c l D k H.size y yM p0 u_15_86 h_nlt0 h_ngt1000 h_nbig) (cwV 1 hts (gd_V hgd m2047 m2048 m2049 m131 m2050) rfl rfl rfl (by decide +kernel) ⟨Nat.le_of_ble_eq_true rfl, Nat.le_of_ble_eq_true rfl⟩) (cP_V hPc hKX hDc (ci := 12) (q0 := 0) rfl rfl) rfl rfl hl.1 rfl (lv_room (Nat.le_of_ble_eq_true rfl)) dL_law_1501 ⟨Nat.le_of_ble_eq_true rfl, Nat.le_of_ble_eq_true rfl⟩) hS (fun q _ h => hFc q h) hFc (fun r_20 u t H1 locs ht hvm hw hB hz1 hk1 hS => ?_)
  obtain ⟨hP1, hD1⟩ := hB
  rw [ht] at hP1
  obtain ⟨hP, hD⟩ := va_join (wr := [(pv, .inr (6, P)), (sl, .inl (k.2.1, 3, .inl g1)), (sp, .inr (6, P2)), (sl2, .inl (k.2.1, 3, .inl g2)), (tp, .inl (k.1, 1600, .inl g3)), (rd, .inr (7, Rd)), (tk, .inr (9, K)), (ln, .inr (3, N)), (fo, .inl (k.2.1, 3, .inl g4)), (ea, .inr (1, E)), (nw, .inl (k.2.1, 10, .inl f1)), (kp, .inl (k.2.1, 410, .inl f2)), (bx, .inl (k.2.1, 30, .inl f3)), (ytp, .inl (k.2.1, 1600, .inl ym1)), (yns, .inl (k.2.1, 3, .inl ym2)), (yss, .inl (k.2.1, 3, .inl ym3)), (ynw, .inl (k.2.1, 16, .inl ym4)), (ywe, .inl (k.2.1, 640, .inl ym5)), (yhbx, .inl (k.2.2.2, 3, .inl ym6)), (ybx, .inl (k.2.1, 48, .inl ym7))]) (w1 := []) hP hD [13] [0, 1, 2, 3, 4, 5, 6, 7, 8, 9, 10, 11, 12, 14, 15, 16, 17, 18, 19, 20] rfl rfl (by decide) (by decide) hk1 hFc hP1 hD1
  generalize H1 = H at hP hS ⊢
  have hP : va_P D classes [(pv, .inr (6, P)), (sl, .inl (k.2.1, 3, .inl g1)), (sp, .inr (6, P2)), (sl2, .inl (k.2.1, 3, .inl g2)), (tp, .inl (k.1, 1600, .inl g3)), (rd, .inr (7, Rd)), (tk, .inr (9, K)), (ln, .inr (3, N)), (fo, .inl (k.2.1, 3, .inl g4)), (ea, .inr (1, E)), (nw, .inl (k.2.1, 10, .inl f1)), (kp, .inl (k.2.1, 410, .inl f2)), (bx, .inl (k.2.1, 30, .inl f3)), (ytp, .inl (k.2.1, 1600, .inl ym1)), (yns, .inl (k.2.1, 3, .inl ym2)), (yss, .inl (k.2.1, 3, .inl ym3)), (ynw, .inl (k.2.1, 16, .inl ym4)), (ywe, .inl (k.2.1, 640, .inl ym5)), (yhbx, .inl (k.2.2.2, 3, .inl ym6)), (ybx, .inl (k.2.1, 48, .inl ym7))] H := hP
  have hD : va_D A [(pv, .inr (6, P)), (sl, .inl (k.2.1, 3, .inl g1)), (sp, .inr (6, P2)), (sl2, .inl (k.2.1, 3, .inl g2)), (tp, .inl (k.1, 1600, .inl g3)), (rd, .inr (7, Rd)), (tk, .inr (9, K)), (ln, .inr (3, N)), (fo, .inl (k.2.1, 3, .inl g4)), (ea, .inr (1, E)), (nw, .inl (k.2.1, 10, .inl f1)), (kp, .inl (k.2.1, 410, .inl f2)), (bx, .inl (k.2.1, 30, .inl f3)), (ytp, .inl (k.2.1, 1600, .inl ym1)), (yns, .inl (k.2.1, 3, .inl ym2)), (yss, .inl (k.2.1, 3, .inl ym3)), (ynw, .inl (k.2.1, 16, .inl ym4)), (ywe, .inl (k.2.1, 640, .inl ym5)), (yhbx, .inl (k.2.2.2, 3, .inl ym6)), (ybx, .inl (k.2.1, 48, .inl ym7))] := hD
  refine W.widen (k := 119) (n := 46443) (Nat.le_of_ble_eq_true rfl) (Nat.le_of_ble_eq_true rfl) ?_
  have hw9 := hw.symm; subst hw9
  refine lv_icmp_eq (tgt := 1645) hx hb dL_law_1504 (by decide) (fun c_21 => ?_) (fun c_21 => ?_)
  · have c_21 : (((0 : Int32) + p0) : Int32) = ((0 : Int32) + p0) := c_21
    exact law_tail rfl C0 hKX hA hA2 hbA hS (lv_sub hl [0, 1, 2, 3] rfl)
  · exact absurd rfl c_21

set_option maxHeartbeats 4000000 in
set_option maxRecDepth 100000 in
theorem law_34 {p : Program} {l : Launch} {e : Env} {s : State} {m : MethodId} {below : List Frame} {meth : Method} {c : Code} {D : va_G} {k : ClassId × ClassId × ClassId × ClassId} {A : Nat → Prop} {b L : Nat} {xs : Nat → Int32} (hL : L = 6) (C0 : lw_At p s m meth c b L xs) (hKX : va_K D classes (TY k) s ∧ cX s) (hA : ∀ q : Nat, s.heap.size ≤ q → A q) (hA2 : ∀ q : Nat, A q → s.heap.size ≤ q) (hbA : ¬ A b) {x y : Nat} {H : Heap} {locs : List Loc} (hF : Fresh D k A x y H) (hS : va_S A s.heap H locs) {ls : Array Slot} (hl : lv_has ls 4 [(0, .ref b), (1, .ref x), (2, .ref y), (3, .int 0)]) : W p l e room_1 s m #[Value.ref b] below meth c H locs 119 46443 (lw_Z below #[Value.ref b] s) (F0 m 1509 ls []) := by
  obtain ⟨hx, hb, hr, hml, hown, hts, hX, hbl, hlocks, hgv⟩ := id C0
  have hown : s.vm.findClass RL = some m.cls := hown
  have hK := hKX.1
  have hgd : ∀ w ∈ gd, w ∈ lw_tbl := fun w h => (List.mem_filter.mp h).1
  have hg : ∀ w ∈ gd, w.before #[Value.ref b] s = true := fun w h => hts w (hgd w h)
  subst hL
  obtain ⟨F, pv, P, sl, g1, sp, P2, sl2, g2, tp, g3, rd, Rd, tk, K, ln, N, fo, g4, ea, E, nw, f1, kp, f2, bx, f3, si, Z, yM, ytp, ym1, yns, ym2, yss, ym3, ynw, ym4, ywe, ym5, yhbx, ym6, ybx, ym7, hf_0, hf_1, hf_2, hf_3, hf_4, hf_6, hf_7, hf_8, hf_10, hf_11, hf_14, hf_15, hf_18, hf_19, hf_21, hP, hD⟩ := hF
  have u_0_0 : F[0]? = some (.ref pv) := hf_0.1
  have u_1_11 : P[11]? = some (.int 0) := hf_1.2.1
  have u_15_54 : yM[54]? = some (.int 0) := hf_15.2.2.2.2.2.2.2.2.2.2.2.2.2.2.2.2.2.2.2.1
  have hin1 : vp_in 1 6 := (show ¬ ((1 : Int32) < 0 ∨ 6 ≤ (1 : Int32).toNatClampNeg) from by decide)
  have hin2 : vp_in 2 6 := (show ¬ ((2 : Int32) < 0 ∨ 6 ≤ (2 : Int32).toNatClampNeg) from by decide)
  have hin3 : vp_in 3 6 := (show ¬ ((3 : Int32) < 0 ∨ 6 ≤ (3 : Int32).toNatClampNeg) from by decide)
  have hin4 : vp_in 4 6 := (show ¬ ((4 : Int32) < 0 ∨ 6 ≤ (4 : Int32).toNatClampNeg) from by decide)
  have hin5 : vp_in 5 6 := (show ¬ ((5 : Int32) < 0 ∨ 6 ≤ (5 : Int32).toNatClampNeg) from by decide)
  obtain ⟨p0, hp0⟩ : ∃ z, z = xs 1 := ⟨_, rfl⟩
  obtain ⟨p1, hp1⟩ : ∃ z, z = xs 2 := ⟨_, rfl⟩
  obtain ⟨p2, hp2⟩ : ∃ z, z = xs 3 := ⟨_, rfl⟩
  obtain ⟨p3, hp3⟩ : ∃ z, z = xs 4 := ⟨_, rfl⟩
  obtain ⟨p4, hp4⟩ : ∃ z, z = xs 5 := ⟨_, rfl⟩
  refine lv_aload_n hx hb dL_law_1509 rfl (lv_at hl 1 rfl) ?_
  refine lv_aload_n hx hb dL_law_1510 rfl (lv_at hl 0 rfl) ?_
  refine lv_iload_n hx hb dL_law_1511 rfl (lv_at hl 3 rfl) ?_
  refine lv_iconst (v := 1) hx hb dL_law_1512 (by decide) ?_
  refine lv_iadd hx hb dL_law_1513 ?_
  refine lv_topi (fun y_1 ey_1 => ?_)
  obtain rfl : y_1 = 1 := ey_1.trans (by decide)
  refine va_sld hx hb hX hbl hbA hS hin1 dL_law_1514 ?_
  refine lv_topi (fun y_2 ey_2 => ?_)
  rw [show y_2 = p0 from ey_2.trans hp0.symm]
  have hPc := hP.sub (ws' := [(x, .inr (11, F)), (pv, .inr (6, P))]) [0, 1] rfl
  have hDc := hD.sub (ws' := [(x, .inr (11, F)), (pv, .inr (6, P))]) [0, 1] (by decide) rfl
  have hFc := va_free (wc := [(x, .inr (11, F)), (pv, .inr (6, P))]) hD hS hA [0, 1] rfl
  refine va_calli (va_runV (As := [.int p0]) (rest := []) ⟨hx, hb, hml, hown, hts⟩ (c_X11_fits l D k H.size x pv F P p0 u_0_0 u_1_11) (cwV 1 hts (gd_V hgd m1263 m1264 m1265 m117 m1266) rfl rfl rfl (by decide +kernel) ⟨Nat.le_of_ble_eq_true rfl, Nat.le_of_ble_eq_true rfl⟩) (cP_V hPc hKX hDc (ci := 11) (q0 := 0) rfl rfl) rfl rfl hl.1 rfl (lv_room (Nat.le_of_ble_eq_true rfl)) dL_law_1515 ⟨Nat.le_of_ble_eq_true rfl, Nat.le_of_ble_eq_true rfl⟩) hS (fun q _ h => hFc q h) hFc (fun r_3 u t H1 locs ht hvm hw hB hz1 hk1 hS => ?_)
  obtain ⟨hP1, hD1⟩ := hB
  rw [ht] at hP1
  obtain ⟨hP, hD⟩ := va_join (wr := [(sl, .inl (k.2.1, 3, .inl g1)), (sp, .inr (6, P2)), (sl2, .inl (k.2.1, 3, .inl g2)), (tp, .inl (k.1, 1600, .inl g3)), (rd, .inr (7, Rd)), (tk, .inr (9, K)), (ln, .inr (3, N)), (fo, .inl (k.2.1, 3, .inl g4)), (ea, .inr (1, E)), (nw, .inl (k.2.1, 10, .inl f1)), (kp, .inl (k.2.1, 410, .inl f2)), (bx, .inl (k.2.1, 30, .inl f3)), (si, .inr (8, Z)), (y, .inr (12, yM)), (ytp, .inl (k.2.1, 1600, .inl ym1)), (yns, .inl (k.2.1, 3, .inl ym2)), (yss, .inl (k.2.1, 3, .inl ym3)), (ynw, .inl (k.2.1, 16, .inl ym4)), (ywe, .inl (k.2.1, 640, .inl ym5)), (yhbx, .inl (k.2.2.2, 3, .inl ym6)), (ybx, .inl (k.2.1, 48, .inl ym7))]) (w1 := []) hP hD [0, 1] [2, 3, 4, 5, 6, 7, 8, 9, 10, 11, 12, 13, 14, 15, 16, 17, 18, 19, 20, 21, 22] rfl rfl (by decide) (by decide) hk1 hFc hP1 hD1
  generalize H1 = H at hP hS ⊢
  have hP : va_P D classes [(sl, .inl (k.2.1, 3, .inl g1)), (sp, .inr (6, P2)), (sl2, .inl (k.2.1, 3, .inl g2)), (tp, .inl (k.1, 1600, .inl g3)), (rd, .inr (7, Rd)), (tk, .inr (9, K)), (ln, .inr (3, N)), (fo, .inl (k.2.1, 3, .inl g4)), (ea, .inr (1, E)), (nw, .inl (k.2.1, 10, .inl f1)), (kp, .inl (k.2.1, 410, .inl f2)), (bx, .inl (k.2.1, 30, .inl f3)), (si, .inr (8, Z)), (y, .inr (12, yM)), (ytp, .inl (k.2.1, 1600, .inl ym1)), (yns, .inl (k.2.1, 3, .inl ym2)), (yss, .inl (k.2.1, 3, .inl ym3)), (ynw, .inl (k.2.1, 16, .inl ym4)), (ywe, .inl (k.2.1, 640, .inl ym5)), (yhbx, .inl (k.2.2.2, 3, .inl ym6)), (ybx, .inl (k.2.1, 48, .inl ym7))] H := hP
  have hD : va_D A [(sl, .inl (k.2.1, 3, .inl g1)), (sp, .inr (6, P2)), (sl2, .inl (k.2.1, 3, .inl g2)), (tp, .inl (k.1, 1600, .inl g3)), (rd, .inr (7, Rd)), (tk, .inr (9, K)), (ln, .inr (3, N)), (fo, .inl (k.2.1, 3, .inl g4)), (ea, .inr (1, E)), (nw, .inl (k.2.1, 10, .inl f1)), (kp, .inl (k.2.1, 410, .inl f2)), (bx, .inl (k.2.1, 30, .inl f3)), (si, .inr (8, Z)), (y, .inr (12, yM)), (ytp, .inl (k.2.1, 1600, .inl ym1)), (yns, .inl (k.2.1, 3, .inl ym2)), (yss, .inl (k.2.1, 3, .inl ym3)), (ynw, .inl (k.2.1, 16, .inl ym4)), (ywe, .inl (k.2.1, 640, .inl ym5)), (yhbx, .inl (k.2.2.2, 3, .inl ym6)), (ybx, .inl (k.2.1, 48, .inl ym7))] := hD
  refine W.widen (k := 119) (n := 46443) (Nat.le_of_ble_eq_true rfl) (Nat.le_of_ble_eq_true rfl) ?_
  have hw9 := hw.symm; subst hw9
  refine lv_aload_n hx hb dL_law_1518 rfl (lv_at hl 2 rfl) ?_
  refine lv_aload_n hx hb dL_law_1519 rfl (lv_at hl 0 rfl) ?_
  refine lv_iload_n hx hb dL_law_1520 rfl (lv_at hl 3 rfl) ?_
  refine lv_iconst (v := 1) hx hb dL_law_1521 (by decide) ?_
  refine lv_iadd hx hb dL_law_1522 ?_
  refine lv_topi (fun y_4 ey_4 => ?_)
  obtain rfl : y_4 = 1 := ey_4.trans (by decide)
  refine va_sld hx hb hX hbl hbA hS hin1 dL_law_1523 ?_
  refine lv_topi (fun y_5 ey_5 => ?_)
  rw [show y_5 = p0 from ey_5.trans hp0.symm]
  have hPc := hP.sub (ws' := [(y, .inr (12, yM))]) [13] rfl
  have hDc := hD.sub (ws' := [(y, .inr (12, yM))]) [13] (by decide) rfl
  have hFc := va_free (wc := [(y, .inr (12, yM))]) hD hS hA [13] rfl
  refine va_calli (va_runV (As := [.int p0]) (rest := [.int 0]) ⟨hx, hb, hml, hown, hts⟩ (c_X12_fits l D k H.size y yM p0 u_15_54) (cwV 1 hts (gd_V hgd m2051 m2052 m2053 m131 m2054) rfl rfl rfl (by decide +kernel) ⟨Nat.le_of_ble_eq_true rfl, Nat.le_of_ble_eq_true rfl⟩) (cP_V hPc hKX hDc (ci := 12) (q0 := 0) rfl rfl) rfl rfl hl.1 rfl (lv_room (Nat.le_of_ble_eq_true rfl)) dL_law_1524 ⟨Nat.le_of_ble_eq_true rfl, Nat.le_of_ble_eq_true rfl⟩) hS (fun q _ h => hFc q h) hFc (fun r_6 u t H1 locs ht hvm hw hB hz1 hk1 hS => ?_)
  obtain ⟨hP1, hD1⟩ := hB
  rw [ht] at hP1
  obtain ⟨hP, hD⟩ := va_join (wr := [(sl, .inl (k.2.1, 3, .inl g1)), (sp, .inr (6, P2)), (sl2, .inl (k.2.1, 3, .inl g2)), (tp, .inl (k.1, 1600, .inl g3)), (rd, .inr (7, Rd)), (tk, .inr (9, K)), (ln, .inr (3, N)), (fo, .inl (k.2.1, 3, .inl g4)), (ea, .inr (1, E)), (nw, .inl (k.2.1, 10, .inl f1)), (kp, .inl (k.2.1, 410, .inl f2)), (bx, .inl (k.2.1, 30, .inl f3)), (si, .inr (8, Z)), (ytp, .inl (k.2.1, 1600, .inl ym1)), (yns, .inl (k.2.1, 3, .inl ym2)), (yss, .inl (k.2.1, 3, .inl ym3)), (ynw, .inl (k.2.1, 16, .inl ym4)), (ywe, .inl (k.2.1, 640, .inl ym5)), (yhbx, .inl (k.2.2.2, 3, .inl ym6)), (ybx, .inl (k.2.1, 48, .inl ym7))]) (w1 := []) hP hD [13] [0, 1, 2, 3, 4, 5, 6, 7, 8, 9, 10, 11, 12, 14, 15, 16, 17, 18, 19, 20] rfl rfl (by decide) (by decide) hk1 hFc hP1 hD1
  generalize H1 = H at hP hS ⊢
  have hP : va_P D classes [(sl, .inl (k.2.1, 3, .inl g1)), (sp, .inr (6, P2)), (sl2, .inl (k.2.1, 3, .inl g2)), (tp, .inl (k.1, 1600, .inl g3)), (rd, .inr (7, Rd)), (tk, .inr (9, K)), (ln, .inr (3, N)), (fo, .inl (k.2.1, 3, .inl g4)), (ea, .inr (1, E)), (nw, .inl (k.2.1, 10, .inl f1)), (kp, .inl (k.2.1, 410, .inl f2)), (bx, .inl (k.2.1, 30, .inl f3)), (si, .inr (8, Z)), (ytp, .inl (k.2.1, 1600, .inl ym1)), (yns, .inl (k.2.1, 3, .inl ym2)), (yss, .inl (k.2.1, 3, .inl ym3)), (ynw, .inl (k.2.1, 16, .inl ym4)), (ywe, .inl (k.2.1, 640, .inl ym5)), (yhbx, .inl (k.2.2.2, 3, .inl ym6)), (ybx, .inl (k.2.1, 48, .inl ym7))] H := hP
  have hD : va_D A [(sl, .inl (k.2.1, 3, .inl g1)), (sp, .inr (6, P2)), (sl2, .inl (k.2.1, 3, .inl g2)), (tp, .inl (k.1, 1600, .inl g3)), (rd, .inr (7, Rd)), (tk, .inr (9, K)), (ln, .inr (3, N)), (fo, .inl (k.2.1, 3, .inl g4)), (ea, .inr (1, E)), (nw, .inl (k.2.1, 10, .inl f1)), (kp, .inl (k.2.1, 410, .inl f2)), (bx, .inl (k.2.1, 30, .inl f3)), (si, .inr (8, Z)), (ytp, .inl (k.2.1, 1600, .inl ym1)), (yns, .inl (k.2.1, 3, .inl ym2)), (yss, .inl (k.2.1, 3, .inl ym3)), (ynw, .inl (k.2.1, 16, .inl ym4)), (ywe, .inl (k.2.1, 640, .inl ym5)), (yhbx, .inl (k.2.2.2, 3, .inl ym6)), (ybx, .inl (k.2.1, 48, .inl ym7))] := hD
  refine W.widen (k := 119) (n := 46443) (Nat.le_of_ble_eq_true rfl) (Nat.le_of_ble_eq_true rfl) ?_
  have hw9 := hw.symm; subst hw9
  refine lv_icmp_eq (tgt := 1645) hx hb dL_law_1527 (by decide) (fun c_7 => ?_) (fun c_7 => ?_)
  · have c_7 : (0 : Int32) = 0 := c_7
    exact law_tail rfl C0 hKX hA hA2 hbA hS (lv_sub hl [0, 1, 2, 3] rfl)
  · exact absurd rfl c_7

set_option maxHeartbeats 4000000 in
set_option maxRecDepth 100000 in
theorem law_35 {p : Program} {l : Launch} {e : Env} {s : State} {m : MethodId} {below : List Frame} {meth : Method} {c : Code} {D : va_G} {k : ClassId × ClassId × ClassId × ClassId} {A : Nat → Prop} {b L : Nat} {xs : Nat → Int32} (hL : L = 6) (C0 : lw_At p s m meth c b L xs) (hKX : va_K D classes (TY k) s ∧ cX s) (hA : ∀ q : Nat, s.heap.size ≤ q → A q) (hA2 : ∀ q : Nat, A q → s.heap.size ≤ q) (hbA : ¬ A b) {x y : Nat} {H : Heap} {locs : List Loc} (hF : Fresh D k A x y H) (hS : va_S A s.heap H locs) {ls : Array Slot} (hl : lv_has ls 4 [(0, .ref b), (1, .ref x), (2, .ref y), (3, .int 0)]) : W p l e room_1 s m #[Value.ref b] below meth c H locs 119 46443 (lw_Z below #[Value.ref b] s) (F0 m 1532 ls []) := by
  obtain ⟨hx, hb, hr, hml, hown, hts, hX, hbl, hlocks, hgv⟩ := id C0
  have hown : s.vm.findClass RL = some m.cls := hown
  have hK := hKX.1
  have hgd : ∀ w ∈ gd, w ∈ lw_tbl := fun w h => (List.mem_filter.mp h).1
  have hg : ∀ w ∈ gd, w.before #[Value.ref b] s = true := fun w h => hts w (hgd w h)
  subst hL
  obtain ⟨F, pv, P, sl, g1, sp, P2, sl2, g2, tp, g3, rd, Rd, tk, K, ln, N, fo, g4, ea, E, nw, f1, kp, f2, bx, f3, si, Z, yM, ytp, ym1, yns, ym2, yss, ym3, ynw, ym4, ywe, ym5, yhbx, ym6, ybx, ym7, hf_0, hf_1, hf_2, hf_3, hf_4, hf_6, hf_7, hf_8, hf_10, hf_11, hf_14, hf_15, hf_18, hf_19, hf_21, hP, hD⟩ := hF
  have u_0_0 : F[0]? = some (.ref pv) := hf_0.1
  have u_1_11 : P[11]? = some (.int 0) := hf_1.2.1
  have u_15_54 : yM[54]? = some (.int 0) := hf_15.2.2.2.2.2.2.2.2.2.2.2.2.2.2.2.2.2.2.2.1
  have hin1 : vp_in 1 6 := (show ¬ ((1 : Int32) < 0 ∨ 6 ≤ (1 : Int32).toNatClampNeg) from by decide)
  have hin2 : vp_in 2 6 := (show ¬ ((2 : Int32) < 0 ∨ 6 ≤ (2 : Int32).toNatClampNeg) from by decide)
  have hin3 : vp_in 3 6 := (show ¬ ((3 : Int32) < 0 ∨ 6 ≤ (3 : Int32).toNatClampNeg) from by decide)
  have hin4 : vp_in 4 6 := (show ¬ ((4 : Int32) < 0 ∨ 6 ≤ (4 : Int32).toNatClampNeg) from by decide)
  have hin5 : vp_in 5 6 := (show ¬ ((5 : Int32) < 0 ∨ 6 ≤ (5 : Int32).toNatClampNeg) from by decide)
  obtain ⟨p0, hp0⟩ : ∃ z, z = xs 1 := ⟨_, rfl⟩
  obtain ⟨p1, hp1⟩ : ∃ z, z = xs 2 := ⟨_, rfl⟩
  obtain ⟨p2, hp2⟩ : ∃ z, z = xs 3 := ⟨_, rfl⟩
  obtain ⟨p3, hp3⟩ : ∃ z, z = xs 4 := ⟨_, rfl⟩
  obtain ⟨p4, hp4⟩ : ∃ z, z = xs 5 := ⟨_, rfl⟩
  refine lv_aload_n hx hb dL_law_1532 rfl (lv_at hl 1 rfl) ?_
  refine lv_aload_n hx hb dL_law_1533 rfl (lv_at hl 0 rfl) ?_
  refine lv_iload_n hx hb dL_law_1534 rfl (lv_at hl 3 rfl) ?_
  refine lv_iconst (v := 1) hx hb dL_law_1535 (by decide) ?_
  refine lv_iadd hx hb dL_law_1536 ?_
  refine lv_topi (fun y_1 ey_1 => ?_)
  obtain rfl : y_1 = 1 := ey_1.trans (by decide)
  refine va_sld hx hb hX hbl hbA hS hin1 dL_law_1537 ?_
  refine lv_topi (fun y_2 ey_2 => ?_)
  rw [show y_2 = p0 from ey_2.trans hp0.symm]
  refine lv_aload_n hx hb dL_law_1538 rfl (lv_at hl 0 rfl) ?_
  refine lv_iload_n hx hb dL_law_1539 rfl (lv_at hl 3 rfl) ?_
  refine lv_iconst (v := 2) hx hb dL_law_1540 (by decide) ?_
  refine lv_iadd hx hb dL_law_1541 ?_
  refine lv_topi (fun y_3 ey_3 => ?_)
  obtain rfl : y_3 = 2 := ey_3.trans (by decide)
  refine va_sld hx hb hX hbl hbA hS hin2 dL_law_1542 ?_
  refine lv_topi (fun y_4 ey_4 => ?_)
  rw [show y_4 = p1 from ey_4.trans hp1.symm]
  refine lv_aload_n hx hb dL_law_1543 rfl (lv_at hl 0 rfl) ?_
  refine lv_iload_n hx hb dL_law_1544 rfl (lv_at hl 3 rfl) ?_
  refine lv_iconst (v := 3) hx hb dL_law_1545 (by decide) ?_
  refine lv_iadd hx hb dL_law_1546 ?_
  refine lv_topi (fun y_5 ey_5 => ?_)
  obtain rfl : y_5 = 3 := ey_5.trans (by decide)
  refine va_sld hx hb hX hbl hbA hS hin3 dL_law_1547 ?_
  refine lv_topi (fun y_6 ey_6 => ?_)
  rw [show y_6 = p2 from ey_6.trans hp2.symm]
  have hPc := hP.sub (ws' := [(x, .inr (11, F)), (pv, .inr (6, P))]) [0, 1] rfl
  have hDc := hD.sub (ws' := [(x, .inr (11, F)), (pv, .inr (6, P))]) [0, 1] (by decide) rfl
  have hFc := va_free (wc := [(x, .inr (11, F)), (pv, .inr (6, P))]) hD hS hA [0, 1] rfl
  refine va_calll (va_runV (As := [.int p0, .int p1, .int p2]) (rest := []) ⟨hx, hb, hml, hown, hts⟩ (c_X11_chance l D k H.size x pv F P p0 p1 p2 u_0_0 u_1_11) (cwV 3 hts (gd_V hgd m1279 m1280 m1281 m117 m1282) rfl rfl rfl (by decide +kernel) ⟨Nat.le_of_ble_eq_true rfl, Nat.le_of_ble_eq_true rfl⟩) (cP_V hPc hKX hDc (ci := 11) (q0 := 0) rfl rfl) rfl rfl hl.1 rfl (lv_room (Nat.le_of_ble_eq_true rfl)) dL_law_1548 ⟨Nat.le_of_ble_eq_true rfl, Nat.le_of_ble_eq_true rfl⟩) hS (fun q _ h => hFc q h) hFc (fun r_7 u t H1 locs ht hvm hw hB hz1 hk1 hS => ?_)
  obtain ⟨hP1, hD1⟩ := hB
  rw [ht] at hP1
  obtain ⟨hP, hD⟩ := va_join (wr := [(sl, .inl (k.2.1, 3, .inl g1)), (sp, .inr (6, P2)), (sl2, .inl (k.2.1, 3, .inl g2)), (tp, .inl (k.1, 1600, .inl g3)), (rd, .inr (7, Rd)), (tk, .inr (9, K)), (ln, .inr (3, N)), (fo, .inl (k.2.1, 3, .inl g4)), (ea, .inr (1, E)), (nw, .inl (k.2.1, 10, .inl f1)), (kp, .inl (k.2.1, 410, .inl f2)), (bx, .inl (k.2.1, 30, .inl f3)), (si, .inr (8, Z)), (y, .inr (12, yM)), (ytp, .inl (k.2.1, 1600, .inl ym1)), (yns, .inl (k.2.1, 3, .inl ym2)), (yss, .inl (k.2.1, 3, .inl ym3)), (ynw, .inl (k.2.1, 16, .inl ym4)), (ywe, .inl (k.2.1, 640, .inl ym5)), (yhbx, .inl (k.2.2.2, 3, .inl ym6)), (ybx, .inl (k.2.1, 48, .inl ym7))]) (w1 := []) hP hD [0, 1] [2, 3, 4, 5, 6, 7, 8, 9, 10, 11, 12, 13, 14, 15, 16, 17, 18, 19, 20, 21, 22] rfl rfl (by decide) (by decide) hk1 hFc hP1 hD1
  generalize H1 = H at hP hS ⊢
  have hP : va_P D classes [(sl, .inl (k.2.1, 3, .inl g1)), (sp, .inr (6, P2)), (sl2, .inl (k.2.1, 3, .inl g2)), (tp, .inl (k.1, 1600, .inl g3)), (rd, .inr (7, Rd)), (tk, .inr (9, K)), (ln, .inr (3, N)), (fo, .inl (k.2.1, 3, .inl g4)), (ea, .inr (1, E)), (nw, .inl (k.2.1, 10, .inl f1)), (kp, .inl (k.2.1, 410, .inl f2)), (bx, .inl (k.2.1, 30, .inl f3)), (si, .inr (8, Z)), (y, .inr (12, yM)), (ytp, .inl (k.2.1, 1600, .inl ym1)), (yns, .inl (k.2.1, 3, .inl ym2)), (yss, .inl (k.2.1, 3, .inl ym3)), (ynw, .inl (k.2.1, 16, .inl ym4)), (ywe, .inl (k.2.1, 640, .inl ym5)), (yhbx, .inl (k.2.2.2, 3, .inl ym6)), (ybx, .inl (k.2.1, 48, .inl ym7))] H := hP
  have hD : va_D A [(sl, .inl (k.2.1, 3, .inl g1)), (sp, .inr (6, P2)), (sl2, .inl (k.2.1, 3, .inl g2)), (tp, .inl (k.1, 1600, .inl g3)), (rd, .inr (7, Rd)), (tk, .inr (9, K)), (ln, .inr (3, N)), (fo, .inl (k.2.1, 3, .inl g4)), (ea, .inr (1, E)), (nw, .inl (k.2.1, 10, .inl f1)), (kp, .inl (k.2.1, 410, .inl f2)), (bx, .inl (k.2.1, 30, .inl f3)), (si, .inr (8, Z)), (y, .inr (12, yM)), (ytp, .inl (k.2.1, 1600, .inl ym1)), (yns, .inl (k.2.1, 3, .inl ym2)), (yss, .inl (k.2.1, 3, .inl ym3)), (ynw, .inl (k.2.1, 16, .inl ym4)), (ywe, .inl (k.2.1, 640, .inl ym5)), (yhbx, .inl (k.2.2.2, 3, .inl ym6)), (ybx, .inl (k.2.1, 48, .inl ym7))] := hD
  refine W.widen (k := 119) (n := 46443) (Nat.le_of_ble_eq_true rfl) (Nat.le_of_ble_eq_true rfl) ?_
  have hw9 := hw.symm; subst hw9
  refine lv_aload_n hx hb dL_law_1551 rfl (lv_at hl 2 rfl) ?_
  refine lv_aload_n hx hb dL_law_1552 rfl (lv_at hl 0 rfl) ?_
  refine lv_iload_n hx hb dL_law_1553 rfl (lv_at hl 3 rfl) ?_
  refine lv_iconst (v := 1) hx hb dL_law_1554 (by decide) ?_
  refine lv_iadd hx hb dL_law_1555 ?_
  refine lv_topi (fun y_8 ey_8 => ?_)
  obtain rfl : y_8 = 1 := ey_8.trans (by decide)
  refine va_sld hx hb hX hbl hbA hS hin1 dL_law_1556 ?_
  refine lv_topi (fun y_9 ey_9 => ?_)
  rw [show y_9 = p0 from ey_9.trans hp0.symm]
  refine lv_aload_n hx hb dL_law_1557 rfl (lv_at hl 0 rfl) ?_
  refine lv_iload_n hx hb dL_law_1558 rfl (lv_at hl 3 rfl) ?_
  refine lv_iconst (v := 2) hx hb dL_law_1559 (by decide) ?_
  refine lv_iadd hx hb dL_law_1560 ?_
  refine lv_topi (fun y_10 ey_10 => ?_)
  obtain rfl : y_10 = 2 := ey_10.trans (by decide)
  refine va_sld hx hb hX hbl hbA hS hin2 dL_law_1561 ?_
  refine lv_topi (fun y_11 ey_11 => ?_)
  rw [show y_11 = p1 from ey_11.trans hp1.symm]
  refine lv_aload_n hx hb dL_law_1562 rfl (lv_at hl 0 rfl) ?_
  refine lv_iload_n hx hb dL_law_1563 rfl (lv_at hl 3 rfl) ?_
  refine lv_iconst (v := 3) hx hb dL_law_1564 (by decide) ?_
  refine lv_iadd hx hb dL_law_1565 ?_
  refine lv_topi (fun y_12 ey_12 => ?_)
  obtain rfl : y_12 = 3 := ey_12.trans (by decide)
  refine va_sld hx hb hX hbl hbA hS hin3 dL_law_1566 ?_
  refine lv_topi (fun y_13 ey_13 => ?_)
  rw [show y_13 = p2 from ey_13.trans hp2.symm]
  have hPc := hP.sub (ws' := [(y, .inr (12, yM))]) [13] rfl
  have hDc := hD.sub (ws' := [(y, .inr (12, yM))]) [13] (by decide) rfl
  have hFc := va_free (wc := [(y, .inr (12, yM))]) hD hS hA [13] rfl
  refine va_calll (va_runV (As := [.int p0, .int p1, .int p2]) (rest := [.long (-1)]) ⟨hx, hb, hml, hown, hts⟩ (c_X12_chance l D k H.size y yM p0 p1 p2 u_15_54) (cwV 3 hts (gd_V hgd m2059 m2060 m2061 m131 m2062) rfl rfl rfl (by decide +kernel) ⟨Nat.le_of_ble_eq_true rfl, Nat.le_of_ble_eq_true rfl⟩) (cP_V hPc hKX hDc (ci := 12) (q0 := 0) rfl rfl) rfl rfl hl.1 rfl (lv_room (Nat.le_of_ble_eq_true rfl)) dL_law_1567 ⟨Nat.le_of_ble_eq_true rfl, Nat.le_of_ble_eq_true rfl⟩) hS (fun q _ h => hFc q h) hFc (fun r_14 u t H1 locs ht hvm hw hB hz1 hk1 hS => ?_)
  obtain ⟨hP1, hD1⟩ := hB
  rw [ht] at hP1
  obtain ⟨hP, hD⟩ := va_join (wr := [(sl, .inl (k.2.1, 3, .inl g1)), (sp, .inr (6, P2)), (sl2, .inl (k.2.1, 3, .inl g2)), (tp, .inl (k.1, 1600, .inl g3)), (rd, .inr (7, Rd)), (tk, .inr (9, K)), (ln, .inr (3, N)), (fo, .inl (k.2.1, 3, .inl g4)), (ea, .inr (1, E)), (nw, .inl (k.2.1, 10, .inl f1)), (kp, .inl (k.2.1, 410, .inl f2)), (bx, .inl (k.2.1, 30, .inl f3)), (si, .inr (8, Z)), (ytp, .inl (k.2.1, 1600, .inl ym1)), (yns, .inl (k.2.1, 3, .inl ym2)), (yss, .inl (k.2.1, 3, .inl ym3)), (ynw, .inl (k.2.1, 16, .inl ym4)), (ywe, .inl (k.2.1, 640, .inl ym5)), (yhbx, .inl (k.2.2.2, 3, .inl ym6)), (ybx, .inl (k.2.1, 48, .inl ym7))]) (w1 := []) hP hD [13] [0, 1, 2, 3, 4, 5, 6, 7, 8, 9, 10, 11, 12, 14, 15, 16, 17, 18, 19, 20] rfl rfl (by decide) (by decide) hk1 hFc hP1 hD1
  generalize H1 = H at hP hS ⊢
  have hP : va_P D classes [(sl, .inl (k.2.1, 3, .inl g1)), (sp, .inr (6, P2)), (sl2, .inl (k.2.1, 3, .inl g2)), (tp, .inl (k.1, 1600, .inl g3)), (rd, .inr (7, Rd)), (tk, .inr (9, K)), (ln, .inr (3, N)), (fo, .inl (k.2.1, 3, .inl g4)), (ea, .inr (1, E)), (nw, .inl (k.2.1, 10, .inl f1)), (kp, .inl (k.2.1, 410, .inl f2)), (bx, .inl (k.2.1, 30, .inl f3)), (si, .inr (8, Z)), (ytp, .inl (k.2.1, 1600, .inl ym1)), (yns, .inl (k.2.1, 3, .inl ym2)), (yss, .inl (k.2.1, 3, .inl ym3)), (ynw, .inl (k.2.1, 16, .inl ym4)), (ywe, .inl (k.2.1, 640, .inl ym5)), (yhbx, .inl (k.2.2.2, 3, .inl ym6)), (ybx, .inl (k.2.1, 48, .inl ym7))] H := hP
  have hD : va_D A [(sl, .inl (k.2.1, 3, .inl g1)), (sp, .inr (6, P2)), (sl2, .inl (k.2.1, 3, .inl g2)), (tp, .inl (k.1, 1600, .inl g3)), (rd, .inr (7, Rd)), (tk, .inr (9, K)), (ln, .inr (3, N)), (fo, .inl (k.2.1, 3, .inl g4)), (ea, .inr (1, E)), (nw, .inl (k.2.1, 10, .inl f1)), (kp, .inl (k.2.1, 410, .inl f2)), (bx, .inl (k.2.1, 30, .inl f3)), (si, .inr (8, Z)), (ytp, .inl (k.2.1, 1600, .inl ym1)), (yns, .inl (k.2.1, 3, .inl ym2)), (yss, .inl (k.2.1, 3, .inl ym3)), (ynw, .inl (k.2.1, 16, .inl ym4)), (ywe, .inl (k.2.1, 640, .inl ym5)), (yhbx, .inl (k.2.2.2, 3, .inl ym6)), (ybx, .inl (k.2.1, 48, .inl ym7))] := hD
  refine W.widen (k := 119) (n := 46443) (Nat.le_of_ble_eq_true rfl) (Nat.le_of_ble_eq_true rfl) ?_
  have hw9 := hw.symm; subst hw9
  refine W.lcmp hx hb dL_law_1570 ?_
  refine lv_if_eq (tgt := 1645) hx hb dL_law_1571 (by decide) (fun c_15 => ?_) (fun c_15 => ?_)
  · have c_15 : ((lg_cmp (-1) (-1)) : Int32) = 0 := c_15
    exact law_tail rfl C0 hKX hA hA2 hbA hS (lv_sub hl [0, 1, 2, 3] rfl)
  · exact absurd (lg_same rfl) c_15

set_option maxHeartbeats 4000000 in
set_option maxRecDepth 100000 in
theorem law_36 {p : Program} {l : Launch} {e : Env} {s : State} {m : MethodId} {below : List Frame} {meth : Method} {c : Code} {D : va_G} {k : ClassId × ClassId × ClassId × ClassId} {A : Nat → Prop} {b L : Nat} {xs : Nat → Int32} (hL : L = 6) (C0 : lw_At p s m meth c b L xs) (hKX : va_K D classes (TY k) s ∧ cX s) (hA : ∀ q : Nat, s.heap.size ≤ q → A q) (hA2 : ∀ q : Nat, A q → s.heap.size ≤ q) (hbA : ¬ A b) {x y : Nat} {H : Heap} {locs : List Loc} (hF : Fresh D k A x y H) (hS : va_S A s.heap H locs) {ls : Array Slot} (hl : lv_has ls 4 [(0, .ref b), (1, .ref x), (2, .ref y), (3, .int 0)]) : W p l e room_1 s m #[Value.ref b] below meth c H locs 119 46443 (lw_Z below #[Value.ref b] s) (F0 m 1576 ls []) := by
  obtain ⟨hx, hb, hr, hml, hown, hts, hX, hbl, hlocks, hgv⟩ := id C0
  have hown : s.vm.findClass RL = some m.cls := hown
  have hK := hKX.1
  have hgd : ∀ w ∈ gd, w ∈ lw_tbl := fun w h => (List.mem_filter.mp h).1
  have hg : ∀ w ∈ gd, w.before #[Value.ref b] s = true := fun w h => hts w (hgd w h)
  subst hL
  obtain ⟨F, pv, P, sl, g1, sp, P2, sl2, g2, tp, g3, rd, Rd, tk, K, ln, N, fo, g4, ea, E, nw, f1, kp, f2, bx, f3, si, Z, yM, ytp, ym1, yns, ym2, yss, ym3, ynw, ym4, ywe, ym5, yhbx, ym6, ybx, ym7, hf_0, hf_1, hf_2, hf_3, hf_4, hf_6, hf_7, hf_8, hf_10, hf_11, hf_14, hf_15, hf_18, hf_19, hf_21, hP, hD⟩ := hF
  have u_0_8 : F[8]? = some (.ref ea) := hf_0.2.2.2.2.2.2.2.1
  have u_10_0 : E[0]? = some (.ref nw) := hf_10.1
  have u_10_2 : E[2]? = some (.ref bx) := hf_10.2.2.1
  have u_10_3 : E[3]? = some (.int 0) := hf_10.2.2.2.1
  have u_11_6 : f1 6 = 0 := hf_11.2.2.2.1
  have u_15_76 : yM[76]? = some (.ref ynw) := hf_15.2.2.2.2.2.2.2.2.2.2.2.2.2.2.2.2.2.2.2.2.2.2.2.2.2.1
  have u_15_87 : yM[87]? = some (.ref yhbx) := hf_15.2.2.2.2.2.2.2.2.2.2.2.2.2.2.2.2.2.2.2.2.2.2.2.2.2.2.2.2.2.2.2.2.1
  have u_15_88 : yM[88]? = some (.ref ybx) := hf_15.2.2.2.2.2.2.2.2.2.2.2.2.2.2.2.2.2.2.2.2.2.2.2.2.2.2.2.2.2.2.2.2.2.1
  have u_19_6 : ym4 6 = 0 := hf_19.2.2.2.1
  have u_21_all : (∀ j, ym6 j = 0) := hf_21
  have hin1 : vp_in 1 6 := (show ¬ ((1 : Int32) < 0 ∨ 6 ≤ (1 : Int32).toNatClampNeg) from by decide)
  have hin2 : vp_in 2 6 := (show ¬ ((2 : Int32) < 0 ∨ 6 ≤ (2 : Int32).toNatClampNeg) from by decide)
  have hin3 : vp_in 3 6 := (show ¬ ((3 : Int32) < 0 ∨ 6 ≤ (3 : Int32).toNatClampNeg) from by decide)
  have hin4 : vp_in 4 6 := (show ¬ ((4 : Int32) < 0 ∨ 6 ≤ (4 : Int32).toNatClampNeg) from by decide)
  have hin5 : vp_in 5 6 := (show ¬ ((5 : Int32) < 0 ∨ 6 ≤ (5 : Int32).toNatClampNeg) from by decide)
  obtain ⟨p0, hp0⟩ : ∃ z, z = xs 1 := ⟨_, rfl⟩
  obtain ⟨p1, hp1⟩ : ∃ z, z = xs 2 := ⟨_, rfl⟩
  obtain ⟨p2, hp2⟩ : ∃ z, z = xs 3 := ⟨_, rfl⟩
  obtain ⟨p3, hp3⟩ : ∃ z, z = xs 4 := ⟨_, rfl⟩
  obtain ⟨p4, hp4⟩ : ∃ z, z = xs 5 := ⟨_, rfl⟩
  by_cases h_lt0 : p0 < 0
  · skip
    refine lv_aload_n hx hb dL_law_1576 rfl (lv_at hl 1 rfl) ?_
    refine lv_aload_n hx hb dL_law_1577 rfl (lv_at hl 0 rfl) ?_
    refine lv_iload_n hx hb dL_law_1578 rfl (lv_at hl 3 rfl) ?_
    refine lv_iconst (v := 1) hx hb dL_law_1579 (by decide) ?_
    refine lv_iadd hx hb dL_law_1580 ?_
    refine lv_topi (fun y_1 ey_1 => ?_)
    obtain rfl : y_1 = 1 := ey_1.trans (by decide)
    refine va_sld hx hb hX hbl hbA hS hin1 dL_law_1581 ?_
    refine lv_topi (fun y_2 ey_2 => ?_)
    rw [show y_2 = p0 from ey_2.trans hp0.symm]
    have hPc := hP.sub (ws' := [(x, .inr (11, F)), (ea, .inr (1, E)), (nw, .inl (k.2.1, 10, .inl f1)), (bx, .inl (k.2.1, 30, .inl f3))]) [0, 10, 11, 13] rfl
    have hDc := hD.sub (ws' := [(x, .inr (11, F)), (ea, .inr (1, E)), (nw, .inl (k.2.1, 10, .inl f1)), (bx, .inl (k.2.1, 30, .inl f3))]) [0, 10, 11, 13] (by decide) rfl
    have hFc := va_free (wc := [(x, .inr (11, F)), (ea, .inr (1, E)), (nw, .inl (k.2.1, 10, .inl f1)), (bx, .inl (k.2.1, 30, .inl f3))]) hD hS hA [0, 10, 11, 13] rfl
    refine va_calli (va_runV (As := [.int p0]) (rest := []) ⟨hx, hb, hml, hown, hts⟩ (c_X11_image_a l D k H.size x ea nw bx F E f1 f3 p0 u_0_8 u_10_0 u_10_2 u_10_3 u_11_6 h_lt0) (cwV 1 hts (gd_V hgd m1287 m1288 m1289 m117 m1290) rfl rfl rfl (by decide +kernel) ⟨Nat.le_of_ble_eq_true rfl, Nat.le_of_ble_eq_true rfl⟩) (cP_V hPc hKX hDc (ci := 11) (q0 := 0) rfl rfl) rfl rfl hl.1 rfl (lv_room (Nat.le_of_ble_eq_true rfl)) dL_law_1582 ⟨Nat.le_of_ble_eq_true rfl, Nat.le_of_ble_eq_true rfl⟩) hS (fun q _ h => hFc q h) hFc (fun r_3 u t H1 locs ht hvm hw hB hz1 hk1 hS => ?_)
    obtain ⟨hP1, hD1⟩ := hB
    rw [ht] at hP1
    obtain ⟨hP, hD⟩ := va_join (wr := [(pv, .inr (6, P)), (sl, .inl (k.2.1, 3, .inl g1)), (sp, .inr (6, P2)), (sl2, .inl (k.2.1, 3, .inl g2)), (tp, .inl (k.1, 1600, .inl g3)), (rd, .inr (7, Rd)), (tk, .inr (9, K)), (ln, .inr (3, N)), (fo, .inl (k.2.1, 3, .inl g4)), (kp, .inl (k.2.1, 410, .inl f2)), (si, .inr (8, Z)), (y, .inr (12, yM)), (ytp, .inl (k.2.1, 1600, .inl ym1)), (yns, .inl (k.2.1, 3, .inl ym2)), (yss, .inl (k.2.1, 3, .inl ym3)), (ynw, .inl (k.2.1, 16, .inl ym4)), (ywe, .inl (k.2.1, 640, .inl ym5)), (yhbx, .inl (k.2.2.2, 3, .inl ym6)), (ybx, .inl (k.2.1, 48, .inl ym7))]) (w1 := []) hP hD [0, 10, 11, 13] [1, 2, 3, 4, 5, 6, 7, 8, 9, 12, 14, 15, 16, 17, 18, 19, 20, 21, 22] rfl rfl (by decide) (by decide) hk1 hFc hP1 hD1
    generalize H1 = H at hP hS ⊢
    have hP : va_P D classes [(pv, .inr (6, P)), (sl, .inl (k.2.1, 3, .inl g1)), (sp, .inr (6, P2)), (sl2, .inl (k.2.1, 3, .inl g2)), (tp, .inl (k.1, 1600, .inl g3)), (rd, .inr (7, Rd)), (tk, .inr (9, K)), (ln, .inr (3, N)), (fo, .inl (k.2.1, 3, .inl g4)), (kp, .inl (k.2.1, 410, .inl f2)), (si, .inr (8, Z)), (y, .inr (12, yM)), (ytp, .inl (k.2.1, 1600, .inl ym1)), (yns, .inl (k.2.1, 3, .inl ym2)), (yss, .inl (k.2.1, 3, .inl ym3)), (ynw, .inl (k.2.1, 16, .inl ym4)), (ywe, .inl (k.2.1, 640, .inl ym5)), (yhbx, .inl (k.2.2.2, 3, .inl ym6)), (ybx, .inl (k.2.1, 48, .inl ym7))] H := hP
    have hD : va_D A [(pv, .inr (6, P)), (sl, .inl (k.2.1, 3, .inl g1)), (sp, .inr (6, P2)), (sl2, .inl (k.2.1, 3, .inl g2)), (tp, .inl (k.1, 1600, .inl g3)), (rd, .inr (7, Rd)), (tk, .inr (9, K)), (ln, .inr (3, N)), (fo, .inl (k.2.1, 3, .inl g4)), (kp, .inl (k.2.1, 410, .inl f2)), (si, .inr (8, Z)), (y, .inr (12, yM)), (ytp, .inl (k.2.1, 1600, .inl ym1)), (yns, .inl (k.2.1, 3, .inl ym2)), (yss, .inl (k.2.1, 3, .inl ym3)), (ynw, .inl (k.2.1, 16, .inl ym4)), (ywe, .inl (k.2.1, 640, .inl ym5)), (yhbx, .inl (k.2.2.2, 3, .inl ym6)), (ybx, .inl (k.2.1, 48, .inl ym7))] := hD
    refine W.widen (k := 119) (n := 46443) (Nat.le_of_ble_eq_true rfl) (Nat.le_of_ble_eq_true rfl) ?_
    have hw9 := hw.symm; subst hw9
    refine lv_aload_n hx hb dL_law_1585 rfl (lv_at hl 2 rfl) ?_
    refine lv_aload_n hx hb dL_law_1586 rfl (lv_at hl 0 rfl) ?_
    refine lv_iload_n hx hb dL_law_1587 rfl (lv_at hl 3 rfl) ?_
    refine lv_iconst (v := 1) hx hb dL_law_1588 (by decide) ?_
    refine lv_iadd hx hb dL_law_1589 ?_
    refine lv_topi (fun y_4 ey_4 => ?_)
    obtain rfl : y_4 = 1 := ey_4.trans (by decide)
    refine va_sld hx hb hX hbl hbA hS hin1 dL_law_1590 ?_
    refine lv_topi (fun y_5 ey_5 => ?_)
    rw [show y_5 = p0 from ey_5.trans hp0.symm]
    have hPc := hP.sub (ws' := [(y, .inr (12, yM)), (ynw, .inl (k.2.1, 16, .inl ym4)), (yhbx, .inl (k.2.2.2, 3, .inl ym6)), (ybx, .inl (k.2.1, 48, .inl ym7))]) [11, 15, 17, 18] rfl
    have hDc := hD.sub (ws' := [(y, .inr (12, yM)), (ynw, .inl (k.2.1, 16, .inl ym4)), (yhbx, .inl (k.2.2.2, 3, .inl ym6)), (ybx, .inl (k.2.1, 48, .inl ym7))]) [11, 15, 17, 18] (by decide) rfl
    have hFc := va_free (wc := [(y, .inr (12, yM)), (ynw, .inl (k.2.1, 16, .inl ym4)), (yhbx, .inl (k.2.2.2, 3, .inl ym6)), (ybx, .inl (k.2.1, 48, .inl ym7))]) hD hS hA [11, 15, 17, 18] rfl
    refine va_calli (va_runV (As := [.int p0]) (rest := [.int (-1)]) ⟨hx, hb, hml, hown, hts⟩ (c_X12_image_a l D k H.size y ynw yhbx ybx yM ym4 ym6 ym7 p0 u_15_76 u_15_87 u_15_88 u_19_6 u_21_all h_lt0) (cwV 1 hts (gd_V hgd m2066 m2067 m2068 m131 m2069) rfl rfl rfl (by decide +kernel) ⟨Nat.le_of_ble_eq_true rfl, Nat.le_of_ble_eq_true rfl⟩) (cP_V hPc hKX hDc (ci := 12) (q0 := 0) rfl rfl) rfl rfl hl.1 rfl (lv_room (Nat.le_of_ble_eq_true rfl)) dL_law_1591 ⟨Nat.le_of_ble_eq_true rfl, Nat.le_of_ble_eq_true rfl⟩) hS (fun q _ h => hFc q h) hFc (fun r_6 u t H1 locs ht hvm hw hB hz1 hk1 hS => ?_)
    obtain ⟨hP1, hD1⟩ := hB
    rw [ht] at hP1
    obtain ⟨hP, hD⟩ := va_join (wr := [(pv, .inr (6, P)), (sl, .inl (k.2.1, 3, .inl g1)), (sp, .inr (6, P2)), (sl2, .inl (k.2.1, 3, .inl g2)), (tp, .inl (k.1, 1600, .inl g3)), (rd, .inr (7, Rd)), (tk, .inr (9, K)), (ln, .inr (3, N)), (fo, .inl (k.2.1, 3, .inl g4)), (kp, .inl (k.2.1, 410, .inl f2)), (si, .inr (8, Z)), (ytp, .inl (k.2.1, 1600, .inl ym1)), (yns, .inl (k.2.1, 3, .inl ym2)), (yss, .inl (k.2.1, 3, .inl ym3)), (ywe, .inl (k.2.1, 640, .inl ym5))]) (w1 := []) hP hD [11, 15, 17, 18] [0, 1, 2, 3, 4, 5, 6, 7, 8, 9, 10, 12, 13, 14, 16] rfl rfl (by decide) (by decide) hk1 hFc hP1 hD1
    generalize H1 = H at hP hS ⊢
    have hP : va_P D classes [(pv, .inr (6, P)), (sl, .inl (k.2.1, 3, .inl g1)), (sp, .inr (6, P2)), (sl2, .inl (k.2.1, 3, .inl g2)), (tp, .inl (k.1, 1600, .inl g3)), (rd, .inr (7, Rd)), (tk, .inr (9, K)), (ln, .inr (3, N)), (fo, .inl (k.2.1, 3, .inl g4)), (kp, .inl (k.2.1, 410, .inl f2)), (si, .inr (8, Z)), (ytp, .inl (k.2.1, 1600, .inl ym1)), (yns, .inl (k.2.1, 3, .inl ym2)), (yss, .inl (k.2.1, 3, .inl ym3)), (ywe, .inl (k.2.1, 640, .inl ym5))] H := hP
    have hD : va_D A [(pv, .inr (6, P)), (sl, .inl (k.2.1, 3, .inl g1)), (sp, .inr (6, P2)), (sl2, .inl (k.2.1, 3, .inl g2)), (tp, .inl (k.1, 1600, .inl g3)), (rd, .inr (7, Rd)), (tk, .inr (9, K)), (ln, .inr (3, N)), (fo, .inl (k.2.1, 3, .inl g4)), (kp, .inl (k.2.1, 410, .inl f2)), (si, .inr (8, Z)), (ytp, .inl (k.2.1, 1600, .inl ym1)), (yns, .inl (k.2.1, 3, .inl ym2)), (yss, .inl (k.2.1, 3, .inl ym3)), (ywe, .inl (k.2.1, 640, .inl ym5))] := hD
    refine W.widen (k := 119) (n := 46443) (Nat.le_of_ble_eq_true rfl) (Nat.le_of_ble_eq_true rfl) ?_
    have hw9 := hw.symm; subst hw9
    refine lv_icmp_eq (tgt := 1645) hx hb dL_law_1594 (by decide) (fun c_7 => ?_) (fun c_7 => ?_)
    · have c_7 : ((-1) : Int32) = (-1) := c_7
      exact law_tail rfl C0 hKX hA hA2 hbA hS (lv_sub hl [0, 1, 2, 3] rfl)
    · exact absurd rfl c_7
  have h_nlt0 : ¬ (p0 < 0) := h_lt0
  by_cases h_ge3 : 3 ≤ p0
  · skip
    refine lv_aload_n hx hb dL_law_1576 rfl (lv_at hl 1 rfl) ?_
    refine lv_aload_n hx hb dL_law_1577 rfl (lv_at hl 0 rfl) ?_
    refine lv_iload_n hx hb dL_law_1578 rfl (lv_at hl 3 rfl) ?_
    refine lv_iconst (v := 1) hx hb dL_law_1579 (by decide) ?_
    refine lv_iadd hx hb dL_law_1580 ?_
    refine lv_topi (fun y_8 ey_8 => ?_)
    obtain rfl : y_8 = 1 := ey_8.trans (by decide)
    refine va_sld hx hb hX hbl hbA hS hin1 dL_law_1581 ?_
    refine lv_topi (fun y_9 ey_9 => ?_)
    rw [show y_9 = p0 from ey_9.trans hp0.symm]
    have hPc := hP.sub (ws' := [(x, .inr (11, F)), (ea, .inr (1, E)), (nw, .inl (k.2.1, 10, .inl f1)), (bx, .inl (k.2.1, 30, .inl f3))]) [0, 10, 11, 13] rfl
    have hDc := hD.sub (ws' := [(x, .inr (11, F)), (ea, .inr (1, E)), (nw, .inl (k.2.1, 10, .inl f1)), (bx, .inl (k.2.1, 30, .inl f3))]) [0, 10, 11, 13] (by decide) rfl
    have hFc := va_free (wc := [(x, .inr (11, F)), (ea, .inr (1, E)), (nw, .inl (k.2.1, 10, .inl f1)), (bx, .inl (k.2.1, 30, .inl f3))]) hD hS hA [0, 10, 11, 13] rfl
    refine va_calli (va_runV (As := [.int p0]) (rest := []) ⟨hx, hb, hml, hown, hts⟩ (c_X11_image_b l D k H.size x ea nw bx F E f1 f3 p0 u_0_8 u_10_0 u_10_2 u_10_3 u_11_6 h_nlt0 h_ge3) (cwV 1 hts (gd_V hgd m1287 m1288 m1289 m117 m1290) rfl rfl rfl (by decide +kernel) ⟨Nat.le_of_ble_eq_true rfl, Nat.le_of_ble_eq_true rfl⟩) (cP_V hPc hKX hDc (ci := 11) (q0 := 0) rfl rfl) rfl rfl hl.1 rfl (lv_room (Nat.le_of_ble_eq_true rfl)) dL_law_1582 ⟨Nat.le_of_ble_eq_true rfl, Nat.le_of_ble_eq_true rfl⟩) hS (fun q _ h => hFc q h) hFc (fun r_10 u t H1 locs ht hvm hw hB hz1 hk1 hS => ?_)
    obtain ⟨hP1, hD1⟩ := hB
    rw [ht] at hP1
    obtain ⟨hP, hD⟩ := va_join (wr := [(pv, .inr (6, P)), (sl, .inl (k.2.1, 3, .inl g1)), (sp, .inr (6, P2)), (sl2, .inl (k.2.1, 3, .inl g2)), (tp, .inl (k.1, 1600, .inl g3)), (rd, .inr (7, Rd)), (tk, .inr (9, K)), (ln, .inr (3, N)), (fo, .inl (k.2.1, 3, .inl g4)), (kp, .inl (k.2.1, 410, .inl f2)), (si, .inr (8, Z)), (y, .inr (12, yM)), (ytp, .inl (k.2.1, 1600, .inl ym1)), (yns, .inl (k.2.1, 3, .inl ym2)), (yss, .inl (k.2.1, 3, .inl ym3)), (ynw, .inl (k.2.1, 16, .inl ym4)), (ywe, .inl (k.2.1, 640, .inl ym5)), (yhbx, .inl (k.2.2.2, 3, .inl ym6)), (ybx, .inl (k.2.1, 48, .inl ym7))]) (w1 := []) hP hD [0, 10, 11, 13] [1, 2, 3, 4, 5, 6, 7, 8, 9, 12, 14, 15, 16, 17, 18, 19, 20, 21, 22] rfl rfl (by decide) (by decide) hk1 hFc hP1 hD1
    generalize H1 = H at hP hS ⊢
    have hP : va_P D classes [(pv, .inr (6, P)), (sl, .inl (k.2.1, 3, .inl g1)), (sp, .inr (6, P2)), (sl2, .inl (k.2.1, 3, .inl g2)), (tp, .inl (k.1, 1600, .inl g3)), (rd, .inr (7, Rd)), (tk, .inr (9, K)), (ln, .inr (3, N)), (fo, .inl (k.2.1, 3, .inl g4)), (kp, .inl (k.2.1, 410, .inl f2)), (si, .inr (8, Z)), (y, .inr (12, yM)), (ytp, .inl (k.2.1, 1600, .inl ym1)), (yns, .inl (k.2.1, 3, .inl ym2)), (yss, .inl (k.2.1, 3, .inl ym3)), (ynw, .inl (k.2.1, 16, .inl ym4)), (ywe, .inl (k.2.1, 640, .inl ym5)), (yhbx, .inl (k.2.2.2, 3, .inl ym6)), (ybx, .inl (k.2.1, 48, .inl ym7))] H := hP
    have hD : va_D A [(pv, .inr (6, P)), (sl, .inl (k.2.1, 3, .inl g1)), (sp, .inr (6, P2)), (sl2, .inl (k.2.1, 3, .inl g2)), (tp, .inl (k.1, 1600, .inl g3)), (rd, .inr (7, Rd)), (tk, .inr (9, K)), (ln, .inr (3, N)), (fo, .inl (k.2.1, 3, .inl g4)), (kp, .inl (k.2.1, 410, .inl f2)), (si, .inr (8, Z)), (y, .inr (12, yM)), (ytp, .inl (k.2.1, 1600, .inl ym1)), (yns, .inl (k.2.1, 3, .inl ym2)), (yss, .inl (k.2.1, 3, .inl ym3)), (ynw, .inl (k.2.1, 16, .inl ym4)), (ywe, .inl (k.2.1, 640, .inl ym5)), (yhbx, .inl (k.2.2.2, 3, .inl ym6)), (ybx, .inl (k.2.1, 48, .inl ym7))] := hD
    refine W.widen (k := 119) (n := 46443) (Nat.le_of_ble_eq_true rfl) (Nat.le_of_ble_eq_true rfl) ?_
    have hw9 := hw.symm; subst hw9
    refine lv_aload_n hx hb dL_law_1585 rfl (lv_at hl 2 rfl) ?_
    refine lv_aload_n hx hb dL_law_1586 rfl (lv_at hl 0 rfl) ?_
    refine lv_iload_n hx hb dL_law_1587 rfl (lv_at hl 3 rfl) ?_
    refine lv_iconst (v := 1) hx hb dL_law_1588 (by decide) ?_
    refine lv_iadd hx hb dL_law_1589 ?_
    refine lv_topi (fun y_11 ey_11 => ?_)
    obtain rfl : y_11 = 1 := ey_11.trans (by decide)
    refine va_sld hx hb hX hbl hbA hS hin1 dL_law_1590 ?_
    refine lv_topi (fun y_12 ey_12 => ?_)
    rw [show y_12 = p0 from ey_12.trans hp0.symm]
    have hPc := hP.sub (ws' := [(y, .inr (12, yM)), (ynw, .inl (k.2.1, 16, .inl ym4)), (yhbx, .inl (k.2.2.2, 3, .inl ym6)), (ybx, .inl (k.2.1, 48, .inl ym7))]) [11, 15, 17, 18] rfl
    have hDc := hD.sub (ws' := [(y, .inr (12, yM)), (ynw, .inl (k.2.1, 16, .inl ym4)), (yhbx, .inl (k.2.2.2, 3, .inl ym6)), (ybx, .inl (k.2.1, 48, .inl ym7))]) [11, 15, 17, 18] (by decide) rfl
    have hFc := va_free (wc := [(y, .inr (12, yM)), (ynw, .inl (k.2.1, 16, .inl ym4)), (yhbx, .inl (k.2.2.2, 3, .inl ym6)), (ybx, .inl (k.2.1, 48, .inl ym7))]) hD hS hA [11, 15, 17, 18] rfl
    refine va_calli (va_runV (As := [.int p0]) (rest := [.int (-1)]) ⟨hx, hb, hml, hown, hts⟩ (c_X12_image_b l D k H.size y ynw yhbx ybx yM ym4 ym6 ym7 p0 u_15_76 u_15_87 u_15_88 u_19_6 u_21_all h_nlt0 h_ge3) (cwV 1 hts (gd_V hgd m2066 m2067 m2068 m131 m2069) rfl rfl rfl (by decide +kernel) ⟨Nat.le_of_ble_eq_true rfl, Nat.le_of_ble_eq_true rfl⟩) (cP_V hPc hKX hDc (ci := 12) (q0 := 0) rfl rfl) rfl rfl hl.1 rfl (lv_room (Nat.le_of_ble_eq_true rfl)) dL_law_1591 ⟨Nat.le_of_ble_eq_true rfl, Nat.le_of_ble_eq_true rfl⟩) hS (fun q _ h => hFc q h) hFc (fun r_13 u t H1 locs ht hvm hw hB hz1 hk1 hS => ?_)
    obtain ⟨hP1, hD1⟩ := hB
    rw [ht] at hP1
    obtain ⟨hP, hD⟩ := va_join (wr := [(pv, .inr (6, P)), (sl, .inl (k.2.1, 3, .inl g1)), (sp, .inr (6, P2)), (sl2, .inl (k.2.1, 3, .inl g2)), (tp, .inl (k.1, 1600, .inl g3)), (rd, .inr (7, Rd)), (tk, .inr (9, K)), (ln, .inr (3, N)), (fo, .inl (k.2.1, 3, .inl g4)), (kp, .inl (k.2.1, 410, .inl f2)), (si, .inr (8, Z)), (ytp, .inl (k.2.1, 1600, .inl ym1)), (yns, .inl (k.2.1, 3, .inl ym2)), (yss, .inl (k.2.1, 3, .inl ym3)), (ywe, .inl (k.2.1, 640, .inl ym5))]) (w1 := []) hP hD [11, 15, 17, 18] [0, 1, 2, 3, 4, 5, 6, 7, 8, 9, 10, 12, 13, 14, 16] rfl rfl (by decide) (by decide) hk1 hFc hP1 hD1
    generalize H1 = H at hP hS ⊢
    have hP : va_P D classes [(pv, .inr (6, P)), (sl, .inl (k.2.1, 3, .inl g1)), (sp, .inr (6, P2)), (sl2, .inl (k.2.1, 3, .inl g2)), (tp, .inl (k.1, 1600, .inl g3)), (rd, .inr (7, Rd)), (tk, .inr (9, K)), (ln, .inr (3, N)), (fo, .inl (k.2.1, 3, .inl g4)), (kp, .inl (k.2.1, 410, .inl f2)), (si, .inr (8, Z)), (ytp, .inl (k.2.1, 1600, .inl ym1)), (yns, .inl (k.2.1, 3, .inl ym2)), (yss, .inl (k.2.1, 3, .inl ym3)), (ywe, .inl (k.2.1, 640, .inl ym5))] H := hP
    have hD : va_D A [(pv, .inr (6, P)), (sl, .inl (k.2.1, 3, .inl g1)), (sp, .inr (6, P2)), (sl2, .inl (k.2.1, 3, .inl g2)), (tp, .inl (k.1, 1600, .inl g3)), (rd, .inr (7, Rd)), (tk, .inr (9, K)), (ln, .inr (3, N)), (fo, .inl (k.2.1, 3, .inl g4)), (kp, .inl (k.2.1, 410, .inl f2)), (si, .inr (8, Z)), (ytp, .inl (k.2.1, 1600, .inl ym1)), (yns, .inl (k.2.1, 3, .inl ym2)), (yss, .inl (k.2.1, 3, .inl ym3)), (ywe, .inl (k.2.1, 640, .inl ym5))] := hD
    refine W.widen (k := 119) (n := 46443) (Nat.le_of_ble_eq_true rfl) (Nat.le_of_ble_eq_true rfl) ?_
    have hw9 := hw.symm; subst hw9
    refine lv_icmp_eq (tgt := 1645) hx hb dL_law_1594 (by decide) (fun c_14 => ?_) (fun c_14 => ?_)
    · have c_14 : ((-1) : Int32) = (-1) := c_14
      exact law_tail rfl C0 hKX hA hA2 hbA hS (lv_sub hl [0, 1, 2, 3] rfl)
    · exact absurd rfl c_14
  have h_nge3 : ¬ (3 ≤ p0) := h_ge3
  refine lv_aload_n hx hb dL_law_1576 rfl (lv_at hl 1 rfl) ?_
  refine lv_aload_n hx hb dL_law_1577 rfl (lv_at hl 0 rfl) ?_
  refine lv_iload_n hx hb dL_law_1578 rfl (lv_at hl 3 rfl) ?_
  refine lv_iconst (v := 1) hx hb dL_law_1579 (by decide) ?_
  refine lv_iadd hx hb dL_law_1580 ?_
  refine lv_topi (fun y_15 ey_15 => ?_)
  obtain rfl : y_15 = 1 := ey_15.trans (by decide)
  refine va_sld hx hb hX hbl hbA hS hin1 dL_law_1581 ?_
  refine lv_topi (fun y_16 ey_16 => ?_)
  rw [show y_16 = p0 from ey_16.trans hp0.symm]
  have hPc := hP.sub (ws' := [(x, .inr (11, F)), (ea, .inr (1, E)), (nw, .inl (k.2.1, 10, .inl f1)), (bx, .inl (k.2.1, 30, .inl f3))]) [0, 10, 11, 13] rfl
  have hDc := hD.sub (ws' := [(x, .inr (11, F)), (ea, .inr (1, E)), (nw, .inl (k.2.1, 10, .inl f1)), (bx, .inl (k.2.1, 30, .inl f3))]) [0, 10, 11, 13] (by decide) rfl
  have hFc := va_free (wc := [(x, .inr (11, F)), (ea, .inr (1, E)), (nw, .inl (k.2.1, 10, .inl f1)), (bx, .inl (k.2.1, 30, .inl f3))]) hD hS hA [0, 10, 11, 13] rfl
  refine va_calli (va_runV (As := [.int p0]) (rest := []) ⟨hx, hb, hml, hown, hts⟩ (c_X11_image_c l D k H.size x ea nw bx F E f1 f3 p0 u_0_8 u_10_0 u_10_2 u_10_3 u_11_6 h_nlt0 h_nge3) (cwV 1 hts (gd_V hgd m1287 m1288 m1289 m117 m1290) rfl rfl rfl (by decide +kernel) ⟨Nat.le_of_ble_eq_true rfl, Nat.le_of_ble_eq_true rfl⟩) (cP_V hPc hKX hDc (ci := 11) (q0 := 0) rfl rfl) rfl rfl hl.1 rfl (lv_room (Nat.le_of_ble_eq_true rfl)) dL_law_1582 ⟨Nat.le_of_ble_eq_true rfl, Nat.le_of_ble_eq_true rfl⟩) hS (fun q _ h => hFc q h) hFc (fun r_17 u t H1 locs ht hvm hw hB hz1 hk1 hS => ?_)
  obtain ⟨hP1, hD1⟩ := hB
  rw [ht] at hP1
  obtain ⟨hP, hD⟩ := va_join (wr := [(pv, .inr (6, P)), (sl, .inl (k.2.1, 3, .inl g1)), (sp, .inr (6, P2)), (sl2, .inl (k.2.1, 3, .inl g2)), (tp, .inl (k.1, 1600, .inl g3)), (rd, .inr (7, Rd)), (tk, .inr (9, K)), (ln, .inr (3, N)), (fo, .inl (k.2.1, 3, .inl g4)), (kp, .inl (k.2.1, 410, .inl f2)), (si, .inr (8, Z)), (y, .inr (12, yM)), (ytp, .inl (k.2.1, 1600, .inl ym1)), (yns, .inl (k.2.1, 3, .inl ym2)), (yss, .inl (k.2.1, 3, .inl ym3)), (ynw, .inl (k.2.1, 16, .inl ym4)), (ywe, .inl (k.2.1, 640, .inl ym5)), (yhbx, .inl (k.2.2.2, 3, .inl ym6)), (ybx, .inl (k.2.1, 48, .inl ym7))]) (w1 := []) hP hD [0, 10, 11, 13] [1, 2, 3, 4, 5, 6, 7, 8, 9, 12, 14, 15, 16, 17, 18, 19, 20, 21, 22] rfl rfl (by decide) (by decide) hk1 hFc hP1 hD1
  generalize H1 = H at hP hS ⊢
  have hP : va_P D classes [(pv, .inr (6, P)), (sl, .inl (k.2.1, 3, .inl g1)), (sp, .inr (6, P2)), (sl2, .inl (k.2.1, 3, .inl g2)), (tp, .inl (k.1, 1600, .inl g3)), (rd, .inr (7, Rd)), (tk, .inr (9, K)), (ln, .inr (3, N)), (fo, .inl (k.2.1, 3, .inl g4)), (kp, .inl (k.2.1, 410, .inl f2)), (si, .inr (8, Z)), (y, .inr (12, yM)), (ytp, .inl (k.2.1, 1600, .inl ym1)), (yns, .inl (k.2.1, 3, .inl ym2)), (yss, .inl (k.2.1, 3, .inl ym3)), (ynw, .inl (k.2.1, 16, .inl ym4)), (ywe, .inl (k.2.1, 640, .inl ym5)), (yhbx, .inl (k.2.2.2, 3, .inl ym6)), (ybx, .inl (k.2.1, 48, .inl ym7))] H := hP
  have hD : va_D A [(pv, .inr (6, P)), (sl, .inl (k.2.1, 3, .inl g1)), (sp, .inr (6, P2)), (sl2, .inl (k.2.1, 3, .inl g2)), (tp, .inl (k.1, 1600, .inl g3)), (rd, .inr (7, Rd)), (tk, .inr (9, K)), (ln, .inr (3, N)), (fo, .inl (k.2.1, 3, .inl g4)), (kp, .inl (k.2.1, 410, .inl f2)), (si, .inr (8, Z)), (y, .inr (12, yM)), (ytp, .inl (k.2.1, 1600, .inl ym1)), (yns, .inl (k.2.1, 3, .inl ym2)), (yss, .inl (k.2.1, 3, .inl ym3)), (ynw, .inl (k.2.1, 16, .inl ym4)), (ywe, .inl (k.2.1, 640, .inl ym5)), (yhbx, .inl (k.2.2.2, 3, .inl ym6)), (ybx, .inl (k.2.1, 48, .inl ym7))] := hD
  refine W.widen (k := 119) (n := 46443) (Nat.le_of_ble_eq_true rfl) (Nat.le_of_ble_eq_true rfl) ?_
  have hw9 := hw.symm; subst hw9
  refine lv_aload_n hx hb dL_law_1585 rfl (lv_at hl 2 rfl) ?_
  refine lv_aload_n hx hb dL_law_1586 rfl (lv_at hl 0 rfl) ?_
  refine lv_iload_n hx hb dL_law_1587 rfl (lv_at hl 3 rfl) ?_
  refine lv_iconst (v := 1) hx hb dL_law_1588 (by decide) ?_
  refine lv_iadd hx hb dL_law_1589 ?_
  refine lv_topi (fun y_18 ey_18 => ?_)
  obtain rfl : y_18 = 1 := ey_18.trans (by decide)
  refine va_sld hx hb hX hbl hbA hS hin1 dL_law_1590 ?_
  refine lv_topi (fun y_19 ey_19 => ?_)
  rw [show y_19 = p0 from ey_19.trans hp0.symm]
  have hPc := hP.sub (ws' := [(y, .inr (12, yM)), (ynw, .inl (k.2.1, 16, .inl ym4)), (yhbx, .inl (k.2.2.2, 3, .inl ym6)), (ybx, .inl (k.2.1, 48, .inl ym7))]) [11, 15, 17, 18] rfl
  have hDc := hD.sub (ws' := [(y, .inr (12, yM)), (ynw, .inl (k.2.1, 16, .inl ym4)), (yhbx, .inl (k.2.2.2, 3, .inl ym6)), (ybx, .inl (k.2.1, 48, .inl ym7))]) [11, 15, 17, 18] (by decide) rfl
  have hFc := va_free (wc := [(y, .inr (12, yM)), (ynw, .inl (k.2.1, 16, .inl ym4)), (yhbx, .inl (k.2.2.2, 3, .inl ym6)), (ybx, .inl (k.2.1, 48, .inl ym7))]) hD hS hA [11, 15, 17, 18] rfl
  refine va_calli (va_runV (As := [.int p0]) (rest := [.int 0]) ⟨hx, hb, hml, hown, hts⟩ (c_X12_image_c l D k H.size y ynw yhbx ybx yM ym4 ym6 ym7 p0 u_15_76 u_15_87 u_15_88 u_19_6 u_21_all h_nlt0 h_nge3) (cwV 1 hts (gd_V hgd m2066 m2067 m2068 m131 m2069) rfl rfl rfl (by decide +kernel) ⟨Nat.le_of_ble_eq_true rfl, Nat.le_of_ble_eq_true rfl⟩) (cP_V hPc hKX hDc (ci := 12) (q0 := 0) rfl rfl) rfl rfl hl.1 rfl (lv_room (Nat.le_of_ble_eq_true rfl)) dL_law_1591 ⟨Nat.le_of_ble_eq_true rfl, Nat.le_of_ble_eq_true rfl⟩) hS (fun q _ h => hFc q h) hFc (fun r_20 u t H1 locs ht hvm hw hB hz1 hk1 hS => ?_)
  obtain ⟨hP1, hD1⟩ := hB
  rw [ht] at hP1
  obtain ⟨hP, hD⟩ := va_join (wr := [(pv, .inr (6, P)), (sl, .inl (k.2.1, 3, .inl g1)), (sp, .inr (6, P2)), (sl2, .inl (k.2.1, 3, .inl g2)), (tp, .inl (k.1, 1600, .inl g3)), (rd, .inr (7, Rd)), (tk, .inr (9, K)), (ln, .inr (3, N)), (fo, .inl (k.2.1, 3, .inl g4)), (kp, .inl (k.2.1, 410, .inl f2)), (si, .inr (8, Z)), (ytp, .inl (k.2.1, 1600, .inl ym1)), (yns, .inl (k.2.1, 3, .inl ym2)), (yss, .inl (k.2.1, 3, .inl ym3)), (ywe, .inl (k.2.1, 640, .inl ym5))]) (w1 := []) hP hD [11, 15, 17, 18] [0, 1, 2, 3, 4, 5, 6, 7, 8, 9, 10, 12, 13, 14, 16] rfl rfl (by decide) (by decide) hk1 hFc hP1 hD1
  generalize H1 = H at hP hS ⊢
  have hP : va_P D classes [(pv, .inr (6, P)), (sl, .inl (k.2.1, 3, .inl g1)), (sp, .inr (6, P2)), (sl2, .inl (k.2.1, 3, .inl g2)), (tp, .inl (k.1, 1600, .inl g3)), (rd, .inr (7, Rd)), (tk, .inr (9, K)), (ln, .inr (3, N)), (fo, .inl (k.2.1, 3, .inl g4)), (kp, .inl (k.2.1, 410, .inl f2)), (si, .inr (8, Z)), (ytp, .inl (k.2.1, 1600, .inl ym1)), (yns, .inl (k.2.1, 3, .inl ym2)), (yss, .inl (k.2.1, 3, .inl ym3)), (ywe, .inl (k.2.1, 640, .inl ym5))] H := hP
  have hD : va_D A [(pv, .inr (6, P)), (sl, .inl (k.2.1, 3, .inl g1)), (sp, .inr (6, P2)), (sl2, .inl (k.2.1, 3, .inl g2)), (tp, .inl (k.1, 1600, .inl g3)), (rd, .inr (7, Rd)), (tk, .inr (9, K)), (ln, .inr (3, N)), (fo, .inl (k.2.1, 3, .inl g4)), (kp, .inl (k.2.1, 410, .inl f2)), (si, .inr (8, Z)), (ytp, .inl (k.2.1, 1600, .inl ym1)), (yns, .inl (k.2.1, 3, .inl ym2)), (yss, .inl (k.2.1, 3, .inl ym3)), (ywe, .inl (k.2.1, 640, .inl ym5))] := hD
  refine W.widen (k := 119) (n := 46443) (Nat.le_of_ble_eq_true rfl) (Nat.le_of_ble_eq_true rfl) ?_
  have hw9 := hw.symm; subst hw9
  refine lv_icmp_eq (tgt := 1645) hx hb dL_law_1594 (by decide) (fun c_21 => ?_) (fun c_21 => ?_)
  · have c_21 : (0 : Int32) = 0 := c_21
    exact law_tail rfl C0 hKX hA hA2 hbA hS (lv_sub hl [0, 1, 2, 3] rfl)
  · exact absurd rfl c_21

set_option maxHeartbeats 4000000 in
set_option maxRecDepth 100000 in
theorem law_37 {p : Program} {l : Launch} {e : Env} {s : State} {m : MethodId} {below : List Frame} {meth : Method} {c : Code} {D : va_G} {k : ClassId × ClassId × ClassId × ClassId} {A : Nat → Prop} {b L : Nat} {xs : Nat → Int32} (hL : L = 6) (C0 : lw_At p s m meth c b L xs) (hKX : va_K D classes (TY k) s ∧ cX s) (hA : ∀ q : Nat, s.heap.size ≤ q → A q) (hA2 : ∀ q : Nat, A q → s.heap.size ≤ q) (hbA : ¬ A b) {x y : Nat} {H : Heap} {locs : List Loc} (hF : Fresh D k A x y H) (hS : va_S A s.heap H locs) {ls : Array Slot} (hl : lv_has ls 4 [(0, .ref b), (1, .ref x), (2, .ref y), (3, .int 0)]) : W p l e room_1 s m #[Value.ref b] below meth c H locs 119 46443 (lw_Z below #[Value.ref b] s) (F0 m 1599 ls []) := by
  obtain ⟨hx, hb, hr, hml, hown, hts, hX, hbl, hlocks, hgv⟩ := id C0
  have hown : s.vm.findClass RL = some m.cls := hown
  have hK := hKX.1
  have hgd : ∀ w ∈ gd, w ∈ lw_tbl := fun w h => (List.mem_filter.mp h).1
  have hg : ∀ w ∈ gd, w.before #[Value.ref b] s = true := fun w h => hts w (hgd w h)
  subst hL
  obtain ⟨F, pv, P, sl, g1, sp, P2, sl2, g2, tp, g3, rd, Rd, tk, K, ln, N, fo, g4, ea, E, nw, f1, kp, f2, bx, f3, si, Z, yM, ytp, ym1, yns, ym2, yss, ym3, ynw, ym4, ywe, ym5, yhbx, ym6, ybx, ym7, hf_0, hf_1, hf_2, hf_3, hf_4, hf_6, hf_7, hf_8, hf_10, hf_11, hf_14, hf_15, hf_18, hf_19, hf_21, hP, hD⟩ := hF
  have u_0_8 : F[8]? = some (.ref ea) := hf_0.2.2.2.2.2.2.2.1
  have u_10_3 : E[3]? = some (.int 0) := hf_10.2.2.2.1
  have u_15_87 : yM[87]? = some (.ref yhbx) := hf_15.2.2.2.2.2.2.2.2.2.2.2.2.2.2.2.2.2.2.2.2.2.2.2.2.2.2.2.2.2.2.2.2.1
  have u_21_all : (∀ j, ym6 j = 0) := hf_21
  have hin1 : vp_in 1 6 := (show ¬ ((1 : Int32) < 0 ∨ 6 ≤ (1 : Int32).toNatClampNeg) from by decide)
  have hin2 : vp_in 2 6 := (show ¬ ((2 : Int32) < 0 ∨ 6 ≤ (2 : Int32).toNatClampNeg) from by decide)
  have hin3 : vp_in 3 6 := (show ¬ ((3 : Int32) < 0 ∨ 6 ≤ (3 : Int32).toNatClampNeg) from by decide)
  have hin4 : vp_in 4 6 := (show ¬ ((4 : Int32) < 0 ∨ 6 ≤ (4 : Int32).toNatClampNeg) from by decide)
  have hin5 : vp_in 5 6 := (show ¬ ((5 : Int32) < 0 ∨ 6 ≤ (5 : Int32).toNatClampNeg) from by decide)
  obtain ⟨p0, hp0⟩ : ∃ z, z = xs 1 := ⟨_, rfl⟩
  obtain ⟨p1, hp1⟩ : ∃ z, z = xs 2 := ⟨_, rfl⟩
  obtain ⟨p2, hp2⟩ : ∃ z, z = xs 3 := ⟨_, rfl⟩
  obtain ⟨p3, hp3⟩ : ∃ z, z = xs 4 := ⟨_, rfl⟩
  obtain ⟨p4, hp4⟩ : ∃ z, z = xs 5 := ⟨_, rfl⟩
  by_cases h_lt0 : p0 < 0
  · skip
    refine lv_aload_n hx hb dL_law_1599 rfl (lv_at hl 1 rfl) ?_
    refine lv_aload_n hx hb dL_law_1600 rfl (lv_at hl 0 rfl) ?_
    refine lv_iload_n hx hb dL_law_1601 rfl (lv_at hl 3 rfl) ?_
    refine lv_iconst (v := 1) hx hb dL_law_1602 (by decide) ?_
    refine lv_iadd hx hb dL_law_1603 ?_
    refine lv_topi (fun y_1 ey_1 => ?_)
    obtain rfl : y_1 = 1 := ey_1.trans (by decide)
    refine va_sld hx hb hX hbl hbA hS hin1 dL_law_1604 ?_
    refine lv_topi (fun y_2 ey_2 => ?_)
    rw [show y_2 = p0 from ey_2.trans hp0.symm]
    have hPc := hP.sub (ws' := [(x, .inr (11, F)), (ea, .inr (1, E))]) [0, 10] rfl
    have hDc := hD.sub (ws' := [(x, .inr (11, F)), (ea, .inr (1, E))]) [0, 10] (by decide) rfl
    have hFc := va_free (wc := [(x, .inr (11, F)), (ea, .inr (1, E))]) hD hS hA [0, 10] rfl
    refine va_calli (va_runV (As := [.int p0]) (rest := []) ⟨hx, hb, hml, hown, hts⟩ (c_X11_back_a l D k H.size x ea F E p0 u_0_8 u_10_3 h_lt0) (cwV 1 hts (gd_V hgd m1295 m1296 m1297 m117 m1298) rfl rfl rfl (by decide +kernel) ⟨Nat.le_of_ble_eq_true rfl, Nat.le_of_ble_eq_true rfl⟩) (cP_V hPc hKX hDc (ci := 11) (q0 := 0) rfl rfl) rfl rfl hl.1 rfl (lv_room (Nat.le_of_ble_eq_true rfl)) dL_law_1605 ⟨Nat.le_of_ble_eq_true rfl, Nat.le_of_ble_eq_true rfl⟩) hS (fun q _ h => hFc q h) hFc (fun r_3 u t H1 locs ht hvm hw hB hz1 hk1 hS => ?_)
    obtain ⟨hP1, hD1⟩ := hB
    rw [ht] at hP1
    obtain ⟨hP, hD⟩ := va_join (wr := [(pv, .inr (6, P)), (sl, .inl (k.2.1, 3, .inl g1)), (sp, .inr (6, P2)), (sl2, .inl (k.2.1, 3, .inl g2)), (tp, .inl (k.1, 1600, .inl g3)), (rd, .inr (7, Rd)), (tk, .inr (9, K)), (ln, .inr (3, N)), (fo, .inl (k.2.1, 3, .inl g4)), (nw, .inl (k.2.1, 10, .inl f1)), (kp, .inl (k.2.1, 410, .inl f2)), (bx, .inl (k.2.1, 30, .inl f3)), (si, .inr (8, Z)), (y, .inr (12, yM)), (ytp, .inl (k.2.1, 1600, .inl ym1)), (yns, .inl (k.2.1, 3, .inl ym2)), (yss, .inl (k.2.1, 3, .inl ym3)), (ynw, .inl (k.2.1, 16, .inl ym4)), (ywe, .inl (k.2.1, 640, .inl ym5)), (yhbx, .inl (k.2.2.2, 3, .inl ym6)), (ybx, .inl (k.2.1, 48, .inl ym7))]) (w1 := []) hP hD [0, 10] [1, 2, 3, 4, 5, 6, 7, 8, 9, 11, 12, 13, 14, 15, 16, 17, 18, 19, 20, 21, 22] rfl rfl (by decide) (by decide) hk1 hFc hP1 hD1
    generalize H1 = H at hP hS ⊢
    have hP : va_P D classes [(pv, .inr (6, P)), (sl, .inl (k.2.1, 3, .inl g1)), (sp, .inr (6, P2)), (sl2, .inl (k.2.1, 3, .inl g2)), (tp, .inl (k.1, 1600, .inl g3)), (rd, .inr (7, Rd)), (tk, .inr (9, K)), (ln, .inr (3, N)), (fo, .inl (k.2.1, 3, .inl g4)), (nw, .inl (k.2.1, 10, .inl f1)), (kp, .inl (k.2.1, 410, .inl f2)), (bx, .inl (k.2.1, 30, .inl f3)), (si, .inr (8, Z)), (y, .inr (12, yM)), (ytp, .inl (k.2.1, 1600, .inl ym1)), (yns, .inl (k.2.1, 3, .inl ym2)), (yss, .inl (k.2.1, 3, .inl ym3)), (ynw, .inl (k.2.1, 16, .inl ym4)), (ywe, .inl (k.2.1, 640, .inl ym5)), (yhbx, .inl (k.2.2.2, 3, .inl ym6)), (ybx, .inl (k.2.1, 48, .inl ym7))] H := hP
    have hD : va_D A [(pv, .inr (6, P)), (sl, .inl (k.2.1, 3, .inl g1)), (sp, .inr (6, P2)), (sl2, .inl (k.2.1, 3, .inl g2)), (tp, .inl (k.1, 1600, .inl g3)), (rd, .inr (7, Rd)), (tk, .inr (9, K)), (ln, .inr (3, N)), (fo, .inl (k.2.1, 3, .inl g4)), (nw, .inl (k.2.1, 10, .inl f1)), (kp, .inl (k.2.1, 410, .inl f2)), (bx, .inl (k.2.1, 30, .inl f3)), (si, .inr (8, Z)), (y, .inr (12, yM)), (ytp, .inl (k.2.1, 1600, .inl ym1)), (yns, .inl (k.2.1, 3, .inl ym2)), (yss, .inl (k.2.1, 3, .inl ym3)), (ynw, .inl (k.2.1, 16, .inl ym4)), (ywe, .inl (k.2.1, 640, .inl ym5)), (yhbx, .inl (k.2.2.2, 3, .inl ym6)), (ybx, .inl (k.2.1, 48, .inl ym7))] := hD
    refine W.widen (k := 119) (n := 46443) (Nat.le_of_ble_eq_true rfl) (Nat.le_of_ble_eq_true rfl) ?_
    have hw9 := hw.symm; subst hw9
    refine lv_aload_n hx hb dL_law_1608 rfl (lv_at hl 2 rfl) ?_
    refine lv_aload_n hx hb dL_law_1609 rfl (lv_at hl 0 rfl) ?_
    refine lv_iload_n hx hb dL_law_1610 rfl (lv_at hl 3 rfl) ?_
    refine lv_iconst (v := 1) hx hb dL_law_1611 (by decide) ?_
    refine lv_iadd hx hb dL_law_1612 ?_
    refine lv_topi (fun y_4 ey_4 => ?_)
    obtain rfl : y_4 = 1 := ey_4.trans (by decide)
    refine va_sld hx hb hX hbl hbA hS hin1 dL_law_1613 ?_
    refine lv_topi (fun y_5 ey_5 => ?_)
    rw [show y_5 = p0 from ey_5.trans hp0.symm]
    have hPc := hP.sub (ws' := [(y, .inr (12, yM)), (yhbx, .inl (k.2.2.2, 3, .inl ym6))]) [13, 19] rfl
    have hDc := hD.sub (ws' := [(y, .inr (12, yM)), (yhbx, .inl (k.2.2.2, 3, .inl ym6))]) [13, 19] (by decide) rfl
    have hFc := va_free (wc := [(y, .inr (12, yM)), (yhbx, .inl (k.2.2.2, 3, .inl ym6))]) hD hS hA [13, 19] rfl
    refine va_calli (va_runV (As := [.int p0]) (rest := [.int (-1)]) ⟨hx, hb, hml, hown, hts⟩ (c_X12_back_a l D k H.size y yhbx yM ym6 p0 u_15_87 u_21_all h_lt0) (cwV 1 hts (gd_V hgd m2073 m2074 m2075 m131 m2076) rfl rfl rfl (by decide +kernel) ⟨Nat.le_of_ble_eq_true rfl, Nat.le_of_ble_eq_true rfl⟩) (cP_V hPc hKX hDc (ci := 12) (q0 := 0) rfl rfl) rfl rfl hl.1 rfl (lv_room (Nat.le_of_ble_eq_true rfl)) dL_law_1614 ⟨Nat.le_of_ble_eq_true rfl, Nat.le_of_ble_eq_true rfl⟩) hS (fun q _ h => hFc q h) hFc (fun r_6 u t H1 locs ht hvm hw hB hz1 hk1 hS => ?_)
    obtain ⟨hP1, hD1⟩ := hB
    rw [ht] at hP1
    obtain ⟨hP, hD⟩ := va_join (wr := [(pv, .inr (6, P)), (sl, .inl (k.2.1, 3, .inl g1)), (sp, .inr (6, P2)), (sl2, .inl (k.2.1, 3, .inl g2)), (tp, .inl (k.1, 1600, .inl g3)), (rd, .inr (7, Rd)), (tk, .inr (9, K)), (ln, .inr (3, N)), (fo, .inl (k.2.1, 3, .inl g4)), (nw, .inl (k.2.1, 10, .inl f1)), (kp, .inl (k.2.1, 410, .inl f2)), (bx, .inl (k.2.1, 30, .inl f3)), (si, .inr (8, Z)), (ytp, .inl (k.2.1, 1600, .inl ym1)), (yns, .inl (k.2.1, 3, .inl ym2)), (yss, .inl (k.2.1, 3, .inl ym3)), (ynw, .inl (k.2.1, 16, .inl ym4)), (ywe, .inl (k.2.1, 640, .inl ym5)), (ybx, .inl (k.2.1, 48, .inl ym7))]) (w1 := []) hP hD [13, 19] [0, 1, 2, 3, 4, 5, 6, 7, 8, 9, 10, 11, 12, 14, 15, 16, 17, 18, 20] rfl rfl (by decide) (by decide) hk1 hFc hP1 hD1
    generalize H1 = H at hP hS ⊢
    have hP : va_P D classes [(pv, .inr (6, P)), (sl, .inl (k.2.1, 3, .inl g1)), (sp, .inr (6, P2)), (sl2, .inl (k.2.1, 3, .inl g2)), (tp, .inl (k.1, 1600, .inl g3)), (rd, .inr (7, Rd)), (tk, .inr (9, K)), (ln, .inr (3, N)), (fo, .inl (k.2.1, 3, .inl g4)), (nw, .inl (k.2.1, 10, .inl f1)), (kp, .inl (k.2.1, 410, .inl f2)), (bx, .inl (k.2.1, 30, .inl f3)), (si, .inr (8, Z)), (ytp, .inl (k.2.1, 1600, .inl ym1)), (yns, .inl (k.2.1, 3, .inl ym2)), (yss, .inl (k.2.1, 3, .inl ym3)), (ynw, .inl (k.2.1, 16, .inl ym4)), (ywe, .inl (k.2.1, 640, .inl ym5)), (ybx, .inl (k.2.1, 48, .inl ym7))] H := hP
    have hD : va_D A [(pv, .inr (6, P)), (sl, .inl (k.2.1, 3, .inl g1)), (sp, .inr (6, P2)), (sl2, .inl (k.2.1, 3, .inl g2)), (tp, .inl (k.1, 1600, .inl g3)), (rd, .inr (7, Rd)), (tk, .inr (9, K)), (ln, .inr (3, N)), (fo, .inl (k.2.1, 3, .inl g4)), (nw, .inl (k.2.1, 10, .inl f1)), (kp, .inl (k.2.1, 410, .inl f2)), (bx, .inl (k.2.1, 30, .inl f3)), (si, .inr (8, Z)), (ytp, .inl (k.2.1, 1600, .inl ym1)), (yns, .inl (k.2.1, 3, .inl ym2)), (yss, .inl (k.2.1, 3, .inl ym3)), (ynw, .inl (k.2.1, 16, .inl ym4)), (ywe, .inl (k.2.1, 640, .inl ym5)), (ybx, .inl (k.2.1, 48, .inl ym7))] := hD
    refine W.widen (k := 119) (n := 46443) (Nat.le_of_ble_eq_true rfl) (Nat.le_of_ble_eq_true rfl) ?_
    have hw9 := hw.symm; subst hw9
    refine lv_icmp_eq (tgt := 1645) hx hb dL_law_1617 (by decide) (fun c_7 => ?_) (fun c_7 => ?_)
    · have c_7 : ((-1) : Int32) = (-1) := c_7
      exact law_tail rfl C0 hKX hA hA2 hbA hS (lv_sub hl [0, 1, 2, 3] rfl)
    · exact absurd rfl c_7
  have h_nlt0 : ¬ (p0 < 0) := h_lt0
  by_cases h_ge3 : 3 ≤ p0
  · skip
    refine lv_aload_n hx hb dL_law_1599 rfl (lv_at hl 1 rfl) ?_
    refine lv_aload_n hx hb dL_law_1600 rfl (lv_at hl 0 rfl) ?_
    refine lv_iload_n hx hb dL_law_1601 rfl (lv_at hl 3 rfl) ?_
    refine lv_iconst (v := 1) hx hb dL_law_1602 (by decide) ?_
    refine lv_iadd hx hb dL_law_1603 ?_
    refine lv_topi (fun y_8 ey_8 => ?_)
    obtain rfl : y_8 = 1 := ey_8.trans (by decide)
    refine va_sld hx hb hX hbl hbA hS hin1 dL_law_1604 ?_
    refine lv_topi (fun y_9 ey_9 => ?_)
    rw [show y_9 = p0 from ey_9.trans hp0.symm]
    have hPc := hP.sub (ws' := [(x, .inr (11, F)), (ea, .inr (1, E))]) [0, 10] rfl
    have hDc := hD.sub (ws' := [(x, .inr (11, F)), (ea, .inr (1, E))]) [0, 10] (by decide) rfl
    have hFc := va_free (wc := [(x, .inr (11, F)), (ea, .inr (1, E))]) hD hS hA [0, 10] rfl
    refine va_calli (va_runV (As := [.int p0]) (rest := []) ⟨hx, hb, hml, hown, hts⟩ (c_X11_back_b l D k H.size x ea F E p0 u_0_8 u_10_3 h_nlt0 h_ge3) (cwV 1 hts (gd_V hgd m1295 m1296 m1297 m117 m1298) rfl rfl rfl (by decide +kernel) ⟨Nat.le_of_ble_eq_true rfl, Nat.le_of_ble_eq_true rfl⟩) (cP_V hPc hKX hDc (ci := 11) (q0 := 0) rfl rfl) rfl rfl hl.1 rfl (lv_room (Nat.le_of_ble_eq_true rfl)) dL_law_1605 ⟨Nat.le_of_ble_eq_true rfl, Nat.le_of_ble_eq_true rfl⟩) hS (fun q _ h => hFc q h) hFc (fun r_10 u t H1 locs ht hvm hw hB hz1 hk1 hS => ?_)
    obtain ⟨hP1, hD1⟩ := hB
    rw [ht] at hP1
    obtain ⟨hP, hD⟩ := va_join (wr := [(pv, .inr (6, P)), (sl, .inl (k.2.1, 3, .inl g1)), (sp, .inr (6, P2)), (sl2, .inl (k.2.1, 3, .inl g2)), (tp, .inl (k.1, 1600, .inl g3)), (rd, .inr (7, Rd)), (tk, .inr (9, K)), (ln, .inr (3, N)), (fo, .inl (k.2.1, 3, .inl g4)), (nw, .inl (k.2.1, 10, .inl f1)), (kp, .inl (k.2.1, 410, .inl f2)), (bx, .inl (k.2.1, 30, .inl f3)), (si, .inr (8, Z)), (y, .inr (12, yM)), (ytp, .inl (k.2.1, 1600, .inl ym1)), (yns, .inl (k.2.1, 3, .inl ym2)), (yss, .inl (k.2.1, 3, .inl ym3)), (ynw, .inl (k.2.1, 16, .inl ym4)), (ywe, .inl (k.2.1, 640, .inl ym5)), (yhbx, .inl (k.2.2.2, 3, .inl ym6)), (ybx, .inl (k.2.1, 48, .inl ym7))]) (w1 := []) hP hD [0, 10] [1, 2, 3, 4, 5, 6, 7, 8, 9, 11, 12, 13, 14, 15, 16, 17, 18, 19, 20, 21, 22] rfl rfl (by decide) (by decide) hk1 hFc hP1 hD1
    generalize H1 = H at hP hS ⊢
    have hP : va_P D classes [(pv, .inr (6, P)), (sl, .inl (k.2.1, 3, .inl g1)), (sp, .inr (6, P2)), (sl2, .inl (k.2.1, 3, .inl g2)), (tp, .inl (k.1, 1600, .inl g3)), (rd, .inr (7, Rd)), (tk, .inr (9, K)), (ln, .inr (3, N)), (fo, .inl (k.2.1, 3, .inl g4)), (nw, .inl (k.2.1, 10, .inl f1)), (kp, .inl (k.2.1, 410, .inl f2)), (bx, .inl (k.2.1, 30, .inl f3)), (si, .inr (8, Z)), (y, .inr (12, yM)), (ytp, .inl (k.2.1, 1600, .inl ym1)), (yns, .inl (k.2.1, 3, .inl ym2)), (yss, .inl (k.2.1, 3, .inl ym3)), (ynw, .inl (k.2.1, 16, .inl ym4)), (ywe, .inl (k.2.1, 640, .inl ym5)), (yhbx, .inl (k.2.2.2, 3, .inl ym6)), (ybx, .inl (k.2.1, 48, .inl ym7))] H := hP
    have hD : va_D A [(pv, .inr (6, P)), (sl, .inl (k.2.1, 3, .inl g1)), (sp, .inr (6, P2)), (sl2, .inl (k.2.1, 3, .inl g2)), (tp, .inl (k.1, 1600, .inl g3)), (rd, .inr (7, Rd)), (tk, .inr (9, K)), (ln, .inr (3, N)), (fo, .inl (k.2.1, 3, .inl g4)), (nw, .inl (k.2.1, 10, .inl f1)), (kp, .inl (k.2.1, 410, .inl f2)), (bx, .inl (k.2.1, 30, .inl f3)), (si, .inr (8, Z)), (y, .inr (12, yM)), (ytp, .inl (k.2.1, 1600, .inl ym1)), (yns, .inl (k.2.1, 3, .inl ym2)), (yss, .inl (k.2.1, 3, .inl ym3)), (ynw, .inl (k.2.1, 16, .inl ym4)), (ywe, .inl (k.2.1, 640, .inl ym5)), (yhbx, .inl (k.2.2.2, 3, .inl ym6)), (ybx, .inl (k.2.1, 48, .inl ym7))] := hD
    refine W.widen (k := 119) (n := 46443) (Nat.le_of_ble_eq_true rfl) (Nat.le_of_ble_eq_true rfl) ?_
    have hw9 := hw.symm; subst hw9
    refine lv_aload_n hx hb dL_law_1608 rfl (lv_at hl 2 rfl) ?_
    refine lv_aload_n hx hb dL_law_1609 rfl (lv_at hl 0 rfl) ?_
    refine lv_iload_n hx hb dL_law_1610 rfl (lv_at hl 3 rfl) ?_
    refine lv_iconst (v := 1) hx hb dL_law_1611 (by decide) ?_
    refine lv_iadd hx hb dL_law_1612 ?_
    refine lv_topi (fun y_11 ey_11 => ?_)
    obtain rfl : y_11 = 1 := ey_11.trans (by decide)
    refine va_sld hx hb hX hbl hbA hS hin1 dL_law_1613 ?_
    refine lv_topi (fun y_12 ey_12 => ?_)
    rw [show y_12 = p0 from ey_12.trans hp0.symm]
    have hPc := hP.sub (ws' := [(y, .inr (12, yM)), (yhbx, .inl (k.2.2.2, 3, .inl ym6))]) [13, 19] rfl
    have hDc := hD.sub (ws' := [(y, .inr (12, yM)), (yhbx, .inl (k.2.2.2, 3, .inl ym6))]) [13, 19] (by decide) rfl
    have hFc := va_free (wc := [(y, .inr (12, yM)), (yhbx, .inl (k.2.2.2, 3, .inl ym6))]) hD hS hA [13, 19] rfl
    refine va_calli (va_runV (As := [.int p0]) (rest := [.int (-1)]) ⟨hx, hb, hml, hown, hts⟩ (c_X12_back_b l D k H.size y yhbx yM ym6 p0 u_15_87 u_21_all h_nlt0 h_ge3) (cwV 1 hts (gd_V hgd m2073 m2074 m2075 m131 m2076) rfl rfl rfl (by decide +kernel) ⟨Nat.le_of_ble_eq_true rfl, Nat.le_of_ble_eq_true rfl⟩) (cP_V hPc hKX hDc (ci := 12) (q0 := 0) rfl rfl) rfl rfl hl.1 rfl (lv_room (Nat.le_of_ble_eq_true rfl)) dL_law_1614 ⟨Nat.le_of_ble_eq_true rfl, Nat.le_of_ble_eq_true rfl⟩) hS (fun q _ h => hFc q h) hFc (fun r_13 u t H1 locs ht hvm hw hB hz1 hk1 hS => ?_)
    obtain ⟨hP1, hD1⟩ := hB
    rw [ht] at hP1
    obtain ⟨hP, hD⟩ := va_join (wr := [(pv, .inr (6, P)), (sl, .inl (k.2.1, 3, .inl g1)), (sp, .inr (6, P2)), (sl2, .inl (k.2.1, 3, .inl g2)), (tp, .inl (k.1, 1600, .inl g3)), (rd, .inr (7, Rd)), (tk, .inr (9, K)), (ln, .inr (3, N)), (fo, .inl (k.2.1, 3, .inl g4)), (nw, .inl (k.2.1, 10, .inl f1)), (kp, .inl (k.2.1, 410, .inl f2)), (bx, .inl (k.2.1, 30, .inl f3)), (si, .inr (8, Z)), (ytp, .inl (k.2.1, 1600, .inl ym1)), (yns, .inl (k.2.1, 3, .inl ym2)), (yss, .inl (k.2.1, 3, .inl ym3)), (ynw, .inl (k.2.1, 16, .inl ym4)), (ywe, .inl (k.2.1, 640, .inl ym5)), (ybx, .inl (k.2.1, 48, .inl ym7))]) (w1 := []) hP hD [13, 19] [0, 1, 2, 3, 4, 5, 6, 7, 8, 9, 10, 11, 12, 14, 15, 16, 17, 18, 20] rfl rfl (by decide) (by decide) hk1 hFc hP1 hD1
    generalize H1 = H at hP hS ⊢
    have hP : va_P D classes [(pv, .inr (6, P)), (sl, .inl (k.2.1, 3, .inl g1)), (sp, .inr (6, P2)), (sl2, .inl (k.2.1, 3, .inl g2)), (tp, .inl (k.1, 1600, .inl g3)), (rd, .inr (7, Rd)), (tk, .inr (9, K)), (ln, .inr (3, N)), (fo, .inl (k.2.1, 3, .inl g4)), (nw, .inl (k.2.1, 10, .inl f1)), (kp, .inl (k.2.1, 410, .inl f2)), (bx, .inl (k.2.1, 30, .inl f3)), (si, .inr (8, Z)), (ytp, .inl (k.2.1, 1600, .inl ym1)), (yns, .inl (k.2.1, 3, .inl ym2)), (yss, .inl (k.2.1, 3, .inl ym3)), (ynw, .inl (k.2.1, 16, .inl ym4)), (ywe, .inl (k.2.1, 640, .inl ym5)), (ybx, .inl (k.2.1, 48, .inl ym7))] H := hP
    have hD : va_D A [(pv, .inr (6, P)), (sl, .inl (k.2.1, 3, .inl g1)), (sp, .inr (6, P2)), (sl2, .inl (k.2.1, 3, .inl g2)), (tp, .inl (k.1, 1600, .inl g3)), (rd, .inr (7, Rd)), (tk, .inr (9, K)), (ln, .inr (3, N)), (fo, .inl (k.2.1, 3, .inl g4)), (nw, .inl (k.2.1, 10, .inl f1)), (kp, .inl (k.2.1, 410, .inl f2)), (bx, .inl (k.2.1, 30, .inl f3)), (si, .inr (8, Z)), (ytp, .inl (k.2.1, 1600, .inl ym1)), (yns, .inl (k.2.1, 3, .inl ym2)), (yss, .inl (k.2.1, 3, .inl ym3)), (ynw, .inl (k.2.1, 16, .inl ym4)), (ywe, .inl (k.2.1, 640, .inl ym5)), (ybx, .inl (k.2.1, 48, .inl ym7))] := hD
    refine W.widen (k := 119) (n := 46443) (Nat.le_of_ble_eq_true rfl) (Nat.le_of_ble_eq_true rfl) ?_
    have hw9 := hw.symm; subst hw9
    refine lv_icmp_eq (tgt := 1645) hx hb dL_law_1617 (by decide) (fun c_14 => ?_) (fun c_14 => ?_)
    · have c_14 : ((-1) : Int32) = (-1) := c_14
      exact law_tail rfl C0 hKX hA hA2 hbA hS (lv_sub hl [0, 1, 2, 3] rfl)
    · exact absurd rfl c_14
  have h_nge3 : ¬ (3 ≤ p0) := h_ge3
  refine lv_aload_n hx hb dL_law_1599 rfl (lv_at hl 1 rfl) ?_
  refine lv_aload_n hx hb dL_law_1600 rfl (lv_at hl 0 rfl) ?_
  refine lv_iload_n hx hb dL_law_1601 rfl (lv_at hl 3 rfl) ?_
  refine lv_iconst (v := 1) hx hb dL_law_1602 (by decide) ?_
  refine lv_iadd hx hb dL_law_1603 ?_
  refine lv_topi (fun y_15 ey_15 => ?_)
  obtain rfl : y_15 = 1 := ey_15.trans (by decide)
  refine va_sld hx hb hX hbl hbA hS hin1 dL_law_1604 ?_
  refine lv_topi (fun y_16 ey_16 => ?_)
  rw [show y_16 = p0 from ey_16.trans hp0.symm]
  have hPc := hP.sub (ws' := [(x, .inr (11, F)), (ea, .inr (1, E))]) [0, 10] rfl
  have hDc := hD.sub (ws' := [(x, .inr (11, F)), (ea, .inr (1, E))]) [0, 10] (by decide) rfl
  have hFc := va_free (wc := [(x, .inr (11, F)), (ea, .inr (1, E))]) hD hS hA [0, 10] rfl
  refine va_calli (va_runV (As := [.int p0]) (rest := []) ⟨hx, hb, hml, hown, hts⟩ (c_X11_back_c l D k H.size x ea F E p0 u_0_8 u_10_3 h_nlt0 h_nge3) (cwV 1 hts (gd_V hgd m1295 m1296 m1297 m117 m1298) rfl rfl rfl (by decide +kernel) ⟨Nat.le_of_ble_eq_true rfl, Nat.le_of_ble_eq_true rfl⟩) (cP_V hPc hKX hDc (ci := 11) (q0 := 0) rfl rfl) rfl rfl hl.1 rfl (lv_room (Nat.le_of_ble_eq_true rfl)) dL_law_1605 ⟨Nat.le_of_ble_eq_true rfl, Nat.le_of_ble_eq_true rfl⟩) hS (fun q _ h => hFc q h) hFc (fun r_17 u t H1 locs ht hvm hw hB hz1 hk1 hS => ?_)
  obtain ⟨hP1, hD1⟩ := hB
  rw [ht] at hP1
  obtain ⟨hP, hD⟩ := va_join (wr := [(pv, .inr (6, P)), (sl, .inl (k.2.1, 3, .inl g1)), (sp, .inr (6, P2)), (sl2, .inl (k.2.1, 3, .inl g2)), (tp, .inl (k.1, 1600, .inl g3)), (rd, .inr (7, Rd)), (tk, .inr (9, K)), (ln, .inr (3, N)), (fo, .inl (k.2.1, 3, .inl g4)), (nw, .inl (k.2.1, 10, .inl f1)), (kp, .inl (k.2.1, 410, .inl f2)), (bx, .inl (k.2.1, 30, .inl f3)), (si, .inr (8, Z)), (y, .inr (12, yM)), (ytp, .inl (k.2.1, 1600, .inl ym1)), (yns, .inl (k.2.1, 3, .inl ym2)), (yss, .inl (k.2.1, 3, .inl ym3)), (ynw, .inl (k.2.1, 16, .inl ym4)), (ywe, .inl (k.2.1, 640, .inl ym5)), (yhbx, .inl (k.2.2.2, 3, .inl ym6)), (ybx, .inl (k.2.1, 48, .inl ym7))]) (w1 := []) hP hD [0, 10] [1, 2, 3, 4, 5, 6, 7, 8, 9, 11, 12, 13, 14, 15, 16, 17, 18, 19, 20, 21, 22] rfl rfl (by decide) (by decide) hk1 hFc hP1 hD1
  generalize H1 = H at hP hS ⊢
  have hP : va_P D classes [(pv, .inr (6, P)), (sl, .inl (k.2.1, 3, .inl g1)), (sp, .inr (6, P2)), (sl2, .inl (k.2.1, 3, .inl g2)), (tp, .inl (k.1, 1600, .inl g3)), (rd, .inr (7, Rd)), (tk, .inr (9, K)), (ln, .inr (3, N)), (fo, .inl (k.2.1, 3, .inl g4)), (nw, .inl (k.2.1, 10, .inl f1)), (kp, .inl (k.2.1, 410, .inl f2)), (bx, .inl (k.2.1, 30, .inl f3)), (si, .inr (8, Z)), (y, .inr (12, yM)), (ytp, .inl (k.2.1, 1600, .inl ym1)), (yns, .inl (k.2.1, 3, .inl ym2)), (yss, .inl (k.2.1, 3, .inl ym3)), (ynw, .inl (k.2.1, 16, .inl ym4)), (ywe, .inl (k.2.1, 640, .inl ym5)), (yhbx, .inl (k.2.2.2, 3, .inl ym6)), (ybx, .inl (k.2.1, 48, .inl ym7))] H := hP
  have hD : va_D A [(pv, .inr (6, P)), (sl, .inl (k.2.1, 3, .inl g1)), (sp, .inr (6, P2)), (sl2, .inl (k.2.1, 3, .inl g2)), (tp, .inl (k.1, 1600, .inl g3)), (rd, .inr (7, Rd)), (tk, .inr (9, K)), (ln, .inr (3, N)), (fo, .inl (k.2.1, 3, .inl g4)), (nw, .inl (k.2.1, 10, .inl f1)), (kp, .inl (k.2.1, 410, .inl f2)), (bx, .inl (k.2.1, 30, .inl f3)), (si, .inr (8, Z)), (y, .inr (12, yM)), (ytp, .inl (k.2.1, 1600, .inl ym1)), (yns, .inl (k.2.1, 3, .inl ym2)), (yss, .inl (k.2.1, 3, .inl ym3)), (ynw, .inl (k.2.1, 16, .inl ym4)), (ywe, .inl (k.2.1, 640, .inl ym5)), (yhbx, .inl (k.2.2.2, 3, .inl ym6)), (ybx, .inl (k.2.1, 48, .inl ym7))] := hD
  refine W.widen (k := 119) (n := 46443) (Nat.le_of_ble_eq_true rfl) (Nat.le_of_ble_eq_true rfl) ?_
  have hw9 := hw.symm; subst hw9
  refine lv_aload_n hx hb dL_law_1608 rfl (lv_at hl 2 rfl) ?_
  refine lv_aload_n hx hb dL_law_1609 rfl (lv_at hl 0 rfl) ?_
  refine lv_iload_n hx hb dL_law_1610 rfl (lv_at hl 3 rfl) ?_
  refine lv_iconst (v := 1) hx hb dL_law_1611 (by decide) ?_
  refine lv_iadd hx hb dL_law_1612 ?_
  refine lv_topi (fun y_18 ey_18 => ?_)
  obtain rfl : y_18 = 1 := ey_18.trans (by decide)
  refine va_sld hx hb hX hbl hbA hS hin1 dL_law_1613 ?_
  refine lv_topi (fun y_19 ey_19 => ?_)
  rw [show y_19 = p0 from ey_19.trans hp0.symm]
  have hPc := hP.sub (ws' := [(y, .inr (12, yM)), (yhbx, .inl (k.2.2.2, 3, .inl ym6))]) [13, 19] rfl
  have hDc := hD.sub (ws' := [(y, .inr (12, yM)), (yhbx, .inl (k.2.2.2, 3, .inl ym6))]) [13, 19] (by decide) rfl
  have hFc := va_free (wc := [(y, .inr (12, yM)), (yhbx, .inl (k.2.2.2, 3, .inl ym6))]) hD hS hA [13, 19] rfl
  refine va_calli (va_runV (As := [.int p0]) (rest := [.int (-1)]) ⟨hx, hb, hml, hown, hts⟩ (c_X12_back_c l D k H.size y yhbx yM ym6 p0 u_15_87 u_21_all h_nlt0 h_nge3) (cwV 1 hts (gd_V hgd m2073 m2074 m2075 m131 m2076) rfl rfl rfl (by decide +kernel) ⟨Nat.le_of_ble_eq_true rfl, Nat.le_of_ble_eq_true rfl⟩) (cP_V hPc hKX hDc (ci := 12) (q0 := 0) rfl rfl) rfl rfl hl.1 rfl (lv_room (Nat.le_of_ble_eq_true rfl)) dL_law_1614 ⟨Nat.le_of_ble_eq_true rfl, Nat.le_of_ble_eq_true rfl⟩) hS (fun q _ h => hFc q h) hFc (fun r_20 u t H1 locs ht hvm hw hB hz1 hk1 hS => ?_)
  obtain ⟨hP1, hD1⟩ := hB
  rw [ht] at hP1
  obtain ⟨hP, hD⟩ := va_join (wr := [(pv, .inr (6, P)), (sl, .inl (k.2.1, 3, .inl g1)), (sp, .inr (6, P2)), (sl2, .inl (k.2.1, 3, .inl g2)), (tp, .inl (k.1, 1600, .inl g3)), (rd, .inr (7, Rd)), (tk, .inr (9, K)), (ln, .inr (3, N)), (fo, .inl (k.2.1, 3, .inl g4)), (nw, .inl (k.2.1, 10, .inl f1)), (kp, .inl (k.2.1, 410, .inl f2)), (bx, .inl (k.2.1, 30, .inl f3)), (si, .inr (8, Z)), (ytp, .inl (k.2.1, 1600, .inl ym1)), (yns, .inl (k.2.1, 3, .inl ym2)), (yss, .inl (k.2.1, 3, .inl ym3)), (ynw, .inl (k.2.1, 16, .inl ym4)), (ywe, .inl (k.2.1, 640, .inl ym5)), (ybx, .inl (k.2.1, 48, .inl ym7))]) (w1 := []) hP hD [13, 19] [0, 1, 2, 3, 4, 5, 6, 7, 8, 9, 10, 11, 12, 14, 15, 16, 17, 18, 20] rfl rfl (by decide) (by decide) hk1 hFc hP1 hD1
  generalize H1 = H at hP hS ⊢
  have hP : va_P D classes [(pv, .inr (6, P)), (sl, .inl (k.2.1, 3, .inl g1)), (sp, .inr (6, P2)), (sl2, .inl (k.2.1, 3, .inl g2)), (tp, .inl (k.1, 1600, .inl g3)), (rd, .inr (7, Rd)), (tk, .inr (9, K)), (ln, .inr (3, N)), (fo, .inl (k.2.1, 3, .inl g4)), (nw, .inl (k.2.1, 10, .inl f1)), (kp, .inl (k.2.1, 410, .inl f2)), (bx, .inl (k.2.1, 30, .inl f3)), (si, .inr (8, Z)), (ytp, .inl (k.2.1, 1600, .inl ym1)), (yns, .inl (k.2.1, 3, .inl ym2)), (yss, .inl (k.2.1, 3, .inl ym3)), (ynw, .inl (k.2.1, 16, .inl ym4)), (ywe, .inl (k.2.1, 640, .inl ym5)), (ybx, .inl (k.2.1, 48, .inl ym7))] H := hP
  have hD : va_D A [(pv, .inr (6, P)), (sl, .inl (k.2.1, 3, .inl g1)), (sp, .inr (6, P2)), (sl2, .inl (k.2.1, 3, .inl g2)), (tp, .inl (k.1, 1600, .inl g3)), (rd, .inr (7, Rd)), (tk, .inr (9, K)), (ln, .inr (3, N)), (fo, .inl (k.2.1, 3, .inl g4)), (nw, .inl (k.2.1, 10, .inl f1)), (kp, .inl (k.2.1, 410, .inl f2)), (bx, .inl (k.2.1, 30, .inl f3)), (si, .inr (8, Z)), (ytp, .inl (k.2.1, 1600, .inl ym1)), (yns, .inl (k.2.1, 3, .inl ym2)), (yss, .inl (k.2.1, 3, .inl ym3)), (ynw, .inl (k.2.1, 16, .inl ym4)), (ywe, .inl (k.2.1, 640, .inl ym5)), (ybx, .inl (k.2.1, 48, .inl ym7))] := hD
  refine W.widen (k := 119) (n := 46443) (Nat.le_of_ble_eq_true rfl) (Nat.le_of_ble_eq_true rfl) ?_
  have hw9 := hw.symm; subst hw9
  refine lv_icmp_eq (tgt := 1645) hx hb dL_law_1617 (by decide) (fun c_21 => ?_) (fun c_21 => ?_)
  · have c_21 : ((-1) : Int32) = (-1) := c_21
    exact law_tail rfl C0 hKX hA hA2 hbA hS (lv_sub hl [0, 1, 2, 3] rfl)
  · exact absurd rfl c_21

set_option maxHeartbeats 4000000 in
set_option maxRecDepth 100000 in
theorem law_38 {p : Program} {l : Launch} {e : Env} {s : State} {m : MethodId} {below : List Frame} {meth : Method} {c : Code} {D : va_G} {k : ClassId × ClassId × ClassId × ClassId} {A : Nat → Prop} {b L : Nat} {xs : Nat → Int32} (hL : L = 6) (C0 : lw_At p s m meth c b L xs) (hKX : va_K D classes (TY k) s ∧ cX s) (hA : ∀ q : Nat, s.heap.size ≤ q → A q) (hA2 : ∀ q : Nat, A q → s.heap.size ≤ q) (hbA : ¬ A b) {x y : Nat} {H : Heap} {locs : List Loc} (hF : Fresh D k A x y H) (hS : va_S A s.heap H locs) {ls : Array Slot} (hl : lv_has ls 4 [(0, .ref b), (1, .ref x), (2, .ref y), (3, .int 0)]) : W p l e room_1 s m #[Value.ref b] below meth c H locs 119 46443 (lw_Z below #[Value.ref b] s) (F0 m 1622 ls []) := by
  obtain ⟨hx, hb, hr, hml, hown, hts, hX, hbl, hlocks, hgv⟩ := id C0
  have hown : s.vm.findClass RL = some m.cls := hown
  have hK := hKX.1
  have hgd : ∀ w ∈ gd, w ∈ lw_tbl := fun w h => (List.mem_filter.mp h).1
  have hg : ∀ w ∈ gd, w.before #[Value.ref b] s = true := fun w h => hts w (hgd w h)
  subst hL
  obtain ⟨F, pv, P, sl, g1, sp, P2, sl2, g2, tp, g3, rd, Rd, tk, K, ln, N, fo, g4, ea, E, nw, f1, kp, f2, bx, f3, si, Z, yM, ytp, ym1, yns, ym2, yss, ym3, ynw, ym4, ywe, ym5, yhbx, ym6, ybx, ym7, hf_0, hf_1, hf_2, hf_3, hf_4, hf_6, hf_7, hf_8, hf_10, hf_11, hf_14, hf_15, hf_18, hf_19, hf_21, hP, hD⟩ := hF
  have u_0_0 : F[0]? = some (.ref pv) := hf_0.1
  have u_0_11 : F[11]? = some (.int 0) := hf_0.2.2.1
  have u_0_12 : F[12]? = some (.int 0) := hf_0.2.2.2.1
  have u_0_8 : F[8]? = some (.ref ea) := hf_0.2.2.2.2.2.2.2.1
  have u_0_9 : F[9]? = some (.ref si) := hf_0.2.2.2.2.2.2.2.2
  have u_1_10 : P[10]? = some (.int 0) := hf_1.1
  have u_1_11 : P[11]? = some (.int 0) := hf_1.2.1
  have u_1_12 : P[12]? = some (.int 0) := hf_1.2.2.1
  have u_1_6 : P[6]? = some (.ref sl) := hf_1.2.2.2.2.2.2.2.1
  have u_1_9 : P[9]? = some (.int 0) := hf_1.2.2.2.2.2.2.2.2
  have u_2_0 : g1 0 = 0 := hf_2.1
  have u_2_1 : g1 1 = 1 := hf_2.2.1
  have u_2_2 : g1 2 = 0 := hf_2.2.2
  have u_10_0 : E[0]? = some (.ref nw) := hf_10.1
  have u_10_4 : E[4]? = some (.int 0) := hf_10.2.2.2.2.1
  have u_10_5 : E[5]? = some (.int 0) := hf_10.2.2.2.2.2
  have u_11_0 : f1 0 = (-1) := hf_11.1
  have u_11_4 : f1 4 = 0 := hf_11.2.1
  have u_11_5 : f1 5 = 0 := hf_11.2.2.1
  have u_11_6 : f1 6 = 0 := hf_11.2.2.2.1
  have u_11_7 : f1 7 = 0 := hf_11.2.2.2.2.1
  have u_11_8 : f1 8 = 0 := hf_11.2.2.2.2.2.1
  have u_11_9 : f1 9 = 0 := hf_11.2.2.2.2.2.2
  have u_14_5 : Z[5]? = some (.int 0) := hf_14.1
  have u_14_6 : Z[6]? = some (.int 0) := hf_14.2
  have u_15_1 : yM[1]? = some (.int 0) := hf_15.2.1
  have u_15_22 : yM[22]? = some (.int 0) := hf_15.2.2.2.2.1
  have u_15_44 : yM[44]? = some (.ref yss) := hf_15.2.2.2.2.2.2.2.2.1
  have u_15_52 : yM[52]? = some (.int 0) := hf_15.2.2.2.2.2.2.2.2.2.2.2.2.2.2.2.2.2.1
  have u_15_53 : yM[53]? = some (.int 0) := hf_15.2.2.2.2.2.2.2.2.2.2.2.2.2.2.2.2.2.2.1
  have u_15_54 : yM[54]? = some (.int 0) := hf_15.2.2.2.2.2.2.2.2.2.2.2.2.2.2.2.2.2.2.2.1
  have u_15_66 : yM[66]? = some (.int 0) := hf_15.2.2.2.2.2.2.2.2.2.2.2.2.2.2.2.2.2.2.2.2.2.2.2.1
  have u_15_76 : yM[76]? = some (.ref ynw) := hf_15.2.2.2.2.2.2.2.2.2.2.2.2.2.2.2.2.2.2.2.2.2.2.2.2.2.1
  have u_15_78 : yM[78]? = some (.int 0) := hf_15.2.2.2.2.2.2.2.2.2.2.2.2.2.2.2.2.2.2.2.2.2.2.2.2.2.2.2.1
  have u_15_79 : yM[79]? = some (.int 0) := hf_15.2.2.2.2.2.2.2.2.2.2.2.2.2.2.2.2.2.2.2.2.2.2.2.2.2.2.2.2.1
  have u_15_85 : yM[85]? = some (.int 0) := hf_15.2.2.2.2.2.2.2.2.2.2.2.2.2.2.2.2.2.2.2.2.2.2.2.2.2.2.2.2.2.2.1
  have u_15_86 : yM[86]? = some (.int 0) := hf_15.2.2.2.2.2.2.2.2.2.2.2.2.2.2.2.2.2.2.2.2.2.2.2.2.2.2.2.2.2.2.2.1
  have u_18_0 : ym3 0 = 0 := hf_18.1
  have u_18_1 : ym3 1 = 1 := hf_18.2.1
  have u_18_2 : ym3 2 = 0 := hf_18.2.2
  have u_19_0 : ym4 0 = (-1) := hf_19.1
  have u_19_4 : ym4 4 = 0 := hf_19.2.1
  have u_19_5 : ym4 5 = 0 := hf_19.2.2.1
  have u_19_6 : ym4 6 = 0 := hf_19.2.2.2.1
  have u_19_7 : ym4 7 = 0 := hf_19.2.2.2.2.1
  have u_19_8 : ym4 8 = 0 := hf_19.2.2.2.2.2.1
  have u_19_9 : ym4 9 = 0 := hf_19.2.2.2.2.2.2
  have hin1 : vp_in 1 6 := (show ¬ ((1 : Int32) < 0 ∨ 6 ≤ (1 : Int32).toNatClampNeg) from by decide)
  have hin2 : vp_in 2 6 := (show ¬ ((2 : Int32) < 0 ∨ 6 ≤ (2 : Int32).toNatClampNeg) from by decide)
  have hin3 : vp_in 3 6 := (show ¬ ((3 : Int32) < 0 ∨ 6 ≤ (3 : Int32).toNatClampNeg) from by decide)
  have hin4 : vp_in 4 6 := (show ¬ ((4 : Int32) < 0 ∨ 6 ≤ (4 : Int32).toNatClampNeg) from by decide)
  have hin5 : vp_in 5 6 := (show ¬ ((5 : Int32) < 0 ∨ 6 ≤ (5 : Int32).toNatClampNeg) from by decide)
  obtain ⟨p0, hp0⟩ : ∃ z, z = xs 1 := ⟨_, rfl⟩
  obtain ⟨p1, hp1⟩ : ∃ z, z = xs 2 := ⟨_, rfl⟩
  obtain ⟨p2, hp2⟩ : ∃ z, z = xs 3 := ⟨_, rfl⟩
  obtain ⟨p3, hp3⟩ : ∃ z, z = xs 4 := ⟨_, rfl⟩
  obtain ⟨p4, hp4⟩ : ∃ z, z = xs 5 := ⟨_, rfl⟩
  refine lv_aload_n hx hb dL_law_1622 rfl (lv_at hl 1 rfl) ?_
  refine lv_aload_n hx hb dL_law_1623 rfl (lv_at hl 0 rfl) ?_
  refine lv_iload_n hx hb dL_law_1624 rfl (lv_at hl 3 rfl) ?_
  refine lv_iconst (v := 1) hx hb dL_law_1625 (by decide) ?_
  refine lv_iadd hx hb dL_law_1626 ?_
  refine lv_topi (fun y_1 ey_1 => ?_)
  obtain rfl : y_1 = 1 := ey_1.trans (by decide)
  refine va_sld hx hb hX hbl hbA hS hin1 dL_law_1627 ?_
  refine lv_topi (fun y_2 ey_2 => ?_)
  rw [show y_2 = p0 from ey_2.trans hp0.symm]
  have hPc := hP.sub (ws' := [(x, .inr (11, F)), (pv, .inr (6, P)), (sl, .inl (k.2.1, 3, .inl g1)), (ea, .inr (1, E)), (nw, .inl (k.2.1, 10, .inl f1)), (si, .inr (8, Z))]) [0, 1, 2, 10, 11, 14] rfl
  have hDc := hD.sub (ws' := [(x, .inr (11, F)), (pv, .inr (6, P)), (sl, .inl (k.2.1, 3, .inl g1)), (ea, .inr (1, E)), (nw, .inl (k.2.1, 10, .inl f1)), (si, .inr (8, Z))]) [0, 1, 2, 10, 11, 14] (by decide) rfl
  have hFc := va_free (wc := [(x, .inr (11, F)), (pv, .inr (6, P)), (sl, .inl (k.2.1, 3, .inl g1)), (ea, .inr (1, E)), (nw, .inl (k.2.1, 10, .inl f1)), (si, .inr (8, Z))]) hD hS hA [0, 1, 2, 10, 11, 14] rfl
  refine va_calli (va_runV (As := [.int p0]) (rest := []) ⟨hx, hb, hml, hown, hts⟩ (c_X11_about l D k H.size x pv ea si sl nw F P E Z g1 f1 p0 u_0_0 u_0_11 u_0_12 u_0_8 u_0_9 u_1_10 u_1_11 u_1_12 u_1_6 u_1_9 u_2_0 u_2_1 u_2_2 u_10_0 u_10_4 u_10_5 u_11_0 u_11_4 u_11_5 u_11_6 u_11_7 u_11_8 u_11_9 u_14_5 u_14_6) (cwV 1 hts (gd_V hgd m1303 m1304 m1305 m117 m1306) rfl rfl rfl (by decide +kernel) ⟨Nat.le_of_ble_eq_true rfl, Nat.le_of_ble_eq_true rfl⟩) (cP_V hPc hKX hDc (ci := 11) (q0 := 0) rfl rfl) rfl rfl hl.1 rfl (lv_room (Nat.le_of_ble_eq_true rfl)) dL_law_1628 ⟨Nat.le_of_ble_eq_true rfl, Nat.le_of_ble_eq_true rfl⟩) hS (fun q _ h => hFc q h) hFc (fun r_3 u t H1 locs ht hvm hw hB hz1 hk1 hS => ?_)
  obtain ⟨hP1, hD1⟩ := hB
  rw [ht] at hP1
  obtain ⟨hP, hD⟩ := va_join (wr := [(sp, .inr (6, P2)), (sl2, .inl (k.2.1, 3, .inl g2)), (tp, .inl (k.1, 1600, .inl g3)), (rd, .inr (7, Rd)), (tk, .inr (9, K)), (ln, .inr (3, N)), (fo, .inl (k.2.1, 3, .inl g4)), (kp, .inl (k.2.1, 410, .inl f2)), (bx, .inl (k.2.1, 30, .inl f3)), (y, .inr (12, yM)), (ytp, .inl (k.2.1, 1600, .inl ym1)), (yns, .inl (k.2.1, 3, .inl ym2)), (yss, .inl (k.2.1, 3, .inl ym3)), (ynw, .inl (k.2.1, 16, .inl ym4)), (ywe, .inl (k.2.1, 640, .inl ym5)), (yhbx, .inl (k.2.2.2, 3, .inl ym6)), (ybx, .inl (k.2.1, 48, .inl ym7))]) (w1 := []) hP hD [0, 1, 2, 10, 11, 14] [3, 4, 5, 6, 7, 8, 9, 12, 13, 15, 16, 17, 18, 19, 20, 21, 22] rfl rfl (by decide) (by decide) hk1 hFc hP1 hD1
  generalize H1 = H at hP hS ⊢
  have hP : va_P D classes [(sp, .inr (6, P2)), (sl2, .inl (k.2.1, 3, .inl g2)), (tp, .inl (k.1, 1600, .inl g3)), (rd, .inr (7, Rd)), (tk, .inr (9, K)), (ln, .inr (3, N)), (fo, .inl (k.2.1, 3, .inl g4)), (kp, .inl (k.2.1, 410, .inl f2)), (bx, .inl (k.2.1, 30, .inl f3)), (y, .inr (12, yM)), (ytp, .inl (k.2.1, 1600, .inl ym1)), (yns, .inl (k.2.1, 3, .inl ym2)), (yss, .inl (k.2.1, 3, .inl ym3)), (ynw, .inl (k.2.1, 16, .inl ym4)), (ywe, .inl (k.2.1, 640, .inl ym5)), (yhbx, .inl (k.2.2.2, 3, .inl ym6)), (ybx, .inl (k.2.1, 48, .inl ym7))] H := hP
  have hD : va_D A [(sp, .inr (6, P2)), (sl2, .inl (k.2.1, 3, .inl g2)), (tp, .inl (k.1, 1600, .inl g3)), (rd, .inr (7, Rd)), (tk, .inr (9, K)), (ln, .inr (3, N)), (fo, .inl (k.2.1, 3, .inl g4)), (kp, .inl (k.2.1, 410, .inl f2)), (bx, .inl (k.2.1, 30, .inl f3)), (y, .inr (12, yM)), (ytp, .inl (k.2.1, 1600, .inl ym1)), (yns, .inl (k.2.1, 3, .inl ym2)), (yss, .inl (k.2.1, 3, .inl ym3)), (ynw, .inl (k.2.1, 16, .inl ym4)), (ywe, .inl (k.2.1, 640, .inl ym5)), (yhbx, .inl (k.2.2.2, 3, .inl ym6)), (ybx, .inl (k.2.1, 48, .inl ym7))] := hD
  refine W.widen (k := 119) (n := 46443) (Nat.le_of_ble_eq_true rfl) (Nat.le_of_ble_eq_true rfl) ?_
  have h_4 := hw
  refine lv_aload_n hx hb dL_law_1631 rfl (lv_at hl 2 rfl) ?_
  refine lv_aload_n hx hb dL_law_1632 rfl (lv_at hl 0 rfl) ?_
  refine lv_iload_n hx hb dL_law_1633 rfl (lv_at hl 3 rfl) ?_
  refine lv_iconst (v := 1) hx hb dL_law_1634 (by decide) ?_
  refine lv_iadd hx hb dL_law_1635 ?_
  refine lv_topi (fun y_5 ey_5 => ?_)
  obtain rfl : y_5 = 1 := ey_5.trans (by decide)
  refine va_sld hx hb hX hbl hbA hS hin1 dL_law_1636 ?_
  refine lv_topi (fun y_6 ey_6 => ?_)
  rw [show y_6 = p0 from ey_6.trans hp0.symm]
  have hPc := hP.sub (ws' := [(y, .inr (12, yM)), (ynw, .inl (k.2.1, 16, .inl ym4)), (yss, .inl (k.2.1, 3, .inl ym3))]) [9, 13, 12] rfl
  have hDc := hD.sub (ws' := [(y, .inr (12, yM)), (ynw, .inl (k.2.1, 16, .inl ym4)), (yss, .inl (k.2.1, 3, .inl ym3))]) [9, 13, 12] (by decide) rfl
  have hFc := va_free (wc := [(y, .inr (12, yM)), (ynw, .inl (k.2.1, 16, .inl ym4)), (yss, .inl (k.2.1, 3, .inl ym3))]) hD hS hA [9, 13, 12] rfl
  refine va_calli (va_runV (As := [.int p0]) (rest := [.int r_3]) ⟨hx, hb, hml, hown, hts⟩ (c_X12_about l D k H.size y ynw yss yM ym4 ym3 p0 u_15_1 u_15_22 u_15_44 u_15_52 u_15_53 u_15_54 u_15_66 u_15_76 u_15_78 u_15_79 u_15_85 u_15_86 u_19_0 u_19_4 u_19_5 u_19_6 u_19_7 u_19_8 u_19_9 u_18_0 u_18_1 u_18_2) (cwV 1 hts (gd_V hgd m2077 m2078 m2079 m131 m2080) rfl rfl rfl (by decide +kernel) ⟨Nat.le_of_ble_eq_true rfl, Nat.le_of_ble_eq_true rfl⟩) (cP_V hPc hKX hDc (ci := 12) (q0 := 0) rfl rfl) rfl rfl hl.1 rfl (lv_room (Nat.le_of_ble_eq_true rfl)) dL_law_1637 ⟨Nat.le_of_ble_eq_true rfl, Nat.le_of_ble_eq_true rfl⟩) hS (fun q _ h => hFc q h) hFc (fun r_7 u t H1 locs ht hvm hw hB hz1 hk1 hS => ?_)
  obtain ⟨hP1, hD1⟩ := hB
  rw [ht] at hP1
  obtain ⟨hP, hD⟩ := va_join (wr := [(sp, .inr (6, P2)), (sl2, .inl (k.2.1, 3, .inl g2)), (tp, .inl (k.1, 1600, .inl g3)), (rd, .inr (7, Rd)), (tk, .inr (9, K)), (ln, .inr (3, N)), (fo, .inl (k.2.1, 3, .inl g4)), (kp, .inl (k.2.1, 410, .inl f2)), (bx, .inl (k.2.1, 30, .inl f3)), (ytp, .inl (k.2.1, 1600, .inl ym1)), (yns, .inl (k.2.1, 3, .inl ym2)), (ywe, .inl (k.2.1, 640, .inl ym5)), (yhbx, .inl (k.2.2.2, 3, .inl ym6)), (ybx, .inl (k.2.1, 48, .inl ym7))]) (w1 := []) hP hD [9, 13, 12] [0, 1, 2, 3, 4, 5, 6, 7, 8, 10, 11, 14, 15, 16] rfl rfl (by decide) (by decide) hk1 hFc hP1 hD1
  generalize H1 = H at hP hS ⊢
  have hP : va_P D classes [(sp, .inr (6, P2)), (sl2, .inl (k.2.1, 3, .inl g2)), (tp, .inl (k.1, 1600, .inl g3)), (rd, .inr (7, Rd)), (tk, .inr (9, K)), (ln, .inr (3, N)), (fo, .inl (k.2.1, 3, .inl g4)), (kp, .inl (k.2.1, 410, .inl f2)), (bx, .inl (k.2.1, 30, .inl f3)), (ytp, .inl (k.2.1, 1600, .inl ym1)), (yns, .inl (k.2.1, 3, .inl ym2)), (ywe, .inl (k.2.1, 640, .inl ym5)), (yhbx, .inl (k.2.2.2, 3, .inl ym6)), (ybx, .inl (k.2.1, 48, .inl ym7))] H := hP
  have hD : va_D A [(sp, .inr (6, P2)), (sl2, .inl (k.2.1, 3, .inl g2)), (tp, .inl (k.1, 1600, .inl g3)), (rd, .inr (7, Rd)), (tk, .inr (9, K)), (ln, .inr (3, N)), (fo, .inl (k.2.1, 3, .inl g4)), (kp, .inl (k.2.1, 410, .inl f2)), (bx, .inl (k.2.1, 30, .inl f3)), (ytp, .inl (k.2.1, 1600, .inl ym1)), (yns, .inl (k.2.1, 3, .inl ym2)), (ywe, .inl (k.2.1, 640, .inl ym5)), (yhbx, .inl (k.2.2.2, 3, .inl ym6)), (ybx, .inl (k.2.1, 48, .inl ym7))] := hD
  refine W.widen (k := 119) (n := 46443) (Nat.le_of_ble_eq_true rfl) (Nat.le_of_ble_eq_true rfl) ?_
  have h_8 := hw
  refine lv_icmp_eq (tgt := 1645) hx hb dL_law_1640 (by decide) (fun c_9 => ?_) (fun c_9 => ?_)
  · have c_9 : (r_3 : Int32) = r_7 := c_9
    exact law_tail rfl C0 hKX hA hA2 hbA hS (lv_sub hl [0, 1, 2, 3] rfl)
  · exact absurd (h_4.trans h_8.symm) c_9
