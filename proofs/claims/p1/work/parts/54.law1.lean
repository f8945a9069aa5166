set_option maxHeartbeats 4000000 in
set_option maxRecDepth 100000 in
theorem law_8 {p : Program} {l : Launch} {e : Env} {s : State} {m : MethodId} {below : List Frame} {meth : Method} {c : Code} {D : va_G} {k : ClassId × ClassId × ClassId × ClassId} {A : Nat → Prop} {b L : Nat} {xs : Nat → Int32} (hL : L = 6) (C0 : lw_At p s m meth c b L xs) (hKX : va_K D classes (TY k) s ∧ cX s) (hA : ∀ q : Nat, s.heap.size ≤ q → A q) (hA2 : ∀ q : Nat, A q → s.heap.size ≤ q) (hbA : ¬ A b) {x y : Nat} {H : Heap} {locs : List Loc} (hF : Fresh D k A x y H) (hS : va_S A s.heap H locs) {ls : Array Slot} (hl : lv_has ls 4 [(0, .ref b), (1, .ref x), (2, .ref y), (3, .int 0)]) : W p l e room_1 s m #[Value.ref b] below meth c H locs 119 46443 (lw_Z below #[Value.ref b] s) (F0 m 478 ls []) := by
  obtain ⟨hx, hb, hr, hml, hown, hts, hX, hbl, hlocks, hgv⟩ := id C0
  have hown : s.vm.findClass RL = some m.cls := hown
  have hK := hKX.1
  have hgd : ∀ w ∈ gd, w ∈ lw_tbl := fun w h => (List.mem_filter.mp h).1
  have hg : ∀ w ∈ gd, w.before #[Value.ref b] s = true := fun w h => hts w (hgd w h)
  subst hL
  obtain ⟨F, pv, P, sl, g1, sp, P2, sl2, g2, tp, g3, rd, Rd, tk, K, ln, N, fo, g4, ea, E, nw, f1, kp, f2, bx, f3, si, Z, yM, ytp, ym1, yns, ym2, yss, ym3, ynw, ym4, ywe, ym5, yhbx, ym6, ybx, ym7, hf_0, hf_1, hf_2, hf_3, hf_4, hf_6, hf_7, hf_8, hf_10, hf_11, hf_14, hf_15, hf_18, hf_19, hf_21, hP, hD⟩ := hF
  have u_0_0 : F[0]? = some (.ref pv) := hf_0.1
  have u_1_10 : P[10]? = some (.int 0) := hf_1.1
  have u_15_53 : yM[53]? = some (.int 0) := hf_15.2.2.2.2.2.2.2.2.2.2.2.2.2.2.2.2.2.2.1
  have hin1 : vp_in 1 6 := (show ¬ ((1 : Int32) < 0 ∨ 6 ≤ (1 : Int32).toNatClampNeg) from by decide)
  have hin2 : vp_in 2 6 := (show ¬ ((2 : Int32) < 0 ∨ 6 ≤ (2 : Int32).toNatClampNeg) from by decide)
  have hin3 : vp_in 3 6 := (show ¬ ((3 : Int32) < 0 ∨ 6 ≤ (3 : Int32).toNatClampNeg) from by decide)
  have hin4 : vp_in 4 6 := (show ¬ ((4 : Int32) < 0 ∨ 6 ≤ (4 : Int32).toNatClampNeg) from by decide)
  have hin5 : vp_in 5 6 := (show ¬ ((5 : Int32) < 0 ∨ 6 ≤ (5 : Int32).toNatClampNeg) from by decide)
  obtain ⟨p0, hp0⟩ : ∃ z, z = xs 1 := ⟨_, rfl⟩
  obtain ⟨p1, hp1⟩ : ∃ z, z = xs 2 := ⟨_, rfl⟩
  obtain ⟨p2, hp2⟩ : ∃ z, z = xs 3 := ⟨_, rfl⟩
  obtain ⟨p3, hp3⟩ : ∃ z, z = xs 4 := ⟨_, rfl⟩
  obtain ⟨p4, hp4⟩ : ∃ z, z = xs 5 := ⟨_, rfl⟩
  refine lv_aload_n hx hb dL_law_478 rfl (lv_at hl 1 rfl) ?_
  refine lv_aload_n hx hb dL_law_479 rfl (lv_at hl 0 rfl) ?_
  refine lv_iload_n hx hb dL_law_480 rfl (lv_at hl 3 rfl) ?_
  refine lv_iconst (v := 1) hx hb dL_law_481 (by decide) ?_
  refine lv_iadd hx hb dL_law_482 ?_
  refine lv_topi (fun y_1 ey_1 => ?_)
  obtain rfl : y_1 = 1 := ey_1.trans (by decide)
  refine va_sld hx hb hX hbl hbA hS hin1 dL_law_483 ?_
  refine lv_topi (fun y_2 ey_2 => ?_)
  rw [show y_2 = p0 from ey_2.trans hp0.symm]
  refine lv_aload_n hx hb dL_law_484 rfl (lv_at hl 0 rfl) ?_
  refine lv_iload_n hx hb dL_law_485 rfl (lv_at hl 3 rfl) ?_
  refine lv_iconst (v := 2) hx hb dL_law_486 (by decide) ?_
  refine lv_iadd hx hb dL_law_487 ?_
  refine lv_topi (fun y_3 ey_3 => ?_)
  obtain rfl : y_3 = 2 := ey_3.trans (by decide)
  refine va_sld hx hb hX hbl hbA hS hin2 dL_law_488 ?_
  refine lv_topi (fun y_4 ey_4 => ?_)
  rw [show y_4 = p1 from ey_4.trans hp1.symm]
  refine lv_aload_n hx hb dL_law_489 rfl (lv_at hl 0 rfl) ?_
  refine lv_iload_n hx hb dL_law_490 rfl (lv_at hl 3 rfl) ?_
  refine lv_iconst (v := 3) hx hb dL_law_491 (by decide) ?_
  refine lv_iadd hx hb dL_law_492 ?_
  refine lv_topi (fun y_5 ey_5 => ?_)
  obtain rfl : y_5 = 3 := ey_5.trans (by decide)
  refine va_sld hx hb hX hbl hbA hS hin3 dL_law_493 ?_
  refine lv_topi (fun y_6 ey_6 => ?_)
  rw [show y_6 = p2 from ey_6.trans hp2.symm]
  refine lv_aload_n hx hb dL_law_494 rfl (lv_at hl 0 rfl) ?_
  refine lv_iload_n hx hb dL_law_495 rfl (lv_at hl 3 rfl) ?_
  refine lv_iconst (v := 4) hx hb dL_law_496 (by decide) ?_
  refine lv_iadd hx hb dL_law_497 ?_
  refine lv_topi (fun y_7 ey_7 => ?_)
  obtain rfl : y_7 = 4 := ey_7.trans (by decide)
  refine va_sld hx hb hX hbl hbA hS hin4 dL_law_498 ?_
  refine lv_topi (fun y_8 ey_8 => ?_)
  rw [show y_8 = p3 from ey_8.trans hp3.symm]
  have hPc := hP.sub (ws' := [(x, .inr (11, F)), (pv, .inr (6, P))]) [0, 1] rfl
  have hDc := hD.sub (ws' := [(x, .inr (11, F)), (pv, .inr (6, P))]) [0, 1] (by decide) rfl
  have hFc := va_free (wc := [(x, .inr (11, F)), (pv, .inr (6, P))]) hD hS hA [0, 1] rfl
  refine va_calli (va_runV (As := [.int p0, .int p1, .int p2, .int p3]) (rest := []) ⟨hx, hb, hml, hown, hts⟩ (c_X11_foot l D k H.size x pv F P p0 p1 p2 p3 u_0_0 u_1_10) (cwV 4 hts (gd_V hgd m949 m950 m951 m117 m952) rfl rfl rfl (by decide +kernel) ⟨Nat.le_of_ble_eq_true rfl, Nat.le_of_ble_eq_true rfl⟩) (cP_V hPc hKX hDc (ci := 11) (q0 := 0) rfl rfl) rfl rfl hl.1 rfl (lv_room (Nat.le_of_ble_eq_true rfl)) dL_law_499 ⟨Nat.le_of_ble_eq_true rfl, Nat.le_of_ble_eq_true rfl⟩) hS (fun q _ h => hFc q h) hFc (fun r_9 u t H1 locs ht hvm hw hB hz1 hk1 hS => ?_)
  obtain ⟨hP1, hD1⟩ := hB
  rw [ht] at hP1
  obtain ⟨hP, hD⟩ := va_join (wr := [(sl, .inl (k.2.1, 3, .inl g1)), (sp, .inr (6, P2)), (sl2, .inl (k.2.1, 3, .inl g2)), (tp, .inl (k.1, 1600, .inl g3)), (rd, .inr (7, Rd)), (tk, .inr (9, K)), (ln, .inr (3, N)), (fo, .inl (k.2.1, 3, .inl g4)), (ea, .inr (1, E)), (nw, .inl (k.2.1, 10, .inl f1)), (kp, .inl (k.2.1, 410, .inl f2)), (bx, .inl (k.2.1, 30, .inl f3)), (si, .inr (8, Z)), (y, .inr (12, yM)), (ytp, .inl (k.2.1, 1600, .inl ym1)), (yns, .inl (k.2.1, 3, .inl ym2)), (yss, .inl (k.2.1, 3, .inl ym3)), (ynw, .inl (k.2.1, 16, .inl ym4)), (ywe, .inl (k.2.1, 640, .inl ym5)), (yhbx, .inl (k.2.2.2, 3, .inl ym6)), (ybx, .inl (k.2.1, 48, .inl ym7))]) (w1 := []) hP hD [0, 1] [2, 3, 4, 5, 6, 7, 8, 9, 10, 11, 12, 13, 14, 15, 16, 17, 18, 19, 20, 21, 22] rfl rfl (by decide) (by decide) hk1 hFc hP1 hD1
  generalize H1 = H at hP hS ⊢
  have hP : va_P D classes [(sl, .inl (k.2.1, 3, .inl g1)), (sp, .inr (6, P2)), (sl2, .inl (k.2.1, 3, .inl g2)), (tp, .inl (k.1, 1600, .inl g3)), (rd, .inr (7, Rd)), (tk, .inr (9, K)), (ln, .inr (3, N)), (fo, .inl (k.2.1, 3, .inl g4)), (ea, .inr (1, E)), (nw, .inl (k.2.1, 10, .inl f1)), (kp, .inl (k.2.1, 410, .inl f2)), (bx, .inl (k.2.1, 30, .inl f3)), (si, .inr (8, Z)), (y, .inr (12, yM)), (ytp, .inl (k.2.1, 1600, .inl ym1)), (yns, .inl (k.2.1, 3, .inl ym2)), (yss, .inl (k.2.1, 3, .inl ym3)), (ynw, .inl (k.2.1, 16, .inl ym4)), (ywe, .inl (k.2.1, 640, .inl ym5)), (yhbx, .inl (k.2.2.2, 3, .inl ym6)), (ybx, .inl (k.2.1, 48, .inl ym7))] H := hP
  have hD : va_D A [(sl, .inl (k.2.1, 3, .inl g1)), (sp, .inr (6, P2)), (sl2, .inl (k.2.1, 3, .inl g2)), (tp, .inl (k.1, 1600, .inl g3)), (rd, .inr (7, Rd)), (tk, .inr (9, K)), (ln, .inr (3, N)), (fo, .inl (k.2.1, 3, .inl g4)), (ea, .inr (1, E)), (nw, .inl (k.2.1, 10, .inl f1)), (kp, .inl (k.2.1, 410, .inl f2)), (bx, .inl (k.2.1, 30, .inl f3)), (si, .inr (8, Z)), (y, .inr (12, yM)), (ytp, .inl (k.2.1, 1600, .inl ym1)), (yns, .inl (k.2.1, 3, .inl ym2)), (yss, .inl (k.2.1, 3, .inl ym3)), (ynw, .inl (k.2.1, 16, .inl ym4)), (ywe, .inl (k.2.1, 640, .inl ym5)), (yhbx, .inl (k.2.2.2, 3, .inl ym6)), (ybx, .inl (k.2.1, 48, .inl ym7))] := hD
  refine W.widen (k := 119) (n := 46443) (Nat.le_of_ble_eq_true rfl) (Nat.le_of_ble_eq_true rfl) ?_
  have hw9 := hw.symm; subst hw9
  refine lv_aload_n hx hb dL_law_502 rfl (lv_at hl 2 rfl) ?_
  refine lv_aload_n hx hb dL_law_503 rfl (lv_at hl 0 rfl) ?_
  refine lv_iload_n hx hb dL_law_504 rfl (lv_at hl 3 rfl) ?_
  refine lv_iconst (v := 1) hx hb dL_law_505 (by decide) ?_
  refine lv_iadd hx hb dL_law_506 ?_
  refine lv_topi (fun y_10 ey_10 => ?_)
  obtain rfl : y_10 = 1 := ey_10.trans (by decide)
  refine va_sld hx hb hX hbl hbA hS hin1 dL_law_507 ?_
  refine lv_topi (fun y_11 ey_11 => ?_)
  rw [show y_11 = p0 from ey_11.trans hp0.symm]
  refine lv_aload_n hx hb dL_law_508 rfl (lv_at hl 0 rfl) ?_
  refine lv_iload_n hx hb dL_law_509 rfl (lv_at hl 3 rfl) ?_
  refine lv_iconst (v := 2) hx hb dL_law_510 (by decide) ?_
  refine lv_iadd hx hb dL_law_511 ?_
  refine lv_topi (fun y_12 ey_12 => ?_)
  obtain rfl : y_12 = 2 := ey_12.trans (by decide)
  refine va_sld hx hb hX hbl hbA hS hin2 dL_law_512 ?_
  refine lv_topi (fun y_13 ey_13 => ?_)
  rw [show y_13 = p1 from ey_13.trans hp1.symm]
  refine lv_aload_n hx hb dL_law_513 rfl (lv_at hl 0 rfl) ?_
  refine lv_iload_n hx hb dL_law_514 rfl (lv_at hl 3 rfl) ?_
  refine lv_iconst (v := 3) hx hb dL_law_515 (by decide) ?_
  refine lv_iadd hx hb dL_law_516 ?_
  refine lv_topi (fun y_14 ey_14 => ?_)
  obtain rfl : y_14 = 3 := ey_14.trans (by decide)
  refine va_sld hx hb hX hbl hbA hS hin3 dL_law_517 ?_
  refine lv_topi (fun y_15 ey_15 => ?_)
  rw [show y_15 = p2 from ey_15.trans hp2.symm]
  refine lv_aload_n hx hb dL_law_518 rfl (lv_at hl 0 rfl) ?_
  refine lv_iload_n hx hb dL_law_519 rfl (lv_at hl 3 rfl) ?_
  refine lv_iconst (v := 4) hx hb dL_law_520 (by decide) ?_
  refine lv_iadd hx hb dL_law_521 ?_
  refine lv_topi (fun y_16 ey_16 => ?_)
  obtain rfl : y_16 = 4 := ey_16.trans (by decide)
  refine va_sld hx hb hX hbl hbA hS hin4 dL_law_522 ?_
  refine lv_topi (fun y_17 ey_17 => ?_)
  rw [show y_17 = p3 from ey_17.trans hp3.symm]
  have hPc := hP.sub (ws' := [(y, .inr (12, yM))]) [13] rfl
  have hDc := hD.sub (ws' := [(y, .inr (12, yM))]) [13] (by decide) rfl
  have hFc := va_free (wc := [(y, .inr (12, yM))]) hD hS hA [13] rfl
  refine va_calli (va_runV (As := [.int p0, .int p1, .int p2, .int p3]) (rest := [.int (-1)]) ⟨hx, hb, hml, hown, hts⟩ (c_X12_foot l D k H.size y yM p0 p1 p2 p3 u_15_53) (cwV 4 hts (gd_V hgd m1822 m1823 m1824 m131 m1825) rfl rfl rfl (by decide +kernel) ⟨Nat.le_of_ble_eq_true rfl, Nat.le_of_ble_eq_true rfl⟩) (cP_V hPc hKX hDc (ci := 12) (q0 := 0) rfl rfl) rfl rfl hl.1 rfl (lv_room (Nat.le_of_ble_eq_true rfl)) dL_law_523 ⟨Nat.le_of_ble_eq_true rfl, Nat.le_of_ble_eq_true rfl⟩) hS (fun q _ h => hFc q h) hFc (fun r_18 u t H1 locs ht hvm hw hB hz1 hk1 hS => ?_)
  obtain ⟨hP1, hD1⟩ := hB
  rw [ht] at hP1
  obtain ⟨hP, hD⟩ := va_join (wr := [(sl, .inl (k.2.1, 3, .inl g1)), (sp, .inr (6, P2)), (sl2, .inl (k.2.1, 3, .inl g2)), (tp, .inl (k.1, 1600, .inl g3)), (rd, .inr (7, Rd)), (tk, .inr (9, K)), (ln, .inr (3, N)), (fo, .inl (k.2.1, 3, .inl g4)), (ea, .inr (1, E)), (nw, .inl (k.2.1, 10, .inl f1)), (kp, .inl (k.2.1, 410, .inl f2)), (bx, .inl (k.2.1, 30, .inl f3)), (si, .inr (8, Z)), (ytp, .inl (k.2.1, 1600, .inl ym1)), (yns, .inl (k.2.1, 3, .inl ym2)), (yss, .inl (k.2.1, 3, .inl ym3)), (ynw, .inl (k.2.1, 16, .inl ym4)), (ywe, .inl (k.2.1, 640, .inl ym5)), (yhbx, .inl (k.2.2.2, 3, .inl ym6)), (ybx, .inl (k.2.1, 48, .inl ym7))]) (w1 := []) hP hD [13] [0, 1, 2, 3, 4, 5, 6, 7, 8, 9, 10, 11, 12, 14, 15, 16, 17, 18, 19, 20] rfl rfl (by decide) (by decide) hk1 hFc hP1 hD1
  generalize H1 = H at hP hS ⊢
  have hP : va_P D classes [(sl, .inl (k.2.1, 3, .inl g1)), (sp, .inr (6, P2)), (sl2, .inl (k.2.1, 3, .inl g2)), (tp, .inl (k.1, 1600, .inl g3)), (rd, .inr (7, Rd)), (tk, .inr (9, K)), (ln, .inr (3, N)), (fo, .inl (k.2.1, 3, .inl g4)), (ea, .inr (1, E)), (nw, .inl (k.2.1, 10, .inl f1)), (kp, .inl (k.2.1, 410, .inl f2)), (bx, .inl (k.2.1, 30, .inl f3)), (si, .inr (8, Z)), (ytp, .inl (k.2.1, 1600, .inl ym1)), (yns, .inl (k.2.1, 3, .inl ym2)), (yss, .inl (k.2.1, 3, .inl ym3)), (ynw, .inl (k.2.1, 16, .inl ym4)), (ywe, .inl (k.2.1, 640, .inl ym5)), (yhbx, .inl (k.2.2.2, 3, .inl ym6)), (ybx, .inl (k.2.1, 48, .inl ym7))] H := hP
  have hD : va_D A [(sl, .inl (k.2.1, 3, .inl g1)), (sp, .inr (6, P2)), (sl2, .inl (k.2.1, 3, .inl g2)), (tp, .inl (k.1, 1600, .inl g3)), (rd, .inr (7, Rd)), (tk, .inr (9, K)), (ln, .inr (3, N)), (fo, .inl (k.2.1, 3, .inl g4)), (ea, .inr (1, E)), (nw, .inl (k.2.1, 10, .inl f1)), (kp, .inl (k.2.1, 410, .inl f2)), (bx, .inl (k.2.1, 30, .inl f3)), (si, .inr (8, Z)), (ytp, .inl (k.2.1, 1600, .inl ym1)), (yns, .inl (k.2.1, 3, .inl ym2)), (yss, .inl (k.2.1, 3, .inl ym3)), (ynw, .inl (k.2.1, 16, .inl ym4)), (ywe, .inl (k.2.1, 640, .inl ym5)), (yhbx, .inl (k.2.2.2, 3, .inl ym6)), (ybx, .inl (k.2.1, 48, .inl ym7))] := hD
  refine W.widen (k := 119) (n := 46443) (Nat.le_of_ble_eq_true rfl) (Nat.le_of_ble_eq_true rfl) ?_
  have hw9 := hw.symm; subst hw9
  refine lv_icmp_eq (tgt := 1645) hx hb dL_law_526 (by decide) (fun c_19 => ?_) (fun c_19 => ?_)
  · have c_19 : ((-1) : Int32) = (-1) := c_19
    exact law_tail rfl C0 hKX hA hA2 hbA hS (lv_sub hl [0, 1, 2, 3] rfl)
  · exact absurd rfl c_19

set_option maxHeartbeats 4000000 in
set_option maxRecDepth 100000 in
theorem law_9 {p : Program} {l : Launch} {e : Env} {s : State} {m : MethodId} {below : List Frame} {meth : Method} {c : Code} {D : va_G} {k : ClassId × ClassId × ClassId × ClassId} {A : Nat → Prop} {b L : Nat} {xs : Nat → Int32} (hL : L = 6) (C0 : lw_At p s m meth c b L xs) (hKX : va_K D classes (TY k) s ∧ cX s) (hA : ∀ q : Nat, s.heap.size ≤ q → A q) (hA2 : ∀ q : Nat, A q → s.heap.size ≤ q) (hbA : ¬ A b) {x y : Nat} {H : Heap} {locs : List Loc} (hF : Fresh D k A x y H) (hS : va_S A s.heap H locs) {ls : Array Slot} (hl : lv_has ls 4 [(0, .ref b), (1, .ref x), (2, .ref y), (3, .int 0)]) : W p l e room_1 s m #[Value.ref b] below meth c H locs 119 46443 (lw_Z below #[Value.ref b] s) (F0 m 531 ls []) := by
  obtain ⟨hx, hb, hr, hml, hown, hts, hX, hbl, hlocks, hgv⟩ := id C0
  have hown : s.vm.findClass RL = some m.cls := hown
  have hK := hKX.1
  have hgd : ∀ w ∈ gd, w ∈ lw_tbl := fun w h => (List.mem_filter.mp h).1
  have hg : ∀ w ∈ gd, w.before #[Value.ref b] s = true := fun w h => hts w (hgd w h)
  subst hL
  obtain ⟨F, pv, P, sl, g1, sp, P2, sl2, g2, tp, g3, rd, Rd, tk, K, ln, N, fo, g4, ea, E, nw, f1, kp, f2, bx, f3, si, Z, yM, ytp, ym1, yns, ym2, yss, ym3, ynw, ym4, ywe, ym5, yhbx, ym6, ybx, ym7, hf_0, hf_1, hf_2, hf_3, hf_4, hf_6, hf_7, hf_8, hf_10, hf_11, hf_14, hf_15, hf_18, hf_19, hf_21, hP, hD⟩ := hF
  have u_0_0 : F[0]? = some (.ref pv) := hf_0.1
  have u_0_12 : F[12]? = some (.int 0) := hf_0.2.2.2.1
  have u_1_10 : P[10]? = some (.int 0) := hf_1.1
  have u_15_53 : yM[53]? = some (.int 0) := hf_15.2.2.2.2.2.2.2.2.2.2.2.2.2.2.2.2.2.2.1
  have u_15_66 : yM[66]? = some (.int 0) := hf_15.2.2.2.2.2.2.2.2.2.2.2.2.2.2.2.2.2.2.2.2.2.2.2.1
  have hin1 : vp_in 1 6 := (show ¬ ((1 : Int32) < 0 ∨ 6 ≤ (1 : Int32).toNatClampNeg) from by decide)
  have hin2 : vp_in 2 6 := (show ¬ ((2 : Int32) < 0 ∨ 6 ≤ (2 : Int32).toNatClampNeg) from by decide)
  have hin3 : vp_in 3 6 := (show ¬ ((3 : Int32) < 0 ∨ 6 ≤ (3 : Int32).toNatClampNeg) from by decide)
  have hin4 : vp_in 4 6 := (show ¬ ((4 : Int32) < 0 ∨ 6 ≤ (4 : Int32).toNatClampNeg) from by decide)
  have hin5 : vp_in 5 6 := (show ¬ ((5 : Int32) < 0 ∨ 6 ≤ (5 : Int32).toNatClampNeg) from by decide)
  obtain ⟨p0, hp0⟩ : ∃ z, z = xs 1 := ⟨_, rfl⟩
  obtain ⟨p1, hp1⟩ : ∃ z, z = xs 2 := ⟨_, rfl⟩
  obtain ⟨p2, hp2⟩ : ∃ z, z = xs 3 := ⟨_, rfl⟩
  obtain ⟨p3, hp3⟩ : ∃ z, z = xs 4 := ⟨_, rfl⟩
  obtain ⟨p4, hp4⟩ : ∃ z, z = xs 5 := ⟨_, rfl⟩
  refine lv_aload_n hx hb dL_law_531 rfl (lv_at hl 1 rfl) ?_
  refine lv_aload_n hx hb dL_law_532 rfl (lv_at hl 0 rfl) ?_
  refine lv_iload_n hx hb dL_law_533 rfl (lv_at hl 3 rfl) ?_
  refine lv_iconst (v := 1) hx hb dL_law_534 (by decide) ?_
  refine lv_iadd hx hb dL_law_535 ?_
  refine lv_topi (fun y_1 ey_1 => ?_)
  obtain rfl : y_1 = 1 := ey_1.trans (by decide)
  refine va_sld hx hb hX hbl hbA hS hin1 dL_law_536 ?_
  refine lv_topi (fun y_2 ey_2 => ?_)
  rw [show y_2 = p0 from ey_2.trans hp0.symm]
  refine lv_aload_n hx hb dL_law_537 rfl (lv_at hl 0 rfl) ?_
  refine lv_iload_n hx hb dL_law_538 rfl (lv_at hl 3 rfl) ?_
  refine lv_iconst (v := 2) hx hb dL_law_539 (by decide) ?_
  refine lv_iadd hx hb dL_law_540 ?_
  refine lv_topi (fun y_3 ey_3 => ?_)
  obtain rfl : y_3 = 2 := ey_3.trans (by decide)
  refine va_sld hx hb hX hbl hbA hS hin2 dL_law_541 ?_
  refine lv_topi (fun y_4 ey_4 => ?_)
  rw [show y_4 = p1 from ey_4.trans hp1.symm]
  refine lv_aload_n hx hb dL_law_542 rfl (lv_at hl 0 rfl) ?_
  refine lv_iload_n hx hb dL_law_543 rfl (lv_at hl 3 rfl) ?_
  refine lv_iconst (v := 3) hx hb dL_law_544 (by decide) ?_
  refine lv_iadd hx hb dL_law_545 ?_
  refine lv_topi (fun y_5 ey_5 => ?_)
  obtain rfl : y_5 = 3 := ey_5.trans (by decide)
  refine va_sld hx hb hX hbl hbA hS hin3 dL_law_546 ?_
  refine lv_topi (fun y_6 ey_6 => ?_)
  rw [show y_6 = p2 from ey_6.trans hp2.symm]
  refine lv_aload_n hx hb dL_law_547 rfl (lv_at hl 0 rfl) ?_
  refine lv_iload_n hx hb dL_law_548 rfl (lv_at hl 3 rfl) ?_
  refine lv_iconst (v := 4) hx hb dL_law_549 (by decide) ?_
  refine lv_iadd hx hb dL_law_550 ?_
  refine lv_topi (fun y_7 ey_7 => ?_)
  obtain rfl : y_7 = 4 := ey_7.trans (by decide)
  refine va_sld hx hb hX hbl hbA hS hin4 dL_law_551 ?_
  refine lv_topi (fun y_8 ey_8 => ?_)
  rw [show y_8 = p3 from ey_8.trans hp3.symm]
  have hPc := hP.sub (ws' := [(x, .inr (11, F)), (pv, .inr (6, P))]) [0, 1] rfl
  have hDc := hD.sub (ws' := [(x, .inr (11, F)), (pv, .inr (6, P))]) [0, 1] (by decide) rfl
  have hFc := va_free (wc := [(x, .inr (11, F)), (pv, .inr (6, P))]) hD hS hA [0, 1] rfl
  refine va_calli (va_runV (As := [.int p0, .int p1, .int p2, .int p3]) (rest := []) ⟨hx, hb, hml, hown, hts⟩ (c_X11_fewest l D k H.size x pv F P p0 p1 p2 p3 u_0_0 u_0_12 u_1_10) (cwV 4 hts (gd_V hgd m971 m972 m973 m117 m974) rfl rfl rfl (by decide +kernel) ⟨Nat.le_of_ble_eq_true rfl, Nat.le_of_ble_eq_true rfl⟩) (cP_V hPc hKX hDc (ci := 11) (q0 := 0) rfl rfl) rfl rfl hl.1 rfl (lv_room (Nat.le_of_ble_eq_true rfl)) dL_law_552 ⟨Nat.le_of_ble_eq_true rfl, Nat.le_of_ble_eq_true rfl⟩) hS (fun q _ h => hFc q h) hFc (fun r_9 u t H1 locs ht hvm hw hB hz1 hk1 hS => ?_)
  obtain ⟨hP1, hD1⟩ := hB
  rw [ht] at hP1
  obtain ⟨hP, hD⟩ := va_join (wr := [(sl, .inl (k.2.1, 3, .inl g1)), (sp, .inr (6, P2)), (sl2, .inl (k.2.1, 3, .inl g2)), (tp, .inl (k.1, 1600, .inl g3)), (rd, .inr (7, Rd)), (tk, .inr (9, K)), (ln, .inr (3, N)), (fo, .inl (k.2.1, 3, .inl g4)), (ea, .inr (1, E)), (nw, .inl (k.2.1, 10, .inl f1)), (kp, .inl (k.2.1, 410, .inl f2)), (bx, .inl (k.2.1, 30, .inl f3)), (si, .inr (8, Z)), (y, .inr (12, yM)), (ytp, .inl (k.2.1, 1600, .inl ym1)), (yns, .inl (k.2.1, 3, .inl ym2)), (yss, .inl (k.2.1, 3, .inl ym3)), (ynw, .inl (k.2.1, 16, .inl ym4)), (ywe, .inl (k.2.1, 640, .inl ym5)), (yhbx, .inl (k.2.2.2, 3, .inl ym6)), (ybx, .inl (k.2.1, 48, .inl ym7))]) (w1 := []) hP hD [0, 1] [2, 3, 4, 5, 6, 7, 8, 9, 10, 11, 12, 13, 14, 15, 16, 17, 18, 19, 20, 21, 22] rfl rfl (by decide) (by decide) hk1 hFc hP1 hD1
  generalize H1 = H at hP hS ⊢
  have hP : va_P D classes [(sl, .inl (k.2.1, 3, .inl g1)), (sp, .inr (6, P2)), (sl2, .inl (k.2.1, 3, .inl g2)), (tp, .inl (k.1, 1600, .inl g3)), (rd, .inr (7, Rd)), (tk, .inr (9, K)), (ln, .inr (3, N)), (fo, .inl (k.2.1, 3, .inl g4)), (ea, .inr (1, E)), (nw, .inl (k.2.1, 10, .inl f1)), (kp, .inl (k.2.1, 410, .inl f2)), (bx, .inl (k.2.1, 30, .inl f3)), (si, .inr (8, Z)), (y, .inr (12, yM)), (ytp, .inl (k.2.1, 1600, .inl ym1)), (yns, .inl (k.2.1, 3, .inl ym2)), (yss, .inl (k.2.1, 3, .inl ym3)), (ynw, .inl (k.2.1, 16, .inl ym4)), (ywe, .inl (k.2.1, 640, .inl ym5)), (yhbx, .inl (k.2.2.2, 3, .inl ym6)), (ybx, .inl (k.2.1, 48, .inl ym7))] H := hP
  have hD : va_D A [(sl, .inl (k.2.1, 3, .inl g1)), (sp, .inr (6, P2)), (sl2, .inl (k.2.1, 3, .inl g2)), (tp, .inl (k.1, 1600, .inl g3)), (rd, .inr (7, Rd)), (tk, .inr (9, K)), (ln, .inr (3, N)), (fo, .inl (k.2.1, 3, .inl g4)), (ea, .inr (1, E)), (nw, .inl (k.2.1, 10, .inl f1)), (kp, .inl (k.2.1, 410, .inl f2)), (bx, .inl (k.2.1, 30, .inl f3)), (si, .inr (8, Z)), (y, .inr (12, yM)), (ytp, .inl (k.2.1, 1600, .inl ym1)), (yns, .inl (k.2.1, 3, .inl ym2)), (yss, .inl (k.2.1, 3, .inl ym3)), (ynw, .inl (k.2.1, 16, .inl ym4)), (ywe, .inl (k.2.1, 640, .inl ym5)), (yhbx, .inl (k.2.2.2, 3, .inl ym6)), (ybx, .inl (k.2.1, 48, .inl ym7))] := hD
  refine W.widen (k := 119) (n := 46443) (Nat.le_of_ble_eq_true rfl) (Nat.le_of_ble_eq_true rfl) ?_
  have hw9 := hw.symm; subst hw9
  refine lv_aload_n hx hb dL_law_555 rfl (lv_at hl 2 rfl) ?_
  refine lv_aload_n hx hb dL_law_556 rfl (lv_at hl 0 rfl) ?_
  refine lv_iload_n hx hb dL_law_557 rfl (lv_at hl 3 rfl) ?_
  refine lv_iconst (v := 1) hx hb dL_law_558 (by decide) ?_
  refine lv_iadd hx hb dL_law_559 ?_
  refine lv_topi (fun y_10 ey_10 => ?_)
  obtain rfl : y_10 = 1 := ey_10.trans (by decide)
  refine va_sld hx hb hX hbl hbA hS hin1 dL_law_560 ?_
  refine lv_topi (fun y_11 ey_11 => ?_)
  rw [show y_11 = p0 from ey_11.trans hp0.symm]
  refine lv_aload_n hx hb dL_law_561 rfl (lv_at hl 0 rfl) ?_
  refine lv_iload_n hx hb dL_law_562 rfl (lv_at hl 3 rfl) ?_
  refine lv_iconst (v := 2) hx hb dL_law_563 (by decide) ?_
  refine lv_iadd hx hb dL_law_564 ?_
  refine lv_topi (fun y_12 ey_12 => ?_)
  obtain rfl : y_12 = 2 := ey_12.trans (by decide)
  refine va_sld hx hb hX hbl hbA hS hin2 dL_law_565 ?_
  refine lv_topi (fun y_13 ey_13 => ?_)
  rw [show y_13 = p1 from ey_13.trans hp1.symm]
  refine lv_aload_n hx hb dL_law_566 rfl (lv_at hl 0 rfl) ?_
  refine lv_iload_n hx hb dL_law_567 rfl (lv_at hl 3 rfl) ?_
  refine lv_iconst (v := 3) hx hb dL_law_568 (by decide) ?_
  refine lv_iadd hx hb dL_law_569 ?_
  refine lv_topi (fun y_14 ey_14 => ?_)
  obtain rfl : y_14 = 3 := ey_14.trans (by decide)
  refine va_sld hx hb hX hbl hbA hS hin3 dL_law_570 ?_
  refine lv_topi (fun y_15 ey_15 => ?_)
  rw [show y_15 = p2 from ey_15.trans hp2.symm]
  refine lv_aload_n hx hb dL_law_571 rfl (lv_at hl 0 rfl) ?_
  refine lv_iload_n hx hb dL_law_572 rfl (lv_at hl 3 rfl) ?_
  refine lv_iconst (v := 4) hx hb dL_law_573 (by decide) ?_
  refine lv_iadd hx hb dL_law_574 ?_
  refine lv_topi (fun y_16 ey_16 => ?_)
  obtain rfl : y_16 = 4 := ey_16.trans (by decide)
  refine va_sld hx hb hX hbl hbA hS hin4 dL_law_575 ?_
  refine lv_topi (fun y_17 ey_17 => ?_)
  rw [show y_17 = p3 from ey_17.trans hp3.symm]
  have hPc := hP.sub (ws' := [(y, .inr (12, yM))]) [13] rfl
  have hDc := hD.sub (ws' := [(y, .inr (12, yM))]) [13] (by decide) rfl
  have hFc := va_free (wc := [(y, .inr (12, yM))]) hD hS hA [13] rfl
  refine va_calli (va_runV (As := [.int p0, .int p1, .int p2, .int p3]) (rest := [.int (-1)]) ⟨hx, hb, hml, hown, hts⟩ (c_X12_fewest l D k H.size y yM p0 p1 p2 p3 u_15_53 u_15_66) (cwV 4 hts (gd_V hgd m1842 m1843 m1844 m131 m1845) rfl rfl rfl (by decide +kernel) ⟨Nat.le_of_ble_eq_true rfl, Nat.le_of_ble_eq_true rfl⟩) (cP_V hPc hKX hDc (ci := 12) (q0 := 0) rfl rfl) rfl rfl hl.1 rfl (lv_room (Nat.le_of_ble_eq_true rfl)) dL_law_576 ⟨Nat.le_of_ble_eq_true rfl, Nat.le_of_ble_eq_true rfl⟩) hS (fun q _ h => hFc q h) hFc (fun r_18 u t H1 locs ht hvm hw hB hz1 hk1 hS => ?_)
  obtain ⟨hP1, hD1⟩ := hB
  rw [ht] at hP1
  obtain ⟨hP, hD⟩ := va_join (wr := [(sl, .inl (k.2.1, 3, .inl g1)), (sp, .inr (6, P2)), (sl2, .inl (k.2.1, 3, .inl g2)), (tp, .inl (k.1, 1600, .inl g3)), (rd, .inr (7, Rd)), (tk, .inr (9, K)), (ln, .inr (3, N)), (fo, .inl (k.2.1, 3, .inl g4)), (ea, .inr (1, E)), (nw, .inl (k.2.1, 10, .inl f1)), (kp, .inl (k.2.1, 410, .inl f2)), (bx, .inl (k.2.1, 30, .inl f3)), (si, .inr (8, Z)), (ytp, .inl (k.2.1, 1600, .inl ym1)), (yns, .inl (k.2.1, 3, .inl ym2)), (yss, .inl (k.2.1, 3, .inl ym3)), (ynw, .inl (k.2.1, 16, .inl ym4)), (ywe, .inl (k.2.1, 640, .inl ym5)), (yhbx, .inl (k.2.2.2, 3, .inl ym6)), (ybx, .inl (k.2.1, 48, .inl ym7))]) (w1 := []) hP hD [13] [0, 1, 2, 3, 4, 5, 6, 7, 8, 9, 10, 11, 12, 14, 15, 16, 17, 18, 19, 20] rfl rfl (by decide) (by decide) hk1 hFc hP1 hD1
  generalize H1 = H at hP hS ⊢
  have hP : va_P D classes [(sl, .inl (k.2.1, 3, .inl g1)), (sp, .inr (6, P2)), (sl2, .inl (k.2.1, 3, .inl g2)), (tp, .inl (k.1, 1600, .inl g3)), (rd, .inr (7, Rd)), (tk, .inr (9, K)), (ln, .inr (3, N)), (fo, .inl (k.2.1, 3, .inl g4)), (ea, .inr (1, E)), (nw, .inl (k.2.1, 10, .inl f1)), (kp, .inl (k.2.1, 410, .inl f2)), (bx, .inl (k.2.1, 30, .inl f3)), (si, .inr (8, Z)), (ytp, .inl (k.2.1, 1600, .inl ym1)), (yns, .inl (k.2.1, 3, .inl ym2)), (yss, .inl (k.2.1, 3, .inl ym3)), (ynw, .inl (k.2.1, 16, .inl ym4)), (ywe, .inl (k.2.1, 640, .inl ym5)), (yhbx, .inl (k.2.2.2, 3, .inl ym6)), (ybx, .inl (k.2.1, 48, .inl ym7))] H := hP
  have hD : va_D A [(sl, .inl (k.2.1, 3, .inl g1)), (sp, .inr (6, P2)), (sl2, .inl (k.2.1, 3, .inl g2)), (tp, .inl (k.1, 1600, .inl g3)), (rd, .inr (7, Rd)), (tk, .inr (9, K)), (ln, .inr (3, N)), (fo, .inl (k.2.1, 3, .inl g4)), (ea, .inr (1, E)), (nw, .inl (k.2.1, 10, .inl f1)), (kp, .inl (k.2.1, 410, .inl f2)), (bx, .inl (k.2.1, 30, .inl f3)), (si, .inr (8, Z)), (ytp, .inl (k.2.1, 1600, .inl ym1)), (yns, .inl (k.2.1, 3, .inl ym2)), (yss, .inl (k.2.1, 3, .inl ym3)), (ynw, .inl (k.2.1, 16, .inl ym4)), (ywe, .inl (k.2.1, 640, .inl ym5)), (yhbx, .inl (k.2.2.2, 3, .inl ym6)), (ybx, .inl (k.2.1, 48, .inl ym7))] := hD
  refine W.widen (k := 119) (n := 46443) (Nat.le_of_ble_eq_true rfl) (Nat.le_of_ble_eq_true rfl) ?_
  have hw9 := hw.symm; subst hw9
  refine lv_icmp_eq (tgt := 1645) hx hb dL_law_579 (by decide) (fun c_19 => ?_) (fun c_19 => ?_)
  · have c_19 : ((-1) : Int32) = (-1) := c_19
    exact law_tail rfl C0 hKX hA hA2 hbA hS (lv_sub hl [0, 1, 2, 3] rfl)
  · exact absurd rfl c_19

set_option maxHeartbeats 4000000 in
set_option maxRecDepth 100000 in
theorem law_10 {p : Program} {l : Launch} {e : Env} {s : State} {m : MethodId} {below : List Frame} {meth : Method} {c : Code} {D : va_G} {k : ClassId × ClassId × ClassId × ClassId} {A : Nat → Prop} {b L : Nat} {xs : Nat → Int32} (hL : L = 6) (C0 : lw_At p s m meth c b L xs) (hKX : va_K D classes (TY k) s ∧ cX s) (hA : ∀ q : Nat, s.heap.size ≤ q → A q) (hA2 : ∀ q : Nat, A q → s.heap.size ≤ q) (hbA : ¬ A b) {x y : Nat} {H : Heap} {locs : List Loc} (hF : Fresh D k A x y H) (hS : va_S A s.heap H locs) {ls : Array Slot} (hl : lv_has ls 4 [(0, .ref b), (1, .ref x), (2, .ref y), (3, .int 0)]) : W p l e room_1 s m #[Value.ref b] below meth c H locs 119 46443 (lw_Z below #[Value.ref b] s) (F0 m 584 ls []) := by
  obtain ⟨hx, hb, hr, hml, hown, hts, hX, hbl, hlocks, hgv⟩ := id C0
  have hown : s.vm.findClass RL = some m.cls := hown
  have hK := hKX.1
  have hgd : ∀ w ∈ gd, w ∈ lw_tbl := fun w h => (List.mem_filter.mp h).1
  have hg : ∀ w ∈ gd, w.before #[Value.ref b] s = true := fun w h => hts w (hgd w h)
  subst hL
  obtain ⟨F, pv, P, sl, g1, sp, P2, sl2, g2, tp, g3, rd, Rd, tk, K, ln, N, fo, g4, ea, E, nw, f1, kp, f2, bx, f3, si, Z, yM, ytp, ym1, yns, ym2, yss, ym3, ynw, ym4, ywe, ym5, yhbx, ym6, ybx, ym7, hf_0, hf_1, hf_2, hf_3, hf_4, hf_6, hf_7, hf_8, hf_10, hf_11, hf_14, hf_15, hf_18, hf_19, hf_21, hP, hD⟩ := hF
  have u_0_0 : F[0]? = some (.ref pv) := hf_0.1
  have u_1_10 : P[10]? = some (.int 0) := hf_1.1
  have u_15_53 : yM[53]? = some (.int 0) := hf_15.2.2.2.2.2.2.2.2.2.2.2.2.2.2.2.2.2.2.1
  have hin1 : vp_in 1 6 := (show ¬ ((1 : Int32) < 0 ∨ 6 ≤ (1 : Int32).toNatClampNeg) from by decide)
  have hin2 : vp_in 2 6 := (show ¬ ((2 : Int32) < 0 ∨ 6 ≤ (2 : Int32).toNatClampNeg) from by decide)
  have hin3 : vp_in 3 6 := (show ¬ ((3 : Int32) < 0 ∨ 6 ≤ (3 : Int32).toNatClampNeg) from by decide)
  have hin4 : vp_in 4 6 := (show ¬ ((4 : Int32) < 0 ∨ 6 ≤ (4 : Int32).toNatClampNeg) from by decide)
  have hin5 : vp_in 5 6 := (show ¬ ((5 : Int32) < 0 ∨ 6 ≤ (5 : Int32).toNatClampNeg) from by decide)
  obtain ⟨p0, hp0⟩ : ∃ z, z = xs 1 := ⟨_, rfl⟩
  obtain ⟨p1, hp1⟩ : ∃ z, z = xs 2 := ⟨_, rfl⟩
  obtain ⟨p2, hp2⟩ : ∃ z, z = xs 3 := ⟨_, rfl⟩
  obtain ⟨p3, hp3⟩ : ∃ z, z = xs 4 := ⟨_, rfl⟩
  obtain ⟨p4, hp4⟩ : ∃ z, z = xs 5 := ⟨_, rfl⟩
  refine lv_aload_n hx hb dL_law_584 rfl (lv_at hl 1 rfl) ?_
  refine lv_aload_n hx hb dL_law_585 rfl (lv_at hl 0 rfl) ?_
  refine lv_iload_n hx hb dL_law_586 rfl (lv_at hl 3 rfl) ?_
  refine lv_iconst (v := 1) hx hb dL_law_587 (by decide) ?_
  refine lv_iadd hx hb dL_law_588 ?_
  refine lv_topi (fun y_1 ey_1 => ?_)
  obtain rfl : y_1 = 1 := ey_1.trans (by decide)
  refine va_sld hx hb hX hbl hbA hS hin1 dL_law_589 ?_
  refine lv_topi (fun y_2 ey_2 => ?_)
  rw [show y_2 = p0 from ey_2.trans hp0.symm]
  refine lv_aload_n hx hb dL_law_590 rfl (lv_at hl 0 rfl) ?_
  refine lv_iload_n hx hb dL_law_591 rfl (lv_at hl 3 rfl) ?_
  refine lv_iconst (v := 2) hx hb dL_law_592 (by decide) ?_
  refine lv_iadd hx hb dL_law_593 ?_
  refine lv_topi (fun y_3 ey_3 => ?_)
  obtain rfl : y_3 = 2 := ey_3.trans (by decide)
  refine va_sld hx hb hX hbl hbA hS hin2 dL_law_594 ?_
  refine lv_topi (fun y_4 ey_4 => ?_)
  rw [show y_4 = p1 from ey_4.trans hp1.symm]
  refine lv_aload_n hx hb dL_law_595 rfl (lv_at hl 0 rfl) ?_
  refine lv_iload_n hx hb dL_law_596 rfl (lv_at hl 3 rfl) ?_
  refine lv_iconst (v := 3) hx hb dL_law_597 (by decide) ?_
  refine lv_iadd hx hb dL_law_598 ?_
  refine lv_topi (fun y_5 ey_5 => ?_)
  obtain rfl : y_5 = 3 := ey_5.trans (by decide)
  refine va_sld hx hb hX hbl hbA hS hin3 dL_law_599 ?_
  refine lv_topi (fun y_6 ey_6 => ?_)
  rw [show y_6 = p2 from ey_6.trans hp2.symm]
  refine lv_aload_n hx hb dL_law_600 rfl (lv_at hl 0 rfl) ?_
  refine lv_iload_n hx hb dL_law_601 rfl (lv_at hl 3 rfl) ?_
  refine lv_iconst (v := 4) hx hb dL_law_602 (by decide) ?_
  refine lv_iadd hx hb dL_law_603 ?_
  refine lv_topi (fun y_7 ey_7 => ?_)
  obtain rfl : y_7 = 4 := ey_7.trans (by decide)
  refine va_sld hx hb hX hbl hbA hS hin4 dL_law_604 ?_
  refine lv_topi (fun y_8 ey_8 => ?_)
  rw [show y_8 = p3 from ey_8.trans hp3.symm]
  have hPc := hP.sub (ws' := [(x, .inr (11, F)), (pv, .inr (6, P))]) [0, 1] rfl
  have hDc := hD.sub (ws' := [(x, .inr (11, F)), (pv, .inr (6, P))]) [0, 1] (by decide) rfl
  have hFc := va_free (wc := [(x, .inr (11, F)), (pv, .inr (6, P))]) hD hS hA [0, 1] rfl
  refine va_calll (va_runV (As := [.int p0, .int p1, .int p2, .int p3]) (rest := []) ⟨hx, hb, hml, hown, hts⟩ (c_X11_ways l D k H.size x pv F P p0 p1 p2 p3 u_0_0 u_1_10) (cwV 4 hts (gd_V hgd m1014 m1015 m1016 m117 m1017) rfl rfl rfl (by decide +kernel) ⟨Nat.le_of_ble_eq_true rfl, Nat.le_of_ble_eq_true rfl⟩) (cP_V hPc hKX hDc (ci := 11) (q0 := 0) rfl rfl) rfl rfl hl.1 rfl (lv_room (Nat.le_of_ble_eq_true rfl)) dL_law_605 ⟨Nat.le_of_ble_eq_true rfl, Nat.le_of_ble_eq_true rfl⟩) hS (fun q _ h => hFc q h) hFc (fun r_9 u t H1 locs ht hvm hw hB hz1 hk1 hS => ?_)
  obtain ⟨hP1, hD1⟩ := hB
  rw [ht] at hP1
  obtain ⟨hP, hD⟩ := va_join (wr := [(sl, .inl (k.2.1, 3, .inl g1)), (sp, .inr (6, P2)), (sl2, .inl (k.2.1, 3, .inl g2)), (tp, .inl (k.1, 1600, .inl g3)), (rd, .inr (7, Rd)), (tk, .inr (9, K)), (ln, .inr (3, N)), (fo, .inl (k.2.1, 3, .inl g4)), (ea, .inr (1, E)), (nw, .inl (k.2.1, 10, .inl f1)), (kp, .inl (k.2.1, 410, .inl f2)), (bx, .inl (k.2.1, 30, .inl f3)), (si, .inr (8, Z)), (y, .inr (12, yM)), (ytp, .inl (k.2.1, 1600, .inl ym1)), (yns, .inl (k.2.1, 3, .inl ym2)), (yss, .inl (k.2.1, 3, .inl ym3)), (ynw, .inl (k.2.1, 16, .inl ym4)), (ywe, .inl (k.2.1, 640, .inl ym5)), (yhbx, .inl (k.2.2.2, 3, .inl ym6)), (ybx, .inl (k.2.1, 48, .inl ym7))]) (w1 := []) hP hD [0, 1] [2, 3, 4, 5, 6, 7, 8, 9, 10, 11, 12, 13, 14, 15, 16, 17, 18, 19, 20, 21, 22] rfl rfl (by decide) (by decide) hk1 hFc hP1 hD1
  generalize H1 = H at hP hS ⊢
  have hP : va_P D classes [(sl, .inl (k.2.1, 3, .inl g1)), (sp, .inr (6, P2)), (sl2, .inl (k.2.1, 3, .inl g2)), (tp, .inl (k.1, 1600, .inl g3)), (rd, .inr (7, Rd)), (tk, .inr (9, K)), (ln, .inr (3, N)), (fo, .inl (k.2.1, 3, .inl g4)), (ea, .inr (1, E)), (nw, .inl (k.2.1, 10, .inl f1)), (kp, .inl (k.2.1, 410, .inl f2)), (bx, .inl (k.2.1, 30, .inl f3)), (si, .inr (8, Z)), (y, .inr (12, yM)), (ytp, .inl (k.2.1, 1600, .inl ym1)), (yns, .inl (k.2.1, 3, .inl ym2)), (yss, .inl (k.2.1, 3, .inl ym3)), (ynw, .inl (k.2.1, 16, .inl ym4)), (ywe, .inl (k.2.1, 640, .inl ym5)), (yhbx, .inl (k.2.2.2, 3, .inl ym6)), (ybx, .inl (k.2.1, 48, .inl ym7))] H := hP
  have hD : va_D A [(sl, .inl (k.2.1, 3, .inl g1)), (sp, .inr (6, P2)), (sl2, .inl (k.2.1, 3, .inl g2)), (tp, .inl (k.1, 1600, .inl g3)), (rd, .inr (7, Rd)), (tk, .inr (9, K)), (ln, .inr (3, N)), (fo, .inl (k.2.1, 3, .inl g4)), (ea, .inr (1, E)), (nw, .inl (k.2.1, 10, .inl f1)), (kp, .inl (k.2.1, 410, .inl f2)), (bx, .inl (k.2.1, 30, .inl f3)), (si, .inr (8, Z)), (y, .inr (12, yM)), (ytp, .inl (k.2.1, 1600, .inl ym1)), (yns, .inl (k.2.1, 3, .inl ym2)), (yss, .inl (k.2.1, 3, .inl ym3)), (ynw, .inl (k.2.1, 16, .inl ym4)), (ywe, .inl (k.2.1, 640, .inl ym5)), (yhbx, .inl (k.2.2.2, 3, .inl ym6)), (ybx, .inl (k.2.1, 48, .inl ym7))] := hD
  refine W.widen (k := 119) (n := 46443) (Nat.le_of_ble_eq_true rfl) (Nat.le_of_ble_eq_true rfl) ?_
  have hw9 := hw.symm; subst hw9
  refine lv_aload_n hx hb dL_law_608 rfl (lv_at hl 2 rfl) ?_
  refine lv_aload_n hx hb dL_law_609 rfl (lv_at hl 0 rfl) ?_
  refine lv_iload_n hx hb dL_law_610 rfl (lv_at hl 3 rfl) ?_
  refine lv_iconst (v := 1) hx hb dL_law_611 (by decide) ?_
  refine lv_iadd hx hb dL_law_612 ?_
  refine lv_topi (fun y_10 ey_10 => ?_)
  obtain rfl : y_10 = 1 := ey_10.trans (by decide)
  refine va_sld hx hb hX hbl hbA hS hin1 dL_law_613 ?_
  refine lv_topi (fun y_11 ey_11 => ?_)
  rw [show y_11 = p0 from ey_11.trans hp0.symm]
  refine lv_aload_n hx hb dL_law_614 rfl (lv_at hl 0 rfl) ?_
  refine lv_iload_n hx hb dL_law_615 rfl (lv_at hl 3 rfl) ?_
  refine lv_iconst (v := 2) hx hb dL_law_616 (by decide) ?_
  refine lv_iadd hx hb dL_law_617 ?_
  refine lv_topi (fun y_12 ey_12 => ?_)
  obtain rfl : y_12 = 2 := ey_12.trans (by decide)
  refine va_sld hx hb hX hbl hbA hS hin2 dL_law_618 ?_
  refine lv_topi (fun y_13 ey_13 => ?_)
  rw [show y_13 = p1 from ey_13.trans hp1.symm]
  refine lv_aload_n hx hb dL_law_619 rfl (lv_at hl 0 rfl) ?_
  refine lv_iload_n hx hb dL_law_620 rfl (lv_at hl 3 rfl) ?_
  refine lv_iconst (v := 3) hx hb dL_law_621 (by decide) ?_
  refine lv_iadd hx hb dL_law_622 ?_
  refine lv_topi (fun y_14 ey_14 => ?_)
  obtain rfl : y_14 = 3 := ey_14.trans (by decide)
  refine va_sld hx hb hX hbl hbA hS hin3 dL_law_623 ?_
  refine lv_topi (fun y_15 ey_15 => ?_)
  rw [show y_15 = p2 from ey_15.trans hp2.symm]
  refine lv_aload_n hx hb dL_law_624 rfl (lv_at hl 0 rfl) ?_
  refine lv_iload_n hx hb dL_law_625 rfl (lv_at hl 3 rfl) ?_
  refine lv_iconst (v := 4) hx hb dL_law_626 (by decide) ?_
  refine lv_iadd hx hb dL_law_627 ?_
  refine lv_topi (fun y_16 ey_16 => ?_)
  obtain rfl : y_16 = 4 := ey_16.trans (by decide)
  refine va_sld hx hb hX hbl hbA hS hin4 dL_law_628 ?_
  refine lv_topi (fun y_17 ey_17 => ?_)
  rw [show y_17 = p3 from ey_17.trans hp3.symm]
  have hPc := hP.sub (ws' := [(y, .inr (12, yM))]) [13] rfl
  have hDc := hD.sub (ws' := [(y, .inr (12, yM))]) [13] (by decide) rfl
  have hFc := va_free (wc := [(y, .inr (12, yM))]) hD hS hA [13] rfl
  refine va_calll (va_runV (As := [.int p0, .int p1, .int p2, .int p3]) (rest := [.long (-1)]) ⟨hx, hb, hml, hown, hts⟩ (c_X12_ways l D k H.size y yM p0 p1 p2 p3 u_15_53) (cwV 4 hts (gd_V hgd m1870 m1871 m1872 m131 m1873) rfl rfl rfl (by decide +kernel) ⟨Nat.le_of_ble_eq_true rfl, Nat.le_of_ble_eq_true rfl⟩) (cP_V hPc hKX hDc (ci := 12) (q0 := 0) rfl rfl) rfl rfl hl.1 rfl (lv_room (Nat.le_of_ble_eq_true rfl)) dL_law_629 ⟨Nat.le_of_ble_eq_true rfl, Nat.le_of_ble_eq_true rfl⟩) hS (fun q _ h => hFc q h) hFc (fun r_18 u t H1 locs ht hvm hw hB hz1 hk1 hS => ?_)
  obtain ⟨hP1, hD1⟩ := hB
  rw [ht] at hP1
  obtain ⟨hP, hD⟩ := va_join (wr := [(sl, .inl (k.2.1, 3, .inl g1)), (sp, .inr (6, P2)), (sl2, .inl (k.2.1, 3, .inl g2)), (tp, .inl (k.1, 1600, .inl g3)), (rd, .inr (7, Rd)), (tk, .inr (9, K)), (ln, .inr (3, N)), (fo, .inl (k.2.1, 3, .inl g4)), (ea, .inr (1, E)), (nw, .inl (k.2.1, 10, .inl f1)), (kp, .inl (k.2.1, 410, .inl f2)), (bx, .inl (k.2.1, 30, .inl f3)), (si, .inr (8, Z)), (ytp, .inl (k.2.1, 1600, .inl ym1)), (yns, .inl (k.2.1, 3, .inl ym2)), (yss, .inl (k.2.1, 3, .inl ym3)), (ynw, .inl (k.2.1, 16, .inl ym4)), (ywe, .inl (k.2.1, 640, .inl ym5)), (yhbx, .inl (k.2.2.2, 3, .inl ym6)), (ybx, .inl (k.2.1, 48, .inl ym7))]) (w1 := []) hP hD [13] [0, 1, 2, 3, 4, 5, 6, 7, 8, 9, 10, 11, 12, 14, 15, 16, 17, 18, 19, 20] rfl rfl (by decide) (by decide) hk1 hFc hP1 hD1
  generalize H1 = H at hP hS ⊢
  have hP : va_P D classes [(sl, .inl (k.2.1, 3, .inl g1)), (sp, .inr (6, P2)), (sl2, .inl (k.2.1, 3, .inl g2)), (tp, .inl (k.1, 1600, .inl g3)), (rd, .inr (7, Rd)), (tk, .inr (9, K)), (ln, .inr (3, N)), (fo, .inl (k.2.1, 3, .inl g4)), (ea, .inr (1, E)), (nw, .inl (k.2.1, 10, .inl f1)), (kp, .inl (k.2.1, 410, .inl f2)), (bx, .inl (k.2.1, 30, .inl f3)), (si, .inr (8, Z)), (ytp, .inl (k.2.1, 1600, .inl ym1)), (yns, .inl (k.2.1, 3, .inl ym2)), (yss, .inl (k.2.1, 3, .inl ym3)), (ynw, .inl (k.2.1, 16, .inl ym4)), (ywe, .inl (k.2.1, 640, .inl ym5)), (yhbx, .inl (k.2.2.2, 3, .inl ym6)), (ybx, .inl (k.2.1, 48, .inl ym7))] H := hP
  have hD : va_D A [(sl, .inl (k.2.1, 3, .inl g1)), (sp, .inr (6, P2)), (sl2, .inl (k.2.1, 3, .inl g2)), (tp, .inl (k.1, 1600, .inl g3)), (rd, .inr (7, Rd)), (tk, .inr (9, K)), (ln, .inr (3, N)), (fo, .inl (k.2.1, 3, .inl g4)), (ea, .inr (1, E)), (nw, .inl (k.2.1, 10, .inl f1)), (kp, .inl (k.2.1, 410, .inl f2)), (bx, .inl (k.2.1, 30, .inl f3)), (si, .inr (8, Z)), (ytp, .inl (k.2.1, 1600, .inl ym1)), (yns, .inl (k.2.1, 3, .inl ym2)), (yss, .inl (k.2.1, 3, .inl ym3)), (ynw, .inl (k.2.1, 16, .inl ym4)), (ywe, .inl (k.2.1, 640, .inl ym5)), (yhbx, .inl (k.2.2.2, 3, .inl ym6)), (ybx, .inl (k.2.1, 48, .inl ym7))] := hD
  refine W.widen (k := 119) (n := 46443) (Nat.le_of_ble_eq_true rfl) (Nat.le_of_ble_eq_true rfl) ?_
  have hw9 := hw.symm; subst hw9
  refine W.lcmp hx hb dL_law_632 ?_
  refine lv_if_eq (tgt := 1645) hx hb dL_law_633 (by decide) (fun c_19 => ?_) (fun c_19 => ?_)
  · have c_19 : ((lg_cmp (-1) (-1)) : Int32) = 0 := c_19
    exact law_tail rfl C0 hKX hA hA2 hbA hS (lv_sub hl [0, 1, 2, 3] rfl)
  · exact absurd (lg_same rfl) c_19

set_option maxHeartbeats 4000000 in
set_option maxRecDepth 100000 in
theorem law_11 {p : Program} {l : Launch} {e : Env} {s : State} {m : MethodId} {below : List Frame} {meth : Method} {c : Code} {D : va_G} {k : ClassId × ClassId × ClassId × ClassId} {A : Nat → Prop} {b L : Nat} {xs : Nat → Int32} (hL : L = 6) (C0 : lw_At p s m meth c b L xs) (hKX : va_K D classes (TY k) s ∧ cX s) (hA : ∀ q : Nat, s.heap.size ≤ q → A q) (hA2 : ∀ q : Nat, A q → s.heap.size ≤ q) (hbA : ¬ A b) {x y : Nat} {H : Heap} {locs : List Loc} (hF : Fresh D k A x y H) (hS : va_S A s.heap H locs) {ls : Array Slot} (hl : lv_has ls 4 [(0, .ref b), (1, .ref x), (2, .ref y), (3, .int 0)]) : W p l e room_1 s m #[Value.ref b] below meth c H locs 119 46443 (lw_Z below #[Value.ref b] s) (F0 m 638 ls []) := by
  obtain ⟨hx, hb, hr, hml, hown, hts, hX, hbl, hlocks, hgv⟩ := id C0
  have hown : s.vm.findClass RL = some m.cls := hown
  have hK := hKX.1
  have hgd : ∀ w ∈ gd, w ∈ lw_tbl := fun w h => (List.mem_filter.mp h).1
  have hg : ∀ w ∈ gd, w.before #[Value.ref b] s = true := fun w h => hts w (hgd w h)
  subst hL
  obtain ⟨F, pv, P, sl, g1, sp, P2, sl2, g2, tp, g3, rd, Rd, tk, K, ln, N, fo, g4, ea, E, nw, f1, kp, f2, bx, f3, si, Z, yM, ytp, ym1, yns, ym2, yss, ym3, ynw, ym4, ywe, ym5, yhbx, ym6, ybx, ym7, hf_0, hf_1, hf_2, hf_3, hf_4, hf_6, hf_7, hf_8, hf_10, hf_11, hf_14, hf_15, hf_18, hf_19, hf_21, hP, hD⟩ := hF
  have u_0_0 : F[0]? = some (.ref pv) := hf_0.1
  have u_1_10 : P[10]? = some (.int 0) := hf_1.1
  have u_15_53 : yM[53]? = some (.int 0) := hf_15.2.2.2.2.2.2.2.2.2.2.2.2.2.2.2.2.2.2.1
  have hin1 : vp_in 1 6 := (show ¬ ((1 : Int32) < 0 ∨ 6 ≤ (1 : Int32).toNatClampNeg) from by decide)
  have hin2 : vp_in 2 6 := (show ¬ ((2 : Int32) < 0 ∨ 6 ≤ (2 : Int32).toNatClampNeg) from by decide)
  have hin3 : vp_in 3 6 := (show ¬ ((3 : Int32) < 0 ∨ 6 ≤ (3 : Int32).toNatClampNeg) from by decide)
  have hin4 : vp_in 4 6 := (show ¬ ((4 : Int32) < 0 ∨ 6 ≤ (4 : Int32).toNatClampNeg) from by decide)
  have hin5 : vp_in 5 6 := (show ¬ ((5 : Int32) < 0 ∨ 6 ≤ (5 : Int32).toNatClampNeg) from by decide)
  obtain ⟨p0, hp0⟩ : ∃ z, z = xs 1 := ⟨_, rfl⟩
  obtain ⟨p1, hp1⟩ : ∃ z, z = xs 2 := ⟨_, rfl⟩
  obtain ⟨p2, hp2⟩ : ∃ z, z = xs 3 := ⟨_, rfl⟩
  obtain ⟨p3, hp3⟩ : ∃ z, z = xs 4 := ⟨_, rfl⟩
  obtain ⟨p4, hp4⟩ : ∃ z, z = xs 5 := ⟨_, rfl⟩
  refine lv_aload_n hx hb dL_law_638 rfl (lv_at hl 1 rfl) ?_
  refine lv_aload_n hx hb dL_law_639 rfl (lv_at hl 0 rfl) ?_
  refine lv_iload_n hx hb dL_law_640 rfl (lv_at hl 3 rfl) ?_
  refine lv_iconst (v := 1) hx hb dL_law_641 (by decide) ?_
  refine lv_iadd hx hb dL_law_642 ?_
  refine lv_topi (fun y_1 ey_1 => ?_)
  obtain rfl : y_1 = 1 := ey_1.trans (by decide)
  refine va_sld hx hb hX hbl hbA hS hin1 dL_law_643 ?_
  refine lv_topi (fun y_2 ey_2 => ?_)
  rw [show y_2 = p0 from ey_2.trans hp0.symm]
  refine lv_aload_n hx hb dL_law_644 rfl (lv_at hl 0 rfl) ?_
  refine lv_iload_n hx hb dL_law_645 rfl (lv_at hl 3 rfl) ?_
  refine lv_iconst (v := 2) hx hb dL_law_646 (by decide) ?_
  refine lv_iadd hx hb dL_law_647 ?_
  refine lv_topi (fun y_3 ey_3 => ?_)
  obtain rfl : y_3 = 2 := ey_3.trans (by decide)
  refine va_sld hx hb hX hbl hbA hS hin2 dL_law_648 ?_
  refine lv_topi (fun y_4 ey_4 => ?_)
  rw [show y_4 = p1 from ey_4.trans hp1.symm]
  refine lv_aload_n hx hb dL_law_649 rfl (lv_at hl 0 rfl) ?_
  refine lv_iload_n hx hb dL_law_650 rfl (lv_at hl 3 rfl) ?_
  refine lv_iconst (v := 3) hx hb dL_law_651 (by decide) ?_
  refine lv_iadd hx hb dL_law_652 ?_
  refine lv_topi (fun y_5 ey_5 => ?_)
  obtain rfl : y_5 = 3 := ey_5.trans (by decide)
  refine va_sld hx hb hX hbl hbA hS hin3 dL_law_653 ?_
  refine lv_topi (fun y_6 ey_6 => ?_)
  rw [show y_6 = p2 from ey_6.trans hp2.symm]
  refine lv_aload_n hx hb dL_law_654 rfl (lv_at hl 0 rfl) ?_
  refine lv_iload_n hx hb dL_law_655 rfl (lv_at hl 3 rfl) ?_
  refine lv_iconst (v := 4) hx hb dL_law_656 (by decide) ?_
  refine lv_iadd hx hb dL_law_657 ?_
  refine lv_topi (fun y_7 ey_7 => ?_)
  obtain rfl : y_7 = 4 := ey_7.trans (by decide)
  refine va_sld hx hb hX hbl hbA hS hin4 dL_law_658 ?_
  refine lv_topi (fun y_8 ey_8 => ?_)
  rw [show y_8 = p3 from ey_8.trans hp3.symm]
  have hPc := hP.sub (ws' := [(x, .inr (11, F)), (pv, .inr (6, P))]) [0, 1] rfl
  have hDc := hD.sub (ws' := [(x, .inr (11, F)), (pv, .inr (6, P))]) [0, 1] (by decide) rfl
  have hFc := va_free (wc := [(x, .inr (11, F)), (pv, .inr (6, P))]) hD hS hA [0, 1] rfl
  refine va_calli (va_runV (As := [.int p0, .int p1, .int p2, .int p3]) (rest := []) ⟨hx, hb, hml, hown, hts⟩ (c_X11_evenest l D k H.size x pv F P p0 p1 p2 p3 u_0_0 u_1_10) (cwV 4 hts (gd_V hgd m1036 m1037 m1038 m117 m1039) rfl rfl rfl (by decide +kernel) ⟨Nat.le_of_ble_eq_true rfl, Nat.le_of_ble_eq_true rfl⟩) (cP_V hPc hKX hDc (ci := 11) (q0 := 0) rfl rfl) rfl rfl hl.1 rfl (lv_room (Nat.le_of_ble_eq_true rfl)) dL_law_659 ⟨Nat.le_of_ble_eq_true rfl, Nat.le_of_ble_eq_true rfl⟩) hS (fun q _ h => hFc q h) hFc (fun r_9 u t H1 locs ht hvm hw hB hz1 hk1 hS => ?_)
  obtain ⟨hP1, hD1⟩ := hB
  rw [ht] at hP1
  obtain ⟨hP, hD⟩ := va_join (wr := [(sl, .inl (k.2.1, 3, .inl g1)), (sp, .inr (6, P2)), (sl2, .inl (k.2.1, 3, .inl g2)), (tp, .inl (k.1, 1600, .inl g3)), (rd, .inr (7, Rd)), (tk, .inr (9, K)), (ln, .inr (3, N)), (fo, .inl (k.2.1, 3, .inl g4)), (ea, .inr (1, E)), (nw, .inl (k.2.1, 10, .inl f1)), (kp, .inl (k.2.1, 410, .inl f2)), (bx, .inl (k.2.1, 30, .inl f3)), (si, .inr (8, Z)), (y, .inr (12, yM)), (ytp, .inl (k.2.1, 1600, .inl ym1)), (yns, .inl (k.2.1, 3, .inl ym2)), (yss, .inl (k.2.1, 3, .inl ym3)), (ynw, .inl (k.2.1, 16, .inl ym4)), (ywe, .inl (k.2.1, 640, .inl ym5)), (yhbx, .inl (k.2.2.2, 3, .inl ym6)), (ybx, .inl (k.2.1, 48, .inl ym7))]) (w1 := []) hP hD [0, 1] [2, 3, 4, 5, 6, 7, 8, 9, 10, 11, 12, 13, 14, 15, 16, 17, 18, 19, 20, 21, 22] rfl rfl (by decide) (by decide) hk1 hFc hP1 hD1
  generalize H1 = H at hP hS ⊢
  have hP : va_P D classes [(sl, .inl (k.2.1, 3, .inl g1)), (sp, .inr (6, P2)), (sl2, .inl (k.2.1, 3, .inl g2)), (tp, .inl (k.1, 1600, .inl g3)), (rd, .inr (7, Rd)), (tk, .inr (9, K)), (ln, .inr (3, N)), (fo, .inl (k.2.1, 3, .inl g4)), (ea, .inr (1, E)), (nw, .inl (k.2.1, 10, .inl f1)), (kp, .inl (k.2.1, 410, .inl f2)), (bx, .inl (k.2.1, 30, .inl f3)), (si, .inr (8, Z)), (y, .inr (12, yM)), (ytp, .inl (k.2.1, 1600, .inl ym1)), (yns, .inl (k.2.1, 3, .inl ym2)), (yss, .inl (k.2.1, 3, .inl ym3)), (ynw, .inl (k.2.1, 16, .inl ym4)), (ywe, .inl (k.2.1, 640, .inl ym5)), (yhbx, .inl (k.2.2.2, 3, .inl ym6)), (ybx, .inl (k.2.1, 48, .inl ym7))] H := hP
  have hD : va_D A [(sl, .inl (k.2.1, 3, .inl g1)), (sp, .inr (6, P2)), (sl2, .inl (k.2.1, 3, .inl g2)), (tp, .inl (k.1, 1600, .inl g3)), (rd, .inr (7, Rd)), (tk, .inr (9, K)), (ln, .inr (3, N)), (fo, .inl (k.2.1, 3, .inl g4)), (ea, .inr (1, E)), (nw, .inl (k.2.1, 10, .inl f1)), (kp, .inl (k.2.1, 410, .inl f2)), (bx, .inl (k.2.1, 30, .inl f3)), (si, .inr (8, Z)), (y, .inr (12, yM)), (ytp, .inl (k.2.1, 1600, .inl ym1)), (yns, .inl (k.2.1, 3, .inl ym2)), (yss, .inl (k.2.1, 3, .inl ym3)), (ynw, .inl (k.2.1, 16, .inl ym4)), (ywe, .inl (k.2.1, 640, .inl ym5)), (yhbx, .inl (k.2.2.2, 3, .inl ym6)), (ybx, .inl (k.2.1, 48, .inl ym7))] := hD
  refine W.widen (k := 119) (n := 46443) (Nat.le_of_ble_eq_true rfl) (Nat.le_of_ble_eq_true rfl) ?_
  have hw9 := hw.symm; subst hw9
  refine lv_aload_n hx hb dL_law_662 rfl (lv_at hl 2 rfl) ?_
  refine lv_aload_n hx hb dL_law_663 rfl (lv_at hl 0 rfl) ?_
  refine lv_iload_n hx hb dL_law_664 rfl (lv_at hl 3 rfl) ?_
  refine lv_iconst (v := 1) hx hb dL_law_665 (by decide) ?_
  refine lv_iadd hx hb dL_law_666 ?_
  refine lv_topi (fun y_10 ey_10 => ?_)
  obtain rfl : y_10 = 1 := ey_10.trans (by decide)
  refine va_sld hx hb hX hbl hbA hS hin1 dL_law_667 ?_
  refine lv_topi (fun y_11 ey_11 => ?_)
  rw [show y_11 = p0 from ey_11.trans hp0.symm]
  refine lv_aload_n hx hb dL_law_668 rfl (lv_at hl 0 rfl) ?_
  refine lv_iload_n hx hb dL_law_669 rfl (lv_at hl 3 rfl) ?_
  refine lv_iconst (v := 2) hx hb dL_law_670 (by decide) ?_
  refine lv_iadd hx hb dL_law_671 ?_
  refine lv_topi (fun y_12 ey_12 => ?_)
  obtain rfl : y_12 = 2 := ey_12.trans (by decide)
  refine va_sld hx hb hX hbl hbA hS hin2 dL_law_672 ?_
  refine lv_topi (fun y_13 ey_13 => ?_)
  rw [show y_13 = p1 from ey_13.trans hp1.symm]
  refine lv_aload_n hx hb dL_law_673 rfl (lv_at hl 0 rfl) ?_
  refine lv_iload_n hx hb dL_law_674 rfl (lv_at hl 3 rfl) ?_
  refine lv_iconst (v := 3) hx hb dL_law_675 (by decide) ?_
  refine lv_iadd hx hb dL_law_676 ?_
  refine lv_topi (fun y_14 ey_14 => ?_)
  obtain rfl : y_14 = 3 := ey_14.trans (by decide)
  refine va_sld hx hb hX hbl hbA hS hin3 dL_law_677 ?_
  refine lv_topi (fun y_15 ey_15 => ?_)
  rw [show y_15 = p2 from ey_15.trans hp2.symm]
  refine lv_aload_n hx hb dL_law_678 rfl (lv_at hl 0 rfl) ?_
  refine lv_iload_n hx hb dL_law_679 rfl (lv_at hl 3 rfl) ?_
  refine lv_iconst (v := 4) hx hb dL_law_680 (by decide) ?_
  refine lv_iadd hx hb dL_law_681 ?_
  refine lv_topi (fun y_16 ey_16 => ?_)
  obtain rfl : y_16 = 4 := ey_16.trans (by decide)
  refine va_sld hx hb hX hbl hbA hS hin4 dL_law_682 ?_
  refine lv_topi (fun y_17 ey_17 => ?_)
  rw [show y_17 = p3 from ey_17.trans hp3.symm]
  have hPc := hP.sub (ws' := [(y, .inr (12, yM))]) [13] rfl
  have hDc := hD.sub (ws' := [(y, .inr (12, yM))]) [13] (by decide) rfl
  have hFc := va_free (wc := [(y, .inr (12, yM))]) hD hS hA [13] rfl
  refine va_calli (va_runV (As := [.int p0, .int p1, .int p2, .int p3]) (rest := [.int (-1)]) ⟨hx, hb, hml, hown, hts⟩ (c_X12_evenest l D k H.size y yM p0 p1 p2 p3 u_15_53) (cwV 4 hts (gd_V hgd m1883 m1884 m1885 m131 m1886) rfl rfl rfl (by decide +kernel) ⟨Nat.le_of_ble_eq_true rfl, Nat.le_of_ble_eq_true rfl⟩) (cP_V hPc hKX hDc (ci := 12) (q0 := 0) rfl rfl) rfl rfl hl.1 rfl (lv_room (Nat.le_of_ble_eq_true rfl)) dL_law_683 ⟨Nat.le_of_ble_eq_true rfl, Nat.le_of_ble_eq_true rfl⟩) hS (fun q _ h => hFc q h) hFc (fun r_18 u t H1 locs ht hvm hw hB hz1 hk1 hS => ?_)
  obtain ⟨hP1, hD1⟩ := hB
  rw [ht] at hP1
  obtain ⟨hP, hD⟩ := va_join (wr := [(sl, .inl (k.2.1, 3, .inl g1)), (sp, .inr (6, P2)), (sl2, .inl (k.2.1, 3, .inl g2)), (tp, .inl (k.1, 1600, .inl g3)), (rd, .inr (7, Rd)), (tk, .inr (9, K)), (ln, .inr (3, N)), (fo, .inl (k.2.1, 3, .inl g4)), (ea, .inr (1, E)), (nw, .inl (k.2.1, 10, .inl f1)), (kp, .inl (k.2.1, 410, .inl f2)), (bx, .inl (k.2.1, 30, .inl f3)), (si, .inr (8, Z)), (ytp, .inl (k.2.1, 1600, .inl ym1)), (yns, .inl (k.2.1, 3, .inl ym2)), (yss, .inl (k.2.1, 3, .inl ym3)), (ynw, .inl (k.2.1, 16, .inl ym4)), (ywe, .inl (k.2.1, 640, .inl ym5)), (yhbx, .inl (k.2.2.2, 3, .inl ym6)), (ybx, .inl (k.2.1, 48, .inl ym7))]) (w1 := []) hP hD [13] [0, 1, 2, 3, 4, 5, 6, 7, 8, 9, 10, 11, 12, 14, 15, 16, 17, 18, 19, 20] rfl rfl (by decide) (by decide) hk1 hFc hP1 hD1
  generalize H1 = H at hP hS ⊢
  have hP : va_P D classes [(sl, .inl (k.2.1, 3, .inl g1)), (sp, .inr (6, P2)), (sl2, .inl (k.2.1, 3, .inl g2)), (tp, .inl (k.1, 1600, .inl g3)), (rd, .inr (7, Rd)), (tk, .inr (9, K)), (ln, .inr (3, N)), (fo, .inl (k.2.1, 3, .inl g4)), (ea, .inr (1, E)), (nw, .inl (k.2.1, 10, .inl f1)), (kp, .inl (k.2.1, 410, .inl f2)), (bx, .inl (k.2.1, 30, .inl f3)), (si, .inr (8, Z)), (ytp, .inl (k.2.1, 1600, .inl ym1)), (yns, .inl (k.2.1, 3, .inl ym2)), (yss, .inl (k.2.1, 3, .inl ym3)), (ynw, .inl (k.2.1, 16, .inl ym4)), (ywe, .inl (k.2.1, 640, .inl ym5)), (yhbx, .inl (k.2.2.2, 3, .inl ym6)), (ybx, .inl (k.2.1, 48, .inl ym7))] H := hP
  have hD : va_D A [(sl, .inl (k.2.1, 3, .inl g1)), (sp, .inr (6, P2)), (sl2, .inl (k.2.1, 3, .inl g2)), (tp, .inl (k.1, 1600, .inl g3)), (rd, .inr (7, Rd)), (tk, .inr (9, K)), (ln, .inr (3, N)), (fo, .inl (k.2.1, 3, .inl g4)), (ea, .inr (1, E)), (nw, .inl (k.2.1, 10, .inl f1)), (kp, .inl (k.2.1, 410, .inl f2)), (bx, .inl (k.2.1, 30, .inl f3)), (si, .inr (8, Z)), (ytp, .inl (k.2.1, 1600, .inl ym1)), (yns, .inl (k.2.1, 3, .inl ym2)), (yss, .inl (k.2.1, 3, .inl ym3)), (ynw, .inl (k.2.1, 16, .inl ym4)), (ywe, .inl (k.2.1, 640, .inl ym5)), (yhbx, .inl (k.2.2.2, 3, .inl ym6)), (ybx, .inl (k.2.1, 48, .inl ym7))] := hD
  refine W.widen (k := 119) (n := 46443) (Nat.le_of_ble_eq_true rfl) (Nat.le_of_ble_eq_true rfl) ?_
  have hw9 := hw.symm; subst hw9
  refine lv_icmp_eq (tgt := 1645) hx hb dL_law_686 (by decide) (fun c_19 => ?_) (fun c_19 => ?_)
  · have c_19 : ((-1) : Int32) = (-1) := c_19
    exact law_tail rfl C0 hKX hA hA2 hbA hS (lv_sub hl [0, 1, 2, 3] rfl)
  · exact absurd rfl c_19

set_option maxHeartbeats 4000000 in
set_option maxRecDepth 100000 in
theorem law_12 {p : Program} {l : Launch} {e : Env} {s : State} {m : MethodId} {below : List Frame} {meth : Method} {c : Code} {D : va_G} {k : ClassId × ClassId × ClassId × ClassId} {A : Nat → Prop} {b L : Nat} {xs : Nat → Int32} (hL : L = 6) (C0 : lw_At p s m meth c b L xs) (hKX : va_K D classes (TY k) s ∧ cX s) (hA : ∀ q : Nat, s.heap.size ≤ q → A q) (hA2 : ∀ q : Nat, A q → s.heap.size ≤ q) (hbA : ¬ A b) {x y : Nat} {H : Heap} {locs : List Loc} (hF : Fresh D k A x y H) (hS : va_S A s.heap H locs) {ls : Array Slot} (hl : lv_has ls 4 [(0, .ref b), (1, .ref x), (2, .ref y), (3, .int 0)]) : W p l e room_1 s m #[Value.ref b] below meth c H locs 119 46443 (lw_Z below #[Value.ref b] s) (F0 m 691 ls []) := by
  obtain ⟨hx, hb, hr, hml, hown, hts, hX, hbl, hlocks, hgv⟩ := id C0
  have hown : s.vm.findClass RL = some m.cls := hown
  have hK := hKX.1
  have hgd : ∀ w ∈ gd, w ∈ lw_tbl := fun w h => (List.mem_filter.mp h).1
  have hg : ∀ w ∈ gd, w.before #[Value.ref b] s = true := fun w h => hts w (hgd w h)
  subst hL
  obtain ⟨F, pv, P, sl, g1, sp, P2, sl2, g2, tp, g3, rd, Rd, tk, K, ln, N, fo, g4, ea, E, nw, f1, kp, f2, bx, f3, si, Z, yM, ytp, ym1, yns, ym2, yss, ym3, ynw, ym4, ywe, ym5, yhbx, ym6, ybx, ym7, hf_0, hf_1, hf_2, hf_3, hf_4, hf_6, hf_7, hf_8, hf_10, hf_11, hf_14, hf_15, hf_18, hf_19, hf_21, hP, hD⟩ := hF
  have u_0_0 : F[0]? = some (.ref pv) := hf_0.1
  have u_1_10 : P[10]? = some (.int 0) := hf_1.1
  have u_15_53 : yM[53]? = some (.int 0) := hf_15.2.2.2.2.2.2.2.2.2.2.2.2.2.2.2.2.2.2.1
  have hin1 : vp_in 1 6 := (show ¬ ((1 : Int32) < 0 ∨ 6 ≤ (1 : Int32).toNatClampNeg) from by decide)
  have hin2 : vp_in 2 6 := (show ¬ ((2 : Int32) < 0 ∨ 6 ≤ (2 : Int32).toNatClampNeg) from by decide)
  have hin3 : vp_in 3 6 := (show ¬ ((3 : Int32) < 0 ∨ 6 ≤ (3 : Int32).toNatClampNeg) from by decide)
  have hin4 : vp_in 4 6 := (show ¬ ((4 : Int32) < 0 ∨ 6 ≤ (4 : Int32).toNatClampNeg) from by decide)
  have hin5 : vp_in 5 6 := (show ¬ ((5 : Int32) < 0 ∨ 6 ≤ (5 : Int32).toNatClampNeg) from by decide)
  obtain ⟨p0, hp0⟩ : ∃ z, z = xs 1 := ⟨_, rfl⟩
  obtain ⟨p1, hp1⟩ : ∃ z, z = xs 2 := ⟨_, rfl⟩
  obtain ⟨p2, hp2⟩ : ∃ z, z = xs 3 := ⟨_, rfl⟩
  obtain ⟨p3, hp3⟩ : ∃ z, z = xs 4 := ⟨_, rfl⟩
  obtain ⟨p4, hp4⟩ : ∃ z, z = xs 5 := ⟨_, rfl⟩
  refine lv_aload_n hx hb dL_law_691 rfl (lv_at hl 1 rfl) ?_
  refine lv_aload_n hx hb dL_law_692 rfl (lv_at hl 0 rfl) ?_
  refine lv_iload_n hx hb dL_law_693 rfl (lv_at hl 3 rfl) ?_
  refine lv_iconst (v := 1) hx hb dL_law_694 (by decide) ?_
  refine lv_iadd hx hb dL_law_695 ?_
  refine lv_topi (fun y_1 ey_1 => ?_)
  obtain rfl : y_1 = 1 := ey_1.trans (by decide)
  refine va_sld hx hb hX hbl hbA hS hin1 dL_law_696 ?_
  refine lv_topi (fun y_2 ey_2 => ?_)
  rw [show y_2 = p0 from ey_2.trans hp0.symm]
  refine lv_aload_n hx hb dL_law_697 rfl (lv_at hl 0 rfl) ?_
  refine lv_iload_n hx hb dL_law_698 rfl (lv_at hl 3 rfl) ?_
  refine lv_iconst (v := 2) hx hb dL_law_699 (by decide) ?_
  refine lv_iadd hx hb dL_law_700 ?_
  refine lv_topi (fun y_3 ey_3 => ?_)
  obtain rfl : y_3 = 2 := ey_3.trans (by decide)
  refine va_sld hx hb hX hbl hbA hS hin2 dL_law_701 ?_
  refine lv_topi (fun y_4 ey_4 => ?_)
  rw [show y_4 = p1 from ey_4.trans hp1.symm]
  refine lv_aload_n hx hb dL_law_702 rfl (lv_at hl 0 rfl) ?_
  refine lv_iload_n hx hb dL_law_703 rfl (lv_at hl 3 rfl) ?_
  refine lv_iconst (v := 3) hx hb dL_law_704 (by decide) ?_
  refine lv_iadd hx hb dL_law_705 ?_
  refine lv_topi (fun y_5 ey_5 => ?_)
  obtain rfl : y_5 = 3 := ey_5.trans (by decide)
  refine va_sld hx hb hX hbl hbA hS hin3 dL_law_706 ?_
  refine lv_topi (fun y_6 ey_6 => ?_)
  rw [show y_6 = p2 from ey_6.trans hp2.symm]
  refine lv_aload_n hx hb dL_law_707 rfl (lv_at hl 0 rfl) ?_
  refine lv_iload_n hx hb dL_law_708 rfl (lv_at hl 3 rfl) ?_
  refine lv_iconst (v := 4) hx hb dL_law_709 (by decide) ?_
  refine lv_iadd hx hb dL_law_710 ?_
  refine lv_topi (fun y_7 ey_7 => ?_)
  obtain rfl : y_7 = 4 := ey_7.trans (by decide)
  refine va_sld hx hb hX hbl hbA hS hin4 dL_law_711 ?_
  refine lv_topi (fun y_8 ey_8 => ?_)
  rw [show y_8 = p3 from ey_8.trans hp3.symm]
  refine lv_aload_n hx hb dL_law_712 rfl (lv_at hl 0 rfl) ?_
  refine lv_iload_n hx hb dL_law_713 rfl (lv_at hl 3 rfl) ?_
  refine lv_iconst (v := 5) hx hb dL_law_714 (by decide) ?_
  refine lv_iadd hx hb dL_law_715 ?_
  refine lv_topi (fun y_9 ey_9 => ?_)
  obtain rfl : y_9 = 5 := ey_9.trans (by decide)
  refine va_sld hx hb hX hbl hbA hS hin5 dL_law_716 ?_
  refine lv_topi (fun y_10 ey_10 => ?_)
  rw [show y_10 = p4 from ey_10.trans hp4.symm]
  have hPc := hP.sub (ws' := [(x, .inr (11, F)), (pv, .inr (6, P))]) [0, 1] rfl
  have hDc := hD.sub (ws' := [(x, .inr (11, F)), (pv, .inr (6, P))]) [0, 1] (by decide) rfl
  have hFc := va_free (wc := [(x, .inr (11, F)), (pv, .inr (6, P))]) hD hS hA [0, 1] rfl
  refine va_calli (va_runV (As := [.int p0, .int p1, .int p2, .int p3, .int p4]) (rest := []) ⟨hx, hb, hml, hown, hts⟩ (c_X11_even l D k H.size x pv F P p0 p1 p2 p3 p4 u_0_0 u_1_10) (cwV 5 hts (gd_V hgd m1049 m1050 m1051 m117 m1052) rfl rfl rfl (by decide +kernel) ⟨Nat.le_of_ble_eq_true rfl, Nat.le_of_ble_eq_true rfl⟩) (cP_V hPc hKX hDc (ci := 11) (q0 := 0) rfl rfl) rfl rfl hl.1 rfl (lv_room (Nat.le_of_ble_eq_true rfl)) dL_law_717 ⟨Nat.le_of_ble_eq_true rfl, Nat.le_of_ble_eq_true rfl⟩) hS (fun q _ h => hFc q h) hFc (fun r_11 u t H1 locs ht hvm hw hB hz1 hk1 hS => ?_)
  obtain ⟨hP1, hD1⟩ := hB
  rw [ht] at hP1
  obtain ⟨hP, hD⟩ := va_join (wr := [(sl, .inl (k.2.1, 3, .inl g1)), (sp, .inr (6, P2)), (sl2, .inl (k.2.1, 3, .inl g2)), (tp, .inl (k.1, 1600, .inl g3)), (rd, .inr (7, Rd)), (tk, .inr (9, K)), (ln, .inr (3, N)), (fo, .inl (k.2.1, 3, .inl g4)), (ea, .inr (1, E)), (nw, .inl (k.2.1, 10, .inl f1)), (kp, .inl (k.2.1, 410, .inl f2)), (bx, .inl (k.2.1, 30, .inl f3)), (si, .inr (8, Z)), (y, .inr (12, yM)), (ytp, .inl (k.2.1, 1600, .inl ym1)), (yns, .inl (k.2.1, 3, .inl ym2)), (yss, .inl (k.2.1, 3, .inl ym3)), (ynw, .inl (k.2.1, 16, .inl ym4)), (ywe, .inl (k.2.1, 640, .inl ym5)), (yhbx, .inl (k.2.2.2, 3, .inl ym6)), (ybx, .inl (k.2.1, 48, .inl ym7))]) (w1 := []) hP hD [0, 1] [2, 3, 4, 5, 6, 7, 8, 9, 10, 11, 12, 13, 14, 15, 16, 17, 18, 19, 20, 21, 22] rfl rfl (by decide) (by decide) hk1 hFc hP1 hD1
  generalize H1 = H at hP hS ⊢
  have hP : va_P D classes [(sl, .inl (k.2.1, 3, .inl g1)), (sp, .inr (6, P2)), (sl2, .inl (k.2.1, 3, .inl g2)), (tp, .inl (k.1, 1600, .inl g3)), (rd, .inr (7, Rd)), (tk, .inr (9, K)), (ln, .inr (3, N)), (fo, .inl (k.2.1, 3, .inl g4)), (ea, .inr (1, E)), (nw, .inl (k.2.1, 10, .inl f1)), (kp, .inl (k.2.1, 410, .inl f2)), (bx, .inl (k.2.1, 30, .inl f3)), (si, .inr (8, Z)), (y, .inr (12, yM)), (ytp, .inl (k.2.1, 1600, .inl ym1)), (yns, .inl (k.2.1, 3, .inl ym2)), (yss, .inl (k.2.1, 3, .inl ym3)), (ynw, .inl (k.2.1, 16, .inl ym4)), (ywe, .inl (k.2.1, 640, .inl ym5)), (yhbx, .inl (k.2.2.2, 3, .inl ym6)), (ybx, .inl (k.2.1, 48, .inl ym7))] H := hP
  have hD : va_D A [(sl, .inl (k.2.1, 3, .inl g1)), (sp, .inr (6, P2)), (sl2, .inl (k.2.1, 3, .inl g2)), (tp, .inl (k.1, 1600, .inl g3)), (rd, .inr (7, Rd)), (tk, .inr (9, K)), (ln, .inr (3, N)), (fo, .inl (k.2.1, 3, .inl g4)), (ea, .inr (1, E)), (nw, .inl (k.2.1, 10, .inl f1)), (kp, .inl (k.2.1, 410, .inl f2)), (bx, .inl (k.2.1, 30, .inl f3)), (si, .inr (8, Z)), (y, .inr (12, yM)), (ytp, .inl (k.2.1, 1600, .inl ym1)), (yns, .inl (k.2.1, 3, .inl ym2)), (yss, .inl (k.2.1, 3, .inl ym3)), (ynw, .inl (k.2.1, 16, .inl ym4)), (ywe, .inl (k.2.1, 640, .inl ym5)), (yhbx, .inl (k.2.2.2, 3, .inl ym6)), (ybx, .inl (k.2.1, 48, .inl ym7))] := hD
  refine W.widen (k := 119) (n := 46443) (Nat.le_of_ble_eq_true rfl) (Nat.le_of_ble_eq_true rfl) ?_
  have hw9 := hw.symm; subst hw9
  refine lv_aload_n hx hb dL_law_720 rfl (lv_at hl 2 rfl) ?_
  refine lv_aload_n hx hb dL_law_721 rfl (lv_at hl 0 rfl) ?_
  refine lv_iload_n hx hb dL_law_722 rfl (lv_at hl 3 rfl) ?_
  refine lv_iconst (v := 1) hx hb dL_law_723 (by decide) ?_
  refine lv_iadd hx hb dL_law_724 ?_
  refine lv_topi (fun y_12 ey_12 => ?_)
  obtain rfl : y_12 = 1 := ey_12.trans (by decide)
  refine va_sld hx hb hX hbl hbA hS hin1 dL_law_725 ?_
  refine lv_topi (fun y_13 ey_13 => ?_)
  rw [show y_13 = p0 from ey_13.trans hp0.symm]
  refine lv_aload_n hx hb dL_law_726 rfl (lv_at hl 0 rfl) ?_
  refine lv_iload_n hx hb dL_law_727 rfl (lv_at hl 3 rfl) ?_
  refine lv_iconst (v := 2) hx hb dL_law_728 (by decide) ?_
  refine lv_iadd hx hb dL_law_729 ?_
  refine lv_topi (fun y_14 ey_14 => ?_)
  obtain rfl : y_14 = 2 := ey_14.trans (by decide)
  refine va_sld hx hb hX hbl hbA hS hin2 dL_law_730 ?_
  refine lv_topi (fun y_15 ey_15 => ?_)
  rw [show y_15 = p1 from ey_15.trans hp1.symm]
  refine lv_aload_n hx hb dL_law_731 rfl (lv_at hl 0 rfl) ?_
  refine lv_iload_n hx hb dL_law_732 rfl (lv_at hl 3 rfl) ?_
  refine lv_iconst (v := 3) hx hb dL_law_733 (by decide) ?_
  refine lv_iadd hx hb dL_law_734 ?_
  refine lv_topi (fun y_16 ey_16 => ?_)
  obtain rfl : y_16 = 3 := ey_16.trans (by decide)
  refine va_sld hx hb hX hbl hbA hS hin3 dL_law_735 ?_
  refine lv_topi (fun y_17 ey_17 => ?_)
  rw [show y_17 = p2 from ey_17.trans hp2.symm]
  refine lv_aload_n hx hb dL_law_736 rfl (lv_at hl 0 rfl) ?_
  refine lv_iload_n hx hb dL_law_737 rfl (lv_at hl 3 rfl) ?_
  refine lv_iconst (v := 4) hx hb dL_law_738 (by decide) ?_
  refine lv_iadd hx hb dL_law_739 ?_
  refine lv_topi (fun y_18 ey_18 => ?_)
  obtain rfl : y_18 = 4 := ey_18.trans (by decide)
  refine va_sld hx hb hX hbl hbA hS hin4 dL_law_740 ?_
  refine lv_topi (fun y_19 ey_19 => ?_)
  rw [show y_19 = p3 from ey_19.trans hp3.symm]
  refine lv_aload_n hx hb dL_law_741 rfl (lv_at hl 0 rfl) ?_
  refine lv_iload_n hx hb dL_law_742 rfl (lv_at hl 3 rfl) ?_
  refine lv_iconst (v := 5) hx hb dL_law_743 (by decide) ?_
  refine lv_iadd hx hb dL_law_744 ?_
  refine lv_topi (fun y_20 ey_20 => ?_)
  obtain rfl : y_20 = 5 := ey_20.trans (by decide)
  refine va_sld hx hb hX hbl hbA hS hin5 dL_law_745 ?_
  refine lv_topi (fun y_21 ey_21 => ?_)
  rw [show y_21 = p4 from ey_21.trans hp4.symm]
  have hPc := hP.sub (ws' := [(y, .inr (12, yM))]) [13] rfl
  have hDc := hD.sub (ws' := [(y, .inr (12, yM))]) [13] (by decide) rfl
  have hFc := va_free (wc := [(y, .inr (12, yM))]) hD hS hA [13] rfl
  refine va_calli (va_runV (As := [.int p0, .int p1, .int p2, .int p3, .int p4]) (rest := [.int (-1)]) ⟨hx, hb, hml, hown, hts⟩ (c_X12_even l D k H.size y yM p0 p1 p2 p3 p4 u_15_53) (cwV 5 hts (gd_V hgd m1891 m1892 m1893 m131 m1894) rfl rfl rfl (by decide +kernel) ⟨Nat.le_of_ble_eq_true rfl, Nat.le_of_ble_eq_true rfl⟩) (cP_V hPc hKX hDc (ci := 12) (q0 := 0) rfl rfl) rfl rfl hl.1 rfl (lv_room (Nat.le_of_ble_eq_true rfl)) dL_law_746 ⟨Nat.le_of_ble_eq_true rfl, Nat.le_of_ble_eq_true rfl⟩) hS (fun q _ h => hFc q h) hFc (fun r_22 u t H1 locs ht hvm hw hB hz1 hk1 hS => ?_)
  obtain ⟨hP1, hD1⟩ := hB
  rw [ht] at hP1
  obtain ⟨hP, hD⟩ := va_join (wr := [(sl, .inl (k.2.1, 3, .inl g1)), (sp, .inr (6, P2)), (sl2, .inl (k.2.1, 3, .inl g2)), (tp, .inl (k.1, 1600, .inl g3)), (rd, .inr (7, Rd)), (tk, .inr (9, K)), (ln, .inr (3, N)), (fo, .inl (k.2.1, 3, .inl g4)), (ea, .inr (1, E)), (nw, .inl (k.2.1, 10, .inl f1)), (kp, .inl (k.2.1, 410, .inl f2)), (bx, .inl (k.2.1, 30, .inl f3)), (si, .inr (8, Z)), (ytp, .inl (k.2.1, 1600, .inl ym1)), (yns, .inl (k.2.1, 3, .inl ym2)), (yss, .inl (k.2.1, 3, .inl ym3)), (ynw, .inl (k.2.1, 16, .inl ym4)), (ywe, .inl (k.2.1, 640, .inl ym5)), (yhbx, .inl (k.2.2.2, 3, .inl ym6)), (ybx, .inl (k.2.1, 48, .inl ym7))]) (w1 := []) hP hD [13] [0, 1, 2, 3, 4, 5, 6, 7, 8, 9, 10, 11, 12, 14, 15, 16, 17, 18, 19, 20] rfl rfl (by decide) (by decide) hk1 hFc hP1 hD1
  generalize H1 = H at hP hS ⊢
  have hP : va_P D classes [(sl, .inl (k.2.1, 3, .inl g1)), (sp, .inr (6, P2)), (sl2, .inl (k.2.1, 3, .inl g2)), (tp, .inl (k.1, 1600, .inl g3)), (rd, .inr (7, Rd)), (tk, .inr (9, K)), (ln, .inr (3, N)), (fo, .inl (k.2.1, 3, .inl g4)), (ea, .inr (1, E)), (nw, .inl (k.2.1, 10, .inl f1)), (kp, .inl (k.2.1, 410, .inl f2)), (bx, .inl (k.2.1, 30, .inl f3)), (si, .inr (8, Z)), (ytp, .inl (k.2.1, 1600, .inl ym1)), (yns, .inl (k.2.1, 3, .inl ym2)), (yss, .inl (k.2.1, 3, .inl ym3)), (ynw, .inl (k.2.1, 16, .inl ym4)), (ywe, .inl (k.2.1, 640, .inl ym5)), (yhbx, .inl (k.2.2.2, 3, .inl ym6)), (ybx, .inl (k.2.1, 48, .inl ym7))] H := hP
  have hD : va_D A [(sl, .inl (k.2.1, 3, .inl g1)), (sp, .inr (6, P2)), (sl2, .inl (k.2.1, 3, .inl g2)), (tp, .inl (k.1, 1600, .inl g3)), (rd, .inr (7, Rd)), (tk, .inr (9, K)), (ln, .inr (3, N)), (fo, .inl (k.2.1, 3, .inl g4)), (ea, .inr (1, E)), (nw, .inl (k.2.1, 10, .inl f1)), (kp, .inl (k.2.1, 410, .inl f2)), (bx, .inl (k.2.1, 30, .inl f3)), (si, .inr (8, Z)), (ytp, .inl (k.2.1, 1600, .inl ym1)), (yns, .inl (k.2.1, 3, .inl ym2)), (yss, .inl (k.2.1, 3, .inl ym3)), (ynw, .inl (k.2.1, 16, .inl ym4)), (ywe, .inl (k.2.1, 640, .inl ym5)), (yhbx, .inl (k.2.2.2, 3, .inl ym6)), (ybx, .inl (k.2.1, 48, .inl ym7))] := hD
  refine W.widen (k := 119) (n := 46443) (Nat.le_of_ble_eq_true rfl) (Nat.le_of_ble_eq_true rfl) ?_
  have hw9 := hw.symm; subst hw9
  refine lv_icmp_eq (tgt := 1645) hx hb dL_law_749 (by decide) (fun c_23 => ?_) (fun c_23 => ?_)
  · have c_23 : ((-1) : Int32) = (-1) := c_23
    exact law_tail rfl C0 hKX hA hA2 hbA hS (lv_sub hl [0, 1, 2, 3] rfl)
  · exact absurd rfl c_23

set_option maxHeartbeats 4000000 in
set_option maxRecDepth 100000 in
theorem law_13 {p : Program} {l : Launch} {e : Env} {s : State} {m : MethodId} {below : List Frame} {meth : Method} {c : Code} {D : va_G} {k : ClassId × ClassId × ClassId × ClassId} {A : Nat → Prop} {b L : Nat} {xs : Nat → Int32} (hL : L = 6) (C0 : lw_At p s m meth c b L xs) (hKX : va_K D classes (TY k) s ∧ cX s) (hA : ∀ q : Nat, s.heap.size ≤ q → A q) (hA2 : ∀ q : Nat, A q → s.heap.size ≤ q) (hbA : ¬ A b) {x y : Nat} {H : Heap} {locs : List Loc} (hF : Fresh D k A x y H) (hS : va_S A s.heap H locs) {ls : Array Slot} (hl : lv_has ls 4 [(0, .ref b), (1, .ref x), (2, .ref y), (3, .int 0)]) : W p l e room_1 s m #[Value.ref b] below meth c H locs 119 46443 (lw_Z below #[Value.ref b] s) (F0 m 754 ls []) := by
  obtain ⟨hx, hb, hr, hml, hown, hts, hX, hbl, hlocks, hgv⟩ := id C0
  have hown : s.vm.findClass RL = some m.cls := hown
  have hK := hKX.1
  have hgd : ∀ w ∈ gd, w ∈ lw_tbl := fun w h => (List.mem_filter.mp h).1
  have hg : ∀ w ∈ gd, w.before #[Value.ref b] s = true := fun w h => hts w (hgd w h)
  subst hL
  obtain ⟨F, pv, P, sl, g1, sp, P2, sl2, g2, tp, g3, rd, Rd, tk, K, ln, N, fo, g4, ea, E, nw, f1, kp, f2, bx, f3, si, Z, yM, ytp, ym1, yns, ym2, yss, ym3, ynw, ym4, ywe, ym5, yhbx, ym6, ybx, ym7, hf_0, hf_1, hf_2, hf_3, hf_4, hf_6, hf_7, hf_8, hf_10, hf_11, hf_14, hf_15, hf_18, hf_19, hf_21, hP, hD⟩ := hF
  have u_0_0 : F[0]? = some (.ref pv) := hf_0.1
  have u_0_12 : F[12]? = some (.int 0) := hf_0.2.2.2.1
  have u_1_10 : P[10]? = some (.int 0) := hf_1.1
  have u_15_53 : yM[53]? = some (.int 0) := hf_15.2.2.2.2.2.2.2.2.2.2.2.2.2.2.2.2.2.2.1
  have u_15_66 : yM[66]? = some (.int 0) := hf_15.2.2.2.2.2.2.2.2.2.2.2.2.2.2.2.2.2.2.2.2.2.2.2.1
  have hin1 : vp_in 1 6 := (show ¬ ((1 : Int32) < 0 ∨ 6 ≤ (1 : Int32).toNatClampNeg) from by decide)
  have hin2 : vp_in 2 6 := (show ¬ ((2 : Int32) < 0 ∨ 6 ≤ (2 : Int32).toNatClampNeg) from by decide)
  have hin3 : vp_in 3 6 := (show ¬ ((3 : Int32) < 0 ∨ 6 ≤ (3 : Int32).toNatClampNeg) from by decide)
  have hin4 : vp_in 4 6 := (show ¬ ((4 : Int32) < 0 ∨ 6 ≤ (4 : Int32).toNatClampNeg) from by decide)
  have hin5 : vp_in 5 6 := (show ¬ ((5 : Int32) < 0 ∨ 6 ≤ (5 : Int32).toNatClampNeg) from by decide)
  obtain ⟨p0, hp0⟩ : ∃ z, z = xs 1 := ⟨_, rfl⟩
  obtain ⟨p1, hp1⟩ : ∃ z, z = xs 2 := ⟨_, rfl⟩
  obtain ⟨p2, hp2⟩ : ∃ z, z = xs 3 := ⟨_, rfl⟩
  obtain ⟨p3, hp3⟩ : ∃ z, z = xs 4 := ⟨_, rfl⟩
  obtain ⟨p4, hp4⟩ : ∃ z, z = xs 5 := ⟨_, rfl⟩
  refine lv_aload_n hx hb dL_law_754 rfl (lv_at hl 1 rfl) ?_
  refine lv_aload_n hx hb dL_law_755 rfl (lv_at hl 0 rfl) ?_
  refine lv_iload_n hx hb dL_law_756 rfl (lv_at hl 3 rfl) ?_
  refine lv_iconst (v := 1) hx hb dL_law_757 (by decide) ?_
  refine lv_iadd hx hb dL_law_758 ?_
  refine lv_topi (fun y_1 ey_1 => ?_)
  obtain rfl : y_1 = 1 := ey_1.trans (by decide)
  refine va_sld hx hb hX hbl hbA hS hin1 dL_law_759 ?_
  refine lv_topi (fun y_2 ey_2 => ?_)
  rw [show y_2 = p0 from ey_2.trans hp0.symm]
  refine lv_aload_n hx hb dL_law_760 rfl (lv_at hl 0 rfl) ?_
  refine lv_iload_n hx hb dL_law_761 rfl (lv_at hl 3 rfl) ?_
  refine lv_iconst (v := 2) hx hb dL_law_762 (by decide) ?_
  refine lv_iadd hx hb dL_law_763 ?_
  refine lv_topi (fun y_3 ey_3 => ?_)
  obtain rfl : y_3 = 2 := ey_3.trans (by decide)
  refine va_sld hx hb hX hbl hbA hS hin2 dL_law_764 ?_
  refine lv_topi (fun y_4 ey_4 => ?_)
  rw [show y_4 = p1 from ey_4.trans hp1.symm]
  refine lv_aload_n hx hb dL_law_765 rfl (lv_at hl 0 rfl) ?_
  refine lv_iload_n hx hb dL_law_766 rfl (lv_at hl 3 rfl) ?_
  refine lv_iconst (v := 3) hx hb dL_law_767 (by decide) ?_
  refine lv_iadd hx hb dL_law_768 ?_
  refine lv_topi (fun y_5 ey_5 => ?_)
  obtain rfl : y_5 = 3 := ey_5.trans (by decide)
  refine va_sld hx hb hX hbl hbA hS hin3 dL_law_769 ?_
  refine lv_topi (fun y_6 ey_6 => ?_)
  rw [show y_6 = p2 from ey_6.trans hp2.symm]
  have hPc := hP.sub (ws' := [(x, .inr (11, F)), (pv, .inr (6, P))]) [0, 1] rfl
  have hDc := hD.sub (ws' := [(x, .inr (11, F)), (pv, .inr (6, P))]) [0, 1] (by decide) rfl
  have hFc := va_free (wc := [(x, .inr (11, F)), (pv, .inr (6, P))]) hD hS hA [0, 1] rfl
  refine va_calli (va_runV (As := [.int p0, .int p1, .int p2]) (rest := []) ⟨hx, hb, hml, hown, hts⟩ (c_X11_evens l D k H.size x pv F P p0 p1 p2 u_0_0 u_0_12 u_1_10) (cwV 3 hts (gd_V hgd m1053 m1054 m1055 m117 m1056) rfl rfl rfl (by decide +kernel) ⟨Nat.le_of_ble_eq_true rfl, Nat.le_of_ble_eq_true rfl⟩) (cP_V hPc hKX hDc (ci := 11) (q0 := 0) rfl rfl) rfl rfl hl.1 rfl (lv_room (Nat.le_of_ble_eq_true rfl)) dL_law_770 ⟨Nat.le_of_ble_eq_true rfl, Nat.le_of_ble_eq_true rfl⟩) hS (fun q _ h => hFc q h) hFc (fun r_7 u t H1 locs ht hvm hw hB hz1 hk1 hS => ?_)
  obtain ⟨hP1, hD1⟩ := hB
  rw [ht] at hP1
  obtain ⟨hP, hD⟩ := va_join (wr := [(sl, .inl (k.2.1, 3, .inl g1)), (sp, .inr (6, P2)), (sl2, .inl (k.2.1, 3, .inl g2)), (tp, .inl (k.1, 1600, .inl g3)), (rd, .inr (7, Rd)), (tk, .inr (9, K)), (ln, .inr (3, N)), (fo, .inl (k.2.1, 3, .inl g4)), (ea, .inr (1, E)), (nw, .inl (k.2.1, 10, .inl f1)), (kp, .inl (k.2.1, 410, .inl f2)), (bx, .inl (k.2.1, 30, .inl f3)), (si, .inr (8, Z)), (y, .inr (12, yM)), (ytp, .inl (k.2.1, 1600, .inl ym1)), (yns, .inl (k.2.1, 3, .inl ym2)), (yss, .inl (k.2.1, 3, .inl ym3)), (ynw, .inl (k.2.1, 16, .inl ym4)), (ywe, .inl (k.2.1, 640, .inl ym5)), (yhbx, .inl (k.2.2.2, 3, .inl ym6)), (ybx, .inl (k.2.1, 48, .inl ym7))]) (w1 := []) hP hD [0, 1] [2, 3, 4, 5, 6, 7, 8, 9, 10, 11, 12, 13, 14, 15, 16, 17, 18, 19, 20, 21, 22] rfl rfl (by decide) (by decide) hk1 hFc hP1 hD1
  generalize H1 = H at hP hS ⊢
  have hP : va_P D classes [(sl, .inl (k.2.1, 3, .inl g1)), (sp, .inr (6, P2)), (sl2, .inl (k.2.1, 3, .inl g2)), (tp, .inl (k.1, 1600, .inl g3)), (rd, .inr (7, Rd)), (tk, .inr (9, K)), (ln, .inr (3, N)), (fo, .inl (k.2.1, 3, .inl g4)), (ea, .inr (1, E)), (nw, .inl (k.2.1, 10, .inl f1)), (kp, .inl (k.2.1, 410, .inl f2)), (bx, .inl (k.2.1, 30, .inl f3)), (si, .inr (8, Z)), (y, .inr (12, yM)), (ytp, .inl (k.2.1, 1600, .inl ym1)), (yns, .inl (k.2.1, 3, .inl ym2)), (yss, .inl (k.2.1, 3, .inl ym3)), (ynw, .inl (k.2.1, 16, .inl ym4)), (ywe, .inl (k.2.1, 640, .inl ym5)), (yhbx, .inl (k.2.2.2, 3, .inl ym6)), (ybx, .inl (k.2.1, 48, .inl ym7))] H := hP
  have hD : va_D A [(sl, .inl (k.2.1, 3, .inl g1)), (sp, .inr (6, P2)), (sl2, .inl (k.2.1, 3, .inl g2)), (tp, .inl (k.1, 1600, .inl g3)), (rd, .inr (7, Rd)), (tk, .inr (9, K)), (ln, .inr (3, N)), (fo, .inl (k.2.1, 3, .inl g4)), (ea, .inr (1, E)), (nw, .inl (k.2.1, 10, .inl f1)), (kp, .inl (k.2.1, 410, .inl f2)), (bx, .inl (k.2.1, 30, .inl f3)), (si, .inr (8, Z)), (y, .inr (12, yM)), (ytp, .inl (k.2.1, 1600, .inl ym1)), (yns, .inl (k.2.1, 3, .inl ym2)), (yss, .inl (k.2.1, 3, .inl ym3)), (ynw, .inl (k.2.1, 16, .inl ym4)), (ywe, .inl (k.2.1, 640, .inl ym5)), (yhbx, .inl (k.2.2.2, 3, .inl ym6)), (ybx, .inl (k.2.1, 48, .inl ym7))] := hD
  refine W.widen (k := 119) (n := 46443) (Nat.le_of_ble_eq_true rfl) (Nat.le_of_ble_eq_true rfl) ?_
  have hw9 := hw.symm; subst hw9
  refine lv_aload_n hx hb dL_law_773 rfl (lv_at hl 2 rfl) ?_
  refine lv_aload_n hx hb dL_law_774 rfl (lv_at hl 0 rfl) ?_
  refine lv_iload_n hx hb dL_law_775 rfl (lv_at hl 3 rfl) ?_
  refine lv_iconst (v := 1) hx hb dL_law_776 (by decide) ?_
  refine lv_iadd hx hb dL_law_777 ?_
  refine lv_topi (fun y_8 ey_8 => ?_)
  obtain rfl : y_8 = 1 := ey_8.trans (by decide)
  refine va_sld hx hb hX hbl hbA hS hin1 dL_law_778 ?_
  refine lv_topi (fun y_9 ey_9 => ?_)
  rw [show y_9 = p0 from ey_9.trans hp0.symm]
  refine lv_aload_n hx hb dL_law_779 rfl (lv_at hl 0 rfl) ?_
  refine lv_iload_n hx hb dL_law_780 rfl (lv_at hl 3 rfl) ?_
  refine lv_iconst (v := 2) hx hb dL_law_781 (by decide) ?_
  refine lv_iadd hx hb dL_law_782 ?_
  refine lv_topi (fun y_10 ey_10 => ?_)
  obtain rfl : y_10 = 2 := ey_10.trans (by decide)
  refine va_sld hx hb hX hbl hbA hS hin2 dL_law_783 ?_
  refine lv_topi (fun y_11 ey_11 => ?_)
  rw [show y_11 = p1 from ey_11.trans hp1.symm]
  refine lv_aload_n hx hb dL_law_784 rfl (lv_at hl 0 rfl) ?_
  refine lv_iload_n hx hb dL_law_785 rfl (lv_at hl 3 rfl) ?_
  refine lv_iconst (v := 3) hx hb dL_law_786 (by decide) ?_
  refine lv_iadd hx hb dL_law_787 ?_
  refine lv_topi (fun y_12 ey_12 => ?_)
  obtain rfl : y_12 = 3 := ey_12.trans (by decide)
  refine va_sld hx hb hX hbl hbA hS hin3 dL_law_788 ?_
  refine lv_topi (fun y_13 ey_13 => ?_)
  rw [show y_13 = p2 from ey_13.trans hp2.symm]
  have hPc := hP.sub (ws' := [(y, .inr (12, yM))]) [13] rfl
  have hDc := hD.sub (ws' := [(y, .inr (12, yM))]) [13] (by decide) rfl
  have hFc := va_free (wc := [(y, .inr (12, yM))]) hD hS hA [13] rfl
  refine va_calli (va_runV (As := [.int p0, .int p1, .int p2]) (rest := [.int (-1)]) ⟨hx, hb, hml, hown, hts⟩ (c_X12_evens l D k H.size y yM p0 p1 p2 u_15_53 u_15_66) (cwV 3 hts (gd_V hgd m1895 m1896 m1897 m131 m1898) rfl rfl rfl (by decide +kernel) ⟨Nat.le_of_ble_eq_true rfl, Nat.le_of_ble_eq_true rfl⟩) (cP_V hPc hKX hDc (ci := 12) (q0 := 0) rfl rfl) rfl rfl hl.1 rfl (lv_room (Nat.le_of_ble_eq_true rfl)) dL_law_789 ⟨Nat.le_of_ble_eq_true rfl, Nat.le_of_ble_eq_true rfl⟩) hS (fun q _ h => hFc q h) hFc (fun r_14 u t H1 locs ht hvm hw hB hz1 hk1 hS => ?_)
  obtain ⟨hP1, hD1⟩ := hB
  rw [ht] at hP1
  obtain ⟨hP, hD⟩ := va_join (wr := [(sl, .inl (k.2.1, 3, .inl g1)), (sp, .inr (6, P2)), (sl2, .inl (k.2.1, 3, .inl g2)), (tp, .inl (k.1, 1600, .inl g3)), (rd, .inr (7, Rd)), (tk, .inr (9, K)), (ln, .inr (3, N)), (fo, .inl (k.2.1, 3, .inl g4)), (ea, .inr (1, E)), (nw, .inl (k.2.1, 10, .inl f1)), (kp, .inl (k.2.1, 410, .inl f2)), (bx, .inl (k.2.1, 30, .inl f3)), (si, .inr (8, Z)), (ytp, .inl (k.2.1, 1600, .inl ym1)), (yns, .inl (k.2.1, 3, .inl ym2)), (yss, .inl (k.2.1, 3, .inl ym3)), (ynw, .inl (k.2.1, 16, .inl ym4)), (ywe, .inl (k.2.1, 640, .inl ym5)), (yhbx, .inl (k.2.2.2, 3, .inl ym6)), (ybx, .inl (k.2.1, 48, .inl ym7))]) (w1 := []) hP hD [13] [0, 1, 2, 3, 4, 5, 6, 7, 8, 9, 10, 11, 12, 14, 15, 16, 17, 18, 19, 20] rfl rfl (by decide) (by decide) hk1 hFc hP1 hD1
  generalize H1 = H at hP hS ⊢
  have hP : va_P D classes [(sl, .inl (k.2.1, 3, .inl g1)), (sp, .inr (6, P2)), (sl2, .inl (k.2.1, 3, .inl g2)), (tp, .inl (k.1, 1600, .inl g3)), (rd, .inr (7, Rd)), (tk, .inr (9, K)), (ln, .inr (3, N)), (fo, .inl (k.2.1, 3, .inl g4)), (ea, .inr (1, E)), (nw, .inl (k.2.1, 10, .inl f1)), (kp, .inl (k.2.1, 410, .inl f2)), (bx, .inl (k.2.1, 30, .inl f3)), (si, .inr (8, Z)), (ytp, .inl (k.2.1, 1600, .inl ym1)), (yns, .inl (k.2.1, 3, .inl ym2)), (yss, .inl (k.2.1, 3, .inl ym3)), (ynw, .inl (k.2.1, 16, .inl ym4)), (ywe, .inl (k.2.1, 640, .inl ym5)), (yhbx, .inl (k.2.2.2, 3, .inl ym6)), (ybx, .inl (k.2.1, 48, .inl ym7))] H := hP
  have hD : va_D A [(sl, .inl (k.2.1, 3, .inl g1)), (sp, .inr (6, P2)), (sl2, .inl (k.2.1, 3, .inl g2)), (tp, .inl (k.1, 1600, .inl g3)), (rd, .inr (7, Rd)), (tk, .inr (9, K)), (ln, .inr (3, N)), (fo, .inl (k.2.1, 3, .inl g4)), (ea, .inr (1, E)), (nw, .inl (k.2.1, 10, .inl f1)), (kp, .inl (k.2.1, 410, .inl f2)), (bx, .inl (k.2.1, 30, .inl f3)), (si, .inr (8, Z)), (ytp, .inl (k.2.1, 1600, .inl ym1)), (yns, .inl (k.2.1, 3, .inl ym2)), (yss, .inl (k.2.1, 3, .inl ym3)), (ynw, .inl (k.2.1, 16, .inl ym4)), (ywe, .inl (k.2.1, 640, .inl ym5)), (yhbx, .inl (k.2.2.2, 3, .inl ym6)), (ybx, .inl (k.2.1, 48, .inl ym7))] := hD
  refine W.widen (k := 119) (n := 46443) (Nat.le_of_ble_eq_true rfl) (Nat.le_of_ble_eq_true rfl) ?_
  have hw9 := hw.symm; subst hw9
  refine lv_icmp_eq (tgt := 1645) hx hb dL_law_792 (by decide) (fun c_15 => ?_) (fun c_15 => ?_)
  · have c_15 : ((-1) : Int32) = (-1) := c_15
    exact law_tail rfl C0 hKX hA hA2 hbA hS (lv_sub hl [0, 1, 2, 3] rfl)
  · exact absurd rfl c_15

set_option maxHeartbeats 4000000 in
set_option maxRecDepth 100000 in
theorem law_14 {p : Program} {l : Launch} {e : Env} {s : State} {m : MethodId} {below : List Frame} {meth : Method} {c : Code} {D : va_G} {k : ClassId × ClassId × ClassId × ClassId} {A : Nat → Prop} {b L : Nat} {xs : Nat → Int32} (hL : L = 6) (C0 : lw_At p s m meth c b L xs) (hKX : va_K D classes (TY k) s ∧ cX s) (hA : ∀ q : Nat, s.heap.size ≤ q → A q) (hA2 : ∀ q : Nat, A q → s.heap.size ≤ q) (hbA : ¬ A b) {x y : Nat} {H : Heap} {locs : List Loc} (hF : Fresh D k A x y H) (hS : va_S A s.heap H locs) {ls : Array Slot} (hl : lv_has ls 4 [(0, .ref b), (1, .ref x), (2, .ref y), (3, .int 0)]) : W p l e room_1 s m #[Value.ref b] below meth c H locs 119 46443 (lw_Z below #[Value.ref b] s) (F0 m 797 ls []) := by
  obtain ⟨hx, hb, hr, hml, hown, hts, hX, hbl, hlocks, hgv⟩ := id C0
  have hown : s.vm.findClass RL = some m.cls := hown
  have hK := hKX.1
  have hgd : ∀ w ∈ gd, w ∈ lw_tbl := fun w h => (List.mem_filter.mp h).1
  have hg : ∀ w ∈ gd, w.before #[Value.ref b] s = true := fun w h => hts w (hgd w h)
  subst hL
  obtain ⟨F, pv, P, sl, g1, sp, P2, sl2, g2, tp, g3, rd, Rd, tk, K, ln, N, fo, g4, ea, E, nw, f1, kp, f2, bx, f3, si, Z, yM, ytp, ym1, yns, ym2, yss, ym3, ynw, ym4, ywe, ym5, yhbx, ym6, ybx, ym7, hf_0, hf_1, hf_2, hf_3, hf_4, hf_6, hf_7, hf_8, hf_10, hf_11, hf_14, hf_15, hf_18, hf_19, hf_21, hP, hD⟩ := hF
  have hin1 : vp_in 1 6 := (show ¬ ((1 : Int32) < 0 ∨ 6 ≤ (1 : Int32).toNatClampNeg) from by decide)
  have hin2 : vp_in 2 6 := (show ¬ ((2 : Int32) < 0 ∨ 6 ≤ (2 : Int32).toNatClampNeg) from by decide)
  have hin3 : vp_in 3 6 := (show ¬ ((3 : Int32) < 0 ∨ 6 ≤ (3 : Int32).toNatClampNeg) from by decide)
  have hin4 : vp_in 4 6 := (show ¬ ((4 : Int32) < 0 ∨ 6 ≤ (4 : Int32).toNatClampNeg) from by decide)
  have hin5 : vp_in 5 6 := (show ¬ ((5 : Int32) < 0 ∨ 6 ≤ (5 : Int32).toNatClampNeg) from by decide)
  obtain ⟨p0, hp0⟩ : ∃ z, z = xs 1 := ⟨_, rfl⟩
  obtain ⟨p1, hp1⟩ : ∃ z, z = xs 2 := ⟨_, rfl⟩
  obtain ⟨p2, hp2⟩ : ∃ z, z = xs 3 := ⟨_, rfl⟩
  obtain ⟨p3, hp3⟩ : ∃ z, z = xs 4 := ⟨_, rfl⟩
  obtain ⟨p4, hp4⟩ : ∃ z, z = xs 5 := ⟨_, rfl⟩
  by_cases hv : ¬ s_endless p0 p1 p2 = 0 ∧ ¬ (p3 < 1) ∧ ¬ (99 < p3) ∧ ¬ (p4 < 0) ∧ p4 < p0 + p1
  · skip
    obtain ⟨n0, n1, n2, hn, e0, e1, e2⟩ := endless_nats hv.1
    obtain ⟨n3, hn3, hn4, e3⟩ := in_nat (a := 1) (b := 99) (by omega) (by omega) hv.2.1 hv.2.2.1
    obtain ⟨n4, hn5, e4⟩ := nI_of hv.2.2.2.1
    have hn6 : n4 < n0 + n1 := by have h9 := hv.2.2.2.2; rw [e4, e0, e1, nI_add] at h9; exact (nI_ltI (by omega) (by omega)).mp h9
    subst e0 e1 e2 e3 e4
    refine lv_aload_n hx hb dL_law_797 rfl (lv_at hl 1 rfl) ?_
    refine lv_aload_n hx hb dL_law_798 rfl (lv_at hl 0 rfl) ?_
    refine lv_iload_n hx hb dL_law_799 rfl (lv_at hl 3 rfl) ?_
    refine lv_iconst (v := 1) hx hb dL_law_800 (by decide) ?_
    refine lv_iadd hx hb dL_law_801 ?_
    refine lv_topi (fun y_1 ey_1 => ?_)
    obtain rfl : y_1 = 1 := ey_1.trans (by decide)
    refine va_sld hx hb hX hbl hbA hS hin1 dL_law_802 ?_
    refine lv_topi (fun y_2 ey_2 => ?_)
    rw [show y_2 = (nI n0) from ey_2.trans hp0.symm]
    refine lv_aload_n hx hb dL_law_803 rfl (lv_at hl 0 rfl) ?_
    refine lv_iload_n hx hb dL_law_804 rfl (lv_at hl 3 rfl) ?_
    refine lv_iconst (v := 2) hx hb dL_law_805 (by decide) ?_
    refine lv_iadd hx hb dL_law_806 ?_
    refine lv_topi (fun y_3 ey_3 => ?_)
    obtain rfl : y_3 = 2 := ey_3.trans (by decide)
    refine va_sld hx hb hX hbl hbA hS hin2 dL_law_807 ?_
    refine lv_topi (fun y_4 ey_4 => ?_)
    rw [show y_4 = (nI n1) from ey_4.trans hp1.symm]
    refine lv_aload_n hx hb dL_law_808 rfl (lv_at hl 0 rfl) ?_
    refine lv_iload_n hx hb dL_law_809 rfl (lv_at hl 3 rfl) ?_
    refine lv_iconst (v := 3) hx hb dL_law_810 (by decide) ?_
    refine lv_iadd hx hb dL_law_811 ?_
    refine lv_topi (fun y_5 ey_5 => ?_)
    obtain rfl : y_5 = 3 := ey_5.trans (by decide)
    refine va_sld hx hb hX hbl hbA hS hin3 dL_law_812 ?_
    refine lv_topi (fun y_6 ey_6 => ?_)
    rw [show y_6 = (nI n2) from ey_6.trans hp2.symm]
    refine lv_aload_n hx hb dL_law_813 rfl (lv_at hl 0 rfl) ?_
    refine lv_iload_n hx hb dL_law_814 rfl (lv_at hl 3 rfl) ?_
    refine lv_iconst (v := 4) hx hb dL_law_815 (by decide) ?_
    refine lv_iadd hx hb dL_law_816 ?_
    refine lv_topi (fun y_7 ey_7 => ?_)
    obtain rfl : y_7 = 4 := ey_7.trans (by decide)
    refine va_sld hx hb hX hbl hbA hS hin4 dL_law_817 ?_
    refine lv_topi (fun y_8 ey_8 => ?_)
    rw [show y_8 = (nI n3) from ey_8.trans hp3.symm]
    refine lv_aload_n hx hb dL_law_818 rfl (lv_at hl 0 rfl) ?_
    refine lv_iload_n hx hb dL_law_819 rfl (lv_at hl 3 rfl) ?_
    refine lv_iconst (v := 5) hx hb dL_law_820 (by decide) ?_
    refine lv_iadd hx hb dL_law_821 ?_
    refine lv_topi (fun y_9 ey_9 => ?_)
    obtain rfl : y_9 = 5 := ey_9.trans (by decide)
    refine va_sld hx hb hX hbl hbA hS hin5 dL_law_822 ?_
    refine lv_topi (fun y_10 ey_10 => ?_)
    rw [show y_10 = (nI n4) from ey_10.trans hp4.symm]
    have hPc := hP.sub (ws' := [(x, .inr (11, F))]) [0] rfl
    have hDc := hD.sub (ws' := [(x, .inr (11, F))]) [0] (by decide) rfl
    have hFc := va_free (wc := [(x, .inr (11, F))]) hD hS hA [0] rfl
    refine va_calli (va_runV (As := [.int (nI n0), .int (nI n1), .int (nI n2), .int (nI n3), .int (nI n4)]) (rest := []) ⟨hx, hb, hml, hown, hts⟩ (c_X11_first_ok l D k H.size x n0 n1 n2 n3 n4 F (by omega) (by omega) (by omega) (by omega) (by omega) (by omega) (by omega) (by omega)) (cwV 5 hts (gd_V hgd m1065 m1066 m1067 m117 m1068) rfl rfl rfl (by decide +kernel) ⟨Nat.le_of_ble_eq_true rfl, Nat.le_of_ble_eq_true rfl⟩) (cP_V hPc hKX hDc (ci := 11) (q0 := 0) rfl rfl) rfl rfl hl.1 rfl (lv_room (Nat.le_of_ble_eq_true rfl)) dL_law_823 ⟨Nat.le_of_ble_eq_true rfl, Nat.le_of_ble_eq_true rfl⟩) hS (fun q _ h => hFc q h) hFc (fun r_11 u t H1 locs ht hvm hw hB hz1 hk1 hS => ?_)
    obtain ⟨hP1, hD1⟩ := hB
    rw [ht] at hP1
    obtain ⟨hP, hD⟩ := va_join (wr := [(pv, .inr (6, P)), (sl, .inl (k.2.1, 3, .inl g1)), (sp, .inr (6, P2)), (sl2, .inl (k.2.1, 3, .inl g2)), (tp, .inl (k.1, 1600, .inl g3)), (rd, .inr (7, Rd)), (tk, .inr (9, K)), (ln, .inr (3, N)), (fo, .inl (k.2.1, 3, .inl g4)), (ea, .inr (1, E)), (nw, .inl (k.2.1, 10, .inl f1)), (kp, .inl (k.2.1, 410, .inl f2)), (bx, .inl (k.2.1, 30, .inl f3)), (si, .inr (8, Z)), (y, .inr (12, yM)), (ytp, .inl (k.2.1, 1600, .inl ym1)), (yns, .inl (k.2.1, 3, .inl ym2)), (yss, .inl (k.2.1, 3, .inl ym3)), (ynw, .inl (k.2.1, 16, .inl ym4)), (ywe, .inl (k.2.1, 640, .inl ym5)), (yhbx, .inl (k.2.2.2, 3, .inl ym6)), (ybx, .inl (k.2.1, 48, .inl ym7))]) (w1 := [(x, .inr (11, F))]) hP hD [0] [1, 2, 3, 4, 5, 6, 7, 8, 9, 10, 11, 12, 13, 14, 15, 16, 17, 18, 19, 20, 21, 22] rfl rfl (by decide) (by decide) hk1 hFc hP1 hD1
    generalize H1 = H at hP hS ⊢
    have hP : va_P D classes [(pv, .inr (6, P)), (sl, .inl (k.2.1, 3, .inl g1)), (sp, .inr (6, P2)), (sl2, .inl (k.2.1, 3, .inl g2)), (tp, .inl (k.1, 1600, .inl g3)), (rd, .inr (7, Rd)), (tk, .inr (9, K)), (ln, .inr (3, N)), (fo, .inl (k.2.1, 3, .inl g4)), (ea, .inr (1, E)), (nw, .inl (k.2.1, 10, .inl f1)), (kp, .inl (k.2.1, 410, .inl f2)), (bx, .inl (k.2.1, 30, .inl f3)), (si, .inr (8, Z)), (y, .inr (12, yM)), (ytp, .inl (k.2.1, 1600, .inl ym1)), (yns, .inl (k.2.1, 3, .inl ym2)), (yss, .inl (k.2.1, 3, .inl ym3)), (ynw, .inl (k.2.1, 16, .inl ym4)), (ywe, .inl (k.2.1, 640, .inl ym5)), (yhbx, .inl (k.2.2.2, 3, .inl ym6)), (ybx, .inl (k.2.1, 48, .inl ym7)), (x, .inr (11, F))] H := hP
    have hD : va_D A [(pv, .inr (6, P)), (sl, .inl (k.2.1, 3, .inl g1)), (sp, .inr (6, P2)), (sl2, .inl (k.2.1, 3, .inl g2)), (tp, .inl (k.1, 1600, .inl g3)), (rd, .inr (7, Rd)), (tk, .inr (9, K)), (ln, .inr (3, N)), (fo, .inl (k.2.1, 3, .inl g4)), (ea, .inr (1, E)), (nw, .inl (k.2.1, 10, .inl f1)), (kp, .inl (k.2.1, 410, .inl f2)), (bx, .inl (k.2.1, 30, .inl f3)), (si, .inr (8, Z)), (y, .inr (12, yM)), (ytp, .inl (k.2.1, 1600, .inl ym1)), (yns, .inl (k.2.1, 3, .inl ym2)), (yss, .inl (k.2.1, 3, .inl ym3)), (ynw, .inl (k.2.1, 16, .inl ym4)), (ywe, .inl (k.2.1, 640, .inl ym5)), (yhbx, .inl (k.2.2.2, 3, .inl ym6)), (ybx, .inl (k.2.1, 48, .inl ym7)), (x, .inr (11, F))] := hD
    refine W.widen (k := 119) (n := 46443) (Nat.le_of_ble_eq_true rfl) (Nat.le_of_ble_eq_true rfl) ?_
    have hw9 := hw.symm; subst hw9
    refine lv_aload_n hx hb dL_law_826 rfl (lv_at hl 2 rfl) ?_
    refine lv_aload_n hx hb dL_law_827 rfl (lv_at hl 0 rfl) ?_
    refine lv_iload_n hx hb dL_law_828 rfl (lv_at hl 3 rfl) ?_
    refine lv_iconst (v := 1) hx hb dL_law_829 (by decide) ?_
    refine lv_iadd hx hb dL_law_830 ?_
    refine lv_topi (fun y_12 ey_12 => ?_)
    obtain rfl : y_12 = 1 := ey_12.trans (by decide)
    refine va_sld hx hb hX hbl hbA hS hin1 dL_law_831 ?_
    refine lv_topi (fun y_13 ey_13 => ?_)
    rw [show y_13 = (nI n0) from ey_13.trans hp0.symm]
    refine lv_aload_n hx hb dL_law_832 rfl (lv_at hl 0 rfl) ?_
    refine lv_iload_n hx hb dL_law_833 rfl (lv_at hl 3 rfl) ?_
    refine lv_iconst (v := 2) hx hb dL_law_834 (by decide) ?_
    refine lv_iadd hx hb dL_law_835 ?_
    refine lv_topi (fun y_14 ey_14 => ?_)
    obtain rfl : y_14 = 2 := ey_14.trans (by decide)
    refine va_sld hx hb hX hbl hbA hS hin2 dL_law_836 ?_
    refine lv_topi (fun y_15 ey_15 => ?_)
    rw [show y_15 = (nI n1) from ey_15.trans hp1.symm]
    refine lv_aload_n hx hb dL_law_837 rfl (lv_at hl 0 rfl) ?_
    refine lv_iload_n hx hb dL_law_838 rfl (lv_at hl 3 rfl) ?_
    refine lv_iconst (v := 3) hx hb dL_law_839 (by decide) ?_
    refine lv_iadd hx hb dL_law_840 ?_
    refine lv_topi (fun y_16 ey_16 => ?_)
    obtain rfl : y_16 = 3 := ey_16.trans (by decide)
    refine va_sld hx hb hX hbl hbA hS hin3 dL_law_841 ?_
    refine lv_topi (fun y_17 ey_17 => ?_)
    rw [show y_17 = (nI n2) from ey_17.trans hp2.symm]
    refine lv_aload_n hx hb dL_law_842 rfl (lv_at hl 0 rfl) ?_
    refine lv_iload_n hx hb dL_law_843 rfl (lv_at hl 3 rfl) ?_
    refine lv_iconst (v := 4) hx hb dL_law_844 (by decide) ?_
    refine lv_iadd hx hb dL_law_845 ?_
    refine lv_topi (fun y_18 ey_18 => ?_)
    obtain rfl : y_18 = 4 := ey_18.trans (by decide)
    refine va_sld hx hb hX hbl hbA hS hin4 dL_law_846 ?_
    refine lv_topi (fun y_19 ey_19 => ?_)
    rw [show y_19 = (nI n3) from ey_19.trans hp3.symm]
    refine lv_aload_n hx hb dL_law_847 rfl (lv_at hl 0 rfl) ?_
    refine lv_iload_n hx hb dL_law_848 rfl (lv_at hl 3 rfl) ?_
    refine lv_iconst (v := 5) hx hb dL_law_849 (by decide) ?_
    refine lv_iadd hx hb dL_law_850 ?_
    refine lv_topi (fun y_20 ey_20 => ?_)
    obtain rfl : y_20 = 5 := ey_20.trans (by decide)
    refine va_sld hx hb hX hbl hbA hS hin5 dL_law_851 ?_
    refine lv_topi (fun y_21 ey_21 => ?_)
    rw [show y_21 = (nI n4) from ey_21.trans hp4.symm]
    have hPc := hP.sub (ws' := [(y, .inr (12, yM))]) [14] rfl
    have hDc := hD.sub (ws' := [(y, .inr (12, yM))]) [14] (by decide) rfl
    have hFc := va_free (wc := [(y, .inr (12, yM))]) hD hS hA [14] rfl
    refine va_calli (va_runV (As := [.int (nI n0), .int (nI n1), .int (nI n2), .int (nI n3), .int (nI n4)]) (rest := [.int (foG n0 (n0 + n1) n2 n3 (n0 + n1 + 1) 0 n4)]) ⟨hx, hb, hml, hown, hts⟩ (c_X12_first_ok l D k H.size y n0 n1 n2 n3 n4 yM (by omega) (by omega) (by omega) (by omega) (by omega) (by omega) (by omega) (by omega)) (cwV 5 hts (gd_V hgd m1903 m1904 m1905 m131 m1906) rfl rfl rfl (by decide +kernel) ⟨Nat.le_of_ble_eq_true rfl, Nat.le_of_ble_eq_true rfl⟩) (cP_V hPc hKX hDc (ci := 12) (q0 := 0) rfl rfl) rfl rfl hl.1 rfl (lv_room (Nat.le_of_ble_eq_true rfl)) dL_law_852 ⟨Nat.le_of_ble_eq_true rfl, Nat.le_of_ble_eq_true rfl⟩) hS (fun q _ h => hFc q h) hFc (fun r_22 u t H1 locs ht hvm hw hB hz1 hk1 hS => ?_)
    obtain ⟨hP1, hD1⟩ := hB
    rw [ht] at hP1
    obtain ⟨hP, hD⟩ := va_join (wr := [(pv, .inr (6, P)), (sl, .inl (k.2.1, 3, .inl g1)), (sp, .inr (6, P2)), (sl2, .inl (k.2.1, 3, .inl g2)), (tp, .inl (k.1, 1600, .inl g3)), (rd, .inr (7, Rd)), (tk, .inr (9, K)), (ln, .inr (3, N)), (fo, .inl (k.2.1, 3, .inl g4)), (ea, .inr (1, E)), (nw, .inl (k.2.1, 10, .inl f1)), (kp, .inl (k.2.1, 410, .inl f2)), (bx, .inl (k.2.1, 30, .inl f3)), (si, .inr (8, Z)), (ytp, .inl (k.2.1, 1600, .inl ym1)), (yns, .inl (k.2.1, 3, .inl ym2)), (yss, .inl (k.2.1, 3, .inl ym3)), (ynw, .inl (k.2.1, 16, .inl ym4)), (ywe, .inl (k.2.1, 640, .inl ym5)), (yhbx, .inl (k.2.2.2, 3, .inl ym6)), (ybx, .inl (k.2.1, 48, .inl ym7)), (x, .inr (11, F))]) (w1 := [(y, .inr (12, yM))]) hP hD [14] [0, 1, 2, 3, 4, 5, 6, 7, 8, 9, 10, 11, 12, 13, 15, 16, 17, 18, 19, 20, 21, 22] rfl rfl (by decide) (by decide) hk1 hFc hP1 hD1
    generalize H1 = H at hP hS ⊢
    have hP : va_P D classes [(pv, .inr (6, P)), (sl, .inl (k.2.1, 3, .inl g1)), (sp, .inr (6, P2)), (sl2, .inl (k.2.1, 3, .inl g2)), (tp, .inl (k.1, 1600, .inl g3)), (rd, .inr (7, Rd)), (tk, .inr (9, K)), (ln, .inr (3, N)), (fo, .inl (k.2.1, 3, .inl g4)), (ea, .inr (1, E)), (nw, .inl (k.2.1, 10, .inl f1)), (kp, .inl (k.2.1, 410, .inl f2)), (bx, .inl (k.2.1, 30, .inl f3)), (si, .inr (8, Z)), (ytp, .inl (k.2.1, 1600, .inl ym1)), (yns, .inl (k.2.1, 3, .inl ym2)), (yss, .inl (k.2.1, 3, .inl ym3)), (ynw, .inl (k.2.1, 16, .inl ym4)), (ywe, .inl (k.2.1, 640, .inl ym5)), (yhbx, .inl (k.2.2.2, 3, .inl ym6)), (ybx, .inl (k.2.1, 48, .inl ym7)), (x, .inr (11, F)), (y, .inr (12, yM))] H := hP
    have hD : va_D A [(pv, .inr (6, P)), (sl, .inl (k.2.1, 3, .inl g1)), (sp, .inr (6, P2)), (sl2, .inl (k.2.1, 3, .inl g2)), (tp, .inl (k.1, 1600, .inl g3)), (rd, .inr (7, Rd)), (tk, .inr (9, K)), (ln, .inr (3, N)), (fo, .inl (k.2.1, 3, .inl g4)), (ea, .inr (1, E)), (nw, .inl (k.2.1, 10, .inl f1)), (kp, .inl (k.2.1, 410, .inl f2)), (bx, .inl (k.2.1, 30, .inl f3)), (si, .inr (8, Z)), (ytp, .inl (k.2.1, 1600, .inl ym1)), (yns, .inl (k.2.1, 3, .inl ym2)), (yss, .inl (k.2.1, 3, .inl ym3)), (ynw, .inl (k.2.1, 16, .inl ym4)), (ywe, .inl (k.2.1, 640, .inl ym5)), (yhbx, .inl (k.2.2.2, 3, .inl ym6)), (ybx, .inl (k.2.1, 48, .inl ym7)), (x, .inr (11, F)), (y, .inr (12, yM))] := hD
    refine W.widen (k := 119) (n := 46443) (Nat.le_of_ble_eq_true rfl) (Nat.le_of_ble_eq_true rfl) ?_
    have hw9 := hw.symm; subst hw9
    refine lv_icmp_eq (tgt := 1645) hx hb dL_law_855 (by decide) (fun c_23 => ?_) (fun c_23 => ?_)
    · have c_23 : ((foG n0 (n0 + n1) n2 n3 (n0 + n1 + 1) 0 n4) : Int32) = (foG n0 (n0 + n1) n2 n3 (n0 + n1 + 1) 0 n4) := c_23
      exact law_tail rfl C0 hKX hA hA2 hbA hS (lv_sub hl [0, 1, 2, 3] rfl)
    · exact absurd rfl c_23
  have hbad := hv
  refine lv_aload_n hx hb dL_law_797 rfl (lv_at hl 1 rfl) ?_
  refine lv_aload_n hx hb dL_law_798 rfl (lv_at hl 0 rfl) ?_
  refine lv_iload_n hx hb dL_law_799 rfl (lv_at hl 3 rfl) ?_
  refine lv_iconst (v := 1) hx hb dL_law_800 (by decide) ?_
  refine lv_iadd hx hb dL_law_801 ?_
  refine lv_topi (fun y_24 ey_24 => ?_)
  obtain rfl : y_24 = 1 := ey_24.trans (by decide)
  refine va_sld hx hb hX hbl hbA hS hin1 dL_law_802 ?_
  refine lv_topi (fun y_25 ey_25 => ?_)
  rw [show y_25 = p0 from ey_25.trans hp0.symm]
  refine lv_aload_n hx hb dL_law_803 rfl (lv_at hl 0 rfl) ?_
  refine lv_iload_n hx hb dL_law_804 rfl (lv_at hl 3 rfl) ?_
  refine lv_iconst (v := 2) hx hb dL_law_805 (by decide) ?_
  refine lv_iadd hx hb dL_law_806 ?_
  refine lv_topi (fun y_26 ey_26 => ?_)
  obtain rfl : y_26 = 2 := ey_26.trans (by decide)
  refine va_sld hx hb hX hbl hbA hS hin2 dL_law_807 ?_
  refine lv_topi (fun y_27 ey_27 => ?_)
  rw [show y_27 = p1 from ey_27.trans hp1.symm]
  refine lv_aload_n hx hb dL_law_808 rfl (lv_at hl 0 rfl) ?_
  refine lv_iload_n hx hb dL_law_809 rfl (lv_at hl 3 rfl) ?_
  refine lv_iconst (v := 3) hx hb dL_law_810 (by decide) ?_
  refine lv_iadd hx hb dL_law_811 ?_
  refine lv_topi (fun y_28 ey_28 => ?_)
  obtain rfl : y_28 = 3 := ey_28.trans (by decide)
  refine va_sld hx hb hX hbl hbA hS hin3 dL_law_812 ?_
  refine lv_topi (fun y_29 ey_29 => ?_)
  rw [show y_29 = p2 from ey_29.trans hp2.symm]
  refine lv_aload_n hx hb dL_law_813 rfl (lv_at hl 0 rfl) ?_
  refine lv_iload_n hx hb dL_law_814 rfl (lv_at hl 3 rfl) ?_
  refine lv_iconst (v := 4) hx hb dL_law_815 (by decide) ?_
  refine lv_iadd hx hb dL_law_816 ?_
  refine lv_topi (fun y_30 ey_30 => ?_)
  obtain rfl : y_30 = 4 := ey_30.trans (by decide)
  refine va_sld hx hb hX hbl hbA hS hin4 dL_law_817 ?_
  refine lv_topi (fun y_31 ey_31 => ?_)
  rw [show y_31 = p3 from ey_31.trans hp3.symm]
  refine lv_aload_n hx hb dL_law_818 rfl (lv_at hl 0 rfl) ?_
  refine lv_iload_n hx hb dL_law_819 rfl (lv_at hl 3 rfl) ?_
  refine lv_iconst (v := 5) hx hb dL_law_820 (by decide) ?_
  refine lv_iadd hx hb dL_law_821 ?_
  refine lv_topi (fun y_32 ey_32 => ?_)
  obtain rfl : y_32 = 5 := ey_32.trans (by decide)
  refine va_sld hx hb hX hbl hbA hS hin5 dL_law_822 ?_
  refine lv_topi (fun y_33 ey_33 => ?_)
  rw [show y_33 = p4 from ey_33.trans hp4.symm]
  have hPc := hP.sub (ws' := [(x, .inr (11, F))]) [0] rfl
  have hDc := hD.sub (ws' := [(x, .inr (11, F))]) [0] (by decide) rfl
  have hFc := va_free (wc := [(x, .inr (11, F))]) hD hS hA [0] rfl
  refine va_calli (va_runV (As := [.int p0, .int p1, .int p2, .int p3, .int p4]) (rest := []) ⟨hx, hb, hml, hown, hts⟩ (c_X11_first_bad l D k H.size x p0 p1 p2 p3 p4 F hbad) (cwV 5 hts (gd_V hgd m1065 m1066 m1067 m117 m1068) rfl rfl rfl (by decide +kernel) ⟨Nat.le_of_ble_eq_true rfl, Nat.le_of_ble_eq_true rfl⟩) (cP_V hPc hKX hDc (ci := 11) (q0 := 0) rfl rfl) rfl rfl hl.1 rfl (lv_room (Nat.le_of_ble_eq_true rfl)) dL_law_823 ⟨Nat.le_of_ble_eq_true rfl, Nat.le_of_ble_eq_true rfl⟩) hS (fun q _ h => hFc q h) hFc (fun r_34 u t H1 locs ht hvm hw hB hz1 hk1 hS => ?_)
  obtain ⟨hP1, hD1⟩ := hB
  rw [ht] at hP1
  obtain ⟨hP, hD⟩ := va_join (wr := [(pv, .inr (6, P)), (sl, .inl (k.2.1, 3, .inl g1)), (sp, .inr (6, P2)), (sl2, .inl (k.2.1, 3, .inl g2)), (tp, .inl (k.1, 1600, .inl g3)), (rd, .inr (7, Rd)), (tk, .inr (9, K)), (ln, .inr (3, N)), (fo, .inl (k.2.1, 3, .inl g4)), (ea, .inr (1, E)), (nw, .inl (k.2.1, 10, .inl f1)), (kp, .inl (k.2.1, 410, .inl f2)), (bx, .inl (k.2.1, 30, .inl f3)), (si, .inr (8, Z)), (y, .inr (12, yM)), (ytp, .inl (k.2.1, 1600, .inl ym1)), (yns, .inl (k.2.1, 3, .inl ym2)), (yss, .inl (k.2.1, 3, .inl ym3)), (ynw, .inl (k.2.1, 16, .inl ym4)), (ywe, .inl (k.2.1, 640, .inl ym5)), (yhbx, .inl (k.2.2.2, 3, .inl ym6)), (ybx, .inl (k.2.1, 48, .inl ym7))]) (w1 := [(x, .inr (11, F))]) hP hD [0] [1, 2, 3, 4, 5, 6, 7, 8, 9, 10, 11, 12, 13, 14, 15, 16, 17, 18, 19, 20, 21, 22] rfl rfl (by decide) (by decide) hk1 hFc hP1 hD1
  generalize H1 = H at hP hS ⊢
  have hP : va_P D classes [(pv, .inr (6, P)), (sl, .inl (k.2.1, 3, .inl g1)), (sp, .inr (6, P2)), (sl2, .inl (k.2.1, 3, .inl g2)), (tp, .inl (k.1, 1600, .inl g3)), (rd, .inr (7, Rd)), (tk, .inr (9, K)), (ln, .inr (3, N)), (fo, .inl (k.2.1, 3, .inl g4)), (ea, .inr (1, E)), (nw, .inl (k.2.1, 10, .inl f1)), (kp, .inl (k.2.1, 410, .inl f2)), (bx, .inl (k.2.1, 30, .inl f3)), (si, .inr (8, Z)), (y, .inr (12, yM)), (ytp, .inl (k.2.1, 1600, .inl ym1)), (yns, .inl (k.2.1, 3, .inl ym2)), (yss, .inl (k.2.1, 3, .inl ym3)), (ynw, .inl (k.2.1, 16, .inl ym4)), (ywe, .inl (k.2.1, 640, .inl ym5)), (yhbx, .inl (k.2.2.2, 3, .inl ym6)), (ybx, .inl (k.2.1, 48, .inl ym7)), (x, .inr (11, F))] H := hP
  have hD : va_D A [(pv, .inr (6, P)), (sl, .inl (k.2.1, 3, .inl g1)), (sp, .inr (6, P2)), (sl2, .inl (k.2.1, 3, .inl g2)), (tp, .inl (k.1, 1600, .inl g3)), (rd, .inr (7, Rd)), (tk, .inr (9, K)), (ln, .inr (3, N)), (fo, .inl (k.2.1, 3, .inl g4)), (ea, .inr (1, E)), (nw, .inl (k.2.1, 10, .inl f1)), (kp, .inl (k.2.1, 410, .inl f2)), (bx, .inl (k.2.1, 30, .inl f3)), (si, .inr (8, Z)), (y, .inr (12, yM)), (ytp, .inl (k.2.1, 1600, .inl ym1)), (yns, .inl (k.2.1, 3, .inl ym2)), (yss, .inl (k.2.1, 3, .inl ym3)), (ynw, .inl (k.2.1, 16, .inl ym4)), (ywe, .inl (k.2.1, 640, .inl ym5)), (yhbx, .inl (k.2.2.2, 3, .inl ym6)), (ybx, .inl (k.2.1, 48, .inl ym7)), (x, .inr (11, F))] := hD
  refine W.widen (k := 119) (n := 46443) (Nat.le_of_ble_eq_true rfl) (Nat.le_of_ble_eq_true rfl) ?_
  have hw9 := hw.symm; subst hw9
  refine lv_aload_n hx hb dL_law_826 rfl (lv_at hl 2 rfl) ?_
  refine lv_aload_n hx hb dL_law_827 rfl (lv_at hl 0 rfl) ?_
  refine lv_iload_n hx hb dL_law_828 rfl (lv_at hl 3 rfl) ?_
  refine lv_iconst (v := 1) hx hb dL_law_829 (by decide) ?_
  refine lv_iadd hx hb dL_law_830 ?_
  refine lv_topi (fun y_35 ey_35 => ?_)
  obtain rfl : y_35 = 1 := ey_35.trans (by decide)
  refine va_sld hx hb hX hbl hbA hS hin1 dL_law_831 ?_
  refine lv_topi (fun y_36 ey_36 => ?_)
  rw [show y_36 = p0 from ey_36.trans hp0.symm]
  refine lv_aload_n hx hb dL_law_832 rfl (lv_at hl 0 rfl) ?_
  refine lv_iload_n hx hb dL_law_833 rfl (lv_at hl 3 rfl) ?_
  refine lv_iconst (v := 2) hx hb dL_law_834 (by decide) ?_
  refine lv_iadd hx hb dL_law_835 ?_
  refine lv_topi (fun y_37 ey_37 => ?_)
  obtain rfl : y_37 = 2 := ey_37.trans (by decide)
  refine va_sld hx hb hX hbl hbA hS hin2 dL_law_836 ?_
  refine lv_topi (fun y_38 ey_38 => ?_)
  rw [show y_38 = p1 from ey_38.trans hp1.symm]
  refine lv_aload_n hx hb dL_law_837 rfl (lv_at hl 0 rfl) ?_
  refine lv_iload_n hx hb dL_law_838 rfl (lv_at hl 3 rfl) ?_
  refine lv_iconst (v := 3) hx hb dL_law_839 (by decide) ?_
  refine lv_iadd hx hb dL_law_840 ?_
  refine lv_topi (fun y_39 ey_39 => ?_)
  obtain rfl : y_39 = 3 := ey_39.trans (by decide)
  refine va_sld hx hb hX hbl hbA hS hin3 dL_law_841 ?_
  refine lv_topi (fun y_40 ey_40 => ?_)
  rw [show y_40 = p2 from ey_40.trans hp2.symm]
  refine lv_aload_n hx hb dL_law_842 rfl (lv_at hl 0 rfl) ?_
  refine lv_iload_n hx hb dL_law_843 rfl (lv_at hl 3 rfl) ?_
  refine lv_iconst (v := 4) hx hb dL_law_844 (by decide) ?_
  refine lv_iadd hx hb dL_law_845 ?_
  refine lv_topi (fun y_41 ey_41 => ?_)
  obtain rfl : y_41 = 4 := ey_41.trans (by decide)
  refine va_sld hx hb hX hbl hbA hS hin4 dL_law_846 ?_
  refine lv_topi (fun y_42 ey_42 => ?_)
  rw [show y_42 = p3 from ey_42.trans hp3.symm]
  refine lv_aload_n hx hb dL_law_847 rfl (lv_at hl 0 rfl) ?_
  refine lv_iload_n hx hb dL_law_848 rfl (lv_at hl 3 rfl) ?_
  refine lv_iconst (v := 5) hx hb dL_law_849 (by decide) ?_
  refine lv_iadd hx hb dL_law_850 ?_
  refine lv_topi (fun y_43 ey_43 => ?_)
  obtain rfl : y_43 = 5 := ey_43.trans (by decide)
  refine va_sld hx hb hX hbl hbA hS hin5 dL_law_851 ?_
  refine lv_topi (fun y_44 ey_44 => ?_)
  rw [show y_44 = p4 from ey_44.trans hp4.symm]
  have hPc := hP.sub (ws' := [(y, .inr (12, yM))]) [14] rfl
  have hDc := hD.sub (ws' := [(y, .inr (12, yM))]) [14] (by decide) rfl
  have hFc := va_free (wc := [(y, .inr (12, yM))]) hD hS hA [14] rfl
  refine va_calli (va_runV (As := [.int p0, .int p1, .int p2, .int p3, .int p4]) (rest := [.int (-2)]) ⟨hx, hb, hml, hown, hts⟩ (c_X12_first_bad l D k H.size y p0 p1 p2 p3 p4 yM hbad) (cwV 5 hts (gd_V hgd m1903 m1904 m1905 m131 m1906) rfl rfl rfl (by decide +kernel) ⟨Nat.le_of_ble_eq_true rfl, Nat.le_of_ble_eq_true rfl⟩) (cP_V hPc hKX hDc (ci := 12) (q0 := 0) rfl rfl) rfl rfl hl.1 rfl (lv_room (Nat.le_of_ble_eq_true rfl)) dL_law_852 ⟨Nat.le_of_ble_eq_true rfl, Nat.le_of_ble_eq_true rfl⟩) hS (fun q _ h => hFc q h) hFc (fun r_45 u t H1 locs ht hvm hw hB hz1 hk1 hS => ?_)
  obtain ⟨hP1, hD1⟩ := hB
  rw [ht] at hP1
  obtain ⟨hP, hD⟩ := va_join (wr := [(pv, .inr (6, P)), (sl, .inl (k.2.1, 3, .inl g1)), (sp, .inr (6, P2)), (sl2, .inl (k.2.1, 3, .inl g2)), (tp, .inl (k.1, 1600, .inl g3)), (rd, .inr (7, Rd)), (tk, .inr (9, K)), (ln, .inr (3, N)), (fo, .inl (k.2.1, 3, .inl g4)), (ea, .inr (1, E)), (nw, .inl (k.2.1, 10, .inl f1)), (kp, .inl (k.2.1, 410, .inl f2)), (bx, .inl (k.2.1, 30, .inl f3)), (si, .inr (8, Z)), (ytp, .inl (k.2.1, 1600, .inl ym1)), (yns, .inl (k.2.1, 3, .inl ym2)), (yss, .inl (k.2.1, 3, .inl ym3)), (ynw, .inl (k.2.1, 16, .inl ym4)), (ywe, .inl (k.2.1, 640, .inl ym5)), (yhbx, .inl (k.2.2.2, 3, .inl ym6)), (ybx, .inl (k.2.1, 48, .inl ym7)), (x, .inr (11, F))]) (w1 := [(y, .inr (12, yM))]) hP hD [14] [0, 1, 2, 3, 4, 5, 6, 7, 8, 9, 10, 11, 12, 13, 15, 16, 17, 18, 19, 20, 21, 22] rfl rfl (by decide) (by decide) hk1 hFc hP1 hD1
  generalize H1 = H at hP hS ⊢
  have hP : va_P D classes [(pv, .inr (6, P)), (sl, .inl (k.2.1, 3, .inl g1)), (sp, .inr (6, P2)), (sl2, .inl (k.2.1, 3, .inl g2)), (tp, .inl (k.1, 1600, .inl g3)), (rd, .inr (7, Rd)), (tk, .inr (9, K)), (ln, .inr (3, N)), (fo, .inl (k.2.1, 3, .inl g4)), (ea, .inr (1, E)), (nw, .inl (k.2.1, 10, .inl f1)), (kp, .inl (k.2.1, 410, .inl f2)), (bx, .inl (k.2.1, 30, .inl f3)), (si, .inr (8, Z)), (ytp, .inl (k.2.1, 1600, .inl ym1)), (yns, .inl (k.2.1, 3, .inl ym2)), (yss, .inl (k.2.1, 3, .inl ym3)), (ynw, .inl (k.2.1, 16, .inl ym4)), (ywe, .inl (k.2.1, 640, .inl ym5)), (yhbx, .inl (k.2.2.2, 3, .inl ym6)), (ybx, .inl (k.2.1, 48, .inl ym7)), (x, .inr (11, F)), (y, .inr (12, yM))] H := hP
  have hD : va_D A [(pv, .inr (6, P)), (sl, .inl (k.2.1, 3, .inl g1)), (sp, .inr (6, P2)), (sl2, .inl (k.2.1, 3, .inl g2)), (tp, .inl (k.1, 1600, .inl g3)), (rd, .inr (7, Rd)), (tk, .inr (9, K)), (ln, .inr (3, N)), (fo, .inl (k.2.1, 3, .inl g4)), (ea, .inr (1, E)), (nw, .inl (k.2.1, 10, .inl f1)), (kp, .inl (k.2.1, 410, .inl f2)), (bx, .inl (k.2.1, 30, .inl f3)), (si, .inr (8, Z)), (ytp, .inl (k.2.1, 1600, .inl ym1)), (yns, .inl (k.2.1, 3, .inl ym2)), (yss, .inl (k.2.1, 3, .inl ym3)), (ynw, .inl (k.2.1, 16, .inl ym4)), (ywe, .inl (k.2.1, 640, .inl ym5)), (yhbx, .inl (k.2.2.2, 3, .inl ym6)), (ybx, .inl (k.2.1, 48, .inl ym7)), (x, .inr (11, F)), (y, .inr (12, yM))] := hD
  refine W.widen (k := 119) (n := 46443) (Nat.le_of_ble_eq_true rfl) (Nat.le_of_ble_eq_true rfl) ?_
  have hw9 := hw.symm; subst hw9
  refine lv_icmp_eq (tgt := 1645) hx hb dL_law_855 (by decide) (fun c_46 => ?_) (fun c_46 => ?_)
  · have c_46 : ((-2) : Int32) = (-2) := c_46
    exact law_tail rfl C0 hKX hA hA2 hbA hS (lv_sub hl [0, 1, 2, 3] rfl)
  · exact absurd rfl c_46

set_option maxHeartbeats 4000000 in
set_option maxRecDepth 100000 in
theorem law_15 {p : Program} {l : Launch} {e : Env} {s : State} {m : MethodId} {below : List Frame} {meth : Method} {c : Code} {D : va_G} {k : ClassId × ClassId × ClassId × ClassId} {A : Nat → Prop} {b L : Nat} {xs : Nat → Int32} (hL : L = 6) (C0 : lw_At p s m meth c b L xs) (hKX : va_K D classes (TY k) s ∧ cX s) (hA : ∀ q : Nat, s.heap.size ≤ q → A q) (hA2 : ∀ q : Nat, A q → s.heap.size ≤ q) (hbA : ¬ A b) {x y : Nat} {H : Heap} {locs : List Loc} (hF : Fresh D k A x y H) (hS : va_S A s.heap H locs) {ls : Array Slot} (hl : lv_has ls 4 [(0, .ref b), (1, .ref x), (2, .ref y), (3, .int 0)]) : W p l e room_1 s m #[Value.ref b] below meth c H locs 119 46443 (lw_Z below #[Value.ref b] s) (F0 m 860 ls []) := by
  obtain ⟨hx, hb, hr, hml, hown, hts, hX, hbl, hlocks, hgv⟩ := id C0
  have hown : s.vm.findClass RL = some m.cls := hown
  have hK := hKX.1
  have hgd : ∀ w ∈ gd, w ∈ lw_tbl := fun w h => (List.mem_filter.mp h).1
  have hg : ∀ w ∈ gd, w.before #[Value.ref b] s = true := fun w h => hts w (hgd w h)
  subst hL
  obtain ⟨F, pv, P, sl, g1, sp, P2, sl2, g2, tp, g3, rd, Rd, tk, K, ln, N, fo, g4, ea, E, nw, f1, kp, f2, bx, f3, si, Z, yM, ytp, ym1, yns, ym2, yss, ym3, ynw, ym4, ywe, ym5, yhbx, ym6, ybx, ym7, hf_0, hf_1, hf_2, hf_3, hf_4, hf_6, hf_7, hf_8, hf_10, hf_11, hf_14, hf_15, hf_18, hf_19, hf_21, hP, hD⟩ := hF
  have hin1 : vp_in 1 6 := (show ¬ ((1 : Int32) < 0 ∨ 6 ≤ (1 : Int32).toNatClampNeg) from by decide)
  have hin2 : vp_in 2 6 := (show ¬ ((2 : Int32) < 0 ∨ 6 ≤ (2 : Int32).toNatClampNeg) from by decide)
  have hin3 : vp_in 3 6 := (show ¬ ((3 : Int32) < 0 ∨ 6 ≤ (3 : Int32).toNatClampNeg) from by decide)
  have hin4 : vp_in 4 6 := (show ¬ ((4 : Int32) < 0 ∨ 6 ≤ (4 : Int32).toNatClampNeg) from by decide)
  have hin5 : vp_in 5 6 := (show ¬ ((5 : Int32) < 0 ∨ 6 ≤ (5 : Int32).toNatClampNeg) from by decide)
  obtain ⟨p0, hp0⟩ : ∃ z, z = xs 1 := ⟨_, rfl⟩
  obtain ⟨p1, hp1⟩ : ∃ z, z = xs 2 := ⟨_, rfl⟩
  obtain ⟨p2, hp2⟩ : ∃ z, z = xs 3 := ⟨_, rfl⟩
  obtain ⟨p3, hp3⟩ : ∃ z, z = xs 4 := ⟨_, rfl⟩
  obtain ⟨p4, hp4⟩ : ∃ z, z = xs 5 := ⟨_, rfl⟩
  by_cases hv : ¬ s_endless p0 p1 p2 = 0 ∧ ¬ (p3 < 1) ∧ ¬ (99 < p3)
  · skip
    obtain ⟨n0, n1, n2, hn, e0, e1, e2⟩ := endless_nats hv.1
    obtain ⟨n3, hn3, hn4, e3⟩ := in_nat (a := 1) (b := 99) (by omega) (by omega) hv.2.1 hv.2.2
    subst e0 e1 e2 e3
    refine lv_aload_n hx hb dL_law_860 rfl (lv_at hl 1 rfl) ?_
    refine lv_aload_n hx hb dL_law_861 rfl (lv_at hl 0 rfl) ?_
    refine lv_iload_n hx hb dL_law_862 rfl (lv_at hl 3 rfl) ?_
    refine lv_iconst (v := 1) hx hb dL_law_863 (by decide) ?_
    refine lv_iadd hx hb dL_law_864 ?_
    refine lv_topi (fun y_1 ey_1 => ?_)
    obtain rfl : y_1 = 1 := ey_1.trans (by decide)
    refine va_sld hx hb hX hbl hbA hS hin1 dL_law_865 ?_
    refine lv_topi (fun y_2 ey_2 => ?_)
    rw [show y_2 = (nI n0) from ey_2.trans hp0.symm]
    refine lv_aload_n hx hb dL_law_866 rfl (lv_at hl 0 rfl) ?_
    refine lv_iload_n hx hb dL_law_867 rfl (lv_at hl 3 rfl) ?_
    refine lv_iconst (v := 2) hx hb dL_law_868 (by decide) ?_
    refine lv_iadd hx hb dL_law_869 ?_
    refine lv_topi (fun y_3 ey_3 => ?_)
    obtain rfl : y_3 = 2 := ey_3.trans (by decide)
    refine va_sld hx hb hX hbl hbA hS hin2 dL_law_870 ?_
    refine lv_topi (fun y_4 ey_4 => ?_)
    rw [show y_4 = (nI n1) from ey_4.trans hp1.symm]
    refine lv_aload_n hx hb dL_law_871 rfl (lv_at hl 0 rfl) ?_
    refine lv_iload_n hx hb dL_law_872 rfl (lv_at hl 3 rfl) ?_
    refine lv_iconst (v := 3) hx hb dL_law_873 (by decide) ?_
    refine lv_iadd hx hb dL_law_874 ?_
    refine lv_topi (fun y_5 ey_5 => ?_)
    obtain rfl : y_5 = 3 := ey_5.trans (by decide)
    refine va_sld hx hb hX hbl hbA hS hin3 dL_law_875 ?_
    refine lv_topi (fun y_6 ey_6 => ?_)
    rw [show y_6 = (nI n2) from ey_6.trans hp2.symm]
    refine lv_aload_n hx hb dL_law_876 rfl (lv_at hl 0 rfl) ?_
    refine lv_iload_n hx hb dL_law_877 rfl (lv_at hl 3 rfl) ?_
    refine lv_iconst (v := 4) hx hb dL_law_878 (by decide) ?_
    refine lv_iadd hx hb dL_law_879 ?_
    refine lv_topi (fun y_7 ey_7 => ?_)
    obtain rfl : y_7 = 4 := ey_7.trans (by decide)
    refine va_sld hx hb hX hbl hbA hS hin4 dL_law_880 ?_
    refine lv_topi (fun y_8 ey_8 => ?_)
    rw [show y_8 = (nI n3) from ey_8.trans hp3.symm]
    have hPc := hP.sub (ws' := [(x, .inr (11, F))]) [0] rfl
    have hDc := hD.sub (ws' := [(x, .inr (11, F))]) [0] (by decide) rfl
    have hFc := va_free (wc := [(x, .inr (11, F))]) hD hS hA [0] rfl
    refine va_calli (va_runV (As := [.int (nI n0), .int (nI n1), .int (nI n2), .int (nI n3)]) (rest := []) ⟨hx, hb, hml, hown, hts⟩ (c_X11_begin_ok l D k H.size x n0 n1 n2 n3 F (by omega) (by omega) (by omega) (by omega) (by omega) (by omega) (by omega)) (cwV 4 hts (gd_V hgd m1072 m1073 m1074 m117 m1075) rfl rfl rfl (by decide +kernel) ⟨Nat.le_of_ble_eq_true rfl, Nat.le_of_ble_eq_true rfl⟩) (cP_V hPc hKX hDc (ci := 11) (q0 := 0) rfl rfl) rfl rfl hl.1 rfl (lv_room (Nat.le_of_ble_eq_true rfl)) dL_law_881 ⟨Nat.le_of_ble_eq_true rfl, Nat.le_of_ble_eq_true rfl⟩) hS (fun q _ h => hFc q h) hFc (fun r_9 u t H1 locs ht hvm hw hB hz1 hk1 hS => ?_)
    obtain ⟨hP1, hD1⟩ := hB
    rw [ht] at hP1
    obtain ⟨hP, hD⟩ := va_join (wr := [(pv, .inr (6, P)), (sl, .inl (k.2.1, 3, .inl g1)), (sp, .inr (6, P2)), (sl2, .inl (k.2.1, 3, .inl g2)), (tp, .inl (k.1, 1600, .inl g3)), (rd, .inr (7, Rd)), (tk, .inr (9, K)), (ln, .inr (3, N)), (fo, .inl (k.2.1, 3, .inl g4)), (ea, .inr (1, E)), (nw, .inl (k.2.1, 10, .inl f1)), (kp, .inl (k.2.1, 410, .inl f2)), (bx, .inl (k.2.1, 30, .inl f3)), (si, .inr (8, Z)), (y, .inr (12, yM)), (ytp, .inl (k.2.1, 1600, .inl ym1)), (yns, .inl (k.2.1, 3, .inl ym2)), (yss, .inl (k.2.1, 3, .inl ym3)), (ynw, .inl (k.2.1, 16, .inl ym4)), (ywe, .inl (k.2.1, 640, .inl ym5)), (yhbx, .inl (k.2.2.2, 3, .inl ym6)), (ybx, .inl (k.2.1, 48, .inl ym7))]) (w1 := [(x, .inr (11, F))]) hP hD [0] [1, 2, 3, 4, 5, 6, 7, 8, 9, 10, 11, 12, 13, 14, 15, 16, 17, 18, 19, 20, 21, 22] rfl rfl (by decide) (by decide) hk1 hFc hP1 hD1
    generalize H1 = H at hP hS ⊢
    have hP : va_P D classes [(pv, .inr (6, P)), (sl, .inl (k.2.1, 3, .inl g1)), (sp, .inr (6, P2)), (sl2, .inl (k.2.1, 3, .inl g2)), (tp, .inl (k.1, 1600, .inl g3)), (rd, .inr (7, Rd)), (tk, .inr (9, K)), (ln, .inr (3, N)), (fo, .inl (k.2.1, 3, .inl g4)), (ea, .inr (1, E)), (nw, .inl (k.2.1, 10, .inl f1)), (kp, .inl (k.2.1, 410, .inl f2)), (bx, .inl (k.2.1, 30, .inl f3)), (si, .inr (8, Z)), (y, .inr (12, yM)), (ytp, .inl (k.2.1, 1600, .inl ym1)), (yns, .inl (k.2.1, 3, .inl ym2)), (yss, .inl (k.2.1, 3, .inl ym3)), (ynw, .inl (k.2.1, 16, .inl ym4)), (ywe, .inl (k.2.1, 640, .inl ym5)), (yhbx, .inl (k.2.2.2, 3, .inl ym6)), (ybx, .inl (k.2.1, 48, .inl ym7)), (x, .inr (11, F))] H := hP
    have hD : va_D A [(pv, .inr (6, P)), (sl, .inl (k.2.1, 3, .inl g1)), (sp, .inr (6, P2)), (sl2, .inl (k.2.1, 3, .inl g2)), (tp, .inl (k.1, 1600, .inl g3)), (rd, .inr (7, Rd)), (tk, .inr (9, K)), (ln, .inr (3, N)), (fo, .inl (k.2.1, 3, .inl g4)), (ea, .inr (1, E)), (nw, .inl (k.2.1, 10, .inl f1)), (kp, .inl (k.2.1, 410, .inl f2)), (bx, .inl (k.2.1, 30, .inl f3)), (si, .inr (8, Z)), (y, .inr (12, yM)), (ytp, .inl (k.2.1, 1600, .inl ym1)), (yns, .inl (k.2.1, 3, .inl ym2)), (yss, .inl (k.2.1, 3, .inl ym3)), (ynw, .inl (k.2.1, 16, .inl ym4)), (ywe, .inl (k.2.1, 640, .inl ym5)), (yhbx, .inl (k.2.2.2, 3, .inl ym6)), (ybx, .inl (k.2.1, 48, .inl ym7)), (x, .inr (11, F))] := hD
    refine W.widen (k := 119) (n := 46443) (Nat.le_of_ble_eq_true rfl) (Nat.le_of_ble_eq_true rfl) ?_
    have hw9 := hw.symm; subst hw9
    refine lv_aload_n hx hb dL_law_884 rfl (lv_at hl 2 rfl) ?_
    refine lv_aload_n hx hb dL_law_885 rfl (lv_at hl 0 rfl) ?_
    refine lv_iload_n hx hb dL_law_886 rfl (lv_at hl 3 rfl) ?_
    refine lv_iconst (v := 1) hx hb dL_law_887 (by decide) ?_
    refine lv_iadd hx hb dL_law_888 ?_
    refine lv_topi (fun y_10 ey_10 => ?_)
    obtain rfl : y_10 = 1 := ey_10.trans (by decide)
    refine va_sld hx hb hX hbl hbA hS hin1 dL_law_889 ?_
    refine lv_topi (fun y_11 ey_11 => ?_)
    rw [show y_11 = (nI n0) from ey_11.trans hp0.symm]
    refine lv_aload_n hx hb dL_law_890 rfl (lv_at hl 0 rfl) ?_
    refine lv_iload_n hx hb dL_law_891 rfl (lv_at hl 3 rfl) ?_
    refine lv_iconst (v := 2) hx hb dL_law_892 (by decide) ?_
    refine lv_iadd hx hb dL_law_893 ?_
    refine lv_topi (fun y_12 ey_12 => ?_)
    obtain rfl : y_12 = 2 := ey_12.trans (by decide)
    refine va_sld hx hb hX hbl hbA hS hin2 dL_law_894 ?_
    refine lv_topi (fun y_13 ey_13 => ?_)
    rw [show y_13 = (nI n1) from ey_13.trans hp1.symm]
    refine lv_aload_n hx hb dL_law_895 rfl (lv_at hl 0 rfl) ?_
    refine lv_iload_n hx hb dL_law_896 rfl (lv_at hl 3 rfl) ?_
    refine lv_iconst (v := 3) hx hb dL_law_897 (by decide) ?_
    refine lv_iadd hx hb dL_law_898 ?_
    refine lv_topi (fun y_14 ey_14 => ?_)
    obtain rfl : y_14 = 3 := ey_14.trans (by decide)
    refine va_sld hx hb hX hbl hbA hS hin3 dL_law_899 ?_
    refine lv_topi (fun y_15 ey_15 => ?_)
    rw [show y_15 = (nI n2) from ey_15.trans hp2.symm]
    refine lv_aload_n hx hb dL_law_900 rfl (lv_at hl 0 rfl) ?_
    refine lv_iload_n hx hb dL_law_901 rfl (lv_at hl 3 rfl) ?_
    refine lv_iconst (v := 4) hx hb dL_law_902 (by decide) ?_
    refine lv_iadd hx hb dL_law_903 ?_
    refine lv_topi (fun y_16 ey_16 => ?_)
    obtain rfl : y_16 = 4 := ey_16.trans (by decide)
    refine va_sld hx hb hX hbl hbA hS hin4 dL_law_904 ?_
    refine lv_topi (fun y_17 ey_17 => ?_)
    rw [show y_17 = (nI n3) from ey_17.trans hp3.symm]
    have hPc := hP.sub (ws' := [(y, .inr (12, yM))]) [14] rfl
    have hDc := hD.sub (ws' := [(y, .inr (12, yM))]) [14] (by decide) rfl
    have hFc := va_free (wc := [(y, .inr (12, yM))]) hD hS hA [14] rfl
    refine va_calli (va_runV (As := [.int (nI n0), .int (nI n1), .int (nI n2), .int (nI n3)]) (rest := [.int (nI (bgN n0 n1 n2 n3))]) ⟨hx, hb, hml, hown, hts⟩ (c_X12_begin_ok l D k H.size y n0 n1 n2 n3 yM (by omega) (by omega) (by omega) (by omega) (by omega) (by omega) (by omega)) (cwV 4 hts (gd_V hgd m1916 m1917 m1918 m131 m1919) rfl rfl rfl (by decide +kernel) ⟨Nat.le_of_ble_eq_true rfl, Nat.le_of_ble_eq_true rfl⟩) (cP_V hPc hKX hDc (ci := 12) (q0 := 0) rfl rfl) rfl rfl hl.1 rfl (lv_room (Nat.le_of_ble_eq_true rfl)) dL_law_905 ⟨Nat.le_of_ble_eq_true rfl, Nat.le_of_ble_eq_true rfl⟩) hS (fun q _ h => hFc q h) hFc (fun r_18 u t H1 locs ht hvm hw hB hz1 hk1 hS => ?_)
    obtain ⟨hP1, hD1⟩ := hB
    rw [ht] at hP1
    obtain ⟨hP, hD⟩ := va_join (wr := [(pv, .inr (6, P)), (sl, .inl (k.2.1, 3, .inl g1)), (sp, .inr (6, P2)), (sl2, .inl (k.2.1, 3, .inl g2)), (tp, .inl (k.1, 1600, .inl g3)), (rd, .inr (7, Rd)), (tk, .inr (9, K)), (ln, .inr (3, N)), (fo, .inl (k.2.1, 3, .inl g4)), (ea, .inr (1, E)), (nw, .inl (k.2.1, 10, .inl f1)), (kp, .inl (k.2.1, 410, .inl f2)), (bx, .inl (k.2.1, 30, .inl f3)), (si, .inr (8, Z)), (ytp, .inl (k.2.1, 1600, .inl ym1)), (yns, .inl (k.2.1, 3, .inl ym2)), (yss, .inl (k.2.1, 3, .inl ym3)), (ynw, .inl (k.2.1, 16, .inl ym4)), (ywe, .inl (k.2.1, 640, .inl ym5)), (yhbx, .inl (k.2.2.2, 3, .inl ym6)), (ybx, .inl (k.2.1, 48, .inl ym7)), (x, .inr (11, F))]) (w1 := [(y, .inr (12, yM))]) hP hD [14] [0, 1, 2, 3, 4, 5, 6, 7, 8, 9, 10, 11, 12, 13, 15, 16, 17, 18, 19, 20, 21, 22] rfl rfl (by decide) (by decide) hk1 hFc hP1 hD1
    generalize H1 = H at hP hS ⊢
    have hP : va_P D classes [(pv, .inr (6, P)), (sl, .inl (k.2.1, 3, .inl g1)), (sp, .inr (6, P2)), (sl2, .inl (k.2.1, 3, .inl g2)), (tp, .inl (k.1, 1600, .inl g3)), (rd, .inr (7, Rd)), (tk, .inr (9, K)), (ln, .inr (3, N)), (fo, .inl (k.2.1, 3, .inl g4)), (ea, .inr (1, E)), (nw, .inl (k.2.1, 10, .inl f1)), (kp, .inl (k.2.1, 410, .inl f2)), (bx, .inl (k.2.1, 30, .inl f3)), (si, .inr (8, Z)), (ytp, .inl (k.2.1, 1600, .inl ym1)), (yns, .inl (k.2.1, 3, .inl ym2)), (yss, .inl (k.2.1, 3, .inl ym3)), (ynw, .inl (k.2.1, 16, .inl ym4)), (ywe, .inl (k.2.1, 640, .inl ym5)), (yhbx, .inl (k.2.2.2, 3, .inl ym6)), (ybx, .inl (k.2.1, 48, .inl ym7)), (x, .inr (11, F)), (y, .inr (12, yM))] H := hP
    have hD : va_D A [(pv, .inr (6, P)), (sl, .inl (k.2.1, 3, .inl g1)), (sp, .inr (6, P2)), (sl2, .inl (k.2.1, 3, .inl g2)), (tp, .inl (k.1, 1600, .inl g3)), (rd, .inr (7, Rd)), (tk, .inr (9, K)), (ln, .inr (3, N)), (fo, .inl (k.2.1, 3, .inl g4)), (ea, .inr (1, E)), (nw, .inl (k.2.1, 10, .inl f1)), (kp, .inl (k.2.1, 410, .inl f2)), (bx, .inl (k.2.1, 30, .inl f3)), (si, .inr (8, Z)), (ytp, .inl (k.2.1, 1600, .inl ym1)), (yns, .inl (k.2.1, 3, .inl ym2)), (yss, .inl (k.2.1, 3, .inl ym3)), (ynw, .inl (k.2.1, 16, .inl ym4)), (ywe, .inl (k.2.1, 640, .inl ym5)), (yhbx, .inl (k.2.2.2, 3, .inl ym6)), (ybx, .inl (k.2.1, 48, .inl ym7)), (x, .inr (11, F)), (y, .inr (12, yM))] := hD
    refine W.widen (k := 119) (n := 46443) (Nat.le_of_ble_eq_true rfl) (Nat.le_of_ble_eq_true rfl) ?_
    have hw9 := hw.symm; subst hw9
    refine lv_icmp_eq (tgt := 1645) hx hb dL_law_908 (by decide) (fun c_19 => ?_) (fun c_19 => ?_)
    · have c_19 : ((nI (bgN n0 n1 n2 n3)) : Int32) = (nI (bgN n0 n1 n2 n3)) := c_19
      exact law_tail rfl C0 hKX hA hA2 hbA hS (lv_sub hl [0, 1, 2, 3] rfl)
    · exact absurd rfl c_19
  have hbad := hv
  refine lv_aload_n hx hb dL_law_860 rfl (lv_at hl 1 rfl) ?_
  refine lv_aload_n hx hb dL_law_861 rfl (lv_at hl 0 rfl) ?_
  refine lv_iload_n hx hb dL_law_862 rfl (lv_at hl 3 rfl) ?_
  refine lv_iconst (v := 1) hx hb dL_law_863 (by decide) ?_
  refine lv_iadd hx hb dL_law_864 ?_
  refine lv_topi (fun y_20 ey_20 => ?_)
  obtain rfl : y_20 = 1 := ey_20.trans (by decide)
  refine va_sld hx hb hX hbl hbA hS hin1 dL_law_865 ?_
  refine lv_topi (fun y_21 ey_21 => ?_)
  rw [show y_21 = p0 from ey_21.trans hp0.symm]
  refine lv_aload_n hx hb dL_law_866 rfl (lv_at hl 0 rfl) ?_
  refine lv_iload_n hx hb dL_law_867 rfl (lv_at hl 3 rfl) ?_
  refine lv_iconst (v := 2) hx hb dL_law_868 (by decide) ?_
  refine lv_iadd hx hb dL_law_869 ?_
  refine lv_topi (fun y_22 ey_22 => ?_)
  obtain rfl : y_22 = 2 := ey_22.trans (by decide)
  refine va_sld hx hb hX hbl hbA hS hin2 dL_law_870 ?_
  refine lv_topi (fun y_23 ey_23 => ?_)
  rw [show y_23 = p1 from ey_23.trans hp1.symm]
  refine lv_aload_n hx hb dL_law_871 rfl (lv_at hl 0 rfl) ?_
  refine lv_iload_n hx hb dL_law_872 rfl (lv_at hl 3 rfl) ?_
  refine lv_iconst (v := 3) hx hb dL_law_873 (by decide) ?_
  refine lv_iadd hx hb dL_law_874 ?_
  refine lv_topi (fun y_24 ey_24 => ?_)
  obtain rfl : y_24 = 3 := ey_24.trans (by decide)
  refine va_sld hx hb hX hbl hbA hS hin3 dL_law_875 ?_
  refine lv_topi (fun y_25 ey_25 => ?_)
  rw [show y_25 = p2 from ey_25.trans hp2.symm]
  refine lv_aload_n hx hb dL_law_876 rfl (lv_at hl 0 rfl) ?_
  refine lv_iload_n hx hb dL_law_877 rfl (lv_at hl 3 rfl) ?_
  refine lv_iconst (v := 4) hx hb dL_law_878 (by decide) ?_
  refine lv_iadd hx hb dL_law_879 ?_
  refine lv_topi (fun y_26 ey_26 => ?_)
  obtain rfl : y_26 = 4 := ey_26.trans (by decide)
  refine va_sld hx hb hX hbl hbA hS hin4 dL_law_880 ?_
  refine lv_topi (fun y_27 ey_27 => ?_)
  rw [show y_27 = p3 from ey_27.trans hp3.symm]
  have hPc := hP.sub (ws' := [(x, .inr (11, F))]) [0] rfl
  have hDc := hD.sub (ws' := [(x, .inr (11, F))]) [0] (by decide) rfl
  have hFc := va_free (wc := [(x, .inr (11, F))]) hD hS hA [0] rfl
  refine va_calli (va_runV (As := [.int p0, .int p1, .int p2, .int p3]) (rest := []) ⟨hx, hb, hml, hown, hts⟩ (c_X11_begin_bad l D k H.size x p0 p1 p2 p3 F hbad) (cwV 4 hts (gd_V hgd m1072 m1073 m1074 m117 m1075) rfl rfl rfl (by decide +kernel) ⟨Nat.le_of_ble_eq_true rfl, Nat.le_of_ble_eq_true rfl⟩) (cP_V hPc hKX hDc (ci := 11) (q0 := 0) rfl rfl) rfl rfl hl.1 rfl (lv_room (Nat.le_of_ble_eq_true rfl)) dL_law_881 ⟨Nat.le_of_ble_eq_true rfl, Nat.le_of_ble_eq_true rfl⟩) hS (fun q _ h => hFc q h) hFc (fun r_28 u t H1 locs ht hvm hw hB hz1 hk1 hS => ?_)
  obtain ⟨hP1, hD1⟩ := hB
  rw [ht] at hP1
  obtain ⟨hP, hD⟩ := va_join (wr := [(pv, .inr (6, P)), (sl, .inl (k.2.1, 3, .inl g1)), (sp, .inr (6, P2)), (sl2, .inl (k.2.1, 3, .inl g2)), (tp, .inl (k.1, 1600, .inl g3)), (rd, .inr (7, Rd)), (tk, .inr (9, K)), (ln, .inr (3, N)), (fo, .inl (k.2.1, 3, .inl g4)), (ea, .inr (1, E)), (nw, .inl (k.2.1, 10, .inl f1)), (kp, .inl (k.2.1, 410, .inl f2)), (bx, .inl (k.2.1, 30, .inl f3)), (si, .inr (8, Z)), (y, .inr (12, yM)), (ytp, .inl (k.2.1, 1600, .inl ym1)), (yns, .inl (k.2.1, 3, .inl ym2)), (yss, .inl (k.2.1, 3, .inl ym3)), (ynw, .inl (k.2.1, 16, .inl ym4)), (ywe, .inl (k.2.1, 640, .inl ym5)), (yhbx, .inl (k.2.2.2, 3, .inl ym6)), (ybx, .inl (k.2.1, 48, .inl ym7))]) (w1 := [(x, .inr (11, F))]) hP hD [0] [1, 2, 3, 4, 5, 6, 7, 8, 9, 10, 11, 12, 13, 14, 15, 16, 17, 18, 19, 20, 21, 22] rfl rfl (by decide) (by decide) hk1 hFc hP1 hD1
  generalize H1 = H at hP hS ⊢
  have hP : va_P D classes [(pv, .inr (6, P)), (sl, .inl (k.2.1, 3, .inl g1)), (sp, .inr (6, P2)), (sl2, .inl (k.2.1, 3, .inl g2)), (tp, .inl (k.1, 1600, .inl g3)), (rd, .inr (7, Rd)), (tk, .inr (9, K)), (ln, .inr (3, N)), (fo, .inl (k.2.1, 3, .inl g4)), (ea, .inr (1, E)), (nw, .inl (k.2.1, 10, .inl f1)), (kp, .inl (k.2.1, 410, .inl f2)), (bx, .inl (k.2.1, 30, .inl f3)), (si, .inr (8, Z)), (y, .inr (12, yM)), (ytp, .inl (k.2.1, 1600, .inl ym1)), (yns, .inl (k.2.1, 3, .inl ym2)), (yss, .inl (k.2.1, 3, .inl ym3)), (ynw, .inl (k.2.1, 16, .inl ym4)), (ywe, .inl (k.2.1, 640, .inl ym5)), (yhbx, .inl (k.2.2.2, 3, .inl ym6)), (ybx, .inl (k.2.1, 48, .inl ym7)), (x, .inr (11, F))] H := hP
  have hD : va_D A [(pv, .inr (6, P)), (sl, .inl (k.2.1, 3, .inl g1)), (sp, .inr (6, P2)), (sl2, .inl (k.2.1, 3, .inl g2)), (tp, .inl (k.1, 1600, .inl g3)), (rd, .inr (7, Rd)), (tk, .inr (9, K)), (ln, .inr (3, N)), (fo, .inl (k.2.1, 3, .inl g4)), (ea, .inr (1, E)), (nw, .inl (k.2.1, 10, .inl f1)), (kp, .inl (k.2.1, 410, .inl f2)), (bx, .inl (k.2.1, 30, .inl f3)), (si, .inr (8, Z)), (y, .inr (12, yM)), (ytp, .inl (k.2.1, 1600, .inl ym1)), (yns, .inl (k.2.1, 3, .inl ym2)), (yss, .inl (k.2.1, 3, .inl ym3)), (ynw, .inl (k.2.1, 16, .inl ym4)), (ywe, .inl (k.2.1, 640, .inl ym5)), (yhbx, .inl (k.2.2.2, 3, .inl ym6)), (ybx, .inl (k.2.1, 48, .inl ym7)), (x, .inr (11, F))] := hD
  refine W.widen (k := 119) (n := 46443) (Nat.le_of_ble_eq_true rfl) (Nat.le_of_ble_eq_true rfl) ?_
  have hw9 := hw.symm; subst hw9
  refine lv_aload_n hx hb dL_law_884 rfl (lv_at hl 2 rfl) ?_
  refine lv_aload_n hx hb dL_law_885 rfl (lv_at hl 0 rfl) ?_
  refine lv_iload_n hx hb dL_law_886 rfl (lv_at hl 3 rfl) ?_
  refine lv_iconst (v := 1) hx hb dL_law_887 (by decide) ?_
  refine lv_iadd hx hb dL_law_888 ?_
  refine lv_topi (fun y_29 ey_29 => ?_)
  obtain rfl : y_29 = 1 := ey_29.trans (by decide)
  refine va_sld hx hb hX hbl hbA hS hin1 dL_law_889 ?_
  refine lv_topi (fun y_30 ey_30 => ?_)
  rw [show y_30 = p0 from ey_30.trans hp0.symm]
  refine lv_aload_n hx hb dL_law_890 rfl (lv_at hl 0 rfl) ?_
  refine lv_iload_n hx hb dL_law_891 rfl (lv_at hl 3 rfl) ?_
  refine lv_iconst (v := 2) hx hb dL_law_892 (by decide) ?_
  refine lv_iadd hx hb dL_law_893 ?_
  refine lv_topi (fun y_31 ey_31 => ?_)
  obtain rfl : y_31 = 2 := ey_31.trans (by decide)
  refine va_sld hx hb hX hbl hbA hS hin2 dL_law_894 ?_
  refine lv_topi (fun y_32 ey_32 => ?_)
  rw [show y_32 = p1 from ey_32.trans hp1.symm]
  refine lv_aload_n hx hb dL_law_895 rfl (lv_at hl 0 rfl) ?_
  refine lv_iload_n hx hb dL_law_896 rfl (lv_at hl 3 rfl) ?_
  refine lv_iconst (v := 3) hx hb dL_law_897 (by decide) ?_
  refine lv_iadd hx hb dL_law_898 ?_
  refine lv_topi (fun y_33 ey_33 => ?_)
  obtain rfl : y_33 = 3 := ey_33.trans (by decide)
  refine va_sld hx hb hX hbl hbA hS hin3 dL_law_899 ?_
  refine lv_topi (fun y_34 ey_34 => ?_)
  rw [show y_34 = p2 from ey_34.trans hp2.symm]
  refine lv_aload_n hx hb dL_law_900 rfl (lv_at hl 0 rfl) ?_
  refine lv_iload_n hx hb dL_law_901 rfl (lv_at hl 3 rfl) ?_
  refine lv_iconst (v := 4) hx hb dL_law_902 (by decide) ?_
  refine lv_iadd hx hb dL_law_903 ?_
  refine lv_topi (fun y_35 ey_35 => ?_)
  obtain rfl : y_35 = 4 := ey_35.trans (by decide)
  refine va_sld hx hb hX hbl hbA hS hin4 dL_law_904 ?_
  refine lv_topi (fun y_36 ey_36 => ?_)
  rw [show y_36 = p3 from ey_36.trans hp3.symm]
  have hPc := hP.sub (ws' := [(y, .inr (12, yM))]) [14] rfl
  have hDc := hD.sub (ws' := [(y, .inr (12, yM))]) [14] (by decide) rfl
  have hFc := va_free (wc := [(y, .inr (12, yM))]) hD hS hA [14] rfl
  refine va_calli (va_runV (As := [.int p0, .int p1, .int p2, .int p3]) (rest := [.int (-1)]) ⟨hx, hb, hml, hown, hts⟩ (c_X12_begin_bad l D k H.size y p0 p1 p2 p3 yM hbad) (cwV 4 hts (gd_V hgd m1916 m1917 m1918 m131 m1919) rfl rfl rfl (by decide +kernel) ⟨Nat.le_of_ble_eq_true rfl, Nat.le_of_ble_eq_true rfl⟩) (cP_V hPc hKX hDc (ci := 12) (q0 := 0) rfl rfl) rfl rfl hl.1 rfl (lv_room (Nat.le_of_ble_eq_true rfl)) dL_law_905 ⟨Nat.le_of_ble_eq_true rfl, Nat.le_of_ble_eq_true rfl⟩) hS (fun q _ h => hFc q h) hFc (fun r_37 u t H1 locs ht hvm hw hB hz1 hk1 hS => ?_)
  obtain ⟨hP1, hD1⟩ := hB
  rw [ht] at hP1
  obtain ⟨hP, hD⟩ := va_join (wr := [(pv, .inr (6, P)), (sl, .inl (k.2.1, 3, .inl g1)), (sp, .inr (6, P2)), (sl2, .inl (k.2.1, 3, .inl g2)), (tp, .inl (k.1, 1600, .inl g3)), (rd, .inr (7, Rd)), (tk, .inr (9, K)), (ln, .inr (3, N)), (fo, .inl (k.2.1, 3, .inl g4)), (ea, .inr (1, E)), (nw, .inl (k.2.1, 10, .inl f1)), (kp, .inl (k.2.1, 410, .inl f2)), (bx, .inl (k.2.1, 30, .inl f3)), (si, .inr (8, Z)), (ytp, .inl (k.2.1, 1600, .inl ym1)), (yns, .inl (k.2.1, 3, .inl ym2)), (yss, .inl (k.2.1, 3, .inl ym3)), (ynw, .inl (k.2.1, 16, .inl ym4)), (ywe, .inl (k.2.1, 640, .inl ym5)), (yhbx, .inl (k.2.2.2, 3, .inl ym6)), (ybx, .inl (k.2.1, 48, .inl ym7)), (x, .inr (11, F))]) (w1 := [(y, .inr (12, yM))]) hP hD [14] [0, 1, 2, 3, 4, 5, 6, 7, 8, 9, 10, 11, 12, 13, 15, 16, 17, 18, 19, 20, 21, 22] rfl rfl (by decide) (by decide) hk1 hFc hP1 hD1
  generalize H1 = H at hP hS ⊢
  have hP : va_P D classes [(pv, .inr (6, P)), (sl, .inl (k.2.1, 3, .inl g1)), (sp, .inr (6, P2)), (sl2, .inl (k.2.1, 3, .inl g2)), (tp, .inl (k.1, 1600, .inl g3)), (rd, .inr (7, Rd)), (tk, .inr (9, K)), (ln, .inr (3, N)), (fo, .inl (k.2.1, 3, .inl g4)), (ea, .inr (1, E)), (nw, .inl (k.2.1, 10, .inl f1)), (kp, .inl (k.2.1, 410, .inl f2)), (bx, .inl (k.2.1, 30, .inl f3)), (si, .inr (8, Z)), (ytp, .inl (k.2.1, 1600, .inl ym1)), (yns, .inl (k.2.1, 3, .inl ym2)), (yss, .inl (k.2.1, 3, .inl ym3)), (ynw, .inl (k.2.1, 16, .inl ym4)), (ywe, .inl (k.2.1, 640, .inl ym5)), (yhbx, .inl (k.2.2.2, 3, .inl ym6)), (ybx, .inl (k.2.1, 48, .inl ym7)), (x, .inr (11, F)), (y, .inr (12, yM))] H := hP
  have hD : va_D A [(pv, .inr (6, P)), (sl, .inl (k.2.1, 3, .inl g1)), (sp, .inr (6, P2)), (sl2, .inl (k.2.1, 3, .inl g2)), (tp, .inl (k.1, 1600, .inl g3)), (rd, .inr (7, Rd)), (tk, .inr (9, K)), (ln, .inr (3, N)), (fo, .inl (k.2.1, 3, .inl g4)), (ea, .inr (1, E)), (nw, .inl (k.2.1, 10, .inl f1)), (kp, .inl (k.2.1, 410, .inl f2)), (bx, .inl (k.2.1, 30, .inl f3)), (si, .inr (8, Z)), (ytp, .inl (k.2.1, 1600, .inl ym1)), (yns, .inl (k.2.1, 3, .inl ym2)), (yss, .inl (k.2.1, 3, .inl ym3)), (ynw, .inl (k.2.1, 16, .inl ym4)), (ywe, .inl (k.2.1, 640, .inl ym5)), (yhbx, .inl (k.2.2.2, 3, .inl ym6)), (ybx, .inl (k.2.1, 48, .inl ym7)), (x, .inr (11, F)), (y, .inr (12, yM))] := hD
  refine W.widen (k := 119) (n := 46443) (Nat.le_of_ble_eq_true rfl) (Nat.le_of_ble_eq_true rfl) ?_
  have hw9 := hw.symm; subst hw9
  refine lv_icmp_eq (tgt := 1645) hx hb dL_law_908 (by decide) (fun c_38 => ?_) (fun c_38 => ?_)
  · have c_38 : ((-1) : Int32) = (-1) := c_38
    exact law_tail rfl C0 hKX hA hA2 hbA hS (lv_sub hl [0, 1, 2, 3] rfl)
  · exact absurd rfl c_38
