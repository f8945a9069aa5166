set_option maxHeartbeats 4000000 in
set_option maxRecDepth 100000 in
theorem law_16 {p : Program} {l : Launch} {e : Env} {s : State} {m : MethodId} {below : List Frame} {meth : Method} {c : Code} {D : va_G} {k : ClassId × ClassId × ClassId × ClassId} {A : Nat → Prop} {b L : Nat} {xs : Nat → Int32} (hL : L = 6) (C0 : lw_At p s m meth c b L xs) (hKX : va_K D classes (TY k) s ∧ cX s) (hA : ∀ q : Nat, s.heap.size ≤ q → A q) (hA2 : ∀ q : Nat, A q → s.heap.size ≤ q) (hbA : ¬ A b) {x y : Nat} {H : Heap} {locs : List Loc} (hF : Fresh D k A x y H) (hS : va_S A s.heap H locs) {ls : Array Slot} (hl : lv_has ls 4 [(0, .ref b), (1, .ref x), (2, .ref y), (3, .int 0)]) : W p l e room_1 s m #[Value.ref b] below meth c H locs 119 46443 (lw_Z below #[Value.ref b] s) (F0 m 913 ls []) := by
  obtain ⟨hx, hb, hr, hml, hown, hts, hX, hbl, hlocks, hgv⟩ := id C0
  have hown : s.vm.findClass RL = some m.cls := hown
  have hK := hKX.1
  have hgd : ∀ w ∈ gd, w ∈ lw_tbl := fun w h => (List.mem_filter.mp h).1
  have hg : ∀ w ∈ gd, w.before #[Value.ref b] s = true := fun w h => hts w (hgd w h)
  subst hL
  obtain ⟨F, pv, P, sl, g1, sp, P2, sl2, g2, tp, g3, rd, Rd, tk, K, ln, N, fo, g4, ea, E, nw, f1, kp, f2, bx, f3, si, Z, yM, ytp, ym1, yns, ym2, yss, ym3, ynw, ym4, ywe, ym5, yhbx, ym6, ybx, ym7, hf_0, hf_1, hf_2, hf_3, hf_4, hf_6, hf_7, hf_8, hf_10, hf_11, hf_14, hf_15, hf_18, hf_19, hf_21, hP, hD⟩ := hF
  have hin1 : vp_in 1 6 := (show ¬ ((1 : Int32) < 0 ∨ 6 ≤ (1 : Int32).toNatClampNeg) from by decide)
  have hin2 : vp_in 2 6 := (show ¬ ((2 : Int32) < 0 ∨ 6 ≤ (2 : Int32).toNatClampNeg) from by decide)
  have hin3 : vp_in 3 6 := (show ¬ ((3 : Int32) < 0 ∨ 6 ≤ (3 : Int32).toNatClampNeg) from by decide)
  have hin4 : vp_in 4 6 := (show ¬ ((4 : Int32) < 0 ∨ 6 ≤ (4 : Int32).toNatClampNeg) from by decide)
  have hin5 : vp_in 5 6 := (show ¬ ((5 : Int32) < 0 ∨ 6 ≤ (5 : Int32).toNatClampNeg) from by decide)
  obtain ⟨p0, hp0⟩ : ∃ z, z = xs 1 := ⟨_, rfl⟩
  obtain ⟨p1, hp1⟩ : ∃ z, z = xs 2 := ⟨_, rfl⟩
  obtain ⟨p2, hp2⟩ : ∃ z, z = xs 3 := ⟨_, rfl⟩
  obtain ⟨p3, hp3⟩ : ∃ z, z = xs 4 := ⟨_, rfl⟩
  obtain ⟨p4, hp4⟩ : ∃ z, z = xs 5 := ⟨_, rfl⟩
  by_cases hv : ¬ s_endless p0 p1 p4 = 0 ∧ ¬ s_endless p2 p3 p4 = 0
  · skip
    obtain ⟨n0, n1, n4, hn, e0, e1, e4⟩ := endless_nats hv.1
    obtain ⟨n2, n3, n5, hn2, e2, e3, e5⟩ := endless_nats hv.2
    subst e0 e1 e2 e3 e4
    have hn3 : n4 = n5 := (nI_eq (by omega) (by omega)).mp e5
    refine lv_aload_n hx hb dL_law_913 rfl (lv_at hl 1 rfl) ?_
    refine lv_aload_n hx hb dL_law_914 rfl (lv_at hl 0 rfl) ?_
    refine lv_iload_n hx hb dL_law_915 rfl (lv_at hl 3 rfl) ?_
    refine lv_iconst (v := 1) hx hb dL_law_916 (by decide) ?_
    refine lv_iadd hx hb dL_law_917 ?_
    refine lv_topi (fun y_1 ey_1 => ?_)
    obtain rfl : y_1 = 1 := ey_1.trans (by decide)
    refine va_sld hx hb hX hbl hbA hS hin1 dL_law_918 ?_
    refine lv_topi (fun y_2 ey_2 => ?_)
    rw [show y_2 = (nI n0) from ey_2.trans hp0.symm]
    refine lv_aload_n hx hb dL_law_919 rfl (lv_at hl 0 rfl) ?_
    refine lv_iload_n hx hb dL_law_920 rfl (lv_at hl 3 rfl) ?_
    refine lv_iconst (v := 2) hx hb dL_law_921 (by decide) ?_
    refine lv_iadd hx hb dL_law_922 ?_
    refine lv_topi (fun y_3 ey_3 => ?_)
    obtain rfl : y_3 = 2 := ey_3.trans (by decide)
    refine va_sld hx hb hX hbl hbA hS hin2 dL_law_923 ?_
    refine lv_topi (fun y_4 ey_4 => ?_)
    rw [show y_4 = (nI n1) from ey_4.trans hp1.symm]
    refine lv_aload_n hx hb dL_law_924 rfl (lv_at hl 0 rfl) ?_
    refine lv_iload_n hx hb dL_law_925 rfl (lv_at hl 3 rfl) ?_
    refine lv_iconst (v := 3) hx hb dL_law_926 (by decide) ?_
    refine lv_iadd hx hb dL_law_927 ?_
    refine lv_topi (fun y_5 ey_5 => ?_)
    obtain rfl : y_5 = 3 := ey_5.trans (by decide)
    refine va_sld hx hb hX hbl hbA hS hin3 dL_law_928 ?_
    refine lv_topi (fun y_6 ey_6 => ?_)
    rw [show y_6 = (nI n2) from ey_6.trans hp2.symm]
    refine lv_aload_n hx hb dL_law_929 rfl (lv_at hl 0 rfl) ?_
    refine lv_iload_n hx hb dL_law_930 rfl (lv_at hl 3 rfl) ?_
    refine lv_iconst (v := 4) hx hb dL_law_931 (by decide) ?_
    refine lv_iadd hx hb dL_law_932 ?_
    refine lv_topi (fun y_7 ey_7 => ?_)
    obtain rfl : y_7 = 4 := ey_7.trans (by decide)
    refine va_sld hx hb hX hbl hbA hS hin4 dL_law_933 ?_
    refine lv_topi (fun y_8 ey_8 => ?_)
    rw [show y_8 = (nI n3) from ey_8.trans hp3.symm]
    refine lv_aload_n hx hb dL_law_934 rfl (lv_at hl 0 rfl) ?_
    refine lv_iload_n hx hb dL_law_935 rfl (lv_at hl 3 rfl) ?_
    refine lv_iconst (v := 5) hx hb dL_law_936 (by decide) ?_
    refine lv_iadd hx hb dL_law_937 ?_
    refine lv_topi (fun y_9 ey_9 => ?_)
    obtain rfl : y_9 = 5 := ey_9.trans (by decide)
    refine va_sld hx hb hX hbl hbA hS hin5 dL_law_938 ?_
    refine lv_topi (fun y_10 ey_10 => ?_)
    rw [show y_10 = (nI n4) from ey_10.trans hp4.symm]
    have hPc := hP.sub (ws' := [(x, .inr (11, F))]) [0] rfl
    have hDc := hD.sub (ws' := [(x, .inr (11, F))]) [0] (by decide) rfl
    have hFc := va_free (wc := [(x, .inr (11, F))]) hD hS hA [0] rfl
    refine va_calll (va_runV (As := [.int (nI n0), .int (nI n1), .int (nI n2), .int (nI n3), .int (nI n4)]) (rest := []) ⟨hx, hb, hml, hown, hts⟩ (c_X11_suits_ok l D k H.size x n0 n1 n2 n3 n4 F (by omega) (by omega) (by omega) (by omega) (by omega) (by omega) (by omega) (by omega)) (cwV 5 hts (gd_V hgd m1083 m1084 m1085 m117 m1086) rfl rfl rfl (by decide +kernel) ⟨Nat.le_of_ble_eq_true rfl, Nat.le_of_ble_eq_true rfl⟩) (cP_V hPc hKX hDc (ci := 11) (q0 := 0) rfl rfl) rfl rfl hl.1 rfl (lv_room (Nat.le_of_ble_eq_true rfl)) dL_law_939 ⟨Nat.le_of_ble_eq_true rfl, Nat.le_of_ble_eq_true rfl⟩) hS (fun q _ h => hFc q h) hFc (fun r_11 u t H1 locs ht hvm hw hB hz1 hk1 hS => ?_)
    obtain ⟨hP1, hD1⟩ := hB
    rw [ht] at hP1
    obtain ⟨hP, hD⟩ := va_join (wr := [(pv, .inr (6, P)), (sl, .inl (k.2.1, 3, .inl g1)), (sp, .inr (6, P2)), (sl2, .inl (k.2.1, 3, .inl g2)), (tp, .inl (k.1, 1600, .inl g3)), (rd, .inr (7, Rd)), (tk, .inr (9, K)), (ln, .inr (3, N)), (fo, .inl (k.2.1, 3, .inl g4)), (ea, .inr (1, E)), (nw, .inl (k.2.1, 10, .inl f1)), (kp, .inl (k.2.1, 410, .inl f2)), (bx, .inl (k.2.1, 30, .inl f3)), (si, .inr (8, Z)), (y, .inr (12, yM)), (ytp, .inl (k.2.1, 1600, .inl ym1)), (yns, .inl (k.2.1, 3, .inl ym2)), (yss, .inl (k.2.1, 3, .inl ym3)), (ynw, .inl (k.2.1, 16, .inl ym4)), (ywe, .inl (k.2.1, 640, .inl ym5)), (yhbx, .inl (k.2.2.2, 3, .inl ym6)), (ybx, .inl (k.2.1, 48, .inl ym7))]) (w1 := [(x, .inr (11, F))]) hP hD [0] [1, 2, 3, 4, 5, 6, 7, 8, 9, 10, 11, 12, 13, 14, 15, 16, 17, 18, 19, 20, 21, 22] rfl rfl (by decide) (by decide) hk1 hFc hP1 hD1
    generalize H1 = H at hP hS ⊢
    have hP : va_P D classes [(pv, .inr (6, P)), (sl, .inl (k.2.1, 3, .inl g1)), (sp, .inr (6, P2)), (sl2, .inl (k.2.1, 3, .inl g2)), (tp, .inl (k.1, 1600, .inl g3)), (rd, .inr (7, Rd)), (tk, .inr (9, K)), (ln, .inr (3, N)), (fo, .inl (k.2.1, 3, .inl g4)), (ea, .inr (1, E)), (nw, .inl (k.2.1, 10, .inl f1)), (kp, .inl (k.2.1, 410, .inl f2)), (bx, .inl (k.2.1, 30, .inl f3)), (si, .inr (8, Z)), (y, .inr (12, yM)), (ytp, .inl (k.2.1, 1600, .inl ym1)), (yns, .inl (k.2.1, 3, .inl ym2)), (yss, .inl (k.2.1, 3, .inl ym3)), (ynw, .inl (k.2.1, 16, .inl ym4)), (ywe, .inl (k.2.1, 640, .inl ym5)), (yhbx, .inl (k.2.2.2, 3, .inl ym6)), (ybx, .inl (k.2.1, 48, .inl ym7)), (x, .inr (11, F))] H := hP
    have hD : va_D A [(pv, .inr (6, P)), (sl, .inl (k.2.1, 3, .inl g1)), (sp, .inr (6, P2)), (sl2, .inl (k.2.1, 3, .inl g2)), (tp, .inl (k.1, 1600, .inl g3)), (rd, .inr (7, Rd)), (tk, .inr (9, K)), (ln, .inr (3, N)), (fo, .inl (k.2.1, 3, .inl g4)), (ea, .inr (1, E)), (nw, .inl (k.2.1, 10, .inl f1)), (kp, .inl (k.2.1, 410, .inl f2)), (bx, .inl (k.2.1, 30, .inl f3)), (si, .inr (8, Z)), (y, .inr (12, yM)), (ytp, .inl (k.2.1, 1600, .inl ym1)), (yns, .inl (k.2.1, 3, .inl ym2)), (yss, .inl (k.2.1, 3, .inl ym3)), (ynw, .inl (k.2.1, 16, .inl ym4)), (ywe, .inl (k.2.1, 640, .inl ym5)), (yhbx, .inl (k.2.2.2, 3, .inl ym6)), (ybx, .inl (k.2.1, 48, .inl ym7)), (x, .inr (11, F))] := hD
    refine W.widen (k := 119) (n := 46443) (Nat.le_of_ble_eq_true rfl) (Nat.le_of_ble_eq_true rfl) ?_
    have hw9 := hw.symm; subst hw9
    refine lv_aload_n hx hb dL_law_942 rfl (lv_at hl 2 rfl) ?_
    refine lv_aload_n hx hb dL_law_943 rfl (lv_at hl 0 rfl) ?_
    refine lv_iload_n hx hb dL_law_944 rfl (lv_at hl 3 rfl) ?_
    refine lv_iconst (v := 1) hx hb dL_law_945 (by decide) ?_
    refine lv_iadd hx hb dL_law_946 ?_
    refine lv_topi (fun y_12 ey_12 => ?_)
    obtain rfl : y_12 = 1 := ey_12.trans (by decide)
    refine va_sld hx hb hX hbl hbA hS hin1 dL_law_947 ?_
    refine lv_topi (fun y_13 ey_13 => ?_)
    rw [show y_13 = (nI n0) from ey_13.trans hp0.symm]
    refine lv_aload_n hx hb dL_law_948 rfl (lv_at hl 0 rfl) ?_
    refine lv_iload_n hx hb dL_law_949 rfl (lv_at hl 3 rfl) ?_
    refine lv_iconst (v := 2) hx hb dL_law_950 (by decide) ?_
    refine lv_iadd hx hb dL_law_951 ?_
    refine lv_topi (fun y_14 ey_14 => ?_)
    obtain rfl : y_14 = 2 := ey_14.trans (by decide)
    refine va_sld hx hb hX hbl hbA hS hin2 dL_law_952 ?_
    refine lv_topi (fun y_15 ey_15 => ?_)
    rw [show y_15 = (nI n1) from ey_15.trans hp1.symm]
    refine lv_aload_n hx hb dL_law_953 rfl (lv_at hl 0 rfl) ?_
    refine lv_iload_n hx hb dL_law_954 rfl (lv_at hl 3 rfl) ?_
    refine lv_iconst (v := 3) hx hb dL_law_955 (by decide) ?_
    refine lv_iadd hx hb dL_law_956 ?_
    refine lv_topi (fun y_16 ey_16 => ?_)
    obtain rfl : y_16 = 3 := ey_16.trans (by decide)
    refine va_sld hx hb hX hbl hbA hS hin3 dL_law_957 ?_
    refine lv_topi (fun y_17 ey_17 => ?_)
    rw [show y_17 = (nI n2) from ey_17.trans hp2.symm]
    refine lv_aload_n hx hb dL_law_958 rfl (lv_at hl 0 rfl) ?_
    refine lv_iload_n hx hb dL_law_959 rfl (lv_at hl 3 rfl) ?_
    refine lv_iconst (v := 4) hx hb dL_law_960 (by decide) ?_
    refine lv_iadd hx hb dL_law_961 ?_
    refine lv_topi (fun y_18 ey_18 => ?_)
    obtain rfl : y_18 = 4 := ey_18.trans (by decide)
    refine va_sld hx hb hX hbl hbA hS hin4 dL_law_962 ?_
    refine lv_topi (fun y_19 ey_19 => ?_)
    rw [show y_19 = (nI n3) from ey_19.trans hp3.symm]
    refine lv_aload_n hx hb dL_law_963 rfl (lv_at hl 0 rfl) ?_
    refine lv_iload_n hx hb dL_law_964 rfl (lv_at hl 3 rfl) ?_
    refine lv_iconst (v := 5) hx hb dL_law_965 (by decide) ?_
    refine lv_iadd hx hb dL_law_966 ?_
    refine lv_topi (fun y_20 ey_20 => ?_)
    obtain rfl : y_20 = 5 := ey_20.trans (by decide)
    refine va_sld hx hb hX hbl hbA hS hin5 dL_law_967 ?_
    refine lv_topi (fun y_21 ey_21 => ?_)
    rw [show y_21 = (nI n4) from ey_21.trans hp4.symm]
    have hPc := hP.sub (ws' := [(y, .inr (12, yM))]) [14] rfl
    have hDc := hD.sub (ws' := [(y, .inr (12, yM))]) [14] (by decide) rfl
    have hFc := va_free (wc := [(y, .inr (12, yM))]) hD hS hA [14] rfl
    refine va_calll (va_runV (As := [.int (nI n0), .int (nI n1), .int (nI n2), .int (nI n3), .int (nI n4)]) (rest := [.long (suN n0 n1 n2 n3 n4 60)]) ⟨hx, hb, hml, hown, hts⟩ (c_X12_suits_ok l D k H.size y n0 n1 n2 n3 n4 yM (by omega) (by omega) (by omega) (by omega) (by omega) (by omega) (by omega) (by omega)) (cwV 5 hts (gd_V hgd m1923 m1924 m1925 m131 m1926) rfl rfl rfl (by decide +kernel) ⟨Nat.le_of_ble_eq_true rfl, Nat.le_of_ble_eq_true rfl⟩) (cP_V hPc hKX hDc (ci := 12) (q0 := 0) rfl rfl) rfl rfl hl.1 rfl (lv_room (Nat.le_of_ble_eq_true rfl)) dL_law_968 ⟨Nat.le_of_ble_eq_true rfl, Nat.le_of_ble_eq_true rfl⟩) hS (fun q _ h => hFc q h) hFc (fun r_22 u t H1 locs ht hvm hw hB hz1 hk1 hS => ?_)
    obtain ⟨hP1, hD1⟩ := hB
    rw [ht] at hP1
    obtain ⟨hP, hD⟩ := va_join (wr := [(pv, .inr (6, P)), (sl, .inl (k.2.1, 3, .inl g1)), (sp, .inr (6, P2)), (sl2, .inl (k.2.1, 3, .inl g2)), (tp, .inl (k.1, 1600, .inl g3)), (rd, .inr (7, Rd)), (tk, .inr (9, K)), (ln, .inr (3, N)), (fo, .inl (k.2.1, 3, .inl g4)), (ea, .inr (1, E)), (nw, .inl (k.2.1, 10, .inl f1)), (kp, .inl (k.2.1, 410, .inl f2)), (bx, .inl (k.2.1, 30, .inl f3)), (si, .inr (8, Z)), (ytp, .inl (k.2.1, 1600, .inl ym1)), (yns, .inl (k.2.1, 3, .inl ym2)), (yss, .inl (k.2.1, 3, .inl ym3)), (ynw, .inl (k.2.1, 16, .inl ym4)), (ywe, .inl (k.2.1, 640, .inl ym5)), (yhbx, .inl (k.2.2.2, 3, .inl ym6)), (ybx, .inl (k.2.1, 48, .inl ym7)), (x, .inr (11, F))]) (w1 := [(y, .inr (12, yM))]) hP hD [14] [0, 1, 2, 3, 4, 5, 6, 7, 8, 9, 10, 11, 12, 13, 15, 16, 17, 18, 19, 20, 21, 22] rfl rfl (by decide) (by decide) hk1 hFc hP1 hD1
    generalize H1 = H at hP hS ⊢
    have hP : va_P D classes [(pv, .inr (6, P)), (sl, .inl (k.2.1, 3, .inl g1)), (sp, .inr (6, P2)), (sl2, .inl (k.2.1, 3, .inl g2)), (tp, .inl (k.1, 1600, .inl g3)), (rd, .inr (7, Rd)), (tk, .inr (9, K)), (ln, .inr (3, N)), (fo, .inl (k.2.1, 3, .inl g4)), (ea, .inr (1, E)), (nw, .inl (k.2.1, 10, .inl f1)), (kp, .inl (k.2.1, 410, .inl f2)), (bx, .inl (k.2.1, 30, .inl f3)), (si, .inr (8, Z)), (ytp, .inl (k.2.1, 1600, .inl ym1)), (yns, .inl (k.2.1, 3, .inl ym2)), (yss, .inl (k.2.1, 3, .inl ym3)), (ynw, .inl (k.2.1, 16, .inl ym4)), (ywe, .inl (k.2.1, 640, .inl ym5)), (yhbx, .inl (k.2.2.2, 3, .inl ym6)), (ybx, .inl (k.2.1, 48, .inl ym7)), (x, .inr (11, F)), (y, .inr (12, yM))] H := hP
    have hD : va_D A [(pv, .inr (6, P)), (sl, .inl (k.2.1, 3, .inl g1)), (sp, .inr (6, P2)), (sl2, .inl (k.2.1, 3, .inl g2)), (tp, .inl (k.1, 1600, .inl g3)), (rd, .inr (7, Rd)), (tk, .inr (9, K)), (ln, .inr (3, N)), (fo, .inl (k.2.1, 3, .inl g4)), (ea, .inr (1, E)), (nw, .inl (k.2.1, 10, .inl f1)), (kp, .inl (k.2.1, 410, .inl f2)), (bx, .inl (k.2.1, 30, .inl f3)), (si, .inr (8, Z)), (ytp, .inl (k.2.1, 1600, .inl ym1)), (yns, .inl (k.2.1, 3, .inl ym2)), (yss, .inl (k.2.1, 3, .inl ym3)), (ynw, .inl (k.2.1, 16, .inl ym4)), (ywe, .inl (k.2.1, 640, .inl ym5)), (yhbx, .inl (k.2.2.2, 3, .inl ym6)), (ybx, .inl (k.2.1, 48, .inl ym7)), (x, .inr (11, F)), (y, .inr (12, yM))] := hD
    refine W.widen (k := 119) (n := 46443) (Nat.le_of_ble_eq_true rfl) (Nat.le_of_ble_eq_true rfl) ?_
    have hw9 := hw.symm; subst hw9
    refine W.lcmp hx hb dL_law_971 ?_
    refine lv_if_eq (tgt := 1645) hx hb dL_law_972 (by decide) (fun c_23 => ?_) (fun c_23 => ?_)
    · have c_23 : ((lg_cmp (suN n0 n1 n2 n3 n4 60) (suN n0 n1 n2 n3 n4 60)) : Int32) = 0 := c_23
      exact law_tail rfl C0 hKX hA hA2 hbA hS (lv_sub hl [0, 1, 2, 3] rfl)
    · exact absurd (lg_same rfl) c_23
  have hbad := hv
  refine lv_aload_n hx hb dL_law_913 rfl (lv_at hl 1 rfl) ?_
  refine lv_aload_n hx hb dL_law_914 rfl (lv_at hl 0 rfl) ?_
  refine lv_iload_n hx hb dL_law_915 rfl (lv_at hl 3 rfl) ?_
  refine lv_iconst (v := 1) hx hb dL_law_916 (by decide) ?_
  refine lv_iadd hx hb dL_law_917 ?_
  refine lv_topi (fun y_24 ey_24 => ?_)
  obtain rfl : y_24 = 1 := ey_24.trans (by decide)
  refine va_sld hx hb hX hbl hbA hS hin1 dL_law_918 ?_
  refine lv_topi (fun y_25 ey_25 => ?_)
  rw [show y_25 = p0 from ey_25.trans hp0.symm]
  refine lv_aload_n hx hb dL_law_919 rfl (lv_at hl 0 rfl) ?_
  refine lv_iload_n hx hb dL_law_920 rfl (lv_at hl 3 rfl) ?_
  refine lv_iconst (v := 2) hx hb dL_law_921 (by decide) ?_
  refine lv_iadd hx hb dL_law_922 ?_
  refine lv_topi (fun y_26 ey_26 => ?_)
  obtain rfl : y_26 = 2 := ey_26.trans (by decide)
  refine va_sld hx hb hX hbl hbA hS hin2 dL_law_923 ?_
  refine lv_topi (fun y_27 ey_27 => ?_)
  rw [show y_27 = p1 from ey_27.trans hp1.symm]
  refine lv_aload_n hx hb dL_law_924 rfl (lv_at hl 0 rfl) ?_
  refine lv_iload_n hx hb dL_law_925 rfl (lv_at hl 3 rfl) ?_
  refine lv_iconst (v := 3) hx hb dL_law_926 (by decide) ?_
  refine lv_iadd hx hb dL_law_927 ?_
  refine lv_topi (fun y_28 ey_28 => ?_)
  obtain rfl : y_28 = 3 := ey_28.trans (by decide)
  refine va_sld hx hb hX hbl hbA hS hin3 dL_law_928 ?_
  refine lv_topi (fun y_29 ey_29 => ?_)
  rw [show y_29 = p2 from ey_29.trans hp2.symm]
  refine lv_aload_n hx hb dL_law_929 rfl (lv_at hl 0 rfl) ?_
  refine lv_iload_n hx hb dL_law_930 rfl (lv_at hl 3 rfl) ?_
  refine lv_iconst (v := 4) hx hb dL_law_931 (by decide) ?_
  refine lv_iadd hx hb dL_law_932 ?_
  refine lv_topi (fun y_30 ey_30 => ?_)
  obtain rfl : y_30 = 4 := ey_30.trans (by decide)
  refine va_sld hx hb hX hbl hbA hS hin4 dL_law_933 ?_
  refine lv_topi (fun y_31 ey_31 => ?_)
  rw [show y_31 = p3 from ey_31.trans hp3.symm]
  refine lv_aload_n hx hb dL_law_934 rfl (lv_at hl 0 rfl) ?_
  refine lv_iload_n hx hb dL_law_935 rfl (lv_at hl 3 rfl) ?_
  refine lv_iconst (v := 5) hx hb dL_law_936 (by decide) ?_
  refine lv_iadd hx hb dL_law_937 ?_
  refine lv_topi (fun y_32 ey_32 => ?_)
  obtain rfl : y_32 = 5 := ey_32.trans (by decide)
  refine va_sld hx hb hX hbl hbA hS hin5 dL_law_938 ?_
  refine lv_topi (fun y_33 ey_33 => ?_)
  rw [show y_33 = p4 from ey_33.trans hp4.symm]
  have hPc := hP.sub (ws' := [(x, .inr (11, F))]) [0] rfl
  have hDc := hD.sub (ws' := [(x, .inr (11, F))]) [0] (by decide) rfl
  have hFc := va_free (wc := [(x, .inr (11, F))]) hD hS hA [0] rfl
  refine va_calll (va_runV (As := [.int p0, .int p1, .int p2, .int p3, .int p4]) (rest := []) ⟨hx, hb, hml, hown, hts⟩ (c_X11_suits_bad l D k H.size x p0 p1 p2 p3 p4 F hbad) (cwV 5 hts (gd_V hgd m1083 m1084 m1085 m117 m1086) rfl rfl rfl (by decide +kernel) ⟨Nat.le_of_ble_eq_true rfl, Nat.le_of_ble_eq_true rfl⟩) (cP_V hPc hKX hDc (ci := 11) (q0 := 0) rfl rfl) rfl rfl hl.1 rfl (lv_room (Nat.le_of_ble_eq_true rfl)) dL_law_939 ⟨Nat.le_of_ble_eq_true rfl, Nat.le_of_ble_eq_true rfl⟩) hS (fun q _ h => hFc q h) hFc (fun r_34 u t H1 locs ht hvm hw hB hz1 hk1 hS => ?_)
  obtain ⟨hP1, hD1⟩ := hB
  rw [ht] at hP1
  obtain ⟨hP, hD⟩ := va_join (wr := [(pv, .inr (6, P)), (sl, .inl (k.2.1, 3, .inl g1)), (sp, .inr (6, P2)), (sl2, .inl (k.2.1, 3, .inl g2)), (tp, .inl (k.1, 1600, .inl g3)), (rd, .inr (7, Rd)), (tk, .inr (9, K)), (ln, .inr (3, N)), (fo, .inl (k.2.1, 3, .inl g4)), (ea, .inr (1, E)), (nw, .inl (k.2.1, 10, .inl f1)), (kp, .inl (k.2.1, 410, .inl f2)), (bx, .inl (k.2.1, 30, .inl f3)), (si, .inr (8, Z)), (y, .inr (12, yM)), (ytp, .inl (k.2.1, 1600, .inl ym1)), (yns, .inl (k.2.1, 3, .inl ym2)), (yss, .inl (k.2.1, 3, .inl ym3)), (ynw, .inl (k.2.1, 16, .inl ym4)), (ywe, .inl (k.2.1, 640, .inl ym5)), (yhbx, .inl (k.2.2.2, 3, .inl ym6)), (ybx, .inl (k.2.1, 48, .inl ym7))]) (w1 := [(x, .inr (11, F))]) hP hD [0] [1, 2, 3, 4, 5, 6, 7, 8, 9, 10, 11, 12, 13, 14, 15, 16, 17, 18, 19, 20, 21, 22] rfl rfl (by decide) (by decide) hk1 hFc hP1 hD1
  generalize H1 = H at hP hS ⊢
  have hP : va_P D classes [(pv, .inr (6, P)), (sl, .inl (k.2.1, 3, .inl g1)), (sp, .inr (6, P2)), (sl2, .inl (k.2.1, 3, .inl g2)), (tp, .inl (k.1, 1600, .inl g3)), (rd, .inr (7, Rd)), (tk, .inr (9, K)), (ln, .inr (3, N)), (fo, .inl (k.2.1, 3, .inl g4)), (ea, .inr (1, E)), (nw, .inl (k.2.1, 10, .inl f1)), (kp, .inl (k.2.1, 410, .inl f2)), (bx, .inl (k.2.1, 30, .inl f3)), (si, .inr (8, Z)), (y, .inr (12, yM)), (ytp, .inl (k.2.1, 1600, .inl ym1)), (yns, .inl (k.2.1, 3, .inl ym2)), (yss, .inl (k.2.1, 3, .inl ym3)), (ynw, .inl (k.2.1, 16, .inl ym4)), (ywe, .inl (k.2.1, 640, .inl ym5)), (yhbx, .inl (k.2.2.2, 3, .inl ym6)), (ybx, .inl (k.2.1, 48, .inl ym7)), (x, .inr (11, F))] H := hP
  have hD : va_D A [(pv, .inr (6, P)), (sl, .inl (k.2.1, 3, .inl g1)), (sp, .inr (6, P2)), (sl2, .inl (k.2.1, 3, .inl g2)), (tp, .inl (k.1, 1600, .inl g3)), (rd, .inr (7, Rd)), (tk, .inr (9, K)), (ln, .inr (3, N)), (fo, .inl (k.2.1, 3, .inl g4)), (ea, .inr (1, E)), (nw, .inl (k.2.1, 10, .inl f1)), (kp, .inl (k.2.1, 410, .inl f2)), (bx, .inl (k.2.1, 30, .inl f3)), (si, .inr (8, Z)), (y, .inr (12, yM)), (ytp, .inl (k.2.1, 1600, .inl ym1)), (yns, .inl (k.2.1, 3, .inl ym2)), (yss, .inl (k.2.1, 3, .inl ym3)), (ynw, .inl (k.2.1, 16, .inl ym4)), (ywe, .inl (k.2.1, 640, .inl ym5)), (yhbx, .inl (k.2.2.2, 3, .inl ym6)), (ybx, .inl (k.2.1, 48, .inl ym7)), (x, .inr (11, F))] := hD
  refine W.widen (k := 119) (n := 46443) (Nat.le_of_ble_eq_true rfl) (Nat.le_of_ble_eq_true rfl) ?_
  have hw9 := hw.symm; subst hw9
  refine lv_aload_n hx hb dL_law_942 rfl (lv_at hl 2 rfl) ?_
  refine lv_aload_n hx hb dL_law_943 rfl (lv_at hl 0 rfl) ?_
  refine lv_iload_n hx hb dL_law_944 rfl (lv_at hl 3 rfl) ?_
  refine lv_iconst (v := 1) hx hb dL_law_945 (by decide) ?_
  refine lv_iadd hx hb dL_law_946 ?_
  refine lv_topi (fun y_35 ey_35 => ?_)
  obtain rfl : y_35 = 1 := ey_35.trans (by decide)
  refine va_sld hx hb hX hbl hbA hS hin1 dL_law_947 ?_
  refine lv_topi (fun y_36 ey_36 => ?_)
  rw [show y_36 = p0 from ey_36.trans hp0.symm]
  refine lv_aload_n hx hb dL_law_948 rfl (lv_at hl 0 rfl) ?_
  refine lv_iload_n hx hb dL_law_949 rfl (lv_at hl 3 rfl) ?_
  refine lv_iconst (v := 2) hx hb dL_law_950 (by decide) ?_
  refine lv_iadd hx hb dL_law_951 ?_
  refine lv_topi (fun y_37 ey_37 => ?_)
  obtain rfl : y_37 = 2 := ey_37.trans (by decide)
  refine va_sld hx hb hX hbl hbA hS hin2 dL_law_952 ?_
  refine lv_topi (fun y_38 ey_38 => ?_)
  rw [show y_38 = p1 from ey_38.trans hp1.symm]
  refine lv_aload_n hx hb dL_law_953 rfl (lv_at hl 0 rfl) ?_
  refine lv_iload_n hx hb dL_law_954 rfl (lv_at hl 3 rfl) ?_
  refine lv_iconst (v := 3) hx hb dL_law_955 (by decide) ?_
  refine lv_iadd hx hb dL_law_956 ?_
  refine lv_topi (fun y_39 ey_39 => ?_)
  obtain rfl : y_39 = 3 := ey_39.trans (by decide)
  refine va_sld hx hb hX hbl hbA hS hin3 dL_law_957 ?_
  refine lv_topi (fun y_40 ey_40 => ?_)
  rw [show y_40 = p2 from ey_40.trans hp2.symm]
  refine lv_aload_n hx hb dL_law_958 rfl (lv_at hl 0 rfl) ?_
  refine lv_iload_n hx hb dL_law_959 rfl (lv_at hl 3 rfl) ?_
  refine lv_iconst (v := 4) hx hb dL_law_960 (by decide) ?_
  refine lv_iadd hx hb dL_law_961 ?_
  refine lv_topi (fun y_41 ey_41 => ?_)
  obtain rfl : y_41 = 4 := ey_41.trans (by decide)
  refine va_sld hx hb hX hbl hbA hS hin4 dL_law_962 ?_
  refine lv_topi (fun y_42 ey_42 => ?_)
  rw [show y_42 = p3 from ey_42.trans hp3.symm]
  refine lv_aload_n hx hb dL_law_963 rfl (lv_at hl 0 rfl) ?_
  refine lv_iload_n hx hb dL_law_964 rfl (lv_at hl 3 rfl) ?_
  refine lv_iconst (v := 5) hx hb dL_law_965 (by decide) ?_
  refine lv_iadd hx hb dL_law_966 ?_
  refine lv_topi (fun y_43 ey_43 => ?_)
  obtain rfl : y_43 = 5 := ey_43.trans (by decide)
  refine va_sld hx hb hX hbl hbA hS hin5 dL_law_967 ?_
  refine lv_topi (fun y_44 ey_44 => ?_)
  rw [show y_44 = p4 from ey_44.trans hp4.symm]
  have hPc := hP.sub (ws' := [(y, .inr (12, yM))]) [14] rfl
  have hDc := hD.sub (ws' := [(y, .inr (12, yM))]) [14] (by decide) rfl
  have hFc := va_free (wc := [(y, .inr (12, yM))]) hD hS hA [14] rfl
  refine va_calll (va_runV (As := [.int p0, .int p1, .int p2, .int p3, .int p4]) (rest := [.long (-1)]) ⟨hx, hb, hml, hown, hts⟩ (c_X12_suits_bad l D k H.size y p0 p1 p2 p3 p4 yM hbad) (cwV 5 hts (gd_V hgd m1923 m1924 m1925 m131 m1926) rfl rfl rfl (by decide +kernel) ⟨Nat.le_of_ble_eq_true rfl, Nat.le_of_ble_eq_true rfl⟩) (cP_V hPc hKX hDc (ci := 12) (q0 := 0) rfl rfl) rfl rfl hl.1 rfl (lv_room (Nat.le_of_ble_eq_true rfl)) dL_law_968 ⟨Nat.le_of_ble_eq_true rfl, Nat.le_of_ble_eq_true rfl⟩) hS (fun q _ h => hFc q h) hFc (fun r_45 u t H1 locs ht hvm hw hB hz1 hk1 hS => ?_)
  obtain ⟨hP1, hD1⟩ := hB
  rw [ht] at hP1
  obtain ⟨hP, hD⟩ := va_join (wr := [(pv, .inr (6, P)), (sl, .inl (k.2.1, 3, .inl g1)), (sp, .inr (6, P2)), (sl2, .inl (k.2.1, 3, .inl g2)), (tp, .inl (k.1, 1600, .inl g3)), (rd, .inr (7, Rd)), (tk, .inr (9, K)), (ln, .inr (3, N)), (fo, .inl (k.2.1, 3, .inl g4)), (ea, .inr (1, E)), (nw, .inl (k.2.1, 10, .inl f1)), (kp, .inl (k.2.1, 410, .inl f2)), (bx, .inl (k.2.1, 30, .inl f3)), (si, .inr (8, Z)), (ytp, .inl (k.2.1, 1600, .inl ym1)), (yns, .inl (k.2.1, 3, .inl ym2)), (yss, .inl (k.2.1, 3, .inl ym3)), (ynw, .inl (k.2.1, 16, .inl ym4)), (ywe, .inl (k.2.1, 640, .inl ym5)), (yhbx, .inl (k.2.2.2, 3, .inl ym6)), (ybx, .inl (k.2.1, 48, .inl ym7)), (x, .inr (11, F))]) (w1 := [(y, .inr (12, yM))]) hP hD [14] [0, 1, 2, 3, 4, 5, 6, 7, 8, 9, 10, 11, 12, 13, 15, 16, 17, 18, 19, 20, 21, 22] rfl rfl (by decide) (by decide) hk1 hFc hP1 hD1
  generalize H1 = H at hP hS ⊢
  have hP : va_P D classes [(pv, .inr (6, P)), (sl, .inl (k.2.1, 3, .inl g1)), (sp, .inr (6, P2)), (sl2, .inl (k.2.1, 3, .inl g2)), (tp, .inl (k.1, 1600, .inl g3)), (rd, .inr (7, Rd)), (tk, .inr (9, K)), (ln, .inr (3, N)), (fo, .inl (k.2.1, 3, .inl g4)), (ea, .inr (1, E)), (nw, .inl (k.2.1, 10, .inl f1)), (kp, .inl (k.2.1, 410, .inl f2)), (bx, .inl (k.2.1, 30, .inl f3)), (si, .inr (8, Z)), (ytp, .inl (k.2.1, 1600, .inl ym1)), (yns, .inl (k.2.1, 3, .inl ym2)), (yss, .inl (k.2.1, 3, .inl ym3)), (ynw, .inl (k.2.1, 16, .inl ym4)), (ywe, .inl (k.2.1, 640, .inl ym5)), (yhbx, .inl (k.2.2.2, 3, .inl ym6)), (ybx, .inl (k.2.1, 48, .inl ym7)), (x, .inr (11, F)), (y, .inr (12, yM))] H := hP
  have hD : va_D A [(pv, .inr (6, P)), (sl, .inl (k.2.1, 3, .inl g1)), (sp, .inr (6, P2)), (sl2, .inl (k.2.1, 3, .inl g2)), (tp, .inl (k.1, 1600, .inl g3)), (rd, .inr (7, Rd)), (tk, .inr (9, K)), (ln, .inr (3, N)), (fo, .inl (k.2.1, 3, .inl g4)), (ea, .inr (1, E)), (nw, .inl (k.2.1, 10, .inl f1)), (kp, .inl (k.2.1, 410, .inl f2)), (bx, .inl (k.2.1, 30, .inl f3)), (si, .inr (8, Z)), (ytp, .inl (k.2.1, 1600, .inl ym1)), (yns, .inl (k.2.1, 3, .inl ym2)), (yss, .inl (k.2.1, 3, .inl ym3)), (ynw, .inl (k.2.1, 16, .inl ym4)), (ywe, .inl (k.2.1, 640, .inl ym5)), (yhbx, .inl (k.2.2.2, 3, .inl ym6)), (ybx, .inl (k.2.1, 48, .inl ym7)), (x, .inr (11, F)), (y, .inr (12, yM))] := hD
  refine W.widen (k := 119) (n := 46443) (Nat.le_of_ble_eq_true rfl) (Nat.le_of_ble_eq_true rfl) ?_
  have hw9 := hw.symm; subst hw9
  refine W.lcmp hx hb dL_law_971 ?_
  refine lv_if_eq (tgt := 1645) hx hb dL_law_972 (by decide) (fun c_46 => ?_) (fun c_46 => ?_)
  · have c_46 : ((lg_cmp (-1) (-1)) : Int32) = 0 := c_46
    exact law_tail rfl C0 hKX hA hA2 hbA hS (lv_sub hl [0, 1, 2, 3] rfl)
  · exact absurd (lg_same rfl) c_46

set_option maxHeartbeats 4000000 in
set_option maxRecDepth 100000 in
theorem law_17 {p : Program} {l : Launch} {e : Env} {s : State} {m : MethodId} {below : List Frame} {meth : Method} {c : Code} {D : va_G} {k : ClassId × ClassId × ClassId × ClassId} {A : Nat → Prop} {b L : Nat} {xs : Nat → Int32} (hL : L = 6) (C0 : lw_At p s m meth c b L xs) (hKX : va_K D classes (TY k) s ∧ cX s) (hA : ∀ q : Nat, s.heap.size ≤ q → A q) (hA2 : ∀ q : Nat, A q → s.heap.size ≤ q) (hbA : ¬ A b) {x y : Nat} {H : Heap} {locs : List Loc} (hF : Fresh D k A x y H) (hS : va_S A s.heap H locs) {ls : Array Slot} (hl : lv_has ls 4 [(0, .ref b), (1, .ref x), (2, .ref y), (3, .int 0)]) : W p l e room_1 s m #[Value.ref b] below meth c H locs 119 46443 (lw_Z below #[Value.ref b] s) (F0 m 977 ls []) := by
  obtain ⟨hx, hb, hr, hml, hown, hts, hX, hbl, hlocks, hgv⟩ := id C0
  have hown : s.vm.findClass RL = some m.cls := hown
  have hK := hKX.1
  have hgd : ∀ w ∈ gd, w ∈ lw_tbl := fun w h => (List.mem_filter.mp h).1
  have hg : ∀ w ∈ gd, w.before #[Value.ref b] s = true := fun w h => hts w (hgd w h)
  subst hL
  obtain ⟨F, pv, P, sl, g1, sp, P2, sl2, g2, tp, g3, rd, Rd, tk, K, ln, N, fo, g4, ea, E, nw, f1, kp, f2, bx, f3, si, Z, yM, ytp, ym1, yns, ym2, yss, ym3, ynw, ym4, ywe, ym5, yhbx, ym6, ybx, ym7, hf_0, hf_1, hf_2, hf_3, hf_4, hf_6, hf_7, hf_8, hf_10, hf_11, hf_14, hf_15, hf_18, hf_19, hf_21, hP, hD⟩ := hF
  have u_0_0 : F[0]? = some (.ref pv) := hf_0.1
  have u_1_10 : P[10]? = some (.int 0) := hf_1.1
  have u_15_53 : yM[53]? = some (.int 0) := hf_15.2.2.2.2.2.2.2.2.2.2.2.2.2.2.2.2.2.2.1
  have hin1 : vp_in 1 6 := (show ¬ ((1 : Int32) < 0 ∨ 6 ≤ (1 : Int32).toNatClampNeg) from by decide)
  have hin2 : vp_in 2 6 := (show ¬ ((2 : Int32) < 0 ∨ 6 ≤ (2 : Int32).toNatClampNeg) from by decide)
  have hin3 : vp_in 3 6 := (show ¬ ((3 : Int32) < 0 ∨ 6 ≤ (3 : Int32).toNatClampNeg) from by decide)
  have hin4 : vp_in 4 6 := (show ¬ ((4 : Int32) < 0 ∨ 6 ≤ (4 : Int32).toNatClampNeg) from by decide)
  have hin5 : vp_in 5 6 := (show ¬ ((5 : Int32) < 0 ∨ 6 ≤ (5 : Int32).toNatClampNeg) from by decide)
  obtain ⟨p0, hp0⟩ : ∃ z, z = xs 1 := ⟨_, rfl⟩
  obtain ⟨p1, hp1⟩ : ∃ z, z = xs 2 := ⟨_, rfl⟩
  obtain ⟨p2, hp2⟩ : ∃ z, z = xs 3 := ⟨_, rfl⟩
  obtain ⟨p3, hp3⟩ : ∃ z, z = xs 4 := ⟨_, rfl⟩
  obtain ⟨p4, hp4⟩ : ∃ z, z = xs 5 := ⟨_, rfl⟩
  refine lv_aload_n hx hb dL_law_977 rfl (lv_at hl 1 rfl) ?_
  refine lv_aload_n hx hb dL_law_978 rfl (lv_at hl 0 rfl) ?_
  refine lv_iload_n hx hb dL_law_979 rfl (lv_at hl 3 rfl) ?_
  refine lv_iconst (v := 1) hx hb dL_law_980 (by decide) ?_
  refine lv_iadd hx hb dL_law_981 ?_
  refine lv_topi (fun y_1 ey_1 => ?_)
  obtain rfl : y_1 = 1 := ey_1.trans (by decide)
  refine va_sld hx hb hX hbl hbA hS hin1 dL_law_982 ?_
  refine lv_topi (fun y_2 ey_2 => ?_)
  rw [show y_2 = p0 from ey_2.trans hp0.symm]
  refine lv_aload_n hx hb dL_law_983 rfl (lv_at hl 0 rfl) ?_
  refine lv_iload_n hx hb dL_law_984 rfl (lv_at hl 3 rfl) ?_
  refine lv_iconst (v := 2) hx hb dL_law_985 (by decide) ?_
  refine lv_iadd hx hb dL_law_986 ?_
  refine lv_topi (fun y_3 ey_3 => ?_)
  obtain rfl : y_3 = 2 := ey_3.trans (by decide)
  refine va_sld hx hb hX hbl hbA hS hin2 dL_law_987 ?_
  refine lv_topi (fun y_4 ey_4 => ?_)
  rw [show y_4 = p1 from ey_4.trans hp1.symm]
  refine lv_aload_n hx hb dL_law_988 rfl (lv_at hl 0 rfl) ?_
  refine lv_iload_n hx hb dL_law_989 rfl (lv_at hl 3 rfl) ?_
  refine lv_iconst (v := 3) hx hb dL_law_990 (by decide) ?_
  refine lv_iadd hx hb dL_law_991 ?_
  refine lv_topi (fun y_5 ey_5 => ?_)
  obtain rfl : y_5 = 3 := ey_5.trans (by decide)
  refine va_sld hx hb hX hbl hbA hS hin3 dL_law_992 ?_
  refine lv_topi (fun y_6 ey_6 => ?_)
  rw [show y_6 = p2 from ey_6.trans hp2.symm]
  have hPc := hP.sub (ws' := [(x, .inr (11, F)), (pv, .inr (6, P))]) [0, 1] rfl
  have hDc := hD.sub (ws' := [(x, .inr (11, F)), (pv, .inr (6, P))]) [0, 1] (by decide) rfl
  have hFc := va_free (wc := [(x, .inr (11, F)), (pv, .inr (6, P))]) hD hS hA [0, 1] rfl
  refine va_calli (va_runV (As := [.int p0, .int p1, .int p2]) (rest := []) ⟨hx, hb, hml, hown, hts⟩ (c_X11_keeps l D k H.size x pv F P p0 p1 p2 u_0_0 u_1_10) (cwV 3 hts (gd_V hgd m1087 m1088 m1089 m117 m1090) rfl rfl rfl (by decide +kernel) ⟨Nat.le_of_ble_eq_true rfl, Nat.le_of_ble_eq_true rfl⟩) (cP_V hPc hKX hDc (ci := 11) (q0 := 0) rfl rfl) rfl rfl hl.1 rfl (lv_room (Nat.le_of_ble_eq_true rfl)) dL_law_993 ⟨Nat.le_of_ble_eq_true rfl, Nat.le_of_ble_eq_true rfl⟩) hS (fun q _ h => hFc q h) hFc (fun r_7 u t H1 locs ht hvm hw hB hz1 hk1 hS => ?_)
  obtain ⟨hP1, hD1⟩ := hB
  rw [ht] at hP1
  obtain ⟨hP, hD⟩ := va_join (wr := [(sl, .inl (k.2.1, 3, .inl g1)), (sp, .inr (6, P2)), (sl2, .inl (k.2.1, 3, .inl g2)), (tp, .inl (k.1, 1600, .inl g3)), (rd, .inr (7, Rd)), (tk, .inr (9, K)), (ln, .inr (3, N)), (fo, .inl (k.2.1, 3, .inl g4)), (ea, .inr (1, E)), (nw, .inl (k.2.1, 10, .inl f1)), (kp, .inl (k.2.1, 410, .inl f2)), (bx, .inl (k.2.1, 30, .inl f3)), (si, .inr (8, Z)), (y, .inr (12, yM)), (ytp, .inl (k.2.1, 1600, .inl ym1)), (yns, .inl (k.2.1, 3, .inl ym2)), (yss, .inl (k.2.1, 3, .inl ym3)), (ynw, .inl (k.2.1, 16, .inl ym4)), (ywe, .inl (k.2.1, 640, .inl ym5)), (yhbx, .inl (k.2.2.2, 3, .inl ym6)), (ybx, .inl (k.2.1, 48, .inl ym7))]) (w1 := []) hP hD [0, 1] [2, 3, 4, 5, 6, 7, 8, 9, 10, 11, 12, 13, 14, 15, 16, 17, 18, 19, 20, 21, 22] rfl rfl (by decide) (by decide) hk1 hFc hP1 hD1
  generalize H1 = H at hP hS ⊢
  have hP : va_P D classes [(sl, .inl (k.2.1, 3, .inl g1)), (sp, .inr (6, P2)), (sl2, .inl (k.2.1, 3, .inl g2)), (tp, .inl (k.1, 1600, .inl g3)), (rd, .inr (7, Rd)), (tk, .inr (9, K)), (ln, .inr (3, N)), (fo, .inl (k.2.1, 3, .inl g4)), (ea, .inr (1, E)), (nw, .inl (k.2.1, 10, .inl f1)), (kp, .inl (k.2.1, 410, .inl f2)), (bx, .inl (k.2.1, 30, .inl f3)), (si, .inr (8, Z)), (y, .inr (12, yM)), (ytp, .inl (k.2.1, 1600, .inl ym1)), (yns, .inl (k.2.1, 3, .inl ym2)), (yss, .inl (k.2.1, 3, .inl ym3)), (ynw, .inl (k.2.1, 16, .inl ym4)), (ywe, .inl (k.2.1, 640, .inl ym5)), (yhbx, .inl (k.2.2.2, 3, .inl ym6)), (ybx, .inl (k.2.1, 48, .inl ym7))] H := hP
  have hD : va_D A [(sl, .inl (k.2.1, 3, .inl g1)), (sp, .inr (6, P2)), (sl2, .inl (k.2.1, 3, .inl g2)), (tp, .inl (k.1, 1600, .inl g3)), (rd, .inr (7, Rd)), (tk, .inr (9, K)), (ln, .inr (3, N)), (fo, .inl (k.2.1, 3, .inl g4)), (ea, .inr (1, E)), (nw, .inl (k.2.1, 10, .inl f1)), (kp, .inl (k.2.1, 410, .inl f2)), (bx, .inl (k.2.1, 30, .inl f3)), (si, .inr (8, Z)), (y, .inr (12, yM)), (ytp, .inl (k.2.1, 1600, .inl ym1)), (yns, .inl (k.2.1, 3, .inl ym2)), (yss, .inl (k.2.1, 3, .inl ym3)), (ynw, .inl (k.2.1, 16, .inl ym4)), (ywe, .inl (k.2.1, 640, .inl ym5)), (yhbx, .inl (k.2.2.2, 3, .inl ym6)), (ybx, .inl (k.2.1, 48, .inl ym7))] := hD
  refine W.widen (k := 119) (n := 46443) (Nat.le_of_ble_eq_true rfl) (Nat.le_of_ble_eq_true rfl) ?_
  have hw9 := hw.symm; subst hw9
  refine lv_aload_n hx hb dL_law_996 rfl (lv_at hl 2 rfl) ?_
  refine lv_aload_n hx hb dL_law_997 rfl (lv_at hl 0 rfl) ?_
  refine lv_iload_n hx hb dL_law_998 rfl (lv_at hl 3 rfl) ?_
  refine lv_iconst (v := 1) hx hb dL_law_999 (by decide) ?_
  refine lv_iadd hx hb dL_law_1000 ?_
  refine lv_topi (fun y_8 ey_8 => ?_)
  obtain rfl : y_8 = 1 := ey_8.trans (by decide)
  refine va_sld hx hb hX hbl hbA hS hin1 dL_law_1001 ?_
  refine lv_topi (fun y_9 ey_9 => ?_)
  rw [show y_9 = p0 from ey_9.trans hp0.symm]
  refine lv_aload_n hx hb dL_law_1002 rfl (lv_at hl 0 rfl) ?_
  refine lv_iload_n hx hb dL_law_1003 rfl (lv_at hl 3 rfl) ?_
  refine lv_iconst (v := 2) hx hb dL_law_1004 (by decide) ?_
  refine lv_iadd hx hb dL_law_1005 ?_
  refine lv_topi (fun y_10 ey_10 => ?_)
  obtain rfl : y_10 = 2 := ey_10.trans (by decide)
  refine va_sld hx hb hX hbl hbA hS hin2 dL_law_1006 ?_
  refine lv_topi (fun y_11 ey_11 => ?_)
  rw [show y_11 = p1 from ey_11.trans hp1.symm]
  refine lv_aload_n hx hb dL_law_1007 rfl (lv_at hl 0 rfl) ?_
  refine lv_iload_n hx hb dL_law_1008 rfl (lv_at hl 3 rfl) ?_
  refine lv_iconst (v := 3) hx hb dL_law_1009 (by decide) ?_
  refine lv_iadd hx hb dL_law_1010 ?_
  refine lv_topi (fun y_12 ey_12 => ?_)
  obtain rfl : y_12 = 3 := ey_12.trans (by decide)
  refine va_sld hx hb hX hbl hbA hS hin3 dL_law_1011 ?_
  refine lv_topi (fun y_13 ey_13 => ?_)
  rw [show y_13 = p2 from ey_13.trans hp2.symm]
  have hPc := hP.sub (ws' := [(y, .inr (12, yM))]) [13] rfl
  have hDc := hD.sub (ws' := [(y, .inr (12, yM))]) [13] (by decide) rfl
  have hFc := va_free (wc := [(y, .inr (12, yM))]) hD hS hA [13] rfl
  refine va_calli (va_runV (As := [.int p0, .int p1, .int p2]) (rest := [.int (-1)]) ⟨hx, hb, hml, hown, hts⟩ (c_X12_keeps l D k H.size y yM p0 p1 p2 u_15_53) (cwV 3 hts (gd_V hgd m1927 m1928 m1929 m131 m1930) rfl rfl rfl (by decide +kernel) ⟨Nat.le_of_ble_eq_true rfl, Nat.le_of_ble_eq_true rfl⟩) (cP_V hPc hKX hDc (ci := 12) (q0 := 0) rfl rfl) rfl rfl hl.1 rfl (lv_room (Nat.le_of_ble_eq_true rfl)) dL_law_1012 ⟨Nat.le_of_ble_eq_true rfl, Nat.le_of_ble_eq_true rfl⟩) hS (fun q _ h => hFc q h) hFc (fun r_14 u t H1 locs ht hvm hw hB hz1 hk1 hS => ?_)
  obtain ⟨hP1, hD1⟩ := hB
  rw [ht] at hP1
  obtain ⟨hP, hD⟩ := va_join (wr := [(sl, .inl (k.2.1, 3, .inl g1)), (sp, .inr (6, P2)), (sl2, .inl (k.2.1, 3, .inl g2)), (tp, .inl (k.1, 1600, .inl g3)), (rd, .inr (7, Rd)), (tk, .inr (9, K)), (ln, .inr (3, N)), (fo, .inl (k.2.1, 3, .inl g4)), (ea, .inr (1, E)), (nw, .inl (k.2.1, 10, .inl f1)), (kp, .inl (k.2.1, 410, .inl f2)), (bx, .inl (k.2.1, 30, .inl f3)), (si, .inr (8, Z)), (ytp, .inl (k.2.1, 1600, .inl ym1)), (yns, .inl (k.2.1, 3, .inl ym2)), (yss, .inl (k.2.1, 3, .inl ym3)), (ynw, .inl (k.2.1, 16, .inl ym4)), (ywe, .inl (k.2.1, 640, .inl ym5)), (yhbx, .inl (k.2.2.2, 3, .inl ym6)), (ybx, .inl (k.2.1, 48, .inl ym7))]) (w1 := []) hP hD [13] [0, 1, 2, 3, 4, 5, 6, 7, 8, 9, 10, 11, 12, 14, 15, 16, 17, 18, 19, 20] rfl rfl (by decide) (by decide) hk1 hFc hP1 hD1
  generalize H1 = H at hP hS ⊢
  have hP : va_P D classes [(sl, .inl (k.2.1, 3, .inl g1)), (sp, .inr (6, P2)), (sl2, .inl (k.2.1, 3, .inl g2)), (tp, .inl (k.1, 1600, .inl g3)), (rd, .inr (7, Rd)), (tk, .inr (9, K)), (ln, .inr (3, N)), (fo, .inl (k.2.1, 3, .inl g4)), (ea, .inr (1, E)), (nw, .inl (k.2.1, 10, .inl f1)), (kp, .inl (k.2.1, 410, .inl f2)), (bx, .inl (k.2.1, 30, .inl f3)), (si, .inr (8, Z)), (ytp, .inl (k.2.1, 1600, .inl ym1)), (yns, .inl (k.2.1, 3, .inl ym2)), (yss, .inl (k.2.1, 3, .inl ym3)), (ynw, .inl (k.2.1, 16, .inl ym4)), (ywe, .inl (k.2.1, 640, .inl ym5)), (yhbx, .inl (k.2.2.2, 3, .inl ym6)), (ybx, .inl (k.2.1, 48, .inl ym7))] H := hP
  have hD : va_D A [(sl, .inl (k.2.1, 3, .inl g1)), (sp, .inr (6, P2)), (sl2, .inl (k.2.1, 3, .inl g2)), (tp, .inl (k.1, 1600, .inl g3)), (rd, .inr (7, Rd)), (tk, .inr (9, K)), (ln, .inr (3, N)), (fo, .inl (k.2.1, 3, .inl g4)), (ea, .inr (1, E)), (nw, .inl (k.2.1, 10, .inl f1)), (kp, .inl (k.2.1, 410, .inl f2)), (bx, .inl (k.2.1, 30, .inl f3)), (si, .inr (8, Z)), (ytp, .inl (k.2.1, 1600, .inl ym1)), (yns, .inl (k.2.1, 3, .inl ym2)), (yss, .inl (k.2.1, 3, .inl ym3)), (ynw, .inl (k.2.1, 16, .inl ym4)), (ywe, .inl (k.2.1, 640, .inl ym5)), (yhbx, .inl (k.2.2.2, 3, .inl ym6)), (ybx, .inl (k.2.1, 48, .inl ym7))] := hD
  refine W.widen (k := 119) (n := 46443) (Nat.le_of_ble_eq_true rfl) (Nat.le_of_ble_eq_true rfl) ?_
  have hw9 := hw.symm; subst hw9
  refine lv_icmp_eq (tgt := 1645) hx hb dL_law_1015 (by decide) (fun c_15 => ?_) (fun c_15 => ?_)
  · have c_15 : ((-1) : Int32) = (-1) := c_15
    exact law_tail rfl C0 hKX hA hA2 hbA hS (lv_sub hl [0, 1, 2, 3] rfl)
  · exact absurd rfl c_15

set_option maxHeartbeats 4000000 in
set_option maxRecDepth 100000 in
theorem law_18 {p : Program} {l : Launch} {e : Env} {s : State} {m : MethodId} {below : List Frame} {meth : Method} {c : Code} {D : va_G} {k : ClassId × ClassId × ClassId × ClassId} {A : Nat → Prop} {b L : Nat} {xs : Nat → Int32} (hL : L = 6) (C0 : lw_At p s m meth c b L xs) (hKX : va_K D classes (TY k) s ∧ cX s) (hA : ∀ q : Nat, s.heap.size ≤ q → A q) (hA2 : ∀ q : Nat, A q → s.heap.size ≤ q) (hbA : ¬ A b) {x y : Nat} {H : Heap} {locs : List Loc} (hF : Fresh D k A x y H) (hS : va_S A s.heap H locs) {ls : Array Slot} (hl : lv_has ls 4 [(0, .ref b), (1, .ref x), (2, .ref y), (3, .int 0)]) : W p l e room_1 s m #[Value.ref b] below meth c H locs 119 46443 (lw_Z below #[Value.ref b] s) (F0 m 1020 ls []) := by
  obtain ⟨hx, hb, hr, hml, hown, hts, hX, hbl, hlocks, hgv⟩ := id C0
  have hown : s.vm.findClass RL = some m.cls := hown
  have hK := hKX.1
  have hgd : ∀ w ∈ gd, w ∈ lw_tbl := fun w h => (List.mem_filter.mp h).1
  have hg : ∀ w ∈ gd, w.before #[Value.ref b] s = true := fun w h => hts w (hgd w h)
  subst hL
  obtain ⟨F, pv, P, sl, g1, sp, P2, sl2, g2, tp, g3, rd, Rd, tk, K, ln, N, fo, g4, ea, E, nw, f1, kp, f2, bx, f3, si, Z, yM, ytp, ym1, yns, ym2, yss, ym3, ynw, ym4, ywe, ym5, yhbx, ym6, ybx, ym7, hf_0, hf_1, hf_2, hf_3, hf_4, hf_6, hf_7, hf_8, hf_10, hf_11, hf_14, hf_15, hf_18, hf_19, hf_21, hP, hD⟩ := hF
  have u_0_0 : F[0]? = some (.ref pv) := hf_0.1
  have u_1_10 : P[10]? = some (.int 0) := hf_1.1
  have u_15_53 : yM[53]? = some (.int 0) := hf_15.2.2.2.2.2.2.2.2.2.2.2.2.2.2.2.2.2.2.1
  have hin1 : vp_in 1 6 := (show ¬ ((1 : Int32) < 0 ∨ 6 ≤ (1 : Int32).toNatClampNeg) from by decide)
  have hin2 : vp_in 2 6 := (show ¬ ((2 : Int32) < 0 ∨ 6 ≤ (2 : Int32).toNatClampNeg) from by decide)
  have hin3 : vp_in 3 6 := (show ¬ ((3 : Int32) < 0 ∨ 6 ≤ (3 : Int32).toNatClampNeg) from by decide)
  have hin4 : vp_in 4 6 := (show ¬ ((4 : Int32) < 0 ∨ 6 ≤ (4 : Int32).toNatClampNeg) from by decide)
  have hin5 : vp_in 5 6 := (show ¬ ((5 : Int32) < 0 ∨ 6 ≤ (5 : Int32).toNatClampNeg) from by decide)
  obtain ⟨p0, hp0⟩ : ∃ z, z = xs 1 := ⟨_, rfl⟩
  obtain ⟨p1, hp1⟩ : ∃ z, z = xs 2 := ⟨_, rfl⟩
  obtain ⟨p2, hp2⟩ : ∃ z, z = xs 3 := ⟨_, rfl⟩
  obtain ⟨p3, hp3⟩ : ∃ z, z = xs 4 := ⟨_, rfl⟩
  obtain ⟨p4, hp4⟩ : ∃ z, z = xs 5 := ⟨_, rfl⟩
  refine lv_aload_n hx hb dL_law_1020 rfl (lv_at hl 1 rfl) ?_
  refine lv_aload_n hx hb dL_law_1021 rfl (lv_at hl 0 rfl) ?_
  refine lv_iload_n hx hb dL_law_1022 rfl (lv_at hl 3 rfl) ?_
  refine lv_iconst (v := 1) hx hb dL_law_1023 (by decide) ?_
  refine lv_iadd hx hb dL_law_1024 ?_
  refine lv_topi (fun y_1 ey_1 => ?_)
  obtain rfl : y_1 = 1 := ey_1.trans (by decide)
  refine va_sld hx hb hX hbl hbA hS hin1 dL_law_1025 ?_
  refine lv_topi (fun y_2 ey_2 => ?_)
  rw [show y_2 = p0 from ey_2.trans hp0.symm]
  refine lv_aload_n hx hb dL_law_1026 rfl (lv_at hl 0 rfl) ?_
  refine lv_iload_n hx hb dL_law_1027 rfl (lv_at hl 3 rfl) ?_
  refine lv_iconst (v := 2) hx hb dL_law_1028 (by decide) ?_
  refine lv_iadd hx hb dL_law_1029 ?_
  refine lv_topi (fun y_3 ey_3 => ?_)
  obtain rfl : y_3 = 2 := ey_3.trans (by decide)
  refine va_sld hx hb hX hbl hbA hS hin2 dL_law_1030 ?_
  refine lv_topi (fun y_4 ey_4 => ?_)
  rw [show y_4 = p1 from ey_4.trans hp1.symm]
  refine lv_aload_n hx hb dL_law_1031 rfl (lv_at hl 0 rfl) ?_
  refine lv_iload_n hx hb dL_law_1032 rfl (lv_at hl 3 rfl) ?_
  refine lv_iconst (v := 3) hx hb dL_law_1033 (by decide) ?_
  refine lv_iadd hx hb dL_law_1034 ?_
  refine lv_topi (fun y_5 ey_5 => ?_)
  obtain rfl : y_5 = 3 := ey_5.trans (by decide)
  refine va_sld hx hb hX hbl hbA hS hin3 dL_law_1035 ?_
  refine lv_topi (fun y_6 ey_6 => ?_)
  rw [show y_6 = p2 from ey_6.trans hp2.symm]
  refine lv_aload_n hx hb dL_law_1036 rfl (lv_at hl 0 rfl) ?_
  refine lv_iload_n hx hb dL_law_1037 rfl (lv_at hl 3 rfl) ?_
  refine lv_iconst (v := 4) hx hb dL_law_1038 (by decide) ?_
  refine lv_iadd hx hb dL_law_1039 ?_
  refine lv_topi (fun y_7 ey_7 => ?_)
  obtain rfl : y_7 = 4 := ey_7.trans (by decide)
  refine va_sld hx hb hX hbl hbA hS hin4 dL_law_1040 ?_
  refine lv_topi (fun y_8 ey_8 => ?_)
  rw [show y_8 = p3 from ey_8.trans hp3.symm]
  refine lv_aload_n hx hb dL_law_1041 rfl (lv_at hl 0 rfl) ?_
  refine lv_iload_n hx hb dL_law_1042 rfl (lv_at hl 3 rfl) ?_
  refine lv_iconst (v := 5) hx hb dL_law_1043 (by decide) ?_
  refine lv_iadd hx hb dL_law_1044 ?_
  refine lv_topi (fun y_9 ey_9 => ?_)
  obtain rfl : y_9 = 5 := ey_9.trans (by decide)
  refine va_sld hx hb hX hbl hbA hS hin5 dL_law_1045 ?_
  refine lv_topi (fun y_10 ey_10 => ?_)
  rw [show y_10 = p4 from ey_10.trans hp4.symm]
  have hPc := hP.sub (ws' := [(x, .inr (11, F)), (pv, .inr (6, P))]) [0, 1] rfl
  have hDc := hD.sub (ws' := [(x, .inr (11, F)), (pv, .inr (6, P))]) [0, 1] (by decide) rfl
  have hFc := va_free (wc := [(x, .inr (11, F)), (pv, .inr (6, P))]) hD hS hA [0, 1] rfl
  refine va_calll (va_runV (As := [.int p0, .int p1, .int p2, .int p3, .int p4]) (rest := []) ⟨hx, hb, hml, hown, hts⟩ (c_X11_brave l D k H.size x pv F P p0 p1 p2 p3 p4 u_0_0 u_1_10) (cwV 5 hts (gd_V hgd m1113 m1114 m1115 m117 m1116) rfl rfl rfl (by decide +kernel) ⟨Nat.le_of_ble_eq_true rfl, Nat.le_of_ble_eq_true rfl⟩) (cP_V hPc hKX hDc (ci := 11) (q0 := 0) rfl rfl) rfl rfl hl.1 rfl (lv_room (Nat.le_of_ble_eq_true rfl)) dL_law_1046 ⟨Nat.le_of_ble_eq_true rfl, Nat.le_of_ble_eq_true rfl⟩) hS (fun q _ h => hFc q h) hFc (fun r_11 u t H1 locs ht hvm hw hB hz1 hk1 hS => ?_)
  obtain ⟨hP1, hD1⟩ := hB
  rw [ht] at hP1
  obtain ⟨hP, hD⟩ := va_join (wr := [(sl, .inl (k.2.1, 3, .inl g1)), (sp, .inr (6, P2)), (sl2, .inl (k.2.1, 3, .inl g2)), (tp, .inl (k.1, 1600, .inl g3)), (rd, .inr (7, Rd)), (tk, .inr (9, K)), (ln, .inr (3, N)), (fo, .inl (k.2.1, 3, .inl g4)), (ea, .inr (1, E)), (nw, .inl (k.2.1, 10, .inl f1)), (kp, .inl (k.2.1, 410, .inl f2)), (bx, .inl (k.2.1, 30, .inl f3)), (si, .inr (8, Z)), (y, .inr (12, yM)), (ytp, .inl (k.2.1, 1600, .inl ym1)), (yns, .inl (k.2.1, 3, .inl ym2)), (yss, .inl (k.2.1, 3, .inl ym3)), (ynw, .inl (k.2.1, 16, .inl ym4)), (ywe, .inl (k.2.1, 640, .inl ym5)), (yhbx, .inl (k.2.2.2, 3, .inl ym6)), (ybx, .inl (k.2.1, 48, .inl ym7))]) (w1 := []) hP hD [0, 1] [2, 3, 4, 5, 6, 7, 8, 9, 10, 11, 12, 13, 14, 15, 16, 17, 18, 19, 20, 21, 22] rfl rfl (by decide) (by decide) hk1 hFc hP1 hD1
  generalize H1 = H at hP hS ⊢
  have hP : va_P D classes [(sl, .inl (k.2.1, 3, .inl g1)), (sp, .inr (6, P2)), (sl2, .inl (k.2.1, 3, .inl g2)), (tp, .inl (k.1, 1600, .inl g3)), (rd, .inr (7, Rd)), (tk, .inr (9, K)), (ln, .inr (3, N)), (fo, .inl (k.2.1, 3, .inl g4)), (ea, .inr (1, E)), (nw, .inl (k.2.1, 10, .inl f1)), (kp, .inl (k.2.1, 410, .inl f2)), (bx, .inl (k.2.1, 30, .inl f3)), (si, .inr (8, Z)), (y, .inr (12, yM)), (ytp, .inl (k.2.1, 1600, .inl ym1)), (yns, .inl (k.2.1, 3, .inl ym2)), (yss, .inl (k.2.1, 3, .inl ym3)), (ynw, .inl (k.2.1, 16, .inl ym4)), (ywe, .inl (k.2.1, 640, .inl ym5)), (yhbx, .inl (k.2.2.2, 3, .inl ym6)), (ybx, .inl (k.2.1, 48, .inl ym7))] H := hP
  have hD : va_D A [(sl, .inl (k.2.1, 3, .inl g1)), (sp, .inr (6, P2)), (sl2, .inl (k.2.1, 3, .inl g2)), (tp, .inl (k.1, 1600, .inl g3)), (rd, .inr (7, Rd)), (tk, .inr (9, K)), (ln, .inr (3, N)), (fo, .inl (k.2.1, 3, .inl g4)), (ea, .inr (1, E)), (nw, .inl (k.2.1, 10, .inl f1)), (kp, .inl (k.2.1, 410, .inl f2)), (bx, .inl (k.2.1, 30, .inl f3)), (si, .inr (8, Z)), (y, .inr (12, yM)), (ytp, .inl (k.2.1, 1600, .inl ym1)), (yns, .inl (k.2.1, 3, .inl ym2)), (yss, .inl (k.2.1, 3, .inl ym3)), (ynw, .inl (k.2.1, 16, .inl ym4)), (ywe, .inl (k.2.1, 640, .inl ym5)), (yhbx, .inl (k.2.2.2, 3, .inl ym6)), (ybx, .inl (k.2.1, 48, .inl ym7))] := hD
  refine W.widen (k := 119) (n := 46443) (Nat.le_of_ble_eq_true rfl) (Nat.le_of_ble_eq_true rfl) ?_
  have hw9 := hw.symm; subst hw9
  refine lv_aload_n hx hb dL_law_1049 rfl (lv_at hl 2 rfl) ?_
  refine lv_aload_n hx hb dL_law_1050 rfl (lv_at hl 0 rfl) ?_
  refine lv_iload_n hx hb dL_law_1051 rfl (lv_at hl 3 rfl) ?_
  refine lv_iconst (v := 1) hx hb dL_law_1052 (by decide) ?_
  refine lv_iadd hx hb dL_law_1053 ?_
  refine lv_topi (fun y_12 ey_12 => ?_)
  obtain rfl : y_12 = 1 := ey_12.trans (by decide)
  refine va_sld hx hb hX hbl hbA hS hin1 dL_law_1054 ?_
  refine lv_topi (fun y_13 ey_13 => ?_)
  rw [show y_13 = p0 from ey_13.trans hp0.symm]
  refine lv_aload_n hx hb dL_law_1055 rfl (lv_at hl 0 rfl) ?_
  refine lv_iload_n hx hb dL_law_1056 rfl (lv_at hl 3 rfl) ?_
  refine lv_iconst (v := 2) hx hb dL_law_1057 (by decide) ?_
  refine lv_iadd hx hb dL_law_1058 ?_
  refine lv_topi (fun y_14 ey_14 => ?_)
  obtain rfl : y_14 = 2 := ey_14.trans (by decide)
  refine va_sld hx hb hX hbl hbA hS hin2 dL_law_1059 ?_
  refine lv_topi (fun y_15 ey_15 => ?_)
  rw [show y_15 = p1 from ey_15.trans hp1.symm]
  refine lv_aload_n hx hb dL_law_1060 rfl (lv_at hl 0 rfl) ?_
  refine lv_iload_n hx hb dL_law_1061 rfl (lv_at hl 3 rfl) ?_
  refine lv_iconst (v := 3) hx hb dL_law_1062 (by decide) ?_
  refine lv_iadd hx hb dL_law_1063 ?_
  refine lv_topi (fun y_16 ey_16 => ?_)
  obtain rfl : y_16 = 3 := ey_16.trans (by decide)
  refine va_sld hx hb hX hbl hbA hS hin3 dL_law_1064 ?_
  refine lv_topi (fun y_17 ey_17 => ?_)
  rw [show y_17 = p2 from ey_17.trans hp2.symm]
  refine lv_aload_n hx hb dL_law_1065 rfl (lv_at hl 0 rfl) ?_
  refine lv_iload_n hx hb dL_law_1066 rfl (lv_at hl 3 rfl) ?_
  refine lv_iconst (v := 4) hx hb dL_law_1067 (by decide) ?_
  refine lv_iadd hx hb dL_law_1068 ?_
  refine lv_topi (fun y_18 ey_18 => ?_)
  obtain rfl : y_18 = 4 := ey_18.trans (by decide)
  refine va_sld hx hb hX hbl hbA hS hin4 dL_law_1069 ?_
  refine lv_topi (fun y_19 ey_19 => ?_)
  rw [show y_19 = p3 from ey_19.trans hp3.symm]
  refine lv_aload_n hx hb dL_law_1070 rfl (lv_at hl 0 rfl) ?_
  refine lv_iload_n hx hb dL_law_1071 rfl (lv_at hl 3 rfl) ?_
  refine lv_iconst (v := 5) hx hb dL_law_1072 (by decide) ?_
  refine lv_iadd hx hb dL_law_1073 ?_
  refine lv_topi (fun y_20 ey_20 => ?_)
  obtain rfl : y_20 = 5 := ey_20.trans (by decide)
  refine va_sld hx hb hX hbl hbA hS hin5 dL_law_1074 ?_
  refine lv_topi (fun y_21 ey_21 => ?_)
  rw [show y_21 = p4 from ey_21.trans hp4.symm]
  have hPc := hP.sub (ws' := [(y, .inr (12, yM))]) [13] rfl
  have hDc := hD.sub (ws' := [(y, .inr (12, yM))]) [13] (by decide) rfl
  have hFc := va_free (wc := [(y, .inr (12, yM))]) hD hS hA [13] rfl
  refine va_calll (va_runV (As := [.int p0, .int p1, .int p2, .int p3, .int p4]) (rest := [.long (-1)]) ⟨hx, hb, hml, hown, hts⟩ (c_X12_brave l D k H.size y yM p0 p1 p2 p3 p4 u_15_53) (cwV 5 hts (gd_V hgd m1939 m1940 m1941 m131 m1942) rfl rfl rfl (by decide +kernel) ⟨Nat.le_of_ble_eq_true rfl, Nat.le_of_ble_eq_true rfl⟩) (cP_V hPc hKX hDc (ci := 12) (q0 := 0) rfl rfl) rfl rfl hl.1 rfl (lv_room (Nat.le_of_ble_eq_true rfl)) dL_law_1075 ⟨Nat.le_of_ble_eq_true rfl, Nat.le_of_ble_eq_true rfl⟩) hS (fun q _ h => hFc q h) hFc (fun r_22 u t H1 locs ht hvm hw hB hz1 hk1 hS => ?_)
  obtain ⟨hP1, hD1⟩ := hB
  rw [ht] at hP1
  obtain ⟨hP, hD⟩ := va_join (wr := [(sl, .inl (k.2.1, 3, .inl g1)), (sp, .inr (6, P2)), (sl2, .inl (k.2.1, 3, .inl g2)), (tp, .inl (k.1, 1600, .inl g3)), (rd, .inr (7, Rd)), (tk, .inr (9, K)), (ln, .inr (3, N)), (fo, .inl (k.2.1, 3, .inl g4)), (ea, .inr (1, E)), (nw, .inl (k.2.1, 10, .inl f1)), (kp, .inl (k.2.1, 410, .inl f2)), (bx, .inl (k.2.1, 30, .inl f3)), (si, .inr (8, Z)), (ytp, .inl (k.2.1, 1600, .inl ym1)), (yns, .inl (k.2.1, 3, .inl ym2)), (yss, .inl (k.2.1, 3, .inl ym3)), (ynw, .inl (k.2.1, 16, .inl ym4)), (ywe, .inl (k.2.1, 640, .inl ym5)), (yhbx, .inl (k.2.2.2, 3, .inl ym6)), (ybx, .inl (k.2.1, 48, .inl ym7))]) (w1 := []) hP hD [13] [0, 1, 2, 3, 4, 5, 6, 7, 8, 9, 10, 11, 12, 14, 15, 16, 17, 18, 19, 20] rfl rfl (by decide) (by decide) hk1 hFc hP1 hD1
  generalize H1 = H at hP hS ⊢
  have hP : va_P D classes [(sl, .inl (k.2.1, 3, .inl g1)), (sp, .inr (6, P2)), (sl2, .inl (k.2.1, 3, .inl g2)), (tp, .inl (k.1, 1600, .inl g3)), (rd, .inr (7, Rd)), (tk, .inr (9, K)), (ln, .inr (3, N)), (fo, .inl (k.2.1, 3, .inl g4)), (ea, .inr (1, E)), (nw, .inl (k.2.1, 10, .inl f1)), (kp, .inl (k.2.1, 410, .inl f2)), (bx, .inl (k.2.1, 30, .inl f3)), (si, .inr (8, Z)), (ytp, .inl (k.2.1, 1600, .inl ym1)), (yns, .inl (k.2.1, 3, .inl ym2)), (yss, .inl (k.2.1, 3, .inl ym3)), (ynw, .inl (k.2.1, 16, .inl ym4)), (ywe, .inl (k.2.1, 640, .inl ym5)), (yhbx, .inl (k.2.2.2, 3, .inl ym6)), (ybx, .inl (k.2.1, 48, .inl ym7))] H := hP
  have hD : va_D A [(sl, .inl (k.2.1, 3, .inl g1)), (sp, .inr (6, P2)), (sl2, .inl (k.2.1, 3, .inl g2)), (tp, .inl (k.1, 1600, .inl g3)), (rd, .inr (7, Rd)), (tk, .inr (9, K)), (ln, .inr (3, N)), (fo, .inl (k.2.1, 3, .inl g4)), (ea, .inr (1, E)), (nw, .inl (k.2.1, 10, .inl f1)), (kp, .inl (k.2.1, 410, .inl f2)), (bx, .inl (k.2.1, 30, .inl f3)), (si, .inr (8, Z)), (ytp, .inl (k.2.1, 1600, .inl ym1)), (yns, .inl (k.2.1, 3, .inl ym2)), (yss, .inl (k.2.1, 3, .inl ym3)), (ynw, .inl (k.2.1, 16, .inl ym4)), (ywe, .inl (k.2.1, 640, .inl ym5)), (yhbx, .inl (k.2.2.2, 3, .inl ym6)), (ybx, .inl (k.2.1, 48, .inl ym7))] := hD
  refine W.widen (k := 119) (n := 46443) (Nat.le_of_ble_eq_true rfl) (Nat.le_of_ble_eq_true rfl) ?_
  have hw9 := hw.symm; subst hw9
  refine W.lcmp hx hb dL_law_1078 ?_
  refine lv_if_eq (tgt := 1645) hx hb dL_law_1079 (by decide) (fun c_23 => ?_) (fun c_23 => ?_)
  · have c_23 : ((lg_cmp (-1) (-1)) : Int32) = 0 := c_23
    exact law_tail rfl C0 hKX hA hA2 hbA hS (lv_sub hl [0, 1, 2, 3] rfl)
  · exact absurd (lg_same rfl) c_23

set_option maxHeartbeats 4000000 in
set_option maxRecDepth 100000 in
theorem law_19 {p : Program} {l : Launch} {e : Env} {s : State} {m : MethodId} {below : List Frame} {meth : Method} {c : Code} {D : va_G} {k : ClassId × ClassId × ClassId × ClassId} {A : Nat → Prop} {b L : Nat} {xs : Nat → Int32} (hL : L = 6) (C0 : lw_At p s m meth c b L xs) (hKX : va_K D classes (TY k) s ∧ cX s) (hA : ∀ q : Nat, s.heap.size ≤ q → A q) (hA2 : ∀ q : Nat, A q → s.heap.size ≤ q) (hbA : ¬ A b) {x y : Nat} {H : Heap} {locs : List Loc} (hF : Fresh D k A x y H) (hS : va_S A s.heap H locs) {ls : Array Slot} (hl : lv_has ls 4 [(0, .ref b), (1, .ref x), (2, .ref y), (3, .int 0)]) : W p l e room_1 s m #[Value.ref b] below meth c H locs 119 46443 (lw_Z below #[Value.ref b] s) (F0 m 1084 ls []) := by
  obtain ⟨hx, hb, hr, hml, hown, hts, hX, hbl, hlocks, hgv⟩ := id C0
  have hown : s.vm.findClass RL = some m.cls := hown
  have hK := hKX.1
  have hgd : ∀ w ∈ gd, w ∈ lw_tbl := fun w h => (List.mem_filter.mp h).1
  have hg : ∀ w ∈ gd, w.before #[Value.ref b] s = true := fun w h => hts w (hgd w h)
  subst hL
  obtain ⟨F, pv, P, sl, g1, sp, P2, sl2, g2, tp, g3, rd, Rd, tk, K, ln, N, fo, g4, ea, E, nw, f1, kp, f2, bx, f3, si, Z, yM, ytp, ym1, yns, ym2, yss, ym3, ynw, ym4, ywe, ym5, yhbx, ym6, ybx, ym7, hf_0, hf_1, hf_2, hf_3, hf_4, hf_6, hf_7, hf_8, hf_10, hf_11, hf_14, hf_15, hf_18, hf_19, hf_21, hP, hD⟩ := hF
  have u_0_0 : F[0]? = some (.ref pv) := hf_0.1
  have u_1_10 : P[10]? = some (.int 0) := hf_1.1
  have u_15_53 : yM[53]? = some (.int 0) := hf_15.2.2.2.2.2.2.2.2.2.2.2.2.2.2.2.2.2.2.1
  have hin1 : vp_in 1 6 := (show ¬ ((1 : Int32) < 0 ∨ 6 ≤ (1 : Int32).toNatClampNeg) from by decide)
  have hin2 : vp_in 2 6 := (show ¬ ((2 : Int32) < 0 ∨ 6 ≤ (2 : Int32).toNatClampNeg) from by decide)
  have hin3 : vp_in 3 6 := (show ¬ ((3 : Int32) < 0 ∨ 6 ≤ (3 : Int32).toNatClampNeg) from by decide)
  have hin4 : vp_in 4 6 := (show ¬ ((4 : Int32) < 0 ∨ 6 ≤ (4 : Int32).toNatClampNeg) from by decide)
  have hin5 : vp_in 5 6 := (show ¬ ((5 : Int32) < 0 ∨ 6 ≤ (5 : Int32).toNatClampNeg) from by decide)
  obtain ⟨p0, hp0⟩ : ∃ z, z = xs 1 := ⟨_, rfl⟩
  obtain ⟨p1, hp1⟩ : ∃ z, z = xs 2 := ⟨_, rfl⟩
  obtain ⟨p2, hp2⟩ : ∃ z, z = xs 3 := ⟨_, rfl⟩
  obtain ⟨p3, hp3⟩ : ∃ z, z = xs 4 := ⟨_, rfl⟩
  obtain ⟨p4, hp4⟩ : ∃ z, z = xs 5 := ⟨_, rfl⟩
  refine lv_aload_n hx hb dL_law_1084 rfl (lv_at hl 1 rfl) ?_
  refine lv_aload_n hx hb dL_law_1085 rfl (lv_at hl 0 rfl) ?_
  refine lv_iload_n hx hb dL_law_1086 rfl (lv_at hl 3 rfl) ?_
  refine lv_iconst (v := 1) hx hb dL_law_1087 (by decide) ?_
  refine lv_iadd hx hb dL_law_1088 ?_
  refine lv_topi (fun y_1 ey_1 => ?_)
  obtain rfl : y_1 = 1 := ey_1.trans (by decide)
  refine va_sld hx hb hX hbl hbA hS hin1 dL_law_1089 ?_
  refine lv_topi (fun y_2 ey_2 => ?_)
  rw [show y_2 = p0 from ey_2.trans hp0.symm]
  refine lv_aload_n hx hb dL_law_1090 rfl (lv_at hl 0 rfl) ?_
  refine lv_iload_n hx hb dL_law_1091 rfl (lv_at hl 3 rfl) ?_
  refine lv_iconst (v := 2) hx hb dL_law_1092 (by decide) ?_
  refine lv_iadd hx hb dL_law_1093 ?_
  refine lv_topi (fun y_3 ey_3 => ?_)
  obtain rfl : y_3 = 2 := ey_3.trans (by decide)
  refine va_sld hx hb hX hbl hbA hS hin2 dL_law_1094 ?_
  refine lv_topi (fun y_4 ey_4 => ?_)
  rw [show y_4 = p1 from ey_4.trans hp1.symm]
  refine lv_aload_n hx hb dL_law_1095 rfl (lv_at hl 0 rfl) ?_
  refine lv_iload_n hx hb dL_law_1096 rfl (lv_at hl 3 rfl) ?_
  refine lv_iconst (v := 3) hx hb dL_law_1097 (by decide) ?_
  refine lv_iadd hx hb dL_law_1098 ?_
  refine lv_topi (fun y_5 ey_5 => ?_)
  obtain rfl : y_5 = 3 := ey_5.trans (by decide)
  refine va_sld hx hb hX hbl hbA hS hin3 dL_law_1099 ?_
  refine lv_topi (fun y_6 ey_6 => ?_)
  rw [show y_6 = p2 from ey_6.trans hp2.symm]
  refine lv_aload_n hx hb dL_law_1100 rfl (lv_at hl 0 rfl) ?_
  refine lv_iload_n hx hb dL_law_1101 rfl (lv_at hl 3 rfl) ?_
  refine lv_iconst (v := 4) hx hb dL_law_1102 (by decide) ?_
  refine lv_iadd hx hb dL_law_1103 ?_
  refine lv_topi (fun y_7 ey_7 => ?_)
  obtain rfl : y_7 = 4 := ey_7.trans (by decide)
  refine va_sld hx hb hX hbl hbA hS hin4 dL_law_1104 ?_
  refine lv_topi (fun y_8 ey_8 => ?_)
  rw [show y_8 = p3 from ey_8.trans hp3.symm]
  refine lv_aload_n hx hb dL_law_1105 rfl (lv_at hl 0 rfl) ?_
  refine lv_iload_n hx hb dL_law_1106 rfl (lv_at hl 3 rfl) ?_
  refine lv_iconst (v := 5) hx hb dL_law_1107 (by decide) ?_
  refine lv_iadd hx hb dL_law_1108 ?_
  refine lv_topi (fun y_9 ey_9 => ?_)
  obtain rfl : y_9 = 5 := ey_9.trans (by decide)
  refine va_sld hx hb hX hbl hbA hS hin5 dL_law_1109 ?_
  refine lv_topi (fun y_10 ey_10 => ?_)
  rw [show y_10 = p4 from ey_10.trans hp4.symm]
  have hPc := hP.sub (ws' := [(x, .inr (11, F)), (pv, .inr (6, P))]) [0, 1] rfl
  have hDc := hD.sub (ws' := [(x, .inr (11, F)), (pv, .inr (6, P))]) [0, 1] (by decide) rfl
  have hFc := va_free (wc := [(x, .inr (11, F)), (pv, .inr (6, P))]) hD hS hA [0, 1] rfl
  refine va_calli (va_runV (As := [.int p0, .int p1, .int p2, .int p3, .int p4]) (rest := []) ⟨hx, hb, hml, hown, hts⟩ (c_X11_boldest l D k H.size x pv F P p0 p1 p2 p3 p4 u_0_0 u_1_10) (cwV 5 hts (gd_V hgd m1134 m1135 m1136 m117 m1137) rfl rfl rfl (by decide +kernel) ⟨Nat.le_of_ble_eq_true rfl, Nat.le_of_ble_eq_true rfl⟩) (cP_V hPc hKX hDc (ci := 11) (q0 := 0) rfl rfl) rfl rfl hl.1 rfl (lv_room (Nat.le_of_ble_eq_true rfl)) dL_law_1110 ⟨Nat.le_of_ble_eq_true rfl, Nat.le_of_ble_eq_true rfl⟩) hS (fun q _ h => hFc q h) hFc (fun r_11 u t H1 locs ht hvm hw hB hz1 hk1 hS => ?_)
  obtain ⟨hP1, hD1⟩ := hB
  rw [ht] at hP1
  obtain ⟨hP, hD⟩ := va_join (wr := [(sl, .inl (k.2.1, 3, .inl g1)), (sp, .inr (6, P2)), (sl2, .inl (k.2.1, 3, .inl g2)), (tp, .inl (k.1, 1600, .inl g3)), (rd, .inr (7, Rd)), (tk, .inr (9, K)), (ln, .inr (3, N)), (fo, .inl (k.2.1, 3, .inl g4)), (ea, .inr (1, E)), (nw, .inl (k.2.1, 10, .inl f1)), (kp, .inl (k.2.1, 410, .inl f2)), (bx, .inl (k.2.1, 30, .inl f3)), (si, .inr (8, Z)), (y, .inr (12, yM)), (ytp, .inl (k.2.1, 1600, .inl ym1)), (yns, .inl (k.2.1, 3, .inl ym2)), (yss, .inl (k.2.1, 3, .inl ym3)), (ynw, .inl (k.2.1, 16, .inl ym4)), (ywe, .inl (k.2.1, 640, .inl ym5)), (yhbx, .inl (k.2.2.2, 3, .inl ym6)), (ybx, .inl (k.2.1, 48, .inl ym7))]) (w1 := []) hP hD [0, 1] [2, 3, 4, 5, 6, 7, 8, 9, 10, 11, 12, 13, 14, 15, 16, 17, 18, 19, 20, 21, 22] rfl rfl (by decide) (by decide) hk1 hFc hP1 hD1
  generalize H1 = H at hP hS ⊢
  have hP : va_P D classes [(sl, .inl (k.2.1, 3, .inl g1)), (sp, .inr (6, P2)), (sl2, .inl (k.2.1, 3, .inl g2)), (tp, .inl (k.1, 1600, .inl g3)), (rd, .inr (7, Rd)), (tk, .inr (9, K)), (ln, .inr (3, N)), (fo, .inl (k.2.1, 3, .inl g4)), (ea, .inr (1, E)), (nw, .inl (k.2.1, 10, .inl f1)), (kp, .inl (k.2.1, 410, .inl f2)), (bx, .inl (k.2.1, 30, .inl f3)), (si, .inr (8, Z)), (y, .inr (12, yM)), (ytp, .inl (k.2.1, 1600, .inl ym1)), (yns, .inl (k.2.1, 3, .inl ym2)), (yss, .inl (k.2.1, 3, .inl ym3)), (ynw, .inl (k.2.1, 16, .inl ym4)), (ywe, .inl (k.2.1, 640, .inl ym5)), (yhbx, .inl (k.2.2.2, 3, .inl ym6)), (ybx, .inl (k.2.1, 48, .inl ym7))] H := hP
  have hD : va_D A [(sl, .inl (k.2.1, 3, .inl g1)), (sp, .inr (6, P2)), (sl2, .inl (k.2.1, 3, .inl g2)), (tp, .inl (k.1, 1600, .inl g3)), (rd, .inr (7, Rd)), (tk, .inr (9, K)), (ln, .inr (3, N)), (fo, .inl (k.2.1, 3, .inl g4)), (ea, .inr (1, E)), (nw, .inl (k.2.1, 10, .inl f1)), (kp, .inl (k.2.1, 410, .inl f2)), (bx, .inl (k.2.1, 30, .inl f3)), (si, .inr (8, Z)), (y, .inr (12, yM)), (ytp, .inl (k.2.1, 1600, .inl ym1)), (yns, .inl (k.2.1, 3, .inl ym2)), (yss, .inl (k.2.1, 3, .inl ym3)), (ynw, .inl (k.2.1, 16, .inl ym4)), (ywe, .inl (k.2.1, 640, .inl ym5)), (yhbx, .inl (k.2.2.2, 3, .inl ym6)), (ybx, .inl (k.2.1, 48, .inl ym7))] := hD
  refine W.widen (k := 119) (n := 46443) (Nat.le_of_ble_eq_true rfl) (Nat.le_of_ble_eq_true rfl) ?_
  have hw9 := hw.symm; subst hw9
  refine lv_aload_n hx hb dL_law_1113 rfl (lv_at hl 2 rfl) ?_
  refine lv_aload_n hx hb dL_law_1114 rfl (lv_at hl 0 rfl) ?_
  refine lv_iload_n hx hb dL_law_1115 rfl (lv_at hl 3 rfl) ?_
  refine lv_iconst (v := 1) hx hb dL_law_1116 (by decide) ?_
  refine lv_iadd hx hb dL_law_1117 ?_
  refine lv_topi (fun y_12 ey_12 => ?_)
  obtain rfl : y_12 = 1 := ey_12.trans (by decide)
  refine va_sld hx hb hX hbl hbA hS hin1 dL_law_1118 ?_
  refine lv_topi (fun y_13 ey_13 => ?_)
  rw [show y_13 = p0 from ey_13.trans hp0.symm]
  refine lv_aload_n hx hb dL_law_1119 rfl (lv_at hl 0 rfl) ?_
  refine lv_iload_n hx hb dL_law_1120 rfl (lv_at hl 3 rfl) ?_
  refine lv_iconst (v := 2) hx hb dL_law_1121 (by decide) ?_
  refine lv_iadd hx hb dL_law_1122 ?_
  refine lv_topi (fun y_14 ey_14 => ?_)
  obtain rfl : y_14 = 2 := ey_14.trans (by decide)
  refine va_sld hx hb hX hbl hbA hS hin2 dL_law_1123 ?_
  refine lv_topi (fun y_15 ey_15 => ?_)
  rw [show y_15 = p1 from ey_15.trans hp1.symm]
  refine lv_aload_n hx hb dL_law_1124 rfl (lv_at hl 0 rfl) ?_
  refine lv_iload_n hx hb dL_law_1125 rfl (lv_at hl 3 rfl) ?_
  refine lv_iconst (v := 3) hx hb dL_law_1126 (by decide) ?_
  refine lv_iadd hx hb dL_law_1127 ?_
  refine lv_topi (fun y_16 ey_16 => ?_)
  obtain rfl : y_16 = 3 := ey_16.trans (by decide)
  refine va_sld hx hb hX hbl hbA hS hin3 dL_law_1128 ?_
  refine lv_topi (fun y_17 ey_17 => ?_)
  rw [show y_17 = p2 from ey_17.trans hp2.symm]
  refine lv_aload_n hx hb dL_law_1129 rfl (lv_at hl 0 rfl) ?_
  refine lv_iload_n hx hb dL_law_1130 rfl (lv_at hl 3 rfl) ?_
  refine lv_iconst (v := 4) hx hb dL_law_1131 (by decide) ?_
  refine lv_iadd hx hb dL_law_1132 ?_
  refine lv_topi (fun y_18 ey_18 => ?_)
  obtain rfl : y_18 = 4 := ey_18.trans (by decide)
  refine va_sld hx hb hX hbl hbA hS hin4 dL_law_1133 ?_
  refine lv_topi (fun y_19 ey_19 => ?_)
  rw [show y_19 = p3 from ey_19.trans hp3.symm]
  refine lv_aload_n hx hb dL_law_1134 rfl (lv_at hl 0 rfl) ?_
  refine lv_iload_n hx hb dL_law_1135 rfl (lv_at hl 3 rfl) ?_
  refine lv_iconst (v := 5) hx hb dL_law_1136 (by decide) ?_
  refine lv_iadd hx hb dL_law_1137 ?_
  refine lv_topi (fun y_20 ey_20 => ?_)
  obtain rfl : y_20 = 5 := ey_20.trans (by decide)
  refine va_sld hx hb hX hbl hbA hS hin5 dL_law_1138 ?_
  refine lv_topi (fun y_21 ey_21 => ?_)
  rw [show y_21 = p4 from ey_21.trans hp4.symm]
  have hPc := hP.sub (ws' := [(y, .inr (12, yM))]) [13] rfl
  have hDc := hD.sub (ws' := [(y, .inr (12, yM))]) [13] (by decide) rfl
  have hFc := va_free (wc := [(y, .inr (12, yM))]) hD hS hA [13] rfl
  refine va_calli (va_runV (As := [.int p0, .int p1, .int p2, .int p3, .int p4]) (rest := [.int (-1)]) ⟨hx, hb, hml, hown, hts⟩ (c_X12_boldest l D k H.size y yM p0 p1 p2 p3 p4 u_15_53) (cwV 5 hts (gd_V hgd m1963 m1964 m1965 m131 m1966) rfl rfl rfl (by decide +kernel) ⟨Nat.le_of_ble_eq_true rfl, Nat.le_of_ble_eq_true rfl⟩) (cP_V hPc hKX hDc (ci := 12) (q0 := 0) rfl rfl) rfl rfl hl.1 rfl (lv_room (Nat.le_of_ble_eq_true rfl)) dL_law_1139 ⟨Nat.le_of_ble_eq_true rfl, Nat.le_of_ble_eq_true rfl⟩) hS (fun q _ h => hFc q h) hFc (fun r_22 u t H1 locs ht hvm hw hB hz1 hk1 hS => ?_)
  obtain ⟨hP1, hD1⟩ := hB
  rw [ht] at hP1
  obtain ⟨hP, hD⟩ := va_join (wr := [(sl, .inl (k.2.1, 3, .inl g1)), (sp, .inr (6, P2)), (sl2, .inl (k.2.1, 3, .inl g2)), (tp, .inl (k.1, 1600, .inl g3)), (rd, .inr (7, Rd)), (tk, .inr (9, K)), (ln, .inr (3, N)), (fo, .inl (k.2.1, 3, .inl g4)), (ea, .inr (1, E)), (nw, .inl (k.2.1, 10, .inl f1)), (kp, .inl (k.2.1, 410, .inl f2)), (bx, .inl (k.2.1, 30, .inl f3)), (si, .inr (8, Z)), (ytp, .inl (k.2.1, 1600, .inl ym1)), (yns, .inl (k.2.1, 3, .inl ym2)), (yss, .inl (k.2.1, 3, .inl ym3)), (ynw, .inl (k.2.1, 16, .inl ym4)), (ywe, .inl (k.2.1, 640, .inl ym5)), (yhbx, .inl (k.2.2.2, 3, .inl ym6)), (ybx, .inl (k.2.1, 48, .inl ym7))]) (w1 := []) hP hD [13] [0, 1, 2, 3, 4, 5, 6, 7, 8, 9, 10, 11, 12, 14, 15, 16, 17, 18, 19, 20] rfl rfl (by decide) (by decide) hk1 hFc hP1 hD1
  generalize H1 = H at hP hS ⊢
  have hP : va_P D classes [(sl, .inl (k.2.1, 3, .inl g1)), (sp, .inr (6, P2)), (sl2, .inl (k.2.1, 3, .inl g2)), (tp, .inl (k.1, 1600, .inl g3)), (rd, .inr (7, Rd)), (tk, .inr (9, K)), (ln, .inr (3, N)), (fo, .inl (k.2.1, 3, .inl g4)), (ea, .inr (1, E)), (nw, .inl (k.2.1, 10, .inl f1)), (kp, .inl (k.2.1, 410, .inl f2)), (bx, .inl (k.2.1, 30, .inl f3)), (si, .inr (8, Z)), (ytp, .inl (k.2.1, 1600, .inl ym1)), (yns, .inl (k.2.1, 3, .inl ym2)), (yss, .inl (k.2.1, 3, .inl ym3)), (ynw, .inl (k.2.1, 16, .inl ym4)), (ywe, .inl (k.2.1, 640, .inl ym5)), (yhbx, .inl (k.2.2.2, 3, .inl ym6)), (ybx, .inl (k.2.1, 48, .inl ym7))] H := hP
  have hD : va_D A [(sl, .inl (k.2.1, 3, .inl g1)), (sp, .inr (6, P2)), (sl2, .inl (k.2.1, 3, .inl g2)), (tp, .inl (k.1, 1600, .inl g3)), (rd, .inr (7, Rd)), (tk, .inr (9, K)), (ln, .inr (3, N)), (fo, .inl (k.2.1, 3, .inl g4)), (ea, .inr (1, E)), (nw, .inl (k.2.1, 10, .inl f1)), (kp, .inl (k.2.1, 410, .inl f2)), (bx, .inl (k.2.1, 30, .inl f3)), (si, .inr (8, Z)), (ytp, .inl (k.2.1, 1600, .inl ym1)), (yns, .inl (k.2.1, 3, .inl ym2)), (yss, .inl (k.2.1, 3, .inl ym3)), (ynw, .inl (k.2.1, 16, .inl ym4)), (ywe, .inl (k.2.1, 640, .inl ym5)), (yhbx, .inl (k.2.2.2, 3, .inl ym6)), (ybx, .inl (k.2.1, 48, .inl ym7))] := hD
  refine W.widen (k := 119) (n := 46443) (Nat.le_of_ble_eq_true rfl) (Nat.le_of_ble_eq_true rfl) ?_
  have hw9 := hw.symm; subst hw9
  refine lv_icmp_eq (tgt := 1645) hx hb dL_law_1142 (by decide) (fun c_23 => ?_) (fun c_23 => ?_)
  · have c_23 : ((-1) : Int32) = (-1) := c_23
    exact law_tail rfl C0 hKX hA hA2 hbA hS (lv_sub hl [0, 1, 2, 3] rfl)
  · exact absurd rfl c_23

set_option maxHeartbeats 4000000 in
set_option maxRecDepth 100000 in
theorem law_20 {p : Program} {l : Launch} {e : Env} {s : State} {m : MethodId} {below : List Frame} {meth : Method} {c : Code} {D : va_G} {k : ClassId × ClassId × ClassId × ClassId} {A : Nat → Prop} {b L : Nat} {xs : Nat → Int32} (hL : L = 6) (C0 : lw_At p s m meth c b L xs) (hKX : va_K D classes (TY k) s ∧ cX s) (hA : ∀ q : Nat, s.heap.size ≤ q → A q) (hA2 : ∀ q : Nat, A q → s.heap.size ≤ q) (hbA : ¬ A b) {x y : Nat} {H : Heap} {locs : List Loc} (hF : Fresh D k A x y H) (hS : va_S A s.heap H locs) {ls : Array Slot} (hl : lv_has ls 4 [(0, .ref b), (1, .ref x), (2, .ref y), (3, .int 0)]) : W p l e room_1 s m #[Value.ref b] below meth c H locs 119 46443 (lw_Z below #[Value.ref b] s) (F0 m 1147 ls []) := by
  obtain ⟨hx, hb, hr, hml, hown, hts, hX, hbl, hlocks, hgv⟩ := id C0
  have hown : s.vm.findClass RL = some m.cls := hown
  have hK := hKX.1
  have hgd : ∀ w ∈ gd, w ∈ lw_tbl := fun w h => (List.mem_filter.mp h).1
  have hg : ∀ w ∈ gd, w.before #[Value.ref b] s = true := fun w h => hts w (hgd w h)
  subst hL
  obtain ⟨F, pv, P, sl, g1, sp, P2, sl2, g2, tp, g3, rd, Rd, tk, K, ln, N, fo, g4, ea, E, nw, f1, kp, f2, bx, f3, si, Z, yM, ytp, ym1, yns, ym2, yss, ym3, ynw, ym4, ywe, ym5, yhbx, ym6, ybx, ym7, hf_0, hf_1, hf_2, hf_3, hf_4, hf_6, hf_7, hf_8, hf_10, hf_11, hf_14, hf_15, hf_18, hf_19, hf_21, hP, hD⟩ := hF
  have u_0_0 : F[0]? = some (.ref pv) := hf_0.1
  have u_1_10 : P[10]? = some (.int 0) := hf_1.1
  have u_15_53 : yM[53]? = some (.int 0) := hf_15.2.2.2.2.2.2.2.2.2.2.2.2.2.2.2.2.2.2.1
  have hin1 : vp_in 1 6 := (show ¬ ((1 : Int32) < 0 ∨ 6 ≤ (1 : Int32).toNatClampNeg) from by decide)
  have hin2 : vp_in 2 6 := (show ¬ ((2 : Int32) < 0 ∨ 6 ≤ (2 : Int32).toNatClampNeg) from by decide)
  have hin3 : vp_in 3 6 := (show ¬ ((3 : Int32) < 0 ∨ 6 ≤ (3 : Int32).toNatClampNeg) from by decide)
  have hin4 : vp_in 4 6 := (show ¬ ((4 : Int32) < 0 ∨ 6 ≤ (4 : Int32).toNatClampNeg) from by decide)
  have hin5 : vp_in 5 6 := (show ¬ ((5 : Int32) < 0 ∨ 6 ≤ (5 : Int32).toNatClampNeg) from by decide)
  obtain ⟨p0, hp0⟩ : ∃ z, z = xs 1 := ⟨_, rfl⟩
  obtain ⟨p1, hp1⟩ : ∃ z, z = xs 2 := ⟨_, rfl⟩
  obtain ⟨p2, hp2⟩ : ∃ z, z = xs 3 := ⟨_, rfl⟩
  obtain ⟨p3, hp3⟩ : ∃ z, z = xs 4 := ⟨_, rfl⟩
  obtain ⟨p4, hp4⟩ : ∃ z, z = xs 5 := ⟨_, rfl⟩
  refine lv_aload_n hx hb dL_law_1147 rfl (lv_at hl 1 rfl) ?_
  refine lv_aload_n hx hb dL_law_1148 rfl (lv_at hl 0 rfl) ?_
  refine lv_iload_n hx hb dL_law_1149 rfl (lv_at hl 3 rfl) ?_
  refine lv_iconst (v := 1) hx hb dL_law_1150 (by decide) ?_
  refine lv_iadd hx hb dL_law_1151 ?_
  refine lv_topi (fun y_1 ey_1 => ?_)
  obtain rfl : y_1 = 1 := ey_1.trans (by decide)
  refine va_sld hx hb hX hbl hbA hS hin1 dL_law_1152 ?_
  refine lv_topi (fun y_2 ey_2 => ?_)
  rw [show y_2 = p0 from ey_2.trans hp0.symm]
  refine lv_aload_n hx hb dL_law_1153 rfl (lv_at hl 0 rfl) ?_
  refine lv_iload_n hx hb dL_law_1154 rfl (lv_at hl 3 rfl) ?_
  refine lv_iconst (v := 2) hx hb dL_law_1155 (by decide) ?_
  refine lv_iadd hx hb dL_law_1156 ?_
  refine lv_topi (fun y_3 ey_3 => ?_)
  obtain rfl : y_3 = 2 := ey_3.trans (by decide)
  refine va_sld hx hb hX hbl hbA hS hin2 dL_law_1157 ?_
  refine lv_topi (fun y_4 ey_4 => ?_)
  rw [show y_4 = p1 from ey_4.trans hp1.symm]
  refine lv_aload_n hx hb dL_law_1158 rfl (lv_at hl 0 rfl) ?_
  refine lv_iload_n hx hb dL_law_1159 rfl (lv_at hl 3 rfl) ?_
  refine lv_iconst (v := 3) hx hb dL_law_1160 (by decide) ?_
  refine lv_iadd hx hb dL_law_1161 ?_
  refine lv_topi (fun y_5 ey_5 => ?_)
  obtain rfl : y_5 = 3 := ey_5.trans (by decide)
  refine va_sld hx hb hX hbl hbA hS hin3 dL_law_1162 ?_
  refine lv_topi (fun y_6 ey_6 => ?_)
  rw [show y_6 = p2 from ey_6.trans hp2.symm]
  refine lv_aload_n hx hb dL_law_1163 rfl (lv_at hl 0 rfl) ?_
  refine lv_iload_n hx hb dL_law_1164 rfl (lv_at hl 3 rfl) ?_
  refine lv_iconst (v := 4) hx hb dL_law_1165 (by decide) ?_
  refine lv_iadd hx hb dL_law_1166 ?_
  refine lv_topi (fun y_7 ey_7 => ?_)
  obtain rfl : y_7 = 4 := ey_7.trans (by decide)
  refine va_sld hx hb hX hbl hbA hS hin4 dL_law_1167 ?_
  refine lv_topi (fun y_8 ey_8 => ?_)
  rw [show y_8 = p3 from ey_8.trans hp3.symm]
  have hPc := hP.sub (ws' := [(x, .inr (11, F)), (pv, .inr (6, P))]) [0, 1] rfl
  have hDc := hD.sub (ws' := [(x, .inr (11, F)), (pv, .inr (6, P))]) [0, 1] (by decide) rfl
  have hFc := va_free (wc := [(x, .inr (11, F)), (pv, .inr (6, P))]) hD hS hA [0, 1] rfl
  refine va_calli (va_runV (As := [.int p0, .int p1, .int p2, .int p3]) (rest := []) ⟨hx, hb, hml, hown, hts⟩ (c_X11_wager l D k H.size x pv F P p0 p1 p2 p3 u_0_0 u_1_10) (cwV 4 hts (gd_V hgd m1142 m1143 m1144 m117 m1145) rfl rfl rfl (by decide +kernel) ⟨Nat.le_of_ble_eq_true rfl, Nat.le_of_ble_eq_true rfl⟩) (cP_V hPc hKX hDc (ci := 11) (q0 := 0) rfl rfl) rfl rfl hl.1 rfl (lv_room (Nat.le_of_ble_eq_true rfl)) dL_law_1168 ⟨Nat.le_of_ble_eq_true rfl, Nat.le_of_ble_eq_true rfl⟩) hS (fun q _ h => hFc q h) hFc (fun r_9 u t H1 locs ht hvm hw hB hz1 hk1 hS => ?_)
  obtain ⟨hP1, hD1⟩ := hB
  rw [ht] at hP1
  obtain ⟨hP, hD⟩ := va_join (wr := [(sl, .inl (k.2.1, 3, .inl g1)), (sp, .inr (6, P2)), (sl2, .inl (k.2.1, 3, .inl g2)), (tp, .inl (k.1, 1600, .inl g3)), (rd, .inr (7, Rd)), (tk, .inr (9, K)), (ln, .inr (3, N)), (fo, .inl (k.2.1, 3, .inl g4)), (ea, .inr (1, E)), (nw, .inl (k.2.1, 10, .inl f1)), (kp, .inl (k.2.1, 410, .inl f2)), (bx, .inl (k.2.1, 30, .inl f3)), (si, .inr (8, Z)), (y, .inr (12, yM)), (ytp, .inl (k.2.1, 1600, .inl ym1)), (yns, .inl (k.2.1, 3, .inl ym2)), (yss, .inl (k.2.1, 3, .inl ym3)), (ynw, .inl (k.2.1, 16, .inl ym4)), (ywe, .inl (k.2.1, 640, .inl ym5)), (yhbx, .inl (k.2.2.2, 3, .inl ym6)), (ybx, .inl (k.2.1, 48, .inl ym7))]) (w1 := []) hP hD [0, 1] [2, 3, 4, 5, 6, 7, 8, 9, 10, 11, 12, 13, 14, 15, 16, 17, 18, 19, 20, 21, 22] rfl rfl (by decide) (by decide) hk1 hFc hP1 hD1
  generalize H1 = H at hP hS ⊢
  have hP : va_P D classes [(sl, .inl (k.2.1, 3, .inl g1)), (sp, .inr (6, P2)), (sl2, .inl (k.2.1, 3, .inl g2)), (tp, .inl (k.1, 1600, .inl g3)), (rd, .inr (7, Rd)), (tk, .inr (9, K)), (ln, .inr (3, N)), (fo, .inl (k.2.1, 3, .inl g4)), (ea, .inr (1, E)), (nw, .inl (k.2.1, 10, .inl f1)), (kp, .inl (k.2.1, 410, .inl f2)), (bx, .inl (k.2.1, 30, .inl f3)), (si, .inr (8, Z)), (y, .inr (12, yM)), (ytp, .inl (k.2.1, 1600, .inl ym1)), (yns, .inl (k.2.1, 3, .inl ym2)), (yss, .inl (k.2.1, 3, .inl ym3)), (ynw, .inl (k.2.1, 16, .inl ym4)), (ywe, .inl (k.2.1, 640, .inl ym5)), (yhbx, .inl (k.2.2.2, 3, .inl ym6)), (ybx, .inl (k.2.1, 48, .inl ym7))] H := hP
  have hD : va_D A [(sl, .inl (k.2.1, 3, .inl g1)), (sp, .inr (6, P2)), (sl2, .inl (k.2.1, 3, .inl g2)), (tp, .inl (k.1, 1600, .inl g3)), (rd, .inr (7, Rd)), (tk, .inr (9, K)), (ln, .inr (3, N)), (fo, .inl (k.2.1, 3, .inl g4)), (ea, .inr (1, E)), (nw, .inl (k.2.1, 10, .inl f1)), (kp, .inl (k.2.1, 410, .inl f2)), (bx, .inl (k.2.1, 30, .inl f3)), (si, .inr (8, Z)), (y, .inr (12, yM)), (ytp, .inl (k.2.1, 1600, .inl ym1)), (yns, .inl (k.2.1, 3, .inl ym2)), (yss, .inl (k.2.1, 3, .inl ym3)), (ynw, .inl (k.2.1, 16, .inl ym4)), (ywe, .inl (k.2.1, 640, .inl ym5)), (yhbx, .inl (k.2.2.2, 3, .inl ym6)), (ybx, .inl (k.2.1, 48, .inl ym7))] := hD
  refine W.widen (k := 119) (n := 46443) (Nat.le_of_ble_eq_true rfl) (Nat.le_of_ble_eq_true rfl) ?_
  have hw9 := hw.symm; subst hw9
  refine lv_aload_n hx hb dL_law_1171 rfl (lv_at hl 2 rfl) ?_
  refine lv_aload_n hx hb dL_law_1172 rfl (lv_at hl 0 rfl) ?_
  refine lv_iload_n hx hb dL_law_1173 rfl (lv_at hl 3 rfl) ?_
  refine lv_iconst (v := 1) hx hb dL_law_1174 (by decide) ?_
  refine lv_iadd hx hb dL_law_1175 ?_
  refine lv_topi (fun y_10 ey_10 => ?_)
  obtain rfl : y_10 = 1 := ey_10.trans (by decide)
  refine va_sld hx hb hX hbl hbA hS hin1 dL_law_1176 ?_
  refine lv_topi (fun y_11 ey_11 => ?_)
  rw [show y_11 = p0 from ey_11.trans hp0.symm]
  refine lv_aload_n hx hb dL_law_1177 rfl (lv_at hl 0 rfl) ?_
  refine lv_iload_n hx hb dL_law_1178 rfl (lv_at hl 3 rfl) ?_
  refine lv_iconst (v := 2) hx hb dL_law_1179 (by decide) ?_
  refine lv_iadd hx hb dL_law_1180 ?_
  refine lv_topi (fun y_12 ey_12 => ?_)
  obtain rfl : y_12 = 2 := ey_12.trans (by decide)
  refine va_sld hx hb hX hbl hbA hS hin2 dL_law_1181 ?_
  refine lv_topi (fun y_13 ey_13 => ?_)
  rw [show y_13 = p1 from ey_13.trans hp1.symm]
  refine lv_aload_n hx hb dL_law_1182 rfl (lv_at hl 0 rfl) ?_
  refine lv_iload_n hx hb dL_law_1183 rfl (lv_at hl 3 rfl) ?_
  refine lv_iconst (v := 3) hx hb dL_law_1184 (by decide) ?_
  refine lv_iadd hx hb dL_law_1185 ?_
  refine lv_topi (fun y_14 ey_14 => ?_)
  obtain rfl : y_14 = 3 := ey_14.trans (by decide)
  refine va_sld hx hb hX hbl hbA hS hin3 dL_law_1186 ?_
  refine lv_topi (fun y_15 ey_15 => ?_)
  rw [show y_15 = p2 from ey_15.trans hp2.symm]
  refine lv_aload_n hx hb dL_law_1187 rfl (lv_at hl 0 rfl) ?_
  refine lv_iload_n hx hb dL_law_1188 rfl (lv_at hl 3 rfl) ?_
  refine lv_iconst (v := 4) hx hb dL_law_1189 (by decide) ?_
  refine lv_iadd hx hb dL_law_1190 ?_
  refine lv_topi (fun y_16 ey_16 => ?_)
  obtain rfl : y_16 = 4 := ey_16.trans (by decide)
  refine va_sld hx hb hX hbl hbA hS hin4 dL_law_1191 ?_
  refine lv_topi (fun y_17 ey_17 => ?_)
  rw [show y_17 = p3 from ey_17.trans hp3.symm]
  have hPc := hP.sub (ws' := [(y, .inr (12, yM))]) [13] rfl
  have hDc := hD.sub (ws' := [(y, .inr (12, yM))]) [13] (by decide) rfl
  have hFc := va_free (wc := [(y, .inr (12, yM))]) hD hS hA [13] rfl
  refine va_calli (va_runV (As := [.int p0, .int p1, .int p2, .int p3]) (rest := [.int (-1)]) ⟨hx, hb, hml, hown, hts⟩ (c_X12_wager l D k H.size y yM p0 p1 p2 p3 u_15_53) (cwV 4 hts (gd_V hgd m1967 m1968 m1969 m131 m1970) rfl rfl rfl (by decide +kernel) ⟨Nat.le_of_ble_eq_true rfl, Nat.le_of_ble_eq_true rfl⟩) (cP_V hPc hKX hDc (ci := 12) (q0 := 0) rfl rfl) rfl rfl hl.1 rfl (lv_room (Nat.le_of_ble_eq_true rfl)) dL_law_1192 ⟨Nat.le_of_ble_eq_true rfl, Nat.le_of_ble_eq_true rfl⟩) hS (fun q _ h => hFc q h) hFc (fun r_18 u t H1 locs ht hvm hw hB hz1 hk1 hS => ?_)
  obtain ⟨hP1, hD1⟩ := hB
  rw [ht] at hP1
  obtain ⟨hP, hD⟩ := va_join (wr := [(sl, .inl (k.2.1, 3, .inl g1)), (sp, .inr (6, P2)), (sl2, .inl (k.2.1, 3, .inl g2)), (tp, .inl (k.1, 1600, .inl g3)), (rd, .inr (7, Rd)), (tk, .inr (9, K)), (ln, .inr (3, N)), (fo, .inl (k.2.1, 3, .inl g4)), (ea, .inr (1, E)), (nw, .inl (k.2.1, 10, .inl f1)), (kp, .inl (k.2.1, 410, .inl f2)), (bx, .inl (k.2.1, 30, .inl f3)), (si, .inr (8, Z)), (ytp, .inl (k.2.1, 1600, .inl ym1)), (yns, .inl (k.2.1, 3, .inl ym2)), (yss, .inl (k.2.1, 3, .inl ym3)), (ynw, .inl (k.2.1, 16, .inl ym4)), (ywe, .inl (k.2.1, 640, .inl ym5)), (yhbx, .inl (k.2.2.2, 3, .inl ym6)), (ybx, .inl (k.2.1, 48, .inl ym7))]) (w1 := []) hP hD [13] [0, 1, 2, 3, 4, 5, 6, 7, 8, 9, 10, 11, 12, 14, 15, 16, 17, 18, 19, 20] rfl rfl (by decide) (by decide) hk1 hFc hP1 hD1
  generalize H1 = H at hP hS ⊢
  have hP : va_P D classes [(sl, .inl (k.2.1, 3, .inl g1)), (sp, .inr (6, P2)), (sl2, .inl (k.2.1, 3, .inl g2)), (tp, .inl (k.1, 1600, .inl g3)), (rd, .inr (7, Rd)), (tk, .inr (9, K)), (ln, .inr (3, N)), (fo, .inl (k.2.1, 3, .inl g4)), (ea, .inr (1, E)), (nw, .inl (k.2.1, 10, .inl f1)), (kp, .inl (k.2.1, 410, .inl f2)), (bx, .inl (k.2.1, 30, .inl f3)), (si, .inr (8, Z)), (ytp, .inl (k.2.1, 1600, .inl ym1)), (yns, .inl (k.2.1, 3, .inl ym2)), (yss, .inl (k.2.1, 3, .inl ym3)), (ynw, .inl (k.2.1, 16, .inl ym4)), (ywe, .inl (k.2.1, 640, .inl ym5)), (yhbx, .inl (k.2.2.2, 3, .inl ym6)), (ybx, .inl (k.2.1, 48, .inl ym7))] H := hP
  have hD : va_D A [(sl, .inl (k.2.1, 3, .inl g1)), (sp, .inr (6, P2)), (sl2, .inl (k.2.1, 3, .inl g2)), (tp, .inl (k.1, 1600, .inl g3)), (rd, .inr (7, Rd)), (tk, .inr (9, K)), (ln, .inr (3, N)), (fo, .inl (k.2.1, 3, .inl g4)), (ea, .inr (1, E)), (nw, .inl (k.2.1, 10, .inl f1)), (kp, .inl (k.2.1, 410, .inl f2)), (bx, .inl (k.2.1, 30, .inl f3)), (si, .inr (8, Z)), (ytp, .inl (k.2.1, 1600, .inl ym1)), (yns, .inl (k.2.1, 3, .inl ym2)), (yss, .inl (k.2.1, 3, .inl ym3)), (ynw, .inl (k.2.1, 16, .inl ym4)), (ywe, .inl (k.2.1, 640, .inl ym5)), (yhbx, .inl (k.2.2.2, 3, .inl ym6)), (ybx, .inl (k.2.1, 48, .inl ym7))] := hD
  refine W.widen (k := 119) (n := 46443) (Nat.le_of_ble_eq_true rfl) (Nat.le_of_ble_eq_true rfl) ?_
  have hw9 := hw.symm; subst hw9
  refine lv_icmp_eq (tgt := 1645) hx hb dL_law_1195 (by decide) (fun c_19 => ?_) (fun c_19 => ?_)
  · have c_19 : ((-1) : Int32) = (-1) := c_19
    exact law_tail rfl C0 hKX hA hA2 hbA hS (lv_sub hl [0, 1, 2, 3] rfl)
  · exact absurd rfl c_19

set_option maxHeartbeats 4000000 in
set_option maxRecDepth 100000 in
theorem law_21 {p : Program} {l : Launch} {e : Env} {s : State} {m : MethodId} {below : List Frame} {meth : Method} {c : Code} {D : va_G} {k : ClassId × ClassId × ClassId × ClassId} {A : Nat → Prop} {b L : Nat} {xs : Nat → Int32} (hL : L = 6) (C0 : lw_At p s m meth c b L xs) (hKX : va_K D classes (TY k) s ∧ cX s) (hA : ∀ q : Nat, s.heap.size ≤ q → A q) (hA2 : ∀ q : Nat, A q → s.heap.size ≤ q) (hbA : ¬ A b) {x y : Nat} {H : Heap} {locs : List Loc} (hF : Fresh D k A x y H) (hS : va_S A s.heap H locs) {ls : Array Slot} (hl : lv_has ls 4 [(0, .ref b), (1, .ref x), (2, .ref y), (3, .int 0)]) : W p l e room_1 s m #[Value.ref b] below meth c H locs 119 46443 (lw_Z below #[Value.ref b] s) (F0 m 1200 ls []) := by
  obtain ⟨hx, hb, hr, hml, hown, hts, hX, hbl, hlocks, hgv⟩ := id C0
  have hown : s.vm.findClass RL = some m.cls := hown
  have hK := hKX.1
  have hgd : ∀ w ∈ gd, w ∈ lw_tbl := fun w h => (List.mem_filter.mp h).1
  have hg : ∀ w ∈ gd, w.before #[Value.ref b] s = true := fun w h => hts w (hgd w h)
  subst hL
  obtain ⟨F, pv, P, sl, g1, sp, P2, sl2, g2, tp, g3, rd, Rd, tk, K, ln, N, fo, g4, ea, E, nw, f1, kp, f2, bx, f3, si, Z, yM, ytp, ym1, yns, ym2, yss, ym3, ynw, ym4, ywe, ym5, yhbx, ym6, ybx, ym7, hf_0, hf_1, hf_2, hf_3, hf_4, hf_6, hf_7, hf_8, hf_10, hf_11, hf_14, hf_15, hf_18, hf_19, hf_21, hP, hD⟩ := hF
  have u_0_0 : F[0]? = some (.ref pv) := hf_0.1
  have u_1_10 : P[10]? = some (.int 0) := hf_1.1
  have u_15_53 : yM[53]? = some (.int 0) := hf_15.2.2.2.2.2.2.2.2.2.2.2.2.2.2.2.2.2.2.1
  have hin1 : vp_in 1 6 := (show ¬ ((1 : Int32) < 0 ∨ 6 ≤ (1 : Int32).toNatClampNeg) from by decide)
  have hin2 : vp_in 2 6 := (show ¬ ((2 : Int32) < 0 ∨ 6 ≤ (2 : Int32).toNatClampNeg) from by decide)
  have hin3 : vp_in 3 6 := (show ¬ ((3 : Int32) < 0 ∨ 6 ≤ (3 : Int32).toNatClampNeg) from by decide)
  have hin4 : vp_in 4 6 := (show ¬ ((4 : Int32) < 0 ∨ 6 ≤ (4 : Int32).toNatClampNeg) from by decide)
  have hin5 : vp_in 5 6 := (show ¬ ((5 : Int32) < 0 ∨ 6 ≤ (5 : Int32).toNatClampNeg) from by decide)
  obtain ⟨p0, hp0⟩ : ∃ z, z = xs 1 := ⟨_, rfl⟩
  obtain ⟨p1, hp1⟩ : ∃ z, z = xs 2 := ⟨_, rfl⟩
  obtain ⟨p2, hp2⟩ : ∃ z, z = xs 3 := ⟨_, rfl⟩
  obtain ⟨p3, hp3⟩ : ∃ z, z = xs 4 := ⟨_, rfl⟩
  obtain ⟨p4, hp4⟩ : ∃ z, z = xs 5 := ⟨_, rfl⟩
  refine lv_aload_n hx hb dL_law_1200 rfl (lv_at hl 1 rfl) ?_
  refine lv_aload_n hx hb dL_law_1201 rfl (lv_at hl 0 rfl) ?_
  refine lv_iload_n hx hb dL_law_1202 rfl (lv_at hl 3 rfl) ?_
  refine lv_iconst (v := 1) hx hb dL_law_1203 (by decide) ?_
  refine lv_iadd hx hb dL_law_1204 ?_
  refine lv_topi (fun y_1 ey_1 => ?_)
  obtain rfl : y_1 = 1 := ey_1.trans (by decide)
  refine va_sld hx hb hX hbl hbA hS hin1 dL_law_1205 ?_
  refine lv_topi (fun y_2 ey_2 => ?_)
  rw [show y_2 = p0 from ey_2.trans hp0.symm]
  refine lv_aload_n hx hb dL_law_1206 rfl (lv_at hl 0 rfl) ?_
  refine lv_iload_n hx hb dL_law_1207 rfl (lv_at hl 3 rfl) ?_
  refine lv_iconst (v := 2) hx hb dL_law_1208 (by decide) ?_
  refine lv_iadd hx hb dL_law_1209 ?_
  refine lv_topi (fun y_3 ey_3 => ?_)
  obtain rfl : y_3 = 2 := ey_3.trans (by decide)
  refine va_sld hx hb hX hbl hbA hS hin2 dL_law_1210 ?_
  refine lv_topi (fun y_4 ey_4 => ?_)
  rw [show y_4 = p1 from ey_4.trans hp1.symm]
  have hPc := hP.sub (ws' := [(x, .inr (11, F)), (pv, .inr (6, P))]) [0, 1] rfl
  have hDc := hD.sub (ws' := [(x, .inr (11, F)), (pv, .inr (6, P))]) [0, 1] (by decide) rfl
  have hFc := va_free (wc := [(x, .inr (11, F)), (pv, .inr (6, P))]) hD hS hA [0, 1] rfl
  refine va_calli (va_runV (As := [.int p0, .int p1]) (rest := []) ⟨hx, hb, hml, hown, hts⟩ (c_X11_leave l D k H.size x pv F P p0 p1 u_0_0 u_1_10) (cwV 2 hts (gd_V hgd m1162 m1163 m1164 m117 m1165) rfl rfl rfl (by decide +kernel) ⟨Nat.le_of_ble_eq_true rfl, Nat.le_of_ble_eq_true rfl⟩) (cP_V hPc hKX hDc (ci := 11) (q0 := 0) rfl rfl) rfl rfl hl.1 rfl (lv_room (Nat.le_of_ble_eq_true rfl)) dL_law_1211 ⟨Nat.le_of_ble_eq_true rfl, Nat.le_of_ble_eq_true rfl⟩) hS (fun q _ h => hFc q h) hFc (fun r_5 u t H1 locs ht hvm hw hB hz1 hk1 hS => ?_)
  obtain ⟨hP1, hD1⟩ := hB
  rw [ht] at hP1
  obtain ⟨hP, hD⟩ := va_join (wr := [(sl, .inl (k.2.1, 3, .inl g1)), (sp, .inr (6, P2)), (sl2, .inl (k.2.1, 3, .inl g2)), (tp, .inl (k.1, 1600, .inl g3)), (rd, .inr (7, Rd)), (tk, .inr (9, K)), (ln, .inr (3, N)), (fo, .inl (k.2.1, 3, .inl g4)), (ea, .inr (1, E)), (nw, .inl (k.2.1, 10, .inl f1)), (kp, .inl (k.2.1, 410, .inl f2)), (bx, .inl (k.2.1, 30, .inl f3)), (si, .inr (8, Z)), (y, .inr (12, yM)), (ytp, .inl (k.2.1, 1600, .inl ym1)), (yns, .inl (k.2.1, 3, .inl ym2)), (yss, .inl (k.2.1, 3, .inl ym3)), (ynw, .inl (k.2.1, 16, .inl ym4)), (ywe, .inl (k.2.1, 640, .inl ym5)), (yhbx, .inl (k.2.2.2, 3, .inl ym6)), (ybx, .inl (k.2.1, 48, .inl ym7))]) (w1 := []) hP hD [0, 1] [2, 3, 4, 5, 6, 7, 8, 9, 10, 11, 12, 13, 14, 15, 16, 17, 18, 19, 20, 21, 22] rfl rfl (by decide) (by decide) hk1 hFc hP1 hD1
  generalize H1 = H at hP hS ⊢
  have hP : va_P D classes [(sl, .inl (k.2.1, 3, .inl g1)), (sp, .inr (6, P2)), (sl2, .inl (k.2.1, 3, .inl g2)), (tp, .inl (k.1, 1600, .inl g3)), (rd, .inr (7, Rd)), (tk, .inr (9, K)), (ln, .inr (3, N)), (fo, .inl (k.2.1, 3, .inl g4)), (ea, .inr (1, E)), (nw, .inl (k.2.1, 10, .inl f1)), (kp, .inl (k.2.1, 410, .inl f2)), (bx, .inl (k.2.1, 30, .inl f3)), (si, .inr (8, Z)), (y, .inr (12, yM)), (ytp, .inl (k.2.1, 1600, .inl ym1)), (yns, .inl (k.2.1, 3, .inl ym2)), (yss, .inl (k.2.1, 3, .inl ym3)), (ynw, .inl (k.2.1, 16, .inl ym4)), (ywe, .inl (k.2.1, 640, .inl ym5)), (yhbx, .inl (k.2.2.2, 3, .inl ym6)), (ybx, .inl (k.2.1, 48, .inl ym7))] H := hP
  have hD : va_D A [(sl, .inl (k.2.1, 3, .inl g1)), (sp, .inr (6, P2)), (sl2, .inl (k.2.1, 3, .inl g2)), (tp, .inl (k.1, 1600, .inl g3)), (rd, .inr (7, Rd)), (tk, .inr (9, K)), (ln, .inr (3, N)), (fo, .inl (k.2.1, 3, .inl g4)), (ea, .inr (1, E)), (nw, .inl (k.2.1, 10, .inl f1)), (kp, .inl (k.2.1, 410, .inl f2)), (bx, .inl (k.2.1, 30, .inl f3)), (si, .inr (8, Z)), (y, .inr (12, yM)), (ytp, .inl (k.2.1, 1600, .inl ym1)), (yns, .inl (k.2.1, 3, .inl ym2)), (yss, .inl (k.2.1, 3, .inl ym3)), (ynw, .inl (k.2.1, 16, .inl ym4)), (ywe, .inl (k.2.1, 640, .inl ym5)), (yhbx, .inl (k.2.2.2, 3, .inl ym6)), (ybx, .inl (k.2.1, 48, .inl ym7))] := hD
  refine W.widen (k := 119) (n := 46443) (Nat.le_of_ble_eq_true rfl) (Nat.le_of_ble_eq_true rfl) ?_
  have hw9 := hw.symm; subst hw9
  refine lv_aload_n hx hb dL_law_1214 rfl (lv_at hl 2 rfl) ?_
  refine lv_aload_n hx hb dL_law_1215 rfl (lv_at hl 0 rfl) ?_
  refine lv_iload_n hx hb dL_law_1216 rfl (lv_at hl 3 rfl) ?_
  refine lv_iconst (v := 1) hx hb dL_law_1217 (by decide) ?_
  refine lv_iadd hx hb dL_law_1218 ?_
  refine lv_topi (fun y_6 ey_6 => ?_)
  obtain rfl : y_6 = 1 := ey_6.trans (by decide)
  refine va_sld hx hb hX hbl hbA hS hin1 dL_law_1219 ?_
  refine lv_topi (fun y_7 ey_7 => ?_)
  rw [show y_7 = p0 from ey_7.trans hp0.symm]
  refine lv_aload_n hx hb dL_law_1220 rfl (lv_at hl 0 rfl) ?_
  refine lv_iload_n hx hb dL_law_1221 rfl (lv_at hl 3 rfl) ?_
  refine lv_iconst (v := 2) hx hb dL_law_1222 (by decide) ?_
  refine lv_iadd hx hb dL_law_1223 ?_
  refine lv_topi (fun y_8 ey_8 => ?_)
  obtain rfl : y_8 = 2 := ey_8.trans (by decide)
  refine va_sld hx hb hX hbl hbA hS hin2 dL_law_1224 ?_
  refine lv_topi (fun y_9 ey_9 => ?_)
  rw [show y_9 = p1 from ey_9.trans hp1.symm]
  have hPc := hP.sub (ws' := [(y, .inr (12, yM))]) [13] rfl
  have hDc := hD.sub (ws' := [(y, .inr (12, yM))]) [13] (by decide) rfl
  have hFc := va_free (wc := [(y, .inr (12, yM))]) hD hS hA [13] rfl
  refine va_calli (va_runV (As := [.int p0, .int p1]) (rest := [.int (-1)]) ⟨hx, hb, hml, hown, hts⟩ (c_X12_leave l D k H.size y yM p0 p1 u_15_53) (cwV 2 hts (gd_V hgd m1983 m1984 m1985 m131 m1986) rfl rfl rfl (by decide +kernel) ⟨Nat.le_of_ble_eq_true rfl, Nat.le_of_ble_eq_true rfl⟩) (cP_V hPc hKX hDc (ci := 12) (q0 := 0) rfl rfl) rfl rfl hl.1 rfl (lv_room (Nat.le_of_ble_eq_true rfl)) dL_law_1225 ⟨Nat.le_of_ble_eq_true rfl, Nat.le_of_ble_eq_true rfl⟩) hS (fun q _ h => hFc q h) hFc (fun r_10 u t H1 locs ht hvm hw hB hz1 hk1 hS => ?_)
  obtain ⟨hP1, hD1⟩ := hB
  rw [ht] at hP1
  obtain ⟨hP, hD⟩ := va_join (wr := [(sl, .inl (k.2.1, 3, .inl g1)), (sp, .inr (6, P2)), (sl2, .inl (k.2.1, 3, .inl g2)), (tp, .inl (k.1, 1600, .inl g3)), (rd, .inr (7, Rd)), (tk, .inr (9, K)), (ln, .inr (3, N)), (fo, .inl (k.2.1, 3, .inl g4)), (ea, .inr (1, E)), (nw, .inl (k.2.1, 10, .inl f1)), (kp, .inl (k.2.1, 410, .inl f2)), (bx, .inl (k.2.1, 30, .inl f3)), (si, .inr (8, Z)), (ytp, .inl (k.2.1, 1600, .inl ym1)), (yns, .inl (k.2.1, 3, .inl ym2)), (yss, .inl (k.2.1, 3, .inl ym3)), (ynw, .inl (k.2.1, 16, .inl ym4)), (ywe, .inl (k.2.1, 640, .inl ym5)), (yhbx, .inl (k.2.2.2, 3, .inl ym6)), (ybx, .inl (k.2.1, 48, .inl ym7))]) (w1 := []) hP hD [13] [0, 1, 2, 3, 4, 5, 6, 7, 8, 9, 10, 11, 12, 14, 15, 16, 17, 18, 19, 20] rfl rfl (by decide) (by decide) hk1 hFc hP1 hD1
  generalize H1 = H at hP hS ⊢
  have hP : va_P D classes [(sl, .inl (k.2.1, 3, .inl g1)), (sp, .inr (6, P2)), (sl2, .inl (k.2.1, 3, .inl g2)), (tp, .inl (k.1, 1600, .inl g3)), (rd, .inr (7, Rd)), (tk, .inr (9, K)), (ln, .inr (3, N)), (fo, .inl (k.2.1, 3, .inl g4)), (ea, .inr (1, E)), (nw, .inl (k.2.1, 10, .inl f1)), (kp, .inl (k.2.1, 410, .inl f2)), (bx, .inl (k.2.1, 30, .inl f3)), (si, .inr (8, Z)), (ytp, .inl (k.2.1, 1600, .inl ym1)), (yns, .inl (k.2.1, 3, .inl ym2)), (yss, .inl (k.2.1, 3, .inl ym3)), (ynw, .inl (k.2.1, 16, .inl ym4)), (ywe, .inl (k.2.1, 640, .inl ym5)), (yhbx, .inl (k.2.2.2, 3, .inl ym6)), (ybx, .inl (k.2.1, 48, .inl ym7))] H := hP
  have hD : va_D A [(sl, .inl (k.2.1, 3, .inl g1)), (sp, .inr (6, P2)), (sl2, .inl (k.2.1, 3, .inl g2)), (tp, .inl (k.1, 1600, .inl g3)), (rd, .inr (7, Rd)), (tk, .inr (9, K)), (ln, .inr (3, N)), (fo, .inl (k.2.1, 3, .inl g4)), (ea, .inr (1, E)), (nw, .inl (k.2.1, 10, .inl f1)), (kp, .inl (k.2.1, 410, .inl f2)), (bx, .inl (k.2.1, 30, .inl f3)), (si, .inr (8, Z)), (ytp, .inl (k.2.1, 1600, .inl ym1)), (yns, .inl (k.2.1, 3, .inl ym2)), (yss, .inl (k.2.1, 3, .inl ym3)), (ynw, .inl (k.2.1, 16, .inl ym4)), (ywe, .inl (k.2.1, 640, .inl ym5)), (yhbx, .inl (k.2.2.2, 3, .inl ym6)), (ybx, .inl (k.2.1, 48, .inl ym7))] := hD
  refine W.widen (k := 119) (n := 46443) (Nat.le_of_ble_eq_true rfl) (Nat.le_of_ble_eq_true rfl) ?_
  have hw9 := hw.symm; subst hw9
  refine lv_icmp_eq (tgt := 1645) hx hb dL_law_1228 (by decide) (fun c_11 => ?_) (fun c_11 => ?_)
  · have c_11 : ((-1) : Int32) = (-1) := c_11
    exact law_tail rfl C0 hKX hA hA2 hbA hS (lv_sub hl [0, 1, 2, 3] rfl)
  · exact absurd rfl c_11

set_option maxHeartbeats 4000000 in
set_option maxRecDepth 100000 in
theorem law_22 {p : Program} {l : Launch} {e : Env} {s : State} {m : MethodId} {below : List Frame} {meth : Method} {c : Code} {D : va_G} {k : ClassId × ClassId × ClassId × ClassId} {A : Nat → Prop} {b L : Nat} {xs : Nat → Int32} (hL : L = 6) (C0 : lw_At p s m meth c b L xs) (hKX : va_K D classes (TY k) s ∧ cX s) (hA : ∀ q : Nat, s.heap.size ≤ q → A q) (hA2 : ∀ q : Nat, A q → s.heap.size ≤ q) (hbA : ¬ A b) {x y : Nat} {H : Heap} {locs : List Loc} (hF : Fresh D k A x y H) (hS : va_S A s.heap H locs) {ls : Array Slot} (hl : lv_has ls 4 [(0, .ref b), (1, .ref x), (2, .ref y), (3, .int 0)]) : W p l e room_1 s m #[Value.ref b] below meth c H locs 119 46443 (lw_Z below #[Value.ref b] s) (F0 m 1233 ls []) := by
  obtain ⟨hx, hb, hr, hml, hown, hts, hX, hbl, hlocks, hgv⟩ := id C0
  have hown : s.vm.findClass RL = some m.cls := hown
  have hK := hKX.1
  have hgd : ∀ w ∈ gd, w ∈ lw_tbl := fun w h => (List.mem_filter.mp h).1
  have hg : ∀ w ∈ gd, w.before #[Value.ref b] s = true := fun w h => hts w (hgd w h)
  subst hL
  obtain ⟨F, pv, P, sl, g1, sp, P2, sl2, g2, tp, g3, rd, Rd, tk, K, ln, N, fo, g4, ea, E, nw, f1, kp, f2, bx, f3, si, Z, yM, ytp, ym1, yns, ym2, yss, ym3, ynw, ym4, ywe, ym5, yhbx, ym6, ybx, ym7, hf_0, hf_1, hf_2, hf_3, hf_4, hf_6, hf_7, hf_8, hf_10, hf_11, hf_14, hf_15, hf_18, hf_19, hf_21, hP, hD⟩ := hF
  have u_0_0 : F[0]? = some (.ref pv) := hf_0.1
  have u_1_10 : P[10]? = some (.int 0) := hf_1.1
  have u_15_53 : yM[53]? = some (.int 0) := hf_15.2.2.2.2.2.2.2.2.2.2.2.2.2.2.2.2.2.2.1
  have hin1 : vp_in 1 6 := (show ¬ ((1 : Int32) < 0 ∨ 6 ≤ (1 : Int32).toNatClampNeg) from by decide)
  have hin2 : vp_in 2 6 := (show ¬ ((2 : Int32) < 0 ∨ 6 ≤ (2 : Int32).toNatClampNeg) from by decide)
  have hin3 : vp_in 3 6 := (show ¬ ((3 : Int32) < 0 ∨ 6 ≤ (3 : Int32).toNatClampNeg) from by decide)
  have hin4 : vp_in 4 6 := (show ¬ ((4 : Int32) < 0 ∨ 6 ≤ (4 : Int32).toNatClampNeg) from by decide)
  have hin5 : vp_in 5 6 := (show ¬ ((5 : Int32) < 0 ∨ 6 ≤ (5 : Int32).toNatClampNeg) from by decide)
  obtain ⟨p0, hp0⟩ : ∃ z, z = xs 1 := ⟨_, rfl⟩
  obtain ⟨p1, hp1⟩ : ∃ z, z = xs 2 := ⟨_, rfl⟩
  obtain ⟨p2, hp2⟩ : ∃ z, z = xs 3 := ⟨_, rfl⟩
  obtain ⟨p3, hp3⟩ : ∃ z, z = xs 4 := ⟨_, rfl⟩
  obtain ⟨p4, hp4⟩ : ∃ z, z = xs 5 := ⟨_, rfl⟩
  refine lv_aload_n hx hb dL_law_1233 rfl (lv_at hl 1 rfl) ?_
  refine lv_aload_n hx hb dL_law_1234 rfl (lv_at hl 0 rfl) ?_
  refine lv_iload_n hx hb dL_law_1235 rfl (lv_at hl 3 rfl) ?_
  refine lv_iconst (v := 1) hx hb dL_law_1236 (by decide) ?_
  refine lv_iadd hx hb dL_law_1237 ?_
  refine lv_topi (fun y_1 ey_1 => ?_)
  obtain rfl : y_1 = 1 := ey_1.trans (by decide)
  refine va_sld hx hb hX hbl hbA hS hin1 dL_law_1238 ?_
  refine lv_topi (fun y_2 ey_2 => ?_)
  rw [show y_2 = p0 from ey_2.trans hp0.symm]
  refine lv_aload_n hx hb dL_law_1239 rfl (lv_at hl 0 rfl) ?_
  refine lv_iload_n hx hb dL_law_1240 rfl (lv_at hl 3 rfl) ?_
  refine lv_iconst (v := 2) hx hb dL_law_1241 (by decide) ?_
  refine lv_iadd hx hb dL_law_1242 ?_
  refine lv_topi (fun y_3 ey_3 => ?_)
  obtain rfl : y_3 = 2 := ey_3.trans (by decide)
  refine va_sld hx hb hX hbl hbA hS hin2 dL_law_1243 ?_
  refine lv_topi (fun y_4 ey_4 => ?_)
  rw [show y_4 = p1 from ey_4.trans hp1.symm]
  refine lv_aload_n hx hb dL_law_1244 rfl (lv_at hl 0 rfl) ?_
  refine lv_iload_n hx hb dL_law_1245 rfl (lv_at hl 3 rfl) ?_
  refine lv_iconst (v := 3) hx hb dL_law_1246 (by decide) ?_
  refine lv_iadd hx hb dL_law_1247 ?_
  refine lv_topi (fun y_5 ey_5 => ?_)
  obtain rfl : y_5 = 3 := ey_5.trans (by decide)
  refine va_sld hx hb hX hbl hbA hS hin3 dL_law_1248 ?_
  refine lv_topi (fun y_6 ey_6 => ?_)
  rw [show y_6 = p2 from ey_6.trans hp2.symm]
  have hPc := hP.sub (ws' := [(x, .inr (11, F)), (pv, .inr (6, P))]) [0, 1] rfl
  have hDc := hD.sub (ws' := [(x, .inr (11, F)), (pv, .inr (6, P))]) [0, 1] (by decide) rfl
  have hFc := va_free (wc := [(x, .inr (11, F)), (pv, .inr (6, P))]) hD hS hA [0, 1] rfl
  refine va_calli (va_runV (As := [.int p0, .int p1, .int p2]) (rest := []) ⟨hx, hb, hml, hown, hts⟩ (c_X11_walk l D k H.size x pv F P p0 p1 p2 u_0_0 u_1_10) (cwV 3 hts (gd_V hgd m1166 m1167 m1168 m117 m1169) rfl rfl rfl (by decide +kernel) ⟨Nat.le_of_ble_eq_true rfl, Nat.le_of_ble_eq_true rfl⟩) (cP_V hPc hKX hDc (ci := 11) (q0 := 0) rfl rfl) rfl rfl hl.1 rfl (lv_room (Nat.le_of_ble_eq_true rfl)) dL_law_1249 ⟨Nat.le_of_ble_eq_true rfl, Nat.le_of_ble_eq_true rfl⟩) hS (fun q _ h => hFc q h) hFc (fun r_7 u t H1 locs ht hvm hw hB hz1 hk1 hS => ?_)
  obtain ⟨hP1, hD1⟩ := hB
  rw [ht] at hP1
  obtain ⟨hP, hD⟩ := va_join (wr := [(sl, .inl (k.2.1, 3, .inl g1)), (sp, .inr (6, P2)), (sl2, .inl (k.2.1, 3, .inl g2)), (tp, .inl (k.1, 1600, .inl g3)), (rd, .inr (7, Rd)), (tk, .inr (9, K)), (ln, .inr (3, N)), (fo, .inl (k.2.1, 3, .inl g4)), (ea, .inr (1, E)), (nw, .inl (k.2.1, 10, .inl f1)), (kp, .inl (k.2.1, 410, .inl f2)), (bx, .inl (k.2.1, 30, .inl f3)), (si, .inr (8, Z)), (y, .inr (12, yM)), (ytp, .inl (k.2.1, 1600, .inl ym1)), (yns, .inl (k.2.1, 3, .inl ym2)), (yss, .inl (k.2.1, 3, .inl ym3)), (ynw, .inl (k.2.1, 16, .inl ym4)), (ywe, .inl (k.2.1, 640, .inl ym5)), (yhbx, .inl (k.2.2.2, 3, .inl ym6)), (ybx, .inl (k.2.1, 48, .inl ym7))]) (w1 := []) hP hD [0, 1] [2, 3, 4, 5, 6, 7, 8, 9, 10, 11, 12, 13, 14, 15, 16, 17, 18, 19, 20, 21, 22] rfl rfl (by decide) (by decide) hk1 hFc hP1 hD1
  generalize H1 = H at hP hS ⊢
  have hP : va_P D classes [(sl, .inl (k.2.1, 3, .inl g1)), (sp, .inr (6, P2)), (sl2, .inl (k.2.1, 3, .inl g2)), (tp, .inl (k.1, 1600, .inl g3)), (rd, .inr (7, Rd)), (tk, .inr (9, K)), (ln, .inr (3, N)), (fo, .inl (k.2.1, 3, .inl g4)), (ea, .inr (1, E)), (nw, .inl (k.2.1, 10, .inl f1)), (kp, .inl (k.2.1, 410, .inl f2)), (bx, .inl (k.2.1, 30, .inl f3)), (si, .inr (8, Z)), (y, .inr (12, yM)), (ytp, .inl (k.2.1, 1600, .inl ym1)), (yns, .inl (k.2.1, 3, .inl ym2)), (yss, .inl (k.2.1, 3, .inl ym3)), (ynw, .inl (k.2.1, 16, .inl ym4)), (ywe, .inl (k.2.1, 640, .inl ym5)), (yhbx, .inl (k.2.2.2, 3, .inl ym6)), (ybx, .inl (k.2.1, 48, .inl ym7))] H := hP
  have hD : va_D A [(sl, .inl (k.2.1, 3, .inl g1)), (sp, .inr (6, P2)), (sl2, .inl (k.2.1, 3, .inl g2)), (tp, .inl (k.1, 1600, .inl g3)), (rd, .inr (7, Rd)), (tk, .inr (9, K)), (ln, .inr (3, N)), (fo, .inl (k.2.1, 3, .inl g4)), (ea, .inr (1, E)), (nw, .inl (k.2.1, 10, .inl f1)), (kp, .inl (k.2.1, 410, .inl f2)), (bx, .inl (k.2.1, 30, .inl f3)), (si, .inr (8, Z)), (y, .inr (12, yM)), (ytp, .inl (k.2.1, 1600, .inl ym1)), (yns, .inl (k.2.1, 3, .inl ym2)), (yss, .inl (k.2.1, 3, .inl ym3)), (ynw, .inl (k.2.1, 16, .inl ym4)), (ywe, .inl (k.2.1, 640, .inl ym5)), (yhbx, .inl (k.2.2.2, 3, .inl ym6)), (ybx, .inl (k.2.1, 48, .inl ym7))] := hD
  refine W.widen (k := 119) (n := 46443) (Nat.le_of_ble_eq_true rfl) (Nat.le_of_ble_eq_true rfl) ?_
  have hw9 := hw.symm; subst hw9
  refine lv_aload_n hx hb dL_law_1252 rfl (lv_at hl 2 rfl) ?_
  refine lv_aload_n hx hb dL_law_1253 rfl (lv_at hl 0 rfl) ?_
  refine lv_iload_n hx hb dL_law_1254 rfl (lv_at hl 3 rfl) ?_
  refine lv_iconst (v := 1) hx hb dL_law_1255 (by decide) ?_
  refine lv_iadd hx hb dL_law_1256 ?_
  refine lv_topi (fun y_8 ey_8 => ?_)
  obtain rfl : y_8 = 1 := ey_8.trans (by decide)
  refine va_sld hx hb hX hbl hbA hS hin1 dL_law_1257 ?_
  refine lv_topi (fun y_9 ey_9 => ?_)
  rw [show y_9 = p0 from ey_9.trans hp0.symm]
  refine lv_aload_n hx hb dL_law_1258 rfl (lv_at hl 0 rfl) ?_
  refine lv_iload_n hx hb dL_law_1259 rfl (lv_at hl 3 rfl) ?_
  refine lv_iconst (v := 2) hx hb dL_law_1260 (by decide) ?_
  refine lv_iadd hx hb dL_law_1261 ?_
  refine lv_topi (fun y_10 ey_10 => ?_)
  obtain rfl : y_10 = 2 := ey_10.trans (by decide)
  refine va_sld hx hb hX hbl hbA hS hin2 dL_law_1262 ?_
  refine lv_topi (fun y_11 ey_11 => ?_)
  rw [show y_11 = p1 from ey_11.trans hp1.symm]
  refine lv_aload_n hx hb dL_law_1263 rfl (lv_at hl 0 rfl) ?_
  refine lv_iload_n hx hb dL_law_1264 rfl (lv_at hl 3 rfl) ?_
  refine lv_iconst (v := 3) hx hb dL_law_1265 (by decide) ?_
  refine lv_iadd hx hb dL_law_1266 ?_
  refine lv_topi (fun y_12 ey_12 => ?_)
  obtain rfl : y_12 = 3 := ey_12.trans (by decide)
  refine va_sld hx hb hX hbl hbA hS hin3 dL_law_1267 ?_
  refine lv_topi (fun y_13 ey_13 => ?_)
  rw [show y_13 = p2 from ey_13.trans hp2.symm]
  have hPc := hP.sub (ws' := [(y, .inr (12, yM))]) [13] rfl
  have hDc := hD.sub (ws' := [(y, .inr (12, yM))]) [13] (by decide) rfl
  have hFc := va_free (wc := [(y, .inr (12, yM))]) hD hS hA [13] rfl
  refine va_calli (va_runV (As := [.int p0, .int p1, .int p2]) (rest := [.int (-1)]) ⟨hx, hb, hml, hown, hts⟩ (c_X12_walk l D k H.size y yM p0 p1 p2 u_15_53) (cwV 3 hts (gd_V hgd m1987 m1988 m1989 m131 m1990) rfl rfl rfl (by decide +kernel) ⟨Nat.le_of_ble_eq_true rfl, Nat.le_of_ble_eq_true rfl⟩) (cP_V hPc hKX hDc (ci := 12) (q0 := 0) rfl rfl) rfl rfl hl.1 rfl (lv_room (Nat.le_of_ble_eq_true rfl)) dL_law_1268 ⟨Nat.le_of_ble_eq_true rfl, Nat.le_of_ble_eq_true rfl⟩) hS (fun q _ h => hFc q h) hFc (fun r_14 u t H1 locs ht hvm hw hB hz1 hk1 hS => ?_)
  obtain ⟨hP1, hD1⟩ := hB
  rw [ht] at hP1
  obtain ⟨hP, hD⟩ := va_join (wr := [(sl, .inl (k.2.1, 3, .inl g1)), (sp, .inr (6, P2)), (sl2, .inl (k.2.1, 3, .inl g2)), (tp, .inl (k.1, 1600, .inl g3)), (rd, .inr (7, Rd)), (tk, .inr (9, K)), (ln, .inr (3, N)), (fo, .inl (k.2.1, 3, .inl g4)), (ea, .inr (1, E)), (nw, .inl (k.2.1, 10, .inl f1)), (kp, .inl (k.2.1, 410, .inl f2)), (bx, .inl (k.2.1, 30, .inl f3)), (si, .inr (8, Z)), (ytp, .inl (k.2.1, 1600, .inl ym1)), (yns, .inl (k.2.1, 3, .inl ym2)), (yss, .inl (k.2.1, 3, .inl ym3)), (ynw, .inl (k.2.1, 16, .inl ym4)), (ywe, .inl (k.2.1, 640, .inl ym5)), (yhbx, .inl (k.2.2.2, 3, .inl ym6)), (ybx, .inl (k.2.1, 48, .inl ym7))]) (w1 := []) hP hD [13] [0, 1, 2, 3, 4, 5, 6, 7, 8, 9, 10, 11, 12, 14, 15, 16, 17, 18, 19, 20] rfl rfl (by decide) (by decide) hk1 hFc hP1 hD1
  generalize H1 = H at hP hS ⊢
  have hP : va_P D classes [(sl, .inl (k.2.1, 3, .inl g1)), (sp, .inr (6, P2)), (sl2, .inl (k.2.1, 3, .inl g2)), (tp, .inl (k.1, 1600, .inl g3)), (rd, .inr (7, Rd)), (tk, .inr (9, K)), (ln, .inr (3, N)), (fo, .inl (k.2.1, 3, .inl g4)), (ea, .inr (1, E)), (nw, .inl (k.2.1, 10, .inl f1)), (kp, .inl (k.2.1, 410, .inl f2)), (bx, .inl (k.2.1, 30, .inl f3)), (si, .inr (8, Z)), (ytp, .inl (k.2.1, 1600, .inl ym1)), (yns, .inl (k.2.1, 3, .inl ym2)), (yss, .inl (k.2.1, 3, .inl ym3)), (ynw, .inl (k.2.1, 16, .inl ym4)), (ywe, .inl (k.2.1, 640, .inl ym5)), (yhbx, .inl (k.2.2.2, 3, .inl ym6)), (ybx, .inl (k.2.1, 48, .inl ym7))] H := hP
  have hD : va_D A [(sl, .inl (k.2.1, 3, .inl g1)), (sp, .inr (6, P2)), (sl2, .inl (k.2.1, 3, .inl g2)), (tp, .inl (k.1, 1600, .inl g3)), (rd, .inr (7, Rd)), (tk, .inr (9, K)), (ln, .inr (3, N)), (fo, .inl (k.2.1, 3, .inl g4)), (ea, .inr (1, E)), (nw, .inl (k.2.1, 10, .inl f1)), (kp, .inl (k.2.1, 410, .inl f2)), (bx, .inl (k.2.1, 30, .inl f3)), (si, .inr (8, Z)), (ytp, .inl (k.2.1, 1600, .inl ym1)), (yns, .inl (k.2.1, 3, .inl ym2)), (yss, .inl (k.2.1, 3, .inl ym3)), (ynw, .inl (k.2.1, 16, .inl ym4)), (ywe, .inl (k.2.1, 640, .inl ym5)), (yhbx, .inl (k.2.2.2, 3, .inl ym6)), (ybx, .inl (k.2.1, 48, .inl ym7))] := hD
  refine W.widen (k := 119) (n := 46443) (Nat.le_of_ble_eq_true rfl) (Nat.le_of_ble_eq_true rfl) ?_
  have hw9 := hw.symm; subst hw9
  refine lv_icmp_eq (tgt := 1645) hx hb dL_law_1271 (by decide) (fun c_15 => ?_) (fun c_15 => ?_)
  · have c_15 : ((-1) : Int32) = (-1) := c_15
    exact law_tail rfl C0 hKX hA hA2 hbA hS (lv_sub hl [0, 1, 2, 3] rfl)
  · exact absurd rfl c_15

set_option maxHeartbeats 4000000 in
set_option maxRecDepth 100000 in
theorem law_23 {p : Program} {l : Launch} {e : Env} {s : State} {m : MethodId} {below : List Frame} {meth : Method} {c : Code} {D : va_G} {k : ClassId × ClassId × ClassId × ClassId} {A : Nat → Prop} {b L : Nat} {xs : Nat → Int32} (hL : L = 6) (C0 : lw_At p s m meth c b L xs) (hKX : va_K D classes (TY k) s ∧ cX s) (hA : ∀ q : Nat, s.heap.size ≤ q → A q) (hA2 : ∀ q : Nat, A q → s.heap.size ≤ q) (hbA : ¬ A b) {x y : Nat} {H : Heap} {locs : List Loc} (hF : Fresh D k A x y H) (hS : va_S A s.heap H locs) {ls : Array Slot} (hl : lv_has ls 4 [(0, .ref b), (1, .ref x), (2, .ref y), (3, .int 0)]) : W p l e room_1 s m #[Value.ref b] below meth c H locs 119 46443 (lw_Z below #[Value.ref b] s) (F0 m 1276 ls []) := by
  obtain ⟨hx, hb, hr, hml, hown, hts, hX, hbl, hlocks, hgv⟩ := id C0
  have hown : s.vm.findClass RL = some m.cls := hown
  have hK := hKX.1
  have hgd : ∀ w ∈ gd, w ∈ lw_tbl := fun w h => (List.mem_filter.mp h).1
  have hg : ∀ w ∈ gd, w.before #[Value.ref b] s = true := fun w h => hts w (hgd w h)
  subst hL
  obtain ⟨F, pv, P, sl, g1, sp, P2, sl2, g2, tp, g3, rd, Rd, tk, K, ln, N, fo, g4, ea, E, nw, f1, kp, f2, bx, f3, si, Z, yM, ytp, ym1, yns, ym2, yss, ym3, ynw, ym4, ywe, ym5, yhbx, ym6, ybx, ym7, hf_0, hf_1, hf_2, hf_3, hf_4, hf_6, hf_7, hf_8, hf_10, hf_11, hf_14, hf_15, hf_18, hf_19, hf_21, hP, hD⟩ := hF
  have u_0_0 : F[0]? = some (.ref pv) := hf_0.1
  have u_0_8 : F[8]? = some (.ref ea) := hf_0.2.2.2.2.2.2.2.1
  have u_1_10 : P[10]? = some (.int 0) := hf_1.1
  have u_10_0 : E[0]? = some (.ref nw) := hf_10.1
  have u_11_0 : f1 0 = (-1) := hf_11.1
  have u_15_76 : yM[76]? = some (.ref ynw) := hf_15.2.2.2.2.2.2.2.2.2.2.2.2.2.2.2.2.2.2.2.2.2.2.2.2.2.1
  have u_19_0 : ym4 0 = (-1) := hf_19.1
  have hin1 : vp_in 1 6 := (show ¬ ((1 : Int32) < 0 ∨ 6 ≤ (1 : Int32).toNatClampNeg) from by decide)
  have hin2 : vp_in 2 6 := (show ¬ ((2 : Int32) < 0 ∨ 6 ≤ (2 : Int32).toNatClampNeg) from by decide)
  have hin3 : vp_in 3 6 := (show ¬ ((3 : Int32) < 0 ∨ 6 ≤ (3 : Int32).toNatClampNeg) from by decide)
  have hin4 : vp_in 4 6 := (show ¬ ((4 : Int32) < 0 ∨ 6 ≤ (4 : Int32).toNatClampNeg) from by decide)
  have hin5 : vp_in 5 6 := (show ¬ ((5 : Int32) < 0 ∨ 6 ≤ (5 : Int32).toNatClampNeg) from by decide)
  obtain ⟨p0, hp0⟩ : ∃ z, z = xs 1 := ⟨_, rfl⟩
  obtain ⟨p1, hp1⟩ : ∃ z, z = xs 2 := ⟨_, rfl⟩
  obtain ⟨p2, hp2⟩ : ∃ z, z = xs 3 := ⟨_, rfl⟩
  obtain ⟨p3, hp3⟩ : ∃ z, z = xs 4 := ⟨_, rfl⟩
  obtain ⟨p4, hp4⟩ : ∃ z, z = xs 5 := ⟨_, rfl⟩
  refine lv_aload_n hx hb dL_law_1276 rfl (lv_at hl 1 rfl) ?_
  refine lv_aload_n hx hb dL_law_1277 rfl (lv_at hl 0 rfl) ?_
  refine lv_iload_n hx hb dL_law_1278 rfl (lv_at hl 3 rfl) ?_
  refine lv_iconst (v := 1) hx hb dL_law_1279 (by decide) ?_
  refine lv_iadd hx hb dL_law_1280 ?_
  refine lv_topi (fun y_1 ey_1 => ?_)
  obtain rfl : y_1 = 1 := ey_1.trans (by decide)
  refine va_sld hx hb hX hbl hbA hS hin1 dL_law_1281 ?_
  refine lv_topi (fun y_2 ey_2 => ?_)
  rw [show y_2 = p0 from ey_2.trans hp0.symm]
  have hPc := hP.sub (ws' := [(x, .inr (11, F)), (pv, .inr (6, P)), (ea, .inr (1, E)), (nw, .inl (k.2.1, 10, .inl f1))]) [0, 1, 10, 11] rfl
  have hDc := hD.sub (ws' := [(x, .inr (11, F)), (pv, .inr (6, P)), (ea, .inr (1, E)), (nw, .inl (k.2.1, 10, .inl f1))]) [0, 1, 10, 11] (by decide) rfl
  have hFc := va_free (wc := [(x, .inr (11, F)), (pv, .inr (6, P)), (ea, .inr (1, E)), (nw, .inl (k.2.1, 10, .inl f1))]) hD hS hA [0, 1, 10, 11] rfl
  refine va_calli (va_runV (As := [.int p0]) (rest := []) ⟨hx, hb, hml, hown, hts⟩ (c_X11_go l D k H.size x pv ea nw F P E f1 p0 u_0_0 u_0_8 u_1_10 u_10_0 u_11_0) (cwV 1 hts (gd_V hgd m1182 m1183 m1184 m117 m1185) rfl rfl rfl (by decide +kernel) ⟨Nat.le_of_ble_eq_true rfl, Nat.le_of_ble_eq_true rfl⟩) (cP_V hPc hKX hDc (ci := 11) (q0 := 0) rfl rfl) rfl rfl hl.1 rfl (lv_room (Nat.le_of_ble_eq_true rfl)) dL_law_1282 ⟨Nat.le_of_ble_eq_true rfl, Nat.le_of_ble_eq_true rfl⟩) hS (fun q _ h => hFc q h) hFc (fun r_3 u t H1 locs ht hvm hw hB hz1 hk1 hS => ?_)
  obtain ⟨hP1, hD1⟩ := hB
  rw [ht] at hP1
  obtain ⟨hP, hD⟩ := va_join (wr := [(sl, .inl (k.2.1, 3, .inl g1)), (sp, .inr (6, P2)), (sl2, .inl (k.2.1, 3, .inl g2)), (tp, .inl (k.1, 1600, .inl g3)), (rd, .inr (7, Rd)), (tk, .inr (9, K)), (ln, .inr (3, N)), (fo, .inl (k.2.1, 3, .inl g4)), (kp, .inl (k.2.1, 410, .inl f2)), (bx, .inl (k.2.1, 30, .inl f3)), (si, .inr (8, Z)), (y, .inr (12, yM)), (ytp, .inl (k.2.1, 1600, .inl ym1)), (yns, .inl (k.2.1, 3, .inl ym2)), (yss, .inl (k.2.1, 3, .inl ym3)), (ynw, .inl (k.2.1, 16, .inl ym4)), (ywe, .inl (k.2.1, 640, .inl ym5)), (yhbx, .inl (k.2.2.2, 3, .inl ym6)), (ybx, .inl (k.2.1, 48, .inl ym7))]) (w1 := []) hP hD [0, 1, 10, 11] [2, 3, 4, 5, 6, 7, 8, 9, 12, 13, 14, 15, 16, 17, 18, 19, 20, 21, 22] rfl rfl (by decide) (by decide) hk1 hFc hP1 hD1
  generalize H1 = H at hP hS ⊢
  have hP : va_P D classes [(sl, .inl (k.2.1, 3, .inl g1)), (sp, .inr (6, P2)), (sl2, .inl (k.2.1, 3, .inl g2)), (tp, .inl (k.1, 1600, .inl g3)), (rd, .inr (7, Rd)), (tk, .inr (9, K)), (ln, .inr (3, N)), (fo, .inl (k.2.1, 3, .inl g4)), (kp, .inl (k.2.1, 410, .inl f2)), (bx, .inl (k.2.1, 30, .inl f3)), (si, .inr (8, Z)), (y, .inr (12, yM)), (ytp, .inl (k.2.1, 1600, .inl ym1)), (yns, .inl (k.2.1, 3, .inl ym2)), (yss, .inl (k.2.1, 3, .inl ym3)), (ynw, .inl (k.2.1, 16, .inl ym4)), (ywe, .inl (k.2.1, 640, .inl ym5)), (yhbx, .inl (k.2.2.2, 3, .inl ym6)), (ybx, .inl (k.2.1, 48, .inl ym7))] H := hP
  have hD : va_D A [(sl, .inl (k.2.1, 3, .inl g1)), (sp, .inr (6, P2)), (sl2, .inl (k.2.1, 3, .inl g2)), (tp, .inl (k.1, 1600, .inl g3)), (rd, .inr (7, Rd)), (tk, .inr (9, K)), (ln, .inr (3, N)), (fo, .inl (k.2.1, 3, .inl g4)), (kp, .inl (k.2.1, 410, .inl f2)), (bx, .inl (k.2.1, 30, .inl f3)), (si, .inr (8, Z)), (y, .inr (12, yM)), (ytp, .inl (k.2.1, 1600, .inl ym1)), (yns, .inl (k.2.1, 3, .inl ym2)), (yss, .inl (k.2.1, 3, .inl ym3)), (ynw, .inl (k.2.1, 16, .inl ym4)), (ywe, .inl (k.2.1, 640, .inl ym5)), (yhbx, .inl (k.2.2.2, 3, .inl ym6)), (ybx, .inl (k.2.1, 48, .inl ym7))] := hD
  refine W.widen (k := 119) (n := 46443) (Nat.le_of_ble_eq_true rfl) (Nat.le_of_ble_eq_true rfl) ?_
  have hw9 := hw.symm; subst hw9
  refine lv_aload_n hx hb dL_law_1285 rfl (lv_at hl 2 rfl) ?_
  refine lv_aload_n hx hb dL_law_1286 rfl (lv_at hl 0 rfl) ?_
  refine lv_iload_n hx hb dL_law_1287 rfl (lv_at hl 3 rfl) ?_
  refine lv_iconst (v := 1) hx hb dL_law_1288 (by decide) ?_
  refine lv_iadd hx hb dL_law_1289 ?_
  refine lv_topi (fun y_4 ey_4 => ?_)
  obtain rfl : y_4 = 1 := ey_4.trans (by decide)
  refine va_sld hx hb hX hbl hbA hS hin1 dL_law_1290 ?_
  refine lv_topi (fun y_5 ey_5 => ?_)
  rw [show y_5 = p0 from ey_5.trans hp0.symm]
  have hPc := hP.sub (ws' := [(y, .inr (12, yM)), (ynw, .inl (k.2.1, 16, .inl ym4))]) [11, 15] rfl
  have hDc := hD.sub (ws' := [(y, .inr (12, yM)), (ynw, .inl (k.2.1, 16, .inl ym4))]) [11, 15] (by decide) rfl
  have hFc := va_free (wc := [(y, .inr (12, yM)), (ynw, .inl (k.2.1, 16, .inl ym4))]) hD hS hA [11, 15] rfl
  refine va_calli (va_runV (As := [.int p0]) (rest := [.int (-1)]) ⟨hx, hb, hml, hown, hts⟩ (c_X12_go l D k H.size y ynw yM ym4 p0 u_15_76 u_19_0) (cwV 1 hts (gd_V hgd m1999 m2000 m2001 m131 m2002) rfl rfl rfl (by decide +kernel) ⟨Nat.le_of_ble_eq_true rfl, Nat.le_of_ble_eq_true rfl⟩) (cP_V hPc hKX hDc (ci := 12) (q0 := 0) rfl rfl) rfl rfl hl.1 rfl (lv_room (Nat.le_of_ble_eq_true rfl)) dL_law_1291 ⟨Nat.le_of_ble_eq_true rfl, Nat.le_of_ble_eq_true rfl⟩) hS (fun q _ h => hFc q h) hFc (fun r_6 u t H1 locs ht hvm hw hB hz1 hk1 hS => ?_)
  obtain ⟨hP1, hD1⟩ := hB
  rw [ht] at hP1
  obtain ⟨hP, hD⟩ := va_join (wr := [(sl, .inl (k.2.1, 3, .inl g1)), (sp, .inr (6, P2)), (sl2, .inl (k.2.1, 3, .inl g2)), (tp, .inl (k.1, 1600, .inl g3)), (rd, .inr (7, Rd)), (tk, .inr (9, K)), (ln, .inr (3, N)), (fo, .inl (k.2.1, 3, .inl g4)), (kp, .inl (k.2.1, 410, .inl f2)), (bx, .inl (k.2.1, 30, .inl f3)), (si, .inr (8, Z)), (ytp, .inl (k.2.1, 1600, .inl ym1)), (yns, .inl (k.2.1, 3, .inl ym2)), (yss, .inl (k.2.1, 3, .inl ym3)), (ywe, .inl (k.2.1, 640, .inl ym5)), (yhbx, .inl (k.2.2.2, 3, .inl ym6)), (ybx, .inl (k.2.1, 48, .inl ym7))]) (w1 := []) hP hD [11, 15] [0, 1, 2, 3, 4, 5, 6, 7, 8, 9, 10, 12, 13, 14, 16, 17, 18] rfl rfl (by decide) (by decide) hk1 hFc hP1 hD1
  generalize H1 = H at hP hS ⊢
  have hP : va_P D classes [(sl, .inl (k.2.1, 3, .inl g1)), (sp, .inr (6, P2)), (sl2, .inl (k.2.1, 3, .inl g2)), (tp, .inl (k.1, 1600, .inl g3)), (rd, .inr (7, Rd)), (tk, .inr (9, K)), (ln, .inr (3, N)), (fo, .inl (k.2.1, 3, .inl g4)), (kp, .inl (k.2.1, 410, .inl f2)), (bx, .inl (k.2.1, 30, .inl f3)), (si, .inr (8, Z)), (ytp, .inl (k.2.1, 1600, .inl ym1)), (yns, .inl (k.2.1, 3, .inl ym2)), (yss, .inl (k.2.1, 3, .inl ym3)), (ywe, .inl (k.2.1, 640, .inl ym5)), (yhbx, .inl (k.2.2.2, 3, .inl ym6)), (ybx, .inl (k.2.1, 48, .inl ym7))] H := hP
  have hD : va_D A [(sl, .inl (k.2.1, 3, .inl g1)), (sp, .inr (6, P2)), (sl2, .inl (k.2.1, 3, .inl g2)), (tp, .inl (k.1, 1600, .inl g3)), (rd, .inr (7, Rd)), (tk, .inr (9, K)), (ln, .inr (3, N)), (fo, .inl (k.2.1, 3, .inl g4)), (kp, .inl (k.2.1, 410, .inl f2)), (bx, .inl (k.2.1, 30, .inl f3)), (si, .inr (8, Z)), (ytp, .inl (k.2.1, 1600, .inl ym1)), (yns, .inl (k.2.1, 3, .inl ym2)), (yss, .inl (k.2.1, 3, .inl ym3)), (ywe, .inl (k.2.1, 640, .inl ym5)), (yhbx, .inl (k.2.2.2, 3, .inl ym6)), (ybx, .inl (k.2.1, 48, .inl ym7))] := hD
  refine W.widen (k := 119) (n := 46443) (Nat.le_of_ble_eq_true rfl) (Nat.le_of_ble_eq_true rfl) ?_
  have hw9 := hw.symm; subst hw9
  refine lv_icmp_eq (tgt := 1645) hx hb dL_law_1294 (by decide) (fun c_7 => ?_) (fun c_7 => ?_)
  · have c_7 : ((-1) : Int32) = (-1) := c_7
    exact law_tail rfl C0 hKX hA hA2 hbA hS (lv_sub hl [0, 1, 2, 3] rfl)
  · exact absurd rfl c_7
