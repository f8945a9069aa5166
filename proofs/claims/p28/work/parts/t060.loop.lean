
theorem dL_law_33 : decode cL_law 33 = .ok (.tableswitch 1608 0 38 #[171, 234, 257, 270, 293, 336, 359, 402, 445, 498, 551, 604, 657, 720, 763, 826, 879, 942, 985, 1048, 1111, 1164, 1197, 1240, 1263, 1286, 1299, 1312, 1325, 1338, 1361, 1384, 1427, 1450, 1473, 1496, 1539, 1562, 1585], 171) := dq_of (by decide +kernel)
noncomputable def rbL_law_18 : List (Nat × List Nat) := [(18, [29]), (19, [42]), (20, [190]), (21, [16, 6]), (23, [100]), (24, [163, 6, 87]), (27, [42]), (28, [29]), (29, [46]), (30, [16, 63]), (32, [126]), (1641, [132, 3, 6]), (1644, [167, 249, 166]), (1647, [4]), (1648, [172])]
theorem rcL_law_18 : dgo (lb cL_law) 0 rbL_law_18 = true := by decide +kernel
theorem dL_law_18 : decode cL_law 18 = .ok (.iload_n 3, 1) := dk_29 (dw rcL_law_18 0 rfl)
theorem dL_law_19 : decode cL_law 19 = .ok (.aload_n 0, 1) := dk_42 (dw rcL_law_18 1 rfl)
theorem dL_law_20 : decode cL_law 20 = .ok (.arraylength, 1) := dk_190 (dw rcL_law_18 2 rfl)
theorem dL_law_21 : decode cL_law 21 = .ok (.bipush 6, 2) := dk_16 (dw rcL_law_18 3 rfl) rfl
theorem dL_law_23 : decode cL_law 23 = .ok (.isub, 1) := dk_100 (dw rcL_law_18 4 rfl)
theorem dL_law_24 : decode cL_law 24 = .ok (.if_icmp .gt 1623, 3) := dk_163 (dw rcL_law_18 5 rfl) rfl
theorem dL_law_27 : decode cL_law 27 = .ok (.aload_n 0, 1) := dk_42 (dw rcL_law_18 6 rfl)
theorem dL_law_28 : decode cL_law 28 = .ok (.iload_n 3, 1) := dk_29 (dw rcL_law_18 7 rfl)
theorem dL_law_29 : decode cL_law 29 = .ok (.iaload, 1) := dk_46 (dw rcL_law_18 8 rfl)
theorem dL_law_30 : decode cL_law 30 = .ok (.bipush 63, 2) := dk_16 (dw rcL_law_18 9 rfl) rfl
theorem dL_law_32 : decode cL_law 32 = .ok (.iand, 1) := dk_126 (dw rcL_law_18 10 rfl)
theorem dL_law_1641 : decode cL_law 1641 = .ok (.iinc 3 6, 3) := dk_132 (dw rcL_law_18 11 rfl) rfl
theorem dL_law_1644 : decode cL_law 1644 = .ok (.goto (-1626), 3) := dk_167 (dw rcL_law_18 12 rfl) rfl
theorem dL_law_1647 : decode cL_law 1647 = .ok (.iconst 1, 1) := dk_4 (dw rcL_law_18 13 rfl)
theorem dL_law_1648 : decode cL_law 1648 = .ok (.ireturn, 1) := dk_172 (dw rcL_law_18 14 rfl)
theorem tb_out38 (x : Int32) (h0 : ¬ x = 0) (h1 : ¬ x = 1) (h2 : ¬ x = 2) (h3 : ¬ x = 3) (h4 : ¬ x = 4) (h5 : ¬ x = 5) (h6 : ¬ x = 6) (h7 : ¬ x = 7) (h8 : ¬ x = 8) (h9 : ¬ x = 9) (h10 : ¬ x = 10) (h11 : ¬ x = 11) (h12 : ¬ x = 12) (h13 : ¬ x = 13) (h14 : ¬ x = 14) (h15 : ¬ x = 15) (h16 : ¬ x = 16) (h17 : ¬ x = 17) (h18 : ¬ x = 18) (h19 : ¬ x = 19) (h20 : ¬ x = 20) (h21 : ¬ x = 21) (h22 : ¬ x = 22) (h23 : ¬ x = 23) (h24 : ¬ x = 24) (h25 : ¬ x = 25) (h26 : ¬ x = 26) (h27 : ¬ x = 27) (h28 : ¬ x = 28) (h29 : ¬ x = 29) (h30 : ¬ x = 30) (h31 : ¬ x = 31) (h32 : ¬ x = 32) (h33 : ¬ x = 33) (h34 : ¬ x = 34) (h35 : ¬ x = 35) (h36 : ¬ x = 36) (h37 : ¬ x = 37) (h38 : ¬ x = 38) : x.toInt < 0 ∨ 38 < x.toInt := by
  have q0 := lv_neT h0 (a := 0) rfl
  have q1 := lv_neT h1 (a := 1) rfl
  have q2 := lv_neT h2 (a := 2) rfl
  have q3 := lv_neT h3 (a := 3) rfl
  have q4 := lv_neT h4 (a := 4) rfl
  have q5 := lv_neT h5 (a := 5) rfl
  have q6 := lv_neT h6 (a := 6) rfl
  have q7 := lv_neT h7 (a := 7) rfl
  have q8 := lv_neT h8 (a := 8) rfl
  have q9 := lv_neT h9 (a := 9) rfl
  have q10 := lv_neT h10 (a := 10) rfl
  have q11 := lv_neT h11 (a := 11) rfl
  have q12 := lv_neT h12 (a := 12) rfl
  have q13 := lv_neT h13 (a := 13) rfl
  have q14 := lv_neT h14 (a := 14) rfl
  have q15 := lv_neT h15 (a := 15) rfl
  have q16 := lv_neT h16 (a := 16) rfl
  have q17 := lv_neT h17 (a := 17) rfl
  have q18 := lv_neT h18 (a := 18) rfl
  have q19 := lv_neT h19 (a := 19) rfl
  have q20 := lv_neT h20 (a := 20) rfl
  have q21 := lv_neT h21 (a := 21) rfl
  have q22 := lv_neT h22 (a := 22) rfl
  have q23 := lv_neT h23 (a := 23) rfl
  have q24 := lv_neT h24 (a := 24) rfl
  have q25 := lv_neT h25 (a := 25) rfl
  have q26 := lv_neT h26 (a := 26) rfl
  have q27 := lv_neT h27 (a := 27) rfl
  have q28 := lv_neT h28 (a := 28) rfl
  have q29 := lv_neT h29 (a := 29) rfl
  have q30 := lv_neT h30 (a := 30) rfl
  have q31 := lv_neT h31 (a := 31) rfl
  have q32 := lv_neT h32 (a := 32) rfl
  have q33 := lv_neT h33 (a := 33) rfl
  have q34 := lv_neT h34 (a := 34) rfl
  have q35 := lv_neT h35 (a := 35) rfl
  have q36 := lv_neT h36 (a := 36) rfl
  have q37 := lv_neT h37 (a := 37) rfl
  have q38 := lv_neT h38 (a := 38) rfl
  omega
set_option maxHeartbeats 4000000 in
set_option maxRecDepth 100000 in
theorem law_loop {p : Program} {l : Launch} {e : Env} {s : State} {m : MethodId} {below : List Frame} {meth : Method} {c : Code} {D : va_G} {k : KT} {A : Nat → Prop} {a : Nat → Nat} {z : SK} {b L : Nat} {xs : Nat → Int32} (hL : L ≤ 3072) (C0 : lw_At p s m meth c b L xs) (hK : cK D k s) (hZ : Sx A z s) (hbA : ¬ A b) (hA2 : ∀ q : Nat, A q → s.heap.size ≤ q) {G : GS} {i0 : Int32} (hi0 : 0 ≤ i0.toInt) (hi3 : i0.toInt ≤ 3072) (hI : LI G) (hB : Bd G) {H : Heap} {locs : List Loc} {ls : Array Slot} (hW : Wd D k A a G H) (hS : va_S A s.heap H locs) (hl : lv_has ls 4 [(0, .ref b), (1, .ref (a 0)), (2, .ref (a 66)), (3, .int i0)]) : W p l e room_1 s m #[Value.ref b] below meth c H locs 119 46443 (lw_Z below #[Value.ref b] s) (F0 m 18 ls []) := by
  obtain ⟨hx, hb, hr, hml, hown, hts, hX, hbl, hlocks, hgv⟩ := id C0
  have hown : s.vm.findClass RL = some m.cls := hown
  have hgd : ∀ w ∈ gd, w ∈ lw_tbl := fun w h => (List.mem_filter.mp h).1
  have hg : ∀ w ∈ gd, w.before #[Value.ref b] s = true := fun w h => hts w (hgd w h)
  refine loop_N (Inv := fun n H locs ls => ∃ (G : GS) (i0 : Int32), (n : Int) = 3100 - i0.toInt ∧ 0 ≤ i0.toInt ∧ i0.toInt ≤ 3072 ∧ LI G ∧ Bd G ∧ Wd D k A a G H ∧ va_S A s.heap H locs ∧ lv_has ls 4 [(0, .ref b), (1, .ref (a 0)), (2, .ref (a 66)), (3, .int i0)]) (fun n H locs ls ih hI => ?_) (3100 - i0.toInt).toNat ⟨G, i0, Int.toNat_of_nonneg (by omega), hi0, hi3, hI, hB, hW, hS, hl⟩
  obtain ⟨G, i0, hn, hi0, hi3, hI, hB, hW, hS, hl⟩ := hI
  refine lv_iload_n hx hb dL_law_18 rfl (lv_at hl 3 rfl) ?_
  refine lv_aload_n hx hb dL_law_19 rfl (lv_at hl 0 rfl) ?_
  refine va_slen hx hb hX hbl hbA hS dL_law_20 ?_
  refine lv_bipush (v := 6) hx hb dL_law_21 (by decide) ?_
  refine lv_isub hx hb dL_law_23 ?_
  refine lv_topi (fun y ey => ?_)
  have hLn : (Int32.ofNat L).toInt = (L : Int) := Int32.toInt_ofNat_of_lt (by omega)
  have ty : y.toInt = (L : Int) - 6 := xI_sub (Y := 6) hLn rfl ey (by omega) (by omega)
  refine lv_icmp_gt (tgt := 1647) hx hb dL_law_24 (by decide) (fun c_1 => ?_) (fun c_1 => ?_)
  · refine lv_iconst (v := 1) hx hb dL_law_1647 (by decide) ?_
    refine va_forget (fun q hq => hA2 _ (hS.2.2 q hq)) ?_
    refine W.widen (k := 600000) (n := 7302250) (Nat.le_of_ble_eq_true rfl) (Nat.le_of_ble_eq_true rfl) ?_
    exact lw_ret hx hb hr hlocks dL_law_1648
  have c_2 := xI_nlt rfl rfl c_1
  refine lv_aload_n hx hb dL_law_27 rfl (lv_at hl 0 rfl) ?_
  refine lv_iload_n hx hb dL_law_28 rfl (lv_at hl 3 rfl) ?_
  refine va_sld hx hb hX hbl hbA hS (vin (by omega) (by omega)) dL_law_29 ?_
  refine lv_bipush (v := 63) hx hb dL_law_30 (by decide) ?_
  refine lv_iand hx hb dL_law_32 ?_
  refine lv_topi (fun x ex => ?_)
  have K : ∀ (G1 : GS) (H1 : Heap) (locs1 : List Loc) (ls1 : Array Slot), LI G1 → Bd G1 → Wd D k A a G1 H1 → va_S A s.heap H1 locs1 → lv_has ls1 4 [(0, .ref b), (1, .ref (a 0)), (2, .ref (a 66)), (3, .int i0)] → W p l e room_1 s m #[Value.ref b] below meth c H1 locs1 119 46443 (lw_Z below #[Value.ref b] s) (F0 m 1641 ls1 []) := fun G1 H1 locs1 ls1 hI1 hB1 hW1 hS1 hl1 => by
    obtain ⟨y2, ey2⟩ : ∃ q, q = i0 + 6 := ⟨_, rfl⟩
    have ty2 : y2.toInt = i0.toInt + 6 := xI_add rfl rfl ey2 (by omega) (by omega)
    refine lv_iinc (v := y2) (lv' := [(3, .int y2), (0, .ref b), (1, .ref (a 0)), (2, .ref (a 66))]) hx hb dL_law_1641 hl1 (k := 3) rfl (by rw [ey2]; rfl) (by decide) rfl (fun ls hl => ?_)
    refine lv_goto (tgt := 18) hx hb dL_law_1644 (by decide) ?_
    exact ih (3100 - y2.toInt).toNat (by omega) _ _ _ ⟨G1, y2, Int.toNat_of_nonneg (by omega), by omega, by omega, hI1, hB1, hW1, hS1, lv_sub hl [1, 2, 3, 0] rfl⟩
  by_cases d_0 : x = 0
  · refine lv_tableIn (tgt := 204) hx hb dL_law_33 (by rw [d_0]; decide) (by rw [d_0]; decide) (off := 171) (by rw [d_0]; decide) (by decide) ?_
    exact law_0 hL C0 hK hZ hbA hi0 (by omega) hI hB hW hS hl K
  by_cases d_1 : x = 1
  · refine lv_tableIn (tgt := 267) hx hb dL_law_33 (by rw [d_1]; decide) (by rw [d_1]; decide) (off := 234) (by rw [d_1]; decide) (by decide) ?_
    exact law_1 hL C0 hK hZ hbA hi0 (by omega) hI hB hW hS hl K
  by_cases d_2 : x = 2
  · refine lv_tableIn (tgt := 290) hx hb dL_law_33 (by rw [d_2]; decide) (by rw [d_2]; decide) (off := 257) (by rw [d_2]; decide) (by decide) ?_
    exact law_2 hL C0 hK hZ hbA hi0 (by omega) hI hB hW hS hl K
  by_cases d_3 : x = 3
  · refine lv_tableIn (tgt := 303) hx hb dL_law_33 (by rw [d_3]; decide) (by rw [d_3]; decide) (off := 270) (by rw [d_3]; decide) (by decide) ?_
    exact law_3 hL C0 hK hZ hbA hi0 (by omega) hI hB hW hS hl K
  by_cases d_4 : x = 4
  · refine lv_tableIn (tgt := 326) hx hb dL_law_33 (by rw [d_4]; decide) (by rw [d_4]; decide) (off := 293) (by rw [d_4]; decide) (by decide) ?_
    exact law_4 hL C0 hK hZ hbA hi0 (by omega) hI hB hW hS hl K
  by_cases d_5 : x = 5
  · refine lv_tableIn (tgt := 369) hx hb dL_law_33 (by rw [d_5]; decide) (by rw [d_5]; decide) (off := 336) (by rw [d_5]; decide) (by decide) ?_
    exact law_5 hL C0 hK hZ hbA hi0 (by omega) hI hB hW hS hl K
  by_cases d_6 : x = 6
  · refine lv_tableIn (tgt := 392) hx hb dL_law_33 (by rw [d_6]; decide) (by rw [d_6]; decide) (off := 359) (by rw [d_6]; decide) (by decide) ?_
    exact law_6 hL C0 hK hZ hbA hi0 (by omega) hI hB hW hS hl K
  by_cases d_7 : x = 7
  · refine lv_tableIn (tgt := 435) hx hb dL_law_33 (by rw [d_7]; decide) (by rw [d_7]; decide) (off := 402) (by rw [d_7]; decide) (by decide) ?_
    exact law_7 hL C0 hK hZ hbA hi0 (by omega) hI hB hW hS hl K
  by_cases d_8 : x = 8
  · refine lv_tableIn (tgt := 478) hx hb dL_law_33 (by rw [d_8]; decide) (by rw [d_8]; decide) (off := 445) (by rw [d_8]; decide) (by decide) ?_
    exact law_8 hL C0 hK hZ hbA hi0 (by omega) hI hB hW hS hl K
  by_cases d_9 : x = 9
  · refine lv_tableIn (tgt := 531) hx hb dL_law_33 (by rw [d_9]; decide) (by rw [d_9]; decide) (off := 498) (by rw [d_9]; decide) (by decide) ?_
    exact law_9 hL C0 hK hZ hbA hi0 (by omega) hI hB hW hS hl K
  by_cases d_10 : x = 10
  · refine lv_tableIn (tgt := 584) hx hb dL_law_33 (by rw [d_10]; decide) (by rw [d_10]; decide) (off := 551) (by rw [d_10]; decide) (by decide) ?_
    exact law_10 hL C0 hK hZ hbA hi0 (by omega) hI hB hW hS hl K
  by_cases d_11 : x = 11
  · refine lv_tableIn (tgt := 637) hx hb dL_law_33 (by rw [d_11]; decide) (by rw [d_11]; decide) (off := 604) (by rw [d_11]; decide) (by decide) ?_
    exact law_11 hL C0 hK hZ hbA hi0 (by omega) hI hB hW hS hl K
  by_cases d_12 : x = 12
  · refine lv_tableIn (tgt := 690) hx hb dL_law_33 (by rw [d_12]; decide) (by rw [d_12]; decide) (off := 657) (by rw [d_12]; decide) (by decide) ?_
    exact law_12 hL C0 hK hZ hbA hi0 (by omega) hI hB hW hS hl K
  by_cases d_13 : x = 13
  · refine lv_tableIn (tgt := 753) hx hb dL_law_33 (by rw [d_13]; decide) (by rw [d_13]; decide) (off := 720) (by rw [d_13]; decide) (by decide) ?_
    exact law_13 hL C0 hK hZ hbA hi0 (by omega) hI hB hW hS hl K
  by_cases d_14 : x = 14
  · refine lv_tableIn (tgt := 796) hx hb dL_law_33 (by rw [d_14]; decide) (by rw [d_14]; decide) (off := 763) (by rw [d_14]; decide) (by decide) ?_
    exact law_14 hL C0 hK hZ hbA hi0 (by omega) hI hB hW hS hl K
  by_cases d_15 : x = 15
  · refine lv_tableIn (tgt := 859) hx hb dL_law_33 (by rw [d_15]; decide) (by rw [d_15]; decide) (off := 826) (by rw [d_15]; decide) (by decide) ?_
    exact law_15 hL C0 hK hZ hbA hi0 (by omega) hI hB hW hS hl K
  by_cases d_16 : x = 16
  · refine lv_tableIn (tgt := 912) hx hb dL_law_33 (by rw [d_16]; decide) (by rw [d_16]; decide) (off := 879) (by rw [d_16]; decide) (by decide) ?_
    exact law_16 hL C0 hK hZ hbA hi0 (by omega) hI hB hW hS hl K
  by_cases d_17 : x = 17
  · refine lv_tableIn (tgt := 975) hx hb dL_law_33 (by rw [d_17]; decide) (by rw [d_17]; decide) (off := 942) (by rw [d_17]; decide) (by decide) ?_
    exact law_17 hL C0 hK hZ hbA hi0 (by omega) hI hB hW hS hl K
  by_cases d_18 : x = 18
  · refine lv_tableIn (tgt := 1018) hx hb dL_law_33 (by rw [d_18]; decide) (by rw [d_18]; decide) (off := 985) (by rw [d_18]; decide) (by decide) ?_
    exact law_18 hL C0 hK hZ hbA hi0 (by omega) hI hB hW hS hl K
  by_cases d_19 : x = 19
  · refine lv_tableIn (tgt := 1081) hx hb dL_law_33 (by rw [d_19]; decide) (by rw [d_19]; decide) (off := 1048) (by rw [d_19]; decide) (by decide) ?_
    exact law_19 hL C0 hK hZ hbA hi0 (by omega) hI hB hW hS hl K
  by_cases d_20 : x = 20
  · refine lv_tableIn (tgt := 1144) hx hb dL_law_33 (by rw [d_20]; decide) (by rw [d_20]; decide) (off := 1111) (by rw [d_20]; decide) (by decide) ?_
    exact law_20 hL C0 hK hZ hbA hi0 (by omega) hI hB hW hS hl K
  by_cases d_21 : x = 21
  · refine lv_tableIn (tgt := 1197) hx hb dL_law_33 (by rw [d_21]; decide) (by rw [d_21]; decide) (off := 1164) (by rw [d_21]; decide) (by decide) ?_
    exact law_21 hL C0 hK hZ hbA hi0 (by omega) hI hB hW hS hl K
  by_cases d_22 : x = 22
  · refine lv_tableIn (tgt := 1230) hx hb dL_law_33 (by rw [d_22]; decide) (by rw [d_22]; decide) (off := 1197) (by rw [d_22]; decide) (by decide) ?_
    exact law_22 hL C0 hK hZ hbA hi0 (by omega) hI hB hW hS hl K
  by_cases d_23 : x = 23
  · refine lv_tableIn (tgt := 1273) hx hb dL_law_33 (by rw [d_23]; decide) (by rw [d_23]; decide) (off := 1240) (by rw [d_23]; decide) (by decide) ?_
    exact law_23 hL C0 hK hZ hbA hi0 (by omega) hI hB hW hS hl K
  by_cases d_24 : x = 24
  · refine lv_tableIn (tgt := 1296) hx hb dL_law_33 (by rw [d_24]; decide) (by rw [d_24]; decide) (off := 1263) (by rw [d_24]; decide) (by decide) ?_
    exact law_24 hL C0 hK hZ hbA hi0 (by omega) hI hB hW hS hl K
  by_cases d_25 : x = 25
  · refine lv_tableIn (tgt := 1319) hx hb dL_law_33 (by rw [d_25]; decide) (by rw [d_25]; decide) (off := 1286) (by rw [d_25]; decide) (by decide) ?_
    exact law_25 hL C0 hK hZ hbA hi0 (by omega) hI hB hW hS hl K
  by_cases d_26 : x = 26
  · refine lv_tableIn (tgt := 1332) hx hb dL_law_33 (by rw [d_26]; decide) (by rw [d_26]; decide) (off := 1299) (by rw [d_26]; decide) (by decide) ?_
    exact law_26 hL C0 hK hZ hbA hi0 (by omega) hI hB hW hS hl K
  by_cases d_27 : x = 27
  · refine lv_tableIn (tgt := 1345) hx hb dL_law_33 (by rw [d_27]; decide) (by rw [d_27]; decide) (off := 1312) (by rw [d_27]; decide) (by decide) ?_
    exact law_27 hL C0 hK hZ hbA hi0 (by omega) hI hB hW hS hl K
  by_cases d_28 : x = 28
  · refine lv_tableIn (tgt := 1358) hx hb dL_law_33 (by rw [d_28]; decide) (by rw [d_28]; decide) (off := 1325) (by rw [d_28]; decide) (by decide) ?_
    exact law_28 hL C0 hK hZ hbA hi0 (by omega) hI hB hW hS hl K
  by_cases d_29 : x = 29
  · refine lv_tableIn (tgt := 1371) hx hb dL_law_33 (by rw [d_29]; decide) (by rw [d_29]; decide) (off := 1338) (by rw [d_29]; decide) (by decide) ?_
    exact law_29 hL C0 hK hZ hbA hi0 (by omega) hI hB hW hS hl K
  by_cases d_30 : x = 30
  · refine lv_tableIn (tgt := 1394) hx hb dL_law_33 (by rw [d_30]; decide) (by rw [d_30]; decide) (off := 1361) (by rw [d_30]; decide) (by decide) ?_
    exact law_30 hL C0 hK hZ hbA hi0 (by omega) hI hB hW hS hl K
  by_cases d_31 : x = 31
  · refine lv_tableIn (tgt := 1417) hx hb dL_law_33 (by rw [d_31]; decide) (by rw [d_31]; decide) (off := 1384) (by rw [d_31]; decide) (by decide) ?_
    exact law_31 hL C0 hK hZ hbA hi0 (by omega) hI hB hW hS hl K
  by_cases d_32 : x = 32
  · refine lv_tableIn (tgt := 1460) hx hb dL_law_33 (by rw [d_32]; decide) (by rw [d_32]; decide) (off := 1427) (by rw [d_32]; decide) (by decide) ?_
    exact law_32 hL C0 hK hZ hbA hi0 (by omega) hI hB hW hS hl K
  by_cases d_33 : x = 33
  · refine lv_tableIn (tgt := 1483) hx hb dL_law_33 (by rw [d_33]; decide) (by rw [d_33]; decide) (off := 1450) (by rw [d_33]; decide) (by decide) ?_
    exact law_33 hL C0 hK hZ hbA hi0 (by omega) hI hB hW hS hl K
  by_cases d_34 : x = 34
  · refine lv_tableIn (tgt := 1506) hx hb dL_law_33 (by rw [d_34]; decide) (by rw [d_34]; decide) (off := 1473) (by rw [d_34]; decide) (by decide) ?_
    exact law_34 hL C0 hK hZ hbA hi0 (by omega) hI hB hW hS hl K
  by_cases d_35 : x = 35
  · refine lv_tableIn (tgt := 1529) hx hb dL_law_33 (by rw [d_35]; decide) (by rw [d_35]; decide) (off := 1496) (by rw [d_35]; decide) (by decide) ?_
    exact law_35 hL C0 hK hZ hbA hi0 (by omega) hI hB hW hS hl K
  by_cases d_36 : x = 36
  · refine lv_tableIn (tgt := 1572) hx hb dL_law_33 (by rw [d_36]; decide) (by rw [d_36]; decide) (off := 1539) (by rw [d_36]; decide) (by decide) ?_
    exact law_36 hL C0 hK hZ hbA hi0 (by omega) hI hB hW hS hl K
  by_cases d_37 : x = 37
  · refine lv_tableIn (tgt := 1595) hx hb dL_law_33 (by rw [d_37]; decide) (by rw [d_37]; decide) (off := 1562) (by rw [d_37]; decide) (by decide) ?_
    exact law_37 hL C0 hK hZ hbA hi0 (by omega) hI hB hW hS hl K
  by_cases d_38 : x = 38
  · refine lv_tableIn (tgt := 1618) hx hb dL_law_33 (by rw [d_38]; decide) (by rw [d_38]; decide) (off := 1585) (by rw [d_38]; decide) (by decide) ?_
    exact law_38 hL C0 hK hZ hbA hi0 (by omega) hI hB hW hS hl K
  refine lv_tableOut (tgt := 1641) hx hb dL_law_33 (tb_out38 x d_0 d_1 d_2 d_3 d_4 d_5 d_6 d_7 d_8 d_9 d_10 d_11 d_12 d_13 d_14 d_15 d_16 d_17 d_18 d_19 d_20 d_21 d_22 d_23 d_24 d_25 d_26 d_27 d_28 d_29 d_30 d_31 d_32 d_33 d_34 d_35 d_36 d_37 d_38) (by decide) ?_
  exact K G _ _ _ hI hB hW hS hl
