theorem tb_out38 (x : Int32) (h0 : ¬ x = 0) (h1 : ¬ x = 1) (h2 : ¬ x = 2) (h3 : ¬ x = 3) (h4 : ¬ x = 4) (h5 : ¬ x = 5) (h6 : ¬ x = 6) (h7 : ¬ x = 7) (h8 : ¬ x = 8) (h9 : ¬ x = 9) (h10 : ¬ x = 10) (h11 : ¬ x = 11) (h12 : ¬ x = 12) (h13 : ¬ x = 13) (h14 : ¬ x = 14) (h15 : ¬ x = 15) (h16 : ¬ x = 16) (h17 : ¬ x = 17) (h18 : ¬ x = 18) (h19 : ¬ x = 19) (h20 : ¬ x = 20) (h21 : ¬ x = 21) (h22 : ¬ x = 22) (h23 : ¬ x = 23) (h24 : ¬ x = 24) (h25 : ¬ x = 25) (h26 : ¬ x = 26) (h27 : ¬ x = 27) (h28 : ¬ x = 28) (h29 : ¬ x = 29) (h30 : ¬ x = 30) (h31 : ¬ x = 31) (h32 : ¬ x = 32) (h33 : ¬ x = 33) (h34 : ¬ x = 34) (h35 : ¬ x = 35) (h36 : ¬ x = 36) (h37 : ¬ x = 37) (h38 : ¬ x = 38) : x.toInt < 0 ∨ 38 < x.toInt := by
  have q0 := lv_neT h0 (a := 0) rfl
  have q1 := lv_neT h1 (a := 1) rfl
  have q2 := lv_neT h2 (a := 2) rfl
  have q3 := lv_neT h3 (a := 3) rfl
  have q4 := lv_neT h4 (a := 4) rfl
  have q5 := lv_neT h5 (a := 5) rfl
  have q6 := lv_neT h6 (a := 6) rfl
  have q7 := lv_neT h7 (a := 7) rfl
  have q8 := lv_neT h8 (a := 8) rfl
  have q9 := lv_neT h9 (a := 9) rfl
  have q10 := lv_neT h10 (a := 10) rfl
  have q11 := lv_neT h11 (a := 11) rfl
  have q12 := lv_neT h12 (a := 12) rfl
  have q13 := lv_neT h13 (a := 13) rfl
  have q14 := lv_neT h14 (a := 14) rfl
  have q15 := lv_neT h15 (a := 15) rfl
  have q16 := lv_neT h16 (a := 16) rfl
  have q17 := lv_neT h17 (a := 17) rfl
  have q18 := lv_neT h18 (a := 18) rfl
  have q19 := lv_neT h19 (a := 19) rfl
  have q20 := lv_neT h20 (a := 20) rfl
  have q21 := lv_neT h21 (a := 21) rfl
  have q22 := lv_neT h22 (a := 22) rfl
  have q23 := lv_neT h23 (a := 23) rfl
  have q24 := lv_neT h24 (a := 24) rfl
  have q25 := lv_neT h25 (a := 25) rfl
  have q26 := lv_neT h26 (a := 26) rfl
  have q27 := lv_neT h27 (a := 27) rfl
  have q28 := lv_neT h28 (a := 28) rfl
  have q29 := lv_neT h29 (a := 29) rfl
  have q30 := lv_neT h30 (a := 30) rfl
  have q31 := lv_neT h31 (a := 31) rfl
  have q32 := lv_neT h32 (a := 32) rfl
  have q33 := lv_neT h33 (a := 33) rfl
  have q34 := lv_neT h34 (a := 34) rfl
  have q35 := lv_neT h35 (a := 35) rfl
  have q36 := lv_neT h36 (a := 36) rfl
  have q37 := lv_neT h37 (a := 37) rfl
  have q38 := lv_neT h38 (a := 38) rfl
  omega
theorem len6 {L : Nat} (hL : L ≤ 6) (h : ¬ (Int32.ofNat L - 6 < 0)) : L = 6 := by
  rcases (show L = 0 ∨ L = 1 ∨ L = 2 ∨ L = 3 ∨ L = 4 ∨ L = 5 ∨ L = 6 by omega) with rfl | rfl | rfl | rfl | rfl | rfl | rfl
  · exact absurd (by decide) h
  · exact absurd (by decide) h
  · exact absurd (by decide) h
  · exact absurd (by decide) h
  · exact absurd (by decide) h
  · exact absurd (by decide) h
  · rfl
set_option maxHeartbeats 4000000 in
set_option maxRecDepth 100000 in
theorem law_tail {p : Program} {l : Launch} {e : Env} {s : State} {m : MethodId} {below : List Frame} {meth : Method} {c : Code} {D : va_G} {k : ClassId × ClassId × ClassId × ClassId} {A : Nat → Prop} {b L : Nat} {xs : Nat → Int32} (hL : L = 6) (C0 : lw_At p s m meth c b L xs) (hKX : va_K D classes (TY k) s ∧ cX s) (hA : ∀ q : Nat, s.heap.size ≤ q → A q) (hA2 : ∀ q : Nat, A q → s.heap.size ≤ q) (hbA : ¬ A b) {x y : Nat} {H : Heap} {locs : List Loc} (hS : va_S A s.heap H locs) {ls : Array Slot} (hl : lv_has ls 4 [(0, .ref b), (1, .ref x), (2, .ref y), (3, .int 0)]) : W p l e room_1 s m #[Value.ref b] below meth c H locs 119 46443 (lw_Z below #[Value.ref b] s) (F0 m 1645 ls []) := by
  obtain ⟨hx, hb, hr, hml, hown, hts, hX, hbl, hlocks, hgv⟩ := id C0
  have hown : s.vm.findClass RL = some m.cls := hown
  have hK := hKX.1
  have hgd : ∀ w ∈ gd, w ∈ lw_tbl := fun w h => (List.mem_filter.mp h).1
  have hg : ∀ w ∈ gd, w.before #[Value.ref b] s = true := fun w h => hts w (hgd w h)
  subst hL
  refine lv_iinc (v := 6) (lv' := [(3, .int 6), (0, .ref b), (1, .ref x), (2, .ref y)]) hx hb dL_law_1645 hl (k := 3) rfl (by decide) (by decide) rfl (fun ls hl => ?_)
  refine lv_goto (tgt := 18) hx hb dL_law_1648 (by decide) ?_
  refine lv_iload_n hx hb dL_law_18 rfl (lv_at hl 0 rfl) ?_
  refine lv_aload_n hx hb dL_law_19 rfl (lv_at hl 1 rfl) ?_
  refine va_slen hx hb hX hbl hbA hS dL_law_20 ?_
  refine lv_bipush (v := 6) hx hb dL_law_21 (by decide) ?_
  refine lv_isub hx hb dL_law_23 ?_
  refine lv_icmp_gt (tgt := 1651) hx hb dL_law_24 (by decide) (fun c_1 => ?_) (fun c_1 => ?_)
  · refine lv_iconst (v := 1) hx hb dL_law_1651 (by decide) ?_
    refine va_forget (fun q hq => hA2 _ (hS.2.2 q hq)) ?_
    refine W.widen (k := 600000) (n := 7302250) (Nat.le_of_ble_eq_true rfl) (Nat.le_of_ble_eq_true rfl) ?_
    exact lw_ret hx hb hr hlocks dL_law_1652
  · exact absurd (by decide) c_1
