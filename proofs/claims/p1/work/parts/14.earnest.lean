set_option maxHeartbeats 4000000 in
set_option maxRecDepth 100000 in
theorem c_X1_forgetActs (l : Launch) (D : va_G) (k : ClassId × ClassId × ClassId × ClassId) (sz : Nat) (h0 nw kp bx : Nat) (E : List Value) (f1 : Nat → Int32) (f2 : Nat → Int32) (a1 a2 a3 : Int32) (g_E_now : E[0]? = some (.ref nw)) (g_E_kept : E[1]? = some (.ref kp)) (g_E_boxes : E[2]? = some (.ref bx)) (g_E_full : E[3]? = some (.int a1)) (g_E_done : E[4]? = some (.int a2)) (g_E_undone : E[5]? = some (.int a3)) : Met l yX1_forgetActs (WS yX1_forgetActs cX1_forgetActs 1 none) ({ frames := 1, cells := 0, slots := 0, locals := 40 }) (va_Pc [.ref h0] (cP D k [(h0, .inr (1, E)), (nw, .inl (k.2.1, 10, .inl f1)), (kp, .inl (k.2.1, 410, .inl f2))] sz)) (va_Qv (fun _ : Unit => True) (fun (_ : Unit) t => ∃ (E2 : List Value), ∃ (f3 : Nat → Int32), E2[0]? = some (.ref nw) ∧ E2[1]? = some (.ref kp) ∧ E2[2]? = some (.ref bx) ∧ E2[3]? = some (.int a1) ∧ E2[4]? = some (.int 0) ∧ E2[5]? = some (.int 0) ∧ cB D (va_A [(h0, .inr (1, E)), (nw, .inl (k.2.1, 10, .inl f1)), (kp, .inl (k.2.1, 410, .inl f2))] sz) [(h0, .inr (1, E2)), (nw, .inl (k.2.1, 10, .inl f1)), (kp, .inl (k.2.1, 410, .inl f3))] t) (va_A [(h0, .inr (1, E)), (nw, .inl (k.2.1, 10, .inl f1)), (kp, .inl (k.2.1, 410, .inl f2))] sz)) 0 0 (va_A [(h0, .inr (1, E)), (nw, .inl (k.2.1, 10, .inl f1)), (kp, .inl (k.2.1, 410, .inl f2))] sz) := by
  refine Met.ofW (cc := cX1_forgetActs) (maxL := 1) (ret := none) (by decide) rfl ?_
  intro p e s m args below meth c s₁ B hml hv
  obtain ⟨rfl, hsz, hP, hKX, hD0⟩ := hv
  have hK := hKX.1
  have hx := B.exec
  have hb := B.bytes
  have hr := B.returns
  have hts := atoms_spec (ws := WS yX1_forgetActs cX1_forgetActs 1 none) B.pre
  have hgd : ∀ w ∈ gd, w ∈ WS yX1_forgetActs cX1_forgetActs 1 none := fun w h => List.mem_cons_of_mem _ h
  have hg : ∀ w ∈ gd, w.before _ s = true := fun w h => hts w (hgd w h)
  have hown : s.vm.findClass RX1 = some m.cls := findClass_of_methodNamed B.named
  have hlocks := B.notSynchronized
  subst hsz
  have hD := hD0.self (sz := s.heap.size)
  generalize hAe : va_A [(h0, .inr (1, E)), (nw, .inl (k.2.1, 10, .inl f1)), (kp, .inl (k.2.1, 410, .inl f2))] s.heap.size = A at hD ⊢
  have hA : ∀ q : Nat, s.heap.size ≤ q → A q := fun q h => by rw [← hAe]; exact Or.inr h
  have hS : va_S A s.heap s.heap [] := va_S.rf
  have hP : va_P D classes [(h0, .inr (1, E)), (nw, .inl (k.2.1, 10, .inl f1)), (kp, .inl (k.2.1, 410, .inl f2))] s.heap := hP
  have hl := lv_entry ([.ref h0]) (n := 1) (Nat.le_of_ble_eq_true rfl)
  rw [lg_entry_eq]
  generalize (lg_sl ([.ref h0]) ++ List.replicate (1 - (lg_sl ([.ref h0])).length) Slot.unset).toArray = ls at hl ⊢
  have hl : lv_has ls 1 [(0, .ref h0)] := hl
  refine lv_aload_n hx hb dX1_forgetActs_0 rfl (lv_at hl 0 rfl) ?_
  refine lv_iconst (v := 0) hx hb dX1_forgetActs_1 (by decide) ?_
  refine va_put (D := D) (ci := 1) (v := .int 0) (ty := .int) (C := RX1) (T := TX1) (N := 6) hx hb hg iX1 tyX1 tyX1_ok nmX1 hown hK hP hD hS 0 rfl rfl 4 (by decide) (hg (Cond.fieldLink RX1 34 "SlabWalk$Earnest" "done" "I") m497) (fun _ h9 => h9) rfl (by decide +kernel) rfl rfl (fs_lt g_E_done) dX1_forgetActs_2 (fun H locs hP hD hS => ?_)
  have hP : va_P D classes [(h0, .inr (1, (E.set 4 (.int 0)))), (nw, .inl (k.2.1, 10, .inl f1)), (kp, .inl (k.2.1, 410, .inl f2))] H := hP
  have hD : va_D A [(h0, .inr (1, (E.set 4 (.int 0)))), (nw, .inl (k.2.1, 10, .inl f1)), (kp, .inl (k.2.1, 410, .inl f2))] := hD
  refine lv_aload_n hx hb dX1_forgetActs_5 rfl (lv_at hl 0 rfl) ?_
  refine lv_iconst (v := 0) hx hb dX1_forgetActs_6 (by decide) ?_
  refine va_put (D := D) (ci := 1) (v := .int 0) (ty := .int) (C := RX1) (T := TX1) (N := 6) hx hb hg iX1 tyX1 tyX1_ok nmX1 hown hK hP hD hS 0 rfl rfl 5 (by decide) (hg (Cond.fieldLink RX1 37 "SlabWalk$Earnest" "undone" "I") m499) (fun _ h9 => h9) rfl (by decide +kernel) rfl rfl (fs_lt (fs_ne g_E_undone (by decide))) dX1_forgetActs_7 (fun H locs hP hD hS => ?_)
  have hP : va_P D classes [(h0, .inr (1, ((E.set 4 (.int 0)).set 5 (.int 0)))), (nw, .inl (k.2.1, 10, .inl f1)), (kp, .inl (k.2.1, 410, .inl f2))] H := hP
  have hD : va_D A [(h0, .inr (1, ((E.set 4 (.int 0)).set 5 (.int 0)))), (nw, .inl (k.2.1, 10, .inl f1)), (kp, .inl (k.2.1, 410, .inl f2))] := hD
  refine lv_aload_n hx hb dX1_forgetActs_10 rfl (lv_at hl 0 rfl) ?_
  refine va_get (D := D) (ci := 1) (v := .ref nw) (C := RX1) (T := TX1) (N := 6) hx hb hg iX1 hown hK hP 0 rfl rfl 0 (by decide) (hg (Cond.fieldLink RX1 11 "SlabWalk$Earnest" "now" "[I") m492) (fun _ h9 => h9) (fs_ne (fs_ne g_E_now (by decide)) (by decide)) dX1_forgetActs_11 ?_
  refine lv_iconst (v := 0) hx hb dX1_forgetActs_14 (by decide) ?_
  refine lv_aload_n hx hb dX1_forgetActs_15 rfl (lv_at hl 0 rfl) ?_
  refine va_get (D := D) (ci := 1) (v := .ref kp) (C := RX1) (T := TX1) (N := 6) hx hb hg iX1 hown hK hP 0 rfl rfl 1 (by decide) (hg (Cond.fieldLink RX1 15 "SlabWalk$Earnest" "kept" "[I") m494) (fun _ h9 => h9) (fs_ne (fs_ne g_E_kept (by decide)) (by decide)) dX1_forgetActs_16 ?_
  refine lv_iconst (v := 0) hx hb dX1_forgetActs_19 (by decide) ?_
  refine lv_bipush (v := 10) hx hb dX1_forgetActs_20 (by decide) ?_
  refine va_copyi hx hb (by rw [hml]; exact hl.1.symm) hown (hg (Cond.methodLink RX1 40 arraycopyName) m567) (hg (Cond.native arraycopyName) m569) (hg (Cond.static arraycopyName) m568) (hg (Cond.initialized "java/lang/System") m130) hK hP hD hS 1 2 1 1 rfl rfl rfl rfl rfl (by decide) (by decide) (by decide) (by decide) (by decide) (fun _ _ => rfl) (Nat.le_of_ble_eq_true rfl) (by decide +kernel) dX1_forgetActs_22 (fun H locs hP hD hS => ?_)
  have hP : va_P D classes [(h0, .inr (1, ((E.set 4 (.int 0)).set 5 (.int 0)))), (nw, .inl (k.2.1, 10, .inl f1)), (kp, .inl (k.2.1, 410, .inl (va_cpy f1 f2 (0 : Int32).toNatClampNeg (0 : Int32).toNatClampNeg (10 : Int32).toNatClampNeg)))] H := hP
  have hD : va_D A [(h0, .inr (1, ((E.set 4 (.int 0)).set 5 (.int 0)))), (nw, .inl (k.2.1, 10, .inl f1)), (kp, .inl (k.2.1, 410, .inl (va_cpy f1 f2 (0 : Int32).toNatClampNeg (0 : Int32).toNatClampNeg (10 : Int32).toNatClampNeg)))] := hD
  generalize (va_cpy f1 f2 (0 : Int32).toNatClampNeg (0 : Int32).toNatClampNeg (10 : Int32).toNatClampNeg) = f_1 at hP hD
  have hP9 := hP.sub (ws' := [(h0, .inr (1, ((E.set 4 (.int 0)).set 5 (.int 0)))), (nw, .inl (k.2.1, 10, .inl f1)), (kp, .inl (k.2.1, 410, .inl f_1))]) [0, 1, 2] rfl
  have hD9 := hD.sub (ws' := [(h0, .inr (1, ((E.set 4 (.int 0)).set 5 (.int 0)))), (nw, .inl (k.2.1, 10, .inl f1)), (kp, .inl (k.2.1, 410, .inl f_1))]) [0, 1, 2] (by decide) rfl
  exact W.vret hx hb hr (fun t ht hW => ⟨⟨(), rfl, trivial, ⟨((E.set 4 (.int 0)).set 5 (.int 0)), f_1, (fs_ne (fs_ne g_E_now (by decide)) (by decide)), (fs_ne (fs_ne g_E_kept (by decide)) (by decide)), (fs_ne (fs_ne g_E_boxes (by decide)) (by decide)), (fs_ne (fs_ne g_E_full (by decide)) (by decide)), (fs_ne (fs_eq g_E_done) (by decide)), (fs_eq (fs_ne g_E_undone (by decide))), cB_of ht hP9 hD9⟩⟩, hS.F ht⟩) hS.2.2 dX1_forgetActs_25

set_option maxHeartbeats 4000000 in
set_option maxRecDepth 100000 in
theorem c_X1_startAnew (l : Launch) (D : va_G) (k : ClassId × ClassId × ClassId × ClassId) (sz : Nat) (h0 nw kp bx : Nat) (E : List Value) (f1 : Nat → Int32) (f2 : Nat → Int32) (a1 a2 a3 : Int32) (g_E_now : E[0]? = some (.ref nw)) (g_E_kept : E[1]? = some (.ref kp)) (g_E_boxes : E[2]? = some (.ref bx)) (g_E_full : E[3]? = some (.int a1)) (g_E_done : E[4]? = some (.int a2)) (g_E_undone : E[5]? = some (.int a3)) : Met l yX1_startAnew (WS yX1_startAnew cX1_startAnew 2 none) ({ frames := 2, cells := 0, slots := 0, locals := 60 }) (va_Pc [.ref h0, .int 0] (cP D k [(h0, .inr (1, E)), (nw, .inl (k.2.1, 10, .inl f1)), (kp, .inl (k.2.1, 410, .inl f2))] sz)) (va_Qv (fun _ : Unit => True) (fun (_ : Unit) t => ∃ (E2 : List Value), ∃ (f4 : Nat → Int32), ∃ (f3 : Nat → Int32), E2[0]? = some (.ref nw) ∧ E2[1]? = some (.ref kp) ∧ E2[2]? = some (.ref bx) ∧ E2[3]? = some (.int 0) ∧ E2[4]? = some (.int 0) ∧ E2[5]? = some (.int 0) ∧ f4 0 = (-1) ∧ f4 4 = 0 ∧ f4 5 = 0 ∧ f4 6 = 0 ∧ f4 7 = 0 ∧ f4 8 = 0 ∧ f4 9 = 0 ∧ cB D (va_A [(h0, .inr (1, E)), (nw, .inl (k.2.1, 10, .inl f1)), (kp, .inl (k.2.1, 410, .inl f2))] sz) [(h0, .inr (1, E2)), (nw, .inl (k.2.1, 10, .inl f4)), (kp, .inl (k.2.1, 410, .inl f3))] t) (va_A [(h0, .inr (1, E)), (nw, .inl (k.2.1, 10, .inl f1)), (kp, .inl (k.2.1, 410, .inl f2))] sz)) 0 0 (va_A [(h0, .inr (1, E)), (nw, .inl (k.2.1, 10, .inl f1)), (kp, .inl (k.2.1, 410, .inl f2))] sz) := by
  refine Met.ofW (cc := cX1_startAnew) (maxL := 2) (ret := none) (by decide) rfl ?_
  intro p e s m args below meth c s₁ B hml hv
  obtain ⟨rfl, hsz, hP, hKX, hD0⟩ := hv
  have hK := hKX.1
  have hx := B.exec
  have hb := B.bytes
  have hr := B.returns
  have hts := atoms_spec (ws := WS yX1_startAnew cX1_startAnew 2 none) B.pre
  have hgd : ∀ w ∈ gd, w ∈ WS yX1_startAnew cX1_startAnew 2 none := fun w h => List.mem_cons_of_mem _ h
  have hg : ∀ w ∈ gd, w.before _ s = true := fun w h => hts w (hgd w h)
  have hown : s.vm.findClass RX1 = some m.cls := findClass_of_methodNamed B.named
  have hlocks := B.notSynchronized
  subst hsz
  have hD := hD0.self (sz := s.heap.size)
  generalize hAe : va_A [(h0, .inr (1, E)), (nw, .inl (k.2.1, 10, .inl f1)), (kp, .inl (k.2.1, 410, .inl f2))] s.heap.size = A at hD ⊢
  have hA : ∀ q : Nat, s.heap.size ≤ q → A q := fun q h => by rw [← hAe]; exact Or.inr h
  have hS : va_S A s.heap s.heap [] := va_S.rf
  have hP : va_P D classes [(h0, .inr (1, E)), (nw, .inl (k.2.1, 10, .inl f1)), (kp, .inl (k.2.1, 410, .inl f2))] s.heap := hP
  have hl := lv_entry ([.ref h0, .int 0]) (n := 2) (Nat.le_of_ble_eq_true rfl)
  rw [lg_entry_eq]
  generalize (lg_sl ([.ref h0, .int 0]) ++ List.replicate (2 - (lg_sl ([.ref h0, .int 0])).length) Slot.unset).toArray = ls at hl ⊢
  have hl : lv_has ls 2 [(0, .ref h0), (1, .int 0)] := hl
  refine lv_aload_n hx hb dX1_startAnew_0 rfl (lv_at hl 0 rfl) ?_
  refine va_get (D := D) (ci := 1) (v := .ref nw) (C := RX1) (T := TX1) (N := 6) hx hb hg iX1 hown hK hP 0 rfl rfl 0 (by decide) (hg (Cond.fieldLink RX1 11 "SlabWalk$Earnest" "now" "[I") m492) (fun _ h9 => h9) g_E_now dX1_startAnew_1 ?_
  refine lv_iconst (v := 0) hx hb dX1_startAnew_4 (by decide) ?_
  have hPc := hP.sub (ws' := [(nw, .inl (k.2.1, 10, .inl f1))]) [1] rfl
  have hDc := hD.sub (ws' := [(nw, .inl (k.2.1, 10, .inl f1))]) [1] (by decide) rfl
  have hFc := va_free (wc := [(nw, .inl (k.2.1, 10, .inl f1))]) hD hS hA [1] rfl
  refine va_callv (va_runS (As := [.ref nw, .int 0]) (rest := []) ⟨hx, hb, hml, hown, hts⟩ (c_fill10 l D k s.heap.size nw f1 0 ) (va_cwS 2 hts (gd_S hgd m562 m556 m129 m557) rfl rfl rfl (by decide +kernel) ⟨Nat.le_of_ble_eq_true rfl, Nat.le_of_ble_eq_true rfl⟩) (cP_S hPc hKX hDc) rfl rfl hl.1 rfl (lv_room (Nat.le_of_ble_eq_true rfl)) dX1_startAnew_5 ⟨Nat.le_of_ble_eq_true rfl, Nat.le_of_ble_eq_true rfl⟩) hS (fun q _ h => hFc q h) hFc (fun u t H1 locs ht hvm hw hB hz1 hk1 hS => ?_)
  obtain ⟨z_2, g_3, g_4, g_5, g_6, g_7, g_8, g_9, g_10, g_11, g_12, hP1, hD1⟩ := hB
  rw [ht] at hP1
  obtain ⟨hP, hD⟩ := va_join (wr := [(h0, .inr (1, E)), (kp, .inl (k.2.1, 410, .inl f2))]) (w1 := [(nw, .inl (k.2.1, 10, .inl z_2))]) hP hD [1] [0, 2] rfl rfl (by decide) (by decide) hk1 hFc hP1 hD1
  generalize H1 = H at hP hS ⊢
  have hP : va_P D classes [(h0, .inr (1, E)), (kp, .inl (k.2.1, 410, .inl f2)), (nw, .inl (k.2.1, 10, .inl z_2))] H := hP
  have hD : va_D A [(h0, .inr (1, E)), (kp, .inl (k.2.1, 410, .inl f2)), (nw, .inl (k.2.1, 10, .inl z_2))] := hD
  refine W.widen (k := 0) (n := 0) (Nat.le_of_ble_eq_true rfl) (Nat.le_of_ble_eq_true rfl) ?_
  refine lv_aload_n hx hb dX1_startAnew_8 rfl (lv_at hl 0 rfl) ?_
  refine va_get (D := D) (ci := 1) (v := .ref nw) (C := RX1) (T := TX1) (N := 6) hx hb hg iX1 hown hK hP 0 rfl rfl 0 (by decide) (hg (Cond.fieldLink RX1 11 "SlabWalk$Earnest" "now" "[I") m492) (fun _ h9 => h9) g_E_now dX1_startAnew_9 ?_
  refine lv_iconst (v := 0) hx hb dX1_startAnew_12 (by decide) ?_
  refine lv_iconst (v := (-1)) hx hb dX1_startAnew_13 (by decide) ?_
  refine va_iast hx hb hK hP hD hS 2 1 rfl rfl (show ¬ ((0 : Int32) < 0 ∨ 10 ≤ (0 : Int32).toNatClampNeg) from by decide +kernel) dX1_startAnew_14 (fun H locs hP hD hS => ?_)
  have hP : va_P D classes [(h0, .inr (1, E)), (kp, .inl (k.2.1, 410, .inl f2)), (nw, .inl (k.2.1, 10, .inl (upd z_2 0 (-1))))] H := hP
  have hD : va_D A [(h0, .inr (1, E)), (kp, .inl (k.2.1, 410, .inl f2)), (nw, .inl (k.2.1, 10, .inl (upd z_2 0 (-1))))] := hD
  have g_14 : (upd z_2 0 (-1)) 1 = 0 := g_4
  have g_15 : (upd z_2 0 (-1)) 2 = 0 := g_5
  have g_16 : (upd z_2 0 (-1)) 3 = 0 := g_6
  have g_17 : (upd z_2 0 (-1)) 4 = 0 := g_7
  have g_18 : (upd z_2 0 (-1)) 5 = 0 := g_8
  have g_19 : (upd z_2 0 (-1)) 6 = 0 := g_9
  have g_20 : (upd z_2 0 (-1)) 7 = 0 := g_10
  have g_21 : (upd z_2 0 (-1)) 8 = 0 := g_11
  have g_22 : (upd z_2 0 (-1)) 9 = 0 := g_12
  have g_23 : (upd z_2 0 (-1)) 0 = (-1) := rfl
  generalize (upd z_2 0 (-1)) = f_13 at hP hD g_14 g_15 g_16 g_17 g_18 g_19 g_20 g_21 g_22 g_23
  refine lv_aload_n hx hb dX1_startAnew_15 rfl (lv_at hl 0 rfl) ?_
  refine va_get (D := D) (ci := 1) (v := .ref nw) (C := RX1) (T := TX1) (N := 6) hx hb hg iX1 hown hK hP 0 rfl rfl 0 (by decide) (hg (Cond.fieldLink RX1 11 "SlabWalk$Earnest" "now" "[I") m492) (fun _ h9 => h9) g_E_now dX1_startAnew_16 ?_
  refine lv_bipush (v := 7) hx hb dX1_startAnew_19 (by decide) ?_
  refine lv_iload_n hx hb dX1_startAnew_21 rfl (lv_at hl 1 rfl) ?_
  refine va_iast hx hb hK hP hD hS 2 1 rfl rfl (show ¬ ((7 : Int32) < 0 ∨ 10 ≤ (7 : Int32).toNatClampNeg) from by decide +kernel) dX1_startAnew_22 (fun H locs hP hD hS => ?_)
  have hP : va_P D classes [(h0, .inr (1, E)), (kp, .inl (k.2.1, 410, .inl f2)), (nw, .inl (k.2.1, 10, .inl (upd f_13 7 0)))] H := hP
  have hD : va_D A [(h0, .inr (1, E)), (kp, .inl (k.2.1, 410, .inl f2)), (nw, .inl (k.2.1, 10, .inl (upd f_13 7 0)))] := hD
  have g_25 : (upd f_13 7 0) 1 = 0 := g_14
  have g_26 : (upd f_13 7 0) 2 = 0 := g_15
  have g_27 : (upd f_13 7 0) 3 = 0 := g_16
  have g_28 : (upd f_13 7 0) 4 = 0 := g_17
  have g_29 : (upd f_13 7 0) 5 = 0 := g_18
  have g_30 : (upd f_13 7 0) 6 = 0 := g_19
  have g_31 : (upd f_13 7 0) 8 = 0 := g_21
  have g_32 : (upd f_13 7 0) 9 = 0 := g_22
  have g_33 : (upd f_13 7 0) 0 = (-1) := g_23
  have g_34 : (upd f_13 7 0) 7 = 0 := rfl
  generalize (upd f_13 7 0) = f_24 at hP hD g_25 g_26 g_27 g_28 g_29 g_30 g_31 g_32 g_33 g_34
  refine lv_aload_n hx hb dX1_startAnew_23 rfl (lv_at hl 0 rfl) ?_
  refine lv_iconst (v := 0) hx hb dX1_startAnew_24 (by decide) ?_
  refine va_put (D := D) (ci := 1) (v := .int 0) (ty := .int) (C := RX1) (T := TX1) (N := 6) hx hb hg iX1 tyX1 tyX1_ok nmX1 hown hK hP hD hS 0 rfl rfl 3 (by decide) (hg (Cond.fieldLink RX1 27 "SlabWalk$Earnest" "full" "I") m496) (fun _ h9 => h9) rfl (by decide +kernel) rfl rfl (fs_lt g_E_full) dX1_startAnew_25 (fun H locs hP hD hS => ?_)
  have hP : va_P D classes [(h0, .inr (1, (E.set 3 (.int 0)))), (kp, .inl (k.2.1, 410, .inl f2)), (nw, .inl (k.2.1, 10, .inl f_24))] H := hP
  have hD : va_D A [(h0, .inr (1, (E.set 3 (.int 0)))), (kp, .inl (k.2.1, 410, .inl f2)), (nw, .inl (k.2.1, 10, .inl f_24))] := hD
  refine lv_aload_n hx hb dX1_startAnew_28 rfl (lv_at hl 0 rfl) ?_
  have hPc := hP.sub (ws' := [(h0, .inr (1, (E.set 3 (.int 0)))), (nw, .inl (k.2.1, 10, .inl f_24)), (kp, .inl (k.2.1, 410, .inl f2))]) [0, 2, 1] rfl
  have hDc := hD.sub (ws' := [(h0, .inr (1, (E.set 3 (.int 0)))), (nw, .inl (k.2.1, 10, .inl f_24)), (kp, .inl (k.2.1, 410, .inl f2))]) [0, 2, 1] (by decide) rfl
  have hFc := va_free (wc := [(h0, .inr (1, (E.set 3 (.int 0)))), (nw, .inl (k.2.1, 10, .inl f_24)), (kp, .inl (k.2.1, 410, .inl f2))]) hD hS hA [0, 2, 1] rfl
  refine va_callv (va_runV (As := []) (rest := []) ⟨hx, hb, hml, hown, hts⟩ (c_X1_forgetActs l D k H.size h0 nw kp bx (E.set 3 (.int 0)) f_24 f2 0 a2 a3 (fs_ne g_E_now (by decide)) (fs_ne g_E_kept (by decide)) (fs_ne g_E_boxes (by decide)) (fs_eq g_E_full) (fs_ne g_E_done (by decide)) (fs_ne g_E_undone (by decide))) (cwV 0 hts (gd_V hgd m563 m565 m1 m127 m566) rfl rfl rfl (by decide +kernel) ⟨Nat.le_of_ble_eq_true rfl, Nat.le_of_ble_eq_true rfl⟩) (cP_V hPc hKX hDc (ci := 1) (q0 := 0) rfl rfl) rfl rfl hl.1 rfl (lv_room (Nat.le_of_ble_eq_true rfl)) dX1_startAnew_29 ⟨Nat.le_of_ble_eq_true rfl, Nat.le_of_ble_eq_true rfl⟩) hS (fun q _ h => hFc q h) hFc (fun u t H1 locs ht hvm hw hB hz1 hk1 hS => ?_)
  obtain ⟨z_36, z_37, g_38, g_39, g_40, g_41, g_42, g_43, hP1, hD1⟩ := hB
  rw [ht] at hP1
  obtain ⟨hP, hD⟩ := va_join (wr := []) (w1 := [(h0, .inr (1, z_36)), (nw, .inl (k.2.1, 10, .inl f_24)), (kp, .inl (k.2.1, 410, .inl z_37))]) hP hD [0, 2, 1] [] rfl rfl (by decide) (by decide) hk1 hFc hP1 hD1
  generalize H1 = H at hP hS ⊢
  have hP : va_P D classes [(h0, .inr (1, z_36)), (nw, .inl (k.2.1, 10, .inl f_24)), (kp, .inl (k.2.1, 410, .inl z_37))] H := hP
  have hD : va_D A [(h0, .inr (1, z_36)), (nw, .inl (k.2.1, 10, .inl f_24)), (kp, .inl (k.2.1, 410, .inl z_37))] := hD
  refine W.widen (k := 0) (n := 0) (Nat.le_of_ble_eq_true rfl) (Nat.le_of_ble_eq_true rfl) ?_
  have hP9 := hP.sub (ws' := [(h0, .inr (1, z_36)), (nw, .inl (k.2.1, 10, .inl f_24)), (kp, .inl (k.2.1, 410, .inl z_37))]) [0, 1, 2] rfl
  have hD9 := hD.sub (ws' := [(h0, .inr (1, z_36)), (nw, .inl (k.2.1, 10, .inl f_24)), (kp, .inl (k.2.1, 410, .inl z_37))]) [0, 1, 2] (by decide) rfl
  exact W.vret hx hb hr (fun t ht hW => ⟨⟨(), rfl, trivial, ⟨z_36, f_24, z_37, g_38, g_39, g_40, g_41, g_42, g_43, g_33, g_28, g_29, g_30, g_34, g_31, g_32, cB_of ht hP9 hD9⟩⟩, hS.F ht⟩) hS.2.2 dX1_startAnew_32

set_option maxHeartbeats 4000000 in
set_option maxRecDepth 100000 in
theorem c_X3_lookAt (l : Launch) (D : va_G) (k : ClassId × ClassId × ClassId × ClassId) (sz : Nat) (h0 h1 fo h2 : Nat) (E : List Value) (g : Nat → Int32) (g_E_foundOn : E[1]? = some (.ref fo)) (g_E_paving : E[4]? = some (.ref h2)) : Met l yX3_lookAt (WS yX3_lookAt cX3_lookAt 2 none) ({ frames := 1, cells := 0, slots := 0, locals := 23 }) (va_Pc [.ref h0, .ref h1] (cP D k [(h0, .inr (3, E)), (fo, .inl (k.2.1, 3, .inl g))] sz)) (va_Qv (fun _ : Unit => True) (fun (_ : Unit) t => ∃ (E2 : List Value), ∃ (g2 : Nat → Int32), E2[1]? = some (.ref fo) ∧ E2[4]? = some (.ref h1) ∧ cB D (va_A [(h0, .inr (3, E)), (fo, .inl (k.2.1, 3, .inl g))] sz) [(h0, .inr (3, E2)), (fo, .inl (k.2.1, 3, .inl g2))] t) (va_A [(h0, .inr (3, E)), (fo, .inl (k.2.1, 3, .inl g))] sz)) 0 0 (va_A [(h0, .inr (3, E)), (fo, .inl (k.2.1, 3, .inl g))] sz) := by
  refine Met.ofW (cc := cX3_lookAt) (maxL := 2) (ret := none) (by decide) rfl ?_
  intro p e s m args below meth c s₁ B hml hv
  obtain ⟨rfl, hsz, hP, hKX, hD0⟩ := hv
  have hK := hKX.1
  have hx := B.exec
  have hb := B.bytes
  have hr := B.returns
  have hts := atoms_spec (ws := WS yX3_lookAt cX3_lookAt 2 none) B.pre
  have hgd : ∀ w ∈ gd, w ∈ WS yX3_lookAt cX3_lookAt 2 none := fun w h => List.mem_cons_of_mem _ h
  have hg : ∀ w ∈ gd, w.before _ s = true := fun w h => hts w (hgd w h)
  have hown : s.vm.findClass RX3 = some m.cls := findClass_of_methodNamed B.named
  have hlocks := B.notSynchronized
  subst hsz
  have hD := hD0.self (sz := s.heap.size)
  generalize hAe : va_A [(h0, .inr (3, E)), (fo, .inl (k.2.1, 3, .inl g))] s.heap.size = A at hD ⊢
  have hA : ∀ q : Nat, s.heap.size ≤ q → A q := fun q h => by rw [← hAe]; exact Or.inr h
  have hS : va_S A s.heap s.heap [] := va_S.rf
  have hP : va_P D classes [(h0, .inr (3, E)), (fo, .inl (k.2.1, 3, .inl g))] s.heap := hP
  have hl := lv_entry ([.ref h0, .ref h1]) (n := 2) (Nat.le_of_ble_eq_true rfl)
  rw [lg_entry_eq]
  generalize (lg_sl ([.ref h0, .ref h1]) ++ List.replicate (2 - (lg_sl ([.ref h0, .ref h1])).length) Slot.unset).toArray = ls at hl ⊢
  have hl : lv_has ls 2 [(0, .ref h0), (1, .ref h1)] := hl
  refine lv_aload_n hx hb dX3_lookAt_0 rfl (lv_at hl 0 rfl) ?_
  refine lv_aload_n hx hb dX3_lookAt_1 rfl (lv_at hl 1 rfl) ?_
  refine va_put (D := D) (ci := 3) (v := .ref h1) (ty := (.object "SlabWalk$Paving")) (C := RX3) (T := TX3) (N := 5) hx hb hg iX3 tyX3 tyX3_ok nmX3 hown hK hP hD hS 0 rfl rfl 4 (by decide) (hg (Cond.fieldLink RX3 21 "SlabWalk$Lines" "paving" "LSlabWalk$Paving;") m353) (fun _ h9 => h9) rfl (by decide +kernel) rfl rfl (fs_lt g_E_paving) dX3_lookAt_2 (fun H locs hP hD hS => ?_)
  have hP : va_P D classes [(h0, .inr (3, (E.set 4 (.ref h1)))), (fo, .inl (k.2.1, 3, .inl g))] H := hP
  have hD : va_D A [(h0, .inr (3, (E.set 4 (.ref h1)))), (fo, .inl (k.2.1, 3, .inl g))] := hD
  refine lv_aload_n hx hb dX3_lookAt_5 rfl (lv_at hl 0 rfl) ?_
  refine va_get (D := D) (ci := 3) (v := .ref fo) (C := RX3) (T := TX3) (N := 5) hx hb hg iX3 hown hK hP 0 rfl rfl 1 (by decide) (hg (Cond.fieldLink RX3 15 "SlabWalk$Lines" "foundOn" "[I") m350) (fun _ h9 => h9) (fs_ne g_E_foundOn (by decide)) dX3_lookAt_6 ?_
  refine lv_iconst (v := (-1)) hx hb dX3_lookAt_9 (by decide) ?_
  have hPc := hP.sub (ws' := [(fo, .inl (k.2.1, 3, .inl g))]) [1] rfl
  have hDc := hD.sub (ws' := [(fo, .inl (k.2.1, 3, .inl g))]) [1] (by decide) rfl
  have hFc := va_free (wc := [(fo, .inl (k.2.1, 3, .inl g))]) hD hS hA [1] rfl
  refine va_callv (va_runS (As := [.ref fo, .int (-1)]) (rest := []) ⟨hx, hb, hml, hown, hts⟩ (c_fill3 l D k H.size fo g (-1) ) (va_cwS 2 hts (gd_S hgd m555 m556 m129 m557) rfl rfl rfl (by decide +kernel) ⟨Nat.le_of_ble_eq_true rfl, Nat.le_of_ble_eq_true rfl⟩) (cP_S hPc hKX hDc) rfl rfl hl.1 rfl (lv_room (Nat.le_of_ble_eq_true rfl)) dX3_lookAt_10 ⟨Nat.le_of_ble_eq_true rfl, Nat.le_of_ble_eq_true rfl⟩) hS (fun q _ h => hFc q h) hFc (fun u t H1 locs ht hvm hw hB hz1 hk1 hS => ?_)
  obtain ⟨z_2, g_3, g_4, g_5, hP1, hD1⟩ := hB
  rw [ht] at hP1
  obtain ⟨hP, hD⟩ := va_join (wr := [(h0, .inr (3, (E.set 4 (.ref h1))))]) (w1 := [(fo, .inl (k.2.1, 3, .inl z_2))]) hP hD [1] [0] rfl rfl (by decide) (by decide) hk1 hFc hP1 hD1
  generalize H1 = H at hP hS ⊢
  have hP : va_P D classes [(h0, .inr (3, (E.set 4 (.ref h1)))), (fo, .inl (k.2.1, 3, .inl z_2))] H := hP
  have hD : va_D A [(h0, .inr (3, (E.set 4 (.ref h1)))), (fo, .inl (k.2.1, 3, .inl z_2))] := hD
  refine W.widen (k := 0) (n := 0) (Nat.le_of_ble_eq_true rfl) (Nat.le_of_ble_eq_true rfl) ?_
  have hP9 := hP.sub (ws' := [(h0, .inr (3, (E.set 4 (.ref h1)))), (fo, .inl (k.2.1, 3, .inl z_2))]) [0, 1] rfl
  have hD9 := hD.sub (ws' := [(h0, .inr (3, (E.set 4 (.ref h1)))), (fo, .inl (k.2.1, 3, .inl z_2))]) [0, 1] (by decide) rfl
  exact W.vret hx hb hr (fun t ht hW => ⟨⟨(), rfl, trivial, ⟨(E.set 4 (.ref h1)), z_2, (fs_ne g_E_foundOn (by decide)), (fs_eq g_E_paving), cB_of ht hP9 hD9⟩⟩, hS.F ht⟩) hS.2.2 dX3_lookAt_13

set_option maxHeartbeats 4000000 in
set_option maxRecDepth 100000 in
theorem c_X11_startAnew (l : Launch) (D : va_G) (k : ClassId × ClassId × ClassId × ClassId) (sz : Nat) (h0 pv sp tp rd ln ea si fo h2 nw kp bx : Nat) (F P N E Z : List Value) (g : Nat → Int32) (f1 : Nat → Int32) (f2 : Nat → Int32) (a9 a8 a1 a2 a3 a4 a5 : Int32) (g_F_paving : F[0]? = some (.ref pv)) (g_F_spare : F[1]? = some (.ref sp)) (g_F_taped : F[11]? = some (.int a8)) (g_F_lie : F[12]? = some (.int a9)) (g_F_tape : F[2]? = some (.ref tp)) (g_F_reader : F[3]? = some (.ref rd)) (g_F_lines : F[4]? = some (.ref ln)) (g_F_earnest : F[8]? = some (.ref ea)) (g_F_sights : F[9]? = some (.ref si)) (g_P_draw : P[16]? = some (.int 0)) (g_N_foundOn : N[1]? = some (.ref fo)) (g_N_paving : N[4]? = some (.ref h2)) (g_E_now : E[0]? = some (.ref nw)) (g_E_kept : E[1]? = some (.ref kp)) (g_E_boxes : E[2]? = some (.ref bx)) (g_E_full : E[3]? = some (.int a1)) (g_E_done : E[4]? = some (.int a2)) (g_E_undone : E[5]? = some (.int a3)) (g_Z_count : Z[5]? = some (.int a4)) (g_Z_time : Z[6]? = some (.int a5)) : Met l yX11_startAnew (WS yX11_startAnew cX11_startAnew 1 none) ({ frames := 3, cells := 0, slots := 0, locals := 81 }) (va_Pc [.ref h0] (cP D k [(h0, .inr (11, F)), (pv, .inr (6, P)), (ln, .inr (3, N)), (fo, .inl (k.2.1, 3, .inl g)), (ea, .inr (1, E)), (nw, .inl (k.2.1, 10, .inl f1)), (kp, .inl (k.2.1, 410, .inl f2)), (si, .inr (8, Z))] sz)) (va_Qv (fun _ : Unit => True) (fun (_ : Unit) t => ∃ (F2 : List Value), ∃ (N2 : List Value), ∃ (g2 : Nat → Int32), ∃ (E2 : List Value), ∃ (f4 : Nat → Int32), ∃ (f3 : Nat → Int32), ∃ (Z2 : List Value), F2[0]? = some (.ref pv) ∧ F2[1]? = some (.ref sp) ∧ F2[11]? = some (.int a8) ∧ F2[12]? = some (.int 0) ∧ F2[2]? = some (.ref tp) ∧ F2[3]? = some (.ref rd) ∧ F2[4]? = some (.ref ln) ∧ F2[8]? = some (.ref ea) ∧ F2[9]? = some (.ref si) ∧ N2[1]? = some (.ref fo) ∧ N2[4]? = some (.ref pv) ∧ E2[0]? = some (.ref nw) ∧ E2[1]? = some (.ref kp) ∧ E2[2]? = some (.ref bx) ∧ E2[3]? = some (.int 0) ∧ E2[4]? = some (.int 0) ∧ E2[5]? = some (.int 0) ∧ f4 0 = (-1) ∧ f4 4 = 0 ∧ f4 5 = 0 ∧ f4 6 = 0 ∧ f4 7 = 0 ∧ f4 8 = 0 ∧ f4 9 = 0 ∧ Z2[5]? = some (.int 0) ∧ Z2[6]? = some (.int a5) ∧ cB D (va_A [(h0, .inr (11, F)), (pv, .inr (6, P)), (ln, .inr (3, N)), (fo, .inl (k.2.1, 3, .inl g)), (ea, .inr (1, E)), (nw, .inl (k.2.1, 10, .inl f1)), (kp, .inl (k.2.1, 410, .inl f2)), (si, .inr (8, Z))] sz) [(h0, .inr (11, F2)), (pv, .inr (6, P)), (ln, .inr (3, N2)), (fo, .inl (k.2.1, 3, .inl g2)), (ea, .inr (1, E2)), (nw, .inl (k.2.1, 10, .inl f4)), (kp, .inl (k.2.1, 410, .inl f3)), (si, .inr (8, Z2))] t) (va_A [(h0, .inr (11, F)), (pv, .inr (6, P)), (ln, .inr (3, N)), (fo, .inl (k.2.1, 3, .inl g)), (ea, .inr (1, E)), (nw, .inl (k.2.1, 10, .inl f1)), (kp, .inl (k.2.1, 410, .inl f2)), (si, .inr (8, Z))] sz)) 0 0 (va_A [(h0, .inr (11, F)), (pv, .inr (6, P)), (ln, .inr (3, N)), (fo, .inl (k.2.1, 3, .inl g)), (ea, .inr (1, E)), (nw, .inl (k.2.1, 10, .inl f1)), (kp, .inl (k.2.1, 410, .inl f2)), (si, .inr (8, Z))] sz) := by
  refine Met.ofW (cc := cX11_startAnew) (maxL := 1) (ret := none) (by decide) rfl ?_
  intro p e s m args below meth c s₁ B hml hv
  obtain ⟨rfl, hsz, hP, hKX, hD0⟩ := hv
  have hK := hKX.1
  have hx := B.exec
  have hb := B.bytes
  have hr := B.returns
  have hts := atoms_spec (ws := WS yX11_startAnew cX11_startAnew 1 none) B.pre
  have hgd : ∀ w ∈ gd, w ∈ WS yX11_startAnew cX11_startAnew 1 none := fun w h => List.mem_cons_of_mem _ h
  have hg : ∀ w ∈ gd, w.before _ s = true := fun w h => hts w (hgd w h)
  have hown : s.vm.findClass RX11 = some m.cls := findClass_of_methodNamed B.named
  have hlocks := B.notSynchronized
  subst hsz
  have hD := hD0.self (sz := s.heap.size)
  generalize hAe : va_A [(h0, .inr (11, F)), (pv, .inr (6, P)), (ln, .inr (3, N)), (fo, .inl (k.2.1, 3, .inl g)), (ea, .inr (1, E)), (nw, .inl (k.2.1, 10, .inl f1)), (kp, .inl (k.2.1, 410, .inl f2)), (si, .inr (8, Z))] s.heap.size = A at hD ⊢
  have hA : ∀ q : Nat, s.heap.size ≤ q → A q := fun q h => by rw [← hAe]; exact Or.inr h
  have hS : va_S A s.heap s.heap [] := va_S.rf
  have hP : va_P D classes [(h0, .inr (11, F)), (pv, .inr (6, P)), (ln, .inr (3, N)), (fo, .inl (k.2.1, 3, .inl g)), (ea, .inr (1, E)), (nw, .inl (k.2.1, 10, .inl f1)), (kp, .inl (k.2.1, 410, .inl f2)), (si, .inr (8, Z))] s.heap := hP
  have hl := lv_entry ([.ref h0]) (n := 1) (Nat.le_of_ble_eq_true rfl)
  rw [lg_entry_eq]
  generalize (lg_sl ([.ref h0]) ++ List.replicate (1 - (lg_sl ([.ref h0])).length) Slot.unset).toArray = ls at hl ⊢
  have hl : lv_has ls 1 [(0, .ref h0)] := hl
  refine lv_aload_n hx hb dX11_startAnew_0 rfl (lv_at hl 0 rfl) ?_
  refine va_get (D := D) (ci := 11) (v := .ref ln) (C := RX11) (T := TX11) (N := 13) hx hb hg iX11 hown hK hP 0 rfl rfl 4 (by decide) (hg (Cond.fieldLink RX11 37 "SlabWalk" "lines" "LSlabWalk$Lines;") m574) (fun _ h9 => h9) g_F_lines dX11_startAnew_1 ?_
  refine lv_aload_n hx hb dX11_startAnew_4 rfl (lv_at hl 0 rfl) ?_
  refine va_get (D := D) (ci := 11) (v := .ref pv) (C := RX11) (T := TX11) (N := 13) hx hb hg iX11 hown hK hP 0 rfl rfl 0 (by decide) (hg (Cond.fieldLink RX11 10 "SlabWalk" "paving" "LSlabWalk$Paving;") m570) (fun _ h9 => h9) g_F_paving dX11_startAnew_5 ?_
  have hPc := hP.sub (ws' := [(ln, .inr (3, N)), (fo, .inl (k.2.1, 3, .inl g))]) [2, 3] rfl
  have hDc := hD.sub (ws' := [(ln, .inr (3, N)), (fo, .inl (k.2.1, 3, .inl g))]) [2, 3] (by decide) rfl
  have hFc := va_free (wc := [(ln, .inr (3, N)), (fo, .inl (k.2.1, 3, .inl g))]) hD hS hA [2, 3] rfl
  refine va_callv (va_runV (As := [.ref pv]) (rest := []) ⟨hx, hb, hml, hown, hts⟩ (c_X3_lookAt l D k s.heap.size ln pv fo h2 N g g_N_foundOn g_N_paving) (cwV 1 hts (gd_V hgd m551 m552 m553 m122 m554) rfl rfl rfl (by decide +kernel) ⟨Nat.le_of_ble_eq_true rfl, Nat.le_of_ble_eq_true rfl⟩) (cP_V hPc hKX hDc (ci := 3) (q0 := 0) rfl rfl) rfl rfl hl.1 rfl (lv_room (Nat.le_of_ble_eq_true rfl)) dX11_startAnew_8 ⟨Nat.le_of_ble_eq_true rfl, Nat.le_of_ble_eq_true rfl⟩) hS (fun q _ h => hFc q h) hFc (fun u t H1 locs ht hvm hw hB hz1 hk1 hS => ?_)
  obtain ⟨z_2, z_3, g_4, g_5, hP1, hD1⟩ := hB
  rw [ht] at hP1
  obtain ⟨hP, hD⟩ := va_join (wr := [(h0, .inr (11, F)), (pv, .inr (6, P)), (ea, .inr (1, E)), (nw, .inl (k.2.1, 10, .inl f1)), (kp, .inl (k.2.1, 410, .inl f2)), (si, .inr (8, Z))]) (w1 := [(ln, .inr (3, z_2)), (fo, .inl (k.2.1, 3, .inl z_3))]) hP hD [2, 3] [0, 1, 4, 5, 6, 7] rfl rfl (by decide) (by decide) hk1 hFc hP1 hD1
  generalize H1 = H at hP hS ⊢
  have hP : va_P D classes [(h0, .inr (11, F)), (pv, .inr (6, P)), (ea, .inr (1, E)), (nw, .inl (k.2.1, 10, .inl f1)), (kp, .inl (k.2.1, 410, .inl f2)), (si, .inr (8, Z)), (ln, .inr (3, z_2)), (fo, .inl (k.2.1, 3, .inl z_3))] H := hP
  have hD : va_D A [(h0, .inr (11, F)), (pv, .inr (6, P)), (ea, .inr (1, E)), (nw, .inl (k.2.1, 10, .inl f1)), (kp, .inl (k.2.1, 410, .inl f2)), (si, .inr (8, Z)), (ln, .inr (3, z_2)), (fo, .inl (k.2.1, 3, .inl z_3))] := hD
  refine W.widen (k := 0) (n := 0) (Nat.le_of_ble_eq_true rfl) (Nat.le_of_ble_eq_true rfl) ?_
  refine lv_aload_n hx hb dX11_startAnew_11 rfl (lv_at hl 0 rfl) ?_
  refine va_get (D := D) (ci := 11) (v := .ref ea) (C := RX11) (T := TX11) (N := 13) hx hb hg iX11 hown hK hP 0 rfl rfl 8 (by decide) (hg (Cond.fieldLink RX11 65 "SlabWalk" "earnest" "LSlabWalk$Earnest;") m578) (fun _ h9 => h9) g_F_earnest dX11_startAnew_12 ?_
  refine lv_aload_n hx hb dX11_startAnew_15 rfl (lv_at hl 0 rfl) ?_
  refine va_get (D := D) (ci := 11) (v := .ref pv) (C := RX11) (T := TX11) (N := 13) hx hb hg iX11 hown hK hP 0 rfl rfl 0 (by decide) (hg (Cond.fieldLink RX11 10 "SlabWalk" "paving" "LSlabWalk$Paving;") m570) (fun _ h9 => h9) g_F_paving dX11_startAnew_16 ?_
  refine va_get (D := D) (ci := 6) (v := .int 0) (C := RX6) (T := TX6) (N := 17) hx hb hg iX6 hown hK hP 1 rfl rfl 16 (by decide) (hg (Cond.fieldLink RX11 323 "SlabWalk$Paving" "draw" "I") m209) (fun _ h9 => h9) g_P_draw dX11_startAnew_19 ?_
  have hPc := hP.sub (ws' := [(ea, .inr (1, E)), (nw, .inl (k.2.1, 10, .inl f1)), (kp, .inl (k.2.1, 410, .inl f2))]) [2, 3, 4] rfl
  have hDc := hD.sub (ws' := [(ea, .inr (1, E)), (nw, .inl (k.2.1, 10, .inl f1)), (kp, .inl (k.2.1, 410, .inl f2))]) [2, 3, 4] (by decide) rfl
  have hFc := va_free (wc := [(ea, .inr (1, E)), (nw, .inl (k.2.1, 10, .inl f1)), (kp, .inl (k.2.1, 410, .inl f2))]) hD hS hA [2, 3, 4] rfl
  refine va_callv (va_runV (As := [.int 0]) (rest := []) ⟨hx, hb, hml, hown, hts⟩ (c_X1_startAnew l D k H.size ea nw kp bx E f1 f2 a1 a2 a3 g_E_now g_E_kept g_E_boxes g_E_full g_E_done g_E_undone) (cwV 1 hts (gd_V hgd m558 m559 m560 m127 m561) rfl rfl rfl (by decide +kernel) ⟨Nat.le_of_ble_eq_true rfl, Nat.le_of_ble_eq_true rfl⟩) (cP_V hPc hKX hDc (ci := 1) (q0 := 0) rfl rfl) rfl rfl hl.1 rfl (lv_room (Nat.le_of_ble_eq_true rfl)) dX11_startAnew_22 ⟨Nat.le_of_ble_eq_true rfl, Nat.le_of_ble_eq_true rfl⟩) hS (fun q _ h => hFc q h) hFc (fun u t H1 locs ht hvm hw hB hz1 hk1 hS => ?_)
  obtain ⟨z_7, z_8, z_9, g_10, g_11, g_12, g_13, g_14, g_15, g_16, g_17, g_18, g_19, g_20, g_21, g_22, hP1, hD1⟩ := hB
  rw [ht] at hP1
  obtain ⟨hP, hD⟩ := va_join (wr := [(h0, .inr (11, F)), (pv, .inr (6, P)), (si, .inr (8, Z)), (ln, .inr (3, z_2)), (fo, .inl (k.2.1, 3, .inl z_3))]) (w1 := [(ea, .inr (1, z_7)), (nw, .inl (k.2.1, 10, .inl z_8)), (kp, .inl (k.2.1, 410, .inl z_9))]) hP hD [2, 3, 4] [0, 1, 5, 6, 7] rfl rfl (by decide) (by decide) hk1 hFc hP1 hD1
  generalize H1 = H at hP hS ⊢
  have hP : va_P D classes [(h0, .inr (11, F)), (pv, .inr (6, P)), (si, .inr (8, Z)), (ln, .inr (3, z_2)), (fo, .inl (k.2.1, 3, .inl z_3)), (ea, .inr (1, z_7)), (nw, .inl (k.2.1, 10, .inl z_8)), (kp, .inl (k.2.1, 410, .inl z_9))] H := hP
  have hD : va_D A [(h0, .inr (11, F)), (pv, .inr (6, P)), (si, .inr (8, Z)), (ln, .inr (3, z_2)), (fo, .inl (k.2.1, 3, .inl z_3)), (ea, .inr (1, z_7)), (nw, .inl (k.2.1, 10, .inl z_8)), (kp, .inl (k.2.1, 410, .inl z_9))] := hD
  refine W.widen (k := 0) (n := 0) (Nat.le_of_ble_eq_true rfl) (Nat.le_of_ble_eq_true rfl) ?_
  refine lv_aload_n hx hb dX11_startAnew_25 rfl (lv_at hl 0 rfl) ?_
  refine va_get (D := D) (ci := 11) (v := .ref si) (C := RX11) (T := TX11) (N := 13) hx hb hg iX11 hown hK hP 0 rfl rfl 9 (by decide) (hg (Cond.fieldLink RX11 72 "SlabWalk" "sights" "LSlabWalk$Sights;") m579) (fun _ h9 => h9) g_F_sights dX11_startAnew_26 ?_
  refine lv_iconst (v := 0) hx hb dX11_startAnew_29 (by decide) ?_
  refine va_put (D := D) (ci := 8) (v := .int 0) (ty := .int) (C := RX8) (T := TX8) (N := 7) hx hb hg iX8 tyX8 tyX8_ok nmX8 hown hK hP hD hS 2 rfl rfl 5 (by decide) (hg (Cond.fieldLink RX11 285 "SlabWalk$Sights" "count" "I") m529) (fun _ h9 => h9) rfl (by decide +kernel) rfl rfl (fs_lt g_Z_count) dX11_startAnew_30 (fun H locs hP hD hS => ?_)
  have hP : va_P D classes [(h0, .inr (11, F)), (pv, .inr (6, P)), (si, .inr (8, (Z.set 5 (.int 0)))), (ln, .inr (3, z_2)), (fo, .inl (k.2.1, 3, .inl z_3)), (ea, .inr (1, z_7)), (nw, .inl (k.2.1, 10, .inl z_8)), (kp, .inl (k.2.1, 410, .inl z_9))] H := hP
  have hD : va_D A [(h0, .inr (11, F)), (pv, .inr (6, P)), (si, .inr (8, (Z.set 5 (.int 0)))), (ln, .inr (3, z_2)), (fo, .inl (k.2.1, 3, .inl z_3)), (ea, .inr (1, z_7)), (nw, .inl (k.2.1, 10, .inl z_8)), (kp, .inl (k.2.1, 410, .inl z_9))] := hD
  refine lv_aload_n hx hb dX11_startAnew_33 rfl (lv_at hl 0 rfl) ?_
  refine lv_iconst (v := 0) hx hb dX11_startAnew_34 (by decide) ?_
  refine va_put (D := D) (ci := 11) (v := .int 0) (ty := .int) (C := RX11) (T := TX11) (N := 13) hx hb hg iX11 tyX11 tyX11_ok nmX11 hown hK hP hD hS 0 rfl rfl 12 (by decide) (hg (Cond.fieldLink RX11 150 "SlabWalk" "lie" "I") m582) (fun _ h9 => h9) rfl (by decide +kernel) rfl rfl (fs_lt g_F_lie) dX11_startAnew_35 (fun H locs hP hD hS => ?_)
  have hP : va_P D classes [(h0, .inr (11, (F.set 12 (.int 0)))), (pv, .inr (6, P)), (si, .inr (8, (Z.set 5 (.int 0)))), (ln, .inr (3, z_2)), (fo, .inl (k.2.1, 3, .inl z_3)), (ea, .inr (1, z_7)), (nw, .inl (k.2.1, 10, .inl z_8)), (kp, .inl (k.2.1, 410, .inl z_9))] H := hP
  have hD : va_D A [(h0, .inr (11, (F.set 12 (.int 0)))), (pv, .inr (6, P)), (si, .inr (8, (Z.set 5 (.int 0)))), (ln, .inr (3, z_2)), (fo, .inl (k.2.1, 3, .inl z_3)), (ea, .inr (1, z_7)), (nw, .inl (k.2.1, 10, .inl z_8)), (kp, .inl (k.2.1, 410, .inl z_9))] := hD
  have hP9 := hP.sub (ws' := [(h0, .inr (11, (F.set 12 (.int 0)))), (pv, .inr (6, P)), (ln, .inr (3, z_2)), (fo, .inl (k.2.1, 3, .inl z_3)), (ea, .inr (1, z_7)), (nw, .inl (k.2.1, 10, .inl z_8)), (kp, .inl (k.2.1, 410, .inl z_9)), (si, .inr (8, (Z.set 5 (.int 0))))]) [0, 1, 3, 4, 5, 6, 7, 2] rfl
  have hD9 := hD.sub (ws' := [(h0, .inr (11, (F.set 12 (.int 0)))), (pv, .inr (6, P)), (ln, .inr (3, z_2)), (fo, .inl (k.2.1, 3, .inl z_3)), (ea, .inr (1, z_7)), (nw, .inl (k.2.1, 10, .inl z_8)), (kp, .inl (k.2.1, 410, .inl z_9)), (si, .inr (8, (Z.set 5 (.int 0))))]) [0, 1, 3, 4, 5, 6, 7, 2] (by decide) rfl
  exact W.vret hx hb hr (fun t ht hW => ⟨⟨(), rfl, trivial, ⟨(F.set 12 (.int 0)), z_2, z_3, z_7, z_8, z_9, (Z.set 5 (.int 0)), (fs_ne g_F_paving (by decide)), (fs_ne g_F_spare (by decide)), (fs_ne g_F_taped (by decide)), (fs_eq g_F_lie), (fs_ne g_F_tape (by decide)), (fs_ne g_F_reader (by decide)), (fs_ne g_F_lines (by decide)), (fs_ne g_F_earnest (by decide)), (fs_ne g_F_sights (by decide)), g_4, g_5, g_10, g_11, g_12, g_13, g_14, g_15, g_16, g_17, g_18, g_19, g_20, g_21, g_22, (fs_eq g_Z_count), (fs_ne g_Z_time (by decide)), cB_of ht hP9 hD9⟩⟩, hS.F ht⟩) hS.2.2 dX11_startAnew_38
