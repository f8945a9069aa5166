set_option maxHeartbeats 4000000 in
set_option maxRecDepth 100000 in
theorem c_X6_allSlips (l : Launch) (D : va_G) (k : ClassId × ClassId × ClassId × ClassId) (sz : Nat) (h0 sl : Nat) (P : List Value) (g : Nat → Int32) (g_P_slip : P[6]? = some (.ref sl)) (g_g__0 : g 0 = 0) (g_g__1 : g 1 = 1) (g_g__2 : g 2 = 0) : Met l yX6_allSlips (WS yX6_allSlips cX6_allSlips 1 (some .int)) ({ frames := 0, cells := 0, slots := 0, locals := 0 }) (va_Pc [.ref h0] (cP D k [(h0, .inr (6, P)), (sl, .inl (k.2.1, 3, .inl g))] sz)) (va_Qi (fun (r : Int32) (_ : Unit) => r = 1) (fun (_ : Unit) t => cB D (va_A [(h0, .inr (6, P)), (sl, .inl (k.2.1, 3, .inl g))] sz) [] t) (va_A [(h0, .inr (6, P)), (sl, .inl (k.2.1, 3, .inl g))] sz)) 0 0 (va_A [(h0, .inr (6, P)), (sl, .inl (k.2.1, 3, .inl g))] sz) := by
  refine Met.ofW (cc := cX6_allSlips) (maxL := 1) (ret := (some .int)) (by decide) rfl ?_
  intro p e s m args below meth c s₁ B hml hv
  obtain ⟨rfl, hsz, hP, hKX, hD0⟩ := hv
  have hK := hKX.1
  have hx := B.exec
  have hb := B.bytes
  have hr := B.returns
  have hts := atoms_spec (ws := WS yX6_allSlips cX6_allSlips 1 (some .int)) B.pre
  have hgd : ∀ w ∈ gd, w ∈ WS yX6_allSlips cX6_allSlips 1 (some .int) := fun w h => List.mem_cons_of_mem _ h
  have hg : ∀ w ∈ gd, w.before _ s = true := fun w h => hts w (hgd w h)
  have hown : s.vm.findClass RX6 = some m.cls := findClass_of_methodNamed B.named
  have hlocks := B.notSynchronized
  subst hsz
  have hD := hD0.self (sz := s.heap.size)
  generalize hAe : va_A [(h0, .inr (6, P)), (sl, .inl (k.2.1, 3, .inl g))] s.heap.size = A at hD ⊢
  have hA : ∀ q : Nat, s.heap.size ≤ q → A q := fun q h => by rw [← hAe]; exact Or.inr h
  have hS : va_S A s.heap s.heap [] := va_S.rf
  have hP : va_P D classes [(h0, .inr (6, P)), (sl, .inl (k.2.1, 3, .inl g))] s.heap := hP
  have hl := lv_entry ([.ref h0]) (n := 1) (Nat.le_of_ble_eq_true rfl)
  rw [lg_entry_eq]
  generalize (lg_sl ([.ref h0]) ++ List.replicate (1 - (lg_sl ([.ref h0])).length) Slot.unset).toArray = ls at hl ⊢
  have hl : lv_has ls 1 [(0, .ref h0)] := hl
  refine lv_aload_n hx hb dX6_allSlips_0 rfl (lv_at hl 0 rfl) ?_
  refine va_get (D := D) (ci := 6) (v := .ref sl) (C := RX6) (T := TX6) (N := 17) hx hb hg iX6 hown hK hP 0 rfl rfl 6 (by decide) (hg (Cond.fieldLink RX6 30 "SlabWalk$Paving" "slip" "[I") m178) (fun _ h9 => h9) g_P_slip dX6_allSlips_1 ?_
  refine lv_iconst (v := 0) hx hb dX6_allSlips_4 (by decide) ?_
  refine va_iald hx hb hK hP 1 1 rfl rfl (show ¬ ((0 : Int32) < 0 ∨ 3 ≤ (0 : Int32).toNatClampNeg) from by decide +kernel) dX6_allSlips_5 ?_
  refine lv_topi (fun y_1 ey_1 => ?_)
  obtain rfl : y_1 = 0 := ey_1.trans (g_g__0)
  refine lv_aload_n hx hb dX6_allSlips_6 rfl (lv_at hl 0 rfl) ?_
  refine va_get (D := D) (ci := 6) (v := .ref sl) (C := RX6) (T := TX6) (N := 17) hx hb hg iX6 hown hK hP 0 rfl rfl 6 (by decide) (hg (Cond.fieldLink RX6 30 "SlabWalk$Paving" "slip" "[I") m178) (fun _ h9 => h9) g_P_slip dX6_allSlips_7 ?_
  refine lv_iconst (v := 1) hx hb dX6_allSlips_10 (by decide) ?_
  refine va_iald hx hb hK hP 1 1 rfl rfl (show ¬ ((1 : Int32) < 0 ∨ 3 ≤ (1 : Int32).toNatClampNeg) from by decide +kernel) dX6_allSlips_11 ?_
  refine lv_topi (fun y_2 ey_2 => ?_)
  obtain rfl : y_2 = 1 := ey_2.trans (g_g__1)
  refine lv_iadd hx hb dX6_allSlips_12 ?_
  refine lv_topi (fun y_3 ey_3 => ?_)
  obtain rfl : y_3 = 1 := ey_3.trans (by decide)
  refine lv_aload_n hx hb dX6_allSlips_13 rfl (lv_at hl 0 rfl) ?_
  refine va_get (D := D) (ci := 6) (v := .ref sl) (C := RX6) (T := TX6) (N := 17) hx hb hg iX6 hown hK hP 0 rfl rfl 6 (by decide) (hg (Cond.fieldLink RX6 30 "SlabWalk$Paving" "slip" "[I") m178) (fun _ h9 => h9) g_P_slip dX6_allSlips_14 ?_
  refine lv_iconst (v := 2) hx hb dX6_allSlips_17 (by decide) ?_
  refine va_iald hx hb hK hP 1 1 rfl rfl (show ¬ ((2 : Int32) < 0 ∨ 3 ≤ (2 : Int32).toNatClampNeg) from by decide +kernel) dX6_allSlips_18 ?_
  refine lv_topi (fun y_4 ey_4 => ?_)
  obtain rfl : y_4 = 0 := ey_4.trans (g_g__2)
  refine lv_iadd hx hb dX6_allSlips_19 ?_
  refine lv_topi (fun y_5 ey_5 => ?_)
  obtain rfl : y_5 = 1 := ey_5.trans (by decide)
  have hP9 := hP.sub (ws' := []) [] rfl
  have hD9 := hD.sub (ws' := []) [] (by decide) rfl
  exact W.iret (v := 1) hx hb hr (fun t ht hW => ⟨⟨1, (), rfl, rfl, cB_of ht hP9 hD9⟩, hS.F ht⟩) hS.2.2 dX6_allSlips_20

set_option maxHeartbeats 4000000 in
set_option maxRecDepth 100000 in
theorem c_X11_about (l : Launch) (D : va_G) (k : ClassId × ClassId × ClassId × ClassId) (sz : Nat) (h0 h1 ea si sl nw : Nat) (F P E Z : List Value) (g : Nat → Int32) (f1 : Nat → Int32) (p0 : Int32) (g_F_paving : F[0]? = some (.ref h1)) (g_F_taped : F[11]? = some (.int 0)) (g_F_lie : F[12]? = some (.int 0)) (g_F_earnest : F[8]? = some (.ref ea)) (g_F_sights : F[9]? = some (.ref si)) (g_P_walkers : P[10]? = some (.int 0)) (g_P_rules : P[11]? = some (.int 0)) (g_P_units : P[12]? = some (.int 0)) (g_P_slip : P[6]? = some (.ref sl)) (g_P_streets : P[9]? = some (.int 0)) (g_g__0 : g 0 = 0) (g_g__1 : g 1 = 1) (g_g__2 : g 2 = 0) (g_E_now : E[0]? = some (.ref nw)) (g_E_done : E[4]? = some (.int 0)) (g_E_undone : E[5]? = some (.int 0)) (g_f1__0 : f1 0 = (-1)) (g_f1__4 : f1 4 = 0) (g_f1__5 : f1 5 = 0) (g_f1__6 : f1 6 = 0) (g_f1__7 : f1 7 = 0) (g_f1__8 : f1 8 = 0) (g_f1__9 : f1 9 = 0) (g_Z_count : Z[5]? = some (.int 0)) (g_Z_time : Z[6]? = some (.int 0)) : Met l yX11_about (WS yX11_about cX11_about 2 (some .int)) ({ frames := 1, cells := 0, slots := 0, locals := 20 }) (va_Pc [.ref h0, .int p0] (cP D k [(h0, .inr (11, F)), (h1, .inr (6, P)), (sl, .inl (k.2.1, 3, .inl g)), (ea, .inr (1, E)), (nw, .inl (k.2.1, 10, .inl f1)), (si, .inr (8, Z))] sz)) (va_Qi (fun (r : Int32) (_ : Unit) => r = s_about p0) (fun (_ : Unit) t => cB D (va_A [(h0, .inr (11, F)), (h1, .inr (6, P)), (sl, .inl (k.2.1, 3, .inl g)), (ea, .inr (1, E)), (nw, .inl (k.2.1, 10, .inl f1)), (si, .inr (8, Z))] sz) [] t) (va_A [(h0, .inr (11, F)), (h1, .inr (6, P)), (sl, .inl (k.2.1, 3, .inl g)), (ea, .inr (1, E)), (nw, .inl (k.2.1, 10, .inl f1)), (si, .inr (8, Z))] sz)) 0 0 (va_A [(h0, .inr (11, F)), (h1, .inr (6, P)), (sl, .inl (k.2.1, 3, .inl g)), (ea, .inr (1, E)), (nw, .inl (k.2.1, 10, .inl f1)), (si, .inr (8, Z))] sz) := by
  refine Met.ofW (cc := cX11_about) (maxL := 2) (ret := (some .int)) (by decide) rfl ?_
  intro p e s m args below meth c s₁ B hml hv
  obtain ⟨rfl, hsz, hP, hKX, hD0⟩ := hv
  have hK := hKX.1
  have hx := B.exec
  have hb := B.bytes
  have hr := B.returns
  have hts := atoms_spec (ws := WS yX11_about cX11_about 2 (some .int)) B.pre
  have hgd : ∀ w ∈ gd, w ∈ WS yX11_about cX11_about 2 (some .int) := fun w h => List.mem_cons_of_mem _ h
  have hg : ∀ w ∈ gd, w.before _ s = true := fun w h => hts w (hgd w h)
  have hown : s.vm.findClass RX11 = some m.cls := findClass_of_methodNamed B.named
  have hlocks := B.notSynchronized
  subst hsz
  have hD := hD0.self (sz := s.heap.size)
  generalize hAe : va_A [(h0, .inr (11, F)), (h1, .inr (6, P)), (sl, .inl (k.2.1, 3, .inl g)), (ea, .inr (1, E)), (nw, .inl (k.2.1, 10, .inl f1)), (si, .inr (8, Z))] s.heap.size = A at hD ⊢
  have hA : ∀ q : Nat, s.heap.size ≤ q → A q := fun q h => by rw [← hAe]; exact Or.inr h
  have hS : va_S A s.heap s.heap [] := va_S.rf
  have hP : va_P D classes [(h0, .inr (11, F)), (h1, .inr (6, P)), (sl, .inl (k.2.1, 3, .inl g)), (ea, .inr (1, E)), (nw, .inl (k.2.1, 10, .inl f1)), (si, .inr (8, Z))] s.heap := hP
  have hl := lv_entry ([.ref h0, .int p0]) (n := 2) (Nat.le_of_ble_eq_true rfl)
  rw [lg_entry_eq]
  generalize (lg_sl ([.ref h0, .int p0]) ++ List.replicate (2 - (lg_sl ([.ref h0, .int p0])).length) Slot.unset).toArray = ls at hl ⊢
  have hl : lv_has ls 2 [(0, .ref h0), (1, .int p0)] := hl
  refine lv_iload_n hx hb dX11_about_0 rfl (lv_at hl 1 rfl) ?_
  by_cases c_1 : p0 = 0
  · refine lv_tableIn (tgt := 76) hx hb dX11_about_1 (by rw [c_1]; decide) (by rw [c_1]; decide) (off := 75) (by rw [c_1]; decide) (by decide) ?_
    refine lv_aload_n hx hb dX11_about_76 rfl (lv_at hl 0 rfl) ?_
    refine va_get (D := D) (ci := 11) (v := .ref h1) (C := RX11) (T := TX11) (N := 13) hx hb hg iX11 hown hK hP 0 rfl rfl 0 (by decide) (hg (Cond.fieldLink RX11 10 "SlabWalk" "paving" "LSlabWalk$Paving;") m570) (fun _ h9 => h9) g_F_paving dX11_about_77 ?_
    refine va_get (D := D) (ci := 6) (v := .int 0) (C := RX6) (T := TX6) (N := 17) hx hb hg iX6 hown hK hP 1 rfl rfl 9 (by decide) (hg (Cond.fieldLink RX11 95 "SlabWalk$Paving" "streets" "I") m187) (fun _ h9 => h9) g_P_streets dX11_about_80 ?_
    have hP9 := hP.sub (ws' := []) [] rfl
    have hD9 := hD.sub (ws' := []) [] (by decide) rfl
    exact W.iret (v := 0) hx hb hr (fun t ht hW => ⟨⟨0, (), rfl, by simp [s_about, c_1], cB_of ht hP9 hD9⟩, hS.F ht⟩) hS.2.2 dX11_about_83
  by_cases c_2 : p0 = 1
  · refine lv_tableIn (tgt := 84) hx hb dX11_about_1 (by rw [c_2]; decide) (by rw [c_2]; decide) (off := 83) (by rw [c_2]; decide) (by decide) ?_
    refine lv_aload_n hx hb dX11_about_84 rfl (lv_at hl 0 rfl) ?_
    refine va_get (D := D) (ci := 11) (v := .ref h1) (C := RX11) (T := TX11) (N := 13) hx hb hg iX11 hown hK hP 0 rfl rfl 0 (by decide) (hg (Cond.fieldLink RX11 10 "SlabWalk" "paving" "LSlabWalk$Paving;") m570) (fun _ h9 => h9) g_F_paving dX11_about_85 ?_
    refine va_get (D := D) (ci := 6) (v := .int 0) (C := RX6) (T := TX6) (N := 17) hx hb hg iX6 hown hK hP 1 rfl rfl 10 (by decide) (hg (Cond.fieldLink RX11 305 "SlabWalk$Paving" "walkers" "I") m191) (fun _ h9 => h9) g_P_walkers dX11_about_88 ?_
    have hP9 := hP.sub (ws' := []) [] rfl
    have hD9 := hD.sub (ws' := []) [] (by decide) rfl
    exact W.iret (v := 0) hx hb hr (fun t ht hW => ⟨⟨0, (), rfl, by simp [s_about, c_2], cB_of ht hP9 hD9⟩, hS.F ht⟩) hS.2.2 dX11_about_91
  by_cases c_3 : p0 = 2
  · refine lv_tableIn (tgt := 92) hx hb dX11_about_1 (by rw [c_3]; decide) (by rw [c_3]; decide) (off := 91) (by rw [c_3]; decide) (by decide) ?_
    refine lv_aload_n hx hb dX11_about_92 rfl (lv_at hl 0 rfl) ?_
    refine va_get (D := D) (ci := 11) (v := .ref h1) (C := RX11) (T := TX11) (N := 13) hx hb hg iX11 hown hK hP 0 rfl rfl 0 (by decide) (hg (Cond.fieldLink RX11 10 "SlabWalk" "paving" "LSlabWalk$Paving;") m570) (fun _ h9 => h9) g_F_paving dX11_about_93 ?_
    refine va_get (D := D) (ci := 6) (v := .int 0) (C := RX6) (T := TX6) (N := 17) hx hb hg iX6 hown hK hP 1 rfl rfl 11 (by decide) (hg (Cond.fieldLink RX11 228 "SlabWalk$Paving" "rules" "I") m195) (fun _ h9 => h9) g_P_rules dX11_about_96 ?_
    have hP9 := hP.sub (ws' := []) [] rfl
    have hD9 := hD.sub (ws' := []) [] (by decide) rfl
    exact W.iret (v := 0) hx hb hr (fun t ht hW => ⟨⟨0, (), rfl, by simp [s_about, c_3], cB_of ht hP9 hD9⟩, hS.F ht⟩) hS.2.2 dX11_about_99
  by_cases c_4 : p0 = 3
  · refine lv_tableIn (tgt := 100) hx hb dX11_about_1 (by rw [c_4]; decide) (by rw [c_4]; decide) (off := 99) (by rw [c_4]; decide) (by decide) ?_
    refine lv_aload_n hx hb dX11_about_100 rfl (lv_at hl 0 rfl) ?_
    have hPc := hP.sub (ws' := [(h0, .inr (11, F)), (ea, .inr (1, E)), (nw, .inl (k.2.1, 10, .inl f1))]) [0, 3, 4] rfl
    have hDc := hD.sub (ws' := [(h0, .inr (11, F)), (ea, .inr (1, E)), (nw, .inl (k.2.1, 10, .inl f1))]) [0, 3, 4] (by decide) rfl
    have hFc := va_free (wc := [(h0, .inr (11, F)), (ea, .inr (1, E)), (nw, .inl (k.2.1, 10, .inl f1))]) hD hS hA [0, 3, 4] rfl
    refine va_calli (va_runV (As := []) (rest := []) ⟨hx, hb, hml, hown, hts⟩ (c_X11_today l D k s.heap.size h0 ea nw F E f1 0 g_F_earnest g_E_now g_f1__6) (cwV 0 hts (gd_V hgd m911 m913 m27 m117 m914) rfl rfl rfl (by decide +kernel) ⟨Nat.le_of_ble_eq_true rfl, Nat.le_of_ble_eq_true rfl⟩) (cP_V hPc hKX hDc (ci := 11) (q0 := 0) rfl rfl) rfl rfl hl.1 rfl (lv_room (Nat.le_of_ble_eq_true rfl)) dX11_about_101 ⟨Nat.le_of_ble_eq_true rfl, Nat.le_of_ble_eq_true rfl⟩) hS (fun q _ h => hFc q h) hFc (fun r_5 u t H1 locs ht hvm hw hB hz1 hk1 hS => ?_)
    obtain ⟨hP1, hD1⟩ := hB
    rw [ht] at hP1
    obtain ⟨hP, hD⟩ := va_join (wr := [(h1, .inr (6, P)), (sl, .inl (k.2.1, 3, .inl g)), (si, .inr (8, Z))]) (w1 := [(h0, .inr (11, F)), (ea, .inr (1, E)), (nw, .inl (k.2.1, 10, .inl f1))]) hP hD [0, 3, 4] [1, 2, 5] rfl rfl (by decide) (by decide) hk1 hFc hP1 hD1
    generalize H1 = H at hP hS ⊢
    have hP : va_P D classes [(h1, .inr (6, P)), (sl, .inl (k.2.1, 3, .inl g)), (si, .inr (8, Z)), (h0, .inr (11, F)), (ea, .inr (1, E)), (nw, .inl (k.2.1, 10, .inl f1))] H := hP
    have hD : va_D A [(h1, .inr (6, P)), (sl, .inl (k.2.1, 3, .inl g)), (si, .inr (8, Z)), (h0, .inr (11, F)), (ea, .inr (1, E)), (nw, .inl (k.2.1, 10, .inl f1))] := hD
    refine W.widen (k := 0) (n := 0) (Nat.le_of_ble_eq_true rfl) (Nat.le_of_ble_eq_true rfl) ?_
    subst hw
    have hP9 := hP.sub (ws' := []) [] rfl
    have hD9 := hD.sub (ws' := []) [] (by decide) rfl
    exact W.iret (v := 0) hx hb hr (fun t ht hW => ⟨⟨0, (), rfl, by simp [s_about, c_4], cB_of ht hP9 hD9⟩, hS.F ht⟩) hS.2.2 dX11_about_104
  by_cases c_6 : p0 = 4
  · refine lv_tableIn (tgt := 105) hx hb dX11_about_1 (by rw [c_6]; decide) (by rw [c_6]; decide) (off := 104) (by rw [c_6]; decide) (by decide) ?_
    refine lv_aload_n hx hb dX11_about_105 rfl (lv_at hl 0 rfl) ?_
    refine va_get (D := D) (ci := 11) (v := .ref ea) (C := RX11) (T := TX11) (N := 13) hx hb hg iX11 hown hK hP 0 rfl rfl 8 (by decide) (hg (Cond.fieldLink RX11 65 "SlabWalk" "earnest" "LSlabWalk$Earnest;") m578) (fun _ h9 => h9) g_F_earnest dX11_about_106 ?_
    refine va_get (D := D) (ci := 1) (v := .ref nw) (C := RX1) (T := TX1) (N := 6) hx hb hg iX1 hown hK hP 3 rfl rfl 0 (by decide) (hg (Cond.fieldLink RX11 246 "SlabWalk$Earnest" "now" "[I") m493) (fun _ h9 => h9) g_E_now dX11_about_109 ?_
    refine lv_bipush (v := 7) hx hb dX11_about_112 (by decide) ?_
    refine va_iald hx hb hK hP 4 1 rfl rfl (show ¬ ((7 : Int32) < 0 ∨ 10 ≤ (7 : Int32).toNatClampNeg) from by decide +kernel) dX11_about_114 ?_
    refine lv_topi (fun y_7 ey_7 => ?_)
    obtain rfl : y_7 = 0 := ey_7.trans (g_f1__7)
    have hP9 := hP.sub (ws' := []) [] rfl
    have hD9 := hD.sub (ws' := []) [] (by decide) rfl
    exact W.iret (v := 0) hx hb hr (fun t ht hW => ⟨⟨0, (), rfl, by simp [s_about, c_6], cB_of ht hP9 hD9⟩, hS.F ht⟩) hS.2.2 dX11_about_115
  by_cases c_8 : p0 = 5
  · refine lv_tableIn (tgt := 116) hx hb dX11_about_1 (by rw [c_8]; decide) (by rw [c_8]; decide) (off := 115) (by rw [c_8]; decide) (by decide) ?_
    refine lv_aload_n hx hb dX11_about_116 rfl (lv_at hl 0 rfl) ?_
    refine va_get (D := D) (ci := 11) (v := .ref ea) (C := RX11) (T := TX11) (N := 13) hx hb hg iX11 hown hK hP 0 rfl rfl 8 (by decide) (hg (Cond.fieldLink RX11 65 "SlabWalk" "earnest" "LSlabWalk$Earnest;") m578) (fun _ h9 => h9) g_F_earnest dX11_about_117 ?_
    refine va_get (D := D) (ci := 1) (v := .ref nw) (C := RX1) (T := TX1) (N := 6) hx hb hg iX1 hown hK hP 3 rfl rfl 0 (by decide) (hg (Cond.fieldLink RX11 246 "SlabWalk$Earnest" "now" "[I") m493) (fun _ h9 => h9) g_E_now dX11_about_120 ?_
    refine lv_bipush (v := 8) hx hb dX11_about_123 (by decide) ?_
    refine va_iald hx hb hK hP 4 1 rfl rfl (show ¬ ((8 : Int32) < 0 ∨ 10 ≤ (8 : Int32).toNatClampNeg) from by decide +kernel) dX11_about_125 ?_
    refine lv_topi (fun y_9 ey_9 => ?_)
    obtain rfl : y_9 = 0 := ey_9.trans (g_f1__8)
    have hP9 := hP.sub (ws' := []) [] rfl
    have hD9 := hD.sub (ws' := []) [] (by decide) rfl
    exact W.iret (v := 0) hx hb hr (fun t ht hW => ⟨⟨0, (), rfl, by simp [s_about, c_8], cB_of ht hP9 hD9⟩, hS.F ht⟩) hS.2.2 dX11_about_126
  by_cases c_10 : p0 = 6
  · refine lv_tableIn (tgt := 127) hx hb dX11_about_1 (by rw [c_10]; decide) (by rw [c_10]; decide) (off := 126) (by rw [c_10]; decide) (by decide) ?_
    refine lv_aload_n hx hb dX11_about_127 rfl (lv_at hl 0 rfl) ?_
    refine va_get (D := D) (ci := 11) (v := .ref ea) (C := RX11) (T := TX11) (N := 13) hx hb hg iX11 hown hK hP 0 rfl rfl 8 (by decide) (hg (Cond.fieldLink RX11 65 "SlabWalk" "earnest" "LSlabWalk$Earnest;") m578) (fun _ h9 => h9) g_F_earnest dX11_about_128 ?_
    refine va_get (D := D) (ci := 1) (v := .ref nw) (C := RX1) (T := TX1) (N := 6) hx hb hg iX1 hown hK hP 3 rfl rfl 0 (by decide) (hg (Cond.fieldLink RX11 246 "SlabWalk$Earnest" "now" "[I") m493) (fun _ h9 => h9) g_E_now dX11_about_131 ?_
    refine lv_bipush (v := 9) hx hb dX11_about_134 (by decide) ?_
    refine va_iald hx hb hK hP 4 1 rfl rfl (show ¬ ((9 : Int32) < 0 ∨ 10 ≤ (9 : Int32).toNatClampNeg) from by decide +kernel) dX11_about_136 ?_
    refine lv_topi (fun y_11 ey_11 => ?_)
    obtain rfl : y_11 = 0 := ey_11.trans (g_f1__9)
    have hP9 := hP.sub (ws' := []) [] rfl
    have hD9 := hD.sub (ws' := []) [] (by decide) rfl
    exact W.iret (v := 0) hx hb hr (fun t ht hW => ⟨⟨0, (), rfl, by simp [s_about, c_10], cB_of ht hP9 hD9⟩, hS.F ht⟩) hS.2.2 dX11_about_137
  by_cases c_12 : p0 = 7
  · refine lv_tableIn (tgt := 138) hx hb dX11_about_1 (by rw [c_12]; decide) (by rw [c_12]; decide) (off := 137) (by rw [c_12]; decide) (by decide) ?_
    refine lv_aload_n hx hb dX11_about_138 rfl (lv_at hl 0 rfl) ?_
    refine va_get (D := D) (ci := 11) (v := .ref ea) (C := RX11) (T := TX11) (N := 13) hx hb hg iX11 hown hK hP 0 rfl rfl 8 (by decide) (hg (Cond.fieldLink RX11 65 "SlabWalk" "earnest" "LSlabWalk$Earnest;") m578) (fun _ h9 => h9) g_F_earnest dX11_about_139 ?_
    refine va_get (D := D) (ci := 1) (v := .int 0) (C := RX1) (T := TX1) (N := 6) hx hb hg iX1 hown hK hP 3 rfl rfl 4 (by decide) (hg (Cond.fieldLink RX11 308 "SlabWalk$Earnest" "done" "I") m498) (fun _ h9 => h9) g_E_done dX11_about_142 ?_
    have hP9 := hP.sub (ws' := []) [] rfl
    have hD9 := hD.sub (ws' := []) [] (by decide) rfl
    exact W.iret (v := 0) hx hb hr (fun t ht hW => ⟨⟨0, (), rfl, by simp [s_about, c_12], cB_of ht hP9 hD9⟩, hS.F ht⟩) hS.2.2 dX11_about_145
  by_cases c_13 : p0 = 8
  · refine lv_tableIn (tgt := 146) hx hb dX11_about_1 (by rw [c_13]; decide) (by rw [c_13]; decide) (off := 145) (by rw [c_13]; decide) (by decide) ?_
    refine lv_aload_n hx hb dX11_about_146 rfl (lv_at hl 0 rfl) ?_
    refine va_get (D := D) (ci := 11) (v := .ref ea) (C := RX11) (T := TX11) (N := 13) hx hb hg iX11 hown hK hP 0 rfl rfl 8 (by decide) (hg (Cond.fieldLink RX11 65 "SlabWalk" "earnest" "LSlabWalk$Earnest;") m578) (fun _ h9 => h9) g_F_earnest dX11_about_147 ?_
    refine va_get (D := D) (ci := 1) (v := .int 0) (C := RX1) (T := TX1) (N := 6) hx hb hg iX1 hown hK hP 3 rfl rfl 5 (by decide) (hg (Cond.fieldLink RX11 311 "SlabWalk$Earnest" "undone" "I") m500) (fun _ h9 => h9) g_E_undone dX11_about_150 ?_
    have hP9 := hP.sub (ws' := []) [] rfl
    have hD9 := hD.sub (ws' := []) [] (by decide) rfl
    exact W.iret (v := 0) hx hb hr (fun t ht hW => ⟨⟨0, (), rfl, by simp [s_about, c_13], cB_of ht hP9 hD9⟩, hS.F ht⟩) hS.2.2 dX11_about_153
  by_cases c_14 : p0 = 9
  · refine lv_tableIn (tgt := 154) hx hb dX11_about_1 (by rw [c_14]; decide) (by rw [c_14]; decide) (off := 153) (by rw [c_14]; decide) (by decide) ?_
    refine lv_aload_n hx hb dX11_about_154 rfl (lv_at hl 0 rfl) ?_
    refine va_get (D := D) (ci := 11) (v := .ref si) (C := RX11) (T := TX11) (N := 13) hx hb hg iX11 hown hK hP 0 rfl rfl 9 (by decide) (hg (Cond.fieldLink RX11 72 "SlabWalk" "sights" "LSlabWalk$Sights;") m579) (fun _ h9 => h9) g_F_sights dX11_about_155 ?_
    refine va_get (D := D) (ci := 8) (v := .int 0) (C := RX8) (T := TX8) (N := 7) hx hb hg iX8 hown hK hP 5 rfl rfl 5 (by decide) (hg (Cond.fieldLink RX11 285 "SlabWalk$Sights" "count" "I") m529) (fun _ h9 => h9) g_Z_count dX11_about_158 ?_
    have hP9 := hP.sub (ws' := []) [] rfl
    have hD9 := hD.sub (ws' := []) [] (by decide) rfl
    exact W.iret (v := 0) hx hb hr (fun t ht hW => ⟨⟨0, (), rfl, by simp [s_about, c_14], cB_of ht hP9 hD9⟩, hS.F ht⟩) hS.2.2 dX11_about_161
  by_cases c_15 : p0 = 10
  · refine lv_tableIn (tgt := 162) hx hb dX11_about_1 (by rw [c_15]; decide) (by rw [c_15]; decide) (off := 161) (by rw [c_15]; decide) (by decide) ?_
    refine lv_aload_n hx hb dX11_about_162 rfl (lv_at hl 0 rfl) ?_
    refine va_get (D := D) (ci := 11) (v := .ref si) (C := RX11) (T := TX11) (N := 13) hx hb hg iX11 hown hK hP 0 rfl rfl 9 (by decide) (hg (Cond.fieldLink RX11 72 "SlabWalk" "sights" "LSlabWalk$Sights;") m579) (fun _ h9 => h9) g_F_sights dX11_about_163 ?_
    refine va_get (D := D) (ci := 8) (v := .int 0) (C := RX8) (T := TX8) (N := 7) hx hb hg iX8 hown hK hP 5 rfl rfl 6 (by decide) (hg (Cond.fieldLink RX11 278 "SlabWalk$Sights" "time" "I") m531) (fun _ h9 => h9) g_Z_time dX11_about_166 ?_
    have hP9 := hP.sub (ws' := []) [] rfl
    have hD9 := hD.sub (ws' := []) [] (by decide) rfl
    exact W.iret (v := 0) hx hb hr (fun t ht hW => ⟨⟨0, (), rfl, by simp [s_about, c_15], cB_of ht hP9 hD9⟩, hS.F ht⟩) hS.2.2 dX11_about_169
  by_cases c_16 : p0 = 11
  · refine lv_tableIn (tgt := 170) hx hb dX11_about_1 (by rw [c_16]; decide) (by rw [c_16]; decide) (off := 169) (by rw [c_16]; decide) (by decide) ?_
    refine lv_aload_n hx hb dX11_about_170 rfl (lv_at hl 0 rfl) ?_
    refine va_get (D := D) (ci := 11) (v := .int 0) (C := RX11) (T := TX11) (N := 13) hx hb hg iX11 hown hK hP 0 rfl rfl 11 (by decide) (hg (Cond.fieldLink RX11 83 "SlabWalk" "taped" "I") m581) (fun _ h9 => h9) g_F_taped dX11_about_171 ?_
    have hP9 := hP.sub (ws' := []) [] rfl
    have hD9 := hD.sub (ws' := []) [] (by decide) rfl
    exact W.iret (v := 0) hx hb hr (fun t ht hW => ⟨⟨0, (), rfl, by simp [s_about, c_16], cB_of ht hP9 hD9⟩, hS.F ht⟩) hS.2.2 dX11_about_174
  by_cases c_17 : p0 = 12
  · refine lv_tableIn (tgt := 175) hx hb dX11_about_1 (by rw [c_17]; decide) (by rw [c_17]; decide) (off := 174) (by rw [c_17]; decide) (by decide) ?_
    refine lv_aload_n hx hb dX11_about_175 rfl (lv_at hl 0 rfl) ?_
    refine va_get (D := D) (ci := 11) (v := .ref h1) (C := RX11) (T := TX11) (N := 13) hx hb hg iX11 hown hK hP 0 rfl rfl 0 (by decide) (hg (Cond.fieldLink RX11 10 "SlabWalk" "paving" "LSlabWalk$Paving;") m570) (fun _ h9 => h9) g_F_paving dX11_about_176 ?_
    refine va_get (D := D) (ci := 6) (v := .int 0) (C := RX6) (T := TX6) (N := 17) hx hb hg iX6 hown hK hP 1 rfl rfl 12 (by decide) (hg (Cond.fieldLink RX11 314 "SlabWalk$Paving" "units" "I") m198) (fun _ h9 => h9) g_P_units dX11_about_179 ?_
    have hP9 := hP.sub (ws' := []) [] rfl
    have hD9 := hD.sub (ws' := []) [] (by decide) rfl
    exact W.iret (v := 0) hx hb hr (fun t ht hW => ⟨⟨0, (), rfl, by simp [s_about, c_17], cB_of ht hP9 hD9⟩, hS.F ht⟩) hS.2.2 dX11_about_182
  by_cases c_18 : p0 = 13
  · refine lv_tableIn (tgt := 183) hx hb dX11_about_1 (by rw [c_18]; decide) (by rw [c_18]; decide) (off := 182) (by rw [c_18]; decide) (by decide) ?_
    refine lv_aload_n hx hb dX11_about_183 rfl (lv_at hl 0 rfl) ?_
    refine va_get (D := D) (ci := 11) (v := .int 0) (C := RX11) (T := TX11) (N := 13) hx hb hg iX11 hown hK hP 0 rfl rfl 12 (by decide) (hg (Cond.fieldLink RX11 150 "SlabWalk" "lie" "I") m582) (fun _ h9 => h9) g_F_lie dX11_about_184 ?_
    have hP9 := hP.sub (ws' := []) [] rfl
    have hD9 := hD.sub (ws' := []) [] (by decide) rfl
    exact W.iret (v := 0) hx hb hr (fun t ht hW => ⟨⟨0, (), rfl, by simp [s_about, c_18], cB_of ht hP9 hD9⟩, hS.F ht⟩) hS.2.2 dX11_about_187
  by_cases c_19 : p0 = 14
  · refine lv_tableIn (tgt := 188) hx hb dX11_about_1 (by rw [c_19]; decide) (by rw [c_19]; decide) (off := 187) (by rw [c_19]; decide) (by decide) ?_
    refine lv_aload_n hx hb dX11_about_188 rfl (lv_at hl 0 rfl) ?_
    refine va_get (D := D) (ci := 11) (v := .ref h1) (C := RX11) (T := TX11) (N := 13) hx hb hg iX11 hown hK hP 0 rfl rfl 0 (by decide) (hg (Cond.fieldLink RX11 10 "SlabWalk" "paving" "LSlabWalk$Paving;") m570) (fun _ h9 => h9) g_F_paving dX11_about_189 ?_
    have hPc := hP.sub (ws' := [(h1, .inr (6, P)), (sl, .inl (k.2.1, 3, .inl g))]) [1, 2] rfl
    have hDc := hD.sub (ws' := [(h1, .inr (6, P)), (sl, .inl (k.2.1, 3, .inl g))]) [1, 2] (by decide) rfl
    have hFc := va_free (wc := [(h1, .inr (6, P)), (sl, .inl (k.2.1, 3, .inl g))]) hD hS hA [1, 2] rfl
    refine va_calli (va_runV (As := []) (rest := []) ⟨hx, hb, hml, hown, hts⟩ (c_X6_allSlips l D k s.heap.size h1 sl P g g_P_slip g_g__0 g_g__1 g_g__2) (cwV 0 hts (gd_V hgd m1307 m1199 m1200 m118 m1201) rfl rfl rfl (by decide +kernel) ⟨Nat.le_of_ble_eq_true rfl, Nat.le_of_ble_eq_true rfl⟩) (cP_V hPc hKX hDc (ci := 6) (q0 := 0) rfl rfl) rfl rfl hl.1 rfl (lv_room (Nat.le_of_ble_eq_true rfl)) dX11_about_192 ⟨Nat.le_of_ble_eq_true rfl, Nat.le_of_ble_eq_true rfl⟩) hS (fun q _ h => hFc q h) hFc (fun r_20 u t H1 locs ht hvm hw hB hz1 hk1 hS => ?_)
    obtain ⟨hP1, hD1⟩ := hB
    rw [ht] at hP1
    obtain ⟨hP, hD⟩ := va_join (wr := [(h0, .inr (11, F)), (ea, .inr (1, E)), (nw, .inl (k.2.1, 10, .inl f1)), (si, .inr (8, Z))]) (w1 := []) hP hD [1, 2] [0, 3, 4, 5] rfl rfl (by decide) (by decide) hk1 hFc hP1 hD1
    generalize H1 = H at hP hS ⊢
    have hP : va_P D classes [(h0, .inr (11, F)), (ea, .inr (1, E)), (nw, .inl (k.2.1, 10, .inl f1)), (si, .inr (8, Z))] H := hP
    have hD : va_D A [(h0, .inr (11, F)), (ea, .inr (1, E)), (nw, .inl (k.2.1, 10, .inl f1)), (si, .inr (8, Z))] := hD
    refine W.widen (k := 0) (n := 0) (Nat.le_of_ble_eq_true rfl) (Nat.le_of_ble_eq_true rfl) ?_
    subst hw
    have hP9 := hP.sub (ws' := []) [] rfl
    have hD9 := hD.sub (ws' := []) [] (by decide) rfl
    exact W.iret (v := 1) hx hb hr (fun t ht hW => ⟨⟨1, (), rfl, by simp [s_about, c_19], cB_of ht hP9 hD9⟩, hS.F ht⟩) hS.2.2 dX11_about_195
  refine lv_tableOut (tgt := 196) hx hb dX11_about_1 (tb_out14 p0 c_1 c_2 c_3 c_4 c_6 c_8 c_10 c_12 c_13 c_14 c_15 c_16 c_17 c_18 c_19) (by decide) ?_
  refine lv_iconst (v := (-1)) hx hb dX11_about_196 (by decide) ?_
  have hP9 := hP.sub (ws' := []) [] rfl
  have hD9 := hD.sub (ws' := []) [] (by decide) rfl
  exact W.iret (v := (-1)) hx hb hr (fun t ht hW => ⟨⟨(-1), (), rfl, by simp [s_about, c_1, c_2, c_3, c_4, c_6, c_8, c_10, c_12, c_13, c_14, c_15, c_16, c_17, c_18, c_19], cB_of ht hP9 hD9⟩, hS.F ht⟩) hS.2.2 dX11_about_197
