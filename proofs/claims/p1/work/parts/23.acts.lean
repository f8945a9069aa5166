set_option maxHeartbeats 4000000 in
set_option maxRecDepth 100000 in
theorem c_X11_fits (l : Launch) (D : va_G) (k : ClassId × ClassId × ClassId × ClassId) (sz : Nat) (h0 h1 : Nat) (F P : List Value) (p0 : Int32) (g_F_paving : F[0]? = some (.ref h1)) (g_P_rules : P[11]? = some (.int 0)) : Met l yX11_fits (WS yX11_fits cX11_fits 4 (some .int)) ({ frames := 0, cells := 0, slots := 0, locals := 0 }) (va_Pc [.ref h0, .int p0] (cP D k [(h0, .inr (11, F)), (h1, .inr (6, P))] sz)) (va_Qi (fun (r : Int32) (_ : Unit) => r = 0) (fun (_ : Unit) t => cB D (va_A [(h0, .inr (11, F)), (h1, .inr (6, P))] sz) [] t) (va_A [(h0, .inr (11, F)), (h1, .inr (6, P))] sz)) 0 0 (va_A [(h0, .inr (11, F)), (h1, .inr (6, P))] sz) := by
  refine Met.ofW (cc := cX11_fits) (maxL := 4) (ret := (some .int)) (by decide) rfl ?_
  intro p e s m args below meth c s₁ B hml hv
  obtain ⟨rfl, hsz, hP, hKX, hD0⟩ := hv
  have hK := hKX.1
  have hx := B.exec
  have hb := B.bytes
  have hr := B.returns
  have hts := atoms_spec (ws := WS yX11_fits cX11_fits 4 (some .int)) B.pre
  have hgd : ∀ w ∈ gd, w ∈ WS yX11_fits cX11_fits 4 (some .int) := fun w h => List.mem_cons_of_mem _ h
  have hg : ∀ w ∈ gd, w.before _ s = true := fun w h => hts w (hgd w h)
  have hown : s.vm.findClass RX11 = some m.cls := findClass_of_methodNamed B.named
  have hlocks := B.notSynchronized
  subst hsz
  have hD := hD0.self (sz := s.heap.size)
  generalize hAe : va_A [(h0, .inr (11, F)), (h1, .inr (6, P))] s.heap.size = A at hD ⊢
  have hA : ∀ q : Nat, s.heap.size ≤ q → A q := fun q h => by rw [← hAe]; exact Or.inr h
  have hS : va_S A s.heap s.heap [] := va_S.rf
  have hP : va_P D classes [(h0, .inr (11, F)), (h1, .inr (6, P))] s.heap := hP
  have hl := lv_entry ([.ref h0, .int p0]) (n := 4) (Nat.le_of_ble_eq_true rfl)
  rw [lg_entry_eq]
  generalize (lg_sl ([.ref h0, .int p0]) ++ List.replicate (4 - (lg_sl ([.ref h0, .int p0])).length) Slot.unset).toArray = ls at hl ⊢
  have hl : lv_has ls 4 [(0, .ref h0), (1, .int p0)] := hl
  refine lv_iconst (v := 0) hx hb dX11_fits_0 (by decide) ?_
  refine lv_istore_n (lv' := [(2, .int 0), (0, .ref h0), (1, .int p0)]) hx hb dX11_fits_1 rfl hl (by decide) rfl (fun ls hl => ?_)
  refine lv_iconst (v := 0) hx hb dX11_fits_2 (by decide) ?_
  refine lv_istore_n (lv' := [(3, .int 0), (2, .int 0), (0, .ref h0), (1, .int p0)]) hx hb dX11_fits_3 rfl hl (by decide) rfl (fun ls hl => ?_)
  refine lv_iload_n hx hb dX11_fits_4 rfl (lv_at hl 0 rfl) ?_
  refine lv_aload_n hx hb dX11_fits_5 rfl (lv_at hl 2 rfl) ?_
  refine va_get (D := D) (ci := 11) (v := .ref h1) (C := RX11) (T := TX11) (N := 13) hx hb hg iX11 hown hK hP 0 rfl rfl 0 (by decide) (hg (Cond.fieldLink RX11 10 "SlabWalk" "paving" "LSlabWalk$Paving;") m570) (fun _ h9 => h9) g_F_paving dX11_fits_6 ?_
  refine va_get (D := D) (ci := 6) (v := .int 0) (C := RX6) (T := TX6) (N := 17) hx hb hg iX6 hown hK hP 1 rfl rfl 11 (by decide) (hg (Cond.fieldLink RX11 228 "SlabWalk$Paving" "rules" "I") m195) (fun _ h9 => h9) g_P_rules dX11_fits_9 ?_
  refine lv_icmp_ge (tgt := 40) hx hb dX11_fits_12 (by decide) (fun c_1 => ?_) (fun c_1 => ?_)
  · have c_1 : (0 : Int32) ≤ 0 := c_1
    refine lv_iload_n hx hb dX11_fits_40 rfl (lv_at hl 1 rfl) ?_
    have hP9 := hP.sub (ws' := []) [] rfl
    have hD9 := hD.sub (ws' := []) [] (by decide) rfl
    exact W.iret (v := 0) hx hb hr (fun t ht hW => ⟨⟨0, (), rfl, rfl, cB_of ht hP9 hD9⟩, hS.F ht⟩) hS.2.2 dX11_fits_41
  · exact absurd (by decide) c_1

set_option maxHeartbeats 4000000 in
set_option maxRecDepth 100000 in
theorem c_X11_canGo (l : Launch) (D : va_G) (k : ClassId × ClassId × ClassId × ClassId) (sz : Nat) (h0 h1 ea nw : Nat) (F P E : List Value) (f1 : Nat → Int32) (p0 : Int32) (g_F_paving : F[0]? = some (.ref h1)) (g_F_earnest : F[8]? = some (.ref ea)) (g_P_walkers : P[10]? = some (.int 0)) (g_E_now : E[0]? = some (.ref nw)) (g_f1__0 : f1 0 = (-1)) : Met l yX11_canGo (WS yX11_canGo cX11_canGo 4 (some .boolean)) ({ frames := 1, cells := 0, slots := 0, locals := 21 }) (va_Pc [.ref h0, .int p0] (cP D k [(h0, .inr (11, F)), (h1, .inr (6, P)), (ea, .inr (1, E)), (nw, .inl (k.2.1, 10, .inl f1))] sz)) (va_Qi (fun (r : Int32) (_ : Unit) => r = 0) (fun (_ : Unit) t => cB D (va_A [(h0, .inr (11, F)), (h1, .inr (6, P)), (ea, .inr (1, E)), (nw, .inl (k.2.1, 10, .inl f1))] sz) [(h0, .inr (11, F)), (h1, .inr (6, P)), (ea, .inr (1, E)), (nw, .inl (k.2.1, 10, .inl f1))] t) (va_A [(h0, .inr (11, F)), (h1, .inr (6, P)), (ea, .inr (1, E)), (nw, .inl (k.2.1, 10, .inl f1))] sz)) 0 0 (va_A [(h0, .inr (11, F)), (h1, .inr (6, P)), (ea, .inr (1, E)), (nw, .inl (k.2.1, 10, .inl f1))] sz) := by
  refine Met.ofW (cc := cX11_canGo) (maxL := 4) (ret := (some .boolean)) (by decide) rfl ?_
  intro p e s m args below meth c s₁ B hml hv
  obtain ⟨rfl, hsz, hP, hKX, hD0⟩ := hv
  have hK := hKX.1
  have hx := B.exec
  have hb := B.bytes
  have hr := B.returns
  have hts := atoms_spec (ws := WS yX11_canGo cX11_canGo 4 (some .boolean)) B.pre
  have hgd : ∀ w ∈ gd, w ∈ WS yX11_canGo cX11_canGo 4 (some .boolean) := fun w h => List.mem_cons_of_mem _ h
  have hg : ∀ w ∈ gd, w.before _ s = true := fun w h => hts w (hgd w h)
  have hown : s.vm.findClass RX11 = some m.cls := findClass_of_methodNamed B.named
  have hlocks := B.notSynchronized
  subst hsz
  have hD := hD0.self (sz := s.heap.size)
  generalize hAe : va_A [(h0, .inr (11, F)), (h1, .inr (6, P)), (ea, .inr (1, E)), (nw, .inl (k.2.1, 10, .inl f1))] s.heap.size = A at hD ⊢
  have hA : ∀ q : Nat, s.heap.size ≤ q → A q := fun q h => by rw [← hAe]; exact Or.inr h
  have hS : va_S A s.heap s.heap [] := va_S.rf
  have hP : va_P D classes [(h0, .inr (11, F)), (h1, .inr (6, P)), (ea, .inr (1, E)), (nw, .inl (k.2.1, 10, .inl f1))] s.heap := hP
  have hl := lv_entry ([.ref h0, .int p0]) (n := 4) (Nat.le_of_ble_eq_true rfl)
  rw [lg_entry_eq]
  generalize (lg_sl ([.ref h0, .int p0]) ++ List.replicate (4 - (lg_sl ([.ref h0, .int p0])).length) Slot.unset).toArray = ls at hl ⊢
  have hl : lv_has ls 4 [(0, .ref h0), (1, .int p0)] := hl
  refine lv_aload_n hx hb dX11_canGo_0 rfl (lv_at hl 0 rfl) ?_
  refine va_get (D := D) (ci := 11) (v := .ref ea) (C := RX11) (T := TX11) (N := 13) hx hb hg iX11 hown hK hP 0 rfl rfl 8 (by decide) (hg (Cond.fieldLink RX11 65 "SlabWalk" "earnest" "LSlabWalk$Earnest;") m578) (fun _ h9 => h9) g_F_earnest dX11_canGo_1 ?_
  refine va_get (D := D) (ci := 1) (v := .ref nw) (C := RX1) (T := TX1) (N := 6) hx hb hg iX1 hown hK hP 2 rfl rfl 0 (by decide) (hg (Cond.fieldLink RX11 246 "SlabWalk$Earnest" "now" "[I") m493) (fun _ h9 => h9) g_E_now dX11_canGo_4 ?_
  refine lv_iconst (v := 0) hx hb dX11_canGo_7 (by decide) ?_
  refine va_iald hx hb hK hP 3 1 rfl rfl (show ¬ ((0 : Int32) < 0 ∨ 10 ≤ (0 : Int32).toNatClampNeg) from by decide +kernel) dX11_canGo_8 ?_
  refine lv_topi (fun y_1 ey_1 => ?_)
  obtain rfl : y_1 = (-1) := ey_1.trans (g_f1__0)
  refine lv_istore_n (lv' := [(2, .int (-1)), (0, .ref h0), (1, .int p0)]) hx hb dX11_canGo_9 rfl hl (by decide) rfl (fun ls hl => ?_)
  refine lv_aload_n hx hb dX11_canGo_10 rfl (lv_at hl 1 rfl) ?_
  refine va_get (D := D) (ci := 11) (v := .ref h1) (C := RX11) (T := TX11) (N := 13) hx hb hg iX11 hown hK hP 0 rfl rfl 0 (by decide) (hg (Cond.fieldLink RX11 10 "SlabWalk" "paving" "LSlabWalk$Paving;") m570) (fun _ h9 => h9) g_F_paving dX11_canGo_11 ?_
  refine lv_iload_n hx hb dX11_canGo_14 rfl (lv_at hl 0 rfl) ?_
  have hPc := hP.sub (ws' := [(h1, .inr (6, P))]) [1] rfl
  have hDc := hD.sub (ws' := [(h1, .inr (6, P))]) [1] (by decide) rfl
  have hFc := va_free (wc := [(h1, .inr (6, P))]) hD hS hA [1] rfl
  refine va_calli (va_runV (As := [.int (-1)]) (rest := []) ⟨hx, hb, hml, hown, hts⟩ (c_hasWalker l D k s.heap.size h1 P (-1) g_P_walkers) (cwV 1 hts (gd_V hgd m957 m958 m959 m118 m960) rfl rfl rfl (by decide +kernel) ⟨Nat.le_of_ble_eq_true rfl, Nat.le_of_ble_eq_true rfl⟩) (cP_V hPc hKX hDc (ci := 6) (q0 := 0) rfl rfl) rfl rfl hl.1 rfl (lv_room (Nat.le_of_ble_eq_true rfl)) dX11_canGo_15 ⟨Nat.le_of_ble_eq_true rfl, Nat.le_of_ble_eq_true rfl⟩) hS (fun q _ h => hFc q h) hFc (fun r_2 u t H1 locs ht hvm hw hB hz1 hk1 hS => ?_)
  obtain ⟨hP1, hD1⟩ := hB
  rw [ht] at hP1
  obtain ⟨hP, hD⟩ := va_join (wr := [(h0, .inr (11, F)), (ea, .inr (1, E)), (nw, .inl (k.2.1, 10, .inl f1))]) (w1 := [(h1, .inr (6, P))]) hP hD [1] [0, 2, 3] rfl rfl (by decide) (by decide) hk1 hFc hP1 hD1
  generalize H1 = H at hP hS ⊢
  have hP : va_P D classes [(h0, .inr (11, F)), (ea, .inr (1, E)), (nw, .inl (k.2.1, 10, .inl f1)), (h1, .inr (6, P))] H := hP
  have hD : va_D A [(h0, .inr (11, F)), (ea, .inr (1, E)), (nw, .inl (k.2.1, 10, .inl f1)), (h1, .inr (6, P))] := hD
  refine W.widen (k := 0) (n := 0) (Nat.le_of_ble_eq_true rfl) (Nat.le_of_ble_eq_true rfl) ?_
  subst hw
  refine lv_if_eq (tgt := 47) hx hb dX11_canGo_18 (by decide) (fun c_3 => ?_) (fun c_3 => ?_)
  · have c_3 : (0 : Int32) = 0 := c_3
    refine lv_iconst (v := 0) hx hb dX11_canGo_47 (by decide) ?_
    have hP9 := hP.sub (ws' := [(h0, .inr (11, F)), (h1, .inr (6, P)), (ea, .inr (1, E)), (nw, .inl (k.2.1, 10, .inl f1))]) [0, 3, 1, 2] rfl
    have hD9 := hD.sub (ws' := [(h0, .inr (11, F)), (h1, .inr (6, P)), (ea, .inr (1, E)), (nw, .inl (k.2.1, 10, .inl f1))]) [0, 3, 1, 2] (by decide) rfl
    exact W.zret (v := 0) hx hb hr (by decide) (fun t ht hW => ⟨⟨0, (), rfl, rfl, cB_of ht hP9 hD9⟩, hS.F ht⟩) hS.2.2 dX11_canGo_48
  · exact absurd (by decide) c_3

set_option maxHeartbeats 4000000 in
set_option maxRecDepth 100000 in
theorem c_X11_go (l : Launch) (D : va_G) (k : ClassId × ClassId × ClassId × ClassId) (sz : Nat) (h0 h1 ea nw : Nat) (F P E : List Value) (f1 : Nat → Int32) (p0 : Int32) (g_F_paving : F[0]? = some (.ref h1)) (g_F_earnest : F[8]? = some (.ref ea)) (g_P_walkers : P[10]? = some (.int 0)) (g_E_now : E[0]? = some (.ref nw)) (g_f1__0 : f1 0 = (-1)) : Met l yX11_go (WS yX11_go cX11_go 5 (some .int)) ({ frames := 2, cells := 0, slots := 0, locals := 44 }) (va_Pc [.ref h0, .int p0] (cP D k [(h0, .inr (11, F)), (h1, .inr (6, P)), (ea, .inr (1, E)), (nw, .inl (k.2.1, 10, .inl f1))] sz)) (va_Qi (fun (r : Int32) (_ : Unit) => r = (-1)) (fun (_ : Unit) t => cB D (va_A [(h0, .inr (11, F)), (h1, .inr (6, P)), (ea, .inr (1, E)), (nw, .inl (k.2.1, 10, .inl f1))] sz) [] t) (va_A [(h0, .inr (11, F)), (h1, .inr (6, P)), (ea, .inr (1, E)), (nw, .inl (k.2.1, 10, .inl f1))] sz)) 0 0 (va_A [(h0, .inr (11, F)), (h1, .inr (6, P)), (ea, .inr (1, E)), (nw, .inl (k.2.1, 10, .inl f1))] sz) := by
  refine Met.ofW (cc := cX11_go) (maxL := 5) (ret := (some .int)) (by decide) rfl ?_
  intro p e s m args below meth c s₁ B hml hv
  obtain ⟨rfl, hsz, hP, hKX, hD0⟩ := hv
  have hK := hKX.1
  have hx := B.exec
  have hb := B.bytes
  have hr := B.returns
  have hts := atoms_spec (ws := WS yX11_go cX11_go 5 (some .int)) B.pre
  have hgd : ∀ w ∈ gd, w ∈ WS yX11_go cX11_go 5 (some .int) := fun w h => List.mem_cons_of_mem _ h
  have hg : ∀ w ∈ gd, w.before _ s = true := fun w h => hts w (hgd w h)
  have hown : s.vm.findClass RX11 = some m.cls := findClass_of_methodNamed B.named
  have hlocks := B.notSynchronized
  subst hsz
  have hD := hD0.self (sz := s.heap.size)
  generalize hAe : va_A [(h0, .inr (11, F)), (h1, .inr (6, P)), (ea, .inr (1, E)), (nw, .inl (k.2.1, 10, .inl f1))] s.heap.size = A at hD ⊢
  have hA : ∀ q : Nat, s.heap.size ≤ q → A q := fun q h => by rw [← hAe]; exact Or.inr h
  have hS : va_S A s.heap s.heap [] := va_S.rf
  have hP : va_P D classes [(h0, .inr (11, F)), (h1, .inr (6, P)), (ea, .inr (1, E)), (nw, .inl (k.2.1, 10, .inl f1))] s.heap := hP
  have hl := lv_entry ([.ref h0, .int p0]) (n := 5) (Nat.le_of_ble_eq_true rfl)
  rw [lg_entry_eq]
  generalize (lg_sl ([.ref h0, .int p0]) ++ List.replicate (5 - (lg_sl ([.ref h0, .int p0])).length) Slot.unset).toArray = ls at hl ⊢
  have hl : lv_has ls 5 [(0, .ref h0), (1, .int p0)] := hl
  refine lv_aload_n hx hb dX11_go_0 rfl (lv_at hl 0 rfl) ?_
  refine lv_iload_n hx hb dX11_go_1 rfl (lv_at hl 1 rfl) ?_
  have hPc := hP.sub (ws' := [(h0, .inr (11, F)), (h1, .inr (6, P)), (ea, .inr (1, E)), (nw, .inl (k.2.1, 10, .inl f1))]) [0, 1, 2, 3] rfl
  have hDc := hD.sub (ws' := [(h0, .inr (11, F)), (h1, .inr (6, P)), (ea, .inr (1, E)), (nw, .inl (k.2.1, 10, .inl f1))]) [0, 1, 2, 3] (by decide) rfl
  have hFc := va_free (wc := [(h0, .inr (11, F)), (h1, .inr (6, P)), (ea, .inr (1, E)), (nw, .inl (k.2.1, 10, .inl f1))]) hD hS hA [0, 1, 2, 3] rfl
  refine va_calli (va_runV (As := [.int p0]) (rest := []) ⟨hx, hb, hml, hown, hts⟩ (c_X11_canGo l D k s.heap.size h0 h1 ea nw F P E f1 p0 g_F_paving g_F_earnest g_P_walkers g_E_now g_f1__0) (cwV 1 hts (gd_V hgd m1186 m1188 m44 m117 m1189) rfl rfl rfl (by decide +kernel) ⟨Nat.le_of_ble_eq_true rfl, Nat.le_of_ble_eq_true rfl⟩) (cP_V hPc hKX hDc (ci := 11) (q0 := 0) rfl rfl) rfl rfl hl.1 rfl (lv_room (Nat.le_of_ble_eq_true rfl)) dX11_go_2 ⟨Nat.le_of_ble_eq_true rfl, Nat.le_of_ble_eq_true rfl⟩) hS (fun q _ h => hFc q h) hFc (fun r_1 u t H1 locs ht hvm hw hB hz1 hk1 hS => ?_)
  obtain ⟨hP1, hD1⟩ := hB
  rw [ht] at hP1
  obtain ⟨hP, hD⟩ := va_join (wr := []) (w1 := [(h0, .inr (11, F)), (h1, .inr (6, P)), (ea, .inr (1, E)), (nw, .inl (k.2.1, 10, .inl f1))]) hP hD [0, 1, 2, 3] [] rfl rfl (by decide) (by decide) hk1 hFc hP1 hD1
  generalize H1 = H at hP hS ⊢
  have hP : va_P D classes [(h0, .inr (11, F)), (h1, .inr (6, P)), (ea, .inr (1, E)), (nw, .inl (k.2.1, 10, .inl f1))] H := hP
  have hD : va_D A [(h0, .inr (11, F)), (h1, .inr (6, P)), (ea, .inr (1, E)), (nw, .inl (k.2.1, 10, .inl f1))] := hD
  refine W.widen (k := 0) (n := 0) (Nat.le_of_ble_eq_true rfl) (Nat.le_of_ble_eq_true rfl) ?_
  subst hw
  refine lv_if_ne (tgt := 10) hx hb dX11_go_5 (by decide) (fun c_2 => ?_) (fun c_2 => ?_)
  · exact absurd (by decide) c_2
  · have c_2 : (0 : Int32) = 0 := c_2
    refine lv_iconst (v := (-1)) hx hb dX11_go_8 (by decide) ?_
    have hP9 := hP.sub (ws' := []) [] rfl
    have hD9 := hD.sub (ws' := []) [] (by decide) rfl
    exact W.iret (v := (-1)) hx hb hr (fun t ht hW => ⟨⟨(-1), (), rfl, rfl, cB_of ht hP9 hD9⟩, hS.F ht⟩) hS.2.2 dX11_go_9

set_option maxHeartbeats 4000000 in
set_option maxRecDepth 100000 in
theorem c_X1_takeBack (l : Launch) (D : va_G) (k : ClassId × ClassId × ClassId × ClassId) (sz : Nat) (h0 : Nat) (E : List Value) (g_E_done : E[4]? = some (.int 0)) : Met l yX1_takeBack (WS yX1_takeBack cX1_takeBack 1 (some .boolean)) ({ frames := 0, cells := 0, slots := 0, locals := 0 }) (va_Pc [.ref h0] (cP D k [(h0, .inr (1, E))] sz)) (va_Qi (fun (r : Int32) (_ : Unit) => r = 0) (fun (_ : Unit) t => cB D (va_A [(h0, .inr (1, E))] sz) [] t) (va_A [(h0, .inr (1, E))] sz)) 0 0 (va_A [(h0, .inr (1, E))] sz) := by
  refine Met.ofW (cc := cX1_takeBack) (maxL := 1) (ret := (some .boolean)) (by decide) rfl ?_
  intro p e s m args below meth c s₁ B hml hv
  obtain ⟨rfl, hsz, hP, hKX, hD0⟩ := hv
  have hK := hKX.1
  have hx := B.exec
  have hb := B.bytes
  have hr := B.returns
  have hts := atoms_spec (ws := WS yX1_takeBack cX1_takeBack 1 (some .boolean)) B.pre
  have hgd : ∀ w ∈ gd, w ∈ WS yX1_takeBack cX1_takeBack 1 (some .boolean) := fun w h => List.mem_cons_of_mem _ h
  have hg : ∀ w ∈ gd, w.before _ s = true := fun w h => hts w (hgd w h)
  have hown : s.vm.findClass RX1 = some m.cls := findClass_of_methodNamed B.named
  have hlocks := B.notSynchronized
  subst hsz
  have hD := hD0.self (sz := s.heap.size)
  generalize hAe : va_A [(h0, .inr (1, E))] s.heap.size = A at hD ⊢
  have hA : ∀ q : Nat, s.heap.size ≤ q → A q := fun q h => by rw [← hAe]; exact Or.inr h
  have hS : va_S A s.heap s.heap [] := va_S.rf
  have hP : va_P D classes [(h0, .inr (1, E))] s.heap := hP
  have hl := lv_entry ([.ref h0]) (n := 1) (Nat.le_of_ble_eq_true rfl)
  rw [lg_entry_eq]
  generalize (lg_sl ([.ref h0]) ++ List.replicate (1 - (lg_sl ([.ref h0])).length) Slot.unset).toArray = ls at hl ⊢
  have hl : lv_has ls 1 [(0, .ref h0)] := hl
  refine lv_aload_n hx hb dX1_takeBack_0 rfl (lv_at hl 0 rfl) ?_
  refine va_get (D := D) (ci := 1) (v := .int 0) (C := RX1) (T := TX1) (N := 6) hx hb hg iX1 hown hK hP 0 rfl rfl 4 (by decide) (hg (Cond.fieldLink RX1 34 "SlabWalk$Earnest" "done" "I") m497) (fun _ h9 => h9) g_E_done dX1_takeBack_1 ?_
  refine lv_if_gt (tgt := 9) hx hb dX1_takeBack_4 (by decide) (fun c_1 => ?_) (fun c_1 => ?_)
  · exact absurd c_1 (by decide)
  · have c_1 : ¬ ((0 : Int32) < 0) := c_1
    refine lv_iconst (v := 0) hx hb dX1_takeBack_7 (by decide) ?_
    have hP9 := hP.sub (ws' := []) [] rfl
    have hD9 := hD.sub (ws' := []) [] (by decide) rfl
    exact W.zret (v := 0) hx hb hr (by decide) (fun t ht hW => ⟨⟨0, (), rfl, rfl, cB_of ht hP9 hD9⟩, hS.F ht⟩) hS.2.2 dX1_takeBack_8

set_option maxHeartbeats 4000000 in
set_option maxRecDepth 100000 in
theorem c_X1_doAgain (l : Launch) (D : va_G) (k : ClassId × ClassId × ClassId × ClassId) (sz : Nat) (h0 : Nat) (E : List Value) (g_E_undone : E[5]? = some (.int 0)) : Met l yX1_doAgain (WS yX1_doAgain cX1_doAgain 1 (some .boolean)) ({ frames := 0, cells := 0, slots := 0, locals := 0 }) (va_Pc [.ref h0] (cP D k [(h0, .inr (1, E))] sz)) (va_Qi (fun (r : Int32) (_ : Unit) => r = 0) (fun (_ : Unit) t => cB D (va_A [(h0, .inr (1, E))] sz) [] t) (va_A [(h0, .inr (1, E))] sz)) 0 0 (va_A [(h0, .inr (1, E))] sz) := by
  refine Met.ofW (cc := cX1_doAgain) (maxL := 1) (ret := (some .boolean)) (by decide) rfl ?_
  intro p e s m args below meth c s₁ B hml hv
  obtain ⟨rfl, hsz, hP, hKX, hD0⟩ := hv
  have hK := hKX.1
  have hx := B.exec
  have hb := B.bytes
  have hr := B.returns
  have hts := atoms_spec (ws := WS yX1_doAgain cX1_doAgain 1 (some .boolean)) B.pre
  have hgd : ∀ w ∈ gd, w ∈ WS yX1_doAgain cX1_doAgain 1 (some .boolean) := fun w h => List.mem_cons_of_mem _ h
  have hg : ∀ w ∈ gd, w.before _ s = true := fun w h => hts w (hgd w h)
  have hown : s.vm.findClass RX1 = some m.cls := findClass_of_methodNamed B.named
  have hlocks := B.notSynchronized
  subst hsz
  have hD := hD0.self (sz := s.heap.size)
  generalize hAe : va_A [(h0, .inr (1, E))] s.heap.size = A at hD ⊢
  have hA : ∀ q : Nat, s.heap.size ≤ q → A q := fun q h => by rw [← hAe]; exact Or.inr h
  have hS : va_S A s.heap s.heap [] := va_S.rf
  have hP : va_P D classes [(h0, .inr (1, E))] s.heap := hP
  have hl := lv_entry ([.ref h0]) (n := 1) (Nat.le_of_ble_eq_true rfl)
  rw [lg_entry_eq]
  generalize (lg_sl ([.ref h0]) ++ List.replicate (1 - (lg_sl ([.ref h0])).length) Slot.unset).toArray = ls at hl ⊢
  have hl : lv_has ls 1 [(0, .ref h0)] := hl
  refine lv_aload_n hx hb dX1_doAgain_0 rfl (lv_at hl 0 rfl) ?_
  refine va_get (D := D) (ci := 1) (v := .int 0) (C := RX1) (T := TX1) (N := 6) hx hb hg iX1 hown hK hP 0 rfl rfl 5 (by decide) (hg (Cond.fieldLink RX1 37 "SlabWalk$Earnest" "undone" "I") m499) (fun _ h9 => h9) g_E_undone dX1_doAgain_1 ?_
  refine lv_if_gt (tgt := 9) hx hb dX1_doAgain_4 (by decide) (fun c_1 => ?_) (fun c_1 => ?_)
  · exact absurd c_1 (by decide)
  · have c_1 : ¬ ((0 : Int32) < 0) := c_1
    refine lv_iconst (v := 0) hx hb dX1_doAgain_7 (by decide) ?_
    have hP9 := hP.sub (ws' := []) [] rfl
    have hD9 := hD.sub (ws' := []) [] (by decide) rfl
    exact W.zret (v := 0) hx hb hr (by decide) (fun t ht hW => ⟨⟨0, (), rfl, rfl, cB_of ht hP9 hD9⟩, hS.F ht⟩) hS.2.2 dX1_doAgain_8

set_option maxHeartbeats 4000000 in
set_option maxRecDepth 100000 in
theorem c_X11_undo (l : Launch) (D : va_G) (k : ClassId × ClassId × ClassId × ClassId) (sz : Nat) (h0 ea : Nat) (F E : List Value) (g_F_earnest : F[8]? = some (.ref ea)) (g_E_done : E[4]? = some (.int 0)) : Met l yX11_undo (WS yX11_undo cX11_undo 1 (some .boolean)) ({ frames := 1, cells := 0, slots := 0, locals := 20 }) (va_Pc [.ref h0] (cP D k [(h0, .inr (11, F)), (ea, .inr (1, E))] sz)) (va_Qi (fun (r : Int32) (_ : Unit) => r = 0) (fun (_ : Unit) t => cB D (va_A [(h0, .inr (11, F)), (ea, .inr (1, E))] sz) [] t) (va_A [(h0, .inr (11, F)), (ea, .inr (1, E))] sz)) 0 0 (va_A [(h0, .inr (11, F)), (ea, .inr (1, E))] sz) := by
  refine Met.ofW (cc := cX11_undo) (maxL := 1) (ret := (some .boolean)) (by decide) rfl ?_
  intro p e s m args below meth c s₁ B hml hv
  obtain ⟨rfl, hsz, hP, hKX, hD0⟩ := hv
  have hK := hKX.1
  have hx := B.exec
  have hb := B.bytes
  have hr := B.returns
  have hts := atoms_spec (ws := WS yX11_undo cX11_undo 1 (some .boolean)) B.pre
  have hgd : ∀ w ∈ gd, w ∈ WS yX11_undo cX11_undo 1 (some .boolean) := fun w h => List.mem_cons_of_mem _ h
  have hg : ∀ w ∈ gd, w.before _ s = true := fun w h => hts w (hgd w h)
  have hown : s.vm.findClass RX11 = some m.cls := findClass_of_methodNamed B.named
  have hlocks := B.notSynchronized
  subst hsz
  have hD := hD0.self (sz := s.heap.size)
  generalize hAe : va_A [(h0, .inr (11, F)), (ea, .inr (1, E))] s.heap.size = A at hD ⊢
  have hA : ∀ q : Nat, s.heap.size ≤ q → A q := fun q h => by rw [← hAe]; exact Or.inr h
  have hS : va_S A s.heap s.heap [] := va_S.rf
  have hP : va_P D classes [(h0, .inr (11, F)), (ea, .inr (1, E))] s.heap := hP
  have hl := lv_entry ([.ref h0]) (n := 1) (Nat.le_of_ble_eq_true rfl)
  rw [lg_entry_eq]
  generalize (lg_sl ([.ref h0]) ++ List.replicate (1 - (lg_sl ([.ref h0])).length) Slot.unset).toArray = ls at hl ⊢
  have hl : lv_has ls 1 [(0, .ref h0)] := hl
  refine lv_aload_n hx hb dX11_undo_0 rfl (lv_at hl 0 rfl) ?_
  refine va_get (D := D) (ci := 11) (v := .ref ea) (C := RX11) (T := TX11) (N := 13) hx hb hg iX11 hown hK hP 0 rfl rfl 8 (by decide) (hg (Cond.fieldLink RX11 65 "SlabWalk" "earnest" "LSlabWalk$Earnest;") m578) (fun _ h9 => h9) g_F_earnest dX11_undo_1 ?_
  have hPc := hP.sub (ws' := [(ea, .inr (1, E))]) [1] rfl
  have hDc := hD.sub (ws' := [(ea, .inr (1, E))]) [1] (by decide) rfl
  have hFc := va_free (wc := [(ea, .inr (1, E))]) hD hS hA [1] rfl
  refine va_calli (va_runV (As := []) (rest := []) ⟨hx, hb, hml, hown, hts⟩ (c_X1_takeBack l D k s.heap.size ea E g_E_done) (cwV 0 hts (gd_V hgd m1222 m1223 m1224 m127 m1225) rfl rfl rfl (by decide +kernel) ⟨Nat.le_of_ble_eq_true rfl, Nat.le_of_ble_eq_true rfl⟩) (cP_V hPc hKX hDc (ci := 1) (q0 := 0) rfl rfl) rfl rfl hl.1 rfl (lv_room (Nat.le_of_ble_eq_true rfl)) dX11_undo_4 ⟨Nat.le_of_ble_eq_true rfl, Nat.le_of_ble_eq_true rfl⟩) hS (fun q _ h => hFc q h) hFc (fun r_1 u t H1 locs ht hvm hw hB hz1 hk1 hS => ?_)
  obtain ⟨hP1, hD1⟩ := hB
  rw [ht] at hP1
  obtain ⟨hP, hD⟩ := va_join (wr := [(h0, .inr (11, F))]) (w1 := []) hP hD [1] [0] rfl rfl (by decide) (by decide) hk1 hFc hP1 hD1
  generalize H1 = H at hP hS ⊢
  have hP : va_P D classes [(h0, .inr (11, F))] H := hP
  have hD : va_D A [(h0, .inr (11, F))] := hD
  refine W.widen (k := 0) (n := 0) (Nat.le_of_ble_eq_true rfl) (Nat.le_of_ble_eq_true rfl) ?_
  subst hw
  have hP9 := hP.sub (ws' := []) [] rfl
  have hD9 := hD.sub (ws' := []) [] (by decide) rfl
  exact W.zret (v := 0) hx hb hr (by decide) (fun t ht hW => ⟨⟨0, (), rfl, rfl, cB_of ht hP9 hD9⟩, hS.F ht⟩) hS.2.2 dX11_undo_7

set_option maxHeartbeats 4000000 in
set_option maxRecDepth 100000 in
theorem c_X11_redo (l : Launch) (D : va_G) (k : ClassId × ClassId × ClassId × ClassId) (sz : Nat) (h0 ea : Nat) (F E : List Value) (g_F_earnest : F[8]? = some (.ref ea)) (g_E_undone : E[5]? = some (.int 0)) : Met l yX11_redo (WS yX11_redo cX11_redo 1 (some .boolean)) ({ frames := 1, cells := 0, slots := 0, locals := 20 }) (va_Pc [.ref h0] (cP D k [(h0, .inr (11, F)), (ea, .inr (1, E))] sz)) (va_Qi (fun (r : Int32) (_ : Unit) => r = 0) (fun (_ : Unit) t => cB D (va_A [(h0, .inr (11, F)), (ea, .inr (1, E))] sz) [] t) (va_A [(h0, .inr (11, F)), (ea, .inr (1, E))] sz)) 0 0 (va_A [(h0, .inr (11, F)), (ea, .inr (1, E))] sz) := by
  refine Met.ofW (cc := cX11_redo) (maxL := 1) (ret := (some .boolean)) (by decide) rfl ?_
  intro p e s m args below meth c s₁ B hml hv
  obtain ⟨rfl, hsz, hP, hKX, hD0⟩ := hv
  have hK := hKX.1
  have hx := B.exec
  have hb := B.bytes
  have hr := B.returns
  have hts := atoms_spec (ws := WS yX11_redo cX11_redo 1 (some .boolean)) B.pre
  have hgd : ∀ w ∈ gd, w ∈ WS yX11_redo cX11_redo 1 (some .boolean) := fun w h => List.mem_cons_of_mem _ h
  have hg : ∀ w ∈ gd, w.before _ s = true := fun w h => hts w (hgd w h)
  have hown : s.vm.findClass RX11 = some m.cls := findClass_of_methodNamed B.named
  have hlocks := B.notSynchronized
  subst hsz
  have hD := hD0.self (sz := s.heap.size)
  generalize hAe : va_A [(h0, .inr (11, F)), (ea, .inr (1, E))] s.heap.size = A at hD ⊢
  have hA : ∀ q : Nat, s.heap.size ≤ q → A q := fun q h => by rw [← hAe]; exact Or.inr h
  have hS : va_S A s.heap s.heap [] := va_S.rf
  have hP : va_P D classes [(h0, .inr (11, F)), (ea, .inr (1, E))] s.heap := hP
  have hl := lv_entry ([.ref h0]) (n := 1) (Nat.le_of_ble_eq_true rfl)
  rw [lg_entry_eq]
  generalize (lg_sl ([.ref h0]) ++ List.replicate (1 - (lg_sl ([.ref h0])).length) Slot.unset).toArray = ls at hl ⊢
  have hl : lv_has ls 1 [(0, .ref h0)] := hl
  refine lv_aload_n hx hb dX11_redo_0 rfl (lv_at hl 0 rfl) ?_
  refine va_get (D := D) (ci := 11) (v := .ref ea) (C := RX11) (T := TX11) (N := 13) hx hb hg iX11 hown hK hP 0 rfl rfl 8 (by decide) (hg (Cond.fieldLink RX11 65 "SlabWalk" "earnest" "LSlabWalk$Earnest;") m578) (fun _ h9 => h9) g_F_earnest dX11_redo_1 ?_
  have hPc := hP.sub (ws' := [(ea, .inr (1, E))]) [1] rfl
  have hDc := hD.sub (ws' := [(ea, .inr (1, E))]) [1] (by decide) rfl
  have hFc := va_free (wc := [(ea, .inr (1, E))]) hD hS hA [1] rfl
  refine va_calli (va_runV (As := []) (rest := []) ⟨hx, hb, hml, hown, hts⟩ (c_X1_doAgain l D k s.heap.size ea E g_E_undone) (cwV 0 hts (gd_V hgd m1230 m1231 m1232 m127 m1233) rfl rfl rfl (by decide +kernel) ⟨Nat.le_of_ble_eq_true rfl, Nat.le_of_ble_eq_true rfl⟩) (cP_V hPc hKX hDc (ci := 1) (q0 := 0) rfl rfl) rfl rfl hl.1 rfl (lv_room (Nat.le_of_ble_eq_true rfl)) dX11_redo_4 ⟨Nat.le_of_ble_eq_true rfl, Nat.le_of_ble_eq_true rfl⟩) hS (fun q _ h => hFc q h) hFc (fun r_1 u t H1 locs ht hvm hw hB hz1 hk1 hS => ?_)
  obtain ⟨hP1, hD1⟩ := hB
  rw [ht] at hP1
  obtain ⟨hP, hD⟩ := va_join (wr := [(h0, .inr (11, F))]) (w1 := []) hP hD [1] [0] rfl rfl (by decide) (by decide) hk1 hFc hP1 hD1
  generalize H1 = H at hP hS ⊢
  have hP : va_P D classes [(h0, .inr (11, F))] H := hP
  have hD : va_D A [(h0, .inr (11, F))] := hD
  refine W.widen (k := 0) (n := 0) (Nat.le_of_ble_eq_true rfl) (Nat.le_of_ble_eq_true rfl) ?_
  subst hw
  have hP9 := hP.sub (ws' := []) [] rfl
  have hD9 := hD.sub (ws' := []) [] (by decide) rfl
  exact W.zret (v := 0) hx hb hr (by decide) (fun t ht hW => ⟨⟨0, (), rfl, rfl, cB_of ht hP9 hD9⟩, hS.F ht⟩) hS.2.2 dX11_redo_7

set_option maxHeartbeats 4000000 in
set_option maxRecDepth 100000 in
theorem c_X11_walker (l : Launch) (D : va_G) (k : ClassId × ClassId × ClassId × ClassId) (sz : Nat) (h0 ea nw : Nat) (F E : List Value) (f1 : Nat → Int32) (p0 : Int32) (g_F_earnest : F[8]? = some (.ref ea)) (g_E_now : E[0]? = some (.ref nw)) (g_f1__0 : f1 0 = (-1)) : Met l yX11_walker (WS yX11_walker cX11_walker 2 (some .int)) ({ frames := 0, cells := 0, slots := 0, locals := 0 }) (va_Pc [.ref h0, .int p0] (cP D k [(h0, .inr (11, F)), (ea, .inr (1, E)), (nw, .inl (k.2.1, 10, .inl f1))] sz)) (va_Qi (fun (r : Int32) (_ : Unit) => r = (-1)) (fun (_ : Unit) t => cB D (va_A [(h0, .inr (11, F)), (ea, .inr (1, E)), (nw, .inl (k.2.1, 10, .inl f1))] sz) [] t) (va_A [(h0, .inr (11, F)), (ea, .inr (1, E)), (nw, .inl (k.2.1, 10, .inl f1))] sz)) 0 0 (va_A [(h0, .inr (11, F)), (ea, .inr (1, E)), (nw, .inl (k.2.1, 10, .inl f1))] sz) := by
  refine Met.ofW (cc := cX11_walker) (maxL := 2) (ret := (some .int)) (by decide) rfl ?_
  intro p e s m args below meth c s₁ B hml hv
  obtain ⟨rfl, hsz, hP, hKX, hD0⟩ := hv
  have hK := hKX.1
  have hx := B.exec
  have hb := B.bytes
  have hr := B.returns
  have hts := atoms_spec (ws := WS yX11_walker cX11_walker 2 (some .int)) B.pre
  have hgd : ∀ w ∈ gd, w ∈ WS yX11_walker cX11_walker 2 (some .int) := fun w h => List.mem_cons_of_mem _ h
  have hg : ∀ w ∈ gd, w.before _ s = true := fun w h => hts w (hgd w h)
  have hown : s.vm.findClass RX11 = some m.cls := findClass_of_methodNamed B.named
  have hlocks := B.notSynchronized
  subst hsz
  have hD := hD0.self (sz := s.heap.size)
  generalize hAe : va_A [(h0, .inr (11, F)), (ea, .inr (1, E)), (nw, .inl (k.2.1, 10, .inl f1))] s.heap.size = A at hD ⊢
  have hA : ∀ q : Nat, s.heap.size ≤ q → A q := fun q h => by rw [← hAe]; exact Or.inr h
  have hS : va_S A s.heap s.heap [] := va_S.rf
  have hP : va_P D classes [(h0, .inr (11, F)), (ea, .inr (1, E)), (nw, .inl (k.2.1, 10, .inl f1))] s.heap := hP
  have hl := lv_entry ([.ref h0, .int p0]) (n := 2) (Nat.le_of_ble_eq_true rfl)
  rw [lg_entry_eq]
  generalize (lg_sl ([.ref h0, .int p0]) ++ List.replicate (2 - (lg_sl ([.ref h0, .int p0])).length) Slot.unset).toArray = ls at hl ⊢
  have hl : lv_has ls 2 [(0, .ref h0), (1, .int p0)] := hl
  refine lv_aload_n hx hb dX11_walker_0 rfl (lv_at hl 0 rfl) ?_
  refine va_get (D := D) (ci := 11) (v := .ref ea) (C := RX11) (T := TX11) (N := 13) hx hb hg iX11 hown hK hP 0 rfl rfl 8 (by decide) (hg (Cond.fieldLink RX11 65 "SlabWalk" "earnest" "LSlabWalk$Earnest;") m578) (fun _ h9 => h9) g_F_earnest dX11_walker_1 ?_
  refine va_get (D := D) (ci := 1) (v := .ref nw) (C := RX1) (T := TX1) (N := 6) hx hb hg iX1 hown hK hP 1 rfl rfl 0 (by decide) (hg (Cond.fieldLink RX11 246 "SlabWalk$Earnest" "now" "[I") m493) (fun _ h9 => h9) g_E_now dX11_walker_4 ?_
  refine lv_iconst (v := 0) hx hb dX11_walker_7 (by decide) ?_
  refine va_iald hx hb hK hP 2 1 rfl rfl (show ¬ ((0 : Int32) < 0 ∨ 10 ≤ (0 : Int32).toNatClampNeg) from by decide +kernel) dX11_walker_8 ?_
  refine lv_topi (fun y_1 ey_1 => ?_)
  obtain rfl : y_1 = (-1) := ey_1.trans (g_f1__0)
  refine lv_iconst (v := (-1)) hx hb dX11_walker_9 (by decide) ?_
  refine lv_icmp_eq (tgt := 22) hx hb dX11_walker_10 (by decide) (fun c_2 => ?_) (fun c_2 => ?_)
  · have c_2 : ((-1) : Int32) = (-1) := c_2
    refine lv_iconst (v := (-1)) hx hb dX11_walker_22 (by decide) ?_
    have hP9 := hP.sub (ws' := []) [] rfl
    have hD9 := hD.sub (ws' := []) [] (by decide) rfl
    exact W.iret (v := (-1)) hx hb hr (fun t ht hW => ⟨⟨(-1), (), rfl, rfl, cB_of ht hP9 hD9⟩, hS.F ht⟩) hS.2.2 dX11_walker_23
  · exact absurd (by decide) c_2

set_option maxHeartbeats 4000000 in
set_option maxRecDepth 100000 in
theorem c_X11_lies (l : Launch) (D : va_G) (k : ClassId × ClassId × ClassId × ClassId) (sz : Nat) (h0 : Nat) (F : List Value) (p0 : Int32) (g_F_lie : F[12]? = some (.int 0)) : Met l yX11_lies (WS yX11_lies cX11_lies 2 (some .int)) ({ frames := 0, cells := 0, slots := 0, locals := 0 }) (va_Pc [.ref h0, .int p0] (cP D k [(h0, .inr (11, F))] sz)) (va_Qi (fun (r : Int32) (_ : Unit) => r = (-1)) (fun (_ : Unit) t => cB D (va_A [(h0, .inr (11, F))] sz) [] t) (va_A [(h0, .inr (11, F))] sz)) 0 0 (va_A [(h0, .inr (11, F))] sz) := by
  refine Met.ofW (cc := cX11_lies) (maxL := 2) (ret := (some .int)) (by decide) rfl ?_
  intro p e s m args below meth c s₁ B hml hv
  obtain ⟨rfl, hsz, hP, hKX, hD0⟩ := hv
  have hK := hKX.1
  have hx := B.exec
  have hb := B.bytes
  have hr := B.returns
  have hts := atoms_spec (ws := WS yX11_lies cX11_lies 2 (some .int)) B.pre
  have hgd : ∀ w ∈ gd, w ∈ WS yX11_lies cX11_lies 2 (some .int) := fun w h => List.mem_cons_of_mem _ h
  have hg : ∀ w ∈ gd, w.before _ s = true := fun w h => hts w (hgd w h)
  have hown : s.vm.findClass RX11 = some m.cls := findClass_of_methodNamed B.named
  have hlocks := B.notSynchronized
  subst hsz
  have hD := hD0.self (sz := s.heap.size)
  generalize hAe : va_A [(h0, .inr (11, F))] s.heap.size = A at hD ⊢
  have hA : ∀ q : Nat, s.heap.size ≤ q → A q := fun q h => by rw [← hAe]; exact Or.inr h
  have hS : va_S A s.heap s.heap [] := va_S.rf
  have hP : va_P D classes [(h0, .inr (11, F))] s.heap := hP
  have hl := lv_entry ([.ref h0, .int p0]) (n := 2) (Nat.le_of_ble_eq_true rfl)
  rw [lg_entry_eq]
  generalize (lg_sl ([.ref h0, .int p0]) ++ List.replicate (2 - (lg_sl ([.ref h0, .int p0])).length) Slot.unset).toArray = ls at hl ⊢
  have hl : lv_has ls 2 [(0, .ref h0), (1, .int p0)] := hl
  refine lv_iload_n hx hb dX11_lies_0 rfl (lv_at hl 1 rfl) ?_
  refine lv_if_lt (tgt := 21) hx hb dX11_lies_1 (by decide) (fun c_1 => ?_) (fun c_1 => ?_)
  · have c_1 : (p0 : Int32) < 0 := c_1
    refine lv_iconst (v := (-1)) hx hb dX11_lies_21 (by decide) ?_
    have hP9 := hP.sub (ws' := []) [] rfl
    have hD9 := hD.sub (ws' := []) [] (by decide) rfl
    exact W.iret (v := (-1)) hx hb hr (fun t ht hW => ⟨⟨(-1), (), rfl, rfl, cB_of ht hP9 hD9⟩, hS.F ht⟩) hS.2.2 dX11_lies_22
  · have c_1 : ¬ ((p0 : Int32) < 0) := c_1
    refine lv_iload_n hx hb dX11_lies_4 rfl (lv_at hl 1 rfl) ?_
    refine lv_aload_n hx hb dX11_lies_5 rfl (lv_at hl 0 rfl) ?_
    refine va_get (D := D) (ci := 11) (v := .int 0) (C := RX11) (T := TX11) (N := 13) hx hb hg iX11 hown hK hP 0 rfl rfl 12 (by decide) (hg (Cond.fieldLink RX11 150 "SlabWalk" "lie" "I") m582) (fun _ h9 => h9) g_F_lie dX11_lies_6 ?_
    refine lv_icmp_ge (tgt := 21) hx hb dX11_lies_9 (by decide) (fun c_2 => ?_) (fun c_2 => ?_)
    · have c_2 : (0 : Int32) ≤ p0 := c_2
      refine lv_iconst (v := (-1)) hx hb dX11_lies_21 (by decide) ?_
      have hP9 := hP.sub (ws' := []) [] rfl
      have hD9 := hD.sub (ws' := []) [] (by decide) rfl
      exact W.iret (v := (-1)) hx hb hr (fun t ht hW => ⟨⟨(-1), (), rfl, rfl, cB_of ht hP9 hD9⟩, hS.F ht⟩) hS.2.2 dX11_lies_22
    · exact absurd (Int32.not_lt.mp c_1) c_2

set_option maxHeartbeats 4000000 in
set_option maxRecDepth 100000 in
theorem c_X8_takeFrom (l : Launch) (D : va_G) (k : ClassId × ClassId × ClassId × ClassId) (sz : Nat) (h0 : Nat) (Z : List Value) (p0 : Int32) (g_Z_count : Z[5]? = some (.int 0)) : Met l yX8_takeFrom (WS yX8_takeFrom cX8_takeFrom 2 (some .boolean)) ({ frames := 0, cells := 0, slots := 0, locals := 0 }) (va_Pc [.ref h0, .int p0] (cP D k [(h0, .inr (8, Z))] sz)) (va_Qi (fun (r : Int32) (_ : Unit) => r = 0) (fun (_ : Unit) t => cB D (va_A [(h0, .inr (8, Z))] sz) [] t) (va_A [(h0, .inr (8, Z))] sz)) 0 0 (va_A [(h0, .inr (8, Z))] sz) := by
  refine Met.ofW (cc := cX8_takeFrom) (maxL := 2) (ret := (some .boolean)) (by decide) rfl ?_
  intro p e s m args below meth c s₁ B hml hv
  obtain ⟨rfl, hsz, hP, hKX, hD0⟩ := hv
  have hK := hKX.1
  have hx := B.exec
  have hb := B.bytes
  have hr := B.returns
  have hts := atoms_spec (ws := WS yX8_takeFrom cX8_takeFrom 2 (some .boolean)) B.pre
  have hgd : ∀ w ∈ gd, w ∈ WS yX8_takeFrom cX8_takeFrom 2 (some .boolean) := fun w h => List.mem_cons_of_mem _ h
  have hg : ∀ w ∈ gd, w.before _ s = true := fun w h => hts w (hgd w h)
  have hown : s.vm.findClass RX8 = some m.cls := findClass_of_methodNamed B.named
  have hlocks := B.notSynchronized
  subst hsz
  have hD := hD0.self (sz := s.heap.size)
  generalize hAe : va_A [(h0, .inr (8, Z))] s.heap.size = A at hD ⊢
  have hA : ∀ q : Nat, s.heap.size ≤ q → A q := fun q h => by rw [← hAe]; exact Or.inr h
  have hS : va_S A s.heap s.heap [] := va_S.rf
  have hP : va_P D classes [(h0, .inr (8, Z))] s.heap := hP
  have hl := lv_entry ([.ref h0, .int p0]) (n := 2) (Nat.le_of_ble_eq_true rfl)
  rw [lg_entry_eq]
  generalize (lg_sl ([.ref h0, .int p0]) ++ List.replicate (2 - (lg_sl ([.ref h0, .int p0])).length) Slot.unset).toArray = ls at hl ⊢
  have hl : lv_has ls 2 [(0, .ref h0), (1, .int p0)] := hl
  refine lv_iload_n hx hb dX8_takeFrom_0 rfl (lv_at hl 1 rfl) ?_
  refine lv_if_lt (tgt := 22) hx hb dX8_takeFrom_1 (by decide) (fun c_1 => ?_) (fun c_1 => ?_)
  · have c_1 : (p0 : Int32) < 0 := c_1
    refine lv_iconst (v := 0) hx hb dX8_takeFrom_22 (by decide) ?_
    have hP9 := hP.sub (ws' := []) [] rfl
    have hD9 := hD.sub (ws' := []) [] (by decide) rfl
    exact W.zret (v := 0) hx hb hr (by decide) (fun t ht hW => ⟨⟨0, (), rfl, rfl, cB_of ht hP9 hD9⟩, hS.F ht⟩) hS.2.2 dX8_takeFrom_23
  · have c_1 : ¬ ((p0 : Int32) < 0) := c_1
    refine lv_iload_n hx hb dX8_takeFrom_4 rfl (lv_at hl 1 rfl) ?_
    refine lv_aload_n hx hb dX8_takeFrom_5 rfl (lv_at hl 0 rfl) ?_
    refine va_get (D := D) (ci := 8) (v := .int 0) (C := RX8) (T := TX8) (N := 7) hx hb hg iX8 hown hK hP 0 rfl rfl 5 (by decide) (hg (Cond.fieldLink RX8 27 "SlabWalk$Sights" "count" "I") m528) (fun _ h9 => h9) g_Z_count dX8_takeFrom_6 ?_
    refine lv_icmp_ge (tgt := 22) hx hb dX8_takeFrom_9 (by decide) (fun c_2 => ?_) (fun c_2 => ?_)
    · have c_2 : (0 : Int32) ≤ p0 := c_2
      refine lv_iconst (v := 0) hx hb dX8_takeFrom_22 (by decide) ?_
      have hP9 := hP.sub (ws' := []) [] rfl
      have hD9 := hD.sub (ws' := []) [] (by decide) rfl
      exact W.zret (v := 0) hx hb hr (by decide) (fun t ht hW => ⟨⟨0, (), rfl, rfl, cB_of ht hP9 hD9⟩, hS.F ht⟩) hS.2.2 dX8_takeFrom_23
    · exact absurd (Int32.not_lt.mp c_1) c_2

set_option maxHeartbeats 4000000 in
set_option maxRecDepth 100000 in
theorem c_X11_untell (l : Launch) (D : va_G) (k : ClassId × ClassId × ClassId × ClassId) (sz : Nat) (h0 si : Nat) (F Z : List Value) (p0 : Int32) (g_F_sights : F[9]? = some (.ref si)) (g_Z_count : Z[5]? = some (.int 0)) : Met l yX11_untell (WS yX11_untell cX11_untell 2 (some .boolean)) ({ frames := 1, cells := 0, slots := 0, locals := 21 }) (va_Pc [.ref h0, .int p0] (cP D k [(h0, .inr (11, F)), (si, .inr (8, Z))] sz)) (va_Qi (fun (r : Int32) (_ : Unit) => r = 0) (fun (_ : Unit) t => cB D (va_A [(h0, .inr (11, F)), (si, .inr (8, Z))] sz) [] t) (va_A [(h0, .inr (11, F)), (si, .inr (8, Z))] sz)) 0 0 (va_A [(h0, .inr (11, F)), (si, .inr (8, Z))] sz) := by
  refine Met.ofW (cc := cX11_untell) (maxL := 2) (ret := (some .boolean)) (by decide) rfl ?_
  intro p e s m args below meth c s₁ B hml hv
  obtain ⟨rfl, hsz, hP, hKX, hD0⟩ := hv
  have hK := hKX.1
  have hx := B.exec
  have hb := B.bytes
  have hr := B.returns
  have hts := atoms_spec (ws := WS yX11_untell cX11_untell 2 (some .boolean)) B.pre
  have hgd : ∀ w ∈ gd, w ∈ WS yX11_untell cX11_untell 2 (some .boolean) := fun w h => List.mem_cons_of_mem _ h
  have hg : ∀ w ∈ gd, w.before _ s = true := fun w h => hts w (hgd w h)
  have hown : s.vm.findClass RX11 = some m.cls := findClass_of_methodNamed B.named
  have hlocks := B.notSynchronized
  subst hsz
  have hD := hD0.self (sz := s.heap.size)
  generalize hAe : va_A [(h0, .inr (11, F)), (si, .inr (8, Z))] s.heap.size = A at hD ⊢
  have hA : ∀ q : Nat, s.heap.size ≤ q → A q := fun q h => by rw [← hAe]; exact Or.inr h
  have hS : va_S A s.heap s.heap [] := va_S.rf
  have hP : va_P D classes [(h0, .inr (11, F)), (si, .inr (8, Z))] s.heap := hP
  have hl := lv_entry ([.ref h0, .int p0]) (n := 2) (Nat.le_of_ble_eq_true rfl)
  rw [lg_entry_eq]
  generalize (lg_sl ([.ref h0, .int p0]) ++ List.replicate (2 - (lg_sl ([.ref h0, .int p0])).length) Slot.unset).toArray = ls at hl ⊢
  have hl : lv_has ls 2 [(0, .ref h0), (1, .int p0)] := hl
  refine lv_aload_n hx hb dX11_untell_0 rfl (lv_at hl 0 rfl) ?_
  refine va_get (D := D) (ci := 11) (v := .ref si) (C := RX11) (T := TX11) (N := 13) hx hb hg iX11 hown hK hP 0 rfl rfl 9 (by decide) (hg (Cond.fieldLink RX11 72 "SlabWalk" "sights" "LSlabWalk$Sights;") m579) (fun _ h9 => h9) g_F_sights dX11_untell_1 ?_
  refine lv_iload_n hx hb dX11_untell_4 rfl (lv_at hl 1 rfl) ?_
  have hPc := hP.sub (ws' := [(si, .inr (8, Z))]) [1] rfl
  have hDc := hD.sub (ws' := [(si, .inr (8, Z))]) [1] (by decide) rfl
  have hFc := va_free (wc := [(si, .inr (8, Z))]) hD hS hA [1] rfl
  refine va_calli (va_runV (As := [.int p0]) (rest := []) ⟨hx, hb, hml, hown, hts⟩ (c_X8_takeFrom l D k s.heap.size si Z p0 g_Z_count) (cwV 1 hts (gd_V hgd m1254 m1255 m1256 m128 m1257) rfl rfl rfl (by decide +kernel) ⟨Nat.le_of_ble_eq_true rfl, Nat.le_of_ble_eq_true rfl⟩) (cP_V hPc hKX hDc (ci := 8) (q0 := 0) rfl rfl) rfl rfl hl.1 rfl (lv_room (Nat.le_of_ble_eq_true rfl)) dX11_untell_5 ⟨Nat.le_of_ble_eq_true rfl, Nat.le_of_ble_eq_true rfl⟩) hS (fun q _ h => hFc q h) hFc (fun r_1 u t H1 locs ht hvm hw hB hz1 hk1 hS => ?_)
  obtain ⟨hP1, hD1⟩ := hB
  rw [ht] at hP1
  obtain ⟨hP, hD⟩ := va_join (wr := [(h0, .inr (11, F))]) (w1 := []) hP hD [1] [0] rfl rfl (by decide) (by decide) hk1 hFc hP1 hD1
  generalize H1 = H at hP hS ⊢
  have hP : va_P D classes [(h0, .inr (11, F))] H := hP
  have hD : va_D A [(h0, .inr (11, F))] := hD
  refine W.widen (k := 0) (n := 0) (Nat.le_of_ble_eq_true rfl) (Nat.le_of_ble_eq_true rfl) ?_
  subst hw
  have hP9 := hP.sub (ws' := []) [] rfl
  have hD9 := hD.sub (ws' := []) [] (by decide) rfl
  exact W.zret (v := 0) hx hb hr (by decide) (fun t ht hW => ⟨⟨0, (), rfl, rfl, cB_of ht hP9 hD9⟩, hS.F ht⟩) hS.2.2 dX11_untell_8

set_option maxHeartbeats 4000000 in
set_option maxRecDepth 100000 in
theorem c_X11_later_a (l : Launch) (D : va_G) (k : ClassId × ClassId × ClassId × ClassId) (sz : Nat) (h0 si : Nat) (F Z : List Value) (p0 : Int32) (g_F_sights : F[9]? = some (.ref si)) (g_Z_time : Z[6]? = some (.int 0)) (h_lt0 : p0 < 0) : Met l yX11_later (WS yX11_later cX11_later 2 (some .int)) ({ frames := 0, cells := 0, slots := 0, locals := 0 }) (va_Pc [.ref h0, .int p0] (cP D k [(h0, .inr (11, F)), (si, .inr (8, Z))] sz)) (va_Qi (fun (r : Int32) (_ : Unit) => r = (-1)) (fun (_ : Unit) t => cB D (va_A [(h0, .inr (11, F)), (si, .inr (8, Z))] sz) [] t) (va_A [(h0, .inr (11, F)), (si, .inr (8, Z))] sz)) 0 0 (va_A [(h0, .inr (11, F)), (si, .inr (8, Z))] sz) := by
  refine Met.ofW (cc := cX11_later) (maxL := 2) (ret := (some .int)) (by decide) rfl ?_
  intro p e s m args below meth c s₁ B hml hv
  obtain ⟨rfl, hsz, hP, hKX, hD0⟩ := hv
  have hK := hKX.1
  have hx := B.exec
  have hb := B.bytes
  have hr := B.returns
  have hts := atoms_spec (ws := WS yX11_later cX11_later 2 (some .int)) B.pre
  have hgd : ∀ w ∈ gd, w ∈ WS yX11_later cX11_later 2 (some .int) := fun w h => List.mem_cons_of_mem _ h
  have hg : ∀ w ∈ gd, w.before _ s = true := fun w h => hts w (hgd w h)
  have hown : s.vm.findClass RX11 = some m.cls := findClass_of_methodNamed B.named
  have hlocks := B.notSynchronized
  subst hsz
  have hD := hD0.self (sz := s.heap.size)
  generalize hAe : va_A [(h0, .inr (11, F)), (si, .inr (8, Z))] s.heap.size = A at hD ⊢
  have hA : ∀ q : Nat, s.heap.size ≤ q → A q := fun q h => by rw [← hAe]; exact Or.inr h
  have hS : va_S A s.heap s.heap [] := va_S.rf
  have hP : va_P D classes [(h0, .inr (11, F)), (si, .inr (8, Z))] s.heap := hP
  have hl := lv_entry ([.ref h0, .int p0]) (n := 2) (Nat.le_of_ble_eq_true rfl)
  rw [lg_entry_eq]
  generalize (lg_sl ([.ref h0, .int p0]) ++ List.replicate (2 - (lg_sl ([.ref h0, .int p0])).length) Slot.unset).toArray = ls at hl ⊢
  have hl : lv_has ls 2 [(0, .ref h0), (1, .int p0)] := hl
  refine lv_iload_n hx hb dX11_later_0 rfl (lv_at hl 1 rfl) ?_
  refine lv_if_lt (tgt := 26) hx hb dX11_later_1 (by decide) (fun c_1 => ?_) (fun c_1 => ?_)
  · have c_1 : (p0 : Int32) < 0 := c_1
    refine lv_iconst (v := (-1)) hx hb dX11_later_26 (by decide) ?_
    have hP9 := hP.sub (ws' := []) [] rfl
    have hD9 := hD.sub (ws' := []) [] (by decide) rfl
    exact W.iret (v := (-1)) hx hb hr (fun t ht hW => ⟨⟨(-1), (), rfl, rfl, cB_of ht hP9 hD9⟩, hS.F ht⟩) hS.2.2 dX11_later_27
  · exact absurd h_lt0 c_1

set_option maxHeartbeats 4000000 in
set_option maxRecDepth 100000 in
theorem c_X11_later_b (l : Launch) (D : va_G) (k : ClassId × ClassId × ClassId × ClassId) (sz : Nat) (h0 si : Nat) (F Z : List Value) (p0 : Int32) (g_F_sights : F[9]? = some (.ref si)) (g_Z_time : Z[6]? = some (.int 0)) (h_nlt0 : ¬ (p0 < 0)) (h_gt1000 : 1000 < p0) : Met l yX11_later (WS yX11_later cX11_later 2 (some .int)) ({ frames := 0, cells := 0, slots := 0, locals := 0 }) (va_Pc [.ref h0, .int p0] (cP D k [(h0, .inr (11, F)), (si, .inr (8, Z))] sz)) (va_Qi (fun (r : Int32) (_ : Unit) => r = (-1)) (fun (_ : Unit) t => cB D (va_A [(h0, .inr (11, F)), (si, .inr (8, Z))] sz) [] t) (va_A [(h0, .inr (11, F)), (si, .inr (8, Z))] sz)) 0 0 (va_A [(h0, .inr (11, F)), (si, .inr (8, Z))] sz) := by
  refine Met.ofW (cc := cX11_later) (maxL := 2) (ret := (some .int)) (by decide) rfl ?_
  intro p e s m args below meth c s₁ B hml hv
  obtain ⟨rfl, hsz, hP, hKX, hD0⟩ := hv
  have hK := hKX.1
  have hx := B.exec
  have hb := B.bytes
  have hr := B.returns
  have hts := atoms_spec (ws := WS yX11_later cX11_later 2 (some .int)) B.pre
  have hgd : ∀ w ∈ gd, w ∈ WS yX11_later cX11_later 2 (some .int) := fun w h => List.mem_cons_of_mem _ h
  have hg : ∀ w ∈ gd, w.before _ s = true := fun w h => hts w (hgd w h)
  have hown : s.vm.findClass RX11 = some m.cls := findClass_of_methodNamed B.named
  have hlocks := B.notSynchronized
  subst hsz
  have hD := hD0.self (sz := s.heap.size)
  generalize hAe : va_A [(h0, .inr (11, F)), (si, .inr (8, Z))] s.heap.size = A at hD ⊢
  have hA : ∀ q : Nat, s.heap.size ≤ q → A q := fun q h => by rw [← hAe]; exact Or.inr h
  have hS : va_S A s.heap s.heap [] := va_S.rf
  have hP : va_P D classes [(h0, .inr (11, F)), (si, .inr (8, Z))] s.heap := hP
  have hl := lv_entry ([.ref h0, .int p0]) (n := 2) (Nat.le_of_ble_eq_true rfl)
  rw [lg_entry_eq]
  generalize (lg_sl ([.ref h0, .int p0]) ++ List.replicate (2 - (lg_sl ([.ref h0, .int p0])).length) Slot.unset).toArray = ls at hl ⊢
  have hl : lv_has ls 2 [(0, .ref h0), (1, .int p0)] := hl
  refine lv_iload_n hx hb dX11_later_0 rfl (lv_at hl 1 rfl) ?_
  refine lv_if_lt (tgt := 26) hx hb dX11_later_1 (by decide) (fun c_1 => ?_) (fun c_1 => ?_)
  · exact absurd c_1 h_nlt0
  · have c_1 : ¬ ((p0 : Int32) < 0) := c_1
    refine lv_iload_n hx hb dX11_later_4 rfl (lv_at hl 1 rfl) ?_
    refine lv_sipush (v := 1000) hx hb dX11_later_5 (by decide) ?_
    refine lv_icmp_gt (tgt := 26) hx hb dX11_later_8 (by decide) (fun c_2 => ?_) (fun c_2 => ?_)
    · have c_2 : (1000 : Int32) < p0 := c_2
      refine lv_iconst (v := (-1)) hx hb dX11_later_26 (by decide) ?_
      have hP9 := hP.sub (ws' := []) [] rfl
      have hD9 := hD.sub (ws' := []) [] (by decide) rfl
      exact W.iret (v := (-1)) hx hb hr (fun t ht hW => ⟨⟨(-1), (), rfl, rfl, cB_of ht hP9 hD9⟩, hS.F ht⟩) hS.2.2 dX11_later_27
    · exact absurd h_gt1000 c_2

set_option maxHeartbeats 4000000 in
set_option maxRecDepth 100000 in
theorem c_X11_later_c (l : Launch) (D : va_G) (k : ClassId × ClassId × ClassId × ClassId) (sz : Nat) (h0 si : Nat) (F Z : List Value) (p0 : Int32) (g_F_sights : F[9]? = some (.ref si)) (g_Z_time : Z[6]? = some (.int 0)) (h_nlt0 : ¬ (p0 < 0)) (h_ngt1000 : ¬ (1000 < p0)) (h_nbig : ¬ (100000 < (0 : Int32) + p0)) : Met l yX11_later (WS yX11_later cX11_later 2 (some .int)) ({ frames := 0, cells := 0, slots := 0, locals := 0 }) (va_Pc [.ref h0, .int p0] (cP D k [(h0, .inr (11, F)), (si, .inr (8, Z))] sz)) (va_Qi (fun (r : Int32) (_ : Unit) => r = ((0 : Int32) + p0)) (fun (_ : Unit) t => cB D (va_A [(h0, .inr (11, F)), (si, .inr (8, Z))] sz) [] t) (va_A [(h0, .inr (11, F)), (si, .inr (8, Z))] sz)) 0 0 (va_A [(h0, .inr (11, F)), (si, .inr (8, Z))] sz) := by
  refine Met.ofW (cc := cX11_later) (maxL := 2) (ret := (some .int)) (by decide) rfl ?_
  intro p e s m args below meth c s₁ B hml hv
  obtain ⟨rfl, hsz, hP, hKX, hD0⟩ := hv
  have hK := hKX.1
  have hx := B.exec
  have hb := B.bytes
  have hr := B.returns
  have hts := atoms_spec (ws := WS yX11_later cX11_later 2 (some .int)) B.pre
  have hgd : ∀ w ∈ gd, w ∈ WS yX11_later cX11_later 2 (some .int) := fun w h => List.mem_cons_of_mem _ h
  have hg : ∀ w ∈ gd, w.before _ s = true := fun w h => hts w (hgd w h)
  have hown : s.vm.findClass RX11 = some m.cls := findClass_of_methodNamed B.named
  have hlocks := B.notSynchronized
  subst hsz
  have hD := hD0.self (sz := s.heap.size)
  generalize hAe : va_A [(h0, .inr (11, F)), (si, .inr (8, Z))] s.heap.size = A at hD ⊢
  have hA : ∀ q : Nat, s.heap.size ≤ q → A q := fun q h => by rw [← hAe]; exact Or.inr h
  have hS : va_S A s.heap s.heap [] := va_S.rf
  have hP : va_P D classes [(h0, .inr (11, F)), (si, .inr (8, Z))] s.heap := hP
  have hl := lv_entry ([.ref h0, .int p0]) (n := 2) (Nat.le_of_ble_eq_true rfl)
  rw [lg_entry_eq]
  generalize (lg_sl ([.ref h0, .int p0]) ++ List.replicate (2 - (lg_sl ([.ref h0, .int p0])).length) Slot.unset).toArray = ls at hl ⊢
  have hl : lv_has ls 2 [(0, .ref h0), (1, .int p0)] := hl
  refine lv_iload_n hx hb dX11_later_0 rfl (lv_at hl 1 rfl) ?_
  refine lv_if_lt (tgt := 26) hx hb dX11_later_1 (by decide) (fun c_1 => ?_) (fun c_1 => ?_)
  · exact absurd c_1 h_nlt0
  · have c_1 : ¬ ((p0 : Int32) < 0) := c_1
    refine lv_iload_n hx hb dX11_later_4 rfl (lv_at hl 1 rfl) ?_
    refine lv_sipush (v := 1000) hx hb dX11_later_5 (by decide) ?_
    refine lv_icmp_gt (tgt := 26) hx hb dX11_later_8 (by decide) (fun c_2 => ?_) (fun c_2 => ?_)
    · exact absurd c_2 h_ngt1000
    · have c_2 : ¬ ((1000 : Int32) < p0) := c_2
      refine lv_aload_n hx hb dX11_later_11 rfl (lv_at hl 0 rfl) ?_
      refine va_get (D := D) (ci := 11) (v := .ref si) (C := RX11) (T := TX11) (N := 13) hx hb hg iX11 hown hK hP 0 rfl rfl 9 (by decide) (hg (Cond.fieldLink RX11 72 "SlabWalk" "sights" "LSlabWalk$Sights;") m579) (fun _ h9 => h9) g_F_sights dX11_later_12 ?_
      refine va_get (D := D) (ci := 8) (v := .int 0) (C := RX8) (T := TX8) (N := 7) hx hb hg iX8 hown hK hP 1 rfl rfl 6 (by decide) (hg (Cond.fieldLink RX11 278 "SlabWalk$Sights" "time" "I") m531) (fun _ h9 => h9) g_Z_time dX11_later_15 ?_
      refine lv_iload_n hx hb dX11_later_18 rfl (lv_at hl 1 rfl) ?_
      refine lv_iadd hx hb dX11_later_19 ?_
      refine lv_ldcw (v := 100000) hx hb hown (hg (Cond.constant RX11 281 100000) m1262) dX11_later_20 ?_
      refine lv_icmp_le (tgt := 28) hx hb dX11_later_23 (by decide) (fun c_3 => ?_) (fun c_3 => ?_)
      · have c_3 : (((0 : Int32) + p0) : Int32) ≤ 100000 := c_3
        refine lv_aload_n hx hb dX11_later_28 rfl (lv_at hl 0 rfl) ?_
        refine va_get (D := D) (ci := 11) (v := .ref si) (C := RX11) (T := TX11) (N := 13) hx hb hg iX11 hown hK hP 0 rfl rfl 9 (by decide) (hg (Cond.fieldLink RX11 72 "SlabWalk" "sights" "LSlabWalk$Sights;") m579) (fun _ h9 => h9) g_F_sights dX11_later_29 ?_
        refine lv_dup hx hb dX11_later_32 rfl ?_
        refine va_get (D := D) (ci := 8) (v := .int 0) (C := RX8) (T := TX8) (N := 7) hx hb hg iX8 hown hK hP 1 rfl rfl 6 (by decide) (hg (Cond.fieldLink RX11 278 "SlabWalk$Sights" "time" "I") m531) (fun _ h9 => h9) g_Z_time dX11_later_33 ?_
        refine lv_iload_n hx hb dX11_later_36 rfl (lv_at hl 1 rfl) ?_
        refine lv_iadd hx hb dX11_later_37 ?_
        refine va_put (D := D) (ci := 8) (v := .int ((0 : Int32) + p0)) (ty := .int) (C := RX8) (T := TX8) (N := 7) hx hb hg iX8 tyX8 tyX8_ok nmX8 hown hK hP hD hS 1 rfl rfl 6 (by decide) (hg (Cond.fieldLink RX11 278 "SlabWalk$Sights" "time" "I") m531) (fun _ h9 => h9) rfl (by decide +kernel) rfl rfl (fs_lt g_Z_time) dX11_later_38 (fun H locs hP hD hS => ?_)
        have hP : va_P D classes [(h0, .inr (11, F)), (si, .inr (8, (Z.set 6 (.int ((0 : Int32) + p0)))))] H := hP
        have hD : va_D A [(h0, .inr (11, F)), (si, .inr (8, (Z.set 6 (.int ((0 : Int32) + p0)))))] := hD
        refine lv_aload_n hx hb dX11_later_41 rfl (lv_at hl 0 rfl) ?_
        refine va_get (D := D) (ci := 11) (v := .ref si) (C := RX11) (T := TX11) (N := 13) hx hb hg iX11 hown hK hP 0 rfl rfl 9 (by decide) (hg (Cond.fieldLink RX11 72 "SlabWalk" "sights" "LSlabWalk$Sights;") m579) (fun _ h9 => h9) g_F_sights dX11_later_42 ?_
        refine va_get (D := D) (ci := 8) (v := .int ((0 : Int32) + p0)) (C := RX8) (T := TX8) (N := 7) hx hb hg iX8 hown hK hP 1 rfl rfl 6 (by decide) (hg (Cond.fieldLink RX11 278 "SlabWalk$Sights" "time" "I") m531) (fun _ h9 => h9) (fs_eq g_Z_time) dX11_later_45 ?_
        have hP9 := hP.sub (ws' := []) [] rfl
        have hD9 := hD.sub (ws' := []) [] (by decide) rfl
        exact W.iret (v := ((0 : Int32) + p0)) hx hb hr (fun t ht hW => ⟨⟨((0 : Int32) + p0), (), rfl, rfl, cB_of ht hP9 hD9⟩, hS.F ht⟩) hS.2.2 dX11_later_48
      · exact absurd (Int32.not_lt.mp h_nbig) c_3

set_option maxHeartbeats 4000000 in
set_option maxRecDepth 100000 in
theorem c_X11_end_a (l : Launch) (D : va_G) (k : ClassId × ClassId × ClassId × ClassId) (sz : Nat) (h0 : Nat) (F : List Value) (p0 : Int32) (g_F_taped : F[11]? = some (.int 0)) (h_lt0 : p0 < 0) : Met l yX11_end (WS yX11_end cX11_end 2 (some .int)) ({ frames := 0, cells := 0, slots := 0, locals := 0 }) (va_Pc [.ref h0, .int p0] (cP D k [(h0, .inr (11, F))] sz)) (va_Qi (fun (r : Int32) (_ : Unit) => r = (-1)) (fun (_ : Unit) t => cB D (va_A [(h0, .inr (11, F))] sz) [] t) (va_A [(h0, .inr (11, F))] sz)) 0 0 (va_A [(h0, .inr (11, F))] sz) := by
  refine Met.ofW (cc := cX11_end) (maxL := 2) (ret := (some .int)) (by decide) rfl ?_
  intro p e s m args below meth c s₁ B hml hv
  obtain ⟨rfl, hsz, hP, hKX, hD0⟩ := hv
  have hK := hKX.1
  have hx := B.exec
  have hb := B.bytes
  have hr := B.returns
  have hts := atoms_spec (ws := WS yX11_end cX11_end 2 (some .int)) B.pre
  have hgd : ∀ w ∈ gd, w ∈ WS yX11_end cX11_end 2 (some .int) := fun w h => List.mem_cons_of_mem _ h
  have hg : ∀ w ∈ gd, w.before _ s = true := fun w h => hts w (hgd w h)
  have hown : s.vm.findClass RX11 = some m.cls := findClass_of_methodNamed B.named
  have hlocks := B.notSynchronized
  subst hsz
  have hD := hD0.self (sz := s.heap.size)
  generalize hAe : va_A [(h0, .inr (11, F))] s.heap.size = A at hD ⊢
  have hA : ∀ q : Nat, s.heap.size ≤ q → A q := fun q h => by rw [← hAe]; exact Or.inr h
  have hS : va_S A s.heap s.heap [] := va_S.rf
  have hP : va_P D classes [(h0, .inr (11, F))] s.heap := hP
  have hl := lv_entry ([.ref h0, .int p0]) (n := 2) (Nat.le_of_ble_eq_true rfl)
  rw [lg_entry_eq]
  generalize (lg_sl ([.ref h0, .int p0]) ++ List.replicate (2 - (lg_sl ([.ref h0, .int p0])).length) Slot.unset).toArray = ls at hl ⊢
  have hl : lv_has ls 2 [(0, .ref h0), (1, .int p0)] := hl
  refine lv_iload_n hx hb dX11_end_0 rfl (lv_at hl 1 rfl) ?_
  refine lv_if_lt (tgt := 12) hx hb dX11_end_1 (by decide) (fun c_1 => ?_) (fun c_1 => ?_)
  · have c_1 : (p0 : Int32) < 0 := c_1
    refine lv_iconst (v := (-1)) hx hb dX11_end_12 (by decide) ?_
    have hP9 := hP.sub (ws' := []) [] rfl
    have hD9 := hD.sub (ws' := []) [] (by decide) rfl
    exact W.iret (v := (-1)) hx hb hr (fun t ht hW => ⟨⟨(-1), (), rfl, rfl, cB_of ht hP9 hD9⟩, hS.F ht⟩) hS.2.2 dX11_end_13
  · exact absurd h_lt0 c_1

set_option maxHeartbeats 4000000 in
set_option maxRecDepth 100000 in
theorem c_X11_end_b (l : Launch) (D : va_G) (k : ClassId × ClassId × ClassId × ClassId) (sz : Nat) (h0 : Nat) (F : List Value) (p0 : Int32) (g_F_taped : F[11]? = some (.int 0)) (h_nlt0 : ¬ (p0 < 0)) (h_gt0 : 0 < p0) : Met l yX11_end (WS yX11_end cX11_end 2 (some .int)) ({ frames := 0, cells := 0, slots := 0, locals := 0 }) (va_Pc [.ref h0, .int p0] (cP D k [(h0, .inr (11, F))] sz)) (va_Qi (fun (r : Int32) (_ : Unit) => r = (-1)) (fun (_ : Unit) t => cB D (va_A [(h0, .inr (11, F))] sz) [] t) (va_A [(h0, .inr (11, F))] sz)) 0 0 (va_A [(h0, .inr (11, F))] sz) := by
  refine Met.ofW (cc := cX11_end) (maxL := 2) (ret := (some .int)) (by decide) rfl ?_
  intro p e s m args below meth c s₁ B hml hv
  obtain ⟨rfl, hsz, hP, hKX, hD0⟩ := hv
  have hK := hKX.1
  have hx := B.exec
  have hb := B.bytes
  have hr := B.returns
  have hts := atoms_spec (ws := WS yX11_end cX11_end 2 (some .int)) B.pre
  have hgd : ∀ w ∈ gd, w ∈ WS yX11_end cX11_end 2 (some .int) := fun w h => List.mem_cons_of_mem _ h
  have hg : ∀ w ∈ gd, w.before _ s = true := fun w h => hts w (hgd w h)
  have hown : s.vm.findClass RX11 = some m.cls := findClass_of_methodNamed B.named
  have hlocks := B.notSynchronized
  subst hsz
  have hD := hD0.self (sz := s.heap.size)
  generalize hAe : va_A [(h0, .inr (11, F))] s.heap.size = A at hD ⊢
  have hA : ∀ q : Nat, s.heap.size ≤ q → A q := fun q h => by rw [← hAe]; exact Or.inr h
  have hS : va_S A s.heap s.heap [] := va_S.rf
  have hP : va_P D classes [(h0, .inr (11, F))] s.heap := hP
  have hl := lv_entry ([.ref h0, .int p0]) (n := 2) (Nat.le_of_ble_eq_true rfl)
  rw [lg_entry_eq]
  generalize (lg_sl ([.ref h0, .int p0]) ++ List.replicate (2 - (lg_sl ([.ref h0, .int p0])).length) Slot.unset).toArray = ls at hl ⊢
  have hl : lv_has ls 2 [(0, .ref h0), (1, .int p0)] := hl
  refine lv_iload_n hx hb dX11_end_0 rfl (lv_at hl 1 rfl) ?_
  refine lv_if_lt (tgt := 12) hx hb dX11_end_1 (by decide) (fun c_1 => ?_) (fun c_1 => ?_)
  · exact absurd c_1 h_nlt0
  · have c_1 : ¬ ((p0 : Int32) < 0) := c_1
    refine lv_iload_n hx hb dX11_end_4 rfl (lv_at hl 1 rfl) ?_
    refine lv_aload_n hx hb dX11_end_5 rfl (lv_at hl 0 rfl) ?_
    refine va_get (D := D) (ci := 11) (v := .int 0) (C := RX11) (T := TX11) (N := 13) hx hb hg iX11 hown hK hP 0 rfl rfl 11 (by decide) (hg (Cond.fieldLink RX11 83 "SlabWalk" "taped" "I") m581) (fun _ h9 => h9) g_F_taped dX11_end_6 ?_
    refine lv_icmp_le (tgt := 14) hx hb dX11_end_9 (by decide) (fun c_2 => ?_) (fun c_2 => ?_)
    · exact absurd c_2 (Int32.not_le.mpr h_gt0)
    · have c_2 : ¬ ((p0 : Int32) ≤ 0) := c_2
      refine lv_iconst (v := (-1)) hx hb dX11_end_12 (by decide) ?_
      have hP9 := hP.sub (ws' := []) [] rfl
      have hD9 := hD.sub (ws' := []) [] (by decide) rfl
      exact W.iret (v := (-1)) hx hb hr (fun t ht hW => ⟨⟨(-1), (), rfl, rfl, cB_of ht hP9 hD9⟩, hS.F ht⟩) hS.2.2 dX11_end_13

set_option maxHeartbeats 4000000 in
set_option maxRecDepth 100000 in
theorem c_X11_end_c (l : Launch) (D : va_G) (k : ClassId × ClassId × ClassId × ClassId) (sz : Nat) (h0 : Nat) (F : List Value) (p0 : Int32) (g_F_taped : F[11]? = some (.int 0)) (h_nlt0 : ¬ (p0 < 0)) (h_ngt0 : ¬ (0 < p0)) : Met l yX11_end (WS yX11_end cX11_end 2 (some .int)) ({ frames := 0, cells := 0, slots := 0, locals := 0 }) (va_Pc [.ref h0, .int p0] (cP D k [(h0, .inr (11, F))] sz)) (va_Qi (fun (r : Int32) (_ : Unit) => r = p0) (fun (_ : Unit) t => cB D (va_A [(h0, .inr (11, F))] sz) [] t) (va_A [(h0, .inr (11, F))] sz)) 0 0 (va_A [(h0, .inr (11, F))] sz) := by
  refine Met.ofW (cc := cX11_end) (maxL := 2) (ret := (some .int)) (by decide) rfl ?_
  intro p e s m args below meth c s₁ B hml hv
  obtain ⟨rfl, hsz, hP, hKX, hD0⟩ := hv
  have hK := hKX.1
  have hx := B.exec
  have hb := B.bytes
  have hr := B.returns
  have hts := atoms_spec (ws := WS yX11_end cX11_end 2 (some .int)) B.pre
  have hgd : ∀ w ∈ gd, w ∈ WS yX11_end cX11_end 2 (some .int) := fun w h => List.mem_cons_of_mem _ h
  have hg : ∀ w ∈ gd, w.before _ s = true := fun w h => hts w (hgd w h)
  have hown : s.vm.findClass RX11 = some m.cls := findClass_of_methodNamed B.named
  have hlocks := B.notSynchronized
  subst hsz
  have hD := hD0.self (sz := s.heap.size)
  generalize hAe : va_A [(h0, .inr (11, F))] s.heap.size = A at hD ⊢
  have hA : ∀ q : Nat, s.heap.size ≤ q → A q := fun q h => by rw [← hAe]; exact Or.inr h
  have hS : va_S A s.heap s.heap [] := va_S.rf
  have hP : va_P D classes [(h0, .inr (11, F))] s.heap := hP
  have hl := lv_entry ([.ref h0, .int p0]) (n := 2) (Nat.le_of_ble_eq_true rfl)
  rw [lg_entry_eq]
  generalize (lg_sl ([.ref h0, .int p0]) ++ List.replicate (2 - (lg_sl ([.ref h0, .int p0])).length) Slot.unset).toArray = ls at hl ⊢
  have hl : lv_has ls 2 [(0, .ref h0), (1, .int p0)] := hl
  refine lv_iload_n hx hb dX11_end_0 rfl (lv_at hl 1 rfl) ?_
  refine lv_if_lt (tgt := 12) hx hb dX11_end_1 (by decide) (fun c_1 => ?_) (fun c_1 => ?_)
  · exact absurd c_1 h_nlt0
  · have c_1 : ¬ ((p0 : Int32) < 0) := c_1
    refine lv_iload_n hx hb dX11_end_4 rfl (lv_at hl 1 rfl) ?_
    refine lv_aload_n hx hb dX11_end_5 rfl (lv_at hl 0 rfl) ?_
    refine va_get (D := D) (ci := 11) (v := .int 0) (C := RX11) (T := TX11) (N := 13) hx hb hg iX11 hown hK hP 0 rfl rfl 11 (by decide) (hg (Cond.fieldLink RX11 83 "SlabWalk" "taped" "I") m581) (fun _ h9 => h9) g_F_taped dX11_end_6 ?_
    refine lv_icmp_le (tgt := 14) hx hb dX11_end_9 (by decide) (fun c_2 => ?_) (fun c_2 => ?_)
    · have c_2 : (p0 : Int32) ≤ 0 := c_2
      refine lv_aload_n hx hb dX11_end_14 rfl (lv_at hl 0 rfl) ?_
      refine lv_iload_n hx hb dX11_end_15 rfl (lv_at hl 1 rfl) ?_
      refine va_put (D := D) (ci := 11) (v := .int p0) (ty := .int) (C := RX11) (T := TX11) (N := 13) hx hb hg iX11 tyX11 tyX11_ok nmX11 hown hK hP hD hS 0 rfl rfl 11 (by decide) (hg (Cond.fieldLink RX11 83 "SlabWalk" "taped" "I") m581) (fun _ h9 => h9) rfl (by decide +kernel) rfl rfl (fs_lt g_F_taped) dX11_end_16 (fun H locs hP hD hS => ?_)
      have hP : va_P D classes [(h0, .inr (11, (F.set 11 (.int p0))))] H := hP
      have hD : va_D A [(h0, .inr (11, (F.set 11 (.int p0))))] := hD
      refine lv_iload_n hx hb dX11_end_19 rfl (lv_at hl 1 rfl) ?_
      have hP9 := hP.sub (ws' := []) [] rfl
      have hD9 := hD.sub (ws' := []) [] (by decide) rfl
      exact W.iret (v := p0) hx hb hr (fun t ht hW => ⟨⟨p0, (), rfl, rfl, cB_of ht hP9 hD9⟩, hS.F ht⟩) hS.2.2 dX11_end_20
    · exact absurd (Int32.not_lt.mp h_ngt0) c_2

set_option maxHeartbeats 4000000 in
set_option maxRecDepth 100000 in
theorem c_X11_fault (l : Launch) (D : va_G) (k : ClassId × ClassId × ClassId × ClassId) (sz : Nat) (h0 rd tk : Nat) (F Rd K : List Value) (p0 : Int32) (g_F_reader : F[3]? = some (.ref rd)) (g_Rd_tokens : Rd[0]? = some (.ref tk)) (g_K_fault : K[7]? = some (.int 0)) (g_K_faultPlace : K[8]? = some (.int (-1))) : Met l yX11_fault (WS yX11_fault cX11_fault 2 (some .int)) ({ frames := 0, cells := 0, slots := 0, locals := 0 }) (va_Pc [.ref h0, .int p0] (cP D k [(h0, .inr (11, F)), (rd, .inr (7, Rd)), (tk, .inr (9, K))] sz)) (va_Qi (fun (r : Int32) (_ : Unit) => r = s_fault p0) (fun (_ : Unit) t => cB D (va_A [(h0, .inr (11, F)), (rd, .inr (7, Rd)), (tk, .inr (9, K))] sz) [] t) (va_A [(h0, .inr (11, F)), (rd, .inr (7, Rd)), (tk, .inr (9, K))] sz)) 0 0 (va_A [(h0, .inr (11, F)), (rd, .inr (7, Rd)), (tk, .inr (9, K))] sz) := by
  refine Met.ofW (cc := cX11_fault) (maxL := 2) (ret := (some .int)) (by decide) rfl ?_
  intro p e s m args below meth c s₁ B hml hv
  obtain ⟨rfl, hsz, hP, hKX, hD0⟩ := hv
  have hK := hKX.1
  have hx := B.exec
  have hb := B.bytes
  have hr := B.returns
  have hts := atoms_spec (ws := WS yX11_fault cX11_fault 2 (some .int)) B.pre
  have hgd : ∀ w ∈ gd, w ∈ WS yX11_fault cX11_fault 2 (some .int) := fun w h => List.mem_cons_of_mem _ h
  have hg : ∀ w ∈ gd, w.before _ s = true := fun w h => hts w (hgd w h)
  have hown : s.vm.findClass RX11 = some m.cls := findClass_of_methodNamed B.named
  have hlocks := B.notSynchronized
  subst hsz
  have hD := hD0.self (sz := s.heap.size)
  generalize hAe : va_A [(h0, .inr (11, F)), (rd, .inr (7, Rd)), (tk, .inr (9, K))] s.heap.size = A at hD ⊢
  have hA : ∀ q : Nat, s.heap.size ≤ q → A q := fun q h => by rw [← hAe]; exact Or.inr h
  have hS : va_S A s.heap s.heap [] := va_S.rf
  have hP : va_P D classes [(h0, .inr (11, F)), (rd, .inr (7, Rd)), (tk, .inr (9, K))] s.heap := hP
  have hl := lv_entry ([.ref h0, .int p0]) (n := 2) (Nat.le_of_ble_eq_true rfl)
  rw [lg_entry_eq]
  generalize (lg_sl ([.ref h0, .int p0]) ++ List.replicate (2 - (lg_sl ([.ref h0, .int p0])).length) Slot.unset).toArray = ls at hl ⊢
  have hl : lv_has ls 2 [(0, .ref h0), (1, .int p0)] := hl
  refine lv_iload_n hx hb dX11_fault_0 rfl (lv_at hl 1 rfl) ?_
  refine lv_if_ne (tgt := 17) hx hb dX11_fault_1 (by decide) (fun c_1 => ?_) (fun c_1 => ?_)
  · have c_1 : ¬ ((p0 : Int32) = 0) := c_1
    refine lv_iload_n hx hb dX11_fault_17 rfl (lv_at hl 1 rfl) ?_
    refine lv_iconst (v := 1) hx hb dX11_fault_18 (by decide) ?_
    refine lv_icmp_ne (tgt := 35) hx hb dX11_fault_19 (by decide) (fun c_2 => ?_) (fun c_2 => ?_)
    · have c_2 : ¬ ((p0 : Int32) = 1) := c_2
      refine lv_iconst (v := (-1)) hx hb dX11_fault_35 (by decide) ?_
      have hP9 := hP.sub (ws' := []) [] rfl
      have hD9 := hD.sub (ws' := []) [] (by decide) rfl
      exact W.iret (v := (-1)) hx hb hr (fun t ht hW => ⟨⟨(-1), (), rfl, by simp [s_fault, c_1, c_2], cB_of ht hP9 hD9⟩, hS.F ht⟩) hS.2.2 dX11_fault_36
    · have c_2 : (p0 : Int32) = 1 := c_2
      refine lv_aload_n hx hb dX11_fault_22 rfl (lv_at hl 0 rfl) ?_
      refine va_get (D := D) (ci := 11) (v := .ref rd) (C := RX11) (T := TX11) (N := 13) hx hb hg iX11 hown hK hP 0 rfl rfl 3 (by decide) (hg (Cond.fieldLink RX11 28 "SlabWalk" "reader" "LSlabWalk$Reader;") m573) (fun _ h9 => h9) g_F_reader dX11_fault_23 ?_
      refine va_get (D := D) (ci := 7) (v := .ref tk) (C := RX7) (T := TX7) (N := 10) hx hb hg iX7 hown hK hP 1 rfl rfl 0 (by decide) (hg (Cond.fieldLink RX11 98 "SlabWalk$Reader" "tokens" "LSlabWalk$Tokens;") m312) (fun _ h9 => h9) g_Rd_tokens dX11_fault_26 ?_
      refine va_get (D := D) (ci := 9) (v := .int (-1)) (C := RX9) (T := TX9) (N := 9) hx hb hg iX9 hown hK hP 2 rfl rfl 8 (by decide) (hg (Cond.fieldLink RX11 107 "SlabWalk$Tokens" "faultPlace" "I") m273) (fun _ h9 => h9) g_K_faultPlace dX11_fault_29 ?_
      refine lv_goto (tgt := 36) hx hb dX11_fault_32 (by decide) ?_
      have hP9 := hP.sub (ws' := []) [] rfl
      have hD9 := hD.sub (ws' := []) [] (by decide) rfl
      exact W.iret (v := (-1)) hx hb hr (fun t ht hW => ⟨⟨(-1), (), rfl, by simp [s_fault, c_1, c_2], cB_of ht hP9 hD9⟩, hS.F ht⟩) hS.2.2 dX11_fault_36
  · have c_1 : (p0 : Int32) = 0 := c_1
    refine lv_aload_n hx hb dX11_fault_4 rfl (lv_at hl 0 rfl) ?_
    refine va_get (D := D) (ci := 11) (v := .ref rd) (C := RX11) (T := TX11) (N := 13) hx hb hg iX11 hown hK hP 0 rfl rfl 3 (by decide) (hg (Cond.fieldLink RX11 28 "SlabWalk" "reader" "LSlabWalk$Reader;") m573) (fun _ h9 => h9) g_F_reader dX11_fault_5 ?_
    refine va_get (D := D) (ci := 7) (v := .ref tk) (C := RX7) (T := TX7) (N := 10) hx hb hg iX7 hown hK hP 1 rfl rfl 0 (by decide) (hg (Cond.fieldLink RX11 98 "SlabWalk$Reader" "tokens" "LSlabWalk$Tokens;") m312) (fun _ h9 => h9) g_Rd_tokens dX11_fault_8 ?_
    refine va_get (D := D) (ci := 9) (v := .int 0) (C := RX9) (T := TX9) (N := 9) hx hb hg iX9 hown hK hP 2 rfl rfl 7 (by decide) (hg (Cond.fieldLink RX11 102 "SlabWalk$Tokens" "fault" "I") m271) (fun _ h9 => h9) g_K_fault dX11_fault_11 ?_
    refine lv_goto (tgt := 36) hx hb dX11_fault_14 (by decide) ?_
    have hP9 := hP.sub (ws' := []) [] rfl
    have hD9 := hD.sub (ws' := []) [] (by decide) rfl
    exact W.iret (v := 0) hx hb hr (fun t ht hW => ⟨⟨0, (), rfl, by simp [s_fault, c_1], cB_of ht hP9 hD9⟩, hS.F ht⟩) hS.2.2 dX11_fault_36

set_option maxHeartbeats 4000000 in
set_option maxRecDepth 100000 in
theorem c_X11_today (l : Launch) (D : va_G) (k : ClassId × ClassId × ClassId × ClassId) (sz : Nat) (h0 ea nw : Nat) (F E : List Value) (f1 : Nat → Int32) (v : Int32) (g_F_earnest : F[8]? = some (.ref ea)) (g_E_now : E[0]? = some (.ref nw)) (g_f1__6 : f1 6 = v) : Met l yX11_today (WS yX11_today cX11_today 1 (some .int)) ({ frames := 0, cells := 0, slots := 0, locals := 0 }) (va_Pc [.ref h0] (cP D k [(h0, .inr (11, F)), (ea, .inr (1, E)), (nw, .inl (k.2.1, 10, .inl f1))] sz)) (va_Qi (fun (r : Int32) (_ : Unit) => r = v) (fun (_ : Unit) t => cB D (va_A [(h0, .inr (11, F)), (ea, .inr (1, E)), (nw, .inl (k.2.1, 10, .inl f1))] sz) [(h0, .inr (11, F)), (ea, .inr (1, E)), (nw, .inl (k.2.1, 10, .inl f1))] t) (va_A [(h0, .inr (11, F)), (ea, .inr (1, E)), (nw, .inl (k.2.1, 10, .inl f1))] sz)) 0 0 (va_A [(h0, .inr (11, F)), (ea, .inr (1, E)), (nw, .inl (k.2.1, 10, .inl f1))] sz) := by
  refine Met.ofW (cc := cX11_today) (maxL := 1) (ret := (some .int)) (by decide) rfl ?_
  intro p e s m args below meth c s₁ B hml hv
  obtain ⟨rfl, hsz, hP, hKX, hD0⟩ := hv
  have hK := hKX.1
  have hx := B.exec
  have hb := B.bytes
  have hr := B.returns
  have hts := atoms_spec (ws := WS yX11_today cX11_today 1 (some .int)) B.pre
  have hgd : ∀ w ∈ gd, w ∈ WS yX11_today cX11_today 1 (some .int) := fun w h => List.mem_cons_of_mem _ h
  have hg : ∀ w ∈ gd, w.before _ s = true := fun w h => hts w (hgd w h)
  have hown : s.vm.findClass RX11 = some m.cls := findClass_of_methodNamed B.named
  have hlocks := B.notSynchronized
  subst hsz
  have hD := hD0.self (sz := s.heap.size)
  generalize hAe : va_A [(h0, .inr (11, F)), (ea, .inr (1, E)), (nw, .inl (k.2.1, 10, .inl f1))] s.heap.size = A at hD ⊢
  have hA : ∀ q : Nat, s.heap.size ≤ q → A q := fun q h => by rw [← hAe]; exact Or.inr h
  have hS : va_S A s.heap s.heap [] := va_S.rf
  have hP : va_P D classes [(h0, .inr (11, F)), (ea, .inr (1, E)), (nw, .inl (k.2.1, 10, .inl f1))] s.heap := hP
  have hl := lv_entry ([.ref h0]) (n := 1) (Nat.le_of_ble_eq_true rfl)
  rw [lg_entry_eq]
  generalize (lg_sl ([.ref h0]) ++ List.replicate (1 - (lg_sl ([.ref h0])).length) Slot.unset).toArray = ls at hl ⊢
  have hl : lv_has ls 1 [(0, .ref h0)] := hl
  refine lv_aload_n hx hb dX11_today_0 rfl (lv_at hl 0 rfl) ?_
  refine va_get (D := D) (ci := 11) (v := .ref ea) (C := RX11) (T := TX11) (N := 13) hx hb hg iX11 hown hK hP 0 rfl rfl 8 (by decide) (hg (Cond.fieldLink RX11 65 "SlabWalk" "earnest" "LSlabWalk$Earnest;") m578) (fun _ h9 => h9) g_F_earnest dX11_today_1 ?_
  refine va_get (D := D) (ci := 1) (v := .ref nw) (C := RX1) (T := TX1) (N := 6) hx hb hg iX1 hown hK hP 1 rfl rfl 0 (by decide) (hg (Cond.fieldLink RX11 246 "SlabWalk$Earnest" "now" "[I") m493) (fun _ h9 => h9) g_E_now dX11_today_4 ?_
  refine lv_bipush (v := 6) hx hb dX11_today_7 (by decide) ?_
  refine va_iald hx hb hK hP 2 1 rfl rfl (show ¬ ((6 : Int32) < 0 ∨ 10 ≤ (6 : Int32).toNatClampNeg) from by decide +kernel) dX11_today_9 ?_
  refine lv_topi (fun y_1 ey_1 => ?_)
  have ey_1 := ey_1.trans (g_f1__6)
  rw [ey_1]
  have hP9 := hP.sub (ws' := [(h0, .inr (11, F)), (ea, .inr (1, E)), (nw, .inl (k.2.1, 10, .inl f1))]) [0, 1, 2] rfl
  have hD9 := hD.sub (ws' := [(h0, .inr (11, F)), (ea, .inr (1, E)), (nw, .inl (k.2.1, 10, .inl f1))]) [0, 1, 2] (by decide) rfl
  exact W.iret (v := v) hx hb hr (fun t ht hW => ⟨⟨v, (), rfl, rfl, cB_of ht hP9 hD9⟩, hS.F ht⟩) hS.2.2 dX11_today_10

set_option maxHeartbeats 4000000 in
set_option maxRecDepth 100000 in
theorem c_X1_keepAct (l : Launch) (D : va_G) (k : ClassId × ClassId × ClassId × ClassId) (sz : Nat) (h0 nw kp bx : Nat) (E : List Value) (f1 : Nat → Int32) (f2 : Nat → Int32) (g_E_now : E[0]? = some (.ref nw)) (g_E_kept : E[1]? = some (.ref kp)) (g_E_boxes : E[2]? = some (.ref bx)) (g_E_done : E[4]? = some (.int 0)) (g_E_undone : E[5]? = some (.int 0)) : Met l yX1_keepAct (WS yX1_keepAct cX1_keepAct 1 none) ({ frames := 1, cells := 0, slots := 0, locals := 40 }) (va_Pc [.ref h0] (cP D k [(h0, .inr (1, E)), (nw, .inl (k.2.1, 10, .inl f1)), (kp, .inl (k.2.1, 410, .inl f2))] sz)) (va_Qv (fun _ : Unit => True) (fun (_ : Unit) t => ∃ (E2 : List Value), E2[0]? = some (.ref nw) ∧ cB D (va_A [(h0, .inr (1, E)), (nw, .inl (k.2.1, 10, .inl f1)), (kp, .inl (k.2.1, 410, .inl f2))] sz) [(h0, .inr (1, E2)), (nw, .inl (k.2.1, 10, .inl f1))] t) (va_A [(h0, .inr (1, E)), (nw, .inl (k.2.1, 10, .inl f1)), (kp, .inl (k.2.1, 410, .inl f2))] sz)) 0 0 (va_A [(h0, .inr (1, E)), (nw, .inl (k.2.1, 10, .inl f1)), (kp, .inl (k.2.1, 410, .inl f2))] sz) := by
  refine Met.ofW (cc := cX1_keepAct) (maxL := 1) (ret := none) (by decide) rfl ?_
  intro p e s m args below meth c s₁ B hml hv
  obtain ⟨rfl, hsz, hP, hKX, hD0⟩ := hv
  have hK := hKX.1
  have hx := B.exec
  have hb := B.bytes
  have hr := B.returns
  have hts := atoms_spec (ws := WS yX1_keepAct cX1_keepAct 1 none) B.pre
  have hgd : ∀ w ∈ gd, w ∈ WS yX1_keepAct cX1_keepAct 1 none := fun w h => List.mem_cons_of_mem _ h
  have hg : ∀ w ∈ gd, w.before _ s = true := fun w h => hts w (hgd w h)
  have hown : s.vm.findClass RX1 = some m.cls := findClass_of_methodNamed B.named
  have hlocks := B.notSynchronized
  subst hsz
  have hD := hD0.self (sz := s.heap.size)
  generalize hAe : va_A [(h0, .inr (1, E)), (nw, .inl (k.2.1, 10, .inl f1)), (kp, .inl (k.2.1, 410, .inl f2))] s.heap.size = A at hD ⊢
  have hA : ∀ q : Nat, s.heap.size ≤ q → A q := fun q h => by rw [← hAe]; exact Or.inr h
  have hS : va_S A s.heap s.heap [] := va_S.rf
  have hP : va_P D classes [(h0, .inr (1, E)), (nw, .inl (k.2.1, 10, .inl f1)), (kp, .inl (k.2.1, 410, .inl f2))] s.heap := hP
  have hl := lv_entry ([.ref h0]) (n := 1) (Nat.le_of_ble_eq_true rfl)
  rw [lg_entry_eq]
  generalize (lg_sl ([.ref h0]) ++ List.replicate (1 - (lg_sl ([.ref h0])).length) Slot.unset).toArray = ls at hl ⊢
  have hl : lv_has ls 1 [(0, .ref h0)] := hl
  refine lv_aload_n hx hb dX1_keepAct_0 rfl (lv_at hl 0 rfl) ?_
  refine va_get (D := D) (ci := 1) (v := .int 0) (C := RX1) (T := TX1) (N := 6) hx hb hg iX1 hown hK hP 0 rfl rfl 4 (by decide) (hg (Cond.fieldLink RX1 34 "SlabWalk$Earnest" "done" "I") m497) (fun _ h9 => h9) g_E_done dX1_keepAct_1 ?_
  refine lv_bipush (v := 40) hx hb dX1_keepAct_4 (by decide) ?_
  refine lv_icmp_lt (tgt := 32) hx hb dX1_keepAct_6 (by decide) (fun c_1 => ?_) (fun c_1 => ?_)
  · have c_1 : (0 : Int32) < 40 := c_1
    refine lv_aload_n hx hb dX1_keepAct_32 rfl (lv_at hl 0 rfl) ?_
    refine lv_dup hx hb dX1_keepAct_33 rfl ?_
    refine va_get (D := D) (ci := 1) (v := .int 0) (C := RX1) (T := TX1) (N := 6) hx hb hg iX1 hown hK hP 0 rfl rfl 4 (by decide) (hg (Cond.fieldLink RX1 34 "SlabWalk$Earnest" "done" "I") m497) (fun _ h9 => h9) g_E_done dX1_keepAct_34 ?_
    refine lv_iconst (v := 1) hx hb dX1_keepAct_37 (by decide) ?_
    refine lv_iadd hx hb dX1_keepAct_38 ?_
    refine lv_topi (fun y_2 ey_2 => ?_)
    obtain rfl : y_2 = 1 := ey_2.trans (by decide)
    refine va_put (D := D) (ci := 1) (v := .int 1) (ty := .int) (C := RX1) (T := TX1) (N := 6) hx hb hg iX1 tyX1 tyX1_ok nmX1 hown hK hP hD hS 0 rfl rfl 4 (by decide) (hg (Cond.fieldLink RX1 34 "SlabWalk$Earnest" "done" "I") m497) (fun _ h9 => h9) rfl (by decide +kernel) rfl rfl (fs_lt g_E_done) dX1_keepAct_39 (fun H locs hP hD hS => ?_)
    have hP : va_P D classes [(h0, .inr (1, (E.set 4 (.int 1)))), (nw, .inl (k.2.1, 10, .inl f1)), (kp, .inl (k.2.1, 410, .inl f2))] H := hP
    have hD : va_D A [(h0, .inr (1, (E.set 4 (.int 1)))), (nw, .inl (k.2.1, 10, .inl f1)), (kp, .inl (k.2.1, 410, .inl f2))] := hD
    refine lv_aload_n hx hb dX1_keepAct_42 rfl (lv_at hl 0 rfl) ?_
    refine lv_iconst (v := 0) hx hb dX1_keepAct_43 (by decide) ?_
    refine va_put (D := D) (ci := 1) (v := .int 0) (ty := .int) (C := RX1) (T := TX1) (N := 6) hx hb hg iX1 tyX1 tyX1_ok nmX1 hown hK hP hD hS 0 rfl rfl 5 (by decide) (hg (Cond.fieldLink RX1 37 "SlabWalk$Earnest" "undone" "I") m499) (fun _ h9 => h9) rfl (by decide +kernel) rfl rfl (fs_lt (fs_ne g_E_undone (by decide))) dX1_keepAct_44 (fun H locs hP hD hS => ?_)
    have hP : va_P D classes [(h0, .inr (1, ((E.set 4 (.int 1)).set 5 (.int 0)))), (nw, .inl (k.2.1, 10, .inl f1)), (kp, .inl (k.2.1, 410, .inl f2))] H := hP
    have hD : va_D A [(h0, .inr (1, ((E.set 4 (.int 1)).set 5 (.int 0)))), (nw, .inl (k.2.1, 10, .inl f1)), (kp, .inl (k.2.1, 410, .inl f2))] := hD
    refine lv_aload_n hx hb dX1_keepAct_47 rfl (lv_at hl 0 rfl) ?_
    refine va_get (D := D) (ci := 1) (v := .ref nw) (C := RX1) (T := TX1) (N := 6) hx hb hg iX1 hown hK hP 0 rfl rfl 0 (by decide) (hg (Cond.fieldLink RX1 11 "SlabWalk$Earnest" "now" "[I") m492) (fun _ h9 => h9) (fs_ne (fs_ne g_E_now (by decide)) (by decide)) dX1_keepAct_48 ?_
    refine lv_iconst (v := 0) hx hb dX1_keepAct_51 (by decide) ?_
    refine lv_aload_n hx hb dX1_keepAct_52 rfl (lv_at hl 0 rfl) ?_
    refine va_get (D := D) (ci := 1) (v := .ref kp) (C := RX1) (T := TX1) (N := 6) hx hb hg iX1 hown hK hP 0 rfl rfl 1 (by decide) (hg (Cond.fieldLink RX1 15 "SlabWalk$Earnest" "kept" "[I") m494) (fun _ h9 => h9) (fs_ne (fs_ne g_E_kept (by decide)) (by decide)) dX1_keepAct_53 ?_
    refine lv_aload_n hx hb dX1_keepAct_56 rfl (lv_at hl 0 rfl) ?_
    refine va_get (D := D) (ci := 1) (v := .int 1) (C := RX1) (T := TX1) (N := 6) hx hb hg iX1 hown hK hP 0 rfl rfl 4 (by decide) (hg (Cond.fieldLink RX1 34 "SlabWalk$Earnest" "done" "I") m497) (fun _ h9 => h9) (fs_ne (fs_eq g_E_done) (by decide)) dX1_keepAct_57 ?_
    refine lv_bipush (v := 10) hx hb dX1_keepAct_60 (by decide) ?_
    refine lv_imul hx hb dX1_keepAct_62 ?_
    refine lv_topi (fun y_3 ey_3 => ?_)
    obtain rfl : y_3 = 10 := ey_3.trans (by decide)
    refine lv_bipush (v := 10) hx hb dX1_keepAct_63 (by decide) ?_
    refine va_copyi hx hb (by rw [hml]; exact hl.1.symm) hown (hg (Cond.methodLink RX1 40 arraycopyName) m567) (hg (Cond.native arraycopyName) m569) (hg (Cond.static arraycopyName) m568) (hg (Cond.initialized "java/lang/System") m130) hK hP hD hS 1 2 1 1 rfl rfl rfl rfl rfl (by decide) (by decide) (by decide) (by decide) (by decide) (fun _ _ => rfl) (Nat.le_of_ble_eq_true rfl) (by decide +kernel) dX1_keepAct_65 (fun H locs hP hD hS => ?_)
    have hP : va_P D classes [(h0, .inr (1, ((E.set 4 (.int 1)).set 5 (.int 0)))), (nw, .inl (k.2.1, 10, .inl f1)), (kp, .inl (k.2.1, 410, .inl (va_cpy f1 f2 (0 : Int32).toNatClampNeg (10 : Int32).toNatClampNeg (10 : Int32).toNatClampNeg)))] H := hP
    have hD : va_D A [(h0, .inr (1, ((E.set 4 (.int 1)).set 5 (.int 0)))), (nw, .inl (k.2.1, 10, .inl f1)), (kp, .inl (k.2.1, 410, .inl (va_cpy f1 f2 (0 : Int32).toNatClampNeg (10 : Int32).toNatClampNeg (10 : Int32).toNatClampNeg)))] := hD
    generalize (va_cpy f1 f2 (0 : Int32).toNatClampNeg (10 : Int32).toNatClampNeg (10 : Int32).toNatClampNeg) = f_4 at hP hD
    have hP9 := hP.sub (ws' := [(h0, .inr (1, ((E.set 4 (.int 1)).set 5 (.int 0)))), (nw, .inl (k.2.1, 10, .inl f1))]) [0, 1] rfl
    have hD9 := hD.sub (ws' := [(h0, .inr (1, ((E.set 4 (.int 1)).set 5 (.int 0)))), (nw, .inl (k.2.1, 10, .inl f1))]) [0, 1] (by decide) rfl
    exact W.vret hx hb hr (fun t ht hW => ⟨⟨(), rfl, trivial, ⟨((E.set 4 (.int 1)).set 5 (.int 0)), (fs_ne (fs_ne g_E_now (by decide)) (by decide)), cB_of ht hP9 hD9⟩⟩, hS.F ht⟩) hS.2.2 dX1_keepAct_68
  · exact absurd (by decide) c_1

set_option maxHeartbeats 4000000 in
set_option maxRecDepth 100000 in
theorem c_X11_rain (l : Launch) (D : va_G) (k : ClassId × ClassId × ClassId × ClassId) (sz : Nat) (h0 ea nw kp bx : Nat) (F E : List Value) (f1 : Nat → Int32) (f2 : Nat → Int32) (g_F_earnest : F[8]? = some (.ref ea)) (g_E_now : E[0]? = some (.ref nw)) (g_E_kept : E[1]? = some (.ref kp)) (g_E_boxes : E[2]? = some (.ref bx)) (g_E_done : E[4]? = some (.int 0)) (g_E_undone : E[5]? = some (.int 0)) (g_f1__0 : f1 0 = (-1)) (g_f1__4 : f1 4 = 0) (g_f1__5 : f1 5 = 0) (g_f1__6 : f1 6 = 0) (g_f1__7 : f1 7 = 0) (g_f1__8 : f1 8 = 0) (g_f1__9 : f1 9 = 0) : Met l yX11_rain (WS yX11_rain cX11_rain 1 (some .boolean)) ({ frames := 2, cells := 0, slots := 0, locals := 60 }) (va_Pc [.ref h0] (cP D k [(h0, .inr (11, F)), (ea, .inr (1, E)), (nw, .inl (k.2.1, 10, .inl f1)), (kp, .inl (k.2.1, 410, .inl f2))] sz)) (va_Qi (fun (r : Int32) (_ : Unit) => r = 1) (fun (_ : Unit) t => cB D (va_A [(h0, .inr (11, F)), (ea, .inr (1, E)), (nw, .inl (k.2.1, 10, .inl f1)), (kp, .inl (k.2.1, 410, .inl f2))] sz) [] t) (va_A [(h0, .inr (11, F)), (ea, .inr (1, E)), (nw, .inl (k.2.1, 10, .inl f1)), (kp, .inl (k.2.1, 410, .inl f2))] sz)) 0 0 (va_A [(h0, .inr (11, F)), (ea, .inr (1, E)), (nw, .inl (k.2.1, 10, .inl f1)), (kp, .inl (k.2.1, 410, .inl f2))] sz) := by
  refine Met.ofW (cc := cX11_rain) (maxL := 1) (ret := (some .boolean)) (by decide) rfl ?_
  intro p e s m args below meth c s₁ B hml hv
  obtain ⟨rfl, hsz, hP, hKX, hD0⟩ := hv
  have hK := hKX.1
  have hx := B.exec
  have hb := B.bytes
  have hr := B.returns
  have hts := atoms_spec (ws := WS yX11_rain cX11_rain 1 (some .boolean)) B.pre
  have hgd : ∀ w ∈ gd, w ∈ WS yX11_rain cX11_rain 1 (some .boolean) := fun w h => List.mem_cons_of_mem _ h
  have hg : ∀ w ∈ gd, w.before _ s = true := fun w h => hts w (hgd w h)
  have hown : s.vm.findClass RX11 = some m.cls := findClass_of_methodNamed B.named
  have hlocks := B.notSynchronized
  subst hsz
  have hD := hD0.self (sz := s.heap.size)
  generalize hAe : va_A [(h0, .inr (11, F)), (ea, .inr (1, E)), (nw, .inl (k.2.1, 10, .inl f1)), (kp, .inl (k.2.1, 410, .inl f2))] s.heap.size = A at hD ⊢
  have hA : ∀ q : Nat, s.heap.size ≤ q → A q := fun q h => by rw [← hAe]; exact Or.inr h
  have hS : va_S A s.heap s.heap [] := va_S.rf
  have hP : va_P D classes [(h0, .inr (11, F)), (ea, .inr (1, E)), (nw, .inl (k.2.1, 10, .inl f1)), (kp, .inl (k.2.1, 410, .inl f2))] s.heap := hP
  have hl := lv_entry ([.ref h0]) (n := 1) (Nat.le_of_ble_eq_true rfl)
  rw [lg_entry_eq]
  generalize (lg_sl ([.ref h0]) ++ List.replicate (1 - (lg_sl ([.ref h0])).length) Slot.unset).toArray = ls at hl ⊢
  have hl : lv_has ls 1 [(0, .ref h0)] := hl
  refine lv_aload_n hx hb dX11_rain_0 rfl (lv_at hl 0 rfl) ?_
  refine va_get (D := D) (ci := 11) (v := .ref ea) (C := RX11) (T := TX11) (N := 13) hx hb hg iX11 hown hK hP 0 rfl rfl 8 (by decide) (hg (Cond.fieldLink RX11 65 "SlabWalk" "earnest" "LSlabWalk$Earnest;") m578) (fun _ h9 => h9) g_F_earnest dX11_rain_1 ?_
  refine va_get (D := D) (ci := 1) (v := .ref nw) (C := RX1) (T := TX1) (N := 6) hx hb hg iX1 hown hK hP 1 rfl rfl 0 (by decide) (hg (Cond.fieldLink RX11 246 "SlabWalk$Earnest" "now" "[I") m493) (fun _ h9 => h9) g_E_now dX11_rain_4 ?_
  refine lv_bipush (v := 9) hx hb dX11_rain_7 (by decide) ?_
  refine lv_dup2_11 hx hb dX11_rain_9 rfl rfl ?_
  refine va_iald hx hb hK hP 2 1 rfl rfl (show ¬ ((9 : Int32) < 0 ∨ 10 ≤ (9 : Int32).toNatClampNeg) from by decide +kernel) dX11_rain_10 ?_
  refine lv_topi (fun y_1 ey_1 => ?_)
  obtain rfl : y_1 = 0 := ey_1.trans (g_f1__9)
  refine lv_iconst (v := 1) hx hb dX11_rain_11 (by decide) ?_
  refine lv_ixor hx hb dX11_rain_12 ?_
  refine lv_topi (fun y_2 ey_2 => ?_)
  obtain rfl : y_2 = 1 := ey_2.trans (by decide)
  refine va_iast hx hb hK hP hD hS 2 1 rfl rfl (show ¬ ((9 : Int32) < 0 ∨ 10 ≤ (9 : Int32).toNatClampNeg) from by decide +kernel) dX11_rain_13 (fun H locs hP hD hS => ?_)
  have hP : va_P D classes [(h0, .inr (11, F)), (ea, .inr (1, E)), (nw, .inl (k.2.1, 10, .inl (upd f1 9 1))), (kp, .inl (k.2.1, 410, .inl f2))] H := hP
  have hD : va_D A [(h0, .inr (11, F)), (ea, .inr (1, E)), (nw, .inl (k.2.1, 10, .inl (upd f1 9 1))), (kp, .inl (k.2.1, 410, .inl f2))] := hD
  have g_4 : (upd f1 9 1) 0 = (-1) := g_f1__0
  have g_5 : (upd f1 9 1) 4 = 0 := g_f1__4
  have g_6 : (upd f1 9 1) 5 = 0 := g_f1__5
  have g_7 : (upd f1 9 1) 6 = 0 := g_f1__6
  have g_8 : (upd f1 9 1) 7 = 0 := g_f1__7
  have g_9 : (upd f1 9 1) 8 = 0 := g_f1__8
  have g_10 : (upd f1 9 1) 9 = 1 := rfl
  generalize (upd f1 9 1) = f_3 at hP hD g_4 g_5 g_6 g_7 g_8 g_9 g_10
  refine lv_aload_n hx hb dX11_rain_14 rfl (lv_at hl 0 rfl) ?_
  refine va_get (D := D) (ci := 11) (v := .ref ea) (C := RX11) (T := TX11) (N := 13) hx hb hg iX11 hown hK hP 0 rfl rfl 8 (by decide) (hg (Cond.fieldLink RX11 65 "SlabWalk" "earnest" "LSlabWalk$Earnest;") m578) (fun _ h9 => h9) g_F_earnest dX11_rain_15 ?_
  have hPc := hP.sub (ws' := [(ea, .inr (1, E)), (nw, .inl (k.2.1, 10, .inl f_3)), (kp, .inl (k.2.1, 410, .inl f2))]) [1, 2, 3] rfl
  have hDc := hD.sub (ws' := [(ea, .inr (1, E)), (nw, .inl (k.2.1, 10, .inl f_3)), (kp, .inl (k.2.1, 410, .inl f2))]) [1, 2, 3] (by decide) rfl
  have hFc := va_free (wc := [(ea, .inr (1, E)), (nw, .inl (k.2.1, 10, .inl f_3)), (kp, .inl (k.2.1, 410, .inl f2))]) hD hS hA [1, 2, 3] rfl
  refine va_callv (va_runV (As := []) (rest := []) ⟨hx, hb, hml, hown, hts⟩ (c_X1_keepAct l D k H.size ea nw kp bx E f_3 f2 g_E_now g_E_kept g_E_boxes g_E_done g_E_undone) (cwV 0 hts (gd_V hgd m1178 m1179 m1180 m127 m1181) rfl rfl rfl (by decide +kernel) ⟨Nat.le_of_ble_eq_true rfl, Nat.le_of_ble_eq_true rfl⟩) (cP_V hPc hKX hDc (ci := 1) (q0 := 0) rfl rfl) rfl rfl hl.1 rfl (lv_room (Nat.le_of_ble_eq_true rfl)) dX11_rain_18 ⟨Nat.le_of_ble_eq_true rfl, Nat.le_of_ble_eq_true rfl⟩) hS (fun q _ h => hFc q h) hFc (fun u t H1 locs ht hvm hw hB hz1 hk1 hS => ?_)
  obtain ⟨z_12, g_13, hP1, hD1⟩ := hB
  rw [ht] at hP1
  obtain ⟨hP, hD⟩ := va_join (wr := [(h0, .inr (11, F))]) (w1 := [(ea, .inr (1, z_12)), (nw, .inl (k.2.1, 10, .inl f_3))]) hP hD [1, 2, 3] [0] rfl rfl (by decide) (by decide) hk1 hFc hP1 hD1
  generalize H1 = H at hP hS ⊢
  have hP : va_P D classes [(h0, .inr (11, F)), (ea, .inr (1, z_12)), (nw, .inl (k.2.1, 10, .inl f_3))] H := hP
  have hD : va_D A [(h0, .inr (11, F)), (ea, .inr (1, z_12)), (nw, .inl (k.2.1, 10, .inl f_3))] := hD
  refine W.widen (k := 0) (n := 0) (Nat.le_of_ble_eq_true rfl) (Nat.le_of_ble_eq_true rfl) ?_
  refine lv_aload_n hx hb dX11_rain_21 rfl (lv_at hl 0 rfl) ?_
  refine va_get (D := D) (ci := 11) (v := .ref ea) (C := RX11) (T := TX11) (N := 13) hx hb hg iX11 hown hK hP 0 rfl rfl 8 (by decide) (hg (Cond.fieldLink RX11 65 "SlabWalk" "earnest" "LSlabWalk$Earnest;") m578) (fun _ h9 => h9) g_F_earnest dX11_rain_22 ?_
  refine va_get (D := D) (ci := 1) (v := .ref nw) (C := RX1) (T := TX1) (N := 6) hx hb hg iX1 hown hK hP 1 rfl rfl 0 (by decide) (hg (Cond.fieldLink RX11 246 "SlabWalk$Earnest" "now" "[I") m493) (fun _ h9 => h9) g_13 dX11_rain_25 ?_
  refine lv_bipush (v := 9) hx hb dX11_rain_28 (by decide) ?_
  refine va_iald hx hb hK hP 2 1 rfl rfl (show ¬ ((9 : Int32) < 0 ∨ 10 ≤ (9 : Int32).toNatClampNeg) from by decide +kernel) dX11_rain_30 ?_
  refine lv_topi (fun y_14 ey_14 => ?_)
  obtain rfl : y_14 = 1 := ey_14.trans (g_10)
  refine lv_iconst (v := 1) hx hb dX11_rain_31 (by decide) ?_
  refine lv_icmp_ne (tgt := 39) hx hb dX11_rain_32 (by decide) (fun c_15 => ?_) (fun c_15 => ?_)
  · exact absurd (by decide) c_15
  · have c_15 : (1 : Int32) = 1 := c_15
    refine lv_iconst (v := 1) hx hb dX11_rain_35 (by decide) ?_
    refine lv_goto (tgt := 40) hx hb dX11_rain_36 (by decide) ?_
    have hP9 := hP.sub (ws' := []) [] rfl
    have hD9 := hD.sub (ws' := []) [] (by decide) rfl
    exact W.zret (v := 1) hx hb hr (by decide) (fun t ht hW => ⟨⟨1, (), rfl, rfl, cB_of ht hP9 hD9⟩, hS.F ht⟩) hS.2.2 dX11_rain_40

set_option maxHeartbeats 4000000 in
set_option maxRecDepth 100000 in
theorem c_X11_day (l : Launch) (D : va_G) (k : ClassId × ClassId × ClassId × ClassId) (sz : Nat) (h0 ea nw kp bx : Nat) (F E : List Value) (f1 : Nat → Int32) (f2 : Nat → Int32) (g_F_earnest : F[8]? = some (.ref ea)) (g_E_now : E[0]? = some (.ref nw)) (g_E_kept : E[1]? = some (.ref kp)) (g_E_boxes : E[2]? = some (.ref bx)) (g_E_done : E[4]? = some (.int 0)) (g_E_undone : E[5]? = some (.int 0)) (g_f1__0 : f1 0 = (-1)) (g_f1__4 : f1 4 = 0) (g_f1__5 : f1 5 = 0) (g_f1__6 : f1 6 = 0) (g_f1__7 : f1 7 = 0) (g_f1__8 : f1 8 = 0) (g_f1__9 : f1 9 = 0) : Met l yX11_day (WS yX11_day cX11_day 1 (some .int)) ({ frames := 2, cells := 0, slots := 0, locals := 60 }) (va_Pc [.ref h0] (cP D k [(h0, .inr (11, F)), (ea, .inr (1, E)), (nw, .inl (k.2.1, 10, .inl f1)), (kp, .inl (k.2.1, 410, .inl f2))] sz)) (va_Qi (fun (r : Int32) (_ : Unit) => r = 1) (fun (_ : Unit) t => cB D (va_A [(h0, .inr (11, F)), (ea, .inr (1, E)), (nw, .inl (k.2.1, 10, .inl f1)), (kp, .inl (k.2.1, 410, .inl f2))] sz) [] t) (va_A [(h0, .inr (11, F)), (ea, .inr (1, E)), (nw, .inl (k.2.1, 10, .inl f1)), (kp, .inl (k.2.1, 410, .inl f2))] sz)) 0 0 (va_A [(h0, .inr (11, F)), (ea, .inr (1, E)), (nw, .inl (k.2.1, 10, .inl f1)), (kp, .inl (k.2.1, 410, .inl f2))] sz) := by
  refine Met.ofW (cc := cX11_day) (maxL := 1) (ret := (some .int)) (by decide) rfl ?_
  intro p e s m args below meth c s₁ B hml hv
  obtain ⟨rfl, hsz, hP, hKX, hD0⟩ := hv
  have hK := hKX.1
  have hx := B.exec
  have hb := B.bytes
  have hr := B.returns
  have hts := atoms_spec (ws := WS yX11_day cX11_day 1 (some .int)) B.pre
  have hgd : ∀ w ∈ gd, w ∈ WS yX11_day cX11_day 1 (some .int) := fun w h => List.mem_cons_of_mem _ h
  have hg : ∀ w ∈ gd, w.before _ s = true := fun w h => hts w (hgd w h)
  have hown : s.vm.findClass RX11 = some m.cls := findClass_of_methodNamed B.named
  have hlocks := B.notSynchronized
  subst hsz
  have hD := hD0.self (sz := s.heap.size)
  generalize hAe : va_A [(h0, .inr (11, F)), (ea, .inr (1, E)), (nw, .inl (k.2.1, 10, .inl f1)), (kp, .inl (k.2.1, 410, .inl f2))] s.heap.size = A at hD ⊢
  have hA : ∀ q : Nat, s.heap.size ≤ q → A q := fun q h => by rw [← hAe]; exact Or.inr h
  have hS : va_S A s.heap s.heap [] := va_S.rf
  have hP : va_P D classes [(h0, .inr (11, F)), (ea, .inr (1, E)), (nw, .inl (k.2.1, 10, .inl f1)), (kp, .inl (k.2.1, 410, .inl f2))] s.heap := hP
  have hl := lv_entry ([.ref h0]) (n := 1) (Nat.le_of_ble_eq_true rfl)
  rw [lg_entry_eq]
  generalize (lg_sl ([.ref h0]) ++ List.replicate (1 - (lg_sl ([.ref h0])).length) Slot.unset).toArray = ls at hl ⊢
  have hl : lv_has ls 1 [(0, .ref h0)] := hl
  refine lv_aload_n hx hb dX11_day_0 rfl (lv_at hl 0 rfl) ?_
  have hPc := hP.sub (ws' := [(h0, .inr (11, F)), (ea, .inr (1, E)), (nw, .inl (k.2.1, 10, .inl f1))]) [0, 1, 2] rfl
  have hDc := hD.sub (ws' := [(h0, .inr (11, F)), (ea, .inr (1, E)), (nw, .inl (k.2.1, 10, .inl f1))]) [0, 1, 2] (by decide) rfl
  have hFc := va_free (wc := [(h0, .inr (11, F)), (ea, .inr (1, E)), (nw, .inl (k.2.1, 10, .inl f1))]) hD hS hA [0, 1, 2] rfl
  refine va_calli (va_runV (As := []) (rest := []) ⟨hx, hb, hml, hown, hts⟩ (c_X11_today l D k s.heap.size h0 ea nw F E f1 0 g_F_earnest g_E_now g_f1__6) (cwV 0 hts (gd_V hgd m911 m913 m27 m117 m914) rfl rfl rfl (by decide +kernel) ⟨Nat.le_of_ble_eq_true rfl, Nat.le_of_ble_eq_true rfl⟩) (cP_V hPc hKX hDc (ci := 11) (q0 := 0) rfl rfl) rfl rfl hl.1 rfl (lv_room (Nat.le_of_ble_eq_true rfl)) dX11_day_1 ⟨Nat.le_of_ble_eq_true rfl, Nat.le_of_ble_eq_true rfl⟩) hS (fun q _ h => hFc q h) hFc (fun r_1 u t H1 locs ht hvm hw hB hz1 hk1 hS => ?_)
  obtain ⟨hP1, hD1⟩ := hB
  rw [ht] at hP1
  obtain ⟨hP, hD⟩ := va_join (wr := [(kp, .inl (k.2.1, 410, .inl f2))]) (w1 := [(h0, .inr (11, F)), (ea, .inr (1, E)), (nw, .inl (k.2.1, 10, .inl f1))]) hP hD [0, 1, 2] [3] rfl rfl (by decide) (by decide) hk1 hFc hP1 hD1
  generalize H1 = H at hP hS ⊢
  have hP : va_P D classes [(kp, .inl (k.2.1, 410, .inl f2)), (h0, .inr (11, F)), (ea, .inr (1, E)), (nw, .inl (k.2.1, 10, .inl f1))] H := hP
  have hD : va_D A [(kp, .inl (k.2.1, 410, .inl f2)), (h0, .inr (11, F)), (ea, .inr (1, E)), (nw, .inl (k.2.1, 10, .inl f1))] := hD
  refine W.widen (k := 0) (n := 0) (Nat.le_of_ble_eq_true rfl) (Nat.le_of_ble_eq_true rfl) ?_
  subst hw
  refine lv_sipush (v := 1000) hx hb dX11_day_4 (by decide) ?_
  refine lv_icmp_lt (tgt := 12) hx hb dX11_day_7 (by decide) (fun c_2 => ?_) (fun c_2 => ?_)
  · have c_2 : (0 : Int32) < 1000 := c_2
    refine lv_aload_n hx hb dX11_day_12 rfl (lv_at hl 0 rfl) ?_
    refine va_get (D := D) (ci := 11) (v := .ref ea) (C := RX11) (T := TX11) (N := 13) hx hb hg iX11 hown hK hP 1 rfl rfl 8 (by decide) (hg (Cond.fieldLink RX11 65 "SlabWalk" "earnest" "LSlabWalk$Earnest;") m578) (fun _ h9 => h9) g_F_earnest dX11_day_13 ?_
    refine va_get (D := D) (ci := 1) (v := .ref nw) (C := RX1) (T := TX1) (N := 6) hx hb hg iX1 hown hK hP 2 rfl rfl 0 (by decide) (hg (Cond.fieldLink RX11 246 "SlabWalk$Earnest" "now" "[I") m493) (fun _ h9 => h9) g_E_now dX11_day_16 ?_
    refine lv_bipush (v := 6) hx hb dX11_day_19 (by decide) ?_
    refine lv_dup2_11 hx hb dX11_day_21 rfl rfl ?_
    refine va_iald hx hb hK hP 3 1 rfl rfl (show ¬ ((6 : Int32) < 0 ∨ 10 ≤ (6 : Int32).toNatClampNeg) from by decide +kernel) dX11_day_22 ?_
    refine lv_topi (fun y_3 ey_3 => ?_)
    obtain rfl : y_3 = 0 := ey_3.trans (g_f1__6)
    refine lv_iconst (v := 1) hx hb dX11_day_23 (by decide) ?_
    refine lv_iadd hx hb dX11_day_24 ?_
    refine lv_topi (fun y_4 ey_4 => ?_)
    obtain rfl : y_4 = 1 := ey_4.trans (by decide)
    refine va_iast hx hb hK hP hD hS 3 1 rfl rfl (show ¬ ((6 : Int32) < 0 ∨ 10 ≤ (6 : Int32).toNatClampNeg) from by decide +kernel) dX11_day_25 (fun H locs hP hD hS => ?_)
    have hP : va_P D classes [(kp, .inl (k.2.1, 410, .inl f2)), (h0, .inr (11, F)), (ea, .inr (1, E)), (nw, .inl (k.2.1, 10, .inl (upd f1 6 1)))] H := hP
    have hD : va_D A [(kp, .inl (k.2.1, 410, .inl f2)), (h0, .inr (11, F)), (ea, .inr (1, E)), (nw, .inl (k.2.1, 10, .inl (upd f1 6 1)))] := hD
    have g_6 : (upd f1 6 1) 0 = (-1) := g_f1__0
    have g_7 : (upd f1 6 1) 4 = 0 := g_f1__4
    have g_8 : (upd f1 6 1) 5 = 0 := g_f1__5
    have g_9 : (upd f1 6 1) 7 = 0 := g_f1__7
    have g_10 : (upd f1 6 1) 8 = 0 := g_f1__8
    have g_11 : (upd f1 6 1) 9 = 0 := g_f1__9
    have g_12 : (upd f1 6 1) 6 = 1 := rfl
    generalize (upd f1 6 1) = f_5 at hP hD g_6 g_7 g_8 g_9 g_10 g_11 g_12
    refine lv_aload_n hx hb dX11_day_26 rfl (lv_at hl 0 rfl) ?_
    refine va_get (D := D) (ci := 11) (v := .ref ea) (C := RX11) (T := TX11) (N := 13) hx hb hg iX11 hown hK hP 1 rfl rfl 8 (by decide) (hg (Cond.fieldLink RX11 65 "SlabWalk" "earnest" "LSlabWalk$Earnest;") m578) (fun _ h9 => h9) g_F_earnest dX11_day_27 ?_
    have hPc := hP.sub (ws' := [(ea, .inr (1, E)), (nw, .inl (k.2.1, 10, .inl f_5)), (kp, .inl (k.2.1, 410, .inl f2))]) [2, 3, 0] rfl
    have hDc := hD.sub (ws' := [(ea, .inr (1, E)), (nw, .inl (k.2.1, 10, .inl f_5)), (kp, .inl (k.2.1, 410, .inl f2))]) [2, 3, 0] (by decide) rfl
    have hFc := va_free (wc := [(ea, .inr (1, E)), (nw, .inl (k.2.1, 10, .inl f_5)), (kp, .inl (k.2.1, 410, .inl f2))]) hD hS hA [2, 3, 0] rfl
    refine va_callv (va_runV (As := []) (rest := []) ⟨hx, hb, hml, hown, hts⟩ (c_X1_keepAct l D k H.size ea nw kp bx E f_5 f2 g_E_now g_E_kept g_E_boxes g_E_done g_E_undone) (cwV 0 hts (gd_V hgd m1178 m1179 m1180 m127 m1181) rfl rfl rfl (by decide +kernel) ⟨Nat.le_of_ble_eq_true rfl, Nat.le_of_ble_eq_true rfl⟩) (cP_V hPc hKX hDc (ci := 1) (q0 := 0) rfl rfl) rfl rfl hl.1 rfl (lv_room (Nat.le_of_ble_eq_true rfl)) dX11_day_30 ⟨Nat.le_of_ble_eq_true rfl, Nat.le_of_ble_eq_true rfl⟩) hS (fun q _ h => hFc q h) hFc (fun u t H1 locs ht hvm hw hB hz1 hk1 hS => ?_)
    obtain ⟨z_14, g_15, hP1, hD1⟩ := hB
    rw [ht] at hP1
    obtain ⟨hP, hD⟩ := va_join (wr := [(h0, .inr (11, F))]) (w1 := [(ea, .inr (1, z_14)), (nw, .inl (k.2.1, 10, .inl f_5))]) hP hD [2, 3, 0] [1] rfl rfl (by decide) (by decide) hk1 hFc hP1 hD1
    generalize H1 = H at hP hS ⊢
    have hP : va_P D classes [(h0, .inr (11, F)), (ea, .inr (1, z_14)), (nw, .inl (k.2.1, 10, .inl f_5))] H := hP
    have hD : va_D A [(h0, .inr (11, F)), (ea, .inr (1, z_14)), (nw, .inl (k.2.1, 10, .inl f_5))] := hD
    refine W.widen (k := 0) (n := 0) (Nat.le_of_ble_eq_true rfl) (Nat.le_of_ble_eq_true rfl) ?_
    refine lv_aload_n hx hb dX11_day_33 rfl (lv_at hl 0 rfl) ?_
    have hPc := hP.sub (ws' := [(h0, .inr (11, F)), (ea, .inr (1, z_14)), (nw, .inl (k.2.1, 10, .inl f_5))]) [0, 1, 2] rfl
    have hDc := hD.sub (ws' := [(h0, .inr (11, F)), (ea, .inr (1, z_14)), (nw, .inl (k.2.1, 10, .inl f_5))]) [0, 1, 2] (by decide) rfl
    have hFc := va_free (wc := [(h0, .inr (11, F)), (ea, .inr (1, z_14)), (nw, .inl (k.2.1, 10, .inl f_5))]) hD hS hA [0, 1, 2] rfl
    refine va_calli (va_runV (As := []) (rest := []) ⟨hx, hb, hml, hown, hts⟩ (c_X11_today l D k H.size h0 ea nw F z_14 f_5 1 g_F_earnest g_15 g_12) (cwV 0 hts (gd_V hgd m911 m913 m27 m117 m914) rfl rfl rfl (by decide +kernel) ⟨Nat.le_of_ble_eq_true rfl, Nat.le_of_ble_eq_true rfl⟩) (cP_V hPc hKX hDc (ci := 11) (q0 := 0) rfl rfl) rfl rfl hl.1 rfl (lv_room (Nat.le_of_ble_eq_true rfl)) dX11_day_34 ⟨Nat.le_of_ble_eq_true rfl, Nat.le_of_ble_eq_true rfl⟩) hS (fun q _ h => hFc q h) hFc (fun r_16 u t H1 locs ht hvm hw hB hz1 hk1 hS => ?_)
    obtain ⟨hP1, hD1⟩ := hB
    rw [ht] at hP1
    obtain ⟨hP, hD⟩ := va_join (wr := []) (w1 := [(h0, .inr (11, F)), (ea, .inr (1, z_14)), (nw, .inl (k.2.1, 10, .inl f_5))]) hP hD [0, 1, 2] [] rfl rfl (by decide) (by decide) hk1 hFc hP1 hD1
    generalize H1 = H at hP hS ⊢
    have hP : va_P D classes [(h0, .inr (11, F)), (ea, .inr (1, z_14)), (nw, .inl (k.2.1, 10, .inl f_5))] H := hP
    have hD : va_D A [(h0, .inr (11, F)), (ea, .inr (1, z_14)), (nw, .inl (k.2.1, 10, .inl f_5))] := hD
    refine W.widen (k := 0) (n := 0) (Nat.le_of_ble_eq_true rfl) (Nat.le_of_ble_eq_true rfl) ?_
    subst hw
    have hP9 := hP.sub (ws' := []) [] rfl
    have hD9 := hD.sub (ws' := []) [] (by decide) rfl
    exact W.iret (v := 1) hx hb hr (fun t ht hW => ⟨⟨1, (), rfl, rfl, cB_of ht hP9 hD9⟩, hS.F ht⟩) hS.2.2 dX11_day_37
  · exact absurd (by decide) c_2

set_option maxHeartbeats 4000000 in
set_option maxRecDepth 100000 in
theorem c_X1_keepIn_a (l : Launch) (D : va_G) (k : ClassId × ClassId × ClassId × ClassId) (sz : Nat) (h0 nw bx : Nat) (E : List Value) (f1 : Nat → Int32) (f3 : Nat → Int32) (p0 : Int32) (g_E_now : E[0]? = some (.ref nw)) (g_E_boxes : E[2]? = some (.ref bx)) (g_E_full : E[3]? = some (.int 0)) (h_lt0 : p0 < 0) : Met l yX1_keepIn (WS yX1_keepIn cX1_keepIn 2 (some .boolean)) ({ frames := 0, cells := 0, slots := 0, locals := 0 }) (va_Pc [.ref h0, .int p0] (cP D k [(h0, .inr (1, E)), (nw, .inl (k.2.1, 10, .inl f1)), (bx, .inl (k.2.1, 30, .inl f3))] sz)) (va_Qi (fun (r : Int32) (_ : Unit) => r = 0) (fun (_ : Unit) t => ∃ (E2 : List Value), E2[0]? = some (.ref nw) ∧ cB D (va_A [(h0, .inr (1, E)), (nw, .inl (k.2.1, 10, .inl f1)), (bx, .inl (k.2.1, 30, .inl f3))] sz) [(h0, .inr (1, E2)), (nw, .inl (k.2.1, 10, .inl f1))] t) (va_A [(h0, .inr (1, E)), (nw, .inl (k.2.1, 10, .inl f1)), (bx, .inl (k.2.1, 30, .inl f3))] sz)) 0 0 (va_A [(h0, .inr (1, E)), (nw, .inl (k.2.1, 10, .inl f1)), (bx, .inl (k.2.1, 30, .inl f3))] sz) := by
  refine Met.ofW (cc := cX1_keepIn) (maxL := 2) (ret := (some .boolean)) (by decide) rfl ?_
  intro p e s m args below meth c s₁ B hml hv
  obtain ⟨rfl, hsz, hP, hKX, hD0⟩ := hv
  have hK := hKX.1
  have hx := B.exec
  have hb := B.bytes
  have hr := B.returns
  have hts := atoms_spec (ws := WS yX1_keepIn cX1_keepIn 2 (some .boolean)) B.pre
  have hgd : ∀ w ∈ gd, w ∈ WS yX1_keepIn cX1_keepIn 2 (some .boolean) := fun w h => List.mem_cons_of_mem _ h
  have hg : ∀ w ∈ gd, w.before _ s = true := fun w h => hts w (hgd w h)
  have hown : s.vm.findClass RX1 = some m.cls := findClass_of_methodNamed B.named
  have hlocks := B.notSynchronized
  subst hsz
  have hD := hD0.self (sz := s.heap.size)
  generalize hAe : va_A [(h0, .inr (1, E)), (nw, .inl (k.2.1, 10, .inl f1)), (bx, .inl (k.2.1, 30, .inl f3))] s.heap.size = A at hD ⊢
  have hA : ∀ q : Nat, s.heap.size ≤ q → A q := fun q h => by rw [← hAe]; exact Or.inr h
  have hS : va_S A s.heap s.heap [] := va_S.rf
  have hP : va_P D classes [(h0, .inr (1, E)), (nw, .inl (k.2.1, 10, .inl f1)), (bx, .inl (k.2.1, 30, .inl f3))] s.heap := hP
  have hl := lv_entry ([.ref h0, .int p0]) (n := 2) (Nat.le_of_ble_eq_true rfl)
  rw [lg_entry_eq]
  generalize (lg_sl ([.ref h0, .int p0]) ++ List.replicate (2 - (lg_sl ([.ref h0, .int p0])).length) Slot.unset).toArray = ls at hl ⊢
  have hl : lv_has ls 2 [(0, .ref h0), (1, .int p0)] := hl
  refine lv_iload_n hx hb dX1_keepIn_0 rfl (lv_at hl 1 rfl) ?_
  refine lv_if_lt (tgt := 9) hx hb dX1_keepIn_1 (by decide) (fun c_1 => ?_) (fun c_1 => ?_)
  · have c_1 : (p0 : Int32) < 0 := c_1
    refine lv_iconst (v := 0) hx hb dX1_keepIn_9 (by decide) ?_
    have hP9 := hP.sub (ws' := [(h0, .inr (1, E)), (nw, .inl (k.2.1, 10, .inl f1))]) [0, 1] rfl
    have hD9 := hD.sub (ws' := [(h0, .inr (1, E)), (nw, .inl (k.2.1, 10, .inl f1))]) [0, 1] (by decide) rfl
    exact W.zret (v := 0) hx hb hr (by decide) (fun t ht hW => ⟨⟨0, (), rfl, rfl, ⟨E, g_E_now, cB_of ht hP9 hD9⟩⟩, hS.F ht⟩) hS.2.2 dX1_keepIn_10
  · exact absurd h_lt0 c_1

set_option maxHeartbeats 4000000 in
set_option maxRecDepth 100000 in
theorem c_X1_keepIn_b (l : Launch) (D : va_G) (k : ClassId × ClassId × ClassId × ClassId) (sz : Nat) (h0 nw bx : Nat) (E : List Value) (f1 : Nat → Int32) (f3 : Nat → Int32) (p0 : Int32) (g_E_now : E[0]? = some (.ref nw)) (g_E_boxes : E[2]? = some (.ref bx)) (g_E_full : E[3]? = some (.int 0)) (h_nlt0 : ¬ (p0 < 0)) (h_ge3 : 3 ≤ p0) : Met l yX1_keepIn (WS yX1_keepIn cX1_keepIn 2 (some .boolean)) ({ frames := 0, cells := 0, slots := 0, locals := 0 }) (va_Pc [.ref h0, .int p0] (cP D k [(h0, .inr (1, E)), (nw, .inl (k.2.1, 10, .inl f1)), (bx, .inl (k.2.1, 30, .inl f3))] sz)) (va_Qi (fun (r : Int32) (_ : Unit) => r = 0) (fun (_ : Unit) t => ∃ (E2 : List Value), E2[0]? = some (.ref nw) ∧ cB D (va_A [(h0, .inr (1, E)), (nw, .inl (k.2.1, 10, .inl f1)), (bx, .inl (k.2.1, 30, .inl f3))] sz) [(h0, .inr (1, E2)), (nw, .inl (k.2.1, 10, .inl f1))] t) (va_A [(h0, .inr (1, E)), (nw, .inl (k.2.1, 10, .inl f1)), (bx, .inl (k.2.1, 30, .inl f3))] sz)) 0 0 (va_A [(h0, .inr (1, E)), (nw, .inl (k.2.1, 10, .inl f1)), (bx, .inl (k.2.1, 30, .inl f3))] sz) := by
  refine Met.ofW (cc := cX1_keepIn) (maxL := 2) (ret := (some .boolean)) (by decide) rfl ?_
  intro p e s m args below meth c s₁ B hml hv
  obtain ⟨rfl, hsz, hP, hKX, hD0⟩ := hv
  have hK := hKX.1
  have hx := B.exec
  have hb := B.bytes
  have hr := B.returns
  have hts := atoms_spec (ws := WS yX1_keepIn cX1_keepIn 2 (some .boolean)) B.pre
  have hgd : ∀ w ∈ gd, w ∈ WS yX1_keepIn cX1_keepIn 2 (some .boolean) := fun w h => List.mem_cons_of_mem _ h
  have hg : ∀ w ∈ gd, w.before _ s = true := fun w h => hts w (hgd w h)
  have hown : s.vm.findClass RX1 = some m.cls := findClass_of_methodNamed B.named
  have hlocks := B.notSynchronized
  subst hsz
  have hD := hD0.self (sz := s.heap.size)
  generalize hAe : va_A [(h0, .inr (1, E)), (nw, .inl (k.2.1, 10, .inl f1)), (bx, .inl (k.2.1, 30, .inl f3))] s.heap.size = A at hD ⊢
  have hA : ∀ q : Nat, s.heap.size ≤ q → A q := fun q h => by rw [← hAe]; exact Or.inr h
  have hS : va_S A s.heap s.heap [] := va_S.rf
  have hP : va_P D classes [(h0, .inr (1, E)), (nw, .inl (k.2.1, 10, .inl f1)), (bx, .inl (k.2.1, 30, .inl f3))] s.heap := hP
  have hl := lv_entry ([.ref h0, .int p0]) (n := 2) (Nat.le_of_ble_eq_true rfl)
  rw [lg_entry_eq]
  generalize (lg_sl ([.ref h0, .int p0]) ++ List.replicate (2 - (lg_sl ([.ref h0, .int p0])).length) Slot.unset).toArray = ls at hl ⊢
  have hl : lv_has ls 2 [(0, .ref h0), (1, .int p0)] := hl
  refine lv_iload_n hx hb dX1_keepIn_0 rfl (lv_at hl 1 rfl) ?_
  refine lv_if_lt (tgt := 9) hx hb dX1_keepIn_1 (by decide) (fun c_1 => ?_) (fun c_1 => ?_)
  · exact absurd c_1 h_nlt0
  · have c_1 : ¬ ((p0 : Int32) < 0) := c_1
    refine lv_iload_n hx hb dX1_keepIn_4 rfl (lv_at hl 1 rfl) ?_
    refine lv_iconst (v := 3) hx hb dX1_keepIn_5 (by decide) ?_
    refine lv_icmp_lt (tgt := 11) hx hb dX1_keepIn_6 (by decide) (fun c_2 => ?_) (fun c_2 => ?_)
    · exact absurd c_2 (Int32.not_lt.mpr h_ge3)
    · have c_2 : ¬ ((p0 : Int32) < 3) := c_2
      refine lv_iconst (v := 0) hx hb dX1_keepIn_9 (by decide) ?_
      have hP9 := hP.sub (ws' := [(h0, .inr (1, E)), (nw, .inl (k.2.1, 10, .inl f1))]) [0, 1] rfl
      have hD9 := hD.sub (ws' := [(h0, .inr (1, E)), (nw, .inl (k.2.1, 10, .inl f1))]) [0, 1] (by decide) rfl
      exact W.zret (v := 0) hx hb hr (by decide) (fun t ht hW => ⟨⟨0, (), rfl, rfl, ⟨E, g_E_now, cB_of ht hP9 hD9⟩⟩, hS.F ht⟩) hS.2.2 dX1_keepIn_10

set_option maxHeartbeats 4000000 in
set_option maxRecDepth 100000 in
theorem c_X1_keepIn_c (l : Launch) (D : va_G) (k : ClassId × ClassId × ClassId × ClassId) (sz : Nat) (h0 nw bx : Nat) (E : List Value) (f1 : Nat → Int32) (f3 : Nat → Int32) (p0 : Int32) (g_E_now : E[0]? = some (.ref nw)) (g_E_boxes : E[2]? = some (.ref bx)) (g_E_full : E[3]? = some (.int 0)) (h_nlt0 : ¬ (p0 < 0)) (h_nge3 : ¬ (3 ≤ p0)) : Met l yX1_keepIn (WS yX1_keepIn cX1_keepIn 2 (some .boolean)) ({ frames := 1, cells := 0, slots := 0, locals := 40 }) (va_Pc [.ref h0, .int p0] (cP D k [(h0, .inr (1, E)), (nw, .inl (k.2.1, 10, .inl f1)), (bx, .inl (k.2.1, 30, .inl f3))] sz)) (va_Qi (fun (r : Int32) (_ : Unit) => r = 1) (fun (_ : Unit) t => ∃ (E2 : List Value), E2[0]? = some (.ref nw) ∧ cB D (va_A [(h0, .inr (1, E)), (nw, .inl (k.2.1, 10, .inl f1)), (bx, .inl (k.2.1, 30, .inl f3))] sz) [(h0, .inr (1, E2)), (nw, .inl (k.2.1, 10, .inl f1))] t) (va_A [(h0, .inr (1, E)), (nw, .inl (k.2.1, 10, .inl f1)), (bx, .inl (k.2.1, 30, .inl f3))] sz)) 0 0 (va_A [(h0, .inr (1, E)), (nw, .inl (k.2.1, 10, .inl f1)), (bx, .inl (k.2.1, 30, .inl f3))] sz) := by
  refine Met.ofW (cc := cX1_keepIn) (maxL := 2) (ret := (some .boolean)) (by decide) rfl ?_
  intro p e s m args below meth c s₁ B hml hv
  obtain ⟨rfl, hsz, hP, hKX, hD0⟩ := hv
  have hK := hKX.1
  have hx := B.exec
  have hb := B.bytes
  have hr := B.returns
  have hts := atoms_spec (ws := WS yX1_keepIn cX1_keepIn 2 (some .boolean)) B.pre
  have hgd : ∀ w ∈ gd, w ∈ WS yX1_keepIn cX1_keepIn 2 (some .boolean) := fun w h => List.mem_cons_of_mem _ h
  have hg : ∀ w ∈ gd, w.before _ s = true := fun w h => hts w (hgd w h)
  have hown : s.vm.findClass RX1 = some m.cls := findClass_of_methodNamed B.named
  have hlocks := B.notSynchronized
  subst hsz
  have hD := hD0.self (sz := s.heap.size)
  generalize hAe : va_A [(h0, .inr (1, E)), (nw, .inl (k.2.1, 10, .inl f1)), (bx, .inl (k.2.1, 30, .inl f3))] s.heap.size = A at hD ⊢
  have hA : ∀ q : Nat, s.heap.size ≤ q → A q := fun q h => by rw [← hAe]; exact Or.inr h
  have hS : va_S A s.heap s.heap [] := va_S.rf
  have hP : va_P D classes [(h0, .inr (1, E)), (nw, .inl (k.2.1, 10, .inl f1)), (bx, .inl (k.2.1, 30, .inl f3))] s.heap := hP
  have hl := lv_entry ([.ref h0, .int p0]) (n := 2) (Nat.le_of_ble_eq_true rfl)
  rw [lg_entry_eq]
  generalize (lg_sl ([.ref h0, .int p0]) ++ List.replicate (2 - (lg_sl ([.ref h0, .int p0])).length) Slot.unset).toArray = ls at hl ⊢
  have hl : lv_has ls 2 [(0, .ref h0), (1, .int p0)] := hl
  refine lv_iload_n hx hb dX1_keepIn_0 rfl (lv_at hl 1 rfl) ?_
  refine lv_if_lt (tgt := 9) hx hb dX1_keepIn_1 (by decide) (fun c_1 => ?_) (fun c_1 => ?_)
  · exact absurd c_1 h_nlt0
  · have c_1 : ¬ ((p0 : Int32) < 0) := c_1
    refine lv_iload_n hx hb dX1_keepIn_4 rfl (lv_at hl 1 rfl) ?_
    refine lv_iconst (v := 3) hx hb dX1_keepIn_5 (by decide) ?_
    refine lv_icmp_lt (tgt := 11) hx hb dX1_keepIn_6 (by decide) (fun c_2 => ?_) (fun c_2 => ?_)
    · have c_2 : (p0 : Int32) < 3 := c_2
      refine lv_aload_n hx hb dX1_keepIn_11 rfl (lv_at hl 0 rfl) ?_
      refine va_get (D := D) (ci := 1) (v := .ref nw) (C := RX1) (T := TX1) (N := 6) hx hb hg iX1 hown hK hP 0 rfl rfl 0 (by decide) (hg (Cond.fieldLink RX1 11 "SlabWalk$Earnest" "now" "[I") m492) (fun _ h9 => h9) g_E_now dX1_keepIn_12 ?_
      refine lv_iconst (v := 0) hx hb dX1_keepIn_15 (by decide) ?_
      refine lv_aload_n hx hb dX1_keepIn_16 rfl (lv_at hl 0 rfl) ?_
      refine va_get (D := D) (ci := 1) (v := .ref bx) (C := RX1) (T := TX1) (N := 6) hx hb hg iX1 hown hK hP 0 rfl rfl 2 (by decide) (hg (Cond.fieldLink RX1 18 "SlabWalk$Earnest" "boxes" "[I") m495) (fun _ h9 => h9) g_E_boxes dX1_keepIn_17 ?_
      refine lv_iload_n hx hb dX1_keepIn_20 rfl (lv_at hl 1 rfl) ?_
      refine lv_bipush (v := 10) hx hb dX1_keepIn_21 (by decide) ?_
      refine lv_imul hx hb dX1_keepIn_23 ?_
      refine lv_bipush (v := 10) hx hb dX1_keepIn_24 (by decide) ?_
      refine va_copyi hx hb (by rw [hml]; exact hl.1.symm) hown (hg (Cond.methodLink RX1 40 arraycopyName) m567) (hg (Cond.native arraycopyName) m569) (hg (Cond.static arraycopyName) m568) (hg (Cond.initialized "java/lang/System") m130) hK hP hD hS 1 2 1 1 rfl rfl rfl rfl rfl (by decide) (bx_n h_nlt0 h_nge3) (by decide) (by decide) (bx_r h_nlt0 h_nge3) (fun _ _ => rfl) (Nat.le_of_ble_eq_true rfl) (by decide +kernel) dX1_keepIn_26 (fun H locs hP hD hS => ?_)
      have hP : va_P D classes [(h0, .inr (1, E)), (nw, .inl (k.2.1, 10, .inl f1)), (bx, .inl (k.2.1, 30, .inl (va_cpy f1 f3 (0 : Int32).toNatClampNeg ((p0 * 10) : Int32).toNatClampNeg (10 : Int32).toNatClampNeg)))] H := hP
      have hD : va_D A [(h0, .inr (1, E)), (nw, .inl (k.2.1, 10, .inl f1)), (bx, .inl (k.2.1, 30, .inl (va_cpy f1 f3 (0 : Int32).toNatClampNeg ((p0 * 10) : Int32).toNatClampNeg (10 : Int32).toNatClampNeg)))] := hD
      generalize (va_cpy f1 f3 (0 : Int32).toNatClampNeg ((p0 * 10) : Int32).toNatClampNeg (10 : Int32).toNatClampNeg) = f_3 at hP hD
      refine lv_aload_n hx hb dX1_keepIn_29 rfl (lv_at hl 0 rfl) ?_
      refine lv_dup hx hb dX1_keepIn_30 rfl ?_
      refine va_get (D := D) (ci := 1) (v := .int 0) (C := RX1) (T := TX1) (N := 6) hx hb hg iX1 hown hK hP 0 rfl rfl 3 (by decide) (hg (Cond.fieldLink RX1 27 "SlabWalk$Earnest" "full" "I") m496) (fun _ h9 => h9) g_E_full dX1_keepIn_31 ?_
      refine lv_iconst (v := 1) hx hb dX1_keepIn_34 (by decide) ?_
      refine lv_iload_n hx hb dX1_keepIn_35 rfl (lv_at hl 1 rfl) ?_
      refine lv_ishl hx hb dX1_keepIn_36 ?_
      refine lv_ior hx hb dX1_keepIn_37 ?_
      refine va_put (D := D) (ci := 1) (v := .int ((0 : Int32) ||| ((1 : Int32) <<< (p0 &&& 31)))) (ty := .int) (C := RX1) (T := TX1) (N := 6) hx hb hg iX1 tyX1 tyX1_ok nmX1 hown hK hP hD hS 0 rfl rfl 3 (by decide) (hg (Cond.fieldLink RX1 27 "SlabWalk$Earnest" "full" "I") m496) (fun _ h9 => h9) rfl (by decide +kernel) rfl rfl (fs_lt g_E_full) dX1_keepIn_38 (fun H locs hP hD hS => ?_)
      have hP : va_P D classes [(h0, .inr (1, (E.set 3 (.int ((0 : Int32) ||| ((1 : Int32) <<< (p0 &&& 31))))))), (nw, .inl (k.2.1, 10, .inl f1)), (bx, .inl (k.2.1, 30, .inl f_3))] H := hP
      have hD : va_D A [(h0, .inr (1, (E.set 3 (.int ((0 : Int32) ||| ((1 : Int32) <<< (p0 &&& 31))))))), (nw, .inl (k.2.1, 10, .inl f1)), (bx, .inl (k.2.1, 30, .inl f_3))] := hD
      refine lv_iconst (v := 1) hx hb dX1_keepIn_41 (by decide) ?_
      have hP9 := hP.sub (ws' := [(h0, .inr (1, (E.set 3 (.int ((0 : Int32) ||| ((1 : Int32) <<< (p0 &&& 31))))))), (nw, .inl (k.2.1, 10, .inl f1))]) [0, 1] rfl
      have hD9 := hD.sub (ws' := [(h0, .inr (1, (E.set 3 (.int ((0 : Int32) ||| ((1 : Int32) <<< (p0 &&& 31))))))), (nw, .inl (k.2.1, 10, .inl f1))]) [0, 1] (by decide) rfl
      exact W.zret (v := 1) hx hb hr (by decide) (fun t ht hW => ⟨⟨1, (), rfl, rfl, ⟨(E.set 3 (.int ((0 : Int32) ||| ((1 : Int32) <<< (p0 &&& 31))))), (fs_ne g_E_now (by decide)), cB_of ht hP9 hD9⟩⟩, hS.F ht⟩) hS.2.2 dX1_keepIn_42
    · exact absurd (Int32.not_le.mp h_nge3) c_2

set_option maxHeartbeats 4000000 in
set_option maxRecDepth 100000 in
theorem c_X11_image_a (l : Launch) (D : va_G) (k : ClassId × ClassId × ClassId × ClassId) (sz : Nat) (h0 ea nw bx : Nat) (F E : List Value) (f1 : Nat → Int32) (f3 : Nat → Int32) (p0 : Int32) (g_F_earnest : F[8]? = some (.ref ea)) (g_E_now : E[0]? = some (.ref nw)) (g_E_boxes : E[2]? = some (.ref bx)) (g_E_full : E[3]? = some (.int 0)) (g_f1__6 : f1 6 = 0) (h_lt0 : p0 < 0) : Met l yX11_image (WS yX11_image cX11_image 2 (some .int)) ({ frames := 1, cells := 0, slots := 0, locals := 21 }) (va_Pc [.ref h0, .int p0] (cP D k [(h0, .inr (11, F)), (ea, .inr (1, E)), (nw, .inl (k.2.1, 10, .inl f1)), (bx, .inl (k.2.1, 30, .inl f3))] sz)) (va_Qi (fun (r : Int32) (_ : Unit) => r = (-1)) (fun (_ : Unit) t => cB D (va_A [(h0, .inr (11, F)), (ea, .inr (1, E)), (nw, .inl (k.2.1, 10, .inl f1)), (bx, .inl (k.2.1, 30, .inl f3))] sz) [] t) (va_A [(h0, .inr (11, F)), (ea, .inr (1, E)), (nw, .inl (k.2.1, 10, .inl f1)), (bx, .inl (k.2.1, 30, .inl f3))] sz)) 0 0 (va_A [(h0, .inr (11, F)), (ea, .inr (1, E)), (nw, .inl (k.2.1, 10, .inl f1)), (bx, .inl (k.2.1, 30, .inl f3))] sz) := by
  refine Met.ofW (cc := cX11_image) (maxL := 2) (ret := (some .int)) (by decide) rfl ?_
  intro p e s m args below meth c s₁ B hml hv
  obtain ⟨rfl, hsz, hP, hKX, hD0⟩ := hv
  have hK := hKX.1
  have hx := B.exec
  have hb := B.bytes
  have hr := B.returns
  have hts := atoms_spec (ws := WS yX11_image cX11_image 2 (some .int)) B.pre
  have hgd : ∀ w ∈ gd, w ∈ WS yX11_image cX11_image 2 (some .int) := fun w h => List.mem_cons_of_mem _ h
  have hg : ∀ w ∈ gd, w.before _ s = true := fun w h => hts w (hgd w h)
  have hown : s.vm.findClass RX11 = some m.cls := findClass_of_methodNamed B.named
  have hlocks := B.notSynchronized
  subst hsz
  have hD := hD0.self (sz := s.heap.size)
  generalize hAe : va_A [(h0, .inr (11, F)), (ea, .inr (1, E)), (nw, .inl (k.2.1, 10, .inl f1)), (bx, .inl (k.2.1, 30, .inl f3))] s.heap.size = A at hD ⊢
  have hA : ∀ q : Nat, s.heap.size ≤ q → A q := fun q h => by rw [← hAe]; exact Or.inr h
  have hS : va_S A s.heap s.heap [] := va_S.rf
  have hP : va_P D classes [(h0, .inr (11, F)), (ea, .inr (1, E)), (nw, .inl (k.2.1, 10, .inl f1)), (bx, .inl (k.2.1, 30, .inl f3))] s.heap := hP
  have hl := lv_entry ([.ref h0, .int p0]) (n := 2) (Nat.le_of_ble_eq_true rfl)
  rw [lg_entry_eq]
  generalize (lg_sl ([.ref h0, .int p0]) ++ List.replicate (2 - (lg_sl ([.ref h0, .int p0])).length) Slot.unset).toArray = ls at hl ⊢
  have hl : lv_has ls 2 [(0, .ref h0), (1, .int p0)] := hl
  refine lv_aload_n hx hb dX11_image_0 rfl (lv_at hl 0 rfl) ?_
  refine va_get (D := D) (ci := 11) (v := .ref ea) (C := RX11) (T := TX11) (N := 13) hx hb hg iX11 hown hK hP 0 rfl rfl 8 (by decide) (hg (Cond.fieldLink RX11 65 "SlabWalk" "earnest" "LSlabWalk$Earnest;") m578) (fun _ h9 => h9) g_F_earnest dX11_image_1 ?_
  refine lv_iload_n hx hb dX11_image_4 rfl (lv_at hl 1 rfl) ?_
  have hPc := hP.sub (ws' := [(ea, .inr (1, E)), (nw, .inl (k.2.1, 10, .inl f1)), (bx, .inl (k.2.1, 30, .inl f3))]) [1, 2, 3] rfl
  have hDc := hD.sub (ws' := [(ea, .inr (1, E)), (nw, .inl (k.2.1, 10, .inl f1)), (bx, .inl (k.2.1, 30, .inl f3))]) [1, 2, 3] (by decide) rfl
  have hFc := va_free (wc := [(ea, .inr (1, E)), (nw, .inl (k.2.1, 10, .inl f1)), (bx, .inl (k.2.1, 30, .inl f3))]) hD hS hA [1, 2, 3] rfl
  refine va_calli (va_runV (As := [.int p0]) (rest := []) ⟨hx, hb, hml, hown, hts⟩ (c_X1_keepIn_a l D k s.heap.size ea nw bx E f1 f3 p0 g_E_now g_E_boxes g_E_full h_lt0) (cwV 1 hts (gd_V hgd m1291 m1292 m1293 m127 m1294) rfl rfl rfl (by decide +kernel) ⟨Nat.le_of_ble_eq_true rfl, Nat.le_of_ble_eq_true rfl⟩) (cP_V hPc hKX hDc (ci := 1) (q0 := 0) rfl rfl) rfl rfl hl.1 rfl (lv_room (Nat.le_of_ble_eq_true rfl)) dX11_image_5 ⟨Nat.le_of_ble_eq_true rfl, Nat.le_of_ble_eq_true rfl⟩) hS (fun q _ h => hFc q h) hFc (fun r_1 u t H1 locs ht hvm hw hB hz1 hk1 hS => ?_)
  obtain ⟨z_2, g_3, hP1, hD1⟩ := hB
  rw [ht] at hP1
  obtain ⟨hP, hD⟩ := va_join (wr := [(h0, .inr (11, F))]) (w1 := [(ea, .inr (1, z_2)), (nw, .inl (k.2.1, 10, .inl f1))]) hP hD [1, 2, 3] [0] rfl rfl (by decide) (by decide) hk1 hFc hP1 hD1
  generalize H1 = H at hP hS ⊢
  have hP : va_P D classes [(h0, .inr (11, F)), (ea, .inr (1, z_2)), (nw, .inl (k.2.1, 10, .inl f1))] H := hP
  have hD : va_D A [(h0, .inr (11, F)), (ea, .inr (1, z_2)), (nw, .inl (k.2.1, 10, .inl f1))] := hD
  refine W.widen (k := 0) (n := 0) (Nat.le_of_ble_eq_true rfl) (Nat.le_of_ble_eq_true rfl) ?_
  subst hw
  refine lv_if_eq (tgt := 18) hx hb dX11_image_8 (by decide) (fun c_4 => ?_) (fun c_4 => ?_)
  · have c_4 : (0 : Int32) = 0 := c_4
    refine lv_iconst (v := (-1)) hx hb dX11_image_18 (by decide) ?_
    have hP9 := hP.sub (ws' := []) [] rfl
    have hD9 := hD.sub (ws' := []) [] (by decide) rfl
    exact W.iret (v := (-1)) hx hb hr (fun t ht hW => ⟨⟨(-1), (), rfl, rfl, cB_of ht hP9 hD9⟩, hS.F ht⟩) hS.2.2 dX11_image_19
  · exact absurd (by decide) c_4

set_option maxHeartbeats 4000000 in
set_option maxRecDepth 100000 in
theorem c_X11_image_b (l : Launch) (D : va_G) (k : ClassId × ClassId × ClassId × ClassId) (sz : Nat) (h0 ea nw bx : Nat) (F E : List Value) (f1 : Nat → Int32) (f3 : Nat → Int32) (p0 : Int32) (g_F_earnest : F[8]? = some (.ref ea)) (g_E_now : E[0]? = some (.ref nw)) (g_E_boxes : E[2]? = some (.ref bx)) (g_E_full : E[3]? = some (.int 0)) (g_f1__6 : f1 6 = 0) (h_nlt0 : ¬ (p0 < 0)) (h_ge3 : 3 ≤ p0) : Met l yX11_image (WS yX11_image cX11_image 2 (some .int)) ({ frames := 1, cells := 0, slots := 0, locals := 21 }) (va_Pc [.ref h0, .int p0] (cP D k [(h0, .inr (11, F)), (ea, .inr (1, E)), (nw, .inl (k.2.1, 10, .inl f1)), (bx, .inl (k.2.1, 30, .inl f3))] sz)) (va_Qi (fun (r : Int32) (_ : Unit) => r = (-1)) (fun (_ : Unit) t => cB D (va_A [(h0, .inr (11, F)), (ea, .inr (1, E)), (nw, .inl (k.2.1, 10, .inl f1)), (bx, .inl (k.2.1, 30, .inl f3))] sz) [] t) (va_A [(h0, .inr (11, F)), (ea, .inr (1, E)), (nw, .inl (k.2.1, 10, .inl f1)), (bx, .inl (k.2.1, 30, .inl f3))] sz)) 0 0 (va_A [(h0, .inr (11, F)), (ea, .inr (1, E)), (nw, .inl (k.2.1, 10, .inl f1)), (bx, .inl (k.2.1, 30, .inl f3))] sz) := by
  refine Met.ofW (cc := cX11_image) (maxL := 2) (ret := (some .int)) (by decide) rfl ?_
  intro p e s m args below meth c s₁ B hml hv
  obtain ⟨rfl, hsz, hP, hKX, hD0⟩ := hv
  have hK := hKX.1
  have hx := B.exec
  have hb := B.bytes
  have hr := B.returns
  have hts := atoms_spec (ws := WS yX11_image cX11_image 2 (some .int)) B.pre
  have hgd : ∀ w ∈ gd, w ∈ WS yX11_image cX11_image 2 (some .int) := fun w h => List.mem_cons_of_mem _ h
  have hg : ∀ w ∈ gd, w.before _ s = true := fun w h => hts w (hgd w h)
  have hown : s.vm.findClass RX11 = some m.cls := findClass_of_methodNamed B.named
  have hlocks := B.notSynchronized
  subst hsz
  have hD := hD0.self (sz := s.heap.size)
  generalize hAe : va_A [(h0, .inr (11, F)), (ea, .inr (1, E)), (nw, .inl (k.2.1, 10, .inl f1)), (bx, .inl (k.2.1, 30, .inl f3))] s.heap.size = A at hD ⊢
  have hA : ∀ q : Nat, s.heap.size ≤ q → A q := fun q h => by rw [← hAe]; exact Or.inr h
  have hS : va_S A s.heap s.heap [] := va_S.rf
  have hP : va_P D classes [(h0, .inr (11, F)), (ea, .inr (1, E)), (nw, .inl (k.2.1, 10, .inl f1)), (bx, .inl (k.2.1, 30, .inl f3))] s.heap := hP
  have hl := lv_entry ([.ref h0, .int p0]) (n := 2) (Nat.le_of_ble_eq_true rfl)
  rw [lg_entry_eq]
  generalize (lg_sl ([.ref h0, .int p0]) ++ List.replicate (2 - (lg_sl ([.ref h0, .int p0])).length) Slot.unset).toArray = ls at hl ⊢
  have hl : lv_has ls 2 [(0, .ref h0), (1, .int p0)] := hl
  refine lv_aload_n hx hb dX11_image_0 rfl (lv_at hl 0 rfl) ?_
  refine va_get (D := D) (ci := 11) (v := .ref ea) (C := RX11) (T := TX11) (N := 13) hx hb hg iX11 hown hK hP 0 rfl rfl 8 (by decide) (hg (Cond.fieldLink RX11 65 "SlabWalk" "earnest" "LSlabWalk$Earnest;") m578) (fun _ h9 => h9) g_F_earnest dX11_image_1 ?_
  refine lv_iload_n hx hb dX11_image_4 rfl (lv_at hl 1 rfl) ?_
  have hPc := hP.sub (ws' := [(ea, .inr (1, E)), (nw, .inl (k.2.1, 10, .inl f1)), (bx, .inl (k.2.1, 30, .inl f3))]) [1, 2, 3] rfl
  have hDc := hD.sub (ws' := [(ea, .inr (1, E)), (nw, .inl (k.2.1, 10, .inl f1)), (bx, .inl (k.2.1, 30, .inl f3))]) [1, 2, 3] (by decide) rfl
  have hFc := va_free (wc := [(ea, .inr (1, E)), (nw, .inl (k.2.1, 10, .inl f1)), (bx, .inl (k.2.1, 30, .inl f3))]) hD hS hA [1, 2, 3] rfl
  refine va_calli (va_runV (As := [.int p0]) (rest := []) ⟨hx, hb, hml, hown, hts⟩ (c_X1_keepIn_b l D k s.heap.size ea nw bx E f1 f3 p0 g_E_now g_E_boxes g_E_full h_nlt0 h_ge3) (cwV 1 hts (gd_V hgd m1291 m1292 m1293 m127 m1294) rfl rfl rfl (by decide +kernel) ⟨Nat.le_of_ble_eq_true rfl, Nat.le_of_ble_eq_true rfl⟩) (cP_V hPc hKX hDc (ci := 1) (q0 := 0) rfl rfl) rfl rfl hl.1 rfl (lv_room (Nat.le_of_ble_eq_true rfl)) dX11_image_5 ⟨Nat.le_of_ble_eq_true rfl, Nat.le_of_ble_eq_true rfl⟩) hS (fun q _ h => hFc q h) hFc (fun r_1 u t H1 locs ht hvm hw hB hz1 hk1 hS => ?_)
  obtain ⟨z_2, g_3, hP1, hD1⟩ := hB
  rw [ht] at hP1
  obtain ⟨hP, hD⟩ := va_join (wr := [(h0, .inr (11, F))]) (w1 := [(ea, .inr (1, z_2)), (nw, .inl (k.2.1, 10, .inl f1))]) hP hD [1, 2, 3] [0] rfl rfl (by decide) (by decide) hk1 hFc hP1 hD1
  generalize H1 = H at hP hS ⊢
  have hP : va_P D classes [(h0, .inr (11, F)), (ea, .inr (1, z_2)), (nw, .inl (k.2.1, 10, .inl f1))] H := hP
  have hD : va_D A [(h0, .inr (11, F)), (ea, .inr (1, z_2)), (nw, .inl (k.2.1, 10, .inl f1))] := hD
  refine W.widen (k := 0) (n := 0) (Nat.le_of_ble_eq_true rfl) (Nat.le_of_ble_eq_true rfl) ?_
  subst hw
  refine lv_if_eq (tgt := 18) hx hb dX11_image_8 (by decide) (fun c_4 => ?_) (fun c_4 => ?_)
  · have c_4 : (0 : Int32) = 0 := c_4
    refine lv_iconst (v := (-1)) hx hb dX11_image_18 (by decide) ?_
    have hP9 := hP.sub (ws' := []) [] rfl
    have hD9 := hD.sub (ws' := []) [] (by decide) rfl
    exact W.iret (v := (-1)) hx hb hr (fun t ht hW => ⟨⟨(-1), (), rfl, rfl, cB_of ht hP9 hD9⟩, hS.F ht⟩) hS.2.2 dX11_image_19
  · exact absurd (by decide) c_4

set_option maxHeartbeats 4000000 in
set_option maxRecDepth 100000 in
theorem c_X11_image_c (l : Launch) (D : va_G) (k : ClassId × ClassId × ClassId × ClassId) (sz : Nat) (h0 ea nw bx : Nat) (F E : List Value) (f1 : Nat → Int32) (f3 : Nat → Int32) (p0 : Int32) (g_F_earnest : F[8]? = some (.ref ea)) (g_E_now : E[0]? = some (.ref nw)) (g_E_boxes : E[2]? = some (.ref bx)) (g_E_full : E[3]? = some (.int 0)) (g_f1__6 : f1 6 = 0) (h_nlt0 : ¬ (p0 < 0)) (h_nge3 : ¬ (3 ≤ p0)) : Met l yX11_image (WS yX11_image cX11_image 2 (some .int)) ({ frames := 2, cells := 0, slots := 0, locals := 61 }) (va_Pc [.ref h0, .int p0] (cP D k [(h0, .inr (11, F)), (ea, .inr (1, E)), (nw, .inl (k.2.1, 10, .inl f1)), (bx, .inl (k.2.1, 30, .inl f3))] sz)) (va_Qi (fun (r : Int32) (_ : Unit) => r = 0) (fun (_ : Unit) t => cB D (va_A [(h0, .inr (11, F)), (ea, .inr (1, E)), (nw, .inl (k.2.1, 10, .inl f1)), (bx, .inl (k.2.1, 30, .inl f3))] sz) [] t) (va_A [(h0, .inr (11, F)), (ea, .inr (1, E)), (nw, .inl (k.2.1, 10, .inl f1)), (bx, .inl (k.2.1, 30, .inl f3))] sz)) 0 0 (va_A [(h0, .inr (11, F)), (ea, .inr (1, E)), (nw, .inl (k.2.1, 10, .inl f1)), (bx, .inl (k.2.1, 30, .inl f3))] sz) := by
  refine Met.ofW (cc := cX11_image) (maxL := 2) (ret := (some .int)) (by decide) rfl ?_
  intro p e s m args below meth c s₁ B hml hv
  obtain ⟨rfl, hsz, hP, hKX, hD0⟩ := hv
  have hK := hKX.1
  have hx := B.exec
  have hb := B.bytes
  have hr := B.returns
  have hts := atoms_spec (ws := WS yX11_image cX11_image 2 (some .int)) B.pre
  have hgd : ∀ w ∈ gd, w ∈ WS yX11_image cX11_image 2 (some .int) := fun w h => List.mem_cons_of_mem _ h
  have hg : ∀ w ∈ gd, w.before _ s = true := fun w h => hts w (hgd w h)
  have hown : s.vm.findClass RX11 = some m.cls := findClass_of_methodNamed B.named
  have hlocks := B.notSynchronized
  subst hsz
  have hD := hD0.self (sz := s.heap.size)
  generalize hAe : va_A [(h0, .inr (11, F)), (ea, .inr (1, E)), (nw, .inl (k.2.1, 10, .inl f1)), (bx, .inl (k.2.1, 30, .inl f3))] s.heap.size = A at hD ⊢
  have hA : ∀ q : Nat, s.heap.size ≤ q → A q := fun q h => by rw [← hAe]; exact Or.inr h
  have hS : va_S A s.heap s.heap [] := va_S.rf
  have hP : va_P D classes [(h0, .inr (11, F)), (ea, .inr (1, E)), (nw, .inl (k.2.1, 10, .inl f1)), (bx, .inl (k.2.1, 30, .inl f3))] s.heap := hP
  have hl := lv_entry ([.ref h0, .int p0]) (n := 2) (Nat.le_of_ble_eq_true rfl)
  rw [lg_entry_eq]
  generalize (lg_sl ([.ref h0, .int p0]) ++ List.replicate (2 - (lg_sl ([.ref h0, .int p0])).length) Slot.unset).toArray = ls at hl ⊢
  have hl : lv_has ls 2 [(0, .ref h0), (1, .int p0)] := hl
  refine lv_aload_n hx hb dX11_image_0 rfl (lv_at hl 0 rfl) ?_
  refine va_get (D := D) (ci := 11) (v := .ref ea) (C := RX11) (T := TX11) (N := 13) hx hb hg iX11 hown hK hP 0 rfl rfl 8 (by decide) (hg (Cond.fieldLink RX11 65 "SlabWalk" "earnest" "LSlabWalk$Earnest;") m578) (fun _ h9 => h9) g_F_earnest dX11_image_1 ?_
  refine lv_iload_n hx hb dX11_image_4 rfl (lv_at hl 1 rfl) ?_
  have hPc := hP.sub (ws' := [(ea, .inr (1, E)), (nw, .inl (k.2.1, 10, .inl f1)), (bx, .inl (k.2.1, 30, .inl f3))]) [1, 2, 3] rfl
  have hDc := hD.sub (ws' := [(ea, .inr (1, E)), (nw, .inl (k.2.1, 10, .inl f1)), (bx, .inl (k.2.1, 30, .inl f3))]) [1, 2, 3] (by decide) rfl
  have hFc := va_free (wc := [(ea, .inr (1, E)), (nw, .inl (k.2.1, 10, .inl f1)), (bx, .inl (k.2.1, 30, .inl f3))]) hD hS hA [1, 2, 3] rfl
  refine va_calli (va_runV (As := [.int p0]) (rest := []) ⟨hx, hb, hml, hown, hts⟩ (c_X1_keepIn_c l D k s.heap.size ea nw bx E f1 f3 p0 g_E_now g_E_boxes g_E_full h_nlt0 h_nge3) (cwV 1 hts (gd_V hgd m1291 m1292 m1293 m127 m1294) rfl rfl rfl (by decide +kernel) ⟨Nat.le_of_ble_eq_true rfl, Nat.le_of_ble_eq_true rfl⟩) (cP_V hPc hKX hDc (ci := 1) (q0 := 0) rfl rfl) rfl rfl hl.1 rfl (lv_room (Nat.le_of_ble_eq_true rfl)) dX11_image_5 ⟨Nat.le_of_ble_eq_true rfl, Nat.le_of_ble_eq_true rfl⟩) hS (fun q _ h => hFc q h) hFc (fun r_1 u t H1 locs ht hvm hw hB hz1 hk1 hS => ?_)
  obtain ⟨z_2, g_3, hP1, hD1⟩ := hB
  rw [ht] at hP1
  obtain ⟨hP, hD⟩ := va_join (wr := [(h0, .inr (11, F))]) (w1 := [(ea, .inr (1, z_2)), (nw, .inl (k.2.1, 10, .inl f1))]) hP hD [1, 2, 3] [0] rfl rfl (by decide) (by decide) hk1 hFc hP1 hD1
  generalize H1 = H at hP hS ⊢
  have hP : va_P D classes [(h0, .inr (11, F)), (ea, .inr (1, z_2)), (nw, .inl (k.2.1, 10, .inl f1))] H := hP
  have hD : va_D A [(h0, .inr (11, F)), (ea, .inr (1, z_2)), (nw, .inl (k.2.1, 10, .inl f1))] := hD
  refine W.widen (k := 0) (n := 0) (Nat.le_of_ble_eq_true rfl) (Nat.le_of_ble_eq_true rfl) ?_
  subst hw
  refine lv_if_eq (tgt := 18) hx hb dX11_image_8 (by decide) (fun c_4 => ?_) (fun c_4 => ?_)
  · exact absurd c_4 (by decide)
  · have c_4 : ¬ ((1 : Int32) = 0) := c_4
    refine lv_aload_n hx hb dX11_image_11 rfl (lv_at hl 0 rfl) ?_
    have hPc := hP.sub (ws' := [(h0, .inr (11, F)), (ea, .inr (1, z_2)), (nw, .inl (k.2.1, 10, .inl f1))]) [0, 1, 2] rfl
    have hDc := hD.sub (ws' := [(h0, .inr (11, F)), (ea, .inr (1, z_2)), (nw, .inl (k.2.1, 10, .inl f1))]) [0, 1, 2] (by decide) rfl
    have hFc := va_free (wc := [(h0, .inr (11, F)), (ea, .inr (1, z_2)), (nw, .inl (k.2.1, 10, .inl f1))]) hD hS hA [0, 1, 2] rfl
    refine va_calli (va_runV (As := []) (rest := []) ⟨hx, hb, hml, hown, hts⟩ (c_X11_today l D k H.size h0 ea nw F z_2 f1 0 g_F_earnest g_3 g_f1__6) (cwV 0 hts (gd_V hgd m911 m913 m27 m117 m914) rfl rfl rfl (by decide +kernel) ⟨Nat.le_of_ble_eq_true rfl, Nat.le_of_ble_eq_true rfl⟩) (cP_V hPc hKX hDc (ci := 11) (q0 := 0) rfl rfl) rfl rfl hl.1 rfl (lv_room (Nat.le_of_ble_eq_true rfl)) dX11_image_12 ⟨Nat.le_of_ble_eq_true rfl, Nat.le_of_ble_eq_true rfl⟩) hS (fun q _ h => hFc q h) hFc (fun r_5 u t H1 locs ht hvm hw hB hz1 hk1 hS => ?_)
    obtain ⟨hP1, hD1⟩ := hB
    rw [ht] at hP1
    obtain ⟨hP, hD⟩ := va_join (wr := []) (w1 := [(h0, .inr (11, F)), (ea, .inr (1, z_2)), (nw, .inl (k.2.1, 10, .inl f1))]) hP hD [0, 1, 2] [] rfl rfl (by decide) (by decide) hk1 hFc hP1 hD1
    generalize H1 = H at hP hS ⊢
    have hP : va_P D classes [(h0, .inr (11, F)), (ea, .inr (1, z_2)), (nw, .inl (k.2.1, 10, .inl f1))] H := hP
    have hD : va_D A [(h0, .inr (11, F)), (ea, .inr (1, z_2)), (nw, .inl (k.2.1, 10, .inl f1))] := hD
    refine W.widen (k := 0) (n := 0) (Nat.le_of_ble_eq_true rfl) (Nat.le_of_ble_eq_true rfl) ?_
    subst hw
    refine lv_goto (tgt := 19) hx hb dX11_image_15 (by decide) ?_
    have hP9 := hP.sub (ws' := []) [] rfl
    have hD9 := hD.sub (ws' := []) [] (by decide) rfl
    exact W.iret (v := 0) hx hb hr (fun t ht hW => ⟨⟨0, (), rfl, rfl, cB_of ht hP9 hD9⟩, hS.F ht⟩) hS.2.2 dX11_image_19

set_option maxHeartbeats 4000000 in
set_option maxRecDepth 100000 in
theorem c_X1_bringFrom_a (l : Launch) (D : va_G) (k : ClassId × ClassId × ClassId × ClassId) (sz : Nat) (h0 : Nat) (E : List Value) (p0 : Int32) (g_E_full : E[3]? = some (.int 0)) (h_lt0 : p0 < 0) : Met l yX1_bringFrom (WS yX1_bringFrom cX1_bringFrom 2 (some .boolean)) ({ frames := 0, cells := 0, slots := 0, locals := 0 }) (va_Pc [.ref h0, .int p0] (cP D k [(h0, .inr (1, E))] sz)) (va_Qi (fun (r : Int32) (_ : Unit) => r = 0) (fun (_ : Unit) t => cB D (va_A [(h0, .inr (1, E))] sz) [] t) (va_A [(h0, .inr (1, E))] sz)) 0 0 (va_A [(h0, .inr (1, E))] sz) := by
  refine Met.ofW (cc := cX1_bringFrom) (maxL := 2) (ret := (some .boolean)) (by decide) rfl ?_
  intro p e s m args below meth c s₁ B hml hv
  obtain ⟨rfl, hsz, hP, hKX, hD0⟩ := hv
  have hK := hKX.1
  have hx := B.exec
  have hb := B.bytes
  have hr := B.returns
  have hts := atoms_spec (ws := WS yX1_bringFrom cX1_bringFrom 2 (some .boolean)) B.pre
  have hgd : ∀ w ∈ gd, w ∈ WS yX1_bringFrom cX1_bringFrom 2 (some .boolean) := fun w h => List.mem_cons_of_mem _ h
  have hg : ∀ w ∈ gd, w.before _ s = true := fun w h => hts w (hgd w h)
  have hown : s.vm.findClass RX1 = some m.cls := findClass_of_methodNamed B.named
  have hlocks := B.notSynchronized
  subst hsz
  have hD := hD0.self (sz := s.heap.size)
  generalize hAe : va_A [(h0, .inr (1, E))] s.heap.size = A at hD ⊢
  have hA : ∀ q : Nat, s.heap.size ≤ q → A q := fun q h => by rw [← hAe]; exact Or.inr h
  have hS : va_S A s.heap s.heap [] := va_S.rf
  have hP : va_P D classes [(h0, .inr (1, E))] s.heap := hP
  have hl := lv_entry ([.ref h0, .int p0]) (n := 2) (Nat.le_of_ble_eq_true rfl)
  rw [lg_entry_eq]
  generalize (lg_sl ([.ref h0, .int p0]) ++ List.replicate (2 - (lg_sl ([.ref h0, .int p0])).length) Slot.unset).toArray = ls at hl ⊢
  have hl : lv_has ls 2 [(0, .ref h0), (1, .int p0)] := hl
  refine lv_iload_n hx hb dX1_bringFrom_0 rfl (lv_at hl 1 rfl) ?_
  refine lv_if_lt (tgt := 20) hx hb dX1_bringFrom_1 (by decide) (fun c_1 => ?_) (fun c_1 => ?_)
  · have c_1 : (p0 : Int32) < 0 := c_1
    refine lv_iconst (v := 0) hx hb dX1_bringFrom_20 (by decide) ?_
    have hP9 := hP.sub (ws' := []) [] rfl
    have hD9 := hD.sub (ws' := []) [] (by decide) rfl
    exact W.zret (v := 0) hx hb hr (by decide) (fun t ht hW => ⟨⟨0, (), rfl, rfl, cB_of ht hP9 hD9⟩, hS.F ht⟩) hS.2.2 dX1_bringFrom_21
  · exact absurd h_lt0 c_1

set_option maxHeartbeats 4000000 in
set_option maxRecDepth 100000 in
theorem c_X1_bringFrom_b (l : Launch) (D : va_G) (k : ClassId × ClassId × ClassId × ClassId) (sz : Nat) (h0 : Nat) (E : List Value) (p0 : Int32) (g_E_full : E[3]? = some (.int 0)) (h_nlt0 : ¬ (p0 < 0)) (h_ge3 : 3 ≤ p0) : Met l yX1_bringFrom (WS yX1_bringFrom cX1_bringFrom 2 (some .boolean)) ({ frames := 0, cells := 0, slots := 0, locals := 0 }) (va_Pc [.ref h0, .int p0] (cP D k [(h0, .inr (1, E))] sz)) (va_Qi (fun (r : Int32) (_ : Unit) => r = 0) (fun (_ : Unit) t => cB D (va_A [(h0, .inr (1, E))] sz) [] t) (va_A [(h0, .inr (1, E))] sz)) 0 0 (va_A [(h0, .inr (1, E))] sz) := by
  refine Met.ofW (cc := cX1_bringFrom) (maxL := 2) (ret := (some .boolean)) (by decide) rfl ?_
  intro p e s m args below meth c s₁ B hml hv
  obtain ⟨rfl, hsz, hP, hKX, hD0⟩ := hv
  have hK := hKX.1
  have hx := B.exec
  have hb := B.bytes
  have hr := B.returns
  have hts := atoms_spec (ws := WS yX1_bringFrom cX1_bringFrom 2 (some .boolean)) B.pre
  have hgd : ∀ w ∈ gd, w ∈ WS yX1_bringFrom cX1_bringFrom 2 (some .boolean) := fun w h => List.mem_cons_of_mem _ h
  have hg : ∀ w ∈ gd, w.before _ s = true := fun w h => hts w (hgd w h)
  have hown : s.vm.findClass RX1 = some m.cls := findClass_of_methodNamed B.named
  have hlocks := B.notSynchronized
  subst hsz
  have hD := hD0.self (sz := s.heap.size)
  generalize hAe : va_A [(h0, .inr (1, E))] s.heap.size = A at hD ⊢
  have hA : ∀ q : Nat, s.heap.size ≤ q → A q := fun q h => by rw [← hAe]; exact Or.inr h
  have hS : va_S A s.heap s.heap [] := va_S.rf
  have hP : va_P D classes [(h0, .inr (1, E))] s.heap := hP
  have hl := lv_entry ([.ref h0, .int p0]) (n := 2) (Nat.le_of_ble_eq_true rfl)
  rw [lg_entry_eq]
  generalize (lg_sl ([.ref h0, .int p0]) ++ List.replicate (2 - (lg_sl ([.ref h0, .int p0])).length) Slot.unset).toArray = ls at hl ⊢
  have hl : lv_has ls 2 [(0, .ref h0), (1, .int p0)] := hl
  refine lv_iload_n hx hb dX1_bringFrom_0 rfl (lv_at hl 1 rfl) ?_
  refine lv_if_lt (tgt := 20) hx hb dX1_bringFrom_1 (by decide) (fun c_1 => ?_) (fun c_1 => ?_)
  · exact absurd c_1 h_nlt0
  · have c_1 : ¬ ((p0 : Int32) < 0) := c_1
    refine lv_iload_n hx hb dX1_bringFrom_4 rfl (lv_at hl 1 rfl) ?_
    refine lv_iconst (v := 3) hx hb dX1_bringFrom_5 (by decide) ?_
    refine lv_icmp_ge (tgt := 20) hx hb dX1_bringFrom_6 (by decide) (fun c_2 => ?_) (fun c_2 => ?_)
    · have c_2 : (3 : Int32) ≤ p0 := c_2
      refine lv_iconst (v := 0) hx hb dX1_bringFrom_20 (by decide) ?_
      have hP9 := hP.sub (ws' := []) [] rfl
      have hD9 := hD.sub (ws' := []) [] (by decide) rfl
      exact W.zret (v := 0) hx hb hr (by decide) (fun t ht hW => ⟨⟨0, (), rfl, rfl, cB_of ht hP9 hD9⟩, hS.F ht⟩) hS.2.2 dX1_bringFrom_21
    · exact absurd h_ge3 c_2

set_option maxHeartbeats 4000000 in
set_option maxRecDepth 100000 in
theorem c_X1_bringFrom_c (l : Launch) (D : va_G) (k : ClassId × ClassId × ClassId × ClassId) (sz : Nat) (h0 : Nat) (E : List Value) (p0 : Int32) (g_E_full : E[3]? = some (.int 0)) (h_nlt0 : ¬ (p0 < 0)) (h_nge3 : ¬ (3 ≤ p0)) : Met l yX1_bringFrom (WS yX1_bringFrom cX1_bringFrom 2 (some .boolean)) ({ frames := 0, cells := 0, slots := 0, locals := 0 }) (va_Pc [.ref h0, .int p0] (cP D k [(h0, .inr (1, E))] sz)) (va_Qi (fun (r : Int32) (_ : Unit) => r = 0) (fun (_ : Unit) t => cB D (va_A [(h0, .inr (1, E))] sz) [] t) (va_A [(h0, .inr (1, E))] sz)) 0 0 (va_A [(h0, .inr (1, E))] sz) := by
  refine Met.ofW (cc := cX1_bringFrom) (maxL := 2) (ret := (some .boolean)) (by decide) rfl ?_
  intro p e s m args below meth c s₁ B hml hv
  obtain ⟨rfl, hsz, hP, hKX, hD0⟩ := hv
  have hK := hKX.1
  have hx := B.exec
  have hb := B.bytes
  have hr := B.returns
  have hts := atoms_spec (ws := WS yX1_bringFrom cX1_bringFrom 2 (some .boolean)) B.pre
  have hgd : ∀ w ∈ gd, w ∈ WS yX1_bringFrom cX1_bringFrom 2 (some .boolean) := fun w h => List.mem_cons_of_mem _ h
  have hg : ∀ w ∈ gd, w.before _ s = true := fun w h => hts w (hgd w h)
  have hown : s.vm.findClass RX1 = some m.cls := findClass_of_methodNamed B.named
  have hlocks := B.notSynchronized
  subst hsz
  have hD := hD0.self (sz := s.heap.size)
  generalize hAe : va_A [(h0, .inr (1, E))] s.heap.size = A at hD ⊢
  have hA : ∀ q : Nat, s.heap.size ≤ q → A q := fun q h => by rw [← hAe]; exact Or.inr h
  have hS : va_S A s.heap s.heap [] := va_S.rf
  have hP : va_P D classes [(h0, .inr (1, E))] s.heap := hP
  have hl := lv_entry ([.ref h0, .int p0]) (n := 2) (Nat.le_of_ble_eq_true rfl)
  rw [lg_entry_eq]
  generalize (lg_sl ([.ref h0, .int p0]) ++ List.replicate (2 - (lg_sl ([.ref h0, .int p0])).length) Slot.unset).toArray = ls at hl ⊢
  have hl : lv_has ls 2 [(0, .ref h0), (1, .int p0)] := hl
  refine lv_iload_n hx hb dX1_bringFrom_0 rfl (lv_at hl 1 rfl) ?_
  refine lv_if_lt (tgt := 20) hx hb dX1_bringFrom_1 (by decide) (fun c_1 => ?_) (fun c_1 => ?_)
  · exact absurd c_1 h_nlt0
  · have c_1 : ¬ ((p0 : Int32) < 0) := c_1
    refine lv_iload_n hx hb dX1_bringFrom_4 rfl (lv_at hl 1 rfl) ?_
    refine lv_iconst (v := 3) hx hb dX1_bringFrom_5 (by decide) ?_
    refine lv_icmp_ge (tgt := 20) hx hb dX1_bringFrom_6 (by decide) (fun c_2 => ?_) (fun c_2 => ?_)
    · exact absurd c_2 h_nge3
    · have c_2 : ¬ ((3 : Int32) ≤ p0) := c_2
      refine lv_aload_n hx hb dX1_bringFrom_9 rfl (lv_at hl 0 rfl) ?_
      refine va_get (D := D) (ci := 1) (v := .int 0) (C := RX1) (T := TX1) (N := 6) hx hb hg iX1 hown hK hP 0 rfl rfl 3 (by decide) (hg (Cond.fieldLink RX1 27 "SlabWalk$Earnest" "full" "I") m496) (fun _ h9 => h9) g_E_full dX1_bringFrom_10 ?_
      refine lv_iload_n hx hb dX1_bringFrom_13 rfl (lv_at hl 1 rfl) ?_
      refine lv_ishr hx hb dX1_bringFrom_14 ?_
      refine lv_iconst (v := 1) hx hb dX1_bringFrom_15 (by decide) ?_
      refine lv_iand hx hb dX1_bringFrom_16 ?_
      refine lv_if_ne (tgt := 22) hx hb dX1_bringFrom_17 (by decide) (fun c_3 => ?_) (fun c_3 => ?_)
      · exact absurd (sh_zero p0) c_3
      · have c_3 : ((((0 : Int32) >>> (p0 &&& 31)) &&& 1) : Int32) = 0 := c_3
        refine lv_iconst (v := 0) hx hb dX1_bringFrom_20 (by decide) ?_
        have hP9 := hP.sub (ws' := []) [] rfl
        have hD9 := hD.sub (ws' := []) [] (by decide) rfl
        exact W.zret (v := 0) hx hb hr (by decide) (fun t ht hW => ⟨⟨0, (), rfl, rfl, cB_of ht hP9 hD9⟩, hS.F ht⟩) hS.2.2 dX1_bringFrom_21

set_option maxHeartbeats 4000000 in
set_option maxRecDepth 100000 in
theorem c_X11_back_a (l : Launch) (D : va_G) (k : ClassId × ClassId × ClassId × ClassId) (sz : Nat) (h0 ea : Nat) (F E : List Value) (p0 : Int32) (g_F_earnest : F[8]? = some (.ref ea)) (g_E_full : E[3]? = some (.int 0)) (h_lt0 : p0 < 0) : Met l yX11_back (WS yX11_back cX11_back 2 (some .int)) ({ frames := 1, cells := 0, slots := 0, locals := 21 }) (va_Pc [.ref h0, .int p0] (cP D k [(h0, .inr (11, F)), (ea, .inr (1, E))] sz)) (va_Qi (fun (r : Int32) (_ : Unit) => r = (-1)) (fun (_ : Unit) t => cB D (va_A [(h0, .inr (11, F)), (ea, .inr (1, E))] sz) [] t) (va_A [(h0, .inr (11, F)), (ea, .inr (1, E))] sz)) 0 0 (va_A [(h0, .inr (11, F)), (ea, .inr (1, E))] sz) := by
  refine Met.ofW (cc := cX11_back) (maxL := 2) (ret := (some .int)) (by decide) rfl ?_
  intro p e s m args below meth c s₁ B hml hv
  obtain ⟨rfl, hsz, hP, hKX, hD0⟩ := hv
  have hK := hKX.1
  have hx := B.exec
  have hb := B.bytes
  have hr := B.returns
  have hts := atoms_spec (ws := WS yX11_back cX11_back 2 (some .int)) B.pre
  have hgd : ∀ w ∈ gd, w ∈ WS yX11_back cX11_back 2 (some .int) := fun w h => List.mem_cons_of_mem _ h
  have hg : ∀ w ∈ gd, w.before _ s = true := fun w h => hts w (hgd w h)
  have hown : s.vm.findClass RX11 = some m.cls := findClass_of_methodNamed B.named
  have hlocks := B.notSynchronized
  subst hsz
  have hD := hD0.self (sz := s.heap.size)
  generalize hAe : va_A [(h0, .inr (11, F)), (ea, .inr (1, E))] s.heap.size = A at hD ⊢
  have hA : ∀ q : Nat, s.heap.size ≤ q → A q := fun q h => by rw [← hAe]; exact Or.inr h
  have hS : va_S A s.heap s.heap [] := va_S.rf
  have hP : va_P D classes [(h0, .inr (11, F)), (ea, .inr (1, E))] s.heap := hP
  have hl := lv_entry ([.ref h0, .int p0]) (n := 2) (Nat.le_of_ble_eq_true rfl)
  rw [lg_entry_eq]
  generalize (lg_sl ([.ref h0, .int p0]) ++ List.replicate (2 - (lg_sl ([.ref h0, .int p0])).length) Slot.unset).toArray = ls at hl ⊢
  have hl : lv_has ls 2 [(0, .ref h0), (1, .int p0)] := hl
  refine lv_aload_n hx hb dX11_back_0 rfl (lv_at hl 0 rfl) ?_
  refine va_get (D := D) (ci := 11) (v := .ref ea) (C := RX11) (T := TX11) (N := 13) hx hb hg iX11 hown hK hP 0 rfl rfl 8 (by decide) (hg (Cond.fieldLink RX11 65 "SlabWalk" "earnest" "LSlabWalk$Earnest;") m578) (fun _ h9 => h9) g_F_earnest dX11_back_1 ?_
  refine lv_iload_n hx hb dX11_back_4 rfl (lv_at hl 1 rfl) ?_
  have hPc := hP.sub (ws' := [(ea, .inr (1, E))]) [1] rfl
  have hDc := hD.sub (ws' := [(ea, .inr (1, E))]) [1] (by decide) rfl
  have hFc := va_free (wc := [(ea, .inr (1, E))]) hD hS hA [1] rfl
  refine va_calli (va_runV (As := [.int p0]) (rest := []) ⟨hx, hb, hml, hown, hts⟩ (c_X1_bringFrom_a l D k s.heap.size ea E p0 g_E_full h_lt0) (cwV 1 hts (gd_V hgd m1299 m1300 m1301 m127 m1302) rfl rfl rfl (by decide +kernel) ⟨Nat.le_of_ble_eq_true rfl, Nat.le_of_ble_eq_true rfl⟩) (cP_V hPc hKX hDc (ci := 1) (q0 := 0) rfl rfl) rfl rfl hl.1 rfl (lv_room (Nat.le_of_ble_eq_true rfl)) dX11_back_5 ⟨Nat.le_of_ble_eq_true rfl, Nat.le_of_ble_eq_true rfl⟩) hS (fun q _ h => hFc q h) hFc (fun r_1 u t H1 locs ht hvm hw hB hz1 hk1 hS => ?_)
  obtain ⟨hP1, hD1⟩ := hB
  rw [ht] at hP1
  obtain ⟨hP, hD⟩ := va_join (wr := [(h0, .inr (11, F))]) (w1 := []) hP hD [1] [0] rfl rfl (by decide) (by decide) hk1 hFc hP1 hD1
  generalize H1 = H at hP hS ⊢
  have hP : va_P D classes [(h0, .inr (11, F))] H := hP
  have hD : va_D A [(h0, .inr (11, F))] := hD
  refine W.widen (k := 0) (n := 0) (Nat.le_of_ble_eq_true rfl) (Nat.le_of_ble_eq_true rfl) ?_
  subst hw
  refine lv_if_eq (tgt := 18) hx hb dX11_back_8 (by decide) (fun c_2 => ?_) (fun c_2 => ?_)
  · have c_2 : (0 : Int32) = 0 := c_2
    refine lv_iconst (v := (-1)) hx hb dX11_back_18 (by decide) ?_
    have hP9 := hP.sub (ws' := []) [] rfl
    have hD9 := hD.sub (ws' := []) [] (by decide) rfl
    exact W.iret (v := (-1)) hx hb hr (fun t ht hW => ⟨⟨(-1), (), rfl, rfl, cB_of ht hP9 hD9⟩, hS.F ht⟩) hS.2.2 dX11_back_19
  · exact absurd (by decide) c_2

set_option maxHeartbeats 4000000 in
set_option maxRecDepth 100000 in
theorem c_X11_back_b (l : Launch) (D : va_G) (k : ClassId × ClassId × ClassId × ClassId) (sz : Nat) (h0 ea : Nat) (F E : List Value) (p0 : Int32) (g_F_earnest : F[8]? = some (.ref ea)) (g_E_full : E[3]? = some (.int 0)) (h_nlt0 : ¬ (p0 < 0)) (h_ge3 : 3 ≤ p0) : Met l yX11_back (WS yX11_back cX11_back 2 (some .int)) ({ frames := 1, cells := 0, slots := 0, locals := 21 }) (va_Pc [.ref h0, .int p0] (cP D k [(h0, .inr (11, F)), (ea, .inr (1, E))] sz)) (va_Qi (fun (r : Int32) (_ : Unit) => r = (-1)) (fun (_ : Unit) t => cB D (va_A [(h0, .inr (11, F)), (ea, .inr (1, E))] sz) [] t) (va_A [(h0, .inr (11, F)), (ea, .inr (1, E))] sz)) 0 0 (va_A [(h0, .inr (11, F)), (ea, .inr (1, E))] sz) := by
  refine Met.ofW (cc := cX11_back) (maxL := 2) (ret := (some .int)) (by decide) rfl ?_
  intro p e s m args below meth c s₁ B hml hv
  obtain ⟨rfl, hsz, hP, hKX, hD0⟩ := hv
  have hK := hKX.1
  have hx := B.exec
  have hb := B.bytes
  have hr := B.returns
  have hts := atoms_spec (ws := WS yX11_back cX11_back 2 (some .int)) B.pre
  have hgd : ∀ w ∈ gd, w ∈ WS yX11_back cX11_back 2 (some .int) := fun w h => List.mem_cons_of_mem _ h
  have hg : ∀ w ∈ gd, w.before _ s = true := fun w h => hts w (hgd w h)
  have hown : s.vm.findClass RX11 = some m.cls := findClass_of_methodNamed B.named
  have hlocks := B.notSynchronized
  subst hsz
  have hD := hD0.self (sz := s.heap.size)
  generalize hAe : va_A [(h0, .inr (11, F)), (ea, .inr (1, E))] s.heap.size = A at hD ⊢
  have hA : ∀ q : Nat, s.heap.size ≤ q → A q := fun q h => by rw [← hAe]; exact Or.inr h
  have hS : va_S A s.heap s.heap [] := va_S.rf
  have hP : va_P D classes [(h0, .inr (11, F)), (ea, .inr (1, E))] s.heap := hP
  have hl := lv_entry ([.ref h0, .int p0]) (n := 2) (Nat.le_of_ble_eq_true rfl)
  rw [lg_entry_eq]
  generalize (lg_sl ([.ref h0, .int p0]) ++ List.replicate (2 - (lg_sl ([.ref h0, .int p0])).length) Slot.unset).toArray = ls at hl ⊢
  have hl : lv_has ls 2 [(0, .ref h0), (1, .int p0)] := hl
  refine lv_aload_n hx hb dX11_back_0 rfl (lv_at hl 0 rfl) ?_
  refine va_get (D := D) (ci := 11) (v := .ref ea) (C := RX11) (T := TX11) (N := 13) hx hb hg iX11 hown hK hP 0 rfl rfl 8 (by decide) (hg (Cond.fieldLink RX11 65 "SlabWalk" "earnest" "LSlabWalk$Earnest;") m578) (fun _ h9 => h9) g_F_earnest dX11_back_1 ?_
  refine lv_iload_n hx hb dX11_back_4 rfl (lv_at hl 1 rfl) ?_
  have hPc := hP.sub (ws' := [(ea, .inr (1, E))]) [1] rfl
  have hDc := hD.sub (ws' := [(ea, .inr (1, E))]) [1] (by decide) rfl
  have hFc := va_free (wc := [(ea, .inr (1, E))]) hD hS hA [1] rfl
  refine va_calli (va_runV (As := [.int p0]) (rest := []) ⟨hx, hb, hml, hown, hts⟩ (c_X1_bringFrom_b l D k s.heap.size ea E p0 g_E_full h_nlt0 h_ge3) (cwV 1 hts (gd_V hgd m1299 m1300 m1301 m127 m1302) rfl rfl rfl (by decide +kernel) ⟨Nat.le_of_ble_eq_true rfl, Nat.le_of_ble_eq_true rfl⟩) (cP_V hPc hKX hDc (ci := 1) (q0 := 0) rfl rfl) rfl rfl hl.1 rfl (lv_room (Nat.le_of_ble_eq_true rfl)) dX11_back_5 ⟨Nat.le_of_ble_eq_true rfl, Nat.le_of_ble_eq_true rfl⟩) hS (fun q _ h => hFc q h) hFc (fun r_1 u t H1 locs ht hvm hw hB hz1 hk1 hS => ?_)
  obtain ⟨hP1, hD1⟩ := hB
  rw [ht] at hP1
  obtain ⟨hP, hD⟩ := va_join (wr := [(h0, .inr (11, F))]) (w1 := []) hP hD [1] [0] rfl rfl (by decide) (by decide) hk1 hFc hP1 hD1
  generalize H1 = H at hP hS ⊢
  have hP : va_P D classes [(h0, .inr (11, F))] H := hP
  have hD : va_D A [(h0, .inr (11, F))] := hD
  refine W.widen (k := 0) (n := 0) (Nat.le_of_ble_eq_true rfl) (Nat.le_of_ble_eq_true rfl) ?_
  subst hw
  refine lv_if_eq (tgt := 18) hx hb dX11_back_8 (by decide) (fun c_2 => ?_) (fun c_2 => ?_)
  · have c_2 : (0 : Int32) = 0 := c_2
    refine lv_iconst (v := (-1)) hx hb dX11_back_18 (by decide) ?_
    have hP9 := hP.sub (ws' := []) [] rfl
    have hD9 := hD.sub (ws' := []) [] (by decide) rfl
    exact W.iret (v := (-1)) hx hb hr (fun t ht hW => ⟨⟨(-1), (), rfl, rfl, cB_of ht hP9 hD9⟩, hS.F ht⟩) hS.2.2 dX11_back_19
  · exact absurd (by decide) c_2

set_option maxHeartbeats 4000000 in
set_option maxRecDepth 100000 in
theorem c_X11_back_c (l : Launch) (D : va_G) (k : ClassId × ClassId × ClassId × ClassId) (sz : Nat) (h0 ea : Nat) (F E : List Value) (p0 : Int32) (g_F_earnest : F[8]? = some (.ref ea)) (g_E_full : E[3]? = some (.int 0)) (h_nlt0 : ¬ (p0 < 0)) (h_nge3 : ¬ (3 ≤ p0)) : Met l yX11_back (WS yX11_back cX11_back 2 (some .int)) ({ frames := 1, cells := 0, slots := 0, locals := 21 }) (va_Pc [.ref h0, .int p0] (cP D k [(h0, .inr (11, F)), (ea, .inr (1, E))] sz)) (va_Qi (fun (r : Int32) (_ : Unit) => r = (-1)) (fun (_ : Unit) t => cB D (va_A [(h0, .inr (11, F)), (ea, .inr (1, E))] sz) [] t) (va_A [(h0, .inr (11, F)), (ea, .inr (1, E))] sz)) 0 0 (va_A [(h0, .inr (11, F)), (ea, .inr (1, E))] sz) := by
  refine Met.ofW (cc := cX11_back) (maxL := 2) (ret := (some .int)) (by decide) rfl ?_
  intro p e s m args below meth c s₁ B hml hv
  obtain ⟨rfl, hsz, hP, hKX, hD0⟩ := hv
  have hK := hKX.1
  have hx := B.exec
  have hb := B.bytes
  have hr := B.returns
  have hts := atoms_spec (ws := WS yX11_back cX11_back 2 (some .int)) B.pre
  have hgd : ∀ w ∈ gd, w ∈ WS yX11_back cX11_back 2 (some .int) := fun w h => List.mem_cons_of_mem _ h
  have hg : ∀ w ∈ gd, w.before _ s = true := fun w h => hts w (hgd w h)
  have hown : s.vm.findClass RX11 = some m.cls := findClass_of_methodNamed B.named
  have hlocks := B.notSynchronized
  subst hsz
  have hD := hD0.self (sz := s.heap.size)
  generalize hAe : va_A [(h0, .inr (11, F)), (ea, .inr (1, E))] s.heap.size = A at hD ⊢
  have hA : ∀ q : Nat, s.heap.size ≤ q → A q := fun q h => by rw [← hAe]; exact Or.inr h
  have hS : va_S A s.heap s.heap [] := va_S.rf
  have hP : va_P D classes [(h0, .inr (11, F)), (ea, .inr (1, E))] s.heap := hP
  have hl := lv_entry ([.ref h0, .int p0]) (n := 2) (Nat.le_of_ble_eq_true rfl)
  rw [lg_entry_eq]
  generalize (lg_sl ([.ref h0, .int p0]) ++ List.replicate (2 - (lg_sl ([.ref h0, .int p0])).length) Slot.unset).toArray = ls at hl ⊢
  have hl : lv_has ls 2 [(0, .ref h0), (1, .int p0)] := hl
  refine lv_aload_n hx hb dX11_back_0 rfl (lv_at hl 0 rfl) ?_
  refine va_get (D := D) (ci := 11) (v := .ref ea) (C := RX11) (T := TX11) (N := 13) hx hb hg iX11 hown hK hP 0 rfl rfl 8 (by decide) (hg (Cond.fieldLink RX11 65 "SlabWalk" "earnest" "LSlabWalk$Earnest;") m578) (fun _ h9 => h9) g_F_earnest dX11_back_1 ?_
  refine lv_iload_n hx hb dX11_back_4 rfl (lv_at hl 1 rfl) ?_
  have hPc := hP.sub (ws' := [(ea, .inr (1, E))]) [1] rfl
  have hDc := hD.sub (ws' := [(ea, .inr (1, E))]) [1] (by decide) rfl
  have hFc := va_free (wc := [(ea, .inr (1, E))]) hD hS hA [1] rfl
  refine va_calli (va_runV (As := [.int p0]) (rest := []) ⟨hx, hb, hml, hown, hts⟩ (c_X1_bringFrom_c l D k s.heap.size ea E p0 g_E_full h_nlt0 h_nge3) (cwV 1 hts (gd_V hgd m1299 m1300 m1301 m127 m1302) rfl rfl rfl (by decide +kernel) ⟨Nat.le_of_ble_eq_true rfl, Nat.le_of_ble_eq_true rfl⟩) (cP_V hPc hKX hDc (ci := 1) (q0 := 0) rfl rfl) rfl rfl hl.1 rfl (lv_room (Nat.le_of_ble_eq_true rfl)) dX11_back_5 ⟨Nat.le_of_ble_eq_true rfl, Nat.le_of_ble_eq_true rfl⟩) hS (fun q _ h => hFc q h) hFc (fun r_1 u t H1 locs ht hvm hw hB hz1 hk1 hS => ?_)
  obtain ⟨hP1, hD1⟩ := hB
  rw [ht] at hP1
  obtain ⟨hP, hD⟩ := va_join (wr := [(h0, .inr (11, F))]) (w1 := []) hP hD [1] [0] rfl rfl (by decide) (by decide) hk1 hFc hP1 hD1
  generalize H1 = H at hP hS ⊢
  have hP : va_P D classes [(h0, .inr (11, F))] H := hP
  have hD : va_D A [(h0, .inr (11, F))] := hD
  refine W.widen (k := 0) (n := 0) (Nat.le_of_ble_eq_true rfl) (Nat.le_of_ble_eq_true rfl) ?_
  subst hw
  refine lv_if_eq (tgt := 18) hx hb dX11_back_8 (by decide) (fun c_2 => ?_) (fun c_2 => ?_)
  · have c_2 : (0 : Int32) = 0 := c_2
    refine lv_iconst (v := (-1)) hx hb dX11_back_18 (by decide) ?_
    have hP9 := hP.sub (ws' := []) [] rfl
    have hD9 := hD.sub (ws' := []) [] (by decide) rfl
    exact W.iret (v := (-1)) hx hb hr (fun t ht hW => ⟨⟨(-1), (), rfl, rfl, cB_of ht hP9 hD9⟩, hS.F ht⟩) hS.2.2 dX11_back_19
  · exact absurd (by decide) c_2
