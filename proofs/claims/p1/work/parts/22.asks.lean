set_option maxHeartbeats 4000000 in
set_option maxRecDepth 100000 in
theorem c_X11_canAsk (l : Launch) (D : va_G) (k : ClassId × ClassId × ClassId × ClassId) (sz : Nat) (h0 h1 : Nat) (F P : List Value) (p0 p1 p2 : Int32) (g_F_paving : F[0]? = some (.ref h1)) (g_P_walkers : P[10]? = some (.int 0)) : Met l yX11_canAsk (WS yX11_canAsk cX11_canAsk 4 (some .boolean)) ({ frames := 1, cells := 0, slots := 0, locals := 21 }) (va_Pc [.ref h0, .int p0, .int p1, .int p2] (cP D k [(h0, .inr (11, F)), (h1, .inr (6, P))] sz)) (va_Qi (fun (r : Int32) (_ : Unit) => r = 0) (fun (_ : Unit) t => cB D (va_A [(h0, .inr (11, F)), (h1, .inr (6, P))] sz) [(h0, .inr (11, F)), (h1, .inr (6, P))] t) (va_A [(h0, .inr (11, F)), (h1, .inr (6, P))] sz)) 0 0 (va_A [(h0, .inr (11, F)), (h1, .inr (6, P))] sz) := by
  refine Met.ofW (cc := cX11_canAsk) (maxL := 4) (ret := (some .boolean)) (by decide) rfl ?_
  intro p e s m args below meth c s₁ B hml hv
  obtain ⟨rfl, hsz, hP, hKX, hD0⟩ := hv
  have hK := hKX.1
  have hx := B.exec
  have hb := B.bytes
  have hr := B.returns
  have hts := atoms_spec (ws := WS yX11_canAsk cX11_canAsk 4 (some .boolean)) B.pre
  have hgd : ∀ w ∈ gd, w ∈ WS yX11_canAsk cX11_canAsk 4 (some .boolean) := fun w h => List.mem_cons_of_mem _ h
  have hg : ∀ w ∈ gd, w.before _ s = true := fun w h => hts w (hgd w h)
  have hown : s.vm.findClass RX11 = some m.cls := findClass_of_methodNamed B.named
  have hlocks := B.notSynchronized
  subst hsz
  have hD := hD0.self (sz := s.heap.size)
  generalize hAe : va_A [(h0, .inr (11, F)), (h1, .inr (6, P))] s.heap.size = A at hD ⊢
  have hA : ∀ q : Nat, s.heap.size ≤ q → A q := fun q h => by rw [← hAe]; exact Or.inr h
  have hS : va_S A s.heap s.heap [] := va_S.rf
  have hP : va_P D classes [(h0, .inr (11, F)), (h1, .inr (6, P))] s.heap := hP
  have hl := lv_entry ([.ref h0, .int p0, .int p1, .int p2]) (n := 4) (Nat.le_of_ble_eq_true rfl)
  rw [lg_entry_eq]
  generalize (lg_sl ([.ref h0, .int p0, .int p1, .int p2]) ++ List.replicate (4 - (lg_sl ([.ref h0, .int p0, .int p1, .int p2])).length) Slot.unset).toArray = ls at hl ⊢
  have hl : lv_has ls 4 [(0, .ref h0), (1, .int p0), (2, .int p1), (3, .int p2)] := hl
  refine lv_aload_n hx hb dX11_canAsk_0 rfl (lv_at hl 0 rfl) ?_
  refine va_get (D := D) (ci := 11) (v := .ref h1) (C := RX11) (T := TX11) (N := 13) hx hb hg iX11 hown hK hP 0 rfl rfl 0 (by decide) (hg (Cond.fieldLink RX11 10 "SlabWalk" "paving" "LSlabWalk$Paving;") m570) (fun _ h9 => h9) g_F_paving dX11_canAsk_1 ?_
  refine lv_iload_n hx hb dX11_canAsk_4 rfl (lv_at hl 1 rfl) ?_
  have hPc := hP.sub (ws' := [(h1, .inr (6, P))]) [1] rfl
  have hDc := hD.sub (ws' := [(h1, .inr (6, P))]) [1] (by decide) rfl
  have hFc := va_free (wc := [(h1, .inr (6, P))]) hD hS hA [1] rfl
  refine va_calli (va_runV (As := [.int p0]) (rest := []) ⟨hx, hb, hml, hown, hts⟩ (c_hasWalker l D k s.heap.size h1 P p0 g_P_walkers) (cwV 1 hts (gd_V hgd m957 m958 m959 m118 m960) rfl rfl rfl (by decide +kernel) ⟨Nat.le_of_ble_eq_true rfl, Nat.le_of_ble_eq_true rfl⟩) (cP_V hPc hKX hDc (ci := 6) (q0 := 0) rfl rfl) rfl rfl hl.1 rfl (lv_room (Nat.le_of_ble_eq_true rfl)) dX11_canAsk_5 ⟨Nat.le_of_ble_eq_true rfl, Nat.le_of_ble_eq_true rfl⟩) hS (fun q _ h => hFc q h) hFc (fun r_1 u t H1 locs ht hvm hw hB hz1 hk1 hS => ?_)
  obtain ⟨hP1, hD1⟩ := hB
  rw [ht] at hP1
  obtain ⟨hP, hD⟩ := va_join (wr := [(h0, .inr (11, F))]) (w1 := [(h1, .inr (6, P))]) hP hD [1] [0] rfl rfl (by decide) (by decide) hk1 hFc hP1 hD1
  generalize H1 = H at hP hS ⊢
  have hP : va_P D classes [(h0, .inr (11, F)), (h1, .inr (6, P))] H := hP
  have hD : va_D A [(h0, .inr (11, F)), (h1, .inr (6, P))] := hD
  refine W.widen (k := 0) (n := 0) (Nat.le_of_ble_eq_true rfl) (Nat.le_of_ble_eq_true rfl) ?_
  subst hw
  refine lv_if_eq (tgt := 37) hx hb dX11_canAsk_8 (by decide) (fun c_2 => ?_) (fun c_2 => ?_)
  · have c_2 : (0 : Int32) = 0 := c_2
    refine lv_iconst (v := 0) hx hb dX11_canAsk_37 (by decide) ?_
    have hP9 := hP.sub (ws' := [(h0, .inr (11, F)), (h1, .inr (6, P))]) [0, 1] rfl
    have hD9 := hD.sub (ws' := [(h0, .inr (11, F)), (h1, .inr (6, P))]) [0, 1] (by decide) rfl
    exact W.zret (v := 0) hx hb hr (by decide) (fun t ht hW => ⟨⟨0, (), rfl, rfl, cB_of ht hP9 hD9⟩, hS.F ht⟩) hS.2.2 dX11_canAsk_38
  · exact absurd (by decide) c_2

set_option maxHeartbeats 4000000 in
set_option maxRecDepth 100000 in
theorem c_X11_canBeBrave (l : Launch) (D : va_G) (k : ClassId × ClassId × ClassId × ClassId) (sz : Nat) (h0 h1 : Nat) (F P : List Value) (p0 p1 p2 p3 p4 : Int32) (g_F_paving : F[0]? = some (.ref h1)) (g_P_walkers : P[10]? = some (.int 0)) : Met l yX11_canBeBrave (WS yX11_canBeBrave cX11_canBeBrave 6 (some .boolean)) ({ frames := 2, cells := 0, slots := 0, locals := 44 }) (va_Pc [.ref h0, .int p0, .int p1, .int p2, .int p3, .int p4] (cP D k [(h0, .inr (11, F)), (h1, .inr (6, P))] sz)) (va_Qi (fun (r : Int32) (_ : Unit) => r = 0) (fun (_ : Unit) t => cB D (va_A [(h0, .inr (11, F)), (h1, .inr (6, P))] sz) [(h0, .inr (11, F)), (h1, .inr (6, P))] t) (va_A [(h0, .inr (11, F)), (h1, .inr (6, P))] sz)) 0 0 (va_A [(h0, .inr (11, F)), (h1, .inr (6, P))] sz) := by
  refine Met.ofW (cc := cX11_canBeBrave) (maxL := 6) (ret := (some .boolean)) (by decide) rfl ?_
  intro p e s m args below meth c s₁ B hml hv
  obtain ⟨rfl, hsz, hP, hKX, hD0⟩ := hv
  have hK := hKX.1
  have hx := B.exec
  have hb := B.bytes
  have hr := B.returns
  have hts := atoms_spec (ws := WS yX11_canBeBrave cX11_canBeBrave 6 (some .boolean)) B.pre
  have hgd : ∀ w ∈ gd, w ∈ WS yX11_canBeBrave cX11_canBeBrave 6 (some .boolean) := fun w h => List.mem_cons_of_mem _ h
  have hg : ∀ w ∈ gd, w.before _ s = true := fun w h => hts w (hgd w h)
  have hown : s.vm.findClass RX11 = some m.cls := findClass_of_methodNamed B.named
  have hlocks := B.notSynchronized
  subst hsz
  have hD := hD0.self (sz := s.heap.size)
  generalize hAe : va_A [(h0, .inr (11, F)), (h1, .inr (6, P))] s.heap.size = A at hD ⊢
  have hA : ∀ q : Nat, s.heap.size ≤ q → A q := fun q h => by rw [← hAe]; exact Or.inr h
  have hS : va_S A s.heap s.heap [] := va_S.rf
  have hP : va_P D classes [(h0, .inr (11, F)), (h1, .inr (6, P))] s.heap := hP
  have hl := lv_entry ([.ref h0, .int p0, .int p1, .int p2, .int p3, .int p4]) (n := 6) (Nat.le_of_ble_eq_true rfl)
  rw [lg_entry_eq]
  generalize (lg_sl ([.ref h0, .int p0, .int p1, .int p2, .int p3, .int p4]) ++ List.replicate (6 - (lg_sl ([.ref h0, .int p0, .int p1, .int p2, .int p3, .int p4])).length) Slot.unset).toArray = ls at hl ⊢
  have hl : lv_has ls 6 [(0, .ref h0), (1, .int p0), (2, .int p1), (3, .int p2), (4, .int p3), (5, .int p4)] := hl
  refine lv_aload_n hx hb dX11_canBeBrave_0 rfl (lv_at hl 0 rfl) ?_
  refine lv_iload_n hx hb dX11_canBeBrave_1 rfl (lv_at hl 1 rfl) ?_
  refine lv_iload_n hx hb dX11_canBeBrave_2 rfl (lv_at hl 2 rfl) ?_
  refine lv_iload_n hx hb dX11_canBeBrave_3 rfl (lv_at hl 3 rfl) ?_
  have hPc := hP.sub (ws' := [(h0, .inr (11, F)), (h1, .inr (6, P))]) [0, 1] rfl
  have hDc := hD.sub (ws' := [(h0, .inr (11, F)), (h1, .inr (6, P))]) [0, 1] (by decide) rfl
  have hFc := va_free (wc := [(h0, .inr (11, F)), (h1, .inr (6, P))]) hD hS hA [0, 1] rfl
  refine va_calli (va_runV (As := [.int p0, .int p1, .int p2]) (rest := []) ⟨hx, hb, hml, hown, hts⟩ (c_X11_canAsk l D k s.heap.size h0 h1 F P p0 p1 p2 g_F_paving g_P_walkers) (cwV 3 hts (gd_V hgd m953 m955 m31 m117 m956) rfl rfl rfl (by decide +kernel) ⟨Nat.le_of_ble_eq_true rfl, Nat.le_of_ble_eq_true rfl⟩) (cP_V hPc hKX hDc (ci := 11) (q0 := 0) rfl rfl) rfl rfl hl.1 rfl (lv_room (Nat.le_of_ble_eq_true rfl)) dX11_canBeBrave_4 ⟨Nat.le_of_ble_eq_true rfl, Nat.le_of_ble_eq_true rfl⟩) hS (fun q _ h => hFc q h) hFc (fun r_1 u t H1 locs ht hvm hw hB hz1 hk1 hS => ?_)
  obtain ⟨hP1, hD1⟩ := hB
  rw [ht] at hP1
  obtain ⟨hP, hD⟩ := va_join (wr := []) (w1 := [(h0, .inr (11, F)), (h1, .inr (6, P))]) hP hD [0, 1] [] rfl rfl (by decide) (by decide) hk1 hFc hP1 hD1
  generalize H1 = H at hP hS ⊢
  have hP : va_P D classes [(h0, .inr (11, F)), (h1, .inr (6, P))] H := hP
  have hD : va_D A [(h0, .inr (11, F)), (h1, .inr (6, P))] := hD
  refine W.widen (k := 0) (n := 0) (Nat.le_of_ble_eq_true rfl) (Nat.le_of_ble_eq_true rfl) ?_
  subst hw
  refine lv_if_eq (tgt := 41) hx hb dX11_canBeBrave_7 (by decide) (fun c_2 => ?_) (fun c_2 => ?_)
  · have c_2 : (0 : Int32) = 0 := c_2
    refine lv_iconst (v := 0) hx hb dX11_canBeBrave_41 (by decide) ?_
    have hP9 := hP.sub (ws' := [(h0, .inr (11, F)), (h1, .inr (6, P))]) [0, 1] rfl
    have hD9 := hD.sub (ws' := [(h0, .inr (11, F)), (h1, .inr (6, P))]) [0, 1] (by decide) rfl
    exact W.zret (v := 0) hx hb hr (by decide) (fun t ht hW => ⟨⟨0, (), rfl, rfl, cB_of ht hP9 hD9⟩, hS.F ht⟩) hS.2.2 dX11_canBeBrave_42
  · exact absurd (by decide) c_2

set_option maxHeartbeats 4000000 in
set_option maxRecDepth 100000 in
theorem c_X11_inch (l : Launch) (D : va_G) (k : ClassId × ClassId × ClassId × ClassId) (sz : Nat) (h0 h1 : Nat) (F P : List Value) (p0 p1 p2 : Int32) (g_F_paving : F[0]? = some (.ref h1)) (g_P_streets : P[9]? = some (.int 0)) : Met l yX11_inch (WS yX11_inch cX11_inch 4 (some .int)) ({ frames := 2, cells := 0, slots := 0, locals := 43 }) (va_Pc [.ref h0, .int p0, .int p1, .int p2] (cP D k [(h0, .inr (11, F)), (h1, .inr (6, P))] sz)) (va_Qi (fun (r : Int32) (_ : Unit) => r = (-1)) (fun (_ : Unit) t => cB D (va_A [(h0, .inr (11, F)), (h1, .inr (6, P))] sz) [] t) (va_A [(h0, .inr (11, F)), (h1, .inr (6, P))] sz)) 0 0 (va_A [(h0, .inr (11, F)), (h1, .inr (6, P))] sz) := by
  refine Met.ofW (cc := cX11_inch) (maxL := 4) (ret := (some .int)) (by decide) rfl ?_
  intro p e s m args below meth c s₁ B hml hv
  obtain ⟨rfl, hsz, hP, hKX, hD0⟩ := hv
  have hK := hKX.1
  have hx := B.exec
  have hb := B.bytes
  have hr := B.returns
  have hts := atoms_spec (ws := WS yX11_inch cX11_inch 4 (some .int)) B.pre
  have hgd : ∀ w ∈ gd, w ∈ WS yX11_inch cX11_inch 4 (some .int) := fun w h => List.mem_cons_of_mem _ h
  have hg : ∀ w ∈ gd, w.before _ s = true := fun w h => hts w (hgd w h)
  have hown : s.vm.findClass RX11 = some m.cls := findClass_of_methodNamed B.named
  have hlocks := B.notSynchronized
  subst hsz
  have hD := hD0.self (sz := s.heap.size)
  generalize hAe : va_A [(h0, .inr (11, F)), (h1, .inr (6, P))] s.heap.size = A at hD ⊢
  have hA : ∀ q : Nat, s.heap.size ≤ q → A q := fun q h => by rw [← hAe]; exact Or.inr h
  have hS : va_S A s.heap s.heap [] := va_S.rf
  have hP : va_P D classes [(h0, .inr (11, F)), (h1, .inr (6, P))] s.heap := hP
  have hl := lv_entry ([.ref h0, .int p0, .int p1, .int p2]) (n := 4) (Nat.le_of_ble_eq_true rfl)
  rw [lg_entry_eq]
  generalize (lg_sl ([.ref h0, .int p0, .int p1, .int p2]) ++ List.replicate (4 - (lg_sl ([.ref h0, .int p0, .int p1, .int p2])).length) Slot.unset).toArray = ls at hl ⊢
  have hl : lv_has ls 4 [(0, .ref h0), (1, .int p0), (2, .int p1), (3, .int p2)] := hl
  refine lv_aload_n hx hb dX11_inch_0 rfl (lv_at hl 0 rfl) ?_
  refine va_get (D := D) (ci := 11) (v := .ref h1) (C := RX11) (T := TX11) (N := 13) hx hb hg iX11 hown hK hP 0 rfl rfl 0 (by decide) (hg (Cond.fieldLink RX11 10 "SlabWalk" "paving" "LSlabWalk$Paving;") m570) (fun _ h9 => h9) g_F_paving dX11_inch_1 ?_
  refine lv_iload_n hx hb dX11_inch_4 rfl (lv_at hl 1 rfl) ?_
  refine lv_iload_n hx hb dX11_inch_5 rfl (lv_at hl 2 rfl) ?_
  have hPc := hP.sub (ws' := [(h1, .inr (6, P))]) [1] rfl
  have hDc := hD.sub (ws' := [(h1, .inr (6, P))]) [1] (by decide) rfl
  have hFc := va_free (wc := [(h1, .inr (6, P))]) hD hS hA [1] rfl
  refine va_calli (va_runV (As := [.int p0, .int p1]) (rest := []) ⟨hx, hb, hml, hown, hts⟩ (c_hasInch l D k s.heap.size h1 P p0 p1 g_P_streets) (cwV 2 hts (gd_V hgd m882 m883 m884 m118 m885) rfl rfl rfl (by decide +kernel) ⟨Nat.le_of_ble_eq_true rfl, Nat.le_of_ble_eq_true rfl⟩) (cP_V hPc hKX hDc (ci := 6) (q0 := 0) rfl rfl) rfl rfl hl.1 rfl (lv_room (Nat.le_of_ble_eq_true rfl)) dX11_inch_6 ⟨Nat.le_of_ble_eq_true rfl, Nat.le_of_ble_eq_true rfl⟩) hS (fun q _ h => hFc q h) hFc (fun r_1 u t H1 locs ht hvm hw hB hz1 hk1 hS => ?_)
  obtain ⟨hP1, hD1⟩ := hB
  rw [ht] at hP1
  obtain ⟨hP, hD⟩ := va_join (wr := [(h0, .inr (11, F))]) (w1 := [(h1, .inr (6, P))]) hP hD [1] [0] rfl rfl (by decide) (by decide) hk1 hFc hP1 hD1
  generalize H1 = H at hP hS ⊢
  have hP : va_P D classes [(h0, .inr (11, F)), (h1, .inr (6, P))] H := hP
  have hD : va_D A [(h0, .inr (11, F)), (h1, .inr (6, P))] := hD
  refine W.widen (k := 0) (n := 0) (Nat.le_of_ble_eq_true rfl) (Nat.le_of_ble_eq_true rfl) ?_
  subst hw
  refine lv_if_eq (tgt := 21) hx hb dX11_inch_9 (by decide) (fun c_2 => ?_) (fun c_2 => ?_)
  · have c_2 : (0 : Int32) = 0 := c_2
    refine lv_iconst (v := (-1)) hx hb dX11_inch_21 (by decide) ?_
    have hP9 := hP.sub (ws' := []) [] rfl
    have hD9 := hD.sub (ws' := []) [] (by decide) rfl
    exact W.iret (v := (-1)) hx hb hr (fun t ht hW => ⟨⟨(-1), (), rfl, rfl, cB_of ht hP9 hD9⟩, hS.F ht⟩) hS.2.2 dX11_inch_22
  · exact absurd (by decide) c_2

set_option maxHeartbeats 4000000 in
set_option maxRecDepth 100000 in
theorem c_X11_length (l : Launch) (D : va_G) (k : ClassId × ClassId × ClassId × ClassId) (sz : Nat) (h0 h1 : Nat) (F P : List Value) (p0 : Int32) (g_F_paving : F[0]? = some (.ref h1)) (g_P_streets : P[9]? = some (.int 0)) : Met l yX11_length (WS yX11_length cX11_length 2 (some .int)) ({ frames := 1, cells := 0, slots := 0, locals := 21 }) (va_Pc [.ref h0, .int p0] (cP D k [(h0, .inr (11, F)), (h1, .inr (6, P))] sz)) (va_Qi (fun (r : Int32) (_ : Unit) => r = (-1)) (fun (_ : Unit) t => cB D (va_A [(h0, .inr (11, F)), (h1, .inr (6, P))] sz) [] t) (va_A [(h0, .inr (11, F)), (h1, .inr (6, P))] sz)) 0 0 (va_A [(h0, .inr (11, F)), (h1, .inr (6, P))] sz) := by
  refine Met.ofW (cc := cX11_length) (maxL := 2) (ret := (some .int)) (by decide) rfl ?_
  intro p e s m args below meth c s₁ B hml hv
  obtain ⟨rfl, hsz, hP, hKX, hD0⟩ := hv
  have hK := hKX.1
  have hx := B.exec
  have hb := B.bytes
  have hr := B.returns
  have hts := atoms_spec (ws := WS yX11_length cX11_length 2 (some .int)) B.pre
  have hgd : ∀ w ∈ gd, w ∈ WS yX11_length cX11_length 2 (some .int) := fun w h => List.mem_cons_of_mem _ h
  have hg : ∀ w ∈ gd, w.before _ s = true := fun w h => hts w (hgd w h)
  have hown : s.vm.findClass RX11 = some m.cls := findClass_of_methodNamed B.named
  have hlocks := B.notSynchronized
  subst hsz
  have hD := hD0.self (sz := s.heap.size)
  generalize hAe : va_A [(h0, .inr (11, F)), (h1, .inr (6, P))] s.heap.size = A at hD ⊢
  have hA : ∀ q : Nat, s.heap.size ≤ q → A q := fun q h => by rw [← hAe]; exact Or.inr h
  have hS : va_S A s.heap s.heap [] := va_S.rf
  have hP : va_P D classes [(h0, .inr (11, F)), (h1, .inr (6, P))] s.heap := hP
  have hl := lv_entry ([.ref h0, .int p0]) (n := 2) (Nat.le_of_ble_eq_true rfl)
  rw [lg_entry_eq]
  generalize (lg_sl ([.ref h0, .int p0]) ++ List.replicate (2 - (lg_sl ([.ref h0, .int p0])).length) Slot.unset).toArray = ls at hl ⊢
  have hl : lv_has ls 2 [(0, .ref h0), (1, .int p0)] := hl
  refine lv_aload_n hx hb dX11_length_0 rfl (lv_at hl 0 rfl) ?_
  refine va_get (D := D) (ci := 11) (v := .ref h1) (C := RX11) (T := TX11) (N := 13) hx hb hg iX11 hown hK hP 0 rfl rfl 0 (by decide) (hg (Cond.fieldLink RX11 10 "SlabWalk" "paving" "LSlabWalk$Paving;") m570) (fun _ h9 => h9) g_F_paving dX11_length_1 ?_
  refine lv_iload_n hx hb dX11_length_4 rfl (lv_at hl 1 rfl) ?_
  have hPc := hP.sub (ws' := [(h1, .inr (6, P))]) [1] rfl
  have hDc := hD.sub (ws' := [(h1, .inr (6, P))]) [1] (by decide) rfl
  have hFc := va_free (wc := [(h1, .inr (6, P))]) hD hS hA [1] rfl
  refine va_calli (va_runV (As := [.int p0]) (rest := []) ⟨hx, hb, hml, hown, hts⟩ (c_hasStreet l D k s.heap.size h1 P p0 g_P_streets) (cwV 1 hts (gd_V hgd m902 m887 m888 m118 m889) rfl rfl rfl (by decide +kernel) ⟨Nat.le_of_ble_eq_true rfl, Nat.le_of_ble_eq_true rfl⟩) (cP_V hPc hKX hDc (ci := 6) (q0 := 0) rfl rfl) rfl rfl hl.1 rfl (lv_room (Nat.le_of_ble_eq_true rfl)) dX11_length_5 ⟨Nat.le_of_ble_eq_true rfl, Nat.le_of_ble_eq_true rfl⟩) hS (fun q _ h => hFc q h) hFc (fun r_1 u t H1 locs ht hvm hw hB hz1 hk1 hS => ?_)
  obtain ⟨hP1, hD1⟩ := hB
  rw [ht] at hP1
  obtain ⟨hP, hD⟩ := va_join (wr := [(h0, .inr (11, F))]) (w1 := [(h1, .inr (6, P))]) hP hD [1] [0] rfl rfl (by decide) (by decide) hk1 hFc hP1 hD1
  generalize H1 = H at hP hS ⊢
  have hP : va_P D classes [(h0, .inr (11, F)), (h1, .inr (6, P))] H := hP
  have hD : va_D A [(h0, .inr (11, F)), (h1, .inr (6, P))] := hD
  refine W.widen (k := 0) (n := 0) (Nat.le_of_ble_eq_true rfl) (Nat.le_of_ble_eq_true rfl) ?_
  subst hw
  refine lv_if_eq (tgt := 23) hx hb dX11_length_8 (by decide) (fun c_2 => ?_) (fun c_2 => ?_)
  · have c_2 : (0 : Int32) = 0 := c_2
    refine lv_iconst (v := (-1)) hx hb dX11_length_23 (by decide) ?_
    have hP9 := hP.sub (ws' := []) [] rfl
    have hD9 := hD.sub (ws' := []) [] (by decide) rfl
    exact W.iret (v := (-1)) hx hb hr (fun t ht hW => ⟨⟨(-1), (), rfl, rfl, cB_of ht hP9 hD9⟩, hS.F ht⟩) hS.2.2 dX11_length_24
  · exact absurd (by decide) c_2

set_option maxHeartbeats 4000000 in
set_option maxRecDepth 100000 in
theorem c_X11_line (l : Launch) (D : va_G) (k : ClassId × ClassId × ClassId × ClassId) (sz : Nat) (h0 h1 : Nat) (F P : List Value) (p0 p1 p2 : Int32) (g_F_paving : F[0]? = some (.ref h1)) (g_P_streets : P[9]? = some (.int 0)) : Met l yX11_line (WS yX11_line cX11_line 4 (some .int)) ({ frames := 2, cells := 0, slots := 0, locals := 43 }) (va_Pc [.ref h0, .int p0, .int p1, .int p2] (cP D k [(h0, .inr (11, F)), (h1, .inr (6, P))] sz)) (va_Qi (fun (r : Int32) (_ : Unit) => r = (-1)) (fun (_ : Unit) t => cB D (va_A [(h0, .inr (11, F)), (h1, .inr (6, P))] sz) [] t) (va_A [(h0, .inr (11, F)), (h1, .inr (6, P))] sz)) 0 0 (va_A [(h0, .inr (11, F)), (h1, .inr (6, P))] sz) := by
  refine Met.ofW (cc := cX11_line) (maxL := 4) (ret := (some .int)) (by decide) rfl ?_
  intro p e s m args below meth c s₁ B hml hv
  obtain ⟨rfl, hsz, hP, hKX, hD0⟩ := hv
  have hK := hKX.1
  have hx := B.exec
  have hb := B.bytes
  have hr := B.returns
  have hts := atoms_spec (ws := WS yX11_line cX11_line 4 (some .int)) B.pre
  have hgd : ∀ w ∈ gd, w ∈ WS yX11_line cX11_line 4 (some .int) := fun w h => List.mem_cons_of_mem _ h
  have hg : ∀ w ∈ gd, w.before _ s = true := fun w h => hts w (hgd w h)
  have hown : s.vm.findClass RX11 = some m.cls := findClass_of_methodNamed B.named
  have hlocks := B.notSynchronized
  subst hsz
  have hD := hD0.self (sz := s.heap.size)
  generalize hAe : va_A [(h0, .inr (11, F)), (h1, .inr (6, P))] s.heap.size = A at hD ⊢
  have hA : ∀ q : Nat, s.heap.size ≤ q → A q := fun q h => by rw [← hAe]; exact Or.inr h
  have hS : va_S A s.heap s.heap [] := va_S.rf
  have hP : va_P D classes [(h0, .inr (11, F)), (h1, .inr (6, P))] s.heap := hP
  have hl := lv_entry ([.ref h0, .int p0, .int p1, .int p2]) (n := 4) (Nat.le_of_ble_eq_true rfl)
  rw [lg_entry_eq]
  generalize (lg_sl ([.ref h0, .int p0, .int p1, .int p2]) ++ List.replicate (4 - (lg_sl ([.ref h0, .int p0, .int p1, .int p2])).length) Slot.unset).toArray = ls at hl ⊢
  have hl : lv_has ls 4 [(0, .ref h0), (1, .int p0), (2, .int p1), (3, .int p2)] := hl
  refine lv_aload_n hx hb dX11_line_0 rfl (lv_at hl 0 rfl) ?_
  refine va_get (D := D) (ci := 11) (v := .ref h1) (C := RX11) (T := TX11) (N := 13) hx hb hg iX11 hown hK hP 0 rfl rfl 0 (by decide) (hg (Cond.fieldLink RX11 10 "SlabWalk" "paving" "LSlabWalk$Paving;") m570) (fun _ h9 => h9) g_F_paving dX11_line_1 ?_
  refine lv_iload_n hx hb dX11_line_4 rfl (lv_at hl 1 rfl) ?_
  refine lv_iload_n hx hb dX11_line_5 rfl (lv_at hl 3 rfl) ?_
  have hPc := hP.sub (ws' := [(h1, .inr (6, P))]) [1] rfl
  have hDc := hD.sub (ws' := [(h1, .inr (6, P))]) [1] (by decide) rfl
  have hFc := va_free (wc := [(h1, .inr (6, P))]) hD hS hA [1] rfl
  refine va_calli (va_runV (As := [.int p0, .int p2]) (rest := []) ⟨hx, hb, hml, hown, hts⟩ (c_hasInch l D k s.heap.size h1 P p0 p2 g_P_streets) (cwV 2 hts (gd_V hgd m882 m883 m884 m118 m885) rfl rfl rfl (by decide +kernel) ⟨Nat.le_of_ble_eq_true rfl, Nat.le_of_ble_eq_true rfl⟩) (cP_V hPc hKX hDc (ci := 6) (q0 := 0) rfl rfl) rfl rfl hl.1 rfl (lv_room (Nat.le_of_ble_eq_true rfl)) dX11_line_6 ⟨Nat.le_of_ble_eq_true rfl, Nat.le_of_ble_eq_true rfl⟩) hS (fun q _ h => hFc q h) hFc (fun r_1 u t H1 locs ht hvm hw hB hz1 hk1 hS => ?_)
  obtain ⟨hP1, hD1⟩ := hB
  rw [ht] at hP1
  obtain ⟨hP, hD⟩ := va_join (wr := [(h0, .inr (11, F))]) (w1 := [(h1, .inr (6, P))]) hP hD [1] [0] rfl rfl (by decide) (by decide) hk1 hFc hP1 hD1
  generalize H1 = H at hP hS ⊢
  have hP : va_P D classes [(h0, .inr (11, F)), (h1, .inr (6, P))] H := hP
  have hD : va_D A [(h0, .inr (11, F)), (h1, .inr (6, P))] := hD
  refine W.widen (k := 0) (n := 0) (Nat.le_of_ble_eq_true rfl) (Nat.le_of_ble_eq_true rfl) ?_
  subst hw
  refine lv_if_eq (tgt := 23) hx hb dX11_line_9 (by decide) (fun c_2 => ?_) (fun c_2 => ?_)
  · have c_2 : (0 : Int32) = 0 := c_2
    refine lv_iconst (v := (-1)) hx hb dX11_line_23 (by decide) ?_
    have hP9 := hP.sub (ws' := []) [] rfl
    have hD9 := hD.sub (ws' := []) [] (by decide) rfl
    exact W.iret (v := (-1)) hx hb hr (fun t ht hW => ⟨⟨(-1), (), rfl, rfl, cB_of ht hP9 hD9⟩, hS.F ht⟩) hS.2.2 dX11_line_24
  · exact absurd (by decide) c_2

set_option maxHeartbeats 4000000 in
set_option maxRecDepth 100000 in
theorem c_X11_gap (l : Launch) (D : va_G) (k : ClassId × ClassId × ClassId × ClassId) (sz : Nat) (h0 h1 : Nat) (F P : List Value) (p0 p1 p2 : Int32) (g_F_paving : F[0]? = some (.ref h1)) (g_P_streets : P[9]? = some (.int 0)) : Met l yX11_gap (WS yX11_gap cX11_gap 10 (some .int)) ({ frames := 1, cells := 0, slots := 0, locals := 21 }) (va_Pc [.ref h0, .int p0, .int p1, .int p2] (cP D k [(h0, .inr (11, F)), (h1, .inr (6, P))] sz)) (va_Qi (fun (r : Int32) (_ : Unit) => r = (-1)) (fun (_ : Unit) t => cB D (va_A [(h0, .inr (11, F)), (h1, .inr (6, P))] sz) [] t) (va_A [(h0, .inr (11, F)), (h1, .inr (6, P))] sz)) 0 0 (va_A [(h0, .inr (11, F)), (h1, .inr (6, P))] sz) := by
  refine Met.ofW (cc := cX11_gap) (maxL := 10) (ret := (some .int)) (by decide) rfl ?_
  intro p e s m args below meth c s₁ B hml hv
  obtain ⟨rfl, hsz, hP, hKX, hD0⟩ := hv
  have hK := hKX.1
  have hx := B.exec
  have hb := B.bytes
  have hr := B.returns
  have hts := atoms_spec (ws := WS yX11_gap cX11_gap 10 (some .int)) B.pre
  have hgd : ∀ w ∈ gd, w ∈ WS yX11_gap cX11_gap 10 (some .int) := fun w h => List.mem_cons_of_mem _ h
  have hg : ∀ w ∈ gd, w.before _ s = true := fun w h => hts w (hgd w h)
  have hown : s.vm.findClass RX11 = some m.cls := findClass_of_methodNamed B.named
  have hlocks := B.notSynchronized
  subst hsz
  have hD := hD0.self (sz := s.heap.size)
  generalize hAe : va_A [(h0, .inr (11, F)), (h1, .inr (6, P))] s.heap.size = A at hD ⊢
  have hA : ∀ q : Nat, s.heap.size ≤ q → A q := fun q h => by rw [← hAe]; exact Or.inr h
  have hS : va_S A s.heap s.heap [] := va_S.rf
  have hP : va_P D classes [(h0, .inr (11, F)), (h1, .inr (6, P))] s.heap := hP
  have hl := lv_entry ([.ref h0, .int p0, .int p1, .int p2]) (n := 10) (Nat.le_of_ble_eq_true rfl)
  rw [lg_entry_eq]
  generalize (lg_sl ([.ref h0, .int p0, .int p1, .int p2]) ++ List.replicate (10 - (lg_sl ([.ref h0, .int p0, .int p1, .int p2])).length) Slot.unset).toArray = ls at hl ⊢
  have hl : lv_has ls 10 [(0, .ref h0), (1, .int p0), (2, .int p1), (3, .int p2)] := hl
  refine lv_aload_n hx hb dX11_gap_0 rfl (lv_at hl 0 rfl) ?_
  refine va_get (D := D) (ci := 11) (v := .ref h1) (C := RX11) (T := TX11) (N := 13) hx hb hg iX11 hown hK hP 0 rfl rfl 0 (by decide) (hg (Cond.fieldLink RX11 10 "SlabWalk" "paving" "LSlabWalk$Paving;") m570) (fun _ h9 => h9) g_F_paving dX11_gap_1 ?_
  refine lv_iload_n hx hb dX11_gap_4 rfl (lv_at hl 1 rfl) ?_
  have hPc := hP.sub (ws' := [(h1, .inr (6, P))]) [1] rfl
  have hDc := hD.sub (ws' := [(h1, .inr (6, P))]) [1] (by decide) rfl
  have hFc := va_free (wc := [(h1, .inr (6, P))]) hD hS hA [1] rfl
  refine va_calli (va_runV (As := [.int p0]) (rest := []) ⟨hx, hb, hml, hown, hts⟩ (c_hasStreet l D k s.heap.size h1 P p0 g_P_streets) (cwV 1 hts (gd_V hgd m902 m887 m888 m118 m889) rfl rfl rfl (by decide +kernel) ⟨Nat.le_of_ble_eq_true rfl, Nat.le_of_ble_eq_true rfl⟩) (cP_V hPc hKX hDc (ci := 6) (q0 := 0) rfl rfl) rfl rfl hl.1 rfl (lv_room (Nat.le_of_ble_eq_true rfl)) dX11_gap_5 ⟨Nat.le_of_ble_eq_true rfl, Nat.le_of_ble_eq_true rfl⟩) hS (fun q _ h => hFc q h) hFc (fun r_1 u t H1 locs ht hvm hw hB hz1 hk1 hS => ?_)
  obtain ⟨hP1, hD1⟩ := hB
  rw [ht] at hP1
  obtain ⟨hP, hD⟩ := va_join (wr := [(h0, .inr (11, F))]) (w1 := [(h1, .inr (6, P))]) hP hD [1] [0] rfl rfl (by decide) (by decide) hk1 hFc hP1 hD1
  generalize H1 = H at hP hS ⊢
  have hP : va_P D classes [(h0, .inr (11, F)), (h1, .inr (6, P))] H := hP
  have hD : va_D A [(h0, .inr (11, F)), (h1, .inr (6, P))] := hD
  refine W.widen (k := 0) (n := 0) (Nat.le_of_ble_eq_true rfl) (Nat.le_of_ble_eq_true rfl) ?_
  subst hw
  refine lv_if_eq (tgt := 22) hx hb dX11_gap_8 (by decide) (fun c_2 => ?_) (fun c_2 => ?_)
  · have c_2 : (0 : Int32) = 0 := c_2
    refine lv_iconst (v := (-1)) hx hb dX11_gap_22 (by decide) ?_
    have hP9 := hP.sub (ws' := []) [] rfl
    have hD9 := hD.sub (ws' := []) [] (by decide) rfl
    exact W.iret (v := (-1)) hx hb hr (fun t ht hW => ⟨⟨(-1), (), rfl, rfl, cB_of ht hP9 hD9⟩, hS.F ht⟩) hS.2.2 dX11_gap_23
  · exact absurd (by decide) c_2

set_option maxHeartbeats 4000000 in
set_option maxRecDepth 100000 in
theorem c_X11_foot (l : Launch) (D : va_G) (k : ClassId × ClassId × ClassId × ClassId) (sz : Nat) (h0 h1 : Nat) (F P : List Value) (p0 p1 p2 p3 : Int32) (g_F_paving : F[0]? = some (.ref h1)) (g_P_walkers : P[10]? = some (.int 0)) : Met l yX11_foot (WS yX11_foot cX11_foot 5 (some .int)) ({ frames := 2, cells := 0, slots := 0, locals := 44 }) (va_Pc [.ref h0, .int p0, .int p1, .int p2, .int p3] (cP D k [(h0, .inr (11, F)), (h1, .inr (6, P))] sz)) (va_Qi (fun (r : Int32) (_ : Unit) => r = (-1)) (fun (_ : Unit) t => cB D (va_A [(h0, .inr (11, F)), (h1, .inr (6, P))] sz) [] t) (va_A [(h0, .inr (11, F)), (h1, .inr (6, P))] sz)) 0 0 (va_A [(h0, .inr (11, F)), (h1, .inr (6, P))] sz) := by
  refine Met.ofW (cc := cX11_foot) (maxL := 5) (ret := (some .int)) (by decide) rfl ?_
  intro p e s m args below meth c s₁ B hml hv
  obtain ⟨rfl, hsz, hP, hKX, hD0⟩ := hv
  have hK := hKX.1
  have hx := B.exec
  have hb := B.bytes
  have hr := B.returns
  have hts := atoms_spec (ws := WS yX11_foot cX11_foot 5 (some .int)) B.pre
  have hgd : ∀ w ∈ gd, w ∈ WS yX11_foot cX11_foot 5 (some .int) := fun w h => List.mem_cons_of_mem _ h
  have hg : ∀ w ∈ gd, w.before _ s = true := fun w h => hts w (hgd w h)
  have hown : s.vm.findClass RX11 = some m.cls := findClass_of_methodNamed B.named
  have hlocks := B.notSynchronized
  subst hsz
  have hD := hD0.self (sz := s.heap.size)
  generalize hAe : va_A [(h0, .inr (11, F)), (h1, .inr (6, P))] s.heap.size = A at hD ⊢
  have hA : ∀ q : Nat, s.heap.size ≤ q → A q := fun q h => by rw [← hAe]; exact Or.inr h
  have hS : va_S A s.heap s.heap [] := va_S.rf
  have hP : va_P D classes [(h0, .inr (11, F)), (h1, .inr (6, P))] s.heap := hP
  have hl := lv_entry ([.ref h0, .int p0, .int p1, .int p2, .int p3]) (n := 5) (Nat.le_of_ble_eq_true rfl)
  rw [lg_entry_eq]
  generalize (lg_sl ([.ref h0, .int p0, .int p1, .int p2, .int p3]) ++ List.replicate (5 - (lg_sl ([.ref h0, .int p0, .int p1, .int p2, .int p3])).length) Slot.unset).toArray = ls at hl ⊢
  have hl : lv_has ls 5 [(0, .ref h0), (1, .int p0), (2, .int p1), (3, .int p2), (4, .int p3)] := hl
  refine lv_aload_n hx hb dX11_foot_0 rfl (lv_at hl 0 rfl) ?_
  refine lv_iload_n hx hb dX11_foot_1 rfl (lv_at hl 1 rfl) ?_
  refine lv_iload_n hx hb dX11_foot_2 rfl (lv_at hl 2 rfl) ?_
  refine lv_iload_n hx hb dX11_foot_3 rfl (lv_at hl 3 rfl) ?_
  have hPc := hP.sub (ws' := [(h0, .inr (11, F)), (h1, .inr (6, P))]) [0, 1] rfl
  have hDc := hD.sub (ws' := [(h0, .inr (11, F)), (h1, .inr (6, P))]) [0, 1] (by decide) rfl
  have hFc := va_free (wc := [(h0, .inr (11, F)), (h1, .inr (6, P))]) hD hS hA [0, 1] rfl
  refine va_calli (va_runV (As := [.int p0, .int p1, .int p2]) (rest := []) ⟨hx, hb, hml, hown, hts⟩ (c_X11_canAsk l D k s.heap.size h0 h1 F P p0 p1 p2 g_F_paving g_P_walkers) (cwV 3 hts (gd_V hgd m953 m955 m31 m117 m956) rfl rfl rfl (by decide +kernel) ⟨Nat.le_of_ble_eq_true rfl, Nat.le_of_ble_eq_true rfl⟩) (cP_V hPc hKX hDc (ci := 11) (q0 := 0) rfl rfl) rfl rfl hl.1 rfl (lv_room (Nat.le_of_ble_eq_true rfl)) dX11_foot_4 ⟨Nat.le_of_ble_eq_true rfl, Nat.le_of_ble_eq_true rfl⟩) hS (fun q _ h => hFc q h) hFc (fun r_1 u t H1 locs ht hvm hw hB hz1 hk1 hS => ?_)
  obtain ⟨hP1, hD1⟩ := hB
  rw [ht] at hP1
  obtain ⟨hP, hD⟩ := va_join (wr := []) (w1 := [(h0, .inr (11, F)), (h1, .inr (6, P))]) hP hD [0, 1] [] rfl rfl (by decide) (by decide) hk1 hFc hP1 hD1
  generalize H1 = H at hP hS ⊢
  have hP : va_P D classes [(h0, .inr (11, F)), (h1, .inr (6, P))] H := hP
  have hD : va_D A [(h0, .inr (11, F)), (h1, .inr (6, P))] := hD
  refine W.widen (k := 0) (n := 0) (Nat.le_of_ble_eq_true rfl) (Nat.le_of_ble_eq_true rfl) ?_
  subst hw
  refine lv_if_eq (tgt := 23) hx hb dX11_foot_7 (by decide) (fun c_2 => ?_) (fun c_2 => ?_)
  · have c_2 : (0 : Int32) = 0 := c_2
    refine lv_iconst (v := (-1)) hx hb dX11_foot_23 (by decide) ?_
    have hP9 := hP.sub (ws' := []) [] rfl
    have hD9 := hD.sub (ws' := []) [] (by decide) rfl
    exact W.iret (v := (-1)) hx hb hr (fun t ht hW => ⟨⟨(-1), (), rfl, rfl, cB_of ht hP9 hD9⟩, hS.F ht⟩) hS.2.2 dX11_foot_24
  · exact absurd (by decide) c_2

set_option maxHeartbeats 4000000 in
set_option maxRecDepth 100000 in
theorem c_X11_fewest (l : Launch) (D : va_G) (k : ClassId × ClassId × ClassId × ClassId) (sz : Nat) (h0 h1 : Nat) (F P : List Value) (p0 p1 p2 p3 : Int32) (g_F_paving : F[0]? = some (.ref h1)) (g_F_lie : F[12]? = some (.int 0)) (g_P_walkers : P[10]? = some (.int 0)) : Met l yX11_fewest (WS yX11_fewest cX11_fewest 6 (some .int)) ({ frames := 2, cells := 0, slots := 0, locals := 44 }) (va_Pc [.ref h0, .int p0, .int p1, .int p2, .int p3] (cP D k [(h0, .inr (11, F)), (h1, .inr (6, P))] sz)) (va_Qi (fun (r : Int32) (_ : Unit) => r = (-1)) (fun (_ : Unit) t => cB D (va_A [(h0, .inr (11, F)), (h1, .inr (6, P))] sz) [] t) (va_A [(h0, .inr (11, F)), (h1, .inr (6, P))] sz)) 0 0 (va_A [(h0, .inr (11, F)), (h1, .inr (6, P))] sz) := by
  refine Met.ofW (cc := cX11_fewest) (maxL := 6) (ret := (some .int)) (by decide) rfl ?_
  intro p e s m args below meth c s₁ B hml hv
  obtain ⟨rfl, hsz, hP, hKX, hD0⟩ := hv
  have hK := hKX.1
  have hx := B.exec
  have hb := B.bytes
  have hr := B.returns
  have hts := atoms_spec (ws := WS yX11_fewest cX11_fewest 6 (some .int)) B.pre
  have hgd : ∀ w ∈ gd, w ∈ WS yX11_fewest cX11_fewest 6 (some .int) := fun w h => List.mem_cons_of_mem _ h
  have hg : ∀ w ∈ gd, w.before _ s = true := fun w h => hts w (hgd w h)
  have hown : s.vm.findClass RX11 = some m.cls := findClass_of_methodNamed B.named
  have hlocks := B.notSynchronized
  subst hsz
  have hD := hD0.self (sz := s.heap.size)
  generalize hAe : va_A [(h0, .inr (11, F)), (h1, .inr (6, P))] s.heap.size = A at hD ⊢
  have hA : ∀ q : Nat, s.heap.size ≤ q → A q := fun q h => by rw [← hAe]; exact Or.inr h
  have hS : va_S A s.heap s.heap [] := va_S.rf
  have hP : va_P D classes [(h0, .inr (11, F)), (h1, .inr (6, P))] s.heap := hP
  have hl := lv_entry ([.ref h0, .int p0, .int p1, .int p2, .int p3]) (n := 6) (Nat.le_of_ble_eq_true rfl)
  rw [lg_entry_eq]
  generalize (lg_sl ([.ref h0, .int p0, .int p1, .int p2, .int p3]) ++ List.replicate (6 - (lg_sl ([.ref h0, .int p0, .int p1, .int p2, .int p3])).length) Slot.unset).toArray = ls at hl ⊢
  have hl : lv_has ls 6 [(0, .ref h0), (1, .int p0), (2, .int p1), (3, .int p2), (4, .int p3)] := hl
  refine lv_aload_n hx hb dX11_fewest_0 rfl (lv_at hl 0 rfl) ?_
  refine lv_iconst (v := 0) hx hb dX11_fewest_1 (by decide) ?_
  refine va_put (D := D) (ci := 11) (v := .int 0) (ty := .int) (C := RX11) (T := TX11) (N := 13) hx hb hg iX11 tyX11 tyX11_ok nmX11 hown hK hP hD hS 0 rfl rfl 12 (by decide) (hg (Cond.fieldLink RX11 150 "SlabWalk" "lie" "I") m582) (fun _ h9 => h9) rfl (by decide +kernel) rfl rfl (fs_lt g_F_lie) dX11_fewest_2 (fun H locs hP hD hS => ?_)
  have hP : va_P D classes [(h0, .inr (11, (F.set 12 (.int 0)))), (h1, .inr (6, P))] H := hP
  have hD : va_D A [(h0, .inr (11, (F.set 12 (.int 0)))), (h1, .inr (6, P))] := hD
  refine lv_aload_n hx hb dX11_fewest_5 rfl (lv_at hl 0 rfl) ?_
  refine lv_iload_n hx hb dX11_fewest_6 rfl (lv_at hl 1 rfl) ?_
  refine lv_iload_n hx hb dX11_fewest_7 rfl (lv_at hl 2 rfl) ?_
  refine lv_iload_n hx hb dX11_fewest_8 rfl (lv_at hl 3 rfl) ?_
  have hPc := hP.sub (ws' := [(h0, .inr (11, (F.set 12 (.int 0)))), (h1, .inr (6, P))]) [0, 1] rfl
  have hDc := hD.sub (ws' := [(h0, .inr (11, (F.set 12 (.int 0)))), (h1, .inr (6, P))]) [0, 1] (by decide) rfl
  have hFc := va_free (wc := [(h0, .inr (11, (F.set 12 (.int 0)))), (h1, .inr (6, P))]) hD hS hA [0, 1] rfl
  refine va_calli (va_runV (As := [.int p0, .int p1, .int p2]) (rest := []) ⟨hx, hb, hml, hown, hts⟩ (c_X11_canAsk l D k H.size h0 h1 (F.set 12 (.int 0)) P p0 p1 p2 (fs_ne g_F_paving (by decide)) g_P_walkers) (cwV 3 hts (gd_V hgd m953 m955 m31 m117 m956) rfl rfl rfl (by decide +kernel) ⟨Nat.le_of_ble_eq_true rfl, Nat.le_of_ble_eq_true rfl⟩) (cP_V hPc hKX hDc (ci := 11) (q0 := 0) rfl rfl) rfl rfl hl.1 rfl (lv_room (Nat.le_of_ble_eq_true rfl)) dX11_fewest_9 ⟨Nat.le_of_ble_eq_true rfl, Nat.le_of_ble_eq_true rfl⟩) hS (fun q _ h => hFc q h) hFc (fun r_1 u t H1 locs ht hvm hw hB hz1 hk1 hS => ?_)
  obtain ⟨hP1, hD1⟩ := hB
  rw [ht] at hP1
  obtain ⟨hP, hD⟩ := va_join (wr := []) (w1 := [(h0, .inr (11, (F.set 12 (.int 0)))), (h1, .inr (6, P))]) hP hD [0, 1] [] rfl rfl (by decide) (by decide) hk1 hFc hP1 hD1
  generalize H1 = H at hP hS ⊢
  have hP : va_P D classes [(h0, .inr (11, (F.set 12 (.int 0)))), (h1, .inr (6, P))] H := hP
  have hD : va_D A [(h0, .inr (11, (F.set 12 (.int 0)))), (h1, .inr (6, P))] := hD
  refine W.widen (k := 0) (n := 0) (Nat.le_of_ble_eq_true rfl) (Nat.le_of_ble_eq_true rfl) ?_
  subst hw
  refine lv_if_eq (tgt := 26) hx hb dX11_fewest_12 (by decide) (fun c_2 => ?_) (fun c_2 => ?_)
  · have c_2 : (0 : Int32) = 0 := c_2
    refine lv_iconst (v := (-1)) hx hb dX11_fewest_26 (by decide) ?_
    have hP9 := hP.sub (ws' := []) [] rfl
    have hD9 := hD.sub (ws' := []) [] (by decide) rfl
    exact W.iret (v := (-1)) hx hb hr (fun t ht hW => ⟨⟨(-1), (), rfl, rfl, cB_of ht hP9 hD9⟩, hS.F ht⟩) hS.2.2 dX11_fewest_27
  · exact absurd (by decide) c_2

set_option maxHeartbeats 4000000 in
set_option maxRecDepth 100000 in
theorem c_X11_ways (l : Launch) (D : va_G) (k : ClassId × ClassId × ClassId × ClassId) (sz : Nat) (h0 h1 : Nat) (F P : List Value) (p0 p1 p2 p3 : Int32) (g_F_paving : F[0]? = some (.ref h1)) (g_P_walkers : P[10]? = some (.int 0)) : Met l yX11_ways (WS yX11_ways cX11_ways 5 (some .long)) ({ frames := 2, cells := 0, slots := 0, locals := 44 }) (va_Pc [.ref h0, .int p0, .int p1, .int p2, .int p3] (cP D k [(h0, .inr (11, F)), (h1, .inr (6, P))] sz)) (va_Ql (fun (r : Int64) (_ : Unit) => r = (-1)) (fun (_ : Unit) t => cB D (va_A [(h0, .inr (11, F)), (h1, .inr (6, P))] sz) [] t) (va_A [(h0, .inr (11, F)), (h1, .inr (6, P))] sz)) 0 0 (va_A [(h0, .inr (11, F)), (h1, .inr (6, P))] sz) := by
  refine Met.ofW (cc := cX11_ways) (maxL := 5) (ret := (some .long)) (by decide) rfl ?_
  intro p e s m args below meth c s₁ B hml hv
  obtain ⟨rfl, hsz, hP, hKX, hD0⟩ := hv
  have hK := hKX.1
  have hx := B.exec
  have hb := B.bytes
  have hr := B.returns
  have hts := atoms_spec (ws := WS yX11_ways cX11_ways 5 (some .long)) B.pre
  have hgd : ∀ w ∈ gd, w ∈ WS yX11_ways cX11_ways 5 (some .long) := fun w h => List.mem_cons_of_mem _ h
  have hg : ∀ w ∈ gd, w.before _ s = true := fun w h => hts w (hgd w h)
  have hown : s.vm.findClass RX11 = some m.cls := findClass_of_methodNamed B.named
  have hlocks := B.notSynchronized
  subst hsz
  have hD := hD0.self (sz := s.heap.size)
  generalize hAe : va_A [(h0, .inr (11, F)), (h1, .inr (6, P))] s.heap.size = A at hD ⊢
  have hA : ∀ q : Nat, s.heap.size ≤ q → A q := fun q h => by rw [← hAe]; exact Or.inr h
  have hS : va_S A s.heap s.heap [] := va_S.rf
  have hP : va_P D classes [(h0, .inr (11, F)), (h1, .inr (6, P))] s.heap := hP
  have hl := lv_entry ([.ref h0, .int p0, .int p1, .int p2, .int p3]) (n := 5) (Nat.le_of_ble_eq_true rfl)
  rw [lg_entry_eq]
  generalize (lg_sl ([.ref h0, .int p0, .int p1, .int p2, .int p3]) ++ List.replicate (5 - (lg_sl ([.ref h0, .int p0, .int p1, .int p2, .int p3])).length) Slot.unset).toArray = ls at hl ⊢
  have hl : lv_has ls 5 [(0, .ref h0), (1, .int p0), (2, .int p1), (3, .int p2), (4, .int p3)] := hl
  refine lv_aload_n hx hb dX11_ways_0 rfl (lv_at hl 0 rfl) ?_
  refine lv_iload_n hx hb dX11_ways_1 rfl (lv_at hl 1 rfl) ?_
  refine lv_iload_n hx hb dX11_ways_2 rfl (lv_at hl 2 rfl) ?_
  refine lv_iload_n hx hb dX11_ways_3 rfl (lv_at hl 3 rfl) ?_
  have hPc := hP.sub (ws' := [(h0, .inr (11, F)), (h1, .inr (6, P))]) [0, 1] rfl
  have hDc := hD.sub (ws' := [(h0, .inr (11, F)), (h1, .inr (6, P))]) [0, 1] (by decide) rfl
  have hFc := va_free (wc := [(h0, .inr (11, F)), (h1, .inr (6, P))]) hD hS hA [0, 1] rfl
  refine va_calli (va_runV (As := [.int p0, .int p1, .int p2]) (rest := []) ⟨hx, hb, hml, hown, hts⟩ (c_X11_canAsk l D k s.heap.size h0 h1 F P p0 p1 p2 g_F_paving g_P_walkers) (cwV 3 hts (gd_V hgd m953 m955 m31 m117 m956) rfl rfl rfl (by decide +kernel) ⟨Nat.le_of_ble_eq_true rfl, Nat.le_of_ble_eq_true rfl⟩) (cP_V hPc hKX hDc (ci := 11) (q0 := 0) rfl rfl) rfl rfl hl.1 rfl (lv_room (Nat.le_of_ble_eq_true rfl)) dX11_ways_4 ⟨Nat.le_of_ble_eq_true rfl, Nat.le_of_ble_eq_true rfl⟩) hS (fun q _ h => hFc q h) hFc (fun r_1 u t H1 locs ht hvm hw hB hz1 hk1 hS => ?_)
  obtain ⟨hP1, hD1⟩ := hB
  rw [ht] at hP1
  obtain ⟨hP, hD⟩ := va_join (wr := []) (w1 := [(h0, .inr (11, F)), (h1, .inr (6, P))]) hP hD [0, 1] [] rfl rfl (by decide) (by decide) hk1 hFc hP1 hD1
  generalize H1 = H at hP hS ⊢
  have hP : va_P D classes [(h0, .inr (11, F)), (h1, .inr (6, P))] H := hP
  have hD : va_D A [(h0, .inr (11, F)), (h1, .inr (6, P))] := hD
  refine W.widen (k := 0) (n := 0) (Nat.le_of_ble_eq_true rfl) (Nat.le_of_ble_eq_true rfl) ?_
  subst hw
  refine lv_if_eq (tgt := 23) hx hb dX11_ways_7 (by decide) (fun c_2 => ?_) (fun c_2 => ?_)
  · have c_2 : (0 : Int32) = 0 := c_2
    refine lv_ldc2 (v := (-1)) hx hb hown (hg (Cond.constantLong RX11 165 (-1)) m1018) dX11_ways_23 ?_
    have hP9 := hP.sub (ws' := []) [] rfl
    have hD9 := hD.sub (ws' := []) [] (by decide) rfl
    exact W.lret (v := (-1)) hx hb hr (fun t ht hW => ⟨⟨(-1), (), rfl, rfl, cB_of ht hP9 hD9⟩, hS.F ht⟩) hS.2.2 dX11_ways_26
  · exact absurd (by decide) c_2

set_option maxHeartbeats 4000000 in
set_option maxRecDepth 100000 in
theorem c_X11_evenest (l : Launch) (D : va_G) (k : ClassId × ClassId × ClassId × ClassId) (sz : Nat) (h0 h1 : Nat) (F P : List Value) (p0 p1 p2 p3 : Int32) (g_F_paving : F[0]? = some (.ref h1)) (g_P_walkers : P[10]? = some (.int 0)) : Met l yX11_evenest (WS yX11_evenest cX11_evenest 5 (some .int)) ({ frames := 2, cells := 0, slots := 0, locals := 44 }) (va_Pc [.ref h0, .int p0, .int p1, .int p2, .int p3] (cP D k [(h0, .inr (11, F)), (h1, .inr (6, P))] sz)) (va_Qi (fun (r : Int32) (_ : Unit) => r = (-1)) (fun (_ : Unit) t => cB D (va_A [(h0, .inr (11, F)), (h1, .inr (6, P))] sz) [] t) (va_A [(h0, .inr (11, F)), (h1, .inr (6, P))] sz)) 0 0 (va_A [(h0, .inr (11, F)), (h1, .inr (6, P))] sz) := by
  refine Met.ofW (cc := cX11_evenest) (maxL := 5) (ret := (some .int)) (by decide) rfl ?_
  intro p e s m args below meth c s₁ B hml hv
  obtain ⟨rfl, hsz, hP, hKX, hD0⟩ := hv
  have hK := hKX.1
  have hx := B.exec
  have hb := B.bytes
  have hr := B.returns
  have hts := atoms_spec (ws := WS yX11_evenest cX11_evenest 5 (some .int)) B.pre
  have hgd : ∀ w ∈ gd, w ∈ WS yX11_evenest cX11_evenest 5 (some .int) := fun w h => List.mem_cons_of_mem _ h
  have hg : ∀ w ∈ gd, w.before _ s = true := fun w h => hts w (hgd w h)
  have hown : s.vm.findClass RX11 = some m.cls := findClass_of_methodNamed B.named
  have hlocks := B.notSynchronized
  subst hsz
  have hD := hD0.self (sz := s.heap.size)
  generalize hAe : va_A [(h0, .inr (11, F)), (h1, .inr (6, P))] s.heap.size = A at hD ⊢
  have hA : ∀ q : Nat, s.heap.size ≤ q → A q := fun q h => by rw [← hAe]; exact Or.inr h
  have hS : va_S A s.heap s.heap [] := va_S.rf
  have hP : va_P D classes [(h0, .inr (11, F)), (h1, .inr (6, P))] s.heap := hP
  have hl := lv_entry ([.ref h0, .int p0, .int p1, .int p2, .int p3]) (n := 5) (Nat.le_of_ble_eq_true rfl)
  rw [lg_entry_eq]
  generalize (lg_sl ([.ref h0, .int p0, .int p1, .int p2, .int p3]) ++ List.replicate (5 - (lg_sl ([.ref h0, .int p0, .int p1, .int p2, .int p3])).length) Slot.unset).toArray = ls at hl ⊢
  have hl : lv_has ls 5 [(0, .ref h0), (1, .int p0), (2, .int p1), (3, .int p2), (4, .int p3)] := hl
  refine lv_aload_n hx hb dX11_evenest_0 rfl (lv_at hl 0 rfl) ?_
  refine lv_iload_n hx hb dX11_evenest_1 rfl (lv_at hl 1 rfl) ?_
  refine lv_iload_n hx hb dX11_evenest_2 rfl (lv_at hl 2 rfl) ?_
  refine lv_iload_n hx hb dX11_evenest_3 rfl (lv_at hl 3 rfl) ?_
  have hPc := hP.sub (ws' := [(h0, .inr (11, F)), (h1, .inr (6, P))]) [0, 1] rfl
  have hDc := hD.sub (ws' := [(h0, .inr (11, F)), (h1, .inr (6, P))]) [0, 1] (by decide) rfl
  have hFc := va_free (wc := [(h0, .inr (11, F)), (h1, .inr (6, P))]) hD hS hA [0, 1] rfl
  refine va_calli (va_runV (As := [.int p0, .int p1, .int p2]) (rest := []) ⟨hx, hb, hml, hown, hts⟩ (c_X11_canAsk l D k s.heap.size h0 h1 F P p0 p1 p2 g_F_paving g_P_walkers) (cwV 3 hts (gd_V hgd m953 m955 m31 m117 m956) rfl rfl rfl (by decide +kernel) ⟨Nat.le_of_ble_eq_true rfl, Nat.le_of_ble_eq_true rfl⟩) (cP_V hPc hKX hDc (ci := 11) (q0 := 0) rfl rfl) rfl rfl hl.1 rfl (lv_room (Nat.le_of_ble_eq_true rfl)) dX11_evenest_4 ⟨Nat.le_of_ble_eq_true rfl, Nat.le_of_ble_eq_true rfl⟩) hS (fun q _ h => hFc q h) hFc (fun r_1 u t H1 locs ht hvm hw hB hz1 hk1 hS => ?_)
  obtain ⟨hP1, hD1⟩ := hB
  rw [ht] at hP1
  obtain ⟨hP, hD⟩ := va_join (wr := []) (w1 := [(h0, .inr (11, F)), (h1, .inr (6, P))]) hP hD [0, 1] [] rfl rfl (by decide) (by decide) hk1 hFc hP1 hD1
  generalize H1 = H at hP hS ⊢
  have hP : va_P D classes [(h0, .inr (11, F)), (h1, .inr (6, P))] H := hP
  have hD : va_D A [(h0, .inr (11, F)), (h1, .inr (6, P))] := hD
  refine W.widen (k := 0) (n := 0) (Nat.le_of_ble_eq_true rfl) (Nat.le_of_ble_eq_true rfl) ?_
  subst hw
  refine lv_if_eq (tgt := 21) hx hb dX11_evenest_7 (by decide) (fun c_2 => ?_) (fun c_2 => ?_)
  · have c_2 : (0 : Int32) = 0 := c_2
    refine lv_iconst (v := (-1)) hx hb dX11_evenest_21 (by decide) ?_
    have hP9 := hP.sub (ws' := []) [] rfl
    have hD9 := hD.sub (ws' := []) [] (by decide) rfl
    exact W.iret (v := (-1)) hx hb hr (fun t ht hW => ⟨⟨(-1), (), rfl, rfl, cB_of ht hP9 hD9⟩, hS.F ht⟩) hS.2.2 dX11_evenest_22
  · exact absurd (by decide) c_2

set_option maxHeartbeats 4000000 in
set_option maxRecDepth 100000 in
theorem c_X11_even (l : Launch) (D : va_G) (k : ClassId × ClassId × ClassId × ClassId) (sz : Nat) (h0 h1 : Nat) (F P : List Value) (p0 p1 p2 p3 p4 : Int32) (g_F_paving : F[0]? = some (.ref h1)) (g_P_walkers : P[10]? = some (.int 0)) : Met l yX11_even (WS yX11_even cX11_even 8 (some .int)) ({ frames := 2, cells := 0, slots := 0, locals := 44 }) (va_Pc [.ref h0, .int p0, .int p1, .int p2, .int p3, .int p4] (cP D k [(h0, .inr (11, F)), (h1, .inr (6, P))] sz)) (va_Qi (fun (r : Int32) (_ : Unit) => r = (-1)) (fun (_ : Unit) t => cB D (va_A [(h0, .inr (11, F)), (h1, .inr (6, P))] sz) [] t) (va_A [(h0, .inr (11, F)), (h1, .inr (6, P))] sz)) 0 0 (va_A [(h0, .inr (11, F)), (h1, .inr (6, P))] sz) := by
  refine Met.ofW (cc := cX11_even) (maxL := 8) (ret := (some .int)) (by decide) rfl ?_
  intro p e s m args below meth c s₁ B hml hv
  obtain ⟨rfl, hsz, hP, hKX, hD0⟩ := hv
  have hK := hKX.1
  have hx := B.exec
  have hb := B.bytes
  have hr := B.returns
  have hts := atoms_spec (ws := WS yX11_even cX11_even 8 (some .int)) B.pre
  have hgd : ∀ w ∈ gd, w ∈ WS yX11_even cX11_even 8 (some .int) := fun w h => List.mem_cons_of_mem _ h
  have hg : ∀ w ∈ gd, w.before _ s = true := fun w h => hts w (hgd w h)
  have hown : s.vm.findClass RX11 = some m.cls := findClass_of_methodNamed B.named
  have hlocks := B.notSynchronized
  subst hsz
  have hD := hD0.self (sz := s.heap.size)
  generalize hAe : va_A [(h0, .inr (11, F)), (h1, .inr (6, P))] s.heap.size = A at hD ⊢
  have hA : ∀ q : Nat, s.heap.size ≤ q → A q := fun q h => by rw [← hAe]; exact Or.inr h
  have hS : va_S A s.heap s.heap [] := va_S.rf
  have hP : va_P D classes [(h0, .inr (11, F)), (h1, .inr (6, P))] s.heap := hP
  have hl := lv_entry ([.ref h0, .int p0, .int p1, .int p2, .int p3, .int p4]) (n := 8) (Nat.le_of_ble_eq_true rfl)
  rw [lg_entry_eq]
  generalize (lg_sl ([.ref h0, .int p0, .int p1, .int p2, .int p3, .int p4]) ++ List.replicate (8 - (lg_sl ([.ref h0, .int p0, .int p1, .int p2, .int p3, .int p4])).length) Slot.unset).toArray = ls at hl ⊢
  have hl : lv_has ls 8 [(0, .ref h0), (1, .int p0), (2, .int p1), (3, .int p2), (4, .int p3), (5, .int p4)] := hl
  refine lv_aload_n hx hb dX11_even_0 rfl (lv_at hl 0 rfl) ?_
  refine lv_iload_n hx hb dX11_even_1 rfl (lv_at hl 1 rfl) ?_
  refine lv_iload_n hx hb dX11_even_2 rfl (lv_at hl 2 rfl) ?_
  refine lv_iload_n hx hb dX11_even_3 rfl (lv_at hl 3 rfl) ?_
  have hPc := hP.sub (ws' := [(h0, .inr (11, F)), (h1, .inr (6, P))]) [0, 1] rfl
  have hDc := hD.sub (ws' := [(h0, .inr (11, F)), (h1, .inr (6, P))]) [0, 1] (by decide) rfl
  have hFc := va_free (wc := [(h0, .inr (11, F)), (h1, .inr (6, P))]) hD hS hA [0, 1] rfl
  refine va_calli (va_runV (As := [.int p0, .int p1, .int p2]) (rest := []) ⟨hx, hb, hml, hown, hts⟩ (c_X11_canAsk l D k s.heap.size h0 h1 F P p0 p1 p2 g_F_paving g_P_walkers) (cwV 3 hts (gd_V hgd m953 m955 m31 m117 m956) rfl rfl rfl (by decide +kernel) ⟨Nat.le_of_ble_eq_true rfl, Nat.le_of_ble_eq_true rfl⟩) (cP_V hPc hKX hDc (ci := 11) (q0 := 0) rfl rfl) rfl rfl hl.1 rfl (lv_room (Nat.le_of_ble_eq_true rfl)) dX11_even_4 ⟨Nat.le_of_ble_eq_true rfl, Nat.le_of_ble_eq_true rfl⟩) hS (fun q _ h => hFc q h) hFc (fun r_1 u t H1 locs ht hvm hw hB hz1 hk1 hS => ?_)
  obtain ⟨hP1, hD1⟩ := hB
  rw [ht] at hP1
  obtain ⟨hP, hD⟩ := va_join (wr := []) (w1 := [(h0, .inr (11, F)), (h1, .inr (6, P))]) hP hD [0, 1] [] rfl rfl (by decide) (by decide) hk1 hFc hP1 hD1
  generalize H1 = H at hP hS ⊢
  have hP : va_P D classes [(h0, .inr (11, F)), (h1, .inr (6, P))] H := hP
  have hD : va_D A [(h0, .inr (11, F)), (h1, .inr (6, P))] := hD
  refine W.widen (k := 0) (n := 0) (Nat.le_of_ble_eq_true rfl) (Nat.le_of_ble_eq_true rfl) ?_
  subst hw
  refine lv_if_eq (tgt := 36) hx hb dX11_even_7 (by decide) (fun c_2 => ?_) (fun c_2 => ?_)
  · have c_2 : (0 : Int32) = 0 := c_2
    refine lv_iconst (v := (-1)) hx hb dX11_even_36 (by decide) ?_
    have hP9 := hP.sub (ws' := []) [] rfl
    have hD9 := hD.sub (ws' := []) [] (by decide) rfl
    exact W.iret (v := (-1)) hx hb hr (fun t ht hW => ⟨⟨(-1), (), rfl, rfl, cB_of ht hP9 hD9⟩, hS.F ht⟩) hS.2.2 dX11_even_37
  · exact absurd (by decide) c_2

set_option maxHeartbeats 4000000 in
set_option maxRecDepth 100000 in
theorem c_X11_evens (l : Launch) (D : va_G) (k : ClassId × ClassId × ClassId × ClassId) (sz : Nat) (h0 h1 : Nat) (F P : List Value) (p0 p1 p2 : Int32) (g_F_paving : F[0]? = some (.ref h1)) (g_F_lie : F[12]? = some (.int 0)) (g_P_walkers : P[10]? = some (.int 0)) : Met l yX11_evens (WS yX11_evens cX11_evens 5 (some .int)) ({ frames := 2, cells := 0, slots := 0, locals := 44 }) (va_Pc [.ref h0, .int p0, .int p1, .int p2] (cP D k [(h0, .inr (11, F)), (h1, .inr (6, P))] sz)) (va_Qi (fun (r : Int32) (_ : Unit) => r = (-1)) (fun (_ : Unit) t => cB D (va_A [(h0, .inr (11, F)), (h1, .inr (6, P))] sz) [] t) (va_A [(h0, .inr (11, F)), (h1, .inr (6, P))] sz)) 0 0 (va_A [(h0, .inr (11, F)), (h1, .inr (6, P))] sz) := by
  refine Met.ofW (cc := cX11_evens) (maxL := 5) (ret := (some .int)) (by decide) rfl ?_
  intro p e s m args below meth c s₁ B hml hv
  obtain ⟨rfl, hsz, hP, hKX, hD0⟩ := hv
  have hK := hKX.1
  have hx := B.exec
  have hb := B.bytes
  have hr := B.returns
  have hts := atoms_spec (ws := WS yX11_evens cX11_evens 5 (some .int)) B.pre
  have hgd : ∀ w ∈ gd, w ∈ WS yX11_evens cX11_evens 5 (some .int) := fun w h => List.mem_cons_of_mem _ h
  have hg : ∀ w ∈ gd, w.before _ s = true := fun w h => hts w (hgd w h)
  have hown : s.vm.findClass RX11 = some m.cls := findClass_of_methodNamed B.named
  have hlocks := B.notSynchronized
  subst hsz
  have hD := hD0.self (sz := s.heap.size)
  generalize hAe : va_A [(h0, .inr (11, F)), (h1, .inr (6, P))] s.heap.size = A at hD ⊢
  have hA : ∀ q : Nat, s.heap.size ≤ q → A q := fun q h => by rw [← hAe]; exact Or.inr h
  have hS : va_S A s.heap s.heap [] := va_S.rf
  have hP : va_P D classes [(h0, .inr (11, F)), (h1, .inr (6, P))] s.heap := hP
  have hl := lv_entry ([.ref h0, .int p0, .int p1, .int p2]) (n := 5) (Nat.le_of_ble_eq_true rfl)
  rw [lg_entry_eq]
  generalize (lg_sl ([.ref h0, .int p0, .int p1, .int p2]) ++ List.replicate (5 - (lg_sl ([.ref h0, .int p0, .int p1, .int p2])).length) Slot.unset).toArray = ls at hl ⊢
  have hl : lv_has ls 5 [(0, .ref h0), (1, .int p0), (2, .int p1), (3, .int p2)] := hl
  refine lv_aload_n hx hb dX11_evens_0 rfl (lv_at hl 0 rfl) ?_
  refine lv_iconst (v := 0) hx hb dX11_evens_1 (by decide) ?_
  refine va_put (D := D) (ci := 11) (v := .int 0) (ty := .int) (C := RX11) (T := TX11) (N := 13) hx hb hg iX11 tyX11 tyX11_ok nmX11 hown hK hP hD hS 0 rfl rfl 12 (by decide) (hg (Cond.fieldLink RX11 150 "SlabWalk" "lie" "I") m582) (fun _ h9 => h9) rfl (by decide +kernel) rfl rfl (fs_lt g_F_lie) dX11_evens_2 (fun H locs hP hD hS => ?_)
  have hP : va_P D classes [(h0, .inr (11, (F.set 12 (.int 0)))), (h1, .inr (6, P))] H := hP
  have hD : va_D A [(h0, .inr (11, (F.set 12 (.int 0)))), (h1, .inr (6, P))] := hD
  refine lv_aload_n hx hb dX11_evens_5 rfl (lv_at hl 0 rfl) ?_
  refine lv_iload_n hx hb dX11_evens_6 rfl (lv_at hl 1 rfl) ?_
  refine lv_iload_n hx hb dX11_evens_7 rfl (lv_at hl 2 rfl) ?_
  refine lv_iload_n hx hb dX11_evens_8 rfl (lv_at hl 3 rfl) ?_
  have hPc := hP.sub (ws' := [(h0, .inr (11, (F.set 12 (.int 0)))), (h1, .inr (6, P))]) [0, 1] rfl
  have hDc := hD.sub (ws' := [(h0, .inr (11, (F.set 12 (.int 0)))), (h1, .inr (6, P))]) [0, 1] (by decide) rfl
  have hFc := va_free (wc := [(h0, .inr (11, (F.set 12 (.int 0)))), (h1, .inr (6, P))]) hD hS hA [0, 1] rfl
  refine va_calli (va_runV (As := [.int p0, .int p1, .int p2]) (rest := []) ⟨hx, hb, hml, hown, hts⟩ (c_X11_canAsk l D k H.size h0 h1 (F.set 12 (.int 0)) P p0 p1 p2 (fs_ne g_F_paving (by decide)) g_P_walkers) (cwV 3 hts (gd_V hgd m953 m955 m31 m117 m956) rfl rfl rfl (by decide +kernel) ⟨Nat.le_of_ble_eq_true rfl, Nat.le_of_ble_eq_true rfl⟩) (cP_V hPc hKX hDc (ci := 11) (q0 := 0) rfl rfl) rfl rfl hl.1 rfl (lv_room (Nat.le_of_ble_eq_true rfl)) dX11_evens_9 ⟨Nat.le_of_ble_eq_true rfl, Nat.le_of_ble_eq_true rfl⟩) hS (fun q _ h => hFc q h) hFc (fun r_1 u t H1 locs ht hvm hw hB hz1 hk1 hS => ?_)
  obtain ⟨hP1, hD1⟩ := hB
  rw [ht] at hP1
  obtain ⟨hP, hD⟩ := va_join (wr := []) (w1 := [(h0, .inr (11, (F.set 12 (.int 0)))), (h1, .inr (6, P))]) hP hD [0, 1] [] rfl rfl (by decide) (by decide) hk1 hFc hP1 hD1
  generalize H1 = H at hP hS ⊢
  have hP : va_P D classes [(h0, .inr (11, (F.set 12 (.int 0)))), (h1, .inr (6, P))] H := hP
  have hD : va_D A [(h0, .inr (11, (F.set 12 (.int 0)))), (h1, .inr (6, P))] := hD
  refine W.widen (k := 0) (n := 0) (Nat.le_of_ble_eq_true rfl) (Nat.le_of_ble_eq_true rfl) ?_
  subst hw
  refine lv_if_ne (tgt := 17) hx hb dX11_evens_12 (by decide) (fun c_2 => ?_) (fun c_2 => ?_)
  · exact absurd (by decide) c_2
  · have c_2 : (0 : Int32) = 0 := c_2
    refine lv_iconst (v := (-1)) hx hb dX11_evens_15 (by decide) ?_
    have hP9 := hP.sub (ws' := []) [] rfl
    have hD9 := hD.sub (ws' := []) [] (by decide) rfl
    exact W.iret (v := (-1)) hx hb hr (fun t ht hW => ⟨⟨(-1), (), rfl, rfl, cB_of ht hP9 hD9⟩, hS.F ht⟩) hS.2.2 dX11_evens_16

set_option maxHeartbeats 4000000 in
set_option maxRecDepth 100000 in
theorem c_X11_keeps (l : Launch) (D : va_G) (k : ClassId × ClassId × ClassId × ClassId) (sz : Nat) (h0 h1 : Nat) (F P : List Value) (p0 p1 p2 : Int32) (g_F_paving : F[0]? = some (.ref h1)) (g_P_walkers : P[10]? = some (.int 0)) : Met l yX11_keeps (WS yX11_keeps cX11_keeps 4 (some .int)) ({ frames := 2, cells := 0, slots := 0, locals := 44 }) (va_Pc [.ref h0, .int p0, .int p1, .int p2] (cP D k [(h0, .inr (11, F)), (h1, .inr (6, P))] sz)) (va_Qi (fun (r : Int32) (_ : Unit) => r = (-1)) (fun (_ : Unit) t => cB D (va_A [(h0, .inr (11, F)), (h1, .inr (6, P))] sz) [] t) (va_A [(h0, .inr (11, F)), (h1, .inr (6, P))] sz)) 0 0 (va_A [(h0, .inr (11, F)), (h1, .inr (6, P))] sz) := by
  refine Met.ofW (cc := cX11_keeps) (maxL := 4) (ret := (some .int)) (by decide) rfl ?_
  intro p e s m args below meth c s₁ B hml hv
  obtain ⟨rfl, hsz, hP, hKX, hD0⟩ := hv
  have hK := hKX.1
  have hx := B.exec
  have hb := B.bytes
  have hr := B.returns
  have hts := atoms_spec (ws := WS yX11_keeps cX11_keeps 4 (some .int)) B.pre
  have hgd : ∀ w ∈ gd, w ∈ WS yX11_keeps cX11_keeps 4 (some .int) := fun w h => List.mem_cons_of_mem _ h
  have hg : ∀ w ∈ gd, w.before _ s = true := fun w h => hts w (hgd w h)
  have hown : s.vm.findClass RX11 = some m.cls := findClass_of_methodNamed B.named
  have hlocks := B.notSynchronized
  subst hsz
  have hD := hD0.self (sz := s.heap.size)
  generalize hAe : va_A [(h0, .inr (11, F)), (h1, .inr (6, P))] s.heap.size = A at hD ⊢
  have hA : ∀ q : Nat, s.heap.size ≤ q → A q := fun q h => by rw [← hAe]; exact Or.inr h
  have hS : va_S A s.heap s.heap [] := va_S.rf
  have hP : va_P D classes [(h0, .inr (11, F)), (h1, .inr (6, P))] s.heap := hP
  have hl := lv_entry ([.ref h0, .int p0, .int p1, .int p2]) (n := 4) (Nat.le_of_ble_eq_true rfl)
  rw [lg_entry_eq]
  generalize (lg_sl ([.ref h0, .int p0, .int p1, .int p2]) ++ List.replicate (4 - (lg_sl ([.ref h0, .int p0, .int p1, .int p2])).length) Slot.unset).toArray = ls at hl ⊢
  have hl : lv_has ls 4 [(0, .ref h0), (1, .int p0), (2, .int p1), (3, .int p2)] := hl
  refine lv_aload_n hx hb dX11_keeps_0 rfl (lv_at hl 0 rfl) ?_
  refine lv_iload_n hx hb dX11_keeps_1 rfl (lv_at hl 1 rfl) ?_
  refine lv_iload_n hx hb dX11_keeps_2 rfl (lv_at hl 2 rfl) ?_
  refine lv_iload_n hx hb dX11_keeps_3 rfl (lv_at hl 3 rfl) ?_
  have hPc := hP.sub (ws' := [(h0, .inr (11, F)), (h1, .inr (6, P))]) [0, 1] rfl
  have hDc := hD.sub (ws' := [(h0, .inr (11, F)), (h1, .inr (6, P))]) [0, 1] (by decide) rfl
  have hFc := va_free (wc := [(h0, .inr (11, F)), (h1, .inr (6, P))]) hD hS hA [0, 1] rfl
  refine va_calli (va_runV (As := [.int p0, .int p1, .int p2]) (rest := []) ⟨hx, hb, hml, hown, hts⟩ (c_X11_canAsk l D k s.heap.size h0 h1 F P p0 p1 p2 g_F_paving g_P_walkers) (cwV 3 hts (gd_V hgd m953 m955 m31 m117 m956) rfl rfl rfl (by decide +kernel) ⟨Nat.le_of_ble_eq_true rfl, Nat.le_of_ble_eq_true rfl⟩) (cP_V hPc hKX hDc (ci := 11) (q0 := 0) rfl rfl) rfl rfl hl.1 rfl (lv_room (Nat.le_of_ble_eq_true rfl)) dX11_keeps_4 ⟨Nat.le_of_ble_eq_true rfl, Nat.le_of_ble_eq_true rfl⟩) hS (fun q _ h => hFc q h) hFc (fun r_1 u t H1 locs ht hvm hw hB hz1 hk1 hS => ?_)
  obtain ⟨hP1, hD1⟩ := hB
  rw [ht] at hP1
  obtain ⟨hP, hD⟩ := va_join (wr := []) (w1 := [(h0, .inr (11, F)), (h1, .inr (6, P))]) hP hD [0, 1] [] rfl rfl (by decide) (by decide) hk1 hFc hP1 hD1
  generalize H1 = H at hP hS ⊢
  have hP : va_P D classes [(h0, .inr (11, F)), (h1, .inr (6, P))] H := hP
  have hD : va_D A [(h0, .inr (11, F)), (h1, .inr (6, P))] := hD
  refine W.widen (k := 0) (n := 0) (Nat.le_of_ble_eq_true rfl) (Nat.le_of_ble_eq_true rfl) ?_
  subst hw
  refine lv_if_ne (tgt := 12) hx hb dX11_keeps_7 (by decide) (fun c_2 => ?_) (fun c_2 => ?_)
  · exact absurd (by decide) c_2
  · have c_2 : (0 : Int32) = 0 := c_2
    refine lv_iconst (v := (-1)) hx hb dX11_keeps_10 (by decide) ?_
    have hP9 := hP.sub (ws' := []) [] rfl
    have hD9 := hD.sub (ws' := []) [] (by decide) rfl
    exact W.iret (v := (-1)) hx hb hr (fun t ht hW => ⟨⟨(-1), (), rfl, rfl, cB_of ht hP9 hD9⟩, hS.F ht⟩) hS.2.2 dX11_keeps_11

set_option maxHeartbeats 4000000 in
set_option maxRecDepth 100000 in
theorem c_X11_brave (l : Launch) (D : va_G) (k : ClassId × ClassId × ClassId × ClassId) (sz : Nat) (h0 h1 : Nat) (F P : List Value) (p0 p1 p2 p3 p4 : Int32) (g_F_paving : F[0]? = some (.ref h1)) (g_P_walkers : P[10]? = some (.int 0)) : Met l yX11_brave (WS yX11_brave cX11_brave 6 (some .long)) ({ frames := 3, cells := 0, slots := 0, locals := 69 }) (va_Pc [.ref h0, .int p0, .int p1, .int p2, .int p3, .int p4] (cP D k [(h0, .inr (11, F)), (h1, .inr (6, P))] sz)) (va_Ql (fun (r : Int64) (_ : Unit) => r = (-1)) (fun (_ : Unit) t => cB D (va_A [(h0, .inr (11, F)), (h1, .inr (6, P))] sz) [] t) (va_A [(h0, .inr (11, F)), (h1, .inr (6, P))] sz)) 0 0 (va_A [(h0, .inr (11, F)), (h1, .inr (6, P))] sz) := by
  refine Met.ofW (cc := cX11_brave) (maxL := 6) (ret := (some .long)) (by decide) rfl ?_
  intro p e s m args below meth c s₁ B hml hv
  obtain ⟨rfl, hsz, hP, hKX, hD0⟩ := hv
  have hK := hKX.1
  have hx := B.exec
  have hb := B.bytes
  have hr := B.returns
  have hts := atoms_spec (ws := WS yX11_brave cX11_brave 6 (some .long)) B.pre
  have hgd : ∀ w ∈ gd, w ∈ WS yX11_brave cX11_brave 6 (some .long) := fun w h => List.mem_cons_of_mem _ h
  have hg : ∀ w ∈ gd, w.before _ s = true := fun w h => hts w (hgd w h)
  have hown : s.vm.findClass RX11 = some m.cls := findClass_of_methodNamed B.named
  have hlocks := B.notSynchronized
  subst hsz
  have hD := hD0.self (sz := s.heap.size)
  generalize hAe : va_A [(h0, .inr (11, F)), (h1, .inr (6, P))] s.heap.size = A at hD ⊢
  have hA : ∀ q : Nat, s.heap.size ≤ q → A q := fun q h => by rw [← hAe]; exact Or.inr h
  have hS : va_S A s.heap s.heap [] := va_S.rf
  have hP : va_P D classes [(h0, .inr (11, F)), (h1, .inr (6, P))] s.heap := hP
  have hl := lv_entry ([.ref h0, .int p0, .int p1, .int p2, .int p3, .int p4]) (n := 6) (Nat.le_of_ble_eq_true rfl)
  rw [lg_entry_eq]
  generalize (lg_sl ([.ref h0, .int p0, .int p1, .int p2, .int p3, .int p4]) ++ List.replicate (6 - (lg_sl ([.ref h0, .int p0, .int p1, .int p2, .int p3, .int p4])).length) Slot.unset).toArray = ls at hl ⊢
  have hl : lv_has ls 6 [(0, .ref h0), (1, .int p0), (2, .int p1), (3, .int p2), (4, .int p3), (5, .int p4)] := hl
  refine lv_aload_n hx hb dX11_brave_0 rfl (lv_at hl 0 rfl) ?_
  refine lv_iload_n hx hb dX11_brave_1 rfl (lv_at hl 1 rfl) ?_
  refine lv_iload_n hx hb dX11_brave_2 rfl (lv_at hl 2 rfl) ?_
  refine lv_iload_n hx hb dX11_brave_3 rfl (lv_at hl 3 rfl) ?_
  refine lv_iload hx hb dX11_brave_4 (lv_at hl 4 rfl) ?_
  refine lv_iload hx hb dX11_brave_6 (lv_at hl 5 rfl) ?_
  have hPc := hP.sub (ws' := [(h0, .inr (11, F)), (h1, .inr (6, P))]) [0, 1] rfl
  have hDc := hD.sub (ws' := [(h0, .inr (11, F)), (h1, .inr (6, P))]) [0, 1] (by decide) rfl
  have hFc := va_free (wc := [(h0, .inr (11, F)), (h1, .inr (6, P))]) hD hS hA [0, 1] rfl
  refine va_calli (va_runV (As := [.int p0, .int p1, .int p2, .int p3, .int p4]) (rest := []) ⟨hx, hb, hml, hown, hts⟩ (c_X11_canBeBrave l D k s.heap.size h0 h1 F P p0 p1 p2 p3 p4 g_F_paving g_P_walkers) (cwV 5 hts (gd_V hgd m1117 m1119 m38 m117 m1120) rfl rfl rfl (by decide +kernel) ⟨Nat.le_of_ble_eq_true rfl, Nat.le_of_ble_eq_true rfl⟩) (cP_V hPc hKX hDc (ci := 11) (q0 := 0) rfl rfl) rfl rfl hl.1 rfl (lv_room (Nat.le_of_ble_eq_true rfl)) dX11_brave_8 ⟨Nat.le_of_ble_eq_true rfl, Nat.le_of_ble_eq_true rfl⟩) hS (fun q _ h => hFc q h) hFc (fun r_1 u t H1 locs ht hvm hw hB hz1 hk1 hS => ?_)
  obtain ⟨hP1, hD1⟩ := hB
  rw [ht] at hP1
  obtain ⟨hP, hD⟩ := va_join (wr := []) (w1 := [(h0, .inr (11, F)), (h1, .inr (6, P))]) hP hD [0, 1] [] rfl rfl (by decide) (by decide) hk1 hFc hP1 hD1
  generalize H1 = H at hP hS ⊢
  have hP : va_P D classes [(h0, .inr (11, F)), (h1, .inr (6, P))] H := hP
  have hD : va_D A [(h0, .inr (11, F)), (h1, .inr (6, P))] := hD
  refine W.widen (k := 0) (n := 0) (Nat.le_of_ble_eq_true rfl) (Nat.le_of_ble_eq_true rfl) ?_
  subst hw
  refine lv_if_ne (tgt := 18) hx hb dX11_brave_11 (by decide) (fun c_2 => ?_) (fun c_2 => ?_)
  · exact absurd (by decide) c_2
  · have c_2 : (0 : Int32) = 0 := c_2
    refine lv_ldc2 (v := (-1)) hx hb hown (hg (Cond.constantLong RX11 165 (-1)) m1018) dX11_brave_14 ?_
    have hP9 := hP.sub (ws' := []) [] rfl
    have hD9 := hD.sub (ws' := []) [] (by decide) rfl
    exact W.lret (v := (-1)) hx hb hr (fun t ht hW => ⟨⟨(-1), (), rfl, rfl, cB_of ht hP9 hD9⟩, hS.F ht⟩) hS.2.2 dX11_brave_17

set_option maxHeartbeats 4000000 in
set_option maxRecDepth 100000 in
theorem c_X11_boldest (l : Launch) (D : va_G) (k : ClassId × ClassId × ClassId × ClassId) (sz : Nat) (h0 h1 : Nat) (F P : List Value) (p0 p1 p2 p3 p4 : Int32) (g_F_paving : F[0]? = some (.ref h1)) (g_P_walkers : P[10]? = some (.int 0)) : Met l yX11_boldest (WS yX11_boldest cX11_boldest 6 (some .int)) ({ frames := 3, cells := 0, slots := 0, locals := 69 }) (va_Pc [.ref h0, .int p0, .int p1, .int p2, .int p3, .int p4] (cP D k [(h0, .inr (11, F)), (h1, .inr (6, P))] sz)) (va_Qi (fun (r : Int32) (_ : Unit) => r = (-1)) (fun (_ : Unit) t => cB D (va_A [(h0, .inr (11, F)), (h1, .inr (6, P))] sz) [] t) (va_A [(h0, .inr (11, F)), (h1, .inr (6, P))] sz)) 0 0 (va_A [(h0, .inr (11, F)), (h1, .inr (6, P))] sz) := by
  refine Met.ofW (cc := cX11_boldest) (maxL := 6) (ret := (some .int)) (by decide) rfl ?_
  intro p e s m args below meth c s₁ B hml hv
  obtain ⟨rfl, hsz, hP, hKX, hD0⟩ := hv
  have hK := hKX.1
  have hx := B.exec
  have hb := B.bytes
  have hr := B.returns
  have hts := atoms_spec (ws := WS yX11_boldest cX11_boldest 6 (some .int)) B.pre
  have hgd : ∀ w ∈ gd, w ∈ WS yX11_boldest cX11_boldest 6 (some .int) := fun w h => List.mem_cons_of_mem _ h
  have hg : ∀ w ∈ gd, w.before _ s = true := fun w h => hts w (hgd w h)
  have hown : s.vm.findClass RX11 = some m.cls := findClass_of_methodNamed B.named
  have hlocks := B.notSynchronized
  subst hsz
  have hD := hD0.self (sz := s.heap.size)
  generalize hAe : va_A [(h0, .inr (11, F)), (h1, .inr (6, P))] s.heap.size = A at hD ⊢
  have hA : ∀ q : Nat, s.heap.size ≤ q → A q := fun q h => by rw [← hAe]; exact Or.inr h
  have hS : va_S A s.heap s.heap [] := va_S.rf
  have hP : va_P D classes [(h0, .inr (11, F)), (h1, .inr (6, P))] s.heap := hP
  have hl := lv_entry ([.ref h0, .int p0, .int p1, .int p2, .int p3, .int p4]) (n := 6) (Nat.le_of_ble_eq_true rfl)
  rw [lg_entry_eq]
  generalize (lg_sl ([.ref h0, .int p0, .int p1, .int p2, .int p3, .int p4]) ++ List.replicate (6 - (lg_sl ([.ref h0, .int p0, .int p1, .int p2, .int p3, .int p4])).length) Slot.unset).toArray = ls at hl ⊢
  have hl : lv_has ls 6 [(0, .ref h0), (1, .int p0), (2, .int p1), (3, .int p2), (4, .int p3), (5, .int p4)] := hl
  refine lv_aload_n hx hb dX11_boldest_0 rfl (lv_at hl 0 rfl) ?_
  refine lv_iload_n hx hb dX11_boldest_1 rfl (lv_at hl 1 rfl) ?_
  refine lv_iload_n hx hb dX11_boldest_2 rfl (lv_at hl 2 rfl) ?_
  refine lv_iload_n hx hb dX11_boldest_3 rfl (lv_at hl 3 rfl) ?_
  refine lv_iload hx hb dX11_boldest_4 (lv_at hl 4 rfl) ?_
  refine lv_iload hx hb dX11_boldest_6 (lv_at hl 5 rfl) ?_
  have hPc := hP.sub (ws' := [(h0, .inr (11, F)), (h1, .inr (6, P))]) [0, 1] rfl
  have hDc := hD.sub (ws' := [(h0, .inr (11, F)), (h1, .inr (6, P))]) [0, 1] (by decide) rfl
  have hFc := va_free (wc := [(h0, .inr (11, F)), (h1, .inr (6, P))]) hD hS hA [0, 1] rfl
  refine va_calli (va_runV (As := [.int p0, .int p1, .int p2, .int p3, .int p4]) (rest := []) ⟨hx, hb, hml, hown, hts⟩ (c_X11_canBeBrave l D k s.heap.size h0 h1 F P p0 p1 p2 p3 p4 g_F_paving g_P_walkers) (cwV 5 hts (gd_V hgd m1117 m1119 m38 m117 m1120) rfl rfl rfl (by decide +kernel) ⟨Nat.le_of_ble_eq_true rfl, Nat.le_of_ble_eq_true rfl⟩) (cP_V hPc hKX hDc (ci := 11) (q0 := 0) rfl rfl) rfl rfl hl.1 rfl (lv_room (Nat.le_of_ble_eq_true rfl)) dX11_boldest_8 ⟨Nat.le_of_ble_eq_true rfl, Nat.le_of_ble_eq_true rfl⟩) hS (fun q _ h => hFc q h) hFc (fun r_1 u t H1 locs ht hvm hw hB hz1 hk1 hS => ?_)
  obtain ⟨hP1, hD1⟩ := hB
  rw [ht] at hP1
  obtain ⟨hP, hD⟩ := va_join (wr := []) (w1 := [(h0, .inr (11, F)), (h1, .inr (6, P))]) hP hD [0, 1] [] rfl rfl (by decide) (by decide) hk1 hFc hP1 hD1
  generalize H1 = H at hP hS ⊢
  have hP : va_P D classes [(h0, .inr (11, F)), (h1, .inr (6, P))] H := hP
  have hD : va_D A [(h0, .inr (11, F)), (h1, .inr (6, P))] := hD
  refine W.widen (k := 0) (n := 0) (Nat.le_of_ble_eq_true rfl) (Nat.le_of_ble_eq_true rfl) ?_
  subst hw
  refine lv_if_ne (tgt := 16) hx hb dX11_boldest_11 (by decide) (fun c_2 => ?_) (fun c_2 => ?_)
  · exact absurd (by decide) c_2
  · have c_2 : (0 : Int32) = 0 := c_2
    refine lv_iconst (v := (-1)) hx hb dX11_boldest_14 (by decide) ?_
    have hP9 := hP.sub (ws' := []) [] rfl
    have hD9 := hD.sub (ws' := []) [] (by decide) rfl
    exact W.iret (v := (-1)) hx hb hr (fun t ht hW => ⟨⟨(-1), (), rfl, rfl, cB_of ht hP9 hD9⟩, hS.F ht⟩) hS.2.2 dX11_boldest_15

set_option maxHeartbeats 4000000 in
set_option maxRecDepth 100000 in
theorem c_X11_wager (l : Launch) (D : va_G) (k : ClassId × ClassId × ClassId × ClassId) (sz : Nat) (h0 h1 : Nat) (F P : List Value) (p0 p1 p2 p3 : Int32) (g_F_paving : F[0]? = some (.ref h1)) (g_P_walkers : P[10]? = some (.int 0)) : Met l yX11_wager (WS yX11_wager cX11_wager 6 (some .int)) ({ frames := 2, cells := 0, slots := 0, locals := 44 }) (va_Pc [.ref h0, .int p0, .int p1, .int p2, .int p3] (cP D k [(h0, .inr (11, F)), (h1, .inr (6, P))] sz)) (va_Qi (fun (r : Int32) (_ : Unit) => r = (-1)) (fun (_ : Unit) t => cB D (va_A [(h0, .inr (11, F)), (h1, .inr (6, P))] sz) [] t) (va_A [(h0, .inr (11, F)), (h1, .inr (6, P))] sz)) 0 0 (va_A [(h0, .inr (11, F)), (h1, .inr (6, P))] sz) := by
  refine Met.ofW (cc := cX11_wager) (maxL := 6) (ret := (some .int)) (by decide) rfl ?_
  intro p e s m args below meth c s₁ B hml hv
  obtain ⟨rfl, hsz, hP, hKX, hD0⟩ := hv
  have hK := hKX.1
  have hx := B.exec
  have hb := B.bytes
  have hr := B.returns
  have hts := atoms_spec (ws := WS yX11_wager cX11_wager 6 (some .int)) B.pre
  have hgd : ∀ w ∈ gd, w ∈ WS yX11_wager cX11_wager 6 (some .int) := fun w h => List.mem_cons_of_mem _ h
  have hg : ∀ w ∈ gd, w.before _ s = true := fun w h => hts w (hgd w h)
  have hown : s.vm.findClass RX11 = some m.cls := findClass_of_methodNamed B.named
  have hlocks := B.notSynchronized
  subst hsz
  have hD := hD0.self (sz := s.heap.size)
  generalize hAe : va_A [(h0, .inr (11, F)), (h1, .inr (6, P))] s.heap.size = A at hD ⊢
  have hA : ∀ q : Nat, s.heap.size ≤ q → A q := fun q h => by rw [← hAe]; exact Or.inr h
  have hS : va_S A s.heap s.heap [] := va_S.rf
  have hP : va_P D classes [(h0, .inr (11, F)), (h1, .inr (6, P))] s.heap := hP
  have hl := lv_entry ([.ref h0, .int p0, .int p1, .int p2, .int p3]) (n := 6) (Nat.le_of_ble_eq_true rfl)
  rw [lg_entry_eq]
  generalize (lg_sl ([.ref h0, .int p0, .int p1, .int p2, .int p3]) ++ List.replicate (6 - (lg_sl ([.ref h0, .int p0, .int p1, .int p2, .int p3])).length) Slot.unset).toArray = ls at hl ⊢
  have hl : lv_has ls 6 [(0, .ref h0), (1, .int p0), (2, .int p1), (3, .int p2), (4, .int p3)] := hl
  refine lv_aload_n hx hb dX11_wager_0 rfl (lv_at hl 0 rfl) ?_
  refine lv_iload_n hx hb dX11_wager_1 rfl (lv_at hl 1 rfl) ?_
  refine lv_iload_n hx hb dX11_wager_2 rfl (lv_at hl 2 rfl) ?_
  refine lv_iload_n hx hb dX11_wager_3 rfl (lv_at hl 3 rfl) ?_
  have hPc := hP.sub (ws' := [(h0, .inr (11, F)), (h1, .inr (6, P))]) [0, 1] rfl
  have hDc := hD.sub (ws' := [(h0, .inr (11, F)), (h1, .inr (6, P))]) [0, 1] (by decide) rfl
  have hFc := va_free (wc := [(h0, .inr (11, F)), (h1, .inr (6, P))]) hD hS hA [0, 1] rfl
  refine va_calli (va_runV (As := [.int p0, .int p1, .int p2]) (rest := []) ⟨hx, hb, hml, hown, hts⟩ (c_X11_canAsk l D k s.heap.size h0 h1 F P p0 p1 p2 g_F_paving g_P_walkers) (cwV 3 hts (gd_V hgd m953 m955 m31 m117 m956) rfl rfl rfl (by decide +kernel) ⟨Nat.le_of_ble_eq_true rfl, Nat.le_of_ble_eq_true rfl⟩) (cP_V hPc hKX hDc (ci := 11) (q0 := 0) rfl rfl) rfl rfl hl.1 rfl (lv_room (Nat.le_of_ble_eq_true rfl)) dX11_wager_4 ⟨Nat.le_of_ble_eq_true rfl, Nat.le_of_ble_eq_true rfl⟩) hS (fun q _ h => hFc q h) hFc (fun r_1 u t H1 locs ht hvm hw hB hz1 hk1 hS => ?_)
  obtain ⟨hP1, hD1⟩ := hB
  rw [ht] at hP1
  obtain ⟨hP, hD⟩ := va_join (wr := []) (w1 := [(h0, .inr (11, F)), (h1, .inr (6, P))]) hP hD [0, 1] [] rfl rfl (by decide) (by decide) hk1 hFc hP1 hD1
  generalize H1 = H at hP hS ⊢
  have hP : va_P D classes [(h0, .inr (11, F)), (h1, .inr (6, P))] H := hP
  have hD : va_D A [(h0, .inr (11, F)), (h1, .inr (6, P))] := hD
  refine W.widen (k := 0) (n := 0) (Nat.le_of_ble_eq_true rfl) (Nat.le_of_ble_eq_true rfl) ?_
  subst hw
  refine lv_if_eq (tgt := 21) hx hb dX11_wager_7 (by decide) (fun c_2 => ?_) (fun c_2 => ?_)
  · have c_2 : (0 : Int32) = 0 := c_2
    refine lv_iconst (v := (-1)) hx hb dX11_wager_21 (by decide) ?_
    have hP9 := hP.sub (ws' := []) [] rfl
    have hD9 := hD.sub (ws' := []) [] (by decide) rfl
    exact W.iret (v := (-1)) hx hb hr (fun t ht hW => ⟨⟨(-1), (), rfl, rfl, cB_of ht hP9 hD9⟩, hS.F ht⟩) hS.2.2 dX11_wager_22
  · exact absurd (by decide) c_2

set_option maxHeartbeats 4000000 in
set_option maxRecDepth 100000 in
theorem c_X11_leave (l : Launch) (D : va_G) (k : ClassId × ClassId × ClassId × ClassId) (sz : Nat) (h0 h1 : Nat) (F P : List Value) (p0 p1 : Int32) (g_F_paving : F[0]? = some (.ref h1)) (g_P_walkers : P[10]? = some (.int 0)) : Met l yX11_leave (WS yX11_leave cX11_leave 5 (some .int)) ({ frames := 2, cells := 0, slots := 0, locals := 44 }) (va_Pc [.ref h0, .int p0, .int p1] (cP D k [(h0, .inr (11, F)), (h1, .inr (6, P))] sz)) (va_Qi (fun (r : Int32) (_ : Unit) => r = (-1)) (fun (_ : Unit) t => cB D (va_A [(h0, .inr (11, F)), (h1, .inr (6, P))] sz) [] t) (va_A [(h0, .inr (11, F)), (h1, .inr (6, P))] sz)) 0 0 (va_A [(h0, .inr (11, F)), (h1, .inr (6, P))] sz) := by
  refine Met.ofW (cc := cX11_leave) (maxL := 5) (ret := (some .int)) (by decide) rfl ?_
  intro p e s m args below meth c s₁ B hml hv
  obtain ⟨rfl, hsz, hP, hKX, hD0⟩ := hv
  have hK := hKX.1
  have hx := B.exec
  have hb := B.bytes
  have hr := B.returns
  have hts := atoms_spec (ws := WS yX11_leave cX11_leave 5 (some .int)) B.pre
  have hgd : ∀ w ∈ gd, w ∈ WS yX11_leave cX11_leave 5 (some .int) := fun w h => List.mem_cons_of_mem _ h
  have hg : ∀ w ∈ gd, w.before _ s = true := fun w h => hts w (hgd w h)
  have hown : s.vm.findClass RX11 = some m.cls := findClass_of_methodNamed B.named
  have hlocks := B.notSynchronized
  subst hsz
  have hD := hD0.self (sz := s.heap.size)
  generalize hAe : va_A [(h0, .inr (11, F)), (h1, .inr (6, P))] s.heap.size = A at hD ⊢
  have hA : ∀ q : Nat, s.heap.size ≤ q → A q := fun q h => by rw [← hAe]; exact Or.inr h
  have hS : va_S A s.heap s.heap [] := va_S.rf
  have hP : va_P D classes [(h0, .inr (11, F)), (h1, .inr (6, P))] s.heap := hP
  have hl := lv_entry ([.ref h0, .int p0, .int p1]) (n := 5) (Nat.le_of_ble_eq_true rfl)
  rw [lg_entry_eq]
  generalize (lg_sl ([.ref h0, .int p0, .int p1]) ++ List.replicate (5 - (lg_sl ([.ref h0, .int p0, .int p1])).length) Slot.unset).toArray = ls at hl ⊢
  have hl : lv_has ls 5 [(0, .ref h0), (1, .int p0), (2, .int p1)] := hl
  refine lv_aload_n hx hb dX11_leave_0 rfl (lv_at hl 0 rfl) ?_
  refine lv_iload_n hx hb dX11_leave_1 rfl (lv_at hl 1 rfl) ?_
  refine lv_iload_n hx hb dX11_leave_2 rfl (lv_at hl 2 rfl) ?_
  refine lv_iconst (v := 0) hx hb dX11_leave_3 (by decide) ?_
  have hPc := hP.sub (ws' := [(h0, .inr (11, F)), (h1, .inr (6, P))]) [0, 1] rfl
  have hDc := hD.sub (ws' := [(h0, .inr (11, F)), (h1, .inr (6, P))]) [0, 1] (by decide) rfl
  have hFc := va_free (wc := [(h0, .inr (11, F)), (h1, .inr (6, P))]) hD hS hA [0, 1] rfl
  refine va_calli (va_runV (As := [.int p0, .int p1, .int 0]) (rest := []) ⟨hx, hb, hml, hown, hts⟩ (c_X11_canAsk l D k s.heap.size h0 h1 F P p0 p1 0 g_F_paving g_P_walkers) (cwV 3 hts (gd_V hgd m953 m955 m31 m117 m956) rfl rfl rfl (by decide +kernel) ⟨Nat.le_of_ble_eq_true rfl, Nat.le_of_ble_eq_true rfl⟩) (cP_V hPc hKX hDc (ci := 11) (q0 := 0) rfl rfl) rfl rfl hl.1 rfl (lv_room (Nat.le_of_ble_eq_true rfl)) dX11_leave_4 ⟨Nat.le_of_ble_eq_true rfl, Nat.le_of_ble_eq_true rfl⟩) hS (fun q _ h => hFc q h) hFc (fun r_1 u t H1 locs ht hvm hw hB hz1 hk1 hS => ?_)
  obtain ⟨hP1, hD1⟩ := hB
  rw [ht] at hP1
  obtain ⟨hP, hD⟩ := va_join (wr := []) (w1 := [(h0, .inr (11, F)), (h1, .inr (6, P))]) hP hD [0, 1] [] rfl rfl (by decide) (by decide) hk1 hFc hP1 hD1
  generalize H1 = H at hP hS ⊢
  have hP : va_P D classes [(h0, .inr (11, F)), (h1, .inr (6, P))] H := hP
  have hD : va_D A [(h0, .inr (11, F)), (h1, .inr (6, P))] := hD
  refine W.widen (k := 0) (n := 0) (Nat.le_of_ble_eq_true rfl) (Nat.le_of_ble_eq_true rfl) ?_
  subst hw
  refine lv_if_ne (tgt := 12) hx hb dX11_leave_7 (by decide) (fun c_2 => ?_) (fun c_2 => ?_)
  · exact absurd (by decide) c_2
  · have c_2 : (0 : Int32) = 0 := c_2
    refine lv_iconst (v := (-1)) hx hb dX11_leave_10 (by decide) ?_
    have hP9 := hP.sub (ws' := []) [] rfl
    have hD9 := hD.sub (ws' := []) [] (by decide) rfl
    exact W.iret (v := (-1)) hx hb hr (fun t ht hW => ⟨⟨(-1), (), rfl, rfl, cB_of ht hP9 hD9⟩, hS.F ht⟩) hS.2.2 dX11_leave_11

set_option maxHeartbeats 4000000 in
set_option maxRecDepth 100000 in
theorem c_X11_walk (l : Launch) (D : va_G) (k : ClassId × ClassId × ClassId × ClassId) (sz : Nat) (h0 h1 : Nat) (F P : List Value) (p0 p1 p2 : Int32) (g_F_paving : F[0]? = some (.ref h1)) (g_P_walkers : P[10]? = some (.int 0)) : Met l yX11_walk (WS yX11_walk cX11_walk 4 (some .int)) ({ frames := 2, cells := 0, slots := 0, locals := 44 }) (va_Pc [.ref h0, .int p0, .int p1, .int p2] (cP D k [(h0, .inr (11, F)), (h1, .inr (6, P))] sz)) (va_Qi (fun (r : Int32) (_ : Unit) => r = (-1)) (fun (_ : Unit) t => cB D (va_A [(h0, .inr (11, F)), (h1, .inr (6, P))] sz) [] t) (va_A [(h0, .inr (11, F)), (h1, .inr (6, P))] sz)) 0 0 (va_A [(h0, .inr (11, F)), (h1, .inr (6, P))] sz) := by
  refine Met.ofW (cc := cX11_walk) (maxL := 4) (ret := (some .int)) (by decide) rfl ?_
  intro p e s m args below meth c s₁ B hml hv
  obtain ⟨rfl, hsz, hP, hKX, hD0⟩ := hv
  have hK := hKX.1
  have hx := B.exec
  have hb := B.bytes
  have hr := B.returns
  have hts := atoms_spec (ws := WS yX11_walk cX11_walk 4 (some .int)) B.pre
  have hgd : ∀ w ∈ gd, w ∈ WS yX11_walk cX11_walk 4 (some .int) := fun w h => List.mem_cons_of_mem _ h
  have hg : ∀ w ∈ gd, w.before _ s = true := fun w h => hts w (hgd w h)
  have hown : s.vm.findClass RX11 = some m.cls := findClass_of_methodNamed B.named
  have hlocks := B.notSynchronized
  subst hsz
  have hD := hD0.self (sz := s.heap.size)
  generalize hAe : va_A [(h0, .inr (11, F)), (h1, .inr (6, P))] s.heap.size = A at hD ⊢
  have hA : ∀ q : Nat, s.heap.size ≤ q → A q := fun q h => by rw [← hAe]; exact Or.inr h
  have hS : va_S A s.heap s.heap [] := va_S.rf
  have hP : va_P D classes [(h0, .inr (11, F)), (h1, .inr (6, P))] s.heap := hP
  have hl := lv_entry ([.ref h0, .int p0, .int p1, .int p2]) (n := 4) (Nat.le_of_ble_eq_true rfl)
  rw [lg_entry_eq]
  generalize (lg_sl ([.ref h0, .int p0, .int p1, .int p2]) ++ List.replicate (4 - (lg_sl ([.ref h0, .int p0, .int p1, .int p2])).length) Slot.unset).toArray = ls at hl ⊢
  have hl : lv_has ls 4 [(0, .ref h0), (1, .int p0), (2, .int p1), (3, .int p2)] := hl
  refine lv_aload_n hx hb dX11_walk_0 rfl (lv_at hl 0 rfl) ?_
  refine va_get (D := D) (ci := 11) (v := .ref h1) (C := RX11) (T := TX11) (N := 13) hx hb hg iX11 hown hK hP 0 rfl rfl 0 (by decide) (hg (Cond.fieldLink RX11 10 "SlabWalk" "paving" "LSlabWalk$Paving;") m570) (fun _ h9 => h9) g_F_paving dX11_walk_1 ?_
  refine lv_iload_n hx hb dX11_walk_4 rfl (lv_at hl 1 rfl) ?_
  refine lv_iload_n hx hb dX11_walk_5 rfl (lv_at hl 2 rfl) ?_
  refine lv_iload_n hx hb dX11_walk_6 rfl (lv_at hl 3 rfl) ?_
  have hPc := hP.sub (ws' := [(h1, .inr (6, P))]) [1] rfl
  have hDc := hD.sub (ws' := [(h1, .inr (6, P))]) [1] (by decide) rfl
  have hFc := va_free (wc := [(h1, .inr (6, P))]) hD hS hA [1] rfl
  refine va_calli (va_runV (As := [.int p0, .int p1, .int p2]) (rest := []) ⟨hx, hb, hml, hown, hts⟩ (c_stands l D k s.heap.size h1 P p0 p1 p2 g_P_walkers) (cwV 3 hts (gd_V hgd m1121 m966 m967 m118 m968) rfl rfl rfl (by decide +kernel) ⟨Nat.le_of_ble_eq_true rfl, Nat.le_of_ble_eq_true rfl⟩) (cP_V hPc hKX hDc (ci := 6) (q0 := 0) rfl rfl) rfl rfl hl.1 rfl (lv_room (Nat.le_of_ble_eq_true rfl)) dX11_walk_7 ⟨Nat.le_of_ble_eq_true rfl, Nat.le_of_ble_eq_true rfl⟩) hS (fun q _ h => hFc q h) hFc (fun r_1 u t H1 locs ht hvm hw hB hz1 hk1 hS => ?_)
  obtain ⟨hP1, hD1⟩ := hB
  rw [ht] at hP1
  obtain ⟨hP, hD⟩ := va_join (wr := [(h0, .inr (11, F))]) (w1 := [(h1, .inr (6, P))]) hP hD [1] [0] rfl rfl (by decide) (by decide) hk1 hFc hP1 hD1
  generalize H1 = H at hP hS ⊢
  have hP : va_P D classes [(h0, .inr (11, F)), (h1, .inr (6, P))] H := hP
  have hD : va_D A [(h0, .inr (11, F)), (h1, .inr (6, P))] := hD
  refine W.widen (k := 0) (n := 0) (Nat.le_of_ble_eq_true rfl) (Nat.le_of_ble_eq_true rfl) ?_
  subst hw
  refine lv_if_eq (tgt := 26) hx hb dX11_walk_10 (by decide) (fun c_2 => ?_) (fun c_2 => ?_)
  · have c_2 : (0 : Int32) = 0 := c_2
    refine lv_iconst (v := (-1)) hx hb dX11_walk_26 (by decide) ?_
    have hP9 := hP.sub (ws' := []) [] rfl
    have hD9 := hD.sub (ws' := []) [] (by decide) rfl
    exact W.iret (v := (-1)) hx hb hr (fun t ht hW => ⟨⟨(-1), (), rfl, rfl, cB_of ht hP9 hD9⟩, hS.F ht⟩) hS.2.2 dX11_walk_27
  · exact absurd (by decide) c_2

set_option maxHeartbeats 4000000 in
set_option maxRecDepth 100000 in
theorem c_X11_sight (l : Launch) (D : va_G) (k : ClassId × ClassId × ClassId × ClassId) (sz : Nat) (h0 h1 : Nat) (F P : List Value) (p0 p1 p2 : Int32) (g_F_paving : F[0]? = some (.ref h1)) (g_P_walkers : P[10]? = some (.int 0)) : Met l yX11_sight (WS yX11_sight cX11_sight 4 (some .int)) ({ frames := 2, cells := 0, slots := 0, locals := 44 }) (va_Pc [.ref h0, .int p0, .int p1, .int p2] (cP D k [(h0, .inr (11, F)), (h1, .inr (6, P))] sz)) (va_Qi (fun (r : Int32) (_ : Unit) => r = (-1)) (fun (_ : Unit) t => cB D (va_A [(h0, .inr (11, F)), (h1, .inr (6, P))] sz) [] t) (va_A [(h0, .inr (11, F)), (h1, .inr (6, P))] sz)) 0 0 (va_A [(h0, .inr (11, F)), (h1, .inr (6, P))] sz) := by
  refine Met.ofW (cc := cX11_sight) (maxL := 4) (ret := (some .int)) (by decide) rfl ?_
  intro p e s m args below meth c s₁ B hml hv
  obtain ⟨rfl, hsz, hP, hKX, hD0⟩ := hv
  have hK := hKX.1
  have hx := B.exec
  have hb := B.bytes
  have hr := B.returns
  have hts := atoms_spec (ws := WS yX11_sight cX11_sight 4 (some .int)) B.pre
  have hgd : ∀ w ∈ gd, w ∈ WS yX11_sight cX11_sight 4 (some .int) := fun w h => List.mem_cons_of_mem _ h
  have hg : ∀ w ∈ gd, w.before _ s = true := fun w h => hts w (hgd w h)
  have hown : s.vm.findClass RX11 = some m.cls := findClass_of_methodNamed B.named
  have hlocks := B.notSynchronized
  subst hsz
  have hD := hD0.self (sz := s.heap.size)
  generalize hAe : va_A [(h0, .inr (11, F)), (h1, .inr (6, P))] s.heap.size = A at hD ⊢
  have hA : ∀ q : Nat, s.heap.size ≤ q → A q := fun q h => by rw [← hAe]; exact Or.inr h
  have hS : va_S A s.heap s.heap [] := va_S.rf
  have hP : va_P D classes [(h0, .inr (11, F)), (h1, .inr (6, P))] s.heap := hP
  have hl := lv_entry ([.ref h0, .int p0, .int p1, .int p2]) (n := 4) (Nat.le_of_ble_eq_true rfl)
  rw [lg_entry_eq]
  generalize (lg_sl ([.ref h0, .int p0, .int p1, .int p2]) ++ List.replicate (4 - (lg_sl ([.ref h0, .int p0, .int p1, .int p2])).length) Slot.unset).toArray = ls at hl ⊢
  have hl : lv_has ls 4 [(0, .ref h0), (1, .int p0), (2, .int p1), (3, .int p2)] := hl
  refine lv_aload_n hx hb dX11_sight_0 rfl (lv_at hl 0 rfl) ?_
  refine va_get (D := D) (ci := 11) (v := .ref h1) (C := RX11) (T := TX11) (N := 13) hx hb hg iX11 hown hK hP 0 rfl rfl 0 (by decide) (hg (Cond.fieldLink RX11 10 "SlabWalk" "paving" "LSlabWalk$Paving;") m570) (fun _ h9 => h9) g_F_paving dX11_sight_1 ?_
  refine lv_iload_n hx hb dX11_sight_4 rfl (lv_at hl 1 rfl) ?_
  refine lv_iload_n hx hb dX11_sight_5 rfl (lv_at hl 2 rfl) ?_
  refine lv_iload_n hx hb dX11_sight_6 rfl (lv_at hl 3 rfl) ?_
  have hPc := hP.sub (ws' := [(h1, .inr (6, P))]) [1] rfl
  have hDc := hD.sub (ws' := [(h1, .inr (6, P))]) [1] (by decide) rfl
  have hFc := va_free (wc := [(h1, .inr (6, P))]) hD hS hA [1] rfl
  refine va_calli (va_runV (As := [.int p0, .int p1, .int p2]) (rest := []) ⟨hx, hb, hml, hown, hts⟩ (c_stands l D k s.heap.size h1 P p0 p1 p2 g_P_walkers) (cwV 3 hts (gd_V hgd m1121 m966 m967 m118 m968) rfl rfl rfl (by decide +kernel) ⟨Nat.le_of_ble_eq_true rfl, Nat.le_of_ble_eq_true rfl⟩) (cP_V hPc hKX hDc (ci := 6) (q0 := 0) rfl rfl) rfl rfl hl.1 rfl (lv_room (Nat.le_of_ble_eq_true rfl)) dX11_sight_7 ⟨Nat.le_of_ble_eq_true rfl, Nat.le_of_ble_eq_true rfl⟩) hS (fun q _ h => hFc q h) hFc (fun r_1 u t H1 locs ht hvm hw hB hz1 hk1 hS => ?_)
  obtain ⟨hP1, hD1⟩ := hB
  rw [ht] at hP1
  obtain ⟨hP, hD⟩ := va_join (wr := [(h0, .inr (11, F))]) (w1 := [(h1, .inr (6, P))]) hP hD [1] [0] rfl rfl (by decide) (by decide) hk1 hFc hP1 hD1
  generalize H1 = H at hP hS ⊢
  have hP : va_P D classes [(h0, .inr (11, F)), (h1, .inr (6, P))] H := hP
  have hD : va_D A [(h0, .inr (11, F)), (h1, .inr (6, P))] := hD
  refine W.widen (k := 0) (n := 0) (Nat.le_of_ble_eq_true rfl) (Nat.le_of_ble_eq_true rfl) ?_
  subst hw
  refine lv_if_eq (tgt := 26) hx hb dX11_sight_10 (by decide) (fun c_2 => ?_) (fun c_2 => ?_)
  · have c_2 : (0 : Int32) = 0 := c_2
    refine lv_iconst (v := (-1)) hx hb dX11_sight_26 (by decide) ?_
    have hP9 := hP.sub (ws' := []) [] rfl
    have hD9 := hD.sub (ws' := []) [] (by decide) rfl
    exact W.iret (v := (-1)) hx hb hr (fun t ht hW => ⟨⟨(-1), (), rfl, rfl, cB_of ht hP9 hD9⟩, hS.F ht⟩) hS.2.2 dX11_sight_27
  · exact absurd (by decide) c_2

set_option maxHeartbeats 4000000 in
set_option maxRecDepth 100000 in
theorem c_X11_force (l : Launch) (D : va_G) (k : ClassId × ClassId × ClassId × ClassId) (sz : Nat) (h0 h1 : Nat) (F P : List Value) (p0 : Int32) (g_F_paving : F[0]? = some (.ref h1)) (g_P_rules : P[11]? = some (.int 0)) : Met l yX11_force (WS yX11_force cX11_force 2 (some .int)) ({ frames := 1, cells := 0, slots := 0, locals := 21 }) (va_Pc [.ref h0, .int p0] (cP D k [(h0, .inr (11, F)), (h1, .inr (6, P))] sz)) (va_Qi (fun (r : Int32) (_ : Unit) => r = (-1)) (fun (_ : Unit) t => cB D (va_A [(h0, .inr (11, F)), (h1, .inr (6, P))] sz) [] t) (va_A [(h0, .inr (11, F)), (h1, .inr (6, P))] sz)) 0 0 (va_A [(h0, .inr (11, F)), (h1, .inr (6, P))] sz) := by
  refine Met.ofW (cc := cX11_force) (maxL := 2) (ret := (some .int)) (by decide) rfl ?_
  intro p e s m args below meth c s₁ B hml hv
  obtain ⟨rfl, hsz, hP, hKX, hD0⟩ := hv
  have hK := hKX.1
  have hx := B.exec
  have hb := B.bytes
  have hr := B.returns
  have hts := atoms_spec (ws := WS yX11_force cX11_force 2 (some .int)) B.pre
  have hgd : ∀ w ∈ gd, w ∈ WS yX11_force cX11_force 2 (some .int) := fun w h => List.mem_cons_of_mem _ h
  have hg : ∀ w ∈ gd, w.before _ s = true := fun w h => hts w (hgd w h)
  have hown : s.vm.findClass RX11 = some m.cls := findClass_of_methodNamed B.named
  have hlocks := B.notSynchronized
  subst hsz
  have hD := hD0.self (sz := s.heap.size)
  generalize hAe : va_A [(h0, .inr (11, F)), (h1, .inr (6, P))] s.heap.size = A at hD ⊢
  have hA : ∀ q : Nat, s.heap.size ≤ q → A q := fun q h => by rw [← hAe]; exact Or.inr h
  have hS : va_S A s.heap s.heap [] := va_S.rf
  have hP : va_P D classes [(h0, .inr (11, F)), (h1, .inr (6, P))] s.heap := hP
  have hl := lv_entry ([.ref h0, .int p0]) (n := 2) (Nat.le_of_ble_eq_true rfl)
  rw [lg_entry_eq]
  generalize (lg_sl ([.ref h0, .int p0]) ++ List.replicate (2 - (lg_sl ([.ref h0, .int p0])).length) Slot.unset).toArray = ls at hl ⊢
  have hl : lv_has ls 2 [(0, .ref h0), (1, .int p0)] := hl
  refine lv_aload_n hx hb dX11_force_0 rfl (lv_at hl 0 rfl) ?_
  refine va_get (D := D) (ci := 11) (v := .ref h1) (C := RX11) (T := TX11) (N := 13) hx hb hg iX11 hown hK hP 0 rfl rfl 0 (by decide) (hg (Cond.fieldLink RX11 10 "SlabWalk" "paving" "LSlabWalk$Paving;") m570) (fun _ h9 => h9) g_F_paving dX11_force_1 ?_
  refine lv_iload_n hx hb dX11_force_4 rfl (lv_at hl 1 rfl) ?_
  have hPc := hP.sub (ws' := [(h1, .inr (6, P))]) [1] rfl
  have hDc := hD.sub (ws' := [(h1, .inr (6, P))]) [1] (by decide) rfl
  have hFc := va_free (wc := [(h1, .inr (6, P))]) hD hS hA [1] rfl
  refine va_calli (va_runV (As := [.int p0]) (rest := []) ⟨hx, hb, hml, hown, hts⟩ (c_hasRule l D k s.heap.size h1 P p0 g_P_rules) (cwV 1 hts (gd_V hgd m1206 m1207 m1208 m118 m1209) rfl rfl rfl (by decide +kernel) ⟨Nat.le_of_ble_eq_true rfl, Nat.le_of_ble_eq_true rfl⟩) (cP_V hPc hKX hDc (ci := 6) (q0 := 0) rfl rfl) rfl rfl hl.1 rfl (lv_room (Nat.le_of_ble_eq_true rfl)) dX11_force_5 ⟨Nat.le_of_ble_eq_true rfl, Nat.le_of_ble_eq_true rfl⟩) hS (fun q _ h => hFc q h) hFc (fun r_1 u t H1 locs ht hvm hw hB hz1 hk1 hS => ?_)
  obtain ⟨hP1, hD1⟩ := hB
  rw [ht] at hP1
  obtain ⟨hP, hD⟩ := va_join (wr := [(h0, .inr (11, F))]) (w1 := [(h1, .inr (6, P))]) hP hD [1] [0] rfl rfl (by decide) (by decide) hk1 hFc hP1 hD1
  generalize H1 = H at hP hS ⊢
  have hP : va_P D classes [(h0, .inr (11, F)), (h1, .inr (6, P))] H := hP
  have hD : va_D A [(h0, .inr (11, F)), (h1, .inr (6, P))] := hD
  refine W.widen (k := 0) (n := 0) (Nat.le_of_ble_eq_true rfl) (Nat.le_of_ble_eq_true rfl) ?_
  subst hw
  refine lv_if_ne (tgt := 13) hx hb dX11_force_8 (by decide) (fun c_2 => ?_) (fun c_2 => ?_)
  · exact absurd (by decide) c_2
  · have c_2 : (0 : Int32) = 0 := c_2
    refine lv_iconst (v := (-1)) hx hb dX11_force_11 (by decide) ?_
    have hP9 := hP.sub (ws' := []) [] rfl
    have hD9 := hD.sub (ws' := []) [] (by decide) rfl
    exact W.iret (v := (-1)) hx hb hr (fun t ht hW => ⟨⟨(-1), (), rfl, rfl, cB_of ht hP9 hD9⟩, hS.F ht⟩) hS.2.2 dX11_force_12

set_option maxHeartbeats 4000000 in
set_option maxRecDepth 100000 in
theorem c_X11_chance (l : Launch) (D : va_G) (k : ClassId × ClassId × ClassId × ClassId) (sz : Nat) (h0 h1 : Nat) (F P : List Value) (p0 p1 p2 : Int32) (g_F_paving : F[0]? = some (.ref h1)) (g_P_rules : P[11]? = some (.int 0)) : Met l yX11_chance (WS yX11_chance cX11_chance 10 (some .long)) ({ frames := 1, cells := 0, slots := 0, locals := 21 }) (va_Pc [.ref h0, .int p0, .int p1, .int p2] (cP D k [(h0, .inr (11, F)), (h1, .inr (6, P))] sz)) (va_Ql (fun (r : Int64) (_ : Unit) => r = (-1)) (fun (_ : Unit) t => cB D (va_A [(h0, .inr (11, F)), (h1, .inr (6, P))] sz) [] t) (va_A [(h0, .inr (11, F)), (h1, .inr (6, P))] sz)) 0 0 (va_A [(h0, .inr (11, F)), (h1, .inr (6, P))] sz) := by
  refine Met.ofW (cc := cX11_chance) (maxL := 10) (ret := (some .long)) (by decide) rfl ?_
  intro p e s m args below meth c s₁ B hml hv
  obtain ⟨rfl, hsz, hP, hKX, hD0⟩ := hv
  have hK := hKX.1
  have hx := B.exec
  have hb := B.bytes
  have hr := B.returns
  have hts := atoms_spec (ws := WS yX11_chance cX11_chance 10 (some .long)) B.pre
  have hgd : ∀ w ∈ gd, w ∈ WS yX11_chance cX11_chance 10 (some .long) := fun w h => List.mem_cons_of_mem _ h
  have hg : ∀ w ∈ gd, w.before _ s = true := fun w h => hts w (hgd w h)
  have hown : s.vm.findClass RX11 = some m.cls := findClass_of_methodNamed B.named
  have hlocks := B.notSynchronized
  subst hsz
  have hD := hD0.self (sz := s.heap.size)
  generalize hAe : va_A [(h0, .inr (11, F)), (h1, .inr (6, P))] s.heap.size = A at hD ⊢
  have hA : ∀ q : Nat, s.heap.size ≤ q → A q := fun q h => by rw [← hAe]; exact Or.inr h
  have hS : va_S A s.heap s.heap [] := va_S.rf
  have hP : va_P D classes [(h0, .inr (11, F)), (h1, .inr (6, P))] s.heap := hP
  have hl := lv_entry ([.ref h0, .int p0, .int p1, .int p2]) (n := 10) (Nat.le_of_ble_eq_true rfl)
  rw [lg_entry_eq]
  generalize (lg_sl ([.ref h0, .int p0, .int p1, .int p2]) ++ List.replicate (10 - (lg_sl ([.ref h0, .int p0, .int p1, .int p2])).length) Slot.unset).toArray = ls at hl ⊢
  have hl : lv_has ls 10 [(0, .ref h0), (1, .int p0), (2, .int p1), (3, .int p2)] := hl
  refine lv_aload_n hx hb dX11_chance_0 rfl (lv_at hl 0 rfl) ?_
  refine va_get (D := D) (ci := 11) (v := .ref h1) (C := RX11) (T := TX11) (N := 13) hx hb hg iX11 hown hK hP 0 rfl rfl 0 (by decide) (hg (Cond.fieldLink RX11 10 "SlabWalk" "paving" "LSlabWalk$Paving;") m570) (fun _ h9 => h9) g_F_paving dX11_chance_1 ?_
  refine lv_iload_n hx hb dX11_chance_4 rfl (lv_at hl 1 rfl) ?_
  have hPc := hP.sub (ws' := [(h1, .inr (6, P))]) [1] rfl
  have hDc := hD.sub (ws' := [(h1, .inr (6, P))]) [1] (by decide) rfl
  have hFc := va_free (wc := [(h1, .inr (6, P))]) hD hS hA [1] rfl
  refine va_calli (va_runV (As := [.int p0]) (rest := []) ⟨hx, hb, hml, hown, hts⟩ (c_hasRule l D k s.heap.size h1 P p0 g_P_rules) (cwV 1 hts (gd_V hgd m1206 m1207 m1208 m118 m1209) rfl rfl rfl (by decide +kernel) ⟨Nat.le_of_ble_eq_true rfl, Nat.le_of_ble_eq_true rfl⟩) (cP_V hPc hKX hDc (ci := 6) (q0 := 0) rfl rfl) rfl rfl hl.1 rfl (lv_room (Nat.le_of_ble_eq_true rfl)) dX11_chance_5 ⟨Nat.le_of_ble_eq_true rfl, Nat.le_of_ble_eq_true rfl⟩) hS (fun q _ h => hFc q h) hFc (fun r_1 u t H1 locs ht hvm hw hB hz1 hk1 hS => ?_)
  obtain ⟨hP1, hD1⟩ := hB
  rw [ht] at hP1
  obtain ⟨hP, hD⟩ := va_join (wr := [(h0, .inr (11, F))]) (w1 := [(h1, .inr (6, P))]) hP hD [1] [0] rfl rfl (by decide) (by decide) hk1 hFc hP1 hD1
  generalize H1 = H at hP hS ⊢
  have hP : va_P D classes [(h0, .inr (11, F)), (h1, .inr (6, P))] H := hP
  have hD : va_D A [(h0, .inr (11, F)), (h1, .inr (6, P))] := hD
  refine W.widen (k := 0) (n := 0) (Nat.le_of_ble_eq_true rfl) (Nat.le_of_ble_eq_true rfl) ?_
  subst hw
  refine lv_if_eq (tgt := 20) hx hb dX11_chance_8 (by decide) (fun c_2 => ?_) (fun c_2 => ?_)
  · have c_2 : (0 : Int32) = 0 := c_2
    refine lv_ldc2 (v := (-1)) hx hb hown (hg (Cond.constantLong RX11 165 (-1)) m1018) dX11_chance_20 ?_
    have hP9 := hP.sub (ws' := []) [] rfl
    have hD9 := hD.sub (ws' := []) [] (by decide) rfl
    exact W.lret (v := (-1)) hx hb hr (fun t ht hW => ⟨⟨(-1), (), rfl, rfl, cB_of ht hP9 hD9⟩, hS.F ht⟩) hS.2.2 dX11_chance_23
  · exact absurd (by decide) c_2
