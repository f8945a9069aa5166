set_option maxHeartbeats 4000000 in
set_option maxRecDepth 100000 in
theorem c_X12_fits (l : Launch) (D : va_G) (k : ClassId × ClassId × ClassId × ClassId) (sz : Nat) (h0 : Nat) (M : List Value) (p0 : Int32) (g_M_rules : M[54]? = some (.int 0)) : Met l yX12_fits (WS yX12_fits cX12_fits 6 (some .int)) ({ frames := 0, cells := 0, slots := 0, locals := 0 }) (va_Pc [.ref h0, .int p0] (cP D k [(h0, .inr (12, M))] sz)) (va_Qi (fun (r : Int32) (_ : Unit) => r = 0) (fun (_ : Unit) t => cB D (va_A [(h0, .inr (12, M))] sz) [] t) (va_A [(h0, .inr (12, M))] sz)) 0 0 (va_A [(h0, .inr (12, M))] sz) := by
  refine Met.ofW (cc := cX12_fits) (maxL := 6) (ret := (some .int)) (by decide) rfl ?_
  intro p e s m args below meth c s₁ B hml hv
  obtain ⟨rfl, hsz, hP, hKX, hD0⟩ := hv
  have hK := hKX.1
  have hx := B.exec
  have hb := B.bytes
  have hr := B.returns
  have hts := atoms_spec (ws := WS yX12_fits cX12_fits 6 (some .int)) B.pre
  have hgd : ∀ w ∈ gd, w ∈ WS yX12_fits cX12_fits 6 (some .int) := fun w h => List.mem_cons_of_mem _ h
  have hg : ∀ w ∈ gd, w.before _ s = true := fun w h => hts w (hgd w h)
  have hown : s.vm.findClass RX12 = some m.cls := findClass_of_methodNamed B.named
  have hlocks := B.notSynchronized
  subst hsz
  have hD := hD0.self (sz := s.heap.size)
  generalize hAe : va_A [(h0, .inr (12, M))] s.heap.size = A at hD ⊢
  have hA : ∀ q : Nat, s.heap.size ≤ q → A q := fun q h => by rw [← hAe]; exact Or.inr h
  have hS : va_S A s.heap s.heap [] := va_S.rf
  have hP : va_P D classes [(h0, .inr (12, M))] s.heap := hP
  have hl := lv_entry ([.ref h0, .int p0]) (n := 6) (Nat.le_of_ble_eq_true rfl)
  rw [lg_entry_eq]
  generalize (lg_sl ([.ref h0, .int p0]) ++ List.replicate (6 - (lg_sl ([.ref h0, .int p0])).length) Slot.unset).toArray = ls at hl ⊢
  have hl : lv_has ls 6 [(0, .ref h0), (1, .int p0)] := hl
  refine lv_iconst (v := 0) hx hb dX12_fits_0 (by decide) ?_
  refine lv_istore_n (lv' := [(2, .int 0), (0, .ref h0), (1, .int p0)]) hx hb dX12_fits_1 rfl hl (by decide) rfl (fun ls hl => ?_)
  refine lv_iconst (v := 0) hx hb dX12_fits_2 (by decide) ?_
  refine lv_istore_n (lv' := [(3, .int 0), (2, .int 0), (0, .ref h0), (1, .int p0)]) hx hb dX12_fits_3 rfl hl (by decide) rfl (fun ls hl => ?_)
  refine lv_iload_n hx hb dX12_fits_4 rfl (lv_at hl 0 rfl) ?_
  refine lv_aload_n hx hb dX12_fits_5 rfl (lv_at hl 2 rfl) ?_
  refine va_get (D := D) (ci := 12) (v := .int 0) (C := RX12) (T := TX12) (N := 89) hx hb hg iX12 hown hK hP 0 rfl rfl 54 (by decide) (hg (Cond.fieldLink RX12 431 "SlabWalkModel" "rules" "I") m1368) (fun _ h9 => h9) g_M_rules dX12_fits_6 ?_
  refine lv_icmp_ge (tgt := 107) hx hb dX12_fits_9 (by decide) (fun c_1 => ?_) (fun c_1 => ?_)
  · have c_1 : (0 : Int32) ≤ 0 := c_1
    refine lv_iload_n hx hb dX12_fits_107 rfl (lv_at hl 1 rfl) ?_
    have hP9 := hP.sub (ws' := []) [] rfl
    have hD9 := hD.sub (ws' := []) [] (by decide) rfl
    exact W.iret (v := 0) hx hb hr (fun t ht hW => ⟨⟨0, (), rfl, rfl, cB_of ht hP9 hD9⟩, hS.F ht⟩) hS.2.2 dX12_fits_108
  · exact absurd (by decide) c_1

set_option maxHeartbeats 4000000 in
set_option maxRecDepth 100000 in
theorem c_X12_go (l : Launch) (D : va_G) (k : ClassId × ClassId × ClassId × ClassId) (sz : Nat) (h0 nw : Nat) (M : List Value) (m4 : Nat → Int32) (p0 : Int32) (g_M_now : M[76]? = some (.ref nw)) (g_m4__0 : m4 0 = (-1)) : Met l yX12_go (WS yX12_go cX12_go 5 (some .int)) ({ frames := 0, cells := 0, slots := 0, locals := 0 }) (va_Pc [.ref h0, .int p0] (cP D k [(h0, .inr (12, M)), (nw, .inl (k.2.1, 16, .inl m4))] sz)) (va_Qi (fun (r : Int32) (_ : Unit) => r = (-1)) (fun (_ : Unit) t => cB D (va_A [(h0, .inr (12, M)), (nw, .inl (k.2.1, 16, .inl m4))] sz) [] t) (va_A [(h0, .inr (12, M)), (nw, .inl (k.2.1, 16, .inl m4))] sz)) 0 0 (va_A [(h0, .inr (12, M)), (nw, .inl (k.2.1, 16, .inl m4))] sz) := by
  refine Met.ofW (cc := cX12_go) (maxL := 5) (ret := (some .int)) (by decide) rfl ?_
  intro p e s m args below meth c s₁ B hml hv
  obtain ⟨rfl, hsz, hP, hKX, hD0⟩ := hv
  have hK := hKX.1
  have hx := B.exec
  have hb := B.bytes
  have hr := B.returns
  have hts := atoms_spec (ws := WS yX12_go cX12_go 5 (some .int)) B.pre
  have hgd : ∀ w ∈ gd, w ∈ WS yX12_go cX12_go 5 (some .int) := fun w h => List.mem_cons_of_mem _ h
  have hg : ∀ w ∈ gd, w.before _ s = true := fun w h => hts w (hgd w h)
  have hown : s.vm.findClass RX12 = some m.cls := findClass_of_methodNamed B.named
  have hlocks := B.notSynchronized
  subst hsz
  have hD := hD0.self (sz := s.heap.size)
  generalize hAe : va_A [(h0, .inr (12, M)), (nw, .inl (k.2.1, 16, .inl m4))] s.heap.size = A at hD ⊢
  have hA : ∀ q : Nat, s.heap.size ≤ q → A q := fun q h => by rw [← hAe]; exact Or.inr h
  have hS : va_S A s.heap s.heap [] := va_S.rf
  have hP : va_P D classes [(h0, .inr (12, M)), (nw, .inl (k.2.1, 16, .inl m4))] s.heap := hP
  have hl := lv_entry ([.ref h0, .int p0]) (n := 5) (Nat.le_of_ble_eq_true rfl)
  rw [lg_entry_eq]
  generalize (lg_sl ([.ref h0, .int p0]) ++ List.replicate (5 - (lg_sl ([.ref h0, .int p0])).length) Slot.unset).toArray = ls at hl ⊢
  have hl : lv_has ls 5 [(0, .ref h0), (1, .int p0)] := hl
  refine lv_aload_n hx hb dX12_go_0 rfl (lv_at hl 0 rfl) ?_
  refine va_get (D := D) (ci := 12) (v := .ref nw) (C := RX12) (T := TX12) (N := 89) hx hb hg iX12 hown hK hP 0 rfl rfl 76 (by decide) (hg (Cond.fieldLink RX12 151 "SlabWalkModel" "now" "[I") m1390) (fun _ h9 => h9) g_M_now dX12_go_1 ?_
  refine lv_iconst (v := 0) hx hb dX12_go_4 (by decide) ?_
  refine va_iald hx hb hK hP 1 1 rfl rfl (show ¬ ((0 : Int32) < 0 ∨ 16 ≤ (0 : Int32).toNatClampNeg) from by decide +kernel) dX12_go_5 ?_
  refine lv_topi (fun y_1 ey_1 => ?_)
  obtain rfl : y_1 = (-1) := ey_1.trans (g_m4__0)
  refine lv_if_lt (tgt := 19) hx hb dX12_go_6 (by decide) (fun c_2 => ?_) (fun c_2 => ?_)
  · have c_2 : ((-1) : Int32) < 0 := c_2
    refine lv_iconst (v := (-1)) hx hb dX12_go_19 (by decide) ?_
    have hP9 := hP.sub (ws' := []) [] rfl
    have hD9 := hD.sub (ws' := []) [] (by decide) rfl
    exact W.iret (v := (-1)) hx hb hr (fun t ht hW => ⟨⟨(-1), (), rfl, rfl, cB_of ht hP9 hD9⟩, hS.F ht⟩) hS.2.2 dX12_go_20
  · exact absurd (by decide) c_2

set_option maxHeartbeats 4000000 in
set_option maxRecDepth 100000 in
theorem c_X12_walker (l : Launch) (D : va_G) (k : ClassId × ClassId × ClassId × ClassId) (sz : Nat) (h0 nw : Nat) (M : List Value) (m4 : Nat → Int32) (p0 : Int32) (g_M_now : M[76]? = some (.ref nw)) (g_m4__0 : m4 0 = (-1)) : Met l yX12_walker (WS yX12_walker cX12_walker 2 (some .int)) ({ frames := 0, cells := 0, slots := 0, locals := 0 }) (va_Pc [.ref h0, .int p0] (cP D k [(h0, .inr (12, M)), (nw, .inl (k.2.1, 16, .inl m4))] sz)) (va_Qi (fun (r : Int32) (_ : Unit) => r = (-1)) (fun (_ : Unit) t => cB D (va_A [(h0, .inr (12, M)), (nw, .inl (k.2.1, 16, .inl m4))] sz) [] t) (va_A [(h0, .inr (12, M)), (nw, .inl (k.2.1, 16, .inl m4))] sz)) 0 0 (va_A [(h0, .inr (12, M)), (nw, .inl (k.2.1, 16, .inl m4))] sz) := by
  refine Met.ofW (cc := cX12_walker) (maxL := 2) (ret := (some .int)) (by decide) rfl ?_
  intro p e s m args below meth c s₁ B hml hv
  obtain ⟨rfl, hsz, hP, hKX, hD0⟩ := hv
  have hK := hKX.1
  have hx := B.exec
  have hb := B.bytes
  have hr := B.returns
  have hts := atoms_spec (ws := WS yX12_walker cX12_walker 2 (some .int)) B.pre
  have hgd : ∀ w ∈ gd, w ∈ WS yX12_walker cX12_walker 2 (some .int) := fun w h => List.mem_cons_of_mem _ h
  have hg : ∀ w ∈ gd, w.before _ s = true := fun w h => hts w (hgd w h)
  have hown : s.vm.findClass RX12 = some m.cls := findClass_of_methodNamed B.named
  have hlocks := B.notSynchronized
  subst hsz
  have hD := hD0.self (sz := s.heap.size)
  generalize hAe : va_A [(h0, .inr (12, M)), (nw, .inl (k.2.1, 16, .inl m4))] s.heap.size = A at hD ⊢
  have hA : ∀ q : Nat, s.heap.size ≤ q → A q := fun q h => by rw [← hAe]; exact Or.inr h
  have hS : va_S A s.heap s.heap [] := va_S.rf
  have hP : va_P D classes [(h0, .inr (12, M)), (nw, .inl (k.2.1, 16, .inl m4))] s.heap := hP
  have hl := lv_entry ([.ref h0, .int p0]) (n := 2) (Nat.le_of_ble_eq_true rfl)
  rw [lg_entry_eq]
  generalize (lg_sl ([.ref h0, .int p0]) ++ List.replicate (2 - (lg_sl ([.ref h0, .int p0])).length) Slot.unset).toArray = ls at hl ⊢
  have hl : lv_has ls 2 [(0, .ref h0), (1, .int p0)] := hl
  refine lv_aload_n hx hb dX12_walker_0 rfl (lv_at hl 0 rfl) ?_
  refine va_get (D := D) (ci := 12) (v := .ref nw) (C := RX12) (T := TX12) (N := 89) hx hb hg iX12 hown hK hP 0 rfl rfl 76 (by decide) (hg (Cond.fieldLink RX12 151 "SlabWalkModel" "now" "[I") m1390) (fun _ h9 => h9) g_M_now dX12_walker_1 ?_
  refine lv_iconst (v := 0) hx hb dX12_walker_4 (by decide) ?_
  refine va_iald hx hb hK hP 1 1 rfl rfl (show ¬ ((0 : Int32) < 0 ∨ 16 ≤ (0 : Int32).toNatClampNeg) from by decide +kernel) dX12_walker_5 ?_
  refine lv_topi (fun y_1 ey_1 => ?_)
  obtain rfl : y_1 = (-1) := ey_1.trans (g_m4__0)
  refine lv_if_lt (tgt := 18) hx hb dX12_walker_6 (by decide) (fun c_2 => ?_) (fun c_2 => ?_)
  · have c_2 : ((-1) : Int32) < 0 := c_2
    refine lv_iconst (v := (-1)) hx hb dX12_walker_18 (by decide) ?_
    refine lv_goto (tgt := 28) hx hb dX12_walker_19 (by decide) ?_
    have hP9 := hP.sub (ws' := []) [] rfl
    have hD9 := hD.sub (ws' := []) [] (by decide) rfl
    exact W.iret (v := (-1)) hx hb hr (fun t ht hW => ⟨⟨(-1), (), rfl, rfl, cB_of ht hP9 hD9⟩, hS.F ht⟩) hS.2.2 dX12_walker_28
  · exact absurd (by decide) c_2

set_option maxHeartbeats 4000000 in
set_option maxRecDepth 100000 in
theorem c_X12_undo (l : Launch) (D : va_G) (k : ClassId × ClassId × ClassId × ClassId) (sz : Nat) (h0 : Nat) (M : List Value) (g_M_acts : M[78]? = some (.int 0)) : Met l yX12_undo (WS yX12_undo cX12_undo 1 (some .boolean)) ({ frames := 0, cells := 0, slots := 0, locals := 0 }) (va_Pc [.ref h0] (cP D k [(h0, .inr (12, M))] sz)) (va_Qi (fun (r : Int32) (_ : Unit) => r = 0) (fun (_ : Unit) t => cB D (va_A [(h0, .inr (12, M))] sz) [] t) (va_A [(h0, .inr (12, M))] sz)) 0 0 (va_A [(h0, .inr (12, M))] sz) := by
  refine Met.ofW (cc := cX12_undo) (maxL := 1) (ret := (some .boolean)) (by decide) rfl ?_
  intro p e s m args below meth c s₁ B hml hv
  obtain ⟨rfl, hsz, hP, hKX, hD0⟩ := hv
  have hK := hKX.1
  have hx := B.exec
  have hb := B.bytes
  have hr := B.returns
  have hts := atoms_spec (ws := WS yX12_undo cX12_undo 1 (some .boolean)) B.pre
  have hgd : ∀ w ∈ gd, w ∈ WS yX12_undo cX12_undo 1 (some .boolean) := fun w h => List.mem_cons_of_mem _ h
  have hg : ∀ w ∈ gd, w.before _ s = true := fun w h => hts w (hgd w h)
  have hown : s.vm.findClass RX12 = some m.cls := findClass_of_methodNamed B.named
  have hlocks := B.notSynchronized
  subst hsz
  have hD := hD0.self (sz := s.heap.size)
  generalize hAe : va_A [(h0, .inr (12, M))] s.heap.size = A at hD ⊢
  have hA : ∀ q : Nat, s.heap.size ≤ q → A q := fun q h => by rw [← hAe]; exact Or.inr h
  have hS : va_S A s.heap s.heap [] := va_S.rf
  have hP : va_P D classes [(h0, .inr (12, M))] s.heap := hP
  have hl := lv_entry ([.ref h0]) (n := 1) (Nat.le_of_ble_eq_true rfl)
  rw [lg_entry_eq]
  generalize (lg_sl ([.ref h0]) ++ List.replicate (1 - (lg_sl ([.ref h0])).length) Slot.unset).toArray = ls at hl ⊢
  have hl : lv_has ls 1 [(0, .ref h0)] := hl
  refine lv_aload_n hx hb dX12_undo_0 rfl (lv_at hl 0 rfl) ?_
  refine va_get (D := D) (ci := 12) (v := .int 0) (C := RX12) (T := TX12) (N := 89) hx hb hg iX12 hown hK hP 0 rfl rfl 78 (by decide) (hg (Cond.fieldLink RX12 437 "SlabWalkModel" "acts" "I") m1392) (fun _ h9 => h9) g_M_acts dX12_undo_1 ?_
  refine lv_if_ne (tgt := 9) hx hb dX12_undo_4 (by decide) (fun c_1 => ?_) (fun c_1 => ?_)
  · exact absurd (by decide) c_1
  · have c_1 : (0 : Int32) = 0 := c_1
    refine lv_iconst (v := 0) hx hb dX12_undo_7 (by decide) ?_
    have hP9 := hP.sub (ws' := []) [] rfl
    have hD9 := hD.sub (ws' := []) [] (by decide) rfl
    exact W.zret (v := 0) hx hb hr (by decide) (fun t ht hW => ⟨⟨0, (), rfl, rfl, cB_of ht hP9 hD9⟩, hS.F ht⟩) hS.2.2 dX12_undo_8

set_option maxHeartbeats 4000000 in
set_option maxRecDepth 100000 in
theorem c_X12_redo (l : Launch) (D : va_G) (k : ClassId × ClassId × ClassId × ClassId) (sz : Nat) (h0 : Nat) (M : List Value) (g_M_undone : M[79]? = some (.int 0)) : Met l yX12_redo (WS yX12_redo cX12_redo 1 (some .boolean)) ({ frames := 0, cells := 0, slots := 0, locals := 0 }) (va_Pc [.ref h0] (cP D k [(h0, .inr (12, M))] sz)) (va_Qi (fun (r : Int32) (_ : Unit) => r = 0) (fun (_ : Unit) t => cB D (va_A [(h0, .inr (12, M))] sz) [] t) (va_A [(h0, .inr (12, M))] sz)) 0 0 (va_A [(h0, .inr (12, M))] sz) := by
  refine Met.ofW (cc := cX12_redo) (maxL := 1) (ret := (some .boolean)) (by decide) rfl ?_
  intro p e s m args below meth c s₁ B hml hv
  obtain ⟨rfl, hsz, hP, hKX, hD0⟩ := hv
  have hK := hKX.1
  have hx := B.exec
  have hb := B.bytes
  have hr := B.returns
  have hts := atoms_spec (ws := WS yX12_redo cX12_redo 1 (some .boolean)) B.pre
  have hgd : ∀ w ∈ gd, w ∈ WS yX12_redo cX12_redo 1 (some .boolean) := fun w h => List.mem_cons_of_mem _ h
  have hg : ∀ w ∈ gd, w.before _ s = true := fun w h => hts w (hgd w h)
  have hown : s.vm.findClass RX12 = some m.cls := findClass_of_methodNamed B.named
  have hlocks := B.notSynchronized
  subst hsz
  have hD := hD0.self (sz := s.heap.size)
  generalize hAe : va_A [(h0, .inr (12, M))] s.heap.size = A at hD ⊢
  have hA : ∀ q : Nat, s.heap.size ≤ q → A q := fun q h => by rw [← hAe]; exact Or.inr h
  have hS : va_S A s.heap s.heap [] := va_S.rf
  have hP : va_P D classes [(h0, .inr (12, M))] s.heap := hP
  have hl := lv_entry ([.ref h0]) (n := 1) (Nat.le_of_ble_eq_true rfl)
  rw [lg_entry_eq]
  generalize (lg_sl ([.ref h0]) ++ List.replicate (1 - (lg_sl ([.ref h0])).length) Slot.unset).toArray = ls at hl ⊢
  have hl : lv_has ls 1 [(0, .ref h0)] := hl
  refine lv_aload_n hx hb dX12_redo_0 rfl (lv_at hl 0 rfl) ?_
  refine va_get (D := D) (ci := 12) (v := .int 0) (C := RX12) (T := TX12) (N := 89) hx hb hg iX12 hown hK hP 0 rfl rfl 79 (by decide) (hg (Cond.fieldLink RX12 440 "SlabWalkModel" "undone" "I") m1393) (fun _ h9 => h9) g_M_undone dX12_redo_1 ?_
  refine lv_if_ne (tgt := 9) hx hb dX12_redo_4 (by decide) (fun c_1 => ?_) (fun c_1 => ?_)
  · exact absurd (by decide) c_1
  · have c_1 : (0 : Int32) = 0 := c_1
    refine lv_iconst (v := 0) hx hb dX12_redo_7 (by decide) ?_
    have hP9 := hP.sub (ws' := []) [] rfl
    have hD9 := hD.sub (ws' := []) [] (by decide) rfl
    exact W.zret (v := 0) hx hb hr (by decide) (fun t ht hW => ⟨⟨0, (), rfl, rfl, cB_of ht hP9 hD9⟩, hS.F ht⟩) hS.2.2 dX12_redo_8

set_option maxHeartbeats 4000000 in
set_option maxRecDepth 100000 in
theorem c_X12_lies (l : Launch) (D : va_G) (k : ClassId × ClassId × ClassId × ClassId) (sz : Nat) (h0 : Nat) (M : List Value) (p0 : Int32) (g_M_lain : M[66]? = some (.int 0)) : Met l yX12_lies (WS yX12_lies cX12_lies 2 (some .int)) ({ frames := 1, cells := 0, slots := 0, locals := 22 }) (va_Pc [.ref h0, .int p0] (cP D k [(h0, .inr (12, M))] sz)) (va_Qi (fun (r : Int32) (_ : Unit) => r = (-1)) (fun (_ : Unit) t => cB D (va_A [(h0, .inr (12, M))] sz) [] t) (va_A [(h0, .inr (12, M))] sz)) 0 0 (va_A [(h0, .inr (12, M))] sz) := by
  refine Met.ofW (cc := cX12_lies) (maxL := 2) (ret := (some .int)) (by decide) rfl ?_
  intro p e s m args below meth c s₁ B hml hv
  obtain ⟨rfl, hsz, hP, hKX, hD0⟩ := hv
  have hK := hKX.1
  have hx := B.exec
  have hb := B.bytes
  have hr := B.returns
  have hts := atoms_spec (ws := WS yX12_lies cX12_lies 2 (some .int)) B.pre
  have hgd : ∀ w ∈ gd, w ∈ WS yX12_lies cX12_lies 2 (some .int) := fun w h => List.mem_cons_of_mem _ h
  have hg : ∀ w ∈ gd, w.before _ s = true := fun w h => hts w (hgd w h)
  have hown : s.vm.findClass RX12 = some m.cls := findClass_of_methodNamed B.named
  have hlocks := B.notSynchronized
  subst hsz
  have hD := hD0.self (sz := s.heap.size)
  generalize hAe : va_A [(h0, .inr (12, M))] s.heap.size = A at hD ⊢
  have hA : ∀ q : Nat, s.heap.size ≤ q → A q := fun q h => by rw [← hAe]; exact Or.inr h
  have hS : va_S A s.heap s.heap [] := va_S.rf
  have hP : va_P D classes [(h0, .inr (12, M))] s.heap := hP
  have hl := lv_entry ([.ref h0, .int p0]) (n := 2) (Nat.le_of_ble_eq_true rfl)
  rw [lg_entry_eq]
  generalize (lg_sl ([.ref h0, .int p0]) ++ List.replicate (2 - (lg_sl ([.ref h0, .int p0])).length) Slot.unset).toArray = ls at hl ⊢
  have hl : lv_has ls 2 [(0, .ref h0), (1, .int p0)] := hl
  refine lv_iload_n hx hb dX12_lies_0 rfl (lv_at hl 1 rfl) ?_
  refine lv_iconst (v := 0) hx hb dX12_lies_1 (by decide) ?_
  refine lv_aload_n hx hb dX12_lies_2 rfl (lv_at hl 0 rfl) ?_
  refine va_get (D := D) (ci := 12) (v := .int 0) (C := RX12) (T := TX12) (N := 89) hx hb hg iX12 hown hK hP 0 rfl rfl 66 (by decide) (hg (Cond.fieldLink RX12 446 "SlabWalkModel" "lain" "I") m1380) (fun _ h9 => h9) g_M_lain dX12_lies_3 ?_
  refine lv_iconst (v := 1) hx hb dX12_lies_6 (by decide) ?_
  refine lv_isub hx hb dX12_lies_7 ?_
  refine lv_topi (fun y_1 ey_1 => ?_)
  obtain rfl : y_1 = (-1) := ey_1.trans (by decide)
  have hPc := hP.sub (ws' := []) [] rfl
  have hDc := hD.sub (ws' := []) [] (by decide) rfl
  have hFc := va_free (wc := []) hD hS hA [] rfl
  refine va_calli (va_runS (As := [.int p0, .int 0, .int (-1)]) (rest := []) ⟨hx, hb, hml, hown, hts⟩ (c_X12_isIn0 l D k s.heap.size p0 ) (va_cwS 3 hts (gd_S hgd m1781 m1782 m131 m1783) rfl rfl rfl (by decide +kernel) ⟨Nat.le_of_ble_eq_true rfl, Nat.le_of_ble_eq_true rfl⟩) (cP_S hPc hKX hDc) rfl rfl hl.1 rfl (lv_room (Nat.le_of_ble_eq_true rfl)) dX12_lies_8 ⟨Nat.le_of_ble_eq_true rfl, Nat.le_of_ble_eq_true rfl⟩) hS (fun q _ h => hFc q h) hFc (fun r_2 u t H1 locs ht hvm hw hB hz1 hk1 hS => ?_)
  obtain ⟨hP1, hD1⟩ := hB
  rw [ht] at hP1
  obtain ⟨hP, hD⟩ := va_join (wr := [(h0, .inr (12, M))]) (w1 := []) hP hD [] [0] rfl rfl (by decide) (by decide) hk1 hFc hP1 hD1
  generalize H1 = H at hP hS ⊢
  have hP : va_P D classes [(h0, .inr (12, M))] H := hP
  have hD : va_D A [(h0, .inr (12, M))] := hD
  refine W.widen (k := 0) (n := 0) (Nat.le_of_ble_eq_true rfl) (Nat.le_of_ble_eq_true rfl) ?_
  subst hw
  refine lv_if_eq (tgt := 23) hx hb dX12_lies_11 (by decide) (fun c_3 => ?_) (fun c_3 => ?_)
  · have c_3 : (0 : Int32) = 0 := c_3
    refine lv_iconst (v := (-1)) hx hb dX12_lies_23 (by decide) ?_
    have hP9 := hP.sub (ws' := []) [] rfl
    have hD9 := hD.sub (ws' := []) [] (by decide) rfl
    exact W.iret (v := (-1)) hx hb hr (fun t ht hW => ⟨⟨(-1), (), rfl, rfl, cB_of ht hP9 hD9⟩, hS.F ht⟩) hS.2.2 dX12_lies_24
  · exact absurd (by decide) c_3

set_option maxHeartbeats 4000000 in
set_option maxRecDepth 100000 in
theorem c_X12_untell (l : Launch) (D : va_G) (k : ClassId × ClassId × ClassId × ClassId) (sz : Nat) (h0 : Nat) (M : List Value) (p0 : Int32) (g_M_sights : M[85]? = some (.int 0)) : Met l yX12_untell (WS yX12_untell cX12_untell 2 (some .boolean)) ({ frames := 1, cells := 0, slots := 0, locals := 22 }) (va_Pc [.ref h0, .int p0] (cP D k [(h0, .inr (12, M))] sz)) (va_Qi (fun (r : Int32) (_ : Unit) => r = 0) (fun (_ : Unit) t => cB D (va_A [(h0, .inr (12, M))] sz) [] t) (va_A [(h0, .inr (12, M))] sz)) 0 0 (va_A [(h0, .inr (12, M))] sz) := by
  refine Met.ofW (cc := cX12_untell) (maxL := 2) (ret := (some .boolean)) (by decide) rfl ?_
  intro p e s m args below meth c s₁ B hml hv
  obtain ⟨rfl, hsz, hP, hKX, hD0⟩ := hv
  have hK := hKX.1
  have hx := B.exec
  have hb := B.bytes
  have hr := B.returns
  have hts := atoms_spec (ws := WS yX12_untell cX12_untell 2 (some .boolean)) B.pre
  have hgd : ∀ w ∈ gd, w ∈ WS yX12_untell cX12_untell 2 (some .boolean) := fun w h => List.mem_cons_of_mem _ h
  have hg : ∀ w ∈ gd, w.before _ s = true := fun w h => hts w (hgd w h)
  have hown : s.vm.findClass RX12 = some m.cls := findClass_of_methodNamed B.named
  have hlocks := B.notSynchronized
  subst hsz
  have hD := hD0.self (sz := s.heap.size)
  generalize hAe : va_A [(h0, .inr (12, M))] s.heap.size = A at hD ⊢
  have hA : ∀ q : Nat, s.heap.size ≤ q → A q := fun q h => by rw [← hAe]; exact Or.inr h
  have hS : va_S A s.heap s.heap [] := va_S.rf
  have hP : va_P D classes [(h0, .inr (12, M))] s.heap := hP
  have hl := lv_entry ([.ref h0, .int p0]) (n := 2) (Nat.le_of_ble_eq_true rfl)
  rw [lg_entry_eq]
  generalize (lg_sl ([.ref h0, .int p0]) ++ List.replicate (2 - (lg_sl ([.ref h0, .int p0])).length) Slot.unset).toArray = ls at hl ⊢
  have hl : lv_has ls 2 [(0, .ref h0), (1, .int p0)] := hl
  refine lv_iload_n hx hb dX12_untell_0 rfl (lv_at hl 1 rfl) ?_
  refine lv_iconst (v := 0) hx hb dX12_untell_1 (by decide) ?_
  refine lv_aload_n hx hb dX12_untell_2 rfl (lv_at hl 0 rfl) ?_
  refine va_get (D := D) (ci := 12) (v := .int 0) (C := RX12) (T := TX12) (N := 89) hx hb hg iX12 hown hK hP 0 rfl rfl 85 (by decide) (hg (Cond.fieldLink RX12 443 "SlabWalkModel" "sights" "I") m1399) (fun _ h9 => h9) g_M_sights dX12_untell_3 ?_
  refine lv_iconst (v := 1) hx hb dX12_untell_6 (by decide) ?_
  refine lv_isub hx hb dX12_untell_7 ?_
  refine lv_topi (fun y_1 ey_1 => ?_)
  obtain rfl : y_1 = (-1) := ey_1.trans (by decide)
  have hPc := hP.sub (ws' := []) [] rfl
  have hDc := hD.sub (ws' := []) [] (by decide) rfl
  have hFc := va_free (wc := []) hD hS hA [] rfl
  refine va_calli (va_runS (As := [.int p0, .int 0, .int (-1)]) (rest := []) ⟨hx, hb, hml, hown, hts⟩ (c_X12_isIn0 l D k s.heap.size p0 ) (va_cwS 3 hts (gd_S hgd m1781 m1782 m131 m1783) rfl rfl rfl (by decide +kernel) ⟨Nat.le_of_ble_eq_true rfl, Nat.le_of_ble_eq_true rfl⟩) (cP_S hPc hKX hDc) rfl rfl hl.1 rfl (lv_room (Nat.le_of_ble_eq_true rfl)) dX12_untell_8 ⟨Nat.le_of_ble_eq_true rfl, Nat.le_of_ble_eq_true rfl⟩) hS (fun q _ h => hFc q h) hFc (fun r_2 u t H1 locs ht hvm hw hB hz1 hk1 hS => ?_)
  obtain ⟨hP1, hD1⟩ := hB
  rw [ht] at hP1
  obtain ⟨hP, hD⟩ := va_join (wr := [(h0, .inr (12, M))]) (w1 := []) hP hD [] [0] rfl rfl (by decide) (by decide) hk1 hFc hP1 hD1
  generalize H1 = H at hP hS ⊢
  have hP : va_P D classes [(h0, .inr (12, M))] H := hP
  have hD : va_D A [(h0, .inr (12, M))] := hD
  refine W.widen (k := 0) (n := 0) (Nat.le_of_ble_eq_true rfl) (Nat.le_of_ble_eq_true rfl) ?_
  subst hw
  refine lv_if_eq (tgt := 23) hx hb dX12_untell_11 (by decide) (fun c_3 => ?_) (fun c_3 => ?_)
  · have c_3 : (0 : Int32) = 0 := c_3
    refine lv_iconst (v := 0) hx hb dX12_untell_23 (by decide) ?_
    have hP9 := hP.sub (ws' := []) [] rfl
    have hD9 := hD.sub (ws' := []) [] (by decide) rfl
    exact W.zret (v := 0) hx hb hr (by decide) (fun t ht hW => ⟨⟨0, (), rfl, rfl, cB_of ht hP9 hD9⟩, hS.F ht⟩) hS.2.2 dX12_untell_24
  · exact absurd (by decide) c_3

set_option maxHeartbeats 4000000 in
set_option maxRecDepth 100000 in
theorem c_X12_later_a (l : Launch) (D : va_G) (k : ClassId × ClassId × ClassId × ClassId) (sz : Nat) (h0 : Nat) (M : List Value) (p0 : Int32) (g_M_time : M[86]? = some (.int 0)) (h_lt0 : p0 < 0) : Met l yX12_later (WS yX12_later cX12_later 2 (some .int)) ({ frames := 0, cells := 0, slots := 0, locals := 0 }) (va_Pc [.ref h0, .int p0] (cP D k [(h0, .inr (12, M))] sz)) (va_Qi (fun (r : Int32) (_ : Unit) => r = (-1)) (fun (_ : Unit) t => cB D (va_A [(h0, .inr (12, M))] sz) [] t) (va_A [(h0, .inr (12, M))] sz)) 0 0 (va_A [(h0, .inr (12, M))] sz) := by
  refine Met.ofW (cc := cX12_later) (maxL := 2) (ret := (some .int)) (by decide) rfl ?_
  intro p e s m args below meth c s₁ B hml hv
  obtain ⟨rfl, hsz, hP, hKX, hD0⟩ := hv
  have hK := hKX.1
  have hx := B.exec
  have hb := B.bytes
  have hr := B.returns
  have hts := atoms_spec (ws := WS yX12_later cX12_later 2 (some .int)) B.pre
  have hgd : ∀ w ∈ gd, w ∈ WS yX12_later cX12_later 2 (some .int) := fun w h => List.mem_cons_of_mem _ h
  have hg : ∀ w ∈ gd, w.before _ s = true := fun w h => hts w (hgd w h)
  have hown : s.vm.findClass RX12 = some m.cls := findClass_of_methodNamed B.named
  have hlocks := B.notSynchronized
  subst hsz
  have hD := hD0.self (sz := s.heap.size)
  generalize hAe : va_A [(h0, .inr (12, M))] s.heap.size = A at hD ⊢
  have hA : ∀ q : Nat, s.heap.size ≤ q → A q := fun q h => by rw [← hAe]; exact Or.inr h
  have hS : va_S A s.heap s.heap [] := va_S.rf
  have hP : va_P D classes [(h0, .inr (12, M))] s.heap := hP
  have hl := lv_entry ([.ref h0, .int p0]) (n := 2) (Nat.le_of_ble_eq_true rfl)
  rw [lg_entry_eq]
  generalize (lg_sl ([.ref h0, .int p0]) ++ List.replicate (2 - (lg_sl ([.ref h0, .int p0])).length) Slot.unset).toArray = ls at hl ⊢
  have hl : lv_has ls 2 [(0, .ref h0), (1, .int p0)] := hl
  refine lv_iload_n hx hb dX12_later_0 rfl (lv_at hl 1 rfl) ?_
  refine lv_if_lt (tgt := 23) hx hb dX12_later_1 (by decide) (fun c_1 => ?_) (fun c_1 => ?_)
  · have c_1 : (p0 : Int32) < 0 := c_1
    refine lv_iconst (v := (-1)) hx hb dX12_later_23 (by decide) ?_
    have hP9 := hP.sub (ws' := []) [] rfl
    have hD9 := hD.sub (ws' := []) [] (by decide) rfl
    exact W.iret (v := (-1)) hx hb hr (fun t ht hW => ⟨⟨(-1), (), rfl, rfl, cB_of ht hP9 hD9⟩, hS.F ht⟩) hS.2.2 dX12_later_24
  · exact absurd h_lt0 c_1

set_option maxHeartbeats 4000000 in
set_option maxRecDepth 100000 in
theorem c_X12_later_b (l : Launch) (D : va_G) (k : ClassId × ClassId × ClassId × ClassId) (sz : Nat) (h0 : Nat) (M : List Value) (p0 : Int32) (g_M_time : M[86]? = some (.int 0)) (h_nlt0 : ¬ (p0 < 0)) (h_gt1000 : 1000 < p0) : Met l yX12_later (WS yX12_later cX12_later 2 (some .int)) ({ frames := 0, cells := 0, slots := 0, locals := 0 }) (va_Pc [.ref h0, .int p0] (cP D k [(h0, .inr (12, M))] sz)) (va_Qi (fun (r : Int32) (_ : Unit) => r = (-1)) (fun (_ : Unit) t => cB D (va_A [(h0, .inr (12, M))] sz) [] t) (va_A [(h0, .inr (12, M))] sz)) 0 0 (va_A [(h0, .inr (12, M))] sz) := by
  refine Met.ofW (cc := cX12_later) (maxL := 2) (ret := (some .int)) (by decide) rfl ?_
  intro p e s m args below meth c s₁ B hml hv
  obtain ⟨rfl, hsz, hP, hKX, hD0⟩ := hv
  have hK := hKX.1
  have hx := B.exec
  have hb := B.bytes
  have hr := B.returns
  have hts := atoms_spec (ws := WS yX12_later cX12_later 2 (some .int)) B.pre
  have hgd : ∀ w ∈ gd, w ∈ WS yX12_later cX12_later 2 (some .int) := fun w h => List.mem_cons_of_mem _ h
  have hg : ∀ w ∈ gd, w.before _ s = true := fun w h => hts w (hgd w h)
  have hown : s.vm.findClass RX12 = some m.cls := findClass_of_methodNamed B.named
  have hlocks := B.notSynchronized
  subst hsz
  have hD := hD0.self (sz := s.heap.size)
  generalize hAe : va_A [(h0, .inr (12, M))] s.heap.size = A at hD ⊢
  have hA : ∀ q : Nat, s.heap.size ≤ q → A q := fun q h => by rw [← hAe]; exact Or.inr h
  have hS : va_S A s.heap s.heap [] := va_S.rf
  have hP : va_P D classes [(h0, .inr (12, M))] s.heap := hP
  have hl := lv_entry ([.ref h0, .int p0]) (n := 2) (Nat.le_of_ble_eq_true rfl)
  rw [lg_entry_eq]
  generalize (lg_sl ([.ref h0, .int p0]) ++ List.replicate (2 - (lg_sl ([.ref h0, .int p0])).length) Slot.unset).toArray = ls at hl ⊢
  have hl : lv_has ls 2 [(0, .ref h0), (1, .int p0)] := hl
  refine lv_iload_n hx hb dX12_later_0 rfl (lv_at hl 1 rfl) ?_
  refine lv_if_lt (tgt := 23) hx hb dX12_later_1 (by decide) (fun c_1 => ?_) (fun c_1 => ?_)
  · exact absurd c_1 h_nlt0
  · have c_1 : ¬ ((p0 : Int32) < 0) := c_1
    refine lv_iload_n hx hb dX12_later_4 rfl (lv_at hl 1 rfl) ?_
    refine lv_sipush (v := 1000) hx hb dX12_later_5 (by decide) ?_
    refine lv_icmp_gt (tgt := 23) hx hb dX12_later_8 (by decide) (fun c_2 => ?_) (fun c_2 => ?_)
    · have c_2 : (1000 : Int32) < p0 := c_2
      refine lv_iconst (v := (-1)) hx hb dX12_later_23 (by decide) ?_
      have hP9 := hP.sub (ws' := []) [] rfl
      have hD9 := hD.sub (ws' := []) [] (by decide) rfl
      exact W.iret (v := (-1)) hx hb hr (fun t ht hW => ⟨⟨(-1), (), rfl, rfl, cB_of ht hP9 hD9⟩, hS.F ht⟩) hS.2.2 dX12_later_24
    · exact absurd h_gt1000 c_2

set_option maxHeartbeats 4000000 in
set_option maxRecDepth 100000 in
theorem c_X12_later_c (l : Launch) (D : va_G) (k : ClassId × ClassId × ClassId × ClassId) (sz : Nat) (h0 : Nat) (M : List Value) (p0 : Int32) (g_M_time : M[86]? = some (.int 0)) (h_nlt0 : ¬ (p0 < 0)) (h_ngt1000 : ¬ (1000 < p0)) (h_nbig : ¬ (100000 < (0 : Int32) + p0)) : Met l yX12_later (WS yX12_later cX12_later 2 (some .int)) ({ frames := 0, cells := 0, slots := 0, locals := 0 }) (va_Pc [.ref h0, .int p0] (cP D k [(h0, .inr (12, M))] sz)) (va_Qi (fun (r : Int32) (_ : Unit) => r = ((0 : Int32) + p0)) (fun (_ : Unit) t => cB D (va_A [(h0, .inr (12, M))] sz) [] t) (va_A [(h0, .inr (12, M))] sz)) 0 0 (va_A [(h0, .inr (12, M))] sz) := by
  refine Met.ofW (cc := cX12_later) (maxL := 2) (ret := (some .int)) (by decide) rfl ?_
  intro p e s m args below meth c s₁ B hml hv
  obtain ⟨rfl, hsz, hP, hKX, hD0⟩ := hv
  have hK := hKX.1
  have hx := B.exec
  have hb := B.bytes
  have hr := B.returns
  have hts := atoms_spec (ws := WS yX12_later cX12_later 2 (some .int)) B.pre
  have hgd : ∀ w ∈ gd, w ∈ WS yX12_later cX12_later 2 (some .int) := fun w h => List.mem_cons_of_mem _ h
  have hg : ∀ w ∈ gd, w.before _ s = true := fun w h => hts w (hgd w h)
  have hown : s.vm.findClass RX12 = some m.cls := findClass_of_methodNamed B.named
  have hlocks := B.notSynchronized
  subst hsz
  have hD := hD0.self (sz := s.heap.size)
  generalize hAe : va_A [(h0, .inr (12, M))] s.heap.size = A at hD ⊢
  have hA : ∀ q : Nat, s.heap.size ≤ q → A q := fun q h => by rw [← hAe]; exact Or.inr h
  have hS : va_S A s.heap s.heap [] := va_S.rf
  have hP : va_P D classes [(h0, .inr (12, M))] s.heap := hP
  have hl := lv_entry ([.ref h0, .int p0]) (n := 2) (Nat.le_of_ble_eq_true rfl)
  rw [lg_entry_eq]
  generalize (lg_sl ([.ref h0, .int p0]) ++ List.replicate (2 - (lg_sl ([.ref h0, .int p0])).length) Slot.unset).toArray = ls at hl ⊢
  have hl : lv_has ls 2 [(0, .ref h0), (1, .int p0)] := hl
  refine lv_iload_n hx hb dX12_later_0 rfl (lv_at hl 1 rfl) ?_
  refine lv_if_lt (tgt := 23) hx hb dX12_later_1 (by decide) (fun c_1 => ?_) (fun c_1 => ?_)
  · exact absurd c_1 h_nlt0
  · have c_1 : ¬ ((p0 : Int32) < 0) := c_1
    refine lv_iload_n hx hb dX12_later_4 rfl (lv_at hl 1 rfl) ?_
    refine lv_sipush (v := 1000) hx hb dX12_later_5 (by decide) ?_
    refine lv_icmp_gt (tgt := 23) hx hb dX12_later_8 (by decide) (fun c_2 => ?_) (fun c_2 => ?_)
    · exact absurd c_2 h_ngt1000
    · have c_2 : ¬ ((1000 : Int32) < p0) := c_2
      refine lv_aload_n hx hb dX12_later_11 rfl (lv_at hl 0 rfl) ?_
      refine va_get (D := D) (ci := 12) (v := .int 0) (C := RX12) (T := TX12) (N := 89) hx hb hg iX12 hown hK hP 0 rfl rfl 86 (by decide) (hg (Cond.fieldLink RX12 593 "SlabWalkModel" "time" "I") m1400) (fun _ h9 => h9) g_M_time dX12_later_12 ?_
      refine lv_iload_n hx hb dX12_later_15 rfl (lv_at hl 1 rfl) ?_
      refine lv_iadd hx hb dX12_later_16 ?_
      refine lv_ldcw (v := 100000) hx hb hown (hg (Cond.constant RX12 502 100000) m1858) dX12_later_17 ?_
      refine lv_icmp_le (tgt := 25) hx hb dX12_later_20 (by decide) (fun c_3 => ?_) (fun c_3 => ?_)
      · have c_3 : (((0 : Int32) + p0) : Int32) ≤ 100000 := c_3
        refine lv_aload_n hx hb dX12_later_25 rfl (lv_at hl 0 rfl) ?_
        refine lv_dup hx hb dX12_later_26 rfl ?_
        refine va_get (D := D) (ci := 12) (v := .int 0) (C := RX12) (T := TX12) (N := 89) hx hb hg iX12 hown hK hP 0 rfl rfl 86 (by decide) (hg (Cond.fieldLink RX12 593 "SlabWalkModel" "time" "I") m1400) (fun _ h9 => h9) g_M_time dX12_later_27 ?_
        refine lv_iload_n hx hb dX12_later_30 rfl (lv_at hl 1 rfl) ?_
        refine lv_iadd hx hb dX12_later_31 ?_
        refine va_put (D := D) (ci := 12) (v := .int ((0 : Int32) + p0)) (ty := .int) (C := RX12) (T := TX12) (N := 89) hx hb hg iX12 tyX12 tyX12_ok nmX12 hown hK hP hD hS 0 rfl rfl 86 (by decide) (hg (Cond.fieldLink RX12 593 "SlabWalkModel" "time" "I") m1400) (fun _ h9 => h9) rfl (by decide +kernel) rfl rfl (fs_lt g_M_time) dX12_later_32 (fun H locs hP hD hS => ?_)
        have hP : va_P D classes [(h0, .inr (12, (M.set 86 (.int ((0 : Int32) + p0)))))] H := hP
        have hD : va_D A [(h0, .inr (12, (M.set 86 (.int ((0 : Int32) + p0)))))] := hD
        refine lv_aload_n hx hb dX12_later_35 rfl (lv_at hl 0 rfl) ?_
        refine va_get (D := D) (ci := 12) (v := .int ((0 : Int32) + p0)) (C := RX12) (T := TX12) (N := 89) hx hb hg iX12 hown hK hP 0 rfl rfl 86 (by decide) (hg (Cond.fieldLink RX12 593 "SlabWalkModel" "time" "I") m1400) (fun _ h9 => h9) (fs_eq g_M_time) dX12_later_36 ?_
        have hP9 := hP.sub (ws' := []) [] rfl
        have hD9 := hD.sub (ws' := []) [] (by decide) rfl
        exact W.iret (v := ((0 : Int32) + p0)) hx hb hr (fun t ht hW => ⟨⟨((0 : Int32) + p0), (), rfl, rfl, cB_of ht hP9 hD9⟩, hS.F ht⟩) hS.2.2 dX12_later_39
      · exact absurd (Int32.not_lt.mp h_nbig) c_3

set_option maxHeartbeats 4000000 in
set_option maxRecDepth 100000 in
theorem c_X12_end_a (l : Launch) (D : va_G) (k : ClassId × ClassId × ClassId × ClassId) (sz : Nat) (h0 : Nat) (M : List Value) (p0 : Int32) (g_M_taped : M[1]? = some (.int 0)) (h_lt0 : p0 < 0) : Met l yX12_end (WS yX12_end cX12_end 2 (some .int)) ({ frames := 0, cells := 0, slots := 0, locals := 0 }) (va_Pc [.ref h0, .int p0] (cP D k [(h0, .inr (12, M))] sz)) (va_Qi (fun (r : Int32) (_ : Unit) => r = (-1)) (fun (_ : Unit) t => cB D (va_A [(h0, .inr (12, M))] sz) [] t) (va_A [(h0, .inr (12, M))] sz)) 0 0 (va_A [(h0, .inr (12, M))] sz) := by
  refine Met.ofW (cc := cX12_end) (maxL := 2) (ret := (some .int)) (by decide) rfl ?_
  intro p e s m args below meth c s₁ B hml hv
  obtain ⟨rfl, hsz, hP, hKX, hD0⟩ := hv
  have hK := hKX.1
  have hx := B.exec
  have hb := B.bytes
  have hr := B.returns
  have hts := atoms_spec (ws := WS yX12_end cX12_end 2 (some .int)) B.pre
  have hgd : ∀ w ∈ gd, w ∈ WS yX12_end cX12_end 2 (some .int) := fun w h => List.mem_cons_of_mem _ h
  have hg : ∀ w ∈ gd, w.before _ s = true := fun w h => hts w (hgd w h)
  have hown : s.vm.findClass RX12 = some m.cls := findClass_of_methodNamed B.named
  have hlocks := B.notSynchronized
  subst hsz
  have hD := hD0.self (sz := s.heap.size)
  generalize hAe : va_A [(h0, .inr (12, M))] s.heap.size = A at hD ⊢
  have hA : ∀ q : Nat, s.heap.size ≤ q → A q := fun q h => by rw [← hAe]; exact Or.inr h
  have hS : va_S A s.heap s.heap [] := va_S.rf
  have hP : va_P D classes [(h0, .inr (12, M))] s.heap := hP
  have hl := lv_entry ([.ref h0, .int p0]) (n := 2) (Nat.le_of_ble_eq_true rfl)
  rw [lg_entry_eq]
  generalize (lg_sl ([.ref h0, .int p0]) ++ List.replicate (2 - (lg_sl ([.ref h0, .int p0])).length) Slot.unset).toArray = ls at hl ⊢
  have hl : lv_has ls 2 [(0, .ref h0), (1, .int p0)] := hl
  refine lv_iload_n hx hb dX12_end_0 rfl (lv_at hl 1 rfl) ?_
  refine lv_if_lt (tgt := 12) hx hb dX12_end_1 (by decide) (fun c_1 => ?_) (fun c_1 => ?_)
  · have c_1 : (p0 : Int32) < 0 := c_1
    refine lv_iconst (v := (-1)) hx hb dX12_end_12 (by decide) ?_
    have hP9 := hP.sub (ws' := []) [] rfl
    have hD9 := hD.sub (ws' := []) [] (by decide) rfl
    exact W.iret (v := (-1)) hx hb hr (fun t ht hW => ⟨⟨(-1), (), rfl, rfl, cB_of ht hP9 hD9⟩, hS.F ht⟩) hS.2.2 dX12_end_13
  · exact absurd h_lt0 c_1

set_option maxHeartbeats 4000000 in
set_option maxRecDepth 100000 in
theorem c_X12_end_b (l : Launch) (D : va_G) (k : ClassId × ClassId × ClassId × ClassId) (sz : Nat) (h0 : Nat) (M : List Value) (p0 : Int32) (g_M_taped : M[1]? = some (.int 0)) (h_nlt0 : ¬ (p0 < 0)) (h_gt0 : 0 < p0) : Met l yX12_end (WS yX12_end cX12_end 2 (some .int)) ({ frames := 0, cells := 0, slots := 0, locals := 0 }) (va_Pc [.ref h0, .int p0] (cP D k [(h0, .inr (12, M))] sz)) (va_Qi (fun (r : Int32) (_ : Unit) => r = (-1)) (fun (_ : Unit) t => cB D (va_A [(h0, .inr (12, M))] sz) [] t) (va_A [(h0, .inr (12, M))] sz)) 0 0 (va_A [(h0, .inr (12, M))] sz) := by
  refine Met.ofW (cc := cX12_end) (maxL := 2) (ret := (some .int)) (by decide) rfl ?_
  intro p e s m args below meth c s₁ B hml hv
  obtain ⟨rfl, hsz, hP, hKX, hD0⟩ := hv
  have hK := hKX.1
  have hx := B.exec
  have hb := B.bytes
  have hr := B.returns
  have hts := atoms_spec (ws := WS yX12_end cX12_end 2 (some .int)) B.pre
  have hgd : ∀ w ∈ gd, w ∈ WS yX12_end cX12_end 2 (some .int) := fun w h => List.mem_cons_of_mem _ h
  have hg : ∀ w ∈ gd, w.before _ s = true := fun w h => hts w (hgd w h)
  have hown : s.vm.findClass RX12 = some m.cls := findClass_of_methodNamed B.named
  have hlocks := B.notSynchronized
  subst hsz
  have hD := hD0.self (sz := s.heap.size)
  generalize hAe : va_A [(h0, .inr (12, M))] s.heap.size = A at hD ⊢
  have hA : ∀ q : Nat, s.heap.size ≤ q → A q := fun q h => by rw [← hAe]; exact Or.inr h
  have hS : va_S A s.heap s.heap [] := va_S.rf
  have hP : va_P D classes [(h0, .inr (12, M))] s.heap := hP
  have hl := lv_entry ([.ref h0, .int p0]) (n := 2) (Nat.le_of_ble_eq_true rfl)
  rw [lg_entry_eq]
  generalize (lg_sl ([.ref h0, .int p0]) ++ List.replicate (2 - (lg_sl ([.ref h0, .int p0])).length) Slot.unset).toArray = ls at hl ⊢
  have hl : lv_has ls 2 [(0, .ref h0), (1, .int p0)] := hl
  refine lv_iload_n hx hb dX12_end_0 rfl (lv_at hl 1 rfl) ?_
  refine lv_if_lt (tgt := 12) hx hb dX12_end_1 (by decide) (fun c_1 => ?_) (fun c_1 => ?_)
  · exact absurd c_1 h_nlt0
  · have c_1 : ¬ ((p0 : Int32) < 0) := c_1
    refine lv_iload_n hx hb dX12_end_4 rfl (lv_at hl 1 rfl) ?_
    refine lv_aload_n hx hb dX12_end_5 rfl (lv_at hl 0 rfl) ?_
    refine va_get (D := D) (ci := 12) (v := .int 0) (C := RX12) (T := TX12) (N := 89) hx hb hg iX12 hown hK hP 0 rfl rfl 1 (by decide) (hg (Cond.fieldLink RX12 178 "SlabWalkModel" "taped" "I") m1315) (fun _ h9 => h9) g_M_taped dX12_end_6 ?_
    refine lv_icmp_le (tgt := 14) hx hb dX12_end_9 (by decide) (fun c_2 => ?_) (fun c_2 => ?_)
    · exact absurd c_2 (Int32.not_le.mpr h_gt0)
    · have c_2 : ¬ ((p0 : Int32) ≤ 0) := c_2
      refine lv_iconst (v := (-1)) hx hb dX12_end_12 (by decide) ?_
      have hP9 := hP.sub (ws' := []) [] rfl
      have hD9 := hD.sub (ws' := []) [] (by decide) rfl
      exact W.iret (v := (-1)) hx hb hr (fun t ht hW => ⟨⟨(-1), (), rfl, rfl, cB_of ht hP9 hD9⟩, hS.F ht⟩) hS.2.2 dX12_end_13

set_option maxHeartbeats 4000000 in
set_option maxRecDepth 100000 in
theorem c_X12_end_c (l : Launch) (D : va_G) (k : ClassId × ClassId × ClassId × ClassId) (sz : Nat) (h0 : Nat) (M : List Value) (p0 : Int32) (g_M_taped : M[1]? = some (.int 0)) (h_nlt0 : ¬ (p0 < 0)) (h_ngt0 : ¬ (0 < p0)) : Met l yX12_end (WS yX12_end cX12_end 2 (some .int)) ({ frames := 0, cells := 0, slots := 0, locals := 0 }) (va_Pc [.ref h0, .int p0] (cP D k [(h0, .inr (12, M))] sz)) (va_Qi (fun (r : Int32) (_ : Unit) => r = p0) (fun (_ : Unit) t => cB D (va_A [(h0, .inr (12, M))] sz) [] t) (va_A [(h0, .inr (12, M))] sz)) 0 0 (va_A [(h0, .inr (12, M))] sz) := by
  refine Met.ofW (cc := cX12_end) (maxL := 2) (ret := (some .int)) (by decide) rfl ?_
  intro p e s m args below meth c s₁ B hml hv
  obtain ⟨rfl, hsz, hP, hKX, hD0⟩ := hv
  have hK := hKX.1
  have hx := B.exec
  have hb := B.bytes
  have hr := B.returns
  have hts := atoms_spec (ws := WS yX12_end cX12_end 2 (some .int)) B.pre
  have hgd : ∀ w ∈ gd, w ∈ WS yX12_end cX12_end 2 (some .int) := fun w h => List.mem_cons_of_mem _ h
  have hg : ∀ w ∈ gd, w.before _ s = true := fun w h => hts w (hgd w h)
  have hown : s.vm.findClass RX12 = some m.cls := findClass_of_methodNamed B.named
  have hlocks := B.notSynchronized
  subst hsz
  have hD := hD0.self (sz := s.heap.size)
  generalize hAe : va_A [(h0, .inr (12, M))] s.heap.size = A at hD ⊢
  have hA : ∀ q : Nat, s.heap.size ≤ q → A q := fun q h => by rw [← hAe]; exact Or.inr h
  have hS : va_S A s.heap s.heap [] := va_S.rf
  have hP : va_P D classes [(h0, .inr (12, M))] s.heap := hP
  have hl := lv_entry ([.ref h0, .int p0]) (n := 2) (Nat.le_of_ble_eq_true rfl)
  rw [lg_entry_eq]
  generalize (lg_sl ([.ref h0, .int p0]) ++ List.replicate (2 - (lg_sl ([.ref h0, .int p0])).length) Slot.unset).toArray = ls at hl ⊢
  have hl : lv_has ls 2 [(0, .ref h0), (1, .int p0)] := hl
  refine lv_iload_n hx hb dX12_end_0 rfl (lv_at hl 1 rfl) ?_
  refine lv_if_lt (tgt := 12) hx hb dX12_end_1 (by decide) (fun c_1 => ?_) (fun c_1 => ?_)
  · exact absurd c_1 h_nlt0
  · have c_1 : ¬ ((p0 : Int32) < 0) := c_1
    refine lv_iload_n hx hb dX12_end_4 rfl (lv_at hl 1 rfl) ?_
    refine lv_aload_n hx hb dX12_end_5 rfl (lv_at hl 0 rfl) ?_
    refine va_get (D := D) (ci := 12) (v := .int 0) (C := RX12) (T := TX12) (N := 89) hx hb hg iX12 hown hK hP 0 rfl rfl 1 (by decide) (hg (Cond.fieldLink RX12 178 "SlabWalkModel" "taped" "I") m1315) (fun _ h9 => h9) g_M_taped dX12_end_6 ?_
    refine lv_icmp_le (tgt := 14) hx hb dX12_end_9 (by decide) (fun c_2 => ?_) (fun c_2 => ?_)
    · have c_2 : (p0 : Int32) ≤ 0 := c_2
      refine lv_aload_n hx hb dX12_end_14 rfl (lv_at hl 0 rfl) ?_
      refine lv_iload_n hx hb dX12_end_15 rfl (lv_at hl 1 rfl) ?_
      refine va_put (D := D) (ci := 12) (v := .int p0) (ty := .int) (C := RX12) (T := TX12) (N := 89) hx hb hg iX12 tyX12 tyX12_ok nmX12 hown hK hP hD hS 0 rfl rfl 1 (by decide) (hg (Cond.fieldLink RX12 178 "SlabWalkModel" "taped" "I") m1315) (fun _ h9 => h9) rfl (by decide +kernel) rfl rfl (fs_lt g_M_taped) dX12_end_16 (fun H locs hP hD hS => ?_)
      have hP : va_P D classes [(h0, .inr (12, (M.set 1 (.int p0))))] H := hP
      have hD : va_D A [(h0, .inr (12, (M.set 1 (.int p0))))] := hD
      refine lv_iload_n hx hb dX12_end_19 rfl (lv_at hl 1 rfl) ?_
      have hP9 := hP.sub (ws' := []) [] rfl
      have hD9 := hD.sub (ws' := []) [] (by decide) rfl
      exact W.iret (v := p0) hx hb hr (fun t ht hW => ⟨⟨p0, (), rfl, rfl, cB_of ht hP9 hD9⟩, hS.F ht⟩) hS.2.2 dX12_end_20
    · exact absurd (Int32.not_lt.mp h_ngt0) c_2

set_option maxHeartbeats 4000000 in
set_option maxRecDepth 100000 in
theorem c_X12_fault (l : Launch) (D : va_G) (k : ClassId × ClassId × ClassId × ClassId) (sz : Nat) (h0 : Nat) (M : List Value) (p0 : Int32) (g_M_fault : M[2]? = some (.int 0)) (g_M_faultPlace : M[3]? = some (.int (-1))) : Met l yX12_fault (WS yX12_fault cX12_fault 2 (some .int)) ({ frames := 0, cells := 0, slots := 0, locals := 0 }) (va_Pc [.ref h0, .int p0] (cP D k [(h0, .inr (12, M))] sz)) (va_Qi (fun (r : Int32) (_ : Unit) => r = s_fault p0) (fun (_ : Unit) t => cB D (va_A [(h0, .inr (12, M))] sz) [] t) (va_A [(h0, .inr (12, M))] sz)) 0 0 (va_A [(h0, .inr (12, M))] sz) := by
  refine Met.ofW (cc := cX12_fault) (maxL := 2) (ret := (some .int)) (by decide) rfl ?_
  intro p e s m args below meth c s₁ B hml hv
  obtain ⟨rfl, hsz, hP, hKX, hD0⟩ := hv
  have hK := hKX.1
  have hx := B.exec
  have hb := B.bytes
  have hr := B.returns
  have hts := atoms_spec (ws := WS yX12_fault cX12_fault 2 (some .int)) B.pre
  have hgd : ∀ w ∈ gd, w ∈ WS yX12_fault cX12_fault 2 (some .int) := fun w h => List.mem_cons_of_mem _ h
  have hg : ∀ w ∈ gd, w.before _ s = true := fun w h => hts w (hgd w h)
  have hown : s.vm.findClass RX12 = some m.cls := findClass_of_methodNamed B.named
  have hlocks := B.notSynchronized
  subst hsz
  have hD := hD0.self (sz := s.heap.size)
  generalize hAe : va_A [(h0, .inr (12, M))] s.heap.size = A at hD ⊢
  have hA : ∀ q : Nat, s.heap.size ≤ q → A q := fun q h => by rw [← hAe]; exact Or.inr h
  have hS : va_S A s.heap s.heap [] := va_S.rf
  have hP : va_P D classes [(h0, .inr (12, M))] s.heap := hP
  have hl := lv_entry ([.ref h0, .int p0]) (n := 2) (Nat.le_of_ble_eq_true rfl)
  rw [lg_entry_eq]
  generalize (lg_sl ([.ref h0, .int p0]) ++ List.replicate (2 - (lg_sl ([.ref h0, .int p0])).length) Slot.unset).toArray = ls at hl ⊢
  have hl : lv_has ls 2 [(0, .ref h0), (1, .int p0)] := hl
  refine lv_iload_n hx hb dX12_fault_0 rfl (lv_at hl 1 rfl) ?_
  refine lv_if_ne (tgt := 11) hx hb dX12_fault_1 (by decide) (fun c_1 => ?_) (fun c_1 => ?_)
  · have c_1 : ¬ ((p0 : Int32) = 0) := c_1
    refine lv_iload_n hx hb dX12_fault_11 rfl (lv_at hl 1 rfl) ?_
    refine lv_iconst (v := 1) hx hb dX12_fault_12 (by decide) ?_
    refine lv_icmp_ne (tgt := 23) hx hb dX12_fault_13 (by decide) (fun c_2 => ?_) (fun c_2 => ?_)
    · have c_2 : ¬ ((p0 : Int32) = 1) := c_2
      refine lv_iconst (v := (-1)) hx hb dX12_fault_23 (by decide) ?_
      have hP9 := hP.sub (ws' := []) [] rfl
      have hD9 := hD.sub (ws' := []) [] (by decide) rfl
      exact W.iret (v := (-1)) hx hb hr (fun t ht hW => ⟨⟨(-1), (), rfl, by simp [s_fault, c_1, c_2], cB_of ht hP9 hD9⟩, hS.F ht⟩) hS.2.2 dX12_fault_24
    · have c_2 : (p0 : Int32) = 1 := c_2
      refine lv_aload_n hx hb dX12_fault_16 rfl (lv_at hl 0 rfl) ?_
      refine va_get (D := D) (ci := 12) (v := .int (-1)) (C := RX12) (T := TX12) (N := 89) hx hb hg iX12 hown hK hP 0 rfl rfl 3 (by decide) (hg (Cond.fieldLink RX12 13 "SlabWalkModel" "faultPlace" "I") m1317) (fun _ h9 => h9) g_M_faultPlace dX12_fault_17 ?_
      refine lv_goto (tgt := 24) hx hb dX12_fault_20 (by decide) ?_
      have hP9 := hP.sub (ws' := []) [] rfl
      have hD9 := hD.sub (ws' := []) [] (by decide) rfl
      exact W.iret (v := (-1)) hx hb hr (fun t ht hW => ⟨⟨(-1), (), rfl, by simp [s_fault, c_1, c_2], cB_of ht hP9 hD9⟩, hS.F ht⟩) hS.2.2 dX12_fault_24
  · have c_1 : (p0 : Int32) = 0 := c_1
    refine lv_aload_n hx hb dX12_fault_4 rfl (lv_at hl 0 rfl) ?_
    refine va_get (D := D) (ci := 12) (v := .int 0) (C := RX12) (T := TX12) (N := 89) hx hb hg iX12 hown hK hP 0 rfl rfl 2 (by decide) (hg (Cond.fieldLink RX12 218 "SlabWalkModel" "fault" "I") m1316) (fun _ h9 => h9) g_M_fault dX12_fault_5 ?_
    refine lv_goto (tgt := 24) hx hb dX12_fault_8 (by decide) ?_
    have hP9 := hP.sub (ws' := []) [] rfl
    have hD9 := hD.sub (ws' := []) [] (by decide) rfl
    exact W.iret (v := 0) hx hb hr (fun t ht hW => ⟨⟨0, (), rfl, by simp [s_fault, c_1], cB_of ht hP9 hD9⟩, hS.F ht⟩) hS.2.2 dX12_fault_24

set_option maxHeartbeats 4000000 in
set_option maxRecDepth 100000 in
theorem c_X12_act (l : Launch) (D : va_G) (k : ClassId × ClassId × ClassId × ClassId) (sz : Nat) (h0 nw we : Nat) (M : List Value) (m4 : Nat → Int32) (m5 : Nat → Int32) (g_M_now : M[76]? = some (.ref nw)) (g_M_were : M[77]? = some (.ref we)) (g_M_acts : M[78]? = some (.int 0)) (g_M_undone : M[79]? = some (.int 0)) (g_m4__0 : m4 0 = (-1)) (g_m4__4 : m4 4 = 0) (g_m4__5 : m4 5 = 0) (g_m4__6 : m4 6 = 0) (g_m4__7 : m4 7 = 0) (g_m4__8 : m4 8 = 0) (g_m4__9 : m4 9 = 0) : Met l yX12_act (WS yX12_act cX12_act 2 none) ({ frames := 0, cells := 0, slots := 0, locals := 0 }) (va_Pc [.ref h0] (cP D k [(h0, .inr (12, M)), (nw, .inl (k.2.1, 16, .inl m4)), (we, .inl (k.2.1, 640, .inl m5))] sz)) (va_Qv (fun _ : Unit => True) (fun (_ : Unit) t => ∃ (M2 : List Value), M2[76]? = some (.ref nw) ∧ cB D (va_A [(h0, .inr (12, M)), (nw, .inl (k.2.1, 16, .inl m4)), (we, .inl (k.2.1, 640, .inl m5))] sz) [(h0, .inr (12, M2)), (nw, .inl (k.2.1, 16, .inl m4))] t) (va_A [(h0, .inr (12, M)), (nw, .inl (k.2.1, 16, .inl m4)), (we, .inl (k.2.1, 640, .inl m5))] sz)) 0 0 (va_A [(h0, .inr (12, M)), (nw, .inl (k.2.1, 16, .inl m4)), (we, .inl (k.2.1, 640, .inl m5))] sz) := by
  refine Met.ofW (cc := cX12_act) (maxL := 2) (ret := none) (by decide) rfl ?_
  intro p e s m args below meth c s₁ B hml hv
  obtain ⟨rfl, hsz, hP, hKX, hD0⟩ := hv
  have hK := hKX.1
  have hx := B.exec
  have hb := B.bytes
  have hr := B.returns
  have hts := atoms_spec (ws := WS yX12_act cX12_act 2 none) B.pre
  have hgd : ∀ w ∈ gd, w ∈ WS yX12_act cX12_act 2 none := fun w h => List.mem_cons_of_mem _ h
  have hg : ∀ w ∈ gd, w.before _ s = true := fun w h => hts w (hgd w h)
  have hown : s.vm.findClass RX12 = some m.cls := findClass_of_methodNamed B.named
  have hlocks := B.notSynchronized
  subst hsz
  have hD := hD0.self (sz := s.heap.size)
  generalize hAe : va_A [(h0, .inr (12, M)), (nw, .inl (k.2.1, 16, .inl m4)), (we, .inl (k.2.1, 640, .inl m5))] s.heap.size = A at hD ⊢
  have hA : ∀ q : Nat, s.heap.size ≤ q → A q := fun q h => by rw [← hAe]; exact Or.inr h
  have hS : va_S A s.heap s.heap [] := va_S.rf
  have hP : va_P D classes [(h0, .inr (12, M)), (nw, .inl (k.2.1, 16, .inl m4)), (we, .inl (k.2.1, 640, .inl m5))] s.heap := hP
  have hl := lv_entry ([.ref h0]) (n := 2) (Nat.le_of_ble_eq_true rfl)
  rw [lg_entry_eq]
  generalize (lg_sl ([.ref h0]) ++ List.replicate (2 - (lg_sl ([.ref h0])).length) Slot.unset).toArray = ls at hl ⊢
  have hl : lv_has ls 2 [(0, .ref h0)] := hl
  refine lv_aload_n hx hb dX12_act_0 rfl (lv_at hl 0 rfl) ?_
  refine va_get (D := D) (ci := 12) (v := .int 0) (C := RX12) (T := TX12) (N := 89) hx hb hg iX12 hown hK hP 0 rfl rfl 78 (by decide) (hg (Cond.fieldLink RX12 437 "SlabWalkModel" "acts" "I") m1392) (fun _ h9 => h9) g_M_acts dX12_act_1 ?_
  refine lv_bipush (v := 40) hx hb dX12_act_4 (by decide) ?_
  refine lv_icmp_ne (tgt := 49) hx hb dX12_act_6 (by decide) (fun c_1 => ?_) (fun c_1 => ?_)
  · have c_1 : ¬ ((0 : Int32) = 40) := c_1
    refine lv_iconst (v := 0) hx hb dX12_act_49 (by decide) ?_
    refine lv_istore_n (lv' := [(1, .int 0), (0, .ref h0)]) hx hb dX12_act_50 rfl hl (by decide) rfl (fun ls hl => ?_)
    refine lv_iload_n hx hb dX12_act_51 rfl (lv_at hl 0 rfl) ?_
    refine lv_bipush (v := 10) hx hb dX12_act_52 (by decide) ?_
    refine lv_icmp_ge (tgt := 83) hx hb dX12_act_54 (by decide) (fun c_2 => ?_) (fun c_2 => ?_)
    · exact absurd c_2 (by decide)
    · have c_2 : ¬ ((10 : Int32) ≤ 0) := c_2
      refine lv_aload_n hx hb dX12_act_57 rfl (lv_at hl 1 rfl) ?_
      refine va_get (D := D) (ci := 12) (v := .ref we) (C := RX12) (T := TX12) (N := 89) hx hb hg iX12 hown hK hP 0 rfl rfl 77 (by decide) (hg (Cond.fieldLink RX12 154 "SlabWalkModel" "were" "[I") m1391) (fun _ h9 => h9) g_M_were dX12_act_58 ?_
      refine lv_bipush (v := 16) hx hb dX12_act_61 (by decide) ?_
      refine lv_aload_n hx hb dX12_act_63 rfl (lv_at hl 1 rfl) ?_
      refine va_get (D := D) (ci := 12) (v := .int 0) (C := RX12) (T := TX12) (N := 89) hx hb hg iX12 hown hK hP 0 rfl rfl 78 (by decide) (hg (Cond.fieldLink RX12 437 "SlabWalkModel" "acts" "I") m1392) (fun _ h9 => h9) g_M_acts dX12_act_64 ?_
      refine lv_imul hx hb dX12_act_67 ?_
      refine lv_topi (fun y_3 ey_3 => ?_)
      obtain rfl : y_3 = 0 := ey_3.trans (by decide)
      refine lv_iload_n hx hb dX12_act_68 rfl (lv_at hl 0 rfl) ?_
      refine lv_iadd hx hb dX12_act_69 ?_
      refine lv_topi (fun y_4 ey_4 => ?_)
      obtain rfl : y_4 = 0 := ey_4.trans (by decide)
      refine lv_aload_n hx hb dX12_act_70 rfl (lv_at hl 1 rfl) ?_
      refine va_get (D := D) (ci := 12) (v := .ref nw) (C := RX12) (T := TX12) (N := 89) hx hb hg iX12 hown hK hP 0 rfl rfl 76 (by decide) (hg (Cond.fieldLink RX12 151 "SlabWalkModel" "now" "[I") m1390) (fun _ h9 => h9) g_M_now dX12_act_71 ?_
      refine lv_iload_n hx hb dX12_act_74 rfl (lv_at hl 0 rfl) ?_
      refine va_iald hx hb hK hP 1 1 rfl rfl (show ¬ ((0 : Int32) < 0 ∨ 16 ≤ (0 : Int32).toNatClampNeg) from by decide +kernel) dX12_act_75 ?_
      refine lv_topi (fun y_5 ey_5 => ?_)
      obtain rfl : y_5 = (-1) := ey_5.trans (g_m4__0)
      refine va_iast hx hb hK hP hD hS 2 1 rfl rfl (show ¬ ((0 : Int32) < 0 ∨ 640 ≤ (0 : Int32).toNatClampNeg) from by decide +kernel) dX12_act_76 (fun H locs hP hD hS => ?_)
      have hP : va_P D classes [(h0, .inr (12, M)), (nw, .inl (k.2.1, 16, .inl m4)), (we, .inl (k.2.1, 640, .inl (upd m5 0 (-1))))] H := hP
      have hD : va_D A [(h0, .inr (12, M)), (nw, .inl (k.2.1, 16, .inl m4)), (we, .inl (k.2.1, 640, .inl (upd m5 0 (-1))))] := hD
      have g_7 : (upd m5 0 (-1)) 0 = (-1) := rfl
      generalize (upd m5 0 (-1)) = f_6 at hP hD g_7
      refine lv_iinc (v := 1) (lv' := [(1, .int 1), (0, .ref h0)]) hx hb dX12_act_77 hl (k := 0) rfl (by decide) (by decide) rfl (fun ls hl => ?_)
      refine lv_goto (tgt := 51) hx hb dX12_act_80 (by decide) ?_
      refine lv_iload_n hx hb dX12_act_51 rfl (lv_at hl 0 rfl) ?_
      refine lv_bipush (v := 10) hx hb dX12_act_52 (by decide) ?_
      refine lv_icmp_ge (tgt := 83) hx hb dX12_act_54 (by decide) (fun c_8 => ?_) (fun c_8 => ?_)
      · exact absurd c_8 (by decide)
      · have c_8 : ¬ ((10 : Int32) ≤ 1) := c_8
        refine lv_aload_n hx hb dX12_act_57 rfl (lv_at hl 1 rfl) ?_
        refine va_get (D := D) (ci := 12) (v := .ref we) (C := RX12) (T := TX12) (N := 89) hx hb hg iX12 hown hK hP 0 rfl rfl 77 (by decide) (hg (Cond.fieldLink RX12 154 "SlabWalkModel" "were" "[I") m1391) (fun _ h9 => h9) g_M_were dX12_act_58 ?_
        refine lv_bipush (v := 16) hx hb dX12_act_61 (by decide) ?_
        refine lv_aload_n hx hb dX12_act_63 rfl (lv_at hl 1 rfl) ?_
        refine va_get (D := D) (ci := 12) (v := .int 0) (C := RX12) (T := TX12) (N := 89) hx hb hg iX12 hown hK hP 0 rfl rfl 78 (by decide) (hg (Cond.fieldLink RX12 437 "SlabWalkModel" "acts" "I") m1392) (fun _ h9 => h9) g_M_acts dX12_act_64 ?_
        refine lv_imul hx hb dX12_act_67 ?_
        refine lv_topi (fun y_9 ey_9 => ?_)
        obtain rfl : y_9 = 0 := ey_9.trans (by decide)
        refine lv_iload_n hx hb dX12_act_68 rfl (lv_at hl 0 rfl) ?_
        refine lv_iadd hx hb dX12_act_69 ?_
        refine lv_topi (fun y_10 ey_10 => ?_)
        obtain rfl : y_10 = 1 := ey_10.trans (by decide)
        refine lv_aload_n hx hb dX12_act_70 rfl (lv_at hl 1 rfl) ?_
        refine va_get (D := D) (ci := 12) (v := .ref nw) (C := RX12) (T := TX12) (N := 89) hx hb hg iX12 hown hK hP 0 rfl rfl 76 (by decide) (hg (Cond.fieldLink RX12 151 "SlabWalkModel" "now" "[I") m1390) (fun _ h9 => h9) g_M_now dX12_act_71 ?_
        refine lv_iload_n hx hb dX12_act_74 rfl (lv_at hl 0 rfl) ?_
        refine va_iald hx hb hK hP 1 1 rfl rfl (show ¬ ((1 : Int32) < 0 ∨ 16 ≤ (1 : Int32).toNatClampNeg) from by decide +kernel) dX12_act_75 ?_
        refine lv_topi (fun y_11 ey_11 => ?_)
        refine va_iast hx hb hK hP hD hS 2 1 rfl rfl (show ¬ ((1 : Int32) < 0 ∨ 640 ≤ (1 : Int32).toNatClampNeg) from by decide +kernel) dX12_act_76 (fun H locs hP hD hS => ?_)
        have hP : va_P D classes [(h0, .inr (12, M)), (nw, .inl (k.2.1, 16, .inl m4)), (we, .inl (k.2.1, 640, .inl (upd f_6 1 y_11)))] H := hP
        have hD : va_D A [(h0, .inr (12, M)), (nw, .inl (k.2.1, 16, .inl m4)), (we, .inl (k.2.1, 640, .inl (upd f_6 1 y_11)))] := hD
        have g_13 : (upd f_6 1 y_11) 0 = (-1) := g_7
        have g_14 : (upd f_6 1 y_11) 1 = y_11 := rfl
        generalize (upd f_6 1 y_11) = f_12 at hP hD g_13 g_14
        refine lv_iinc (v := 2) (lv' := [(1, .int 2), (0, .ref h0)]) hx hb dX12_act_77 hl (k := 0) rfl (by decide) (by decide) rfl (fun ls hl => ?_)
        refine lv_goto (tgt := 51) hx hb dX12_act_80 (by decide) ?_
        refine lv_iload_n hx hb dX12_act_51 rfl (lv_at hl 0 rfl) ?_
        refine lv_bipush (v := 10) hx hb dX12_act_52 (by decide) ?_
        refine lv_icmp_ge (tgt := 83) hx hb dX12_act_54 (by decide) (fun c_15 => ?_) (fun c_15 => ?_)
        · exact absurd c_15 (by decide)
        · have c_15 : ¬ ((10 : Int32) ≤ 2) := c_15
          refine lv_aload_n hx hb dX12_act_57 rfl (lv_at hl 1 rfl) ?_
          refine va_get (D := D) (ci := 12) (v := .ref we) (C := RX12) (T := TX12) (N := 89) hx hb hg iX12 hown hK hP 0 rfl rfl 77 (by decide) (hg (Cond.fieldLink RX12 154 "SlabWalkModel" "were" "[I") m1391) (fun _ h9 => h9) g_M_were dX12_act_58 ?_
          refine lv_bipush (v := 16) hx hb dX12_act_61 (by decide) ?_
          refine lv_aload_n hx hb dX12_act_63 rfl (lv_at hl 1 rfl) ?_
          refine va_get (D := D) (ci := 12) (v := .int 0) (C := RX12) (T := TX12) (N := 89) hx hb hg iX12 hown hK hP 0 rfl rfl 78 (by decide) (hg (Cond.fieldLink RX12 437 "SlabWalkModel" "acts" "I") m1392) (fun _ h9 => h9) g_M_acts dX12_act_64 ?_
          refine lv_imul hx hb dX12_act_67 ?_
          refine lv_topi (fun y_16 ey_16 => ?_)
          obtain rfl : y_16 = 0 := ey_16.trans (by decide)
          refine lv_iload_n hx hb dX12_act_68 rfl (lv_at hl 0 rfl) ?_
          refine lv_iadd hx hb dX12_act_69 ?_
          refine lv_topi (fun y_17 ey_17 => ?_)
          obtain rfl : y_17 = 2 := ey_17.trans (by decide)
          refine lv_aload_n hx hb dX12_act_70 rfl (lv_at hl 1 rfl) ?_
          refine va_get (D := D) (ci := 12) (v := .ref nw) (C := RX12) (T := TX12) (N := 89) hx hb hg iX12 hown hK hP 0 rfl rfl 76 (by decide) (hg (Cond.fieldLink RX12 151 "SlabWalkModel" "now" "[I") m1390) (fun _ h9 => h9) g_M_now dX12_act_71 ?_
          refine lv_iload_n hx hb dX12_act_74 rfl (lv_at hl 0 rfl) ?_
          refine va_iald hx hb hK hP 1 1 rfl rfl (show ¬ ((2 : Int32) < 0 ∨ 16 ≤ (2 : Int32).toNatClampNeg) from by decide +kernel) dX12_act_75 ?_
          refine lv_topi (fun y_18 ey_18 => ?_)
          refine va_iast hx hb hK hP hD hS 2 1 rfl rfl (show ¬ ((2 : Int32) < 0 ∨ 640 ≤ (2 : Int32).toNatClampNeg) from by decide +kernel) dX12_act_76 (fun H locs hP hD hS => ?_)
          have hP : va_P D classes [(h0, .inr (12, M)), (nw, .inl (k.2.1, 16, .inl m4)), (we, .inl (k.2.1, 640, .inl (upd f_12 2 y_18)))] H := hP
          have hD : va_D A [(h0, .inr (12, M)), (nw, .inl (k.2.1, 16, .inl m4)), (we, .inl (k.2.1, 640, .inl (upd f_12 2 y_18)))] := hD
          have g_20 : (upd f_12 2 y_18) 0 = (-1) := g_13
          have g_21 : (upd f_12 2 y_18) 1 = y_11 := g_14
          have g_22 : (upd f_12 2 y_18) 2 = y_18 := rfl
          generalize (upd f_12 2 y_18) = f_19 at hP hD g_20 g_21 g_22
          refine lv_iinc (v := 3) (lv' := [(1, .int 3), (0, .ref h0)]) hx hb dX12_act_77 hl (k := 0) rfl (by decide) (by decide) rfl (fun ls hl => ?_)
          refine lv_goto (tgt := 51) hx hb dX12_act_80 (by decide) ?_
          refine lv_iload_n hx hb dX12_act_51 rfl (lv_at hl 0 rfl) ?_
          refine lv_bipush (v := 10) hx hb dX12_act_52 (by decide) ?_
          refine lv_icmp_ge (tgt := 83) hx hb dX12_act_54 (by decide) (fun c_23 => ?_) (fun c_23 => ?_)
          · exact absurd c_23 (by decide)
          · have c_23 : ¬ ((10 : Int32) ≤ 3) := c_23
            refine lv_aload_n hx hb dX12_act_57 rfl (lv_at hl 1 rfl) ?_
            refine va_get (D := D) (ci := 12) (v := .ref we) (C := RX12) (T := TX12) (N := 89) hx hb hg iX12 hown hK hP 0 rfl rfl 77 (by decide) (hg (Cond.fieldLink RX12 154 "SlabWalkModel" "were" "[I") m1391) (fun _ h9 => h9) g_M_were dX12_act_58 ?_
            refine lv_bipush (v := 16) hx hb dX12_act_61 (by decide) ?_
            refine lv_aload_n hx hb dX12_act_63 rfl (lv_at hl 1 rfl) ?_
            refine va_get (D := D) (ci := 12) (v := .int 0) (C := RX12) (T := TX12) (N := 89) hx hb hg iX12 hown hK hP 0 rfl rfl 78 (by decide) (hg (Cond.fieldLink RX12 437 "SlabWalkModel" "acts" "I") m1392) (fun _ h9 => h9) g_M_acts dX12_act_64 ?_
            refine lv_imul hx hb dX12_act_67 ?_
            refine lv_topi (fun y_24 ey_24 => ?_)
            obtain rfl : y_24 = 0 := ey_24.trans (by decide)
            refine lv_iload_n hx hb dX12_act_68 rfl (lv_at hl 0 rfl) ?_
            refine lv_iadd hx hb dX12_act_69 ?_
            refine lv_topi (fun y_25 ey_25 => ?_)
            obtain rfl : y_25 = 3 := ey_25.trans (by decide)
            refine lv_aload_n hx hb dX12_act_70 rfl (lv_at hl 1 rfl) ?_
            refine va_get (D := D) (ci := 12) (v := .ref nw) (C := RX12) (T := TX12) (N := 89) hx hb hg iX12 hown hK hP 0 rfl rfl 76 (by decide) (hg (Cond.fieldLink RX12 151 "SlabWalkModel" "now" "[I") m1390) (fun _ h9 => h9) g_M_now dX12_act_71 ?_
            refine lv_iload_n hx hb dX12_act_74 rfl (lv_at hl 0 rfl) ?_
            refine va_iald hx hb hK hP 1 1 rfl rfl (show ¬ ((3 : Int32) < 0 ∨ 16 ≤ (3 : Int32).toNatClampNeg) from by decide +kernel) dX12_act_75 ?_
            refine lv_topi (fun y_26 ey_26 => ?_)
            refine va_iast hx hb hK hP hD hS 2 1 rfl rfl (show ¬ ((3 : Int32) < 0 ∨ 640 ≤ (3 : Int32).toNatClampNeg) from by decide +kernel) dX12_act_76 (fun H locs hP hD hS => ?_)
            have hP : va_P D classes [(h0, .inr (12, M)), (nw, .inl (k.2.1, 16, .inl m4)), (we, .inl (k.2.1, 640, .inl (upd f_19 3 y_26)))] H := hP
            have hD : va_D A [(h0, .inr (12, M)), (nw, .inl (k.2.1, 16, .inl m4)), (we, .inl (k.2.1, 640, .inl (upd f_19 3 y_26)))] := hD
            have g_28 : (upd f_19 3 y_26) 0 = (-1) := g_20
            have g_29 : (upd f_19 3 y_26) 1 = y_11 := g_21
            have g_30 : (upd f_19 3 y_26) 2 = y_18 := g_22
            have g_31 : (upd f_19 3 y_26) 3 = y_26 := rfl
            generalize (upd f_19 3 y_26) = f_27 at hP hD g_28 g_29 g_30 g_31
            refine lv_iinc (v := 4) (lv' := [(1, .int 4), (0, .ref h0)]) hx hb dX12_act_77 hl (k := 0) rfl (by decide) (by decide) rfl (fun ls hl => ?_)
            refine lv_goto (tgt := 51) hx hb dX12_act_80 (by decide) ?_
            refine lv_iload_n hx hb dX12_act_51 rfl (lv_at hl 0 rfl) ?_
            refine lv_bipush (v := 10) hx hb dX12_act_52 (by decide) ?_
            refine lv_icmp_ge (tgt := 83) hx hb dX12_act_54 (by decide) (fun c_32 => ?_) (fun c_32 => ?_)
            · exact absurd c_32 (by decide)
            · have c_32 : ¬ ((10 : Int32) ≤ 4) := c_32
              refine lv_aload_n hx hb dX12_act_57 rfl (lv_at hl 1 rfl) ?_
              refine va_get (D := D) (ci := 12) (v := .ref we) (C := RX12) (T := TX12) (N := 89) hx hb hg iX12 hown hK hP 0 rfl rfl 77 (by decide) (hg (Cond.fieldLink RX12 154 "SlabWalkModel" "were" "[I") m1391) (fun _ h9 => h9) g_M_were dX12_act_58 ?_
              refine lv_bipush (v := 16) hx hb dX12_act_61 (by decide) ?_
              refine lv_aload_n hx hb dX12_act_63 rfl (lv_at hl 1 rfl) ?_
              refine va_get (D := D) (ci := 12) (v := .int 0) (C := RX12) (T := TX12) (N := 89) hx hb hg iX12 hown hK hP 0 rfl rfl 78 (by decide) (hg (Cond.fieldLink RX12 437 "SlabWalkModel" "acts" "I") m1392) (fun _ h9 => h9) g_M_acts dX12_act_64 ?_
              refine lv_imul hx hb dX12_act_67 ?_
              refine lv_topi (fun y_33 ey_33 => ?_)
              obtain rfl : y_33 = 0 := ey_33.trans (by decide)
              refine lv_iload_n hx hb dX12_act_68 rfl (lv_at hl 0 rfl) ?_
              refine lv_iadd hx hb dX12_act_69 ?_
              refine lv_topi (fun y_34 ey_34 => ?_)
              obtain rfl : y_34 = 4 := ey_34.trans (by decide)
              refine lv_aload_n hx hb dX12_act_70 rfl (lv_at hl 1 rfl) ?_
              refine va_get (D := D) (ci := 12) (v := .ref nw) (C := RX12) (T := TX12) (N := 89) hx hb hg iX12 hown hK hP 0 rfl rfl 76 (by decide) (hg (Cond.fieldLink RX12 151 "SlabWalkModel" "now" "[I") m1390) (fun _ h9 => h9) g_M_now dX12_act_71 ?_
              refine lv_iload_n hx hb dX12_act_74 rfl (lv_at hl 0 rfl) ?_
              refine va_iald hx hb hK hP 1 1 rfl rfl (show ¬ ((4 : Int32) < 0 ∨ 16 ≤ (4 : Int32).toNatClampNeg) from by decide +kernel) dX12_act_75 ?_
              refine lv_topi (fun y_35 ey_35 => ?_)
              obtain rfl : y_35 = 0 := ey_35.trans (g_m4__4)
              refine va_iast hx hb hK hP hD hS 2 1 rfl rfl (show ¬ ((4 : Int32) < 0 ∨ 640 ≤ (4 : Int32).toNatClampNeg) from by decide +kernel) dX12_act_76 (fun H locs hP hD hS => ?_)
              have hP : va_P D classes [(h0, .inr (12, M)), (nw, .inl (k.2.1, 16, .inl m4)), (we, .inl (k.2.1, 640, .inl (upd f_27 4 0)))] H := hP
              have hD : va_D A [(h0, .inr (12, M)), (nw, .inl (k.2.1, 16, .inl m4)), (we, .inl (k.2.1, 640, .inl (upd f_27 4 0)))] := hD
              have g_37 : (upd f_27 4 0) 0 = (-1) := g_28
              have g_38 : (upd f_27 4 0) 1 = y_11 := g_29
              have g_39 : (upd f_27 4 0) 2 = y_18 := g_30
              have g_40 : (upd f_27 4 0) 3 = y_26 := g_31
              have g_41 : (upd f_27 4 0) 4 = 0 := rfl
              generalize (upd f_27 4 0) = f_36 at hP hD g_37 g_38 g_39 g_40 g_41
              refine lv_iinc (v := 5) (lv' := [(1, .int 5), (0, .ref h0)]) hx hb dX12_act_77 hl (k := 0) rfl (by decide) (by decide) rfl (fun ls hl => ?_)
              refine lv_goto (tgt := 51) hx hb dX12_act_80 (by decide) ?_
              refine lv_iload_n hx hb dX12_act_51 rfl (lv_at hl 0 rfl) ?_
              refine lv_bipush (v := 10) hx hb dX12_act_52 (by decide) ?_
              refine lv_icmp_ge (tgt := 83) hx hb dX12_act_54 (by decide) (fun c_42 => ?_) (fun c_42 => ?_)
              · exact absurd c_42 (by decide)
              · have c_42 : ¬ ((10 : Int32) ≤ 5) := c_42
                refine lv_aload_n hx hb dX12_act_57 rfl (lv_at hl 1 rfl) ?_
                refine va_get (D := D) (ci := 12) (v := .ref we) (C := RX12) (T := TX12) (N := 89) hx hb hg iX12 hown hK hP 0 rfl rfl 77 (by decide) (hg (Cond.fieldLink RX12 154 "SlabWalkModel" "were" "[I") m1391) (fun _ h9 => h9) g_M_were dX12_act_58 ?_
                refine lv_bipush (v := 16) hx hb dX12_act_61 (by decide) ?_
                refine lv_aload_n hx hb dX12_act_63 rfl (lv_at hl 1 rfl) ?_
                refine va_get (D := D) (ci := 12) (v := .int 0) (C := RX12) (T := TX12) (N := 89) hx hb hg iX12 hown hK hP 0 rfl rfl 78 (by decide) (hg (Cond.fieldLink RX12 437 "SlabWalkModel" "acts" "I") m1392) (fun _ h9 => h9) g_M_acts dX12_act_64 ?_
                refine lv_imul hx hb dX12_act_67 ?_
                refine lv_topi (fun y_43 ey_43 => ?_)
                obtain rfl : y_43 = 0 := ey_43.trans (by decide)
                refine lv_iload_n hx hb dX12_act_68 rfl (lv_at hl 0 rfl) ?_
                refine lv_iadd hx hb dX12_act_69 ?_
                refine lv_topi (fun y_44 ey_44 => ?_)
                obtain rfl : y_44 = 5 := ey_44.trans (by decide)
                refine lv_aload_n hx hb dX12_act_70 rfl (lv_at hl 1 rfl) ?_
                refine va_get (D := D) (ci := 12) (v := .ref nw) (C := RX12) (T := TX12) (N := 89) hx hb hg iX12 hown hK hP 0 rfl rfl 76 (by decide) (hg (Cond.fieldLink RX12 151 "SlabWalkModel" "now" "[I") m1390) (fun _ h9 => h9) g_M_now dX12_act_71 ?_
                refine lv_iload_n hx hb dX12_act_74 rfl (lv_at hl 0 rfl) ?_
                refine va_iald hx hb hK hP 1 1 rfl rfl (show ¬ ((5 : Int32) < 0 ∨ 16 ≤ (5 : Int32).toNatClampNeg) from by decide +kernel) dX12_act_75 ?_
                refine lv_topi (fun y_45 ey_45 => ?_)
                obtain rfl : y_45 = 0 := ey_45.trans (g_m4__5)
                refine va_iast hx hb hK hP hD hS 2 1 rfl rfl (show ¬ ((5 : Int32) < 0 ∨ 640 ≤ (5 : Int32).toNatClampNeg) from by decide +kernel) dX12_act_76 (fun H locs hP hD hS => ?_)
                have hP : va_P D classes [(h0, .inr (12, M)), (nw, .inl (k.2.1, 16, .inl m4)), (we, .inl (k.2.1, 640, .inl (upd f_36 5 0)))] H := hP
                have hD : va_D A [(h0, .inr (12, M)), (nw, .inl (k.2.1, 16, .inl m4)), (we, .inl (k.2.1, 640, .inl (upd f_36 5 0)))] := hD
                have g_47 : (upd f_36 5 0) 0 = (-1) := g_37
                have g_48 : (upd f_36 5 0) 1 = y_11 := g_38
                have g_49 : (upd f_36 5 0) 2 = y_18 := g_39
                have g_50 : (upd f_36 5 0) 3 = y_26 := g_40
                have g_51 : (upd f_36 5 0) 4 = 0 := g_41
                have g_52 : (upd f_36 5 0) 5 = 0 := rfl
                generalize (upd f_36 5 0) = f_46 at hP hD g_47 g_48 g_49 g_50 g_51 g_52
                refine lv_iinc (v := 6) (lv' := [(1, .int 6), (0, .ref h0)]) hx hb dX12_act_77 hl (k := 0) rfl (by decide) (by decide) rfl (fun ls hl => ?_)
                refine lv_goto (tgt := 51) hx hb dX12_act_80 (by decide) ?_
                refine lv_iload_n hx hb dX12_act_51 rfl (lv_at hl 0 rfl) ?_
                refine lv_bipush (v := 10) hx hb dX12_act_52 (by decide) ?_
                refine lv_icmp_ge (tgt := 83) hx hb dX12_act_54 (by decide) (fun c_53 => ?_) (fun c_53 => ?_)
                · exact absurd c_53 (by decide)
                · have c_53 : ¬ ((10 : Int32) ≤ 6) := c_53
                  refine lv_aload_n hx hb dX12_act_57 rfl (lv_at hl 1 rfl) ?_
                  refine va_get (D := D) (ci := 12) (v := .ref we) (C := RX12) (T := TX12) (N := 89) hx hb hg iX12 hown hK hP 0 rfl rfl 77 (by decide) (hg (Cond.fieldLink RX12 154 "SlabWalkModel" "were" "[I") m1391) (fun _ h9 => h9) g_M_were dX12_act_58 ?_
                  refine lv_bipush (v := 16) hx hb dX12_act_61 (by decide) ?_
                  refine lv_aload_n hx hb dX12_act_63 rfl (lv_at hl 1 rfl) ?_
                  refine va_get (D := D) (ci := 12) (v := .int 0) (C := RX12) (T := TX12) (N := 89) hx hb hg iX12 hown hK hP 0 rfl rfl 78 (by decide) (hg (Cond.fieldLink RX12 437 "SlabWalkModel" "acts" "I") m1392) (fun _ h9 => h9) g_M_acts dX12_act_64 ?_
                  refine lv_imul hx hb dX12_act_67 ?_
                  refine lv_topi (fun y_54 ey_54 => ?_)
                  obtain rfl : y_54 = 0 := ey_54.trans (by decide)
                  refine lv_iload_n hx hb dX12_act_68 rfl (lv_at hl 0 rfl) ?_
                  refine lv_iadd hx hb dX12_act_69 ?_
                  refine lv_topi (fun y_55 ey_55 => ?_)
                  obtain rfl : y_55 = 6 := ey_55.trans (by decide)
                  refine lv_aload_n hx hb dX12_act_70 rfl (lv_at hl 1 rfl) ?_
                  refine va_get (D := D) (ci := 12) (v := .ref nw) (C := RX12) (T := TX12) (N := 89) hx hb hg iX12 hown hK hP 0 rfl rfl 76 (by decide) (hg (Cond.fieldLink RX12 151 "SlabWalkModel" "now" "[I") m1390) (fun _ h9 => h9) g_M_now dX12_act_71 ?_
                  refine lv_iload_n hx hb dX12_act_74 rfl (lv_at hl 0 rfl) ?_
                  refine va_iald hx hb hK hP 1 1 rfl rfl (show ¬ ((6 : Int32) < 0 ∨ 16 ≤ (6 : Int32).toNatClampNeg) from by decide +kernel) dX12_act_75 ?_
                  refine lv_topi (fun y_56 ey_56 => ?_)
                  obtain rfl : y_56 = 0 := ey_56.trans (g_m4__6)
                  refine va_iast hx hb hK hP hD hS 2 1 rfl rfl (show ¬ ((6 : Int32) < 0 ∨ 640 ≤ (6 : Int32).toNatClampNeg) from by decide +kernel) dX12_act_76 (fun H locs hP hD hS => ?_)
                  have hP : va_P D classes [(h0, .inr (12, M)), (nw, .inl (k.2.1, 16, .inl m4)), (we, .inl (k.2.1, 640, .inl (upd f_46 6 0)))] H := hP
                  have hD : va_D A [(h0, .inr (12, M)), (nw, .inl (k.2.1, 16, .inl m4)), (we, .inl (k.2.1, 640, .inl (upd f_46 6 0)))] := hD
                  have g_58 : (upd f_46 6 0) 0 = (-1) := g_47
                  have g_59 : (upd f_46 6 0) 1 = y_11 := g_48
                  have g_60 : (upd f_46 6 0) 2 = y_18 := g_49
                  have g_61 : (upd f_46 6 0) 3 = y_26 := g_50
                  have g_62 : (upd f_46 6 0) 4 = 0 := g_51
                  have g_63 : (upd f_46 6 0) 5 = 0 := g_52
                  have g_64 : (upd f_46 6 0) 6 = 0 := rfl
                  generalize (upd f_46 6 0) = f_57 at hP hD g_58 g_59 g_60 g_61 g_62 g_63 g_64
                  refine lv_iinc (v := 7) (lv' := [(1, .int 7), (0, .ref h0)]) hx hb dX12_act_77 hl (k := 0) rfl (by decide) (by decide) rfl (fun ls hl => ?_)
                  refine lv_goto (tgt := 51) hx hb dX12_act_80 (by decide) ?_
                  refine lv_iload_n hx hb dX12_act_51 rfl (lv_at hl 0 rfl) ?_
                  refine lv_bipush (v := 10) hx hb dX12_act_52 (by decide) ?_
                  refine lv_icmp_ge (tgt := 83) hx hb dX12_act_54 (by decide) (fun c_65 => ?_) (fun c_65 => ?_)
                  · exact absurd c_65 (by decide)
                  · have c_65 : ¬ ((10 : Int32) ≤ 7) := c_65
                    refine lv_aload_n hx hb dX12_act_57 rfl (lv_at hl 1 rfl) ?_
                    refine va_get (D := D) (ci := 12) (v := .ref we) (C := RX12) (T := TX12) (N := 89) hx hb hg iX12 hown hK hP 0 rfl rfl 77 (by decide) (hg (Cond.fieldLink RX12 154 "SlabWalkModel" "were" "[I") m1391) (fun _ h9 => h9) g_M_were dX12_act_58 ?_
                    refine lv_bipush (v := 16) hx hb dX12_act_61 (by decide) ?_
                    refine lv_aload_n hx hb dX12_act_63 rfl (lv_at hl 1 rfl) ?_
                    refine va_get (D := D) (ci := 12) (v := .int 0) (C := RX12) (T := TX12) (N := 89) hx hb hg iX12 hown hK hP 0 rfl rfl 78 (by decide) (hg (Cond.fieldLink RX12 437 "SlabWalkModel" "acts" "I") m1392) (fun _ h9 => h9) g_M_acts dX12_act_64 ?_
                    refine lv_imul hx hb dX12_act_67 ?_
                    refine lv_topi (fun y_66 ey_66 => ?_)
                    obtain rfl : y_66 = 0 := ey_66.trans (by decide)
                    refine lv_iload_n hx hb dX12_act_68 rfl (lv_at hl 0 rfl) ?_
                    refine lv_iadd hx hb dX12_act_69 ?_
                    refine lv_topi (fun y_67 ey_67 => ?_)
                    obtain rfl : y_67 = 7 := ey_67.trans (by decide)
                    refine lv_aload_n hx hb dX12_act_70 rfl (lv_at hl 1 rfl) ?_
                    refine va_get (D := D) (ci := 12) (v := .ref nw) (C := RX12) (T := TX12) (N := 89) hx hb hg iX12 hown hK hP 0 rfl rfl 76 (by decide) (hg (Cond.fieldLink RX12 151 "SlabWalkModel" "now" "[I") m1390) (fun _ h9 => h9) g_M_now dX12_act_71 ?_
                    refine lv_iload_n hx hb dX12_act_74 rfl (lv_at hl 0 rfl) ?_
                    refine va_iald hx hb hK hP 1 1 rfl rfl (show ¬ ((7 : Int32) < 0 ∨ 16 ≤ (7 : Int32).toNatClampNeg) from by decide +kernel) dX12_act_75 ?_
                    refine lv_topi (fun y_68 ey_68 => ?_)
                    obtain rfl : y_68 = 0 := ey_68.trans (g_m4__7)
                    refine va_iast hx hb hK hP hD hS 2 1 rfl rfl (show ¬ ((7 : Int32) < 0 ∨ 640 ≤ (7 : Int32).toNatClampNeg) from by decide +kernel) dX12_act_76 (fun H locs hP hD hS => ?_)
                    have hP : va_P D classes [(h0, .inr (12, M)), (nw, .inl (k.2.1, 16, .inl m4)), (we, .inl (k.2.1, 640, .inl (upd f_57 7 0)))] H := hP
                    have hD : va_D A [(h0, .inr (12, M)), (nw, .inl (k.2.1, 16, .inl m4)), (we, .inl (k.2.1, 640, .inl (upd f_57 7 0)))] := hD
                    have g_70 : (upd f_57 7 0) 0 = (-1) := g_58
                    have g_71 : (upd f_57 7 0) 1 = y_11 := g_59
                    have g_72 : (upd f_57 7 0) 2 = y_18 := g_60
                    have g_73 : (upd f_57 7 0) 3 = y_26 := g_61
                    have g_74 : (upd f_57 7 0) 4 = 0 := g_62
                    have g_75 : (upd f_57 7 0) 5 = 0 := g_63
                    have g_76 : (upd f_57 7 0) 6 = 0 := g_64
                    have g_77 : (upd f_57 7 0) 7 = 0 := rfl
                    generalize (upd f_57 7 0) = f_69 at hP hD g_70 g_71 g_72 g_73 g_74 g_75 g_76 g_77
                    refine lv_iinc (v := 8) (lv' := [(1, .int 8), (0, .ref h0)]) hx hb dX12_act_77 hl (k := 0) rfl (by decide) (by decide) rfl (fun ls hl => ?_)
                    refine lv_goto (tgt := 51) hx hb dX12_act_80 (by decide) ?_
                    refine lv_iload_n hx hb dX12_act_51 rfl (lv_at hl 0 rfl) ?_
                    refine lv_bipush (v := 10) hx hb dX12_act_52 (by decide) ?_
                    refine lv_icmp_ge (tgt := 83) hx hb dX12_act_54 (by decide) (fun c_78 => ?_) (fun c_78 => ?_)
                    · exact absurd c_78 (by decide)
                    · have c_78 : ¬ ((10 : Int32) ≤ 8) := c_78
                      refine lv_aload_n hx hb dX12_act_57 rfl (lv_at hl 1 rfl) ?_
                      refine va_get (D := D) (ci := 12) (v := .ref we) (C := RX12) (T := TX12) (N := 89) hx hb hg iX12 hown hK hP 0 rfl rfl 77 (by decide) (hg (Cond.fieldLink RX12 154 "SlabWalkModel" "were" "[I") m1391) (fun _ h9 => h9) g_M_were dX12_act_58 ?_
                      refine lv_bipush (v := 16) hx hb dX12_act_61 (by decide) ?_
                      refine lv_aload_n hx hb dX12_act_63 rfl (lv_at hl 1 rfl) ?_
                      refine va_get (D := D) (ci := 12) (v := .int 0) (C := RX12) (T := TX12) (N := 89) hx hb hg iX12 hown hK hP 0 rfl rfl 78 (by decide) (hg (Cond.fieldLink RX12 437 "SlabWalkModel" "acts" "I") m1392) (fun _ h9 => h9) g_M_acts dX12_act_64 ?_
                      refine lv_imul hx hb dX12_act_67 ?_
                      refine lv_topi (fun y_79 ey_79 => ?_)
                      obtain rfl : y_79 = 0 := ey_79.trans (by decide)
                      refine lv_iload_n hx hb dX12_act_68 rfl (lv_at hl 0 rfl) ?_
                      refine lv_iadd hx hb dX12_act_69 ?_
                      refine lv_topi (fun y_80 ey_80 => ?_)
                      obtain rfl : y_80 = 8 := ey_80.trans (by decide)
                      refine lv_aload_n hx hb dX12_act_70 rfl (lv_at hl 1 rfl) ?_
                      refine va_get (D := D) (ci := 12) (v := .ref nw) (C := RX12) (T := TX12) (N := 89) hx hb hg iX12 hown hK hP 0 rfl rfl 76 (by decide) (hg (Cond.fieldLink RX12 151 "SlabWalkModel" "now" "[I") m1390) (fun _ h9 => h9) g_M_now dX12_act_71 ?_
                      refine lv_iload_n hx hb dX12_act_74 rfl (lv_at hl 0 rfl) ?_
                      refine va_iald hx hb hK hP 1 1 rfl rfl (show ¬ ((8 : Int32) < 0 ∨ 16 ≤ (8 : Int32).toNatClampNeg) from by decide +kernel) dX12_act_75 ?_
                      refine lv_topi (fun y_81 ey_81 => ?_)
                      obtain rfl : y_81 = 0 := ey_81.trans (g_m4__8)
                      refine va_iast hx hb hK hP hD hS 2 1 rfl rfl (show ¬ ((8 : Int32) < 0 ∨ 640 ≤ (8 : Int32).toNatClampNeg) from by decide +kernel) dX12_act_76 (fun H locs hP hD hS => ?_)
                      have hP : va_P D classes [(h0, .inr (12, M)), (nw, .inl (k.2.1, 16, .inl m4)), (we, .inl (k.2.1, 640, .inl (upd f_69 8 0)))] H := hP
                      have hD : va_D A [(h0, .inr (12, M)), (nw, .inl (k.2.1, 16, .inl m4)), (we, .inl (k.2.1, 640, .inl (upd f_69 8 0)))] := hD
                      have g_83 : (upd f_69 8 0) 0 = (-1) := g_70
                      have g_84 : (upd f_69 8 0) 1 = y_11 := g_71
                      have g_85 : (upd f_69 8 0) 2 = y_18 := g_72
                      have g_86 : (upd f_69 8 0) 3 = y_26 := g_73
                      have g_87 : (upd f_69 8 0) 4 = 0 := g_74
                      have g_88 : (upd f_69 8 0) 5 = 0 := g_75
                      have g_89 : (upd f_69 8 0) 6 = 0 := g_76
                      have g_90 : (upd f_69 8 0) 7 = 0 := g_77
                      have g_91 : (upd f_69 8 0) 8 = 0 := rfl
                      generalize (upd f_69 8 0) = f_82 at hP hD g_83 g_84 g_85 g_86 g_87 g_88 g_89 g_90 g_91
                      refine lv_iinc (v := 9) (lv' := [(1, .int 9), (0, .ref h0)]) hx hb dX12_act_77 hl (k := 0) rfl (by decide) (by decide) rfl (fun ls hl => ?_)
                      refine lv_goto (tgt := 51) hx hb dX12_act_80 (by decide) ?_
                      refine lv_iload_n hx hb dX12_act_51 rfl (lv_at hl 0 rfl) ?_
                      refine lv_bipush (v := 10) hx hb dX12_act_52 (by decide) ?_
                      refine lv_icmp_ge (tgt := 83) hx hb dX12_act_54 (by decide) (fun c_92 => ?_) (fun c_92 => ?_)
                      · exact absurd c_92 (by decide)
                      · have c_92 : ¬ ((10 : Int32) ≤ 9) := c_92
                        refine lv_aload_n hx hb dX12_act_57 rfl (lv_at hl 1 rfl) ?_
                        refine va_get (D := D) (ci := 12) (v := .ref we) (C := RX12) (T := TX12) (N := 89) hx hb hg iX12 hown hK hP 0 rfl rfl 77 (by decide) (hg (Cond.fieldLink RX12 154 "SlabWalkModel" "were" "[I") m1391) (fun _ h9 => h9) g_M_were dX12_act_58 ?_
                        refine lv_bipush (v := 16) hx hb dX12_act_61 (by decide) ?_
                        refine lv_aload_n hx hb dX12_act_63 rfl (lv_at hl 1 rfl) ?_
                        refine va_get (D := D) (ci := 12) (v := .int 0) (C := RX12) (T := TX12) (N := 89) hx hb hg iX12 hown hK hP 0 rfl rfl 78 (by decide) (hg (Cond.fieldLink RX12 437 "SlabWalkModel" "acts" "I") m1392) (fun _ h9 => h9) g_M_acts dX12_act_64 ?_
                        refine lv_imul hx hb dX12_act_67 ?_
                        refine lv_topi (fun y_93 ey_93 => ?_)
                        obtain rfl : y_93 = 0 := ey_93.trans (by decide)
                        refine lv_iload_n hx hb dX12_act_68 rfl (lv_at hl 0 rfl) ?_
                        refine lv_iadd hx hb dX12_act_69 ?_
                        refine lv_topi (fun y_94 ey_94 => ?_)
                        obtain rfl : y_94 = 9 := ey_94.trans (by decide)
                        refine lv_aload_n hx hb dX12_act_70 rfl (lv_at hl 1 rfl) ?_
                        refine va_get (D := D) (ci := 12) (v := .ref nw) (C := RX12) (T := TX12) (N := 89) hx hb hg iX12 hown hK hP 0 rfl rfl 76 (by decide) (hg (Cond.fieldLink RX12 151 "SlabWalkModel" "now" "[I") m1390) (fun _ h9 => h9) g_M_now dX12_act_71 ?_
                        refine lv_iload_n hx hb dX12_act_74 rfl (lv_at hl 0 rfl) ?_
                        refine va_iald hx hb hK hP 1 1 rfl rfl (show ¬ ((9 : Int32) < 0 ∨ 16 ≤ (9 : Int32).toNatClampNeg) from by decide +kernel) dX12_act_75 ?_
                        refine lv_topi (fun y_95 ey_95 => ?_)
                        obtain rfl : y_95 = 0 := ey_95.trans (g_m4__9)
                        refine va_iast hx hb hK hP hD hS 2 1 rfl rfl (show ¬ ((9 : Int32) < 0 ∨ 640 ≤ (9 : Int32).toNatClampNeg) from by decide +kernel) dX12_act_76 (fun H locs hP hD hS => ?_)
                        have hP : va_P D classes [(h0, .inr (12, M)), (nw, .inl (k.2.1, 16, .inl m4)), (we, .inl (k.2.1, 640, .inl (upd f_82 9 0)))] H := hP
                        have hD : va_D A [(h0, .inr (12, M)), (nw, .inl (k.2.1, 16, .inl m4)), (we, .inl (k.2.1, 640, .inl (upd f_82 9 0)))] := hD
                        have g_97 : (upd f_82 9 0) 0 = (-1) := g_83
                        have g_98 : (upd f_82 9 0) 1 = y_11 := g_84
                        have g_99 : (upd f_82 9 0) 2 = y_18 := g_85
                        have g_100 : (upd f_82 9 0) 3 = y_26 := g_86
                        have g_101 : (upd f_82 9 0) 4 = 0 := g_87
                        have g_102 : (upd f_82 9 0) 5 = 0 := g_88
                        have g_103 : (upd f_82 9 0) 6 = 0 := g_89
                        have g_104 : (upd f_82 9 0) 7 = 0 := g_90
                        have g_105 : (upd f_82 9 0) 8 = 0 := g_91
                        have g_106 : (upd f_82 9 0) 9 = 0 := rfl
                        generalize (upd f_82 9 0) = f_96 at hP hD g_97 g_98 g_99 g_100 g_101 g_102 g_103 g_104 g_105 g_106
                        refine lv_iinc (v := 10) (lv' := [(1, .int 10), (0, .ref h0)]) hx hb dX12_act_77 hl (k := 0) rfl (by decide) (by decide) rfl (fun ls hl => ?_)
                        refine lv_goto (tgt := 51) hx hb dX12_act_80 (by decide) ?_
                        refine lv_iload_n hx hb dX12_act_51 rfl (lv_at hl 0 rfl) ?_
                        refine lv_bipush (v := 10) hx hb dX12_act_52 (by decide) ?_
                        refine lv_icmp_ge (tgt := 83) hx hb dX12_act_54 (by decide) (fun c_107 => ?_) (fun c_107 => ?_)
                        · have c_107 : (10 : Int32) ≤ 10 := c_107
                          refine lv_aload_n hx hb dX12_act_83 rfl (lv_at hl 1 rfl) ?_
                          refine lv_dup hx hb dX12_act_84 rfl ?_
                          refine va_get (D := D) (ci := 12) (v := .int 0) (C := RX12) (T := TX12) (N := 89) hx hb hg iX12 hown hK hP 0 rfl rfl 78 (by decide) (hg (Cond.fieldLink RX12 437 "SlabWalkModel" "acts" "I") m1392) (fun _ h9 => h9) g_M_acts dX12_act_85 ?_
                          refine lv_iconst (v := 1) hx hb dX12_act_88 (by decide) ?_
                          refine lv_iadd hx hb dX12_act_89 ?_
                          refine lv_topi (fun y_108 ey_108 => ?_)
                          obtain rfl : y_108 = 1 := ey_108.trans (by decide)
                          refine va_put (D := D) (ci := 12) (v := .int 1) (ty := .int) (C := RX12) (T := TX12) (N := 89) hx hb hg iX12 tyX12 tyX12_ok nmX12 hown hK hP hD hS 0 rfl rfl 78 (by decide) (hg (Cond.fieldLink RX12 437 "SlabWalkModel" "acts" "I") m1392) (fun _ h9 => h9) rfl (by decide +kernel) rfl rfl (fs_lt g_M_acts) dX12_act_90 (fun H locs hP hD hS => ?_)
                          have hP : va_P D classes [(h0, .inr (12, (M.set 78 (.int 1)))), (nw, .inl (k.2.1, 16, .inl m4)), (we, .inl (k.2.1, 640, .inl f_96))] H := hP
                          have hD : va_D A [(h0, .inr (12, (M.set 78 (.int 1)))), (nw, .inl (k.2.1, 16, .inl m4)), (we, .inl (k.2.1, 640, .inl f_96))] := hD
                          refine lv_aload_n hx hb dX12_act_93 rfl (lv_at hl 1 rfl) ?_
                          refine lv_iconst (v := 0) hx hb dX12_act_94 (by decide) ?_
                          refine va_put (D := D) (ci := 12) (v := .int 0) (ty := .int) (C := RX12) (T := TX12) (N := 89) hx hb hg iX12 tyX12 tyX12_ok nmX12 hown hK hP hD hS 0 rfl rfl 79 (by decide) (hg (Cond.fieldLink RX12 440 "SlabWalkModel" "undone" "I") m1393) (fun _ h9 => h9) rfl (by decide +kernel) rfl rfl (fs_lt (fs_ne g_M_undone (by decide))) dX12_act_95 (fun H locs hP hD hS => ?_)
                          have hP : va_P D classes [(h0, .inr (12, ((M.set 78 (.int 1)).set 79 (.int 0)))), (nw, .inl (k.2.1, 16, .inl m4)), (we, .inl (k.2.1, 640, .inl f_96))] H := hP
                          have hD : va_D A [(h0, .inr (12, ((M.set 78 (.int 1)).set 79 (.int 0)))), (nw, .inl (k.2.1, 16, .inl m4)), (we, .inl (k.2.1, 640, .inl f_96))] := hD
                          have hP9 := hP.sub (ws' := [(h0, .inr (12, ((M.set 78 (.int 1)).set 79 (.int 0)))), (nw, .inl (k.2.1, 16, .inl m4))]) [0, 1] rfl
                          have hD9 := hD.sub (ws' := [(h0, .inr (12, ((M.set 78 (.int 1)).set 79 (.int 0)))), (nw, .inl (k.2.1, 16, .inl m4))]) [0, 1] (by decide) rfl
                          exact W.vret hx hb hr (fun t ht hW => ⟨⟨(), rfl, trivial, ⟨((M.set 78 (.int 1)).set 79 (.int 0)), (fs_ne (fs_ne g_M_now (by decide)) (by decide)), cB_of ht hP9 hD9⟩⟩, hS.F ht⟩) hS.2.2 dX12_act_98
                        · exact absurd (by decide) c_107
  · exact absurd c_1 (by decide)

set_option maxHeartbeats 4000000 in
set_option maxRecDepth 100000 in
theorem c_X12_rain (l : Launch) (D : va_G) (k : ClassId × ClassId × ClassId × ClassId) (sz : Nat) (h0 nw we : Nat) (M : List Value) (m4 : Nat → Int32) (m5 : Nat → Int32) (g_M_now : M[76]? = some (.ref nw)) (g_M_were : M[77]? = some (.ref we)) (g_M_acts : M[78]? = some (.int 0)) (g_M_undone : M[79]? = some (.int 0)) (g_m4__0 : m4 0 = (-1)) (g_m4__4 : m4 4 = 0) (g_m4__5 : m4 5 = 0) (g_m4__6 : m4 6 = 0) (g_m4__7 : m4 7 = 0) (g_m4__8 : m4 8 = 0) (g_m4__9 : m4 9 = 0) : Met l yX12_rain (WS yX12_rain cX12_rain 1 (some .boolean)) ({ frames := 1, cells := 0, slots := 0, locals := 21 }) (va_Pc [.ref h0] (cP D k [(h0, .inr (12, M)), (nw, .inl (k.2.1, 16, .inl m4)), (we, .inl (k.2.1, 640, .inl m5))] sz)) (va_Qi (fun (r : Int32) (_ : Unit) => r = 1) (fun (_ : Unit) t => cB D (va_A [(h0, .inr (12, M)), (nw, .inl (k.2.1, 16, .inl m4)), (we, .inl (k.2.1, 640, .inl m5))] sz) [] t) (va_A [(h0, .inr (12, M)), (nw, .inl (k.2.1, 16, .inl m4)), (we, .inl (k.2.1, 640, .inl m5))] sz)) 0 0 (va_A [(h0, .inr (12, M)), (nw, .inl (k.2.1, 16, .inl m4)), (we, .inl (k.2.1, 640, .inl m5))] sz) := by
  refine Met.ofW (cc := cX12_rain) (maxL := 1) (ret := (some .boolean)) (by decide) rfl ?_
  intro p e s m args below meth c s₁ B hml hv
  obtain ⟨rfl, hsz, hP, hKX, hD0⟩ := hv
  have hK := hKX.1
  have hx := B.exec
  have hb := B.bytes
  have hr := B.returns
  have hts := atoms_spec (ws := WS yX12_rain cX12_rain 1 (some .boolean)) B.pre
  have hgd : ∀ w ∈ gd, w ∈ WS yX12_rain cX12_rain 1 (some .boolean) := fun w h => List.mem_cons_of_mem _ h
  have hg : ∀ w ∈ gd, w.before _ s = true := fun w h => hts w (hgd w h)
  have hown : s.vm.findClass RX12 = some m.cls := findClass_of_methodNamed B.named
  have hlocks := B.notSynchronized
  subst hsz
  have hD := hD0.self (sz := s.heap.size)
  generalize hAe : va_A [(h0, .inr (12, M)), (nw, .inl (k.2.1, 16, .inl m4)), (we, .inl (k.2.1, 640, .inl m5))] s.heap.size = A at hD ⊢
  have hA : ∀ q : Nat, s.heap.size ≤ q → A q := fun q h => by rw [← hAe]; exact Or.inr h
  have hS : va_S A s.heap s.heap [] := va_S.rf
  have hP : va_P D classes [(h0, .inr (12, M)), (nw, .inl (k.2.1, 16, .inl m4)), (we, .inl (k.2.1, 640, .inl m5))] s.heap := hP
  have hl := lv_entry ([.ref h0]) (n := 1) (Nat.le_of_ble_eq_true rfl)
  rw [lg_entry_eq]
  generalize (lg_sl ([.ref h0]) ++ List.replicate (1 - (lg_sl ([.ref h0])).length) Slot.unset).toArray = ls at hl ⊢
  have hl : lv_has ls 1 [(0, .ref h0)] := hl
  refine lv_aload_n hx hb dX12_rain_0 rfl (lv_at hl 0 rfl) ?_
  have hPc := hP.sub (ws' := [(h0, .inr (12, M)), (nw, .inl (k.2.1, 16, .inl m4)), (we, .inl (k.2.1, 640, .inl m5))]) [0, 1, 2] rfl
  have hDc := hD.sub (ws' := [(h0, .inr (12, M)), (nw, .inl (k.2.1, 16, .inl m4)), (we, .inl (k.2.1, 640, .inl m5))]) [0, 1, 2] (by decide) rfl
  have hFc := va_free (wc := [(h0, .inr (12, M)), (nw, .inl (k.2.1, 16, .inl m4)), (we, .inl (k.2.1, 640, .inl m5))]) hD hS hA [0, 1, 2] rfl
  refine va_callv (va_runV (As := []) (rest := []) ⟨hx, hb, hml, hown, hts⟩ (c_X12_act l D k s.heap.size h0 nw we M m4 m5 g_M_now g_M_were g_M_acts g_M_undone g_m4__0 g_m4__4 g_m4__5 g_m4__6 g_m4__7 g_m4__8 g_m4__9) (cwV 0 hts (gd_V hgd m1991 m1993 m111 m131 m1994) rfl rfl rfl (by decide +kernel) ⟨Nat.le_of_ble_eq_true rfl, Nat.le_of_ble_eq_true rfl⟩) (cP_V hPc hKX hDc (ci := 12) (q0 := 0) rfl rfl) rfl rfl hl.1 rfl (lv_room (Nat.le_of_ble_eq_true rfl)) dX12_rain_1 ⟨Nat.le_of_ble_eq_true rfl, Nat.le_of_ble_eq_true rfl⟩) hS (fun q _ h => hFc q h) hFc (fun u t H1 locs ht hvm hw hB hz1 hk1 hS => ?_)
  obtain ⟨z_2, g_3, hP1, hD1⟩ := hB
  rw [ht] at hP1
  obtain ⟨hP, hD⟩ := va_join (wr := []) (w1 := [(h0, .inr (12, z_2)), (nw, .inl (k.2.1, 16, .inl m4))]) hP hD [0, 1, 2] [] rfl rfl (by decide) (by decide) hk1 hFc hP1 hD1
  generalize H1 = H at hP hS ⊢
  have hP : va_P D classes [(h0, .inr (12, z_2)), (nw, .inl (k.2.1, 16, .inl m4))] H := hP
  have hD : va_D A [(h0, .inr (12, z_2)), (nw, .inl (k.2.1, 16, .inl m4))] := hD
  refine W.widen (k := 0) (n := 0) (Nat.le_of_ble_eq_true rfl) (Nat.le_of_ble_eq_true rfl) ?_
  refine lv_aload_n hx hb dX12_rain_4 rfl (lv_at hl 0 rfl) ?_
  refine va_get (D := D) (ci := 12) (v := .ref nw) (C := RX12) (T := TX12) (N := 89) hx hb hg iX12 hown hK hP 0 rfl rfl 76 (by decide) (hg (Cond.fieldLink RX12 151 "SlabWalkModel" "now" "[I") m1390) (fun _ h9 => h9) g_3 dX12_rain_5 ?_
  refine lv_bipush (v := 9) hx hb dX12_rain_8 (by decide) ?_
  refine lv_iconst (v := 1) hx hb dX12_rain_10 (by decide) ?_
  refine lv_aload_n hx hb dX12_rain_11 rfl (lv_at hl 0 rfl) ?_
  refine va_get (D := D) (ci := 12) (v := .ref nw) (C := RX12) (T := TX12) (N := 89) hx hb hg iX12 hown hK hP 0 rfl rfl 76 (by decide) (hg (Cond.fieldLink RX12 151 "SlabWalkModel" "now" "[I") m1390) (fun _ h9 => h9) g_3 dX12_rain_12 ?_
  refine lv_bipush (v := 9) hx hb dX12_rain_15 (by decide) ?_
  refine va_iald hx hb hK hP 1 1 rfl rfl (show ¬ ((9 : Int32) < 0 ∨ 16 ≤ (9 : Int32).toNatClampNeg) from by decide +kernel) dX12_rain_17 ?_
  refine lv_topi (fun y_4 ey_4 => ?_)
  obtain rfl : y_4 = 0 := ey_4.trans (g_m4__9)
  refine lv_isub hx hb dX12_rain_18 ?_
  refine lv_topi (fun y_5 ey_5 => ?_)
  obtain rfl : y_5 = 1 := ey_5.trans (by decide)
  refine va_iast hx hb hK hP hD hS 1 1 rfl rfl (show ¬ ((9 : Int32) < 0 ∨ 16 ≤ (9 : Int32).toNatClampNeg) from by decide +kernel) dX12_rain_19 (fun H locs hP hD hS => ?_)
  have hP : va_P D classes [(h0, .inr (12, z_2)), (nw, .inl (k.2.1, 16, .inl (upd m4 9 1)))] H := hP
  have hD : va_D A [(h0, .inr (12, z_2)), (nw, .inl (k.2.1, 16, .inl (upd m4 9 1)))] := hD
  have g_7 : (upd m4 9 1) 0 = (-1) := g_m4__0
  have g_8 : (upd m4 9 1) 4 = 0 := g_m4__4
  have g_9 : (upd m4 9 1) 5 = 0 := g_m4__5
  have g_10 : (upd m4 9 1) 6 = 0 := g_m4__6
  have g_11 : (upd m4 9 1) 7 = 0 := g_m4__7
  have g_12 : (upd m4 9 1) 8 = 0 := g_m4__8
  have g_13 : (upd m4 9 1) 9 = 1 := rfl
  generalize (upd m4 9 1) = f_6 at hP hD g_7 g_8 g_9 g_10 g_11 g_12 g_13
  refine lv_aload_n hx hb dX12_rain_20 rfl (lv_at hl 0 rfl) ?_
  refine va_get (D := D) (ci := 12) (v := .ref nw) (C := RX12) (T := TX12) (N := 89) hx hb hg iX12 hown hK hP 0 rfl rfl 76 (by decide) (hg (Cond.fieldLink RX12 151 "SlabWalkModel" "now" "[I") m1390) (fun _ h9 => h9) g_3 dX12_rain_21 ?_
  refine lv_bipush (v := 9) hx hb dX12_rain_24 (by decide) ?_
  refine va_iald hx hb hK hP 1 1 rfl rfl (show ¬ ((9 : Int32) < 0 ∨ 16 ≤ (9 : Int32).toNatClampNeg) from by decide +kernel) dX12_rain_26 ?_
  refine lv_topi (fun y_14 ey_14 => ?_)
  obtain rfl : y_14 = 1 := ey_14.trans (g_13)
  refine lv_iconst (v := 1) hx hb dX12_rain_27 (by decide) ?_
  refine lv_icmp_ne (tgt := 35) hx hb dX12_rain_28 (by decide) (fun c_15 => ?_) (fun c_15 => ?_)
  · exact absurd (by decide) c_15
  · have c_15 : (1 : Int32) = 1 := c_15
    refine lv_iconst (v := 1) hx hb dX12_rain_31 (by decide) ?_
    refine lv_goto (tgt := 36) hx hb dX12_rain_32 (by decide) ?_
    have hP9 := hP.sub (ws' := []) [] rfl
    have hD9 := hD.sub (ws' := []) [] (by decide) rfl
    exact W.zret (v := 1) hx hb hr (by decide) (fun t ht hW => ⟨⟨1, (), rfl, rfl, cB_of ht hP9 hD9⟩, hS.F ht⟩) hS.2.2 dX12_rain_36

set_option maxHeartbeats 4000000 in
set_option maxRecDepth 100000 in
theorem c_X12_day (l : Launch) (D : va_G) (k : ClassId × ClassId × ClassId × ClassId) (sz : Nat) (h0 nw we : Nat) (M : List Value) (m4 : Nat → Int32) (m5 : Nat → Int32) (g_M_now : M[76]? = some (.ref nw)) (g_M_were : M[77]? = some (.ref we)) (g_M_acts : M[78]? = some (.int 0)) (g_M_undone : M[79]? = some (.int 0)) (g_m4__0 : m4 0 = (-1)) (g_m4__4 : m4 4 = 0) (g_m4__5 : m4 5 = 0) (g_m4__6 : m4 6 = 0) (g_m4__7 : m4 7 = 0) (g_m4__8 : m4 8 = 0) (g_m4__9 : m4 9 = 0) : Met l yX12_day (WS yX12_day cX12_day 1 (some .int)) ({ frames := 1, cells := 0, slots := 0, locals := 21 }) (va_Pc [.ref h0] (cP D k [(h0, .inr (12, M)), (nw, .inl (k.2.1, 16, .inl m4)), (we, .inl (k.2.1, 640, .inl m5))] sz)) (va_Qi (fun (r : Int32) (_ : Unit) => r = 1) (fun (_ : Unit) t => cB D (va_A [(h0, .inr (12, M)), (nw, .inl (k.2.1, 16, .inl m4)), (we, .inl (k.2.1, 640, .inl m5))] sz) [] t) (va_A [(h0, .inr (12, M)), (nw, .inl (k.2.1, 16, .inl m4)), (we, .inl (k.2.1, 640, .inl m5))] sz)) 0 0 (va_A [(h0, .inr (12, M)), (nw, .inl (k.2.1, 16, .inl m4)), (we, .inl (k.2.1, 640, .inl m5))] sz) := by
  refine Met.ofW (cc := cX12_day) (maxL := 1) (ret := (some .int)) (by decide) rfl ?_
  intro p e s m args below meth c s₁ B hml hv
  obtain ⟨rfl, hsz, hP, hKX, hD0⟩ := hv
  have hK := hKX.1
  have hx := B.exec
  have hb := B.bytes
  have hr := B.returns
  have hts := atoms_spec (ws := WS yX12_day cX12_day 1 (some .int)) B.pre
  have hgd : ∀ w ∈ gd, w ∈ WS yX12_day cX12_day 1 (some .int) := fun w h => List.mem_cons_of_mem _ h
  have hg : ∀ w ∈ gd, w.before _ s = true := fun w h => hts w (hgd w h)
  have hown : s.vm.findClass RX12 = some m.cls := findClass_of_methodNamed B.named
  have hlocks := B.notSynchronized
  subst hsz
  have hD := hD0.self (sz := s.heap.size)
  generalize hAe : va_A [(h0, .inr (12, M)), (nw, .inl (k.2.1, 16, .inl m4)), (we, .inl (k.2.1, 640, .inl m5))] s.heap.size = A at hD ⊢
  have hA : ∀ q : Nat, s.heap.size ≤ q → A q := fun q h => by rw [← hAe]; exact Or.inr h
  have hS : va_S A s.heap s.heap [] := va_S.rf
  have hP : va_P D classes [(h0, .inr (12, M)), (nw, .inl (k.2.1, 16, .inl m4)), (we, .inl (k.2.1, 640, .inl m5))] s.heap := hP
  have hl := lv_entry ([.ref h0]) (n := 1) (Nat.le_of_ble_eq_true rfl)
  rw [lg_entry_eq]
  generalize (lg_sl ([.ref h0]) ++ List.replicate (1 - (lg_sl ([.ref h0])).length) Slot.unset).toArray = ls at hl ⊢
  have hl : lv_has ls 1 [(0, .ref h0)] := hl
  refine lv_aload_n hx hb dX12_day_0 rfl (lv_at hl 0 rfl) ?_
  refine va_get (D := D) (ci := 12) (v := .ref nw) (C := RX12) (T := TX12) (N := 89) hx hb hg iX12 hown hK hP 0 rfl rfl 76 (by decide) (hg (Cond.fieldLink RX12 151 "SlabWalkModel" "now" "[I") m1390) (fun _ h9 => h9) g_M_now dX12_day_1 ?_
  refine lv_bipush (v := 6) hx hb dX12_day_4 (by decide) ?_
  refine va_iald hx hb hK hP 1 1 rfl rfl (show ¬ ((6 : Int32) < 0 ∨ 16 ≤ (6 : Int32).toNatClampNeg) from by decide +kernel) dX12_day_6 ?_
  refine lv_topi (fun y_1 ey_1 => ?_)
  obtain rfl : y_1 = 0 := ey_1.trans (g_m4__6)
  refine lv_sipush (v := 1000) hx hb dX12_day_7 (by decide) ?_
  refine lv_icmp_ne (tgt := 15) hx hb dX12_day_10 (by decide) (fun c_2 => ?_) (fun c_2 => ?_)
  · have c_2 : ¬ ((0 : Int32) = 1000) := c_2
    refine lv_aload_n hx hb dX12_day_15 rfl (lv_at hl 0 rfl) ?_
    have hPc := hP.sub (ws' := [(h0, .inr (12, M)), (nw, .inl (k.2.1, 16, .inl m4)), (we, .inl (k.2.1, 640, .inl m5))]) [0, 1, 2] rfl
    have hDc := hD.sub (ws' := [(h0, .inr (12, M)), (nw, .inl (k.2.1, 16, .inl m4)), (we, .inl (k.2.1, 640, .inl m5))]) [0, 1, 2] (by decide) rfl
    have hFc := va_free (wc := [(h0, .inr (12, M)), (nw, .inl (k.2.1, 16, .inl m4)), (we, .inl (k.2.1, 640, .inl m5))]) hD hS hA [0, 1, 2] rfl
    refine va_callv (va_runV (As := []) (rest := []) ⟨hx, hb, hml, hown, hts⟩ (c_X12_act l D k s.heap.size h0 nw we M m4 m5 g_M_now g_M_were g_M_acts g_M_undone g_m4__0 g_m4__4 g_m4__5 g_m4__6 g_m4__7 g_m4__8 g_m4__9) (cwV 0 hts (gd_V hgd m1991 m1993 m111 m131 m1994) rfl rfl rfl (by decide +kernel) ⟨Nat.le_of_ble_eq_true rfl, Nat.le_of_ble_eq_true rfl⟩) (cP_V hPc hKX hDc (ci := 12) (q0 := 0) rfl rfl) rfl rfl hl.1 rfl (lv_room (Nat.le_of_ble_eq_true rfl)) dX12_day_16 ⟨Nat.le_of_ble_eq_true rfl, Nat.le_of_ble_eq_true rfl⟩) hS (fun q _ h => hFc q h) hFc (fun u t H1 locs ht hvm hw hB hz1 hk1 hS => ?_)
    obtain ⟨z_4, g_5, hP1, hD1⟩ := hB
    rw [ht] at hP1
    obtain ⟨hP, hD⟩ := va_join (wr := []) (w1 := [(h0, .inr (12, z_4)), (nw, .inl (k.2.1, 16, .inl m4))]) hP hD [0, 1, 2] [] rfl rfl (by decide) (by decide) hk1 hFc hP1 hD1
    generalize H1 = H at hP hS ⊢
    have hP : va_P D classes [(h0, .inr (12, z_4)), (nw, .inl (k.2.1, 16, .inl m4))] H := hP
    have hD : va_D A [(h0, .inr (12, z_4)), (nw, .inl (k.2.1, 16, .inl m4))] := hD
    refine W.widen (k := 0) (n := 0) (Nat.le_of_ble_eq_true rfl) (Nat.le_of_ble_eq_true rfl) ?_
    refine lv_aload_n hx hb dX12_day_19 rfl (lv_at hl 0 rfl) ?_
    refine va_get (D := D) (ci := 12) (v := .ref nw) (C := RX12) (T := TX12) (N := 89) hx hb hg iX12 hown hK hP 0 rfl rfl 76 (by decide) (hg (Cond.fieldLink RX12 151 "SlabWalkModel" "now" "[I") m1390) (fun _ h9 => h9) g_5 dX12_day_20 ?_
    refine lv_bipush (v := 6) hx hb dX12_day_23 (by decide) ?_
    refine lv_dup2_11 hx hb dX12_day_25 rfl rfl ?_
    refine va_iald hx hb hK hP 1 1 rfl rfl (show ¬ ((6 : Int32) < 0 ∨ 16 ≤ (6 : Int32).toNatClampNeg) from by decide +kernel) dX12_day_26 ?_
    refine lv_topi (fun y_6 ey_6 => ?_)
    obtain rfl : y_6 = 0 := ey_6.trans (g_m4__6)
    refine lv_iconst (v := 1) hx hb dX12_day_27 (by decide) ?_
    refine lv_iadd hx hb dX12_day_28 ?_
    refine lv_topi (fun y_7 ey_7 => ?_)
    obtain rfl : y_7 = 1 := ey_7.trans (by decide)
    refine va_iast hx hb hK hP hD hS 1 1 rfl rfl (show ¬ ((6 : Int32) < 0 ∨ 16 ≤ (6 : Int32).toNatClampNeg) from by decide +kernel) dX12_day_29 (fun H locs hP hD hS => ?_)
    have hP : va_P D classes [(h0, .inr (12, z_4)), (nw, .inl (k.2.1, 16, .inl (upd m4 6 1)))] H := hP
    have hD : va_D A [(h0, .inr (12, z_4)), (nw, .inl (k.2.1, 16, .inl (upd m4 6 1)))] := hD
    have g_9 : (upd m4 6 1) 0 = (-1) := g_m4__0
    have g_10 : (upd m4 6 1) 4 = 0 := g_m4__4
    have g_11 : (upd m4 6 1) 5 = 0 := g_m4__5
    have g_12 : (upd m4 6 1) 7 = 0 := g_m4__7
    have g_13 : (upd m4 6 1) 8 = 0 := g_m4__8
    have g_14 : (upd m4 6 1) 9 = 0 := g_m4__9
    have g_15 : (upd m4 6 1) 6 = 1 := rfl
    generalize (upd m4 6 1) = f_8 at hP hD g_9 g_10 g_11 g_12 g_13 g_14 g_15
    refine lv_aload_n hx hb dX12_day_30 rfl (lv_at hl 0 rfl) ?_
    refine va_get (D := D) (ci := 12) (v := .ref nw) (C := RX12) (T := TX12) (N := 89) hx hb hg iX12 hown hK hP 0 rfl rfl 76 (by decide) (hg (Cond.fieldLink RX12 151 "SlabWalkModel" "now" "[I") m1390) (fun _ h9 => h9) g_5 dX12_day_31 ?_
    refine lv_bipush (v := 6) hx hb dX12_day_34 (by decide) ?_
    refine va_iald hx hb hK hP 1 1 rfl rfl (show ¬ ((6 : Int32) < 0 ∨ 16 ≤ (6 : Int32).toNatClampNeg) from by decide +kernel) dX12_day_36 ?_
    refine lv_topi (fun y_16 ey_16 => ?_)
    obtain rfl : y_16 = 1 := ey_16.trans (g_15)
    have hP9 := hP.sub (ws' := []) [] rfl
    have hD9 := hD.sub (ws' := []) [] (by decide) rfl
    exact W.iret (v := 1) hx hb hr (fun t ht hW => ⟨⟨1, (), rfl, rfl, cB_of ht hP9 hD9⟩, hS.F ht⟩) hS.2.2 dX12_day_37
  · exact absurd c_2 (by decide)

set_option maxHeartbeats 4000000 in
set_option maxRecDepth 100000 in
theorem c_X12_isBox_a (l : Launch) (D : va_G) (k : ClassId × ClassId × ClassId × ClassId) (sz : Nat) (p0 : Int32) (h_lt0 : p0 < 0) : Met l yX12_isBox (WS yX12_isBox cX12_isBox 1 (some .boolean)) ({ frames := 0, cells := 0, slots := 0, locals := 0 }) (va_Pc [.int p0] (cP D k [] sz)) (va_Qi (fun (r : Int32) (_ : Unit) => r = 0) (fun (_ : Unit) t => cB D (va_A [] sz) [] t) (va_A [] sz)) 0 0 (va_A [] sz) := by
  refine Met.ofW (cc := cX12_isBox) (maxL := 1) (ret := (some .boolean)) (by decide) rfl ?_
  intro p e s m args below meth c s₁ B hml hv
  obtain ⟨rfl, hsz, hP, hKX, hD0⟩ := hv
  have hK := hKX.1
  have hx := B.exec
  have hb := B.bytes
  have hr := B.returns
  have hts := atoms_spec (ws := WS yX12_isBox cX12_isBox 1 (some .boolean)) B.pre
  have hgd : ∀ w ∈ gd, w ∈ WS yX12_isBox cX12_isBox 1 (some .boolean) := fun w h => List.mem_cons_of_mem _ h
  have hg : ∀ w ∈ gd, w.before _ s = true := fun w h => hts w (hgd w h)
  have hown : s.vm.findClass RX12 = some m.cls := findClass_of_methodNamed B.named
  have hlocks := B.notSynchronized
  subst hsz
  have hD := hD0.self (sz := s.heap.size)
  generalize hAe : va_A [] s.heap.size = A at hD ⊢
  have hA : ∀ q : Nat, s.heap.size ≤ q → A q := fun q h => by rw [← hAe]; exact Or.inr h
  have hS : va_S A s.heap s.heap [] := va_S.rf
  have hP : va_P D classes [] s.heap := hP
  have hl := lv_entry ([.int p0]) (n := 1) (Nat.le_of_ble_eq_true rfl)
  rw [lg_entry_eq]
  generalize (lg_sl ([.int p0]) ++ List.replicate (1 - (lg_sl ([.int p0])).length) Slot.unset).toArray = ls at hl ⊢
  have hl : lv_has ls 1 [(0, .int p0)] := hl
  refine lv_iload_n hx hb dX12_isBox_0 rfl (lv_at hl 0 rfl) ?_
  refine lv_if_lt (tgt := 13) hx hb dX12_isBox_1 (by decide) (fun c_1 => ?_) (fun c_1 => ?_)
  · have c_1 : (p0 : Int32) < 0 := c_1
    refine lv_iconst (v := 0) hx hb dX12_isBox_13 (by decide) ?_
    have hP9 := hP.sub (ws' := []) [] rfl
    have hD9 := hD.sub (ws' := []) [] (by decide) rfl
    exact W.zret (v := 0) hx hb hr (by decide) (fun t ht hW => ⟨⟨0, (), rfl, rfl, cB_of ht hP9 hD9⟩, hS.F ht⟩) hS.2.2 dX12_isBox_14
  · exact absurd h_lt0 c_1

set_option maxHeartbeats 4000000 in
set_option maxRecDepth 100000 in
theorem c_X12_isBox_b (l : Launch) (D : va_G) (k : ClassId × ClassId × ClassId × ClassId) (sz : Nat) (p0 : Int32) (h_nlt0 : ¬ (p0 < 0)) (h_ge3 : 3 ≤ p0) : Met l yX12_isBox (WS yX12_isBox cX12_isBox 1 (some .boolean)) ({ frames := 0, cells := 0, slots := 0, locals := 0 }) (va_Pc [.int p0] (cP D k [] sz)) (va_Qi (fun (r : Int32) (_ : Unit) => r = 0) (fun (_ : Unit) t => cB D (va_A [] sz) [] t) (va_A [] sz)) 0 0 (va_A [] sz) := by
  refine Met.ofW (cc := cX12_isBox) (maxL := 1) (ret := (some .boolean)) (by decide) rfl ?_
  intro p e s m args below meth c s₁ B hml hv
  obtain ⟨rfl, hsz, hP, hKX, hD0⟩ := hv
  have hK := hKX.1
  have hx := B.exec
  have hb := B.bytes
  have hr := B.returns
  have hts := atoms_spec (ws := WS yX12_isBox cX12_isBox 1 (some .boolean)) B.pre
  have hgd : ∀ w ∈ gd, w ∈ WS yX12_isBox cX12_isBox 1 (some .boolean) := fun w h => List.mem_cons_of_mem _ h
  have hg : ∀ w ∈ gd, w.before _ s = true := fun w h => hts w (hgd w h)
  have hown : s.vm.findClass RX12 = some m.cls := findClass_of_methodNamed B.named
  have hlocks := B.notSynchronized
  subst hsz
  have hD := hD0.self (sz := s.heap.size)
  generalize hAe : va_A [] s.heap.size = A at hD ⊢
  have hA : ∀ q : Nat, s.heap.size ≤ q → A q := fun q h => by rw [← hAe]; exact Or.inr h
  have hS : va_S A s.heap s.heap [] := va_S.rf
  have hP : va_P D classes [] s.heap := hP
  have hl := lv_entry ([.int p0]) (n := 1) (Nat.le_of_ble_eq_true rfl)
  rw [lg_entry_eq]
  generalize (lg_sl ([.int p0]) ++ List.replicate (1 - (lg_sl ([.int p0])).length) Slot.unset).toArray = ls at hl ⊢
  have hl : lv_has ls 1 [(0, .int p0)] := hl
  refine lv_iload_n hx hb dX12_isBox_0 rfl (lv_at hl 0 rfl) ?_
  refine lv_if_lt (tgt := 13) hx hb dX12_isBox_1 (by decide) (fun c_1 => ?_) (fun c_1 => ?_)
  · exact absurd c_1 h_nlt0
  · have c_1 : ¬ ((p0 : Int32) < 0) := c_1
    refine lv_iload_n hx hb dX12_isBox_4 rfl (lv_at hl 0 rfl) ?_
    refine lv_iconst (v := 3) hx hb dX12_isBox_5 (by decide) ?_
    refine lv_icmp_ge (tgt := 13) hx hb dX12_isBox_6 (by decide) (fun c_2 => ?_) (fun c_2 => ?_)
    · have c_2 : (3 : Int32) ≤ p0 := c_2
      refine lv_iconst (v := 0) hx hb dX12_isBox_13 (by decide) ?_
      have hP9 := hP.sub (ws' := []) [] rfl
      have hD9 := hD.sub (ws' := []) [] (by decide) rfl
      exact W.zret (v := 0) hx hb hr (by decide) (fun t ht hW => ⟨⟨0, (), rfl, rfl, cB_of ht hP9 hD9⟩, hS.F ht⟩) hS.2.2 dX12_isBox_14
    · exact absurd h_ge3 c_2

set_option maxHeartbeats 4000000 in
set_option maxRecDepth 100000 in
theorem c_X12_isBox_c (l : Launch) (D : va_G) (k : ClassId × ClassId × ClassId × ClassId) (sz : Nat) (p0 : Int32) (h_nlt0 : ¬ (p0 < 0)) (h_nge3 : ¬ (3 ≤ p0)) : Met l yX12_isBox (WS yX12_isBox cX12_isBox 1 (some .boolean)) ({ frames := 0, cells := 0, slots := 0, locals := 0 }) (va_Pc [.int p0] (cP D k [] sz)) (va_Qi (fun (r : Int32) (_ : Unit) => r = 1) (fun (_ : Unit) t => cB D (va_A [] sz) [] t) (va_A [] sz)) 0 0 (va_A [] sz) := by
  refine Met.ofW (cc := cX12_isBox) (maxL := 1) (ret := (some .boolean)) (by decide) rfl ?_
  intro p e s m args below meth c s₁ B hml hv
  obtain ⟨rfl, hsz, hP, hKX, hD0⟩ := hv
  have hK := hKX.1
  have hx := B.exec
  have hb := B.bytes
  have hr := B.returns
  have hts := atoms_spec (ws := WS yX12_isBox cX12_isBox 1 (some .boolean)) B.pre
  have hgd : ∀ w ∈ gd, w ∈ WS yX12_isBox cX12_isBox 1 (some .boolean) := fun w h => List.mem_cons_of_mem _ h
  have hg : ∀ w ∈ gd, w.before _ s = true := fun w h => hts w (hgd w h)
  have hown : s.vm.findClass RX12 = some m.cls := findClass_of_methodNamed B.named
  have hlocks := B.notSynchronized
  subst hsz
  have hD := hD0.self (sz := s.heap.size)
  generalize hAe : va_A [] s.heap.size = A at hD ⊢
  have hA : ∀ q : Nat, s.heap.size ≤ q → A q := fun q h => by rw [← hAe]; exact Or.inr h
  have hS : va_S A s.heap s.heap [] := va_S.rf
  have hP : va_P D classes [] s.heap := hP
  have hl := lv_entry ([.int p0]) (n := 1) (Nat.le_of_ble_eq_true rfl)
  rw [lg_entry_eq]
  generalize (lg_sl ([.int p0]) ++ List.replicate (1 - (lg_sl ([.int p0])).length) Slot.unset).toArray = ls at hl ⊢
  have hl : lv_has ls 1 [(0, .int p0)] := hl
  refine lv_iload_n hx hb dX12_isBox_0 rfl (lv_at hl 0 rfl) ?_
  refine lv_if_lt (tgt := 13) hx hb dX12_isBox_1 (by decide) (fun c_1 => ?_) (fun c_1 => ?_)
  · exact absurd c_1 h_nlt0
  · have c_1 : ¬ ((p0 : Int32) < 0) := c_1
    refine lv_iload_n hx hb dX12_isBox_4 rfl (lv_at hl 0 rfl) ?_
    refine lv_iconst (v := 3) hx hb dX12_isBox_5 (by decide) ?_
    refine lv_icmp_ge (tgt := 13) hx hb dX12_isBox_6 (by decide) (fun c_2 => ?_) (fun c_2 => ?_)
    · exact absurd c_2 h_nge3
    · have c_2 : ¬ ((3 : Int32) ≤ p0) := c_2
      refine lv_iconst (v := 1) hx hb dX12_isBox_9 (by decide) ?_
      refine lv_goto (tgt := 14) hx hb dX12_isBox_10 (by decide) ?_
      have hP9 := hP.sub (ws' := []) [] rfl
      have hD9 := hD.sub (ws' := []) [] (by decide) rfl
      exact W.zret (v := 1) hx hb hr (by decide) (fun t ht hW => ⟨⟨1, (), rfl, rfl, cB_of ht hP9 hD9⟩, hS.F ht⟩) hS.2.2 dX12_isBox_14

set_option maxHeartbeats 4000000 in
set_option maxRecDepth 100000 in
theorem c_X12_image_a (l : Launch) (D : va_G) (k : ClassId × ClassId × ClassId × ClassId) (sz : Nat) (h0 nw hbx bx : Nat) (M : List Value) (m4 : Nat → Int32) (m6 : Nat → Int32) (m7 : Nat → Int32) (p0 : Int32) (g_M_now : M[76]? = some (.ref nw)) (g_M_hasBox : M[87]? = some (.ref hbx)) (g_M_boxes : M[88]? = some (.ref bx)) (g_m4__6 : m4 6 = 0) (g_m6_all : ∀ j, m6 j = 0) (h_lt0 : p0 < 0) : Met l yX12_image (WS yX12_image cX12_image 3 (some .int)) ({ frames := 1, cells := 0, slots := 0, locals := 20 }) (va_Pc [.ref h0, .int p0] (cP D k [(h0, .inr (12, M)), (nw, .inl (k.2.1, 16, .inl m4)), (hbx, .inl (k.2.2.2, 3, .inl m6)), (bx, .inl (k.2.1, 48, .inl m7))] sz)) (va_Qi (fun (r : Int32) (_ : Unit) => r = (-1)) (fun (_ : Unit) t => cB D (va_A [(h0, .inr (12, M)), (nw, .inl (k.2.1, 16, .inl m4)), (hbx, .inl (k.2.2.2, 3, .inl m6)), (bx, .inl (k.2.1, 48, .inl m7))] sz) [] t) (va_A [(h0, .inr (12, M)), (nw, .inl (k.2.1, 16, .inl m4)), (hbx, .inl (k.2.2.2, 3, .inl m6)), (bx, .inl (k.2.1, 48, .inl m7))] sz)) 0 0 (va_A [(h0, .inr (12, M)), (nw, .inl (k.2.1, 16, .inl m4)), (hbx, .inl (k.2.2.2, 3, .inl m6)), (bx, .inl (k.2.1, 48, .inl m7))] sz) := by
  refine Met.ofW (cc := cX12_image) (maxL := 3) (ret := (some .int)) (by decide) rfl ?_
  intro p e s m args below meth c s₁ B hml hv
  obtain ⟨rfl, hsz, hP, hKX, hD0⟩ := hv
  have hK := hKX.1
  have hx := B.exec
  have hb := B.bytes
  have hr := B.returns
  have hts := atoms_spec (ws := WS yX12_image cX12_image 3 (some .int)) B.pre
  have hgd : ∀ w ∈ gd, w ∈ WS yX12_image cX12_image 3 (some .int) := fun w h => List.mem_cons_of_mem _ h
  have hg : ∀ w ∈ gd, w.before _ s = true := fun w h => hts w (hgd w h)
  have hown : s.vm.findClass RX12 = some m.cls := findClass_of_methodNamed B.named
  have hlocks := B.notSynchronized
  subst hsz
  have hD := hD0.self (sz := s.heap.size)
  generalize hAe : va_A [(h0, .inr (12, M)), (nw, .inl (k.2.1, 16, .inl m4)), (hbx, .inl (k.2.2.2, 3, .inl m6)), (bx, .inl (k.2.1, 48, .inl m7))] s.heap.size = A at hD ⊢
  have hA : ∀ q : Nat, s.heap.size ≤ q → A q := fun q h => by rw [← hAe]; exact Or.inr h
  have hS : va_S A s.heap s.heap [] := va_S.rf
  have hP : va_P D classes [(h0, .inr (12, M)), (nw, .inl (k.2.1, 16, .inl m4)), (hbx, .inl (k.2.2.2, 3, .inl m6)), (bx, .inl (k.2.1, 48, .inl m7))] s.heap := hP
  have hl := lv_entry ([.ref h0, .int p0]) (n := 3) (Nat.le_of_ble_eq_true rfl)
  rw [lg_entry_eq]
  generalize (lg_sl ([.ref h0, .int p0]) ++ List.replicate (3 - (lg_sl ([.ref h0, .int p0])).length) Slot.unset).toArray = ls at hl ⊢
  have hl : lv_has ls 3 [(0, .ref h0), (1, .int p0)] := hl
  refine lv_iload_n hx hb dX12_image_0 rfl (lv_at hl 1 rfl) ?_
  have hPc := hP.sub (ws' := []) [] rfl
  have hDc := hD.sub (ws' := []) [] (by decide) rfl
  have hFc := va_free (wc := []) hD hS hA [] rfl
  refine va_calli (va_runS (As := [.int p0]) (rest := []) ⟨hx, hb, hml, hown, hts⟩ (c_X12_isBox_a l D k s.heap.size p0 h_lt0) (va_cwS 1 hts (gd_S hgd m2070 m2071 m131 m2072) rfl rfl rfl (by decide +kernel) ⟨Nat.le_of_ble_eq_true rfl, Nat.le_of_ble_eq_true rfl⟩) (cP_S hPc hKX hDc) rfl rfl hl.1 rfl (lv_room (Nat.le_of_ble_eq_true rfl)) dX12_image_1 ⟨Nat.le_of_ble_eq_true rfl, Nat.le_of_ble_eq_true rfl⟩) hS (fun q _ h => hFc q h) hFc (fun r_1 u t H1 locs ht hvm hw hB hz1 hk1 hS => ?_)
  obtain ⟨hP1, hD1⟩ := hB
  rw [ht] at hP1
  obtain ⟨hP, hD⟩ := va_join (wr := [(h0, .inr (12, M)), (nw, .inl (k.2.1, 16, .inl m4)), (hbx, .inl (k.2.2.2, 3, .inl m6)), (bx, .inl (k.2.1, 48, .inl m7))]) (w1 := []) hP hD [] [0, 1, 2, 3] rfl rfl (by decide) (by decide) hk1 hFc hP1 hD1
  generalize H1 = H at hP hS ⊢
  have hP : va_P D classes [(h0, .inr (12, M)), (nw, .inl (k.2.1, 16, .inl m4)), (hbx, .inl (k.2.2.2, 3, .inl m6)), (bx, .inl (k.2.1, 48, .inl m7))] H := hP
  have hD : va_D A [(h0, .inr (12, M)), (nw, .inl (k.2.1, 16, .inl m4)), (hbx, .inl (k.2.2.2, 3, .inl m6)), (bx, .inl (k.2.1, 48, .inl m7))] := hD
  refine W.widen (k := 0) (n := 0) (Nat.le_of_ble_eq_true rfl) (Nat.le_of_ble_eq_true rfl) ?_
  subst hw
  refine lv_if_ne (tgt := 9) hx hb dX12_image_4 (by decide) (fun c_2 => ?_) (fun c_2 => ?_)
  · exact absurd (by decide) c_2
  · have c_2 : (0 : Int32) = 0 := c_2
    refine lv_iconst (v := (-1)) hx hb dX12_image_7 (by decide) ?_
    have hP9 := hP.sub (ws' := []) [] rfl
    have hD9 := hD.sub (ws' := []) [] (by decide) rfl
    exact W.iret (v := (-1)) hx hb hr (fun t ht hW => ⟨⟨(-1), (), rfl, rfl, cB_of ht hP9 hD9⟩, hS.F ht⟩) hS.2.2 dX12_image_8

set_option maxHeartbeats 4000000 in
set_option maxRecDepth 100000 in
theorem c_X12_image_b (l : Launch) (D : va_G) (k : ClassId × ClassId × ClassId × ClassId) (sz : Nat) (h0 nw hbx bx : Nat) (M : List Value) (m4 : Nat → Int32) (m6 : Nat → Int32) (m7 : Nat → Int32) (p0 : Int32) (g_M_now : M[76]? = some (.ref nw)) (g_M_hasBox : M[87]? = some (.ref hbx)) (g_M_boxes : M[88]? = some (.ref bx)) (g_m4__6 : m4 6 = 0) (g_m6_all : ∀ j, m6 j = 0) (h_nlt0 : ¬ (p0 < 0)) (h_ge3 : 3 ≤ p0) : Met l yX12_image (WS yX12_image cX12_image 3 (some .int)) ({ frames := 1, cells := 0, slots := 0, locals := 20 }) (va_Pc [.ref h0, .int p0] (cP D k [(h0, .inr (12, M)), (nw, .inl (k.2.1, 16, .inl m4)), (hbx, .inl (k.2.2.2, 3, .inl m6)), (bx, .inl (k.2.1, 48, .inl m7))] sz)) (va_Qi (fun (r : Int32) (_ : Unit) => r = (-1)) (fun (_ : Unit) t => cB D (va_A [(h0, .inr (12, M)), (nw, .inl (k.2.1, 16, .inl m4)), (hbx, .inl (k.2.2.2, 3, .inl m6)), (bx, .inl (k.2.1, 48, .inl m7))] sz) [] t) (va_A [(h0, .inr (12, M)), (nw, .inl (k.2.1, 16, .inl m4)), (hbx, .inl (k.2.2.2, 3, .inl m6)), (bx, .inl (k.2.1, 48, .inl m7))] sz)) 0 0 (va_A [(h0, .inr (12, M)), (nw, .inl (k.2.1, 16, .inl m4)), (hbx, .inl (k.2.2.2, 3, .inl m6)), (bx, .inl (k.2.1, 48, .inl m7))] sz) := by
  refine Met.ofW (cc := cX12_image) (maxL := 3) (ret := (some .int)) (by decide) rfl ?_
  intro p e s m args below meth c s₁ B hml hv
  obtain ⟨rfl, hsz, hP, hKX, hD0⟩ := hv
  have hK := hKX.1
  have hx := B.exec
  have hb := B.bytes
  have hr := B.returns
  have hts := atoms_spec (ws := WS yX12_image cX12_image 3 (some .int)) B.pre
  have hgd : ∀ w ∈ gd, w ∈ WS yX12_image cX12_image 3 (some .int) := fun w h => List.mem_cons_of_mem _ h
  have hg : ∀ w ∈ gd, w.before _ s = true := fun w h => hts w (hgd w h)
  have hown : s.vm.findClass RX12 = some m.cls := findClass_of_methodNamed B.named
  have hlocks := B.notSynchronized
  subst hsz
  have hD := hD0.self (sz := s.heap.size)
  generalize hAe : va_A [(h0, .inr (12, M)), (nw, .inl (k.2.1, 16, .inl m4)), (hbx, .inl (k.2.2.2, 3, .inl m6)), (bx, .inl (k.2.1, 48, .inl m7))] s.heap.size = A at hD ⊢
  have hA : ∀ q : Nat, s.heap.size ≤ q → A q := fun q h => by rw [← hAe]; exact Or.inr h
  have hS : va_S A s.heap s.heap [] := va_S.rf
  have hP : va_P D classes [(h0, .inr (12, M)), (nw, .inl (k.2.1, 16, .inl m4)), (hbx, .inl (k.2.2.2, 3, .inl m6)), (bx, .inl (k.2.1, 48, .inl m7))] s.heap := hP
  have hl := lv_entry ([.ref h0, .int p0]) (n := 3) (Nat.le_of_ble_eq_true rfl)
  rw [lg_entry_eq]
  generalize (lg_sl ([.ref h0, .int p0]) ++ List.replicate (3 - (lg_sl ([.ref h0, .int p0])).length) Slot.unset).toArray = ls at hl ⊢
  have hl : lv_has ls 3 [(0, .ref h0), (1, .int p0)] := hl
  refine lv_iload_n hx hb dX12_image_0 rfl (lv_at hl 1 rfl) ?_
  have hPc := hP.sub (ws' := []) [] rfl
  have hDc := hD.sub (ws' := []) [] (by decide) rfl
  have hFc := va_free (wc := []) hD hS hA [] rfl
  refine va_calli (va_runS (As := [.int p0]) (rest := []) ⟨hx, hb, hml, hown, hts⟩ (c_X12_isBox_b l D k s.heap.size p0 h_nlt0 h_ge3) (va_cwS 1 hts (gd_S hgd m2070 m2071 m131 m2072) rfl rfl rfl (by decide +kernel) ⟨Nat.le_of_ble_eq_true rfl, Nat.le_of_ble_eq_true rfl⟩) (cP_S hPc hKX hDc) rfl rfl hl.1 rfl (lv_room (Nat.le_of_ble_eq_true rfl)) dX12_image_1 ⟨Nat.le_of_ble_eq_true rfl, Nat.le_of_ble_eq_true rfl⟩) hS (fun q _ h => hFc q h) hFc (fun r_1 u t H1 locs ht hvm hw hB hz1 hk1 hS => ?_)
  obtain ⟨hP1, hD1⟩ := hB
  rw [ht] at hP1
  obtain ⟨hP, hD⟩ := va_join (wr := [(h0, .inr (12, M)), (nw, .inl (k.2.1, 16, .inl m4)), (hbx, .inl (k.2.2.2, 3, .inl m6)), (bx, .inl (k.2.1, 48, .inl m7))]) (w1 := []) hP hD [] [0, 1, 2, 3] rfl rfl (by decide) (by decide) hk1 hFc hP1 hD1
  generalize H1 = H at hP hS ⊢
  have hP : va_P D classes [(h0, .inr (12, M)), (nw, .inl (k.2.1, 16, .inl m4)), (hbx, .inl (k.2.2.2, 3, .inl m6)), (bx, .inl (k.2.1, 48, .inl m7))] H := hP
  have hD : va_D A [(h0, .inr (12, M)), (nw, .inl (k.2.1, 16, .inl m4)), (hbx, .inl (k.2.2.2, 3, .inl m6)), (bx, .inl (k.2.1, 48, .inl m7))] := hD
  refine W.widen (k := 0) (n := 0) (Nat.le_of_ble_eq_true rfl) (Nat.le_of_ble_eq_true rfl) ?_
  subst hw
  refine lv_if_ne (tgt := 9) hx hb dX12_image_4 (by decide) (fun c_2 => ?_) (fun c_2 => ?_)
  · exact absurd (by decide) c_2
  · have c_2 : (0 : Int32) = 0 := c_2
    refine lv_iconst (v := (-1)) hx hb dX12_image_7 (by decide) ?_
    have hP9 := hP.sub (ws' := []) [] rfl
    have hD9 := hD.sub (ws' := []) [] (by decide) rfl
    exact W.iret (v := (-1)) hx hb hr (fun t ht hW => ⟨⟨(-1), (), rfl, rfl, cB_of ht hP9 hD9⟩, hS.F ht⟩) hS.2.2 dX12_image_8

set_option maxHeartbeats 4000000 in
set_option maxRecDepth 100000 in
theorem c_X12_image_c (l : Launch) (D : va_G) (k : ClassId × ClassId × ClassId × ClassId) (sz : Nat) (h0 nw hbx bx : Nat) (M : List Value) (m4 : Nat → Int32) (m6 : Nat → Int32) (m7 : Nat → Int32) (p0 : Int32) (g_M_now : M[76]? = some (.ref nw)) (g_M_hasBox : M[87]? = some (.ref hbx)) (g_M_boxes : M[88]? = some (.ref bx)) (g_m4__6 : m4 6 = 0) (g_m6_all : ∀ j, m6 j = 0) (h_nlt0 : ¬ (p0 < 0)) (h_nge3 : ¬ (3 ≤ p0)) : Met l yX12_image (WS yX12_image cX12_image 3 (some .int)) ({ frames := 1, cells := 0, slots := 0, locals := 20 }) (va_Pc [.ref h0, .int p0] (cP D k [(h0, .inr (12, M)), (nw, .inl (k.2.1, 16, .inl m4)), (hbx, .inl (k.2.2.2, 3, .inl m6)), (bx, .inl (k.2.1, 48, .inl m7))] sz)) (va_Qi (fun (r : Int32) (_ : Unit) => r = 0) (fun (_ : Unit) t => cB D (va_A [(h0, .inr (12, M)), (nw, .inl (k.2.1, 16, .inl m4)), (hbx, .inl (k.2.2.2, 3, .inl m6)), (bx, .inl (k.2.1, 48, .inl m7))] sz) [] t) (va_A [(h0, .inr (12, M)), (nw, .inl (k.2.1, 16, .inl m4)), (hbx, .inl (k.2.2.2, 3, .inl m6)), (bx, .inl (k.2.1, 48, .inl m7))] sz)) 0 0 (va_A [(h0, .inr (12, M)), (nw, .inl (k.2.1, 16, .inl m4)), (hbx, .inl (k.2.2.2, 3, .inl m6)), (bx, .inl (k.2.1, 48, .inl m7))] sz) := by
  refine Met.ofW (cc := cX12_image) (maxL := 3) (ret := (some .int)) (by decide) rfl ?_
  intro p e s m args below meth c s₁ B hml hv
  obtain ⟨rfl, hsz, hP, hKX, hD0⟩ := hv
  have hK := hKX.1
  have hx := B.exec
  have hb := B.bytes
  have hr := B.returns
  have hts := atoms_spec (ws := WS yX12_image cX12_image 3 (some .int)) B.pre
  have hgd : ∀ w ∈ gd, w ∈ WS yX12_image cX12_image 3 (some .int) := fun w h => List.mem_cons_of_mem _ h
  have hg : ∀ w ∈ gd, w.before _ s = true := fun w h => hts w (hgd w h)
  have hown : s.vm.findClass RX12 = some m.cls := findClass_of_methodNamed B.named
  have hlocks := B.notSynchronized
  subst hsz
  have hD := hD0.self (sz := s.heap.size)
  generalize hAe : va_A [(h0, .inr (12, M)), (nw, .inl (k.2.1, 16, .inl m4)), (hbx, .inl (k.2.2.2, 3, .inl m6)), (bx, .inl (k.2.1, 48, .inl m7))] s.heap.size = A at hD ⊢
  have hA : ∀ q : Nat, s.heap.size ≤ q → A q := fun q h => by rw [← hAe]; exact Or.inr h
  have hS : va_S A s.heap s.heap [] := va_S.rf
  have hP : va_P D classes [(h0, .inr (12, M)), (nw, .inl (k.2.1, 16, .inl m4)), (hbx, .inl (k.2.2.2, 3, .inl m6)), (bx, .inl (k.2.1, 48, .inl m7))] s.heap := hP
  have hl := lv_entry ([.ref h0, .int p0]) (n := 3) (Nat.le_of_ble_eq_true rfl)
  rw [lg_entry_eq]
  generalize (lg_sl ([.ref h0, .int p0]) ++ List.replicate (3 - (lg_sl ([.ref h0, .int p0])).length) Slot.unset).toArray = ls at hl ⊢
  have hl : lv_has ls 3 [(0, .ref h0), (1, .int p0)] := hl
  refine lv_iload_n hx hb dX12_image_0 rfl (lv_at hl 1 rfl) ?_
  have hPc := hP.sub (ws' := []) [] rfl
  have hDc := hD.sub (ws' := []) [] (by decide) rfl
  have hFc := va_free (wc := []) hD hS hA [] rfl
  refine va_calli (va_runS (As := [.int p0]) (rest := []) ⟨hx, hb, hml, hown, hts⟩ (c_X12_isBox_c l D k s.heap.size p0 h_nlt0 h_nge3) (va_cwS 1 hts (gd_S hgd m2070 m2071 m131 m2072) rfl rfl rfl (by decide +kernel) ⟨Nat.le_of_ble_eq_true rfl, Nat.le_of_ble_eq_true rfl⟩) (cP_S hPc hKX hDc) rfl rfl hl.1 rfl (lv_room (Nat.le_of_ble_eq_true rfl)) dX12_image_1 ⟨Nat.le_of_ble_eq_true rfl, Nat.le_of_ble_eq_true rfl⟩) hS (fun q _ h => hFc q h) hFc (fun r_1 u t H1 locs ht hvm hw hB hz1 hk1 hS => ?_)
  obtain ⟨hP1, hD1⟩ := hB
  rw [ht] at hP1
  obtain ⟨hP, hD⟩ := va_join (wr := [(h0, .inr (12, M)), (nw, .inl (k.2.1, 16, .inl m4)), (hbx, .inl (k.2.2.2, 3, .inl m6)), (bx, .inl (k.2.1, 48, .inl m7))]) (w1 := []) hP hD [] [0, 1, 2, 3] rfl rfl (by decide) (by decide) hk1 hFc hP1 hD1
  generalize H1 = H at hP hS ⊢
  have hP : va_P D classes [(h0, .inr (12, M)), (nw, .inl (k.2.1, 16, .inl m4)), (hbx, .inl (k.2.2.2, 3, .inl m6)), (bx, .inl (k.2.1, 48, .inl m7))] H := hP
  have hD : va_D A [(h0, .inr (12, M)), (nw, .inl (k.2.1, 16, .inl m4)), (hbx, .inl (k.2.2.2, 3, .inl m6)), (bx, .inl (k.2.1, 48, .inl m7))] := hD
  refine W.widen (k := 0) (n := 0) (Nat.le_of_ble_eq_true rfl) (Nat.le_of_ble_eq_true rfl) ?_
  subst hw
  refine lv_if_ne (tgt := 9) hx hb dX12_image_4 (by decide) (fun c_2 => ?_) (fun c_2 => ?_)
  · have c_2 : ¬ ((1 : Int32) = 0) := c_2
    refine lv_aload_n hx hb dX12_image_9 rfl (lv_at hl 0 rfl) ?_
    refine va_get (D := D) (ci := 12) (v := .ref hbx) (C := RX12) (T := TX12) (N := 89) hx hb hg iX12 hown hK hP 0 rfl rfl 87 (by decide) (hg (Cond.fieldLink RX12 172 "SlabWalkModel" "hasBox" "[Z") m1401) (fun _ h9 => h9) g_M_hasBox dX12_image_10 ?_
    refine lv_iload_n hx hb dX12_image_13 rfl (lv_at hl 1 rfl) ?_
    refine lv_iconst (v := 1) hx hb dX12_image_14 (by decide) ?_
    refine va_zast hx hb hK hP hD hS 2 3 rfl rfl (by rcases bx_j h_nlt0 h_nge3 with h | h | h <;> rw [h] <;> exact (show ¬ (_ ∨ _) from by decide +kernel)) dX12_image_15 (fun H locs hP hD hS => ?_)
    have hP : va_P D classes [(h0, .inr (12, M)), (nw, .inl (k.2.1, 16, .inl m4)), (hbx, .inl (k.2.2.2, 3, .inl (upd m6 p0.toNatClampNeg (vp_nar .boolean 1)))), (bx, .inl (k.2.1, 48, .inl m7))] H := hP
    have hD : va_D A [(h0, .inr (12, M)), (nw, .inl (k.2.1, 16, .inl m4)), (hbx, .inl (k.2.2.2, 3, .inl (upd m6 p0.toNatClampNeg (vp_nar .boolean 1)))), (bx, .inl (k.2.1, 48, .inl m7))] := hD
    generalize (upd m6 p0.toNatClampNeg (vp_nar .boolean 1)) = f_3 at hP hD
    refine lv_iconst (v := 0) hx hb dX12_image_16 (by decide) ?_
    refine lv_istore_n (lv' := [(2, .int 0), (0, .ref h0), (1, .int p0)]) hx hb dX12_image_17 rfl hl (by decide) rfl (fun ls hl => ?_)
    refine lv_iload_n hx hb dX12_image_18 rfl (lv_at hl 0 rfl) ?_
    refine lv_bipush (v := 10) hx hb dX12_image_19 (by decide) ?_
    refine lv_icmp_ge (tgt := 47) hx hb dX12_image_21 (by decide) (fun c_4 => ?_) (fun c_4 => ?_)
    · exact absurd c_4 (by decide)
    · have c_4 : ¬ ((10 : Int32) ≤ 0) := c_4
      refine lv_aload_n hx hb dX12_image_24 rfl (lv_at hl 1 rfl) ?_
      refine va_get (D := D) (ci := 12) (v := .ref bx) (C := RX12) (T := TX12) (N := 89) hx hb hg iX12 hown hK hP 0 rfl rfl 88 (by decide) (hg (Cond.fieldLink RX12 175 "SlabWalkModel" "boxes" "[I") m1402) (fun _ h9 => h9) g_M_boxes dX12_image_25 ?_
      refine lv_bipush (v := 16) hx hb dX12_image_28 (by decide) ?_
      refine lv_iload_n hx hb dX12_image_30 rfl (lv_at hl 2 rfl) ?_
      refine lv_imul hx hb dX12_image_31 ?_
      refine lv_iload_n hx hb dX12_image_32 rfl (lv_at hl 0 rfl) ?_
      refine lv_iadd hx hb dX12_image_33 ?_
      refine lv_aload_n hx hb dX12_image_34 rfl (lv_at hl 1 rfl) ?_
      refine va_get (D := D) (ci := 12) (v := .ref nw) (C := RX12) (T := TX12) (N := 89) hx hb hg iX12 hown hK hP 0 rfl rfl 76 (by decide) (hg (Cond.fieldLink RX12 151 "SlabWalkModel" "now" "[I") m1390) (fun _ h9 => h9) g_M_now dX12_image_35 ?_
      refine lv_iload_n hx hb dX12_image_38 rfl (lv_at hl 0 rfl) ?_
      refine va_iald hx hb hK hP 1 1 rfl rfl (show ¬ ((0 : Int32) < 0 ∨ 16 ≤ (0 : Int32).toNatClampNeg) from by decide +kernel) dX12_image_39 ?_
      refine lv_topi (fun y_5 ey_5 => ?_)
      refine va_iast hx hb hK hP hD hS 3 1 rfl rfl (by rcases bx_j h_nlt0 h_nge3 with h | h | h <;> rw [h] <;> exact (show ¬ (_ ∨ _) from by decide +kernel)) dX12_image_40 (fun H locs hP hD hS => ?_)
      have hP : va_P D classes [(h0, .inr (12, M)), (nw, .inl (k.2.1, 16, .inl m4)), (hbx, .inl (k.2.2.2, 3, .inl f_3)), (bx, .inl (k.2.1, 48, .inl (upd m7 (((16 : Int32) * p0) + 0).toNatClampNeg y_5)))] H := hP
      have hD : va_D A [(h0, .inr (12, M)), (nw, .inl (k.2.1, 16, .inl m4)), (hbx, .inl (k.2.2.2, 3, .inl f_3)), (bx, .inl (k.2.1, 48, .inl (upd m7 (((16 : Int32) * p0) + 0).toNatClampNeg y_5)))] := hD
      generalize (upd m7 (((16 : Int32) * p0) + 0).toNatClampNeg y_5) = f_6 at hP hD
      refine lv_iinc (v := 1) (lv' := [(2, .int 1), (0, .ref h0), (1, .int p0)]) hx hb dX12_image_41 hl (k := 0) rfl (by decide) (by decide) rfl (fun ls hl => ?_)
      refine lv_goto (tgt := 18) hx hb dX12_image_44 (by decide) ?_
      refine lv_iload_n hx hb dX12_image_18 rfl (lv_at hl 0 rfl) ?_
      refine lv_bipush (v := 10) hx hb dX12_image_19 (by decide) ?_
      refine lv_icmp_ge (tgt := 47) hx hb dX12_image_21 (by decide) (fun c_7 => ?_) (fun c_7 => ?_)
      · exact absurd c_7 (by decide)
      · have c_7 : ¬ ((10 : Int32) ≤ 1) := c_7
        refine lv_aload_n hx hb dX12_image_24 rfl (lv_at hl 1 rfl) ?_
        refine va_get (D := D) (ci := 12) (v := .ref bx) (C := RX12) (T := TX12) (N := 89) hx hb hg iX12 hown hK hP 0 rfl rfl 88 (by decide) (hg (Cond.fieldLink RX12 175 "SlabWalkModel" "boxes" "[I") m1402) (fun _ h9 => h9) g_M_boxes dX12_image_25 ?_
        refine lv_bipush (v := 16) hx hb dX12_image_28 (by decide) ?_
        refine lv_iload_n hx hb dX12_image_30 rfl (lv_at hl 2 rfl) ?_
        refine lv_imul hx hb dX12_image_31 ?_
        refine lv_iload_n hx hb dX12_image_32 rfl (lv_at hl 0 rfl) ?_
        refine lv_iadd hx hb dX12_image_33 ?_
        refine lv_aload_n hx hb dX12_image_34 rfl (lv_at hl 1 rfl) ?_
        refine va_get (D := D) (ci := 12) (v := .ref nw) (C := RX12) (T := TX12) (N := 89) hx hb hg iX12 hown hK hP 0 rfl rfl 76 (by decide) (hg (Cond.fieldLink RX12 151 "SlabWalkModel" "now" "[I") m1390) (fun _ h9 => h9) g_M_now dX12_image_35 ?_
        refine lv_iload_n hx hb dX12_image_38 rfl (lv_at hl 0 rfl) ?_
        refine va_iald hx hb hK hP 1 1 rfl rfl (show ¬ ((1 : Int32) < 0 ∨ 16 ≤ (1 : Int32).toNatClampNeg) from by decide +kernel) dX12_image_39 ?_
        refine lv_topi (fun y_8 ey_8 => ?_)
        refine va_iast hx hb hK hP hD hS 3 1 rfl rfl (by rcases bx_j h_nlt0 h_nge3 with h | h | h <;> rw [h] <;> exact (show ¬ (_ ∨ _) from by decide +kernel)) dX12_image_40 (fun H locs hP hD hS => ?_)
        have hP : va_P D classes [(h0, .inr (12, M)), (nw, .inl (k.2.1, 16, .inl m4)), (hbx, .inl (k.2.2.2, 3, .inl f_3)), (bx, .inl (k.2.1, 48, .inl (upd f_6 (((16 : Int32) * p0) + 1).toNatClampNeg y_8)))] H := hP
        have hD : va_D A [(h0, .inr (12, M)), (nw, .inl (k.2.1, 16, .inl m4)), (hbx, .inl (k.2.2.2, 3, .inl f_3)), (bx, .inl (k.2.1, 48, .inl (upd f_6 (((16 : Int32) * p0) + 1).toNatClampNeg y_8)))] := hD
        generalize (upd f_6 (((16 : Int32) * p0) + 1).toNatClampNeg y_8) = f_9 at hP hD
        refine lv_iinc (v := 2) (lv' := [(2, .int 2), (0, .ref h0), (1, .int p0)]) hx hb dX12_image_41 hl (k := 0) rfl (by decide) (by decide) rfl (fun ls hl => ?_)
        refine lv_goto (tgt := 18) hx hb dX12_image_44 (by decide) ?_
        refine lv_iload_n hx hb dX12_image_18 rfl (lv_at hl 0 rfl) ?_
        refine lv_bipush (v := 10) hx hb dX12_image_19 (by decide) ?_
        refine lv_icmp_ge (tgt := 47) hx hb dX12_image_21 (by decide) (fun c_10 => ?_) (fun c_10 => ?_)
        · exact absurd c_10 (by decide)
        · have c_10 : ¬ ((10 : Int32) ≤ 2) := c_10
          refine lv_aload_n hx hb dX12_image_24 rfl (lv_at hl 1 rfl) ?_
          refine va_get (D := D) (ci := 12) (v := .ref bx) (C := RX12) (T := TX12) (N := 89) hx hb hg iX12 hown hK hP 0 rfl rfl 88 (by decide) (hg (Cond.fieldLink RX12 175 "SlabWalkModel" "boxes" "[I") m1402) (fun _ h9 => h9) g_M_boxes dX12_image_25 ?_
          refine lv_bipush (v := 16) hx hb dX12_image_28 (by decide) ?_
          refine lv_iload_n hx hb dX12_image_30 rfl (lv_at hl 2 rfl) ?_
          refine lv_imul hx hb dX12_image_31 ?_
          refine lv_iload_n hx hb dX12_image_32 rfl (lv_at hl 0 rfl) ?_
          refine lv_iadd hx hb dX12_image_33 ?_
          refine lv_aload_n hx hb dX12_image_34 rfl (lv_at hl 1 rfl) ?_
          refine va_get (D := D) (ci := 12) (v := .ref nw) (C := RX12) (T := TX12) (N := 89) hx hb hg iX12 hown hK hP 0 rfl rfl 76 (by decide) (hg (Cond.fieldLink RX12 151 "SlabWalkModel" "now" "[I") m1390) (fun _ h9 => h9) g_M_now dX12_image_35 ?_
          refine lv_iload_n hx hb dX12_image_38 rfl (lv_at hl 0 rfl) ?_
          refine va_iald hx hb hK hP 1 1 rfl rfl (show ¬ ((2 : Int32) < 0 ∨ 16 ≤ (2 : Int32).toNatClampNeg) from by decide +kernel) dX12_image_39 ?_
          refine lv_topi (fun y_11 ey_11 => ?_)
          refine va_iast hx hb hK hP hD hS 3 1 rfl rfl (by rcases bx_j h_nlt0 h_nge3 with h | h | h <;> rw [h] <;> exact (show ¬ (_ ∨ _) from by decide +kernel)) dX12_image_40 (fun H locs hP hD hS => ?_)
          have hP : va_P D classes [(h0, .inr (12, M)), (nw, .inl (k.2.1, 16, .inl m4)), (hbx, .inl (k.2.2.2, 3, .inl f_3)), (bx, .inl (k.2.1, 48, .inl (upd f_9 (((16 : Int32) * p0) + 2).toNatClampNeg y_11)))] H := hP
          have hD : va_D A [(h0, .inr (12, M)), (nw, .inl (k.2.1, 16, .inl m4)), (hbx, .inl (k.2.2.2, 3, .inl f_3)), (bx, .inl (k.2.1, 48, .inl (upd f_9 (((16 : Int32) * p0) + 2).toNatClampNeg y_11)))] := hD
          generalize (upd f_9 (((16 : Int32) * p0) + 2).toNatClampNeg y_11) = f_12 at hP hD
          refine lv_iinc (v := 3) (lv' := [(2, .int 3), (0, .ref h0), (1, .int p0)]) hx hb dX12_image_41 hl (k := 0) rfl (by decide) (by decide) rfl (fun ls hl => ?_)
          refine lv_goto (tgt := 18) hx hb dX12_image_44 (by decide) ?_
          refine lv_iload_n hx hb dX12_image_18 rfl (lv_at hl 0 rfl) ?_
          refine lv_bipush (v := 10) hx hb dX12_image_19 (by decide) ?_
          refine lv_icmp_ge (tgt := 47) hx hb dX12_image_21 (by decide) (fun c_13 => ?_) (fun c_13 => ?_)
          · exact absurd c_13 (by decide)
          · have c_13 : ¬ ((10 : Int32) ≤ 3) := c_13
            refine lv_aload_n hx hb dX12_image_24 rfl (lv_at hl 1 rfl) ?_
            refine va_get (D := D) (ci := 12) (v := .ref bx) (C := RX12) (T := TX12) (N := 89) hx hb hg iX12 hown hK hP 0 rfl rfl 88 (by decide) (hg (Cond.fieldLink RX12 175 "SlabWalkModel" "boxes" "[I") m1402) (fun _ h9 => h9) g_M_boxes dX12_image_25 ?_
            refine lv_bipush (v := 16) hx hb dX12_image_28 (by decide) ?_
            refine lv_iload_n hx hb dX12_image_30 rfl (lv_at hl 2 rfl) ?_
            refine lv_imul hx hb dX12_image_31 ?_
            refine lv_iload_n hx hb dX12_image_32 rfl (lv_at hl 0 rfl) ?_
            refine lv_iadd hx hb dX12_image_33 ?_
            refine lv_aload_n hx hb dX12_image_34 rfl (lv_at hl 1 rfl) ?_
            refine va_get (D := D) (ci := 12) (v := .ref nw) (C := RX12) (T := TX12) (N := 89) hx hb hg iX12 hown hK hP 0 rfl rfl 76 (by decide) (hg (Cond.fieldLink RX12 151 "SlabWalkModel" "now" "[I") m1390) (fun _ h9 => h9) g_M_now dX12_image_35 ?_
            refine lv_iload_n hx hb dX12_image_38 rfl (lv_at hl 0 rfl) ?_
            refine va_iald hx hb hK hP 1 1 rfl rfl (show ¬ ((3 : Int32) < 0 ∨ 16 ≤ (3 : Int32).toNatClampNeg) from by decide +kernel) dX12_image_39 ?_
            refine lv_topi (fun y_14 ey_14 => ?_)
            refine va_iast hx hb hK hP hD hS 3 1 rfl rfl (by rcases bx_j h_nlt0 h_nge3 with h | h | h <;> rw [h] <;> exact (show ¬ (_ ∨ _) from by decide +kernel)) dX12_image_40 (fun H locs hP hD hS => ?_)
            have hP : va_P D classes [(h0, .inr (12, M)), (nw, .inl (k.2.1, 16, .inl m4)), (hbx, .inl (k.2.2.2, 3, .inl f_3)), (bx, .inl (k.2.1, 48, .inl (upd f_12 (((16 : Int32) * p0) + 3).toNatClampNeg y_14)))] H := hP
            have hD : va_D A [(h0, .inr (12, M)), (nw, .inl (k.2.1, 16, .inl m4)), (hbx, .inl (k.2.2.2, 3, .inl f_3)), (bx, .inl (k.2.1, 48, .inl (upd f_12 (((16 : Int32) * p0) + 3).toNatClampNeg y_14)))] := hD
            generalize (upd f_12 (((16 : Int32) * p0) + 3).toNatClampNeg y_14) = f_15 at hP hD
            refine lv_iinc (v := 4) (lv' := [(2, .int 4), (0, .ref h0), (1, .int p0)]) hx hb dX12_image_41 hl (k := 0) rfl (by decide) (by decide) rfl (fun ls hl => ?_)
            refine lv_goto (tgt := 18) hx hb dX12_image_44 (by decide) ?_
            refine lv_iload_n hx hb dX12_image_18 rfl (lv_at hl 0 rfl) ?_
            refine lv_bipush (v := 10) hx hb dX12_image_19 (by decide) ?_
            refine lv_icmp_ge (tgt := 47) hx hb dX12_image_21 (by decide) (fun c_16 => ?_) (fun c_16 => ?_)
            · exact absurd c_16 (by decide)
            · have c_16 : ¬ ((10 : Int32) ≤ 4) := c_16
              refine lv_aload_n hx hb dX12_image_24 rfl (lv_at hl 1 rfl) ?_
              refine va_get (D := D) (ci := 12) (v := .ref bx) (C := RX12) (T := TX12) (N := 89) hx hb hg iX12 hown hK hP 0 rfl rfl 88 (by decide) (hg (Cond.fieldLink RX12 175 "SlabWalkModel" "boxes" "[I") m1402) (fun _ h9 => h9) g_M_boxes dX12_image_25 ?_
              refine lv_bipush (v := 16) hx hb dX12_image_28 (by decide) ?_
              refine lv_iload_n hx hb dX12_image_30 rfl (lv_at hl 2 rfl) ?_
              refine lv_imul hx hb dX12_image_31 ?_
              refine lv_iload_n hx hb dX12_image_32 rfl (lv_at hl 0 rfl) ?_
              refine lv_iadd hx hb dX12_image_33 ?_
              refine lv_aload_n hx hb dX12_image_34 rfl (lv_at hl 1 rfl) ?_
              refine va_get (D := D) (ci := 12) (v := .ref nw) (C := RX12) (T := TX12) (N := 89) hx hb hg iX12 hown hK hP 0 rfl rfl 76 (by decide) (hg (Cond.fieldLink RX12 151 "SlabWalkModel" "now" "[I") m1390) (fun _ h9 => h9) g_M_now dX12_image_35 ?_
              refine lv_iload_n hx hb dX12_image_38 rfl (lv_at hl 0 rfl) ?_
              refine va_iald hx hb hK hP 1 1 rfl rfl (show ¬ ((4 : Int32) < 0 ∨ 16 ≤ (4 : Int32).toNatClampNeg) from by decide +kernel) dX12_image_39 ?_
              refine lv_topi (fun y_17 ey_17 => ?_)
              refine va_iast hx hb hK hP hD hS 3 1 rfl rfl (by rcases bx_j h_nlt0 h_nge3 with h | h | h <;> rw [h] <;> exact (show ¬ (_ ∨ _) from by decide +kernel)) dX12_image_40 (fun H locs hP hD hS => ?_)
              have hP : va_P D classes [(h0, .inr (12, M)), (nw, .inl (k.2.1, 16, .inl m4)), (hbx, .inl (k.2.2.2, 3, .inl f_3)), (bx, .inl (k.2.1, 48, .inl (upd f_15 (((16 : Int32) * p0) + 4).toNatClampNeg y_17)))] H := hP
              have hD : va_D A [(h0, .inr (12, M)), (nw, .inl (k.2.1, 16, .inl m4)), (hbx, .inl (k.2.2.2, 3, .inl f_3)), (bx, .inl (k.2.1, 48, .inl (upd f_15 (((16 : Int32) * p0) + 4).toNatClampNeg y_17)))] := hD
              generalize (upd f_15 (((16 : Int32) * p0) + 4).toNatClampNeg y_17) = f_18 at hP hD
              refine lv_iinc (v := 5) (lv' := [(2, .int 5), (0, .ref h0), (1, .int p0)]) hx hb dX12_image_41 hl (k := 0) rfl (by decide) (by decide) rfl (fun ls hl => ?_)
              refine lv_goto (tgt := 18) hx hb dX12_image_44 (by decide) ?_
              refine lv_iload_n hx hb dX12_image_18 rfl (lv_at hl 0 rfl) ?_
              refine lv_bipush (v := 10) hx hb dX12_image_19 (by decide) ?_
              refine lv_icmp_ge (tgt := 47) hx hb dX12_image_21 (by decide) (fun c_19 => ?_) (fun c_19 => ?_)
              · exact absurd c_19 (by decide)
              · have c_19 : ¬ ((10 : Int32) ≤ 5) := c_19
                refine lv_aload_n hx hb dX12_image_24 rfl (lv_at hl 1 rfl) ?_
                refine va_get (D := D) (ci := 12) (v := .ref bx) (C := RX12) (T := TX12) (N := 89) hx hb hg iX12 hown hK hP 0 rfl rfl 88 (by decide) (hg (Cond.fieldLink RX12 175 "SlabWalkModel" "boxes" "[I") m1402) (fun _ h9 => h9) g_M_boxes dX12_image_25 ?_
                refine lv_bipush (v := 16) hx hb dX12_image_28 (by decide) ?_
                refine lv_iload_n hx hb dX12_image_30 rfl (lv_at hl 2 rfl) ?_
                refine lv_imul hx hb dX12_image_31 ?_
                refine lv_iload_n hx hb dX12_image_32 rfl (lv_at hl 0 rfl) ?_
                refine lv_iadd hx hb dX12_image_33 ?_
                refine lv_aload_n hx hb dX12_image_34 rfl (lv_at hl 1 rfl) ?_
                refine va_get (D := D) (ci := 12) (v := .ref nw) (C := RX12) (T := TX12) (N := 89) hx hb hg iX12 hown hK hP 0 rfl rfl 76 (by decide) (hg (Cond.fieldLink RX12 151 "SlabWalkModel" "now" "[I") m1390) (fun _ h9 => h9) g_M_now dX12_image_35 ?_
                refine lv_iload_n hx hb dX12_image_38 rfl (lv_at hl 0 rfl) ?_
                refine va_iald hx hb hK hP 1 1 rfl rfl (show ¬ ((5 : Int32) < 0 ∨ 16 ≤ (5 : Int32).toNatClampNeg) from by decide +kernel) dX12_image_39 ?_
                refine lv_topi (fun y_20 ey_20 => ?_)
                refine va_iast hx hb hK hP hD hS 3 1 rfl rfl (by rcases bx_j h_nlt0 h_nge3 with h | h | h <;> rw [h] <;> exact (show ¬ (_ ∨ _) from by decide +kernel)) dX12_image_40 (fun H locs hP hD hS => ?_)
                have hP : va_P D classes [(h0, .inr (12, M)), (nw, .inl (k.2.1, 16, .inl m4)), (hbx, .inl (k.2.2.2, 3, .inl f_3)), (bx, .inl (k.2.1, 48, .inl (upd f_18 (((16 : Int32) * p0) + 5).toNatClampNeg y_20)))] H := hP
                have hD : va_D A [(h0, .inr (12, M)), (nw, .inl (k.2.1, 16, .inl m4)), (hbx, .inl (k.2.2.2, 3, .inl f_3)), (bx, .inl (k.2.1, 48, .inl (upd f_18 (((16 : Int32) * p0) + 5).toNatClampNeg y_20)))] := hD
                generalize (upd f_18 (((16 : Int32) * p0) + 5).toNatClampNeg y_20) = f_21 at hP hD
                refine lv_iinc (v := 6) (lv' := [(2, .int 6), (0, .ref h0), (1, .int p0)]) hx hb dX12_image_41 hl (k := 0) rfl (by decide) (by decide) rfl (fun ls hl => ?_)
                refine lv_goto (tgt := 18) hx hb dX12_image_44 (by decide) ?_
                refine lv_iload_n hx hb dX12_image_18 rfl (lv_at hl 0 rfl) ?_
                refine lv_bipush (v := 10) hx hb dX12_image_19 (by decide) ?_
                refine lv_icmp_ge (tgt := 47) hx hb dX12_image_21 (by decide) (fun c_22 => ?_) (fun c_22 => ?_)
                · exact absurd c_22 (by decide)
                · have c_22 : ¬ ((10 : Int32) ≤ 6) := c_22
                  refine lv_aload_n hx hb dX12_image_24 rfl (lv_at hl 1 rfl) ?_
                  refine va_get (D := D) (ci := 12) (v := .ref bx) (C := RX12) (T := TX12) (N := 89) hx hb hg iX12 hown hK hP 0 rfl rfl 88 (by decide) (hg (Cond.fieldLink RX12 175 "SlabWalkModel" "boxes" "[I") m1402) (fun _ h9 => h9) g_M_boxes dX12_image_25 ?_
                  refine lv_bipush (v := 16) hx hb dX12_image_28 (by decide) ?_
                  refine lv_iload_n hx hb dX12_image_30 rfl (lv_at hl 2 rfl) ?_
                  refine lv_imul hx hb dX12_image_31 ?_
                  refine lv_iload_n hx hb dX12_image_32 rfl (lv_at hl 0 rfl) ?_
                  refine lv_iadd hx hb dX12_image_33 ?_
                  refine lv_aload_n hx hb dX12_image_34 rfl (lv_at hl 1 rfl) ?_
                  refine va_get (D := D) (ci := 12) (v := .ref nw) (C := RX12) (T := TX12) (N := 89) hx hb hg iX12 hown hK hP 0 rfl rfl 76 (by decide) (hg (Cond.fieldLink RX12 151 "SlabWalkModel" "now" "[I") m1390) (fun _ h9 => h9) g_M_now dX12_image_35 ?_
                  refine lv_iload_n hx hb dX12_image_38 rfl (lv_at hl 0 rfl) ?_
                  refine va_iald hx hb hK hP 1 1 rfl rfl (show ¬ ((6 : Int32) < 0 ∨ 16 ≤ (6 : Int32).toNatClampNeg) from by decide +kernel) dX12_image_39 ?_
                  refine lv_topi (fun y_23 ey_23 => ?_)
                  obtain rfl : y_23 = 0 := ey_23.trans (g_m4__6)
                  refine va_iast hx hb hK hP hD hS 3 1 rfl rfl (by rcases bx_j h_nlt0 h_nge3 with h | h | h <;> rw [h] <;> exact (show ¬ (_ ∨ _) from by decide +kernel)) dX12_image_40 (fun H locs hP hD hS => ?_)
                  have hP : va_P D classes [(h0, .inr (12, M)), (nw, .inl (k.2.1, 16, .inl m4)), (hbx, .inl (k.2.2.2, 3, .inl f_3)), (bx, .inl (k.2.1, 48, .inl (upd f_21 (((16 : Int32) * p0) + 6).toNatClampNeg 0)))] H := hP
                  have hD : va_D A [(h0, .inr (12, M)), (nw, .inl (k.2.1, 16, .inl m4)), (hbx, .inl (k.2.2.2, 3, .inl f_3)), (bx, .inl (k.2.1, 48, .inl (upd f_21 (((16 : Int32) * p0) + 6).toNatClampNeg 0)))] := hD
                  generalize (upd f_21 (((16 : Int32) * p0) + 6).toNatClampNeg 0) = f_24 at hP hD
                  refine lv_iinc (v := 7) (lv' := [(2, .int 7), (0, .ref h0), (1, .int p0)]) hx hb dX12_image_41 hl (k := 0) rfl (by decide) (by decide) rfl (fun ls hl => ?_)
                  refine lv_goto (tgt := 18) hx hb dX12_image_44 (by decide) ?_
                  refine lv_iload_n hx hb dX12_image_18 rfl (lv_at hl 0 rfl) ?_
                  refine lv_bipush (v := 10) hx hb dX12_image_19 (by decide) ?_
                  refine lv_icmp_ge (tgt := 47) hx hb dX12_image_21 (by decide) (fun c_25 => ?_) (fun c_25 => ?_)
                  · exact absurd c_25 (by decide)
                  · have c_25 : ¬ ((10 : Int32) ≤ 7) := c_25
                    refine lv_aload_n hx hb dX12_image_24 rfl (lv_at hl 1 rfl) ?_
                    refine va_get (D := D) (ci := 12) (v := .ref bx) (C := RX12) (T := TX12) (N := 89) hx hb hg iX12 hown hK hP 0 rfl rfl 88 (by decide) (hg (Cond.fieldLink RX12 175 "SlabWalkModel" "boxes" "[I") m1402) (fun _ h9 => h9) g_M_boxes dX12_image_25 ?_
                    refine lv_bipush (v := 16) hx hb dX12_image_28 (by decide) ?_
                    refine lv_iload_n hx hb dX12_image_30 rfl (lv_at hl 2 rfl) ?_
                    refine lv_imul hx hb dX12_image_31 ?_
                    refine lv_iload_n hx hb dX12_image_32 rfl (lv_at hl 0 rfl) ?_
                    refine lv_iadd hx hb dX12_image_33 ?_
                    refine lv_aload_n hx hb dX12_image_34 rfl (lv_at hl 1 rfl) ?_
                    refine va_get (D := D) (ci := 12) (v := .ref nw) (C := RX12) (T := TX12) (N := 89) hx hb hg iX12 hown hK hP 0 rfl rfl 76 (by decide) (hg (Cond.fieldLink RX12 151 "SlabWalkModel" "now" "[I") m1390) (fun _ h9 => h9) g_M_now dX12_image_35 ?_
                    refine lv_iload_n hx hb dX12_image_38 rfl (lv_at hl 0 rfl) ?_
                    refine va_iald hx hb hK hP 1 1 rfl rfl (show ¬ ((7 : Int32) < 0 ∨ 16 ≤ (7 : Int32).toNatClampNeg) from by decide +kernel) dX12_image_39 ?_
                    refine lv_topi (fun y_26 ey_26 => ?_)
                    refine va_iast hx hb hK hP hD hS 3 1 rfl rfl (by rcases bx_j h_nlt0 h_nge3 with h | h | h <;> rw [h] <;> exact (show ¬ (_ ∨ _) from by decide +kernel)) dX12_image_40 (fun H locs hP hD hS => ?_)
                    have hP : va_P D classes [(h0, .inr (12, M)), (nw, .inl (k.2.1, 16, .inl m4)), (hbx, .inl (k.2.2.2, 3, .inl f_3)), (bx, .inl (k.2.1, 48, .inl (upd f_24 (((16 : Int32) * p0) + 7).toNatClampNeg y_26)))] H := hP
                    have hD : va_D A [(h0, .inr (12, M)), (nw, .inl (k.2.1, 16, .inl m4)), (hbx, .inl (k.2.2.2, 3, .inl f_3)), (bx, .inl (k.2.1, 48, .inl (upd f_24 (((16 : Int32) * p0) + 7).toNatClampNeg y_26)))] := hD
                    generalize (upd f_24 (((16 : Int32) * p0) + 7).toNatClampNeg y_26) = f_27 at hP hD
                    refine lv_iinc (v := 8) (lv' := [(2, .int 8), (0, .ref h0), (1, .int p0)]) hx hb dX12_image_41 hl (k := 0) rfl (by decide) (by decide) rfl (fun ls hl => ?_)
                    refine lv_goto (tgt := 18) hx hb dX12_image_44 (by decide) ?_
                    refine lv_iload_n hx hb dX12_image_18 rfl (lv_at hl 0 rfl) ?_
                    refine lv_bipush (v := 10) hx hb dX12_image_19 (by decide) ?_
                    refine lv_icmp_ge (tgt := 47) hx hb dX12_image_21 (by decide) (fun c_28 => ?_) (fun c_28 => ?_)
                    · exact absurd c_28 (by decide)
                    · have c_28 : ¬ ((10 : Int32) ≤ 8) := c_28
                      refine lv_aload_n hx hb dX12_image_24 rfl (lv_at hl 1 rfl) ?_
                      refine va_get (D := D) (ci := 12) (v := .ref bx) (C := RX12) (T := TX12) (N := 89) hx hb hg iX12 hown hK hP 0 rfl rfl 88 (by decide) (hg (Cond.fieldLink RX12 175 "SlabWalkModel" "boxes" "[I") m1402) (fun _ h9 => h9) g_M_boxes dX12_image_25 ?_
                      refine lv_bipush (v := 16) hx hb dX12_image_28 (by decide) ?_
                      refine lv_iload_n hx hb dX12_image_30 rfl (lv_at hl 2 rfl) ?_
                      refine lv_imul hx hb dX12_image_31 ?_
                      refine lv_iload_n hx hb dX12_image_32 rfl (lv_at hl 0 rfl) ?_
                      refine lv_iadd hx hb dX12_image_33 ?_
                      refine lv_aload_n hx hb dX12_image_34 rfl (lv_at hl 1 rfl) ?_
                      refine va_get (D := D) (ci := 12) (v := .ref nw) (C := RX12) (T := TX12) (N := 89) hx hb hg iX12 hown hK hP 0 rfl rfl 76 (by decide) (hg (Cond.fieldLink RX12 151 "SlabWalkModel" "now" "[I") m1390) (fun _ h9 => h9) g_M_now dX12_image_35 ?_
                      refine lv_iload_n hx hb dX12_image_38 rfl (lv_at hl 0 rfl) ?_
                      refine va_iald hx hb hK hP 1 1 rfl rfl (show ¬ ((8 : Int32) < 0 ∨ 16 ≤ (8 : Int32).toNatClampNeg) from by decide +kernel) dX12_image_39 ?_
                      refine lv_topi (fun y_29 ey_29 => ?_)
                      refine va_iast hx hb hK hP hD hS 3 1 rfl rfl (by rcases bx_j h_nlt0 h_nge3 with h | h | h <;> rw [h] <;> exact (show ¬ (_ ∨ _) from by decide +kernel)) dX12_image_40 (fun H locs hP hD hS => ?_)
                      have hP : va_P D classes [(h0, .inr (12, M)), (nw, .inl (k.2.1, 16, .inl m4)), (hbx, .inl (k.2.2.2, 3, .inl f_3)), (bx, .inl (k.2.1, 48, .inl (upd f_27 (((16 : Int32) * p0) + 8).toNatClampNeg y_29)))] H := hP
                      have hD : va_D A [(h0, .inr (12, M)), (nw, .inl (k.2.1, 16, .inl m4)), (hbx, .inl (k.2.2.2, 3, .inl f_3)), (bx, .inl (k.2.1, 48, .inl (upd f_27 (((16 : Int32) * p0) + 8).toNatClampNeg y_29)))] := hD
                      generalize (upd f_27 (((16 : Int32) * p0) + 8).toNatClampNeg y_29) = f_30 at hP hD
                      refine lv_iinc (v := 9) (lv' := [(2, .int 9), (0, .ref h0), (1, .int p0)]) hx hb dX12_image_41 hl (k := 0) rfl (by decide) (by decide) rfl (fun ls hl => ?_)
                      refine lv_goto (tgt := 18) hx hb dX12_image_44 (by decide) ?_
                      refine lv_iload_n hx hb dX12_image_18 rfl (lv_at hl 0 rfl) ?_
                      refine lv_bipush (v := 10) hx hb dX12_image_19 (by decide) ?_
                      refine lv_icmp_ge (tgt := 47) hx hb dX12_image_21 (by decide) (fun c_31 => ?_) (fun c_31 => ?_)
                      · exact absurd c_31 (by decide)
                      · have c_31 : ¬ ((10 : Int32) ≤ 9) := c_31
                        refine lv_aload_n hx hb dX12_image_24 rfl (lv_at hl 1 rfl) ?_
                        refine va_get (D := D) (ci := 12) (v := .ref bx) (C := RX12) (T := TX12) (N := 89) hx hb hg iX12 hown hK hP 0 rfl rfl 88 (by decide) (hg (Cond.fieldLink RX12 175 "SlabWalkModel" "boxes" "[I") m1402) (fun _ h9 => h9) g_M_boxes dX12_image_25 ?_
                        refine lv_bipush (v := 16) hx hb dX12_image_28 (by decide) ?_
                        refine lv_iload_n hx hb dX12_image_30 rfl (lv_at hl 2 rfl) ?_
                        refine lv_imul hx hb dX12_image_31 ?_
                        refine lv_iload_n hx hb dX12_image_32 rfl (lv_at hl 0 rfl) ?_
                        refine lv_iadd hx hb dX12_image_33 ?_
                        refine lv_aload_n hx hb dX12_image_34 rfl (lv_at hl 1 rfl) ?_
                        refine va_get (D := D) (ci := 12) (v := .ref nw) (C := RX12) (T := TX12) (N := 89) hx hb hg iX12 hown hK hP 0 rfl rfl 76 (by decide) (hg (Cond.fieldLink RX12 151 "SlabWalkModel" "now" "[I") m1390) (fun _ h9 => h9) g_M_now dX12_image_35 ?_
                        refine lv_iload_n hx hb dX12_image_38 rfl (lv_at hl 0 rfl) ?_
                        refine va_iald hx hb hK hP 1 1 rfl rfl (show ¬ ((9 : Int32) < 0 ∨ 16 ≤ (9 : Int32).toNatClampNeg) from by decide +kernel) dX12_image_39 ?_
                        refine lv_topi (fun y_32 ey_32 => ?_)
                        refine va_iast hx hb hK hP hD hS 3 1 rfl rfl (by rcases bx_j h_nlt0 h_nge3 with h | h | h <;> rw [h] <;> exact (show ¬ (_ ∨ _) from by decide +kernel)) dX12_image_40 (fun H locs hP hD hS => ?_)
                        have hP : va_P D classes [(h0, .inr (12, M)), (nw, .inl (k.2.1, 16, .inl m4)), (hbx, .inl (k.2.2.2, 3, .inl f_3)), (bx, .inl (k.2.1, 48, .inl (upd f_30 (((16 : Int32) * p0) + 9).toNatClampNeg y_32)))] H := hP
                        have hD : va_D A [(h0, .inr (12, M)), (nw, .inl (k.2.1, 16, .inl m4)), (hbx, .inl (k.2.2.2, 3, .inl f_3)), (bx, .inl (k.2.1, 48, .inl (upd f_30 (((16 : Int32) * p0) + 9).toNatClampNeg y_32)))] := hD
                        generalize (upd f_30 (((16 : Int32) * p0) + 9).toNatClampNeg y_32) = f_33 at hP hD
                        refine lv_iinc (v := 10) (lv' := [(2, .int 10), (0, .ref h0), (1, .int p0)]) hx hb dX12_image_41 hl (k := 0) rfl (by decide) (by decide) rfl (fun ls hl => ?_)
                        refine lv_goto (tgt := 18) hx hb dX12_image_44 (by decide) ?_
                        refine lv_iload_n hx hb dX12_image_18 rfl (lv_at hl 0 rfl) ?_
                        refine lv_bipush (v := 10) hx hb dX12_image_19 (by decide) ?_
                        refine lv_icmp_ge (tgt := 47) hx hb dX12_image_21 (by decide) (fun c_34 => ?_) (fun c_34 => ?_)
                        · have c_34 : (10 : Int32) ≤ 10 := c_34
                          refine lv_aload_n hx hb dX12_image_47 rfl (lv_at hl 1 rfl) ?_
                          refine va_get (D := D) (ci := 12) (v := .ref nw) (C := RX12) (T := TX12) (N := 89) hx hb hg iX12 hown hK hP 0 rfl rfl 76 (by decide) (hg (Cond.fieldLink RX12 151 "SlabWalkModel" "now" "[I") m1390) (fun _ h9 => h9) g_M_now dX12_image_48 ?_
                          refine lv_bipush (v := 6) hx hb dX12_image_51 (by decide) ?_
                          refine va_iald hx hb hK hP 1 1 rfl rfl (show ¬ ((6 : Int32) < 0 ∨ 16 ≤ (6 : Int32).toNatClampNeg) from by decide +kernel) dX12_image_53 ?_
                          refine lv_topi (fun y_35 ey_35 => ?_)
                          obtain rfl : y_35 = 0 := ey_35.trans (g_m4__6)
                          have hP9 := hP.sub (ws' := []) [] rfl
                          have hD9 := hD.sub (ws' := []) [] (by decide) rfl
                          exact W.iret (v := 0) hx hb hr (fun t ht hW => ⟨⟨0, (), rfl, rfl, cB_of ht hP9 hD9⟩, hS.F ht⟩) hS.2.2 dX12_image_54
                        · exact absurd (by decide) c_34
  · exact absurd c_2 (by decide)

set_option maxHeartbeats 4000000 in
set_option maxRecDepth 100000 in
theorem c_X12_back_a (l : Launch) (D : va_G) (k : ClassId × ClassId × ClassId × ClassId) (sz : Nat) (h0 hbx : Nat) (M : List Value) (m6 : Nat → Int32) (p0 : Int32) (g_M_hasBox : M[87]? = some (.ref hbx)) (g_m6_all : ∀ j, m6 j = 0) (h_lt0 : p0 < 0) : Met l yX12_back (WS yX12_back cX12_back 3 (some .int)) ({ frames := 1, cells := 0, slots := 0, locals := 20 }) (va_Pc [.ref h0, .int p0] (cP D k [(h0, .inr (12, M)), (hbx, .inl (k.2.2.2, 3, .inl m6))] sz)) (va_Qi (fun (r : Int32) (_ : Unit) => r = (-1)) (fun (_ : Unit) t => cB D (va_A [(h0, .inr (12, M)), (hbx, .inl (k.2.2.2, 3, .inl m6))] sz) [] t) (va_A [(h0, .inr (12, M)), (hbx, .inl (k.2.2.2, 3, .inl m6))] sz)) 0 0 (va_A [(h0, .inr (12, M)), (hbx, .inl (k.2.2.2, 3, .inl m6))] sz) := by
  refine Met.ofW (cc := cX12_back) (maxL := 3) (ret := (some .int)) (by decide) rfl ?_
  intro p e s m args below meth c s₁ B hml hv
  obtain ⟨rfl, hsz, hP, hKX, hD0⟩ := hv
  have hK := hKX.1
  have hx := B.exec
  have hb := B.bytes
  have hr := B.returns
  have hts := atoms_spec (ws := WS yX12_back cX12_back 3 (some .int)) B.pre
  have hgd : ∀ w ∈ gd, w ∈ WS yX12_back cX12_back 3 (some .int) := fun w h => List.mem_cons_of_mem _ h
  have hg : ∀ w ∈ gd, w.before _ s = true := fun w h => hts w (hgd w h)
  have hown : s.vm.findClass RX12 = some m.cls := findClass_of_methodNamed B.named
  have hlocks := B.notSynchronized
  subst hsz
  have hD := hD0.self (sz := s.heap.size)
  generalize hAe : va_A [(h0, .inr (12, M)), (hbx, .inl (k.2.2.2, 3, .inl m6))] s.heap.size = A at hD ⊢
  have hA : ∀ q : Nat, s.heap.size ≤ q → A q := fun q h => by rw [← hAe]; exact Or.inr h
  have hS : va_S A s.heap s.heap [] := va_S.rf
  have hP : va_P D classes [(h0, .inr (12, M)), (hbx, .inl (k.2.2.2, 3, .inl m6))] s.heap := hP
  have hl := lv_entry ([.ref h0, .int p0]) (n := 3) (Nat.le_of_ble_eq_true rfl)
  rw [lg_entry_eq]
  generalize (lg_sl ([.ref h0, .int p0]) ++ List.replicate (3 - (lg_sl ([.ref h0, .int p0])).length) Slot.unset).toArray = ls at hl ⊢
  have hl : lv_has ls 3 [(0, .ref h0), (1, .int p0)] := hl
  refine lv_iload_n hx hb dX12_back_0 rfl (lv_at hl 1 rfl) ?_
  have hPc := hP.sub (ws' := []) [] rfl
  have hDc := hD.sub (ws' := []) [] (by decide) rfl
  have hFc := va_free (wc := []) hD hS hA [] rfl
  refine va_calli (va_runS (As := [.int p0]) (rest := []) ⟨hx, hb, hml, hown, hts⟩ (c_X12_isBox_a l D k s.heap.size p0 h_lt0) (va_cwS 1 hts (gd_S hgd m2070 m2071 m131 m2072) rfl rfl rfl (by decide +kernel) ⟨Nat.le_of_ble_eq_true rfl, Nat.le_of_ble_eq_true rfl⟩) (cP_S hPc hKX hDc) rfl rfl hl.1 rfl (lv_room (Nat.le_of_ble_eq_true rfl)) dX12_back_1 ⟨Nat.le_of_ble_eq_true rfl, Nat.le_of_ble_eq_true rfl⟩) hS (fun q _ h => hFc q h) hFc (fun r_1 u t H1 locs ht hvm hw hB hz1 hk1 hS => ?_)
  obtain ⟨hP1, hD1⟩ := hB
  rw [ht] at hP1
  obtain ⟨hP, hD⟩ := va_join (wr := [(h0, .inr (12, M)), (hbx, .inl (k.2.2.2, 3, .inl m6))]) (w1 := []) hP hD [] [0, 1] rfl rfl (by decide) (by decide) hk1 hFc hP1 hD1
  generalize H1 = H at hP hS ⊢
  have hP : va_P D classes [(h0, .inr (12, M)), (hbx, .inl (k.2.2.2, 3, .inl m6))] H := hP
  have hD : va_D A [(h0, .inr (12, M)), (hbx, .inl (k.2.2.2, 3, .inl m6))] := hD
  refine W.widen (k := 0) (n := 0) (Nat.le_of_ble_eq_true rfl) (Nat.le_of_ble_eq_true rfl) ?_
  subst hw
  refine lv_if_eq (tgt := 16) hx hb dX12_back_4 (by decide) (fun c_2 => ?_) (fun c_2 => ?_)
  · have c_2 : (0 : Int32) = 0 := c_2
    refine lv_iconst (v := (-1)) hx hb dX12_back_16 (by decide) ?_
    have hP9 := hP.sub (ws' := []) [] rfl
    have hD9 := hD.sub (ws' := []) [] (by decide) rfl
    exact W.iret (v := (-1)) hx hb hr (fun t ht hW => ⟨⟨(-1), (), rfl, rfl, cB_of ht hP9 hD9⟩, hS.F ht⟩) hS.2.2 dX12_back_17
  · exact absurd (by decide) c_2

set_option maxHeartbeats 4000000 in
set_option maxRecDepth 100000 in
theorem c_X12_back_b (l : Launch) (D : va_G) (k : ClassId × ClassId × ClassId × ClassId) (sz : Nat) (h0 hbx : Nat) (M : List Value) (m6 : Nat → Int32) (p0 : Int32) (g_M_hasBox : M[87]? = some (.ref hbx)) (g_m6_all : ∀ j, m6 j = 0) (h_nlt0 : ¬ (p0 < 0)) (h_ge3 : 3 ≤ p0) : Met l yX12_back (WS yX12_back cX12_back 3 (some .int)) ({ frames := 1, cells := 0, slots := 0, locals := 20 }) (va_Pc [.ref h0, .int p0] (cP D k [(h0, .inr (12, M)), (hbx, .inl (k.2.2.2, 3, .inl m6))] sz)) (va_Qi (fun (r : Int32) (_ : Unit) => r = (-1)) (fun (_ : Unit) t => cB D (va_A [(h0, .inr (12, M)), (hbx, .inl (k.2.2.2, 3, .inl m6))] sz) [] t) (va_A [(h0, .inr (12, M)), (hbx, .inl (k.2.2.2, 3, .inl m6))] sz)) 0 0 (va_A [(h0, .inr (12, M)), (hbx, .inl (k.2.2.2, 3, .inl m6))] sz) := by
  refine Met.ofW (cc := cX12_back) (maxL := 3) (ret := (some .int)) (by decide) rfl ?_
  intro p e s m args below meth c s₁ B hml hv
  obtain ⟨rfl, hsz, hP, hKX, hD0⟩ := hv
  have hK := hKX.1
  have hx := B.exec
  have hb := B.bytes
  have hr := B.returns
  have hts := atoms_spec (ws := WS yX12_back cX12_back 3 (some .int)) B.pre
  have hgd : ∀ w ∈ gd, w ∈ WS yX12_back cX12_back 3 (some .int) := fun w h => List.mem_cons_of_mem _ h
  have hg : ∀ w ∈ gd, w.before _ s = true := fun w h => hts w (hgd w h)
  have hown : s.vm.findClass RX12 = some m.cls := findClass_of_methodNamed B.named
  have hlocks := B.notSynchronized
  subst hsz
  have hD := hD0.self (sz := s.heap.size)
  generalize hAe : va_A [(h0, .inr (12, M)), (hbx, .inl (k.2.2.2, 3, .inl m6))] s.heap.size = A at hD ⊢
  have hA : ∀ q : Nat, s.heap.size ≤ q → A q := fun q h => by rw [← hAe]; exact Or.inr h
  have hS : va_S A s.heap s.heap [] := va_S.rf
  have hP : va_P D classes [(h0, .inr (12, M)), (hbx, .inl (k.2.2.2, 3, .inl m6))] s.heap := hP
  have hl := lv_entry ([.ref h0, .int p0]) (n := 3) (Nat.le_of_ble_eq_true rfl)
  rw [lg_entry_eq]
  generalize (lg_sl ([.ref h0, .int p0]) ++ List.replicate (3 - (lg_sl ([.ref h0, .int p0])).length) Slot.unset).toArray = ls at hl ⊢
  have hl : lv_has ls 3 [(0, .ref h0), (1, .int p0)] := hl
  refine lv_iload_n hx hb dX12_back_0 rfl (lv_at hl 1 rfl) ?_
  have hPc := hP.sub (ws' := []) [] rfl
  have hDc := hD.sub (ws' := []) [] (by decide) rfl
  have hFc := va_free (wc := []) hD hS hA [] rfl
  refine va_calli (va_runS (As := [.int p0]) (rest := []) ⟨hx, hb, hml, hown, hts⟩ (c_X12_isBox_b l D k s.heap.size p0 h_nlt0 h_ge3) (va_cwS 1 hts (gd_S hgd m2070 m2071 m131 m2072) rfl rfl rfl (by decide +kernel) ⟨Nat.le_of_ble_eq_true rfl, Nat.le_of_ble_eq_true rfl⟩) (cP_S hPc hKX hDc) rfl rfl hl.1 rfl (lv_room (Nat.le_of_ble_eq_true rfl)) dX12_back_1 ⟨Nat.le_of_ble_eq_true rfl, Nat.le_of_ble_eq_true rfl⟩) hS (fun q _ h => hFc q h) hFc (fun r_1 u t H1 locs ht hvm hw hB hz1 hk1 hS => ?_)
  obtain ⟨hP1, hD1⟩ := hB
  rw [ht] at hP1
  obtain ⟨hP, hD⟩ := va_join (wr := [(h0, .inr (12, M)), (hbx, .inl (k.2.2.2, 3, .inl m6))]) (w1 := []) hP hD [] [0, 1] rfl rfl (by decide) (by decide) hk1 hFc hP1 hD1
  generalize H1 = H at hP hS ⊢
  have hP : va_P D classes [(h0, .inr (12, M)), (hbx, .inl (k.2.2.2, 3, .inl m6))] H := hP
  have hD : va_D A [(h0, .inr (12, M)), (hbx, .inl (k.2.2.2, 3, .inl m6))] := hD
  refine W.widen (k := 0) (n := 0) (Nat.le_of_ble_eq_true rfl) (Nat.le_of_ble_eq_true rfl) ?_
  subst hw
  refine lv_if_eq (tgt := 16) hx hb dX12_back_4 (by decide) (fun c_2 => ?_) (fun c_2 => ?_)
  · have c_2 : (0 : Int32) = 0 := c_2
    refine lv_iconst (v := (-1)) hx hb dX12_back_16 (by decide) ?_
    have hP9 := hP.sub (ws' := []) [] rfl
    have hD9 := hD.sub (ws' := []) [] (by decide) rfl
    exact W.iret (v := (-1)) hx hb hr (fun t ht hW => ⟨⟨(-1), (), rfl, rfl, cB_of ht hP9 hD9⟩, hS.F ht⟩) hS.2.2 dX12_back_17
  · exact absurd (by decide) c_2

set_option maxHeartbeats 4000000 in
set_option maxRecDepth 100000 in
theorem c_X12_back_c (l : Launch) (D : va_G) (k : ClassId × ClassId × ClassId × ClassId) (sz : Nat) (h0 hbx : Nat) (M : List Value) (m6 : Nat → Int32) (p0 : Int32) (g_M_hasBox : M[87]? = some (.ref hbx)) (g_m6_all : ∀ j, m6 j = 0) (h_nlt0 : ¬ (p0 < 0)) (h_nge3 : ¬ (3 ≤ p0)) : Met l yX12_back (WS yX12_back cX12_back 3 (some .int)) ({ frames := 1, cells := 0, slots := 0, locals := 20 }) (va_Pc [.ref h0, .int p0] (cP D k [(h0, .inr (12, M)), (hbx, .inl (k.2.2.2, 3, .inl m6))] sz)) (va_Qi (fun (r : Int32) (_ : Unit) => r = (-1)) (fun (_ : Unit) t => cB D (va_A [(h0, .inr (12, M)), (hbx, .inl (k.2.2.2, 3, .inl m6))] sz) [] t) (va_A [(h0, .inr (12, M)), (hbx, .inl (k.2.2.2, 3, .inl m6))] sz)) 0 0 (va_A [(h0, .inr (12, M)), (hbx, .inl (k.2.2.2, 3, .inl m6))] sz) := by
  refine Met.ofW (cc := cX12_back) (maxL := 3) (ret := (some .int)) (by decide) rfl ?_
  intro p e s m args below meth c s₁ B hml hv
  obtain ⟨rfl, hsz, hP, hKX, hD0⟩ := hv
  have hK := hKX.1
  have hx := B.exec
  have hb := B.bytes
  have hr := B.returns
  have hts := atoms_spec (ws := WS yX12_back cX12_back 3 (some .int)) B.pre
  have hgd : ∀ w ∈ gd, w ∈ WS yX12_back cX12_back 3 (some .int) := fun w h => List.mem_cons_of_mem _ h
  have hg : ∀ w ∈ gd, w.before _ s = true := fun w h => hts w (hgd w h)
  have hown : s.vm.findClass RX12 = some m.cls := findClass_of_methodNamed B.named
  have hlocks := B.notSynchronized
  subst hsz
  have hD := hD0.self (sz := s.heap.size)
  generalize hAe : va_A [(h0, .inr (12, M)), (hbx, .inl (k.2.2.2, 3, .inl m6))] s.heap.size = A at hD ⊢
  have hA : ∀ q : Nat, s.heap.size ≤ q → A q := fun q h => by rw [← hAe]; exact Or.inr h
  have hS : va_S A s.heap s.heap [] := va_S.rf
  have hP : va_P D classes [(h0, .inr (12, M)), (hbx, .inl (k.2.2.2, 3, .inl m6))] s.heap := hP
  have hl := lv_entry ([.ref h0, .int p0]) (n := 3) (Nat.le_of_ble_eq_true rfl)
  rw [lg_entry_eq]
  generalize (lg_sl ([.ref h0, .int p0]) ++ List.replicate (3 - (lg_sl ([.ref h0, .int p0])).length) Slot.unset).toArray = ls at hl ⊢
  have hl : lv_has ls 3 [(0, .ref h0), (1, .int p0)] := hl
  refine lv_iload_n hx hb dX12_back_0 rfl (lv_at hl 1 rfl) ?_
  have hPc := hP.sub (ws' := []) [] rfl
  have hDc := hD.sub (ws' := []) [] (by decide) rfl
  have hFc := va_free (wc := []) hD hS hA [] rfl
  refine va_calli (va_runS (As := [.int p0]) (rest := []) ⟨hx, hb, hml, hown, hts⟩ (c_X12_isBox_c l D k s.heap.size p0 h_nlt0 h_nge3) (va_cwS 1 hts (gd_S hgd m2070 m2071 m131 m2072) rfl rfl rfl (by decide +kernel) ⟨Nat.le_of_ble_eq_true rfl, Nat.le_of_ble_eq_true rfl⟩) (cP_S hPc hKX hDc) rfl rfl hl.1 rfl (lv_room (Nat.le_of_ble_eq_true rfl)) dX12_back_1 ⟨Nat.le_of_ble_eq_true rfl, Nat.le_of_ble_eq_true rfl⟩) hS (fun q _ h => hFc q h) hFc (fun r_1 u t H1 locs ht hvm hw hB hz1 hk1 hS => ?_)
  obtain ⟨hP1, hD1⟩ := hB
  rw [ht] at hP1
  obtain ⟨hP, hD⟩ := va_join (wr := [(h0, .inr (12, M)), (hbx, .inl (k.2.2.2, 3, .inl m6))]) (w1 := []) hP hD [] [0, 1] rfl rfl (by decide) (by decide) hk1 hFc hP1 hD1
  generalize H1 = H at hP hS ⊢
  have hP : va_P D classes [(h0, .inr (12, M)), (hbx, .inl (k.2.2.2, 3, .inl m6))] H := hP
  have hD : va_D A [(h0, .inr (12, M)), (hbx, .inl (k.2.2.2, 3, .inl m6))] := hD
  refine W.widen (k := 0) (n := 0) (Nat.le_of_ble_eq_true rfl) (Nat.le_of_ble_eq_true rfl) ?_
  subst hw
  refine lv_if_eq (tgt := 16) hx hb dX12_back_4 (by decide) (fun c_2 => ?_) (fun c_2 => ?_)
  · exact absurd c_2 (by decide)
  · have c_2 : ¬ ((1 : Int32) = 0) := c_2
    refine lv_aload_n hx hb dX12_back_7 rfl (lv_at hl 0 rfl) ?_
    refine va_get (D := D) (ci := 12) (v := .ref hbx) (C := RX12) (T := TX12) (N := 89) hx hb hg iX12 hown hK hP 0 rfl rfl 87 (by decide) (hg (Cond.fieldLink RX12 172 "SlabWalkModel" "hasBox" "[Z") m1401) (fun _ h9 => h9) g_M_hasBox dX12_back_8 ?_
    refine lv_iload_n hx hb dX12_back_11 rfl (lv_at hl 1 rfl) ?_
    refine va_zald hx hb hK hP 1 3 rfl rfl (by rcases bx_j h_nlt0 h_nge3 with h | h | h <;> rw [h] <;> exact (show ¬ (_ ∨ _) from by decide +kernel)) dX12_back_12 ?_
    refine lv_topi (fun y_3 ey_3 => ?_)
    obtain rfl : y_3 = 0 := ey_3.trans (g_m6_all _)
    refine lv_if_ne (tgt := 18) hx hb dX12_back_13 (by decide) (fun c_4 => ?_) (fun c_4 => ?_)
    · exact absurd (by decide) c_4
    · have c_4 : (0 : Int32) = 0 := c_4
      refine lv_iconst (v := (-1)) hx hb dX12_back_16 (by decide) ?_
      have hP9 := hP.sub (ws' := []) [] rfl
      have hD9 := hD.sub (ws' := []) [] (by decide) rfl
      exact W.iret (v := (-1)) hx hb hr (fun t ht hW => ⟨⟨(-1), (), rfl, rfl, cB_of ht hP9 hD9⟩, hS.F ht⟩) hS.2.2 dX12_back_17
