set_option maxHeartbeats 4000000 in
set_option maxRecDepth 100000 in
theorem c_hasStreet (l : Launch) (D : va_G) (k : ClassId × ClassId × ClassId × ClassId) (sz : Nat) (h0 : Nat) (P : List Value) (p0 : Int32) (g_P_streets : P[9]? = some (.int 0)) : Met l yX6_hasStreet (WS yX6_hasStreet cX6_hasStreet 2 (some .boolean)) ({ frames := 0, cells := 0, slots := 0, locals := 0 }) (va_Pc [.ref h0, .int p0] (cP D k [(h0, .inr (6, P))] sz)) (va_Qi (fun (r : Int32) (_ : Unit) => r = 0) (fun (_ : Unit) t => cB D (va_A [(h0, .inr (6, P))] sz) [(h0, .inr (6, P))] t) (va_A [(h0, .inr (6, P))] sz)) 0 0 (va_A [(h0, .inr (6, P))] sz) := by
  refine Met.ofW (cc := cX6_hasStreet) (maxL := 2) (ret := (some .boolean)) (by decide) rfl ?_
  intro p e s m args below meth c s₁ B hml hv
  obtain ⟨rfl, hsz, hP, hKX, hD0⟩ := hv
  have hK := hKX.1
  have hx := B.exec
  have hb := B.bytes
  have hr := B.returns
  have hts := atoms_spec (ws := WS yX6_hasStreet cX6_hasStreet 2 (some .boolean)) B.pre
  have hgd : ∀ w ∈ gd, w ∈ WS yX6_hasStreet cX6_hasStreet 2 (some .boolean) := fun w h => List.mem_cons_of_mem _ h
  have hg : ∀ w ∈ gd, w.before _ s = true := fun w h => hts w (hgd w h)
  have hown : s.vm.findClass RX6 = some m.cls := findClass_of_methodNamed B.named
  have hlocks := B.notSynchronized
  subst hsz
  have hD := hD0.self (sz := s.heap.size)
  generalize hAe : va_A [(h0, .inr (6, P))] s.heap.size = A at hD ⊢
  have hA : ∀ q : Nat, s.heap.size ≤ q → A q := fun q h => by rw [← hAe]; exact Or.inr h
  have hS : va_S A s.heap s.heap [] := va_S.rf
  have hP : va_P D classes [(h0, .inr (6, P))] s.heap := hP
  have hl := lv_entry ([.ref h0, .int p0]) (n := 2) (Nat.le_of_ble_eq_true rfl)
  rw [lg_entry_eq]
  generalize (lg_sl ([.ref h0, .int p0]) ++ List.replicate (2 - (lg_sl ([.ref h0, .int p0])).length) Slot.unset).toArray = ls at hl ⊢
  have hl : lv_has ls 2 [(0, .ref h0), (1, .int p0)] := hl
  refine lv_iload_n hx hb dX6_hasStreet_0 rfl (lv_at hl 1 rfl) ?_
  refine lv_if_lt (tgt := 21) hx hb dX6_hasStreet_1 (by decide) (fun c_1 => ?_) (fun c_1 => ?_)
  · have c_1 : (p0 : Int32) < 0 := c_1
    refine lv_iconst (v := 0) hx hb dX6_hasStreet_21 (by decide) ?_
    have hP9 := hP.sub (ws' := [(h0, .inr (6, P))]) [0] rfl
    have hD9 := hD.sub (ws' := [(h0, .inr (6, P))]) [0] (by decide) rfl
    exact W.zret (v := 0) hx hb hr (by decide) (fun t ht hW => ⟨⟨0, (), rfl, rfl, cB_of ht hP9 hD9⟩, hS.F ht⟩) hS.2.2 dX6_hasStreet_22
  · have c_1 : ¬ ((p0 : Int32) < 0) := c_1
    refine lv_iload_n hx hb dX6_hasStreet_4 rfl (lv_at hl 1 rfl) ?_
    refine lv_aload_n hx hb dX6_hasStreet_5 rfl (lv_at hl 0 rfl) ?_
    refine va_get (D := D) (ci := 6) (v := .int 0) (C := RX6) (T := TX6) (N := 17) hx hb hg iX6 hown hK hP 0 rfl rfl 9 (by decide) (hg (Cond.fieldLink RX6 42 "SlabWalk$Paving" "streets" "I") m186) (fun _ h9 => h9) g_P_streets dX6_hasStreet_6 ?_
    refine lv_icmp_ge (tgt := 21) hx hb dX6_hasStreet_9 (by decide) (fun c_2 => ?_) (fun c_2 => ?_)
    · have c_2 : (0 : Int32) ≤ p0 := c_2
      refine lv_iconst (v := 0) hx hb dX6_hasStreet_21 (by decide) ?_
      have hP9 := hP.sub (ws' := [(h0, .inr (6, P))]) [0] rfl
      have hD9 := hD.sub (ws' := [(h0, .inr (6, P))]) [0] (by decide) rfl
      exact W.zret (v := 0) hx hb hr (by decide) (fun t ht hW => ⟨⟨0, (), rfl, rfl, cB_of ht hP9 hD9⟩, hS.F ht⟩) hS.2.2 dX6_hasStreet_22
    · exact absurd (Int32.not_lt.mp c_1) c_2

set_option maxHeartbeats 4000000 in
set_option maxRecDepth 100000 in
theorem c_hasWalker (l : Launch) (D : va_G) (k : ClassId × ClassId × ClassId × ClassId) (sz : Nat) (h0 : Nat) (P : List Value) (p0 : Int32) (g_P_walkers : P[10]? = some (.int 0)) : Met l yX6_hasWalker (WS yX6_hasWalker cX6_hasWalker 2 (some .boolean)) ({ frames := 0, cells := 0, slots := 0, locals := 0 }) (va_Pc [.ref h0, .int p0] (cP D k [(h0, .inr (6, P))] sz)) (va_Qi (fun (r : Int32) (_ : Unit) => r = 0) (fun (_ : Unit) t => cB D (va_A [(h0, .inr (6, P))] sz) [(h0, .inr (6, P))] t) (va_A [(h0, .inr (6, P))] sz)) 0 0 (va_A [(h0, .inr (6, P))] sz) := by
  refine Met.ofW (cc := cX6_hasWalker) (maxL := 2) (ret := (some .boolean)) (by decide) rfl ?_
  intro p e s m args below meth c s₁ B hml hv
  obtain ⟨rfl, hsz, hP, hKX, hD0⟩ := hv
  have hK := hKX.1
  have hx := B.exec
  have hb := B.bytes
  have hr := B.returns
  have hts := atoms_spec (ws := WS yX6_hasWalker cX6_hasWalker 2 (some .boolean)) B.pre
  have hgd : ∀ w ∈ gd, w ∈ WS yX6_hasWalker cX6_hasWalker 2 (some .boolean) := fun w h => List.mem_cons_of_mem _ h
  have hg : ∀ w ∈ gd, w.before _ s = true := fun w h => hts w (hgd w h)
  have hown : s.vm.findClass RX6 = some m.cls := findClass_of_methodNamed B.named
  have hlocks := B.notSynchronized
  subst hsz
  have hD := hD0.self (sz := s.heap.size)
  generalize hAe : va_A [(h0, .inr (6, P))] s.heap.size = A at hD ⊢
  have hA : ∀ q : Nat, s.heap.size ≤ q → A q := fun q h => by rw [← hAe]; exact Or.inr h
  have hS : va_S A s.heap s.heap [] := va_S.rf
  have hP : va_P D classes [(h0, .inr (6, P))] s.heap := hP
  have hl := lv_entry ([.ref h0, .int p0]) (n := 2) (Nat.le_of_ble_eq_true rfl)
  rw [lg_entry_eq]
  generalize (lg_sl ([.ref h0, .int p0]) ++ List.replicate (2 - (lg_sl ([.ref h0, .int p0])).length) Slot.unset).toArray = ls at hl ⊢
  have hl : lv_has ls 2 [(0, .ref h0), (1, .int p0)] := hl
  refine lv_iload_n hx hb dX6_hasWalker_0 rfl (lv_at hl 1 rfl) ?_
  refine lv_if_lt (tgt := 21) hx hb dX6_hasWalker_1 (by decide) (fun c_1 => ?_) (fun c_1 => ?_)
  · have c_1 : (p0 : Int32) < 0 := c_1
    refine lv_iconst (v := 0) hx hb dX6_hasWalker_21 (by decide) ?_
    have hP9 := hP.sub (ws' := [(h0, .inr (6, P))]) [0] rfl
    have hD9 := hD.sub (ws' := [(h0, .inr (6, P))]) [0] (by decide) rfl
    exact W.zret (v := 0) hx hb hr (by decide) (fun t ht hW => ⟨⟨0, (), rfl, rfl, cB_of ht hP9 hD9⟩, hS.F ht⟩) hS.2.2 dX6_hasWalker_22
  · have c_1 : ¬ ((p0 : Int32) < 0) := c_1
    refine lv_iload_n hx hb dX6_hasWalker_4 rfl (lv_at hl 1 rfl) ?_
    refine lv_aload_n hx hb dX6_hasWalker_5 rfl (lv_at hl 0 rfl) ?_
    refine va_get (D := D) (ci := 6) (v := .int 0) (C := RX6) (T := TX6) (N := 17) hx hb hg iX6 hown hK hP 0 rfl rfl 10 (by decide) (hg (Cond.fieldLink RX6 46 "SlabWalk$Paving" "walkers" "I") m189) (fun _ h9 => h9) g_P_walkers dX6_hasWalker_6 ?_
    refine lv_icmp_ge (tgt := 21) hx hb dX6_hasWalker_9 (by decide) (fun c_2 => ?_) (fun c_2 => ?_)
    · have c_2 : (0 : Int32) ≤ p0 := c_2
      refine lv_iconst (v := 0) hx hb dX6_hasWalker_21 (by decide) ?_
      have hP9 := hP.sub (ws' := [(h0, .inr (6, P))]) [0] rfl
      have hD9 := hD.sub (ws' := [(h0, .inr (6, P))]) [0] (by decide) rfl
      exact W.zret (v := 0) hx hb hr (by decide) (fun t ht hW => ⟨⟨0, (), rfl, rfl, cB_of ht hP9 hD9⟩, hS.F ht⟩) hS.2.2 dX6_hasWalker_22
    · exact absurd (Int32.not_lt.mp c_1) c_2

set_option maxHeartbeats 4000000 in
set_option maxRecDepth 100000 in
theorem c_hasRule (l : Launch) (D : va_G) (k : ClassId × ClassId × ClassId × ClassId) (sz : Nat) (h0 : Nat) (P : List Value) (p0 : Int32) (g_P_rules : P[11]? = some (.int 0)) : Met l yX6_hasRule (WS yX6_hasRule cX6_hasRule 2 (some .boolean)) ({ frames := 0, cells := 0, slots := 0, locals := 0 }) (va_Pc [.ref h0, .int p0] (cP D k [(h0, .inr (6, P))] sz)) (va_Qi (fun (r : Int32) (_ : Unit) => r = 0) (fun (_ : Unit) t => cB D (va_A [(h0, .inr (6, P))] sz) [(h0, .inr (6, P))] t) (va_A [(h0, .inr (6, P))] sz)) 0 0 (va_A [(h0, .inr (6, P))] sz) := by
  refine Met.ofW (cc := cX6_hasRule) (maxL := 2) (ret := (some .boolean)) (by decide) rfl ?_
  intro p e s m args below meth c s₁ B hml hv
  obtain ⟨rfl, hsz, hP, hKX, hD0⟩ := hv
  have hK := hKX.1
  have hx := B.exec
  have hb := B.bytes
  have hr := B.returns
  have hts := atoms_spec (ws := WS yX6_hasRule cX6_hasRule 2 (some .boolean)) B.pre
  have hgd : ∀ w ∈ gd, w ∈ WS yX6_hasRule cX6_hasRule 2 (some .boolean) := fun w h => List.mem_cons_of_mem _ h
  have hg : ∀ w ∈ gd, w.before _ s = true := fun w h => hts w (hgd w h)
  have hown : s.vm.findClass RX6 = some m.cls := findClass_of_methodNamed B.named
  have hlocks := B.notSynchronized
  subst hsz
  have hD := hD0.self (sz := s.heap.size)
  generalize hAe : va_A [(h0, .inr (6, P))] s.heap.size = A at hD ⊢
  have hA : ∀ q : Nat, s.heap.size ≤ q → A q := fun q h => by rw [← hAe]; exact Or.inr h
  have hS : va_S A s.heap s.heap [] := va_S.rf
  have hP : va_P D classes [(h0, .inr (6, P))] s.heap := hP
  have hl := lv_entry ([.ref h0, .int p0]) (n := 2) (Nat.le_of_ble_eq_true rfl)
  rw [lg_entry_eq]
  generalize (lg_sl ([.ref h0, .int p0]) ++ List.replicate (2 - (lg_sl ([.ref h0, .int p0])).length) Slot.unset).toArray = ls at hl ⊢
  have hl : lv_has ls 2 [(0, .ref h0), (1, .int p0)] := hl
  refine lv_iload_n hx hb dX6_hasRule_0 rfl (lv_at hl 1 rfl) ?_
  refine lv_if_lt (tgt := 22) hx hb dX6_hasRule_1 (by decide) (fun c_1 => ?_) (fun c_1 => ?_)
  · have c_1 : (p0 : Int32) < 0 := c_1
    refine lv_iconst (v := 0) hx hb dX6_hasRule_22 (by decide) ?_
    have hP9 := hP.sub (ws' := [(h0, .inr (6, P))]) [0] rfl
    have hD9 := hD.sub (ws' := [(h0, .inr (6, P))]) [0] (by decide) rfl
    exact W.zret (v := 0) hx hb hr (by decide) (fun t ht hW => ⟨⟨0, (), rfl, rfl, cB_of ht hP9 hD9⟩, hS.F ht⟩) hS.2.2 dX6_hasRule_23
  · have c_1 : ¬ ((p0 : Int32) < 0) := c_1
    refine lv_iload_n hx hb dX6_hasRule_4 rfl (lv_at hl 1 rfl) ?_
    refine lv_aload_n hx hb dX6_hasRule_5 rfl (lv_at hl 0 rfl) ?_
    refine va_get (D := D) (ci := 6) (v := .int 0) (C := RX6) (T := TX6) (N := 17) hx hb hg iX6 hown hK hP 0 rfl rfl 11 (by decide) (hg (Cond.fieldLink RX6 49 "SlabWalk$Paving" "rules" "I") m192) (fun _ h9 => h9) g_P_rules dX6_hasRule_6 ?_
    refine lv_icmp_ge (tgt := 22) hx hb dX6_hasRule_9 (by decide) (fun c_2 => ?_) (fun c_2 => ?_)
    · have c_2 : (0 : Int32) ≤ p0 := c_2
      refine lv_iconst (v := 0) hx hb dX6_hasRule_22 (by decide) ?_
      have hP9 := hP.sub (ws' := [(h0, .inr (6, P))]) [0] rfl
      have hD9 := hD.sub (ws' := [(h0, .inr (6, P))]) [0] (by decide) rfl
      exact W.zret (v := 0) hx hb hr (by decide) (fun t ht hW => ⟨⟨0, (), rfl, rfl, cB_of ht hP9 hD9⟩, hS.F ht⟩) hS.2.2 dX6_hasRule_23
    · exact absurd (Int32.not_lt.mp c_1) c_2

set_option maxHeartbeats 4000000 in
set_option maxRecDepth 100000 in
theorem c_hasInch (l : Launch) (D : va_G) (k : ClassId × ClassId × ClassId × ClassId) (sz : Nat) (h0 : Nat) (P : List Value) (p0 p1 : Int32) (g_P_streets : P[9]? = some (.int 0)) : Met l yX6_hasInch (WS yX6_hasInch cX6_hasInch 3 (some .boolean)) ({ frames := 1, cells := 0, slots := 0, locals := 21 }) (va_Pc [.ref h0, .int p0, .int p1] (cP D k [(h0, .inr (6, P))] sz)) (va_Qi (fun (r : Int32) (_ : Unit) => r = 0) (fun (_ : Unit) t => cB D (va_A [(h0, .inr (6, P))] sz) [(h0, .inr (6, P))] t) (va_A [(h0, .inr (6, P))] sz)) 0 0 (va_A [(h0, .inr (6, P))] sz) := by
  refine Met.ofW (cc := cX6_hasInch) (maxL := 3) (ret := (some .boolean)) (by decide) rfl ?_
  intro p e s m args below meth c s₁ B hml hv
  obtain ⟨rfl, hsz, hP, hKX, hD0⟩ := hv
  have hK := hKX.1
  have hx := B.exec
  have hb := B.bytes
  have hr := B.returns
  have hts := atoms_spec (ws := WS yX6_hasInch cX6_hasInch 3 (some .boolean)) B.pre
  have hgd : ∀ w ∈ gd, w ∈ WS yX6_hasInch cX6_hasInch 3 (some .boolean) := fun w h => List.mem_cons_of_mem _ h
  have hg : ∀ w ∈ gd, w.before _ s = true := fun w h => hts w (hgd w h)
  have hown : s.vm.findClass RX6 = some m.cls := findClass_of_methodNamed B.named
  have hlocks := B.notSynchronized
  subst hsz
  have hD := hD0.self (sz := s.heap.size)
  generalize hAe : va_A [(h0, .inr (6, P))] s.heap.size = A at hD ⊢
  have hA : ∀ q : Nat, s.heap.size ≤ q → A q := fun q h => by rw [← hAe]; exact Or.inr h
  have hS : va_S A s.heap s.heap [] := va_S.rf
  have hP : va_P D classes [(h0, .inr (6, P))] s.heap := hP
  have hl := lv_entry ([.ref h0, .int p0, .int p1]) (n := 3) (Nat.le_of_ble_eq_true rfl)
  rw [lg_entry_eq]
  generalize (lg_sl ([.ref h0, .int p0, .int p1]) ++ List.replicate (3 - (lg_sl ([.ref h0, .int p0, .int p1])).length) Slot.unset).toArray = ls at hl ⊢
  have hl : lv_has ls 3 [(0, .ref h0), (1, .int p0), (2, .int p1)] := hl
  refine lv_aload_n hx hb dX6_hasInch_0 rfl (lv_at hl 0 rfl) ?_
  refine lv_iload_n hx hb dX6_hasInch_1 rfl (lv_at hl 1 rfl) ?_
  have hPc := hP.sub (ws' := [(h0, .inr (6, P))]) [0] rfl
  have hDc := hD.sub (ws' := [(h0, .inr (6, P))]) [0] (by decide) rfl
  have hFc := va_free (wc := [(h0, .inr (6, P))]) hD hS hA [0] rfl
  refine va_calli (va_runV (As := [.int p0]) (rest := []) ⟨hx, hb, hml, hown, hts⟩ (c_hasStreet l D k s.heap.size h0 P p0 g_P_streets) (cwV 1 hts (gd_V hgd m886 m887 m888 m118 m889) rfl rfl rfl (by decide +kernel) ⟨Nat.le_of_ble_eq_true rfl, Nat.le_of_ble_eq_true rfl⟩) (cP_V hPc hKX hDc (ci := 6) (q0 := 0) rfl rfl) rfl rfl hl.1 rfl (lv_room (Nat.le_of_ble_eq_true rfl)) dX6_hasInch_2 ⟨Nat.le_of_ble_eq_true rfl, Nat.le_of_ble_eq_true rfl⟩) hS (fun q _ h => hFc q h) hFc (fun r_1 u t H1 locs ht hvm hw hB hz1 hk1 hS => ?_)
  obtain ⟨hP1, hD1⟩ := hB
  rw [ht] at hP1
  obtain ⟨hP, hD⟩ := va_join (wr := []) (w1 := [(h0, .inr (6, P))]) hP hD [0] [] rfl rfl (by decide) (by decide) hk1 hFc hP1 hD1
  generalize H1 = H at hP hS ⊢
  have hP : va_P D classes [(h0, .inr (6, P))] H := hP
  have hD : va_D A [(h0, .inr (6, P))] := hD
  refine W.widen (k := 0) (n := 0) (Nat.le_of_ble_eq_true rfl) (Nat.le_of_ble_eq_true rfl) ?_
  subst hw
  refine lv_if_eq (tgt := 26) hx hb dX6_hasInch_5 (by decide) (fun c_2 => ?_) (fun c_2 => ?_)
  · have c_2 : (0 : Int32) = 0 := c_2
    refine lv_iconst (v := 0) hx hb dX6_hasInch_26 (by decide) ?_
    have hP9 := hP.sub (ws' := [(h0, .inr (6, P))]) [0] rfl
    have hD9 := hD.sub (ws' := [(h0, .inr (6, P))]) [0] (by decide) rfl
    exact W.zret (v := 0) hx hb hr (by decide) (fun t ht hW => ⟨⟨0, (), rfl, rfl, cB_of ht hP9 hD9⟩, hS.F ht⟩) hS.2.2 dX6_hasInch_27
  · exact absurd (by decide) c_2

set_option maxHeartbeats 4000000 in
set_option maxRecDepth 100000 in
theorem c_stands (l : Launch) (D : va_G) (k : ClassId × ClassId × ClassId × ClassId) (sz : Nat) (h0 : Nat) (P : List Value) (p0 p1 p2 : Int32) (g_P_walkers : P[10]? = some (.int 0)) : Met l yX6_stands (WS yX6_stands cX6_stands 4 (some .boolean)) ({ frames := 1, cells := 0, slots := 0, locals := 21 }) (va_Pc [.ref h0, .int p0, .int p1, .int p2] (cP D k [(h0, .inr (6, P))] sz)) (va_Qi (fun (r : Int32) (_ : Unit) => r = 0) (fun (_ : Unit) t => cB D (va_A [(h0, .inr (6, P))] sz) [(h0, .inr (6, P))] t) (va_A [(h0, .inr (6, P))] sz)) 0 0 (va_A [(h0, .inr (6, P))] sz) := by
  refine Met.ofW (cc := cX6_stands) (maxL := 4) (ret := (some .boolean)) (by decide) rfl ?_
  intro p e s m args below meth c s₁ B hml hv
  obtain ⟨rfl, hsz, hP, hKX, hD0⟩ := hv
  have hK := hKX.1
  have hx := B.exec
  have hb := B.bytes
  have hr := B.returns
  have hts := atoms_spec (ws := WS yX6_stands cX6_stands 4 (some .boolean)) B.pre
  have hgd : ∀ w ∈ gd, w ∈ WS yX6_stands cX6_stands 4 (some .boolean) := fun w h => List.mem_cons_of_mem _ h
  have hg : ∀ w ∈ gd, w.before _ s = true := fun w h => hts w (hgd w h)
  have hown : s.vm.findClass RX6 = some m.cls := findClass_of_methodNamed B.named
  have hlocks := B.notSynchronized
  subst hsz
  have hD := hD0.self (sz := s.heap.size)
  generalize hAe : va_A [(h0, .inr (6, P))] s.heap.size = A at hD ⊢
  have hA : ∀ q : Nat, s.heap.size ≤ q → A q := fun q h => by rw [← hAe]; exact Or.inr h
  have hS : va_S A s.heap s.heap [] := va_S.rf
  have hP : va_P D classes [(h0, .inr (6, P))] s.heap := hP
  have hl := lv_entry ([.ref h0, .int p0, .int p1, .int p2]) (n := 4) (Nat.le_of_ble_eq_true rfl)
  rw [lg_entry_eq]
  generalize (lg_sl ([.ref h0, .int p0, .int p1, .int p2]) ++ List.replicate (4 - (lg_sl ([.ref h0, .int p0, .int p1, .int p2])).length) Slot.unset).toArray = ls at hl ⊢
  have hl : lv_has ls 4 [(0, .ref h0), (1, .int p0), (2, .int p1), (3, .int p2)] := hl
  refine lv_aload_n hx hb dX6_stands_0 rfl (lv_at hl 0 rfl) ?_
  refine lv_iload_n hx hb dX6_stands_1 rfl (lv_at hl 1 rfl) ?_
  have hPc := hP.sub (ws' := [(h0, .inr (6, P))]) [0] rfl
  have hDc := hD.sub (ws' := [(h0, .inr (6, P))]) [0] (by decide) rfl
  have hFc := va_free (wc := [(h0, .inr (6, P))]) hD hS hA [0] rfl
  refine va_calli (va_runV (As := [.int p0]) (rest := []) ⟨hx, hb, hml, hown, hts⟩ (c_hasWalker l D k s.heap.size h0 P p0 g_P_walkers) (cwV 1 hts (gd_V hgd m969 m958 m959 m118 m960) rfl rfl rfl (by decide +kernel) ⟨Nat.le_of_ble_eq_true rfl, Nat.le_of_ble_eq_true rfl⟩) (cP_V hPc hKX hDc (ci := 6) (q0 := 0) rfl rfl) rfl rfl hl.1 rfl (lv_room (Nat.le_of_ble_eq_true rfl)) dX6_stands_2 ⟨Nat.le_of_ble_eq_true rfl, Nat.le_of_ble_eq_true rfl⟩) hS (fun q _ h => hFc q h) hFc (fun r_1 u t H1 locs ht hvm hw hB hz1 hk1 hS => ?_)
  obtain ⟨hP1, hD1⟩ := hB
  rw [ht] at hP1
  obtain ⟨hP, hD⟩ := va_join (wr := []) (w1 := [(h0, .inr (6, P))]) hP hD [0] [] rfl rfl (by decide) (by decide) hk1 hFc hP1 hD1
  generalize H1 = H at hP hS ⊢
  have hP : va_P D classes [(h0, .inr (6, P))] H := hP
  have hD : va_D A [(h0, .inr (6, P))] := hD
  refine W.widen (k := 0) (n := 0) (Nat.le_of_ble_eq_true rfl) (Nat.le_of_ble_eq_true rfl) ?_
  subst hw
  refine lv_if_eq (tgt := 41) hx hb dX6_stands_5 (by decide) (fun c_2 => ?_) (fun c_2 => ?_)
  · have c_2 : (0 : Int32) = 0 := c_2
    refine lv_iconst (v := 0) hx hb dX6_stands_41 (by decide) ?_
    have hP9 := hP.sub (ws' := [(h0, .inr (6, P))]) [0] rfl
    have hD9 := hD.sub (ws' := [(h0, .inr (6, P))]) [0] (by decide) rfl
    exact W.zret (v := 0) hx hb hr (by decide) (fun t ht hW => ⟨⟨0, (), rfl, rfl, cB_of ht hP9 hD9⟩, hS.F ht⟩) hS.2.2 dX6_stands_42
  · exact absurd (by decide) c_2
