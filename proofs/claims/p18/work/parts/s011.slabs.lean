

set_option maxHeartbeats 4000000 in
set_option maxRecDepth 100000 in
theorem c_endless_ok (l : Launch) (D : va_G) (k : KT) (sz : Nat) (n0 n1 n2 : Nat) (ob1 : 1 ≤ n0) (ob2 : n0 ≤ 60) (ob3 : n1 ≤ 9) (ob4 : 1 ≤ n2) (ob5 : n2 ≤ 12) : Met l yX11_isEndless (WS yX11_isEndless cX11_isEndless 3 (some .boolean)) ({ frames := 0, cells := 0, slots := 0, locals := 0 }) (va_Pc [.int (nI n0), .int (nI n1), .int (nI n2)] (cQ D k [] sz)) (va_Qi (fun (r : Int32) (_ : Unit) => r = 1) (fun (_ : Unit) t => cB D (va_A [] sz) [] t) (va_A [] sz)) 0 0 (va_A [] sz) := by
  refine Met.ofW (cc := cX11_isEndless) (maxL := 3) (ret := (some .boolean)) (by decide) rfl ?_
  intro p e s m args below meth c s₁ B hml hv
  obtain ⟨rfl, hsz, hP, hKX, hD0⟩ := hv
  have hK := hKX.1
  have hx := B.exec
  have hb := B.bytes
  have hr := B.returns
  have hts := atoms_spec (ws := WS yX11_isEndless cX11_isEndless 3 (some .boolean)) B.pre
  have hgd : ∀ w ∈ gd, w ∈ WS yX11_isEndless cX11_isEndless 3 (some .boolean) := fun w h => List.mem_cons_of_mem _ h
  have hg : ∀ w ∈ gd, w.before _ s = true := fun w h => hts w (hgd w h)
  have hown : s.vm.findClass RX11 = some m.cls := findClass_of_methodNamed B.named
  have hlocks := B.notSynchronized
  subst hsz
  have hD := hD0.self (sz := s.heap.size)
  generalize hAe : va_A [] s.heap.size = A at hD ⊢
  have hA : ∀ q : Nat, s.heap.size ≤ q → A q := fun q h => by rw [← hAe]; exact Or.inr h
  have hS : va_S A s.heap s.heap [] := va_S.rf
  have hP : va_P D classes [] s.heap := hP
  have hl := lv_entry ([.int (nI n0), .int (nI n1), .int (nI n2)]) (n := 3) (Nat.le_of_ble_eq_true rfl)
  rw [lg_entry_eq]
  generalize (lg_sl ([.int (nI n0), .int (nI n1), .int (nI n2)]) ++ List.replicate (3 - (lg_sl ([.int (nI n0), .int (nI n1), .int (nI n2)])).length) Slot.unset).toArray = ls at hl ⊢
  have hl : lv_has ls 3 [(0, .int (nI n0)), (1, .int (nI n1)), (2, .int (nI n2))] := hl
  refine lv_iload_n hx hb dX11_isEndless_0 rfl (lv_at hl 0 rfl) ?_
  refine lv_iconst (v := 1) hx hb dX11_isEndless_1 (by decide) ?_
  refine lv_icmp_lt (tgt := 36) hx hb dX11_isEndless_2 (by decide) (fun c_1 => ?_) (fun c_1 => ?_)
  · exact absurd c_1 (nI_nlt (a := n0) (b := 1) (by omega) (by omega))
  · have c_1 : ¬ (((nI n0) : Int32) < 1) := c_1
    refine lv_iload_n hx hb dX11_isEndless_5 rfl (lv_at hl 0 rfl) ?_
    refine lv_bipush (v := 60) hx hb dX11_isEndless_6 (by decide) ?_
    refine lv_icmp_gt (tgt := 36) hx hb dX11_isEndless_8 (by decide) (fun c_2 => ?_) (fun c_2 => ?_)
    · exact absurd c_2 (nI_nlt (a := 60) (b := n0) (by omega) (by omega))
    · have c_2 : ¬ ((60 : Int32) < (nI n0)) := c_2
      refine lv_iload_n hx hb dX11_isEndless_11 rfl (lv_at hl 1 rfl) ?_
      refine lv_if_lt (tgt := 36) hx hb dX11_isEndless_12 (by decide) (fun c_3 => ?_) (fun c_3 => ?_)
      · exact absurd c_3 (nI_nlt (a := n1) (b := 0) (by omega) (by omega))
      · have c_3 : ¬ (((nI n1) : Int32) < 0) := c_3
        refine lv_iload_n hx hb dX11_isEndless_15 rfl (lv_at hl 1 rfl) ?_
        refine lv_bipush (v := 9) hx hb dX11_isEndless_16 (by decide) ?_
        refine lv_icmp_gt (tgt := 36) hx hb dX11_isEndless_18 (by decide) (fun c_4 => ?_) (fun c_4 => ?_)
        · exact absurd c_4 (nI_nlt (a := 9) (b := n1) (by omega) (by omega))
        · have c_4 : ¬ ((9 : Int32) < (nI n1)) := c_4
          refine lv_iload_n hx hb dX11_isEndless_21 rfl (lv_at hl 2 rfl) ?_
          refine lv_iconst (v := 1) hx hb dX11_isEndless_22 (by decide) ?_
          refine lv_icmp_lt (tgt := 36) hx hb dX11_isEndless_23 (by decide) (fun c_5 => ?_) (fun c_5 => ?_)
          · exact absurd c_5 (nI_nlt (a := n2) (b := 1) (by omega) (by omega))
          · have c_5 : ¬ (((nI n2) : Int32) < 1) := c_5
            refine lv_iload_n hx hb dX11_isEndless_26 rfl (lv_at hl 2 rfl) ?_
            refine lv_bipush (v := 12) hx hb dX11_isEndless_27 (by decide) ?_
            refine lv_icmp_gt (tgt := 36) hx hb dX11_isEndless_29 (by decide) (fun c_6 => ?_) (fun c_6 => ?_)
            · exact absurd c_6 (nI_nlt (a := 12) (b := n2) (by omega) (by omega))
            · have c_6 : ¬ ((12 : Int32) < (nI n2)) := c_6
              refine lv_iconst (v := 1) hx hb dX11_isEndless_32 (by decide) ?_
              refine lv_goto (tgt := 37) hx hb dX11_isEndless_33 (by decide) ?_
              have hP9 := hP.sub (ws' := []) [] rfl
              have hD9 := hD.sub (ws' := []) [] (by decide) rfl
              exact W.zret (v := 1) hx hb hr (by decide) (fun t ht hW => ⟨⟨1, (), rfl, rfl, cB_of ht hP9 hD9⟩, hS.F ht⟩) hS.2.2 dX11_isEndless_37

set_option maxHeartbeats 4000000 in
set_option maxRecDepth 100000 in
theorem c_endless (l : Launch) (D : va_G) (k : KT) (sz : Nat) (p0 p1 p2 : Int32)  : Met l yX11_isEndless (WS yX11_isEndless cX11_isEndless 3 (some .boolean)) ({ frames := 0, cells := 0, slots := 0, locals := 0 }) (va_Pc [.int p0, .int p1, .int p2] (cQ D k [] sz)) (va_Qi (fun (r : Int32) (_ : Unit) => r = s_endless p0 p1 p2) (fun (_ : Unit) t => cB D (va_A [] sz) [] t) (va_A [] sz)) 0 0 (va_A [] sz) := by
  refine Met.ofW (cc := cX11_isEndless) (maxL := 3) (ret := (some .boolean)) (by decide) rfl ?_
  intro p e s m args below meth c s₁ B hml hv
  obtain ⟨rfl, hsz, hP, hKX, hD0⟩ := hv
  have hK := hKX.1
  have hx := B.exec
  have hb := B.bytes
  have hr := B.returns
  have hts := atoms_spec (ws := WS yX11_isEndless cX11_isEndless 3 (some .boolean)) B.pre
  have hgd : ∀ w ∈ gd, w ∈ WS yX11_isEndless cX11_isEndless 3 (some .boolean) := fun w h => List.mem_cons_of_mem _ h
  have hg : ∀ w ∈ gd, w.before _ s = true := fun w h => hts w (hgd w h)
  have hown : s.vm.findClass RX11 = some m.cls := findClass_of_methodNamed B.named
  have hlocks := B.notSynchronized
  subst hsz
  have hD := hD0.self (sz := s.heap.size)
  generalize hAe : va_A [] s.heap.size = A at hD ⊢
  have hA : ∀ q : Nat, s.heap.size ≤ q → A q := fun q h => by rw [← hAe]; exact Or.inr h
  have hS : va_S A s.heap s.heap [] := va_S.rf
  have hP : va_P D classes [] s.heap := hP
  have hl := lv_entry ([.int p0, .int p1, .int p2]) (n := 3) (Nat.le_of_ble_eq_true rfl)
  rw [lg_entry_eq]
  generalize (lg_sl ([.int p0, .int p1, .int p2]) ++ List.replicate (3 - (lg_sl ([.int p0, .int p1, .int p2])).length) Slot.unset).toArray = ls at hl ⊢
  have hl : lv_has ls 3 [(0, .int p0), (1, .int p1), (2, .int p2)] := hl
  refine lv_iload_n hx hb dX11_isEndless_0 rfl (lv_at hl 0 rfl) ?_
  refine lv_iconst (v := 1) hx hb dX11_isEndless_1 (by decide) ?_
  refine lv_icmp_lt (tgt := 36) hx hb dX11_isEndless_2 (by decide) (fun c_1 => ?_) (fun c_1 => ?_)
  · have c_1 : (p0 : Int32) < 1 := c_1
    refine lv_iconst (v := 0) hx hb dX11_isEndless_36 (by decide) ?_
    have hP9 := hP.sub (ws' := []) [] rfl
    have hD9 := hD.sub (ws' := []) [] (by decide) rfl
    exact W.zret (v := 0) hx hb hr (by decide) (fun t ht hW => ⟨⟨0, (), rfl, by simp [s_endless, c_1], cB_of ht hP9 hD9⟩, hS.F ht⟩) hS.2.2 dX11_isEndless_37
  · have c_1 : ¬ ((p0 : Int32) < 1) := c_1
    refine lv_iload_n hx hb dX11_isEndless_5 rfl (lv_at hl 0 rfl) ?_
    refine lv_bipush (v := 60) hx hb dX11_isEndless_6 (by decide) ?_
    refine lv_icmp_gt (tgt := 36) hx hb dX11_isEndless_8 (by decide) (fun c_2 => ?_) (fun c_2 => ?_)
    · have c_2 : (60 : Int32) < p0 := c_2
      refine lv_iconst (v := 0) hx hb dX11_isEndless_36 (by decide) ?_
      have hP9 := hP.sub (ws' := []) [] rfl
      have hD9 := hD.sub (ws' := []) [] (by decide) rfl
      exact W.zret (v := 0) hx hb hr (by decide) (fun t ht hW => ⟨⟨0, (), rfl, by simp [s_endless, c_1, c_2], cB_of ht hP9 hD9⟩, hS.F ht⟩) hS.2.2 dX11_isEndless_37
    · have c_2 : ¬ ((60 : Int32) < p0) := c_2
      refine lv_iload_n hx hb dX11_isEndless_11 rfl (lv_at hl 1 rfl) ?_
      refine lv_if_lt (tgt := 36) hx hb dX11_isEndless_12 (by decide) (fun c_3 => ?_) (fun c_3 => ?_)
      · have c_3 : (p1 : Int32) < 0 := c_3
        refine lv_iconst (v := 0) hx hb dX11_isEndless_36 (by decide) ?_
        have hP9 := hP.sub (ws' := []) [] rfl
        have hD9 := hD.sub (ws' := []) [] (by decide) rfl
        exact W.zret (v := 0) hx hb hr (by decide) (fun t ht hW => ⟨⟨0, (), rfl, by simp [s_endless, c_1, c_2, c_3], cB_of ht hP9 hD9⟩, hS.F ht⟩) hS.2.2 dX11_isEndless_37
      · have c_3 : ¬ ((p1 : Int32) < 0) := c_3
        refine lv_iload_n hx hb dX11_isEndless_15 rfl (lv_at hl 1 rfl) ?_
        refine lv_bipush (v := 9) hx hb dX11_isEndless_16 (by decide) ?_
        refine lv_icmp_gt (tgt := 36) hx hb dX11_isEndless_18 (by decide) (fun c_4 => ?_) (fun c_4 => ?_)
        · have c_4 : (9 : Int32) < p1 := c_4
          refine lv_iconst (v := 0) hx hb dX11_isEndless_36 (by decide) ?_
          have hP9 := hP.sub (ws' := []) [] rfl
          have hD9 := hD.sub (ws' := []) [] (by decide) rfl
          exact W.zret (v := 0) hx hb hr (by decide) (fun t ht hW => ⟨⟨0, (), rfl, by simp [s_endless, c_1, c_2, c_3, c_4], cB_of ht hP9 hD9⟩, hS.F ht⟩) hS.2.2 dX11_isEndless_37
        · have c_4 : ¬ ((9 : Int32) < p1) := c_4
          refine lv_iload_n hx hb dX11_isEndless_21 rfl (lv_at hl 2 rfl) ?_
          refine lv_iconst (v := 1) hx hb dX11_isEndless_22 (by decide) ?_
          refine lv_icmp_lt (tgt := 36) hx hb dX11_isEndless_23 (by decide) (fun c_5 => ?_) (fun c_5 => ?_)
          · have c_5 : (p2 : Int32) < 1 := c_5
            refine lv_iconst (v := 0) hx hb dX11_isEndless_36 (by decide) ?_
            have hP9 := hP.sub (ws' := []) [] rfl
            have hD9 := hD.sub (ws' := []) [] (by decide) rfl
            exact W.zret (v := 0) hx hb hr (by decide) (fun t ht hW => ⟨⟨0, (), rfl, by simp [s_endless, c_1, c_2, c_3, c_4, c_5], cB_of ht hP9 hD9⟩, hS.F ht⟩) hS.2.2 dX11_isEndless_37
          · have c_5 : ¬ ((p2 : Int32) < 1) := c_5
            refine lv_iload_n hx hb dX11_isEndless_26 rfl (lv_at hl 2 rfl) ?_
            refine lv_bipush (v := 12) hx hb dX11_isEndless_27 (by decide) ?_
            refine lv_icmp_gt (tgt := 36) hx hb dX11_isEndless_29 (by decide) (fun c_6 => ?_) (fun c_6 => ?_)
            · have c_6 : (12 : Int32) < p2 := c_6
              refine lv_iconst (v := 0) hx hb dX11_isEndless_36 (by decide) ?_
              have hP9 := hP.sub (ws' := []) [] rfl
              have hD9 := hD.sub (ws' := []) [] (by decide) rfl
              exact W.zret (v := 0) hx hb hr (by decide) (fun t ht hW => ⟨⟨0, (), rfl, by simp [s_endless, c_1, c_2, c_3, c_4, c_5, c_6], cB_of ht hP9 hD9⟩, hS.F ht⟩) hS.2.2 dX11_isEndless_37
            · have c_6 : ¬ ((12 : Int32) < p2) := c_6
              refine lv_iconst (v := 1) hx hb dX11_isEndless_32 (by decide) ?_
              refine lv_goto (tgt := 37) hx hb dX11_isEndless_33 (by decide) ?_
              have hP9 := hP.sub (ws' := []) [] rfl
              have hD9 := hD.sub (ws' := []) [] (by decide) rfl
              exact W.zret (v := 1) hx hb hr (by decide) (fun t ht hW => ⟨⟨1, (), rfl, by simp [s_endless, c_1, c_2, c_3, c_4, c_5, c_6], cB_of ht hP9 hD9⟩, hS.F ht⟩) hS.2.2 dX11_isEndless_37

set_option maxHeartbeats 4000000 in
set_option maxRecDepth 100000 in
theorem c_isIn_ok (l : Launch) (D : va_G) (k : KT) (sz : Nat) (p0 p1 p2 : Int32) (h_a : ¬ (p0 < p1)) (h_b : ¬ (p2 < p0)) : Met l yX12_isIn (WS yX12_isIn cX12_isIn 3 (some .boolean)) ({ frames := 0, cells := 0, slots := 0, locals := 0 }) (va_Pc [.int p0, .int p1, .int p2] (cQ D k [] sz)) (va_Qi (fun (r : Int32) (_ : Unit) => r = 1) (fun (_ : Unit) t => cB D (va_A [] sz) [] t) (va_A [] sz)) 0 0 (va_A [] sz) := by
  refine Met.ofW (cc := cX12_isIn) (maxL := 3) (ret := (some .boolean)) (by decide) rfl ?_
  intro p e s m args below meth c s₁ B hml hv
  obtain ⟨rfl, hsz, hP, hKX, hD0⟩ := hv
  have hK := hKX.1
  have hx := B.exec
  have hb := B.bytes
  have hr := B.returns
  have hts := atoms_spec (ws := WS yX12_isIn cX12_isIn 3 (some .boolean)) B.pre
  have hgd : ∀ w ∈ gd, w ∈ WS yX12_isIn cX12_isIn 3 (some .boolean) := fun w h => List.mem_cons_of_mem _ h
  have hg : ∀ w ∈ gd, w.before _ s = true := fun w h => hts w (hgd w h)
  have hown : s.vm.findClass RX12 = some m.cls := findClass_of_methodNamed B.named
  have hlocks := B.notSynchronized
  subst hsz
  have hD := hD0.self (sz := s.heap.size)
  generalize hAe : va_A [] s.heap.size = A at hD ⊢
  have hA : ∀ q : Nat, s.heap.size ≤ q → A q := fun q h => by rw [← hAe]; exact Or.inr h
  have hS : va_S A s.heap s.heap [] := va_S.rf
  have hP : va_P D classes [] s.heap := hP
  have hl := lv_entry ([.int p0, .int p1, .int p2]) (n := 3) (Nat.le_of_ble_eq_true rfl)
  rw [lg_entry_eq]
  generalize (lg_sl ([.int p0, .int p1, .int p2]) ++ List.replicate (3 - (lg_sl ([.int p0, .int p1, .int p2])).length) Slot.unset).toArray = ls at hl ⊢
  have hl : lv_has ls 3 [(0, .int p0), (1, .int p1), (2, .int p2)] := hl
  refine lv_iload_n hx hb dX12_isIn_0 rfl (lv_at hl 0 rfl) ?_
  refine lv_iload_n hx hb dX12_isIn_1 rfl (lv_at hl 1 rfl) ?_
  refine lv_icmp_lt (tgt := 14) hx hb dX12_isIn_2 (by decide) (fun c_1 => ?_) (fun c_1 => ?_)
  · exact absurd c_1 h_a
  · have c_1 : ¬ ((p0 : Int32) < p1) := c_1
    refine lv_iload_n hx hb dX12_isIn_5 rfl (lv_at hl 0 rfl) ?_
    refine lv_iload_n hx hb dX12_isIn_6 rfl (lv_at hl 2 rfl) ?_
    refine lv_icmp_gt (tgt := 14) hx hb dX12_isIn_7 (by decide) (fun c_2 => ?_) (fun c_2 => ?_)
    · exact absurd c_2 h_b
    · have c_2 : ¬ ((p2 : Int32) < p0) := c_2
      refine lv_iconst (v := 1) hx hb dX12_isIn_10 (by decide) ?_
      refine lv_goto (tgt := 15) hx hb dX12_isIn_11 (by decide) ?_
      have hP9 := hP.sub (ws' := []) [] rfl
      have hD9 := hD.sub (ws' := []) [] (by decide) rfl
      exact W.zret (v := 1) hx hb hr (by decide) (fun t ht hW => ⟨⟨1, (), rfl, rfl, cB_of ht hP9 hD9⟩, hS.F ht⟩) hS.2.2 dX12_isIn_15

set_option maxHeartbeats 4000000 in
set_option maxRecDepth 100000 in
theorem c_isIn (l : Launch) (D : va_G) (k : KT) (sz : Nat) (p0 p1 p2 : Int32)  : Met l yX12_isIn (WS yX12_isIn cX12_isIn 3 (some .boolean)) ({ frames := 0, cells := 0, slots := 0, locals := 0 }) (va_Pc [.int p0, .int p1, .int p2] (cQ D k [] sz)) (va_Qi (fun (r : Int32) (_ : Unit) => r = s_in p0 p1 p2) (fun (_ : Unit) t => cB D (va_A [] sz) [] t) (va_A [] sz)) 0 0 (va_A [] sz) := by
  refine Met.ofW (cc := cX12_isIn) (maxL := 3) (ret := (some .boolean)) (by decide) rfl ?_
  intro p e s m args below meth c s₁ B hml hv
  obtain ⟨rfl, hsz, hP, hKX, hD0⟩ := hv
  have hK := hKX.1
  have hx := B.exec
  have hb := B.bytes
  have hr := B.returns
  have hts := atoms_spec (ws := WS yX12_isIn cX12_isIn 3 (some .boolean)) B.pre
  have hgd : ∀ w ∈ gd, w ∈ WS yX12_isIn cX12_isIn 3 (some .boolean) := fun w h => List.mem_cons_of_mem _ h
  have hg : ∀ w ∈ gd, w.before _ s = true := fun w h => hts w (hgd w h)
  have hown : s.vm.findClass RX12 = some m.cls := findClass_of_methodNamed B.named
  have hlocks := B.notSynchronized
  subst hsz
  have hD := hD0.self (sz := s.heap.size)
  generalize hAe : va_A [] s.heap.size = A at hD ⊢
  have hA : ∀ q : Nat, s.heap.size ≤ q → A q := fun q h => by rw [← hAe]; exact Or.inr h
  have hS : va_S A s.heap s.heap [] := va_S.rf
  have hP : va_P D classes [] s.heap := hP
  have hl := lv_entry ([.int p0, .int p1, .int p2]) (n := 3) (Nat.le_of_ble_eq_true rfl)
  rw [lg_entry_eq]
  generalize (lg_sl ([.int p0, .int p1, .int p2]) ++ List.replicate (3 - (lg_sl ([.int p0, .int p1, .int p2])).length) Slot.unset).toArray = ls at hl ⊢
  have hl : lv_has ls 3 [(0, .int p0), (1, .int p1), (2, .int p2)] := hl
  refine lv_iload_n hx hb dX12_isIn_0 rfl (lv_at hl 0 rfl) ?_
  refine lv_iload_n hx hb dX12_isIn_1 rfl (lv_at hl 1 rfl) ?_
  refine lv_icmp_lt (tgt := 14) hx hb dX12_isIn_2 (by decide) (fun c_1 => ?_) (fun c_1 => ?_)
  · have c_1 : (p0 : Int32) < p1 := c_1
    refine lv_iconst (v := 0) hx hb dX12_isIn_14 (by decide) ?_
    have hP9 := hP.sub (ws' := []) [] rfl
    have hD9 := hD.sub (ws' := []) [] (by decide) rfl
    exact W.zret (v := 0) hx hb hr (by decide) (fun t ht hW => ⟨⟨0, (), rfl, by simp [s_in, c_1], cB_of ht hP9 hD9⟩, hS.F ht⟩) hS.2.2 dX12_isIn_15
  · have c_1 : ¬ ((p0 : Int32) < p1) := c_1
    refine lv_iload_n hx hb dX12_isIn_5 rfl (lv_at hl 0 rfl) ?_
    refine lv_iload_n hx hb dX12_isIn_6 rfl (lv_at hl 2 rfl) ?_
    refine lv_icmp_gt (tgt := 14) hx hb dX12_isIn_7 (by decide) (fun c_2 => ?_) (fun c_2 => ?_)
    · have c_2 : (p2 : Int32) < p0 := c_2
      refine lv_iconst (v := 0) hx hb dX12_isIn_14 (by decide) ?_
      have hP9 := hP.sub (ws' := []) [] rfl
      have hD9 := hD.sub (ws' := []) [] (by decide) rfl
      exact W.zret (v := 0) hx hb hr (by decide) (fun t ht hW => ⟨⟨0, (), rfl, by simp [s_in, c_1, c_2], cB_of ht hP9 hD9⟩, hS.F ht⟩) hS.2.2 dX12_isIn_15
    · have c_2 : ¬ ((p2 : Int32) < p0) := c_2
      refine lv_iconst (v := 1) hx hb dX12_isIn_10 (by decide) ?_
      refine lv_goto (tgt := 15) hx hb dX12_isIn_11 (by decide) ?_
      have hP9 := hP.sub (ws' := []) [] rfl
      have hD9 := hD.sub (ws' := []) [] (by decide) rfl
      exact W.zret (v := 1) hx hb hr (by decide) (fun t ht hW => ⟨⟨1, (), rfl, by simp [s_in, c_1, c_2], cB_of ht hP9 hD9⟩, hS.F ht⟩) hS.2.2 dX12_isIn_15

set_option maxHeartbeats 4000000 in
set_option maxRecDepth 100000 in
theorem c_slabs_ok (l : Launch) (D : va_G) (k : KT) (sz : Nat) (n0 n1 n2 : Nat) (ob1 : 1 ≤ n0) (ob2 : n0 ≤ 60) (ob3 : n1 ≤ 9) (ob4 : 1 ≤ n2) (ob5 : n2 ≤ 12) : Met l yX12_areSlabs (WS yX12_areSlabs cX12_areSlabs 3 (some .boolean)) ({ frames := 1, cells := 0, slots := 0, locals := 22 }) (va_Pc [.int (nI n0), .int (nI n1), .int (nI n2)] (cQ D k [] sz)) (va_Qi (fun (r : Int32) (_ : Unit) => r = 1) (fun (_ : Unit) t => cB D (va_A [] sz) [] t) (va_A [] sz)) 0 0 (va_A [] sz) := by
  refine Met.ofW (cc := cX12_areSlabs) (maxL := 3) (ret := (some .boolean)) (by decide) rfl ?_
  intro p e s m args below meth c s₁ B hml hv
  obtain ⟨rfl, hsz, hP, hKX, hD0⟩ := hv
  have hK := hKX.1
  have hx := B.exec
  have hb := B.bytes
  have hr := B.returns
  have hts := atoms_spec (ws := WS yX12_areSlabs cX12_areSlabs 3 (some .boolean)) B.pre
  have hgd : ∀ w ∈ gd, w ∈ WS yX12_areSlabs cX12_areSlabs 3 (some .boolean) := fun w h => List.mem_cons_of_mem _ h
  have hg : ∀ w ∈ gd, w.before _ s = true := fun w h => hts w (hgd w h)
  have hown : s.vm.findClass RX12 = some m.cls := findClass_of_methodNamed B.named
  have hlocks := B.notSynchronized
  subst hsz
  have hD := hD0.self (sz := s.heap.size)
  generalize hAe : va_A [] s.heap.size = A at hD ⊢
  have hA : ∀ q : Nat, s.heap.size ≤ q → A q := fun q h => by rw [← hAe]; exact Or.inr h
  have hS : va_S A s.heap s.heap [] := va_S.rf
  have hP : va_P D classes [] s.heap := hP
  have hl := lv_entry ([.int (nI n0), .int (nI n1), .int (nI n2)]) (n := 3) (Nat.le_of_ble_eq_true rfl)
  rw [lg_entry_eq]
  generalize (lg_sl ([.int (nI n0), .int (nI n1), .int (nI n2)]) ++ List.replicate (3 - (lg_sl ([.int (nI n0), .int (nI n1), .int (nI n2)])).length) Slot.unset).toArray = ls at hl ⊢
  have hl : lv_has ls 3 [(0, .int (nI n0)), (1, .int (nI n1)), (2, .int (nI n2))] := hl
  refine lv_iload_n hx hb dX12_areSlabs_0 rfl (lv_at hl 0 rfl) ?_
  refine lv_iconst (v := 1) hx hb dX12_areSlabs_1 (by decide) ?_
  refine lv_bipush (v := 60) hx hb dX12_areSlabs_2 (by decide) ?_
  have hPc := hP.sub (ws' := []) [] rfl
  have hDc := hD.sub (ws' := []) [] (by decide) rfl
  have hFc := va_free (wc := []) hD hS hA [] rfl
  refine va_calli (va_runS (As := [.int (nI n0), .int 1, .int 60]) (rest := []) ⟨hx, hb, hml, hown, hts⟩ (c_isIn_ok l D k s.heap.size (nI n0) 1 60 (nI_nlt (a := n0) (b := 1) (by omega) (by omega)) (nI_nlt (a := 60) (b := n0) (by omega) (by omega))) (va_cwS 3 hts (gd_S hgd m1781 m1782 m131 m1783) rfl rfl rfl (by decide +kernel) ⟨Nat.le_of_ble_eq_true rfl, Nat.le_of_ble_eq_true rfl⟩) (cQ_S hPc hKX hDc) rfl rfl hl.1 rfl (lv_room (Nat.le_of_ble_eq_true rfl)) dX12_areSlabs_4 ⟨Nat.le_of_ble_eq_true rfl, Nat.le_of_ble_eq_true rfl⟩) hS (fun q _ h => hFc q h) hFc (fun r_1 u t H1 locs ht hvm hw hB hz1 hk1 hS => ?_)
  obtain ⟨hP1, hD1⟩ := hB
  rw [ht] at hP1
  obtain ⟨hP, hD⟩ := va_join (wr := []) (w1 := []) hP hD [] [] rfl rfl (by decide) (by decide) hk1 hFc hP1 hD1
  generalize H1 = H at hP hS ⊢
  have hP : va_P D classes [] H := hP
  have hD : va_D A [] := hD
  refine W.widen (k := 0) (n := 0) (Nat.le_of_ble_eq_true rfl) (Nat.le_of_ble_eq_true rfl) ?_
  subst hw
  refine lv_if_eq (tgt := 34) hx hb dX12_areSlabs_7 (by decide) (fun c_2 => ?_) (fun c_2 => ?_)
  · exact absurd c_2 (by decide)
  · have c_2 : ¬ ((1 : Int32) = 0) := c_2
    refine lv_iload_n hx hb dX12_areSlabs_10 rfl (lv_at hl 1 rfl) ?_
    refine lv_iconst (v := 0) hx hb dX12_areSlabs_11 (by decide) ?_
    refine lv_bipush (v := 9) hx hb dX12_areSlabs_12 (by decide) ?_
    have hPc := hP.sub (ws' := []) [] rfl
    have hDc := hD.sub (ws' := []) [] (by decide) rfl
    have hFc := va_free (wc := []) hD hS hA [] rfl
    refine va_calli (va_runS (As := [.int (nI n1), .int 0, .int 9]) (rest := []) ⟨hx, hb, hml, hown, hts⟩ (c_isIn_ok l D k H.size (nI n1) 0 9 (nI_nlt (a := n1) (b := 0) (by omega) (by omega)) (nI_nlt (a := 9) (b := n1) (by omega) (by omega))) (va_cwS 3 hts (gd_S hgd m1781 m1782 m131 m1783) rfl rfl rfl (by decide +kernel) ⟨Nat.le_of_ble_eq_true rfl, Nat.le_of_ble_eq_true rfl⟩) (cQ_S hPc hKX hDc) rfl rfl hl.1 rfl (lv_room (Nat.le_of_ble_eq_true rfl)) dX12_areSlabs_14 ⟨Nat.le_of_ble_eq_true rfl, Nat.le_of_ble_eq_true rfl⟩) hS (fun q _ h => hFc q h) hFc (fun r_3 u t H1 locs ht hvm hw hB hz1 hk1 hS => ?_)
    obtain ⟨hP1, hD1⟩ := hB
    rw [ht] at hP1
    obtain ⟨hP, hD⟩ := va_join (wr := []) (w1 := []) hP hD [] [] rfl rfl (by decide) (by decide) hk1 hFc hP1 hD1
    generalize H1 = H at hP hS ⊢
    have hP : va_P D classes [] H := hP
    have hD : va_D A [] := hD
    refine W.widen (k := 0) (n := 0) (Nat.le_of_ble_eq_true rfl) (Nat.le_of_ble_eq_true rfl) ?_
    subst hw
    refine lv_if_eq (tgt := 34) hx hb dX12_areSlabs_17 (by decide) (fun c_4 => ?_) (fun c_4 => ?_)
    · exact absurd c_4 (by decide)
    · have c_4 : ¬ ((1 : Int32) = 0) := c_4
      refine lv_iload_n hx hb dX12_areSlabs_20 rfl (lv_at hl 2 rfl) ?_
      refine lv_iconst (v := 1) hx hb dX12_areSlabs_21 (by decide) ?_
      refine lv_bipush (v := 12) hx hb dX12_areSlabs_22 (by decide) ?_
      have hPc := hP.sub (ws' := []) [] rfl
      have hDc := hD.sub (ws' := []) [] (by decide) rfl
      have hFc := va_free (wc := []) hD hS hA [] rfl
      refine va_calli (va_runS (As := [.int (nI n2), .int 1, .int 12]) (rest := []) ⟨hx, hb, hml, hown, hts⟩ (c_isIn_ok l D k H.size (nI n2) 1 12 (nI_nlt (a := n2) (b := 1) (by omega) (by omega)) (nI_nlt (a := 12) (b := n2) (by omega) (by omega))) (va_cwS 3 hts (gd_S hgd m1781 m1782 m131 m1783) rfl rfl rfl (by decide +kernel) ⟨Nat.le_of_ble_eq_true rfl, Nat.le_of_ble_eq_true rfl⟩) (cQ_S hPc hKX hDc) rfl rfl hl.1 rfl (lv_room (Nat.le_of_ble_eq_true rfl)) dX12_areSlabs_24 ⟨Nat.le_of_ble_eq_true rfl, Nat.le_of_ble_eq_true rfl⟩) hS (fun q _ h => hFc q h) hFc (fun r_5 u t H1 locs ht hvm hw hB hz1 hk1 hS => ?_)
      obtain ⟨hP1, hD1⟩ := hB
      rw [ht] at hP1
      obtain ⟨hP, hD⟩ := va_join (wr := []) (w1 := []) hP hD [] [] rfl rfl (by decide) (by decide) hk1 hFc hP1 hD1
      generalize H1 = H at hP hS ⊢
      have hP : va_P D classes [] H := hP
      have hD : va_D A [] := hD
      refine W.widen (k := 0) (n := 0) (Nat.le_of_ble_eq_true rfl) (Nat.le_of_ble_eq_true rfl) ?_
      subst hw
      refine lv_if_eq (tgt := 34) hx hb dX12_areSlabs_27 (by decide) (fun c_6 => ?_) (fun c_6 => ?_)
      · exact absurd c_6 (by decide)
      · have c_6 : ¬ ((1 : Int32) = 0) := c_6
        refine lv_iconst (v := 1) hx hb dX12_areSlabs_30 (by decide) ?_
        refine lv_goto (tgt := 35) hx hb dX12_areSlabs_31 (by decide) ?_
        have hP9 := hP.sub (ws' := []) [] rfl
        have hD9 := hD.sub (ws' := []) [] (by decide) rfl
        exact W.zret (v := 1) hx hb hr (by decide) (fun t ht hW => ⟨⟨1, (), rfl, rfl, cB_of ht hP9 hD9⟩, hS.F ht⟩) hS.2.2 dX12_areSlabs_35

set_option maxHeartbeats 4000000 in
set_option maxRecDepth 100000 in
theorem c_slabs (l : Launch) (D : va_G) (k : KT) (sz : Nat) (p0 p1 p2 : Int32)  : Met l yX12_areSlabs (WS yX12_areSlabs cX12_areSlabs 3 (some .boolean)) ({ frames := 1, cells := 0, slots := 0, locals := 22 }) (va_Pc [.int p0, .int p1, .int p2] (cQ D k [] sz)) (va_Qi (fun (r : Int32) (_ : Unit) => r = s_endless p0 p1 p2) (fun (_ : Unit) t => cB D (va_A [] sz) [] t) (va_A [] sz)) 0 0 (va_A [] sz) := by
  refine Met.ofW (cc := cX12_areSlabs) (maxL := 3) (ret := (some .boolean)) (by decide) rfl ?_
  intro p e s m args below meth c s₁ B hml hv
  obtain ⟨rfl, hsz, hP, hKX, hD0⟩ := hv
  have hK := hKX.1
  have hx := B.exec
  have hb := B.bytes
  have hr := B.returns
  have hts := atoms_spec (ws := WS yX12_areSlabs cX12_areSlabs 3 (some .boolean)) B.pre
  have hgd : ∀ w ∈ gd, w ∈ WS yX12_areSlabs cX12_areSlabs 3 (some .boolean) := fun w h => List.mem_cons_of_mem _ h
  have hg : ∀ w ∈ gd, w.before _ s = true := fun w h => hts w (hgd w h)
  have hown : s.vm.findClass RX12 = some m.cls := findClass_of_methodNamed B.named
  have hlocks := B.notSynchronized
  subst hsz
  have hD := hD0.self (sz := s.heap.size)
  generalize hAe : va_A [] s.heap.size = A at hD ⊢
  have hA : ∀ q : Nat, s.heap.size ≤ q → A q := fun q h => by rw [← hAe]; exact Or.inr h
  have hS : va_S A s.heap s.heap [] := va_S.rf
  have hP : va_P D classes [] s.heap := hP
  have hl := lv_entry ([.int p0, .int p1, .int p2]) (n := 3) (Nat.le_of_ble_eq_true rfl)
  rw [lg_entry_eq]
  generalize (lg_sl ([.int p0, .int p1, .int p2]) ++ List.replicate (3 - (lg_sl ([.int p0, .int p1, .int p2])).length) Slot.unset).toArray = ls at hl ⊢
  have hl : lv_has ls 3 [(0, .int p0), (1, .int p1), (2, .int p2)] := hl
  refine lv_iload_n hx hb dX12_areSlabs_0 rfl (lv_at hl 0 rfl) ?_
  refine lv_iconst (v := 1) hx hb dX12_areSlabs_1 (by decide) ?_
  refine lv_bipush (v := 60) hx hb dX12_areSlabs_2 (by decide) ?_
  have hPc := hP.sub (ws' := []) [] rfl
  have hDc := hD.sub (ws' := []) [] (by decide) rfl
  have hFc := va_free (wc := []) hD hS hA [] rfl
  refine va_calli (va_runS (As := [.int p0, .int 1, .int 60]) (rest := []) ⟨hx, hb, hml, hown, hts⟩ (c_isIn l D k s.heap.size p0 1 60 ) (va_cwS 3 hts (gd_S hgd m1781 m1782 m131 m1783) rfl rfl rfl (by decide +kernel) ⟨Nat.le_of_ble_eq_true rfl, Nat.le_of_ble_eq_true rfl⟩) (cQ_S hPc hKX hDc) rfl rfl hl.1 rfl (lv_room (Nat.le_of_ble_eq_true rfl)) dX12_areSlabs_4 ⟨Nat.le_of_ble_eq_true rfl, Nat.le_of_ble_eq_true rfl⟩) hS (fun q _ h => hFc q h) hFc (fun r_1 u t H1 locs ht hvm hw hB hz1 hk1 hS => ?_)
  obtain ⟨hP1, hD1⟩ := hB
  rw [ht] at hP1
  obtain ⟨hP, hD⟩ := va_join (wr := []) (w1 := []) hP hD [] [] rfl rfl (by decide) (by decide) hk1 hFc hP1 hD1
  generalize H1 = H at hP hS ⊢
  have hP : va_P D classes [] H := hP
  have hD : va_D A [] := hD
  refine W.widen (k := 0) (n := 0) (Nat.le_of_ble_eq_true rfl) (Nat.le_of_ble_eq_true rfl) ?_
  have h_2 := hw
  refine lv_if_eq (tgt := 34) hx hb dX12_areSlabs_7 (by decide) (fun c_3 => ?_) (fun c_3 => ?_)
  · have c_3 : (r_1 : Int32) = 0 := c_3
    refine lv_iconst (v := 0) hx hb dX12_areSlabs_34 (by decide) ?_
    have hP9 := hP.sub (ws' := []) [] rfl
    have hD9 := hD.sub (ws' := []) [] (by decide) rfl
    exact W.zret (v := 0) hx hb hr (by decide) (fun t ht hW => ⟨⟨0, (), rfl, by rw [s_endless_in, if_pos (h_2.symm.trans c_3)], cB_of ht hP9 hD9⟩, hS.F ht⟩) hS.2.2 dX12_areSlabs_35
  · have c_3 : ¬ ((r_1 : Int32) = 0) := c_3
    refine lv_iload_n hx hb dX12_areSlabs_10 rfl (lv_at hl 1 rfl) ?_
    refine lv_iconst (v := 0) hx hb dX12_areSlabs_11 (by decide) ?_
    refine lv_bipush (v := 9) hx hb dX12_areSlabs_12 (by decide) ?_
    have hPc := hP.sub (ws' := []) [] rfl
    have hDc := hD.sub (ws' := []) [] (by decide) rfl
    have hFc := va_free (wc := []) hD hS hA [] rfl
    refine va_calli (va_runS (As := [.int p1, .int 0, .int 9]) (rest := []) ⟨hx, hb, hml, hown, hts⟩ (c_isIn l D k H.size p1 0 9 ) (va_cwS 3 hts (gd_S hgd m1781 m1782 m131 m1783) rfl rfl rfl (by decide +kernel) ⟨Nat.le_of_ble_eq_true rfl, Nat.le_of_ble_eq_true rfl⟩) (cQ_S hPc hKX hDc) rfl rfl hl.1 rfl (lv_room (Nat.le_of_ble_eq_true rfl)) dX12_areSlabs_14 ⟨Nat.le_of_ble_eq_true rfl, Nat.le_of_ble_eq_true rfl⟩) hS (fun q _ h => hFc q h) hFc (fun r_4 u t H1 locs ht hvm hw hB hz1 hk1 hS => ?_)
    obtain ⟨hP1, hD1⟩ := hB
    rw [ht] at hP1
    obtain ⟨hP, hD⟩ := va_join (wr := []) (w1 := []) hP hD [] [] rfl rfl (by decide) (by decide) hk1 hFc hP1 hD1
    generalize H1 = H at hP hS ⊢
    have hP : va_P D classes [] H := hP
    have hD : va_D A [] := hD
    refine W.widen (k := 0) (n := 0) (Nat.le_of_ble_eq_true rfl) (Nat.le_of_ble_eq_true rfl) ?_
    have h_5 := hw
    refine lv_if_eq (tgt := 34) hx hb dX12_areSlabs_17 (by decide) (fun c_6 => ?_) (fun c_6 => ?_)
    · have c_6 : (r_4 : Int32) = 0 := c_6
      refine lv_iconst (v := 0) hx hb dX12_areSlabs_34 (by decide) ?_
      have hP9 := hP.sub (ws' := []) [] rfl
      have hD9 := hD.sub (ws' := []) [] (by decide) rfl
      exact W.zret (v := 0) hx hb hr (by decide) (fun t ht hW => ⟨⟨0, (), rfl, by rw [s_endless_in, if_neg (fun q => c_3 (h_2.trans q)), if_pos (h_5.symm.trans c_6)], cB_of ht hP9 hD9⟩, hS.F ht⟩) hS.2.2 dX12_areSlabs_35
    · have c_6 : ¬ ((r_4 : Int32) = 0) := c_6
      refine lv_iload_n hx hb dX12_areSlabs_20 rfl (lv_at hl 2 rfl) ?_
      refine lv_iconst (v := 1) hx hb dX12_areSlabs_21 (by decide) ?_
      refine lv_bipush (v := 12) hx hb dX12_areSlabs_22 (by decide) ?_
      have hPc := hP.sub (ws' := []) [] rfl
      have hDc := hD.sub (ws' := []) [] (by decide) rfl
      have hFc := va_free (wc := []) hD hS hA [] rfl
      refine va_calli (va_runS (As := [.int p2, .int 1, .int 12]) (rest := []) ⟨hx, hb, hml, hown, hts⟩ (c_isIn l D k H.size p2 1 12 ) (va_cwS 3 hts (gd_S hgd m1781 m1782 m131 m1783) rfl rfl rfl (by decide +kernel) ⟨Nat.le_of_ble_eq_true rfl, Nat.le_of_ble_eq_true rfl⟩) (cQ_S hPc hKX hDc) rfl rfl hl.1 rfl (lv_room (Nat.le_of_ble_eq_true rfl)) dX12_areSlabs_24 ⟨Nat.le_of_ble_eq_true rfl, Nat.le_of_ble_eq_true rfl⟩) hS (fun q _ h => hFc q h) hFc (fun r_7 u t H1 locs ht hvm hw hB hz1 hk1 hS => ?_)
      obtain ⟨hP1, hD1⟩ := hB
      rw [ht] at hP1
      obtain ⟨hP, hD⟩ := va_join (wr := []) (w1 := []) hP hD [] [] rfl rfl (by decide) (by decide) hk1 hFc hP1 hD1
      generalize H1 = H at hP hS ⊢
      have hP : va_P D classes [] H := hP
      have hD : va_D A [] := hD
      refine W.widen (k := 0) (n := 0) (Nat.le_of_ble_eq_true rfl) (Nat.le_of_ble_eq_true rfl) ?_
      have h_8 := hw
      refine lv_if_eq (tgt := 34) hx hb dX12_areSlabs_27 (by decide) (fun c_9 => ?_) (fun c_9 => ?_)
      · have c_9 : (r_7 : Int32) = 0 := c_9
        refine lv_iconst (v := 0) hx hb dX12_areSlabs_34 (by decide) ?_
        have hP9 := hP.sub (ws' := []) [] rfl
        have hD9 := hD.sub (ws' := []) [] (by decide) rfl
        exact W.zret (v := 0) hx hb hr (by decide) (fun t ht hW => ⟨⟨0, (), rfl, by rw [s_endless_in, if_neg (fun q => c_3 (h_2.trans q)), if_neg (fun q => c_6 (h_5.trans q)), if_pos (h_8.symm.trans c_9)], cB_of ht hP9 hD9⟩, hS.F ht⟩) hS.2.2 dX12_areSlabs_35
      · have c_9 : ¬ ((r_7 : Int32) = 0) := c_9
        refine lv_iconst (v := 1) hx hb dX12_areSlabs_30 (by decide) ?_
        refine lv_goto (tgt := 35) hx hb dX12_areSlabs_31 (by decide) ?_
        have hP9 := hP.sub (ws' := []) [] rfl
        have hD9 := hD.sub (ws' := []) [] (by decide) rfl
        exact W.zret (v := 1) hx hb hr (by decide) (fun t ht hW => ⟨⟨1, (), rfl, by rw [s_endless_in, if_neg (fun q => c_3 (h_2.trans q)), if_neg (fun q => c_6 (h_5.trans q)), if_neg (fun q => c_9 (h_8.trans q))], cB_of ht hP9 hD9⟩, hS.F ht⟩) hS.2.2 dX12_areSlabs_35

set_option maxHeartbeats 4000000 in
set_option maxRecDepth 100000 in
theorem c_gcd (l : Launch) (D : va_G) (k : KT) (sz : Nat) (n0 n1 : Nat) (ob1 : n0 < 100) (ob2 : n1 < 100) : Met l yX11_commonDivisor (WS yX11_commonDivisor cX11_commonDivisor 7 (some .long)) ({ frames := 0, cells := 0, slots := 0, locals := 0 }) (va_Pc [.long (lN n0), .long (lN n1)] (cQ D k [] sz)) (va_Ql (fun (r : Int64) (_ : Unit) => r = (lN (Nat.gcd n0 n1))) (fun (_ : Unit) t => cB D (va_A [] sz) [] t) (va_A [] sz)) 0 0 (va_A [] sz) := by
  refine Met.ofW (cc := cX11_commonDivisor) (maxL := 7) (ret := (some .long)) (by decide) rfl ?_
  intro p e s m args below meth c s₁ B hml hv
  obtain ⟨rfl, hsz, hP, hKX, hD0⟩ := hv
  have hK := hKX.1
  have hx := B.exec
  have hb := B.bytes
  have hr := B.returns
  have hts := atoms_spec (ws := WS yX11_commonDivisor cX11_commonDivisor 7 (some .long)) B.pre
  have hgd : ∀ w ∈ gd, w ∈ WS yX11_commonDivisor cX11_commonDivisor 7 (some .long) := fun w h => List.mem_cons_of_mem _ h
  have hg : ∀ w ∈ gd, w.before _ s = true := fun w h => hts w (hgd w h)
  have hown : s.vm.findClass RX11 = some m.cls := findClass_of_methodNamed B.named
  have hlocks := B.notSynchronized
  subst hsz
  have hD := hD0.self (sz := s.heap.size)
  generalize hAe : va_A [] s.heap.size = A at hD ⊢
  have hA : ∀ q : Nat, s.heap.size ≤ q → A q := fun q h => by rw [← hAe]; exact Or.inr h
  have hS : va_S A s.heap s.heap [] := va_S.rf
  have hP : va_P D classes [] s.heap := hP
  have hl := lv_entry ([.long (lN n0), .long (lN n1)]) (n := 7) (Nat.le_of_ble_eq_true rfl)
  rw [lg_entry_eq]
  generalize (lg_sl ([.long (lN n0), .long (lN n1)]) ++ List.replicate (7 - (lg_sl ([.long (lN n0), .long (lN n1)])).length) Slot.unset).toArray = ls at hl ⊢
  have hl : lv_has ls 7 [(0, .long (lN n0)), (2, .long (lN n1))] := hl
  refine lv_iconst (v := 0) hx hb dX11_commonDivisor_0 (by decide) ?_
  refine lv_istore (lv' := [(4, .int 0), (0, .long (lN n0)), (2, .long (lN n1))]) hx hb dX11_commonDivisor_1 hl (by decide) rfl (fun ls hl => ?_)
  refine loop_W (σ := Nat × Nat × Nat) (fun x H locs ls => (Nat.gcd x.2.1 x.2.2 = Nat.gcd n0 n1) ∧ (x.2.1 < 100 ∧ x.2.2 < 100) ∧ (x.1 + x.2.2 ≤ 99) ∧ va_P D classes [] H ∧ va_D A [] ∧ va_S A s.heap H locs ∧ lv_has ls 7 [(0, .long (lN x.2.1)), (2, .long (lN x.2.2)), (4, .int (nI x.1))]) (fun x => x.2.2) (fun x H locs ls hI ih => ?_) (0, n0, n1) _ _ ls ⟨rfl, ⟨by (try dsimp only); omega, by (try dsimp only); omega⟩, by (try dsimp only); omega, hP, hD, hS, lv_sub hl [1, 2, 0] rfl⟩
  obtain ⟨t, a, b⟩ := x
  obtain ⟨hv1, hv2, hv3, hP, hD, hS, hl⟩ := hI
  have hv1 : Nat.gcd a b = Nat.gcd n0 n1 := hv1
  have hv2 : a < 100 ∧ b < 100 := hv2
  have hv3 : t + b ≤ 99 := hv3
  have hl : lv_has ls 7 [(0, .long (lN a)), (2, .long (lN b)), (4, .int (nI t))] := hl
  refine lv_iload hx hb dX11_commonDivisor_3 (lv_at hl 2 rfl) ?_
  refine lv_sipush (v := 200) hx hb dX11_commonDivisor_5 (by decide) ?_
  refine lv_icmp_ge (tgt := 33) hx hb dX11_commonDivisor_8 (by decide) (fun c_1 => ?_) (fun c_1 => ?_)
  · exact absurd c_1 (nI_ge (a := t) (b := 200) (by omega) (by omega))
  · have c_1 : ¬ ((200 : Int32) ≤ (nI t)) := c_1
    refine lv_lload_n hx hb dX11_commonDivisor_11 rfl (lv_at hl 1 rfl) ?_
    refine lv_lconst (v := 0) hx hb dX11_commonDivisor_12 (by decide) ?_
    refine W.lcmp hx hb dX11_commonDivisor_13 ?_
    refine lv_if_eq (tgt := 33) hx hb dX11_commonDivisor_14 (by decide) (fun c_2 => ?_) (fun c_2 => ?_)
    · have c_2 : ((lg_cmp (lN b) 0) : Int32) = 0 := c_2
      have hb0 : b = 0 := lc_zero (by omega) c_2
      refine lv_lload_n hx hb dX11_commonDivisor_33 rfl (lv_at hl 0 rfl) ?_
      have hP9 := hP.sub (ws' := []) [] rfl
      have hD9 := hD.sub (ws' := []) [] (by decide) rfl
      exact W.lret (v := (lN a)) hx hb hr (fun t ht hW => ⟨⟨(lN a), (), rfl, by rw [← hv1, hb0, Nat.gcd_zero_right], cB_of ht hP9 hD9⟩, hS.F ht⟩) hS.2.2 dX11_commonDivisor_34
    · have c_2 : ¬ (((lg_cmp (lN b) 0) : Int32) = 0) := c_2
      have hb0 : 0 < b := lc_pos (by omega) c_2
      refine lv_lload_n hx hb dX11_commonDivisor_17 rfl (lv_at hl 0 rfl) ?_
      refine lv_lload_n hx hb dX11_commonDivisor_18 rfl (lv_at hl 1 rfl) ?_
      refine lv_lrem hx hb dX11_commonDivisor_19 (lN_ne0 hb0 (by omega)) ?_
      refine lv_topl (fun y_3 ey_3 => ?_)
      obtain rfl : y_3 = (lN (a % b)) := ey_3.trans (pk_lRem (by omega) hb0 (by omega))
      refine lv_lstore (lv' := [(5, .long (lN (a % b))), (0, .long (lN a)), (2, .long (lN b)), (4, .int (nI t))]) hx hb dX11_commonDivisor_20 hl (by decide) rfl (fun ls hl => ?_)
      refine lv_lload_n hx hb dX11_commonDivisor_22 rfl (lv_at hl 2 rfl) ?_
      refine lv_lstore_n (lv' := [(0, .long (lN b)), (5, .long (lN (a % b))), (2, .long (lN b)), (4, .int (nI t))]) hx hb dX11_commonDivisor_23 rfl hl (by decide) rfl (fun ls hl => ?_)
      refine lv_lload hx hb dX11_commonDivisor_24 (lv_at hl 1 rfl) ?_
      refine lv_lstore_n (lv' := [(2, .long (lN (a % b))), (0, .long (lN b)), (5, .long (lN (a % b))), (4, .int (nI t))]) hx hb dX11_commonDivisor_26 rfl hl (by decide) rfl (fun ls hl => ?_)
      refine lv_iinc (v := (nI (t + 1))) (lv' := [(4, .int (nI (t + 1))), (2, .long (lN (a % b))), (0, .long (lN b)), (5, .long (lN (a % b)))]) hx hb dX11_commonDivisor_27 hl (k := 3) rfl (nI_1 t) (by decide) rfl (fun ls hl => ?_)
      refine lv_goto (tgt := 3) hx hb dX11_commonDivisor_30 (by decide) ?_
      exact ih (t + 1, b, a % b) _ _ _ ⟨(gcd_step hv1), ⟨by (try dsimp only); omega, Nat.lt_trans (Nat.mod_lt _ hb0) (by (try dsimp only); omega)⟩, (gcd_sum hv3 hb0), hP, hD, hS, lv_sub hl [2, 1, 0] rfl⟩ (Nat.mod_lt _ hb0)

set_option maxHeartbeats 4000000 in
set_option maxRecDepth 100000 in
theorem c_isPlain (l : Launch) (D : va_G) (k : KT) (sz : Nat) (n0 n1 n2 n3 : Nat) (ob1 : 1 ≤ n0) (ob2 : n0 ≤ 60) (ob3 : n1 ≤ 9) (ob4 : 1 ≤ n2) (ob5 : n2 ≤ 12) (ob6 : n3 < n0 + n1) : Met l yX12_isPlain (WS yX12_isPlain cX12_isPlain 6 (some .boolean)) ({ frames := 0, cells := 0, slots := 0, locals := 0 }) (va_Pc [.int (nI n0), .int (nI n1), .int (nI n2), .int (nI n3)] (cQ D k [] sz)) (va_Qi (fun (r : Int32) (_ : Unit) => r = (b2i (plN n0 (n0 + n1) n3 n2))) (fun (_ : Unit) t => cB D (va_A [] sz) [] t) (va_A [] sz)) 0 0 (va_A [] sz) := by
  refine Met.ofW (cc := cX12_isPlain) (maxL := 6) (ret := (some .boolean)) (by decide) rfl ?_
  intro p e s m args below meth c s₁ B hml hv
  obtain ⟨rfl, hsz, hP, hKX, hD0⟩ := hv
  have hK := hKX.1
  have hx := B.exec
  have hb := B.bytes
  have hr := B.returns
  have hts := atoms_spec (ws := WS yX12_isPlain cX12_isPlain 6 (some .boolean)) B.pre
  have hgd : ∀ w ∈ gd, w ∈ WS yX12_isPlain cX12_isPlain 6 (some .boolean) := fun w h => List.mem_cons_of_mem _ h
  have hg : ∀ w ∈ gd, w.before _ s = true := fun w h => hts w (hgd w h)
  have hown : s.vm.findClass RX12 = some m.cls := findClass_of_methodNamed B.named
  have hlocks := B.notSynchronized
  subst hsz
  have hD := hD0.self (sz := s.heap.size)
  generalize hAe : va_A [] s.heap.size = A at hD ⊢
  have hA : ∀ q : Nat, s.heap.size ≤ q → A q := fun q h => by rw [← hAe]; exact Or.inr h
  have hS : va_S A s.heap s.heap [] := va_S.rf
  have hP : va_P D classes [] s.heap := hP
  have hl := lv_entry ([.int (nI n0), .int (nI n1), .int (nI n2), .int (nI n3)]) (n := 6) (Nat.le_of_ble_eq_true rfl)
  rw [lg_entry_eq]
  generalize (lg_sl ([.int (nI n0), .int (nI n1), .int (nI n2), .int (nI n3)]) ++ List.replicate (6 - (lg_sl ([.int (nI n0), .int (nI n1), .int (nI n2), .int (nI n3)])).length) Slot.unset).toArray = ls at hl ⊢
  have hl : lv_has ls 6 [(0, .int (nI n0)), (1, .int (nI n1)), (2, .int (nI n2)), (3, .int (nI n3))] := hl
  refine lv_iconst (v := 1) hx hb dX12_isPlain_0 (by decide) ?_
  refine lv_istore (lv' := [(4, .int 1), (0, .int (nI n0)), (1, .int (nI n1)), (2, .int (nI n2)), (3, .int (nI n3))]) hx hb dX12_isPlain_1 hl (by decide) rfl (fun ls hl => ?_)
  refine lv_iload_n hx hb dX12_isPlain_3 rfl (lv_at hl 4 rfl) ?_
  refine lv_istore (lv' := [(5, .int (nI n3)), (4, .int 1), (0, .int (nI n0)), (1, .int (nI n1)), (2, .int (nI n2)), (3, .int (nI n3))]) hx hb dX12_isPlain_4 hl (by decide) rfl (fun ls hl => ?_)
  refine loop_W (σ := Nat) (fun i H locs ls => (i ≤ n2) ∧ va_P D classes [] H ∧ va_D A [] ∧ va_S A s.heap H locs ∧ lv_has ls 6 [(0, .int (nI n0)), (1, .int (nI n1)), (2, .int (nI n2)), (3, .int (nI n3)), (4, .int (b2i (plN n0 (n0 + n1) n3 i))), (5, .int (nI (n3 + i)))]) (fun i => n2 - i) (fun i H locs ls hI ih => ?_) 0 _ _ ls ⟨Nat.zero_le _, hP, hD, hS, lv_sub hl [2, 3, 4, 5, 1, 0] rfl⟩
  obtain ⟨hi, hP, hD, hS, hl⟩ := hI
  have hi : i ≤ n2 := hi
  have hl : lv_has ls 6 [(0, .int (nI n0)), (1, .int (nI n1)), (2, .int (nI n2)), (3, .int (nI n3)), (4, .int (b2i (plN n0 (n0 + n1) n3 i))), (5, .int (nI (n3 + i)))] := hl
  refine lv_iload hx hb dX12_isPlain_6 (lv_at hl 5 rfl) ?_
  refine lv_iload_n hx hb dX12_isPlain_8 rfl (lv_at hl 3 rfl) ?_
  refine lv_iload_n hx hb dX12_isPlain_9 rfl (lv_at hl 2 rfl) ?_
  refine lv_iadd hx hb dX12_isPlain_10 ?_
  refine lv_topi (fun y_1 ey_1 => ?_)
  obtain rfl : y_1 = (nI (n3 + n2)) := ey_1.trans (nI_add _ _)
  refine lv_icmp_ge (tgt := 42) hx hb dX12_isPlain_11 (by decide) (fun c_2 => ?_) (fun c_2 => ?_)
  · have c_2 : ((nI (n3 + n2)) : Int32) ≤ (nI (n3 + i)) := c_2
    have hin : i = n2 := by have := (nI_leI (a := n3 + n2) (b := n3 + i) (by omega) (by omega)).mp c_2; omega
    refine lv_iload hx hb dX12_isPlain_42 (lv_at hl 4 rfl) ?_
    have hP9 := hP.sub (ws' := []) [] rfl
    have hD9 := hD.sub (ws' := []) [] (by decide) rfl
    exact W.zret (v := (b2i (plN n0 (n0 + n1) n3 i))) hx hb hr (b2i_nar _) (fun t ht hW => ⟨⟨(b2i (plN n0 (n0 + n1) n3 i)), (), rfl, by rw [hin], cB_of ht hP9 hD9⟩, hS.F ht⟩) hS.2.2 dX12_isPlain_44
  · have c_2 : ¬ (((nI (n3 + n2)) : Int32) ≤ (nI (n3 + i))) := c_2
    have hlt : i < n2 := by have := n_nle (a := n3 + n2) (b := n3 + i) (by omega) (by omega) c_2; omega
    refine lv_iload hx hb dX12_isPlain_14 (lv_at hl 4 rfl) ?_
    refine lv_if_eq (tgt := 33) hx hb dX12_isPlain_16 (by decide) (fun c_3 => ?_) (fun c_3 => ?_)
    · have c_3 : ((b2i (plN n0 (n0 + n1) n3 i)) : Int32) = 0 := c_3
      refine lv_iconst (v := 0) hx hb dX12_isPlain_33 (by decide) ?_
      refine lv_topi (fun y_4 ey_4 => ?_)
      obtain rfl : y_4 = (b2i (plN n0 (n0 + n1) n3 (i + 1))) := ey_4.trans (pl_0 c_3)
      refine lv_istore (lv' := [(4, .int (b2i (plN n0 (n0 + n1) n3 (i + 1)))), (0, .int (nI n0)), (1, .int (nI n1)), (2, .int (nI n2)), (3, .int (nI n3)), (5, .int (nI (n3 + i)))]) hx hb dX12_isPlain_34 hl (by decide) rfl (fun ls hl => ?_)
      refine lv_iinc (v := (nI (n3 + (i + 1)))) (lv' := [(5, .int (nI (n3 + (i + 1)))), (4, .int (b2i (plN n0 (n0 + n1) n3 (i + 1)))), (0, .int (nI n0)), (1, .int (nI n1)), (2, .int (nI n2)), (3, .int (nI n3))]) hx hb dX12_isPlain_36 hl (k := 5) rfl (nI_1 (n3 + i)) (by decide) rfl (fun ls hl => ?_)
      refine lv_goto (tgt := 6) hx hb dX12_isPlain_39 (by decide) ?_
      exact ih (i + 1) _ _ _ ⟨by (try dsimp only); omega, hP, hD, hS, lv_sub hl [2, 3, 4, 5, 1, 0] rfl⟩ (by show n2 - (i + 1) < n2 - i; omega)
    · have c_3 : ¬ (((b2i (plN n0 (n0 + n1) n3 i)) : Int32) = 0) := c_3
      refine lv_iload hx hb dX12_isPlain_19 (lv_at hl 5 rfl) ?_
      refine lv_iload_n hx hb dX12_isPlain_21 rfl (lv_at hl 0 rfl) ?_
      refine lv_iload_n hx hb dX12_isPlain_22 rfl (lv_at hl 1 rfl) ?_
      refine lv_iadd hx hb dX12_isPlain_23 ?_
      refine lv_topi (fun y_5 ey_5 => ?_)
      obtain rfl : y_5 = (nI (n0 + n1)) := ey_5.trans (nI_add _ _)
      refine lv_irem hx hb dX12_isPlain_24 (nI_ne0 (by omega) (by omega)) ?_
      refine lv_topi (fun y_6 ey_6 => ?_)
      obtain rfl : y_6 = (nI ((n3 + i) % (n0 + n1))) := ey_6.trans (pk_rem (by omega) (by omega) (by omega))
      refine lv_iload_n hx hb dX12_isPlain_25 rfl (lv_at hl 0 rfl) ?_
      refine lv_icmp_ge (tgt := 33) hx hb dX12_isPlain_26 (by decide) (fun c_7 => ?_) (fun c_7 => ?_)
      · have c_7 : ((nI n0) : Int32) ≤ (nI ((n3 + i) % (n0 + n1))) := c_7
        refine lv_iconst (v := 0) hx hb dX12_isPlain_33 (by decide) ?_
        refine lv_topi (fun y_8 ey_8 => ?_)
        obtain rfl : y_8 = (b2i (plN n0 (n0 + n1) n3 (i + 1))) := ey_8.trans (pl_n (by omega) (Nat.lt_of_le_of_lt (Nat.mod_le _ _) (by omega)) c_7)
        refine lv_istore (lv' := [(4, .int (b2i (plN n0 (n0 + n1) n3 (i + 1)))), (0, .int (nI n0)), (1, .int (nI n1)), (2, .int (nI n2)), (3, .int (nI n3)), (5, .int (nI (n3 + i)))]) hx hb dX12_isPlain_34 hl (by decide) rfl (fun ls hl => ?_)
        refine lv_iinc (v := (nI (n3 + (i + 1)))) (lv' := [(5, .int (nI (n3 + (i + 1)))), (4, .int (b2i (plN n0 (n0 + n1) n3 (i + 1)))), (0, .int (nI n0)), (1, .int (nI n1)), (2, .int (nI n2)), (3, .int (nI n3))]) hx hb dX12_isPlain_36 hl (k := 5) rfl (nI_1 (n3 + i)) (by decide) rfl (fun ls hl => ?_)
        refine lv_goto (tgt := 6) hx hb dX12_isPlain_39 (by decide) ?_
        exact ih (i + 1) _ _ _ ⟨by (try dsimp only); omega, hP, hD, hS, lv_sub hl [2, 3, 4, 5, 1, 0] rfl⟩ (by show n2 - (i + 1) < n2 - i; omega)
      · have c_7 : ¬ (((nI n0) : Int32) ≤ (nI ((n3 + i) % (n0 + n1)))) := c_7
        refine lv_iconst (v := 1) hx hb dX12_isPlain_29 (by decide) ?_
        refine lv_goto (tgt := 34) hx hb dX12_isPlain_30 (by decide) ?_
        refine lv_topi (fun y_9 ey_9 => ?_)
        obtain rfl : y_9 = (b2i (plN n0 (n0 + n1) n3 (i + 1))) := ey_9.trans (pl_1 (by omega) (Nat.lt_of_le_of_lt (Nat.mod_le _ _) (by omega)) c_3 c_7)
        refine lv_istore (lv' := [(4, .int (b2i (plN n0 (n0 + n1) n3 (i + 1)))), (0, .int (nI n0)), (1, .int (nI n1)), (2, .int (nI n2)), (3, .int (nI n3)), (5, .int (nI (n3 + i)))]) hx hb dX12_isPlain_34 hl (by decide) rfl (fun ls hl => ?_)
        refine lv_iinc (v := (nI (n3 + (i + 1)))) (lv' := [(5, .int (nI (n3 + (i + 1)))), (4, .int (b2i (plN n0 (n0 + n1) n3 (i + 1)))), (0, .int (nI n0)), (1, .int (nI n1)), (2, .int (nI n2)), (3, .int (nI n3))]) hx hb dX12_isPlain_36 hl (k := 5) rfl (nI_1 (n3 + i)) (by decide) rfl (fun ls hl => ?_)
        refine lv_goto (tgt := 6) hx hb dX12_isPlain_39 (by decide) ?_
        exact ih (i + 1) _ _ _ ⟨by (try dsimp only); omega, hP, hD, hS, lv_sub hl [2, 3, 4, 5, 1, 0] rfl⟩ (by show n2 - (i + 1) < n2 - i; omega)

set_option maxHeartbeats 4000000 in
set_option maxRecDepth 100000 in
theorem c_firstOf (l : Launch) (D : va_G) (k : KT) (sz : Nat) (n0 n1 n2 n3 n4 : Nat) (ob1 : 1 ≤ n0) (ob2 : n0 ≤ 60) (ob3 : n1 ≤ 9) (ob4 : 1 ≤ n2) (ob5 : n2 ≤ 12) (ob6 : 1 ≤ n3) (ob7 : n3 ≤ 99) (ob8 : n4 < n0 + n1) : Met l yX12_firstOf (WS yX12_firstOf cX12_firstOf 7 (some .int)) ({ frames := 1, cells := 0, slots := 0, locals := 25 }) (va_Pc [.int (nI n0), .int (nI n1), .int (nI n2), .int (nI n3), .int (nI n4)] (cQ D k [] sz)) (va_Qi (fun (r : Int32) (_ : Unit) => r = (foG n0 (n0 + n1) n2 n3 (n0 + n1 + 1) 0 n4)) (fun (_ : Unit) t => cB D (va_A [] sz) [] t) (va_A [] sz)) 0 0 (va_A [] sz) := by
  refine Met.ofW (cc := cX12_firstOf) (maxL := 7) (ret := (some .int)) (by decide) rfl ?_
  intro p e s m args below meth c s₁ B hml hv
  obtain ⟨rfl, hsz, hP, hKX, hD0⟩ := hv
  have hK := hKX.1
  have hx := B.exec
  have hb := B.bytes
  have hr := B.returns
  have hts := atoms_spec (ws := WS yX12_firstOf cX12_firstOf 7 (some .int)) B.pre
  have hgd : ∀ w ∈ gd, w ∈ WS yX12_firstOf cX12_firstOf 7 (some .int) := fun w h => List.mem_cons_of_mem _ h
  have hg : ∀ w ∈ gd, w.before _ s = true := fun w h => hts w (hgd w h)
  have hown : s.vm.findClass RX12 = some m.cls := findClass_of_methodNamed B.named
  have hlocks := B.notSynchronized
  subst hsz
  have hD := hD0.self (sz := s.heap.size)
  generalize hAe : va_A [] s.heap.size = A at hD ⊢
  have hA : ∀ q : Nat, s.heap.size ≤ q → A q := fun q h => by rw [← hAe]; exact Or.inr h
  have hS : va_S A s.heap s.heap [] := va_S.rf
  have hP : va_P D classes [] s.heap := hP
  have hl := lv_entry ([.int (nI n0), .int (nI n1), .int (nI n2), .int (nI n3), .int (nI n4)]) (n := 7) (Nat.le_of_ble_eq_true rfl)
  rw [lg_entry_eq]
  generalize (lg_sl ([.int (nI n0), .int (nI n1), .int (nI n2), .int (nI n3), .int (nI n4)]) ++ List.replicate (7 - (lg_sl ([.int (nI n0), .int (nI n1), .int (nI n2), .int (nI n3), .int (nI n4)])).length) Slot.unset).toArray = ls at hl ⊢
  have hl : lv_has ls 7 [(0, .int (nI n0)), (1, .int (nI n1)), (2, .int (nI n2)), (3, .int (nI n3)), (4, .int (nI n4))] := hl
  refine lv_iload hx hb dX12_firstOf_0 (lv_at hl 4 rfl) ?_
  refine lv_istore (lv' := [(5, .int (nI n4)), (0, .int (nI n0)), (1, .int (nI n1)), (2, .int (nI n2)), (3, .int (nI n3)), (4, .int (nI n4))]) hx hb dX12_firstOf_2 hl (by decide) rfl (fun ls hl => ?_)
  refine lv_iconst (v := 0) hx hb dX12_firstOf_4 (by decide) ?_
  refine lv_istore (lv' := [(6, .int 0), (5, .int (nI n4)), (0, .int (nI n0)), (1, .int (nI n1)), (2, .int (nI n2)), (3, .int (nI n3)), (4, .int (nI n4))]) hx hb dX12_firstOf_5 hl (by decide) rfl (fun ls hl => ?_)
  refine loop_W (σ := Nat × Nat) (fun x H locs ls => (x.1 ≤ n0 + n1 + 1) ∧ (x.2 < n0 + n1) ∧ (foG n0 (n0 + n1) n2 n3 (n0 + n1 + 1) 0 n4 = foG n0 (n0 + n1) n2 n3 (n0 + n1 + 1 - x.1) x.1 x.2) ∧ va_P D classes [] H ∧ va_D A [] ∧ va_S A s.heap H locs ∧ lv_has ls 7 [(0, .int (nI n0)), (1, .int (nI n1)), (2, .int (nI n2)), (3, .int (nI n3)), (5, .int (nI x.2)), (6, .int (nI x.1))]) (fun x => n0 + n1 + 1 - x.1) (fun x H locs ls hI ih => ?_) (0, n4) _ _ ls ⟨Nat.zero_le _, by (try dsimp only); omega, rfl, hP, hD, hS, lv_sub hl [2, 3, 4, 5, 1, 0] rfl⟩
  obtain ⟨i, h⟩ := x
  obtain ⟨hi, hh, hf, hP, hD, hS, hl⟩ := hI
  have hi : i ≤ n0 + n1 + 1 := hi
  have hh : h < n0 + n1 := hh
  have hf : foG n0 (n0 + n1) n2 n3 (n0 + n1 + 1) 0 n4 = foG n0 (n0 + n1) n2 n3 (n0 + n1 + 1 - i) i h := hf
  have hl : lv_has ls 7 [(0, .int (nI n0)), (1, .int (nI n1)), (2, .int (nI n2)), (3, .int (nI n3)), (5, .int (nI h)), (6, .int (nI i))] := hl
  refine lv_iload hx hb dX12_firstOf_7 (lv_at hl 5 rfl) ?_
  refine lv_iload_n hx hb dX12_firstOf_9 rfl (lv_at hl 0 rfl) ?_
  refine lv_iload_n hx hb dX12_firstOf_10 rfl (lv_at hl 1 rfl) ?_
  refine lv_iadd hx hb dX12_firstOf_11 ?_
  refine lv_topi (fun y_1 ey_1 => ?_)
  obtain rfl : y_1 = (nI (n0 + n1)) := ey_1.trans (nI_add _ _)
  refine lv_icmp_gt (tgt := 45) hx hb dX12_firstOf_12 (by decide) (fun c_2 => ?_) (fun c_2 => ?_)
  · have c_2 : ((nI (n0 + n1)) : Int32) < (nI i) := c_2
    have hgt : i = n0 + n1 + 1 := by have := (nI_ltI (a := n0 + n1) (b := i) (by omega) (by omega)).mp c_2; omega
    refine lv_iconst (v := (-1)) hx hb dX12_firstOf_45 (by decide) ?_
    have hP9 := hP.sub (ws' := []) [] rfl
    have hD9 := hD.sub (ws' := []) [] (by decide) rfl
    exact W.iret (v := (-1)) hx hb hr (fun t ht hW => ⟨⟨(-1), (), rfl, by rw [hf, hgt, Nat.sub_self]; rfl, cB_of ht hP9 hD9⟩, hS.F ht⟩) hS.2.2 dX12_firstOf_46
  · have c_2 : ¬ (((nI (n0 + n1)) : Int32) < (nI i)) := c_2
    have hle : i ≤ n0 + n1 := by have := n_nlt (a := n0 + n1) (b := i) (by omega) (by omega) c_2; omega
    refine lv_iload_n hx hb dX12_firstOf_15 rfl (lv_at hl 0 rfl) ?_
    refine lv_iload_n hx hb dX12_firstOf_16 rfl (lv_at hl 1 rfl) ?_
    refine lv_iload_n hx hb dX12_firstOf_17 rfl (lv_at hl 2 rfl) ?_
    refine lv_iload hx hb dX12_firstOf_18 (lv_at hl 4 rfl) ?_
    have hPc := hP.sub (ws' := []) [] rfl
    have hDc := hD.sub (ws' := []) [] (by decide) rfl
    have hFc := va_free (wc := []) hD hS hA [] rfl
    refine va_calli (va_runS (As := [.int (nI n0), .int (nI n1), .int (nI n2), .int (nI h)]) (rest := []) ⟨hx, hb, hml, hown, hts⟩ (c_isPlain l D k H.size n0 n1 n2 h (by omega) (by omega) (by omega) (by omega) (by omega) (by omega)) (va_cwS 4 hts (gd_S hgd m1913 m1914 m131 m1915) rfl rfl rfl (by decide +kernel) ⟨Nat.le_of_ble_eq_true rfl, Nat.le_of_ble_eq_true rfl⟩) (cQ_S hPc hKX hDc) rfl rfl hl.1 rfl (lv_room (Nat.le_of_ble_eq_true rfl)) dX12_firstOf_20 ⟨Nat.le_of_ble_eq_true rfl, Nat.le_of_ble_eq_true rfl⟩) hS (fun q _ h => hFc q h) hFc (fun r_3 u t H1 locs ht hvm hw hB hz1 hk1 hS => ?_)
    obtain ⟨hP1, hD1⟩ := hB
    rw [ht] at hP1
    obtain ⟨hP, hD⟩ := va_join (wr := []) (w1 := []) hP hD [] [] rfl rfl (by decide) (by decide) hk1 hFc hP1 hD1
    generalize H1 = H at hP hS ⊢
    have hP : va_P D classes [] H := hP
    have hD : va_D A [] := hD
    refine W.widen (k := 0) (n := 0) (Nat.le_of_ble_eq_true rfl) (Nat.le_of_ble_eq_true rfl) ?_
    subst hw
    refine lv_if_ne (tgt := 29) hx hb dX12_firstOf_23 (by decide) (fun c_4 => ?_) (fun c_4 => ?_)
    · have c_4 : ¬ (((b2i (plN n0 (n0 + n1) h n2)) : Int32) = 0) := c_4
      have hpl : plN n0 (n0 + n1) h n2 = true := b2i_t c_4
      refine lv_iload hx hb dX12_firstOf_29 (lv_at hl 4 rfl) ?_
      refine lv_iload_n hx hb dX12_firstOf_31 rfl (lv_at hl 3 rfl) ?_
      refine lv_iadd hx hb dX12_firstOf_32 ?_
      refine lv_topi (fun y_5 ey_5 => ?_)
      obtain rfl : y_5 = (nI (h + n3)) := ey_5.trans (nI_add _ _)
      refine lv_iload_n hx hb dX12_firstOf_33 rfl (lv_at hl 0 rfl) ?_
      refine lv_iload_n hx hb dX12_firstOf_34 rfl (lv_at hl 1 rfl) ?_
      refine lv_iadd hx hb dX12_firstOf_35 ?_
      refine lv_topi (fun y_6 ey_6 => ?_)
      obtain rfl : y_6 = (nI (n0 + n1)) := ey_6.trans (nI_add _ _)
      refine lv_irem hx hb dX12_firstOf_36 (nI_ne0 (by omega) (by omega)) ?_
      refine lv_topi (fun y_7 ey_7 => ?_)
      obtain rfl : y_7 = (nI ((h + n3) % (n0 + n1))) := ey_7.trans (pk_rem (by omega) (by omega) (by omega))
      refine lv_istore (lv' := [(5, .int (nI ((h + n3) % (n0 + n1)))), (0, .int (nI n0)), (1, .int (nI n1)), (2, .int (nI n2)), (3, .int (nI n3)), (6, .int (nI i))]) hx hb dX12_firstOf_37 hl (by decide) rfl (fun ls hl => ?_)
      refine lv_iinc (v := (nI (i + 1))) (lv' := [(6, .int (nI (i + 1))), (5, .int (nI ((h + n3) % (n0 + n1)))), (0, .int (nI n0)), (1, .int (nI n1)), (2, .int (nI n2)), (3, .int (nI n3))]) hx hb dX12_firstOf_39 hl (k := 5) rfl (nI_1 i) (by decide) rfl (fun ls hl => ?_)
      refine lv_goto (tgt := 7) hx hb dX12_firstOf_42 (by decide) ?_
      exact ih (i + 1, (h + n3) % (n0 + n1)) _ _ _ ⟨by (try dsimp only); omega, Nat.mod_lt _ (by (try dsimp only); omega), (fo_next hle hf hpl), hP, hD, hS, lv_sub hl [2, 3, 4, 5, 1, 0] rfl⟩ (by show n0 + n1 + 1 - (i + 1) < n0 + n1 + 1 - i; omega)
    · have c_4 : ((b2i (plN n0 (n0 + n1) h n2)) : Int32) = 0 := c_4
      have hpl : ¬ plN n0 (n0 + n1) h n2 = true := b2i_f c_4
      refine lv_iload hx hb dX12_firstOf_26 (lv_at hl 5 rfl) ?_
      have hP9 := hP.sub (ws' := []) [] rfl
      have hD9 := hD.sub (ws' := []) [] (by decide) rfl
      exact W.iret (v := (nI i)) hx hb hr (fun t ht hW => ⟨⟨(nI i), (), rfl, by rw [hf, fo_out hle hpl], cB_of ht hP9 hD9⟩, hS.F ht⟩) hS.2.2 dX12_firstOf_28

set_option maxHeartbeats 4000000 in
set_option maxRecDepth 100000 in
theorem c_truth0 (l : Launch) (D : va_G) (k : KT) (sz : Nat)   : Met l yX12_truth (WS yX12_truth cX12_truth 1 (some .int)) ({ frames := 0, cells := 0, slots := 0, locals := 0 }) (va_Pc [.int 0] (cQ D k [] sz)) (va_Qi (fun (r : Int32) (_ : Unit) => r = 0) (fun (_ : Unit) t => cB D (va_A [] sz) [] t) (va_A [] sz)) 0 0 (va_A [] sz) := by
  refine Met.ofW (cc := cX12_truth) (maxL := 1) (ret := (some .int)) (by decide) rfl ?_
  intro p e s m args below meth c s₁ B hml hv
  obtain ⟨rfl, hsz, hP, hKX, hD0⟩ := hv
  have hK := hKX.1
  have hx := B.exec
  have hb := B.bytes
  have hr := B.returns
  have hts := atoms_spec (ws := WS yX12_truth cX12_truth 1 (some .int)) B.pre
  have hgd : ∀ w ∈ gd, w ∈ WS yX12_truth cX12_truth 1 (some .int) := fun w h => List.mem_cons_of_mem _ h
  have hg : ∀ w ∈ gd, w.before _ s = true := fun w h => hts w (hgd w h)
  have hown : s.vm.findClass RX12 = some m.cls := findClass_of_methodNamed B.named
  have hlocks := B.notSynchronized
  subst hsz
  have hD := hD0.self (sz := s.heap.size)
  generalize hAe : va_A [] s.heap.size = A at hD ⊢
  have hA : ∀ q : Nat, s.heap.size ≤ q → A q := fun q h => by rw [← hAe]; exact Or.inr h
  have hS : va_S A s.heap s.heap [] := va_S.rf
  have hP : va_P D classes [] s.heap := hP
  have hl := lv_entry ([.int 0]) (n := 1) (Nat.le_of_ble_eq_true rfl)
  rw [lg_entry_eq]
  generalize (lg_sl ([.int 0]) ++ List.replicate (1 - (lg_sl ([.int 0])).length) Slot.unset).toArray = ls at hl ⊢
  have hl : lv_has ls 1 [(0, .int 0)] := hl
  refine lv_iload_n hx hb dX12_truth_0 rfl (lv_at hl 0 rfl) ?_
  refine lv_if_eq (tgt := 8) hx hb dX12_truth_1 (by decide) (fun c_1 => ?_) (fun c_1 => ?_)
  · have c_1 : (0 : Int32) = 0 := c_1
    refine lv_iconst (v := 0) hx hb dX12_truth_8 (by decide) ?_
    have hP9 := hP.sub (ws' := []) [] rfl
    have hD9 := hD.sub (ws' := []) [] (by decide) rfl
    exact W.iret (v := 0) hx hb hr (fun t ht hW => ⟨⟨0, (), rfl, rfl, cB_of ht hP9 hD9⟩, hS.F ht⟩) hS.2.2 dX12_truth_9
  · exact absurd (by decide) c_1

set_option maxHeartbeats 4000000 in
set_option maxRecDepth 100000 in
theorem c_truth1 (l : Launch) (D : va_G) (k : KT) (sz : Nat)   : Met l yX12_truth (WS yX12_truth cX12_truth 1 (some .int)) ({ frames := 0, cells := 0, slots := 0, locals := 0 }) (va_Pc [.int 1] (cQ D k [] sz)) (va_Qi (fun (r : Int32) (_ : Unit) => r = 1) (fun (_ : Unit) t => cB D (va_A [] sz) [] t) (va_A [] sz)) 0 0 (va_A [] sz) := by
  refine Met.ofW (cc := cX12_truth) (maxL := 1) (ret := (some .int)) (by decide) rfl ?_
  intro p e s m args below meth c s₁ B hml hv
  obtain ⟨rfl, hsz, hP, hKX, hD0⟩ := hv
  have hK := hKX.1
  have hx := B.exec
  have hb := B.bytes
  have hr := B.returns
  have hts := atoms_spec (ws := WS yX12_truth cX12_truth 1 (some .int)) B.pre
  have hgd : ∀ w ∈ gd, w ∈ WS yX12_truth cX12_truth 1 (some .int) := fun w h => List.mem_cons_of_mem _ h
  have hg : ∀ w ∈ gd, w.before _ s = true := fun w h => hts w (hgd w h)
  have hown : s.vm.findClass RX12 = some m.cls := findClass_of_methodNamed B.named
  have hlocks := B.notSynchronized
  subst hsz
  have hD := hD0.self (sz := s.heap.size)
  generalize hAe : va_A [] s.heap.size = A at hD ⊢
  have hA : ∀ q : Nat, s.heap.size ≤ q → A q := fun q h => by rw [← hAe]; exact Or.inr h
  have hS : va_S A s.heap s.heap [] := va_S.rf
  have hP : va_P D classes [] s.heap := hP
  have hl := lv_entry ([.int 1]) (n := 1) (Nat.le_of_ble_eq_true rfl)
  rw [lg_entry_eq]
  generalize (lg_sl ([.int 1]) ++ List.replicate (1 - (lg_sl ([.int 1])).length) Slot.unset).toArray = ls at hl ⊢
  have hl : lv_has ls 1 [(0, .int 1)] := hl
  refine lv_iload_n hx hb dX12_truth_0 rfl (lv_at hl 0 rfl) ?_
  refine lv_if_eq (tgt := 8) hx hb dX12_truth_1 (by decide) (fun c_1 => ?_) (fun c_1 => ?_)
  · exact absurd c_1 (by decide)
  · have c_1 : ¬ ((1 : Int32) = 0) := c_1
    refine lv_iconst (v := 1) hx hb dX12_truth_4 (by decide) ?_
    refine lv_goto (tgt := 9) hx hb dX12_truth_5 (by decide) ?_
    have hP9 := hP.sub (ws' := []) [] rfl
    have hD9 := hD.sub (ws' := []) [] (by decide) rfl
    exact W.iret (v := 1) hx hb hr (fun t ht hW => ⟨⟨1, (), rfl, rfl, cB_of ht hP9 hD9⟩, hS.F ht⟩) hS.2.2 dX12_truth_9

set_option maxHeartbeats 4000000 in
set_option maxRecDepth 100000 in
theorem c_beginOf (l : Launch) (D : va_G) (k : KT) (sz : Nat) (n0 n1 n2 n3 : Nat) (ob1 : 1 ≤ n0) (ob2 : n0 ≤ 60) (ob3 : n1 ≤ 9) (ob4 : 1 ≤ n2) (ob5 : n2 ≤ 12) (ob6 : 1 ≤ n3) (ob7 : n3 ≤ 99) : Met l yX12_beginOf (WS yX12_beginOf cX12_beginOf 6 (some .int)) ({ frames := 2, cells := 0, slots := 0, locals := 51 }) (va_Pc [.int (nI n0), .int (nI n1), .int (nI n2), .int (nI n3)] (cQ D k [] sz)) (va_Qi (fun (r : Int32) (_ : Unit) => r = (nI (bgN n0 n1 n2 n3))) (fun (_ : Unit) t => cB D (va_A [] sz) [] t) (va_A [] sz)) 0 0 (va_A [] sz) := by
  refine Met.ofW (cc := cX12_beginOf) (maxL := 6) (ret := (some .int)) (by decide) rfl ?_
  intro p e s m args below meth c s₁ B hml hv
  obtain ⟨rfl, hsz, hP, hKX, hD0⟩ := hv
  have hK := hKX.1
  have hx := B.exec
  have hb := B.bytes
  have hr := B.returns
  have hts := atoms_spec (ws := WS yX12_beginOf cX12_beginOf 6 (some .int)) B.pre
  have hgd : ∀ w ∈ gd, w ∈ WS yX12_beginOf cX12_beginOf 6 (some .int) := fun w h => List.mem_cons_of_mem _ h
  have hg : ∀ w ∈ gd, w.before _ s = true := fun w h => hts w (hgd w h)
  have hown : s.vm.findClass RX12 = some m.cls := findClass_of_methodNamed B.named
  have hlocks := B.notSynchronized
  subst hsz
  have hD := hD0.self (sz := s.heap.size)
  generalize hAe : va_A [] s.heap.size = A at hD ⊢
  have hA : ∀ q : Nat, s.heap.size ≤ q → A q := fun q h => by rw [← hAe]; exact Or.inr h
  have hS : va_S A s.heap s.heap [] := va_S.rf
  have hP : va_P D classes [] s.heap := hP
  have hl := lv_entry ([.int (nI n0), .int (nI n1), .int (nI n2), .int (nI n3)]) (n := 6) (Nat.le_of_ble_eq_true rfl)
  rw [lg_entry_eq]
  generalize (lg_sl ([.int (nI n0), .int (nI n1), .int (nI n2), .int (nI n3)]) ++ List.replicate (6 - (lg_sl ([.int (nI n0), .int (nI n1), .int (nI n2), .int (nI n3)])).length) Slot.unset).toArray = ls at hl ⊢
  have hl : lv_has ls 6 [(0, .int (nI n0)), (1, .int (nI n1)), (2, .int (nI n2)), (3, .int (nI n3))] := hl
  refine lv_iconst (v := 0) hx hb dX12_beginOf_0 (by decide) ?_
  refine lv_istore (lv' := [(4, .int 0), (0, .int (nI n0)), (1, .int (nI n1)), (2, .int (nI n2)), (3, .int (nI n3))]) hx hb dX12_beginOf_1 hl (by decide) rfl (fun ls hl => ?_)
  refine lv_iconst (v := 0) hx hb dX12_beginOf_3 (by decide) ?_
  refine lv_istore (lv' := [(5, .int 0), (4, .int 0), (0, .int (nI n0)), (1, .int (nI n1)), (2, .int (nI n2)), (3, .int (nI n3))]) hx hb dX12_beginOf_4 hl (by decide) rfl (fun ls hl => ?_)
  refine loop_W (σ := Nat) (fun i H locs ls => (i ≤ n0 + n1) ∧ va_P D classes [] H ∧ va_D A [] ∧ va_S A s.heap H locs ∧ lv_has ls 6 [(0, .int (nI n0)), (1, .int (nI n1)), (2, .int (nI n2)), (3, .int (nI n3)), (4, .int (nI (boN n0 (n0 + n1) n2 n3 i))), (5, .int (nI i))]) (fun i => n0 + n1 - i) (fun i H locs ls hI ih => ?_) 0 _ _ ls ⟨Nat.zero_le _, hP, hD, hS, lv_sub hl [2, 3, 4, 5, 1, 0] rfl⟩
  obtain ⟨hi, hP, hD, hS, hl⟩ := hI
  have hi : i ≤ n0 + n1 := hi
  have hl : lv_has ls 6 [(0, .int (nI n0)), (1, .int (nI n1)), (2, .int (nI n2)), (3, .int (nI n3)), (4, .int (nI (boN n0 (n0 + n1) n2 n3 i))), (5, .int (nI i))] := hl
  refine lv_iload hx hb dX12_beginOf_6 (lv_at hl 5 rfl) ?_
  refine lv_iload_n hx hb dX12_beginOf_8 rfl (lv_at hl 0 rfl) ?_
  refine lv_iload_n hx hb dX12_beginOf_9 rfl (lv_at hl 1 rfl) ?_
  refine lv_iadd hx hb dX12_beginOf_10 ?_
  refine lv_topi (fun y_1 ey_1 => ?_)
  obtain rfl : y_1 = (nI (n0 + n1)) := ey_1.trans (nI_add _ _)
  refine lv_icmp_ge (tgt := 45) hx hb dX12_beginOf_11 (by decide) (fun c_2 => ?_) (fun c_2 => ?_)
  · have c_2 : ((nI (n0 + n1)) : Int32) ≤ (nI i) := c_2
    have hin : i = n0 + n1 := by have := (nI_leI (a := n0 + n1) (b := i) (by omega) (by omega)).mp c_2; omega
    refine lv_iload hx hb dX12_beginOf_45 (lv_at hl 4 rfl) ?_
    have hP9 := hP.sub (ws' := []) [] rfl
    have hD9 := hD.sub (ws' := []) [] (by decide) rfl
    exact W.iret (v := (nI (boN n0 (n0 + n1) n2 n3 i))) hx hb hr (fun t ht hW => ⟨⟨(nI (boN n0 (n0 + n1) n2 n3 i)), (), rfl, by rw [hin, begin_same ob1 ob4 (by omega) (by omega) (by omega)], cB_of ht hP9 hD9⟩, hS.F ht⟩) hS.2.2 dX12_beginOf_47
  · have c_2 : ¬ (((nI (n0 + n1)) : Int32) ≤ (nI i)) := c_2
    have hlt : i < n0 + n1 := by have := n_nle (a := n0 + n1) (b := i) (by omega) (by omega) c_2; omega
    refine lv_iload hx hb dX12_beginOf_14 (lv_at hl 4 rfl) ?_
    refine lv_iload_n hx hb dX12_beginOf_16 rfl (lv_at hl 0 rfl) ?_
    refine lv_iload_n hx hb dX12_beginOf_17 rfl (lv_at hl 1 rfl) ?_
    refine lv_iload_n hx hb dX12_beginOf_18 rfl (lv_at hl 2 rfl) ?_
    refine lv_iload_n hx hb dX12_beginOf_19 rfl (lv_at hl 3 rfl) ?_
    refine lv_iload hx hb dX12_beginOf_20 (lv_at hl 5 rfl) ?_
    have hPc := hP.sub (ws' := []) [] rfl
    have hDc := hD.sub (ws' := []) [] (by decide) rfl
    have hFc := va_free (wc := []) hD hS hA [] rfl
    refine va_calli (va_runS (As := [.int (nI n0), .int (nI n1), .int (nI n2), .int (nI n3), .int (nI i)]) (rest := [.int (nI (boN n0 (n0 + n1) n2 n3 i))]) ⟨hx, hb, hml, hown, hts⟩ (c_firstOf l D k H.size n0 n1 n2 n3 i (by omega) (by omega) (by omega) (by omega) (by omega) (by omega) (by omega) (by omega)) (va_cwS 5 hts (gd_S hgd m1910 m1911 m131 m1912) rfl rfl rfl (by decide +kernel) ⟨Nat.le_of_ble_eq_true rfl, Nat.le_of_ble_eq_true rfl⟩) (cQ_S hPc hKX hDc) rfl rfl hl.1 rfl (lv_room (Nat.le_of_ble_eq_true rfl)) dX12_beginOf_22 ⟨Nat.le_of_ble_eq_true rfl, Nat.le_of_ble_eq_true rfl⟩) hS (fun q _ h => hFc q h) hFc (fun r_3 u t H1 locs ht hvm hw hB hz1 hk1 hS => ?_)
    obtain ⟨hP1, hD1⟩ := hB
    rw [ht] at hP1
    obtain ⟨hP, hD⟩ := va_join (wr := []) (w1 := []) hP hD [] [] rfl rfl (by decide) (by decide) hk1 hFc hP1 hD1
    generalize H1 = H at hP hS ⊢
    have hP : va_P D classes [] H := hP
    have hD : va_D A [] := hD
    refine W.widen (k := 0) (n := 0) (Nat.le_of_ble_eq_true rfl) (Nat.le_of_ble_eq_true rfl) ?_
    subst hw
    refine lv_if_ge (tgt := 32) hx hb dX12_beginOf_25 (by decide) (fun c_4 => ?_) (fun c_4 => ?_)
    · have c_4 : (0 : Int32) ≤ (foG n0 (n0 + n1) n2 n3 (n0 + n1 + 1) 0 i) := c_4
      refine lv_iconst (v := 0) hx hb dX12_beginOf_32 (by decide) ?_
      have hPc := hP.sub (ws' := []) [] rfl
      have hDc := hD.sub (ws' := []) [] (by decide) rfl
      have hFc := va_free (wc := []) hD hS hA [] rfl
      refine va_calli (va_runS (As := [.int 0]) (rest := [.int (nI (boN n0 (n0 + n1) n2 n3 i))]) ⟨hx, hb, hml, hown, hts⟩ (c_truth0 l D k H.size  ) (va_cwS 1 hts (gd_S hgd m1788 m1789 m131 m1790) rfl rfl rfl (by decide +kernel) ⟨Nat.le_of_ble_eq_true rfl, Nat.le_of_ble_eq_true rfl⟩) (cQ_S hPc hKX hDc) rfl rfl hl.1 rfl (lv_room (Nat.le_of_ble_eq_true rfl)) dX12_beginOf_33 ⟨Nat.le_of_ble_eq_true rfl, Nat.le_of_ble_eq_true rfl⟩) hS (fun q _ h => hFc q h) hFc (fun r_5 u t H1 locs ht hvm hw hB hz1 hk1 hS => ?_)
      obtain ⟨hP1, hD1⟩ := hB
      rw [ht] at hP1
      obtain ⟨hP, hD⟩ := va_join (wr := []) (w1 := []) hP hD [] [] rfl rfl (by decide) (by decide) hk1 hFc hP1 hD1
      generalize H1 = H at hP hS ⊢
      have hP : va_P D classes [] H := hP
      have hD : va_D A [] := hD
      refine W.widen (k := 0) (n := 0) (Nat.le_of_ble_eq_true rfl) (Nat.le_of_ble_eq_true rfl) ?_
      subst hw
      refine lv_iadd hx hb dX12_beginOf_36 ?_
      refine lv_topi (fun y_6 ey_6 => ?_)
      obtain rfl : y_6 = (nI (boN n0 (n0 + n1) n2 n3 (i + 1))) := ey_6.trans (bo_0 c_4)
      refine lv_istore (lv' := [(4, .int (nI (boN n0 (n0 + n1) n2 n3 (i + 1)))), (0, .int (nI n0)), (1, .int (nI n1)), (2, .int (nI n2)), (3, .int (nI n3)), (5, .int (nI i))]) hx hb dX12_beginOf_37 hl (by decide) rfl (fun ls hl => ?_)
      refine lv_iinc (v := (nI (i + 1))) (lv' := [(5, .int (nI (i + 1))), (4, .int (nI (boN n0 (n0 + n1) n2 n3 (i + 1)))), (0, .int (nI n0)), (1, .int (nI n1)), (2, .int (nI n2)), (3, .int (nI n3))]) hx hb dX12_beginOf_39 hl (k := 5) rfl (nI_1 i) (by decide) rfl (fun ls hl => ?_)
      refine lv_goto (tgt := 6) hx hb dX12_beginOf_42 (by decide) ?_
      exact ih (i + 1) _ _ _ ⟨by (try dsimp only); omega, hP, hD, hS, lv_sub hl [2, 3, 4, 5, 1, 0] rfl⟩ (by show n0 + n1 - (i + 1) < n0 + n1 - i; omega)
    · have c_4 : ¬ ((0 : Int32) ≤ (foG n0 (n0 + n1) n2 n3 (n0 + n1 + 1) 0 i)) := c_4
      refine lv_iconst (v := 1) hx hb dX12_beginOf_28 (by decide) ?_
      refine lv_goto (tgt := 33) hx hb dX12_beginOf_29 (by decide) ?_
      have hPc := hP.sub (ws' := []) [] rfl
      have hDc := hD.sub (ws' := []) [] (by decide) rfl
      have hFc := va_free (wc := []) hD hS hA [] rfl
      refine va_calli (va_runS (As := [.int 1]) (rest := [.int (nI (boN n0 (n0 + n1) n2 n3 i))]) ⟨hx, hb, hml, hown, hts⟩ (c_truth1 l D k H.size  ) (va_cwS 1 hts (gd_S hgd m1788 m1789 m131 m1790) rfl rfl rfl (by decide +kernel) ⟨Nat.le_of_ble_eq_true rfl, Nat.le_of_ble_eq_true rfl⟩) (cQ_S hPc hKX hDc) rfl rfl hl.1 rfl (lv_room (Nat.le_of_ble_eq_true rfl)) dX12_beginOf_33 ⟨Nat.le_of_ble_eq_true rfl, Nat.le_of_ble_eq_true rfl⟩) hS (fun q _ h => hFc q h) hFc (fun r_7 u t H1 locs ht hvm hw hB hz1 hk1 hS => ?_)
      obtain ⟨hP1, hD1⟩ := hB
      rw [ht] at hP1
      obtain ⟨hP, hD⟩ := va_join (wr := []) (w1 := []) hP hD [] [] rfl rfl (by decide) (by decide) hk1 hFc hP1 hD1
      generalize H1 = H at hP hS ⊢
      have hP : va_P D classes [] H := hP
      have hD : va_D A [] := hD
      refine W.widen (k := 0) (n := 0) (Nat.le_of_ble_eq_true rfl) (Nat.le_of_ble_eq_true rfl) ?_
      subst hw
      refine lv_iadd hx hb dX12_beginOf_36 ?_
      refine lv_topi (fun y_8 ey_8 => ?_)
      obtain rfl : y_8 = (nI (boN n0 (n0 + n1) n2 n3 (i + 1))) := ey_8.trans (bo_1 c_4)
      refine lv_istore (lv' := [(4, .int (nI (boN n0 (n0 + n1) n2 n3 (i + 1)))), (0, .int (nI n0)), (1, .int (nI n1)), (2, .int (nI n2)), (3, .int (nI n3)), (5, .int (nI i))]) hx hb dX12_beginOf_37 hl (by decide) rfl (fun ls hl => ?_)
      refine lv_iinc (v := (nI (i + 1))) (lv' := [(5, .int (nI (i + 1))), (4, .int (nI (boN n0 (n0 + n1) n2 n3 (i + 1)))), (0, .int (nI n0)), (1, .int (nI n1)), (2, .int (nI n2)), (3, .int (nI n3))]) hx hb dX12_beginOf_39 hl (k := 5) rfl (nI_1 i) (by decide) rfl (fun ls hl => ?_)
      refine lv_goto (tgt := 6) hx hb dX12_beginOf_42 (by decide) ?_
      exact ih (i + 1) _ _ _ ⟨by (try dsimp only); omega, hP, hD, hS, lv_sub hl [2, 3, 4, 5, 1, 0] rfl⟩ (by show n0 + n1 - (i + 1) < n0 + n1 - i; omega)
