set_option maxHeartbeats 4000000 in
set_option maxRecDepth 100000 in
theorem c_endless_ok (l : Launch) (D : va_G) (k : ClassId × ClassId × ClassId × ClassId) (sz : Nat) (n0 n1 n2 : Nat) (ob1 : 1 ≤ n0) (ob2 : n0 ≤ 60) (ob3 : n1 ≤ 9) (ob4 : 1 ≤ n2) (ob5 : n2 ≤ 12) : Met l yX11_isEndless (WS yX11_isEndless cX11_isEndless 3 (some .boolean)) ({ frames := 0, cells := 0, slots := 0, locals := 0 }) (va_Pc [.int (nI n0), .int (nI n1), .int (nI n2)] (cP D k [] sz)) (va_Qi (fun (r : Int32) (_ : Unit) => r = 1) (fun (_ : Unit) t => cB D (va_A [] sz) [] t) (va_A [] sz)) 0 0 (va_A [] sz) := by
  refine Met.ofW (cc := cX11_isEndless) (maxL := 3) (ret := (some .boolean)) (by decide) rfl ?_
  intro p e s m args below meth c s₁ B hml hv
  obtain ⟨rfl, hsz, hP, hKX, hD0⟩ := hv
  have hK := hKX.1
  have hx := B.exec
  have hb := B.bytes
  have hr := B.returns
  have hts := atoms_spec (ws := WS yX11_isEndless cX11_isEndless 3 (some .boolean)) B.pre
  have hgd : ∀ w ∈ gd, w ∈ WS yX11_isEndless cX11_isEndless 3 (some .boolean) := fun w h => List.mem_cons_of_mem _ h
  have hg : ∀ w ∈ gd, w.before _ s = true := fun w h => hts w (hgd w h)
  have hown : s.vm.findClass RX11 = some m.cls := findClass_of_methodNamed B.named
  have hlocks := B.notSynchronized
  subst hsz
  have hD := hD0.self (sz := s.heap.size)
  generalize hAe : va_A [] s.heap.size = A at hD ⊢
  have hA : ∀ q : Nat, s.heap.size ≤ q → A q := fun q h => by rw [← hAe]; exact Or.inr h
  have hS : va_S A s.heap s.heap [] := va_S.rf
  have hP : va_P D classes [] s.heap := hP
  have hl := lv_entry ([.int (nI n0), .int (nI n1), .int (nI n2)]) (n := 3) (Nat.le_of_ble_eq_true rfl)
  rw [lg_entry_eq]
  generalize (lg_sl ([.int (nI n0), .int (nI n1), .int (nI n2)]) ++ List.replicate (3 - (lg_sl ([.int (nI n0), .int (nI n1), .int (nI n2)])).length) Slot.unset).toArray = ls at hl ⊢
  have hl : lv_has ls 3 [(0, .int (nI n0)), (1, .int (nI n1)), (2, .int (nI n2))] := hl
  refine lv_iload_n hx hb dX11_isEndless_0 rfl (lv_at hl 0 rfl) ?_
  refine lv_iconst (v := 1) hx hb dX11_isEndless_1 (by decide) ?_
  refine lv_icmp_lt (tgt := 36) hx hb dX11_isEndless_2 (by decide) (fun c_1 => ?_) (fun c_1 => ?_)
  · exact absurd c_1 (nI_nlt (a := n0) (b := 1) (by omega) (by omega))
  · have c_1 : ¬ (((nI n0) : Int32) < 1) := c_1
    refine lv_iload_n hx hb dX11_isEndless_5 rfl (lv_at hl 0 rfl) ?_
    refine lv_bipush (v := 60) hx hb dX11_isEndless_6 (by decide) ?_
    refine lv_icmp_gt (tgt := 36) hx hb dX11_isEndless_8 (by decide) (fun c_2 => ?_) (fun c_2 => ?_)
    · exact absurd c_2 (nI_nlt (a := 60) (b := n0) (by omega) (by omega))
    · have c_2 : ¬ ((60 : Int32) < (nI n0)) := c_2
      refine lv_iload_n hx hb dX11_isEndless_11 rfl (lv_at hl 1 rfl) ?_
      refine lv_if_lt (tgt := 36) hx hb dX11_isEndless_12 (by decide) (fun c_3 => ?_) (fun c_3 => ?_)
      · exact absurd c_3 (nI_nlt (a := n1) (b := 0) (by omega) (by omega))
      · have c_3 : ¬ (((nI n1) : Int32) < 0) := c_3
        refine lv_iload_n hx hb dX11_isEndless_15 rfl (lv_at hl 1 rfl) ?_
        refine lv_bipush (v := 9) hx hb dX11_isEndless_16 (by decide) ?_
        refine lv_icmp_gt (tgt := 36) hx hb dX11_isEndless_18 (by decide) (fun c_4 => ?_) (fun c_4 => ?_)
        · exact absurd c_4 (nI_nlt (a := 9) (b := n1) (by omega) (by omega))
        · have c_4 : ¬ ((9 : Int32) < (nI n1)) := c_4
          refine lv_iload_n hx hb dX11_isEndless_21 rfl (lv_at hl 2 rfl) ?_
          refine lv_iconst (v := 1) hx hb dX11_isEndless_22 (by decide) ?_
          refine lv_icmp_lt (tgt := 36) hx hb dX11_isEndless_23 (by decide) (fun c_5 => ?_) (fun c_5 => ?_)
          · exact absurd c_5 (nI_nlt (a := n2) (b := 1) (by omega) (by omega))
          · have c_5 : ¬ (((nI n2) : Int32) < 1) := c_5
            refine lv_iload_n hx hb dX11_isEndless_26 rfl (lv_at hl 2 rfl) ?_
            refine lv_bipush (v := 12) hx hb dX11_isEndless_27 (by decide) ?_
            refine lv_icmp_gt (tgt := 36) hx hb dX11_isEndless_29 (by decide) (fun c_6 => ?_) (fun c_6 => ?_)
            · exact absurd c_6 (nI_nlt (a := 12) (b := n2) (by omega) (by omega))
            · have c_6 : ¬ ((12 : Int32) < (nI n2)) := c_6
              refine lv_iconst (v := 1) hx hb dX11_isEndless_32 (by decide) ?_
              refine lv_goto (tgt := 37) hx hb dX11_isEndless_33 (by decide) ?_
              have hP9 := hP.sub (ws' := []) [] rfl
              have hD9 := hD.sub (ws' := []) [] (by decide) rfl
              exact W.zret (v := 1) hx hb hr (by decide) (fun t ht hW => ⟨⟨1, (), rfl, rfl, cB_of ht hP9 hD9⟩, hS.F ht⟩) hS.2.2 dX11_isEndless_37

set_option maxHeartbeats 4000000 in
set_option maxRecDepth 100000 in
theorem c_endless (l : Launch) (D : va_G) (k : ClassId × ClassId × ClassId × ClassId) (sz : Nat) (p0 p1 p2 : Int32)  : Met l yX11_isEndless (WS yX11_isEndless cX11_isEndless 3 (some .boolean)) ({ frames := 0, cells := 0, slots := 0, locals := 0 }) (va_Pc [.int p0, .int p1, .int p2] (cP D k [] sz)) (va_Qi (fun (r : Int32) (_ : Unit) => r = s_endless p0 p1 p2) (fun (_ : Unit) t => cB D (va_A [] sz) [] t) (va_A [] sz)) 0 0 (va_A [] sz) := by
  refine Met.ofW (cc := cX11_isEndless) (maxL := 3) (ret := (some .boolean)) (by decide) rfl ?_
  intro p e s m args below meth c s₁ B hml hv
  obtain ⟨rfl, hsz, hP, hKX, hD0⟩ := hv
  have hK := hKX.1
  have hx := B.exec
  have hb := B.bytes
  have hr := B.returns
  have hts := atoms_spec (ws := WS yX11_isEndless cX11_isEndless 3 (some .boolean)) B.pre
  have hgd : ∀ w ∈ gd, w ∈ WS yX11_isEndless cX11_isEndless 3 (some .boolean) := fun w h => List.mem_cons_of_mem _ h
  have hg : ∀ w ∈ gd, w.before _ s = true := fun w h => hts w (hgd w h)
  have hown : s.vm.findClass RX11 = some m.cls := findClass_of_methodNamed B.named
  have hlocks := B.notSynchronized
  subst hsz
  have hD := hD0.self (sz := s.heap.size)
  generalize hAe : va_A [] s.heap.size = A at hD ⊢
  have hA : ∀ q : Nat, s.heap.size ≤ q → A q := fun q h => by rw [← hAe]; exact Or.inr h
  have hS : va_S A s.heap s.heap [] := va_S.rf
  have hP : va_P D classes [] s.heap := hP
  have hl := lv_entry ([.int p0, .int p1, .int p2]) (n := 3) (Nat.le_of_ble_eq_true rfl)
  rw [lg_entry_eq]
  generalize (lg_sl ([.int p0, .int p1, .int p2]) ++ List.replicate (3 - (lg_sl ([.int p0, .int p1, .int p2])).length) Slot.unset).toArray = ls at hl ⊢
  have hl : lv_has ls 3 [(0, .int p0), (1, .int p1), (2, .int p2)] := hl
  refine lv_iload_n hx hb dX11_isEndless_0 rfl (lv_at hl 0 rfl) ?_
  refine lv_iconst (v := 1) hx hb dX11_isEndless_1 (by decide) ?_
  refine lv_icmp_lt (tgt := 36) hx hb dX11_isEndless_2 (by decide) (fun c_1 => ?_) (fun c_1 => ?_)
  · have c_1 : (p0 : Int32) < 1 := c_1
    refine lv_iconst (v := 0) hx hb dX11_isEndless_36 (by decide) ?_
    have hP9 := hP.sub (ws' := []) [] rfl
    have hD9 := hD.sub (ws' := []) [] (by decide) rfl
    exact W.zret (v := 0) hx hb hr (by decide) (fun t ht hW => ⟨⟨0, (), rfl, by simp [s_endless, c_1], cB_of ht hP9 hD9⟩, hS.F ht⟩) hS.2.2 dX11_isEndless_37
  · have c_1 : ¬ ((p0 : Int32) < 1) := c_1
    refine lv_iload_n hx hb dX11_isEndless_5 rfl (lv_at hl 0 rfl) ?_
    refine lv_bipush (v := 60) hx hb dX11_isEndless_6 (by decide) ?_
    refine lv_icmp_gt (tgt := 36) hx hb dX11_isEndless_8 (by decide) (fun c_2 => ?_) (fun c_2 => ?_)
    · have c_2 : (60 : Int32) < p0 := c_2
      refine lv_iconst (v := 0) hx hb dX11_isEndless_36 (by decide) ?_
      have hP9 := hP.sub (ws' := []) [] rfl
      have hD9 := hD.sub (ws' := []) [] (by decide) rfl
      exact W.zret (v := 0) hx hb hr (by decide) (fun t ht hW => ⟨⟨0, (), rfl, by simp [s_endless, c_1, c_2], cB_of ht hP9 hD9⟩, hS.F ht⟩) hS.2.2 dX11_isEndless_37
    · have c_2 : ¬ ((60 : Int32) < p0) := c_2
      refine lv_iload_n hx hb dX11_isEndless_11 rfl (lv_at hl 1 rfl) ?_
      refine lv_if_lt (tgt := 36) hx hb dX11_isEndless_12 (by decide) (fun c_3 => ?_) (fun c_3 => ?_)
      · have c_3 : (p1 : Int32) < 0 := c_3
        refine lv_iconst (v := 0) hx hb dX11_isEndless_36 (by decide) ?_
        have hP9 := hP.sub (ws' := []) [] rfl
        have hD9 := hD.sub (ws' := []) [] (by decide) rfl
        exact W.zret (v := 0) hx hb hr (by decide) (fun t ht hW => ⟨⟨0, (), rfl, by simp [s_endless, c_1, c_2, c_3], cB_of ht hP9 hD9⟩, hS.F ht⟩) hS.2.2 dX11_isEndless_37
      · have c_3 : ¬ ((p1 : Int32) < 0) := c_3
        refine lv_iload_n hx hb dX11_isEndless_15 rfl (lv_at hl 1 rfl) ?_
        refine lv_bipush (v := 9) hx hb dX11_isEndless_16 (by decide) ?_
        refine lv_icmp_gt (tgt := 36) hx hb dX11_isEndless_18 (by decide) (fun c_4 => ?_) (fun c_4 => ?_)
        · have c_4 : (9 : Int32) < p1 := c_4
          refine lv_iconst (v := 0) hx hb dX11_isEndless_36 (by decide) ?_
          have hP9 := hP.sub (ws' := []) [] rfl
          have hD9 := hD.sub (ws' := []) [] (by decide) rfl
          exact W.zret (v := 0) hx hb hr (by decide) (fun t ht hW => ⟨⟨0, (), rfl, by simp [s_endless, c_1, c_2, c_3, c_4], cB_of ht hP9 hD9⟩, hS.F ht⟩) hS.2.2 dX11_isEndless_37
        · have c_4 : ¬ ((9 : Int32) < p1) := c_4
          refine lv_iload_n hx hb dX11_isEndless_21 rfl (lv_at hl 2 rfl) ?_
          refine lv_iconst (v := 1) hx hb dX11_isEndless_22 (by decide) ?_
          refine lv_icmp_lt (tgt := 36) hx hb dX11_isEndless_23 (by decide) (fun c_5 => ?_) (fun c_5 => ?_)
          · have c_5 : (p2 : Int32) < 1 := c_5
            refine lv_iconst (v := 0) hx hb dX11_isEndless_36 (by decide) ?_
            have hP9 := hP.sub (ws' := []) [] rfl
            have hD9 := hD.sub (ws' := []) [] (by decide) rfl
            exact W.zret (v := 0) hx hb hr (by decide) (fun t ht hW => ⟨⟨0, (), rfl, by simp [s_endless, c_1, c_2, c_3, c_4, c_5], cB_of ht hP9 hD9⟩, hS.F ht⟩) hS.2.2 dX11_isEndless_37
          · have c_5 : ¬ ((p2 : Int32) < 1) := c_5
            refine lv_iload_n hx hb dX11_isEndless_26 rfl (lv_at hl 2 rfl) ?_
            refine lv_bipush (v := 12) hx hb dX11_isEndless_27 (by decide) ?_
            refine lv_icmp_gt (tgt := 36) hx hb dX11_isEndless_29 (by decide) (fun c_6 => ?_) (fun c_6 => ?_)
            · have c_6 : (12 : Int32) < p2 := c_6
              refine lv_iconst (v := 0) hx hb dX11_isEndless_36 (by decide) ?_
              have hP9 := hP.sub (ws' := []) [] rfl
              have hD9 := hD.sub (ws' := []) [] (by decide) rfl
              exact W.zret (v := 0) hx hb hr (by decide) (fun t ht hW => ⟨⟨0, (), rfl, by simp [s_endless, c_1, c_2, c_3, c_4, c_5, c_6], cB_of ht hP9 hD9⟩, hS.F ht⟩) hS.2.2 dX11_isEndless_37
            · have c_6 : ¬ ((12 : Int32) < p2) := c_6
              refine lv_iconst (v := 1) hx hb dX11_isEndless_32 (by decide) ?_
              refine lv_goto (tgt := 37) hx hb dX11_isEndless_33 (by decide) ?_
              have hP9 := hP.sub (ws' := []) [] rfl
              have hD9 := hD.sub (ws' := []) [] (by decide) rfl
              exact W.zret (v := 1) hx hb hr (by decide) (fun t ht hW => ⟨⟨1, (), rfl, by simp [s_endless, c_1, c_2, c_3, c_4, c_5, c_6], cB_of ht hP9 hD9⟩, hS.F ht⟩) hS.2.2 dX11_isEndless_37

set_option maxHeartbeats 4000000 in
set_option maxRecDepth 100000 in
theorem c_isIn_ok (l : Launch) (D : va_G) (k : ClassId × ClassId × ClassId × ClassId) (sz : Nat) (p0 p1 p2 : Int32) (h_a : ¬ (p0 < p1)) (h_b : ¬ (p2 < p0)) : Met l yX12_isIn (WS yX12_isIn cX12_isIn 3 (some .boolean)) ({ frames := 0, cells := 0, slots := 0, locals := 0 }) (va_Pc [.int p0, .int p1, .int p2] (cP D k [] sz)) (va_Qi (fun (r : Int32) (_ : Unit) => r = 1) (fun (_ : Unit) t => cB D (va_A [] sz) [] t) (va_A [] sz)) 0 0 (va_A [] sz) := by
  refine Met.ofW (cc := cX12_isIn) (maxL := 3) (ret := (some .boolean)) (by decide) rfl ?_
  intro p e s m args below meth c s₁ B hml hv
  obtain ⟨rfl, hsz, hP, hKX, hD0⟩ := hv
  have hK := hKX.1
  have hx := B.exec
  have hb := B.bytes
  have hr := B.returns
  have hts := atoms_spec (ws := WS yX12_isIn cX12_isIn 3 (some .boolean)) B.pre
  have hgd : ∀ w ∈ gd, w ∈ WS yX12_isIn cX12_isIn 3 (some .boolean) := fun w h => List.mem_cons_of_mem _ h
  have hg : ∀ w ∈ gd, w.before _ s = true := fun w h => hts w (hgd w h)
  have hown : s.vm.findClass RX12 = some m.cls := findClass_of_methodNamed B.named
  have hlocks := B.notSynchronized
  subst hsz
  have hD := hD0.self (sz := s.heap.size)
  generalize hAe : va_A [] s.heap.size = A at hD ⊢
  have hA : ∀ q : Nat, s.heap.size ≤ q → A q := fun q h => by rw [← hAe]; exact Or.inr h
  have hS : va_S A s.heap s.heap [] := va_S.rf
  have hP : va_P D classes [] s.heap := hP
  have hl := lv_entry ([.int p0, .int p1, .int p2]) (n := 3) (Nat.le_of_ble_eq_true rfl)
  rw [lg_entry_eq]
  generalize (lg_sl ([.int p0, .int p1, .int p2]) ++ List.replicate (3 - (lg_sl ([.int p0, .int p1, .int p2])).length) Slot.unset).toArray = ls at hl ⊢
  have hl : lv_has ls 3 [(0, .int p0), (1, .int p1), (2, .int p2)] := hl
  refine lv_iload_n hx hb dX12_isIn_0 rfl (lv_at hl 0 rfl) ?_
  refine lv_iload_n hx hb dX12_isIn_1 rfl (lv_at hl 1 rfl) ?_
  refine lv_icmp_lt (tgt := 14) hx hb dX12_isIn_2 (by decide) (fun c_1 => ?_) (fun c_1 => ?_)
  · exact absurd c_1 h_a
  · have c_1 : ¬ ((p0 : Int32) < p1) := c_1
    refine lv_iload_n hx hb dX12_isIn_5 rfl (lv_at hl 0 rfl) ?_
    refine lv_iload_n hx hb dX12_isIn_6 rfl (lv_at hl 2 rfl) ?_
    refine lv_icmp_gt (tgt := 14) hx hb dX12_isIn_7 (by decide) (fun c_2 => ?_) (fun c_2 => ?_)
    · exact absurd c_2 h_b
    · have c_2 : ¬ ((p2 : Int32) < p0) := c_2
      refine lv_iconst (v := 1) hx hb dX12_isIn_10 (by decide) ?_
      refine lv_goto (tgt := 15) hx hb dX12_isIn_11 (by decide) ?_
      have hP9 := hP.sub (ws' := []) [] rfl
      have hD9 := hD.sub (ws' := []) [] (by decide) rfl
      exact W.zret (v := 1) hx hb hr (by decide) (fun t ht hW => ⟨⟨1, (), rfl, rfl, cB_of ht hP9 hD9⟩, hS.F ht⟩) hS.2.2 dX12_isIn_15

set_option maxHeartbeats 4000000 in
set_option maxRecDepth 100000 in
theorem c_isIn (l : Launch) (D : va_G) (k : ClassId × ClassId × ClassId × ClassId) (sz : Nat) (p0 p1 p2 : Int32)  : Met l yX12_isIn (WS yX12_isIn cX12_isIn 3 (some .boolean)) ({ frames := 0, cells := 0, slots := 0, locals := 0 }) (va_Pc [.int p0, .int p1, .int p2] (cP D k [] sz)) (va_Qi (fun (r : Int32) (_ : Unit) => r = s_in p0 p1 p2) (fun (_ : Unit) t => cB D (va_A [] sz) [] t) (va_A [] sz)) 0 0 (va_A [] sz) := by
  refine Met.ofW (cc := cX12_isIn) (maxL := 3) (ret := (some .boolean)) (by decide) rfl ?_
  intro p e s m args below meth c s₁ B hml hv
  obtain ⟨rfl, hsz, hP, hKX, hD0⟩ := hv
  have hK := hKX.1
  have hx := B.exec
  have hb := B.bytes
  have hr := B.returns
  have hts := atoms_spec (ws := WS yX12_isIn cX12_isIn 3 (some .boolean)) B.pre
  have hgd : ∀ w ∈ gd, w ∈ WS yX12_isIn cX12_isIn 3 (some .boolean) := fun w h => List.mem_cons_of_mem _ h
  have hg : ∀ w ∈ gd, w.before _ s = true := fun w h => hts w (hgd w h)
  have hown : s.vm.findClass RX12 = some m.cls := findClass_of_methodNamed B.named
  have hlocks := B.notSynchronized
  subst hsz
  have hD := hD0.self (sz := s.heap.size)
  generalize hAe : va_A [] s.heap.size = A at hD ⊢
  have hA : ∀ q : Nat, s.heap.size ≤ q → A q := fun q h => by rw [← hAe]; exact Or.inr h
  have hS : va_S A s.heap s.heap [] := va_S.rf
  have hP : va_P D classes [] s.heap := hP
  have hl := lv_entry ([.int p0, .int p1, .int p2]) (n := 3) (Nat.le_of_ble_eq_true rfl)
  rw [lg_entry_eq]
  generalize (lg_sl ([.int p0, .int p1, .int p2]) ++ List.replicate (3 - (lg_sl ([.int p0, .int p1, .int p2])).length) Slot.unset).toArray = ls at hl ⊢
  have hl : lv_has ls 3 [(0, .int p0), (1, .int p1), (2, .int p2)] := hl
  refine lv_iload_n hx hb dX12_isIn_0 rfl (lv_at hl 0 rfl) ?_
  refine lv_iload_n hx hb dX12_isIn_1 rfl (lv_at hl 1 rfl) ?_
  refine lv_icmp_lt (tgt := 14) hx hb dX12_isIn_2 (by decide) (fun c_1 => ?_) (fun c_1 => ?_)
  · have c_1 : (p0 : Int32) < p1 := c_1
    refine lv_iconst (v := 0) hx hb dX12_isIn_14 (by decide) ?_
    have hP9 := hP.sub (ws' := []) [] rfl
    have hD9 := hD.sub (ws' := []) [] (by decide) rfl
    exact W.zret (v := 0) hx hb hr (by decide) (fun t ht hW => ⟨⟨0, (), rfl, by simp [s_in, c_1], cB_of ht hP9 hD9⟩, hS.F ht⟩) hS.2.2 dX12_isIn_15
  · have c_1 : ¬ ((p0 : Int32) < p1) := c_1
    refine lv_iload_n hx hb dX12_isIn_5 rfl (lv_at hl 0 rfl) ?_
    refine lv_iload_n hx hb dX12_isIn_6 rfl (lv_at hl 2 rfl) ?_
    refine lv_icmp_gt (tgt := 14) hx hb dX12_isIn_7 (by decide) (fun c_2 => ?_) (fun c_2 => ?_)
    · have c_2 : (p2 : Int32) < p0 := c_2
      refine lv_iconst (v := 0) hx hb dX12_isIn_14 (by decide) ?_
      have hP9 := hP.sub (ws' := []) [] rfl
      have hD9 := hD.sub (ws' := []) [] (by decide) rfl
      exact W.zret (v := 0) hx hb hr (by decide) (fun t ht hW => ⟨⟨0, (), rfl, by simp [s_in, c_1, c_2], cB_of ht hP9 hD9⟩, hS.F ht⟩) hS.2.2 dX12_isIn_15
    · have c_2 : ¬ ((p2 : Int32) < p0) := c_2
      refine lv_iconst (v := 1) hx hb dX12_isIn_10 (by decide) ?_
      refine lv_goto (tgt := 15) hx hb dX12_isIn_11 (by decide) ?_
      have hP9 := hP.sub (ws' := []) [] rfl
      have hD9 := hD.sub (ws' := []) [] (by decide) rfl
      exact W.zret (v := 1) hx hb hr (by decide) (fun t ht hW => ⟨⟨1, (), rfl, by simp [s_in, c_1, c_2], cB_of ht hP9 hD9⟩, hS.F ht⟩) hS.2.2 dX12_isIn_15

set_option maxHeartbeats 4000000 in
set_option maxRecDepth 100000 in
theorem c_slabs_ok (l : Launch) (D : va_G) (k : ClassId × ClassId × ClassId × ClassId) (sz : Nat) (n0 n1 n2 : Nat) (ob1 : 1 ≤ n0) (ob2 : n0 ≤ 60) (ob3 : n1 ≤ 9) (ob4 : 1 ≤ n2) (ob5 : n2 ≤ 12) : Met l yX12_areSlabs (WS yX12_areSlabs cX12_areSlabs 3 (some .boolean)) ({ frames := 1, cells := 0, slots := 0, locals := 22 }) (va_Pc [.int (nI n0), .int (nI n1), .int (nI n2)] (cP D k [] sz)) (va_Qi (fun (r : Int32) (_ : Unit) => r = 1) (fun (_ : Unit) t => cB D (va_A [] sz) [] t) (va_A [] sz)) 0 0 (va_A [] sz) := by
  refine Met.ofW (cc := cX12_areSlabs) (maxL := 3) (ret := (some .boolean)) (by decide) rfl ?_
  intro p e s m args below meth c s₁ B hml hv
  obtain ⟨rfl, hsz, hP, hKX, hD0⟩ := hv
  have hK := hKX.1
  have hx := B.exec
  have hb := B.bytes
  have hr := B.returns
  have hts := atoms_spec (ws := WS yX12_areSlabs cX12_areSlabs 3 (some .boolean)) B.pre
  have hgd : ∀ w ∈ gd, w ∈ WS yX12_areSlabs cX12_areSlabs 3 (some .boolean) := fun w h => List.mem_cons_of_mem _ h
  have hg : ∀ w ∈ gd, w.before _ s = true := fun w h => hts w (hgd w h)
  have hown : s.vm.findClass RX12 = some m.cls := findClass_of_methodNamed B.named
  have hlocks := B.notSynchronized
  subst hsz
  have hD := hD0.self (sz := s.heap.size)
  generalize hAe : va_A [] s.heap.size = A at hD ⊢
  have hA : ∀ q : Nat, s.heap.size ≤ q → A q := fun q h => by rw [← hAe]; exact Or.inr h
  have hS : va_S A s.heap s.heap [] := va_S.rf
  have hP : va_P D classes [] s.heap := hP
  have hl := lv_entry ([.int (nI n0), .int (nI n1), .int (nI n2)]) (n := 3) (Nat.le_of_ble_eq_true rfl)
  rw [lg_entry_eq]
  generalize (lg_sl ([.int (nI n0), .int (nI n1), .int (nI n2)]) ++ List.replicate (3 - (lg_sl ([.int (nI n0), .int (nI n1), .int (nI n2)])).length) Slot.unset).toArray = ls at hl ⊢
  have hl : lv_has ls 3 [(0, .int (nI n0)), (1, .int (nI n1)), (2, .int (nI n2))] := hl
  refine lv_iload_n hx hb dX12_areSlabs_0 rfl (lv_at hl 0 rfl) ?_
  refine lv_iconst (v := 1) hx hb dX12_areSlabs_1 (by decide) ?_
  refine lv_bipush (v := 60) hx hb dX12_areSlabs_2 (by decide) ?_
  have hPc := hP.sub (ws' := []) [] rfl
  have hDc := hD.sub (ws' := []) [] (by decide) rfl
  have hFc := va_free (wc := []) hD hS hA [] rfl
  refine va_calli (va_runS (As := [.int (nI n0), .int 1, .int 60]) (rest := []) ⟨hx, hb, hml, hown, hts⟩ (c_isIn_ok l D k s.heap.size (nI n0) 1 60 (nI_nlt (a := n0) (b := 1) (by omega) (by omega)) (nI_nlt (a := 60) (b := n0) (by omega) (by omega))) (va_cwS 3 hts (gd_S hgd m1781 m1782 m131 m1783) rfl rfl rfl (by decide +kernel) ⟨Nat.le_of_ble_eq_true rfl, Nat.le_of_ble_eq_true rfl⟩) (cP_S hPc hKX hDc) rfl rfl hl.1 rfl (lv_room (Nat.le_of_ble_eq_true rfl)) dX12_areSlabs_4 ⟨Nat.le_of_ble_eq_true rfl, Nat.le_of_ble_eq_true rfl⟩) hS (fun q _ h => hFc q h) hFc (fun r_1 u t H1 locs ht hvm hw hB hz1 hk1 hS => ?_)
  obtain ⟨hP1, hD1⟩ := hB
  rw [ht] at hP1
  obtain ⟨hP, hD⟩ := va_join (wr := []) (w1 := []) hP hD [] [] rfl rfl (by decide) (by decide) hk1 hFc hP1 hD1
  generalize H1 = H at hP hS ⊢
  have hP : va_P D classes [] H := hP
  have hD : va_D A [] := hD
  refine W.widen (k := 0) (n := 0) (Nat.le_of_ble_eq_true rfl) (Nat.le_of_ble_eq_true rfl) ?_
  subst hw
  refine lv_if_eq (tgt := 34) hx hb dX12_areSlabs_7 (by decide) (fun c_2 => ?_) (fun c_2 => ?_)
  · exact absurd c_2 (by decide)
  · have c_2 : ¬ ((1 : Int32) = 0) := c_2
    refine lv_iload_n hx hb dX12_areSlabs_10 rfl (lv_at hl 1 rfl) ?_
    refine lv_iconst (v := 0) hx hb dX12_areSlabs_11 (by decide) ?_
    refine lv_bipush (v := 9) hx hb dX12_areSlabs_12 (by decide) ?_
    have hPc := hP.sub (ws' := []) [] rfl
    have hDc := hD.sub (ws' := []) [] (by decide) rfl
    have hFc := va_free (wc := []) hD hS hA [] rfl
    refine va_calli (va_runS (As := [.int (nI n1), .int 0, .int 9]) (rest := []) ⟨hx, hb, hml, hown, hts⟩ (c_isIn_ok l D k H.size (nI n1) 0 9 (nI_nlt (a := n1) (b := 0) (by omega) (by omega)) (nI_nlt (a := 9) (b := n1) (by omega) (by omega))) (va_cwS 3 hts (gd_S hgd m1781 m1782 m131 m1783) rfl rfl rfl (by decide +kernel) ⟨Nat.le_of_ble_eq_true rfl, Nat.le_of_ble_eq_true rfl⟩) (cP_S hPc hKX hDc) rfl rfl hl.1 rfl (lv_room (Nat.le_of_ble_eq_true rfl)) dX12_areSlabs_14 ⟨Nat.le_of_ble_eq_true rfl, Nat.le_of_ble_eq_true rfl⟩) hS (fun q _ h => hFc q h) hFc (fun r_3 u t H1 locs ht hvm hw hB hz1 hk1 hS => ?_)
    obtain ⟨hP1, hD1⟩ := hB
    rw [ht] at hP1
    obtain ⟨hP, hD⟩ := va_join (wr := []) (w1 := []) hP hD [] [] rfl rfl (by decide) (by decide) hk1 hFc hP1 hD1
    generalize H1 = H at hP hS ⊢
    have hP : va_P D classes [] H := hP
    have hD : va_D A [] := hD
    refine W.widen (k := 0) (n := 0) (Nat.le_of_ble_eq_true rfl) (Nat.le_of_ble_eq_true rfl) ?_
    subst hw
    refine lv_if_eq (tgt := 34) hx hb dX12_areSlabs_17 (by decide) (fun c_4 => ?_) (fun c_4 => ?_)
    · exact absurd c_4 (by decide)
    · have c_4 : ¬ ((1 : Int32) = 0) := c_4
      refine lv_iload_n hx hb dX12_areSlabs_20 rfl (lv_at hl 2 rfl) ?_
      refine lv_iconst (v := 1) hx hb dX12_areSlabs_21 (by decide) ?_
      refine lv_bipush (v := 12) hx hb dX12_areSlabs_22 (by decide) ?_
      have hPc := hP.sub (ws' := []) [] rfl
      have hDc := hD.sub (ws' := []) [] (by decide) rfl
      have hFc := va_free (wc := []) hD hS hA [] rfl
      refine va_calli (va_runS (As := [.int (nI n2), .int 1, .int 12]) (rest := []) ⟨hx, hb, hml, hown, hts⟩ (c_isIn_ok l D k H.size (nI n2) 1 12 (nI_nlt (a := n2) (b := 1) (by omega) (by omega)) (nI_nlt (a := 12) (b := n2) (by omega) (by omega))) (va_cwS 3 hts (gd_S hgd m1781 m1782 m131 m1783) rfl rfl rfl (by decide +kernel) ⟨Nat.le_of_ble_eq_true rfl, Nat.le_of_ble_eq_true rfl⟩) (cP_S hPc hKX hDc) rfl rfl hl.1 rfl (lv_room (Nat.le_of_ble_eq_true rfl)) dX12_areSlabs_24 ⟨Nat.le_of_ble_eq_true rfl, Nat.le_of_ble_eq_true rfl⟩) hS (fun q _ h => hFc q h) hFc (fun r_5 u t H1 locs ht hvm hw hB hz1 hk1 hS => ?_)
      obtain ⟨hP1, hD1⟩ := hB
      rw [ht] at hP1
      obtain ⟨hP, hD⟩ := va_join (wr := []) (w1 := []) hP hD [] [] rfl rfl (by decide) (by decide) hk1 hFc hP1 hD1
      generalize H1 = H at hP hS ⊢
      have hP : va_P D classes [] H := hP
      have hD : va_D A [] := hD
      refine W.widen (k := 0) (n := 0) (Nat.le_of_ble_eq_true rfl) (Nat.le_of_ble_eq_true rfl) ?_
      subst hw
      refine lv_if_eq (tgt := 34) hx hb dX12_areSlabs_27 (by decide) (fun c_6 => ?_) (fun c_6 => ?_)
      · exact absurd c_6 (by decide)
      · have c_6 : ¬ ((1 : Int32) = 0) := c_6
        refine lv_iconst (v := 1) hx hb dX12_areSlabs_30 (by decide) ?_
        refine lv_goto (tgt := 35) hx hb dX12_areSlabs_31 (by decide) ?_
        have hP9 := hP.sub (ws' := []) [] rfl
        have hD9 := hD.sub (ws' := []) [] (by decide) rfl
        exact W.zret (v := 1) hx hb hr (by decide) (fun t ht hW => ⟨⟨1, (), rfl, rfl, cB_of ht hP9 hD9⟩, hS.F ht⟩) hS.2.2 dX12_areSlabs_35

set_option maxHeartbeats 4000000 in
set_option maxRecDepth 100000 in
theorem c_slabs (l : Launch) (D : va_G) (k : ClassId × ClassId × ClassId × ClassId) (sz : Nat) (p0 p1 p2 : Int32)  : Met l yX12_areSlabs (WS yX12_areSlabs cX12_areSlabs 3 (some .boolean)) ({ frames := 1, cells := 0, slots := 0, locals := 22 }) (va_Pc [.int p0, .int p1, .int p2] (cP D k [] sz)) (va_Qi (fun (r : Int32) (_ : Unit) => r = s_endless p0 p1 p2) (fun (_ : Unit) t => cB D (va_A [] sz) [] t) (va_A [] sz)) 0 0 (va_A [] sz) := by
  refine Met.ofW (cc := cX12_areSlabs) (maxL := 3) (ret := (some .boolean)) (by decide) rfl ?_
  intro p e s m args below meth c s₁ B hml hv
  obtain ⟨rfl, hsz, hP, hKX, hD0⟩ := hv
  have hK := hKX.1
  have hx := B.exec
  have hb := B.bytes
  have hr := B.returns
  have hts := atoms_spec (ws := WS yX12_areSlabs cX12_areSlabs 3 (some .boolean)) B.pre
  have hgd : ∀ w ∈ gd, w ∈ WS yX12_areSlabs cX12_areSlabs 3 (some .boolean) := fun w h => List.mem_cons_of_mem _ h
  have hg : ∀ w ∈ gd, w.before _ s = true := fun w h => hts w (hgd w h)
  have hown : s.vm.findClass RX12 = some m.cls := findClass_of_methodNamed B.named
  have hlocks := B.notSynchronized
  subst hsz
  have hD := hD0.self (sz := s.heap.size)
  generalize hAe : va_A [] s.heap.size = A at hD ⊢
  have hA : ∀ q : Nat, s.heap.size ≤ q → A q := fun q h => by rw [← hAe]; exact Or.inr h
  have hS : va_S A s.heap s.heap [] := va_S.rf
  have hP : va_P D classes [] s.heap := hP
  have hl := lv_entry ([.int p0, .int p1, .int p2]) (n := 3) (Nat.le_of_ble_eq_true rfl)
  rw [lg_entry_eq]
  generalize (lg_sl ([.int p0, .int p1, .int p2]) ++ List.replicate (3 - (lg_sl ([.int p0, .int p1, .int p2])).length) Slot.unset).toArray = ls at hl ⊢
  have hl : lv_has ls 3 [(0, .int p0), (1, .int p1), (2, .int p2)] := hl
  refine lv_iload_n hx hb dX12_areSlabs_0 rfl (lv_at hl 0 rfl) ?_
  refine lv_iconst (v := 1) hx hb dX12_areSlabs_1 (by decide) ?_
  refine lv_bipush (v := 60) hx hb dX12_areSlabs_2 (by decide) ?_
  have hPc := hP.sub (ws' := []) [] rfl
  have hDc := hD.sub (ws' := []) [] (by decide) rfl
  have hFc := va_free (wc := []) hD hS hA [] rfl
  refine va_calli (va_runS (As := [.int p0, .int 1, .int 60]) (rest := []) ⟨hx, hb, hml, hown, hts⟩ (c_isIn l D k s.heap.size p0 1 60 ) (va_cwS 3 hts (gd_S hgd m1781 m1782 m131 m1783) rfl rfl rfl (by decide +kernel) ⟨Nat.le_of_ble_eq_true rfl, Nat.le_of_ble_eq_true rfl⟩) (cP_S hPc hKX hDc) rfl rfl hl.1 rfl (lv_room (Nat.le_of_ble_eq_true rfl)) dX12_areSlabs_4 ⟨Nat.le_of_ble_eq_true rfl, Nat.le_of_ble_eq_true rfl⟩) hS (fun q _ h => hFc q h) hFc (fun r_1 u t H1 locs ht hvm hw hB hz1 hk1 hS => ?_)
  obtain ⟨hP1, hD1⟩ := hB
  rw [ht] at hP1
  obtain ⟨hP, hD⟩ := va_join (wr := []) (w1 := []) hP hD [] [] rfl rfl (by decide) (by decide) hk1 hFc hP1 hD1
  generalize H1 = H at hP hS ⊢
  have hP : va_P D classes [] H := hP
  have hD : va_D A [] := hD
  refine W.widen (k := 0) (n := 0) (Nat.le_of_ble_eq_true rfl) (Nat.le_of_ble_eq_true rfl) ?_
  have h_2 := hw
  refine lv_if_eq (tgt := 34) hx hb dX12_areSlabs_7 (by decide) (fun c_3 => ?_) (fun c_3 => ?_)
  · have c_3 : (r_1 : Int32) = 0 := c_3
    refine lv_iconst (v := 0) hx hb dX12_areSlabs_34 (by decide) ?_
    have hP9 := hP.sub (ws' := []) [] rfl
    have hD9 := hD.sub (ws' := []) [] (by decide) rfl
    exact W.zret (v := 0) hx hb hr (by decide) (fun t ht hW => ⟨⟨0, (), rfl, by rw [s_endless_in, if_pos (h_2.symm.trans c_3)], cB_of ht hP9 hD9⟩, hS.F ht⟩) hS.2.2 dX12_areSlabs_35
  · have c_3 : ¬ ((r_1 : Int32) = 0) := c_3
    refine lv_iload_n hx hb dX12_areSlabs_10 rfl (lv_at hl 1 rfl) ?_
    refine lv_iconst (v := 0) hx hb dX12_areSlabs_11 (by decide) ?_
    refine lv_bipush (v := 9) hx hb dX12_areSlabs_12 (by decide) ?_
    have hPc := hP.sub (ws' := []) [] rfl
    have hDc := hD.sub (ws' := []) [] (by decide) rfl
    have hFc := va_free (wc := []) hD hS hA [] rfl
    refine va_calli (va_runS (As := [.int p1, .int 0, .int 9]) (rest := []) ⟨hx, hb, hml, hown, hts⟩ (c_isIn l D k H.size p1 0 9 ) (va_cwS 3 hts (gd_S hgd m1781 m1782 m131 m1783) rfl rfl rfl (by decide +kernel) ⟨Nat.le_of_ble_eq_true rfl, Nat.le_of_ble_eq_true rfl⟩) (cP_S hPc hKX hDc) rfl rfl hl.1 rfl (lv_room (Nat.le_of_ble_eq_true rfl)) dX12_areSlabs_14 ⟨Nat.le_of_ble_eq_true rfl, Nat.le_of_ble_eq_true rfl⟩) hS (fun q _ h => hFc q h) hFc (fun r_4 u t H1 locs ht hvm hw hB hz1 hk1 hS => ?_)
    obtain ⟨hP1, hD1⟩ := hB
    rw [ht] at hP1
    obtain ⟨hP, hD⟩ := va_join (wr := []) (w1 := []) hP hD [] [] rfl rfl (by decide) (by decide) hk1 hFc hP1 hD1
    generalize H1 = H at hP hS ⊢
    have hP : va_P D classes [] H := hP
    have hD : va_D A [] := hD
    refine W.widen (k := 0) (n := 0) (Nat.le_of_ble_eq_true rfl) (Nat.le_of_ble_eq_true rfl) ?_
    have h_5 := hw
    refine lv_if_eq (tgt := 34) hx hb dX12_areSlabs_17 (by decide) (fun c_6 => ?_) (fun c_6 => ?_)
    · have c_6 : (r_4 : Int32) = 0 := c_6
      refine lv_iconst (v := 0) hx hb dX12_areSlabs_34 (by decide) ?_
      have hP9 := hP.sub (ws' := []) [] rfl
      have hD9 := hD.sub (ws' := []) [] (by decide) rfl
      exact W.zret (v := 0) hx hb hr (by decide) (fun t ht hW => ⟨⟨0, (), rfl, by rw [s_endless_in, if_neg (fun q => c_3 (h_2.trans q)), if_pos (h_5.symm.trans c_6)], cB_of ht hP9 hD9⟩, hS.F ht⟩) hS.2.2 dX12_areSlabs_35
    · have c_6 : ¬ ((r_4 : Int32) = 0) := c_6
      refine lv_iload_n hx hb dX12_areSlabs_20 rfl (lv_at hl 2 rfl) ?_
      refine lv_iconst (v := 1) hx hb dX12_areSlabs_21 (by decide) ?_
      refine lv_bipush (v := 12) hx hb dX12_areSlabs_22 (by decide) ?_
      have hPc := hP.sub (ws' := []) [] rfl
      have hDc := hD.sub (ws' := []) [] (by decide) rfl
      have hFc := va_free (wc := []) hD hS hA [] rfl
      refine va_calli (va_runS (As := [.int p2, .int 1, .int 12]) (rest := []) ⟨hx, hb, hml, hown, hts⟩ (c_isIn l D k H.size p2 1 12 ) (va_cwS 3 hts (gd_S hgd m1781 m1782 m131 m1783) rfl rfl rfl (by decide +kernel) ⟨Nat.le_of_ble_eq_true rfl, Nat.le_of_ble_eq_true rfl⟩) (cP_S hPc hKX hDc) rfl rfl hl.1 rfl (lv_room (Nat.le_of_ble_eq_true rfl)) dX12_areSlabs_24 ⟨Nat.le_of_ble_eq_true rfl, Nat.le_of_ble_eq_true rfl⟩) hS (fun q _ h => hFc q h) hFc (fun r_7 u t H1 locs ht hvm hw hB hz1 hk1 hS => ?_)
      obtain ⟨hP1, hD1⟩ := hB
      rw [ht] at hP1
      obtain ⟨hP, hD⟩ := va_join (wr := []) (w1 := []) hP hD [] [] rfl rfl (by decide) (by decide) hk1 hFc hP1 hD1
      generalize H1 = H at hP hS ⊢
      have hP : va_P D classes [] H := hP
      have hD : va_D A [] := hD
      refine W.widen (k := 0) (n := 0) (Nat.le_of_ble_eq_true rfl) (Nat.le_of_ble_eq_true rfl) ?_
      have h_8 := hw
      refine lv_if_eq (tgt := 34) hx hb dX12_areSlabs_27 (by decide) (fun c_9 => ?_) (fun c_9 => ?_)
      · have c_9 : (r_7 : Int32) = 0 := c_9
        refine lv_iconst (v := 0) hx hb dX12_areSlabs_34 (by decide) ?_
        have hP9 := hP.sub (ws' := []) [] rfl
        have hD9 := hD.sub (ws' := []) [] (by decide) rfl
        exact W.zret (v := 0) hx hb hr (by decide) (fun t ht hW => ⟨⟨0, (), rfl, by rw [s_endless_in, if_neg (fun q => c_3 (h_2.trans q)), if_neg (fun q => c_6 (h_5.trans q)), if_pos (h_8.symm.trans c_9)], cB_of ht hP9 hD9⟩, hS.F ht⟩) hS.2.2 dX12_areSlabs_35
      · have c_9 : ¬ ((r_7 : Int32) = 0) := c_9
        refine lv_iconst (v := 1) hx hb dX12_areSlabs_30 (by decide) ?_
        refine lv_goto (tgt := 35) hx hb dX12_areSlabs_31 (by decide) ?_
        have hP9 := hP.sub (ws' := []) [] rfl
        have hD9 := hD.sub (ws' := []) [] (by decide) rfl
        exact W.zret (v := 1) hx hb hr (by decide) (fun t ht hW => ⟨⟨1, (), rfl, by rw [s_endless_in, if_neg (fun q => c_3 (h_2.trans q)), if_neg (fun q => c_6 (h_5.trans q)), if_neg (fun q => c_9 (h_8.trans q))], cB_of ht hP9 hD9⟩, hS.F ht⟩) hS.2.2 dX12_areSlabs_35
