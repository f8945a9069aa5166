set_option maxHeartbeats 4000000 in
set_option maxRecDepth 100000 in
theorem c_X11_begin_bad (l : Launch) (D : va_G) (k : ClassId × ClassId × ClassId × ClassId) (sz : Nat) (h0 : Nat) (p0 p1 p2 p3 : Int32) (F : List Value) (hbad : ¬ (¬ s_endless p0 p1 p2 = 0 ∧ ¬ (p3 < 1) ∧ ¬ (99 < p3))) : Met l yX11_begin (WS yX11_begin cX11_begin 5 (some .int)) ({ frames := 1, cells := 0, slots := 0, locals := 22 }) (va_Pc [.ref h0, .int p0, .int p1, .int p2, .int p3] (cP D k [(h0, .inr (11, F))] sz)) (va_Qi (fun (r : Int32) (_ : Unit) => r = (-1)) (fun (_ : Unit) t => cB D (va_A [(h0, .inr (11, F))] sz) [(h0, .inr (11, F))] t) (va_A [(h0, .inr (11, F))] sz)) 0 0 (va_A [(h0, .inr (11, F))] sz) := by
  refine Met.ofW (cc := cX11_begin) (maxL := 5) (ret := (some .int)) (by decide) rfl ?_
  intro p e s m args below meth c s₁ B hml hv
  obtain ⟨rfl, hsz, hP, hKX, hD0⟩ := hv
  have hK := hKX.1
  have hx := B.exec
  have hb := B.bytes
  have hr := B.returns
  have hts := atoms_spec (ws := WS yX11_begin cX11_begin 5 (some .int)) B.pre
  have hgd : ∀ w ∈ gd, w ∈ WS yX11_begin cX11_begin 5 (some .int) := fun w h => List.mem_cons_of_mem _ h
  have hg : ∀ w ∈ gd, w.before _ s = true := fun w h => hts w (hgd w h)
  have hown : s.vm.findClass RX11 = some m.cls := findClass_of_methodNamed B.named
  have hlocks := B.notSynchronized
  subst hsz
  have hD := hD0.self (sz := s.heap.size)
  generalize hAe : va_A [(h0, .inr (11, F))] s.heap.size = A at hD ⊢
  have hA : ∀ q : Nat, s.heap.size ≤ q → A q := fun q h => by rw [← hAe]; exact Or.inr h
  have hS : va_S A s.heap s.heap [] := va_S.rf
  have hP : va_P D classes [(h0, .inr (11, F))] s.heap := hP
  have hl := lv_entry ([.ref h0, .int p0, .int p1, .int p2, .int p3]) (n := 5) (Nat.le_of_ble_eq_true rfl)
  rw [lg_entry_eq]
  generalize (lg_sl ([.ref h0, .int p0, .int p1, .int p2, .int p3]) ++ List.replicate (5 - (lg_sl ([.ref h0, .int p0, .int p1, .int p2, .int p3])).length) Slot.unset).toArray = ls at hl ⊢
  have hl : lv_has ls 5 [(0, .ref h0), (1, .int p0), (2, .int p1), (3, .int p2), (4, .int p3)] := hl
  refine lv_iload_n hx hb dX11_begin_0 rfl (lv_at hl 1 rfl) ?_
  refine lv_iload_n hx hb dX11_begin_1 rfl (lv_at hl 2 rfl) ?_
  refine lv_iload_n hx hb dX11_begin_2 rfl (lv_at hl 3 rfl) ?_
  have hPc := hP.sub (ws' := []) [] rfl
  have hDc := hD.sub (ws' := []) [] (by decide) rfl
  have hFc := va_free (wc := []) hD hS hA [] rfl
  refine va_calli (va_runS (As := [.int p0, .int p1, .int p2]) (rest := []) ⟨hx, hb, hml, hown, hts⟩ (c_endless l D k s.heap.size p0 p1 p2 ) (va_cwS 3 hts (gd_S hgd m1069 m1070 m117 m1071) rfl rfl rfl (by decide +kernel) ⟨Nat.le_of_ble_eq_true rfl, Nat.le_of_ble_eq_true rfl⟩) (cP_S hPc hKX hDc) rfl rfl hl.1 rfl (lv_room (Nat.le_of_ble_eq_true rfl)) dX11_begin_3 ⟨Nat.le_of_ble_eq_true rfl, Nat.le_of_ble_eq_true rfl⟩) hS (fun q _ h => hFc q h) hFc (fun r_1 u t H1 locs ht hvm hw hB hz1 hk1 hS => ?_)
  obtain ⟨hP1, hD1⟩ := hB
  rw [ht] at hP1
  obtain ⟨hP, hD⟩ := va_join (wr := [(h0, .inr (11, F))]) (w1 := []) hP hD [] [0] rfl rfl (by decide) (by decide) hk1 hFc hP1 hD1
  generalize H1 = H at hP hS ⊢
  have hP : va_P D classes [(h0, .inr (11, F))] H := hP
  have hD : va_D A [(h0, .inr (11, F))] := hD
  refine W.widen (k := 0) (n := 0) (Nat.le_of_ble_eq_true rfl) (Nat.le_of_ble_eq_true rfl) ?_
  have h_2 := hw
  refine lv_if_eq (tgt := 22) hx hb dX11_begin_6 (by decide) (fun c_3 => ?_) (fun c_3 => ?_)
  · have c_3 : (r_1 : Int32) = 0 := c_3
    refine lv_iconst (v := (-1)) hx hb dX11_begin_22 (by decide) ?_
    have hP9 := hP.sub (ws' := [(h0, .inr (11, F))]) [0] rfl
    have hD9 := hD.sub (ws' := [(h0, .inr (11, F))]) [0] (by decide) rfl
    exact W.iret (v := (-1)) hx hb hr (fun t ht hW => ⟨⟨(-1), (), rfl, rfl, cB_of ht hP9 hD9⟩, hS.F ht⟩) hS.2.2 dX11_begin_23
  · have c_3 : ¬ ((r_1 : Int32) = 0) := c_3
    refine lv_iload hx hb dX11_begin_9 (lv_at hl 4 rfl) ?_
    refine lv_iconst (v := 1) hx hb dX11_begin_11 (by decide) ?_
    refine lv_icmp_lt (tgt := 22) hx hb dX11_begin_12 (by decide) (fun c_4 => ?_) (fun c_4 => ?_)
    · have c_4 : (p3 : Int32) < 1 := c_4
      refine lv_iconst (v := (-1)) hx hb dX11_begin_22 (by decide) ?_
      have hP9 := hP.sub (ws' := [(h0, .inr (11, F))]) [0] rfl
      have hD9 := hD.sub (ws' := [(h0, .inr (11, F))]) [0] (by decide) rfl
      exact W.iret (v := (-1)) hx hb hr (fun t ht hW => ⟨⟨(-1), (), rfl, rfl, cB_of ht hP9 hD9⟩, hS.F ht⟩) hS.2.2 dX11_begin_23
    · have c_4 : ¬ ((p3 : Int32) < 1) := c_4
      refine lv_iload hx hb dX11_begin_15 (lv_at hl 4 rfl) ?_
      refine lv_bipush (v := 99) hx hb dX11_begin_17 (by decide) ?_
      refine lv_icmp_le (tgt := 24) hx hb dX11_begin_19 (by decide) (fun c_5 => ?_) (fun c_5 => ?_)
      · have c_5 : (p3 : Int32) ≤ 99 := c_5
        exact absurd ⟨(fun q => c_3 (h_2.trans q)), c_4, Int32.not_lt.mpr c_5⟩ hbad
      · have c_5 : ¬ ((p3 : Int32) ≤ 99) := c_5
        refine lv_iconst (v := (-1)) hx hb dX11_begin_22 (by decide) ?_
        have hP9 := hP.sub (ws' := [(h0, .inr (11, F))]) [0] rfl
        have hD9 := hD.sub (ws' := [(h0, .inr (11, F))]) [0] (by decide) rfl
        exact W.iret (v := (-1)) hx hb hr (fun t ht hW => ⟨⟨(-1), (), rfl, rfl, cB_of ht hP9 hD9⟩, hS.F ht⟩) hS.2.2 dX11_begin_23

set_option maxHeartbeats 4000000 in
set_option maxRecDepth 100000 in
theorem c_X12_begin_bad (l : Launch) (D : va_G) (k : ClassId × ClassId × ClassId × ClassId) (sz : Nat) (h0 : Nat) (p0 p1 p2 p3 : Int32) (M : List Value) (hbad : ¬ (¬ s_endless p0 p1 p2 = 0 ∧ ¬ (p3 < 1) ∧ ¬ (99 < p3))) : Met l yX12_begin (WS yX12_begin cX12_begin 5 (some .int)) ({ frames := 2, cells := 0, slots := 0, locals := 44 }) (va_Pc [.ref h0, .int p0, .int p1, .int p2, .int p3] (cP D k [(h0, .inr (12, M))] sz)) (va_Qi (fun (r : Int32) (_ : Unit) => r = (-1)) (fun (_ : Unit) t => cB D (va_A [(h0, .inr (12, M))] sz) [(h0, .inr (12, M))] t) (va_A [(h0, .inr (12, M))] sz)) 0 0 (va_A [(h0, .inr (12, M))] sz) := by
  refine Met.ofW (cc := cX12_begin) (maxL := 5) (ret := (some .int)) (by decide) rfl ?_
  intro p e s m args below meth c s₁ B hml hv
  obtain ⟨rfl, hsz, hP, hKX, hD0⟩ := hv
  have hK := hKX.1
  have hx := B.exec
  have hb := B.bytes
  have hr := B.returns
  have hts := atoms_spec (ws := WS yX12_begin cX12_begin 5 (some .int)) B.pre
  have hgd : ∀ w ∈ gd, w ∈ WS yX12_begin cX12_begin 5 (some .int) := fun w h => List.mem_cons_of_mem _ h
  have hg : ∀ w ∈ gd, w.before _ s = true := fun w h => hts w (hgd w h)
  have hown : s.vm.findClass RX12 = some m.cls := findClass_of_methodNamed B.named
  have hlocks := B.notSynchronized
  subst hsz
  have hD := hD0.self (sz := s.heap.size)
  generalize hAe : va_A [(h0, .inr (12, M))] s.heap.size = A at hD ⊢
  have hA : ∀ q : Nat, s.heap.size ≤ q → A q := fun q h => by rw [← hAe]; exact Or.inr h
  have hS : va_S A s.heap s.heap [] := va_S.rf
  have hP : va_P D classes [(h0, .inr (12, M))] s.heap := hP
  have hl := lv_entry ([.ref h0, .int p0, .int p1, .int p2, .int p3]) (n := 5) (Nat.le_of_ble_eq_true rfl)
  rw [lg_entry_eq]
  generalize (lg_sl ([.ref h0, .int p0, .int p1, .int p2, .int p3]) ++ List.replicate (5 - (lg_sl ([.ref h0, .int p0, .int p1, .int p2, .int p3])).length) Slot.unset).toArray = ls at hl ⊢
  have hl : lv_has ls 5 [(0, .ref h0), (1, .int p0), (2, .int p1), (3, .int p2), (4, .int p3)] := hl
  refine lv_iload_n hx hb dX12_begin_0 rfl (lv_at hl 1 rfl) ?_
  refine lv_iload_n hx hb dX12_begin_1 rfl (lv_at hl 2 rfl) ?_
  refine lv_iload_n hx hb dX12_begin_2 rfl (lv_at hl 3 rfl) ?_
  have hPc := hP.sub (ws' := []) [] rfl
  have hDc := hD.sub (ws' := []) [] (by decide) rfl
  have hFc := va_free (wc := []) hD hS hA [] rfl
  refine va_calli (va_runS (As := [.int p0, .int p1, .int p2]) (rest := []) ⟨hx, hb, hml, hown, hts⟩ (c_slabs l D k s.heap.size p0 p1 p2 ) (va_cwS 3 hts (gd_S hgd m1907 m1908 m131 m1909) rfl rfl rfl (by decide +kernel) ⟨Nat.le_of_ble_eq_true rfl, Nat.le_of_ble_eq_true rfl⟩) (cP_S hPc hKX hDc) rfl rfl hl.1 rfl (lv_room (Nat.le_of_ble_eq_true rfl)) dX12_begin_3 ⟨Nat.le_of_ble_eq_true rfl, Nat.le_of_ble_eq_true rfl⟩) hS (fun q _ h => hFc q h) hFc (fun r_1 u t H1 locs ht hvm hw hB hz1 hk1 hS => ?_)
  obtain ⟨hP1, hD1⟩ := hB
  rw [ht] at hP1
  obtain ⟨hP, hD⟩ := va_join (wr := [(h0, .inr (12, M))]) (w1 := []) hP hD [] [0] rfl rfl (by decide) (by decide) hk1 hFc hP1 hD1
  generalize H1 = H at hP hS ⊢
  have hP : va_P D classes [(h0, .inr (12, M))] H := hP
  have hD : va_D A [(h0, .inr (12, M))] := hD
  refine W.widen (k := 0) (n := 0) (Nat.le_of_ble_eq_true rfl) (Nat.le_of_ble_eq_true rfl) ?_
  have h_2 := hw
  refine lv_if_eq (tgt := 31) hx hb dX12_begin_6 (by decide) (fun c_3 => ?_) (fun c_3 => ?_)
  · have c_3 : (r_1 : Int32) = 0 := c_3
    refine lv_iconst (v := (-1)) hx hb dX12_begin_31 (by decide) ?_
    have hP9 := hP.sub (ws' := [(h0, .inr (12, M))]) [0] rfl
    have hD9 := hD.sub (ws' := [(h0, .inr (12, M))]) [0] (by decide) rfl
    exact W.iret (v := (-1)) hx hb hr (fun t ht hW => ⟨⟨(-1), (), rfl, rfl, cB_of ht hP9 hD9⟩, hS.F ht⟩) hS.2.2 dX12_begin_32
  · have c_3 : ¬ ((r_1 : Int32) = 0) := c_3
    refine lv_iload hx hb dX12_begin_9 (lv_at hl 4 rfl) ?_
    refine lv_iconst (v := 1) hx hb dX12_begin_11 (by decide) ?_
    refine lv_bipush (v := 99) hx hb dX12_begin_12 (by decide) ?_
    have hPc := hP.sub (ws' := []) [] rfl
    have hDc := hD.sub (ws' := []) [] (by decide) rfl
    have hFc := va_free (wc := []) hD hS hA [] rfl
    refine va_calli (va_runS (As := [.int p3, .int 1, .int 99]) (rest := []) ⟨hx, hb, hml, hown, hts⟩ (c_isIn l D k H.size p3 1 99 ) (va_cwS 3 hts (gd_S hgd m1781 m1782 m131 m1783) rfl rfl rfl (by decide +kernel) ⟨Nat.le_of_ble_eq_true rfl, Nat.le_of_ble_eq_true rfl⟩) (cP_S hPc hKX hDc) rfl rfl hl.1 rfl (lv_room (Nat.le_of_ble_eq_true rfl)) dX12_begin_14 ⟨Nat.le_of_ble_eq_true rfl, Nat.le_of_ble_eq_true rfl⟩) hS (fun q _ h => hFc q h) hFc (fun r_4 u t H1 locs ht hvm hw hB hz1 hk1 hS => ?_)
    obtain ⟨hP1, hD1⟩ := hB
    rw [ht] at hP1
    obtain ⟨hP, hD⟩ := va_join (wr := [(h0, .inr (12, M))]) (w1 := []) hP hD [] [0] rfl rfl (by decide) (by decide) hk1 hFc hP1 hD1
    generalize H1 = H at hP hS ⊢
    have hP : va_P D classes [(h0, .inr (12, M))] H := hP
    have hD : va_D A [(h0, .inr (12, M))] := hD
    refine W.widen (k := 0) (n := 0) (Nat.le_of_ble_eq_true rfl) (Nat.le_of_ble_eq_true rfl) ?_
    have h_5 := hw
    refine lv_if_eq (tgt := 31) hx hb dX12_begin_17 (by decide) (fun c_6 => ?_) (fun c_6 => ?_)
    · have c_6 : (r_4 : Int32) = 0 := c_6
      refine lv_iconst (v := (-1)) hx hb dX12_begin_31 (by decide) ?_
      have hP9 := hP.sub (ws' := [(h0, .inr (12, M))]) [0] rfl
      have hD9 := hD.sub (ws' := [(h0, .inr (12, M))]) [0] (by decide) rfl
      exact W.iret (v := (-1)) hx hb hr (fun t ht hW => ⟨⟨(-1), (), rfl, rfl, cB_of ht hP9 hD9⟩, hS.F ht⟩) hS.2.2 dX12_begin_32
    · have c_6 : ¬ ((r_4 : Int32) = 0) := c_6
      exact absurd ⟨(fun q => c_3 (h_2.trans q)), s_in_ne (fun q => c_6 (h_5.trans q))⟩ hbad

set_option maxHeartbeats 4000000 in
set_option maxRecDepth 100000 in
theorem c_X11_begin_ok (l : Launch) (D : va_G) (k : ClassId × ClassId × ClassId × ClassId) (sz : Nat) (h0 : Nat) (n0 n1 n2 n3 : Nat) (F : List Value) (ob1 : 1 ≤ n0) (ob2 : n0 ≤ 60) (ob3 : n1 ≤ 9) (ob4 : 1 ≤ n2) (ob5 : n2 ≤ 12) (ob6 : 1 ≤ n3) (ob7 : n3 ≤ 99) : Met l yX11_begin (WS yX11_begin cX11_begin 5 (some .int)) ({ frames := 2, cells := 0, slots := 0, locals := 51 }) (va_Pc [.ref h0, .int (nI n0), .int (nI n1), .int (nI n2), .int (nI n3)] (cP D k [(h0, .inr (11, F))] sz)) (va_Qi (fun (r : Int32) (_ : Unit) => r = (nI (bgN n0 n1 n2 n3))) (fun (_ : Unit) t => cB D (va_A [(h0, .inr (11, F))] sz) [(h0, .inr (11, F))] t) (va_A [(h0, .inr (11, F))] sz)) 0 0 (va_A [(h0, .inr (11, F))] sz) := by
  refine Met.ofW (cc := cX11_begin) (maxL := 5) (ret := (some .int)) (by decide) rfl ?_
  intro p e s m args below meth c s₁ B hml hv
  obtain ⟨rfl, hsz, hP, hKX, hD0⟩ := hv
  have hK := hKX.1
  have hx := B.exec
  have hb := B.bytes
  have hr := B.returns
  have hts := atoms_spec (ws := WS yX11_begin cX11_begin 5 (some .int)) B.pre
  have hgd : ∀ w ∈ gd, w ∈ WS yX11_begin cX11_begin 5 (some .int) := fun w h => List.mem_cons_of_mem _ h
  have hg : ∀ w ∈ gd, w.before _ s = true := fun w h => hts w (hgd w h)
  have hown : s.vm.findClass RX11 = some m.cls := findClass_of_methodNamed B.named
  have hlocks := B.notSynchronized
  subst hsz
  have hD := hD0.self (sz := s.heap.size)
  generalize hAe : va_A [(h0, .inr (11, F))] s.heap.size = A at hD ⊢
  have hA : ∀ q : Nat, s.heap.size ≤ q → A q := fun q h => by rw [← hAe]; exact Or.inr h
  have hS : va_S A s.heap s.heap [] := va_S.rf
  have hP : va_P D classes [(h0, .inr (11, F))] s.heap := hP
  have hl := lv_entry ([.ref h0, .int (nI n0), .int (nI n1), .int (nI n2), .int (nI n3)]) (n := 5) (Nat.le_of_ble_eq_true rfl)
  rw [lg_entry_eq]
  generalize (lg_sl ([.ref h0, .int (nI n0), .int (nI n1), .int (nI n2), .int (nI n3)]) ++ List.replicate (5 - (lg_sl ([.ref h0, .int (nI n0), .int (nI n1), .int (nI n2), .int (nI n3)])).length) Slot.unset).toArray = ls at hl ⊢
  have hl : lv_has ls 5 [(0, .ref h0), (1, .int (nI n0)), (2, .int (nI n1)), (3, .int (nI n2)), (4, .int (nI n3))] := hl
  refine lv_iload_n hx hb dX11_begin_0 rfl (lv_at hl 1 rfl) ?_
  refine lv_iload_n hx hb dX11_begin_1 rfl (lv_at hl 2 rfl) ?_
  refine lv_iload_n hx hb dX11_begin_2 rfl (lv_at hl 3 rfl) ?_
  have hPc := hP.sub (ws' := []) [] rfl
  have hDc := hD.sub (ws' := []) [] (by decide) rfl
  have hFc := va_free (wc := []) hD hS hA [] rfl
  refine va_calli (va_runS (As := [.int (nI n0), .int (nI n1), .int (nI n2)]) (rest := []) ⟨hx, hb, hml, hown, hts⟩ (c_endless_ok l D k s.heap.size n0 n1 n2 (by omega) (by omega) (by omega) (by omega) (by omega)) (va_cwS 3 hts (gd_S hgd m1069 m1070 m117 m1071) rfl rfl rfl (by decide +kernel) ⟨Nat.le_of_ble_eq_true rfl, Nat.le_of_ble_eq_true rfl⟩) (cP_S hPc hKX hDc) rfl rfl hl.1 rfl (lv_room (Nat.le_of_ble_eq_true rfl)) dX11_begin_3 ⟨Nat.le_of_ble_eq_true rfl, Nat.le_of_ble_eq_true rfl⟩) hS (fun q _ h => hFc q h) hFc (fun r_1 u t H1 locs ht hvm hw hB hz1 hk1 hS => ?_)
  obtain ⟨hP1, hD1⟩ := hB
  rw [ht] at hP1
  obtain ⟨hP, hD⟩ := va_join (wr := [(h0, .inr (11, F))]) (w1 := []) hP hD [] [0] rfl rfl (by decide) (by decide) hk1 hFc hP1 hD1
  generalize H1 = H at hP hS ⊢
  have hP : va_P D classes [(h0, .inr (11, F))] H := hP
  have hD : va_D A [(h0, .inr (11, F))] := hD
  refine W.widen (k := 0) (n := 0) (Nat.le_of_ble_eq_true rfl) (Nat.le_of_ble_eq_true rfl) ?_
  subst hw
  refine lv_if_eq (tgt := 22) hx hb dX11_begin_6 (by decide) (fun c_2 => ?_) (fun c_2 => ?_)
  · exact absurd c_2 (by decide)
  · have c_2 : ¬ ((1 : Int32) = 0) := c_2
    refine lv_iload hx hb dX11_begin_9 (lv_at hl 4 rfl) ?_
    refine lv_iconst (v := 1) hx hb dX11_begin_11 (by decide) ?_
    refine lv_icmp_lt (tgt := 22) hx hb dX11_begin_12 (by decide) (fun c_3 => ?_) (fun c_3 => ?_)
    · exact absurd c_3 (nI_nlt (a := n3) (b := 1) (by omega) (by omega))
    · have c_3 : ¬ (((nI n3) : Int32) < 1) := c_3
      refine lv_iload hx hb dX11_begin_15 (lv_at hl 4 rfl) ?_
      refine lv_bipush (v := 99) hx hb dX11_begin_17 (by decide) ?_
      refine lv_icmp_le (tgt := 24) hx hb dX11_begin_19 (by decide) (fun c_4 => ?_) (fun c_4 => ?_)
      · have c_4 : ((nI n3) : Int32) ≤ 99 := c_4
        refine lv_iload_n hx hb dX11_begin_24 rfl (lv_at hl 1 rfl) ?_
        refine lv_iload_n hx hb dX11_begin_25 rfl (lv_at hl 2 rfl) ?_
        refine lv_iload_n hx hb dX11_begin_26 rfl (lv_at hl 3 rfl) ?_
        refine lv_iload hx hb dX11_begin_27 (lv_at hl 4 rfl) ?_
        have hPc := hP.sub (ws' := []) [] rfl
        have hDc := hD.sub (ws' := []) [] (by decide) rfl
        have hFc := va_free (wc := []) hD hS hA [] rfl
        refine va_calli (va_runS (As := [.int (nI n0), .int (nI n1), .int (nI n2), .int (nI n3)]) (rest := []) ⟨hx, hb, hml, hown, hts⟩ (c_beginnings l D k H.size n0 n1 n2 n3 (by omega) (by omega) (by omega) (by omega) (by omega) (by omega) (by omega)) (va_cwS 4 hts (gd_S hgd m1076 m1077 m117 m1078) rfl rfl rfl (by decide +kernel) ⟨Nat.le_of_ble_eq_true rfl, Nat.le_of_ble_eq_true rfl⟩) (cP_S hPc hKX hDc) rfl rfl hl.1 rfl (lv_room (Nat.le_of_ble_eq_true rfl)) dX11_begin_29 ⟨Nat.le_of_ble_eq_true rfl, Nat.le_of_ble_eq_true rfl⟩) hS (fun q _ h => hFc q h) hFc (fun r_5 u t H1 locs ht hvm hw hB hz1 hk1 hS => ?_)
        obtain ⟨hP1, hD1⟩ := hB
        rw [ht] at hP1
        obtain ⟨hP, hD⟩ := va_join (wr := [(h0, .inr (11, F))]) (w1 := []) hP hD [] [0] rfl rfl (by decide) (by decide) hk1 hFc hP1 hD1
        generalize H1 = H at hP hS ⊢
        have hP : va_P D classes [(h0, .inr (11, F))] H := hP
        have hD : va_D A [(h0, .inr (11, F))] := hD
        refine W.widen (k := 0) (n := 0) (Nat.le_of_ble_eq_true rfl) (Nat.le_of_ble_eq_true rfl) ?_
        subst hw
        have hP9 := hP.sub (ws' := [(h0, .inr (11, F))]) [0] rfl
        have hD9 := hD.sub (ws' := [(h0, .inr (11, F))]) [0] (by decide) rfl
        exact W.iret (v := (nI (bgN n0 n1 n2 n3))) hx hb hr (fun t ht hW => ⟨⟨(nI (bgN n0 n1 n2 n3)), (), rfl, rfl, cB_of ht hP9 hD9⟩, hS.F ht⟩) hS.2.2 dX11_begin_32
      · exact absurd (Int32.not_lt.mp (nI_nlt (a := 99) (b := n3) (by omega) (by omega))) c_4

set_option maxHeartbeats 4000000 in
set_option maxRecDepth 100000 in
theorem c_X12_begin_ok (l : Launch) (D : va_G) (k : ClassId × ClassId × ClassId × ClassId) (sz : Nat) (h0 : Nat) (n0 n1 n2 n3 : Nat) (M : List Value) (ob1 : 1 ≤ n0) (ob2 : n0 ≤ 60) (ob3 : n1 ≤ 9) (ob4 : 1 ≤ n2) (ob5 : n2 ≤ 12) (ob6 : 1 ≤ n3) (ob7 : n3 ≤ 99) : Met l yX12_begin (WS yX12_begin cX12_begin 5 (some .int)) ({ frames := 3, cells := 0, slots := 0, locals := 76 }) (va_Pc [.ref h0, .int (nI n0), .int (nI n1), .int (nI n2), .int (nI n3)] (cP D k [(h0, .inr (12, M))] sz)) (va_Qi (fun (r : Int32) (_ : Unit) => r = (nI (bgN n0 n1 n2 n3))) (fun (_ : Unit) t => cB D (va_A [(h0, .inr (12, M))] sz) [(h0, .inr (12, M))] t) (va_A [(h0, .inr (12, M))] sz)) 0 0 (va_A [(h0, .inr (12, M))] sz) := by
  refine Met.ofW (cc := cX12_begin) (maxL := 5) (ret := (some .int)) (by decide) rfl ?_
  intro p e s m args below meth c s₁ B hml hv
  obtain ⟨rfl, hsz, hP, hKX, hD0⟩ := hv
  have hK := hKX.1
  have hx := B.exec
  have hb := B.bytes
  have hr := B.returns
  have hts := atoms_spec (ws := WS yX12_begin cX12_begin 5 (some .int)) B.pre
  have hgd : ∀ w ∈ gd, w ∈ WS yX12_begin cX12_begin 5 (some .int) := fun w h => List.mem_cons_of_mem _ h
  have hg : ∀ w ∈ gd, w.before _ s = true := fun w h => hts w (hgd w h)
  have hown : s.vm.findClass RX12 = some m.cls := findClass_of_methodNamed B.named
  have hlocks := B.notSynchronized
  subst hsz
  have hD := hD0.self (sz := s.heap.size)
  generalize hAe : va_A [(h0, .inr (12, M))] s.heap.size = A at hD ⊢
  have hA : ∀ q : Nat, s.heap.size ≤ q → A q := fun q h => by rw [← hAe]; exact Or.inr h
  have hS : va_S A s.heap s.heap [] := va_S.rf
  have hP : va_P D classes [(h0, .inr (12, M))] s.heap := hP
  have hl := lv_entry ([.ref h0, .int (nI n0), .int (nI n1), .int (nI n2), .int (nI n3)]) (n := 5) (Nat.le_of_ble_eq_true rfl)
  rw [lg_entry_eq]
  generalize (lg_sl ([.ref h0, .int (nI n0), .int (nI n1), .int (nI n2), .int (nI n3)]) ++ List.replicate (5 - (lg_sl ([.ref h0, .int (nI n0), .int (nI n1), .int (nI n2), .int (nI n3)])).length) Slot.unset).toArray = ls at hl ⊢
  have hl : lv_has ls 5 [(0, .ref h0), (1, .int (nI n0)), (2, .int (nI n1)), (3, .int (nI n2)), (4, .int (nI n3))] := hl
  refine lv_iload_n hx hb dX12_begin_0 rfl (lv_at hl 1 rfl) ?_
  refine lv_iload_n hx hb dX12_begin_1 rfl (lv_at hl 2 rfl) ?_
  refine lv_iload_n hx hb dX12_begin_2 rfl (lv_at hl 3 rfl) ?_
  have hPc := hP.sub (ws' := []) [] rfl
  have hDc := hD.sub (ws' := []) [] (by decide) rfl
  have hFc := va_free (wc := []) hD hS hA [] rfl
  refine va_calli (va_runS (As := [.int (nI n0), .int (nI n1), .int (nI n2)]) (rest := []) ⟨hx, hb, hml, hown, hts⟩ (c_slabs_ok l D k s.heap.size n0 n1 n2 (by omega) (by omega) (by omega) (by omega) (by omega)) (va_cwS 3 hts (gd_S hgd m1907 m1908 m131 m1909) rfl rfl rfl (by decide +kernel) ⟨Nat.le_of_ble_eq_true rfl, Nat.le_of_ble_eq_true rfl⟩) (cP_S hPc hKX hDc) rfl rfl hl.1 rfl (lv_room (Nat.le_of_ble_eq_true rfl)) dX12_begin_3 ⟨Nat.le_of_ble_eq_true rfl, Nat.le_of_ble_eq_true rfl⟩) hS (fun q _ h => hFc q h) hFc (fun r_1 u t H1 locs ht hvm hw hB hz1 hk1 hS => ?_)
  obtain ⟨hP1, hD1⟩ := hB
  rw [ht] at hP1
  obtain ⟨hP, hD⟩ := va_join (wr := [(h0, .inr (12, M))]) (w1 := []) hP hD [] [0] rfl rfl (by decide) (by decide) hk1 hFc hP1 hD1
  generalize H1 = H at hP hS ⊢
  have hP : va_P D classes [(h0, .inr (12, M))] H := hP
  have hD : va_D A [(h0, .inr (12, M))] := hD
  refine W.widen (k := 0) (n := 0) (Nat.le_of_ble_eq_true rfl) (Nat.le_of_ble_eq_true rfl) ?_
  subst hw
  refine lv_if_eq (tgt := 31) hx hb dX12_begin_6 (by decide) (fun c_2 => ?_) (fun c_2 => ?_)
  · exact absurd c_2 (by decide)
  · have c_2 : ¬ ((1 : Int32) = 0) := c_2
    refine lv_iload hx hb dX12_begin_9 (lv_at hl 4 rfl) ?_
    refine lv_iconst (v := 1) hx hb dX12_begin_11 (by decide) ?_
    refine lv_bipush (v := 99) hx hb dX12_begin_12 (by decide) ?_
    have hPc := hP.sub (ws' := []) [] rfl
    have hDc := hD.sub (ws' := []) [] (by decide) rfl
    have hFc := va_free (wc := []) hD hS hA [] rfl
    refine va_calli (va_runS (As := [.int (nI n3), .int 1, .int 99]) (rest := []) ⟨hx, hb, hml, hown, hts⟩ (c_isIn_ok l D k H.size (nI n3) 1 99 (nI_nlt (a := n3) (b := 1) (by omega) (by omega)) (nI_nlt (a := 99) (b := n3) (by omega) (by omega))) (va_cwS 3 hts (gd_S hgd m1781 m1782 m131 m1783) rfl rfl rfl (by decide +kernel) ⟨Nat.le_of_ble_eq_true rfl, Nat.le_of_ble_eq_true rfl⟩) (cP_S hPc hKX hDc) rfl rfl hl.1 rfl (lv_room (Nat.le_of_ble_eq_true rfl)) dX12_begin_14 ⟨Nat.le_of_ble_eq_true rfl, Nat.le_of_ble_eq_true rfl⟩) hS (fun q _ h => hFc q h) hFc (fun r_3 u t H1 locs ht hvm hw hB hz1 hk1 hS => ?_)
    obtain ⟨hP1, hD1⟩ := hB
    rw [ht] at hP1
    obtain ⟨hP, hD⟩ := va_join (wr := [(h0, .inr (12, M))]) (w1 := []) hP hD [] [0] rfl rfl (by decide) (by decide) hk1 hFc hP1 hD1
    generalize H1 = H at hP hS ⊢
    have hP : va_P D classes [(h0, .inr (12, M))] H := hP
    have hD : va_D A [(h0, .inr (12, M))] := hD
    refine W.widen (k := 0) (n := 0) (Nat.le_of_ble_eq_true rfl) (Nat.le_of_ble_eq_true rfl) ?_
    subst hw
    refine lv_if_eq (tgt := 31) hx hb dX12_begin_17 (by decide) (fun c_4 => ?_) (fun c_4 => ?_)
    · exact absurd c_4 (by decide)
    · have c_4 : ¬ ((1 : Int32) = 0) := c_4
      refine lv_iload_n hx hb dX12_begin_20 rfl (lv_at hl 1 rfl) ?_
      refine lv_iload_n hx hb dX12_begin_21 rfl (lv_at hl 2 rfl) ?_
      refine lv_iload_n hx hb dX12_begin_22 rfl (lv_at hl 3 rfl) ?_
      refine lv_iload hx hb dX12_begin_23 (lv_at hl 4 rfl) ?_
      have hPc := hP.sub (ws' := []) [] rfl
      have hDc := hD.sub (ws' := []) [] (by decide) rfl
      have hFc := va_free (wc := []) hD hS hA [] rfl
      refine va_calli (va_runS (As := [.int (nI n0), .int (nI n1), .int (nI n2), .int (nI n3)]) (rest := []) ⟨hx, hb, hml, hown, hts⟩ (c_beginOf l D k H.size n0 n1 n2 n3 (by omega) (by omega) (by omega) (by omega) (by omega) (by omega) (by omega)) (va_cwS 4 hts (gd_S hgd m1920 m1921 m131 m1922) rfl rfl rfl (by decide +kernel) ⟨Nat.le_of_ble_eq_true rfl, Nat.le_of_ble_eq_true rfl⟩) (cP_S hPc hKX hDc) rfl rfl hl.1 rfl (lv_room (Nat.le_of_ble_eq_true rfl)) dX12_begin_25 ⟨Nat.le_of_ble_eq_true rfl, Nat.le_of_ble_eq_true rfl⟩) hS (fun q _ h => hFc q h) hFc (fun r_5 u t H1 locs ht hvm hw hB hz1 hk1 hS => ?_)
      obtain ⟨hP1, hD1⟩ := hB
      rw [ht] at hP1
      obtain ⟨hP, hD⟩ := va_join (wr := [(h0, .inr (12, M))]) (w1 := []) hP hD [] [0] rfl rfl (by decide) (by decide) hk1 hFc hP1 hD1
      generalize H1 = H at hP hS ⊢
      have hP : va_P D classes [(h0, .inr (12, M))] H := hP
      have hD : va_D A [(h0, .inr (12, M))] := hD
      refine W.widen (k := 0) (n := 0) (Nat.le_of_ble_eq_true rfl) (Nat.le_of_ble_eq_true rfl) ?_
      subst hw
      refine lv_goto (tgt := 32) hx hb dX12_begin_28 (by decide) ?_
      have hP9 := hP.sub (ws' := [(h0, .inr (12, M))]) [0] rfl
      have hD9 := hD.sub (ws' := [(h0, .inr (12, M))]) [0] (by decide) rfl
      exact W.iret (v := (nI (bgN n0 n1 n2 n3))) hx hb hr (fun t ht hW => ⟨⟨(nI (bgN n0 n1 n2 n3)), (), rfl, rfl, cB_of ht hP9 hD9⟩, hS.F ht⟩) hS.2.2 dX12_begin_32
