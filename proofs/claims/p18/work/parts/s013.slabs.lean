

set_option maxHeartbeats 4000000 in
set_option maxRecDepth 100000 in
theorem c_X11_suits_bad (l : Launch) (D : va_G) (k : KT) (sz : Nat) (h0 : Nat) (p0 p1 p2 p3 p4 : Int32) (F : List Value) (hbad : ¬ (¬ s_endless p0 p1 p4 = 0 ∧ ¬ s_endless p2 p3 p4 = 0)) : Met l yX11_suits (WS yX11_suits cX11_suits 9 (some .long)) ({ frames := 1, cells := 0, slots := 0, locals := 22 }) (va_Pc [.ref h0, .int p0, .int p1, .int p2, .int p3, .int p4] (cQ D k [(h0, .inr (11, F))] sz)) (va_Ql (fun (r : Int64) (_ : Unit) => r = (-1)) (fun (_ : Unit) t => cB D (va_A [(h0, .inr (11, F))] sz) [(h0, .inr (11, F))] t) (va_A [(h0, .inr (11, F))] sz)) 0 0 (va_A [(h0, .inr (11, F))] sz) := by
  refine Met.ofW (cc := cX11_suits) (maxL := 9) (ret := (some .long)) (by decide) rfl ?_
  intro p e s m args below meth c s₁ B hml hv
  obtain ⟨rfl, hsz, hP, hKX, hD0⟩ := hv
  have hK := hKX.1
  have hx := B.exec
  have hb := B.bytes
  have hr := B.returns
  have hts := atoms_spec (ws := WS yX11_suits cX11_suits 9 (some .long)) B.pre
  have hgd : ∀ w ∈ gd, w ∈ WS yX11_suits cX11_suits 9 (some .long) := fun w h => List.mem_cons_of_mem _ h
  have hg : ∀ w ∈ gd, w.before _ s = true := fun w h => hts w (hgd w h)
  have hown : s.vm.findClass RX11 = some m.cls := findClass_of_methodNamed B.named
  have hlocks := B.notSynchronized
  subst hsz
  have hD := hD0.self (sz := s.heap.size)
  generalize hAe : va_A [(h0, .inr (11, F))] s.heap.size = A at hD ⊢
  have hA : ∀ q : Nat, s.heap.size ≤ q → A q := fun q h => by rw [← hAe]; exact Or.inr h
  have hS : va_S A s.heap s.heap [] := va_S.rf
  have hP : va_P D classes [(h0, .inr (11, F))] s.heap := hP
  have hl := lv_entry ([.ref h0, .int p0, .int p1, .int p2, .int p3, .int p4]) (n := 9) (Nat.le_of_ble_eq_true rfl)
  rw [lg_entry_eq]
  generalize (lg_sl ([.ref h0, .int p0, .int p1, .int p2, .int p3, .int p4]) ++ List.replicate (9 - (lg_sl ([.ref h0, .int p0, .int p1, .int p2, .int p3, .int p4])).length) Slot.unset).toArray = ls at hl ⊢
  have hl : lv_has ls 9 [(0, .ref h0), (1, .int p0), (2, .int p1), (3, .int p2), (4, .int p3), (5, .int p4)] := hl
  refine lv_iload_n hx hb dX11_suits_0 rfl (lv_at hl 1 rfl) ?_
  refine lv_iload_n hx hb dX11_suits_1 rfl (lv_at hl 2 rfl) ?_
  refine lv_iload hx hb dX11_suits_2 (lv_at hl 5 rfl) ?_
  have hPc := hP.sub (ws' := []) [] rfl
  have hDc := hD.sub (ws' := []) [] (by decide) rfl
  have hFc := va_free (wc := []) hD hS hA [] rfl
  refine va_calli (va_runS (As := [.int p0, .int p1, .int p4]) (rest := []) ⟨hx, hb, hml, hown, hts⟩ (c_endless l D k s.heap.size p0 p1 p4 ) (va_cwS 3 hts (gd_S hgd m1069 m1070 m117 m1071) rfl rfl rfl (by decide +kernel) ⟨Nat.le_of_ble_eq_true rfl, Nat.le_of_ble_eq_true rfl⟩) (cQ_S hPc hKX hDc) rfl rfl hl.1 rfl (lv_room (Nat.le_of_ble_eq_true rfl)) dX11_suits_4 ⟨Nat.le_of_ble_eq_true rfl, Nat.le_of_ble_eq_true rfl⟩) hS (fun q _ h => hFc q h) hFc (fun r_1 u t H1 locs ht hvm hw hB hz1 hk1 hS => ?_)
  obtain ⟨hP1, hD1⟩ := hB
  rw [ht] at hP1
  obtain ⟨hP, hD⟩ := va_join (wr := [(h0, .inr (11, F))]) (w1 := []) hP hD [] [0] rfl rfl (by decide) (by decide) hk1 hFc hP1 hD1
  generalize H1 = H at hP hS ⊢
  have hP : va_P D classes [(h0, .inr (11, F))] H := hP
  have hD : va_D A [(h0, .inr (11, F))] := hD
  refine W.widen (k := 0) (n := 0) (Nat.le_of_ble_eq_true rfl) (Nat.le_of_ble_eq_true rfl) ?_
  have h_2 := hw
  refine lv_if_eq (tgt := 21) hx hb dX11_suits_7 (by decide) (fun c_3 => ?_) (fun c_3 => ?_)
  · have c_3 : (r_1 : Int32) = 0 := c_3
    refine lv_ldc2 (v := (-1)) hx hb hown (hg (Cond.constantLong RX11 165 (-1)) m1018) dX11_suits_21 ?_
    have hP9 := hP.sub (ws' := [(h0, .inr (11, F))]) [0] rfl
    have hD9 := hD.sub (ws' := [(h0, .inr (11, F))]) [0] (by decide) rfl
    exact W.lret (v := (-1)) hx hb hr (fun t ht hW => ⟨⟨(-1), (), rfl, rfl, cB_of ht hP9 hD9⟩, hS.F ht⟩) hS.2.2 dX11_suits_24
  · have c_3 : ¬ ((r_1 : Int32) = 0) := c_3
    refine lv_iload_n hx hb dX11_suits_10 rfl (lv_at hl 3 rfl) ?_
    refine lv_iload hx hb dX11_suits_11 (lv_at hl 4 rfl) ?_
    refine lv_iload hx hb dX11_suits_13 (lv_at hl 5 rfl) ?_
    have hPc := hP.sub (ws' := []) [] rfl
    have hDc := hD.sub (ws' := []) [] (by decide) rfl
    have hFc := va_free (wc := []) hD hS hA [] rfl
    refine va_calli (va_runS (As := [.int p2, .int p3, .int p4]) (rest := []) ⟨hx, hb, hml, hown, hts⟩ (c_endless l D k H.size p2 p3 p4 ) (va_cwS 3 hts (gd_S hgd m1069 m1070 m117 m1071) rfl rfl rfl (by decide +kernel) ⟨Nat.le_of_ble_eq_true rfl, Nat.le_of_ble_eq_true rfl⟩) (cQ_S hPc hKX hDc) rfl rfl hl.1 rfl (lv_room (Nat.le_of_ble_eq_true rfl)) dX11_suits_15 ⟨Nat.le_of_ble_eq_true rfl, Nat.le_of_ble_eq_true rfl⟩) hS (fun q _ h => hFc q h) hFc (fun r_4 u t H1 locs ht hvm hw hB hz1 hk1 hS => ?_)
    obtain ⟨hP1, hD1⟩ := hB
    rw [ht] at hP1
    obtain ⟨hP, hD⟩ := va_join (wr := [(h0, .inr (11, F))]) (w1 := []) hP hD [] [0] rfl rfl (by decide) (by decide) hk1 hFc hP1 hD1
    generalize H1 = H at hP hS ⊢
    have hP : va_P D classes [(h0, .inr (11, F))] H := hP
    have hD : va_D A [(h0, .inr (11, F))] := hD
    refine W.widen (k := 0) (n := 0) (Nat.le_of_ble_eq_true rfl) (Nat.le_of_ble_eq_true rfl) ?_
    have h_5 := hw
    refine lv_if_ne (tgt := 25) hx hb dX11_suits_18 (by decide) (fun c_6 => ?_) (fun c_6 => ?_)
    · have c_6 : ¬ ((r_4 : Int32) = 0) := c_6
      exact absurd ⟨(fun q => c_3 (h_2.trans q)), (fun q => c_6 (h_5.trans q))⟩ hbad
    · have c_6 : (r_4 : Int32) = 0 := c_6
      refine lv_ldc2 (v := (-1)) hx hb hown (hg (Cond.constantLong RX11 165 (-1)) m1018) dX11_suits_21 ?_
      have hP9 := hP.sub (ws' := [(h0, .inr (11, F))]) [0] rfl
      have hD9 := hD.sub (ws' := [(h0, .inr (11, F))]) [0] (by decide) rfl
      exact W.lret (v := (-1)) hx hb hr (fun t ht hW => ⟨⟨(-1), (), rfl, rfl, cB_of ht hP9 hD9⟩, hS.F ht⟩) hS.2.2 dX11_suits_24

set_option maxHeartbeats 4000000 in
set_option maxRecDepth 100000 in
theorem c_X12_suits_bad (l : Launch) (D : va_G) (k : KT) (sz : Nat) (h0 : Nat) (p0 p1 p2 p3 p4 : Int32) (M : List Value) (hbad : ¬ (¬ s_endless p0 p1 p4 = 0 ∧ ¬ s_endless p2 p3 p4 = 0)) : Met l yX12_suits (WS yX12_suits cX12_suits 9 (some .long)) ({ frames := 2, cells := 0, slots := 0, locals := 44 }) (va_Pc [.ref h0, .int p0, .int p1, .int p2, .int p3, .int p4] (cQ D k [(h0, .inr (12, M))] sz)) (va_Ql (fun (r : Int64) (_ : Unit) => r = (-1)) (fun (_ : Unit) t => cB D (va_A [(h0, .inr (12, M))] sz) [(h0, .inr (12, M))] t) (va_A [(h0, .inr (12, M))] sz)) 0 0 (va_A [(h0, .inr (12, M))] sz) := by
  refine Met.ofW (cc := cX12_suits) (maxL := 9) (ret := (some .long)) (by decide) rfl ?_
  intro p e s m args below meth c s₁ B hml hv
  obtain ⟨rfl, hsz, hP, hKX, hD0⟩ := hv
  have hK := hKX.1
  have hx := B.exec
  have hb := B.bytes
  have hr := B.returns
  have hts := atoms_spec (ws := WS yX12_suits cX12_suits 9 (some .long)) B.pre
  have hgd : ∀ w ∈ gd, w ∈ WS yX12_suits cX12_suits 9 (some .long) := fun w h => List.mem_cons_of_mem _ h
  have hg : ∀ w ∈ gd, w.before _ s = true := fun w h => hts w (hgd w h)
  have hown : s.vm.findClass RX12 = some m.cls := findClass_of_methodNamed B.named
  have hlocks := B.notSynchronized
  subst hsz
  have hD := hD0.self (sz := s.heap.size)
  generalize hAe : va_A [(h0, .inr (12, M))] s.heap.size = A at hD ⊢
  have hA : ∀ q : Nat, s.heap.size ≤ q → A q := fun q h => by rw [← hAe]; exact Or.inr h
  have hS : va_S A s.heap s.heap [] := va_S.rf
  have hP : va_P D classes [(h0, .inr (12, M))] s.heap := hP
  have hl := lv_entry ([.ref h0, .int p0, .int p1, .int p2, .int p3, .int p4]) (n := 9) (Nat.le_of_ble_eq_true rfl)
  rw [lg_entry_eq]
  generalize (lg_sl ([.ref h0, .int p0, .int p1, .int p2, .int p3, .int p4]) ++ List.replicate (9 - (lg_sl ([.ref h0, .int p0, .int p1, .int p2, .int p3, .int p4])).length) Slot.unset).toArray = ls at hl ⊢
  have hl : lv_has ls 9 [(0, .ref h0), (1, .int p0), (2, .int p1), (3, .int p2), (4, .int p3), (5, .int p4)] := hl
  refine lv_iload_n hx hb dX12_suits_0 rfl (lv_at hl 1 rfl) ?_
  refine lv_iload_n hx hb dX12_suits_1 rfl (lv_at hl 2 rfl) ?_
  refine lv_iload hx hb dX12_suits_2 (lv_at hl 5 rfl) ?_
  have hPc := hP.sub (ws' := []) [] rfl
  have hDc := hD.sub (ws' := []) [] (by decide) rfl
  have hFc := va_free (wc := []) hD hS hA [] rfl
  refine va_calli (va_runS (As := [.int p0, .int p1, .int p4]) (rest := []) ⟨hx, hb, hml, hown, hts⟩ (c_slabs l D k s.heap.size p0 p1 p4 ) (va_cwS 3 hts (gd_S hgd m1907 m1908 m131 m1909) rfl rfl rfl (by decide +kernel) ⟨Nat.le_of_ble_eq_true rfl, Nat.le_of_ble_eq_true rfl⟩) (cQ_S hPc hKX hDc) rfl rfl hl.1 rfl (lv_room (Nat.le_of_ble_eq_true rfl)) dX12_suits_4 ⟨Nat.le_of_ble_eq_true rfl, Nat.le_of_ble_eq_true rfl⟩) hS (fun q _ h => hFc q h) hFc (fun r_1 u t H1 locs ht hvm hw hB hz1 hk1 hS => ?_)
  obtain ⟨hP1, hD1⟩ := hB
  rw [ht] at hP1
  obtain ⟨hP, hD⟩ := va_join (wr := [(h0, .inr (12, M))]) (w1 := []) hP hD [] [0] rfl rfl (by decide) (by decide) hk1 hFc hP1 hD1
  generalize H1 = H at hP hS ⊢
  have hP : va_P D classes [(h0, .inr (12, M))] H := hP
  have hD : va_D A [(h0, .inr (12, M))] := hD
  refine W.widen (k := 0) (n := 0) (Nat.le_of_ble_eq_true rfl) (Nat.le_of_ble_eq_true rfl) ?_
  have h_2 := hw
  refine lv_if_eq (tgt := 21) hx hb dX12_suits_7 (by decide) (fun c_3 => ?_) (fun c_3 => ?_)
  · have c_3 : (r_1 : Int32) = 0 := c_3
    refine lv_ldc2 (v := (-1)) hx hb hown (hg (Cond.constantLong RX12 517 (-1)) m1874) dX12_suits_21 ?_
    have hP9 := hP.sub (ws' := [(h0, .inr (12, M))]) [0] rfl
    have hD9 := hD.sub (ws' := [(h0, .inr (12, M))]) [0] (by decide) rfl
    exact W.lret (v := (-1)) hx hb hr (fun t ht hW => ⟨⟨(-1), (), rfl, rfl, cB_of ht hP9 hD9⟩, hS.F ht⟩) hS.2.2 dX12_suits_24
  · have c_3 : ¬ ((r_1 : Int32) = 0) := c_3
    refine lv_iload_n hx hb dX12_suits_10 rfl (lv_at hl 3 rfl) ?_
    refine lv_iload hx hb dX12_suits_11 (lv_at hl 4 rfl) ?_
    refine lv_iload hx hb dX12_suits_13 (lv_at hl 5 rfl) ?_
    have hPc := hP.sub (ws' := []) [] rfl
    have hDc := hD.sub (ws' := []) [] (by decide) rfl
    have hFc := va_free (wc := []) hD hS hA [] rfl
    refine va_calli (va_runS (As := [.int p2, .int p3, .int p4]) (rest := []) ⟨hx, hb, hml, hown, hts⟩ (c_slabs l D k H.size p2 p3 p4 ) (va_cwS 3 hts (gd_S hgd m1907 m1908 m131 m1909) rfl rfl rfl (by decide +kernel) ⟨Nat.le_of_ble_eq_true rfl, Nat.le_of_ble_eq_true rfl⟩) (cQ_S hPc hKX hDc) rfl rfl hl.1 rfl (lv_room (Nat.le_of_ble_eq_true rfl)) dX12_suits_15 ⟨Nat.le_of_ble_eq_true rfl, Nat.le_of_ble_eq_true rfl⟩) hS (fun q _ h => hFc q h) hFc (fun r_4 u t H1 locs ht hvm hw hB hz1 hk1 hS => ?_)
    obtain ⟨hP1, hD1⟩ := hB
    rw [ht] at hP1
    obtain ⟨hP, hD⟩ := va_join (wr := [(h0, .inr (12, M))]) (w1 := []) hP hD [] [0] rfl rfl (by decide) (by decide) hk1 hFc hP1 hD1
    generalize H1 = H at hP hS ⊢
    have hP : va_P D classes [(h0, .inr (12, M))] H := hP
    have hD : va_D A [(h0, .inr (12, M))] := hD
    refine W.widen (k := 0) (n := 0) (Nat.le_of_ble_eq_true rfl) (Nat.le_of_ble_eq_true rfl) ?_
    have h_5 := hw
    refine lv_if_ne (tgt := 25) hx hb dX12_suits_18 (by decide) (fun c_6 => ?_) (fun c_6 => ?_)
    · have c_6 : ¬ ((r_4 : Int32) = 0) := c_6
      exact absurd ⟨(fun q => c_3 (h_2.trans q)), (fun q => c_6 (h_5.trans q))⟩ hbad
    · have c_6 : (r_4 : Int32) = 0 := c_6
      refine lv_ldc2 (v := (-1)) hx hb hown (hg (Cond.constantLong RX12 517 (-1)) m1874) dX12_suits_21 ?_
      have hP9 := hP.sub (ws' := [(h0, .inr (12, M))]) [0] rfl
      have hD9 := hD.sub (ws' := [(h0, .inr (12, M))]) [0] (by decide) rfl
      exact W.lret (v := (-1)) hx hb hr (fun t ht hW => ⟨⟨(-1), (), rfl, rfl, cB_of ht hP9 hD9⟩, hS.F ht⟩) hS.2.2 dX12_suits_24

set_option maxHeartbeats 4000000 in
set_option maxRecDepth 100000 in
theorem c_X11_suits_ok (l : Launch) (D : va_G) (k : KT) (sz : Nat) (h0 : Nat) (n0 n1 n2 n3 n4 : Nat) (F : List Value) (ob1 : 1 ≤ n0) (ob2 : n0 ≤ 60) (ob3 : n1 ≤ 9) (ob4 : 1 ≤ n2) (ob5 : n2 ≤ 60) (ob6 : n3 ≤ 9) (ob7 : 1 ≤ n4) (ob8 : n4 ≤ 12) : Met l yX11_suits (WS yX11_suits cX11_suits 9 (some .long)) ({ frames := 2, cells := 0, slots := 0, locals := 51 }) (va_Pc [.ref h0, .int (nI n0), .int (nI n1), .int (nI n2), .int (nI n3), .int (nI n4)] (cQ D k [(h0, .inr (11, F))] sz)) (va_Ql (fun (r : Int64) (_ : Unit) => r = (suN n0 n1 n2 n3 n4 60)) (fun (_ : Unit) t => cB D (va_A [(h0, .inr (11, F))] sz) [(h0, .inr (11, F))] t) (va_A [(h0, .inr (11, F))] sz)) 0 0 (va_A [(h0, .inr (11, F))] sz) := by
  refine Met.ofW (cc := cX11_suits) (maxL := 9) (ret := (some .long)) (by decide) rfl ?_
  intro p e s m args below meth c s₁ B hml hv
  obtain ⟨rfl, hsz, hP, hKX, hD0⟩ := hv
  have hK := hKX.1
  have hx := B.exec
  have hb := B.bytes
  have hr := B.returns
  have hts := atoms_spec (ws := WS yX11_suits cX11_suits 9 (some .long)) B.pre
  have hgd : ∀ w ∈ gd, w ∈ WS yX11_suits cX11_suits 9 (some .long) := fun w h => List.mem_cons_of_mem _ h
  have hg : ∀ w ∈ gd, w.before _ s = true := fun w h => hts w (hgd w h)
  have hown : s.vm.findClass RX11 = some m.cls := findClass_of_methodNamed B.named
  have hlocks := B.notSynchronized
  subst hsz
  have hD := hD0.self (sz := s.heap.size)
  generalize hAe : va_A [(h0, .inr (11, F))] s.heap.size = A at hD ⊢
  have hA : ∀ q : Nat, s.heap.size ≤ q → A q := fun q h => by rw [← hAe]; exact Or.inr h
  have hS : va_S A s.heap s.heap [] := va_S.rf
  have hP : va_P D classes [(h0, .inr (11, F))] s.heap := hP
  have hl := lv_entry ([.ref h0, .int (nI n0), .int (nI n1), .int (nI n2), .int (nI n3), .int (nI n4)]) (n := 9) (Nat.le_of_ble_eq_true rfl)
  rw [lg_entry_eq]
  generalize (lg_sl ([.ref h0, .int (nI n0), .int (nI n1), .int (nI n2), .int (nI n3), .int (nI n4)]) ++ List.replicate (9 - (lg_sl ([.ref h0, .int (nI n0), .int (nI n1), .int (nI n2), .int (nI n3), .int (nI n4)])).length) Slot.unset).toArray = ls at hl ⊢
  have hl : lv_has ls 9 [(0, .ref h0), (1, .int (nI n0)), (2, .int (nI n1)), (3, .int (nI n2)), (4, .int (nI n3)), (5, .int (nI n4))] := hl
  refine lv_iload_n hx hb dX11_suits_0 rfl (lv_at hl 1 rfl) ?_
  refine lv_iload_n hx hb dX11_suits_1 rfl (lv_at hl 2 rfl) ?_
  refine lv_iload hx hb dX11_suits_2 (lv_at hl 5 rfl) ?_
  have hPc := hP.sub (ws' := []) [] rfl
  have hDc := hD.sub (ws' := []) [] (by decide) rfl
  have hFc := va_free (wc := []) hD hS hA [] rfl
  refine va_calli (va_runS (As := [.int (nI n0), .int (nI n1), .int (nI n4)]) (rest := []) ⟨hx, hb, hml, hown, hts⟩ (c_endless_ok l D k s.heap.size n0 n1 n4 (by omega) (by omega) (by omega) (by omega) (by omega)) (va_cwS 3 hts (gd_S hgd m1069 m1070 m117 m1071) rfl rfl rfl (by decide +kernel) ⟨Nat.le_of_ble_eq_true rfl, Nat.le_of_ble_eq_true rfl⟩) (cQ_S hPc hKX hDc) rfl rfl hl.1 rfl (lv_room (Nat.le_of_ble_eq_true rfl)) dX11_suits_4 ⟨Nat.le_of_ble_eq_true rfl, Nat.le_of_ble_eq_true rfl⟩) hS (fun q _ h => hFc q h) hFc (fun r_1 u t H1 locs ht hvm hw hB hz1 hk1 hS => ?_)
  obtain ⟨hP1, hD1⟩ := hB
  rw [ht] at hP1
  obtain ⟨hP, hD⟩ := va_join (wr := [(h0, .inr (11, F))]) (w1 := []) hP hD [] [0] rfl rfl (by decide) (by decide) hk1 hFc hP1 hD1
  generalize H1 = H at hP hS ⊢
  have hP : va_P D classes [(h0, .inr (11, F))] H := hP
  have hD : va_D A [(h0, .inr (11, F))] := hD
  refine W.widen (k := 0) (n := 0) (Nat.le_of_ble_eq_true rfl) (Nat.le_of_ble_eq_true rfl) ?_
  subst hw
  refine lv_if_eq (tgt := 21) hx hb dX11_suits_7 (by decide) (fun c_2 => ?_) (fun c_2 => ?_)
  · exact absurd c_2 (by decide)
  · have c_2 : ¬ ((1 : Int32) = 0) := c_2
    refine lv_iload_n hx hb dX11_suits_10 rfl (lv_at hl 3 rfl) ?_
    refine lv_iload hx hb dX11_suits_11 (lv_at hl 4 rfl) ?_
    refine lv_iload hx hb dX11_suits_13 (lv_at hl 5 rfl) ?_
    have hPc := hP.sub (ws' := []) [] rfl
    have hDc := hD.sub (ws' := []) [] (by decide) rfl
    have hFc := va_free (wc := []) hD hS hA [] rfl
    refine va_calli (va_runS (As := [.int (nI n2), .int (nI n3), .int (nI n4)]) (rest := []) ⟨hx, hb, hml, hown, hts⟩ (c_endless_ok l D k H.size n2 n3 n4 (by omega) (by omega) (by omega) (by omega) (by omega)) (va_cwS 3 hts (gd_S hgd m1069 m1070 m117 m1071) rfl rfl rfl (by decide +kernel) ⟨Nat.le_of_ble_eq_true rfl, Nat.le_of_ble_eq_true rfl⟩) (cQ_S hPc hKX hDc) rfl rfl hl.1 rfl (lv_room (Nat.le_of_ble_eq_true rfl)) dX11_suits_15 ⟨Nat.le_of_ble_eq_true rfl, Nat.le_of_ble_eq_true rfl⟩) hS (fun q _ h => hFc q h) hFc (fun r_3 u t H1 locs ht hvm hw hB hz1 hk1 hS => ?_)
    obtain ⟨hP1, hD1⟩ := hB
    rw [ht] at hP1
    obtain ⟨hP, hD⟩ := va_join (wr := [(h0, .inr (11, F))]) (w1 := []) hP hD [] [0] rfl rfl (by decide) (by decide) hk1 hFc hP1 hD1
    generalize H1 = H at hP hS ⊢
    have hP : va_P D classes [(h0, .inr (11, F))] H := hP
    have hD : va_D A [(h0, .inr (11, F))] := hD
    refine W.widen (k := 0) (n := 0) (Nat.le_of_ble_eq_true rfl) (Nat.le_of_ble_eq_true rfl) ?_
    subst hw
    refine lv_if_ne (tgt := 25) hx hb dX11_suits_18 (by decide) (fun c_4 => ?_) (fun c_4 => ?_)
    · have c_4 : ¬ ((1 : Int32) = 0) := c_4
      refine lv_lconst (v := 0) hx hb dX11_suits_25 (by decide) ?_
      refine lv_lstore (lv' := [(6, .long 0), (0, .ref h0), (1, .int (nI n0)), (2, .int (nI n1)), (3, .int (nI n2)), (4, .int (nI n3)), (5, .int (nI n4))]) hx hb dX11_suits_26 hl (by decide) rfl (fun ls hl => ?_)
      refine lv_iconst (v := 1) hx hb dX11_suits_28 (by decide) ?_
      refine lv_istore (lv' := [(8, .int 1), (6, .long 0), (0, .ref h0), (1, .int (nI n0)), (2, .int (nI n1)), (3, .int (nI n2)), (4, .int (nI n3)), (5, .int (nI n4))]) hx hb dX11_suits_29 hl (by decide) rfl (fun ls hl => ?_)
      refine loop_W (σ := Nat) (fun i H locs ls => (i ≤ 60) ∧ va_P D classes [(h0, .inr (11, F))] H ∧ va_D A [(h0, .inr (11, F))] ∧ va_S A s.heap H locs ∧ lv_has ls 9 [(1, .int (nI n0)), (2, .int (nI n1)), (3, .int (nI n2)), (4, .int (nI n3)), (5, .int (nI n4)), (6, .long (suN n0 n1 n2 n3 n4 i)), (8, .int (nI (i + 1)))]) (fun i => 60 - i) (fun i H locs ls hI ih => ?_) 0 _ _ ls ⟨Nat.zero_le _, hP, hD, hS, lv_sub hl [3, 4, 5, 6, 7, 1, 0] rfl⟩
      obtain ⟨hi, hP, hD, hS, hl⟩ := hI
      have hi : i ≤ 60 := hi
      have hl : lv_has ls 9 [(1, .int (nI n0)), (2, .int (nI n1)), (3, .int (nI n2)), (4, .int (nI n3)), (5, .int (nI n4)), (6, .long (suN n0 n1 n2 n3 n4 i)), (8, .int (nI (i + 1)))] := hl
      refine lv_iload hx hb dX11_suits_31 (lv_at hl 6 rfl) ?_
      refine lv_bipush (v := 60) hx hb dX11_suits_33 (by decide) ?_
      refine lv_icmp_gt (tgt := 80) hx hb dX11_suits_35 (by decide) (fun c_5 => ?_) (fun c_5 => ?_)
      · have c_5 : (60 : Int32) < (nI (i + 1)) := c_5
        have hin : i = 60 := by have := (nI_ltI (a := 60) (b := i + 1) (by omega) (by omega)).mp c_5; omega
        refine lv_lload hx hb dX11_suits_80 (lv_at hl 5 rfl) ?_
        have hP9 := hP.sub (ws' := [(h0, .inr (11, F))]) [0] rfl
        have hD9 := hD.sub (ws' := [(h0, .inr (11, F))]) [0] (by decide) rfl
        exact W.lret (v := (suN n0 n1 n2 n3 n4 i)) hx hb hr (fun t ht hW => ⟨⟨(suN n0 n1 n2 n3 n4 i), (), rfl, by rw [hin], cB_of ht hP9 hD9⟩, hS.F ht⟩) hS.2.2 dX11_suits_82
      · have c_5 : ¬ ((60 : Int32) < (nI (i + 1))) := c_5
        have hlt : i < 60 := by have := n_nlt (a := 60) (b := i + 1) (by omega) (by omega) c_5; omega
        refine lv_iload_n hx hb dX11_suits_38 rfl (lv_at hl 0 rfl) ?_
        refine lv_iload_n hx hb dX11_suits_39 rfl (lv_at hl 1 rfl) ?_
        refine lv_iload hx hb dX11_suits_40 (lv_at hl 4 rfl) ?_
        refine lv_iload hx hb dX11_suits_42 (lv_at hl 6 rfl) ?_
        have hPc := hP.sub (ws' := []) [] rfl
        have hDc := hD.sub (ws' := []) [] (by decide) rfl
        have hFc := va_free (wc := []) hD hS hA [] rfl
        refine va_calli (va_runS (As := [.int (nI n0), .int (nI n1), .int (nI n4), .int (nI (i + 1))]) (rest := []) ⟨hx, hb, hml, hown, hts⟩ (c_beginnings l D k H.size n0 n1 n4 (i + 1) (by omega) (by omega) (by omega) (by omega) (by omega) (by omega) (by omega)) (va_cwS 4 hts (gd_S hgd m1076 m1077 m117 m1078) rfl rfl rfl (by decide +kernel) ⟨Nat.le_of_ble_eq_true rfl, Nat.le_of_ble_eq_true rfl⟩) (cQ_S hPc hKX hDc) rfl rfl hl.1 rfl (lv_room (Nat.le_of_ble_eq_true rfl)) dX11_suits_44 ⟨Nat.le_of_ble_eq_true rfl, Nat.le_of_ble_eq_true rfl⟩) hS (fun q _ h => hFc q h) hFc (fun r_6 u t H1 locs ht hvm hw hB hz1 hk1 hS => ?_)
        obtain ⟨hP1, hD1⟩ := hB
        rw [ht] at hP1
        obtain ⟨hP, hD⟩ := va_join (wr := [(h0, .inr (11, F))]) (w1 := []) hP hD [] [0] rfl rfl (by decide) (by decide) hk1 hFc hP1 hD1
        generalize H1 = H at hP hS ⊢
        have hP : va_P D classes [(h0, .inr (11, F))] H := hP
        have hD : va_D A [(h0, .inr (11, F))] := hD
        refine W.widen (k := 0) (n := 0) (Nat.le_of_ble_eq_true rfl) (Nat.le_of_ble_eq_true rfl) ?_
        subst hw
        refine lv_if_eq (tgt := 74) hx hb dX11_suits_47 (by decide) (fun c_7 => ?_) (fun c_7 => ?_)
        · have c_7 : ((nI (bgN n0 n1 n4 (i + 1))) : Int32) = 0 := c_7
          have hl : lv_has ls 9 [(1, .int (nI n0)), (2, .int (nI n1)), (3, .int (nI n2)), (4, .int (nI n3)), (5, .int (nI n4)), (6, .long (suN n0 n1 n2 n3 n4 (i + 1))), (8, .int (nI (i + 1)))] := by rw [show (suN n0 n1 n2 n3 n4 (i + 1)) = (suN n0 n1 n2 n3 n4 i) from su_0a (by omega) (by omega) (by omega) (by omega) (by omega) c_7]; exact hl
          refine lv_iinc (v := (nI (i + 1 + 1))) (lv' := [(8, .int (nI (i + 1 + 1))), (1, .int (nI n0)), (2, .int (nI n1)), (3, .int (nI n2)), (4, .int (nI n3)), (5, .int (nI n4)), (6, .long (suN n0 n1 n2 n3 n4 (i + 1)))]) hx hb dX11_suits_74 hl (k := 6) rfl (nI_1 (i + 1)) (by decide) rfl (fun ls hl => ?_)
          refine lv_goto (tgt := 31) hx hb dX11_suits_77 (by decide) ?_
          exact ih (i + 1) _ _ _ ⟨by (try dsimp only); omega, hP, hD, hS, lv_sub hl [1, 2, 3, 4, 5, 6, 0] rfl⟩ (by show 60 - (i + 1) < 60 - i; omega)
        · have c_7 : ¬ (((nI (bgN n0 n1 n4 (i + 1))) : Int32) = 0) := c_7
          refine lv_iload_n hx hb dX11_suits_50 rfl (lv_at hl 2 rfl) ?_
          refine lv_iload hx hb dX11_suits_51 (lv_at hl 3 rfl) ?_
          refine lv_iload hx hb dX11_suits_53 (lv_at hl 4 rfl) ?_
          refine lv_iload hx hb dX11_suits_55 (lv_at hl 6 rfl) ?_
          have hPc := hP.sub (ws' := []) [] rfl
          have hDc := hD.sub (ws' := []) [] (by decide) rfl
          have hFc := va_free (wc := []) hD hS hA [] rfl
          refine va_calli (va_runS (As := [.int (nI n2), .int (nI n3), .int (nI n4), .int (nI (i + 1))]) (rest := []) ⟨hx, hb, hml, hown, hts⟩ (c_beginnings l D k H.size n2 n3 n4 (i + 1) (by omega) (by omega) (by omega) (by omega) (by omega) (by omega) (by omega)) (va_cwS 4 hts (gd_S hgd m1076 m1077 m117 m1078) rfl rfl rfl (by decide +kernel) ⟨Nat.le_of_ble_eq_true rfl, Nat.le_of_ble_eq_true rfl⟩) (cQ_S hPc hKX hDc) rfl rfl hl.1 rfl (lv_room (Nat.le_of_ble_eq_true rfl)) dX11_suits_57 ⟨Nat.le_of_ble_eq_true rfl, Nat.le_of_ble_eq_true rfl⟩) hS (fun q _ h => hFc q h) hFc (fun r_8 u t H1 locs ht hvm hw hB hz1 hk1 hS => ?_)
          obtain ⟨hP1, hD1⟩ := hB
          rw [ht] at hP1
          obtain ⟨hP, hD⟩ := va_join (wr := [(h0, .inr (11, F))]) (w1 := []) hP hD [] [0] rfl rfl (by decide) (by decide) hk1 hFc hP1 hD1
          generalize H1 = H at hP hS ⊢
          have hP : va_P D classes [(h0, .inr (11, F))] H := hP
          have hD : va_D A [(h0, .inr (11, F))] := hD
          refine W.widen (k := 0) (n := 0) (Nat.le_of_ble_eq_true rfl) (Nat.le_of_ble_eq_true rfl) ?_
          subst hw
          refine lv_if_eq (tgt := 74) hx hb dX11_suits_60 (by decide) (fun c_9 => ?_) (fun c_9 => ?_)
          · have c_9 : ((nI (bgN n2 n3 n4 (i + 1))) : Int32) = 0 := c_9
            have hl : lv_has ls 9 [(1, .int (nI n0)), (2, .int (nI n1)), (3, .int (nI n2)), (4, .int (nI n3)), (5, .int (nI n4)), (6, .long (suN n0 n1 n2 n3 n4 (i + 1))), (8, .int (nI (i + 1)))] := by rw [show (suN n0 n1 n2 n3 n4 (i + 1)) = (suN n0 n1 n2 n3 n4 i) from su_0b (by omega) (by omega) (by omega) (by omega) (by omega) c_9]; exact hl
            refine lv_iinc (v := (nI (i + 1 + 1))) (lv' := [(8, .int (nI (i + 1 + 1))), (1, .int (nI n0)), (2, .int (nI n1)), (3, .int (nI n2)), (4, .int (nI n3)), (5, .int (nI n4)), (6, .long (suN n0 n1 n2 n3 n4 (i + 1)))]) hx hb dX11_suits_74 hl (k := 6) rfl (nI_1 (i + 1)) (by decide) rfl (fun ls hl => ?_)
            refine lv_goto (tgt := 31) hx hb dX11_suits_77 (by decide) ?_
            exact ih (i + 1) _ _ _ ⟨by (try dsimp only); omega, hP, hD, hS, lv_sub hl [1, 2, 3, 4, 5, 6, 0] rfl⟩ (by show 60 - (i + 1) < 60 - i; omega)
          · have c_9 : ¬ (((nI (bgN n2 n3 n4 (i + 1))) : Int32) = 0) := c_9
            refine lv_lload hx hb dX11_suits_63 (lv_at hl 5 rfl) ?_
            refine lv_lconst (v := 1) hx hb dX11_suits_65 (by decide) ?_
            refine lv_iload hx hb dX11_suits_66 (lv_at hl 6 rfl) ?_
            refine lv_iconst (v := 1) hx hb dX11_suits_68 (by decide) ?_
            refine lv_isub hx hb dX11_suits_69 ?_
            refine lv_topi (fun y_10 ey_10 => ?_)
            obtain rfl : y_10 = (nI i) := ey_10.trans (nI_pred i)
            refine lv_lshl (v := ((1 : Int64) <<< ((nI i).toInt64 &&& 63))) hx hb dX11_suits_70 rfl ?_
            refine lv_lor hx hb dX11_suits_71 ?_
            refine lv_topl (fun y_11 ey_11 => ?_)
            obtain rfl : y_11 = (suN n0 n1 n2 n3 n4 (i + 1)) := ey_11.trans (su_1 (by omega) (by omega) (by omega) (by omega) (by omega) c_7 c_9)
            refine lv_lstore (lv' := [(6, .long (suN n0 n1 n2 n3 n4 (i + 1))), (1, .int (nI n0)), (2, .int (nI n1)), (3, .int (nI n2)), (4, .int (nI n3)), (5, .int (nI n4)), (8, .int (nI (i + 1)))]) hx hb dX11_suits_72 hl (by decide) rfl (fun ls hl => ?_)
            refine lv_iinc (v := (nI (i + 1 + 1))) (lv' := [(8, .int (nI (i + 1 + 1))), (6, .long (suN n0 n1 n2 n3 n4 (i + 1))), (1, .int (nI n0)), (2, .int (nI n1)), (3, .int (nI n2)), (4, .int (nI n3)), (5, .int (nI n4))]) hx hb dX11_suits_74 hl (k := 6) rfl (nI_1 (i + 1)) (by decide) rfl (fun ls hl => ?_)
            refine lv_goto (tgt := 31) hx hb dX11_suits_77 (by decide) ?_
            exact ih (i + 1) _ _ _ ⟨by (try dsimp only); omega, hP, hD, hS, lv_sub hl [2, 3, 4, 5, 6, 1, 0] rfl⟩ (by show 60 - (i + 1) < 60 - i; omega)
    · exact absurd c_4 (by decide)

set_option maxHeartbeats 4000000 in
set_option maxRecDepth 100000 in
theorem c_X12_suits_ok (l : Launch) (D : va_G) (k : KT) (sz : Nat) (h0 : Nat) (n0 n1 n2 n3 n4 : Nat) (M : List Value) (ob1 : 1 ≤ n0) (ob2 : n0 ≤ 60) (ob3 : n1 ≤ 9) (ob4 : 1 ≤ n2) (ob5 : n2 ≤ 60) (ob6 : n3 ≤ 9) (ob7 : 1 ≤ n4) (ob8 : n4 ≤ 12) : Met l yX12_suits (WS yX12_suits cX12_suits 9 (some .long)) ({ frames := 3, cells := 0, slots := 0, locals := 76 }) (va_Pc [.ref h0, .int (nI n0), .int (nI n1), .int (nI n2), .int (nI n3), .int (nI n4)] (cQ D k [(h0, .inr (12, M))] sz)) (va_Ql (fun (r : Int64) (_ : Unit) => r = (suN n0 n1 n2 n3 n4 60)) (fun (_ : Unit) t => cB D (va_A [(h0, .inr (12, M))] sz) [(h0, .inr (12, M))] t) (va_A [(h0, .inr (12, M))] sz)) 0 0 (va_A [(h0, .inr (12, M))] sz) := by
  refine Met.ofW (cc := cX12_suits) (maxL := 9) (ret := (some .long)) (by decide) rfl ?_
  intro p e s m args below meth c s₁ B hml hv
  obtain ⟨rfl, hsz, hP, hKX, hD0⟩ := hv
  have hK := hKX.1
  have hx := B.exec
  have hb := B.bytes
  have hr := B.returns
  have hts := atoms_spec (ws := WS yX12_suits cX12_suits 9 (some .long)) B.pre
  have hgd : ∀ w ∈ gd, w ∈ WS yX12_suits cX12_suits 9 (some .long) := fun w h => List.mem_cons_of_mem _ h
  have hg : ∀ w ∈ gd, w.before _ s = true := fun w h => hts w (hgd w h)
  have hown : s.vm.findClass RX12 = some m.cls := findClass_of_methodNamed B.named
  have hlocks := B.notSynchronized
  subst hsz
  have hD := hD0.self (sz := s.heap.size)
  generalize hAe : va_A [(h0, .inr (12, M))] s.heap.size = A at hD ⊢
  have hA : ∀ q : Nat, s.heap.size ≤ q → A q := fun q h => by rw [← hAe]; exact Or.inr h
  have hS : va_S A s.heap s.heap [] := va_S.rf
  have hP : va_P D classes [(h0, .inr (12, M))] s.heap := hP
  have hl := lv_entry ([.ref h0, .int (nI n0), .int (nI n1), .int (nI n2), .int (nI n3), .int (nI n4)]) (n := 9) (Nat.le_of_ble_eq_true rfl)
  rw [lg_entry_eq]
  generalize (lg_sl ([.ref h0, .int (nI n0), .int (nI n1), .int (nI n2), .int (nI n3), .int (nI n4)]) ++ List.replicate (9 - (lg_sl ([.ref h0, .int (nI n0), .int (nI n1), .int (nI n2), .int (nI n3), .int (nI n4)])).length) Slot.unset).toArray = ls at hl ⊢
  have hl : lv_has ls 9 [(0, .ref h0), (1, .int (nI n0)), (2, .int (nI n1)), (3, .int (nI n2)), (4, .int (nI n3)), (5, .int (nI n4))] := hl
  refine lv_iload_n hx hb dX12_suits_0 rfl (lv_at hl 1 rfl) ?_
  refine lv_iload_n hx hb dX12_suits_1 rfl (lv_at hl 2 rfl) ?_
  refine lv_iload hx hb dX12_suits_2 (lv_at hl 5 rfl) ?_
  have hPc := hP.sub (ws' := []) [] rfl
  have hDc := hD.sub (ws' := []) [] (by decide) rfl
  have hFc := va_free (wc := []) hD hS hA [] rfl
  refine va_calli (va_runS (As := [.int (nI n0), .int (nI n1), .int (nI n4)]) (rest := []) ⟨hx, hb, hml, hown, hts⟩ (c_slabs_ok l D k s.heap.size n0 n1 n4 (by omega) (by omega) (by omega) (by omega) (by omega)) (va_cwS 3 hts (gd_S hgd m1907 m1908 m131 m1909) rfl rfl rfl (by decide +kernel) ⟨Nat.le_of_ble_eq_true rfl, Nat.le_of_ble_eq_true rfl⟩) (cQ_S hPc hKX hDc) rfl rfl hl.1 rfl (lv_room (Nat.le_of_ble_eq_true rfl)) dX12_suits_4 ⟨Nat.le_of_ble_eq_true rfl, Nat.le_of_ble_eq_true rfl⟩) hS (fun q _ h => hFc q h) hFc (fun r_1 u t H1 locs ht hvm hw hB hz1 hk1 hS => ?_)
  obtain ⟨hP1, hD1⟩ := hB
  rw [ht] at hP1
  obtain ⟨hP, hD⟩ := va_join (wr := [(h0, .inr (12, M))]) (w1 := []) hP hD [] [0] rfl rfl (by decide) (by decide) hk1 hFc hP1 hD1
  generalize H1 = H at hP hS ⊢
  have hP : va_P D classes [(h0, .inr (12, M))] H := hP
  have hD : va_D A [(h0, .inr (12, M))] := hD
  refine W.widen (k := 0) (n := 0) (Nat.le_of_ble_eq_true rfl) (Nat.le_of_ble_eq_true rfl) ?_
  subst hw
  refine lv_if_eq (tgt := 21) hx hb dX12_suits_7 (by decide) (fun c_2 => ?_) (fun c_2 => ?_)
  · exact absurd c_2 (by decide)
  · have c_2 : ¬ ((1 : Int32) = 0) := c_2
    refine lv_iload_n hx hb dX12_suits_10 rfl (lv_at hl 3 rfl) ?_
    refine lv_iload hx hb dX12_suits_11 (lv_at hl 4 rfl) ?_
    refine lv_iload hx hb dX12_suits_13 (lv_at hl 5 rfl) ?_
    have hPc := hP.sub (ws' := []) [] rfl
    have hDc := hD.sub (ws' := []) [] (by decide) rfl
    have hFc := va_free (wc := []) hD hS hA [] rfl
    refine va_calli (va_runS (As := [.int (nI n2), .int (nI n3), .int (nI n4)]) (rest := []) ⟨hx, hb, hml, hown, hts⟩ (c_slabs_ok l D k H.size n2 n3 n4 (by omega) (by omega) (by omega) (by omega) (by omega)) (va_cwS 3 hts (gd_S hgd m1907 m1908 m131 m1909) rfl rfl rfl (by decide +kernel) ⟨Nat.le_of_ble_eq_true rfl, Nat.le_of_ble_eq_true rfl⟩) (cQ_S hPc hKX hDc) rfl rfl hl.1 rfl (lv_room (Nat.le_of_ble_eq_true rfl)) dX12_suits_15 ⟨Nat.le_of_ble_eq_true rfl, Nat.le_of_ble_eq_true rfl⟩) hS (fun q _ h => hFc q h) hFc (fun r_3 u t H1 locs ht hvm hw hB hz1 hk1 hS => ?_)
    obtain ⟨hP1, hD1⟩ := hB
    rw [ht] at hP1
    obtain ⟨hP, hD⟩ := va_join (wr := [(h0, .inr (12, M))]) (w1 := []) hP hD [] [0] rfl rfl (by decide) (by decide) hk1 hFc hP1 hD1
    generalize H1 = H at hP hS ⊢
    have hP : va_P D classes [(h0, .inr (12, M))] H := hP
    have hD : va_D A [(h0, .inr (12, M))] := hD
    refine W.widen (k := 0) (n := 0) (Nat.le_of_ble_eq_true rfl) (Nat.le_of_ble_eq_true rfl) ?_
    subst hw
    refine lv_if_ne (tgt := 25) hx hb dX12_suits_18 (by decide) (fun c_4 => ?_) (fun c_4 => ?_)
    · have c_4 : ¬ ((1 : Int32) = 0) := c_4
      refine lv_lconst (v := 0) hx hb dX12_suits_25 (by decide) ?_
      refine lv_lstore (lv' := [(6, .long 0), (0, .ref h0), (1, .int (nI n0)), (2, .int (nI n1)), (3, .int (nI n2)), (4, .int (nI n3)), (5, .int (nI n4))]) hx hb dX12_suits_26 hl (by decide) rfl (fun ls hl => ?_)
      refine lv_iconst (v := 1) hx hb dX12_suits_28 (by decide) ?_
      refine lv_istore (lv' := [(8, .int 1), (6, .long 0), (0, .ref h0), (1, .int (nI n0)), (2, .int (nI n1)), (3, .int (nI n2)), (4, .int (nI n3)), (5, .int (nI n4))]) hx hb dX12_suits_29 hl (by decide) rfl (fun ls hl => ?_)
      refine loop_W (σ := Nat) (fun i H locs ls => (i ≤ 60) ∧ va_P D classes [(h0, .inr (12, M))] H ∧ va_D A [(h0, .inr (12, M))] ∧ va_S A s.heap H locs ∧ lv_has ls 9 [(1, .int (nI n0)), (2, .int (nI n1)), (3, .int (nI n2)), (4, .int (nI n3)), (5, .int (nI n4)), (6, .long (suN n0 n1 n2 n3 n4 i)), (8, .int (nI (i + 1)))]) (fun i => 60 - i) (fun i H locs ls hI ih => ?_) 0 _ _ ls ⟨Nat.zero_le _, hP, hD, hS, lv_sub hl [3, 4, 5, 6, 7, 1, 0] rfl⟩
      obtain ⟨hi, hP, hD, hS, hl⟩ := hI
      have hi : i ≤ 60 := hi
      have hl : lv_has ls 9 [(1, .int (nI n0)), (2, .int (nI n1)), (3, .int (nI n2)), (4, .int (nI n3)), (5, .int (nI n4)), (6, .long (suN n0 n1 n2 n3 n4 i)), (8, .int (nI (i + 1)))] := hl
      refine lv_iload hx hb dX12_suits_31 (lv_at hl 6 rfl) ?_
      refine lv_bipush (v := 60) hx hb dX12_suits_33 (by decide) ?_
      refine lv_icmp_gt (tgt := 80) hx hb dX12_suits_35 (by decide) (fun c_5 => ?_) (fun c_5 => ?_)
      · have c_5 : (60 : Int32) < (nI (i + 1)) := c_5
        have hin : i = 60 := by have := (nI_ltI (a := 60) (b := i + 1) (by omega) (by omega)).mp c_5; omega
        refine lv_lload hx hb dX12_suits_80 (lv_at hl 5 rfl) ?_
        have hP9 := hP.sub (ws' := [(h0, .inr (12, M))]) [0] rfl
        have hD9 := hD.sub (ws' := [(h0, .inr (12, M))]) [0] (by decide) rfl
        exact W.lret (v := (suN n0 n1 n2 n3 n4 i)) hx hb hr (fun t ht hW => ⟨⟨(suN n0 n1 n2 n3 n4 i), (), rfl, by rw [hin], cB_of ht hP9 hD9⟩, hS.F ht⟩) hS.2.2 dX12_suits_82
      · have c_5 : ¬ ((60 : Int32) < (nI (i + 1))) := c_5
        have hlt : i < 60 := by have := n_nlt (a := 60) (b := i + 1) (by omega) (by omega) c_5; omega
        refine lv_iload_n hx hb dX12_suits_38 rfl (lv_at hl 0 rfl) ?_
        refine lv_iload_n hx hb dX12_suits_39 rfl (lv_at hl 1 rfl) ?_
        refine lv_iload hx hb dX12_suits_40 (lv_at hl 4 rfl) ?_
        refine lv_iload hx hb dX12_suits_42 (lv_at hl 6 rfl) ?_
        have hPc := hP.sub (ws' := []) [] rfl
        have hDc := hD.sub (ws' := []) [] (by decide) rfl
        have hFc := va_free (wc := []) hD hS hA [] rfl
        refine va_calli (va_runS (As := [.int (nI n0), .int (nI n1), .int (nI n4), .int (nI (i + 1))]) (rest := []) ⟨hx, hb, hml, hown, hts⟩ (c_beginOf l D k H.size n0 n1 n4 (i + 1) (by omega) (by omega) (by omega) (by omega) (by omega) (by omega) (by omega)) (va_cwS 4 hts (gd_S hgd m1920 m1921 m131 m1922) rfl rfl rfl (by decide +kernel) ⟨Nat.le_of_ble_eq_true rfl, Nat.le_of_ble_eq_true rfl⟩) (cQ_S hPc hKX hDc) rfl rfl hl.1 rfl (lv_room (Nat.le_of_ble_eq_true rfl)) dX12_suits_44 ⟨Nat.le_of_ble_eq_true rfl, Nat.le_of_ble_eq_true rfl⟩) hS (fun q _ h => hFc q h) hFc (fun r_6 u t H1 locs ht hvm hw hB hz1 hk1 hS => ?_)
        obtain ⟨hP1, hD1⟩ := hB
        rw [ht] at hP1
        obtain ⟨hP, hD⟩ := va_join (wr := [(h0, .inr (12, M))]) (w1 := []) hP hD [] [0] rfl rfl (by decide) (by decide) hk1 hFc hP1 hD1
        generalize H1 = H at hP hS ⊢
        have hP : va_P D classes [(h0, .inr (12, M))] H := hP
        have hD : va_D A [(h0, .inr (12, M))] := hD
        refine W.widen (k := 0) (n := 0) (Nat.le_of_ble_eq_true rfl) (Nat.le_of_ble_eq_true rfl) ?_
        subst hw
        refine lv_if_le (tgt := 74) hx hb dX12_suits_47 (by decide) (fun c_7 => ?_) (fun c_7 => ?_)
        · have c_7 : ((nI (bgN n0 n1 n4 (i + 1))) : Int32) ≤ 0 := c_7
          have hl : lv_has ls 9 [(1, .int (nI n0)), (2, .int (nI n1)), (3, .int (nI n2)), (4, .int (nI n3)), (5, .int (nI n4)), (6, .long (suN n0 n1 n2 n3 n4 (i + 1))), (8, .int (nI (i + 1)))] := by rw [show (suN n0 n1 n2 n3 n4 (i + 1)) = (suN n0 n1 n2 n3 n4 i) from su_0al (by omega) (by omega) (by omega) (by omega) (by omega) c_7]; exact hl
          refine lv_iinc (v := (nI (i + 1 + 1))) (lv' := [(8, .int (nI (i + 1 + 1))), (1, .int (nI n0)), (2, .int (nI n1)), (3, .int (nI n2)), (4, .int (nI n3)), (5, .int (nI n4)), (6, .long (suN n0 n1 n2 n3 n4 (i + 1)))]) hx hb dX12_suits_74 hl (k := 6) rfl (nI_1 (i + 1)) (by decide) rfl (fun ls hl => ?_)
          refine lv_goto (tgt := 31) hx hb dX12_suits_77 (by decide) ?_
          exact ih (i + 1) _ _ _ ⟨by (try dsimp only); omega, hP, hD, hS, lv_sub hl [1, 2, 3, 4, 5, 6, 0] rfl⟩ (by show 60 - (i + 1) < 60 - i; omega)
        · have c_7 : ¬ (((nI (bgN n0 n1 n4 (i + 1))) : Int32) ≤ 0) := c_7
          refine lv_iload_n hx hb dX12_suits_50 rfl (lv_at hl 2 rfl) ?_
          refine lv_iload hx hb dX12_suits_51 (lv_at hl 3 rfl) ?_
          refine lv_iload hx hb dX12_suits_53 (lv_at hl 4 rfl) ?_
          refine lv_iload hx hb dX12_suits_55 (lv_at hl 6 rfl) ?_
          have hPc := hP.sub (ws' := []) [] rfl
          have hDc := hD.sub (ws' := []) [] (by decide) rfl
          have hFc := va_free (wc := []) hD hS hA [] rfl
          refine va_calli (va_runS (As := [.int (nI n2), .int (nI n3), .int (nI n4), .int (nI (i + 1))]) (rest := []) ⟨hx, hb, hml, hown, hts⟩ (c_beginOf l D k H.size n2 n3 n4 (i + 1) (by omega) (by omega) (by omega) (by omega) (by omega) (by omega) (by omega)) (va_cwS 4 hts (gd_S hgd m1920 m1921 m131 m1922) rfl rfl rfl (by decide +kernel) ⟨Nat.le_of_ble_eq_true rfl, Nat.le_of_ble_eq_true rfl⟩) (cQ_S hPc hKX hDc) rfl rfl hl.1 rfl (lv_room (Nat.le_of_ble_eq_true rfl)) dX12_suits_57 ⟨Nat.le_of_ble_eq_true rfl, Nat.le_of_ble_eq_true rfl⟩) hS (fun q _ h => hFc q h) hFc (fun r_8 u t H1 locs ht hvm hw hB hz1 hk1 hS => ?_)
          obtain ⟨hP1, hD1⟩ := hB
          rw [ht] at hP1
          obtain ⟨hP, hD⟩ := va_join (wr := [(h0, .inr (12, M))]) (w1 := []) hP hD [] [0] rfl rfl (by decide) (by decide) hk1 hFc hP1 hD1
          generalize H1 = H at hP hS ⊢
          have hP : va_P D classes [(h0, .inr (12, M))] H := hP
          have hD : va_D A [(h0, .inr (12, M))] := hD
          refine W.widen (k := 0) (n := 0) (Nat.le_of_ble_eq_true rfl) (Nat.le_of_ble_eq_true rfl) ?_
          subst hw
          refine lv_if_le (tgt := 74) hx hb dX12_suits_60 (by decide) (fun c_9 => ?_) (fun c_9 => ?_)
          · have c_9 : ((nI (bgN n2 n3 n4 (i + 1))) : Int32) ≤ 0 := c_9
            have hl : lv_has ls 9 [(1, .int (nI n0)), (2, .int (nI n1)), (3, .int (nI n2)), (4, .int (nI n3)), (5, .int (nI n4)), (6, .long (suN n0 n1 n2 n3 n4 (i + 1))), (8, .int (nI (i + 1)))] := by rw [show (suN n0 n1 n2 n3 n4 (i + 1)) = (suN n0 n1 n2 n3 n4 i) from su_0bl (by omega) (by omega) (by omega) (by omega) (by omega) c_9]; exact hl
            refine lv_iinc (v := (nI (i + 1 + 1))) (lv' := [(8, .int (nI (i + 1 + 1))), (1, .int (nI n0)), (2, .int (nI n1)), (3, .int (nI n2)), (4, .int (nI n3)), (5, .int (nI n4)), (6, .long (suN n0 n1 n2 n3 n4 (i + 1)))]) hx hb dX12_suits_74 hl (k := 6) rfl (nI_1 (i + 1)) (by decide) rfl (fun ls hl => ?_)
            refine lv_goto (tgt := 31) hx hb dX12_suits_77 (by decide) ?_
            exact ih (i + 1) _ _ _ ⟨by (try dsimp only); omega, hP, hD, hS, lv_sub hl [1, 2, 3, 4, 5, 6, 0] rfl⟩ (by show 60 - (i + 1) < 60 - i; omega)
          · have c_9 : ¬ (((nI (bgN n2 n3 n4 (i + 1))) : Int32) ≤ 0) := c_9
            refine lv_lload hx hb dX12_suits_63 (lv_at hl 5 rfl) ?_
            refine lv_lconst (v := 1) hx hb dX12_suits_65 (by decide) ?_
            refine lv_iload hx hb dX12_suits_66 (lv_at hl 6 rfl) ?_
            refine lv_iconst (v := 1) hx hb dX12_suits_68 (by decide) ?_
            refine lv_isub hx hb dX12_suits_69 ?_
            refine lv_topi (fun y_10 ey_10 => ?_)
            obtain rfl : y_10 = (nI i) := ey_10.trans (nI_pred i)
            refine lv_lshl (v := ((1 : Int64) <<< ((nI i).toInt64 &&& 63))) hx hb dX12_suits_70 rfl ?_
            refine lv_lor hx hb dX12_suits_71 ?_
            refine lv_topl (fun y_11 ey_11 => ?_)
            obtain rfl : y_11 = (suN n0 n1 n2 n3 n4 (i + 1)) := ey_11.trans (su_1l (by omega) (by omega) (by omega) (by omega) (by omega) c_7 c_9)
            refine lv_lstore (lv' := [(6, .long (suN n0 n1 n2 n3 n4 (i + 1))), (1, .int (nI n0)), (2, .int (nI n1)), (3, .int (nI n2)), (4, .int (nI n3)), (5, .int (nI n4)), (8, .int (nI (i + 1)))]) hx hb dX12_suits_72 hl (by decide) rfl (fun ls hl => ?_)
            refine lv_iinc (v := (nI (i + 1 + 1))) (lv' := [(8, .int (nI (i + 1 + 1))), (6, .long (suN n0 n1 n2 n3 n4 (i + 1))), (1, .int (nI n0)), (2, .int (nI n1)), (3, .int (nI n2)), (4, .int (nI n3)), (5, .int (nI n4))]) hx hb dX12_suits_74 hl (k := 6) rfl (nI_1 (i + 1)) (by decide) rfl (fun ls hl => ?_)
            refine lv_goto (tgt := 31) hx hb dX12_suits_77 (by decide) ?_
            exact ih (i + 1) _ _ _ ⟨by (try dsimp only); omega, hP, hD, hS, lv_sub hl [2, 3, 4, 5, 6, 1, 0] rfl⟩ (by show 60 - (i + 1) < 60 - i; omega)
    · exact absurd c_4 (by decide)
