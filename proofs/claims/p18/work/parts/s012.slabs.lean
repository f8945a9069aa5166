

set_option maxHeartbeats 4000000 in
set_option maxRecDepth 100000 in
theorem c_beginnings (l : Launch) (D : va_G) (k : KT) (sz : Nat) (n0 n1 n2 n3 : Nat) (ob1 : 1 ≤ n0) (ob2 : n0 ≤ 60) (ob3 : n1 ≤ 9) (ob4 : 1 ≤ n2) (ob5 : n2 ≤ 12) (ob6 : 1 ≤ n3) (ob7 : n3 ≤ 99) : Met l yX11_beginnings (WS yX11_beginnings cX11_beginnings 6 (some .int)) ({ frames := 1, cells := 0, slots := 0, locals := 26 }) (va_Pc [.int (nI n0), .int (nI n1), .int (nI n2), .int (nI n3)] (cQ D k [] sz)) (va_Qi (fun (r : Int32) (_ : Unit) => r = (nI (bgN n0 n1 n2 n3))) (fun (_ : Unit) t => cB D (va_A [] sz) [] t) (va_A [] sz)) 0 0 (va_A [] sz) := by
  refine Met.ofW (cc := cX11_beginnings) (maxL := 6) (ret := (some .int)) (by decide) rfl ?_
  intro p e s m args below meth c s₁ B hml hv
  obtain ⟨rfl, hsz, hP, hKX, hD0⟩ := hv
  have hK := hKX.1
  have hx := B.exec
  have hb := B.bytes
  have hr := B.returns
  have hts := atoms_spec (ws := WS yX11_beginnings cX11_beginnings 6 (some .int)) B.pre
  have hgd : ∀ w ∈ gd, w ∈ WS yX11_beginnings cX11_beginnings 6 (some .int) := fun w h => List.mem_cons_of_mem _ h
  have hg : ∀ w ∈ gd, w.before _ s = true := fun w h => hts w (hgd w h)
  have hown : s.vm.findClass RX11 = some m.cls := findClass_of_methodNamed B.named
  have hlocks := B.notSynchronized
  subst hsz
  have hD := hD0.self (sz := s.heap.size)
  generalize hAe : va_A [] s.heap.size = A at hD ⊢
  have hA : ∀ q : Nat, s.heap.size ≤ q → A q := fun q h => by rw [← hAe]; exact Or.inr h
  have hS : va_S A s.heap s.heap [] := va_S.rf
  have hP : va_P D classes [] s.heap := hP
  have hl := lv_entry ([.int (nI n0), .int (nI n1), .int (nI n2), .int (nI n3)]) (n := 6) (Nat.le_of_ble_eq_true rfl)
  rw [lg_entry_eq]
  generalize (lg_sl ([.int (nI n0), .int (nI n1), .int (nI n2), .int (nI n3)]) ++ List.replicate (6 - (lg_sl ([.int (nI n0), .int (nI n1), .int (nI n2), .int (nI n3)])).length) Slot.unset).toArray = ls at hl ⊢
  have hl : lv_has ls 6 [(0, .int (nI n0)), (1, .int (nI n1)), (2, .int (nI n2)), (3, .int (nI n3))] := hl
  refine lv_iload_n hx hb dX11_beginnings_0 rfl (lv_at hl 0 rfl) ?_
  refine lv_iload_n hx hb dX11_beginnings_1 rfl (lv_at hl 1 rfl) ?_
  refine lv_iadd hx hb dX11_beginnings_2 ?_
  refine lv_topi (fun y_1 ey_1 => ?_)
  obtain rfl : y_1 = (nI (n0 + n1)) := ey_1.trans (nI_add _ _)
  refine lv_istore (lv' := [(4, .int (nI (n0 + n1))), (0, .int (nI n0)), (1, .int (nI n1)), (2, .int (nI n2)), (3, .int (nI n3))]) hx hb dX11_beginnings_3 hl (by decide) rfl (fun ls hl => ?_)
  refine lv_iload hx hb dX11_beginnings_5 (lv_at hl 0 rfl) ?_
  refine lv_i2l (v := ((nI (n0 + n1)).toInt64)) hx hb dX11_beginnings_7 rfl ?_
  refine lv_topl (fun y_2 ey_2 => ?_)
  obtain rfl : y_2 = (lN (n0 + n1)) := ey_2.trans (nI_l (by omega))
  refine lv_iload_n hx hb dX11_beginnings_8 rfl (lv_at hl 4 rfl) ?_
  refine lv_i2l (v := ((nI n3).toInt64)) hx hb dX11_beginnings_9 rfl ?_
  refine lv_topl (fun y_3 ey_3 => ?_)
  obtain rfl : y_3 = (lN n3) := ey_3.trans (nI_l (by omega))
  have hPc := hP.sub (ws' := []) [] rfl
  have hDc := hD.sub (ws' := []) [] (by decide) rfl
  have hFc := va_free (wc := []) hD hS hA [] rfl
  refine va_calll (va_runS (As := [.long (lN (n0 + n1)), .long (lN n3)]) (rest := []) ⟨hx, hb, hml, hown, hts⟩ (c_gcd l D k s.heap.size (n0 + n1) n3 (by omega) (by omega)) (va_cwS 2 hts (gd_S hgd m1079 m1080 m117 m1081) rfl rfl rfl (by decide +kernel) ⟨Nat.le_of_ble_eq_true rfl, Nat.le_of_ble_eq_true rfl⟩) (cQ_S hPc hKX hDc) rfl rfl hl.1 rfl (lv_room (Nat.le_of_ble_eq_true rfl)) dX11_beginnings_10 ⟨Nat.le_of_ble_eq_true rfl, Nat.le_of_ble_eq_true rfl⟩) hS (fun q _ h => hFc q h) hFc (fun r_4 u t H1 locs ht hvm hw hB hz1 hk1 hS => ?_)
  obtain ⟨hP1, hD1⟩ := hB
  rw [ht] at hP1
  obtain ⟨hP, hD⟩ := va_join (wr := []) (w1 := []) hP hD [] [] rfl rfl (by decide) (by decide) hk1 hFc hP1 hD1
  generalize H1 = H at hP hS ⊢
  have hP : va_P D classes [] H := hP
  have hD : va_D A [] := hD
  refine W.widen (k := 0) (n := 0) (Nat.le_of_ble_eq_true rfl) (Nat.le_of_ble_eq_true rfl) ?_
  subst hw
  refine lv_l2i (v := (lN (Nat.gcd (n0 + n1) n3)).toInt32) hx hb dX11_beginnings_13 rfl ?_
  refine lv_topi (fun y_5 ey_5 => ?_)
  obtain rfl : y_5 = (nI (Nat.gcd (n0 + n1) n3)) := ey_5.trans (lN_i _)
  have hg0 : 0 < (Nat.gcd (n0 + n1) n3) := Nat.gcd_pos_of_pos_right _ (by omega)
  have hg2 : (Nat.gcd (n0 + n1) n3) ≤ 99 := Nat.le_trans (Nat.gcd_le_right _ (by omega)) (by omega)
  have hg1 : (Nat.gcd (n0 + n1) n3) < 2 ^ 31 := by omega
  refine lv_istore (lv' := [(5, .int (nI (Nat.gcd (n0 + n1) n3))), (4, .int (nI (n0 + n1))), (0, .int (nI n0)), (1, .int (nI n1)), (2, .int (nI n2)), (3, .int (nI n3))]) hx hb dX11_beginnings_14 hl (by decide) rfl (fun ls hl => ?_)
  refine lv_iload_n hx hb dX11_beginnings_16 rfl (lv_at hl 3 rfl) ?_
  refine lv_if_eq (tgt := 25) hx hb dX11_beginnings_17 (by decide) (fun c_6 => ?_) (fun c_6 => ?_)
  · have c_6 : ((nI n1) : Int32) = 0 := c_6
    refine lv_iload hx hb dX11_beginnings_25 (lv_at hl 1 rfl) ?_
    have hP9 := hP.sub (ws' := []) [] rfl
    have hD9 := hD.sub (ws' := []) [] (by decide) rfl
    exact W.iret (v := (nI (n0 + n1))) hx hb hr (fun t ht hW => ⟨⟨(nI (n0 + n1)), (), rfl, by rw [bgN, if_pos (nI_z (by omega) c_6)], cB_of ht hP9 hD9⟩, hS.F ht⟩) hS.2.2 dX11_beginnings_27
  · have c_6 : ¬ (((nI n1) : Int32) = 0) := c_6
    refine lv_iload hx hb dX11_beginnings_20 (lv_at hl 0 rfl) ?_
    refine lv_if_ne (tgt := 28) hx hb dX11_beginnings_22 (by decide) (fun c_7 => ?_) (fun c_7 => ?_)
    · have c_7 : ¬ (((nI (Nat.gcd (n0 + n1) n3)) : Int32) = 0) := c_7
      refine lv_iconst (v := 0) hx hb dX11_beginnings_28 (by decide) ?_
      refine lv_iload hx hb dX11_beginnings_29 (lv_at hl 0 rfl) ?_
      refine lv_iload_n hx hb dX11_beginnings_31 rfl (lv_at hl 3 rfl) ?_
      refine lv_isub hx hb dX11_beginnings_32 ?_
      refine lv_iload_n hx hb dX11_beginnings_33 rfl (lv_at hl 4 rfl) ?_
      refine lv_isub hx hb dX11_beginnings_34 ?_
      refine lv_iconst (v := 1) hx hb dX11_beginnings_35 (by decide) ?_
      refine lv_iadd hx hb dX11_beginnings_36 ?_
      refine va_mmax hx hb (by rw [hml]; exact hl.1.symm) hown (hg (Cond.methodLink RX11 368 Lib.Math.max.name) m1082) (hg (Cond.static Lib.Math.max.name) m728) (hg (Cond.initialized "java/lang/Math") m132) (hg (Cond.code Lib.Math.max.name Lib.Math.max.code 2 (some .int)) m729) (Nat.le_of_ble_eq_true rfl) (Nat.le_of_ble_eq_true rfl) (Nat.le_of_ble_eq_true rfl) (Nat.le_of_ble_eq_true rfl) dX11_beginnings_37 ?_
      refine lv_iload hx hb dX11_beginnings_40 (lv_at hl 1 rfl) ?_
      refine lv_iload hx hb dX11_beginnings_42 (lv_at hl 0 rfl) ?_
      refine lv_idiv hx hb dX11_beginnings_44 (nI_ne0 hg0 hg1) ?_
      refine lv_imul hx hb dX11_beginnings_45 ?_
      refine lv_topi (fun y_8 ey_8 => ?_)
      obtain rfl : y_8 = (nI (bgN n0 n1 n2 n3)) := ey_8.trans (bg_fin hg0 hg2 (by omega) (by omega) c_6)
      have hP9 := hP.sub (ws' := []) [] rfl
      have hD9 := hD.sub (ws' := []) [] (by decide) rfl
      exact W.iret (v := (nI (bgN n0 n1 n2 n3))) hx hb hr (fun t ht hW => ⟨⟨(nI (bgN n0 n1 n2 n3)), (), rfl, rfl, cB_of ht hP9 hD9⟩, hS.F ht⟩) hS.2.2 dX11_beginnings_46
    · exact absurd c_7 (nI_ne0 hg0 hg1)

set_option maxHeartbeats 4000000 in
set_option maxRecDepth 100000 in
theorem c_X11_begin_bad (l : Launch) (D : va_G) (k : KT) (sz : Nat) (h0 : Nat) (p0 p1 p2 p3 : Int32) (F : List Value) (hbad : ¬ (¬ s_endless p0 p1 p2 = 0 ∧ ¬ (p3 < 1) ∧ ¬ (99 < p3))) : Met l yX11_begin (WS yX11_begin cX11_begin 5 (some .int)) ({ frames := 1, cells := 0, slots := 0, locals := 22 }) (va_Pc [.ref h0, .int p0, .int p1, .int p2, .int p3] (cQ D k [(h0, .inr (11, F))] sz)) (va_Qi (fun (r : Int32) (_ : Unit) => r = (-1)) (fun (_ : Unit) t => cB D (va_A [(h0, .inr (11, F))] sz) [(h0, .inr (11, F))] t) (va_A [(h0, .inr (11, F))] sz)) 0 0 (va_A [(h0, .inr (11, F))] sz) := by
  refine Met.ofW (cc := cX11_begin) (maxL := 5) (ret := (some .int)) (by decide) rfl ?_
  intro p e s m args below meth c s₁ B hml hv
  obtain ⟨rfl, hsz, hP, hKX, hD0⟩ := hv
  have hK := hKX.1
  have hx := B.exec
  have hb := B.bytes
  have hr := B.returns
  have hts := atoms_spec (ws := WS yX11_begin cX11_begin 5 (some .int)) B.pre
  have hgd : ∀ w ∈ gd, w ∈ WS yX11_begin cX11_begin 5 (some .int) := fun w h => List.mem_cons_of_mem _ h
  have hg : ∀ w ∈ gd, w.before _ s = true := fun w h => hts w (hgd w h)
  have hown : s.vm.findClass RX11 = some m.cls := findClass_of_methodNamed B.named
  have hlocks := B.notSynchronized
  subst hsz
  have hD := hD0.self (sz := s.heap.size)
  generalize hAe : va_A [(h0, .inr (11, F))] s.heap.size = A at hD ⊢
  have hA : ∀ q : Nat, s.heap.size ≤ q → A q := fun q h => by rw [← hAe]; exact Or.inr h
  have hS : va_S A s.heap s.heap [] := va_S.rf
  have hP : va_P D classes [(h0, .inr (11, F))] s.heap := hP
  have hl := lv_entry ([.ref h0, .int p0, .int p1, .int p2, .int p3]) (n := 5) (Nat.le_of_ble_eq_true rfl)
  rw [lg_entry_eq]
  generalize (lg_sl ([.ref h0, .int p0, .int p1, .int p2, .int p3]) ++ List.replicate (5 - (lg_sl ([.ref h0, .int p0, .int p1, .int p2, .int p3])).length) Slot.unset).toArray = ls at hl ⊢
  have hl : lv_has ls 5 [(0, .ref h0), (1, .int p0), (2, .int p1), (3, .int p2), (4, .int p3)] := hl
  refine lv_iload_n hx hb dX11_begin_0 rfl (lv_at hl 1 rfl) ?_
  refine lv_iload_n hx hb dX11_begin_1 rfl (lv_at hl 2 rfl) ?_
  refine lv_iload_n hx hb dX11_begin_2 rfl (lv_at hl 3 rfl) ?_
  have hPc := hP.sub (ws' := []) [] rfl
  have hDc := hD.sub (ws' := []) [] (by decide) rfl
  have hFc := va_free (wc := []) hD hS hA [] rfl
  refine va_calli (va_runS (As := [.int p0, .int p1, .int p2]) (rest := []) ⟨hx, hb, hml, hown, hts⟩ (c_endless l D k s.heap.size p0 p1 p2 ) (va_cwS 3 hts (gd_S hgd m1069 m1070 m117 m1071) rfl rfl rfl (by decide +kernel) ⟨Nat.le_of_ble_eq_true rfl, Nat.le_of_ble_eq_true rfl⟩) (cQ_S hPc hKX hDc) rfl rfl hl.1 rfl (lv_room (Nat.le_of_ble_eq_true rfl)) dX11_begin_3 ⟨Nat.le_of_ble_eq_true rfl, Nat.le_of_ble_eq_true rfl⟩) hS (fun q _ h => hFc q h) hFc (fun r_1 u t H1 locs ht hvm hw hB hz1 hk1 hS => ?_)
  obtain ⟨hP1, hD1⟩ := hB
  rw [ht] at hP1
  obtain ⟨hP, hD⟩ := va_join (wr := [(h0, .inr (11, F))]) (w1 := []) hP hD [] [0] rfl rfl (by decide) (by decide) hk1 hFc hP1 hD1
  generalize H1 = H at hP hS ⊢
  have hP : va_P D classes [(h0, .inr (11, F))] H := hP
  have hD : va_D A [(h0, .inr (11, F))] := hD
  refine W.widen (k := 0) (n := 0) (Nat.le_of_ble_eq_true rfl) (Nat.le_of_ble_eq_true rfl) ?_
  have h_2 := hw
  refine lv_if_eq (tgt := 22) hx hb dX11_begin_6 (by decide) (fun c_3 => ?_) (fun c_3 => ?_)
  · have c_3 : (r_1 : Int32) = 0 := c_3
    refine lv_iconst (v := (-1)) hx hb dX11_begin_22 (by decide) ?_
    have hP9 := hP.sub (ws' := [(h0, .inr (11, F))]) [0] rfl
    have hD9 := hD.sub (ws' := [(h0, .inr (11, F))]) [0] (by decide) rfl
    exact W.iret (v := (-1)) hx hb hr (fun t ht hW => ⟨⟨(-1), (), rfl, rfl, cB_of ht hP9 hD9⟩, hS.F ht⟩) hS.2.2 dX11_begin_23
  · have c_3 : ¬ ((r_1 : Int32) = 0) := c_3
    refine lv_iload hx hb dX11_begin_9 (lv_at hl 4 rfl) ?_
    refine lv_iconst (v := 1) hx hb dX11_begin_11 (by decide) ?_
    refine lv_icmp_lt (tgt := 22) hx hb dX11_begin_12 (by decide) (fun c_4 => ?_) (fun c_4 => ?_)
    · have c_4 : (p3 : Int32) < 1 := c_4
      refine lv_iconst (v := (-1)) hx hb dX11_begin_22 (by decide) ?_
      have hP9 := hP.sub (ws' := [(h0, .inr (11, F))]) [0] rfl
      have hD9 := hD.sub (ws' := [(h0, .inr (11, F))]) [0] (by decide) rfl
      exact W.iret (v := (-1)) hx hb hr (fun t ht hW => ⟨⟨(-1), (), rfl, rfl, cB_of ht hP9 hD9⟩, hS.F ht⟩) hS.2.2 dX11_begin_23
    · have c_4 : ¬ ((p3 : Int32) < 1) := c_4
      refine lv_iload hx hb dX11_begin_15 (lv_at hl 4 rfl) ?_
      refine lv_bipush (v := 99) hx hb dX11_begin_17 (by decide) ?_
      refine lv_icmp_le (tgt := 24) hx hb dX11_begin_19 (by decide) (fun c_5 => ?_) (fun c_5 => ?_)
      · have c_5 : (p3 : Int32) ≤ 99 := c_5
        exact absurd ⟨(fun q => c_3 (h_2.trans q)), c_4, Int32.not_lt.mpr c_5⟩ hbad
      · have c_5 : ¬ ((p3 : Int32) ≤ 99) := c_5
        refine lv_iconst (v := (-1)) hx hb dX11_begin_22 (by decide) ?_
        have hP9 := hP.sub (ws' := [(h0, .inr (11, F))]) [0] rfl
        have hD9 := hD.sub (ws' := [(h0, .inr (11, F))]) [0] (by decide) rfl
        exact W.iret (v := (-1)) hx hb hr (fun t ht hW => ⟨⟨(-1), (), rfl, rfl, cB_of ht hP9 hD9⟩, hS.F ht⟩) hS.2.2 dX11_begin_23

set_option maxHeartbeats 4000000 in
set_option maxRecDepth 100000 in
theorem c_X12_begin_bad (l : Launch) (D : va_G) (k : KT) (sz : Nat) (h0 : Nat) (p0 p1 p2 p3 : Int32) (M : List Value) (hbad : ¬ (¬ s_endless p0 p1 p2 = 0 ∧ ¬ (p3 < 1) ∧ ¬ (99 < p3))) : Met l yX12_begin (WS yX12_begin cX12_begin 5 (some .int)) ({ frames := 2, cells := 0, slots := 0, locals := 44 }) (va_Pc [.ref h0, .int p0, .int p1, .int p2, .int p3] (cQ D k [(h0, .inr (12, M))] sz)) (va_Qi (fun (r : Int32) (_ : Unit) => r = (-1)) (fun (_ : Unit) t => cB D (va_A [(h0, .inr (12, M))] sz) [(h0, .inr (12, M))] t) (va_A [(h0, .inr (12, M))] sz)) 0 0 (va_A [(h0, .inr (12, M))] sz) := by
  refine Met.ofW (cc := cX12_begin) (maxL := 5) (ret := (some .int)) (by decide) rfl ?_
  intro p e s m args below meth c s₁ B hml hv
  obtain ⟨rfl, hsz, hP, hKX, hD0⟩ := hv
  have hK := hKX.1
  have hx := B.exec
  have hb := B.bytes
  have hr := B.returns
  have hts := atoms_spec (ws := WS yX12_begin cX12_begin 5 (some .int)) B.pre
  have hgd : ∀ w ∈ gd, w ∈ WS yX12_begin cX12_begin 5 (some .int) := fun w h => List.mem_cons_of_mem _ h
  have hg : ∀ w ∈ gd, w.before _ s = true := fun w h => hts w (hgd w h)
  have hown : s.vm.findClass RX12 = some m.cls := findClass_of_methodNamed B.named
  have hlocks := B.notSynchronized
  subst hsz
  have hD := hD0.self (sz := s.heap.size)
  generalize hAe : va_A [(h0, .inr (12, M))] s.heap.size = A at hD ⊢
  have hA : ∀ q : Nat, s.heap.size ≤ q → A q := fun q h => by rw [← hAe]; exact Or.inr h
  have hS : va_S A s.heap s.heap [] := va_S.rf
  have hP : va_P D classes [(h0, .inr (12, M))] s.heap := hP
  have hl := lv_entry ([.ref h0, .int p0, .int p1, .int p2, .int p3]) (n := 5) (Nat.le_of_ble_eq_true rfl)
  rw [lg_entry_eq]
  generalize (lg_sl ([.ref h0, .int p0, .int p1, .int p2, .int p3]) ++ List.replicate (5 - (lg_sl ([.ref h0, .int p0, .int p1, .int p2, .int p3])).length) Slot.unset).toArray = ls at hl ⊢
  have hl : lv_has ls 5 [(0, .ref h0), (1, .int p0), (2, .int p1), (3, .int p2), (4, .int p3)] := hl
  refine lv_iload_n hx hb dX12_begin_0 rfl (lv_at hl 1 rfl) ?_
  refine lv_iload_n hx hb dX12_begin_1 rfl (lv_at hl 2 rfl) ?_
  refine lv_iload_n hx hb dX12_begin_2 rfl (lv_at hl 3 rfl) ?_
  have hPc := hP.sub (ws' := []) [] rfl
  have hDc := hD.sub (ws' := []) [] (by decide) rfl
  have hFc := va_free (wc := []) hD hS hA [] rfl
  refine va_calli (va_runS (As := [.int p0, .int p1, .int p2]) (rest := []) ⟨hx, hb, hml, hown, hts⟩ (c_slabs l D k s.heap.size p0 p1 p2 ) (va_cwS 3 hts (gd_S hgd m1907 m1908 m131 m1909) rfl rfl rfl (by decide +kernel) ⟨Nat.le_of_ble_eq_true rfl, Nat.le_of_ble_eq_true rfl⟩) (cQ_S hPc hKX hDc) rfl rfl hl.1 rfl (lv_room (Nat.le_of_ble_eq_true rfl)) dX12_begin_3 ⟨Nat.le_of_ble_eq_true rfl, Nat.le_of_ble_eq_true rfl⟩) hS (fun q _ h => hFc q h) hFc (fun r_1 u t H1 locs ht hvm hw hB hz1 hk1 hS => ?_)
  obtain ⟨hP1, hD1⟩ := hB
  rw [ht] at hP1
  obtain ⟨hP, hD⟩ := va_join (wr := [(h0, .inr (12, M))]) (w1 := []) hP hD [] [0] rfl rfl (by decide) (by decide) hk1 hFc hP1 hD1
  generalize H1 = H at hP hS ⊢
  have hP : va_P D classes [(h0, .inr (12, M))] H := hP
  have hD : va_D A [(h0, .inr (12, M))] := hD
  refine W.widen (k := 0) (n := 0) (Nat.le_of_ble_eq_true rfl) (Nat.le_of_ble_eq_true rfl) ?_
  have h_2 := hw
  refine lv_if_eq (tgt := 31) hx hb dX12_begin_6 (by decide) (fun c_3 => ?_) (fun c_3 => ?_)
  · have c_3 : (r_1 : Int32) = 0 := c_3
    refine lv_iconst (v := (-1)) hx hb dX12_begin_31 (by decide) ?_
    have hP9 := hP.sub (ws' := [(h0, .inr (12, M))]) [0] rfl
    have hD9 := hD.sub (ws' := [(h0, .inr (12, M))]) [0] (by decide) rfl
    exact W.iret (v := (-1)) hx hb hr (fun t ht hW => ⟨⟨(-1), (), rfl, rfl, cB_of ht hP9 hD9⟩, hS.F ht⟩) hS.2.2 dX12_begin_32
  · have c_3 : ¬ ((r_1 : Int32) = 0) := c_3
    refine lv_iload hx hb dX12_begin_9 (lv_at hl 4 rfl) ?_
    refine lv_iconst (v := 1) hx hb dX12_begin_11 (by decide) ?_
    refine lv_bipush (v := 99) hx hb dX12_begin_12 (by decide) ?_
    have hPc := hP.sub (ws' := []) [] rfl
    have hDc := hD.sub (ws' := []) [] (by decide) rfl
    have hFc := va_free (wc := []) hD hS hA [] rfl
    refine va_calli (va_runS (As := [.int p3, .int 1, .int 99]) (rest := []) ⟨hx, hb, hml, hown, hts⟩ (c_isIn l D k H.size p3 1 99 ) (va_cwS 3 hts (gd_S hgd m1781 m1782 m131 m1783) rfl rfl rfl (by decide +kernel) ⟨Nat.le_of_ble_eq_true rfl, Nat.le_of_ble_eq_true rfl⟩) (cQ_S hPc hKX hDc) rfl rfl hl.1 rfl (lv_room (Nat.le_of_ble_eq_true rfl)) dX12_begin_14 ⟨Nat.le_of_ble_eq_true rfl, Nat.le_of_ble_eq_true rfl⟩) hS (fun q _ h => hFc q h) hFc (fun r_4 u t H1 locs ht hvm hw hB hz1 hk1 hS => ?_)
    obtain ⟨hP1, hD1⟩ := hB
    rw [ht] at hP1
    obtain ⟨hP, hD⟩ := va_join (wr := [(h0, .inr (12, M))]) (w1 := []) hP hD [] [0] rfl rfl (by decide) (by decide) hk1 hFc hP1 hD1
    generalize H1 = H at hP hS ⊢
    have hP : va_P D classes [(h0, .inr (12, M))] H := hP
    have hD : va_D A [(h0, .inr (12, M))] := hD
    refine W.widen (k := 0) (n := 0) (Nat.le_of_ble_eq_true rfl) (Nat.le_of_ble_eq_true rfl) ?_
    have h_5 := hw
    refine lv_if_eq (tgt := 31) hx hb dX12_begin_17 (by decide) (fun c_6 => ?_) (fun c_6 => ?_)
    · have c_6 : (r_4 : Int32) = 0 := c_6
      refine lv_iconst (v := (-1)) hx hb dX12_begin_31 (by decide) ?_
      have hP9 := hP.sub (ws' := [(h0, .inr (12, M))]) [0] rfl
      have hD9 := hD.sub (ws' := [(h0, .inr (12, M))]) [0] (by decide) rfl
      exact W.iret (v := (-1)) hx hb hr (fun t ht hW => ⟨⟨(-1), (), rfl, rfl, cB_of ht hP9 hD9⟩, hS.F ht⟩) hS.2.2 dX12_begin_32
    · have c_6 : ¬ ((r_4 : Int32) = 0) := c_6
      exact absurd ⟨(fun q => c_3 (h_2.trans q)), s_in_ne (fun q => c_6 (h_5.trans q))⟩ hbad

set_option maxHeartbeats 4000000 in
set_option maxRecDepth 100000 in
theorem c_X11_begin_ok (l : Launch) (D : va_G) (k : KT) (sz : Nat) (h0 : Nat) (n0 n1 n2 n3 : Nat) (F : List Value) (ob1 : 1 ≤ n0) (ob2 : n0 ≤ 60) (ob3 : n1 ≤ 9) (ob4 : 1 ≤ n2) (ob5 : n2 ≤ 12) (ob6 : 1 ≤ n3) (ob7 : n3 ≤ 99) : Met l yX11_begin (WS yX11_begin cX11_begin 5 (some .int)) ({ frames := 2, cells := 0, slots := 0, locals := 51 }) (va_Pc [.ref h0, .int (nI n0), .int (nI n1), .int (nI n2), .int (nI n3)] (cQ D k [(h0, .inr (11, F))] sz)) (va_Qi (fun (r : Int32) (_ : Unit) => r = (nI (bgN n0 n1 n2 n3))) (fun (_ : Unit) t => cB D (va_A [(h0, .inr (11, F))] sz) [(h0, .inr (11, F))] t) (va_A [(h0, .inr (11, F))] sz)) 0 0 (va_A [(h0, .inr (11, F))] sz) := by
  refine Met.ofW (cc := cX11_begin) (maxL := 5) (ret := (some .int)) (by decide) rfl ?_
  intro p e s m args below meth c s₁ B hml hv
  obtain ⟨rfl, hsz, hP, hKX, hD0⟩ := hv
  have hK := hKX.1
  have hx := B.exec
  have hb := B.bytes
  have hr := B.returns
  have hts := atoms_spec (ws := WS yX11_begin cX11_begin 5 (some .int)) B.pre
  have hgd : ∀ w ∈ gd, w ∈ WS yX11_begin cX11_begin 5 (some .int) := fun w h => List.mem_cons_of_mem _ h
  have hg : ∀ w ∈ gd, w.before _ s = true := fun w h => hts w (hgd w h)
  have hown : s.vm.findClass RX11 = some m.cls := findClass_of_methodNamed B.named
  have hlocks := B.notSynchronized
  subst hsz
  have hD := hD0.self (sz := s.heap.size)
  generalize hAe : va_A [(h0, .inr (11, F))] s.heap.size = A at hD ⊢
  have hA : ∀ q : Nat, s.heap.size ≤ q → A q := fun q h => by rw [← hAe]; exact Or.inr h
  have hS : va_S A s.heap s.heap [] := va_S.rf
  have hP : va_P D classes [(h0, .inr (11, F))] s.heap := hP
  have hl := lv_entry ([.ref h0, .int (nI n0), .int (nI n1), .int (nI n2), .int (nI n3)]) (n := 5) (Nat.le_of_ble_eq_true rfl)
  rw [lg_entry_eq]
  generalize (lg_sl ([.ref h0, .int (nI n0), .int (nI n1), .int (nI n2), .int (nI n3)]) ++ List.replicate (5 - (lg_sl ([.ref h0, .int (nI n0), .int (nI n1), .int (nI n2), .int (nI n3)])).length) Slot.unset).toArray = ls at hl ⊢
  have hl : lv_has ls 5 [(0, .ref h0), (1, .int (nI n0)), (2, .int (nI n1)), (3, .int (nI n2)), (4, .int (nI n3))] := hl
  refine lv_iload_n hx hb dX11_begin_0 rfl (lv_at hl 1 rfl) ?_
  refine lv_iload_n hx hb dX11_begin_1 rfl (lv_at hl 2 rfl) ?_
  refine lv_iload_n hx hb dX11_begin_2 rfl (lv_at hl 3 rfl) ?_
  have hPc := hP.sub (ws' := []) [] rfl
  have hDc := hD.sub (ws' := []) [] (by decide) rfl
  have hFc := va_free (wc := []) hD hS hA [] rfl
  refine va_calli (va_runS (As := [.int (nI n0), .int (nI n1), .int (nI n2)]) (rest := []) ⟨hx, hb, hml, hown, hts⟩ (c_endless_ok l D k s.heap.size n0 n1 n2 (by omega) (by omega) (by omega) (by omega) (by omega)) (va_cwS 3 hts (gd_S hgd m1069 m1070 m117 m1071) rfl rfl rfl (by decide +kernel) ⟨Nat.le_of_ble_eq_true rfl, Nat.le_of_ble_eq_true rfl⟩) (cQ_S hPc hKX hDc) rfl rfl hl.1 rfl (lv_room (Nat.le_of_ble_eq_true rfl)) dX11_begin_3 ⟨Nat.le_of_ble_eq_true rfl, Nat.le_of_ble_eq_true rfl⟩) hS (fun q _ h => hFc q h) hFc (fun r_1 u t H1 locs ht hvm hw hB hz1 hk1 hS => ?_)
  obtain ⟨hP1, hD1⟩ := hB
  rw [ht] at hP1
  obtain ⟨hP, hD⟩ := va_join (wr := [(h0, .inr (11, F))]) (w1 := []) hP hD [] [0] rfl rfl (by decide) (by decide) hk1 hFc hP1 hD1
  generalize H1 = H at hP hS ⊢
  have hP : va_P D classes [(h0, .inr (11, F))] H := hP
  have hD : va_D A [(h0, .inr (11, F))] := hD
  refine W.widen (k := 0) (n := 0) (Nat.le_of_ble_eq_true rfl) (Nat.le_of_ble_eq_true rfl) ?_
  subst hw
  refine lv_if_eq (tgt := 22) hx hb dX11_begin_6 (by decide) (fun c_2 => ?_) (fun c_2 => ?_)
  · exact absurd c_2 (by decide)
  · have c_2 : ¬ ((1 : Int32) = 0) := c_2
    refine lv_iload hx hb dX11_begin_9 (lv_at hl 4 rfl) ?_
    refine lv_iconst (v := 1) hx hb dX11_begin_11 (by decide) ?_
    refine lv_icmp_lt (tgt := 22) hx hb dX11_begin_12 (by decide) (fun c_3 => ?_) (fun c_3 => ?_)
    · exact absurd c_3 (nI_nlt (a := n3) (b := 1) (by omega) (by omega))
    · have c_3 : ¬ (((nI n3) : Int32) < 1) := c_3
      refine lv_iload hx hb dX11_begin_15 (lv_at hl 4 rfl) ?_
      refine lv_bipush (v := 99) hx hb dX11_begin_17 (by decide) ?_
      refine lv_icmp_le (tgt := 24) hx hb dX11_begin_19 (by decide) (fun c_4 => ?_) (fun c_4 => ?_)
      · have c_4 : ((nI n3) : Int32) ≤ 99 := c_4
        refine lv_iload_n hx hb dX11_begin_24 rfl (lv_at hl 1 rfl) ?_
        refine lv_iload_n hx hb dX11_begin_25 rfl (lv_at hl 2 rfl) ?_
        refine lv_iload_n hx hb dX11_begin_26 rfl (lv_at hl 3 rfl) ?_
        refine lv_iload hx hb dX11_begin_27 (lv_at hl 4 rfl) ?_
        have hPc := hP.sub (ws' := []) [] rfl
        have hDc := hD.sub (ws' := []) [] (by decide) rfl
        have hFc := va_free (wc := []) hD hS hA [] rfl
        refine va_calli (va_runS (As := [.int (nI n0), .int (nI n1), .int (nI n2), .int (nI n3)]) (rest := []) ⟨hx, hb, hml, hown, hts⟩ (c_beginnings l D k H.size n0 n1 n2 n3 (by omega) (by omega) (by omega) (by omega) (by omega) (by omega) (by omega)) (va_cwS 4 hts (gd_S hgd m1076 m1077 m117 m1078) rfl rfl rfl (by decide +kernel) ⟨Nat.le_of_ble_eq_true rfl, Nat.le_of_ble_eq_true rfl⟩) (cQ_S hPc hKX hDc) rfl rfl hl.1 rfl (lv_room (Nat.le_of_ble_eq_true rfl)) dX11_begin_29 ⟨Nat.le_of_ble_eq_true rfl, Nat.le_of_ble_eq_true rfl⟩) hS (fun q _ h => hFc q h) hFc (fun r_5 u t H1 locs ht hvm hw hB hz1 hk1 hS => ?_)
        obtain ⟨hP1, hD1⟩ := hB
        rw [ht] at hP1
        obtain ⟨hP, hD⟩ := va_join (wr := [(h0, .inr (11, F))]) (w1 := []) hP hD [] [0] rfl rfl (by decide) (by decide) hk1 hFc hP1 hD1
        generalize H1 = H at hP hS ⊢
        have hP : va_P D classes [(h0, .inr (11, F))] H := hP
        have hD : va_D A [(h0, .inr (11, F))] := hD
        refine W.widen (k := 0) (n := 0) (Nat.le_of_ble_eq_true rfl) (Nat.le_of_ble_eq_true rfl) ?_
        subst hw
        have hP9 := hP.sub (ws' := [(h0, .inr (11, F))]) [0] rfl
        have hD9 := hD.sub (ws' := [(h0, .inr (11, F))]) [0] (by decide) rfl
        exact W.iret (v := (nI (bgN n0 n1 n2 n3))) hx hb hr (fun t ht hW => ⟨⟨(nI (bgN n0 n1 n2 n3)), (), rfl, rfl, cB_of ht hP9 hD9⟩, hS.F ht⟩) hS.2.2 dX11_begin_32
      · exact absurd (Int32.not_lt.mp (nI_nlt (a := 99) (b := n3) (by omega) (by omega))) c_4

set_option maxHeartbeats 4000000 in
set_option maxRecDepth 100000 in
theorem c_X12_begin_ok (l : Launch) (D : va_G) (k : KT) (sz : Nat) (h0 : Nat) (n0 n1 n2 n3 : Nat) (M : List Value) (ob1 : 1 ≤ n0) (ob2 : n0 ≤ 60) (ob3 : n1 ≤ 9) (ob4 : 1 ≤ n2) (ob5 : n2 ≤ 12) (ob6 : 1 ≤ n3) (ob7 : n3 ≤ 99) : Met l yX12_begin (WS yX12_begin cX12_begin 5 (some .int)) ({ frames := 3, cells := 0, slots := 0, locals := 76 }) (va_Pc [.ref h0, .int (nI n0), .int (nI n1), .int (nI n2), .int (nI n3)] (cQ D k [(h0, .inr (12, M))] sz)) (va_Qi (fun (r : Int32) (_ : Unit) => r = (nI (bgN n0 n1 n2 n3))) (fun (_ : Unit) t => cB D (va_A [(h0, .inr (12, M))] sz) [(h0, .inr (12, M))] t) (va_A [(h0, .inr (12, M))] sz)) 0 0 (va_A [(h0, .inr (12, M))] sz) := by
  refine Met.ofW (cc := cX12_begin) (maxL := 5) (ret := (some .int)) (by decide) rfl ?_
  intro p e s m args below meth c s₁ B hml hv
  obtain ⟨rfl, hsz, hP, hKX, hD0⟩ := hv
  have hK := hKX.1
  have hx := B.exec
  have hb := B.bytes
  have hr := B.returns
  have hts := atoms_spec (ws := WS yX12_begin cX12_begin 5 (some .int)) B.pre
  have hgd : ∀ w ∈ gd, w ∈ WS yX12_begin cX12_begin 5 (some .int) := fun w h => List.mem_cons_of_mem _ h
  have hg : ∀ w ∈ gd, w.before _ s = true := fun w h => hts w (hgd w h)
  have hown : s.vm.findClass RX12 = some m.cls := findClass_of_methodNamed B.named
  have hlocks := B.notSynchronized
  subst hsz
  have hD := hD0.self (sz := s.heap.size)
  generalize hAe : va_A [(h0, .inr (12, M))] s.heap.size = A at hD ⊢
  have hA : ∀ q : Nat, s.heap.size ≤ q → A q := fun q h => by rw [← hAe]; exact Or.inr h
  have hS : va_S A s.heap s.heap [] := va_S.rf
  have hP : va_P D classes [(h0, .inr (12, M))] s.heap := hP
  have hl := lv_entry ([.ref h0, .int (nI n0), .int (nI n1), .int (nI n2), .int (nI n3)]) (n := 5) (Nat.le_of_ble_eq_true rfl)
  rw [lg_entry_eq]
  generalize (lg_sl ([.ref h0, .int (nI n0), .int (nI n1), .int (nI n2), .int (nI n3)]) ++ List.replicate (5 - (lg_sl ([.ref h0, .int (nI n0), .int (nI n1), .int (nI n2), .int (nI n3)])).length) Slot.unset).toArray = ls at hl ⊢
  have hl : lv_has ls 5 [(0, .ref h0), (1, .int (nI n0)), (2, .int (nI n1)), (3, .int (nI n2)), (4, .int (nI n3))] := hl
  refine lv_iload_n hx hb dX12_begin_0 rfl (lv_at hl 1 rfl) ?_
  refine lv_iload_n hx hb dX12_begin_1 rfl (lv_at hl 2 rfl) ?_
  refine lv_iload_n hx hb dX12_begin_2 rfl (lv_at hl 3 rfl) ?_
  have hPc := hP.sub (ws' := []) [] rfl
  have hDc := hD.sub (ws' := []) [] (by decide) rfl
  have hFc := va_free (wc := []) hD hS hA [] rfl
  refine va_calli (va_runS (As := [.int (nI n0), .int (nI n1), .int (nI n2)]) (rest := []) ⟨hx, hb, hml, hown, hts⟩ (c_slabs_ok l D k s.heap.size n0 n1 n2 (by omega) (by omega) (by omega) (by omega) (by omega)) (va_cwS 3 hts (gd_S hgd m1907 m1908 m131 m1909) rfl rfl rfl (by decide +kernel) ⟨Nat.le_of_ble_eq_true rfl, Nat.le_of_ble_eq_true rfl⟩) (cQ_S hPc hKX hDc) rfl rfl hl.1 rfl (lv_room (Nat.le_of_ble_eq_true rfl)) dX12_begin_3 ⟨Nat.le_of_ble_eq_true rfl, Nat.le_of_ble_eq_true rfl⟩) hS (fun q _ h => hFc q h) hFc (fun r_1 u t H1 locs ht hvm hw hB hz1 hk1 hS => ?_)
  obtain ⟨hP1, hD1⟩ := hB
  rw [ht] at hP1
  obtain ⟨hP, hD⟩ := va_join (wr := [(h0, .inr (12, M))]) (w1 := []) hP hD [] [0] rfl rfl (by decide) (by decide) hk1 hFc hP1 hD1
  generalize H1 = H at hP hS ⊢
  have hP : va_P D classes [(h0, .inr (12, M))] H := hP
  have hD : va_D A [(h0, .inr (12, M))] := hD
  refine W.widen (k := 0) (n := 0) (Nat.le_of_ble_eq_true rfl) (Nat.le_of_ble_eq_true rfl) ?_
  subst hw
  refine lv_if_eq (tgt := 31) hx hb dX12_begin_6 (by decide) (fun c_2 => ?_) (fun c_2 => ?_)
  · exact absurd c_2 (by decide)
  · have c_2 : ¬ ((1 : Int32) = 0) := c_2
    refine lv_iload hx hb dX12_begin_9 (lv_at hl 4 rfl) ?_
    refine lv_iconst (v := 1) hx hb dX12_begin_11 (by decide) ?_
    refine lv_bipush (v := 99) hx hb dX12_begin_12 (by decide) ?_
    have hPc := hP.sub (ws' := []) [] rfl
    have hDc := hD.sub (ws' := []) [] (by decide) rfl
    have hFc := va_free (wc := []) hD hS hA [] rfl
    refine va_calli (va_runS (As := [.int (nI n3), .int 1, .int 99]) (rest := []) ⟨hx, hb, hml, hown, hts⟩ (c_isIn_ok l D k H.size (nI n3) 1 99 (nI_nlt (a := n3) (b := 1) (by omega) (by omega)) (nI_nlt (a := 99) (b := n3) (by omega) (by omega))) (va_cwS 3 hts (gd_S hgd m1781 m1782 m131 m1783) rfl rfl rfl (by decide +kernel) ⟨Nat.le_of_ble_eq_true rfl, Nat.le_of_ble_eq_true rfl⟩) (cQ_S hPc hKX hDc) rfl rfl hl.1 rfl (lv_room (Nat.le_of_ble_eq_true rfl)) dX12_begin_14 ⟨Nat.le_of_ble_eq_true rfl, Nat.le_of_ble_eq_true rfl⟩) hS (fun q _ h => hFc q h) hFc (fun r_3 u t H1 locs ht hvm hw hB hz1 hk1 hS => ?_)
    obtain ⟨hP1, hD1⟩ := hB
    rw [ht] at hP1
    obtain ⟨hP, hD⟩ := va_join (wr := [(h0, .inr (12, M))]) (w1 := []) hP hD [] [0] rfl rfl (by decide) (by decide) hk1 hFc hP1 hD1
    generalize H1 = H at hP hS ⊢
    have hP : va_P D classes [(h0, .inr (12, M))] H := hP
    have hD : va_D A [(h0, .inr (12, M))] := hD
    refine W.widen (k := 0) (n := 0) (Nat.le_of_ble_eq_true rfl) (Nat.le_of_ble_eq_true rfl) ?_
    subst hw
    refine lv_if_eq (tgt := 31) hx hb dX12_begin_17 (by decide) (fun c_4 => ?_) (fun c_4 => ?_)
    · exact absurd c_4 (by decide)
    · have c_4 : ¬ ((1 : Int32) = 0) := c_4
      refine lv_iload_n hx hb dX12_begin_20 rfl (lv_at hl 1 rfl) ?_
      refine lv_iload_n hx hb dX12_begin_21 rfl (lv_at hl 2 rfl) ?_
      refine lv_iload_n hx hb dX12_begin_22 rfl (lv_at hl 3 rfl) ?_
      refine lv_iload hx hb dX12_begin_23 (lv_at hl 4 rfl) ?_
      have hPc := hP.sub (ws' := []) [] rfl
      have hDc := hD.sub (ws' := []) [] (by decide) rfl
      have hFc := va_free (wc := []) hD hS hA [] rfl
      refine va_calli (va_runS (As := [.int (nI n0), .int (nI n1), .int (nI n2), .int (nI n3)]) (rest := []) ⟨hx, hb, hml, hown, hts⟩ (c_beginOf l D k H.size n0 n1 n2 n3 (by omega) (by omega) (by omega) (by omega) (by omega) (by omega) (by omega)) (va_cwS 4 hts (gd_S hgd m1920 m1921 m131 m1922) rfl rfl rfl (by decide +kernel) ⟨Nat.le_of_ble_eq_true rfl, Nat.le_of_ble_eq_true rfl⟩) (cQ_S hPc hKX hDc) rfl rfl hl.1 rfl (lv_room (Nat.le_of_ble_eq_true rfl)) dX12_begin_25 ⟨Nat.le_of_ble_eq_true rfl, Nat.le_of_ble_eq_true rfl⟩) hS (fun q _ h => hFc q h) hFc (fun r_5 u t H1 locs ht hvm hw hB hz1 hk1 hS => ?_)
      obtain ⟨hP1, hD1⟩ := hB
      rw [ht] at hP1
      obtain ⟨hP, hD⟩ := va_join (wr := [(h0, .inr (12, M))]) (w1 := []) hP hD [] [0] rfl rfl (by decide) (by decide) hk1 hFc hP1 hD1
      generalize H1 = H at hP hS ⊢
      have hP : va_P D classes [(h0, .inr (12, M))] H := hP
      have hD : va_D A [(h0, .inr (12, M))] := hD
      refine W.widen (k := 0) (n := 0) (Nat.le_of_ble_eq_true rfl) (Nat.le_of_ble_eq_true rfl) ?_
      subst hw
      refine lv_goto (tgt := 32) hx hb dX12_begin_28 (by decide) ?_
      have hP9 := hP.sub (ws' := [(h0, .inr (12, M))]) [0] rfl
      have hD9 := hD.sub (ws' := [(h0, .inr (12, M))]) [0] (by decide) rfl
      exact W.iret (v := (nI (bgN n0 n1 n2 n3))) hx hb hr (fun t ht hW => ⟨⟨(nI (bgN n0 n1 n2 n3)), (), rfl, rfl, cB_of ht hP9 hD9⟩, hS.F ht⟩) hS.2.2 dX12_begin_32

set_option maxHeartbeats 4000000 in
set_option maxRecDepth 100000 in
theorem c_X11_first_bad (l : Launch) (D : va_G) (k : KT) (sz : Nat) (h0 : Nat) (p0 p1 p2 p3 p4 : Int32) (F : List Value) (hbad : ¬ (¬ s_endless p0 p1 p2 = 0 ∧ ¬ (p3 < 1) ∧ ¬ (99 < p3) ∧ ¬ (p4 < 0) ∧ p4 < p0 + p1)) : Met l yX11_first (WS yX11_first cX11_first 9 (some .int)) ({ frames := 1, cells := 0, slots := 0, locals := 22 }) (va_Pc [.ref h0, .int p0, .int p1, .int p2, .int p3, .int p4] (cQ D k [(h0, .inr (11, F))] sz)) (va_Qi (fun (r : Int32) (_ : Unit) => r = (-2)) (fun (_ : Unit) t => cB D (va_A [(h0, .inr (11, F))] sz) [(h0, .inr (11, F))] t) (va_A [(h0, .inr (11, F))] sz)) 0 0 (va_A [(h0, .inr (11, F))] sz) := by
  refine Met.ofW (cc := cX11_first) (maxL := 9) (ret := (some .int)) (by decide) rfl ?_
  intro p e s m args below meth c s₁ B hml hv
  obtain ⟨rfl, hsz, hP, hKX, hD0⟩ := hv
  have hK := hKX.1
  have hx := B.exec
  have hb := B.bytes
  have hr := B.returns
  have hts := atoms_spec (ws := WS yX11_first cX11_first 9 (some .int)) B.pre
  have hgd : ∀ w ∈ gd, w ∈ WS yX11_first cX11_first 9 (some .int) := fun w h => List.mem_cons_of_mem _ h
  have hg : ∀ w ∈ gd, w.before _ s = true := fun w h => hts w (hgd w h)
  have hown : s.vm.findClass RX11 = some m.cls := findClass_of_methodNamed B.named
  have hlocks := B.notSynchronized
  subst hsz
  have hD := hD0.self (sz := s.heap.size)
  generalize hAe : va_A [(h0, .inr (11, F))] s.heap.size = A at hD ⊢
  have hA : ∀ q : Nat, s.heap.size ≤ q → A q := fun q h => by rw [← hAe]; exact Or.inr h
  have hS : va_S A s.heap s.heap [] := va_S.rf
  have hP : va_P D classes [(h0, .inr (11, F))] s.heap := hP
  have hl := lv_entry ([.ref h0, .int p0, .int p1, .int p2, .int p3, .int p4]) (n := 9) (Nat.le_of_ble_eq_true rfl)
  rw [lg_entry_eq]
  generalize (lg_sl ([.ref h0, .int p0, .int p1, .int p2, .int p3, .int p4]) ++ List.replicate (9 - (lg_sl ([.ref h0, .int p0, .int p1, .int p2, .int p3, .int p4])).length) Slot.unset).toArray = ls at hl ⊢
  have hl : lv_has ls 9 [(0, .ref h0), (1, .int p0), (2, .int p1), (3, .int p2), (4, .int p3), (5, .int p4)] := hl
  refine lv_iload_n hx hb dX11_first_0 rfl (lv_at hl 1 rfl) ?_
  refine lv_iload_n hx hb dX11_first_1 rfl (lv_at hl 2 rfl) ?_
  refine lv_iload_n hx hb dX11_first_2 rfl (lv_at hl 3 rfl) ?_
  have hPc := hP.sub (ws' := []) [] rfl
  have hDc := hD.sub (ws' := []) [] (by decide) rfl
  have hFc := va_free (wc := []) hD hS hA [] rfl
  refine va_calli (va_runS (As := [.int p0, .int p1, .int p2]) (rest := []) ⟨hx, hb, hml, hown, hts⟩ (c_endless l D k s.heap.size p0 p1 p2 ) (va_cwS 3 hts (gd_S hgd m1069 m1070 m117 m1071) rfl rfl rfl (by decide +kernel) ⟨Nat.le_of_ble_eq_true rfl, Nat.le_of_ble_eq_true rfl⟩) (cQ_S hPc hKX hDc) rfl rfl hl.1 rfl (lv_room (Nat.le_of_ble_eq_true rfl)) dX11_first_3 ⟨Nat.le_of_ble_eq_true rfl, Nat.le_of_ble_eq_true rfl⟩) hS (fun q _ h => hFc q h) hFc (fun r_1 u t H1 locs ht hvm hw hB hz1 hk1 hS => ?_)
  obtain ⟨hP1, hD1⟩ := hB
  rw [ht] at hP1
  obtain ⟨hP, hD⟩ := va_join (wr := [(h0, .inr (11, F))]) (w1 := []) hP hD [] [0] rfl rfl (by decide) (by decide) hk1 hFc hP1 hD1
  generalize H1 = H at hP hS ⊢
  have hP : va_P D classes [(h0, .inr (11, F))] H := hP
  have hD : va_D A [(h0, .inr (11, F))] := hD
  refine W.widen (k := 0) (n := 0) (Nat.le_of_ble_eq_true rfl) (Nat.le_of_ble_eq_true rfl) ?_
  have h_2 := hw
  refine lv_if_eq (tgt := 35) hx hb dX11_first_6 (by decide) (fun c_3 => ?_) (fun c_3 => ?_)
  · have c_3 : (r_1 : Int32) = 0 := c_3
    refine lv_bipush (v := (-2)) hx hb dX11_first_35 (by decide) ?_
    have hP9 := hP.sub (ws' := [(h0, .inr (11, F))]) [0] rfl
    have hD9 := hD.sub (ws' := [(h0, .inr (11, F))]) [0] (by decide) rfl
    exact W.iret (v := (-2)) hx hb hr (fun t ht hW => ⟨⟨(-2), (), rfl, rfl, cB_of ht hP9 hD9⟩, hS.F ht⟩) hS.2.2 dX11_first_37
  · have c_3 : ¬ ((r_1 : Int32) = 0) := c_3
    refine lv_iload hx hb dX11_first_9 (lv_at hl 4 rfl) ?_
    refine lv_iconst (v := 1) hx hb dX11_first_11 (by decide) ?_
    refine lv_icmp_lt (tgt := 35) hx hb dX11_first_12 (by decide) (fun c_4 => ?_) (fun c_4 => ?_)
    · have c_4 : (p3 : Int32) < 1 := c_4
      refine lv_bipush (v := (-2)) hx hb dX11_first_35 (by decide) ?_
      have hP9 := hP.sub (ws' := [(h0, .inr (11, F))]) [0] rfl
      have hD9 := hD.sub (ws' := [(h0, .inr (11, F))]) [0] (by decide) rfl
      exact W.iret (v := (-2)) hx hb hr (fun t ht hW => ⟨⟨(-2), (), rfl, rfl, cB_of ht hP9 hD9⟩, hS.F ht⟩) hS.2.2 dX11_first_37
    · have c_4 : ¬ ((p3 : Int32) < 1) := c_4
      refine lv_iload hx hb dX11_first_15 (lv_at hl 4 rfl) ?_
      refine lv_bipush (v := 99) hx hb dX11_first_17 (by decide) ?_
      refine lv_icmp_gt (tgt := 35) hx hb dX11_first_19 (by decide) (fun c_5 => ?_) (fun c_5 => ?_)
      · have c_5 : (99 : Int32) < p3 := c_5
        refine lv_bipush (v := (-2)) hx hb dX11_first_35 (by decide) ?_
        have hP9 := hP.sub (ws' := [(h0, .inr (11, F))]) [0] rfl
        have hD9 := hD.sub (ws' := [(h0, .inr (11, F))]) [0] (by decide) rfl
        exact W.iret (v := (-2)) hx hb hr (fun t ht hW => ⟨⟨(-2), (), rfl, rfl, cB_of ht hP9 hD9⟩, hS.F ht⟩) hS.2.2 dX11_first_37
      · have c_5 : ¬ ((99 : Int32) < p3) := c_5
        refine lv_iload hx hb dX11_first_22 (lv_at hl 5 rfl) ?_
        refine lv_if_lt (tgt := 35) hx hb dX11_first_24 (by decide) (fun c_6 => ?_) (fun c_6 => ?_)
        · have c_6 : (p4 : Int32) < 0 := c_6
          refine lv_bipush (v := (-2)) hx hb dX11_first_35 (by decide) ?_
          have hP9 := hP.sub (ws' := [(h0, .inr (11, F))]) [0] rfl
          have hD9 := hD.sub (ws' := [(h0, .inr (11, F))]) [0] (by decide) rfl
          exact W.iret (v := (-2)) hx hb hr (fun t ht hW => ⟨⟨(-2), (), rfl, rfl, cB_of ht hP9 hD9⟩, hS.F ht⟩) hS.2.2 dX11_first_37
        · have c_6 : ¬ ((p4 : Int32) < 0) := c_6
          refine lv_iload hx hb dX11_first_27 (lv_at hl 5 rfl) ?_
          refine lv_iload_n hx hb dX11_first_29 rfl (lv_at hl 1 rfl) ?_
          refine lv_iload_n hx hb dX11_first_30 rfl (lv_at hl 2 rfl) ?_
          refine lv_iadd hx hb dX11_first_31 ?_
          refine lv_icmp_lt (tgt := 38) hx hb dX11_first_32 (by decide) (fun c_7 => ?_) (fun c_7 => ?_)
          · have c_7 : (p4 : Int32) < (p0 + p1) := c_7
            exact absurd ⟨(fun q => c_3 (h_2.trans q)), c_4, c_5, c_6, c_7⟩ hbad
          · have c_7 : ¬ ((p4 : Int32) < (p0 + p1)) := c_7
            refine lv_bipush (v := (-2)) hx hb dX11_first_35 (by decide) ?_
            have hP9 := hP.sub (ws' := [(h0, .inr (11, F))]) [0] rfl
            have hD9 := hD.sub (ws' := [(h0, .inr (11, F))]) [0] (by decide) rfl
            exact W.iret (v := (-2)) hx hb hr (fun t ht hW => ⟨⟨(-2), (), rfl, rfl, cB_of ht hP9 hD9⟩, hS.F ht⟩) hS.2.2 dX11_first_37

set_option maxHeartbeats 4000000 in
set_option maxRecDepth 100000 in
theorem c_X12_first_bad (l : Launch) (D : va_G) (k : KT) (sz : Nat) (h0 : Nat) (p0 p1 p2 p3 p4 : Int32) (M : List Value) (hbad : ¬ (¬ s_endless p0 p1 p2 = 0 ∧ ¬ (p3 < 1) ∧ ¬ (99 < p3) ∧ ¬ (p4 < 0) ∧ p4 < p0 + p1)) : Met l yX12_first (WS yX12_first cX12_first 6 (some .int)) ({ frames := 2, cells := 0, slots := 0, locals := 44 }) (va_Pc [.ref h0, .int p0, .int p1, .int p2, .int p3, .int p4] (cQ D k [(h0, .inr (12, M))] sz)) (va_Qi (fun (r : Int32) (_ : Unit) => r = (-2)) (fun (_ : Unit) t => cB D (va_A [(h0, .inr (12, M))] sz) [(h0, .inr (12, M))] t) (va_A [(h0, .inr (12, M))] sz)) 0 0 (va_A [(h0, .inr (12, M))] sz) := by
  refine Met.ofW (cc := cX12_first) (maxL := 6) (ret := (some .int)) (by decide) rfl ?_
  intro p e s m args below meth c s₁ B hml hv
  obtain ⟨rfl, hsz, hP, hKX, hD0⟩ := hv
  have hK := hKX.1
  have hx := B.exec
  have hb := B.bytes
  have hr := B.returns
  have hts := atoms_spec (ws := WS yX12_first cX12_first 6 (some .int)) B.pre
  have hgd : ∀ w ∈ gd, w ∈ WS yX12_first cX12_first 6 (some .int) := fun w h => List.mem_cons_of_mem _ h
  have hg : ∀ w ∈ gd, w.before _ s = true := fun w h => hts w (hgd w h)
  have hown : s.vm.findClass RX12 = some m.cls := findClass_of_methodNamed B.named
  have hlocks := B.notSynchronized
  subst hsz
  have hD := hD0.self (sz := s.heap.size)
  generalize hAe : va_A [(h0, .inr (12, M))] s.heap.size = A at hD ⊢
  have hA : ∀ q : Nat, s.heap.size ≤ q → A q := fun q h => by rw [← hAe]; exact Or.inr h
  have hS : va_S A s.heap s.heap [] := va_S.rf
  have hP : va_P D classes [(h0, .inr (12, M))] s.heap := hP
  have hl := lv_entry ([.ref h0, .int p0, .int p1, .int p2, .int p3, .int p4]) (n := 6) (Nat.le_of_ble_eq_true rfl)
  rw [lg_entry_eq]
  generalize (lg_sl ([.ref h0, .int p0, .int p1, .int p2, .int p3, .int p4]) ++ List.replicate (6 - (lg_sl ([.ref h0, .int p0, .int p1, .int p2, .int p3, .int p4])).length) Slot.unset).toArray = ls at hl ⊢
  have hl : lv_has ls 6 [(0, .ref h0), (1, .int p0), (2, .int p1), (3, .int p2), (4, .int p3), (5, .int p4)] := hl
  refine lv_iload_n hx hb dX12_first_0 rfl (lv_at hl 1 rfl) ?_
  refine lv_iload_n hx hb dX12_first_1 rfl (lv_at hl 2 rfl) ?_
  refine lv_iload_n hx hb dX12_first_2 rfl (lv_at hl 3 rfl) ?_
  have hPc := hP.sub (ws' := []) [] rfl
  have hDc := hD.sub (ws' := []) [] (by decide) rfl
  have hFc := va_free (wc := []) hD hS hA [] rfl
  refine va_calli (va_runS (As := [.int p0, .int p1, .int p2]) (rest := []) ⟨hx, hb, hml, hown, hts⟩ (c_slabs l D k s.heap.size p0 p1 p2 ) (va_cwS 3 hts (gd_S hgd m1907 m1908 m131 m1909) rfl rfl rfl (by decide +kernel) ⟨Nat.le_of_ble_eq_true rfl, Nat.le_of_ble_eq_true rfl⟩) (cQ_S hPc hKX hDc) rfl rfl hl.1 rfl (lv_room (Nat.le_of_ble_eq_true rfl)) dX12_first_3 ⟨Nat.le_of_ble_eq_true rfl, Nat.le_of_ble_eq_true rfl⟩) hS (fun q _ h => hFc q h) hFc (fun r_1 u t H1 locs ht hvm hw hB hz1 hk1 hS => ?_)
  obtain ⟨hP1, hD1⟩ := hB
  rw [ht] at hP1
  obtain ⟨hP, hD⟩ := va_join (wr := [(h0, .inr (12, M))]) (w1 := []) hP hD [] [0] rfl rfl (by decide) (by decide) hk1 hFc hP1 hD1
  generalize H1 = H at hP hS ⊢
  have hP : va_P D classes [(h0, .inr (12, M))] H := hP
  have hD : va_D A [(h0, .inr (12, M))] := hD
  refine W.widen (k := 0) (n := 0) (Nat.le_of_ble_eq_true rfl) (Nat.le_of_ble_eq_true rfl) ?_
  have h_2 := hw
  refine lv_if_eq (tgt := 47) hx hb dX12_first_6 (by decide) (fun c_3 => ?_) (fun c_3 => ?_)
  · have c_3 : (r_1 : Int32) = 0 := c_3
    refine lv_bipush (v := (-2)) hx hb dX12_first_47 (by decide) ?_
    have hP9 := hP.sub (ws' := [(h0, .inr (12, M))]) [0] rfl
    have hD9 := hD.sub (ws' := [(h0, .inr (12, M))]) [0] (by decide) rfl
    exact W.iret (v := (-2)) hx hb hr (fun t ht hW => ⟨⟨(-2), (), rfl, rfl, cB_of ht hP9 hD9⟩, hS.F ht⟩) hS.2.2 dX12_first_49
  · have c_3 : ¬ ((r_1 : Int32) = 0) := c_3
    refine lv_iload hx hb dX12_first_9 (lv_at hl 4 rfl) ?_
    refine lv_iconst (v := 1) hx hb dX12_first_11 (by decide) ?_
    refine lv_bipush (v := 99) hx hb dX12_first_12 (by decide) ?_
    have hPc := hP.sub (ws' := []) [] rfl
    have hDc := hD.sub (ws' := []) [] (by decide) rfl
    have hFc := va_free (wc := []) hD hS hA [] rfl
    refine va_calli (va_runS (As := [.int p3, .int 1, .int 99]) (rest := []) ⟨hx, hb, hml, hown, hts⟩ (c_isIn l D k H.size p3 1 99 ) (va_cwS 3 hts (gd_S hgd m1781 m1782 m131 m1783) rfl rfl rfl (by decide +kernel) ⟨Nat.le_of_ble_eq_true rfl, Nat.le_of_ble_eq_true rfl⟩) (cQ_S hPc hKX hDc) rfl rfl hl.1 rfl (lv_room (Nat.le_of_ble_eq_true rfl)) dX12_first_14 ⟨Nat.le_of_ble_eq_true rfl, Nat.le_of_ble_eq_true rfl⟩) hS (fun q _ h => hFc q h) hFc (fun r_4 u t H1 locs ht hvm hw hB hz1 hk1 hS => ?_)
    obtain ⟨hP1, hD1⟩ := hB
    rw [ht] at hP1
    obtain ⟨hP, hD⟩ := va_join (wr := [(h0, .inr (12, M))]) (w1 := []) hP hD [] [0] rfl rfl (by decide) (by decide) hk1 hFc hP1 hD1
    generalize H1 = H at hP hS ⊢
    have hP : va_P D classes [(h0, .inr (12, M))] H := hP
    have hD : va_D A [(h0, .inr (12, M))] := hD
    refine W.widen (k := 0) (n := 0) (Nat.le_of_ble_eq_true rfl) (Nat.le_of_ble_eq_true rfl) ?_
    have h_5 := hw
    refine lv_if_eq (tgt := 47) hx hb dX12_first_17 (by decide) (fun c_6 => ?_) (fun c_6 => ?_)
    · have c_6 : (r_4 : Int32) = 0 := c_6
      refine lv_bipush (v := (-2)) hx hb dX12_first_47 (by decide) ?_
      have hP9 := hP.sub (ws' := [(h0, .inr (12, M))]) [0] rfl
      have hD9 := hD.sub (ws' := [(h0, .inr (12, M))]) [0] (by decide) rfl
      exact W.iret (v := (-2)) hx hb hr (fun t ht hW => ⟨⟨(-2), (), rfl, rfl, cB_of ht hP9 hD9⟩, hS.F ht⟩) hS.2.2 dX12_first_49
    · have c_6 : ¬ ((r_4 : Int32) = 0) := c_6
      refine lv_iload hx hb dX12_first_20 (lv_at hl 5 rfl) ?_
      refine lv_iconst (v := 0) hx hb dX12_first_22 (by decide) ?_
      refine lv_iload_n hx hb dX12_first_23 rfl (lv_at hl 1 rfl) ?_
      refine lv_iload_n hx hb dX12_first_24 rfl (lv_at hl 2 rfl) ?_
      refine lv_iadd hx hb dX12_first_25 ?_
      refine lv_iconst (v := 1) hx hb dX12_first_26 (by decide) ?_
      refine lv_isub hx hb dX12_first_27 ?_
      have hPc := hP.sub (ws' := []) [] rfl
      have hDc := hD.sub (ws' := []) [] (by decide) rfl
      have hFc := va_free (wc := []) hD hS hA [] rfl
      refine va_calli (va_runS (As := [.int p4, .int 0, .int ((p0 + p1) - 1)]) (rest := []) ⟨hx, hb, hml, hown, hts⟩ (c_isIn l D k H.size p4 0 ((p0 + p1) - 1) ) (va_cwS 3 hts (gd_S hgd m1781 m1782 m131 m1783) rfl rfl rfl (by decide +kernel) ⟨Nat.le_of_ble_eq_true rfl, Nat.le_of_ble_eq_true rfl⟩) (cQ_S hPc hKX hDc) rfl rfl hl.1 rfl (lv_room (Nat.le_of_ble_eq_true rfl)) dX12_first_28 ⟨Nat.le_of_ble_eq_true rfl, Nat.le_of_ble_eq_true rfl⟩) hS (fun q _ h => hFc q h) hFc (fun r_7 u t H1 locs ht hvm hw hB hz1 hk1 hS => ?_)
      obtain ⟨hP1, hD1⟩ := hB
      rw [ht] at hP1
      obtain ⟨hP, hD⟩ := va_join (wr := [(h0, .inr (12, M))]) (w1 := []) hP hD [] [0] rfl rfl (by decide) (by decide) hk1 hFc hP1 hD1
      generalize H1 = H at hP hS ⊢
      have hP : va_P D classes [(h0, .inr (12, M))] H := hP
      have hD : va_D A [(h0, .inr (12, M))] := hD
      refine W.widen (k := 0) (n := 0) (Nat.le_of_ble_eq_true rfl) (Nat.le_of_ble_eq_true rfl) ?_
      have h_8 := hw
      refine lv_if_eq (tgt := 47) hx hb dX12_first_31 (by decide) (fun c_9 => ?_) (fun c_9 => ?_)
      · have c_9 : (r_7 : Int32) = 0 := c_9
        refine lv_bipush (v := (-2)) hx hb dX12_first_47 (by decide) ?_
        have hP9 := hP.sub (ws' := [(h0, .inr (12, M))]) [0] rfl
        have hD9 := hD.sub (ws' := [(h0, .inr (12, M))]) [0] (by decide) rfl
        exact W.iret (v := (-2)) hx hb hr (fun t ht hW => ⟨⟨(-2), (), rfl, rfl, cB_of ht hP9 hD9⟩, hS.F ht⟩) hS.2.2 dX12_first_49
      · have c_9 : ¬ ((r_7 : Int32) = 0) := c_9
        exact absurd (first_bad (fun q => c_3 (h_2.trans q)) (fun q => c_6 (h_5.trans q)) (fun q => c_9 (h_8.trans q))) hbad

set_option maxHeartbeats 4000000 in
set_option maxRecDepth 100000 in
theorem c_X11_first_ok (l : Launch) (D : va_G) (k : KT) (sz : Nat) (h0 : Nat) (n0 n1 n2 n3 n4 : Nat) (F : List Value) (ob1 : 1 ≤ n0) (ob2 : n0 ≤ 60) (ob3 : n1 ≤ 9) (ob4 : 1 ≤ n2) (ob5 : n2 ≤ 12) (ob6 : 1 ≤ n3) (ob7 : n3 ≤ 99) (ob8 : n4 < n0 + n1) : Met l yX11_first (WS yX11_first cX11_first 9 (some .int)) ({ frames := 1, cells := 0, slots := 0, locals := 22 }) (va_Pc [.ref h0, .int (nI n0), .int (nI n1), .int (nI n2), .int (nI n3), .int (nI n4)] (cQ D k [(h0, .inr (11, F))] sz)) (va_Qi (fun (r : Int32) (_ : Unit) => r = (foG n0 (n0 + n1) n2 n3 (n0 + n1 + 1) 0 n4)) (fun (_ : Unit) t => cB D (va_A [(h0, .inr (11, F))] sz) [(h0, .inr (11, F))] t) (va_A [(h0, .inr (11, F))] sz)) 0 0 (va_A [(h0, .inr (11, F))] sz) := by
  refine Met.ofW (cc := cX11_first) (maxL := 9) (ret := (some .int)) (by decide) rfl ?_
  intro p e s m args below meth c s₁ B hml hv
  obtain ⟨rfl, hsz, hP, hKX, hD0⟩ := hv
  have hK := hKX.1
  have hx := B.exec
  have hb := B.bytes
  have hr := B.returns
  have hts := atoms_spec (ws := WS yX11_first cX11_first 9 (some .int)) B.pre
  have hgd : ∀ w ∈ gd, w ∈ WS yX11_first cX11_first 9 (some .int) := fun w h => List.mem_cons_of_mem _ h
  have hg : ∀ w ∈ gd, w.before _ s = true := fun w h => hts w (hgd w h)
  have hown : s.vm.findClass RX11 = some m.cls := findClass_of_methodNamed B.named
  have hlocks := B.notSynchronized
  subst hsz
  have hD := hD0.self (sz := s.heap.size)
  generalize hAe : va_A [(h0, .inr (11, F))] s.heap.size = A at hD ⊢
  have hA : ∀ q : Nat, s.heap.size ≤ q → A q := fun q h => by rw [← hAe]; exact Or.inr h
  have hS : va_S A s.heap s.heap [] := va_S.rf
  have hP : va_P D classes [(h0, .inr (11, F))] s.heap := hP
  have hl := lv_entry ([.ref h0, .int (nI n0), .int (nI n1), .int (nI n2), .int (nI n3), .int (nI n4)]) (n := 9) (Nat.le_of_ble_eq_true rfl)
  rw [lg_entry_eq]
  generalize (lg_sl ([.ref h0, .int (nI n0), .int (nI n1), .int (nI n2), .int (nI n3), .int (nI n4)]) ++ List.replicate (9 - (lg_sl ([.ref h0, .int (nI n0), .int (nI n1), .int (nI n2), .int (nI n3), .int (nI n4)])).length) Slot.unset).toArray = ls at hl ⊢
  have hl : lv_has ls 9 [(0, .ref h0), (1, .int (nI n0)), (2, .int (nI n1)), (3, .int (nI n2)), (4, .int (nI n3)), (5, .int (nI n4))] := hl
  refine lv_iload_n hx hb dX11_first_0 rfl (lv_at hl 1 rfl) ?_
  refine lv_iload_n hx hb dX11_first_1 rfl (lv_at hl 2 rfl) ?_
  refine lv_iload_n hx hb dX11_first_2 rfl (lv_at hl 3 rfl) ?_
  have hPc := hP.sub (ws' := []) [] rfl
  have hDc := hD.sub (ws' := []) [] (by decide) rfl
  have hFc := va_free (wc := []) hD hS hA [] rfl
  refine va_calli (va_runS (As := [.int (nI n0), .int (nI n1), .int (nI n2)]) (rest := []) ⟨hx, hb, hml, hown, hts⟩ (c_endless_ok l D k s.heap.size n0 n1 n2 (by omega) (by omega) (by omega) (by omega) (by omega)) (va_cwS 3 hts (gd_S hgd m1069 m1070 m117 m1071) rfl rfl rfl (by decide +kernel) ⟨Nat.le_of_ble_eq_true rfl, Nat.le_of_ble_eq_true rfl⟩) (cQ_S hPc hKX hDc) rfl rfl hl.1 rfl (lv_room (Nat.le_of_ble_eq_true rfl)) dX11_first_3 ⟨Nat.le_of_ble_eq_true rfl, Nat.le_of_ble_eq_true rfl⟩) hS (fun q _ h => hFc q h) hFc (fun r_1 u t H1 locs ht hvm hw hB hz1 hk1 hS => ?_)
  obtain ⟨hP1, hD1⟩ := hB
  rw [ht] at hP1
  obtain ⟨hP, hD⟩ := va_join (wr := [(h0, .inr (11, F))]) (w1 := []) hP hD [] [0] rfl rfl (by decide) (by decide) hk1 hFc hP1 hD1
  generalize H1 = H at hP hS ⊢
  have hP : va_P D classes [(h0, .inr (11, F))] H := hP
  have hD : va_D A [(h0, .inr (11, F))] := hD
  refine W.widen (k := 0) (n := 0) (Nat.le_of_ble_eq_true rfl) (Nat.le_of_ble_eq_true rfl) ?_
  subst hw
  refine lv_if_eq (tgt := 35) hx hb dX11_first_6 (by decide) (fun c_2 => ?_) (fun c_2 => ?_)
  · exact absurd c_2 (by decide)
  · have c_2 : ¬ ((1 : Int32) = 0) := c_2
    refine lv_iload hx hb dX11_first_9 (lv_at hl 4 rfl) ?_
    refine lv_iconst (v := 1) hx hb dX11_first_11 (by decide) ?_
    refine lv_icmp_lt (tgt := 35) hx hb dX11_first_12 (by decide) (fun c_3 => ?_) (fun c_3 => ?_)
    · exact absurd c_3 (nI_nlt (a := n3) (b := 1) (by omega) (by omega))
    · have c_3 : ¬ (((nI n3) : Int32) < 1) := c_3
      refine lv_iload hx hb dX11_first_15 (lv_at hl 4 rfl) ?_
      refine lv_bipush (v := 99) hx hb dX11_first_17 (by decide) ?_
      refine lv_icmp_gt (tgt := 35) hx hb dX11_first_19 (by decide) (fun c_4 => ?_) (fun c_4 => ?_)
      · exact absurd c_4 (nI_nlt (a := 99) (b := n3) (by omega) (by omega))
      · have c_4 : ¬ ((99 : Int32) < (nI n3)) := c_4
        refine lv_iload hx hb dX11_first_22 (lv_at hl 5 rfl) ?_
        refine lv_if_lt (tgt := 35) hx hb dX11_first_24 (by decide) (fun c_5 => ?_) (fun c_5 => ?_)
        · exact absurd c_5 (nI_nlt (a := n4) (b := 0) (by omega) (by omega))
        · have c_5 : ¬ (((nI n4) : Int32) < 0) := c_5
          refine lv_iload hx hb dX11_first_27 (lv_at hl 5 rfl) ?_
          refine lv_iload_n hx hb dX11_first_29 rfl (lv_at hl 1 rfl) ?_
          refine lv_iload_n hx hb dX11_first_30 rfl (lv_at hl 2 rfl) ?_
          refine lv_iadd hx hb dX11_first_31 ?_
          refine lv_topi (fun y_6 ey_6 => ?_)
          obtain rfl : y_6 = (nI (n0 + n1)) := ey_6.trans (nI_add _ _)
          refine lv_icmp_lt (tgt := 38) hx hb dX11_first_32 (by decide) (fun c_7 => ?_) (fun c_7 => ?_)
          · have c_7 : ((nI n4) : Int32) < (nI (n0 + n1)) := c_7
            refine lv_iload_n hx hb dX11_first_38 rfl (lv_at hl 1 rfl) ?_
            refine lv_iload_n hx hb dX11_first_39 rfl (lv_at hl 2 rfl) ?_
            refine lv_iadd hx hb dX11_first_40 ?_
            refine lv_topi (fun y_8 ey_8 => ?_)
            obtain rfl : y_8 = (nI (n0 + n1)) := ey_8.trans (nI_add _ _)
            refine lv_istore (lv' := [(6, .int (nI (n0 + n1))), (0, .ref h0), (1, .int (nI n0)), (2, .int (nI n1)), (3, .int (nI n2)), (4, .int (nI n3)), (5, .int (nI n4))]) hx hb dX11_first_41 hl (by decide) rfl (fun ls hl => ?_)
            refine lv_iload hx hb dX11_first_43 (lv_at hl 6 rfl) ?_
            refine lv_istore (lv' := [(7, .int (nI n4)), (6, .int (nI (n0 + n1))), (0, .ref h0), (1, .int (nI n0)), (2, .int (nI n1)), (3, .int (nI n2)), (4, .int (nI n3)), (5, .int (nI n4))]) hx hb dX11_first_45 hl (by decide) rfl (fun ls hl => ?_)
            refine lv_iconst (v := 0) hx hb dX11_first_47 (by decide) ?_
            refine lv_istore (lv' := [(8, .int 0), (7, .int (nI n4)), (6, .int (nI (n0 + n1))), (0, .ref h0), (1, .int (nI n0)), (2, .int (nI n1)), (3, .int (nI n2)), (4, .int (nI n3)), (5, .int (nI n4))]) hx hb dX11_first_48 hl (by decide) rfl (fun ls hl => ?_)
            refine loop_W (σ := Nat × Nat) (fun x H locs ls => (x.1 ≤ n0 + n1) ∧ (x.2 < n0 + n1) ∧ (clG n0 n1 n2 n3 (n0 + n1) 0 n4 = clG n0 n1 n2 n3 (n0 + n1 - x.1) x.1 x.2) ∧ va_P D classes [(h0, .inr (11, F))] H ∧ va_D A [(h0, .inr (11, F))] ∧ va_S A s.heap H locs ∧ lv_has ls 9 [(1, .int (nI n0)), (2, .int (nI n1)), (3, .int (nI n2)), (4, .int (nI n3)), (6, .int (nI (n0 + n1))), (7, .int (nI x.2)), (8, .int (nI x.1))]) (fun x => n0 + n1 - x.1) (fun x H locs ls hI ih => ?_) (0, n4) _ _ ls ⟨Nat.zero_le _, by (try dsimp only); omega, rfl, hP, hD, hS, lv_sub hl [4, 5, 6, 7, 2, 1, 0] rfl⟩
            obtain ⟨i, h⟩ := x
            obtain ⟨hi, hh, hf, hP, hD, hS, hl⟩ := hI
            have hi : i ≤ n0 + n1 := hi
            have hh : h < n0 + n1 := hh
            have hf : clG n0 n1 n2 n3 (n0 + n1) 0 n4 = clG n0 n1 n2 n3 (n0 + n1 - i) i h := hf
            have hl : lv_has ls 9 [(1, .int (nI n0)), (2, .int (nI n1)), (3, .int (nI n2)), (4, .int (nI n3)), (6, .int (nI (n0 + n1))), (7, .int (nI h)), (8, .int (nI i))] := hl
            refine lv_iload hx hb dX11_first_50 (lv_at hl 6 rfl) ?_
            refine lv_iload hx hb dX11_first_52 (lv_at hl 4 rfl) ?_
            refine lv_icmp_ge (tgt := 88) hx hb dX11_first_54 (by decide) (fun c_9 => ?_) (fun c_9 => ?_)
            · have c_9 : ((nI (n0 + n1)) : Int32) ≤ (nI i) := c_9
              have hgt : i = n0 + n1 := by have := (nI_leI (a := n0 + n1) (b := i) (by omega) (by omega)).mp c_9; omega
              refine lv_iconst (v := (-1)) hx hb dX11_first_88 (by decide) ?_
              have hP9 := hP.sub (ws' := [(h0, .inr (11, F))]) [0] rfl
              have hD9 := hD.sub (ws' := [(h0, .inr (11, F))]) [0] (by decide) rfl
              exact W.iret (v := (-1)) hx hb hr (fun t ht hW => ⟨⟨(-1), (), rfl, by rw [← first_same (by omega) (by omega) (by omega), hf, hgt, Nat.sub_self]; rfl, cB_of ht hP9 hD9⟩, hS.F ht⟩) hS.2.2 dX11_first_89
            · have c_9 : ¬ (((nI (n0 + n1)) : Int32) ≤ (nI i)) := c_9
              have hle : i < n0 + n1 := by have := n_nle (a := n0 + n1) (b := i) (by omega) (by omega) c_9; omega
              refine lv_iload_n hx hb dX11_first_57 rfl (lv_at hl 1 rfl) ?_
              refine lv_if_le (tgt := 72) hx hb dX11_first_58 (by decide) (fun c_10 => ?_) (fun c_10 => ?_)
              · have c_10 : ((nI n1) : Int32) ≤ 0 := c_10
                have hpl : ¬ (0 < n1 ∧ n0 < h + n2) := by have := (nI_leI (a := n1) (b := 0) (by omega) (by omega)).mp c_10; omega
                refine lv_iload hx hb dX11_first_72 (lv_at hl 5 rfl) ?_
                refine lv_iload hx hb dX11_first_74 (lv_at hl 3 rfl) ?_
                refine lv_iadd hx hb dX11_first_76 ?_
                refine lv_topi (fun y_11 ey_11 => ?_)
                obtain rfl : y_11 = (nI (h + n3)) := ey_11.trans (nI_add _ _)
                refine lv_iload hx hb dX11_first_77 (lv_at hl 4 rfl) ?_
                refine lv_irem hx hb dX11_first_79 (nI_ne0 (by omega) (by omega)) ?_
                refine lv_topi (fun y_12 ey_12 => ?_)
                obtain rfl : y_12 = (nI ((h + n3) % (n0 + n1))) := ey_12.trans (pk_rem (by omega) (by omega) (by omega))
                refine lv_istore (lv' := [(7, .int (nI ((h + n3) % (n0 + n1)))), (1, .int (nI n0)), (2, .int (nI n1)), (3, .int (nI n2)), (4, .int (nI n3)), (6, .int (nI (n0 + n1))), (8, .int (nI i))]) hx hb dX11_first_80 hl (by decide) rfl (fun ls hl => ?_)
                refine lv_iinc (v := (nI (i + 1))) (lv' := [(8, .int (nI (i + 1))), (7, .int (nI ((h + n3) % (n0 + n1)))), (1, .int (nI n0)), (2, .int (nI n1)), (3, .int (nI n2)), (4, .int (nI n3)), (6, .int (nI (n0 + n1)))]) hx hb dX11_first_82 hl (k := 6) rfl (nI_1 i) (by decide) rfl (fun ls hl => ?_)
                refine lv_goto (tgt := 50) hx hb dX11_first_85 (by decide) ?_
                exact ih (i + 1, (h + n3) % (n0 + n1)) _ _ _ ⟨by (try dsimp only); omega, Nat.mod_lt _ (by (try dsimp only); omega), (cl_next hle hf hpl), hP, hD, hS, lv_sub hl [2, 3, 4, 5, 6, 1, 0] rfl⟩ (by show n0 + n1 - (i + 1) < n0 + n1 - i; omega)
              · have c_10 : ¬ (((nI n1) : Int32) ≤ 0) := c_10
                refine lv_iload hx hb dX11_first_61 (lv_at hl 5 rfl) ?_
                refine lv_iload_n hx hb dX11_first_63 rfl (lv_at hl 2 rfl) ?_
                refine lv_iadd hx hb dX11_first_64 ?_
                refine lv_topi (fun y_13 ey_13 => ?_)
                obtain rfl : y_13 = (nI (h + n2)) := ey_13.trans (nI_add _ _)
                refine lv_iload_n hx hb dX11_first_65 rfl (lv_at hl 0 rfl) ?_
                refine lv_icmp_le (tgt := 72) hx hb dX11_first_66 (by decide) (fun c_14 => ?_) (fun c_14 => ?_)
                · have c_14 : ((nI (h + n2)) : Int32) ≤ (nI n0) := c_14
                  have hpl : ¬ (0 < n1 ∧ n0 < h + n2) := by have := (nI_leI (a := h + n2) (b := n0) (by omega) (by omega)).mp c_14; omega
                  refine lv_iload hx hb dX11_first_72 (lv_at hl 5 rfl) ?_
                  refine lv_iload hx hb dX11_first_74 (lv_at hl 3 rfl) ?_
                  refine lv_iadd hx hb dX11_first_76 ?_
                  refine lv_topi (fun y_15 ey_15 => ?_)
                  obtain rfl : y_15 = (nI (h + n3)) := ey_15.trans (nI_add _ _)
                  refine lv_iload hx hb dX11_first_77 (lv_at hl 4 rfl) ?_
                  refine lv_irem hx hb dX11_first_79 (nI_ne0 (by omega) (by omega)) ?_
                  refine lv_topi (fun y_16 ey_16 => ?_)
                  obtain rfl : y_16 = (nI ((h + n3) % (n0 + n1))) := ey_16.trans (pk_rem (by omega) (by omega) (by omega))
                  refine lv_istore (lv' := [(7, .int (nI ((h + n3) % (n0 + n1)))), (1, .int (nI n0)), (2, .int (nI n1)), (3, .int (nI n2)), (4, .int (nI n3)), (6, .int (nI (n0 + n1))), (8, .int (nI i))]) hx hb dX11_first_80 hl (by decide) rfl (fun ls hl => ?_)
                  refine lv_iinc (v := (nI (i + 1))) (lv' := [(8, .int (nI (i + 1))), (7, .int (nI ((h + n3) % (n0 + n1)))), (1, .int (nI n0)), (2, .int (nI n1)), (3, .int (nI n2)), (4, .int (nI n3)), (6, .int (nI (n0 + n1)))]) hx hb dX11_first_82 hl (k := 6) rfl (nI_1 i) (by decide) rfl (fun ls hl => ?_)
                  refine lv_goto (tgt := 50) hx hb dX11_first_85 (by decide) ?_
                  exact ih (i + 1, (h + n3) % (n0 + n1)) _ _ _ ⟨by (try dsimp only); omega, Nat.mod_lt _ (by (try dsimp only); omega), (cl_next hle hf hpl), hP, hD, hS, lv_sub hl [2, 3, 4, 5, 6, 1, 0] rfl⟩ (by show n0 + n1 - (i + 1) < n0 + n1 - i; omega)
                · have c_14 : ¬ (((nI (h + n2)) : Int32) ≤ (nI n0)) := c_14
                  have hpl : 0 < n1 ∧ n0 < h + n2 := ⟨by have := n_nle (a := n1) (b := 0) (by omega) (by omega) c_10; omega, by have := n_nle (a := h + n2) (b := n0) (by omega) (by omega) c_14; omega⟩
                  refine lv_iload hx hb dX11_first_69 (lv_at hl 6 rfl) ?_
                  have hP9 := hP.sub (ws' := [(h0, .inr (11, F))]) [0] rfl
                  have hD9 := hD.sub (ws' := [(h0, .inr (11, F))]) [0] (by decide) rfl
                  exact W.iret (v := (nI i)) hx hb hr (fun t ht hW => ⟨⟨(nI i), (), rfl, by rw [← first_same (by omega) (by omega) (by omega), hf, cl_out hle hpl], cB_of ht hP9 hD9⟩, hS.F ht⟩) hS.2.2 dX11_first_71
          · exact absurd (nI_lt (by omega) (by omega)) c_7

set_option maxHeartbeats 4000000 in
set_option maxRecDepth 100000 in
theorem c_X12_first_ok (l : Launch) (D : va_G) (k : KT) (sz : Nat) (h0 : Nat) (n0 n1 n2 n3 n4 : Nat) (M : List Value) (ob1 : 1 ≤ n0) (ob2 : n0 ≤ 60) (ob3 : n1 ≤ 9) (ob4 : 1 ≤ n2) (ob5 : n2 ≤ 12) (ob6 : 1 ≤ n3) (ob7 : n3 ≤ 99) (ob8 : n4 < n0 + n1) : Met l yX12_first (WS yX12_first cX12_first 6 (some .int)) ({ frames := 2, cells := 0, slots := 0, locals := 51 }) (va_Pc [.ref h0, .int (nI n0), .int (nI n1), .int (nI n2), .int (nI n3), .int (nI n4)] (cQ D k [(h0, .inr (12, M))] sz)) (va_Qi (fun (r : Int32) (_ : Unit) => r = (foG n0 (n0 + n1) n2 n3 (n0 + n1 + 1) 0 n4)) (fun (_ : Unit) t => cB D (va_A [(h0, .inr (12, M))] sz) [(h0, .inr (12, M))] t) (va_A [(h0, .inr (12, M))] sz)) 0 0 (va_A [(h0, .inr (12, M))] sz) := by
  refine Met.ofW (cc := cX12_first) (maxL := 6) (ret := (some .int)) (by decide) rfl ?_
  intro p e s m args below meth c s₁ B hml hv
  obtain ⟨rfl, hsz, hP, hKX, hD0⟩ := hv
  have hK := hKX.1
  have hx := B.exec
  have hb := B.bytes
  have hr := B.returns
  have hts := atoms_spec (ws := WS yX12_first cX12_first 6 (some .int)) B.pre
  have hgd : ∀ w ∈ gd, w ∈ WS yX12_first cX12_first 6 (some .int) := fun w h => List.mem_cons_of_mem _ h
  have hg : ∀ w ∈ gd, w.before _ s = true := fun w h => hts w (hgd w h)
  have hown : s.vm.findClass RX12 = some m.cls := findClass_of_methodNamed B.named
  have hlocks := B.notSynchronized
  subst hsz
  have hD := hD0.self (sz := s.heap.size)
  generalize hAe : va_A [(h0, .inr (12, M))] s.heap.size = A at hD ⊢
  have hA : ∀ q : Nat, s.heap.size ≤ q → A q := fun q h => by rw [← hAe]; exact Or.inr h
  have hS : va_S A s.heap s.heap [] := va_S.rf
  have hP : va_P D classes [(h0, .inr (12, M))] s.heap := hP
  have hl := lv_entry ([.ref h0, .int (nI n0), .int (nI n1), .int (nI n2), .int (nI n3), .int (nI n4)]) (n := 6) (Nat.le_of_ble_eq_true rfl)
  rw [lg_entry_eq]
  generalize (lg_sl ([.ref h0, .int (nI n0), .int (nI n1), .int (nI n2), .int (nI n3), .int (nI n4)]) ++ List.replicate (6 - (lg_sl ([.ref h0, .int (nI n0), .int (nI n1), .int (nI n2), .int (nI n3), .int (nI n4)])).length) Slot.unset).toArray = ls at hl ⊢
  have hl : lv_has ls 6 [(0, .ref h0), (1, .int (nI n0)), (2, .int (nI n1)), (3, .int (nI n2)), (4, .int (nI n3)), (5, .int (nI n4))] := hl
  refine lv_iload_n hx hb dX12_first_0 rfl (lv_at hl 1 rfl) ?_
  refine lv_iload_n hx hb dX12_first_1 rfl (lv_at hl 2 rfl) ?_
  refine lv_iload_n hx hb dX12_first_2 rfl (lv_at hl 3 rfl) ?_
  have hPc := hP.sub (ws' := []) [] rfl
  have hDc := hD.sub (ws' := []) [] (by decide) rfl
  have hFc := va_free (wc := []) hD hS hA [] rfl
  refine va_calli (va_runS (As := [.int (nI n0), .int (nI n1), .int (nI n2)]) (rest := []) ⟨hx, hb, hml, hown, hts⟩ (c_slabs_ok l D k s.heap.size n0 n1 n2 (by omega) (by omega) (by omega) (by omega) (by omega)) (va_cwS 3 hts (gd_S hgd m1907 m1908 m131 m1909) rfl rfl rfl (by decide +kernel) ⟨Nat.le_of_ble_eq_true rfl, Nat.le_of_ble_eq_true rfl⟩) (cQ_S hPc hKX hDc) rfl rfl hl.1 rfl (lv_room (Nat.le_of_ble_eq_true rfl)) dX12_first_3 ⟨Nat.le_of_ble_eq_true rfl, Nat.le_of_ble_eq_true rfl⟩) hS (fun q _ h => hFc q h) hFc (fun r_1 u t H1 locs ht hvm hw hB hz1 hk1 hS => ?_)
  obtain ⟨hP1, hD1⟩ := hB
  rw [ht] at hP1
  obtain ⟨hP, hD⟩ := va_join (wr := [(h0, .inr (12, M))]) (w1 := []) hP hD [] [0] rfl rfl (by decide) (by decide) hk1 hFc hP1 hD1
  generalize H1 = H at hP hS ⊢
  have hP : va_P D classes [(h0, .inr (12, M))] H := hP
  have hD : va_D A [(h0, .inr (12, M))] := hD
  refine W.widen (k := 0) (n := 0) (Nat.le_of_ble_eq_true rfl) (Nat.le_of_ble_eq_true rfl) ?_
  subst hw
  refine lv_if_eq (tgt := 47) hx hb dX12_first_6 (by decide) (fun c_2 => ?_) (fun c_2 => ?_)
  · exact absurd c_2 (by decide)
  · have c_2 : ¬ ((1 : Int32) = 0) := c_2
    refine lv_iload hx hb dX12_first_9 (lv_at hl 4 rfl) ?_
    refine lv_iconst (v := 1) hx hb dX12_first_11 (by decide) ?_
    refine lv_bipush (v := 99) hx hb dX12_first_12 (by decide) ?_
    have hPc := hP.sub (ws' := []) [] rfl
    have hDc := hD.sub (ws' := []) [] (by decide) rfl
    have hFc := va_free (wc := []) hD hS hA [] rfl
    refine va_calli (va_runS (As := [.int (nI n3), .int 1, .int 99]) (rest := []) ⟨hx, hb, hml, hown, hts⟩ (c_isIn_ok l D k H.size (nI n3) 1 99 (nI_nlt (a := n3) (b := 1) (by omega) (by omega)) (nI_nlt (a := 99) (b := n3) (by omega) (by omega))) (va_cwS 3 hts (gd_S hgd m1781 m1782 m131 m1783) rfl rfl rfl (by decide +kernel) ⟨Nat.le_of_ble_eq_true rfl, Nat.le_of_ble_eq_true rfl⟩) (cQ_S hPc hKX hDc) rfl rfl hl.1 rfl (lv_room (Nat.le_of_ble_eq_true rfl)) dX12_first_14 ⟨Nat.le_of_ble_eq_true rfl, Nat.le_of_ble_eq_true rfl⟩) hS (fun q _ h => hFc q h) hFc (fun r_3 u t H1 locs ht hvm hw hB hz1 hk1 hS => ?_)
    obtain ⟨hP1, hD1⟩ := hB
    rw [ht] at hP1
    obtain ⟨hP, hD⟩ := va_join (wr := [(h0, .inr (12, M))]) (w1 := []) hP hD [] [0] rfl rfl (by decide) (by decide) hk1 hFc hP1 hD1
    generalize H1 = H at hP hS ⊢
    have hP : va_P D classes [(h0, .inr (12, M))] H := hP
    have hD : va_D A [(h0, .inr (12, M))] := hD
    refine W.widen (k := 0) (n := 0) (Nat.le_of_ble_eq_true rfl) (Nat.le_of_ble_eq_true rfl) ?_
    subst hw
    refine lv_if_eq (tgt := 47) hx hb dX12_first_17 (by decide) (fun c_4 => ?_) (fun c_4 => ?_)
    · exact absurd c_4 (by decide)
    · have c_4 : ¬ ((1 : Int32) = 0) := c_4
      refine lv_iload hx hb dX12_first_20 (lv_at hl 5 rfl) ?_
      refine lv_iconst (v := 0) hx hb dX12_first_22 (by decide) ?_
      refine lv_iload_n hx hb dX12_first_23 rfl (lv_at hl 1 rfl) ?_
      refine lv_iload_n hx hb dX12_first_24 rfl (lv_at hl 2 rfl) ?_
      refine lv_iadd hx hb dX12_first_25 ?_
      refine lv_topi (fun y_5 ey_5 => ?_)
      obtain rfl : y_5 = (nI (n0 + n1)) := ey_5.trans (nI_add _ _)
      refine lv_iconst (v := 1) hx hb dX12_first_26 (by decide) ?_
      refine lv_isub hx hb dX12_first_27 ?_
      refine lv_topi (fun y_6 ey_6 => ?_)
      obtain rfl : y_6 = (nI (n0 + n1 - 1)) := ey_6.trans (pk_sub (a := n0 + n1) (b := 1) (by omega))
      have hPc := hP.sub (ws' := []) [] rfl
      have hDc := hD.sub (ws' := []) [] (by decide) rfl
      have hFc := va_free (wc := []) hD hS hA [] rfl
      refine va_calli (va_runS (As := [.int (nI n4), .int 0, .int (nI (n0 + n1 - 1))]) (rest := []) ⟨hx, hb, hml, hown, hts⟩ (c_isIn_ok l D k H.size (nI n4) 0 (nI (n0 + n1 - 1)) (nI_nlt (a := n4) (b := 0) (by omega) (by omega)) (nI_nlt (a := (n0 + n1 - 1)) (b := n4) (by omega) (by omega))) (va_cwS 3 hts (gd_S hgd m1781 m1782 m131 m1783) rfl rfl rfl (by decide +kernel) ⟨Nat.le_of_ble_eq_true rfl, Nat.le_of_ble_eq_true rfl⟩) (cQ_S hPc hKX hDc) rfl rfl hl.1 rfl (lv_room (Nat.le_of_ble_eq_true rfl)) dX12_first_28 ⟨Nat.le_of_ble_eq_true rfl, Nat.le_of_ble_eq_true rfl⟩) hS (fun q _ h => hFc q h) hFc (fun r_7 u t H1 locs ht hvm hw hB hz1 hk1 hS => ?_)
      obtain ⟨hP1, hD1⟩ := hB
      rw [ht] at hP1
      obtain ⟨hP, hD⟩ := va_join (wr := [(h0, .inr (12, M))]) (w1 := []) hP hD [] [0] rfl rfl (by decide) (by decide) hk1 hFc hP1 hD1
      generalize H1 = H at hP hS ⊢
      have hP : va_P D classes [(h0, .inr (12, M))] H := hP
      have hD : va_D A [(h0, .inr (12, M))] := hD
      refine W.widen (k := 0) (n := 0) (Nat.le_of_ble_eq_true rfl) (Nat.le_of_ble_eq_true rfl) ?_
      subst hw
      refine lv_if_eq (tgt := 47) hx hb dX12_first_31 (by decide) (fun c_8 => ?_) (fun c_8 => ?_)
      · exact absurd c_8 (by decide)
      · have c_8 : ¬ ((1 : Int32) = 0) := c_8
        refine lv_iload_n hx hb dX12_first_34 rfl (lv_at hl 1 rfl) ?_
        refine lv_iload_n hx hb dX12_first_35 rfl (lv_at hl 2 rfl) ?_
        refine lv_iload_n hx hb dX12_first_36 rfl (lv_at hl 3 rfl) ?_
        refine lv_iload hx hb dX12_first_37 (lv_at hl 4 rfl) ?_
        refine lv_iload hx hb dX12_first_39 (lv_at hl 5 rfl) ?_
        have hPc := hP.sub (ws' := []) [] rfl
        have hDc := hD.sub (ws' := []) [] (by decide) rfl
        have hFc := va_free (wc := []) hD hS hA [] rfl
        refine va_calli (va_runS (As := [.int (nI n0), .int (nI n1), .int (nI n2), .int (nI n3), .int (nI n4)]) (rest := []) ⟨hx, hb, hml, hown, hts⟩ (c_firstOf l D k H.size n0 n1 n2 n3 n4 (by omega) (by omega) (by omega) (by omega) (by omega) (by omega) (by omega) (by omega)) (va_cwS 5 hts (gd_S hgd m1910 m1911 m131 m1912) rfl rfl rfl (by decide +kernel) ⟨Nat.le_of_ble_eq_true rfl, Nat.le_of_ble_eq_true rfl⟩) (cQ_S hPc hKX hDc) rfl rfl hl.1 rfl (lv_room (Nat.le_of_ble_eq_true rfl)) dX12_first_41 ⟨Nat.le_of_ble_eq_true rfl, Nat.le_of_ble_eq_true rfl⟩) hS (fun q _ h => hFc q h) hFc (fun r_9 u t H1 locs ht hvm hw hB hz1 hk1 hS => ?_)
        obtain ⟨hP1, hD1⟩ := hB
        rw [ht] at hP1
        obtain ⟨hP, hD⟩ := va_join (wr := [(h0, .inr (12, M))]) (w1 := []) hP hD [] [0] rfl rfl (by decide) (by decide) hk1 hFc hP1 hD1
        generalize H1 = H at hP hS ⊢
        have hP : va_P D classes [(h0, .inr (12, M))] H := hP
        have hD : va_D A [(h0, .inr (12, M))] := hD
        refine W.widen (k := 0) (n := 0) (Nat.le_of_ble_eq_true rfl) (Nat.le_of_ble_eq_true rfl) ?_
        subst hw
        refine lv_goto (tgt := 49) hx hb dX12_first_44 (by decide) ?_
        have hP9 := hP.sub (ws' := [(h0, .inr (12, M))]) [0] rfl
        have hD9 := hD.sub (ws' := [(h0, .inr (12, M))]) [0] (by decide) rfl
        exact W.iret (v := (foG n0 (n0 + n1) n2 n3 (n0 + n1 + 1) 0 n4)) hx hb hr (fun t ht hW => ⟨⟨(foG n0 (n0 + n1) n2 n3 (n0 + n1 + 1) 0 n4), (), rfl, rfl, cB_of ht hP9 hD9⟩, hS.F ht⟩) hS.2.2 dX12_first_49
