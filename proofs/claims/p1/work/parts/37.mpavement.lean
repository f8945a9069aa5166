set_option maxHeartbeats 4000000 in
set_option maxRecDepth 100000 in
theorem c_X12_here (l : Launch) (D : va_G) (k : ClassId × ClassId × ClassId × ClassId) (sz : Nat) (h0 : Nat) (M : List Value) (g_M_at : M[4]? = some (.int 0)) (g_M_size : M[5]? = some (.int 0)) : Met l yX12_here (WS yX12_here cX12_here 2 (some .int)) ({ frames := 0, cells := 0, slots := 0, locals := 0 }) (va_Pc [.ref h0, .int 0] (cP D k [(h0, .inr (12, M))] sz)) (va_Qi (fun (r : Int32) (_ : Unit) => r = (-1)) (fun (_ : Unit) t => cB D (va_A [(h0, .inr (12, M))] sz) [(h0, .inr (12, M))] t) (va_A [(h0, .inr (12, M))] sz)) 0 0 (va_A [(h0, .inr (12, M))] sz) := by
  refine Met.ofW (cc := cX12_here) (maxL := 2) (ret := (some .int)) (by decide) rfl ?_
  intro p e s m args below meth c s₁ B hml hv
  obtain ⟨rfl, hsz, hP, hKX, hD0⟩ := hv
  have hK := hKX.1
  have hx := B.exec
  have hb := B.bytes
  have hr := B.returns
  have hts := atoms_spec (ws := WS yX12_here cX12_here 2 (some .int)) B.pre
  have hgd : ∀ w ∈ gd, w ∈ WS yX12_here cX12_here 2 (some .int) := fun w h => List.mem_cons_of_mem _ h
  have hg : ∀ w ∈ gd, w.before _ s = true := fun w h => hts w (hgd w h)
  have hown : s.vm.findClass RX12 = some m.cls := findClass_of_methodNamed B.named
  have hlocks := B.notSynchronized
  subst hsz
  have hD := hD0.self (sz := s.heap.size)
  generalize hAe : va_A [(h0, .inr (12, M))] s.heap.size = A at hD ⊢
  have hA : ∀ q : Nat, s.heap.size ≤ q → A q := fun q h => by rw [← hAe]; exact Or.inr h
  have hS : va_S A s.heap s.heap [] := va_S.rf
  have hP : va_P D classes [(h0, .inr (12, M))] s.heap := hP
  have hl := lv_entry ([.ref h0, .int 0]) (n := 2) (Nat.le_of_ble_eq_true rfl)
  rw [lg_entry_eq]
  generalize (lg_sl ([.ref h0, .int 0]) ++ List.replicate (2 - (lg_sl ([.ref h0, .int 0])).length) Slot.unset).toArray = ls at hl ⊢
  have hl : lv_has ls 2 [(0, .ref h0), (1, .int 0)] := hl
  refine lv_aload_n hx hb dX12_here_0 rfl (lv_at hl 0 rfl) ?_
  refine va_get (D := D) (ci := 12) (v := .int 0) (C := RX12) (T := TX12) (N := 89) hx hb hg iX12 hown hK hP 0 rfl rfl 4 (by decide) (hg (Cond.fieldLink RX12 185 "SlabWalkModel" "at" "I") m1318) (fun _ h9 => h9) g_M_at dX12_here_1 ?_
  refine lv_iload_n hx hb dX12_here_4 rfl (lv_at hl 1 rfl) ?_
  refine lv_iadd hx hb dX12_here_5 ?_
  refine lv_topi (fun y_1 ey_1 => ?_)
  obtain rfl : y_1 = 0 := ey_1.trans (by decide)
  refine lv_aload_n hx hb dX12_here_6 rfl (lv_at hl 0 rfl) ?_
  refine va_get (D := D) (ci := 12) (v := .int 0) (C := RX12) (T := TX12) (N := 89) hx hb hg iX12 hown hK hP 0 rfl rfl 5 (by decide) (hg (Cond.fieldLink RX12 188 "SlabWalkModel" "size" "I") m1319) (fun _ h9 => h9) g_M_size dX12_here_7 ?_
  refine lv_icmp_ge (tgt := 27) hx hb dX12_here_10 (by decide) (fun c_2 => ?_) (fun c_2 => ?_)
  · have c_2 : (0 : Int32) ≤ 0 := c_2
    refine lv_iconst (v := (-1)) hx hb dX12_here_27 (by decide) ?_
    have hP9 := hP.sub (ws' := [(h0, .inr (12, M))]) [0] rfl
    have hD9 := hD.sub (ws' := [(h0, .inr (12, M))]) [0] (by decide) rfl
    exact W.iret (v := (-1)) hx hb hr (fun t ht hW => ⟨⟨(-1), (), rfl, rfl, cB_of ht hP9 hD9⟩, hS.F ht⟩) hS.2.2 dX12_here_28
  · exact absurd (by decide) c_2

set_option maxHeartbeats 4000000 in
set_option maxRecDepth 100000 in
theorem c_X12_token (l : Launch) (D : va_G) (k : ClassId × ClassId × ClassId × ClassId) (sz : Nat) (h0 ns ss nw hbx : Nat) (M : List Value) (g_M_taped : M[1]? = some (.int 0)) (g_M_fault : M[2]? = some (.int 0)) (g_M_nUnits : M[21]? = some (.int 0)) (g_M_units : M[22]? = some (.int 0)) (g_M_faultPlace : M[3]? = some (.int (-1))) (g_M_nSlips : M[34]? = some (.ref ns)) (g_M_at : M[4]? = some (.int 0)) (g_M_slips : M[44]? = some (.ref ss)) (g_M_nStreets : M[45]? = some (.int 0)) (g_M_nWalkers : M[46]? = some (.int 0)) (g_M_nRules : M[47]? = some (.int 0)) (g_M_nHand : M[48]? = some (.int 30)) (g_M_nSlack : M[49]? = some (.int 10)) (g_M_size : M[5]? = some (.int 0)) (g_M_nDraw : M[50]? = some (.int 0)) (g_M_nOnce : M[51]? = some (.int 0)) (g_M_streets : M[52]? = some (.int 0)) (g_M_walkers : M[53]? = some (.int 0)) (g_M_rules : M[54]? = some (.int 0)) (g_M_hand : M[55]? = some (.int 30)) (g_M_slack : M[56]? = some (.int 10)) (g_M_sort : M[6]? = some (.int 0)) (g_M_lain : M[66]? = some (.int 0)) (g_M_place : M[7]? = some (.int 0)) (g_M_now : M[76]? = some (.ref nw)) (g_M_acts : M[78]? = some (.int 0)) (g_M_undone : M[79]? = some (.int 0)) (g_M_number : M[8]? = some (.int 0)) (g_M_sights : M[85]? = some (.int 0)) (g_M_hasBox : M[87]? = some (.ref hbx)) (g_M_word : M[9]? = some (.long 0)) : Met l yX12_token (WS yX12_token cX12_token 3 none) ({ frames := 1, cells := 0, slots := 0, locals := 21 }) (va_Pc [.ref h0] (cP D k [(h0, .inr (12, M))] sz)) (va_Qv (fun _ : Unit => True) (fun (_ : Unit) t => ∃ (M2 : List Value), M2[1]? = some (.int 0) ∧ M2[2]? = some (.int 0) ∧ M2[21]? = some (.int 0) ∧ M2[22]? = some (.int 0) ∧ M2[3]? = some (.int (-1)) ∧ M2[34]? = some (.ref ns) ∧ M2[4]? = some (.int 0) ∧ M2[44]? = some (.ref ss) ∧ M2[45]? = some (.int 0) ∧ M2[46]? = some (.int 0) ∧ M2[47]? = some (.int 0) ∧ M2[48]? = some (.int 30) ∧ M2[49]? = some (.int 10) ∧ M2[5]? = some (.int 0) ∧ M2[50]? = some (.int 0) ∧ M2[51]? = some (.int 0) ∧ M2[52]? = some (.int 0) ∧ M2[53]? = some (.int 0) ∧ M2[54]? = some (.int 0) ∧ M2[55]? = some (.int 30) ∧ M2[56]? = some (.int 10) ∧ M2[6]? = some (.int 0) ∧ M2[66]? = some (.int 0) ∧ M2[7]? = some (.int 0) ∧ M2[76]? = some (.ref nw) ∧ M2[78]? = some (.int 0) ∧ M2[79]? = some (.int 0) ∧ M2[8]? = some (.int 0) ∧ M2[85]? = some (.int 0) ∧ M2[87]? = some (.ref hbx) ∧ M2[9]? = some (.long 0) ∧ cB D (va_A [(h0, .inr (12, M))] sz) [(h0, .inr (12, M2))] t) (va_A [(h0, .inr (12, M))] sz)) 0 0 (va_A [(h0, .inr (12, M))] sz) := by
  refine Met.ofW (cc := cX12_token) (maxL := 3) (ret := none) (by decide) rfl ?_
  intro p e s m args below meth c s₁ B hml hv
  obtain ⟨rfl, hsz, hP, hKX, hD0⟩ := hv
  have hK := hKX.1
  have hx := B.exec
  have hb := B.bytes
  have hr := B.returns
  have hts := atoms_spec (ws := WS yX12_token cX12_token 3 none) B.pre
  have hgd : ∀ w ∈ gd, w ∈ WS yX12_token cX12_token 3 none := fun w h => List.mem_cons_of_mem _ h
  have hg : ∀ w ∈ gd, w.before _ s = true := fun w h => hts w (hgd w h)
  have hown : s.vm.findClass RX12 = some m.cls := findClass_of_methodNamed B.named
  have hlocks := B.notSynchronized
  subst hsz
  have hD := hD0.self (sz := s.heap.size)
  generalize hAe : va_A [(h0, .inr (12, M))] s.heap.size = A at hD ⊢
  have hA : ∀ q : Nat, s.heap.size ≤ q → A q := fun q h => by rw [← hAe]; exact Or.inr h
  have hS : va_S A s.heap s.heap [] := va_S.rf
  have hP : va_P D classes [(h0, .inr (12, M))] s.heap := hP
  have hl := lv_entry ([.ref h0]) (n := 3) (Nat.le_of_ble_eq_true rfl)
  rw [lg_entry_eq]
  generalize (lg_sl ([.ref h0]) ++ List.replicate (3 - (lg_sl ([.ref h0])).length) Slot.unset).toArray = ls at hl ⊢
  have hl : lv_has ls 3 [(0, .ref h0)] := hl
  refine lv_aload_n hx hb dX12_token_0 rfl (lv_at hl 0 rfl) ?_
  refine lv_iconst (v := 0) hx hb dX12_token_1 (by decide) ?_
  have hPc := hP.sub (ws' := [(h0, .inr (12, M))]) [0] rfl
  have hDc := hD.sub (ws' := [(h0, .inr (12, M))]) [0] (by decide) rfl
  have hFc := va_free (wc := [(h0, .inr (12, M))]) hD hS hA [0] rfl
  refine va_calli (va_runV (As := [.int 0]) (rest := []) ⟨hx, hb, hml, hown, hts⟩ (c_X12_here l D k s.heap.size h0 M g_M_at g_M_size) (cwV 1 hts (gd_V hgd m1606 m1608 m51 m131 m1609) rfl rfl rfl (by decide +kernel) ⟨Nat.le_of_ble_eq_true rfl, Nat.le_of_ble_eq_true rfl⟩) (cP_V hPc hKX hDc (ci := 12) (q0 := 0) rfl rfl) rfl rfl hl.1 rfl (lv_room (Nat.le_of_ble_eq_true rfl)) dX12_token_2 ⟨Nat.le_of_ble_eq_true rfl, Nat.le_of_ble_eq_true rfl⟩) hS (fun q _ h => hFc q h) hFc (fun r_1 u t H1 locs ht hvm hw hB hz1 hk1 hS => ?_)
  obtain ⟨hP1, hD1⟩ := hB
  rw [ht] at hP1
  obtain ⟨hP, hD⟩ := va_join (wr := []) (w1 := [(h0, .inr (12, M))]) hP hD [0] [] rfl rfl (by decide) (by decide) hk1 hFc hP1 hD1
  generalize H1 = H at hP hS ⊢
  have hP : va_P D classes [(h0, .inr (12, M))] H := hP
  have hD : va_D A [(h0, .inr (12, M))] := hD
  refine W.widen (k := 0) (n := 0) (Nat.le_of_ble_eq_true rfl) (Nat.le_of_ble_eq_true rfl) ?_
  subst hw
  refine lv_bipush (v := 32) hx hb dX12_token_5 (by decide) ?_
  refine lv_icmp_eq (tgt := 20) hx hb dX12_token_7 (by decide) (fun c_2 => ?_) (fun c_2 => ?_)
  · exact absurd c_2 (by decide)
  · have c_2 : ¬ (((-1) : Int32) = 32) := c_2
    refine lv_aload_n hx hb dX12_token_10 rfl (lv_at hl 0 rfl) ?_
    refine lv_iconst (v := 0) hx hb dX12_token_11 (by decide) ?_
    have hPc := hP.sub (ws' := [(h0, .inr (12, M))]) [0] rfl
    have hDc := hD.sub (ws' := [(h0, .inr (12, M))]) [0] (by decide) rfl
    have hFc := va_free (wc := [(h0, .inr (12, M))]) hD hS hA [0] rfl
    refine va_calli (va_runV (As := [.int 0]) (rest := []) ⟨hx, hb, hml, hown, hts⟩ (c_X12_here l D k H.size h0 M g_M_at g_M_size) (cwV 1 hts (gd_V hgd m1606 m1608 m51 m131 m1609) rfl rfl rfl (by decide +kernel) ⟨Nat.le_of_ble_eq_true rfl, Nat.le_of_ble_eq_true rfl⟩) (cP_V hPc hKX hDc (ci := 12) (q0 := 0) rfl rfl) rfl rfl hl.1 rfl (lv_room (Nat.le_of_ble_eq_true rfl)) dX12_token_12 ⟨Nat.le_of_ble_eq_true rfl, Nat.le_of_ble_eq_true rfl⟩) hS (fun q _ h => hFc q h) hFc (fun r_3 u t H1 locs ht hvm hw hB hz1 hk1 hS => ?_)
    obtain ⟨hP1, hD1⟩ := hB
    rw [ht] at hP1
    obtain ⟨hP, hD⟩ := va_join (wr := []) (w1 := [(h0, .inr (12, M))]) hP hD [0] [] rfl rfl (by decide) (by decide) hk1 hFc hP1 hD1
    generalize H1 = H at hP hS ⊢
    have hP : va_P D classes [(h0, .inr (12, M))] H := hP
    have hD : va_D A [(h0, .inr (12, M))] := hD
    refine W.widen (k := 0) (n := 0) (Nat.le_of_ble_eq_true rfl) (Nat.le_of_ble_eq_true rfl) ?_
    subst hw
    refine lv_bipush (v := 10) hx hb dX12_token_15 (by decide) ?_
    refine lv_icmp_ne (tgt := 33) hx hb dX12_token_17 (by decide) (fun c_4 => ?_) (fun c_4 => ?_)
    · have c_4 : ¬ (((-1) : Int32) = 10) := c_4
      refine lv_aload_n hx hb dX12_token_33 rfl (lv_at hl 0 rfl) ?_
      refine lv_aload_n hx hb dX12_token_34 rfl (lv_at hl 0 rfl) ?_
      refine va_get (D := D) (ci := 12) (v := .int 0) (C := RX12) (T := TX12) (N := 89) hx hb hg iX12 hown hK hP 0 rfl rfl 4 (by decide) (hg (Cond.fieldLink RX12 185 "SlabWalkModel" "at" "I") m1318) (fun _ h9 => h9) g_M_at dX12_token_35 ?_
      refine va_put (D := D) (ci := 12) (v := .int 0) (ty := .int) (C := RX12) (T := TX12) (N := 89) hx hb hg iX12 tyX12 tyX12_ok nmX12 hown hK hP hD hS 0 rfl rfl 7 (by decide) (hg (Cond.fieldLink RX12 195 "SlabWalkModel" "place" "I") m1321) (fun _ h9 => h9) rfl (by decide +kernel) rfl rfl (fs_lt g_M_place) dX12_token_38 (fun H locs hP hD hS => ?_)
      have hP : va_P D classes [(h0, .inr (12, (M.set 7 (.int 0))))] H := hP
      have hD : va_D A [(h0, .inr (12, (M.set 7 (.int 0))))] := hD
      refine lv_aload_n hx hb dX12_token_41 rfl (lv_at hl 0 rfl) ?_
      refine lv_iconst (v := 0) hx hb dX12_token_42 (by decide) ?_
      have hPc := hP.sub (ws' := [(h0, .inr (12, (M.set 7 (.int 0))))]) [0] rfl
      have hDc := hD.sub (ws' := [(h0, .inr (12, (M.set 7 (.int 0))))]) [0] (by decide) rfl
      have hFc := va_free (wc := [(h0, .inr (12, (M.set 7 (.int 0))))]) hD hS hA [0] rfl
      refine va_calli (va_runV (As := [.int 0]) (rest := []) ⟨hx, hb, hml, hown, hts⟩ (c_X12_here l D k H.size h0 (M.set 7 (.int 0)) (fs_ne g_M_at (by decide)) (fs_ne g_M_size (by decide))) (cwV 1 hts (gd_V hgd m1606 m1608 m51 m131 m1609) rfl rfl rfl (by decide +kernel) ⟨Nat.le_of_ble_eq_true rfl, Nat.le_of_ble_eq_true rfl⟩) (cP_V hPc hKX hDc (ci := 12) (q0 := 0) rfl rfl) rfl rfl hl.1 rfl (lv_room (Nat.le_of_ble_eq_true rfl)) dX12_token_43 ⟨Nat.le_of_ble_eq_true rfl, Nat.le_of_ble_eq_true rfl⟩) hS (fun q _ h => hFc q h) hFc (fun r_5 u t H1 locs ht hvm hw hB hz1 hk1 hS => ?_)
      obtain ⟨hP1, hD1⟩ := hB
      rw [ht] at hP1
      obtain ⟨hP, hD⟩ := va_join (wr := []) (w1 := [(h0, .inr (12, (M.set 7 (.int 0))))]) hP hD [0] [] rfl rfl (by decide) (by decide) hk1 hFc hP1 hD1
      generalize H1 = H at hP hS ⊢
      have hP : va_P D classes [(h0, .inr (12, (M.set 7 (.int 0))))] H := hP
      have hD : va_D A [(h0, .inr (12, (M.set 7 (.int 0))))] := hD
      refine W.widen (k := 0) (n := 0) (Nat.le_of_ble_eq_true rfl) (Nat.le_of_ble_eq_true rfl) ?_
      subst hw
      refine lv_istore_n (lv' := [(1, .int (-1)), (0, .ref h0)]) hx hb dX12_token_46 rfl hl (by decide) rfl (fun ls hl => ?_)
      refine lv_iconst (v := 0) hx hb dX12_token_47 (by decide) ?_
      refine lv_istore_n (lv' := [(2, .int 0), (1, .int (-1)), (0, .ref h0)]) hx hb dX12_token_48 rfl hl (by decide) rfl (fun ls hl => ?_)
      refine lv_aload_n hx hb dX12_token_49 rfl (lv_at hl 2 rfl) ?_
      refine lv_lconst (v := 0) hx hb dX12_token_50 (by decide) ?_
      refine va_put (D := D) (ci := 12) (v := .long 0) (ty := .long) (C := RX12) (T := TX12) (N := 89) hx hb hg iX12 tyX12 tyX12_ok nmX12 hown hK hP hD hS 0 rfl rfl 9 (by decide) (hg (Cond.fieldLink RX12 198 "SlabWalkModel" "word" "J") m1323) (fun _ h9 => h9) rfl (by decide +kernel) rfl rfl (fs_lt (fs_ne g_M_word (by decide))) dX12_token_51 (fun H locs hP hD hS => ?_)
      have hP : va_P D classes [(h0, .inr (12, ((M.set 7 (.int 0)).set 9 (.long 0))))] H := hP
      have hD : va_D A [(h0, .inr (12, ((M.set 7 (.int 0)).set 9 (.long 0))))] := hD
      refine lv_aload_n hx hb dX12_token_54 rfl (lv_at hl 2 rfl) ?_
      refine lv_iconst (v := 0) hx hb dX12_token_55 (by decide) ?_
      refine va_put (D := D) (ci := 12) (v := .int 0) (ty := .int) (C := RX12) (T := TX12) (N := 89) hx hb hg iX12 tyX12 tyX12_ok nmX12 hown hK hP hD hS 0 rfl rfl 8 (by decide) (hg (Cond.fieldLink RX12 202 "SlabWalkModel" "number" "I") m1322) (fun _ h9 => h9) rfl (by decide +kernel) rfl rfl (fs_lt (fs_ne (fs_ne g_M_number (by decide)) (by decide))) dX12_token_56 (fun H locs hP hD hS => ?_)
      have hP : va_P D classes [(h0, .inr (12, (((M.set 7 (.int 0)).set 9 (.long 0)).set 8 (.int 0))))] H := hP
      have hD : va_D A [(h0, .inr (12, (((M.set 7 (.int 0)).set 9 (.long 0)).set 8 (.int 0))))] := hD
      refine lv_iload_n hx hb dX12_token_59 rfl (lv_at hl 1 rfl) ?_
      refine lv_if_ge (tgt := 71) hx hb dX12_token_60 (by decide) (fun c_6 => ?_) (fun c_6 => ?_)
      · exact absurd c_6 (by decide)
      · have c_6 : ¬ ((0 : Int32) ≤ (-1)) := c_6
        refine lv_aload_n hx hb dX12_token_63 rfl (lv_at hl 2 rfl) ?_
        refine lv_iconst (v := 0) hx hb dX12_token_64 (by decide) ?_
        refine va_put (D := D) (ci := 12) (v := .int 0) (ty := .int) (C := RX12) (T := TX12) (N := 89) hx hb hg iX12 tyX12 tyX12_ok nmX12 hown hK hP hD hS 0 rfl rfl 6 (by decide) (hg (Cond.fieldLink RX12 205 "SlabWalkModel" "sort" "I") m1320) (fun _ h9 => h9) rfl (by decide +kernel) rfl rfl (fs_lt (fs_ne (fs_ne (fs_ne g_M_sort (by decide)) (by decide)) (by decide))) dX12_token_65 (fun H locs hP hD hS => ?_)
        have hP : va_P D classes [(h0, .inr (12, ((((M.set 7 (.int 0)).set 9 (.long 0)).set 8 (.int 0)).set 6 (.int 0))))] H := hP
        have hD : va_D A [(h0, .inr (12, ((((M.set 7 (.int 0)).set 9 (.long 0)).set 8 (.int 0)).set 6 (.int 0))))] := hD
        refine lv_goto (tgt := 232) hx hb dX12_token_68 (by decide) ?_
        refine lv_aload_n hx hb dX12_token_232 rfl (lv_at hl 2 rfl) ?_
        refine va_get (D := D) (ci := 12) (v := .int 0) (C := RX12) (T := TX12) (N := 89) hx hb hg iX12 hown hK hP 0 rfl rfl 6 (by decide) (hg (Cond.fieldLink RX12 205 "SlabWalkModel" "sort" "I") m1320) (fun _ h9 => h9) (fs_eq (fs_ne (fs_ne (fs_ne g_M_sort (by decide)) (by decide)) (by decide))) dX12_token_233 ?_
        refine lv_iconst (v := 3) hx hb dX12_token_236 (by decide) ?_
        refine lv_icmp_eq (tgt := 250) hx hb dX12_token_237 (by decide) (fun c_7 => ?_) (fun c_7 => ?_)
        · exact absurd c_7 (by decide)
        · have c_7 : ¬ ((0 : Int32) = 3) := c_7
          refine lv_aload_n hx hb dX12_token_240 rfl (lv_at hl 2 rfl) ?_
          refine lv_dup hx hb dX12_token_241 rfl ?_
          refine va_get (D := D) (ci := 12) (v := .int 0) (C := RX12) (T := TX12) (N := 89) hx hb hg iX12 hown hK hP 0 rfl rfl 4 (by decide) (hg (Cond.fieldLink RX12 185 "SlabWalkModel" "at" "I") m1318) (fun _ h9 => h9) (fs_ne (fs_ne (fs_ne (fs_ne g_M_at (by decide)) (by decide)) (by decide)) (by decide)) dX12_token_242 ?_
          refine lv_iload_n hx hb dX12_token_245 rfl (lv_at hl 0 rfl) ?_
          refine lv_iadd hx hb dX12_token_246 ?_
          refine lv_topi (fun y_8 ey_8 => ?_)
          obtain rfl : y_8 = 0 := ey_8.trans (by decide)
          refine va_put (D := D) (ci := 12) (v := .int 0) (ty := .int) (C := RX12) (T := TX12) (N := 89) hx hb hg iX12 tyX12 tyX12_ok nmX12 hown hK hP hD hS 0 rfl rfl 4 (by decide) (hg (Cond.fieldLink RX12 185 "SlabWalkModel" "at" "I") m1318) (fun _ h9 => h9) rfl (by decide +kernel) rfl rfl (fs_lt (fs_ne (fs_ne (fs_ne (fs_ne g_M_at (by decide)) (by decide)) (by decide)) (by decide))) dX12_token_247 (fun H locs hP hD hS => ?_)
          have hP : va_P D classes [(h0, .inr (12, (((((M.set 7 (.int 0)).set 9 (.long 0)).set 8 (.int 0)).set 6 (.int 0)).set 4 (.int 0))))] H := hP
          have hD : va_D A [(h0, .inr (12, (((((M.set 7 (.int 0)).set 9 (.long 0)).set 8 (.int 0)).set 6 (.int 0)).set 4 (.int 0))))] := hD
          have hP9 := hP.sub (ws' := [(h0, .inr (12, (((((M.set 7 (.int 0)).set 9 (.long 0)).set 8 (.int 0)).set 6 (.int 0)).set 4 (.int 0))))]) [0] rfl
          have hD9 := hD.sub (ws' := [(h0, .inr (12, (((((M.set 7 (.int 0)).set 9 (.long 0)).set 8 (.int 0)).set 6 (.int 0)).set 4 (.int 0))))]) [0] (by decide) rfl
          exact W.vret hx hb hr (fun t ht hW => ⟨⟨(), rfl, trivial, ⟨(((((M.set 7 (.int 0)).set 9 (.long 0)).set 8 (.int 0)).set 6 (.int 0)).set 4 (.int 0)), (fs_ne (fs_ne (fs_ne (fs_ne (fs_ne g_M_taped (by decide)) (by decide)) (by decide)) (by decide)) (by decide)), (fs_ne (fs_ne (fs_ne (fs_ne (fs_ne g_M_fault (by decide)) (by decide)) (by decide)) (by decide)) (by decide)), (fs_ne (fs_ne (fs_ne (fs_ne (fs_ne g_M_nUnits (by decide)) (by decide)) (by decide)) (by decide)) (by decide)), (fs_ne (fs_ne (fs_ne (fs_ne (fs_ne g_M_units (by decide)) (by decide)) (by decide)) (by decide)) (by decide)), (fs_ne (fs_ne (fs_ne (fs_ne (fs_ne g_M_faultPlace (by decide)) (by decide)) (by decide)) (by decide)) (by decide)), (fs_ne (fs_ne (fs_ne (fs_ne (fs_ne g_M_nSlips (by decide)) (by decide)) (by decide)) (by decide)) (by decide)), (fs_eq (fs_ne (fs_ne (fs_ne (fs_ne g_M_at (by decide)) (by decide)) (by decide)) (by decide))), (fs_ne (fs_ne (fs_ne (fs_ne (fs_ne g_M_slips (by decide)) (by decide)) (by decide)) (by decide)) (by decide)), (fs_ne (fs_ne (fs_ne (fs_ne (fs_ne g_M_nStreets (by decide)) (by decide)) (by decide)) (by decide)) (by decide)), (fs_ne (fs_ne (fs_ne (fs_ne (fs_ne g_M_nWalkers (by decide)) (by decide)) (by decide)) (by decide)) (by decide)), (fs_ne (fs_ne (fs_ne (fs_ne (fs_ne g_M_nRules (by decide)) (by decide)) (by decide)) (by decide)) (by decide)), (fs_ne (fs_ne (fs_ne (fs_ne (fs_ne g_M_nHand (by decide)) (by decide)) (by decide)) (by decide)) (by decide)), (fs_ne (fs_ne (fs_ne (fs_ne (fs_ne g_M_nSlack (by decide)) (by decide)) (by decide)) (by decide)) (by decide)), (fs_ne (fs_ne (fs_ne (fs_ne (fs_ne g_M_size (by decide)) (by decide)) (by decide)) (by decide)) (by decide)), (fs_ne (fs_ne (fs_ne (fs_ne (fs_ne g_M_nDraw (by decide)) (by decide)) (by decide)) (by decide)) (by decide)), (fs_ne (fs_ne (fs_ne (fs_ne (fs_ne g_M_nOnce (by decide)) (by decide)) (by decide)) (by decide)) (by decide)), (fs_ne (fs_ne (fs_ne (fs_ne (fs_ne g_M_streets (by decide)) (by decide)) (by decide)) (by decide)) (by decide)), (fs_ne (fs_ne (fs_ne (fs_ne (fs_ne g_M_walkers (by decide)) (by decide)) (by decide)) (by decide)) (by decide)), (fs_ne (fs_ne (fs_ne (fs_ne (fs_ne g_M_rules (by decide)) (by decide)) (by decide)) (by decide)) (by decide)), (fs_ne (fs_ne (fs_ne (fs_ne (fs_ne g_M_hand (by decide)) (by decide)) (by decide)) (by decide)) (by decide)), (fs_ne (fs_ne (fs_ne (fs_ne (fs_ne g_M_slack (by decide)) (by decide)) (by decide)) (by decide)) (by decide)), (fs_ne (fs_eq (fs_ne (fs_ne (fs_ne g_M_sort (by decide)) (by decide)) (by decide))) (by decide)), (fs_ne (fs_ne (fs_ne (fs_ne (fs_ne g_M_lain (by decide)) (by decide)) (by decide)) (by decide)) (by decide)), (fs_ne (fs_ne (fs_ne (fs_ne (fs_eq g_M_place) (by decide)) (by decide)) (by decide)) (by decide)), (fs_ne (fs_ne (fs_ne (fs_ne (fs_ne g_M_now (by decide)) (by decide)) (by decide)) (by decide)) (by decide)), (fs_ne (fs_ne (fs_ne (fs_ne (fs_ne g_M_acts (by decide)) (by decide)) (by decide)) (by decide)) (by decide)), (fs_ne (fs_ne (fs_ne (fs_ne (fs_ne g_M_undone (by decide)) (by decide)) (by decide)) (by decide)) (by decide)), (fs_ne (fs_ne (fs_eq (fs_ne (fs_ne g_M_number (by decide)) (by decide))) (by decide)) (by decide)), (fs_ne (fs_ne (fs_ne (fs_ne (fs_ne g_M_sights (by decide)) (by decide)) (by decide)) (by decide)) (by decide)), (fs_ne (fs_ne (fs_ne (fs_ne (fs_ne g_M_hasBox (by decide)) (by decide)) (by decide)) (by decide)) (by decide)), (fs_ne (fs_ne (fs_ne (fs_eq (fs_ne g_M_word (by decide))) (by decide)) (by decide)) (by decide)), cB_of ht hP9 hD9⟩⟩, hS.F ht⟩) hS.2.2 dX12_token_250
    · exact absurd c_4 (by decide)

set_option maxHeartbeats 4000000 in
set_option maxRecDepth 100000 in
theorem c_X12_readAll (l : Launch) (D : va_G) (k : ClassId × ClassId × ClassId × ClassId) (sz : Nat) (h0 ns ss nw hbx : Nat) (M : List Value) (m2 : Nat → Int32) (g_M_taped : M[1]? = some (.int 0)) (g_M_fault : M[2]? = some (.int 0)) (g_M_nUnits : M[21]? = some (.int 0)) (g_M_units : M[22]? = some (.int 0)) (g_M_faultPlace : M[3]? = some (.int (-1))) (g_M_nSlips : M[34]? = some (.ref ns)) (g_M_at : M[4]? = some (.int 0)) (g_M_slips : M[44]? = some (.ref ss)) (g_M_nStreets : M[45]? = some (.int 0)) (g_M_nWalkers : M[46]? = some (.int 0)) (g_M_nRules : M[47]? = some (.int 0)) (g_M_nHand : M[48]? = some (.int 0)) (g_M_nSlack : M[49]? = some (.int 0)) (g_M_size : M[5]? = some (.int 0)) (g_M_nDraw : M[50]? = some (.int 0)) (g_M_nOnce : M[51]? = some (.int 0)) (g_M_streets : M[52]? = some (.int 0)) (g_M_walkers : M[53]? = some (.int 0)) (g_M_rules : M[54]? = some (.int 0)) (g_M_hand : M[55]? = some (.int 30)) (g_M_slack : M[56]? = some (.int 10)) (g_M_sort : M[6]? = some (.int 0)) (g_M_lain : M[66]? = some (.int 0)) (g_M_place : M[7]? = some (.int 0)) (g_M_now : M[76]? = some (.ref nw)) (g_M_acts : M[78]? = some (.int 0)) (g_M_undone : M[79]? = some (.int 0)) (g_M_number : M[8]? = some (.int 0)) (g_M_sights : M[85]? = some (.int 0)) (g_M_hasBox : M[87]? = some (.ref hbx)) (g_M_word : M[9]? = some (.long 0)) : Met l yX12_readAll (WS yX12_readAll cX12_readAll 1 none) ({ frames := 2, cells := 0, slots := 0, locals := 43 }) (va_Pc [.ref h0] (cP D k [(h0, .inr (12, M)), (ns, .inl (k.2.1, 3, .inl m2))] sz)) (va_Qv (fun _ : Unit => True) (fun (_ : Unit) t => ∃ (M2 : List Value), ∃ (m8 : Nat → Int32), M2[1]? = some (.int 0) ∧ M2[2]? = some (.int 0) ∧ M2[21]? = some (.int 0) ∧ M2[22]? = some (.int 0) ∧ M2[3]? = some (.int (-1)) ∧ M2[34]? = some (.ref ns) ∧ M2[4]? = some (.int 0) ∧ M2[44]? = some (.ref ss) ∧ M2[45]? = some (.int 0) ∧ M2[46]? = some (.int 0) ∧ M2[47]? = some (.int 0) ∧ M2[48]? = some (.int 30) ∧ M2[49]? = some (.int 10) ∧ M2[5]? = some (.int 0) ∧ M2[50]? = some (.int 0) ∧ M2[51]? = some (.int 0) ∧ M2[52]? = some (.int 0) ∧ M2[53]? = some (.int 0) ∧ M2[54]? = some (.int 0) ∧ M2[55]? = some (.int 30) ∧ M2[56]? = some (.int 10) ∧ M2[6]? = some (.int 0) ∧ M2[66]? = some (.int 0) ∧ M2[7]? = some (.int 0) ∧ M2[76]? = some (.ref nw) ∧ M2[78]? = some (.int 0) ∧ M2[79]? = some (.int 0) ∧ M2[8]? = some (.int 0) ∧ M2[85]? = some (.int 0) ∧ M2[87]? = some (.ref hbx) ∧ M2[9]? = some (.long 0) ∧ m8 0 = 0 ∧ m8 1 = 1 ∧ m8 2 = 0 ∧ cB D (va_A [(h0, .inr (12, M)), (ns, .inl (k.2.1, 3, .inl m2))] sz) [(h0, .inr (12, M2)), (ns, .inl (k.2.1, 3, .inl m8))] t) (va_A [(h0, .inr (12, M)), (ns, .inl (k.2.1, 3, .inl m2))] sz)) 0 0 (va_A [(h0, .inr (12, M)), (ns, .inl (k.2.1, 3, .inl m2))] sz) := by
  refine Met.ofW (cc := cX12_readAll) (maxL := 1) (ret := none) (by decide) rfl ?_
  intro p e s m args below meth c s₁ B hml hv
  obtain ⟨rfl, hsz, hP, hKX, hD0⟩ := hv
  have hK := hKX.1
  have hx := B.exec
  have hb := B.bytes
  have hr := B.returns
  have hts := atoms_spec (ws := WS yX12_readAll cX12_readAll 1 none) B.pre
  have hgd : ∀ w ∈ gd, w ∈ WS yX12_readAll cX12_readAll 1 none := fun w h => List.mem_cons_of_mem _ h
  have hg : ∀ w ∈ gd, w.before _ s = true := fun w h => hts w (hgd w h)
  have hown : s.vm.findClass RX12 = some m.cls := findClass_of_methodNamed B.named
  have hlocks := B.notSynchronized
  subst hsz
  have hD := hD0.self (sz := s.heap.size)
  generalize hAe : va_A [(h0, .inr (12, M)), (ns, .inl (k.2.1, 3, .inl m2))] s.heap.size = A at hD ⊢
  have hA : ∀ q : Nat, s.heap.size ≤ q → A q := fun q h => by rw [← hAe]; exact Or.inr h
  have hS : va_S A s.heap s.heap [] := va_S.rf
  have hP : va_P D classes [(h0, .inr (12, M)), (ns, .inl (k.2.1, 3, .inl m2))] s.heap := hP
  have hl := lv_entry ([.ref h0]) (n := 1) (Nat.le_of_ble_eq_true rfl)
  rw [lg_entry_eq]
  generalize (lg_sl ([.ref h0]) ++ List.replicate (1 - (lg_sl ([.ref h0])).length) Slot.unset).toArray = ls at hl ⊢
  have hl : lv_has ls 1 [(0, .ref h0)] := hl
  refine lv_aload_n hx hb dX12_readAll_0 rfl (lv_at hl 0 rfl) ?_
  refine lv_aload_n hx hb dX12_readAll_1 rfl (lv_at hl 0 rfl) ?_
  refine va_get (D := D) (ci := 12) (v := .int 0) (C := RX12) (T := TX12) (N := 89) hx hb hg iX12 hown hK hP 0 rfl rfl 1 (by decide) (hg (Cond.fieldLink RX12 178 "SlabWalkModel" "taped" "I") m1315) (fun _ h9 => h9) g_M_taped dX12_readAll_2 ?_
  refine va_put (D := D) (ci := 12) (v := .int 0) (ty := .int) (C := RX12) (T := TX12) (N := 89) hx hb hg iX12 tyX12 tyX12_ok nmX12 hown hK hP hD hS 0 rfl rfl 5 (by decide) (hg (Cond.fieldLink RX12 188 "SlabWalkModel" "size" "I") m1319) (fun _ h9 => h9) rfl (by decide +kernel) rfl rfl (fs_lt g_M_size) dX12_readAll_5 (fun H locs hP hD hS => ?_)
  have hP : va_P D classes [(h0, .inr (12, (M.set 5 (.int 0)))), (ns, .inl (k.2.1, 3, .inl m2))] H := hP
  have hD : va_D A [(h0, .inr (12, (M.set 5 (.int 0)))), (ns, .inl (k.2.1, 3, .inl m2))] := hD
  refine lv_aload_n hx hb dX12_readAll_8 rfl (lv_at hl 0 rfl) ?_
  refine lv_iconst (v := 0) hx hb dX12_readAll_9 (by decide) ?_
  refine va_put (D := D) (ci := 12) (v := .int 0) (ty := .int) (C := RX12) (T := TX12) (N := 89) hx hb hg iX12 tyX12 tyX12_ok nmX12 hown hK hP hD hS 0 rfl rfl 1 (by decide) (hg (Cond.fieldLink RX12 178 "SlabWalkModel" "taped" "I") m1315) (fun _ h9 => h9) rfl (by decide +kernel) rfl rfl (fs_lt (fs_ne g_M_taped (by decide))) dX12_readAll_10 (fun H locs hP hD hS => ?_)
  have hP : va_P D classes [(h0, .inr (12, ((M.set 5 (.int 0)).set 1 (.int 0)))), (ns, .inl (k.2.1, 3, .inl m2))] H := hP
  have hD : va_D A [(h0, .inr (12, ((M.set 5 (.int 0)).set 1 (.int 0)))), (ns, .inl (k.2.1, 3, .inl m2))] := hD
  refine lv_aload_n hx hb dX12_readAll_13 rfl (lv_at hl 0 rfl) ?_
  refine lv_iconst (v := 0) hx hb dX12_readAll_14 (by decide) ?_
  refine va_put (D := D) (ci := 12) (v := .int 0) (ty := .int) (C := RX12) (T := TX12) (N := 89) hx hb hg iX12 tyX12 tyX12_ok nmX12 hown hK hP hD hS 0 rfl rfl 4 (by decide) (hg (Cond.fieldLink RX12 185 "SlabWalkModel" "at" "I") m1318) (fun _ h9 => h9) rfl (by decide +kernel) rfl rfl (fs_lt (fs_ne (fs_ne g_M_at (by decide)) (by decide))) dX12_readAll_15 (fun H locs hP hD hS => ?_)
  have hP : va_P D classes [(h0, .inr (12, (((M.set 5 (.int 0)).set 1 (.int 0)).set 4 (.int 0)))), (ns, .inl (k.2.1, 3, .inl m2))] H := hP
  have hD : va_D A [(h0, .inr (12, (((M.set 5 (.int 0)).set 1 (.int 0)).set 4 (.int 0)))), (ns, .inl (k.2.1, 3, .inl m2))] := hD
  refine lv_aload_n hx hb dX12_readAll_18 rfl (lv_at hl 0 rfl) ?_
  refine lv_iconst (v := 0) hx hb dX12_readAll_19 (by decide) ?_
  refine va_put (D := D) (ci := 12) (v := .int 0) (ty := .int) (C := RX12) (T := TX12) (N := 89) hx hb hg iX12 tyX12 tyX12_ok nmX12 hown hK hP hD hS 0 rfl rfl 2 (by decide) (hg (Cond.fieldLink RX12 218 "SlabWalkModel" "fault" "I") m1316) (fun _ h9 => h9) rfl (by decide +kernel) rfl rfl (fs_lt (fs_ne (fs_ne (fs_ne g_M_fault (by decide)) (by decide)) (by decide))) dX12_readAll_20 (fun H locs hP hD hS => ?_)
  have hP : va_P D classes [(h0, .inr (12, ((((M.set 5 (.int 0)).set 1 (.int 0)).set 4 (.int 0)).set 2 (.int 0)))), (ns, .inl (k.2.1, 3, .inl m2))] H := hP
  have hD : va_D A [(h0, .inr (12, ((((M.set 5 (.int 0)).set 1 (.int 0)).set 4 (.int 0)).set 2 (.int 0)))), (ns, .inl (k.2.1, 3, .inl m2))] := hD
  refine lv_aload_n hx hb dX12_readAll_23 rfl (lv_at hl 0 rfl) ?_
  refine lv_iconst (v := (-1)) hx hb dX12_readAll_24 (by decide) ?_
  refine va_put (D := D) (ci := 12) (v := .int (-1)) (ty := .int) (C := RX12) (T := TX12) (N := 89) hx hb hg iX12 tyX12 tyX12_ok nmX12 hown hK hP hD hS 0 rfl rfl 3 (by decide) (hg (Cond.fieldLink RX12 13 "SlabWalkModel" "faultPlace" "I") m1317) (fun _ h9 => h9) rfl (by decide +kernel) rfl rfl (fs_lt (fs_ne (fs_ne (fs_ne (fs_ne g_M_faultPlace (by decide)) (by decide)) (by decide)) (by decide))) dX12_readAll_25 (fun H locs hP hD hS => ?_)
  have hP : va_P D classes [(h0, .inr (12, (((((M.set 5 (.int 0)).set 1 (.int 0)).set 4 (.int 0)).set 2 (.int 0)).set 3 (.int (-1))))), (ns, .inl (k.2.1, 3, .inl m2))] H := hP
  have hD : va_D A [(h0, .inr (12, (((((M.set 5 (.int 0)).set 1 (.int 0)).set 4 (.int 0)).set 2 (.int 0)).set 3 (.int (-1))))), (ns, .inl (k.2.1, 3, .inl m2))] := hD
  refine lv_aload_n hx hb dX12_readAll_28 rfl (lv_at hl 0 rfl) ?_
  refine lv_iconst (v := 0) hx hb dX12_readAll_29 (by decide) ?_
  refine va_put (D := D) (ci := 12) (v := .int 0) (ty := .int) (C := RX12) (T := TX12) (N := 89) hx hb hg iX12 tyX12 tyX12_ok nmX12 hown hK hP hD hS 0 rfl rfl 45 (by decide) (hg (Cond.fieldLink RX12 359 "SlabWalkModel" "nStreets" "I") m1359) (fun _ h9 => h9) rfl (by decide +kernel) rfl rfl (fs_lt (fs_ne (fs_ne (fs_ne (fs_ne (fs_ne g_M_nStreets (by decide)) (by decide)) (by decide)) (by decide)) (by decide))) dX12_readAll_30 (fun H locs hP hD hS => ?_)
  have hP : va_P D classes [(h0, .inr (12, ((((((M.set 5 (.int 0)).set 1 (.int 0)).set 4 (.int 0)).set 2 (.int 0)).set 3 (.int (-1))).set 45 (.int 0)))), (ns, .inl (k.2.1, 3, .inl m2))] H := hP
  have hD : va_D A [(h0, .inr (12, ((((((M.set 5 (.int 0)).set 1 (.int 0)).set 4 (.int 0)).set 2 (.int 0)).set 3 (.int (-1))).set 45 (.int 0)))), (ns, .inl (k.2.1, 3, .inl m2))] := hD
  refine lv_aload_n hx hb dX12_readAll_33 rfl (lv_at hl 0 rfl) ?_
  refine lv_iconst (v := 0) hx hb dX12_readAll_34 (by decide) ?_
  refine va_put (D := D) (ci := 12) (v := .int 0) (ty := .int) (C := RX12) (T := TX12) (N := 89) hx hb hg iX12 tyX12 tyX12_ok nmX12 hown hK hP hD hS 0 rfl rfl 46 (by decide) (hg (Cond.fieldLink RX12 379 "SlabWalkModel" "nWalkers" "I") m1360) (fun _ h9 => h9) rfl (by decide +kernel) rfl rfl (fs_lt (fs_ne (fs_ne (fs_ne (fs_ne (fs_ne (fs_ne g_M_nWalkers (by decide)) (by decide)) (by decide)) (by decide)) (by decide)) (by decide))) dX12_readAll_35 (fun H locs hP hD hS => ?_)
  have hP : va_P D classes [(h0, .inr (12, (((((((M.set 5 (.int 0)).set 1 (.int 0)).set 4 (.int 0)).set 2 (.int 0)).set 3 (.int (-1))).set 45 (.int 0)).set 46 (.int 0)))), (ns, .inl (k.2.1, 3, .inl m2))] H := hP
  have hD : va_D A [(h0, .inr (12, (((((((M.set 5 (.int 0)).set 1 (.int 0)).set 4 (.int 0)).set 2 (.int 0)).set 3 (.int (-1))).set 45 (.int 0)).set 46 (.int 0)))), (ns, .inl (k.2.1, 3, .inl m2))] := hD
  refine lv_aload_n hx hb dX12_readAll_38 rfl (lv_at hl 0 rfl) ?_
  refine lv_iconst (v := 0) hx hb dX12_readAll_39 (by decide) ?_
  refine va_put (D := D) (ci := 12) (v := .int 0) (ty := .int) (C := RX12) (T := TX12) (N := 89) hx hb hg iX12 tyX12 tyX12_ok nmX12 hown hK hP hD hS 0 rfl rfl 47 (by decide) (hg (Cond.fieldLink RX12 385 "SlabWalkModel" "nRules" "I") m1361) (fun _ h9 => h9) rfl (by decide +kernel) rfl rfl (fs_lt (fs_ne (fs_ne (fs_ne (fs_ne (fs_ne (fs_ne (fs_ne g_M_nRules (by decide)) (by decide)) (by decide)) (by decide)) (by decide)) (by decide)) (by decide))) dX12_readAll_40 (fun H locs hP hD hS => ?_)
  have hP : va_P D classes [(h0, .inr (12, ((((((((M.set 5 (.int 0)).set 1 (.int 0)).set 4 (.int 0)).set 2 (.int 0)).set 3 (.int (-1))).set 45 (.int 0)).set 46 (.int 0)).set 47 (.int 0)))), (ns, .inl (k.2.1, 3, .inl m2))] H := hP
  have hD : va_D A [(h0, .inr (12, ((((((((M.set 5 (.int 0)).set 1 (.int 0)).set 4 (.int 0)).set 2 (.int 0)).set 3 (.int (-1))).set 45 (.int 0)).set 46 (.int 0)).set 47 (.int 0)))), (ns, .inl (k.2.1, 3, .inl m2))] := hD
  refine lv_aload_n hx hb dX12_readAll_43 rfl (lv_at hl 0 rfl) ?_
  refine va_get (D := D) (ci := 12) (v := .ref ns) (C := RX12) (T := TX12) (N := 89) hx hb hg iX12 hown hK hP 0 rfl rfl 34 (by decide) (hg (Cond.fieldLink RX12 72 "SlabWalkModel" "nSlips" "[I") m1348) (fun _ h9 => h9) (fs_ne (fs_ne (fs_ne (fs_ne (fs_ne (fs_ne (fs_ne (fs_ne g_M_nSlips (by decide)) (by decide)) (by decide)) (by decide)) (by decide)) (by decide)) (by decide)) (by decide)) dX12_readAll_44 ?_
  refine lv_iconst (v := 0) hx hb dX12_readAll_47 (by decide) ?_
  refine lv_iconst (v := 0) hx hb dX12_readAll_48 (by decide) ?_
  refine va_iast hx hb hK hP hD hS 1 1 rfl rfl (show ¬ ((0 : Int32) < 0 ∨ 3 ≤ (0 : Int32).toNatClampNeg) from by decide +kernel) dX12_readAll_49 (fun H locs hP hD hS => ?_)
  have hP : va_P D classes [(h0, .inr (12, ((((((((M.set 5 (.int 0)).set 1 (.int 0)).set 4 (.int 0)).set 2 (.int 0)).set 3 (.int (-1))).set 45 (.int 0)).set 46 (.int 0)).set 47 (.int 0)))), (ns, .inl (k.2.1, 3, .inl (upd m2 0 0)))] H := hP
  have hD : va_D A [(h0, .inr (12, ((((((((M.set 5 (.int 0)).set 1 (.int 0)).set 4 (.int 0)).set 2 (.int 0)).set 3 (.int (-1))).set 45 (.int 0)).set 46 (.int 0)).set 47 (.int 0)))), (ns, .inl (k.2.1, 3, .inl (upd m2 0 0)))] := hD
  have g_2 : (upd m2 0 0) 0 = 0 := rfl
  generalize (upd m2 0 0) = f_1 at hP hD g_2
  refine lv_aload_n hx hb dX12_readAll_50 rfl (lv_at hl 0 rfl) ?_
  refine va_get (D := D) (ci := 12) (v := .ref ns) (C := RX12) (T := TX12) (N := 89) hx hb hg iX12 hown hK hP 0 rfl rfl 34 (by decide) (hg (Cond.fieldLink RX12 72 "SlabWalkModel" "nSlips" "[I") m1348) (fun _ h9 => h9) (fs_ne (fs_ne (fs_ne (fs_ne (fs_ne (fs_ne (fs_ne (fs_ne g_M_nSlips (by decide)) (by decide)) (by decide)) (by decide)) (by decide)) (by decide)) (by decide)) (by decide)) dX12_readAll_51 ?_
  refine lv_iconst (v := 1) hx hb dX12_readAll_54 (by decide) ?_
  refine lv_iconst (v := 1) hx hb dX12_readAll_55 (by decide) ?_
  refine va_iast hx hb hK hP hD hS 1 1 rfl rfl (show ¬ ((1 : Int32) < 0 ∨ 3 ≤ (1 : Int32).toNatClampNeg) from by decide +kernel) dX12_readAll_56 (fun H locs hP hD hS => ?_)
  have hP : va_P D classes [(h0, .inr (12, ((((((((M.set 5 (.int 0)).set 1 (.int 0)).set 4 (.int 0)).set 2 (.int 0)).set 3 (.int (-1))).set 45 (.int 0)).set 46 (.int 0)).set 47 (.int 0)))), (ns, .inl (k.2.1, 3, .inl (upd f_1 1 1)))] H := hP
  have hD : va_D A [(h0, .inr (12, ((((((((M.set 5 (.int 0)).set 1 (.int 0)).set 4 (.int 0)).set 2 (.int 0)).set 3 (.int (-1))).set 45 (.int 0)).set 46 (.int 0)).set 47 (.int 0)))), (ns, .inl (k.2.1, 3, .inl (upd f_1 1 1)))] := hD
  have g_4 : (upd f_1 1 1) 0 = 0 := g_2
  have g_5 : (upd f_1 1 1) 1 = 1 := rfl
  generalize (upd f_1 1 1) = f_3 at hP hD g_4 g_5
  refine lv_aload_n hx hb dX12_readAll_57 rfl (lv_at hl 0 rfl) ?_
  refine va_get (D := D) (ci := 12) (v := .ref ns) (C := RX12) (T := TX12) (N := 89) hx hb hg iX12 hown hK hP 0 rfl rfl 34 (by decide) (hg (Cond.fieldLink RX12 72 "SlabWalkModel" "nSlips" "[I") m1348) (fun _ h9 => h9) (fs_ne (fs_ne (fs_ne (fs_ne (fs_ne (fs_ne (fs_ne (fs_ne g_M_nSlips (by decide)) (by decide)) (by decide)) (by decide)) (by decide)) (by decide)) (by decide)) (by decide)) dX12_readAll_58 ?_
  refine lv_iconst (v := 2) hx hb dX12_readAll_61 (by decide) ?_
  refine lv_iconst (v := 0) hx hb dX12_readAll_62 (by decide) ?_
  refine va_iast hx hb hK hP hD hS 1 1 rfl rfl (show ¬ ((2 : Int32) < 0 ∨ 3 ≤ (2 : Int32).toNatClampNeg) from by decide +kernel) dX12_readAll_63 (fun H locs hP hD hS => ?_)
  have hP : va_P D classes [(h0, .inr (12, ((((((((M.set 5 (.int 0)).set 1 (.int 0)).set 4 (.int 0)).set 2 (.int 0)).set 3 (.int (-1))).set 45 (.int 0)).set 46 (.int 0)).set 47 (.int 0)))), (ns, .inl (k.2.1, 3, .inl (upd f_3 2 0)))] H := hP
  have hD : va_D A [(h0, .inr (12, ((((((((M.set 5 (.int 0)).set 1 (.int 0)).set 4 (.int 0)).set 2 (.int 0)).set 3 (.int (-1))).set 45 (.int 0)).set 46 (.int 0)).set 47 (.int 0)))), (ns, .inl (k.2.1, 3, .inl (upd f_3 2 0)))] := hD
  have g_7 : (upd f_3 2 0) 0 = 0 := g_4
  have g_8 : (upd f_3 2 0) 1 = 1 := g_5
  have g_9 : (upd f_3 2 0) 2 = 0 := rfl
  generalize (upd f_3 2 0) = f_6 at hP hD g_7 g_8 g_9
  refine lv_aload_n hx hb dX12_readAll_64 rfl (lv_at hl 0 rfl) ?_
  refine lv_bipush (v := 30) hx hb dX12_readAll_65 (by decide) ?_
  refine va_put (D := D) (ci := 12) (v := .int 30) (ty := .int) (C := RX12) (T := TX12) (N := 89) hx hb hg iX12 tyX12 tyX12_ok nmX12 hown hK hP hD hS 0 rfl rfl 48 (by decide) (hg (Cond.fieldLink RX12 410 "SlabWalkModel" "nHand" "I") m1362) (fun _ h9 => h9) rfl (by decide +kernel) rfl rfl (fs_lt (fs_ne (fs_ne (fs_ne (fs_ne (fs_ne (fs_ne (fs_ne (fs_ne g_M_nHand (by decide)) (by decide)) (by decide)) (by decide)) (by decide)) (by decide)) (by decide)) (by decide))) dX12_readAll_67 (fun H locs hP hD hS => ?_)
  have hP : va_P D classes [(h0, .inr (12, (((((((((M.set 5 (.int 0)).set 1 (.int 0)).set 4 (.int 0)).set 2 (.int 0)).set 3 (.int (-1))).set 45 (.int 0)).set 46 (.int 0)).set 47 (.int 0)).set 48 (.int 30)))), (ns, .inl (k.2.1, 3, .inl f_6))] H := hP
  have hD : va_D A [(h0, .inr (12, (((((((((M.set 5 (.int 0)).set 1 (.int 0)).set 4 (.int 0)).set 2 (.int 0)).set 3 (.int (-1))).set 45 (.int 0)).set 46 (.int 0)).set 47 (.int 0)).set 48 (.int 30)))), (ns, .inl (k.2.1, 3, .inl f_6))] := hD
  refine lv_aload_n hx hb dX12_readAll_70 rfl (lv_at hl 0 rfl) ?_
  refine lv_bipush (v := 10) hx hb dX12_readAll_71 (by decide) ?_
  refine va_put (D := D) (ci := 12) (v := .int 10) (ty := .int) (C := RX12) (T := TX12) (N := 89) hx hb hg iX12 tyX12 tyX12_ok nmX12 hown hK hP hD hS 0 rfl rfl 49 (by decide) (hg (Cond.fieldLink RX12 413 "SlabWalkModel" "nSlack" "I") m1363) (fun _ h9 => h9) rfl (by decide +kernel) rfl rfl (fs_lt (fs_ne (fs_ne (fs_ne (fs_ne (fs_ne (fs_ne (fs_ne (fs_ne (fs_ne g_M_nSlack (by decide)) (by decide)) (by decide)) (by decide)) (by decide)) (by decide)) (by decide)) (by decide)) (by decide))) dX12_readAll_73 (fun H locs hP hD hS => ?_)
  have hP : va_P D classes [(h0, .inr (12, ((((((((((M.set 5 (.int 0)).set 1 (.int 0)).set 4 (.int 0)).set 2 (.int 0)).set 3 (.int (-1))).set 45 (.int 0)).set 46 (.int 0)).set 47 (.int 0)).set 48 (.int 30)).set 49 (.int 10)))), (ns, .inl (k.2.1, 3, .inl f_6))] H := hP
  have hD : va_D A [(h0, .inr (12, ((((((((((M.set 5 (.int 0)).set 1 (.int 0)).set 4 (.int 0)).set 2 (.int 0)).set 3 (.int (-1))).set 45 (.int 0)).set 46 (.int 0)).set 47 (.int 0)).set 48 (.int 30)).set 49 (.int 10)))), (ns, .inl (k.2.1, 3, .inl f_6))] := hD
  refine lv_aload_n hx hb dX12_readAll_76 rfl (lv_at hl 0 rfl) ?_
  refine lv_iconst (v := 0) hx hb dX12_readAll_77 (by decide) ?_
  refine va_put (D := D) (ci := 12) (v := .int 0) (ty := .int) (C := RX12) (T := TX12) (N := 89) hx hb hg iX12 tyX12 tyX12_ok nmX12 hown hK hP hD hS 0 rfl rfl 50 (by decide) (hg (Cond.fieldLink RX12 416 "SlabWalkModel" "nDraw" "I") m1364) (fun _ h9 => h9) rfl (by decide +kernel) rfl rfl (fs_lt (fs_ne (fs_ne (fs_ne (fs_ne (fs_ne (fs_ne (fs_ne (fs_ne (fs_ne (fs_ne g_M_nDraw (by decide)) (by decide)) (by decide)) (by decide)) (by decide)) (by decide)) (by decide)) (by decide)) (by decide)) (by decide))) dX12_readAll_78 (fun H locs hP hD hS => ?_)
  have hP : va_P D classes [(h0, .inr (12, (((((((((((M.set 5 (.int 0)).set 1 (.int 0)).set 4 (.int 0)).set 2 (.int 0)).set 3 (.int (-1))).set 45 (.int 0)).set 46 (.int 0)).set 47 (.int 0)).set 48 (.int 30)).set 49 (.int 10)).set 50 (.int 0)))), (ns, .inl (k.2.1, 3, .inl f_6))] H := hP
  have hD : va_D A [(h0, .inr (12, (((((((((((M.set 5 (.int 0)).set 1 (.int 0)).set 4 (.int 0)).set 2 (.int 0)).set 3 (.int (-1))).set 45 (.int 0)).set 46 (.int 0)).set 47 (.int 0)).set 48 (.int 30)).set 49 (.int 10)).set 50 (.int 0)))), (ns, .inl (k.2.1, 3, .inl f_6))] := hD
  refine lv_aload_n hx hb dX12_readAll_81 rfl (lv_at hl 0 rfl) ?_
  refine lv_iconst (v := 0) hx hb dX12_readAll_82 (by decide) ?_
  refine va_put (D := D) (ci := 12) (v := .int 0) (ty := .int) (C := RX12) (T := TX12) (N := 89) hx hb hg iX12 tyX12 tyX12_ok nmX12 hown hK hP hD hS 0 rfl rfl 51 (by decide) (hg (Cond.fieldLink RX12 391 "SlabWalkModel" "nOnce" "I") m1365) (fun _ h9 => h9) rfl (by decide +kernel) rfl rfl (fs_lt (fs_ne (fs_ne (fs_ne (fs_ne (fs_ne (fs_ne (fs_ne (fs_ne (fs_ne (fs_ne (fs_ne g_M_nOnce (by decide)) (by decide)) (by decide)) (by decide)) (by decide)) (by decide)) (by decide)) (by decide)) (by decide)) (by decide)) (by decide))) dX12_readAll_83 (fun H locs hP hD hS => ?_)
  have hP : va_P D classes [(h0, .inr (12, ((((((((((((M.set 5 (.int 0)).set 1 (.int 0)).set 4 (.int 0)).set 2 (.int 0)).set 3 (.int (-1))).set 45 (.int 0)).set 46 (.int 0)).set 47 (.int 0)).set 48 (.int 30)).set 49 (.int 10)).set 50 (.int 0)).set 51 (.int 0)))), (ns, .inl (k.2.1, 3, .inl f_6))] H := hP
  have hD : va_D A [(h0, .inr (12, ((((((((((((M.set 5 (.int 0)).set 1 (.int 0)).set 4 (.int 0)).set 2 (.int 0)).set 3 (.int (-1))).set 45 (.int 0)).set 46 (.int 0)).set 47 (.int 0)).set 48 (.int 30)).set 49 (.int 10)).set 50 (.int 0)).set 51 (.int 0)))), (ns, .inl (k.2.1, 3, .inl f_6))] := hD
  refine lv_aload_n hx hb dX12_readAll_86 rfl (lv_at hl 0 rfl) ?_
  refine lv_iconst (v := 0) hx hb dX12_readAll_87 (by decide) ?_
  refine va_put (D := D) (ci := 12) (v := .int 0) (ty := .int) (C := RX12) (T := TX12) (N := 89) hx hb hg iX12 tyX12 tyX12_ok nmX12 hown hK hP hD hS 0 rfl rfl 21 (by decide) (hg (Cond.fieldLink RX12 312 "SlabWalkModel" "nUnits" "I") m1335) (fun _ h9 => h9) rfl (by decide +kernel) rfl rfl (fs_lt (fs_ne (fs_ne (fs_ne (fs_ne (fs_ne (fs_ne (fs_ne (fs_ne (fs_ne (fs_ne (fs_ne (fs_ne g_M_nUnits (by decide)) (by decide)) (by decide)) (by decide)) (by decide)) (by decide)) (by decide)) (by decide)) (by decide)) (by decide)) (by decide)) (by decide))) dX12_readAll_88 (fun H locs hP hD hS => ?_)
  have hP : va_P D classes [(h0, .inr (12, (((((((((((((M.set 5 (.int 0)).set 1 (.int 0)).set 4 (.int 0)).set 2 (.int 0)).set 3 (.int (-1))).set 45 (.int 0)).set 46 (.int 0)).set 47 (.int 0)).set 48 (.int 30)).set 49 (.int 10)).set 50 (.int 0)).set 51 (.int 0)).set 21 (.int 0)))), (ns, .inl (k.2.1, 3, .inl f_6))] H := hP
  have hD : va_D A [(h0, .inr (12, (((((((((((((M.set 5 (.int 0)).set 1 (.int 0)).set 4 (.int 0)).set 2 (.int 0)).set 3 (.int (-1))).set 45 (.int 0)).set 46 (.int 0)).set 47 (.int 0)).set 48 (.int 30)).set 49 (.int 10)).set 50 (.int 0)).set 51 (.int 0)).set 21 (.int 0)))), (ns, .inl (k.2.1, 3, .inl f_6))] := hD
  refine lv_aload_n hx hb dX12_readAll_91 rfl (lv_at hl 0 rfl) ?_
  have hPc := hP.sub (ws' := [(h0, .inr (12, (((((((((((((M.set 5 (.int 0)).set 1 (.int 0)).set 4 (.int 0)).set 2 (.int 0)).set 3 (.int (-1))).set 45 (.int 0)).set 46 (.int 0)).set 47 (.int 0)).set 48 (.int 30)).set 49 (.int 10)).set 50 (.int 0)).set 51 (.int 0)).set 21 (.int 0))))]) [0] rfl
  have hDc := hD.sub (ws' := [(h0, .inr (12, (((((((((((((M.set 5 (.int 0)).set 1 (.int 0)).set 4 (.int 0)).set 2 (.int 0)).set 3 (.int (-1))).set 45 (.int 0)).set 46 (.int 0)).set 47 (.int 0)).set 48 (.int 30)).set 49 (.int 10)).set 50 (.int 0)).set 51 (.int 0)).set 21 (.int 0))))]) [0] (by decide) rfl
  have hFc := va_free (wc := [(h0, .inr (12, (((((((((((((M.set 5 (.int 0)).set 1 (.int 0)).set 4 (.int 0)).set 2 (.int 0)).set 3 (.int (-1))).set 45 (.int 0)).set 46 (.int 0)).set 47 (.int 0)).set 48 (.int 30)).set 49 (.int 10)).set 50 (.int 0)).set 51 (.int 0)).set 21 (.int 0))))]) hD hS hA [0] rfl
  refine va_callv (va_runV (As := []) (rest := []) ⟨hx, hb, hml, hown, hts⟩ (c_X12_token l D k H.size h0 ns ss nw hbx (((((((((((((M.set 5 (.int 0)).set 1 (.int 0)).set 4 (.int 0)).set 2 (.int 0)).set 3 (.int (-1))).set 45 (.int 0)).set 46 (.int 0)).set 47 (.int 0)).set 48 (.int 30)).set 49 (.int 10)).set 50 (.int 0)).set 51 (.int 0)).set 21 (.int 0)) (fs_ne (fs_ne (fs_ne (fs_ne (fs_ne (fs_ne (fs_ne (fs_ne (fs_ne (fs_ne (fs_ne (fs_eq (fs_ne g_M_taped (by decide))) (by decide)) (by decide)) (by decide)) (by decide)) (by decide)) (by decide)) (by decide)) (by decide)) (by decide)) (by decide)) (by decide)) (fs_ne (fs_ne (fs_ne (fs_ne (fs_ne (fs_ne (fs_ne (fs_ne (fs_ne (fs_eq (fs_ne (fs_ne (fs_ne g_M_fault (by decide)) (by decide)) (by decide))) (by decide)) (by decide)) (by decide)) (by decide)) (by decide)) (by decide)) (by decide)) (by decide)) (by decide)) (fs_eq (fs_ne (fs_ne (fs_ne (fs_ne (fs_ne (fs_ne (fs_ne (fs_ne (fs_ne (fs_ne (fs_ne (fs_ne g_M_nUnits (by decide)) (by decide)) (by decide)) (by decide)) (by decide)) (by decide)) (by decide)) (by decide)) (by decide)) (by decide)) (by decide)) (by decide))) (fs_ne (fs_ne (fs_ne (fs_ne (fs_ne (fs_ne (fs_ne (fs_ne (fs_ne (fs_ne (fs_ne (fs_ne (fs_ne g_M_units (by decide)) (by decide)) (by decide)) (by decide)) (by decide)) (by decide)) (by decide)) (by decide)) (by decide)) (by decide)) (by decide)) (by decide)) (by decide)) (fs_ne (fs_ne (fs_ne (fs_ne (fs_ne (fs_ne (fs_ne (fs_ne (fs_eq (fs_ne (fs_ne (fs_ne (fs_ne g_M_faultPlace (by decide)) (by decide)) (by decide)) (by decide))) (by decide)) (by decide)) (by decide)) (by decide)) (by decide)) (by decide)) (by decide)) (by decide)) (fs_ne (fs_ne (fs_ne (fs_ne (fs_ne (fs_ne (fs_ne (fs_ne (fs_ne (fs_ne (fs_ne (fs_ne (fs_ne g_M_nSlips (by decide)) (by decide)) (by decide)) (by decide)) (by decide)) (by decide)) (by decide)) (by decide)) (by decide)) (by decide)) (by decide)) (by decide)) (by decide)) (fs_ne (fs_ne (fs_ne (fs_ne (fs_ne (fs_ne (fs_ne (fs_ne (fs_ne (fs_ne (fs_eq (fs_ne (fs_ne g_M_at (by decide)) (by decide))) (by decide)) (by decide)) (by decide)) (by decide)) (by decide)) (by decide)) (by decide)) (by decide)) (by decide)) (by decide)) (fs_ne (fs_ne (fs_ne (fs_ne (fs_ne (fs_ne (fs_ne (fs_ne (fs_ne (fs_ne (fs_ne (fs_ne (fs_ne g_M_slips (by decide)) (by decide)) (by decide)) (by decide)) (by decide)) (by decide)) (by decide)) (by decide)) (by decide)) (by decide)) (by decide)) (by decide)) (by decide)) (fs_ne (fs_ne (fs_ne (fs_ne (fs_ne (fs_ne (fs_ne (fs_eq (fs_ne (fs_ne (fs_ne (fs_ne (fs_ne g_M_nStreets (by decide)) (by decide)) (by decide)) (by decide)) (by decide))) (by decide)) (by decide)) (by decide)) (by decide)) (by decide)) (by decide)) (by decide)) (fs_ne (fs_ne (fs_ne (fs_ne (fs_ne (fs_ne (fs_eq (fs_ne (fs_ne (fs_ne (fs_ne (fs_ne (fs_ne g_M_nWalkers (by decide)) (by decide)) (by decide)) (by decide)) (by decide)) (by decide))) (by decide)) (by decide)) (by decide)) (by decide)) (by decide)) (by decide)) (fs_ne (fs_ne (fs_ne (fs_ne (fs_ne (fs_eq (fs_ne (fs_ne (fs_ne (fs_ne (fs_ne (fs_ne (fs_ne g_M_nRules (by decide)) (by decide)) (by decide)) (by decide)) (by decide)) (by decide)) (by decide))) (by decide)) (by decide)) (by decide)) (by decide)) (by decide)) (fs_ne (fs_ne (fs_ne (fs_ne (fs_eq (fs_ne (fs_ne (fs_ne (fs_ne (fs_ne (fs_ne (fs_ne (fs_ne g_M_nHand (by decide)) (by decide)) (by decide)) (by decide)) (by decide)) (by decide)) (by decide)) (by decide))) (by decide)) (by decide)) (by decide)) (by decide)) (fs_ne (fs_ne (fs_ne (fs_eq (fs_ne (fs_ne (fs_ne (fs_ne (fs_ne (fs_ne (fs_ne (fs_ne (fs_ne g_M_nSlack (by decide)) (by decide)) (by decide)) (by decide)) (by decide)) (by decide)) (by decide)) (by decide)) (by decide))) (by decide)) (by decide)) (by decide)) (fs_ne (fs_ne (fs_ne (fs_ne (fs_ne (fs_ne (fs_ne (fs_ne (fs_ne (fs_ne (fs_ne (fs_ne (fs_eq g_M_size) (by decide)) (by decide)) (by decide)) (by decide)) (by decide)) (by decide)) (by decide)) (by decide)) (by decide)) (by decide)) (by decide)) (by decide)) (fs_ne (fs_ne (fs_eq (fs_ne (fs_ne (fs_ne (fs_ne (fs_ne (fs_ne (fs_ne (fs_ne (fs_ne (fs_ne g_M_nDraw (by decide)) (by decide)) (by decide)) (by decide)) (by decide)) (by decide)) (by decide)) (by decide)) (by decide)) (by decide))) (by decide)) (by decide)) (fs_ne (fs_eq (fs_ne (fs_ne (fs_ne (fs_ne (fs_ne (fs_ne (fs_ne (fs_ne (fs_ne (fs_ne (fs_ne g_M_nOnce (by decide)) (by decide)) (by decide)) (by decide)) (by decide)) (by decide)) (by decide)) (by decide)) (by decide)) (by decide)) (by decide))) (by decide)) (fs_ne (fs_ne (fs_ne (fs_ne (fs_ne (fs_ne (fs_ne (fs_ne (fs_ne (fs_ne (fs_ne (fs_ne (fs_ne g_M_streets (by decide)) (by decide)) (by decide)) (by decide)) (by decide)) (by decide)) (by decide)) (by decide)) (by decide)) (by decide)) (by decide)) (by decide)) (by decide)) (fs_ne (fs_ne (fs_ne (fs_ne (fs_ne (fs_ne (fs_ne (fs_ne (fs_ne (fs_ne (fs_ne (fs_ne (fs_ne g_M_walkers (by decide)) (by decide)) (by decide)) (by decide)) (by decide)) (by decide)) (by decide)) (by decide)) (by decide)) (by decide)) (by decide)) (by decide)) (by decide)) (fs_ne (fs_ne (fs_ne (fs_ne (fs_ne (fs_ne (fs_ne (fs_ne (fs_ne (fs_ne (fs_ne (fs_ne (fs_ne g_M_rules (by decide)) (by decide)) (by decide)) (by decide)) (by decide)) (by decide)) (by decide)) (by decide)) (by decide)) (by decide)) (by decide)) (by decide)) (by decide)) (fs_ne (fs_ne (fs_ne (fs_ne (fs_ne (fs_ne (fs_ne (fs_ne (fs_ne (fs_ne (fs_ne (fs_ne (fs_ne g_M_hand (by decide)) (by decide)) (by decide)) (by decide)) (by decide)) (by decide)) (by decide)) (by decide)) (by decide)) (by decide)) (by decide)) (by decide)) (by decide)) (fs_ne (fs_ne (fs_ne (fs_ne (fs_ne (fs_ne (fs_ne (fs_ne (fs_ne (fs_ne (fs_ne (fs_ne (fs_ne g_M_slack (by decide)) (by decide)) (by decide)) (by decide)) (by decide)) (by decide)) (by decide)) (by decide)) (by decide)) (by decide)) (by decide)) (by decide)) (by decide)) (fs_ne (fs_ne (fs_ne (fs_ne (fs_ne (fs_ne (fs_ne (fs_ne (fs_ne (fs_ne (fs_ne (fs_ne (fs_ne g_M_sort (by decide)) (by decide)) (by decide)) (by decide)) (by decide)) (by decide)) (by decide)) (by decide)) (by decide)) (by decide)) (by decide)) (by decide)) (by decide)) (fs_ne (fs_ne (fs_ne (fs_ne (fs_ne (fs_ne (fs_ne (fs_ne (fs_ne (fs_ne (fs_ne (fs_ne (fs_ne g_M_lain (by decide)) (by decide)) (by decide)) (by decide)) (by decide)) (by decide)) (by decide)) (by decide)) (by decide)) (by decide)) (by decide)) (by decide)) (by decide)) (fs_ne (fs_ne (fs_ne (fs_ne (fs_ne (fs_ne (fs_ne (fs_ne (fs_ne (fs_ne (fs_ne (fs_ne (fs_ne g_M_place (by decide)) (by decide)) (by decide)) (by decide)) (by decide)) (by decide)) (by decide)) (by decide)) (by decide)) (by decide)) (by decide)) (by decide)) (by decide)) (fs_ne (fs_ne (fs_ne (fs_ne (fs_ne (fs_ne (fs_ne (fs_ne (fs_ne (fs_ne (fs_ne (fs_ne (fs_ne g_M_now (by decide)) (by decide)) (by decide)) (by decide)) (by decide)) (by decide)) (by decide)) (by decide)) (by decide)) (by decide)) (by decide)) (by decide)) (by decide)) (fs_ne (fs_ne (fs_ne (fs_ne (fs_ne (fs_ne (fs_ne (fs_ne (fs_ne (fs_ne (fs_ne (fs_ne (fs_ne g_M_acts (by decide)) (by decide)) (by decide)) (by decide)) (by decide)) (by decide)) (by decide)) (by decide)) (by decide)) (by decide)) (by decide)) (by decide)) (by decide)) (fs_ne (fs_ne (fs_ne (fs_ne (fs_ne (fs_ne (fs_ne (fs_ne (fs_ne (fs_ne (fs_ne (fs_ne (fs_ne g_M_undone (by decide)) (by decide)) (by decide)) (by decide)) (by decide)) (by decide)) (by decide)) (by decide)) (by decide)) (by decide)) (by decide)) (by decide)) (by decide)) (fs_ne (fs_ne (fs_ne (fs_ne (fs_ne (fs_ne (fs_ne (fs_ne (fs_ne (fs_ne (fs_ne (fs_ne (fs_ne g_M_number (by decide)) (by decide)) (by decide)) (by decide)) (by decide)) (by decide)) (by decide)) (by decide)) (by decide)) (by decide)) (by decide)) (by decide)) (by decide)) (fs_ne (fs_ne (fs_ne (fs_ne (fs_ne (fs_ne (fs_ne (fs_ne (fs_ne (fs_ne (fs_ne (fs_ne (fs_ne g_M_sights (by decide)) (by decide)) (by decide)) (by decide)) (by decide)) (by decide)) (by decide)) (by decide)) (by decide)) (by decide)) (by decide)) (by decide)) (by decide)) (fs_ne (fs_ne (fs_ne (fs_ne (fs_ne (fs_ne (fs_ne (fs_ne (fs_ne (fs_ne (fs_ne (fs_ne (fs_ne g_M_hasBox (by decide)) (by decide)) (by decide)) (by decide)) (by decide)) (by decide)) (by decide)) (by decide)) (by decide)) (by decide)) (by decide)) (by decide)) (by decide)) (fs_ne (fs_ne (fs_ne (fs_ne (fs_ne (fs_ne (fs_ne (fs_ne (fs_ne (fs_ne (fs_ne (fs_ne (fs_ne g_M_word (by decide)) (by decide)) (by decide)) (by decide)) (by decide)) (by decide)) (by decide)) (by decide)) (by decide)) (by decide)) (by decide)) (by decide)) (by decide))) (cwV 0 hts (gd_V hgd m1602 m1604 m50 m131 m1605) rfl rfl rfl (by decide +kernel) ⟨Nat.le_of_ble_eq_true rfl, Nat.le_of_ble_eq_true rfl⟩) (cP_V hPc hKX hDc (ci := 12) (q0 := 0) rfl rfl) rfl rfl hl.1 rfl (lv_room (Nat.le_of_ble_eq_true rfl)) dX12_readAll_92 ⟨Nat.le_of_ble_eq_true rfl, Nat.le_of_ble_eq_true rfl⟩) hS (fun q _ h => hFc q h) hFc (fun u t H1 locs ht hvm hw hB hz1 hk1 hS => ?_)
  obtain ⟨z_11, g_12, g_13, g_14, g_15, g_16, g_17, g_18, g_19, g_20, g_21, g_22, g_23, g_24, g_25, g_26, g_27, g_28, g_29, g_30, g_31, g_32, g_33, g_34, g_35, g_36, g_37, g_38, g_39, g_40, g_41, g_42, hP1, hD1⟩ := hB
  rw [ht] at hP1
  obtain ⟨hP, hD⟩ := va_join (wr := [(ns, .inl (k.2.1, 3, .inl f_6))]) (w1 := [(h0, .inr (12, z_11))]) hP hD [0] [1] rfl rfl (by decide) (by decide) hk1 hFc hP1 hD1
  generalize H1 = H at hP hS ⊢
  have hP : va_P D classes [(ns, .inl (k.2.1, 3, .inl f_6)), (h0, .inr (12, z_11))] H := hP
  have hD : va_D A [(ns, .inl (k.2.1, 3, .inl f_6)), (h0, .inr (12, z_11))] := hD
  refine W.widen (k := 0) (n := 0) (Nat.le_of_ble_eq_true rfl) (Nat.le_of_ble_eq_true rfl) ?_
  refine lv_aload_n hx hb dX12_readAll_95 rfl (lv_at hl 0 rfl) ?_
  refine va_get (D := D) (ci := 12) (v := .int 0) (C := RX12) (T := TX12) (N := 89) hx hb hg iX12 hown hK hP 1 rfl rfl 2 (by decide) (hg (Cond.fieldLink RX12 218 "SlabWalkModel" "fault" "I") m1316) (fun _ h9 => h9) g_13 dX12_readAll_96 ?_
  refine lv_if_ne (tgt := 116) hx hb dX12_readAll_99 (by decide) (fun c_43 => ?_) (fun c_43 => ?_)
  · exact absurd (by decide) c_43
  · have c_43 : (0 : Int32) = 0 := c_43
    refine lv_aload_n hx hb dX12_readAll_102 rfl (lv_at hl 0 rfl) ?_
    refine va_get (D := D) (ci := 12) (v := .int 0) (C := RX12) (T := TX12) (N := 89) hx hb hg iX12 hown hK hP 1 rfl rfl 6 (by decide) (hg (Cond.fieldLink RX12 205 "SlabWalkModel" "sort" "I") m1320) (fun _ h9 => h9) g_33 dX12_readAll_103 ?_
    refine lv_if_eq (tgt := 116) hx hb dX12_readAll_106 (by decide) (fun c_44 => ?_) (fun c_44 => ?_)
    · have c_44 : (0 : Int32) = 0 := c_44
      have hP9 := hP.sub (ws' := [(h0, .inr (12, z_11)), (ns, .inl (k.2.1, 3, .inl f_6))]) [1, 0] rfl
      have hD9 := hD.sub (ws' := [(h0, .inr (12, z_11)), (ns, .inl (k.2.1, 3, .inl f_6))]) [1, 0] (by decide) rfl
      exact W.vret hx hb hr (fun t ht hW => ⟨⟨(), rfl, trivial, ⟨z_11, f_6, g_12, g_13, g_14, g_15, g_16, g_17, g_18, g_19, g_20, g_21, g_22, g_23, g_24, g_25, g_26, g_27, g_28, g_29, g_30, g_31, g_32, g_33, g_34, g_35, g_36, g_37, g_38, g_39, g_40, g_41, g_42, g_7, g_8, g_9, cB_of ht hP9 hD9⟩⟩, hS.F ht⟩) hS.2.2 dX12_readAll_116
    · exact absurd (by decide) c_44

set_option maxHeartbeats 4000000 in
set_option maxRecDepth 100000 in
theorem c_X12_pavement (l : Launch) (D : va_G) (k : ClassId × ClassId × ClassId × ClassId) (sz : Nat) (h0 ns ss nw hbx : Nat) (M : List Value) (m2 : Nat → Int32) (m3 : Nat → Int32) (m4 : Nat → Int32) (m6 : Nat → Int32) (g_M_taped : M[1]? = some (.int 0)) (g_M_fault : M[2]? = some (.int 0)) (g_M_nUnits : M[21]? = some (.int 0)) (g_M_units : M[22]? = some (.int 0)) (g_M_faultPlace : M[3]? = some (.int (-1))) (g_M_nSlips : M[34]? = some (.ref ns)) (g_M_at : M[4]? = some (.int 0)) (g_M_slips : M[44]? = some (.ref ss)) (g_M_nStreets : M[45]? = some (.int 0)) (g_M_nWalkers : M[46]? = some (.int 0)) (g_M_nRules : M[47]? = some (.int 0)) (g_M_nHand : M[48]? = some (.int 0)) (g_M_nSlack : M[49]? = some (.int 0)) (g_M_size : M[5]? = some (.int 0)) (g_M_nDraw : M[50]? = some (.int 0)) (g_M_nOnce : M[51]? = some (.int 0)) (g_M_streets : M[52]? = some (.int 0)) (g_M_walkers : M[53]? = some (.int 0)) (g_M_rules : M[54]? = some (.int 0)) (g_M_hand : M[55]? = some (.int 30)) (g_M_slack : M[56]? = some (.int 10)) (g_M_sort : M[6]? = some (.int 0)) (g_M_lain : M[66]? = some (.int 0)) (g_M_place : M[7]? = some (.int 0)) (g_M_now : M[76]? = some (.ref nw)) (g_M_acts : M[78]? = some (.int 0)) (g_M_undone : M[79]? = some (.int 0)) (g_M_number : M[8]? = some (.int 0)) (g_M_sights : M[85]? = some (.int 0)) (g_M_hasBox : M[87]? = some (.ref hbx)) (g_M_word : M[9]? = some (.long 0)) (g_m3__0 : m3 0 = 0) (g_m3__1 : m3 1 = 1) (g_m3__2 : m3 2 = 0) (g_m4__0 : m4 0 = (-1)) (g_m4__4 : m4 4 = 0) (g_m4__5 : m4 5 = 0) (g_m4__6 : m4 6 = 0) (g_m4__7 : m4 7 = 0) (g_m4__8 : m4 8 = 0) (g_m4__9 : m4 9 = 0) (g_m6_all : ∀ j, m6 j = 0) : Met l yX12_pavement (WS yX12_pavement cX12_pavement 3 (some .int)) ({ frames := 3, cells := 0, slots := 0, locals := 63 }) (va_Pc [.ref h0] (cP D k [(h0, .inr (12, M)), (ns, .inl (k.2.1, 3, .inl m2)), (ss, .inl (k.2.1, 3, .inl m3)), (nw, .inl (k.2.1, 16, .inl m4)), (hbx, .inl (k.2.2.2, 3, .inl m6))] sz)) (va_Qi (fun (r : Int32) (_ : Unit) => r = 0) (fun (_ : Unit) t => cB D (va_A [(h0, .inr (12, M)), (ns, .inl (k.2.1, 3, .inl m2)), (ss, .inl (k.2.1, 3, .inl m3)), (nw, .inl (k.2.1, 16, .inl m4)), (hbx, .inl (k.2.2.2, 3, .inl m6))] sz) [] t) (va_A [(h0, .inr (12, M)), (ns, .inl (k.2.1, 3, .inl m2)), (ss, .inl (k.2.1, 3, .inl m3)), (nw, .inl (k.2.1, 16, .inl m4)), (hbx, .inl (k.2.2.2, 3, .inl m6))] sz)) 0 0 (va_A [(h0, .inr (12, M)), (ns, .inl (k.2.1, 3, .inl m2)), (ss, .inl (k.2.1, 3, .inl m3)), (nw, .inl (k.2.1, 16, .inl m4)), (hbx, .inl (k.2.2.2, 3, .inl m6))] sz) := by
  refine Met.ofW (cc := cX12_pavement) (maxL := 3) (ret := (some .int)) (by decide) rfl ?_
  intro p e s m args below meth c s₁ B hml hv
  obtain ⟨rfl, hsz, hP, hKX, hD0⟩ := hv
  have hK := hKX.1
  have hx := B.exec
  have hb := B.bytes
  have hr := B.returns
  have hts := atoms_spec (ws := WS yX12_pavement cX12_pavement 3 (some .int)) B.pre
  have hgd : ∀ w ∈ gd, w ∈ WS yX12_pavement cX12_pavement 3 (some .int) := fun w h => List.mem_cons_of_mem _ h
  have hg : ∀ w ∈ gd, w.before _ s = true := fun w h => hts w (hgd w h)
  have hown : s.vm.findClass RX12 = some m.cls := findClass_of_methodNamed B.named
  have hlocks := B.notSynchronized
  subst hsz
  have hD := hD0.self (sz := s.heap.size)
  generalize hAe : va_A [(h0, .inr (12, M)), (ns, .inl (k.2.1, 3, .inl m2)), (ss, .inl (k.2.1, 3, .inl m3)), (nw, .inl (k.2.1, 16, .inl m4)), (hbx, .inl (k.2.2.2, 3, .inl m6))] s.heap.size = A at hD ⊢
  have hA : ∀ q : Nat, s.heap.size ≤ q → A q := fun q h => by rw [← hAe]; exact Or.inr h
  have hS : va_S A s.heap s.heap [] := va_S.rf
  have hP : va_P D classes [(h0, .inr (12, M)), (ns, .inl (k.2.1, 3, .inl m2)), (ss, .inl (k.2.1, 3, .inl m3)), (nw, .inl (k.2.1, 16, .inl m4)), (hbx, .inl (k.2.2.2, 3, .inl m6))] s.heap := hP
  have hl := lv_entry ([.ref h0]) (n := 3) (Nat.le_of_ble_eq_true rfl)
  rw [lg_entry_eq]
  generalize (lg_sl ([.ref h0]) ++ List.replicate (3 - (lg_sl ([.ref h0])).length) Slot.unset).toArray = ls at hl ⊢
  have hl : lv_has ls 3 [(0, .ref h0)] := hl
  refine lv_aload_n hx hb dX12_pavement_0 rfl (lv_at hl 0 rfl) ?_
  have hPc := hP.sub (ws' := [(h0, .inr (12, M)), (ns, .inl (k.2.1, 3, .inl m2))]) [0, 1] rfl
  have hDc := hD.sub (ws' := [(h0, .inr (12, M)), (ns, .inl (k.2.1, 3, .inl m2))]) [0, 1] (by decide) rfl
  have hFc := va_free (wc := [(h0, .inr (12, M)), (ns, .inl (k.2.1, 3, .inl m2))]) hD hS hA [0, 1] rfl
  refine va_callv (va_runV (As := []) (rest := []) ⟨hx, hb, hml, hown, hts⟩ (c_X12_readAll l D k s.heap.size h0 ns ss nw hbx M m2 g_M_taped g_M_fault g_M_nUnits g_M_units g_M_faultPlace g_M_nSlips g_M_at g_M_slips g_M_nStreets g_M_nWalkers g_M_nRules g_M_nHand g_M_nSlack g_M_size g_M_nDraw g_M_nOnce g_M_streets g_M_walkers g_M_rules g_M_hand g_M_slack g_M_sort g_M_lain g_M_place g_M_now g_M_acts g_M_undone g_M_number g_M_sights g_M_hasBox g_M_word) (cwV 0 hts (gd_V hgd m1598 m1600 m49 m131 m1601) rfl rfl rfl (by decide +kernel) ⟨Nat.le_of_ble_eq_true rfl, Nat.le_of_ble_eq_true rfl⟩) (cP_V hPc hKX hDc (ci := 12) (q0 := 0) rfl rfl) rfl rfl hl.1 rfl (lv_room (Nat.le_of_ble_eq_true rfl)) dX12_pavement_1 ⟨Nat.le_of_ble_eq_true rfl, Nat.le_of_ble_eq_true rfl⟩) hS (fun q _ h => hFc q h) hFc (fun u t H1 locs ht hvm hw hB hz1 hk1 hS => ?_)
  obtain ⟨z_2, z_3, g_4, g_5, g_6, g_7, g_8, g_9, g_10, g_11, g_12, g_13, g_14, g_15, g_16, g_17, g_18, g_19, g_20, g_21, g_22, g_23, g_24, g_25, g_26, g_27, g_28, g_29, g_30, g_31, g_32, g_33, g_34, g_35, g_36, g_37, hP1, hD1⟩ := hB
  rw [ht] at hP1
  obtain ⟨hP, hD⟩ := va_join (wr := [(ss, .inl (k.2.1, 3, .inl m3)), (nw, .inl (k.2.1, 16, .inl m4)), (hbx, .inl (k.2.2.2, 3, .inl m6))]) (w1 := [(h0, .inr (12, z_2)), (ns, .inl (k.2.1, 3, .inl z_3))]) hP hD [0, 1] [2, 3, 4] rfl rfl (by decide) (by decide) hk1 hFc hP1 hD1
  generalize H1 = H at hP hS ⊢
  have hP : va_P D classes [(ss, .inl (k.2.1, 3, .inl m3)), (nw, .inl (k.2.1, 16, .inl m4)), (hbx, .inl (k.2.2.2, 3, .inl m6)), (h0, .inr (12, z_2)), (ns, .inl (k.2.1, 3, .inl z_3))] H := hP
  have hD : va_D A [(ss, .inl (k.2.1, 3, .inl m3)), (nw, .inl (k.2.1, 16, .inl m4)), (hbx, .inl (k.2.2.2, 3, .inl m6)), (h0, .inr (12, z_2)), (ns, .inl (k.2.1, 3, .inl z_3))] := hD
  refine W.widen (k := 0) (n := 0) (Nat.le_of_ble_eq_true rfl) (Nat.le_of_ble_eq_true rfl) ?_
  refine lv_aload_n hx hb dX12_pavement_4 rfl (lv_at hl 0 rfl) ?_
  refine va_get (D := D) (ci := 12) (v := .int 0) (C := RX12) (T := TX12) (N := 89) hx hb hg iX12 hown hK hP 3 rfl rfl 2 (by decide) (hg (Cond.fieldLink RX12 218 "SlabWalkModel" "fault" "I") m1316) (fun _ h9 => h9) g_5 dX12_pavement_5 ?_
  refine lv_if_le (tgt := 13) hx hb dX12_pavement_8 (by decide) (fun c_38 => ?_) (fun c_38 => ?_)
  · have c_38 : (0 : Int32) ≤ 0 := c_38
    refine lv_aload_n hx hb dX12_pavement_13 rfl (lv_at hl 0 rfl) ?_
    refine lv_aload_n hx hb dX12_pavement_14 rfl (lv_at hl 0 rfl) ?_
    refine va_get (D := D) (ci := 12) (v := .int 0) (C := RX12) (T := TX12) (N := 89) hx hb hg iX12 hown hK hP 3 rfl rfl 45 (by decide) (hg (Cond.fieldLink RX12 359 "SlabWalkModel" "nStreets" "I") m1359) (fun _ h9 => h9) g_12 dX12_pavement_15 ?_
    refine va_put (D := D) (ci := 12) (v := .int 0) (ty := .int) (C := RX12) (T := TX12) (N := 89) hx hb hg iX12 tyX12 tyX12_ok nmX12 hown hK hP hD hS 3 rfl rfl 52 (by decide) (hg (Cond.fieldLink RX12 425 "SlabWalkModel" "streets" "I") m1366) (fun _ h9 => h9) rfl (by decide +kernel) rfl rfl (fs_lt g_20) dX12_pavement_18 (fun H locs hP hD hS => ?_)
    have hP : va_P D classes [(ss, .inl (k.2.1, 3, .inl m3)), (nw, .inl (k.2.1, 16, .inl m4)), (hbx, .inl (k.2.2.2, 3, .inl m6)), (h0, .inr (12, (z_2.set 52 (.int 0)))), (ns, .inl (k.2.1, 3, .inl z_3))] H := hP
    have hD : va_D A [(ss, .inl (k.2.1, 3, .inl m3)), (nw, .inl (k.2.1, 16, .inl m4)), (hbx, .inl (k.2.2.2, 3, .inl m6)), (h0, .inr (12, (z_2.set 52 (.int 0)))), (ns, .inl (k.2.1, 3, .inl z_3))] := hD
    refine lv_aload_n hx hb dX12_pavement_21 rfl (lv_at hl 0 rfl) ?_
    refine lv_aload_n hx hb dX12_pavement_22 rfl (lv_at hl 0 rfl) ?_
    refine va_get (D := D) (ci := 12) (v := .int 0) (C := RX12) (T := TX12) (N := 89) hx hb hg iX12 hown hK hP 3 rfl rfl 46 (by decide) (hg (Cond.fieldLink RX12 379 "SlabWalkModel" "nWalkers" "I") m1360) (fun _ h9 => h9) (fs_ne g_13 (by decide)) dX12_pavement_23 ?_
    refine va_put (D := D) (ci := 12) (v := .int 0) (ty := .int) (C := RX12) (T := TX12) (N := 89) hx hb hg iX12 tyX12 tyX12_ok nmX12 hown hK hP hD hS 3 rfl rfl 53 (by decide) (hg (Cond.fieldLink RX12 428 "SlabWalkModel" "walkers" "I") m1367) (fun _ h9 => h9) rfl (by decide +kernel) rfl rfl (fs_lt (fs_ne g_21 (by decide))) dX12_pavement_26 (fun H locs hP hD hS => ?_)
    have hP : va_P D classes [(ss, .inl (k.2.1, 3, .inl m3)), (nw, .inl (k.2.1, 16, .inl m4)), (hbx, .inl (k.2.2.2, 3, .inl m6)), (h0, .inr (12, ((z_2.set 52 (.int 0)).set 53 (.int 0)))), (ns, .inl (k.2.1, 3, .inl z_3))] H := hP
    have hD : va_D A [(ss, .inl (k.2.1, 3, .inl m3)), (nw, .inl (k.2.1, 16, .inl m4)), (hbx, .inl (k.2.2.2, 3, .inl m6)), (h0, .inr (12, ((z_2.set 52 (.int 0)).set 53 (.int 0)))), (ns, .inl (k.2.1, 3, .inl z_3))] := hD
    refine lv_aload_n hx hb dX12_pavement_29 rfl (lv_at hl 0 rfl) ?_
    refine lv_aload_n hx hb dX12_pavement_30 rfl (lv_at hl 0 rfl) ?_
    refine va_get (D := D) (ci := 12) (v := .int 0) (C := RX12) (T := TX12) (N := 89) hx hb hg iX12 hown hK hP 3 rfl rfl 47 (by decide) (hg (Cond.fieldLink RX12 385 "SlabWalkModel" "nRules" "I") m1361) (fun _ h9 => h9) (fs_ne (fs_ne g_14 (by decide)) (by decide)) dX12_pavement_31 ?_
    refine va_put (D := D) (ci := 12) (v := .int 0) (ty := .int) (C := RX12) (T := TX12) (N := 89) hx hb hg iX12 tyX12 tyX12_ok nmX12 hown hK hP hD hS 3 rfl rfl 54 (by decide) (hg (Cond.fieldLink RX12 431 "SlabWalkModel" "rules" "I") m1368) (fun _ h9 => h9) rfl (by decide +kernel) rfl rfl (fs_lt (fs_ne (fs_ne g_22 (by decide)) (by decide))) dX12_pavement_34 (fun H locs hP hD hS => ?_)
    have hP : va_P D classes [(ss, .inl (k.2.1, 3, .inl m3)), (nw, .inl (k.2.1, 16, .inl m4)), (hbx, .inl (k.2.2.2, 3, .inl m6)), (h0, .inr (12, (((z_2.set 52 (.int 0)).set 53 (.int 0)).set 54 (.int 0)))), (ns, .inl (k.2.1, 3, .inl z_3))] H := hP
    have hD : va_D A [(ss, .inl (k.2.1, 3, .inl m3)), (nw, .inl (k.2.1, 16, .inl m4)), (hbx, .inl (k.2.2.2, 3, .inl m6)), (h0, .inr (12, (((z_2.set 52 (.int 0)).set 53 (.int 0)).set 54 (.int 0)))), (ns, .inl (k.2.1, 3, .inl z_3))] := hD
    refine lv_aload_n hx hb dX12_pavement_37 rfl (lv_at hl 0 rfl) ?_
    refine lv_aload_n hx hb dX12_pavement_38 rfl (lv_at hl 0 rfl) ?_
    refine va_get (D := D) (ci := 12) (v := .int 30) (C := RX12) (T := TX12) (N := 89) hx hb hg iX12 hown hK hP 3 rfl rfl 48 (by decide) (hg (Cond.fieldLink RX12 410 "SlabWalkModel" "nHand" "I") m1362) (fun _ h9 => h9) (fs_ne (fs_ne (fs_ne g_15 (by decide)) (by decide)) (by decide)) dX12_pavement_39 ?_
    refine va_put (D := D) (ci := 12) (v := .int 30) (ty := .int) (C := RX12) (T := TX12) (N := 89) hx hb hg iX12 tyX12 tyX12_ok nmX12 hown hK hP hD hS 3 rfl rfl 55 (by decide) (hg (Cond.fieldLink RX12 105 "SlabWalkModel" "hand" "I") m1369) (fun _ h9 => h9) rfl (by decide +kernel) rfl rfl (fs_lt (fs_ne (fs_ne (fs_ne g_23 (by decide)) (by decide)) (by decide))) dX12_pavement_42 (fun H locs hP hD hS => ?_)
    have hP : va_P D classes [(ss, .inl (k.2.1, 3, .inl m3)), (nw, .inl (k.2.1, 16, .inl m4)), (hbx, .inl (k.2.2.2, 3, .inl m6)), (h0, .inr (12, ((((z_2.set 52 (.int 0)).set 53 (.int 0)).set 54 (.int 0)).set 55 (.int 30)))), (ns, .inl (k.2.1, 3, .inl z_3))] H := hP
    have hD : va_D A [(ss, .inl (k.2.1, 3, .inl m3)), (nw, .inl (k.2.1, 16, .inl m4)), (hbx, .inl (k.2.2.2, 3, .inl m6)), (h0, .inr (12, ((((z_2.set 52 (.int 0)).set 53 (.int 0)).set 54 (.int 0)).set 55 (.int 30)))), (ns, .inl (k.2.1, 3, .inl z_3))] := hD
    refine lv_aload_n hx hb dX12_pavement_45 rfl (lv_at hl 0 rfl) ?_
    refine lv_aload_n hx hb dX12_pavement_46 rfl (lv_at hl 0 rfl) ?_
    refine va_get (D := D) (ci := 12) (v := .int 10) (C := RX12) (T := TX12) (N := 89) hx hb hg iX12 hown hK hP 3 rfl rfl 49 (by decide) (hg (Cond.fieldLink RX12 413 "SlabWalkModel" "nSlack" "I") m1363) (fun _ h9 => h9) (fs_ne (fs_ne (fs_ne (fs_ne g_16 (by decide)) (by decide)) (by decide)) (by decide)) dX12_pavement_47 ?_
    refine va_put (D := D) (ci := 12) (v := .int 10) (ty := .int) (C := RX12) (T := TX12) (N := 89) hx hb hg iX12 tyX12 tyX12_ok nmX12 hown hK hP hD hS 3 rfl rfl 56 (by decide) (hg (Cond.fieldLink RX12 108 "SlabWalkModel" "slack" "I") m1370) (fun _ h9 => h9) rfl (by decide +kernel) rfl rfl (fs_lt (fs_ne (fs_ne (fs_ne (fs_ne g_24 (by decide)) (by decide)) (by decide)) (by decide))) dX12_pavement_50 (fun H locs hP hD hS => ?_)
    have hP : va_P D classes [(ss, .inl (k.2.1, 3, .inl m3)), (nw, .inl (k.2.1, 16, .inl m4)), (hbx, .inl (k.2.2.2, 3, .inl m6)), (h0, .inr (12, (((((z_2.set 52 (.int 0)).set 53 (.int 0)).set 54 (.int 0)).set 55 (.int 30)).set 56 (.int 10)))), (ns, .inl (k.2.1, 3, .inl z_3))] H := hP
    have hD : va_D A [(ss, .inl (k.2.1, 3, .inl m3)), (nw, .inl (k.2.1, 16, .inl m4)), (hbx, .inl (k.2.2.2, 3, .inl m6)), (h0, .inr (12, (((((z_2.set 52 (.int 0)).set 53 (.int 0)).set 54 (.int 0)).set 55 (.int 30)).set 56 (.int 10)))), (ns, .inl (k.2.1, 3, .inl z_3))] := hD
    refine lv_aload_n hx hb dX12_pavement_53 rfl (lv_at hl 0 rfl) ?_
    refine lv_aload_n hx hb dX12_pavement_54 rfl (lv_at hl 0 rfl) ?_
    refine va_get (D := D) (ci := 12) (v := .int 0) (C := RX12) (T := TX12) (N := 89) hx hb hg iX12 hown hK hP 3 rfl rfl 21 (by decide) (hg (Cond.fieldLink RX12 312 "SlabWalkModel" "nUnits" "I") m1335) (fun _ h9 => h9) (fs_ne (fs_ne (fs_ne (fs_ne (fs_ne g_6 (by decide)) (by decide)) (by decide)) (by decide)) (by decide)) dX12_pavement_55 ?_
    refine va_put (D := D) (ci := 12) (v := .int 0) (ty := .int) (C := RX12) (T := TX12) (N := 89) hx hb hg iX12 tyX12 tyX12_ok nmX12 hown hK hP hD hS 3 rfl rfl 22 (by decide) (hg (Cond.fieldLink RX12 434 "SlabWalkModel" "units" "I") m1336) (fun _ h9 => h9) rfl (by decide +kernel) rfl rfl (fs_lt (fs_ne (fs_ne (fs_ne (fs_ne (fs_ne g_7 (by decide)) (by decide)) (by decide)) (by decide)) (by decide))) dX12_pavement_58 (fun H locs hP hD hS => ?_)
    have hP : va_P D classes [(ss, .inl (k.2.1, 3, .inl m3)), (nw, .inl (k.2.1, 16, .inl m4)), (hbx, .inl (k.2.2.2, 3, .inl m6)), (h0, .inr (12, ((((((z_2.set 52 (.int 0)).set 53 (.int 0)).set 54 (.int 0)).set 55 (.int 30)).set 56 (.int 10)).set 22 (.int 0)))), (ns, .inl (k.2.1, 3, .inl z_3))] H := hP
    have hD : va_D A [(ss, .inl (k.2.1, 3, .inl m3)), (nw, .inl (k.2.1, 16, .inl m4)), (hbx, .inl (k.2.2.2, 3, .inl m6)), (h0, .inr (12, ((((((z_2.set 52 (.int 0)).set 53 (.int 0)).set 54 (.int 0)).set 55 (.int 30)).set 56 (.int 10)).set 22 (.int 0)))), (ns, .inl (k.2.1, 3, .inl z_3))] := hD
    refine lv_iconst (v := 0) hx hb dX12_pavement_61 (by decide) ?_
    refine lv_istore_n (lv' := [(1, .int 0), (0, .ref h0)]) hx hb dX12_pavement_62 rfl hl (by decide) rfl (fun ls hl => ?_)
    refine lv_iload_n hx hb dX12_pavement_63 rfl (lv_at hl 0 rfl) ?_
    refine lv_iconst (v := 3) hx hb dX12_pavement_64 (by decide) ?_
    refine lv_icmp_ge (tgt := 86) hx hb dX12_pavement_65 (by decide) (fun c_39 => ?_) (fun c_39 => ?_)
    · exact absurd c_39 (by decide)
    · have c_39 : ¬ ((3 : Int32) ≤ 0) := c_39
      refine lv_aload_n hx hb dX12_pavement_68 rfl (lv_at hl 1 rfl) ?_
      refine va_get (D := D) (ci := 12) (v := .ref ss) (C := RX12) (T := TX12) (N := 89) hx hb hg iX12 hown hK hP 3 rfl rfl 44 (by decide) (hg (Cond.fieldLink RX12 102 "SlabWalkModel" "slips" "[I") m1358) (fun _ h9 => h9) (fs_ne (fs_ne (fs_ne (fs_ne (fs_ne (fs_ne g_11 (by decide)) (by decide)) (by decide)) (by decide)) (by decide)) (by decide)) dX12_pavement_69 ?_
      refine lv_iload_n hx hb dX12_pavement_72 rfl (lv_at hl 0 rfl) ?_
      refine lv_aload_n hx hb dX12_pavement_73 rfl (lv_at hl 1 rfl) ?_
      refine va_get (D := D) (ci := 12) (v := .ref ns) (C := RX12) (T := TX12) (N := 89) hx hb hg iX12 hown hK hP 3 rfl rfl 34 (by decide) (hg (Cond.fieldLink RX12 72 "SlabWalkModel" "nSlips" "[I") m1348) (fun _ h9 => h9) (fs_ne (fs_ne (fs_ne (fs_ne (fs_ne (fs_ne g_9 (by decide)) (by decide)) (by decide)) (by decide)) (by decide)) (by decide)) dX12_pavement_74 ?_
      refine lv_iload_n hx hb dX12_pavement_77 rfl (lv_at hl 0 rfl) ?_
      refine va_iald hx hb hK hP 4 1 rfl rfl (show ¬ ((0 : Int32) < 0 ∨ 3 ≤ (0 : Int32).toNatClampNeg) from by decide +kernel) dX12_pavement_78 ?_
      refine lv_topi (fun y_40 ey_40 => ?_)
      obtain rfl : y_40 = 0 := ey_40.trans (g_35)
      refine va_iast hx hb hK hP hD hS 0 1 rfl rfl (show ¬ ((0 : Int32) < 0 ∨ 3 ≤ (0 : Int32).toNatClampNeg) from by decide +kernel) dX12_pavement_79 (fun H locs hP hD hS => ?_)
      have hP : va_P D classes [(ss, .inl (k.2.1, 3, .inl (upd m3 0 0))), (nw, .inl (k.2.1, 16, .inl m4)), (hbx, .inl (k.2.2.2, 3, .inl m6)), (h0, .inr (12, ((((((z_2.set 52 (.int 0)).set 53 (.int 0)).set 54 (.int 0)).set 55 (.int 30)).set 56 (.int 10)).set 22 (.int 0)))), (ns, .inl (k.2.1, 3, .inl z_3))] H := hP
      have hD : va_D A [(ss, .inl (k.2.1, 3, .inl (upd m3 0 0))), (nw, .inl (k.2.1, 16, .inl m4)), (hbx, .inl (k.2.2.2, 3, .inl m6)), (h0, .inr (12, ((((((z_2.set 52 (.int 0)).set 53 (.int 0)).set 54 (.int 0)).set 55 (.int 30)).set 56 (.int 10)).set 22 (.int 0)))), (ns, .inl (k.2.1, 3, .inl z_3))] := hD
      have g_42 : (upd m3 0 0) 1 = 1 := g_m3__1
      have g_43 : (upd m3 0 0) 2 = 0 := g_m3__2
      have g_44 : (upd m3 0 0) 0 = 0 := rfl
      generalize (upd m3 0 0) = f_41 at hP hD g_42 g_43 g_44
      refine lv_iinc (v := 1) (lv' := [(1, .int 1), (0, .ref h0)]) hx hb dX12_pavement_80 hl (k := 0) rfl (by decide) (by decide) rfl (fun ls hl => ?_)
      refine lv_goto (tgt := 63) hx hb dX12_pavement_83 (by decide) ?_
      refine lv_iload_n hx hb dX12_pavement_63 rfl (lv_at hl 0 rfl) ?_
      refine lv_iconst (v := 3) hx hb dX12_pavement_64 (by decide) ?_
      refine lv_icmp_ge (tgt := 86) hx hb dX12_pavement_65 (by decide) (fun c_45 => ?_) (fun c_45 => ?_)
      · exact absurd c_45 (by decide)
      · have c_45 : ¬ ((3 : Int32) ≤ 1) := c_45
        refine lv_aload_n hx hb dX12_pavement_68 rfl (lv_at hl 1 rfl) ?_
        refine va_get (D := D) (ci := 12) (v := .ref ss) (C := RX12) (T := TX12) (N := 89) hx hb hg iX12 hown hK hP 3 rfl rfl 44 (by decide) (hg (Cond.fieldLink RX12 102 "SlabWalkModel" "slips" "[I") m1358) (fun _ h9 => h9) (fs_ne (fs_ne (fs_ne (fs_ne (fs_ne (fs_ne g_11 (by decide)) (by decide)) (by decide)) (by decide)) (by decide)) (by decide)) dX12_pavement_69 ?_
        refine lv_iload_n hx hb dX12_pavement_72 rfl (lv_at hl 0 rfl) ?_
        refine lv_aload_n hx hb dX12_pavement_73 rfl (lv_at hl 1 rfl) ?_
        refine va_get (D := D) (ci := 12) (v := .ref ns) (C := RX12) (T := TX12) (N := 89) hx hb hg iX12 hown hK hP 3 rfl rfl 34 (by decide) (hg (Cond.fieldLink RX12 72 "SlabWalkModel" "nSlips" "[I") m1348) (fun _ h9 => h9) (fs_ne (fs_ne (fs_ne (fs_ne (fs_ne (fs_ne g_9 (by decide)) (by decide)) (by decide)) (by decide)) (by decide)) (by decide)) dX12_pavement_74 ?_
        refine lv_iload_n hx hb dX12_pavement_77 rfl (lv_at hl 0 rfl) ?_
        refine va_iald hx hb hK hP 4 1 rfl rfl (show ¬ ((1 : Int32) < 0 ∨ 3 ≤ (1 : Int32).toNatClampNeg) from by decide +kernel) dX12_pavement_78 ?_
        refine lv_topi (fun y_46 ey_46 => ?_)
        obtain rfl : y_46 = 1 := ey_46.trans (g_36)
        refine va_iast hx hb hK hP hD hS 0 1 rfl rfl (show ¬ ((1 : Int32) < 0 ∨ 3 ≤ (1 : Int32).toNatClampNeg) from by decide +kernel) dX12_pavement_79 (fun H locs hP hD hS => ?_)
        have hP : va_P D classes [(ss, .inl (k.2.1, 3, .inl (upd f_41 1 1))), (nw, .inl (k.2.1, 16, .inl m4)), (hbx, .inl (k.2.2.2, 3, .inl m6)), (h0, .inr (12, ((((((z_2.set 52 (.int 0)).set 53 (.int 0)).set 54 (.int 0)).set 55 (.int 30)).set 56 (.int 10)).set 22 (.int 0)))), (ns, .inl (k.2.1, 3, .inl z_3))] H := hP
        have hD : va_D A [(ss, .inl (k.2.1, 3, .inl (upd f_41 1 1))), (nw, .inl (k.2.1, 16, .inl m4)), (hbx, .inl (k.2.2.2, 3, .inl m6)), (h0, .inr (12, ((((((z_2.set 52 (.int 0)).set 53 (.int 0)).set 54 (.int 0)).set 55 (.int 30)).set 56 (.int 10)).set 22 (.int 0)))), (ns, .inl (k.2.1, 3, .inl z_3))] := hD
        have g_48 : (upd f_41 1 1) 2 = 0 := g_43
        have g_49 : (upd f_41 1 1) 0 = 0 := g_44
        have g_50 : (upd f_41 1 1) 1 = 1 := rfl
        generalize (upd f_41 1 1) = f_47 at hP hD g_48 g_49 g_50
        refine lv_iinc (v := 2) (lv' := [(1, .int 2), (0, .ref h0)]) hx hb dX12_pavement_80 hl (k := 0) rfl (by decide) (by decide) rfl (fun ls hl => ?_)
        refine lv_goto (tgt := 63) hx hb dX12_pavement_83 (by decide) ?_
        refine lv_iload_n hx hb dX12_pavement_63 rfl (lv_at hl 0 rfl) ?_
        refine lv_iconst (v := 3) hx hb dX12_pavement_64 (by decide) ?_
        refine lv_icmp_ge (tgt := 86) hx hb dX12_pavement_65 (by decide) (fun c_51 => ?_) (fun c_51 => ?_)
        · exact absurd c_51 (by decide)
        · have c_51 : ¬ ((3 : Int32) ≤ 2) := c_51
          refine lv_aload_n hx hb dX12_pavement_68 rfl (lv_at hl 1 rfl) ?_
          refine va_get (D := D) (ci := 12) (v := .ref ss) (C := RX12) (T := TX12) (N := 89) hx hb hg iX12 hown hK hP 3 rfl rfl 44 (by decide) (hg (Cond.fieldLink RX12 102 "SlabWalkModel" "slips" "[I") m1358) (fun _ h9 => h9) (fs_ne (fs_ne (fs_ne (fs_ne (fs_ne (fs_ne g_11 (by decide)) (by decide)) (by decide)) (by decide)) (by decide)) (by decide)) dX12_pavement_69 ?_
          refine lv_iload_n hx hb dX12_pavement_72 rfl (lv_at hl 0 rfl) ?_
          refine lv_aload_n hx hb dX12_pavement_73 rfl (lv_at hl 1 rfl) ?_
          refine va_get (D := D) (ci := 12) (v := .ref ns) (C := RX12) (T := TX12) (N := 89) hx hb hg iX12 hown hK hP 3 rfl rfl 34 (by decide) (hg (Cond.fieldLink RX12 72 "SlabWalkModel" "nSlips" "[I") m1348) (fun _ h9 => h9) (fs_ne (fs_ne (fs_ne (fs_ne (fs_ne (fs_ne g_9 (by decide)) (by decide)) (by decide)) (by decide)) (by decide)) (by decide)) dX12_pavement_74 ?_
          refine lv_iload_n hx hb dX12_pavement_77 rfl (lv_at hl 0 rfl) ?_
          refine va_iald hx hb hK hP 4 1 rfl rfl (show ¬ ((2 : Int32) < 0 ∨ 3 ≤ (2 : Int32).toNatClampNeg) from by decide +kernel) dX12_pavement_78 ?_
          refine lv_topi (fun y_52 ey_52 => ?_)
          obtain rfl : y_52 = 0 := ey_52.trans (g_37)
          refine va_iast hx hb hK hP hD hS 0 1 rfl rfl (show ¬ ((2 : Int32) < 0 ∨ 3 ≤ (2 : Int32).toNatClampNeg) from by decide +kernel) dX12_pavement_79 (fun H locs hP hD hS => ?_)
          have hP : va_P D classes [(ss, .inl (k.2.1, 3, .inl (upd f_47 2 0))), (nw, .inl (k.2.1, 16, .inl m4)), (hbx, .inl (k.2.2.2, 3, .inl m6)), (h0, .inr (12, ((((((z_2.set 52 (.int 0)).set 53 (.int 0)).set 54 (.int 0)).set 55 (.int 30)).set 56 (.int 10)).set 22 (.int 0)))), (ns, .inl (k.2.1, 3, .inl z_3))] H := hP
          have hD : va_D A [(ss, .inl (k.2.1, 3, .inl (upd f_47 2 0))), (nw, .inl (k.2.1, 16, .inl m4)), (hbx, .inl (k.2.2.2, 3, .inl m6)), (h0, .inr (12, ((((((z_2.set 52 (.int 0)).set 53 (.int 0)).set 54 (.int 0)).set 55 (.int 30)).set 56 (.int 10)).set 22 (.int 0)))), (ns, .inl (k.2.1, 3, .inl z_3))] := hD
          have g_54 : (upd f_47 2 0) 0 = 0 := g_49
          have g_55 : (upd f_47 2 0) 1 = 1 := g_50
          have g_56 : (upd f_47 2 0) 2 = 0 := rfl
          generalize (upd f_47 2 0) = f_53 at hP hD g_54 g_55 g_56
          refine lv_iinc (v := 3) (lv' := [(1, .int 3), (0, .ref h0)]) hx hb dX12_pavement_80 hl (k := 0) rfl (by decide) (by decide) rfl (fun ls hl => ?_)
          refine lv_goto (tgt := 63) hx hb dX12_pavement_83 (by decide) ?_
          refine lv_iload_n hx hb dX12_pavement_63 rfl (lv_at hl 0 rfl) ?_
          refine lv_iconst (v := 3) hx hb dX12_pavement_64 (by decide) ?_
          refine lv_icmp_ge (tgt := 86) hx hb dX12_pavement_65 (by decide) (fun c_57 => ?_) (fun c_57 => ?_)
          · have c_57 : (3 : Int32) ≤ 3 := c_57
            refine lv_iconst (v := 0) hx hb dX12_pavement_86 (by decide) ?_
            refine lv_istore_n (lv' := [(1, .int 0), (0, .ref h0)]) hx hb dX12_pavement_87 rfl hl (by decide) rfl (fun ls hl => ?_)
            refine lv_iload_n hx hb dX12_pavement_88 rfl (lv_at hl 0 rfl) ?_
            refine lv_aload_n hx hb dX12_pavement_89 rfl (lv_at hl 1 rfl) ?_
            refine va_get (D := D) (ci := 12) (v := .int 0) (C := RX12) (T := TX12) (N := 89) hx hb hg iX12 hown hK hP 3 rfl rfl 54 (by decide) (hg (Cond.fieldLink RX12 431 "SlabWalkModel" "rules" "I") m1368) (fun _ h9 => h9) (fs_ne (fs_ne (fs_ne (fs_eq (fs_ne (fs_ne g_22 (by decide)) (by decide))) (by decide)) (by decide)) (by decide)) dX12_pavement_90 ?_
            refine lv_icmp_ge (tgt := 166) hx hb dX12_pavement_93 (by decide) (fun c_58 => ?_) (fun c_58 => ?_)
            · have c_58 : (0 : Int32) ≤ 0 := c_58
              refine lv_iconst (v := 0) hx hb dX12_pavement_166 (by decide) ?_
              refine lv_istore_n (lv' := [(1, .int 0), (0, .ref h0)]) hx hb dX12_pavement_167 rfl hl (by decide) rfl (fun ls hl => ?_)
              refine lv_iload_n hx hb dX12_pavement_168 rfl (lv_at hl 0 rfl) ?_
              refine lv_aload_n hx hb dX12_pavement_169 rfl (lv_at hl 1 rfl) ?_
              refine va_get (D := D) (ci := 12) (v := .int 0) (C := RX12) (T := TX12) (N := 89) hx hb hg iX12 hown hK hP 3 rfl rfl 52 (by decide) (hg (Cond.fieldLink RX12 425 "SlabWalkModel" "streets" "I") m1366) (fun _ h9 => h9) (fs_ne (fs_ne (fs_ne (fs_ne (fs_ne (fs_eq g_20) (by decide)) (by decide)) (by decide)) (by decide)) (by decide)) dX12_pavement_170 ?_
              refine lv_icmp_ge (tgt := 270) hx hb dX12_pavement_173 (by decide) (fun c_59 => ?_) (fun c_59 => ?_)
              · have c_59 : (0 : Int32) ≤ 0 := c_59
                refine lv_iconst (v := 0) hx hb dX12_pavement_270 (by decide) ?_
                refine lv_istore_n (lv' := [(1, .int 0), (0, .ref h0)]) hx hb dX12_pavement_271 rfl hl (by decide) rfl (fun ls hl => ?_)
                refine lv_iload_n hx hb dX12_pavement_272 rfl (lv_at hl 0 rfl) ?_
                refine lv_aload_n hx hb dX12_pavement_273 rfl (lv_at hl 1 rfl) ?_
                refine va_get (D := D) (ci := 12) (v := .int 0) (C := RX12) (T := TX12) (N := 89) hx hb hg iX12 hown hK hP 3 rfl rfl 53 (by decide) (hg (Cond.fieldLink RX12 428 "SlabWalkModel" "walkers" "I") m1367) (fun _ h9 => h9) (fs_ne (fs_ne (fs_ne (fs_ne (fs_eq (fs_ne g_21 (by decide))) (by decide)) (by decide)) (by decide)) (by decide)) dX12_pavement_274 ?_
                refine lv_icmp_ge (tgt := 334) hx hb dX12_pavement_277 (by decide) (fun c_60 => ?_) (fun c_60 => ?_)
                · have c_60 : (0 : Int32) ≤ 0 := c_60
                  refine lv_iconst (v := 0) hx hb dX12_pavement_334 (by decide) ?_
                  refine lv_istore_n (lv' := [(1, .int 0), (0, .ref h0)]) hx hb dX12_pavement_335 rfl hl (by decide) rfl (fun ls hl => ?_)
                  refine lv_iload_n hx hb dX12_pavement_336 rfl (lv_at hl 0 rfl) ?_
                  refine lv_bipush (v := 10) hx hb dX12_pavement_337 (by decide) ?_
                  refine lv_icmp_ge (tgt := 355) hx hb dX12_pavement_339 (by decide) (fun c_61 => ?_) (fun c_61 => ?_)
                  · exact absurd c_61 (by decide)
                  · have c_61 : ¬ ((10 : Int32) ≤ 0) := c_61
                    refine lv_aload_n hx hb dX12_pavement_342 rfl (lv_at hl 1 rfl) ?_
                    refine va_get (D := D) (ci := 12) (v := .ref nw) (C := RX12) (T := TX12) (N := 89) hx hb hg iX12 hown hK hP 3 rfl rfl 76 (by decide) (hg (Cond.fieldLink RX12 151 "SlabWalkModel" "now" "[I") m1390) (fun _ h9 => h9) (fs_ne (fs_ne (fs_ne (fs_ne (fs_ne (fs_ne g_28 (by decide)) (by decide)) (by decide)) (by decide)) (by decide)) (by decide)) dX12_pavement_343 ?_
                    refine lv_iload_n hx hb dX12_pavement_346 rfl (lv_at hl 0 rfl) ?_
                    refine lv_iconst (v := 0) hx hb dX12_pavement_347 (by decide) ?_
                    refine va_iast hx hb hK hP hD hS 1 1 rfl rfl (show ¬ ((0 : Int32) < 0 ∨ 16 ≤ (0 : Int32).toNatClampNeg) from by decide +kernel) dX12_pavement_348 (fun H locs hP hD hS => ?_)
                    have hP : va_P D classes [(ss, .inl (k.2.1, 3, .inl f_53)), (nw, .inl (k.2.1, 16, .inl (upd m4 0 0))), (hbx, .inl (k.2.2.2, 3, .inl m6)), (h0, .inr (12, ((((((z_2.set 52 (.int 0)).set 53 (.int 0)).set 54 (.int 0)).set 55 (.int 30)).set 56 (.int 10)).set 22 (.int 0)))), (ns, .inl (k.2.1, 3, .inl z_3))] H := hP
                    have hD : va_D A [(ss, .inl (k.2.1, 3, .inl f_53)), (nw, .inl (k.2.1, 16, .inl (upd m4 0 0))), (hbx, .inl (k.2.2.2, 3, .inl m6)), (h0, .inr (12, ((((((z_2.set 52 (.int 0)).set 53 (.int 0)).set 54 (.int 0)).set 55 (.int 30)).set 56 (.int 10)).set 22 (.int 0)))), (ns, .inl (k.2.1, 3, .inl z_3))] := hD
                    have g_63 : (upd m4 0 0) 4 = 0 := g_m4__4
                    have g_64 : (upd m4 0 0) 5 = 0 := g_m4__5
                    have g_65 : (upd m4 0 0) 6 = 0 := g_m4__6
                    have g_66 : (upd m4 0 0) 7 = 0 := g_m4__7
                    have g_67 : (upd m4 0 0) 8 = 0 := g_m4__8
                    have g_68 : (upd m4 0 0) 9 = 0 := g_m4__9
                    have g_69 : (upd m4 0 0) 0 = 0 := rfl
                    generalize (upd m4 0 0) = f_62 at hP hD g_63 g_64 g_65 g_66 g_67 g_68 g_69
                    refine lv_iinc (v := 1) (lv' := [(1, .int 1), (0, .ref h0)]) hx hb dX12_pavement_349 hl (k := 0) rfl (by decide) (by decide) rfl (fun ls hl => ?_)
                    refine lv_goto (tgt := 336) hx hb dX12_pavement_352 (by decide) ?_
                    refine lv_iload_n hx hb dX12_pavement_336 rfl (lv_at hl 0 rfl) ?_
                    refine lv_bipush (v := 10) hx hb dX12_pavement_337 (by decide) ?_
                    refine lv_icmp_ge (tgt := 355) hx hb dX12_pavement_339 (by decide) (fun c_70 => ?_) (fun c_70 => ?_)
                    · exact absurd c_70 (by decide)
                    · have c_70 : ¬ ((10 : Int32) ≤ 1) := c_70
                      refine lv_aload_n hx hb dX12_pavement_342 rfl (lv_at hl 1 rfl) ?_
                      refine va_get (D := D) (ci := 12) (v := .ref nw) (C := RX12) (T := TX12) (N := 89) hx hb hg iX12 hown hK hP 3 rfl rfl 76 (by decide) (hg (Cond.fieldLink RX12 151 "SlabWalkModel" "now" "[I") m1390) (fun _ h9 => h9) (fs_ne (fs_ne (fs_ne (fs_ne (fs_ne (fs_ne g_28 (by decide)) (by decide)) (by decide)) (by decide)) (by decide)) (by decide)) dX12_pavement_343 ?_
                      refine lv_iload_n hx hb dX12_pavement_346 rfl (lv_at hl 0 rfl) ?_
                      refine lv_iconst (v := 0) hx hb dX12_pavement_347 (by decide) ?_
                      refine va_iast hx hb hK hP hD hS 1 1 rfl rfl (show ¬ ((1 : Int32) < 0 ∨ 16 ≤ (1 : Int32).toNatClampNeg) from by decide +kernel) dX12_pavement_348 (fun H locs hP hD hS => ?_)
                      have hP : va_P D classes [(ss, .inl (k.2.1, 3, .inl f_53)), (nw, .inl (k.2.1, 16, .inl (upd f_62 1 0))), (hbx, .inl (k.2.2.2, 3, .inl m6)), (h0, .inr (12, ((((((z_2.set 52 (.int 0)).set 53 (.int 0)).set 54 (.int 0)).set 55 (.int 30)).set 56 (.int 10)).set 22 (.int 0)))), (ns, .inl (k.2.1, 3, .inl z_3))] H := hP
                      have hD : va_D A [(ss, .inl (k.2.1, 3, .inl f_53)), (nw, .inl (k.2.1, 16, .inl (upd f_62 1 0))), (hbx, .inl (k.2.2.2, 3, .inl m6)), (h0, .inr (12, ((((((z_2.set 52 (.int 0)).set 53 (.int 0)).set 54 (.int 0)).set 55 (.int 30)).set 56 (.int 10)).set 22 (.int 0)))), (ns, .inl (k.2.1, 3, .inl z_3))] := hD
                      have g_72 : (upd f_62 1 0) 4 = 0 := g_63
                      have g_73 : (upd f_62 1 0) 5 = 0 := g_64
                      have g_74 : (upd f_62 1 0) 6 = 0 := g_65
                      have g_75 : (upd f_62 1 0) 7 = 0 := g_66
                      have g_76 : (upd f_62 1 0) 8 = 0 := g_67
                      have g_77 : (upd f_62 1 0) 9 = 0 := g_68
                      have g_78 : (upd f_62 1 0) 0 = 0 := g_69
                      have g_79 : (upd f_62 1 0) 1 = 0 := rfl
                      generalize (upd f_62 1 0) = f_71 at hP hD g_72 g_73 g_74 g_75 g_76 g_77 g_78 g_79
                      refine lv_iinc (v := 2) (lv' := [(1, .int 2), (0, .ref h0)]) hx hb dX12_pavement_349 hl (k := 0) rfl (by decide) (by decide) rfl (fun ls hl => ?_)
                      refine lv_goto (tgt := 336) hx hb dX12_pavement_352 (by decide) ?_
                      refine lv_iload_n hx hb dX12_pavement_336 rfl (lv_at hl 0 rfl) ?_
                      refine lv_bipush (v := 10) hx hb dX12_pavement_337 (by decide) ?_
                      refine lv_icmp_ge (tgt := 355) hx hb dX12_pavement_339 (by decide) (fun c_80 => ?_) (fun c_80 => ?_)
                      · exact absurd c_80 (by decide)
                      · have c_80 : ¬ ((10 : Int32) ≤ 2) := c_80
                        refine lv_aload_n hx hb dX12_pavement_342 rfl (lv_at hl 1 rfl) ?_
                        refine va_get (D := D) (ci := 12) (v := .ref nw) (C := RX12) (T := TX12) (N := 89) hx hb hg iX12 hown hK hP 3 rfl rfl 76 (by decide) (hg (Cond.fieldLink RX12 151 "SlabWalkModel" "now" "[I") m1390) (fun _ h9 => h9) (fs_ne (fs_ne (fs_ne (fs_ne (fs_ne (fs_ne g_28 (by decide)) (by decide)) (by decide)) (by decide)) (by decide)) (by decide)) dX12_pavement_343 ?_
                        refine lv_iload_n hx hb dX12_pavement_346 rfl (lv_at hl 0 rfl) ?_
                        refine lv_iconst (v := 0) hx hb dX12_pavement_347 (by decide) ?_
                        refine va_iast hx hb hK hP hD hS 1 1 rfl rfl (show ¬ ((2 : Int32) < 0 ∨ 16 ≤ (2 : Int32).toNatClampNeg) from by decide +kernel) dX12_pavement_348 (fun H locs hP hD hS => ?_)
                        have hP : va_P D classes [(ss, .inl (k.2.1, 3, .inl f_53)), (nw, .inl (k.2.1, 16, .inl (upd f_71 2 0))), (hbx, .inl (k.2.2.2, 3, .inl m6)), (h0, .inr (12, ((((((z_2.set 52 (.int 0)).set 53 (.int 0)).set 54 (.int 0)).set 55 (.int 30)).set 56 (.int 10)).set 22 (.int 0)))), (ns, .inl (k.2.1, 3, .inl z_3))] H := hP
                        have hD : va_D A [(ss, .inl (k.2.1, 3, .inl f_53)), (nw, .inl (k.2.1, 16, .inl (upd f_71 2 0))), (hbx, .inl (k.2.2.2, 3, .inl m6)), (h0, .inr (12, ((((((z_2.set 52 (.int 0)).set 53 (.int 0)).set 54 (.int 0)).set 55 (.int 30)).set 56 (.int 10)).set 22 (.int 0)))), (ns, .inl (k.2.1, 3, .inl z_3))] := hD
                        have g_82 : (upd f_71 2 0) 4 = 0 := g_72
                        have g_83 : (upd f_71 2 0) 5 = 0 := g_73
                        have g_84 : (upd f_71 2 0) 6 = 0 := g_74
                        have g_85 : (upd f_71 2 0) 7 = 0 := g_75
                        have g_86 : (upd f_71 2 0) 8 = 0 := g_76
                        have g_87 : (upd f_71 2 0) 9 = 0 := g_77
                        have g_88 : (upd f_71 2 0) 0 = 0 := g_78
                        have g_89 : (upd f_71 2 0) 1 = 0 := g_79
                        have g_90 : (upd f_71 2 0) 2 = 0 := rfl
                        generalize (upd f_71 2 0) = f_81 at hP hD g_82 g_83 g_84 g_85 g_86 g_87 g_88 g_89 g_90
                        refine lv_iinc (v := 3) (lv' := [(1, .int 3), (0, .ref h0)]) hx hb dX12_pavement_349 hl (k := 0) rfl (by decide) (by decide) rfl (fun ls hl => ?_)
                        refine lv_goto (tgt := 336) hx hb dX12_pavement_352 (by decide) ?_
                        refine lv_iload_n hx hb dX12_pavement_336 rfl (lv_at hl 0 rfl) ?_
                        refine lv_bipush (v := 10) hx hb dX12_pavement_337 (by decide) ?_
                        refine lv_icmp_ge (tgt := 355) hx hb dX12_pavement_339 (by decide) (fun c_91 => ?_) (fun c_91 => ?_)
                        · exact absurd c_91 (by decide)
                        · have c_91 : ¬ ((10 : Int32) ≤ 3) := c_91
                          refine lv_aload_n hx hb dX12_pavement_342 rfl (lv_at hl 1 rfl) ?_
                          refine va_get (D := D) (ci := 12) (v := .ref nw) (C := RX12) (T := TX12) (N := 89) hx hb hg iX12 hown hK hP 3 rfl rfl 76 (by decide) (hg (Cond.fieldLink RX12 151 "SlabWalkModel" "now" "[I") m1390) (fun _ h9 => h9) (fs_ne (fs_ne (fs_ne (fs_ne (fs_ne (fs_ne g_28 (by decide)) (by decide)) (by decide)) (by decide)) (by decide)) (by decide)) dX12_pavement_343 ?_
                          refine lv_iload_n hx hb dX12_pavement_346 rfl (lv_at hl 0 rfl) ?_
                          refine lv_iconst (v := 0) hx hb dX12_pavement_347 (by decide) ?_
                          refine va_iast hx hb hK hP hD hS 1 1 rfl rfl (show ¬ ((3 : Int32) < 0 ∨ 16 ≤ (3 : Int32).toNatClampNeg) from by decide +kernel) dX12_pavement_348 (fun H locs hP hD hS => ?_)
                          have hP : va_P D classes [(ss, .inl (k.2.1, 3, .inl f_53)), (nw, .inl (k.2.1, 16, .inl (upd f_81 3 0))), (hbx, .inl (k.2.2.2, 3, .inl m6)), (h0, .inr (12, ((((((z_2.set 52 (.int 0)).set 53 (.int 0)).set 54 (.int 0)).set 55 (.int 30)).set 56 (.int 10)).set 22 (.int 0)))), (ns, .inl (k.2.1, 3, .inl z_3))] H := hP
                          have hD : va_D A [(ss, .inl (k.2.1, 3, .inl f_53)), (nw, .inl (k.2.1, 16, .inl (upd f_81 3 0))), (hbx, .inl (k.2.2.2, 3, .inl m6)), (h0, .inr (12, ((((((z_2.set 52 (.int 0)).set 53 (.int 0)).set 54 (.int 0)).set 55 (.int 30)).set 56 (.int 10)).set 22 (.int 0)))), (ns, .inl (k.2.1, 3, .inl z_3))] := hD
                          have g_93 : (upd f_81 3 0) 4 = 0 := g_82
                          have g_94 : (upd f_81 3 0) 5 = 0 := g_83
                          have g_95 : (upd f_81 3 0) 6 = 0 := g_84
                          have g_96 : (upd f_81 3 0) 7 = 0 := g_85
                          have g_97 : (upd f_81 3 0) 8 = 0 := g_86
                          have g_98 : (upd f_81 3 0) 9 = 0 := g_87
                          have g_99 : (upd f_81 3 0) 0 = 0 := g_88
                          have g_100 : (upd f_81 3 0) 1 = 0 := g_89
                          have g_101 : (upd f_81 3 0) 2 = 0 := g_90
                          have g_102 : (upd f_81 3 0) 3 = 0 := rfl
                          generalize (upd f_81 3 0) = f_92 at hP hD g_93 g_94 g_95 g_96 g_97 g_98 g_99 g_100 g_101 g_102
                          refine lv_iinc (v := 4) (lv' := [(1, .int 4), (0, .ref h0)]) hx hb dX12_pavement_349 hl (k := 0) rfl (by decide) (by decide) rfl (fun ls hl => ?_)
                          refine lv_goto (tgt := 336) hx hb dX12_pavement_352 (by decide) ?_
                          refine lv_iload_n hx hb dX12_pavement_336 rfl (lv_at hl 0 rfl) ?_
                          refine lv_bipush (v := 10) hx hb dX12_pavement_337 (by decide) ?_
                          refine lv_icmp_ge (tgt := 355) hx hb dX12_pavement_339 (by decide) (fun c_103 => ?_) (fun c_103 => ?_)
                          · exact absurd c_103 (by decide)
                          · have c_103 : ¬ ((10 : Int32) ≤ 4) := c_103
                            refine lv_aload_n hx hb dX12_pavement_342 rfl (lv_at hl 1 rfl) ?_
                            refine va_get (D := D) (ci := 12) (v := .ref nw) (C := RX12) (T := TX12) (N := 89) hx hb hg iX12 hown hK hP 3 rfl rfl 76 (by decide) (hg (Cond.fieldLink RX12 151 "SlabWalkModel" "now" "[I") m1390) (fun _ h9 => h9) (fs_ne (fs_ne (fs_ne (fs_ne (fs_ne (fs_ne g_28 (by decide)) (by decide)) (by decide)) (by decide)) (by decide)) (by decide)) dX12_pavement_343 ?_
                            refine lv_iload_n hx hb dX12_pavement_346 rfl (lv_at hl 0 rfl) ?_
                            refine lv_iconst (v := 0) hx hb dX12_pavement_347 (by decide) ?_
                            refine va_iast hx hb hK hP hD hS 1 1 rfl rfl (show ¬ ((4 : Int32) < 0 ∨ 16 ≤ (4 : Int32).toNatClampNeg) from by decide +kernel) dX12_pavement_348 (fun H locs hP hD hS => ?_)
                            have hP : va_P D classes [(ss, .inl (k.2.1, 3, .inl f_53)), (nw, .inl (k.2.1, 16, .inl (upd f_92 4 0))), (hbx, .inl (k.2.2.2, 3, .inl m6)), (h0, .inr (12, ((((((z_2.set 52 (.int 0)).set 53 (.int 0)).set 54 (.int 0)).set 55 (.int 30)).set 56 (.int 10)).set 22 (.int 0)))), (ns, .inl (k.2.1, 3, .inl z_3))] H := hP
                            have hD : va_D A [(ss, .inl (k.2.1, 3, .inl f_53)), (nw, .inl (k.2.1, 16, .inl (upd f_92 4 0))), (hbx, .inl (k.2.2.2, 3, .inl m6)), (h0, .inr (12, ((((((z_2.set 52 (.int 0)).set 53 (.int 0)).set 54 (.int 0)).set 55 (.int 30)).set 56 (.int 10)).set 22 (.int 0)))), (ns, .inl (k.2.1, 3, .inl z_3))] := hD
                            have g_105 : (upd f_92 4 0) 5 = 0 := g_94
                            have g_106 : (upd f_92 4 0) 6 = 0 := g_95
                            have g_107 : (upd f_92 4 0) 7 = 0 := g_96
                            have g_108 : (upd f_92 4 0) 8 = 0 := g_97
                            have g_109 : (upd f_92 4 0) 9 = 0 := g_98
                            have g_110 : (upd f_92 4 0) 0 = 0 := g_99
                            have g_111 : (upd f_92 4 0) 1 = 0 := g_100
                            have g_112 : (upd f_92 4 0) 2 = 0 := g_101
                            have g_113 : (upd f_92 4 0) 3 = 0 := g_102
                            have g_114 : (upd f_92 4 0) 4 = 0 := rfl
                            generalize (upd f_92 4 0) = f_104 at hP hD g_105 g_106 g_107 g_108 g_109 g_110 g_111 g_112 g_113 g_114
                            refine lv_iinc (v := 5) (lv' := [(1, .int 5), (0, .ref h0)]) hx hb dX12_pavement_349 hl (k := 0) rfl (by decide) (by decide) rfl (fun ls hl => ?_)
                            refine lv_goto (tgt := 336) hx hb dX12_pavement_352 (by decide) ?_
                            refine lv_iload_n hx hb dX12_pavement_336 rfl (lv_at hl 0 rfl) ?_
                            refine lv_bipush (v := 10) hx hb dX12_pavement_337 (by decide) ?_
                            refine lv_icmp_ge (tgt := 355) hx hb dX12_pavement_339 (by decide) (fun c_115 => ?_) (fun c_115 => ?_)
                            · exact absurd c_115 (by decide)
                            · have c_115 : ¬ ((10 : Int32) ≤ 5) := c_115
                              refine lv_aload_n hx hb dX12_pavement_342 rfl (lv_at hl 1 rfl) ?_
                              refine va_get (D := D) (ci := 12) (v := .ref nw) (C := RX12) (T := TX12) (N := 89) hx hb hg iX12 hown hK hP 3 rfl rfl 76 (by decide) (hg (Cond.fieldLink RX12 151 "SlabWalkModel" "now" "[I") m1390) (fun _ h9 => h9) (fs_ne (fs_ne (fs_ne (fs_ne (fs_ne (fs_ne g_28 (by decide)) (by decide)) (by decide)) (by decide)) (by decide)) (by decide)) dX12_pavement_343 ?_
                              refine lv_iload_n hx hb dX12_pavement_346 rfl (lv_at hl 0 rfl) ?_
                              refine lv_iconst (v := 0) hx hb dX12_pavement_347 (by decide) ?_
                              refine va_iast hx hb hK hP hD hS 1 1 rfl rfl (show ¬ ((5 : Int32) < 0 ∨ 16 ≤ (5 : Int32).toNatClampNeg) from by decide +kernel) dX12_pavement_348 (fun H locs hP hD hS => ?_)
                              have hP : va_P D classes [(ss, .inl (k.2.1, 3, .inl f_53)), (nw, .inl (k.2.1, 16, .inl (upd f_104 5 0))), (hbx, .inl (k.2.2.2, 3, .inl m6)), (h0, .inr (12, ((((((z_2.set 52 (.int 0)).set 53 (.int 0)).set 54 (.int 0)).set 55 (.int 30)).set 56 (.int 10)).set 22 (.int 0)))), (ns, .inl (k.2.1, 3, .inl z_3))] H := hP
                              have hD : va_D A [(ss, .inl (k.2.1, 3, .inl f_53)), (nw, .inl (k.2.1, 16, .inl (upd f_104 5 0))), (hbx, .inl (k.2.2.2, 3, .inl m6)), (h0, .inr (12, ((((((z_2.set 52 (.int 0)).set 53 (.int 0)).set 54 (.int 0)).set 55 (.int 30)).set 56 (.int 10)).set 22 (.int 0)))), (ns, .inl (k.2.1, 3, .inl z_3))] := hD
                              have g_117 : (upd f_104 5 0) 6 = 0 := g_106
                              have g_118 : (upd f_104 5 0) 7 = 0 := g_107
                              have g_119 : (upd f_104 5 0) 8 = 0 := g_108
                              have g_120 : (upd f_104 5 0) 9 = 0 := g_109
                              have g_121 : (upd f_104 5 0) 0 = 0 := g_110
                              have g_122 : (upd f_104 5 0) 1 = 0 := g_111
                              have g_123 : (upd f_104 5 0) 2 = 0 := g_112
                              have g_124 : (upd f_104 5 0) 3 = 0 := g_113
                              have g_125 : (upd f_104 5 0) 4 = 0 := g_114
                              have g_126 : (upd f_104 5 0) 5 = 0 := rfl
                              generalize (upd f_104 5 0) = f_116 at hP hD g_117 g_118 g_119 g_120 g_121 g_122 g_123 g_124 g_125 g_126
                              refine lv_iinc (v := 6) (lv' := [(1, .int 6), (0, .ref h0)]) hx hb dX12_pavement_349 hl (k := 0) rfl (by decide) (by decide) rfl (fun ls hl => ?_)
                              refine lv_goto (tgt := 336) hx hb dX12_pavement_352 (by decide) ?_
                              refine lv_iload_n hx hb dX12_pavement_336 rfl (lv_at hl 0 rfl) ?_
                              refine lv_bipush (v := 10) hx hb dX12_pavement_337 (by decide) ?_
                              refine lv_icmp_ge (tgt := 355) hx hb dX12_pavement_339 (by decide) (fun c_127 => ?_) (fun c_127 => ?_)
                              · exact absurd c_127 (by decide)
                              · have c_127 : ¬ ((10 : Int32) ≤ 6) := c_127
                                refine lv_aload_n hx hb dX12_pavement_342 rfl (lv_at hl 1 rfl) ?_
                                refine va_get (D := D) (ci := 12) (v := .ref nw) (C := RX12) (T := TX12) (N := 89) hx hb hg iX12 hown hK hP 3 rfl rfl 76 (by decide) (hg (Cond.fieldLink RX12 151 "SlabWalkModel" "now" "[I") m1390) (fun _ h9 => h9) (fs_ne (fs_ne (fs_ne (fs_ne (fs_ne (fs_ne g_28 (by decide)) (by decide)) (by decide)) (by decide)) (by decide)) (by decide)) dX12_pavement_343 ?_
                                refine lv_iload_n hx hb dX12_pavement_346 rfl (lv_at hl 0 rfl) ?_
                                refine lv_iconst (v := 0) hx hb dX12_pavement_347 (by decide) ?_
                                refine va_iast hx hb hK hP hD hS 1 1 rfl rfl (show ¬ ((6 : Int32) < 0 ∨ 16 ≤ (6 : Int32).toNatClampNeg) from by decide +kernel) dX12_pavement_348 (fun H locs hP hD hS => ?_)
                                have hP : va_P D classes [(ss, .inl (k.2.1, 3, .inl f_53)), (nw, .inl (k.2.1, 16, .inl (upd f_116 6 0))), (hbx, .inl (k.2.2.2, 3, .inl m6)), (h0, .inr (12, ((((((z_2.set 52 (.int 0)).set 53 (.int 0)).set 54 (.int 0)).set 55 (.int 30)).set 56 (.int 10)).set 22 (.int 0)))), (ns, .inl (k.2.1, 3, .inl z_3))] H := hP
                                have hD : va_D A [(ss, .inl (k.2.1, 3, .inl f_53)), (nw, .inl (k.2.1, 16, .inl (upd f_116 6 0))), (hbx, .inl (k.2.2.2, 3, .inl m6)), (h0, .inr (12, ((((((z_2.set 52 (.int 0)).set 53 (.int 0)).set 54 (.int 0)).set 55 (.int 30)).set 56 (.int 10)).set 22 (.int 0)))), (ns, .inl (k.2.1, 3, .inl z_3))] := hD
                                have g_129 : (upd f_116 6 0) 7 = 0 := g_118
                                have g_130 : (upd f_116 6 0) 8 = 0 := g_119
                                have g_131 : (upd f_116 6 0) 9 = 0 := g_120
                                have g_132 : (upd f_116 6 0) 0 = 0 := g_121
                                have g_133 : (upd f_116 6 0) 1 = 0 := g_122
                                have g_134 : (upd f_116 6 0) 2 = 0 := g_123
                                have g_135 : (upd f_116 6 0) 3 = 0 := g_124
                                have g_136 : (upd f_116 6 0) 4 = 0 := g_125
                                have g_137 : (upd f_116 6 0) 5 = 0 := g_126
                                have g_138 : (upd f_116 6 0) 6 = 0 := rfl
                                generalize (upd f_116 6 0) = f_128 at hP hD g_129 g_130 g_131 g_132 g_133 g_134 g_135 g_136 g_137 g_138
                                refine lv_iinc (v := 7) (lv' := [(1, .int 7), (0, .ref h0)]) hx hb dX12_pavement_349 hl (k := 0) rfl (by decide) (by decide) rfl (fun ls hl => ?_)
                                refine lv_goto (tgt := 336) hx hb dX12_pavement_352 (by decide) ?_
                                refine lv_iload_n hx hb dX12_pavement_336 rfl (lv_at hl 0 rfl) ?_
                                refine lv_bipush (v := 10) hx hb dX12_pavement_337 (by decide) ?_
                                refine lv_icmp_ge (tgt := 355) hx hb dX12_pavement_339 (by decide) (fun c_139 => ?_) (fun c_139 => ?_)
                                · exact absurd c_139 (by decide)
                                · have c_139 : ¬ ((10 : Int32) ≤ 7) := c_139
                                  refine lv_aload_n hx hb dX12_pavement_342 rfl (lv_at hl 1 rfl) ?_
                                  refine va_get (D := D) (ci := 12) (v := .ref nw) (C := RX12) (T := TX12) (N := 89) hx hb hg iX12 hown hK hP 3 rfl rfl 76 (by decide) (hg (Cond.fieldLink RX12 151 "SlabWalkModel" "now" "[I") m1390) (fun _ h9 => h9) (fs_ne (fs_ne (fs_ne (fs_ne (fs_ne (fs_ne g_28 (by decide)) (by decide)) (by decide)) (by decide)) (by decide)) (by decide)) dX12_pavement_343 ?_
                                  refine lv_iload_n hx hb dX12_pavement_346 rfl (lv_at hl 0 rfl) ?_
                                  refine lv_iconst (v := 0) hx hb dX12_pavement_347 (by decide) ?_
                                  refine va_iast hx hb hK hP hD hS 1 1 rfl rfl (show ¬ ((7 : Int32) < 0 ∨ 16 ≤ (7 : Int32).toNatClampNeg) from by decide +kernel) dX12_pavement_348 (fun H locs hP hD hS => ?_)
                                  have hP : va_P D classes [(ss, .inl (k.2.1, 3, .inl f_53)), (nw, .inl (k.2.1, 16, .inl (upd f_128 7 0))), (hbx, .inl (k.2.2.2, 3, .inl m6)), (h0, .inr (12, ((((((z_2.set 52 (.int 0)).set 53 (.int 0)).set 54 (.int 0)).set 55 (.int 30)).set 56 (.int 10)).set 22 (.int 0)))), (ns, .inl (k.2.1, 3, .inl z_3))] H := hP
                                  have hD : va_D A [(ss, .inl (k.2.1, 3, .inl f_53)), (nw, .inl (k.2.1, 16, .inl (upd f_128 7 0))), (hbx, .inl (k.2.2.2, 3, .inl m6)), (h0, .inr (12, ((((((z_2.set 52 (.int 0)).set 53 (.int 0)).set 54 (.int 0)).set 55 (.int 30)).set 56 (.int 10)).set 22 (.int 0)))), (ns, .inl (k.2.1, 3, .inl z_3))] := hD
                                  have g_141 : (upd f_128 7 0) 8 = 0 := g_130
                                  have g_142 : (upd f_128 7 0) 9 = 0 := g_131
                                  have g_143 : (upd f_128 7 0) 0 = 0 := g_132
                                  have g_144 : (upd f_128 7 0) 1 = 0 := g_133
                                  have g_145 : (upd f_128 7 0) 2 = 0 := g_134
                                  have g_146 : (upd f_128 7 0) 3 = 0 := g_135
                                  have g_147 : (upd f_128 7 0) 4 = 0 := g_136
                                  have g_148 : (upd f_128 7 0) 5 = 0 := g_137
                                  have g_149 : (upd f_128 7 0) 6 = 0 := g_138
                                  have g_150 : (upd f_128 7 0) 7 = 0 := rfl
                                  generalize (upd f_128 7 0) = f_140 at hP hD g_141 g_142 g_143 g_144 g_145 g_146 g_147 g_148 g_149 g_150
                                  refine lv_iinc (v := 8) (lv' := [(1, .int 8), (0, .ref h0)]) hx hb dX12_pavement_349 hl (k := 0) rfl (by decide) (by decide) rfl (fun ls hl => ?_)
                                  refine lv_goto (tgt := 336) hx hb dX12_pavement_352 (by decide) ?_
                                  refine lv_iload_n hx hb dX12_pavement_336 rfl (lv_at hl 0 rfl) ?_
                                  refine lv_bipush (v := 10) hx hb dX12_pavement_337 (by decide) ?_
                                  refine lv_icmp_ge (tgt := 355) hx hb dX12_pavement_339 (by decide) (fun c_151 => ?_) (fun c_151 => ?_)
                                  · exact absurd c_151 (by decide)
                                  · have c_151 : ¬ ((10 : Int32) ≤ 8) := c_151
                                    refine lv_aload_n hx hb dX12_pavement_342 rfl (lv_at hl 1 rfl) ?_
                                    refine va_get (D := D) (ci := 12) (v := .ref nw) (C := RX12) (T := TX12) (N := 89) hx hb hg iX12 hown hK hP 3 rfl rfl 76 (by decide) (hg (Cond.fieldLink RX12 151 "SlabWalkModel" "now" "[I") m1390) (fun _ h9 => h9) (fs_ne (fs_ne (fs_ne (fs_ne (fs_ne (fs_ne g_28 (by decide)) (by decide)) (by decide)) (by decide)) (by decide)) (by decide)) dX12_pavement_343 ?_
                                    refine lv_iload_n hx hb dX12_pavement_346 rfl (lv_at hl 0 rfl) ?_
                                    refine lv_iconst (v := 0) hx hb dX12_pavement_347 (by decide) ?_
                                    refine va_iast hx hb hK hP hD hS 1 1 rfl rfl (show ¬ ((8 : Int32) < 0 ∨ 16 ≤ (8 : Int32).toNatClampNeg) from by decide +kernel) dX12_pavement_348 (fun H locs hP hD hS => ?_)
                                    have hP : va_P D classes [(ss, .inl (k.2.1, 3, .inl f_53)), (nw, .inl (k.2.1, 16, .inl (upd f_140 8 0))), (hbx, .inl (k.2.2.2, 3, .inl m6)), (h0, .inr (12, ((((((z_2.set 52 (.int 0)).set 53 (.int 0)).set 54 (.int 0)).set 55 (.int 30)).set 56 (.int 10)).set 22 (.int 0)))), (ns, .inl (k.2.1, 3, .inl z_3))] H := hP
                                    have hD : va_D A [(ss, .inl (k.2.1, 3, .inl f_53)), (nw, .inl (k.2.1, 16, .inl (upd f_140 8 0))), (hbx, .inl (k.2.2.2, 3, .inl m6)), (h0, .inr (12, ((((((z_2.set 52 (.int 0)).set 53 (.int 0)).set 54 (.int 0)).set 55 (.int 30)).set 56 (.int 10)).set 22 (.int 0)))), (ns, .inl (k.2.1, 3, .inl z_3))] := hD
                                    have g_153 : (upd f_140 8 0) 9 = 0 := g_142
                                    have g_154 : (upd f_140 8 0) 0 = 0 := g_143
                                    have g_155 : (upd f_140 8 0) 1 = 0 := g_144
                                    have g_156 : (upd f_140 8 0) 2 = 0 := g_145
                                    have g_157 : (upd f_140 8 0) 3 = 0 := g_146
                                    have g_158 : (upd f_140 8 0) 4 = 0 := g_147
                                    have g_159 : (upd f_140 8 0) 5 = 0 := g_148
                                    have g_160 : (upd f_140 8 0) 6 = 0 := g_149
                                    have g_161 : (upd f_140 8 0) 7 = 0 := g_150
                                    have g_162 : (upd f_140 8 0) 8 = 0 := rfl
                                    generalize (upd f_140 8 0) = f_152 at hP hD g_153 g_154 g_155 g_156 g_157 g_158 g_159 g_160 g_161 g_162
                                    refine lv_iinc (v := 9) (lv' := [(1, .int 9), (0, .ref h0)]) hx hb dX12_pavement_349 hl (k := 0) rfl (by decide) (by decide) rfl (fun ls hl => ?_)
                                    refine lv_goto (tgt := 336) hx hb dX12_pavement_352 (by decide) ?_
                                    refine lv_iload_n hx hb dX12_pavement_336 rfl (lv_at hl 0 rfl) ?_
                                    refine lv_bipush (v := 10) hx hb dX12_pavement_337 (by decide) ?_
                                    refine lv_icmp_ge (tgt := 355) hx hb dX12_pavement_339 (by decide) (fun c_163 => ?_) (fun c_163 => ?_)
                                    · exact absurd c_163 (by decide)
                                    · have c_163 : ¬ ((10 : Int32) ≤ 9) := c_163
                                      refine lv_aload_n hx hb dX12_pavement_342 rfl (lv_at hl 1 rfl) ?_
                                      refine va_get (D := D) (ci := 12) (v := .ref nw) (C := RX12) (T := TX12) (N := 89) hx hb hg iX12 hown hK hP 3 rfl rfl 76 (by decide) (hg (Cond.fieldLink RX12 151 "SlabWalkModel" "now" "[I") m1390) (fun _ h9 => h9) (fs_ne (fs_ne (fs_ne (fs_ne (fs_ne (fs_ne g_28 (by decide)) (by decide)) (by decide)) (by decide)) (by decide)) (by decide)) dX12_pavement_343 ?_
                                      refine lv_iload_n hx hb dX12_pavement_346 rfl (lv_at hl 0 rfl) ?_
                                      refine lv_iconst (v := 0) hx hb dX12_pavement_347 (by decide) ?_
                                      refine va_iast hx hb hK hP hD hS 1 1 rfl rfl (show ¬ ((9 : Int32) < 0 ∨ 16 ≤ (9 : Int32).toNatClampNeg) from by decide +kernel) dX12_pavement_348 (fun H locs hP hD hS => ?_)
                                      have hP : va_P D classes [(ss, .inl (k.2.1, 3, .inl f_53)), (nw, .inl (k.2.1, 16, .inl (upd f_152 9 0))), (hbx, .inl (k.2.2.2, 3, .inl m6)), (h0, .inr (12, ((((((z_2.set 52 (.int 0)).set 53 (.int 0)).set 54 (.int 0)).set 55 (.int 30)).set 56 (.int 10)).set 22 (.int 0)))), (ns, .inl (k.2.1, 3, .inl z_3))] H := hP
                                      have hD : va_D A [(ss, .inl (k.2.1, 3, .inl f_53)), (nw, .inl (k.2.1, 16, .inl (upd f_152 9 0))), (hbx, .inl (k.2.2.2, 3, .inl m6)), (h0, .inr (12, ((((((z_2.set 52 (.int 0)).set 53 (.int 0)).set 54 (.int 0)).set 55 (.int 30)).set 56 (.int 10)).set 22 (.int 0)))), (ns, .inl (k.2.1, 3, .inl z_3))] := hD
                                      have g_165 : (upd f_152 9 0) 0 = 0 := g_154
                                      have g_166 : (upd f_152 9 0) 1 = 0 := g_155
                                      have g_167 : (upd f_152 9 0) 2 = 0 := g_156
                                      have g_168 : (upd f_152 9 0) 3 = 0 := g_157
                                      have g_169 : (upd f_152 9 0) 4 = 0 := g_158
                                      have g_170 : (upd f_152 9 0) 5 = 0 := g_159
                                      have g_171 : (upd f_152 9 0) 6 = 0 := g_160
                                      have g_172 : (upd f_152 9 0) 7 = 0 := g_161
                                      have g_173 : (upd f_152 9 0) 8 = 0 := g_162
                                      have g_174 : (upd f_152 9 0) 9 = 0 := rfl
                                      generalize (upd f_152 9 0) = f_164 at hP hD g_165 g_166 g_167 g_168 g_169 g_170 g_171 g_172 g_173 g_174
                                      refine lv_iinc (v := 10) (lv' := [(1, .int 10), (0, .ref h0)]) hx hb dX12_pavement_349 hl (k := 0) rfl (by decide) (by decide) rfl (fun ls hl => ?_)
                                      refine lv_goto (tgt := 336) hx hb dX12_pavement_352 (by decide) ?_
                                      refine lv_iload_n hx hb dX12_pavement_336 rfl (lv_at hl 0 rfl) ?_
                                      refine lv_bipush (v := 10) hx hb dX12_pavement_337 (by decide) ?_
                                      refine lv_icmp_ge (tgt := 355) hx hb dX12_pavement_339 (by decide) (fun c_175 => ?_) (fun c_175 => ?_)
                                      · have c_175 : (10 : Int32) ≤ 10 := c_175
                                        refine lv_aload_n hx hb dX12_pavement_355 rfl (lv_at hl 1 rfl) ?_
                                        refine va_get (D := D) (ci := 12) (v := .ref nw) (C := RX12) (T := TX12) (N := 89) hx hb hg iX12 hown hK hP 3 rfl rfl 76 (by decide) (hg (Cond.fieldLink RX12 151 "SlabWalkModel" "now" "[I") m1390) (fun _ h9 => h9) (fs_ne (fs_ne (fs_ne (fs_ne (fs_ne (fs_ne g_28 (by decide)) (by decide)) (by decide)) (by decide)) (by decide)) (by decide)) dX12_pavement_356 ?_
                                        refine lv_iconst (v := 0) hx hb dX12_pavement_359 (by decide) ?_
                                        refine lv_iconst (v := (-1)) hx hb dX12_pavement_360 (by decide) ?_
                                        refine va_iast hx hb hK hP hD hS 1 1 rfl rfl (show ¬ ((0 : Int32) < 0 ∨ 16 ≤ (0 : Int32).toNatClampNeg) from by decide +kernel) dX12_pavement_361 (fun H locs hP hD hS => ?_)
                                        have hP : va_P D classes [(ss, .inl (k.2.1, 3, .inl f_53)), (nw, .inl (k.2.1, 16, .inl (upd f_164 0 (-1)))), (hbx, .inl (k.2.2.2, 3, .inl m6)), (h0, .inr (12, ((((((z_2.set 52 (.int 0)).set 53 (.int 0)).set 54 (.int 0)).set 55 (.int 30)).set 56 (.int 10)).set 22 (.int 0)))), (ns, .inl (k.2.1, 3, .inl z_3))] H := hP
                                        have hD : va_D A [(ss, .inl (k.2.1, 3, .inl f_53)), (nw, .inl (k.2.1, 16, .inl (upd f_164 0 (-1)))), (hbx, .inl (k.2.2.2, 3, .inl m6)), (h0, .inr (12, ((((((z_2.set 52 (.int 0)).set 53 (.int 0)).set 54 (.int 0)).set 55 (.int 30)).set 56 (.int 10)).set 22 (.int 0)))), (ns, .inl (k.2.1, 3, .inl z_3))] := hD
                                        have g_177 : (upd f_164 0 (-1)) 1 = 0 := g_166
                                        have g_178 : (upd f_164 0 (-1)) 2 = 0 := g_167
                                        have g_179 : (upd f_164 0 (-1)) 3 = 0 := g_168
                                        have g_180 : (upd f_164 0 (-1)) 4 = 0 := g_169
                                        have g_181 : (upd f_164 0 (-1)) 5 = 0 := g_170
                                        have g_182 : (upd f_164 0 (-1)) 6 = 0 := g_171
                                        have g_183 : (upd f_164 0 (-1)) 7 = 0 := g_172
                                        have g_184 : (upd f_164 0 (-1)) 8 = 0 := g_173
                                        have g_185 : (upd f_164 0 (-1)) 9 = 0 := g_174
                                        have g_186 : (upd f_164 0 (-1)) 0 = (-1) := rfl
                                        generalize (upd f_164 0 (-1)) = f_176 at hP hD g_177 g_178 g_179 g_180 g_181 g_182 g_183 g_184 g_185 g_186
                                        refine lv_aload_n hx hb dX12_pavement_362 rfl (lv_at hl 1 rfl) ?_
                                        refine va_get (D := D) (ci := 12) (v := .ref nw) (C := RX12) (T := TX12) (N := 89) hx hb hg iX12 hown hK hP 3 rfl rfl 76 (by decide) (hg (Cond.fieldLink RX12 151 "SlabWalkModel" "now" "[I") m1390) (fun _ h9 => h9) (fs_ne (fs_ne (fs_ne (fs_ne (fs_ne (fs_ne g_28 (by decide)) (by decide)) (by decide)) (by decide)) (by decide)) (by decide)) dX12_pavement_363 ?_
                                        refine lv_bipush (v := 7) hx hb dX12_pavement_366 (by decide) ?_
                                        refine lv_aload_n hx hb dX12_pavement_368 rfl (lv_at hl 1 rfl) ?_
                                        refine va_get (D := D) (ci := 12) (v := .int 0) (C := RX12) (T := TX12) (N := 89) hx hb hg iX12 hown hK hP 3 rfl rfl 50 (by decide) (hg (Cond.fieldLink RX12 416 "SlabWalkModel" "nDraw" "I") m1364) (fun _ h9 => h9) (fs_ne (fs_ne (fs_ne (fs_ne (fs_ne (fs_ne g_18 (by decide)) (by decide)) (by decide)) (by decide)) (by decide)) (by decide)) dX12_pavement_369 ?_
                                        refine va_iast hx hb hK hP hD hS 1 1 rfl rfl (show ¬ ((7 : Int32) < 0 ∨ 16 ≤ (7 : Int32).toNatClampNeg) from by decide +kernel) dX12_pavement_372 (fun H locs hP hD hS => ?_)
                                        have hP : va_P D classes [(ss, .inl (k.2.1, 3, .inl f_53)), (nw, .inl (k.2.1, 16, .inl (upd f_176 7 0))), (hbx, .inl (k.2.2.2, 3, .inl m6)), (h0, .inr (12, ((((((z_2.set 52 (.int 0)).set 53 (.int 0)).set 54 (.int 0)).set 55 (.int 30)).set 56 (.int 10)).set 22 (.int 0)))), (ns, .inl (k.2.1, 3, .inl z_3))] H := hP
                                        have hD : va_D A [(ss, .inl (k.2.1, 3, .inl f_53)), (nw, .inl (k.2.1, 16, .inl (upd f_176 7 0))), (hbx, .inl (k.2.2.2, 3, .inl m6)), (h0, .inr (12, ((((((z_2.set 52 (.int 0)).set 53 (.int 0)).set 54 (.int 0)).set 55 (.int 30)).set 56 (.int 10)).set 22 (.int 0)))), (ns, .inl (k.2.1, 3, .inl z_3))] := hD
                                        have g_188 : (upd f_176 7 0) 1 = 0 := g_177
                                        have g_189 : (upd f_176 7 0) 2 = 0 := g_178
                                        have g_190 : (upd f_176 7 0) 3 = 0 := g_179
                                        have g_191 : (upd f_176 7 0) 4 = 0 := g_180
                                        have g_192 : (upd f_176 7 0) 5 = 0 := g_181
                                        have g_193 : (upd f_176 7 0) 6 = 0 := g_182
                                        have g_194 : (upd f_176 7 0) 8 = 0 := g_184
                                        have g_195 : (upd f_176 7 0) 9 = 0 := g_185
                                        have g_196 : (upd f_176 7 0) 0 = (-1) := g_186
                                        have g_197 : (upd f_176 7 0) 7 = 0 := rfl
                                        generalize (upd f_176 7 0) = f_187 at hP hD g_188 g_189 g_190 g_191 g_192 g_193 g_194 g_195 g_196 g_197
                                        refine lv_aload_n hx hb dX12_pavement_373 rfl (lv_at hl 1 rfl) ?_
                                        refine lv_iconst (v := 0) hx hb dX12_pavement_374 (by decide) ?_
                                        refine va_put (D := D) (ci := 12) (v := .int 0) (ty := .int) (C := RX12) (T := TX12) (N := 89) hx hb hg iX12 tyX12 tyX12_ok nmX12 hown hK hP hD hS 3 rfl rfl 78 (by decide) (hg (Cond.fieldLink RX12 437 "SlabWalkModel" "acts" "I") m1392) (fun _ h9 => h9) rfl (by decide +kernel) rfl rfl (fs_lt (fs_ne (fs_ne (fs_ne (fs_ne (fs_ne (fs_ne g_29 (by decide)) (by decide)) (by decide)) (by decide)) (by decide)) (by decide))) dX12_pavement_375 (fun H locs hP hD hS => ?_)
                                        have hP : va_P D classes [(ss, .inl (k.2.1, 3, .inl f_53)), (nw, .inl (k.2.1, 16, .inl f_187)), (hbx, .inl (k.2.2.2, 3, .inl m6)), (h0, .inr (12, (((((((z_2.set 52 (.int 0)).set 53 (.int 0)).set 54 (.int 0)).set 55 (.int 30)).set 56 (.int 10)).set 22 (.int 0)).set 78 (.int 0)))), (ns, .inl (k.2.1, 3, .inl z_3))] H := hP
                                        have hD : va_D A [(ss, .inl (k.2.1, 3, .inl f_53)), (nw, .inl (k.2.1, 16, .inl f_187)), (hbx, .inl (k.2.2.2, 3, .inl m6)), (h0, .inr (12, (((((((z_2.set 52 (.int 0)).set 53 (.int 0)).set 54 (.int 0)).set 55 (.int 30)).set 56 (.int 10)).set 22 (.int 0)).set 78 (.int 0)))), (ns, .inl (k.2.1, 3, .inl z_3))] := hD
                                        refine lv_aload_n hx hb dX12_pavement_378 rfl (lv_at hl 1 rfl) ?_
                                        refine lv_iconst (v := 0) hx hb dX12_pavement_379 (by decide) ?_
                                        refine va_put (D := D) (ci := 12) (v := .int 0) (ty := .int) (C := RX12) (T := TX12) (N := 89) hx hb hg iX12 tyX12 tyX12_ok nmX12 hown hK hP hD hS 3 rfl rfl 79 (by decide) (hg (Cond.fieldLink RX12 440 "SlabWalkModel" "undone" "I") m1393) (fun _ h9 => h9) rfl (by decide +kernel) rfl rfl (fs_lt (fs_ne (fs_ne (fs_ne (fs_ne (fs_ne (fs_ne (fs_ne g_30 (by decide)) (by decide)) (by decide)) (by decide)) (by decide)) (by decide)) (by decide))) dX12_pavement_380 (fun H locs hP hD hS => ?_)
                                        have hP : va_P D classes [(ss, .inl (k.2.1, 3, .inl f_53)), (nw, .inl (k.2.1, 16, .inl f_187)), (hbx, .inl (k.2.2.2, 3, .inl m6)), (h0, .inr (12, ((((((((z_2.set 52 (.int 0)).set 53 (.int 0)).set 54 (.int 0)).set 55 (.int 30)).set 56 (.int 10)).set 22 (.int 0)).set 78 (.int 0)).set 79 (.int 0)))), (ns, .inl (k.2.1, 3, .inl z_3))] H := hP
                                        have hD : va_D A [(ss, .inl (k.2.1, 3, .inl f_53)), (nw, .inl (k.2.1, 16, .inl f_187)), (hbx, .inl (k.2.2.2, 3, .inl m6)), (h0, .inr (12, ((((((((z_2.set 52 (.int 0)).set 53 (.int 0)).set 54 (.int 0)).set 55 (.int 30)).set 56 (.int 10)).set 22 (.int 0)).set 78 (.int 0)).set 79 (.int 0)))), (ns, .inl (k.2.1, 3, .inl z_3))] := hD
                                        refine lv_aload_n hx hb dX12_pavement_383 rfl (lv_at hl 1 rfl) ?_
                                        refine lv_iconst (v := 0) hx hb dX12_pavement_384 (by decide) ?_
                                        refine va_put (D := D) (ci := 12) (v := .int 0) (ty := .int) (C := RX12) (T := TX12) (N := 89) hx hb hg iX12 tyX12 tyX12_ok nmX12 hown hK hP hD hS 3 rfl rfl 85 (by decide) (hg (Cond.fieldLink RX12 443 "SlabWalkModel" "sights" "I") m1399) (fun _ h9 => h9) rfl (by decide +kernel) rfl rfl (fs_lt (fs_ne (fs_ne (fs_ne (fs_ne (fs_ne (fs_ne (fs_ne (fs_ne g_32 (by decide)) (by decide)) (by decide)) (by decide)) (by decide)) (by decide)) (by decide)) (by decide))) dX12_pavement_385 (fun H locs hP hD hS => ?_)
                                        have hP : va_P D classes [(ss, .inl (k.2.1, 3, .inl f_53)), (nw, .inl (k.2.1, 16, .inl f_187)), (hbx, .inl (k.2.2.2, 3, .inl m6)), (h0, .inr (12, (((((((((z_2.set 52 (.int 0)).set 53 (.int 0)).set 54 (.int 0)).set 55 (.int 30)).set 56 (.int 10)).set 22 (.int 0)).set 78 (.int 0)).set 79 (.int 0)).set 85 (.int 0)))), (ns, .inl (k.2.1, 3, .inl z_3))] H := hP
                                        have hD : va_D A [(ss, .inl (k.2.1, 3, .inl f_53)), (nw, .inl (k.2.1, 16, .inl f_187)), (hbx, .inl (k.2.2.2, 3, .inl m6)), (h0, .inr (12, (((((((((z_2.set 52 (.int 0)).set 53 (.int 0)).set 54 (.int 0)).set 55 (.int 30)).set 56 (.int 10)).set 22 (.int 0)).set 78 (.int 0)).set 79 (.int 0)).set 85 (.int 0)))), (ns, .inl (k.2.1, 3, .inl z_3))] := hD
                                        refine lv_aload_n hx hb dX12_pavement_388 rfl (lv_at hl 1 rfl) ?_
                                        refine lv_iconst (v := 0) hx hb dX12_pavement_389 (by decide) ?_
                                        refine va_put (D := D) (ci := 12) (v := .int 0) (ty := .int) (C := RX12) (T := TX12) (N := 89) hx hb hg iX12 tyX12 tyX12_ok nmX12 hown hK hP hD hS 3 rfl rfl 66 (by decide) (hg (Cond.fieldLink RX12 446 "SlabWalkModel" "lain" "I") m1380) (fun _ h9 => h9) rfl (by decide +kernel) rfl rfl (fs_lt (fs_ne (fs_ne (fs_ne (fs_ne (fs_ne (fs_ne (fs_ne (fs_ne (fs_ne g_26 (by decide)) (by decide)) (by decide)) (by decide)) (by decide)) (by decide)) (by decide)) (by decide)) (by decide))) dX12_pavement_390 (fun H locs hP hD hS => ?_)
                                        have hP : va_P D classes [(ss, .inl (k.2.1, 3, .inl f_53)), (nw, .inl (k.2.1, 16, .inl f_187)), (hbx, .inl (k.2.2.2, 3, .inl m6)), (h0, .inr (12, ((((((((((z_2.set 52 (.int 0)).set 53 (.int 0)).set 54 (.int 0)).set 55 (.int 30)).set 56 (.int 10)).set 22 (.int 0)).set 78 (.int 0)).set 79 (.int 0)).set 85 (.int 0)).set 66 (.int 0)))), (ns, .inl (k.2.1, 3, .inl z_3))] H := hP
                                        have hD : va_D A [(ss, .inl (k.2.1, 3, .inl f_53)), (nw, .inl (k.2.1, 16, .inl f_187)), (hbx, .inl (k.2.2.2, 3, .inl m6)), (h0, .inr (12, ((((((((((z_2.set 52 (.int 0)).set 53 (.int 0)).set 54 (.int 0)).set 55 (.int 30)).set 56 (.int 10)).set 22 (.int 0)).set 78 (.int 0)).set 79 (.int 0)).set 85 (.int 0)).set 66 (.int 0)))), (ns, .inl (k.2.1, 3, .inl z_3))] := hD
                                        refine lv_iconst (v := 0) hx hb dX12_pavement_393 (by decide) ?_
                                        refine lv_istore_n (lv' := [(1, .int 0), (0, .ref h0)]) hx hb dX12_pavement_394 rfl hl (by decide) rfl (fun ls hl => ?_)
                                        refine lv_iload_n hx hb dX12_pavement_395 rfl (lv_at hl 0 rfl) ?_
                                        refine lv_iconst (v := 3) hx hb dX12_pavement_396 (by decide) ?_
                                        refine lv_icmp_ge (tgt := 413) hx hb dX12_pavement_397 (by decide) (fun c_198 => ?_) (fun c_198 => ?_)
                                        · exact absurd c_198 (by decide)
                                        · have c_198 : ¬ ((3 : Int32) ≤ 0) := c_198
                                          refine lv_aload_n hx hb dX12_pavement_400 rfl (lv_at hl 1 rfl) ?_
                                          refine va_get (D := D) (ci := 12) (v := .ref hbx) (C := RX12) (T := TX12) (N := 89) hx hb hg iX12 hown hK hP 3 rfl rfl 87 (by decide) (hg (Cond.fieldLink RX12 172 "SlabWalkModel" "hasBox" "[Z") m1401) (fun _ h9 => h9) (fs_ne (fs_ne (fs_ne (fs_ne (fs_ne (fs_ne (fs_ne (fs_ne (fs_ne (fs_ne g_33 (by decide)) (by decide)) (by decide)) (by decide)) (by decide)) (by decide)) (by decide)) (by decide)) (by decide)) (by decide)) dX12_pavement_401 ?_
                                          refine lv_iload_n hx hb dX12_pavement_404 rfl (lv_at hl 0 rfl) ?_
                                          refine lv_iconst (v := 0) hx hb dX12_pavement_405 (by decide) ?_
                                          refine va_zast hx hb hK hP hD hS 2 3 rfl rfl (show ¬ ((0 : Int32) < 0 ∨ 3 ≤ (0 : Int32).toNatClampNeg) from by decide +kernel) dX12_pavement_406 (fun H locs hP hD hS => ?_)
                                          have hP : va_P D classes [(ss, .inl (k.2.1, 3, .inl f_53)), (nw, .inl (k.2.1, 16, .inl f_187)), (hbx, .inl (k.2.2.2, 3, .inl (upd m6 0 (vp_nar .boolean 0)))), (h0, .inr (12, ((((((((((z_2.set 52 (.int 0)).set 53 (.int 0)).set 54 (.int 0)).set 55 (.int 30)).set 56 (.int 10)).set 22 (.int 0)).set 78 (.int 0)).set 79 (.int 0)).set 85 (.int 0)).set 66 (.int 0)))), (ns, .inl (k.2.1, 3, .inl z_3))] H := hP
                                          have hD : va_D A [(ss, .inl (k.2.1, 3, .inl f_53)), (nw, .inl (k.2.1, 16, .inl f_187)), (hbx, .inl (k.2.2.2, 3, .inl (upd m6 0 (vp_nar .boolean 0)))), (h0, .inr (12, ((((((((((z_2.set 52 (.int 0)).set 53 (.int 0)).set 54 (.int 0)).set 55 (.int 30)).set 56 (.int 10)).set 22 (.int 0)).set 78 (.int 0)).set 79 (.int 0)).set 85 (.int 0)).set 66 (.int 0)))), (ns, .inl (k.2.1, 3, .inl z_3))] := hD
                                          generalize (upd m6 0 (vp_nar .boolean 0)) = f_199 at hP hD
                                          refine lv_iinc (v := 1) (lv' := [(1, .int 1), (0, .ref h0)]) hx hb dX12_pavement_407 hl (k := 0) rfl (by decide) (by decide) rfl (fun ls hl => ?_)
                                          refine lv_goto (tgt := 395) hx hb dX12_pavement_410 (by decide) ?_
                                          refine lv_iload_n hx hb dX12_pavement_395 rfl (lv_at hl 0 rfl) ?_
                                          refine lv_iconst (v := 3) hx hb dX12_pavement_396 (by decide) ?_
                                          refine lv_icmp_ge (tgt := 413) hx hb dX12_pavement_397 (by decide) (fun c_200 => ?_) (fun c_200 => ?_)
                                          · exact absurd c_200 (by decide)
                                          · have c_200 : ¬ ((3 : Int32) ≤ 1) := c_200
                                            refine lv_aload_n hx hb dX12_pavement_400 rfl (lv_at hl 1 rfl) ?_
                                            refine va_get (D := D) (ci := 12) (v := .ref hbx) (C := RX12) (T := TX12) (N := 89) hx hb hg iX12 hown hK hP 3 rfl rfl 87 (by decide) (hg (Cond.fieldLink RX12 172 "SlabWalkModel" "hasBox" "[Z") m1401) (fun _ h9 => h9) (fs_ne (fs_ne (fs_ne (fs_ne (fs_ne (fs_ne (fs_ne (fs_ne (fs_ne (fs_ne g_33 (by decide)) (by decide)) (by decide)) (by decide)) (by decide)) (by decide)) (by decide)) (by decide)) (by decide)) (by decide)) dX12_pavement_401 ?_
                                            refine lv_iload_n hx hb dX12_pavement_404 rfl (lv_at hl 0 rfl) ?_
                                            refine lv_iconst (v := 0) hx hb dX12_pavement_405 (by decide) ?_
                                            refine va_zast hx hb hK hP hD hS 2 3 rfl rfl (show ¬ ((1 : Int32) < 0 ∨ 3 ≤ (1 : Int32).toNatClampNeg) from by decide +kernel) dX12_pavement_406 (fun H locs hP hD hS => ?_)
                                            have hP : va_P D classes [(ss, .inl (k.2.1, 3, .inl f_53)), (nw, .inl (k.2.1, 16, .inl f_187)), (hbx, .inl (k.2.2.2, 3, .inl (upd f_199 1 (vp_nar .boolean 0)))), (h0, .inr (12, ((((((((((z_2.set 52 (.int 0)).set 53 (.int 0)).set 54 (.int 0)).set 55 (.int 30)).set 56 (.int 10)).set 22 (.int 0)).set 78 (.int 0)).set 79 (.int 0)).set 85 (.int 0)).set 66 (.int 0)))), (ns, .inl (k.2.1, 3, .inl z_3))] H := hP
                                            have hD : va_D A [(ss, .inl (k.2.1, 3, .inl f_53)), (nw, .inl (k.2.1, 16, .inl f_187)), (hbx, .inl (k.2.2.2, 3, .inl (upd f_199 1 (vp_nar .boolean 0)))), (h0, .inr (12, ((((((((((z_2.set 52 (.int 0)).set 53 (.int 0)).set 54 (.int 0)).set 55 (.int 30)).set 56 (.int 10)).set 22 (.int 0)).set 78 (.int 0)).set 79 (.int 0)).set 85 (.int 0)).set 66 (.int 0)))), (ns, .inl (k.2.1, 3, .inl z_3))] := hD
                                            generalize (upd f_199 1 (vp_nar .boolean 0)) = f_201 at hP hD
                                            refine lv_iinc (v := 2) (lv' := [(1, .int 2), (0, .ref h0)]) hx hb dX12_pavement_407 hl (k := 0) rfl (by decide) (by decide) rfl (fun ls hl => ?_)
                                            refine lv_goto (tgt := 395) hx hb dX12_pavement_410 (by decide) ?_
                                            refine lv_iload_n hx hb dX12_pavement_395 rfl (lv_at hl 0 rfl) ?_
                                            refine lv_iconst (v := 3) hx hb dX12_pavement_396 (by decide) ?_
                                            refine lv_icmp_ge (tgt := 413) hx hb dX12_pavement_397 (by decide) (fun c_202 => ?_) (fun c_202 => ?_)
                                            · exact absurd c_202 (by decide)
                                            · have c_202 : ¬ ((3 : Int32) ≤ 2) := c_202
                                              refine lv_aload_n hx hb dX12_pavement_400 rfl (lv_at hl 1 rfl) ?_
                                              refine va_get (D := D) (ci := 12) (v := .ref hbx) (C := RX12) (T := TX12) (N := 89) hx hb hg iX12 hown hK hP 3 rfl rfl 87 (by decide) (hg (Cond.fieldLink RX12 172 "SlabWalkModel" "hasBox" "[Z") m1401) (fun _ h9 => h9) (fs_ne (fs_ne (fs_ne (fs_ne (fs_ne (fs_ne (fs_ne (fs_ne (fs_ne (fs_ne g_33 (by decide)) (by decide)) (by decide)) (by decide)) (by decide)) (by decide)) (by decide)) (by decide)) (by decide)) (by decide)) dX12_pavement_401 ?_
                                              refine lv_iload_n hx hb dX12_pavement_404 rfl (lv_at hl 0 rfl) ?_
                                              refine lv_iconst (v := 0) hx hb dX12_pavement_405 (by decide) ?_
                                              refine va_zast hx hb hK hP hD hS 2 3 rfl rfl (show ¬ ((2 : Int32) < 0 ∨ 3 ≤ (2 : Int32).toNatClampNeg) from by decide +kernel) dX12_pavement_406 (fun H locs hP hD hS => ?_)
                                              have hP : va_P D classes [(ss, .inl (k.2.1, 3, .inl f_53)), (nw, .inl (k.2.1, 16, .inl f_187)), (hbx, .inl (k.2.2.2, 3, .inl (upd f_201 2 (vp_nar .boolean 0)))), (h0, .inr (12, ((((((((((z_2.set 52 (.int 0)).set 53 (.int 0)).set 54 (.int 0)).set 55 (.int 30)).set 56 (.int 10)).set 22 (.int 0)).set 78 (.int 0)).set 79 (.int 0)).set 85 (.int 0)).set 66 (.int 0)))), (ns, .inl (k.2.1, 3, .inl z_3))] H := hP
                                              have hD : va_D A [(ss, .inl (k.2.1, 3, .inl f_53)), (nw, .inl (k.2.1, 16, .inl f_187)), (hbx, .inl (k.2.2.2, 3, .inl (upd f_201 2 (vp_nar .boolean 0)))), (h0, .inr (12, ((((((((((z_2.set 52 (.int 0)).set 53 (.int 0)).set 54 (.int 0)).set 55 (.int 30)).set 56 (.int 10)).set 22 (.int 0)).set 78 (.int 0)).set 79 (.int 0)).set 85 (.int 0)).set 66 (.int 0)))), (ns, .inl (k.2.1, 3, .inl z_3))] := hD
                                              generalize (upd f_201 2 (vp_nar .boolean 0)) = f_203 at hP hD
                                              refine lv_iinc (v := 3) (lv' := [(1, .int 3), (0, .ref h0)]) hx hb dX12_pavement_407 hl (k := 0) rfl (by decide) (by decide) rfl (fun ls hl => ?_)
                                              refine lv_goto (tgt := 395) hx hb dX12_pavement_410 (by decide) ?_
                                              refine lv_iload_n hx hb dX12_pavement_395 rfl (lv_at hl 0 rfl) ?_
                                              refine lv_iconst (v := 3) hx hb dX12_pavement_396 (by decide) ?_
                                              refine lv_icmp_ge (tgt := 413) hx hb dX12_pavement_397 (by decide) (fun c_204 => ?_) (fun c_204 => ?_)
                                              · have c_204 : (3 : Int32) ≤ 3 := c_204
                                                refine lv_aload_n hx hb dX12_pavement_413 rfl (lv_at hl 1 rfl) ?_
                                                refine va_get (D := D) (ci := 12) (v := .int 0) (C := RX12) (T := TX12) (N := 89) hx hb hg iX12 hown hK hP 3 rfl rfl 52 (by decide) (hg (Cond.fieldLink RX12 425 "SlabWalkModel" "streets" "I") m1366) (fun _ h9 => h9) (fs_ne (fs_ne (fs_ne (fs_ne (fs_ne (fs_ne (fs_ne (fs_ne (fs_ne (fs_eq g_20) (by decide)) (by decide)) (by decide)) (by decide)) (by decide)) (by decide)) (by decide)) (by decide)) (by decide)) dX12_pavement_414 ?_
                                                have hP9 := hP.sub (ws' := []) [] rfl
                                                have hD9 := hD.sub (ws' := []) [] (by decide) rfl
                                                exact W.iret (v := 0) hx hb hr (fun t ht hW => ⟨⟨0, (), rfl, rfl, cB_of ht hP9 hD9⟩, hS.F ht⟩) hS.2.2 dX12_pavement_417
                                              · exact absurd (by decide) c_204
                                      · exact absurd (by decide) c_175
                · exact absurd (by decide) c_60
              · exact absurd (by decide) c_59
            · exact absurd (by decide) c_58
          · exact absurd (by decide) c_57
  · exact absurd (by decide) c_38
