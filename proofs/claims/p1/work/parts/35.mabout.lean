set_option maxHeartbeats 4000000 in
set_option maxRecDepth 100000 in
theorem c_X12_allSlips (l : Launch) (D : va_G) (k : ClassId × ClassId × ClassId × ClassId) (sz : Nat) (h0 ss : Nat) (M : List Value) (m3 : Nat → Int32) (g_M_slips : M[44]? = some (.ref ss)) (g_m3__0 : m3 0 = 0) (g_m3__1 : m3 1 = 1) (g_m3__2 : m3 2 = 0) : Met l yX12_allSlips (WS yX12_allSlips cX12_allSlips 1 (some .int)) ({ frames := 0, cells := 0, slots := 0, locals := 0 }) (va_Pc [.ref h0] (cP D k [(h0, .inr (12, M)), (ss, .inl (k.2.1, 3, .inl m3))] sz)) (va_Qi (fun (r : Int32) (_ : Unit) => r = 1) (fun (_ : Unit) t => cB D (va_A [(h0, .inr (12, M)), (ss, .inl (k.2.1, 3, .inl m3))] sz) [] t) (va_A [(h0, .inr (12, M)), (ss, .inl (k.2.1, 3, .inl m3))] sz)) 0 0 (va_A [(h0, .inr (12, M)), (ss, .inl (k.2.1, 3, .inl m3))] sz) := by
  refine Met.ofW (cc := cX12_allSlips) (maxL := 1) (ret := (some .int)) (by decide) rfl ?_
  intro p e s m args below meth c s₁ B hml hv
  obtain ⟨rfl, hsz, hP, hKX, hD0⟩ := hv
  have hK := hKX.1
  have hx := B.exec
  have hb := B.bytes
  have hr := B.returns
  have hts := atoms_spec (ws := WS yX12_allSlips cX12_allSlips 1 (some .int)) B.pre
  have hgd : ∀ w ∈ gd, w ∈ WS yX12_allSlips cX12_allSlips 1 (some .int) := fun w h => List.mem_cons_of_mem _ h
  have hg : ∀ w ∈ gd, w.before _ s = true := fun w h => hts w (hgd w h)
  have hown : s.vm.findClass RX12 = some m.cls := findClass_of_methodNamed B.named
  have hlocks := B.notSynchronized
  subst hsz
  have hD := hD0.self (sz := s.heap.size)
  generalize hAe : va_A [(h0, .inr (12, M)), (ss, .inl (k.2.1, 3, .inl m3))] s.heap.size = A at hD ⊢
  have hA : ∀ q : Nat, s.heap.size ≤ q → A q := fun q h => by rw [← hAe]; exact Or.inr h
  have hS : va_S A s.heap s.heap [] := va_S.rf
  have hP : va_P D classes [(h0, .inr (12, M)), (ss, .inl (k.2.1, 3, .inl m3))] s.heap := hP
  have hl := lv_entry ([.ref h0]) (n := 1) (Nat.le_of_ble_eq_true rfl)
  rw [lg_entry_eq]
  generalize (lg_sl ([.ref h0]) ++ List.replicate (1 - (lg_sl ([.ref h0])).length) Slot.unset).toArray = ls at hl ⊢
  have hl : lv_has ls 1 [(0, .ref h0)] := hl
  refine lv_aload_n hx hb dX12_allSlips_0 rfl (lv_at hl 0 rfl) ?_
  refine va_get (D := D) (ci := 12) (v := .ref ss) (C := RX12) (T := TX12) (N := 89) hx hb hg iX12 hown hK hP 0 rfl rfl 44 (by decide) (hg (Cond.fieldLink RX12 102 "SlabWalkModel" "slips" "[I") m1358) (fun _ h9 => h9) g_M_slips dX12_allSlips_1 ?_
  refine lv_iconst (v := 0) hx hb dX12_allSlips_4 (by decide) ?_
  refine va_iald hx hb hK hP 1 1 rfl rfl (show ¬ ((0 : Int32) < 0 ∨ 3 ≤ (0 : Int32).toNatClampNeg) from by decide +kernel) dX12_allSlips_5 ?_
  refine lv_topi (fun y_1 ey_1 => ?_)
  obtain rfl : y_1 = 0 := ey_1.trans (g_m3__0)
  refine lv_aload_n hx hb dX12_allSlips_6 rfl (lv_at hl 0 rfl) ?_
  refine va_get (D := D) (ci := 12) (v := .ref ss) (C := RX12) (T := TX12) (N := 89) hx hb hg iX12 hown hK hP 0 rfl rfl 44 (by decide) (hg (Cond.fieldLink RX12 102 "SlabWalkModel" "slips" "[I") m1358) (fun _ h9 => h9) g_M_slips dX12_allSlips_7 ?_
  refine lv_iconst (v := 1) hx hb dX12_allSlips_10 (by decide) ?_
  refine va_iald hx hb hK hP 1 1 rfl rfl (show ¬ ((1 : Int32) < 0 ∨ 3 ≤ (1 : Int32).toNatClampNeg) from by decide +kernel) dX12_allSlips_11 ?_
  refine lv_topi (fun y_2 ey_2 => ?_)
  obtain rfl : y_2 = 1 := ey_2.trans (g_m3__1)
  refine lv_iadd hx hb dX12_allSlips_12 ?_
  refine lv_topi (fun y_3 ey_3 => ?_)
  obtain rfl : y_3 = 1 := ey_3.trans (by decide)
  refine lv_aload_n hx hb dX12_allSlips_13 rfl (lv_at hl 0 rfl) ?_
  refine va_get (D := D) (ci := 12) (v := .ref ss) (C := RX12) (T := TX12) (N := 89) hx hb hg iX12 hown hK hP 0 rfl rfl 44 (by decide) (hg (Cond.fieldLink RX12 102 "SlabWalkModel" "slips" "[I") m1358) (fun _ h9 => h9) g_M_slips dX12_allSlips_14 ?_
  refine lv_iconst (v := 2) hx hb dX12_allSlips_17 (by decide) ?_
  refine va_iald hx hb hK hP 1 1 rfl rfl (show ¬ ((2 : Int32) < 0 ∨ 3 ≤ (2 : Int32).toNatClampNeg) from by decide +kernel) dX12_allSlips_18 ?_
  refine lv_topi (fun y_4 ey_4 => ?_)
  obtain rfl : y_4 = 0 := ey_4.trans (g_m3__2)
  refine lv_iadd hx hb dX12_allSlips_19 ?_
  refine lv_topi (fun y_5 ey_5 => ?_)
  obtain rfl : y_5 = 1 := ey_5.trans (by decide)
  have hP9 := hP.sub (ws' := []) [] rfl
  have hD9 := hD.sub (ws' := []) [] (by decide) rfl
  exact W.iret (v := 1) hx hb hr (fun t ht hW => ⟨⟨1, (), rfl, rfl, cB_of ht hP9 hD9⟩, hS.F ht⟩) hS.2.2 dX12_allSlips_20

set_option maxHeartbeats 4000000 in
set_option maxRecDepth 100000 in
theorem c_X12_about (l : Launch) (D : va_G) (k : ClassId × ClassId × ClassId × ClassId) (sz : Nat) (h0 nw ss : Nat) (M : List Value) (m4 : Nat → Int32) (m3 : Nat → Int32) (p0 : Int32) (g_M_taped : M[1]? = some (.int 0)) (g_M_units : M[22]? = some (.int 0)) (g_M_slips : M[44]? = some (.ref ss)) (g_M_streets : M[52]? = some (.int 0)) (g_M_walkers : M[53]? = some (.int 0)) (g_M_rules : M[54]? = some (.int 0)) (g_M_lain : M[66]? = some (.int 0)) (g_M_now : M[76]? = some (.ref nw)) (g_M_acts : M[78]? = some (.int 0)) (g_M_undone : M[79]? = some (.int 0)) (g_M_sights : M[85]? = some (.int 0)) (g_M_time : M[86]? = some (.int 0)) (g_m4__0 : m4 0 = (-1)) (g_m4__4 : m4 4 = 0) (g_m4__5 : m4 5 = 0) (g_m4__6 : m4 6 = 0) (g_m4__7 : m4 7 = 0) (g_m4__8 : m4 8 = 0) (g_m4__9 : m4 9 = 0) (g_m3__0 : m3 0 = 0) (g_m3__1 : m3 1 = 1) (g_m3__2 : m3 2 = 0) : Met l yX12_about (WS yX12_about cX12_about 2 (some .int)) ({ frames := 1, cells := 0, slots := 0, locals := 20 }) (va_Pc [.ref h0, .int p0] (cP D k [(h0, .inr (12, M)), (nw, .inl (k.2.1, 16, .inl m4)), (ss, .inl (k.2.1, 3, .inl m3))] sz)) (va_Qi (fun (r : Int32) (_ : Unit) => r = s_about p0) (fun (_ : Unit) t => cB D (va_A [(h0, .inr (12, M)), (nw, .inl (k.2.1, 16, .inl m4)), (ss, .inl (k.2.1, 3, .inl m3))] sz) [] t) (va_A [(h0, .inr (12, M)), (nw, .inl (k.2.1, 16, .inl m4)), (ss, .inl (k.2.1, 3, .inl m3))] sz)) 0 0 (va_A [(h0, .inr (12, M)), (nw, .inl (k.2.1, 16, .inl m4)), (ss, .inl (k.2.1, 3, .inl m3))] sz) := by
  refine Met.ofW (cc := cX12_about) (maxL := 2) (ret := (some .int)) (by decide) rfl ?_
  intro p e s m args below meth c s₁ B hml hv
  obtain ⟨rfl, hsz, hP, hKX, hD0⟩ := hv
  have hK := hKX.1
  have hx := B.exec
  have hb := B.bytes
  have hr := B.returns
  have hts := atoms_spec (ws := WS yX12_about cX12_about 2 (some .int)) B.pre
  have hgd : ∀ w ∈ gd, w ∈ WS yX12_about cX12_about 2 (some .int) := fun w h => List.mem_cons_of_mem _ h
  have hg : ∀ w ∈ gd, w.before _ s = true := fun w h => hts w (hgd w h)
  have hown : s.vm.findClass RX12 = some m.cls := findClass_of_methodNamed B.named
  have hlocks := B.notSynchronized
  subst hsz
  have hD := hD0.self (sz := s.heap.size)
  generalize hAe : va_A [(h0, .inr (12, M)), (nw, .inl (k.2.1, 16, .inl m4)), (ss, .inl (k.2.1, 3, .inl m3))] s.heap.size = A at hD ⊢
  have hA : ∀ q : Nat, s.heap.size ≤ q → A q := fun q h => by rw [← hAe]; exact Or.inr h
  have hS : va_S A s.heap s.heap [] := va_S.rf
  have hP : va_P D classes [(h0, .inr (12, M)), (nw, .inl (k.2.1, 16, .inl m4)), (ss, .inl (k.2.1, 3, .inl m3))] s.heap := hP
  have hl := lv_entry ([.ref h0, .int p0]) (n := 2) (Nat.le_of_ble_eq_true rfl)
  rw [lg_entry_eq]
  generalize (lg_sl ([.ref h0, .int p0]) ++ List.replicate (2 - (lg_sl ([.ref h0, .int p0])).length) Slot.unset).toArray = ls at hl ⊢
  have hl : lv_has ls 2 [(0, .ref h0), (1, .int p0)] := hl
  refine lv_iload_n hx hb dX12_about_0 rfl (lv_at hl 1 rfl) ?_
  by_cases c_1 : p0 = 0
  · refine lv_tableIn (tgt := 76) hx hb dX12_about_1 (by rw [c_1]; decide) (by rw [c_1]; decide) (off := 75) (by rw [c_1]; decide) (by decide) ?_
    refine lv_aload_n hx hb dX12_about_76 rfl (lv_at hl 0 rfl) ?_
    refine va_get (D := D) (ci := 12) (v := .int 0) (C := RX12) (T := TX12) (N := 89) hx hb hg iX12 hown hK hP 0 rfl rfl 52 (by decide) (hg (Cond.fieldLink RX12 425 "SlabWalkModel" "streets" "I") m1366) (fun _ h9 => h9) g_M_streets dX12_about_77 ?_
    have hP9 := hP.sub (ws' := []) [] rfl
    have hD9 := hD.sub (ws' := []) [] (by decide) rfl
    exact W.iret (v := 0) hx hb hr (fun t ht hW => ⟨⟨0, (), rfl, by simp [s_about, c_1], cB_of ht hP9 hD9⟩, hS.F ht⟩) hS.2.2 dX12_about_80
  by_cases c_2 : p0 = 1
  · refine lv_tableIn (tgt := 81) hx hb dX12_about_1 (by rw [c_2]; decide) (by rw [c_2]; decide) (off := 80) (by rw [c_2]; decide) (by decide) ?_
    refine lv_aload_n hx hb dX12_about_81 rfl (lv_at hl 0 rfl) ?_
    refine va_get (D := D) (ci := 12) (v := .int 0) (C := RX12) (T := TX12) (N := 89) hx hb hg iX12 hown hK hP 0 rfl rfl 53 (by decide) (hg (Cond.fieldLink RX12 428 "SlabWalkModel" "walkers" "I") m1367) (fun _ h9 => h9) g_M_walkers dX12_about_82 ?_
    have hP9 := hP.sub (ws' := []) [] rfl
    have hD9 := hD.sub (ws' := []) [] (by decide) rfl
    exact W.iret (v := 0) hx hb hr (fun t ht hW => ⟨⟨0, (), rfl, by simp [s_about, c_2], cB_of ht hP9 hD9⟩, hS.F ht⟩) hS.2.2 dX12_about_85
  by_cases c_3 : p0 = 2
  · refine lv_tableIn (tgt := 86) hx hb dX12_about_1 (by rw [c_3]; decide) (by rw [c_3]; decide) (off := 85) (by rw [c_3]; decide) (by decide) ?_
    refine lv_aload_n hx hb dX12_about_86 rfl (lv_at hl 0 rfl) ?_
    refine va_get (D := D) (ci := 12) (v := .int 0) (C := RX12) (T := TX12) (N := 89) hx hb hg iX12 hown hK hP 0 rfl rfl 54 (by decide) (hg (Cond.fieldLink RX12 431 "SlabWalkModel" "rules" "I") m1368) (fun _ h9 => h9) g_M_rules dX12_about_87 ?_
    have hP9 := hP.sub (ws' := []) [] rfl
    have hD9 := hD.sub (ws' := []) [] (by decide) rfl
    exact W.iret (v := 0) hx hb hr (fun t ht hW => ⟨⟨0, (), rfl, by simp [s_about, c_3], cB_of ht hP9 hD9⟩, hS.F ht⟩) hS.2.2 dX12_about_90
  by_cases c_4 : p0 = 3
  · refine lv_tableIn (tgt := 91) hx hb dX12_about_1 (by rw [c_4]; decide) (by rw [c_4]; decide) (off := 90) (by rw [c_4]; decide) (by decide) ?_
    refine lv_aload_n hx hb dX12_about_91 rfl (lv_at hl 0 rfl) ?_
    refine va_get (D := D) (ci := 12) (v := .ref nw) (C := RX12) (T := TX12) (N := 89) hx hb hg iX12 hown hK hP 0 rfl rfl 76 (by decide) (hg (Cond.fieldLink RX12 151 "SlabWalkModel" "now" "[I") m1390) (fun _ h9 => h9) g_M_now dX12_about_92 ?_
    refine lv_bipush (v := 6) hx hb dX12_about_95 (by decide) ?_
    refine va_iald hx hb hK hP 1 1 rfl rfl (show ¬ ((6 : Int32) < 0 ∨ 16 ≤ (6 : Int32).toNatClampNeg) from by decide +kernel) dX12_about_97 ?_
    refine lv_topi (fun y_5 ey_5 => ?_)
    obtain rfl : y_5 = 0 := ey_5.trans (g_m4__6)
    have hP9 := hP.sub (ws' := []) [] rfl
    have hD9 := hD.sub (ws' := []) [] (by decide) rfl
    exact W.iret (v := 0) hx hb hr (fun t ht hW => ⟨⟨0, (), rfl, by simp [s_about, c_4], cB_of ht hP9 hD9⟩, hS.F ht⟩) hS.2.2 dX12_about_98
  by_cases c_6 : p0 = 4
  · refine lv_tableIn (tgt := 99) hx hb dX12_about_1 (by rw [c_6]; decide) (by rw [c_6]; decide) (off := 98) (by rw [c_6]; decide) (by decide) ?_
    refine lv_aload_n hx hb dX12_about_99 rfl (lv_at hl 0 rfl) ?_
    refine va_get (D := D) (ci := 12) (v := .ref nw) (C := RX12) (T := TX12) (N := 89) hx hb hg iX12 hown hK hP 0 rfl rfl 76 (by decide) (hg (Cond.fieldLink RX12 151 "SlabWalkModel" "now" "[I") m1390) (fun _ h9 => h9) g_M_now dX12_about_100 ?_
    refine lv_bipush (v := 7) hx hb dX12_about_103 (by decide) ?_
    refine va_iald hx hb hK hP 1 1 rfl rfl (show ¬ ((7 : Int32) < 0 ∨ 16 ≤ (7 : Int32).toNatClampNeg) from by decide +kernel) dX12_about_105 ?_
    refine lv_topi (fun y_7 ey_7 => ?_)
    obtain rfl : y_7 = 0 := ey_7.trans (g_m4__7)
    have hP9 := hP.sub (ws' := []) [] rfl
    have hD9 := hD.sub (ws' := []) [] (by decide) rfl
    exact W.iret (v := 0) hx hb hr (fun t ht hW => ⟨⟨0, (), rfl, by simp [s_about, c_6], cB_of ht hP9 hD9⟩, hS.F ht⟩) hS.2.2 dX12_about_106
  by_cases c_8 : p0 = 5
  · refine lv_tableIn (tgt := 107) hx hb dX12_about_1 (by rw [c_8]; decide) (by rw [c_8]; decide) (off := 106) (by rw [c_8]; decide) (by decide) ?_
    refine lv_aload_n hx hb dX12_about_107 rfl (lv_at hl 0 rfl) ?_
    refine va_get (D := D) (ci := 12) (v := .ref nw) (C := RX12) (T := TX12) (N := 89) hx hb hg iX12 hown hK hP 0 rfl rfl 76 (by decide) (hg (Cond.fieldLink RX12 151 "SlabWalkModel" "now" "[I") m1390) (fun _ h9 => h9) g_M_now dX12_about_108 ?_
    refine lv_bipush (v := 8) hx hb dX12_about_111 (by decide) ?_
    refine va_iald hx hb hK hP 1 1 rfl rfl (show ¬ ((8 : Int32) < 0 ∨ 16 ≤ (8 : Int32).toNatClampNeg) from by decide +kernel) dX12_about_113 ?_
    refine lv_topi (fun y_9 ey_9 => ?_)
    obtain rfl : y_9 = 0 := ey_9.trans (g_m4__8)
    have hP9 := hP.sub (ws' := []) [] rfl
    have hD9 := hD.sub (ws' := []) [] (by decide) rfl
    exact W.iret (v := 0) hx hb hr (fun t ht hW => ⟨⟨0, (), rfl, by simp [s_about, c_8], cB_of ht hP9 hD9⟩, hS.F ht⟩) hS.2.2 dX12_about_114
  by_cases c_10 : p0 = 6
  · refine lv_tableIn (tgt := 115) hx hb dX12_about_1 (by rw [c_10]; decide) (by rw [c_10]; decide) (off := 114) (by rw [c_10]; decide) (by decide) ?_
    refine lv_aload_n hx hb dX12_about_115 rfl (lv_at hl 0 rfl) ?_
    refine va_get (D := D) (ci := 12) (v := .ref nw) (C := RX12) (T := TX12) (N := 89) hx hb hg iX12 hown hK hP 0 rfl rfl 76 (by decide) (hg (Cond.fieldLink RX12 151 "SlabWalkModel" "now" "[I") m1390) (fun _ h9 => h9) g_M_now dX12_about_116 ?_
    refine lv_bipush (v := 9) hx hb dX12_about_119 (by decide) ?_
    refine va_iald hx hb hK hP 1 1 rfl rfl (show ¬ ((9 : Int32) < 0 ∨ 16 ≤ (9 : Int32).toNatClampNeg) from by decide +kernel) dX12_about_121 ?_
    refine lv_topi (fun y_11 ey_11 => ?_)
    obtain rfl : y_11 = 0 := ey_11.trans (g_m4__9)
    have hP9 := hP.sub (ws' := []) [] rfl
    have hD9 := hD.sub (ws' := []) [] (by decide) rfl
    exact W.iret (v := 0) hx hb hr (fun t ht hW => ⟨⟨0, (), rfl, by simp [s_about, c_10], cB_of ht hP9 hD9⟩, hS.F ht⟩) hS.2.2 dX12_about_122
  by_cases c_12 : p0 = 7
  · refine lv_tableIn (tgt := 123) hx hb dX12_about_1 (by rw [c_12]; decide) (by rw [c_12]; decide) (off := 122) (by rw [c_12]; decide) (by decide) ?_
    refine lv_aload_n hx hb dX12_about_123 rfl (lv_at hl 0 rfl) ?_
    refine va_get (D := D) (ci := 12) (v := .int 0) (C := RX12) (T := TX12) (N := 89) hx hb hg iX12 hown hK hP 0 rfl rfl 78 (by decide) (hg (Cond.fieldLink RX12 437 "SlabWalkModel" "acts" "I") m1392) (fun _ h9 => h9) g_M_acts dX12_about_124 ?_
    have hP9 := hP.sub (ws' := []) [] rfl
    have hD9 := hD.sub (ws' := []) [] (by decide) rfl
    exact W.iret (v := 0) hx hb hr (fun t ht hW => ⟨⟨0, (), rfl, by simp [s_about, c_12], cB_of ht hP9 hD9⟩, hS.F ht⟩) hS.2.2 dX12_about_127
  by_cases c_13 : p0 = 8
  · refine lv_tableIn (tgt := 128) hx hb dX12_about_1 (by rw [c_13]; decide) (by rw [c_13]; decide) (off := 127) (by rw [c_13]; decide) (by decide) ?_
    refine lv_aload_n hx hb dX12_about_128 rfl (lv_at hl 0 rfl) ?_
    refine va_get (D := D) (ci := 12) (v := .int 0) (C := RX12) (T := TX12) (N := 89) hx hb hg iX12 hown hK hP 0 rfl rfl 79 (by decide) (hg (Cond.fieldLink RX12 440 "SlabWalkModel" "undone" "I") m1393) (fun _ h9 => h9) g_M_undone dX12_about_129 ?_
    have hP9 := hP.sub (ws' := []) [] rfl
    have hD9 := hD.sub (ws' := []) [] (by decide) rfl
    exact W.iret (v := 0) hx hb hr (fun t ht hW => ⟨⟨0, (), rfl, by simp [s_about, c_13], cB_of ht hP9 hD9⟩, hS.F ht⟩) hS.2.2 dX12_about_132
  by_cases c_14 : p0 = 9
  · refine lv_tableIn (tgt := 133) hx hb dX12_about_1 (by rw [c_14]; decide) (by rw [c_14]; decide) (off := 132) (by rw [c_14]; decide) (by decide) ?_
    refine lv_aload_n hx hb dX12_about_133 rfl (lv_at hl 0 rfl) ?_
    refine va_get (D := D) (ci := 12) (v := .int 0) (C := RX12) (T := TX12) (N := 89) hx hb hg iX12 hown hK hP 0 rfl rfl 85 (by decide) (hg (Cond.fieldLink RX12 443 "SlabWalkModel" "sights" "I") m1399) (fun _ h9 => h9) g_M_sights dX12_about_134 ?_
    have hP9 := hP.sub (ws' := []) [] rfl
    have hD9 := hD.sub (ws' := []) [] (by decide) rfl
    exact W.iret (v := 0) hx hb hr (fun t ht hW => ⟨⟨0, (), rfl, by simp [s_about, c_14], cB_of ht hP9 hD9⟩, hS.F ht⟩) hS.2.2 dX12_about_137
  by_cases c_15 : p0 = 10
  · refine lv_tableIn (tgt := 138) hx hb dX12_about_1 (by rw [c_15]; decide) (by rw [c_15]; decide) (off := 137) (by rw [c_15]; decide) (by decide) ?_
    refine lv_aload_n hx hb dX12_about_138 rfl (lv_at hl 0 rfl) ?_
    refine va_get (D := D) (ci := 12) (v := .int 0) (C := RX12) (T := TX12) (N := 89) hx hb hg iX12 hown hK hP 0 rfl rfl 86 (by decide) (hg (Cond.fieldLink RX12 593 "SlabWalkModel" "time" "I") m1400) (fun _ h9 => h9) g_M_time dX12_about_139 ?_
    have hP9 := hP.sub (ws' := []) [] rfl
    have hD9 := hD.sub (ws' := []) [] (by decide) rfl
    exact W.iret (v := 0) hx hb hr (fun t ht hW => ⟨⟨0, (), rfl, by simp [s_about, c_15], cB_of ht hP9 hD9⟩, hS.F ht⟩) hS.2.2 dX12_about_142
  by_cases c_16 : p0 = 11
  · refine lv_tableIn (tgt := 143) hx hb dX12_about_1 (by rw [c_16]; decide) (by rw [c_16]; decide) (off := 142) (by rw [c_16]; decide) (by decide) ?_
    refine lv_aload_n hx hb dX12_about_143 rfl (lv_at hl 0 rfl) ?_
    refine va_get (D := D) (ci := 12) (v := .int 0) (C := RX12) (T := TX12) (N := 89) hx hb hg iX12 hown hK hP 0 rfl rfl 1 (by decide) (hg (Cond.fieldLink RX12 178 "SlabWalkModel" "taped" "I") m1315) (fun _ h9 => h9) g_M_taped dX12_about_144 ?_
    have hP9 := hP.sub (ws' := []) [] rfl
    have hD9 := hD.sub (ws' := []) [] (by decide) rfl
    exact W.iret (v := 0) hx hb hr (fun t ht hW => ⟨⟨0, (), rfl, by simp [s_about, c_16], cB_of ht hP9 hD9⟩, hS.F ht⟩) hS.2.2 dX12_about_147
  by_cases c_17 : p0 = 12
  · refine lv_tableIn (tgt := 148) hx hb dX12_about_1 (by rw [c_17]; decide) (by rw [c_17]; decide) (off := 147) (by rw [c_17]; decide) (by decide) ?_
    refine lv_aload_n hx hb dX12_about_148 rfl (lv_at hl 0 rfl) ?_
    refine va_get (D := D) (ci := 12) (v := .int 0) (C := RX12) (T := TX12) (N := 89) hx hb hg iX12 hown hK hP 0 rfl rfl 22 (by decide) (hg (Cond.fieldLink RX12 434 "SlabWalkModel" "units" "I") m1336) (fun _ h9 => h9) g_M_units dX12_about_149 ?_
    have hP9 := hP.sub (ws' := []) [] rfl
    have hD9 := hD.sub (ws' := []) [] (by decide) rfl
    exact W.iret (v := 0) hx hb hr (fun t ht hW => ⟨⟨0, (), rfl, by simp [s_about, c_17], cB_of ht hP9 hD9⟩, hS.F ht⟩) hS.2.2 dX12_about_152
  by_cases c_18 : p0 = 13
  · refine lv_tableIn (tgt := 153) hx hb dX12_about_1 (by rw [c_18]; decide) (by rw [c_18]; decide) (off := 152) (by rw [c_18]; decide) (by decide) ?_
    refine lv_aload_n hx hb dX12_about_153 rfl (lv_at hl 0 rfl) ?_
    refine va_get (D := D) (ci := 12) (v := .int 0) (C := RX12) (T := TX12) (N := 89) hx hb hg iX12 hown hK hP 0 rfl rfl 66 (by decide) (hg (Cond.fieldLink RX12 446 "SlabWalkModel" "lain" "I") m1380) (fun _ h9 => h9) g_M_lain dX12_about_154 ?_
    have hP9 := hP.sub (ws' := []) [] rfl
    have hD9 := hD.sub (ws' := []) [] (by decide) rfl
    exact W.iret (v := 0) hx hb hr (fun t ht hW => ⟨⟨0, (), rfl, by simp [s_about, c_18], cB_of ht hP9 hD9⟩, hS.F ht⟩) hS.2.2 dX12_about_157
  by_cases c_19 : p0 = 14
  · refine lv_tableIn (tgt := 158) hx hb dX12_about_1 (by rw [c_19]; decide) (by rw [c_19]; decide) (off := 157) (by rw [c_19]; decide) (by decide) ?_
    refine lv_aload_n hx hb dX12_about_158 rfl (lv_at hl 0 rfl) ?_
    have hPc := hP.sub (ws' := [(h0, .inr (12, M)), (ss, .inl (k.2.1, 3, .inl m3))]) [0, 2] rfl
    have hDc := hD.sub (ws' := [(h0, .inr (12, M)), (ss, .inl (k.2.1, 3, .inl m3))]) [0, 2] (by decide) rfl
    have hFc := va_free (wc := [(h0, .inr (12, M)), (ss, .inl (k.2.1, 3, .inl m3))]) hD hS hA [0, 2] rfl
    refine va_calli (va_runV (As := []) (rest := []) ⟨hx, hb, hml, hown, hts⟩ (c_X12_allSlips l D k s.heap.size h0 ss M m3 g_M_slips g_m3__0 g_m3__1 g_m3__2) (cwV 0 hts (gd_V hgd m1955 m1957 m106 m131 m1958) rfl rfl rfl (by decide +kernel) ⟨Nat.le_of_ble_eq_true rfl, Nat.le_of_ble_eq_true rfl⟩) (cP_V hPc hKX hDc (ci := 12) (q0 := 0) rfl rfl) rfl rfl hl.1 rfl (lv_room (Nat.le_of_ble_eq_true rfl)) dX12_about_159 ⟨Nat.le_of_ble_eq_true rfl, Nat.le_of_ble_eq_true rfl⟩) hS (fun q _ h => hFc q h) hFc (fun r_20 u t H1 locs ht hvm hw hB hz1 hk1 hS => ?_)
    obtain ⟨hP1, hD1⟩ := hB
    rw [ht] at hP1
    obtain ⟨hP, hD⟩ := va_join (wr := [(nw, .inl (k.2.1, 16, .inl m4))]) (w1 := []) hP hD [0, 2] [1] rfl rfl (by decide) (by decide) hk1 hFc hP1 hD1
    generalize H1 = H at hP hS ⊢
    have hP : va_P D classes [(nw, .inl (k.2.1, 16, .inl m4))] H := hP
    have hD : va_D A [(nw, .inl (k.2.1, 16, .inl m4))] := hD
    refine W.widen (k := 0) (n := 0) (Nat.le_of_ble_eq_true rfl) (Nat.le_of_ble_eq_true rfl) ?_
    subst hw
    have hP9 := hP.sub (ws' := []) [] rfl
    have hD9 := hD.sub (ws' := []) [] (by decide) rfl
    exact W.iret (v := 1) hx hb hr (fun t ht hW => ⟨⟨1, (), rfl, by simp [s_about, c_19], cB_of ht hP9 hD9⟩, hS.F ht⟩) hS.2.2 dX12_about_162
  refine lv_tableOut (tgt := 163) hx hb dX12_about_1 (tb_out14 p0 c_1 c_2 c_3 c_4 c_6 c_8 c_10 c_12 c_13 c_14 c_15 c_16 c_17 c_18 c_19) (by decide) ?_
  refine lv_iconst (v := (-1)) hx hb dX12_about_163 (by decide) ?_
  have hP9 := hP.sub (ws' := []) [] rfl
  have hD9 := hD.sub (ws' := []) [] (by decide) rfl
  exact W.iret (v := (-1)) hx hb hr (fun t ht hW => ⟨⟨(-1), (), rfl, by simp [s_about, c_1, c_2, c_3, c_4, c_6, c_8, c_10, c_12, c_13, c_14, c_15, c_16, c_17, c_18, c_19], cB_of ht hP9 hD9⟩, hS.F ht⟩) hS.2.2 dX12_about_164
