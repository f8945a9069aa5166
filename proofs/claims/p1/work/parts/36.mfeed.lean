set_option maxHeartbeats 4000000 in
set_option maxRecDepth 100000 in
theorem c_four0 (l : Launch) (D : va_G) (k : ClassId × ClassId × ClassId × ClassId) (sz : Nat) (h0 tp : Nat) (M : List Value) (m1 : Nat → Int32) (p0 : Int32) (g_M_tape : M[0]? = some (.ref tp)) (g_M_taped : M[1]? = some (.int 0)) : Met l yX12_four (WS yX12_four cX12_four 3 none) ({ frames := 0, cells := 0, slots := 0, locals := 0 }) (va_Pc [.ref h0, .int p0] (cP D k [(h0, .inr (12, M)), (tp, .inl (k.2.1, 1600, .inl m1))] sz)) (va_Qv (fun _ : Unit => True) (fun (_ : Unit) t => ∃ (M2 : List Value), ∃ (g : Nat → Int32), M2[0]? = some (.ref tp) ∧ M2[1]? = some (.int 4) ∧ cB D (va_A [(h0, .inr (12, M)), (tp, .inl (k.2.1, 1600, .inl m1))] sz) [(h0, .inr (12, M2)), (tp, .inl (k.2.1, 1600, .inl g))] t) (va_A [(h0, .inr (12, M)), (tp, .inl (k.2.1, 1600, .inl m1))] sz)) 0 0 (va_A [(h0, .inr (12, M)), (tp, .inl (k.2.1, 1600, .inl m1))] sz) := by
  refine Met.ofW (cc := cX12_four) (maxL := 3) (ret := none) (by decide) rfl ?_
  intro p e s m args below meth c s₁ B hml hv
  obtain ⟨rfl, hsz, hP, hKX, hD0⟩ := hv
  have hK := hKX.1
  have hx := B.exec
  have hb := B.bytes
  have hr := B.returns
  have hts := atoms_spec (ws := WS yX12_four cX12_four 3 none) B.pre
  have hgd : ∀ w ∈ gd, w ∈ WS yX12_four cX12_four 3 none := fun w h => List.mem_cons_of_mem _ h
  have hg : ∀ w ∈ gd, w.before _ s = true := fun w h => hts w (hgd w h)
  have hown : s.vm.findClass RX12 = some m.cls := findClass_of_methodNamed B.named
  have hlocks := B.notSynchronized
  subst hsz
  have hD := hD0.self (sz := s.heap.size)
  generalize hAe : va_A [(h0, .inr (12, M)), (tp, .inl (k.2.1, 1600, .inl m1))] s.heap.size = A at hD ⊢
  have hA : ∀ q : Nat, s.heap.size ≤ q → A q := fun q h => by rw [← hAe]; exact Or.inr h
  have hS : va_S A s.heap s.heap [] := va_S.rf
  have hP : va_P D classes [(h0, .inr (12, M)), (tp, .inl (k.2.1, 1600, .inl m1))] s.heap := hP
  have hl := lv_entry ([.ref h0, .int p0]) (n := 3) (Nat.le_of_ble_eq_true rfl)
  rw [lg_entry_eq]
  generalize (lg_sl ([.ref h0, .int p0]) ++ List.replicate (3 - (lg_sl ([.ref h0, .int p0])).length) Slot.unset).toArray = ls at hl ⊢
  have hl : lv_has ls 3 [(0, .ref h0), (1, .int p0)] := hl
  refine lv_bipush (v := 24) hx hb dX12_four_0 (by decide) ?_
  refine lv_istore_n (lv' := [(2, .int 24), (0, .ref h0), (1, .int p0)]) hx hb dX12_four_2 rfl hl (by decide) rfl (fun ls hl => ?_)
  refine lv_iload_n hx hb dX12_four_3 rfl (lv_at hl 0 rfl) ?_
  refine lv_if_lt (tgt := 39) hx hb dX12_four_4 (by decide) (fun c_1 => ?_) (fun c_1 => ?_)
  · exact absurd c_1 (by decide)
  · have c_1 : ¬ ((24 : Int32) < 0) := c_1
    refine lv_aload_n hx hb dX12_four_7 rfl (lv_at hl 1 rfl) ?_
    refine va_get (D := D) (ci := 12) (v := .ref tp) (C := RX12) (T := TX12) (N := 89) hx hb hg iX12 hown hK hP 0 rfl rfl 0 (by decide) (hg (Cond.fieldLink RX12 7 "SlabWalkModel" "tape" "[I") m1314) (fun _ h9 => h9) g_M_tape dX12_four_8 ?_
    refine lv_aload_n hx hb dX12_four_11 rfl (lv_at hl 1 rfl) ?_
    refine va_get (D := D) (ci := 12) (v := .int 0) (C := RX12) (T := TX12) (N := 89) hx hb hg iX12 hown hK hP 0 rfl rfl 1 (by decide) (hg (Cond.fieldLink RX12 178 "SlabWalkModel" "taped" "I") m1315) (fun _ h9 => h9) g_M_taped dX12_four_12 ?_
    refine lv_iload_n hx hb dX12_four_15 rfl (lv_at hl 2 rfl) ?_
    refine lv_iload_n hx hb dX12_four_16 rfl (lv_at hl 0 rfl) ?_
    refine lv_ishr hx hb dX12_four_17 ?_
    refine lv_sipush (v := 255) hx hb dX12_four_18 (by decide) ?_
    refine lv_iand hx hb dX12_four_21 ?_
    refine va_iast hx hb hK hP hD hS 1 1 rfl rfl (show ¬ ((0 : Int32) < 0 ∨ 1600 ≤ (0 : Int32).toNatClampNeg) from by decide +kernel) dX12_four_22 (fun H locs hP hD hS => ?_)
    have hP : va_P D classes [(h0, .inr (12, M)), (tp, .inl (k.2.1, 1600, .inl (upd m1 0 ((p0 >>> (24 &&& 31)) &&& 255))))] H := hP
    have hD : va_D A [(h0, .inr (12, M)), (tp, .inl (k.2.1, 1600, .inl (upd m1 0 ((p0 >>> (24 &&& 31)) &&& 255))))] := hD
    have g_3 : (upd m1 0 ((p0 >>> (24 &&& 31)) &&& 255)) 0 = ((p0 >>> (24 &&& 31)) &&& 255) := rfl
    generalize (upd m1 0 ((p0 >>> (24 &&& 31)) &&& 255)) = f_2 at hP hD g_3
    refine lv_aload_n hx hb dX12_four_23 rfl (lv_at hl 1 rfl) ?_
    refine lv_dup hx hb dX12_four_24 rfl ?_
    refine va_get (D := D) (ci := 12) (v := .int 0) (C := RX12) (T := TX12) (N := 89) hx hb hg iX12 hown hK hP 0 rfl rfl 1 (by decide) (hg (Cond.fieldLink RX12 178 "SlabWalkModel" "taped" "I") m1315) (fun _ h9 => h9) g_M_taped dX12_four_25 ?_
    refine lv_iconst (v := 1) hx hb dX12_four_28 (by decide) ?_
    refine lv_iadd hx hb dX12_four_29 ?_
    refine lv_topi (fun y_4 ey_4 => ?_)
    obtain rfl : y_4 = 1 := ey_4.trans (by decide)
    refine va_put (D := D) (ci := 12) (v := .int 1) (ty := .int) (C := RX12) (T := TX12) (N := 89) hx hb hg iX12 tyX12 tyX12_ok nmX12 hown hK hP hD hS 0 rfl rfl 1 (by decide) (hg (Cond.fieldLink RX12 178 "SlabWalkModel" "taped" "I") m1315) (fun _ h9 => h9) rfl (by decide +kernel) rfl rfl (fs_lt g_M_taped) dX12_four_30 (fun H locs hP hD hS => ?_)
    have hP : va_P D classes [(h0, .inr (12, (M.set 1 (.int 1)))), (tp, .inl (k.2.1, 1600, .inl f_2))] H := hP
    have hD : va_D A [(h0, .inr (12, (M.set 1 (.int 1)))), (tp, .inl (k.2.1, 1600, .inl f_2))] := hD
    refine lv_iinc (v := 16) (lv' := [(2, .int 16), (0, .ref h0), (1, .int p0)]) hx hb dX12_four_33 hl (k := 0) rfl (by decide) (by decide) rfl (fun ls hl => ?_)
    refine lv_goto (tgt := 3) hx hb dX12_four_36 (by decide) ?_
    refine lv_iload_n hx hb dX12_four_3 rfl (lv_at hl 0 rfl) ?_
    refine lv_if_lt (tgt := 39) hx hb dX12_four_4 (by decide) (fun c_5 => ?_) (fun c_5 => ?_)
    · exact absurd c_5 (by decide)
    · have c_5 : ¬ ((16 : Int32) < 0) := c_5
      refine lv_aload_n hx hb dX12_four_7 rfl (lv_at hl 1 rfl) ?_
      refine va_get (D := D) (ci := 12) (v := .ref tp) (C := RX12) (T := TX12) (N := 89) hx hb hg iX12 hown hK hP 0 rfl rfl 0 (by decide) (hg (Cond.fieldLink RX12 7 "SlabWalkModel" "tape" "[I") m1314) (fun _ h9 => h9) (fs_ne g_M_tape (by decide)) dX12_four_8 ?_
      refine lv_aload_n hx hb dX12_four_11 rfl (lv_at hl 1 rfl) ?_
      refine va_get (D := D) (ci := 12) (v := .int 1) (C := RX12) (T := TX12) (N := 89) hx hb hg iX12 hown hK hP 0 rfl rfl 1 (by decide) (hg (Cond.fieldLink RX12 178 "SlabWalkModel" "taped" "I") m1315) (fun _ h9 => h9) (fs_eq g_M_taped) dX12_four_12 ?_
      refine lv_iload_n hx hb dX12_four_15 rfl (lv_at hl 2 rfl) ?_
      refine lv_iload_n hx hb dX12_four_16 rfl (lv_at hl 0 rfl) ?_
      refine lv_ishr hx hb dX12_four_17 ?_
      refine lv_sipush (v := 255) hx hb dX12_four_18 (by decide) ?_
      refine lv_iand hx hb dX12_four_21 ?_
      refine va_iast hx hb hK hP hD hS 1 1 rfl rfl (show ¬ ((1 : Int32) < 0 ∨ 1600 ≤ (1 : Int32).toNatClampNeg) from by decide +kernel) dX12_four_22 (fun H locs hP hD hS => ?_)
      have hP : va_P D classes [(h0, .inr (12, (M.set 1 (.int 1)))), (tp, .inl (k.2.1, 1600, .inl (upd f_2 1 ((p0 >>> (16 &&& 31)) &&& 255))))] H := hP
      have hD : va_D A [(h0, .inr (12, (M.set 1 (.int 1)))), (tp, .inl (k.2.1, 1600, .inl (upd f_2 1 ((p0 >>> (16 &&& 31)) &&& 255))))] := hD
      have g_7 : (upd f_2 1 ((p0 >>> (16 &&& 31)) &&& 255)) 0 = ((p0 >>> (24 &&& 31)) &&& 255) := g_3
      have g_8 : (upd f_2 1 ((p0 >>> (16 &&& 31)) &&& 255)) 1 = ((p0 >>> (16 &&& 31)) &&& 255) := rfl
      generalize (upd f_2 1 ((p0 >>> (16 &&& 31)) &&& 255)) = f_6 at hP hD g_7 g_8
      refine lv_aload_n hx hb dX12_four_23 rfl (lv_at hl 1 rfl) ?_
      refine lv_dup hx hb dX12_four_24 rfl ?_
      refine va_get (D := D) (ci := 12) (v := .int 1) (C := RX12) (T := TX12) (N := 89) hx hb hg iX12 hown hK hP 0 rfl rfl 1 (by decide) (hg (Cond.fieldLink RX12 178 "SlabWalkModel" "taped" "I") m1315) (fun _ h9 => h9) (fs_eq g_M_taped) dX12_four_25 ?_
      refine lv_iconst (v := 1) hx hb dX12_four_28 (by decide) ?_
      refine lv_iadd hx hb dX12_four_29 ?_
      refine lv_topi (fun y_9 ey_9 => ?_)
      obtain rfl : y_9 = 2 := ey_9.trans (by decide)
      refine va_put (D := D) (ci := 12) (v := .int 2) (ty := .int) (C := RX12) (T := TX12) (N := 89) hx hb hg iX12 tyX12 tyX12_ok nmX12 hown hK hP hD hS 0 rfl rfl 1 (by decide) (hg (Cond.fieldLink RX12 178 "SlabWalkModel" "taped" "I") m1315) (fun _ h9 => h9) rfl (by decide +kernel) rfl rfl (fs_lt (fs_eq g_M_taped)) dX12_four_30 (fun H locs hP hD hS => ?_)
      have hP : va_P D classes [(h0, .inr (12, ((M.set 1 (.int 1)).set 1 (.int 2)))), (tp, .inl (k.2.1, 1600, .inl f_6))] H := hP
      have hD : va_D A [(h0, .inr (12, ((M.set 1 (.int 1)).set 1 (.int 2)))), (tp, .inl (k.2.1, 1600, .inl f_6))] := hD
      refine lv_iinc (v := 8) (lv' := [(2, .int 8), (0, .ref h0), (1, .int p0)]) hx hb dX12_four_33 hl (k := 0) rfl (by decide) (by decide) rfl (fun ls hl => ?_)
      refine lv_goto (tgt := 3) hx hb dX12_four_36 (by decide) ?_
      refine lv_iload_n hx hb dX12_four_3 rfl (lv_at hl 0 rfl) ?_
      refine lv_if_lt (tgt := 39) hx hb dX12_four_4 (by decide) (fun c_10 => ?_) (fun c_10 => ?_)
      · exact absurd c_10 (by decide)
      · have c_10 : ¬ ((8 : Int32) < 0) := c_10
        refine lv_aload_n hx hb dX12_four_7 rfl (lv_at hl 1 rfl) ?_
        refine va_get (D := D) (ci := 12) (v := .ref tp) (C := RX12) (T := TX12) (N := 89) hx hb hg iX12 hown hK hP 0 rfl rfl 0 (by decide) (hg (Cond.fieldLink RX12 7 "SlabWalkModel" "tape" "[I") m1314) (fun _ h9 => h9) (fs_ne (fs_ne g_M_tape (by decide)) (by decide)) dX12_four_8 ?_
        refine lv_aload_n hx hb dX12_four_11 rfl (lv_at hl 1 rfl) ?_
        refine va_get (D := D) (ci := 12) (v := .int 2) (C := RX12) (T := TX12) (N := 89) hx hb hg iX12 hown hK hP 0 rfl rfl 1 (by decide) (hg (Cond.fieldLink RX12 178 "SlabWalkModel" "taped" "I") m1315) (fun _ h9 => h9) (fs_eq (fs_eq g_M_taped)) dX12_four_12 ?_
        refine lv_iload_n hx hb dX12_four_15 rfl (lv_at hl 2 rfl) ?_
        refine lv_iload_n hx hb dX12_four_16 rfl (lv_at hl 0 rfl) ?_
        refine lv_ishr hx hb dX12_four_17 ?_
        refine lv_sipush (v := 255) hx hb dX12_four_18 (by decide) ?_
        refine lv_iand hx hb dX12_four_21 ?_
        refine va_iast hx hb hK hP hD hS 1 1 rfl rfl (show ¬ ((2 : Int32) < 0 ∨ 1600 ≤ (2 : Int32).toNatClampNeg) from by decide +kernel) dX12_four_22 (fun H locs hP hD hS => ?_)
        have hP : va_P D classes [(h0, .inr (12, ((M.set 1 (.int 1)).set 1 (.int 2)))), (tp, .inl (k.2.1, 1600, .inl (upd f_6 2 ((p0 >>> (8 &&& 31)) &&& 255))))] H := hP
        have hD : va_D A [(h0, .inr (12, ((M.set 1 (.int 1)).set 1 (.int 2)))), (tp, .inl (k.2.1, 1600, .inl (upd f_6 2 ((p0 >>> (8 &&& 31)) &&& 255))))] := hD
        have g_12 : (upd f_6 2 ((p0 >>> (8 &&& 31)) &&& 255)) 0 = ((p0 >>> (24 &&& 31)) &&& 255) := g_7
        have g_13 : (upd f_6 2 ((p0 >>> (8 &&& 31)) &&& 255)) 1 = ((p0 >>> (16 &&& 31)) &&& 255) := g_8
        have g_14 : (upd f_6 2 ((p0 >>> (8 &&& 31)) &&& 255)) 2 = ((p0 >>> (8 &&& 31)) &&& 255) := rfl
        generalize (upd f_6 2 ((p0 >>> (8 &&& 31)) &&& 255)) = f_11 at hP hD g_12 g_13 g_14
        refine lv_aload_n hx hb dX12_four_23 rfl (lv_at hl 1 rfl) ?_
        refine lv_dup hx hb dX12_four_24 rfl ?_
        refine va_get (D := D) (ci := 12) (v := .int 2) (C := RX12) (T := TX12) (N := 89) hx hb hg iX12 hown hK hP 0 rfl rfl 1 (by decide) (hg (Cond.fieldLink RX12 178 "SlabWalkModel" "taped" "I") m1315) (fun _ h9 => h9) (fs_eq (fs_eq g_M_taped)) dX12_four_25 ?_
        refine lv_iconst (v := 1) hx hb dX12_four_28 (by decide) ?_
        refine lv_iadd hx hb dX12_four_29 ?_
        refine lv_topi (fun y_15 ey_15 => ?_)
        obtain rfl : y_15 = 3 := ey_15.trans (by decide)
        refine va_put (D := D) (ci := 12) (v := .int 3) (ty := .int) (C := RX12) (T := TX12) (N := 89) hx hb hg iX12 tyX12 tyX12_ok nmX12 hown hK hP hD hS 0 rfl rfl 1 (by decide) (hg (Cond.fieldLink RX12 178 "SlabWalkModel" "taped" "I") m1315) (fun _ h9 => h9) rfl (by decide +kernel) rfl rfl (fs_lt (fs_eq (fs_eq g_M_taped))) dX12_four_30 (fun H locs hP hD hS => ?_)
        have hP : va_P D classes [(h0, .inr (12, (((M.set 1 (.int 1)).set 1 (.int 2)).set 1 (.int 3)))), (tp, .inl (k.2.1, 1600, .inl f_11))] H := hP
        have hD : va_D A [(h0, .inr (12, (((M.set 1 (.int 1)).set 1 (.int 2)).set 1 (.int 3)))), (tp, .inl (k.2.1, 1600, .inl f_11))] := hD
        refine lv_iinc (v := 0) (lv' := [(2, .int 0), (0, .ref h0), (1, .int p0)]) hx hb dX12_four_33 hl (k := 0) rfl (by decide) (by decide) rfl (fun ls hl => ?_)
        refine lv_goto (tgt := 3) hx hb dX12_four_36 (by decide) ?_
        refine lv_iload_n hx hb dX12_four_3 rfl (lv_at hl 0 rfl) ?_
        refine lv_if_lt (tgt := 39) hx hb dX12_four_4 (by decide) (fun c_16 => ?_) (fun c_16 => ?_)
        · exact absurd c_16 (by decide)
        · have c_16 : ¬ ((0 : Int32) < 0) := c_16
          refine lv_aload_n hx hb dX12_four_7 rfl (lv_at hl 1 rfl) ?_
          refine va_get (D := D) (ci := 12) (v := .ref tp) (C := RX12) (T := TX12) (N := 89) hx hb hg iX12 hown hK hP 0 rfl rfl 0 (by decide) (hg (Cond.fieldLink RX12 7 "SlabWalkModel" "tape" "[I") m1314) (fun _ h9 => h9) (fs_ne (fs_ne (fs_ne g_M_tape (by decide)) (by decide)) (by decide)) dX12_four_8 ?_
          refine lv_aload_n hx hb dX12_four_11 rfl (lv_at hl 1 rfl) ?_
          refine va_get (D := D) (ci := 12) (v := .int 3) (C := RX12) (T := TX12) (N := 89) hx hb hg iX12 hown hK hP 0 rfl rfl 1 (by decide) (hg (Cond.fieldLink RX12 178 "SlabWalkModel" "taped" "I") m1315) (fun _ h9 => h9) (fs_eq (fs_eq (fs_eq g_M_taped))) dX12_four_12 ?_
          refine lv_iload_n hx hb dX12_four_15 rfl (lv_at hl 2 rfl) ?_
          refine lv_iload_n hx hb dX12_four_16 rfl (lv_at hl 0 rfl) ?_
          refine lv_ishr hx hb dX12_four_17 ?_
          refine lv_sipush (v := 255) hx hb dX12_four_18 (by decide) ?_
          refine lv_iand hx hb dX12_four_21 ?_
          refine va_iast hx hb hK hP hD hS 1 1 rfl rfl (show ¬ ((3 : Int32) < 0 ∨ 1600 ≤ (3 : Int32).toNatClampNeg) from by decide +kernel) dX12_four_22 (fun H locs hP hD hS => ?_)
          have hP : va_P D classes [(h0, .inr (12, (((M.set 1 (.int 1)).set 1 (.int 2)).set 1 (.int 3)))), (tp, .inl (k.2.1, 1600, .inl (upd f_11 3 ((p0 >>> (0 &&& 31)) &&& 255))))] H := hP
          have hD : va_D A [(h0, .inr (12, (((M.set 1 (.int 1)).set 1 (.int 2)).set 1 (.int 3)))), (tp, .inl (k.2.1, 1600, .inl (upd f_11 3 ((p0 >>> (0 &&& 31)) &&& 255))))] := hD
          have g_18 : (upd f_11 3 ((p0 >>> (0 &&& 31)) &&& 255)) 0 = ((p0 >>> (24 &&& 31)) &&& 255) := g_12
          have g_19 : (upd f_11 3 ((p0 >>> (0 &&& 31)) &&& 255)) 1 = ((p0 >>> (16 &&& 31)) &&& 255) := g_13
          have g_20 : (upd f_11 3 ((p0 >>> (0 &&& 31)) &&& 255)) 2 = ((p0 >>> (8 &&& 31)) &&& 255) := g_14
          have g_21 : (upd f_11 3 ((p0 >>> (0 &&& 31)) &&& 255)) 3 = ((p0 >>> (0 &&& 31)) &&& 255) := rfl
          generalize (upd f_11 3 ((p0 >>> (0 &&& 31)) &&& 255)) = f_17 at hP hD g_18 g_19 g_20 g_21
          refine lv_aload_n hx hb dX12_four_23 rfl (lv_at hl 1 rfl) ?_
          refine lv_dup hx hb dX12_four_24 rfl ?_
          refine va_get (D := D) (ci := 12) (v := .int 3) (C := RX12) (T := TX12) (N := 89) hx hb hg iX12 hown hK hP 0 rfl rfl 1 (by decide) (hg (Cond.fieldLink RX12 178 "SlabWalkModel" "taped" "I") m1315) (fun _ h9 => h9) (fs_eq (fs_eq (fs_eq g_M_taped))) dX12_four_25 ?_
          refine lv_iconst (v := 1) hx hb dX12_four_28 (by decide) ?_
          refine lv_iadd hx hb dX12_four_29 ?_
          refine lv_topi (fun y_22 ey_22 => ?_)
          obtain rfl : y_22 = 4 := ey_22.trans (by decide)
          refine va_put (D := D) (ci := 12) (v := .int 4) (ty := .int) (C := RX12) (T := TX12) (N := 89) hx hb hg iX12 tyX12 tyX12_ok nmX12 hown hK hP hD hS 0 rfl rfl 1 (by decide) (hg (Cond.fieldLink RX12 178 "SlabWalkModel" "taped" "I") m1315) (fun _ h9 => h9) rfl (by decide +kernel) rfl rfl (fs_lt (fs_eq (fs_eq (fs_eq g_M_taped)))) dX12_four_30 (fun H locs hP hD hS => ?_)
          have hP : va_P D classes [(h0, .inr (12, ((((M.set 1 (.int 1)).set 1 (.int 2)).set 1 (.int 3)).set 1 (.int 4)))), (tp, .inl (k.2.1, 1600, .inl f_17))] H := hP
          have hD : va_D A [(h0, .inr (12, ((((M.set 1 (.int 1)).set 1 (.int 2)).set 1 (.int 3)).set 1 (.int 4)))), (tp, .inl (k.2.1, 1600, .inl f_17))] := hD
          refine lv_iinc (v := (-8)) (lv' := [(2, .int (-8)), (0, .ref h0), (1, .int p0)]) hx hb dX12_four_33 hl (k := 0) rfl (by decide) (by decide) rfl (fun ls hl => ?_)
          refine lv_goto (tgt := 3) hx hb dX12_four_36 (by decide) ?_
          refine lv_iload_n hx hb dX12_four_3 rfl (lv_at hl 0 rfl) ?_
          refine lv_if_lt (tgt := 39) hx hb dX12_four_4 (by decide) (fun c_23 => ?_) (fun c_23 => ?_)
          · have c_23 : ((-8) : Int32) < 0 := c_23
            have hP9 := hP.sub (ws' := [(h0, .inr (12, ((((M.set 1 (.int 1)).set 1 (.int 2)).set 1 (.int 3)).set 1 (.int 4)))), (tp, .inl (k.2.1, 1600, .inl f_17))]) [0, 1] rfl
            have hD9 := hD.sub (ws' := [(h0, .inr (12, ((((M.set 1 (.int 1)).set 1 (.int 2)).set 1 (.int 3)).set 1 (.int 4)))), (tp, .inl (k.2.1, 1600, .inl f_17))]) [0, 1] (by decide) rfl
            exact W.vret hx hb hr (fun t ht hW => ⟨⟨(), rfl, trivial, ⟨((((M.set 1 (.int 1)).set 1 (.int 2)).set 1 (.int 3)).set 1 (.int 4)), f_17, (fs_ne (fs_ne (fs_ne (fs_ne g_M_tape (by decide)) (by decide)) (by decide)) (by decide)), (fs_eq (fs_eq (fs_eq (fs_eq g_M_taped)))), cB_of ht hP9 hD9⟩⟩, hS.F ht⟩) hS.2.2 dX12_four_39
          · exact absurd (by decide) c_23

set_option maxHeartbeats 4000000 in
set_option maxRecDepth 100000 in
theorem c_four4 (l : Launch) (D : va_G) (k : ClassId × ClassId × ClassId × ClassId) (sz : Nat) (h0 tp : Nat) (M : List Value) (m1 : Nat → Int32) (p0 : Int32) (g_M_tape : M[0]? = some (.ref tp)) (g_M_taped : M[1]? = some (.int 4)) : Met l yX12_four (WS yX12_four cX12_four 3 none) ({ frames := 0, cells := 0, slots := 0, locals := 0 }) (va_Pc [.ref h0, .int p0] (cP D k [(h0, .inr (12, M)), (tp, .inl (k.2.1, 1600, .inl m1))] sz)) (va_Qv (fun _ : Unit => True) (fun (_ : Unit) t => ∃ (M2 : List Value), ∃ (g : Nat → Int32), M2[0]? = some (.ref tp) ∧ M2[1]? = some (.int 8) ∧ cB D (va_A [(h0, .inr (12, M)), (tp, .inl (k.2.1, 1600, .inl m1))] sz) [(h0, .inr (12, M2)), (tp, .inl (k.2.1, 1600, .inl g))] t) (va_A [(h0, .inr (12, M)), (tp, .inl (k.2.1, 1600, .inl m1))] sz)) 0 0 (va_A [(h0, .inr (12, M)), (tp, .inl (k.2.1, 1600, .inl m1))] sz) := by
  refine Met.ofW (cc := cX12_four) (maxL := 3) (ret := none) (by decide) rfl ?_
  intro p e s m args below meth c s₁ B hml hv
  obtain ⟨rfl, hsz, hP, hKX, hD0⟩ := hv
  have hK := hKX.1
  have hx := B.exec
  have hb := B.bytes
  have hr := B.returns
  have hts := atoms_spec (ws := WS yX12_four cX12_four 3 none) B.pre
  have hgd : ∀ w ∈ gd, w ∈ WS yX12_four cX12_four 3 none := fun w h => List.mem_cons_of_mem _ h
  have hg : ∀ w ∈ gd, w.before _ s = true := fun w h => hts w (hgd w h)
  have hown : s.vm.findClass RX12 = some m.cls := findClass_of_methodNamed B.named
  have hlocks := B.notSynchronized
  subst hsz
  have hD := hD0.self (sz := s.heap.size)
  generalize hAe : va_A [(h0, .inr (12, M)), (tp, .inl (k.2.1, 1600, .inl m1))] s.heap.size = A at hD ⊢
  have hA : ∀ q : Nat, s.heap.size ≤ q → A q := fun q h => by rw [← hAe]; exact Or.inr h
  have hS : va_S A s.heap s.heap [] := va_S.rf
  have hP : va_P D classes [(h0, .inr (12, M)), (tp, .inl (k.2.1, 1600, .inl m1))] s.heap := hP
  have hl := lv_entry ([.ref h0, .int p0]) (n := 3) (Nat.le_of_ble_eq_true rfl)
  rw [lg_entry_eq]
  generalize (lg_sl ([.ref h0, .int p0]) ++ List.replicate (3 - (lg_sl ([.ref h0, .int p0])).length) Slot.unset).toArray = ls at hl ⊢
  have hl : lv_has ls 3 [(0, .ref h0), (1, .int p0)] := hl
  refine lv_bipush (v := 24) hx hb dX12_four_0 (by decide) ?_
  refine lv_istore_n (lv' := [(2, .int 24), (0, .ref h0), (1, .int p0)]) hx hb dX12_four_2 rfl hl (by decide) rfl (fun ls hl => ?_)
  refine lv_iload_n hx hb dX12_four_3 rfl (lv_at hl 0 rfl) ?_
  refine lv_if_lt (tgt := 39) hx hb dX12_four_4 (by decide) (fun c_1 => ?_) (fun c_1 => ?_)
  · exact absurd c_1 (by decide)
  · have c_1 : ¬ ((24 : Int32) < 0) := c_1
    refine lv_aload_n hx hb dX12_four_7 rfl (lv_at hl 1 rfl) ?_
    refine va_get (D := D) (ci := 12) (v := .ref tp) (C := RX12) (T := TX12) (N := 89) hx hb hg iX12 hown hK hP 0 rfl rfl 0 (by decide) (hg (Cond.fieldLink RX12 7 "SlabWalkModel" "tape" "[I") m1314) (fun _ h9 => h9) g_M_tape dX12_four_8 ?_
    refine lv_aload_n hx hb dX12_four_11 rfl (lv_at hl 1 rfl) ?_
    refine va_get (D := D) (ci := 12) (v := .int 4) (C := RX12) (T := TX12) (N := 89) hx hb hg iX12 hown hK hP 0 rfl rfl 1 (by decide) (hg (Cond.fieldLink RX12 178 "SlabWalkModel" "taped" "I") m1315) (fun _ h9 => h9) g_M_taped dX12_four_12 ?_
    refine lv_iload_n hx hb dX12_four_15 rfl (lv_at hl 2 rfl) ?_
    refine lv_iload_n hx hb dX12_four_16 rfl (lv_at hl 0 rfl) ?_
    refine lv_ishr hx hb dX12_four_17 ?_
    refine lv_sipush (v := 255) hx hb dX12_four_18 (by decide) ?_
    refine lv_iand hx hb dX12_four_21 ?_
    refine va_iast hx hb hK hP hD hS 1 1 rfl rfl (show ¬ ((4 : Int32) < 0 ∨ 1600 ≤ (4 : Int32).toNatClampNeg) from by decide +kernel) dX12_four_22 (fun H locs hP hD hS => ?_)
    have hP : va_P D classes [(h0, .inr (12, M)), (tp, .inl (k.2.1, 1600, .inl (upd m1 4 ((p0 >>> (24 &&& 31)) &&& 255))))] H := hP
    have hD : va_D A [(h0, .inr (12, M)), (tp, .inl (k.2.1, 1600, .inl (upd m1 4 ((p0 >>> (24 &&& 31)) &&& 255))))] := hD
    have g_3 : (upd m1 4 ((p0 >>> (24 &&& 31)) &&& 255)) 4 = ((p0 >>> (24 &&& 31)) &&& 255) := rfl
    generalize (upd m1 4 ((p0 >>> (24 &&& 31)) &&& 255)) = f_2 at hP hD g_3
    refine lv_aload_n hx hb dX12_four_23 rfl (lv_at hl 1 rfl) ?_
    refine lv_dup hx hb dX12_four_24 rfl ?_
    refine va_get (D := D) (ci := 12) (v := .int 4) (C := RX12) (T := TX12) (N := 89) hx hb hg iX12 hown hK hP 0 rfl rfl 1 (by decide) (hg (Cond.fieldLink RX12 178 "SlabWalkModel" "taped" "I") m1315) (fun _ h9 => h9) g_M_taped dX12_four_25 ?_
    refine lv_iconst (v := 1) hx hb dX12_four_28 (by decide) ?_
    refine lv_iadd hx hb dX12_four_29 ?_
    refine lv_topi (fun y_4 ey_4 => ?_)
    obtain rfl : y_4 = 5 := ey_4.trans (by decide)
    refine va_put (D := D) (ci := 12) (v := .int 5) (ty := .int) (C := RX12) (T := TX12) (N := 89) hx hb hg iX12 tyX12 tyX12_ok nmX12 hown hK hP hD hS 0 rfl rfl 1 (by decide) (hg (Cond.fieldLink RX12 178 "SlabWalkModel" "taped" "I") m1315) (fun _ h9 => h9) rfl (by decide +kernel) rfl rfl (fs_lt g_M_taped) dX12_four_30 (fun H locs hP hD hS => ?_)
    have hP : va_P D classes [(h0, .inr (12, (M.set 1 (.int 5)))), (tp, .inl (k.2.1, 1600, .inl f_2))] H := hP
    have hD : va_D A [(h0, .inr (12, (M.set 1 (.int 5)))), (tp, .inl (k.2.1, 1600, .inl f_2))] := hD
    refine lv_iinc (v := 16) (lv' := [(2, .int 16), (0, .ref h0), (1, .int p0)]) hx hb dX12_four_33 hl (k := 0) rfl (by decide) (by decide) rfl (fun ls hl => ?_)
    refine lv_goto (tgt := 3) hx hb dX12_four_36 (by decide) ?_
    refine lv_iload_n hx hb dX12_four_3 rfl (lv_at hl 0 rfl) ?_
    refine lv_if_lt (tgt := 39) hx hb dX12_four_4 (by decide) (fun c_5 => ?_) (fun c_5 => ?_)
    · exact absurd c_5 (by decide)
    · have c_5 : ¬ ((16 : Int32) < 0) := c_5
      refine lv_aload_n hx hb dX12_four_7 rfl (lv_at hl 1 rfl) ?_
      refine va_get (D := D) (ci := 12) (v := .ref tp) (C := RX12) (T := TX12) (N := 89) hx hb hg iX12 hown hK hP 0 rfl rfl 0 (by decide) (hg (Cond.fieldLink RX12 7 "SlabWalkModel" "tape" "[I") m1314) (fun _ h9 => h9) (fs_ne g_M_tape (by decide)) dX12_four_8 ?_
      refine lv_aload_n hx hb dX12_four_11 rfl (lv_at hl 1 rfl) ?_
      refine va_get (D := D) (ci := 12) (v := .int 5) (C := RX12) (T := TX12) (N := 89) hx hb hg iX12 hown hK hP 0 rfl rfl 1 (by decide) (hg (Cond.fieldLink RX12 178 "SlabWalkModel" "taped" "I") m1315) (fun _ h9 => h9) (fs_eq g_M_taped) dX12_four_12 ?_
      refine lv_iload_n hx hb dX12_four_15 rfl (lv_at hl 2 rfl) ?_
      refine lv_iload_n hx hb dX12_four_16 rfl (lv_at hl 0 rfl) ?_
      refine lv_ishr hx hb dX12_four_17 ?_
      refine lv_sipush (v := 255) hx hb dX12_four_18 (by decide) ?_
      refine lv_iand hx hb dX12_four_21 ?_
      refine va_iast hx hb hK hP hD hS 1 1 rfl rfl (show ¬ ((5 : Int32) < 0 ∨ 1600 ≤ (5 : Int32).toNatClampNeg) from by decide +kernel) dX12_four_22 (fun H locs hP hD hS => ?_)
      have hP : va_P D classes [(h0, .inr (12, (M.set 1 (.int 5)))), (tp, .inl (k.2.1, 1600, .inl (upd f_2 5 ((p0 >>> (16 &&& 31)) &&& 255))))] H := hP
      have hD : va_D A [(h0, .inr (12, (M.set 1 (.int 5)))), (tp, .inl (k.2.1, 1600, .inl (upd f_2 5 ((p0 >>> (16 &&& 31)) &&& 255))))] := hD
      have g_7 : (upd f_2 5 ((p0 >>> (16 &&& 31)) &&& 255)) 4 = ((p0 >>> (24 &&& 31)) &&& 255) := g_3
      have g_8 : (upd f_2 5 ((p0 >>> (16 &&& 31)) &&& 255)) 5 = ((p0 >>> (16 &&& 31)) &&& 255) := rfl
      generalize (upd f_2 5 ((p0 >>> (16 &&& 31)) &&& 255)) = f_6 at hP hD g_7 g_8
      refine lv_aload_n hx hb dX12_four_23 rfl (lv_at hl 1 rfl) ?_
      refine lv_dup hx hb dX12_four_24 rfl ?_
      refine va_get (D := D) (ci := 12) (v := .int 5) (C := RX12) (T := TX12) (N := 89) hx hb hg iX12 hown hK hP 0 rfl rfl 1 (by decide) (hg (Cond.fieldLink RX12 178 "SlabWalkModel" "taped" "I") m1315) (fun _ h9 => h9) (fs_eq g_M_taped) dX12_four_25 ?_
      refine lv_iconst (v := 1) hx hb dX12_four_28 (by decide) ?_
      refine lv_iadd hx hb dX12_four_29 ?_
      refine lv_topi (fun y_9 ey_9 => ?_)
      obtain rfl : y_9 = 6 := ey_9.trans (by decide)
      refine va_put (D := D) (ci := 12) (v := .int 6) (ty := .int) (C := RX12) (T := TX12) (N := 89) hx hb hg iX12 tyX12 tyX12_ok nmX12 hown hK hP hD hS 0 rfl rfl 1 (by decide) (hg (Cond.fieldLink RX12 178 "SlabWalkModel" "taped" "I") m1315) (fun _ h9 => h9) rfl (by decide +kernel) rfl rfl (fs_lt (fs_eq g_M_taped)) dX12_four_30 (fun H locs hP hD hS => ?_)
      have hP : va_P D classes [(h0, .inr (12, ((M.set 1 (.int 5)).set 1 (.int 6)))), (tp, .inl (k.2.1, 1600, .inl f_6))] H := hP
      have hD : va_D A [(h0, .inr (12, ((M.set 1 (.int 5)).set 1 (.int 6)))), (tp, .inl (k.2.1, 1600, .inl f_6))] := hD
      refine lv_iinc (v := 8) (lv' := [(2, .int 8), (0, .ref h0), (1, .int p0)]) hx hb dX12_four_33 hl (k := 0) rfl (by decide) (by decide) rfl (fun ls hl => ?_)
      refine lv_goto (tgt := 3) hx hb dX12_four_36 (by decide) ?_
      refine lv_iload_n hx hb dX12_four_3 rfl (lv_at hl 0 rfl) ?_
      refine lv_if_lt (tgt := 39) hx hb dX12_four_4 (by decide) (fun c_10 => ?_) (fun c_10 => ?_)
      · exact absurd c_10 (by decide)
      · have c_10 : ¬ ((8 : Int32) < 0) := c_10
        refine lv_aload_n hx hb dX12_four_7 rfl (lv_at hl 1 rfl) ?_
        refine va_get (D := D) (ci := 12) (v := .ref tp) (C := RX12) (T := TX12) (N := 89) hx hb hg iX12 hown hK hP 0 rfl rfl 0 (by decide) (hg (Cond.fieldLink RX12 7 "SlabWalkModel" "tape" "[I") m1314) (fun _ h9 => h9) (fs_ne (fs_ne g_M_tape (by decide)) (by decide)) dX12_four_8 ?_
        refine lv_aload_n hx hb dX12_four_11 rfl (lv_at hl 1 rfl) ?_
        refine va_get (D := D) (ci := 12) (v := .int 6) (C := RX12) (T := TX12) (N := 89) hx hb hg iX12 hown hK hP 0 rfl rfl 1 (by decide) (hg (Cond.fieldLink RX12 178 "SlabWalkModel" "taped" "I") m1315) (fun _ h9 => h9) (fs_eq (fs_eq g_M_taped)) dX12_four_12 ?_
        refine lv_iload_n hx hb dX12_four_15 rfl (lv_at hl 2 rfl) ?_
        refine lv_iload_n hx hb dX12_four_16 rfl (lv_at hl 0 rfl) ?_
        refine lv_ishr hx hb dX12_four_17 ?_
        refine lv_sipush (v := 255) hx hb dX12_four_18 (by decide) ?_
        refine lv_iand hx hb dX12_four_21 ?_
        refine va_iast hx hb hK hP hD hS 1 1 rfl rfl (show ¬ ((6 : Int32) < 0 ∨ 1600 ≤ (6 : Int32).toNatClampNeg) from by decide +kernel) dX12_four_22 (fun H locs hP hD hS => ?_)
        have hP : va_P D classes [(h0, .inr (12, ((M.set 1 (.int 5)).set 1 (.int 6)))), (tp, .inl (k.2.1, 1600, .inl (upd f_6 6 ((p0 >>> (8 &&& 31)) &&& 255))))] H := hP
        have hD : va_D A [(h0, .inr (12, ((M.set 1 (.int 5)).set 1 (.int 6)))), (tp, .inl (k.2.1, 1600, .inl (upd f_6 6 ((p0 >>> (8 &&& 31)) &&& 255))))] := hD
        have g_12 : (upd f_6 6 ((p0 >>> (8 &&& 31)) &&& 255)) 4 = ((p0 >>> (24 &&& 31)) &&& 255) := g_7
        have g_13 : (upd f_6 6 ((p0 >>> (8 &&& 31)) &&& 255)) 5 = ((p0 >>> (16 &&& 31)) &&& 255) := g_8
        have g_14 : (upd f_6 6 ((p0 >>> (8 &&& 31)) &&& 255)) 6 = ((p0 >>> (8 &&& 31)) &&& 255) := rfl
        generalize (upd f_6 6 ((p0 >>> (8 &&& 31)) &&& 255)) = f_11 at hP hD g_12 g_13 g_14
        refine lv_aload_n hx hb dX12_four_23 rfl (lv_at hl 1 rfl) ?_
        refine lv_dup hx hb dX12_four_24 rfl ?_
        refine va_get (D := D) (ci := 12) (v := .int 6) (C := RX12) (T := TX12) (N := 89) hx hb hg iX12 hown hK hP 0 rfl rfl 1 (by decide) (hg (Cond.fieldLink RX12 178 "SlabWalkModel" "taped" "I") m1315) (fun _ h9 => h9) (fs_eq (fs_eq g_M_taped)) dX12_four_25 ?_
        refine lv_iconst (v := 1) hx hb dX12_four_28 (by decide) ?_
        refine lv_iadd hx hb dX12_four_29 ?_
        refine lv_topi (fun y_15 ey_15 => ?_)
        obtain rfl : y_15 = 7 := ey_15.trans (by decide)
        refine va_put (D := D) (ci := 12) (v := .int 7) (ty := .int) (C := RX12) (T := TX12) (N := 89) hx hb hg iX12 tyX12 tyX12_ok nmX12 hown hK hP hD hS 0 rfl rfl 1 (by decide) (hg (Cond.fieldLink RX12 178 "SlabWalkModel" "taped" "I") m1315) (fun _ h9 => h9) rfl (by decide +kernel) rfl rfl (fs_lt (fs_eq (fs_eq g_M_taped))) dX12_four_30 (fun H locs hP hD hS => ?_)
        have hP : va_P D classes [(h0, .inr (12, (((M.set 1 (.int 5)).set 1 (.int 6)).set 1 (.int 7)))), (tp, .inl (k.2.1, 1600, .inl f_11))] H := hP
        have hD : va_D A [(h0, .inr (12, (((M.set 1 (.int 5)).set 1 (.int 6)).set 1 (.int 7)))), (tp, .inl (k.2.1, 1600, .inl f_11))] := hD
        refine lv_iinc (v := 0) (lv' := [(2, .int 0), (0, .ref h0), (1, .int p0)]) hx hb dX12_four_33 hl (k := 0) rfl (by decide) (by decide) rfl (fun ls hl => ?_)
        refine lv_goto (tgt := 3) hx hb dX12_four_36 (by decide) ?_
        refine lv_iload_n hx hb dX12_four_3 rfl (lv_at hl 0 rfl) ?_
        refine lv_if_lt (tgt := 39) hx hb dX12_four_4 (by decide) (fun c_16 => ?_) (fun c_16 => ?_)
        · exact absurd c_16 (by decide)
        · have c_16 : ¬ ((0 : Int32) < 0) := c_16
          refine lv_aload_n hx hb dX12_four_7 rfl (lv_at hl 1 rfl) ?_
          refine va_get (D := D) (ci := 12) (v := .ref tp) (C := RX12) (T := TX12) (N := 89) hx hb hg iX12 hown hK hP 0 rfl rfl 0 (by decide) (hg (Cond.fieldLink RX12 7 "SlabWalkModel" "tape" "[I") m1314) (fun _ h9 => h9) (fs_ne (fs_ne (fs_ne g_M_tape (by decide)) (by decide)) (by decide)) dX12_four_8 ?_
          refine lv_aload_n hx hb dX12_four_11 rfl (lv_at hl 1 rfl) ?_
          refine va_get (D := D) (ci := 12) (v := .int 7) (C := RX12) (T := TX12) (N := 89) hx hb hg iX12 hown hK hP 0 rfl rfl 1 (by decide) (hg (Cond.fieldLink RX12 178 "SlabWalkModel" "taped" "I") m1315) (fun _ h9 => h9) (fs_eq (fs_eq (fs_eq g_M_taped))) dX12_four_12 ?_
          refine lv_iload_n hx hb dX12_four_15 rfl (lv_at hl 2 rfl) ?_
          refine lv_iload_n hx hb dX12_four_16 rfl (lv_at hl 0 rfl) ?_
          refine lv_ishr hx hb dX12_four_17 ?_
          refine lv_sipush (v := 255) hx hb dX12_four_18 (by decide) ?_
          refine lv_iand hx hb dX12_four_21 ?_
          refine va_iast hx hb hK hP hD hS 1 1 rfl rfl (show ¬ ((7 : Int32) < 0 ∨ 1600 ≤ (7 : Int32).toNatClampNeg) from by decide +kernel) dX12_four_22 (fun H locs hP hD hS => ?_)
          have hP : va_P D classes [(h0, .inr (12, (((M.set 1 (.int 5)).set 1 (.int 6)).set 1 (.int 7)))), (tp, .inl (k.2.1, 1600, .inl (upd f_11 7 ((p0 >>> (0 &&& 31)) &&& 255))))] H := hP
          have hD : va_D A [(h0, .inr (12, (((M.set 1 (.int 5)).set 1 (.int 6)).set 1 (.int 7)))), (tp, .inl (k.2.1, 1600, .inl (upd f_11 7 ((p0 >>> (0 &&& 31)) &&& 255))))] := hD
          have g_18 : (upd f_11 7 ((p0 >>> (0 &&& 31)) &&& 255)) 4 = ((p0 >>> (24 &&& 31)) &&& 255) := g_12
          have g_19 : (upd f_11 7 ((p0 >>> (0 &&& 31)) &&& 255)) 5 = ((p0 >>> (16 &&& 31)) &&& 255) := g_13
          have g_20 : (upd f_11 7 ((p0 >>> (0 &&& 31)) &&& 255)) 6 = ((p0 >>> (8 &&& 31)) &&& 255) := g_14
          have g_21 : (upd f_11 7 ((p0 >>> (0 &&& 31)) &&& 255)) 7 = ((p0 >>> (0 &&& 31)) &&& 255) := rfl
          generalize (upd f_11 7 ((p0 >>> (0 &&& 31)) &&& 255)) = f_17 at hP hD g_18 g_19 g_20 g_21
          refine lv_aload_n hx hb dX12_four_23 rfl (lv_at hl 1 rfl) ?_
          refine lv_dup hx hb dX12_four_24 rfl ?_
          refine va_get (D := D) (ci := 12) (v := .int 7) (C := RX12) (T := TX12) (N := 89) hx hb hg iX12 hown hK hP 0 rfl rfl 1 (by decide) (hg (Cond.fieldLink RX12 178 "SlabWalkModel" "taped" "I") m1315) (fun _ h9 => h9) (fs_eq (fs_eq (fs_eq g_M_taped))) dX12_four_25 ?_
          refine lv_iconst (v := 1) hx hb dX12_four_28 (by decide) ?_
          refine lv_iadd hx hb dX12_four_29 ?_
          refine lv_topi (fun y_22 ey_22 => ?_)
          obtain rfl : y_22 = 8 := ey_22.trans (by decide)
          refine va_put (D := D) (ci := 12) (v := .int 8) (ty := .int) (C := RX12) (T := TX12) (N := 89) hx hb hg iX12 tyX12 tyX12_ok nmX12 hown hK hP hD hS 0 rfl rfl 1 (by decide) (hg (Cond.fieldLink RX12 178 "SlabWalkModel" "taped" "I") m1315) (fun _ h9 => h9) rfl (by decide +kernel) rfl rfl (fs_lt (fs_eq (fs_eq (fs_eq g_M_taped)))) dX12_four_30 (fun H locs hP hD hS => ?_)
          have hP : va_P D classes [(h0, .inr (12, ((((M.set 1 (.int 5)).set 1 (.int 6)).set 1 (.int 7)).set 1 (.int 8)))), (tp, .inl (k.2.1, 1600, .inl f_17))] H := hP
          have hD : va_D A [(h0, .inr (12, ((((M.set 1 (.int 5)).set 1 (.int 6)).set 1 (.int 7)).set 1 (.int 8)))), (tp, .inl (k.2.1, 1600, .inl f_17))] := hD
          refine lv_iinc (v := (-8)) (lv' := [(2, .int (-8)), (0, .ref h0), (1, .int p0)]) hx hb dX12_four_33 hl (k := 0) rfl (by decide) (by decide) rfl (fun ls hl => ?_)
          refine lv_goto (tgt := 3) hx hb dX12_four_36 (by decide) ?_
          refine lv_iload_n hx hb dX12_four_3 rfl (lv_at hl 0 rfl) ?_
          refine lv_if_lt (tgt := 39) hx hb dX12_four_4 (by decide) (fun c_23 => ?_) (fun c_23 => ?_)
          · have c_23 : ((-8) : Int32) < 0 := c_23
            have hP9 := hP.sub (ws' := [(h0, .inr (12, ((((M.set 1 (.int 5)).set 1 (.int 6)).set 1 (.int 7)).set 1 (.int 8)))), (tp, .inl (k.2.1, 1600, .inl f_17))]) [0, 1] rfl
            have hD9 := hD.sub (ws' := [(h0, .inr (12, ((((M.set 1 (.int 5)).set 1 (.int 6)).set 1 (.int 7)).set 1 (.int 8)))), (tp, .inl (k.2.1, 1600, .inl f_17))]) [0, 1] (by decide) rfl
            exact W.vret hx hb hr (fun t ht hW => ⟨⟨(), rfl, trivial, ⟨((((M.set 1 (.int 5)).set 1 (.int 6)).set 1 (.int 7)).set 1 (.int 8)), f_17, (fs_ne (fs_ne (fs_ne (fs_ne g_M_tape (by decide)) (by decide)) (by decide)) (by decide)), (fs_eq (fs_eq (fs_eq (fs_eq g_M_taped)))), cB_of ht hP9 hD9⟩⟩, hS.F ht⟩) hS.2.2 dX12_four_39
          · exact absurd (by decide) c_23

set_option maxHeartbeats 4000000 in
set_option maxRecDepth 100000 in
theorem c_four8 (l : Launch) (D : va_G) (k : ClassId × ClassId × ClassId × ClassId) (sz : Nat) (h0 tp : Nat) (M : List Value) (m1 : Nat → Int32) (p0 : Int32) (g_M_tape : M[0]? = some (.ref tp)) (g_M_taped : M[1]? = some (.int 8)) : Met l yX12_four (WS yX12_four cX12_four 3 none) ({ frames := 0, cells := 0, slots := 0, locals := 0 }) (va_Pc [.ref h0, .int p0] (cP D k [(h0, .inr (12, M)), (tp, .inl (k.2.1, 1600, .inl m1))] sz)) (va_Qv (fun _ : Unit => True) (fun (_ : Unit) t => ∃ (M2 : List Value), ∃ (g : Nat → Int32), M2[0]? = some (.ref tp) ∧ M2[1]? = some (.int 12) ∧ cB D (va_A [(h0, .inr (12, M)), (tp, .inl (k.2.1, 1600, .inl m1))] sz) [(h0, .inr (12, M2)), (tp, .inl (k.2.1, 1600, .inl g))] t) (va_A [(h0, .inr (12, M)), (tp, .inl (k.2.1, 1600, .inl m1))] sz)) 0 0 (va_A [(h0, .inr (12, M)), (tp, .inl (k.2.1, 1600, .inl m1))] sz) := by
  refine Met.ofW (cc := cX12_four) (maxL := 3) (ret := none) (by decide) rfl ?_
  intro p e s m args below meth c s₁ B hml hv
  obtain ⟨rfl, hsz, hP, hKX, hD0⟩ := hv
  have hK := hKX.1
  have hx := B.exec
  have hb := B.bytes
  have hr := B.returns
  have hts := atoms_spec (ws := WS yX12_four cX12_four 3 none) B.pre
  have hgd : ∀ w ∈ gd, w ∈ WS yX12_four cX12_four 3 none := fun w h => List.mem_cons_of_mem _ h
  have hg : ∀ w ∈ gd, w.before _ s = true := fun w h => hts w (hgd w h)
  have hown : s.vm.findClass RX12 = some m.cls := findClass_of_methodNamed B.named
  have hlocks := B.notSynchronized
  subst hsz
  have hD := hD0.self (sz := s.heap.size)
  generalize hAe : va_A [(h0, .inr (12, M)), (tp, .inl (k.2.1, 1600, .inl m1))] s.heap.size = A at hD ⊢
  have hA : ∀ q : Nat, s.heap.size ≤ q → A q := fun q h => by rw [← hAe]; exact Or.inr h
  have hS : va_S A s.heap s.heap [] := va_S.rf
  have hP : va_P D classes [(h0, .inr (12, M)), (tp, .inl (k.2.1, 1600, .inl m1))] s.heap := hP
  have hl := lv_entry ([.ref h0, .int p0]) (n := 3) (Nat.le_of_ble_eq_true rfl)
  rw [lg_entry_eq]
  generalize (lg_sl ([.ref h0, .int p0]) ++ List.replicate (3 - (lg_sl ([.ref h0, .int p0])).length) Slot.unset).toArray = ls at hl ⊢
  have hl : lv_has ls 3 [(0, .ref h0), (1, .int p0)] := hl
  refine lv_bipush (v := 24) hx hb dX12_four_0 (by decide) ?_
  refine lv_istore_n (lv' := [(2, .int 24), (0, .ref h0), (1, .int p0)]) hx hb dX12_four_2 rfl hl (by decide) rfl (fun ls hl => ?_)
  refine lv_iload_n hx hb dX12_four_3 rfl (lv_at hl 0 rfl) ?_
  refine lv_if_lt (tgt := 39) hx hb dX12_four_4 (by decide) (fun c_1 => ?_) (fun c_1 => ?_)
  · exact absurd c_1 (by decide)
  · have c_1 : ¬ ((24 : Int32) < 0) := c_1
    refine lv_aload_n hx hb dX12_four_7 rfl (lv_at hl 1 rfl) ?_
    refine va_get (D := D) (ci := 12) (v := .ref tp) (C := RX12) (T := TX12) (N := 89) hx hb hg iX12 hown hK hP 0 rfl rfl 0 (by decide) (hg (Cond.fieldLink RX12 7 "SlabWalkModel" "tape" "[I") m1314) (fun _ h9 => h9) g_M_tape dX12_four_8 ?_
    refine lv_aload_n hx hb dX12_four_11 rfl (lv_at hl 1 rfl) ?_
    refine va_get (D := D) (ci := 12) (v := .int 8) (C := RX12) (T := TX12) (N := 89) hx hb hg iX12 hown hK hP 0 rfl rfl 1 (by decide) (hg (Cond.fieldLink RX12 178 "SlabWalkModel" "taped" "I") m1315) (fun _ h9 => h9) g_M_taped dX12_four_12 ?_
    refine lv_iload_n hx hb dX12_four_15 rfl (lv_at hl 2 rfl) ?_
    refine lv_iload_n hx hb dX12_four_16 rfl (lv_at hl 0 rfl) ?_
    refine lv_ishr hx hb dX12_four_17 ?_
    refine lv_sipush (v := 255) hx hb dX12_four_18 (by decide) ?_
    refine lv_iand hx hb dX12_four_21 ?_
    refine va_iast hx hb hK hP hD hS 1 1 rfl rfl (show ¬ ((8 : Int32) < 0 ∨ 1600 ≤ (8 : Int32).toNatClampNeg) from by decide +kernel) dX12_four_22 (fun H locs hP hD hS => ?_)
    have hP : va_P D classes [(h0, .inr (12, M)), (tp, .inl (k.2.1, 1600, .inl (upd m1 8 ((p0 >>> (24 &&& 31)) &&& 255))))] H := hP
    have hD : va_D A [(h0, .inr (12, M)), (tp, .inl (k.2.1, 1600, .inl (upd m1 8 ((p0 >>> (24 &&& 31)) &&& 255))))] := hD
    have g_3 : (upd m1 8 ((p0 >>> (24 &&& 31)) &&& 255)) 8 = ((p0 >>> (24 &&& 31)) &&& 255) := rfl
    generalize (upd m1 8 ((p0 >>> (24 &&& 31)) &&& 255)) = f_2 at hP hD g_3
    refine lv_aload_n hx hb dX12_four_23 rfl (lv_at hl 1 rfl) ?_
    refine lv_dup hx hb dX12_four_24 rfl ?_
    refine va_get (D := D) (ci := 12) (v := .int 8) (C := RX12) (T := TX12) (N := 89) hx hb hg iX12 hown hK hP 0 rfl rfl 1 (by decide) (hg (Cond.fieldLink RX12 178 "SlabWalkModel" "taped" "I") m1315) (fun _ h9 => h9) g_M_taped dX12_four_25 ?_
    refine lv_iconst (v := 1) hx hb dX12_four_28 (by decide) ?_
    refine lv_iadd hx hb dX12_four_29 ?_
    refine lv_topi (fun y_4 ey_4 => ?_)
    obtain rfl : y_4 = 9 := ey_4.trans (by decide)
    refine va_put (D := D) (ci := 12) (v := .int 9) (ty := .int) (C := RX12) (T := TX12) (N := 89) hx hb hg iX12 tyX12 tyX12_ok nmX12 hown hK hP hD hS 0 rfl rfl 1 (by decide) (hg (Cond.fieldLink RX12 178 "SlabWalkModel" "taped" "I") m1315) (fun _ h9 => h9) rfl (by decide +kernel) rfl rfl (fs_lt g_M_taped) dX12_four_30 (fun H locs hP hD hS => ?_)
    have hP : va_P D classes [(h0, .inr (12, (M.set 1 (.int 9)))), (tp, .inl (k.2.1, 1600, .inl f_2))] H := hP
    have hD : va_D A [(h0, .inr (12, (M.set 1 (.int 9)))), (tp, .inl (k.2.1, 1600, .inl f_2))] := hD
    refine lv_iinc (v := 16) (lv' := [(2, .int 16), (0, .ref h0), (1, .int p0)]) hx hb dX12_four_33 hl (k := 0) rfl (by decide) (by decide) rfl (fun ls hl => ?_)
    refine lv_goto (tgt := 3) hx hb dX12_four_36 (by decide) ?_
    refine lv_iload_n hx hb dX12_four_3 rfl (lv_at hl 0 rfl) ?_
    refine lv_if_lt (tgt := 39) hx hb dX12_four_4 (by decide) (fun c_5 => ?_) (fun c_5 => ?_)
    · exact absurd c_5 (by decide)
    · have c_5 : ¬ ((16 : Int32) < 0) := c_5
      refine lv_aload_n hx hb dX12_four_7 rfl (lv_at hl 1 rfl) ?_
      refine va_get (D := D) (ci := 12) (v := .ref tp) (C := RX12) (T := TX12) (N := 89) hx hb hg iX12 hown hK hP 0 rfl rfl 0 (by decide) (hg (Cond.fieldLink RX12 7 "SlabWalkModel" "tape" "[I") m1314) (fun _ h9 => h9) (fs_ne g_M_tape (by decide)) dX12_four_8 ?_
      refine lv_aload_n hx hb dX12_four_11 rfl (lv_at hl 1 rfl) ?_
      refine va_get (D := D) (ci := 12) (v := .int 9) (C := RX12) (T := TX12) (N := 89) hx hb hg iX12 hown hK hP 0 rfl rfl 1 (by decide) (hg (Cond.fieldLink RX12 178 "SlabWalkModel" "taped" "I") m1315) (fun _ h9 => h9) (fs_eq g_M_taped) dX12_four_12 ?_
      refine lv_iload_n hx hb dX12_four_15 rfl (lv_at hl 2 rfl) ?_
      refine lv_iload_n hx hb dX12_four_16 rfl (lv_at hl 0 rfl) ?_
      refine lv_ishr hx hb dX12_four_17 ?_
      refine lv_sipush (v := 255) hx hb dX12_four_18 (by decide) ?_
      refine lv_iand hx hb dX12_four_21 ?_
      refine va_iast hx hb hK hP hD hS 1 1 rfl rfl (show ¬ ((9 : Int32) < 0 ∨ 1600 ≤ (9 : Int32).toNatClampNeg) from by decide +kernel) dX12_four_22 (fun H locs hP hD hS => ?_)
      have hP : va_P D classes [(h0, .inr (12, (M.set 1 (.int 9)))), (tp, .inl (k.2.1, 1600, .inl (upd f_2 9 ((p0 >>> (16 &&& 31)) &&& 255))))] H := hP
      have hD : va_D A [(h0, .inr (12, (M.set 1 (.int 9)))), (tp, .inl (k.2.1, 1600, .inl (upd f_2 9 ((p0 >>> (16 &&& 31)) &&& 255))))] := hD
      have g_7 : (upd f_2 9 ((p0 >>> (16 &&& 31)) &&& 255)) 8 = ((p0 >>> (24 &&& 31)) &&& 255) := g_3
      have g_8 : (upd f_2 9 ((p0 >>> (16 &&& 31)) &&& 255)) 9 = ((p0 >>> (16 &&& 31)) &&& 255) := rfl
      generalize (upd f_2 9 ((p0 >>> (16 &&& 31)) &&& 255)) = f_6 at hP hD g_7 g_8
      refine lv_aload_n hx hb dX12_four_23 rfl (lv_at hl 1 rfl) ?_
      refine lv_dup hx hb dX12_four_24 rfl ?_
      refine va_get (D := D) (ci := 12) (v := .int 9) (C := RX12) (T := TX12) (N := 89) hx hb hg iX12 hown hK hP 0 rfl rfl 1 (by decide) (hg (Cond.fieldLink RX12 178 "SlabWalkModel" "taped" "I") m1315) (fun _ h9 => h9) (fs_eq g_M_taped) dX12_four_25 ?_
      refine lv_iconst (v := 1) hx hb dX12_four_28 (by decide) ?_
      refine lv_iadd hx hb dX12_four_29 ?_
      refine lv_topi (fun y_9 ey_9 => ?_)
      obtain rfl : y_9 = 10 := ey_9.trans (by decide)
      refine va_put (D := D) (ci := 12) (v := .int 10) (ty := .int) (C := RX12) (T := TX12) (N := 89) hx hb hg iX12 tyX12 tyX12_ok nmX12 hown hK hP hD hS 0 rfl rfl 1 (by decide) (hg (Cond.fieldLink RX12 178 "SlabWalkModel" "taped" "I") m1315) (fun _ h9 => h9) rfl (by decide +kernel) rfl rfl (fs_lt (fs_eq g_M_taped)) dX12_four_30 (fun H locs hP hD hS => ?_)
      have hP : va_P D classes [(h0, .inr (12, ((M.set 1 (.int 9)).set 1 (.int 10)))), (tp, .inl (k.2.1, 1600, .inl f_6))] H := hP
      have hD : va_D A [(h0, .inr (12, ((M.set 1 (.int 9)).set 1 (.int 10)))), (tp, .inl (k.2.1, 1600, .inl f_6))] := hD
      refine lv_iinc (v := 8) (lv' := [(2, .int 8), (0, .ref h0), (1, .int p0)]) hx hb dX12_four_33 hl (k := 0) rfl (by decide) (by decide) rfl (fun ls hl => ?_)
      refine lv_goto (tgt := 3) hx hb dX12_four_36 (by decide) ?_
      refine lv_iload_n hx hb dX12_four_3 rfl (lv_at hl 0 rfl) ?_
      refine lv_if_lt (tgt := 39) hx hb dX12_four_4 (by decide) (fun c_10 => ?_) (fun c_10 => ?_)
      · exact absurd c_10 (by decide)
      · have c_10 : ¬ ((8 : Int32) < 0) := c_10
        refine lv_aload_n hx hb dX12_four_7 rfl (lv_at hl 1 rfl) ?_
        refine va_get (D := D) (ci := 12) (v := .ref tp) (C := RX12) (T := TX12) (N := 89) hx hb hg iX12 hown hK hP 0 rfl rfl 0 (by decide) (hg (Cond.fieldLink RX12 7 "SlabWalkModel" "tape" "[I") m1314) (fun _ h9 => h9) (fs_ne (fs_ne g_M_tape (by decide)) (by decide)) dX12_four_8 ?_
        refine lv_aload_n hx hb dX12_four_11 rfl (lv_at hl 1 rfl) ?_
        refine va_get (D := D) (ci := 12) (v := .int 10) (C := RX12) (T := TX12) (N := 89) hx hb hg iX12 hown hK hP 0 rfl rfl 1 (by decide) (hg (Cond.fieldLink RX12 178 "SlabWalkModel" "taped" "I") m1315) (fun _ h9 => h9) (fs_eq (fs_eq g_M_taped)) dX12_four_12 ?_
        refine lv_iload_n hx hb dX12_four_15 rfl (lv_at hl 2 rfl) ?_
        refine lv_iload_n hx hb dX12_four_16 rfl (lv_at hl 0 rfl) ?_
        refine lv_ishr hx hb dX12_four_17 ?_
        refine lv_sipush (v := 255) hx hb dX12_four_18 (by decide) ?_
        refine lv_iand hx hb dX12_four_21 ?_
        refine va_iast hx hb hK hP hD hS 1 1 rfl rfl (show ¬ ((10 : Int32) < 0 ∨ 1600 ≤ (10 : Int32).toNatClampNeg) from by decide +kernel) dX12_four_22 (fun H locs hP hD hS => ?_)
        have hP : va_P D classes [(h0, .inr (12, ((M.set 1 (.int 9)).set 1 (.int 10)))), (tp, .inl (k.2.1, 1600, .inl (upd f_6 10 ((p0 >>> (8 &&& 31)) &&& 255))))] H := hP
        have hD : va_D A [(h0, .inr (12, ((M.set 1 (.int 9)).set 1 (.int 10)))), (tp, .inl (k.2.1, 1600, .inl (upd f_6 10 ((p0 >>> (8 &&& 31)) &&& 255))))] := hD
        have g_12 : (upd f_6 10 ((p0 >>> (8 &&& 31)) &&& 255)) 8 = ((p0 >>> (24 &&& 31)) &&& 255) := g_7
        have g_13 : (upd f_6 10 ((p0 >>> (8 &&& 31)) &&& 255)) 9 = ((p0 >>> (16 &&& 31)) &&& 255) := g_8
        have g_14 : (upd f_6 10 ((p0 >>> (8 &&& 31)) &&& 255)) 10 = ((p0 >>> (8 &&& 31)) &&& 255) := rfl
        generalize (upd f_6 10 ((p0 >>> (8 &&& 31)) &&& 255)) = f_11 at hP hD g_12 g_13 g_14
        refine lv_aload_n hx hb dX12_four_23 rfl (lv_at hl 1 rfl) ?_
        refine lv_dup hx hb dX12_four_24 rfl ?_
        refine va_get (D := D) (ci := 12) (v := .int 10) (C := RX12) (T := TX12) (N := 89) hx hb hg iX12 hown hK hP 0 rfl rfl 1 (by decide) (hg (Cond.fieldLink RX12 178 "SlabWalkModel" "taped" "I") m1315) (fun _ h9 => h9) (fs_eq (fs_eq g_M_taped)) dX12_four_25 ?_
        refine lv_iconst (v := 1) hx hb dX12_four_28 (by decide) ?_
        refine lv_iadd hx hb dX12_four_29 ?_
        refine lv_topi (fun y_15 ey_15 => ?_)
        obtain rfl : y_15 = 11 := ey_15.trans (by decide)
        refine va_put (D := D) (ci := 12) (v := .int 11) (ty := .int) (C := RX12) (T := TX12) (N := 89) hx hb hg iX12 tyX12 tyX12_ok nmX12 hown hK hP hD hS 0 rfl rfl 1 (by decide) (hg (Cond.fieldLink RX12 178 "SlabWalkModel" "taped" "I") m1315) (fun _ h9 => h9) rfl (by decide +kernel) rfl rfl (fs_lt (fs_eq (fs_eq g_M_taped))) dX12_four_30 (fun H locs hP hD hS => ?_)
        have hP : va_P D classes [(h0, .inr (12, (((M.set 1 (.int 9)).set 1 (.int 10)).set 1 (.int 11)))), (tp, .inl (k.2.1, 1600, .inl f_11))] H := hP
        have hD : va_D A [(h0, .inr (12, (((M.set 1 (.int 9)).set 1 (.int 10)).set 1 (.int 11)))), (tp, .inl (k.2.1, 1600, .inl f_11))] := hD
        refine lv_iinc (v := 0) (lv' := [(2, .int 0), (0, .ref h0), (1, .int p0)]) hx hb dX12_four_33 hl (k := 0) rfl (by decide) (by decide) rfl (fun ls hl => ?_)
        refine lv_goto (tgt := 3) hx hb dX12_four_36 (by decide) ?_
        refine lv_iload_n hx hb dX12_four_3 rfl (lv_at hl 0 rfl) ?_
        refine lv_if_lt (tgt := 39) hx hb dX12_four_4 (by decide) (fun c_16 => ?_) (fun c_16 => ?_)
        · exact absurd c_16 (by decide)
        · have c_16 : ¬ ((0 : Int32) < 0) := c_16
          refine lv_aload_n hx hb dX12_four_7 rfl (lv_at hl 1 rfl) ?_
          refine va_get (D := D) (ci := 12) (v := .ref tp) (C := RX12) (T := TX12) (N := 89) hx hb hg iX12 hown hK hP 0 rfl rfl 0 (by decide) (hg (Cond.fieldLink RX12 7 "SlabWalkModel" "tape" "[I") m1314) (fun _ h9 => h9) (fs_ne (fs_ne (fs_ne g_M_tape (by decide)) (by decide)) (by decide)) dX12_four_8 ?_
          refine lv_aload_n hx hb dX12_four_11 rfl (lv_at hl 1 rfl) ?_
          refine va_get (D := D) (ci := 12) (v := .int 11) (C := RX12) (T := TX12) (N := 89) hx hb hg iX12 hown hK hP 0 rfl rfl 1 (by decide) (hg (Cond.fieldLink RX12 178 "SlabWalkModel" "taped" "I") m1315) (fun _ h9 => h9) (fs_eq (fs_eq (fs_eq g_M_taped))) dX12_four_12 ?_
          refine lv_iload_n hx hb dX12_four_15 rfl (lv_at hl 2 rfl) ?_
          refine lv_iload_n hx hb dX12_four_16 rfl (lv_at hl 0 rfl) ?_
          refine lv_ishr hx hb dX12_four_17 ?_
          refine lv_sipush (v := 255) hx hb dX12_four_18 (by decide) ?_
          refine lv_iand hx hb dX12_four_21 ?_
          refine va_iast hx hb hK hP hD hS 1 1 rfl rfl (show ¬ ((11 : Int32) < 0 ∨ 1600 ≤ (11 : Int32).toNatClampNeg) from by decide +kernel) dX12_four_22 (fun H locs hP hD hS => ?_)
          have hP : va_P D classes [(h0, .inr (12, (((M.set 1 (.int 9)).set 1 (.int 10)).set 1 (.int 11)))), (tp, .inl (k.2.1, 1600, .inl (upd f_11 11 ((p0 >>> (0 &&& 31)) &&& 255))))] H := hP
          have hD : va_D A [(h0, .inr (12, (((M.set 1 (.int 9)).set 1 (.int 10)).set 1 (.int 11)))), (tp, .inl (k.2.1, 1600, .inl (upd f_11 11 ((p0 >>> (0 &&& 31)) &&& 255))))] := hD
          have g_18 : (upd f_11 11 ((p0 >>> (0 &&& 31)) &&& 255)) 8 = ((p0 >>> (24 &&& 31)) &&& 255) := g_12
          have g_19 : (upd f_11 11 ((p0 >>> (0 &&& 31)) &&& 255)) 9 = ((p0 >>> (16 &&& 31)) &&& 255) := g_13
          have g_20 : (upd f_11 11 ((p0 >>> (0 &&& 31)) &&& 255)) 10 = ((p0 >>> (8 &&& 31)) &&& 255) := g_14
          have g_21 : (upd f_11 11 ((p0 >>> (0 &&& 31)) &&& 255)) 11 = ((p0 >>> (0 &&& 31)) &&& 255) := rfl
          generalize (upd f_11 11 ((p0 >>> (0 &&& 31)) &&& 255)) = f_17 at hP hD g_18 g_19 g_20 g_21
          refine lv_aload_n hx hb dX12_four_23 rfl (lv_at hl 1 rfl) ?_
          refine lv_dup hx hb dX12_four_24 rfl ?_
          refine va_get (D := D) (ci := 12) (v := .int 11) (C := RX12) (T := TX12) (N := 89) hx hb hg iX12 hown hK hP 0 rfl rfl 1 (by decide) (hg (Cond.fieldLink RX12 178 "SlabWalkModel" "taped" "I") m1315) (fun _ h9 => h9) (fs_eq (fs_eq (fs_eq g_M_taped))) dX12_four_25 ?_
          refine lv_iconst (v := 1) hx hb dX12_four_28 (by decide) ?_
          refine lv_iadd hx hb dX12_four_29 ?_
          refine lv_topi (fun y_22 ey_22 => ?_)
          obtain rfl : y_22 = 12 := ey_22.trans (by decide)
          refine va_put (D := D) (ci := 12) (v := .int 12) (ty := .int) (C := RX12) (T := TX12) (N := 89) hx hb hg iX12 tyX12 tyX12_ok nmX12 hown hK hP hD hS 0 rfl rfl 1 (by decide) (hg (Cond.fieldLink RX12 178 "SlabWalkModel" "taped" "I") m1315) (fun _ h9 => h9) rfl (by decide +kernel) rfl rfl (fs_lt (fs_eq (fs_eq (fs_eq g_M_taped)))) dX12_four_30 (fun H locs hP hD hS => ?_)
          have hP : va_P D classes [(h0, .inr (12, ((((M.set 1 (.int 9)).set 1 (.int 10)).set 1 (.int 11)).set 1 (.int 12)))), (tp, .inl (k.2.1, 1600, .inl f_17))] H := hP
          have hD : va_D A [(h0, .inr (12, ((((M.set 1 (.int 9)).set 1 (.int 10)).set 1 (.int 11)).set 1 (.int 12)))), (tp, .inl (k.2.1, 1600, .inl f_17))] := hD
          refine lv_iinc (v := (-8)) (lv' := [(2, .int (-8)), (0, .ref h0), (1, .int p0)]) hx hb dX12_four_33 hl (k := 0) rfl (by decide) (by decide) rfl (fun ls hl => ?_)
          refine lv_goto (tgt := 3) hx hb dX12_four_36 (by decide) ?_
          refine lv_iload_n hx hb dX12_four_3 rfl (lv_at hl 0 rfl) ?_
          refine lv_if_lt (tgt := 39) hx hb dX12_four_4 (by decide) (fun c_23 => ?_) (fun c_23 => ?_)
          · have c_23 : ((-8) : Int32) < 0 := c_23
            have hP9 := hP.sub (ws' := [(h0, .inr (12, ((((M.set 1 (.int 9)).set 1 (.int 10)).set 1 (.int 11)).set 1 (.int 12)))), (tp, .inl (k.2.1, 1600, .inl f_17))]) [0, 1] rfl
            have hD9 := hD.sub (ws' := [(h0, .inr (12, ((((M.set 1 (.int 9)).set 1 (.int 10)).set 1 (.int 11)).set 1 (.int 12)))), (tp, .inl (k.2.1, 1600, .inl f_17))]) [0, 1] (by decide) rfl
            exact W.vret hx hb hr (fun t ht hW => ⟨⟨(), rfl, trivial, ⟨((((M.set 1 (.int 9)).set 1 (.int 10)).set 1 (.int 11)).set 1 (.int 12)), f_17, (fs_ne (fs_ne (fs_ne (fs_ne g_M_tape (by decide)) (by decide)) (by decide)) (by decide)), (fs_eq (fs_eq (fs_eq (fs_eq g_M_taped)))), cB_of ht hP9 hD9⟩⟩, hS.F ht⟩) hS.2.2 dX12_four_39
          · exact absurd (by decide) c_23

set_option maxHeartbeats 4000000 in
set_option maxRecDepth 100000 in
theorem c_four12 (l : Launch) (D : va_G) (k : ClassId × ClassId × ClassId × ClassId) (sz : Nat) (h0 tp : Nat) (M : List Value) (m1 : Nat → Int32) (p0 : Int32) (g_M_tape : M[0]? = some (.ref tp)) (g_M_taped : M[1]? = some (.int 12)) : Met l yX12_four (WS yX12_four cX12_four 3 none) ({ frames := 0, cells := 0, slots := 0, locals := 0 }) (va_Pc [.ref h0, .int p0] (cP D k [(h0, .inr (12, M)), (tp, .inl (k.2.1, 1600, .inl m1))] sz)) (va_Qv (fun _ : Unit => True) (fun (_ : Unit) t => ∃ (M2 : List Value), ∃ (g : Nat → Int32), M2[0]? = some (.ref tp) ∧ M2[1]? = some (.int 16) ∧ cB D (va_A [(h0, .inr (12, M)), (tp, .inl (k.2.1, 1600, .inl m1))] sz) [(h0, .inr (12, M2)), (tp, .inl (k.2.1, 1600, .inl g))] t) (va_A [(h0, .inr (12, M)), (tp, .inl (k.2.1, 1600, .inl m1))] sz)) 0 0 (va_A [(h0, .inr (12, M)), (tp, .inl (k.2.1, 1600, .inl m1))] sz) := by
  refine Met.ofW (cc := cX12_four) (maxL := 3) (ret := none) (by decide) rfl ?_
  intro p e s m args below meth c s₁ B hml hv
  obtain ⟨rfl, hsz, hP, hKX, hD0⟩ := hv
  have hK := hKX.1
  have hx := B.exec
  have hb := B.bytes
  have hr := B.returns
  have hts := atoms_spec (ws := WS yX12_four cX12_four 3 none) B.pre
  have hgd : ∀ w ∈ gd, w ∈ WS yX12_four cX12_four 3 none := fun w h => List.mem_cons_of_mem _ h
  have hg : ∀ w ∈ gd, w.before _ s = true := fun w h => hts w (hgd w h)
  have hown : s.vm.findClass RX12 = some m.cls := findClass_of_methodNamed B.named
  have hlocks := B.notSynchronized
  subst hsz
  have hD := hD0.self (sz := s.heap.size)
  generalize hAe : va_A [(h0, .inr (12, M)), (tp, .inl (k.2.1, 1600, .inl m1))] s.heap.size = A at hD ⊢
  have hA : ∀ q : Nat, s.heap.size ≤ q → A q := fun q h => by rw [← hAe]; exact Or.inr h
  have hS : va_S A s.heap s.heap [] := va_S.rf
  have hP : va_P D classes [(h0, .inr (12, M)), (tp, .inl (k.2.1, 1600, .inl m1))] s.heap := hP
  have hl := lv_entry ([.ref h0, .int p0]) (n := 3) (Nat.le_of_ble_eq_true rfl)
  rw [lg_entry_eq]
  generalize (lg_sl ([.ref h0, .int p0]) ++ List.replicate (3 - (lg_sl ([.ref h0, .int p0])).length) Slot.unset).toArray = ls at hl ⊢
  have hl : lv_has ls 3 [(0, .ref h0), (1, .int p0)] := hl
  refine lv_bipush (v := 24) hx hb dX12_four_0 (by decide) ?_
  refine lv_istore_n (lv' := [(2, .int 24), (0, .ref h0), (1, .int p0)]) hx hb dX12_four_2 rfl hl (by decide) rfl (fun ls hl => ?_)
  refine lv_iload_n hx hb dX12_four_3 rfl (lv_at hl 0 rfl) ?_
  refine lv_if_lt (tgt := 39) hx hb dX12_four_4 (by decide) (fun c_1 => ?_) (fun c_1 => ?_)
  · exact absurd c_1 (by decide)
  · have c_1 : ¬ ((24 : Int32) < 0) := c_1
    refine lv_aload_n hx hb dX12_four_7 rfl (lv_at hl 1 rfl) ?_
    refine va_get (D := D) (ci := 12) (v := .ref tp) (C := RX12) (T := TX12) (N := 89) hx hb hg iX12 hown hK hP 0 rfl rfl 0 (by decide) (hg (Cond.fieldLink RX12 7 "SlabWalkModel" "tape" "[I") m1314) (fun _ h9 => h9) g_M_tape dX12_four_8 ?_
    refine lv_aload_n hx hb dX12_four_11 rfl (lv_at hl 1 rfl) ?_
    refine va_get (D := D) (ci := 12) (v := .int 12) (C := RX12) (T := TX12) (N := 89) hx hb hg iX12 hown hK hP 0 rfl rfl 1 (by decide) (hg (Cond.fieldLink RX12 178 "SlabWalkModel" "taped" "I") m1315) (fun _ h9 => h9) g_M_taped dX12_four_12 ?_
    refine lv_iload_n hx hb dX12_four_15 rfl (lv_at hl 2 rfl) ?_
    refine lv_iload_n hx hb dX12_four_16 rfl (lv_at hl 0 rfl) ?_
    refine lv_ishr hx hb dX12_four_17 ?_
    refine lv_sipush (v := 255) hx hb dX12_four_18 (by decide) ?_
    refine lv_iand hx hb dX12_four_21 ?_
    refine va_iast hx hb hK hP hD hS 1 1 rfl rfl (show ¬ ((12 : Int32) < 0 ∨ 1600 ≤ (12 : Int32).toNatClampNeg) from by decide +kernel) dX12_four_22 (fun H locs hP hD hS => ?_)
    have hP : va_P D classes [(h0, .inr (12, M)), (tp, .inl (k.2.1, 1600, .inl (upd m1 12 ((p0 >>> (24 &&& 31)) &&& 255))))] H := hP
    have hD : va_D A [(h0, .inr (12, M)), (tp, .inl (k.2.1, 1600, .inl (upd m1 12 ((p0 >>> (24 &&& 31)) &&& 255))))] := hD
    have g_3 : (upd m1 12 ((p0 >>> (24 &&& 31)) &&& 255)) 12 = ((p0 >>> (24 &&& 31)) &&& 255) := rfl
    generalize (upd m1 12 ((p0 >>> (24 &&& 31)) &&& 255)) = f_2 at hP hD g_3
    refine lv_aload_n hx hb dX12_four_23 rfl (lv_at hl 1 rfl) ?_
    refine lv_dup hx hb dX12_four_24 rfl ?_
    refine va_get (D := D) (ci := 12) (v := .int 12) (C := RX12) (T := TX12) (N := 89) hx hb hg iX12 hown hK hP 0 rfl rfl 1 (by decide) (hg (Cond.fieldLink RX12 178 "SlabWalkModel" "taped" "I") m1315) (fun _ h9 => h9) g_M_taped dX12_four_25 ?_
    refine lv_iconst (v := 1) hx hb dX12_four_28 (by decide) ?_
    refine lv_iadd hx hb dX12_four_29 ?_
    refine lv_topi (fun y_4 ey_4 => ?_)
    obtain rfl : y_4 = 13 := ey_4.trans (by decide)
    refine va_put (D := D) (ci := 12) (v := .int 13) (ty := .int) (C := RX12) (T := TX12) (N := 89) hx hb hg iX12 tyX12 tyX12_ok nmX12 hown hK hP hD hS 0 rfl rfl 1 (by decide) (hg (Cond.fieldLink RX12 178 "SlabWalkModel" "taped" "I") m1315) (fun _ h9 => h9) rfl (by decide +kernel) rfl rfl (fs_lt g_M_taped) dX12_four_30 (fun H locs hP hD hS => ?_)
    have hP : va_P D classes [(h0, .inr (12, (M.set 1 (.int 13)))), (tp, .inl (k.2.1, 1600, .inl f_2))] H := hP
    have hD : va_D A [(h0, .inr (12, (M.set 1 (.int 13)))), (tp, .inl (k.2.1, 1600, .inl f_2))] := hD
    refine lv_iinc (v := 16) (lv' := [(2, .int 16), (0, .ref h0), (1, .int p0)]) hx hb dX12_four_33 hl (k := 0) rfl (by decide) (by decide) rfl (fun ls hl => ?_)
    refine lv_goto (tgt := 3) hx hb dX12_four_36 (by decide) ?_
    refine lv_iload_n hx hb dX12_four_3 rfl (lv_at hl 0 rfl) ?_
    refine lv_if_lt (tgt := 39) hx hb dX12_four_4 (by decide) (fun c_5 => ?_) (fun c_5 => ?_)
    · exact absurd c_5 (by decide)
    · have c_5 : ¬ ((16 : Int32) < 0) := c_5
      refine lv_aload_n hx hb dX12_four_7 rfl (lv_at hl 1 rfl) ?_
      refine va_get (D := D) (ci := 12) (v := .ref tp) (C := RX12) (T := TX12) (N := 89) hx hb hg iX12 hown hK hP 0 rfl rfl 0 (by decide) (hg (Cond.fieldLink RX12 7 "SlabWalkModel" "tape" "[I") m1314) (fun _ h9 => h9) (fs_ne g_M_tape (by decide)) dX12_four_8 ?_
      refine lv_aload_n hx hb dX12_four_11 rfl (lv_at hl 1 rfl) ?_
      refine va_get (D := D) (ci := 12) (v := .int 13) (C := RX12) (T := TX12) (N := 89) hx hb hg iX12 hown hK hP 0 rfl rfl 1 (by decide) (hg (Cond.fieldLink RX12 178 "SlabWalkModel" "taped" "I") m1315) (fun _ h9 => h9) (fs_eq g_M_taped) dX12_four_12 ?_
      refine lv_iload_n hx hb dX12_four_15 rfl (lv_at hl 2 rfl) ?_
      refine lv_iload_n hx hb dX12_four_16 rfl (lv_at hl 0 rfl) ?_
      refine lv_ishr hx hb dX12_four_17 ?_
      refine lv_sipush (v := 255) hx hb dX12_four_18 (by decide) ?_
      refine lv_iand hx hb dX12_four_21 ?_
      refine va_iast hx hb hK hP hD hS 1 1 rfl rfl (show ¬ ((13 : Int32) < 0 ∨ 1600 ≤ (13 : Int32).toNatClampNeg) from by decide +kernel) dX12_four_22 (fun H locs hP hD hS => ?_)
      have hP : va_P D classes [(h0, .inr (12, (M.set 1 (.int 13)))), (tp, .inl (k.2.1, 1600, .inl (upd f_2 13 ((p0 >>> (16 &&& 31)) &&& 255))))] H := hP
      have hD : va_D A [(h0, .inr (12, (M.set 1 (.int 13)))), (tp, .inl (k.2.1, 1600, .inl (upd f_2 13 ((p0 >>> (16 &&& 31)) &&& 255))))] := hD
      have g_7 : (upd f_2 13 ((p0 >>> (16 &&& 31)) &&& 255)) 12 = ((p0 >>> (24 &&& 31)) &&& 255) := g_3
      have g_8 : (upd f_2 13 ((p0 >>> (16 &&& 31)) &&& 255)) 13 = ((p0 >>> (16 &&& 31)) &&& 255) := rfl
      generalize (upd f_2 13 ((p0 >>> (16 &&& 31)) &&& 255)) = f_6 at hP hD g_7 g_8
      refine lv_aload_n hx hb dX12_four_23 rfl (lv_at hl 1 rfl) ?_
      refine lv_dup hx hb dX12_four_24 rfl ?_
      refine va_get (D := D) (ci := 12) (v := .int 13) (C := RX12) (T := TX12) (N := 89) hx hb hg iX12 hown hK hP 0 rfl rfl 1 (by decide) (hg (Cond.fieldLink RX12 178 "SlabWalkModel" "taped" "I") m1315) (fun _ h9 => h9) (fs_eq g_M_taped) dX12_four_25 ?_
      refine lv_iconst (v := 1) hx hb dX12_four_28 (by decide) ?_
      refine lv_iadd hx hb dX12_four_29 ?_
      refine lv_topi (fun y_9 ey_9 => ?_)
      obtain rfl : y_9 = 14 := ey_9.trans (by decide)
      refine va_put (D := D) (ci := 12) (v := .int 14) (ty := .int) (C := RX12) (T := TX12) (N := 89) hx hb hg iX12 tyX12 tyX12_ok nmX12 hown hK hP hD hS 0 rfl rfl 1 (by decide) (hg (Cond.fieldLink RX12 178 "SlabWalkModel" "taped" "I") m1315) (fun _ h9 => h9) rfl (by decide +kernel) rfl rfl (fs_lt (fs_eq g_M_taped)) dX12_four_30 (fun H locs hP hD hS => ?_)
      have hP : va_P D classes [(h0, .inr (12, ((M.set 1 (.int 13)).set 1 (.int 14)))), (tp, .inl (k.2.1, 1600, .inl f_6))] H := hP
      have hD : va_D A [(h0, .inr (12, ((M.set 1 (.int 13)).set 1 (.int 14)))), (tp, .inl (k.2.1, 1600, .inl f_6))] := hD
      refine lv_iinc (v := 8) (lv' := [(2, .int 8), (0, .ref h0), (1, .int p0)]) hx hb dX12_four_33 hl (k := 0) rfl (by decide) (by decide) rfl (fun ls hl => ?_)
      refine lv_goto (tgt := 3) hx hb dX12_four_36 (by decide) ?_
      refine lv_iload_n hx hb dX12_four_3 rfl (lv_at hl 0 rfl) ?_
      refine lv_if_lt (tgt := 39) hx hb dX12_four_4 (by decide) (fun c_10 => ?_) (fun c_10 => ?_)
      · exact absurd c_10 (by decide)
      · have c_10 : ¬ ((8 : Int32) < 0) := c_10
        refine lv_aload_n hx hb dX12_four_7 rfl (lv_at hl 1 rfl) ?_
        refine va_get (D := D) (ci := 12) (v := .ref tp) (C := RX12) (T := TX12) (N := 89) hx hb hg iX12 hown hK hP 0 rfl rfl 0 (by decide) (hg (Cond.fieldLink RX12 7 "SlabWalkModel" "tape" "[I") m1314) (fun _ h9 => h9) (fs_ne (fs_ne g_M_tape (by decide)) (by decide)) dX12_four_8 ?_
        refine lv_aload_n hx hb dX12_four_11 rfl (lv_at hl 1 rfl) ?_
        refine va_get (D := D) (ci := 12) (v := .int 14) (C := RX12) (T := TX12) (N := 89) hx hb hg iX12 hown hK hP 0 rfl rfl 1 (by decide) (hg (Cond.fieldLink RX12 178 "SlabWalkModel" "taped" "I") m1315) (fun _ h9 => h9) (fs_eq (fs_eq g_M_taped)) dX12_four_12 ?_
        refine lv_iload_n hx hb dX12_four_15 rfl (lv_at hl 2 rfl) ?_
        refine lv_iload_n hx hb dX12_four_16 rfl (lv_at hl 0 rfl) ?_
        refine lv_ishr hx hb dX12_four_17 ?_
        refine lv_sipush (v := 255) hx hb dX12_four_18 (by decide) ?_
        refine lv_iand hx hb dX12_four_21 ?_
        refine va_iast hx hb hK hP hD hS 1 1 rfl rfl (show ¬ ((14 : Int32) < 0 ∨ 1600 ≤ (14 : Int32).toNatClampNeg) from by decide +kernel) dX12_four_22 (fun H locs hP hD hS => ?_)
        have hP : va_P D classes [(h0, .inr (12, ((M.set 1 (.int 13)).set 1 (.int 14)))), (tp, .inl (k.2.1, 1600, .inl (upd f_6 14 ((p0 >>> (8 &&& 31)) &&& 255))))] H := hP
        have hD : va_D A [(h0, .inr (12, ((M.set 1 (.int 13)).set 1 (.int 14)))), (tp, .inl (k.2.1, 1600, .inl (upd f_6 14 ((p0 >>> (8 &&& 31)) &&& 255))))] := hD
        have g_12 : (upd f_6 14 ((p0 >>> (8 &&& 31)) &&& 255)) 12 = ((p0 >>> (24 &&& 31)) &&& 255) := g_7
        have g_13 : (upd f_6 14 ((p0 >>> (8 &&& 31)) &&& 255)) 13 = ((p0 >>> (16 &&& 31)) &&& 255) := g_8
        have g_14 : (upd f_6 14 ((p0 >>> (8 &&& 31)) &&& 255)) 14 = ((p0 >>> (8 &&& 31)) &&& 255) := rfl
        generalize (upd f_6 14 ((p0 >>> (8 &&& 31)) &&& 255)) = f_11 at hP hD g_12 g_13 g_14
        refine lv_aload_n hx hb dX12_four_23 rfl (lv_at hl 1 rfl) ?_
        refine lv_dup hx hb dX12_four_24 rfl ?_
        refine va_get (D := D) (ci := 12) (v := .int 14) (C := RX12) (T := TX12) (N := 89) hx hb hg iX12 hown hK hP 0 rfl rfl 1 (by decide) (hg (Cond.fieldLink RX12 178 "SlabWalkModel" "taped" "I") m1315) (fun _ h9 => h9) (fs_eq (fs_eq g_M_taped)) dX12_four_25 ?_
        refine lv_iconst (v := 1) hx hb dX12_four_28 (by decide) ?_
        refine lv_iadd hx hb dX12_four_29 ?_
        refine lv_topi (fun y_15 ey_15 => ?_)
        obtain rfl : y_15 = 15 := ey_15.trans (by decide)
        refine va_put (D := D) (ci := 12) (v := .int 15) (ty := .int) (C := RX12) (T := TX12) (N := 89) hx hb hg iX12 tyX12 tyX12_ok nmX12 hown hK hP hD hS 0 rfl rfl 1 (by decide) (hg (Cond.fieldLink RX12 178 "SlabWalkModel" "taped" "I") m1315) (fun _ h9 => h9) rfl (by decide +kernel) rfl rfl (fs_lt (fs_eq (fs_eq g_M_taped))) dX12_four_30 (fun H locs hP hD hS => ?_)
        have hP : va_P D classes [(h0, .inr (12, (((M.set 1 (.int 13)).set 1 (.int 14)).set 1 (.int 15)))), (tp, .inl (k.2.1, 1600, .inl f_11))] H := hP
        have hD : va_D A [(h0, .inr (12, (((M.set 1 (.int 13)).set 1 (.int 14)).set 1 (.int 15)))), (tp, .inl (k.2.1, 1600, .inl f_11))] := hD
        refine lv_iinc (v := 0) (lv' := [(2, .int 0), (0, .ref h0), (1, .int p0)]) hx hb dX12_four_33 hl (k := 0) rfl (by decide) (by decide) rfl (fun ls hl => ?_)
        refine lv_goto (tgt := 3) hx hb dX12_four_36 (by decide) ?_
        refine lv_iload_n hx hb dX12_four_3 rfl (lv_at hl 0 rfl) ?_
        refine lv_if_lt (tgt := 39) hx hb dX12_four_4 (by decide) (fun c_16 => ?_) (fun c_16 => ?_)
        · exact absurd c_16 (by decide)
        · have c_16 : ¬ ((0 : Int32) < 0) := c_16
          refine lv_aload_n hx hb dX12_four_7 rfl (lv_at hl 1 rfl) ?_
          refine va_get (D := D) (ci := 12) (v := .ref tp) (C := RX12) (T := TX12) (N := 89) hx hb hg iX12 hown hK hP 0 rfl rfl 0 (by decide) (hg (Cond.fieldLink RX12 7 "SlabWalkModel" "tape" "[I") m1314) (fun _ h9 => h9) (fs_ne (fs_ne (fs_ne g_M_tape (by decide)) (by decide)) (by decide)) dX12_four_8 ?_
          refine lv_aload_n hx hb dX12_four_11 rfl (lv_at hl 1 rfl) ?_
          refine va_get (D := D) (ci := 12) (v := .int 15) (C := RX12) (T := TX12) (N := 89) hx hb hg iX12 hown hK hP 0 rfl rfl 1 (by decide) (hg (Cond.fieldLink RX12 178 "SlabWalkModel" "taped" "I") m1315) (fun _ h9 => h9) (fs_eq (fs_eq (fs_eq g_M_taped))) dX12_four_12 ?_
          refine lv_iload_n hx hb dX12_four_15 rfl (lv_at hl 2 rfl) ?_
          refine lv_iload_n hx hb dX12_four_16 rfl (lv_at hl 0 rfl) ?_
          refine lv_ishr hx hb dX12_four_17 ?_
          refine lv_sipush (v := 255) hx hb dX12_four_18 (by decide) ?_
          refine lv_iand hx hb dX12_four_21 ?_
          refine va_iast hx hb hK hP hD hS 1 1 rfl rfl (show ¬ ((15 : Int32) < 0 ∨ 1600 ≤ (15 : Int32).toNatClampNeg) from by decide +kernel) dX12_four_22 (fun H locs hP hD hS => ?_)
          have hP : va_P D classes [(h0, .inr (12, (((M.set 1 (.int 13)).set 1 (.int 14)).set 1 (.int 15)))), (tp, .inl (k.2.1, 1600, .inl (upd f_11 15 ((p0 >>> (0 &&& 31)) &&& 255))))] H := hP
          have hD : va_D A [(h0, .inr (12, (((M.set 1 (.int 13)).set 1 (.int 14)).set 1 (.int 15)))), (tp, .inl (k.2.1, 1600, .inl (upd f_11 15 ((p0 >>> (0 &&& 31)) &&& 255))))] := hD
          have g_18 : (upd f_11 15 ((p0 >>> (0 &&& 31)) &&& 255)) 12 = ((p0 >>> (24 &&& 31)) &&& 255) := g_12
          have g_19 : (upd f_11 15 ((p0 >>> (0 &&& 31)) &&& 255)) 13 = ((p0 >>> (16 &&& 31)) &&& 255) := g_13
          have g_20 : (upd f_11 15 ((p0 >>> (0 &&& 31)) &&& 255)) 14 = ((p0 >>> (8 &&& 31)) &&& 255) := g_14
          have g_21 : (upd f_11 15 ((p0 >>> (0 &&& 31)) &&& 255)) 15 = ((p0 >>> (0 &&& 31)) &&& 255) := rfl
          generalize (upd f_11 15 ((p0 >>> (0 &&& 31)) &&& 255)) = f_17 at hP hD g_18 g_19 g_20 g_21
          refine lv_aload_n hx hb dX12_four_23 rfl (lv_at hl 1 rfl) ?_
          refine lv_dup hx hb dX12_four_24 rfl ?_
          refine va_get (D := D) (ci := 12) (v := .int 15) (C := RX12) (T := TX12) (N := 89) hx hb hg iX12 hown hK hP 0 rfl rfl 1 (by decide) (hg (Cond.fieldLink RX12 178 "SlabWalkModel" "taped" "I") m1315) (fun _ h9 => h9) (fs_eq (fs_eq (fs_eq g_M_taped))) dX12_four_25 ?_
          refine lv_iconst (v := 1) hx hb dX12_four_28 (by decide) ?_
          refine lv_iadd hx hb dX12_four_29 ?_
          refine lv_topi (fun y_22 ey_22 => ?_)
          obtain rfl : y_22 = 16 := ey_22.trans (by decide)
          refine va_put (D := D) (ci := 12) (v := .int 16) (ty := .int) (C := RX12) (T := TX12) (N := 89) hx hb hg iX12 tyX12 tyX12_ok nmX12 hown hK hP hD hS 0 rfl rfl 1 (by decide) (hg (Cond.fieldLink RX12 178 "SlabWalkModel" "taped" "I") m1315) (fun _ h9 => h9) rfl (by decide +kernel) rfl rfl (fs_lt (fs_eq (fs_eq (fs_eq g_M_taped)))) dX12_four_30 (fun H locs hP hD hS => ?_)
          have hP : va_P D classes [(h0, .inr (12, ((((M.set 1 (.int 13)).set 1 (.int 14)).set 1 (.int 15)).set 1 (.int 16)))), (tp, .inl (k.2.1, 1600, .inl f_17))] H := hP
          have hD : va_D A [(h0, .inr (12, ((((M.set 1 (.int 13)).set 1 (.int 14)).set 1 (.int 15)).set 1 (.int 16)))), (tp, .inl (k.2.1, 1600, .inl f_17))] := hD
          refine lv_iinc (v := (-8)) (lv' := [(2, .int (-8)), (0, .ref h0), (1, .int p0)]) hx hb dX12_four_33 hl (k := 0) rfl (by decide) (by decide) rfl (fun ls hl => ?_)
          refine lv_goto (tgt := 3) hx hb dX12_four_36 (by decide) ?_
          refine lv_iload_n hx hb dX12_four_3 rfl (lv_at hl 0 rfl) ?_
          refine lv_if_lt (tgt := 39) hx hb dX12_four_4 (by decide) (fun c_23 => ?_) (fun c_23 => ?_)
          · have c_23 : ((-8) : Int32) < 0 := c_23
            have hP9 := hP.sub (ws' := [(h0, .inr (12, ((((M.set 1 (.int 13)).set 1 (.int 14)).set 1 (.int 15)).set 1 (.int 16)))), (tp, .inl (k.2.1, 1600, .inl f_17))]) [0, 1] rfl
            have hD9 := hD.sub (ws' := [(h0, .inr (12, ((((M.set 1 (.int 13)).set 1 (.int 14)).set 1 (.int 15)).set 1 (.int 16)))), (tp, .inl (k.2.1, 1600, .inl f_17))]) [0, 1] (by decide) rfl
            exact W.vret hx hb hr (fun t ht hW => ⟨⟨(), rfl, trivial, ⟨((((M.set 1 (.int 13)).set 1 (.int 14)).set 1 (.int 15)).set 1 (.int 16)), f_17, (fs_ne (fs_ne (fs_ne (fs_ne g_M_tape (by decide)) (by decide)) (by decide)) (by decide)), (fs_eq (fs_eq (fs_eq (fs_eq g_M_taped)))), cB_of ht hP9 hD9⟩⟩, hS.F ht⟩) hS.2.2 dX12_four_39
          · exact absurd (by decide) c_23

set_option maxHeartbeats 4000000 in
set_option maxRecDepth 100000 in
theorem c_four16 (l : Launch) (D : va_G) (k : ClassId × ClassId × ClassId × ClassId) (sz : Nat) (h0 tp : Nat) (M : List Value) (m1 : Nat → Int32) (p0 : Int32) (g_M_tape : M[0]? = some (.ref tp)) (g_M_taped : M[1]? = some (.int 16)) : Met l yX12_four (WS yX12_four cX12_four 3 none) ({ frames := 0, cells := 0, slots := 0, locals := 0 }) (va_Pc [.ref h0, .int p0] (cP D k [(h0, .inr (12, M)), (tp, .inl (k.2.1, 1600, .inl m1))] sz)) (va_Qv (fun _ : Unit => True) (fun (_ : Unit) t => ∃ (M2 : List Value), ∃ (g : Nat → Int32), M2[0]? = some (.ref tp) ∧ M2[1]? = some (.int 20) ∧ cB D (va_A [(h0, .inr (12, M)), (tp, .inl (k.2.1, 1600, .inl m1))] sz) [(h0, .inr (12, M2)), (tp, .inl (k.2.1, 1600, .inl g))] t) (va_A [(h0, .inr (12, M)), (tp, .inl (k.2.1, 1600, .inl m1))] sz)) 0 0 (va_A [(h0, .inr (12, M)), (tp, .inl (k.2.1, 1600, .inl m1))] sz) := by
  refine Met.ofW (cc := cX12_four) (maxL := 3) (ret := none) (by decide) rfl ?_
  intro p e s m args below meth c s₁ B hml hv
  obtain ⟨rfl, hsz, hP, hKX, hD0⟩ := hv
  have hK := hKX.1
  have hx := B.exec
  have hb := B.bytes
  have hr := B.returns
  have hts := atoms_spec (ws := WS yX12_four cX12_four 3 none) B.pre
  have hgd : ∀ w ∈ gd, w ∈ WS yX12_four cX12_four 3 none := fun w h => List.mem_cons_of_mem _ h
  have hg : ∀ w ∈ gd, w.before _ s = true := fun w h => hts w (hgd w h)
  have hown : s.vm.findClass RX12 = some m.cls := findClass_of_methodNamed B.named
  have hlocks := B.notSynchronized
  subst hsz
  have hD := hD0.self (sz := s.heap.size)
  generalize hAe : va_A [(h0, .inr (12, M)), (tp, .inl (k.2.1, 1600, .inl m1))] s.heap.size = A at hD ⊢
  have hA : ∀ q : Nat, s.heap.size ≤ q → A q := fun q h => by rw [← hAe]; exact Or.inr h
  have hS : va_S A s.heap s.heap [] := va_S.rf
  have hP : va_P D classes [(h0, .inr (12, M)), (tp, .inl (k.2.1, 1600, .inl m1))] s.heap := hP
  have hl := lv_entry ([.ref h0, .int p0]) (n := 3) (Nat.le_of_ble_eq_true rfl)
  rw [lg_entry_eq]
  generalize (lg_sl ([.ref h0, .int p0]) ++ List.replicate (3 - (lg_sl ([.ref h0, .int p0])).length) Slot.unset).toArray = ls at hl ⊢
  have hl : lv_has ls 3 [(0, .ref h0), (1, .int p0)] := hl
  refine lv_bipush (v := 24) hx hb dX12_four_0 (by decide) ?_
  refine lv_istore_n (lv' := [(2, .int 24), (0, .ref h0), (1, .int p0)]) hx hb dX12_four_2 rfl hl (by decide) rfl (fun ls hl => ?_)
  refine lv_iload_n hx hb dX12_four_3 rfl (lv_at hl 0 rfl) ?_
  refine lv_if_lt (tgt := 39) hx hb dX12_four_4 (by decide) (fun c_1 => ?_) (fun c_1 => ?_)
  · exact absurd c_1 (by decide)
  · have c_1 : ¬ ((24 : Int32) < 0) := c_1
    refine lv_aload_n hx hb dX12_four_7 rfl (lv_at hl 1 rfl) ?_
    refine va_get (D := D) (ci := 12) (v := .ref tp) (C := RX12) (T := TX12) (N := 89) hx hb hg iX12 hown hK hP 0 rfl rfl 0 (by decide) (hg (Cond.fieldLink RX12 7 "SlabWalkModel" "tape" "[I") m1314) (fun _ h9 => h9) g_M_tape dX12_four_8 ?_
    refine lv_aload_n hx hb dX12_four_11 rfl (lv_at hl 1 rfl) ?_
    refine va_get (D := D) (ci := 12) (v := .int 16) (C := RX12) (T := TX12) (N := 89) hx hb hg iX12 hown hK hP 0 rfl rfl 1 (by decide) (hg (Cond.fieldLink RX12 178 "SlabWalkModel" "taped" "I") m1315) (fun _ h9 => h9) g_M_taped dX12_four_12 ?_
    refine lv_iload_n hx hb dX12_four_15 rfl (lv_at hl 2 rfl) ?_
    refine lv_iload_n hx hb dX12_four_16 rfl (lv_at hl 0 rfl) ?_
    refine lv_ishr hx hb dX12_four_17 ?_
    refine lv_sipush (v := 255) hx hb dX12_four_18 (by decide) ?_
    refine lv_iand hx hb dX12_four_21 ?_
    refine va_iast hx hb hK hP hD hS 1 1 rfl rfl (show ¬ ((16 : Int32) < 0 ∨ 1600 ≤ (16 : Int32).toNatClampNeg) from by decide +kernel) dX12_four_22 (fun H locs hP hD hS => ?_)
    have hP : va_P D classes [(h0, .inr (12, M)), (tp, .inl (k.2.1, 1600, .inl (upd m1 16 ((p0 >>> (24 &&& 31)) &&& 255))))] H := hP
    have hD : va_D A [(h0, .inr (12, M)), (tp, .inl (k.2.1, 1600, .inl (upd m1 16 ((p0 >>> (24 &&& 31)) &&& 255))))] := hD
    have g_3 : (upd m1 16 ((p0 >>> (24 &&& 31)) &&& 255)) 16 = ((p0 >>> (24 &&& 31)) &&& 255) := rfl
    generalize (upd m1 16 ((p0 >>> (24 &&& 31)) &&& 255)) = f_2 at hP hD g_3
    refine lv_aload_n hx hb dX12_four_23 rfl (lv_at hl 1 rfl) ?_
    refine lv_dup hx hb dX12_four_24 rfl ?_
    refine va_get (D := D) (ci := 12) (v := .int 16) (C := RX12) (T := TX12) (N := 89) hx hb hg iX12 hown hK hP 0 rfl rfl 1 (by decide) (hg (Cond.fieldLink RX12 178 "SlabWalkModel" "taped" "I") m1315) (fun _ h9 => h9) g_M_taped dX12_four_25 ?_
    refine lv_iconst (v := 1) hx hb dX12_four_28 (by decide) ?_
    refine lv_iadd hx hb dX12_four_29 ?_
    refine lv_topi (fun y_4 ey_4 => ?_)
    obtain rfl : y_4 = 17 := ey_4.trans (by decide)
    refine va_put (D := D) (ci := 12) (v := .int 17) (ty := .int) (C := RX12) (T := TX12) (N := 89) hx hb hg iX12 tyX12 tyX12_ok nmX12 hown hK hP hD hS 0 rfl rfl 1 (by decide) (hg (Cond.fieldLink RX12 178 "SlabWalkModel" "taped" "I") m1315) (fun _ h9 => h9) rfl (by decide +kernel) rfl rfl (fs_lt g_M_taped) dX12_four_30 (fun H locs hP hD hS => ?_)
    have hP : va_P D classes [(h0, .inr (12, (M.set 1 (.int 17)))), (tp, .inl (k.2.1, 1600, .inl f_2))] H := hP
    have hD : va_D A [(h0, .inr (12, (M.set 1 (.int 17)))), (tp, .inl (k.2.1, 1600, .inl f_2))] := hD
    refine lv_iinc (v := 16) (lv' := [(2, .int 16), (0, .ref h0), (1, .int p0)]) hx hb dX12_four_33 hl (k := 0) rfl (by decide) (by decide) rfl (fun ls hl => ?_)
    refine lv_goto (tgt := 3) hx hb dX12_four_36 (by decide) ?_
    refine lv_iload_n hx hb dX12_four_3 rfl (lv_at hl 0 rfl) ?_
    refine lv_if_lt (tgt := 39) hx hb dX12_four_4 (by decide) (fun c_5 => ?_) (fun c_5 => ?_)
    · exact absurd c_5 (by decide)
    · have c_5 : ¬ ((16 : Int32) < 0) := c_5
      refine lv_aload_n hx hb dX12_four_7 rfl (lv_at hl 1 rfl) ?_
      refine va_get (D := D) (ci := 12) (v := .ref tp) (C := RX12) (T := TX12) (N := 89) hx hb hg iX12 hown hK hP 0 rfl rfl 0 (by decide) (hg (Cond.fieldLink RX12 7 "SlabWalkModel" "tape" "[I") m1314) (fun _ h9 => h9) (fs_ne g_M_tape (by decide)) dX12_four_8 ?_
      refine lv_aload_n hx hb dX12_four_11 rfl (lv_at hl 1 rfl) ?_
      refine va_get (D := D) (ci := 12) (v := .int 17) (C := RX12) (T := TX12) (N := 89) hx hb hg iX12 hown hK hP 0 rfl rfl 1 (by decide) (hg (Cond.fieldLink RX12 178 "SlabWalkModel" "taped" "I") m1315) (fun _ h9 => h9) (fs_eq g_M_taped) dX12_four_12 ?_
      refine lv_iload_n hx hb dX12_four_15 rfl (lv_at hl 2 rfl) ?_
      refine lv_iload_n hx hb dX12_four_16 rfl (lv_at hl 0 rfl) ?_
      refine lv_ishr hx hb dX12_four_17 ?_
      refine lv_sipush (v := 255) hx hb dX12_four_18 (by decide) ?_
      refine lv_iand hx hb dX12_four_21 ?_
      refine va_iast hx hb hK hP hD hS 1 1 rfl rfl (show ¬ ((17 : Int32) < 0 ∨ 1600 ≤ (17 : Int32).toNatClampNeg) from by decide +kernel) dX12_four_22 (fun H locs hP hD hS => ?_)
      have hP : va_P D classes [(h0, .inr (12, (M.set 1 (.int 17)))), (tp, .inl (k.2.1, 1600, .inl (upd f_2 17 ((p0 >>> (16 &&& 31)) &&& 255))))] H := hP
      have hD : va_D A [(h0, .inr (12, (M.set 1 (.int 17)))), (tp, .inl (k.2.1, 1600, .inl (upd f_2 17 ((p0 >>> (16 &&& 31)) &&& 255))))] := hD
      have g_7 : (upd f_2 17 ((p0 >>> (16 &&& 31)) &&& 255)) 16 = ((p0 >>> (24 &&& 31)) &&& 255) := g_3
      have g_8 : (upd f_2 17 ((p0 >>> (16 &&& 31)) &&& 255)) 17 = ((p0 >>> (16 &&& 31)) &&& 255) := rfl
      generalize (upd f_2 17 ((p0 >>> (16 &&& 31)) &&& 255)) = f_6 at hP hD g_7 g_8
      refine lv_aload_n hx hb dX12_four_23 rfl (lv_at hl 1 rfl) ?_
      refine lv_dup hx hb dX12_four_24 rfl ?_
      refine va_get (D := D) (ci := 12) (v := .int 17) (C := RX12) (T := TX12) (N := 89) hx hb hg iX12 hown hK hP 0 rfl rfl 1 (by decide) (hg (Cond.fieldLink RX12 178 "SlabWalkModel" "taped" "I") m1315) (fun _ h9 => h9) (fs_eq g_M_taped) dX12_four_25 ?_
      refine lv_iconst (v := 1) hx hb dX12_four_28 (by decide) ?_
      refine lv_iadd hx hb dX12_four_29 ?_
      refine lv_topi (fun y_9 ey_9 => ?_)
      obtain rfl : y_9 = 18 := ey_9.trans (by decide)
      refine va_put (D := D) (ci := 12) (v := .int 18) (ty := .int) (C := RX12) (T := TX12) (N := 89) hx hb hg iX12 tyX12 tyX12_ok nmX12 hown hK hP hD hS 0 rfl rfl 1 (by decide) (hg (Cond.fieldLink RX12 178 "SlabWalkModel" "taped" "I") m1315) (fun _ h9 => h9) rfl (by decide +kernel) rfl rfl (fs_lt (fs_eq g_M_taped)) dX12_four_30 (fun H locs hP hD hS => ?_)
      have hP : va_P D classes [(h0, .inr (12, ((M.set 1 (.int 17)).set 1 (.int 18)))), (tp, .inl (k.2.1, 1600, .inl f_6))] H := hP
      have hD : va_D A [(h0, .inr (12, ((M.set 1 (.int 17)).set 1 (.int 18)))), (tp, .inl (k.2.1, 1600, .inl f_6))] := hD
      refine lv_iinc (v := 8) (lv' := [(2, .int 8), (0, .ref h0), (1, .int p0)]) hx hb dX12_four_33 hl (k := 0) rfl (by decide) (by decide) rfl (fun ls hl => ?_)
      refine lv_goto (tgt := 3) hx hb dX12_four_36 (by decide) ?_
      refine lv_iload_n hx hb dX12_four_3 rfl (lv_at hl 0 rfl) ?_
      refine lv_if_lt (tgt := 39) hx hb dX12_four_4 (by decide) (fun c_10 => ?_) (fun c_10 => ?_)
      · exact absurd c_10 (by decide)
      · have c_10 : ¬ ((8 : Int32) < 0) := c_10
        refine lv_aload_n hx hb dX12_four_7 rfl (lv_at hl 1 rfl) ?_
        refine va_get (D := D) (ci := 12) (v := .ref tp) (C := RX12) (T := TX12) (N := 89) hx hb hg iX12 hown hK hP 0 rfl rfl 0 (by decide) (hg (Cond.fieldLink RX12 7 "SlabWalkModel" "tape" "[I") m1314) (fun _ h9 => h9) (fs_ne (fs_ne g_M_tape (by decide)) (by decide)) dX12_four_8 ?_
        refine lv_aload_n hx hb dX12_four_11 rfl (lv_at hl 1 rfl) ?_
        refine va_get (D := D) (ci := 12) (v := .int 18) (C := RX12) (T := TX12) (N := 89) hx hb hg iX12 hown hK hP 0 rfl rfl 1 (by decide) (hg (Cond.fieldLink RX12 178 "SlabWalkModel" "taped" "I") m1315) (fun _ h9 => h9) (fs_eq (fs_eq g_M_taped)) dX12_four_12 ?_
        refine lv_iload_n hx hb dX12_four_15 rfl (lv_at hl 2 rfl) ?_
        refine lv_iload_n hx hb dX12_four_16 rfl (lv_at hl 0 rfl) ?_
        refine lv_ishr hx hb dX12_four_17 ?_
        refine lv_sipush (v := 255) hx hb dX12_four_18 (by decide) ?_
        refine lv_iand hx hb dX12_four_21 ?_
        refine va_iast hx hb hK hP hD hS 1 1 rfl rfl (show ¬ ((18 : Int32) < 0 ∨ 1600 ≤ (18 : Int32).toNatClampNeg) from by decide +kernel) dX12_four_22 (fun H locs hP hD hS => ?_)
        have hP : va_P D classes [(h0, .inr (12, ((M.set 1 (.int 17)).set 1 (.int 18)))), (tp, .inl (k.2.1, 1600, .inl (upd f_6 18 ((p0 >>> (8 &&& 31)) &&& 255))))] H := hP
        have hD : va_D A [(h0, .inr (12, ((M.set 1 (.int 17)).set 1 (.int 18)))), (tp, .inl (k.2.1, 1600, .inl (upd f_6 18 ((p0 >>> (8 &&& 31)) &&& 255))))] := hD
        have g_12 : (upd f_6 18 ((p0 >>> (8 &&& 31)) &&& 255)) 16 = ((p0 >>> (24 &&& 31)) &&& 255) := g_7
        have g_13 : (upd f_6 18 ((p0 >>> (8 &&& 31)) &&& 255)) 17 = ((p0 >>> (16 &&& 31)) &&& 255) := g_8
        have g_14 : (upd f_6 18 ((p0 >>> (8 &&& 31)) &&& 255)) 18 = ((p0 >>> (8 &&& 31)) &&& 255) := rfl
        generalize (upd f_6 18 ((p0 >>> (8 &&& 31)) &&& 255)) = f_11 at hP hD g_12 g_13 g_14
        refine lv_aload_n hx hb dX12_four_23 rfl (lv_at hl 1 rfl) ?_
        refine lv_dup hx hb dX12_four_24 rfl ?_
        refine va_get (D := D) (ci := 12) (v := .int 18) (C := RX12) (T := TX12) (N := 89) hx hb hg iX12 hown hK hP 0 rfl rfl 1 (by decide) (hg (Cond.fieldLink RX12 178 "SlabWalkModel" "taped" "I") m1315) (fun _ h9 => h9) (fs_eq (fs_eq g_M_taped)) dX12_four_25 ?_
        refine lv_iconst (v := 1) hx hb dX12_four_28 (by decide) ?_
        refine lv_iadd hx hb dX12_four_29 ?_
        refine lv_topi (fun y_15 ey_15 => ?_)
        obtain rfl : y_15 = 19 := ey_15.trans (by decide)
        refine va_put (D := D) (ci := 12) (v := .int 19) (ty := .int) (C := RX12) (T := TX12) (N := 89) hx hb hg iX12 tyX12 tyX12_ok nmX12 hown hK hP hD hS 0 rfl rfl 1 (by decide) (hg (Cond.fieldLink RX12 178 "SlabWalkModel" "taped" "I") m1315) (fun _ h9 => h9) rfl (by decide +kernel) rfl rfl (fs_lt (fs_eq (fs_eq g_M_taped))) dX12_four_30 (fun H locs hP hD hS => ?_)
        have hP : va_P D classes [(h0, .inr (12, (((M.set 1 (.int 17)).set 1 (.int 18)).set 1 (.int 19)))), (tp, .inl (k.2.1, 1600, .inl f_11))] H := hP
        have hD : va_D A [(h0, .inr (12, (((M.set 1 (.int 17)).set 1 (.int 18)).set 1 (.int 19)))), (tp, .inl (k.2.1, 1600, .inl f_11))] := hD
        refine lv_iinc (v := 0) (lv' := [(2, .int 0), (0, .ref h0), (1, .int p0)]) hx hb dX12_four_33 hl (k := 0) rfl (by decide) (by decide) rfl (fun ls hl => ?_)
        refine lv_goto (tgt := 3) hx hb dX12_four_36 (by decide) ?_
        refine lv_iload_n hx hb dX12_four_3 rfl (lv_at hl 0 rfl) ?_
        refine lv_if_lt (tgt := 39) hx hb dX12_four_4 (by decide) (fun c_16 => ?_) (fun c_16 => ?_)
        · exact absurd c_16 (by decide)
        · have c_16 : ¬ ((0 : Int32) < 0) := c_16
          refine lv_aload_n hx hb dX12_four_7 rfl (lv_at hl 1 rfl) ?_
          refine va_get (D := D) (ci := 12) (v := .ref tp) (C := RX12) (T := TX12) (N := 89) hx hb hg iX12 hown hK hP 0 rfl rfl 0 (by decide) (hg (Cond.fieldLink RX12 7 "SlabWalkModel" "tape" "[I") m1314) (fun _ h9 => h9) (fs_ne (fs_ne (fs_ne g_M_tape (by decide)) (by decide)) (by decide)) dX12_four_8 ?_
          refine lv_aload_n hx hb dX12_four_11 rfl (lv_at hl 1 rfl) ?_
          refine va_get (D := D) (ci := 12) (v := .int 19) (C := RX12) (T := TX12) (N := 89) hx hb hg iX12 hown hK hP 0 rfl rfl 1 (by decide) (hg (Cond.fieldLink RX12 178 "SlabWalkModel" "taped" "I") m1315) (fun _ h9 => h9) (fs_eq (fs_eq (fs_eq g_M_taped))) dX12_four_12 ?_
          refine lv_iload_n hx hb dX12_four_15 rfl (lv_at hl 2 rfl) ?_
          refine lv_iload_n hx hb dX12_four_16 rfl (lv_at hl 0 rfl) ?_
          refine lv_ishr hx hb dX12_four_17 ?_
          refine lv_sipush (v := 255) hx hb dX12_four_18 (by decide) ?_
          refine lv_iand hx hb dX12_four_21 ?_
          refine va_iast hx hb hK hP hD hS 1 1 rfl rfl (show ¬ ((19 : Int32) < 0 ∨ 1600 ≤ (19 : Int32).toNatClampNeg) from by decide +kernel) dX12_four_22 (fun H locs hP hD hS => ?_)
          have hP : va_P D classes [(h0, .inr (12, (((M.set 1 (.int 17)).set 1 (.int 18)).set 1 (.int 19)))), (tp, .inl (k.2.1, 1600, .inl (upd f_11 19 ((p0 >>> (0 &&& 31)) &&& 255))))] H := hP
          have hD : va_D A [(h0, .inr (12, (((M.set 1 (.int 17)).set 1 (.int 18)).set 1 (.int 19)))), (tp, .inl (k.2.1, 1600, .inl (upd f_11 19 ((p0 >>> (0 &&& 31)) &&& 255))))] := hD
          have g_18 : (upd f_11 19 ((p0 >>> (0 &&& 31)) &&& 255)) 16 = ((p0 >>> (24 &&& 31)) &&& 255) := g_12
          have g_19 : (upd f_11 19 ((p0 >>> (0 &&& 31)) &&& 255)) 17 = ((p0 >>> (16 &&& 31)) &&& 255) := g_13
          have g_20 : (upd f_11 19 ((p0 >>> (0 &&& 31)) &&& 255)) 18 = ((p0 >>> (8 &&& 31)) &&& 255) := g_14
          have g_21 : (upd f_11 19 ((p0 >>> (0 &&& 31)) &&& 255)) 19 = ((p0 >>> (0 &&& 31)) &&& 255) := rfl
          generalize (upd f_11 19 ((p0 >>> (0 &&& 31)) &&& 255)) = f_17 at hP hD g_18 g_19 g_20 g_21
          refine lv_aload_n hx hb dX12_four_23 rfl (lv_at hl 1 rfl) ?_
          refine lv_dup hx hb dX12_four_24 rfl ?_
          refine va_get (D := D) (ci := 12) (v := .int 19) (C := RX12) (T := TX12) (N := 89) hx hb hg iX12 hown hK hP 0 rfl rfl 1 (by decide) (hg (Cond.fieldLink RX12 178 "SlabWalkModel" "taped" "I") m1315) (fun _ h9 => h9) (fs_eq (fs_eq (fs_eq g_M_taped))) dX12_four_25 ?_
          refine lv_iconst (v := 1) hx hb dX12_four_28 (by decide) ?_
          refine lv_iadd hx hb dX12_four_29 ?_
          refine lv_topi (fun y_22 ey_22 => ?_)
          obtain rfl : y_22 = 20 := ey_22.trans (by decide)
          refine va_put (D := D) (ci := 12) (v := .int 20) (ty := .int) (C := RX12) (T := TX12) (N := 89) hx hb hg iX12 tyX12 tyX12_ok nmX12 hown hK hP hD hS 0 rfl rfl 1 (by decide) (hg (Cond.fieldLink RX12 178 "SlabWalkModel" "taped" "I") m1315) (fun _ h9 => h9) rfl (by decide +kernel) rfl rfl (fs_lt (fs_eq (fs_eq (fs_eq g_M_taped)))) dX12_four_30 (fun H locs hP hD hS => ?_)
          have hP : va_P D classes [(h0, .inr (12, ((((M.set 1 (.int 17)).set 1 (.int 18)).set 1 (.int 19)).set 1 (.int 20)))), (tp, .inl (k.2.1, 1600, .inl f_17))] H := hP
          have hD : va_D A [(h0, .inr (12, ((((M.set 1 (.int 17)).set 1 (.int 18)).set 1 (.int 19)).set 1 (.int 20)))), (tp, .inl (k.2.1, 1600, .inl f_17))] := hD
          refine lv_iinc (v := (-8)) (lv' := [(2, .int (-8)), (0, .ref h0), (1, .int p0)]) hx hb dX12_four_33 hl (k := 0) rfl (by decide) (by decide) rfl (fun ls hl => ?_)
          refine lv_goto (tgt := 3) hx hb dX12_four_36 (by decide) ?_
          refine lv_iload_n hx hb dX12_four_3 rfl (lv_at hl 0 rfl) ?_
          refine lv_if_lt (tgt := 39) hx hb dX12_four_4 (by decide) (fun c_23 => ?_) (fun c_23 => ?_)
          · have c_23 : ((-8) : Int32) < 0 := c_23
            have hP9 := hP.sub (ws' := [(h0, .inr (12, ((((M.set 1 (.int 17)).set 1 (.int 18)).set 1 (.int 19)).set 1 (.int 20)))), (tp, .inl (k.2.1, 1600, .inl f_17))]) [0, 1] rfl
            have hD9 := hD.sub (ws' := [(h0, .inr (12, ((((M.set 1 (.int 17)).set 1 (.int 18)).set 1 (.int 19)).set 1 (.int 20)))), (tp, .inl (k.2.1, 1600, .inl f_17))]) [0, 1] (by decide) rfl
            exact W.vret hx hb hr (fun t ht hW => ⟨⟨(), rfl, trivial, ⟨((((M.set 1 (.int 17)).set 1 (.int 18)).set 1 (.int 19)).set 1 (.int 20)), f_17, (fs_ne (fs_ne (fs_ne (fs_ne g_M_tape (by decide)) (by decide)) (by decide)) (by decide)), (fs_eq (fs_eq (fs_eq (fs_eq g_M_taped)))), cB_of ht hP9 hD9⟩⟩, hS.F ht⟩) hS.2.2 dX12_four_39
          · exact absurd (by decide) c_23

set_option maxHeartbeats 4000000 in
set_option maxRecDepth 100000 in
theorem c_X12_feed (l : Launch) (D : va_G) (k : ClassId × ClassId × ClassId × ClassId) (sz : Nat) (h0 tp : Nat) (M : List Value) (m1 : Nat → Int32) (p0 p1 p2 p3 p4 : Int32) (g_M_tape : M[0]? = some (.ref tp)) (g_M_taped : M[1]? = some (.int 0)) : Met l yX12_feed (WS yX12_feed cX12_feed 6 (some .int)) ({ frames := 1, cells := 0, slots := 0, locals := 22 }) (va_Pc [.ref h0, .int p0, .int p1, .int p2, .int p3, .int p4] (cP D k [(h0, .inr (12, M)), (tp, .inl (k.2.1, 1600, .inl m1))] sz)) (va_Qi (fun (r : Int32) (_ : Unit) => r = 20) (fun (_ : Unit) t => cB D (va_A [(h0, .inr (12, M)), (tp, .inl (k.2.1, 1600, .inl m1))] sz) [] t) (va_A [(h0, .inr (12, M)), (tp, .inl (k.2.1, 1600, .inl m1))] sz)) 0 0 (va_A [(h0, .inr (12, M)), (tp, .inl (k.2.1, 1600, .inl m1))] sz) := by
  refine Met.ofW (cc := cX12_feed) (maxL := 6) (ret := (some .int)) (by decide) rfl ?_
  intro p e s m args below meth c s₁ B hml hv
  obtain ⟨rfl, hsz, hP, hKX, hD0⟩ := hv
  have hK := hKX.1
  have hx := B.exec
  have hb := B.bytes
  have hr := B.returns
  have hts := atoms_spec (ws := WS yX12_feed cX12_feed 6 (some .int)) B.pre
  have hgd : ∀ w ∈ gd, w ∈ WS yX12_feed cX12_feed 6 (some .int) := fun w h => List.mem_cons_of_mem _ h
  have hg : ∀ w ∈ gd, w.before _ s = true := fun w h => hts w (hgd w h)
  have hown : s.vm.findClass RX12 = some m.cls := findClass_of_methodNamed B.named
  have hlocks := B.notSynchronized
  subst hsz
  have hD := hD0.self (sz := s.heap.size)
  generalize hAe : va_A [(h0, .inr (12, M)), (tp, .inl (k.2.1, 1600, .inl m1))] s.heap.size = A at hD ⊢
  have hA : ∀ q : Nat, s.heap.size ≤ q → A q := fun q h => by rw [← hAe]; exact Or.inr h
  have hS : va_S A s.heap s.heap [] := va_S.rf
  have hP : va_P D classes [(h0, .inr (12, M)), (tp, .inl (k.2.1, 1600, .inl m1))] s.heap := hP
  have hl := lv_entry ([.ref h0, .int p0, .int p1, .int p2, .int p3, .int p4]) (n := 6) (Nat.le_of_ble_eq_true rfl)
  rw [lg_entry_eq]
  generalize (lg_sl ([.ref h0, .int p0, .int p1, .int p2, .int p3, .int p4]) ++ List.replicate (6 - (lg_sl ([.ref h0, .int p0, .int p1, .int p2, .int p3, .int p4])).length) Slot.unset).toArray = ls at hl ⊢
  have hl : lv_has ls 6 [(0, .ref h0), (1, .int p0), (2, .int p1), (3, .int p2), (4, .int p3), (5, .int p4)] := hl
  refine lv_aload_n hx hb dX12_feed_0 rfl (lv_at hl 0 rfl) ?_
  refine va_get (D := D) (ci := 12) (v := .int 0) (C := RX12) (T := TX12) (N := 89) hx hb hg iX12 hown hK hP 0 rfl rfl 1 (by decide) (hg (Cond.fieldLink RX12 178 "SlabWalkModel" "taped" "I") m1315) (fun _ h9 => h9) g_M_taped dX12_feed_1 ?_
  refine lv_bipush (v := 20) hx hb dX12_feed_4 (by decide) ?_
  refine lv_iadd hx hb dX12_feed_6 ?_
  refine lv_topi (fun y_1 ey_1 => ?_)
  obtain rfl : y_1 = 20 := ey_1.trans (by decide)
  refine lv_sipush (v := 1600) hx hb dX12_feed_7 (by decide) ?_
  refine lv_icmp_le (tgt := 15) hx hb dX12_feed_10 (by decide) (fun c_2 => ?_) (fun c_2 => ?_)
  · have c_2 : (20 : Int32) ≤ 1600 := c_2
    refine lv_aload_n hx hb dX12_feed_15 rfl (lv_at hl 0 rfl) ?_
    refine lv_iload_n hx hb dX12_feed_16 rfl (lv_at hl 1 rfl) ?_
    have hPc := hP.sub (ws' := [(h0, .inr (12, M)), (tp, .inl (k.2.1, 1600, .inl m1))]) [0, 1] rfl
    have hDc := hD.sub (ws' := [(h0, .inr (12, M)), (tp, .inl (k.2.1, 1600, .inl m1))]) [0, 1] (by decide) rfl
    have hFc := va_free (wc := [(h0, .inr (12, M)), (tp, .inl (k.2.1, 1600, .inl m1))]) hD hS hA [0, 1] rfl
    refine va_callv (va_runV (As := [.int p0]) (rest := []) ⟨hx, hb, hml, hown, hts⟩ (c_four0 l D k s.heap.size h0 tp M m1 p0 g_M_tape g_M_taped) (cwV 1 hts (gd_V hgd m1586 m1588 m48 m131 m1589) rfl rfl rfl (by decide +kernel) ⟨Nat.le_of_ble_eq_true rfl, Nat.le_of_ble_eq_true rfl⟩) (cP_V hPc hKX hDc (ci := 12) (q0 := 0) rfl rfl) rfl rfl hl.1 rfl (lv_room (Nat.le_of_ble_eq_true rfl)) dX12_feed_17 ⟨Nat.le_of_ble_eq_true rfl, Nat.le_of_ble_eq_true rfl⟩) hS (fun q _ h => hFc q h) hFc (fun u t H1 locs ht hvm hw hB hz1 hk1 hS => ?_)
    obtain ⟨z_4, z_5, g_6, g_7, hP1, hD1⟩ := hB
    rw [ht] at hP1
    obtain ⟨hP, hD⟩ := va_join (wr := []) (w1 := [(h0, .inr (12, z_4)), (tp, .inl (k.2.1, 1600, .inl z_5))]) hP hD [0, 1] [] rfl rfl (by decide) (by decide) hk1 hFc hP1 hD1
    generalize H1 = H at hP hS ⊢
    have hP : va_P D classes [(h0, .inr (12, z_4)), (tp, .inl (k.2.1, 1600, .inl z_5))] H := hP
    have hD : va_D A [(h0, .inr (12, z_4)), (tp, .inl (k.2.1, 1600, .inl z_5))] := hD
    refine W.widen (k := 0) (n := 0) (Nat.le_of_ble_eq_true rfl) (Nat.le_of_ble_eq_true rfl) ?_
    refine lv_aload_n hx hb dX12_feed_20 rfl (lv_at hl 0 rfl) ?_
    refine lv_iload_n hx hb dX12_feed_21 rfl (lv_at hl 2 rfl) ?_
    have hPc := hP.sub (ws' := [(h0, .inr (12, z_4)), (tp, .inl (k.2.1, 1600, .inl z_5))]) [0, 1] rfl
    have hDc := hD.sub (ws' := [(h0, .inr (12, z_4)), (tp, .inl (k.2.1, 1600, .inl z_5))]) [0, 1] (by decide) rfl
    have hFc := va_free (wc := [(h0, .inr (12, z_4)), (tp, .inl (k.2.1, 1600, .inl z_5))]) hD hS hA [0, 1] rfl
    refine va_callv (va_runV (As := [.int p1]) (rest := []) ⟨hx, hb, hml, hown, hts⟩ (c_four4 l D k H.size h0 tp z_4 z_5 p1 g_6 g_7) (cwV 1 hts (gd_V hgd m1586 m1588 m48 m131 m1589) rfl rfl rfl (by decide +kernel) ⟨Nat.le_of_ble_eq_true rfl, Nat.le_of_ble_eq_true rfl⟩) (cP_V hPc hKX hDc (ci := 12) (q0 := 0) rfl rfl) rfl rfl hl.1 rfl (lv_room (Nat.le_of_ble_eq_true rfl)) dX12_feed_22 ⟨Nat.le_of_ble_eq_true rfl, Nat.le_of_ble_eq_true rfl⟩) hS (fun q _ h => hFc q h) hFc (fun u t H1 locs ht hvm hw hB hz1 hk1 hS => ?_)
    obtain ⟨z_9, z_10, g_11, g_12, hP1, hD1⟩ := hB
    rw [ht] at hP1
    obtain ⟨hP, hD⟩ := va_join (wr := []) (w1 := [(h0, .inr (12, z_9)), (tp, .inl (k.2.1, 1600, .inl z_10))]) hP hD [0, 1] [] rfl rfl (by decide) (by decide) hk1 hFc hP1 hD1
    generalize H1 = H at hP hS ⊢
    have hP : va_P D classes [(h0, .inr (12, z_9)), (tp, .inl (k.2.1, 1600, .inl z_10))] H := hP
    have hD : va_D A [(h0, .inr (12, z_9)), (tp, .inl (k.2.1, 1600, .inl z_10))] := hD
    refine W.widen (k := 0) (n := 0) (Nat.le_of_ble_eq_true rfl) (Nat.le_of_ble_eq_true rfl) ?_
    refine lv_aload_n hx hb dX12_feed_25 rfl (lv_at hl 0 rfl) ?_
    refine lv_iload_n hx hb dX12_feed_26 rfl (lv_at hl 3 rfl) ?_
    have hPc := hP.sub (ws' := [(h0, .inr (12, z_9)), (tp, .inl (k.2.1, 1600, .inl z_10))]) [0, 1] rfl
    have hDc := hD.sub (ws' := [(h0, .inr (12, z_9)), (tp, .inl (k.2.1, 1600, .inl z_10))]) [0, 1] (by decide) rfl
    have hFc := va_free (wc := [(h0, .inr (12, z_9)), (tp, .inl (k.2.1, 1600, .inl z_10))]) hD hS hA [0, 1] rfl
    refine va_callv (va_runV (As := [.int p2]) (rest := []) ⟨hx, hb, hml, hown, hts⟩ (c_four8 l D k H.size h0 tp z_9 z_10 p2 g_11 g_12) (cwV 1 hts (gd_V hgd m1586 m1588 m48 m131 m1589) rfl rfl rfl (by decide +kernel) ⟨Nat.le_of_ble_eq_true rfl, Nat.le_of_ble_eq_true rfl⟩) (cP_V hPc hKX hDc (ci := 12) (q0 := 0) rfl rfl) rfl rfl hl.1 rfl (lv_room (Nat.le_of_ble_eq_true rfl)) dX12_feed_27 ⟨Nat.le_of_ble_eq_true rfl, Nat.le_of_ble_eq_true rfl⟩) hS (fun q _ h => hFc q h) hFc (fun u t H1 locs ht hvm hw hB hz1 hk1 hS => ?_)
    obtain ⟨z_14, z_15, g_16, g_17, hP1, hD1⟩ := hB
    rw [ht] at hP1
    obtain ⟨hP, hD⟩ := va_join (wr := []) (w1 := [(h0, .inr (12, z_14)), (tp, .inl (k.2.1, 1600, .inl z_15))]) hP hD [0, 1] [] rfl rfl (by decide) (by decide) hk1 hFc hP1 hD1
    generalize H1 = H at hP hS ⊢
    have hP : va_P D classes [(h0, .inr (12, z_14)), (tp, .inl (k.2.1, 1600, .inl z_15))] H := hP
    have hD : va_D A [(h0, .inr (12, z_14)), (tp, .inl (k.2.1, 1600, .inl z_15))] := hD
    refine W.widen (k := 0) (n := 0) (Nat.le_of_ble_eq_true rfl) (Nat.le_of_ble_eq_true rfl) ?_
    refine lv_aload_n hx hb dX12_feed_30 rfl (lv_at hl 0 rfl) ?_
    refine lv_iload hx hb dX12_feed_31 (lv_at hl 4 rfl) ?_
    have hPc := hP.sub (ws' := [(h0, .inr (12, z_14)), (tp, .inl (k.2.1, 1600, .inl z_15))]) [0, 1] rfl
    have hDc := hD.sub (ws' := [(h0, .inr (12, z_14)), (tp, .inl (k.2.1, 1600, .inl z_15))]) [0, 1] (by decide) rfl
    have hFc := va_free (wc := [(h0, .inr (12, z_14)), (tp, .inl (k.2.1, 1600, .inl z_15))]) hD hS hA [0, 1] rfl
    refine va_callv (va_runV (As := [.int p3]) (rest := []) ⟨hx, hb, hml, hown, hts⟩ (c_four12 l D k H.size h0 tp z_14 z_15 p3 g_16 g_17) (cwV 1 hts (gd_V hgd m1586 m1588 m48 m131 m1589) rfl rfl rfl (by decide +kernel) ⟨Nat.le_of_ble_eq_true rfl, Nat.le_of_ble_eq_true rfl⟩) (cP_V hPc hKX hDc (ci := 12) (q0 := 0) rfl rfl) rfl rfl hl.1 rfl (lv_room (Nat.le_of_ble_eq_true rfl)) dX12_feed_33 ⟨Nat.le_of_ble_eq_true rfl, Nat.le_of_ble_eq_true rfl⟩) hS (fun q _ h => hFc q h) hFc (fun u t H1 locs ht hvm hw hB hz1 hk1 hS => ?_)
    obtain ⟨z_19, z_20, g_21, g_22, hP1, hD1⟩ := hB
    rw [ht] at hP1
    obtain ⟨hP, hD⟩ := va_join (wr := []) (w1 := [(h0, .inr (12, z_19)), (tp, .inl (k.2.1, 1600, .inl z_20))]) hP hD [0, 1] [] rfl rfl (by decide) (by decide) hk1 hFc hP1 hD1
    generalize H1 = H at hP hS ⊢
    have hP : va_P D classes [(h0, .inr (12, z_19)), (tp, .inl (k.2.1, 1600, .inl z_20))] H := hP
    have hD : va_D A [(h0, .inr (12, z_19)), (tp, .inl (k.2.1, 1600, .inl z_20))] := hD
    refine W.widen (k := 0) (n := 0) (Nat.le_of_ble_eq_true rfl) (Nat.le_of_ble_eq_true rfl) ?_
    refine lv_aload_n hx hb dX12_feed_36 rfl (lv_at hl 0 rfl) ?_
    refine lv_iload hx hb dX12_feed_37 (lv_at hl 5 rfl) ?_
    have hPc := hP.sub (ws' := [(h0, .inr (12, z_19)), (tp, .inl (k.2.1, 1600, .inl z_20))]) [0, 1] rfl
    have hDc := hD.sub (ws' := [(h0, .inr (12, z_19)), (tp, .inl (k.2.1, 1600, .inl z_20))]) [0, 1] (by decide) rfl
    have hFc := va_free (wc := [(h0, .inr (12, z_19)), (tp, .inl (k.2.1, 1600, .inl z_20))]) hD hS hA [0, 1] rfl
    refine va_callv (va_runV (As := [.int p4]) (rest := []) ⟨hx, hb, hml, hown, hts⟩ (c_four16 l D k H.size h0 tp z_19 z_20 p4 g_21 g_22) (cwV 1 hts (gd_V hgd m1586 m1588 m48 m131 m1589) rfl rfl rfl (by decide +kernel) ⟨Nat.le_of_ble_eq_true rfl, Nat.le_of_ble_eq_true rfl⟩) (cP_V hPc hKX hDc (ci := 12) (q0 := 0) rfl rfl) rfl rfl hl.1 rfl (lv_room (Nat.le_of_ble_eq_true rfl)) dX12_feed_39 ⟨Nat.le_of_ble_eq_true rfl, Nat.le_of_ble_eq_true rfl⟩) hS (fun q _ h => hFc q h) hFc (fun u t H1 locs ht hvm hw hB hz1 hk1 hS => ?_)
    obtain ⟨z_24, z_25, g_26, g_27, hP1, hD1⟩ := hB
    rw [ht] at hP1
    obtain ⟨hP, hD⟩ := va_join (wr := []) (w1 := [(h0, .inr (12, z_24)), (tp, .inl (k.2.1, 1600, .inl z_25))]) hP hD [0, 1] [] rfl rfl (by decide) (by decide) hk1 hFc hP1 hD1
    generalize H1 = H at hP hS ⊢
    have hP : va_P D classes [(h0, .inr (12, z_24)), (tp, .inl (k.2.1, 1600, .inl z_25))] H := hP
    have hD : va_D A [(h0, .inr (12, z_24)), (tp, .inl (k.2.1, 1600, .inl z_25))] := hD
    refine W.widen (k := 0) (n := 0) (Nat.le_of_ble_eq_true rfl) (Nat.le_of_ble_eq_true rfl) ?_
    refine lv_aload_n hx hb dX12_feed_42 rfl (lv_at hl 0 rfl) ?_
    refine va_get (D := D) (ci := 12) (v := .int 20) (C := RX12) (T := TX12) (N := 89) hx hb hg iX12 hown hK hP 0 rfl rfl 1 (by decide) (hg (Cond.fieldLink RX12 178 "SlabWalkModel" "taped" "I") m1315) (fun _ h9 => h9) g_27 dX12_feed_43 ?_
    have hP9 := hP.sub (ws' := []) [] rfl
    have hD9 := hD.sub (ws' := []) [] (by decide) rfl
    exact W.iret (v := 20) hx hb hr (fun t ht hW => ⟨⟨20, (), rfl, rfl, cB_of ht hP9 hD9⟩, hS.F ht⟩) hS.2.2 dX12_feed_46
  · exact absurd (by decide) c_2
