set_option maxHeartbeats 4000000 in
set_option maxRecDepth 100000 in
theorem c_put0 (l : Launch) (D : va_G) (k : ClassId × ClassId × ClassId × ClassId) (sz : Nat) (h0 tp : Nat) (F : List Value) (f : Nat → Int32) (p0 : Int32) (g_F_taped : F[11]? = some (.int 0)) (g_F_tape : F[2]? = some (.ref tp)) : Met l yX11_putOnTape (WS yX11_putOnTape cX11_putOnTape 3 none) ({ frames := 0, cells := 0, slots := 0, locals := 0 }) (va_Pc [.ref h0, .int p0] (cP D k [(h0, .inr (11, F)), (tp, .inl (k.1, 1600, .inl f))] sz)) (va_Qv (fun _ : Unit => True) (fun (_ : Unit) t => ∃ (F2 : List Value), ∃ (g : Nat → Int32), F2[11]? = some (.int 4) ∧ F2[2]? = some (.ref tp) ∧ cB D (va_A [(h0, .inr (11, F)), (tp, .inl (k.1, 1600, .inl f))] sz) [(h0, .inr (11, F2)), (tp, .inl (k.1, 1600, .inl g))] t) (va_A [(h0, .inr (11, F)), (tp, .inl (k.1, 1600, .inl f))] sz)) 0 0 (va_A [(h0, .inr (11, F)), (tp, .inl (k.1, 1600, .inl f))] sz) := by
  refine Met.ofW (cc := cX11_putOnTape) (maxL := 3) (ret := none) (by decide) rfl ?_
  intro p e s m args below meth c s₁ B hml hv
  obtain ⟨rfl, hsz, hP, hKX, hD0⟩ := hv
  have hK := hKX.1
  have hx := B.exec
  have hb := B.bytes
  have hr := B.returns
  have hts := atoms_spec (ws := WS yX11_putOnTape cX11_putOnTape 3 none) B.pre
  have hgd : ∀ w ∈ gd, w ∈ WS yX11_putOnTape cX11_putOnTape 3 none := fun w h => List.mem_cons_of_mem _ h
  have hg : ∀ w ∈ gd, w.before _ s = true := fun w h => hts w (hgd w h)
  have hown : s.vm.findClass RX11 = some m.cls := findClass_of_methodNamed B.named
  have hlocks := B.notSynchronized
  subst hsz
  have hD := hD0.self (sz := s.heap.size)
  generalize hAe : va_A [(h0, .inr (11, F)), (tp, .inl (k.1, 1600, .inl f))] s.heap.size = A at hD ⊢
  have hA : ∀ q : Nat, s.heap.size ≤ q → A q := fun q h => by rw [← hAe]; exact Or.inr h
  have hS : va_S A s.heap s.heap [] := va_S.rf
  have hP : va_P D classes [(h0, .inr (11, F)), (tp, .inl (k.1, 1600, .inl f))] s.heap := hP
  have hl := lv_entry ([.ref h0, .int p0]) (n := 3) (Nat.le_of_ble_eq_true rfl)
  rw [lg_entry_eq]
  generalize (lg_sl ([.ref h0, .int p0]) ++ List.replicate (3 - (lg_sl ([.ref h0, .int p0])).length) Slot.unset).toArray = ls at hl ⊢
  have hl : lv_has ls 3 [(0, .ref h0), (1, .int p0)] := hl
  refine lv_bipush (v := 24) hx hb dX11_putOnTape_0 (by decide) ?_
  refine lv_istore_n (lv' := [(2, .int 24), (0, .ref h0), (1, .int p0)]) hx hb dX11_putOnTape_2 rfl hl (by decide) rfl (fun ls hl => ?_)
  refine lv_iload_n hx hb dX11_putOnTape_3 rfl (lv_at hl 0 rfl) ?_
  refine lv_if_lt (tgt := 43) hx hb dX11_putOnTape_4 (by decide) (fun c_1 => ?_) (fun c_1 => ?_)
  · exact absurd c_1 (by decide)
  · have c_1 : ¬ ((24 : Int32) < 0) := c_1
    refine lv_aload_n hx hb dX11_putOnTape_7 rfl (lv_at hl 1 rfl) ?_
    refine va_get (D := D) (ci := 11) (v := .int 0) (C := RX11) (T := TX11) (N := 13) hx hb hg iX11 hown hK hP 0 rfl rfl 11 (by decide) (hg (Cond.fieldLink RX11 83 "SlabWalk" "taped" "I") m581) (fun _ h9 => h9) g_F_taped dX11_putOnTape_8 ?_
    refine lv_sipush (v := 1600) hx hb dX11_putOnTape_11 (by decide) ?_
    refine lv_icmp_ge (tgt := 37) hx hb dX11_putOnTape_14 (by decide) (fun c_2 => ?_) (fun c_2 => ?_)
    · exact absurd c_2 (by decide)
    · have c_2 : ¬ ((1600 : Int32) ≤ 0) := c_2
      refine lv_aload_n hx hb dX11_putOnTape_17 rfl (lv_at hl 1 rfl) ?_
      refine va_get (D := D) (ci := 11) (v := .ref tp) (C := RX11) (T := TX11) (N := 13) hx hb hg iX11 hown hK hP 0 rfl rfl 2 (by decide) (hg (Cond.fieldLink RX11 19 "SlabWalk" "tape" "[B") m572) (fun _ h9 => h9) g_F_tape dX11_putOnTape_18 ?_
      refine lv_aload_n hx hb dX11_putOnTape_21 rfl (lv_at hl 1 rfl) ?_
      refine lv_dup hx hb dX11_putOnTape_22 rfl ?_
      refine va_get (D := D) (ci := 11) (v := .int 0) (C := RX11) (T := TX11) (N := 13) hx hb hg iX11 hown hK hP 0 rfl rfl 11 (by decide) (hg (Cond.fieldLink RX11 83 "SlabWalk" "taped" "I") m581) (fun _ h9 => h9) g_F_taped dX11_putOnTape_23 ?_
      refine lv_dup_x1 hx hb dX11_putOnTape_26 rfl rfl ?_
      refine lv_iconst (v := 1) hx hb dX11_putOnTape_27 (by decide) ?_
      refine lv_iadd hx hb dX11_putOnTape_28 ?_
      refine lv_topi (fun y_3 ey_3 => ?_)
      obtain rfl : y_3 = 1 := ey_3.trans (by decide)
      refine va_put (D := D) (ci := 11) (v := .int 1) (ty := .int) (C := RX11) (T := TX11) (N := 13) hx hb hg iX11 tyX11 tyX11_ok nmX11 hown hK hP hD hS 0 rfl rfl 11 (by decide) (hg (Cond.fieldLink RX11 83 "SlabWalk" "taped" "I") m581) (fun _ h9 => h9) rfl (by decide +kernel) rfl rfl (fs_lt g_F_taped) dX11_putOnTape_29 (fun H locs hP hD hS => ?_)
      have hP : va_P D classes [(h0, .inr (11, (F.set 11 (.int 1)))), (tp, .inl (k.1, 1600, .inl f))] H := hP
      have hD : va_D A [(h0, .inr (11, (F.set 11 (.int 1)))), (tp, .inl (k.1, 1600, .inl f))] := hD
      refine lv_iload_n hx hb dX11_putOnTape_32 rfl (lv_at hl 2 rfl) ?_
      refine lv_iload_n hx hb dX11_putOnTape_33 rfl (lv_at hl 0 rfl) ?_
      refine lv_ishr hx hb dX11_putOnTape_34 ?_
      refine lv_i2b (v := ((p0 >>> (24 &&& 31)).toInt8.toInt32)) hx hb dX11_putOnTape_35 rfl ?_
      refine va_bast hx hb hK hP hD hS 1 0 rfl rfl (show ¬ ((0 : Int32) < 0 ∨ 1600 ≤ (0 : Int32).toNatClampNeg) from by decide +kernel) dX11_putOnTape_36 (fun H locs hP hD hS => ?_)
      have hP : va_P D classes [(h0, .inr (11, (F.set 11 (.int 1)))), (tp, .inl (k.1, 1600, .inl (upd f 0 (vp_nar .byte ((p0 >>> (24 &&& 31)).toInt8.toInt32)))))] H := hP
      have hD : va_D A [(h0, .inr (11, (F.set 11 (.int 1)))), (tp, .inl (k.1, 1600, .inl (upd f 0 (vp_nar .byte ((p0 >>> (24 &&& 31)).toInt8.toInt32)))))] := hD
      generalize (upd f 0 (vp_nar .byte ((p0 >>> (24 &&& 31)).toInt8.toInt32))) = f_4 at hP hD
      refine lv_iinc (v := 16) (lv' := [(2, .int 16), (0, .ref h0), (1, .int p0)]) hx hb dX11_putOnTape_37 hl (k := 0) rfl (by decide) (by decide) rfl (fun ls hl => ?_)
      refine lv_goto (tgt := 3) hx hb dX11_putOnTape_40 (by decide) ?_
      refine lv_iload_n hx hb dX11_putOnTape_3 rfl (lv_at hl 0 rfl) ?_
      refine lv_if_lt (tgt := 43) hx hb dX11_putOnTape_4 (by decide) (fun c_5 => ?_) (fun c_5 => ?_)
      · exact absurd c_5 (by decide)
      · have c_5 : ¬ ((16 : Int32) < 0) := c_5
        refine lv_aload_n hx hb dX11_putOnTape_7 rfl (lv_at hl 1 rfl) ?_
        refine va_get (D := D) (ci := 11) (v := .int 1) (C := RX11) (T := TX11) (N := 13) hx hb hg iX11 hown hK hP 0 rfl rfl 11 (by decide) (hg (Cond.fieldLink RX11 83 "SlabWalk" "taped" "I") m581) (fun _ h9 => h9) (fs_eq g_F_taped) dX11_putOnTape_8 ?_
        refine lv_sipush (v := 1600) hx hb dX11_putOnTape_11 (by decide) ?_
        refine lv_icmp_ge (tgt := 37) hx hb dX11_putOnTape_14 (by decide) (fun c_6 => ?_) (fun c_6 => ?_)
        · exact absurd c_6 (by decide)
        · have c_6 : ¬ ((1600 : Int32) ≤ 1) := c_6
          refine lv_aload_n hx hb dX11_putOnTape_17 rfl (lv_at hl 1 rfl) ?_
          refine va_get (D := D) (ci := 11) (v := .ref tp) (C := RX11) (T := TX11) (N := 13) hx hb hg iX11 hown hK hP 0 rfl rfl 2 (by decide) (hg (Cond.fieldLink RX11 19 "SlabWalk" "tape" "[B") m572) (fun _ h9 => h9) (fs_ne g_F_tape (by decide)) dX11_putOnTape_18 ?_
          refine lv_aload_n hx hb dX11_putOnTape_21 rfl (lv_at hl 1 rfl) ?_
          refine lv_dup hx hb dX11_putOnTape_22 rfl ?_
          refine va_get (D := D) (ci := 11) (v := .int 1) (C := RX11) (T := TX11) (N := 13) hx hb hg iX11 hown hK hP 0 rfl rfl 11 (by decide) (hg (Cond.fieldLink RX11 83 "SlabWalk" "taped" "I") m581) (fun _ h9 => h9) (fs_eq g_F_taped) dX11_putOnTape_23 ?_
          refine lv_dup_x1 hx hb dX11_putOnTape_26 rfl rfl ?_
          refine lv_iconst (v := 1) hx hb dX11_putOnTape_27 (by decide) ?_
          refine lv_iadd hx hb dX11_putOnTape_28 ?_
          refine lv_topi (fun y_7 ey_7 => ?_)
          obtain rfl : y_7 = 2 := ey_7.trans (by decide)
          refine va_put (D := D) (ci := 11) (v := .int 2) (ty := .int) (C := RX11) (T := TX11) (N := 13) hx hb hg iX11 tyX11 tyX11_ok nmX11 hown hK hP hD hS 0 rfl rfl 11 (by decide) (hg (Cond.fieldLink RX11 83 "SlabWalk" "taped" "I") m581) (fun _ h9 => h9) rfl (by decide +kernel) rfl rfl (fs_lt (fs_eq g_F_taped)) dX11_putOnTape_29 (fun H locs hP hD hS => ?_)
          have hP : va_P D classes [(h0, .inr (11, ((F.set 11 (.int 1)).set 11 (.int 2)))), (tp, .inl (k.1, 1600, .inl f_4))] H := hP
          have hD : va_D A [(h0, .inr (11, ((F.set 11 (.int 1)).set 11 (.int 2)))), (tp, .inl (k.1, 1600, .inl f_4))] := hD
          refine lv_iload_n hx hb dX11_putOnTape_32 rfl (lv_at hl 2 rfl) ?_
          refine lv_iload_n hx hb dX11_putOnTape_33 rfl (lv_at hl 0 rfl) ?_
          refine lv_ishr hx hb dX11_putOnTape_34 ?_
          refine lv_i2b (v := ((p0 >>> (16 &&& 31)).toInt8.toInt32)) hx hb dX11_putOnTape_35 rfl ?_
          refine va_bast hx hb hK hP hD hS 1 0 rfl rfl (show ¬ ((1 : Int32) < 0 ∨ 1600 ≤ (1 : Int32).toNatClampNeg) from by decide +kernel) dX11_putOnTape_36 (fun H locs hP hD hS => ?_)
          have hP : va_P D classes [(h0, .inr (11, ((F.set 11 (.int 1)).set 11 (.int 2)))), (tp, .inl (k.1, 1600, .inl (upd f_4 1 (vp_nar .byte ((p0 >>> (16 &&& 31)).toInt8.toInt32)))))] H := hP
          have hD : va_D A [(h0, .inr (11, ((F.set 11 (.int 1)).set 11 (.int 2)))), (tp, .inl (k.1, 1600, .inl (upd f_4 1 (vp_nar .byte ((p0 >>> (16 &&& 31)).toInt8.toInt32)))))] := hD
          generalize (upd f_4 1 (vp_nar .byte ((p0 >>> (16 &&& 31)).toInt8.toInt32))) = f_8 at hP hD
          refine lv_iinc (v := 8) (lv' := [(2, .int 8), (0, .ref h0), (1, .int p0)]) hx hb dX11_putOnTape_37 hl (k := 0) rfl (by decide) (by decide) rfl (fun ls hl => ?_)
          refine lv_goto (tgt := 3) hx hb dX11_putOnTape_40 (by decide) ?_
          refine lv_iload_n hx hb dX11_putOnTape_3 rfl (lv_at hl 0 rfl) ?_
          refine lv_if_lt (tgt := 43) hx hb dX11_putOnTape_4 (by decide) (fun c_9 => ?_) (fun c_9 => ?_)
          · exact absurd c_9 (by decide)
          · have c_9 : ¬ ((8 : Int32) < 0) := c_9
            refine lv_aload_n hx hb dX11_putOnTape_7 rfl (lv_at hl 1 rfl) ?_
            refine va_get (D := D) (ci := 11) (v := .int 2) (C := RX11) (T := TX11) (N := 13) hx hb hg iX11 hown hK hP 0 rfl rfl 11 (by decide) (hg (Cond.fieldLink RX11 83 "SlabWalk" "taped" "I") m581) (fun _ h9 => h9) (fs_eq (fs_eq g_F_taped)) dX11_putOnTape_8 ?_
            refine lv_sipush (v := 1600) hx hb dX11_putOnTape_11 (by decide) ?_
            refine lv_icmp_ge (tgt := 37) hx hb dX11_putOnTape_14 (by decide) (fun c_10 => ?_) (fun c_10 => ?_)
            · exact absurd c_10 (by decide)
            · have c_10 : ¬ ((1600 : Int32) ≤ 2) := c_10
              refine lv_aload_n hx hb dX11_putOnTape_17 rfl (lv_at hl 1 rfl) ?_
              refine va_get (D := D) (ci := 11) (v := .ref tp) (C := RX11) (T := TX11) (N := 13) hx hb hg iX11 hown hK hP 0 rfl rfl 2 (by decide) (hg (Cond.fieldLink RX11 19 "SlabWalk" "tape" "[B") m572) (fun _ h9 => h9) (fs_ne (fs_ne g_F_tape (by decide)) (by decide)) dX11_putOnTape_18 ?_
              refine lv_aload_n hx hb dX11_putOnTape_21 rfl (lv_at hl 1 rfl) ?_
              refine lv_dup hx hb dX11_putOnTape_22 rfl ?_
              refine va_get (D := D) (ci := 11) (v := .int 2) (C := RX11) (T := TX11) (N := 13) hx hb hg iX11 hown hK hP 0 rfl rfl 11 (by decide) (hg (Cond.fieldLink RX11 83 "SlabWalk" "taped" "I") m581) (fun _ h9 => h9) (fs_eq (fs_eq g_F_taped)) dX11_putOnTape_23 ?_
              refine lv_dup_x1 hx hb dX11_putOnTape_26 rfl rfl ?_
              refine lv_iconst (v := 1) hx hb dX11_putOnTape_27 (by decide) ?_
              refine lv_iadd hx hb dX11_putOnTape_28 ?_
              refine lv_topi (fun y_11 ey_11 => ?_)
              obtain rfl : y_11 = 3 := ey_11.trans (by decide)
              refine va_put (D := D) (ci := 11) (v := .int 3) (ty := .int) (C := RX11) (T := TX11) (N := 13) hx hb hg iX11 tyX11 tyX11_ok nmX11 hown hK hP hD hS 0 rfl rfl 11 (by decide) (hg (Cond.fieldLink RX11 83 "SlabWalk" "taped" "I") m581) (fun _ h9 => h9) rfl (by decide +kernel) rfl rfl (fs_lt (fs_eq (fs_eq g_F_taped))) dX11_putOnTape_29 (fun H locs hP hD hS => ?_)
              have hP : va_P D classes [(h0, .inr (11, (((F.set 11 (.int 1)).set 11 (.int 2)).set 11 (.int 3)))), (tp, .inl (k.1, 1600, .inl f_8))] H := hP
              have hD : va_D A [(h0, .inr (11, (((F.set 11 (.int 1)).set 11 (.int 2)).set 11 (.int 3)))), (tp, .inl (k.1, 1600, .inl f_8))] := hD
              refine lv_iload_n hx hb dX11_putOnTape_32 rfl (lv_at hl 2 rfl) ?_
              refine lv_iload_n hx hb dX11_putOnTape_33 rfl (lv_at hl 0 rfl) ?_
              refine lv_ishr hx hb dX11_putOnTape_34 ?_
              refine lv_i2b (v := ((p0 >>> (8 &&& 31)).toInt8.toInt32)) hx hb dX11_putOnTape_35 rfl ?_
              refine va_bast hx hb hK hP hD hS 1 0 rfl rfl (show ¬ ((2 : Int32) < 0 ∨ 1600 ≤ (2 : Int32).toNatClampNeg) from by decide +kernel) dX11_putOnTape_36 (fun H locs hP hD hS => ?_)
              have hP : va_P D classes [(h0, .inr (11, (((F.set 11 (.int 1)).set 11 (.int 2)).set 11 (.int 3)))), (tp, .inl (k.1, 1600, .inl (upd f_8 2 (vp_nar .byte ((p0 >>> (8 &&& 31)).toInt8.toInt32)))))] H := hP
              have hD : va_D A [(h0, .inr (11, (((F.set 11 (.int 1)).set 11 (.int 2)).set 11 (.int 3)))), (tp, .inl (k.1, 1600, .inl (upd f_8 2 (vp_nar .byte ((p0 >>> (8 &&& 31)).toInt8.toInt32)))))] := hD
              generalize (upd f_8 2 (vp_nar .byte ((p0 >>> (8 &&& 31)).toInt8.toInt32))) = f_12 at hP hD
              refine lv_iinc (v := 0) (lv' := [(2, .int 0), (0, .ref h0), (1, .int p0)]) hx hb dX11_putOnTape_37 hl (k := 0) rfl (by decide) (by decide) rfl (fun ls hl => ?_)
              refine lv_goto (tgt := 3) hx hb dX11_putOnTape_40 (by decide) ?_
              refine lv_iload_n hx hb dX11_putOnTape_3 rfl (lv_at hl 0 rfl) ?_
              refine lv_if_lt (tgt := 43) hx hb dX11_putOnTape_4 (by decide) (fun c_13 => ?_) (fun c_13 => ?_)
              · exact absurd c_13 (by decide)
              · have c_13 : ¬ ((0 : Int32) < 0) := c_13
                refine lv_aload_n hx hb dX11_putOnTape_7 rfl (lv_at hl 1 rfl) ?_
                refine va_get (D := D) (ci := 11) (v := .int 3) (C := RX11) (T := TX11) (N := 13) hx hb hg iX11 hown hK hP 0 rfl rfl 11 (by decide) (hg (Cond.fieldLink RX11 83 "SlabWalk" "taped" "I") m581) (fun _ h9 => h9) (fs_eq (fs_eq (fs_eq g_F_taped))) dX11_putOnTape_8 ?_
                refine lv_sipush (v := 1600) hx hb dX11_putOnTape_11 (by decide) ?_
                refine lv_icmp_ge (tgt := 37) hx hb dX11_putOnTape_14 (by decide) (fun c_14 => ?_) (fun c_14 => ?_)
                · exact absurd c_14 (by decide)
                · have c_14 : ¬ ((1600 : Int32) ≤ 3) := c_14
                  refine lv_aload_n hx hb dX11_putOnTape_17 rfl (lv_at hl 1 rfl) ?_
                  refine va_get (D := D) (ci := 11) (v := .ref tp) (C := RX11) (T := TX11) (N := 13) hx hb hg iX11 hown hK hP 0 rfl rfl 2 (by decide) (hg (Cond.fieldLink RX11 19 "SlabWalk" "tape" "[B") m572) (fun _ h9 => h9) (fs_ne (fs_ne (fs_ne g_F_tape (by decide)) (by decide)) (by decide)) dX11_putOnTape_18 ?_
                  refine lv_aload_n hx hb dX11_putOnTape_21 rfl (lv_at hl 1 rfl) ?_
                  refine lv_dup hx hb dX11_putOnTape_22 rfl ?_
                  refine va_get (D := D) (ci := 11) (v := .int 3) (C := RX11) (T := TX11) (N := 13) hx hb hg iX11 hown hK hP 0 rfl rfl 11 (by decide) (hg (Cond.fieldLink RX11 83 "SlabWalk" "taped" "I") m581) (fun _ h9 => h9) (fs_eq (fs_eq (fs_eq g_F_taped))) dX11_putOnTape_23 ?_
                  refine lv_dup_x1 hx hb dX11_putOnTape_26 rfl rfl ?_
                  refine lv_iconst (v := 1) hx hb dX11_putOnTape_27 (by decide) ?_
                  refine lv_iadd hx hb dX11_putOnTape_28 ?_
                  refine lv_topi (fun y_15 ey_15 => ?_)
                  obtain rfl : y_15 = 4 := ey_15.trans (by decide)
                  refine va_put (D := D) (ci := 11) (v := .int 4) (ty := .int) (C := RX11) (T := TX11) (N := 13) hx hb hg iX11 tyX11 tyX11_ok nmX11 hown hK hP hD hS 0 rfl rfl 11 (by decide) (hg (Cond.fieldLink RX11 83 "SlabWalk" "taped" "I") m581) (fun _ h9 => h9) rfl (by decide +kernel) rfl rfl (fs_lt (fs_eq (fs_eq (fs_eq g_F_taped)))) dX11_putOnTape_29 (fun H locs hP hD hS => ?_)
                  have hP : va_P D classes [(h0, .inr (11, ((((F.set 11 (.int 1)).set 11 (.int 2)).set 11 (.int 3)).set 11 (.int 4)))), (tp, .inl (k.1, 1600, .inl f_12))] H := hP
                  have hD : va_D A [(h0, .inr (11, ((((F.set 11 (.int 1)).set 11 (.int 2)).set 11 (.int 3)).set 11 (.int 4)))), (tp, .inl (k.1, 1600, .inl f_12))] := hD
                  refine lv_iload_n hx hb dX11_putOnTape_32 rfl (lv_at hl 2 rfl) ?_
                  refine lv_iload_n hx hb dX11_putOnTape_33 rfl (lv_at hl 0 rfl) ?_
                  refine lv_ishr hx hb dX11_putOnTape_34 ?_
                  refine lv_i2b (v := ((p0 >>> (0 &&& 31)).toInt8.toInt32)) hx hb dX11_putOnTape_35 rfl ?_
                  refine va_bast hx hb hK hP hD hS 1 0 rfl rfl (show ¬ ((3 : Int32) < 0 ∨ 1600 ≤ (3 : Int32).toNatClampNeg) from by decide +kernel) dX11_putOnTape_36 (fun H locs hP hD hS => ?_)
                  have hP : va_P D classes [(h0, .inr (11, ((((F.set 11 (.int 1)).set 11 (.int 2)).set 11 (.int 3)).set 11 (.int 4)))), (tp, .inl (k.1, 1600, .inl (upd f_12 3 (vp_nar .byte ((p0 >>> (0 &&& 31)).toInt8.toInt32)))))] H := hP
                  have hD : va_D A [(h0, .inr (11, ((((F.set 11 (.int 1)).set 11 (.int 2)).set 11 (.int 3)).set 11 (.int 4)))), (tp, .inl (k.1, 1600, .inl (upd f_12 3 (vp_nar .byte ((p0 >>> (0 &&& 31)).toInt8.toInt32)))))] := hD
                  generalize (upd f_12 3 (vp_nar .byte ((p0 >>> (0 &&& 31)).toInt8.toInt32))) = f_16 at hP hD
                  refine lv_iinc (v := (-8)) (lv' := [(2, .int (-8)), (0, .ref h0), (1, .int p0)]) hx hb dX11_putOnTape_37 hl (k := 0) rfl (by decide) (by decide) rfl (fun ls hl => ?_)
                  refine lv_goto (tgt := 3) hx hb dX11_putOnTape_40 (by decide) ?_
                  refine lv_iload_n hx hb dX11_putOnTape_3 rfl (lv_at hl 0 rfl) ?_
                  refine lv_if_lt (tgt := 43) hx hb dX11_putOnTape_4 (by decide) (fun c_17 => ?_) (fun c_17 => ?_)
                  · have c_17 : ((-8) : Int32) < 0 := c_17
                    have hP9 := hP.sub (ws' := [(h0, .inr (11, ((((F.set 11 (.int 1)).set 11 (.int 2)).set 11 (.int 3)).set 11 (.int 4)))), (tp, .inl (k.1, 1600, .inl f_16))]) [0, 1] rfl
                    have hD9 := hD.sub (ws' := [(h0, .inr (11, ((((F.set 11 (.int 1)).set 11 (.int 2)).set 11 (.int 3)).set 11 (.int 4)))), (tp, .inl (k.1, 1600, .inl f_16))]) [0, 1] (by decide) rfl
                    exact W.vret hx hb hr (fun t ht hW => ⟨⟨(), rfl, trivial, ⟨((((F.set 11 (.int 1)).set 11 (.int 2)).set 11 (.int 3)).set 11 (.int 4)), f_16, (fs_eq (fs_eq (fs_eq (fs_eq g_F_taped)))), (fs_ne (fs_ne (fs_ne (fs_ne g_F_tape (by decide)) (by decide)) (by decide)) (by decide)), cB_of ht hP9 hD9⟩⟩, hS.F ht⟩) hS.2.2 dX11_putOnTape_43
                  · exact absurd (by decide) c_17

set_option maxHeartbeats 4000000 in
set_option maxRecDepth 100000 in
theorem c_put4 (l : Launch) (D : va_G) (k : ClassId × ClassId × ClassId × ClassId) (sz : Nat) (h0 tp : Nat) (F : List Value) (f : Nat → Int32) (p0 : Int32) (g_F_taped : F[11]? = some (.int 4)) (g_F_tape : F[2]? = some (.ref tp)) : Met l yX11_putOnTape (WS yX11_putOnTape cX11_putOnTape 3 none) ({ frames := 0, cells := 0, slots := 0, locals := 0 }) (va_Pc [.ref h0, .int p0] (cP D k [(h0, .inr (11, F)), (tp, .inl (k.1, 1600, .inl f))] sz)) (va_Qv (fun _ : Unit => True) (fun (_ : Unit) t => ∃ (F2 : List Value), ∃ (g : Nat → Int32), F2[11]? = some (.int 8) ∧ F2[2]? = some (.ref tp) ∧ cB D (va_A [(h0, .inr (11, F)), (tp, .inl (k.1, 1600, .inl f))] sz) [(h0, .inr (11, F2)), (tp, .inl (k.1, 1600, .inl g))] t) (va_A [(h0, .inr (11, F)), (tp, .inl (k.1, 1600, .inl f))] sz)) 0 0 (va_A [(h0, .inr (11, F)), (tp, .inl (k.1, 1600, .inl f))] sz) := by
  refine Met.ofW (cc := cX11_putOnTape) (maxL := 3) (ret := none) (by decide) rfl ?_
  intro p e s m args below meth c s₁ B hml hv
  obtain ⟨rfl, hsz, hP, hKX, hD0⟩ := hv
  have hK := hKX.1
  have hx := B.exec
  have hb := B.bytes
  have hr := B.returns
  have hts := atoms_spec (ws := WS yX11_putOnTape cX11_putOnTape 3 none) B.pre
  have hgd : ∀ w ∈ gd, w ∈ WS yX11_putOnTape cX11_putOnTape 3 none := fun w h => List.mem_cons_of_mem _ h
  have hg : ∀ w ∈ gd, w.before _ s = true := fun w h => hts w (hgd w h)
  have hown : s.vm.findClass RX11 = some m.cls := findClass_of_methodNamed B.named
  have hlocks := B.notSynchronized
  subst hsz
  have hD := hD0.self (sz := s.heap.size)
  generalize hAe : va_A [(h0, .inr (11, F)), (tp, .inl (k.1, 1600, .inl f))] s.heap.size = A at hD ⊢
  have hA : ∀ q : Nat, s.heap.size ≤ q → A q := fun q h => by rw [← hAe]; exact Or.inr h
  have hS : va_S A s.heap s.heap [] := va_S.rf
  have hP : va_P D classes [(h0, .inr (11, F)), (tp, .inl (k.1, 1600, .inl f))] s.heap := hP
  have hl := lv_entry ([.ref h0, .int p0]) (n := 3) (Nat.le_of_ble_eq_true rfl)
  rw [lg_entry_eq]
  generalize (lg_sl ([.ref h0, .int p0]) ++ List.replicate (3 - (lg_sl ([.ref h0, .int p0])).length) Slot.unset).toArray = ls at hl ⊢
  have hl : lv_has ls 3 [(0, .ref h0), (1, .int p0)] := hl
  refine lv_bipush (v := 24) hx hb dX11_putOnTape_0 (by decide) ?_
  refine lv_istore_n (lv' := [(2, .int 24), (0, .ref h0), (1, .int p0)]) hx hb dX11_putOnTape_2 rfl hl (by decide) rfl (fun ls hl => ?_)
  refine lv_iload_n hx hb dX11_putOnTape_3 rfl (lv_at hl 0 rfl) ?_
  refine lv_if_lt (tgt := 43) hx hb dX11_putOnTape_4 (by decide) (fun c_1 => ?_) (fun c_1 => ?_)
  · exact absurd c_1 (by decide)
  · have c_1 : ¬ ((24 : Int32) < 0) := c_1
    refine lv_aload_n hx hb dX11_putOnTape_7 rfl (lv_at hl 1 rfl) ?_
    refine va_get (D := D) (ci := 11) (v := .int 4) (C := RX11) (T := TX11) (N := 13) hx hb hg iX11 hown hK hP 0 rfl rfl 11 (by decide) (hg (Cond.fieldLink RX11 83 "SlabWalk" "taped" "I") m581) (fun _ h9 => h9) g_F_taped dX11_putOnTape_8 ?_
    refine lv_sipush (v := 1600) hx hb dX11_putOnTape_11 (by decide) ?_
    refine lv_icmp_ge (tgt := 37) hx hb dX11_putOnTape_14 (by decide) (fun c_2 => ?_) (fun c_2 => ?_)
    · exact absurd c_2 (by decide)
    · have c_2 : ¬ ((1600 : Int32) ≤ 4) := c_2
      refine lv_aload_n hx hb dX11_putOnTape_17 rfl (lv_at hl 1 rfl) ?_
      refine va_get (D := D) (ci := 11) (v := .ref tp) (C := RX11) (T := TX11) (N := 13) hx hb hg iX11 hown hK hP 0 rfl rfl 2 (by decide) (hg (Cond.fieldLink RX11 19 "SlabWalk" "tape" "[B") m572) (fun _ h9 => h9) g_F_tape dX11_putOnTape_18 ?_
      refine lv_aload_n hx hb dX11_putOnTape_21 rfl (lv_at hl 1 rfl) ?_
      refine lv_dup hx hb dX11_putOnTape_22 rfl ?_
      refine va_get (D := D) (ci := 11) (v := .int 4) (C := RX11) (T := TX11) (N := 13) hx hb hg iX11 hown hK hP 0 rfl rfl 11 (by decide) (hg (Cond.fieldLink RX11 83 "SlabWalk" "taped" "I") m581) (fun _ h9 => h9) g_F_taped dX11_putOnTape_23 ?_
      refine lv_dup_x1 hx hb dX11_putOnTape_26 rfl rfl ?_
      refine lv_iconst (v := 1) hx hb dX11_putOnTape_27 (by decide) ?_
      refine lv_iadd hx hb dX11_putOnTape_28 ?_
      refine lv_topi (fun y_3 ey_3 => ?_)
      obtain rfl : y_3 = 5 := ey_3.trans (by decide)
      refine va_put (D := D) (ci := 11) (v := .int 5) (ty := .int) (C := RX11) (T := TX11) (N := 13) hx hb hg iX11 tyX11 tyX11_ok nmX11 hown hK hP hD hS 0 rfl rfl 11 (by decide) (hg (Cond.fieldLink RX11 83 "SlabWalk" "taped" "I") m581) (fun _ h9 => h9) rfl (by decide +kernel) rfl rfl (fs_lt g_F_taped) dX11_putOnTape_29 (fun H locs hP hD hS => ?_)
      have hP : va_P D classes [(h0, .inr (11, (F.set 11 (.int 5)))), (tp, .inl (k.1, 1600, .inl f))] H := hP
      have hD : va_D A [(h0, .inr (11, (F.set 11 (.int 5)))), (tp, .inl (k.1, 1600, .inl f))] := hD
      refine lv_iload_n hx hb dX11_putOnTape_32 rfl (lv_at hl 2 rfl) ?_
      refine lv_iload_n hx hb dX11_putOnTape_33 rfl (lv_at hl 0 rfl) ?_
      refine lv_ishr hx hb dX11_putOnTape_34 ?_
      refine lv_i2b (v := ((p0 >>> (24 &&& 31)).toInt8.toInt32)) hx hb dX11_putOnTape_35 rfl ?_
      refine va_bast hx hb hK hP hD hS 1 0 rfl rfl (show ¬ ((4 : Int32) < 0 ∨ 1600 ≤ (4 : Int32).toNatClampNeg) from by decide +kernel) dX11_putOnTape_36 (fun H locs hP hD hS => ?_)
      have hP : va_P D classes [(h0, .inr (11, (F.set 11 (.int 5)))), (tp, .inl (k.1, 1600, .inl (upd f 4 (vp_nar .byte ((p0 >>> (24 &&& 31)).toInt8.toInt32)))))] H := hP
      have hD : va_D A [(h0, .inr (11, (F.set 11 (.int 5)))), (tp, .inl (k.1, 1600, .inl (upd f 4 (vp_nar .byte ((p0 >>> (24 &&& 31)).toInt8.toInt32)))))] := hD
      generalize (upd f 4 (vp_nar .byte ((p0 >>> (24 &&& 31)).toInt8.toInt32))) = f_4 at hP hD
      refine lv_iinc (v := 16) (lv' := [(2, .int 16), (0, .ref h0), (1, .int p0)]) hx hb dX11_putOnTape_37 hl (k := 0) rfl (by decide) (by decide) rfl (fun ls hl => ?_)
      refine lv_goto (tgt := 3) hx hb dX11_putOnTape_40 (by decide) ?_
      refine lv_iload_n hx hb dX11_putOnTape_3 rfl (lv_at hl 0 rfl) ?_
      refine lv_if_lt (tgt := 43) hx hb dX11_putOnTape_4 (by decide) (fun c_5 => ?_) (fun c_5 => ?_)
      · exact absurd c_5 (by decide)
      · have c_5 : ¬ ((16 : Int32) < 0) := c_5
        refine lv_aload_n hx hb dX11_putOnTape_7 rfl (lv_at hl 1 rfl) ?_
        refine va_get (D := D) (ci := 11) (v := .int 5) (C := RX11) (T := TX11) (N := 13) hx hb hg iX11 hown hK hP 0 rfl rfl 11 (by decide) (hg (Cond.fieldLink RX11 83 "SlabWalk" "taped" "I") m581) (fun _ h9 => h9) (fs_eq g_F_taped) dX11_putOnTape_8 ?_
        refine lv_sipush (v := 1600) hx hb dX11_putOnTape_11 (by decide) ?_
        refine lv_icmp_ge (tgt := 37) hx hb dX11_putOnTape_14 (by decide) (fun c_6 => ?_) (fun c_6 => ?_)
        · exact absurd c_6 (by decide)
        · have c_6 : ¬ ((1600 : Int32) ≤ 5) := c_6
          refine lv_aload_n hx hb dX11_putOnTape_17 rfl (lv_at hl 1 rfl) ?_
          refine va_get (D := D) (ci := 11) (v := .ref tp) (C := RX11) (T := TX11) (N := 13) hx hb hg iX11 hown hK hP 0 rfl rfl 2 (by decide) (hg (Cond.fieldLink RX11 19 "SlabWalk" "tape" "[B") m572) (fun _ h9 => h9) (fs_ne g_F_tape (by decide)) dX11_putOnTape_18 ?_
          refine lv_aload_n hx hb dX11_putOnTape_21 rfl (lv_at hl 1 rfl) ?_
          refine lv_dup hx hb dX11_putOnTape_22 rfl ?_
          refine va_get (D := D) (ci := 11) (v := .int 5) (C := RX11) (T := TX11) (N := 13) hx hb hg iX11 hown hK hP 0 rfl rfl 11 (by decide) (hg (Cond.fieldLink RX11 83 "SlabWalk" "taped" "I") m581) (fun _ h9 => h9) (fs_eq g_F_taped) dX11_putOnTape_23 ?_
          refine lv_dup_x1 hx hb dX11_putOnTape_26 rfl rfl ?_
          refine lv_iconst (v := 1) hx hb dX11_putOnTape_27 (by decide) ?_
          refine lv_iadd hx hb dX11_putOnTape_28 ?_
          refine lv_topi (fun y_7 ey_7 => ?_)
          obtain rfl : y_7 = 6 := ey_7.trans (by decide)
          refine va_put (D := D) (ci := 11) (v := .int 6) (ty := .int) (C := RX11) (T := TX11) (N := 13) hx hb hg iX11 tyX11 tyX11_ok nmX11 hown hK hP hD hS 0 rfl rfl 11 (by decide) (hg (Cond.fieldLink RX11 83 "SlabWalk" "taped" "I") m581) (fun _ h9 => h9) rfl (by decide +kernel) rfl rfl (fs_lt (fs_eq g_F_taped)) dX11_putOnTape_29 (fun H locs hP hD hS => ?_)
          have hP : va_P D classes [(h0, .inr (11, ((F.set 11 (.int 5)).set 11 (.int 6)))), (tp, .inl (k.1, 1600, .inl f_4))] H := hP
          have hD : va_D A [(h0, .inr (11, ((F.set 11 (.int 5)).set 11 (.int 6)))), (tp, .inl (k.1, 1600, .inl f_4))] := hD
          refine lv_iload_n hx hb dX11_putOnTape_32 rfl (lv_at hl 2 rfl) ?_
          refine lv_iload_n hx hb dX11_putOnTape_33 rfl (lv_at hl 0 rfl) ?_
          refine lv_ishr hx hb dX11_putOnTape_34 ?_
          refine lv_i2b (v := ((p0 >>> (16 &&& 31)).toInt8.toInt32)) hx hb dX11_putOnTape_35 rfl ?_
          refine va_bast hx hb hK hP hD hS 1 0 rfl rfl (show ¬ ((5 : Int32) < 0 ∨ 1600 ≤ (5 : Int32).toNatClampNeg) from by decide +kernel) dX11_putOnTape_36 (fun H locs hP hD hS => ?_)
          have hP : va_P D classes [(h0, .inr (11, ((F.set 11 (.int 5)).set 11 (.int 6)))), (tp, .inl (k.1, 1600, .inl (upd f_4 5 (vp_nar .byte ((p0 >>> (16 &&& 31)).toInt8.toInt32)))))] H := hP
          have hD : va_D A [(h0, .inr (11, ((F.set 11 (.int 5)).set 11 (.int 6)))), (tp, .inl (k.1, 1600, .inl (upd f_4 5 (vp_nar .byte ((p0 >>> (16 &&& 31)).toInt8.toInt32)))))] := hD
          generalize (upd f_4 5 (vp_nar .byte ((p0 >>> (16 &&& 31)).toInt8.toInt32))) = f_8 at hP hD
          refine lv_iinc (v := 8) (lv' := [(2, .int 8), (0, .ref h0), (1, .int p0)]) hx hb dX11_putOnTape_37 hl (k := 0) rfl (by decide) (by decide) rfl (fun ls hl => ?_)
          refine lv_goto (tgt := 3) hx hb dX11_putOnTape_40 (by decide) ?_
          refine lv_iload_n hx hb dX11_putOnTape_3 rfl (lv_at hl 0 rfl) ?_
          refine lv_if_lt (tgt := 43) hx hb dX11_putOnTape_4 (by decide) (fun c_9 => ?_) (fun c_9 => ?_)
          · exact absurd c_9 (by decide)
          · have c_9 : ¬ ((8 : Int32) < 0) := c_9
            refine lv_aload_n hx hb dX11_putOnTape_7 rfl (lv_at hl 1 rfl) ?_
            refine va_get (D := D) (ci := 11) (v := .int 6) (C := RX11) (T := TX11) (N := 13) hx hb hg iX11 hown hK hP 0 rfl rfl 11 (by decide) (hg (Cond.fieldLink RX11 83 "SlabWalk" "taped" "I") m581) (fun _ h9 => h9) (fs_eq (fs_eq g_F_taped)) dX11_putOnTape_8 ?_
            refine lv_sipush (v := 1600) hx hb dX11_putOnTape_11 (by decide) ?_
            refine lv_icmp_ge (tgt := 37) hx hb dX11_putOnTape_14 (by decide) (fun c_10 => ?_) (fun c_10 => ?_)
            · exact absurd c_10 (by decide)
            · have c_10 : ¬ ((1600 : Int32) ≤ 6) := c_10
              refine lv_aload_n hx hb dX11_putOnTape_17 rfl (lv_at hl 1 rfl) ?_
              refine va_get (D := D) (ci := 11) (v := .ref tp) (C := RX11) (T := TX11) (N := 13) hx hb hg iX11 hown hK hP 0 rfl rfl 2 (by decide) (hg (Cond.fieldLink RX11 19 "SlabWalk" "tape" "[B") m572) (fun _ h9 => h9) (fs_ne (fs_ne g_F_tape (by decide)) (by decide)) dX11_putOnTape_18 ?_
              refine lv_aload_n hx hb dX11_putOnTape_21 rfl (lv_at hl 1 rfl) ?_
              refine lv_dup hx hb dX11_putOnTape_22 rfl ?_
              refine va_get (D := D) (ci := 11) (v := .int 6) (C := RX11) (T := TX11) (N := 13) hx hb hg iX11 hown hK hP 0 rfl rfl 11 (by decide) (hg (Cond.fieldLink RX11 83 "SlabWalk" "taped" "I") m581) (fun _ h9 => h9) (fs_eq (fs_eq g_F_taped)) dX11_putOnTape_23 ?_
              refine lv_dup_x1 hx hb dX11_putOnTape_26 rfl rfl ?_
              refine lv_iconst (v := 1) hx hb dX11_putOnTape_27 (by decide) ?_
              refine lv_iadd hx hb dX11_putOnTape_28 ?_
              refine lv_topi (fun y_11 ey_11 => ?_)
              obtain rfl : y_11 = 7 := ey_11.trans (by decide)
              refine va_put (D := D) (ci := 11) (v := .int 7) (ty := .int) (C := RX11) (T := TX11) (N := 13) hx hb hg iX11 tyX11 tyX11_ok nmX11 hown hK hP hD hS 0 rfl rfl 11 (by decide) (hg (Cond.fieldLink RX11 83 "SlabWalk" "taped" "I") m581) (fun _ h9 => h9) rfl (by decide +kernel) rfl rfl (fs_lt (fs_eq (fs_eq g_F_taped))) dX11_putOnTape_29 (fun H locs hP hD hS => ?_)
              have hP : va_P D classes [(h0, .inr (11, (((F.set 11 (.int 5)).set 11 (.int 6)).set 11 (.int 7)))), (tp, .inl (k.1, 1600, .inl f_8))] H := hP
              have hD : va_D A [(h0, .inr (11, (((F.set 11 (.int 5)).set 11 (.int 6)).set 11 (.int 7)))), (tp, .inl (k.1, 1600, .inl f_8))] := hD
              refine lv_iload_n hx hb dX11_putOnTape_32 rfl (lv_at hl 2 rfl) ?_
              refine lv_iload_n hx hb dX11_putOnTape_33 rfl (lv_at hl 0 rfl) ?_
              refine lv_ishr hx hb dX11_putOnTape_34 ?_
              refine lv_i2b (v := ((p0 >>> (8 &&& 31)).toInt8.toInt32)) hx hb dX11_putOnTape_35 rfl ?_
              refine va_bast hx hb hK hP hD hS 1 0 rfl rfl (show ¬ ((6 : Int32) < 0 ∨ 1600 ≤ (6 : Int32).toNatClampNeg) from by decide +kernel) dX11_putOnTape_36 (fun H locs hP hD hS => ?_)
              have hP : va_P D classes [(h0, .inr (11, (((F.set 11 (.int 5)).set 11 (.int 6)).set 11 (.int 7)))), (tp, .inl (k.1, 1600, .inl (upd f_8 6 (vp_nar .byte ((p0 >>> (8 &&& 31)).toInt8.toInt32)))))] H := hP
              have hD : va_D A [(h0, .inr (11, (((F.set 11 (.int 5)).set 11 (.int 6)).set 11 (.int 7)))), (tp, .inl (k.1, 1600, .inl (upd f_8 6 (vp_nar .byte ((p0 >>> (8 &&& 31)).toInt8.toInt32)))))] := hD
              generalize (upd f_8 6 (vp_nar .byte ((p0 >>> (8 &&& 31)).toInt8.toInt32))) = f_12 at hP hD
              refine lv_iinc (v := 0) (lv' := [(2, .int 0), (0, .ref h0), (1, .int p0)]) hx hb dX11_putOnTape_37 hl (k := 0) rfl (by decide) (by decide) rfl (fun ls hl => ?_)
              refine lv_goto (tgt := 3) hx hb dX11_putOnTape_40 (by decide) ?_
              refine lv_iload_n hx hb dX11_putOnTape_3 rfl (lv_at hl 0 rfl) ?_
              refine lv_if_lt (tgt := 43) hx hb dX11_putOnTape_4 (by decide) (fun c_13 => ?_) (fun c_13 => ?_)
              · exact absurd c_13 (by decide)
              · have c_13 : ¬ ((0 : Int32) < 0) := c_13
                refine lv_aload_n hx hb dX11_putOnTape_7 rfl (lv_at hl 1 rfl) ?_
                refine va_get (D := D) (ci := 11) (v := .int 7) (C := RX11) (T := TX11) (N := 13) hx hb hg iX11 hown hK hP 0 rfl rfl 11 (by decide) (hg (Cond.fieldLink RX11 83 "SlabWalk" "taped" "I") m581) (fun _ h9 => h9) (fs_eq (fs_eq (fs_eq g_F_taped))) dX11_putOnTape_8 ?_
                refine lv_sipush (v := 1600) hx hb dX11_putOnTape_11 (by decide) ?_
                refine lv_icmp_ge (tgt := 37) hx hb dX11_putOnTape_14 (by decide) (fun c_14 => ?_) (fun c_14 => ?_)
                · exact absurd c_14 (by decide)
                · have c_14 : ¬ ((1600 : Int32) ≤ 7) := c_14
                  refine lv_aload_n hx hb dX11_putOnTape_17 rfl (lv_at hl 1 rfl) ?_
                  refine va_get (D := D) (ci := 11) (v := .ref tp) (C := RX11) (T := TX11) (N := 13) hx hb hg iX11 hown hK hP 0 rfl rfl 2 (by decide) (hg (Cond.fieldLink RX11 19 "SlabWalk" "tape" "[B") m572) (fun _ h9 => h9) (fs_ne (fs_ne (fs_ne g_F_tape (by decide)) (by decide)) (by decide)) dX11_putOnTape_18 ?_
                  refine lv_aload_n hx hb dX11_putOnTape_21 rfl (lv_at hl 1 rfl) ?_
                  refine lv_dup hx hb dX11_putOnTape_22 rfl ?_
                  refine va_get (D := D) (ci := 11) (v := .int 7) (C := RX11) (T := TX11) (N := 13) hx hb hg iX11 hown hK hP 0 rfl rfl 11 (by decide) (hg (Cond.fieldLink RX11 83 "SlabWalk" "taped" "I") m581) (fun _ h9 => h9) (fs_eq (fs_eq (fs_eq g_F_taped))) dX11_putOnTape_23 ?_
                  refine lv_dup_x1 hx hb dX11_putOnTape_26 rfl rfl ?_
                  refine lv_iconst (v := 1) hx hb dX11_putOnTape_27 (by decide) ?_
                  refine lv_iadd hx hb dX11_putOnTape_28 ?_
                  refine lv_topi (fun y_15 ey_15 => ?_)
                  obtain rfl : y_15 = 8 := ey_15.trans (by decide)
                  refine va_put (D := D) (ci := 11) (v := .int 8) (ty := .int) (C := RX11) (T := TX11) (N := 13) hx hb hg iX11 tyX11 tyX11_ok nmX11 hown hK hP hD hS 0 rfl rfl 11 (by decide) (hg (Cond.fieldLink RX11 83 "SlabWalk" "taped" "I") m581) (fun _ h9 => h9) rfl (by decide +kernel) rfl rfl (fs_lt (fs_eq (fs_eq (fs_eq g_F_taped)))) dX11_putOnTape_29 (fun H locs hP hD hS => ?_)
                  have hP : va_P D classes [(h0, .inr (11, ((((F.set 11 (.int 5)).set 11 (.int 6)).set 11 (.int 7)).set 11 (.int 8)))), (tp, .inl (k.1, 1600, .inl f_12))] H := hP
                  have hD : va_D A [(h0, .inr (11, ((((F.set 11 (.int 5)).set 11 (.int 6)).set 11 (.int 7)).set 11 (.int 8)))), (tp, .inl (k.1, 1600, .inl f_12))] := hD
                  refine lv_iload_n hx hb dX11_putOnTape_32 rfl (lv_at hl 2 rfl) ?_
                  refine lv_iload_n hx hb dX11_putOnTape_33 rfl (lv_at hl 0 rfl) ?_
                  refine lv_ishr hx hb dX11_putOnTape_34 ?_
                  refine lv_i2b (v := ((p0 >>> (0 &&& 31)).toInt8.toInt32)) hx hb dX11_putOnTape_35 rfl ?_
                  refine va_bast hx hb hK hP hD hS 1 0 rfl rfl (show ¬ ((7 : Int32) < 0 ∨ 1600 ≤ (7 : Int32).toNatClampNeg) from by decide +kernel) dX11_putOnTape_36 (fun H locs hP hD hS => ?_)
                  have hP : va_P D classes [(h0, .inr (11, ((((F.set 11 (.int 5)).set 11 (.int 6)).set 11 (.int 7)).set 11 (.int 8)))), (tp, .inl (k.1, 1600, .inl (upd f_12 7 (vp_nar .byte ((p0 >>> (0 &&& 31)).toInt8.toInt32)))))] H := hP
                  have hD : va_D A [(h0, .inr (11, ((((F.set 11 (.int 5)).set 11 (.int 6)).set 11 (.int 7)).set 11 (.int 8)))), (tp, .inl (k.1, 1600, .inl (upd f_12 7 (vp_nar .byte ((p0 >>> (0 &&& 31)).toInt8.toInt32)))))] := hD
                  generalize (upd f_12 7 (vp_nar .byte ((p0 >>> (0 &&& 31)).toInt8.toInt32))) = f_16 at hP hD
                  refine lv_iinc (v := (-8)) (lv' := [(2, .int (-8)), (0, .ref h0), (1, .int p0)]) hx hb dX11_putOnTape_37 hl (k := 0) rfl (by decide) (by decide) rfl (fun ls hl => ?_)
                  refine lv_goto (tgt := 3) hx hb dX11_putOnTape_40 (by decide) ?_
                  refine lv_iload_n hx hb dX11_putOnTape_3 rfl (lv_at hl 0 rfl) ?_
                  refine lv_if_lt (tgt := 43) hx hb dX11_putOnTape_4 (by decide) (fun c_17 => ?_) (fun c_17 => ?_)
                  · have c_17 : ((-8) : Int32) < 0 := c_17
                    have hP9 := hP.sub (ws' := [(h0, .inr (11, ((((F.set 11 (.int 5)).set 11 (.int 6)).set 11 (.int 7)).set 11 (.int 8)))), (tp, .inl (k.1, 1600, .inl f_16))]) [0, 1] rfl
                    have hD9 := hD.sub (ws' := [(h0, .inr (11, ((((F.set 11 (.int 5)).set 11 (.int 6)).set 11 (.int 7)).set 11 (.int 8)))), (tp, .inl (k.1, 1600, .inl f_16))]) [0, 1] (by decide) rfl
                    exact W.vret hx hb hr (fun t ht hW => ⟨⟨(), rfl, trivial, ⟨((((F.set 11 (.int 5)).set 11 (.int 6)).set 11 (.int 7)).set 11 (.int 8)), f_16, (fs_eq (fs_eq (fs_eq (fs_eq g_F_taped)))), (fs_ne (fs_ne (fs_ne (fs_ne g_F_tape (by decide)) (by decide)) (by decide)) (by decide)), cB_of ht hP9 hD9⟩⟩, hS.F ht⟩) hS.2.2 dX11_putOnTape_43
                  · exact absurd (by decide) c_17

set_option maxHeartbeats 4000000 in
set_option maxRecDepth 100000 in
theorem c_put8 (l : Launch) (D : va_G) (k : ClassId × ClassId × ClassId × ClassId) (sz : Nat) (h0 tp : Nat) (F : List Value) (f : Nat → Int32) (p0 : Int32) (g_F_taped : F[11]? = some (.int 8)) (g_F_tape : F[2]? = some (.ref tp)) : Met l yX11_putOnTape (WS yX11_putOnTape cX11_putOnTape 3 none) ({ frames := 0, cells := 0, slots := 0, locals := 0 }) (va_Pc [.ref h0, .int p0] (cP D k [(h0, .inr (11, F)), (tp, .inl (k.1, 1600, .inl f))] sz)) (va_Qv (fun _ : Unit => True) (fun (_ : Unit) t => ∃ (F2 : List Value), ∃ (g : Nat → Int32), F2[11]? = some (.int 12) ∧ F2[2]? = some (.ref tp) ∧ cB D (va_A [(h0, .inr (11, F)), (tp, .inl (k.1, 1600, .inl f))] sz) [(h0, .inr (11, F2)), (tp, .inl (k.1, 1600, .inl g))] t) (va_A [(h0, .inr (11, F)), (tp, .inl (k.1, 1600, .inl f))] sz)) 0 0 (va_A [(h0, .inr (11, F)), (tp, .inl (k.1, 1600, .inl f))] sz) := by
  refine Met.ofW (cc := cX11_putOnTape) (maxL := 3) (ret := none) (by decide) rfl ?_
  intro p e s m args below meth c s₁ B hml hv
  obtain ⟨rfl, hsz, hP, hKX, hD0⟩ := hv
  have hK := hKX.1
  have hx := B.exec
  have hb := B.bytes
  have hr := B.returns
  have hts := atoms_spec (ws := WS yX11_putOnTape cX11_putOnTape 3 none) B.pre
  have hgd : ∀ w ∈ gd, w ∈ WS yX11_putOnTape cX11_putOnTape 3 none := fun w h => List.mem_cons_of_mem _ h
  have hg : ∀ w ∈ gd, w.before _ s = true := fun w h => hts w (hgd w h)
  have hown : s.vm.findClass RX11 = some m.cls := findClass_of_methodNamed B.named
  have hlocks := B.notSynchronized
  subst hsz
  have hD := hD0.self (sz := s.heap.size)
  generalize hAe : va_A [(h0, .inr (11, F)), (tp, .inl (k.1, 1600, .inl f))] s.heap.size = A at hD ⊢
  have hA : ∀ q : Nat, s.heap.size ≤ q → A q := fun q h => by rw [← hAe]; exact Or.inr h
  have hS : va_S A s.heap s.heap [] := va_S.rf
  have hP : va_P D classes [(h0, .inr (11, F)), (tp, .inl (k.1, 1600, .inl f))] s.heap := hP
  have hl := lv_entry ([.ref h0, .int p0]) (n := 3) (Nat.le_of_ble_eq_true rfl)
  rw [lg_entry_eq]
  generalize (lg_sl ([.ref h0, .int p0]) ++ List.replicate (3 - (lg_sl ([.ref h0, .int p0])).length) Slot.unset).toArray = ls at hl ⊢
  have hl : lv_has ls 3 [(0, .ref h0), (1, .int p0)] := hl
  refine lv_bipush (v := 24) hx hb dX11_putOnTape_0 (by decide) ?_
  refine lv_istore_n (lv' := [(2, .int 24), (0, .ref h0), (1, .int p0)]) hx hb dX11_putOnTape_2 rfl hl (by decide) rfl (fun ls hl => ?_)
  refine lv_iload_n hx hb dX11_putOnTape_3 rfl (lv_at hl 0 rfl) ?_
  refine lv_if_lt (tgt := 43) hx hb dX11_putOnTape_4 (by decide) (fun c_1 => ?_) (fun c_1 => ?_)
  · exact absurd c_1 (by decide)
  · have c_1 : ¬ ((24 : Int32) < 0) := c_1
    refine lv_aload_n hx hb dX11_putOnTape_7 rfl (lv_at hl 1 rfl) ?_
    refine va_get (D := D) (ci := 11) (v := .int 8) (C := RX11) (T := TX11) (N := 13) hx hb hg iX11 hown hK hP 0 rfl rfl 11 (by decide) (hg (Cond.fieldLink RX11 83 "SlabWalk" "taped" "I") m581) (fun _ h9 => h9) g_F_taped dX11_putOnTape_8 ?_
    refine lv_sipush (v := 1600) hx hb dX11_putOnTape_11 (by decide) ?_
    refine lv_icmp_ge (tgt := 37) hx hb dX11_putOnTape_14 (by decide) (fun c_2 => ?_) (fun c_2 => ?_)
    · exact absurd c_2 (by decide)
    · have c_2 : ¬ ((1600 : Int32) ≤ 8) := c_2
      refine lv_aload_n hx hb dX11_putOnTape_17 rfl (lv_at hl 1 rfl) ?_
      refine va_get (D := D) (ci := 11) (v := .ref tp) (C := RX11) (T := TX11) (N := 13) hx hb hg iX11 hown hK hP 0 rfl rfl 2 (by decide) (hg (Cond.fieldLink RX11 19 "SlabWalk" "tape" "[B") m572) (fun _ h9 => h9) g_F_tape dX11_putOnTape_18 ?_
      refine lv_aload_n hx hb dX11_putOnTape_21 rfl (lv_at hl 1 rfl) ?_
      refine lv_dup hx hb dX11_putOnTape_22 rfl ?_
      refine va_get (D := D) (ci := 11) (v := .int 8) (C := RX11) (T := TX11) (N := 13) hx hb hg iX11 hown hK hP 0 rfl rfl 11 (by decide) (hg (Cond.fieldLink RX11 83 "SlabWalk" "taped" "I") m581) (fun _ h9 => h9) g_F_taped dX11_putOnTape_23 ?_
      refine lv_dup_x1 hx hb dX11_putOnTape_26 rfl rfl ?_
      refine lv_iconst (v := 1) hx hb dX11_putOnTape_27 (by decide) ?_
      refine lv_iadd hx hb dX11_putOnTape_28 ?_
      refine lv_topi (fun y_3 ey_3 => ?_)
      obtain rfl : y_3 = 9 := ey_3.trans (by decide)
      refine va_put (D := D) (ci := 11) (v := .int 9) (ty := .int) (C := RX11) (T := TX11) (N := 13) hx hb hg iX11 tyX11 tyX11_ok nmX11 hown hK hP hD hS 0 rfl rfl 11 (by decide) (hg (Cond.fieldLink RX11 83 "SlabWalk" "taped" "I") m581) (fun _ h9 => h9) rfl (by decide +kernel) rfl rfl (fs_lt g_F_taped) dX11_putOnTape_29 (fun H locs hP hD hS => ?_)
      have hP : va_P D classes [(h0, .inr (11, (F.set 11 (.int 9)))), (tp, .inl (k.1, 1600, .inl f))] H := hP
      have hD : va_D A [(h0, .inr (11, (F.set 11 (.int 9)))), (tp, .inl (k.1, 1600, .inl f))] := hD
      refine lv_iload_n hx hb dX11_putOnTape_32 rfl (lv_at hl 2 rfl) ?_
      refine lv_iload_n hx hb dX11_putOnTape_33 rfl (lv_at hl 0 rfl) ?_
      refine lv_ishr hx hb dX11_putOnTape_34 ?_
      refine lv_i2b (v := ((p0 >>> (24 &&& 31)).toInt8.toInt32)) hx hb dX11_putOnTape_35 rfl ?_
      refine va_bast hx hb hK hP hD hS 1 0 rfl rfl (show ¬ ((8 : Int32) < 0 ∨ 1600 ≤ (8 : Int32).toNatClampNeg) from by decide +kernel) dX11_putOnTape_36 (fun H locs hP hD hS => ?_)
      have hP : va_P D classes [(h0, .inr (11, (F.set 11 (.int 9)))), (tp, .inl (k.1, 1600, .inl (upd f 8 (vp_nar .byte ((p0 >>> (24 &&& 31)).toInt8.toInt32)))))] H := hP
      have hD : va_D A [(h0, .inr (11, (F.set 11 (.int 9)))), (tp, .inl (k.1, 1600, .inl (upd f 8 (vp_nar .byte ((p0 >>> (24 &&& 31)).toInt8.toInt32)))))] := hD
      generalize (upd f 8 (vp_nar .byte ((p0 >>> (24 &&& 31)).toInt8.toInt32))) = f_4 at hP hD
      refine lv_iinc (v := 16) (lv' := [(2, .int 16), (0, .ref h0), (1, .int p0)]) hx hb dX11_putOnTape_37 hl (k := 0) rfl (by decide) (by decide) rfl (fun ls hl => ?_)
      refine lv_goto (tgt := 3) hx hb dX11_putOnTape_40 (by decide) ?_
      refine lv_iload_n hx hb dX11_putOnTape_3 rfl (lv_at hl 0 rfl) ?_
      refine lv_if_lt (tgt := 43) hx hb dX11_putOnTape_4 (by decide) (fun c_5 => ?_) (fun c_5 => ?_)
      · exact absurd c_5 (by decide)
      · have c_5 : ¬ ((16 : Int32) < 0) := c_5
        refine lv_aload_n hx hb dX11_putOnTape_7 rfl (lv_at hl 1 rfl) ?_
        refine va_get (D := D) (ci := 11) (v := .int 9) (C := RX11) (T := TX11) (N := 13) hx hb hg iX11 hown hK hP 0 rfl rfl 11 (by decide) (hg (Cond.fieldLink RX11 83 "SlabWalk" "taped" "I") m581) (fun _ h9 => h9) (fs_eq g_F_taped) dX11_putOnTape_8 ?_
        refine lv_sipush (v := 1600) hx hb dX11_putOnTape_11 (by decide) ?_
        refine lv_icmp_ge (tgt := 37) hx hb dX11_putOnTape_14 (by decide) (fun c_6 => ?_) (fun c_6 => ?_)
        · exact absurd c_6 (by decide)
        · have c_6 : ¬ ((1600 : Int32) ≤ 9) := c_6
          refine lv_aload_n hx hb dX11_putOnTape_17 rfl (lv_at hl 1 rfl) ?_
          refine va_get (D := D) (ci := 11) (v := .ref tp) (C := RX11) (T := TX11) (N := 13) hx hb hg iX11 hown hK hP 0 rfl rfl 2 (by decide) (hg (Cond.fieldLink RX11 19 "SlabWalk" "tape" "[B") m572) (fun _ h9 => h9) (fs_ne g_F_tape (by decide)) dX11_putOnTape_18 ?_
          refine lv_aload_n hx hb dX11_putOnTape_21 rfl (lv_at hl 1 rfl) ?_
          refine lv_dup hx hb dX11_putOnTape_22 rfl ?_
          refine va_get (D := D) (ci := 11) (v := .int 9) (C := RX11) (T := TX11) (N := 13) hx hb hg iX11 hown hK hP 0 rfl rfl 11 (by decide) (hg (Cond.fieldLink RX11 83 "SlabWalk" "taped" "I") m581) (fun _ h9 => h9) (fs_eq g_F_taped) dX11_putOnTape_23 ?_
          refine lv_dup_x1 hx hb dX11_putOnTape_26 rfl rfl ?_
          refine lv_iconst (v := 1) hx hb dX11_putOnTape_27 (by decide) ?_
          refine lv_iadd hx hb dX11_putOnTape_28 ?_
          refine lv_topi (fun y_7 ey_7 => ?_)
          obtain rfl : y_7 = 10 := ey_7.trans (by decide)
          refine va_put (D := D) (ci := 11) (v := .int 10) (ty := .int) (C := RX11) (T := TX11) (N := 13) hx hb hg iX11 tyX11 tyX11_ok nmX11 hown hK hP hD hS 0 rfl rfl 11 (by decide) (hg (Cond.fieldLink RX11 83 "SlabWalk" "taped" "I") m581) (fun _ h9 => h9) rfl (by decide +kernel) rfl rfl (fs_lt (fs_eq g_F_taped)) dX11_putOnTape_29 (fun H locs hP hD hS => ?_)
          have hP : va_P D classes [(h0, .inr (11, ((F.set 11 (.int 9)).set 11 (.int 10)))), (tp, .inl (k.1, 1600, .inl f_4))] H := hP
          have hD : va_D A [(h0, .inr (11, ((F.set 11 (.int 9)).set 11 (.int 10)))), (tp, .inl (k.1, 1600, .inl f_4))] := hD
          refine lv_iload_n hx hb dX11_putOnTape_32 rfl (lv_at hl 2 rfl) ?_
          refine lv_iload_n hx hb dX11_putOnTape_33 rfl (lv_at hl 0 rfl) ?_
          refine lv_ishr hx hb dX11_putOnTape_34 ?_
          refine lv_i2b (v := ((p0 >>> (16 &&& 31)).toInt8.toInt32)) hx hb dX11_putOnTape_35 rfl ?_
          refine va_bast hx hb hK hP hD hS 1 0 rfl rfl (show ¬ ((9 : Int32) < 0 ∨ 1600 ≤ (9 : Int32).toNatClampNeg) from by decide +kernel) dX11_putOnTape_36 (fun H locs hP hD hS => ?_)
          have hP : va_P D classes [(h0, .inr (11, ((F.set 11 (.int 9)).set 11 (.int 10)))), (tp, .inl (k.1, 1600, .inl (upd f_4 9 (vp_nar .byte ((p0 >>> (16 &&& 31)).toInt8.toInt32)))))] H := hP
          have hD : va_D A [(h0, .inr (11, ((F.set 11 (.int 9)).set 11 (.int 10)))), (tp, .inl (k.1, 1600, .inl (upd f_4 9 (vp_nar .byte ((p0 >>> (16 &&& 31)).toInt8.toInt32)))))] := hD
          generalize (upd f_4 9 (vp_nar .byte ((p0 >>> (16 &&& 31)).toInt8.toInt32))) = f_8 at hP hD
          refine lv_iinc (v := 8) (lv' := [(2, .int 8), (0, .ref h0), (1, .int p0)]) hx hb dX11_putOnTape_37 hl (k := 0) rfl (by decide) (by decide) rfl (fun ls hl => ?_)
          refine lv_goto (tgt := 3) hx hb dX11_putOnTape_40 (by decide) ?_
          refine lv_iload_n hx hb dX11_putOnTape_3 rfl (lv_at hl 0 rfl) ?_
          refine lv_if_lt (tgt := 43) hx hb dX11_putOnTape_4 (by decide) (fun c_9 => ?_) (fun c_9 => ?_)
          · exact absurd c_9 (by decide)
          · have c_9 : ¬ ((8 : Int32) < 0) := c_9
            refine lv_aload_n hx hb dX11_putOnTape_7 rfl (lv_at hl 1 rfl) ?_
            refine va_get (D := D) (ci := 11) (v := .int 10) (C := RX11) (T := TX11) (N := 13) hx hb hg iX11 hown hK hP 0 rfl rfl 11 (by decide) (hg (Cond.fieldLink RX11 83 "SlabWalk" "taped" "I") m581) (fun _ h9 => h9) (fs_eq (fs_eq g_F_taped)) dX11_putOnTape_8 ?_
            refine lv_sipush (v := 1600) hx hb dX11_putOnTape_11 (by decide) ?_
            refine lv_icmp_ge (tgt := 37) hx hb dX11_putOnTape_14 (by decide) (fun c_10 => ?_) (fun c_10 => ?_)
            · exact absurd c_10 (by decide)
            · have c_10 : ¬ ((1600 : Int32) ≤ 10) := c_10
              refine lv_aload_n hx hb dX11_putOnTape_17 rfl (lv_at hl 1 rfl) ?_
              refine va_get (D := D) (ci := 11) (v := .ref tp) (C := RX11) (T := TX11) (N := 13) hx hb hg iX11 hown hK hP 0 rfl rfl 2 (by decide) (hg (Cond.fieldLink RX11 19 "SlabWalk" "tape" "[B") m572) (fun _ h9 => h9) (fs_ne (fs_ne g_F_tape (by decide)) (by decide)) dX11_putOnTape_18 ?_
              refine lv_aload_n hx hb dX11_putOnTape_21 rfl (lv_at hl 1 rfl) ?_
              refine lv_dup hx hb dX11_putOnTape_22 rfl ?_
              refine va_get (D := D) (ci := 11) (v := .int 10) (C := RX11) (T := TX11) (N := 13) hx hb hg iX11 hown hK hP 0 rfl rfl 11 (by decide) (hg (Cond.fieldLink RX11 83 "SlabWalk" "taped" "I") m581) (fun _ h9 => h9) (fs_eq (fs_eq g_F_taped)) dX11_putOnTape_23 ?_
              refine lv_dup_x1 hx hb dX11_putOnTape_26 rfl rfl ?_
              refine lv_iconst (v := 1) hx hb dX11_putOnTape_27 (by decide) ?_
              refine lv_iadd hx hb dX11_putOnTape_28 ?_
              refine lv_topi (fun y_11 ey_11 => ?_)
              obtain rfl : y_11 = 11 := ey_11.trans (by decide)
              refine va_put (D := D) (ci := 11) (v := .int 11) (ty := .int) (C := RX11) (T := TX11) (N := 13) hx hb hg iX11 tyX11 tyX11_ok nmX11 hown hK hP hD hS 0 rfl rfl 11 (by decide) (hg (Cond.fieldLink RX11 83 "SlabWalk" "taped" "I") m581) (fun _ h9 => h9) rfl (by decide +kernel) rfl rfl (fs_lt (fs_eq (fs_eq g_F_taped))) dX11_putOnTape_29 (fun H locs hP hD hS => ?_)
              have hP : va_P D classes [(h0, .inr (11, (((F.set 11 (.int 9)).set 11 (.int 10)).set 11 (.int 11)))), (tp, .inl (k.1, 1600, .inl f_8))] H := hP
              have hD : va_D A [(h0, .inr (11, (((F.set 11 (.int 9)).set 11 (.int 10)).set 11 (.int 11)))), (tp, .inl (k.1, 1600, .inl f_8))] := hD
              refine lv_iload_n hx hb dX11_putOnTape_32 rfl (lv_at hl 2 rfl) ?_
              refine lv_iload_n hx hb dX11_putOnTape_33 rfl (lv_at hl 0 rfl) ?_
              refine lv_ishr hx hb dX11_putOnTape_34 ?_
              refine lv_i2b (v := ((p0 >>> (8 &&& 31)).toInt8.toInt32)) hx hb dX11_putOnTape_35 rfl ?_
              refine va_bast hx hb hK hP hD hS 1 0 rfl rfl (show ¬ ((10 : Int32) < 0 ∨ 1600 ≤ (10 : Int32).toNatClampNeg) from by decide +kernel) dX11_putOnTape_36 (fun H locs hP hD hS => ?_)
              have hP : va_P D classes [(h0, .inr (11, (((F.set 11 (.int 9)).set 11 (.int 10)).set 11 (.int 11)))), (tp, .inl (k.1, 1600, .inl (upd f_8 10 (vp_nar .byte ((p0 >>> (8 &&& 31)).toInt8.toInt32)))))] H := hP
              have hD : va_D A [(h0, .inr (11, (((F.set 11 (.int 9)).set 11 (.int 10)).set 11 (.int 11)))), (tp, .inl (k.1, 1600, .inl (upd f_8 10 (vp_nar .byte ((p0 >>> (8 &&& 31)).toInt8.toInt32)))))] := hD
              generalize (upd f_8 10 (vp_nar .byte ((p0 >>> (8 &&& 31)).toInt8.toInt32))) = f_12 at hP hD
              refine lv_iinc (v := 0) (lv' := [(2, .int 0), (0, .ref h0), (1, .int p0)]) hx hb dX11_putOnTape_37 hl (k := 0) rfl (by decide) (by decide) rfl (fun ls hl => ?_)
              refine lv_goto (tgt := 3) hx hb dX11_putOnTape_40 (by decide) ?_
              refine lv_iload_n hx hb dX11_putOnTape_3 rfl (lv_at hl 0 rfl) ?_
              refine lv_if_lt (tgt := 43) hx hb dX11_putOnTape_4 (by decide) (fun c_13 => ?_) (fun c_13 => ?_)
              · exact absurd c_13 (by decide)
              · have c_13 : ¬ ((0 : Int32) < 0) := c_13
                refine lv_aload_n hx hb dX11_putOnTape_7 rfl (lv_at hl 1 rfl) ?_
                refine va_get (D := D) (ci := 11) (v := .int 11) (C := RX11) (T := TX11) (N := 13) hx hb hg iX11 hown hK hP 0 rfl rfl 11 (by decide) (hg (Cond.fieldLink RX11 83 "SlabWalk" "taped" "I") m581) (fun _ h9 => h9) (fs_eq (fs_eq (fs_eq g_F_taped))) dX11_putOnTape_8 ?_
                refine lv_sipush (v := 1600) hx hb dX11_putOnTape_11 (by decide) ?_
                refine lv_icmp_ge (tgt := 37) hx hb dX11_putOnTape_14 (by decide) (fun c_14 => ?_) (fun c_14 => ?_)
                · exact absurd c_14 (by decide)
                · have c_14 : ¬ ((1600 : Int32) ≤ 11) := c_14
                  refine lv_aload_n hx hb dX11_putOnTape_17 rfl (lv_at hl 1 rfl) ?_
                  refine va_get (D := D) (ci := 11) (v := .ref tp) (C := RX11) (T := TX11) (N := 13) hx hb hg iX11 hown hK hP 0 rfl rfl 2 (by decide) (hg (Cond.fieldLink RX11 19 "SlabWalk" "tape" "[B") m572) (fun _ h9 => h9) (fs_ne (fs_ne (fs_ne g_F_tape (by decide)) (by decide)) (by decide)) dX11_putOnTape_18 ?_
                  refine lv_aload_n hx hb dX11_putOnTape_21 rfl (lv_at hl 1 rfl) ?_
                  refine lv_dup hx hb dX11_putOnTape_22 rfl ?_
                  refine va_get (D := D) (ci := 11) (v := .int 11) (C := RX11) (T := TX11) (N := 13) hx hb hg iX11 hown hK hP 0 rfl rfl 11 (by decide) (hg (Cond.fieldLink RX11 83 "SlabWalk" "taped" "I") m581) (fun _ h9 => h9) (fs_eq (fs_eq (fs_eq g_F_taped))) dX11_putOnTape_23 ?_
                  refine lv_dup_x1 hx hb dX11_putOnTape_26 rfl rfl ?_
                  refine lv_iconst (v := 1) hx hb dX11_putOnTape_27 (by decide) ?_
                  refine lv_iadd hx hb dX11_putOnTape_28 ?_
                  refine lv_topi (fun y_15 ey_15 => ?_)
                  obtain rfl : y_15 = 12 := ey_15.trans (by decide)
                  refine va_put (D := D) (ci := 11) (v := .int 12) (ty := .int) (C := RX11) (T := TX11) (N := 13) hx hb hg iX11 tyX11 tyX11_ok nmX11 hown hK hP hD hS 0 rfl rfl 11 (by decide) (hg (Cond.fieldLink RX11 83 "SlabWalk" "taped" "I") m581) (fun _ h9 => h9) rfl (by decide +kernel) rfl rfl (fs_lt (fs_eq (fs_eq (fs_eq g_F_taped)))) dX11_putOnTape_29 (fun H locs hP hD hS => ?_)
                  have hP : va_P D classes [(h0, .inr (11, ((((F.set 11 (.int 9)).set 11 (.int 10)).set 11 (.int 11)).set 11 (.int 12)))), (tp, .inl (k.1, 1600, .inl f_12))] H := hP
                  have hD : va_D A [(h0, .inr (11, ((((F.set 11 (.int 9)).set 11 (.int 10)).set 11 (.int 11)).set 11 (.int 12)))), (tp, .inl (k.1, 1600, .inl f_12))] := hD
                  refine lv_iload_n hx hb dX11_putOnTape_32 rfl (lv_at hl 2 rfl) ?_
                  refine lv_iload_n hx hb dX11_putOnTape_33 rfl (lv_at hl 0 rfl) ?_
                  refine lv_ishr hx hb dX11_putOnTape_34 ?_
                  refine lv_i2b (v := ((p0 >>> (0 &&& 31)).toInt8.toInt32)) hx hb dX11_putOnTape_35 rfl ?_
                  refine va_bast hx hb hK hP hD hS 1 0 rfl rfl (show ¬ ((11 : Int32) < 0 ∨ 1600 ≤ (11 : Int32).toNatClampNeg) from by decide +kernel) dX11_putOnTape_36 (fun H locs hP hD hS => ?_)
                  have hP : va_P D classes [(h0, .inr (11, ((((F.set 11 (.int 9)).set 11 (.int 10)).set 11 (.int 11)).set 11 (.int 12)))), (tp, .inl (k.1, 1600, .inl (upd f_12 11 (vp_nar .byte ((p0 >>> (0 &&& 31)).toInt8.toInt32)))))] H := hP
                  have hD : va_D A [(h0, .inr (11, ((((F.set 11 (.int 9)).set 11 (.int 10)).set 11 (.int 11)).set 11 (.int 12)))), (tp, .inl (k.1, 1600, .inl (upd f_12 11 (vp_nar .byte ((p0 >>> (0 &&& 31)).toInt8.toInt32)))))] := hD
                  generalize (upd f_12 11 (vp_nar .byte ((p0 >>> (0 &&& 31)).toInt8.toInt32))) = f_16 at hP hD
                  refine lv_iinc (v := (-8)) (lv' := [(2, .int (-8)), (0, .ref h0), (1, .int p0)]) hx hb dX11_putOnTape_37 hl (k := 0) rfl (by decide) (by decide) rfl (fun ls hl => ?_)
                  refine lv_goto (tgt := 3) hx hb dX11_putOnTape_40 (by decide) ?_
                  refine lv_iload_n hx hb dX11_putOnTape_3 rfl (lv_at hl 0 rfl) ?_
                  refine lv_if_lt (tgt := 43) hx hb dX11_putOnTape_4 (by decide) (fun c_17 => ?_) (fun c_17 => ?_)
                  · have c_17 : ((-8) : Int32) < 0 := c_17
                    have hP9 := hP.sub (ws' := [(h0, .inr (11, ((((F.set 11 (.int 9)).set 11 (.int 10)).set 11 (.int 11)).set 11 (.int 12)))), (tp, .inl (k.1, 1600, .inl f_16))]) [0, 1] rfl
                    have hD9 := hD.sub (ws' := [(h0, .inr (11, ((((F.set 11 (.int 9)).set 11 (.int 10)).set 11 (.int 11)).set 11 (.int 12)))), (tp, .inl (k.1, 1600, .inl f_16))]) [0, 1] (by decide) rfl
                    exact W.vret hx hb hr (fun t ht hW => ⟨⟨(), rfl, trivial, ⟨((((F.set 11 (.int 9)).set 11 (.int 10)).set 11 (.int 11)).set 11 (.int 12)), f_16, (fs_eq (fs_eq (fs_eq (fs_eq g_F_taped)))), (fs_ne (fs_ne (fs_ne (fs_ne g_F_tape (by decide)) (by decide)) (by decide)) (by decide)), cB_of ht hP9 hD9⟩⟩, hS.F ht⟩) hS.2.2 dX11_putOnTape_43
                  · exact absurd (by decide) c_17

set_option maxHeartbeats 4000000 in
set_option maxRecDepth 100000 in
theorem c_put12 (l : Launch) (D : va_G) (k : ClassId × ClassId × ClassId × ClassId) (sz : Nat) (h0 tp : Nat) (F : List Value) (f : Nat → Int32) (p0 : Int32) (g_F_taped : F[11]? = some (.int 12)) (g_F_tape : F[2]? = some (.ref tp)) : Met l yX11_putOnTape (WS yX11_putOnTape cX11_putOnTape 3 none) ({ frames := 0, cells := 0, slots := 0, locals := 0 }) (va_Pc [.ref h0, .int p0] (cP D k [(h0, .inr (11, F)), (tp, .inl (k.1, 1600, .inl f))] sz)) (va_Qv (fun _ : Unit => True) (fun (_ : Unit) t => ∃ (F2 : List Value), ∃ (g : Nat → Int32), F2[11]? = some (.int 16) ∧ F2[2]? = some (.ref tp) ∧ cB D (va_A [(h0, .inr (11, F)), (tp, .inl (k.1, 1600, .inl f))] sz) [(h0, .inr (11, F2)), (tp, .inl (k.1, 1600, .inl g))] t) (va_A [(h0, .inr (11, F)), (tp, .inl (k.1, 1600, .inl f))] sz)) 0 0 (va_A [(h0, .inr (11, F)), (tp, .inl (k.1, 1600, .inl f))] sz) := by
  refine Met.ofW (cc := cX11_putOnTape) (maxL := 3) (ret := none) (by decide) rfl ?_
  intro p e s m args below meth c s₁ B hml hv
  obtain ⟨rfl, hsz, hP, hKX, hD0⟩ := hv
  have hK := hKX.1
  have hx := B.exec
  have hb := B.bytes
  have hr := B.returns
  have hts := atoms_spec (ws := WS yX11_putOnTape cX11_putOnTape 3 none) B.pre
  have hgd : ∀ w ∈ gd, w ∈ WS yX11_putOnTape cX11_putOnTape 3 none := fun w h => List.mem_cons_of_mem _ h
  have hg : ∀ w ∈ gd, w.before _ s = true := fun w h => hts w (hgd w h)
  have hown : s.vm.findClass RX11 = some m.cls := findClass_of_methodNamed B.named
  have hlocks := B.notSynchronized
  subst hsz
  have hD := hD0.self (sz := s.heap.size)
  generalize hAe : va_A [(h0, .inr (11, F)), (tp, .inl (k.1, 1600, .inl f))] s.heap.size = A at hD ⊢
  have hA : ∀ q : Nat, s.heap.size ≤ q → A q := fun q h => by rw [← hAe]; exact Or.inr h
  have hS : va_S A s.heap s.heap [] := va_S.rf
  have hP : va_P D classes [(h0, .inr (11, F)), (tp, .inl (k.1, 1600, .inl f))] s.heap := hP
  have hl := lv_entry ([.ref h0, .int p0]) (n := 3) (Nat.le_of_ble_eq_true rfl)
  rw [lg_entry_eq]
  generalize (lg_sl ([.ref h0, .int p0]) ++ List.replicate (3 - (lg_sl ([.ref h0, .int p0])).length) Slot.unset).toArray = ls at hl ⊢
  have hl : lv_has ls 3 [(0, .ref h0), (1, .int p0)] := hl
  refine lv_bipush (v := 24) hx hb dX11_putOnTape_0 (by decide) ?_
  refine lv_istore_n (lv' := [(2, .int 24), (0, .ref h0), (1, .int p0)]) hx hb dX11_putOnTape_2 rfl hl (by decide) rfl (fun ls hl => ?_)
  refine lv_iload_n hx hb dX11_putOnTape_3 rfl (lv_at hl 0 rfl) ?_
  refine lv_if_lt (tgt := 43) hx hb dX11_putOnTape_4 (by decide) (fun c_1 => ?_) (fun c_1 => ?_)
  · exact absurd c_1 (by decide)
  · have c_1 : ¬ ((24 : Int32) < 0) := c_1
    refine lv_aload_n hx hb dX11_putOnTape_7 rfl (lv_at hl 1 rfl) ?_
    refine va_get (D := D) (ci := 11) (v := .int 12) (C := RX11) (T := TX11) (N := 13) hx hb hg iX11 hown hK hP 0 rfl rfl 11 (by decide) (hg (Cond.fieldLink RX11 83 "SlabWalk" "taped" "I") m581) (fun _ h9 => h9) g_F_taped dX11_putOnTape_8 ?_
    refine lv_sipush (v := 1600) hx hb dX11_putOnTape_11 (by decide) ?_
    refine lv_icmp_ge (tgt := 37) hx hb dX11_putOnTape_14 (by decide) (fun c_2 => ?_) (fun c_2 => ?_)
    · exact absurd c_2 (by decide)
    · have c_2 : ¬ ((1600 : Int32) ≤ 12) := c_2
      refine lv_aload_n hx hb dX11_putOnTape_17 rfl (lv_at hl 1 rfl) ?_
      refine va_get (D := D) (ci := 11) (v := .ref tp) (C := RX11) (T := TX11) (N := 13) hx hb hg iX11 hown hK hP 0 rfl rfl 2 (by decide) (hg (Cond.fieldLink RX11 19 "SlabWalk" "tape" "[B") m572) (fun _ h9 => h9) g_F_tape dX11_putOnTape_18 ?_
      refine lv_aload_n hx hb dX11_putOnTape_21 rfl (lv_at hl 1 rfl) ?_
      refine lv_dup hx hb dX11_putOnTape_22 rfl ?_
      refine va_get (D := D) (ci := 11) (v := .int 12) (C := RX11) (T := TX11) (N := 13) hx hb hg iX11 hown hK hP 0 rfl rfl 11 (by decide) (hg (Cond.fieldLink RX11 83 "SlabWalk" "taped" "I") m581) (fun _ h9 => h9) g_F_taped dX11_putOnTape_23 ?_
      refine lv_dup_x1 hx hb dX11_putOnTape_26 rfl rfl ?_
      refine lv_iconst (v := 1) hx hb dX11_putOnTape_27 (by decide) ?_
      refine lv_iadd hx hb dX11_putOnTape_28 ?_
      refine lv_topi (fun y_3 ey_3 => ?_)
      obtain rfl : y_3 = 13 := ey_3.trans (by decide)
      refine va_put (D := D) (ci := 11) (v := .int 13) (ty := .int) (C := RX11) (T := TX11) (N := 13) hx hb hg iX11 tyX11 tyX11_ok nmX11 hown hK hP hD hS 0 rfl rfl 11 (by decide) (hg (Cond.fieldLink RX11 83 "SlabWalk" "taped" "I") m581) (fun _ h9 => h9) rfl (by decide +kernel) rfl rfl (fs_lt g_F_taped) dX11_putOnTape_29 (fun H locs hP hD hS => ?_)
      have hP : va_P D classes [(h0, .inr (11, (F.set 11 (.int 13)))), (tp, .inl (k.1, 1600, .inl f))] H := hP
      have hD : va_D A [(h0, .inr (11, (F.set 11 (.int 13)))), (tp, .inl (k.1, 1600, .inl f))] := hD
      refine lv_iload_n hx hb dX11_putOnTape_32 rfl (lv_at hl 2 rfl) ?_
      refine lv_iload_n hx hb dX11_putOnTape_33 rfl (lv_at hl 0 rfl) ?_
      refine lv_ishr hx hb dX11_putOnTape_34 ?_
      refine lv_i2b (v := ((p0 >>> (24 &&& 31)).toInt8.toInt32)) hx hb dX11_putOnTape_35 rfl ?_
      refine va_bast hx hb hK hP hD hS 1 0 rfl rfl (show ¬ ((12 : Int32) < 0 ∨ 1600 ≤ (12 : Int32).toNatClampNeg) from by decide +kernel) dX11_putOnTape_36 (fun H locs hP hD hS => ?_)
      have hP : va_P D classes [(h0, .inr (11, (F.set 11 (.int 13)))), (tp, .inl (k.1, 1600, .inl (upd f 12 (vp_nar .byte ((p0 >>> (24 &&& 31)).toInt8.toInt32)))))] H := hP
      have hD : va_D A [(h0, .inr (11, (F.set 11 (.int 13)))), (tp, .inl (k.1, 1600, .inl (upd f 12 (vp_nar .byte ((p0 >>> (24 &&& 31)).toInt8.toInt32)))))] := hD
      generalize (upd f 12 (vp_nar .byte ((p0 >>> (24 &&& 31)).toInt8.toInt32))) = f_4 at hP hD
      refine lv_iinc (v := 16) (lv' := [(2, .int 16), (0, .ref h0), (1, .int p0)]) hx hb dX11_putOnTape_37 hl (k := 0) rfl (by decide) (by decide) rfl (fun ls hl => ?_)
      refine lv_goto (tgt := 3) hx hb dX11_putOnTape_40 (by decide) ?_
      refine lv_iload_n hx hb dX11_putOnTape_3 rfl (lv_at hl 0 rfl) ?_
      refine lv_if_lt (tgt := 43) hx hb dX11_putOnTape_4 (by decide) (fun c_5 => ?_) (fun c_5 => ?_)
      · exact absurd c_5 (by decide)
      · have c_5 : ¬ ((16 : Int32) < 0) := c_5
        refine lv_aload_n hx hb dX11_putOnTape_7 rfl (lv_at hl 1 rfl) ?_
        refine va_get (D := D) (ci := 11) (v := .int 13) (C := RX11) (T := TX11) (N := 13) hx hb hg iX11 hown hK hP 0 rfl rfl 11 (by decide) (hg (Cond.fieldLink RX11 83 "SlabWalk" "taped" "I") m581) (fun _ h9 => h9) (fs_eq g_F_taped) dX11_putOnTape_8 ?_
        refine lv_sipush (v := 1600) hx hb dX11_putOnTape_11 (by decide) ?_
        refine lv_icmp_ge (tgt := 37) hx hb dX11_putOnTape_14 (by decide) (fun c_6 => ?_) (fun c_6 => ?_)
        · exact absurd c_6 (by decide)
        · have c_6 : ¬ ((1600 : Int32) ≤ 13) := c_6
          refine lv_aload_n hx hb dX11_putOnTape_17 rfl (lv_at hl 1 rfl) ?_
          refine va_get (D := D) (ci := 11) (v := .ref tp) (C := RX11) (T := TX11) (N := 13) hx hb hg iX11 hown hK hP 0 rfl rfl 2 (by decide) (hg (Cond.fieldLink RX11 19 "SlabWalk" "tape" "[B") m572) (fun _ h9 => h9) (fs_ne g_F_tape (by decide)) dX11_putOnTape_18 ?_
          refine lv_aload_n hx hb dX11_putOnTape_21 rfl (lv_at hl 1 rfl) ?_
          refine lv_dup hx hb dX11_putOnTape_22 rfl ?_
          refine va_get (D := D) (ci := 11) (v := .int 13) (C := RX11) (T := TX11) (N := 13) hx hb hg iX11 hown hK hP 0 rfl rfl 11 (by decide) (hg (Cond.fieldLink RX11 83 "SlabWalk" "taped" "I") m581) (fun _ h9 => h9) (fs_eq g_F_taped) dX11_putOnTape_23 ?_
          refine lv_dup_x1 hx hb dX11_putOnTape_26 rfl rfl ?_
          refine lv_iconst (v := 1) hx hb dX11_putOnTape_27 (by decide) ?_
          refine lv_iadd hx hb dX11_putOnTape_28 ?_
          refine lv_topi (fun y_7 ey_7 => ?_)
          obtain rfl : y_7 = 14 := ey_7.trans (by decide)
          refine va_put (D := D) (ci := 11) (v := .int 14) (ty := .int) (C := RX11) (T := TX11) (N := 13) hx hb hg iX11 tyX11 tyX11_ok nmX11 hown hK hP hD hS 0 rfl rfl 11 (by decide) (hg (Cond.fieldLink RX11 83 "SlabWalk" "taped" "I") m581) (fun _ h9 => h9) rfl (by decide +kernel) rfl rfl (fs_lt (fs_eq g_F_taped)) dX11_putOnTape_29 (fun H locs hP hD hS => ?_)
          have hP : va_P D classes [(h0, .inr (11, ((F.set 11 (.int 13)).set 11 (.int 14)))), (tp, .inl (k.1, 1600, .inl f_4))] H := hP
          have hD : va_D A [(h0, .inr (11, ((F.set 11 (.int 13)).set 11 (.int 14)))), (tp, .inl (k.1, 1600, .inl f_4))] := hD
          refine lv_iload_n hx hb dX11_putOnTape_32 rfl (lv_at hl 2 rfl) ?_
          refine lv_iload_n hx hb dX11_putOnTape_33 rfl (lv_at hl 0 rfl) ?_
          refine lv_ishr hx hb dX11_putOnTape_34 ?_
          refine lv_i2b (v := ((p0 >>> (16 &&& 31)).toInt8.toInt32)) hx hb dX11_putOnTape_35 rfl ?_
          refine va_bast hx hb hK hP hD hS 1 0 rfl rfl (show ¬ ((13 : Int32) < 0 ∨ 1600 ≤ (13 : Int32).toNatClampNeg) from by decide +kernel) dX11_putOnTape_36 (fun H locs hP hD hS => ?_)
          have hP : va_P D classes [(h0, .inr (11, ((F.set 11 (.int 13)).set 11 (.int 14)))), (tp, .inl (k.1, 1600, .inl (upd f_4 13 (vp_nar .byte ((p0 >>> (16 &&& 31)).toInt8.toInt32)))))] H := hP
          have hD : va_D A [(h0, .inr (11, ((F.set 11 (.int 13)).set 11 (.int 14)))), (tp, .inl (k.1, 1600, .inl (upd f_4 13 (vp_nar .byte ((p0 >>> (16 &&& 31)).toInt8.toInt32)))))] := hD
          generalize (upd f_4 13 (vp_nar .byte ((p0 >>> (16 &&& 31)).toInt8.toInt32))) = f_8 at hP hD
          refine lv_iinc (v := 8) (lv' := [(2, .int 8), (0, .ref h0), (1, .int p0)]) hx hb dX11_putOnTape_37 hl (k := 0) rfl (by decide) (by decide) rfl (fun ls hl => ?_)
          refine lv_goto (tgt := 3) hx hb dX11_putOnTape_40 (by decide) ?_
          refine lv_iload_n hx hb dX11_putOnTape_3 rfl (lv_at hl 0 rfl) ?_
          refine lv_if_lt (tgt := 43) hx hb dX11_putOnTape_4 (by decide) (fun c_9 => ?_) (fun c_9 => ?_)
          · exact absurd c_9 (by decide)
          · have c_9 : ¬ ((8 : Int32) < 0) := c_9
            refine lv_aload_n hx hb dX11_putOnTape_7 rfl (lv_at hl 1 rfl) ?_
            refine va_get (D := D) (ci := 11) (v := .int 14) (C := RX11) (T := TX11) (N := 13) hx hb hg iX11 hown hK hP 0 rfl rfl 11 (by decide) (hg (Cond.fieldLink RX11 83 "SlabWalk" "taped" "I") m581) (fun _ h9 => h9) (fs_eq (fs_eq g_F_taped)) dX11_putOnTape_8 ?_
            refine lv_sipush (v := 1600) hx hb dX11_putOnTape_11 (by decide) ?_
            refine lv_icmp_ge (tgt := 37) hx hb dX11_putOnTape_14 (by decide) (fun c_10 => ?_) (fun c_10 => ?_)
            · exact absurd c_10 (by decide)
            · have c_10 : ¬ ((1600 : Int32) ≤ 14) := c_10
              refine lv_aload_n hx hb dX11_putOnTape_17 rfl (lv_at hl 1 rfl) ?_
              refine va_get (D := D) (ci := 11) (v := .ref tp) (C := RX11) (T := TX11) (N := 13) hx hb hg iX11 hown hK hP 0 rfl rfl 2 (by decide) (hg (Cond.fieldLink RX11 19 "SlabWalk" "tape" "[B") m572) (fun _ h9 => h9) (fs_ne (fs_ne g_F_tape (by decide)) (by decide)) dX11_putOnTape_18 ?_
              refine lv_aload_n hx hb dX11_putOnTape_21 rfl (lv_at hl 1 rfl) ?_
              refine lv_dup hx hb dX11_putOnTape_22 rfl ?_
              refine va_get (D := D) (ci := 11) (v := .int 14) (C := RX11) (T := TX11) (N := 13) hx hb hg iX11 hown hK hP 0 rfl rfl 11 (by decide) (hg (Cond.fieldLink RX11 83 "SlabWalk" "taped" "I") m581) (fun _ h9 => h9) (fs_eq (fs_eq g_F_taped)) dX11_putOnTape_23 ?_
              refine lv_dup_x1 hx hb dX11_putOnTape_26 rfl rfl ?_
              refine lv_iconst (v := 1) hx hb dX11_putOnTape_27 (by decide) ?_
              refine lv_iadd hx hb dX11_putOnTape_28 ?_
              refine lv_topi (fun y_11 ey_11 => ?_)
              obtain rfl : y_11 = 15 := ey_11.trans (by decide)
              refine va_put (D := D) (ci := 11) (v := .int 15) (ty := .int) (C := RX11) (T := TX11) (N := 13) hx hb hg iX11 tyX11 tyX11_ok nmX11 hown hK hP hD hS 0 rfl rfl 11 (by decide) (hg (Cond.fieldLink RX11 83 "SlabWalk" "taped" "I") m581) (fun _ h9 => h9) rfl (by decide +kernel) rfl rfl (fs_lt (fs_eq (fs_eq g_F_taped))) dX11_putOnTape_29 (fun H locs hP hD hS => ?_)
              have hP : va_P D classes [(h0, .inr (11, (((F.set 11 (.int 13)).set 11 (.int 14)).set 11 (.int 15)))), (tp, .inl (k.1, 1600, .inl f_8))] H := hP
              have hD : va_D A [(h0, .inr (11, (((F.set 11 (.int 13)).set 11 (.int 14)).set 11 (.int 15)))), (tp, .inl (k.1, 1600, .inl f_8))] := hD
              refine lv_iload_n hx hb dX11_putOnTape_32 rfl (lv_at hl 2 rfl) ?_
              refine lv_iload_n hx hb dX11_putOnTape_33 rfl (lv_at hl 0 rfl) ?_
              refine lv_ishr hx hb dX11_putOnTape_34 ?_
              refine lv_i2b (v := ((p0 >>> (8 &&& 31)).toInt8.toInt32)) hx hb dX11_putOnTape_35 rfl ?_
              refine va_bast hx hb hK hP hD hS 1 0 rfl rfl (show ¬ ((14 : Int32) < 0 ∨ 1600 ≤ (14 : Int32).toNatClampNeg) from by decide +kernel) dX11_putOnTape_36 (fun H locs hP hD hS => ?_)
              have hP : va_P D classes [(h0, .inr (11, (((F.set 11 (.int 13)).set 11 (.int 14)).set 11 (.int 15)))), (tp, .inl (k.1, 1600, .inl (upd f_8 14 (vp_nar .byte ((p0 >>> (8 &&& 31)).toInt8.toInt32)))))] H := hP
              have hD : va_D A [(h0, .inr (11, (((F.set 11 (.int 13)).set 11 (.int 14)).set 11 (.int 15)))), (tp, .inl (k.1, 1600, .inl (upd f_8 14 (vp_nar .byte ((p0 >>> (8 &&& 31)).toInt8.toInt32)))))] := hD
              generalize (upd f_8 14 (vp_nar .byte ((p0 >>> (8 &&& 31)).toInt8.toInt32))) = f_12 at hP hD
              refine lv_iinc (v := 0) (lv' := [(2, .int 0), (0, .ref h0), (1, .int p0)]) hx hb dX11_putOnTape_37 hl (k := 0) rfl (by decide) (by decide) rfl (fun ls hl => ?_)
              refine lv_goto (tgt := 3) hx hb dX11_putOnTape_40 (by decide) ?_
              refine lv_iload_n hx hb dX11_putOnTape_3 rfl (lv_at hl 0 rfl) ?_
              refine lv_if_lt (tgt := 43) hx hb dX11_putOnTape_4 (by decide) (fun c_13 => ?_) (fun c_13 => ?_)
              · exact absurd c_13 (by decide)
              · have c_13 : ¬ ((0 : Int32) < 0) := c_13
                refine lv_aload_n hx hb dX11_putOnTape_7 rfl (lv_at hl 1 rfl) ?_
                refine va_get (D := D) (ci := 11) (v := .int 15) (C := RX11) (T := TX11) (N := 13) hx hb hg iX11 hown hK hP 0 rfl rfl 11 (by decide) (hg (Cond.fieldLink RX11 83 "SlabWalk" "taped" "I") m581) (fun _ h9 => h9) (fs_eq (fs_eq (fs_eq g_F_taped))) dX11_putOnTape_8 ?_
                refine lv_sipush (v := 1600) hx hb dX11_putOnTape_11 (by decide) ?_
                refine lv_icmp_ge (tgt := 37) hx hb dX11_putOnTape_14 (by decide) (fun c_14 => ?_) (fun c_14 => ?_)
                · exact absurd c_14 (by decide)
                · have c_14 : ¬ ((1600 : Int32) ≤ 15) := c_14
                  refine lv_aload_n hx hb dX11_putOnTape_17 rfl (lv_at hl 1 rfl) ?_
                  refine va_get (D := D) (ci := 11) (v := .ref tp) (C := RX11) (T := TX11) (N := 13) hx hb hg iX11 hown hK hP 0 rfl rfl 2 (by decide) (hg (Cond.fieldLink RX11 19 "SlabWalk" "tape" "[B") m572) (fun _ h9 => h9) (fs_ne (fs_ne (fs_ne g_F_tape (by decide)) (by decide)) (by decide)) dX11_putOnTape_18 ?_
                  refine lv_aload_n hx hb dX11_putOnTape_21 rfl (lv_at hl 1 rfl) ?_
                  refine lv_dup hx hb dX11_putOnTape_22 rfl ?_
                  refine va_get (D := D) (ci := 11) (v := .int 15) (C := RX11) (T := TX11) (N := 13) hx hb hg iX11 hown hK hP 0 rfl rfl 11 (by decide) (hg (Cond.fieldLink RX11 83 "SlabWalk" "taped" "I") m581) (fun _ h9 => h9) (fs_eq (fs_eq (fs_eq g_F_taped))) dX11_putOnTape_23 ?_
                  refine lv_dup_x1 hx hb dX11_putOnTape_26 rfl rfl ?_
                  refine lv_iconst (v := 1) hx hb dX11_putOnTape_27 (by decide) ?_
                  refine lv_iadd hx hb dX11_putOnTape_28 ?_
                  refine lv_topi (fun y_15 ey_15 => ?_)
                  obtain rfl : y_15 = 16 := ey_15.trans (by decide)
                  refine va_put (D := D) (ci := 11) (v := .int 16) (ty := .int) (C := RX11) (T := TX11) (N := 13) hx hb hg iX11 tyX11 tyX11_ok nmX11 hown hK hP hD hS 0 rfl rfl 11 (by decide) (hg (Cond.fieldLink RX11 83 "SlabWalk" "taped" "I") m581) (fun _ h9 => h9) rfl (by decide +kernel) rfl rfl (fs_lt (fs_eq (fs_eq (fs_eq g_F_taped)))) dX11_putOnTape_29 (fun H locs hP hD hS => ?_)
                  have hP : va_P D classes [(h0, .inr (11, ((((F.set 11 (.int 13)).set 11 (.int 14)).set 11 (.int 15)).set 11 (.int 16)))), (tp, .inl (k.1, 1600, .inl f_12))] H := hP
                  have hD : va_D A [(h0, .inr (11, ((((F.set 11 (.int 13)).set 11 (.int 14)).set 11 (.int 15)).set 11 (.int 16)))), (tp, .inl (k.1, 1600, .inl f_12))] := hD
                  refine lv_iload_n hx hb dX11_putOnTape_32 rfl (lv_at hl 2 rfl) ?_
                  refine lv_iload_n hx hb dX11_putOnTape_33 rfl (lv_at hl 0 rfl) ?_
                  refine lv_ishr hx hb dX11_putOnTape_34 ?_
                  refine lv_i2b (v := ((p0 >>> (0 &&& 31)).toInt8.toInt32)) hx hb dX11_putOnTape_35 rfl ?_
                  refine va_bast hx hb hK hP hD hS 1 0 rfl rfl (show ¬ ((15 : Int32) < 0 ∨ 1600 ≤ (15 : Int32).toNatClampNeg) from by decide +kernel) dX11_putOnTape_36 (fun H locs hP hD hS => ?_)
                  have hP : va_P D classes [(h0, .inr (11, ((((F.set 11 (.int 13)).set 11 (.int 14)).set 11 (.int 15)).set 11 (.int 16)))), (tp, .inl (k.1, 1600, .inl (upd f_12 15 (vp_nar .byte ((p0 >>> (0 &&& 31)).toInt8.toInt32)))))] H := hP
                  have hD : va_D A [(h0, .inr (11, ((((F.set 11 (.int 13)).set 11 (.int 14)).set 11 (.int 15)).set 11 (.int 16)))), (tp, .inl (k.1, 1600, .inl (upd f_12 15 (vp_nar .byte ((p0 >>> (0 &&& 31)).toInt8.toInt32)))))] := hD
                  generalize (upd f_12 15 (vp_nar .byte ((p0 >>> (0 &&& 31)).toInt8.toInt32))) = f_16 at hP hD
                  refine lv_iinc (v := (-8)) (lv' := [(2, .int (-8)), (0, .ref h0), (1, .int p0)]) hx hb dX11_putOnTape_37 hl (k := 0) rfl (by decide) (by decide) rfl (fun ls hl => ?_)
                  refine lv_goto (tgt := 3) hx hb dX11_putOnTape_40 (by decide) ?_
                  refine lv_iload_n hx hb dX11_putOnTape_3 rfl (lv_at hl 0 rfl) ?_
                  refine lv_if_lt (tgt := 43) hx hb dX11_putOnTape_4 (by decide) (fun c_17 => ?_) (fun c_17 => ?_)
                  · have c_17 : ((-8) : Int32) < 0 := c_17
                    have hP9 := hP.sub (ws' := [(h0, .inr (11, ((((F.set 11 (.int 13)).set 11 (.int 14)).set 11 (.int 15)).set 11 (.int 16)))), (tp, .inl (k.1, 1600, .inl f_16))]) [0, 1] rfl
                    have hD9 := hD.sub (ws' := [(h0, .inr (11, ((((F.set 11 (.int 13)).set 11 (.int 14)).set 11 (.int 15)).set 11 (.int 16)))), (tp, .inl (k.1, 1600, .inl f_16))]) [0, 1] (by decide) rfl
                    exact W.vret hx hb hr (fun t ht hW => ⟨⟨(), rfl, trivial, ⟨((((F.set 11 (.int 13)).set 11 (.int 14)).set 11 (.int 15)).set 11 (.int 16)), f_16, (fs_eq (fs_eq (fs_eq (fs_eq g_F_taped)))), (fs_ne (fs_ne (fs_ne (fs_ne g_F_tape (by decide)) (by decide)) (by decide)) (by decide)), cB_of ht hP9 hD9⟩⟩, hS.F ht⟩) hS.2.2 dX11_putOnTape_43
                  · exact absurd (by decide) c_17

set_option maxHeartbeats 4000000 in
set_option maxRecDepth 100000 in
theorem c_put16 (l : Launch) (D : va_G) (k : ClassId × ClassId × ClassId × ClassId) (sz : Nat) (h0 tp : Nat) (F : List Value) (f : Nat → Int32) (p0 : Int32) (g_F_taped : F[11]? = some (.int 16)) (g_F_tape : F[2]? = some (.ref tp)) : Met l yX11_putOnTape (WS yX11_putOnTape cX11_putOnTape 3 none) ({ frames := 0, cells := 0, slots := 0, locals := 0 }) (va_Pc [.ref h0, .int p0] (cP D k [(h0, .inr (11, F)), (tp, .inl (k.1, 1600, .inl f))] sz)) (va_Qv (fun _ : Unit => True) (fun (_ : Unit) t => ∃ (F2 : List Value), ∃ (g : Nat → Int32), F2[11]? = some (.int 20) ∧ F2[2]? = some (.ref tp) ∧ cB D (va_A [(h0, .inr (11, F)), (tp, .inl (k.1, 1600, .inl f))] sz) [(h0, .inr (11, F2)), (tp, .inl (k.1, 1600, .inl g))] t) (va_A [(h0, .inr (11, F)), (tp, .inl (k.1, 1600, .inl f))] sz)) 0 0 (va_A [(h0, .inr (11, F)), (tp, .inl (k.1, 1600, .inl f))] sz) := by
  refine Met.ofW (cc := cX11_putOnTape) (maxL := 3) (ret := none) (by decide) rfl ?_
  intro p e s m args below meth c s₁ B hml hv
  obtain ⟨rfl, hsz, hP, hKX, hD0⟩ := hv
  have hK := hKX.1
  have hx := B.exec
  have hb := B.bytes
  have hr := B.returns
  have hts := atoms_spec (ws := WS yX11_putOnTape cX11_putOnTape 3 none) B.pre
  have hgd : ∀ w ∈ gd, w ∈ WS yX11_putOnTape cX11_putOnTape 3 none := fun w h => List.mem_cons_of_mem _ h
  have hg : ∀ w ∈ gd, w.before _ s = true := fun w h => hts w (hgd w h)
  have hown : s.vm.findClass RX11 = some m.cls := findClass_of_methodNamed B.named
  have hlocks := B.notSynchronized
  subst hsz
  have hD := hD0.self (sz := s.heap.size)
  generalize hAe : va_A [(h0, .inr (11, F)), (tp, .inl (k.1, 1600, .inl f))] s.heap.size = A at hD ⊢
  have hA : ∀ q : Nat, s.heap.size ≤ q → A q := fun q h => by rw [← hAe]; exact Or.inr h
  have hS : va_S A s.heap s.heap [] := va_S.rf
  have hP : va_P D classes [(h0, .inr (11, F)), (tp, .inl (k.1, 1600, .inl f))] s.heap := hP
  have hl := lv_entry ([.ref h0, .int p0]) (n := 3) (Nat.le_of_ble_eq_true rfl)
  rw [lg_entry_eq]
  generalize (lg_sl ([.ref h0, .int p0]) ++ List.replicate (3 - (lg_sl ([.ref h0, .int p0])).length) Slot.unset).toArray = ls at hl ⊢
  have hl : lv_has ls 3 [(0, .ref h0), (1, .int p0)] := hl
  refine lv_bipush (v := 24) hx hb dX11_putOnTape_0 (by decide) ?_
  refine lv_istore_n (lv' := [(2, .int 24), (0, .ref h0), (1, .int p0)]) hx hb dX11_putOnTape_2 rfl hl (by decide) rfl (fun ls hl => ?_)
  refine lv_iload_n hx hb dX11_putOnTape_3 rfl (lv_at hl 0 rfl) ?_
  refine lv_if_lt (tgt := 43) hx hb dX11_putOnTape_4 (by decide) (fun c_1 => ?_) (fun c_1 => ?_)
  · exact absurd c_1 (by decide)
  · have c_1 : ¬ ((24 : Int32) < 0) := c_1
    refine lv_aload_n hx hb dX11_putOnTape_7 rfl (lv_at hl 1 rfl) ?_
    refine va_get (D := D) (ci := 11) (v := .int 16) (C := RX11) (T := TX11) (N := 13) hx hb hg iX11 hown hK hP 0 rfl rfl 11 (by decide) (hg (Cond.fieldLink RX11 83 "SlabWalk" "taped" "I") m581) (fun _ h9 => h9) g_F_taped dX11_putOnTape_8 ?_
    refine lv_sipush (v := 1600) hx hb dX11_putOnTape_11 (by decide) ?_
    refine lv_icmp_ge (tgt := 37) hx hb dX11_putOnTape_14 (by decide) (fun c_2 => ?_) (fun c_2 => ?_)
    · exact absurd c_2 (by decide)
    · have c_2 : ¬ ((1600 : Int32) ≤ 16) := c_2
      refine lv_aload_n hx hb dX11_putOnTape_17 rfl (lv_at hl 1 rfl) ?_
      refine va_get (D := D) (ci := 11) (v := .ref tp) (C := RX11) (T := TX11) (N := 13) hx hb hg iX11 hown hK hP 0 rfl rfl 2 (by decide) (hg (Cond.fieldLink RX11 19 "SlabWalk" "tape" "[B") m572) (fun _ h9 => h9) g_F_tape dX11_putOnTape_18 ?_
      refine lv_aload_n hx hb dX11_putOnTape_21 rfl (lv_at hl 1 rfl) ?_
      refine lv_dup hx hb dX11_putOnTape_22 rfl ?_
      refine va_get (D := D) (ci := 11) (v := .int 16) (C := RX11) (T := TX11) (N := 13) hx hb hg iX11 hown hK hP 0 rfl rfl 11 (by decide) (hg (Cond.fieldLink RX11 83 "SlabWalk" "taped" "I") m581) (fun _ h9 => h9) g_F_taped dX11_putOnTape_23 ?_
      refine lv_dup_x1 hx hb dX11_putOnTape_26 rfl rfl ?_
      refine lv_iconst (v := 1) hx hb dX11_putOnTape_27 (by decide) ?_
      refine lv_iadd hx hb dX11_putOnTape_28 ?_
      refine lv_topi (fun y_3 ey_3 => ?_)
      obtain rfl : y_3 = 17 := ey_3.trans (by decide)
      refine va_put (D := D) (ci := 11) (v := .int 17) (ty := .int) (C := RX11) (T := TX11) (N := 13) hx hb hg iX11 tyX11 tyX11_ok nmX11 hown hK hP hD hS 0 rfl rfl 11 (by decide) (hg (Cond.fieldLink RX11 83 "SlabWalk" "taped" "I") m581) (fun _ h9 => h9) rfl (by decide +kernel) rfl rfl (fs_lt g_F_taped) dX11_putOnTape_29 (fun H locs hP hD hS => ?_)
      have hP : va_P D classes [(h0, .inr (11, (F.set 11 (.int 17)))), (tp, .inl (k.1, 1600, .inl f))] H := hP
      have hD : va_D A [(h0, .inr (11, (F.set 11 (.int 17)))), (tp, .inl (k.1, 1600, .inl f))] := hD
      refine lv_iload_n hx hb dX11_putOnTape_32 rfl (lv_at hl 2 rfl) ?_
      refine lv_iload_n hx hb dX11_putOnTape_33 rfl (lv_at hl 0 rfl) ?_
      refine lv_ishr hx hb dX11_putOnTape_34 ?_
      refine lv_i2b (v := ((p0 >>> (24 &&& 31)).toInt8.toInt32)) hx hb dX11_putOnTape_35 rfl ?_
      refine va_bast hx hb hK hP hD hS 1 0 rfl rfl (show ¬ ((16 : Int32) < 0 ∨ 1600 ≤ (16 : Int32).toNatClampNeg) from by decide +kernel) dX11_putOnTape_36 (fun H locs hP hD hS => ?_)
      have hP : va_P D classes [(h0, .inr (11, (F.set 11 (.int 17)))), (tp, .inl (k.1, 1600, .inl (upd f 16 (vp_nar .byte ((p0 >>> (24 &&& 31)).toInt8.toInt32)))))] H := hP
      have hD : va_D A [(h0, .inr (11, (F.set 11 (.int 17)))), (tp, .inl (k.1, 1600, .inl (upd f 16 (vp_nar .byte ((p0 >>> (24 &&& 31)).toInt8.toInt32)))))] := hD
      generalize (upd f 16 (vp_nar .byte ((p0 >>> (24 &&& 31)).toInt8.toInt32))) = f_4 at hP hD
      refine lv_iinc (v := 16) (lv' := [(2, .int 16), (0, .ref h0), (1, .int p0)]) hx hb dX11_putOnTape_37 hl (k := 0) rfl (by decide) (by decide) rfl (fun ls hl => ?_)
      refine lv_goto (tgt := 3) hx hb dX11_putOnTape_40 (by decide) ?_
      refine lv_iload_n hx hb dX11_putOnTape_3 rfl (lv_at hl 0 rfl) ?_
      refine lv_if_lt (tgt := 43) hx hb dX11_putOnTape_4 (by decide) (fun c_5 => ?_) (fun c_5 => ?_)
      · exact absurd c_5 (by decide)
      · have c_5 : ¬ ((16 : Int32) < 0) := c_5
        refine lv_aload_n hx hb dX11_putOnTape_7 rfl (lv_at hl 1 rfl) ?_
        refine va_get (D := D) (ci := 11) (v := .int 17) (C := RX11) (T := TX11) (N := 13) hx hb hg iX11 hown hK hP 0 rfl rfl 11 (by decide) (hg (Cond.fieldLink RX11 83 "SlabWalk" "taped" "I") m581) (fun _ h9 => h9) (fs_eq g_F_taped) dX11_putOnTape_8 ?_
        refine lv_sipush (v := 1600) hx hb dX11_putOnTape_11 (by decide) ?_
        refine lv_icmp_ge (tgt := 37) hx hb dX11_putOnTape_14 (by decide) (fun c_6 => ?_) (fun c_6 => ?_)
        · exact absurd c_6 (by decide)
        · have c_6 : ¬ ((1600 : Int32) ≤ 17) := c_6
          refine lv_aload_n hx hb dX11_putOnTape_17 rfl (lv_at hl 1 rfl) ?_
          refine va_get (D := D) (ci := 11) (v := .ref tp) (C := RX11) (T := TX11) (N := 13) hx hb hg iX11 hown hK hP 0 rfl rfl 2 (by decide) (hg (Cond.fieldLink RX11 19 "SlabWalk" "tape" "[B") m572) (fun _ h9 => h9) (fs_ne g_F_tape (by decide)) dX11_putOnTape_18 ?_
          refine lv_aload_n hx hb dX11_putOnTape_21 rfl (lv_at hl 1 rfl) ?_
          refine lv_dup hx hb dX11_putOnTape_22 rfl ?_
          refine va_get (D := D) (ci := 11) (v := .int 17) (C := RX11) (T := TX11) (N := 13) hx hb hg iX11 hown hK hP 0 rfl rfl 11 (by decide) (hg (Cond.fieldLink RX11 83 "SlabWalk" "taped" "I") m581) (fun _ h9 => h9) (fs_eq g_F_taped) dX11_putOnTape_23 ?_
          refine lv_dup_x1 hx hb dX11_putOnTape_26 rfl rfl ?_
          refine lv_iconst (v := 1) hx hb dX11_putOnTape_27 (by decide) ?_
          refine lv_iadd hx hb dX11_putOnTape_28 ?_
          refine lv_topi (fun y_7 ey_7 => ?_)
          obtain rfl : y_7 = 18 := ey_7.trans (by decide)
          refine va_put (D := D) (ci := 11) (v := .int 18) (ty := .int) (C := RX11) (T := TX11) (N := 13) hx hb hg iX11 tyX11 tyX11_ok nmX11 hown hK hP hD hS 0 rfl rfl 11 (by decide) (hg (Cond.fieldLink RX11 83 "SlabWalk" "taped" "I") m581) (fun _ h9 => h9) rfl (by decide +kernel) rfl rfl (fs_lt (fs_eq g_F_taped)) dX11_putOnTape_29 (fun H locs hP hD hS => ?_)
          have hP : va_P D classes [(h0, .inr (11, ((F.set 11 (.int 17)).set 11 (.int 18)))), (tp, .inl (k.1, 1600, .inl f_4))] H := hP
          have hD : va_D A [(h0, .inr (11, ((F.set 11 (.int 17)).set 11 (.int 18)))), (tp, .inl (k.1, 1600, .inl f_4))] := hD
          refine lv_iload_n hx hb dX11_putOnTape_32 rfl (lv_at hl 2 rfl) ?_
          refine lv_iload_n hx hb dX11_putOnTape_33 rfl (lv_at hl 0 rfl) ?_
          refine lv_ishr hx hb dX11_putOnTape_34 ?_
          refine lv_i2b (v := ((p0 >>> (16 &&& 31)).toInt8.toInt32)) hx hb dX11_putOnTape_35 rfl ?_
          refine va_bast hx hb hK hP hD hS 1 0 rfl rfl (show ¬ ((17 : Int32) < 0 ∨ 1600 ≤ (17 : Int32).toNatClampNeg) from by decide +kernel) dX11_putOnTape_36 (fun H locs hP hD hS => ?_)
          have hP : va_P D classes [(h0, .inr (11, ((F.set 11 (.int 17)).set 11 (.int 18)))), (tp, .inl (k.1, 1600, .inl (upd f_4 17 (vp_nar .byte ((p0 >>> (16 &&& 31)).toInt8.toInt32)))))] H := hP
          have hD : va_D A [(h0, .inr (11, ((F.set 11 (.int 17)).set 11 (.int 18)))), (tp, .inl (k.1, 1600, .inl (upd f_4 17 (vp_nar .byte ((p0 >>> (16 &&& 31)).toInt8.toInt32)))))] := hD
          generalize (upd f_4 17 (vp_nar .byte ((p0 >>> (16 &&& 31)).toInt8.toInt32))) = f_8 at hP hD
          refine lv_iinc (v := 8) (lv' := [(2, .int 8), (0, .ref h0), (1, .int p0)]) hx hb dX11_putOnTape_37 hl (k := 0) rfl (by decide) (by decide) rfl (fun ls hl => ?_)
          refine lv_goto (tgt := 3) hx hb dX11_putOnTape_40 (by decide) ?_
          refine lv_iload_n hx hb dX11_putOnTape_3 rfl (lv_at hl 0 rfl) ?_
          refine lv_if_lt (tgt := 43) hx hb dX11_putOnTape_4 (by decide) (fun c_9 => ?_) (fun c_9 => ?_)
          · exact absurd c_9 (by decide)
          · have c_9 : ¬ ((8 : Int32) < 0) := c_9
            refine lv_aload_n hx hb dX11_putOnTape_7 rfl (lv_at hl 1 rfl) ?_
            refine va_get (D := D) (ci := 11) (v := .int 18) (C := RX11) (T := TX11) (N := 13) hx hb hg iX11 hown hK hP 0 rfl rfl 11 (by decide) (hg (Cond.fieldLink RX11 83 "SlabWalk" "taped" "I") m581) (fun _ h9 => h9) (fs_eq (fs_eq g_F_taped)) dX11_putOnTape_8 ?_
            refine lv_sipush (v := 1600) hx hb dX11_putOnTape_11 (by decide) ?_
            refine lv_icmp_ge (tgt := 37) hx hb dX11_putOnTape_14 (by decide) (fun c_10 => ?_) (fun c_10 => ?_)
            · exact absurd c_10 (by decide)
            · have c_10 : ¬ ((1600 : Int32) ≤ 18) := c_10
              refine lv_aload_n hx hb dX11_putOnTape_17 rfl (lv_at hl 1 rfl) ?_
              refine va_get (D := D) (ci := 11) (v := .ref tp) (C := RX11) (T := TX11) (N := 13) hx hb hg iX11 hown hK hP 0 rfl rfl 2 (by decide) (hg (Cond.fieldLink RX11 19 "SlabWalk" "tape" "[B") m572) (fun _ h9 => h9) (fs_ne (fs_ne g_F_tape (by decide)) (by decide)) dX11_putOnTape_18 ?_
              refine lv_aload_n hx hb dX11_putOnTape_21 rfl (lv_at hl 1 rfl) ?_
              refine lv_dup hx hb dX11_putOnTape_22 rfl ?_
              refine va_get (D := D) (ci := 11) (v := .int 18) (C := RX11) (T := TX11) (N := 13) hx hb hg iX11 hown hK hP 0 rfl rfl 11 (by decide) (hg (Cond.fieldLink RX11 83 "SlabWalk" "taped" "I") m581) (fun _ h9 => h9) (fs_eq (fs_eq g_F_taped)) dX11_putOnTape_23 ?_
              refine lv_dup_x1 hx hb dX11_putOnTape_26 rfl rfl ?_
              refine lv_iconst (v := 1) hx hb dX11_putOnTape_27 (by decide) ?_
              refine lv_iadd hx hb dX11_putOnTape_28 ?_
              refine lv_topi (fun y_11 ey_11 => ?_)
              obtain rfl : y_11 = 19 := ey_11.trans (by decide)
              refine va_put (D := D) (ci := 11) (v := .int 19) (ty := .int) (C := RX11) (T := TX11) (N := 13) hx hb hg iX11 tyX11 tyX11_ok nmX11 hown hK hP hD hS 0 rfl rfl 11 (by decide) (hg (Cond.fieldLink RX11 83 "SlabWalk" "taped" "I") m581) (fun _ h9 => h9) rfl (by decide +kernel) rfl rfl (fs_lt (fs_eq (fs_eq g_F_taped))) dX11_putOnTape_29 (fun H locs hP hD hS => ?_)
              have hP : va_P D classes [(h0, .inr (11, (((F.set 11 (.int 17)).set 11 (.int 18)).set 11 (.int 19)))), (tp, .inl (k.1, 1600, .inl f_8))] H := hP
              have hD : va_D A [(h0, .inr (11, (((F.set 11 (.int 17)).set 11 (.int 18)).set 11 (.int 19)))), (tp, .inl (k.1, 1600, .inl f_8))] := hD
              refine lv_iload_n hx hb dX11_putOnTape_32 rfl (lv_at hl 2 rfl) ?_
              refine lv_iload_n hx hb dX11_putOnTape_33 rfl (lv_at hl 0 rfl) ?_
              refine lv_ishr hx hb dX11_putOnTape_34 ?_
              refine lv_i2b (v := ((p0 >>> (8 &&& 31)).toInt8.toInt32)) hx hb dX11_putOnTape_35 rfl ?_
              refine va_bast hx hb hK hP hD hS 1 0 rfl rfl (show ¬ ((18 : Int32) < 0 ∨ 1600 ≤ (18 : Int32).toNatClampNeg) from by decide +kernel) dX11_putOnTape_36 (fun H locs hP hD hS => ?_)
              have hP : va_P D classes [(h0, .inr (11, (((F.set 11 (.int 17)).set 11 (.int 18)).set 11 (.int 19)))), (tp, .inl (k.1, 1600, .inl (upd f_8 18 (vp_nar .byte ((p0 >>> (8 &&& 31)).toInt8.toInt32)))))] H := hP
              have hD : va_D A [(h0, .inr (11, (((F.set 11 (.int 17)).set 11 (.int 18)).set 11 (.int 19)))), (tp, .inl (k.1, 1600, .inl (upd f_8 18 (vp_nar .byte ((p0 >>> (8 &&& 31)).toInt8.toInt32)))))] := hD
              generalize (upd f_8 18 (vp_nar .byte ((p0 >>> (8 &&& 31)).toInt8.toInt32))) = f_12 at hP hD
              refine lv_iinc (v := 0) (lv' := [(2, .int 0), (0, .ref h0), (1, .int p0)]) hx hb dX11_putOnTape_37 hl (k := 0) rfl (by decide) (by decide) rfl (fun ls hl => ?_)
              refine lv_goto (tgt := 3) hx hb dX11_putOnTape_40 (by decide) ?_
              refine lv_iload_n hx hb dX11_putOnTape_3 rfl (lv_at hl 0 rfl) ?_
              refine lv_if_lt (tgt := 43) hx hb dX11_putOnTape_4 (by decide) (fun c_13 => ?_) (fun c_13 => ?_)
              · exact absurd c_13 (by decide)
              · have c_13 : ¬ ((0 : Int32) < 0) := c_13
                refine lv_aload_n hx hb dX11_putOnTape_7 rfl (lv_at hl 1 rfl) ?_
                refine va_get (D := D) (ci := 11) (v := .int 19) (C := RX11) (T := TX11) (N := 13) hx hb hg iX11 hown hK hP 0 rfl rfl 11 (by decide) (hg (Cond.fieldLink RX11 83 "SlabWalk" "taped" "I") m581) (fun _ h9 => h9) (fs_eq (fs_eq (fs_eq g_F_taped))) dX11_putOnTape_8 ?_
                refine lv_sipush (v := 1600) hx hb dX11_putOnTape_11 (by decide) ?_
                refine lv_icmp_ge (tgt := 37) hx hb dX11_putOnTape_14 (by decide) (fun c_14 => ?_) (fun c_14 => ?_)
                · exact absurd c_14 (by decide)
                · have c_14 : ¬ ((1600 : Int32) ≤ 19) := c_14
                  refine lv_aload_n hx hb dX11_putOnTape_17 rfl (lv_at hl 1 rfl) ?_
                  refine va_get (D := D) (ci := 11) (v := .ref tp) (C := RX11) (T := TX11) (N := 13) hx hb hg iX11 hown hK hP 0 rfl rfl 2 (by decide) (hg (Cond.fieldLink RX11 19 "SlabWalk" "tape" "[B") m572) (fun _ h9 => h9) (fs_ne (fs_ne (fs_ne g_F_tape (by decide)) (by decide)) (by decide)) dX11_putOnTape_18 ?_
                  refine lv_aload_n hx hb dX11_putOnTape_21 rfl (lv_at hl 1 rfl) ?_
                  refine lv_dup hx hb dX11_putOnTape_22 rfl ?_
                  refine va_get (D := D) (ci := 11) (v := .int 19) (C := RX11) (T := TX11) (N := 13) hx hb hg iX11 hown hK hP 0 rfl rfl 11 (by decide) (hg (Cond.fieldLink RX11 83 "SlabWalk" "taped" "I") m581) (fun _ h9 => h9) (fs_eq (fs_eq (fs_eq g_F_taped))) dX11_putOnTape_23 ?_
                  refine lv_dup_x1 hx hb dX11_putOnTape_26 rfl rfl ?_
                  refine lv_iconst (v := 1) hx hb dX11_putOnTape_27 (by decide) ?_
                  refine lv_iadd hx hb dX11_putOnTape_28 ?_
                  refine lv_topi (fun y_15 ey_15 => ?_)
                  obtain rfl : y_15 = 20 := ey_15.trans (by decide)
                  refine va_put (D := D) (ci := 11) (v := .int 20) (ty := .int) (C := RX11) (T := TX11) (N := 13) hx hb hg iX11 tyX11 tyX11_ok nmX11 hown hK hP hD hS 0 rfl rfl 11 (by decide) (hg (Cond.fieldLink RX11 83 "SlabWalk" "taped" "I") m581) (fun _ h9 => h9) rfl (by decide +kernel) rfl rfl (fs_lt (fs_eq (fs_eq (fs_eq g_F_taped)))) dX11_putOnTape_29 (fun H locs hP hD hS => ?_)
                  have hP : va_P D classes [(h0, .inr (11, ((((F.set 11 (.int 17)).set 11 (.int 18)).set 11 (.int 19)).set 11 (.int 20)))), (tp, .inl (k.1, 1600, .inl f_12))] H := hP
                  have hD : va_D A [(h0, .inr (11, ((((F.set 11 (.int 17)).set 11 (.int 18)).set 11 (.int 19)).set 11 (.int 20)))), (tp, .inl (k.1, 1600, .inl f_12))] := hD
                  refine lv_iload_n hx hb dX11_putOnTape_32 rfl (lv_at hl 2 rfl) ?_
                  refine lv_iload_n hx hb dX11_putOnTape_33 rfl (lv_at hl 0 rfl) ?_
                  refine lv_ishr hx hb dX11_putOnTape_34 ?_
                  refine lv_i2b (v := ((p0 >>> (0 &&& 31)).toInt8.toInt32)) hx hb dX11_putOnTape_35 rfl ?_
                  refine va_bast hx hb hK hP hD hS 1 0 rfl rfl (show ¬ ((19 : Int32) < 0 ∨ 1600 ≤ (19 : Int32).toNatClampNeg) from by decide +kernel) dX11_putOnTape_36 (fun H locs hP hD hS => ?_)
                  have hP : va_P D classes [(h0, .inr (11, ((((F.set 11 (.int 17)).set 11 (.int 18)).set 11 (.int 19)).set 11 (.int 20)))), (tp, .inl (k.1, 1600, .inl (upd f_12 19 (vp_nar .byte ((p0 >>> (0 &&& 31)).toInt8.toInt32)))))] H := hP
                  have hD : va_D A [(h0, .inr (11, ((((F.set 11 (.int 17)).set 11 (.int 18)).set 11 (.int 19)).set 11 (.int 20)))), (tp, .inl (k.1, 1600, .inl (upd f_12 19 (vp_nar .byte ((p0 >>> (0 &&& 31)).toInt8.toInt32)))))] := hD
                  generalize (upd f_12 19 (vp_nar .byte ((p0 >>> (0 &&& 31)).toInt8.toInt32))) = f_16 at hP hD
                  refine lv_iinc (v := (-8)) (lv' := [(2, .int (-8)), (0, .ref h0), (1, .int p0)]) hx hb dX11_putOnTape_37 hl (k := 0) rfl (by decide) (by decide) rfl (fun ls hl => ?_)
                  refine lv_goto (tgt := 3) hx hb dX11_putOnTape_40 (by decide) ?_
                  refine lv_iload_n hx hb dX11_putOnTape_3 rfl (lv_at hl 0 rfl) ?_
                  refine lv_if_lt (tgt := 43) hx hb dX11_putOnTape_4 (by decide) (fun c_17 => ?_) (fun c_17 => ?_)
                  · have c_17 : ((-8) : Int32) < 0 := c_17
                    have hP9 := hP.sub (ws' := [(h0, .inr (11, ((((F.set 11 (.int 17)).set 11 (.int 18)).set 11 (.int 19)).set 11 (.int 20)))), (tp, .inl (k.1, 1600, .inl f_16))]) [0, 1] rfl
                    have hD9 := hD.sub (ws' := [(h0, .inr (11, ((((F.set 11 (.int 17)).set 11 (.int 18)).set 11 (.int 19)).set 11 (.int 20)))), (tp, .inl (k.1, 1600, .inl f_16))]) [0, 1] (by decide) rfl
                    exact W.vret hx hb hr (fun t ht hW => ⟨⟨(), rfl, trivial, ⟨((((F.set 11 (.int 17)).set 11 (.int 18)).set 11 (.int 19)).set 11 (.int 20)), f_16, (fs_eq (fs_eq (fs_eq (fs_eq g_F_taped)))), (fs_ne (fs_ne (fs_ne (fs_ne g_F_tape (by decide)) (by decide)) (by decide)) (by decide)), cB_of ht hP9 hD9⟩⟩, hS.F ht⟩) hS.2.2 dX11_putOnTape_43
                  · exact absurd (by decide) c_17

set_option maxHeartbeats 4000000 in
set_option maxRecDepth 100000 in
theorem c_X11_feed (l : Launch) (D : va_G) (k : ClassId × ClassId × ClassId × ClassId) (sz : Nat) (h0 tp : Nat) (F : List Value) (f : Nat → Int32) (p0 p1 p2 p3 p4 : Int32) (g_F_taped : F[11]? = some (.int 0)) (g_F_tape : F[2]? = some (.ref tp)) : Met l yX11_feed (WS yX11_feed cX11_feed 6 (some .int)) ({ frames := 1, cells := 0, slots := 0, locals := 22 }) (va_Pc [.ref h0, .int p0, .int p1, .int p2, .int p3, .int p4] (cP D k [(h0, .inr (11, F)), (tp, .inl (k.1, 1600, .inl f))] sz)) (va_Qi (fun (r : Int32) (_ : Unit) => r = 20) (fun (_ : Unit) t => cB D (va_A [(h0, .inr (11, F)), (tp, .inl (k.1, 1600, .inl f))] sz) [] t) (va_A [(h0, .inr (11, F)), (tp, .inl (k.1, 1600, .inl f))] sz)) 0 0 (va_A [(h0, .inr (11, F)), (tp, .inl (k.1, 1600, .inl f))] sz) := by
  refine Met.ofW (cc := cX11_feed) (maxL := 6) (ret := (some .int)) (by decide) rfl ?_
  intro p e s m args below meth c s₁ B hml hv
  obtain ⟨rfl, hsz, hP, hKX, hD0⟩ := hv
  have hK := hKX.1
  have hx := B.exec
  have hb := B.bytes
  have hr := B.returns
  have hts := atoms_spec (ws := WS yX11_feed cX11_feed 6 (some .int)) B.pre
  have hgd : ∀ w ∈ gd, w ∈ WS yX11_feed cX11_feed 6 (some .int) := fun w h => List.mem_cons_of_mem _ h
  have hg : ∀ w ∈ gd, w.before _ s = true := fun w h => hts w (hgd w h)
  have hown : s.vm.findClass RX11 = some m.cls := findClass_of_methodNamed B.named
  have hlocks := B.notSynchronized
  subst hsz
  have hD := hD0.self (sz := s.heap.size)
  generalize hAe : va_A [(h0, .inr (11, F)), (tp, .inl (k.1, 1600, .inl f))] s.heap.size = A at hD ⊢
  have hA : ∀ q : Nat, s.heap.size ≤ q → A q := fun q h => by rw [← hAe]; exact Or.inr h
  have hS : va_S A s.heap s.heap [] := va_S.rf
  have hP : va_P D classes [(h0, .inr (11, F)), (tp, .inl (k.1, 1600, .inl f))] s.heap := hP
  have hl := lv_entry ([.ref h0, .int p0, .int p1, .int p2, .int p3, .int p4]) (n := 6) (Nat.le_of_ble_eq_true rfl)
  rw [lg_entry_eq]
  generalize (lg_sl ([.ref h0, .int p0, .int p1, .int p2, .int p3, .int p4]) ++ List.replicate (6 - (lg_sl ([.ref h0, .int p0, .int p1, .int p2, .int p3, .int p4])).length) Slot.unset).toArray = ls at hl ⊢
  have hl : lv_has ls 6 [(0, .ref h0), (1, .int p0), (2, .int p1), (3, .int p2), (4, .int p3), (5, .int p4)] := hl
  refine lv_aload_n hx hb dX11_feed_0 rfl (lv_at hl 0 rfl) ?_
  refine va_get (D := D) (ci := 11) (v := .int 0) (C := RX11) (T := TX11) (N := 13) hx hb hg iX11 hown hK hP 0 rfl rfl 11 (by decide) (hg (Cond.fieldLink RX11 83 "SlabWalk" "taped" "I") m581) (fun _ h9 => h9) g_F_taped dX11_feed_1 ?_
  refine lv_bipush (v := 20) hx hb dX11_feed_4 (by decide) ?_
  refine lv_iadd hx hb dX11_feed_6 ?_
  refine lv_topi (fun y_1 ey_1 => ?_)
  obtain rfl : y_1 = 20 := ey_1.trans (by decide)
  refine lv_sipush (v := 1600) hx hb dX11_feed_7 (by decide) ?_
  refine lv_icmp_le (tgt := 15) hx hb dX11_feed_10 (by decide) (fun c_2 => ?_) (fun c_2 => ?_)
  · have c_2 : (20 : Int32) ≤ 1600 := c_2
    refine lv_aload_n hx hb dX11_feed_15 rfl (lv_at hl 0 rfl) ?_
    refine lv_iload_n hx hb dX11_feed_16 rfl (lv_at hl 1 rfl) ?_
    have hPc := hP.sub (ws' := [(h0, .inr (11, F)), (tp, .inl (k.1, 1600, .inl f))]) [0, 1] rfl
    have hDc := hD.sub (ws' := [(h0, .inr (11, F)), (tp, .inl (k.1, 1600, .inl f))]) [0, 1] (by decide) rfl
    have hFc := va_free (wc := [(h0, .inr (11, F)), (tp, .inl (k.1, 1600, .inl f))]) hD hS hA [0, 1] rfl
    refine va_callv (va_runV (As := [.int p0]) (rest := []) ⟨hx, hb, hml, hown, hts⟩ (c_put0 l D k s.heap.size h0 tp F f p0 g_F_taped g_F_tape) (cwV 1 hts (gd_V hgd m614 m616 m2 m117 m617) rfl rfl rfl (by decide +kernel) ⟨Nat.le_of_ble_eq_true rfl, Nat.le_of_ble_eq_true rfl⟩) (cP_V hPc hKX hDc (ci := 11) (q0 := 0) rfl rfl) rfl rfl hl.1 rfl (lv_room (Nat.le_of_ble_eq_true rfl)) dX11_feed_17 ⟨Nat.le_of_ble_eq_true rfl, Nat.le_of_ble_eq_true rfl⟩) hS (fun q _ h => hFc q h) hFc (fun u t H1 locs ht hvm hw hB hz1 hk1 hS => ?_)
    obtain ⟨z_4, z_5, g_6, g_7, hP1, hD1⟩ := hB
    rw [ht] at hP1
    obtain ⟨hP, hD⟩ := va_join (wr := []) (w1 := [(h0, .inr (11, z_4)), (tp, .inl (k.1, 1600, .inl z_5))]) hP hD [0, 1] [] rfl rfl (by decide) (by decide) hk1 hFc hP1 hD1
    generalize H1 = H at hP hS ⊢
    have hP : va_P D classes [(h0, .inr (11, z_4)), (tp, .inl (k.1, 1600, .inl z_5))] H := hP
    have hD : va_D A [(h0, .inr (11, z_4)), (tp, .inl (k.1, 1600, .inl z_5))] := hD
    refine W.widen (k := 0) (n := 0) (Nat.le_of_ble_eq_true rfl) (Nat.le_of_ble_eq_true rfl) ?_
    refine lv_aload_n hx hb dX11_feed_20 rfl (lv_at hl 0 rfl) ?_
    refine lv_iload_n hx hb dX11_feed_21 rfl (lv_at hl 2 rfl) ?_
    have hPc := hP.sub (ws' := [(h0, .inr (11, z_4)), (tp, .inl (k.1, 1600, .inl z_5))]) [0, 1] rfl
    have hDc := hD.sub (ws' := [(h0, .inr (11, z_4)), (tp, .inl (k.1, 1600, .inl z_5))]) [0, 1] (by decide) rfl
    have hFc := va_free (wc := [(h0, .inr (11, z_4)), (tp, .inl (k.1, 1600, .inl z_5))]) hD hS hA [0, 1] rfl
    refine va_callv (va_runV (As := [.int p1]) (rest := []) ⟨hx, hb, hml, hown, hts⟩ (c_put4 l D k H.size h0 tp z_4 z_5 p1 g_6 g_7) (cwV 1 hts (gd_V hgd m614 m616 m2 m117 m617) rfl rfl rfl (by decide +kernel) ⟨Nat.le_of_ble_eq_true rfl, Nat.le_of_ble_eq_true rfl⟩) (cP_V hPc hKX hDc (ci := 11) (q0 := 0) rfl rfl) rfl rfl hl.1 rfl (lv_room (Nat.le_of_ble_eq_true rfl)) dX11_feed_22 ⟨Nat.le_of_ble_eq_true rfl, Nat.le_of_ble_eq_true rfl⟩) hS (fun q _ h => hFc q h) hFc (fun u t H1 locs ht hvm hw hB hz1 hk1 hS => ?_)
    obtain ⟨z_9, z_10, g_11, g_12, hP1, hD1⟩ := hB
    rw [ht] at hP1
    obtain ⟨hP, hD⟩ := va_join (wr := []) (w1 := [(h0, .inr (11, z_9)), (tp, .inl (k.1, 1600, .inl z_10))]) hP hD [0, 1] [] rfl rfl (by decide) (by decide) hk1 hFc hP1 hD1
    generalize H1 = H at hP hS ⊢
    have hP : va_P D classes [(h0, .inr (11, z_9)), (tp, .inl (k.1, 1600, .inl z_10))] H := hP
    have hD : va_D A [(h0, .inr (11, z_9)), (tp, .inl (k.1, 1600, .inl z_10))] := hD
    refine W.widen (k := 0) (n := 0) (Nat.le_of_ble_eq_true rfl) (Nat.le_of_ble_eq_true rfl) ?_
    refine lv_aload_n hx hb dX11_feed_25 rfl (lv_at hl 0 rfl) ?_
    refine lv_iload_n hx hb dX11_feed_26 rfl (lv_at hl 3 rfl) ?_
    have hPc := hP.sub (ws' := [(h0, .inr (11, z_9)), (tp, .inl (k.1, 1600, .inl z_10))]) [0, 1] rfl
    have hDc := hD.sub (ws' := [(h0, .inr (11, z_9)), (tp, .inl (k.1, 1600, .inl z_10))]) [0, 1] (by decide) rfl
    have hFc := va_free (wc := [(h0, .inr (11, z_9)), (tp, .inl (k.1, 1600, .inl z_10))]) hD hS hA [0, 1] rfl
    refine va_callv (va_runV (As := [.int p2]) (rest := []) ⟨hx, hb, hml, hown, hts⟩ (c_put8 l D k H.size h0 tp z_9 z_10 p2 g_11 g_12) (cwV 1 hts (gd_V hgd m614 m616 m2 m117 m617) rfl rfl rfl (by decide +kernel) ⟨Nat.le_of_ble_eq_true rfl, Nat.le_of_ble_eq_true rfl⟩) (cP_V hPc hKX hDc (ci := 11) (q0 := 0) rfl rfl) rfl rfl hl.1 rfl (lv_room (Nat.le_of_ble_eq_true rfl)) dX11_feed_27 ⟨Nat.le_of_ble_eq_true rfl, Nat.le_of_ble_eq_true rfl⟩) hS (fun q _ h => hFc q h) hFc (fun u t H1 locs ht hvm hw hB hz1 hk1 hS => ?_)
    obtain ⟨z_14, z_15, g_16, g_17, hP1, hD1⟩ := hB
    rw [ht] at hP1
    obtain ⟨hP, hD⟩ := va_join (wr := []) (w1 := [(h0, .inr (11, z_14)), (tp, .inl (k.1, 1600, .inl z_15))]) hP hD [0, 1] [] rfl rfl (by decide) (by decide) hk1 hFc hP1 hD1
    generalize H1 = H at hP hS ⊢
    have hP : va_P D classes [(h0, .inr (11, z_14)), (tp, .inl (k.1, 1600, .inl z_15))] H := hP
    have hD : va_D A [(h0, .inr (11, z_14)), (tp, .inl (k.1, 1600, .inl z_15))] := hD
    refine W.widen (k := 0) (n := 0) (Nat.le_of_ble_eq_true rfl) (Nat.le_of_ble_eq_true rfl) ?_
    refine lv_aload_n hx hb dX11_feed_30 rfl (lv_at hl 0 rfl) ?_
    refine lv_iload hx hb dX11_feed_31 (lv_at hl 4 rfl) ?_
    have hPc := hP.sub (ws' := [(h0, .inr (11, z_14)), (tp, .inl (k.1, 1600, .inl z_15))]) [0, 1] rfl
    have hDc := hD.sub (ws' := [(h0, .inr (11, z_14)), (tp, .inl (k.1, 1600, .inl z_15))]) [0, 1] (by decide) rfl
    have hFc := va_free (wc := [(h0, .inr (11, z_14)), (tp, .inl (k.1, 1600, .inl z_15))]) hD hS hA [0, 1] rfl
    refine va_callv (va_runV (As := [.int p3]) (rest := []) ⟨hx, hb, hml, hown, hts⟩ (c_put12 l D k H.size h0 tp z_14 z_15 p3 g_16 g_17) (cwV 1 hts (gd_V hgd m614 m616 m2 m117 m617) rfl rfl rfl (by decide +kernel) ⟨Nat.le_of_ble_eq_true rfl, Nat.le_of_ble_eq_true rfl⟩) (cP_V hPc hKX hDc (ci := 11) (q0 := 0) rfl rfl) rfl rfl hl.1 rfl (lv_room (Nat.le_of_ble_eq_true rfl)) dX11_feed_33 ⟨Nat.le_of_ble_eq_true rfl, Nat.le_of_ble_eq_true rfl⟩) hS (fun q _ h => hFc q h) hFc (fun u t H1 locs ht hvm hw hB hz1 hk1 hS => ?_)
    obtain ⟨z_19, z_20, g_21, g_22, hP1, hD1⟩ := hB
    rw [ht] at hP1
    obtain ⟨hP, hD⟩ := va_join (wr := []) (w1 := [(h0, .inr (11, z_19)), (tp, .inl (k.1, 1600, .inl z_20))]) hP hD [0, 1] [] rfl rfl (by decide) (by decide) hk1 hFc hP1 hD1
    generalize H1 = H at hP hS ⊢
    have hP : va_P D classes [(h0, .inr (11, z_19)), (tp, .inl (k.1, 1600, .inl z_20))] H := hP
    have hD : va_D A [(h0, .inr (11, z_19)), (tp, .inl (k.1, 1600, .inl z_20))] := hD
    refine W.widen (k := 0) (n := 0) (Nat.le_of_ble_eq_true rfl) (Nat.le_of_ble_eq_true rfl) ?_
    refine lv_aload_n hx hb dX11_feed_36 rfl (lv_at hl 0 rfl) ?_
    refine lv_iload hx hb dX11_feed_37 (lv_at hl 5 rfl) ?_
    have hPc := hP.sub (ws' := [(h0, .inr (11, z_19)), (tp, .inl (k.1, 1600, .inl z_20))]) [0, 1] rfl
    have hDc := hD.sub (ws' := [(h0, .inr (11, z_19)), (tp, .inl (k.1, 1600, .inl z_20))]) [0, 1] (by decide) rfl
    have hFc := va_free (wc := [(h0, .inr (11, z_19)), (tp, .inl (k.1, 1600, .inl z_20))]) hD hS hA [0, 1] rfl
    refine va_callv (va_runV (As := [.int p4]) (rest := []) ⟨hx, hb, hml, hown, hts⟩ (c_put16 l D k H.size h0 tp z_19 z_20 p4 g_21 g_22) (cwV 1 hts (gd_V hgd m614 m616 m2 m117 m617) rfl rfl rfl (by decide +kernel) ⟨Nat.le_of_ble_eq_true rfl, Nat.le_of_ble_eq_true rfl⟩) (cP_V hPc hKX hDc (ci := 11) (q0 := 0) rfl rfl) rfl rfl hl.1 rfl (lv_room (Nat.le_of_ble_eq_true rfl)) dX11_feed_39 ⟨Nat.le_of_ble_eq_true rfl, Nat.le_of_ble_eq_true rfl⟩) hS (fun q _ h => hFc q h) hFc (fun u t H1 locs ht hvm hw hB hz1 hk1 hS => ?_)
    obtain ⟨z_24, z_25, g_26, g_27, hP1, hD1⟩ := hB
    rw [ht] at hP1
    obtain ⟨hP, hD⟩ := va_join (wr := []) (w1 := [(h0, .inr (11, z_24)), (tp, .inl (k.1, 1600, .inl z_25))]) hP hD [0, 1] [] rfl rfl (by decide) (by decide) hk1 hFc hP1 hD1
    generalize H1 = H at hP hS ⊢
    have hP : va_P D classes [(h0, .inr (11, z_24)), (tp, .inl (k.1, 1600, .inl z_25))] H := hP
    have hD : va_D A [(h0, .inr (11, z_24)), (tp, .inl (k.1, 1600, .inl z_25))] := hD
    refine W.widen (k := 0) (n := 0) (Nat.le_of_ble_eq_true rfl) (Nat.le_of_ble_eq_true rfl) ?_
    refine lv_aload_n hx hb dX11_feed_42 rfl (lv_at hl 0 rfl) ?_
    refine va_get (D := D) (ci := 11) (v := .int 20) (C := RX11) (T := TX11) (N := 13) hx hb hg iX11 hown hK hP 0 rfl rfl 11 (by decide) (hg (Cond.fieldLink RX11 83 "SlabWalk" "taped" "I") m581) (fun _ h9 => h9) g_26 dX11_feed_43 ?_
    have hP9 := hP.sub (ws' := []) [] rfl
    have hD9 := hD.sub (ws' := []) [] (by decide) rfl
    exact W.iret (v := 20) hx hb hr (fun t ht hW => ⟨⟨20, (), rfl, rfl, cB_of ht hP9 hD9⟩, hS.F ht⟩) hS.2.2 dX11_feed_46
  · exact absurd (by decide) c_2
