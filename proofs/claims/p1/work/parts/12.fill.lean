set_option maxHeartbeats 4000000 in
set_option maxRecDepth 100000 in
theorem c_fill3 (l : Launch) (D : va_G) (k : ClassId × ClassId × ClassId × ClassId) (sz : Nat) (h0 : Nat) (f : Nat → Int32) (p0 : Int32)  : Met l yJ7_fill_53178 (WS yJ7_fill_53178 cJ7_fill_53178 4 none) ({ frames := 0, cells := 0, slots := 0, locals := 0 }) (va_Pc [.ref h0, .int p0] (cP D k [(h0, .inl (k.2.1, 3, .inl f))] sz)) (va_Qv (fun _ : Unit => True) (fun (_ : Unit) t => ∃ (g : Nat → Int32), g 0 = p0 ∧ g 1 = p0 ∧ g 2 = p0 ∧ cB D (va_A [(h0, .inl (k.2.1, 3, .inl f))] sz) [(h0, .inl (k.2.1, 3, .inl g))] t) (va_A [(h0, .inl (k.2.1, 3, .inl f))] sz)) 0 0 (va_A [(h0, .inl (k.2.1, 3, .inl f))] sz) := by
  refine Met.ofW (cc := cJ7_fill_53178) (maxL := 4) (ret := none) (by decide) rfl ?_
  intro p e s m args below meth c s₁ B hml hv
  obtain ⟨rfl, hsz, hP, hKX, hD0⟩ := hv
  have hK := hKX.1
  have hx := B.exec
  have hb := B.bytes
  have hr := B.returns
  have hts := atoms_spec (ws := WS yJ7_fill_53178 cJ7_fill_53178 4 none) B.pre
  have hgd : ∀ w ∈ gd, w ∈ WS yJ7_fill_53178 cJ7_fill_53178 4 none := fun w h => List.mem_cons_of_mem _ h
  have hg : ∀ w ∈ gd, w.before _ s = true := fun w h => hts w (hgd w h)
  have hown : s.vm.findClass RJ7 = some m.cls := findClass_of_methodNamed B.named
  have hlocks := B.notSynchronized
  subst hsz
  have hD := hD0.self (sz := s.heap.size)
  generalize hAe : va_A [(h0, .inl (k.2.1, 3, .inl f))] s.heap.size = A at hD ⊢
  have hA : ∀ q : Nat, s.heap.size ≤ q → A q := fun q h => by rw [← hAe]; exact Or.inr h
  have hS : va_S A s.heap s.heap [] := va_S.rf
  have hP : va_P D classes [(h0, .inl (k.2.1, 3, .inl f))] s.heap := hP
  have hl := lv_entry ([.ref h0, .int p0]) (n := 4) (Nat.le_of_ble_eq_true rfl)
  rw [lg_entry_eq]
  generalize (lg_sl ([.ref h0, .int p0]) ++ List.replicate (4 - (lg_sl ([.ref h0, .int p0])).length) Slot.unset).toArray = ls at hl ⊢
  have hl : lv_has ls 4 [(0, .ref h0), (1, .int p0)] := hl
  refine lv_iconst (v := 0) hx hb dJ7_fill_53178_0 (by decide) ?_
  refine lv_istore_n (lv' := [(2, .int 0), (0, .ref h0), (1, .int p0)]) hx hb dJ7_fill_53178_1 rfl hl (by decide) rfl (fun ls hl => ?_)
  refine lv_aload_n hx hb dJ7_fill_53178_2 rfl (lv_at hl 1 rfl) ?_
  refine va_alen (v := 3) hx hb hK hP 0 1 rfl rfl rfl dJ7_fill_53178_3 ?_
  refine lv_istore_n (lv' := [(3, .int 3), (2, .int 0), (0, .ref h0), (1, .int p0)]) hx hb dJ7_fill_53178_4 rfl hl (by decide) rfl (fun ls hl => ?_)
  refine lv_iload_n hx hb dJ7_fill_53178_5 rfl (lv_at hl 1 rfl) ?_
  refine lv_iload_n hx hb dJ7_fill_53178_6 rfl (lv_at hl 0 rfl) ?_
  refine lv_icmp_ge (tgt := 20) hx hb dJ7_fill_53178_7 (by decide) (fun c_1 => ?_) (fun c_1 => ?_)
  · exact absurd c_1 (by decide)
  · have c_1 : ¬ ((3 : Int32) ≤ 0) := c_1
    refine lv_aload_n hx hb dJ7_fill_53178_10 rfl (lv_at hl 2 rfl) ?_
    refine lv_iload_n hx hb dJ7_fill_53178_11 rfl (lv_at hl 1 rfl) ?_
    refine lv_iload_n hx hb dJ7_fill_53178_12 rfl (lv_at hl 3 rfl) ?_
    refine va_iast hx hb hK hP hD hS 0 1 rfl rfl (show ¬ ((0 : Int32) < 0 ∨ 3 ≤ (0 : Int32).toNatClampNeg) from by decide +kernel) dJ7_fill_53178_13 (fun H locs hP hD hS => ?_)
    have hP : va_P D classes [(h0, .inl (k.2.1, 3, .inl (upd f 0 p0)))] H := hP
    have hD : va_D A [(h0, .inl (k.2.1, 3, .inl (upd f 0 p0)))] := hD
    have g_3 : (upd f 0 p0) 0 = p0 := rfl
    generalize (upd f 0 p0) = f_2 at hP hD g_3
    refine lv_iinc (v := 1) (lv' := [(2, .int 1), (3, .int 3), (0, .ref h0), (1, .int p0)]) hx hb dJ7_fill_53178_14 hl (k := 1) rfl (by decide) (by decide) rfl (fun ls hl => ?_)
    refine lv_goto (tgt := 5) hx hb dJ7_fill_53178_17 (by decide) ?_
    refine lv_iload_n hx hb dJ7_fill_53178_5 rfl (lv_at hl 0 rfl) ?_
    refine lv_iload_n hx hb dJ7_fill_53178_6 rfl (lv_at hl 1 rfl) ?_
    refine lv_icmp_ge (tgt := 20) hx hb dJ7_fill_53178_7 (by decide) (fun c_4 => ?_) (fun c_4 => ?_)
    · exact absurd c_4 (by decide)
    · have c_4 : ¬ ((3 : Int32) ≤ 1) := c_4
      refine lv_aload_n hx hb dJ7_fill_53178_10 rfl (lv_at hl 2 rfl) ?_
      refine lv_iload_n hx hb dJ7_fill_53178_11 rfl (lv_at hl 0 rfl) ?_
      refine lv_iload_n hx hb dJ7_fill_53178_12 rfl (lv_at hl 3 rfl) ?_
      refine va_iast hx hb hK hP hD hS 0 1 rfl rfl (show ¬ ((1 : Int32) < 0 ∨ 3 ≤ (1 : Int32).toNatClampNeg) from by decide +kernel) dJ7_fill_53178_13 (fun H locs hP hD hS => ?_)
      have hP : va_P D classes [(h0, .inl (k.2.1, 3, .inl (upd f_2 1 p0)))] H := hP
      have hD : va_D A [(h0, .inl (k.2.1, 3, .inl (upd f_2 1 p0)))] := hD
      have g_6 : (upd f_2 1 p0) 0 = p0 := g_3
      have g_7 : (upd f_2 1 p0) 1 = p0 := rfl
      generalize (upd f_2 1 p0) = f_5 at hP hD g_6 g_7
      refine lv_iinc (v := 2) (lv' := [(2, .int 2), (3, .int 3), (0, .ref h0), (1, .int p0)]) hx hb dJ7_fill_53178_14 hl (k := 0) rfl (by decide) (by decide) rfl (fun ls hl => ?_)
      refine lv_goto (tgt := 5) hx hb dJ7_fill_53178_17 (by decide) ?_
      refine lv_iload_n hx hb dJ7_fill_53178_5 rfl (lv_at hl 0 rfl) ?_
      refine lv_iload_n hx hb dJ7_fill_53178_6 rfl (lv_at hl 1 rfl) ?_
      refine lv_icmp_ge (tgt := 20) hx hb dJ7_fill_53178_7 (by decide) (fun c_8 => ?_) (fun c_8 => ?_)
      · exact absurd c_8 (by decide)
      · have c_8 : ¬ ((3 : Int32) ≤ 2) := c_8
        refine lv_aload_n hx hb dJ7_fill_53178_10 rfl (lv_at hl 2 rfl) ?_
        refine lv_iload_n hx hb dJ7_fill_53178_11 rfl (lv_at hl 0 rfl) ?_
        refine lv_iload_n hx hb dJ7_fill_53178_12 rfl (lv_at hl 3 rfl) ?_
        refine va_iast hx hb hK hP hD hS 0 1 rfl rfl (show ¬ ((2 : Int32) < 0 ∨ 3 ≤ (2 : Int32).toNatClampNeg) from by decide +kernel) dJ7_fill_53178_13 (fun H locs hP hD hS => ?_)
        have hP : va_P D classes [(h0, .inl (k.2.1, 3, .inl (upd f_5 2 p0)))] H := hP
        have hD : va_D A [(h0, .inl (k.2.1, 3, .inl (upd f_5 2 p0)))] := hD
        have g_10 : (upd f_5 2 p0) 0 = p0 := g_6
        have g_11 : (upd f_5 2 p0) 1 = p0 := g_7
        have g_12 : (upd f_5 2 p0) 2 = p0 := rfl
        generalize (upd f_5 2 p0) = f_9 at hP hD g_10 g_11 g_12
        refine lv_iinc (v := 3) (lv' := [(2, .int 3), (3, .int 3), (0, .ref h0), (1, .int p0)]) hx hb dJ7_fill_53178_14 hl (k := 0) rfl (by decide) (by decide) rfl (fun ls hl => ?_)
        refine lv_goto (tgt := 5) hx hb dJ7_fill_53178_17 (by decide) ?_
        refine lv_iload_n hx hb dJ7_fill_53178_5 rfl (lv_at hl 0 rfl) ?_
        refine lv_iload_n hx hb dJ7_fill_53178_6 rfl (lv_at hl 1 rfl) ?_
        refine lv_icmp_ge (tgt := 20) hx hb dJ7_fill_53178_7 (by decide) (fun c_13 => ?_) (fun c_13 => ?_)
        · have c_13 : (3 : Int32) ≤ 3 := c_13
          have hP9 := hP.sub (ws' := [(h0, .inl (k.2.1, 3, .inl f_9))]) [0] rfl
          have hD9 := hD.sub (ws' := [(h0, .inl (k.2.1, 3, .inl f_9))]) [0] (by decide) rfl
          exact W.vret hx hb hr (fun t ht hW => ⟨⟨(), rfl, trivial, ⟨f_9, g_10, g_11, g_12, cB_of ht hP9 hD9⟩⟩, hS.F ht⟩) hS.2.2 dJ7_fill_53178_20
        · exact absurd (by decide) c_13

set_option maxHeartbeats 4000000 in
set_option maxRecDepth 100000 in
theorem c_fill10 (l : Launch) (D : va_G) (k : ClassId × ClassId × ClassId × ClassId) (sz : Nat) (h0 : Nat) (f : Nat → Int32) (p0 : Int32)  : Met l yJ7_fill_53178 (WS yJ7_fill_53178 cJ7_fill_53178 4 none) ({ frames := 0, cells := 0, slots := 0, locals := 0 }) (va_Pc [.ref h0, .int p0] (cP D k [(h0, .inl (k.2.1, 10, .inl f))] sz)) (va_Qv (fun _ : Unit => True) (fun (_ : Unit) t => ∃ (g : Nat → Int32), g 0 = p0 ∧ g 1 = p0 ∧ g 2 = p0 ∧ g 3 = p0 ∧ g 4 = p0 ∧ g 5 = p0 ∧ g 6 = p0 ∧ g 7 = p0 ∧ g 8 = p0 ∧ g 9 = p0 ∧ cB D (va_A [(h0, .inl (k.2.1, 10, .inl f))] sz) [(h0, .inl (k.2.1, 10, .inl g))] t) (va_A [(h0, .inl (k.2.1, 10, .inl f))] sz)) 0 0 (va_A [(h0, .inl (k.2.1, 10, .inl f))] sz) := by
  refine Met.ofW (cc := cJ7_fill_53178) (maxL := 4) (ret := none) (by decide) rfl ?_
  intro p e s m args below meth c s₁ B hml hv
  obtain ⟨rfl, hsz, hP, hKX, hD0⟩ := hv
  have hK := hKX.1
  have hx := B.exec
  have hb := B.bytes
  have hr := B.returns
  have hts := atoms_spec (ws := WS yJ7_fill_53178 cJ7_fill_53178 4 none) B.pre
  have hgd : ∀ w ∈ gd, w ∈ WS yJ7_fill_53178 cJ7_fill_53178 4 none := fun w h => List.mem_cons_of_mem _ h
  have hg : ∀ w ∈ gd, w.before _ s = true := fun w h => hts w (hgd w h)
  have hown : s.vm.findClass RJ7 = some m.cls := findClass_of_methodNamed B.named
  have hlocks := B.notSynchronized
  subst hsz
  have hD := hD0.self (sz := s.heap.size)
  generalize hAe : va_A [(h0, .inl (k.2.1, 10, .inl f))] s.heap.size = A at hD ⊢
  have hA : ∀ q : Nat, s.heap.size ≤ q → A q := fun q h => by rw [← hAe]; exact Or.inr h
  have hS : va_S A s.heap s.heap [] := va_S.rf
  have hP : va_P D classes [(h0, .inl (k.2.1, 10, .inl f))] s.heap := hP
  have hl := lv_entry ([.ref h0, .int p0]) (n := 4) (Nat.le_of_ble_eq_true rfl)
  rw [lg_entry_eq]
  generalize (lg_sl ([.ref h0, .int p0]) ++ List.replicate (4 - (lg_sl ([.ref h0, .int p0])).length) Slot.unset).toArray = ls at hl ⊢
  have hl : lv_has ls 4 [(0, .ref h0), (1, .int p0)] := hl
  refine lv_iconst (v := 0) hx hb dJ7_fill_53178_0 (by decide) ?_
  refine lv_istore_n (lv' := [(2, .int 0), (0, .ref h0), (1, .int p0)]) hx hb dJ7_fill_53178_1 rfl hl (by decide) rfl (fun ls hl => ?_)
  refine lv_aload_n hx hb dJ7_fill_53178_2 rfl (lv_at hl 1 rfl) ?_
  refine va_alen (v := 10) hx hb hK hP 0 1 rfl rfl rfl dJ7_fill_53178_3 ?_
  refine lv_istore_n (lv' := [(3, .int 10), (2, .int 0), (0, .ref h0), (1, .int p0)]) hx hb dJ7_fill_53178_4 rfl hl (by decide) rfl (fun ls hl => ?_)
  refine lv_iload_n hx hb dJ7_fill_53178_5 rfl (lv_at hl 1 rfl) ?_
  refine lv_iload_n hx hb dJ7_fill_53178_6 rfl (lv_at hl 0 rfl) ?_
  refine lv_icmp_ge (tgt := 20) hx hb dJ7_fill_53178_7 (by decide) (fun c_1 => ?_) (fun c_1 => ?_)
  · exact absurd c_1 (by decide)
  · have c_1 : ¬ ((10 : Int32) ≤ 0) := c_1
    refine lv_aload_n hx hb dJ7_fill_53178_10 rfl (lv_at hl 2 rfl) ?_
    refine lv_iload_n hx hb dJ7_fill_53178_11 rfl (lv_at hl 1 rfl) ?_
    refine lv_iload_n hx hb dJ7_fill_53178_12 rfl (lv_at hl 3 rfl) ?_
    refine va_iast hx hb hK hP hD hS 0 1 rfl rfl (show ¬ ((0 : Int32) < 0 ∨ 10 ≤ (0 : Int32).toNatClampNeg) from by decide +kernel) dJ7_fill_53178_13 (fun H locs hP hD hS => ?_)
    have hP : va_P D classes [(h0, .inl (k.2.1, 10, .inl (upd f 0 p0)))] H := hP
    have hD : va_D A [(h0, .inl (k.2.1, 10, .inl (upd f 0 p0)))] := hD
    have g_3 : (upd f 0 p0) 0 = p0 := rfl
    generalize (upd f 0 p0) = f_2 at hP hD g_3
    refine lv_iinc (v := 1) (lv' := [(2, .int 1), (3, .int 10), (0, .ref h0), (1, .int p0)]) hx hb dJ7_fill_53178_14 hl (k := 1) rfl (by decide) (by decide) rfl (fun ls hl => ?_)
    refine lv_goto (tgt := 5) hx hb dJ7_fill_53178_17 (by decide) ?_
    refine lv_iload_n hx hb dJ7_fill_53178_5 rfl (lv_at hl 0 rfl) ?_
    refine lv_iload_n hx hb dJ7_fill_53178_6 rfl (lv_at hl 1 rfl) ?_
    refine lv_icmp_ge (tgt := 20) hx hb dJ7_fill_53178_7 (by decide) (fun c_4 => ?_) (fun c_4 => ?_)
    · exact absurd c_4 (by decide)
    · have c_4 : ¬ ((10 : Int32) ≤ 1) := c_4
      refine lv_aload_n hx hb dJ7_fill_53178_10 rfl (lv_at hl 2 rfl) ?_
      refine lv_iload_n hx hb dJ7_fill_53178_11 rfl (lv_at hl 0 rfl) ?_
      refine lv_iload_n hx hb dJ7_fill_53178_12 rfl (lv_at hl 3 rfl) ?_
      refine va_iast hx hb hK hP hD hS 0 1 rfl rfl (show ¬ ((1 : Int32) < 0 ∨ 10 ≤ (1 : Int32).toNatClampNeg) from by decide +kernel) dJ7_fill_53178_13 (fun H locs hP hD hS => ?_)
      have hP : va_P D classes [(h0, .inl (k.2.1, 10, .inl (upd f_2 1 p0)))] H := hP
      have hD : va_D A [(h0, .inl (k.2.1, 10, .inl (upd f_2 1 p0)))] := hD
      have g_6 : (upd f_2 1 p0) 0 = p0 := g_3
      have g_7 : (upd f_2 1 p0) 1 = p0 := rfl
      generalize (upd f_2 1 p0) = f_5 at hP hD g_6 g_7
      refine lv_iinc (v := 2) (lv' := [(2, .int 2), (3, .int 10), (0, .ref h0), (1, .int p0)]) hx hb dJ7_fill_53178_14 hl (k := 0) rfl (by decide) (by decide) rfl (fun ls hl => ?_)
      refine lv_goto (tgt := 5) hx hb dJ7_fill_53178_17 (by decide) ?_
      refine lv_iload_n hx hb dJ7_fill_53178_5 rfl (lv_at hl 0 rfl) ?_
      refine lv_iload_n hx hb dJ7_fill_53178_6 rfl (lv_at hl 1 rfl) ?_
      refine lv_icmp_ge (tgt := 20) hx hb dJ7_fill_53178_7 (by decide) (fun c_8 => ?_) (fun c_8 => ?_)
      · exact absurd c_8 (by decide)
      · have c_8 : ¬ ((10 : Int32) ≤ 2) := c_8
        refine lv_aload_n hx hb dJ7_fill_53178_10 rfl (lv_at hl 2 rfl) ?_
        refine lv_iload_n hx hb dJ7_fill_53178_11 rfl (lv_at hl 0 rfl) ?_
        refine lv_iload_n hx hb dJ7_fill_53178_12 rfl (lv_at hl 3 rfl) ?_
        refine va_iast hx hb hK hP hD hS 0 1 rfl rfl (show ¬ ((2 : Int32) < 0 ∨ 10 ≤ (2 : Int32).toNatClampNeg) from by decide +kernel) dJ7_fill_53178_13 (fun H locs hP hD hS => ?_)
        have hP : va_P D classes [(h0, .inl (k.2.1, 10, .inl (upd f_5 2 p0)))] H := hP
        have hD : va_D A [(h0, .inl (k.2.1, 10, .inl (upd f_5 2 p0)))] := hD
        have g_10 : (upd f_5 2 p0) 0 = p0 := g_6
        have g_11 : (upd f_5 2 p0) 1 = p0 := g_7
        have g_12 : (upd f_5 2 p0) 2 = p0 := rfl
        generalize (upd f_5 2 p0) = f_9 at hP hD g_10 g_11 g_12
        refine lv_iinc (v := 3) (lv' := [(2, .int 3), (3, .int 10), (0, .ref h0), (1, .int p0)]) hx hb dJ7_fill_53178_14 hl (k := 0) rfl (by decide) (by decide) rfl (fun ls hl => ?_)
        refine lv_goto (tgt := 5) hx hb dJ7_fill_53178_17 (by decide) ?_
        refine lv_iload_n hx hb dJ7_fill_53178_5 rfl (lv_at hl 0 rfl) ?_
        refine lv_iload_n hx hb dJ7_fill_53178_6 rfl (lv_at hl 1 rfl) ?_
        refine lv_icmp_ge (tgt := 20) hx hb dJ7_fill_53178_7 (by decide) (fun c_13 => ?_) (fun c_13 => ?_)
        · exact absurd c_13 (by decide)
        · have c_13 : ¬ ((10 : Int32) ≤ 3) := c_13
          refine lv_aload_n hx hb dJ7_fill_53178_10 rfl (lv_at hl 2 rfl) ?_
          refine lv_iload_n hx hb dJ7_fill_53178_11 rfl (lv_at hl 0 rfl) ?_
          refine lv_iload_n hx hb dJ7_fill_53178_12 rfl (lv_at hl 3 rfl) ?_
          refine va_iast hx hb hK hP hD hS 0 1 rfl rfl (show ¬ ((3 : Int32) < 0 ∨ 10 ≤ (3 : Int32).toNatClampNeg) from by decide +kernel) dJ7_fill_53178_13 (fun H locs hP hD hS => ?_)
          have hP : va_P D classes [(h0, .inl (k.2.1, 10, .inl (upd f_9 3 p0)))] H := hP
          have hD : va_D A [(h0, .inl (k.2.1, 10, .inl (upd f_9 3 p0)))] := hD
          have g_15 : (upd f_9 3 p0) 0 = p0 := g_10
          have g_16 : (upd f_9 3 p0) 1 = p0 := g_11
          have g_17 : (upd f_9 3 p0) 2 = p0 := g_12
          have g_18 : (upd f_9 3 p0) 3 = p0 := rfl
          generalize (upd f_9 3 p0) = f_14 at hP hD g_15 g_16 g_17 g_18
          refine lv_iinc (v := 4) (lv' := [(2, .int 4), (3, .int 10), (0, .ref h0), (1, .int p0)]) hx hb dJ7_fill_53178_14 hl (k := 0) rfl (by decide) (by decide) rfl (fun ls hl => ?_)
          refine lv_goto (tgt := 5) hx hb dJ7_fill_53178_17 (by decide) ?_
          refine lv_iload_n hx hb dJ7_fill_53178_5 rfl (lv_at hl 0 rfl) ?_
          refine lv_iload_n hx hb dJ7_fill_53178_6 rfl (lv_at hl 1 rfl) ?_
          refine lv_icmp_ge (tgt := 20) hx hb dJ7_fill_53178_7 (by decide) (fun c_19 => ?_) (fun c_19 => ?_)
          · exact absurd c_19 (by decide)
          · have c_19 : ¬ ((10 : Int32) ≤ 4) := c_19
            refine lv_aload_n hx hb dJ7_fill_53178_10 rfl (lv_at hl 2 rfl) ?_
            refine lv_iload_n hx hb dJ7_fill_53178_11 rfl (lv_at hl 0 rfl) ?_
            refine lv_iload_n hx hb dJ7_fill_53178_12 rfl (lv_at hl 3 rfl) ?_
            refine va_iast hx hb hK hP hD hS 0 1 rfl rfl (show ¬ ((4 : Int32) < 0 ∨ 10 ≤ (4 : Int32).toNatClampNeg) from by decide +kernel) dJ7_fill_53178_13 (fun H locs hP hD hS => ?_)
            have hP : va_P D classes [(h0, .inl (k.2.1, 10, .inl (upd f_14 4 p0)))] H := hP
            have hD : va_D A [(h0, .inl (k.2.1, 10, .inl (upd f_14 4 p0)))] := hD
            have g_21 : (upd f_14 4 p0) 0 = p0 := g_15
            have g_22 : (upd f_14 4 p0) 1 = p0 := g_16
            have g_23 : (upd f_14 4 p0) 2 = p0 := g_17
            have g_24 : (upd f_14 4 p0) 3 = p0 := g_18
            have g_25 : (upd f_14 4 p0) 4 = p0 := rfl
            generalize (upd f_14 4 p0) = f_20 at hP hD g_21 g_22 g_23 g_24 g_25
            refine lv_iinc (v := 5) (lv' := [(2, .int 5), (3, .int 10), (0, .ref h0), (1, .int p0)]) hx hb dJ7_fill_53178_14 hl (k := 0) rfl (by decide) (by decide) rfl (fun ls hl => ?_)
            refine lv_goto (tgt := 5) hx hb dJ7_fill_53178_17 (by decide) ?_
            refine lv_iload_n hx hb dJ7_fill_53178_5 rfl (lv_at hl 0 rfl) ?_
            refine lv_iload_n hx hb dJ7_fill_53178_6 rfl (lv_at hl 1 rfl) ?_
            refine lv_icmp_ge (tgt := 20) hx hb dJ7_fill_53178_7 (by decide) (fun c_26 => ?_) (fun c_26 => ?_)
            · exact absurd c_26 (by decide)
            · have c_26 : ¬ ((10 : Int32) ≤ 5) := c_26
              refine lv_aload_n hx hb dJ7_fill_53178_10 rfl (lv_at hl 2 rfl) ?_
              refine lv_iload_n hx hb dJ7_fill_53178_11 rfl (lv_at hl 0 rfl) ?_
              refine lv_iload_n hx hb dJ7_fill_53178_12 rfl (lv_at hl 3 rfl) ?_
              refine va_iast hx hb hK hP hD hS 0 1 rfl rfl (show ¬ ((5 : Int32) < 0 ∨ 10 ≤ (5 : Int32).toNatClampNeg) from by decide +kernel) dJ7_fill_53178_13 (fun H locs hP hD hS => ?_)
              have hP : va_P D classes [(h0, .inl (k.2.1, 10, .inl (upd f_20 5 p0)))] H := hP
              have hD : va_D A [(h0, .inl (k.2.1, 10, .inl (upd f_20 5 p0)))] := hD
              have g_28 : (upd f_20 5 p0) 0 = p0 := g_21
              have g_29 : (upd f_20 5 p0) 1 = p0 := g_22
              have g_30 : (upd f_20 5 p0) 2 = p0 := g_23
              have g_31 : (upd f_20 5 p0) 3 = p0 := g_24
              have g_32 : (upd f_20 5 p0) 4 = p0 := g_25
              have g_33 : (upd f_20 5 p0) 5 = p0 := rfl
              generalize (upd f_20 5 p0) = f_27 at hP hD g_28 g_29 g_30 g_31 g_32 g_33
              refine lv_iinc (v := 6) (lv' := [(2, .int 6), (3, .int 10), (0, .ref h0), (1, .int p0)]) hx hb dJ7_fill_53178_14 hl (k := 0) rfl (by decide) (by decide) rfl (fun ls hl => ?_)
              refine lv_goto (tgt := 5) hx hb dJ7_fill_53178_17 (by decide) ?_
              refine lv_iload_n hx hb dJ7_fill_53178_5 rfl (lv_at hl 0 rfl) ?_
              refine lv_iload_n hx hb dJ7_fill_53178_6 rfl (lv_at hl 1 rfl) ?_
              refine lv_icmp_ge (tgt := 20) hx hb dJ7_fill_53178_7 (by decide) (fun c_34 => ?_) (fun c_34 => ?_)
              · exact absurd c_34 (by decide)
              · have c_34 : ¬ ((10 : Int32) ≤ 6) := c_34
                refine lv_aload_n hx hb dJ7_fill_53178_10 rfl (lv_at hl 2 rfl) ?_
                refine lv_iload_n hx hb dJ7_fill_53178_11 rfl (lv_at hl 0 rfl) ?_
                refine lv_iload_n hx hb dJ7_fill_53178_12 rfl (lv_at hl 3 rfl) ?_
                refine va_iast hx hb hK hP hD hS 0 1 rfl rfl (show ¬ ((6 : Int32) < 0 ∨ 10 ≤ (6 : Int32).toNatClampNeg) from by decide +kernel) dJ7_fill_53178_13 (fun H locs hP hD hS => ?_)
                have hP : va_P D classes [(h0, .inl (k.2.1, 10, .inl (upd f_27 6 p0)))] H := hP
                have hD : va_D A [(h0, .inl (k.2.1, 10, .inl (upd f_27 6 p0)))] := hD
                have g_36 : (upd f_27 6 p0) 0 = p0 := g_28
                have g_37 : (upd f_27 6 p0) 1 = p0 := g_29
                have g_38 : (upd f_27 6 p0) 2 = p0 := g_30
                have g_39 : (upd f_27 6 p0) 3 = p0 := g_31
                have g_40 : (upd f_27 6 p0) 4 = p0 := g_32
                have g_41 : (upd f_27 6 p0) 5 = p0 := g_33
                have g_42 : (upd f_27 6 p0) 6 = p0 := rfl
                generalize (upd f_27 6 p0) = f_35 at hP hD g_36 g_37 g_38 g_39 g_40 g_41 g_42
                refine lv_iinc (v := 7) (lv' := [(2, .int 7), (3, .int 10), (0, .ref h0), (1, .int p0)]) hx hb dJ7_fill_53178_14 hl (k := 0) rfl (by decide) (by decide) rfl (fun ls hl => ?_)
                refine lv_goto (tgt := 5) hx hb dJ7_fill_53178_17 (by decide) ?_
                refine lv_iload_n hx hb dJ7_fill_53178_5 rfl (lv_at hl 0 rfl) ?_
                refine lv_iload_n hx hb dJ7_fill_53178_6 rfl (lv_at hl 1 rfl) ?_
                refine lv_icmp_ge (tgt := 20) hx hb dJ7_fill_53178_7 (by decide) (fun c_43 => ?_) (fun c_43 => ?_)
                · exact absurd c_43 (by decide)
                · have c_43 : ¬ ((10 : Int32) ≤ 7) := c_43
                  refine lv_aload_n hx hb dJ7_fill_53178_10 rfl (lv_at hl 2 rfl) ?_
                  refine lv_iload_n hx hb dJ7_fill_53178_11 rfl (lv_at hl 0 rfl) ?_
                  refine lv_iload_n hx hb dJ7_fill_53178_12 rfl (lv_at hl 3 rfl) ?_
                  refine va_iast hx hb hK hP hD hS 0 1 rfl rfl (show ¬ ((7 : Int32) < 0 ∨ 10 ≤ (7 : Int32).toNatClampNeg) from by decide +kernel) dJ7_fill_53178_13 (fun H locs hP hD hS => ?_)
                  have hP : va_P D classes [(h0, .inl (k.2.1, 10, .inl (upd f_35 7 p0)))] H := hP
                  have hD : va_D A [(h0, .inl (k.2.1, 10, .inl (upd f_35 7 p0)))] := hD
                  have g_45 : (upd f_35 7 p0) 0 = p0 := g_36
                  have g_46 : (upd f_35 7 p0) 1 = p0 := g_37
                  have g_47 : (upd f_35 7 p0) 2 = p0 := g_38
                  have g_48 : (upd f_35 7 p0) 3 = p0 := g_39
                  have g_49 : (upd f_35 7 p0) 4 = p0 := g_40
                  have g_50 : (upd f_35 7 p0) 5 = p0 := g_41
                  have g_51 : (upd f_35 7 p0) 6 = p0 := g_42
                  have g_52 : (upd f_35 7 p0) 7 = p0 := rfl
                  generalize (upd f_35 7 p0) = f_44 at hP hD g_45 g_46 g_47 g_48 g_49 g_50 g_51 g_52
                  refine lv_iinc (v := 8) (lv' := [(2, .int 8), (3, .int 10), (0, .ref h0), (1, .int p0)]) hx hb dJ7_fill_53178_14 hl (k := 0) rfl (by decide) (by decide) rfl (fun ls hl => ?_)
                  refine lv_goto (tgt := 5) hx hb dJ7_fill_53178_17 (by decide) ?_
                  refine lv_iload_n hx hb dJ7_fill_53178_5 rfl (lv_at hl 0 rfl) ?_
                  refine lv_iload_n hx hb dJ7_fill_53178_6 rfl (lv_at hl 1 rfl) ?_
                  refine lv_icmp_ge (tgt := 20) hx hb dJ7_fill_53178_7 (by decide) (fun c_53 => ?_) (fun c_53 => ?_)
                  · exact absurd c_53 (by decide)
                  · have c_53 : ¬ ((10 : Int32) ≤ 8) := c_53
                    refine lv_aload_n hx hb dJ7_fill_53178_10 rfl (lv_at hl 2 rfl) ?_
                    refine lv_iload_n hx hb dJ7_fill_53178_11 rfl (lv_at hl 0 rfl) ?_
                    refine lv_iload_n hx hb dJ7_fill_53178_12 rfl (lv_at hl 3 rfl) ?_
                    refine va_iast hx hb hK hP hD hS 0 1 rfl rfl (show ¬ ((8 : Int32) < 0 ∨ 10 ≤ (8 : Int32).toNatClampNeg) from by decide +kernel) dJ7_fill_53178_13 (fun H locs hP hD hS => ?_)
                    have hP : va_P D classes [(h0, .inl (k.2.1, 10, .inl (upd f_44 8 p0)))] H := hP
                    have hD : va_D A [(h0, .inl (k.2.1, 10, .inl (upd f_44 8 p0)))] := hD
                    have g_55 : (upd f_44 8 p0) 0 = p0 := g_45
                    have g_56 : (upd f_44 8 p0) 1 = p0 := g_46
                    have g_57 : (upd f_44 8 p0) 2 = p0 := g_47
                    have g_58 : (upd f_44 8 p0) 3 = p0 := g_48
                    have g_59 : (upd f_44 8 p0) 4 = p0 := g_49
                    have g_60 : (upd f_44 8 p0) 5 = p0 := g_50
                    have g_61 : (upd f_44 8 p0) 6 = p0 := g_51
                    have g_62 : (upd f_44 8 p0) 7 = p0 := g_52
                    have g_63 : (upd f_44 8 p0) 8 = p0 := rfl
                    generalize (upd f_44 8 p0) = f_54 at hP hD g_55 g_56 g_57 g_58 g_59 g_60 g_61 g_62 g_63
                    refine lv_iinc (v := 9) (lv' := [(2, .int 9), (3, .int 10), (0, .ref h0), (1, .int p0)]) hx hb dJ7_fill_53178_14 hl (k := 0) rfl (by decide) (by decide) rfl (fun ls hl => ?_)
                    refine lv_goto (tgt := 5) hx hb dJ7_fill_53178_17 (by decide) ?_
                    refine lv_iload_n hx hb dJ7_fill_53178_5 rfl (lv_at hl 0 rfl) ?_
                    refine lv_iload_n hx hb dJ7_fill_53178_6 rfl (lv_at hl 1 rfl) ?_
                    refine lv_icmp_ge (tgt := 20) hx hb dJ7_fill_53178_7 (by decide) (fun c_64 => ?_) (fun c_64 => ?_)
                    · exact absurd c_64 (by decide)
                    · have c_64 : ¬ ((10 : Int32) ≤ 9) := c_64
                      refine lv_aload_n hx hb dJ7_fill_53178_10 rfl (lv_at hl 2 rfl) ?_
                      refine lv_iload_n hx hb dJ7_fill_53178_11 rfl (lv_at hl 0 rfl) ?_
                      refine lv_iload_n hx hb dJ7_fill_53178_12 rfl (lv_at hl 3 rfl) ?_
                      refine va_iast hx hb hK hP hD hS 0 1 rfl rfl (show ¬ ((9 : Int32) < 0 ∨ 10 ≤ (9 : Int32).toNatClampNeg) from by decide +kernel) dJ7_fill_53178_13 (fun H locs hP hD hS => ?_)
                      have hP : va_P D classes [(h0, .inl (k.2.1, 10, .inl (upd f_54 9 p0)))] H := hP
                      have hD : va_D A [(h0, .inl (k.2.1, 10, .inl (upd f_54 9 p0)))] := hD
                      have g_66 : (upd f_54 9 p0) 0 = p0 := g_55
                      have g_67 : (upd f_54 9 p0) 1 = p0 := g_56
                      have g_68 : (upd f_54 9 p0) 2 = p0 := g_57
                      have g_69 : (upd f_54 9 p0) 3 = p0 := g_58
                      have g_70 : (upd f_54 9 p0) 4 = p0 := g_59
                      have g_71 : (upd f_54 9 p0) 5 = p0 := g_60
                      have g_72 : (upd f_54 9 p0) 6 = p0 := g_61
                      have g_73 : (upd f_54 9 p0) 7 = p0 := g_62
                      have g_74 : (upd f_54 9 p0) 8 = p0 := g_63
                      have g_75 : (upd f_54 9 p0) 9 = p0 := rfl
                      generalize (upd f_54 9 p0) = f_65 at hP hD g_66 g_67 g_68 g_69 g_70 g_71 g_72 g_73 g_74 g_75
                      refine lv_iinc (v := 10) (lv' := [(2, .int 10), (3, .int 10), (0, .ref h0), (1, .int p0)]) hx hb dJ7_fill_53178_14 hl (k := 0) rfl (by decide) (by decide) rfl (fun ls hl => ?_)
                      refine lv_goto (tgt := 5) hx hb dJ7_fill_53178_17 (by decide) ?_
                      refine lv_iload_n hx hb dJ7_fill_53178_5 rfl (lv_at hl 0 rfl) ?_
                      refine lv_iload_n hx hb dJ7_fill_53178_6 rfl (lv_at hl 1 rfl) ?_
                      refine lv_icmp_ge (tgt := 20) hx hb dJ7_fill_53178_7 (by decide) (fun c_76 => ?_) (fun c_76 => ?_)
                      · have c_76 : (10 : Int32) ≤ 10 := c_76
                        have hP9 := hP.sub (ws' := [(h0, .inl (k.2.1, 10, .inl f_65))]) [0] rfl
                        have hD9 := hD.sub (ws' := [(h0, .inl (k.2.1, 10, .inl f_65))]) [0] (by decide) rfl
                        exact W.vret hx hb hr (fun t ht hW => ⟨⟨(), rfl, trivial, ⟨f_65, g_66, g_67, g_68, g_69, g_70, g_71, g_72, g_73, g_74, g_75, cB_of ht hP9 hD9⟩⟩, hS.F ht⟩) hS.2.2 dJ7_fill_53178_20
                      · exact absurd (by decide) c_76
