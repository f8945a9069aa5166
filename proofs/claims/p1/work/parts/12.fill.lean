set_option maxHeartbeats 4000000 in
set_option maxRecDepth 100000 in
theorem c_fill3 (l : Launch) (D : va_G) (k : ClassId × ClassId × ClassId × ClassId) (sz : Nat) (h0 : Nat) (f : Nat → Int32) (p0 : Int32)  : Met l yJ7_fill_53178 (WS yJ7_fill_53178 cJ7_fill_53178 4 none) ({ frames := 0, cells := 0, slots := 0, locals := 0 }) (va_Pc [.ref h0, .int p0] (cP D k [(h0, .inl (k.2.1, 3, .inl f))] sz)) (va_Qv (fun _ : Unit => True) (fun (_ : Unit) t => ∃ (g : Nat → Int32), g 0 = p0 ∧ g 1 = p0 ∧ g 2 = p0 ∧ cB D (va_A [(h0, .inl (k.2.1, 3, .inl f))] sz) [(h0, .inl (k.2.1, 3, .inl g))] t) (va_A [(h0, .inl (k.2.1, 3, .inl f))] sz)) 0 0 (va_A [(h0, .inl (k.2.1, 3, .inl f))] sz) := by
  refine Met.ofW (cc := cJ7_fill_53178) (maxL := 4) (ret := none) (by decide) rfl ?_
  intro p e s m args below meth c s₁ B hml hv
  obtain ⟨rfl, hsz, hP, hKX, hD0⟩ := hv
  have hK := hKX.1
  have hx := B.exec
  have hb := B.bytes
  have hr := B.returns
  have hts := atoms_spec (ws := WS yJ7_fill_53178 cJ7_fill_53178 4 none) B.pre
  have hgd : ∀ w ∈ gd, w ∈ WS yJ7_fill_53178 cJ7_fill_53178 4 none := fun w h => List.mem_cons_of_mem _ h
  have hg : ∀ w ∈ gd, w.before _ s = true := fun w h => hts w (hgd w h)
  have hown : s.vm.findClass RJ7 = some m.cls := findClass_of_methodNamed B.named
  have hlocks := B.notSynchronized
  subst hsz
  have hD := hD0.self (sz := s.heap.size)
  generalize hAe : va_A [(h0, .inl (k.2.1, 3, .inl f))] s.heap.size = A at hD ⊢
  have hA : ∀ q : Nat, s.heap.size ≤ q → A q := fun q h => by rw [← hAe]; exact Or.inr h
  have hS : va_S A s.heap s.heap [] := va_S.rf
  have hP : va_P D classes [(h0, .inl (k.2.1, 3, .inl f))] s.heap := hP
  have hl := lv_entry ([.ref h0, .int p0]) (n := 4) (Nat.le_of_ble_eq_true rfl)
  rw [lg_entry_eq]
  generalize (lg_sl ([.ref h0, .int p0]) ++ List.replicate (4 - (lg_sl ([.ref h0, .int p0])).length) Slot.unset).toArray = ls at hl ⊢
  have hl : lv_has ls 4 [(0, .ref h0), (1, .int p0)] := hl
  refine lv_iconst (v := 0) hx hb dJ7_fill_53178_0 (by decide) ?_
  refine lv_istore_n (lv' := [(2, .int 0), (0, .ref h0), (1, .int p0)]) hx hb dJ7_fill_53178_1 rfl hl (by decide) rfl (fun ls hl => ?_)
  refine lv_aload_n hx hb dJ7_fill_53178_2 rfl (lv_at hl 1 rfl) ?_
  refine va_alen (v := 3) hx hb hK hP 0 1 rfl rfl rfl dJ7_fill_53178_3 ?_
  refine lv_istore_n (lv' := [(3, .int 3), (2, .int 0), (0, .ref h0), (1, .int p0)]) hx hb dJ7_fill_53178_4 rfl hl (by decide) rfl (fun ls hl => ?_)
  refine lv_iload_n hx hb dJ7_fill_53178_5 rfl (lv_at hl 1 rfl) ?_
  refine lv_iload_n hx hb dJ7_fill_53178_6 rfl (lv_at hl 0 rfl) ?_
  refine lv_icmp_ge (tgt := 20) hx hb dJ7_fill_53178_7 (by decide) (fun c_1 => ?_) (fun c_1 => ?_)
  · exact absurd c_1 (by decide)
  · have c_1 : ¬ ((3 : Int32) ≤ 0) := c_1
    refine lv_aload_n hx hb dJ7_fill_53178_10 rfl (lv_at hl 2 rfl) ?_
    refine lv_iload_n hx hb dJ7_fill_53178_11 rfl (lv_at hl 1 rfl) ?_
    refine lv_iload_n hx hb dJ7_fill_53178_12 rfl (lv_at hl 3 rfl) ?_
    refine va_iast hx hb hK hP hD hS 0 1 rfl rfl (show ¬ ((0 : Int32) < 0 ∨ 3 ≤ (0 : Int32).toNatClampNeg) from by decide +kernel) dJ7_fill_53178_13 (fun H locs hP hD hS => ?_)
    have hP : va_P D classes [(h0, .inl (k.2.1, 3, .inl (upd f 0 p0)))] H := hP
    have hD : va_D A [(h0, .inl (k.2.1, 3, .inl (upd f 0 p0)))] := hD
    have g3 : (upd f 0 p0) 0 = p0 := rfl
    generalize (upd f 0 p0) = f2 at hP hD g3
    refine lv_iinc (v := 1) (lv' := [(2, .int 1), (3, .int 3), (0, .ref h0), (1, .int p0)]) hx hb dJ7_fill_53178_14 hl (k := 1) rfl (by decide) (by decide) rfl (fun ls hl => ?_)
    refine lv_goto (tgt := 5) hx hb dJ7_fill_53178_17 (by decide) ?_
    refine lv_iload_n hx hb dJ7_fill_53178_5 rfl (lv_at hl 0 rfl) ?_
    refine lv_iload_n hx hb dJ7_fill_53178_6 rfl (lv_at hl 1 rfl) ?_
    refine lv_icmp_ge (tgt := 20) hx hb dJ7_fill_53178_7 (by decide) (fun c_4 => ?_) (fun c_4 => ?_)
    · exact absurd c_4 (by decide)
    · have c_4 : ¬ ((3 : Int32) ≤ 1) := c_4
      refine lv_aload_n hx hb dJ7_fill_53178_10 rfl (lv_at hl 2 rfl) ?_
      refine lv_iload_n hx hb dJ7_fill_53178_11 rfl (lv_at hl 0 rfl) ?_
      refine lv_iload_n hx hb dJ7_fill_53178_12 rfl (lv_at hl 3 rfl) ?_
      refine va_iast hx hb hK hP hD hS 0 1 rfl rfl (show ¬ ((1 : Int32) < 0 ∨ 3 ≤ (1 : Int32).toNatClampNeg) from by decide +kernel) dJ7_fill_53178_13 (fun H locs hP hD hS => ?_)
      have hP : va_P D classes [(h0, .inl (k.2.1, 3, .inl (upd f2 1 p0)))] H := hP
      have hD : va_D A [(h0, .inl (k.2.1, 3, .inl (upd f2 1 p0)))] := hD
      have g6 : (upd f2 1 p0) 0 = p0 := g3
      have g7 : (upd f2 1 p0) 1 = p0 := rfl
      generalize (upd f2 1 p0) = f5 at hP hD g6 g7
      refine lv_iinc (v := 2) (lv' := [(2, .int 2), (3, .int 3), (0, .ref h0), (1, .int p0)]) hx hb dJ7_fill_53178_14 hl (k := 0) rfl (by decide) (by decide) rfl (fun ls hl => ?_)
      refine lv_goto (tgt := 5) hx hb dJ7_fill_53178_17 (by decide) ?_
      refine lv_iload_n hx hb dJ7_fill_53178_5 rfl (lv_at hl 0 rfl) ?_
      refine lv_iload_n hx hb dJ7_fill_53178_6 rfl (lv_at hl 1 rfl) ?_
      refine lv_icmp_ge (tgt := 20) hx hb dJ7_fill_53178_7 (by decide) (fun c_8 => ?_) (fun c_8 => ?_)
      · exact absurd c_8 (by decide)
      · have c_8 : ¬ ((3 : Int32) ≤ 2) := c_8
        refine lv_aload_n hx hb dJ7_fill_53178_10 rfl (lv_at hl 2 rfl) ?_
        refine lv_iload_n hx hb dJ7_fill_53178_11 rfl (lv_at hl 0 rfl) ?_
        refine lv_iload_n hx hb dJ7_fill_53178_12 rfl (lv_at hl 3 rfl) ?_
        refine va_iast hx hb hK hP hD hS 0 1 rfl rfl (show ¬ ((2 : Int32) < 0 ∨ 3 ≤ (2 : Int32).toNatClampNeg) from by decide +kernel) dJ7_fill_53178_13 (fun H locs hP hD hS => ?_)
        have hP : va_P D classes [(h0, .inl (k.2.1, 3, .inl (upd f5 2 p0)))] H := hP
        have hD : va_D A [(h0, .inl (k.2.1, 3, .inl (upd f5 2 p0)))] := hD
        have g10 : (upd f5 2 p0) 0 = p0 := g6
        have g11 : (upd f5 2 p0) 1 = p0 := g7
        have g12 : (upd f5 2 p0) 2 = p0 := rfl
        generalize (upd f5 2 p0) = f9 at hP hD g10 g11 g12
        refine lv_iinc (v := 3) (lv' := [(2, .int 3), (3, .int 3), (0, .ref h0), (1, .int p0)]) hx hb dJ7_fill_53178_14 hl (k := 0) rfl (by decide) (by decide) rfl (fun ls hl => ?_)
        refine lv_goto (tgt := 5) hx hb dJ7_fill_53178_17 (by decide) ?_
        refine lv_iload_n hx hb dJ7_fill_53178_5 rfl (lv_at hl 0 rfl) ?_
        refine lv_iload_n hx hb dJ7_fill_53178_6 rfl (lv_at hl 1 rfl) ?_
        refine lv_icmp_ge (tgt := 20) hx hb dJ7_fill_53178_7 (by decide) (fun c_13 => ?_) (fun c_13 => ?_)
        · have c_13 : (3 : Int32) ≤ 3 := c_13
          have hP9 := hP.sub (ws' := [(h0, .inl (k.2.1, 3, .inl f9))]) [0] rfl
          have hD9 := hD.sub (ws' := [(h0, .inl (k.2.1, 3, .inl f9))]) [0] (by decide) rfl
          exact W.vret hx hb hr (fun t ht hW => ⟨⟨(), rfl, trivial, ⟨f9, g10, g11, g12, cB_of ht hP9 hD9⟩⟩, hS.F ht⟩) hS.2.2 dJ7_fill_53178_20
        · exact absurd (by decide) c_13

set_option maxHeartbeats 4000000 in
set_option maxRecDepth 100000 in
theorem c_fill10 (l : Launch) (D : va_G) (k : ClassId × ClassId × ClassId × ClassId) (sz : Nat) (h0 : Nat) (f : Nat → Int32) (p0 : Int32)  : Met l yJ7_fill_53178 (WS yJ7_fill_53178 cJ7_fill_53178 4 none) ({ frames := 0, cells := 0, slots := 0, locals := 0 }) (va_Pc [.ref h0, .int p0] (cP D k [(h0, .inl (k.2.1, 10, .inl f))] sz)) (va_Qv (fun _ : Unit => True) (fun (_ : Unit) t => ∃ (g : Nat → Int32), g 0 = p0 ∧ g 1 = p0 ∧ g 2 = p0 ∧ g 3 = p0 ∧ g 4 = p0 ∧ g 5 = p0 ∧ g 6 = p0 ∧ g 7 = p0 ∧ g 8 = p0 ∧ g 9 = p0 ∧ cB D (va_A [(h0, .inl (k.2.1, 10, .inl f))] sz) [(h0, .inl (k.2.1, 10, .inl g))] t) (va_A [(h0, .inl (k.2.1, 10, .inl f))] sz)) 0 0 (va_A [(h0, .inl (k.2.1, 10, .inl f))] sz) := by
  refine Met.ofW (cc := cJ7_fill_53178) (maxL := 4) (ret := none) (by decide) rfl ?_
  intro p e s m args below meth c s₁ B hml hv
  obtain ⟨rfl, hsz, hP, hKX, hD0⟩ := hv
  have hK := hKX.1
  have hx := B.exec
  have hb := B.bytes
  have hr := B.returns
  have hts := atoms_spec (ws := WS yJ7_fill_53178 cJ7_fill_53178 4 none) B.pre
  have hgd : ∀ w ∈ gd, w ∈ WS yJ7_fill_53178 cJ7_fill_53178 4 none := fun w h => List.mem_cons_of_mem _ h
  have hg : ∀ w ∈ gd, w.before _ s = true := fun w h => hts w (hgd w h)
  have hown : s.vm.findClass RJ7 = some m.cls := findClass_of_methodNamed B.named
  have hlocks := B.notSynchronized
  subst hsz
  have hD := hD0.self (sz := s.heap.size)
  generalize hAe : va_A [(h0, .inl (k.2.1, 10, .inl f))] s.heap.size = A at hD ⊢
  have hA : ∀ q : Nat, s.heap.size ≤ q → A q := fun q h => by rw [← hAe]; exact Or.inr h
  have hS : va_S A s.heap s.heap [] := va_S.rf
  have hP : va_P D classes [(h0, .inl (k.2.1, 10, .inl f))] s.heap := hP
  have hl := lv_entry ([.ref h0, .int p0]) (n := 4) (Nat.le_of_ble_eq_true rfl)
  rw [lg_entry_eq]
  generalize (lg_sl ([.ref h0, .int p0]) ++ List.replicate (4 - (lg_sl ([.ref h0, .int p0])).length) Slot.unset).toArray = ls at hl ⊢
  have hl : lv_has ls 4 [(0, .ref h0), (1, .int p0)] := hl
  refine lv_iconst (v := 0) hx hb dJ7_fill_53178_0 (by decide) ?_
  refine lv_istore_n (lv' := [(2, .int 0), (0, .ref h0), (1, .int p0)]) hx hb dJ7_fill_53178_1 rfl hl (by decide) rfl (fun ls hl => ?_)
  refine lv_aload_n hx hb dJ7_fill_53178_2 rfl (lv_at hl 1 rfl) ?_
  refine va_alen (v := 10) hx hb hK hP 0 1 rfl rfl rfl dJ7_fill_53178_3 ?_
  refine lv_istore_n (lv' := [(3, .int 10), (2, .int 0), (0, .ref h0), (1, .int p0)]) hx hb dJ7_fill_53178_4 rfl hl (by decide) rfl (fun ls hl => ?_)
  refine lv_iload_n hx hb dJ7_fill_53178_5 rfl (lv_at hl 1 rfl) ?_
  refine lv_iload_n hx hb dJ7_fill_53178_6 rfl (lv_at hl 0 rfl) ?_
  refine lv_icmp_ge (tgt := 20) hx hb dJ7_fill_53178_7 (by decide) (fun c_1 => ?_) (fun c_1 => ?_)
  · exact absurd c_1 (by decide)
  · have c_1 : ¬ ((10 : Int32) ≤ 0) := c_1
    refine lv_aload_n hx hb dJ7_fill_53178_10 rfl (lv_at hl 2 rfl) ?_
    refine lv_iload_n hx hb dJ7_fill_53178_11 rfl (lv_at hl 1 rfl) ?_
    refine lv_iload_n hx hb dJ7_fill_53178_12 rfl (lv_at hl 3 rfl) ?_
    refine va_iast hx hb hK hP hD hS 0 1 rfl rfl (show ¬ ((0 : Int32) < 0 ∨ 10 ≤ (0 : Int32).toNatClampNeg) from by decide +kernel) dJ7_fill_53178_13 (fun H locs hP hD hS => ?_)
    have hP : va_P D classes [(h0, .inl (k.2.1, 10, .inl (upd f 0 p0)))] H := hP
    have hD : va_D A [(h0, .inl (k.2.1, 10, .inl (upd f 0 p0)))] := hD
    have g3 : (upd f 0 p0) 0 = p0 := rfl
    generalize (upd f 0 p0) = f2 at hP hD g3
    refine lv_iinc (v := 1) (lv' := [(2, .int 1), (3, .int 10), (0, .ref h0), (1, .int p0)]) hx hb dJ7_fill_53178_14 hl (k := 1) rfl (by decide) (by decide) rfl (fun ls hl => ?_)
    refine lv_goto (tgt := 5) hx hb dJ7_fill_53178_17 (by decide) ?_
    refine lv_iload_n hx hb dJ7_fill_53178_5 rfl (lv_at hl 0 rfl) ?_
    refine lv_iload_n hx hb dJ7_fill_53178_6 rfl (lv_at hl 1 rfl) ?_
    refine lv_icmp_ge (tgt := 20) hx hb dJ7_fill_53178_7 (by decide) (fun c_4 => ?_) (fun c_4 => ?_)
    · exact absurd c_4 (by decide)
    · have c_4 : ¬ ((10 : Int32) ≤ 1) := c_4
      refine lv_aload_n hx hb dJ7_fill_53178_10 rfl (lv_at hl 2 rfl) ?_
      refine lv_iload_n hx hb dJ7_fill_53178_11 rfl (lv_at hl 0 rfl) ?_
      refine lv_iload_n hx hb dJ7_fill_53178_12 rfl (lv_at hl 3 rfl) ?_
      refine va_iast hx hb hK hP hD hS 0 1 rfl rfl (show ¬ ((1 : Int32) < 0 ∨ 10 ≤ (1 : Int32).toNatClampNeg) from by decide +kernel) dJ7_fill_53178_13 (fun H locs hP hD hS => ?_)
      have hP : va_P D classes [(h0, .inl (k.2.1, 10, .inl (upd f2 1 p0)))] H := hP
      have hD : va_D A [(h0, .inl (k.2.1, 10, .inl (upd f2 1 p0)))] := hD
      have g6 : (upd f2 1 p0) 0 = p0 := g3
      have g7 : (upd f2 1 p0) 1 = p0 := rfl
      generalize (upd f2 1 p0) = f5 at hP hD g6 g7
      refine lv_iinc (v := 2) (lv' := [(2, .int 2), (3, .int 10), (0, .ref h0), (1, .int p0)]) hx hb dJ7_fill_53178_14 hl (k := 0) rfl (by decide) (by decide) rfl (fun ls hl => ?_)
      refine lv_goto (tgt := 5) hx hb dJ7_fill_53178_17 (by decide) ?_
      refine lv_iload_n hx hb dJ7_fill_53178_5 rfl (lv_at hl 0 rfl) ?_
      refine lv_iload_n hx hb dJ7_fill_53178_6 rfl (lv_at hl 1 rfl) ?_
      refine lv_icmp_ge (tgt := 20) hx hb dJ7_fill_53178_7 (by decide) (fun c_8 => ?_) (fun c_8 => ?_)
      · exact absurd c_8 (by decide)
      · have c_8 : ¬ ((10 : Int32) ≤ 2) := c_8
        refine lv_aload_n hx hb dJ7_fill_53178_10 rfl (lv_at hl 2 rfl) ?_
        refine lv_iload_n hx hb dJ7_fill_53178_11 rfl (lv_at hl 0 rfl) ?_
        refine lv_iload_n hx hb dJ7_fill_53178_12 rfl (lv_at hl 3 rfl) ?_
        refine va_iast hx hb hK hP hD hS 0 1 rfl rfl (show ¬ ((2 : Int32) < 0 ∨ 10 ≤ (2 : Int32).toNatClampNeg) from by decide +kernel) dJ7_fill_53178_13 (fun H locs hP hD hS => ?_)
        have hP : va_P D classes [(h0, .inl (k.2.1, 10, .inl (upd f5 2 p0)))] H := hP
        have hD : va_D A [(h0, .inl (k.2.1, 10, .inl (upd f5 2 p0)))] := hD
        have g10 : (upd f5 2 p0) 0 = p0 := g6
        have g11 : (upd f5 2 p0) 1 = p0 := g7
        have g12 : (upd f5 2 p0) 2 = p0 := rfl
        generalize (upd f5 2 p0) = f9 at hP hD g10 g11 g12
        refine lv_iinc (v := 3) (lv' := [(2, .int 3), (3, .int 10), (0, .ref h0), (1, .int p0)]) hx hb dJ7_fill_53178_14 hl (k := 0) rfl (by decide) (by decide) rfl (fun ls hl => ?_)
        refine lv_goto (tgt := 5) hx hb dJ7_fill_53178_17 (by decide) ?_
        refine lv_iload_n hx hb dJ7_fill_53178_5 rfl (lv_at hl 0 rfl) ?_
        refine lv_iload_n hx hb dJ7_fill_53178_6 rfl (lv_at hl 1 rfl) ?_
        refine lv_icmp_ge (tgt := 20) hx hb dJ7_fill_53178_7 (by decide) (fun c_13 => ?_) (fun c_13 => ?_)
        · exact absurd c_13 (by decide)
        · have c_13 : ¬ ((10 : Int32) ≤ 3) := c_13
          refine lv_aload_n hx hb dJ7_fill_53178_10 rfl (lv_at hl 2 rfl) ?_
          refine lv_iload_n hx hb dJ7_fill_53178_11 rfl (lv_at hl 0 rfl) ?_
          refine lv_iload_n hx hb dJ7_fill_53178_12 rfl (lv_at hl 3 rfl) ?_
          refine va_iast hx hb hK hP hD hS 0 1 rfl rfl (show ¬ ((3 : Int32) < 0 ∨ 10 ≤ (3 : Int32).toNatClampNeg) from by decide +kernel) dJ7_fill_53178_13 (fun H locs hP hD hS => ?_)
          have hP : va_P D classes [(h0, .inl (k.2.1, 10, .inl (upd f9 3 p0)))] H := hP
          have hD : va_D A [(h0, .inl (k.2.1, 10, .inl (upd f9 3 p0)))] := hD
          have g15 : (upd f9 3 p0) 0 = p0 := g10
          have g16 : (upd f9 3 p0) 1 = p0 := g11
          have g17 : (upd f9 3 p0) 2 = p0 := g12
          have g18 : (upd f9 3 p0) 3 = p0 := rfl
          generalize (upd f9 3 p0) = f14 at hP hD g15 g16 g17 g18
          refine lv_iinc (v := 4) (lv' := [(2, .int 4), (3, .int 10), (0, .ref h0), (1, .int p0)]) hx hb dJ7_fill_53178_14 hl (k := 0) rfl (by decide) (by decide) rfl (fun ls hl => ?_)
          refine lv_goto (tgt := 5) hx hb dJ7_fill_53178_17 (by decide) ?_
          refine lv_iload_n hx hb dJ7_fill_53178_5 rfl (lv_at hl 0 rfl) ?_
          refine lv_iload_n hx hb dJ7_fill_53178_6 rfl (lv_at hl 1 rfl) ?_
          refine lv_icmp_ge (tgt := 20) hx hb dJ7_fill_53178_7 (by decide) (fun c_19 => ?_) (fun c_19 => ?_)
          · exact absurd c_19 (by decide)
          · have c_19 : ¬ ((10 : Int32) ≤ 4) := c_19
            refine lv_aload_n hx hb dJ7_fill_53178_10 rfl (lv_at hl 2 rfl) ?_
            refine lv_iload_n hx hb dJ7_fill_53178_11 rfl (lv_at hl 0 rfl) ?_
            refine lv_iload_n hx hb dJ7_fill_53178_12 rfl (lv_at hl 3 rfl) ?_
            refine va_iast hx hb hK hP hD hS 0 1 rfl rfl (show ¬ ((4 : Int32) < 0 ∨ 10 ≤ (4 : Int32).toNatClampNeg) from by decide +kernel) dJ7_fill_53178_13 (fun H locs hP hD hS => ?_)
            have hP : va_P D classes [(h0, .inl (k.2.1, 10, .inl (upd f14 4 p0)))] H := hP
            have hD : va_D A [(h0, .inl (k.2.1, 10, .inl (upd f14 4 p0)))] := hD
            have g21 : (upd f14 4 p0) 0 = p0 := g15
            have g22 : (upd f14 4 p0) 1 = p0 := g16
            have g23 : (upd f14 4 p0) 2 = p0 := g17
            have g24 : (upd f14 4 p0) 3 = p0 := g18
            have g25 : (upd f14 4 p0) 4 = p0 := rfl
            generalize (upd f14 4 p0) = f20 at hP hD g21 g22 g23 g24 g25
            refine lv_iinc (v := 5) (lv' := [(2, .int 5), (3, .int 10), (0, .ref h0), (1, .int p0)]) hx hb dJ7_fill_53178_14 hl (k := 0) rfl (by decide) (by decide) rfl (fun ls hl => ?_)
            refine lv_goto (tgt := 5) hx hb dJ7_fill_53178_17 (by decide) ?_
            refine lv_iload_n hx hb dJ7_fill_53178_5 rfl (lv_at hl 0 rfl) ?_
            refine lv_iload_n hx hb dJ7_fill_53178_6 rfl (lv_at hl 1 rfl) ?_
            refine lv_icmp_ge (tgt := 20) hx hb dJ7_fill_53178_7 (by decide) (fun c_26 => ?_) (fun c_26 => ?_)
            · exact absurd c_26 (by decide)
            · have c_26 : ¬ ((10 : Int32) ≤ 5) := c_26
              refine lv_aload_n hx hb dJ7_fill_53178_10 rfl (lv_at hl 2 rfl) ?_
              refine lv_iload_n hx hb dJ7_fill_53178_11 rfl (lv_at hl 0 rfl) ?_
              refine lv_iload_n hx hb dJ7_fill_53178_12 rfl (lv_at hl 3 rfl) ?_
              refine va_iast hx hb hK hP hD hS 0 1 rfl rfl (show ¬ ((5 : Int32) < 0 ∨ 10 ≤ (5 : Int32).toNatClampNeg) from by decide +kernel) dJ7_fill_53178_13 (fun H locs hP hD hS => ?_)
              have hP : va_P D classes [(h0, .inl (k.2.1, 10, .inl (upd f20 5 p0)))] H := hP
              have hD : va_D A [(h0, .inl (k.2.1, 10, .inl (upd f20 5 p0)))] := hD
              have g28 : (upd f20 5 p0) 0 = p0 := g21
              have g29 : (upd f20 5 p0) 1 = p0 := g22
              have g30 : (upd f20 5 p0) 2 = p0 := g23
              have g31 : (upd f20 5 p0) 3 = p0 := g24
              have g32 : (upd f20 5 p0) 4 = p0 := g25
              have g33 : (upd f20 5 p0) 5 = p0 := rfl
              generalize (upd f20 5 p0) = f27 at hP hD g28 g29 g30 g31 g32 g33
              refine lv_iinc (v := 6) (lv' := [(2, .int 6), (3, .int 10), (0, .ref h0), (1, .int p0)]) hx hb dJ7_fill_53178_14 hl (k := 0) rfl (by decide) (by decide) rfl (fun ls hl => ?_)
              refine lv_goto (tgt := 5) hx hb dJ7_fill_53178_17 (by decide) ?_
              refine lv_iload_n hx hb dJ7_fill_53178_5 rfl (lv_at hl 0 rfl) ?_
              refine lv_iload_n hx hb dJ7_fill_53178_6 rfl (lv_at hl 1 rfl) ?_
              refine lv_icmp_ge (tgt := 20) hx hb dJ7_fill_53178_7 (by decide) (fun c_34 => ?_) (fun c_34 => ?_)
              · exact absurd c_34 (by decide)
              · have c_34 : ¬ ((10 : Int32) ≤ 6) := c_34
                refine lv_aload_n hx hb dJ7_fill_53178_10 rfl (lv_at hl 2 rfl) ?_
                refine lv_iload_n hx hb dJ7_fill_53178_11 rfl (lv_at hl 0 rfl) ?_
                refine lv_iload_n hx hb dJ7_fill_53178_12 rfl (lv_at hl 3 rfl) ?_
                refine va_iast hx hb hK hP hD hS 0 1 rfl rfl (show ¬ ((6 : Int32) < 0 ∨ 10 ≤ (6 : Int32).toNatClampNeg) from by decide +kernel) dJ7_fill_53178_13 (fun H locs hP hD hS => ?_)
                have hP : va_P D classes [(h0, .inl (k.2.1, 10, .inl (upd f27 6 p0)))] H := hP
                have hD : va_D A [(h0, .inl (k.2.1, 10, .inl (upd f27 6 p0)))] := hD
                have g36 : (upd f27 6 p0) 0 = p0 := g28
                have g37 : (upd f27 6 p0) 1 = p0 := g29
                have g38 : (upd f27 6 p0) 2 = p0 := g30
                have g39 : (upd f27 6 p0) 3 = p0 := g31
                have g40 : (upd f27 6 p0) 4 = p0 := g32
                have g41 : (upd f27 6 p0) 5 = p0 := g33
                have g42 : (upd f27 6 p0) 6 = p0 := rfl
                generalize (upd f27 6 p0) = f35 at hP hD g36 g37 g38 g39 g40 g41 g42
                refine lv_iinc (v := 7) (lv' := [(2, .int 7), (3, .int 10), (0, .ref h0), (1, .int p0)]) hx hb dJ7_fill_53178_14 hl (k := 0) rfl (by decide) (by decide) rfl (fun ls hl => ?_)
                refine lv_goto (tgt := 5) hx hb dJ7_fill_53178_17 (by decide) ?_
                refine lv_iload_n hx hb dJ7_fill_53178_5 rfl (lv_at hl 0 rfl) ?_
                refine lv_iload_n hx hb dJ7_fill_53178_6 rfl (lv_at hl 1 rfl) ?_
                refine lv_icmp_ge (tgt := 20) hx hb dJ7_fill_53178_7 (by decide) (fun c_43 => ?_) (fun c_43 => ?_)
                · exact absurd c_43 (by decide)
                · have c_43 : ¬ ((10 : Int32) ≤ 7) := c_43
                  refine lv_aload_n hx hb dJ7_fill_53178_10 rfl (lv_at hl 2 rfl) ?_
                  refine lv_iload_n hx hb dJ7_fill_53178_11 rfl (lv_at hl 0 rfl) ?_
                  refine lv_iload_n hx hb dJ7_fill_53178_12 rfl (lv_at hl 3 rfl) ?_
                  refine va_iast hx hb hK hP hD hS 0 1 rfl rfl (show ¬ ((7 : Int32) < 0 ∨ 10 ≤ (7 : Int32).toNatClampNeg) from by decide +kernel) dJ7_fill_53178_13 (fun H locs hP hD hS => ?_)
                  have hP : va_P D classes [(h0, .inl (k.2.1, 10, .inl (upd f35 7 p0)))] H := hP
                  have hD : va_D A [(h0, .inl (k.2.1, 10, .inl (upd f35 7 p0)))] := hD
                  have g45 : (upd f35 7 p0) 0 = p0 := g36
                  have g46 : (upd f35 7 p0) 1 = p0 := g37
                  have g47 : (upd f35 7 p0) 2 = p0 := g38
                  have g48 : (upd f35 7 p0) 3 = p0 := g39
                  have g49 : (upd f35 7 p0) 4 = p0 := g40
                  have g50 : (upd f35 7 p0) 5 = p0 := g41
                  have g51 : (upd f35 7 p0) 6 = p0 := g42
                  have g52 : (upd f35 7 p0) 7 = p0 := rfl
                  generalize (upd f35 7 p0) = f44 at hP hD g45 g46 g47 g48 g49 g50 g51 g52
                  refine lv_iinc (v := 8) (lv' := [(2, .int 8), (3, .int 10), (0, .ref h0), (1, .int p0)]) hx hb dJ7_fill_53178_14 hl (k := 0) rfl (by decide) (by decide) rfl (fun ls hl => ?_)
                  refine lv_goto (tgt := 5) hx hb dJ7_fill_53178_17 (by decide) ?_
                  refine lv_iload_n hx hb dJ7_fill_53178_5 rfl (lv_at hl 0 rfl) ?_
                  refine lv_iload_n hx hb dJ7_fill_53178_6 rfl (lv_at hl 1 rfl) ?_
                  refine lv_icmp_ge (tgt := 20) hx hb dJ7_fill_53178_7 (by decide) (fun c_53 => ?_) (fun c_53 => ?_)
                  · exact absurd c_53 (by decide)
                  · have c_53 : ¬ ((10 : Int32) ≤ 8) := c_53
                    refine lv_aload_n hx hb dJ7_fill_53178_10 rfl (lv_at hl 2 rfl) ?_
                    refine lv_iload_n hx hb dJ7_fill_53178_11 rfl (lv_at hl 0 rfl) ?_
                    refine lv_iload_n hx hb dJ7_fill_53178_12 rfl (lv_at hl 3 rfl) ?_
                    refine va_iast hx hb hK hP hD hS 0 1 rfl rfl (show ¬ ((8 : Int32) < 0 ∨ 10 ≤ (8 : Int32).toNatClampNeg) from by decide +kernel) dJ7_fill_53178_13 (fun H locs hP hD hS => ?_)
                    have hP : va_P D classes [(h0, .inl (k.2.1, 10, .inl (upd f44 8 p0)))] H := hP
                    have hD : va_D A [(h0, .inl (k.2.1, 10, .inl (upd f44 8 p0)))] := hD
                    have g55 : (upd f44 8 p0) 0 = p0 := g45
                    have g56 : (upd f44 8 p0) 1 = p0 := g46
                    have g57 : (upd f44 8 p0) 2 = p0 := g47
                    have g58 : (upd f44 8 p0) 3 = p0 := g48
                    have g59 : (upd f44 8 p0) 4 = p0 := g49
                    have g60 : (upd f44 8 p0) 5 = p0 := g50
                    have g61 : (upd f44 8 p0) 6 = p0 := g51
                    have g62 : (upd f44 8 p0) 7 = p0 := g52
                    have g63 : (upd f44 8 p0) 8 = p0 := rfl
                    generalize (upd f44 8 p0) = f54 at hP hD g55 g56 g57 g58 g59 g60 g61 g62 g63
                    refine lv_iinc (v := 9) (lv' := [(2, .int 9), (3, .int 10), (0, .ref h0), (1, .int p0)]) hx hb dJ7_fill_53178_14 hl (k := 0) rfl (by decide) (by decide) rfl (fun ls hl => ?_)
                    refine lv_goto (tgt := 5) hx hb dJ7_fill_53178_17 (by decide) ?_
                    refine lv_iload_n hx hb dJ7_fill_53178_5 rfl (lv_at hl 0 rfl) ?_
                    refine lv_iload_n hx hb dJ7_fill_53178_6 rfl (lv_at hl 1 rfl) ?_
                    refine lv_icmp_ge (tgt := 20) hx hb dJ7_fill_53178_7 (by decide) (fun c_64 => ?_) (fun c_64 => ?_)
                    · exact absurd c_64 (by decide)
                    · have c_64 : ¬ ((10 : Int32) ≤ 9) := c_64
                      refine lv_aload_n hx hb dJ7_fill_53178_10 rfl (lv_at hl 2 rfl) ?_
                      refine lv_iload_n hx hb dJ7_fill_53178_11 rfl (lv_at hl 0 rfl) ?_
                      refine lv_iload_n hx hb dJ7_fill_53178_12 rfl (lv_at hl 3 rfl) ?_
                      refine va_iast hx hb hK hP hD hS 0 1 rfl rfl (show ¬ ((9 : Int32) < 0 ∨ 10 ≤ (9 : Int32).toNatClampNeg) from by decide +kernel) dJ7_fill_53178_13 (fun H locs hP hD hS => ?_)
                      have hP : va_P D classes [(h0, .inl (k.2.1, 10, .inl (upd f54 9 p0)))] H := hP
                      have hD : va_D A [(h0, .inl (k.2.1, 10, .inl (upd f54 9 p0)))] := hD
                      have g66 : (upd f54 9 p0) 0 = p0 := g55
                      have g67 : (upd f54 9 p0) 1 = p0 := g56
                      have g68 : (upd f54 9 p0) 2 = p0 := g57
                      have g69 : (upd f54 9 p0) 3 = p0 := g58
                      have g70 : (upd f54 9 p0) 4 = p0 := g59
                      have g71 : (upd f54 9 p0) 5 = p0 := g60
                      have g72 : (upd f54 9 p0) 6 = p0 := g61
                      have g73 : (upd f54 9 p0) 7 = p0 := g62
                      have g74 : (upd f54 9 p0) 8 = p0 := g63
                      have g75 : (upd f54 9 p0) 9 = p0 := rfl
                      generalize (upd f54 9 p0) = f65 at hP hD g66 g67 g68 g69 g70 g71 g72 g73 g74 g75
                      refine lv_iinc (v := 10) (lv' := [(2, .int 10), (3, .int 10), (0, .ref h0), (1, .int p0)]) hx hb dJ7_fill_53178_14 hl (k := 0) rfl (by decide) (by decide) rfl (fun ls hl => ?_)
                      refine lv_goto (tgt := 5) hx hb dJ7_fill_53178_17 (by decide) ?_
                      refine lv_iload_n hx hb dJ7_fill_53178_5 rfl (lv_at hl 0 rfl) ?_
                      refine lv_iload_n hx hb dJ7_fill_53178_6 rfl (lv_at hl 1 rfl) ?_
                      refine lv_icmp_ge (tgt := 20) hx hb dJ7_fill_53178_7 (by decide) (fun c_76 => ?_) (fun c_76 => ?_)
                      · have c_76 : (10 : Int32) ≤ 10 := c_76
                        have hP9 := hP.sub (ws' := [(h0, .inl (k.2.1, 10, .inl f65))]) [0] rfl
                        have hD9 := hD.sub (ws' := [(h0, .inl (k.2.1, 10, .inl f65))]) [0] (by decide) rfl
                        exact W.vret hx hb hr (fun t ht hW => ⟨⟨(), rfl, trivial, ⟨f65, g66, g67, g68, g69, g70, g71, g72, g73, g74, g75, cB_of ht hP9 hD9⟩⟩, hS.F ht⟩) hS.2.2 dJ7_fill_53178_20
                      · exact absurd (by decide) c_76
