

set_option maxHeartbeats 4000000 in
set_option maxRecDepth 100000 in
theorem q_fill3 (l : Launch) (D : va_G) (k : KT) (sz : Nat) (h0 : Nat) (p0 : Int32) (f : Nat → Int32)  : Met l yJ7_fill_53178 (WS yJ7_fill_53178 cJ7_fill_53178 4 none) ({ frames := 0, cells := 0, slots := 0, locals := 0 }) (va_Pc [.ref h0, .int p0] (cQ D k [(h0, .inl (k.2.1, 3, .inl f))] sz)) (va_Qv (fun _ : Unit => True) (fun (_ : Unit) t => cB D (va_A [(h0, .inl (k.2.1, 3, .inl f))] sz) [(h0, .inl (k.2.1, 3, .inl (upd (upd (upd f 0 p0) 1 p0) 2 p0)))] t) (va_A [(h0, .inl (k.2.1, 3, .inl f))] sz)) 0 0 (va_A [(h0, .inl (k.2.1, 3, .inl f))] sz) := by
  refine Met.ofW (cc := cJ7_fill_53178) (maxL := 4) (ret := none) (by decide) rfl ?_
  intro p e s m args below meth c s₁ B hml hv
  obtain ⟨rfl, hsz, hP, hKX, hD0⟩ := hv
  have hK := hKX.1
  have hx := B.exec
  have hb := B.bytes
  have hr := B.returns
  have hts := atoms_spec (ws := WS yJ7_fill_53178 cJ7_fill_53178 4 none) B.pre
  have hgd : ∀ w ∈ gd, w ∈ WS yJ7_fill_53178 cJ7_fill_53178 4 none := fun w h => List.mem_cons_of_mem _ h
  have hg : ∀ w ∈ gd, w.before _ s = true := fun w h => hts w (hgd w h)
  have hown : s.vm.findClass RJ7 = some m.cls := findClass_of_methodNamed B.named
  have hlocks := B.notSynchronized
  subst hsz
  have hD := hD0.self (sz := s.heap.size)
  generalize hAe : va_A [(h0, .inl (k.2.1, 3, .inl f))] s.heap.size = A at hD ⊢
  have hA : ∀ q : Nat, s.heap.size ≤ q → A q := fun q h => by rw [← hAe]; exact Or.inr h
  have hS : va_S A s.heap s.heap [] := va_S.rf
  have hP : va_P D classes [(h0, .inl (k.2.1, 3, .inl f))] s.heap := hP
  have hl := lv_entry ([.ref h0, .int p0]) (n := 4) (Nat.le_of_ble_eq_true rfl)
  rw [lg_entry_eq]
  generalize (lg_sl ([.ref h0, .int p0]) ++ List.replicate (4 - (lg_sl ([.ref h0, .int p0])).length) Slot.unset).toArray = ls at hl ⊢
  have hl : lv_has ls 4 [(0, .ref h0), (1, .int p0)] := hl
  refine lv_iconst (v := 0) hx hb dJ7_fill_53178_0 (by decide) ?_
  refine lv_istore_n (lv' := [(2, .int 0), (0, .ref h0), (1, .int p0)]) hx hb dJ7_fill_53178_1 rfl hl (by decide) rfl (fun ls hl => ?_)
  refine lv_aload_n hx hb dJ7_fill_53178_2 rfl (lv_at hl 1 rfl) ?_
  refine va_alen (v := 3) hx hb hK hP 0 1 rfl rfl rfl dJ7_fill_53178_3 ?_
  refine lv_istore_n (lv' := [(3, .int 3), (2, .int 0), (0, .ref h0), (1, .int p0)]) hx hb dJ7_fill_53178_4 rfl hl (by decide) rfl (fun ls hl => ?_)
  refine lv_iload_n hx hb dJ7_fill_53178_5 rfl (lv_at hl 1 rfl) ?_
  refine lv_iload_n hx hb dJ7_fill_53178_6 rfl (lv_at hl 0 rfl) ?_
  refine lv_icmp_ge (tgt := 20) hx hb dJ7_fill_53178_7 (by decide) (fun c_1 => ?_) (fun c_1 => ?_)
  · exact absurd c_1 (by decide)
  · have c_1 : ¬ ((3 : Int32) ≤ 0) := c_1
    refine lv_aload_n hx hb dJ7_fill_53178_10 rfl (lv_at hl 2 rfl) ?_
    refine lv_iload_n hx hb dJ7_fill_53178_11 rfl (lv_at hl 1 rfl) ?_
    refine lv_iload_n hx hb dJ7_fill_53178_12 rfl (lv_at hl 3 rfl) ?_
    refine va_iast hx hb hK hP hD hS 0 1 rfl rfl (show ¬ ((0 : Int32) < 0 ∨ 3 ≤ (0 : Int32).toNatClampNeg) from by decide +kernel) dJ7_fill_53178_13 (fun H locs hP hD hS => ?_)
    obtain ⟨ws_, hws_, hP, hD⟩ : ∃ w : va_W, w = [(h0, .inl (k.2.1, 3, .inl (upd f 0 p0)))] ∧ va_P D classes w H ∧ va_D A w := ⟨_, rfl, hP, hD⟩
    subst hws_
    refine lv_iinc (v := 1) (lv' := [(2, .int 1), (3, .int 3), (0, .ref h0), (1, .int p0)]) hx hb dJ7_fill_53178_14 hl (k := 1) rfl (by decide) (by decide) rfl (fun ls hl => ?_)
    refine lv_goto (tgt := 5) hx hb dJ7_fill_53178_17 (by decide) ?_
    refine lv_iload_n hx hb dJ7_fill_53178_5 rfl (lv_at hl 0 rfl) ?_
    refine lv_iload_n hx hb dJ7_fill_53178_6 rfl (lv_at hl 1 rfl) ?_
    refine lv_icmp_ge (tgt := 20) hx hb dJ7_fill_53178_7 (by decide) (fun c_2 => ?_) (fun c_2 => ?_)
    · exact absurd c_2 (by decide)
    · have c_2 : ¬ ((3 : Int32) ≤ 1) := c_2
      refine lv_aload_n hx hb dJ7_fill_53178_10 rfl (lv_at hl 2 rfl) ?_
      refine lv_iload_n hx hb dJ7_fill_53178_11 rfl (lv_at hl 0 rfl) ?_
      refine lv_iload_n hx hb dJ7_fill_53178_12 rfl (lv_at hl 3 rfl) ?_
      refine va_iast hx hb hK hP hD hS 0 1 rfl rfl (show ¬ ((1 : Int32) < 0 ∨ 3 ≤ (1 : Int32).toNatClampNeg) from by decide +kernel) dJ7_fill_53178_13 (fun H locs hP hD hS => ?_)
      obtain ⟨ws_, hws_, hP, hD⟩ : ∃ w : va_W, w = [(h0, .inl (k.2.1, 3, .inl (upd (upd f 0 p0) 1 p0)))] ∧ va_P D classes w H ∧ va_D A w := ⟨_, rfl, hP, hD⟩
      subst hws_
      refine lv_iinc (v := 2) (lv' := [(2, .int 2), (3, .int 3), (0, .ref h0), (1, .int p0)]) hx hb dJ7_fill_53178_14 hl (k := 0) rfl (by decide) (by decide) rfl (fun ls hl => ?_)
      refine lv_goto (tgt := 5) hx hb dJ7_fill_53178_17 (by decide) ?_
      refine lv_iload_n hx hb dJ7_fill_53178_5 rfl (lv_at hl 0 rfl) ?_
      refine lv_iload_n hx hb dJ7_fill_53178_6 rfl (lv_at hl 1 rfl) ?_
      refine lv_icmp_ge (tgt := 20) hx hb dJ7_fill_53178_7 (by decide) (fun c_3 => ?_) (fun c_3 => ?_)
      · exact absurd c_3 (by decide)
      · have c_3 : ¬ ((3 : Int32) ≤ 2) := c_3
        refine lv_aload_n hx hb dJ7_fill_53178_10 rfl (lv_at hl 2 rfl) ?_
        refine lv_iload_n hx hb dJ7_fill_53178_11 rfl (lv_at hl 0 rfl) ?_
        refine lv_iload_n hx hb dJ7_fill_53178_12 rfl (lv_at hl 3 rfl) ?_
        refine va_iast hx hb hK hP hD hS 0 1 rfl rfl (show ¬ ((2 : Int32) < 0 ∨ 3 ≤ (2 : Int32).toNatClampNeg) from by decide +kernel) dJ7_fill_53178_13 (fun H locs hP hD hS => ?_)
        obtain ⟨ws_, hws_, hP, hD⟩ : ∃ w : va_W, w = [(h0, .inl (k.2.1, 3, .inl (upd (upd (upd f 0 p0) 1 p0) 2 p0)))] ∧ va_P D classes w H ∧ va_D A w := ⟨_, rfl, hP, hD⟩
        subst hws_
        refine lv_iinc (v := 3) (lv' := [(2, .int 3), (3, .int 3), (0, .ref h0), (1, .int p0)]) hx hb dJ7_fill_53178_14 hl (k := 0) rfl (by decide) (by decide) rfl (fun ls hl => ?_)
        refine lv_goto (tgt := 5) hx hb dJ7_fill_53178_17 (by decide) ?_
        refine lv_iload_n hx hb dJ7_fill_53178_5 rfl (lv_at hl 0 rfl) ?_
        refine lv_iload_n hx hb dJ7_fill_53178_6 rfl (lv_at hl 1 rfl) ?_
        refine lv_icmp_ge (tgt := 20) hx hb dJ7_fill_53178_7 (by decide) (fun c_4 => ?_) (fun c_4 => ?_)
        · have c_4 : (3 : Int32) ≤ 3 := c_4
          exact W.vret hx hb hr (fun t ht hW => ⟨⟨(), rfl, trivial, cB_of ht hP hD⟩, hS.F ht⟩) hS.2.2 dJ7_fill_53178_20
        · exact absurd (by decide) c_4

set_option maxHeartbeats 4000000 in
set_option maxRecDepth 100000 in
theorem q_fill10 (l : Launch) (D : va_G) (k : KT) (sz : Nat) (h0 : Nat) (p0 : Int32) (f : Nat → Int32)  : Met l yJ7_fill_53178 (WS yJ7_fill_53178 cJ7_fill_53178 4 none) ({ frames := 0, cells := 0, slots := 0, locals := 0 }) (va_Pc [.ref h0, .int p0] (cQ D k [(h0, .inl (k.2.1, 10, .inl f))] sz)) (va_Qv (fun _ : Unit => True) (fun (_ : Unit) t => cB D (va_A [(h0, .inl (k.2.1, 10, .inl f))] sz) [(h0, .inl (k.2.1, 10, .inl (upd (upd (upd (upd (upd (upd (upd (upd (upd (upd f 0 p0) 1 p0) 2 p0) 3 p0) 4 p0) 5 p0) 6 p0) 7 p0) 8 p0) 9 p0)))] t) (va_A [(h0, .inl (k.2.1, 10, .inl f))] sz)) 0 0 (va_A [(h0, .inl (k.2.1, 10, .inl f))] sz) := by
  refine Met.ofW (cc := cJ7_fill_53178) (maxL := 4) (ret := none) (by decide) rfl ?_
  intro p e s m args below meth c s₁ B hml hv
  obtain ⟨rfl, hsz, hP, hKX, hD0⟩ := hv
  have hK := hKX.1
  have hx := B.exec
  have hb := B.bytes
  have hr := B.returns
  have hts := atoms_spec (ws := WS yJ7_fill_53178 cJ7_fill_53178 4 none) B.pre
  have hgd : ∀ w ∈ gd, w ∈ WS yJ7_fill_53178 cJ7_fill_53178 4 none := fun w h => List.mem_cons_of_mem _ h
  have hg : ∀ w ∈ gd, w.before _ s = true := fun w h => hts w (hgd w h)
  have hown : s.vm.findClass RJ7 = some m.cls := findClass_of_methodNamed B.named
  have hlocks := B.notSynchronized
  subst hsz
  have hD := hD0.self (sz := s.heap.size)
  generalize hAe : va_A [(h0, .inl (k.2.1, 10, .inl f))] s.heap.size = A at hD ⊢
  have hA : ∀ q : Nat, s.heap.size ≤ q → A q := fun q h => by rw [← hAe]; exact Or.inr h
  have hS : va_S A s.heap s.heap [] := va_S.rf
  have hP : va_P D classes [(h0, .inl (k.2.1, 10, .inl f))] s.heap := hP
  have hl := lv_entry ([.ref h0, .int p0]) (n := 4) (Nat.le_of_ble_eq_true rfl)
  rw [lg_entry_eq]
  generalize (lg_sl ([.ref h0, .int p0]) ++ List.replicate (4 - (lg_sl ([.ref h0, .int p0])).length) Slot.unset).toArray = ls at hl ⊢
  have hl : lv_has ls 4 [(0, .ref h0), (1, .int p0)] := hl
  refine lv_iconst (v := 0) hx hb dJ7_fill_53178_0 (by decide) ?_
  refine lv_istore_n (lv' := [(2, .int 0), (0, .ref h0), (1, .int p0)]) hx hb dJ7_fill_53178_1 rfl hl (by decide) rfl (fun ls hl => ?_)
  refine lv_aload_n hx hb dJ7_fill_53178_2 rfl (lv_at hl 1 rfl) ?_
  refine va_alen (v := 10) hx hb hK hP 0 1 rfl rfl rfl dJ7_fill_53178_3 ?_
  refine lv_istore_n (lv' := [(3, .int 10), (2, .int 0), (0, .ref h0), (1, .int p0)]) hx hb dJ7_fill_53178_4 rfl hl (by decide) rfl (fun ls hl => ?_)
  refine lv_iload_n hx hb dJ7_fill_53178_5 rfl (lv_at hl 1 rfl) ?_
  refine lv_iload_n hx hb dJ7_fill_53178_6 rfl (lv_at hl 0 rfl) ?_
  refine lv_icmp_ge (tgt := 20) hx hb dJ7_fill_53178_7 (by decide) (fun c_1 => ?_) (fun c_1 => ?_)
  · exact absurd c_1 (by decide)
  · have c_1 : ¬ ((10 : Int32) ≤ 0) := c_1
    refine lv_aload_n hx hb dJ7_fill_53178_10 rfl (lv_at hl 2 rfl) ?_
    refine lv_iload_n hx hb dJ7_fill_53178_11 rfl (lv_at hl 1 rfl) ?_
    refine lv_iload_n hx hb dJ7_fill_53178_12 rfl (lv_at hl 3 rfl) ?_
    refine va_iast hx hb hK hP hD hS 0 1 rfl rfl (show ¬ ((0 : Int32) < 0 ∨ 10 ≤ (0 : Int32).toNatClampNeg) from by decide +kernel) dJ7_fill_53178_13 (fun H locs hP hD hS => ?_)
    obtain ⟨ws_, hws_, hP, hD⟩ : ∃ w : va_W, w = [(h0, .inl (k.2.1, 10, .inl (upd f 0 p0)))] ∧ va_P D classes w H ∧ va_D A w := ⟨_, rfl, hP, hD⟩
    subst hws_
    refine lv_iinc (v := 1) (lv' := [(2, .int 1), (3, .int 10), (0, .ref h0), (1, .int p0)]) hx hb dJ7_fill_53178_14 hl (k := 1) rfl (by decide) (by decide) rfl (fun ls hl => ?_)
    refine lv_goto (tgt := 5) hx hb dJ7_fill_53178_17 (by decide) ?_
    refine lv_iload_n hx hb dJ7_fill_53178_5 rfl (lv_at hl 0 rfl) ?_
    refine lv_iload_n hx hb dJ7_fill_53178_6 rfl (lv_at hl 1 rfl) ?_
    refine lv_icmp_ge (tgt := 20) hx hb dJ7_fill_53178_7 (by decide) (fun c_2 => ?_) (fun c_2 => ?_)
    · exact absurd c_2 (by decide)
    · have c_2 : ¬ ((10 : Int32) ≤ 1) := c_2
      refine lv_aload_n hx hb dJ7_fill_53178_10 rfl (lv_at hl 2 rfl) ?_
      refine lv_iload_n hx hb dJ7_fill_53178_11 rfl (lv_at hl 0 rfl) ?_
      refine lv_iload_n hx hb dJ7_fill_53178_12 rfl (lv_at hl 3 rfl) ?_
      refine va_iast hx hb hK hP hD hS 0 1 rfl rfl (show ¬ ((1 : Int32) < 0 ∨ 10 ≤ (1 : Int32).toNatClampNeg) from by decide +kernel) dJ7_fill_53178_13 (fun H locs hP hD hS => ?_)
      obtain ⟨ws_, hws_, hP, hD⟩ : ∃ w : va_W, w = [(h0, .inl (k.2.1, 10, .inl (upd (upd f 0 p0) 1 p0)))] ∧ va_P D classes w H ∧ va_D A w := ⟨_, rfl, hP, hD⟩
      subst hws_
      refine lv_iinc (v := 2) (lv' := [(2, .int 2), (3, .int 10), (0, .ref h0), (1, .int p0)]) hx hb dJ7_fill_53178_14 hl (k := 0) rfl (by decide) (by decide) rfl (fun ls hl => ?_)
      refine lv_goto (tgt := 5) hx hb dJ7_fill_53178_17 (by decide) ?_
      refine lv_iload_n hx hb dJ7_fill_53178_5 rfl (lv_at hl 0 rfl) ?_
      refine lv_iload_n hx hb dJ7_fill_53178_6 rfl (lv_at hl 1 rfl) ?_
      refine lv_icmp_ge (tgt := 20) hx hb dJ7_fill_53178_7 (by decide) (fun c_3 => ?_) (fun c_3 => ?_)
      · exact absurd c_3 (by decide)
      · have c_3 : ¬ ((10 : Int32) ≤ 2) := c_3
        refine lv_aload_n hx hb dJ7_fill_53178_10 rfl (lv_at hl 2 rfl) ?_
        refine lv_iload_n hx hb dJ7_fill_53178_11 rfl (lv_at hl 0 rfl) ?_
        refine lv_iload_n hx hb dJ7_fill_53178_12 rfl (lv_at hl 3 rfl) ?_
        refine va_iast hx hb hK hP hD hS 0 1 rfl rfl (show ¬ ((2 : Int32) < 0 ∨ 10 ≤ (2 : Int32).toNatClampNeg) from by decide +kernel) dJ7_fill_53178_13 (fun H locs hP hD hS => ?_)
        obtain ⟨ws_, hws_, hP, hD⟩ : ∃ w : va_W, w = [(h0, .inl (k.2.1, 10, .inl (upd (upd (upd f 0 p0) 1 p0) 2 p0)))] ∧ va_P D classes w H ∧ va_D A w := ⟨_, rfl, hP, hD⟩
        subst hws_
        refine lv_iinc (v := 3) (lv' := [(2, .int 3), (3, .int 10), (0, .ref h0), (1, .int p0)]) hx hb dJ7_fill_53178_14 hl (k := 0) rfl (by decide) (by decide) rfl (fun ls hl => ?_)
        refine lv_goto (tgt := 5) hx hb dJ7_fill_53178_17 (by decide) ?_
        refine lv_iload_n hx hb dJ7_fill_53178_5 rfl (lv_at hl 0 rfl) ?_
        refine lv_iload_n hx hb dJ7_fill_53178_6 rfl (lv_at hl 1 rfl) ?_
        refine lv_icmp_ge (tgt := 20) hx hb dJ7_fill_53178_7 (by decide) (fun c_4 => ?_) (fun c_4 => ?_)
        · exact absurd c_4 (by decide)
        · have c_4 : ¬ ((10 : Int32) ≤ 3) := c_4
          refine lv_aload_n hx hb dJ7_fill_53178_10 rfl (lv_at hl 2 rfl) ?_
          refine lv_iload_n hx hb dJ7_fill_53178_11 rfl (lv_at hl 0 rfl) ?_
          refine lv_iload_n hx hb dJ7_fill_53178_12 rfl (lv_at hl 3 rfl) ?_
          refine va_iast hx hb hK hP hD hS 0 1 rfl rfl (show ¬ ((3 : Int32) < 0 ∨ 10 ≤ (3 : Int32).toNatClampNeg) from by decide +kernel) dJ7_fill_53178_13 (fun H locs hP hD hS => ?_)
          obtain ⟨ws_, hws_, hP, hD⟩ : ∃ w : va_W, w = [(h0, .inl (k.2.1, 10, .inl (upd (upd (upd (upd f 0 p0) 1 p0) 2 p0) 3 p0)))] ∧ va_P D classes w H ∧ va_D A w := ⟨_, rfl, hP, hD⟩
          subst hws_
          refine lv_iinc (v := 4) (lv' := [(2, .int 4), (3, .int 10), (0, .ref h0), (1, .int p0)]) hx hb dJ7_fill_53178_14 hl (k := 0) rfl (by decide) (by decide) rfl (fun ls hl => ?_)
          refine lv_goto (tgt := 5) hx hb dJ7_fill_53178_17 (by decide) ?_
          refine lv_iload_n hx hb dJ7_fill_53178_5 rfl (lv_at hl 0 rfl) ?_
          refine lv_iload_n hx hb dJ7_fill_53178_6 rfl (lv_at hl 1 rfl) ?_
          refine lv_icmp_ge (tgt := 20) hx hb dJ7_fill_53178_7 (by decide) (fun c_5 => ?_) (fun c_5 => ?_)
          · exact absurd c_5 (by decide)
          · have c_5 : ¬ ((10 : Int32) ≤ 4) := c_5
            refine lv_aload_n hx hb dJ7_fill_53178_10 rfl (lv_at hl 2 rfl) ?_
            refine lv_iload_n hx hb dJ7_fill_53178_11 rfl (lv_at hl 0 rfl) ?_
            refine lv_iload_n hx hb dJ7_fill_53178_12 rfl (lv_at hl 3 rfl) ?_
            refine va_iast hx hb hK hP hD hS 0 1 rfl rfl (show ¬ ((4 : Int32) < 0 ∨ 10 ≤ (4 : Int32).toNatClampNeg) from by decide +kernel) dJ7_fill_53178_13 (fun H locs hP hD hS => ?_)
            obtain ⟨ws_, hws_, hP, hD⟩ : ∃ w : va_W, w = [(h0, .inl (k.2.1, 10, .inl (upd (upd (upd (upd (upd f 0 p0) 1 p0) 2 p0) 3 p0) 4 p0)))] ∧ va_P D classes w H ∧ va_D A w := ⟨_, rfl, hP, hD⟩
            subst hws_
            refine lv_iinc (v := 5) (lv' := [(2, .int 5), (3, .int 10), (0, .ref h0), (1, .int p0)]) hx hb dJ7_fill_53178_14 hl (k := 0) rfl (by decide) (by decide) rfl (fun ls hl => ?_)
            refine lv_goto (tgt := 5) hx hb dJ7_fill_53178_17 (by decide) ?_
            refine lv_iload_n hx hb dJ7_fill_53178_5 rfl (lv_at hl 0 rfl) ?_
            refine lv_iload_n hx hb dJ7_fill_53178_6 rfl (lv_at hl 1 rfl) ?_
            refine lv_icmp_ge (tgt := 20) hx hb dJ7_fill_53178_7 (by decide) (fun c_6 => ?_) (fun c_6 => ?_)
            · exact absurd c_6 (by decide)
            · have c_6 : ¬ ((10 : Int32) ≤ 5) := c_6
              refine lv_aload_n hx hb dJ7_fill_53178_10 rfl (lv_at hl 2 rfl) ?_
              refine lv_iload_n hx hb dJ7_fill_53178_11 rfl (lv_at hl 0 rfl) ?_
              refine lv_iload_n hx hb dJ7_fill_53178_12 rfl (lv_at hl 3 rfl) ?_
              refine va_iast hx hb hK hP hD hS 0 1 rfl rfl (show ¬ ((5 : Int32) < 0 ∨ 10 ≤ (5 : Int32).toNatClampNeg) from by decide +kernel) dJ7_fill_53178_13 (fun H locs hP hD hS => ?_)
              obtain ⟨ws_, hws_, hP, hD⟩ : ∃ w : va_W, w = [(h0, .inl (k.2.1, 10, .inl (upd (upd (upd (upd (upd (upd f 0 p0) 1 p0) 2 p0) 3 p0) 4 p0) 5 p0)))] ∧ va_P D classes w H ∧ va_D A w := ⟨_, rfl, hP, hD⟩
              subst hws_
              refine lv_iinc (v := 6) (lv' := [(2, .int 6), (3, .int 10), (0, .ref h0), (1, .int p0)]) hx hb dJ7_fill_53178_14 hl (k := 0) rfl (by decide) (by decide) rfl (fun ls hl => ?_)
              refine lv_goto (tgt := 5) hx hb dJ7_fill_53178_17 (by decide) ?_
              refine lv_iload_n hx hb dJ7_fill_53178_5 rfl (lv_at hl 0 rfl) ?_
              refine lv_iload_n hx hb dJ7_fill_53178_6 rfl (lv_at hl 1 rfl) ?_
              refine lv_icmp_ge (tgt := 20) hx hb dJ7_fill_53178_7 (by decide) (fun c_7 => ?_) (fun c_7 => ?_)
              · exact absurd c_7 (by decide)
              · have c_7 : ¬ ((10 : Int32) ≤ 6) := c_7
                refine lv_aload_n hx hb dJ7_fill_53178_10 rfl (lv_at hl 2 rfl) ?_
                refine lv_iload_n hx hb dJ7_fill_53178_11 rfl (lv_at hl 0 rfl) ?_
                refine lv_iload_n hx hb dJ7_fill_53178_12 rfl (lv_at hl 3 rfl) ?_
                refine va_iast hx hb hK hP hD hS 0 1 rfl rfl (show ¬ ((6 : Int32) < 0 ∨ 10 ≤ (6 : Int32).toNatClampNeg) from by decide +kernel) dJ7_fill_53178_13 (fun H locs hP hD hS => ?_)
                obtain ⟨ws_, hws_, hP, hD⟩ : ∃ w : va_W, w = [(h0, .inl (k.2.1, 10, .inl (upd (upd (upd (upd (upd (upd (upd f 0 p0) 1 p0) 2 p0) 3 p0) 4 p0) 5 p0) 6 p0)))] ∧ va_P D classes w H ∧ va_D A w := ⟨_, rfl, hP, hD⟩
                subst hws_
                refine lv_iinc (v := 7) (lv' := [(2, .int 7), (3, .int 10), (0, .ref h0), (1, .int p0)]) hx hb dJ7_fill_53178_14 hl (k := 0) rfl (by decide) (by decide) rfl (fun ls hl => ?_)
                refine lv_goto (tgt := 5) hx hb dJ7_fill_53178_17 (by decide) ?_
                refine lv_iload_n hx hb dJ7_fill_53178_5 rfl (lv_at hl 0 rfl) ?_
                refine lv_iload_n hx hb dJ7_fill_53178_6 rfl (lv_at hl 1 rfl) ?_
                refine lv_icmp_ge (tgt := 20) hx hb dJ7_fill_53178_7 (by decide) (fun c_8 => ?_) (fun c_8 => ?_)
                · exact absurd c_8 (by decide)
                · have c_8 : ¬ ((10 : Int32) ≤ 7) := c_8
                  refine lv_aload_n hx hb dJ7_fill_53178_10 rfl (lv_at hl 2 rfl) ?_
                  refine lv_iload_n hx hb dJ7_fill_53178_11 rfl (lv_at hl 0 rfl) ?_
                  refine lv_iload_n hx hb dJ7_fill_53178_12 rfl (lv_at hl 3 rfl) ?_
                  refine va_iast hx hb hK hP hD hS 0 1 rfl rfl (show ¬ ((7 : Int32) < 0 ∨ 10 ≤ (7 : Int32).toNatClampNeg) from by decide +kernel) dJ7_fill_53178_13 (fun H locs hP hD hS => ?_)
                  obtain ⟨ws_, hws_, hP, hD⟩ : ∃ w : va_W, w = [(h0, .inl (k.2.1, 10, .inl (upd (upd (upd (upd (upd (upd (upd (upd f 0 p0) 1 p0) 2 p0) 3 p0) 4 p0) 5 p0) 6 p0) 7 p0)))] ∧ va_P D classes w H ∧ va_D A w := ⟨_, rfl, hP, hD⟩
                  subst hws_
                  refine lv_iinc (v := 8) (lv' := [(2, .int 8), (3, .int 10), (0, .ref h0), (1, .int p0)]) hx hb dJ7_fill_53178_14 hl (k := 0) rfl (by decide) (by decide) rfl (fun ls hl => ?_)
                  refine lv_goto (tgt := 5) hx hb dJ7_fill_53178_17 (by decide) ?_
                  refine lv_iload_n hx hb dJ7_fill_53178_5 rfl (lv_at hl 0 rfl) ?_
                  refine lv_iload_n hx hb dJ7_fill_53178_6 rfl (lv_at hl 1 rfl) ?_
                  refine lv_icmp_ge (tgt := 20) hx hb dJ7_fill_53178_7 (by decide) (fun c_9 => ?_) (fun c_9 => ?_)
                  · exact absurd c_9 (by decide)
                  · have c_9 : ¬ ((10 : Int32) ≤ 8) := c_9
                    refine lv_aload_n hx hb dJ7_fill_53178_10 rfl (lv_at hl 2 rfl) ?_
                    refine lv_iload_n hx hb dJ7_fill_53178_11 rfl (lv_at hl 0 rfl) ?_
                    refine lv_iload_n hx hb dJ7_fill_53178_12 rfl (lv_at hl 3 rfl) ?_
                    refine va_iast hx hb hK hP hD hS 0 1 rfl rfl (show ¬ ((8 : Int32) < 0 ∨ 10 ≤ (8 : Int32).toNatClampNeg) from by decide +kernel) dJ7_fill_53178_13 (fun H locs hP hD hS => ?_)
                    obtain ⟨ws_, hws_, hP, hD⟩ : ∃ w : va_W, w = [(h0, .inl (k.2.1, 10, .inl (upd (upd (upd (upd (upd (upd (upd (upd (upd f 0 p0) 1 p0) 2 p0) 3 p0) 4 p0) 5 p0) 6 p0) 7 p0) 8 p0)))] ∧ va_P D classes w H ∧ va_D A w := ⟨_, rfl, hP, hD⟩
                    subst hws_
                    refine lv_iinc (v := 9) (lv' := [(2, .int 9), (3, .int 10), (0, .ref h0), (1, .int p0)]) hx hb dJ7_fill_53178_14 hl (k := 0) rfl (by decide) (by decide) rfl (fun ls hl => ?_)
                    refine lv_goto (tgt := 5) hx hb dJ7_fill_53178_17 (by decide) ?_
                    refine lv_iload_n hx hb dJ7_fill_53178_5 rfl (lv_at hl 0 rfl) ?_
                    refine lv_iload_n hx hb dJ7_fill_53178_6 rfl (lv_at hl 1 rfl) ?_
                    refine lv_icmp_ge (tgt := 20) hx hb dJ7_fill_53178_7 (by decide) (fun c_10 => ?_) (fun c_10 => ?_)
                    · exact absurd c_10 (by decide)
                    · have c_10 : ¬ ((10 : Int32) ≤ 9) := c_10
                      refine lv_aload_n hx hb dJ7_fill_53178_10 rfl (lv_at hl 2 rfl) ?_
                      refine lv_iload_n hx hb dJ7_fill_53178_11 rfl (lv_at hl 0 rfl) ?_
                      refine lv_iload_n hx hb dJ7_fill_53178_12 rfl (lv_at hl 3 rfl) ?_
                      refine va_iast hx hb hK hP hD hS 0 1 rfl rfl (show ¬ ((9 : Int32) < 0 ∨ 10 ≤ (9 : Int32).toNatClampNeg) from by decide +kernel) dJ7_fill_53178_13 (fun H locs hP hD hS => ?_)
                      obtain ⟨ws_, hws_, hP, hD⟩ : ∃ w : va_W, w = [(h0, .inl (k.2.1, 10, .inl (upd (upd (upd (upd (upd (upd (upd (upd (upd (upd f 0 p0) 1 p0) 2 p0) 3 p0) 4 p0) 5 p0) 6 p0) 7 p0) 8 p0) 9 p0)))] ∧ va_P D classes w H ∧ va_D A w := ⟨_, rfl, hP, hD⟩
                      subst hws_
                      refine lv_iinc (v := 10) (lv' := [(2, .int 10), (3, .int 10), (0, .ref h0), (1, .int p0)]) hx hb dJ7_fill_53178_14 hl (k := 0) rfl (by decide) (by decide) rfl (fun ls hl => ?_)
                      refine lv_goto (tgt := 5) hx hb dJ7_fill_53178_17 (by decide) ?_
                      refine lv_iload_n hx hb dJ7_fill_53178_5 rfl (lv_at hl 0 rfl) ?_
                      refine lv_iload_n hx hb dJ7_fill_53178_6 rfl (lv_at hl 1 rfl) ?_
                      refine lv_icmp_ge (tgt := 20) hx hb dJ7_fill_53178_7 (by decide) (fun c_11 => ?_) (fun c_11 => ?_)
                      · have c_11 : (10 : Int32) ≤ 10 := c_11
                        exact W.vret hx hb hr (fun t ht hW => ⟨⟨(), rfl, trivial, cB_of ht hP hD⟩, hS.F ht⟩) hS.2.2 dJ7_fill_53178_20
                      · exact absurd (by decide) c_11

set_option maxHeartbeats 4000000 in
set_option maxRecDepth 100000 in
theorem q_empty (l : Launch) (D : va_G) (k : KT) (sz : Nat) (h0 v_length v_inches v_foot v_least v_most v_leap sl v_code v_codeEnd : Nat) (v_streets v_walkers v_rules v_units v_coded v_hand v_slack v_draw : Int32) (g : Nat → Int32)  : Met l yX6_empty (WS yX6_empty cX6_empty 1 none) ({ frames := 0, cells := 0, slots := 0, locals := 0 }) (va_Pc [.ref h0] (cQ D k [(h0, .inr (6, [vrf_ v_length, vrf_ v_inches, vrf_ v_foot, vrf_ v_least, vrf_ v_most, vrf_ v_leap, vrf_ sl, vrf_ v_code, vrf_ v_codeEnd, .int v_streets, .int v_walkers, .int v_rules, .int v_units, .int v_coded, .int v_hand, .int v_slack, .int v_draw])), (sl, .inl (k.2.1, 3, .inl g))] sz)) (va_Qv (fun _ : Unit => True) (fun (_ : Unit) t => cB D (va_A [(h0, .inr (6, [vrf_ v_length, vrf_ v_inches, vrf_ v_foot, vrf_ v_least, vrf_ v_most, vrf_ v_leap, vrf_ sl, vrf_ v_code, vrf_ v_codeEnd, .int v_streets, .int v_walkers, .int v_rules, .int v_units, .int v_coded, .int v_hand, .int v_slack, .int v_draw])), (sl, .inl (k.2.1, 3, .inl g))] sz) [(h0, .inr (6, [vrf_ v_length, vrf_ v_inches, vrf_ v_foot, vrf_ v_least, vrf_ v_most, vrf_ v_leap, vrf_ sl, vrf_ v_code, vrf_ v_codeEnd, vi0_, vi0_, vi0_, vi0_, vi0_, .int 30, .int 10, vi0_])), (sl, .inl (k.2.1, 3, .inl (upd (upd (upd g 0 0) 1 1) 2 0)))] t) (va_A [(h0, .inr (6, [vrf_ v_length, vrf_ v_inches, vrf_ v_foot, vrf_ v_least, vrf_ v_most, vrf_ v_leap, vrf_ sl, vrf_ v_code, vrf_ v_codeEnd, .int v_streets, .int v_walkers, .int v_rules, .int v_units, .int v_coded, .int v_hand, .int v_slack, .int v_draw])), (sl, .inl (k.2.1, 3, .inl g))] sz)) 0 0 (va_A [(h0, .inr (6, [vrf_ v_length, vrf_ v_inches, vrf_ v_foot, vrf_ v_least, vrf_ v_most, vrf_ v_leap, vrf_ sl, vrf_ v_code, vrf_ v_codeEnd, .int v_streets, .int v_walkers, .int v_rules, .int v_units, .int v_coded, .int v_hand, .int v_slack, .int v_draw])), (sl, .inl (k.2.1, 3, .inl g))] sz) := by
  refine Met.ofW (cc := cX6_empty) (maxL := 1) (ret := none) (by decide) rfl ?_
  intro p e s m args below meth c s₁ B hml hv
  obtain ⟨rfl, hsz, hP, hKX, hD0⟩ := hv
  have hK := hKX.1
  have hx := B.exec
  have hb := B.bytes
  have hr := B.returns
  have hts := atoms_spec (ws := WS yX6_empty cX6_empty 1 none) B.pre
  have hgd : ∀ w ∈ gd, w ∈ WS yX6_empty cX6_empty 1 none := fun w h => List.mem_cons_of_mem _ h
  have hg : ∀ w ∈ gd, w.before _ s = true := fun w h => hts w (hgd w h)
  have hown : s.vm.findClass RX6 = some m.cls := findClass_of_methodNamed B.named
  have hlocks := B.notSynchronized
  subst hsz
  have hD := hD0.self (sz := s.heap.size)
  generalize hAe : va_A [(h0, .inr (6, [vrf_ v_length, vrf_ v_inches, vrf_ v_foot, vrf_ v_least, vrf_ v_most, vrf_ v_leap, vrf_ sl, vrf_ v_code, vrf_ v_codeEnd, .int v_streets, .int v_walkers, .int v_rules, .int v_units, .int v_coded, .int v_hand, .int v_slack, .int v_draw])), (sl, .inl (k.2.1, 3, .inl g))] s.heap.size = A at hD ⊢
  have hA : ∀ q : Nat, s.heap.size ≤ q → A q := fun q h => by rw [← hAe]; exact Or.inr h
  have hS : va_S A s.heap s.heap [] := va_S.rf
  have hP : va_P D classes [(h0, .inr (6, [vrf_ v_length, vrf_ v_inches, vrf_ v_foot, vrf_ v_least, vrf_ v_most, vrf_ v_leap, vrf_ sl, vrf_ v_code, vrf_ v_codeEnd, .int v_streets, .int v_walkers, .int v_rules, .int v_units, .int v_coded, .int v_hand, .int v_slack, .int v_draw])), (sl, .inl (k.2.1, 3, .inl g))] s.heap := hP
  have hl := lv_entry ([.ref h0]) (n := 1) (Nat.le_of_ble_eq_true rfl)
  rw [lg_entry_eq]
  generalize (lg_sl ([.ref h0]) ++ List.replicate (1 - (lg_sl ([.ref h0])).length) Slot.unset).toArray = ls at hl ⊢
  have hl : lv_has ls 1 [(0, .ref h0)] := hl
  refine lv_aload_n hx hb dX6_empty_0 rfl (lv_at hl 0 rfl) ?_
  refine lv_iconst (v := 0) hx hb dX6_empty_1 (by decide) ?_
  refine va_put (D := D) (ci := 6) (v := .int 0) (ty := .int) (C := RX6) (T := TX6) (N := 17) hx hb hg iX6 tyX6 tyX6_ok nmX6 hown hK hP hD hS 0 rfl rfl 9 (by decide) (hg (Cond.fieldLink RX6 42 "SlabWalk$Paving" "streets" "I") m186) (fun _ h9 => h9) rfl (by decide +kernel) rfl rfl (Nat.le_of_ble_eq_true rfl) dX6_empty_2 (fun H locs hP hD hS => ?_)
  obtain ⟨ws_, hws_, hP, hD⟩ : ∃ w : va_W, w = [(h0, .inr (6, [vrf_ v_length, vrf_ v_inches, vrf_ v_foot, vrf_ v_least, vrf_ v_most, vrf_ v_leap, vrf_ sl, vrf_ v_code, vrf_ v_codeEnd, vi0_, .int v_walkers, .int v_rules, .int v_units, .int v_coded, .int v_hand, .int v_slack, .int v_draw])), (sl, .inl (k.2.1, 3, .inl g))] ∧ va_P D classes w H ∧ va_D A w := ⟨_, rfl, hP, hD⟩
  subst hws_
  refine lv_aload_n hx hb dX6_empty_5 rfl (lv_at hl 0 rfl) ?_
  refine lv_iconst (v := 0) hx hb dX6_empty_6 (by decide) ?_
  refine va_put (D := D) (ci := 6) (v := .int 0) (ty := .int) (C := RX6) (T := TX6) (N := 17) hx hb hg iX6 tyX6 tyX6_ok nmX6 hown hK hP hD hS 0 rfl rfl 10 (by decide) (hg (Cond.fieldLink RX6 46 "SlabWalk$Paving" "walkers" "I") m189) (fun _ h9 => h9) rfl (by decide +kernel) rfl rfl (Nat.le_of_ble_eq_true rfl) dX6_empty_7 (fun H locs hP hD hS => ?_)
  obtain ⟨ws_, hws_, hP, hD⟩ : ∃ w : va_W, w = [(h0, .inr (6, [vrf_ v_length, vrf_ v_inches, vrf_ v_foot, vrf_ v_least, vrf_ v_most, vrf_ v_leap, vrf_ sl, vrf_ v_code, vrf_ v_codeEnd, vi0_, vi0_, .int v_rules, .int v_units, .int v_coded, .int v_hand, .int v_slack, .int v_draw])), (sl, .inl (k.2.1, 3, .inl g))] ∧ va_P D classes w H ∧ va_D A w := ⟨_, rfl, hP, hD⟩
  subst hws_
  refine lv_aload_n hx hb dX6_empty_10 rfl (lv_at hl 0 rfl) ?_
  refine lv_iconst (v := 0) hx hb dX6_empty_11 (by decide) ?_
  refine va_put (D := D) (ci := 6) (v := .int 0) (ty := .int) (C := RX6) (T := TX6) (N := 17) hx hb hg iX6 tyX6 tyX6_ok nmX6 hown hK hP hD hS 0 rfl rfl 11 (by decide) (hg (Cond.fieldLink RX6 49 "SlabWalk$Paving" "rules" "I") m192) (fun _ h9 => h9) rfl (by decide +kernel) rfl rfl (Nat.le_of_ble_eq_true rfl) dX6_empty_12 (fun H locs hP hD hS => ?_)
  obtain ⟨ws_, hws_, hP, hD⟩ : ∃ w : va_W, w = [(h0, .inr (6, [vrf_ v_length, vrf_ v_inches, vrf_ v_foot, vrf_ v_least, vrf_ v_most, vrf_ v_leap, vrf_ sl, vrf_ v_code, vrf_ v_codeEnd, vi0_, vi0_, vi0_, .int v_units, .int v_coded, .int v_hand, .int v_slack, .int v_draw])), (sl, .inl (k.2.1, 3, .inl g))] ∧ va_P D classes w H ∧ va_D A w := ⟨_, rfl, hP, hD⟩
  subst hws_
  refine lv_aload_n hx hb dX6_empty_15 rfl (lv_at hl 0 rfl) ?_
  refine lv_iconst (v := 0) hx hb dX6_empty_16 (by decide) ?_
  refine va_put (D := D) (ci := 6) (v := .int 0) (ty := .int) (C := RX6) (T := TX6) (N := 17) hx hb hg iX6 tyX6 tyX6_ok nmX6 hown hK hP hD hS 0 rfl rfl 12 (by decide) (hg (Cond.fieldLink RX6 52 "SlabWalk$Paving" "units" "I") m196) (fun _ h9 => h9) rfl (by decide +kernel) rfl rfl (Nat.le_of_ble_eq_true rfl) dX6_empty_17 (fun H locs hP hD hS => ?_)
  obtain ⟨ws_, hws_, hP, hD⟩ : ∃ w : va_W, w = [(h0, .inr (6, [vrf_ v_length, vrf_ v_inches, vrf_ v_foot, vrf_ v_least, vrf_ v_most, vrf_ v_leap, vrf_ sl, vrf_ v_code, vrf_ v_codeEnd, vi0_, vi0_, vi0_, vi0_, .int v_coded, .int v_hand, .int v_slack, .int v_draw])), (sl, .inl (k.2.1, 3, .inl g))] ∧ va_P D classes w H ∧ va_D A w := ⟨_, rfl, hP, hD⟩
  subst hws_
  refine lv_aload_n hx hb dX6_empty_20 rfl (lv_at hl 0 rfl) ?_
  refine lv_iconst (v := 0) hx hb dX6_empty_21 (by decide) ?_
  refine va_put (D := D) (ci := 6) (v := .int 0) (ty := .int) (C := RX6) (T := TX6) (N := 17) hx hb hg iX6 tyX6 tyX6_ok nmX6 hown hK hP hD hS 0 rfl rfl 13 (by decide) (hg (Cond.fieldLink RX6 55 "SlabWalk$Paving" "coded" "I") m199) (fun _ h9 => h9) rfl (by decide +kernel) rfl rfl (Nat.le_of_ble_eq_true rfl) dX6_empty_22 (fun H locs hP hD hS => ?_)
  obtain ⟨ws_, hws_, hP, hD⟩ : ∃ w : va_W, w = [(h0, .inr (6, [vrf_ v_length, vrf_ v_inches, vrf_ v_foot, vrf_ v_least, vrf_ v_most, vrf_ v_leap, vrf_ sl, vrf_ v_code, vrf_ v_codeEnd, vi0_, vi0_, vi0_, vi0_, vi0_, .int v_hand, .int v_slack, .int v_draw])), (sl, .inl (k.2.1, 3, .inl g))] ∧ va_P D classes w H ∧ va_D A w := ⟨_, rfl, hP, hD⟩
  subst hws_
  refine lv_aload_n hx hb dX6_empty_25 rfl (lv_at hl 0 rfl) ?_
  refine lv_bipush (v := 30) hx hb dX6_empty_26 (by decide) ?_
  refine va_put (D := D) (ci := 6) (v := .int 30) (ty := .int) (C := RX6) (T := TX6) (N := 17) hx hb hg iX6 tyX6 tyX6_ok nmX6 hown hK hP hD hS 0 rfl rfl 14 (by decide) (hg (Cond.fieldLink RX6 58 "SlabWalk$Paving" "hand" "I") m201) (fun _ h9 => h9) rfl (by decide +kernel) rfl rfl (Nat.le_of_ble_eq_true rfl) dX6_empty_28 (fun H locs hP hD hS => ?_)
  obtain ⟨ws_, hws_, hP, hD⟩ : ∃ w : va_W, w = [(h0, .inr (6, [vrf_ v_length, vrf_ v_inches, vrf_ v_foot, vrf_ v_least, vrf_ v_most, vrf_ v_leap, vrf_ sl, vrf_ v_code, vrf_ v_codeEnd, vi0_, vi0_, vi0_, vi0_, vi0_, .int 30, .int v_slack, .int v_draw])), (sl, .inl (k.2.1, 3, .inl g))] ∧ va_P D classes w H ∧ va_D A w := ⟨_, rfl, hP, hD⟩
  subst hws_
  refine lv_aload_n hx hb dX6_empty_31 rfl (lv_at hl 0 rfl) ?_
  refine lv_bipush (v := 10) hx hb dX6_empty_32 (by decide) ?_
  refine va_put (D := D) (ci := 6) (v := .int 10) (ty := .int) (C := RX6) (T := TX6) (N := 17) hx hb hg iX6 tyX6 tyX6_ok nmX6 hown hK hP hD hS 0 rfl rfl 15 (by decide) (hg (Cond.fieldLink RX6 61 "SlabWalk$Paving" "slack" "I") m204) (fun _ h9 => h9) rfl (by decide +kernel) rfl rfl (Nat.le_of_ble_eq_true rfl) dX6_empty_34 (fun H locs hP hD hS => ?_)
  obtain ⟨ws_, hws_, hP, hD⟩ : ∃ w : va_W, w = [(h0, .inr (6, [vrf_ v_length, vrf_ v_inches, vrf_ v_foot, vrf_ v_least, vrf_ v_most, vrf_ v_leap, vrf_ sl, vrf_ v_code, vrf_ v_codeEnd, vi0_, vi0_, vi0_, vi0_, vi0_, .int 30, .int 10, .int v_draw])), (sl, .inl (k.2.1, 3, .inl g))] ∧ va_P D classes w H ∧ va_D A w := ⟨_, rfl, hP, hD⟩
  subst hws_
  refine lv_aload_n hx hb dX6_empty_37 rfl (lv_at hl 0 rfl) ?_
  refine lv_iconst (v := 0) hx hb dX6_empty_38 (by decide) ?_
  refine va_put (D := D) (ci := 6) (v := .int 0) (ty := .int) (C := RX6) (T := TX6) (N := 17) hx hb hg iX6 tyX6 tyX6_ok nmX6 hown hK hP hD hS 0 rfl rfl 16 (by decide) (hg (Cond.fieldLink RX6 64 "SlabWalk$Paving" "draw" "I") m207) (fun _ h9 => h9) rfl (by decide +kernel) rfl rfl (Nat.le_of_ble_eq_true rfl) dX6_empty_39 (fun H locs hP hD hS => ?_)
  obtain ⟨ws_, hws_, hP, hD⟩ : ∃ w : va_W, w = [(h0, .inr (6, [vrf_ v_length, vrf_ v_inches, vrf_ v_foot, vrf_ v_least, vrf_ v_most, vrf_ v_leap, vrf_ sl, vrf_ v_code, vrf_ v_codeEnd, vi0_, vi0_, vi0_, vi0_, vi0_, .int 30, .int 10, vi0_])), (sl, .inl (k.2.1, 3, .inl g))] ∧ va_P D classes w H ∧ va_D A w := ⟨_, rfl, hP, hD⟩
  subst hws_
  refine lv_aload_n hx hb dX6_empty_42 rfl (lv_at hl 0 rfl) ?_
  refine va_get (D := D) (ci := 6) (v := .ref sl) (C := RX6) (T := TX6) (N := 17) hx hb hg iX6 hown hK hP 0 rfl rfl 6 (by decide) (hg (Cond.fieldLink RX6 30 "SlabWalk$Paving" "slip" "[I") m178) (fun _ h9 => h9) rfl dX6_empty_43 ?_
  refine lv_iconst (v := 0) hx hb dX6_empty_46 (by decide) ?_
  refine lv_iconst (v := 0) hx hb dX6_empty_47 (by decide) ?_
  refine va_iast hx hb hK hP hD hS 1 1 rfl rfl (show ¬ ((0 : Int32) < 0 ∨ 3 ≤ (0 : Int32).toNatClampNeg) from by decide +kernel) dX6_empty_48 (fun H locs hP hD hS => ?_)
  obtain ⟨ws_, hws_, hP, hD⟩ : ∃ w : va_W, w = [(h0, .inr (6, [vrf_ v_length, vrf_ v_inches, vrf_ v_foot, vrf_ v_least, vrf_ v_most, vrf_ v_leap, vrf_ sl, vrf_ v_code, vrf_ v_codeEnd, vi0_, vi0_, vi0_, vi0_, vi0_, .int 30, .int 10, vi0_])), (sl, .inl (k.2.1, 3, .inl (upd g 0 0)))] ∧ va_P D classes w H ∧ va_D A w := ⟨_, rfl, hP, hD⟩
  subst hws_
  refine lv_aload_n hx hb dX6_empty_49 rfl (lv_at hl 0 rfl) ?_
  refine va_get (D := D) (ci := 6) (v := .ref sl) (C := RX6) (T := TX6) (N := 17) hx hb hg iX6 hown hK hP 0 rfl rfl 6 (by decide) (hg (Cond.fieldLink RX6 30 "SlabWalk$Paving" "slip" "[I") m178) (fun _ h9 => h9) rfl dX6_empty_50 ?_
  refine lv_iconst (v := 1) hx hb dX6_empty_53 (by decide) ?_
  refine lv_iconst (v := 1) hx hb dX6_empty_54 (by decide) ?_
  refine va_iast hx hb hK hP hD hS 1 1 rfl rfl (show ¬ ((1 : Int32) < 0 ∨ 3 ≤ (1 : Int32).toNatClampNeg) from by decide +kernel) dX6_empty_55 (fun H locs hP hD hS => ?_)
  obtain ⟨ws_, hws_, hP, hD⟩ : ∃ w : va_W, w = [(h0, .inr (6, [vrf_ v_length, vrf_ v_inches, vrf_ v_foot, vrf_ v_least, vrf_ v_most, vrf_ v_leap, vrf_ sl, vrf_ v_code, vrf_ v_codeEnd, vi0_, vi0_, vi0_, vi0_, vi0_, .int 30, .int 10, vi0_])), (sl, .inl (k.2.1, 3, .inl (upd (upd g 0 0) 1 1)))] ∧ va_P D classes w H ∧ va_D A w := ⟨_, rfl, hP, hD⟩
  subst hws_
  refine lv_aload_n hx hb dX6_empty_56 rfl (lv_at hl 0 rfl) ?_
  refine va_get (D := D) (ci := 6) (v := .ref sl) (C := RX6) (T := TX6) (N := 17) hx hb hg iX6 hown hK hP 0 rfl rfl 6 (by decide) (hg (Cond.fieldLink RX6 30 "SlabWalk$Paving" "slip" "[I") m178) (fun _ h9 => h9) rfl dX6_empty_57 ?_
  refine lv_iconst (v := 2) hx hb dX6_empty_60 (by decide) ?_
  refine lv_iconst (v := 0) hx hb dX6_empty_61 (by decide) ?_
  refine va_iast hx hb hK hP hD hS 1 1 rfl rfl (show ¬ ((2 : Int32) < 0 ∨ 3 ≤ (2 : Int32).toNatClampNeg) from by decide +kernel) dX6_empty_62 (fun H locs hP hD hS => ?_)
  obtain ⟨ws_, hws_, hP, hD⟩ : ∃ w : va_W, w = [(h0, .inr (6, [vrf_ v_length, vrf_ v_inches, vrf_ v_foot, vrf_ v_least, vrf_ v_most, vrf_ v_leap, vrf_ sl, vrf_ v_code, vrf_ v_codeEnd, vi0_, vi0_, vi0_, vi0_, vi0_, .int 30, .int 10, vi0_])), (sl, .inl (k.2.1, 3, .inl (upd (upd (upd g 0 0) 1 1) 2 0)))] ∧ va_P D classes w H ∧ va_D A w := ⟨_, rfl, hP, hD⟩
  subst hws_
  exact W.vret hx hb hr (fun t ht hW => ⟨⟨(), rfl, trivial, cB_of ht hP hD⟩, hS.F ht⟩) hS.2.2 dX6_empty_63

set_option maxHeartbeats 4000000 in
set_option maxRecDepth 100000 in
theorem q_X6 (l : Launch) (D : va_G) (k : KT) (sz : Nat) (h0 : Nat)  : Met l yX6_init (WS yX6_init cX6_init 1 none) ({ frames := 1, cells := 9, slots := 1809, locals := 20 }) (va_Pc [.ref h0] (cQ D k [(h0, .inr (6, [vnl_, vnl_, vnl_, vnl_, vnl_, vnl_, vnl_, vnl_, vnl_, vi0_, vi0_, vi0_, vi0_, vi0_, vi0_, vi0_, vi0_]))] sz)) (va_Qv (fun _ : Unit => True) (fun (_ : Unit) t => ∃ (q_1 : Nat), ∃ (q_2 : Nat), ∃ (q_3 : Nat), ∃ (q_4 : Nat), ∃ (q_5 : Nat), ∃ (q_6 : Nat), ∃ (q_8 : Nat), ∃ (q_9 : Nat), ∃ (q_7 : Nat), cB D (va_A [(h0, .inr (6, [vnl_, vnl_, vnl_, vnl_, vnl_, vnl_, vnl_, vnl_, vnl_, vi0_, vi0_, vi0_, vi0_, vi0_, vi0_, vi0_, vi0_]))] sz) [vaz_ q_1 k.2.1 3, vaz_ q_2 k.2.1 1200, vaz_ q_3 k.2.1 4, vaz_ q_4 k.2.1 4, vaz_ q_5 k.2.1 4, vaz_ q_6 k.2.1 4, vaz_ q_8 k.2.1 580, vaz_ q_9 k.2.1 7, (h0, .inr (6, [vrf_ q_1, vrf_ q_2, vrf_ q_3, vrf_ q_4, vrf_ q_5, vrf_ q_6, vrf_ q_7, vrf_ q_8, vrf_ q_9, vi0_, vi0_, vi0_, vi0_, vi0_, .int 30, .int 10, vi0_])), (q_7, .inl (k.2.1, 3, .inl (upd (upd (upd (fun _ => 0) 0 0) 1 1) 2 0)))] t) (va_A [(h0, .inr (6, [vnl_, vnl_, vnl_, vnl_, vnl_, vnl_, vnl_, vnl_, vnl_, vi0_, vi0_, vi0_, vi0_, vi0_, vi0_, vi0_, vi0_]))] sz)) 9 1809 (va_A [(h0, .inr (6, [vnl_, vnl_, vnl_, vnl_, vnl_, vnl_, vnl_, vnl_, vnl_, vi0_, vi0_, vi0_, vi0_, vi0_, vi0_, vi0_, vi0_]))] sz) := by
  refine Met.ofW (cc := cX6_init) (maxL := 1) (ret := none) (by decide) rfl ?_
  intro p e s m args below meth c s₁ B hml hv
  obtain ⟨rfl, hsz, hP, hKX, hD0⟩ := hv
  have hK := hKX.1
  have hx := B.exec
  have hb := B.bytes
  have hr := B.returns
  have hts := atoms_spec (ws := WS yX6_init cX6_init 1 none) B.pre
  have hgd : ∀ w ∈ gd, w ∈ WS yX6_init cX6_init 1 none := fun w h => List.mem_cons_of_mem _ h
  have hg : ∀ w ∈ gd, w.before _ s = true := fun w h => hts w (hgd w h)
  have hown : s.vm.findClass RX6 = some m.cls := findClass_of_methodNamed B.named
  have hlocks := B.notSynchronized
  have hin : meth.name = "<init>" := (name_of_methodNamed B.named B.method).1
  subst hsz
  have hD := hD0.self (sz := s.heap.size)
  generalize hAe : va_A [(h0, .inr (6, [vnl_, vnl_, vnl_, vnl_, vnl_, vnl_, vnl_, vnl_, vnl_, vi0_, vi0_, vi0_, vi0_, vi0_, vi0_, vi0_, vi0_]))] s.heap.size = A at hD ⊢
  have hA : ∀ q : Nat, s.heap.size ≤ q → A q := fun q h => by rw [← hAe]; exact Or.inr h
  have hS : va_S A s.heap s.heap [] := va_S.rf
  have hP : va_P D classes [(h0, .inr (6, [vnl_, vnl_, vnl_, vnl_, vnl_, vnl_, vnl_, vnl_, vnl_, vi0_, vi0_, vi0_, vi0_, vi0_, vi0_, vi0_, vi0_]))] s.heap := hP
  have hl := lv_entry ([.ref h0]) (n := 1) (Nat.le_of_ble_eq_true rfl)
  rw [lg_entry_eq]
  generalize (lg_sl ([.ref h0]) ++ List.replicate (1 - (lg_sl ([.ref h0])).length) Slot.unset).toArray = ls at hl ⊢
  have hl : lv_has ls 1 [(0, .ref h0)] := hl
  refine lv_aload_n hx hb dX6_init_0 rfl (lv_at hl 0 rfl) ?_
  refine W.objInit hx hb hown (hg (Cond.methodLink RX6 3 objectInit) m151) (hg (Cond.instanceMethod objectInit) m144) (hg (Cond.code objectInit ⟨#[0xb1]⟩ 1 none) m145) rfl (by rw [hml]; exact hl.1) rfl dX6_init_1 (Nat.le_of_ble_eq_true rfl) (Nat.le_of_ble_eq_true rfl) ?_
  refine W.eq (g2 := F0 m 4 ls []) rfl ?_
  refine lv_aload_n hx hb dX6_init_4 rfl (lv_at hl 0 rfl) ?_
  refine lv_iconst (v := 3) hx hb dX6_init_5 (by decide) ?_
  refine va_newaT (atype := .int) (ty := .int) (a0 := (3, .inl (fun _ => 0))) hx hb (hg (Cond.arrayClass .int) m245) rfl ra_int hK hP hD hS hA 1 rfl (fun _ => rfl) (by decide) (by decide) (Nat.le_of_ble_eq_true rfl) (Nat.le_of_ble_eq_true rfl) (Nat.le_of_ble_eq_true rfl) dX6_init_6 (fun q_1 H hP hD hS => ?_)
  refine W.widen (k := 1) (n := 3) (Nat.le_of_ble_eq_true rfl) (Nat.le_of_ble_eq_true rfl) ?_
  refine va_putF (D := D) (ci := 6) (v := .ref q_1) (ty := (.array .int)) (C := RX6) (T := TX6) (N := 17) hx hb hg iX6 tyX6 tyX6_ok nmX6 hown hK hP hD hS 0 rfl rfl 0 (by decide) (hg (Cond.fieldLink RX6 9 "SlabWalk$Paving" "length" "[I") m156) (fun _ h9 => h9) rfl hin rfl (by decide +kernel) rfl rfl (Nat.le_of_ble_eq_true rfl) dX6_init_8 (fun H locs hP hD hS => ?_)
  obtain ⟨ws_, hws_, hP, hD⟩ : ∃ w : va_W, w = [(h0, .inr (6, [vrf_ q_1, vnl_, vnl_, vnl_, vnl_, vnl_, vnl_, vnl_, vnl_, vi0_, vi0_, vi0_, vi0_, vi0_, vi0_, vi0_, vi0_])), vaz_ q_1 k.2.1 3] ∧ va_P D classes w H ∧ va_D A w := ⟨_, rfl, hP, hD⟩
  subst hws_
  refine lv_aload_n hx hb dX6_init_11 rfl (lv_at hl 0 rfl) ?_
  refine lv_sipush (v := 1200) hx hb dX6_init_12 (by decide) ?_
  refine va_newaT (atype := .int) (ty := .int) (a0 := (1200, .inl (fun _ => 0))) hx hb (hg (Cond.arrayClass .int) m245) rfl ra_int hK hP hD hS hA 1 rfl (fun _ => rfl) (by decide) (by decide) (Nat.le_of_ble_eq_true rfl) (Nat.le_of_ble_eq_true rfl) (Nat.le_of_ble_eq_true rfl) dX6_init_15 (fun q_2 H hP hD hS => ?_)
  refine W.widen (k := 2) (n := 1203) (Nat.le_of_ble_eq_true rfl) (Nat.le_of_ble_eq_true rfl) ?_
  refine va_putF (D := D) (ci := 6) (v := .ref q_2) (ty := (.array .int)) (C := RX6) (T := TX6) (N := 17) hx hb hg iX6 tyX6 tyX6_ok nmX6 hown hK hP hD hS 0 rfl rfl 1 (by decide) (hg (Cond.fieldLink RX6 15 "SlabWalk$Paving" "inches" "[I") m161) (fun _ h9 => h9) rfl hin rfl (by decide +kernel) rfl rfl (Nat.le_of_ble_eq_true rfl) dX6_init_17 (fun H locs hP hD hS => ?_)
  obtain ⟨ws_, hws_, hP, hD⟩ : ∃ w : va_W, w = [(h0, .inr (6, [vrf_ q_1, vrf_ q_2, vnl_, vnl_, vnl_, vnl_, vnl_, vnl_, vnl_, vi0_, vi0_, vi0_, vi0_, vi0_, vi0_, vi0_, vi0_])), vaz_ q_1 k.2.1 3, vaz_ q_2 k.2.1 1200] ∧ va_P D classes w H ∧ va_D A w := ⟨_, rfl, hP, hD⟩
  subst hws_
  refine lv_aload_n hx hb dX6_init_20 rfl (lv_at hl 0 rfl) ?_
  refine lv_iconst (v := 4) hx hb dX6_init_21 (by decide) ?_
  refine va_newaT (atype := .int) (ty := .int) (a0 := (4, .inl (fun _ => 0))) hx hb (hg (Cond.arrayClass .int) m245) rfl ra_int hK hP hD hS hA 1 rfl (fun _ => rfl) (by decide) (by decide) (Nat.le_of_ble_eq_true rfl) (Nat.le_of_ble_eq_true rfl) (Nat.le_of_ble_eq_true rfl) dX6_init_22 (fun q_3 H hP hD hS => ?_)
  refine W.widen (k := 3) (n := 1207) (Nat.le_of_ble_eq_true rfl) (Nat.le_of_ble_eq_true rfl) ?_
  refine va_putF (D := D) (ci := 6) (v := .ref q_3) (ty := (.array .int)) (C := RX6) (T := TX6) (N := 17) hx hb hg iX6 tyX6 tyX6_ok nmX6 hown hK hP hD hS 0 rfl rfl 2 (by decide) (hg (Cond.fieldLink RX6 18 "SlabWalk$Paving" "foot" "[I") m162) (fun _ h9 => h9) rfl hin rfl (by decide +kernel) rfl rfl (Nat.le_of_ble_eq_true rfl) dX6_init_24 (fun H locs hP hD hS => ?_)
  obtain ⟨ws_, hws_, hP, hD⟩ : ∃ w : va_W, w = [(h0, .inr (6, [vrf_ q_1, vrf_ q_2, vrf_ q_3, vnl_, vnl_, vnl_, vnl_, vnl_, vnl_, vi0_, vi0_, vi0_, vi0_, vi0_, vi0_, vi0_, vi0_])), vaz_ q_1 k.2.1 3, vaz_ q_2 k.2.1 1200, vaz_ q_3 k.2.1 4] ∧ va_P D classes w H ∧ va_D A w := ⟨_, rfl, hP, hD⟩
  subst hws_
  refine lv_aload_n hx hb dX6_init_27 rfl (lv_at hl 0 rfl) ?_
  refine lv_iconst (v := 4) hx hb dX6_init_28 (by decide) ?_
  refine va_newaT (atype := .int) (ty := .int) (a0 := (4, .inl (fun _ => 0))) hx hb (hg (Cond.arrayClass .int) m245) rfl ra_int hK hP hD hS hA 1 rfl (fun _ => rfl) (by decide) (by decide) (Nat.le_of_ble_eq_true rfl) (Nat.le_of_ble_eq_true rfl) (Nat.le_of_ble_eq_true rfl) dX6_init_29 (fun q_4 H hP hD hS => ?_)
  refine W.widen (k := 4) (n := 1211) (Nat.le_of_ble_eq_true rfl) (Nat.le_of_ble_eq_true rfl) ?_
  refine va_putF (D := D) (ci := 6) (v := .ref q_4) (ty := (.array .int)) (C := RX6) (T := TX6) (N := 17) hx hb hg iX6 tyX6 tyX6_ok nmX6 hown hK hP hD hS 0 rfl rfl 3 (by decide) (hg (Cond.fieldLink RX6 21 "SlabWalk$Paving" "least" "[I") m166) (fun _ h9 => h9) rfl hin rfl (by decide +kernel) rfl rfl (Nat.le_of_ble_eq_true rfl) dX6_init_31 (fun H locs hP hD hS => ?_)
  obtain ⟨ws_, hws_, hP, hD⟩ : ∃ w : va_W, w = [(h0, .inr (6, [vrf_ q_1, vrf_ q_2, vrf_ q_3, vrf_ q_4, vnl_, vnl_, vnl_, vnl_, vnl_, vi0_, vi0_, vi0_, vi0_, vi0_, vi0_, vi0_, vi0_])), vaz_ q_1 k.2.1 3, vaz_ q_2 k.2.1 1200, vaz_ q_3 k.2.1 4, vaz_ q_4 k.2.1 4] ∧ va_P D classes w H ∧ va_D A w := ⟨_, rfl, hP, hD⟩
  subst hws_
  refine lv_aload_n hx hb dX6_init_34 rfl (lv_at hl 0 rfl) ?_
  refine lv_iconst (v := 4) hx hb dX6_init_35 (by decide) ?_
  refine va_newaT (atype := .int) (ty := .int) (a0 := (4, .inl (fun _ => 0))) hx hb (hg (Cond.arrayClass .int) m245) rfl ra_int hK hP hD hS hA 1 rfl (fun _ => rfl) (by decide) (by decide) (Nat.le_of_ble_eq_true rfl) (Nat.le_of_ble_eq_true rfl) (Nat.le_of_ble_eq_true rfl) dX6_init_36 (fun q_5 H hP hD hS => ?_)
  refine W.widen (k := 5) (n := 1215) (Nat.le_of_ble_eq_true rfl) (Nat.le_of_ble_eq_true rfl) ?_
  refine va_putF (D := D) (ci := 6) (v := .ref q_5) (ty := (.array .int)) (C := RX6) (T := TX6) (N := 17) hx hb hg iX6 tyX6 tyX6_ok nmX6 hown hK hP hD hS 0 rfl rfl 4 (by decide) (hg (Cond.fieldLink RX6 24 "SlabWalk$Paving" "most" "[I") m170) (fun _ h9 => h9) rfl hin rfl (by decide +kernel) rfl rfl (Nat.le_of_ble_eq_true rfl) dX6_init_38 (fun H locs hP hD hS => ?_)
  obtain ⟨ws_, hws_, hP, hD⟩ : ∃ w : va_W, w = [(h0, .inr (6, [vrf_ q_1, vrf_ q_2, vrf_ q_3, vrf_ q_4, vrf_ q_5, vnl_, vnl_, vnl_, vnl_, vi0_, vi0_, vi0_, vi0_, vi0_, vi0_, vi0_, vi0_])), vaz_ q_1 k.2.1 3, vaz_ q_2 k.2.1 1200, vaz_ q_3 k.2.1 4, vaz_ q_4 k.2.1 4, vaz_ q_5 k.2.1 4] ∧ va_P D classes w H ∧ va_D A w := ⟨_, rfl, hP, hD⟩
  subst hws_
  refine lv_aload_n hx hb dX6_init_41 rfl (lv_at hl 0 rfl) ?_
  refine lv_iconst (v := 4) hx hb dX6_init_42 (by decide) ?_
  refine va_newaT (atype := .int) (ty := .int) (a0 := (4, .inl (fun _ => 0))) hx hb (hg (Cond.arrayClass .int) m245) rfl ra_int hK hP hD hS hA 1 rfl (fun _ => rfl) (by decide) (by decide) (Nat.le_of_ble_eq_true rfl) (Nat.le_of_ble_eq_true rfl) (Nat.le_of_ble_eq_true rfl) dX6_init_43 (fun q_6 H hP hD hS => ?_)
  refine W.widen (k := 6) (n := 1219) (Nat.le_of_ble_eq_true rfl) (Nat.le_of_ble_eq_true rfl) ?_
  refine va_putF (D := D) (ci := 6) (v := .ref q_6) (ty := (.array .int)) (C := RX6) (T := TX6) (N := 17) hx hb hg iX6 tyX6 tyX6_ok nmX6 hown hK hP hD hS 0 rfl rfl 5 (by decide) (hg (Cond.fieldLink RX6 27 "SlabWalk$Paving" "leap" "[I") m174) (fun _ h9 => h9) rfl hin rfl (by decide +kernel) rfl rfl (Nat.le_of_ble_eq_true rfl) dX6_init_45 (fun H locs hP hD hS => ?_)
  obtain ⟨ws_, hws_, hP, hD⟩ : ∃ w : va_W, w = [(h0, .inr (6, [vrf_ q_1, vrf_ q_2, vrf_ q_3, vrf_ q_4, vrf_ q_5, vrf_ q_6, vnl_, vnl_, vnl_, vi0_, vi0_, vi0_, vi0_, vi0_, vi0_, vi0_, vi0_])), vaz_ q_1 k.2.1 3, vaz_ q_2 k.2.1 1200, vaz_ q_3 k.2.1 4, vaz_ q_4 k.2.1 4, vaz_ q_5 k.2.1 4, vaz_ q_6 k.2.1 4] ∧ va_P D classes w H ∧ va_D A w := ⟨_, rfl, hP, hD⟩
  subst hws_
  refine lv_aload_n hx hb dX6_init_48 rfl (lv_at hl 0 rfl) ?_
  refine lv_iconst (v := 3) hx hb dX6_init_49 (by decide) ?_
  refine va_newaT (atype := .int) (ty := .int) (a0 := (3, .inl (fun _ => 0))) hx hb (hg (Cond.arrayClass .int) m245) rfl ra_int hK hP hD hS hA 1 rfl (fun _ => rfl) (by decide) (by decide) (Nat.le_of_ble_eq_true rfl) (Nat.le_of_ble_eq_true rfl) (Nat.le_of_ble_eq_true rfl) dX6_init_50 (fun q_7 H hP hD hS => ?_)
  refine W.widen (k := 7) (n := 1222) (Nat.le_of_ble_eq_true rfl) (Nat.le_of_ble_eq_true rfl) ?_
  refine va_putF (D := D) (ci := 6) (v := .ref q_7) (ty := (.array .int)) (C := RX6) (T := TX6) (N := 17) hx hb hg iX6 tyX6 tyX6_ok nmX6 hown hK hP hD hS 0 rfl rfl 6 (by decide) (hg (Cond.fieldLink RX6 30 "SlabWalk$Paving" "slip" "[I") m178) (fun _ h9 => h9) rfl hin rfl (by decide +kernel) rfl rfl (Nat.le_of_ble_eq_true rfl) dX6_init_52 (fun H locs hP hD hS => ?_)
  obtain ⟨ws_, hws_, hP, hD⟩ : ∃ w : va_W, w = [(h0, .inr (6, [vrf_ q_1, vrf_ q_2, vrf_ q_3, vrf_ q_4, vrf_ q_5, vrf_ q_6, vrf_ q_7, vnl_, vnl_, vi0_, vi0_, vi0_, vi0_, vi0_, vi0_, vi0_, vi0_])), vaz_ q_1 k.2.1 3, vaz_ q_2 k.2.1 1200, vaz_ q_3 k.2.1 4, vaz_ q_4 k.2.1 4, vaz_ q_5 k.2.1 4, vaz_ q_6 k.2.1 4, vaz_ q_7 k.2.1 3] ∧ va_P D classes w H ∧ va_D A w := ⟨_, rfl, hP, hD⟩
  subst hws_
  refine lv_aload_n hx hb dX6_init_55 rfl (lv_at hl 0 rfl) ?_
  refine lv_sipush (v := 580) hx hb dX6_init_56 (by decide) ?_
  refine va_newaT (atype := .int) (ty := .int) (a0 := (580, .inl (fun _ => 0))) hx hb (hg (Cond.arrayClass .int) m245) rfl ra_int hK hP hD hS hA 1 rfl (fun _ => rfl) (by decide) (by decide) (Nat.le_of_ble_eq_true rfl) (Nat.le_of_ble_eq_true rfl) (Nat.le_of_ble_eq_true rfl) dX6_init_59 (fun q_8 H hP hD hS => ?_)
  refine W.widen (k := 8) (n := 1802) (Nat.le_of_ble_eq_true rfl) (Nat.le_of_ble_eq_true rfl) ?_
  refine va_putF (D := D) (ci := 6) (v := .ref q_8) (ty := (.array .int)) (C := RX6) (T := TX6) (N := 17) hx hb hg iX6 tyX6 tyX6_ok nmX6 hown hK hP hD hS 0 rfl rfl 7 (by decide) (hg (Cond.fieldLink RX6 33 "SlabWalk$Paving" "code" "[I") m181) (fun _ h9 => h9) rfl hin rfl (by decide +kernel) rfl rfl (Nat.le_of_ble_eq_true rfl) dX6_init_61 (fun H locs hP hD hS => ?_)
  obtain ⟨ws_, hws_, hP, hD⟩ : ∃ w : va_W, w = [(h0, .inr (6, [vrf_ q_1, vrf_ q_2, vrf_ q_3, vrf_ q_4, vrf_ q_5, vrf_ q_6, vrf_ q_7, vrf_ q_8, vnl_, vi0_, vi0_, vi0_, vi0_, vi0_, vi0_, vi0_, vi0_])), vaz_ q_1 k.2.1 3, vaz_ q_2 k.2.1 1200, vaz_ q_3 k.2.1 4, vaz_ q_4 k.2.1 4, vaz_ q_5 k.2.1 4, vaz_ q_6 k.2.1 4, vaz_ q_7 k.2.1 3, vaz_ q_8 k.2.1 580] ∧ va_P D classes w H ∧ va_D A w := ⟨_, rfl, hP, hD⟩
  subst hws_
  refine lv_aload_n hx hb dX6_init_64 rfl (lv_at hl 0 rfl) ?_
  refine lv_bipush (v := 7) hx hb dX6_init_65 (by decide) ?_
  refine va_newaT (atype := .int) (ty := .int) (a0 := (7, .inl (fun _ => 0))) hx hb (hg (Cond.arrayClass .int) m245) rfl ra_int hK hP hD hS hA 1 rfl (fun _ => rfl) (by decide) (by decide) (Nat.le_of_ble_eq_true rfl) (Nat.le_of_ble_eq_true rfl) (Nat.le_of_ble_eq_true rfl) dX6_init_67 (fun q_9 H hP hD hS => ?_)
  refine W.widen (k := 9) (n := 1809) (Nat.le_of_ble_eq_true rfl) (Nat.le_of_ble_eq_true rfl) ?_
  refine va_putF (D := D) (ci := 6) (v := .ref q_9) (ty := (.array .int)) (C := RX6) (T := TX6) (N := 17) hx hb hg iX6 tyX6 tyX6_ok nmX6 hown hK hP hD hS 0 rfl rfl 8 (by decide) (hg (Cond.fieldLink RX6 36 "SlabWalk$Paving" "codeEnd" "[I") m183) (fun _ h9 => h9) rfl hin rfl (by decide +kernel) rfl rfl (Nat.le_of_ble_eq_true rfl) dX6_init_69 (fun H locs hP hD hS => ?_)
  obtain ⟨ws_, hws_, hP, hD⟩ : ∃ w : va_W, w = [(h0, .inr (6, [vrf_ q_1, vrf_ q_2, vrf_ q_3, vrf_ q_4, vrf_ q_5, vrf_ q_6, vrf_ q_7, vrf_ q_8, vrf_ q_9, vi0_, vi0_, vi0_, vi0_, vi0_, vi0_, vi0_, vi0_])), vaz_ q_1 k.2.1 3, vaz_ q_2 k.2.1 1200, vaz_ q_3 k.2.1 4, vaz_ q_4 k.2.1 4, vaz_ q_5 k.2.1 4, vaz_ q_6 k.2.1 4, vaz_ q_7 k.2.1 3, vaz_ q_8 k.2.1 580, vaz_ q_9 k.2.1 7] ∧ va_P D classes w H ∧ va_D A w := ⟨_, rfl, hP, hD⟩
  subst hws_
  refine lv_aload_n hx hb dX6_init_72 rfl (lv_at hl 0 rfl) ?_
  have hPc := hP.sub (ws' := [(h0, .inr (6, [vrf_ q_1, vrf_ q_2, vrf_ q_3, vrf_ q_4, vrf_ q_5, vrf_ q_6, vrf_ q_7, vrf_ q_8, vrf_ q_9, vi0_, vi0_, vi0_, vi0_, vi0_, vi0_, vi0_, vi0_])), vaz_ q_7 k.2.1 3]) [0, 7] rfl
  have hDc := hD.sub (ws' := [(h0, .inr (6, [vrf_ q_1, vrf_ q_2, vrf_ q_3, vrf_ q_4, vrf_ q_5, vrf_ q_6, vrf_ q_7, vrf_ q_8, vrf_ q_9, vi0_, vi0_, vi0_, vi0_, vi0_, vi0_, vi0_, vi0_])), vaz_ q_7 k.2.1 3]) [0, 7] (by decide +kernel) rfl
  have hFc := va_free (wc := [(h0, .inr (6, [vrf_ q_1, vrf_ q_2, vrf_ q_3, vrf_ q_4, vrf_ q_5, vrf_ q_6, vrf_ q_7, vrf_ q_8, vrf_ q_9, vi0_, vi0_, vi0_, vi0_, vi0_, vi0_, vi0_, vi0_])), vaz_ q_7 k.2.1 3]) hD hS hA [0, 7] rfl
  refine va_callv (va_runV (As := []) (rest := []) ⟨hx, hb, hml, hown, hts⟩ (q_empty l D k H.size h0 q_1 q_2 q_3 q_4 q_5 q_6 q_7 q_8 q_9 0 0 0 0 0 0 0 0 (fun _ => 0)) (cwV 0 hts (gd_V hgd m152 m153 m154 m118 m155) rfl rfl rfl hd_X6_empty ⟨Nat.le_of_ble_eq_true rfl, Nat.le_of_ble_eq_true rfl⟩) (cQ_V hPc hKX hDc (ci := 6) (q0 := 0) rfl rfl) rfl rfl hl.1 rfl (lv_room (Nat.le_of_ble_eq_true rfl)) dX6_init_73 ⟨Nat.le_of_ble_eq_true rfl, Nat.le_of_ble_eq_true rfl⟩) hS (fun q _ h => hFc q h) hFc (fun u t H1 locs ht hvm hw hB hz1 hk1 hS => ?_)
  obtain ⟨hP1, hD1⟩ := hB
  rw [ht] at hP1
  obtain ⟨hP, hD⟩ := va_join (wr := [vaz_ q_1 k.2.1 3, vaz_ q_2 k.2.1 1200, vaz_ q_3 k.2.1 4, vaz_ q_4 k.2.1 4, vaz_ q_5 k.2.1 4, vaz_ q_6 k.2.1 4, vaz_ q_8 k.2.1 580, vaz_ q_9 k.2.1 7]) (w1 := [(h0, .inr (6, [vrf_ q_1, vrf_ q_2, vrf_ q_3, vrf_ q_4, vrf_ q_5, vrf_ q_6, vrf_ q_7, vrf_ q_8, vrf_ q_9, vi0_, vi0_, vi0_, vi0_, vi0_, .int 30, .int 10, vi0_])), (q_7, .inl (k.2.1, 3, .inl (upd (upd (upd (fun _ => 0) 0 0) 1 1) 2 0)))]) hP hD [0, 7] [1, 2, 3, 4, 5, 6, 8, 9] rfl rfl (by decide +kernel) (by decide +kernel) hk1 hFc hP1 hD1
  generalize H1 = H at hP hS ⊢
  obtain ⟨ws_, hws_, hP, hD⟩ : ∃ w : va_W, w = [vaz_ q_1 k.2.1 3, vaz_ q_2 k.2.1 1200, vaz_ q_3 k.2.1 4, vaz_ q_4 k.2.1 4, vaz_ q_5 k.2.1 4, vaz_ q_6 k.2.1 4, vaz_ q_8 k.2.1 580, vaz_ q_9 k.2.1 7, (h0, .inr (6, [vrf_ q_1, vrf_ q_2, vrf_ q_3, vrf_ q_4, vrf_ q_5, vrf_ q_6, vrf_ q_7, vrf_ q_8, vrf_ q_9, vi0_, vi0_, vi0_, vi0_, vi0_, .int 30, .int 10, vi0_])), (q_7, .inl (k.2.1, 3, .inl (upd (upd (upd (fun _ => 0) 0 0) 1 1) 2 0)))] ∧ va_P D classes w H ∧ va_D A w := ⟨_, rfl, hP, hD⟩
  subst hws_
  refine W.widen (k := 9) (n := 1809) (Nat.le_of_ble_eq_true rfl) (Nat.le_of_ble_eq_true rfl) ?_
  exact W.vret hx hb hr (fun t ht hW => ⟨⟨(), rfl, trivial, ⟨q_1, q_2, q_3, q_4, q_5, q_6, q_8, q_9, q_7, cB_of ht hP hD⟩⟩, hS.F ht⟩) hS.2.2 dX6_init_76

set_option maxHeartbeats 4000000 in
set_option maxRecDepth 100000 in
theorem q_X9 (l : Launch) (D : va_G) (k : KT) (sz : Nat) (h0 h1 : Nat)  : Met l yX9_init (WS yX9_init cX9_init 2 none) ({ frames := 1, cells := 0, slots := 0, locals := 12 }) (va_Pc [.ref h0, .ref h1] (cQ D k [(h0, .inr (9, [vnl_, vi0_, vi0_, vi0_, vi0_, vi0_, vl0_, vi0_, vi0_]))] sz)) (va_Qv (fun _ : Unit => True) (fun (_ : Unit) t => cB D (va_A [(h0, .inr (9, [vnl_, vi0_, vi0_, vi0_, vi0_, vi0_, vl0_, vi0_, vi0_]))] sz) [(h0, .inr (9, [vrf_ h1, vi0_, vi0_, vi0_, vi0_, vi0_, vl0_, vi0_, .int (-1)]))] t) (va_A [(h0, .inr (9, [vnl_, vi0_, vi0_, vi0_, vi0_, vi0_, vl0_, vi0_, vi0_]))] sz)) 0 0 (va_A [(h0, .inr (9, [vnl_, vi0_, vi0_, vi0_, vi0_, vi0_, vl0_, vi0_, vi0_]))] sz) := by
  refine Met.ofW (cc := cX9_init) (maxL := 2) (ret := none) (by decide) rfl ?_
  intro p e s m args below meth c s₁ B hml hv
  obtain ⟨rfl, hsz, hP, hKX, hD0⟩ := hv
  have hK := hKX.1
  have hx := B.exec
  have hb := B.bytes
  have hr := B.returns
  have hts := atoms_spec (ws := WS yX9_init cX9_init 2 none) B.pre
  have hgd : ∀ w ∈ gd, w ∈ WS yX9_init cX9_init 2 none := fun w h => List.mem_cons_of_mem _ h
  have hg : ∀ w ∈ gd, w.before _ s = true := fun w h => hts w (hgd w h)
  have hown : s.vm.findClass RX9 = some m.cls := findClass_of_methodNamed B.named
  have hlocks := B.notSynchronized
  have hin : meth.name = "<init>" := (name_of_methodNamed B.named B.method).1
  subst hsz
  have hD := hD0.self (sz := s.heap.size)
  generalize hAe : va_A [(h0, .inr (9, [vnl_, vi0_, vi0_, vi0_, vi0_, vi0_, vl0_, vi0_, vi0_]))] s.heap.size = A at hD ⊢
  have hA : ∀ q : Nat, s.heap.size ≤ q → A q := fun q h => by rw [← hAe]; exact Or.inr h
  have hS : va_S A s.heap s.heap [] := va_S.rf
  have hP : va_P D classes [(h0, .inr (9, [vnl_, vi0_, vi0_, vi0_, vi0_, vi0_, vl0_, vi0_, vi0_]))] s.heap := hP
  have hl := lv_entry ([.ref h0, .ref h1]) (n := 2) (Nat.le_of_ble_eq_true rfl)
  rw [lg_entry_eq]
  generalize (lg_sl ([.ref h0, .ref h1]) ++ List.replicate (2 - (lg_sl ([.ref h0, .ref h1])).length) Slot.unset).toArray = ls at hl ⊢
  have hl : lv_has ls 2 [(0, .ref h0), (1, .ref h1)] := hl
  refine lv_aload_n hx hb dX9_init_0 rfl (lv_at hl 0 rfl) ?_
  refine W.objInit hx hb hown (hg (Cond.methodLink RX9 3 objectInit) m257) (hg (Cond.instanceMethod objectInit) m144) (hg (Cond.code objectInit ⟨#[0xb1]⟩ 1 none) m145) rfl (by rw [hml]; exact hl.1) rfl dX9_init_1 (Nat.le_of_ble_eq_true rfl) (Nat.le_of_ble_eq_true rfl) ?_
  refine W.eq (g2 := F0 m 4 ls []) rfl ?_
  refine lv_aload_n hx hb dX9_init_4 rfl (lv_at hl 0 rfl) ?_
  refine lv_iconst (v := (-1)) hx hb dX9_init_5 (by decide) ?_
  refine va_put (D := D) (ci := 9) (v := .int (-1)) (ty := .int) (C := RX9) (T := TX9) (N := 9) hx hb hg iX9 tyX9 tyX9_ok nmX9 hown hK hP hD hS 0 rfl rfl 8 (by decide) (hg (Cond.fieldLink RX9 9 "SlabWalk$Tokens" "faultPlace" "I") m272) (fun _ h9 => h9) rfl (by decide +kernel) rfl rfl (Nat.le_of_ble_eq_true rfl) dX9_init_6 (fun H locs hP hD hS => ?_)
  obtain ⟨ws_, hws_, hP, hD⟩ : ∃ w : va_W, w = [(h0, .inr (9, [vnl_, vi0_, vi0_, vi0_, vi0_, vi0_, vl0_, vi0_, .int (-1)]))] ∧ va_P D classes w H ∧ va_D A w := ⟨_, rfl, hP, hD⟩
  subst hws_
  refine lv_aload_n hx hb dX9_init_9 rfl (lv_at hl 0 rfl) ?_
  refine lv_aload_n hx hb dX9_init_10 rfl (lv_at hl 1 rfl) ?_
  refine va_putF (D := D) (ci := 9) (v := .ref h1) (ty := (.array .byte)) (C := RX9) (T := TX9) (N := 9) hx hb hg iX9 tyX9 tyX9_ok nmX9 hown hK hP hD hS 0 rfl rfl 0 (by decide) (hg (Cond.fieldLink RX9 15 "SlabWalk$Tokens" "text" "[B") m258) (fun _ h9 => h9) rfl hin rfl (by decide +kernel) rfl rfl (Nat.le_of_ble_eq_true rfl) dX9_init_11 (fun H locs hP hD hS => ?_)
  obtain ⟨ws_, hws_, hP, hD⟩ : ∃ w : va_W, w = [(h0, .inr (9, [vrf_ h1, vi0_, vi0_, vi0_, vi0_, vi0_, vl0_, vi0_, .int (-1)]))] ∧ va_P D classes w H ∧ va_D A w := ⟨_, rfl, hP, hD⟩
  subst hws_
  exact W.vret hx hb hr (fun t ht hW => ⟨⟨(), rfl, trivial, cB_of ht hP hD⟩, hS.F ht⟩) hS.2.2 dX9_init_14

set_option maxHeartbeats 4000000 in
set_option maxRecDepth 100000 in
theorem q_X2 (l : Launch) (D : va_G) (k : KT) (sz : Nat) (h0 h1 h2 : Nat)  : Met l yX2_init (WS yX2_init cX2_init 3 none) ({ frames := 1, cells := 0, slots := 0, locals := 12 }) (va_Pc [.ref h0, .ref h1, .ref h2] (cQ D k [(h0, .inr (2, [vnl_, vnl_, vi0_]))] sz)) (va_Qv (fun _ : Unit => True) (fun (_ : Unit) t => cB D (va_A [(h0, .inr (2, [vnl_, vnl_, vi0_]))] sz) [(h0, .inr (2, [vrf_ h1, vrf_ h2, vi0_]))] t) (va_A [(h0, .inr (2, [vnl_, vnl_, vi0_]))] sz)) 0 0 (va_A [(h0, .inr (2, [vnl_, vnl_, vi0_]))] sz) := by
  refine Met.ofW (cc := cX2_init) (maxL := 3) (ret := none) (by decide) rfl ?_
  intro p e s m args below meth c s₁ B hml hv
  obtain ⟨rfl, hsz, hP, hKX, hD0⟩ := hv
  have hK := hKX.1
  have hx := B.exec
  have hb := B.bytes
  have hr := B.returns
  have hts := atoms_spec (ws := WS yX2_init cX2_init 3 none) B.pre
  have hgd : ∀ w ∈ gd, w ∈ WS yX2_init cX2_init 3 none := fun w h => List.mem_cons_of_mem _ h
  have hg : ∀ w ∈ gd, w.before _ s = true := fun w h => hts w (hgd w h)
  have hown : s.vm.findClass RX2 = some m.cls := findClass_of_methodNamed B.named
  have hlocks := B.notSynchronized
  have hin : meth.name = "<init>" := (name_of_methodNamed B.named B.method).1
  subst hsz
  have hD := hD0.self (sz := s.heap.size)
  generalize hAe : va_A [(h0, .inr (2, [vnl_, vnl_, vi0_]))] s.heap.size = A at hD ⊢
  have hA : ∀ q : Nat, s.heap.size ≤ q → A q := fun q h => by rw [← hAe]; exact Or.inr h
  have hS : va_S A s.heap s.heap [] := va_S.rf
  have hP : va_P D classes [(h0, .inr (2, [vnl_, vnl_, vi0_]))] s.heap := hP
  have hl := lv_entry ([.ref h0, .ref h1, .ref h2]) (n := 3) (Nat.le_of_ble_eq_true rfl)
  rw [lg_entry_eq]
  generalize (lg_sl ([.ref h0, .ref h1, .ref h2]) ++ List.replicate (3 - (lg_sl ([.ref h0, .ref h1, .ref h2])).length) Slot.unset).toArray = ls at hl ⊢
  have hl : lv_has ls 3 [(0, .ref h0), (1, .ref h1), (2, .ref h2)] := hl
  refine lv_aload_n hx hb dX2_init_0 rfl (lv_at hl 0 rfl) ?_
  refine W.objInit hx hb hown (hg (Cond.methodLink RX2 3 objectInit) m300) (hg (Cond.instanceMethod objectInit) m144) (hg (Cond.code objectInit ⟨#[0xb1]⟩ 1 none) m145) rfl (by rw [hml]; exact hl.1) rfl dX2_init_1 (Nat.le_of_ble_eq_true rfl) (Nat.le_of_ble_eq_true rfl) ?_
  refine W.eq (g2 := F0 m 4 ls []) rfl ?_
  refine lv_aload_n hx hb dX2_init_4 rfl (lv_at hl 0 rfl) ?_
  refine lv_aload_n hx hb dX2_init_5 rfl (lv_at hl 1 rfl) ?_
  refine va_putF (D := D) (ci := 2) (v := .ref h1) (ty := (.object "SlabWalk$Tokens")) (C := RX2) (T := TX2) (N := 3) hx hb hg iX2 tyX2 tyX2_ok nmX2 hown hK hP hD hS 0 rfl rfl 0 (by decide) (hg (Cond.fieldLink RX2 9 "SlabWalk$Formulas" "tokens" "LSlabWalk$Tokens;") m301) (fun _ h9 => h9) rfl hin rfl (by decide +kernel) rfl rfl (Nat.le_of_ble_eq_true rfl) dX2_init_6 (fun H locs hP hD hS => ?_)
  obtain ⟨ws_, hws_, hP, hD⟩ : ∃ w : va_W, w = [(h0, .inr (2, [vrf_ h1, vnl_, vi0_]))] ∧ va_P D classes w H ∧ va_D A w := ⟨_, rfl, hP, hD⟩
  subst hws_
  refine lv_aload_n hx hb dX2_init_9 rfl (lv_at hl 0 rfl) ?_
  refine lv_aload_n hx hb dX2_init_10 rfl (lv_at hl 2 rfl) ?_
  refine va_put (D := D) (ci := 2) (v := .ref h2) (ty := (.object "SlabWalk$Paving")) (C := RX2) (T := TX2) (N := 3) hx hb hg iX2 tyX2 tyX2_ok nmX2 hown hK hP hD hS 0 rfl rfl 1 (by decide) (hg (Cond.fieldLink RX2 15 "SlabWalk$Formulas" "paving" "LSlabWalk$Paving;") m302) (fun _ h9 => h9) rfl (by decide +kernel) rfl rfl (Nat.le_of_ble_eq_true rfl) dX2_init_11 (fun H locs hP hD hS => ?_)
  obtain ⟨ws_, hws_, hP, hD⟩ : ∃ w : va_W, w = [(h0, .inr (2, [vrf_ h1, vrf_ h2, vi0_]))] ∧ va_P D classes w H ∧ va_D A w := ⟨_, rfl, hP, hD⟩
  subst hws_
  exact W.vret hx hb hr (fun t ht hW => ⟨⟨(), rfl, trivial, cB_of ht hP hD⟩, hS.F ht⟩) hS.2.2 dX2_init_14

set_option maxHeartbeats 4000000 in
set_option maxRecDepth 100000 in
theorem q_X7 (l : Launch) (D : va_G) (k : KT) (sz : Nat) (h0 h1 h2 : Nat)  : Met l yX7_init (WS yX7_init cX7_init 3 none) ({ frames := 2, cells := 5, slots := 25, locals := 34 }) (va_Pc [.ref h0, .ref h1, .ref h2] (cQ D k [(h0, .inr (7, [vnl_, vnl_, vnl_, vnl_, vnl_, vnl_, vi0_, vi0_, vi0_, vi0_]))] sz)) (va_Qv (fun _ : Unit => True) (fun (_ : Unit) t => ∃ (q_4 : Nat), ∃ (q_5 : Nat), ∃ (q_1 : Nat), ∃ (q_2 : Nat), ∃ (q_3 : Nat), cB D (va_A [(h0, .inr (7, [vnl_, vnl_, vnl_, vnl_, vnl_, vnl_, vi0_, vi0_, vi0_, vi0_]))] sz) [(h0, .inr (7, [vrf_ q_4, vrf_ q_5, vrf_ q_1, vrf_ q_2, vrf_ q_3, vrf_ h2, vi0_, vi0_, vi0_, vi0_])), vazl_ q_1 k.2.2.1 3, vazl_ q_2 k.2.2.1 4, vazl_ q_3 k.2.2.1 6, (q_4, .inr (9, [vrf_ h1, vi0_, vi0_, vi0_, vi0_, vi0_, vl0_, vi0_, .int (-1)])), (q_5, .inr (2, [vrf_ q_4, vrf_ h2, vi0_]))] t) (va_A [(h0, .inr (7, [vnl_, vnl_, vnl_, vnl_, vnl_, vnl_, vi0_, vi0_, vi0_, vi0_]))] sz)) 5 25 (va_A [(h0, .inr (7, [vnl_, vnl_, vnl_, vnl_, vnl_, vnl_, vi0_, vi0_, vi0_, vi0_]))] sz) := by
  refine Met.ofW (cc := cX7_init) (maxL := 3) (ret := none) (by decide) rfl ?_
  intro p e s m args below meth c s₁ B hml hv
  obtain ⟨rfl, hsz, hP, hKX, hD0⟩ := hv
  have hK := hKX.1
  have hx := B.exec
  have hb := B.bytes
  have hr := B.returns
  have hts := atoms_spec (ws := WS yX7_init cX7_init 3 none) B.pre
  have hgd : ∀ w ∈ gd, w ∈ WS yX7_init cX7_init 3 none := fun w h => List.mem_cons_of_mem _ h
  have hg : ∀ w ∈ gd, w.before _ s = true := fun w h => hts w (hgd w h)
  have hown : s.vm.findClass RX7 = some m.cls := findClass_of_methodNamed B.named
  have hlocks := B.notSynchronized
  have hin : meth.name = "<init>" := (name_of_methodNamed B.named B.method).1
  subst hsz
  have hD := hD0.self (sz := s.heap.size)
  generalize hAe : va_A [(h0, .inr (7, [vnl_, vnl_, vnl_, vnl_, vnl_, vnl_, vi0_, vi0_, vi0_, vi0_]))] s.heap.size = A at hD ⊢
  have hA : ∀ q : Nat, s.heap.size ≤ q → A q := fun q h => by rw [← hAe]; exact Or.inr h
  have hS : va_S A s.heap s.heap [] := va_S.rf
  have hP : va_P D classes [(h0, .inr (7, [vnl_, vnl_, vnl_, vnl_, vnl_, vnl_, vi0_, vi0_, vi0_, vi0_]))] s.heap := hP
  have hl := lv_entry ([.ref h0, .ref h1, .ref h2]) (n := 3) (Nat.le_of_ble_eq_true rfl)
  rw [lg_entry_eq]
  generalize (lg_sl ([.ref h0, .ref h1, .ref h2]) ++ List.replicate (3 - (lg_sl ([.ref h0, .ref h1, .ref h2])).length) Slot.unset).toArray = ls at hl ⊢
  have hl : lv_has ls 3 [(0, .ref h0), (1, .ref h1), (2, .ref h2)] := hl
  refine lv_aload_n hx hb dX7_init_0 rfl (lv_at hl 0 rfl) ?_
  refine W.objInit hx hb hown (hg (Cond.methodLink RX7 3 objectInit) m251) (hg (Cond.instanceMethod objectInit) m144) (hg (Cond.code objectInit ⟨#[0xb1]⟩ 1 none) m145) rfl (by rw [hml]; exact hl.1) rfl dX7_init_1 (Nat.le_of_ble_eq_true rfl) (Nat.le_of_ble_eq_true rfl) ?_
  refine W.eq (g2 := F0 m 4 ls []) rfl ?_
  refine lv_aload_n hx hb dX7_init_4 rfl (lv_at hl 0 rfl) ?_
  refine lv_iconst (v := 3) hx hb dX7_init_5 (by decide) ?_
  refine va_newaT (atype := .long) (ty := .long) (a0 := (3, .inr (.inl (fun _ => 0)))) hx hb (hg (Cond.arrayClass .long) m294) rfl ra_long hK hP hD hS hA 2 rfl (fun _ => rfl) (by decide) (by decide) (Nat.le_of_ble_eq_true rfl) (Nat.le_of_ble_eq_true rfl) (Nat.le_of_ble_eq_true rfl) dX7_init_6 (fun q_1 H hP hD hS => ?_)
  refine W.widen (k := 1) (n := 3) (Nat.le_of_ble_eq_true rfl) (Nat.le_of_ble_eq_true rfl) ?_
  refine va_putF (D := D) (ci := 7) (v := .ref q_1) (ty := (.array .long)) (C := RX7) (T := TX7) (N := 10) hx hb hg iX7 tyX7 tyX7_ok nmX7 hown hK hP hD hS 0 rfl rfl 2 (by decide) (hg (Cond.fieldLink RX7 9 "SlabWalk$Reader" "streetNames" "[J") m314) (fun _ h9 => h9) rfl hin rfl (by decide +kernel) rfl rfl (Nat.le_of_ble_eq_true rfl) dX7_init_8 (fun H locs hP hD hS => ?_)
  obtain ⟨ws_, hws_, hP, hD⟩ : ∃ w : va_W, w = [(h0, .inr (7, [vnl_, vnl_, vrf_ q_1, vnl_, vnl_, vnl_, vi0_, vi0_, vi0_, vi0_])), vazl_ q_1 k.2.2.1 3] ∧ va_P D classes w H ∧ va_D A w := ⟨_, rfl, hP, hD⟩
  subst hws_
  refine lv_aload_n hx hb dX7_init_11 rfl (lv_at hl 0 rfl) ?_
  refine lv_iconst (v := 4) hx hb dX7_init_12 (by decide) ?_
  refine va_newaT (atype := .long) (ty := .long) (a0 := (4, .inr (.inl (fun _ => 0)))) hx hb (hg (Cond.arrayClass .long) m294) rfl ra_long hK hP hD hS hA 2 rfl (fun _ => rfl) (by decide) (by decide) (Nat.le_of_ble_eq_true rfl) (Nat.le_of_ble_eq_true rfl) (Nat.le_of_ble_eq_true rfl) dX7_init_13 (fun q_2 H hP hD hS => ?_)
  refine W.widen (k := 2) (n := 7) (Nat.le_of_ble_eq_true rfl) (Nat.le_of_ble_eq_true rfl) ?_
  refine va_putF (D := D) (ci := 7) (v := .ref q_2) (ty := (.array .long)) (C := RX7) (T := TX7) (N := 10) hx hb hg iX7 tyX7 tyX7_ok nmX7 hown hK hP hD hS 0 rfl rfl 3 (by decide) (hg (Cond.fieldLink RX7 15 "SlabWalk$Reader" "walkerNames" "[J") m315) (fun _ h9 => h9) rfl hin rfl (by decide +kernel) rfl rfl (Nat.le_of_ble_eq_true rfl) dX7_init_15 (fun H locs hP hD hS => ?_)
  obtain ⟨ws_, hws_, hP, hD⟩ : ∃ w : va_W, w = [(h0, .inr (7, [vnl_, vnl_, vrf_ q_1, vrf_ q_2, vnl_, vnl_, vi0_, vi0_, vi0_, vi0_])), vazl_ q_1 k.2.2.1 3, vazl_ q_2 k.2.2.1 4] ∧ va_P D classes w H ∧ va_D A w := ⟨_, rfl, hP, hD⟩
  subst hws_
  refine lv_aload_n hx hb dX7_init_18 rfl (lv_at hl 0 rfl) ?_
  refine lv_bipush (v := 6) hx hb dX7_init_19 (by decide) ?_
  refine va_newaT (atype := .long) (ty := .long) (a0 := (6, .inr (.inl (fun _ => 0)))) hx hb (hg (Cond.arrayClass .long) m294) rfl ra_long hK hP hD hS hA 2 rfl (fun _ => rfl) (by decide) (by decide) (Nat.le_of_ble_eq_true rfl) (Nat.le_of_ble_eq_true rfl) (Nat.le_of_ble_eq_true rfl) dX7_init_21 (fun q_3 H hP hD hS => ?_)
  refine W.widen (k := 3) (n := 13) (Nat.le_of_ble_eq_true rfl) (Nat.le_of_ble_eq_true rfl) ?_
  refine va_putF (D := D) (ci := 7) (v := .ref q_3) (ty := (.array .long)) (C := RX7) (T := TX7) (N := 10) hx hb hg iX7 tyX7 tyX7_ok nmX7 hown hK hP hD hS 0 rfl rfl 4 (by decide) (hg (Cond.fieldLink RX7 18 "SlabWalk$Reader" "ruleNames" "[J") m316) (fun _ h9 => h9) rfl hin rfl (by decide +kernel) rfl rfl (Nat.le_of_ble_eq_true rfl) dX7_init_23 (fun H locs hP hD hS => ?_)
  obtain ⟨ws_, hws_, hP, hD⟩ : ∃ w : va_W, w = [(h0, .inr (7, [vnl_, vnl_, vrf_ q_1, vrf_ q_2, vrf_ q_3, vnl_, vi0_, vi0_, vi0_, vi0_])), vazl_ q_1 k.2.2.1 3, vazl_ q_2 k.2.2.1 4, vazl_ q_3 k.2.2.1 6] ∧ va_P D classes w H ∧ va_D A w := ⟨_, rfl, hP, hD⟩
  subst hws_
  refine lv_aload_n hx hb dX7_init_26 rfl (lv_at hl 0 rfl) ?_
  refine va_new (ci := 9) (fs := [vnl_, vi0_, vi0_, vi0_, vi0_, vi0_, vl0_, vi0_, vi0_]) (C := RX9) (T := TX9) (N := 9) hx hb hg iX9 tyX9 tyX9_ok hown (hg (Cond.classLink RX7 21 RX9) m252) (hg (Cond.instantiable RX9 9) m253) (hg (Cond.initialized RX9) m120) hK hP hD hS hA rfl (by decide) (Nat.le_of_ble_eq_true rfl) (Nat.le_of_ble_eq_true rfl) dX7_init_27 (fun q_4 H hP hD hS => ?_)
  obtain ⟨ws_, hws_, hP, hD⟩ : ∃ w : va_W, w = [(h0, .inr (7, [vnl_, vnl_, vrf_ q_1, vrf_ q_2, vrf_ q_3, vnl_, vi0_, vi0_, vi0_, vi0_])), vazl_ q_1 k.2.2.1 3, vazl_ q_2 k.2.2.1 4, vazl_ q_3 k.2.2.1 6, (q_4, .inr (9, [vnl_, vi0_, vi0_, vi0_, vi0_, vi0_, vl0_, vi0_, vi0_]))] ∧ va_P D classes w H ∧ va_D A w := ⟨_, rfl, hP, hD⟩
  subst hws_
  refine W.widen (k := 4) (n := 22) (Nat.le_of_ble_eq_true rfl) (Nat.le_of_ble_eq_true rfl) ?_
  refine lv_dup hx hb dX7_init_30 rfl ?_
  refine lv_aload_n hx hb dX7_init_31 rfl (lv_at hl 1 rfl) ?_
  have hPc := hP.sub (ws' := [(q_4, .inr (9, [vnl_, vi0_, vi0_, vi0_, vi0_, vi0_, vl0_, vi0_, vi0_]))]) [4] rfl
  have hDc := hD.sub (ws' := [(q_4, .inr (9, [vnl_, vi0_, vi0_, vi0_, vi0_, vi0_, vl0_, vi0_, vi0_]))]) [4] (by decide +kernel) rfl
  have hFc := va_free (wc := [(q_4, .inr (9, [vnl_, vi0_, vi0_, vi0_, vi0_, vi0_, vl0_, vi0_, vi0_]))]) hD hS hA [4] rfl
  refine va_callv (va_runI (As := [.ref h1]) (rest := [.ref q_4, .ref h0]) ⟨hx, hb, hml, hown, hts⟩ (q_X9 l D k H.size q_4 h1) (cwI 1 hts (gd_in hgd (gd_WS m256)) rfl rfl rfl (hg (Cond.initialized RX9) m120) (hg (Cond.methodLink RX7 23 yX9_init) m254) (hg (Cond.instanceMethod yX9_init) m255) rfl (by decide +kernel) ⟨Nat.le_of_ble_eq_true rfl, Nat.le_of_ble_eq_true rfl⟩) (cQ_S hPc hKX hDc) rfl rfl hl.1 rfl (lv_room (Nat.le_of_ble_eq_true rfl)) dX7_init_32 ⟨Nat.le_of_ble_eq_true rfl, Nat.le_of_ble_eq_true rfl⟩) hS (fun q _ h => hFc q h) hFc (fun u t H1 locs ht hvm hw hB hz1 hk1 hS => ?_)
  obtain ⟨hP1, hD1⟩ := hB
  rw [ht] at hP1
  obtain ⟨hP, hD⟩ := va_join (wr := [(h0, .inr (7, [vnl_, vnl_, vrf_ q_1, vrf_ q_2, vrf_ q_3, vnl_, vi0_, vi0_, vi0_, vi0_])), vazl_ q_1 k.2.2.1 3, vazl_ q_2 k.2.2.1 4, vazl_ q_3 k.2.2.1 6]) (w1 := [(q_4, .inr (9, [vrf_ h1, vi0_, vi0_, vi0_, vi0_, vi0_, vl0_, vi0_, .int (-1)]))]) hP hD [4] [0, 1, 2, 3] rfl rfl (by decide +kernel) (by decide +kernel) hk1 hFc hP1 hD1
  generalize H1 = H at hP hS ⊢
  obtain ⟨ws_, hws_, hP, hD⟩ : ∃ w : va_W, w = [(h0, .inr (7, [vnl_, vnl_, vrf_ q_1, vrf_ q_2, vrf_ q_3, vnl_, vi0_, vi0_, vi0_, vi0_])), vazl_ q_1 k.2.2.1 3, vazl_ q_2 k.2.2.1 4, vazl_ q_3 k.2.2.1 6, (q_4, .inr (9, [vrf_ h1, vi0_, vi0_, vi0_, vi0_, vi0_, vl0_, vi0_, .int (-1)]))] ∧ va_P D classes w H ∧ va_D A w := ⟨_, rfl, hP, hD⟩
  subst hws_
  refine W.widen (k := 4) (n := 22) (Nat.le_of_ble_eq_true rfl) (Nat.le_of_ble_eq_true rfl) ?_
  refine va_putF (D := D) (ci := 7) (v := .ref q_4) (ty := (.object "SlabWalk$Tokens")) (C := RX7) (T := TX7) (N := 10) hx hb hg iX7 tyX7 tyX7_ok nmX7 hown hK hP hD hS 0 rfl rfl 0 (by decide) (hg (Cond.fieldLink RX7 26 "SlabWalk$Reader" "tokens" "LSlabWalk$Tokens;") m311) (fun _ h9 => h9) rfl hin rfl (by decide +kernel) rfl rfl (Nat.le_of_ble_eq_true rfl) dX7_init_35 (fun H locs hP hD hS => ?_)
  obtain ⟨ws_, hws_, hP, hD⟩ : ∃ w : va_W, w = [(h0, .inr (7, [vrf_ q_4, vnl_, vrf_ q_1, vrf_ q_2, vrf_ q_3, vnl_, vi0_, vi0_, vi0_, vi0_])), vazl_ q_1 k.2.2.1 3, vazl_ q_2 k.2.2.1 4, vazl_ q_3 k.2.2.1 6, (q_4, .inr (9, [vrf_ h1, vi0_, vi0_, vi0_, vi0_, vi0_, vl0_, vi0_, .int (-1)]))] ∧ va_P D classes w H ∧ va_D A w := ⟨_, rfl, hP, hD⟩
  subst hws_
  refine lv_aload_n hx hb dX7_init_38 rfl (lv_at hl 0 rfl) ?_
  refine va_new (ci := 2) (fs := [vnl_, vnl_, vi0_]) (C := RX2) (T := TX2) (N := 3) hx hb hg iX2 tyX2 tyX2_ok hown (hg (Cond.classLink RX7 30 RX2) m295) (hg (Cond.instantiable RX2 3) m296) (hg (Cond.initialized RX2) m121) hK hP hD hS hA rfl (by decide) (Nat.le_of_ble_eq_true rfl) (Nat.le_of_ble_eq_true rfl) dX7_init_39 (fun q_5 H hP hD hS => ?_)
  obtain ⟨ws_, hws_, hP, hD⟩ : ∃ w : va_W, w = [(h0, .inr (7, [vrf_ q_4, vnl_, vrf_ q_1, vrf_ q_2, vrf_ q_3, vnl_, vi0_, vi0_, vi0_, vi0_])), vazl_ q_1 k.2.2.1 3, vazl_ q_2 k.2.2.1 4, vazl_ q_3 k.2.2.1 6, (q_4, .inr (9, [vrf_ h1, vi0_, vi0_, vi0_, vi0_, vi0_, vl0_, vi0_, .int (-1)])), (q_5, .inr (2, [vnl_, vnl_, vi0_]))] ∧ va_P D classes w H ∧ va_D A w := ⟨_, rfl, hP, hD⟩
  subst hws_
  refine W.widen (k := 5) (n := 25) (Nat.le_of_ble_eq_true rfl) (Nat.le_of_ble_eq_true rfl) ?_
  refine lv_dup hx hb dX7_init_42 rfl ?_
  refine lv_aload_n hx hb dX7_init_43 rfl (lv_at hl 0 rfl) ?_
  refine va_get (D := D) (ci := 7) (v := .ref q_4) (C := RX7) (T := TX7) (N := 10) hx hb hg iX7 hown hK hP 0 rfl rfl 0 (by decide) (hg (Cond.fieldLink RX7 26 "SlabWalk$Reader" "tokens" "LSlabWalk$Tokens;") m311) (fun _ h9 => h9) rfl dX7_init_44 ?_
  refine lv_aload_n hx hb dX7_init_47 rfl (lv_at hl 2 rfl) ?_
  have hPc := hP.sub (ws' := [(q_5, .inr (2, [vnl_, vnl_, vi0_]))]) [5] rfl
  have hDc := hD.sub (ws' := [(q_5, .inr (2, [vnl_, vnl_, vi0_]))]) [5] (by decide +kernel) rfl
  have hFc := va_free (wc := [(q_5, .inr (2, [vnl_, vnl_, vi0_]))]) hD hS hA [5] rfl
  refine va_callv (va_runI (As := [.ref q_4, .ref h2]) (rest := [.ref q_5, .ref h0]) ⟨hx, hb, hml, hown, hts⟩ (q_X2 l D k H.size q_5 q_4 h2) (cwI 2 hts (gd_in hgd (gd_WS m299)) rfl rfl rfl (hg (Cond.initialized RX2) m121) (hg (Cond.methodLink RX7 32 yX2_init) m297) (hg (Cond.instanceMethod yX2_init) m298) rfl (by decide +kernel) ⟨Nat.le_of_ble_eq_true rfl, Nat.le_of_ble_eq_true rfl⟩) (cQ_S hPc hKX hDc) rfl rfl hl.1 rfl (lv_room (Nat.le_of_ble_eq_true rfl)) dX7_init_48 ⟨Nat.le_of_ble_eq_true rfl, Nat.le_of_ble_eq_true rfl⟩) hS (fun q _ h => hFc q h) hFc (fun u t H1 locs ht hvm hw hB hz1 hk1 hS => ?_)
  obtain ⟨hP1, hD1⟩ := hB
  rw [ht] at hP1
  obtain ⟨hP, hD⟩ := va_join (wr := [(h0, .inr (7, [vrf_ q_4, vnl_, vrf_ q_1, vrf_ q_2, vrf_ q_3, vnl_, vi0_, vi0_, vi0_, vi0_])), vazl_ q_1 k.2.2.1 3, vazl_ q_2 k.2.2.1 4, vazl_ q_3 k.2.2.1 6, (q_4, .inr (9, [vrf_ h1, vi0_, vi0_, vi0_, vi0_, vi0_, vl0_, vi0_, .int (-1)]))]) (w1 := [(q_5, .inr (2, [vrf_ q_4, vrf_ h2, vi0_]))]) hP hD [5] [0, 1, 2, 3, 4] rfl rfl (by decide +kernel) (by decide +kernel) hk1 hFc hP1 hD1
  generalize H1 = H at hP hS ⊢
  obtain ⟨ws_, hws_, hP, hD⟩ : ∃ w : va_W, w = [(h0, .inr (7, [vrf_ q_4, vnl_, vrf_ q_1, vrf_ q_2, vrf_ q_3, vnl_, vi0_, vi0_, vi0_, vi0_])), vazl_ q_1 k.2.2.1 3, vazl_ q_2 k.2.2.1 4, vazl_ q_3 k.2.2.1 6, (q_4, .inr (9, [vrf_ h1, vi0_, vi0_, vi0_, vi0_, vi0_, vl0_, vi0_, .int (-1)])), (q_5, .inr (2, [vrf_ q_4, vrf_ h2, vi0_]))] ∧ va_P D classes w H ∧ va_D A w := ⟨_, rfl, hP, hD⟩
  subst hws_
  refine W.widen (k := 5) (n := 25) (Nat.le_of_ble_eq_true rfl) (Nat.le_of_ble_eq_true rfl) ?_
  refine va_putF (D := D) (ci := 7) (v := .ref q_5) (ty := (.object "SlabWalk$Formulas")) (C := RX7) (T := TX7) (N := 10) hx hb hg iX7 tyX7 tyX7_ok nmX7 hown hK hP hD hS 0 rfl rfl 1 (by decide) (hg (Cond.fieldLink RX7 35 "SlabWalk$Reader" "formulas" "LSlabWalk$Formulas;") m313) (fun _ h9 => h9) rfl hin rfl (by decide +kernel) rfl rfl (Nat.le_of_ble_eq_true rfl) dX7_init_51 (fun H locs hP hD hS => ?_)
  obtain ⟨ws_, hws_, hP, hD⟩ : ∃ w : va_W, w = [(h0, .inr (7, [vrf_ q_4, vrf_ q_5, vrf_ q_1, vrf_ q_2, vrf_ q_3, vnl_, vi0_, vi0_, vi0_, vi0_])), vazl_ q_1 k.2.2.1 3, vazl_ q_2 k.2.2.1 4, vazl_ q_3 k.2.2.1 6, (q_4, .inr (9, [vrf_ h1, vi0_, vi0_, vi0_, vi0_, vi0_, vl0_, vi0_, .int (-1)])), (q_5, .inr (2, [vrf_ q_4, vrf_ h2, vi0_]))] ∧ va_P D classes w H ∧ va_D A w := ⟨_, rfl, hP, hD⟩
  subst hws_
  refine lv_aload_n hx hb dX7_init_54 rfl (lv_at hl 0 rfl) ?_
  refine lv_aload_n hx hb dX7_init_55 rfl (lv_at hl 2 rfl) ?_
  refine va_put (D := D) (ci := 7) (v := .ref h2) (ty := (.object "SlabWalk$Paving")) (C := RX7) (T := TX7) (N := 10) hx hb hg iX7 tyX7 tyX7_ok nmX7 hown hK hP hD hS 0 rfl rfl 5 (by decide) (hg (Cond.fieldLink RX7 39 "SlabWalk$Reader" "paving" "LSlabWalk$Paving;") m317) (fun _ h9 => h9) rfl (by decide +kernel) rfl rfl (Nat.le_of_ble_eq_true rfl) dX7_init_56 (fun H locs hP hD hS => ?_)
  obtain ⟨ws_, hws_, hP, hD⟩ : ∃ w : va_W, w = [(h0, .inr (7, [vrf_ q_4, vrf_ q_5, vrf_ q_1, vrf_ q_2, vrf_ q_3, vrf_ h2, vi0_, vi0_, vi0_, vi0_])), vazl_ q_1 k.2.2.1 3, vazl_ q_2 k.2.2.1 4, vazl_ q_3 k.2.2.1 6, (q_4, .inr (9, [vrf_ h1, vi0_, vi0_, vi0_, vi0_, vi0_, vl0_, vi0_, .int (-1)])), (q_5, .inr (2, [vrf_ q_4, vrf_ h2, vi0_]))] ∧ va_P D classes w H ∧ va_D A w := ⟨_, rfl, hP, hD⟩
  subst hws_
  exact W.vret hx hb hr (fun t ht hW => ⟨⟨(), rfl, trivial, ⟨q_4, q_5, q_1, q_2, q_3, cB_of ht hP hD⟩⟩, hS.F ht⟩) hS.2.2 dX7_init_59

set_option maxHeartbeats 4000000 in
set_option maxRecDepth 100000 in
theorem q_X3 (l : Launch) (D : va_G) (k : KT) (sz : Nat) (h0 h1 : Nat)  : Met l yX3_init (WS yX3_init cX3_init 2 none) ({ frames := 1, cells := 3, slots := 1303, locals := 12 }) (va_Pc [.ref h0, .ref h1] (cQ D k [(h0, .inr (3, [vnl_, vnl_, vnl_, vi0_, vnl_]))] sz)) (va_Qv (fun _ : Unit => True) (fun (_ : Unit) t => ∃ (q_1 : Nat), ∃ (q_2 : Nat), ∃ (q_3 : Nat), cB D (va_A [(h0, .inr (3, [vnl_, vnl_, vnl_, vi0_, vnl_]))] sz) [(h0, .inr (3, [vrf_ q_1, vrf_ q_2, vrf_ q_3, vi0_, vrf_ h1])), vaz_ q_1 k.2.1 1200, vaz_ q_2 k.2.1 3, vaz_ q_3 k.2.1 100] t) (va_A [(h0, .inr (3, [vnl_, vnl_, vnl_, vi0_, vnl_]))] sz)) 3 1303 (va_A [(h0, .inr (3, [vnl_, vnl_, vnl_, vi0_, vnl_]))] sz) := by
  refine Met.ofW (cc := cX3_init) (maxL := 2) (ret := none) (by decide) rfl ?_
  intro p e s m args below meth c s₁ B hml hv
  obtain ⟨rfl, hsz, hP, hKX, hD0⟩ := hv
  have hK := hKX.1
  have hx := B.exec
  have hb := B.bytes
  have hr := B.returns
  have hts := atoms_spec (ws := WS yX3_init cX3_init 2 none) B.pre
  have hgd : ∀ w ∈ gd, w ∈ WS yX3_init cX3_init 2 none := fun w h => List.mem_cons_of_mem _ h
  have hg : ∀ w ∈ gd, w.before _ s = true := fun w h => hts w (hgd w h)
  have hown : s.vm.findClass RX3 = some m.cls := findClass_of_methodNamed B.named
  have hlocks := B.notSynchronized
  have hin : meth.name = "<init>" := (name_of_methodNamed B.named B.method).1
  subst hsz
  have hD := hD0.self (sz := s.heap.size)
  generalize hAe : va_A [(h0, .inr (3, [vnl_, vnl_, vnl_, vi0_, vnl_]))] s.heap.size = A at hD ⊢
  have hA : ∀ q : Nat, s.heap.size ≤ q → A q := fun q h => by rw [← hAe]; exact Or.inr h
  have hS : va_S A s.heap s.heap [] := va_S.rf
  have hP : va_P D classes [(h0, .inr (3, [vnl_, vnl_, vnl_, vi0_, vnl_]))] s.heap := hP
  have hl := lv_entry ([.ref h0, .ref h1]) (n := 2) (Nat.le_of_ble_eq_true rfl)
  rw [lg_entry_eq]
  generalize (lg_sl ([.ref h0, .ref h1]) ++ List.replicate (2 - (lg_sl ([.ref h0, .ref h1])).length) Slot.unset).toArray = ls at hl ⊢
  have hl : lv_has ls 2 [(0, .ref h0), (1, .ref h1)] := hl
  refine lv_aload_n hx hb dX3_init_0 rfl (lv_at hl 0 rfl) ?_
  refine W.objInit hx hb hown (hg (Cond.methodLink RX3 3 objectInit) m348) (hg (Cond.instanceMethod objectInit) m144) (hg (Cond.code objectInit ⟨#[0xb1]⟩ 1 none) m145) rfl (by rw [hml]; exact hl.1) rfl dX3_init_1 (Nat.le_of_ble_eq_true rfl) (Nat.le_of_ble_eq_true rfl) ?_
  refine W.eq (g2 := F0 m 4 ls []) rfl ?_
  refine lv_aload_n hx hb dX3_init_4 rfl (lv_at hl 0 rfl) ?_
  refine lv_sipush (v := 1200) hx hb dX3_init_5 (by decide) ?_
  refine va_newaT (atype := .int) (ty := .int) (a0 := (1200, .inl (fun _ => 0))) hx hb (hg (Cond.arrayClass .int) m245) rfl ra_int hK hP hD hS hA 1 rfl (fun _ => rfl) (by decide) (by decide) (Nat.le_of_ble_eq_true rfl) (Nat.le_of_ble_eq_true rfl) (Nat.le_of_ble_eq_true rfl) dX3_init_8 (fun q_1 H hP hD hS => ?_)
  refine W.widen (k := 1) (n := 1200) (Nat.le_of_ble_eq_true rfl) (Nat.le_of_ble_eq_true rfl) ?_
  refine va_putF (D := D) (ci := 3) (v := .ref q_1) (ty := (.array .int)) (C := RX3) (T := TX3) (N := 5) hx hb hg iX3 tyX3 tyX3_ok nmX3 hown hK hP hD hS 0 rfl rfl 0 (by decide) (hg (Cond.fieldLink RX3 9 "SlabWalk$Lines" "found" "[I") m349) (fun _ h9 => h9) rfl hin rfl (by decide +kernel) rfl rfl (Nat.le_of_ble_eq_true rfl) dX3_init_10 (fun H locs hP hD hS => ?_)
  obtain ⟨ws_, hws_, hP, hD⟩ : ∃ w : va_W, w = [(h0, .inr (3, [vrf_ q_1, vnl_, vnl_, vi0_, vnl_])), vaz_ q_1 k.2.1 1200] ∧ va_P D classes w H ∧ va_D A w := ⟨_, rfl, hP, hD⟩
  subst hws_
  refine lv_aload_n hx hb dX3_init_13 rfl (lv_at hl 0 rfl) ?_
  refine lv_iconst (v := 3) hx hb dX3_init_14 (by decide) ?_
  refine va_newaT (atype := .int) (ty := .int) (a0 := (3, .inl (fun _ => 0))) hx hb (hg (Cond.arrayClass .int) m245) rfl ra_int hK hP hD hS hA 1 rfl (fun _ => rfl) (by decide) (by decide) (Nat.le_of_ble_eq_true rfl) (Nat.le_of_ble_eq_true rfl) (Nat.le_of_ble_eq_true rfl) dX3_init_15 (fun q_2 H hP hD hS => ?_)
  refine W.widen (k := 2) (n := 1203) (Nat.le_of_ble_eq_true rfl) (Nat.le_of_ble_eq_true rfl) ?_
  refine va_putF (D := D) (ci := 3) (v := .ref q_2) (ty := (.array .int)) (C := RX3) (T := TX3) (N := 5) hx hb hg iX3 tyX3 tyX3_ok nmX3 hown hK hP hD hS 0 rfl rfl 1 (by decide) (hg (Cond.fieldLink RX3 15 "SlabWalk$Lines" "foundOn" "[I") m350) (fun _ h9 => h9) rfl hin rfl (by decide +kernel) rfl rfl (Nat.le_of_ble_eq_true rfl) dX3_init_17 (fun H locs hP hD hS => ?_)
  obtain ⟨ws_, hws_, hP, hD⟩ : ∃ w : va_W, w = [(h0, .inr (3, [vrf_ q_1, vrf_ q_2, vnl_, vi0_, vnl_])), vaz_ q_1 k.2.1 1200, vaz_ q_2 k.2.1 3] ∧ va_P D classes w H ∧ va_D A w := ⟨_, rfl, hP, hD⟩
  subst hws_
  refine lv_aload_n hx hb dX3_init_20 rfl (lv_at hl 0 rfl) ?_
  refine lv_bipush (v := 100) hx hb dX3_init_21 (by decide) ?_
  refine va_newaT (atype := .int) (ty := .int) (a0 := (100, .inl (fun _ => 0))) hx hb (hg (Cond.arrayClass .int) m245) rfl ra_int hK hP hD hS hA 1 rfl (fun _ => rfl) (by decide) (by decide) (Nat.le_of_ble_eq_true rfl) (Nat.le_of_ble_eq_true rfl) (Nat.le_of_ble_eq_true rfl) dX3_init_23 (fun q_3 H hP hD hS => ?_)
  refine W.widen (k := 3) (n := 1303) (Nat.le_of_ble_eq_true rfl) (Nat.le_of_ble_eq_true rfl) ?_
  refine va_putF (D := D) (ci := 3) (v := .ref q_3) (ty := (.array .int)) (C := RX3) (T := TX3) (N := 5) hx hb hg iX3 tyX3 tyX3_ok nmX3 hown hK hP hD hS 0 rfl rfl 2 (by decide) (hg (Cond.fieldLink RX3 18 "SlabWalk$Lines" "values" "[I") m351) (fun _ h9 => h9) rfl hin rfl (by decide +kernel) rfl rfl (Nat.le_of_ble_eq_true rfl) dX3_init_25 (fun H locs hP hD hS => ?_)
  obtain ⟨ws_, hws_, hP, hD⟩ : ∃ w : va_W, w = [(h0, .inr (3, [vrf_ q_1, vrf_ q_2, vrf_ q_3, vi0_, vnl_])), vaz_ q_1 k.2.1 1200, vaz_ q_2 k.2.1 3, vaz_ q_3 k.2.1 100] ∧ va_P D classes w H ∧ va_D A w := ⟨_, rfl, hP, hD⟩
  subst hws_
  refine lv_aload_n hx hb dX3_init_28 rfl (lv_at hl 0 rfl) ?_
  refine lv_aload_n hx hb dX3_init_29 rfl (lv_at hl 1 rfl) ?_
  refine va_put (D := D) (ci := 3) (v := .ref h1) (ty := (.object "SlabWalk$Paving")) (C := RX3) (T := TX3) (N := 5) hx hb hg iX3 tyX3 tyX3_ok nmX3 hown hK hP hD hS 0 rfl rfl 4 (by decide) (hg (Cond.fieldLink RX3 21 "SlabWalk$Lines" "paving" "LSlabWalk$Paving;") m353) (fun _ h9 => h9) rfl (by decide +kernel) rfl rfl (Nat.le_of_ble_eq_true rfl) dX3_init_30 (fun H locs hP hD hS => ?_)
  obtain ⟨ws_, hws_, hP, hD⟩ : ∃ w : va_W, w = [(h0, .inr (3, [vrf_ q_1, vrf_ q_2, vrf_ q_3, vi0_, vrf_ h1])), vaz_ q_1 k.2.1 1200, vaz_ q_2 k.2.1 3, vaz_ q_3 k.2.1 100] ∧ va_P D classes w H ∧ va_D A w := ⟨_, rfl, hP, hD⟩
  subst hws_
  exact W.vret hx hb hr (fun t ht hW => ⟨⟨(), rfl, trivial, ⟨q_1, q_2, q_3, cB_of ht hP hD⟩⟩, hS.F ht⟩) hS.2.2 dX3_init_33

set_option maxHeartbeats 4000000 in
set_option maxRecDepth 100000 in
theorem q_X0 (l : Launch) (D : va_G) (k : KT) (sz : Nat) (h0 : Nat)  : Met l yX0_init (WS yX0_init cX0_init 1 none) ({ frames := 1, cells := 1, slots := 400, locals := 12 }) (va_Pc [.ref h0] (cQ D k [(h0, .inr (0, [vnl_, vi0_, vi0_, vi0_, vi0_, vi0_, vi0_, vi0_]))] sz)) (va_Qv (fun _ : Unit => True) (fun (_ : Unit) t => ∃ (q_1 : Nat), cB D (va_A [(h0, .inr (0, [vnl_, vi0_, vi0_, vi0_, vi0_, vi0_, vi0_, vi0_]))] sz) [(h0, .inr (0, [vrf_ q_1, vi0_, vi0_, vi0_, vi0_, vi0_, vi0_, vi0_])), vaz_ q_1 k.2.2.2.1 400] t) (va_A [(h0, .inr (0, [vnl_, vi0_, vi0_, vi0_, vi0_, vi0_, vi0_, vi0_]))] sz)) 1 400 (va_A [(h0, .inr (0, [vnl_, vi0_, vi0_, vi0_, vi0_, vi0_, vi0_, vi0_]))] sz) := by
  refine Met.ofW (cc := cX0_init) (maxL := 1) (ret := none) (by decide) rfl ?_
  intro p e s m args below meth c s₁ B hml hv
  obtain ⟨rfl, hsz, hP, hKX, hD0⟩ := hv
  have hK := hKX.1
  have hx := B.exec
  have hb := B.bytes
  have hr := B.returns
  have hts := atoms_spec (ws := WS yX0_init cX0_init 1 none) B.pre
  have hgd : ∀ w ∈ gd, w ∈ WS yX0_init cX0_init 1 none := fun w h => List.mem_cons_of_mem _ h
  have hg : ∀ w ∈ gd, w.before _ s = true := fun w h => hts w (hgd w h)
  have hown : s.vm.findClass RX0 = some m.cls := findClass_of_methodNamed B.named
  have hlocks := B.notSynchronized
  have hin : meth.name = "<init>" := (name_of_methodNamed B.named B.method).1
  subst hsz
  have hD := hD0.self (sz := s.heap.size)
  generalize hAe : va_A [(h0, .inr (0, [vnl_, vi0_, vi0_, vi0_, vi0_, vi0_, vi0_, vi0_]))] s.heap.size = A at hD ⊢
  have hA : ∀ q : Nat, s.heap.size ≤ q → A q := fun q h => by rw [← hAe]; exact Or.inr h
  have hS : va_S A s.heap s.heap [] := va_S.rf
  have hP : va_P D classes [(h0, .inr (0, [vnl_, vi0_, vi0_, vi0_, vi0_, vi0_, vi0_, vi0_]))] s.heap := hP
  have hl := lv_entry ([.ref h0]) (n := 1) (Nat.le_of_ble_eq_true rfl)
  rw [lg_entry_eq]
  generalize (lg_sl ([.ref h0]) ++ List.replicate (1 - (lg_sl ([.ref h0])).length) Slot.unset).toArray = ls at hl ⊢
  have hl : lv_has ls 1 [(0, .ref h0)] := hl
  refine lv_aload_n hx hb dX0_init_0 rfl (lv_at hl 0 rfl) ?_
  refine W.objInit hx hb hown (hg (Cond.methodLink RX0 3 objectInit) m370) (hg (Cond.instanceMethod objectInit) m144) (hg (Cond.code objectInit ⟨#[0xb1]⟩ 1 none) m145) rfl (by rw [hml]; exact hl.1) rfl dX0_init_1 (Nat.le_of_ble_eq_true rfl) (Nat.le_of_ble_eq_true rfl) ?_
  refine W.eq (g2 := F0 m 4 ls []) rfl ?_
  refine lv_aload_n hx hb dX0_init_4 rfl (lv_at hl 0 rfl) ?_
  refine lv_sipush (v := 400) hx hb dX0_init_5 (by decide) ?_
  refine va_newaT (atype := .boolean) (ty := .boolean) (a0 := (400, .inl (fun _ => 0))) hx hb (hg (Cond.arrayClass .boolean) m412) rfl ra_boolean hK hP hD hS hA 3 rfl (fun _ => rfl) (by decide) (by decide) (Nat.le_of_ble_eq_true rfl) (Nat.le_of_ble_eq_true rfl) (Nat.le_of_ble_eq_true rfl) dX0_init_8 (fun q_1 H hP hD hS => ?_)
  refine W.widen (k := 1) (n := 400) (Nat.le_of_ble_eq_true rfl) (Nat.le_of_ble_eq_true rfl) ?_
  refine va_putF (D := D) (ci := 0) (v := .ref q_1) (ty := (.array .boolean)) (C := RX0) (T := TX0) (N := 8) hx hb hg iX0 tyX0 tyX0_ok nmX0 hown hK hP hD hS 0 rfl rfl 0 (by decide) (hg (Cond.fieldLink RX0 9 "SlabWalk$Course" "lawful" "[Z") m371) (fun _ h9 => h9) rfl hin rfl (by decide +kernel) rfl rfl (Nat.le_of_ble_eq_true rfl) dX0_init_10 (fun H locs hP hD hS => ?_)
  obtain ⟨ws_, hws_, hP, hD⟩ : ∃ w : va_W, w = [(h0, .inr (0, [vrf_ q_1, vi0_, vi0_, vi0_, vi0_, vi0_, vi0_, vi0_])), vaz_ q_1 k.2.2.2.1 400] ∧ va_P D classes w H ∧ va_D A w := ⟨_, rfl, hP, hD⟩
  subst hws_
  exact W.vret hx hb hr (fun t ht hW => ⟨⟨(), rfl, trivial, ⟨q_1, cB_of ht hP hD⟩⟩, hS.F ht⟩) hS.2.2 dX0_init_13

set_option maxHeartbeats 4000000 in
set_option maxRecDepth 100000 in
theorem q_X4 (l : Launch) (D : va_G) (k : KT) (sz : Nat) (h0 : Nat)  : Met l yX4_init (WS yX4_init cX4_init 1 none) ({ frames := 1, cells := 2, slots := 800, locals := 12 }) (va_Pc [.ref h0] (cQ D k [(h0, .inr (4, [vnl_, vnl_, vi0_, vi0_]))] sz)) (va_Qv (fun _ : Unit => True) (fun (_ : Unit) t => ∃ (q_1 : Nat), ∃ (q_2 : Nat), cB D (va_A [(h0, .inr (4, [vnl_, vnl_, vi0_, vi0_]))] sz) [(h0, .inr (4, [vrf_ q_1, vrf_ q_2, vi0_, vi0_])), vaz_ q_1 k.2.1 400, vaz_ q_2 k.2.1 400] t) (va_A [(h0, .inr (4, [vnl_, vnl_, vi0_, vi0_]))] sz)) 2 800 (va_A [(h0, .inr (4, [vnl_, vnl_, vi0_, vi0_]))] sz) := by
  refine Met.ofW (cc := cX4_init) (maxL := 1) (ret := none) (by decide) rfl ?_
  intro p e s m args below meth c s₁ B hml hv
  obtain ⟨rfl, hsz, hP, hKX, hD0⟩ := hv
  have hK := hKX.1
  have hx := B.exec
  have hb := B.bytes
  have hr := B.returns
  have hts := atoms_spec (ws := WS yX4_init cX4_init 1 none) B.pre
  have hgd : ∀ w ∈ gd, w ∈ WS yX4_init cX4_init 1 none := fun w h => List.mem_cons_of_mem _ h
  have hg : ∀ w ∈ gd, w.before _ s = true := fun w h => hts w (hgd w h)
  have hown : s.vm.findClass RX4 = some m.cls := findClass_of_methodNamed B.named
  have hlocks := B.notSynchronized
  have hin : meth.name = "<init>" := (name_of_methodNamed B.named B.method).1
  subst hsz
  have hD := hD0.self (sz := s.heap.size)
  generalize hAe : va_A [(h0, .inr (4, [vnl_, vnl_, vi0_, vi0_]))] s.heap.size = A at hD ⊢
  have hA : ∀ q : Nat, s.heap.size ≤ q → A q := fun q h => by rw [← hAe]; exact Or.inr h
  have hS : va_S A s.heap s.heap [] := va_S.rf
  have hP : va_P D classes [(h0, .inr (4, [vnl_, vnl_, vi0_, vi0_]))] s.heap := hP
  have hl := lv_entry ([.ref h0]) (n := 1) (Nat.le_of_ble_eq_true rfl)
  rw [lg_entry_eq]
  generalize (lg_sl ([.ref h0]) ++ List.replicate (1 - (lg_sl ([.ref h0])).length) Slot.unset).toArray = ls at hl ⊢
  have hl : lv_has ls 1 [(0, .ref h0)] := hl
  refine lv_aload_n hx hb dX4_init_0 rfl (lv_at hl 0 rfl) ?_
  refine W.objInit hx hb hown (hg (Cond.methodLink RX4 3 objectInit) m426) (hg (Cond.instanceMethod objectInit) m144) (hg (Cond.code objectInit ⟨#[0xb1]⟩ 1 none) m145) rfl (by rw [hml]; exact hl.1) rfl dX4_init_1 (Nat.le_of_ble_eq_true rfl) (Nat.le_of_ble_eq_true rfl) ?_
  refine W.eq (g2 := F0 m 4 ls []) rfl ?_
  refine lv_aload_n hx hb dX4_init_4 rfl (lv_at hl 0 rfl) ?_
  refine lv_sipush (v := 400) hx hb dX4_init_5 (by decide) ?_
  refine va_newaT (atype := .int) (ty := .int) (a0 := (400, .inl (fun _ => 0))) hx hb (hg (Cond.arrayClass .int) m245) rfl ra_int hK hP hD hS hA 1 rfl (fun _ => rfl) (by decide) (by decide) (Nat.le_of_ble_eq_true rfl) (Nat.le_of_ble_eq_true rfl) (Nat.le_of_ble_eq_true rfl) dX4_init_8 (fun q_1 H hP hD hS => ?_)
  refine W.widen (k := 1) (n := 400) (Nat.le_of_ble_eq_true rfl) (Nat.le_of_ble_eq_true rfl) ?_
  refine va_putF (D := D) (ci := 4) (v := .ref q_1) (ty := (.array .int)) (C := RX4) (T := TX4) (N := 4) hx hb hg iX4 tyX4 tyX4_ok nmX4 hown hK hP hD hS 0 rfl rfl 0 (by decide) (hg (Cond.fieldLink RX4 9 "SlabWalk$Minima" "keys" "[I") m427) (fun _ h9 => h9) rfl hin rfl (by decide +kernel) rfl rfl (Nat.le_of_ble_eq_true rfl) dX4_init_10 (fun H locs hP hD hS => ?_)
  obtain ⟨ws_, hws_, hP, hD⟩ : ∃ w : va_W, w = [(h0, .inr (4, [vrf_ q_1, vnl_, vi0_, vi0_])), vaz_ q_1 k.2.1 400] ∧ va_P D classes w H ∧ va_D A w := ⟨_, rfl, hP, hD⟩
  subst hws_
  refine lv_aload_n hx hb dX4_init_13 rfl (lv_at hl 0 rfl) ?_
  refine lv_sipush (v := 400) hx hb dX4_init_14 (by decide) ?_
  refine va_newaT (atype := .int) (ty := .int) (a0 := (400, .inl (fun _ => 0))) hx hb (hg (Cond.arrayClass .int) m245) rfl ra_int hK hP hD hS hA 1 rfl (fun _ => rfl) (by decide) (by decide) (Nat.le_of_ble_eq_true rfl) (Nat.le_of_ble_eq_true rfl) (Nat.le_of_ble_eq_true rfl) dX4_init_17 (fun q_2 H hP hD hS => ?_)
  refine W.widen (k := 2) (n := 800) (Nat.le_of_ble_eq_true rfl) (Nat.le_of_ble_eq_true rfl) ?_
  refine va_putF (D := D) (ci := 4) (v := .ref q_2) (ty := (.array .int)) (C := RX4) (T := TX4) (N := 4) hx hb hg iX4 tyX4 tyX4_ok nmX4 hown hK hP hD hS 0 rfl rfl 1 (by decide) (hg (Cond.fieldLink RX4 15 "SlabWalk$Minima" "values" "[I") m428) (fun _ h9 => h9) rfl hin rfl (by decide +kernel) rfl rfl (Nat.le_of_ble_eq_true rfl) dX4_init_19 (fun H locs hP hD hS => ?_)
  obtain ⟨ws_, hws_, hP, hD⟩ : ∃ w : va_W, w = [(h0, .inr (4, [vrf_ q_1, vrf_ q_2, vi0_, vi0_])), vaz_ q_1 k.2.1 400, vaz_ q_2 k.2.1 400] ∧ va_P D classes w H ∧ va_D A w := ⟨_, rfl, hP, hD⟩
  subst hws_
  exact W.vret hx hb hr (fun t ht hW => ⟨⟨(), rfl, trivial, ⟨q_1, q_2, cB_of ht hP hD⟩⟩, hS.F ht⟩) hS.2.2 dX4_init_22

set_option maxHeartbeats 4000000 in
set_option maxRecDepth 100000 in
theorem q_X10 (l : Launch) (D : va_G) (k : KT) (sz : Nat) (h0 : Nat)  : Met l yX10_init (WS yX10_init cX10_init 1 none) ({ frames := 2, cells := 13, slots := 3348, locals := 32 }) (va_Pc [.ref h0] (cQ D k [(h0, .inr (10, [vnl_, vnl_, vnl_, vnl_, vnl_]))] sz)) (va_Qv (fun _ : Unit => True) (fun (_ : Unit) t => ∃ (q_1 : Nat), ∃ (q_2 : Nat), ∃ (q_5 : Nat), ∃ (q_8 : Nat), ∃ (q_9 : Nat), ∃ (z_3 : Nat), ∃ (z_4 : Nat), ∃ (z_6 : Nat), ∃ (z_7 : Nat), cB D (va_A [(h0, .inr (10, [vnl_, vnl_, vnl_, vnl_, vnl_]))] sz) [(h0, .inr (10, [vrf_ q_1, vrf_ q_2, vrf_ q_5, vrf_ q_8, vrf_ q_9])), (q_1, .inl (k.2.2.2.2, 4, .inr (.inr (.inr (.inr (fun i => some (q_1 + 1 + i))))))), vaz_ (q_1 + 1) k.2.1 402, vaz_ (q_1 + 2) k.2.1 402, vaz_ (q_1 + 3) k.2.1 402, vaz_ (q_1 + 4) k.2.1 402, (q_2, .inr (4, [vrf_ z_3, vrf_ z_4, vi0_, vi0_])), vaz_ z_3 k.2.1 400, vaz_ z_4 k.2.1 400, (q_5, .inr (4, [vrf_ z_6, vrf_ z_7, vi0_, vi0_])), vaz_ z_6 k.2.1 400, vaz_ z_7 k.2.1 400, vaz_ q_8 k.2.1 64, vaz_ q_9 k.2.2.2.1 64] t) (va_A [(h0, .inr (10, [vnl_, vnl_, vnl_, vnl_, vnl_]))] sz)) 13 3348 (va_A [(h0, .inr (10, [vnl_, vnl_, vnl_, vnl_, vnl_]))] sz) := by
  refine Met.ofW (cc := cX10_init) (maxL := 1) (ret := none) (by decide) rfl ?_
  intro p e s m args below meth c s₁ B hml hv
  obtain ⟨rfl, hsz, hP, hKX, hD0⟩ := hv
  have hK := hKX.1
  have hx := B.exec
  have hb := B.bytes
  have hr := B.returns
  have hts := atoms_spec (ws := WS yX10_init cX10_init 1 none) B.pre
  have hgd : ∀ w ∈ gd, w ∈ WS yX10_init cX10_init 1 none := fun w h => List.mem_cons_of_mem _ h
  have hg : ∀ w ∈ gd, w.before _ s = true := fun w h => hts w (hgd w h)
  have hown : s.vm.findClass RX10 = some m.cls := findClass_of_methodNamed B.named
  have hlocks := B.notSynchronized
  have hin : meth.name = "<init>" := (name_of_methodNamed B.named B.method).1
  subst hsz
  have hD := hD0.self (sz := s.heap.size)
  generalize hAe : va_A [(h0, .inr (10, [vnl_, vnl_, vnl_, vnl_, vnl_]))] s.heap.size = A at hD ⊢
  have hA : ∀ q : Nat, s.heap.size ≤ q → A q := fun q h => by rw [← hAe]; exact Or.inr h
  have hS : va_S A s.heap s.heap [] := va_S.rf
  have hP : va_P D classes [(h0, .inr (10, [vnl_, vnl_, vnl_, vnl_, vnl_]))] s.heap := hP
  have hl := lv_entry ([.ref h0]) (n := 1) (Nat.le_of_ble_eq_true rfl)
  rw [lg_entry_eq]
  generalize (lg_sl ([.ref h0]) ++ List.replicate (1 - (lg_sl ([.ref h0])).length) Slot.unset).toArray = ls at hl ⊢
  have hl : lv_has ls 1 [(0, .ref h0)] := hl
  refine lv_aload_n hx hb dX10_init_0 rfl (lv_at hl 0 rfl) ?_
  refine W.objInit hx hb hown (hg (Cond.methodLink RX10 3 objectInit) m418) (hg (Cond.instanceMethod objectInit) m144) (hg (Cond.code objectInit ⟨#[0xb1]⟩ 1 none) m145) rfl (by rw [hml]; exact hl.1) rfl dX10_init_1 (Nat.le_of_ble_eq_true rfl) (Nat.le_of_ble_eq_true rfl) ?_
  refine W.eq (g2 := F0 m 4 ls []) rfl ?_
  refine lv_aload_n hx hb dX10_init_4 rfl (lv_at hl 0 rfl) ?_
  refine lv_iconst (v := 4) hx hb dX10_init_5 (by decide) ?_
  refine lv_sipush (v := 402) hx hb dX10_init_6 (by decide) ?_
  refine va_mnaR hx hb hown (hg (Cond.classLink RX10 11 "[[I") m419) hKX.2.1 (hg (Cond.arrayClass .int) m245) (hK.2 4 _ rfl).2 (hK.2 1 _ rfl).2 hP hD hS hA (Nat.le_of_ble_eq_true rfl) (Nat.le_of_ble_eq_true rfl) dX10_init_9 (fun q_1 H hP hD hS => ?_)
  obtain ⟨ws_, hws_, hP, hD⟩ : ∃ w : va_W, w = [(h0, .inr (10, [vnl_, vnl_, vnl_, vnl_, vnl_])), (q_1, .inl (k.2.2.2.2, 4, .inr (.inr (.inr (.inr (fun i => some (q_1 + 1 + i))))))), vaz_ (q_1 + 1) k.2.1 402, vaz_ (q_1 + 2) k.2.1 402, vaz_ (q_1 + 3) k.2.1 402, vaz_ (q_1 + 4) k.2.1 402] ∧ va_P D classes w H ∧ va_D A w := ⟨_, rfl, hP, hD⟩
  subst hws_
  refine W.widen (k := 5) (n := 1612) (Nat.le_of_ble_eq_true rfl) (Nat.le_of_ble_eq_true rfl) ?_
  refine va_putF (D := D) (ci := 10) (v := .ref q_1) (ty := (.array (.array .int))) (C := RX10) (T := TX10) (N := 5) hx hb hg iX10 tyX10 tyX10_ok nmX10 hown hK hP hD hS 0 rfl rfl 0 (by decide) (hg (Cond.fieldLink RX10 13 "SlabWalk$Trails" "rows" "[[I") m440) (fun _ h9 => h9) rfl hin rfl (by decide +kernel) rfl rfl (Nat.le_of_ble_eq_true rfl) dX10_init_13 (fun H locs hP hD hS => ?_)
  obtain ⟨ws_, hws_, hP, hD⟩ : ∃ w : va_W, w = [(h0, .inr (10, [vrf_ q_1, vnl_, vnl_, vnl_, vnl_])), (q_1, .inl (k.2.2.2.2, 4, .inr (.inr (.inr (.inr (fun i => some (q_1 + 1 + i))))))), vaz_ (q_1 + 1) k.2.1 402, vaz_ (q_1 + 2) k.2.1 402, vaz_ (q_1 + 3) k.2.1 402, vaz_ (q_1 + 4) k.2.1 402] ∧ va_P D classes w H ∧ va_D A w := ⟨_, rfl, hP, hD⟩
  subst hws_
  refine lv_aload_n hx hb dX10_init_16 rfl (lv_at hl 0 rfl) ?_
  refine va_new (ci := 4) (fs := [vnl_, vnl_, vi0_, vi0_]) (C := RX4) (T := TX4) (N := 4) hx hb hg iX4 tyX4 tyX4_ok hown (hg (Cond.classLink RX10 16 RX4) m421) (hg (Cond.instantiable RX4 4) m422) (hg (Cond.initialized RX4) m125) hK hP hD hS hA rfl (by decide) (Nat.le_of_ble_eq_true rfl) (Nat.le_of_ble_eq_true rfl) dX10_init_17 (fun q_2 H hP hD hS => ?_)
  obtain ⟨ws_, hws_, hP, hD⟩ : ∃ w : va_W, w = [(h0, .inr (10, [vrf_ q_1, vnl_, vnl_, vnl_, vnl_])), (q_1, .inl (k.2.2.2.2, 4, .inr (.inr (.inr (.inr (fun i => some (q_1 + 1 + i))))))), vaz_ (q_1 + 1) k.2.1 402, vaz_ (q_1 + 2) k.2.1 402, vaz_ (q_1 + 3) k.2.1 402, vaz_ (q_1 + 4) k.2.1 402, (q_2, .inr (4, [vnl_, vnl_, vi0_, vi0_]))] ∧ va_P D classes w H ∧ va_D A w := ⟨_, rfl, hP, hD⟩
  subst hws_
  refine W.widen (k := 6) (n := 1616) (Nat.le_of_ble_eq_true rfl) (Nat.le_of_ble_eq_true rfl) ?_
  refine lv_dup hx hb dX10_init_20 rfl ?_
  have hPc := hP.sub (ws' := [(q_2, .inr (4, [vnl_, vnl_, vi0_, vi0_]))]) [6] rfl
  have hDc := hD.sub (ws' := [(q_2, .inr (4, [vnl_, vnl_, vi0_, vi0_]))]) [6] (by decide +kernel) rfl
  have hFc := va_free (wc := [(q_2, .inr (4, [vnl_, vnl_, vi0_, vi0_]))]) hD hS hA [6] rfl
  refine va_callv (va_runIN (As := []) (rest := [.ref q_2, .ref h0]) ⟨hx, hb, hml, hown, hts⟩ (q_X4 l D k H.size q_2) ⟨va_cnB 0 hts (gd_in hgd (gd_WS m425)) rfl rfl rfl hKX.2.2.2.2.1 (hg (Cond.initialized RX4) m125) (by decide +kernel) ⟨Nat.le_of_ble_eq_true rfl, Nat.le_of_ble_eq_true rfl⟩, rfl, (hg (Cond.instanceMethod yX4_init) m424)⟩ (cQ_S hPc hKX hDc) rfl rfl hl.1 rfl (lv_room (Nat.le_of_ble_eq_true rfl)) dX10_init_21 ⟨Nat.le_of_ble_eq_true rfl, Nat.le_of_ble_eq_true rfl⟩) hS (fun q _ h => hFc q h) hFc (fun u t H1 locs ht hvm hw hB hz1 hk1 hS => ?_)
  obtain ⟨z_3, z_4, hP1, hD1⟩ := hB
  rw [ht] at hP1
  obtain ⟨hP, hD⟩ := va_join (wr := [(h0, .inr (10, [vrf_ q_1, vnl_, vnl_, vnl_, vnl_])), (q_1, .inl (k.2.2.2.2, 4, .inr (.inr (.inr (.inr (fun i => some (q_1 + 1 + i))))))), vaz_ (q_1 + 1) k.2.1 402, vaz_ (q_1 + 2) k.2.1 402, vaz_ (q_1 + 3) k.2.1 402, vaz_ (q_1 + 4) k.2.1 402]) (w1 := [(q_2, .inr (4, [vrf_ z_3, vrf_ z_4, vi0_, vi0_])), vaz_ z_3 k.2.1 400, vaz_ z_4 k.2.1 400]) hP hD [6] [0, 1, 2, 3, 4, 5] rfl rfl (by decide +kernel) (by decide +kernel) hk1 hFc hP1 hD1
  generalize H1 = H at hP hS ⊢
  obtain ⟨ws_, hws_, hP, hD⟩ : ∃ w : va_W, w = [(h0, .inr (10, [vrf_ q_1, vnl_, vnl_, vnl_, vnl_])), (q_1, .inl (k.2.2.2.2, 4, .inr (.inr (.inr (.inr (fun i => some (q_1 + 1 + i))))))), vaz_ (q_1 + 1) k.2.1 402, vaz_ (q_1 + 2) k.2.1 402, vaz_ (q_1 + 3) k.2.1 402, vaz_ (q_1 + 4) k.2.1 402, (q_2, .inr (4, [vrf_ z_3, vrf_ z_4, vi0_, vi0_])), vaz_ z_3 k.2.1 400, vaz_ z_4 k.2.1 400] ∧ va_P D classes w H ∧ va_D A w := ⟨_, rfl, hP, hD⟩
  subst hws_
  refine W.widen (k := 8) (n := 2416) (Nat.le_of_ble_eq_true rfl) (Nat.le_of_ble_eq_true rfl) ?_
  refine va_putF (D := D) (ci := 10) (v := .ref q_2) (ty := (.object "SlabWalk$Minima")) (C := RX10) (T := TX10) (N := 5) hx hb hg iX10 tyX10 tyX10_ok nmX10 hown hK hP hD hS 0 rfl rfl 1 (by decide) (hg (Cond.fieldLink RX10 19 "SlabWalk$Trails" "steps" "LSlabWalk$Minima;") m441) (fun _ h9 => h9) rfl hin rfl (by decide +kernel) rfl rfl (Nat.le_of_ble_eq_true rfl) dX10_init_24 (fun H locs hP hD hS => ?_)
  obtain ⟨ws_, hws_, hP, hD⟩ : ∃ w : va_W, w = [(h0, .inr (10, [vrf_ q_1, vrf_ q_2, vnl_, vnl_, vnl_])), (q_1, .inl (k.2.2.2.2, 4, .inr (.inr (.inr (.inr (fun i => some (q_1 + 1 + i))))))), vaz_ (q_1 + 1) k.2.1 402, vaz_ (q_1 + 2) k.2.1 402, vaz_ (q_1 + 3) k.2.1 402, vaz_ (q_1 + 4) k.2.1 402, (q_2, .inr (4, [vrf_ z_3, vrf_ z_4, vi0_, vi0_])), vaz_ z_3 k.2.1 400, vaz_ z_4 k.2.1 400] ∧ va_P D classes w H ∧ va_D A w := ⟨_, rfl, hP, hD⟩
  subst hws_
  refine lv_aload_n hx hb dX10_init_27 rfl (lv_at hl 0 rfl) ?_
  refine va_new (ci := 4) (fs := [vnl_, vnl_, vi0_, vi0_]) (C := RX4) (T := TX4) (N := 4) hx hb hg iX4 tyX4 tyX4_ok hown (hg (Cond.classLink RX10 16 RX4) m421) (hg (Cond.instantiable RX4 4) m422) (hg (Cond.initialized RX4) m125) hK hP hD hS hA rfl (by decide) (Nat.le_of_ble_eq_true rfl) (Nat.le_of_ble_eq_true rfl) dX10_init_28 (fun q_5 H hP hD hS => ?_)
  obtain ⟨ws_, hws_, hP, hD⟩ : ∃ w : va_W, w = [(h0, .inr (10, [vrf_ q_1, vrf_ q_2, vnl_, vnl_, vnl_])), (q_1, .inl (k.2.2.2.2, 4, .inr (.inr (.inr (.inr (fun i => some (q_1 + 1 + i))))))), vaz_ (q_1 + 1) k.2.1 402, vaz_ (q_1 + 2) k.2.1 402, vaz_ (q_1 + 3) k.2.1 402, vaz_ (q_1 + 4) k.2.1 402, (q_2, .inr (4, [vrf_ z_3, vrf_ z_4, vi0_, vi0_])), vaz_ z_3 k.2.1 400, vaz_ z_4 k.2.1 400, (q_5, .inr (4, [vnl_, vnl_, vi0_, vi0_]))] ∧ va_P D classes w H ∧ va_D A w := ⟨_, rfl, hP, hD⟩
  subst hws_
  refine W.widen (k := 9) (n := 2420) (Nat.le_of_ble_eq_true rfl) (Nat.le_of_ble_eq_true rfl) ?_
  refine lv_dup hx hb dX10_init_31 rfl ?_
  have hPc := hP.sub (ws' := [(q_5, .inr (4, [vnl_, vnl_, vi0_, vi0_]))]) [9] rfl
  have hDc := hD.sub (ws' := [(q_5, .inr (4, [vnl_, vnl_, vi0_, vi0_]))]) [9] (by decide +kernel) rfl
  have hFc := va_free (wc := [(q_5, .inr (4, [vnl_, vnl_, vi0_, vi0_]))]) hD hS hA [9] rfl
  refine va_callv (va_runIN (As := []) (rest := [.ref q_5, .ref h0]) ⟨hx, hb, hml, hown, hts⟩ (q_X4 l D k H.size q_5) ⟨va_cnB 0 hts (gd_in hgd (gd_WS m425)) rfl rfl rfl hKX.2.2.2.2.1 (hg (Cond.initialized RX4) m125) (by decide +kernel) ⟨Nat.le_of_ble_eq_true rfl, Nat.le_of_ble_eq_true rfl⟩, rfl, (hg (Cond.instanceMethod yX4_init) m424)⟩ (cQ_S hPc hKX hDc) rfl rfl hl.1 rfl (lv_room (Nat.le_of_ble_eq_true rfl)) dX10_init_32 ⟨Nat.le_of_ble_eq_true rfl, Nat.le_of_ble_eq_true rfl⟩) hS (fun q _ h => hFc q h) hFc (fun u t H1 locs ht hvm hw hB hz1 hk1 hS => ?_)
  obtain ⟨z_6, z_7, hP1, hD1⟩ := hB
  rw [ht] at hP1
  obtain ⟨hP, hD⟩ := va_join (wr := [(h0, .inr (10, [vrf_ q_1, vrf_ q_2, vnl_, vnl_, vnl_])), (q_1, .inl (k.2.2.2.2, 4, .inr (.inr (.inr (.inr (fun i => some (q_1 + 1 + i))))))), vaz_ (q_1 + 1) k.2.1 402, vaz_ (q_1 + 2) k.2.1 402, vaz_ (q_1 + 3) k.2.1 402, vaz_ (q_1 + 4) k.2.1 402, (q_2, .inr (4, [vrf_ z_3, vrf_ z_4, vi0_, vi0_])), vaz_ z_3 k.2.1 400, vaz_ z_4 k.2.1 400]) (w1 := [(q_5, .inr (4, [vrf_ z_6, vrf_ z_7, vi0_, vi0_])), vaz_ z_6 k.2.1 400, vaz_ z_7 k.2.1 400]) hP hD [9] [0, 1, 2, 3, 4, 5, 6, 7, 8] rfl rfl (by decide +kernel) (by decide +kernel) hk1 hFc hP1 hD1
  generalize H1 = H at hP hS ⊢
  obtain ⟨ws_, hws_, hP, hD⟩ : ∃ w : va_W, w = [(h0, .inr (10, [vrf_ q_1, vrf_ q_2, vnl_, vnl_, vnl_])), (q_1, .inl (k.2.2.2.2, 4, .inr (.inr (.inr (.inr (fun i => some (q_1 + 1 + i))))))), vaz_ (q_1 + 1) k.2.1 402, vaz_ (q_1 + 2) k.2.1 402, vaz_ (q_1 + 3) k.2.1 402, vaz_ (q_1 + 4) k.2.1 402, (q_2, .inr (4, [vrf_ z_3, vrf_ z_4, vi0_, vi0_])), vaz_ z_3 k.2.1 400, vaz_ z_4 k.2.1 400, (q_5, .inr (4, [vrf_ z_6, vrf_ z_7, vi0_, vi0_])), vaz_ z_6 k.2.1 400, vaz_ z_7 k.2.1 400] ∧ va_P D classes w H ∧ va_D A w := ⟨_, rfl, hP, hD⟩
  subst hws_
  refine W.widen (k := 11) (n := 3220) (Nat.le_of_ble_eq_true rfl) (Nat.le_of_ble_eq_true rfl) ?_
  refine va_putF (D := D) (ci := 10) (v := .ref q_5) (ty := (.object "SlabWalk$Minima")) (C := RX10) (T := TX10) (N := 5) hx hb hg iX10 tyX10 tyX10_ok nmX10 hown hK hP hD hS 0 rfl rfl 2 (by decide) (hg (Cond.fieldLink RX10 23 "SlabWalk$Trails" "leaps" "LSlabWalk$Minima;") m442) (fun _ h9 => h9) rfl hin rfl (by decide +kernel) rfl rfl (Nat.le_of_ble_eq_true rfl) dX10_init_35 (fun H locs hP hD hS => ?_)
  obtain ⟨ws_, hws_, hP, hD⟩ : ∃ w : va_W, w = [(h0, .inr (10, [vrf_ q_1, vrf_ q_2, vrf_ q_5, vnl_, vnl_])), (q_1, .inl (k.2.2.2.2, 4, .inr (.inr (.inr (.inr (fun i => some (q_1 + 1 + i))))))), vaz_ (q_1 + 1) k.2.1 402, vaz_ (q_1 + 2) k.2.1 402, vaz_ (q_1 + 3) k.2.1 402, vaz_ (q_1 + 4) k.2.1 402, (q_2, .inr (4, [vrf_ z_3, vrf_ z_4, vi0_, vi0_])), vaz_ z_3 k.2.1 400, vaz_ z_4 k.2.1 400, (q_5, .inr (4, [vrf_ z_6, vrf_ z_7, vi0_, vi0_])), vaz_ z_6 k.2.1 400, vaz_ z_7 k.2.1 400] ∧ va_P D classes w H ∧ va_D A w := ⟨_, rfl, hP, hD⟩
  subst hws_
  refine lv_aload_n hx hb dX10_init_38 rfl (lv_at hl 0 rfl) ?_
  refine lv_bipush (v := 64) hx hb dX10_init_39 (by decide) ?_
  refine va_newaT (atype := .int) (ty := .int) (a0 := (64, .inl (fun _ => 0))) hx hb (hg (Cond.arrayClass .int) m245) rfl ra_int hK hP hD hS hA 1 rfl (fun _ => rfl) (by decide) (by decide) (Nat.le_of_ble_eq_true rfl) (Nat.le_of_ble_eq_true rfl) (Nat.le_of_ble_eq_true rfl) dX10_init_41 (fun q_8 H hP hD hS => ?_)
  refine W.widen (k := 12) (n := 3284) (Nat.le_of_ble_eq_true rfl) (Nat.le_of_ble_eq_true rfl) ?_
  refine va_putF (D := D) (ci := 10) (v := .ref q_8) (ty := (.array .int)) (C := RX10) (T := TX10) (N := 5) hx hb hg iX10 tyX10 tyX10_ok nmX10 hown hK hP hD hS 0 rfl rfl 3 (by decide) (hg (Cond.fieldLink RX10 26 "SlabWalk$Trails" "winning" "[I") m443) (fun _ h9 => h9) rfl hin rfl (by decide +kernel) rfl rfl (Nat.le_of_ble_eq_true rfl) dX10_init_43 (fun H locs hP hD hS => ?_)
  obtain ⟨ws_, hws_, hP, hD⟩ : ∃ w : va_W, w = [(h0, .inr (10, [vrf_ q_1, vrf_ q_2, vrf_ q_5, vrf_ q_8, vnl_])), (q_1, .inl (k.2.2.2.2, 4, .inr (.inr (.inr (.inr (fun i => some (q_1 + 1 + i))))))), vaz_ (q_1 + 1) k.2.1 402, vaz_ (q_1 + 2) k.2.1 402, vaz_ (q_1 + 3) k.2.1 402, vaz_ (q_1 + 4) k.2.1 402, (q_2, .inr (4, [vrf_ z_3, vrf_ z_4, vi0_, vi0_])), vaz_ z_3 k.2.1 400, vaz_ z_4 k.2.1 400, (q_5, .inr (4, [vrf_ z_6, vrf_ z_7, vi0_, vi0_])), vaz_ z_6 k.2.1 400, vaz_ z_7 k.2.1 400, vaz_ q_8 k.2.1 64] ∧ va_P D classes w H ∧ va_D A w := ⟨_, rfl, hP, hD⟩
  subst hws_
  refine lv_aload_n hx hb dX10_init_46 rfl (lv_at hl 0 rfl) ?_
  refine lv_bipush (v := 64) hx hb dX10_init_47 (by decide) ?_
  refine va_newaT (atype := .boolean) (ty := .boolean) (a0 := (64, .inl (fun _ => 0))) hx hb (hg (Cond.arrayClass .boolean) m412) rfl ra_boolean hK hP hD hS hA 3 rfl (fun _ => rfl) (by decide) (by decide) (Nat.le_of_ble_eq_true rfl) (Nat.le_of_ble_eq_true rfl) (Nat.le_of_ble_eq_true rfl) dX10_init_49 (fun q_9 H hP hD hS => ?_)
  refine W.widen (k := 13) (n := 3348) (Nat.le_of_ble_eq_true rfl) (Nat.le_of_ble_eq_true rfl) ?_
  refine va_putF (D := D) (ci := 10) (v := .ref q_9) (ty := (.array .boolean)) (C := RX10) (T := TX10) (N := 5) hx hb hg iX10 tyX10 tyX10_ok nmX10 hown hK hP hD hS 0 rfl rfl 4 (by decide) (hg (Cond.fieldLink RX10 30 "SlabWalk$Trails" "leaving" "[Z") m445) (fun _ h9 => h9) rfl hin rfl (by decide +kernel) rfl rfl (Nat.le_of_ble_eq_true rfl) dX10_init_51 (fun H locs hP hD hS => ?_)
  obtain ⟨ws_, hws_, hP, hD⟩ : ∃ w : va_W, w = [(h0, .inr (10, [vrf_ q_1, vrf_ q_2, vrf_ q_5, vrf_ q_8, vrf_ q_9])), (q_1, .inl (k.2.2.2.2, 4, .inr (.inr (.inr (.inr (fun i => some (q_1 + 1 + i))))))), vaz_ (q_1 + 1) k.2.1 402, vaz_ (q_1 + 2) k.2.1 402, vaz_ (q_1 + 3) k.2.1 402, vaz_ (q_1 + 4) k.2.1 402, (q_2, .inr (4, [vrf_ z_3, vrf_ z_4, vi0_, vi0_])), vaz_ z_3 k.2.1 400, vaz_ z_4 k.2.1 400, (q_5, .inr (4, [vrf_ z_6, vrf_ z_7, vi0_, vi0_])), vaz_ z_6 k.2.1 400, vaz_ z_7 k.2.1 400, vaz_ q_8 k.2.1 64, vaz_ q_9 k.2.2.2.1 64] ∧ va_P D classes w H ∧ va_D A w := ⟨_, rfl, hP, hD⟩
  subst hws_
  exact W.vret hx hb hr (fun t ht hW => ⟨⟨(), rfl, trivial, ⟨q_1, q_2, q_5, q_8, q_9, z_3, z_4, z_6, z_7, cB_of ht hP hD⟩⟩, hS.F ht⟩) hS.2.2 dX10_init_54

set_option maxHeartbeats 4000000 in
set_option maxRecDepth 100000 in
theorem q_X5 (l : Launch) (D : va_G) (k : KT) (sz : Nat) (h0 : Nat)  : Met l yX5_init (WS yX5_init cX5_init 1 none) ({ frames := 1, cells := 6, slots := 2424, locals := 12 }) (va_Pc [.ref h0] (cQ D k [(h0, .inr (5, [vnl_, vnl_, vnl_, vnl_, vnl_, vnl_, vi0_]))] sz)) (va_Qv (fun _ : Unit => True) (fun (_ : Unit) t => ∃ (q_1 : Nat), ∃ (q_2 : Nat), ∃ (q_3 : Nat), ∃ (q_4 : Nat), ∃ (q_5 : Nat), ∃ (q_6 : Nat), cB D (va_A [(h0, .inr (5, [vnl_, vnl_, vnl_, vnl_, vnl_, vnl_, vi0_]))] sz) [(h0, .inr (5, [vrf_ q_1, vrf_ q_2, vrf_ q_3, vrf_ q_4, vrf_ q_5, vrf_ q_6, vi0_])), vazl_ q_1 k.2.2.1 404, vazl_ q_2 k.2.2.1 404, vazl_ q_3 k.2.2.1 404, vazl_ q_4 k.2.2.1 404, vazl_ q_5 k.2.2.1 404, vazl_ q_6 k.2.2.1 404] t) (va_A [(h0, .inr (5, [vnl_, vnl_, vnl_, vnl_, vnl_, vnl_, vi0_]))] sz)) 6 2424 (va_A [(h0, .inr (5, [vnl_, vnl_, vnl_, vnl_, vnl_, vnl_, vi0_]))] sz) := by
  refine Met.ofW (cc := cX5_init) (maxL := 1) (ret := none) (by decide) rfl ?_
  intro p e s m args below meth c s₁ B hml hv
  obtain ⟨rfl, hsz, hP, hKX, hD0⟩ := hv
  have hK := hKX.1
  have hx := B.exec
  have hb := B.bytes
  have hr := B.returns
  have hts := atoms_spec (ws := WS yX5_init cX5_init 1 none) B.pre
  have hgd : ∀ w ∈ gd, w ∈ WS yX5_init cX5_init 1 none := fun w h => List.mem_cons_of_mem _ h
  have hg : ∀ w ∈ gd, w.before _ s = true := fun w h => hts w (hgd w h)
  have hown : s.vm.findClass RX5 = some m.cls := findClass_of_methodNamed B.named
  have hlocks := B.notSynchronized
  have hin : meth.name = "<init>" := (name_of_methodNamed B.named B.method).1
  subst hsz
  have hD := hD0.self (sz := s.heap.size)
  generalize hAe : va_A [(h0, .inr (5, [vnl_, vnl_, vnl_, vnl_, vnl_, vnl_, vi0_]))] s.heap.size = A at hD ⊢
  have hA : ∀ q : Nat, s.heap.size ≤ q → A q := fun q h => by rw [← hAe]; exact Or.inr h
  have hS : va_S A s.heap s.heap [] := va_S.rf
  have hP : va_P D classes [(h0, .inr (5, [vnl_, vnl_, vnl_, vnl_, vnl_, vnl_, vi0_]))] s.heap := hP
  have hl := lv_entry ([.ref h0]) (n := 1) (Nat.le_of_ble_eq_true rfl)
  rw [lg_entry_eq]
  generalize (lg_sl ([.ref h0]) ++ List.replicate (1 - (lg_sl ([.ref h0])).length) Slot.unset).toArray = ls at hl ⊢
  have hl : lv_has ls 1 [(0, .ref h0)] := hl
  refine lv_aload_n hx hb dX5_init_0 rfl (lv_at hl 0 rfl) ?_
  refine W.objInit hx hb hown (hg (Cond.methodLink RX5 3 objectInit) m463) (hg (Cond.instanceMethod objectInit) m144) (hg (Cond.code objectInit ⟨#[0xb1]⟩ 1 none) m145) rfl (by rw [hml]; exact hl.1) rfl dX5_init_1 (Nat.le_of_ble_eq_true rfl) (Nat.le_of_ble_eq_true rfl) ?_
  refine W.eq (g2 := F0 m 4 ls []) rfl ?_
  refine lv_aload_n hx hb dX5_init_4 rfl (lv_at hl 0 rfl) ?_
  refine lv_sipush (v := 404) hx hb dX5_init_5 (by decide) ?_
  refine va_newaT (atype := .long) (ty := .long) (a0 := (404, .inr (.inl (fun _ => 0)))) hx hb (hg (Cond.arrayClass .long) m294) rfl ra_long hK hP hD hS hA 2 rfl (fun _ => rfl) (by decide) (by decide) (Nat.le_of_ble_eq_true rfl) (Nat.le_of_ble_eq_true rfl) (Nat.le_of_ble_eq_true rfl) dX5_init_8 (fun q_1 H hP hD hS => ?_)
  refine W.widen (k := 1) (n := 404) (Nat.le_of_ble_eq_true rfl) (Nat.le_of_ble_eq_true rfl) ?_
  refine va_putF (D := D) (ci := 5) (v := .ref q_1) (ty := (.array .long)) (C := RX5) (T := TX5) (N := 7) hx hb hg iX5 tyX5 tyX5_ok nmX5 hown hK hP hD hS 0 rfl rfl 0 (by decide) (hg (Cond.fieldLink RX5 11 "SlabWalk$Odds" "stepped" "[J") m464) (fun _ h9 => h9) rfl hin rfl (by decide +kernel) rfl rfl (Nat.le_of_ble_eq_true rfl) dX5_init_10 (fun H locs hP hD hS => ?_)
  obtain ⟨ws_, hws_, hP, hD⟩ : ∃ w : va_W, w = [(h0, .inr (5, [vrf_ q_1, vnl_, vnl_, vnl_, vnl_, vnl_, vi0_])), vazl_ q_1 k.2.2.1 404] ∧ va_P D classes w H ∧ va_D A w := ⟨_, rfl, hP, hD⟩
  subst hws_
  refine lv_aload_n hx hb dX5_init_13 rfl (lv_at hl 0 rfl) ?_
  refine lv_sipush (v := 404) hx hb dX5_init_14 (by decide) ?_
  refine va_newaT (atype := .long) (ty := .long) (a0 := (404, .inr (.inl (fun _ => 0)))) hx hb (hg (Cond.arrayClass .long) m294) rfl ra_long hK hP hD hS hA 2 rfl (fun _ => rfl) (by decide) (by decide) (Nat.le_of_ble_eq_true rfl) (Nat.le_of_ble_eq_true rfl) (Nat.le_of_ble_eq_true rfl) dX5_init_17 (fun q_2 H hP hD hS => ?_)
  refine W.widen (k := 2) (n := 808) (Nat.le_of_ble_eq_true rfl) (Nat.le_of_ble_eq_true rfl) ?_
  refine va_putF (D := D) (ci := 5) (v := .ref q_2) (ty := (.array .long)) (C := RX5) (T := TX5) (N := 7) hx hb hg iX5 tyX5 tyX5_ok nmX5 hown hK hP hD hS 0 rfl rfl 1 (by decide) (hg (Cond.fieldLink RX5 15 "SlabWalk$Odds" "leapt" "[J") m465) (fun _ h9 => h9) rfl hin rfl (by decide +kernel) rfl rfl (Nat.le_of_ble_eq_true rfl) dX5_init_19 (fun H locs hP hD hS => ?_)
  obtain ⟨ws_, hws_, hP, hD⟩ : ∃ w : va_W, w = [(h0, .inr (5, [vrf_ q_1, vrf_ q_2, vnl_, vnl_, vnl_, vnl_, vi0_])), vazl_ q_1 k.2.2.1 404, vazl_ q_2 k.2.2.1 404] ∧ va_P D classes w H ∧ va_D A w := ⟨_, rfl, hP, hD⟩
  subst hws_
  refine lv_aload_n hx hb dX5_init_22 rfl (lv_at hl 0 rfl) ?_
  refine lv_sipush (v := 404) hx hb dX5_init_23 (by decide) ?_
  refine va_newaT (atype := .long) (ty := .long) (a0 := (404, .inr (.inl (fun _ => 0)))) hx hb (hg (Cond.arrayClass .long) m294) rfl ra_long hK hP hD hS hA 2 rfl (fun _ => rfl) (by decide) (by decide) (Nat.le_of_ble_eq_true rfl) (Nat.le_of_ble_eq_true rfl) (Nat.le_of_ble_eq_true rfl) dX5_init_26 (fun q_3 H hP hD hS => ?_)
  refine W.widen (k := 3) (n := 1212) (Nat.le_of_ble_eq_true rfl) (Nat.le_of_ble_eq_true rfl) ?_
  refine va_putF (D := D) (ci := 5) (v := .ref q_3) (ty := (.array .long)) (C := RX5) (T := TX5) (N := 7) hx hb hg iX5 tyX5 tyX5_ok nmX5 hown hK hP hD hS 0 rfl rfl 2 (by decide) (hg (Cond.fieldLink RX5 18 "SlabWalk$Odds" "sums" "[J") m466) (fun _ h9 => h9) rfl hin rfl (by decide +kernel) rfl rfl (Nat.le_of_ble_eq_true rfl) dX5_init_28 (fun H locs hP hD hS => ?_)
  obtain ⟨ws_, hws_, hP, hD⟩ : ∃ w : va_W, w = [(h0, .inr (5, [vrf_ q_1, vrf_ q_2, vrf_ q_3, vnl_, vnl_, vnl_, vi0_])), vazl_ q_1 k.2.2.1 404, vazl_ q_2 k.2.2.1 404, vazl_ q_3 k.2.2.1 404] ∧ va_P D classes w H ∧ va_D A w := ⟨_, rfl, hP, hD⟩
  subst hws_
  refine lv_aload_n hx hb dX5_init_31 rfl (lv_at hl 0 rfl) ?_
  refine lv_sipush (v := 404) hx hb dX5_init_32 (by decide) ?_
  refine va_newaT (atype := .long) (ty := .long) (a0 := (404, .inr (.inl (fun _ => 0)))) hx hb (hg (Cond.arrayClass .long) m294) rfl ra_long hK hP hD hS hA 2 rfl (fun _ => rfl) (by decide) (by decide) (Nat.le_of_ble_eq_true rfl) (Nat.le_of_ble_eq_true rfl) (Nat.le_of_ble_eq_true rfl) dX5_init_35 (fun q_4 H hP hD hS => ?_)
  refine W.widen (k := 4) (n := 1616) (Nat.le_of_ble_eq_true rfl) (Nat.le_of_ble_eq_true rfl) ?_
  refine va_putF (D := D) (ci := 5) (v := .ref q_4) (ty := (.array .long)) (C := RX5) (T := TX5) (N := 7) hx hb hg iX5 tyX5 tyX5_ok nmX5 hown hK hP hD hS 0 rfl rfl 3 (by decide) (hg (Cond.fieldLink RX5 21 "SlabWalk$Odds" "steppedSums" "[J") m467) (fun _ h9 => h9) rfl hin rfl (by decide +kernel) rfl rfl (Nat.le_of_ble_eq_true rfl) dX5_init_37 (fun H locs hP hD hS => ?_)
  obtain ⟨ws_, hws_, hP, hD⟩ : ∃ w : va_W, w = [(h0, .inr (5, [vrf_ q_1, vrf_ q_2, vrf_ q_3, vrf_ q_4, vnl_, vnl_, vi0_])), vazl_ q_1 k.2.2.1 404, vazl_ q_2 k.2.2.1 404, vazl_ q_3 k.2.2.1 404, vazl_ q_4 k.2.2.1 404] ∧ va_P D classes w H ∧ va_D A w := ⟨_, rfl, hP, hD⟩
  subst hws_
  refine lv_aload_n hx hb dX5_init_40 rfl (lv_at hl 0 rfl) ?_
  refine lv_sipush (v := 404) hx hb dX5_init_41 (by decide) ?_
  refine va_newaT (atype := .long) (ty := .long) (a0 := (404, .inr (.inl (fun _ => 0)))) hx hb (hg (Cond.arrayClass .long) m294) rfl ra_long hK hP hD hS hA 2 rfl (fun _ => rfl) (by decide) (by decide) (Nat.le_of_ble_eq_true rfl) (Nat.le_of_ble_eq_true rfl) (Nat.le_of_ble_eq_true rfl) dX5_init_44 (fun q_5 H hP hD hS => ?_)
  refine W.widen (k := 5) (n := 2020) (Nat.le_of_ble_eq_true rfl) (Nat.le_of_ble_eq_true rfl) ?_
  refine va_putF (D := D) (ci := 5) (v := .ref q_5) (ty := (.array .long)) (C := RX5) (T := TX5) (N := 7) hx hb hg iX5 tyX5 tyX5_ok nmX5 hown hK hP hD hS 0 rfl rfl 4 (by decide) (hg (Cond.fieldLink RX5 24 "SlabWalk$Odds" "odds" "[J") m468) (fun _ h9 => h9) rfl hin rfl (by decide +kernel) rfl rfl (Nat.le_of_ble_eq_true rfl) dX5_init_46 (fun H locs hP hD hS => ?_)
  obtain ⟨ws_, hws_, hP, hD⟩ : ∃ w : va_W, w = [(h0, .inr (5, [vrf_ q_1, vrf_ q_2, vrf_ q_3, vrf_ q_4, vrf_ q_5, vnl_, vi0_])), vazl_ q_1 k.2.2.1 404, vazl_ q_2 k.2.2.1 404, vazl_ q_3 k.2.2.1 404, vazl_ q_4 k.2.2.1 404, vazl_ q_5 k.2.2.1 404] ∧ va_P D classes w H ∧ va_D A w := ⟨_, rfl, hP, hD⟩
  subst hws_
  refine lv_aload_n hx hb dX5_init_49 rfl (lv_at hl 0 rfl) ?_
  refine lv_sipush (v := 404) hx hb dX5_init_50 (by decide) ?_
  refine va_newaT (atype := .long) (ty := .long) (a0 := (404, .inr (.inl (fun _ => 0)))) hx hb (hg (Cond.arrayClass .long) m294) rfl ra_long hK hP hD hS hA 2 rfl (fun _ => rfl) (by decide) (by decide) (Nat.le_of_ble_eq_true rfl) (Nat.le_of_ble_eq_true rfl) (Nat.le_of_ble_eq_true rfl) dX5_init_53 (fun q_6 H hP hD hS => ?_)
  refine W.widen (k := 6) (n := 2424) (Nat.le_of_ble_eq_true rfl) (Nat.le_of_ble_eq_true rfl) ?_
  refine va_putF (D := D) (ci := 5) (v := .ref q_6) (ty := (.array .long)) (C := RX5) (T := TX5) (N := 7) hx hb hg iX5 tyX5 tyX5_ok nmX5 hown hK hP hD hS 0 rfl rfl 5 (by decide) (hg (Cond.fieldLink RX5 27 "SlabWalk$Odds" "aims" "[J") m469) (fun _ h9 => h9) rfl hin rfl (by decide +kernel) rfl rfl (Nat.le_of_ble_eq_true rfl) dX5_init_55 (fun H locs hP hD hS => ?_)
  obtain ⟨ws_, hws_, hP, hD⟩ : ∃ w : va_W, w = [(h0, .inr (5, [vrf_ q_1, vrf_ q_2, vrf_ q_3, vrf_ q_4, vrf_ q_5, vrf_ q_6, vi0_])), vazl_ q_1 k.2.2.1 404, vazl_ q_2 k.2.2.1 404, vazl_ q_3 k.2.2.1 404, vazl_ q_4 k.2.2.1 404, vazl_ q_5 k.2.2.1 404, vazl_ q_6 k.2.2.1 404] ∧ va_P D classes w H ∧ va_D A w := ⟨_, rfl, hP, hD⟩
  subst hws_
  exact W.vret hx hb hr (fun t ht hW => ⟨⟨(), rfl, trivial, ⟨q_1, q_2, q_3, q_4, q_5, q_6, cB_of ht hP hD⟩⟩, hS.F ht⟩) hS.2.2 dX5_init_58

set_option maxHeartbeats 4000000 in
set_option maxRecDepth 100000 in
theorem q_X1 (l : Launch) (D : va_G) (k : KT) (sz : Nat) (h0 : Nat)  : Met l yX1_init (WS yX1_init cX1_init 1 none) ({ frames := 1, cells := 3, slots := 450, locals := 12 }) (va_Pc [.ref h0] (cQ D k [(h0, .inr (1, [vnl_, vnl_, vnl_, vi0_, vi0_, vi0_]))] sz)) (va_Qv (fun _ : Unit => True) (fun (_ : Unit) t => ∃ (q_1 : Nat), ∃ (q_2 : Nat), ∃ (q_3 : Nat), cB D (va_A [(h0, .inr (1, [vnl_, vnl_, vnl_, vi0_, vi0_, vi0_]))] sz) [(h0, .inr (1, [vrf_ q_1, vrf_ q_2, vrf_ q_3, vi0_, vi0_, vi0_])), vaz_ q_1 k.2.1 10, vaz_ q_2 k.2.1 410, vaz_ q_3 k.2.1 30] t) (va_A [(h0, .inr (1, [vnl_, vnl_, vnl_, vi0_, vi0_, vi0_]))] sz)) 3 450 (va_A [(h0, .inr (1, [vnl_, vnl_, vnl_, vi0_, vi0_, vi0_]))] sz) := by
  refine Met.ofW (cc := cX1_init) (maxL := 1) (ret := none) (by decide) rfl ?_
  intro p e s m args below meth c s₁ B hml hv
  obtain ⟨rfl, hsz, hP, hKX, hD0⟩ := hv
  have hK := hKX.1
  have hx := B.exec
  have hb := B.bytes
  have hr := B.returns
  have hts := atoms_spec (ws := WS yX1_init cX1_init 1 none) B.pre
  have hgd : ∀ w ∈ gd, w ∈ WS yX1_init cX1_init 1 none := fun w h => List.mem_cons_of_mem _ h
  have hg : ∀ w ∈ gd, w.before _ s = true := fun w h => hts w (hgd w h)
  have hown : s.vm.findClass RX1 = some m.cls := findClass_of_methodNamed B.named
  have hlocks := B.notSynchronized
  have hin : meth.name = "<init>" := (name_of_methodNamed B.named B.method).1
  subst hsz
  have hD := hD0.self (sz := s.heap.size)
  generalize hAe : va_A [(h0, .inr (1, [vnl_, vnl_, vnl_, vi0_, vi0_, vi0_]))] s.heap.size = A at hD ⊢
  have hA : ∀ q : Nat, s.heap.size ≤ q → A q := fun q h => by rw [← hAe]; exact Or.inr h
  have hS : va_S A s.heap s.heap [] := va_S.rf
  have hP : va_P D classes [(h0, .inr (1, [vnl_, vnl_, vnl_, vi0_, vi0_, vi0_]))] s.heap := hP
  have hl := lv_entry ([.ref h0]) (n := 1) (Nat.le_of_ble_eq_true rfl)
  rw [lg_entry_eq]
  generalize (lg_sl ([.ref h0]) ++ List.replicate (1 - (lg_sl ([.ref h0])).length) Slot.unset).toArray = ls at hl ⊢
  have hl : lv_has ls 1 [(0, .ref h0)] := hl
  refine lv_aload_n hx hb dX1_init_0 rfl (lv_at hl 0 rfl) ?_
  refine W.objInit hx hb hown (hg (Cond.methodLink RX1 3 objectInit) m491) (hg (Cond.instanceMethod objectInit) m144) (hg (Cond.code objectInit ⟨#[0xb1]⟩ 1 none) m145) rfl (by rw [hml]; exact hl.1) rfl dX1_init_1 (Nat.le_of_ble_eq_true rfl) (Nat.le_of_ble_eq_true rfl) ?_
  refine W.eq (g2 := F0 m 4 ls []) rfl ?_
  refine lv_aload_n hx hb dX1_init_4 rfl (lv_at hl 0 rfl) ?_
  refine lv_bipush (v := 10) hx hb dX1_init_5 (by decide) ?_
  refine va_newaT (atype := .int) (ty := .int) (a0 := (10, .inl (fun _ => 0))) hx hb (hg (Cond.arrayClass .int) m245) rfl ra_int hK hP hD hS hA 1 rfl (fun _ => rfl) (by decide) (by decide) (Nat.le_of_ble_eq_true rfl) (Nat.le_of_ble_eq_true rfl) (Nat.le_of_ble_eq_true rfl) dX1_init_7 (fun q_1 H hP hD hS => ?_)
  refine W.widen (k := 1) (n := 10) (Nat.le_of_ble_eq_true rfl) (Nat.le_of_ble_eq_true rfl) ?_
  refine va_putF (D := D) (ci := 1) (v := .ref q_1) (ty := (.array .int)) (C := RX1) (T := TX1) (N := 6) hx hb hg iX1 tyX1 tyX1_ok nmX1 hown hK hP hD hS 0 rfl rfl 0 (by decide) (hg (Cond.fieldLink RX1 11 "SlabWalk$Earnest" "now" "[I") m492) (fun _ h9 => h9) rfl hin rfl (by decide +kernel) rfl rfl (Nat.le_of_ble_eq_true rfl) dX1_init_9 (fun H locs hP hD hS => ?_)
  obtain ⟨ws_, hws_, hP, hD⟩ : ∃ w : va_W, w = [(h0, .inr (1, [vrf_ q_1, vnl_, vnl_, vi0_, vi0_, vi0_])), vaz_ q_1 k.2.1 10] ∧ va_P D classes w H ∧ va_D A w := ⟨_, rfl, hP, hD⟩
  subst hws_
  refine lv_aload_n hx hb dX1_init_12 rfl (lv_at hl 0 rfl) ?_
  refine lv_sipush (v := 410) hx hb dX1_init_13 (by decide) ?_
  refine va_newaT (atype := .int) (ty := .int) (a0 := (410, .inl (fun _ => 0))) hx hb (hg (Cond.arrayClass .int) m245) rfl ra_int hK hP hD hS hA 1 rfl (fun _ => rfl) (by decide) (by decide) (Nat.le_of_ble_eq_true rfl) (Nat.le_of_ble_eq_true rfl) (Nat.le_of_ble_eq_true rfl) dX1_init_16 (fun q_2 H hP hD hS => ?_)
  refine W.widen (k := 2) (n := 420) (Nat.le_of_ble_eq_true rfl) (Nat.le_of_ble_eq_true rfl) ?_
  refine va_putF (D := D) (ci := 1) (v := .ref q_2) (ty := (.array .int)) (C := RX1) (T := TX1) (N := 6) hx hb hg iX1 tyX1 tyX1_ok nmX1 hown hK hP hD hS 0 rfl rfl 1 (by decide) (hg (Cond.fieldLink RX1 15 "SlabWalk$Earnest" "kept" "[I") m494) (fun _ h9 => h9) rfl hin rfl (by decide +kernel) rfl rfl (Nat.le_of_ble_eq_true rfl) dX1_init_18 (fun H locs hP hD hS => ?_)
  obtain ⟨ws_, hws_, hP, hD⟩ : ∃ w : va_W, w = [(h0, .inr (1, [vrf_ q_1, vrf_ q_2, vnl_, vi0_, vi0_, vi0_])), vaz_ q_1 k.2.1 10, vaz_ q_2 k.2.1 410] ∧ va_P D classes w H ∧ va_D A w := ⟨_, rfl, hP, hD⟩
  subst hws_
  refine lv_aload_n hx hb dX1_init_21 rfl (lv_at hl 0 rfl) ?_
  refine lv_bipush (v := 30) hx hb dX1_init_22 (by decide) ?_
  refine va_newaT (atype := .int) (ty := .int) (a0 := (30, .inl (fun _ => 0))) hx hb (hg (Cond.arrayClass .int) m245) rfl ra_int hK hP hD hS hA 1 rfl (fun _ => rfl) (by decide) (by decide) (Nat.le_of_ble_eq_true rfl) (Nat.le_of_ble_eq_true rfl) (Nat.le_of_ble_eq_true rfl) dX1_init_24 (fun q_3 H hP hD hS => ?_)
  refine W.widen (k := 3) (n := 450) (Nat.le_of_ble_eq_true rfl) (Nat.le_of_ble_eq_true rfl) ?_
  refine va_putF (D := D) (ci := 1) (v := .ref q_3) (ty := (.array .int)) (C := RX1) (T := TX1) (N := 6) hx hb hg iX1 tyX1 tyX1_ok nmX1 hown hK hP hD hS 0 rfl rfl 2 (by decide) (hg (Cond.fieldLink RX1 18 "SlabWalk$Earnest" "boxes" "[I") m495) (fun _ h9 => h9) rfl hin rfl (by decide +kernel) rfl rfl (Nat.le_of_ble_eq_true rfl) dX1_init_26 (fun H locs hP hD hS => ?_)
  obtain ⟨ws_, hws_, hP, hD⟩ : ∃ w : va_W, w = [(h0, .inr (1, [vrf_ q_1, vrf_ q_2, vrf_ q_3, vi0_, vi0_, vi0_])), vaz_ q_1 k.2.1 10, vaz_ q_2 k.2.1 410, vaz_ q_3 k.2.1 30] ∧ va_P D classes w H ∧ va_D A w := ⟨_, rfl, hP, hD⟩
  subst hws_
  exact W.vret hx hb hr (fun t ht hW => ⟨⟨(), rfl, trivial, ⟨q_1, q_2, q_3, cB_of ht hP hD⟩⟩, hS.F ht⟩) hS.2.2 dX1_init_29

set_option maxHeartbeats 4000000 in
set_option maxRecDepth 100000 in
theorem q_X8 (l : Launch) (D : va_G) (k : KT) (sz : Nat) (h0 : Nat)  : Met l yX8_init (WS yX8_init cX8_init 1 none) ({ frames := 1, cells := 5, slots := 100, locals := 12 }) (va_Pc [.ref h0] (cQ D k [(h0, .inr (8, [vnl_, vnl_, vnl_, vnl_, vnl_, vi0_, vi0_]))] sz)) (va_Qv (fun _ : Unit => True) (fun (_ : Unit) t => ∃ (q_1 : Nat), ∃ (q_2 : Nat), ∃ (q_3 : Nat), ∃ (q_4 : Nat), ∃ (q_5 : Nat), cB D (va_A [(h0, .inr (8, [vnl_, vnl_, vnl_, vnl_, vnl_, vi0_, vi0_]))] sz) [(h0, .inr (8, [vrf_ q_1, vrf_ q_2, vrf_ q_3, vrf_ q_4, vrf_ q_5, vi0_, vi0_])), vaz_ q_1 k.2.1 20, vaz_ q_2 k.2.1 20, vaz_ q_3 k.2.1 20, vaz_ q_4 k.2.1 20, vaz_ q_5 k.2.1 20] t) (va_A [(h0, .inr (8, [vnl_, vnl_, vnl_, vnl_, vnl_, vi0_, vi0_]))] sz)) 5 100 (va_A [(h0, .inr (8, [vnl_, vnl_, vnl_, vnl_, vnl_, vi0_, vi0_]))] sz) := by
  refine Met.ofW (cc := cX8_init) (maxL := 1) (ret := none) (by decide) rfl ?_
  intro p e s m args below meth c s₁ B hml hv
  obtain ⟨rfl, hsz, hP, hKX, hD0⟩ := hv
  have hK := hKX.1
  have hx := B.exec
  have hb := B.bytes
  have hr := B.returns
  have hts := atoms_spec (ws := WS yX8_init cX8_init 1 none) B.pre
  have hgd : ∀ w ∈ gd, w ∈ WS yX8_init cX8_init 1 none := fun w h => List.mem_cons_of_mem _ h
  have hg : ∀ w ∈ gd, w.before _ s = true := fun w h => hts w (hgd w h)
  have hown : s.vm.findClass RX8 = some m.cls := findClass_of_methodNamed B.named
  have hlocks := B.notSynchronized
  have hin : meth.name = "<init>" := (name_of_methodNamed B.named B.method).1
  subst hsz
  have hD := hD0.self (sz := s.heap.size)
  generalize hAe : va_A [(h0, .inr (8, [vnl_, vnl_, vnl_, vnl_, vnl_, vi0_, vi0_]))] s.heap.size = A at hD ⊢
  have hA : ∀ q : Nat, s.heap.size ≤ q → A q := fun q h => by rw [← hAe]; exact Or.inr h
  have hS : va_S A s.heap s.heap [] := va_S.rf
  have hP : va_P D classes [(h0, .inr (8, [vnl_, vnl_, vnl_, vnl_, vnl_, vi0_, vi0_]))] s.heap := hP
  have hl := lv_entry ([.ref h0]) (n := 1) (Nat.le_of_ble_eq_true rfl)
  rw [lg_entry_eq]
  generalize (lg_sl ([.ref h0]) ++ List.replicate (1 - (lg_sl ([.ref h0])).length) Slot.unset).toArray = ls at hl ⊢
  have hl : lv_has ls 1 [(0, .ref h0)] := hl
  refine lv_aload_n hx hb dX8_init_0 rfl (lv_at hl 0 rfl) ?_
  refine W.objInit hx hb hown (hg (Cond.methodLink RX8 3 objectInit) m519) (hg (Cond.instanceMethod objectInit) m144) (hg (Cond.code objectInit ⟨#[0xb1]⟩ 1 none) m145) rfl (by rw [hml]; exact hl.1) rfl dX8_init_1 (Nat.le_of_ble_eq_true rfl) (Nat.le_of_ble_eq_true rfl) ?_
  refine W.eq (g2 := F0 m 4 ls []) rfl ?_
  refine lv_aload_n hx hb dX8_init_4 rfl (lv_at hl 0 rfl) ?_
  refine lv_bipush (v := 20) hx hb dX8_init_5 (by decide) ?_
  refine va_newaT (atype := .int) (ty := .int) (a0 := (20, .inl (fun _ => 0))) hx hb (hg (Cond.arrayClass .int) m245) rfl ra_int hK hP hD hS hA 1 rfl (fun _ => rfl) (by decide) (by decide) (Nat.le_of_ble_eq_true rfl) (Nat.le_of_ble_eq_true rfl) (Nat.le_of_ble_eq_true rfl) dX8_init_7 (fun q_1 H hP hD hS => ?_)
  refine W.widen (k := 1) (n := 20) (Nat.le_of_ble_eq_true rfl) (Nat.le_of_ble_eq_true rfl) ?_
  refine va_putF (D := D) (ci := 8) (v := .ref q_1) (ty := (.array .int)) (C := RX8) (T := TX8) (N := 7) hx hb hg iX8 tyX8 tyX8_ok nmX8 hown hK hP hD hS 0 rfl rfl 0 (by decide) (hg (Cond.fieldLink RX8 11 "SlabWalk$Sights" "walker" "[I") m520) (fun _ h9 => h9) rfl hin rfl (by decide +kernel) rfl rfl (Nat.le_of_ble_eq_true rfl) dX8_init_9 (fun H locs hP hD hS => ?_)
  obtain ⟨ws_, hws_, hP, hD⟩ : ∃ w : va_W, w = [(h0, .inr (8, [vrf_ q_1, vnl_, vnl_, vnl_, vnl_, vi0_, vi0_])), vaz_ q_1 k.2.1 20] ∧ va_P D classes w H ∧ va_D A w := ⟨_, rfl, hP, hD⟩
  subst hws_
  refine lv_aload_n hx hb dX8_init_12 rfl (lv_at hl 0 rfl) ?_
  refine lv_bipush (v := 20) hx hb dX8_init_13 (by decide) ?_
  refine va_newaT (atype := .int) (ty := .int) (a0 := (20, .inl (fun _ => 0))) hx hb (hg (Cond.arrayClass .int) m245) rfl ra_int hK hP hD hS hA 1 rfl (fun _ => rfl) (by decide) (by decide) (Nat.le_of_ble_eq_true rfl) (Nat.le_of_ble_eq_true rfl) (Nat.le_of_ble_eq_true rfl) dX8_init_15 (fun q_2 H hP hD hS => ?_)
  refine W.widen (k := 2) (n := 40) (Nat.le_of_ble_eq_true rfl) (Nat.le_of_ble_eq_true rfl) ?_
  refine va_putF (D := D) (ci := 8) (v := .ref q_2) (ty := (.array .int)) (C := RX8) (T := TX8) (N := 7) hx hb hg iX8 tyX8 tyX8_ok nmX8 hown hK hP hD hS 0 rfl rfl 1 (by decide) (hg (Cond.fieldLink RX8 15 "SlabWalk$Sights" "street" "[I") m522) (fun _ h9 => h9) rfl hin rfl (by decide +kernel) rfl rfl (Nat.le_of_ble_eq_true rfl) dX8_init_17 (fun H locs hP hD hS => ?_)
  obtain ⟨ws_, hws_, hP, hD⟩ : ∃ w : va_W, w = [(h0, .inr (8, [vrf_ q_1, vrf_ q_2, vnl_, vnl_, vnl_, vi0_, vi0_])), vaz_ q_1 k.2.1 20, vaz_ q_2 k.2.1 20] ∧ va_P D classes w H ∧ va_D A w := ⟨_, rfl, hP, hD⟩
  subst hws_
  refine lv_aload_n hx hb dX8_init_20 rfl (lv_at hl 0 rfl) ?_
  refine lv_bipush (v := 20) hx hb dX8_init_21 (by decide) ?_
  refine va_newaT (atype := .int) (ty := .int) (a0 := (20, .inl (fun _ => 0))) hx hb (hg (Cond.arrayClass .int) m245) rfl ra_int hK hP hD hS hA 1 rfl (fun _ => rfl) (by decide) (by decide) (Nat.le_of_ble_eq_true rfl) (Nat.le_of_ble_eq_true rfl) (Nat.le_of_ble_eq_true rfl) dX8_init_23 (fun q_3 H hP hD hS => ?_)
  refine W.widen (k := 3) (n := 60) (Nat.le_of_ble_eq_true rfl) (Nat.le_of_ble_eq_true rfl) ?_
  refine va_putF (D := D) (ci := 8) (v := .ref q_3) (ty := (.array .int)) (C := RX8) (T := TX8) (N := 7) hx hb hg iX8 tyX8 tyX8_ok nmX8 hown hK hP hD hS 0 rfl rfl 2 (by decide) (hg (Cond.fieldLink RX8 18 "SlabWalk$Sights" "heel" "[I") m524) (fun _ h9 => h9) rfl hin rfl (by decide +kernel) rfl rfl (Nat.le_of_ble_eq_true rfl) dX8_init_25 (fun H locs hP hD hS => ?_)
  obtain ⟨ws_, hws_, hP, hD⟩ : ∃ w : va_W, w = [(h0, .inr (8, [vrf_ q_1, vrf_ q_2, vrf_ q_3, vnl_, vnl_, vi0_, vi0_])), vaz_ q_1 k.2.1 20, vaz_ q_2 k.2.1 20, vaz_ q_3 k.2.1 20] ∧ va_P D classes w H ∧ va_D A w := ⟨_, rfl, hP, hD⟩
  subst hws_
  refine lv_aload_n hx hb dX8_init_28 rfl (lv_at hl 0 rfl) ?_
  refine lv_bipush (v := 20) hx hb dX8_init_29 (by decide) ?_
  refine va_newaT (atype := .int) (ty := .int) (a0 := (20, .inl (fun _ => 0))) hx hb (hg (Cond.arrayClass .int) m245) rfl ra_int hK hP hD hS hA 1 rfl (fun _ => rfl) (by decide) (by decide) (Nat.le_of_ble_eq_true rfl) (Nat.le_of_ble_eq_true rfl) (Nat.le_of_ble_eq_true rfl) dX8_init_31 (fun q_4 H hP hD hS => ?_)
  refine W.widen (k := 4) (n := 80) (Nat.le_of_ble_eq_true rfl) (Nat.le_of_ble_eq_true rfl) ?_
  refine va_putF (D := D) (ci := 8) (v := .ref q_4) (ty := (.array .int)) (C := RX8) (T := TX8) (N := 7) hx hb hg iX8 tyX8 tyX8_ok nmX8 hown hK hP hD hS 0 rfl rfl 3 (by decide) (hg (Cond.fieldLink RX8 21 "SlabWalk$Sights" "told" "[I") m526) (fun _ h9 => h9) rfl hin rfl (by decide +kernel) rfl rfl (Nat.le_of_ble_eq_true rfl) dX8_init_33 (fun H locs hP hD hS => ?_)
  obtain ⟨ws_, hws_, hP, hD⟩ : ∃ w : va_W, w = [(h0, .inr (8, [vrf_ q_1, vrf_ q_2, vrf_ q_3, vrf_ q_4, vnl_, vi0_, vi0_])), vaz_ q_1 k.2.1 20, vaz_ q_2 k.2.1 20, vaz_ q_3 k.2.1 20, vaz_ q_4 k.2.1 20] ∧ va_P D classes w H ∧ va_D A w := ⟨_, rfl, hP, hD⟩
  subst hws_
  refine lv_aload_n hx hb dX8_init_36 rfl (lv_at hl 0 rfl) ?_
  refine lv_bipush (v := 20) hx hb dX8_init_37 (by decide) ?_
  refine va_newaT (atype := .int) (ty := .int) (a0 := (20, .inl (fun _ => 0))) hx hb (hg (Cond.arrayClass .int) m245) rfl ra_int hK hP hD hS hA 1 rfl (fun _ => rfl) (by decide) (by decide) (Nat.le_of_ble_eq_true rfl) (Nat.le_of_ble_eq_true rfl) (Nat.le_of_ble_eq_true rfl) dX8_init_39 (fun q_5 H hP hD hS => ?_)
  refine W.widen (k := 5) (n := 100) (Nat.le_of_ble_eq_true rfl) (Nat.le_of_ble_eq_true rfl) ?_
  refine va_putF (D := D) (ci := 8) (v := .ref q_5) (ty := (.array .int)) (C := RX8) (T := TX8) (N := 7) hx hb hg iX8 tyX8 tyX8_ok nmX8 hown hK hP hD hS 0 rfl rfl 4 (by decide) (hg (Cond.fieldLink RX8 24 "SlabWalk$Sights" "untold" "[I") m527) (fun _ h9 => h9) rfl hin rfl (by decide +kernel) rfl rfl (Nat.le_of_ble_eq_true rfl) dX8_init_41 (fun H locs hP hD hS => ?_)
  obtain ⟨ws_, hws_, hP, hD⟩ : ∃ w : va_W, w = [(h0, .inr (8, [vrf_ q_1, vrf_ q_2, vrf_ q_3, vrf_ q_4, vrf_ q_5, vi0_, vi0_])), vaz_ q_1 k.2.1 20, vaz_ q_2 k.2.1 20, vaz_ q_3 k.2.1 20, vaz_ q_4 k.2.1 20, vaz_ q_5 k.2.1 20] ∧ va_P D classes w H ∧ va_D A w := ⟨_, rfl, hP, hD⟩
  subst hws_
  exact W.vret hx hb hr (fun t ht hW => ⟨⟨(), rfl, trivial, ⟨q_1, q_2, q_3, q_4, q_5, cB_of ht hP hD⟩⟩, hS.F ht⟩) hS.2.2 dX8_init_44

set_option maxHeartbeats 4000000 in
set_option maxRecDepth 100000 in
theorem q_forget (l : Launch) (D : va_G) (k : KT) (sz : Nat) (h0 nw kp v_boxes : Nat) (v_full v_done v_undone : Int32) (f1 f2 : Nat → Int32)  : Met l yX1_forgetActs (WS yX1_forgetActs cX1_forgetActs 1 none) ({ frames := 1, cells := 0, slots := 0, locals := 40 }) (va_Pc [.ref h0] (cQ D k [(h0, .inr (1, [vrf_ nw, vrf_ kp, vrf_ v_boxes, .int v_full, .int v_done, .int v_undone])), (nw, .inl (k.2.1, 10, .inl f1)), (kp, .inl (k.2.1, 410, .inl f2))] sz)) (va_Qv (fun _ : Unit => True) (fun (_ : Unit) t => cB D (va_A [(h0, .inr (1, [vrf_ nw, vrf_ kp, vrf_ v_boxes, .int v_full, .int v_done, .int v_undone])), (nw, .inl (k.2.1, 10, .inl f1)), (kp, .inl (k.2.1, 410, .inl f2))] sz) [(h0, .inr (1, [vrf_ nw, vrf_ kp, vrf_ v_boxes, .int v_full, vi0_, vi0_])), (nw, .inl (k.2.1, 10, .inl f1)), (kp, .inl (k.2.1, 410, .inl (va_cpy f1 f2 (0 : Int32).toNatClampNeg (0 : Int32).toNatClampNeg (10 : Int32).toNatClampNeg)))] t) (va_A [(h0, .inr (1, [vrf_ nw, vrf_ kp, vrf_ v_boxes, .int v_full, .int v_done, .int v_undone])), (nw, .inl (k.2.1, 10, .inl f1)), (kp, .inl (k.2.1, 410, .inl f2))] sz)) 0 0 (va_A [(h0, .inr (1, [vrf_ nw, vrf_ kp, vrf_ v_boxes, .int v_full, .int v_done, .int v_undone])), (nw, .inl (k.2.1, 10, .inl f1)), (kp, .inl (k.2.1, 410, .inl f2))] sz) := by
  refine Met.ofW (cc := cX1_forgetActs) (maxL := 1) (ret := none) (by decide) rfl ?_
  intro p e s m args below meth c s₁ B hml hv
  obtain ⟨rfl, hsz, hP, hKX, hD0⟩ := hv
  have hK := hKX.1
  have hx := B.exec
  have hb := B.bytes
  have hr := B.returns
  have hts := atoms_spec (ws := WS yX1_forgetActs cX1_forgetActs 1 none) B.pre
  have hgd : ∀ w ∈ gd, w ∈ WS yX1_forgetActs cX1_forgetActs 1 none := fun w h => List.mem_cons_of_mem _ h
  have hg : ∀ w ∈ gd, w.before _ s = true := fun w h => hts w (hgd w h)
  have hown : s.vm.findClass RX1 = some m.cls := findClass_of_methodNamed B.named
  have hlocks := B.notSynchronized
  subst hsz
  have hD := hD0.self (sz := s.heap.size)
  generalize hAe : va_A [(h0, .inr (1, [vrf_ nw, vrf_ kp, vrf_ v_boxes, .int v_full, .int v_done, .int v_undone])), (nw, .inl (k.2.1, 10, .inl f1)), (kp, .inl (k.2.1, 410, .inl f2))] s.heap.size = A at hD ⊢
  have hA : ∀ q : Nat, s.heap.size ≤ q → A q := fun q h => by rw [← hAe]; exact Or.inr h
  have hS : va_S A s.heap s.heap [] := va_S.rf
  have hP : va_P D classes [(h0, .inr (1, [vrf_ nw, vrf_ kp, vrf_ v_boxes, .int v_full, .int v_done, .int v_undone])), (nw, .inl (k.2.1, 10, .inl f1)), (kp, .inl (k.2.1, 410, .inl f2))] s.heap := hP
  have hl := lv_entry ([.ref h0]) (n := 1) (Nat.le_of_ble_eq_true rfl)
  rw [lg_entry_eq]
  generalize (lg_sl ([.ref h0]) ++ List.replicate (1 - (lg_sl ([.ref h0])).length) Slot.unset).toArray = ls at hl ⊢
  have hl : lv_has ls 1 [(0, .ref h0)] := hl
  refine lv_aload_n hx hb dX1_forgetActs_0 rfl (lv_at hl 0 rfl) ?_
  refine lv_iconst (v := 0) hx hb dX1_forgetActs_1 (by decide) ?_
  refine va_put (D := D) (ci := 1) (v := .int 0) (ty := .int) (C := RX1) (T := TX1) (N := 6) hx hb hg iX1 tyX1 tyX1_ok nmX1 hown hK hP hD hS 0 rfl rfl 4 (by decide) (hg (Cond.fieldLink RX1 34 "SlabWalk$Earnest" "done" "I") m497) (fun _ h9 => h9) rfl (by decide +kernel) rfl rfl (Nat.le_of_ble_eq_true rfl) dX1_forgetActs_2 (fun H locs hP hD hS => ?_)
  obtain ⟨ws_, hws_, hP, hD⟩ : ∃ w : va_W, w = [(h0, .inr (1, [vrf_ nw, vrf_ kp, vrf_ v_boxes, .int v_full, vi0_, .int v_undone])), (nw, .inl (k.2.1, 10, .inl f1)), (kp, .inl (k.2.1, 410, .inl f2))] ∧ va_P D classes w H ∧ va_D A w := ⟨_, rfl, hP, hD⟩
  subst hws_
  refine lv_aload_n hx hb dX1_forgetActs_5 rfl (lv_at hl 0 rfl) ?_
  refine lv_iconst (v := 0) hx hb dX1_forgetActs_6 (by decide) ?_
  refine va_put (D := D) (ci := 1) (v := .int 0) (ty := .int) (C := RX1) (T := TX1) (N := 6) hx hb hg iX1 tyX1 tyX1_ok nmX1 hown hK hP hD hS 0 rfl rfl 5 (by decide) (hg (Cond.fieldLink RX1 37 "SlabWalk$Earnest" "undone" "I") m499) (fun _ h9 => h9) rfl (by decide +kernel) rfl rfl (Nat.le_of_ble_eq_true rfl) dX1_forgetActs_7 (fun H locs hP hD hS => ?_)
  obtain ⟨ws_, hws_, hP, hD⟩ : ∃ w : va_W, w = [(h0, .inr (1, [vrf_ nw, vrf_ kp, vrf_ v_boxes, .int v_full, vi0_, vi0_])), (nw, .inl (k.2.1, 10, .inl f1)), (kp, .inl (k.2.1, 410, .inl f2))] ∧ va_P D classes w H ∧ va_D A w := ⟨_, rfl, hP, hD⟩
  subst hws_
  refine lv_aload_n hx hb dX1_forgetActs_10 rfl (lv_at hl 0 rfl) ?_
  refine va_get (D := D) (ci := 1) (v := .ref nw) (C := RX1) (T := TX1) (N := 6) hx hb hg iX1 hown hK hP 0 rfl rfl 0 (by decide) (hg (Cond.fieldLink RX1 11 "SlabWalk$Earnest" "now" "[I") m492) (fun _ h9 => h9) rfl dX1_forgetActs_11 ?_
  refine lv_iconst (v := 0) hx hb dX1_forgetActs_14 (by decide) ?_
  refine lv_aload_n hx hb dX1_forgetActs_15 rfl (lv_at hl 0 rfl) ?_
  refine va_get (D := D) (ci := 1) (v := .ref kp) (C := RX1) (T := TX1) (N := 6) hx hb hg iX1 hown hK hP 0 rfl rfl 1 (by decide) (hg (Cond.fieldLink RX1 15 "SlabWalk$Earnest" "kept" "[I") m494) (fun _ h9 => h9) rfl dX1_forgetActs_16 ?_
  refine lv_iconst (v := 0) hx hb dX1_forgetActs_19 (by decide) ?_
  refine lv_bipush (v := 10) hx hb dX1_forgetActs_20 (by decide) ?_
  refine va_copyi hx hb (by rw [hml]; exact hl.1.symm) hown (hg (Cond.methodLink RX1 40 arraycopyName) m567) (hg (Cond.native arraycopyName) m569) (hg (Cond.static arraycopyName) m568) (hg (Cond.initialized "java/lang/System") m130) hK hP hD hS 1 2 1 1 rfl rfl rfl rfl rfl (by decide) (by decide) (by decide) (by decide) (by decide) (fun _ _ => rfl) (Nat.le_of_ble_eq_true rfl) (by decide +kernel) dX1_forgetActs_22 (fun H locs hP hD hS => ?_)
  obtain ⟨ws_, hws_, hP, hD⟩ : ∃ w : va_W, w = [(h0, .inr (1, [vrf_ nw, vrf_ kp, vrf_ v_boxes, .int v_full, vi0_, vi0_])), (nw, .inl (k.2.1, 10, .inl f1)), (kp, .inl (k.2.1, 410, .inl (va_cpy f1 f2 (0 : Int32).toNatClampNeg (0 : Int32).toNatClampNeg (10 : Int32).toNatClampNeg)))] ∧ va_P D classes w H ∧ va_D A w := ⟨_, rfl, hP, hD⟩
  subst hws_
  exact W.vret hx hb hr (fun t ht hW => ⟨⟨(), rfl, trivial, cB_of ht hP hD⟩, hS.F ht⟩) hS.2.2 dX1_forgetActs_25

set_option maxHeartbeats 4000000 in
set_option maxRecDepth 100000 in
theorem q_anewE (l : Launch) (D : va_G) (k : KT) (sz : Nat) (h0 nw kp v_boxes : Nat) (p0 v_full v_done v_undone : Int32) (f1 f2 : Nat → Int32)  : Met l yX1_startAnew (WS yX1_startAnew cX1_startAnew 2 none) ({ frames := 2, cells := 0, slots := 0, locals := 60 }) (va_Pc [.ref h0, .int p0] (cQ D k [(h0, .inr (1, [vrf_ nw, vrf_ kp, vrf_ v_boxes, .int v_full, .int v_done, .int v_undone])), (nw, .inl (k.2.1, 10, .inl f1)), (kp, .inl (k.2.1, 410, .inl f2))] sz)) (va_Qv (fun _ : Unit => True) (fun (_ : Unit) t => cB D (va_A [(h0, .inr (1, [vrf_ nw, vrf_ kp, vrf_ v_boxes, .int v_full, .int v_done, .int v_undone])), (nw, .inl (k.2.1, 10, .inl f1)), (kp, .inl (k.2.1, 410, .inl f2))] sz) [(h0, .inr (1, [vrf_ nw, vrf_ kp, vrf_ v_boxes, vi0_, vi0_, vi0_])), (nw, .inl (k.2.1, 10, .inl (upd (upd (upd (upd (upd (upd (upd (upd (upd (upd (upd (upd f1 0 0) 1 0) 2 0) 3 0) 4 0) 5 0) 6 0) 7 0) 8 0) 9 0) 0 (-1)) 7 p0))), (kp, .inl (k.2.1, 410, .inl (va_cpy (upd (upd (upd (upd (upd (upd (upd (upd (upd (upd (upd (upd f1 0 0) 1 0) 2 0) 3 0) 4 0) 5 0) 6 0) 7 0) 8 0) 9 0) 0 (-1)) 7 p0) f2 (0 : Int32).toNatClampNeg (0 : Int32).toNatClampNeg (10 : Int32).toNatClampNeg)))] t) (va_A [(h0, .inr (1, [vrf_ nw, vrf_ kp, vrf_ v_boxes, .int v_full, .int v_done, .int v_undone])), (nw, .inl (k.2.1, 10, .inl f1)), (kp, .inl (k.2.1, 410, .inl f2))] sz)) 0 0 (va_A [(h0, .inr (1, [vrf_ nw, vrf_ kp, vrf_ v_boxes, .int v_full, .int v_done, .int v_undone])), (nw, .inl (k.2.1, 10, .inl f1)), (kp, .inl (k.2.1, 410, .inl f2))] sz) := by
  refine Met.ofW (cc := cX1_startAnew) (maxL := 2) (ret := none) (by decide) rfl ?_
  intro p e s m args below meth c s₁ B hml hv
  obtain ⟨rfl, hsz, hP, hKX, hD0⟩ := hv
  have hK := hKX.1
  have hx := B.exec
  have hb := B.bytes
  have hr := B.returns
  have hts := atoms_spec (ws := WS yX1_startAnew cX1_startAnew 2 none) B.pre
  have hgd : ∀ w ∈ gd, w ∈ WS yX1_startAnew cX1_startAnew 2 none := fun w h => List.mem_cons_of_mem _ h
  have hg : ∀ w ∈ gd, w.before _ s = true := fun w h => hts w (hgd w h)
  have hown : s.vm.findClass RX1 = some m.cls := findClass_of_methodNamed B.named
  have hlocks := B.notSynchronized
  subst hsz
  have hD := hD0.self (sz := s.heap.size)
  generalize hAe : va_A [(h0, .inr (1, [vrf_ nw, vrf_ kp, vrf_ v_boxes, .int v_full, .int v_done, .int v_undone])), (nw, .inl (k.2.1, 10, .inl f1)), (kp, .inl (k.2.1, 410, .inl f2))] s.heap.size = A at hD ⊢
  have hA : ∀ q : Nat, s.heap.size ≤ q → A q := fun q h => by rw [← hAe]; exact Or.inr h
  have hS : va_S A s.heap s.heap [] := va_S.rf
  have hP : va_P D classes [(h0, .inr (1, [vrf_ nw, vrf_ kp, vrf_ v_boxes, .int v_full, .int v_done, .int v_undone])), (nw, .inl (k.2.1, 10, .inl f1)), (kp, .inl (k.2.1, 410, .inl f2))] s.heap := hP
  have hl := lv_entry ([.ref h0, .int p0]) (n := 2) (Nat.le_of_ble_eq_true rfl)
  rw [lg_entry_eq]
  generalize (lg_sl ([.ref h0, .int p0]) ++ List.replicate (2 - (lg_sl ([.ref h0, .int p0])).length) Slot.unset).toArray = ls at hl ⊢
  have hl : lv_has ls 2 [(0, .ref h0), (1, .int p0)] := hl
  refine lv_aload_n hx hb dX1_startAnew_0 rfl (lv_at hl 0 rfl) ?_
  refine va_get (D := D) (ci := 1) (v := .ref nw) (C := RX1) (T := TX1) (N := 6) hx hb hg iX1 hown hK hP 0 rfl rfl 0 (by decide) (hg (Cond.fieldLink RX1 11 "SlabWalk$Earnest" "now" "[I") m492) (fun _ h9 => h9) rfl dX1_startAnew_1 ?_
  refine lv_iconst (v := 0) hx hb dX1_startAnew_4 (by decide) ?_
  have hPc := hP.sub (ws' := [(nw, .inl (k.2.1, 10, .inl f1))]) [1] rfl
  have hDc := hD.sub (ws' := [(nw, .inl (k.2.1, 10, .inl f1))]) [1] (by decide +kernel) rfl
  have hFc := va_free (wc := [(nw, .inl (k.2.1, 10, .inl f1))]) hD hS hA [1] rfl
  refine va_callv (va_runS (As := [.ref nw, .int 0]) (rest := []) ⟨hx, hb, hml, hown, hts⟩ (q_fill10 l D k s.heap.size nw 0 f1) (va_cwS 2 hts (gd_S hgd m562 m556 m129 m557) rfl rfl rfl hd_J7_fill_53178.2 ⟨Nat.le_of_ble_eq_true rfl, Nat.le_of_ble_eq_true rfl⟩) (cQ_S hPc hKX hDc) rfl rfl hl.1 rfl (lv_room (Nat.le_of_ble_eq_true rfl)) dX1_startAnew_5 ⟨Nat.le_of_ble_eq_true rfl, Nat.le_of_ble_eq_true rfl⟩) hS (fun q _ h => hFc q h) hFc (fun u t H1 locs ht hvm hw hB hz1 hk1 hS => ?_)
  obtain ⟨hP1, hD1⟩ := hB
  rw [ht] at hP1
  obtain ⟨hP, hD⟩ := va_join (wr := [(h0, .inr (1, [vrf_ nw, vrf_ kp, vrf_ v_boxes, .int v_full, .int v_done, .int v_undone])), (kp, .inl (k.2.1, 410, .inl f2))]) (w1 := [(nw, .inl (k.2.1, 10, .inl (upd (upd (upd (upd (upd (upd (upd (upd (upd (upd f1 0 0) 1 0) 2 0) 3 0) 4 0) 5 0) 6 0) 7 0) 8 0) 9 0)))]) hP hD [1] [0, 2] rfl rfl (by decide +kernel) (by decide +kernel) hk1 hFc hP1 hD1
  generalize H1 = H at hP hS ⊢
  obtain ⟨ws_, hws_, hP, hD⟩ : ∃ w : va_W, w = [(h0, .inr (1, [vrf_ nw, vrf_ kp, vrf_ v_boxes, .int v_full, .int v_done, .int v_undone])), (kp, .inl (k.2.1, 410, .inl f2)), (nw, .inl (k.2.1, 10, .inl (upd (upd (upd (upd (upd (upd (upd (upd (upd (upd f1 0 0) 1 0) 2 0) 3 0) 4 0) 5 0) 6 0) 7 0) 8 0) 9 0)))] ∧ va_P D classes w H ∧ va_D A w := ⟨_, rfl, hP, hD⟩
  subst hws_
  refine W.widen (k := 0) (n := 0) (Nat.le_of_ble_eq_true rfl) (Nat.le_of_ble_eq_true rfl) ?_
  refine lv_aload_n hx hb dX1_startAnew_8 rfl (lv_at hl 0 rfl) ?_
  refine va_get (D := D) (ci := 1) (v := .ref nw) (C := RX1) (T := TX1) (N := 6) hx hb hg iX1 hown hK hP 0 rfl rfl 0 (by decide) (hg (Cond.fieldLink RX1 11 "SlabWalk$Earnest" "now" "[I") m492) (fun _ h9 => h9) rfl dX1_startAnew_9 ?_
  refine lv_iconst (v := 0) hx hb dX1_startAnew_12 (by decide) ?_
  refine lv_iconst (v := (-1)) hx hb dX1_startAnew_13 (by decide) ?_
  refine va_iast hx hb hK hP hD hS 2 1 rfl rfl (show ¬ ((0 : Int32) < 0 ∨ 10 ≤ (0 : Int32).toNatClampNeg) from by decide +kernel) dX1_startAnew_14 (fun H locs hP hD hS => ?_)
  obtain ⟨ws_, hws_, hP, hD⟩ : ∃ w : va_W, w = [(h0, .inr (1, [vrf_ nw, vrf_ kp, vrf_ v_boxes, .int v_full, .int v_done, .int v_undone])), (kp, .inl (k.2.1, 410, .inl f2)), (nw, .inl (k.2.1, 10, .inl (upd (upd (upd (upd (upd (upd (upd (upd (upd (upd (upd f1 0 0) 1 0) 2 0) 3 0) 4 0) 5 0) 6 0) 7 0) 8 0) 9 0) 0 (-1))))] ∧ va_P D classes w H ∧ va_D A w := ⟨_, rfl, hP, hD⟩
  subst hws_
  refine lv_aload_n hx hb dX1_startAnew_15 rfl (lv_at hl 0 rfl) ?_
  refine va_get (D := D) (ci := 1) (v := .ref nw) (C := RX1) (T := TX1) (N := 6) hx hb hg iX1 hown hK hP 0 rfl rfl 0 (by decide) (hg (Cond.fieldLink RX1 11 "SlabWalk$Earnest" "now" "[I") m492) (fun _ h9 => h9) rfl dX1_startAnew_16 ?_
  refine lv_bipush (v := 7) hx hb dX1_startAnew_19 (by decide) ?_
  refine lv_iload_n hx hb dX1_startAnew_21 rfl (lv_at hl 1 rfl) ?_
  refine va_iast hx hb hK hP hD hS 2 1 rfl rfl (show ¬ ((7 : Int32) < 0 ∨ 10 ≤ (7 : Int32).toNatClampNeg) from by decide +kernel) dX1_startAnew_22 (fun H locs hP hD hS => ?_)
  obtain ⟨ws_, hws_, hP, hD⟩ : ∃ w : va_W, w = [(h0, .inr (1, [vrf_ nw, vrf_ kp, vrf_ v_boxes, .int v_full, .int v_done, .int v_undone])), (kp, .inl (k.2.1, 410, .inl f2)), (nw, .inl (k.2.1, 10, .inl (upd (upd (upd (upd (upd (upd (upd (upd (upd (upd (upd (upd f1 0 0) 1 0) 2 0) 3 0) 4 0) 5 0) 6 0) 7 0) 8 0) 9 0) 0 (-1)) 7 p0)))] ∧ va_P D classes w H ∧ va_D A w := ⟨_, rfl, hP, hD⟩
  subst hws_
  refine lv_aload_n hx hb dX1_startAnew_23 rfl (lv_at hl 0 rfl) ?_
  refine lv_iconst (v := 0) hx hb dX1_startAnew_24 (by decide) ?_
  refine va_put (D := D) (ci := 1) (v := .int 0) (ty := .int) (C := RX1) (T := TX1) (N := 6) hx hb hg iX1 tyX1 tyX1_ok nmX1 hown hK hP hD hS 0 rfl rfl 3 (by decide) (hg (Cond.fieldLink RX1 27 "SlabWalk$Earnest" "full" "I") m496) (fun _ h9 => h9) rfl (by decide +kernel) rfl rfl (Nat.le_of_ble_eq_true rfl) dX1_startAnew_25 (fun H locs hP hD hS => ?_)
  obtain ⟨ws_, hws_, hP, hD⟩ : ∃ w : va_W, w = [(h0, .inr (1, [vrf_ nw, vrf_ kp, vrf_ v_boxes, vi0_, .int v_done, .int v_undone])), (kp, .inl (k.2.1, 410, .inl f2)), (nw, .inl (k.2.1, 10, .inl (upd (upd (upd (upd (upd (upd (upd (upd (upd (upd (upd (upd f1 0 0) 1 0) 2 0) 3 0) 4 0) 5 0) 6 0) 7 0) 8 0) 9 0) 0 (-1)) 7 p0)))] ∧ va_P D classes w H ∧ va_D A w := ⟨_, rfl, hP, hD⟩
  subst hws_
  refine lv_aload_n hx hb dX1_startAnew_28 rfl (lv_at hl 0 rfl) ?_
  have hPc := hP.sub (ws' := [(h0, .inr (1, [vrf_ nw, vrf_ kp, vrf_ v_boxes, vi0_, .int v_done, .int v_undone])), (nw, .inl (k.2.1, 10, .inl (upd (upd (upd (upd (upd (upd (upd (upd (upd (upd (upd (upd f1 0 0) 1 0) 2 0) 3 0) 4 0) 5 0) 6 0) 7 0) 8 0) 9 0) 0 (-1)) 7 p0))), (kp, .inl (k.2.1, 410, .inl f2))]) [0, 2, 1] rfl
  have hDc := hD.sub (ws' := [(h0, .inr (1, [vrf_ nw, vrf_ kp, vrf_ v_boxes, vi0_, .int v_done, .int v_undone])), (nw, .inl (k.2.1, 10, .inl (upd (upd (upd (upd (upd (upd (upd (upd (upd (upd (upd (upd f1 0 0) 1 0) 2 0) 3 0) 4 0) 5 0) 6 0) 7 0) 8 0) 9 0) 0 (-1)) 7 p0))), (kp, .inl (k.2.1, 410, .inl f2))]) [0, 2, 1] (by decide +kernel) rfl
  have hFc := va_free (wc := [(h0, .inr (1, [vrf_ nw, vrf_ kp, vrf_ v_boxes, vi0_, .int v_done, .int v_undone])), (nw, .inl (k.2.1, 10, .inl (upd (upd (upd (upd (upd (upd (upd (upd (upd (upd (upd (upd f1 0 0) 1 0) 2 0) 3 0) 4 0) 5 0) 6 0) 7 0) 8 0) 9 0) 0 (-1)) 7 p0))), (kp, .inl (k.2.1, 410, .inl f2))]) hD hS hA [0, 2, 1] rfl
  refine va_callv (va_runV (As := []) (rest := []) ⟨hx, hb, hml, hown, hts⟩ (q_forget l D k H.size h0 nw kp v_boxes 0 v_done v_undone (upd (upd (upd (upd (upd (upd (upd (upd (upd (upd (upd (upd f1 0 0) 1 0) 2 0) 3 0) 4 0) 5 0) 6 0) 7 0) 8 0) 9 0) 0 (-1)) 7 p0) f2) (cwV 0 hts (gd_V hgd m563 m565 m1 m127 m566) rfl rfl rfl hd_X1_forgetActs ⟨Nat.le_of_ble_eq_true rfl, Nat.le_of_ble_eq_true rfl⟩) (cQ_V hPc hKX hDc (ci := 1) (q0 := 0) rfl rfl) rfl rfl hl.1 rfl (lv_room (Nat.le_of_ble_eq_true rfl)) dX1_startAnew_29 ⟨Nat.le_of_ble_eq_true rfl, Nat.le_of_ble_eq_true rfl⟩) hS (fun q _ h => hFc q h) hFc (fun u t H1 locs ht hvm hw hB hz1 hk1 hS => ?_)
  obtain ⟨hP1, hD1⟩ := hB
  rw [ht] at hP1
  obtain ⟨hP, hD⟩ := va_join (wr := []) (w1 := [(h0, .inr (1, [vrf_ nw, vrf_ kp, vrf_ v_boxes, vi0_, vi0_, vi0_])), (nw, .inl (k.2.1, 10, .inl (upd (upd (upd (upd (upd (upd (upd (upd (upd (upd (upd (upd f1 0 0) 1 0) 2 0) 3 0) 4 0) 5 0) 6 0) 7 0) 8 0) 9 0) 0 (-1)) 7 p0))), (kp, .inl (k.2.1, 410, .inl (va_cpy (upd (upd (upd (upd (upd (upd (upd (upd (upd (upd (upd (upd f1 0 0) 1 0) 2 0) 3 0) 4 0) 5 0) 6 0) 7 0) 8 0) 9 0) 0 (-1)) 7 p0) f2 (0 : Int32).toNatClampNeg (0 : Int32).toNatClampNeg (10 : Int32).toNatClampNeg)))]) hP hD [0, 2, 1] [] rfl rfl (by decide +kernel) (by decide +kernel) hk1 hFc hP1 hD1
  generalize H1 = H at hP hS ⊢
  obtain ⟨ws_, hws_, hP, hD⟩ : ∃ w : va_W, w = [(h0, .inr (1, [vrf_ nw, vrf_ kp, vrf_ v_boxes, vi0_, vi0_, vi0_])), (nw, .inl (k.2.1, 10, .inl (upd (upd (upd (upd (upd (upd (upd (upd (upd (upd (upd (upd f1 0 0) 1 0) 2 0) 3 0) 4 0) 5 0) 6 0) 7 0) 8 0) 9 0) 0 (-1)) 7 p0))), (kp, .inl (k.2.1, 410, .inl (va_cpy (upd (upd (upd (upd (upd (upd (upd (upd (upd (upd (upd (upd f1 0 0) 1 0) 2 0) 3 0) 4 0) 5 0) 6 0) 7 0) 8 0) 9 0) 0 (-1)) 7 p0) f2 (0 : Int32).toNatClampNeg (0 : Int32).toNatClampNeg (10 : Int32).toNatClampNeg)))] ∧ va_P D classes w H ∧ va_D A w := ⟨_, rfl, hP, hD⟩
  subst hws_
  refine W.widen (k := 0) (n := 0) (Nat.le_of_ble_eq_true rfl) (Nat.le_of_ble_eq_true rfl) ?_
  exact W.vret hx hb hr (fun t ht hW => ⟨⟨(), rfl, trivial, cB_of ht hP hD⟩, hS.F ht⟩) hS.2.2 dX1_startAnew_32

set_option maxHeartbeats 4000000 in
set_option maxRecDepth 100000 in
theorem q_lookAt (l : Launch) (D : va_G) (k : KT) (sz : Nat) (h0 h1 v_found fo v_values v_paving : Nat) (v_top : Int32) (g : Nat → Int32)  : Met l yX3_lookAt (WS yX3_lookAt cX3_lookAt 2 none) ({ frames := 1, cells := 0, slots := 0, locals := 23 }) (va_Pc [.ref h0, .ref h1] (cQ D k [(h0, .inr (3, [vrf_ v_found, vrf_ fo, vrf_ v_values, .int v_top, vrf_ v_paving])), (fo, .inl (k.2.1, 3, .inl g))] sz)) (va_Qv (fun _ : Unit => True) (fun (_ : Unit) t => cB D (va_A [(h0, .inr (3, [vrf_ v_found, vrf_ fo, vrf_ v_values, .int v_top, vrf_ v_paving])), (fo, .inl (k.2.1, 3, .inl g))] sz) [(h0, .inr (3, [vrf_ v_found, vrf_ fo, vrf_ v_values, .int v_top, vrf_ h1])), (fo, .inl (k.2.1, 3, .inl (upd (upd (upd g 0 (-1)) 1 (-1)) 2 (-1))))] t) (va_A [(h0, .inr (3, [vrf_ v_found, vrf_ fo, vrf_ v_values, .int v_top, vrf_ v_paving])), (fo, .inl (k.2.1, 3, .inl g))] sz)) 0 0 (va_A [(h0, .inr (3, [vrf_ v_found, vrf_ fo, vrf_ v_values, .int v_top, vrf_ v_paving])), (fo, .inl (k.2.1, 3, .inl g))] sz) := by
  refine Met.ofW (cc := cX3_lookAt) (maxL := 2) (ret := none) (by decide) rfl ?_
  intro p e s m args below meth c s₁ B hml hv
  obtain ⟨rfl, hsz, hP, hKX, hD0⟩ := hv
  have hK := hKX.1
  have hx := B.exec
  have hb := B.bytes
  have hr := B.returns
  have hts := atoms_spec (ws := WS yX3_lookAt cX3_lookAt 2 none) B.pre
  have hgd : ∀ w ∈ gd, w ∈ WS yX3_lookAt cX3_lookAt 2 none := fun w h => List.mem_cons_of_mem _ h
  have hg : ∀ w ∈ gd, w.before _ s = true := fun w h => hts w (hgd w h)
  have hown : s.vm.findClass RX3 = some m.cls := findClass_of_methodNamed B.named
  have hlocks := B.notSynchronized
  subst hsz
  have hD := hD0.self (sz := s.heap.size)
  generalize hAe : va_A [(h0, .inr (3, [vrf_ v_found, vrf_ fo, vrf_ v_values, .int v_top, vrf_ v_paving])), (fo, .inl (k.2.1, 3, .inl g))] s.heap.size = A at hD ⊢
  have hA : ∀ q : Nat, s.heap.size ≤ q → A q := fun q h => by rw [← hAe]; exact Or.inr h
  have hS : va_S A s.heap s.heap [] := va_S.rf
  have hP : va_P D classes [(h0, .inr (3, [vrf_ v_found, vrf_ fo, vrf_ v_values, .int v_top, vrf_ v_paving])), (fo, .inl (k.2.1, 3, .inl g))] s.heap := hP
  have hl := lv_entry ([.ref h0, .ref h1]) (n := 2) (Nat.le_of_ble_eq_true rfl)
  rw [lg_entry_eq]
  generalize (lg_sl ([.ref h0, .ref h1]) ++ List.replicate (2 - (lg_sl ([.ref h0, .ref h1])).length) Slot.unset).toArray = ls at hl ⊢
  have hl : lv_has ls 2 [(0, .ref h0), (1, .ref h1)] := hl
  refine lv_aload_n hx hb dX3_lookAt_0 rfl (lv_at hl 0 rfl) ?_
  refine lv_aload_n hx hb dX3_lookAt_1 rfl (lv_at hl 1 rfl) ?_
  refine va_put (D := D) (ci := 3) (v := .ref h1) (ty := (.object "SlabWalk$Paving")) (C := RX3) (T := TX3) (N := 5) hx hb hg iX3 tyX3 tyX3_ok nmX3 hown hK hP hD hS 0 rfl rfl 4 (by decide) (hg (Cond.fieldLink RX3 21 "SlabWalk$Lines" "paving" "LSlabWalk$Paving;") m353) (fun _ h9 => h9) rfl (by decide +kernel) rfl rfl (Nat.le_of_ble_eq_true rfl) dX3_lookAt_2 (fun H locs hP hD hS => ?_)
  obtain ⟨ws_, hws_, hP, hD⟩ : ∃ w : va_W, w = [(h0, .inr (3, [vrf_ v_found, vrf_ fo, vrf_ v_values, .int v_top, vrf_ h1])), (fo, .inl (k.2.1, 3, .inl g))] ∧ va_P D classes w H ∧ va_D A w := ⟨_, rfl, hP, hD⟩
  subst hws_
  refine lv_aload_n hx hb dX3_lookAt_5 rfl (lv_at hl 0 rfl) ?_
  refine va_get (D := D) (ci := 3) (v := .ref fo) (C := RX3) (T := TX3) (N := 5) hx hb hg iX3 hown hK hP 0 rfl rfl 1 (by decide) (hg (Cond.fieldLink RX3 15 "SlabWalk$Lines" "foundOn" "[I") m350) (fun _ h9 => h9) rfl dX3_lookAt_6 ?_
  refine lv_iconst (v := (-1)) hx hb dX3_lookAt_9 (by decide) ?_
  have hPc := hP.sub (ws' := [(fo, .inl (k.2.1, 3, .inl g))]) [1] rfl
  have hDc := hD.sub (ws' := [(fo, .inl (k.2.1, 3, .inl g))]) [1] (by decide +kernel) rfl
  have hFc := va_free (wc := [(fo, .inl (k.2.1, 3, .inl g))]) hD hS hA [1] rfl
  refine va_callv (va_runS (As := [.ref fo, .int (-1)]) (rest := []) ⟨hx, hb, hml, hown, hts⟩ (q_fill3 l D k H.size fo (-1) g) (va_cwS 2 hts (gd_S hgd m555 m556 m129 m557) rfl rfl rfl hd_J7_fill_53178.2 ⟨Nat.le_of_ble_eq_true rfl, Nat.le_of_ble_eq_true rfl⟩) (cQ_S hPc hKX hDc) rfl rfl hl.1 rfl (lv_room (Nat.le_of_ble_eq_true rfl)) dX3_lookAt_10 ⟨Nat.le_of_ble_eq_true rfl, Nat.le_of_ble_eq_true rfl⟩) hS (fun q _ h => hFc q h) hFc (fun u t H1 locs ht hvm hw hB hz1 hk1 hS => ?_)
  obtain ⟨hP1, hD1⟩ := hB
  rw [ht] at hP1
  obtain ⟨hP, hD⟩ := va_join (wr := [(h0, .inr (3, [vrf_ v_found, vrf_ fo, vrf_ v_values, .int v_top, vrf_ h1]))]) (w1 := [(fo, .inl (k.2.1, 3, .inl (upd (upd (upd g 0 (-1)) 1 (-1)) 2 (-1))))]) hP hD [1] [0] rfl rfl (by decide +kernel) (by decide +kernel) hk1 hFc hP1 hD1
  generalize H1 = H at hP hS ⊢
  obtain ⟨ws_, hws_, hP, hD⟩ : ∃ w : va_W, w = [(h0, .inr (3, [vrf_ v_found, vrf_ fo, vrf_ v_values, .int v_top, vrf_ h1])), (fo, .inl (k.2.1, 3, .inl (upd (upd (upd g 0 (-1)) 1 (-1)) 2 (-1))))] ∧ va_P D classes w H ∧ va_D A w := ⟨_, rfl, hP, hD⟩
  subst hws_
  refine W.widen (k := 0) (n := 0) (Nat.le_of_ble_eq_true rfl) (Nat.le_of_ble_eq_true rfl) ?_
  exact W.vret hx hb hr (fun t ht hW => ⟨⟨(), rfl, trivial, cB_of ht hP hD⟩, hS.F ht⟩) hS.2.2 dX3_lookAt_13

set_option maxHeartbeats 4000000 in
set_option maxRecDepth 100000 in
theorem q_anew (l : Launch) (D : va_G) (k : KT) (sz : Nat) (h0 pv w_spare w_tape w_reader ln w_course w_trails w_odds ea si w_lying y_length y_inches y_foot y_least y_most y_leap y_slip y_code y_codeEnd u_found fo u_values u_paving nw kp v_boxes t_walker t_street t_heel t_told t_untold : Nat) (w_taped w_lie y_streets y_walkers y_rules y_units y_coded y_hand y_slack y_draw u_top v_full v_done v_undone t_count t_time : Int32) (g f1 f2 : Nat → Int32)  : Met l yX11_startAnew (WS yX11_startAnew cX11_startAnew 1 none) ({ frames := 3, cells := 0, slots := 0, locals := 81 }) (va_Pc [.ref h0] (cQ D k [(h0, .inr (11, [vrf_ pv, vrf_ w_spare, vrf_ w_tape, vrf_ w_reader, vrf_ ln, vrf_ w_course, vrf_ w_trails, vrf_ w_odds, vrf_ ea, vrf_ si, vrf_ w_lying, .int w_taped, .int w_lie])), (pv, .inr (6, [vrf_ y_length, vrf_ y_inches, vrf_ y_foot, vrf_ y_least, vrf_ y_most, vrf_ y_leap, vrf_ y_slip, vrf_ y_code, vrf_ y_codeEnd, .int y_streets, .int y_walkers, .int y_rules, .int y_units, .int y_coded, .int y_hand, .int y_slack, .int y_draw])), (ln, .inr (3, [vrf_ u_found, vrf_ fo, vrf_ u_values, .int u_top, vrf_ u_paving])), (fo, .inl (k.2.1, 3, .inl g)), (ea, .inr (1, [vrf_ nw, vrf_ kp, vrf_ v_boxes, .int v_full, .int v_done, .int v_undone])), (nw, .inl (k.2.1, 10, .inl f1)), (kp, .inl (k.2.1, 410, .inl f2)), (si, .inr (8, [vrf_ t_walker, vrf_ t_street, vrf_ t_heel, vrf_ t_told, vrf_ t_untold, .int t_count, .int t_time]))] sz)) (va_Qv (fun _ : Unit => True) (fun (_ : Unit) t => cB D (va_A [(h0, .inr (11, [vrf_ pv, vrf_ w_spare, vrf_ w_tape, vrf_ w_reader, vrf_ ln, vrf_ w_course, vrf_ w_trails, vrf_ w_odds, vrf_ ea, vrf_ si, vrf_ w_lying, .int w_taped, .int w_lie])), (pv, .inr (6, [vrf_ y_length, vrf_ y_inches, vrf_ y_foot, vrf_ y_least, vrf_ y_most, vrf_ y_leap, vrf_ y_slip, vrf_ y_code, vrf_ y_codeEnd, .int y_streets, .int y_walkers, .int y_rules, .int y_units, .int y_coded, .int y_hand, .int y_slack, .int y_draw])), (ln, .inr (3, [vrf_ u_found, vrf_ fo, vrf_ u_values, .int u_top, vrf_ u_paving])), (fo, .inl (k.2.1, 3, .inl g)), (ea, .inr (1, [vrf_ nw, vrf_ kp, vrf_ v_boxes, .int v_full, .int v_done, .int v_undone])), (nw, .inl (k.2.1, 10, .inl f1)), (kp, .inl (k.2.1, 410, .inl f2)), (si, .inr (8, [vrf_ t_walker, vrf_ t_street, vrf_ t_heel, vrf_ t_told, vrf_ t_untold, .int t_count, .int t_time]))] sz) [(h0, .inr (11, [vrf_ pv, vrf_ w_spare, vrf_ w_tape, vrf_ w_reader, vrf_ ln, vrf_ w_course, vrf_ w_trails, vrf_ w_odds, vrf_ ea, vrf_ si, vrf_ w_lying, .int w_taped, vi0_])), (pv, .inr (6, [vrf_ y_length, vrf_ y_inches, vrf_ y_foot, vrf_ y_least, vrf_ y_most, vrf_ y_leap, vrf_ y_slip, vrf_ y_code, vrf_ y_codeEnd, .int y_streets, .int y_walkers, .int y_rules, .int y_units, .int y_coded, .int y_hand, .int y_slack, .int y_draw])), (si, .inr (8, [vrf_ t_walker, vrf_ t_street, vrf_ t_heel, vrf_ t_told, vrf_ t_untold, vi0_, .int t_time])), (ln, .inr (3, [vrf_ u_found, vrf_ fo, vrf_ u_values, .int u_top, vrf_ pv])), (fo, .inl (k.2.1, 3, .inl (upd (upd (upd g 0 (-1)) 1 (-1)) 2 (-1)))), (ea, .inr (1, [vrf_ nw, vrf_ kp, vrf_ v_boxes, vi0_, vi0_, vi0_])), (nw, .inl (k.2.1, 10, .inl (upd (upd (upd (upd (upd (upd (upd (upd (upd (upd (upd (upd f1 0 0) 1 0) 2 0) 3 0) 4 0) 5 0) 6 0) 7 0) 8 0) 9 0) 0 (-1)) 7 y_draw))), (kp, .inl (k.2.1, 410, .inl (va_cpy (upd (upd (upd (upd (upd (upd (upd (upd (upd (upd (upd (upd f1 0 0) 1 0) 2 0) 3 0) 4 0) 5 0) 6 0) 7 0) 8 0) 9 0) 0 (-1)) 7 y_draw) f2 (0 : Int32).toNatClampNeg (0 : Int32).toNatClampNeg (10 : Int32).toNatClampNeg)))] t) (va_A [(h0, .inr (11, [vrf_ pv, vrf_ w_spare, vrf_ w_tape, vrf_ w_reader, vrf_ ln, vrf_ w_course, vrf_ w_trails, vrf_ w_odds, vrf_ ea, vrf_ si, vrf_ w_lying, .int w_taped, .int w_lie])), (pv, .inr (6, [vrf_ y_length, vrf_ y_inches, vrf_ y_foot, vrf_ y_least, vrf_ y_most, vrf_ y_leap, vrf_ y_slip, vrf_ y_code, vrf_ y_codeEnd, .int y_streets, .int y_walkers, .int y_rules, .int y_units, .int y_coded, .int y_hand, .int y_slack, .int y_draw])), (ln, .inr (3, [vrf_ u_found, vrf_ fo, vrf_ u_values, .int u_top, vrf_ u_paving])), (fo, .inl (k.2.1, 3, .inl g)), (ea, .inr (1, [vrf_ nw, vrf_ kp, vrf_ v_boxes, .int v_full, .int v_done, .int v_undone])), (nw, .inl (k.2.1, 10, .inl f1)), (kp, .inl (k.2.1, 410, .inl f2)), (si, .inr (8, [vrf_ t_walker, vrf_ t_street, vrf_ t_heel, vrf_ t_told, vrf_ t_untold, .int t_count, .int t_time]))] sz)) 0 0 (va_A [(h0, .inr (11, [vrf_ pv, vrf_ w_spare, vrf_ w_tape, vrf_ w_reader, vrf_ ln, vrf_ w_course, vrf_ w_trails, vrf_ w_odds, vrf_ ea, vrf_ si, vrf_ w_lying, .int w_taped, .int w_lie])), (pv, .inr (6, [vrf_ y_length, vrf_ y_inches, vrf_ y_foot, vrf_ y_least, vrf_ y_most, vrf_ y_leap, vrf_ y_slip, vrf_ y_code, vrf_ y_codeEnd, .int y_streets, .int y_walkers, .int y_rules, .int y_units, .int y_coded, .int y_hand, .int y_slack, .int y_draw])), (ln, .inr (3, [vrf_ u_found, vrf_ fo, vrf_ u_values, .int u_top, vrf_ u_paving])), (fo, .inl (k.2.1, 3, .inl g)), (ea, .inr (1, [vrf_ nw, vrf_ kp, vrf_ v_boxes, .int v_full, .int v_done, .int v_undone])), (nw, .inl (k.2.1, 10, .inl f1)), (kp, .inl (k.2.1, 410, .inl f2)), (si, .inr (8, [vrf_ t_walker, vrf_ t_street, vrf_ t_heel, vrf_ t_told, vrf_ t_untold, .int t_count, .int t_time]))] sz) := by
  refine Met.ofW (cc := cX11_startAnew) (maxL := 1) (ret := none) (by decide) rfl ?_
  intro p e s m args below meth c s₁ B hml hv
  obtain ⟨rfl, hsz, hP, hKX, hD0⟩ := hv
  have hK := hKX.1
  have hx := B.exec
  have hb := B.bytes
  have hr := B.returns
  have hts := atoms_spec (ws := WS yX11_startAnew cX11_startAnew 1 none) B.pre
  have hgd : ∀ w ∈ gd, w ∈ WS yX11_startAnew cX11_startAnew 1 none := fun w h => List.mem_cons_of_mem _ h
  have hg : ∀ w ∈ gd, w.before _ s = true := fun w h => hts w (hgd w h)
  have hown : s.vm.findClass RX11 = some m.cls := findClass_of_methodNamed B.named
  have hlocks := B.notSynchronized
  subst hsz
  have hD := hD0.self (sz := s.heap.size)
  generalize hAe : va_A [(h0, .inr (11, [vrf_ pv, vrf_ w_spare, vrf_ w_tape, vrf_ w_reader, vrf_ ln, vrf_ w_course, vrf_ w_trails, vrf_ w_odds, vrf_ ea, vrf_ si, vrf_ w_lying, .int w_taped, .int w_lie])), (pv, .inr (6, [vrf_ y_length, vrf_ y_inches, vrf_ y_foot, vrf_ y_least, vrf_ y_most, vrf_ y_leap, vrf_ y_slip, vrf_ y_code, vrf_ y_codeEnd, .int y_streets, .int y_walkers, .int y_rules, .int y_units, .int y_coded, .int y_hand, .int y_slack, .int y_draw])), (ln, .inr (3, [vrf_ u_found, vrf_ fo, vrf_ u_values, .int u_top, vrf_ u_paving])), (fo, .inl (k.2.1, 3, .inl g)), (ea, .inr (1, [vrf_ nw, vrf_ kp, vrf_ v_boxes, .int v_full, .int v_done, .int v_undone])), (nw, .inl (k.2.1, 10, .inl f1)), (kp, .inl (k.2.1, 410, .inl f2)), (si, .inr (8, [vrf_ t_walker, vrf_ t_street, vrf_ t_heel, vrf_ t_told, vrf_ t_untold, .int t_count, .int t_time]))] s.heap.size = A at hD ⊢
  have hA : ∀ q : Nat, s.heap.size ≤ q → A q := fun q h => by rw [← hAe]; exact Or.inr h
  have hS : va_S A s.heap s.heap [] := va_S.rf
  have hP : va_P D classes [(h0, .inr (11, [vrf_ pv, vrf_ w_spare, vrf_ w_tape, vrf_ w_reader, vrf_ ln, vrf_ w_course, vrf_ w_trails, vrf_ w_odds, vrf_ ea, vrf_ si, vrf_ w_lying, .int w_taped, .int w_lie])), (pv, .inr (6, [vrf_ y_length, vrf_ y_inches, vrf_ y_foot, vrf_ y_least, vrf_ y_most, vrf_ y_leap, vrf_ y_slip, vrf_ y_code, vrf_ y_codeEnd, .int y_streets, .int y_walkers, .int y_rules, .int y_units, .int y_coded, .int y_hand, .int y_slack, .int y_draw])), (ln, .inr (3, [vrf_ u_found, vrf_ fo, vrf_ u_values, .int u_top, vrf_ u_paving])), (fo, .inl (k.2.1, 3, .inl g)), (ea, .inr (1, [vrf_ nw, vrf_ kp, vrf_ v_boxes, .int v_full, .int v_done, .int v_undone])), (nw, .inl (k.2.1, 10, .inl f1)), (kp, .inl (k.2.1, 410, .inl f2)), (si, .inr (8, [vrf_ t_walker, vrf_ t_street, vrf_ t_heel, vrf_ t_told, vrf_ t_untold, .int t_count, .int t_time]))] s.heap := hP
  have hl := lv_entry ([.ref h0]) (n := 1) (Nat.le_of_ble_eq_true rfl)
  rw [lg_entry_eq]
  generalize (lg_sl ([.ref h0]) ++ List.replicate (1 - (lg_sl ([.ref h0])).length) Slot.unset).toArray = ls at hl ⊢
  have hl : lv_has ls 1 [(0, .ref h0)] := hl
  refine lv_aload_n hx hb dX11_startAnew_0 rfl (lv_at hl 0 rfl) ?_
  refine va_get (D := D) (ci := 11) (v := .ref ln) (C := RX11) (T := TX11) (N := 13) hx hb hg iX11 hown hK hP 0 rfl rfl 4 (by decide) (hg (Cond.fieldLink RX11 37 "SlabWalk" "lines" "LSlabWalk$Lines;") m574) (fun _ h9 => h9) rfl dX11_startAnew_1 ?_
  refine lv_aload_n hx hb dX11_startAnew_4 rfl (lv_at hl 0 rfl) ?_
  refine va_get (D := D) (ci := 11) (v := .ref pv) (C := RX11) (T := TX11) (N := 13) hx hb hg iX11 hown hK hP 0 rfl rfl 0 (by decide) (hg (Cond.fieldLink RX11 10 "SlabWalk" "paving" "LSlabWalk$Paving;") m570) (fun _ h9 => h9) rfl dX11_startAnew_5 ?_
  have hPc := hP.sub (ws' := [(ln, .inr (3, [vrf_ u_found, vrf_ fo, vrf_ u_values, .int u_top, vrf_ u_paving])), (fo, .inl (k.2.1, 3, .inl g))]) [2, 3] rfl
  have hDc := hD.sub (ws' := [(ln, .inr (3, [vrf_ u_found, vrf_ fo, vrf_ u_values, .int u_top, vrf_ u_paving])), (fo, .inl (k.2.1, 3, .inl g))]) [2, 3] (by decide +kernel) rfl
  have hFc := va_free (wc := [(ln, .inr (3, [vrf_ u_found, vrf_ fo, vrf_ u_values, .int u_top, vrf_ u_paving])), (fo, .inl (k.2.1, 3, .inl g))]) hD hS hA [2, 3] rfl
  refine va_callv (va_runV (As := [.ref pv]) (rest := []) ⟨hx, hb, hml, hown, hts⟩ (q_lookAt l D k s.heap.size ln pv u_found fo u_values u_paving u_top g) (cwV 1 hts (gd_V hgd m551 m552 m553 m122 m554) rfl rfl rfl hd_X3_lookAt ⟨Nat.le_of_ble_eq_true rfl, Nat.le_of_ble_eq_true rfl⟩) (cQ_V hPc hKX hDc (ci := 3) (q0 := 0) rfl rfl) rfl rfl hl.1 rfl (lv_room (Nat.le_of_ble_eq_true rfl)) dX11_startAnew_8 ⟨Nat.le_of_ble_eq_true rfl, Nat.le_of_ble_eq_true rfl⟩) hS (fun q _ h => hFc q h) hFc (fun u t H1 locs ht hvm hw hB hz1 hk1 hS => ?_)
  obtain ⟨hP1, hD1⟩ := hB
  rw [ht] at hP1
  obtain ⟨hP, hD⟩ := va_join (wr := [(h0, .inr (11, [vrf_ pv, vrf_ w_spare, vrf_ w_tape, vrf_ w_reader, vrf_ ln, vrf_ w_course, vrf_ w_trails, vrf_ w_odds, vrf_ ea, vrf_ si, vrf_ w_lying, .int w_taped, .int w_lie])), (pv, .inr (6, [vrf_ y_length, vrf_ y_inches, vrf_ y_foot, vrf_ y_least, vrf_ y_most, vrf_ y_leap, vrf_ y_slip, vrf_ y_code, vrf_ y_codeEnd, .int y_streets, .int y_walkers, .int y_rules, .int y_units, .int y_coded, .int y_hand, .int y_slack, .int y_draw])), (ea, .inr (1, [vrf_ nw, vrf_ kp, vrf_ v_boxes, .int v_full, .int v_done, .int v_undone])), (nw, .inl (k.2.1, 10, .inl f1)), (kp, .inl (k.2.1, 410, .inl f2)), (si, .inr (8, [vrf_ t_walker, vrf_ t_street, vrf_ t_heel, vrf_ t_told, vrf_ t_untold, .int t_count, .int t_time]))]) (w1 := [(ln, .inr (3, [vrf_ u_found, vrf_ fo, vrf_ u_values, .int u_top, vrf_ pv])), (fo, .inl (k.2.1, 3, .inl (upd (upd (upd g 0 (-1)) 1 (-1)) 2 (-1))))]) hP hD [2, 3] [0, 1, 4, 5, 6, 7] rfl rfl (by decide +kernel) (by decide +kernel) hk1 hFc hP1 hD1
  generalize H1 = H at hP hS ⊢
  obtain ⟨ws_, hws_, hP, hD⟩ : ∃ w : va_W, w = [(h0, .inr (11, [vrf_ pv, vrf_ w_spare, vrf_ w_tape, vrf_ w_reader, vrf_ ln, vrf_ w_course, vrf_ w_trails, vrf_ w_odds, vrf_ ea, vrf_ si, vrf_ w_lying, .int w_taped, .int w_lie])), (pv, .inr (6, [vrf_ y_length, vrf_ y_inches, vrf_ y_foot, vrf_ y_least, vrf_ y_most, vrf_ y_leap, vrf_ y_slip, vrf_ y_code, vrf_ y_codeEnd, .int y_streets, .int y_walkers, .int y_rules, .int y_units, .int y_coded, .int y_hand, .int y_slack, .int y_draw])), (ea, .inr (1, [vrf_ nw, vrf_ kp, vrf_ v_boxes, .int v_full, .int v_done, .int v_undone])), (nw, .inl (k.2.1, 10, .inl f1)), (kp, .inl (k.2.1, 410, .inl f2)), (si, .inr (8, [vrf_ t_walker, vrf_ t_street, vrf_ t_heel, vrf_ t_told, vrf_ t_untold, .int t_count, .int t_time])), (ln, .inr (3, [vrf_ u_found, vrf_ fo, vrf_ u_values, .int u_top, vrf_ pv])), (fo, .inl (k.2.1, 3, .inl (upd (upd (upd g 0 (-1)) 1 (-1)) 2 (-1))))] ∧ va_P D classes w H ∧ va_D A w := ⟨_, rfl, hP, hD⟩
  subst hws_
  refine W.widen (k := 0) (n := 0) (Nat.le_of_ble_eq_true rfl) (Nat.le_of_ble_eq_true rfl) ?_
  refine lv_aload_n hx hb dX11_startAnew_11 rfl (lv_at hl 0 rfl) ?_
  refine va_get (D := D) (ci := 11) (v := .ref ea) (C := RX11) (T := TX11) (N := 13) hx hb hg iX11 hown hK hP 0 rfl rfl 8 (by decide) (hg (Cond.fieldLink RX11 65 "SlabWalk" "earnest" "LSlabWalk$Earnest;") m578) (fun _ h9 => h9) rfl dX11_startAnew_12 ?_
  refine lv_aload_n hx hb dX11_startAnew_15 rfl (lv_at hl 0 rfl) ?_
  refine va_get (D := D) (ci := 11) (v := .ref pv) (C := RX11) (T := TX11) (N := 13) hx hb hg iX11 hown hK hP 0 rfl rfl 0 (by decide) (hg (Cond.fieldLink RX11 10 "SlabWalk" "paving" "LSlabWalk$Paving;") m570) (fun _ h9 => h9) rfl dX11_startAnew_16 ?_
  refine va_get (D := D) (ci := 6) (v := .int y_draw) (C := RX6) (T := TX6) (N := 17) hx hb hg iX6 hown hK hP 1 rfl rfl 16 (by decide) (hg (Cond.fieldLink RX11 323 "SlabWalk$Paving" "draw" "I") m209) (fun _ h9 => h9) rfl dX11_startAnew_19 ?_
  have hPc := hP.sub (ws' := [(ea, .inr (1, [vrf_ nw, vrf_ kp, vrf_ v_boxes, .int v_full, .int v_done, .int v_undone])), (nw, .inl (k.2.1, 10, .inl f1)), (kp, .inl (k.2.1, 410, .inl f2))]) [2, 3, 4] rfl
  have hDc := hD.sub (ws' := [(ea, .inr (1, [vrf_ nw, vrf_ kp, vrf_ v_boxes, .int v_full, .int v_done, .int v_undone])), (nw, .inl (k.2.1, 10, .inl f1)), (kp, .inl (k.2.1, 410, .inl f2))]) [2, 3, 4] (by decide +kernel) rfl
  have hFc := va_free (wc := [(ea, .inr (1, [vrf_ nw, vrf_ kp, vrf_ v_boxes, .int v_full, .int v_done, .int v_undone])), (nw, .inl (k.2.1, 10, .inl f1)), (kp, .inl (k.2.1, 410, .inl f2))]) hD hS hA [2, 3, 4] rfl
  refine va_callv (va_runV (As := [.int y_draw]) (rest := []) ⟨hx, hb, hml, hown, hts⟩ (q_anewE l D k H.size ea nw kp v_boxes y_draw v_full v_done v_undone f1 f2) (cwV 1 hts (gd_V hgd m558 m559 m560 m127 m561) rfl rfl rfl hd_X1_startAnew ⟨Nat.le_of_ble_eq_true rfl, Nat.le_of_ble_eq_true rfl⟩) (cQ_V hPc hKX hDc (ci := 1) (q0 := 0) rfl rfl) rfl rfl hl.1 rfl (lv_room (Nat.le_of_ble_eq_true rfl)) dX11_startAnew_22 ⟨Nat.le_of_ble_eq_true rfl, Nat.le_of_ble_eq_true rfl⟩) hS (fun q _ h => hFc q h) hFc (fun u t H1 locs ht hvm hw hB hz1 hk1 hS => ?_)
  obtain ⟨hP1, hD1⟩ := hB
  rw [ht] at hP1
  obtain ⟨hP, hD⟩ := va_join (wr := [(h0, .inr (11, [vrf_ pv, vrf_ w_spare, vrf_ w_tape, vrf_ w_reader, vrf_ ln, vrf_ w_course, vrf_ w_trails, vrf_ w_odds, vrf_ ea, vrf_ si, vrf_ w_lying, .int w_taped, .int w_lie])), (pv, .inr (6, [vrf_ y_length, vrf_ y_inches, vrf_ y_foot, vrf_ y_least, vrf_ y_most, vrf_ y_leap, vrf_ y_slip, vrf_ y_code, vrf_ y_codeEnd, .int y_streets, .int y_walkers, .int y_rules, .int y_units, .int y_coded, .int y_hand, .int y_slack, .int y_draw])), (si, .inr (8, [vrf_ t_walker, vrf_ t_street, vrf_ t_heel, vrf_ t_told, vrf_ t_untold, .int t_count, .int t_time])), (ln, .inr (3, [vrf_ u_found, vrf_ fo, vrf_ u_values, .int u_top, vrf_ pv])), (fo, .inl (k.2.1, 3, .inl (upd (upd (upd g 0 (-1)) 1 (-1)) 2 (-1))))]) (w1 := [(ea, .inr (1, [vrf_ nw, vrf_ kp, vrf_ v_boxes, vi0_, vi0_, vi0_])), (nw, .inl (k.2.1, 10, .inl (upd (upd (upd (upd (upd (upd (upd (upd (upd (upd (upd (upd f1 0 0) 1 0) 2 0) 3 0) 4 0) 5 0) 6 0) 7 0) 8 0) 9 0) 0 (-1)) 7 y_draw))), (kp, .inl (k.2.1, 410, .inl (va_cpy (upd (upd (upd (upd (upd (upd (upd (upd (upd (upd (upd (upd f1 0 0) 1 0) 2 0) 3 0) 4 0) 5 0) 6 0) 7 0) 8 0) 9 0) 0 (-1)) 7 y_draw) f2 (0 : Int32).toNatClampNeg (0 : Int32).toNatClampNeg (10 : Int32).toNatClampNeg)))]) hP hD [2, 3, 4] [0, 1, 5, 6, 7] rfl rfl (by decide +kernel) (by decide +kernel) hk1 hFc hP1 hD1
  generalize H1 = H at hP hS ⊢
  obtain ⟨ws_, hws_, hP, hD⟩ : ∃ w : va_W, w = [(h0, .inr (11, [vrf_ pv, vrf_ w_spare, vrf_ w_tape, vrf_ w_reader, vrf_ ln, vrf_ w_course, vrf_ w_trails, vrf_ w_odds, vrf_ ea, vrf_ si, vrf_ w_lying, .int w_taped, .int w_lie])), (pv, .inr (6, [vrf_ y_length, vrf_ y_inches, vrf_ y_foot, vrf_ y_least, vrf_ y_most, vrf_ y_leap, vrf_ y_slip, vrf_ y_code, vrf_ y_codeEnd, .int y_streets, .int y_walkers, .int y_rules, .int y_units, .int y_coded, .int y_hand, .int y_slack, .int y_draw])), (si, .inr (8, [vrf_ t_walker, vrf_ t_street, vrf_ t_heel, vrf_ t_told, vrf_ t_untold, .int t_count, .int t_time])), (ln, .inr (3, [vrf_ u_found, vrf_ fo, vrf_ u_values, .int u_top, vrf_ pv])), (fo, .inl (k.2.1, 3, .inl (upd (upd (upd g 0 (-1)) 1 (-1)) 2 (-1)))), (ea, .inr (1, [vrf_ nw, vrf_ kp, vrf_ v_boxes, vi0_, vi0_, vi0_])), (nw, .inl (k.2.1, 10, .inl (upd (upd (upd (upd (upd (upd (upd (upd (upd (upd (upd (upd f1 0 0) 1 0) 2 0) 3 0) 4 0) 5 0) 6 0) 7 0) 8 0) 9 0) 0 (-1)) 7 y_draw))), (kp, .inl (k.2.1, 410, .inl (va_cpy (upd (upd (upd (upd (upd (upd (upd (upd (upd (upd (upd (upd f1 0 0) 1 0) 2 0) 3 0) 4 0) 5 0) 6 0) 7 0) 8 0) 9 0) 0 (-1)) 7 y_draw) f2 (0 : Int32).toNatClampNeg (0 : Int32).toNatClampNeg (10 : Int32).toNatClampNeg)))] ∧ va_P D classes w H ∧ va_D A w := ⟨_, rfl, hP, hD⟩
  subst hws_
  refine W.widen (k := 0) (n := 0) (Nat.le_of_ble_eq_true rfl) (Nat.le_of_ble_eq_true rfl) ?_
  refine lv_aload_n hx hb dX11_startAnew_25 rfl (lv_at hl 0 rfl) ?_
  refine va_get (D := D) (ci := 11) (v := .ref si) (C := RX11) (T := TX11) (N := 13) hx hb hg iX11 hown hK hP 0 rfl rfl 9 (by decide) (hg (Cond.fieldLink RX11 72 "SlabWalk" "sights" "LSlabWalk$Sights;") m579) (fun _ h9 => h9) rfl dX11_startAnew_26 ?_
  refine lv_iconst (v := 0) hx hb dX11_startAnew_29 (by decide) ?_
  refine va_put (D := D) (ci := 8) (v := .int 0) (ty := .int) (C := RX8) (T := TX8) (N := 7) hx hb hg iX8 tyX8 tyX8_ok nmX8 hown hK hP hD hS 2 rfl rfl 5 (by decide) (hg (Cond.fieldLink RX11 285 "SlabWalk$Sights" "count" "I") m529) (fun _ h9 => h9) rfl (by decide +kernel) rfl rfl (Nat.le_of_ble_eq_true rfl) dX11_startAnew_30 (fun H locs hP hD hS => ?_)
  obtain ⟨ws_, hws_, hP, hD⟩ : ∃ w : va_W, w = [(h0, .inr (11, [vrf_ pv, vrf_ w_spare, vrf_ w_tape, vrf_ w_reader, vrf_ ln, vrf_ w_course, vrf_ w_trails, vrf_ w_odds, vrf_ ea, vrf_ si, vrf_ w_lying, .int w_taped, .int w_lie])), (pv, .inr (6, [vrf_ y_length, vrf_ y_inches, vrf_ y_foot, vrf_ y_least, vrf_ y_most, vrf_ y_leap, vrf_ y_slip, vrf_ y_code, vrf_ y_codeEnd, .int y_streets, .int y_walkers, .int y_rules, .int y_units, .int y_coded, .int y_hand, .int y_slack, .int y_draw])), (si, .inr (8, [vrf_ t_walker, vrf_ t_street, vrf_ t_heel, vrf_ t_told, vrf_ t_untold, vi0_, .int t_time])), (ln, .inr (3, [vrf_ u_found, vrf_ fo, vrf_ u_values, .int u_top, vrf_ pv])), (fo, .inl (k.2.1, 3, .inl (upd (upd (upd g 0 (-1)) 1 (-1)) 2 (-1)))), (ea, .inr (1, [vrf_ nw, vrf_ kp, vrf_ v_boxes, vi0_, vi0_, vi0_])), (nw, .inl (k.2.1, 10, .inl (upd (upd (upd (upd (upd (upd (upd (upd (upd (upd (upd (upd f1 0 0) 1 0) 2 0) 3 0) 4 0) 5 0) 6 0) 7 0) 8 0) 9 0) 0 (-1)) 7 y_draw))), (kp, .inl (k.2.1, 410, .inl (va_cpy (upd (upd (upd (upd (upd (upd (upd (upd (upd (upd (upd (upd f1 0 0) 1 0) 2 0) 3 0) 4 0) 5 0) 6 0) 7 0) 8 0) 9 0) 0 (-1)) 7 y_draw) f2 (0 : Int32).toNatClampNeg (0 : Int32).toNatClampNeg (10 : Int32).toNatClampNeg)))] ∧ va_P D classes w H ∧ va_D A w := ⟨_, rfl, hP, hD⟩
  subst hws_
  refine lv_aload_n hx hb dX11_startAnew_33 rfl (lv_at hl 0 rfl) ?_
  refine lv_iconst (v := 0) hx hb dX11_startAnew_34 (by decide) ?_
  refine va_put (D := D) (ci := 11) (v := .int 0) (ty := .int) (C := RX11) (T := TX11) (N := 13) hx hb hg iX11 tyX11 tyX11_ok nmX11 hown hK hP hD hS 0 rfl rfl 12 (by decide) (hg (Cond.fieldLink RX11 150 "SlabWalk" "lie" "I") m582) (fun _ h9 => h9) rfl (by decide +kernel) rfl rfl (Nat.le_of_ble_eq_true rfl) dX11_startAnew_35 (fun H locs hP hD hS => ?_)
  obtain ⟨ws_, hws_, hP, hD⟩ : ∃ w : va_W, w = [(h0, .inr (11, [vrf_ pv, vrf_ w_spare, vrf_ w_tape, vrf_ w_reader, vrf_ ln, vrf_ w_course, vrf_ w_trails, vrf_ w_odds, vrf_ ea, vrf_ si, vrf_ w_lying, .int w_taped, vi0_])), (pv, .inr (6, [vrf_ y_length, vrf_ y_inches, vrf_ y_foot, vrf_ y_least, vrf_ y_most, vrf_ y_leap, vrf_ y_slip, vrf_ y_code, vrf_ y_codeEnd, .int y_streets, .int y_walkers, .int y_rules, .int y_units, .int y_coded, .int y_hand, .int y_slack, .int y_draw])), (si, .inr (8, [vrf_ t_walker, vrf_ t_street, vrf_ t_heel, vrf_ t_told, vrf_ t_untold, vi0_, .int t_time])), (ln, .inr (3, [vrf_ u_found, vrf_ fo, vrf_ u_values, .int u_top, vrf_ pv])), (fo, .inl (k.2.1, 3, .inl (upd (upd (upd g 0 (-1)) 1 (-1)) 2 (-1)))), (ea, .inr (1, [vrf_ nw, vrf_ kp, vrf_ v_boxes, vi0_, vi0_, vi0_])), (nw, .inl (k.2.1, 10, .inl (upd (upd (upd (upd (upd (upd (upd (upd (upd (upd (upd (upd f1 0 0) 1 0) 2 0) 3 0) 4 0) 5 0) 6 0) 7 0) 8 0) 9 0) 0 (-1)) 7 y_draw))), (kp, .inl (k.2.1, 410, .inl (va_cpy (upd (upd (upd (upd (upd (upd (upd (upd (upd (upd (upd (upd f1 0 0) 1 0) 2 0) 3 0) 4 0) 5 0) 6 0) 7 0) 8 0) 9 0) 0 (-1)) 7 y_draw) f2 (0 : Int32).toNatClampNeg (0 : Int32).toNatClampNeg (10 : Int32).toNatClampNeg)))] ∧ va_P D classes w H ∧ va_D A w := ⟨_, rfl, hP, hD⟩
  subst hws_
  exact W.vret hx hb hr (fun t ht hW => ⟨⟨(), rfl, trivial, cB_of ht hP hD⟩, hS.F ht⟩) hS.2.2 dX11_startAnew_38

set_option maxHeartbeats 4000000 in
set_option maxRecDepth 100000 in
theorem q_X11 (l : Launch) (D : va_G) (k : KT) (sz : Nat) (h0 : Nat)  : Met l yX11_init (WS yX11_init cX11_init 1 none) ({ frames := 4, cells := 65, slots := 13750, locals := 101 }) (va_Pc [.ref h0] (cQ D k [(h0, .inr (11, [vnl_, vnl_, vnl_, vnl_, vnl_, vnl_, vnl_, vnl_, vnl_, vnl_, vnl_, vi0_, vi0_]))] sz)) (va_Qv (fun _ : Unit => True) (fun (_ : Unit) t => ∃ (z_2 : Nat), ∃ (z_3 : Nat), ∃ (z_4 : Nat), ∃ (z_5 : Nat), ∃ (z_6 : Nat), ∃ (z_7 : Nat), ∃ (z_8 : Nat), ∃ (z_9 : Nat), ∃ (z_10 : Nat), ∃ (z_12 : Nat), ∃ (z_13 : Nat), ∃ (z_14 : Nat), ∃ (z_15 : Nat), ∃ (z_16 : Nat), ∃ (z_17 : Nat), ∃ (z_18 : Nat), ∃ (z_19 : Nat), ∃ (q_11 : Nat), ∃ (z_20 : Nat), ∃ (q_21 : Nat), ∃ (q_22 : Nat), ∃ (z_23 : Nat), ∃ (z_24 : Nat), ∃ (z_25 : Nat), ∃ (z_26 : Nat), ∃ (z_27 : Nat), ∃ (z_29 : Nat), ∃ (z_31 : Nat), ∃ (q_32 : Nat), ∃ (z_33 : Nat), ∃ (q_34 : Nat), ∃ (z_35 : Nat), ∃ (z_36 : Nat), ∃ (z_37 : Nat), ∃ (z_38 : Nat), ∃ (z_39 : Nat), ∃ (z_40 : Nat), ∃ (z_41 : Nat), ∃ (z_42 : Nat), ∃ (z_43 : Nat), ∃ (q_44 : Nat), ∃ (z_45 : Nat), ∃ (z_46 : Nat), ∃ (z_47 : Nat), ∃ (z_48 : Nat), ∃ (z_49 : Nat), ∃ (z_50 : Nat), ∃ (z_54 : Nat), ∃ (z_56 : Nat), ∃ (z_57 : Nat), ∃ (z_58 : Nat), ∃ (z_59 : Nat), ∃ (z_60 : Nat), ∃ (q_61 : Nat), ∃ (q_1 : Nat), ∃ (q_28 : Nat), ∃ (q_51 : Nat), ∃ (q_55 : Nat), ∃ (z_30 : Nat), ∃ (z_52 : Nat), ∃ (z_53 : Nat), cB D (va_A [(h0, .inr (11, [vnl_, vnl_, vnl_, vnl_, vnl_, vnl_, vnl_, vnl_, vnl_, vnl_, vnl_, vi0_, vi0_]))] sz) [vaz_ z_2 k.2.1 3, vaz_ z_3 k.2.1 1200, vaz_ z_4 k.2.1 4, vaz_ z_5 k.2.1 4, vaz_ z_6 k.2.1 4, vaz_ z_7 k.2.1 4, vaz_ z_8 k.2.1 580, vaz_ z_9 k.2.1 7, (z_10, .inl (k.2.1, 3, .inl (upd (upd (upd (fun _ => 0) 0 0) 1 1) 2 0))), vaz_ z_12 k.2.1 3, vaz_ z_13 k.2.1 1200, vaz_ z_14 k.2.1 4, vaz_ z_15 k.2.1 4, vaz_ z_16 k.2.1 4, vaz_ z_17 k.2.1 4, vaz_ z_18 k.2.1 580, vaz_ z_19 k.2.1 7, (q_11, .inr (6, [vrf_ z_12, vrf_ z_13, vrf_ z_14, vrf_ z_15, vrf_ z_16, vrf_ z_17, vrf_ z_20, vrf_ z_18, vrf_ z_19, vi0_, vi0_, vi0_, vi0_, vi0_, .int 30, .int 10, vi0_])), (z_20, .inl (k.2.1, 3, .inl (upd (upd (upd (fun _ => 0) 0 0) 1 1) 2 0))), vaz_ q_21 k.1 1600, (q_22, .inr (7, [vrf_ z_23, vrf_ z_24, vrf_ z_25, vrf_ z_26, vrf_ z_27, vrf_ q_11, vi0_, vi0_, vi0_, vi0_])), vazl_ z_25 k.2.2.1 3, vazl_ z_26 k.2.2.1 4, vazl_ z_27 k.2.2.1 6, (z_23, .inr (9, [vrf_ q_21, vi0_, vi0_, vi0_, vi0_, vi0_, vl0_, vi0_, .int (-1)])), (z_24, .inr (2, [vrf_ z_23, vrf_ q_11, vi0_])), vaz_ z_29 k.2.1 1200, vaz_ z_31 k.2.1 100, (q_32, .inr (0, [vrf_ z_33, vi0_, vi0_, vi0_, vi0_, vi0_, vi0_, vi0_])), vaz_ z_33 k.2.2.2.1 400, (q_34, .inr (10, [vrf_ z_35, vrf_ z_36, vrf_ z_37, vrf_ z_38, vrf_ z_39])), (z_35, .inl (k.2.2.2.2, 4, .inr (.inr (.inr (.inr (fun i => some (z_35 + 1 + i))))))), vaz_ (z_35 + 1) k.2.1 402, vaz_ (z_35 + 2) k.2.1 402, vaz_ (z_35 + 3) k.2.1 402, vaz_ (z_35 + 4) k.2.1 402, (z_36, .inr (4, [vrf_ z_40, vrf_ z_41, vi0_, vi0_])), vaz_ z_40 k.2.1 400, vaz_ z_41 k.2.1 400, (z_37, .inr (4, [vrf_ z_42, vrf_ z_43, vi0_, vi0_])), vaz_ z_42 k.2.1 400, vaz_ z_43 k.2.1 400, vaz_ z_38 k.2.1 64, vaz_ z_39 k.2.2.2.1 64, (q_44, .inr (5, [vrf_ z_45, vrf_ z_46, vrf_ z_47, vrf_ z_48, vrf_ z_49, vrf_ z_50, vi0_])), vazl_ z_45 k.2.2.1 404, vazl_ z_46 k.2.2.1 404, vazl_ z_47 k.2.2.1 404, vazl_ z_48 k.2.2.1 404, vazl_ z_49 k.2.2.1 404, vazl_ z_50 k.2.2.1 404, vaz_ z_54 k.2.1 30, vaz_ z_56 k.2.1 20, vaz_ z_57 k.2.1 20, vaz_ z_58 k.2.1 20, vaz_ z_59 k.2.1 20, vaz_ z_60 k.2.1 20, vaz_ q_61 k.2.1 400, (h0, .inr (11, [vrf_ q_1, vrf_ q_11, vrf_ q_21, vrf_ q_22, vrf_ q_28, vrf_ q_32, vrf_ q_34, vrf_ q_44, vrf_ q_51, vrf_ q_55, vrf_ q_61, vi0_, vi0_])), (q_1, .inr (6, [vrf_ z_2, vrf_ z_3, vrf_ z_4, vrf_ z_5, vrf_ z_6, vrf_ z_7, vrf_ z_10, vrf_ z_8, vrf_ z_9, vi0_, vi0_, vi0_, vi0_, vi0_, .int 30, .int 10, vi0_])), (q_55, .inr (8, [vrf_ z_56, vrf_ z_57, vrf_ z_58, vrf_ z_59, vrf_ z_60, vi0_, vi0_])), (q_28, .inr (3, [vrf_ z_29, vrf_ z_30, vrf_ z_31, vi0_, vrf_ q_1])), (z_30, .inl (k.2.1, 3, .inl (upd (upd (upd (fun _ => 0) 0 (-1)) 1 (-1)) 2 (-1)))), (q_51, .inr (1, [vrf_ z_52, vrf_ z_53, vrf_ z_54, vi0_, vi0_, vi0_])), (z_52, .inl (k.2.1, 10, .inl (upd (upd (upd (upd (upd (upd (upd (upd (upd (upd (upd (upd (fun _ => 0) 0 0) 1 0) 2 0) 3 0) 4 0) 5 0) 6 0) 7 0) 8 0) 9 0) 0 (-1)) 7 0))), (z_53, .inl (k.2.1, 410, .inl (va_cpy (upd (upd (upd (upd (upd (upd (upd (upd (upd (upd (upd (upd (fun _ => 0) 0 0) 1 0) 2 0) 3 0) 4 0) 5 0) 6 0) 7 0) 8 0) 9 0) 0 (-1)) 7 0) (fun _ => 0) (0 : Int32).toNatClampNeg (0 : Int32).toNatClampNeg (10 : Int32).toNatClampNeg)))] t) (va_A [(h0, .inr (11, [vnl_, vnl_, vnl_, vnl_, vnl_, vnl_, vnl_, vnl_, vnl_, vnl_, vnl_, vi0_, vi0_]))] sz)) 65 13750 (va_A [(h0, .inr (11, [vnl_, vnl_, vnl_, vnl_, vnl_, vnl_, vnl_, vnl_, vnl_, vnl_, vnl_, vi0_, vi0_]))] sz) := by
  refine Met.ofW (cc := cX11_init) (maxL := 1) (ret := none) (by decide) rfl ?_
  intro p e s m args below meth c s₁ B hml hv
  obtain ⟨rfl, hsz, hP, hKX, hD0⟩ := hv
  have hK := hKX.1
  have hx := B.exec
  have hb := B.bytes
  have hr := B.returns
  have hts := atoms_spec (ws := WS yX11_init cX11_init 1 none) B.pre
  have hgd : ∀ w ∈ gd, w ∈ WS yX11_init cX11_init 1 none := fun w h => List.mem_cons_of_mem _ h
  have hg : ∀ w ∈ gd, w.before _ s = true := fun w h => hts w (hgd w h)
  have hown : s.vm.findClass RX11 = some m.cls := findClass_of_methodNamed B.named
  have hlocks := B.notSynchronized
  have hin : meth.name = "<init>" := (name_of_methodNamed B.named B.method).1
  subst hsz
  have hD := hD0.self (sz := s.heap.size)
  generalize hAe : va_A [(h0, .inr (11, [vnl_, vnl_, vnl_, vnl_, vnl_, vnl_, vnl_, vnl_, vnl_, vnl_, vnl_, vi0_, vi0_]))] s.heap.size = A at hD ⊢
  have hA : ∀ q : Nat, s.heap.size ≤ q → A q := fun q h => by rw [← hAe]; exact Or.inr h
  have hS : va_S A s.heap s.heap [] := va_S.rf
  have hP : va_P D classes [(h0, .inr (11, [vnl_, vnl_, vnl_, vnl_, vnl_, vnl_, vnl_, vnl_, vnl_, vnl_, vnl_, vi0_, vi0_]))] s.heap := hP
  have hl := lv_entry ([.ref h0]) (n := 1) (Nat.le_of_ble_eq_true rfl)
  rw [lg_entry_eq]
  generalize (lg_sl ([.ref h0]) ++ List.replicate (1 - (lg_sl ([.ref h0])).length) Slot.unset).toArray = ls at hl ⊢
  have hl : lv_has ls 1 [(0, .ref h0)] := hl
  refine lv_aload_n hx hb dX11_init_0 rfl (lv_at hl 0 rfl) ?_
  refine W.objInit hx hb hown (hg (Cond.methodLink RX11 1 objectInit) m143) (hg (Cond.instanceMethod objectInit) m144) (hg (Cond.code objectInit ⟨#[0xb1]⟩ 1 none) m145) rfl (by rw [hml]; exact hl.1) rfl dX11_init_1 (Nat.le_of_ble_eq_true rfl) (Nat.le_of_ble_eq_true rfl) ?_
  refine W.eq (g2 := F0 m 4 ls []) rfl ?_
  refine lv_aload_n hx hb dX11_init_4 rfl (lv_at hl 0 rfl) ?_
  refine va_new (ci := 6) (fs := [vnl_, vnl_, vnl_, vnl_, vnl_, vnl_, vnl_, vnl_, vnl_, vi0_, vi0_, vi0_, vi0_, vi0_, vi0_, vi0_, vi0_]) (C := RX6) (T := TX6) (N := 17) hx hb hg iX6 tyX6 tyX6_ok hown (hg (Cond.classLink RX11 7 RX6) m146) (hg (Cond.instantiable RX6 17) m147) (hg (Cond.initialized RX6) m118) hK hP hD hS hA rfl (by decide) (Nat.le_of_ble_eq_true rfl) (Nat.le_of_ble_eq_true rfl) dX11_init_5 (fun q_1 H hP hD hS => ?_)
  obtain ⟨ws_, hws_, hP, hD⟩ : ∃ w : va_W, w = [(h0, .inr (11, [vnl_, vnl_, vnl_, vnl_, vnl_, vnl_, vnl_, vnl_, vnl_, vnl_, vnl_, vi0_, vi0_])), (q_1, .inr (6, [vnl_, vnl_, vnl_, vnl_, vnl_, vnl_, vnl_, vnl_, vnl_, vi0_, vi0_, vi0_, vi0_, vi0_, vi0_, vi0_, vi0_]))] ∧ va_P D classes w H ∧ va_D A w := ⟨_, rfl, hP, hD⟩
  subst hws_
  refine W.widen (k := 1) (n := 17) (Nat.le_of_ble_eq_true rfl) (Nat.le_of_ble_eq_true rfl) ?_
  refine lv_dup hx hb dX11_init_8 rfl ?_
  have hPc := hP.sub (ws' := [(q_1, .inr (6, [vnl_, vnl_, vnl_, vnl_, vnl_, vnl_, vnl_, vnl_, vnl_, vi0_, vi0_, vi0_, vi0_, vi0_, vi0_, vi0_, vi0_]))]) [1] rfl
  have hDc := hD.sub (ws' := [(q_1, .inr (6, [vnl_, vnl_, vnl_, vnl_, vnl_, vnl_, vnl_, vnl_, vnl_, vi0_, vi0_, vi0_, vi0_, vi0_, vi0_, vi0_, vi0_]))]) [1] (by decide +kernel) rfl
  have hFc := va_free (wc := [(q_1, .inr (6, [vnl_, vnl_, vnl_, vnl_, vnl_, vnl_, vnl_, vnl_, vnl_, vi0_, vi0_, vi0_, vi0_, vi0_, vi0_, vi0_, vi0_]))]) hD hS hA [1] rfl
  refine va_callv (va_runI (As := []) (rest := [.ref q_1, .ref h0]) ⟨hx, hb, hml, hown, hts⟩ (q_X6 l D k H.size q_1) (cwI 0 hts (gd_in hgd (gd_WS m150)) rfl rfl rfl (hg (Cond.initialized RX6) m118) (hg (Cond.methodLink RX11 9 yX6_init) m148) (hg (Cond.instanceMethod yX6_init) m149) rfl (by decide +kernel) ⟨Nat.le_of_ble_eq_true rfl, Nat.le_of_ble_eq_true rfl⟩) (cQ_S hPc hKX hDc) rfl rfl hl.1 rfl (lv_room (Nat.le_of_ble_eq_true rfl)) dX11_init_9 ⟨Nat.le_of_ble_eq_true rfl, Nat.le_of_ble_eq_true rfl⟩) hS (fun q _ h => hFc q h) hFc (fun u t H1 locs ht hvm hw hB hz1 hk1 hS => ?_)
  refine hB.elim (fun z_2 hB => hB.elim (fun z_3 hB => hB.elim (fun z_4 hB => hB.elim (fun z_5 hB => hB.elim (fun z_6 hB => hB.elim (fun z_7 hB => hB.elim (fun z_8 hB => hB.elim (fun z_9 hB => hB.elim (fun z_10 hB => ?_)))))))))
  have hP1 := hB.1
  have hD1 := hB.2
  rw [ht] at hP1
  obtain ⟨hP, hD⟩ := va_join (wr := [(h0, .inr (11, [vnl_, vnl_, vnl_, vnl_, vnl_, vnl_, vnl_, vnl_, vnl_, vnl_, vnl_, vi0_, vi0_]))]) (w1 := [vaz_ z_2 k.2.1 3, vaz_ z_3 k.2.1 1200, vaz_ z_4 k.2.1 4, vaz_ z_5 k.2.1 4, vaz_ z_6 k.2.1 4, vaz_ z_7 k.2.1 4, vaz_ z_8 k.2.1 580, vaz_ z_9 k.2.1 7, (q_1, .inr (6, [vrf_ z_2, vrf_ z_3, vrf_ z_4, vrf_ z_5, vrf_ z_6, vrf_ z_7, vrf_ z_10, vrf_ z_8, vrf_ z_9, vi0_, vi0_, vi0_, vi0_, vi0_, .int 30, .int 10, vi0_])), (z_10, .inl (k.2.1, 3, .inl (upd (upd (upd (fun _ => 0) 0 0) 1 1) 2 0)))]) hP hD [1] [0] rfl rfl (by decide +kernel) (by decide +kernel) hk1 hFc hP1 hD1
  generalize H1 = H at hP hS ⊢
  obtain ⟨ws_, hws_, hP, hD⟩ : ∃ w : va_W, w = [(h0, .inr (11, [vnl_, vnl_, vnl_, vnl_, vnl_, vnl_, vnl_, vnl_, vnl_, vnl_, vnl_, vi0_, vi0_])), vaz_ z_2 k.2.1 3, vaz_ z_3 k.2.1 1200, vaz_ z_4 k.2.1 4, vaz_ z_5 k.2.1 4, vaz_ z_6 k.2.1 4, vaz_ z_7 k.2.1 4, vaz_ z_8 k.2.1 580, vaz_ z_9 k.2.1 7, (q_1, .inr (6, [vrf_ z_2, vrf_ z_3, vrf_ z_4, vrf_ z_5, vrf_ z_6, vrf_ z_7, vrf_ z_10, vrf_ z_8, vrf_ z_9, vi0_, vi0_, vi0_, vi0_, vi0_, .int 30, .int 10, vi0_])), (z_10, .inl (k.2.1, 3, .inl (upd (upd (upd (fun _ => 0) 0 0) 1 1) 2 0)))] ∧ va_P D classes w H ∧ va_D A w := ⟨_, rfl, hP, hD⟩
  subst hws_
  refine W.widen (k := 10) (n := 1826) (Nat.le_of_ble_eq_true rfl) (Nat.le_of_ble_eq_true rfl) ?_
  refine va_put (D := D) (ci := 11) (v := .ref q_1) (ty := (.object "SlabWalk$Paving")) (C := RX11) (T := TX11) (N := 13) hx hb hg iX11 tyX11 tyX11_ok nmX11 hown hK hP hD hS 0 rfl rfl 0 (by decide) (hg (Cond.fieldLink RX11 10 "SlabWalk" "paving" "LSlabWalk$Paving;") m570) (fun _ h9 => h9) rfl (by decide +kernel) rfl rfl (Nat.le_of_ble_eq_true rfl) dX11_init_12 (fun H locs hP hD hS => ?_)
  obtain ⟨ws_, hws_, hP, hD⟩ : ∃ w : va_W, w = [(h0, .inr (11, [vrf_ q_1, vnl_, vnl_, vnl_, vnl_, vnl_, vnl_, vnl_, vnl_, vnl_, vnl_, vi0_, vi0_])), vaz_ z_2 k.2.1 3, vaz_ z_3 k.2.1 1200, vaz_ z_4 k.2.1 4, vaz_ z_5 k.2.1 4, vaz_ z_6 k.2.1 4, vaz_ z_7 k.2.1 4, vaz_ z_8 k.2.1 580, vaz_ z_9 k.2.1 7, (q_1, .inr (6, [vrf_ z_2, vrf_ z_3, vrf_ z_4, vrf_ z_5, vrf_ z_6, vrf_ z_7, vrf_ z_10, vrf_ z_8, vrf_ z_9, vi0_, vi0_, vi0_, vi0_, vi0_, .int 30, .int 10, vi0_])), (z_10, .inl (k.2.1, 3, .inl (upd (upd (upd (fun _ => 0) 0 0) 1 1) 2 0)))] ∧ va_P D classes w H ∧ va_D A w := ⟨_, rfl, hP, hD⟩
  subst hws_
  refine lv_aload_n hx hb dX11_init_15 rfl (lv_at hl 0 rfl) ?_
  refine va_new (ci := 6) (fs := [vnl_, vnl_, vnl_, vnl_, vnl_, vnl_, vnl_, vnl_, vnl_, vi0_, vi0_, vi0_, vi0_, vi0_, vi0_, vi0_, vi0_]) (C := RX6) (T := TX6) (N := 17) hx hb hg iX6 tyX6 tyX6_ok hown (hg (Cond.classLink RX11 7 RX6) m146) (hg (Cond.instantiable RX6 17) m147) (hg (Cond.initialized RX6) m118) hK hP hD hS hA rfl (by decide) (Nat.le_of_ble_eq_true rfl) (Nat.le_of_ble_eq_true rfl) dX11_init_16 (fun q_11 H hP hD hS => ?_)
  obtain ⟨ws_, hws_, hP, hD⟩ : ∃ w : va_W, w = [(h0, .inr (11, [vrf_ q_1, vnl_, vnl_, vnl_, vnl_, vnl_, vnl_, vnl_, vnl_, vnl_, vnl_, vi0_, vi0_])), vaz_ z_2 k.2.1 3, vaz_ z_3 k.2.1 1200, vaz_ z_4 k.2.1 4, vaz_ z_5 k.2.1 4, vaz_ z_6 k.2.1 4, vaz_ z_7 k.2.1 4, vaz_ z_8 k.2.1 580, vaz_ z_9 k.2.1 7, (q_1, .inr (6, [vrf_ z_2, vrf_ z_3, vrf_ z_4, vrf_ z_5, vrf_ z_6, vrf_ z_7, vrf_ z_10, vrf_ z_8, vrf_ z_9, vi0_, vi0_, vi0_, vi0_, vi0_, .int 30, .int 10, vi0_])), (z_10, .inl (k.2.1, 3, .inl (upd (upd (upd (fun _ => 0) 0 0) 1 1) 2 0))), (q_11, .inr (6, [vnl_, vnl_, vnl_, vnl_, vnl_, vnl_, vnl_, vnl_, vnl_, vi0_, vi0_, vi0_, vi0_, vi0_, vi0_, vi0_, vi0_]))] ∧ va_P D classes w H ∧ va_D A w := ⟨_, rfl, hP, hD⟩
  subst hws_
  refine W.widen (k := 11) (n := 1843) (Nat.le_of_ble_eq_true rfl) (Nat.le_of_ble_eq_true rfl) ?_
  refine lv_dup hx hb dX11_init_19 rfl ?_
  have hPc := hP.sub (ws' := [(q_11, .inr (6, [vnl_, vnl_, vnl_, vnl_, vnl_, vnl_, vnl_, vnl_, vnl_, vi0_, vi0_, vi0_, vi0_, vi0_, vi0_, vi0_, vi0_]))]) [11] rfl
  have hDc := hD.sub (ws' := [(q_11, .inr (6, [vnl_, vnl_, vnl_, vnl_, vnl_, vnl_, vnl_, vnl_, vnl_, vi0_, vi0_, vi0_, vi0_, vi0_, vi0_, vi0_, vi0_]))]) [11] (by decide +kernel) rfl
  have hFc := va_free (wc := [(q_11, .inr (6, [vnl_, vnl_, vnl_, vnl_, vnl_, vnl_, vnl_, vnl_, vnl_, vi0_, vi0_, vi0_, vi0_, vi0_, vi0_, vi0_, vi0_]))]) hD hS hA [11] rfl
  refine va_callv (va_runI (As := []) (rest := [.ref q_11, .ref h0]) ⟨hx, hb, hml, hown, hts⟩ (q_X6 l D k H.size q_11) (cwI 0 hts (gd_in hgd (gd_WS m150)) rfl rfl rfl (hg (Cond.initialized RX6) m118) (hg (Cond.methodLink RX11 9 yX6_init) m148) (hg (Cond.instanceMethod yX6_init) m149) rfl (by decide +kernel) ⟨Nat.le_of_ble_eq_true rfl, Nat.le_of_ble_eq_true rfl⟩) (cQ_S hPc hKX hDc) rfl rfl hl.1 rfl (lv_room (Nat.le_of_ble_eq_true rfl)) dX11_init_20 ⟨Nat.le_of_ble_eq_true rfl, Nat.le_of_ble_eq_true rfl⟩) hS (fun q _ h => hFc q h) hFc (fun u t H1 locs ht hvm hw hB hz1 hk1 hS => ?_)
  refine hB.elim (fun z_12 hB => hB.elim (fun z_13 hB => hB.elim (fun z_14 hB => hB.elim (fun z_15 hB => hB.elim (fun z_16 hB => hB.elim (fun z_17 hB => hB.elim (fun z_18 hB => hB.elim (fun z_19 hB => hB.elim (fun z_20 hB => ?_)))))))))
  have hP1 := hB.1
  have hD1 := hB.2
  rw [ht] at hP1
  obtain ⟨hP, hD⟩ := va_join (wr := [(h0, .inr (11, [vrf_ q_1, vnl_, vnl_, vnl_, vnl_, vnl_, vnl_, vnl_, vnl_, vnl_, vnl_, vi0_, vi0_])), vaz_ z_2 k.2.1 3, vaz_ z_3 k.2.1 1200, vaz_ z_4 k.2.1 4, vaz_ z_5 k.2.1 4, vaz_ z_6 k.2.1 4, vaz_ z_7 k.2.1 4, vaz_ z_8 k.2.1 580, vaz_ z_9 k.2.1 7, (q_1, .inr (6, [vrf_ z_2, vrf_ z_3, vrf_ z_4, vrf_ z_5, vrf_ z_6, vrf_ z_7, vrf_ z_10, vrf_ z_8, vrf_ z_9, vi0_, vi0_, vi0_, vi0_, vi0_, .int 30, .int 10, vi0_])), (z_10, .inl (k.2.1, 3, .inl (upd (upd (upd (fun _ => 0) 0 0) 1 1) 2 0)))]) (w1 := [vaz_ z_12 k.2.1 3, vaz_ z_13 k.2.1 1200, vaz_ z_14 k.2.1 4, vaz_ z_15 k.2.1 4, vaz_ z_16 k.2.1 4, vaz_ z_17 k.2.1 4, vaz_ z_18 k.2.1 580, vaz_ z_19 k.2.1 7, (q_11, .inr (6, [vrf_ z_12, vrf_ z_13, vrf_ z_14, vrf_ z_15, vrf_ z_16, vrf_ z_17, vrf_ z_20, vrf_ z_18, vrf_ z_19, vi0_, vi0_, vi0_, vi0_, vi0_, .int 30, .int 10, vi0_])), (z_20, .inl (k.2.1, 3, .inl (upd (upd (upd (fun _ => 0) 0 0) 1 1) 2 0)))]) hP hD [11] [0, 1, 2, 3, 4, 5, 6, 7, 8, 9, 10] rfl rfl (by decide +kernel) (by decide +kernel) hk1 hFc hP1 hD1
  generalize H1 = H at hP hS ⊢
  obtain ⟨ws_, hws_, hP, hD⟩ : ∃ w : va_W, w = [(h0, .inr (11, [vrf_ q_1, vnl_, vnl_, vnl_, vnl_, vnl_, vnl_, vnl_, vnl_, vnl_, vnl_, vi0_, vi0_])), vaz_ z_2 k.2.1 3, vaz_ z_3 k.2.1 1200, vaz_ z_4 k.2.1 4, vaz_ z_5 k.2.1 4, vaz_ z_6 k.2.1 4, vaz_ z_7 k.2.1 4, vaz_ z_8 k.2.1 580, vaz_ z_9 k.2.1 7, (q_1, .inr (6, [vrf_ z_2, vrf_ z_3, vrf_ z_4, vrf_ z_5, vrf_ z_6, vrf_ z_7, vrf_ z_10, vrf_ z_8, vrf_ z_9, vi0_, vi0_, vi0_, vi0_, vi0_, .int 30, .int 10, vi0_])), (z_10, .inl (k.2.1, 3, .inl (upd (upd (upd (fun _ => 0) 0 0) 1 1) 2 0))), vaz_ z_12 k.2.1 3, vaz_ z_13 k.2.1 1200, vaz_ z_14 k.2.1 4, vaz_ z_15 k.2.1 4, vaz_ z_16 k.2.1 4, vaz_ z_17 k.2.1 4, vaz_ z_18 k.2.1 580, vaz_ z_19 k.2.1 7, (q_11, .inr (6, [vrf_ z_12, vrf_ z_13, vrf_ z_14, vrf_ z_15, vrf_ z_16, vrf_ z_17, vrf_ z_20, vrf_ z_18, vrf_ z_19, vi0_, vi0_, vi0_, vi0_, vi0_, .int 30, .int 10, vi0_])), (z_20, .inl (k.2.1, 3, .inl (upd (upd (upd (fun _ => 0) 0 0) 1 1) 2 0)))] ∧ va_P D classes w H ∧ va_D A w := ⟨_, rfl, hP, hD⟩
  subst hws_
  refine W.widen (k := 20) (n := 3652) (Nat.le_of_ble_eq_true rfl) (Nat.le_of_ble_eq_true rfl) ?_
  refine va_put (D := D) (ci := 11) (v := .ref q_11) (ty := (.object "SlabWalk$Paving")) (C := RX11) (T := TX11) (N := 13) hx hb hg iX11 tyX11 tyX11_ok nmX11 hown hK hP hD hS 0 rfl rfl 1 (by decide) (hg (Cond.fieldLink RX11 16 "SlabWalk" "spare" "LSlabWalk$Paving;") m571) (fun _ h9 => h9) rfl (by decide +kernel) rfl rfl (Nat.le_of_ble_eq_true rfl) dX11_init_23 (fun H locs hP hD hS => ?_)
  obtain ⟨ws_, hws_, hP, hD⟩ : ∃ w : va_W, w = [(h0, .inr (11, [vrf_ q_1, vrf_ q_11, vnl_, vnl_, vnl_, vnl_, vnl_, vnl_, vnl_, vnl_, vnl_, vi0_, vi0_])), vaz_ z_2 k.2.1 3, vaz_ z_3 k.2.1 1200, vaz_ z_4 k.2.1 4, vaz_ z_5 k.2.1 4, vaz_ z_6 k.2.1 4, vaz_ z_7 k.2.1 4, vaz_ z_8 k.2.1 580, vaz_ z_9 k.2.1 7, (q_1, .inr (6, [vrf_ z_2, vrf_ z_3, vrf_ z_4, vrf_ z_5, vrf_ z_6, vrf_ z_7, vrf_ z_10, vrf_ z_8, vrf_ z_9, vi0_, vi0_, vi0_, vi0_, vi0_, .int 30, .int 10, vi0_])), (z_10, .inl (k.2.1, 3, .inl (upd (upd (upd (fun _ => 0) 0 0) 1 1) 2 0))), vaz_ z_12 k.2.1 3, vaz_ z_13 k.2.1 1200, vaz_ z_14 k.2.1 4, vaz_ z_15 k.2.1 4, vaz_ z_16 k.2.1 4, vaz_ z_17 k.2.1 4, vaz_ z_18 k.2.1 580, vaz_ z_19 k.2.1 7, (q_11, .inr (6, [vrf_ z_12, vrf_ z_13, vrf_ z_14, vrf_ z_15, vrf_ z_16, vrf_ z_17, vrf_ z_20, vrf_ z_18, vrf_ z_19, vi0_, vi0_, vi0_, vi0_, vi0_, .int 30, .int 10, vi0_])), (z_20, .inl (k.2.1, 3, .inl (upd (upd (upd (fun _ => 0) 0 0) 1 1) 2 0)))] ∧ va_P D classes w H ∧ va_D A w := ⟨_, rfl, hP, hD⟩
  subst hws_
  refine lv_aload_n hx hb dX11_init_26 rfl (lv_at hl 0 rfl) ?_
  refine lv_sipush (v := 1600) hx hb dX11_init_27 (by decide) ?_
  refine va_newaT (atype := .byte) (ty := .byte) (a0 := (1600, .inl (fun _ => 0))) hx hb (hg (Cond.arrayClass .byte) m293) rfl ra_byte hK hP hD hS hA 0 rfl (fun _ => rfl) (by decide) (by decide) (Nat.le_of_ble_eq_true rfl) (Nat.le_of_ble_eq_true rfl) (Nat.le_of_ble_eq_true rfl) dX11_init_30 (fun q_21 H hP hD hS => ?_)
  refine W.widen (k := 21) (n := 5252) (Nat.le_of_ble_eq_true rfl) (Nat.le_of_ble_eq_true rfl) ?_
  refine va_putF (D := D) (ci := 11) (v := .ref q_21) (ty := (.array .byte)) (C := RX11) (T := TX11) (N := 13) hx hb hg iX11 tyX11 tyX11_ok nmX11 hown hK hP hD hS 0 rfl rfl 2 (by decide) (hg (Cond.fieldLink RX11 19 "SlabWalk" "tape" "[B") m572) (fun _ h9 => h9) rfl hin rfl (by decide +kernel) rfl rfl (Nat.le_of_ble_eq_true rfl) dX11_init_32 (fun H locs hP hD hS => ?_)
  obtain ⟨ws_, hws_, hP, hD⟩ : ∃ w : va_W, w = [(h0, .inr (11, [vrf_ q_1, vrf_ q_11, vrf_ q_21, vnl_, vnl_, vnl_, vnl_, vnl_, vnl_, vnl_, vnl_, vi0_, vi0_])), vaz_ z_2 k.2.1 3, vaz_ z_3 k.2.1 1200, vaz_ z_4 k.2.1 4, vaz_ z_5 k.2.1 4, vaz_ z_6 k.2.1 4, vaz_ z_7 k.2.1 4, vaz_ z_8 k.2.1 580, vaz_ z_9 k.2.1 7, (q_1, .inr (6, [vrf_ z_2, vrf_ z_3, vrf_ z_4, vrf_ z_5, vrf_ z_6, vrf_ z_7, vrf_ z_10, vrf_ z_8, vrf_ z_9, vi0_, vi0_, vi0_, vi0_, vi0_, .int 30, .int 10, vi0_])), (z_10, .inl (k.2.1, 3, .inl (upd (upd (upd (fun _ => 0) 0 0) 1 1) 2 0))), vaz_ z_12 k.2.1 3, vaz_ z_13 k.2.1 1200, vaz_ z_14 k.2.1 4, vaz_ z_15 k.2.1 4, vaz_ z_16 k.2.1 4, vaz_ z_17 k.2.1 4, vaz_ z_18 k.2.1 580, vaz_ z_19 k.2.1 7, (q_11, .inr (6, [vrf_ z_12, vrf_ z_13, vrf_ z_14, vrf_ z_15, vrf_ z_16, vrf_ z_17, vrf_ z_20, vrf_ z_18, vrf_ z_19, vi0_, vi0_, vi0_, vi0_, vi0_, .int 30, .int 10, vi0_])), (z_20, .inl (k.2.1, 3, .inl (upd (upd (upd (fun _ => 0) 0 0) 1 1) 2 0))), vaz_ q_21 k.1 1600] ∧ va_P D classes w H ∧ va_D A w := ⟨_, rfl, hP, hD⟩
  subst hws_
  refine lv_aload_n hx hb dX11_init_35 rfl (lv_at hl 0 rfl) ?_
  refine va_new (ci := 7) (fs := [vnl_, vnl_, vnl_, vnl_, vnl_, vnl_, vi0_, vi0_, vi0_, vi0_]) (C := RX7) (T := TX7) (N := 10) hx hb hg iX7 tyX7 tyX7_ok hown (hg (Cond.classLink RX11 23 RX7) m246) (hg (Cond.instantiable RX7 10) m247) (hg (Cond.initialized RX7) m119) hK hP hD hS hA rfl (by decide) (Nat.le_of_ble_eq_true rfl) (Nat.le_of_ble_eq_true rfl) dX11_init_36 (fun q_22 H hP hD hS => ?_)
  obtain ⟨ws_, hws_, hP, hD⟩ : ∃ w : va_W, w = [(h0, .inr (11, [vrf_ q_1, vrf_ q_11, vrf_ q_21, vnl_, vnl_, vnl_, vnl_, vnl_, vnl_, vnl_, vnl_, vi0_, vi0_])), vaz_ z_2 k.2.1 3, vaz_ z_3 k.2.1 1200, vaz_ z_4 k.2.1 4, vaz_ z_5 k.2.1 4, vaz_ z_6 k.2.1 4, vaz_ z_7 k.2.1 4, vaz_ z_8 k.2.1 580, vaz_ z_9 k.2.1 7, (q_1, .inr (6, [vrf_ z_2, vrf_ z_3, vrf_ z_4, vrf_ z_5, vrf_ z_6, vrf_ z_7, vrf_ z_10, vrf_ z_8, vrf_ z_9, vi0_, vi0_, vi0_, vi0_, vi0_, .int 30, .int 10, vi0_])), (z_10, .inl (k.2.1, 3, .inl (upd (upd (upd (fun _ => 0) 0 0) 1 1) 2 0))), vaz_ z_12 k.2.1 3, vaz_ z_13 k.2.1 1200, vaz_ z_14 k.2.1 4, vaz_ z_15 k.2.1 4, vaz_ z_16 k.2.1 4, vaz_ z_17 k.2.1 4, vaz_ z_18 k.2.1 580, vaz_ z_19 k.2.1 7, (q_11, .inr (6, [vrf_ z_12, vrf_ z_13, vrf_ z_14, vrf_ z_15, vrf_ z_16, vrf_ z_17, vrf_ z_20, vrf_ z_18, vrf_ z_19, vi0_, vi0_, vi0_, vi0_, vi0_, .int 30, .int 10, vi0_])), (z_20, .inl (k.2.1, 3, .inl (upd (upd (upd (fun _ => 0) 0 0) 1 1) 2 0))), vaz_ q_21 k.1 1600, (q_22, .inr (7, [vnl_, vnl_, vnl_, vnl_, vnl_, vnl_, vi0_, vi0_, vi0_, vi0_]))] ∧ va_P D classes w H ∧ va_D A w := ⟨_, rfl, hP, hD⟩
  subst hws_
  refine W.widen (k := 22) (n := 5262) (Nat.le_of_ble_eq_true rfl) (Nat.le_of_ble_eq_true rfl) ?_
  refine lv_dup hx hb dX11_init_39 rfl ?_
  refine lv_aload_n hx hb dX11_init_40 rfl (lv_at hl 0 rfl) ?_
  refine va_get (D := D) (ci := 11) (v := .ref q_21) (C := RX11) (T := TX11) (N := 13) hx hb hg iX11 hown hK hP 0 rfl rfl 2 (by decide) (hg (Cond.fieldLink RX11 19 "SlabWalk" "tape" "[B") m572) (fun _ h9 => h9) rfl dX11_init_41 ?_
  refine lv_aload_n hx hb dX11_init_44 rfl (lv_at hl 0 rfl) ?_
  refine va_get (D := D) (ci := 11) (v := .ref q_11) (C := RX11) (T := TX11) (N := 13) hx hb hg iX11 hown hK hP 0 rfl rfl 1 (by decide) (hg (Cond.fieldLink RX11 16 "SlabWalk" "spare" "LSlabWalk$Paving;") m571) (fun _ h9 => h9) rfl dX11_init_45 ?_
  have hPc := hP.sub (ws' := [(q_22, .inr (7, [vnl_, vnl_, vnl_, vnl_, vnl_, vnl_, vi0_, vi0_, vi0_, vi0_]))]) [22] rfl
  have hDc := hD.sub (ws' := [(q_22, .inr (7, [vnl_, vnl_, vnl_, vnl_, vnl_, vnl_, vi0_, vi0_, vi0_, vi0_]))]) [22] (by decide +kernel) rfl
  have hFc := va_free (wc := [(q_22, .inr (7, [vnl_, vnl_, vnl_, vnl_, vnl_, vnl_, vi0_, vi0_, vi0_, vi0_]))]) hD hS hA [22] rfl
  refine va_callv (va_runI (As := [.ref q_21, .ref q_11]) (rest := [.ref q_22, .ref h0]) ⟨hx, hb, hml, hown, hts⟩ (q_X7 l D k H.size q_22 q_21 q_11) (cwI 2 hts (gd_in hgd (gd_WS m250)) rfl rfl rfl (hg (Cond.initialized RX7) m119) (hg (Cond.methodLink RX11 25 yX7_init) m248) (hg (Cond.instanceMethod yX7_init) m249) rfl (by decide +kernel) ⟨Nat.le_of_ble_eq_true rfl, Nat.le_of_ble_eq_true rfl⟩) (cQ_S hPc hKX hDc) rfl rfl hl.1 rfl (lv_room (Nat.le_of_ble_eq_true rfl)) dX11_init_48 ⟨Nat.le_of_ble_eq_true rfl, Nat.le_of_ble_eq_true rfl⟩) hS (fun q _ h => hFc q h) hFc (fun u t H1 locs ht hvm hw hB hz1 hk1 hS => ?_)
  obtain ⟨z_23, z_24, z_25, z_26, z_27, hP1, hD1⟩ := hB
  rw [ht] at hP1
  obtain ⟨hP, hD⟩ := va_join (wr := [(h0, .inr (11, [vrf_ q_1, vrf_ q_11, vrf_ q_21, vnl_, vnl_, vnl_, vnl_, vnl_, vnl_, vnl_, vnl_, vi0_, vi0_])), vaz_ z_2 k.2.1 3, vaz_ z_3 k.2.1 1200, vaz_ z_4 k.2.1 4, vaz_ z_5 k.2.1 4, vaz_ z_6 k.2.1 4, vaz_ z_7 k.2.1 4, vaz_ z_8 k.2.1 580, vaz_ z_9 k.2.1 7, (q_1, .inr (6, [vrf_ z_2, vrf_ z_3, vrf_ z_4, vrf_ z_5, vrf_ z_6, vrf_ z_7, vrf_ z_10, vrf_ z_8, vrf_ z_9, vi0_, vi0_, vi0_, vi0_, vi0_, .int 30, .int 10, vi0_])), (z_10, .inl (k.2.1, 3, .inl (upd (upd (upd (fun _ => 0) 0 0) 1 1) 2 0))), vaz_ z_12 k.2.1 3, vaz_ z_13 k.2.1 1200, vaz_ z_14 k.2.1 4, vaz_ z_15 k.2.1 4, vaz_ z_16 k.2.1 4, vaz_ z_17 k.2.1 4, vaz_ z_18 k.2.1 580, vaz_ z_19 k.2.1 7, (q_11, .inr (6, [vrf_ z_12, vrf_ z_13, vrf_ z_14, vrf_ z_15, vrf_ z_16, vrf_ z_17, vrf_ z_20, vrf_ z_18, vrf_ z_19, vi0_, vi0_, vi0_, vi0_, vi0_, .int 30, .int 10, vi0_])), (z_20, .inl (k.2.1, 3, .inl (upd (upd (upd (fun _ => 0) 0 0) 1 1) 2 0))), vaz_ q_21 k.1 1600]) (w1 := [(q_22, .inr (7, [vrf_ z_23, vrf_ z_24, vrf_ z_25, vrf_ z_26, vrf_ z_27, vrf_ q_11, vi0_, vi0_, vi0_, vi0_])), vazl_ z_25 k.2.2.1 3, vazl_ z_26 k.2.2.1 4, vazl_ z_27 k.2.2.1 6, (z_23, .inr (9, [vrf_ q_21, vi0_, vi0_, vi0_, vi0_, vi0_, vl0_, vi0_, .int (-1)])), (z_24, .inr (2, [vrf_ z_23, vrf_ q_11, vi0_]))]) hP hD [22] [0, 1, 2, 3, 4, 5, 6, 7, 8, 9, 10, 11, 12, 13, 14, 15, 16, 17, 18, 19, 20, 21] rfl rfl (by decide +kernel) (by decide +kernel) hk1 hFc hP1 hD1
  generalize H1 = H at hP hS ⊢
  obtain ⟨ws_, hws_, hP, hD⟩ : ∃ w : va_W, w = [(h0, .inr (11, [vrf_ q_1, vrf_ q_11, vrf_ q_21, vnl_, vnl_, vnl_, vnl_, vnl_, vnl_, vnl_, vnl_, vi0_, vi0_])), vaz_ z_2 k.2.1 3, vaz_ z_3 k.2.1 1200, vaz_ z_4 k.2.1 4, vaz_ z_5 k.2.1 4, vaz_ z_6 k.2.1 4, vaz_ z_7 k.2.1 4, vaz_ z_8 k.2.1 580, vaz_ z_9 k.2.1 7, (q_1, .inr (6, [vrf_ z_2, vrf_ z_3, vrf_ z_4, vrf_ z_5, vrf_ z_6, vrf_ z_7, vrf_ z_10, vrf_ z_8, vrf_ z_9, vi0_, vi0_, vi0_, vi0_, vi0_, .int 30, .int 10, vi0_])), (z_10, .inl (k.2.1, 3, .inl (upd (upd (upd (fun _ => 0) 0 0) 1 1) 2 0))), vaz_ z_12 k.2.1 3, vaz_ z_13 k.2.1 1200, vaz_ z_14 k.2.1 4, vaz_ z_15 k.2.1 4, vaz_ z_16 k.2.1 4, vaz_ z_17 k.2.1 4, vaz_ z_18 k.2.1 580, vaz_ z_19 k.2.1 7, (q_11, .inr (6, [vrf_ z_12, vrf_ z_13, vrf_ z_14, vrf_ z_15, vrf_ z_16, vrf_ z_17, vrf_ z_20, vrf_ z_18, vrf_ z_19, vi0_, vi0_, vi0_, vi0_, vi0_, .int 30, .int 10, vi0_])), (z_20, .inl (k.2.1, 3, .inl (upd (upd (upd (fun _ => 0) 0 0) 1 1) 2 0))), vaz_ q_21 k.1 1600, (q_22, .inr (7, [vrf_ z_23, vrf_ z_24, vrf_ z_25, vrf_ z_26, vrf_ z_27, vrf_ q_11, vi0_, vi0_, vi0_, vi0_])), vazl_ z_25 k.2.2.1 3, vazl_ z_26 k.2.2.1 4, vazl_ z_27 k.2.2.1 6, (z_23, .inr (9, [vrf_ q_21, vi0_, vi0_, vi0_, vi0_, vi0_, vl0_, vi0_, .int (-1)])), (z_24, .inr (2, [vrf_ z_23, vrf_ q_11, vi0_]))] ∧ va_P D classes w H ∧ va_D A w := ⟨_, rfl, hP, hD⟩
  subst hws_
  refine W.widen (k := 27) (n := 5287) (Nat.le_of_ble_eq_true rfl) (Nat.le_of_ble_eq_true rfl) ?_
  refine va_putF (D := D) (ci := 11) (v := .ref q_22) (ty := (.object "SlabWalk$Reader")) (C := RX11) (T := TX11) (N := 13) hx hb hg iX11 tyX11 tyX11_ok nmX11 hown hK hP hD hS 0 rfl rfl 3 (by decide) (hg (Cond.fieldLink RX11 28 "SlabWalk" "reader" "LSlabWalk$Reader;") m573) (fun _ h9 => h9) rfl hin rfl (by decide +kernel) rfl rfl (Nat.le_of_ble_eq_true rfl) dX11_init_51 (fun H locs hP hD hS => ?_)
  obtain ⟨ws_, hws_, hP, hD⟩ : ∃ w : va_W, w = [(h0, .inr (11, [vrf_ q_1, vrf_ q_11, vrf_ q_21, vrf_ q_22, vnl_, vnl_, vnl_, vnl_, vnl_, vnl_, vnl_, vi0_, vi0_])), vaz_ z_2 k.2.1 3, vaz_ z_3 k.2.1 1200, vaz_ z_4 k.2.1 4, vaz_ z_5 k.2.1 4, vaz_ z_6 k.2.1 4, vaz_ z_7 k.2.1 4, vaz_ z_8 k.2.1 580, vaz_ z_9 k.2.1 7, (q_1, .inr (6, [vrf_ z_2, vrf_ z_3, vrf_ z_4, vrf_ z_5, vrf_ z_6, vrf_ z_7, vrf_ z_10, vrf_ z_8, vrf_ z_9, vi0_, vi0_, vi0_, vi0_, vi0_, .int 30, .int 10, vi0_])), (z_10, .inl (k.2.1, 3, .inl (upd (upd (upd (fun _ => 0) 0 0) 1 1) 2 0))), vaz_ z_12 k.2.1 3, vaz_ z_13 k.2.1 1200, vaz_ z_14 k.2.1 4, vaz_ z_15 k.2.1 4, vaz_ z_16 k.2.1 4, vaz_ z_17 k.2.1 4, vaz_ z_18 k.2.1 580, vaz_ z_19 k.2.1 7, (q_11, .inr (6, [vrf_ z_12, vrf_ z_13, vrf_ z_14, vrf_ z_15, vrf_ z_16, vrf_ z_17, vrf_ z_20, vrf_ z_18, vrf_ z_19, vi0_, vi0_, vi0_, vi0_, vi0_, .int 30, .int 10, vi0_])), (z_20, .inl (k.2.1, 3, .inl (upd (upd (upd (fun _ => 0) 0 0) 1 1) 2 0))), vaz_ q_21 k.1 1600, (q_22, .inr (7, [vrf_ z_23, vrf_ z_24, vrf_ z_25, vrf_ z_26, vrf_ z_27, vrf_ q_11, vi0_, vi0_, vi0_, vi0_])), vazl_ z_25 k.2.2.1 3, vazl_ z_26 k.2.2.1 4, vazl_ z_27 k.2.2.1 6, (z_23, .inr (9, [vrf_ q_21, vi0_, vi0_, vi0_, vi0_, vi0_, vl0_, vi0_, .int (-1)])), (z_24, .inr (2, [vrf_ z_23, vrf_ q_11, vi0_]))] ∧ va_P D classes w H ∧ va_D A w := ⟨_, rfl, hP, hD⟩
  subst hws_
  refine lv_aload_n hx hb dX11_init_54 rfl (lv_at hl 0 rfl) ?_
  refine va_new (ci := 3) (fs := [vnl_, vnl_, vnl_, vi0_, vnl_]) (C := RX3) (T := TX3) (N := 5) hx hb hg iX3 tyX3 tyX3_ok hown (hg (Cond.classLink RX11 32 RX3) m343) (hg (Cond.instantiable RX3 5) m344) (hg (Cond.initialized RX3) m122) hK hP hD hS hA rfl (by decide) (Nat.le_of_ble_eq_true rfl) (Nat.le_of_ble_eq_true rfl) dX11_init_55 (fun q_28 H hP hD hS => ?_)
  obtain ⟨ws_, hws_, hP, hD⟩ : ∃ w : va_W, w = [(h0, .inr (11, [vrf_ q_1, vrf_ q_11, vrf_ q_21, vrf_ q_22, vnl_, vnl_, vnl_, vnl_, vnl_, vnl_, vnl_, vi0_, vi0_])), vaz_ z_2 k.2.1 3, vaz_ z_3 k.2.1 1200, vaz_ z_4 k.2.1 4, vaz_ z_5 k.2.1 4, vaz_ z_6 k.2.1 4, vaz_ z_7 k.2.1 4, vaz_ z_8 k.2.1 580, vaz_ z_9 k.2.1 7, (q_1, .inr (6, [vrf_ z_2, vrf_ z_3, vrf_ z_4, vrf_ z_5, vrf_ z_6, vrf_ z_7, vrf_ z_10, vrf_ z_8, vrf_ z_9, vi0_, vi0_, vi0_, vi0_, vi0_, .int 30, .int 10, vi0_])), (z_10, .inl (k.2.1, 3, .inl (upd (upd (upd (fun _ => 0) 0 0) 1 1) 2 0))), vaz_ z_12 k.2.1 3, vaz_ z_13 k.2.1 1200, vaz_ z_14 k.2.1 4, vaz_ z_15 k.2.1 4, vaz_ z_16 k.2.1 4, vaz_ z_17 k.2.1 4, vaz_ z_18 k.2.1 580, vaz_ z_19 k.2.1 7, (q_11, .inr (6, [vrf_ z_12, vrf_ z_13, vrf_ z_14, vrf_ z_15, vrf_ z_16, vrf_ z_17, vrf_ z_20, vrf_ z_18, vrf_ z_19, vi0_, vi0_, vi0_, vi0_, vi0_, .int 30, .int 10, vi0_])), (z_20, .inl (k.2.1, 3, .inl (upd (upd (upd (fun _ => 0) 0 0) 1 1) 2 0))), vaz_ q_21 k.1 1600, (q_22, .inr (7, [vrf_ z_23, vrf_ z_24, vrf_ z_25, vrf_ z_26, vrf_ z_27, vrf_ q_11, vi0_, vi0_, vi0_, vi0_])), vazl_ z_25 k.2.2.1 3, vazl_ z_26 k.2.2.1 4, vazl_ z_27 k.2.2.1 6, (z_23, .inr (9, [vrf_ q_21, vi0_, vi0_, vi0_, vi0_, vi0_, vl0_, vi0_, .int (-1)])), (z_24, .inr (2, [vrf_ z_23, vrf_ q_11, vi0_])), (q_28, .inr (3, [vnl_, vnl_, vnl_, vi0_, vnl_]))] ∧ va_P D classes w H ∧ va_D A w := ⟨_, rfl, hP, hD⟩
  subst hws_
  refine W.widen (k := 28) (n := 5292) (Nat.le_of_ble_eq_true rfl) (Nat.le_of_ble_eq_true rfl) ?_
  refine lv_dup hx hb dX11_init_58 rfl ?_
  refine lv_aload_n hx hb dX11_init_59 rfl (lv_at hl 0 rfl) ?_
  refine va_get (D := D) (ci := 11) (v := .ref q_1) (C := RX11) (T := TX11) (N := 13) hx hb hg iX11 hown hK hP 0 rfl rfl 0 (by decide) (hg (Cond.fieldLink RX11 10 "SlabWalk" "paving" "LSlabWalk$Paving;") m570) (fun _ h9 => h9) rfl dX11_init_60 ?_
  have hPc := hP.sub (ws' := [(q_28, .inr (3, [vnl_, vnl_, vnl_, vi0_, vnl_]))]) [28] rfl
  have hDc := hD.sub (ws' := [(q_28, .inr (3, [vnl_, vnl_, vnl_, vi0_, vnl_]))]) [28] (by decide +kernel) rfl
  have hFc := va_free (wc := [(q_28, .inr (3, [vnl_, vnl_, vnl_, vi0_, vnl_]))]) hD hS hA [28] rfl
  refine va_callv (va_runI (As := [.ref q_1]) (rest := [.ref q_28, .ref h0]) ⟨hx, hb, hml, hown, hts⟩ (q_X3 l D k H.size q_28 q_1) (cwI 1 hts (gd_in hgd (gd_WS m347)) rfl rfl rfl (hg (Cond.initialized RX3) m122) (hg (Cond.methodLink RX11 34 yX3_init) m345) (hg (Cond.instanceMethod yX3_init) m346) rfl (by decide +kernel) ⟨Nat.le_of_ble_eq_true rfl, Nat.le_of_ble_eq_true rfl⟩) (cQ_S hPc hKX hDc) rfl rfl hl.1 rfl (lv_room (Nat.le_of_ble_eq_true rfl)) dX11_init_63 ⟨Nat.le_of_ble_eq_true rfl, Nat.le_of_ble_eq_true rfl⟩) hS (fun q _ h => hFc q h) hFc (fun u t H1 locs ht hvm hw hB hz1 hk1 hS => ?_)
  obtain ⟨z_29, z_30, z_31, hP1, hD1⟩ := hB
  rw [ht] at hP1
  obtain ⟨hP, hD⟩ := va_join (wr := [(h0, .inr (11, [vrf_ q_1, vrf_ q_11, vrf_ q_21, vrf_ q_22, vnl_, vnl_, vnl_, vnl_, vnl_, vnl_, vnl_, vi0_, vi0_])), vaz_ z_2 k.2.1 3, vaz_ z_3 k.2.1 1200, vaz_ z_4 k.2.1 4, vaz_ z_5 k.2.1 4, vaz_ z_6 k.2.1 4, vaz_ z_7 k.2.1 4, vaz_ z_8 k.2.1 580, vaz_ z_9 k.2.1 7, (q_1, .inr (6, [vrf_ z_2, vrf_ z_3, vrf_ z_4, vrf_ z_5, vrf_ z_6, vrf_ z_7, vrf_ z_10, vrf_ z_8, vrf_ z_9, vi0_, vi0_, vi0_, vi0_, vi0_, .int 30, .int 10, vi0_])), (z_10, .inl (k.2.1, 3, .inl (upd (upd (upd (fun _ => 0) 0 0) 1 1) 2 0))), vaz_ z_12 k.2.1 3, vaz_ z_13 k.2.1 1200, vaz_ z_14 k.2.1 4, vaz_ z_15 k.2.1 4, vaz_ z_16 k.2.1 4, vaz_ z_17 k.2.1 4, vaz_ z_18 k.2.1 580, vaz_ z_19 k.2.1 7, (q_11, .inr (6, [vrf_ z_12, vrf_ z_13, vrf_ z_14, vrf_ z_15, vrf_ z_16, vrf_ z_17, vrf_ z_20, vrf_ z_18, vrf_ z_19, vi0_, vi0_, vi0_, vi0_, vi0_, .int 30, .int 10, vi0_])), (z_20, .inl (k.2.1, 3, .inl (upd (upd (upd (fun _ => 0) 0 0) 1 1) 2 0))), vaz_ q_21 k.1 1600, (q_22, .inr (7, [vrf_ z_23, vrf_ z_24, vrf_ z_25, vrf_ z_26, vrf_ z_27, vrf_ q_11, vi0_, vi0_, vi0_, vi0_])), vazl_ z_25 k.2.2.1 3, vazl_ z_26 k.2.2.1 4, vazl_ z_27 k.2.2.1 6, (z_23, .inr (9, [vrf_ q_21, vi0_, vi0_, vi0_, vi0_, vi0_, vl0_, vi0_, .int (-1)])), (z_24, .inr (2, [vrf_ z_23, vrf_ q_11, vi0_]))]) (w1 := [(q_28, .inr (3, [vrf_ z_29, vrf_ z_30, vrf_ z_31, vi0_, vrf_ q_1])), vaz_ z_29 k.2.1 1200, vaz_ z_30 k.2.1 3, vaz_ z_31 k.2.1 100]) hP hD [28] [0, 1, 2, 3, 4, 5, 6, 7, 8, 9, 10, 11, 12, 13, 14, 15, 16, 17, 18, 19, 20, 21, 22, 23, 24, 25, 26, 27] rfl rfl (by decide +kernel) (by decide +kernel) hk1 hFc hP1 hD1
  generalize H1 = H at hP hS ⊢
  obtain ⟨ws_, hws_, hP, hD⟩ : ∃ w : va_W, w = [(h0, .inr (11, [vrf_ q_1, vrf_ q_11, vrf_ q_21, vrf_ q_22, vnl_, vnl_, vnl_, vnl_, vnl_, vnl_, vnl_, vi0_, vi0_])), vaz_ z_2 k.2.1 3, vaz_ z_3 k.2.1 1200, vaz_ z_4 k.2.1 4, vaz_ z_5 k.2.1 4, vaz_ z_6 k.2.1 4, vaz_ z_7 k.2.1 4, vaz_ z_8 k.2.1 580, vaz_ z_9 k.2.1 7, (q_1, .inr (6, [vrf_ z_2, vrf_ z_3, vrf_ z_4, vrf_ z_5, vrf_ z_6, vrf_ z_7, vrf_ z_10, vrf_ z_8, vrf_ z_9, vi0_, vi0_, vi0_, vi0_, vi0_, .int 30, .int 10, vi0_])), (z_10, .inl (k.2.1, 3, .inl (upd (upd (upd (fun _ => 0) 0 0) 1 1) 2 0))), vaz_ z_12 k.2.1 3, vaz_ z_13 k.2.1 1200, vaz_ z_14 k.2.1 4, vaz_ z_15 k.2.1 4, vaz_ z_16 k.2.1 4, vaz_ z_17 k.2.1 4, vaz_ z_18 k.2.1 580, vaz_ z_19 k.2.1 7, (q_11, .inr (6, [vrf_ z_12, vrf_ z_13, vrf_ z_14, vrf_ z_15, vrf_ z_16, vrf_ z_17, vrf_ z_20, vrf_ z_18, vrf_ z_19, vi0_, vi0_, vi0_, vi0_, vi0_, .int 30, .int 10, vi0_])), (z_20, .inl (k.2.1, 3, .inl (upd (upd (upd (fun _ => 0) 0 0) 1 1) 2 0))), vaz_ q_21 k.1 1600, (q_22, .inr (7, [vrf_ z_23, vrf_ z_24, vrf_ z_25, vrf_ z_26, vrf_ z_27, vrf_ q_11, vi0_, vi0_, vi0_, vi0_])), vazl_ z_25 k.2.2.1 3, vazl_ z_26 k.2.2.1 4, vazl_ z_27 k.2.2.1 6, (z_23, .inr (9, [vrf_ q_21, vi0_, vi0_, vi0_, vi0_, vi0_, vl0_, vi0_, .int (-1)])), (z_24, .inr (2, [vrf_ z_23, vrf_ q_11, vi0_])), (q_28, .inr (3, [vrf_ z_29, vrf_ z_30, vrf_ z_31, vi0_, vrf_ q_1])), vaz_ z_29 k.2.1 1200, vaz_ z_30 k.2.1 3, vaz_ z_31 k.2.1 100] ∧ va_P D classes w H ∧ va_D A w := ⟨_, rfl, hP, hD⟩
  subst hws_
  refine W.widen (k := 31) (n := 6595) (Nat.le_of_ble_eq_true rfl) (Nat.le_of_ble_eq_true rfl) ?_
  refine va_putF (D := D) (ci := 11) (v := .ref q_28) (ty := (.object "SlabWalk$Lines")) (C := RX11) (T := TX11) (N := 13) hx hb hg iX11 tyX11 tyX11_ok nmX11 hown hK hP hD hS 0 rfl rfl 4 (by decide) (hg (Cond.fieldLink RX11 37 "SlabWalk" "lines" "LSlabWalk$Lines;") m574) (fun _ h9 => h9) rfl hin rfl (by decide +kernel) rfl rfl (Nat.le_of_ble_eq_true rfl) dX11_init_66 (fun H locs hP hD hS => ?_)
  obtain ⟨ws_, hws_, hP, hD⟩ : ∃ w : va_W, w = [(h0, .inr (11, [vrf_ q_1, vrf_ q_11, vrf_ q_21, vrf_ q_22, vrf_ q_28, vnl_, vnl_, vnl_, vnl_, vnl_, vnl_, vi0_, vi0_])), vaz_ z_2 k.2.1 3, vaz_ z_3 k.2.1 1200, vaz_ z_4 k.2.1 4, vaz_ z_5 k.2.1 4, vaz_ z_6 k.2.1 4, vaz_ z_7 k.2.1 4, vaz_ z_8 k.2.1 580, vaz_ z_9 k.2.1 7, (q_1, .inr (6, [vrf_ z_2, vrf_ z_3, vrf_ z_4, vrf_ z_5, vrf_ z_6, vrf_ z_7, vrf_ z_10, vrf_ z_8, vrf_ z_9, vi0_, vi0_, vi0_, vi0_, vi0_, .int 30, .int 10, vi0_])), (z_10, .inl (k.2.1, 3, .inl (upd (upd (upd (fun _ => 0) 0 0) 1 1) 2 0))), vaz_ z_12 k.2.1 3, vaz_ z_13 k.2.1 1200, vaz_ z_14 k.2.1 4, vaz_ z_15 k.2.1 4, vaz_ z_16 k.2.1 4, vaz_ z_17 k.2.1 4, vaz_ z_18 k.2.1 580, vaz_ z_19 k.2.1 7, (q_11, .inr (6, [vrf_ z_12, vrf_ z_13, vrf_ z_14, vrf_ z_15, vrf_ z_16, vrf_ z_17, vrf_ z_20, vrf_ z_18, vrf_ z_19, vi0_, vi0_, vi0_, vi0_, vi0_, .int 30, .int 10, vi0_])), (z_20, .inl (k.2.1, 3, .inl (upd (upd (upd (fun _ => 0) 0 0) 1 1) 2 0))), vaz_ q_21 k.1 1600, (q_22, .inr (7, [vrf_ z_23, vrf_ z_24, vrf_ z_25, vrf_ z_26, vrf_ z_27, vrf_ q_11, vi0_, vi0_, vi0_, vi0_])), vazl_ z_25 k.2.2.1 3, vazl_ z_26 k.2.2.1 4, vazl_ z_27 k.2.2.1 6, (z_23, .inr (9, [vrf_ q_21, vi0_, vi0_, vi0_, vi0_, vi0_, vl0_, vi0_, .int (-1)])), (z_24, .inr (2, [vrf_ z_23, vrf_ q_11, vi0_])), (q_28, .inr (3, [vrf_ z_29, vrf_ z_30, vrf_ z_31, vi0_, vrf_ q_1])), vaz_ z_29 k.2.1 1200, vaz_ z_30 k.2.1 3, vaz_ z_31 k.2.1 100] ∧ va_P D classes w H ∧ va_D A w := ⟨_, rfl, hP, hD⟩
  subst hws_
  refine lv_aload_n hx hb dX11_init_69 rfl (lv_at hl 0 rfl) ?_
  refine va_new (ci := 0) (fs := [vnl_, vi0_, vi0_, vi0_, vi0_, vi0_, vi0_, vi0_]) (C := RX0) (T := TX0) (N := 8) hx hb hg iX0 tyX0 tyX0_ok hown (hg (Cond.classLink RX11 41 RX0) m365) (hg (Cond.instantiable RX0 8) m366) (hg (Cond.initialized RX0) m123) hK hP hD hS hA rfl (by decide) (Nat.le_of_ble_eq_true rfl) (Nat.le_of_ble_eq_true rfl) dX11_init_70 (fun q_32 H hP hD hS => ?_)
  obtain ⟨ws_, hws_, hP, hD⟩ : ∃ w : va_W, w = [(h0, .inr (11, [vrf_ q_1, vrf_ q_11, vrf_ q_21, vrf_ q_22, vrf_ q_28, vnl_, vnl_, vnl_, vnl_, vnl_, vnl_, vi0_, vi0_])), vaz_ z_2 k.2.1 3, vaz_ z_3 k.2.1 1200, vaz_ z_4 k.2.1 4, vaz_ z_5 k.2.1 4, vaz_ z_6 k.2.1 4, vaz_ z_7 k.2.1 4, vaz_ z_8 k.2.1 580, vaz_ z_9 k.2.1 7, (q_1, .inr (6, [vrf_ z_2, vrf_ z_3, vrf_ z_4, vrf_ z_5, vrf_ z_6, vrf_ z_7, vrf_ z_10, vrf_ z_8, vrf_ z_9, vi0_, vi0_, vi0_, vi0_, vi0_, .int 30, .int 10, vi0_])), (z_10, .inl (k.2.1, 3, .inl (upd (upd (upd (fun _ => 0) 0 0) 1 1) 2 0))), vaz_ z_12 k.2.1 3, vaz_ z_13 k.2.1 1200, vaz_ z_14 k.2.1 4, vaz_ z_15 k.2.1 4, vaz_ z_16 k.2.1 4, vaz_ z_17 k.2.1 4, vaz_ z_18 k.2.1 580, vaz_ z_19 k.2.1 7, (q_11, .inr (6, [vrf_ z_12, vrf_ z_13, vrf_ z_14, vrf_ z_15, vrf_ z_16, vrf_ z_17, vrf_ z_20, vrf_ z_18, vrf_ z_19, vi0_, vi0_, vi0_, vi0_, vi0_, .int 30, .int 10, vi0_])), (z_20, .inl (k.2.1, 3, .inl (upd (upd (upd (fun _ => 0) 0 0) 1 1) 2 0))), vaz_ q_21 k.1 1600, (q_22, .inr (7, [vrf_ z_23, vrf_ z_24, vrf_ z_25, vrf_ z_26, vrf_ z_27, vrf_ q_11, vi0_, vi0_, vi0_, vi0_])), vazl_ z_25 k.2.2.1 3, vazl_ z_26 k.2.2.1 4, vazl_ z_27 k.2.2.1 6, (z_23, .inr (9, [vrf_ q_21, vi0_, vi0_, vi0_, vi0_, vi0_, vl0_, vi0_, .int (-1)])), (z_24, .inr (2, [vrf_ z_23, vrf_ q_11, vi0_])), (q_28, .inr (3, [vrf_ z_29, vrf_ z_30, vrf_ z_31, vi0_, vrf_ q_1])), vaz_ z_29 k.2.1 1200, vaz_ z_30 k.2.1 3, vaz_ z_31 k.2.1 100, (q_32, .inr (0, [vnl_, vi0_, vi0_, vi0_, vi0_, vi0_, vi0_, vi0_]))] ∧ va_P D classes w H ∧ va_D A w := ⟨_, rfl, hP, hD⟩
  subst hws_
  refine W.widen (k := 32) (n := 6603) (Nat.le_of_ble_eq_true rfl) (Nat.le_of_ble_eq_true rfl) ?_
  refine lv_dup hx hb dX11_init_73 rfl ?_
  have hPc := hP.sub (ws' := [(q_32, .inr (0, [vnl_, vi0_, vi0_, vi0_, vi0_, vi0_, vi0_, vi0_]))]) [32] rfl
  have hDc := hD.sub (ws' := [(q_32, .inr (0, [vnl_, vi0_, vi0_, vi0_, vi0_, vi0_, vi0_, vi0_]))]) [32] (by decide +kernel) rfl
  have hFc := va_free (wc := [(q_32, .inr (0, [vnl_, vi0_, vi0_, vi0_, vi0_, vi0_, vi0_, vi0_]))]) hD hS hA [32] rfl
  refine va_callv (va_runIN (As := []) (rest := [.ref q_32, .ref h0]) ⟨hx, hb, hml, hown, hts⟩ (q_X0 l D k H.size q_32) ⟨va_cnB 0 hts (gd_in hgd (gd_WS m369)) rfl rfl rfl hKX.2.2.1 (hg (Cond.initialized RX0) m123) (by decide +kernel) ⟨Nat.le_of_ble_eq_true rfl, Nat.le_of_ble_eq_true rfl⟩, rfl, (hg (Cond.instanceMethod yX0_init) m368)⟩ (cQ_S hPc hKX hDc) rfl rfl hl.1 rfl (lv_room (Nat.le_of_ble_eq_true rfl)) dX11_init_74 ⟨Nat.le_of_ble_eq_true rfl, Nat.le_of_ble_eq_true rfl⟩) hS (fun q _ h => hFc q h) hFc (fun u t H1 locs ht hvm hw hB hz1 hk1 hS => ?_)
  obtain ⟨z_33, hP1, hD1⟩ := hB
  rw [ht] at hP1
  obtain ⟨hP, hD⟩ := va_join (wr := [(h0, .inr (11, [vrf_ q_1, vrf_ q_11, vrf_ q_21, vrf_ q_22, vrf_ q_28, vnl_, vnl_, vnl_, vnl_, vnl_, vnl_, vi0_, vi0_])), vaz_ z_2 k.2.1 3, vaz_ z_3 k.2.1 1200, vaz_ z_4 k.2.1 4, vaz_ z_5 k.2.1 4, vaz_ z_6 k.2.1 4, vaz_ z_7 k.2.1 4, vaz_ z_8 k.2.1 580, vaz_ z_9 k.2.1 7, (q_1, .inr (6, [vrf_ z_2, vrf_ z_3, vrf_ z_4, vrf_ z_5, vrf_ z_6, vrf_ z_7, vrf_ z_10, vrf_ z_8, vrf_ z_9, vi0_, vi0_, vi0_, vi0_, vi0_, .int 30, .int 10, vi0_])), (z_10, .inl (k.2.1, 3, .inl (upd (upd (upd (fun _ => 0) 0 0) 1 1) 2 0))), vaz_ z_12 k.2.1 3, vaz_ z_13 k.2.1 1200, vaz_ z_14 k.2.1 4, vaz_ z_15 k.2.1 4, vaz_ z_16 k.2.1 4, vaz_ z_17 k.2.1 4, vaz_ z_18 k.2.1 580, vaz_ z_19 k.2.1 7, (q_11, .inr (6, [vrf_ z_12, vrf_ z_13, vrf_ z_14, vrf_ z_15, vrf_ z_16, vrf_ z_17, vrf_ z_20, vrf_ z_18, vrf_ z_19, vi0_, vi0_, vi0_, vi0_, vi0_, .int 30, .int 10, vi0_])), (z_20, .inl (k.2.1, 3, .inl (upd (upd (upd (fun _ => 0) 0 0) 1 1) 2 0))), vaz_ q_21 k.1 1600, (q_22, .inr (7, [vrf_ z_23, vrf_ z_24, vrf_ z_25, vrf_ z_26, vrf_ z_27, vrf_ q_11, vi0_, vi0_, vi0_, vi0_])), vazl_ z_25 k.2.2.1 3, vazl_ z_26 k.2.2.1 4, vazl_ z_27 k.2.2.1 6, (z_23, .inr (9, [vrf_ q_21, vi0_, vi0_, vi0_, vi0_, vi0_, vl0_, vi0_, .int (-1)])), (z_24, .inr (2, [vrf_ z_23, vrf_ q_11, vi0_])), (q_28, .inr (3, [vrf_ z_29, vrf_ z_30, vrf_ z_31, vi0_, vrf_ q_1])), vaz_ z_29 k.2.1 1200, vaz_ z_30 k.2.1 3, vaz_ z_31 k.2.1 100]) (w1 := [(q_32, .inr (0, [vrf_ z_33, vi0_, vi0_, vi0_, vi0_, vi0_, vi0_, vi0_])), vaz_ z_33 k.2.2.2.1 400]) hP hD [32] [0, 1, 2, 3, 4, 5, 6, 7, 8, 9, 10, 11, 12, 13, 14, 15, 16, 17, 18, 19, 20, 21, 22, 23, 24, 25, 26, 27, 28, 29, 30, 31] rfl rfl (by decide +kernel) (by decide +kernel) hk1 hFc hP1 hD1
  generalize H1 = H at hP hS ⊢
  obtain ⟨ws_, hws_, hP, hD⟩ : ∃ w : va_W, w = [(h0, .inr (11, [vrf_ q_1, vrf_ q_11, vrf_ q_21, vrf_ q_22, vrf_ q_28, vnl_, vnl_, vnl_, vnl_, vnl_, vnl_, vi0_, vi0_])), vaz_ z_2 k.2.1 3, vaz_ z_3 k.2.1 1200, vaz_ z_4 k.2.1 4, vaz_ z_5 k.2.1 4, vaz_ z_6 k.2.1 4, vaz_ z_7 k.2.1 4, vaz_ z_8 k.2.1 580, vaz_ z_9 k.2.1 7, (q_1, .inr (6, [vrf_ z_2, vrf_ z_3, vrf_ z_4, vrf_ z_5, vrf_ z_6, vrf_ z_7, vrf_ z_10, vrf_ z_8, vrf_ z_9, vi0_, vi0_, vi0_, vi0_, vi0_, .int 30, .int 10, vi0_])), (z_10, .inl (k.2.1, 3, .inl (upd (upd (upd (fun _ => 0) 0 0) 1 1) 2 0))), vaz_ z_12 k.2.1 3, vaz_ z_13 k.2.1 1200, vaz_ z_14 k.2.1 4, vaz_ z_15 k.2.1 4, vaz_ z_16 k.2.1 4, vaz_ z_17 k.2.1 4, vaz_ z_18 k.2.1 580, vaz_ z_19 k.2.1 7, (q_11, .inr (6, [vrf_ z_12, vrf_ z_13, vrf_ z_14, vrf_ z_15, vrf_ z_16, vrf_ z_17, vrf_ z_20, vrf_ z_18, vrf_ z_19, vi0_, vi0_, vi0_, vi0_, vi0_, .int 30, .int 10, vi0_])), (z_20, .inl (k.2.1, 3, .inl (upd (upd (upd (fun _ => 0) 0 0) 1 1) 2 0))), vaz_ q_21 k.1 1600, (q_22, .inr (7, [vrf_ z_23, vrf_ z_24, vrf_ z_25, vrf_ z_26, vrf_ z_27, vrf_ q_11, vi0_, vi0_, vi0_, vi0_])), vazl_ z_25 k.2.2.1 3, vazl_ z_26 k.2.2.1 4, vazl_ z_27 k.2.2.1 6, (z_23, .inr (9, [vrf_ q_21, vi0_, vi0_, vi0_, vi0_, vi0_, vl0_, vi0_, .int (-1)])), (z_24, .inr (2, [vrf_ z_23, vrf_ q_11, vi0_])), (q_28, .inr (3, [vrf_ z_29, vrf_ z_30, vrf_ z_31, vi0_, vrf_ q_1])), vaz_ z_29 k.2.1 1200, vaz_ z_30 k.2.1 3, vaz_ z_31 k.2.1 100, (q_32, .inr (0, [vrf_ z_33, vi0_, vi0_, vi0_, vi0_, vi0_, vi0_, vi0_])), vaz_ z_33 k.2.2.2.1 400] ∧ va_P D classes w H ∧ va_D A w := ⟨_, rfl, hP, hD⟩
  subst hws_
  refine W.widen (k := 33) (n := 7003) (Nat.le_of_ble_eq_true rfl) (Nat.le_of_ble_eq_true rfl) ?_
  refine va_putF (D := D) (ci := 11) (v := .ref q_32) (ty := (.object "SlabWalk$Course")) (C := RX11) (T := TX11) (N := 13) hx hb hg iX11 tyX11 tyX11_ok nmX11 hown hK hP hD hS 0 rfl rfl 5 (by decide) (hg (Cond.fieldLink RX11 44 "SlabWalk" "course" "LSlabWalk$Course;") m575) (fun _ h9 => h9) rfl hin rfl (by decide +kernel) rfl rfl (Nat.le_of_ble_eq_true rfl) dX11_init_77 (fun H locs hP hD hS => ?_)
  obtain ⟨ws_, hws_, hP, hD⟩ : ∃ w : va_W, w = [(h0, .inr (11, [vrf_ q_1, vrf_ q_11, vrf_ q_21, vrf_ q_22, vrf_ q_28, vrf_ q_32, vnl_, vnl_, vnl_, vnl_, vnl_, vi0_, vi0_])), vaz_ z_2 k.2.1 3, vaz_ z_3 k.2.1 1200, vaz_ z_4 k.2.1 4, vaz_ z_5 k.2.1 4, vaz_ z_6 k.2.1 4, vaz_ z_7 k.2.1 4, vaz_ z_8 k.2.1 580, vaz_ z_9 k.2.1 7, (q_1, .inr (6, [vrf_ z_2, vrf_ z_3, vrf_ z_4, vrf_ z_5, vrf_ z_6, vrf_ z_7, vrf_ z_10, vrf_ z_8, vrf_ z_9, vi0_, vi0_, vi0_, vi0_, vi0_, .int 30, .int 10, vi0_])), (z_10, .inl (k.2.1, 3, .inl (upd (upd (upd (fun _ => 0) 0 0) 1 1) 2 0))), vaz_ z_12 k.2.1 3, vaz_ z_13 k.2.1 1200, vaz_ z_14 k.2.1 4, vaz_ z_15 k.2.1 4, vaz_ z_16 k.2.1 4, vaz_ z_17 k.2.1 4, vaz_ z_18 k.2.1 580, vaz_ z_19 k.2.1 7, (q_11, .inr (6, [vrf_ z_12, vrf_ z_13, vrf_ z_14, vrf_ z_15, vrf_ z_16, vrf_ z_17, vrf_ z_20, vrf_ z_18, vrf_ z_19, vi0_, vi0_, vi0_, vi0_, vi0_, .int 30, .int 10, vi0_])), (z_20, .inl (k.2.1, 3, .inl (upd (upd (upd (fun _ => 0) 0 0) 1 1) 2 0))), vaz_ q_21 k.1 1600, (q_22, .inr (7, [vrf_ z_23, vrf_ z_24, vrf_ z_25, vrf_ z_26, vrf_ z_27, vrf_ q_11, vi0_, vi0_, vi0_, vi0_])), vazl_ z_25 k.2.2.1 3, vazl_ z_26 k.2.2.1 4, vazl_ z_27 k.2.2.1 6, (z_23, .inr (9, [vrf_ q_21, vi0_, vi0_, vi0_, vi0_, vi0_, vl0_, vi0_, .int (-1)])), (z_24, .inr (2, [vrf_ z_23, vrf_ q_11, vi0_])), (q_28, .inr (3, [vrf_ z_29, vrf_ z_30, vrf_ z_31, vi0_, vrf_ q_1])), vaz_ z_29 k.2.1 1200, vaz_ z_30 k.2.1 3, vaz_ z_31 k.2.1 100, (q_32, .inr (0, [vrf_ z_33, vi0_, vi0_, vi0_, vi0_, vi0_, vi0_, vi0_])), vaz_ z_33 k.2.2.2.1 400] ∧ va_P D classes w H ∧ va_D A w := ⟨_, rfl, hP, hD⟩
  subst hws_
  refine lv_aload_n hx hb dX11_init_80 rfl (lv_at hl 0 rfl) ?_
  refine va_new (ci := 10) (fs := [vnl_, vnl_, vnl_, vnl_, vnl_]) (C := RX10) (T := TX10) (N := 5) hx hb hg iX10 tyX10 tyX10_ok hown (hg (Cond.classLink RX11 48 RX10) m413) (hg (Cond.instantiable RX10 5) m414) (hg (Cond.initialized RX10) m124) hK hP hD hS hA rfl (by decide) (Nat.le_of_ble_eq_true rfl) (Nat.le_of_ble_eq_true rfl) dX11_init_81 (fun q_34 H hP hD hS => ?_)
  obtain ⟨ws_, hws_, hP, hD⟩ : ∃ w : va_W, w = [(h0, .inr (11, [vrf_ q_1, vrf_ q_11, vrf_ q_21, vrf_ q_22, vrf_ q_28, vrf_ q_32, vnl_, vnl_, vnl_, vnl_, vnl_, vi0_, vi0_])), vaz_ z_2 k.2.1 3, vaz_ z_3 k.2.1 1200, vaz_ z_4 k.2.1 4, vaz_ z_5 k.2.1 4, vaz_ z_6 k.2.1 4, vaz_ z_7 k.2.1 4, vaz_ z_8 k.2.1 580, vaz_ z_9 k.2.1 7, (q_1, .inr (6, [vrf_ z_2, vrf_ z_3, vrf_ z_4, vrf_ z_5, vrf_ z_6, vrf_ z_7, vrf_ z_10, vrf_ z_8, vrf_ z_9, vi0_, vi0_, vi0_, vi0_, vi0_, .int 30, .int 10, vi0_])), (z_10, .inl (k.2.1, 3, .inl (upd (upd (upd (fun _ => 0) 0 0) 1 1) 2 0))), vaz_ z_12 k.2.1 3, vaz_ z_13 k.2.1 1200, vaz_ z_14 k.2.1 4, vaz_ z_15 k.2.1 4, vaz_ z_16 k.2.1 4, vaz_ z_17 k.2.1 4, vaz_ z_18 k.2.1 580, vaz_ z_19 k.2.1 7, (q_11, .inr (6, [vrf_ z_12, vrf_ z_13, vrf_ z_14, vrf_ z_15, vrf_ z_16, vrf_ z_17, vrf_ z_20, vrf_ z_18, vrf_ z_19, vi0_, vi0_, vi0_, vi0_, vi0_, .int 30, .int 10, vi0_])), (z_20, .inl (k.2.1, 3, .inl (upd (upd (upd (fun _ => 0) 0 0) 1 1) 2 0))), vaz_ q_21 k.1 1600, (q_22, .inr (7, [vrf_ z_23, vrf_ z_24, vrf_ z_25, vrf_ z_26, vrf_ z_27, vrf_ q_11, vi0_, vi0_, vi0_, vi0_])), vazl_ z_25 k.2.2.1 3, vazl_ z_26 k.2.2.1 4, vazl_ z_27 k.2.2.1 6, (z_23, .inr (9, [vrf_ q_21, vi0_, vi0_, vi0_, vi0_, vi0_, vl0_, vi0_, .int (-1)])), (z_24, .inr (2, [vrf_ z_23, vrf_ q_11, vi0_])), (q_28, .inr (3, [vrf_ z_29, vrf_ z_30, vrf_ z_31, vi0_, vrf_ q_1])), vaz_ z_29 k.2.1 1200, vaz_ z_30 k.2.1 3, vaz_ z_31 k.2.1 100, (q_32, .inr (0, [vrf_ z_33, vi0_, vi0_, vi0_, vi0_, vi0_, vi0_, vi0_])), vaz_ z_33 k.2.2.2.1 400, (q_34, .inr (10, [vnl_, vnl_, vnl_, vnl_, vnl_]))] ∧ va_P D classes w H ∧ va_D A w := ⟨_, rfl, hP, hD⟩
  subst hws_
  refine W.widen (k := 34) (n := 7008) (Nat.le_of_ble_eq_true rfl) (Nat.le_of_ble_eq_true rfl) ?_
  refine lv_dup hx hb dX11_init_84 rfl ?_
  have hPc := hP.sub (ws' := [(q_34, .inr (10, [vnl_, vnl_, vnl_, vnl_, vnl_]))]) [34] rfl
  have hDc := hD.sub (ws' := [(q_34, .inr (10, [vnl_, vnl_, vnl_, vnl_, vnl_]))]) [34] (by decide +kernel) rfl
  have hFc := va_free (wc := [(q_34, .inr (10, [vnl_, vnl_, vnl_, vnl_, vnl_]))]) hD hS hA [34] rfl
  refine va_callv (va_runIN (As := []) (rest := [.ref q_34, .ref h0]) ⟨hx, hb, hml, hown, hts⟩ (q_X10 l D k H.size q_34) ⟨va_cnB 0 hts (gd_in hgd (gd_WS m417)) rfl rfl rfl hKX.2.2.2.1 (hg (Cond.initialized RX10) m124) (by decide +kernel) ⟨Nat.le_of_ble_eq_true rfl, Nat.le_of_ble_eq_true rfl⟩, rfl, (hg (Cond.instanceMethod yX10_init) m416)⟩ (cQ_S hPc hKX hDc) rfl rfl hl.1 rfl (lv_room (Nat.le_of_ble_eq_true rfl)) dX11_init_85 ⟨Nat.le_of_ble_eq_true rfl, Nat.le_of_ble_eq_true rfl⟩) hS (fun q _ h => hFc q h) hFc (fun u t H1 locs ht hvm hw hB hz1 hk1 hS => ?_)
  refine hB.elim (fun z_35 hB => hB.elim (fun z_36 hB => hB.elim (fun z_37 hB => hB.elim (fun z_38 hB => hB.elim (fun z_39 hB => hB.elim (fun z_40 hB => hB.elim (fun z_41 hB => hB.elim (fun z_42 hB => hB.elim (fun z_43 hB => ?_)))))))))
  have hP1 := hB.1
  have hD1 := hB.2
  rw [ht] at hP1
  obtain ⟨hP, hD⟩ := va_join (wr := [(h0, .inr (11, [vrf_ q_1, vrf_ q_11, vrf_ q_21, vrf_ q_22, vrf_ q_28, vrf_ q_32, vnl_, vnl_, vnl_, vnl_, vnl_, vi0_, vi0_])), vaz_ z_2 k.2.1 3, vaz_ z_3 k.2.1 1200, vaz_ z_4 k.2.1 4, vaz_ z_5 k.2.1 4, vaz_ z_6 k.2.1 4, vaz_ z_7 k.2.1 4, vaz_ z_8 k.2.1 580, vaz_ z_9 k.2.1 7, (q_1, .inr (6, [vrf_ z_2, vrf_ z_3, vrf_ z_4, vrf_ z_5, vrf_ z_6, vrf_ z_7, vrf_ z_10, vrf_ z_8, vrf_ z_9, vi0_, vi0_, vi0_, vi0_, vi0_, .int 30, .int 10, vi0_])), (z_10, .inl (k.2.1, 3, .inl (upd (upd (upd (fun _ => 0) 0 0) 1 1) 2 0))), vaz_ z_12 k.2.1 3, vaz_ z_13 k.2.1 1200, vaz_ z_14 k.2.1 4, vaz_ z_15 k.2.1 4, vaz_ z_16 k.2.1 4, vaz_ z_17 k.2.1 4, vaz_ z_18 k.2.1 580, vaz_ z_19 k.2.1 7, (q_11, .inr (6, [vrf_ z_12, vrf_ z_13, vrf_ z_14, vrf_ z_15, vrf_ z_16, vrf_ z_17, vrf_ z_20, vrf_ z_18, vrf_ z_19, vi0_, vi0_, vi0_, vi0_, vi0_, .int 30, .int 10, vi0_])), (z_20, .inl (k.2.1, 3, .inl (upd (upd (upd (fun _ => 0) 0 0) 1 1) 2 0))), vaz_ q_21 k.1 1600, (q_22, .inr (7, [vrf_ z_23, vrf_ z_24, vrf_ z_25, vrf_ z_26, vrf_ z_27, vrf_ q_11, vi0_, vi0_, vi0_, vi0_])), vazl_ z_25 k.2.2.1 3, vazl_ z_26 k.2.2.1 4, vazl_ z_27 k.2.2.1 6, (z_23, .inr (9, [vrf_ q_21, vi0_, vi0_, vi0_, vi0_, vi0_, vl0_, vi0_, .int (-1)])), (z_24, .inr (2, [vrf_ z_23, vrf_ q_11, vi0_])), (q_28, .inr (3, [vrf_ z_29, vrf_ z_30, vrf_ z_31, vi0_, vrf_ q_1])), vaz_ z_29 k.2.1 1200, vaz_ z_30 k.2.1 3, vaz_ z_31 k.2.1 100, (q_32, .inr (0, [vrf_ z_33, vi0_, vi0_, vi0_, vi0_, vi0_, vi0_, vi0_])), vaz_ z_33 k.2.2.2.1 400]) (w1 := [(q_34, .inr (10, [vrf_ z_35, vrf_ z_36, vrf_ z_37, vrf_ z_38, vrf_ z_39])), (z_35, .inl (k.2.2.2.2, 4, .inr (.inr (.inr (.inr (fun i => some (z_35 + 1 + i))))))), vaz_ (z_35 + 1) k.2.1 402, vaz_ (z_35 + 2) k.2.1 402, vaz_ (z_35 + 3) k.2.1 402, vaz_ (z_35 + 4) k.2.1 402, (z_36, .inr (4, [vrf_ z_40, vrf_ z_41, vi0_, vi0_])), vaz_ z_40 k.2.1 400, vaz_ z_41 k.2.1 400, (z_37, .inr (4, [vrf_ z_42, vrf_ z_43, vi0_, vi0_])), vaz_ z_42 k.2.1 400, vaz_ z_43 k.2.1 400, vaz_ z_38 k.2.1 64, vaz_ z_39 k.2.2.2.1 64]) hP hD [34] [0, 1, 2, 3, 4, 5, 6, 7, 8, 9, 10, 11, 12, 13, 14, 15, 16, 17, 18, 19, 20, 21, 22, 23, 24, 25, 26, 27, 28, 29, 30, 31, 32, 33] rfl rfl (by decide +kernel) (by decide +kernel) hk1 hFc hP1 hD1
  generalize H1 = H at hP hS ⊢
  obtain ⟨ws_, hws_, hP, hD⟩ : ∃ w : va_W, w = [(h0, .inr (11, [vrf_ q_1, vrf_ q_11, vrf_ q_21, vrf_ q_22, vrf_ q_28, vrf_ q_32, vnl_, vnl_, vnl_, vnl_, vnl_, vi0_, vi0_])), vaz_ z_2 k.2.1 3, vaz_ z_3 k.2.1 1200, vaz_ z_4 k.2.1 4, vaz_ z_5 k.2.1 4, vaz_ z_6 k.2.1 4, vaz_ z_7 k.2.1 4, vaz_ z_8 k.2.1 580, vaz_ z_9 k.2.1 7, (q_1, .inr (6, [vrf_ z_2, vrf_ z_3, vrf_ z_4, vrf_ z_5, vrf_ z_6, vrf_ z_7, vrf_ z_10, vrf_ z_8, vrf_ z_9, vi0_, vi0_, vi0_, vi0_, vi0_, .int 30, .int 10, vi0_])), (z_10, .inl (k.2.1, 3, .inl (upd (upd (upd (fun _ => 0) 0 0) 1 1) 2 0))), vaz_ z_12 k.2.1 3, vaz_ z_13 k.2.1 1200, vaz_ z_14 k.2.1 4, vaz_ z_15 k.2.1 4, vaz_ z_16 k.2.1 4, vaz_ z_17 k.2.1 4, vaz_ z_18 k.2.1 580, vaz_ z_19 k.2.1 7, (q_11, .inr (6, [vrf_ z_12, vrf_ z_13, vrf_ z_14, vrf_ z_15, vrf_ z_16, vrf_ z_17, vrf_ z_20, vrf_ z_18, vrf_ z_19, vi0_, vi0_, vi0_, vi0_, vi0_, .int 30, .int 10, vi0_])), (z_20, .inl (k.2.1, 3, .inl (upd (upd (upd (fun _ => 0) 0 0) 1 1) 2 0))), vaz_ q_21 k.1 1600, (q_22, .inr (7, [vrf_ z_23, vrf_ z_24, vrf_ z_25, vrf_ z_26, vrf_ z_27, vrf_ q_11, vi0_, vi0_, vi0_, vi0_])), vazl_ z_25 k.2.2.1 3, vazl_ z_26 k.2.2.1 4, vazl_ z_27 k.2.2.1 6, (z_23, .inr (9, [vrf_ q_21, vi0_, vi0_, vi0_, vi0_, vi0_, vl0_, vi0_, .int (-1)])), (z_24, .inr (2, [vrf_ z_23, vrf_ q_11, vi0_])), (q_28, .inr (3, [vrf_ z_29, vrf_ z_30, vrf_ z_31, vi0_, vrf_ q_1])), vaz_ z_29 k.2.1 1200, vaz_ z_30 k.2.1 3, vaz_ z_31 k.2.1 100, (q_32, .inr (0, [vrf_ z_33, vi0_, vi0_, vi0_, vi0_, vi0_, vi0_, vi0_])), vaz_ z_33 k.2.2.2.1 400, (q_34, .inr (10, [vrf_ z_35, vrf_ z_36, vrf_ z_37, vrf_ z_38, vrf_ z_39])), (z_35, .inl (k.2.2.2.2, 4, .inr (.inr (.inr (.inr (fun i => some (z_35 + 1 + i))))))), vaz_ (z_35 + 1) k.2.1 402, vaz_ (z_35 + 2) k.2.1 402, vaz_ (z_35 + 3) k.2.1 402, vaz_ (z_35 + 4) k.2.1 402, (z_36, .inr (4, [vrf_ z_40, vrf_ z_41, vi0_, vi0_])), vaz_ z_40 k.2.1 400, vaz_ z_41 k.2.1 400, (z_37, .inr (4, [vrf_ z_42, vrf_ z_43, vi0_, vi0_])), vaz_ z_42 k.2.1 400, vaz_ z_43 k.2.1 400, vaz_ z_38 k.2.1 64, vaz_ z_39 k.2.2.2.1 64] ∧ va_P D classes w H ∧ va_D A w := ⟨_, rfl, hP, hD⟩
  subst hws_
  refine W.widen (k := 47) (n := 10356) (Nat.le_of_ble_eq_true rfl) (Nat.le_of_ble_eq_true rfl) ?_
  refine va_putF (D := D) (ci := 11) (v := .ref q_34) (ty := (.object "SlabWalk$Trails")) (C := RX11) (T := TX11) (N := 13) hx hb hg iX11 tyX11 tyX11_ok nmX11 hown hK hP hD hS 0 rfl rfl 6 (by decide) (hg (Cond.fieldLink RX11 51 "SlabWalk" "trails" "LSlabWalk$Trails;") m576) (fun _ h9 => h9) rfl hin rfl (by decide +kernel) rfl rfl (Nat.le_of_ble_eq_true rfl) dX11_init_88 (fun H locs hP hD hS => ?_)
  obtain ⟨ws_, hws_, hP, hD⟩ : ∃ w : va_W, w = [(h0, .inr (11, [vrf_ q_1, vrf_ q_11, vrf_ q_21, vrf_ q_22, vrf_ q_28, vrf_ q_32, vrf_ q_34, vnl_, vnl_, vnl_, vnl_, vi0_, vi0_])), vaz_ z_2 k.2.1 3, vaz_ z_3 k.2.1 1200, vaz_ z_4 k.2.1 4, vaz_ z_5 k.2.1 4, vaz_ z_6 k.2.1 4, vaz_ z_7 k.2.1 4, vaz_ z_8 k.2.1 580, vaz_ z_9 k.2.1 7, (q_1, .inr (6, [vrf_ z_2, vrf_ z_3, vrf_ z_4, vrf_ z_5, vrf_ z_6, vrf_ z_7, vrf_ z_10, vrf_ z_8, vrf_ z_9, vi0_, vi0_, vi0_, vi0_, vi0_, .int 30, .int 10, vi0_])), (z_10, .inl (k.2.1, 3, .inl (upd (upd (upd (fun _ => 0) 0 0) 1 1) 2 0))), vaz_ z_12 k.2.1 3, vaz_ z_13 k.2.1 1200, vaz_ z_14 k.2.1 4, vaz_ z_15 k.2.1 4, vaz_ z_16 k.2.1 4, vaz_ z_17 k.2.1 4, vaz_ z_18 k.2.1 580, vaz_ z_19 k.2.1 7, (q_11, .inr (6, [vrf_ z_12, vrf_ z_13, vrf_ z_14, vrf_ z_15, vrf_ z_16, vrf_ z_17, vrf_ z_20, vrf_ z_18, vrf_ z_19, vi0_, vi0_, vi0_, vi0_, vi0_, .int 30, .int 10, vi0_])), (z_20, .inl (k.2.1, 3, .inl (upd (upd (upd (fun _ => 0) 0 0) 1 1) 2 0))), vaz_ q_21 k.1 1600, (q_22, .inr (7, [vrf_ z_23, vrf_ z_24, vrf_ z_25, vrf_ z_26, vrf_ z_27, vrf_ q_11, vi0_, vi0_, vi0_, vi0_])), vazl_ z_25 k.2.2.1 3, vazl_ z_26 k.2.2.1 4, vazl_ z_27 k.2.2.1 6, (z_23, .inr (9, [vrf_ q_21, vi0_, vi0_, vi0_, vi0_, vi0_, vl0_, vi0_, .int (-1)])), (z_24, .inr (2, [vrf_ z_23, vrf_ q_11, vi0_])), (q_28, .inr (3, [vrf_ z_29, vrf_ z_30, vrf_ z_31, vi0_, vrf_ q_1])), vaz_ z_29 k.2.1 1200, vaz_ z_30 k.2.1 3, vaz_ z_31 k.2.1 100, (q_32, .inr (0, [vrf_ z_33, vi0_, vi0_, vi0_, vi0_, vi0_, vi0_, vi0_])), vaz_ z_33 k.2.2.2.1 400, (q_34, .inr (10, [vrf_ z_35, vrf_ z_36, vrf_ z_37, vrf_ z_38, vrf_ z_39])), (z_35, .inl (k.2.2.2.2, 4, .inr (.inr (.inr (.inr (fun i => some (z_35 + 1 + i))))))), vaz_ (z_35 + 1) k.2.1 402, vaz_ (z_35 + 2) k.2.1 402, vaz_ (z_35 + 3) k.2.1 402, vaz_ (z_35 + 4) k.2.1 402, (z_36, .inr (4, [vrf_ z_40, vrf_ z_41, vi0_, vi0_])), vaz_ z_40 k.2.1 400, vaz_ z_41 k.2.1 400, (z_37, .inr (4, [vrf_ z_42, vrf_ z_43, vi0_, vi0_])), vaz_ z_42 k.2.1 400, vaz_ z_43 k.2.1 400, vaz_ z_38 k.2.1 64, vaz_ z_39 k.2.2.2.1 64] ∧ va_P D classes w H ∧ va_D A w := ⟨_, rfl, hP, hD⟩
  subst hws_
  refine lv_aload_n hx hb dX11_init_91 rfl (lv_at hl 0 rfl) ?_
  refine va_new (ci := 5) (fs := [vnl_, vnl_, vnl_, vnl_, vnl_, vnl_, vi0_]) (C := RX5) (T := TX5) (N := 7) hx hb hg iX5 tyX5 tyX5_ok hown (hg (Cond.classLink RX11 55 RX5) m458) (hg (Cond.instantiable RX5 7) m459) (hg (Cond.initialized RX5) m126) hK hP hD hS hA rfl (by decide) (Nat.le_of_ble_eq_true rfl) (Nat.le_of_ble_eq_true rfl) dX11_init_92 (fun q_44 H hP hD hS => ?_)
  obtain ⟨ws_, hws_, hP, hD⟩ : ∃ w : va_W, w = [(h0, .inr (11, [vrf_ q_1, vrf_ q_11, vrf_ q_21, vrf_ q_22, vrf_ q_28, vrf_ q_32, vrf_ q_34, vnl_, vnl_, vnl_, vnl_, vi0_, vi0_])), vaz_ z_2 k.2.1 3, vaz_ z_3 k.2.1 1200, vaz_ z_4 k.2.1 4, vaz_ z_5 k.2.1 4, vaz_ z_6 k.2.1 4, vaz_ z_7 k.2.1 4, vaz_ z_8 k.2.1 580, vaz_ z_9 k.2.1 7, (q_1, .inr (6, [vrf_ z_2, vrf_ z_3, vrf_ z_4, vrf_ z_5, vrf_ z_6, vrf_ z_7, vrf_ z_10, vrf_ z_8, vrf_ z_9, vi0_, vi0_, vi0_, vi0_, vi0_, .int 30, .int 10, vi0_])), (z_10, .inl (k.2.1, 3, .inl (upd (upd (upd (fun _ => 0) 0 0) 1 1) 2 0))), vaz_ z_12 k.2.1 3, vaz_ z_13 k.2.1 1200, vaz_ z_14 k.2.1 4, vaz_ z_15 k.2.1 4, vaz_ z_16 k.2.1 4, vaz_ z_17 k.2.1 4, vaz_ z_18 k.2.1 580, vaz_ z_19 k.2.1 7, (q_11, .inr (6, [vrf_ z_12, vrf_ z_13, vrf_ z_14, vrf_ z_15, vrf_ z_16, vrf_ z_17, vrf_ z_20, vrf_ z_18, vrf_ z_19, vi0_, vi0_, vi0_, vi0_, vi0_, .int 30, .int 10, vi0_])), (z_20, .inl (k.2.1, 3, .inl (upd (upd (upd (fun _ => 0) 0 0) 1 1) 2 0))), vaz_ q_21 k.1 1600, (q_22, .inr (7, [vrf_ z_23, vrf_ z_24, vrf_ z_25, vrf_ z_26, vrf_ z_27, vrf_ q_11, vi0_, vi0_, vi0_, vi0_])), vazl_ z_25 k.2.2.1 3, vazl_ z_26 k.2.2.1 4, vazl_ z_27 k.2.2.1 6, (z_23, .inr (9, [vrf_ q_21, vi0_, vi0_, vi0_, vi0_, vi0_, vl0_, vi0_, .int (-1)])), (z_24, .inr (2, [vrf_ z_23, vrf_ q_11, vi0_])), (q_28, .inr (3, [vrf_ z_29, vrf_ z_30, vrf_ z_31, vi0_, vrf_ q_1])), vaz_ z_29 k.2.1 1200, vaz_ z_30 k.2.1 3, vaz_ z_31 k.2.1 100, (q_32, .inr (0, [vrf_ z_33, vi0_, vi0_, vi0_, vi0_, vi0_, vi0_, vi0_])), vaz_ z_33 k.2.2.2.1 400, (q_34, .inr (10, [vrf_ z_35, vrf_ z_36, vrf_ z_37, vrf_ z_38, vrf_ z_39])), (z_35, .inl (k.2.2.2.2, 4, .inr (.inr (.inr (.inr (fun i => some (z_35 + 1 + i))))))), vaz_ (z_35 + 1) k.2.1 402, vaz_ (z_35 + 2) k.2.1 402, vaz_ (z_35 + 3) k.2.1 402, vaz_ (z_35 + 4) k.2.1 402, (z_36, .inr (4, [vrf_ z_40, vrf_ z_41, vi0_, vi0_])), vaz_ z_40 k.2.1 400, vaz_ z_41 k.2.1 400, (z_37, .inr (4, [vrf_ z_42, vrf_ z_43, vi0_, vi0_])), vaz_ z_42 k.2.1 400, vaz_ z_43 k.2.1 400, vaz_ z_38 k.2.1 64, vaz_ z_39 k.2.2.2.1 64, (q_44, .inr (5, [vnl_, vnl_, vnl_, vnl_, vnl_, vnl_, vi0_]))] ∧ va_P D classes w H ∧ va_D A w := ⟨_, rfl, hP, hD⟩
  subst hws_
  refine W.widen (k := 48) (n := 10363) (Nat.le_of_ble_eq_true rfl) (Nat.le_of_ble_eq_true rfl) ?_
  refine lv_dup hx hb dX11_init_95 rfl ?_
  have hPc := hP.sub (ws' := [(q_44, .inr (5, [vnl_, vnl_, vnl_, vnl_, vnl_, vnl_, vi0_]))]) [48] rfl
  have hDc := hD.sub (ws' := [(q_44, .inr (5, [vnl_, vnl_, vnl_, vnl_, vnl_, vnl_, vi0_]))]) [48] (by decide +kernel) rfl
  have hFc := va_free (wc := [(q_44, .inr (5, [vnl_, vnl_, vnl_, vnl_, vnl_, vnl_, vi0_]))]) hD hS hA [48] rfl
  refine va_callv (va_runIN (As := []) (rest := [.ref q_44, .ref h0]) ⟨hx, hb, hml, hown, hts⟩ (q_X5 l D k H.size q_44) ⟨va_cnB 0 hts (gd_in hgd (gd_WS m462)) rfl rfl rfl hKX.2.2.2.2.2.1 (hg (Cond.initialized RX5) m126) (by decide +kernel) ⟨Nat.le_of_ble_eq_true rfl, Nat.le_of_ble_eq_true rfl⟩, rfl, (hg (Cond.instanceMethod yX5_init) m461)⟩ (cQ_S hPc hKX hDc) rfl rfl hl.1 rfl (lv_room (Nat.le_of_ble_eq_true rfl)) dX11_init_96 ⟨Nat.le_of_ble_eq_true rfl, Nat.le_of_ble_eq_true rfl⟩) hS (fun q _ h => hFc q h) hFc (fun u t H1 locs ht hvm hw hB hz1 hk1 hS => ?_)
  refine hB.elim (fun z_45 hB => hB.elim (fun z_46 hB => hB.elim (fun z_47 hB => hB.elim (fun z_48 hB => hB.elim (fun z_49 hB => hB.elim (fun z_50 hB => ?_))))))
  have hP1 := hB.1
  have hD1 := hB.2
  rw [ht] at hP1
  obtain ⟨hP, hD⟩ := va_join (wr := [(h0, .inr (11, [vrf_ q_1, vrf_ q_11, vrf_ q_21, vrf_ q_22, vrf_ q_28, vrf_ q_32, vrf_ q_34, vnl_, vnl_, vnl_, vnl_, vi0_, vi0_])), vaz_ z_2 k.2.1 3, vaz_ z_3 k.2.1 1200, vaz_ z_4 k.2.1 4, vaz_ z_5 k.2.1 4, vaz_ z_6 k.2.1 4, vaz_ z_7 k.2.1 4, vaz_ z_8 k.2.1 580, vaz_ z_9 k.2.1 7, (q_1, .inr (6, [vrf_ z_2, vrf_ z_3, vrf_ z_4, vrf_ z_5, vrf_ z_6, vrf_ z_7, vrf_ z_10, vrf_ z_8, vrf_ z_9, vi0_, vi0_, vi0_, vi0_, vi0_, .int 30, .int 10, vi0_])), (z_10, .inl (k.2.1, 3, .inl (upd (upd (upd (fun _ => 0) 0 0) 1 1) 2 0))), vaz_ z_12 k.2.1 3, vaz_ z_13 k.2.1 1200, vaz_ z_14 k.2.1 4, vaz_ z_15 k.2.1 4, vaz_ z_16 k.2.1 4, vaz_ z_17 k.2.1 4, vaz_ z_18 k.2.1 580, vaz_ z_19 k.2.1 7, (q_11, .inr (6, [vrf_ z_12, vrf_ z_13, vrf_ z_14, vrf_ z_15, vrf_ z_16, vrf_ z_17, vrf_ z_20, vrf_ z_18, vrf_ z_19, vi0_, vi0_, vi0_, vi0_, vi0_, .int 30, .int 10, vi0_])), (z_20, .inl (k.2.1, 3, .inl (upd (upd (upd (fun _ => 0) 0 0) 1 1) 2 0))), vaz_ q_21 k.1 1600, (q_22, .inr (7, [vrf_ z_23, vrf_ z_24, vrf_ z_25, vrf_ z_26, vrf_ z_27, vrf_ q_11, vi0_, vi0_, vi0_, vi0_])), vazl_ z_25 k.2.2.1 3, vazl_ z_26 k.2.2.1 4, vazl_ z_27 k.2.2.1 6, (z_23, .inr (9, [vrf_ q_21, vi0_, vi0_, vi0_, vi0_, vi0_, vl0_, vi0_, .int (-1)])), (z_24, .inr (2, [vrf_ z_23, vrf_ q_11, vi0_])), (q_28, .inr (3, [vrf_ z_29, vrf_ z_30, vrf_ z_31, vi0_, vrf_ q_1])), vaz_ z_29 k.2.1 1200, vaz_ z_30 k.2.1 3, vaz_ z_31 k.2.1 100, (q_32, .inr (0, [vrf_ z_33, vi0_, vi0_, vi0_, vi0_, vi0_, vi0_, vi0_])), vaz_ z_33 k.2.2.2.1 400, (q_34, .inr (10, [vrf_ z_35, vrf_ z_36, vrf_ z_37, vrf_ z_38, vrf_ z_39])), (z_35, .inl (k.2.2.2.2, 4, .inr (.inr (.inr (.inr (fun i => some (z_35 + 1 + i))))))), vaz_ (z_35 + 1) k.2.1 402, vaz_ (z_35 + 2) k.2.1 402, vaz_ (z_35 + 3) k.2.1 402, vaz_ (z_35 + 4) k.2.1 402, (z_36, .inr (4, [vrf_ z_40, vrf_ z_41, vi0_, vi0_])), vaz_ z_40 k.2.1 400, vaz_ z_41 k.2.1 400, (z_37, .inr (4, [vrf_ z_42, vrf_ z_43, vi0_, vi0_])), vaz_ z_42 k.2.1 400, vaz_ z_43 k.2.1 400, vaz_ z_38 k.2.1 64, vaz_ z_39 k.2.2.2.1 64]) (w1 := [(q_44, .inr (5, [vrf_ z_45, vrf_ z_46, vrf_ z_47, vrf_ z_48, vrf_ z_49, vrf_ z_50, vi0_])), vazl_ z_45 k.2.2.1 404, vazl_ z_46 k.2.2.1 404, vazl_ z_47 k.2.2.1 404, vazl_ z_48 k.2.2.1 404, vazl_ z_49 k.2.2.1 404, vazl_ z_50 k.2.2.1 404]) hP hD [48] [0, 1, 2, 3, 4, 5, 6, 7, 8, 9, 10, 11, 12, 13, 14, 15, 16, 17, 18, 19, 20, 21, 22, 23, 24, 25, 26, 27, 28, 29, 30, 31, 32, 33, 34, 35, 36, 37, 38, 39, 40, 41, 42, 43, 44, 45, 46, 47] rfl rfl (by decide +kernel) (by decide +kernel) hk1 hFc hP1 hD1
  generalize H1 = H at hP hS ⊢
  obtain ⟨ws_, hws_, hP, hD⟩ : ∃ w : va_W, w = [(h0, .inr (11, [vrf_ q_1, vrf_ q_11, vrf_ q_21, vrf_ q_22, vrf_ q_28, vrf_ q_32, vrf_ q_34, vnl_, vnl_, vnl_, vnl_, vi0_, vi0_])), vaz_ z_2 k.2.1 3, vaz_ z_3 k.2.1 1200, vaz_ z_4 k.2.1 4, vaz_ z_5 k.2.1 4, vaz_ z_6 k.2.1 4, vaz_ z_7 k.2.1 4, vaz_ z_8 k.2.1 580, vaz_ z_9 k.2.1 7, (q_1, .inr (6, [vrf_ z_2, vrf_ z_3, vrf_ z_4, vrf_ z_5, vrf_ z_6, vrf_ z_7, vrf_ z_10, vrf_ z_8, vrf_ z_9, vi0_, vi0_, vi0_, vi0_, vi0_, .int 30, .int 10, vi0_])), (z_10, .inl (k.2.1, 3, .inl (upd (upd (upd (fun _ => 0) 0 0) 1 1) 2 0))), vaz_ z_12 k.2.1 3, vaz_ z_13 k.2.1 1200, vaz_ z_14 k.2.1 4, vaz_ z_15 k.2.1 4, vaz_ z_16 k.2.1 4, vaz_ z_17 k.2.1 4, vaz_ z_18 k.2.1 580, vaz_ z_19 k.2.1 7, (q_11, .inr (6, [vrf_ z_12, vrf_ z_13, vrf_ z_14, vrf_ z_15, vrf_ z_16, vrf_ z_17, vrf_ z_20, vrf_ z_18, vrf_ z_19, vi0_, vi0_, vi0_, vi0_, vi0_, .int 30, .int 10, vi0_])), (z_20, .inl (k.2.1, 3, .inl (upd (upd (upd (fun _ => 0) 0 0) 1 1) 2 0))), vaz_ q_21 k.1 1600, (q_22, .inr (7, [vrf_ z_23, vrf_ z_24, vrf_ z_25, vrf_ z_26, vrf_ z_27, vrf_ q_11, vi0_, vi0_, vi0_, vi0_])), vazl_ z_25 k.2.2.1 3, vazl_ z_26 k.2.2.1 4, vazl_ z_27 k.2.2.1 6, (z_23, .inr (9, [vrf_ q_21, vi0_, vi0_, vi0_, vi0_, vi0_, vl0_, vi0_, .int (-1)])), (z_24, .inr (2, [vrf_ z_23, vrf_ q_11, vi0_])), (q_28, .inr (3, [vrf_ z_29, vrf_ z_30, vrf_ z_31, vi0_, vrf_ q_1])), vaz_ z_29 k.2.1 1200, vaz_ z_30 k.2.1 3, vaz_ z_31 k.2.1 100, (q_32, .inr (0, [vrf_ z_33, vi0_, vi0_, vi0_, vi0_, vi0_, vi0_, vi0_])), vaz_ z_33 k.2.2.2.1 400, (q_34, .inr (10, [vrf_ z_35, vrf_ z_36, vrf_ z_37, vrf_ z_38, vrf_ z_39])), (z_35, .inl (k.2.2.2.2, 4, .inr (.inr (.inr (.inr (fun i => some (z_35 + 1 + i))))))), vaz_ (z_35 + 1) k.2.1 402, vaz_ (z_35 + 2) k.2.1 402, vaz_ (z_35 + 3) k.2.1 402, vaz_ (z_35 + 4) k.2.1 402, (z_36, .inr (4, [vrf_ z_40, vrf_ z_41, vi0_, vi0_])), vaz_ z_40 k.2.1 400, vaz_ z_41 k.2.1 400, (z_37, .inr (4, [vrf_ z_42, vrf_ z_43, vi0_, vi0_])), vaz_ z_42 k.2.1 400, vaz_ z_43 k.2.1 400, vaz_ z_38 k.2.1 64, vaz_ z_39 k.2.2.2.1 64, (q_44, .inr (5, [vrf_ z_45, vrf_ z_46, vrf_ z_47, vrf_ z_48, vrf_ z_49, vrf_ z_50, vi0_])), vazl_ z_45 k.2.2.1 404, vazl_ z_46 k.2.2.1 404, vazl_ z_47 k.2.2.1 404, vazl_ z_48 k.2.2.1 404, vazl_ z_49 k.2.2.1 404, vazl_ z_50 k.2.2.1 404] ∧ va_P D classes w H ∧ va_D A w := ⟨_, rfl, hP, hD⟩
  subst hws_
  refine W.widen (k := 54) (n := 12787) (Nat.le_of_ble_eq_true rfl) (Nat.le_of_ble_eq_true rfl) ?_
  refine va_putF (D := D) (ci := 11) (v := .ref q_44) (ty := (.object "SlabWalk$Odds")) (C := RX11) (T := TX11) (N := 13) hx hb hg iX11 tyX11 tyX11_ok nmX11 hown hK hP hD hS 0 rfl rfl 7 (by decide) (hg (Cond.fieldLink RX11 58 "SlabWalk" "odds" "LSlabWalk$Odds;") m577) (fun _ h9 => h9) rfl hin rfl (by decide +kernel) rfl rfl (Nat.le_of_ble_eq_true rfl) dX11_init_99 (fun H locs hP hD hS => ?_)
  obtain ⟨ws_, hws_, hP, hD⟩ : ∃ w : va_W, w = [(h0, .inr (11, [vrf_ q_1, vrf_ q_11, vrf_ q_21, vrf_ q_22, vrf_ q_28, vrf_ q_32, vrf_ q_34, vrf_ q_44, vnl_, vnl_, vnl_, vi0_, vi0_])), vaz_ z_2 k.2.1 3, vaz_ z_3 k.2.1 1200, vaz_ z_4 k.2.1 4, vaz_ z_5 k.2.1 4, vaz_ z_6 k.2.1 4, vaz_ z_7 k.2.1 4, vaz_ z_8 k.2.1 580, vaz_ z_9 k.2.1 7, (q_1, .inr (6, [vrf_ z_2, vrf_ z_3, vrf_ z_4, vrf_ z_5, vrf_ z_6, vrf_ z_7, vrf_ z_10, vrf_ z_8, vrf_ z_9, vi0_, vi0_, vi0_, vi0_, vi0_, .int 30, .int 10, vi0_])), (z_10, .inl (k.2.1, 3, .inl (upd (upd (upd (fun _ => 0) 0 0) 1 1) 2 0))), vaz_ z_12 k.2.1 3, vaz_ z_13 k.2.1 1200, vaz_ z_14 k.2.1 4, vaz_ z_15 k.2.1 4, vaz_ z_16 k.2.1 4, vaz_ z_17 k.2.1 4, vaz_ z_18 k.2.1 580, vaz_ z_19 k.2.1 7, (q_11, .inr (6, [vrf_ z_12, vrf_ z_13, vrf_ z_14, vrf_ z_15, vrf_ z_16, vrf_ z_17, vrf_ z_20, vrf_ z_18, vrf_ z_19, vi0_, vi0_, vi0_, vi0_, vi0_, .int 30, .int 10, vi0_])), (z_20, .inl (k.2.1, 3, .inl (upd (upd (upd (fun _ => 0) 0 0) 1 1) 2 0))), vaz_ q_21 k.1 1600, (q_22, .inr (7, [vrf_ z_23, vrf_ z_24, vrf_ z_25, vrf_ z_26, vrf_ z_27, vrf_ q_11, vi0_, vi0_, vi0_, vi0_])), vazl_ z_25 k.2.2.1 3, vazl_ z_26 k.2.2.1 4, vazl_ z_27 k.2.2.1 6, (z_23, .inr (9, [vrf_ q_21, vi0_, vi0_, vi0_, vi0_, vi0_, vl0_, vi0_, .int (-1)])), (z_24, .inr (2, [vrf_ z_23, vrf_ q_11, vi0_])), (q_28, .inr (3, [vrf_ z_29, vrf_ z_30, vrf_ z_31, vi0_, vrf_ q_1])), vaz_ z_29 k.2.1 1200, vaz_ z_30 k.2.1 3, vaz_ z_31 k.2.1 100, (q_32, .inr (0, [vrf_ z_33, vi0_, vi0_, vi0_, vi0_, vi0_, vi0_, vi0_])), vaz_ z_33 k.2.2.2.1 400, (q_34, .inr (10, [vrf_ z_35, vrf_ z_36, vrf_ z_37, vrf_ z_38, vrf_ z_39])), (z_35, .inl (k.2.2.2.2, 4, .inr (.inr (.inr (.inr (fun i => some (z_35 + 1 + i))))))), vaz_ (z_35 + 1) k.2.1 402, vaz_ (z_35 + 2) k.2.1 402, vaz_ (z_35 + 3) k.2.1 402, vaz_ (z_35 + 4) k.2.1 402, (z_36, .inr (4, [vrf_ z_40, vrf_ z_41, vi0_, vi0_])), vaz_ z_40 k.2.1 400, vaz_ z_41 k.2.1 400, (z_37, .inr (4, [vrf_ z_42, vrf_ z_43, vi0_, vi0_])), vaz_ z_42 k.2.1 400, vaz_ z_43 k.2.1 400, vaz_ z_38 k.2.1 64, vaz_ z_39 k.2.2.2.1 64, (q_44, .inr (5, [vrf_ z_45, vrf_ z_46, vrf_ z_47, vrf_ z_48, vrf_ z_49, vrf_ z_50, vi0_])), vazl_ z_45 k.2.2.1 404, vazl_ z_46 k.2.2.1 404, vazl_ z_47 k.2.2.1 404, vazl_ z_48 k.2.2.1 404, vazl_ z_49 k.2.2.1 404, vazl_ z_50 k.2.2.1 404] ∧ va_P D classes w H ∧ va_D A w := ⟨_, rfl, hP, hD⟩
  subst hws_
  refine lv_aload_n hx hb dX11_init_102 rfl (lv_at hl 0 rfl) ?_
  refine va_new (ci := 1) (fs := [vnl_, vnl_, vnl_, vi0_, vi0_, vi0_]) (C := RX1) (T := TX1) (N := 6) hx hb hg iX1 tyX1 tyX1_ok hown (hg (Cond.classLink RX11 62 RX1) m486) (hg (Cond.instantiable RX1 6) m487) (hg (Cond.initialized RX1) m127) hK hP hD hS hA rfl (by decide) (Nat.le_of_ble_eq_true rfl) (Nat.le_of_ble_eq_true rfl) dX11_init_103 (fun q_51 H hP hD hS => ?_)
  obtain ⟨ws_, hws_, hP, hD⟩ : ∃ w : va_W, w = [(h0, .inr (11, [vrf_ q_1, vrf_ q_11, vrf_ q_21, vrf_ q_22, vrf_ q_28, vrf_ q_32, vrf_ q_34, vrf_ q_44, vnl_, vnl_, vnl_, vi0_, vi0_])), vaz_ z_2 k.2.1 3, vaz_ z_3 k.2.1 1200, vaz_ z_4 k.2.1 4, vaz_ z_5 k.2.1 4, vaz_ z_6 k.2.1 4, vaz_ z_7 k.2.1 4, vaz_ z_8 k.2.1 580, vaz_ z_9 k.2.1 7, (q_1, .inr (6, [vrf_ z_2, vrf_ z_3, vrf_ z_4, vrf_ z_5, vrf_ z_6, vrf_ z_7, vrf_ z_10, vrf_ z_8, vrf_ z_9, vi0_, vi0_, vi0_, vi0_, vi0_, .int 30, .int 10, vi0_])), (z_10, .inl (k.2.1, 3, .inl (upd (upd (upd (fun _ => 0) 0 0) 1 1) 2 0))), vaz_ z_12 k.2.1 3, vaz_ z_13 k.2.1 1200, vaz_ z_14 k.2.1 4, vaz_ z_15 k.2.1 4, vaz_ z_16 k.2.1 4, vaz_ z_17 k.2.1 4, vaz_ z_18 k.2.1 580, vaz_ z_19 k.2.1 7, (q_11, .inr (6, [vrf_ z_12, vrf_ z_13, vrf_ z_14, vrf_ z_15, vrf_ z_16, vrf_ z_17, vrf_ z_20, vrf_ z_18, vrf_ z_19, vi0_, vi0_, vi0_, vi0_, vi0_, .int 30, .int 10, vi0_])), (z_20, .inl (k.2.1, 3, .inl (upd (upd (upd (fun _ => 0) 0 0) 1 1) 2 0))), vaz_ q_21 k.1 1600, (q_22, .inr (7, [vrf_ z_23, vrf_ z_24, vrf_ z_25, vrf_ z_26, vrf_ z_27, vrf_ q_11, vi0_, vi0_, vi0_, vi0_])), vazl_ z_25 k.2.2.1 3, vazl_ z_26 k.2.2.1 4, vazl_ z_27 k.2.2.1 6, (z_23, .inr (9, [vrf_ q_21, vi0_, vi0_, vi0_, vi0_, vi0_, vl0_, vi0_, .int (-1)])), (z_24, .inr (2, [vrf_ z_23, vrf_ q_11, vi0_])), (q_28, .inr (3, [vrf_ z_29, vrf_ z_30, vrf_ z_31, vi0_, vrf_ q_1])), vaz_ z_29 k.2.1 1200, vaz_ z_30 k.2.1 3, vaz_ z_31 k.2.1 100, (q_32, .inr (0, [vrf_ z_33, vi0_, vi0_, vi0_, vi0_, vi0_, vi0_, vi0_])), vaz_ z_33 k.2.2.2.1 400, (q_34, .inr (10, [vrf_ z_35, vrf_ z_36, vrf_ z_37, vrf_ z_38, vrf_ z_39])), (z_35, .inl (k.2.2.2.2, 4, .inr (.inr (.inr (.inr (fun i => some (z_35 + 1 + i))))))), vaz_ (z_35 + 1) k.2.1 402, vaz_ (z_35 + 2) k.2.1 402, vaz_ (z_35 + 3) k.2.1 402, vaz_ (z_35 + 4) k.2.1 402, (z_36, .inr (4, [vrf_ z_40, vrf_ z_41, vi0_, vi0_])), vaz_ z_40 k.2.1 400, vaz_ z_41 k.2.1 400, (z_37, .inr (4, [vrf_ z_42, vrf_ z_43, vi0_, vi0_])), vaz_ z_42 k.2.1 400, vaz_ z_43 k.2.1 400, vaz_ z_38 k.2.1 64, vaz_ z_39 k.2.2.2.1 64, (q_44, .inr (5, [vrf_ z_45, vrf_ z_46, vrf_ z_47, vrf_ z_48, vrf_ z_49, vrf_ z_50, vi0_])), vazl_ z_45 k.2.2.1 404, vazl_ z_46 k.2.2.1 404, vazl_ z_47 k.2.2.1 404, vazl_ z_48 k.2.2.1 404, vazl_ z_49 k.2.2.1 404, vazl_ z_50 k.2.2.1 404, (q_51, .inr (1, [vnl_, vnl_, vnl_, vi0_, vi0_, vi0_]))] ∧ va_P D classes w H ∧ va_D A w := ⟨_, rfl, hP, hD⟩
  subst hws_
  refine W.widen (k := 55) (n := 12793) (Nat.le_of_ble_eq_true rfl) (Nat.le_of_ble_eq_true rfl) ?_
  refine lv_dup hx hb dX11_init_106 rfl ?_
  have hPc := hP.sub (ws' := [(q_51, .inr (1, [vnl_, vnl_, vnl_, vi0_, vi0_, vi0_]))]) [55] rfl
  have hDc := hD.sub (ws' := [(q_51, .inr (1, [vnl_, vnl_, vnl_, vi0_, vi0_, vi0_]))]) [55] (by decide +kernel) rfl
  have hFc := va_free (wc := [(q_51, .inr (1, [vnl_, vnl_, vnl_, vi0_, vi0_, vi0_]))]) hD hS hA [55] rfl
  refine va_callv (va_runIN (As := []) (rest := [.ref q_51, .ref h0]) ⟨hx, hb, hml, hown, hts⟩ (q_X1 l D k H.size q_51) ⟨va_cnB 0 hts (gd_in hgd (gd_WS m490)) rfl rfl rfl hKX.2.2.2.2.2.2.1 (hg (Cond.initialized RX1) m127) (by decide +kernel) ⟨Nat.le_of_ble_eq_true rfl, Nat.le_of_ble_eq_true rfl⟩, rfl, (hg (Cond.instanceMethod yX1_init) m489)⟩ (cQ_S hPc hKX hDc) rfl rfl hl.1 rfl (lv_room (Nat.le_of_ble_eq_true rfl)) dX11_init_107 ⟨Nat.le_of_ble_eq_true rfl, Nat.le_of_ble_eq_true rfl⟩) hS (fun q _ h => hFc q h) hFc (fun u t H1 locs ht hvm hw hB hz1 hk1 hS => ?_)
  obtain ⟨z_52, z_53, z_54, hP1, hD1⟩ := hB
  rw [ht] at hP1
  obtain ⟨hP, hD⟩ := va_join (wr := [(h0, .inr (11, [vrf_ q_1, vrf_ q_11, vrf_ q_21, vrf_ q_22, vrf_ q_28, vrf_ q_32, vrf_ q_34, vrf_ q_44, vnl_, vnl_, vnl_, vi0_, vi0_])), vaz_ z_2 k.2.1 3, vaz_ z_3 k.2.1 1200, vaz_ z_4 k.2.1 4, vaz_ z_5 k.2.1 4, vaz_ z_6 k.2.1 4, vaz_ z_7 k.2.1 4, vaz_ z_8 k.2.1 580, vaz_ z_9 k.2.1 7, (q_1, .inr (6, [vrf_ z_2, vrf_ z_3, vrf_ z_4, vrf_ z_5, vrf_ z_6, vrf_ z_7, vrf_ z_10, vrf_ z_8, vrf_ z_9, vi0_, vi0_, vi0_, vi0_, vi0_, .int 30, .int 10, vi0_])), (z_10, .inl (k.2.1, 3, .inl (upd (upd (upd (fun _ => 0) 0 0) 1 1) 2 0))), vaz_ z_12 k.2.1 3, vaz_ z_13 k.2.1 1200, vaz_ z_14 k.2.1 4, vaz_ z_15 k.2.1 4, vaz_ z_16 k.2.1 4, vaz_ z_17 k.2.1 4, vaz_ z_18 k.2.1 580, vaz_ z_19 k.2.1 7, (q_11, .inr (6, [vrf_ z_12, vrf_ z_13, vrf_ z_14, vrf_ z_15, vrf_ z_16, vrf_ z_17, vrf_ z_20, vrf_ z_18, vrf_ z_19, vi0_, vi0_, vi0_, vi0_, vi0_, .int 30, .int 10, vi0_])), (z_20, .inl (k.2.1, 3, .inl (upd (upd (upd (fun _ => 0) 0 0) 1 1) 2 0))), vaz_ q_21 k.1 1600, (q_22, .inr (7, [vrf_ z_23, vrf_ z_24, vrf_ z_25, vrf_ z_26, vrf_ z_27, vrf_ q_11, vi0_, vi0_, vi0_, vi0_])), vazl_ z_25 k.2.2.1 3, vazl_ z_26 k.2.2.1 4, vazl_ z_27 k.2.2.1 6, (z_23, .inr (9, [vrf_ q_21, vi0_, vi0_, vi0_, vi0_, vi0_, vl0_, vi0_, .int (-1)])), (z_24, .inr (2, [vrf_ z_23, vrf_ q_11, vi0_])), (q_28, .inr (3, [vrf_ z_29, vrf_ z_30, vrf_ z_31, vi0_, vrf_ q_1])), vaz_ z_29 k.2.1 1200, vaz_ z_30 k.2.1 3, vaz_ z_31 k.2.1 100, (q_32, .inr (0, [vrf_ z_33, vi0_, vi0_, vi0_, vi0_, vi0_, vi0_, vi0_])), vaz_ z_33 k.2.2.2.1 400, (q_34, .inr (10, [vrf_ z_35, vrf_ z_36, vrf_ z_37, vrf_ z_38, vrf_ z_39])), (z_35, .inl (k.2.2.2.2, 4, .inr (.inr (.inr (.inr (fun i => some (z_35 + 1 + i))))))), vaz_ (z_35 + 1) k.2.1 402, vaz_ (z_35 + 2) k.2.1 402, vaz_ (z_35 + 3) k.2.1 402, vaz_ (z_35 + 4) k.2.1 402, (z_36, .inr (4, [vrf_ z_40, vrf_ z_41, vi0_, vi0_])), vaz_ z_40 k.2.1 400, vaz_ z_41 k.2.1 400, (z_37, .inr (4, [vrf_ z_42, vrf_ z_43, vi0_, vi0_])), vaz_ z_42 k.2.1 400, vaz_ z_43 k.2.1 400, vaz_ z_38 k.2.1 64, vaz_ z_39 k.2.2.2.1 64, (q_44, .inr (5, [vrf_ z_45, vrf_ z_46, vrf_ z_47, vrf_ z_48, vrf_ z_49, vrf_ z_50, vi0_])), vazl_ z_45 k.2.2.1 404, vazl_ z_46 k.2.2.1 404, vazl_ z_47 k.2.2.1 404, vazl_ z_48 k.2.2.1 404, vazl_ z_49 k.2.2.1 404, vazl_ z_50 k.2.2.1 404]) (w1 := [(q_51, .inr (1, [vrf_ z_52, vrf_ z_53, vrf_ z_54, vi0_, vi0_, vi0_])), vaz_ z_52 k.2.1 10, vaz_ z_53 k.2.1 410, vaz_ z_54 k.2.1 30]) hP hD [55] [0, 1, 2, 3, 4, 5, 6, 7, 8, 9, 10, 11, 12, 13, 14, 15, 16, 17, 18, 19, 20, 21, 22, 23, 24, 25, 26, 27, 28, 29, 30, 31, 32, 33, 34, 35, 36, 37, 38, 39, 40, 41, 42, 43, 44, 45, 46, 47, 48, 49, 50, 51, 52, 53, 54] rfl rfl (by decide +kernel) (by decide +kernel) hk1 hFc hP1 hD1
  generalize H1 = H at hP hS ⊢
  obtain ⟨ws_, hws_, hP, hD⟩ : ∃ w : va_W, w = [(h0, .inr (11, [vrf_ q_1, vrf_ q_11, vrf_ q_21, vrf_ q_22, vrf_ q_28, vrf_ q_32, vrf_ q_34, vrf_ q_44, vnl_, vnl_, vnl_, vi0_, vi0_])), vaz_ z_2 k.2.1 3, vaz_ z_3 k.2.1 1200, vaz_ z_4 k.2.1 4, vaz_ z_5 k.2.1 4, vaz_ z_6 k.2.1 4, vaz_ z_7 k.2.1 4, vaz_ z_8 k.2.1 580, vaz_ z_9 k.2.1 7, (q_1, .inr (6, [vrf_ z_2, vrf_ z_3, vrf_ z_4, vrf_ z_5, vrf_ z_6, vrf_ z_7, vrf_ z_10, vrf_ z_8, vrf_ z_9, vi0_, vi0_, vi0_, vi0_, vi0_, .int 30, .int 10, vi0_])), (z_10, .inl (k.2.1, 3, .inl (upd (upd (upd (fun _ => 0) 0 0) 1 1) 2 0))), vaz_ z_12 k.2.1 3, vaz_ z_13 k.2.1 1200, vaz_ z_14 k.2.1 4, vaz_ z_15 k.2.1 4, vaz_ z_16 k.2.1 4, vaz_ z_17 k.2.1 4, vaz_ z_18 k.2.1 580, vaz_ z_19 k.2.1 7, (q_11, .inr (6, [vrf_ z_12, vrf_ z_13, vrf_ z_14, vrf_ z_15, vrf_ z_16, vrf_ z_17, vrf_ z_20, vrf_ z_18, vrf_ z_19, vi0_, vi0_, vi0_, vi0_, vi0_, .int 30, .int 10, vi0_])), (z_20, .inl (k.2.1, 3, .inl (upd (upd (upd (fun _ => 0) 0 0) 1 1) 2 0))), vaz_ q_21 k.1 1600, (q_22, .inr (7, [vrf_ z_23, vrf_ z_24, vrf_ z_25, vrf_ z_26, vrf_ z_27, vrf_ q_11, vi0_, vi0_, vi0_, vi0_])), vazl_ z_25 k.2.2.1 3, vazl_ z_26 k.2.2.1 4, vazl_ z_27 k.2.2.1 6, (z_23, .inr (9, [vrf_ q_21, vi0_, vi0_, vi0_, vi0_, vi0_, vl0_, vi0_, .int (-1)])), (z_24, .inr (2, [vrf_ z_23, vrf_ q_11, vi0_])), (q_28, .inr (3, [vrf_ z_29, vrf_ z_30, vrf_ z_31, vi0_, vrf_ q_1])), vaz_ z_29 k.2.1 1200, vaz_ z_30 k.2.1 3, vaz_ z_31 k.2.1 100, (q_32, .inr (0, [vrf_ z_33, vi0_, vi0_, vi0_, vi0_, vi0_, vi0_, vi0_])), vaz_ z_33 k.2.2.2.1 400, (q_34, .inr (10, [vrf_ z_35, vrf_ z_36, vrf_ z_37, vrf_ z_38, vrf_ z_39])), (z_35, .inl (k.2.2.2.2, 4, .inr (.inr (.inr (.inr (fun i => some (z_35 + 1 + i))))))), vaz_ (z_35 + 1) k.2.1 402, vaz_ (z_35 + 2) k.2.1 402, vaz_ (z_35 + 3) k.2.1 402, vaz_ (z_35 + 4) k.2.1 402, (z_36, .inr (4, [vrf_ z_40, vrf_ z_41, vi0_, vi0_])), vaz_ z_40 k.2.1 400, vaz_ z_41 k.2.1 400, (z_37, .inr (4, [vrf_ z_42, vrf_ z_43, vi0_, vi0_])), vaz_ z_42 k.2.1 400, vaz_ z_43 k.2.1 400, vaz_ z_38 k.2.1 64, vaz_ z_39 k.2.2.2.1 64, (q_44, .inr (5, [vrf_ z_45, vrf_ z_46, vrf_ z_47, vrf_ z_48, vrf_ z_49, vrf_ z_50, vi0_])), vazl_ z_45 k.2.2.1 404, vazl_ z_46 k.2.2.1 404, vazl_ z_47 k.2.2.1 404, vazl_ z_48 k.2.2.1 404, vazl_ z_49 k.2.2.1 404, vazl_ z_50 k.2.2.1 404, (q_51, .inr (1, [vrf_ z_52, vrf_ z_53, vrf_ z_54, vi0_, vi0_, vi0_])), vaz_ z_52 k.2.1 10, vaz_ z_53 k.2.1 410, vaz_ z_54 k.2.1 30] ∧ va_P D classes w H ∧ va_D A w := ⟨_, rfl, hP, hD⟩
  subst hws_
  refine W.widen (k := 58) (n := 13243) (Nat.le_of_ble_eq_true rfl) (Nat.le_of_ble_eq_true rfl) ?_
  refine va_putF (D := D) (ci := 11) (v := .ref q_51) (ty := (.object "SlabWalk$Earnest")) (C := RX11) (T := TX11) (N := 13) hx hb hg iX11 tyX11 tyX11_ok nmX11 hown hK hP hD hS 0 rfl rfl 8 (by decide) (hg (Cond.fieldLink RX11 65 "SlabWalk" "earnest" "LSlabWalk$Earnest;") m578) (fun _ h9 => h9) rfl hin rfl (by decide +kernel) rfl rfl (Nat.le_of_ble_eq_true rfl) dX11_init_110 (fun H locs hP hD hS => ?_)
  obtain ⟨ws_, hws_, hP, hD⟩ : ∃ w : va_W, w = [(h0, .inr (11, [vrf_ q_1, vrf_ q_11, vrf_ q_21, vrf_ q_22, vrf_ q_28, vrf_ q_32, vrf_ q_34, vrf_ q_44, vrf_ q_51, vnl_, vnl_, vi0_, vi0_])), vaz_ z_2 k.2.1 3, vaz_ z_3 k.2.1 1200, vaz_ z_4 k.2.1 4, vaz_ z_5 k.2.1 4, vaz_ z_6 k.2.1 4, vaz_ z_7 k.2.1 4, vaz_ z_8 k.2.1 580, vaz_ z_9 k.2.1 7, (q_1, .inr (6, [vrf_ z_2, vrf_ z_3, vrf_ z_4, vrf_ z_5, vrf_ z_6, vrf_ z_7, vrf_ z_10, vrf_ z_8, vrf_ z_9, vi0_, vi0_, vi0_, vi0_, vi0_, .int 30, .int 10, vi0_])), (z_10, .inl (k.2.1, 3, .inl (upd (upd (upd (fun _ => 0) 0 0) 1 1) 2 0))), vaz_ z_12 k.2.1 3, vaz_ z_13 k.2.1 1200, vaz_ z_14 k.2.1 4, vaz_ z_15 k.2.1 4, vaz_ z_16 k.2.1 4, vaz_ z_17 k.2.1 4, vaz_ z_18 k.2.1 580, vaz_ z_19 k.2.1 7, (q_11, .inr (6, [vrf_ z_12, vrf_ z_13, vrf_ z_14, vrf_ z_15, vrf_ z_16, vrf_ z_17, vrf_ z_20, vrf_ z_18, vrf_ z_19, vi0_, vi0_, vi0_, vi0_, vi0_, .int 30, .int 10, vi0_])), (z_20, .inl (k.2.1, 3, .inl (upd (upd (upd (fun _ => 0) 0 0) 1 1) 2 0))), vaz_ q_21 k.1 1600, (q_22, .inr (7, [vrf_ z_23, vrf_ z_24, vrf_ z_25, vrf_ z_26, vrf_ z_27, vrf_ q_11, vi0_, vi0_, vi0_, vi0_])), vazl_ z_25 k.2.2.1 3, vazl_ z_26 k.2.2.1 4, vazl_ z_27 k.2.2.1 6, (z_23, .inr (9, [vrf_ q_21, vi0_, vi0_, vi0_, vi0_, vi0_, vl0_, vi0_, .int (-1)])), (z_24, .inr (2, [vrf_ z_23, vrf_ q_11, vi0_])), (q_28, .inr (3, [vrf_ z_29, vrf_ z_30, vrf_ z_31, vi0_, vrf_ q_1])), vaz_ z_29 k.2.1 1200, vaz_ z_30 k.2.1 3, vaz_ z_31 k.2.1 100, (q_32, .inr (0, [vrf_ z_33, vi0_, vi0_, vi0_, vi0_, vi0_, vi0_, vi0_])), vaz_ z_33 k.2.2.2.1 400, (q_34, .inr (10, [vrf_ z_35, vrf_ z_36, vrf_ z_37, vrf_ z_38, vrf_ z_39])), (z_35, .inl (k.2.2.2.2, 4, .inr (.inr (.inr (.inr (fun i => some (z_35 + 1 + i))))))), vaz_ (z_35 + 1) k.2.1 402, vaz_ (z_35 + 2) k.2.1 402, vaz_ (z_35 + 3) k.2.1 402, vaz_ (z_35 + 4) k.2.1 402, (z_36, .inr (4, [vrf_ z_40, vrf_ z_41, vi0_, vi0_])), vaz_ z_40 k.2.1 400, vaz_ z_41 k.2.1 400, (z_37, .inr (4, [vrf_ z_42, vrf_ z_43, vi0_, vi0_])), vaz_ z_42 k.2.1 400, vaz_ z_43 k.2.1 400, vaz_ z_38 k.2.1 64, vaz_ z_39 k.2.2.2.1 64, (q_44, .inr (5, [vrf_ z_45, vrf_ z_46, vrf_ z_47, vrf_ z_48, vrf_ z_49, vrf_ z_50, vi0_])), vazl_ z_45 k.2.2.1 404, vazl_ z_46 k.2.2.1 404, vazl_ z_47 k.2.2.1 404, vazl_ z_48 k.2.2.1 404, vazl_ z_49 k.2.2.1 404, vazl_ z_50 k.2.2.1 404, (q_51, .inr (1, [vrf_ z_52, vrf_ z_53, vrf_ z_54, vi0_, vi0_, vi0_])), vaz_ z_52 k.2.1 10, vaz_ z_53 k.2.1 410, vaz_ z_54 k.2.1 30] ∧ va_P D classes w H ∧ va_D A w := ⟨_, rfl, hP, hD⟩
  subst hws_
  refine lv_aload_n hx hb dX11_init_113 rfl (lv_at hl 0 rfl) ?_
  refine va_new (ci := 8) (fs := [vnl_, vnl_, vnl_, vnl_, vnl_, vi0_, vi0_]) (C := RX8) (T := TX8) (N := 7) hx hb hg iX8 tyX8 tyX8_ok hown (hg (Cond.classLink RX11 69 RX8) m514) (hg (Cond.instantiable RX8 7) m515) (hg (Cond.initialized RX8) m128) hK hP hD hS hA rfl (by decide) (Nat.le_of_ble_eq_true rfl) (Nat.le_of_ble_eq_true rfl) dX11_init_114 (fun q_55 H hP hD hS => ?_)
  obtain ⟨ws_, hws_, hP, hD⟩ : ∃ w : va_W, w = [(h0, .inr (11, [vrf_ q_1, vrf_ q_11, vrf_ q_21, vrf_ q_22, vrf_ q_28, vrf_ q_32, vrf_ q_34, vrf_ q_44, vrf_ q_51, vnl_, vnl_, vi0_, vi0_])), vaz_ z_2 k.2.1 3, vaz_ z_3 k.2.1 1200, vaz_ z_4 k.2.1 4, vaz_ z_5 k.2.1 4, vaz_ z_6 k.2.1 4, vaz_ z_7 k.2.1 4, vaz_ z_8 k.2.1 580, vaz_ z_9 k.2.1 7, (q_1, .inr (6, [vrf_ z_2, vrf_ z_3, vrf_ z_4, vrf_ z_5, vrf_ z_6, vrf_ z_7, vrf_ z_10, vrf_ z_8, vrf_ z_9, vi0_, vi0_, vi0_, vi0_, vi0_, .int 30, .int 10, vi0_])), (z_10, .inl (k.2.1, 3, .inl (upd (upd (upd (fun _ => 0) 0 0) 1 1) 2 0))), vaz_ z_12 k.2.1 3, vaz_ z_13 k.2.1 1200, vaz_ z_14 k.2.1 4, vaz_ z_15 k.2.1 4, vaz_ z_16 k.2.1 4, vaz_ z_17 k.2.1 4, vaz_ z_18 k.2.1 580, vaz_ z_19 k.2.1 7, (q_11, .inr (6, [vrf_ z_12, vrf_ z_13, vrf_ z_14, vrf_ z_15, vrf_ z_16, vrf_ z_17, vrf_ z_20, vrf_ z_18, vrf_ z_19, vi0_, vi0_, vi0_, vi0_, vi0_, .int 30, .int 10, vi0_])), (z_20, .inl (k.2.1, 3, .inl (upd (upd (upd (fun _ => 0) 0 0) 1 1) 2 0))), vaz_ q_21 k.1 1600, (q_22, .inr (7, [vrf_ z_23, vrf_ z_24, vrf_ z_25, vrf_ z_26, vrf_ z_27, vrf_ q_11, vi0_, vi0_, vi0_, vi0_])), vazl_ z_25 k.2.2.1 3, vazl_ z_26 k.2.2.1 4, vazl_ z_27 k.2.2.1 6, (z_23, .inr (9, [vrf_ q_21, vi0_, vi0_, vi0_, vi0_, vi0_, vl0_, vi0_, .int (-1)])), (z_24, .inr (2, [vrf_ z_23, vrf_ q_11, vi0_])), (q_28, .inr (3, [vrf_ z_29, vrf_ z_30, vrf_ z_31, vi0_, vrf_ q_1])), vaz_ z_29 k.2.1 1200, vaz_ z_30 k.2.1 3, vaz_ z_31 k.2.1 100, (q_32, .inr (0, [vrf_ z_33, vi0_, vi0_, vi0_, vi0_, vi0_, vi0_, vi0_])), vaz_ z_33 k.2.2.2.1 400, (q_34, .inr (10, [vrf_ z_35, vrf_ z_36, vrf_ z_37, vrf_ z_38, vrf_ z_39])), (z_35, .inl (k.2.2.2.2, 4, .inr (.inr (.inr (.inr (fun i => some (z_35 + 1 + i))))))), vaz_ (z_35 + 1) k.2.1 402, vaz_ (z_35 + 2) k.2.1 402, vaz_ (z_35 + 3) k.2.1 402, vaz_ (z_35 + 4) k.2.1 402, (z_36, .inr (4, [vrf_ z_40, vrf_ z_41, vi0_, vi0_])), vaz_ z_40 k.2.1 400, vaz_ z_41 k.2.1 400, (z_37, .inr (4, [vrf_ z_42, vrf_ z_43, vi0_, vi0_])), vaz_ z_42 k.2.1 400, vaz_ z_43 k.2.1 400, vaz_ z_38 k.2.1 64, vaz_ z_39 k.2.2.2.1 64, (q_44, .inr (5, [vrf_ z_45, vrf_ z_46, vrf_ z_47, vrf_ z_48, vrf_ z_49, vrf_ z_50, vi0_])), vazl_ z_45 k.2.2.1 404, vazl_ z_46 k.2.2.1 404, vazl_ z_47 k.2.2.1 404, vazl_ z_48 k.2.2.1 404, vazl_ z_49 k.2.2.1 404, vazl_ z_50 k.2.2.1 404, (q_51, .inr (1, [vrf_ z_52, vrf_ z_53, vrf_ z_54, vi0_, vi0_, vi0_])), vaz_ z_52 k.2.1 10, vaz_ z_53 k.2.1 410, vaz_ z_54 k.2.1 30, (q_55, .inr (8, [vnl_, vnl_, vnl_, vnl_, vnl_, vi0_, vi0_]))] ∧ va_P D classes w H ∧ va_D A w := ⟨_, rfl, hP, hD⟩
  subst hws_
  refine W.widen (k := 59) (n := 13250) (Nat.le_of_ble_eq_true rfl) (Nat.le_of_ble_eq_true rfl) ?_
  refine lv_dup hx hb dX11_init_117 rfl ?_
  have hPc := hP.sub (ws' := [(q_55, .inr (8, [vnl_, vnl_, vnl_, vnl_, vnl_, vi0_, vi0_]))]) [59] rfl
  have hDc := hD.sub (ws' := [(q_55, .inr (8, [vnl_, vnl_, vnl_, vnl_, vnl_, vi0_, vi0_]))]) [59] (by decide +kernel) rfl
  have hFc := va_free (wc := [(q_55, .inr (8, [vnl_, vnl_, vnl_, vnl_, vnl_, vi0_, vi0_]))]) hD hS hA [59] rfl
  refine va_callv (va_runIN (As := []) (rest := [.ref q_55, .ref h0]) ⟨hx, hb, hml, hown, hts⟩ (q_X8 l D k H.size q_55) ⟨va_cnB 0 hts (gd_in hgd (gd_WS m518)) rfl rfl rfl hKX.2.2.2.2.2.2.2 (hg (Cond.initialized RX8) m128) (by decide +kernel) ⟨Nat.le_of_ble_eq_true rfl, Nat.le_of_ble_eq_true rfl⟩, rfl, (hg (Cond.instanceMethod yX8_init) m517)⟩ (cQ_S hPc hKX hDc) rfl rfl hl.1 rfl (lv_room (Nat.le_of_ble_eq_true rfl)) dX11_init_118 ⟨Nat.le_of_ble_eq_true rfl, Nat.le_of_ble_eq_true rfl⟩) hS (fun q _ h => hFc q h) hFc (fun u t H1 locs ht hvm hw hB hz1 hk1 hS => ?_)
  obtain ⟨z_56, z_57, z_58, z_59, z_60, hP1, hD1⟩ := hB
  rw [ht] at hP1
  obtain ⟨hP, hD⟩ := va_join (wr := [(h0, .inr (11, [vrf_ q_1, vrf_ q_11, vrf_ q_21, vrf_ q_22, vrf_ q_28, vrf_ q_32, vrf_ q_34, vrf_ q_44, vrf_ q_51, vnl_, vnl_, vi0_, vi0_])), vaz_ z_2 k.2.1 3, vaz_ z_3 k.2.1 1200, vaz_ z_4 k.2.1 4, vaz_ z_5 k.2.1 4, vaz_ z_6 k.2.1 4, vaz_ z_7 k.2.1 4, vaz_ z_8 k.2.1 580, vaz_ z_9 k.2.1 7, (q_1, .inr (6, [vrf_ z_2, vrf_ z_3, vrf_ z_4, vrf_ z_5, vrf_ z_6, vrf_ z_7, vrf_ z_10, vrf_ z_8, vrf_ z_9, vi0_, vi0_, vi0_, vi0_, vi0_, .int 30, .int 10, vi0_])), (z_10, .inl (k.2.1, 3, .inl (upd (upd (upd (fun _ => 0) 0 0) 1 1) 2 0))), vaz_ z_12 k.2.1 3, vaz_ z_13 k.2.1 1200, vaz_ z_14 k.2.1 4, vaz_ z_15 k.2.1 4, vaz_ z_16 k.2.1 4, vaz_ z_17 k.2.1 4, vaz_ z_18 k.2.1 580, vaz_ z_19 k.2.1 7, (q_11, .inr (6, [vrf_ z_12, vrf_ z_13, vrf_ z_14, vrf_ z_15, vrf_ z_16, vrf_ z_17, vrf_ z_20, vrf_ z_18, vrf_ z_19, vi0_, vi0_, vi0_, vi0_, vi0_, .int 30, .int 10, vi0_])), (z_20, .inl (k.2.1, 3, .inl (upd (upd (upd (fun _ => 0) 0 0) 1 1) 2 0))), vaz_ q_21 k.1 1600, (q_22, .inr (7, [vrf_ z_23, vrf_ z_24, vrf_ z_25, vrf_ z_26, vrf_ z_27, vrf_ q_11, vi0_, vi0_, vi0_, vi0_])), vazl_ z_25 k.2.2.1 3, vazl_ z_26 k.2.2.1 4, vazl_ z_27 k.2.2.1 6, (z_23, .inr (9, [vrf_ q_21, vi0_, vi0_, vi0_, vi0_, vi0_, vl0_, vi0_, .int (-1)])), (z_24, .inr (2, [vrf_ z_23, vrf_ q_11, vi0_])), (q_28, .inr (3, [vrf_ z_29, vrf_ z_30, vrf_ z_31, vi0_, vrf_ q_1])), vaz_ z_29 k.2.1 1200, vaz_ z_30 k.2.1 3, vaz_ z_31 k.2.1 100, (q_32, .inr (0, [vrf_ z_33, vi0_, vi0_, vi0_, vi0_, vi0_, vi0_, vi0_])), vaz_ z_33 k.2.2.2.1 400, (q_34, .inr (10, [vrf_ z_35, vrf_ z_36, vrf_ z_37, vrf_ z_38, vrf_ z_39])), (z_35, .inl (k.2.2.2.2, 4, .inr (.inr (.inr (.inr (fun i => some (z_35 + 1 + i))))))), vaz_ (z_35 + 1) k.2.1 402, vaz_ (z_35 + 2) k.2.1 402, vaz_ (z_35 + 3) k.2.1 402, vaz_ (z_35 + 4) k.2.1 402, (z_36, .inr (4, [vrf_ z_40, vrf_ z_41, vi0_, vi0_])), vaz_ z_40 k.2.1 400, vaz_ z_41 k.2.1 400, (z_37, .inr (4, [vrf_ z_42, vrf_ z_43, vi0_, vi0_])), vaz_ z_42 k.2.1 400, vaz_ z_43 k.2.1 400, vaz_ z_38 k.2.1 64, vaz_ z_39 k.2.2.2.1 64, (q_44, .inr (5, [vrf_ z_45, vrf_ z_46, vrf_ z_47, vrf_ z_48, vrf_ z_49, vrf_ z_50, vi0_])), vazl_ z_45 k.2.2.1 404, vazl_ z_46 k.2.2.1 404, vazl_ z_47 k.2.2.1 404, vazl_ z_48 k.2.2.1 404, vazl_ z_49 k.2.2.1 404, vazl_ z_50 k.2.2.1 404, (q_51, .inr (1, [vrf_ z_52, vrf_ z_53, vrf_ z_54, vi0_, vi0_, vi0_])), vaz_ z_52 k.2.1 10, vaz_ z_53 k.2.1 410, vaz_ z_54 k.2.1 30]) (w1 := [(q_55, .inr (8, [vrf_ z_56, vrf_ z_57, vrf_ z_58, vrf_ z_59, vrf_ z_60, vi0_, vi0_])), vaz_ z_56 k.2.1 20, vaz_ z_57 k.2.1 20, vaz_ z_58 k.2.1 20, vaz_ z_59 k.2.1 20, vaz_ z_60 k.2.1 20]) hP hD [59] [0, 1, 2, 3, 4, 5, 6, 7, 8, 9, 10, 11, 12, 13, 14, 15, 16, 17, 18, 19, 20, 21, 22, 23, 24, 25, 26, 27, 28, 29, 30, 31, 32, 33, 34, 35, 36, 37, 38, 39, 40, 41, 42, 43, 44, 45, 46, 47, 48, 49, 50, 51, 52, 53, 54, 55, 56, 57, 58] rfl rfl (by decide +kernel) (by decide +kernel) hk1 hFc hP1 hD1
  generalize H1 = H at hP hS ⊢
  obtain ⟨ws_, hws_, hP, hD⟩ : ∃ w : va_W, w = [(h0, .inr (11, [vrf_ q_1, vrf_ q_11, vrf_ q_21, vrf_ q_22, vrf_ q_28, vrf_ q_32, vrf_ q_34, vrf_ q_44, vrf_ q_51, vnl_, vnl_, vi0_, vi0_])), vaz_ z_2 k.2.1 3, vaz_ z_3 k.2.1 1200, vaz_ z_4 k.2.1 4, vaz_ z_5 k.2.1 4, vaz_ z_6 k.2.1 4, vaz_ z_7 k.2.1 4, vaz_ z_8 k.2.1 580, vaz_ z_9 k.2.1 7, (q_1, .inr (6, [vrf_ z_2, vrf_ z_3, vrf_ z_4, vrf_ z_5, vrf_ z_6, vrf_ z_7, vrf_ z_10, vrf_ z_8, vrf_ z_9, vi0_, vi0_, vi0_, vi0_, vi0_, .int 30, .int 10, vi0_])), (z_10, .inl (k.2.1, 3, .inl (upd (upd (upd (fun _ => 0) 0 0) 1 1) 2 0))), vaz_ z_12 k.2.1 3, vaz_ z_13 k.2.1 1200, vaz_ z_14 k.2.1 4, vaz_ z_15 k.2.1 4, vaz_ z_16 k.2.1 4, vaz_ z_17 k.2.1 4, vaz_ z_18 k.2.1 580, vaz_ z_19 k.2.1 7, (q_11, .inr (6, [vrf_ z_12, vrf_ z_13, vrf_ z_14, vrf_ z_15, vrf_ z_16, vrf_ z_17, vrf_ z_20, vrf_ z_18, vrf_ z_19, vi0_, vi0_, vi0_, vi0_, vi0_, .int 30, .int 10, vi0_])), (z_20, .inl (k.2.1, 3, .inl (upd (upd (upd (fun _ => 0) 0 0) 1 1) 2 0))), vaz_ q_21 k.1 1600, (q_22, .inr (7, [vrf_ z_23, vrf_ z_24, vrf_ z_25, vrf_ z_26, vrf_ z_27, vrf_ q_11, vi0_, vi0_, vi0_, vi0_])), vazl_ z_25 k.2.2.1 3, vazl_ z_26 k.2.2.1 4, vazl_ z_27 k.2.2.1 6, (z_23, .inr (9, [vrf_ q_21, vi0_, vi0_, vi0_, vi0_, vi0_, vl0_, vi0_, .int (-1)])), (z_24, .inr (2, [vrf_ z_23, vrf_ q_11, vi0_])), (q_28, .inr (3, [vrf_ z_29, vrf_ z_30, vrf_ z_31, vi0_, vrf_ q_1])), vaz_ z_29 k.2.1 1200, vaz_ z_30 k.2.1 3, vaz_ z_31 k.2.1 100, (q_32, .inr (0, [vrf_ z_33, vi0_, vi0_, vi0_, vi0_, vi0_, vi0_, vi0_])), vaz_ z_33 k.2.2.2.1 400, (q_34, .inr (10, [vrf_ z_35, vrf_ z_36, vrf_ z_37, vrf_ z_38, vrf_ z_39])), (z_35, .inl (k.2.2.2.2, 4, .inr (.inr (.inr (.inr (fun i => some (z_35 + 1 + i))))))), vaz_ (z_35 + 1) k.2.1 402, vaz_ (z_35 + 2) k.2.1 402, vaz_ (z_35 + 3) k.2.1 402, vaz_ (z_35 + 4) k.2.1 402, (z_36, .inr (4, [vrf_ z_40, vrf_ z_41, vi0_, vi0_])), vaz_ z_40 k.2.1 400, vaz_ z_41 k.2.1 400, (z_37, .inr (4, [vrf_ z_42, vrf_ z_43, vi0_, vi0_])), vaz_ z_42 k.2.1 400, vaz_ z_43 k.2.1 400, vaz_ z_38 k.2.1 64, vaz_ z_39 k.2.2.2.1 64, (q_44, .inr (5, [vrf_ z_45, vrf_ z_46, vrf_ z_47, vrf_ z_48, vrf_ z_49, vrf_ z_50, vi0_])), vazl_ z_45 k.2.2.1 404, vazl_ z_46 k.2.2.1 404, vazl_ z_47 k.2.2.1 404, vazl_ z_48 k.2.2.1 404, vazl_ z_49 k.2.2.1 404, vazl_ z_50 k.2.2.1 404, (q_51, .inr (1, [vrf_ z_52, vrf_ z_53, vrf_ z_54, vi0_, vi0_, vi0_])), vaz_ z_52 k.2.1 10, vaz_ z_53 k.2.1 410, vaz_ z_54 k.2.1 30, (q_55, .inr (8, [vrf_ z_56, vrf_ z_57, vrf_ z_58, vrf_ z_59, vrf_ z_60, vi0_, vi0_])), vaz_ z_56 k.2.1 20, vaz_ z_57 k.2.1 20, vaz_ z_58 k.2.1 20, vaz_ z_59 k.2.1 20, vaz_ z_60 k.2.1 20] ∧ va_P D classes w H ∧ va_D A w := ⟨_, rfl, hP, hD⟩
  subst hws_
  refine W.widen (k := 64) (n := 13350) (Nat.le_of_ble_eq_true rfl) (Nat.le_of_ble_eq_true rfl) ?_
  refine va_putF (D := D) (ci := 11) (v := .ref q_55) (ty := (.object "SlabWalk$Sights")) (C := RX11) (T := TX11) (N := 13) hx hb hg iX11 tyX11 tyX11_ok nmX11 hown hK hP hD hS 0 rfl rfl 9 (by decide) (hg (Cond.fieldLink RX11 72 "SlabWalk" "sights" "LSlabWalk$Sights;") m579) (fun _ h9 => h9) rfl hin rfl (by decide +kernel) rfl rfl (Nat.le_of_ble_eq_true rfl) dX11_init_121 (fun H locs hP hD hS => ?_)
  obtain ⟨ws_, hws_, hP, hD⟩ : ∃ w : va_W, w = [(h0, .inr (11, [vrf_ q_1, vrf_ q_11, vrf_ q_21, vrf_ q_22, vrf_ q_28, vrf_ q_32, vrf_ q_34, vrf_ q_44, vrf_ q_51, vrf_ q_55, vnl_, vi0_, vi0_])), vaz_ z_2 k.2.1 3, vaz_ z_3 k.2.1 1200, vaz_ z_4 k.2.1 4, vaz_ z_5 k.2.1 4, vaz_ z_6 k.2.1 4, vaz_ z_7 k.2.1 4, vaz_ z_8 k.2.1 580, vaz_ z_9 k.2.1 7, (q_1, .inr (6, [vrf_ z_2, vrf_ z_3, vrf_ z_4, vrf_ z_5, vrf_ z_6, vrf_ z_7, vrf_ z_10, vrf_ z_8, vrf_ z_9, vi0_, vi0_, vi0_, vi0_, vi0_, .int 30, .int 10, vi0_])), (z_10, .inl (k.2.1, 3, .inl (upd (upd (upd (fun _ => 0) 0 0) 1 1) 2 0))), vaz_ z_12 k.2.1 3, vaz_ z_13 k.2.1 1200, vaz_ z_14 k.2.1 4, vaz_ z_15 k.2.1 4, vaz_ z_16 k.2.1 4, vaz_ z_17 k.2.1 4, vaz_ z_18 k.2.1 580, vaz_ z_19 k.2.1 7, (q_11, .inr (6, [vrf_ z_12, vrf_ z_13, vrf_ z_14, vrf_ z_15, vrf_ z_16, vrf_ z_17, vrf_ z_20, vrf_ z_18, vrf_ z_19, vi0_, vi0_, vi0_, vi0_, vi0_, .int 30, .int 10, vi0_])), (z_20, .inl (k.2.1, 3, .inl (upd (upd (upd (fun _ => 0) 0 0) 1 1) 2 0))), vaz_ q_21 k.1 1600, (q_22, .inr (7, [vrf_ z_23, vrf_ z_24, vrf_ z_25, vrf_ z_26, vrf_ z_27, vrf_ q_11, vi0_, vi0_, vi0_, vi0_])), vazl_ z_25 k.2.2.1 3, vazl_ z_26 k.2.2.1 4, vazl_ z_27 k.2.2.1 6, (z_23, .inr (9, [vrf_ q_21, vi0_, vi0_, vi0_, vi0_, vi0_, vl0_, vi0_, .int (-1)])), (z_24, .inr (2, [vrf_ z_23, vrf_ q_11, vi0_])), (q_28, .inr (3, [vrf_ z_29, vrf_ z_30, vrf_ z_31, vi0_, vrf_ q_1])), vaz_ z_29 k.2.1 1200, vaz_ z_30 k.2.1 3, vaz_ z_31 k.2.1 100, (q_32, .inr (0, [vrf_ z_33, vi0_, vi0_, vi0_, vi0_, vi0_, vi0_, vi0_])), vaz_ z_33 k.2.2.2.1 400, (q_34, .inr (10, [vrf_ z_35, vrf_ z_36, vrf_ z_37, vrf_ z_38, vrf_ z_39])), (z_35, .inl (k.2.2.2.2, 4, .inr (.inr (.inr (.inr (fun i => some (z_35 + 1 + i))))))), vaz_ (z_35 + 1) k.2.1 402, vaz_ (z_35 + 2) k.2.1 402, vaz_ (z_35 + 3) k.2.1 402, vaz_ (z_35 + 4) k.2.1 402, (z_36, .inr (4, [vrf_ z_40, vrf_ z_41, vi0_, vi0_])), vaz_ z_40 k.2.1 400, vaz_ z_41 k.2.1 400, (z_37, .inr (4, [vrf_ z_42, vrf_ z_43, vi0_, vi0_])), vaz_ z_42 k.2.1 400, vaz_ z_43 k.2.1 400, vaz_ z_38 k.2.1 64, vaz_ z_39 k.2.2.2.1 64, (q_44, .inr (5, [vrf_ z_45, vrf_ z_46, vrf_ z_47, vrf_ z_48, vrf_ z_49, vrf_ z_50, vi0_])), vazl_ z_45 k.2.2.1 404, vazl_ z_46 k.2.2.1 404, vazl_ z_47 k.2.2.1 404, vazl_ z_48 k.2.2.1 404, vazl_ z_49 k.2.2.1 404, vazl_ z_50 k.2.2.1 404, (q_51, .inr (1, [vrf_ z_52, vrf_ z_53, vrf_ z_54, vi0_, vi0_, vi0_])), vaz_ z_52 k.2.1 10, vaz_ z_53 k.2.1 410, vaz_ z_54 k.2.1 30, (q_55, .inr (8, [vrf_ z_56, vrf_ z_57, vrf_ z_58, vrf_ z_59, vrf_ z_60, vi0_, vi0_])), vaz_ z_56 k.2.1 20, vaz_ z_57 k.2.1 20, vaz_ z_58 k.2.1 20, vaz_ z_59 k.2.1 20, vaz_ z_60 k.2.1 20] ∧ va_P D classes w H ∧ va_D A w := ⟨_, rfl, hP, hD⟩
  subst hws_
  refine lv_aload_n hx hb dX11_init_124 rfl (lv_at hl 0 rfl) ?_
  refine lv_sipush (v := 400) hx hb dX11_init_125 (by decide) ?_
  refine va_newaT (atype := .int) (ty := .int) (a0 := (400, .inl (fun _ => 0))) hx hb (hg (Cond.arrayClass .int) m245) rfl ra_int hK hP hD hS hA 1 rfl (fun _ => rfl) (by decide) (by decide) (Nat.le_of_ble_eq_true rfl) (Nat.le_of_ble_eq_true rfl) (Nat.le_of_ble_eq_true rfl) dX11_init_128 (fun q_61 H hP hD hS => ?_)
  refine W.widen (k := 65) (n := 13750) (Nat.le_of_ble_eq_true rfl) (Nat.le_of_ble_eq_true rfl) ?_
  refine va_putF (D := D) (ci := 11) (v := .ref q_61) (ty := (.array .int)) (C := RX11) (T := TX11) (N := 13) hx hb hg iX11 tyX11 tyX11_ok nmX11 hown hK hP hD hS 0 rfl rfl 10 (by decide) (hg (Cond.fieldLink RX11 76 "SlabWalk" "lying" "[I") m580) (fun _ h9 => h9) rfl hin rfl (by decide +kernel) rfl rfl (Nat.le_of_ble_eq_true rfl) dX11_init_130 (fun H locs hP hD hS => ?_)
  obtain ⟨ws_, hws_, hP, hD⟩ : ∃ w : va_W, w = [(h0, .inr (11, [vrf_ q_1, vrf_ q_11, vrf_ q_21, vrf_ q_22, vrf_ q_28, vrf_ q_32, vrf_ q_34, vrf_ q_44, vrf_ q_51, vrf_ q_55, vrf_ q_61, vi0_, vi0_])), vaz_ z_2 k.2.1 3, vaz_ z_3 k.2.1 1200, vaz_ z_4 k.2.1 4, vaz_ z_5 k.2.1 4, vaz_ z_6 k.2.1 4, vaz_ z_7 k.2.1 4, vaz_ z_8 k.2.1 580, vaz_ z_9 k.2.1 7, (q_1, .inr (6, [vrf_ z_2, vrf_ z_3, vrf_ z_4, vrf_ z_5, vrf_ z_6, vrf_ z_7, vrf_ z_10, vrf_ z_8, vrf_ z_9, vi0_, vi0_, vi0_, vi0_, vi0_, .int 30, .int 10, vi0_])), (z_10, .inl (k.2.1, 3, .inl (upd (upd (upd (fun _ => 0) 0 0) 1 1) 2 0))), vaz_ z_12 k.2.1 3, vaz_ z_13 k.2.1 1200, vaz_ z_14 k.2.1 4, vaz_ z_15 k.2.1 4, vaz_ z_16 k.2.1 4, vaz_ z_17 k.2.1 4, vaz_ z_18 k.2.1 580, vaz_ z_19 k.2.1 7, (q_11, .inr (6, [vrf_ z_12, vrf_ z_13, vrf_ z_14, vrf_ z_15, vrf_ z_16, vrf_ z_17, vrf_ z_20, vrf_ z_18, vrf_ z_19, vi0_, vi0_, vi0_, vi0_, vi0_, .int 30, .int 10, vi0_])), (z_20, .inl (k.2.1, 3, .inl (upd (upd (upd (fun _ => 0) 0 0) 1 1) 2 0))), vaz_ q_21 k.1 1600, (q_22, .inr (7, [vrf_ z_23, vrf_ z_24, vrf_ z_25, vrf_ z_26, vrf_ z_27, vrf_ q_11, vi0_, vi0_, vi0_, vi0_])), vazl_ z_25 k.2.2.1 3, vazl_ z_26 k.2.2.1 4, vazl_ z_27 k.2.2.1 6, (z_23, .inr (9, [vrf_ q_21, vi0_, vi0_, vi0_, vi0_, vi0_, vl0_, vi0_, .int (-1)])), (z_24, .inr (2, [vrf_ z_23, vrf_ q_11, vi0_])), (q_28, .inr (3, [vrf_ z_29, vrf_ z_30, vrf_ z_31, vi0_, vrf_ q_1])), vaz_ z_29 k.2.1 1200, vaz_ z_30 k.2.1 3, vaz_ z_31 k.2.1 100, (q_32, .inr (0, [vrf_ z_33, vi0_, vi0_, vi0_, vi0_, vi0_, vi0_, vi0_])), vaz_ z_33 k.2.2.2.1 400, (q_34, .inr (10, [vrf_ z_35, vrf_ z_36, vrf_ z_37, vrf_ z_38, vrf_ z_39])), (z_35, .inl (k.2.2.2.2, 4, .inr (.inr (.inr (.inr (fun i => some (z_35 + 1 + i))))))), vaz_ (z_35 + 1) k.2.1 402, vaz_ (z_35 + 2) k.2.1 402, vaz_ (z_35 + 3) k.2.1 402, vaz_ (z_35 + 4) k.2.1 402, (z_36, .inr (4, [vrf_ z_40, vrf_ z_41, vi0_, vi0_])), vaz_ z_40 k.2.1 400, vaz_ z_41 k.2.1 400, (z_37, .inr (4, [vrf_ z_42, vrf_ z_43, vi0_, vi0_])), vaz_ z_42 k.2.1 400, vaz_ z_43 k.2.1 400, vaz_ z_38 k.2.1 64, vaz_ z_39 k.2.2.2.1 64, (q_44, .inr (5, [vrf_ z_45, vrf_ z_46, vrf_ z_47, vrf_ z_48, vrf_ z_49, vrf_ z_50, vi0_])), vazl_ z_45 k.2.2.1 404, vazl_ z_46 k.2.2.1 404, vazl_ z_47 k.2.2.1 404, vazl_ z_48 k.2.2.1 404, vazl_ z_49 k.2.2.1 404, vazl_ z_50 k.2.2.1 404, (q_51, .inr (1, [vrf_ z_52, vrf_ z_53, vrf_ z_54, vi0_, vi0_, vi0_])), vaz_ z_52 k.2.1 10, vaz_ z_53 k.2.1 410, vaz_ z_54 k.2.1 30, (q_55, .inr (8, [vrf_ z_56, vrf_ z_57, vrf_ z_58, vrf_ z_59, vrf_ z_60, vi0_, vi0_])), vaz_ z_56 k.2.1 20, vaz_ z_57 k.2.1 20, vaz_ z_58 k.2.1 20, vaz_ z_59 k.2.1 20, vaz_ z_60 k.2.1 20, vaz_ q_61 k.2.1 400] ∧ va_P D classes w H ∧ va_D A w := ⟨_, rfl, hP, hD⟩
  subst hws_
  refine lv_aload_n hx hb dX11_init_133 rfl (lv_at hl 0 rfl) ?_
  have hPc := hP.sub (ws' := [(h0, .inr (11, [vrf_ q_1, vrf_ q_11, vrf_ q_21, vrf_ q_22, vrf_ q_28, vrf_ q_32, vrf_ q_34, vrf_ q_44, vrf_ q_51, vrf_ q_55, vrf_ q_61, vi0_, vi0_])), (q_1, .inr (6, [vrf_ z_2, vrf_ z_3, vrf_ z_4, vrf_ z_5, vrf_ z_6, vrf_ z_7, vrf_ z_10, vrf_ z_8, vrf_ z_9, vi0_, vi0_, vi0_, vi0_, vi0_, .int 30, .int 10, vi0_])), (q_28, .inr (3, [vrf_ z_29, vrf_ z_30, vrf_ z_31, vi0_, vrf_ q_1])), vaz_ z_30 k.2.1 3, (q_51, .inr (1, [vrf_ z_52, vrf_ z_53, vrf_ z_54, vi0_, vi0_, vi0_])), vaz_ z_52 k.2.1 10, vaz_ z_53 k.2.1 410, (q_55, .inr (8, [vrf_ z_56, vrf_ z_57, vrf_ z_58, vrf_ z_59, vrf_ z_60, vi0_, vi0_]))]) [0, 9, 28, 30, 55, 56, 57, 59] rfl
  have hDc := hD.sub (ws' := [(h0, .inr (11, [vrf_ q_1, vrf_ q_11, vrf_ q_21, vrf_ q_22, vrf_ q_28, vrf_ q_32, vrf_ q_34, vrf_ q_44, vrf_ q_51, vrf_ q_55, vrf_ q_61, vi0_, vi0_])), (q_1, .inr (6, [vrf_ z_2, vrf_ z_3, vrf_ z_4, vrf_ z_5, vrf_ z_6, vrf_ z_7, vrf_ z_10, vrf_ z_8, vrf_ z_9, vi0_, vi0_, vi0_, vi0_, vi0_, .int 30, .int 10, vi0_])), (q_28, .inr (3, [vrf_ z_29, vrf_ z_30, vrf_ z_31, vi0_, vrf_ q_1])), vaz_ z_30 k.2.1 3, (q_51, .inr (1, [vrf_ z_52, vrf_ z_53, vrf_ z_54, vi0_, vi0_, vi0_])), vaz_ z_52 k.2.1 10, vaz_ z_53 k.2.1 410, (q_55, .inr (8, [vrf_ z_56, vrf_ z_57, vrf_ z_58, vrf_ z_59, vrf_ z_60, vi0_, vi0_]))]) [0, 9, 28, 30, 55, 56, 57, 59] (by decide +kernel) rfl
  have hFc := va_free (wc := [(h0, .inr (11, [vrf_ q_1, vrf_ q_11, vrf_ q_21, vrf_ q_22, vrf_ q_28, vrf_ q_32, vrf_ q_34, vrf_ q_44, vrf_ q_51, vrf_ q_55, vrf_ q_61, vi0_, vi0_])), (q_1, .inr (6, [vrf_ z_2, vrf_ z_3, vrf_ z_4, vrf_ z_5, vrf_ z_6, vrf_ z_7, vrf_ z_10, vrf_ z_8, vrf_ z_9, vi0_, vi0_, vi0_, vi0_, vi0_, .int 30, .int 10, vi0_])), (q_28, .inr (3, [vrf_ z_29, vrf_ z_30, vrf_ z_31, vi0_, vrf_ q_1])), vaz_ z_30 k.2.1 3, (q_51, .inr (1, [vrf_ z_52, vrf_ z_53, vrf_ z_54, vi0_, vi0_, vi0_])), vaz_ z_52 k.2.1 10, vaz_ z_53 k.2.1 410, (q_55, .inr (8, [vrf_ z_56, vrf_ z_57, vrf_ z_58, vrf_ z_59, vrf_ z_60, vi0_, vi0_]))]) hD hS hA [0, 9, 28, 30, 55, 56, 57, 59] rfl
  refine va_callv (va_runV (As := []) (rest := []) ⟨hx, hb, hml, hown, hts⟩ (q_anew l D k H.size h0 q_1 q_11 q_21 q_22 q_28 q_32 q_34 q_44 q_51 q_55 q_61 z_2 z_3 z_4 z_5 z_6 z_7 z_10 z_8 z_9 z_29 z_30 z_31 q_1 z_52 z_53 z_54 z_56 z_57 z_58 z_59 z_60 0 0 0 0 0 0 0 30 10 0 0 0 0 0 0 0 (fun _ => 0) (fun _ => 0) (fun _ => 0)) (cwV 0 hts (gd_V hgd m547 m549 m0 m117 m550) rfl rfl rfl hd_X11_startAnew ⟨Nat.le_of_ble_eq_true rfl, Nat.le_of_ble_eq_true rfl⟩) (cQ_V hPc hKX hDc (ci := 11) (q0 := 0) rfl rfl) rfl rfl hl.1 rfl (lv_room (Nat.le_of_ble_eq_true rfl)) dX11_init_134 ⟨Nat.le_of_ble_eq_true rfl, Nat.le_of_ble_eq_true rfl⟩) hS (fun q _ h => hFc q h) hFc (fun u t H1 locs ht hvm hw hB hz1 hk1 hS => ?_)
  obtain ⟨hP1, hD1⟩ := hB
  rw [ht] at hP1
  obtain ⟨hP, hD⟩ := va_join (wr := [vaz_ z_2 k.2.1 3, vaz_ z_3 k.2.1 1200, vaz_ z_4 k.2.1 4, vaz_ z_5 k.2.1 4, vaz_ z_6 k.2.1 4, vaz_ z_7 k.2.1 4, vaz_ z_8 k.2.1 580, vaz_ z_9 k.2.1 7, (z_10, .inl (k.2.1, 3, .inl (upd (upd (upd (fun _ => 0) 0 0) 1 1) 2 0))), vaz_ z_12 k.2.1 3, vaz_ z_13 k.2.1 1200, vaz_ z_14 k.2.1 4, vaz_ z_15 k.2.1 4, vaz_ z_16 k.2.1 4, vaz_ z_17 k.2.1 4, vaz_ z_18 k.2.1 580, vaz_ z_19 k.2.1 7, (q_11, .inr (6, [vrf_ z_12, vrf_ z_13, vrf_ z_14, vrf_ z_15, vrf_ z_16, vrf_ z_17, vrf_ z_20, vrf_ z_18, vrf_ z_19, vi0_, vi0_, vi0_, vi0_, vi0_, .int 30, .int 10, vi0_])), (z_20, .inl (k.2.1, 3, .inl (upd (upd (upd (fun _ => 0) 0 0) 1 1) 2 0))), vaz_ q_21 k.1 1600, (q_22, .inr (7, [vrf_ z_23, vrf_ z_24, vrf_ z_25, vrf_ z_26, vrf_ z_27, vrf_ q_11, vi0_, vi0_, vi0_, vi0_])), vazl_ z_25 k.2.2.1 3, vazl_ z_26 k.2.2.1 4, vazl_ z_27 k.2.2.1 6, (z_23, .inr (9, [vrf_ q_21, vi0_, vi0_, vi0_, vi0_, vi0_, vl0_, vi0_, .int (-1)])), (z_24, .inr (2, [vrf_ z_23, vrf_ q_11, vi0_])), vaz_ z_29 k.2.1 1200, vaz_ z_31 k.2.1 100, (q_32, .inr (0, [vrf_ z_33, vi0_, vi0_, vi0_, vi0_, vi0_, vi0_, vi0_])), vaz_ z_33 k.2.2.2.1 400, (q_34, .inr (10, [vrf_ z_35, vrf_ z_36, vrf_ z_37, vrf_ z_38, vrf_ z_39])), (z_35, .inl (k.2.2.2.2, 4, .inr (.inr (.inr (.inr (fun i => some (z_35 + 1 + i))))))), vaz_ (z_35 + 1) k.2.1 402, vaz_ (z_35 + 2) k.2.1 402, vaz_ (z_35 + 3) k.2.1 402, vaz_ (z_35 + 4) k.2.1 402, (z_36, .inr (4, [vrf_ z_40, vrf_ z_41, vi0_, vi0_])), vaz_ z_40 k.2.1 400, vaz_ z_41 k.2.1 400, (z_37, .inr (4, [vrf_ z_42, vrf_ z_43, vi0_, vi0_])), vaz_ z_42 k.2.1 400, vaz_ z_43 k.2.1 400, vaz_ z_38 k.2.1 64, vaz_ z_39 k.2.2.2.1 64, (q_44, .inr (5, [vrf_ z_45, vrf_ z_46, vrf_ z_47, vrf_ z_48, vrf_ z_49, vrf_ z_50, vi0_])), vazl_ z_45 k.2.2.1 404, vazl_ z_46 k.2.2.1 404, vazl_ z_47 k.2.2.1 404, vazl_ z_48 k.2.2.1 404, vazl_ z_49 k.2.2.1 404, vazl_ z_50 k.2.2.1 404, vaz_ z_54 k.2.1 30, vaz_ z_56 k.2.1 20, vaz_ z_57 k.2.1 20, vaz_ z_58 k.2.1 20, vaz_ z_59 k.2.1 20, vaz_ z_60 k.2.1 20, vaz_ q_61 k.2.1 400]) (w1 := [(h0, .inr (11, [vrf_ q_1, vrf_ q_11, vrf_ q_21, vrf_ q_22, vrf_ q_28, vrf_ q_32, vrf_ q_34, vrf_ q_44, vrf_ q_51, vrf_ q_55, vrf_ q_61, vi0_, vi0_])), (q_1, .inr (6, [vrf_ z_2, vrf_ z_3, vrf_ z_4, vrf_ z_5, vrf_ z_6, vrf_ z_7, vrf_ z_10, vrf_ z_8, vrf_ z_9, vi0_, vi0_, vi0_, vi0_, vi0_, .int 30, .int 10, vi0_])), (q_55, .inr (8, [vrf_ z_56, vrf_ z_57, vrf_ z_58, vrf_ z_59, vrf_ z_60, vi0_, vi0_])), (q_28, .inr (3, [vrf_ z_29, vrf_ z_30, vrf_ z_31, vi0_, vrf_ q_1])), (z_30, .inl (k.2.1, 3, .inl (upd (upd (upd (fun _ => 0) 0 (-1)) 1 (-1)) 2 (-1)))), (q_51, .inr (1, [vrf_ z_52, vrf_ z_53, vrf_ z_54, vi0_, vi0_, vi0_])), (z_52, .inl (k.2.1, 10, .inl (upd (upd (upd (upd (upd (upd (upd (upd (upd (upd (upd (upd (fun _ => 0) 0 0) 1 0) 2 0) 3 0) 4 0) 5 0) 6 0) 7 0) 8 0) 9 0) 0 (-1)) 7 0))), (z_53, .inl (k.2.1, 410, .inl (va_cpy (upd (upd (upd (upd (upd (upd (upd (upd (upd (upd (upd (upd (fun _ => 0) 0 0) 1 0) 2 0) 3 0) 4 0) 5 0) 6 0) 7 0) 8 0) 9 0) 0 (-1)) 7 0) (fun _ => 0) (0 : Int32).toNatClampNeg (0 : Int32).toNatClampNeg (10 : Int32).toNatClampNeg)))]) hP hD [0, 9, 28, 30, 55, 56, 57, 59] [1, 2, 3, 4, 5, 6, 7, 8, 10, 11, 12, 13, 14, 15, 16, 17, 18, 19, 20, 21, 22, 23, 24, 25, 26, 27, 29, 31, 32, 33, 34, 35, 36, 37, 38, 39, 40, 41, 42, 43, 44, 45, 46, 47, 48, 49, 50, 51, 52, 53, 54, 58, 60, 61, 62, 63, 64, 65] rfl rfl (by decide +kernel) (by decide +kernel) hk1 hFc hP1 hD1
  generalize H1 = H at hP hS ⊢
  obtain ⟨ws_, hws_, hP, hD⟩ : ∃ w : va_W, w = [vaz_ z_2 k.2.1 3, vaz_ z_3 k.2.1 1200, vaz_ z_4 k.2.1 4, vaz_ z_5 k.2.1 4, vaz_ z_6 k.2.1 4, vaz_ z_7 k.2.1 4, vaz_ z_8 k.2.1 580, vaz_ z_9 k.2.1 7, (z_10, .inl (k.2.1, 3, .inl (upd (upd (upd (fun _ => 0) 0 0) 1 1) 2 0))), vaz_ z_12 k.2.1 3, vaz_ z_13 k.2.1 1200, vaz_ z_14 k.2.1 4, vaz_ z_15 k.2.1 4, vaz_ z_16 k.2.1 4, vaz_ z_17 k.2.1 4, vaz_ z_18 k.2.1 580, vaz_ z_19 k.2.1 7, (q_11, .inr (6, [vrf_ z_12, vrf_ z_13, vrf_ z_14, vrf_ z_15, vrf_ z_16, vrf_ z_17, vrf_ z_20, vrf_ z_18, vrf_ z_19, vi0_, vi0_, vi0_, vi0_, vi0_, .int 30, .int 10, vi0_])), (z_20, .inl (k.2.1, 3, .inl (upd (upd (upd (fun _ => 0) 0 0) 1 1) 2 0))), vaz_ q_21 k.1 1600, (q_22, .inr (7, [vrf_ z_23, vrf_ z_24, vrf_ z_25, vrf_ z_26, vrf_ z_27, vrf_ q_11, vi0_, vi0_, vi0_, vi0_])), vazl_ z_25 k.2.2.1 3, vazl_ z_26 k.2.2.1 4, vazl_ z_27 k.2.2.1 6, (z_23, .inr (9, [vrf_ q_21, vi0_, vi0_, vi0_, vi0_, vi0_, vl0_, vi0_, .int (-1)])), (z_24, .inr (2, [vrf_ z_23, vrf_ q_11, vi0_])), vaz_ z_29 k.2.1 1200, vaz_ z_31 k.2.1 100, (q_32, .inr (0, [vrf_ z_33, vi0_, vi0_, vi0_, vi0_, vi0_, vi0_, vi0_])), vaz_ z_33 k.2.2.2.1 400, (q_34, .inr (10, [vrf_ z_35, vrf_ z_36, vrf_ z_37, vrf_ z_38, vrf_ z_39])), (z_35, .inl (k.2.2.2.2, 4, .inr (.inr (.inr (.inr (fun i => some (z_35 + 1 + i))))))), vaz_ (z_35 + 1) k.2.1 402, vaz_ (z_35 + 2) k.2.1 402, vaz_ (z_35 + 3) k.2.1 402, vaz_ (z_35 + 4) k.2.1 402, (z_36, .inr (4, [vrf_ z_40, vrf_ z_41, vi0_, vi0_])), vaz_ z_40 k.2.1 400, vaz_ z_41 k.2.1 400, (z_37, .inr (4, [vrf_ z_42, vrf_ z_43, vi0_, vi0_])), vaz_ z_42 k.2.1 400, vaz_ z_43 k.2.1 400, vaz_ z_38 k.2.1 64, vaz_ z_39 k.2.2.2.1 64, (q_44, .inr (5, [vrf_ z_45, vrf_ z_46, vrf_ z_47, vrf_ z_48, vrf_ z_49, vrf_ z_50, vi0_])), vazl_ z_45 k.2.2.1 404, vazl_ z_46 k.2.2.1 404, vazl_ z_47 k.2.2.1 404, vazl_ z_48 k.2.2.1 404, vazl_ z_49 k.2.2.1 404, vazl_ z_50 k.2.2.1 404, vaz_ z_54 k.2.1 30, vaz_ z_56 k.2.1 20, vaz_ z_57 k.2.1 20, vaz_ z_58 k.2.1 20, vaz_ z_59 k.2.1 20, vaz_ z_60 k.2.1 20, vaz_ q_61 k.2.1 400, (h0, .inr (11, [vrf_ q_1, vrf_ q_11, vrf_ q_21, vrf_ q_22, vrf_ q_28, vrf_ q_32, vrf_ q_34, vrf_ q_44, vrf_ q_51, vrf_ q_55, vrf_ q_61, vi0_, vi0_])), (q_1, .inr (6, [vrf_ z_2, vrf_ z_3, vrf_ z_4, vrf_ z_5, vrf_ z_6, vrf_ z_7, vrf_ z_10, vrf_ z_8, vrf_ z_9, vi0_, vi0_, vi0_, vi0_, vi0_, .int 30, .int 10, vi0_])), (q_55, .inr (8, [vrf_ z_56, vrf_ z_57, vrf_ z_58, vrf_ z_59, vrf_ z_60, vi0_, vi0_])), (q_28, .inr (3, [vrf_ z_29, vrf_ z_30, vrf_ z_31, vi0_, vrf_ q_1])), (z_30, .inl (k.2.1, 3, .inl (upd (upd (upd (fun _ => 0) 0 (-1)) 1 (-1)) 2 (-1)))), (q_51, .inr (1, [vrf_ z_52, vrf_ z_53, vrf_ z_54, vi0_, vi0_, vi0_])), (z_52, .inl (k.2.1, 10, .inl (upd (upd (upd (upd (upd (upd (upd (upd (upd (upd (upd (upd (fun _ => 0) 0 0) 1 0) 2 0) 3 0) 4 0) 5 0) 6 0) 7 0) 8 0) 9 0) 0 (-1)) 7 0))), (z_53, .inl (k.2.1, 410, .inl (va_cpy (upd (upd (upd (upd (upd (upd (upd (upd (upd (upd (upd (upd (fun _ => 0) 0 0) 1 0) 2 0) 3 0) 4 0) 5 0) 6 0) 7 0) 8 0) 9 0) 0 (-1)) 7 0) (fun _ => 0) (0 : Int32).toNatClampNeg (0 : Int32).toNatClampNeg (10 : Int32).toNatClampNeg)))] ∧ va_P D classes w H ∧ va_D A w := ⟨_, rfl, hP, hD⟩
  subst hws_
  refine W.widen (k := 65) (n := 13750) (Nat.le_of_ble_eq_true rfl) (Nat.le_of_ble_eq_true rfl) ?_
  exact W.vret hx hb hr (fun t ht hW => ⟨⟨(), rfl, trivial, ⟨z_2, z_3, z_4, z_5, z_6, z_7, z_8, z_9, z_10, z_12, z_13, z_14, z_15, z_16, z_17, z_18, z_19, q_11, z_20, q_21, q_22, z_23, z_24, z_25, z_26, z_27, z_29, z_31, q_32, z_33, q_34, z_35, z_36, z_37, z_38, z_39, z_40, z_41, z_42, z_43, q_44, z_45, z_46, z_47, z_48, z_49, z_50, z_54, z_56, z_57, z_58, z_59, z_60, q_61, q_1, q_28, q_51, q_55, z_30, z_52, z_53, cB_of ht hP hD⟩⟩, hS.F ht⟩) hS.2.2 dX11_init_137
