

set_option maxHeartbeats 4000000 in
set_option maxRecDepth 100000 in
theorem q_X1 (l : Launch) (D : va_G) (k : KT) (sz : Nat) (h0 : Nat)  : Met l yX1_init (WS yX1_init cX1_init 1 none) ({ frames := 1, cells := 3, slots := 450, locals := 12 }) (va_Pc [.ref h0] (cQ D k [(h0, .inr (1, [vnl_, vnl_, vnl_, vi0_, vi0_, vi0_]))] sz)) (va_Qv (fun _ : Unit => True) (fun (_ : Unit) t => ∃ (q_1 : Nat), ∃ (q_2 : Nat), ∃ (q_3 : Nat), cB D (va_A [(h0, .inr (1, [vnl_, vnl_, vnl_, vi0_, vi0_, vi0_]))] sz) [(h0, .inr (1, [vrf_ q_1, vrf_ q_2, vrf_ q_3, vi0_, vi0_, vi0_])), vaz_ q_1 k.2.1 10, vaz_ q_2 k.2.1 410, vaz_ q_3 k.2.1 30] t) (va_A [(h0, .inr (1, [vnl_, vnl_, vnl_, vi0_, vi0_, vi0_]))] sz)) 3 450 (va_A [(h0, .inr (1, [vnl_, vnl_, vnl_, vi0_, vi0_, vi0_]))] sz) := by
  refine Met.ofW (cc := cX1_init) (maxL := 1) (ret := none) (by decide) rfl ?_
  intro p e s m args below meth c s₁ B hml hv
  obtain ⟨rfl, hsz, hP, hKX, hD0⟩ := hv
  have hK := hKX.1
  have hx := B.exec
  have hb := B.bytes
  have hr := B.returns
  have hts := atoms_spec (ws := WS yX1_init cX1_init 1 none) B.pre
  have hgd : ∀ w ∈ gd, w ∈ WS yX1_init cX1_init 1 none := fun w h => List.mem_cons_of_mem _ h
  have hg : ∀ w ∈ gd, w.before _ s = true := fun w h => hts w (hgd w h)
  have hown : s.vm.findClass RX1 = some m.cls := findClass_of_methodNamed B.named
  have hlocks := B.notSynchronized
  have hin : meth.name = "<init>" := (name_of_methodNamed B.named B.method).1
  subst hsz
  have hD := hD0.self (sz := s.heap.size)
  generalize hAe : va_A [(h0, .inr (1, [vnl_, vnl_, vnl_, vi0_, vi0_, vi0_]))] s.heap.size = A at hD ⊢
  have hA : ∀ q : Nat, s.heap.size ≤ q → A q := fun q h => by rw [← hAe]; exact Or.inr h
  have hS : va_S A s.heap s.heap [] := va_S.rf
  have hP : va_P D classes [(h0, .inr (1, [vnl_, vnl_, vnl_, vi0_, vi0_, vi0_]))] s.heap := hP
  have hl := lv_entry ([.ref h0]) (n := 1) (Nat.le_of_ble_eq_true rfl)
  rw [lg_entry_eq]
  generalize (lg_sl ([.ref h0]) ++ List.replicate (1 - (lg_sl ([.ref h0])).length) Slot.unset).toArray = ls at hl ⊢
  have hl : lv_has ls 1 [(0, .ref h0)] := hl
  refine lv_aload_n hx hb dX1_init_0 rfl (lv_at hl 0 rfl) ?_
  refine W.objInit hx hb hown (hg (Cond.methodLink RX1 3 objectInit) m491) (hg (Cond.instanceMethod objectInit) m144) (hg (Cond.code objectInit ⟨#[0xb1]⟩ 1 none) m145) rfl (by rw [hml]; exact hl.1) rfl dX1_init_1 (Nat.le_of_ble_eq_true rfl) (Nat.le_of_ble_eq_true rfl) ?_
  refine W.eq (g2 := F0 m 4 ls []) rfl ?_
  refine lv_aload_n hx hb dX1_init_4 rfl (lv_at hl 0 rfl) ?_
  refine lv_bipush (v := 10) hx hb dX1_init_5 (by decide) ?_
  refine va_newaT (atype := .int) (ty := .int) (a0 := (10, .inl (fun _ => 0))) hx hb (hg (Cond.arrayClass .int) m245) rfl ra_int hK hP hD hS hA 1 rfl (fun _ => rfl) (by decide) (by decide) (Nat.le_of_ble_eq_true rfl) (Nat.le_of_ble_eq_true rfl) (Nat.le_of_ble_eq_true rfl) dX1_init_7 (fun q_1 H hP hD hS => ?_)
  refine W.widen (k := 1) (n := 10) (Nat.le_of_ble_eq_true rfl) (Nat.le_of_ble_eq_true rfl) ?_
  refine va_putF (D := D) (ci := 1) (v := .ref q_1) (ty := (.array .int)) (C := RX1) (T := TX1) (N := 6) hx hb hg iX1 tyX1 tyX1_ok nmX1 hown hK hP hD hS 0 rfl rfl 0 (by decide) (hg (Cond.fieldLink RX1 11 "SlabWalk$Earnest" "now" "[I") m492) (fun _ h9 => h9) rfl hin rfl (by decide +kernel) rfl rfl (Nat.le_of_ble_eq_true rfl) dX1_init_9 (fun H locs hP hD hS => ?_)
  obtain ⟨ws_, hws_, hP, hD⟩ : ∃ w : va_W, w = [(h0, .inr (1, [vrf_ q_1, vnl_, vnl_, vi0_, vi0_, vi0_])), vaz_ q_1 k.2.1 10] ∧ va_P D classes w H ∧ va_D A w := ⟨_, rfl, hP, hD⟩
  subst hws_
  refine lv_aload_n hx hb dX1_init_12 rfl (lv_at hl 0 rfl) ?_
  refine lv_sipush (v := 410) hx hb dX1_init_13 (by decide) ?_
  refine va_newaT (atype := .int) (ty := .int) (a0 := (410, .inl (fun _ => 0))) hx hb (hg (Cond.arrayClass .int) m245) rfl ra_int hK hP hD hS hA 1 rfl (fun _ => rfl) (by decide) (by decide) (Nat.le_of_ble_eq_true rfl) (Nat.le_of_ble_eq_true rfl) (Nat.le_of_ble_eq_true rfl) dX1_init_16 (fun q_2 H hP hD hS => ?_)
  refine W.widen (k := 2) (n := 420) (Nat.le_of_ble_eq_true rfl) (Nat.le_of_ble_eq_true rfl) ?_
  refine va_putF (D := D) (ci := 1) (v := .ref q_2) (ty := (.array .int)) (C := RX1) (T := TX1) (N := 6) hx hb hg iX1 tyX1 tyX1_ok nmX1 hown hK hP hD hS 0 rfl rfl 1 (by decide) (hg (Cond.fieldLink RX1 15 "SlabWalk$Earnest" "kept" "[I") m494) (fun _ h9 => h9) rfl hin rfl (by decide +kernel) rfl rfl (Nat.le_of_ble_eq_true rfl) dX1_init_18 (fun H locs hP hD hS => ?_)
  obtain ⟨ws_, hws_, hP, hD⟩ : ∃ w : va_W, w = [(h0, .inr (1, [vrf_ q_1, vrf_ q_2, vnl_, vi0_, vi0_, vi0_])), vaz_ q_1 k.2.1 10, vaz_ q_2 k.2.1 410] ∧ va_P D classes w H ∧ va_D A w := ⟨_, rfl, hP, hD⟩
  subst hws_
  refine lv_aload_n hx hb dX1_init_21 rfl (lv_at hl 0 rfl) ?_
  refine lv_bipush (v := 30) hx hb dX1_init_22 (by decide) ?_
  refine va_newaT (atype := .int) (ty := .int) (a0 := (30, .inl (fun _ => 0))) hx hb (hg (Cond.arrayClass .int) m245) rfl ra_int hK hP hD hS hA 1 rfl (fun _ => rfl) (by decide) (by decide) (Nat.le_of_ble_eq_true rfl) (Nat.le_of_ble_eq_true rfl) (Nat.le_of_ble_eq_true rfl) dX1_init_24 (fun q_3 H hP hD hS => ?_)
  refine W.widen (k := 3) (n := 450) (Nat.le_of_ble_eq_true rfl) (Nat.le_of_ble_eq_true rfl) ?_
  refine va_putF (D := D) (ci := 1) (v := .ref q_3) (ty := (.array .int)) (C := RX1) (T := TX1) (N := 6) hx hb hg iX1 tyX1 tyX1_ok nmX1 hown hK hP hD hS 0 rfl rfl 2 (by decide) (hg (Cond.fieldLink RX1 18 "SlabWalk$Earnest" "boxes" "[I") m495) (fun _ h9 => h9) rfl hin rfl (by decide +kernel) rfl rfl (Nat.le_of_ble_eq_true rfl) dX1_init_26 (fun H locs hP hD hS => ?_)
  obtain ⟨ws_, hws_, hP, hD⟩ : ∃ w : va_W, w = [(h0, .inr (1, [vrf_ q_1, vrf_ q_2, vrf_ q_3, vi0_, vi0_, vi0_])), vaz_ q_1 k.2.1 10, vaz_ q_2 k.2.1 410, vaz_ q_3 k.2.1 30] ∧ va_P D classes w H ∧ va_D A w := ⟨_, rfl, hP, hD⟩
  subst hws_
  exact W.vret hx hb hr (fun t ht hW => ⟨⟨(), rfl, trivial, ⟨q_1, q_2, q_3, cB_of ht hP hD⟩⟩, hS.F ht⟩) hS.2.2 dX1_init_29

set_option maxHeartbeats 4000000 in
set_option maxRecDepth 100000 in
theorem q_X8 (l : Launch) (D : va_G) (k : KT) (sz : Nat) (h0 : Nat)  : Met l yX8_init (WS yX8_init cX8_init 1 none) ({ frames := 1, cells := 5, slots := 100, locals := 12 }) (va_Pc [.ref h0] (cQ D k [(h0, .inr (8, [vnl_, vnl_, vnl_, vnl_, vnl_, vi0_, vi0_]))] sz)) (va_Qv (fun _ : Unit => True) (fun (_ : Unit) t => ∃ (q_1 : Nat), ∃ (q_2 : Nat), ∃ (q_3 : Nat), ∃ (q_4 : Nat), ∃ (q_5 : Nat), cB D (va_A [(h0, .inr (8, [vnl_, vnl_, vnl_, vnl_, vnl_, vi0_, vi0_]))] sz) [(h0, .inr (8, [vrf_ q_1, vrf_ q_2, vrf_ q_3, vrf_ q_4, vrf_ q_5, vi0_, vi0_])), vaz_ q_1 k.2.1 20, vaz_ q_2 k.2.1 20, vaz_ q_3 k.2.1 20, vaz_ q_4 k.2.1 20, vaz_ q_5 k.2.1 20] t) (va_A [(h0, .inr (8, [vnl_, vnl_, vnl_, vnl_, vnl_, vi0_, vi0_]))] sz)) 5 100 (va_A [(h0, .inr (8, [vnl_, vnl_, vnl_, vnl_, vnl_, vi0_, vi0_]))] sz) := by
  refine Met.ofW (cc := cX8_init) (maxL := 1) (ret := none) (by decide) rfl ?_
  intro p e s m args below meth c s₁ B hml hv
  obtain ⟨rfl, hsz, hP, hKX, hD0⟩ := hv
  have hK := hKX.1
  have hx := B.exec
  have hb := B.bytes
  have hr := B.returns
  have hts := atoms_spec (ws := WS yX8_init cX8_init 1 none) B.pre
  have hgd : ∀ w ∈ gd, w ∈ WS yX8_init cX8_init 1 none := fun w h => List.mem_cons_of_mem _ h
  have hg : ∀ w ∈ gd, w.before _ s = true := fun w h => hts w (hgd w h)
  have hown : s.vm.findClass RX8 = some m.cls := findClass_of_methodNamed B.named
  have hlocks := B.notSynchronized
  have hin : meth.name = "<init>" := (name_of_methodNamed B.named B.method).1
  subst hsz
  have hD := hD0.self (sz := s.heap.size)
  generalize hAe : va_A [(h0, .inr (8, [vnl_, vnl_, vnl_, vnl_, vnl_, vi0_, vi0_]))] s.heap.size = A at hD ⊢
  have hA : ∀ q : Nat, s.heap.size ≤ q → A q := fun q h => by rw [← hAe]; exact Or.inr h
  have hS : va_S A s.heap s.heap [] := va_S.rf
  have hP : va_P D classes [(h0, .inr (8, [vnl_, vnl_, vnl_, vnl_, vnl_, vi0_, vi0_]))] s.heap := hP
  have hl := lv_entry ([.ref h0]) (n := 1) (Nat.le_of_ble_eq_true rfl)
  rw [lg_entry_eq]
  generalize (lg_sl ([.ref h0]) ++ List.replicate (1 - (lg_sl ([.ref h0])).length) Slot.unset).toArray = ls at hl ⊢
  have hl : lv_has ls 1 [(0, .ref h0)] := hl
  refine lv_aload_n hx hb dX8_init_0 rfl (lv_at hl 0 rfl) ?_
  refine W.objInit hx hb hown (hg (Cond.methodLink RX8 3 objectInit) m519) (hg (Cond.instanceMethod objectInit) m144) (hg (Cond.code objectInit ⟨#[0xb1]⟩ 1 none) m145) rfl (by rw [hml]; exact hl.1) rfl dX8_init_1 (Nat.le_of_ble_eq_true rfl) (Nat.le_of_ble_eq_true rfl) ?_
  refine W.eq (g2 := F0 m 4 ls []) rfl ?_
  refine lv_aload_n hx hb dX8_init_4 rfl (lv_at hl 0 rfl) ?_
  refine lv_bipush (v := 20) hx hb dX8_init_5 (by decide) ?_
  refine va_newaT (atype := .int) (ty := .int) (a0 := (20, .inl (fun _ => 0))) hx hb (hg (Cond.arrayClass .int) m245) rfl ra_int hK hP hD hS hA 1 rfl (fun _ => rfl) (by decide) (by decide) (Nat.le_of_ble_eq_true rfl) (Nat.le_of_ble_eq_true rfl) (Nat.le_of_ble_eq_true rfl) dX8_init_7 (fun q_1 H hP hD hS => ?_)
  refine W.widen (k := 1) (n := 20) (Nat.le_of_ble_eq_true rfl) (Nat.le_of_ble_eq_true rfl) ?_
  refine va_putF (D := D) (ci := 8) (v := .ref q_1) (ty := (.array .int)) (C := RX8) (T := TX8) (N := 7) hx hb hg iX8 tyX8 tyX8_ok nmX8 hown hK hP hD hS 0 rfl rfl 0 (by decide) (hg (Cond.fieldLink RX8 11 "SlabWalk$Sights" "walker" "[I") m520) (fun _ h9 => h9) rfl hin rfl (by decide +kernel) rfl rfl (Nat.le_of_ble_eq_true rfl) dX8_init_9 (fun H locs hP hD hS => ?_)
  obtain ⟨ws_, hws_, hP, hD⟩ : ∃ w : va_W, w = [(h0, .inr (8, [vrf_ q_1, vnl_, vnl_, vnl_, vnl_, vi0_, vi0_])), vaz_ q_1 k.2.1 20] ∧ va_P D classes w H ∧ va_D A w := ⟨_, rfl, hP, hD⟩
  subst hws_
  refine lv_aload_n hx hb dX8_init_12 rfl (lv_at hl 0 rfl) ?_
  refine lv_bipush (v := 20) hx hb dX8_init_13 (by decide) ?_
  refine va_newaT (atype := .int) (ty := .int) (a0 := (20, .inl (fun _ => 0))) hx hb (hg (Cond.arrayClass .int) m245) rfl ra_int hK hP hD hS hA 1 rfl (fun _ => rfl) (by decide) (by decide) (Nat.le_of_ble_eq_true rfl) (Nat.le_of_ble_eq_true rfl) (Nat.le_of_ble_eq_true rfl) dX8_init_15 (fun q_2 H hP hD hS => ?_)
  refine W.widen (k := 2) (n := 40) (Nat.le_of_ble_eq_true rfl) (Nat.le_of_ble_eq_true rfl) ?_
  refine va_putF (D := D) (ci := 8) (v := .ref q_2) (ty := (.array .int)) (C := RX8) (T := TX8) (N := 7) hx hb hg iX8 tyX8 tyX8_ok nmX8 hown hK hP hD hS 0 rfl rfl 1 (by decide) (hg (Cond.fieldLink RX8 15 "SlabWalk$Sights" "street" "[I") m522) (fun _ h9 => h9) rfl hin rfl (by decide +kernel) rfl rfl (Nat.le_of_ble_eq_true rfl) dX8_init_17 (fun H locs hP hD hS => ?_)
  obtain ⟨ws_, hws_, hP, hD⟩ : ∃ w : va_W, w = [(h0, .inr (8, [vrf_ q_1, vrf_ q_2, vnl_, vnl_, vnl_, vi0_, vi0_])), vaz_ q_1 k.2.1 20, vaz_ q_2 k.2.1 20] ∧ va_P D classes w H ∧ va_D A w := ⟨_, rfl, hP, hD⟩
  subst hws_
  refine lv_aload_n hx hb dX8_init_20 rfl (lv_at hl 0 rfl) ?_
  refine lv_bipush (v := 20) hx hb dX8_init_21 (by decide) ?_
  refine va_newaT (atype := .int) (ty := .int) (a0 := (20, .inl (fun _ => 0))) hx hb (hg (Cond.arrayClass .int) m245) rfl ra_int hK hP hD hS hA 1 rfl (fun _ => rfl) (by decide) (by decide) (Nat.le_of_ble_eq_true rfl) (Nat.le_of_ble_eq_true rfl) (Nat.le_of_ble_eq_true rfl) dX8_init_23 (fun q_3 H hP hD hS => ?_)
  refine W.widen (k := 3) (n := 60) (Nat.le_of_ble_eq_true rfl) (Nat.le_of_ble_eq_true rfl) ?_
  refine va_putF (D := D) (ci := 8) (v := .ref q_3) (ty := (.array .int)) (C := RX8) (T := TX8) (N := 7) hx hb hg iX8 tyX8 tyX8_ok nmX8 hown hK hP hD hS 0 rfl rfl 2 (by decide) (hg (Cond.fieldLink RX8 18 "SlabWalk$Sights" "heel" "[I") m524) (fun _ h9 => h9) rfl hin rfl (by decide +kernel) rfl rfl (Nat.le_of_ble_eq_true rfl) dX8_init_25 (fun H locs hP hD hS => ?_)
  obtain ⟨ws_, hws_, hP, hD⟩ : ∃ w : va_W, w = [(h0, .inr (8, [vrf_ q_1, vrf_ q_2, vrf_ q_3, vnl_, vnl_, vi0_, vi0_])), vaz_ q_1 k.2.1 20, vaz_ q_2 k.2.1 20, vaz_ q_3 k.2.1 20] ∧ va_P D classes w H ∧ va_D A w := ⟨_, rfl, hP, hD⟩
  subst hws_
  refine lv_aload_n hx hb dX8_init_28 rfl (lv_at hl 0 rfl) ?_
  refine lv_bipush (v := 20) hx hb dX8_init_29 (by decide) ?_
  refine va_newaT (atype := .int) (ty := .int) (a0 := (20, .inl (fun _ => 0))) hx hb (hg (Cond.arrayClass .int) m245) rfl ra_int hK hP hD hS hA 1 rfl (fun _ => rfl) (by decide) (by decide) (Nat.le_of_ble_eq_true rfl) (Nat.le_of_ble_eq_true rfl) (Nat.le_of_ble_eq_true rfl) dX8_init_31 (fun q_4 H hP hD hS => ?_)
  refine W.widen (k := 4) (n := 80) (Nat.le_of_ble_eq_true rfl) (Nat.le_of_ble_eq_true rfl) ?_
  refine va_putF (D := D) (ci := 8) (v := .ref q_4) (ty := (.array .int)) (C := RX8) (T := TX8) (N := 7) hx hb hg iX8 tyX8 tyX8_ok nmX8 hown hK hP hD hS 0 rfl rfl 3 (by decide) (hg (Cond.fieldLink RX8 21 "SlabWalk$Sights" "told" "[I") m526) (fun _ h9 => h9) rfl hin rfl (by decide +kernel) rfl rfl (Nat.le_of_ble_eq_true rfl) dX8_init_33 (fun H locs hP hD hS => ?_)
  obtain ⟨ws_, hws_, hP, hD⟩ : ∃ w : va_W, w = [(h0, .inr (8, [vrf_ q_1, vrf_ q_2, vrf_ q_3, vrf_ q_4, vnl_, vi0_, vi0_])), vaz_ q_1 k.2.1 20, vaz_ q_2 k.2.1 20, vaz_ q_3 k.2.1 20, vaz_ q_4 k.2.1 20] ∧ va_P D classes w H ∧ va_D A w := ⟨_, rfl, hP, hD⟩
  subst hws_
  refine lv_aload_n hx hb dX8_init_36 rfl (lv_at hl 0 rfl) ?_
  refine lv_bipush (v := 20) hx hb dX8_init_37 (by decide) ?_
  refine va_newaT (atype := .int) (ty := .int) (a0 := (20, .inl (fun _ => 0))) hx hb (hg (Cond.arrayClass .int) m245) rfl ra_int hK hP hD hS hA 1 rfl (fun _ => rfl) (by decide) (by decide) (Nat.le_of_ble_eq_true rfl) (Nat.le_of_ble_eq_true rfl) (Nat.le_of_ble_eq_true rfl) dX8_init_39 (fun q_5 H hP hD hS => ?_)
  refine W.widen (k := 5) (n := 100) (Nat.le_of_ble_eq_true rfl) (Nat.le_of_ble_eq_true rfl) ?_
  refine va_putF (D := D) (ci := 8) (v := .ref q_5) (ty := (.array .int)) (C := RX8) (T := TX8) (N := 7) hx hb hg iX8 tyX8 tyX8_ok nmX8 hown hK hP hD hS 0 rfl rfl 4 (by decide) (hg (Cond.fieldLink RX8 24 "SlabWalk$Sights" "untold" "[I") m527) (fun _ h9 => h9) rfl hin rfl (by decide +kernel) rfl rfl (Nat.le_of_ble_eq_true rfl) dX8_init_41 (fun H locs hP hD hS => ?_)
  obtain ⟨ws_, hws_, hP, hD⟩ : ∃ w : va_W, w = [(h0, .inr (8, [vrf_ q_1, vrf_ q_2, vrf_ q_3, vrf_ q_4, vrf_ q_5, vi0_, vi0_])), vaz_ q_1 k.2.1 20, vaz_ q_2 k.2.1 20, vaz_ q_3 k.2.1 20, vaz_ q_4 k.2.1 20, vaz_ q_5 k.2.1 20] ∧ va_P D classes w H ∧ va_D A w := ⟨_, rfl, hP, hD⟩
  subst hws_
  exact W.vret hx hb hr (fun t ht hW => ⟨⟨(), rfl, trivial, ⟨q_1, q_2, q_3, q_4, q_5, cB_of ht hP hD⟩⟩, hS.F ht⟩) hS.2.2 dX8_init_44

set_option maxHeartbeats 4000000 in
set_option maxRecDepth 100000 in
theorem q_forget (l : Launch) (D : va_G) (k : KT) (sz : Nat) (h0 nw kp v_boxes : Nat) (v_full v_done v_undone : Int32) (f1 f2 : Nat → Int32)  : Met l yX1_forgetActs (WS yX1_forgetActs cX1_forgetActs 1 none) ({ frames := 1, cells := 0, slots := 0, locals := 40 }) (va_Pc [.ref h0] (cQ D k [(h0, .inr (1, [vrf_ nw, vrf_ kp, vrf_ v_boxes, .int v_full, .int v_done, .int v_undone])), (nw, .inl (k.2.1, 10, .inl f1)), (kp, .inl (k.2.1, 410, .inl f2))] sz)) (va_Qv (fun _ : Unit => True) (fun (_ : Unit) t => cB D (va_A [(h0, .inr (1, [vrf_ nw, vrf_ kp, vrf_ v_boxes, .int v_full, .int v_done, .int v_undone])), (nw, .inl (k.2.1, 10, .inl f1)), (kp, .inl (k.2.1, 410, .inl f2))] sz) [(h0, .inr (1, [vrf_ nw, vrf_ kp, vrf_ v_boxes, .int v_full, vi0_, vi0_])), (nw, .inl (k.2.1, 10, .inl f1)), (kp, .inl (k.2.1, 410, .inl (va_cpy f1 f2 (0 : Int32).toNatClampNeg (0 : Int32).toNatClampNeg (10 : Int32).toNatClampNeg)))] t) (va_A [(h0, .inr (1, [vrf_ nw, vrf_ kp, vrf_ v_boxes, .int v_full, .int v_done, .int v_undone])), (nw, .inl (k.2.1, 10, .inl f1)), (kp, .inl (k.2.1, 410, .inl f2))] sz)) 0 0 (va_A [(h0, .inr (1, [vrf_ nw, vrf_ kp, vrf_ v_boxes, .int v_full, .int v_done, .int v_undone])), (nw, .inl (k.2.1, 10, .inl f1)), (kp, .inl (k.2.1, 410, .inl f2))] sz) := by
  refine Met.ofW (cc := cX1_forgetActs) (maxL := 1) (ret := none) (by decide) rfl ?_
  intro p e s m args below meth c s₁ B hml hv
  obtain ⟨rfl, hsz, hP, hKX, hD0⟩ := hv
  have hK := hKX.1
  have hx := B.exec
  have hb := B.bytes
  have hr := B.returns
  have hts := atoms_spec (ws := WS yX1_forgetActs cX1_forgetActs 1 none) B.pre
  have hgd : ∀ w ∈ gd, w ∈ WS yX1_forgetActs cX1_forgetActs 1 none := fun w h => List.mem_cons_of_mem _ h
  have hg : ∀ w ∈ gd, w.before _ s = true := fun w h => hts w (hgd w h)
  have hown : s.vm.findClass RX1 = some m.cls := findClass_of_methodNamed B.named
  have hlocks := B.notSynchronized
  subst hsz
  have hD := hD0.self (sz := s.heap.size)
  generalize hAe : va_A [(h0, .inr (1, [vrf_ nw, vrf_ kp, vrf_ v_boxes, .int v_full, .int v_done, .int v_undone])), (nw, .inl (k.2.1, 10, .inl f1)), (kp, .inl (k.2.1, 410, .inl f2))] s.heap.size = A at hD ⊢
  have hA : ∀ q : Nat, s.heap.size ≤ q → A q := fun q h => by rw [← hAe]; exact Or.inr h
  have hS : va_S A s.heap s.heap [] := va_S.rf
  have hP : va_P D classes [(h0, .inr (1, [vrf_ nw, vrf_ kp, vrf_ v_boxes, .int v_full, .int v_done, .int v_undone])), (nw, .inl (k.2.1, 10, .inl f1)), (kp, .inl (k.2.1, 410, .inl f2))] s.heap := hP
  have hl := lv_entry ([.ref h0]) (n := 1) (Nat.le_of_ble_eq_true rfl)
  rw [lg_entry_eq]
  generalize (lg_sl ([.ref h0]) ++ List.replicate (1 - (lg_sl ([.ref h0])).length) Slot.unset).toArray = ls at hl ⊢
  have hl : lv_has ls 1 [(0, .ref h0)] := hl
  refine lv_aload_n hx hb dX1_forgetActs_0 rfl (lv_at hl 0 rfl) ?_
  refine lv_iconst (v := 0) hx hb dX1_forgetActs_1 (by decide) ?_
  refine va_put (D := D) (ci := 1) (v := .int 0) (ty := .int) (C := RX1) (T := TX1) (N := 6) hx hb hg iX1 tyX1 tyX1_ok nmX1 hown hK hP hD hS 0 rfl rfl 4 (by decide) (hg (Cond.fieldLink RX1 34 "SlabWalk$Earnest" "done" "I") m497) (fun _ h9 => h9) rfl (by decide +kernel) rfl rfl (Nat.le_of_ble_eq_true rfl) dX1_forgetActs_2 (fun H locs hP hD hS => ?_)
  obtain ⟨ws_, hws_, hP, hD⟩ : ∃ w : va_W, w = [(h0, .inr (1, [vrf_ nw, vrf_ kp, vrf_ v_boxes, .int v_full, vi0_, .int v_undone])), (nw, .inl (k.2.1, 10, .inl f1)), (kp, .inl (k.2.1, 410, .inl f2))] ∧ va_P D classes w H ∧ va_D A w := ⟨_, rfl, hP, hD⟩
  subst hws_
  refine lv_aload_n hx hb dX1_forgetActs_5 rfl (lv_at hl 0 rfl) ?_
  refine lv_iconst (v := 0) hx hb dX1_forgetActs_6 (by decide) ?_
  refine va_put (D := D) (ci := 1) (v := .int 0) (ty := .int) (C := RX1) (T := TX1) (N := 6) hx hb hg iX1 tyX1 tyX1_ok nmX1 hown hK hP hD hS 0 rfl rfl 5 (by decide) (hg (Cond.fieldLink RX1 37 "SlabWalk$Earnest" "undone" "I") m499) (fun _ h9 => h9) rfl (by decide +kernel) rfl rfl (Nat.le_of_ble_eq_true rfl) dX1_forgetActs_7 (fun H locs hP hD hS => ?_)
  obtain ⟨ws_, hws_, hP, hD⟩ : ∃ w : va_W, w = [(h0, .inr (1, [vrf_ nw, vrf_ kp, vrf_ v_boxes, .int v_full, vi0_, vi0_])), (nw, .inl (k.2.1, 10, .inl f1)), (kp, .inl (k.2.1, 410, .inl f2))] ∧ va_P D classes w H ∧ va_D A w := ⟨_, rfl, hP, hD⟩
  subst hws_
  refine lv_aload_n hx hb dX1_forgetActs_10 rfl (lv_at hl 0 rfl) ?_
  refine va_get (D := D) (ci := 1) (v := .ref nw) (C := RX1) (T := TX1) (N := 6) hx hb hg iX1 hown hK hP 0 rfl rfl 0 (by decide) (hg (Cond.fieldLink RX1 11 "SlabWalk$Earnest" "now" "[I") m492) (fun _ h9 => h9) rfl dX1_forgetActs_11 ?_
  refine lv_iconst (v := 0) hx hb dX1_forgetActs_14 (by decide) ?_
  refine lv_aload_n hx hb dX1_forgetActs_15 rfl (lv_at hl 0 rfl) ?_
  refine va_get (D := D) (ci := 1) (v := .ref kp) (C := RX1) (T := TX1) (N := 6) hx hb hg iX1 hown hK hP 0 rfl rfl 1 (by decide) (hg (Cond.fieldLink RX1 15 "SlabWalk$Earnest" "kept" "[I") m494) (fun _ h9 => h9) rfl dX1_forgetActs_16 ?_
  refine lv_iconst (v := 0) hx hb dX1_forgetActs_19 (by decide) ?_
  refine lv_bipush (v := 10) hx hb dX1_forgetActs_20 (by decide) ?_
  refine va_copyi hx hb (by rw [hml]; exact hl.1.symm) hown (hg (Cond.methodLink RX1 40 arraycopyName) m567) (hg (Cond.native arraycopyName) m569) (hg (Cond.static arraycopyName) m568) (hg (Cond.initialized "java/lang/System") m130) hK hP hD hS 1 2 1 1 rfl rfl rfl rfl rfl (by decide) (by decide) (by decide) (by decide) (by decide) (fun _ _ => rfl) (Nat.le_of_ble_eq_true rfl) (by decide +kernel) dX1_forgetActs_22 (fun H locs hP hD hS => ?_)
  obtain ⟨ws_, hws_, hP, hD⟩ : ∃ w : va_W, w = [(h0, .inr (1, [vrf_ nw, vrf_ kp, vrf_ v_boxes, .int v_full, vi0_, vi0_])), (nw, .inl (k.2.1, 10, .inl f1)), (kp, .inl (k.2.1, 410, .inl (va_cpy f1 f2 (0 : Int32).toNatClampNeg (0 : Int32).toNatClampNeg (10 : Int32).toNatClampNeg)))] ∧ va_P D classes w H ∧ va_D A w := ⟨_, rfl, hP, hD⟩
  subst hws_
  exact W.vret hx hb hr (fun t ht hW => ⟨⟨(), rfl, trivial, cB_of ht hP hD⟩, hS.F ht⟩) hS.2.2 dX1_forgetActs_25

set_option maxHeartbeats 4000000 in
set_option maxRecDepth 100000 in
theorem q_anewE (l : Launch) (D : va_G) (k : KT) (sz : Nat) (h0 nw kp v_boxes : Nat) (p0 v_full v_done v_undone : Int32) (f1 f2 : Nat → Int32)  : Met l yX1_startAnew (WS yX1_startAnew cX1_startAnew 2 none) ({ frames := 2, cells := 0, slots := 0, locals := 60 }) (va_Pc [.ref h0, .int p0] (cQ D k [(h0, .inr (1, [vrf_ nw, vrf_ kp, vrf_ v_boxes, .int v_full, .int v_done, .int v_undone])), (nw, .inl (k.2.1, 10, .inl f1)), (kp, .inl (k.2.1, 410, .inl f2))] sz)) (va_Qv (fun _ : Unit => True) (fun (_ : Unit) t => cB D (va_A [(h0, .inr (1, [vrf_ nw, vrf_ kp, vrf_ v_boxes, .int v_full, .int v_done, .int v_undone])), (nw, .inl (k.2.1, 10, .inl f1)), (kp, .inl (k.2.1, 410, .inl f2))] sz) [(h0, .inr (1, [vrf_ nw, vrf_ kp, vrf_ v_boxes, vi0_, vi0_, vi0_])), (nw, .inl (k.2.1, 10, .inl (upd (upd (upd (upd (upd (upd (upd (upd (upd (upd (upd (upd f1 0 0) 1 0) 2 0) 3 0) 4 0) 5 0) 6 0) 7 0) 8 0) 9 0) 0 (-1)) 7 p0))), (kp, .inl (k.2.1, 410, .inl (va_cpy (upd (upd (upd (upd (upd (upd (upd (upd (upd (upd (upd (upd f1 0 0) 1 0) 2 0) 3 0) 4 0) 5 0) 6 0) 7 0) 8 0) 9 0) 0 (-1)) 7 p0) f2 (0 : Int32).toNatClampNeg (0 : Int32).toNatClampNeg (10 : Int32).toNatClampNeg)))] t) (va_A [(h0, .inr (1, [vrf_ nw, vrf_ kp, vrf_ v_boxes, .int v_full, .int v_done, .int v_undone])), (nw, .inl (k.2.1, 10, .inl f1)), (kp, .inl (k.2.1, 410, .inl f2))] sz)) 0 0 (va_A [(h0, .inr (1, [vrf_ nw, vrf_ kp, vrf_ v_boxes, .int v_full, .int v_done, .int v_undone])), (nw, .inl (k.2.1, 10, .inl f1)), (kp, .inl (k.2.1, 410, .inl f2))] sz) := by
  refine Met.ofW (cc := cX1_startAnew) (maxL := 2) (ret := none) (by decide) rfl ?_
  intro p e s m args below meth c s₁ B hml hv
  obtain ⟨rfl, hsz, hP, hKX, hD0⟩ := hv
  have hK := hKX.1
  have hx := B.exec
  have hb := B.bytes
  have hr := B.returns
  have hts := atoms_spec (ws := WS yX1_startAnew cX1_startAnew 2 none) B.pre
  have hgd : ∀ w ∈ gd, w ∈ WS yX1_startAnew cX1_startAnew 2 none := fun w h => List.mem_cons_of_mem _ h
  have hg : ∀ w ∈ gd, w.before _ s = true := fun w h => hts w (hgd w h)
  have hown : s.vm.findClass RX1 = some m.cls := findClass_of_methodNamed B.named
  have hlocks := B.notSynchronized
  subst hsz
  have hD := hD0.self (sz := s.heap.size)
  generalize hAe : va_A [(h0, .inr (1, [vrf_ nw, vrf_ kp, vrf_ v_boxes, .int v_full, .int v_done, .int v_undone])), (nw, .inl (k.2.1, 10, .inl f1)), (kp, .inl (k.2.1, 410, .inl f2))] s.heap.size = A at hD ⊢
  have hA : ∀ q : Nat, s.heap.size ≤ q → A q := fun q h => by rw [← hAe]; exact Or.inr h
  have hS : va_S A s.heap s.heap [] := va_S.rf
  have hP : va_P D classes [(h0, .inr (1, [vrf_ nw, vrf_ kp, vrf_ v_boxes, .int v_full, .int v_done, .int v_undone])), (nw, .inl (k.2.1, 10, .inl f1)), (kp, .inl (k.2.1, 410, .inl f2))] s.heap := hP
  have hl := lv_entry ([.ref h0, .int p0]) (n := 2) (Nat.le_of_ble_eq_true rfl)
  rw [lg_entry_eq]
  generalize (lg_sl ([.ref h0, .int p0]) ++ List.replicate (2 - (lg_sl ([.ref h0, .int p0])).length) Slot.unset).toArray = ls at hl ⊢
  have hl : lv_has ls 2 [(0, .ref h0), (1, .int p0)] := hl
  refine lv_aload_n hx hb dX1_startAnew_0 rfl (lv_at hl 0 rfl) ?_
  refine va_get (D := D) (ci := 1) (v := .ref nw) (C := RX1) (T := TX1) (N := 6) hx hb hg iX1 hown hK hP 0 rfl rfl 0 (by decide) (hg (Cond.fieldLink RX1 11 "SlabWalk$Earnest" "now" "[I") m492) (fun _ h9 => h9) rfl dX1_startAnew_1 ?_
  refine lv_iconst (v := 0) hx hb dX1_startAnew_4 (by decide) ?_
  have hPc := hP.sub (ws' := [(nw, .inl (k.2.1, 10, .inl f1))]) [1] rfl
  have hDc := hD.sub (ws' := [(nw, .inl (k.2.1, 10, .inl f1))]) [1] (by decide +kernel) rfl
  have hFc := va_free (wc := [(nw, .inl (k.2.1, 10, .inl f1))]) hD hS hA [1] rfl
  refine va_callv (va_runS (As := [.ref nw, .int 0]) (rest := []) ⟨hx, hb, hml, hown, hts⟩ (q_fill10 l D k s.heap.size nw 0 f1) (va_cwS 2 hts (gd_S hgd m562 m556 m129 m557) rfl rfl rfl hd_J7_fill_53178.2 ⟨Nat.le_of_ble_eq_true rfl, Nat.le_of_ble_eq_true rfl⟩) (cQ_S hPc hKX hDc) rfl rfl hl.1 rfl (lv_room (Nat.le_of_ble_eq_true rfl)) dX1_startAnew_5 ⟨Nat.le_of_ble_eq_true rfl, Nat.le_of_ble_eq_true rfl⟩) hS (fun q _ h => hFc q h) hFc (fun u t H1 locs ht hvm hw hB hz1 hk1 hS => ?_)
  obtain ⟨hP1, hD1⟩ := hB
  rw [ht] at hP1
  obtain ⟨hP, hD⟩ := va_join (wr := [(h0, .inr (1, [vrf_ nw, vrf_ kp, vrf_ v_boxes, .int v_full, .int v_done, .int v_undone])), (kp, .inl (k.2.1, 410, .inl f2))]) (w1 := [(nw, .inl (k.2.1, 10, .inl (upd (upd (upd (upd (upd (upd (upd (upd (upd (upd f1 0 0) 1 0) 2 0) 3 0) 4 0) 5 0) 6 0) 7 0) 8 0) 9 0)))]) hP hD [1] [0, 2] rfl rfl (by decide +kernel) (by decide +kernel) hk1 hFc hP1 hD1
  generalize H1 = H at hP hS ⊢
  obtain ⟨ws_, hws_, hP, hD⟩ : ∃ w : va_W, w = [(h0, .inr (1, [vrf_ nw, vrf_ kp, vrf_ v_boxes, .int v_full, .int v_done, .int v_undone])), (kp, .inl (k.2.1, 410, .inl f2)), (nw, .inl (k.2.1, 10, .inl (upd (upd (upd (upd (upd (upd (upd (upd (upd (upd f1 0 0) 1 0) 2 0) 3 0) 4 0) 5 0) 6 0) 7 0) 8 0) 9 0)))] ∧ va_P D classes w H ∧ va_D A w := ⟨_, rfl, hP, hD⟩
  subst hws_
  refine W.widen (k := 0) (n := 0) (Nat.le_of_ble_eq_true rfl) (Nat.le_of_ble_eq_true rfl) ?_
  refine lv_aload_n hx hb dX1_startAnew_8 rfl (lv_at hl 0 rfl) ?_
  refine va_get (D := D) (ci := 1) (v := .ref nw) (C := RX1) (T := TX1) (N := 6) hx hb hg iX1 hown hK hP 0 rfl rfl 0 (by decide) (hg (Cond.fieldLink RX1 11 "SlabWalk$Earnest" "now" "[I") m492) (fun _ h9 => h9) rfl dX1_startAnew_9 ?_
  refine lv_iconst (v := 0) hx hb dX1_startAnew_12 (by decide) ?_
  refine lv_iconst (v := (-1)) hx hb dX1_startAnew_13 (by decide) ?_
  refine va_iast hx hb hK hP hD hS 2 1 rfl rfl (show ¬ ((0 : Int32) < 0 ∨ 10 ≤ (0 : Int32).toNatClampNeg) from by decide +kernel) dX1_startAnew_14 (fun H locs hP hD hS => ?_)
  obtain ⟨ws_, hws_, hP, hD⟩ : ∃ w : va_W, w = [(h0, .inr (1, [vrf_ nw, vrf_ kp, vrf_ v_boxes, .int v_full, .int v_done, .int v_undone])), (kp, .inl (k.2.1, 410, .inl f2)), (nw, .inl (k.2.1, 10, .inl (upd (upd (upd (upd (upd (upd (upd (upd (upd (upd (upd f1 0 0) 1 0) 2 0) 3 0) 4 0) 5 0) 6 0) 7 0) 8 0) 9 0) 0 (-1))))] ∧ va_P D classes w H ∧ va_D A w := ⟨_, rfl, hP, hD⟩
  subst hws_
  refine lv_aload_n hx hb dX1_startAnew_15 rfl (lv_at hl 0 rfl) ?_
  refine va_get (D := D) (ci := 1) (v := .ref nw) (C := RX1) (T := TX1) (N := 6) hx hb hg iX1 hown hK hP 0 rfl rfl 0 (by decide) (hg (Cond.fieldLink RX1 11 "SlabWalk$Earnest" "now" "[I") m492) (fun _ h9 => h9) rfl dX1_startAnew_16 ?_
  refine lv_bipush (v := 7) hx hb dX1_startAnew_19 (by decide) ?_
  refine lv_iload_n hx hb dX1_startAnew_21 rfl (lv_at hl 1 rfl) ?_
  refine va_iast hx hb hK hP hD hS 2 1 rfl rfl (show ¬ ((7 : Int32) < 0 ∨ 10 ≤ (7 : Int32).toNatClampNeg) from by decide +kernel) dX1_startAnew_22 (fun H locs hP hD hS => ?_)
  obtain ⟨ws_, hws_, hP, hD⟩ : ∃ w : va_W, w = [(h0, .inr (1, [vrf_ nw, vrf_ kp, vrf_ v_boxes, .int v_full, .int v_done, .int v_undone])), (kp, .inl (k.2.1, 410, .inl f2)), (nw, .inl (k.2.1, 10, .inl (upd (upd (upd (upd (upd (upd (upd (upd (upd (upd (upd (upd f1 0 0) 1 0) 2 0) 3 0) 4 0) 5 0) 6 0) 7 0) 8 0) 9 0) 0 (-1)) 7 p0)))] ∧ va_P D classes w H ∧ va_D A w := ⟨_, rfl, hP, hD⟩
  subst hws_
  refine lv_aload_n hx hb dX1_startAnew_23 rfl (lv_at hl 0 rfl) ?_
  refine lv_iconst (v := 0) hx hb dX1_startAnew_24 (by decide) ?_
  refine va_put (D := D) (ci := 1) (v := .int 0) (ty := .int) (C := RX1) (T := TX1) (N := 6) hx hb hg iX1 tyX1 tyX1_ok nmX1 hown hK hP hD hS 0 rfl rfl 3 (by decide) (hg (Cond.fieldLink RX1 27 "SlabWalk$Earnest" "full" "I") m496) (fun _ h9 => h9) rfl (by decide +kernel) rfl rfl (Nat.le_of_ble_eq_true rfl) dX1_startAnew_25 (fun H locs hP hD hS => ?_)
  obtain ⟨ws_, hws_, hP, hD⟩ : ∃ w : va_W, w = [(h0, .inr (1, [vrf_ nw, vrf_ kp, vrf_ v_boxes, vi0_, .int v_done, .int v_undone])), (kp, .inl (k.2.1, 410, .inl f2)), (nw, .inl (k.2.1, 10, .inl (upd (upd (upd (upd (upd (upd (upd (upd (upd (upd (upd (upd f1 0 0) 1 0) 2 0) 3 0) 4 0) 5 0) 6 0) 7 0) 8 0) 9 0) 0 (-1)) 7 p0)))] ∧ va_P D classes w H ∧ va_D A w := ⟨_, rfl, hP, hD⟩
  subst hws_
  refine lv_aload_n hx hb dX1_startAnew_28 rfl (lv_at hl 0 rfl) ?_
  have hPc := hP.sub (ws' := [(h0, .inr (1, [vrf_ nw, vrf_ kp, vrf_ v_boxes, vi0_, .int v_done, .int v_undone])), (nw, .inl (k.2.1, 10, .inl (upd (upd (upd (upd (upd (upd (upd (upd (upd (upd (upd (upd f1 0 0) 1 0) 2 0) 3 0) 4 0) 5 0) 6 0) 7 0) 8 0) 9 0) 0 (-1)) 7 p0))), (kp, .inl (k.2.1, 410, .inl f2))]) [0, 2, 1] rfl
  have hDc := hD.sub (ws' := [(h0, .inr (1, [vrf_ nw, vrf_ kp, vrf_ v_boxes, vi0_, .int v_done, .int v_undone])), (nw, .inl (k.2.1, 10, .inl (upd (upd (upd (upd (upd (upd (upd (upd (upd (upd (upd (upd f1 0 0) 1 0) 2 0) 3 0) 4 0) 5 0) 6 0) 7 0) 8 0) 9 0) 0 (-1)) 7 p0))), (kp, .inl (k.2.1, 410, .inl f2))]) [0, 2, 1] (by decide +kernel) rfl
  have hFc := va_free (wc := [(h0, .inr (1, [vrf_ nw, vrf_ kp, vrf_ v_boxes, vi0_, .int v_done, .int v_undone])), (nw, .inl (k.2.1, 10, .inl (upd (upd (upd (upd (upd (upd (upd (upd (upd (upd (upd (upd f1 0 0) 1 0) 2 0) 3 0) 4 0) 5 0) 6 0) 7 0) 8 0) 9 0) 0 (-1)) 7 p0))), (kp, .inl (k.2.1, 410, .inl f2))]) hD hS hA [0, 2, 1] rfl
  refine va_callv (va_runV (As := []) (rest := []) ⟨hx, hb, hml, hown, hts⟩ (q_forget l D k H.size h0 nw kp v_boxes 0 v_done v_undone (upd (upd (upd (upd (upd (upd (upd (upd (upd (upd (upd (upd f1 0 0) 1 0) 2 0) 3 0) 4 0) 5 0) 6 0) 7 0) 8 0) 9 0) 0 (-1)) 7 p0) f2) (cwV 0 hts (gd_V hgd m563 m565 m1 m127 m566) rfl rfl rfl hd_X1_forgetActs ⟨Nat.le_of_ble_eq_true rfl, Nat.le_of_ble_eq_true rfl⟩) (cQ_V hPc hKX hDc (ci := 1) (q0 := 0) rfl rfl) rfl rfl hl.1 rfl (lv_room (Nat.le_of_ble_eq_true rfl)) dX1_startAnew_29 ⟨Nat.le_of_ble_eq_true rfl, Nat.le_of_ble_eq_true rfl⟩) hS (fun q _ h => hFc q h) hFc (fun u t H1 locs ht hvm hw hB hz1 hk1 hS => ?_)
  obtain ⟨hP1, hD1⟩ := hB
  rw [ht] at hP1
  obtain ⟨hP, hD⟩ := va_join (wr := []) (w1 := [(h0, .inr (1, [vrf_ nw, vrf_ kp, vrf_ v_boxes, vi0_, vi0_, vi0_])), (nw, .inl (k.2.1, 10, .inl (upd (upd (upd (upd (upd (upd (upd (upd (upd (upd (upd (upd f1 0 0) 1 0) 2 0) 3 0) 4 0) 5 0) 6 0) 7 0) 8 0) 9 0) 0 (-1)) 7 p0))), (kp, .inl (k.2.1, 410, .inl (va_cpy (upd (upd (upd (upd (upd (upd (upd (upd (upd (upd (upd (upd f1 0 0) 1 0) 2 0) 3 0) 4 0) 5 0) 6 0) 7 0) 8 0) 9 0) 0 (-1)) 7 p0) f2 (0 : Int32).toNatClampNeg (0 : Int32).toNatClampNeg (10 : Int32).toNatClampNeg)))]) hP hD [0, 2, 1] [] rfl rfl (by decide +kernel) (by decide +kernel) hk1 hFc hP1 hD1
  generalize H1 = H at hP hS ⊢
  obtain ⟨ws_, hws_, hP, hD⟩ : ∃ w : va_W, w = [(h0, .inr (1, [vrf_ nw, vrf_ kp, vrf_ v_boxes, vi0_, vi0_, vi0_])), (nw, .inl (k.2.1, 10, .inl (upd (upd (upd (upd (upd (upd (upd (upd (upd (upd (upd (upd f1 0 0) 1 0) 2 0) 3 0) 4 0) 5 0) 6 0) 7 0) 8 0) 9 0) 0 (-1)) 7 p0))), (kp, .inl (k.2.1, 410, .inl (va_cpy (upd (upd (upd (upd (upd (upd (upd (upd (upd (upd (upd (upd f1 0 0) 1 0) 2 0) 3 0) 4 0) 5 0) 6 0) 7 0) 8 0) 9 0) 0 (-1)) 7 p0) f2 (0 : Int32).toNatClampNeg (0 : Int32).toNatClampNeg (10 : Int32).toNatClampNeg)))] ∧ va_P D classes w H ∧ va_D A w := ⟨_, rfl, hP, hD⟩
  subst hws_
  refine W.widen (k := 0) (n := 0) (Nat.le_of_ble_eq_true rfl) (Nat.le_of_ble_eq_true rfl) ?_
  exact W.vret hx hb hr (fun t ht hW => ⟨⟨(), rfl, trivial, cB_of ht hP hD⟩, hS.F ht⟩) hS.2.2 dX1_startAnew_32

set_option maxHeartbeats 4000000 in
set_option maxRecDepth 100000 in
theorem q_lookAt (l : Launch) (D : va_G) (k : KT) (sz : Nat) (h0 h1 v_found fo v_values v_paving : Nat) (v_top : Int32) (g : Nat → Int32)  : Met l yX3_lookAt (WS yX3_lookAt cX3_lookAt 2 none) ({ frames := 1, cells := 0, slots := 0, locals := 23 }) (va_Pc [.ref h0, .ref h1] (cQ D k [(h0, .inr (3, [vrf_ v_found, vrf_ fo, vrf_ v_values, .int v_top, vrf_ v_paving])), (fo, .inl (k.2.1, 3, .inl g))] sz)) (va_Qv (fun _ : Unit => True) (fun (_ : Unit) t => cB D (va_A [(h0, .inr (3, [vrf_ v_found, vrf_ fo, vrf_ v_values, .int v_top, vrf_ v_paving])), (fo, .inl (k.2.1, 3, .inl g))] sz) [(h0, .inr (3, [vrf_ v_found, vrf_ fo, vrf_ v_values, .int v_top, vrf_ h1])), (fo, .inl (k.2.1, 3, .inl (upd (upd (upd g 0 (-1)) 1 (-1)) 2 (-1))))] t) (va_A [(h0, .inr (3, [vrf_ v_found, vrf_ fo, vrf_ v_values, .int v_top, vrf_ v_paving])), (fo, .inl (k.2.1, 3, .inl g))] sz)) 0 0 (va_A [(h0, .inr (3, [vrf_ v_found, vrf_ fo, vrf_ v_values, .int v_top, vrf_ v_paving])), (fo, .inl (k.2.1, 3, .inl g))] sz) := by
  refine Met.ofW (cc := cX3_lookAt) (maxL := 2) (ret := none) (by decide) rfl ?_
  intro p e s m args below meth c s₁ B hml hv
  obtain ⟨rfl, hsz, hP, hKX, hD0⟩ := hv
  have hK := hKX.1
  have hx := B.exec
  have hb := B.bytes
  have hr := B.returns
  have hts := atoms_spec (ws := WS yX3_lookAt cX3_lookAt 2 none) B.pre
  have hgd : ∀ w ∈ gd, w ∈ WS yX3_lookAt cX3_lookAt 2 none := fun w h => List.mem_cons_of_mem _ h
  have hg : ∀ w ∈ gd, w.before _ s = true := fun w h => hts w (hgd w h)
  have hown : s.vm.findClass RX3 = some m.cls := findClass_of_methodNamed B.named
  have hlocks := B.notSynchronized
  subst hsz
  have hD := hD0.self (sz := s.heap.size)
  generalize hAe : va_A [(h0, .inr (3, [vrf_ v_found, vrf_ fo, vrf_ v_values, .int v_top, vrf_ v_paving])), (fo, .inl (k.2.1, 3, .inl g))] s.heap.size = A at hD ⊢
  have hA : ∀ q : Nat, s.heap.size ≤ q → A q := fun q h => by rw [← hAe]; exact Or.inr h
  have hS : va_S A s.heap s.heap [] := va_S.rf
  have hP : va_P D classes [(h0, .inr (3, [vrf_ v_found, vrf_ fo, vrf_ v_values, .int v_top, vrf_ v_paving])), (fo, .inl (k.2.1, 3, .inl g))] s.heap := hP
  have hl := lv_entry ([.ref h0, .ref h1]) (n := 2) (Nat.le_of_ble_eq_true rfl)
  rw [lg_entry_eq]
  generalize (lg_sl ([.ref h0, .ref h1]) ++ List.replicate (2 - (lg_sl ([.ref h0, .ref h1])).length) Slot.unset).toArray = ls at hl ⊢
  have hl : lv_has ls 2 [(0, .ref h0), (1, .ref h1)] := hl
  refine lv_aload_n hx hb dX3_lookAt_0 rfl (lv_at hl 0 rfl) ?_
  refine lv_aload_n hx hb dX3_lookAt_1 rfl (lv_at hl 1 rfl) ?_
  refine va_put (D := D) (ci := 3) (v := .ref h1) (ty := (.object "SlabWalk$Paving")) (C := RX3) (T := TX3) (N := 5) hx hb hg iX3 tyX3 tyX3_ok nmX3 hown hK hP hD hS 0 rfl rfl 4 (by decide) (hg (Cond.fieldLink RX3 21 "SlabWalk$Lines" "paving" "LSlabWalk$Paving;") m353) (fun _ h9 => h9) rfl (by decide +kernel) rfl rfl (Nat.le_of_ble_eq_true rfl) dX3_lookAt_2 (fun H locs hP hD hS => ?_)
  obtain ⟨ws_, hws_, hP, hD⟩ : ∃ w : va_W, w = [(h0, .inr (3, [vrf_ v_found, vrf_ fo, vrf_ v_values, .int v_top, vrf_ h1])), (fo, .inl (k.2.1, 3, .inl g))] ∧ va_P D classes w H ∧ va_D A w := ⟨_, rfl, hP, hD⟩
  subst hws_
  refine lv_aload_n hx hb dX3_lookAt_5 rfl (lv_at hl 0 rfl) ?_
  refine va_get (D := D) (ci := 3) (v := .ref fo) (C := RX3) (T := TX3) (N := 5) hx hb hg iX3 hown hK hP 0 rfl rfl 1 (by decide) (hg (Cond.fieldLink RX3 15 "SlabWalk$Lines" "foundOn" "[I") m350) (fun _ h9 => h9) rfl dX3_lookAt_6 ?_
  refine lv_iconst (v := (-1)) hx hb dX3_lookAt_9 (by decide) ?_
  have hPc := hP.sub (ws' := [(fo, .inl (k.2.1, 3, .inl g))]) [1] rfl
  have hDc := hD.sub (ws' := [(fo, .inl (k.2.1, 3, .inl g))]) [1] (by decide +kernel) rfl
  have hFc := va_free (wc := [(fo, .inl (k.2.1, 3, .inl g))]) hD hS hA [1] rfl
  refine va_callv (va_runS (As := [.ref fo, .int (-1)]) (rest := []) ⟨hx, hb, hml, hown, hts⟩ (q_fill3 l D k H.size fo (-1) g) (va_cwS 2 hts (gd_S hgd m555 m556 m129 m557) rfl rfl rfl hd_J7_fill_53178.2 ⟨Nat.le_of_ble_eq_true rfl, Nat.le_of_ble_eq_true rfl⟩) (cQ_S hPc hKX hDc) rfl rfl hl.1 rfl (lv_room (Nat.le_of_ble_eq_true rfl)) dX3_lookAt_10 ⟨Nat.le_of_ble_eq_true rfl, Nat.le_of_ble_eq_true rfl⟩) hS (fun q _ h => hFc q h) hFc (fun u t H1 locs ht hvm hw hB hz1 hk1 hS => ?_)
  obtain ⟨hP1, hD1⟩ := hB
  rw [ht] at hP1
  obtain ⟨hP, hD⟩ := va_join (wr := [(h0, .inr (3, [vrf_ v_found, vrf_ fo, vrf_ v_values, .int v_top, vrf_ h1]))]) (w1 := [(fo, .inl (k.2.1, 3, .inl (upd (upd (upd g 0 (-1)) 1 (-1)) 2 (-1))))]) hP hD [1] [0] rfl rfl (by decide +kernel) (by decide +kernel) hk1 hFc hP1 hD1
  generalize H1 = H at hP hS ⊢
  obtain ⟨ws_, hws_, hP, hD⟩ : ∃ w : va_W, w = [(h0, .inr (3, [vrf_ v_found, vrf_ fo, vrf_ v_values, .int v_top, vrf_ h1])), (fo, .inl (k.2.1, 3, .inl (upd (upd (upd g 0 (-1)) 1 (-1)) 2 (-1))))] ∧ va_P D classes w H ∧ va_D A w := ⟨_, rfl, hP, hD⟩
  subst hws_
  refine W.widen (k := 0) (n := 0) (Nat.le_of_ble_eq_true rfl) (Nat.le_of_ble_eq_true rfl) ?_
  exact W.vret hx hb hr (fun t ht hW => ⟨⟨(), rfl, trivial, cB_of ht hP hD⟩, hS.F ht⟩) hS.2.2 dX3_lookAt_13

set_option maxHeartbeats 4000000 in
set_option maxRecDepth 100000 in
theorem q_anew (l : Launch) (D : va_G) (k : KT) (sz : Nat) (h0 pv w_spare w_tape w_reader ln w_course w_trails w_odds ea si w_lying y_length y_inches y_foot y_least y_most y_leap y_slip y_code y_codeEnd u_found fo u_values u_paving nw kp v_boxes t_walker t_street t_heel t_told t_untold : Nat) (w_taped w_lie y_streets y_walkers y_rules y_units y_coded y_hand y_slack y_draw u_top v_full v_done v_undone t_count t_time : Int32) (g f1 f2 : Nat → Int32)  : Met l yX11_startAnew (WS yX11_startAnew cX11_startAnew 1 none) ({ frames := 3, cells := 0, slots := 0, locals := 81 }) (va_Pc [.ref h0] (cQ D k [(h0, .inr (11, [vrf_ pv, vrf_ w_spare, vrf_ w_tape, vrf_ w_reader, vrf_ ln, vrf_ w_course, vrf_ w_trails, vrf_ w_odds, vrf_ ea, vrf_ si, vrf_ w_lying, .int w_taped, .int w_lie])), (pv, .inr (6, [vrf_ y_length, vrf_ y_inches, vrf_ y_foot, vrf_ y_least, vrf_ y_most, vrf_ y_leap, vrf_ y_slip, vrf_ y_code, vrf_ y_codeEnd, .int y_streets, .int y_walkers, .int y_rules, .int y_units, .int y_coded, .int y_hand, .int y_slack, .int y_draw])), (ln, .inr (3, [vrf_ u_found, vrf_ fo, vrf_ u_values, .int u_top, vrf_ u_paving])), (fo, .inl (k.2.1, 3, .inl g)), (ea, .inr (1, [vrf_ nw, vrf_ kp, vrf_ v_boxes, .int v_full, .int v_done, .int v_undone])), (nw, .inl (k.2.1, 10, .inl f1)), (kp, .inl (k.2.1, 410, .inl f2)), (si, .inr (8, [vrf_ t_walker, vrf_ t_street, vrf_ t_heel, vrf_ t_told, vrf_ t_untold, .int t_count, .int t_time]))] sz)) (va_Qv (fun _ : Unit => True) (fun (_ : Unit) t => cB D (va_A [(h0, .inr (11, [vrf_ pv, vrf_ w_spare, vrf_ w_tape, vrf_ w_reader, vrf_ ln, vrf_ w_course, vrf_ w_trails, vrf_ w_odds, vrf_ ea, vrf_ si, vrf_ w_lying, .int w_taped, .int w_lie])), (pv, .inr (6, [vrf_ y_length, vrf_ y_inches, vrf_ y_foot, vrf_ y_least, vrf_ y_most, vrf_ y_leap, vrf_ y_slip, vrf_ y_code, vrf_ y_codeEnd, .int y_streets, .int y_walkers, .int y_rules, .int y_units, .int y_coded, .int y_hand, .int y_slack, .int y_draw])), (ln, .inr (3, [vrf_ u_found, vrf_ fo, vrf_ u_values, .int u_top, vrf_ u_paving])), (fo, .inl (k.2.1, 3, .inl g)), (ea, .inr (1, [vrf_ nw, vrf_ kp, vrf_ v_boxes, .int v_full, .int v_done, .int v_undone])), (nw, .inl (k.2.1, 10, .inl f1)), (kp, .inl (k.2.1, 410, .inl f2)), (si, .inr (8, [vrf_ t_walker, vrf_ t_street, vrf_ t_heel, vrf_ t_told, vrf_ t_untold, .int t_count, .int t_time]))] sz) [(h0, .inr (11, [vrf_ pv, vrf_ w_spare, vrf_ w_tape, vrf_ w_reader, vrf_ ln, vrf_ w_course, vrf_ w_trails, vrf_ w_odds, vrf_ ea, vrf_ si, vrf_ w_lying, .int w_taped, vi0_])), (pv, .inr (6, [vrf_ y_length, vrf_ y_inches, vrf_ y_foot, vrf_ y_least, vrf_ y_most, vrf_ y_leap, vrf_ y_slip, vrf_ y_code, vrf_ y_codeEnd, .int y_streets, .int y_walkers, .int y_rules, .int y_units, .int y_coded, .int y_hand, .int y_slack, .int y_draw])), (si, .inr (8, [vrf_ t_walker, vrf_ t_street, vrf_ t_heel, vrf_ t_told, vrf_ t_untold, vi0_, .int t_time])), (ln, .inr (3, [vrf_ u_found, vrf_ fo, vrf_ u_values, .int u_top, vrf_ pv])), (fo, .inl (k.2.1, 3, .inl (upd (upd (upd g 0 (-1)) 1 (-1)) 2 (-1)))), (ea, .inr (1, [vrf_ nw, vrf_ kp, vrf_ v_boxes, vi0_, vi0_, vi0_])), (nw, .inl (k.2.1, 10, .inl (upd (upd (upd (upd (upd (upd (upd (upd (upd (upd (upd (upd f1 0 0) 1 0) 2 0) 3 0) 4 0) 5 0) 6 0) 7 0) 8 0) 9 0) 0 (-1)) 7 y_draw))), (kp, .inl (k.2.1, 410, .inl (va_cpy (upd (upd (upd (upd (upd (upd (upd (upd (upd (upd (upd (upd f1 0 0) 1 0) 2 0) 3 0) 4 0) 5 0) 6 0) 7 0) 8 0) 9 0) 0 (-1)) 7 y_draw) f2 (0 : Int32).toNatClampNeg (0 : Int32).toNatClampNeg (10 : Int32).toNatClampNeg)))] t) (va_A [(h0, .inr (11, [vrf_ pv, vrf_ w_spare, vrf_ w_tape, vrf_ w_reader, vrf_ ln, vrf_ w_course, vrf_ w_trails, vrf_ w_odds, vrf_ ea, vrf_ si, vrf_ w_lying, .int w_taped, .int w_lie])), (pv, .inr (6, [vrf_ y_length, vrf_ y_inches, vrf_ y_foot, vrf_ y_least, vrf_ y_most, vrf_ y_leap, vrf_ y_slip, vrf_ y_code, vrf_ y_codeEnd, .int y_streets, .int y_walkers, .int y_rules, .int y_units, .int y_coded, .int y_hand, .int y_slack, .int y_draw])), (ln, .inr (3, [vrf_ u_found, vrf_ fo, vrf_ u_values, .int u_top, vrf_ u_paving])), (fo, .inl (k.2.1, 3, .inl g)), (ea, .inr (1, [vrf_ nw, vrf_ kp, vrf_ v_boxes, .int v_full, .int v_done, .int v_undone])), (nw, .inl (k.2.1, 10, .inl f1)), (kp, .inl (k.2.1, 410, .inl f2)), (si, .inr (8, [vrf_ t_walker, vrf_ t_street, vrf_ t_heel, vrf_ t_told, vrf_ t_untold, .int t_count, .int t_time]))] sz)) 0 0 (va_A [(h0, .inr (11, [vrf_ pv, vrf_ w_spare, vrf_ w_tape, vrf_ w_reader, vrf_ ln, vrf_ w_course, vrf_ w_trails, vrf_ w_odds, vrf_ ea, vrf_ si, vrf_ w_lying, .int w_taped, .int w_lie])), (pv, .inr (6, [vrf_ y_length, vrf_ y_inches, vrf_ y_foot, vrf_ y_least, vrf_ y_most, vrf_ y_leap, vrf_ y_slip, vrf_ y_code, vrf_ y_codeEnd, .int y_streets, .int y_walkers, .int y_rules, .int y_units, .int y_coded, .int y_hand, .int y_slack, .int y_draw])), (ln, .inr (3, [vrf_ u_found, vrf_ fo, vrf_ u_values, .int u_top, vrf_ u_paving])), (fo, .inl (k.2.1, 3, .inl g)), (ea, .inr (1, [vrf_ nw, vrf_ kp, vrf_ v_boxes, .int v_full, .int v_done, .int v_undone])), (nw, .inl (k.2.1, 10, .inl f1)), (kp, .inl (k.2.1, 410, .inl f2)), (si, .inr (8, [vrf_ t_walker, vrf_ t_street, vrf_ t_heel, vrf_ t_told, vrf_ t_untold, .int t_count, .int t_time]))] sz) := by
  refine Met.ofW (cc := cX11_startAnew) (maxL := 1) (ret := none) (by decide) rfl ?_
  intro p e s m args below meth c s₁ B hml hv
  obtain ⟨rfl, hsz, hP, hKX, hD0⟩ := hv
  have hK := hKX.1
  have hx := B.exec
  have hb := B.bytes
  have hr := B.returns
  have hts := atoms_spec (ws := WS yX11_startAnew cX11_startAnew 1 none) B.pre
  have hgd : ∀ w ∈ gd, w ∈ WS yX11_startAnew cX11_startAnew 1 none := fun w h => List.mem_cons_of_mem _ h
  have hg : ∀ w ∈ gd, w.before _ s = true := fun w h => hts w (hgd w h)
  have hown : s.vm.findClass RX11 = some m.cls := findClass_of_methodNamed B.named
  have hlocks := B.notSynchronized
  subst hsz
  have hD := hD0.self (sz := s.heap.size)
  generalize hAe : va_A [(h0, .inr (11, [vrf_ pv, vrf_ w_spare, vrf_ w_tape, vrf_ w_reader, vrf_ ln, vrf_ w_course, vrf_ w_trails, vrf_ w_odds, vrf_ ea, vrf_ si, vrf_ w_lying, .int w_taped, .int w_lie])), (pv, .inr (6, [vrf_ y_length, vrf_ y_inches, vrf_ y_foot, vrf_ y_least, vrf_ y_most, vrf_ y_leap, vrf_ y_slip, vrf_ y_code, vrf_ y_codeEnd, .int y_streets, .int y_walkers, .int y_rules, .int y_units, .int y_coded, .int y_hand, .int y_slack, .int y_draw])), (ln, .inr (3, [vrf_ u_found, vrf_ fo, vrf_ u_values, .int u_top, vrf_ u_paving])), (fo, .inl (k.2.1, 3, .inl g)), (ea, .inr (1, [vrf_ nw, vrf_ kp, vrf_ v_boxes, .int v_full, .int v_done, .int v_undone])), (nw, .inl (k.2.1, 10, .inl f1)), (kp, .inl (k.2.1, 410, .inl f2)), (si, .inr (8, [vrf_ t_walker, vrf_ t_street, vrf_ t_heel, vrf_ t_told, vrf_ t_untold, .int t_count, .int t_time]))] s.heap.size = A at hD ⊢
  have hA : ∀ q : Nat, s.heap.size ≤ q → A q := fun q h => by rw [← hAe]; exact Or.inr h
  have hS : va_S A s.heap s.heap [] := va_S.rf
  have hP : va_P D classes [(h0, .inr (11, [vrf_ pv, vrf_ w_spare, vrf_ w_tape, vrf_ w_reader, vrf_ ln, vrf_ w_course, vrf_ w_trails, vrf_ w_odds, vrf_ ea, vrf_ si, vrf_ w_lying, .int w_taped, .int w_lie])), (pv, .inr (6, [vrf_ y_length, vrf_ y_inches, vrf_ y_foot, vrf_ y_least, vrf_ y_most, vrf_ y_leap, vrf_ y_slip, vrf_ y_code, vrf_ y_codeEnd, .int y_streets, .int y_walkers, .int y_rules, .int y_units, .int y_coded, .int y_hand, .int y_slack, .int y_draw])), (ln, .inr (3, [vrf_ u_found, vrf_ fo, vrf_ u_values, .int u_top, vrf_ u_paving])), (fo, .inl (k.2.1, 3, .inl g)), (ea, .inr (1, [vrf_ nw, vrf_ kp, vrf_ v_boxes, .int v_full, .int v_done, .int v_undone])), (nw, .inl (k.2.1, 10, .inl f1)), (kp, .inl (k.2.1, 410, .inl f2)), (si, .inr (8, [vrf_ t_walker, vrf_ t_street, vrf_ t_heel, vrf_ t_told, vrf_ t_untold, .int t_count, .int t_time]))] s.heap := hP
  have hl := lv_entry ([.ref h0]) (n := 1) (Nat.le_of_ble_eq_true rfl)
  rw [lg_entry_eq]
  generalize (lg_sl ([.ref h0]) ++ List.replicate (1 - (lg_sl ([.ref h0])).length) Slot.unset).toArray = ls at hl ⊢
  have hl : lv_has ls 1 [(0, .ref h0)] := hl
  refine lv_aload_n hx hb dX11_startAnew_0 rfl (lv_at hl 0 rfl) ?_
  refine va_get (D := D) (ci := 11) (v := .ref ln) (C := RX11) (T := TX11) (N := 13) hx hb hg iX11 hown hK hP 0 rfl rfl 4 (by decide) (hg (Cond.fieldLink RX11 37 "SlabWalk" "lines" "LSlabWalk$Lines;") m574) (fun _ h9 => h9) rfl dX11_startAnew_1 ?_
  refine lv_aload_n hx hb dX11_startAnew_4 rfl (lv_at hl 0 rfl) ?_
  refine va_get (D := D) (ci := 11) (v := .ref pv) (C := RX11) (T := TX11) (N := 13) hx hb hg iX11 hown hK hP 0 rfl rfl 0 (by decide) (hg (Cond.fieldLink RX11 10 "SlabWalk" "paving" "LSlabWalk$Paving;") m570) (fun _ h9 => h9) rfl dX11_startAnew_5 ?_
  have hPc := hP.sub (ws' := [(ln, .inr (3, [vrf_ u_found, vrf_ fo, vrf_ u_values, .int u_top, vrf_ u_paving])), (fo, .inl (k.2.1, 3, .inl g))]) [2, 3] rfl
  have hDc := hD.sub (ws' := [(ln, .inr (3, [vrf_ u_found, vrf_ fo, vrf_ u_values, .int u_top, vrf_ u_paving])), (fo, .inl (k.2.1, 3, .inl g))]) [2, 3] (by decide +kernel) rfl
  have hFc := va_free (wc := [(ln, .inr (3, [vrf_ u_found, vrf_ fo, vrf_ u_values, .int u_top, vrf_ u_paving])), (fo, .inl (k.2.1, 3, .inl g))]) hD hS hA [2, 3] rfl
  refine va_callv (va_runV (As := [.ref pv]) (rest := []) ⟨hx, hb, hml, hown, hts⟩ (q_lookAt l D k s.heap.size ln pv u_found fo u_values u_paving u_top g) (cwV 1 hts (gd_V hgd m551 m552 m553 m122 m554) rfl rfl rfl hd_X3_lookAt ⟨Nat.le_of_ble_eq_true rfl, Nat.le_of_ble_eq_true rfl⟩) (cQ_V hPc hKX hDc (ci := 3) (q0 := 0) rfl rfl) rfl rfl hl.1 rfl (lv_room (Nat.le_of_ble_eq_true rfl)) dX11_startAnew_8 ⟨Nat.le_of_ble_eq_true rfl, Nat.le_of_ble_eq_true rfl⟩) hS (fun q _ h => hFc q h) hFc (fun u t H1 locs ht hvm hw hB hz1 hk1 hS => ?_)
  obtain ⟨hP1, hD1⟩ := hB
  rw [ht] at hP1
  obtain ⟨hP, hD⟩ := va_join (wr := [(h0, .inr (11, [vrf_ pv, vrf_ w_spare, vrf_ w_tape, vrf_ w_reader, vrf_ ln, vrf_ w_course, vrf_ w_trails, vrf_ w_odds, vrf_ ea, vrf_ si, vrf_ w_lying, .int w_taped, .int w_lie])), (pv, .inr (6, [vrf_ y_length, vrf_ y_inches, vrf_ y_foot, vrf_ y_least, vrf_ y_most, vrf_ y_leap, vrf_ y_slip, vrf_ y_code, vrf_ y_codeEnd, .int y_streets, .int y_walkers, .int y_rules, .int y_units, .int y_coded, .int y_hand, .int y_slack, .int y_draw])), (ea, .inr (1, [vrf_ nw, vrf_ kp, vrf_ v_boxes, .int v_full, .int v_done, .int v_undone])), (nw, .inl (k.2.1, 10, .inl f1)), (kp, .inl (k.2.1, 410, .inl f2)), (si, .inr (8, [vrf_ t_walker, vrf_ t_street, vrf_ t_heel, vrf_ t_told, vrf_ t_untold, .int t_count, .int t_time]))]) (w1 := [(ln, .inr (3, [vrf_ u_found, vrf_ fo, vrf_ u_values, .int u_top, vrf_ pv])), (fo, .inl (k.2.1, 3, .inl (upd (upd (upd g 0 (-1)) 1 (-1)) 2 (-1))))]) hP hD [2, 3] [0, 1, 4, 5, 6, 7] rfl rfl (by decide +kernel) (by decide +kernel) hk1 hFc hP1 hD1
  generalize H1 = H at hP hS ⊢
  obtain ⟨ws_, hws_, hP, hD⟩ : ∃ w : va_W, w = [(h0, .inr (11, [vrf_ pv, vrf_ w_spare, vrf_ w_tape, vrf_ w_reader, vrf_ ln, vrf_ w_course, vrf_ w_trails, vrf_ w_odds, vrf_ ea, vrf_ si, vrf_ w_lying, .int w_taped, .int w_lie])), (pv, .inr (6, [vrf_ y_length, vrf_ y_inches, vrf_ y_foot, vrf_ y_least, vrf_ y_most, vrf_ y_leap, vrf_ y_slip, vrf_ y_code, vrf_ y_codeEnd, .int y_streets, .int y_walkers, .int y_rules, .int y_units, .int y_coded, .int y_hand, .int y_slack, .int y_draw])), (ea, .inr (1, [vrf_ nw, vrf_ kp, vrf_ v_boxes, .int v_full, .int v_done, .int v_undone])), (nw, .inl (k.2.1, 10, .inl f1)), (kp, .inl (k.2.1, 410, .inl f2)), (si, .inr (8, [vrf_ t_walker, vrf_ t_street, vrf_ t_heel, vrf_ t_told, vrf_ t_untold, .int t_count, .int t_time])), (ln, .inr (3, [vrf_ u_found, vrf_ fo, vrf_ u_values, .int u_top, vrf_ pv])), (fo, .inl (k.2.1, 3, .inl (upd (upd (upd g 0 (-1)) 1 (-1)) 2 (-1))))] ∧ va_P D classes w H ∧ va_D A w := ⟨_, rfl, hP, hD⟩
  subst hws_
  refine W.widen (k := 0) (n := 0) (Nat.le_of_ble_eq_true rfl) (Nat.le_of_ble_eq_true rfl) ?_
  refine lv_aload_n hx hb dX11_startAnew_11 rfl (lv_at hl 0 rfl) ?_
  refine va_get (D := D) (ci := 11) (v := .ref ea) (C := RX11) (T := TX11) (N := 13) hx hb hg iX11 hown hK hP 0 rfl rfl 8 (by decide) (hg (Cond.fieldLink RX11 65 "SlabWalk" "earnest" "LSlabWalk$Earnest;") m578) (fun _ h9 => h9) rfl dX11_startAnew_12 ?_
  refine lv_aload_n hx hb dX11_startAnew_15 rfl (lv_at hl 0 rfl) ?_
  refine va_get (D := D) (ci := 11) (v := .ref pv) (C := RX11) (T := TX11) (N := 13) hx hb hg iX11 hown hK hP 0 rfl rfl 0 (by decide) (hg (Cond.fieldLink RX11 10 "SlabWalk" "paving" "LSlabWalk$Paving;") m570) (fun _ h9 => h9) rfl dX11_startAnew_16 ?_
  refine va_get (D := D) (ci := 6) (v := .int y_draw) (C := RX6) (T := TX6) (N := 17) hx hb hg iX6 hown hK hP 1 rfl rfl 16 (by decide) (hg (Cond.fieldLink RX11 323 "SlabWalk$Paving" "draw" "I") m209) (fun _ h9 => h9) rfl dX11_startAnew_19 ?_
  have hPc := hP.sub (ws' := [(ea, .inr (1, [vrf_ nw, vrf_ kp, vrf_ v_boxes, .int v_full, .int v_done, .int v_undone])), (nw, .inl (k.2.1, 10, .inl f1)), (kp, .inl (k.2.1, 410, .inl f2))]) [2, 3, 4] rfl
  have hDc := hD.sub (ws' := [(ea, .inr (1, [vrf_ nw, vrf_ kp, vrf_ v_boxes, .int v_full, .int v_done, .int v_undone])), (nw, .inl (k.2.1, 10, .inl f1)), (kp, .inl (k.2.1, 410, .inl f2))]) [2, 3, 4] (by decide +kernel) rfl
  have hFc := va_free (wc := [(ea, .inr (1, [vrf_ nw, vrf_ kp, vrf_ v_boxes, .int v_full, .int v_done, .int v_undone])), (nw, .inl (k.2.1, 10, .inl f1)), (kp, .inl (k.2.1, 410, .inl f2))]) hD hS hA [2, 3, 4] rfl
  refine va_callv (va_runV (As := [.int y_draw]) (rest := []) ⟨hx, hb, hml, hown, hts⟩ (q_anewE l D k H.size ea nw kp v_boxes y_draw v_full v_done v_undone f1 f2) (cwV 1 hts (gd_V hgd m558 m559 m560 m127 m561) rfl rfl rfl hd_X1_startAnew ⟨Nat.le_of_ble_eq_true rfl, Nat.le_of_ble_eq_true rfl⟩) (cQ_V hPc hKX hDc (ci := 1) (q0 := 0) rfl rfl) rfl rfl hl.1 rfl (lv_room (Nat.le_of_ble_eq_true rfl)) dX11_startAnew_22 ⟨Nat.le_of_ble_eq_true rfl, Nat.le_of_ble_eq_true rfl⟩) hS (fun q _ h => hFc q h) hFc (fun u t H1 locs ht hvm hw hB hz1 hk1 hS => ?_)
  obtain ⟨hP1, hD1⟩ := hB
  rw [ht] at hP1
  obtain ⟨hP, hD⟩ := va_join (wr := [(h0, .inr (11, [vrf_ pv, vrf_ w_spare, vrf_ w_tape, vrf_ w_reader, vrf_ ln, vrf_ w_course, vrf_ w_trails, vrf_ w_odds, vrf_ ea, vrf_ si, vrf_ w_lying, .int w_taped, .int w_lie])), (pv, .inr (6, [vrf_ y_length, vrf_ y_inches, vrf_ y_foot, vrf_ y_least, vrf_ y_most, vrf_ y_leap, vrf_ y_slip, vrf_ y_code, vrf_ y_codeEnd, .int y_streets, .int y_walkers, .int y_rules, .int y_units, .int y_coded, .int y_hand, .int y_slack, .int y_draw])), (si, .inr (8, [vrf_ t_walker, vrf_ t_street, vrf_ t_heel, vrf_ t_told, vrf_ t_untold, .int t_count, .int t_time])), (ln, .inr (3, [vrf_ u_found, vrf_ fo, vrf_ u_values, .int u_top, vrf_ pv])), (fo, .inl (k.2.1, 3, .inl (upd (upd (upd g 0 (-1)) 1 (-1)) 2 (-1))))]) (w1 := [(ea, .inr (1, [vrf_ nw, vrf_ kp, vrf_ v_boxes, vi0_, vi0_, vi0_])), (nw, .inl (k.2.1, 10, .inl (upd (upd (upd (upd (upd (upd (upd (upd (upd (upd (upd (upd f1 0 0) 1 0) 2 0) 3 0) 4 0) 5 0) 6 0) 7 0) 8 0) 9 0) 0 (-1)) 7 y_draw))), (kp, .inl (k.2.1, 410, .inl (va_cpy (upd (upd (upd (upd (upd (upd (upd (upd (upd (upd (upd (upd f1 0 0) 1 0) 2 0) 3 0) 4 0) 5 0) 6 0) 7 0) 8 0) 9 0) 0 (-1)) 7 y_draw) f2 (0 : Int32).toNatClampNeg (0 : Int32).toNatClampNeg (10 : Int32).toNatClampNeg)))]) hP hD [2, 3, 4] [0, 1, 5, 6, 7] rfl rfl (by decide +kernel) (by decide +kernel) hk1 hFc hP1 hD1
  generalize H1 = H at hP hS ⊢
  obtain ⟨ws_, hws_, hP, hD⟩ : ∃ w : va_W, w = [(h0, .inr (11, [vrf_ pv, vrf_ w_spare, vrf_ w_tape, vrf_ w_reader, vrf_ ln, vrf_ w_course, vrf_ w_trails, vrf_ w_odds, vrf_ ea, vrf_ si, vrf_ w_lying, .int w_taped, .int w_lie])), (pv, .inr (6, [vrf_ y_length, vrf_ y_inches, vrf_ y_foot, vrf_ y_least, vrf_ y_most, vrf_ y_leap, vrf_ y_slip, vrf_ y_code, vrf_ y_codeEnd, .int y_streets, .int y_walkers, .int y_rules, .int y_units, .int y_coded, .int y_hand, .int y_slack, .int y_draw])), (si, .inr (8, [vrf_ t_walker, vrf_ t_street, vrf_ t_heel, vrf_ t_told, vrf_ t_untold, .int t_count, .int t_time])), (ln, .inr (3, [vrf_ u_found, vrf_ fo, vrf_ u_values, .int u_top, vrf_ pv])), (fo, .inl (k.2.1, 3, .inl (upd (upd (upd g 0 (-1)) 1 (-1)) 2 (-1)))), (ea, .inr (1, [vrf_ nw, vrf_ kp, vrf_ v_boxes, vi0_, vi0_, vi0_])), (nw, .inl (k.2.1, 10, .inl (upd (upd (upd (upd (upd (upd (upd (upd (upd (upd (upd (upd f1 0 0) 1 0) 2 0) 3 0) 4 0) 5 0) 6 0) 7 0) 8 0) 9 0) 0 (-1)) 7 y_draw))), (kp, .inl (k.2.1, 410, .inl (va_cpy (upd (upd (upd (upd (upd (upd (upd (upd (upd (upd (upd (upd f1 0 0) 1 0) 2 0) 3 0) 4 0) 5 0) 6 0) 7 0) 8 0) 9 0) 0 (-1)) 7 y_draw) f2 (0 : Int32).toNatClampNeg (0 : Int32).toNatClampNeg (10 : Int32).toNatClampNeg)))] ∧ va_P D classes w H ∧ va_D A w := ⟨_, rfl, hP, hD⟩
  subst hws_
  refine W.widen (k := 0) (n := 0) (Nat.le_of_ble_eq_true rfl) (Nat.le_of_ble_eq_true rfl) ?_
  refine lv_aload_n hx hb dX11_startAnew_25 rfl (lv_at hl 0 rfl) ?_
  refine va_get (D := D) (ci := 11) (v := .ref si) (C := RX11) (T := TX11) (N := 13) hx hb hg iX11 hown hK hP 0 rfl rfl 9 (by decide) (hg (Cond.fieldLink RX11 72 "SlabWalk" "sights" "LSlabWalk$Sights;") m579) (fun _ h9 => h9) rfl dX11_startAnew_26 ?_
  refine lv_iconst (v := 0) hx hb dX11_startAnew_29 (by decide) ?_
  refine va_put (D := D) (ci := 8) (v := .int 0) (ty := .int) (C := RX8) (T := TX8) (N := 7) hx hb hg iX8 tyX8 tyX8_ok nmX8 hown hK hP hD hS 2 rfl rfl 5 (by decide) (hg (Cond.fieldLink RX11 285 "SlabWalk$Sights" "count" "I") m529) (fun _ h9 => h9) rfl (by decide +kernel) rfl rfl (Nat.le_of_ble_eq_true rfl) dX11_startAnew_30 (fun H locs hP hD hS => ?_)
  obtain ⟨ws_, hws_, hP, hD⟩ : ∃ w : va_W, w = [(h0, .inr (11, [vrf_ pv, vrf_ w_spare, vrf_ w_tape, vrf_ w_reader, vrf_ ln, vrf_ w_course, vrf_ w_trails, vrf_ w_odds, vrf_ ea, vrf_ si, vrf_ w_lying, .int w_taped, .int w_lie])), (pv, .inr (6, [vrf_ y_length, vrf_ y_inches, vrf_ y_foot, vrf_ y_least, vrf_ y_most, vrf_ y_leap, vrf_ y_slip, vrf_ y_code, vrf_ y_codeEnd, .int y_streets, .int y_walkers, .int y_rules, .int y_units, .int y_coded, .int y_hand, .int y_slack, .int y_draw])), (si, .inr (8, [vrf_ t_walker, vrf_ t_street, vrf_ t_heel, vrf_ t_told, vrf_ t_untold, vi0_, .int t_time])), (ln, .inr (3, [vrf_ u_found, vrf_ fo, vrf_ u_values, .int u_top, vrf_ pv])), (fo, .inl (k.2.1, 3, .inl (upd (upd (upd g 0 (-1)) 1 (-1)) 2 (-1)))), (ea, .inr (1, [vrf_ nw, vrf_ kp, vrf_ v_boxes, vi0_, vi0_, vi0_])), (nw, .inl (k.2.1, 10, .inl (upd (upd (upd (upd (upd (upd (upd (upd (upd (upd (upd (upd f1 0 0) 1 0) 2 0) 3 0) 4 0) 5 0) 6 0) 7 0) 8 0) 9 0) 0 (-1)) 7 y_draw))), (kp, .inl (k.2.1, 410, .inl (va_cpy (upd (upd (upd (upd (upd (upd (upd (upd (upd (upd (upd (upd f1 0 0) 1 0) 2 0) 3 0) 4 0) 5 0) 6 0) 7 0) 8 0) 9 0) 0 (-1)) 7 y_draw) f2 (0 : Int32).toNatClampNeg (0 : Int32).toNatClampNeg (10 : Int32).toNatClampNeg)))] ∧ va_P D classes w H ∧ va_D A w := ⟨_, rfl, hP, hD⟩
  subst hws_
  refine lv_aload_n hx hb dX11_startAnew_33 rfl (lv_at hl 0 rfl) ?_
  refine lv_iconst (v := 0) hx hb dX11_startAnew_34 (by decide) ?_
  refine va_put (D := D) (ci := 11) (v := .int 0) (ty := .int) (C := RX11) (T := TX11) (N := 13) hx hb hg iX11 tyX11 tyX11_ok nmX11 hown hK hP hD hS 0 rfl rfl 12 (by decide) (hg (Cond.fieldLink RX11 150 "SlabWalk" "lie" "I") m582) (fun _ h9 => h9) rfl (by decide +kernel) rfl rfl (Nat.le_of_ble_eq_true rfl) dX11_startAnew_35 (fun H locs hP hD hS => ?_)
  obtain ⟨ws_, hws_, hP, hD⟩ : ∃ w : va_W, w = [(h0, .inr (11, [vrf_ pv, vrf_ w_spare, vrf_ w_tape, vrf_ w_reader, vrf_ ln, vrf_ w_course, vrf_ w_trails, vrf_ w_odds, vrf_ ea, vrf_ si, vrf_ w_lying, .int w_taped, vi0_])), (pv, .inr (6, [vrf_ y_length, vrf_ y_inches, vrf_ y_foot, vrf_ y_least, vrf_ y_most, vrf_ y_leap, vrf_ y_slip, vrf_ y_code, vrf_ y_codeEnd, .int y_streets, .int y_walkers, .int y_rules, .int y_units, .int y_coded, .int y_hand, .int y_slack, .int y_draw])), (si, .inr (8, [vrf_ t_walker, vrf_ t_street, vrf_ t_heel, vrf_ t_told, vrf_ t_untold, vi0_, .int t_time])), (ln, .inr (3, [vrf_ u_found, vrf_ fo, vrf_ u_values, .int u_top, vrf_ pv])), (fo, .inl (k.2.1, 3, .inl (upd (upd (upd g 0 (-1)) 1 (-1)) 2 (-1)))), (ea, .inr (1, [vrf_ nw, vrf_ kp, vrf_ v_boxes, vi0_, vi0_, vi0_])), (nw, .inl (k.2.1, 10, .inl (upd (upd (upd (upd (upd (upd (upd (upd (upd (upd (upd (upd f1 0 0) 1 0) 2 0) 3 0) 4 0) 5 0) 6 0) 7 0) 8 0) 9 0) 0 (-1)) 7 y_draw))), (kp, .inl (k.2.1, 410, .inl (va_cpy (upd (upd (upd (upd (upd (upd (upd (upd (upd (upd (upd (upd f1 0 0) 1 0) 2 0) 3 0) 4 0) 5 0) 6 0) 7 0) 8 0) 9 0) 0 (-1)) 7 y_draw) f2 (0 : Int32).toNatClampNeg (0 : Int32).toNatClampNeg (10 : Int32).toNatClampNeg)))] ∧ va_P D classes w H ∧ va_D A w := ⟨_, rfl, hP, hD⟩
  subst hws_
  exact W.vret hx hb hr (fun t ht hW => ⟨⟨(), rfl, trivial, cB_of ht hP hD⟩, hS.F ht⟩) hS.2.2 dX11_startAnew_38
