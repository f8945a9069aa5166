

set_option maxHeartbeats 4000000 in
set_option maxRecDepth 100000 in
theorem q_X10 (l : Launch) (D : va_G) (k : KT) (sz : Nat) (h0 : Nat)  : Met l yX10_init (WS yX10_init cX10_init 1 none) ({ frames := 2, cells := 13, slots := 3348, locals := 32 }) (va_Pc [.ref h0] (cQ D k [(h0, .inr (10, [.null, .null, .null, .null, .null]))] sz)) (va_Qv (fun _ : Unit => True) (fun (_ : Unit) t => ∃ (q_1 : Nat), ∃ (q_2 : Nat), ∃ (q_5 : Nat), ∃ (q_8 : Nat), ∃ (q_9 : Nat), ∃ (z_3 : Nat), ∃ (z_4 : Nat), ∃ (z_6 : Nat), ∃ (z_7 : Nat), cB D (va_A [(h0, .inr (10, [.null, .null, .null, .null, .null]))] sz) [(h0, .inr (10, [.ref q_1, .ref q_2, .ref q_5, .ref q_8, .ref q_9])), (q_1, .inl (k.2.2.2.2, 4, .inr (.inr (.inr (.inr (fun i => some (q_1 + 1 + i))))))), ((q_1 + 1), .inl (k.2.1, 402, .inl (fun _ => 0))), ((q_1 + 2), .inl (k.2.1, 402, .inl (fun _ => 0))), ((q_1 + 3), .inl (k.2.1, 402, .inl (fun _ => 0))), ((q_1 + 4), .inl (k.2.1, 402, .inl (fun _ => 0))), (q_2, .inr (4, [.ref z_3, .ref z_4, .int 0, .int 0])), (z_3, .inl (k.2.1, 400, .inl (fun _ => 0))), (z_4, .inl (k.2.1, 400, .inl (fun _ => 0))), (q_5, .inr (4, [.ref z_6, .ref z_7, .int 0, .int 0])), (z_6, .inl (k.2.1, 400, .inl (fun _ => 0))), (z_7, .inl (k.2.1, 400, .inl (fun _ => 0))), (q_8, .inl (k.2.1, 64, .inl (fun _ => 0))), (q_9, .inl (k.2.2.2.1, 64, .inl (fun _ => 0)))] t) (va_A [(h0, .inr (10, [.null, .null, .null, .null, .null]))] sz)) 13 3348 (va_A [(h0, .inr (10, [.null, .null, .null, .null, .null]))] sz) := by
  refine Met.ofW (cc := cX10_init) (maxL := 1) (ret := none) (by decide) rfl ?_
  intro p e s m args below meth c s₁ B hml hv
  obtain ⟨rfl, hsz, hP, hKX, hD0⟩ := hv
  have hK := hKX.1
  have hx := B.exec
  have hb := B.bytes
  have hr := B.returns
  have hts := atoms_spec (ws := WS yX10_init cX10_init 1 none) B.pre
  have hgd : ∀ w ∈ gd, w ∈ WS yX10_init cX10_init 1 none := fun w h => List.mem_cons_of_mem _ h
  have hg : ∀ w ∈ gd, w.before _ s = true := fun w h => hts w (hgd w h)
  have hown : s.vm.findClass RX10 = some m.cls := findClass_of_methodNamed B.named
  have hlocks := B.notSynchronized
  have hin : meth.name = "<init>" := (name_of_methodNamed B.named B.method).1
  subst hsz
  have hD := hD0.self (sz := s.heap.size)
  generalize hAe : va_A [(h0, .inr (10, [.null, .null, .null, .null, .null]))] s.heap.size = A at hD ⊢
  have hA : ∀ q : Nat, s.heap.size ≤ q → A q := fun q h => by rw [← hAe]; exact Or.inr h
  have hS : va_S A s.heap s.heap [] := va_S.rf
  have hP : va_P D classes [(h0, .inr (10, [.null, .null, .null, .null, .null]))] s.heap := hP
  have hl := lv_entry ([.ref h0]) (n := 1) (Nat.le_of_ble_eq_true rfl)
  rw [lg_entry_eq]
  generalize (lg_sl ([.ref h0]) ++ List.replicate (1 - (lg_sl ([.ref h0])).length) Slot.unset).toArray = ls at hl ⊢
  have hl : lv_has ls 1 [(0, .ref h0)] := hl
  refine lv_aload_n hx hb dX10_init_0 rfl (lv_at hl 0 rfl) ?_
  refine W.objInit hx hb hown (hg (Cond.methodLink RX10 3 objectInit) m418) (hg (Cond.instanceMethod objectInit) m144) (hg (Cond.code objectInit ⟨#[0xb1]⟩ 1 none) m145) rfl (by rw [hml]; exact hl.1) rfl dX10_init_1 (Nat.le_of_ble_eq_true rfl) (Nat.le_of_ble_eq_true rfl) ?_
  refine W.eq (g2 := F0 m 4 ls []) rfl ?_
  refine lv_aload_n hx hb dX10_init_4 rfl (lv_at hl 0 rfl) ?_
  refine lv_iconst (v := 4) hx hb dX10_init_5 (by decide) ?_
  refine lv_sipush (v := 402) hx hb dX10_init_6 (by decide) ?_
  refine va_mnaR hx hb hown (hg (Cond.classLink RX10 11 "[[I") m419) hKX.2.1 (hg (Cond.arrayClass .int) m245) (hK.2 4 _ rfl).2 (hK.2 1 _ rfl).2 hP hD hS hA (Nat.le_of_ble_eq_true rfl) (Nat.le_of_ble_eq_true rfl) dX10_init_9 (fun q_1 H hP hD hS => ?_)
  have hP : va_P D classes [(h0, .inr (10, [.null, .null, .null, .null, .null])), (q_1, .inl (k.2.2.2.2, 4, .inr (.inr (.inr (.inr (fun i => some (q_1 + 1 + i))))))), ((q_1 + 1), .inl (k.2.1, 402, .inl (fun _ => 0))), ((q_1 + 2), .inl (k.2.1, 402, .inl (fun _ => 0))), ((q_1 + 3), .inl (k.2.1, 402, .inl (fun _ => 0))), ((q_1 + 4), .inl (k.2.1, 402, .inl (fun _ => 0)))] H := hP
  have hD : va_D A [(h0, .inr (10, [.null, .null, .null, .null, .null])), (q_1, .inl (k.2.2.2.2, 4, .inr (.inr (.inr (.inr (fun i => some (q_1 + 1 + i))))))), ((q_1 + 1), .inl (k.2.1, 402, .inl (fun _ => 0))), ((q_1 + 2), .inl (k.2.1, 402, .inl (fun _ => 0))), ((q_1 + 3), .inl (k.2.1, 402, .inl (fun _ => 0))), ((q_1 + 4), .inl (k.2.1, 402, .inl (fun _ => 0)))] := hD
  refine W.widen (k := 5) (n := 1612) (Nat.le_of_ble_eq_true rfl) (Nat.le_of_ble_eq_true rfl) ?_
  refine va_putF (D := D) (ci := 10) (v := .ref q_1) (ty := (.array (.array .int))) (C := RX10) (T := TX10) (N := 5) hx hb hg iX10 tyX10 tyX10_ok nmX10 hown hK hP hD hS 0 rfl rfl 0 (by decide) (hg (Cond.fieldLink RX10 13 "SlabWalk$Trails" "rows" "[[I") m440) (fun _ h9 => h9) rfl hin rfl (by decide +kernel) rfl rfl (Nat.le_of_ble_eq_true rfl) dX10_init_13 (fun H locs hP hD hS => ?_)
  have hP : va_P D classes [(h0, .inr (10, [.ref q_1, .null, .null, .null, .null])), (q_1, .inl (k.2.2.2.2, 4, .inr (.inr (.inr (.inr (fun i => some (q_1 + 1 + i))))))), ((q_1 + 1), .inl (k.2.1, 402, .inl (fun _ => 0))), ((q_1 + 2), .inl (k.2.1, 402, .inl (fun _ => 0))), ((q_1 + 3), .inl (k.2.1, 402, .inl (fun _ => 0))), ((q_1 + 4), .inl (k.2.1, 402, .inl (fun _ => 0)))] H := hP
  have hD : va_D A [(h0, .inr (10, [.ref q_1, .null, .null, .null, .null])), (q_1, .inl (k.2.2.2.2, 4, .inr (.inr (.inr (.inr (fun i => some (q_1 + 1 + i))))))), ((q_1 + 1), .inl (k.2.1, 402, .inl (fun _ => 0))), ((q_1 + 2), .inl (k.2.1, 402, .inl (fun _ => 0))), ((q_1 + 3), .inl (k.2.1, 402, .inl (fun _ => 0))), ((q_1 + 4), .inl (k.2.1, 402, .inl (fun _ => 0)))] := hD
  refine lv_aload_n hx hb dX10_init_16 rfl (lv_at hl 0 rfl) ?_
  refine va_new (ci := 4) (fs := [.null, .null, .int 0, .int 0]) (C := RX4) (T := TX4) (N := 4) hx hb hg iX4 tyX4 tyX4_ok hown (hg (Cond.classLink RX10 16 RX4) m421) (hg (Cond.instantiable RX4 4) m422) (hg (Cond.initialized RX4) m125) hK hP hD hS hA rfl (by decide) (Nat.le_of_ble_eq_true rfl) (Nat.le_of_ble_eq_true rfl) dX10_init_17 (fun q_2 H hP hD hS => ?_)
  have hP : va_P D classes [(h0, .inr (10, [.ref q_1, .null, .null, .null, .null])), (q_1, .inl (k.2.2.2.2, 4, .inr (.inr (.inr (.inr (fun i => some (q_1 + 1 + i))))))), ((q_1 + 1), .inl (k.2.1, 402, .inl (fun _ => 0))), ((q_1 + 2), .inl (k.2.1, 402, .inl (fun _ => 0))), ((q_1 + 3), .inl (k.2.1, 402, .inl (fun _ => 0))), ((q_1 + 4), .inl (k.2.1, 402, .inl (fun _ => 0))), (q_2, .inr (4, [.null, .null, .int 0, .int 0]))] H := hP
  have hD : va_D A [(h0, .inr (10, [.ref q_1, .null, .null, .null, .null])), (q_1, .inl (k.2.2.2.2, 4, .inr (.inr (.inr (.inr (fun i => some (q_1 + 1 + i))))))), ((q_1 + 1), .inl (k.2.1, 402, .inl (fun _ => 0))), ((q_1 + 2), .inl (k.2.1, 402, .inl (fun _ => 0))), ((q_1 + 3), .inl (k.2.1, 402, .inl (fun _ => 0))), ((q_1 + 4), .inl (k.2.1, 402, .inl (fun _ => 0))), (q_2, .inr (4, [.null, .null, .int 0, .int 0]))] := hD
  refine W.widen (k := 6) (n := 1616) (Nat.le_of_ble_eq_true rfl) (Nat.le_of_ble_eq_true rfl) ?_
  refine lv_dup hx hb dX10_init_20 rfl ?_
  have hPc := hP.sub (ws' := [(q_2, .inr (4, [.null, .null, .int 0, .int 0]))]) [6] rfl
  have hDc := hD.sub (ws' := [(q_2, .inr (4, [.null, .null, .int 0, .int 0]))]) [6] (by decide +kernel) rfl
  have hFc := va_free (wc := [(q_2, .inr (4, [.null, .null, .int 0, .int 0]))]) hD hS hA [6] rfl
  refine va_callv (va_runIN (As := []) (rest := [.ref q_2, .ref h0]) ⟨hx, hb, hml, hown, hts⟩ (q_X4 l D k H.size q_2) ⟨va_cnB 0 hts (gd_in hgd (gd_WS m425)) rfl rfl rfl hKX.2.2.2.2.1 (hg (Cond.initialized RX4) m125) (by decide +kernel) ⟨Nat.le_of_ble_eq_true rfl, Nat.le_of_ble_eq_true rfl⟩, rfl, (hg (Cond.instanceMethod yX4_init) m424)⟩ (cQ_S hPc hKX hDc) rfl rfl hl.1 rfl (lv_room (Nat.le_of_ble_eq_true rfl)) dX10_init_21 ⟨Nat.le_of_ble_eq_true rfl, Nat.le_of_ble_eq_true rfl⟩) hS (fun q _ h => hFc q h) hFc (fun u t H1 locs ht hvm hw hB hz1 hk1 hS => ?_)
  obtain ⟨z_3, z_4, hP1, hD1⟩ := hB
  rw [ht] at hP1
  obtain ⟨hP, hD⟩ := va_join (wr := [(h0, .inr (10, [.ref q_1, .null, .null, .null, .null])), (q_1, .inl (k.2.2.2.2, 4, .inr (.inr (.inr (.inr (fun i => some (q_1 + 1 + i))))))), ((q_1 + 1), .inl (k.2.1, 402, .inl (fun _ => 0))), ((q_1 + 2), .inl (k.2.1, 402, .inl (fun _ => 0))), ((q_1 + 3), .inl (k.2.1, 402, .inl (fun _ => 0))), ((q_1 + 4), .inl (k.2.1, 402, .inl (fun _ => 0)))]) (w1 := [(q_2, .inr (4, [.ref z_3, .ref z_4, .int 0, .int 0])), (z_3, .inl (k.2.1, 400, .inl (fun _ => 0))), (z_4, .inl (k.2.1, 400, .inl (fun _ => 0)))]) hP hD [6] [0, 1, 2, 3, 4, 5] rfl rfl (by decide +kernel) (by decide +kernel) hk1 hFc hP1 hD1
  generalize H1 = H at hP hS ⊢
  have hP : va_P D classes [(h0, .inr (10, [.ref q_1, .null, .null, .null, .null])), (q_1, .inl (k.2.2.2.2, 4, .inr (.inr (.inr (.inr (fun i => some (q_1 + 1 + i))))))), ((q_1 + 1), .inl (k.2.1, 402, .inl (fun _ => 0))), ((q_1 + 2), .inl (k.2.1, 402, .inl (fun _ => 0))), ((q_1 + 3), .inl (k.2.1, 402, .inl (fun _ => 0))), ((q_1 + 4), .inl (k.2.1, 402, .inl (fun _ => 0))), (q_2, .inr (4, [.ref z_3, .ref z_4, .int 0, .int 0])), (z_3, .inl (k.2.1, 400, .inl (fun _ => 0))), (z_4, .inl (k.2.1, 400, .inl (fun _ => 0)))] H := hP
  have hD : va_D A [(h0, .inr (10, [.ref q_1, .null, .null, .null, .null])), (q_1, .inl (k.2.2.2.2, 4, .inr (.inr (.inr (.inr (fun i => some (q_1 + 1 + i))))))), ((q_1 + 1), .inl (k.2.1, 402, .inl (fun _ => 0))), ((q_1 + 2), .inl (k.2.1, 402, .inl (fun _ => 0))), ((q_1 + 3), .inl (k.2.1, 402, .inl (fun _ => 0))), ((q_1 + 4), .inl (k.2.1, 402, .inl (fun _ => 0))), (q_2, .inr (4, [.ref z_3, .ref z_4, .int 0, .int 0])), (z_3, .inl (k.2.1, 400, .inl (fun _ => 0))), (z_4, .inl (k.2.1, 400, .inl (fun _ => 0)))] := hD
  refine W.widen (k := 8) (n := 2416) (Nat.le_of_ble_eq_true rfl) (Nat.le_of_ble_eq_true rfl) ?_
  refine va_putF (D := D) (ci := 10) (v := .ref q_2) (ty := (.object "SlabWalk$Minima")) (C := RX10) (T := TX10) (N := 5) hx hb hg iX10 tyX10 tyX10_ok nmX10 hown hK hP hD hS 0 rfl rfl 1 (by decide) (hg (Cond.fieldLink RX10 19 "SlabWalk$Trails" "steps" "LSlabWalk$Minima;") m441) (fun _ h9 => h9) rfl hin rfl (by decide +kernel) rfl rfl (Nat.le_of_ble_eq_true rfl) dX10_init_24 (fun H locs hP hD hS => ?_)
  have hP : va_P D classes [(h0, .inr (10, [.ref q_1, .ref q_2, .null, .null, .null])), (q_1, .inl (k.2.2.2.2, 4, .inr (.inr (.inr (.inr (fun i => some (q_1 + 1 + i))))))), ((q_1 + 1), .inl (k.2.1, 402, .inl (fun _ => 0))), ((q_1 + 2), .inl (k.2.1, 402, .inl (fun _ => 0))), ((q_1 + 3), .inl (k.2.1, 402, .inl (fun _ => 0))), ((q_1 + 4), .inl (k.2.1, 402, .inl (fun _ => 0))), (q_2, .inr (4, [.ref z_3, .ref z_4, .int 0, .int 0])), (z_3, .inl (k.2.1, 400, .inl (fun _ => 0))), (z_4, .inl (k.2.1, 400, .inl (fun _ => 0)))] H := hP
  have hD : va_D A [(h0, .inr (10, [.ref q_1, .ref q_2, .null, .null, .null])), (q_1, .inl (k.2.2.2.2, 4, .inr (.inr (.inr (.inr (fun i => some (q_1 + 1 + i))))))), ((q_1 + 1), .inl (k.2.1, 402, .inl (fun _ => 0))), ((q_1 + 2), .inl (k.2.1, 402, .inl (fun _ => 0))), ((q_1 + 3), .inl (k.2.1, 402, .inl (fun _ => 0))), ((q_1 + 4), .inl (k.2.1, 402, .inl (fun _ => 0))), (q_2, .inr (4, [.ref z_3, .ref z_4, .int 0, .int 0])), (z_3, .inl (k.2.1, 400, .inl (fun _ => 0))), (z_4, .inl (k.2.1, 400, .inl (fun _ => 0)))] := hD
  refine lv_aload_n hx hb dX10_init_27 rfl (lv_at hl 0 rfl) ?_
  refine va_new (ci := 4) (fs := [.null, .null, .int 0, .int 0]) (C := RX4) (T := TX4) (N := 4) hx hb hg iX4 tyX4 tyX4_ok hown (hg (Cond.classLink RX10 16 RX4) m421) (hg (Cond.instantiable RX4 4) m422) (hg (Cond.initialized RX4) m125) hK hP hD hS hA rfl (by decide) (Nat.le_of_ble_eq_true rfl) (Nat.le_of_ble_eq_true rfl) dX10_init_28 (fun q_5 H hP hD hS => ?_)
  have hP : va_P D classes [(h0, .inr (10, [.ref q_1, .ref q_2, .null, .null, .null])), (q_1, .inl (k.2.2.2.2, 4, .inr (.inr (.inr (.inr (fun i => some (q_1 + 1 + i))))))), ((q_1 + 1), .inl (k.2.1, 402, .inl (fun _ => 0))), ((q_1 + 2), .inl (k.2.1, 402, .inl (fun _ => 0))), ((q_1 + 3), .inl (k.2.1, 402, .inl (fun _ => 0))), ((q_1 + 4), .inl (k.2.1, 402, .inl (fun _ => 0))), (q_2, .inr (4, [.ref z_3, .ref z_4, .int 0, .int 0])), (z_3, .inl (k.2.1, 400, .inl (fun _ => 0))), (z_4, .inl (k.2.1, 400, .inl (fun _ => 0))), (q_5, .inr (4, [.null, .null, .int 0, .int 0]))] H := hP
  have hD : va_D A [(h0, .inr (10, [.ref q_1, .ref q_2, .null, .null, .null])), (q_1, .inl (k.2.2.2.2, 4, .inr (.inr (.inr (.inr (fun i => some (q_1 + 1 + i))))))), ((q_1 + 1), .inl (k.2.1, 402, .inl (fun _ => 0))), ((q_1 + 2), .inl (k.2.1, 402, .inl (fun _ => 0))), ((q_1 + 3), .inl (k.2.1, 402, .inl (fun _ => 0))), ((q_1 + 4), .inl (k.2.1, 402, .inl (fun _ => 0))), (q_2, .inr (4, [.ref z_3, .ref z_4, .int 0, .int 0])), (z_3, .inl (k.2.1, 400, .inl (fun _ => 0))), (z_4, .inl (k.2.1, 400, .inl (fun _ => 0))), (q_5, .inr (4, [.null, .null, .int 0, .int 0]))] := hD
  refine W.widen (k := 9) (n := 2420) (Nat.le_of_ble_eq_true rfl) (Nat.le_of_ble_eq_true rfl) ?_
  refine lv_dup hx hb dX10_init_31 rfl ?_
  have hPc := hP.sub (ws' := [(q_5, .inr (4, [.null, .null, .int 0, .int 0]))]) [9] rfl
  have hDc := hD.sub (ws' := [(q_5, .inr (4, [.null, .null, .int 0, .int 0]))]) [9] (by decide +kernel) rfl
  have hFc := va_free (wc := [(q_5, .inr (4, [.null, .null, .int 0, .int 0]))]) hD hS hA [9] rfl
  refine va_callv (va_runIN (As := []) (rest := [.ref q_5, .ref h0]) ⟨hx, hb, hml, hown, hts⟩ (q_X4 l D k H.size q_5) ⟨va_cnB 0 hts (gd_in hgd (gd_WS m425)) rfl rfl rfl hKX.2.2.2.2.1 (hg (Cond.initialized RX4) m125) (by decide +kernel) ⟨Nat.le_of_ble_eq_true rfl, Nat.le_of_ble_eq_true rfl⟩, rfl, (hg (Cond.instanceMethod yX4_init) m424)⟩ (cQ_S hPc hKX hDc) rfl rfl hl.1 rfl (lv_room (Nat.le_of_ble_eq_true rfl)) dX10_init_32 ⟨Nat.le_of_ble_eq_true rfl, Nat.le_of_ble_eq_true rfl⟩) hS (fun q _ h => hFc q h) hFc (fun u t H1 locs ht hvm hw hB hz1 hk1 hS => ?_)
  obtain ⟨z_6, z_7, hP1, hD1⟩ := hB
  rw [ht] at hP1
  obtain ⟨hP, hD⟩ := va_join (wr := [(h0, .inr (10, [.ref q_1, .ref q_2, .null, .null, .null])), (q_1, .inl (k.2.2.2.2, 4, .inr (.inr (.inr (.inr (fun i => some (q_1 + 1 + i))))))), ((q_1 + 1), .inl (k.2.1, 402, .inl (fun _ => 0))), ((q_1 + 2), .inl (k.2.1, 402, .inl (fun _ => 0))), ((q_1 + 3), .inl (k.2.1, 402, .inl (fun _ => 0))), ((q_1 + 4), .inl (k.2.1, 402, .inl (fun _ => 0))), (q_2, .inr (4, [.ref z_3, .ref z_4, .int 0, .int 0])), (z_3, .inl (k.2.1, 400, .inl (fun _ => 0))), (z_4, .inl (k.2.1, 400, .inl (fun _ => 0)))]) (w1 := [(q_5, .inr (4, [.ref z_6, .ref z_7, .int 0, .int 0])), (z_6, .inl (k.2.1, 400, .inl (fun _ => 0))), (z_7, .inl (k.2.1, 400, .inl (fun _ => 0)))]) hP hD [9] [0, 1, 2, 3, 4, 5, 6, 7, 8] rfl rfl (by decide +kernel) (by decide +kernel) hk1 hFc hP1 hD1
  generalize H1 = H at hP hS ⊢
  have hP : va_P D classes [(h0, .inr (10, [.ref q_1, .ref q_2, .null, .null, .null])), (q_1, .inl (k.2.2.2.2, 4, .inr (.inr (.inr (.inr (fun i => some (q_1 + 1 + i))))))), ((q_1 + 1), .inl (k.2.1, 402, .inl (fun _ => 0))), ((q_1 + 2), .inl (k.2.1, 402, .inl (fun _ => 0))), ((q_1 + 3), .inl (k.2.1, 402, .inl (fun _ => 0))), ((q_1 + 4), .inl (k.2.1, 402, .inl (fun _ => 0))), (q_2, .inr (4, [.ref z_3, .ref z_4, .int 0, .int 0])), (z_3, .inl (k.2.1, 400, .inl (fun _ => 0))), (z_4, .inl (k.2.1, 400, .inl (fun _ => 0))), (q_5, .inr (4, [.ref z_6, .ref z_7, .int 0, .int 0])), (z_6, .inl (k.2.1, 400, .inl (fun _ => 0))), (z_7, .inl (k.2.1, 400, .inl (fun _ => 0)))] H := hP
  have hD : va_D A [(h0, .inr (10, [.ref q_1, .ref q_2, .null, .null, .null])), (q_1, .inl (k.2.2.2.2, 4, .inr (.inr (.inr (.inr (fun i => some (q_1 + 1 + i))))))), ((q_1 + 1), .inl (k.2.1, 402, .inl (fun _ => 0))), ((q_1 + 2), .inl (k.2.1, 402, .inl (fun _ => 0))), ((q_1 + 3), .inl (k.2.1, 402, .inl (fun _ => 0))), ((q_1 + 4), .inl (k.2.1, 402, .inl (fun _ => 0))), (q_2, .inr (4, [.ref z_3, .ref z_4, .int 0, .int 0])), (z_3, .inl (k.2.1, 400, .inl (fun _ => 0))), (z_4, .inl (k.2.1, 400, .inl (fun _ => 0))), (q_5, .inr (4, [.ref z_6, .ref z_7, .int 0, .int 0])), (z_6, .inl (k.2.1, 400, .inl (fun _ => 0))), (z_7, .inl (k.2.1, 400, .inl (fun _ => 0)))] := hD
  refine W.widen (k := 11) (n := 3220) (Nat.le_of_ble_eq_true rfl) (Nat.le_of_ble_eq_true rfl) ?_
  refine va_putF (D := D) (ci := 10) (v := .ref q_5) (ty := (.object "SlabWalk$Minima")) (C := RX10) (T := TX10) (N := 5) hx hb hg iX10 tyX10 tyX10_ok nmX10 hown hK hP hD hS 0 rfl rfl 2 (by decide) (hg (Cond.fieldLink RX10 23 "SlabWalk$Trails" "leaps" "LSlabWalk$Minima;") m442) (fun _ h9 => h9) rfl hin rfl (by decide +kernel) rfl rfl (Nat.le_of_ble_eq_true rfl) dX10_init_35 (fun H locs hP hD hS => ?_)
  have hP : va_P D classes [(h0, .inr (10, [.ref q_1, .ref q_2, .ref q_5, .null, .null])), (q_1, .inl (k.2.2.2.2, 4, .inr (.inr (.inr (.inr (fun i => some (q_1 + 1 + i))))))), ((q_1 + 1), .inl (k.2.1, 402, .inl (fun _ => 0))), ((q_1 + 2), .inl (k.2.1, 402, .inl (fun _ => 0))), ((q_1 + 3), .inl (k.2.1, 402, .inl (fun _ => 0))), ((q_1 + 4), .inl (k.2.1, 402, .inl (fun _ => 0))), (q_2, .inr (4, [.ref z_3, .ref z_4, .int 0, .int 0])), (z_3, .inl (k.2.1, 400, .inl (fun _ => 0))), (z_4, .inl (k.2.1, 400, .inl (fun _ => 0))), (q_5, .inr (4, [.ref z_6, .ref z_7, .int 0, .int 0])), (z_6, .inl (k.2.1, 400, .inl (fun _ => 0))), (z_7, .inl (k.2.1, 400, .inl (fun _ => 0)))] H := hP
  have hD : va_D A [(h0, .inr (10, [.ref q_1, .ref q_2, .ref q_5, .null, .null])), (q_1, .inl (k.2.2.2.2, 4, .inr (.inr (.inr (.inr (fun i => some (q_1 + 1 + i))))))), ((q_1 + 1), .inl (k.2.1, 402, .inl (fun _ => 0))), ((q_1 + 2), .inl (k.2.1, 402, .inl (fun _ => 0))), ((q_1 + 3), .inl (k.2.1, 402, .inl (fun _ => 0))), ((q_1 + 4), .inl (k.2.1, 402, .inl (fun _ => 0))), (q_2, .inr (4, [.ref z_3, .ref z_4, .int 0, .int 0])), (z_3, .inl (k.2.1, 400, .inl (fun _ => 0))), (z_4, .inl (k.2.1, 400, .inl (fun _ => 0))), (q_5, .inr (4, [.ref z_6, .ref z_7, .int 0, .int 0])), (z_6, .inl (k.2.1, 400, .inl (fun _ => 0))), (z_7, .inl (k.2.1, 400, .inl (fun _ => 0)))] := hD
  refine lv_aload_n hx hb dX10_init_38 rfl (lv_at hl 0 rfl) ?_
  refine lv_bipush (v := 64) hx hb dX10_init_39 (by decide) ?_
  refine va_newaT (atype := .int) (ty := .int) (a0 := (64, .inl (fun _ => 0))) hx hb (hg (Cond.arrayClass .int) m245) rfl ra_int hK hP hD hS hA 1 rfl (fun _ => rfl) (by decide) (by decide) (Nat.le_of_ble_eq_true rfl) (Nat.le_of_ble_eq_true rfl) (Nat.le_of_ble_eq_true rfl) dX10_init_41 (fun q_8 H hP hD hS => ?_)
  have hP : va_P D classes [(h0, .inr (10, [.ref q_1, .ref q_2, .ref q_5, .null, .null])), (q_1, .inl (k.2.2.2.2, 4, .inr (.inr (.inr (.inr (fun i => some (q_1 + 1 + i))))))), ((q_1 + 1), .inl (k.2.1, 402, .inl (fun _ => 0))), ((q_1 + 2), .inl (k.2.1, 402, .inl (fun _ => 0))), ((q_1 + 3), .inl (k.2.1, 402, .inl (fun _ => 0))), ((q_1 + 4), .inl (k.2.1, 402, .inl (fun _ => 0))), (q_2, .inr (4, [.ref z_3, .ref z_4, .int 0, .int 0])), (z_3, .inl (k.2.1, 400, .inl (fun _ => 0))), (z_4, .inl (k.2.1, 400, .inl (fun _ => 0))), (q_5, .inr (4, [.ref z_6, .ref z_7, .int 0, .int 0])), (z_6, .inl (k.2.1, 400, .inl (fun _ => 0))), (z_7, .inl (k.2.1, 400, .inl (fun _ => 0))), (q_8, .inl (k.2.1, 64, .inl (fun _ => 0)))] H := hP
  have hD : va_D A [(h0, .inr (10, [.ref q_1, .ref q_2, .ref q_5, .null, .null])), (q_1, .inl (k.2.2.2.2, 4, .inr (.inr (.inr (.inr (fun i => some (q_1 + 1 + i))))))), ((q_1 + 1), .inl (k.2.1, 402, .inl (fun _ => 0))), ((q_1 + 2), .inl (k.2.1, 402, .inl (fun _ => 0))), ((q_1 + 3), .inl (k.2.1, 402, .inl (fun _ => 0))), ((q_1 + 4), .inl (k.2.1, 402, .inl (fun _ => 0))), (q_2, .inr (4, [.ref z_3, .ref z_4, .int 0, .int 0])), (z_3, .inl (k.2.1, 400, .inl (fun _ => 0))), (z_4, .inl (k.2.1, 400, .inl (fun _ => 0))), (q_5, .inr (4, [.ref z_6, .ref z_7, .int 0, .int 0])), (z_6, .inl (k.2.1, 400, .inl (fun _ => 0))), (z_7, .inl (k.2.1, 400, .inl (fun _ => 0))), (q_8, .inl (k.2.1, 64, .inl (fun _ => 0)))] := hD
  refine W.widen (k := 12) (n := 3284) (Nat.le_of_ble_eq_true rfl) (Nat.le_of_ble_eq_true rfl) ?_
  refine va_putF (D := D) (ci := 10) (v := .ref q_8) (ty := (.array .int)) (C := RX10) (T := TX10) (N := 5) hx hb hg iX10 tyX10 tyX10_ok nmX10 hown hK hP hD hS 0 rfl rfl 3 (by decide) (hg (Cond.fieldLink RX10 26 "SlabWalk$Trails" "winning" "[I") m443) (fun _ h9 => h9) rfl hin rfl (by decide +kernel) rfl rfl (Nat.le_of_ble_eq_true rfl) dX10_init_43 (fun H locs hP hD hS => ?_)
  have hP : va_P D classes [(h0, .inr (10, [.ref q_1, .ref q_2, .ref q_5, .ref q_8, .null])), (q_1, .inl (k.2.2.2.2, 4, .inr (.inr (.inr (.inr (fun i => some (q_1 + 1 + i))))))), ((q_1 + 1), .inl (k.2.1, 402, .inl (fun _ => 0))), ((q_1 + 2), .inl (k.2.1, 402, .inl (fun _ => 0))), ((q_1 + 3), .inl (k.2.1, 402, .inl (fun _ => 0))), ((q_1 + 4), .inl (k.2.1, 402, .inl (fun _ => 0))), (q_2, .inr (4, [.ref z_3, .ref z_4, .int 0, .int 0])), (z_3, .inl (k.2.1, 400, .inl (fun _ => 0))), (z_4, .inl (k.2.1, 400, .inl (fun _ => 0))), (q_5, .inr (4, [.ref z_6, .ref z_7, .int 0, .int 0])), (z_6, .inl (k.2.1, 400, .inl (fun _ => 0))), (z_7, .inl (k.2.1, 400, .inl (fun _ => 0))), (q_8, .inl (k.2.1, 64, .inl (fun _ => 0)))] H := hP
  have hD : va_D A [(h0, .inr (10, [.ref q_1, .ref q_2, .ref q_5, .ref q_8, .null])), (q_1, .inl (k.2.2.2.2, 4, .inr (.inr (.inr (.inr (fun i => some (q_1 + 1 + i))))))), ((q_1 + 1), .inl (k.2.1, 402, .inl (fun _ => 0))), ((q_1 + 2), .inl (k.2.1, 402, .inl (fun _ => 0))), ((q_1 + 3), .inl (k.2.1, 402, .inl (fun _ => 0))), ((q_1 + 4), .inl (k.2.1, 402, .inl (fun _ => 0))), (q_2, .inr (4, [.ref z_3, .ref z_4, .int 0, .int 0])), (z_3, .inl (k.2.1, 400, .inl (fun _ => 0))), (z_4, .inl (k.2.1, 400, .inl (fun _ => 0))), (q_5, .inr (4, [.ref z_6, .ref z_7, .int 0, .int 0])), (z_6, .inl (k.2.1, 400, .inl (fun _ => 0))), (z_7, .inl (k.2.1, 400, .inl (fun _ => 0))), (q_8, .inl (k.2.1, 64, .inl (fun _ => 0)))] := hD
  refine lv_aload_n hx hb dX10_init_46 rfl (lv_at hl 0 rfl) ?_
  refine lv_bipush (v := 64) hx hb dX10_init_47 (by decide) ?_
  refine va_newaT (atype := .boolean) (ty := .boolean) (a0 := (64, .inl (fun _ => 0))) hx hb (hg (Cond.arrayClass .boolean) m412) rfl ra_boolean hK hP hD hS hA 3 rfl (fun _ => rfl) (by decide) (by decide) (Nat.le_of_ble_eq_true rfl) (Nat.le_of_ble_eq_true rfl) (Nat.le_of_ble_eq_true rfl) dX10_init_49 (fun q_9 H hP hD hS => ?_)
  have hP : va_P D classes [(h0, .inr (10, [.ref q_1, .ref q_2, .ref q_5, .ref q_8, .null])), (q_1, .inl (k.2.2.2.2, 4, .inr (.inr (.inr (.inr (fun i => some (q_1 + 1 + i))))))), ((q_1 + 1), .inl (k.2.1, 402, .inl (fun _ => 0))), ((q_1 + 2), .inl (k.2.1, 402, .inl (fun _ => 0))), ((q_1 + 3), .inl (k.2.1, 402, .inl (fun _ => 0))), ((q_1 + 4), .inl (k.2.1, 402, .inl (fun _ => 0))), (q_2, .inr (4, [.ref z_3, .ref z_4, .int 0, .int 0])), (z_3, .inl (k.2.1, 400, .inl (fun _ => 0))), (z_4, .inl (k.2.1, 400, .inl (fun _ => 0))), (q_5, .inr (4, [.ref z_6, .ref z_7, .int 0, .int 0])), (z_6, .inl (k.2.1, 400, .inl (fun _ => 0))), (z_7, .inl (k.2.1, 400, .inl (fun _ => 0))), (q_8, .inl (k.2.1, 64, .inl (fun _ => 0))), (q_9, .inl (k.2.2.2.1, 64, .inl (fun _ => 0)))] H := hP
  have hD : va_D A [(h0, .inr (10, [.ref q_1, .ref q_2, .ref q_5, .ref q_8, .null])), (q_1, .inl (k.2.2.2.2, 4, .inr (.inr (.inr (.inr (fun i => some (q_1 + 1 + i))))))), ((q_1 + 1), .inl (k.2.1, 402, .inl (fun _ => 0))), ((q_1 + 2), .inl (k.2.1, 402, .inl (fun _ => 0))), ((q_1 + 3), .inl (k.2.1, 402, .inl (fun _ => 0))), ((q_1 + 4), .inl (k.2.1, 402, .inl (fun _ => 0))), (q_2, .inr (4, [.ref z_3, .ref z_4, .int 0, .int 0])), (z_3, .inl (k.2.1, 400, .inl (fun _ => 0))), (z_4, .inl (k.2.1, 400, .inl (fun _ => 0))), (q_5, .inr (4, [.ref z_6, .ref z_7, .int 0, .int 0])), (z_6, .inl (k.2.1, 400, .inl (fun _ => 0))), (z_7, .inl (k.2.1, 400, .inl (fun _ => 0))), (q_8, .inl (k.2.1, 64, .inl (fun _ => 0))), (q_9, .inl (k.2.2.2.1, 64, .inl (fun _ => 0)))] := hD
  refine W.widen (k := 13) (n := 3348) (Nat.le_of_ble_eq_true rfl) (Nat.le_of_ble_eq_true rfl) ?_
  refine va_putF (D := D) (ci := 10) (v := .ref q_9) (ty := (.array .boolean)) (C := RX10) (T := TX10) (N := 5) hx hb hg iX10 tyX10 tyX10_ok nmX10 hown hK hP hD hS 0 rfl rfl 4 (by decide) (hg (Cond.fieldLink RX10 30 "SlabWalk$Trails" "leaving" "[Z") m445) (fun _ h9 => h9) rfl hin rfl (by decide +kernel) rfl rfl (Nat.le_of_ble_eq_true rfl) dX10_init_51 (fun H locs hP hD hS => ?_)
  have hP : va_P D classes [(h0, .inr (10, [.ref q_1, .ref q_2, .ref q_5, .ref q_8, .ref q_9])), (q_1, .inl (k.2.2.2.2, 4, .inr (.inr (.inr (.inr (fun i => some (q_1 + 1 + i))))))), ((q_1 + 1), .inl (k.2.1, 402, .inl (fun _ => 0))), ((q_1 + 2), .inl (k.2.1, 402, .inl (fun _ => 0))), ((q_1 + 3), .inl (k.2.1, 402, .inl (fun _ => 0))), ((q_1 + 4), .inl (k.2.1, 402, .inl (fun _ => 0))), (q_2, .inr (4, [.ref z_3, .ref z_4, .int 0, .int 0])), (z_3, .inl (k.2.1, 400, .inl (fun _ => 0))), (z_4, .inl (k.2.1, 400, .inl (fun _ => 0))), (q_5, .inr (4, [.ref z_6, .ref z_7, .int 0, .int 0])), (z_6, .inl (k.2.1, 400, .inl (fun _ => 0))), (z_7, .inl (k.2.1, 400, .inl (fun _ => 0))), (q_8, .inl (k.2.1, 64, .inl (fun _ => 0))), (q_9, .inl (k.2.2.2.1, 64, .inl (fun _ => 0)))] H := hP
  have hD : va_D A [(h0, .inr (10, [.ref q_1, .ref q_2, .ref q_5, .ref q_8, .ref q_9])), (q_1, .inl (k.2.2.2.2, 4, .inr (.inr (.inr (.inr (fun i => some (q_1 + 1 + i))))))), ((q_1 + 1), .inl (k.2.1, 402, .inl (fun _ => 0))), ((q_1 + 2), .inl (k.2.1, 402, .inl (fun _ => 0))), ((q_1 + 3), .inl (k.2.1, 402, .inl (fun _ => 0))), ((q_1 + 4), .inl (k.2.1, 402, .inl (fun _ => 0))), (q_2, .inr (4, [.ref z_3, .ref z_4, .int 0, .int 0])), (z_3, .inl (k.2.1, 400, .inl (fun _ => 0))), (z_4, .inl (k.2.1, 400, .inl (fun _ => 0))), (q_5, .inr (4, [.ref z_6, .ref z_7, .int 0, .int 0])), (z_6, .inl (k.2.1, 400, .inl (fun _ => 0))), (z_7, .inl (k.2.1, 400, .inl (fun _ => 0))), (q_8, .inl (k.2.1, 64, .inl (fun _ => 0))), (q_9, .inl (k.2.2.2.1, 64, .inl (fun _ => 0)))] := hD
  exact W.vret hx hb hr (fun t ht hW => ⟨⟨(), rfl, trivial, ⟨q_1, q_2, q_5, q_8, q_9, z_3, z_4, z_6, z_7, cB_of ht hP hD⟩⟩, hS.F ht⟩) hS.2.2 dX10_init_54

set_option maxHeartbeats 4000000 in
set_option maxRecDepth 100000 in
theorem q_X5 (l : Launch) (D : va_G) (k : KT) (sz : Nat) (h0 : Nat)  : Met l yX5_init (WS yX5_init cX5_init 1 none) ({ frames := 1, cells := 6, slots := 2424, locals := 12 }) (va_Pc [.ref h0] (cQ D k [(h0, .inr (5, [.null, .null, .null, .null, .null, .null, .int 0]))] sz)) (va_Qv (fun _ : Unit => True) (fun (_ : Unit) t => ∃ (q_1 : Nat), ∃ (q_2 : Nat), ∃ (q_3 : Nat), ∃ (q_4 : Nat), ∃ (q_5 : Nat), ∃ (q_6 : Nat), cB D (va_A [(h0, .inr (5, [.null, .null, .null, .null, .null, .null, .int 0]))] sz) [(h0, .inr (5, [.ref q_1, .ref q_2, .ref q_3, .ref q_4, .ref q_5, .ref q_6, .int 0])), (q_1, .inl (k.2.2.1, 404, .inr (.inl (fun _ => 0)))), (q_2, .inl (k.2.2.1, 404, .inr (.inl (fun _ => 0)))), (q_3, .inl (k.2.2.1, 404, .inr (.inl (fun _ => 0)))), (q_4, .inl (k.2.2.1, 404, .inr (.inl (fun _ => 0)))), (q_5, .inl (k.2.2.1, 404, .inr (.inl (fun _ => 0)))), (q_6, .inl (k.2.2.1, 404, .inr (.inl (fun _ => 0))))] t) (va_A [(h0, .inr (5, [.null, .null, .null, .null, .null, .null, .int 0]))] sz)) 6 2424 (va_A [(h0, .inr (5, [.null, .null, .null, .null, .null, .null, .int 0]))] sz) := by
  refine Met.ofW (cc := cX5_init) (maxL := 1) (ret := none) (by decide) rfl ?_
  intro p e s m args below meth c s₁ B hml hv
  obtain ⟨rfl, hsz, hP, hKX, hD0⟩ := hv
  have hK := hKX.1
  have hx := B.exec
  have hb := B.bytes
  have hr := B.returns
  have hts := atoms_spec (ws := WS yX5_init cX5_init 1 none) B.pre
  have hgd : ∀ w ∈ gd, w ∈ WS yX5_init cX5_init 1 none := fun w h => List.mem_cons_of_mem _ h
  have hg : ∀ w ∈ gd, w.before _ s = true := fun w h => hts w (hgd w h)
  have hown : s.vm.findClass RX5 = some m.cls := findClass_of_methodNamed B.named
  have hlocks := B.notSynchronized
  have hin : meth.name = "<init>" := (name_of_methodNamed B.named B.method).1
  subst hsz
  have hD := hD0.self (sz := s.heap.size)
  generalize hAe : va_A [(h0, .inr (5, [.null, .null, .null, .null, .null, .null, .int 0]))] s.heap.size = A at hD ⊢
  have hA : ∀ q : Nat, s.heap.size ≤ q → A q := fun q h => by rw [← hAe]; exact Or.inr h
  have hS : va_S A s.heap s.heap [] := va_S.rf
  have hP : va_P D classes [(h0, .inr (5, [.null, .null, .null, .null, .null, .null, .int 0]))] s.heap := hP
  have hl := lv_entry ([.ref h0]) (n := 1) (Nat.le_of_ble_eq_true rfl)
  rw [lg_entry_eq]
  generalize (lg_sl ([.ref h0]) ++ List.replicate (1 - (lg_sl ([.ref h0])).length) Slot.unset).toArray = ls at hl ⊢
  have hl : lv_has ls 1 [(0, .ref h0)] := hl
  refine lv_aload_n hx hb dX5_init_0 rfl (lv_at hl 0 rfl) ?_
  refine W.objInit hx hb hown (hg (Cond.methodLink RX5 3 objectInit) m463) (hg (Cond.instanceMethod objectInit) m144) (hg (Cond.code objectInit ⟨#[0xb1]⟩ 1 none) m145) rfl (by rw [hml]; exact hl.1) rfl dX5_init_1 (Nat.le_of_ble_eq_true rfl) (Nat.le_of_ble_eq_true rfl) ?_
  refine W.eq (g2 := F0 m 4 ls []) rfl ?_
  refine lv_aload_n hx hb dX5_init_4 rfl (lv_at hl 0 rfl) ?_
  refine lv_sipush (v := 404) hx hb dX5_init_5 (by decide) ?_
  refine va_newaT (atype := .long) (ty := .long) (a0 := (404, .inr (.inl (fun _ => 0)))) hx hb (hg (Cond.arrayClass .long) m294) rfl ra_long hK hP hD hS hA 2 rfl (fun _ => rfl) (by decide) (by decide) (Nat.le_of_ble_eq_true rfl) (Nat.le_of_ble_eq_true rfl) (Nat.le_of_ble_eq_true rfl) dX5_init_8 (fun q_1 H hP hD hS => ?_)
  have hP : va_P D classes [(h0, .inr (5, [.null, .null, .null, .null, .null, .null, .int 0])), (q_1, .inl (k.2.2.1, 404, .inr (.inl (fun _ => 0))))] H := hP
  have hD : va_D A [(h0, .inr (5, [.null, .null, .null, .null, .null, .null, .int 0])), (q_1, .inl (k.2.2.1, 404, .inr (.inl (fun _ => 0))))] := hD
  refine W.widen (k := 1) (n := 404) (Nat.le_of_ble_eq_true rfl) (Nat.le_of_ble_eq_true rfl) ?_
  refine va_putF (D := D) (ci := 5) (v := .ref q_1) (ty := (.array .long)) (C := RX5) (T := TX5) (N := 7) hx hb hg iX5 tyX5 tyX5_ok nmX5 hown hK hP hD hS 0 rfl rfl 0 (by decide) (hg (Cond.fieldLink RX5 11 "SlabWalk$Odds" "stepped" "[J") m464) (fun _ h9 => h9) rfl hin rfl (by decide +kernel) rfl rfl (Nat.le_of_ble_eq_true rfl) dX5_init_10 (fun H locs hP hD hS => ?_)
  have hP : va_P D classes [(h0, .inr (5, [.ref q_1, .null, .null, .null, .null, .null, .int 0])), (q_1, .inl (k.2.2.1, 404, .inr (.inl (fun _ => 0))))] H := hP
  have hD : va_D A [(h0, .inr (5, [.ref q_1, .null, .null, .null, .null, .null, .int 0])), (q_1, .inl (k.2.2.1, 404, .inr (.inl (fun _ => 0))))] := hD
  refine lv_aload_n hx hb dX5_init_13 rfl (lv_at hl 0 rfl) ?_
  refine lv_sipush (v := 404) hx hb dX5_init_14 (by decide) ?_
  refine va_newaT (atype := .long) (ty := .long) (a0 := (404, .inr (.inl (fun _ => 0)))) hx hb (hg (Cond.arrayClass .long) m294) rfl ra_long hK hP hD hS hA 2 rfl (fun _ => rfl) (by decide) (by decide) (Nat.le_of_ble_eq_true rfl) (Nat.le_of_ble_eq_true rfl) (Nat.le_of_ble_eq_true rfl) dX5_init_17 (fun q_2 H hP hD hS => ?_)
  have hP : va_P D classes [(h0, .inr (5, [.ref q_1, .null, .null, .null, .null, .null, .int 0])), (q_1, .inl (k.2.2.1, 404, .inr (.inl (fun _ => 0)))), (q_2, .inl (k.2.2.1, 404, .inr (.inl (fun _ => 0))))] H := hP
  have hD : va_D A [(h0, .inr (5, [.ref q_1, .null, .null, .null, .null, .null, .int 0])), (q_1, .inl (k.2.2.1, 404, .inr (.inl (fun _ => 0)))), (q_2, .inl (k.2.2.1, 404, .inr (.inl (fun _ => 0))))] := hD
  refine W.widen (k := 2) (n := 808) (Nat.le_of_ble_eq_true rfl) (Nat.le_of_ble_eq_true rfl) ?_
  refine va_putF (D := D) (ci := 5) (v := .ref q_2) (ty := (.array .long)) (C := RX5) (T := TX5) (N := 7) hx hb hg iX5 tyX5 tyX5_ok nmX5 hown hK hP hD hS 0 rfl rfl 1 (by decide) (hg (Cond.fieldLink RX5 15 "SlabWalk$Odds" "leapt" "[J") m465) (fun _ h9 => h9) rfl hin rfl (by decide +kernel) rfl rfl (Nat.le_of_ble_eq_true rfl) dX5_init_19 (fun H locs hP hD hS => ?_)
  have hP : va_P D classes [(h0, .inr (5, [.ref q_1, .ref q_2, .null, .null, .null, .null, .int 0])), (q_1, .inl (k.2.2.1, 404, .inr (.inl (fun _ => 0)))), (q_2, .inl (k.2.2.1, 404, .inr (.inl (fun _ => 0))))] H := hP
  have hD : va_D A [(h0, .inr (5, [.ref q_1, .ref q_2, .null, .null, .null, .null, .int 0])), (q_1, .inl (k.2.2.1, 404, .inr (.inl (fun _ => 0)))), (q_2, .inl (k.2.2.1, 404, .inr (.inl (fun _ => 0))))] := hD
  refine lv_aload_n hx hb dX5_init_22 rfl (lv_at hl 0 rfl) ?_
  refine lv_sipush (v := 404) hx hb dX5_init_23 (by decide) ?_
  refine va_newaT (atype := .long) (ty := .long) (a0 := (404, .inr (.inl (fun _ => 0)))) hx hb (hg (Cond.arrayClass .long) m294) rfl ra_long hK hP hD hS hA 2 rfl (fun _ => rfl) (by decide) (by decide) (Nat.le_of_ble_eq_true rfl) (Nat.le_of_ble_eq_true rfl) (Nat.le_of_ble_eq_true rfl) dX5_init_26 (fun q_3 H hP hD hS => ?_)
  have hP : va_P D classes [(h0, .inr (5, [.ref q_1, .ref q_2, .null, .null, .null, .null, .int 0])), (q_1, .inl (k.2.2.1, 404, .inr (.inl (fun _ => 0)))), (q_2, .inl (k.2.2.1, 404, .inr (.inl (fun _ => 0)))), (q_3, .inl (k.2.2.1, 404, .inr (.inl (fun _ => 0))))] H := hP
  have hD : va_D A [(h0, .inr (5, [.ref q_1, .ref q_2, .null, .null, .null, .null, .int 0])), (q_1, .inl (k.2.2.1, 404, .inr (.inl (fun _ => 0)))), (q_2, .inl (k.2.2.1, 404, .inr (.inl (fun _ => 0)))), (q_3, .inl (k.2.2.1, 404, .inr (.inl (fun _ => 0))))] := hD
  refine W.widen (k := 3) (n := 1212) (Nat.le_of_ble_eq_true rfl) (Nat.le_of_ble_eq_true rfl) ?_
  refine va_putF (D := D) (ci := 5) (v := .ref q_3) (ty := (.array .long)) (C := RX5) (T := TX5) (N := 7) hx hb hg iX5 tyX5 tyX5_ok nmX5 hown hK hP hD hS 0 rfl rfl 2 (by decide) (hg (Cond.fieldLink RX5 18 "SlabWalk$Odds" "sums" "[J") m466) (fun _ h9 => h9) rfl hin rfl (by decide +kernel) rfl rfl (Nat.le_of_ble_eq_true rfl) dX5_init_28 (fun H locs hP hD hS => ?_)
  have hP : va_P D classes [(h0, .inr (5, [.ref q_1, .ref q_2, .ref q_3, .null, .null, .null, .int 0])), (q_1, .inl (k.2.2.1, 404, .inr (.inl (fun _ => 0)))), (q_2, .inl (k.2.2.1, 404, .inr (.inl (fun _ => 0)))), (q_3, .inl (k.2.2.1, 404, .inr (.inl (fun _ => 0))))] H := hP
  have hD : va_D A [(h0, .inr (5, [.ref q_1, .ref q_2, .ref q_3, .null, .null, .null, .int 0])), (q_1, .inl (k.2.2.1, 404, .inr (.inl (fun _ => 0)))), (q_2, .inl (k.2.2.1, 404, .inr (.inl (fun _ => 0)))), (q_3, .inl (k.2.2.1, 404, .inr (.inl (fun _ => 0))))] := hD
  refine lv_aload_n hx hb dX5_init_31 rfl (lv_at hl 0 rfl) ?_
  refine lv_sipush (v := 404) hx hb dX5_init_32 (by decide) ?_
  refine va_newaT (atype := .long) (ty := .long) (a0 := (404, .inr (.inl (fun _ => 0)))) hx hb (hg (Cond.arrayClass .long) m294) rfl ra_long hK hP hD hS hA 2 rfl (fun _ => rfl) (by decide) (by decide) (Nat.le_of_ble_eq_true rfl) (Nat.le_of_ble_eq_true rfl) (Nat.le_of_ble_eq_true rfl) dX5_init_35 (fun q_4 H hP hD hS => ?_)
  have hP : va_P D classes [(h0, .inr (5, [.ref q_1, .ref q_2, .ref q_3, .null, .null, .null, .int 0])), (q_1, .inl (k.2.2.1, 404, .inr (.inl (fun _ => 0)))), (q_2, .inl (k.2.2.1, 404, .inr (.inl (fun _ => 0)))), (q_3, .inl (k.2.2.1, 404, .inr (.inl (fun _ => 0)))), (q_4, .inl (k.2.2.1, 404, .inr (.inl (fun _ => 0))))] H := hP
  have hD : va_D A [(h0, .inr (5, [.ref q_1, .ref q_2, .ref q_3, .null, .null, .null, .int 0])), (q_1, .inl (k.2.2.1, 404, .inr (.inl (fun _ => 0)))), (q_2, .inl (k.2.2.1, 404, .inr (.inl (fun _ => 0)))), (q_3, .inl (k.2.2.1, 404, .inr (.inl (fun _ => 0)))), (q_4, .inl (k.2.2.1, 404, .inr (.inl (fun _ => 0))))] := hD
  refine W.widen (k := 4) (n := 1616) (Nat.le_of_ble_eq_true rfl) (Nat.le_of_ble_eq_true rfl) ?_
  refine va_putF (D := D) (ci := 5) (v := .ref q_4) (ty := (.array .long)) (C := RX5) (T := TX5) (N := 7) hx hb hg iX5 tyX5 tyX5_ok nmX5 hown hK hP hD hS 0 rfl rfl 3 (by decide) (hg (Cond.fieldLink RX5 21 "SlabWalk$Odds" "steppedSums" "[J") m467) (fun _ h9 => h9) rfl hin rfl (by decide +kernel) rfl rfl (Nat.le_of_ble_eq_true rfl) dX5_init_37 (fun H locs hP hD hS => ?_)
  have hP : va_P D classes [(h0, .inr (5, [.ref q_1, .ref q_2, .ref q_3, .ref q_4, .null, .null, .int 0])), (q_1, .inl (k.2.2.1, 404, .inr (.inl (fun _ => 0)))), (q_2, .inl (k.2.2.1, 404, .inr (.inl (fun _ => 0)))), (q_3, .inl (k.2.2.1, 404, .inr (.inl (fun _ => 0)))), (q_4, .inl (k.2.2.1, 404, .inr (.inl (fun _ => 0))))] H := hP
  have hD : va_D A [(h0, .inr (5, [.ref q_1, .ref q_2, .ref q_3, .ref q_4, .null, .null, .int 0])), (q_1, .inl (k.2.2.1, 404, .inr (.inl (fun _ => 0)))), (q_2, .inl (k.2.2.1, 404, .inr (.inl (fun _ => 0)))), (q_3, .inl (k.2.2.1, 404, .inr (.inl (fun _ => 0)))), (q_4, .inl (k.2.2.1, 404, .inr (.inl (fun _ => 0))))] := hD
  refine lv_aload_n hx hb dX5_init_40 rfl (lv_at hl 0 rfl) ?_
  refine lv_sipush (v := 404) hx hb dX5_init_41 (by decide) ?_
  refine va_newaT (atype := .long) (ty := .long) (a0 := (404, .inr (.inl (fun _ => 0)))) hx hb (hg (Cond.arrayClass .long) m294) rfl ra_long hK hP hD hS hA 2 rfl (fun _ => rfl) (by decide) (by decide) (Nat.le_of_ble_eq_true rfl) (Nat.le_of_ble_eq_true rfl) (Nat.le_of_ble_eq_true rfl) dX5_init_44 (fun q_5 H hP hD hS => ?_)
  have hP : va_P D classes [(h0, .inr (5, [.ref q_1, .ref q_2, .ref q_3, .ref q_4, .null, .null, .int 0])), (q_1, .inl (k.2.2.1, 404, .inr (.inl (fun _ => 0)))), (q_2, .inl (k.2.2.1, 404, .inr (.inl (fun _ => 0)))), (q_3, .inl (k.2.2.1, 404, .inr (.inl (fun _ => 0)))), (q_4, .inl (k.2.2.1, 404, .inr (.inl (fun _ => 0)))), (q_5, .inl (k.2.2.1, 404, .inr (.inl (fun _ => 0))))] H := hP
  have hD : va_D A [(h0, .inr (5, [.ref q_1, .ref q_2, .ref q_3, .ref q_4, .null, .null, .int 0])), (q_1, .inl (k.2.2.1, 404, .inr (.inl (fun _ => 0)))), (q_2, .inl (k.2.2.1, 404, .inr (.inl (fun _ => 0)))), (q_3, .inl (k.2.2.1, 404, .inr (.inl (fun _ => 0)))), (q_4, .inl (k.2.2.1, 404, .inr (.inl (fun _ => 0)))), (q_5, .inl (k.2.2.1, 404, .inr (.inl (fun _ => 0))))] := hD
  refine W.widen (k := 5) (n := 2020) (Nat.le_of_ble_eq_true rfl) (Nat.le_of_ble_eq_true rfl) ?_
  refine va_putF (D := D) (ci := 5) (v := .ref q_5) (ty := (.array .long)) (C := RX5) (T := TX5) (N := 7) hx hb hg iX5 tyX5 tyX5_ok nmX5 hown hK hP hD hS 0 rfl rfl 4 (by decide) (hg (Cond.fieldLink RX5 24 "SlabWalk$Odds" "odds" "[J") m468) (fun _ h9 => h9) rfl hin rfl (by decide +kernel) rfl rfl (Nat.le_of_ble_eq_true rfl) dX5_init_46 (fun H locs hP hD hS => ?_)
  have hP : va_P D classes [(h0, .inr (5, [.ref q_1, .ref q_2, .ref q_3, .ref q_4, .ref q_5, .null, .int 0])), (q_1, .inl (k.2.2.1, 404, .inr (.inl (fun _ => 0)))), (q_2, .inl (k.2.2.1, 404, .inr (.inl (fun _ => 0)))), (q_3, .inl (k.2.2.1, 404, .inr (.inl (fun _ => 0)))), (q_4, .inl (k.2.2.1, 404, .inr (.inl (fun _ => 0)))), (q_5, .inl (k.2.2.1, 404, .inr (.inl (fun _ => 0))))] H := hP
  have hD : va_D A [(h0, .inr (5, [.ref q_1, .ref q_2, .ref q_3, .ref q_4, .ref q_5, .null, .int 0])), (q_1, .inl (k.2.2.1, 404, .inr (.inl (fun _ => 0)))), (q_2, .inl (k.2.2.1, 404, .inr (.inl (fun _ => 0)))), (q_3, .inl (k.2.2.1, 404, .inr (.inl (fun _ => 0)))), (q_4, .inl (k.2.2.1, 404, .inr (.inl (fun _ => 0)))), (q_5, .inl (k.2.2.1, 404, .inr (.inl (fun _ => 0))))] := hD
  refine lv_aload_n hx hb dX5_init_49 rfl (lv_at hl 0 rfl) ?_
  refine lv_sipush (v := 404) hx hb dX5_init_50 (by decide) ?_
  refine va_newaT (atype := .long) (ty := .long) (a0 := (404, .inr (.inl (fun _ => 0)))) hx hb (hg (Cond.arrayClass .long) m294) rfl ra_long hK hP hD hS hA 2 rfl (fun _ => rfl) (by decide) (by decide) (Nat.le_of_ble_eq_true rfl) (Nat.le_of_ble_eq_true rfl) (Nat.le_of_ble_eq_true rfl) dX5_init_53 (fun q_6 H hP hD hS => ?_)
  have hP : va_P D classes [(h0, .inr (5, [.ref q_1, .ref q_2, .ref q_3, .ref q_4, .ref q_5, .null, .int 0])), (q_1, .inl (k.2.2.1, 404, .inr (.inl (fun _ => 0)))), (q_2, .inl (k.2.2.1, 404, .inr (.inl (fun _ => 0)))), (q_3, .inl (k.2.2.1, 404, .inr (.inl (fun _ => 0)))), (q_4, .inl (k.2.2.1, 404, .inr (.inl (fun _ => 0)))), (q_5, .inl (k.2.2.1, 404, .inr (.inl (fun _ => 0)))), (q_6, .inl (k.2.2.1, 404, .inr (.inl (fun _ => 0))))] H := hP
  have hD : va_D A [(h0, .inr (5, [.ref q_1, .ref q_2, .ref q_3, .ref q_4, .ref q_5, .null, .int 0])), (q_1, .inl (k.2.2.1, 404, .inr (.inl (fun _ => 0)))), (q_2, .inl (k.2.2.1, 404, .inr (.inl (fun _ => 0)))), (q_3, .inl (k.2.2.1, 404, .inr (.inl (fun _ => 0)))), (q_4, .inl (k.2.2.1, 404, .inr (.inl (fun _ => 0)))), (q_5, .inl (k.2.2.1, 404, .inr (.inl (fun _ => 0)))), (q_6, .inl (k.2.2.1, 404, .inr (.inl (fun _ => 0))))] := hD
  refine W.widen (k := 6) (n := 2424) (Nat.le_of_ble_eq_true rfl) (Nat.le_of_ble_eq_true rfl) ?_
  refine va_putF (D := D) (ci := 5) (v := .ref q_6) (ty := (.array .long)) (C := RX5) (T := TX5) (N := 7) hx hb hg iX5 tyX5 tyX5_ok nmX5 hown hK hP hD hS 0 rfl rfl 5 (by decide) (hg (Cond.fieldLink RX5 27 "SlabWalk$Odds" "aims" "[J") m469) (fun _ h9 => h9) rfl hin rfl (by decide +kernel) rfl rfl (Nat.le_of_ble_eq_true rfl) dX5_init_55 (fun H locs hP hD hS => ?_)
  have hP : va_P D classes [(h0, .inr (5, [.ref q_1, .ref q_2, .ref q_3, .ref q_4, .ref q_5, .ref q_6, .int 0])), (q_1, .inl (k.2.2.1, 404, .inr (.inl (fun _ => 0)))), (q_2, .inl (k.2.2.1, 404, .inr (.inl (fun _ => 0)))), (q_3, .inl (k.2.2.1, 404, .inr (.inl (fun _ => 0)))), (q_4, .inl (k.2.2.1, 404, .inr (.inl (fun _ => 0)))), (q_5, .inl (k.2.2.1, 404, .inr (.inl (fun _ => 0)))), (q_6, .inl (k.2.2.1, 404, .inr (.inl (fun _ => 0))))] H := hP
  have hD : va_D A [(h0, .inr (5, [.ref q_1, .ref q_2, .ref q_3, .ref q_4, .ref q_5, .ref q_6, .int 0])), (q_1, .inl (k.2.2.1, 404, .inr (.inl (fun _ => 0)))), (q_2, .inl (k.2.2.1, 404, .inr (.inl (fun _ => 0)))), (q_3, .inl (k.2.2.1, 404, .inr (.inl (fun _ => 0)))), (q_4, .inl (k.2.2.1, 404, .inr (.inl (fun _ => 0)))), (q_5, .inl (k.2.2.1, 404, .inr (.inl (fun _ => 0)))), (q_6, .inl (k.2.2.1, 404, .inr (.inl (fun _ => 0))))] := hD
  exact W.vret hx hb hr (fun t ht hW => ⟨⟨(), rfl, trivial, ⟨q_1, q_2, q_3, q_4, q_5, q_6, cB_of ht hP hD⟩⟩, hS.F ht⟩) hS.2.2 dX5_init_58

set_option maxHeartbeats 4000000 in
set_option maxRecDepth 100000 in
theorem q_X1 (l : Launch) (D : va_G) (k : KT) (sz : Nat) (h0 : Nat)  : Met l yX1_init (WS yX1_init cX1_init 1 none) ({ frames := 1, cells := 3, slots := 450, locals := 12 }) (va_Pc [.ref h0] (cQ D k [(h0, .inr (1, [.null, .null, .null, .int 0, .int 0, .int 0]))] sz)) (va_Qv (fun _ : Unit => True) (fun (_ : Unit) t => ∃ (q_1 : Nat), ∃ (q_2 : Nat), ∃ (q_3 : Nat), cB D (va_A [(h0, .inr (1, [.null, .null, .null, .int 0, .int 0, .int 0]))] sz) [(h0, .inr (1, [.ref q_1, .ref q_2, .ref q_3, .int 0, .int 0, .int 0])), (q_1, .inl (k.2.1, 10, .inl (fun _ => 0))), (q_2, .inl (k.2.1, 410, .inl (fun _ => 0))), (q_3, .inl (k.2.1, 30, .inl (fun _ => 0)))] t) (va_A [(h0, .inr (1, [.null, .null, .null, .int 0, .int 0, .int 0]))] sz)) 3 450 (va_A [(h0, .inr (1, [.null, .null, .null, .int 0, .int 0, .int 0]))] sz) := by
  refine Met.ofW (cc := cX1_init) (maxL := 1) (ret := none) (by decide) rfl ?_
  intro p e s m args below meth c s₁ B hml hv
  obtain ⟨rfl, hsz, hP, hKX, hD0⟩ := hv
  have hK := hKX.1
  have hx := B.exec
  have hb := B.bytes
  have hr := B.returns
  have hts := atoms_spec (ws := WS yX1_init cX1_init 1 none) B.pre
  have hgd : ∀ w ∈ gd, w ∈ WS yX1_init cX1_init 1 none := fun w h => List.mem_cons_of_mem _ h
  have hg : ∀ w ∈ gd, w.before _ s = true := fun w h => hts w (hgd w h)
  have hown : s.vm.findClass RX1 = some m.cls := findClass_of_methodNamed B.named
  have hlocks := B.notSynchronized
  have hin : meth.name = "<init>" := (name_of_methodNamed B.named B.method).1
  subst hsz
  have hD := hD0.self (sz := s.heap.size)
  generalize hAe : va_A [(h0, .inr (1, [.null, .null, .null, .int 0, .int 0, .int 0]))] s.heap.size = A at hD ⊢
  have hA : ∀ q : Nat, s.heap.size ≤ q → A q := fun q h => by rw [← hAe]; exact Or.inr h
  have hS : va_S A s.heap s.heap [] := va_S.rf
  have hP : va_P D classes [(h0, .inr (1, [.null, .null, .null, .int 0, .int 0, .int 0]))] s.heap := hP
  have hl := lv_entry ([.ref h0]) (n := 1) (Nat.le_of_ble_eq_true rfl)
  rw [lg_entry_eq]
  generalize (lg_sl ([.ref h0]) ++ List.replicate (1 - (lg_sl ([.ref h0])).length) Slot.unset).toArray = ls at hl ⊢
  have hl : lv_has ls 1 [(0, .ref h0)] := hl
  refine lv_aload_n hx hb dX1_init_0 rfl (lv_at hl 0 rfl) ?_
  refine W.objInit hx hb hown (hg (Cond.methodLink RX1 3 objectInit) m491) (hg (Cond.instanceMethod objectInit) m144) (hg (Cond.code objectInit ⟨#[0xb1]⟩ 1 none) m145) rfl (by rw [hml]; exact hl.1) rfl dX1_init_1 (Nat.le_of_ble_eq_true rfl) (Nat.le_of_ble_eq_true rfl) ?_
  refine W.eq (g2 := F0 m 4 ls []) rfl ?_
  refine lv_aload_n hx hb dX1_init_4 rfl (lv_at hl 0 rfl) ?_
  refine lv_bipush (v := 10) hx hb dX1_init_5 (by decide) ?_
  refine va_newaT (atype := .int) (ty := .int) (a0 := (10, .inl (fun _ => 0))) hx hb (hg (Cond.arrayClass .int) m245) rfl ra_int hK hP hD hS hA 1 rfl (fun _ => rfl) (by decide) (by decide) (Nat.le_of_ble_eq_true rfl) (Nat.le_of_ble_eq_true rfl) (Nat.le_of_ble_eq_true rfl) dX1_init_7 (fun q_1 H hP hD hS => ?_)
  have hP : va_P D classes [(h0, .inr (1, [.null, .null, .null, .int 0, .int 0, .int 0])), (q_1, .inl (k.2.1, 10, .inl (fun _ => 0)))] H := hP
  have hD : va_D A [(h0, .inr (1, [.null, .null, .null, .int 0, .int 0, .int 0])), (q_1, .inl (k.2.1, 10, .inl (fun _ => 0)))] := hD
  refine W.widen (k := 1) (n := 10) (Nat.le_of_ble_eq_true rfl) (Nat.le_of_ble_eq_true rfl) ?_
  refine va_putF (D := D) (ci := 1) (v := .ref q_1) (ty := (.array .int)) (C := RX1) (T := TX1) (N := 6) hx hb hg iX1 tyX1 tyX1_ok nmX1 hown hK hP hD hS 0 rfl rfl 0 (by decide) (hg (Cond.fieldLink RX1 11 "SlabWalk$Earnest" "now" "[I") m492) (fun _ h9 => h9) rfl hin rfl (by decide +kernel) rfl rfl (Nat.le_of_ble_eq_true rfl) dX1_init_9 (fun H locs hP hD hS => ?_)
  have hP : va_P D classes [(h0, .inr (1, [.ref q_1, .null, .null, .int 0, .int 0, .int 0])), (q_1, .inl (k.2.1, 10, .inl (fun _ => 0)))] H := hP
  have hD : va_D A [(h0, .inr (1, [.ref q_1, .null, .null, .int 0, .int 0, .int 0])), (q_1, .inl (k.2.1, 10, .inl (fun _ => 0)))] := hD
  refine lv_aload_n hx hb dX1_init_12 rfl (lv_at hl 0 rfl) ?_
  refine lv_sipush (v := 410) hx hb dX1_init_13 (by decide) ?_
  refine va_newaT (atype := .int) (ty := .int) (a0 := (410, .inl (fun _ => 0))) hx hb (hg (Cond.arrayClass .int) m245) rfl ra_int hK hP hD hS hA 1 rfl (fun _ => rfl) (by decide) (by decide) (Nat.le_of_ble_eq_true rfl) (Nat.le_of_ble_eq_true rfl) (Nat.le_of_ble_eq_true rfl) dX1_init_16 (fun q_2 H hP hD hS => ?_)
  have hP : va_P D classes [(h0, .inr (1, [.ref q_1, .null, .null, .int 0, .int 0, .int 0])), (q_1, .inl (k.2.1, 10, .inl (fun _ => 0))), (q_2, .inl (k.2.1, 410, .inl (fun _ => 0)))] H := hP
  have hD : va_D A [(h0, .inr (1, [.ref q_1, .null, .null, .int 0, .int 0, .int 0])), (q_1, .inl (k.2.1, 10, .inl (fun _ => 0))), (q_2, .inl (k.2.1, 410, .inl (fun _ => 0)))] := hD
  refine W.widen (k := 2) (n := 420) (Nat.le_of_ble_eq_true rfl) (Nat.le_of_ble_eq_true rfl) ?_
  refine va_putF (D := D) (ci := 1) (v := .ref q_2) (ty := (.array .int)) (C := RX1) (T := TX1) (N := 6) hx hb hg iX1 tyX1 tyX1_ok nmX1 hown hK hP hD hS 0 rfl rfl 1 (by decide) (hg (Cond.fieldLink RX1 15 "SlabWalk$Earnest" "kept" "[I") m494) (fun _ h9 => h9) rfl hin rfl (by decide +kernel) rfl rfl (Nat.le_of_ble_eq_true rfl) dX1_init_18 (fun H locs hP hD hS => ?_)
  have hP : va_P D classes [(h0, .inr (1, [.ref q_1, .ref q_2, .null, .int 0, .int 0, .int 0])), (q_1, .inl (k.2.1, 10, .inl (fun _ => 0))), (q_2, .inl (k.2.1, 410, .inl (fun _ => 0)))] H := hP
  have hD : va_D A [(h0, .inr (1, [.ref q_1, .ref q_2, .null, .int 0, .int 0, .int 0])), (q_1, .inl (k.2.1, 10, .inl (fun _ => 0))), (q_2, .inl (k.2.1, 410, .inl (fun _ => 0)))] := hD
  refine lv_aload_n hx hb dX1_init_21 rfl (lv_at hl 0 rfl) ?_
  refine lv_bipush (v := 30) hx hb dX1_init_22 (by decide) ?_
  refine va_newaT (atype := .int) (ty := .int) (a0 := (30, .inl (fun _ => 0))) hx hb (hg (Cond.arrayClass .int) m245) rfl ra_int hK hP hD hS hA 1 rfl (fun _ => rfl) (by decide) (by decide) (Nat.le_of_ble_eq_true rfl) (Nat.le_of_ble_eq_true rfl) (Nat.le_of_ble_eq_true rfl) dX1_init_24 (fun q_3 H hP hD hS => ?_)
  have hP : va_P D classes [(h0, .inr (1, [.ref q_1, .ref q_2, .null, .int 0, .int 0, .int 0])), (q_1, .inl (k.2.1, 10, .inl (fun _ => 0))), (q_2, .inl (k.2.1, 410, .inl (fun _ => 0))), (q_3, .inl (k.2.1, 30, .inl (fun _ => 0)))] H := hP
  have hD : va_D A [(h0, .inr (1, [.ref q_1, .ref q_2, .null, .int 0, .int 0, .int 0])), (q_1, .inl (k.2.1, 10, .inl (fun _ => 0))), (q_2, .inl (k.2.1, 410, .inl (fun _ => 0))), (q_3, .inl (k.2.1, 30, .inl (fun _ => 0)))] := hD
  refine W.widen (k := 3) (n := 450) (Nat.le_of_ble_eq_true rfl) (Nat.le_of_ble_eq_true rfl) ?_
  refine va_putF (D := D) (ci := 1) (v := .ref q_3) (ty := (.array .int)) (C := RX1) (T := TX1) (N := 6) hx hb hg iX1 tyX1 tyX1_ok nmX1 hown hK hP hD hS 0 rfl rfl 2 (by decide) (hg (Cond.fieldLink RX1 18 "SlabWalk$Earnest" "boxes" "[I") m495) (fun _ h9 => h9) rfl hin rfl (by decide +kernel) rfl rfl (Nat.le_of_ble_eq_true rfl) dX1_init_26 (fun H locs hP hD hS => ?_)
  have hP : va_P D classes [(h0, .inr (1, [.ref q_1, .ref q_2, .ref q_3, .int 0, .int 0, .int 0])), (q_1, .inl (k.2.1, 10, .inl (fun _ => 0))), (q_2, .inl (k.2.1, 410, .inl (fun _ => 0))), (q_3, .inl (k.2.1, 30, .inl (fun _ => 0)))] H := hP
  have hD : va_D A [(h0, .inr (1, [.ref q_1, .ref q_2, .ref q_3, .int 0, .int 0, .int 0])), (q_1, .inl (k.2.1, 10, .inl (fun _ => 0))), (q_2, .inl (k.2.1, 410, .inl (fun _ => 0))), (q_3, .inl (k.2.1, 30, .inl (fun _ => 0)))] := hD
  exact W.vret hx hb hr (fun t ht hW => ⟨⟨(), rfl, trivial, ⟨q_1, q_2, q_3, cB_of ht hP hD⟩⟩, hS.F ht⟩) hS.2.2 dX1_init_29

set_option maxHeartbeats 4000000 in
set_option maxRecDepth 100000 in
theorem q_X8 (l : Launch) (D : va_G) (k : KT) (sz : Nat) (h0 : Nat)  : Met l yX8_init (WS yX8_init cX8_init 1 none) ({ frames := 1, cells := 5, slots := 100, locals := 12 }) (va_Pc [.ref h0] (cQ D k [(h0, .inr (8, [.null, .null, .null, .null, .null, .int 0, .int 0]))] sz)) (va_Qv (fun _ : Unit => True) (fun (_ : Unit) t => ∃ (q_1 : Nat), ∃ (q_2 : Nat), ∃ (q_3 : Nat), ∃ (q_4 : Nat), ∃ (q_5 : Nat), cB D (va_A [(h0, .inr (8, [.null, .null, .null, .null, .null, .int 0, .int 0]))] sz) [(h0, .inr (8, [.ref q_1, .ref q_2, .ref q_3, .ref q_4, .ref q_5, .int 0, .int 0])), (q_1, .inl (k.2.1, 20, .inl (fun _ => 0))), (q_2, .inl (k.2.1, 20, .inl (fun _ => 0))), (q_3, .inl (k.2.1, 20, .inl (fun _ => 0))), (q_4, .inl (k.2.1, 20, .inl (fun _ => 0))), (q_5, .inl (k.2.1, 20, .inl (fun _ => 0)))] t) (va_A [(h0, .inr (8, [.null, .null, .null, .null, .null, .int 0, .int 0]))] sz)) 5 100 (va_A [(h0, .inr (8, [.null, .null, .null, .null, .null, .int 0, .int 0]))] sz) := by
  refine Met.ofW (cc := cX8_init) (maxL := 1) (ret := none) (by decide) rfl ?_
  intro p e s m args below meth c s₁ B hml hv
  obtain ⟨rfl, hsz, hP, hKX, hD0⟩ := hv
  have hK := hKX.1
  have hx := B.exec
  have hb := B.bytes
  have hr := B.returns
  have hts := atoms_spec (ws := WS yX8_init cX8_init 1 none) B.pre
  have hgd : ∀ w ∈ gd, w ∈ WS yX8_init cX8_init 1 none := fun w h => List.mem_cons_of_mem _ h
  have hg : ∀ w ∈ gd, w.before _ s = true := fun w h => hts w (hgd w h)
  have hown : s.vm.findClass RX8 = some m.cls := findClass_of_methodNamed B.named
  have hlocks := B.notSynchronized
  have hin : meth.name = "<init>" := (name_of_methodNamed B.named B.method).1
  subst hsz
  have hD := hD0.self (sz := s.heap.size)
  generalize hAe : va_A [(h0, .inr (8, [.null, .null, .null, .null, .null, .int 0, .int 0]))] s.heap.size = A at hD ⊢
  have hA : ∀ q : Nat, s.heap.size ≤ q → A q := fun q h => by rw [← hAe]; exact Or.inr h
  have hS : va_S A s.heap s.heap [] := va_S.rf
  have hP : va_P D classes [(h0, .inr (8, [.null, .null, .null, .null, .null, .int 0, .int 0]))] s.heap := hP
  have hl := lv_entry ([.ref h0]) (n := 1) (Nat.le_of_ble_eq_true rfl)
  rw [lg_entry_eq]
  generalize (lg_sl ([.ref h0]) ++ List.replicate (1 - (lg_sl ([.ref h0])).length) Slot.unset).toArray = ls at hl ⊢
  have hl : lv_has ls 1 [(0, .ref h0)] := hl
  refine lv_aload_n hx hb dX8_init_0 rfl (lv_at hl 0 rfl) ?_
  refine W.objInit hx hb hown (hg (Cond.methodLink RX8 3 objectInit) m519) (hg (Cond.instanceMethod objectInit) m144) (hg (Cond.code objectInit ⟨#[0xb1]⟩ 1 none) m145) rfl (by rw [hml]; exact hl.1) rfl dX8_init_1 (Nat.le_of_ble_eq_true rfl) (Nat.le_of_ble_eq_true rfl) ?_
  refine W.eq (g2 := F0 m 4 ls []) rfl ?_
  refine lv_aload_n hx hb dX8_init_4 rfl (lv_at hl 0 rfl) ?_
  refine lv_bipush (v := 20) hx hb dX8_init_5 (by decide) ?_
  refine va_newaT (atype := .int) (ty := .int) (a0 := (20, .inl (fun _ => 0))) hx hb (hg (Cond.arrayClass .int) m245) rfl ra_int hK hP hD hS hA 1 rfl (fun _ => rfl) (by decide) (by decide) (Nat.le_of_ble_eq_true rfl) (Nat.le_of_ble_eq_true rfl) (Nat.le_of_ble_eq_true rfl) dX8_init_7 (fun q_1 H hP hD hS => ?_)
  have hP : va_P D classes [(h0, .inr (8, [.null, .null, .null, .null, .null, .int 0, .int 0])), (q_1, .inl (k.2.1, 20, .inl (fun _ => 0)))] H := hP
  have hD : va_D A [(h0, .inr (8, [.null, .null, .null, .null, .null, .int 0, .int 0])), (q_1, .inl (k.2.1, 20, .inl (fun _ => 0)))] := hD
  refine W.widen (k := 1) (n := 20) (Nat.le_of_ble_eq_true rfl) (Nat.le_of_ble_eq_true rfl) ?_
  refine va_putF (D := D) (ci := 8) (v := .ref q_1) (ty := (.array .int)) (C := RX8) (T := TX8) (N := 7) hx hb hg iX8 tyX8 tyX8_ok nmX8 hown hK hP hD hS 0 rfl rfl 0 (by decide) (hg (Cond.fieldLink RX8 11 "SlabWalk$Sights" "walker" "[I") m520) (fun _ h9 => h9) rfl hin rfl (by decide +kernel) rfl rfl (Nat.le_of_ble_eq_true rfl) dX8_init_9 (fun H locs hP hD hS => ?_)
  have hP : va_P D classes [(h0, .inr (8, [.ref q_1, .null, .null, .null, .null, .int 0, .int 0])), (q_1, .inl (k.2.1, 20, .inl (fun _ => 0)))] H := hP
  have hD : va_D A [(h0, .inr (8, [.ref q_1, .null, .null, .null, .null, .int 0, .int 0])), (q_1, .inl (k.2.1, 20, .inl (fun _ => 0)))] := hD
  refine lv_aload_n hx hb dX8_init_12 rfl (lv_at hl 0 rfl) ?_
  refine lv_bipush (v := 20) hx hb dX8_init_13 (by decide) ?_
  refine va_newaT (atype := .int) (ty := .int) (a0 := (20, .inl (fun _ => 0))) hx hb (hg (Cond.arrayClass .int) m245) rfl ra_int hK hP hD hS hA 1 rfl (fun _ => rfl) (by decide) (by decide) (Nat.le_of_ble_eq_true rfl) (Nat.le_of_ble_eq_true rfl) (Nat.le_of_ble_eq_true rfl) dX8_init_15 (fun q_2 H hP hD hS => ?_)
  have hP : va_P D classes [(h0, .inr (8, [.ref q_1, .null, .null, .null, .null, .int 0, .int 0])), (q_1, .inl (k.2.1, 20, .inl (fun _ => 0))), (q_2, .inl (k.2.1, 20, .inl (fun _ => 0)))] H := hP
  have hD : va_D A [(h0, .inr (8, [.ref q_1, .null, .null, .null, .null, .int 0, .int 0])), (q_1, .inl (k.2.1, 20, .inl (fun _ => 0))), (q_2, .inl (k.2.1, 20, .inl (fun _ => 0)))] := hD
  refine W.widen (k := 2) (n := 40) (Nat.le_of_ble_eq_true rfl) (Nat.le_of_ble_eq_true rfl) ?_
  refine va_putF (D := D) (ci := 8) (v := .ref q_2) (ty := (.array .int)) (C := RX8) (T := TX8) (N := 7) hx hb hg iX8 tyX8 tyX8_ok nmX8 hown hK hP hD hS 0 rfl rfl 1 (by decide) (hg (Cond.fieldLink RX8 15 "SlabWalk$Sights" "street" "[I") m522) (fun _ h9 => h9) rfl hin rfl (by decide +kernel) rfl rfl (Nat.le_of_ble_eq_true rfl) dX8_init_17 (fun H locs hP hD hS => ?_)
  have hP : va_P D classes [(h0, .inr (8, [.ref q_1, .ref q_2, .null, .null, .null, .int 0, .int 0])), (q_1, .inl (k.2.1, 20, .inl (fun _ => 0))), (q_2, .inl (k.2.1, 20, .inl (fun _ => 0)))] H := hP
  have hD : va_D A [(h0, .inr (8, [.ref q_1, .ref q_2, .null, .null, .null, .int 0, .int 0])), (q_1, .inl (k.2.1, 20, .inl (fun _ => 0))), (q_2, .inl (k.2.1, 20, .inl (fun _ => 0)))] := hD
  refine lv_aload_n hx hb dX8_init_20 rfl (lv_at hl 0 rfl) ?_
  refine lv_bipush (v := 20) hx hb dX8_init_21 (by decide) ?_
  refine va_newaT (atype := .int) (ty := .int) (a0 := (20, .inl (fun _ => 0))) hx hb (hg (Cond.arrayClass .int) m245) rfl ra_int hK hP hD hS hA 1 rfl (fun _ => rfl) (by decide) (by decide) (Nat.le_of_ble_eq_true rfl) (Nat.le_of_ble_eq_true rfl) (Nat.le_of_ble_eq_true rfl) dX8_init_23 (fun q_3 H hP hD hS => ?_)
  have hP : va_P D classes [(h0, .inr (8, [.ref q_1, .ref q_2, .null, .null, .null, .int 0, .int 0])), (q_1, .inl (k.2.1, 20, .inl (fun _ => 0))), (q_2, .inl (k.2.1, 20, .inl (fun _ => 0))), (q_3, .inl (k.2.1, 20, .inl (fun _ => 0)))] H := hP
  have hD : va_D A [(h0, .inr (8, [.ref q_1, .ref q_2, .null, .null, .null, .int 0, .int 0])), (q_1, .inl (k.2.1, 20, .inl (fun _ => 0))), (q_2, .inl (k.2.1, 20, .inl (fun _ => 0))), (q_3, .inl (k.2.1, 20, .inl (fun _ => 0)))] := hD
  refine W.widen (k := 3) (n := 60) (Nat.le_of_ble_eq_true rfl) (Nat.le_of_ble_eq_true rfl) ?_
  refine va_putF (D := D) (ci := 8) (v := .ref q_3) (ty := (.array .int)) (C := RX8) (T := TX8) (N := 7) hx hb hg iX8 tyX8 tyX8_ok nmX8 hown hK hP hD hS 0 rfl rfl 2 (by decide) (hg (Cond.fieldLink RX8 18 "SlabWalk$Sights" "heel" "[I") m524) (fun _ h9 => h9) rfl hin rfl (by decide +kernel) rfl rfl (Nat.le_of_ble_eq_true rfl) dX8_init_25 (fun H locs hP hD hS => ?_)
  have hP : va_P D classes [(h0, .inr (8, [.ref q_1, .ref q_2, .ref q_3, .null, .null, .int 0, .int 0])), (q_1, .inl (k.2.1, 20, .inl (fun _ => 0))), (q_2, .inl (k.2.1, 20, .inl (fun _ => 0))), (q_3, .inl (k.2.1, 20, .inl (fun _ => 0)))] H := hP
  have hD : va_D A [(h0, .inr (8, [.ref q_1, .ref q_2, .ref q_3, .null, .null, .int 0, .int 0])), (q_1, .inl (k.2.1, 20, .inl (fun _ => 0))), (q_2, .inl (k.2.1, 20, .inl (fun _ => 0))), (q_3, .inl (k.2.1, 20, .inl (fun _ => 0)))] := hD
  refine lv_aload_n hx hb dX8_init_28 rfl (lv_at hl 0 rfl) ?_
  refine lv_bipush (v := 20) hx hb dX8_init_29 (by decide) ?_
  refine va_newaT (atype := .int) (ty := .int) (a0 := (20, .inl (fun _ => 0))) hx hb (hg (Cond.arrayClass .int) m245) rfl ra_int hK hP hD hS hA 1 rfl (fun _ => rfl) (by decide) (by decide) (Nat.le_of_ble_eq_true rfl) (Nat.le_of_ble_eq_true rfl) (Nat.le_of_ble_eq_true rfl) dX8_init_31 (fun q_4 H hP hD hS => ?_)
  have hP : va_P D classes [(h0, .inr (8, [.ref q_1, .ref q_2, .ref q_3, .null, .null, .int 0, .int 0])), (q_1, .inl (k.2.1, 20, .inl (fun _ => 0))), (q_2, .inl (k.2.1, 20, .inl (fun _ => 0))), (q_3, .inl (k.2.1, 20, .inl (fun _ => 0))), (q_4, .inl (k.2.1, 20, .inl (fun _ => 0)))] H := hP
  have hD : va_D A [(h0, .inr (8, [.ref q_1, .ref q_2, .ref q_3, .null, .null, .int 0, .int 0])), (q_1, .inl (k.2.1, 20, .inl (fun _ => 0))), (q_2, .inl (k.2.1, 20, .inl (fun _ => 0))), (q_3, .inl (k.2.1, 20, .inl (fun _ => 0))), (q_4, .inl (k.2.1, 20, .inl (fun _ => 0)))] := hD
  refine W.widen (k := 4) (n := 80) (Nat.le_of_ble_eq_true rfl) (Nat.le_of_ble_eq_true rfl) ?_
  refine va_putF (D := D) (ci := 8) (v := .ref q_4) (ty := (.array .int)) (C := RX8) (T := TX8) (N := 7) hx hb hg iX8 tyX8 tyX8_ok nmX8 hown hK hP hD hS 0 rfl rfl 3 (by decide) (hg (Cond.fieldLink RX8 21 "SlabWalk$Sights" "told" "[I") m526) (fun _ h9 => h9) rfl hin rfl (by decide +kernel) rfl rfl (Nat.le_of_ble_eq_true rfl) dX8_init_33 (fun H locs hP hD hS => ?_)
  have hP : va_P D classes [(h0, .inr (8, [.ref q_1, .ref q_2, .ref q_3, .ref q_4, .null, .int 0, .int 0])), (q_1, .inl (k.2.1, 20, .inl (fun _ => 0))), (q_2, .inl (k.2.1, 20, .inl (fun _ => 0))), (q_3, .inl (k.2.1, 20, .inl (fun _ => 0))), (q_4, .inl (k.2.1, 20, .inl (fun _ => 0)))] H := hP
  have hD : va_D A [(h0, .inr (8, [.ref q_1, .ref q_2, .ref q_3, .ref q_4, .null, .int 0, .int 0])), (q_1, .inl (k.2.1, 20, .inl (fun _ => 0))), (q_2, .inl (k.2.1, 20, .inl (fun _ => 0))), (q_3, .inl (k.2.1, 20, .inl (fun _ => 0))), (q_4, .inl (k.2.1, 20, .inl (fun _ => 0)))] := hD
  refine lv_aload_n hx hb dX8_init_36 rfl (lv_at hl 0 rfl) ?_
  refine lv_bipush (v := 20) hx hb dX8_init_37 (by decide) ?_
  refine va_newaT (atype := .int) (ty := .int) (a0 := (20, .inl (fun _ => 0))) hx hb (hg (Cond.arrayClass .int) m245) rfl ra_int hK hP hD hS hA 1 rfl (fun _ => rfl) (by decide) (by decide) (Nat.le_of_ble_eq_true rfl) (Nat.le_of_ble_eq_true rfl) (Nat.le_of_ble_eq_true rfl) dX8_init_39 (fun q_5 H hP hD hS => ?_)
  have hP : va_P D classes [(h0, .inr (8, [.ref q_1, .ref q_2, .ref q_3, .ref q_4, .null, .int 0, .int 0])), (q_1, .inl (k.2.1, 20, .inl (fun _ => 0))), (q_2, .inl (k.2.1, 20, .inl (fun _ => 0))), (q_3, .inl (k.2.1, 20, .inl (fun _ => 0))), (q_4, .inl (k.2.1, 20, .inl (fun _ => 0))), (q_5, .inl (k.2.1, 20, .inl (fun _ => 0)))] H := hP
  have hD : va_D A [(h0, .inr (8, [.ref q_1, .ref q_2, .ref q_3, .ref q_4, .null, .int 0, .int 0])), (q_1, .inl (k.2.1, 20, .inl (fun _ => 0))), (q_2, .inl (k.2.1, 20, .inl (fun _ => 0))), (q_3, .inl (k.2.1, 20, .inl (fun _ => 0))), (q_4, .inl (k.2.1, 20, .inl (fun _ => 0))), (q_5, .inl (k.2.1, 20, .inl (fun _ => 0)))] := hD
  refine W.widen (k := 5) (n := 100) (Nat.le_of_ble_eq_true rfl) (Nat.le_of_ble_eq_true rfl) ?_
  refine va_putF (D := D) (ci := 8) (v := .ref q_5) (ty := (.array .int)) (C := RX8) (T := TX8) (N := 7) hx hb hg iX8 tyX8 tyX8_ok nmX8 hown hK hP hD hS 0 rfl rfl 4 (by decide) (hg (Cond.fieldLink RX8 24 "SlabWalk$Sights" "untold" "[I") m527) (fun _ h9 => h9) rfl hin rfl (by decide +kernel) rfl rfl (Nat.le_of_ble_eq_true rfl) dX8_init_41 (fun H locs hP hD hS => ?_)
  have hP : va_P D classes [(h0, .inr (8, [.ref q_1, .ref q_2, .ref q_3, .ref q_4, .ref q_5, .int 0, .int 0])), (q_1, .inl (k.2.1, 20, .inl (fun _ => 0))), (q_2, .inl (k.2.1, 20, .inl (fun _ => 0))), (q_3, .inl (k.2.1, 20, .inl (fun _ => 0))), (q_4, .inl (k.2.1, 20, .inl (fun _ => 0))), (q_5, .inl (k.2.1, 20, .inl (fun _ => 0)))] H := hP
  have hD : va_D A [(h0, .inr (8, [.ref q_1, .ref q_2, .ref q_3, .ref q_4, .ref q_5, .int 0, .int 0])), (q_1, .inl (k.2.1, 20, .inl (fun _ => 0))), (q_2, .inl (k.2.1, 20, .inl (fun _ => 0))), (q_3, .inl (k.2.1, 20, .inl (fun _ => 0))), (q_4, .inl (k.2.1, 20, .inl (fun _ => 0))), (q_5, .inl (k.2.1, 20, .inl (fun _ => 0)))] := hD
  exact W.vret hx hb hr (fun t ht hW => ⟨⟨(), rfl, trivial, ⟨q_1, q_2, q_3, q_4, q_5, cB_of ht hP hD⟩⟩, hS.F ht⟩) hS.2.2 dX8_init_44

set_option maxHeartbeats 4000000 in
set_option maxRecDepth 100000 in
theorem q_forget (l : Launch) (D : va_G) (k : KT) (sz : Nat) (h0 nw kp v_boxes : Nat) (v_full v_done v_undone : Int32) (f1 f2 : Nat → Int32)  : Met l yX1_forgetActs (WS yX1_forgetActs cX1_forgetActs 1 none) ({ frames := 1, cells := 0, slots := 0, locals := 40 }) (va_Pc [.ref h0] (cQ D k [(h0, .inr (1, [.ref nw, .ref kp, .ref v_boxes, .int v_full, .int v_done, .int v_undone])), (nw, .inl (k.2.1, 10, .inl f1)), (kp, .inl (k.2.1, 410, .inl f2))] sz)) (va_Qv (fun _ : Unit => True) (fun (_ : Unit) t => cB D (va_A [(h0, .inr (1, [.ref nw, .ref kp, .ref v_boxes, .int v_full, .int v_done, .int v_undone])), (nw, .inl (k.2.1, 10, .inl f1)), (kp, .inl (k.2.1, 410, .inl f2))] sz) [(h0, .inr (1, [.ref nw, .ref kp, .ref v_boxes, .int v_full, .int 0, .int 0])), (nw, .inl (k.2.1, 10, .inl f1)), (kp, .inl (k.2.1, 410, .inl (va_cpy f1 f2 (0 : Int32).toNatClampNeg (0 : Int32).toNatClampNeg (10 : Int32).toNatClampNeg)))] t) (va_A [(h0, .inr (1, [.ref nw, .ref kp, .ref v_boxes, .int v_full, .int v_done, .int v_undone])), (nw, .inl (k.2.1, 10, .inl f1)), (kp, .inl (k.2.1, 410, .inl f2))] sz)) 0 0 (va_A [(h0, .inr (1, [.ref nw, .ref kp, .ref v_boxes, .int v_full, .int v_done, .int v_undone])), (nw, .inl (k.2.1, 10, .inl f1)), (kp, .inl (k.2.1, 410, .inl f2))] sz) := by
  refine Met.ofW (cc := cX1_forgetActs) (maxL := 1) (ret := none) (by decide) rfl ?_
  intro p e s m args below meth c s₁ B hml hv
  obtain ⟨rfl, hsz, hP, hKX, hD0⟩ := hv
  have hK := hKX.1
  have hx := B.exec
  have hb := B.bytes
  have hr := B.returns
  have hts := atoms_spec (ws := WS yX1_forgetActs cX1_forgetActs 1 none) B.pre
  have hgd : ∀ w ∈ gd, w ∈ WS yX1_forgetActs cX1_forgetActs 1 none := fun w h => List.mem_cons_of_mem _ h
  have hg : ∀ w ∈ gd, w.before _ s = true := fun w h => hts w (hgd w h)
  have hown : s.vm.findClass RX1 = some m.cls := findClass_of_methodNamed B.named
  have hlocks := B.notSynchronized
  subst hsz
  have hD := hD0.self (sz := s.heap.size)
  generalize hAe : va_A [(h0, .inr (1, [.ref nw, .ref kp, .ref v_boxes, .int v_full, .int v_done, .int v_undone])), (nw, .inl (k.2.1, 10, .inl f1)), (kp, .inl (k.2.1, 410, .inl f2))] s.heap.size = A at hD ⊢
  have hA : ∀ q : Nat, s.heap.size ≤ q → A q := fun q h => by rw [← hAe]; exact Or.inr h
  have hS : va_S A s.heap s.heap [] := va_S.rf
  have hP : va_P D classes [(h0, .inr (1, [.ref nw, .ref kp, .ref v_boxes, .int v_full, .int v_done, .int v_undone])), (nw, .inl (k.2.1, 10, .inl f1)), (kp, .inl (k.2.1, 410, .inl f2))] s.heap := hP
  have hl := lv_entry ([.ref h0]) (n := 1) (Nat.le_of_ble_eq_true rfl)
  rw [lg_entry_eq]
  generalize (lg_sl ([.ref h0]) ++ List.replicate (1 - (lg_sl ([.ref h0])).length) Slot.unset).toArray = ls at hl ⊢
  have hl : lv_has ls 1 [(0, .ref h0)] := hl
  refine lv_aload_n hx hb dX1_forgetActs_0 rfl (lv_at hl 0 rfl) ?_
  refine lv_iconst (v := 0) hx hb dX1_forgetActs_1 (by decide) ?_
  refine va_put (D := D) (ci := 1) (v := .int 0) (ty := .int) (C := RX1) (T := TX1) (N := 6) hx hb hg iX1 tyX1 tyX1_ok nmX1 hown hK hP hD hS 0 rfl rfl 4 (by decide) (hg (Cond.fieldLink RX1 34 "SlabWalk$Earnest" "done" "I") m497) (fun _ h9 => h9) rfl (by decide +kernel) rfl rfl (Nat.le_of_ble_eq_true rfl) dX1_forgetActs_2 (fun H locs hP hD hS => ?_)
  have hP : va_P D classes [(h0, .inr (1, [.ref nw, .ref kp, .ref v_boxes, .int v_full, .int 0, .int v_undone])), (nw, .inl (k.2.1, 10, .inl f1)), (kp, .inl (k.2.1, 410, .inl f2))] H := hP
  have hD : va_D A [(h0, .inr (1, [.ref nw, .ref kp, .ref v_boxes, .int v_full, .int 0, .int v_undone])), (nw, .inl (k.2.1, 10, .inl f1)), (kp, .inl (k.2.1, 410, .inl f2))] := hD
  refine lv_aload_n hx hb dX1_forgetActs_5 rfl (lv_at hl 0 rfl) ?_
  refine lv_iconst (v := 0) hx hb dX1_forgetActs_6 (by decide) ?_
  refine va_put (D := D) (ci := 1) (v := .int 0) (ty := .int) (C := RX1) (T := TX1) (N := 6) hx hb hg iX1 tyX1 tyX1_ok nmX1 hown hK hP hD hS 0 rfl rfl 5 (by decide) (hg (Cond.fieldLink RX1 37 "SlabWalk$Earnest" "undone" "I") m499) (fun _ h9 => h9) rfl (by decide +kernel) rfl rfl (Nat.le_of_ble_eq_true rfl) dX1_forgetActs_7 (fun H locs hP hD hS => ?_)
  have hP : va_P D classes [(h0, .inr (1, [.ref nw, .ref kp, .ref v_boxes, .int v_full, .int 0, .int 0])), (nw, .inl (k.2.1, 10, .inl f1)), (kp, .inl (k.2.1, 410, .inl f2))] H := hP
  have hD : va_D A [(h0, .inr (1, [.ref nw, .ref kp, .ref v_boxes, .int v_full, .int 0, .int 0])), (nw, .inl (k.2.1, 10, .inl f1)), (kp, .inl (k.2.1, 410, .inl f2))] := hD
  refine lv_aload_n hx hb dX1_forgetActs_10 rfl (lv_at hl 0 rfl) ?_
  refine va_get (D := D) (ci := 1) (v := .ref nw) (C := RX1) (T := TX1) (N := 6) hx hb hg iX1 hown hK hP 0 rfl rfl 0 (by decide) (hg (Cond.fieldLink RX1 11 "SlabWalk$Earnest" "now" "[I") m492) (fun _ h9 => h9) rfl dX1_forgetActs_11 ?_
  refine lv_iconst (v := 0) hx hb dX1_forgetActs_14 (by decide) ?_
  refine lv_aload_n hx hb dX1_forgetActs_15 rfl (lv_at hl 0 rfl) ?_
  refine va_get (D := D) (ci := 1) (v := .ref kp) (C := RX1) (T := TX1) (N := 6) hx hb hg iX1 hown hK hP 0 rfl rfl 1 (by decide) (hg (Cond.fieldLink RX1 15 "SlabWalk$Earnest" "kept" "[I") m494) (fun _ h9 => h9) rfl dX1_forgetActs_16 ?_
  refine lv_iconst (v := 0) hx hb dX1_forgetActs_19 (by decide) ?_
  refine lv_bipush (v := 10) hx hb dX1_forgetActs_20 (by decide) ?_
  refine va_copyi hx hb (by rw [hml]; exact hl.1.symm) hown (hg (Cond.methodLink RX1 40 arraycopyName) m567) (hg (Cond.native arraycopyName) m569) (hg (Cond.static arraycopyName) m568) (hg (Cond.initialized "java/lang/System") m130) hK hP hD hS 1 2 1 1 rfl rfl rfl rfl rfl (by decide) (by decide) (by decide) (by decide) (by decide) (fun _ _ => rfl) (Nat.le_of_ble_eq_true rfl) (by decide +kernel) dX1_forgetActs_22 (fun H locs hP hD hS => ?_)
  have hP : va_P D classes [(h0, .inr (1, [.ref nw, .ref kp, .ref v_boxes, .int v_full, .int 0, .int 0])), (nw, .inl (k.2.1, 10, .inl f1)), (kp, .inl (k.2.1, 410, .inl (va_cpy f1 f2 (0 : Int32).toNatClampNeg (0 : Int32).toNatClampNeg (10 : Int32).toNatClampNeg)))] H := hP
  have hD : va_D A [(h0, .inr (1, [.ref nw, .ref kp, .ref v_boxes, .int v_full, .int 0, .int 0])), (nw, .inl (k.2.1, 10, .inl f1)), (kp, .inl (k.2.1, 410, .inl (va_cpy f1 f2 (0 : Int32).toNatClampNeg (0 : Int32).toNatClampNeg (10 : Int32).toNatClampNeg)))] := hD
  exact W.vret hx hb hr (fun t ht hW => ⟨⟨(), rfl, trivial, cB_of ht hP hD⟩, hS.F ht⟩) hS.2.2 dX1_forgetActs_25

set_option maxHeartbeats 4000000 in
set_option maxRecDepth 100000 in
theorem q_anewE (l : Launch) (D : va_G) (k : KT) (sz : Nat) (h0 nw kp v_boxes : Nat) (p0 v_full v_done v_undone : Int32) (f1 f2 : Nat → Int32)  : Met l yX1_startAnew (WS yX1_startAnew cX1_startAnew 2 none) ({ frames := 2, cells := 0, slots := 0, locals := 60 }) (va_Pc [.ref h0, .int p0] (cQ D k [(h0, .inr (1, [.ref nw, .ref kp, .ref v_boxes, .int v_full, .int v_done, .int v_undone])), (nw, .inl (k.2.1, 10, .inl f1)), (kp, .inl (k.2.1, 410, .inl f2))] sz)) (va_Qv (fun _ : Unit => True) (fun (_ : Unit) t => cB D (va_A [(h0, .inr (1, [.ref nw, .ref kp, .ref v_boxes, .int v_full, .int v_done, .int v_undone])), (nw, .inl (k.2.1, 10, .inl f1)), (kp, .inl (k.2.1, 410, .inl f2))] sz) [(h0, .inr (1, [.ref nw, .ref kp, .ref v_boxes, .int 0, .int 0, .int 0])), (nw, .inl (k.2.1, 10, .inl (upd (upd (upd (upd (upd (upd (upd (upd (upd (upd (upd (upd f1 0 0) 1 0) 2 0) 3 0) 4 0) 5 0) 6 0) 7 0) 8 0) 9 0) 0 (-1)) 7 p0))), (kp, .inl (k.2.1, 410, .inl (va_cpy (upd (upd (upd (upd (upd (upd (upd (upd (upd (upd (upd (upd f1 0 0) 1 0) 2 0) 3 0) 4 0) 5 0) 6 0) 7 0) 8 0) 9 0) 0 (-1)) 7 p0) f2 (0 : Int32).toNatClampNeg (0 : Int32).toNatClampNeg (10 : Int32).toNatClampNeg)))] t) (va_A [(h0, .inr (1, [.ref nw, .ref kp, .ref v_boxes, .int v_full, .int v_done, .int v_undone])), (nw, .inl (k.2.1, 10, .inl f1)), (kp, .inl (k.2.1, 410, .inl f2))] sz)) 0 0 (va_A [(h0, .inr (1, [.ref nw, .ref kp, .ref v_boxes, .int v_full, .int v_done, .int v_undone])), (nw, .inl (k.2.1, 10, .inl f1)), (kp, .inl (k.2.1, 410, .inl f2))] sz) := by
  refine Met.ofW (cc := cX1_startAnew) (maxL := 2) (ret := none) (by decide) rfl ?_
  intro p e s m args below meth c s₁ B hml hv
  obtain ⟨rfl, hsz, hP, hKX, hD0⟩ := hv
  have hK := hKX.1
  have hx := B.exec
  have hb := B.bytes
  have hr := B.returns
  have hts := atoms_spec (ws := WS yX1_startAnew cX1_startAnew 2 none) B.pre
  have hgd : ∀ w ∈ gd, w ∈ WS yX1_startAnew cX1_startAnew 2 none := fun w h => List.mem_cons_of_mem _ h
  have hg : ∀ w ∈ gd, w.before _ s = true := fun w h => hts w (hgd w h)
  have hown : s.vm.findClass RX1 = some m.cls := findClass_of_methodNamed B.named
  have hlocks := B.notSynchronized
  subst hsz
  have hD := hD0.self (sz := s.heap.size)
  generalize hAe : va_A [(h0, .inr (1, [.ref nw, .ref kp, .ref v_boxes, .int v_full, .int v_done, .int v_undone])), (nw, .inl (k.2.1, 10, .inl f1)), (kp, .inl (k.2.1, 410, .inl f2))] s.heap.size = A at hD ⊢
  have hA : ∀ q : Nat, s.heap.size ≤ q → A q := fun q h => by rw [← hAe]; exact Or.inr h
  have hS : va_S A s.heap s.heap [] := va_S.rf
  have hP : va_P D classes [(h0, .inr (1, [.ref nw, .ref kp, .ref v_boxes, .int v_full, .int v_done, .int v_undone])), (nw, .inl (k.2.1, 10, .inl f1)), (kp, .inl (k.2.1, 410, .inl f2))] s.heap := hP
  have hl := lv_entry ([.ref h0, .int p0]) (n := 2) (Nat.le_of_ble_eq_true rfl)
  rw [lg_entry_eq]
  generalize (lg_sl ([.ref h0, .int p0]) ++ List.replicate (2 - (lg_sl ([.ref h0, .int p0])).length) Slot.unset).toArray = ls at hl ⊢
  have hl : lv_has ls 2 [(0, .ref h0), (1, .int p0)] := hl
  refine lv_aload_n hx hb dX1_startAnew_0 rfl (lv_at hl 0 rfl) ?_
  refine va_get (D := D) (ci := 1) (v := .ref nw) (C := RX1) (T := TX1) (N := 6) hx hb hg iX1 hown hK hP 0 rfl rfl 0 (by decide) (hg (Cond.fieldLink RX1 11 "SlabWalk$Earnest" "now" "[I") m492) (fun _ h9 => h9) rfl dX1_startAnew_1 ?_
  refine lv_iconst (v := 0) hx hb dX1_startAnew_4 (by decide) ?_
  have hPc := hP.sub (ws' := [(nw, .inl (k.2.1, 10, .inl f1))]) [1] rfl
  have hDc := hD.sub (ws' := [(nw, .inl (k.2.1, 10, .inl f1))]) [1] (by decide +kernel) rfl
  have hFc := va_free (wc := [(nw, .inl (k.2.1, 10, .inl f1))]) hD hS hA [1] rfl
  refine va_callv (va_runS (As := [.ref nw, .int 0]) (rest := []) ⟨hx, hb, hml, hown, hts⟩ (q_fill10 l D k s.heap.size nw 0 f1) (va_cwS 2 hts (gd_S hgd m562 m556 m129 m557) rfl rfl rfl hd_J7_fill_53178.2 ⟨Nat.le_of_ble_eq_true rfl, Nat.le_of_ble_eq_true rfl⟩) (cQ_S hPc hKX hDc) rfl rfl hl.1 rfl (lv_room (Nat.le_of_ble_eq_true rfl)) dX1_startAnew_5 ⟨Nat.le_of_ble_eq_true rfl, Nat.le_of_ble_eq_true rfl⟩) hS (fun q _ h => hFc q h) hFc (fun u t H1 locs ht hvm hw hB hz1 hk1 hS => ?_)
  obtain ⟨hP1, hD1⟩ := hB
  rw [ht] at hP1
  obtain ⟨hP, hD⟩ := va_join (wr := [(h0, .inr (1, [.ref nw, .ref kp, .ref v_boxes, .int v_full, .int v_done, .int v_undone])), (kp, .inl (k.2.1, 410, .inl f2))]) (w1 := [(nw, .inl (k.2.1, 10, .inl (upd (upd (upd (upd (upd (upd (upd (upd (upd (upd f1 0 0) 1 0) 2 0) 3 0) 4 0) 5 0) 6 0) 7 0) 8 0) 9 0)))]) hP hD [1] [0, 2] rfl rfl (by decide +kernel) (by decide +kernel) hk1 hFc hP1 hD1
  generalize H1 = H at hP hS ⊢
  have hP : va_P D classes [(h0, .inr (1, [.ref nw, .ref kp, .ref v_boxes, .int v_full, .int v_done, .int v_undone])), (kp, .inl (k.2.1, 410, .inl f2)), (nw, .inl (k.2.1, 10, .inl (upd (upd (upd (upd (upd (upd (upd (upd (upd (upd f1 0 0) 1 0) 2 0) 3 0) 4 0) 5 0) 6 0) 7 0) 8 0) 9 0)))] H := hP
  have hD : va_D A [(h0, .inr (1, [.ref nw, .ref kp, .ref v_boxes, .int v_full, .int v_done, .int v_undone])), (kp, .inl (k.2.1, 410, .inl f2)), (nw, .inl (k.2.1, 10, .inl (upd (upd (upd (upd (upd (upd (upd (upd (upd (upd f1 0 0) 1 0) 2 0) 3 0) 4 0) 5 0) 6 0) 7 0) 8 0) 9 0)))] := hD
  refine W.widen (k := 0) (n := 0) (Nat.le_of_ble_eq_true rfl) (Nat.le_of_ble_eq_true rfl) ?_
  refine lv_aload_n hx hb dX1_startAnew_8 rfl (lv_at hl 0 rfl) ?_
  refine va_get (D := D) (ci := 1) (v := .ref nw) (C := RX1) (T := TX1) (N := 6) hx hb hg iX1 hown hK hP 0 rfl rfl 0 (by decide) (hg (Cond.fieldLink RX1 11 "SlabWalk$Earnest" "now" "[I") m492) (fun _ h9 => h9) rfl dX1_startAnew_9 ?_
  refine lv_iconst (v := 0) hx hb dX1_startAnew_12 (by decide) ?_
  refine lv_iconst (v := (-1)) hx hb dX1_startAnew_13 (by decide) ?_
  refine va_iast hx hb hK hP hD hS 2 1 rfl rfl (show ¬ ((0 : Int32) < 0 ∨ 10 ≤ (0 : Int32).toNatClampNeg) from by decide +kernel) dX1_startAnew_14 (fun H locs hP hD hS => ?_)
  have hP : va_P D classes [(h0, .inr (1, [.ref nw, .ref kp, .ref v_boxes, .int v_full, .int v_done, .int v_undone])), (kp, .inl (k.2.1, 410, .inl f2)), (nw, .inl (k.2.1, 10, .inl (upd (upd (upd (upd (upd (upd (upd (upd (upd (upd (upd f1 0 0) 1 0) 2 0) 3 0) 4 0) 5 0) 6 0) 7 0) 8 0) 9 0) 0 (-1))))] H := hP
  have hD : va_D A [(h0, .inr (1, [.ref nw, .ref kp, .ref v_boxes, .int v_full, .int v_done, .int v_undone])), (kp, .inl (k.2.1, 410, .inl f2)), (nw, .inl (k.2.1, 10, .inl (upd (upd (upd (upd (upd (upd (upd (upd (upd (upd (upd f1 0 0) 1 0) 2 0) 3 0) 4 0) 5 0) 6 0) 7 0) 8 0) 9 0) 0 (-1))))] := hD
  refine lv_aload_n hx hb dX1_startAnew_15 rfl (lv_at hl 0 rfl) ?_
  refine va_get (D := D) (ci := 1) (v := .ref nw) (C := RX1) (T := TX1) (N := 6) hx hb hg iX1 hown hK hP 0 rfl rfl 0 (by decide) (hg (Cond.fieldLink RX1 11 "SlabWalk$Earnest" "now" "[I") m492) (fun _ h9 => h9) rfl dX1_startAnew_16 ?_
  refine lv_bipush (v := 7) hx hb dX1_startAnew_19 (by decide) ?_
  refine lv_iload_n hx hb dX1_startAnew_21 rfl (lv_at hl 1 rfl) ?_
  refine va_iast hx hb hK hP hD hS 2 1 rfl rfl (show ¬ ((7 : Int32) < 0 ∨ 10 ≤ (7 : Int32).toNatClampNeg) from by decide +kernel) dX1_startAnew_22 (fun H locs hP hD hS => ?_)
  have hP : va_P D classes [(h0, .inr (1, [.ref nw, .ref kp, .ref v_boxes, .int v_full, .int v_done, .int v_undone])), (kp, .inl (k.2.1, 410, .inl f2)), (nw, .inl (k.2.1, 10, .inl (upd (upd (upd (upd (upd (upd (upd (upd (upd (upd (upd (upd f1 0 0) 1 0) 2 0) 3 0) 4 0) 5 0) 6 0) 7 0) 8 0) 9 0) 0 (-1)) 7 p0)))] H := hP
  have hD : va_D A [(h0, .inr (1, [.ref nw, .ref kp, .ref v_boxes, .int v_full, .int v_done, .int v_undone])), (kp, .inl (k.2.1, 410, .inl f2)), (nw, .inl (k.2.1, 10, .inl (upd (upd (upd (upd (upd (upd (upd (upd (upd (upd (upd (upd f1 0 0) 1 0) 2 0) 3 0) 4 0) 5 0) 6 0) 7 0) 8 0) 9 0) 0 (-1)) 7 p0)))] := hD
  refine lv_aload_n hx hb dX1_startAnew_23 rfl (lv_at hl 0 rfl) ?_
  refine lv_iconst (v := 0) hx hb dX1_startAnew_24 (by decide) ?_
  refine va_put (D := D) (ci := 1) (v := .int 0) (ty := .int) (C := RX1) (T := TX1) (N := 6) hx hb hg iX1 tyX1 tyX1_ok nmX1 hown hK hP hD hS 0 rfl rfl 3 (by decide) (hg (Cond.fieldLink RX1 27 "SlabWalk$Earnest" "full" "I") m496) (fun _ h9 => h9) rfl (by decide +kernel) rfl rfl (Nat.le_of_ble_eq_true rfl) dX1_startAnew_25 (fun H locs hP hD hS => ?_)
  have hP : va_P D classes [(h0, .inr (1, [.ref nw, .ref kp, .ref v_boxes, .int 0, .int v_done, .int v_undone])), (kp, .inl (k.2.1, 410, .inl f2)), (nw, .inl (k.2.1, 10, .inl (upd (upd (upd (upd (upd (upd (upd (upd (upd (upd (upd (upd f1 0 0) 1 0) 2 0) 3 0) 4 0) 5 0) 6 0) 7 0) 8 0) 9 0) 0 (-1)) 7 p0)))] H := hP
  have hD : va_D A [(h0, .inr (1, [.ref nw, .ref kp, .ref v_boxes, .int 0, .int v_done, .int v_undone])), (kp, .inl (k.2.1, 410, .inl f2)), (nw, .inl (k.2.1, 10, .inl (upd (upd (upd (upd (upd (upd (upd (upd (upd (upd (upd (upd f1 0 0) 1 0) 2 0) 3 0) 4 0) 5 0) 6 0) 7 0) 8 0) 9 0) 0 (-1)) 7 p0)))] := hD
  refine lv_aload_n hx hb dX1_startAnew_28 rfl (lv_at hl 0 rfl) ?_
  have hPc := hP.sub (ws' := [(h0, .inr (1, [.ref nw, .ref kp, .ref v_boxes, .int 0, .int v_done, .int v_undone])), (nw, .inl (k.2.1, 10, .inl (upd (upd (upd (upd (upd (upd (upd (upd (upd (upd (upd (upd f1 0 0) 1 0) 2 0) 3 0) 4 0) 5 0) 6 0) 7 0) 8 0) 9 0) 0 (-1)) 7 p0))), (kp, .inl (k.2.1, 410, .inl f2))]) [0, 2, 1] rfl
  have hDc := hD.sub (ws' := [(h0, .inr (1, [.ref nw, .ref kp, .ref v_boxes, .int 0, .int v_done, .int v_undone])), (nw, .inl (k.2.1, 10, .inl (upd (upd (upd (upd (upd (upd (upd (upd (upd (upd (upd (upd f1 0 0) 1 0) 2 0) 3 0) 4 0) 5 0) 6 0) 7 0) 8 0) 9 0) 0 (-1)) 7 p0))), (kp, .inl (k.2.1, 410, .inl f2))]) [0, 2, 1] (by decide +kernel) rfl
  have hFc := va_free (wc := [(h0, .inr (1, [.ref nw, .ref kp, .ref v_boxes, .int 0, .int v_done, .int v_undone])), (nw, .inl (k.2.1, 10, .inl (upd (upd (upd (upd (upd (upd (upd (upd (upd (upd (upd (upd f1 0 0) 1 0) 2 0) 3 0) 4 0) 5 0) 6 0) 7 0) 8 0) 9 0) 0 (-1)) 7 p0))), (kp, .inl (k.2.1, 410, .inl f2))]) hD hS hA [0, 2, 1] rfl
  refine va_callv (va_runV (As := []) (rest := []) ⟨hx, hb, hml, hown, hts⟩ (q_forget l D k H.size h0 nw kp v_boxes 0 v_done v_undone (upd (upd (upd (upd (upd (upd (upd (upd (upd (upd (upd (upd f1 0 0) 1 0) 2 0) 3 0) 4 0) 5 0) 6 0) 7 0) 8 0) 9 0) 0 (-1)) 7 p0) f2) (cwV 0 hts (gd_V hgd m563 m565 m1 m127 m566) rfl rfl rfl hd_X1_forgetActs ⟨Nat.le_of_ble_eq_true rfl, Nat.le_of_ble_eq_true rfl⟩) (cQ_V hPc hKX hDc (ci := 1) (q0 := 0) rfl rfl) rfl rfl hl.1 rfl (lv_room (Nat.le_of_ble_eq_true rfl)) dX1_startAnew_29 ⟨Nat.le_of_ble_eq_true rfl, Nat.le_of_ble_eq_true rfl⟩) hS (fun q _ h => hFc q h) hFc (fun u t H1 locs ht hvm hw hB hz1 hk1 hS => ?_)
  obtain ⟨hP1, hD1⟩ := hB
  rw [ht] at hP1
  obtain ⟨hP, hD⟩ := va_join (wr := []) (w1 := [(h0, .inr (1, [.ref nw, .ref kp, .ref v_boxes, .int 0, .int 0, .int 0])), (nw, .inl (k.2.1, 10, .inl (upd (upd (upd (upd (upd (upd (upd (upd (upd (upd (upd (upd f1 0 0) 1 0) 2 0) 3 0) 4 0) 5 0) 6 0) 7 0) 8 0) 9 0) 0 (-1)) 7 p0))), (kp, .inl (k.2.1, 410, .inl (va_cpy (upd (upd (upd (upd (upd (upd (upd (upd (upd (upd (upd (upd f1 0 0) 1 0) 2 0) 3 0) 4 0) 5 0) 6 0) 7 0) 8 0) 9 0) 0 (-1)) 7 p0) f2 (0 : Int32).toNatClampNeg (0 : Int32).toNatClampNeg (10 : Int32).toNatClampNeg)))]) hP hD [0, 2, 1] [] rfl rfl (by decide +kernel) (by decide +kernel) hk1 hFc hP1 hD1
  generalize H1 = H at hP hS ⊢
  have hP : va_P D classes [(h0, .inr (1, [.ref nw, .ref kp, .ref v_boxes, .int 0, .int 0, .int 0])), (nw, .inl (k.2.1, 10, .inl (upd (upd (upd (upd (upd (upd (upd (upd (upd (upd (upd (upd f1 0 0) 1 0) 2 0) 3 0) 4 0) 5 0) 6 0) 7 0) 8 0) 9 0) 0 (-1)) 7 p0))), (kp, .inl (k.2.1, 410, .inl (va_cpy (upd (upd (upd (upd (upd (upd (upd (upd (upd (upd (upd (upd f1 0 0) 1 0) 2 0) 3 0) 4 0) 5 0) 6 0) 7 0) 8 0) 9 0) 0 (-1)) 7 p0) f2 (0 : Int32).toNatClampNeg (0 : Int32).toNatClampNeg (10 : Int32).toNatClampNeg)))] H := hP
  have hD : va_D A [(h0, .inr (1, [.ref nw, .ref kp, .ref v_boxes, .int 0, .int 0, .int 0])), (nw, .inl (k.2.1, 10, .inl (upd (upd (upd (upd (upd (upd (upd (upd (upd (upd (upd (upd f1 0 0) 1 0) 2 0) 3 0) 4 0) 5 0) 6 0) 7 0) 8 0) 9 0) 0 (-1)) 7 p0))), (kp, .inl (k.2.1, 410, .inl (va_cpy (upd (upd (upd (upd (upd (upd (upd (upd (upd (upd (upd (upd f1 0 0) 1 0) 2 0) 3 0) 4 0) 5 0) 6 0) 7 0) 8 0) 9 0) 0 (-1)) 7 p0) f2 (0 : Int32).toNatClampNeg (0 : Int32).toNatClampNeg (10 : Int32).toNatClampNeg)))] := hD
  refine W.widen (k := 0) (n := 0) (Nat.le_of_ble_eq_true rfl) (Nat.le_of_ble_eq_true rfl) ?_
  exact W.vret hx hb hr (fun t ht hW => ⟨⟨(), rfl, trivial, cB_of ht hP hD⟩, hS.F ht⟩) hS.2.2 dX1_startAnew_32

set_option maxHeartbeats 4000000 in
set_option maxRecDepth 100000 in
theorem q_lookAt (l : Launch) (D : va_G) (k : KT) (sz : Nat) (h0 h1 v_found fo v_values v_paving : Nat) (v_top : Int32) (g : Nat → Int32)  : Met l yX3_lookAt (WS yX3_lookAt cX3_lookAt 2 none) ({ frames := 1, cells := 0, slots := 0, locals := 23 }) (va_Pc [.ref h0, .ref h1] (cQ D k [(h0, .inr (3, [.ref v_found, .ref fo, .ref v_values, .int v_top, .ref v_paving])), (fo, .inl (k.2.1, 3, .inl g))] sz)) (va_Qv (fun _ : Unit => True) (fun (_ : Unit) t => cB D (va_A [(h0, .inr (3, [.ref v_found, .ref fo, .ref v_values, .int v_top, .ref v_paving])), (fo, .inl (k.2.1, 3, .inl g))] sz) [(h0, .inr (3, [.ref v_found, .ref fo, .ref v_values, .int v_top, .ref h1])), (fo, .inl (k.2.1, 3, .inl (upd (upd (upd g 0 (-1)) 1 (-1)) 2 (-1))))] t) (va_A [(h0, .inr (3, [.ref v_found, .ref fo, .ref v_values, .int v_top, .ref v_paving])), (fo, .inl (k.2.1, 3, .inl g))] sz)) 0 0 (va_A [(h0, .inr (3, [.ref v_found, .ref fo, .ref v_values, .int v_top, .ref v_paving])), (fo, .inl (k.2.1, 3, .inl g))] sz) := by
  refine Met.ofW (cc := cX3_lookAt) (maxL := 2) (ret := none) (by decide) rfl ?_
  intro p e s m args below meth c s₁ B hml hv
  obtain ⟨rfl, hsz, hP, hKX, hD0⟩ := hv
  have hK := hKX.1
  have hx := B.exec
  have hb := B.bytes
  have hr := B.returns
  have hts := atoms_spec (ws := WS yX3_lookAt cX3_lookAt 2 none) B.pre
  have hgd : ∀ w ∈ gd, w ∈ WS yX3_lookAt cX3_lookAt 2 none := fun w h => List.mem_cons_of_mem _ h
  have hg : ∀ w ∈ gd, w.before _ s = true := fun w h => hts w (hgd w h)
  have hown : s.vm.findClass RX3 = some m.cls := findClass_of_methodNamed B.named
  have hlocks := B.notSynchronized
  subst hsz
  have hD := hD0.self (sz := s.heap.size)
  generalize hAe : va_A [(h0, .inr (3, [.ref v_found, .ref fo, .ref v_values, .int v_top, .ref v_paving])), (fo, .inl (k.2.1, 3, .inl g))] s.heap.size = A at hD ⊢
  have hA : ∀ q : Nat, s.heap.size ≤ q → A q := fun q h => by rw [← hAe]; exact Or.inr h
  have hS : va_S A s.heap s.heap [] := va_S.rf
  have hP : va_P D classes [(h0, .inr (3, [.ref v_found, .ref fo, .ref v_values, .int v_top, .ref v_paving])), (fo, .inl (k.2.1, 3, .inl g))] s.heap := hP
  have hl := lv_entry ([.ref h0, .ref h1]) (n := 2) (Nat.le_of_ble_eq_true rfl)
  rw [lg_entry_eq]
  generalize (lg_sl ([.ref h0, .ref h1]) ++ List.replicate (2 - (lg_sl ([.ref h0, .ref h1])).length) Slot.unset).toArray = ls at hl ⊢
  have hl : lv_has ls 2 [(0, .ref h0), (1, .ref h1)] := hl
  refine lv_aload_n hx hb dX3_lookAt_0 rfl (lv_at hl 0 rfl) ?_
  refine lv_aload_n hx hb dX3_lookAt_1 rfl (lv_at hl 1 rfl) ?_
  refine va_put (D := D) (ci := 3) (v := .ref h1) (ty := (.object "SlabWalk$Paving")) (C := RX3) (T := TX3) (N := 5) hx hb hg iX3 tyX3 tyX3_ok nmX3 hown hK hP hD hS 0 rfl rfl 4 (by decide) (hg (Cond.fieldLink RX3 21 "SlabWalk$Lines" "paving" "LSlabWalk$Paving;") m353) (fun _ h9 => h9) rfl (by decide +kernel) rfl rfl (Nat.le_of_ble_eq_true rfl) dX3_lookAt_2 (fun H locs hP hD hS => ?_)
  have hP : va_P D classes [(h0, .inr (3, [.ref v_found, .ref fo, .ref v_values, .int v_top, .ref h1])), (fo, .inl (k.2.1, 3, .inl g))] H := hP
  have hD : va_D A [(h0, .inr (3, [.ref v_found, .ref fo, .ref v_values, .int v_top, .ref h1])), (fo, .inl (k.2.1, 3, .inl g))] := hD
  refine lv_aload_n hx hb dX3_lookAt_5 rfl (lv_at hl 0 rfl) ?_
  refine va_get (D := D) (ci := 3) (v := .ref fo) (C := RX3) (T := TX3) (N := 5) hx hb hg iX3 hown hK hP 0 rfl rfl 1 (by decide) (hg (Cond.fieldLink RX3 15 "SlabWalk$Lines" "foundOn" "[I") m350) (fun _ h9 => h9) rfl dX3_lookAt_6 ?_
  refine lv_iconst (v := (-1)) hx hb dX3_lookAt_9 (by decide) ?_
  have hPc := hP.sub (ws' := [(fo, .inl (k.2.1, 3, .inl g))]) [1] rfl
  have hDc := hD.sub (ws' := [(fo, .inl (k.2.1, 3, .inl g))]) [1] (by decide +kernel) rfl
  have hFc := va_free (wc := [(fo, .inl (k.2.1, 3, .inl g))]) hD hS hA [1] rfl
  refine va_callv (va_runS (As := [.ref fo, .int (-1)]) (rest := []) ⟨hx, hb, hml, hown, hts⟩ (q_fill3 l D k H.size fo (-1) g) (va_cwS 2 hts (gd_S hgd m555 m556 m129 m557) rfl rfl rfl hd_J7_fill_53178.2 ⟨Nat.le_of_ble_eq_true rfl, Nat.le_of_ble_eq_true rfl⟩) (cQ_S hPc hKX hDc) rfl rfl hl.1 rfl (lv_room (Nat.le_of_ble_eq_true rfl)) dX3_lookAt_10 ⟨Nat.le_of_ble_eq_true rfl, Nat.le_of_ble_eq_true rfl⟩) hS (fun q _ h => hFc q h) hFc (fun u t H1 locs ht hvm hw hB hz1 hk1 hS => ?_)
  obtain ⟨hP1, hD1⟩ := hB
  rw [ht] at hP1
  obtain ⟨hP, hD⟩ := va_join (wr := [(h0, .inr (3, [.ref v_found, .ref fo, .ref v_values, .int v_top, .ref h1]))]) (w1 := [(fo, .inl (k.2.1, 3, .inl (upd (upd (upd g 0 (-1)) 1 (-1)) 2 (-1))))]) hP hD [1] [0] rfl rfl (by decide +kernel) (by decide +kernel) hk1 hFc hP1 hD1
  generalize H1 = H at hP hS ⊢
  have hP : va_P D classes [(h0, .inr (3, [.ref v_found, .ref fo, .ref v_values, .int v_top, .ref h1])), (fo, .inl (k.2.1, 3, .inl (upd (upd (upd g 0 (-1)) 1 (-1)) 2 (-1))))] H := hP
  have hD : va_D A [(h0, .inr (3, [.ref v_found, .ref fo, .ref v_values, .int v_top, .ref h1])), (fo, .inl (k.2.1, 3, .inl (upd (upd (upd g 0 (-1)) 1 (-1)) 2 (-1))))] := hD
  refine W.widen (k := 0) (n := 0) (Nat.le_of_ble_eq_true rfl) (Nat.le_of_ble_eq_true rfl) ?_
  exact W.vret hx hb hr (fun t ht hW => ⟨⟨(), rfl, trivial, cB_of ht hP hD⟩, hS.F ht⟩) hS.2.2 dX3_lookAt_13

set_option maxHeartbeats 4000000 in
set_option maxRecDepth 100000 in
theorem q_anew (l : Launch) (D : va_G) (k : KT) (sz : Nat) (h0 pv w_spare w_tape w_reader ln w_course w_trails w_odds ea si w_lying y_length y_inches y_foot y_least y_most y_leap y_slip y_code y_codeEnd u_found fo u_values u_paving nw kp v_boxes t_walker t_street t_heel t_told t_untold : Nat) (w_taped w_lie y_streets y_walkers y_rules y_units y_coded y_hand y_slack y_draw u_top v_full v_done v_undone t_count t_time : Int32) (g f1 f2 : Nat → Int32)  : Met l yX11_startAnew (WS yX11_startAnew cX11_startAnew 1 none) ({ frames := 3, cells := 0, slots := 0, locals := 81 }) (va_Pc [.ref h0] (cQ D k [(h0, .inr (11, [.ref pv, .ref w_spare, .ref w_tape, .ref w_reader, .ref ln, .ref w_course, .ref w_trails, .ref w_odds, .ref ea, .ref si, .ref w_lying, .int w_taped, .int w_lie])), (pv, .inr (6, [.ref y_length, .ref y_inches, .ref y_foot, .ref y_least, .ref y_most, .ref y_leap, .ref y_slip, .ref y_code, .ref y_codeEnd, .int y_streets, .int y_walkers, .int y_rules, .int y_units, .int y_coded, .int y_hand, .int y_slack, .int y_draw])), (ln, .inr (3, [.ref u_found, .ref fo, .ref u_values, .int u_top, .ref u_paving])), (fo, .inl (k.2.1, 3, .inl g)), (ea, .inr (1, [.ref nw, .ref kp, .ref v_boxes, .int v_full, .int v_done, .int v_undone])), (nw, .inl (k.2.1, 10, .inl f1)), (kp, .inl (k.2.1, 410, .inl f2)), (si, .inr (8, [.ref t_walker, .ref t_street, .ref t_heel, .ref t_told, .ref t_untold, .int t_count, .int t_time]))] sz)) (va_Qv (fun _ : Unit => True) (fun (_ : Unit) t => cB D (va_A [(h0, .inr (11, [.ref pv, .ref w_spare, .ref w_tape, .ref w_reader, .ref ln, .ref w_course, .ref w_trails, .ref w_odds, .ref ea, .ref si, .ref w_lying, .int w_taped, .int w_lie])), (pv, .inr (6, [.ref y_length, .ref y_inches, .ref y_foot, .ref y_least, .ref y_most, .ref y_leap, .ref y_slip, .ref y_code, .ref y_codeEnd, .int y_streets, .int y_walkers, .int y_rules, .int y_units, .int y_coded, .int y_hand, .int y_slack, .int y_draw])), (ln, .inr (3, [.ref u_found, .ref fo, .ref u_values, .int u_top, .ref u_paving])), (fo, .inl (k.2.1, 3, .inl g)), (ea, .inr (1, [.ref nw, .ref kp, .ref v_boxes, .int v_full, .int v_done, .int v_undone])), (nw, .inl (k.2.1, 10, .inl f1)), (kp, .inl (k.2.1, 410, .inl f2)), (si, .inr (8, [.ref t_walker, .ref t_street, .ref t_heel, .ref t_told, .ref t_untold, .int t_count, .int t_time]))] sz) [(h0, .inr (11, [.ref pv, .ref w_spare, .ref w_tape, .ref w_reader, .ref ln, .ref w_course, .ref w_trails, .ref w_odds, .ref ea, .ref si, .ref w_lying, .int w_taped, .int 0])), (pv, .inr (6, [.ref y_length, .ref y_inches, .ref y_foot, .ref y_least, .ref y_most, .ref y_leap, .ref y_slip, .ref y_code, .ref y_codeEnd, .int y_streets, .int y_walkers, .int y_rules, .int y_units, .int y_coded, .int y_hand, .int y_slack, .int y_draw])), (si, .inr (8, [.ref t_walker, .ref t_street, .ref t_heel, .ref t_told, .ref t_untold, .int 0, .int t_time])), (ln, .inr (3, [.ref u_found, .ref fo, .ref u_values, .int u_top, .ref pv])), (fo, .inl (k.2.1, 3, .inl (upd (upd (upd g 0 (-1)) 1 (-1)) 2 (-1)))), (ea, .inr (1, [.ref nw, .ref kp, .ref v_boxes, .int 0, .int 0, .int 0])), (nw, .inl (k.2.1, 10, .inl (upd (upd (upd (upd (upd (upd (upd (upd (upd (upd (upd (upd f1 0 0) 1 0) 2 0) 3 0) 4 0) 5 0) 6 0) 7 0) 8 0) 9 0) 0 (-1)) 7 y_draw))), (kp, .inl (k.2.1, 410, .inl (va_cpy (upd (upd (upd (upd (upd (upd (upd (upd (upd (upd (upd (upd f1 0 0) 1 0) 2 0) 3 0) 4 0) 5 0) 6 0) 7 0) 8 0) 9 0) 0 (-1)) 7 y_draw) f2 (0 : Int32).toNatClampNeg (0 : Int32).toNatClampNeg (10 : Int32).toNatClampNeg)))] t) (va_A [(h0, .inr (11, [.ref pv, .ref w_spare, .ref w_tape, .ref w_reader, .ref ln, .ref w_course, .ref w_trails, .ref w_odds, .ref ea, .ref si, .ref w_lying, .int w_taped, .int w_lie])), (pv, .inr (6, [.ref y_length, .ref y_inches, .ref y_foot, .ref y_least, .ref y_most, .ref y_leap, .ref y_slip, .ref y_code, .ref y_codeEnd, .int y_streets, .int y_walkers, .int y_rules, .int y_units, .int y_coded, .int y_hand, .int y_slack, .int y_draw])), (ln, .inr (3, [.ref u_found, .ref fo, .ref u_values, .int u_top, .ref u_paving])), (fo, .inl (k.2.1, 3, .inl g)), (ea, .inr (1, [.ref nw, .ref kp, .ref v_boxes, .int v_full, .int v_done, .int v_undone])), (nw, .inl (k.2.1, 10, .inl f1)), (kp, .inl (k.2.1, 410, .inl f2)), (si, .inr (8, [.ref t_walker, .ref t_street, .ref t_heel, .ref t_told, .ref t_untold, .int t_count, .int t_time]))] sz)) 0 0 (va_A [(h0, .inr (11, [.ref pv, .ref w_spare, .ref w_tape, .ref w_reader, .ref ln, .ref w_course, .ref w_trails, .ref w_odds, .ref ea, .ref si, .ref w_lying, .int w_taped, .int w_lie])), (pv, .inr (6, [.ref y_length, .ref y_inches, .ref y_foot, .ref y_least, .ref y_most, .ref y_leap, .ref y_slip, .ref y_code, .ref y_codeEnd, .int y_streets, .int y_walkers, .int y_rules, .int y_units, .int y_coded, .int y_hand, .int y_slack, .int y_draw])), (ln, .inr (3, [.ref u_found, .ref fo, .ref u_values, .int u_top, .ref u_paving])), (fo, .inl (k.2.1, 3, .inl g)), (ea, .inr (1, [.ref nw, .ref kp, .ref v_boxes, .int v_full, .int v_done, .int v_undone])), (nw, .inl (k.2.1, 10, .inl f1)), (kp, .inl (k.2.1, 410, .inl f2)), (si, .inr (8, [.ref t_walker, .ref t_street, .ref t_heel, .ref t_told, .ref t_untold, .int t_count, .int t_time]))] sz) := by
  refine Met.ofW (cc := cX11_startAnew) (maxL := 1) (ret := none) (by decide) rfl ?_
  intro p e s m args below meth c s₁ B hml hv
  obtain ⟨rfl, hsz, hP, hKX, hD0⟩ := hv
  have hK := hKX.1
  have hx := B.exec
  have hb := B.bytes
  have hr := B.returns
  have hts := atoms_spec (ws := WS yX11_startAnew cX11_startAnew 1 none) B.pre
  have hgd : ∀ w ∈ gd, w ∈ WS yX11_startAnew cX11_startAnew 1 none := fun w h => List.mem_cons_of_mem _ h
  have hg : ∀ w ∈ gd, w.before _ s = true := fun w h => hts w (hgd w h)
  have hown : s.vm.findClass RX11 = some m.cls := findClass_of_methodNamed B.named
  have hlocks := B.notSynchronized
  subst hsz
  have hD := hD0.self (sz := s.heap.size)
  generalize hAe : va_A [(h0, .inr (11, [.ref pv, .ref w_spare, .ref w_tape, .ref w_reader, .ref ln, .ref w_course, .ref w_trails, .ref w_odds, .ref ea, .ref si, .ref w_lying, .int w_taped, .int w_lie])), (pv, .inr (6, [.ref y_length, .ref y_inches, .ref y_foot, .ref y_least, .ref y_most, .ref y_leap, .ref y_slip, .ref y_code, .ref y_codeEnd, .int y_streets, .int y_walkers, .int y_rules, .int y_units, .int y_coded, .int y_hand, .int y_slack, .int y_draw])), (ln, .inr (3, [.ref u_found, .ref fo, .ref u_values, .int u_top, .ref u_paving])), (fo, .inl (k.2.1, 3, .inl g)), (ea, .inr (1, [.ref nw, .ref kp, .ref v_boxes, .int v_full, .int v_done, .int v_undone])), (nw, .inl (k.2.1, 10, .inl f1)), (kp, .inl (k.2.1, 410, .inl f2)), (si, .inr (8, [.ref t_walker, .ref t_street, .ref t_heel, .ref t_told, .ref t_untold, .int t_count, .int t_time]))] s.heap.size = A at hD ⊢
  have hA : ∀ q : Nat, s.heap.size ≤ q → A q := fun q h => by rw [← hAe]; exact Or.inr h
  have hS : va_S A s.heap s.heap [] := va_S.rf
  have hP : va_P D classes [(h0, .inr (11, [.ref pv, .ref w_spare, .ref w_tape, .ref w_reader, .ref ln, .ref w_course, .ref w_trails, .ref w_odds, .ref ea, .ref si, .ref w_lying, .int w_taped, .int w_lie])), (pv, .inr (6, [.ref y_length, .ref y_inches, .ref y_foot, .ref y_least, .ref y_most, .ref y_leap, .ref y_slip, .ref y_code, .ref y_codeEnd, .int y_streets, .int y_walkers, .int y_rules, .int y_units, .int y_coded, .int y_hand, .int y_slack, .int y_draw])), (ln, .inr (3, [.ref u_found, .ref fo, .ref u_values, .int u_top, .ref u_paving])), (fo, .inl (k.2.1, 3, .inl g)), (ea, .inr (1, [.ref nw, .ref kp, .ref v_boxes, .int v_full, .int v_done, .int v_undone])), (nw, .inl (k.2.1, 10, .inl f1)), (kp, .inl (k.2.1, 410, .inl f2)), (si, .inr (8, [.ref t_walker, .ref t_street, .ref t_heel, .ref t_told, .ref t_untold, .int t_count, .int t_time]))] s.heap := hP
  have hl := lv_entry ([.ref h0]) (n := 1) (Nat.le_of_ble_eq_true rfl)
  rw [lg_entry_eq]
  generalize (lg_sl ([.ref h0]) ++ List.replicate (1 - (lg_sl ([.ref h0])).length) Slot.unset).toArray = ls at hl ⊢
  have hl : lv_has ls 1 [(0, .ref h0)] := hl
  refine lv_aload_n hx hb dX11_startAnew_0 rfl (lv_at hl 0 rfl) ?_
  refine va_get (D := D) (ci := 11) (v := .ref ln) (C := RX11) (T := TX11) (N := 13) hx hb hg iX11 hown hK hP 0 rfl rfl 4 (by decide) (hg (Cond.fieldLink RX11 37 "SlabWalk" "lines" "LSlabWalk$Lines;") m574) (fun _ h9 => h9) rfl dX11_startAnew_1 ?_
  refine lv_aload_n hx hb dX11_startAnew_4 rfl (lv_at hl 0 rfl) ?_
  refine va_get (D := D) (ci := 11) (v := .ref pv) (C := RX11) (T := TX11) (N := 13) hx hb hg iX11 hown hK hP 0 rfl rfl 0 (by decide) (hg (Cond.fieldLink RX11 10 "SlabWalk" "paving" "LSlabWalk$Paving;") m570) (fun _ h9 => h9) rfl dX11_startAnew_5 ?_
  have hPc := hP.sub (ws' := [(ln, .inr (3, [.ref u_found, .ref fo, .ref u_values, .int u_top, .ref u_paving])), (fo, .inl (k.2.1, 3, .inl g))]) [2, 3] rfl
  have hDc := hD.sub (ws' := [(ln, .inr (3, [.ref u_found, .ref fo, .ref u_values, .int u_top, .ref u_paving])), (fo, .inl (k.2.1, 3, .inl g))]) [2, 3] (by decide +kernel) rfl
  have hFc := va_free (wc := [(ln, .inr (3, [.ref u_found, .ref fo, .ref u_values, .int u_top, .ref u_paving])), (fo, .inl (k.2.1, 3, .inl g))]) hD hS hA [2, 3] rfl
  refine va_callv (va_runV (As := [.ref pv]) (rest := []) ⟨hx, hb, hml, hown, hts⟩ (q_lookAt l D k s.heap.size ln pv u_found fo u_values u_paving u_top g) (cwV 1 hts (gd_V hgd m551 m552 m553 m122 m554) rfl rfl rfl hd_X3_lookAt ⟨Nat.le_of_ble_eq_true rfl, Nat.le_of_ble_eq_true rfl⟩) (cQ_V hPc hKX hDc (ci := 3) (q0 := 0) rfl rfl) rfl rfl hl.1 rfl (lv_room (Nat.le_of_ble_eq_true rfl)) dX11_startAnew_8 ⟨Nat.le_of_ble_eq_true rfl, Nat.le_of_ble_eq_true rfl⟩) hS (fun q _ h => hFc q h) hFc (fun u t H1 locs ht hvm hw hB hz1 hk1 hS => ?_)
  obtain ⟨hP1, hD1⟩ := hB
  rw [ht] at hP1
  obtain ⟨hP, hD⟩ := va_join (wr := [(h0, .inr (11, [.ref pv, .ref w_spare, .ref w_tape, .ref w_reader, .ref ln, .ref w_course, .ref w_trails, .ref w_odds, .ref ea, .ref si, .ref w_lying, .int w_taped, .int w_lie])), (pv, .inr (6, [.ref y_length, .ref y_inches, .ref y_foot, .ref y_least, .ref y_most, .ref y_leap, .ref y_slip, .ref y_code, .ref y_codeEnd, .int y_streets, .int y_walkers, .int y_rules, .int y_units, .int y_coded, .int y_hand, .int y_slack, .int y_draw])), (ea, .inr (1, [.ref nw, .ref kp, .ref v_boxes, .int v_full, .int v_done, .int v_undone])), (nw, .inl (k.2.1, 10, .inl f1)), (kp, .inl (k.2.1, 410, .inl f2)), (si, .inr (8, [.ref t_walker, .ref t_street, .ref t_heel, .ref t_told, .ref t_untold, .int t_count, .int t_time]))]) (w1 := [(ln, .inr (3, [.ref u_found, .ref fo, .ref u_values, .int u_top, .ref pv])), (fo, .inl (k.2.1, 3, .inl (upd (upd (upd g 0 (-1)) 1 (-1)) 2 (-1))))]) hP hD [2, 3] [0, 1, 4, 5, 6, 7] rfl rfl (by decide +kernel) (by decide +kernel) hk1 hFc hP1 hD1
  generalize H1 = H at hP hS ⊢
  have hP : va_P D classes [(h0, .inr (11, [.ref pv, .ref w_spare, .ref w_tape, .ref w_reader, .ref ln, .ref w_course, .ref w_trails, .ref w_odds, .ref ea, .ref si, .ref w_lying, .int w_taped, .int w_lie])), (pv, .inr (6, [.ref y_length, .ref y_inches, .ref y_foot, .ref y_least, .ref y_most, .ref y_leap, .ref y_slip, .ref y_code, .ref y_codeEnd, .int y_streets, .int y_walkers, .int y_rules, .int y_units, .int y_coded, .int y_hand, .int y_slack, .int y_draw])), (ea, .inr (1, [.ref nw, .ref kp, .ref v_boxes, .int v_full, .int v_done, .int v_undone])), (nw, .inl (k.2.1, 10, .inl f1)), (kp, .inl (k.2.1, 410, .inl f2)), (si, .inr (8, [.ref t_walker, .ref t_street, .ref t_heel, .ref t_told, .ref t_untold, .int t_count, .int t_time])), (ln, .inr (3, [.ref u_found, .ref fo, .ref u_values, .int u_top, .ref pv])), (fo, .inl (k.2.1, 3, .inl (upd (upd (upd g 0 (-1)) 1 (-1)) 2 (-1))))] H := hP
  have hD : va_D A [(h0, .inr (11, [.ref pv, .ref w_spare, .ref w_tape, .ref w_reader, .ref ln, .ref w_course, .ref w_trails, .ref w_odds, .ref ea, .ref si, .ref w_lying, .int w_taped, .int w_lie])), (pv, .inr (6, [.ref y_length, .ref y_inches, .ref y_foot, .ref y_least, .ref y_most, .ref y_leap, .ref y_slip, .ref y_code, .ref y_codeEnd, .int y_streets, .int y_walkers, .int y_rules, .int y_units, .int y_coded, .int y_hand, .int y_slack, .int y_draw])), (ea, .inr (1, [.ref nw, .ref kp, .ref v_boxes, .int v_full, .int v_done, .int v_undone])), (nw, .inl (k.2.1, 10, .inl f1)), (kp, .inl (k.2.1, 410, .inl f2)), (si, .inr (8, [.ref t_walker, .ref t_street, .ref t_heel, .ref t_told, .ref t_untold, .int t_count, .int t_time])), (ln, .inr (3, [.ref u_found, .ref fo, .ref u_values, .int u_top, .ref pv])), (fo, .inl (k.2.1, 3, .inl (upd (upd (upd g 0 (-1)) 1 (-1)) 2 (-1))))] := hD
  refine W.widen (k := 0) (n := 0) (Nat.le_of_ble_eq_true rfl) (Nat.le_of_ble_eq_true rfl) ?_
  refine lv_aload_n hx hb dX11_startAnew_11 rfl (lv_at hl 0 rfl) ?_
  refine va_get (D := D) (ci := 11) (v := .ref ea) (C := RX11) (T := TX11) (N := 13) hx hb hg iX11 hown hK hP 0 rfl rfl 8 (by decide) (hg (Cond.fieldLink RX11 65 "SlabWalk" "earnest" "LSlabWalk$Earnest;") m578) (fun _ h9 => h9) rfl dX11_startAnew_12 ?_
  refine lv_aload_n hx hb dX11_startAnew_15 rfl (lv_at hl 0 rfl) ?_
  refine va_get (D := D) (ci := 11) (v := .ref pv) (C := RX11) (T := TX11) (N := 13) hx hb hg iX11 hown hK hP 0 rfl rfl 0 (by decide) (hg (Cond.fieldLink RX11 10 "SlabWalk" "paving" "LSlabWalk$Paving;") m570) (fun _ h9 => h9) rfl dX11_startAnew_16 ?_
  refine va_get (D := D) (ci := 6) (v := .int y_draw) (C := RX6) (T := TX6) (N := 17) hx hb hg iX6 hown hK hP 1 rfl rfl 16 (by decide) (hg (Cond.fieldLink RX11 323 "SlabWalk$Paving" "draw" "I") m209) (fun _ h9 => h9) rfl dX11_startAnew_19 ?_
  have hPc := hP.sub (ws' := [(ea, .inr (1, [.ref nw, .ref kp, .ref v_boxes, .int v_full, .int v_done, .int v_undone])), (nw, .inl (k.2.1, 10, .inl f1)), (kp, .inl (k.2.1, 410, .inl f2))]) [2, 3, 4] rfl
  have hDc := hD.sub (ws' := [(ea, .inr (1, [.ref nw, .ref kp, .ref v_boxes, .int v_full, .int v_done, .int v_undone])), (nw, .inl (k.2.1, 10, .inl f1)), (kp, .inl (k.2.1, 410, .inl f2))]) [2, 3, 4] (by decide +kernel) rfl
  have hFc := va_free (wc := [(ea, .inr (1, [.ref nw, .ref kp, .ref v_boxes, .int v_full, .int v_done, .int v_undone])), (nw, .inl (k.2.1, 10, .inl f1)), (kp, .inl (k.2.1, 410, .inl f2))]) hD hS hA [2, 3, 4] rfl
  refine va_callv (va_runV (As := [.int y_draw]) (rest := []) ⟨hx, hb, hml, hown, hts⟩ (q_anewE l D k H.size ea nw kp v_boxes y_draw v_full v_done v_undone f1 f2) (cwV 1 hts (gd_V hgd m558 m559 m560 m127 m561) rfl rfl rfl hd_X1_startAnew ⟨Nat.le_of_ble_eq_true rfl, Nat.le_of_ble_eq_true rfl⟩) (cQ_V hPc hKX hDc (ci := 1) (q0 := 0) rfl rfl) rfl rfl hl.1 rfl (lv_room (Nat.le_of_ble_eq_true rfl)) dX11_startAnew_22 ⟨Nat.le_of_ble_eq_true rfl, Nat.le_of_ble_eq_true rfl⟩) hS (fun q _ h => hFc q h) hFc (fun u t H1 locs ht hvm hw hB hz1 hk1 hS => ?_)
  obtain ⟨hP1, hD1⟩ := hB
  rw [ht] at hP1
  obtain ⟨hP, hD⟩ := va_join (wr := [(h0, .inr (11, [.ref pv, .ref w_spare, .ref w_tape, .ref w_reader, .ref ln, .ref w_course, .ref w_trails, .ref w_odds, .ref ea, .ref si, .ref w_lying, .int w_taped, .int w_lie])), (pv, .inr (6, [.ref y_length, .ref y_inches, .ref y_foot, .ref y_least, .ref y_most, .ref y_leap, .ref y_slip, .ref y_code, .ref y_codeEnd, .int y_streets, .int y_walkers, .int y_rules, .int y_units, .int y_coded, .int y_hand, .int y_slack, .int y_draw])), (si, .inr (8, [.ref t_walker, .ref t_street, .ref t_heel, .ref t_told, .ref t_untold, .int t_count, .int t_time])), (ln, .inr (3, [.ref u_found, .ref fo, .ref u_values, .int u_top, .ref pv])), (fo, .inl (k.2.1, 3, .inl (upd (upd (upd g 0 (-1)) 1 (-1)) 2 (-1))))]) (w1 := [(ea, .inr (1, [.ref nw, .ref kp, .ref v_boxes, .int 0, .int 0, .int 0])), (nw, .inl (k.2.1, 10, .inl (upd (upd (upd (upd (upd (upd (upd (upd (upd (upd (upd (upd f1 0 0) 1 0) 2 0) 3 0) 4 0) 5 0) 6 0) 7 0) 8 0) 9 0) 0 (-1)) 7 y_draw))), (kp, .inl (k.2.1, 410, .inl (va_cpy (upd (upd (upd (upd (upd (upd (upd (upd (upd (upd (upd (upd f1 0 0) 1 0) 2 0) 3 0) 4 0) 5 0) 6 0) 7 0) 8 0) 9 0) 0 (-1)) 7 y_draw) f2 (0 : Int32).toNatClampNeg (0 : Int32).toNatClampNeg (10 : Int32).toNatClampNeg)))]) hP hD [2, 3, 4] [0, 1, 5, 6, 7] rfl rfl (by decide +kernel) (by decide +kernel) hk1 hFc hP1 hD1
  generalize H1 = H at hP hS ⊢
  have hP : va_P D classes [(h0, .inr (11, [.ref pv, .ref w_spare, .ref w_tape, .ref w_reader, .ref ln, .ref w_course, .ref w_trails, .ref w_odds, .ref ea, .ref si, .ref w_lying, .int w_taped, .int w_lie])), (pv, .inr (6, [.ref y_length, .ref y_inches, .ref y_foot, .ref y_least, .ref y_most, .ref y_leap, .ref y_slip, .ref y_code, .ref y_codeEnd, .int y_streets, .int y_walkers, .int y_rules, .int y_units, .int y_coded, .int y_hand, .int y_slack, .int y_draw])), (si, .inr (8, [.ref t_walker, .ref t_street, .ref t_heel, .ref t_told, .ref t_untold, .int t_count, .int t_time])), (ln, .inr (3, [.ref u_found, .ref fo, .ref u_values, .int u_top, .ref pv])), (fo, .inl (k.2.1, 3, .inl (upd (upd (upd g 0 (-1)) 1 (-1)) 2 (-1)))), (ea, .inr (1, [.ref nw, .ref kp, .ref v_boxes, .int 0, .int 0, .int 0])), (nw, .inl (k.2.1, 10, .inl (upd (upd (upd (upd (upd (upd (upd (upd (upd (upd (upd (upd f1 0 0) 1 0) 2 0) 3 0) 4 0) 5 0) 6 0) 7 0) 8 0) 9 0) 0 (-1)) 7 y_draw))), (kp, .inl (k.2.1, 410, .inl (va_cpy (upd (upd (upd (upd (upd (upd (upd (upd (upd (upd (upd (upd f1 0 0) 1 0) 2 0) 3 0) 4 0) 5 0) 6 0) 7 0) 8 0) 9 0) 0 (-1)) 7 y_draw) f2 (0 : Int32).toNatClampNeg (0 : Int32).toNatClampNeg (10 : Int32).toNatClampNeg)))] H := hP
  have hD : va_D A [(h0, .inr (11, [.ref pv, .ref w_spare, .ref w_tape, .ref w_reader, .ref ln, .ref w_course, .ref w_trails, .ref w_odds, .ref ea, .ref si, .ref w_lying, .int w_taped, .int w_lie])), (pv, .inr (6, [.ref y_length, .ref y_inches, .ref y_foot, .ref y_least, .ref y_most, .ref y_leap, .ref y_slip, .ref y_code, .ref y_codeEnd, .int y_streets, .int y_walkers, .int y_rules, .int y_units, .int y_coded, .int y_hand, .int y_slack, .int y_draw])), (si, .inr (8, [.ref t_walker, .ref t_street, .ref t_heel, .ref t_told, .ref t_untold, .int t_count, .int t_time])), (ln, .inr (3, [.ref u_found, .ref fo, .ref u_values, .int u_top, .ref pv])), (fo, .inl (k.2.1, 3, .inl (upd (upd (upd g 0 (-1)) 1 (-1)) 2 (-1)))), (ea, .inr (1, [.ref nw, .ref kp, .ref v_boxes, .int 0, .int 0, .int 0])), (nw, .inl (k.2.1, 10, .inl (upd (upd (upd (upd (upd (upd (upd (upd (upd (upd (upd (upd f1 0 0) 1 0) 2 0) 3 0) 4 0) 5 0) 6 0) 7 0) 8 0) 9 0) 0 (-1)) 7 y_draw))), (kp, .inl (k.2.1, 410, .inl (va_cpy (upd (upd (upd (upd (upd (upd (upd (upd (upd (upd (upd (upd f1 0 0) 1 0) 2 0) 3 0) 4 0) 5 0) 6 0) 7 0) 8 0) 9 0) 0 (-1)) 7 y_draw) f2 (0 : Int32).toNatClampNeg (0 : Int32).toNatClampNeg (10 : Int32).toNatClampNeg)))] := hD
  refine W.widen (k := 0) (n := 0) (Nat.le_of_ble_eq_true rfl) (Nat.le_of_ble_eq_true rfl) ?_
  refine lv_aload_n hx hb dX11_startAnew_25 rfl (lv_at hl 0 rfl) ?_
  refine va_get (D := D) (ci := 11) (v := .ref si) (C := RX11) (T := TX11) (N := 13) hx hb hg iX11 hown hK hP 0 rfl rfl 9 (by decide) (hg (Cond.fieldLink RX11 72 "SlabWalk" "sights" "LSlabWalk$Sights;") m579) (fun _ h9 => h9) rfl dX11_startAnew_26 ?_
  refine lv_iconst (v := 0) hx hb dX11_startAnew_29 (by decide) ?_
  refine va_put (D := D) (ci := 8) (v := .int 0) (ty := .int) (C := RX8) (T := TX8) (N := 7) hx hb hg iX8 tyX8 tyX8_ok nmX8 hown hK hP hD hS 2 rfl rfl 5 (by decide) (hg (Cond.fieldLink RX11 285 "SlabWalk$Sights" "count" "I") m529) (fun _ h9 => h9) rfl (by decide +kernel) rfl rfl (Nat.le_of_ble_eq_true rfl) dX11_startAnew_30 (fun H locs hP hD hS => ?_)
  have hP : va_P D classes [(h0, .inr (11, [.ref pv, .ref w_spare, .ref w_tape, .ref w_reader, .ref ln, .ref w_course, .ref w_trails, .ref w_odds, .ref ea, .ref si, .ref w_lying, .int w_taped, .int w_lie])), (pv, .inr (6, [.ref y_length, .ref y_inches, .ref y_foot, .ref y_least, .ref y_most, .ref y_leap, .ref y_slip, .ref y_code, .ref y_codeEnd, .int y_streets, .int y_walkers, .int y_rules, .int y_units, .int y_coded, .int y_hand, .int y_slack, .int y_draw])), (si, .inr (8, [.ref t_walker, .ref t_street, .ref t_heel, .ref t_told, .ref t_untold, .int 0, .int t_time])), (ln, .inr (3, [.ref u_found, .ref fo, .ref u_values, .int u_top, .ref pv])), (fo, .inl (k.2.1, 3, .inl (upd (upd (upd g 0 (-1)) 1 (-1)) 2 (-1)))), (ea, .inr (1, [.ref nw, .ref kp, .ref v_boxes, .int 0, .int 0, .int 0])), (nw, .inl (k.2.1, 10, .inl (upd (upd (upd (upd (upd (upd (upd (upd (upd (upd (upd (upd f1 0 0) 1 0) 2 0) 3 0) 4 0) 5 0) 6 0) 7 0) 8 0) 9 0) 0 (-1)) 7 y_draw))), (kp, .inl (k.2.1, 410, .inl (va_cpy (upd (upd (upd (upd (upd (upd (upd (upd (upd (upd (upd (upd f1 0 0) 1 0) 2 0) 3 0) 4 0) 5 0) 6 0) 7 0) 8 0) 9 0) 0 (-1)) 7 y_draw) f2 (0 : Int32).toNatClampNeg (0 : Int32).toNatClampNeg (10 : Int32).toNatClampNeg)))] H := hP
  have hD : va_D A [(h0, .inr (11, [.ref pv, .ref w_spare, .ref w_tape, .ref w_reader, .ref ln, .ref w_course, .ref w_trails, .ref w_odds, .ref ea, .ref si, .ref w_lying, .int w_taped, .int w_lie])), (pv, .inr (6, [.ref y_length, .ref y_inches, .ref y_foot, .ref y_least, .ref y_most, .ref y_leap, .ref y_slip, .ref y_code, .ref y_codeEnd, .int y_streets, .int y_walkers, .int y_rules, .int y_units, .int y_coded, .int y_hand, .int y_slack, .int y_draw])), (si, .inr (8, [.ref t_walker, .ref t_street, .ref t_heel, .ref t_told, .ref t_untold, .int 0, .int t_time])), (ln, .inr (3, [.ref u_found, .ref fo, .ref u_values, .int u_top, .ref pv])), (fo, .inl (k.2.1, 3, .inl (upd (upd (upd g 0 (-1)) 1 (-1)) 2 (-1)))), (ea, .inr (1, [.ref nw, .ref kp, .ref v_boxes, .int 0, .int 0, .int 0])), (nw, .inl (k.2.1, 10, .inl (upd (upd (upd (upd (upd (upd (upd (upd (upd (upd (upd (upd f1 0 0) 1 0) 2 0) 3 0) 4 0) 5 0) 6 0) 7 0) 8 0) 9 0) 0 (-1)) 7 y_draw))), (kp, .inl (k.2.1, 410, .inl (va_cpy (upd (upd (upd (upd (upd (upd (upd (upd (upd (upd (upd (upd f1 0 0) 1 0) 2 0) 3 0) 4 0) 5 0) 6 0) 7 0) 8 0) 9 0) 0 (-1)) 7 y_draw) f2 (0 : Int32).toNatClampNeg (0 : Int32).toNatClampNeg (10 : Int32).toNatClampNeg)))] := hD
  refine lv_aload_n hx hb dX11_startAnew_33 rfl (lv_at hl 0 rfl) ?_
  refine lv_iconst (v := 0) hx hb dX11_startAnew_34 (by decide) ?_
  refine va_put (D := D) (ci := 11) (v := .int 0) (ty := .int) (C := RX11) (T := TX11) (N := 13) hx hb hg iX11 tyX11 tyX11_ok nmX11 hown hK hP hD hS 0 rfl rfl 12 (by decide) (hg (Cond.fieldLink RX11 150 "SlabWalk" "lie" "I") m582) (fun _ h9 => h9) rfl (by decide +kernel) rfl rfl (Nat.le_of_ble_eq_true rfl) dX11_startAnew_35 (fun H locs hP hD hS => ?_)
  have hP : va_P D classes [(h0, .inr (11, [.ref pv, .ref w_spare, .ref w_tape, .ref w_reader, .ref ln, .ref w_course, .ref w_trails, .ref w_odds, .ref ea, .ref si, .ref w_lying, .int w_taped, .int 0])), (pv, .inr (6, [.ref y_length, .ref y_inches, .ref y_foot, .ref y_least, .ref y_most, .ref y_leap, .ref y_slip, .ref y_code, .ref y_codeEnd, .int y_streets, .int y_walkers, .int y_rules, .int y_units, .int y_coded, .int y_hand, .int y_slack, .int y_draw])), (si, .inr (8, [.ref t_walker, .ref t_street, .ref t_heel, .ref t_told, .ref t_untold, .int 0, .int t_time])), (ln, .inr (3, [.ref u_found, .ref fo, .ref u_values, .int u_top, .ref pv])), (fo, .inl (k.2.1, 3, .inl (upd (upd (upd g 0 (-1)) 1 (-1)) 2 (-1)))), (ea, .inr (1, [.ref nw, .ref kp, .ref v_boxes, .int 0, .int 0, .int 0])), (nw, .inl (k.2.1, 10, .inl (upd (upd (upd (upd (upd (upd (upd (upd (upd (upd (upd (upd f1 0 0) 1 0) 2 0) 3 0) 4 0) 5 0) 6 0) 7 0) 8 0) 9 0) 0 (-1)) 7 y_draw))), (kp, .inl (k.2.1, 410, .inl (va_cpy (upd (upd (upd (upd (upd (upd (upd (upd (upd (upd (upd (upd f1 0 0) 1 0) 2 0) 3 0) 4 0) 5 0) 6 0) 7 0) 8 0) 9 0) 0 (-1)) 7 y_draw) f2 (0 : Int32).toNatClampNeg (0 : Int32).toNatClampNeg (10 : Int32).toNatClampNeg)))] H := hP
  have hD : va_D A [(h0, .inr (11, [.ref pv, .ref w_spare, .ref w_tape, .ref w_reader, .ref ln, .ref w_course, .ref w_trails, .ref w_odds, .ref ea, .ref si, .ref w_lying, .int w_taped, .int 0])), (pv, .inr (6, [.ref y_length, .ref y_inches, .ref y_foot, .ref y_least, .ref y_most, .ref y_leap, .ref y_slip, .ref y_code, .ref y_codeEnd, .int y_streets, .int y_walkers, .int y_rules, .int y_units, .int y_coded, .int y_hand, .int y_slack, .int y_draw])), (si, .inr (8, [.ref t_walker, .ref t_street, .ref t_heel, .ref t_told, .ref t_untold, .int 0, .int t_time])), (ln, .inr (3, [.ref u_found, .ref fo, .ref u_values, .int u_top, .ref pv])), (fo, .inl (k.2.1, 3, .inl (upd (upd (upd g 0 (-1)) 1 (-1)) 2 (-1)))), (ea, .inr (1, [.ref nw, .ref kp, .ref v_boxes, .int 0, .int 0, .int 0])), (nw, .inl (k.2.1, 10, .inl (upd (upd (upd (upd (upd (upd (upd (upd (upd (upd (upd (upd f1 0 0) 1 0) 2 0) 3 0) 4 0) 5 0) 6 0) 7 0) 8 0) 9 0) 0 (-1)) 7 y_draw))), (kp, .inl (k.2.1, 410, .inl (va_cpy (upd (upd (upd (upd (upd (upd (upd (upd (upd (upd (upd (upd f1 0 0) 1 0) 2 0) 3 0) 4 0) 5 0) 6 0) 7 0) 8 0) 9 0) 0 (-1)) 7 y_draw) f2 (0 : Int32).toNatClampNeg (0 : Int32).toNatClampNeg (10 : Int32).toNatClampNeg)))] := hD
  exact W.vret hx hb hr (fun t ht hW => ⟨⟨(), rfl, trivial, cB_of ht hP hD⟩, hS.F ht⟩) hS.2.2 dX11_startAnew_38
