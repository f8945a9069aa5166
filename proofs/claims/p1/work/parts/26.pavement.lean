set_option maxHeartbeats 4000000 in
set_option maxRecDepth 100000 in
theorem c_X9_advance (l : Launch) (D : va_G) (k : ClassId × ClassId × ClassId × ClassId) (sz : Nat) (h0 tp : Nat) (K : List Value) (g_K_text : K[0]? = some (.ref tp)) (g_K_size : K[1]? = some (.int 0)) (g_K_at : K[2]? = some (.int 0)) (g_K_kind : K[3]? = some (.int 0)) (g_K_place : K[4]? = some (.int 0)) (g_K_fault : K[7]? = some (.int 0)) (g_K_faultPlace : K[8]? = some (.int (-1))) : Met l yX9_advance (WS yX9_advance cX9_advance 2 (some .boolean)) ({ frames := 0, cells := 0, slots := 0, locals := 0 }) (va_Pc [.ref h0] (cP D k [(h0, .inr (9, K))] sz)) (va_Qi (fun (r : Int32) (_ : Unit) => r = 1) (fun (_ : Unit) t => ∃ (K2 : List Value), K2[0]? = some (.ref tp) ∧ K2[3]? = some (.int 203) ∧ K2[7]? = some (.int 0) ∧ K2[8]? = some (.int (-1)) ∧ cB D (va_A [(h0, .inr (9, K))] sz) [(h0, .inr (9, K2))] t) (va_A [(h0, .inr (9, K))] sz)) 0 0 (va_A [(h0, .inr (9, K))] sz) := by
  refine Met.ofW (cc := cX9_advance) (maxL := 2) (ret := (some .boolean)) (by decide) rfl ?_
  intro p e s m args below meth c s₁ B hml hv
  obtain ⟨rfl, hsz, hP, hKX, hD0⟩ := hv
  have hK := hKX.1
  have hx := B.exec
  have hb := B.bytes
  have hr := B.returns
  have hts := atoms_spec (ws := WS yX9_advance cX9_advance 2 (some .boolean)) B.pre
  have hgd : ∀ w ∈ gd, w ∈ WS yX9_advance cX9_advance 2 (some .boolean) := fun w h => List.mem_cons_of_mem _ h
  have hg : ∀ w ∈ gd, w.before _ s = true := fun w h => hts w (hgd w h)
  have hown : s.vm.findClass RX9 = some m.cls := findClass_of_methodNamed B.named
  have hlocks := B.notSynchronized
  subst hsz
  have hD := hD0.self (sz := s.heap.size)
  generalize hAe : va_A [(h0, .inr (9, K))] s.heap.size = A at hD ⊢
  have hA : ∀ q : Nat, s.heap.size ≤ q → A q := fun q h => by rw [← hAe]; exact Or.inr h
  have hS : va_S A s.heap s.heap [] := va_S.rf
  have hP : va_P D classes [(h0, .inr (9, K))] s.heap := hP
  have hl := lv_entry ([.ref h0]) (n := 2) (Nat.le_of_ble_eq_true rfl)
  rw [lg_entry_eq]
  generalize (lg_sl ([.ref h0]) ++ List.replicate (2 - (lg_sl ([.ref h0])).length) Slot.unset).toArray = ls at hl ⊢
  have hl : lv_has ls 2 [(0, .ref h0)] := hl
  refine lv_aload_n hx hb dX9_advance_0 rfl (lv_at hl 0 rfl) ?_
  refine va_get (D := D) (ci := 9) (v := .int 0) (C := RX9) (T := TX9) (N := 9) hx hb hg iX9 hown hK hP 0 rfl rfl 2 (by decide) (hg (Cond.fieldLink RX9 28 "SlabWalk$Tokens" "at" "I") m260) (fun _ h9 => h9) g_K_at dX9_advance_1 ?_
  refine lv_aload_n hx hb dX9_advance_4 rfl (lv_at hl 0 rfl) ?_
  refine va_get (D := D) (ci := 9) (v := .int 0) (C := RX9) (T := TX9) (N := 9) hx hb hg iX9 hown hK hP 0 rfl rfl 1 (by decide) (hg (Cond.fieldLink RX9 25 "SlabWalk$Tokens" "size" "I") m259) (fun _ h9 => h9) g_K_size dX9_advance_5 ?_
  refine lv_icmp_ge (tgt := 52) hx hb dX9_advance_8 (by decide) (fun c_1 => ?_) (fun c_1 => ?_)
  · have c_1 : (0 : Int32) ≤ 0 := c_1
    refine lv_aload_n hx hb dX9_advance_52 rfl (lv_at hl 0 rfl) ?_
    refine lv_aload_n hx hb dX9_advance_53 rfl (lv_at hl 0 rfl) ?_
    refine va_get (D := D) (ci := 9) (v := .int 0) (C := RX9) (T := TX9) (N := 9) hx hb hg iX9 hown hK hP 0 rfl rfl 2 (by decide) (hg (Cond.fieldLink RX9 28 "SlabWalk$Tokens" "at" "I") m260) (fun _ h9 => h9) g_K_at dX9_advance_54 ?_
    refine va_put (D := D) (ci := 9) (v := .int 0) (ty := .int) (C := RX9) (T := TX9) (N := 9) hx hb hg iX9 tyX9 tyX9_ok nmX9 hown hK hP hD hS 0 rfl rfl 4 (by decide) (hg (Cond.fieldLink RX9 41 "SlabWalk$Tokens" "place" "I") m264) (fun _ h9 => h9) rfl (by decide +kernel) rfl rfl (fs_lt g_K_place) dX9_advance_57 (fun H locs hP hD hS => ?_)
    have hP : va_P D classes [(h0, .inr (9, (K.set 4 (.int 0))))] H := hP
    have hD : va_D A [(h0, .inr (9, (K.set 4 (.int 0))))] := hD
    refine lv_aload_n hx hb dX9_advance_60 rfl (lv_at hl 0 rfl) ?_
    refine va_get (D := D) (ci := 9) (v := .int 0) (C := RX9) (T := TX9) (N := 9) hx hb hg iX9 hown hK hP 0 rfl rfl 2 (by decide) (hg (Cond.fieldLink RX9 28 "SlabWalk$Tokens" "at" "I") m260) (fun _ h9 => h9) (fs_ne g_K_at (by decide)) dX9_advance_61 ?_
    refine lv_aload_n hx hb dX9_advance_64 rfl (lv_at hl 0 rfl) ?_
    refine va_get (D := D) (ci := 9) (v := .int 0) (C := RX9) (T := TX9) (N := 9) hx hb hg iX9 hown hK hP 0 rfl rfl 1 (by decide) (hg (Cond.fieldLink RX9 25 "SlabWalk$Tokens" "size" "I") m259) (fun _ h9 => h9) (fs_ne g_K_size (by decide)) dX9_advance_65 ?_
    refine lv_icmp_lt (tgt := 81) hx hb dX9_advance_68 (by decide) (fun c_2 => ?_) (fun c_2 => ?_)
    · exact absurd c_2 (by decide)
    · have c_2 : ¬ ((0 : Int32) < 0) := c_2
      refine lv_aload_n hx hb dX9_advance_71 rfl (lv_at hl 0 rfl) ?_
      refine lv_sipush (v := 203) hx hb dX9_advance_72 (by decide) ?_
      refine va_put (D := D) (ci := 9) (v := .int 203) (ty := .int) (C := RX9) (T := TX9) (N := 9) hx hb hg iX9 tyX9 tyX9_ok nmX9 hown hK hP hD hS 0 rfl rfl 3 (by decide) (hg (Cond.fieldLink RX9 38 "SlabWalk$Tokens" "kind" "I") m262) (fun _ h9 => h9) rfl (by decide +kernel) rfl rfl (fs_lt (fs_ne g_K_kind (by decide))) dX9_advance_75 (fun H locs hP hD hS => ?_)
      have hP : va_P D classes [(h0, .inr (9, ((K.set 4 (.int 0)).set 3 (.int 203))))] H := hP
      have hD : va_D A [(h0, .inr (9, ((K.set 4 (.int 0)).set 3 (.int 203))))] := hD
      refine lv_goto (tgt := 159) hx hb dX9_advance_78 (by decide) ?_
      refine lv_iconst (v := 1) hx hb dX9_advance_159 (by decide) ?_
      have hP9 := hP.sub (ws' := [(h0, .inr (9, ((K.set 4 (.int 0)).set 3 (.int 203))))]) [0] rfl
      have hD9 := hD.sub (ws' := [(h0, .inr (9, ((K.set 4 (.int 0)).set 3 (.int 203))))]) [0] (by decide) rfl
      exact W.zret (v := 1) hx hb hr (by decide) (fun t ht hW => ⟨⟨1, (), rfl, rfl, ⟨((K.set 4 (.int 0)).set 3 (.int 203)), (fs_ne (fs_ne g_K_text (by decide)) (by decide)), (fs_eq (fs_ne g_K_kind (by decide))), (fs_ne (fs_ne g_K_fault (by decide)) (by decide)), (fs_ne (fs_ne g_K_faultPlace (by decide)) (by decide)), cB_of ht hP9 hD9⟩⟩, hS.F ht⟩) hS.2.2 dX9_advance_160
  · exact absurd (by decide) c_1

set_option maxHeartbeats 4000000 in
set_option maxRecDepth 100000 in
theorem c_X9_open (l : Launch) (D : va_G) (k : ClassId × ClassId × ClassId × ClassId) (sz : Nat) (h0 tp : Nat) (K : List Value) (f : Nat → Int32) (g_K_text : K[0]? = some (.ref tp)) (g_K_size : K[1]? = some (.int 0)) (g_K_at : K[2]? = some (.int 0)) (g_K_kind : K[3]? = some (.int 0)) (g_K_place : K[4]? = some (.int 0)) (g_K_fault : K[7]? = some (.int 0)) (g_K_faultPlace : K[8]? = some (.int (-1))) : Met l yX9_open (WS yX9_open cX9_open 2 none) ({ frames := 1, cells := 0, slots := 0, locals := 21 }) (va_Pc [.ref h0, .int 0] (cP D k [(h0, .inr (9, K)), (tp, .inl (k.1, 1600, .inl f))] sz)) (va_Qv (fun _ : Unit => True) (fun (_ : Unit) t => ∃ (K2 : List Value), K2[0]? = some (.ref tp) ∧ K2[3]? = some (.int 203) ∧ K2[7]? = some (.int 0) ∧ K2[8]? = some (.int (-1)) ∧ cB D (va_A [(h0, .inr (9, K)), (tp, .inl (k.1, 1600, .inl f))] sz) [(h0, .inr (9, K2))] t) (va_A [(h0, .inr (9, K)), (tp, .inl (k.1, 1600, .inl f))] sz)) 0 0 (va_A [(h0, .inr (9, K)), (tp, .inl (k.1, 1600, .inl f))] sz) := by
  refine Met.ofW (cc := cX9_open) (maxL := 2) (ret := none) (by decide) rfl ?_
  intro p e s m args below meth c s₁ B hml hv
  obtain ⟨rfl, hsz, hP, hKX, hD0⟩ := hv
  have hK := hKX.1
  have hx := B.exec
  have hb := B.bytes
  have hr := B.returns
  have hts := atoms_spec (ws := WS yX9_open cX9_open 2 none) B.pre
  have hgd : ∀ w ∈ gd, w ∈ WS yX9_open cX9_open 2 none := fun w h => List.mem_cons_of_mem _ h
  have hg : ∀ w ∈ gd, w.before _ s = true := fun w h => hts w (hgd w h)
  have hown : s.vm.findClass RX9 = some m.cls := findClass_of_methodNamed B.named
  have hlocks := B.notSynchronized
  subst hsz
  have hD := hD0.self (sz := s.heap.size)
  generalize hAe : va_A [(h0, .inr (9, K)), (tp, .inl (k.1, 1600, .inl f))] s.heap.size = A at hD ⊢
  have hA : ∀ q : Nat, s.heap.size ≤ q → A q := fun q h => by rw [← hAe]; exact Or.inr h
  have hS : va_S A s.heap s.heap [] := va_S.rf
  have hP : va_P D classes [(h0, .inr (9, K)), (tp, .inl (k.1, 1600, .inl f))] s.heap := hP
  have hl := lv_entry ([.ref h0, .int 0]) (n := 2) (Nat.le_of_ble_eq_true rfl)
  rw [lg_entry_eq]
  generalize (lg_sl ([.ref h0, .int 0]) ++ List.replicate (2 - (lg_sl ([.ref h0, .int 0])).length) Slot.unset).toArray = ls at hl ⊢
  have hl : lv_has ls 2 [(0, .ref h0), (1, .int 0)] := hl
  refine lv_aload_n hx hb dX9_open_0 rfl (lv_at hl 0 rfl) ?_
  refine lv_iload_n hx hb dX9_open_1 rfl (lv_at hl 1 rfl) ?_
  refine lv_aload_n hx hb dX9_open_2 rfl (lv_at hl 0 rfl) ?_
  refine va_get (D := D) (ci := 9) (v := .ref tp) (C := RX9) (T := TX9) (N := 9) hx hb hg iX9 hown hK hP 0 rfl rfl 0 (by decide) (hg (Cond.fieldLink RX9 15 "SlabWalk$Tokens" "text" "[B") m258) (fun _ h9 => h9) g_K_text dX9_open_3 ?_
  refine va_alen (v := 1600) hx hb hK hP 1 0 rfl rfl rfl dX9_open_6 ?_
  refine va_mmin hx hb (by rw [hml]; exact hl.1.symm) hown (hg (Cond.methodLink RX9 19 Lib.Math.min.name) m635) (hg (Cond.static Lib.Math.min.name) m636) (hg (Cond.initialized "java/lang/Math") m132) (hg (Cond.code Lib.Math.min.name Lib.Math.min.code 2 (some .int)) m637) (Nat.le_of_ble_eq_true rfl) (Nat.le_of_ble_eq_true rfl) (Nat.le_of_ble_eq_true rfl) (Nat.le_of_ble_eq_true rfl) dX9_open_7 ?_
  refine lv_topi (fun y_1 ey_1 => ?_)
  obtain rfl : y_1 = 0 := ey_1.trans (by decide)
  refine va_put (D := D) (ci := 9) (v := .int 0) (ty := .int) (C := RX9) (T := TX9) (N := 9) hx hb hg iX9 tyX9 tyX9_ok nmX9 hown hK hP hD hS 0 rfl rfl 1 (by decide) (hg (Cond.fieldLink RX9 25 "SlabWalk$Tokens" "size" "I") m259) (fun _ h9 => h9) rfl (by decide +kernel) rfl rfl (fs_lt g_K_size) dX9_open_10 (fun H locs hP hD hS => ?_)
  have hP : va_P D classes [(h0, .inr (9, (K.set 1 (.int 0)))), (tp, .inl (k.1, 1600, .inl f))] H := hP
  have hD : va_D A [(h0, .inr (9, (K.set 1 (.int 0)))), (tp, .inl (k.1, 1600, .inl f))] := hD
  refine lv_aload_n hx hb dX9_open_13 rfl (lv_at hl 0 rfl) ?_
  refine lv_iconst (v := 0) hx hb dX9_open_14 (by decide) ?_
  refine va_put (D := D) (ci := 9) (v := .int 0) (ty := .int) (C := RX9) (T := TX9) (N := 9) hx hb hg iX9 tyX9 tyX9_ok nmX9 hown hK hP hD hS 0 rfl rfl 2 (by decide) (hg (Cond.fieldLink RX9 28 "SlabWalk$Tokens" "at" "I") m260) (fun _ h9 => h9) rfl (by decide +kernel) rfl rfl (fs_lt (fs_ne g_K_at (by decide))) dX9_open_15 (fun H locs hP hD hS => ?_)
  have hP : va_P D classes [(h0, .inr (9, ((K.set 1 (.int 0)).set 2 (.int 0)))), (tp, .inl (k.1, 1600, .inl f))] H := hP
  have hD : va_D A [(h0, .inr (9, ((K.set 1 (.int 0)).set 2 (.int 0)))), (tp, .inl (k.1, 1600, .inl f))] := hD
  refine lv_aload_n hx hb dX9_open_18 rfl (lv_at hl 0 rfl) ?_
  refine lv_iconst (v := 0) hx hb dX9_open_19 (by decide) ?_
  refine va_put (D := D) (ci := 9) (v := .int 0) (ty := .int) (C := RX9) (T := TX9) (N := 9) hx hb hg iX9 tyX9 tyX9_ok nmX9 hown hK hP hD hS 0 rfl rfl 7 (by decide) (hg (Cond.fieldLink RX9 31 "SlabWalk$Tokens" "fault" "I") m270) (fun _ h9 => h9) rfl (by decide +kernel) rfl rfl (fs_lt (fs_ne (fs_ne g_K_fault (by decide)) (by decide))) dX9_open_20 (fun H locs hP hD hS => ?_)
  have hP : va_P D classes [(h0, .inr (9, (((K.set 1 (.int 0)).set 2 (.int 0)).set 7 (.int 0)))), (tp, .inl (k.1, 1600, .inl f))] H := hP
  have hD : va_D A [(h0, .inr (9, (((K.set 1 (.int 0)).set 2 (.int 0)).set 7 (.int 0)))), (tp, .inl (k.1, 1600, .inl f))] := hD
  refine lv_aload_n hx hb dX9_open_23 rfl (lv_at hl 0 rfl) ?_
  refine lv_iconst (v := (-1)) hx hb dX9_open_24 (by decide) ?_
  refine va_put (D := D) (ci := 9) (v := .int (-1)) (ty := .int) (C := RX9) (T := TX9) (N := 9) hx hb hg iX9 tyX9 tyX9_ok nmX9 hown hK hP hD hS 0 rfl rfl 8 (by decide) (hg (Cond.fieldLink RX9 9 "SlabWalk$Tokens" "faultPlace" "I") m272) (fun _ h9 => h9) rfl (by decide +kernel) rfl rfl (fs_lt (fs_ne (fs_ne (fs_ne g_K_faultPlace (by decide)) (by decide)) (by decide))) dX9_open_25 (fun H locs hP hD hS => ?_)
  have hP : va_P D classes [(h0, .inr (9, ((((K.set 1 (.int 0)).set 2 (.int 0)).set 7 (.int 0)).set 8 (.int (-1))))), (tp, .inl (k.1, 1600, .inl f))] H := hP
  have hD : va_D A [(h0, .inr (9, ((((K.set 1 (.int 0)).set 2 (.int 0)).set 7 (.int 0)).set 8 (.int (-1))))), (tp, .inl (k.1, 1600, .inl f))] := hD
  refine lv_aload_n hx hb dX9_open_28 rfl (lv_at hl 0 rfl) ?_
  have hPc := hP.sub (ws' := [(h0, .inr (9, ((((K.set 1 (.int 0)).set 2 (.int 0)).set 7 (.int 0)).set 8 (.int (-1)))))]) [0] rfl
  have hDc := hD.sub (ws' := [(h0, .inr (9, ((((K.set 1 (.int 0)).set 2 (.int 0)).set 7 (.int 0)).set 8 (.int (-1)))))]) [0] (by decide) rfl
  have hFc := va_free (wc := [(h0, .inr (9, ((((K.set 1 (.int 0)).set 2 (.int 0)).set 7 (.int 0)).set 8 (.int (-1)))))]) hD hS hA [0] rfl
  refine va_calli (va_runV (As := []) (rest := []) ⟨hx, hb, hml, hown, hts⟩ (c_X9_advance l D k H.size h0 tp ((((K.set 1 (.int 0)).set 2 (.int 0)).set 7 (.int 0)).set 8 (.int (-1))) (fs_ne (fs_ne (fs_ne (fs_ne g_K_text (by decide)) (by decide)) (by decide)) (by decide)) (fs_ne (fs_ne (fs_ne (fs_eq g_K_size) (by decide)) (by decide)) (by decide)) (fs_ne (fs_ne (fs_eq (fs_ne g_K_at (by decide))) (by decide)) (by decide)) (fs_ne (fs_ne (fs_ne (fs_ne g_K_kind (by decide)) (by decide)) (by decide)) (by decide)) (fs_ne (fs_ne (fs_ne (fs_ne g_K_place (by decide)) (by decide)) (by decide)) (by decide)) (fs_ne (fs_eq (fs_ne (fs_ne g_K_fault (by decide)) (by decide))) (by decide)) (fs_eq (fs_ne (fs_ne (fs_ne g_K_faultPlace (by decide)) (by decide)) (by decide)))) (cwV 0 hts (gd_V hgd m638 m639 m640 m120 m641) rfl rfl rfl (by decide +kernel) ⟨Nat.le_of_ble_eq_true rfl, Nat.le_of_ble_eq_true rfl⟩) (cP_V hPc hKX hDc (ci := 9) (q0 := 0) rfl rfl) rfl rfl hl.1 rfl (lv_room (Nat.le_of_ble_eq_true rfl)) dX9_open_29 ⟨Nat.le_of_ble_eq_true rfl, Nat.le_of_ble_eq_true rfl⟩) hS (fun q _ h => hFc q h) hFc (fun r_2 u t H1 locs ht hvm hw hB hz1 hk1 hS => ?_)
  obtain ⟨z_3, g_4, g_5, g_6, g_7, hP1, hD1⟩ := hB
  rw [ht] at hP1
  obtain ⟨hP, hD⟩ := va_join (wr := [(tp, .inl (k.1, 1600, .inl f))]) (w1 := [(h0, .inr (9, z_3))]) hP hD [0] [1] rfl rfl (by decide) (by decide) hk1 hFc hP1 hD1
  generalize H1 = H at hP hS ⊢
  have hP : va_P D classes [(tp, .inl (k.1, 1600, .inl f)), (h0, .inr (9, z_3))] H := hP
  have hD : va_D A [(tp, .inl (k.1, 1600, .inl f)), (h0, .inr (9, z_3))] := hD
  refine W.widen (k := 0) (n := 0) (Nat.le_of_ble_eq_true rfl) (Nat.le_of_ble_eq_true rfl) ?_
  subst hw
  refine lv_pop hx hb dX9_open_32 rfl ?_
  have hP9 := hP.sub (ws' := [(h0, .inr (9, z_3))]) [1] rfl
  have hD9 := hD.sub (ws' := [(h0, .inr (9, z_3))]) [1] (by decide) rfl
  exact W.vret hx hb hr (fun t ht hW => ⟨⟨(), rfl, trivial, ⟨z_3, g_4, g_5, g_6, g_7, cB_of ht hP9 hD9⟩⟩, hS.F ht⟩) hS.2.2 dX9_open_33

set_option maxHeartbeats 4000000 in
set_option maxRecDepth 100000 in
theorem c_X7_read (l : Launch) (D : va_G) (k : ClassId × ClassId × ClassId × ClassId) (sz : Nat) (h0 sp tk sl2 tp : Nat) (Rd P2 K : List Value) (g2 : Nat → Int32) (f : Nat → Int32) (g_Rd_tokens : Rd[0]? = some (.ref tk)) (g_Rd_paving : Rd[5]? = some (.ref sp)) (g_Rd_slipTold : Rd[6]? = some (.int 0)) (g_Rd_handTold : Rd[7]? = some (.int 0)) (g_Rd_drawTold : Rd[8]? = some (.int 0)) (g_P2_walkers : P2[10]? = some (.int 0)) (g_P2_rules : P2[11]? = some (.int 0)) (g_P2_units : P2[12]? = some (.int 0)) (g_P2_coded : P2[13]? = some (.int 0)) (g_P2_hand : P2[14]? = some (.int 30)) (g_P2_slack : P2[15]? = some (.int 10)) (g_P2_draw : P2[16]? = some (.int 0)) (g_P2_slip : P2[6]? = some (.ref sl2)) (g_P2_streets : P2[9]? = some (.int 0)) (g_K_text : K[0]? = some (.ref tp)) (g_K_size : K[1]? = some (.int 0)) (g_K_at : K[2]? = some (.int 0)) (g_K_kind : K[3]? = some (.int 0)) (g_K_place : K[4]? = some (.int 0)) (g_K_fault : K[7]? = some (.int 0)) (g_K_faultPlace : K[8]? = some (.int (-1))) : Met l yX7_read (WS yX7_read cX7_read 5 (some .boolean)) ({ frames := 2, cells := 0, slots := 0, locals := 42 }) (va_Pc [.ref h0, .int 0, .ref sp] (cP D k [(h0, .inr (7, Rd)), (sp, .inr (6, P2)), (sl2, .inl (k.2.1, 3, .inl g2)), (tk, .inr (9, K)), (tp, .inl (k.1, 1600, .inl f))] sz)) (va_Qi (fun (r : Int32) (_ : Unit) => r = 1) (fun (_ : Unit) t => ∃ (P3 : List Value), P3[16]? = some (.int 0) ∧ P3[9]? = some (.int 0) ∧ cB D (va_A [(h0, .inr (7, Rd)), (sp, .inr (6, P2)), (sl2, .inl (k.2.1, 3, .inl g2)), (tk, .inr (9, K)), (tp, .inl (k.1, 1600, .inl f))] sz) [(sp, .inr (6, P3))] t) (va_A [(h0, .inr (7, Rd)), (sp, .inr (6, P2)), (sl2, .inl (k.2.1, 3, .inl g2)), (tk, .inr (9, K)), (tp, .inl (k.1, 1600, .inl f))] sz)) 0 0 (va_A [(h0, .inr (7, Rd)), (sp, .inr (6, P2)), (sl2, .inl (k.2.1, 3, .inl g2)), (tk, .inr (9, K)), (tp, .inl (k.1, 1600, .inl f))] sz) := by
  refine Met.ofW (cc := cX7_read) (maxL := 5) (ret := (some .boolean)) (by decide) rfl ?_
  intro p e s m args below meth c s₁ B hml hv
  obtain ⟨rfl, hsz, hP, hKX, hD0⟩ := hv
  have hK := hKX.1
  have hx := B.exec
  have hb := B.bytes
  have hr := B.returns
  have hts := atoms_spec (ws := WS yX7_read cX7_read 5 (some .boolean)) B.pre
  have hgd : ∀ w ∈ gd, w ∈ WS yX7_read cX7_read 5 (some .boolean) := fun w h => List.mem_cons_of_mem _ h
  have hg : ∀ w ∈ gd, w.before _ s = true := fun w h => hts w (hgd w h)
  have hown : s.vm.findClass RX7 = some m.cls := findClass_of_methodNamed B.named
  have hlocks := B.notSynchronized
  subst hsz
  have hD := hD0.self (sz := s.heap.size)
  generalize hAe : va_A [(h0, .inr (7, Rd)), (sp, .inr (6, P2)), (sl2, .inl (k.2.1, 3, .inl g2)), (tk, .inr (9, K)), (tp, .inl (k.1, 1600, .inl f))] s.heap.size = A at hD ⊢
  have hA : ∀ q : Nat, s.heap.size ≤ q → A q := fun q h => by rw [← hAe]; exact Or.inr h
  have hS : va_S A s.heap s.heap [] := va_S.rf
  have hP : va_P D classes [(h0, .inr (7, Rd)), (sp, .inr (6, P2)), (sl2, .inl (k.2.1, 3, .inl g2)), (tk, .inr (9, K)), (tp, .inl (k.1, 1600, .inl f))] s.heap := hP
  have hl := lv_entry ([.ref h0, .int 0, .ref sp]) (n := 5) (Nat.le_of_ble_eq_true rfl)
  rw [lg_entry_eq]
  generalize (lg_sl ([.ref h0, .int 0, .ref sp]) ++ List.replicate (5 - (lg_sl ([.ref h0, .int 0, .ref sp])).length) Slot.unset).toArray = ls at hl ⊢
  have hl : lv_has ls 5 [(0, .ref h0), (1, .int 0), (2, .ref sp)] := hl
  refine lv_aload_n hx hb dX7_read_0 rfl (lv_at hl 0 rfl) ?_
  refine lv_aload_n hx hb dX7_read_1 rfl (lv_at hl 2 rfl) ?_
  refine va_put (D := D) (ci := 7) (v := .ref sp) (ty := (.object "SlabWalk$Paving")) (C := RX7) (T := TX7) (N := 10) hx hb hg iX7 tyX7 tyX7_ok nmX7 hown hK hP hD hS 0 rfl rfl 5 (by decide) (hg (Cond.fieldLink RX7 39 "SlabWalk$Reader" "paving" "LSlabWalk$Paving;") m317) (fun _ h9 => h9) rfl (by decide +kernel) rfl rfl (fs_lt g_Rd_paving) dX7_read_2 (fun H locs hP hD hS => ?_)
  have hP : va_P D classes [(h0, .inr (7, (Rd.set 5 (.ref sp)))), (sp, .inr (6, P2)), (sl2, .inl (k.2.1, 3, .inl g2)), (tk, .inr (9, K)), (tp, .inl (k.1, 1600, .inl f))] H := hP
  have hD : va_D A [(h0, .inr (7, (Rd.set 5 (.ref sp)))), (sp, .inr (6, P2)), (sl2, .inl (k.2.1, 3, .inl g2)), (tk, .inr (9, K)), (tp, .inl (k.1, 1600, .inl f))] := hD
  refine lv_aload_n hx hb dX7_read_5 rfl (lv_at hl 0 rfl) ?_
  refine va_get (D := D) (ci := 7) (v := .ref sp) (C := RX7) (T := TX7) (N := 10) hx hb hg iX7 hown hK hP 0 rfl rfl 5 (by decide) (hg (Cond.fieldLink RX7 39 "SlabWalk$Reader" "paving" "LSlabWalk$Paving;") m317) (fun _ h9 => h9) (fs_eq g_Rd_paving) dX7_read_6 ?_
  have hPc := hP.sub (ws' := [(sp, .inr (6, P2)), (sl2, .inl (k.2.1, 3, .inl g2))]) [1, 2] rfl
  have hDc := hD.sub (ws' := [(sp, .inr (6, P2)), (sl2, .inl (k.2.1, 3, .inl g2))]) [1, 2] (by decide) rfl
  have hFc := va_free (wc := [(sp, .inr (6, P2)), (sl2, .inl (k.2.1, 3, .inl g2))]) hD hS hA [1, 2] rfl
  refine va_callv (va_runV (As := []) (rest := []) ⟨hx, hb, hml, hown, hts⟩ (c_X6_empty l D k H.size sp sl2 P2 g2 0 0 0 0 0 30 10 0 g_P2_walkers g_P2_rules g_P2_units g_P2_coded g_P2_hand g_P2_slack g_P2_draw g_P2_slip g_P2_streets) (cwV 0 hts (gd_V hgd m630 m153 m154 m118 m155) rfl rfl rfl (by decide +kernel) ⟨Nat.le_of_ble_eq_true rfl, Nat.le_of_ble_eq_true rfl⟩) (cP_V hPc hKX hDc (ci := 6) (q0 := 0) rfl rfl) rfl rfl hl.1 rfl (lv_room (Nat.le_of_ble_eq_true rfl)) dX7_read_9 ⟨Nat.le_of_ble_eq_true rfl, Nat.le_of_ble_eq_true rfl⟩) hS (fun q _ h => hFc q h) hFc (fun u t H1 locs ht hvm hw hB hz1 hk1 hS => ?_)
  obtain ⟨z_2, z_3, g_4, g_5, g_6, g_7, g_8, g_9, g_10, g_11, g_12, g_13, g_14, g_15, hP1, hD1⟩ := hB
  rw [ht] at hP1
  obtain ⟨hP, hD⟩ := va_join (wr := [(h0, .inr (7, (Rd.set 5 (.ref sp)))), (tk, .inr (9, K)), (tp, .inl (k.1, 1600, .inl f))]) (w1 := [(sp, .inr (6, z_2)), (sl2, .inl (k.2.1, 3, .inl z_3))]) hP hD [1, 2] [0, 3, 4] rfl rfl (by decide) (by decide) hk1 hFc hP1 hD1
  generalize H1 = H at hP hS ⊢
  have hP : va_P D classes [(h0, .inr (7, (Rd.set 5 (.ref sp)))), (tk, .inr (9, K)), (tp, .inl (k.1, 1600, .inl f)), (sp, .inr (6, z_2)), (sl2, .inl (k.2.1, 3, .inl z_3))] H := hP
  have hD : va_D A [(h0, .inr (7, (Rd.set 5 (.ref sp)))), (tk, .inr (9, K)), (tp, .inl (k.1, 1600, .inl f)), (sp, .inr (6, z_2)), (sl2, .inl (k.2.1, 3, .inl z_3))] := hD
  refine W.widen (k := 0) (n := 0) (Nat.le_of_ble_eq_true rfl) (Nat.le_of_ble_eq_true rfl) ?_
  refine lv_aload_n hx hb dX7_read_12 rfl (lv_at hl 0 rfl) ?_
  refine lv_iconst (v := 0) hx hb dX7_read_13 (by decide) ?_
  refine va_put (D := D) (ci := 7) (v := .int 0) (ty := .boolean) (C := RX7) (T := TX7) (N := 10) hx hb hg iX7 tyX7 tyX7_ok nmX7 hown hK hP hD hS 0 rfl rfl 6 (by decide) (hg (Cond.fieldLink RX7 48 "SlabWalk$Reader" "slipTold" "Z") m318) (fun _ h9 => h9) rfl (by decide +kernel) rfl rfl (fs_lt (fs_ne g_Rd_slipTold (by decide))) dX7_read_14 (fun H locs hP hD hS => ?_)
  have hP : va_P D classes [(h0, .inr (7, ((Rd.set 5 (.ref sp)).set 6 (.int 0)))), (tk, .inr (9, K)), (tp, .inl (k.1, 1600, .inl f)), (sp, .inr (6, z_2)), (sl2, .inl (k.2.1, 3, .inl z_3))] H := hP
  have hD : va_D A [(h0, .inr (7, ((Rd.set 5 (.ref sp)).set 6 (.int 0)))), (tk, .inr (9, K)), (tp, .inl (k.1, 1600, .inl f)), (sp, .inr (6, z_2)), (sl2, .inl (k.2.1, 3, .inl z_3))] := hD
  refine lv_aload_n hx hb dX7_read_17 rfl (lv_at hl 0 rfl) ?_
  refine lv_iconst (v := 0) hx hb dX7_read_18 (by decide) ?_
  refine va_put (D := D) (ci := 7) (v := .int 0) (ty := .boolean) (C := RX7) (T := TX7) (N := 10) hx hb hg iX7 tyX7 tyX7_ok nmX7 hown hK hP hD hS 0 rfl rfl 7 (by decide) (hg (Cond.fieldLink RX7 52 "SlabWalk$Reader" "handTold" "Z") m319) (fun _ h9 => h9) rfl (by decide +kernel) rfl rfl (fs_lt (fs_ne (fs_ne g_Rd_handTold (by decide)) (by decide))) dX7_read_19 (fun H locs hP hD hS => ?_)
  have hP : va_P D classes [(h0, .inr (7, (((Rd.set 5 (.ref sp)).set 6 (.int 0)).set 7 (.int 0)))), (tk, .inr (9, K)), (tp, .inl (k.1, 1600, .inl f)), (sp, .inr (6, z_2)), (sl2, .inl (k.2.1, 3, .inl z_3))] H := hP
  have hD : va_D A [(h0, .inr (7, (((Rd.set 5 (.ref sp)).set 6 (.int 0)).set 7 (.int 0)))), (tk, .inr (9, K)), (tp, .inl (k.1, 1600, .inl f)), (sp, .inr (6, z_2)), (sl2, .inl (k.2.1, 3, .inl z_3))] := hD
  refine lv_aload_n hx hb dX7_read_22 rfl (lv_at hl 0 rfl) ?_
  refine lv_iconst (v := 0) hx hb dX7_read_23 (by decide) ?_
  refine va_put (D := D) (ci := 7) (v := .int 0) (ty := .boolean) (C := RX7) (T := TX7) (N := 10) hx hb hg iX7 tyX7 tyX7_ok nmX7 hown hK hP hD hS 0 rfl rfl 8 (by decide) (hg (Cond.fieldLink RX7 55 "SlabWalk$Reader" "drawTold" "Z") m320) (fun _ h9 => h9) rfl (by decide +kernel) rfl rfl (fs_lt (fs_ne (fs_ne (fs_ne g_Rd_drawTold (by decide)) (by decide)) (by decide))) dX7_read_24 (fun H locs hP hD hS => ?_)
  have hP : va_P D classes [(h0, .inr (7, ((((Rd.set 5 (.ref sp)).set 6 (.int 0)).set 7 (.int 0)).set 8 (.int 0)))), (tk, .inr (9, K)), (tp, .inl (k.1, 1600, .inl f)), (sp, .inr (6, z_2)), (sl2, .inl (k.2.1, 3, .inl z_3))] H := hP
  have hD : va_D A [(h0, .inr (7, ((((Rd.set 5 (.ref sp)).set 6 (.int 0)).set 7 (.int 0)).set 8 (.int 0)))), (tk, .inr (9, K)), (tp, .inl (k.1, 1600, .inl f)), (sp, .inr (6, z_2)), (sl2, .inl (k.2.1, 3, .inl z_3))] := hD
  refine lv_aload_n hx hb dX7_read_27 rfl (lv_at hl 0 rfl) ?_
  refine va_get (D := D) (ci := 7) (v := .ref tk) (C := RX7) (T := TX7) (N := 10) hx hb hg iX7 hown hK hP 0 rfl rfl 0 (by decide) (hg (Cond.fieldLink RX7 26 "SlabWalk$Reader" "tokens" "LSlabWalk$Tokens;") m311) (fun _ h9 => h9) (fs_ne (fs_ne (fs_ne (fs_ne g_Rd_tokens (by decide)) (by decide)) (by decide)) (by decide)) dX7_read_28 ?_
  refine lv_iload_n hx hb dX7_read_31 rfl (lv_at hl 1 rfl) ?_
  have hPc := hP.sub (ws' := [(tk, .inr (9, K)), (tp, .inl (k.1, 1600, .inl f))]) [1, 2] rfl
  have hDc := hD.sub (ws' := [(tk, .inr (9, K)), (tp, .inl (k.1, 1600, .inl f))]) [1, 2] (by decide) rfl
  have hFc := va_free (wc := [(tk, .inr (9, K)), (tp, .inl (k.1, 1600, .inl f))]) hD hS hA [1, 2] rfl
  refine va_callv (va_runV (As := [.int 0]) (rest := []) ⟨hx, hb, hml, hown, hts⟩ (c_X9_open l D k H.size tk tp K f g_K_text g_K_size g_K_at g_K_kind g_K_place g_K_fault g_K_faultPlace) (cwV 1 hts (gd_V hgd m631 m632 m633 m120 m634) rfl rfl rfl (by decide +kernel) ⟨Nat.le_of_ble_eq_true rfl, Nat.le_of_ble_eq_true rfl⟩) (cP_V hPc hKX hDc (ci := 9) (q0 := 0) rfl rfl) rfl rfl hl.1 rfl (lv_room (Nat.le_of_ble_eq_true rfl)) dX7_read_32 ⟨Nat.le_of_ble_eq_true rfl, Nat.le_of_ble_eq_true rfl⟩) hS (fun q _ h => hFc q h) hFc (fun u t H1 locs ht hvm hw hB hz1 hk1 hS => ?_)
  obtain ⟨z_17, g_18, g_19, g_20, g_21, hP1, hD1⟩ := hB
  rw [ht] at hP1
  obtain ⟨hP, hD⟩ := va_join (wr := [(h0, .inr (7, ((((Rd.set 5 (.ref sp)).set 6 (.int 0)).set 7 (.int 0)).set 8 (.int 0)))), (sp, .inr (6, z_2)), (sl2, .inl (k.2.1, 3, .inl z_3))]) (w1 := [(tk, .inr (9, z_17))]) hP hD [1, 2] [0, 3, 4] rfl rfl (by decide) (by decide) hk1 hFc hP1 hD1
  generalize H1 = H at hP hS ⊢
  have hP : va_P D classes [(h0, .inr (7, ((((Rd.set 5 (.ref sp)).set 6 (.int 0)).set 7 (.int 0)).set 8 (.int 0)))), (sp, .inr (6, z_2)), (sl2, .inl (k.2.1, 3, .inl z_3)), (tk, .inr (9, z_17))] H := hP
  have hD : va_D A [(h0, .inr (7, ((((Rd.set 5 (.ref sp)).set 6 (.int 0)).set 7 (.int 0)).set 8 (.int 0)))), (sp, .inr (6, z_2)), (sl2, .inl (k.2.1, 3, .inl z_3)), (tk, .inr (9, z_17))] := hD
  refine W.widen (k := 0) (n := 0) (Nat.le_of_ble_eq_true rfl) (Nat.le_of_ble_eq_true rfl) ?_
  refine lv_iconst (v := 1) hx hb dX7_read_35 (by decide) ?_
  refine lv_istore_n (lv' := [(3, .int 1), (0, .ref h0), (1, .int 0), (2, .ref sp)]) hx hb dX7_read_36 rfl hl (by decide) rfl (fun ls hl => ?_)
  refine lv_iconst (v := 0) hx hb dX7_read_37 (by decide) ?_
  refine lv_istore (lv' := [(4, .int 0), (3, .int 1), (0, .ref h0), (1, .int 0), (2, .ref sp)]) hx hb dX7_read_38 hl (by decide) rfl (fun ls hl => ?_)
  refine lv_iload_n hx hb dX7_read_40 rfl (lv_at hl 1 rfl) ?_
  refine lv_if_eq (tgt := 195) hx hb dX7_read_41 (by decide) (fun c_22 => ?_) (fun c_22 => ?_)
  · exact absurd c_22 (by decide)
  · have c_22 : ¬ ((1 : Int32) = 0) := c_22
    refine lv_iload hx hb dX7_read_44 (lv_at hl 0 rfl) ?_
    refine lv_sipush (v := 1600) hx hb dX7_read_46 (by decide) ?_
    refine lv_icmp_ge (tgt := 195) hx hb dX7_read_49 (by decide) (fun c_23 => ?_) (fun c_23 => ?_)
    · exact absurd c_23 (by decide)
    · have c_23 : ¬ ((1600 : Int32) ≤ 0) := c_23
      refine lv_aload_n hx hb dX7_read_52 rfl (lv_at hl 2 rfl) ?_
      refine va_get (D := D) (ci := 7) (v := .ref tk) (C := RX7) (T := TX7) (N := 10) hx hb hg iX7 hown hK hP 0 rfl rfl 0 (by decide) (hg (Cond.fieldLink RX7 26 "SlabWalk$Reader" "tokens" "LSlabWalk$Tokens;") m311) (fun _ h9 => h9) (fs_ne (fs_ne (fs_ne (fs_ne g_Rd_tokens (by decide)) (by decide)) (by decide)) (by decide)) dX7_read_53 ?_
      refine va_get (D := D) (ci := 9) (v := .int 203) (C := RX9) (T := TX9) (N := 9) hx hb hg iX9 hown hK hP 3 rfl rfl 3 (by decide) (hg (Cond.fieldLink RX7 62 "SlabWalk$Tokens" "kind" "I") m261) (fun _ h9 => h9) g_19 dX7_read_56 ?_
      refine lv_sipush (v := 203) hx hb dX7_read_59 (by decide) ?_
      refine lv_icmp_eq (tgt := 195) hx hb dX7_read_62 (by decide) (fun c_24 => ?_) (fun c_24 => ?_)
      · have c_24 : (203 : Int32) = 203 := c_24
        refine lv_iload_n hx hb dX7_read_195 rfl (lv_at hl 1 rfl) ?_
        have hP9 := hP.sub (ws' := [(sp, .inr (6, z_2))]) [1] rfl
        have hD9 := hD.sub (ws' := [(sp, .inr (6, z_2))]) [1] (by decide) rfl
        exact W.zret (v := 1) hx hb hr (by decide) (fun t ht hW => ⟨⟨1, (), rfl, rfl, ⟨z_2, g_10, g_12, cB_of ht hP9 hD9⟩⟩, hS.F ht⟩) hS.2.2 dX7_read_196
      · exact absurd (by decide) c_24

set_option maxHeartbeats 4000000 in
set_option maxRecDepth 100000 in
theorem c_X11_pavement (l : Launch) (D : va_G) (k : ClassId × ClassId × ClassId × ClassId) (sz : Nat) (h0 pv sp tp rd ln ea si tk sl2 fo nw kp bx : Nat) (F Rd P2 K N E Z : List Value) (g2 : Nat → Int32) (g3 : Nat → Int32) (g4 : Nat → Int32) (f1 : Nat → Int32) (f2 : Nat → Int32) (g_F_paving : F[0]? = some (.ref pv)) (g_F_spare : F[1]? = some (.ref sp)) (g_F_taped : F[11]? = some (.int 0)) (g_F_lie : F[12]? = some (.int 0)) (g_F_tape : F[2]? = some (.ref tp)) (g_F_reader : F[3]? = some (.ref rd)) (g_F_lines : F[4]? = some (.ref ln)) (g_F_earnest : F[8]? = some (.ref ea)) (g_F_sights : F[9]? = some (.ref si)) (g_Rd_tokens : Rd[0]? = some (.ref tk)) (g_Rd_paving : Rd[5]? = some (.ref sp)) (g_Rd_slipTold : Rd[6]? = some (.int 0)) (g_Rd_handTold : Rd[7]? = some (.int 0)) (g_Rd_drawTold : Rd[8]? = some (.int 0)) (g_P2_walkers : P2[10]? = some (.int 0)) (g_P2_rules : P2[11]? = some (.int 0)) (g_P2_units : P2[12]? = some (.int 0)) (g_P2_coded : P2[13]? = some (.int 0)) (g_P2_hand : P2[14]? = some (.int 30)) (g_P2_slack : P2[15]? = some (.int 10)) (g_P2_draw : P2[16]? = some (.int 0)) (g_P2_slip : P2[6]? = some (.ref sl2)) (g_P2_streets : P2[9]? = some (.int 0)) (g_K_text : K[0]? = some (.ref tp)) (g_K_size : K[1]? = some (.int 0)) (g_K_at : K[2]? = some (.int 0)) (g_K_kind : K[3]? = some (.int 0)) (g_K_place : K[4]? = some (.int 0)) (g_K_fault : K[7]? = some (.int 0)) (g_K_faultPlace : K[8]? = some (.int (-1))) (g_N_foundOn : N[1]? = some (.ref fo)) (g_N_paving : N[4]? = some (.ref pv)) (g_E_now : E[0]? = some (.ref nw)) (g_E_kept : E[1]? = some (.ref kp)) (g_E_boxes : E[2]? = some (.ref bx)) (g_E_full : E[3]? = some (.int 0)) (g_E_done : E[4]? = some (.int 0)) (g_E_undone : E[5]? = some (.int 0)) (g_Z_count : Z[5]? = some (.int 0)) (g_Z_time : Z[6]? = some (.int 0)) : Met l yX11_pavement (WS yX11_pavement cX11_pavement 3 (some .int)) ({ frames := 4, cells := 0, slots := 0, locals := 101 }) (va_Pc [.ref h0] (cP D k [(h0, .inr (11, F)), (rd, .inr (7, Rd)), (sp, .inr (6, P2)), (sl2, .inl (k.2.1, 3, .inl g2)), (tk, .inr (9, K)), (tp, .inl (k.1, 1600, .inl g3)), (ln, .inr (3, N)), (fo, .inl (k.2.1, 3, .inl g4)), (ea, .inr (1, E)), (nw, .inl (k.2.1, 10, .inl f1)), (kp, .inl (k.2.1, 410, .inl f2)), (si, .inr (8, Z))] sz)) (va_Qi (fun (r : Int32) (_ : Unit) => r = 0) (fun (_ : Unit) t => cB D (va_A [(h0, .inr (11, F)), (rd, .inr (7, Rd)), (sp, .inr (6, P2)), (sl2, .inl (k.2.1, 3, .inl g2)), (tk, .inr (9, K)), (tp, .inl (k.1, 1600, .inl g3)), (ln, .inr (3, N)), (fo, .inl (k.2.1, 3, .inl g4)), (ea, .inr (1, E)), (nw, .inl (k.2.1, 10, .inl f1)), (kp, .inl (k.2.1, 410, .inl f2)), (si, .inr (8, Z))] sz) [] t) (va_A [(h0, .inr (11, F)), (rd, .inr (7, Rd)), (sp, .inr (6, P2)), (sl2, .inl (k.2.1, 3, .inl g2)), (tk, .inr (9, K)), (tp, .inl (k.1, 1600, .inl g3)), (ln, .inr (3, N)), (fo, .inl (k.2.1, 3, .inl g4)), (ea, .inr (1, E)), (nw, .inl (k.2.1, 10, .inl f1)), (kp, .inl (k.2.1, 410, .inl f2)), (si, .inr (8, Z))] sz)) 0 0 (va_A [(h0, .inr (11, F)), (rd, .inr (7, Rd)), (sp, .inr (6, P2)), (sl2, .inl (k.2.1, 3, .inl g2)), (tk, .inr (9, K)), (tp, .inl (k.1, 1600, .inl g3)), (ln, .inr (3, N)), (fo, .inl (k.2.1, 3, .inl g4)), (ea, .inr (1, E)), (nw, .inl (k.2.1, 10, .inl f1)), (kp, .inl (k.2.1, 410, .inl f2)), (si, .inr (8, Z))] sz) := by
  refine Met.ofW (cc := cX11_pavement) (maxL := 3) (ret := (some .int)) (by decide) rfl ?_
  intro p e s m args below meth c s₁ B hml hv
  obtain ⟨rfl, hsz, hP, hKX, hD0⟩ := hv
  have hK := hKX.1
  have hx := B.exec
  have hb := B.bytes
  have hr := B.returns
  have hts := atoms_spec (ws := WS yX11_pavement cX11_pavement 3 (some .int)) B.pre
  have hgd : ∀ w ∈ gd, w ∈ WS yX11_pavement cX11_pavement 3 (some .int) := fun w h => List.mem_cons_of_mem _ h
  have hg : ∀ w ∈ gd, w.before _ s = true := fun w h => hts w (hgd w h)
  have hown : s.vm.findClass RX11 = some m.cls := findClass_of_methodNamed B.named
  have hlocks := B.notSynchronized
  subst hsz
  have hD := hD0.self (sz := s.heap.size)
  generalize hAe : va_A [(h0, .inr (11, F)), (rd, .inr (7, Rd)), (sp, .inr (6, P2)), (sl2, .inl (k.2.1, 3, .inl g2)), (tk, .inr (9, K)), (tp, .inl (k.1, 1600, .inl g3)), (ln, .inr (3, N)), (fo, .inl (k.2.1, 3, .inl g4)), (ea, .inr (1, E)), (nw, .inl (k.2.1, 10, .inl f1)), (kp, .inl (k.2.1, 410, .inl f2)), (si, .inr (8, Z))] s.heap.size = A at hD ⊢
  have hA : ∀ q : Nat, s.heap.size ≤ q → A q := fun q h => by rw [← hAe]; exact Or.inr h
  have hS : va_S A s.heap s.heap [] := va_S.rf
  have hP : va_P D classes [(h0, .inr (11, F)), (rd, .inr (7, Rd)), (sp, .inr (6, P2)), (sl2, .inl (k.2.1, 3, .inl g2)), (tk, .inr (9, K)), (tp, .inl (k.1, 1600, .inl g3)), (ln, .inr (3, N)), (fo, .inl (k.2.1, 3, .inl g4)), (ea, .inr (1, E)), (nw, .inl (k.2.1, 10, .inl f1)), (kp, .inl (k.2.1, 410, .inl f2)), (si, .inr (8, Z))] s.heap := hP
  have hl := lv_entry ([.ref h0]) (n := 3) (Nat.le_of_ble_eq_true rfl)
  rw [lg_entry_eq]
  generalize (lg_sl ([.ref h0]) ++ List.replicate (3 - (lg_sl ([.ref h0])).length) Slot.unset).toArray = ls at hl ⊢
  have hl : lv_has ls 3 [(0, .ref h0)] := hl
  refine lv_aload_n hx hb dX11_pavement_0 rfl (lv_at hl 0 rfl) ?_
  refine va_get (D := D) (ci := 11) (v := .ref rd) (C := RX11) (T := TX11) (N := 13) hx hb hg iX11 hown hK hP 0 rfl rfl 3 (by decide) (hg (Cond.fieldLink RX11 28 "SlabWalk" "reader" "LSlabWalk$Reader;") m573) (fun _ h9 => h9) g_F_reader dX11_pavement_1 ?_
  refine lv_aload_n hx hb dX11_pavement_4 rfl (lv_at hl 0 rfl) ?_
  refine va_get (D := D) (ci := 11) (v := .int 0) (C := RX11) (T := TX11) (N := 13) hx hb hg iX11 hown hK hP 0 rfl rfl 11 (by decide) (hg (Cond.fieldLink RX11 83 "SlabWalk" "taped" "I") m581) (fun _ h9 => h9) g_F_taped dX11_pavement_5 ?_
  refine lv_aload_n hx hb dX11_pavement_8 rfl (lv_at hl 0 rfl) ?_
  refine va_get (D := D) (ci := 11) (v := .ref sp) (C := RX11) (T := TX11) (N := 13) hx hb hg iX11 hown hK hP 0 rfl rfl 1 (by decide) (hg (Cond.fieldLink RX11 16 "SlabWalk" "spare" "LSlabWalk$Paving;") m571) (fun _ h9 => h9) g_F_spare dX11_pavement_9 ?_
  have hPc := hP.sub (ws' := [(rd, .inr (7, Rd)), (sp, .inr (6, P2)), (sl2, .inl (k.2.1, 3, .inl g2)), (tk, .inr (9, K)), (tp, .inl (k.1, 1600, .inl g3))]) [1, 2, 3, 4, 5] rfl
  have hDc := hD.sub (ws' := [(rd, .inr (7, Rd)), (sp, .inr (6, P2)), (sl2, .inl (k.2.1, 3, .inl g2)), (tk, .inr (9, K)), (tp, .inl (k.1, 1600, .inl g3))]) [1, 2, 3, 4, 5] (by decide) rfl
  have hFc := va_free (wc := [(rd, .inr (7, Rd)), (sp, .inr (6, P2)), (sl2, .inl (k.2.1, 3, .inl g2)), (tk, .inr (9, K)), (tp, .inl (k.1, 1600, .inl g3))]) hD hS hA [1, 2, 3, 4, 5] rfl
  refine va_calli (va_runV (As := [.int 0, .ref sp]) (rest := []) ⟨hx, hb, hml, hown, hts⟩ (c_X7_read l D k s.heap.size rd sp tk sl2 tp Rd P2 K g2 g3 g_Rd_tokens g_Rd_paving g_Rd_slipTold g_Rd_handTold g_Rd_drawTold g_P2_walkers g_P2_rules g_P2_units g_P2_coded g_P2_hand g_P2_slack g_P2_draw g_P2_slip g_P2_streets g_K_text g_K_size g_K_at g_K_kind g_K_place g_K_fault g_K_faultPlace) (cwV 2 hts (gd_V hgd m626 m627 m628 m119 m629) rfl rfl rfl (by decide +kernel) ⟨Nat.le_of_ble_eq_true rfl, Nat.le_of_ble_eq_true rfl⟩) (cP_V hPc hKX hDc (ci := 7) (q0 := 0) rfl rfl) rfl rfl hl.1 rfl (lv_room (Nat.le_of_ble_eq_true rfl)) dX11_pavement_12 ⟨Nat.le_of_ble_eq_true rfl, Nat.le_of_ble_eq_true rfl⟩) hS (fun q _ h => hFc q h) hFc (fun r_1 u t H1 locs ht hvm hw hB hz1 hk1 hS => ?_)
  obtain ⟨z_2, g_3, g_4, hP1, hD1⟩ := hB
  rw [ht] at hP1
  obtain ⟨hP, hD⟩ := va_join (wr := [(h0, .inr (11, F)), (ln, .inr (3, N)), (fo, .inl (k.2.1, 3, .inl g4)), (ea, .inr (1, E)), (nw, .inl (k.2.1, 10, .inl f1)), (kp, .inl (k.2.1, 410, .inl f2)), (si, .inr (8, Z))]) (w1 := [(sp, .inr (6, z_2))]) hP hD [1, 2, 3, 4, 5] [0, 6, 7, 8, 9, 10, 11] rfl rfl (by decide) (by decide) hk1 hFc hP1 hD1
  generalize H1 = H at hP hS ⊢
  have hP : va_P D classes [(h0, .inr (11, F)), (ln, .inr (3, N)), (fo, .inl (k.2.1, 3, .inl g4)), (ea, .inr (1, E)), (nw, .inl (k.2.1, 10, .inl f1)), (kp, .inl (k.2.1, 410, .inl f2)), (si, .inr (8, Z)), (sp, .inr (6, z_2))] H := hP
  have hD : va_D A [(h0, .inr (11, F)), (ln, .inr (3, N)), (fo, .inl (k.2.1, 3, .inl g4)), (ea, .inr (1, E)), (nw, .inl (k.2.1, 10, .inl f1)), (kp, .inl (k.2.1, 410, .inl f2)), (si, .inr (8, Z)), (sp, .inr (6, z_2))] := hD
  refine W.widen (k := 0) (n := 0) (Nat.le_of_ble_eq_true rfl) (Nat.le_of_ble_eq_true rfl) ?_
  subst hw
  refine lv_istore_n (lv' := [(1, .int 1), (0, .ref h0)]) hx hb dX11_pavement_15 rfl hl (by decide) rfl (fun ls hl => ?_)
  refine lv_aload_n hx hb dX11_pavement_16 rfl (lv_at hl 1 rfl) ?_
  refine lv_iconst (v := 0) hx hb dX11_pavement_17 (by decide) ?_
  refine va_put (D := D) (ci := 11) (v := .int 0) (ty := .int) (C := RX11) (T := TX11) (N := 13) hx hb hg iX11 tyX11 tyX11_ok nmX11 hown hK hP hD hS 0 rfl rfl 11 (by decide) (hg (Cond.fieldLink RX11 83 "SlabWalk" "taped" "I") m581) (fun _ h9 => h9) rfl (by decide +kernel) rfl rfl (fs_lt g_F_taped) dX11_pavement_18 (fun H locs hP hD hS => ?_)
  have hP : va_P D classes [(h0, .inr (11, (F.set 11 (.int 0)))), (ln, .inr (3, N)), (fo, .inl (k.2.1, 3, .inl g4)), (ea, .inr (1, E)), (nw, .inl (k.2.1, 10, .inl f1)), (kp, .inl (k.2.1, 410, .inl f2)), (si, .inr (8, Z)), (sp, .inr (6, z_2))] H := hP
  have hD : va_D A [(h0, .inr (11, (F.set 11 (.int 0)))), (ln, .inr (3, N)), (fo, .inl (k.2.1, 3, .inl g4)), (ea, .inr (1, E)), (nw, .inl (k.2.1, 10, .inl f1)), (kp, .inl (k.2.1, 410, .inl f2)), (si, .inr (8, Z)), (sp, .inr (6, z_2))] := hD
  refine lv_iload_n hx hb dX11_pavement_21 rfl (lv_at hl 0 rfl) ?_
  refine lv_if_ne (tgt := 27) hx hb dX11_pavement_22 (by decide) (fun c_5 => ?_) (fun c_5 => ?_)
  · have c_5 : ¬ ((1 : Int32) = 0) := c_5
    refine lv_aload_n hx hb dX11_pavement_27 rfl (lv_at hl 1 rfl) ?_
    refine va_get (D := D) (ci := 11) (v := .ref sp) (C := RX11) (T := TX11) (N := 13) hx hb hg iX11 hown hK hP 0 rfl rfl 1 (by decide) (hg (Cond.fieldLink RX11 16 "SlabWalk" "spare" "LSlabWalk$Paving;") m571) (fun _ h9 => h9) (fs_ne g_F_spare (by decide)) dX11_pavement_28 ?_
    refine lv_astore_n (lv' := [(2, .ref sp), (1, .int 1), (0, .ref h0)]) hx hb dX11_pavement_31 rfl hl (by decide) rfl (fun ls hl => ?_)
    refine lv_aload_n hx hb dX11_pavement_32 rfl (lv_at hl 2 rfl) ?_
    refine lv_aload_n hx hb dX11_pavement_33 rfl (lv_at hl 2 rfl) ?_
    refine va_get (D := D) (ci := 11) (v := .ref pv) (C := RX11) (T := TX11) (N := 13) hx hb hg iX11 hown hK hP 0 rfl rfl 0 (by decide) (hg (Cond.fieldLink RX11 10 "SlabWalk" "paving" "LSlabWalk$Paving;") m570) (fun _ h9 => h9) (fs_ne g_F_paving (by decide)) dX11_pavement_34 ?_
    refine va_put (D := D) (ci := 11) (v := .ref pv) (ty := (.object "SlabWalk$Paving")) (C := RX11) (T := TX11) (N := 13) hx hb hg iX11 tyX11 tyX11_ok nmX11 hown hK hP hD hS 0 rfl rfl 1 (by decide) (hg (Cond.fieldLink RX11 16 "SlabWalk" "spare" "LSlabWalk$Paving;") m571) (fun _ h9 => h9) rfl (by decide +kernel) rfl rfl (fs_lt (fs_ne g_F_spare (by decide))) dX11_pavement_37 (fun H locs hP hD hS => ?_)
    have hP : va_P D classes [(h0, .inr (11, ((F.set 11 (.int 0)).set 1 (.ref pv)))), (ln, .inr (3, N)), (fo, .inl (k.2.1, 3, .inl g4)), (ea, .inr (1, E)), (nw, .inl (k.2.1, 10, .inl f1)), (kp, .inl (k.2.1, 410, .inl f2)), (si, .inr (8, Z)), (sp, .inr (6, z_2))] H := hP
    have hD : va_D A [(h0, .inr (11, ((F.set 11 (.int 0)).set 1 (.ref pv)))), (ln, .inr (3, N)), (fo, .inl (k.2.1, 3, .inl g4)), (ea, .inr (1, E)), (nw, .inl (k.2.1, 10, .inl f1)), (kp, .inl (k.2.1, 410, .inl f2)), (si, .inr (8, Z)), (sp, .inr (6, z_2))] := hD
    refine lv_aload_n hx hb dX11_pavement_40 rfl (lv_at hl 2 rfl) ?_
    refine lv_aload_n hx hb dX11_pavement_41 rfl (lv_at hl 0 rfl) ?_
    refine va_put (D := D) (ci := 11) (v := .ref sp) (ty := (.object "SlabWalk$Paving")) (C := RX11) (T := TX11) (N := 13) hx hb hg iX11 tyX11 tyX11_ok nmX11 hown hK hP hD hS 0 rfl rfl 0 (by decide) (hg (Cond.fieldLink RX11 10 "SlabWalk" "paving" "LSlabWalk$Paving;") m570) (fun _ h9 => h9) rfl (by decide +kernel) rfl rfl (fs_lt (fs_ne (fs_ne g_F_paving (by decide)) (by decide))) dX11_pavement_42 (fun H locs hP hD hS => ?_)
    have hP : va_P D classes [(h0, .inr (11, (((F.set 11 (.int 0)).set 1 (.ref pv)).set 0 (.ref sp)))), (ln, .inr (3, N)), (fo, .inl (k.2.1, 3, .inl g4)), (ea, .inr (1, E)), (nw, .inl (k.2.1, 10, .inl f1)), (kp, .inl (k.2.1, 410, .inl f2)), (si, .inr (8, Z)), (sp, .inr (6, z_2))] H := hP
    have hD : va_D A [(h0, .inr (11, (((F.set 11 (.int 0)).set 1 (.ref pv)).set 0 (.ref sp)))), (ln, .inr (3, N)), (fo, .inl (k.2.1, 3, .inl g4)), (ea, .inr (1, E)), (nw, .inl (k.2.1, 10, .inl f1)), (kp, .inl (k.2.1, 410, .inl f2)), (si, .inr (8, Z)), (sp, .inr (6, z_2))] := hD
    refine lv_aload_n hx hb dX11_pavement_45 rfl (lv_at hl 2 rfl) ?_
    have hPc := hP.sub (ws' := [(h0, .inr (11, (((F.set 11 (.int 0)).set 1 (.ref pv)).set 0 (.ref sp)))), (sp, .inr (6, z_2)), (ln, .inr (3, N)), (fo, .inl (k.2.1, 3, .inl g4)), (ea, .inr (1, E)), (nw, .inl (k.2.1, 10, .inl f1)), (kp, .inl (k.2.1, 410, .inl f2)), (si, .inr (8, Z))]) [0, 7, 1, 2, 3, 4, 5, 6] rfl
    have hDc := hD.sub (ws' := [(h0, .inr (11, (((F.set 11 (.int 0)).set 1 (.ref pv)).set 0 (.ref sp)))), (sp, .inr (6, z_2)), (ln, .inr (3, N)), (fo, .inl (k.2.1, 3, .inl g4)), (ea, .inr (1, E)), (nw, .inl (k.2.1, 10, .inl f1)), (kp, .inl (k.2.1, 410, .inl f2)), (si, .inr (8, Z))]) [0, 7, 1, 2, 3, 4, 5, 6] (by decide) rfl
    have hFc := va_free (wc := [(h0, .inr (11, (((F.set 11 (.int 0)).set 1 (.ref pv)).set 0 (.ref sp)))), (sp, .inr (6, z_2)), (ln, .inr (3, N)), (fo, .inl (k.2.1, 3, .inl g4)), (ea, .inr (1, E)), (nw, .inl (k.2.1, 10, .inl f1)), (kp, .inl (k.2.1, 410, .inl f2)), (si, .inr (8, Z))]) hD hS hA [0, 7, 1, 2, 3, 4, 5, 6] rfl
    refine va_callv (va_runV (As := []) (rest := []) ⟨hx, hb, hml, hown, hts⟩ (c_X11_startAnew l D k H.size h0 sp pv tp rd ln ea si fo pv nw kp bx (((F.set 11 (.int 0)).set 1 (.ref pv)).set 0 (.ref sp)) z_2 N E Z g4 f1 f2 0 0 0 0 0 0 0 (fs_eq (fs_ne (fs_ne g_F_paving (by decide)) (by decide))) (fs_ne (fs_eq (fs_ne g_F_spare (by decide))) (by decide)) (fs_ne (fs_ne (fs_eq g_F_taped) (by decide)) (by decide)) (fs_ne (fs_ne (fs_ne g_F_lie (by decide)) (by decide)) (by decide)) (fs_ne (fs_ne (fs_ne g_F_tape (by decide)) (by decide)) (by decide)) (fs_ne (fs_ne (fs_ne g_F_reader (by decide)) (by decide)) (by decide)) (fs_ne (fs_ne (fs_ne g_F_lines (by decide)) (by decide)) (by decide)) (fs_ne (fs_ne (fs_ne g_F_earnest (by decide)) (by decide)) (by decide)) (fs_ne (fs_ne (fs_ne g_F_sights (by decide)) (by decide)) (by decide)) g_3 g_N_foundOn g_N_paving g_E_now g_E_kept g_E_boxes g_E_full g_E_done g_E_undone g_Z_count g_Z_time) (cwV 0 hts (gd_V hgd m547 m549 m0 m117 m550) rfl rfl rfl (by decide +kernel) ⟨Nat.le_of_ble_eq_true rfl, Nat.le_of_ble_eq_true rfl⟩) (cP_V hPc hKX hDc (ci := 11) (q0 := 0) rfl rfl) rfl rfl hl.1 rfl (lv_room (Nat.le_of_ble_eq_true rfl)) dX11_pavement_46 ⟨Nat.le_of_ble_eq_true rfl, Nat.le_of_ble_eq_true rfl⟩) hS (fun q _ h => hFc q h) hFc (fun u t H1 locs ht hvm hw hB hz1 hk1 hS => ?_)
    obtain ⟨z_7, z_8, z_9, z_10, z_11, z_12, z_13, g_14, g_15, g_16, g_17, g_18, g_19, g_20, g_21, g_22, g_23, g_24, g_25, g_26, g_27, g_28, g_29, g_30, g_31, g_32, g_33, g_34, g_35, g_36, g_37, g_38, g_39, hP1, hD1⟩ := hB
    rw [ht] at hP1
    obtain ⟨hP, hD⟩ := va_join (wr := []) (w1 := [(h0, .inr (11, z_7)), (sp, .inr (6, z_2)), (ln, .inr (3, z_8)), (fo, .inl (k.2.1, 3, .inl z_9)), (ea, .inr (1, z_10)), (nw, .inl (k.2.1, 10, .inl z_11)), (kp, .inl (k.2.1, 410, .inl z_12)), (si, .inr (8, z_13))]) hP hD [0, 7, 1, 2, 3, 4, 5, 6] [] rfl rfl (by decide) (by decide) hk1 hFc hP1 hD1
    generalize H1 = H at hP hS ⊢
    have hP : va_P D classes [(h0, .inr (11, z_7)), (sp, .inr (6, z_2)), (ln, .inr (3, z_8)), (fo, .inl (k.2.1, 3, .inl z_9)), (ea, .inr (1, z_10)), (nw, .inl (k.2.1, 10, .inl z_11)), (kp, .inl (k.2.1, 410, .inl z_12)), (si, .inr (8, z_13))] H := hP
    have hD : va_D A [(h0, .inr (11, z_7)), (sp, .inr (6, z_2)), (ln, .inr (3, z_8)), (fo, .inl (k.2.1, 3, .inl z_9)), (ea, .inr (1, z_10)), (nw, .inl (k.2.1, 10, .inl z_11)), (kp, .inl (k.2.1, 410, .inl z_12)), (si, .inr (8, z_13))] := hD
    refine W.widen (k := 0) (n := 0) (Nat.le_of_ble_eq_true rfl) (Nat.le_of_ble_eq_true rfl) ?_
    refine lv_aload_n hx hb dX11_pavement_49 rfl (lv_at hl 2 rfl) ?_
    refine va_get (D := D) (ci := 11) (v := .ref sp) (C := RX11) (T := TX11) (N := 13) hx hb hg iX11 hown hK hP 0 rfl rfl 0 (by decide) (hg (Cond.fieldLink RX11 10 "SlabWalk" "paving" "LSlabWalk$Paving;") m570) (fun _ h9 => h9) g_14 dX11_pavement_50 ?_
    refine va_get (D := D) (ci := 6) (v := .int 0) (C := RX6) (T := TX6) (N := 17) hx hb hg iX6 hown hK hP 1 rfl rfl 9 (by decide) (hg (Cond.fieldLink RX11 95 "SlabWalk$Paving" "streets" "I") m187) (fun _ h9 => h9) g_4 dX11_pavement_53 ?_
    have hP9 := hP.sub (ws' := []) [] rfl
    have hD9 := hD.sub (ws' := []) [] (by decide) rfl
    exact W.iret (v := 0) hx hb hr (fun t ht hW => ⟨⟨0, (), rfl, rfl, cB_of ht hP9 hD9⟩, hS.F ht⟩) hS.2.2 dX11_pavement_56
  · exact absurd c_5 (by decide)
