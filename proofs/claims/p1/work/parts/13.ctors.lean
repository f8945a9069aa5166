set_option maxHeartbeats 4000000 in
set_option maxRecDepth 100000 in
theorem c_X6_empty (l : Launch) (D : va_G) (k : ClassId × ClassId × ClassId × ClassId) (sz : Nat) (h0 sl : Nat) (P : List Value) (g : Nat → Int32) (a1 a2 a3 a4 a5 a6 a7 a8 : Int32) (g_P_walkers : P[10]? = some (.int a2)) (g_P_rules : P[11]? = some (.int a3)) (g_P_units : P[12]? = some (.int a4)) (g_P_coded : P[13]? = some (.int a5)) (g_P_hand : P[14]? = some (.int a6)) (g_P_slack : P[15]? = some (.int a7)) (g_P_draw : P[16]? = some (.int a8)) (g_P_slip : P[6]? = some (.ref sl)) (g_P_streets : P[9]? = some (.int a1)) : Met l yX6_empty (WS yX6_empty cX6_empty 1 none) ({ frames := 0, cells := 0, slots := 0, locals := 0 }) (va_Pc [.ref h0] (cP D k [(h0, .inr (6, P)), (sl, .inl (k.2.1, 3, .inl g))] sz)) (va_Qv (fun _ : Unit => True) (fun (_ : Unit) t => ∃ (P2 : List Value), ∃ (g2 : Nat → Int32), P2[10]? = some (.int 0) ∧ P2[11]? = some (.int 0) ∧ P2[12]? = some (.int 0) ∧ P2[13]? = some (.int 0) ∧ P2[14]? = some (.int 30) ∧ P2[15]? = some (.int 10) ∧ P2[16]? = some (.int 0) ∧ P2[6]? = some (.ref sl) ∧ P2[9]? = some (.int 0) ∧ g2 0 = 0 ∧ g2 1 = 1 ∧ g2 2 = 0 ∧ cB D (va_A [(h0, .inr (6, P)), (sl, .inl (k.2.1, 3, .inl g))] sz) [(h0, .inr (6, P2)), (sl, .inl (k.2.1, 3, .inl g2))] t) (va_A [(h0, .inr (6, P)), (sl, .inl (k.2.1, 3, .inl g))] sz)) 0 0 (va_A [(h0, .inr (6, P)), (sl, .inl (k.2.1, 3, .inl g))] sz) := by
  refine Met.ofW (cc := cX6_empty) (maxL := 1) (ret := none) (by decide) rfl ?_
  intro p e s m args below meth c s₁ B hml hv
  obtain ⟨rfl, hsz, hP, hKX, hD0⟩ := hv
  have hK := hKX.1
  have hx := B.exec
  have hb := B.bytes
  have hr := B.returns
  have hts := atoms_spec (ws := WS yX6_empty cX6_empty 1 none) B.pre
  have hgd : ∀ w ∈ gd, w ∈ WS yX6_empty cX6_empty 1 none := fun w h => List.mem_cons_of_mem _ h
  have hg : ∀ w ∈ gd, w.before _ s = true := fun w h => hts w (hgd w h)
  have hown : s.vm.findClass RX6 = some m.cls := findClass_of_methodNamed B.named
  have hlocks := B.notSynchronized
  subst hsz
  have hD := hD0.self (sz := s.heap.size)
  generalize hAe : va_A [(h0, .inr (6, P)), (sl, .inl (k.2.1, 3, .inl g))] s.heap.size = A at hD ⊢
  have hA : ∀ q : Nat, s.heap.size ≤ q → A q := fun q h => by rw [← hAe]; exact Or.inr h
  have hS : va_S A s.heap s.heap [] := va_S.rf
  have hP : va_P D classes [(h0, .inr (6, P)), (sl, .inl (k.2.1, 3, .inl g))] s.heap := hP
  have hl := lv_entry ([.ref h0]) (n := 1) (Nat.le_of_ble_eq_true rfl)
  rw [lg_entry_eq]
  generalize (lg_sl ([.ref h0]) ++ List.replicate (1 - (lg_sl ([.ref h0])).length) Slot.unset).toArray = ls at hl ⊢
  have hl : lv_has ls 1 [(0, .ref h0)] := hl
  refine lv_aload_n hx hb dX6_empty_0 rfl (lv_at hl 0 rfl) ?_
  refine lv_iconst (v := 0) hx hb dX6_empty_1 (by decide) ?_
  refine va_put (D := D) (ci := 6) (v := .int 0) (ty := .int) (C := RX6) (T := TX6) (N := 17) hx hb hg iX6 tyX6 tyX6_ok nmX6 hown hK hP hD hS 0 rfl rfl 9 (by decide) (hg (Cond.fieldLink RX6 42 "SlabWalk$Paving" "streets" "I") m186) (fun _ h9 => h9) rfl (by decide +kernel) rfl rfl (fs_lt g_P_streets) dX6_empty_2 (fun H locs hP hD hS => ?_)
  have hP : va_P D classes [(h0, .inr (6, (P.set 9 (.int 0)))), (sl, .inl (k.2.1, 3, .inl g))] H := hP
  have hD : va_D A [(h0, .inr (6, (P.set 9 (.int 0)))), (sl, .inl (k.2.1, 3, .inl g))] := hD
  refine lv_aload_n hx hb dX6_empty_5 rfl (lv_at hl 0 rfl) ?_
  refine lv_iconst (v := 0) hx hb dX6_empty_6 (by decide) ?_
  refine va_put (D := D) (ci := 6) (v := .int 0) (ty := .int) (C := RX6) (T := TX6) (N := 17) hx hb hg iX6 tyX6 tyX6_ok nmX6 hown hK hP hD hS 0 rfl rfl 10 (by decide) (hg (Cond.fieldLink RX6 46 "SlabWalk$Paving" "walkers" "I") m189) (fun _ h9 => h9) rfl (by decide +kernel) rfl rfl (fs_lt (fs_ne g_P_walkers (by decide))) dX6_empty_7 (fun H locs hP hD hS => ?_)
  have hP : va_P D classes [(h0, .inr (6, ((P.set 9 (.int 0)).set 10 (.int 0)))), (sl, .inl (k.2.1, 3, .inl g))] H := hP
  have hD : va_D A [(h0, .inr (6, ((P.set 9 (.int 0)).set 10 (.int 0)))), (sl, .inl (k.2.1, 3, .inl g))] := hD
  refine lv_aload_n hx hb dX6_empty_10 rfl (lv_at hl 0 rfl) ?_
  refine lv_iconst (v := 0) hx hb dX6_empty_11 (by decide) ?_
  refine va_put (D := D) (ci := 6) (v := .int 0) (ty := .int) (C := RX6) (T := TX6) (N := 17) hx hb hg iX6 tyX6 tyX6_ok nmX6 hown hK hP hD hS 0 rfl rfl 11 (by decide) (hg (Cond.fieldLink RX6 49 "SlabWalk$Paving" "rules" "I") m192) (fun _ h9 => h9) rfl (by decide +kernel) rfl rfl (fs_lt (fs_ne (fs_ne g_P_rules (by decide)) (by decide))) dX6_empty_12 (fun H locs hP hD hS => ?_)
  have hP : va_P D classes [(h0, .inr (6, (((P.set 9 (.int 0)).set 10 (.int 0)).set 11 (.int 0)))), (sl, .inl (k.2.1, 3, .inl g))] H := hP
  have hD : va_D A [(h0, .inr (6, (((P.set 9 (.int 0)).set 10 (.int 0)).set 11 (.int 0)))), (sl, .inl (k.2.1, 3, .inl g))] := hD
  refine lv_aload_n hx hb dX6_empty_15 rfl (lv_at hl 0 rfl) ?_
  refine lv_iconst (v := 0) hx hb dX6_empty_16 (by decide) ?_
  refine va_put (D := D) (ci := 6) (v := .int 0) (ty := .int) (C := RX6) (T := TX6) (N := 17) hx hb hg iX6 tyX6 tyX6_ok nmX6 hown hK hP hD hS 0 rfl rfl 12 (by decide) (hg (Cond.fieldLink RX6 52 "SlabWalk$Paving" "units" "I") m196) (fun _ h9 => h9) rfl (by decide +kernel) rfl rfl (fs_lt (fs_ne (fs_ne (fs_ne g_P_units (by decide)) (by decide)) (by decide))) dX6_empty_17 (fun H locs hP hD hS => ?_)
  have hP : va_P D classes [(h0, .inr (6, ((((P.set 9 (.int 0)).set 10 (.int 0)).set 11 (.int 0)).set 12 (.int 0)))), (sl, .inl (k.2.1, 3, .inl g))] H := hP
  have hD : va_D A [(h0, .inr (6, ((((P.set 9 (.int 0)).set 10 (.int 0)).set 11 (.int 0)).set 12 (.int 0)))), (sl, .inl (k.2.1, 3, .inl g))] := hD
  refine lv_aload_n hx hb dX6_empty_20 rfl (lv_at hl 0 rfl) ?_
  refine lv_iconst (v := 0) hx hb dX6_empty_21 (by decide) ?_
  refine va_put (D := D) (ci := 6) (v := .int 0) (ty := .int) (C := RX6) (T := TX6) (N := 17) hx hb hg iX6 tyX6 tyX6_ok nmX6 hown hK hP hD hS 0 rfl rfl 13 (by decide) (hg (Cond.fieldLink RX6 55 "SlabWalk$Paving" "coded" "I") m199) (fun _ h9 => h9) rfl (by decide +kernel) rfl rfl (fs_lt (fs_ne (fs_ne (fs_ne (fs_ne g_P_coded (by decide)) (by decide)) (by decide)) (by decide))) dX6_empty_22 (fun H locs hP hD hS => ?_)
  have hP : va_P D classes [(h0, .inr (6, (((((P.set 9 (.int 0)).set 10 (.int 0)).set 11 (.int 0)).set 12 (.int 0)).set 13 (.int 0)))), (sl, .inl (k.2.1, 3, .inl g))] H := hP
  have hD : va_D A [(h0, .inr (6, (((((P.set 9 (.int 0)).set 10 (.int 0)).set 11 (.int 0)).set 12 (.int 0)).set 13 (.int 0)))), (sl, .inl (k.2.1, 3, .inl g))] := hD
  refine lv_aload_n hx hb dX6_empty_25 rfl (lv_at hl 0 rfl) ?_
  refine lv_bipush (v := 30) hx hb dX6_empty_26 (by decide) ?_
  refine va_put (D := D) (ci := 6) (v := .int 30) (ty := .int) (C := RX6) (T := TX6) (N := 17) hx hb hg iX6 tyX6 tyX6_ok nmX6 hown hK hP hD hS 0 rfl rfl 14 (by decide) (hg (Cond.fieldLink RX6 58 "SlabWalk$Paving" "hand" "I") m201) (fun _ h9 => h9) rfl (by decide +kernel) rfl rfl (fs_lt (fs_ne (fs_ne (fs_ne (fs_ne (fs_ne g_P_hand (by decide)) (by decide)) (by decide)) (by decide)) (by decide))) dX6_empty_28 (fun H locs hP hD hS => ?_)
  have hP : va_P D classes [(h0, .inr (6, ((((((P.set 9 (.int 0)).set 10 (.int 0)).set 11 (.int 0)).set 12 (.int 0)).set 13 (.int 0)).set 14 (.int 30)))), (sl, .inl (k.2.1, 3, .inl g))] H := hP
  have hD : va_D A [(h0, .inr (6, ((((((P.set 9 (.int 0)).set 10 (.int 0)).set 11 (.int 0)).set 12 (.int 0)).set 13 (.int 0)).set 14 (.int 30)))), (sl, .inl (k.2.1, 3, .inl g))] := hD
  refine lv_aload_n hx hb dX6_empty_31 rfl (lv_at hl 0 rfl) ?_
  refine lv_bipush (v := 10) hx hb dX6_empty_32 (by decide) ?_
  refine va_put (D := D) (ci := 6) (v := .int 10) (ty := .int) (C := RX6) (T := TX6) (N := 17) hx hb hg iX6 tyX6 tyX6_ok nmX6 hown hK hP hD hS 0 rfl rfl 15 (by decide) (hg (Cond.fieldLink RX6 61 "SlabWalk$Paving" "slack" "I") m204) (fun _ h9 => h9) rfl (by decide +kernel) rfl rfl (fs_lt (fs_ne (fs_ne (fs_ne (fs_ne (fs_ne (fs_ne g_P_slack (by decide)) (by decide)) (by decide)) (by decide)) (by decide)) (by decide))) dX6_empty_34 (fun H locs hP hD hS => ?_)
  have hP : va_P D classes [(h0, .inr (6, (((((((P.set 9 (.int 0)).set 10 (.int 0)).set 11 (.int 0)).set 12 (.int 0)).set 13 (.int 0)).set 14 (.int 30)).set 15 (.int 10)))), (sl, .inl (k.2.1, 3, .inl g))] H := hP
  have hD : va_D A [(h0, .inr (6, (((((((P.set 9 (.int 0)).set 10 (.int 0)).set 11 (.int 0)).set 12 (.int 0)).set 13 (.int 0)).set 14 (.int 30)).set 15 (.int 10)))), (sl, .inl (k.2.1, 3, .inl g))] := hD
  refine lv_aload_n hx hb dX6_empty_37 rfl (lv_at hl 0 rfl) ?_
  refine lv_iconst (v := 0) hx hb dX6_empty_38 (by decide) ?_
  refine va_put (D := D) (ci := 6) (v := .int 0) (ty := .int) (C := RX6) (T := TX6) (N := 17) hx hb hg iX6 tyX6 tyX6_ok nmX6 hown hK hP hD hS 0 rfl rfl 16 (by decide) (hg (Cond.fieldLink RX6 64 "SlabWalk$Paving" "draw" "I") m207) (fun _ h9 => h9) rfl (by decide +kernel) rfl rfl (fs_lt (fs_ne (fs_ne (fs_ne (fs_ne (fs_ne (fs_ne (fs_ne g_P_draw (by decide)) (by decide)) (by decide)) (by decide)) (by decide)) (by decide)) (by decide))) dX6_empty_39 (fun H locs hP hD hS => ?_)
  have hP : va_P D classes [(h0, .inr (6, ((((((((P.set 9 (.int 0)).set 10 (.int 0)).set 11 (.int 0)).set 12 (.int 0)).set 13 (.int 0)).set 14 (.int 30)).set 15 (.int 10)).set 16 (.int 0)))), (sl, .inl (k.2.1, 3, .inl g))] H := hP
  have hD : va_D A [(h0, .inr (6, ((((((((P.set 9 (.int 0)).set 10 (.int 0)).set 11 (.int 0)).set 12 (.int 0)).set 13 (.int 0)).set 14 (.int 30)).set 15 (.int 10)).set 16 (.int 0)))), (sl, .inl (k.2.1, 3, .inl g))] := hD
  refine lv_aload_n hx hb dX6_empty_42 rfl (lv_at hl 0 rfl) ?_
  refine va_get (D := D) (ci := 6) (v := .ref sl) (C := RX6) (T := TX6) (N := 17) hx hb hg iX6 hown hK hP 0 rfl rfl 6 (by decide) (hg (Cond.fieldLink RX6 30 "SlabWalk$Paving" "slip" "[I") m178) (fun _ h9 => h9) (fs_ne (fs_ne (fs_ne (fs_ne (fs_ne (fs_ne (fs_ne (fs_ne g_P_slip (by decide)) (by decide)) (by decide)) (by decide)) (by decide)) (by decide)) (by decide)) (by decide)) dX6_empty_43 ?_
  refine lv_iconst (v := 0) hx hb dX6_empty_46 (by decide) ?_
  refine lv_iconst (v := 0) hx hb dX6_empty_47 (by decide) ?_
  refine va_iast hx hb hK hP hD hS 1 1 rfl rfl (show ¬ ((0 : Int32) < 0 ∨ 3 ≤ (0 : Int32).toNatClampNeg) from by decide +kernel) dX6_empty_48 (fun H locs hP hD hS => ?_)
  have hP : va_P D classes [(h0, .inr (6, ((((((((P.set 9 (.int 0)).set 10 (.int 0)).set 11 (.int 0)).set 12 (.int 0)).set 13 (.int 0)).set 14 (.int 30)).set 15 (.int 10)).set 16 (.int 0)))), (sl, .inl (k.2.1, 3, .inl (upd g 0 0)))] H := hP
  have hD : va_D A [(h0, .inr (6, ((((((((P.set 9 (.int 0)).set 10 (.int 0)).set 11 (.int 0)).set 12 (.int 0)).set 13 (.int 0)).set 14 (.int 30)).set 15 (.int 10)).set 16 (.int 0)))), (sl, .inl (k.2.1, 3, .inl (upd g 0 0)))] := hD
  have g_2 : (upd g 0 0) 0 = 0 := rfl
  generalize (upd g 0 0) = f_1 at hP hD g_2
  refine lv_aload_n hx hb dX6_empty_49 rfl (lv_at hl 0 rfl) ?_
  refine va_get (D := D) (ci := 6) (v := .ref sl) (C := RX6) (T := TX6) (N := 17) hx hb hg iX6 hown hK hP 0 rfl rfl 6 (by decide) (hg (Cond.fieldLink RX6 30 "SlabWalk$Paving" "slip" "[I") m178) (fun _ h9 => h9) (fs_ne (fs_ne (fs_ne (fs_ne (fs_ne (fs_ne (fs_ne (fs_ne g_P_slip (by decide)) (by decide)) (by decide)) (by decide)) (by decide)) (by decide)) (by decide)) (by decide)) dX6_empty_50 ?_
  refine lv_iconst (v := 1) hx hb dX6_empty_53 (by decide) ?_
  refine lv_iconst (v := 1) hx hb dX6_empty_54 (by decide) ?_
  refine va_iast hx hb hK hP hD hS 1 1 rfl rfl (show ¬ ((1 : Int32) < 0 ∨ 3 ≤ (1 : Int32).toNatClampNeg) from by decide +kernel) dX6_empty_55 (fun H locs hP hD hS => ?_)
  have hP : va_P D classes [(h0, .inr (6, ((((((((P.set 9 (.int 0)).set 10 (.int 0)).set 11 (.int 0)).set 12 (.int 0)).set 13 (.int 0)).set 14 (.int 30)).set 15 (.int 10)).set 16 (.int 0)))), (sl, .inl (k.2.1, 3, .inl (upd f_1 1 1)))] H := hP
  have hD : va_D A [(h0, .inr (6, ((((((((P.set 9 (.int 0)).set 10 (.int 0)).set 11 (.int 0)).set 12 (.int 0)).set 13 (.int 0)).set 14 (.int 30)).set 15 (.int 10)).set 16 (.int 0)))), (sl, .inl (k.2.1, 3, .inl (upd f_1 1 1)))] := hD
  have g_4 : (upd f_1 1 1) 0 = 0 := g_2
  have g_5 : (upd f_1 1 1) 1 = 1 := rfl
  generalize (upd f_1 1 1) = f_3 at hP hD g_4 g_5
  refine lv_aload_n hx hb dX6_empty_56 rfl (lv_at hl 0 rfl) ?_
  refine va_get (D := D) (ci := 6) (v := .ref sl) (C := RX6) (T := TX6) (N := 17) hx hb hg iX6 hown hK hP 0 rfl rfl 6 (by decide) (hg (Cond.fieldLink RX6 30 "SlabWalk$Paving" "slip" "[I") m178) (fun _ h9 => h9) (fs_ne (fs_ne (fs_ne (fs_ne (fs_ne (fs_ne (fs_ne (fs_ne g_P_slip (by decide)) (by decide)) (by decide)) (by decide)) (by decide)) (by decide)) (by decide)) (by decide)) dX6_empty_57 ?_
  refine lv_iconst (v := 2) hx hb dX6_empty_60 (by decide) ?_
  refine lv_iconst (v := 0) hx hb dX6_empty_61 (by decide) ?_
  refine va_iast hx hb hK hP hD hS 1 1 rfl rfl (show ¬ ((2 : Int32) < 0 ∨ 3 ≤ (2 : Int32).toNatClampNeg) from by decide +kernel) dX6_empty_62 (fun H locs hP hD hS => ?_)
  have hP : va_P D classes [(h0, .inr (6, ((((((((P.set 9 (.int 0)).set 10 (.int 0)).set 11 (.int 0)).set 12 (.int 0)).set 13 (.int 0)).set 14 (.int 30)).set 15 (.int 10)).set 16 (.int 0)))), (sl, .inl (k.2.1, 3, .inl (upd f_3 2 0)))] H := hP
  have hD : va_D A [(h0, .inr (6, ((((((((P.set 9 (.int 0)).set 10 (.int 0)).set 11 (.int 0)).set 12 (.int 0)).set 13 (.int 0)).set 14 (.int 30)).set 15 (.int 10)).set 16 (.int 0)))), (sl, .inl (k.2.1, 3, .inl (upd f_3 2 0)))] := hD
  have g_7 : (upd f_3 2 0) 0 = 0 := g_4
  have g_8 : (upd f_3 2 0) 1 = 1 := g_5
  have g_9 : (upd f_3 2 0) 2 = 0 := rfl
  generalize (upd f_3 2 0) = f_6 at hP hD g_7 g_8 g_9
  have hP9 := hP.sub (ws' := [(h0, .inr (6, ((((((((P.set 9 (.int 0)).set 10 (.int 0)).set 11 (.int 0)).set 12 (.int 0)).set 13 (.int 0)).set 14 (.int 30)).set 15 (.int 10)).set 16 (.int 0)))), (sl, .inl (k.2.1, 3, .inl f_6))]) [0, 1] rfl
  have hD9 := hD.sub (ws' := [(h0, .inr (6, ((((((((P.set 9 (.int 0)).set 10 (.int 0)).set 11 (.int 0)).set 12 (.int 0)).set 13 (.int 0)).set 14 (.int 30)).set 15 (.int 10)).set 16 (.int 0)))), (sl, .inl (k.2.1, 3, .inl f_6))]) [0, 1] (by decide) rfl
  exact W.vret hx hb hr (fun t ht hW => ⟨⟨(), rfl, trivial, ⟨((((((((P.set 9 (.int 0)).set 10 (.int 0)).set 11 (.int 0)).set 12 (.int 0)).set 13 (.int 0)).set 14 (.int 30)).set 15 (.int 10)).set 16 (.int 0)), f_6, (fs_ne (fs_ne (fs_ne (fs_ne (fs_ne (fs_ne (fs_eq (fs_ne g_P_walkers (by decide))) (by decide)) (by decide)) (by decide)) (by decide)) (by decide)) (by decide)), (fs_ne (fs_ne (fs_ne (fs_ne (fs_ne (fs_eq (fs_ne (fs_ne g_P_rules (by decide)) (by decide))) (by decide)) (by decide)) (by decide)) (by decide)) (by decide)), (fs_ne (fs_ne (fs_ne (fs_ne (fs_eq (fs_ne (fs_ne (fs_ne g_P_units (by decide)) (by decide)) (by decide))) (by decide)) (by decide)) (by decide)) (by decide)), (fs_ne (fs_ne (fs_ne (fs_eq (fs_ne (fs_ne (fs_ne (fs_ne g_P_coded (by decide)) (by decide)) (by decide)) (by decide))) (by decide)) (by decide)) (by decide)), (fs_ne (fs_ne (fs_eq (fs_ne (fs_ne (fs_ne (fs_ne (fs_ne g_P_hand (by decide)) (by decide)) (by decide)) (by decide)) (by decide))) (by decide)) (by decide)), (fs_ne (fs_eq (fs_ne (fs_ne (fs_ne (fs_ne (fs_ne (fs_ne g_P_slack (by decide)) (by decide)) (by decide)) (by decide)) (by decide)) (by decide))) (by decide)), (fs_eq (fs_ne (fs_ne (fs_ne (fs_ne (fs_ne (fs_ne (fs_ne g_P_draw (by decide)) (by decide)) (by decide)) (by decide)) (by decide)) (by decide)) (by decide))), (fs_ne (fs_ne (fs_ne (fs_ne (fs_ne (fs_ne (fs_ne (fs_ne g_P_slip (by decide)) (by decide)) (by decide)) (by decide)) (by decide)) (by decide)) (by decide)) (by decide)), (fs_ne (fs_ne (fs_ne (fs_ne (fs_ne (fs_ne (fs_ne (fs_eq g_P_streets) (by decide)) (by decide)) (by decide)) (by decide)) (by decide)) (by decide)) (by decide)), g_7, g_8, g_9, cB_of ht hP9 hD9⟩⟩, hS.F ht⟩) hS.2.2 dX6_empty_63

set_option maxHeartbeats 4000000 in
set_option maxRecDepth 100000 in
theorem c_X6_init (l : Launch) (D : va_G) (k : ClassId × ClassId × ClassId × ClassId) (sz : Nat) (h0 : Nat)  : Met l yX6_init (WS yX6_init cX6_init 1 none) ({ frames := 1, cells := 9, slots := 1809, locals := 20 }) (va_Pc [.ref h0] (cP D k [(h0, .inr (6, [.null, .null, .null, .null, .null, .null, .null, .null, .null, .int 0, .int 0, .int 0, .int 0, .int 0, .int 0, .int 0, .int 0]))] sz)) (va_Qv (fun _ : Unit => True) (fun (_ : Unit) t => ∃ (P : List Value), ∃ (sl : Nat), ∃ (g : Nat → Int32), P[10]? = some (.int 0) ∧ P[11]? = some (.int 0) ∧ P[12]? = some (.int 0) ∧ P[13]? = some (.int 0) ∧ P[14]? = some (.int 30) ∧ P[15]? = some (.int 10) ∧ P[16]? = some (.int 0) ∧ P[6]? = some (.ref sl) ∧ P[9]? = some (.int 0) ∧ g 0 = 0 ∧ g 1 = 1 ∧ g 2 = 0 ∧ cB D (va_A [(h0, .inr (6, [.null, .null, .null, .null, .null, .null, .null, .null, .null, .int 0, .int 0, .int 0, .int 0, .int 0, .int 0, .int 0, .int 0]))] sz) [(h0, .inr (6, P)), (sl, .inl (k.2.1, 3, .inl g))] t) (va_A [(h0, .inr (6, [.null, .null, .null, .null, .null, .null, .null, .null, .null, .int 0, .int 0, .int 0, .int 0, .int 0, .int 0, .int 0, .int 0]))] sz)) 9 1809 (va_A [(h0, .inr (6, [.null, .null, .null, .null, .null, .null, .null, .null, .null, .int 0, .int 0, .int 0, .int 0, .int 0, .int 0, .int 0, .int 0]))] sz) := by
  refine Met.ofW (cc := cX6_init) (maxL := 1) (ret := none) (by decide) rfl ?_
  intro p e s m args below meth c s₁ B hml hv
  obtain ⟨rfl, hsz, hP, hKX, hD0⟩ := hv
  have hK := hKX.1
  have hx := B.exec
  have hb := B.bytes
  have hr := B.returns
  have hts := atoms_spec (ws := WS yX6_init cX6_init 1 none) B.pre
  have hgd : ∀ w ∈ gd, w ∈ WS yX6_init cX6_init 1 none := fun w h => List.mem_cons_of_mem _ h
  have hg : ∀ w ∈ gd, w.before _ s = true := fun w h => hts w (hgd w h)
  have hown : s.vm.findClass RX6 = some m.cls := findClass_of_methodNamed B.named
  have hlocks := B.notSynchronized
  have hin : meth.name = "<init>" := (name_of_methodNamed B.named B.method).1
  subst hsz
  have hD := hD0.self (sz := s.heap.size)
  generalize hAe : va_A [(h0, .inr (6, [.null, .null, .null, .null, .null, .null, .null, .null, .null, .int 0, .int 0, .int 0, .int 0, .int 0, .int 0, .int 0, .int 0]))] s.heap.size = A at hD ⊢
  have hA : ∀ q : Nat, s.heap.size ≤ q → A q := fun q h => by rw [← hAe]; exact Or.inr h
  have hS : va_S A s.heap s.heap [] := va_S.rf
  have hP : va_P D classes [(h0, .inr (6, [.null, .null, .null, .null, .null, .null, .null, .null, .null, .int 0, .int 0, .int 0, .int 0, .int 0, .int 0, .int 0, .int 0]))] s.heap := hP
  have hl := lv_entry ([.ref h0]) (n := 1) (Nat.le_of_ble_eq_true rfl)
  rw [lg_entry_eq]
  generalize (lg_sl ([.ref h0]) ++ List.replicate (1 - (lg_sl ([.ref h0])).length) Slot.unset).toArray = ls at hl ⊢
  have hl : lv_has ls 1 [(0, .ref h0)] := hl
  refine lv_aload_n hx hb dX6_init_0 rfl (lv_at hl 0 rfl) ?_
  refine W.objInit hx hb hown (hg (Cond.methodLink RX6 3 objectInit) m151) (hg (Cond.instanceMethod objectInit) m144) (hg (Cond.code objectInit ⟨#[0xb1]⟩ 1 none) m145) rfl (by rw [hml]; exact hl.1) rfl dX6_init_1 (Nat.le_of_ble_eq_true rfl) (Nat.le_of_ble_eq_true rfl) ?_
  refine W.eq (g2 := F0 m 4 ls []) rfl ?_
  refine lv_aload_n hx hb dX6_init_4 rfl (lv_at hl 0 rfl) ?_
  refine lv_iconst (v := 3) hx hb dX6_init_5 (by decide) ?_
  refine va_newaT (atype := .int) (ty := .int) (a0 := (3, .inl (fun _ => 0))) hx hb (hg (Cond.arrayClass .int) m245) rfl ra_int hK hP hD hS hA 1 rfl (fun _ => rfl) (by decide) (by decide) (Nat.le_of_ble_eq_true rfl) (Nat.le_of_ble_eq_true rfl) (Nat.le_of_ble_eq_true rfl) dX6_init_6 (fun q_1 H hP hD hS => ?_)
  have hP : va_P D classes [(h0, .inr (6, [.null, .null, .null, .null, .null, .null, .null, .null, .null, .int 0, .int 0, .int 0, .int 0, .int 0, .int 0, .int 0, .int 0])), (q_1, .inl (k.2.1, 3, .inl (fun _ => 0)))] H := hP
  have hD : va_D A [(h0, .inr (6, [.null, .null, .null, .null, .null, .null, .null, .null, .null, .int 0, .int 0, .int 0, .int 0, .int 0, .int 0, .int 0, .int 0])), (q_1, .inl (k.2.1, 3, .inl (fun _ => 0)))] := hD
  refine W.widen (k := 1) (n := 3) (Nat.le_of_ble_eq_true rfl) (Nat.le_of_ble_eq_true rfl) ?_
  refine va_putF (D := D) (ci := 6) (v := .ref q_1) (ty := (.array .int)) (C := RX6) (T := TX6) (N := 17) hx hb hg iX6 tyX6 tyX6_ok nmX6 hown hK hP hD hS 0 rfl rfl 0 (by decide) (hg (Cond.fieldLink RX6 9 "SlabWalk$Paving" "length" "[I") m156) (fun _ h9 => h9) rfl hin rfl (by decide +kernel) rfl rfl (Nat.le_of_ble_eq_true rfl) dX6_init_8 (fun H locs hP hD hS => ?_)
  have hP : va_P D classes [(h0, .inr (6, [.ref q_1, .null, .null, .null, .null, .null, .null, .null, .null, .int 0, .int 0, .int 0, .int 0, .int 0, .int 0, .int 0, .int 0])), (q_1, .inl (k.2.1, 3, .inl (fun _ => 0)))] H := hP
  have hD : va_D A [(h0, .inr (6, [.ref q_1, .null, .null, .null, .null, .null, .null, .null, .null, .int 0, .int 0, .int 0, .int 0, .int 0, .int 0, .int 0, .int 0])), (q_1, .inl (k.2.1, 3, .inl (fun _ => 0)))] := hD
  have hP := hP.sub (ws' := [(h0, .inr (6, [.ref q_1, .null, .null, .null, .null, .null, .null, .null, .null, .int 0, .int 0, .int 0, .int 0, .int 0, .int 0, .int 0, .int 0]))]) [0] rfl
  have hD := hD.sub (ws' := [(h0, .inr (6, [.ref q_1, .null, .null, .null, .null, .null, .null, .null, .null, .int 0, .int 0, .int 0, .int 0, .int 0, .int 0, .int 0, .int 0]))]) [0] (by decide) rfl
  refine lv_aload_n hx hb dX6_init_11 rfl (lv_at hl 0 rfl) ?_
  refine lv_sipush (v := 1200) hx hb dX6_init_12 (by decide) ?_
  refine va_newaT (atype := .int) (ty := .int) (a0 := (1200, .inl (fun _ => 0))) hx hb (hg (Cond.arrayClass .int) m245) rfl ra_int hK hP hD hS hA 1 rfl (fun _ => rfl) (by decide) (by decide) (Nat.le_of_ble_eq_true rfl) (Nat.le_of_ble_eq_true rfl) (Nat.le_of_ble_eq_true rfl) dX6_init_15 (fun q_2 H hP hD hS => ?_)
  have hP : va_P D classes [(h0, .inr (6, [.ref q_1, .null, .null, .null, .null, .null, .null, .null, .null, .int 0, .int 0, .int 0, .int 0, .int 0, .int 0, .int 0, .int 0])), (q_2, .inl (k.2.1, 1200, .inl (fun _ => 0)))] H := hP
  have hD : va_D A [(h0, .inr (6, [.ref q_1, .null, .null, .null, .null, .null, .null, .null, .null, .int 0, .int 0, .int 0, .int 0, .int 0, .int 0, .int 0, .int 0])), (q_2, .inl (k.2.1, 1200, .inl (fun _ => 0)))] := hD
  refine W.widen (k := 2) (n := 1203) (Nat.le_of_ble_eq_true rfl) (Nat.le_of_ble_eq_true rfl) ?_
  refine va_putF (D := D) (ci := 6) (v := .ref q_2) (ty := (.array .int)) (C := RX6) (T := TX6) (N := 17) hx hb hg iX6 tyX6 tyX6_ok nmX6 hown hK hP hD hS 0 rfl rfl 1 (by decide) (hg (Cond.fieldLink RX6 15 "SlabWalk$Paving" "inches" "[I") m161) (fun _ h9 => h9) rfl hin rfl (by decide +kernel) rfl rfl (Nat.le_of_ble_eq_true rfl) dX6_init_17 (fun H locs hP hD hS => ?_)
  have hP : va_P D classes [(h0, .inr (6, [.ref q_1, .ref q_2, .null, .null, .null, .null, .null, .null, .null, .int 0, .int 0, .int 0, .int 0, .int 0, .int 0, .int 0, .int 0])), (q_2, .inl (k.2.1, 1200, .inl (fun _ => 0)))] H := hP
  have hD : va_D A [(h0, .inr (6, [.ref q_1, .ref q_2, .null, .null, .null, .null, .null, .null, .null, .int 0, .int 0, .int 0, .int 0, .int 0, .int 0, .int 0, .int 0])), (q_2, .inl (k.2.1, 1200, .inl (fun _ => 0)))] := hD
  have hP := hP.sub (ws' := [(h0, .inr (6, [.ref q_1, .ref q_2, .null, .null, .null, .null, .null, .null, .null, .int 0, .int 0, .int 0, .int 0, .int 0, .int 0, .int 0, .int 0]))]) [0] rfl
  have hD := hD.sub (ws' := [(h0, .inr (6, [.ref q_1, .ref q_2, .null, .null, .null, .null, .null, .null, .null, .int 0, .int 0, .int 0, .int 0, .int 0, .int 0, .int 0, .int 0]))]) [0] (by decide) rfl
  refine lv_aload_n hx hb dX6_init_20 rfl (lv_at hl 0 rfl) ?_
  refine lv_iconst (v := 4) hx hb dX6_init_21 (by decide) ?_
  refine va_newaT (atype := .int) (ty := .int) (a0 := (4, .inl (fun _ => 0))) hx hb (hg (Cond.arrayClass .int) m245) rfl ra_int hK hP hD hS hA 1 rfl (fun _ => rfl) (by decide) (by decide) (Nat.le_of_ble_eq_true rfl) (Nat.le_of_ble_eq_true rfl) (Nat.le_of_ble_eq_true rfl) dX6_init_22 (fun q_3 H hP hD hS => ?_)
  have hP : va_P D classes [(h0, .inr (6, [.ref q_1, .ref q_2, .null, .null, .null, .null, .null, .null, .null, .int 0, .int 0, .int 0, .int 0, .int 0, .int 0, .int 0, .int 0])), (q_3, .inl (k.2.1, 4, .inl (fun _ => 0)))] H := hP
  have hD : va_D A [(h0, .inr (6, [.ref q_1, .ref q_2, .null, .null, .null, .null, .null, .null, .null, .int 0, .int 0, .int 0, .int 0, .int 0, .int 0, .int 0, .int 0])), (q_3, .inl (k.2.1, 4, .inl (fun _ => 0)))] := hD
  refine W.widen (k := 3) (n := 1207) (Nat.le_of_ble_eq_true rfl) (Nat.le_of_ble_eq_true rfl) ?_
  refine va_putF (D := D) (ci := 6) (v := .ref q_3) (ty := (.array .int)) (C := RX6) (T := TX6) (N := 17) hx hb hg iX6 tyX6 tyX6_ok nmX6 hown hK hP hD hS 0 rfl rfl 2 (by decide) (hg (Cond.fieldLink RX6 18 "SlabWalk$Paving" "foot" "[I") m162) (fun _ h9 => h9) rfl hin rfl (by decide +kernel) rfl rfl (Nat.le_of_ble_eq_true rfl) dX6_init_24 (fun H locs hP hD hS => ?_)
  have hP : va_P D classes [(h0, .inr (6, [.ref q_1, .ref q_2, .ref q_3, .null, .null, .null, .null, .null, .null, .int 0, .int 0, .int 0, .int 0, .int 0, .int 0, .int 0, .int 0])), (q_3, .inl (k.2.1, 4, .inl (fun _ => 0)))] H := hP
  have hD : va_D A [(h0, .inr (6, [.ref q_1, .ref q_2, .ref q_3, .null, .null, .null, .null, .null, .null, .int 0, .int 0, .int 0, .int 0, .int 0, .int 0, .int 0, .int 0])), (q_3, .inl (k.2.1, 4, .inl (fun _ => 0)))] := hD
  have hP := hP.sub (ws' := [(h0, .inr (6, [.ref q_1, .ref q_2, .ref q_3, .null, .null, .null, .null, .null, .null, .int 0, .int 0, .int 0, .int 0, .int 0, .int 0, .int 0, .int 0]))]) [0] rfl
  have hD := hD.sub (ws' := [(h0, .inr (6, [.ref q_1, .ref q_2, .ref q_3, .null, .null, .null, .null, .null, .null, .int 0, .int 0, .int 0, .int 0, .int 0, .int 0, .int 0, .int 0]))]) [0] (by decide) rfl
  refine lv_aload_n hx hb dX6_init_27 rfl (lv_at hl 0 rfl) ?_
  refine lv_iconst (v := 4) hx hb dX6_init_28 (by decide) ?_
  refine va_newaT (atype := .int) (ty := .int) (a0 := (4, .inl (fun _ => 0))) hx hb (hg (Cond.arrayClass .int) m245) rfl ra_int hK hP hD hS hA 1 rfl (fun _ => rfl) (by decide) (by decide) (Nat.le_of_ble_eq_true rfl) (Nat.le_of_ble_eq_true rfl) (Nat.le_of_ble_eq_true rfl) dX6_init_29 (fun q_4 H hP hD hS => ?_)
  have hP : va_P D classes [(h0, .inr (6, [.ref q_1, .ref q_2, .ref q_3, .null, .null, .null, .null, .null, .null, .int 0, .int 0, .int 0, .int 0, .int 0, .int 0, .int 0, .int 0])), (q_4, .inl (k.2.1, 4, .inl (fun _ => 0)))] H := hP
  have hD : va_D A [(h0, .inr (6, [.ref q_1, .ref q_2, .ref q_3, .null, .null, .null, .null, .null, .null, .int 0, .int 0, .int 0, .int 0, .int 0, .int 0, .int 0, .int 0])), (q_4, .inl (k.2.1, 4, .inl (fun _ => 0)))] := hD
  refine W.widen (k := 4) (n := 1211) (Nat.le_of_ble_eq_true rfl) (Nat.le_of_ble_eq_true rfl) ?_
  refine va_putF (D := D) (ci := 6) (v := .ref q_4) (ty := (.array .int)) (C := RX6) (T := TX6) (N := 17) hx hb hg iX6 tyX6 tyX6_ok nmX6 hown hK hP hD hS 0 rfl rfl 3 (by decide) (hg (Cond.fieldLink RX6 21 "SlabWalk$Paving" "least" "[I") m166) (fun _ h9 => h9) rfl hin rfl (by decide +kernel) rfl rfl (Nat.le_of_ble_eq_true rfl) dX6_init_31 (fun H locs hP hD hS => ?_)
  have hP : va_P D classes [(h0, .inr (6, [.ref q_1, .ref q_2, .ref q_3, .ref q_4, .null, .null, .null, .null, .null, .int 0, .int 0, .int 0, .int 0, .int 0, .int 0, .int 0, .int 0])), (q_4, .inl (k.2.1, 4, .inl (fun _ => 0)))] H := hP
  have hD : va_D A [(h0, .inr (6, [.ref q_1, .ref q_2, .ref q_3, .ref q_4, .null, .null, .null, .null, .null, .int 0, .int 0, .int 0, .int 0, .int 0, .int 0, .int 0, .int 0])), (q_4, .inl (k.2.1, 4, .inl (fun _ => 0)))] := hD
  have hP := hP.sub (ws' := [(h0, .inr (6, [.ref q_1, .ref q_2, .ref q_3, .ref q_4, .null, .null, .null, .null, .null, .int 0, .int 0, .int 0, .int 0, .int 0, .int 0, .int 0, .int 0]))]) [0] rfl
  have hD := hD.sub (ws' := [(h0, .inr (6, [.ref q_1, .ref q_2, .ref q_3, .ref q_4, .null, .null, .null, .null, .null, .int 0, .int 0, .int 0, .int 0, .int 0, .int 0, .int 0, .int 0]))]) [0] (by decide) rfl
  refine lv_aload_n hx hb dX6_init_34 rfl (lv_at hl 0 rfl) ?_
  refine lv_iconst (v := 4) hx hb dX6_init_35 (by decide) ?_
  refine va_newaT (atype := .int) (ty := .int) (a0 := (4, .inl (fun _ => 0))) hx hb (hg (Cond.arrayClass .int) m245) rfl ra_int hK hP hD hS hA 1 rfl (fun _ => rfl) (by decide) (by decide) (Nat.le_of_ble_eq_true rfl) (Nat.le_of_ble_eq_true rfl) (Nat.le_of_ble_eq_true rfl) dX6_init_36 (fun q_5 H hP hD hS => ?_)
  have hP : va_P D classes [(h0, .inr (6, [.ref q_1, .ref q_2, .ref q_3, .ref q_4, .null, .null, .null, .null, .null, .int 0, .int 0, .int 0, .int 0, .int 0, .int 0, .int 0, .int 0])), (q_5, .inl (k.2.1, 4, .inl (fun _ => 0)))] H := hP
  have hD : va_D A [(h0, .inr (6, [.ref q_1, .ref q_2, .ref q_3, .ref q_4, .null, .null, .null, .null, .null, .int 0, .int 0, .int 0, .int 0, .int 0, .int 0, .int 0, .int 0])), (q_5, .inl (k.2.1, 4, .inl (fun _ => 0)))] := hD
  refine W.widen (k := 5) (n := 1215) (Nat.le_of_ble_eq_true rfl) (Nat.le_of_ble_eq_true rfl) ?_
  refine va_putF (D := D) (ci := 6) (v := .ref q_5) (ty := (.array .int)) (C := RX6) (T := TX6) (N := 17) hx hb hg iX6 tyX6 tyX6_ok nmX6 hown hK hP hD hS 0 rfl rfl 4 (by decide) (hg (Cond.fieldLink RX6 24 "SlabWalk$Paving" "most" "[I") m170) (fun _ h9 => h9) rfl hin rfl (by decide +kernel) rfl rfl (Nat.le_of_ble_eq_true rfl) dX6_init_38 (fun H locs hP hD hS => ?_)
  have hP : va_P D classes [(h0, .inr (6, [.ref q_1, .ref q_2, .ref q_3, .ref q_4, .ref q_5, .null, .null, .null, .null, .int 0, .int 0, .int 0, .int 0, .int 0, .int 0, .int 0, .int 0])), (q_5, .inl (k.2.1, 4, .inl (fun _ => 0)))] H := hP
  have hD : va_D A [(h0, .inr (6, [.ref q_1, .ref q_2, .ref q_3, .ref q_4, .ref q_5, .null, .null, .null, .null, .int 0, .int 0, .int 0, .int 0, .int 0, .int 0, .int 0, .int 0])), (q_5, .inl (k.2.1, 4, .inl (fun _ => 0)))] := hD
  have hP := hP.sub (ws' := [(h0, .inr (6, [.ref q_1, .ref q_2, .ref q_3, .ref q_4, .ref q_5, .null, .null, .null, .null, .int 0, .int 0, .int 0, .int 0, .int 0, .int 0, .int 0, .int 0]))]) [0] rfl
  have hD := hD.sub (ws' := [(h0, .inr (6, [.ref q_1, .ref q_2, .ref q_3, .ref q_4, .ref q_5, .null, .null, .null, .null, .int 0, .int 0, .int 0, .int 0, .int 0, .int 0, .int 0, .int 0]))]) [0] (by decide) rfl
  refine lv_aload_n hx hb dX6_init_41 rfl (lv_at hl 0 rfl) ?_
  refine lv_iconst (v := 4) hx hb dX6_init_42 (by decide) ?_
  refine va_newaT (atype := .int) (ty := .int) (a0 := (4, .inl (fun _ => 0))) hx hb (hg (Cond.arrayClass .int) m245) rfl ra_int hK hP hD hS hA 1 rfl (fun _ => rfl) (by decide) (by decide) (Nat.le_of_ble_eq_true rfl) (Nat.le_of_ble_eq_true rfl) (Nat.le_of_ble_eq_true rfl) dX6_init_43 (fun q_6 H hP hD hS => ?_)
  have hP : va_P D classes [(h0, .inr (6, [.ref q_1, .ref q_2, .ref q_3, .ref q_4, .ref q_5, .null, .null, .null, .null, .int 0, .int 0, .int 0, .int 0, .int 0, .int 0, .int 0, .int 0])), (q_6, .inl (k.2.1, 4, .inl (fun _ => 0)))] H := hP
  have hD : va_D A [(h0, .inr (6, [.ref q_1, .ref q_2, .ref q_3, .ref q_4, .ref q_5, .null, .null, .null, .null, .int 0, .int 0, .int 0, .int 0, .int 0, .int 0, .int 0, .int 0])), (q_6, .inl (k.2.1, 4, .inl (fun _ => 0)))] := hD
  refine W.widen (k := 6) (n := 1219) (Nat.le_of_ble_eq_true rfl) (Nat.le_of_ble_eq_true rfl) ?_
  refine va_putF (D := D) (ci := 6) (v := .ref q_6) (ty := (.array .int)) (C := RX6) (T := TX6) (N := 17) hx hb hg iX6 tyX6 tyX6_ok nmX6 hown hK hP hD hS 0 rfl rfl 5 (by decide) (hg (Cond.fieldLink RX6 27 "SlabWalk$Paving" "leap" "[I") m174) (fun _ h9 => h9) rfl hin rfl (by decide +kernel) rfl rfl (Nat.le_of_ble_eq_true rfl) dX6_init_45 (fun H locs hP hD hS => ?_)
  have hP : va_P D classes [(h0, .inr (6, [.ref q_1, .ref q_2, .ref q_3, .ref q_4, .ref q_5, .ref q_6, .null, .null, .null, .int 0, .int 0, .int 0, .int 0, .int 0, .int 0, .int 0, .int 0])), (q_6, .inl (k.2.1, 4, .inl (fun _ => 0)))] H := hP
  have hD : va_D A [(h0, .inr (6, [.ref q_1, .ref q_2, .ref q_3, .ref q_4, .ref q_5, .ref q_6, .null, .null, .null, .int 0, .int 0, .int 0, .int 0, .int 0, .int 0, .int 0, .int 0])), (q_6, .inl (k.2.1, 4, .inl (fun _ => 0)))] := hD
  have hP := hP.sub (ws' := [(h0, .inr (6, [.ref q_1, .ref q_2, .ref q_3, .ref q_4, .ref q_5, .ref q_6, .null, .null, .null, .int 0, .int 0, .int 0, .int 0, .int 0, .int 0, .int 0, .int 0]))]) [0] rfl
  have hD := hD.sub (ws' := [(h0, .inr (6, [.ref q_1, .ref q_2, .ref q_3, .ref q_4, .ref q_5, .ref q_6, .null, .null, .null, .int 0, .int 0, .int 0, .int 0, .int 0, .int 0, .int 0, .int 0]))]) [0] (by decide) rfl
  refine lv_aload_n hx hb dX6_init_48 rfl (lv_at hl 0 rfl) ?_
  refine lv_iconst (v := 3) hx hb dX6_init_49 (by decide) ?_
  refine va_newaT (atype := .int) (ty := .int) (a0 := (3, .inl (fun _ => 0))) hx hb (hg (Cond.arrayClass .int) m245) rfl ra_int hK hP hD hS hA 1 rfl (fun _ => rfl) (by decide) (by decide) (Nat.le_of_ble_eq_true rfl) (Nat.le_of_ble_eq_true rfl) (Nat.le_of_ble_eq_true rfl) dX6_init_50 (fun q_7 H hP hD hS => ?_)
  have hP : va_P D classes [(h0, .inr (6, [.ref q_1, .ref q_2, .ref q_3, .ref q_4, .ref q_5, .ref q_6, .null, .null, .null, .int 0, .int 0, .int 0, .int 0, .int 0, .int 0, .int 0, .int 0])), (q_7, .inl (k.2.1, 3, .inl (fun _ => 0)))] H := hP
  have hD : va_D A [(h0, .inr (6, [.ref q_1, .ref q_2, .ref q_3, .ref q_4, .ref q_5, .ref q_6, .null, .null, .null, .int 0, .int 0, .int 0, .int 0, .int 0, .int 0, .int 0, .int 0])), (q_7, .inl (k.2.1, 3, .inl (fun _ => 0)))] := hD
  refine W.widen (k := 7) (n := 1222) (Nat.le_of_ble_eq_true rfl) (Nat.le_of_ble_eq_true rfl) ?_
  refine va_putF (D := D) (ci := 6) (v := .ref q_7) (ty := (.array .int)) (C := RX6) (T := TX6) (N := 17) hx hb hg iX6 tyX6 tyX6_ok nmX6 hown hK hP hD hS 0 rfl rfl 6 (by decide) (hg (Cond.fieldLink RX6 30 "SlabWalk$Paving" "slip" "[I") m178) (fun _ h9 => h9) rfl hin rfl (by decide +kernel) rfl rfl (Nat.le_of_ble_eq_true rfl) dX6_init_52 (fun H locs hP hD hS => ?_)
  have hP : va_P D classes [(h0, .inr (6, [.ref q_1, .ref q_2, .ref q_3, .ref q_4, .ref q_5, .ref q_6, .ref q_7, .null, .null, .int 0, .int 0, .int 0, .int 0, .int 0, .int 0, .int 0, .int 0])), (q_7, .inl (k.2.1, 3, .inl (fun _ => 0)))] H := hP
  have hD : va_D A [(h0, .inr (6, [.ref q_1, .ref q_2, .ref q_3, .ref q_4, .ref q_5, .ref q_6, .ref q_7, .null, .null, .int 0, .int 0, .int 0, .int 0, .int 0, .int 0, .int 0, .int 0])), (q_7, .inl (k.2.1, 3, .inl (fun _ => 0)))] := hD
  refine lv_aload_n hx hb dX6_init_55 rfl (lv_at hl 0 rfl) ?_
  refine lv_sipush (v := 580) hx hb dX6_init_56 (by decide) ?_
  refine va_newaT (atype := .int) (ty := .int) (a0 := (580, .inl (fun _ => 0))) hx hb (hg (Cond.arrayClass .int) m245) rfl ra_int hK hP hD hS hA 1 rfl (fun _ => rfl) (by decide) (by decide) (Nat.le_of_ble_eq_true rfl) (Nat.le_of_ble_eq_true rfl) (Nat.le_of_ble_eq_true rfl) dX6_init_59 (fun q_8 H hP hD hS => ?_)
  have hP : va_P D classes [(h0, .inr (6, [.ref q_1, .ref q_2, .ref q_3, .ref q_4, .ref q_5, .ref q_6, .ref q_7, .null, .null, .int 0, .int 0, .int 0, .int 0, .int 0, .int 0, .int 0, .int 0])), (q_7, .inl (k.2.1, 3, .inl (fun _ => 0))), (q_8, .inl (k.2.1, 580, .inl (fun _ => 0)))] H := hP
  have hD : va_D A [(h0, .inr (6, [.ref q_1, .ref q_2, .ref q_3, .ref q_4, .ref q_5, .ref q_6, .ref q_7, .null, .null, .int 0, .int 0, .int 0, .int 0, .int 0, .int 0, .int 0, .int 0])), (q_7, .inl (k.2.1, 3, .inl (fun _ => 0))), (q_8, .inl (k.2.1, 580, .inl (fun _ => 0)))] := hD
  refine W.widen (k := 8) (n := 1802) (Nat.le_of_ble_eq_true rfl) (Nat.le_of_ble_eq_true rfl) ?_
  refine va_putF (D := D) (ci := 6) (v := .ref q_8) (ty := (.array .int)) (C := RX6) (T := TX6) (N := 17) hx hb hg iX6 tyX6 tyX6_ok nmX6 hown hK hP hD hS 0 rfl rfl 7 (by decide) (hg (Cond.fieldLink RX6 33 "SlabWalk$Paving" "code" "[I") m181) (fun _ h9 => h9) rfl hin rfl (by decide +kernel) rfl rfl (Nat.le_of_ble_eq_true rfl) dX6_init_61 (fun H locs hP hD hS => ?_)
  have hP : va_P D classes [(h0, .inr (6, [.ref q_1, .ref q_2, .ref q_3, .ref q_4, .ref q_5, .ref q_6, .ref q_7, .ref q_8, .null, .int 0, .int 0, .int 0, .int 0, .int 0, .int 0, .int 0, .int 0])), (q_7, .inl (k.2.1, 3, .inl (fun _ => 0))), (q_8, .inl (k.2.1, 580, .inl (fun _ => 0)))] H := hP
  have hD : va_D A [(h0, .inr (6, [.ref q_1, .ref q_2, .ref q_3, .ref q_4, .ref q_5, .ref q_6, .ref q_7, .ref q_8, .null, .int 0, .int 0, .int 0, .int 0, .int 0, .int 0, .int 0, .int 0])), (q_7, .inl (k.2.1, 3, .inl (fun _ => 0))), (q_8, .inl (k.2.1, 580, .inl (fun _ => 0)))] := hD
  have hP := hP.sub (ws' := [(h0, .inr (6, [.ref q_1, .ref q_2, .ref q_3, .ref q_4, .ref q_5, .ref q_6, .ref q_7, .ref q_8, .null, .int 0, .int 0, .int 0, .int 0, .int 0, .int 0, .int 0, .int 0])), (q_7, .inl (k.2.1, 3, .inl (fun _ => 0)))]) [0, 1] rfl
  have hD := hD.sub (ws' := [(h0, .inr (6, [.ref q_1, .ref q_2, .ref q_3, .ref q_4, .ref q_5, .ref q_6, .ref q_7, .ref q_8, .null, .int 0, .int 0, .int 0, .int 0, .int 0, .int 0, .int 0, .int 0])), (q_7, .inl (k.2.1, 3, .inl (fun _ => 0)))]) [0, 1] (by decide) rfl
  refine lv_aload_n hx hb dX6_init_64 rfl (lv_at hl 0 rfl) ?_
  refine lv_bipush (v := 7) hx hb dX6_init_65 (by decide) ?_
  refine va_newaT (atype := .int) (ty := .int) (a0 := (7, .inl (fun _ => 0))) hx hb (hg (Cond.arrayClass .int) m245) rfl ra_int hK hP hD hS hA 1 rfl (fun _ => rfl) (by decide) (by decide) (Nat.le_of_ble_eq_true rfl) (Nat.le_of_ble_eq_true rfl) (Nat.le_of_ble_eq_true rfl) dX6_init_67 (fun q_9 H hP hD hS => ?_)
  have hP : va_P D classes [(h0, .inr (6, [.ref q_1, .ref q_2, .ref q_3, .ref q_4, .ref q_5, .ref q_6, .ref q_7, .ref q_8, .null, .int 0, .int 0, .int 0, .int 0, .int 0, .int 0, .int 0, .int 0])), (q_7, .inl (k.2.1, 3, .inl (fun _ => 0))), (q_9, .inl (k.2.1, 7, .inl (fun _ => 0)))] H := hP
  have hD : va_D A [(h0, .inr (6, [.ref q_1, .ref q_2, .ref q_3, .ref q_4, .ref q_5, .ref q_6, .ref q_7, .ref q_8, .null, .int 0, .int 0, .int 0, .int 0, .int 0, .int 0, .int 0, .int 0])), (q_7, .inl (k.2.1, 3, .inl (fun _ => 0))), (q_9, .inl (k.2.1, 7, .inl (fun _ => 0)))] := hD
  refine W.widen (k := 9) (n := 1809) (Nat.le_of_ble_eq_true rfl) (Nat.le_of_ble_eq_true rfl) ?_
  refine va_putF (D := D) (ci := 6) (v := .ref q_9) (ty := (.array .int)) (C := RX6) (T := TX6) (N := 17) hx hb hg iX6 tyX6 tyX6_ok nmX6 hown hK hP hD hS 0 rfl rfl 8 (by decide) (hg (Cond.fieldLink RX6 36 "SlabWalk$Paving" "codeEnd" "[I") m183) (fun _ h9 => h9) rfl hin rfl (by decide +kernel) rfl rfl (Nat.le_of_ble_eq_true rfl) dX6_init_69 (fun H locs hP hD hS => ?_)
  have hP : va_P D classes [(h0, .inr (6, [.ref q_1, .ref q_2, .ref q_3, .ref q_4, .ref q_5, .ref q_6, .ref q_7, .ref q_8, .ref q_9, .int 0, .int 0, .int 0, .int 0, .int 0, .int 0, .int 0, .int 0])), (q_7, .inl (k.2.1, 3, .inl (fun _ => 0))), (q_9, .inl (k.2.1, 7, .inl (fun _ => 0)))] H := hP
  have hD : va_D A [(h0, .inr (6, [.ref q_1, .ref q_2, .ref q_3, .ref q_4, .ref q_5, .ref q_6, .ref q_7, .ref q_8, .ref q_9, .int 0, .int 0, .int 0, .int 0, .int 0, .int 0, .int 0, .int 0])), (q_7, .inl (k.2.1, 3, .inl (fun _ => 0))), (q_9, .inl (k.2.1, 7, .inl (fun _ => 0)))] := hD
  have hP := hP.sub (ws' := [(h0, .inr (6, [.ref q_1, .ref q_2, .ref q_3, .ref q_4, .ref q_5, .ref q_6, .ref q_7, .ref q_8, .ref q_9, .int 0, .int 0, .int 0, .int 0, .int 0, .int 0, .int 0, .int 0])), (q_7, .inl (k.2.1, 3, .inl (fun _ => 0)))]) [0, 1] rfl
  have hD := hD.sub (ws' := [(h0, .inr (6, [.ref q_1, .ref q_2, .ref q_3, .ref q_4, .ref q_5, .ref q_6, .ref q_7, .ref q_8, .ref q_9, .int 0, .int 0, .int 0, .int 0, .int 0, .int 0, .int 0, .int 0])), (q_7, .inl (k.2.1, 3, .inl (fun _ => 0)))]) [0, 1] (by decide) rfl
  refine lv_aload_n hx hb dX6_init_72 rfl (lv_at hl 0 rfl) ?_
  have hPc := hP.sub (ws' := [(h0, .inr (6, [.ref q_1, .ref q_2, .ref q_3, .ref q_4, .ref q_5, .ref q_6, .ref q_7, .ref q_8, .ref q_9, .int 0, .int 0, .int 0, .int 0, .int 0, .int 0, .int 0, .int 0])), (q_7, .inl (k.2.1, 3, .inl (fun _ => 0)))]) [0, 1] rfl
  have hDc := hD.sub (ws' := [(h0, .inr (6, [.ref q_1, .ref q_2, .ref q_3, .ref q_4, .ref q_5, .ref q_6, .ref q_7, .ref q_8, .ref q_9, .int 0, .int 0, .int 0, .int 0, .int 0, .int 0, .int 0, .int 0])), (q_7, .inl (k.2.1, 3, .inl (fun _ => 0)))]) [0, 1] (by decide) rfl
  have hFc := va_free (wc := [(h0, .inr (6, [.ref q_1, .ref q_2, .ref q_3, .ref q_4, .ref q_5, .ref q_6, .ref q_7, .ref q_8, .ref q_9, .int 0, .int 0, .int 0, .int 0, .int 0, .int 0, .int 0, .int 0])), (q_7, .inl (k.2.1, 3, .inl (fun _ => 0)))]) hD hS hA [0, 1] rfl
  refine va_callv (va_runV (As := []) (rest := []) ⟨hx, hb, hml, hown, hts⟩ (c_X6_empty l D k H.size h0 q_7 ([.ref q_1, .ref q_2, .ref q_3, .ref q_4, .ref q_5, .ref q_6, .ref q_7, .ref q_8, .ref q_9, .int 0, .int 0, .int 0, .int 0, .int 0, .int 0, .int 0, .int 0]) (fun _ => 0) 0 0 0 0 0 0 0 0 rfl rfl rfl rfl rfl rfl rfl rfl rfl) (cwV 0 hts (gd_V hgd m152 m153 m154 m118 m155) rfl rfl rfl (by decide +kernel) ⟨Nat.le_of_ble_eq_true rfl, Nat.le_of_ble_eq_true rfl⟩) (cP_V hPc hKX hDc (ci := 6) (q0 := 0) rfl rfl) rfl rfl hl.1 rfl (lv_room (Nat.le_of_ble_eq_true rfl)) dX6_init_73 ⟨Nat.le_of_ble_eq_true rfl, Nat.le_of_ble_eq_true rfl⟩) hS (fun q _ h => hFc q h) hFc (fun u t H1 locs ht hvm hw hB hz1 hk1 hS => ?_)
  obtain ⟨z_11, z_12, g_13, g_14, g_15, g_16, g_17, g_18, g_19, g_20, g_21, g_22, g_23, g_24, hP1, hD1⟩ := hB
  rw [ht] at hP1
  obtain ⟨hP, hD⟩ := va_join (wr := []) (w1 := [(h0, .inr (6, z_11)), (q_7, .inl (k.2.1, 3, .inl z_12))]) hP hD [0, 1] [] rfl rfl (by decide) (by decide) hk1 hFc hP1 hD1
  generalize H1 = H at hP hS ⊢
  have hP : va_P D classes [(h0, .inr (6, z_11)), (q_7, .inl (k.2.1, 3, .inl z_12))] H := hP
  have hD : va_D A [(h0, .inr (6, z_11)), (q_7, .inl (k.2.1, 3, .inl z_12))] := hD
  refine W.widen (k := 9) (n := 1809) (Nat.le_of_ble_eq_true rfl) (Nat.le_of_ble_eq_true rfl) ?_
  have hP9 := hP.sub (ws' := [(h0, .inr (6, z_11)), (q_7, .inl (k.2.1, 3, .inl z_12))]) [0, 1] rfl
  have hD9 := hD.sub (ws' := [(h0, .inr (6, z_11)), (q_7, .inl (k.2.1, 3, .inl z_12))]) [0, 1] (by decide) rfl
  exact W.vret hx hb hr (fun t ht hW => ⟨⟨(), rfl, trivial, ⟨z_11, q_7, z_12, g_13, g_14, g_15, g_16, g_17, g_18, g_19, g_20, g_21, g_22, g_23, g_24, cB_of ht hP9 hD9⟩⟩, hS.F ht⟩) hS.2.2 dX6_init_76

set_option maxHeartbeats 4000000 in
set_option maxRecDepth 100000 in
theorem c_X9_init (l : Launch) (D : va_G) (k : ClassId × ClassId × ClassId × ClassId) (sz : Nat) (h0 h1 : Nat)  : Met l yX9_init (WS yX9_init cX9_init 2 none) ({ frames := 1, cells := 0, slots := 0, locals := 12 }) (va_Pc [.ref h0, .ref h1] (cP D k [(h0, .inr (9, [.null, .int 0, .int 0, .int 0, .int 0, .int 0, .long 0, .int 0, .int 0]))] sz)) (va_Qv (fun _ : Unit => True) (fun (_ : Unit) t => ∃ (K : List Value), K[0]? = some (.ref h1) ∧ K[1]? = some (.int 0) ∧ K[2]? = some (.int 0) ∧ K[3]? = some (.int 0) ∧ K[4]? = some (.int 0) ∧ K[7]? = some (.int 0) ∧ K[8]? = some (.int (-1)) ∧ cB D (va_A [(h0, .inr (9, [.null, .int 0, .int 0, .int 0, .int 0, .int 0, .long 0, .int 0, .int 0]))] sz) [(h0, .inr (9, K))] t) (va_A [(h0, .inr (9, [.null, .int 0, .int 0, .int 0, .int 0, .int 0, .long 0, .int 0, .int 0]))] sz)) 0 0 (va_A [(h0, .inr (9, [.null, .int 0, .int 0, .int 0, .int 0, .int 0, .long 0, .int 0, .int 0]))] sz) := by
  refine Met.ofW (cc := cX9_init) (maxL := 2) (ret := none) (by decide) rfl ?_
  intro p e s m args below meth c s₁ B hml hv
  obtain ⟨rfl, hsz, hP, hKX, hD0⟩ := hv
  have hK := hKX.1
  have hx := B.exec
  have hb := B.bytes
  have hr := B.returns
  have hts := atoms_spec (ws := WS yX9_init cX9_init 2 none) B.pre
  have hgd : ∀ w ∈ gd, w ∈ WS yX9_init cX9_init 2 none := fun w h => List.mem_cons_of_mem _ h
  have hg : ∀ w ∈ gd, w.before _ s = true := fun w h => hts w (hgd w h)
  have hown : s.vm.findClass RX9 = some m.cls := findClass_of_methodNamed B.named
  have hlocks := B.notSynchronized
  have hin : meth.name = "<init>" := (name_of_methodNamed B.named B.method).1
  subst hsz
  have hD := hD0.self (sz := s.heap.size)
  generalize hAe : va_A [(h0, .inr (9, [.null, .int 0, .int 0, .int 0, .int 0, .int 0, .long 0, .int 0, .int 0]))] s.heap.size = A at hD ⊢
  have hA : ∀ q : Nat, s.heap.size ≤ q → A q := fun q h => by rw [← hAe]; exact Or.inr h
  have hS : va_S A s.heap s.heap [] := va_S.rf
  have hP : va_P D classes [(h0, .inr (9, [.null, .int 0, .int 0, .int 0, .int 0, .int 0, .long 0, .int 0, .int 0]))] s.heap := hP
  have hl := lv_entry ([.ref h0, .ref h1]) (n := 2) (Nat.le_of_ble_eq_true rfl)
  rw [lg_entry_eq]
  generalize (lg_sl ([.ref h0, .ref h1]) ++ List.replicate (2 - (lg_sl ([.ref h0, .ref h1])).length) Slot.unset).toArray = ls at hl ⊢
  have hl : lv_has ls 2 [(0, .ref h0), (1, .ref h1)] := hl
  refine lv_aload_n hx hb dX9_init_0 rfl (lv_at hl 0 rfl) ?_
  refine W.objInit hx hb hown (hg (Cond.methodLink RX9 3 objectInit) m257) (hg (Cond.instanceMethod objectInit) m144) (hg (Cond.code objectInit ⟨#[0xb1]⟩ 1 none) m145) rfl (by rw [hml]; exact hl.1) rfl dX9_init_1 (Nat.le_of_ble_eq_true rfl) (Nat.le_of_ble_eq_true rfl) ?_
  refine W.eq (g2 := F0 m 4 ls []) rfl ?_
  refine lv_aload_n hx hb dX9_init_4 rfl (lv_at hl 0 rfl) ?_
  refine lv_iconst (v := (-1)) hx hb dX9_init_5 (by decide) ?_
  refine va_put (D := D) (ci := 9) (v := .int (-1)) (ty := .int) (C := RX9) (T := TX9) (N := 9) hx hb hg iX9 tyX9 tyX9_ok nmX9 hown hK hP hD hS 0 rfl rfl 8 (by decide) (hg (Cond.fieldLink RX9 9 "SlabWalk$Tokens" "faultPlace" "I") m272) (fun _ h9 => h9) rfl (by decide +kernel) rfl rfl (Nat.le_of_ble_eq_true rfl) dX9_init_6 (fun H locs hP hD hS => ?_)
  have hP : va_P D classes [(h0, .inr (9, [.null, .int 0, .int 0, .int 0, .int 0, .int 0, .long 0, .int 0, .int (-1)]))] H := hP
  have hD : va_D A [(h0, .inr (9, [.null, .int 0, .int 0, .int 0, .int 0, .int 0, .long 0, .int 0, .int (-1)]))] := hD
  refine lv_aload_n hx hb dX9_init_9 rfl (lv_at hl 0 rfl) ?_
  refine lv_aload_n hx hb dX9_init_10 rfl (lv_at hl 1 rfl) ?_
  refine va_putF (D := D) (ci := 9) (v := .ref h1) (ty := (.array .byte)) (C := RX9) (T := TX9) (N := 9) hx hb hg iX9 tyX9 tyX9_ok nmX9 hown hK hP hD hS 0 rfl rfl 0 (by decide) (hg (Cond.fieldLink RX9 15 "SlabWalk$Tokens" "text" "[B") m258) (fun _ h9 => h9) rfl hin rfl (by decide +kernel) rfl rfl (Nat.le_of_ble_eq_true rfl) dX9_init_11 (fun H locs hP hD hS => ?_)
  have hP : va_P D classes [(h0, .inr (9, [.ref h1, .int 0, .int 0, .int 0, .int 0, .int 0, .long 0, .int 0, .int (-1)]))] H := hP
  have hD : va_D A [(h0, .inr (9, [.ref h1, .int 0, .int 0, .int 0, .int 0, .int 0, .long 0, .int 0, .int (-1)]))] := hD
  have hP9 := hP.sub (ws' := [(h0, .inr (9, [.ref h1, .int 0, .int 0, .int 0, .int 0, .int 0, .long 0, .int 0, .int (-1)]))]) [0] rfl
  have hD9 := hD.sub (ws' := [(h0, .inr (9, [.ref h1, .int 0, .int 0, .int 0, .int 0, .int 0, .long 0, .int 0, .int (-1)]))]) [0] (by decide) rfl
  exact W.vret hx hb hr (fun t ht hW => ⟨⟨(), rfl, trivial, ⟨[.ref h1, .int 0, .int 0, .int 0, .int 0, .int 0, .long 0, .int 0, .int (-1)], rfl, rfl, rfl, rfl, rfl, rfl, rfl, cB_of ht hP9 hD9⟩⟩, hS.F ht⟩) hS.2.2 dX9_init_14

set_option maxHeartbeats 4000000 in
set_option maxRecDepth 100000 in
theorem c_X2_init (l : Launch) (D : va_G) (k : ClassId × ClassId × ClassId × ClassId) (sz : Nat) (h0 h1 h2 : Nat)  : Met l yX2_init (WS yX2_init cX2_init 3 none) ({ frames := 1, cells := 0, slots := 0, locals := 12 }) (va_Pc [.ref h0, .ref h1, .ref h2] (cP D k [(h0, .inr (2, [.null, .null, .int 0]))] sz)) (va_Qv (fun _ : Unit => True) (fun (_ : Unit) t => cB D (va_A [(h0, .inr (2, [.null, .null, .int 0]))] sz) [] t) (va_A [(h0, .inr (2, [.null, .null, .int 0]))] sz)) 0 0 (va_A [(h0, .inr (2, [.null, .null, .int 0]))] sz) := by
  refine Met.ofW (cc := cX2_init) (maxL := 3) (ret := none) (by decide) rfl ?_
  intro p e s m args below meth c s₁ B hml hv
  obtain ⟨rfl, hsz, hP, hKX, hD0⟩ := hv
  have hK := hKX.1
  have hx := B.exec
  have hb := B.bytes
  have hr := B.returns
  have hts := atoms_spec (ws := WS yX2_init cX2_init 3 none) B.pre
  have hgd : ∀ w ∈ gd, w ∈ WS yX2_init cX2_init 3 none := fun w h => List.mem_cons_of_mem _ h
  have hg : ∀ w ∈ gd, w.before _ s = true := fun w h => hts w (hgd w h)
  have hown : s.vm.findClass RX2 = some m.cls := findClass_of_methodNamed B.named
  have hlocks := B.notSynchronized
  have hin : meth.name = "<init>" := (name_of_methodNamed B.named B.method).1
  subst hsz
  have hD := hD0.self (sz := s.heap.size)
  generalize hAe : va_A [(h0, .inr (2, [.null, .null, .int 0]))] s.heap.size = A at hD ⊢
  have hA : ∀ q : Nat, s.heap.size ≤ q → A q := fun q h => by rw [← hAe]; exact Or.inr h
  have hS : va_S A s.heap s.heap [] := va_S.rf
  have hP : va_P D classes [(h0, .inr (2, [.null, .null, .int 0]))] s.heap := hP
  have hl := lv_entry ([.ref h0, .ref h1, .ref h2]) (n := 3) (Nat.le_of_ble_eq_true rfl)
  rw [lg_entry_eq]
  generalize (lg_sl ([.ref h0, .ref h1, .ref h2]) ++ List.replicate (3 - (lg_sl ([.ref h0, .ref h1, .ref h2])).length) Slot.unset).toArray = ls at hl ⊢
  have hl : lv_has ls 3 [(0, .ref h0), (1, .ref h1), (2, .ref h2)] := hl
  refine lv_aload_n hx hb dX2_init_0 rfl (lv_at hl 0 rfl) ?_
  refine W.objInit hx hb hown (hg (Cond.methodLink RX2 3 objectInit) m300) (hg (Cond.instanceMethod objectInit) m144) (hg (Cond.code objectInit ⟨#[0xb1]⟩ 1 none) m145) rfl (by rw [hml]; exact hl.1) rfl dX2_init_1 (Nat.le_of_ble_eq_true rfl) (Nat.le_of_ble_eq_true rfl) ?_
  refine W.eq (g2 := F0 m 4 ls []) rfl ?_
  refine lv_aload_n hx hb dX2_init_4 rfl (lv_at hl 0 rfl) ?_
  refine lv_aload_n hx hb dX2_init_5 rfl (lv_at hl 1 rfl) ?_
  refine va_putF (D := D) (ci := 2) (v := .ref h1) (ty := (.object "SlabWalk$Tokens")) (C := RX2) (T := TX2) (N := 3) hx hb hg iX2 tyX2 tyX2_ok nmX2 hown hK hP hD hS 0 rfl rfl 0 (by decide) (hg (Cond.fieldLink RX2 9 "SlabWalk$Formulas" "tokens" "LSlabWalk$Tokens;") m301) (fun _ h9 => h9) rfl hin rfl (by decide +kernel) rfl rfl (Nat.le_of_ble_eq_true rfl) dX2_init_6 (fun H locs hP hD hS => ?_)
  have hP : va_P D classes [(h0, .inr (2, [.ref h1, .null, .int 0]))] H := hP
  have hD : va_D A [(h0, .inr (2, [.ref h1, .null, .int 0]))] := hD
  refine lv_aload_n hx hb dX2_init_9 rfl (lv_at hl 0 rfl) ?_
  refine lv_aload_n hx hb dX2_init_10 rfl (lv_at hl 2 rfl) ?_
  refine va_put (D := D) (ci := 2) (v := .ref h2) (ty := (.object "SlabWalk$Paving")) (C := RX2) (T := TX2) (N := 3) hx hb hg iX2 tyX2 tyX2_ok nmX2 hown hK hP hD hS 0 rfl rfl 1 (by decide) (hg (Cond.fieldLink RX2 15 "SlabWalk$Formulas" "paving" "LSlabWalk$Paving;") m302) (fun _ h9 => h9) rfl (by decide +kernel) rfl rfl (Nat.le_of_ble_eq_true rfl) dX2_init_11 (fun H locs hP hD hS => ?_)
  have hP : va_P D classes [(h0, .inr (2, [.ref h1, .ref h2, .int 0]))] H := hP
  have hD : va_D A [(h0, .inr (2, [.ref h1, .ref h2, .int 0]))] := hD
  have hP9 := hP.sub (ws' := []) [] rfl
  have hD9 := hD.sub (ws' := []) [] (by decide) rfl
  exact W.vret hx hb hr (fun t ht hW => ⟨⟨(), rfl, trivial, cB_of ht hP9 hD9⟩, hS.F ht⟩) hS.2.2 dX2_init_14

set_option maxHeartbeats 4000000 in
set_option maxRecDepth 100000 in
theorem c_X7_init (l : Launch) (D : va_G) (k : ClassId × ClassId × ClassId × ClassId) (sz : Nat) (h0 h1 h2 : Nat)  : Met l yX7_init (WS yX7_init cX7_init 3 none) ({ frames := 2, cells := 5, slots := 25, locals := 34 }) (va_Pc [.ref h0, .ref h1, .ref h2] (cP D k [(h0, .inr (7, [.null, .null, .null, .null, .null, .null, .int 0, .int 0, .int 0, .int 0]))] sz)) (va_Qv (fun _ : Unit => True) (fun (_ : Unit) t => ∃ (E : List Value), ∃ (tk : Nat), ∃ (K : List Value), E[0]? = some (.ref tk) ∧ E[5]? = some (.ref h2) ∧ E[6]? = some (.int 0) ∧ E[7]? = some (.int 0) ∧ E[8]? = some (.int 0) ∧ K[0]? = some (.ref h1) ∧ K[1]? = some (.int 0) ∧ K[2]? = some (.int 0) ∧ K[3]? = some (.int 0) ∧ K[4]? = some (.int 0) ∧ K[7]? = some (.int 0) ∧ K[8]? = some (.int (-1)) ∧ cB D (va_A [(h0, .inr (7, [.null, .null, .null, .null, .null, .null, .int 0, .int 0, .int 0, .int 0]))] sz) [(h0, .inr (7, E)), (tk, .inr (9, K))] t) (va_A [(h0, .inr (7, [.null, .null, .null, .null, .null, .null, .int 0, .int 0, .int 0, .int 0]))] sz)) 5 25 (va_A [(h0, .inr (7, [.null, .null, .null, .null, .null, .null, .int 0, .int 0, .int 0, .int 0]))] sz) := by
  refine Met.ofW (cc := cX7_init) (maxL := 3) (ret := none) (by decide) rfl ?_
  intro p e s m args below meth c s₁ B hml hv
  obtain ⟨rfl, hsz, hP, hKX, hD0⟩ := hv
  have hK := hKX.1
  have hx := B.exec
  have hb := B.bytes
  have hr := B.returns
  have hts := atoms_spec (ws := WS yX7_init cX7_init 3 none) B.pre
  have hgd : ∀ w ∈ gd, w ∈ WS yX7_init cX7_init 3 none := fun w h => List.mem_cons_of_mem _ h
  have hg : ∀ w ∈ gd, w.before _ s = true := fun w h => hts w (hgd w h)
  have hown : s.vm.findClass RX7 = some m.cls := findClass_of_methodNamed B.named
  have hlocks := B.notSynchronized
  have hin : meth.name = "<init>" := (name_of_methodNamed B.named B.method).1
  subst hsz
  have hD := hD0.self (sz := s.heap.size)
  generalize hAe : va_A [(h0, .inr (7, [.null, .null, .null, .null, .null, .null, .int 0, .int 0, .int 0, .int 0]))] s.heap.size = A at hD ⊢
  have hA : ∀ q : Nat, s.heap.size ≤ q → A q := fun q h => by rw [← hAe]; exact Or.inr h
  have hS : va_S A s.heap s.heap [] := va_S.rf
  have hP : va_P D classes [(h0, .inr (7, [.null, .null, .null, .null, .null, .null, .int 0, .int 0, .int 0, .int 0]))] s.heap := hP
  have hl := lv_entry ([.ref h0, .ref h1, .ref h2]) (n := 3) (Nat.le_of_ble_eq_true rfl)
  rw [lg_entry_eq]
  generalize (lg_sl ([.ref h0, .ref h1, .ref h2]) ++ List.replicate (3 - (lg_sl ([.ref h0, .ref h1, .ref h2])).length) Slot.unset).toArray = ls at hl ⊢
  have hl : lv_has ls 3 [(0, .ref h0), (1, .ref h1), (2, .ref h2)] := hl
  refine lv_aload_n hx hb dX7_init_0 rfl (lv_at hl 0 rfl) ?_
  refine W.objInit hx hb hown (hg (Cond.methodLink RX7 3 objectInit) m251) (hg (Cond.instanceMethod objectInit) m144) (hg (Cond.code objectInit ⟨#[0xb1]⟩ 1 none) m145) rfl (by rw [hml]; exact hl.1) rfl dX7_init_1 (Nat.le_of_ble_eq_true rfl) (Nat.le_of_ble_eq_true rfl) ?_
  refine W.eq (g2 := F0 m 4 ls []) rfl ?_
  refine lv_aload_n hx hb dX7_init_4 rfl (lv_at hl 0 rfl) ?_
  refine lv_iconst (v := 3) hx hb dX7_init_5 (by decide) ?_
  refine va_newaT (atype := .long) (ty := .long) (a0 := (3, .inr (.inl (fun _ => 0)))) hx hb (hg (Cond.arrayClass .long) m294) rfl ra_long hK hP hD hS hA 2 rfl (fun _ => rfl) (by decide) (by decide) (Nat.le_of_ble_eq_true rfl) (Nat.le_of_ble_eq_true rfl) (Nat.le_of_ble_eq_true rfl) dX7_init_6 (fun q_1 H hP hD hS => ?_)
  have hP : va_P D classes [(h0, .inr (7, [.null, .null, .null, .null, .null, .null, .int 0, .int 0, .int 0, .int 0])), (q_1, .inl (k.2.2.1, 3, .inr (.inl (fun _ => 0))))] H := hP
  have hD : va_D A [(h0, .inr (7, [.null, .null, .null, .null, .null, .null, .int 0, .int 0, .int 0, .int 0])), (q_1, .inl (k.2.2.1, 3, .inr (.inl (fun _ => 0))))] := hD
  refine W.widen (k := 1) (n := 3) (Nat.le_of_ble_eq_true rfl) (Nat.le_of_ble_eq_true rfl) ?_
  refine va_putF (D := D) (ci := 7) (v := .ref q_1) (ty := (.array .long)) (C := RX7) (T := TX7) (N := 10) hx hb hg iX7 tyX7 tyX7_ok nmX7 hown hK hP hD hS 0 rfl rfl 2 (by decide) (hg (Cond.fieldLink RX7 9 "SlabWalk$Reader" "streetNames" "[J") m314) (fun _ h9 => h9) rfl hin rfl (by decide +kernel) rfl rfl (Nat.le_of_ble_eq_true rfl) dX7_init_8 (fun H locs hP hD hS => ?_)
  have hP : va_P D classes [(h0, .inr (7, [.null, .null, .ref q_1, .null, .null, .null, .int 0, .int 0, .int 0, .int 0])), (q_1, .inl (k.2.2.1, 3, .inr (.inl (fun _ => 0))))] H := hP
  have hD : va_D A [(h0, .inr (7, [.null, .null, .ref q_1, .null, .null, .null, .int 0, .int 0, .int 0, .int 0])), (q_1, .inl (k.2.2.1, 3, .inr (.inl (fun _ => 0))))] := hD
  have hP := hP.sub (ws' := [(h0, .inr (7, [.null, .null, .ref q_1, .null, .null, .null, .int 0, .int 0, .int 0, .int 0]))]) [0] rfl
  have hD := hD.sub (ws' := [(h0, .inr (7, [.null, .null, .ref q_1, .null, .null, .null, .int 0, .int 0, .int 0, .int 0]))]) [0] (by decide) rfl
  refine lv_aload_n hx hb dX7_init_11 rfl (lv_at hl 0 rfl) ?_
  refine lv_iconst (v := 4) hx hb dX7_init_12 (by decide) ?_
  refine va_newaT (atype := .long) (ty := .long) (a0 := (4, .inr (.inl (fun _ => 0)))) hx hb (hg (Cond.arrayClass .long) m294) rfl ra_long hK hP hD hS hA 2 rfl (fun _ => rfl) (by decide) (by decide) (Nat.le_of_ble_eq_true rfl) (Nat.le_of_ble_eq_true rfl) (Nat.le_of_ble_eq_true rfl) dX7_init_13 (fun q_2 H hP hD hS => ?_)
  have hP : va_P D classes [(h0, .inr (7, [.null, .null, .ref q_1, .null, .null, .null, .int 0, .int 0, .int 0, .int 0])), (q_2, .inl (k.2.2.1, 4, .inr (.inl (fun _ => 0))))] H := hP
  have hD : va_D A [(h0, .inr (7, [.null, .null, .ref q_1, .null, .null, .null, .int 0, .int 0, .int 0, .int 0])), (q_2, .inl (k.2.2.1, 4, .inr (.inl (fun _ => 0))))] := hD
  refine W.widen (k := 2) (n := 7) (Nat.le_of_ble_eq_true rfl) (Nat.le_of_ble_eq_true rfl) ?_
  refine va_putF (D := D) (ci := 7) (v := .ref q_2) (ty := (.array .long)) (C := RX7) (T := TX7) (N := 10) hx hb hg iX7 tyX7 tyX7_ok nmX7 hown hK hP hD hS 0 rfl rfl 3 (by decide) (hg (Cond.fieldLink RX7 15 "SlabWalk$Reader" "walkerNames" "[J") m315) (fun _ h9 => h9) rfl hin rfl (by decide +kernel) rfl rfl (Nat.le_of_ble_eq_true rfl) dX7_init_15 (fun H locs hP hD hS => ?_)
  have hP : va_P D classes [(h0, .inr (7, [.null, .null, .ref q_1, .ref q_2, .null, .null, .int 0, .int 0, .int 0, .int 0])), (q_2, .inl (k.2.2.1, 4, .inr (.inl (fun _ => 0))))] H := hP
  have hD : va_D A [(h0, .inr (7, [.null, .null, .ref q_1, .ref q_2, .null, .null, .int 0, .int 0, .int 0, .int 0])), (q_2, .inl (k.2.2.1, 4, .inr (.inl (fun _ => 0))))] := hD
  have hP := hP.sub (ws' := [(h0, .inr (7, [.null, .null, .ref q_1, .ref q_2, .null, .null, .int 0, .int 0, .int 0, .int 0]))]) [0] rfl
  have hD := hD.sub (ws' := [(h0, .inr (7, [.null, .null, .ref q_1, .ref q_2, .null, .null, .int 0, .int 0, .int 0, .int 0]))]) [0] (by decide) rfl
  refine lv_aload_n hx hb dX7_init_18 rfl (lv_at hl 0 rfl) ?_
  refine lv_bipush (v := 6) hx hb dX7_init_19 (by decide) ?_
  refine va_newaT (atype := .long) (ty := .long) (a0 := (6, .inr (.inl (fun _ => 0)))) hx hb (hg (Cond.arrayClass .long) m294) rfl ra_long hK hP hD hS hA 2 rfl (fun _ => rfl) (by decide) (by decide) (Nat.le_of_ble_eq_true rfl) (Nat.le_of_ble_eq_true rfl) (Nat.le_of_ble_eq_true rfl) dX7_init_21 (fun q_3 H hP hD hS => ?_)
  have hP : va_P D classes [(h0, .inr (7, [.null, .null, .ref q_1, .ref q_2, .null, .null, .int 0, .int 0, .int 0, .int 0])), (q_3, .inl (k.2.2.1, 6, .inr (.inl (fun _ => 0))))] H := hP
  have hD : va_D A [(h0, .inr (7, [.null, .null, .ref q_1, .ref q_2, .null, .null, .int 0, .int 0, .int 0, .int 0])), (q_3, .inl (k.2.2.1, 6, .inr (.inl (fun _ => 0))))] := hD
  refine W.widen (k := 3) (n := 13) (Nat.le_of_ble_eq_true rfl) (Nat.le_of_ble_eq_true rfl) ?_
  refine va_putF (D := D) (ci := 7) (v := .ref q_3) (ty := (.array .long)) (C := RX7) (T := TX7) (N := 10) hx hb hg iX7 tyX7 tyX7_ok nmX7 hown hK hP hD hS 0 rfl rfl 4 (by decide) (hg (Cond.fieldLink RX7 18 "SlabWalk$Reader" "ruleNames" "[J") m316) (fun _ h9 => h9) rfl hin rfl (by decide +kernel) rfl rfl (Nat.le_of_ble_eq_true rfl) dX7_init_23 (fun H locs hP hD hS => ?_)
  have hP : va_P D classes [(h0, .inr (7, [.null, .null, .ref q_1, .ref q_2, .ref q_3, .null, .int 0, .int 0, .int 0, .int 0])), (q_3, .inl (k.2.2.1, 6, .inr (.inl (fun _ => 0))))] H := hP
  have hD : va_D A [(h0, .inr (7, [.null, .null, .ref q_1, .ref q_2, .ref q_3, .null, .int 0, .int 0, .int 0, .int 0])), (q_3, .inl (k.2.2.1, 6, .inr (.inl (fun _ => 0))))] := hD
  have hP := hP.sub (ws' := [(h0, .inr (7, [.null, .null, .ref q_1, .ref q_2, .ref q_3, .null, .int 0, .int 0, .int 0, .int 0]))]) [0] rfl
  have hD := hD.sub (ws' := [(h0, .inr (7, [.null, .null, .ref q_1, .ref q_2, .ref q_3, .null, .int 0, .int 0, .int 0, .int 0]))]) [0] (by decide) rfl
  refine lv_aload_n hx hb dX7_init_26 rfl (lv_at hl 0 rfl) ?_
  refine va_new (ci := 9) (fs := [.null, .int 0, .int 0, .int 0, .int 0, .int 0, .long 0, .int 0, .int 0]) (C := RX9) (T := TX9) (N := 9) hx hb hg iX9 tyX9 tyX9_ok hown (hg (Cond.classLink RX7 21 RX9) m252) (hg (Cond.instantiable RX9 9) m253) (hg (Cond.initialized RX9) m120) hK hP hD hS hA rfl (by decide) (Nat.le_of_ble_eq_true rfl) (Nat.le_of_ble_eq_true rfl) dX7_init_27 (fun q_4 H hP hD hS => ?_)
  have hP : va_P D classes [(h0, .inr (7, [.null, .null, .ref q_1, .ref q_2, .ref q_3, .null, .int 0, .int 0, .int 0, .int 0])), (q_4, .inr (9, [.null, .int 0, .int 0, .int 0, .int 0, .int 0, .long 0, .int 0, .int 0]))] H := hP
  have hD : va_D A [(h0, .inr (7, [.null, .null, .ref q_1, .ref q_2, .ref q_3, .null, .int 0, .int 0, .int 0, .int 0])), (q_4, .inr (9, [.null, .int 0, .int 0, .int 0, .int 0, .int 0, .long 0, .int 0, .int 0]))] := hD
  refine W.widen (k := 4) (n := 22) (Nat.le_of_ble_eq_true rfl) (Nat.le_of_ble_eq_true rfl) ?_
  refine lv_dup hx hb dX7_init_30 rfl ?_
  refine lv_aload_n hx hb dX7_init_31 rfl (lv_at hl 1 rfl) ?_
  have hPc := hP.sub (ws' := [(q_4, .inr (9, [.null, .int 0, .int 0, .int 0, .int 0, .int 0, .long 0, .int 0, .int 0]))]) [1] rfl
  have hDc := hD.sub (ws' := [(q_4, .inr (9, [.null, .int 0, .int 0, .int 0, .int 0, .int 0, .long 0, .int 0, .int 0]))]) [1] (by decide) rfl
  have hFc := va_free (wc := [(q_4, .inr (9, [.null, .int 0, .int 0, .int 0, .int 0, .int 0, .long 0, .int 0, .int 0]))]) hD hS hA [1] rfl
  refine va_callv (va_runI (As := [.ref h1]) (rest := [.ref q_4, .ref h0]) ⟨hx, hb, hml, hown, hts⟩ (c_X9_init l D k H.size q_4 h1 ) (cwI 1 hts (gd_in hgd (gd_WS m256)) rfl rfl rfl (hg (Cond.initialized RX9) m120) (hg (Cond.methodLink RX7 23 yX9_init) m254) (hg (Cond.instanceMethod yX9_init) m255) rfl (by decide +kernel) ⟨Nat.le_of_ble_eq_true rfl, Nat.le_of_ble_eq_true rfl⟩) (cP_S hPc hKX hDc) rfl rfl hl.1 rfl (lv_room (Nat.le_of_ble_eq_true rfl)) dX7_init_32 ⟨Nat.le_of_ble_eq_true rfl, Nat.le_of_ble_eq_true rfl⟩) hS (fun q _ h => hFc q h) hFc (fun u t H1 locs ht hvm hw hB hz1 hk1 hS => ?_)
  obtain ⟨z_6, g_7, g_8, g_9, g_10, g_11, g_12, g_13, hP1, hD1⟩ := hB
  rw [ht] at hP1
  obtain ⟨hP, hD⟩ := va_join (wr := [(h0, .inr (7, [.null, .null, .ref q_1, .ref q_2, .ref q_3, .null, .int 0, .int 0, .int 0, .int 0]))]) (w1 := [(q_4, .inr (9, z_6))]) hP hD [1] [0] rfl rfl (by decide) (by decide) hk1 hFc hP1 hD1
  generalize H1 = H at hP hS ⊢
  have hP : va_P D classes [(h0, .inr (7, [.null, .null, .ref q_1, .ref q_2, .ref q_3, .null, .int 0, .int 0, .int 0, .int 0])), (q_4, .inr (9, z_6))] H := hP
  have hD : va_D A [(h0, .inr (7, [.null, .null, .ref q_1, .ref q_2, .ref q_3, .null, .int 0, .int 0, .int 0, .int 0])), (q_4, .inr (9, z_6))] := hD
  refine W.widen (k := 4) (n := 22) (Nat.le_of_ble_eq_true rfl) (Nat.le_of_ble_eq_true rfl) ?_
  refine va_putF (D := D) (ci := 7) (v := .ref q_4) (ty := (.object "SlabWalk$Tokens")) (C := RX7) (T := TX7) (N := 10) hx hb hg iX7 tyX7 tyX7_ok nmX7 hown hK hP hD hS 0 rfl rfl 0 (by decide) (hg (Cond.fieldLink RX7 26 "SlabWalk$Reader" "tokens" "LSlabWalk$Tokens;") m311) (fun _ h9 => h9) rfl hin rfl (by decide +kernel) rfl rfl (Nat.le_of_ble_eq_true rfl) dX7_init_35 (fun H locs hP hD hS => ?_)
  have hP : va_P D classes [(h0, .inr (7, [.ref q_4, .null, .ref q_1, .ref q_2, .ref q_3, .null, .int 0, .int 0, .int 0, .int 0])), (q_4, .inr (9, z_6))] H := hP
  have hD : va_D A [(h0, .inr (7, [.ref q_4, .null, .ref q_1, .ref q_2, .ref q_3, .null, .int 0, .int 0, .int 0, .int 0])), (q_4, .inr (9, z_6))] := hD
  refine lv_aload_n hx hb dX7_init_38 rfl (lv_at hl 0 rfl) ?_
  refine va_new (ci := 2) (fs := [.null, .null, .int 0]) (C := RX2) (T := TX2) (N := 3) hx hb hg iX2 tyX2 tyX2_ok hown (hg (Cond.classLink RX7 30 RX2) m295) (hg (Cond.instantiable RX2 3) m296) (hg (Cond.initialized RX2) m121) hK hP hD hS hA rfl (by decide) (Nat.le_of_ble_eq_true rfl) (Nat.le_of_ble_eq_true rfl) dX7_init_39 (fun q_14 H hP hD hS => ?_)
  have hP : va_P D classes [(h0, .inr (7, [.ref q_4, .null, .ref q_1, .ref q_2, .ref q_3, .null, .int 0, .int 0, .int 0, .int 0])), (q_4, .inr (9, z_6)), (q_14, .inr (2, [.null, .null, .int 0]))] H := hP
  have hD : va_D A [(h0, .inr (7, [.ref q_4, .null, .ref q_1, .ref q_2, .ref q_3, .null, .int 0, .int 0, .int 0, .int 0])), (q_4, .inr (9, z_6)), (q_14, .inr (2, [.null, .null, .int 0]))] := hD
  refine W.widen (k := 5) (n := 25) (Nat.le_of_ble_eq_true rfl) (Nat.le_of_ble_eq_true rfl) ?_
  refine lv_dup hx hb dX7_init_42 rfl ?_
  refine lv_aload_n hx hb dX7_init_43 rfl (lv_at hl 0 rfl) ?_
  refine va_get (D := D) (ci := 7) (v := .ref q_4) (C := RX7) (T := TX7) (N := 10) hx hb hg iX7 hown hK hP 0 rfl rfl 0 (by decide) (hg (Cond.fieldLink RX7 26 "SlabWalk$Reader" "tokens" "LSlabWalk$Tokens;") m311) (fun _ h9 => h9) rfl dX7_init_44 ?_
  refine lv_aload_n hx hb dX7_init_47 rfl (lv_at hl 2 rfl) ?_
  have hPc := hP.sub (ws' := [(q_14, .inr (2, [.null, .null, .int 0]))]) [2] rfl
  have hDc := hD.sub (ws' := [(q_14, .inr (2, [.null, .null, .int 0]))]) [2] (by decide) rfl
  have hFc := va_free (wc := [(q_14, .inr (2, [.null, .null, .int 0]))]) hD hS hA [2] rfl
  refine va_callv (va_runI (As := [.ref q_4, .ref h2]) (rest := [.ref q_14, .ref h0]) ⟨hx, hb, hml, hown, hts⟩ (c_X2_init l D k H.size q_14 q_4 h2 ) (cwI 2 hts (gd_in hgd (gd_WS m299)) rfl rfl rfl (hg (Cond.initialized RX2) m121) (hg (Cond.methodLink RX7 32 yX2_init) m297) (hg (Cond.instanceMethod yX2_init) m298) rfl (by decide +kernel) ⟨Nat.le_of_ble_eq_true rfl, Nat.le_of_ble_eq_true rfl⟩) (cP_S hPc hKX hDc) rfl rfl hl.1 rfl (lv_room (Nat.le_of_ble_eq_true rfl)) dX7_init_48 ⟨Nat.le_of_ble_eq_true rfl, Nat.le_of_ble_eq_true rfl⟩) hS (fun q _ h => hFc q h) hFc (fun u t H1 locs ht hvm hw hB hz1 hk1 hS => ?_)
  obtain ⟨hP1, hD1⟩ := hB
  rw [ht] at hP1
  obtain ⟨hP, hD⟩ := va_join (wr := [(h0, .inr (7, [.ref q_4, .null, .ref q_1, .ref q_2, .ref q_3, .null, .int 0, .int 0, .int 0, .int 0])), (q_4, .inr (9, z_6))]) (w1 := []) hP hD [2] [0, 1] rfl rfl (by decide) (by decide) hk1 hFc hP1 hD1
  generalize H1 = H at hP hS ⊢
  have hP : va_P D classes [(h0, .inr (7, [.ref q_4, .null, .ref q_1, .ref q_2, .ref q_3, .null, .int 0, .int 0, .int 0, .int 0])), (q_4, .inr (9, z_6))] H := hP
  have hD : va_D A [(h0, .inr (7, [.ref q_4, .null, .ref q_1, .ref q_2, .ref q_3, .null, .int 0, .int 0, .int 0, .int 0])), (q_4, .inr (9, z_6))] := hD
  refine W.widen (k := 5) (n := 25) (Nat.le_of_ble_eq_true rfl) (Nat.le_of_ble_eq_true rfl) ?_
  refine va_putF (D := D) (ci := 7) (v := .ref q_14) (ty := (.object "SlabWalk$Formulas")) (C := RX7) (T := TX7) (N := 10) hx hb hg iX7 tyX7 tyX7_ok nmX7 hown hK hP hD hS 0 rfl rfl 1 (by decide) (hg (Cond.fieldLink RX7 35 "SlabWalk$Reader" "formulas" "LSlabWalk$Formulas;") m313) (fun _ h9 => h9) rfl hin rfl (by decide +kernel) rfl rfl (Nat.le_of_ble_eq_true rfl) dX7_init_51 (fun H locs hP hD hS => ?_)
  have hP : va_P D classes [(h0, .inr (7, [.ref q_4, .ref q_14, .ref q_1, .ref q_2, .ref q_3, .null, .int 0, .int 0, .int 0, .int 0])), (q_4, .inr (9, z_6))] H := hP
  have hD : va_D A [(h0, .inr (7, [.ref q_4, .ref q_14, .ref q_1, .ref q_2, .ref q_3, .null, .int 0, .int 0, .int 0, .int 0])), (q_4, .inr (9, z_6))] := hD
  refine lv_aload_n hx hb dX7_init_54 rfl (lv_at hl 0 rfl) ?_
  refine lv_aload_n hx hb dX7_init_55 rfl (lv_at hl 2 rfl) ?_
  refine va_put (D := D) (ci := 7) (v := .ref h2) (ty := (.object "SlabWalk$Paving")) (C := RX7) (T := TX7) (N := 10) hx hb hg iX7 tyX7 tyX7_ok nmX7 hown hK hP hD hS 0 rfl rfl 5 (by decide) (hg (Cond.fieldLink RX7 39 "SlabWalk$Reader" "paving" "LSlabWalk$Paving;") m317) (fun _ h9 => h9) rfl (by decide +kernel) rfl rfl (Nat.le_of_ble_eq_true rfl) dX7_init_56 (fun H locs hP hD hS => ?_)
  have hP : va_P D classes [(h0, .inr (7, [.ref q_4, .ref q_14, .ref q_1, .ref q_2, .ref q_3, .ref h2, .int 0, .int 0, .int 0, .int 0])), (q_4, .inr (9, z_6))] H := hP
  have hD : va_D A [(h0, .inr (7, [.ref q_4, .ref q_14, .ref q_1, .ref q_2, .ref q_3, .ref h2, .int 0, .int 0, .int 0, .int 0])), (q_4, .inr (9, z_6))] := hD
  have hP9 := hP.sub (ws' := [(h0, .inr (7, [.ref q_4, .ref q_14, .ref q_1, .ref q_2, .ref q_3, .ref h2, .int 0, .int 0, .int 0, .int 0])), (q_4, .inr (9, z_6))]) [0, 1] rfl
  have hD9 := hD.sub (ws' := [(h0, .inr (7, [.ref q_4, .ref q_14, .ref q_1, .ref q_2, .ref q_3, .ref h2, .int 0, .int 0, .int 0, .int 0])), (q_4, .inr (9, z_6))]) [0, 1] (by decide) rfl
  exact W.vret hx hb hr (fun t ht hW => ⟨⟨(), rfl, trivial, ⟨[.ref q_4, .ref q_14, .ref q_1, .ref q_2, .ref q_3, .ref h2, .int 0, .int 0, .int 0, .int 0], q_4, z_6, rfl, rfl, rfl, rfl, rfl, g_7, g_8, g_9, g_10, g_11, g_12, g_13, cB_of ht hP9 hD9⟩⟩, hS.F ht⟩) hS.2.2 dX7_init_59

set_option maxHeartbeats 4000000 in
set_option maxRecDepth 100000 in
theorem c_X3_init (l : Launch) (D : va_G) (k : ClassId × ClassId × ClassId × ClassId) (sz : Nat) (h0 h1 : Nat)  : Met l yX3_init (WS yX3_init cX3_init 2 none) ({ frames := 1, cells := 3, slots := 1303, locals := 12 }) (va_Pc [.ref h0, .ref h1] (cP D k [(h0, .inr (3, [.null, .null, .null, .int 0, .null]))] sz)) (va_Qv (fun _ : Unit => True) (fun (_ : Unit) t => ∃ (E : List Value), ∃ (fo : Nat), ∃ (g : Nat → Int32), E[1]? = some (.ref fo) ∧ E[4]? = some (.ref h1) ∧ cB D (va_A [(h0, .inr (3, [.null, .null, .null, .int 0, .null]))] sz) [(h0, .inr (3, E)), (fo, .inl (k.2.1, 3, .inl g))] t) (va_A [(h0, .inr (3, [.null, .null, .null, .int 0, .null]))] sz)) 3 1303 (va_A [(h0, .inr (3, [.null, .null, .null, .int 0, .null]))] sz) := by
  refine Met.ofW (cc := cX3_init) (maxL := 2) (ret := none) (by decide) rfl ?_
  intro p e s m args below meth c s₁ B hml hv
  obtain ⟨rfl, hsz, hP, hKX, hD0⟩ := hv
  have hK := hKX.1
  have hx := B.exec
  have hb := B.bytes
  have hr := B.returns
  have hts := atoms_spec (ws := WS yX3_init cX3_init 2 none) B.pre
  have hgd : ∀ w ∈ gd, w ∈ WS yX3_init cX3_init 2 none := fun w h => List.mem_cons_of_mem _ h
  have hg : ∀ w ∈ gd, w.before _ s = true := fun w h => hts w (hgd w h)
  have hown : s.vm.findClass RX3 = some m.cls := findClass_of_methodNamed B.named
  have hlocks := B.notSynchronized
  have hin : meth.name = "<init>" := (name_of_methodNamed B.named B.method).1
  subst hsz
  have hD := hD0.self (sz := s.heap.size)
  generalize hAe : va_A [(h0, .inr (3, [.null, .null, .null, .int 0, .null]))] s.heap.size = A at hD ⊢
  have hA : ∀ q : Nat, s.heap.size ≤ q → A q := fun q h => by rw [← hAe]; exact Or.inr h
  have hS : va_S A s.heap s.heap [] := va_S.rf
  have hP : va_P D classes [(h0, .inr (3, [.null, .null, .null, .int 0, .null]))] s.heap := hP
  have hl := lv_entry ([.ref h0, .ref h1]) (n := 2) (Nat.le_of_ble_eq_true rfl)
  rw [lg_entry_eq]
  generalize (lg_sl ([.ref h0, .ref h1]) ++ List.replicate (2 - (lg_sl ([.ref h0, .ref h1])).length) Slot.unset).toArray = ls at hl ⊢
  have hl : lv_has ls 2 [(0, .ref h0), (1, .ref h1)] := hl
  refine lv_aload_n hx hb dX3_init_0 rfl (lv_at hl 0 rfl) ?_
  refine W.objInit hx hb hown (hg (Cond.methodLink RX3 3 objectInit) m348) (hg (Cond.instanceMethod objectInit) m144) (hg (Cond.code objectInit ⟨#[0xb1]⟩ 1 none) m145) rfl (by rw [hml]; exact hl.1) rfl dX3_init_1 (Nat.le_of_ble_eq_true rfl) (Nat.le_of_ble_eq_true rfl) ?_
  refine W.eq (g2 := F0 m 4 ls []) rfl ?_
  refine lv_aload_n hx hb dX3_init_4 rfl (lv_at hl 0 rfl) ?_
  refine lv_sipush (v := 1200) hx hb dX3_init_5 (by decide) ?_
  refine va_newaT (atype := .int) (ty := .int) (a0 := (1200, .inl (fun _ => 0))) hx hb (hg (Cond.arrayClass .int) m245) rfl ra_int hK hP hD hS hA 1 rfl (fun _ => rfl) (by decide) (by decide) (Nat.le_of_ble_eq_true rfl) (Nat.le_of_ble_eq_true rfl) (Nat.le_of_ble_eq_true rfl) dX3_init_8 (fun q_1 H hP hD hS => ?_)
  have hP : va_P D classes [(h0, .inr (3, [.null, .null, .null, .int 0, .null])), (q_1, .inl (k.2.1, 1200, .inl (fun _ => 0)))] H := hP
  have hD : va_D A [(h0, .inr (3, [.null, .null, .null, .int 0, .null])), (q_1, .inl (k.2.1, 1200, .inl (fun _ => 0)))] := hD
  refine W.widen (k := 1) (n := 1200) (Nat.le_of_ble_eq_true rfl) (Nat.le_of_ble_eq_true rfl) ?_
  refine va_putF (D := D) (ci := 3) (v := .ref q_1) (ty := (.array .int)) (C := RX3) (T := TX3) (N := 5) hx hb hg iX3 tyX3 tyX3_ok nmX3 hown hK hP hD hS 0 rfl rfl 0 (by decide) (hg (Cond.fieldLink RX3 9 "SlabWalk$Lines" "found" "[I") m349) (fun _ h9 => h9) rfl hin rfl (by decide +kernel) rfl rfl (Nat.le_of_ble_eq_true rfl) dX3_init_10 (fun H locs hP hD hS => ?_)
  have hP : va_P D classes [(h0, .inr (3, [.ref q_1, .null, .null, .int 0, .null])), (q_1, .inl (k.2.1, 1200, .inl (fun _ => 0)))] H := hP
  have hD : va_D A [(h0, .inr (3, [.ref q_1, .null, .null, .int 0, .null])), (q_1, .inl (k.2.1, 1200, .inl (fun _ => 0)))] := hD
  have hP := hP.sub (ws' := [(h0, .inr (3, [.ref q_1, .null, .null, .int 0, .null]))]) [0] rfl
  have hD := hD.sub (ws' := [(h0, .inr (3, [.ref q_1, .null, .null, .int 0, .null]))]) [0] (by decide) rfl
  refine lv_aload_n hx hb dX3_init_13 rfl (lv_at hl 0 rfl) ?_
  refine lv_iconst (v := 3) hx hb dX3_init_14 (by decide) ?_
  refine va_newaT (atype := .int) (ty := .int) (a0 := (3, .inl (fun _ => 0))) hx hb (hg (Cond.arrayClass .int) m245) rfl ra_int hK hP hD hS hA 1 rfl (fun _ => rfl) (by decide) (by decide) (Nat.le_of_ble_eq_true rfl) (Nat.le_of_ble_eq_true rfl) (Nat.le_of_ble_eq_true rfl) dX3_init_15 (fun q_2 H hP hD hS => ?_)
  have hP : va_P D classes [(h0, .inr (3, [.ref q_1, .null, .null, .int 0, .null])), (q_2, .inl (k.2.1, 3, .inl (fun _ => 0)))] H := hP
  have hD : va_D A [(h0, .inr (3, [.ref q_1, .null, .null, .int 0, .null])), (q_2, .inl (k.2.1, 3, .inl (fun _ => 0)))] := hD
  refine W.widen (k := 2) (n := 1203) (Nat.le_of_ble_eq_true rfl) (Nat.le_of_ble_eq_true rfl) ?_
  refine va_putF (D := D) (ci := 3) (v := .ref q_2) (ty := (.array .int)) (C := RX3) (T := TX3) (N := 5) hx hb hg iX3 tyX3 tyX3_ok nmX3 hown hK hP hD hS 0 rfl rfl 1 (by decide) (hg (Cond.fieldLink RX3 15 "SlabWalk$Lines" "foundOn" "[I") m350) (fun _ h9 => h9) rfl hin rfl (by decide +kernel) rfl rfl (Nat.le_of_ble_eq_true rfl) dX3_init_17 (fun H locs hP hD hS => ?_)
  have hP : va_P D classes [(h0, .inr (3, [.ref q_1, .ref q_2, .null, .int 0, .null])), (q_2, .inl (k.2.1, 3, .inl (fun _ => 0)))] H := hP
  have hD : va_D A [(h0, .inr (3, [.ref q_1, .ref q_2, .null, .int 0, .null])), (q_2, .inl (k.2.1, 3, .inl (fun _ => 0)))] := hD
  refine lv_aload_n hx hb dX3_init_20 rfl (lv_at hl 0 rfl) ?_
  refine lv_bipush (v := 100) hx hb dX3_init_21 (by decide) ?_
  refine va_newaT (atype := .int) (ty := .int) (a0 := (100, .inl (fun _ => 0))) hx hb (hg (Cond.arrayClass .int) m245) rfl ra_int hK hP hD hS hA 1 rfl (fun _ => rfl) (by decide) (by decide) (Nat.le_of_ble_eq_true rfl) (Nat.le_of_ble_eq_true rfl) (Nat.le_of_ble_eq_true rfl) dX3_init_23 (fun q_3 H hP hD hS => ?_)
  have hP : va_P D classes [(h0, .inr (3, [.ref q_1, .ref q_2, .null, .int 0, .null])), (q_2, .inl (k.2.1, 3, .inl (fun _ => 0))), (q_3, .inl (k.2.1, 100, .inl (fun _ => 0)))] H := hP
  have hD : va_D A [(h0, .inr (3, [.ref q_1, .ref q_2, .null, .int 0, .null])), (q_2, .inl (k.2.1, 3, .inl (fun _ => 0))), (q_3, .inl (k.2.1, 100, .inl (fun _ => 0)))] := hD
  refine W.widen (k := 3) (n := 1303) (Nat.le_of_ble_eq_true rfl) (Nat.le_of_ble_eq_true rfl) ?_
  refine va_putF (D := D) (ci := 3) (v := .ref q_3) (ty := (.array .int)) (C := RX3) (T := TX3) (N := 5) hx hb hg iX3 tyX3 tyX3_ok nmX3 hown hK hP hD hS 0 rfl rfl 2 (by decide) (hg (Cond.fieldLink RX3 18 "SlabWalk$Lines" "values" "[I") m351) (fun _ h9 => h9) rfl hin rfl (by decide +kernel) rfl rfl (Nat.le_of_ble_eq_true rfl) dX3_init_25 (fun H locs hP hD hS => ?_)
  have hP : va_P D classes [(h0, .inr (3, [.ref q_1, .ref q_2, .ref q_3, .int 0, .null])), (q_2, .inl (k.2.1, 3, .inl (fun _ => 0))), (q_3, .inl (k.2.1, 100, .inl (fun _ => 0)))] H := hP
  have hD : va_D A [(h0, .inr (3, [.ref q_1, .ref q_2, .ref q_3, .int 0, .null])), (q_2, .inl (k.2.1, 3, .inl (fun _ => 0))), (q_3, .inl (k.2.1, 100, .inl (fun _ => 0)))] := hD
  have hP := hP.sub (ws' := [(h0, .inr (3, [.ref q_1, .ref q_2, .ref q_3, .int 0, .null])), (q_2, .inl (k.2.1, 3, .inl (fun _ => 0)))]) [0, 1] rfl
  have hD := hD.sub (ws' := [(h0, .inr (3, [.ref q_1, .ref q_2, .ref q_3, .int 0, .null])), (q_2, .inl (k.2.1, 3, .inl (fun _ => 0)))]) [0, 1] (by decide) rfl
  refine lv_aload_n hx hb dX3_init_28 rfl (lv_at hl 0 rfl) ?_
  refine lv_aload_n hx hb dX3_init_29 rfl (lv_at hl 1 rfl) ?_
  refine va_put (D := D) (ci := 3) (v := .ref h1) (ty := (.object "SlabWalk$Paving")) (C := RX3) (T := TX3) (N := 5) hx hb hg iX3 tyX3 tyX3_ok nmX3 hown hK hP hD hS 0 rfl rfl 4 (by decide) (hg (Cond.fieldLink RX3 21 "SlabWalk$Lines" "paving" "LSlabWalk$Paving;") m353) (fun _ h9 => h9) rfl (by decide +kernel) rfl rfl (Nat.le_of_ble_eq_true rfl) dX3_init_30 (fun H locs hP hD hS => ?_)
  have hP : va_P D classes [(h0, .inr (3, [.ref q_1, .ref q_2, .ref q_3, .int 0, .ref h1])), (q_2, .inl (k.2.1, 3, .inl (fun _ => 0)))] H := hP
  have hD : va_D A [(h0, .inr (3, [.ref q_1, .ref q_2, .ref q_3, .int 0, .ref h1])), (q_2, .inl (k.2.1, 3, .inl (fun _ => 0)))] := hD
  have hP9 := hP.sub (ws' := [(h0, .inr (3, [.ref q_1, .ref q_2, .ref q_3, .int 0, .ref h1])), (q_2, .inl (k.2.1, 3, .inl (fun _ => 0)))]) [0, 1] rfl
  have hD9 := hD.sub (ws' := [(h0, .inr (3, [.ref q_1, .ref q_2, .ref q_3, .int 0, .ref h1])), (q_2, .inl (k.2.1, 3, .inl (fun _ => 0)))]) [0, 1] (by decide) rfl
  exact W.vret hx hb hr (fun t ht hW => ⟨⟨(), rfl, trivial, ⟨[.ref q_1, .ref q_2, .ref q_3, .int 0, .ref h1], q_2, (fun _ => 0), rfl, rfl, cB_of ht hP9 hD9⟩⟩, hS.F ht⟩) hS.2.2 dX3_init_33

set_option maxHeartbeats 4000000 in
set_option maxRecDepth 100000 in
theorem c_X0_init (l : Launch) (D : va_G) (k : ClassId × ClassId × ClassId × ClassId) (sz : Nat) (h0 : Nat)  : Met l yX0_init (WS yX0_init cX0_init 1 none) ({ frames := 1, cells := 1, slots := 400, locals := 12 }) (va_Pc [.ref h0] (cP D k [(h0, .inr (0, [.null, .int 0, .int 0, .int 0, .int 0, .int 0, .int 0, .int 0]))] sz)) (va_Qv (fun _ : Unit => True) (fun (_ : Unit) t => cB D (va_A [(h0, .inr (0, [.null, .int 0, .int 0, .int 0, .int 0, .int 0, .int 0, .int 0]))] sz) [] t) (va_A [(h0, .inr (0, [.null, .int 0, .int 0, .int 0, .int 0, .int 0, .int 0, .int 0]))] sz)) 1 400 (va_A [(h0, .inr (0, [.null, .int 0, .int 0, .int 0, .int 0, .int 0, .int 0, .int 0]))] sz) := by
  refine Met.ofW (cc := cX0_init) (maxL := 1) (ret := none) (by decide) rfl ?_
  intro p e s m args below meth c s₁ B hml hv
  obtain ⟨rfl, hsz, hP, hKX, hD0⟩ := hv
  have hK := hKX.1
  have hx := B.exec
  have hb := B.bytes
  have hr := B.returns
  have hts := atoms_spec (ws := WS yX0_init cX0_init 1 none) B.pre
  have hgd : ∀ w ∈ gd, w ∈ WS yX0_init cX0_init 1 none := fun w h => List.mem_cons_of_mem _ h
  have hg : ∀ w ∈ gd, w.before _ s = true := fun w h => hts w (hgd w h)
  have hown : s.vm.findClass RX0 = some m.cls := findClass_of_methodNamed B.named
  have hlocks := B.notSynchronized
  have hin : meth.name = "<init>" := (name_of_methodNamed B.named B.method).1
  subst hsz
  have hD := hD0.self (sz := s.heap.size)
  generalize hAe : va_A [(h0, .inr (0, [.null, .int 0, .int 0, .int 0, .int 0, .int 0, .int 0, .int 0]))] s.heap.size = A at hD ⊢
  have hA : ∀ q : Nat, s.heap.size ≤ q → A q := fun q h => by rw [← hAe]; exact Or.inr h
  have hS : va_S A s.heap s.heap [] := va_S.rf
  have hP : va_P D classes [(h0, .inr (0, [.null, .int 0, .int 0, .int 0, .int 0, .int 0, .int 0, .int 0]))] s.heap := hP
  have hl := lv_entry ([.ref h0]) (n := 1) (Nat.le_of_ble_eq_true rfl)
  rw [lg_entry_eq]
  generalize (lg_sl ([.ref h0]) ++ List.replicate (1 - (lg_sl ([.ref h0])).length) Slot.unset).toArray = ls at hl ⊢
  have hl : lv_has ls 1 [(0, .ref h0)] := hl
  refine lv_aload_n hx hb dX0_init_0 rfl (lv_at hl 0 rfl) ?_
  refine W.objInit hx hb hown (hg (Cond.methodLink RX0 3 objectInit) m370) (hg (Cond.instanceMethod objectInit) m144) (hg (Cond.code objectInit ⟨#[0xb1]⟩ 1 none) m145) rfl (by rw [hml]; exact hl.1) rfl dX0_init_1 (Nat.le_of_ble_eq_true rfl) (Nat.le_of_ble_eq_true rfl) ?_
  refine W.eq (g2 := F0 m 4 ls []) rfl ?_
  refine lv_aload_n hx hb dX0_init_4 rfl (lv_at hl 0 rfl) ?_
  refine lv_sipush (v := 400) hx hb dX0_init_5 (by decide) ?_
  refine va_newaT (atype := .boolean) (ty := .boolean) (a0 := (400, .inl (fun _ => 0))) hx hb (hg (Cond.arrayClass .boolean) m412) rfl ra_boolean hK hP hD hS hA 3 rfl (fun _ => rfl) (by decide) (by decide) (Nat.le_of_ble_eq_true rfl) (Nat.le_of_ble_eq_true rfl) (Nat.le_of_ble_eq_true rfl) dX0_init_8 (fun q_1 H hP hD hS => ?_)
  have hP : va_P D classes [(h0, .inr (0, [.null, .int 0, .int 0, .int 0, .int 0, .int 0, .int 0, .int 0])), (q_1, .inl (k.2.2.2, 400, .inl (fun _ => 0)))] H := hP
  have hD : va_D A [(h0, .inr (0, [.null, .int 0, .int 0, .int 0, .int 0, .int 0, .int 0, .int 0])), (q_1, .inl (k.2.2.2, 400, .inl (fun _ => 0)))] := hD
  refine W.widen (k := 1) (n := 400) (Nat.le_of_ble_eq_true rfl) (Nat.le_of_ble_eq_true rfl) ?_
  refine va_putF (D := D) (ci := 0) (v := .ref q_1) (ty := (.array .boolean)) (C := RX0) (T := TX0) (N := 8) hx hb hg iX0 tyX0 tyX0_ok nmX0 hown hK hP hD hS 0 rfl rfl 0 (by decide) (hg (Cond.fieldLink RX0 9 "SlabWalk$Course" "lawful" "[Z") m371) (fun _ h9 => h9) rfl hin rfl (by decide +kernel) rfl rfl (Nat.le_of_ble_eq_true rfl) dX0_init_10 (fun H locs hP hD hS => ?_)
  have hP : va_P D classes [(h0, .inr (0, [.ref q_1, .int 0, .int 0, .int 0, .int 0, .int 0, .int 0, .int 0])), (q_1, .inl (k.2.2.2, 400, .inl (fun _ => 0)))] H := hP
  have hD : va_D A [(h0, .inr (0, [.ref q_1, .int 0, .int 0, .int 0, .int 0, .int 0, .int 0, .int 0])), (q_1, .inl (k.2.2.2, 400, .inl (fun _ => 0)))] := hD
  have hP := hP.sub (ws' := [(h0, .inr (0, [.ref q_1, .int 0, .int 0, .int 0, .int 0, .int 0, .int 0, .int 0]))]) [0] rfl
  have hD := hD.sub (ws' := [(h0, .inr (0, [.ref q_1, .int 0, .int 0, .int 0, .int 0, .int 0, .int 0, .int 0]))]) [0] (by decide) rfl
  have hP9 := hP.sub (ws' := []) [] rfl
  have hD9 := hD.sub (ws' := []) [] (by decide) rfl
  exact W.vret hx hb hr (fun t ht hW => ⟨⟨(), rfl, trivial, cB_of ht hP9 hD9⟩, hS.F ht⟩) hS.2.2 dX0_init_13

set_option maxHeartbeats 4000000 in
set_option maxRecDepth 100000 in
theorem c_X4_init (l : Launch) (D : va_G) (k : ClassId × ClassId × ClassId × ClassId) (sz : Nat) (h0 : Nat)  : Met l yX4_init (WS yX4_init cX4_init 1 none) ({ frames := 1, cells := 2, slots := 800, locals := 12 }) (va_Pc [.ref h0] (cP D k [(h0, .inr (4, [.null, .null, .int 0, .int 0]))] sz)) (va_Qv (fun _ : Unit => True) (fun (_ : Unit) t => cB D (va_A [(h0, .inr (4, [.null, .null, .int 0, .int 0]))] sz) [] t) (va_A [(h0, .inr (4, [.null, .null, .int 0, .int 0]))] sz)) 2 800 (va_A [(h0, .inr (4, [.null, .null, .int 0, .int 0]))] sz) := by
  refine Met.ofW (cc := cX4_init) (maxL := 1) (ret := none) (by decide) rfl ?_
  intro p e s m args below meth c s₁ B hml hv
  obtain ⟨rfl, hsz, hP, hKX, hD0⟩ := hv
  have hK := hKX.1
  have hx := B.exec
  have hb := B.bytes
  have hr := B.returns
  have hts := atoms_spec (ws := WS yX4_init cX4_init 1 none) B.pre
  have hgd : ∀ w ∈ gd, w ∈ WS yX4_init cX4_init 1 none := fun w h => List.mem_cons_of_mem _ h
  have hg : ∀ w ∈ gd, w.before _ s = true := fun w h => hts w (hgd w h)
  have hown : s.vm.findClass RX4 = some m.cls := findClass_of_methodNamed B.named
  have hlocks := B.notSynchronized
  have hin : meth.name = "<init>" := (name_of_methodNamed B.named B.method).1
  subst hsz
  have hD := hD0.self (sz := s.heap.size)
  generalize hAe : va_A [(h0, .inr (4, [.null, .null, .int 0, .int 0]))] s.heap.size = A at hD ⊢
  have hA : ∀ q : Nat, s.heap.size ≤ q → A q := fun q h => by rw [← hAe]; exact Or.inr h
  have hS : va_S A s.heap s.heap [] := va_S.rf
  have hP : va_P D classes [(h0, .inr (4, [.null, .null, .int 0, .int 0]))] s.heap := hP
  have hl := lv_entry ([.ref h0]) (n := 1) (Nat.le_of_ble_eq_true rfl)
  rw [lg_entry_eq]
  generalize (lg_sl ([.ref h0]) ++ List.replicate (1 - (lg_sl ([.ref h0])).length) Slot.unset).toArray = ls at hl ⊢
  have hl : lv_has ls 1 [(0, .ref h0)] := hl
  refine lv_aload_n hx hb dX4_init_0 rfl (lv_at hl 0 rfl) ?_
  refine W.objInit hx hb hown (hg (Cond.methodLink RX4 3 objectInit) m426) (hg (Cond.instanceMethod objectInit) m144) (hg (Cond.code objectInit ⟨#[0xb1]⟩ 1 none) m145) rfl (by rw [hml]; exact hl.1) rfl dX4_init_1 (Nat.le_of_ble_eq_true rfl) (Nat.le_of_ble_eq_true rfl) ?_
  refine W.eq (g2 := F0 m 4 ls []) rfl ?_
  refine lv_aload_n hx hb dX4_init_4 rfl (lv_at hl 0 rfl) ?_
  refine lv_sipush (v := 400) hx hb dX4_init_5 (by decide) ?_
  refine va_newaT (atype := .int) (ty := .int) (a0 := (400, .inl (fun _ => 0))) hx hb (hg (Cond.arrayClass .int) m245) rfl ra_int hK hP hD hS hA 1 rfl (fun _ => rfl) (by decide) (by decide) (Nat.le_of_ble_eq_true rfl) (Nat.le_of_ble_eq_true rfl) (Nat.le_of_ble_eq_true rfl) dX4_init_8 (fun q_1 H hP hD hS => ?_)
  have hP : va_P D classes [(h0, .inr (4, [.null, .null, .int 0, .int 0])), (q_1, .inl (k.2.1, 400, .inl (fun _ => 0)))] H := hP
  have hD : va_D A [(h0, .inr (4, [.null, .null, .int 0, .int 0])), (q_1, .inl (k.2.1, 400, .inl (fun _ => 0)))] := hD
  refine W.widen (k := 1) (n := 400) (Nat.le_of_ble_eq_true rfl) (Nat.le_of_ble_eq_true rfl) ?_
  refine va_putF (D := D) (ci := 4) (v := .ref q_1) (ty := (.array .int)) (C := RX4) (T := TX4) (N := 4) hx hb hg iX4 tyX4 tyX4_ok nmX4 hown hK hP hD hS 0 rfl rfl 0 (by decide) (hg (Cond.fieldLink RX4 9 "SlabWalk$Minima" "keys" "[I") m427) (fun _ h9 => h9) rfl hin rfl (by decide +kernel) rfl rfl (Nat.le_of_ble_eq_true rfl) dX4_init_10 (fun H locs hP hD hS => ?_)
  have hP : va_P D classes [(h0, .inr (4, [.ref q_1, .null, .int 0, .int 0])), (q_1, .inl (k.2.1, 400, .inl (fun _ => 0)))] H := hP
  have hD : va_D A [(h0, .inr (4, [.ref q_1, .null, .int 0, .int 0])), (q_1, .inl (k.2.1, 400, .inl (fun _ => 0)))] := hD
  have hP := hP.sub (ws' := [(h0, .inr (4, [.ref q_1, .null, .int 0, .int 0]))]) [0] rfl
  have hD := hD.sub (ws' := [(h0, .inr (4, [.ref q_1, .null, .int 0, .int 0]))]) [0] (by decide) rfl
  refine lv_aload_n hx hb dX4_init_13 rfl (lv_at hl 0 rfl) ?_
  refine lv_sipush (v := 400) hx hb dX4_init_14 (by decide) ?_
  refine va_newaT (atype := .int) (ty := .int) (a0 := (400, .inl (fun _ => 0))) hx hb (hg (Cond.arrayClass .int) m245) rfl ra_int hK hP hD hS hA 1 rfl (fun _ => rfl) (by decide) (by decide) (Nat.le_of_ble_eq_true rfl) (Nat.le_of_ble_eq_true rfl) (Nat.le_of_ble_eq_true rfl) dX4_init_17 (fun q_2 H hP hD hS => ?_)
  have hP : va_P D classes [(h0, .inr (4, [.ref q_1, .null, .int 0, .int 0])), (q_2, .inl (k.2.1, 400, .inl (fun _ => 0)))] H := hP
  have hD : va_D A [(h0, .inr (4, [.ref q_1, .null, .int 0, .int 0])), (q_2, .inl (k.2.1, 400, .inl (fun _ => 0)))] := hD
  refine W.widen (k := 2) (n := 800) (Nat.le_of_ble_eq_true rfl) (Nat.le_of_ble_eq_true rfl) ?_
  refine va_putF (D := D) (ci := 4) (v := .ref q_2) (ty := (.array .int)) (C := RX4) (T := TX4) (N := 4) hx hb hg iX4 tyX4 tyX4_ok nmX4 hown hK hP hD hS 0 rfl rfl 1 (by decide) (hg (Cond.fieldLink RX4 15 "SlabWalk$Minima" "values" "[I") m428) (fun _ h9 => h9) rfl hin rfl (by decide +kernel) rfl rfl (Nat.le_of_ble_eq_true rfl) dX4_init_19 (fun H locs hP hD hS => ?_)
  have hP : va_P D classes [(h0, .inr (4, [.ref q_1, .ref q_2, .int 0, .int 0])), (q_2, .inl (k.2.1, 400, .inl (fun _ => 0)))] H := hP
  have hD : va_D A [(h0, .inr (4, [.ref q_1, .ref q_2, .int 0, .int 0])), (q_2, .inl (k.2.1, 400, .inl (fun _ => 0)))] := hD
  have hP := hP.sub (ws' := [(h0, .inr (4, [.ref q_1, .ref q_2, .int 0, .int 0]))]) [0] rfl
  have hD := hD.sub (ws' := [(h0, .inr (4, [.ref q_1, .ref q_2, .int 0, .int 0]))]) [0] (by decide) rfl
  have hP9 := hP.sub (ws' := []) [] rfl
  have hD9 := hD.sub (ws' := []) [] (by decide) rfl
  exact W.vret hx hb hr (fun t ht hW => ⟨⟨(), rfl, trivial, cB_of ht hP9 hD9⟩, hS.F ht⟩) hS.2.2 dX4_init_22

set_option maxHeartbeats 4000000 in
set_option maxRecDepth 100000 in
theorem c_X10_init (l : Launch) (D : va_G) (k : ClassId × ClassId × ClassId × ClassId) (sz : Nat) (h0 : Nat)  : Met l yX10_init (WS yX10_init cX10_init 1 none) ({ frames := 2, cells := 13, slots := 3348, locals := 32 }) (va_Pc [.ref h0] (cP D k [(h0, .inr (10, [.null, .null, .null, .null, .null]))] sz)) (va_Qv (fun _ : Unit => True) (fun (_ : Unit) t => cB D (va_A [(h0, .inr (10, [.null, .null, .null, .null, .null]))] sz) [] t) (va_A [(h0, .inr (10, [.null, .null, .null, .null, .null]))] sz)) 13 3348 (va_A [(h0, .inr (10, [.null, .null, .null, .null, .null]))] sz) := by
  refine Met.ofW (cc := cX10_init) (maxL := 1) (ret := none) (by decide) rfl ?_
  intro p e s m args below meth c s₁ B hml hv
  obtain ⟨rfl, hsz, hP, hKX, hD0⟩ := hv
  have hK := hKX.1
  have hx := B.exec
  have hb := B.bytes
  have hr := B.returns
  have hts := atoms_spec (ws := WS yX10_init cX10_init 1 none) B.pre
  have hgd : ∀ w ∈ gd, w ∈ WS yX10_init cX10_init 1 none := fun w h => List.mem_cons_of_mem _ h
  have hg : ∀ w ∈ gd, w.before _ s = true := fun w h => hts w (hgd w h)
  have hown : s.vm.findClass RX10 = some m.cls := findClass_of_methodNamed B.named
  have hlocks := B.notSynchronized
  have hin : meth.name = "<init>" := (name_of_methodNamed B.named B.method).1
  subst hsz
  have hD := hD0.self (sz := s.heap.size)
  generalize hAe : va_A [(h0, .inr (10, [.null, .null, .null, .null, .null]))] s.heap.size = A at hD ⊢
  have hA : ∀ q : Nat, s.heap.size ≤ q → A q := fun q h => by rw [← hAe]; exact Or.inr h
  have hS : va_S A s.heap s.heap [] := va_S.rf
  have hP : va_P D classes [(h0, .inr (10, [.null, .null, .null, .null, .null]))] s.heap := hP
  have hl := lv_entry ([.ref h0]) (n := 1) (Nat.le_of_ble_eq_true rfl)
  rw [lg_entry_eq]
  generalize (lg_sl ([.ref h0]) ++ List.replicate (1 - (lg_sl ([.ref h0])).length) Slot.unset).toArray = ls at hl ⊢
  have hl : lv_has ls 1 [(0, .ref h0)] := hl
  refine lv_aload_n hx hb dX10_init_0 rfl (lv_at hl 0 rfl) ?_
  refine W.objInit hx hb hown (hg (Cond.methodLink RX10 3 objectInit) m418) (hg (Cond.instanceMethod objectInit) m144) (hg (Cond.code objectInit ⟨#[0xb1]⟩ 1 none) m145) rfl (by rw [hml]; exact hl.1) rfl dX10_init_1 (Nat.le_of_ble_eq_true rfl) (Nat.le_of_ble_eq_true rfl) ?_
  refine W.eq (g2 := F0 m 4 ls []) rfl ?_
  refine lv_aload_n hx hb dX10_init_4 rfl (lv_at hl 0 rfl) ?_
  refine lv_iconst (v := 4) hx hb dX10_init_5 (by decide) ?_
  refine lv_sipush (v := 402) hx hb dX10_init_6 (by decide) ?_
  refine va_mna0 (ty := .int) (N' := 4) (K' := 402) hx hb hown (hg (Cond.classLink RX10 11 "[[I") m419) hKX.2.1 (hg (Cond.arrayClass .int) m245) hP hS (by decide) (by decide) (by decide) (by decide) (Nat.le_of_ble_eq_true rfl) (Nat.le_of_ble_eq_true rfl) (Nat.le_of_ble_eq_true rfl) (by decide) (by decide) (Nat.le_of_ble_eq_true rfl) (Nat.le_of_ble_eq_true rfl) dX10_init_9 (fun q_1 H hP hS => ?_)
  refine W.widen (k := 5) (n := 1612) (Nat.le_of_ble_eq_true rfl) (Nat.le_of_ble_eq_true rfl) ?_
  refine va_putF (D := D) (ci := 10) (v := .ref q_1) (ty := (.array (.array .int))) (C := RX10) (T := TX10) (N := 5) hx hb hg iX10 tyX10 tyX10_ok nmX10 hown hK hP hD hS 0 rfl rfl 0 (by decide) (hg (Cond.fieldLink RX10 13 "SlabWalk$Trails" "rows" "[[I") m440) (fun _ h9 => h9) rfl hin rfl (by decide +kernel) rfl rfl (Nat.le_of_ble_eq_true rfl) dX10_init_13 (fun H locs hP hD hS => ?_)
  have hP : va_P D classes [(h0, .inr (10, [.ref q_1, .null, .null, .null, .null]))] H := hP
  have hD : va_D A [(h0, .inr (10, [.ref q_1, .null, .null, .null, .null]))] := hD
  refine lv_aload_n hx hb dX10_init_16 rfl (lv_at hl 0 rfl) ?_
  refine va_new (ci := 4) (fs := [.null, .null, .int 0, .int 0]) (C := RX4) (T := TX4) (N := 4) hx hb hg iX4 tyX4 tyX4_ok hown (hg (Cond.classLink RX10 16 RX4) m421) (hg (Cond.instantiable RX4 4) m422) (hg (Cond.initialized RX4) m125) hK hP hD hS hA rfl (by decide) (Nat.le_of_ble_eq_true rfl) (Nat.le_of_ble_eq_true rfl) dX10_init_17 (fun q_2 H hP hD hS => ?_)
  have hP : va_P D classes [(h0, .inr (10, [.ref q_1, .null, .null, .null, .null])), (q_2, .inr (4, [.null, .null, .int 0, .int 0]))] H := hP
  have hD : va_D A [(h0, .inr (10, [.ref q_1, .null, .null, .null, .null])), (q_2, .inr (4, [.null, .null, .int 0, .int 0]))] := hD
  refine W.widen (k := 6) (n := 1616) (Nat.le_of_ble_eq_true rfl) (Nat.le_of_ble_eq_true rfl) ?_
  refine lv_dup hx hb dX10_init_20 rfl ?_
  have hPc := hP.sub (ws' := [(q_2, .inr (4, [.null, .null, .int 0, .int 0]))]) [1] rfl
  have hDc := hD.sub (ws' := [(q_2, .inr (4, [.null, .null, .int 0, .int 0]))]) [1] (by decide) rfl
  have hFc := va_free (wc := [(q_2, .inr (4, [.null, .null, .int 0, .int 0]))]) hD hS hA [1] rfl
  refine va_callv (va_runIN (As := []) (rest := [.ref q_2, .ref h0]) ⟨hx, hb, hml, hown, hts⟩ (c_X4_init l D k H.size q_2 ) ⟨va_cnB 0 hts (gd_in hgd (gd_WS m425)) rfl rfl rfl hKX.2.2.2.2.1 (hg (Cond.initialized RX4) m125) (by decide +kernel) ⟨Nat.le_of_ble_eq_true rfl, Nat.le_of_ble_eq_true rfl⟩, rfl, (hg (Cond.instanceMethod yX4_init) m424)⟩ (cP_S hPc hKX hDc) rfl rfl hl.1 rfl (lv_room (Nat.le_of_ble_eq_true rfl)) dX10_init_21 ⟨Nat.le_of_ble_eq_true rfl, Nat.le_of_ble_eq_true rfl⟩) hS (fun q _ h => hFc q h) hFc (fun u t H1 locs ht hvm hw hB hz1 hk1 hS => ?_)
  obtain ⟨hP1, hD1⟩ := hB
  rw [ht] at hP1
  obtain ⟨hP, hD⟩ := va_join (wr := [(h0, .inr (10, [.ref q_1, .null, .null, .null, .null]))]) (w1 := []) hP hD [1] [0] rfl rfl (by decide) (by decide) hk1 hFc hP1 hD1
  generalize H1 = H at hP hS ⊢
  have hP : va_P D classes [(h0, .inr (10, [.ref q_1, .null, .null, .null, .null]))] H := hP
  have hD : va_D A [(h0, .inr (10, [.ref q_1, .null, .null, .null, .null]))] := hD
  refine W.widen (k := 8) (n := 2416) (Nat.le_of_ble_eq_true rfl) (Nat.le_of_ble_eq_true rfl) ?_
  refine va_putF (D := D) (ci := 10) (v := .ref q_2) (ty := (.object "SlabWalk$Minima")) (C := RX10) (T := TX10) (N := 5) hx hb hg iX10 tyX10 tyX10_ok nmX10 hown hK hP hD hS 0 rfl rfl 1 (by decide) (hg (Cond.fieldLink RX10 19 "SlabWalk$Trails" "steps" "LSlabWalk$Minima;") m441) (fun _ h9 => h9) rfl hin rfl (by decide +kernel) rfl rfl (Nat.le_of_ble_eq_true rfl) dX10_init_24 (fun H locs hP hD hS => ?_)
  have hP : va_P D classes [(h0, .inr (10, [.ref q_1, .ref q_2, .null, .null, .null]))] H := hP
  have hD : va_D A [(h0, .inr (10, [.ref q_1, .ref q_2, .null, .null, .null]))] := hD
  refine lv_aload_n hx hb dX10_init_27 rfl (lv_at hl 0 rfl) ?_
  refine va_new (ci := 4) (fs := [.null, .null, .int 0, .int 0]) (C := RX4) (T := TX4) (N := 4) hx hb hg iX4 tyX4 tyX4_ok hown (hg (Cond.classLink RX10 16 RX4) m421) (hg (Cond.instantiable RX4 4) m422) (hg (Cond.initialized RX4) m125) hK hP hD hS hA rfl (by decide) (Nat.le_of_ble_eq_true rfl) (Nat.le_of_ble_eq_true rfl) dX10_init_28 (fun q_4 H hP hD hS => ?_)
  have hP : va_P D classes [(h0, .inr (10, [.ref q_1, .ref q_2, .null, .null, .null])), (q_4, .inr (4, [.null, .null, .int 0, .int 0]))] H := hP
  have hD : va_D A [(h0, .inr (10, [.ref q_1, .ref q_2, .null, .null, .null])), (q_4, .inr (4, [.null, .null, .int 0, .int 0]))] := hD
  refine W.widen (k := 9) (n := 2420) (Nat.le_of_ble_eq_true rfl) (Nat.le_of_ble_eq_true rfl) ?_
  refine lv_dup hx hb dX10_init_31 rfl ?_
  have hPc := hP.sub (ws' := [(q_4, .inr (4, [.null, .null, .int 0, .int 0]))]) [1] rfl
  have hDc := hD.sub (ws' := [(q_4, .inr (4, [.null, .null, .int 0, .int 0]))]) [1] (by decide) rfl
  have hFc := va_free (wc := [(q_4, .inr (4, [.null, .null, .int 0, .int 0]))]) hD hS hA [1] rfl
  refine va_callv (va_runIN (As := []) (rest := [.ref q_4, .ref h0]) ⟨hx, hb, hml, hown, hts⟩ (c_X4_init l D k H.size q_4 ) ⟨va_cnB 0 hts (gd_in hgd (gd_WS m425)) rfl rfl rfl hKX.2.2.2.2.1 (hg (Cond.initialized RX4) m125) (by decide +kernel) ⟨Nat.le_of_ble_eq_true rfl, Nat.le_of_ble_eq_true rfl⟩, rfl, (hg (Cond.instanceMethod yX4_init) m424)⟩ (cP_S hPc hKX hDc) rfl rfl hl.1 rfl (lv_room (Nat.le_of_ble_eq_true rfl)) dX10_init_32 ⟨Nat.le_of_ble_eq_true rfl, Nat.le_of_ble_eq_true rfl⟩) hS (fun q _ h => hFc q h) hFc (fun u t H1 locs ht hvm hw hB hz1 hk1 hS => ?_)
  obtain ⟨hP1, hD1⟩ := hB
  rw [ht] at hP1
  obtain ⟨hP, hD⟩ := va_join (wr := [(h0, .inr (10, [.ref q_1, .ref q_2, .null, .null, .null]))]) (w1 := []) hP hD [1] [0] rfl rfl (by decide) (by decide) hk1 hFc hP1 hD1
  generalize H1 = H at hP hS ⊢
  have hP : va_P D classes [(h0, .inr (10, [.ref q_1, .ref q_2, .null, .null, .null]))] H := hP
  have hD : va_D A [(h0, .inr (10, [.ref q_1, .ref q_2, .null, .null, .null]))] := hD
  refine W.widen (k := 11) (n := 3220) (Nat.le_of_ble_eq_true rfl) (Nat.le_of_ble_eq_true rfl) ?_
  refine va_putF (D := D) (ci := 10) (v := .ref q_4) (ty := (.object "SlabWalk$Minima")) (C := RX10) (T := TX10) (N := 5) hx hb hg iX10 tyX10 tyX10_ok nmX10 hown hK hP hD hS 0 rfl rfl 2 (by decide) (hg (Cond.fieldLink RX10 23 "SlabWalk$Trails" "leaps" "LSlabWalk$Minima;") m442) (fun _ h9 => h9) rfl hin rfl (by decide +kernel) rfl rfl (Nat.le_of_ble_eq_true rfl) dX10_init_35 (fun H locs hP hD hS => ?_)
  have hP : va_P D classes [(h0, .inr (10, [.ref q_1, .ref q_2, .ref q_4, .null, .null]))] H := hP
  have hD : va_D A [(h0, .inr (10, [.ref q_1, .ref q_2, .ref q_4, .null, .null]))] := hD
  refine lv_aload_n hx hb dX10_init_38 rfl (lv_at hl 0 rfl) ?_
  refine lv_bipush (v := 64) hx hb dX10_init_39 (by decide) ?_
  refine va_newaT (atype := .int) (ty := .int) (a0 := (64, .inl (fun _ => 0))) hx hb (hg (Cond.arrayClass .int) m245) rfl ra_int hK hP hD hS hA 1 rfl (fun _ => rfl) (by decide) (by decide) (Nat.le_of_ble_eq_true rfl) (Nat.le_of_ble_eq_true rfl) (Nat.le_of_ble_eq_true rfl) dX10_init_41 (fun q_6 H hP hD hS => ?_)
  have hP : va_P D classes [(h0, .inr (10, [.ref q_1, .ref q_2, .ref q_4, .null, .null])), (q_6, .inl (k.2.1, 64, .inl (fun _ => 0)))] H := hP
  have hD : va_D A [(h0, .inr (10, [.ref q_1, .ref q_2, .ref q_4, .null, .null])), (q_6, .inl (k.2.1, 64, .inl (fun _ => 0)))] := hD
  refine W.widen (k := 12) (n := 3284) (Nat.le_of_ble_eq_true rfl) (Nat.le_of_ble_eq_true rfl) ?_
  refine va_putF (D := D) (ci := 10) (v := .ref q_6) (ty := (.array .int)) (C := RX10) (T := TX10) (N := 5) hx hb hg iX10 tyX10 tyX10_ok nmX10 hown hK hP hD hS 0 rfl rfl 3 (by decide) (hg (Cond.fieldLink RX10 26 "SlabWalk$Trails" "winning" "[I") m443) (fun _ h9 => h9) rfl hin rfl (by decide +kernel) rfl rfl (Nat.le_of_ble_eq_true rfl) dX10_init_43 (fun H locs hP hD hS => ?_)
  have hP : va_P D classes [(h0, .inr (10, [.ref q_1, .ref q_2, .ref q_4, .ref q_6, .null])), (q_6, .inl (k.2.1, 64, .inl (fun _ => 0)))] H := hP
  have hD : va_D A [(h0, .inr (10, [.ref q_1, .ref q_2, .ref q_4, .ref q_6, .null])), (q_6, .inl (k.2.1, 64, .inl (fun _ => 0)))] := hD
  have hP := hP.sub (ws' := [(h0, .inr (10, [.ref q_1, .ref q_2, .ref q_4, .ref q_6, .null]))]) [0] rfl
  have hD := hD.sub (ws' := [(h0, .inr (10, [.ref q_1, .ref q_2, .ref q_4, .ref q_6, .null]))]) [0] (by decide) rfl
  refine lv_aload_n hx hb dX10_init_46 rfl (lv_at hl 0 rfl) ?_
  refine lv_bipush (v := 64) hx hb dX10_init_47 (by decide) ?_
  refine va_newaT (atype := .boolean) (ty := .boolean) (a0 := (64, .inl (fun _ => 0))) hx hb (hg (Cond.arrayClass .boolean) m412) rfl ra_boolean hK hP hD hS hA 3 rfl (fun _ => rfl) (by decide) (by decide) (Nat.le_of_ble_eq_true rfl) (Nat.le_of_ble_eq_true rfl) (Nat.le_of_ble_eq_true rfl) dX10_init_49 (fun q_7 H hP hD hS => ?_)
  have hP : va_P D classes [(h0, .inr (10, [.ref q_1, .ref q_2, .ref q_4, .ref q_6, .null])), (q_7, .inl (k.2.2.2, 64, .inl (fun _ => 0)))] H := hP
  have hD : va_D A [(h0, .inr (10, [.ref q_1, .ref q_2, .ref q_4, .ref q_6, .null])), (q_7, .inl (k.2.2.2, 64, .inl (fun _ => 0)))] := hD
  refine W.widen (k := 13) (n := 3348) (Nat.le_of_ble_eq_true rfl) (Nat.le_of_ble_eq_true rfl) ?_
  refine va_putF (D := D) (ci := 10) (v := .ref q_7) (ty := (.array .boolean)) (C := RX10) (T := TX10) (N := 5) hx hb hg iX10 tyX10 tyX10_ok nmX10 hown hK hP hD hS 0 rfl rfl 4 (by decide) (hg (Cond.fieldLink RX10 30 "SlabWalk$Trails" "leaving" "[Z") m445) (fun _ h9 => h9) rfl hin rfl (by decide +kernel) rfl rfl (Nat.le_of_ble_eq_true rfl) dX10_init_51 (fun H locs hP hD hS => ?_)
  have hP : va_P D classes [(h0, .inr (10, [.ref q_1, .ref q_2, .ref q_4, .ref q_6, .ref q_7])), (q_7, .inl (k.2.2.2, 64, .inl (fun _ => 0)))] H := hP
  have hD : va_D A [(h0, .inr (10, [.ref q_1, .ref q_2, .ref q_4, .ref q_6, .ref q_7])), (q_7, .inl (k.2.2.2, 64, .inl (fun _ => 0)))] := hD
  have hP := hP.sub (ws' := [(h0, .inr (10, [.ref q_1, .ref q_2, .ref q_4, .ref q_6, .ref q_7]))]) [0] rfl
  have hD := hD.sub (ws' := [(h0, .inr (10, [.ref q_1, .ref q_2, .ref q_4, .ref q_6, .ref q_7]))]) [0] (by decide) rfl
  have hP9 := hP.sub (ws' := []) [] rfl
  have hD9 := hD.sub (ws' := []) [] (by decide) rfl
  exact W.vret hx hb hr (fun t ht hW => ⟨⟨(), rfl, trivial, cB_of ht hP9 hD9⟩, hS.F ht⟩) hS.2.2 dX10_init_54

set_option maxHeartbeats 4000000 in
set_option maxRecDepth 100000 in
theorem c_X5_init (l : Launch) (D : va_G) (k : ClassId × ClassId × ClassId × ClassId) (sz : Nat) (h0 : Nat)  : Met l yX5_init (WS yX5_init cX5_init 1 none) ({ frames := 1, cells := 6, slots := 2424, locals := 12 }) (va_Pc [.ref h0] (cP D k [(h0, .inr (5, [.null, .null, .null, .null, .null, .null, .int 0]))] sz)) (va_Qv (fun _ : Unit => True) (fun (_ : Unit) t => cB D (va_A [(h0, .inr (5, [.null, .null, .null, .null, .null, .null, .int 0]))] sz) [] t) (va_A [(h0, .inr (5, [.null, .null, .null, .null, .null, .null, .int 0]))] sz)) 6 2424 (va_A [(h0, .inr (5, [.null, .null, .null, .null, .null, .null, .int 0]))] sz) := by
  refine Met.ofW (cc := cX5_init) (maxL := 1) (ret := none) (by decide) rfl ?_
  intro p e s m args below meth c s₁ B hml hv
  obtain ⟨rfl, hsz, hP, hKX, hD0⟩ := hv
  have hK := hKX.1
  have hx := B.exec
  have hb := B.bytes
  have hr := B.returns
  have hts := atoms_spec (ws := WS yX5_init cX5_init 1 none) B.pre
  have hgd : ∀ w ∈ gd, w ∈ WS yX5_init cX5_init 1 none := fun w h => List.mem_cons_of_mem _ h
  have hg : ∀ w ∈ gd, w.before _ s = true := fun w h => hts w (hgd w h)
  have hown : s.vm.findClass RX5 = some m.cls := findClass_of_methodNamed B.named
  have hlocks := B.notSynchronized
  have hin : meth.name = "<init>" := (name_of_methodNamed B.named B.method).1
  subst hsz
  have hD := hD0.self (sz := s.heap.size)
  generalize hAe : va_A [(h0, .inr (5, [.null, .null, .null, .null, .null, .null, .int 0]))] s.heap.size = A at hD ⊢
  have hA : ∀ q : Nat, s.heap.size ≤ q → A q := fun q h => by rw [← hAe]; exact Or.inr h
  have hS : va_S A s.heap s.heap [] := va_S.rf
  have hP : va_P D classes [(h0, .inr (5, [.null, .null, .null, .null, .null, .null, .int 0]))] s.heap := hP
  have hl := lv_entry ([.ref h0]) (n := 1) (Nat.le_of_ble_eq_true rfl)
  rw [lg_entry_eq]
  generalize (lg_sl ([.ref h0]) ++ List.replicate (1 - (lg_sl ([.ref h0])).length) Slot.unset).toArray = ls at hl ⊢
  have hl : lv_has ls 1 [(0, .ref h0)] := hl
  refine lv_aload_n hx hb dX5_init_0 rfl (lv_at hl 0 rfl) ?_
  refine W.objInit hx hb hown (hg (Cond.methodLink RX5 3 objectInit) m463) (hg (Cond.instanceMethod objectInit) m144) (hg (Cond.code objectInit ⟨#[0xb1]⟩ 1 none) m145) rfl (by rw [hml]; exact hl.1) rfl dX5_init_1 (Nat.le_of_ble_eq_true rfl) (Nat.le_of_ble_eq_true rfl) ?_
  refine W.eq (g2 := F0 m 4 ls []) rfl ?_
  refine lv_aload_n hx hb dX5_init_4 rfl (lv_at hl 0 rfl) ?_
  refine lv_sipush (v := 404) hx hb dX5_init_5 (by decide) ?_
  refine va_newaT (atype := .long) (ty := .long) (a0 := (404, .inr (.inl (fun _ => 0)))) hx hb (hg (Cond.arrayClass .long) m294) rfl ra_long hK hP hD hS hA 2 rfl (fun _ => rfl) (by decide) (by decide) (Nat.le_of_ble_eq_true rfl) (Nat.le_of_ble_eq_true rfl) (Nat.le_of_ble_eq_true rfl) dX5_init_8 (fun q_1 H hP hD hS => ?_)
  have hP : va_P D classes [(h0, .inr (5, [.null, .null, .null, .null, .null, .null, .int 0])), (q_1, .inl (k.2.2.1, 404, .inr (.inl (fun _ => 0))))] H := hP
  have hD : va_D A [(h0, .inr (5, [.null, .null, .null, .null, .null, .null, .int 0])), (q_1, .inl (k.2.2.1, 404, .inr (.inl (fun _ => 0))))] := hD
  refine W.widen (k := 1) (n := 404) (Nat.le_of_ble_eq_true rfl) (Nat.le_of_ble_eq_true rfl) ?_
  refine va_putF (D := D) (ci := 5) (v := .ref q_1) (ty := (.array .long)) (C := RX5) (T := TX5) (N := 7) hx hb hg iX5 tyX5 tyX5_ok nmX5 hown hK hP hD hS 0 rfl rfl 0 (by decide) (hg (Cond.fieldLink RX5 11 "SlabWalk$Odds" "stepped" "[J") m464) (fun _ h9 => h9) rfl hin rfl (by decide +kernel) rfl rfl (Nat.le_of_ble_eq_true rfl) dX5_init_10 (fun H locs hP hD hS => ?_)
  have hP : va_P D classes [(h0, .inr (5, [.ref q_1, .null, .null, .null, .null, .null, .int 0])), (q_1, .inl (k.2.2.1, 404, .inr (.inl (fun _ => 0))))] H := hP
  have hD : va_D A [(h0, .inr (5, [.ref q_1, .null, .null, .null, .null, .null, .int 0])), (q_1, .inl (k.2.2.1, 404, .inr (.inl (fun _ => 0))))] := hD
  have hP := hP.sub (ws' := [(h0, .inr (5, [.ref q_1, .null, .null, .null, .null, .null, .int 0]))]) [0] rfl
  have hD := hD.sub (ws' := [(h0, .inr (5, [.ref q_1, .null, .null, .null, .null, .null, .int 0]))]) [0] (by decide) rfl
  refine lv_aload_n hx hb dX5_init_13 rfl (lv_at hl 0 rfl) ?_
  refine lv_sipush (v := 404) hx hb dX5_init_14 (by decide) ?_
  refine va_newaT (atype := .long) (ty := .long) (a0 := (404, .inr (.inl (fun _ => 0)))) hx hb (hg (Cond.arrayClass .long) m294) rfl ra_long hK hP hD hS hA 2 rfl (fun _ => rfl) (by decide) (by decide) (Nat.le_of_ble_eq_true rfl) (Nat.le_of_ble_eq_true rfl) (Nat.le_of_ble_eq_true rfl) dX5_init_17 (fun q_2 H hP hD hS => ?_)
  have hP : va_P D classes [(h0, .inr (5, [.ref q_1, .null, .null, .null, .null, .null, .int 0])), (q_2, .inl (k.2.2.1, 404, .inr (.inl (fun _ => 0))))] H := hP
  have hD : va_D A [(h0, .inr (5, [.ref q_1, .null, .null, .null, .null, .null, .int 0])), (q_2, .inl (k.2.2.1, 404, .inr (.inl (fun _ => 0))))] := hD
  refine W.widen (k := 2) (n := 808) (Nat.le_of_ble_eq_true rfl) (Nat.le_of_ble_eq_true rfl) ?_
  refine va_putF (D := D) (ci := 5) (v := .ref q_2) (ty := (.array .long)) (C := RX5) (T := TX5) (N := 7) hx hb hg iX5 tyX5 tyX5_ok nmX5 hown hK hP hD hS 0 rfl rfl 1 (by decide) (hg (Cond.fieldLink RX5 15 "SlabWalk$Odds" "leapt" "[J") m465) (fun _ h9 => h9) rfl hin rfl (by decide +kernel) rfl rfl (Nat.le_of_ble_eq_true rfl) dX5_init_19 (fun H locs hP hD hS => ?_)
  have hP : va_P D classes [(h0, .inr (5, [.ref q_1, .ref q_2, .null, .null, .null, .null, .int 0])), (q_2, .inl (k.2.2.1, 404, .inr (.inl (fun _ => 0))))] H := hP
  have hD : va_D A [(h0, .inr (5, [.ref q_1, .ref q_2, .null, .null, .null, .null, .int 0])), (q_2, .inl (k.2.2.1, 404, .inr (.inl (fun _ => 0))))] := hD
  have hP := hP.sub (ws' := [(h0, .inr (5, [.ref q_1, .ref q_2, .null, .null, .null, .null, .int 0]))]) [0] rfl
  have hD := hD.sub (ws' := [(h0, .inr (5, [.ref q_1, .ref q_2, .null, .null, .null, .null, .int 0]))]) [0] (by decide) rfl
  refine lv_aload_n hx hb dX5_init_22 rfl (lv_at hl 0 rfl) ?_
  refine lv_sipush (v := 404) hx hb dX5_init_23 (by decide) ?_
  refine va_newaT (atype := .long) (ty := .long) (a0 := (404, .inr (.inl (fun _ => 0)))) hx hb (hg (Cond.arrayClass .long) m294) rfl ra_long hK hP hD hS hA 2 rfl (fun _ => rfl) (by decide) (by decide) (Nat.le_of_ble_eq_true rfl) (Nat.le_of_ble_eq_true rfl) (Nat.le_of_ble_eq_true rfl) dX5_init_26 (fun q_3 H hP hD hS => ?_)
  have hP : va_P D classes [(h0, .inr (5, [.ref q_1, .ref q_2, .null, .null, .null, .null, .int 0])), (q_3, .inl (k.2.2.1, 404, .inr (.inl (fun _ => 0))))] H := hP
  have hD : va_D A [(h0, .inr (5, [.ref q_1, .ref q_2, .null, .null, .null, .null, .int 0])), (q_3, .inl (k.2.2.1, 404, .inr (.inl (fun _ => 0))))] := hD
  refine W.widen (k := 3) (n := 1212) (Nat.le_of_ble_eq_true rfl) (Nat.le_of_ble_eq_true rfl) ?_
  refine va_putF (D := D) (ci := 5) (v := .ref q_3) (ty := (.array .long)) (C := RX5) (T := TX5) (N := 7) hx hb hg iX5 tyX5 tyX5_ok nmX5 hown hK hP hD hS 0 rfl rfl 2 (by decide) (hg (Cond.fieldLink RX5 18 "SlabWalk$Odds" "sums" "[J") m466) (fun _ h9 => h9) rfl hin rfl (by decide +kernel) rfl rfl (Nat.le_of_ble_eq_true rfl) dX5_init_28 (fun H locs hP hD hS => ?_)
  have hP : va_P D classes [(h0, .inr (5, [.ref q_1, .ref q_2, .ref q_3, .null, .null, .null, .int 0])), (q_3, .inl (k.2.2.1, 404, .inr (.inl (fun _ => 0))))] H := hP
  have hD : va_D A [(h0, .inr (5, [.ref q_1, .ref q_2, .ref q_3, .null, .null, .null, .int 0])), (q_3, .inl (k.2.2.1, 404, .inr (.inl (fun _ => 0))))] := hD
  have hP := hP.sub (ws' := [(h0, .inr (5, [.ref q_1, .ref q_2, .ref q_3, .null, .null, .null, .int 0]))]) [0] rfl
  have hD := hD.sub (ws' := [(h0, .inr (5, [.ref q_1, .ref q_2, .ref q_3, .null, .null, .null, .int 0]))]) [0] (by decide) rfl
  refine lv_aload_n hx hb dX5_init_31 rfl (lv_at hl 0 rfl) ?_
  refine lv_sipush (v := 404) hx hb dX5_init_32 (by decide) ?_
  refine va_newaT (atype := .long) (ty := .long) (a0 := (404, .inr (.inl (fun _ => 0)))) hx hb (hg (Cond.arrayClass .long) m294) rfl ra_long hK hP hD hS hA 2 rfl (fun _ => rfl) (by decide) (by decide) (Nat.le_of_ble_eq_true rfl) (Nat.le_of_ble_eq_true rfl) (Nat.le_of_ble_eq_true rfl) dX5_init_35 (fun q_4 H hP hD hS => ?_)
  have hP : va_P D classes [(h0, .inr (5, [.ref q_1, .ref q_2, .ref q_3, .null, .null, .null, .int 0])), (q_4, .inl (k.2.2.1, 404, .inr (.inl (fun _ => 0))))] H := hP
  have hD : va_D A [(h0, .inr (5, [.ref q_1, .ref q_2, .ref q_3, .null, .null, .null, .int 0])), (q_4, .inl (k.2.2.1, 404, .inr (.inl (fun _ => 0))))] := hD
  refine W.widen (k := 4) (n := 1616) (Nat.le_of_ble_eq_true rfl) (Nat.le_of_ble_eq_true rfl) ?_
  refine va_putF (D := D) (ci := 5) (v := .ref q_4) (ty := (.array .long)) (C := RX5) (T := TX5) (N := 7) hx hb hg iX5 tyX5 tyX5_ok nmX5 hown hK hP hD hS 0 rfl rfl 3 (by decide) (hg (Cond.fieldLink RX5 21 "SlabWalk$Odds" "steppedSums" "[J") m467) (fun _ h9 => h9) rfl hin rfl (by decide +kernel) rfl rfl (Nat.le_of_ble_eq_true rfl) dX5_init_37 (fun H locs hP hD hS => ?_)
  have hP : va_P D classes [(h0, .inr (5, [.ref q_1, .ref q_2, .ref q_3, .ref q_4, .null, .null, .int 0])), (q_4, .inl (k.2.2.1, 404, .inr (.inl (fun _ => 0))))] H := hP
  have hD : va_D A [(h0, .inr (5, [.ref q_1, .ref q_2, .ref q_3, .ref q_4, .null, .null, .int 0])), (q_4, .inl (k.2.2.1, 404, .inr (.inl (fun _ => 0))))] := hD
  have hP := hP.sub (ws' := [(h0, .inr (5, [.ref q_1, .ref q_2, .ref q_3, .ref q_4, .null, .null, .int 0]))]) [0] rfl
  have hD := hD.sub (ws' := [(h0, .inr (5, [.ref q_1, .ref q_2, .ref q_3, .ref q_4, .null, .null, .int 0]))]) [0] (by decide) rfl
  refine lv_aload_n hx hb dX5_init_40 rfl (lv_at hl 0 rfl) ?_
  refine lv_sipush (v := 404) hx hb dX5_init_41 (by decide) ?_
  refine va_newaT (atype := .long) (ty := .long) (a0 := (404, .inr (.inl (fun _ => 0)))) hx hb (hg (Cond.arrayClass .long) m294) rfl ra_long hK hP hD hS hA 2 rfl (fun _ => rfl) (by decide) (by decide) (Nat.le_of_ble_eq_true rfl) (Nat.le_of_ble_eq_true rfl) (Nat.le_of_ble_eq_true rfl) dX5_init_44 (fun q_5 H hP hD hS => ?_)
  have hP : va_P D classes [(h0, .inr (5, [.ref q_1, .ref q_2, .ref q_3, .ref q_4, .null, .null, .int 0])), (q_5, .inl (k.2.2.1, 404, .inr (.inl (fun _ => 0))))] H := hP
  have hD : va_D A [(h0, .inr (5, [.ref q_1, .ref q_2, .ref q_3, .ref q_4, .null, .null, .int 0])), (q_5, .inl (k.2.2.1, 404, .inr (.inl (fun _ => 0))))] := hD
  refine W.widen (k := 5) (n := 2020) (Nat.le_of_ble_eq_true rfl) (Nat.le_of_ble_eq_true rfl) ?_
  refine va_putF (D := D) (ci := 5) (v := .ref q_5) (ty := (.array .long)) (C := RX5) (T := TX5) (N := 7) hx hb hg iX5 tyX5 tyX5_ok nmX5 hown hK hP hD hS 0 rfl rfl 4 (by decide) (hg (Cond.fieldLink RX5 24 "SlabWalk$Odds" "odds" "[J") m468) (fun _ h9 => h9) rfl hin rfl (by decide +kernel) rfl rfl (Nat.le_of_ble_eq_true rfl) dX5_init_46 (fun H locs hP hD hS => ?_)
  have hP : va_P D classes [(h0, .inr (5, [.ref q_1, .ref q_2, .ref q_3, .ref q_4, .ref q_5, .null, .int 0])), (q_5, .inl (k.2.2.1, 404, .inr (.inl (fun _ => 0))))] H := hP
  have hD : va_D A [(h0, .inr (5, [.ref q_1, .ref q_2, .ref q_3, .ref q_4, .ref q_5, .null, .int 0])), (q_5, .inl (k.2.2.1, 404, .inr (.inl (fun _ => 0))))] := hD
  have hP := hP.sub (ws' := [(h0, .inr (5, [.ref q_1, .ref q_2, .ref q_3, .ref q_4, .ref q_5, .null, .int 0]))]) [0] rfl
  have hD := hD.sub (ws' := [(h0, .inr (5, [.ref q_1, .ref q_2, .ref q_3, .ref q_4, .ref q_5, .null, .int 0]))]) [0] (by decide) rfl
  refine lv_aload_n hx hb dX5_init_49 rfl (lv_at hl 0 rfl) ?_
  refine lv_sipush (v := 404) hx hb dX5_init_50 (by decide) ?_
  refine va_newaT (atype := .long) (ty := .long) (a0 := (404, .inr (.inl (fun _ => 0)))) hx hb (hg (Cond.arrayClass .long) m294) rfl ra_long hK hP hD hS hA 2 rfl (fun _ => rfl) (by decide) (by decide) (Nat.le_of_ble_eq_true rfl) (Nat.le_of_ble_eq_true rfl) (Nat.le_of_ble_eq_true rfl) dX5_init_53 (fun q_6 H hP hD hS => ?_)
  have hP : va_P D classes [(h0, .inr (5, [.ref q_1, .ref q_2, .ref q_3, .ref q_4, .ref q_5, .null, .int 0])), (q_6, .inl (k.2.2.1, 404, .inr (.inl (fun _ => 0))))] H := hP
  have hD : va_D A [(h0, .inr (5, [.ref q_1, .ref q_2, .ref q_3, .ref q_4, .ref q_5, .null, .int 0])), (q_6, .inl (k.2.2.1, 404, .inr (.inl (fun _ => 0))))] := hD
  refine W.widen (k := 6) (n := 2424) (Nat.le_of_ble_eq_true rfl) (Nat.le_of_ble_eq_true rfl) ?_
  refine va_putF (D := D) (ci := 5) (v := .ref q_6) (ty := (.array .long)) (C := RX5) (T := TX5) (N := 7) hx hb hg iX5 tyX5 tyX5_ok nmX5 hown hK hP hD hS 0 rfl rfl 5 (by decide) (hg (Cond.fieldLink RX5 27 "SlabWalk$Odds" "aims" "[J") m469) (fun _ h9 => h9) rfl hin rfl (by decide +kernel) rfl rfl (Nat.le_of_ble_eq_true rfl) dX5_init_55 (fun H locs hP hD hS => ?_)
  have hP : va_P D classes [(h0, .inr (5, [.ref q_1, .ref q_2, .ref q_3, .ref q_4, .ref q_5, .ref q_6, .int 0])), (q_6, .inl (k.2.2.1, 404, .inr (.inl (fun _ => 0))))] H := hP
  have hD : va_D A [(h0, .inr (5, [.ref q_1, .ref q_2, .ref q_3, .ref q_4, .ref q_5, .ref q_6, .int 0])), (q_6, .inl (k.2.2.1, 404, .inr (.inl (fun _ => 0))))] := hD
  have hP := hP.sub (ws' := [(h0, .inr (5, [.ref q_1, .ref q_2, .ref q_3, .ref q_4, .ref q_5, .ref q_6, .int 0]))]) [0] rfl
  have hD := hD.sub (ws' := [(h0, .inr (5, [.ref q_1, .ref q_2, .ref q_3, .ref q_4, .ref q_5, .ref q_6, .int 0]))]) [0] (by decide) rfl
  have hP9 := hP.sub (ws' := []) [] rfl
  have hD9 := hD.sub (ws' := []) [] (by decide) rfl
  exact W.vret hx hb hr (fun t ht hW => ⟨⟨(), rfl, trivial, cB_of ht hP9 hD9⟩, hS.F ht⟩) hS.2.2 dX5_init_58

set_option maxHeartbeats 4000000 in
set_option maxRecDepth 100000 in
theorem c_X1_init (l : Launch) (D : va_G) (k : ClassId × ClassId × ClassId × ClassId) (sz : Nat) (h0 : Nat)  : Met l yX1_init (WS yX1_init cX1_init 1 none) ({ frames := 1, cells := 3, slots := 450, locals := 12 }) (va_Pc [.ref h0] (cP D k [(h0, .inr (1, [.null, .null, .null, .int 0, .int 0, .int 0]))] sz)) (va_Qv (fun _ : Unit => True) (fun (_ : Unit) t => ∃ (E : List Value), ∃ (nw : Nat), ∃ (kp : Nat), ∃ (bx : Nat), ∃ (f1 : Nat → Int32), ∃ (f2 : Nat → Int32), ∃ (f3 : Nat → Int32), E[0]? = some (.ref nw) ∧ E[1]? = some (.ref kp) ∧ E[2]? = some (.ref bx) ∧ E[3]? = some (.int 0) ∧ E[4]? = some (.int 0) ∧ E[5]? = some (.int 0) ∧ cB D (va_A [(h0, .inr (1, [.null, .null, .null, .int 0, .int 0, .int 0]))] sz) [(h0, .inr (1, E)), (nw, .inl (k.2.1, 10, .inl f1)), (kp, .inl (k.2.1, 410, .inl f2)), (bx, .inl (k.2.1, 30, .inl f3))] t) (va_A [(h0, .inr (1, [.null, .null, .null, .int 0, .int 0, .int 0]))] sz)) 3 450 (va_A [(h0, .inr (1, [.null, .null, .null, .int 0, .int 0, .int 0]))] sz) := by
  refine Met.ofW (cc := cX1_init) (maxL := 1) (ret := none) (by decide) rfl ?_
  intro p e s m args below meth c s₁ B hml hv
  obtain ⟨rfl, hsz, hP, hKX, hD0⟩ := hv
  have hK := hKX.1
  have hx := B.exec
  have hb := B.bytes
  have hr := B.returns
  have hts := atoms_spec (ws := WS yX1_init cX1_init 1 none) B.pre
  have hgd : ∀ w ∈ gd, w ∈ WS yX1_init cX1_init 1 none := fun w h => List.mem_cons_of_mem _ h
  have hg : ∀ w ∈ gd, w.before _ s = true := fun w h => hts w (hgd w h)
  have hown : s.vm.findClass RX1 = some m.cls := findClass_of_methodNamed B.named
  have hlocks := B.notSynchronized
  have hin : meth.name = "<init>" := (name_of_methodNamed B.named B.method).1
  subst hsz
  have hD := hD0.self (sz := s.heap.size)
  generalize hAe : va_A [(h0, .inr (1, [.null, .null, .null, .int 0, .int 0, .int 0]))] s.heap.size = A at hD ⊢
  have hA : ∀ q : Nat, s.heap.size ≤ q → A q := fun q h => by rw [← hAe]; exact Or.inr h
  have hS : va_S A s.heap s.heap [] := va_S.rf
  have hP : va_P D classes [(h0, .inr (1, [.null, .null, .null, .int 0, .int 0, .int 0]))] s.heap := hP
  have hl := lv_entry ([.ref h0]) (n := 1) (Nat.le_of_ble_eq_true rfl)
  rw [lg_entry_eq]
  generalize (lg_sl ([.ref h0]) ++ List.replicate (1 - (lg_sl ([.ref h0])).length) Slot.unset).toArray = ls at hl ⊢
  have hl : lv_has ls 1 [(0, .ref h0)] := hl
  refine lv_aload_n hx hb dX1_init_0 rfl (lv_at hl 0 rfl) ?_
  refine W.objInit hx hb hown (hg (Cond.methodLink RX1 3 objectInit) m491) (hg (Cond.instanceMethod objectInit) m144) (hg (Cond.code objectInit ⟨#[0xb1]⟩ 1 none) m145) rfl (by rw [hml]; exact hl.1) rfl dX1_init_1 (Nat.le_of_ble_eq_true rfl) (Nat.le_of_ble_eq_true rfl) ?_
  refine W.eq (g2 := F0 m 4 ls []) rfl ?_
  refine lv_aload_n hx hb dX1_init_4 rfl (lv_at hl 0 rfl) ?_
  refine lv_bipush (v := 10) hx hb dX1_init_5 (by decide) ?_
  refine va_newaT (atype := .int) (ty := .int) (a0 := (10, .inl (fun _ => 0))) hx hb (hg (Cond.arrayClass .int) m245) rfl ra_int hK hP hD hS hA 1 rfl (fun _ => rfl) (by decide) (by decide) (Nat.le_of_ble_eq_true rfl) (Nat.le_of_ble_eq_true rfl) (Nat.le_of_ble_eq_true rfl) dX1_init_7 (fun q_1 H hP hD hS => ?_)
  have hP : va_P D classes [(h0, .inr (1, [.null, .null, .null, .int 0, .int 0, .int 0])), (q_1, .inl (k.2.1, 10, .inl (fun _ => 0)))] H := hP
  have hD : va_D A [(h0, .inr (1, [.null, .null, .null, .int 0, .int 0, .int 0])), (q_1, .inl (k.2.1, 10, .inl (fun _ => 0)))] := hD
  refine W.widen (k := 1) (n := 10) (Nat.le_of_ble_eq_true rfl) (Nat.le_of_ble_eq_true rfl) ?_
  refine va_putF (D := D) (ci := 1) (v := .ref q_1) (ty := (.array .int)) (C := RX1) (T := TX1) (N := 6) hx hb hg iX1 tyX1 tyX1_ok nmX1 hown hK hP hD hS 0 rfl rfl 0 (by decide) (hg (Cond.fieldLink RX1 11 "SlabWalk$Earnest" "now" "[I") m492) (fun _ h9 => h9) rfl hin rfl (by decide +kernel) rfl rfl (Nat.le_of_ble_eq_true rfl) dX1_init_9 (fun H locs hP hD hS => ?_)
  have hP : va_P D classes [(h0, .inr (1, [.ref q_1, .null, .null, .int 0, .int 0, .int 0])), (q_1, .inl (k.2.1, 10, .inl (fun _ => 0)))] H := hP
  have hD : va_D A [(h0, .inr (1, [.ref q_1, .null, .null, .int 0, .int 0, .int 0])), (q_1, .inl (k.2.1, 10, .inl (fun _ => 0)))] := hD
  refine lv_aload_n hx hb dX1_init_12 rfl (lv_at hl 0 rfl) ?_
  refine lv_sipush (v := 410) hx hb dX1_init_13 (by decide) ?_
  refine va_newaT (atype := .int) (ty := .int) (a0 := (410, .inl (fun _ => 0))) hx hb (hg (Cond.arrayClass .int) m245) rfl ra_int hK hP hD hS hA 1 rfl (fun _ => rfl) (by decide) (by decide) (Nat.le_of_ble_eq_true rfl) (Nat.le_of_ble_eq_true rfl) (Nat.le_of_ble_eq_true rfl) dX1_init_16 (fun q_2 H hP hD hS => ?_)
  have hP : va_P D classes [(h0, .inr (1, [.ref q_1, .null, .null, .int 0, .int 0, .int 0])), (q_1, .inl (k.2.1, 10, .inl (fun _ => 0))), (q_2, .inl (k.2.1, 410, .inl (fun _ => 0)))] H := hP
  have hD : va_D A [(h0, .inr (1, [.ref q_1, .null, .null, .int 0, .int 0, .int 0])), (q_1, .inl (k.2.1, 10, .inl (fun _ => 0))), (q_2, .inl (k.2.1, 410, .inl (fun _ => 0)))] := hD
  refine W.widen (k := 2) (n := 420) (Nat.le_of_ble_eq_true rfl) (Nat.le_of_ble_eq_true rfl) ?_
  refine va_putF (D := D) (ci := 1) (v := .ref q_2) (ty := (.array .int)) (C := RX1) (T := TX1) (N := 6) hx hb hg iX1 tyX1 tyX1_ok nmX1 hown hK hP hD hS 0 rfl rfl 1 (by decide) (hg (Cond.fieldLink RX1 15 "SlabWalk$Earnest" "kept" "[I") m494) (fun _ h9 => h9) rfl hin rfl (by decide +kernel) rfl rfl (Nat.le_of_ble_eq_true rfl) dX1_init_18 (fun H locs hP hD hS => ?_)
  have hP : va_P D classes [(h0, .inr (1, [.ref q_1, .ref q_2, .null, .int 0, .int 0, .int 0])), (q_1, .inl (k.2.1, 10, .inl (fun _ => 0))), (q_2, .inl (k.2.1, 410, .inl (fun _ => 0)))] H := hP
  have hD : va_D A [(h0, .inr (1, [.ref q_1, .ref q_2, .null, .int 0, .int 0, .int 0])), (q_1, .inl (k.2.1, 10, .inl (fun _ => 0))), (q_2, .inl (k.2.1, 410, .inl (fun _ => 0)))] := hD
  refine lv_aload_n hx hb dX1_init_21 rfl (lv_at hl 0 rfl) ?_
  refine lv_bipush (v := 30) hx hb dX1_init_22 (by decide) ?_
  refine va_newaT (atype := .int) (ty := .int) (a0 := (30, .inl (fun _ => 0))) hx hb (hg (Cond.arrayClass .int) m245) rfl ra_int hK hP hD hS hA 1 rfl (fun _ => rfl) (by decide) (by decide) (Nat.le_of_ble_eq_true rfl) (Nat.le_of_ble_eq_true rfl) (Nat.le_of_ble_eq_true rfl) dX1_init_24 (fun q_3 H hP hD hS => ?_)
  have hP : va_P D classes [(h0, .inr (1, [.ref q_1, .ref q_2, .null, .int 0, .int 0, .int 0])), (q_1, .inl (k.2.1, 10, .inl (fun _ => 0))), (q_2, .inl (k.2.1, 410, .inl (fun _ => 0))), (q_3, .inl (k.2.1, 30, .inl (fun _ => 0)))] H := hP
  have hD : va_D A [(h0, .inr (1, [.ref q_1, .ref q_2, .null, .int 0, .int 0, .int 0])), (q_1, .inl (k.2.1, 10, .inl (fun _ => 0))), (q_2, .inl (k.2.1, 410, .inl (fun _ => 0))), (q_3, .inl (k.2.1, 30, .inl (fun _ => 0)))] := hD
  refine W.widen (k := 3) (n := 450) (Nat.le_of_ble_eq_true rfl) (Nat.le_of_ble_eq_true rfl) ?_
  refine va_putF (D := D) (ci := 1) (v := .ref q_3) (ty := (.array .int)) (C := RX1) (T := TX1) (N := 6) hx hb hg iX1 tyX1 tyX1_ok nmX1 hown hK hP hD hS 0 rfl rfl 2 (by decide) (hg (Cond.fieldLink RX1 18 "SlabWalk$Earnest" "boxes" "[I") m495) (fun _ h9 => h9) rfl hin rfl (by decide +kernel) rfl rfl (Nat.le_of_ble_eq_true rfl) dX1_init_26 (fun H locs hP hD hS => ?_)
  have hP : va_P D classes [(h0, .inr (1, [.ref q_1, .ref q_2, .ref q_3, .int 0, .int 0, .int 0])), (q_1, .inl (k.2.1, 10, .inl (fun _ => 0))), (q_2, .inl (k.2.1, 410, .inl (fun _ => 0))), (q_3, .inl (k.2.1, 30, .inl (fun _ => 0)))] H := hP
  have hD : va_D A [(h0, .inr (1, [.ref q_1, .ref q_2, .ref q_3, .int 0, .int 0, .int 0])), (q_1, .inl (k.2.1, 10, .inl (fun _ => 0))), (q_2, .inl (k.2.1, 410, .inl (fun _ => 0))), (q_3, .inl (k.2.1, 30, .inl (fun _ => 0)))] := hD
  have hP9 := hP.sub (ws' := [(h0, .inr (1, [.ref q_1, .ref q_2, .ref q_3, .int 0, .int 0, .int 0])), (q_1, .inl (k.2.1, 10, .inl (fun _ => 0))), (q_2, .inl (k.2.1, 410, .inl (fun _ => 0))), (q_3, .inl (k.2.1, 30, .inl (fun _ => 0)))]) [0, 1, 2, 3] rfl
  have hD9 := hD.sub (ws' := [(h0, .inr (1, [.ref q_1, .ref q_2, .ref q_3, .int 0, .int 0, .int 0])), (q_1, .inl (k.2.1, 10, .inl (fun _ => 0))), (q_2, .inl (k.2.1, 410, .inl (fun _ => 0))), (q_3, .inl (k.2.1, 30, .inl (fun _ => 0)))]) [0, 1, 2, 3] (by decide) rfl
  exact W.vret hx hb hr (fun t ht hW => ⟨⟨(), rfl, trivial, ⟨[.ref q_1, .ref q_2, .ref q_3, .int 0, .int 0, .int 0], q_1, q_2, q_3, (fun _ => 0), (fun _ => 0), (fun _ => 0), rfl, rfl, rfl, rfl, rfl, rfl, cB_of ht hP9 hD9⟩⟩, hS.F ht⟩) hS.2.2 dX1_init_29

set_option maxHeartbeats 4000000 in
set_option maxRecDepth 100000 in
theorem c_X8_init (l : Launch) (D : va_G) (k : ClassId × ClassId × ClassId × ClassId) (sz : Nat) (h0 : Nat)  : Met l yX8_init (WS yX8_init cX8_init 1 none) ({ frames := 1, cells := 5, slots := 100, locals := 12 }) (va_Pc [.ref h0] (cP D k [(h0, .inr (8, [.null, .null, .null, .null, .null, .int 0, .int 0]))] sz)) (va_Qv (fun _ : Unit => True) (fun (_ : Unit) t => ∃ (E : List Value), E[5]? = some (.int 0) ∧ E[6]? = some (.int 0) ∧ cB D (va_A [(h0, .inr (8, [.null, .null, .null, .null, .null, .int 0, .int 0]))] sz) [(h0, .inr (8, E))] t) (va_A [(h0, .inr (8, [.null, .null, .null, .null, .null, .int 0, .int 0]))] sz)) 5 100 (va_A [(h0, .inr (8, [.null, .null, .null, .null, .null, .int 0, .int 0]))] sz) := by
  refine Met.ofW (cc := cX8_init) (maxL := 1) (ret := none) (by decide) rfl ?_
  intro p e s m args below meth c s₁ B hml hv
  obtain ⟨rfl, hsz, hP, hKX, hD0⟩ := hv
  have hK := hKX.1
  have hx := B.exec
  have hb := B.bytes
  have hr := B.returns
  have hts := atoms_spec (ws := WS yX8_init cX8_init 1 none) B.pre
  have hgd : ∀ w ∈ gd, w ∈ WS yX8_init cX8_init 1 none := fun w h => List.mem_cons_of_mem _ h
  have hg : ∀ w ∈ gd, w.before _ s = true := fun w h => hts w (hgd w h)
  have hown : s.vm.findClass RX8 = some m.cls := findClass_of_methodNamed B.named
  have hlocks := B.notSynchronized
  have hin : meth.name = "<init>" := (name_of_methodNamed B.named B.method).1
  subst hsz
  have hD := hD0.self (sz := s.heap.size)
  generalize hAe : va_A [(h0, .inr (8, [.null, .null, .null, .null, .null, .int 0, .int 0]))] s.heap.size = A at hD ⊢
  have hA : ∀ q : Nat, s.heap.size ≤ q → A q := fun q h => by rw [← hAe]; exact Or.inr h
  have hS : va_S A s.heap s.heap [] := va_S.rf
  have hP : va_P D classes [(h0, .inr (8, [.null, .null, .null, .null, .null, .int 0, .int 0]))] s.heap := hP
  have hl := lv_entry ([.ref h0]) (n := 1) (Nat.le_of_ble_eq_true rfl)
  rw [lg_entry_eq]
  generalize (lg_sl ([.ref h0]) ++ List.replicate (1 - (lg_sl ([.ref h0])).length) Slot.unset).toArray = ls at hl ⊢
  have hl : lv_has ls 1 [(0, .ref h0)] := hl
  refine lv_aload_n hx hb dX8_init_0 rfl (lv_at hl 0 rfl) ?_
  refine W.objInit hx hb hown (hg (Cond.methodLink RX8 3 objectInit) m519) (hg (Cond.instanceMethod objectInit) m144) (hg (Cond.code objectInit ⟨#[0xb1]⟩ 1 none) m145) rfl (by rw [hml]; exact hl.1) rfl dX8_init_1 (Nat.le_of_ble_eq_true rfl) (Nat.le_of_ble_eq_true rfl) ?_
  refine W.eq (g2 := F0 m 4 ls []) rfl ?_
  refine lv_aload_n hx hb dX8_init_4 rfl (lv_at hl 0 rfl) ?_
  refine lv_bipush (v := 20) hx hb dX8_init_5 (by decide) ?_
  refine va_newaT (atype := .int) (ty := .int) (a0 := (20, .inl (fun _ => 0))) hx hb (hg (Cond.arrayClass .int) m245) rfl ra_int hK hP hD hS hA 1 rfl (fun _ => rfl) (by decide) (by decide) (Nat.le_of_ble_eq_true rfl) (Nat.le_of_ble_eq_true rfl) (Nat.le_of_ble_eq_true rfl) dX8_init_7 (fun q_1 H hP hD hS => ?_)
  have hP : va_P D classes [(h0, .inr (8, [.null, .null, .null, .null, .null, .int 0, .int 0])), (q_1, .inl (k.2.1, 20, .inl (fun _ => 0)))] H := hP
  have hD : va_D A [(h0, .inr (8, [.null, .null, .null, .null, .null, .int 0, .int 0])), (q_1, .inl (k.2.1, 20, .inl (fun _ => 0)))] := hD
  refine W.widen (k := 1) (n := 20) (Nat.le_of_ble_eq_true rfl) (Nat.le_of_ble_eq_true rfl) ?_
  refine va_putF (D := D) (ci := 8) (v := .ref q_1) (ty := (.array .int)) (C := RX8) (T := TX8) (N := 7) hx hb hg iX8 tyX8 tyX8_ok nmX8 hown hK hP hD hS 0 rfl rfl 0 (by decide) (hg (Cond.fieldLink RX8 11 "SlabWalk$Sights" "walker" "[I") m520) (fun _ h9 => h9) rfl hin rfl (by decide +kernel) rfl rfl (Nat.le_of_ble_eq_true rfl) dX8_init_9 (fun H locs hP hD hS => ?_)
  have hP : va_P D classes [(h0, .inr (8, [.ref q_1, .null, .null, .null, .null, .int 0, .int 0])), (q_1, .inl (k.2.1, 20, .inl (fun _ => 0)))] H := hP
  have hD : va_D A [(h0, .inr (8, [.ref q_1, .null, .null, .null, .null, .int 0, .int 0])), (q_1, .inl (k.2.1, 20, .inl (fun _ => 0)))] := hD
  have hP := hP.sub (ws' := [(h0, .inr (8, [.ref q_1, .null, .null, .null, .null, .int 0, .int 0]))]) [0] rfl
  have hD := hD.sub (ws' := [(h0, .inr (8, [.ref q_1, .null, .null, .null, .null, .int 0, .int 0]))]) [0] (by decide) rfl
  refine lv_aload_n hx hb dX8_init_12 rfl (lv_at hl 0 rfl) ?_
  refine lv_bipush (v := 20) hx hb dX8_init_13 (by decide) ?_
  refine va_newaT (atype := .int) (ty := .int) (a0 := (20, .inl (fun _ => 0))) hx hb (hg (Cond.arrayClass .int) m245) rfl ra_int hK hP hD hS hA 1 rfl (fun _ => rfl) (by decide) (by decide) (Nat.le_of_ble_eq_true rfl) (Nat.le_of_ble_eq_true rfl) (Nat.le_of_ble_eq_true rfl) dX8_init_15 (fun q_2 H hP hD hS => ?_)
  have hP : va_P D classes [(h0, .inr (8, [.ref q_1, .null, .null, .null, .null, .int 0, .int 0])), (q_2, .inl (k.2.1, 20, .inl (fun _ => 0)))] H := hP
  have hD : va_D A [(h0, .inr (8, [.ref q_1, .null, .null, .null, .null, .int 0, .int 0])), (q_2, .inl (k.2.1, 20, .inl (fun _ => 0)))] := hD
  refine W.widen (k := 2) (n := 40) (Nat.le_of_ble_eq_true rfl) (Nat.le_of_ble_eq_true rfl) ?_
  refine va_putF (D := D) (ci := 8) (v := .ref q_2) (ty := (.array .int)) (C := RX8) (T := TX8) (N := 7) hx hb hg iX8 tyX8 tyX8_ok nmX8 hown hK hP hD hS 0 rfl rfl 1 (by decide) (hg (Cond.fieldLink RX8 15 "SlabWalk$Sights" "street" "[I") m522) (fun _ h9 => h9) rfl hin rfl (by decide +kernel) rfl rfl (Nat.le_of_ble_eq_true rfl) dX8_init_17 (fun H locs hP hD hS => ?_)
  have hP : va_P D classes [(h0, .inr (8, [.ref q_1, .ref q_2, .null, .null, .null, .int 0, .int 0])), (q_2, .inl (k.2.1, 20, .inl (fun _ => 0)))] H := hP
  have hD : va_D A [(h0, .inr (8, [.ref q_1, .ref q_2, .null, .null, .null, .int 0, .int 0])), (q_2, .inl (k.2.1, 20, .inl (fun _ => 0)))] := hD
  have hP := hP.sub (ws' := [(h0, .inr (8, [.ref q_1, .ref q_2, .null, .null, .null, .int 0, .int 0]))]) [0] rfl
  have hD := hD.sub (ws' := [(h0, .inr (8, [.ref q_1, .ref q_2, .null, .null, .null, .int 0, .int 0]))]) [0] (by decide) rfl
  refine lv_aload_n hx hb dX8_init_20 rfl (lv_at hl 0 rfl) ?_
  refine lv_bipush (v := 20) hx hb dX8_init_21 (by decide) ?_
  refine va_newaT (atype := .int) (ty := .int) (a0 := (20, .inl (fun _ => 0))) hx hb (hg (Cond.arrayClass .int) m245) rfl ra_int hK hP hD hS hA 1 rfl (fun _ => rfl) (by decide) (by decide) (Nat.le_of_ble_eq_true rfl) (Nat.le_of_ble_eq_true rfl) (Nat.le_of_ble_eq_true rfl) dX8_init_23 (fun q_3 H hP hD hS => ?_)
  have hP : va_P D classes [(h0, .inr (8, [.ref q_1, .ref q_2, .null, .null, .null, .int 0, .int 0])), (q_3, .inl (k.2.1, 20, .inl (fun _ => 0)))] H := hP
  have hD : va_D A [(h0, .inr (8, [.ref q_1, .ref q_2, .null, .null, .null, .int 0, .int 0])), (q_3, .inl (k.2.1, 20, .inl (fun _ => 0)))] := hD
  refine W.widen (k := 3) (n := 60) (Nat.le_of_ble_eq_true rfl) (Nat.le_of_ble_eq_true rfl) ?_
  refine va_putF (D := D) (ci := 8) (v := .ref q_3) (ty := (.array .int)) (C := RX8) (T := TX8) (N := 7) hx hb hg iX8 tyX8 tyX8_ok nmX8 hown hK hP hD hS 0 rfl rfl 2 (by decide) (hg (Cond.fieldLink RX8 18 "SlabWalk$Sights" "heel" "[I") m524) (fun _ h9 => h9) rfl hin rfl (by decide +kernel) rfl rfl (Nat.le_of_ble_eq_true rfl) dX8_init_25 (fun H locs hP hD hS => ?_)
  have hP : va_P D classes [(h0, .inr (8, [.ref q_1, .ref q_2, .ref q_3, .null, .null, .int 0, .int 0])), (q_3, .inl (k.2.1, 20, .inl (fun _ => 0)))] H := hP
  have hD : va_D A [(h0, .inr (8, [.ref q_1, .ref q_2, .ref q_3, .null, .null, .int 0, .int 0])), (q_3, .inl (k.2.1, 20, .inl (fun _ => 0)))] := hD
  have hP := hP.sub (ws' := [(h0, .inr (8, [.ref q_1, .ref q_2, .ref q_3, .null, .null, .int 0, .int 0]))]) [0] rfl
  have hD := hD.sub (ws' := [(h0, .inr (8, [.ref q_1, .ref q_2, .ref q_3, .null, .null, .int 0, .int 0]))]) [0] (by decide) rfl
  refine lv_aload_n hx hb dX8_init_28 rfl (lv_at hl 0 rfl) ?_
  refine lv_bipush (v := 20) hx hb dX8_init_29 (by decide) ?_
  refine va_newaT (atype := .int) (ty := .int) (a0 := (20, .inl (fun _ => 0))) hx hb (hg (Cond.arrayClass .int) m245) rfl ra_int hK hP hD hS hA 1 rfl (fun _ => rfl) (by decide) (by decide) (Nat.le_of_ble_eq_true rfl) (Nat.le_of_ble_eq_true rfl) (Nat.le_of_ble_eq_true rfl) dX8_init_31 (fun q_4 H hP hD hS => ?_)
  have hP : va_P D classes [(h0, .inr (8, [.ref q_1, .ref q_2, .ref q_3, .null, .null, .int 0, .int 0])), (q_4, .inl (k.2.1, 20, .inl (fun _ => 0)))] H := hP
  have hD : va_D A [(h0, .inr (8, [.ref q_1, .ref q_2, .ref q_3, .null, .null, .int 0, .int 0])), (q_4, .inl (k.2.1, 20, .inl (fun _ => 0)))] := hD
  refine W.widen (k := 4) (n := 80) (Nat.le_of_ble_eq_true rfl) (Nat.le_of_ble_eq_true rfl) ?_
  refine va_putF (D := D) (ci := 8) (v := .ref q_4) (ty := (.array .int)) (C := RX8) (T := TX8) (N := 7) hx hb hg iX8 tyX8 tyX8_ok nmX8 hown hK hP hD hS 0 rfl rfl 3 (by decide) (hg (Cond.fieldLink RX8 21 "SlabWalk$Sights" "told" "[I") m526) (fun _ h9 => h9) rfl hin rfl (by decide +kernel) rfl rfl (Nat.le_of_ble_eq_true rfl) dX8_init_33 (fun H locs hP hD hS => ?_)
  have hP : va_P D classes [(h0, .inr (8, [.ref q_1, .ref q_2, .ref q_3, .ref q_4, .null, .int 0, .int 0])), (q_4, .inl (k.2.1, 20, .inl (fun _ => 0)))] H := hP
  have hD : va_D A [(h0, .inr (8, [.ref q_1, .ref q_2, .ref q_3, .ref q_4, .null, .int 0, .int 0])), (q_4, .inl (k.2.1, 20, .inl (fun _ => 0)))] := hD
  have hP := hP.sub (ws' := [(h0, .inr (8, [.ref q_1, .ref q_2, .ref q_3, .ref q_4, .null, .int 0, .int 0]))]) [0] rfl
  have hD := hD.sub (ws' := [(h0, .inr (8, [.ref q_1, .ref q_2, .ref q_3, .ref q_4, .null, .int 0, .int 0]))]) [0] (by decide) rfl
  refine lv_aload_n hx hb dX8_init_36 rfl (lv_at hl 0 rfl) ?_
  refine lv_bipush (v := 20) hx hb dX8_init_37 (by decide) ?_
  refine va_newaT (atype := .int) (ty := .int) (a0 := (20, .inl (fun _ => 0))) hx hb (hg (Cond.arrayClass .int) m245) rfl ra_int hK hP hD hS hA 1 rfl (fun _ => rfl) (by decide) (by decide) (Nat.le_of_ble_eq_true rfl) (Nat.le_of_ble_eq_true rfl) (Nat.le_of_ble_eq_true rfl) dX8_init_39 (fun q_5 H hP hD hS => ?_)
  have hP : va_P D classes [(h0, .inr (8, [.ref q_1, .ref q_2, .ref q_3, .ref q_4, .null, .int 0, .int 0])), (q_5, .inl (k.2.1, 20, .inl (fun _ => 0)))] H := hP
  have hD : va_D A [(h0, .inr (8, [.ref q_1, .ref q_2, .ref q_3, .ref q_4, .null, .int 0, .int 0])), (q_5, .inl (k.2.1, 20, .inl (fun _ => 0)))] := hD
  refine W.widen (k := 5) (n := 100) (Nat.le_of_ble_eq_true rfl) (Nat.le_of_ble_eq_true rfl) ?_
  refine va_putF (D := D) (ci := 8) (v := .ref q_5) (ty := (.array .int)) (C := RX8) (T := TX8) (N := 7) hx hb hg iX8 tyX8 tyX8_ok nmX8 hown hK hP hD hS 0 rfl rfl 4 (by decide) (hg (Cond.fieldLink RX8 24 "SlabWalk$Sights" "untold" "[I") m527) (fun _ h9 => h9) rfl hin rfl (by decide +kernel) rfl rfl (Nat.le_of_ble_eq_true rfl) dX8_init_41 (fun H locs hP hD hS => ?_)
  have hP : va_P D classes [(h0, .inr (8, [.ref q_1, .ref q_2, .ref q_3, .ref q_4, .ref q_5, .int 0, .int 0])), (q_5, .inl (k.2.1, 20, .inl (fun _ => 0)))] H := hP
  have hD : va_D A [(h0, .inr (8, [.ref q_1, .ref q_2, .ref q_3, .ref q_4, .ref q_5, .int 0, .int 0])), (q_5, .inl (k.2.1, 20, .inl (fun _ => 0)))] := hD
  have hP := hP.sub (ws' := [(h0, .inr (8, [.ref q_1, .ref q_2, .ref q_3, .ref q_4, .ref q_5, .int 0, .int 0]))]) [0] rfl
  have hD := hD.sub (ws' := [(h0, .inr (8, [.ref q_1, .ref q_2, .ref q_3, .ref q_4, .ref q_5, .int 0, .int 0]))]) [0] (by decide) rfl
  have hP9 := hP.sub (ws' := [(h0, .inr (8, [.ref q_1, .ref q_2, .ref q_3, .ref q_4, .ref q_5, .int 0, .int 0]))]) [0] rfl
  have hD9 := hD.sub (ws' := [(h0, .inr (8, [.ref q_1, .ref q_2, .ref q_3, .ref q_4, .ref q_5, .int 0, .int 0]))]) [0] (by decide) rfl
  exact W.vret hx hb hr (fun t ht hW => ⟨⟨(), rfl, trivial, ⟨[.ref q_1, .ref q_2, .ref q_3, .ref q_4, .ref q_5, .int 0, .int 0], rfl, rfl, cB_of ht hP9 hD9⟩⟩, hS.F ht⟩) hS.2.2 dX8_init_44
