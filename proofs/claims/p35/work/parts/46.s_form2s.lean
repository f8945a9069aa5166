

set_option maxHeartbeats 4000000 in
set_option maxRecDepth 100000 in
theorem k_fBracket_2_s (l : Launch) (D : va_G) (k : KT) (A : Nat → Prop) (a : Nat → Nat) (z : SK) (fn ln n : Nat) (hE : ∀ (G : GS) (p0 : Int32) (ha_p0 : 0 ≤ p0.toInt ∧ p0.toInt ≤ 7) (hv_4_1 : G.2.2 4 1 = 2) (hd : 7 ≤ p0.toInt + (n : Int)), Met l yX2_passEither (WS yX2_passEither cX2_passEither 3 (some .boolean)) ({ frames := fn + 2, cells := 0, slots := 0, locals := ln + 43 }) (va_Pc [.ref (a 4), .int p0] (cW D k A a z G)) (va_Qi (fun (r : Int32) (G1 : GS) => Bd G1 ∧ Fr [27] [(2, 12), (2, 13), (3, 2), (3, 3), (3, 4), (3, 5), (3, 6), (3, 7), (3, 8), (4, 2)] G G1 ∧ (0 ≤ r.toInt ∧ r.toInt ≤ 1)) (fun (G1 : GS) t => Wd D k A a G1 t.heap) A) 0 0 A) (hO : ∀ (G : GS) (p0 : Int32) (ha_p0 : 0 ≤ p0.toInt ∧ p0.toInt ≤ 7) (hv_4_1 : G.2.2 4 1 = 2) (hd : 7 ≤ p0.toInt + (n : Int)), Met l yX2_passOne (WS yX2_passOne cX2_passOne 2 (some .boolean)) ({ frames := fn + 0, cells := 0, slots := 0, locals := ln + 0 }) (va_Pc [.ref (a 4), .int p0] (cW D k A a z G)) (va_Qi (fun (r : Int32) (G1 : GS) => Bd G1 ∧ Fr [27] [(2, 12), (2, 13), (3, 2), (3, 3), (3, 4), (3, 5), (3, 6), (3, 7), (3, 8), (4, 2)] G G1 ∧ (0 ≤ r.toInt ∧ r.toInt ≤ 1)) (fun (G1 : GS) t => Wd D k A a G1 t.heap) A) 0 0 A) (G : GS) (p0 : Int32) (ha_p0 : 0 ≤ p0.toInt ∧ p0.toInt ≤ 7) (hv_4_1 : G.2.2 4 1 = 2) (hd : 7 ≤ p0.toInt + (n : Int) + 1) : Met l yX2_passBracket (WS yX2_passBracket cX2_passBracket 2 (some .boolean)) ({ frames := fn + 7, cells := 0, slots := 0, locals := ln + 148 }) (va_Pc [.ref (a 4), .int p0] (cW D k A a z G)) (va_Qi (fun (r : Int32) (G1 : GS) => Bd G1 ∧ Fr [27] [(2, 12), (2, 13), (3, 2), (3, 3), (3, 4), (3, 5), (3, 6), (3, 7), (3, 8), (4, 2)] G G1 ∧ (0 ≤ r.toInt ∧ r.toInt ≤ 1)) (fun (G1 : GS) t => Wd D k A a G1 t.heap) A) 0 0 A := by
  refine Met.ofW (cc := cX2_passBracket) (maxL := 2) (ret := (some .boolean)) (by decide) rfl ?_
  intro p e s m args below meth c s₁ B hml hv
  obtain ⟨rfl, hW, hB_G, hK, hZ⟩ := hv
  have hx := B.exec
  have hb := B.bytes
  have hr := B.returns
  have hts := atoms_spec (ws := WS yX2_passBracket cX2_passBracket 2 (some .boolean)) B.pre
  have hgd : ∀ w ∈ gd, w ∈ WS yX2_passBracket cX2_passBracket 2 (some .boolean) := fun w h => List.mem_cons_of_mem _ h
  have hg : ∀ w ∈ gd, w.before _ s = true := fun w h => hts w (hgd w h)
  have hown : s.vm.findClass RX2 = some m.cls := findClass_of_methodNamed B.named
  have hS : va_S A s.heap s.heap [] := va_S.rf
  have hF : Fr [27] [(2, 12), (2, 13), (3, 2), (3, 3), (3, 4), (3, 5), (3, 6), (3, 7), (3, 8), (4, 2)] G G := Fr.rf
  have hl := lv_entry ([.ref (a 4), .int p0]) (n := 2) (Nat.le_of_ble_eq_true rfl)
  rw [lg_entry_eq]
  generalize (lg_sl ([.ref (a 4), .int p0]) ++ List.replicate (2 - (lg_sl ([.ref (a 4), .int p0])).length) Slot.unset).toArray = ls at hl ⊢
  have hl : lv_has ls 2 [(0, .ref (a 4)), (1, .int p0)] := hl
  refine lv_iload_n hx hb dX2_passBracket_0 rfl (lv_at hl 1 rfl) ?_
  refine lv_bipush (v := 6) hx hb dX2_passBracket_1 (by decide) ?_
  refine lv_icmp_le (tgt := 15) hx hb dX2_passBracket_3 (by decide) (fun c_1 => ?_) (fun c_1 => ?_)
  · have c_1 : p0.toInt ≤ 6 := xI_le rfl rfl c_1
    refine lv_aload_n hx hb dX2_passBracket_15 rfl (lv_at hl 0 rfl) ?_
    refine S_getR (n := 3) (C := RX2) (T := TX2) (N := 3) hx hb hg iX2 hown hK hW kd_4 rfl 0 (by decide) (hg (Cond.fieldLink RX2 9 "SlabWalk$Formulas" "tokens" "LSlabWalk$Tokens;") m301) (fun _ h9 => h9) rfl dX2_passBracket_16 ?_
    refine S_calli (va_runV (As := []) (rest := []) ⟨hx, hb, hml, hown, hts⟩ (k_tAdvance l D k A a z G  ) (cwV 0 hts (gd_V hgd m854 m639 m640 m120 m641) rfl rfl rfl (by decide +kernel) ⟨show 6 + 1 ≤ fn + 7 from by omega, show 8 + (2 + 11) + (127) ≤ ln + 148 from by omega⟩) (pre_V hW hB_G hK hZ hS kd_3 rfl) rfl rfl hl.1 rfl (lv_room (Nat.le_of_ble_eq_true rfl)) dX2_passBracket_19 ⟨Nat.le_of_ble_eq_true rfl, Nat.le_of_ble_eq_true rfl⟩) hS (fun r_2 G_3 H locs hpo hW hS => ?_)
    obtain ⟨hB_G_3, hq_4, f_6⟩ := hpo
    have hF := hF.call hq_4 (by decide) (by decide)
    refine lv_pop hx hb dX2_passBracket_22 rfl ?_
    refine lv_aload_n hx hb dX2_passBracket_23 rfl (lv_at hl 0 rfl) ?_
    refine lv_iload_n hx hb dX2_passBracket_24 rfl (lv_at hl 1 rfl) ?_
    refine lv_iconst (v := 1) hx hb dX2_passBracket_25 (by decide) ?_
    refine lv_iadd hx hb dX2_passBracket_26 ?_
    refine lv_topi (fun y_7 ey_7 => ?_)
    have ty_7 : y_7.toInt = p0.toInt + 1 := xI_add rfl rfl ey_7 (by omega) (by omega)
    refine S_calli (va_runV (As := [.int y_7]) (rest := []) ⟨hx, hb, hml, hown, hts⟩ (hE G_3 y_7 ⟨by omega, by omega⟩ (((hq_4.r 4 1 (by decide) (by decide))).trans (hv_4_1)) (by omega)) (cwV 1 hts (gd_V hgd m821 m823 m16 m121 m824) rfl rfl rfl (by decide +kernel) ⟨show fn + 2 + 1 ≤ fn + 7 from by omega, show 8 + (3 + 11) + (ln + 43) ≤ ln + 148 from by omega⟩) (pre_V hW hB_G_3 hK hZ hS kd_4 rfl) rfl rfl hl.1 rfl (lv_room (Nat.le_of_ble_eq_true rfl)) dX2_passBracket_27 ⟨Nat.le_of_ble_eq_true rfl, Nat.le_of_ble_eq_true rfl⟩) hS (fun r_8 G_9 H locs hpo hW hS => ?_)
    obtain ⟨hB_G_9, hq_10, f_12⟩ := hpo
    have hF := hF.call hq_10 (by decide) (by decide)
    refine lv_if_ne (tgt := 35) hx hb dX2_passBracket_30 (by decide) (fun c_13 => ?_) (fun c_13 => ?_)
    · have c_13 : r_8.toInt ≠ 0 := xI_ne rfl rfl c_13
      refine lv_aload_n hx hb dX2_passBracket_35 rfl (lv_at hl 0 rfl) ?_
      refine S_getR (n := 3) (C := RX2) (T := TX2) (N := 3) hx hb hg iX2 hown hK hW kd_4 rfl 0 (by decide) (hg (Cond.fieldLink RX2 9 "SlabWalk$Formulas" "tokens" "LSlabWalk$Tokens;") m301) (fun _ h9 => h9) rfl dX2_passBracket_36 ?_
      refine S_getI (v := (G_9.1 3 3)) (C := RX9) (T := TX9) (N := 9) hx hb hg iX9 hown hK hW kd_3 rfl 3 (by decide) (hg (Cond.fieldLink RX2 30 "SlabWalk$Tokens" "kind" "I") m263) (fun _ h9 => h9) rfl rfl dX2_passBracket_39 ?_
      refine lv_bipush (v := 41) hx hb dX2_passBracket_42 (by decide) ?_
      refine lv_icmp_ne (tgt := 57) hx hb dX2_passBracket_44 (by decide) (fun c_14 => ?_) (fun c_14 => ?_)
      · have c_14 : (G_9.1 3 3).toInt ≠ 41 := xI_ne rfl rfl c_14
        refine lv_aload_n hx hb dX2_passBracket_57 rfl (lv_at hl 0 rfl) ?_
        refine S_getR (n := 3) (C := RX2) (T := TX2) (N := 3) hx hb hg iX2 hown hK hW kd_4 rfl 0 (by decide) (hg (Cond.fieldLink RX2 9 "SlabWalk$Formulas" "tokens" "LSlabWalk$Tokens;") m301) (fun _ h9 => h9) rfl dX2_passBracket_58 ?_
        refine lv_iconst (v := 2) hx hb dX2_passBracket_61 (by decide) ?_
        refine S_calli (va_runV (As := [.int 2]) (rest := []) ⟨hx, hb, hml, hown, hts⟩ (k_tRefuse l D k A a z G_9 2 ⟨by decide, by decide⟩) (cwV 1 hts (gd_V hgd m849 m779 m780 m120 m781) rfl rfl rfl (by decide +kernel) ⟨show 0 + 1 ≤ fn + 7 from by omega, show 8 + (2 + 11) + (0) ≤ ln + 148 from by omega⟩) (pre_V hW hB_G_9 hK hZ hS kd_3 rfl) rfl rfl hl.1 rfl (lv_room (Nat.le_of_ble_eq_true rfl)) dX2_passBracket_62 ⟨Nat.le_of_ble_eq_true rfl, Nat.le_of_ble_eq_true rfl⟩) hS (fun r_15 G_16 H locs hpo hW hS => ?_)
        obtain ⟨hB_G_16, hq_17, f_19⟩ := hpo
        have hF := hF.call hq_17 (by decide) (by decide)
        exact W.zret (v := r_15) hx hb hr (nar_z (by omega) (by omega)) (fun t ht _ => ⟨⟨r_15, G_16, rfl, ⟨hB_G_16, hF, ⟨by omega, by omega⟩⟩, wd_t ht hW⟩, hS.F ht⟩) hS.2.2 dX2_passBracket_65
      · have c_14 : (G_9.1 3 3).toInt = 41 := xI_eq rfl rfl c_14
        refine lv_aload_n hx hb dX2_passBracket_47 rfl (lv_at hl 0 rfl) ?_
        refine S_getR (n := 3) (C := RX2) (T := TX2) (N := 3) hx hb hg iX2 hown hK hW kd_4 rfl 0 (by decide) (hg (Cond.fieldLink RX2 9 "SlabWalk$Formulas" "tokens" "LSlabWalk$Tokens;") m301) (fun _ h9 => h9) rfl dX2_passBracket_48 ?_
        refine S_calli (va_runV (As := []) (rest := []) ⟨hx, hb, hml, hown, hts⟩ (k_tAdvance l D k A a z G_9  ) (cwV 0 hts (gd_V hgd m854 m639 m640 m120 m641) rfl rfl rfl (by decide +kernel) ⟨show 6 + 1 ≤ fn + 7 from by omega, show 8 + (2 + 11) + (127) ≤ ln + 148 from by omega⟩) (pre_V hW hB_G_9 hK hZ hS kd_3 rfl) rfl rfl hl.1 rfl (lv_room (Nat.le_of_ble_eq_true rfl)) dX2_passBracket_51 ⟨Nat.le_of_ble_eq_true rfl, Nat.le_of_ble_eq_true rfl⟩) hS (fun r_20 G_21 H locs hpo hW hS => ?_)
        obtain ⟨hB_G_21, hq_22, f_24⟩ := hpo
        have hF := hF.call hq_22 (by decide) (by decide)
        refine lv_goto (tgt := 65) hx hb dX2_passBracket_54 (by decide) ?_
        exact W.zret (v := r_20) hx hb hr (nar_z (by omega) (by omega)) (fun t ht _ => ⟨⟨r_20, G_21, rfl, ⟨hB_G_21, hF, ⟨by omega, by omega⟩⟩, wd_t ht hW⟩, hS.F ht⟩) hS.2.2 dX2_passBracket_65
    · have c_13 : r_8.toInt = 0 := xI_eq rfl rfl c_13
      refine lv_iconst (v := 0) hx hb dX2_passBracket_33 (by decide) ?_
      exact W.zret (v := 0) hx hb hr (by decide) (fun t ht _ => ⟨⟨0, G_9, rfl, ⟨hB_G_9, hF, ⟨by decide, by decide⟩⟩, wd_t ht hW⟩, hS.F ht⟩) hS.2.2 dX2_passBracket_34
  · have c_1 : 6 < p0.toInt := xI_nle rfl rfl c_1
    refine lv_aload_n hx hb dX2_passBracket_6 rfl (lv_at hl 0 rfl) ?_
    refine S_getR (n := 3) (C := RX2) (T := TX2) (N := 3) hx hb hg iX2 hown hK hW kd_4 rfl 0 (by decide) (hg (Cond.fieldLink RX2 9 "SlabWalk$Formulas" "tokens" "LSlabWalk$Tokens;") m301) (fun _ h9 => h9) rfl dX2_passBracket_7 ?_
    refine lv_iconst (v := 2) hx hb dX2_passBracket_10 (by decide) ?_
    refine S_calli (va_runV (As := [.int 2]) (rest := []) ⟨hx, hb, hml, hown, hts⟩ (k_tRefuse l D k A a z G 2 ⟨by decide, by decide⟩) (cwV 1 hts (gd_V hgd m849 m779 m780 m120 m781) rfl rfl rfl (by decide +kernel) ⟨show 0 + 1 ≤ fn + 7 from by omega, show 8 + (2 + 11) + (0) ≤ ln + 148 from by omega⟩) (pre_V hW hB_G hK hZ hS kd_3 rfl) rfl rfl hl.1 rfl (lv_room (Nat.le_of_ble_eq_true rfl)) dX2_passBracket_11 ⟨Nat.le_of_ble_eq_true rfl, Nat.le_of_ble_eq_true rfl⟩) hS (fun r_25 G_26 H locs hpo hW hS => ?_)
    obtain ⟨hB_G_26, hq_27, f_29⟩ := hpo
    have hF := hF.call hq_27 (by decide) (by decide)
    exact W.zret (v := r_25) hx hb hr (nar_z (by omega) (by omega)) (fun t ht _ => ⟨⟨r_25, G_26, rfl, ⟨hB_G_26, hF, ⟨by omega, by omega⟩⟩, wd_t ht hW⟩, hS.F ht⟩) hS.2.2 dX2_passBracket_14

set_option maxHeartbeats 4000000 in
set_option maxRecDepth 100000 in
theorem k_fUnit_2_s (l : Launch) (D : va_G) (k : KT) (A : Nat → Prop) (a : Nat → Nat) (z : SK) (fn ln n : Nat) (hE : ∀ (G : GS) (p0 : Int32) (ha_p0 : 0 ≤ p0.toInt ∧ p0.toInt ≤ 7) (hv_4_1 : G.2.2 4 1 = 2) (hd : 7 ≤ p0.toInt + (n : Int)), Met l yX2_passEither (WS yX2_passEither cX2_passEither 3 (some .boolean)) ({ frames := fn + 2, cells := 0, slots := 0, locals := ln + 43 }) (va_Pc [.ref (a 4), .int p0] (cW D k A a z G)) (va_Qi (fun (r : Int32) (G1 : GS) => Bd G1 ∧ Fr [27] [(2, 12), (2, 13), (3, 2), (3, 3), (3, 4), (3, 5), (3, 6), (3, 7), (3, 8), (4, 2)] G G1 ∧ (0 ≤ r.toInt ∧ r.toInt ≤ 1)) (fun (G1 : GS) t => Wd D k A a G1 t.heap) A) 0 0 A) (hO : ∀ (G : GS) (p0 : Int32) (ha_p0 : 0 ≤ p0.toInt ∧ p0.toInt ≤ 7) (hv_4_1 : G.2.2 4 1 = 2) (hd : 7 ≤ p0.toInt + (n : Int)), Met l yX2_passOne (WS yX2_passOne cX2_passOne 2 (some .boolean)) ({ frames := fn + 0, cells := 0, slots := 0, locals := ln + 0 }) (va_Pc [.ref (a 4), .int p0] (cW D k A a z G)) (va_Qi (fun (r : Int32) (G1 : GS) => Bd G1 ∧ Fr [27] [(2, 12), (2, 13), (3, 2), (3, 3), (3, 4), (3, 5), (3, 6), (3, 7), (3, 8), (4, 2)] G G1 ∧ (0 ≤ r.toInt ∧ r.toInt ≤ 1)) (fun (G1 : GS) t => Wd D k A a G1 t.heap) A) 0 0 A) (G : GS) (p0 : Int32) (ha_p0 : 0 ≤ p0.toInt ∧ p0.toInt ≤ 7) (hv_4_1 : G.2.2 4 1 = 2) (hd : 7 ≤ p0.toInt + (n : Int) + 1) : Met l yX2_passUnit (WS yX2_passUnit cX2_passUnit 2 (some .boolean)) ({ frames := fn + 8, cells := 0, slots := 0, locals := ln + 169 }) (va_Pc [.ref (a 4), .int p0] (cW D k A a z G)) (va_Qi (fun (r : Int32) (G1 : GS) => Bd G1 ∧ Fr [27] [(2, 12), (2, 13), (3, 2), (3, 3), (3, 4), (3, 5), (3, 6), (3, 7), (3, 8), (4, 2)] G G1 ∧ (0 ≤ r.toInt ∧ r.toInt ≤ 1)) (fun (G1 : GS) t => Wd D k A a G1 t.heap) A) 0 0 A := by
  refine Met.ofW (cc := cX2_passUnit) (maxL := 2) (ret := (some .boolean)) (by decide) rfl ?_
  intro p e s m args below meth c s₁ B hml hv
  obtain ⟨rfl, hW, hB_G, hK, hZ⟩ := hv
  have hx := B.exec
  have hb := B.bytes
  have hr := B.returns
  have hts := atoms_spec (ws := WS yX2_passUnit cX2_passUnit 2 (some .boolean)) B.pre
  have hgd : ∀ w ∈ gd, w ∈ WS yX2_passUnit cX2_passUnit 2 (some .boolean) := fun w h => List.mem_cons_of_mem _ h
  have hg : ∀ w ∈ gd, w.before _ s = true := fun w h => hts w (hgd w h)
  have hown : s.vm.findClass RX2 = some m.cls := findClass_of_methodNamed B.named
  have hS : va_S A s.heap s.heap [] := va_S.rf
  have hF : Fr [27] [(2, 12), (2, 13), (3, 2), (3, 3), (3, 4), (3, 5), (3, 6), (3, 7), (3, 8), (4, 2)] G G := Fr.rf
  have hl := lv_entry ([.ref (a 4), .int p0]) (n := 2) (Nat.le_of_ble_eq_true rfl)
  rw [lg_entry_eq]
  generalize (lg_sl ([.ref (a 4), .int p0]) ++ List.replicate (2 - (lg_sl ([.ref (a 4), .int p0])).length) Slot.unset).toArray = ls at hl ⊢
  have hl : lv_has ls 2 [(0, .ref (a 4)), (1, .int p0)] := hl
  refine lv_aload_n hx hb dX2_passUnit_0 rfl (lv_at hl 0 rfl) ?_
  have b_1 : 0 ≤ (G.1 4 2).toInt ∧ (G.1 4 2).toInt ≤ 30 := hB_G.i 4 2 rfl rfl
  refine S_getI (v := (G.1 4 2)) (C := RX2) (T := TX2) (N := 3) hx hb hg iX2 hown hK hW kd_4 rfl 2 (by decide) (hg (Cond.fieldLink RX2 19 "SlabWalk$Formulas" "units" "I") m303) (fun _ h9 => h9) rfl rfl dX2_passUnit_1 ?_
  refine lv_bipush (v := 30) hx hb dX2_passUnit_4 (by decide) ?_
  refine lv_icmp_ge (tgt := 21) hx hb dX2_passUnit_6 (by decide) (fun c_2 => ?_) (fun c_2 => ?_)
  · have c_2 : 30 ≤ (G.1 4 2).toInt := xI_le rfl rfl c_2
    refine lv_aload_n hx hb dX2_passUnit_21 rfl (lv_at hl 0 rfl) ?_
    refine S_getR (n := 3) (C := RX2) (T := TX2) (N := 3) hx hb hg iX2 hown hK hW kd_4 rfl 0 (by decide) (hg (Cond.fieldLink RX2 9 "SlabWalk$Formulas" "tokens" "LSlabWalk$Tokens;") m301) (fun _ h9 => h9) rfl dX2_passUnit_22 ?_
    refine lv_iconst (v := 2) hx hb dX2_passUnit_25 (by decide) ?_
    refine S_calli (va_runV (As := [.int 2]) (rest := []) ⟨hx, hb, hml, hown, hts⟩ (k_tRefuse l D k A a z G 2 ⟨by decide, by decide⟩) (cwV 1 hts (gd_V hgd m849 m779 m780 m120 m781) rfl rfl rfl (by decide +kernel) ⟨show 0 + 1 ≤ fn + 8 from by omega, show 8 + (2 + 11) + (0) ≤ ln + 169 from by omega⟩) (pre_V hW hB_G hK hZ hS kd_3 rfl) rfl rfl hl.1 rfl (lv_room (Nat.le_of_ble_eq_true rfl)) dX2_passUnit_26 ⟨Nat.le_of_ble_eq_true rfl, Nat.le_of_ble_eq_true rfl⟩) hS (fun r_3 G_4 H locs hpo hW hS => ?_)
    obtain ⟨hB_G_4, hq_5, f_7⟩ := hpo
    have hF := hF.call hq_5 (by decide) (by decide)
    exact W.zret (v := r_3) hx hb hr (nar_z (by omega) (by omega)) (fun t ht _ => ⟨⟨r_3, G_4, rfl, ⟨hB_G_4, hF, ⟨by omega, by omega⟩⟩, wd_t ht hW⟩, hS.F ht⟩) hS.2.2 dX2_passUnit_29
  · have c_2 : (G.1 4 2).toInt < 30 := xI_nle rfl rfl c_2
    refine lv_aload_n hx hb dX2_passUnit_9 rfl (lv_at hl 0 rfl) ?_
    refine S_getV (n := 2) (C := RX2) (T := TX2) (N := 3) hx hb hg iX2 hown hK hW kd_4 rfl 1 (by decide) (hg (Cond.fieldLink RX2 15 "SlabWalk$Formulas" "paving" "LSlabWalk$Paving;") m302) (fun _ h9 => h9) rfl hv_4_1 dX2_passUnit_10 ?_
    have b_8 : 0 ≤ (G.1 2 12).toInt ∧ (G.1 2 12).toInt ≤ 90 := hB_G.i 2 12 rfl rfl
    refine S_getI (v := (G.1 2 12)) (C := RX6) (T := TX6) (N := 17) hx hb hg iX6 hown hK hW kd_2 rfl 12 (by decide) (hg (Cond.fieldLink RX2 66 "SlabWalk$Paving" "units" "I") m197) (fun _ h9 => h9) rfl rfl dX2_passUnit_13 ?_
    refine lv_bipush (v := 90) hx hb dX2_passUnit_16 (by decide) ?_
    refine lv_icmp_lt (tgt := 30) hx hb dX2_passUnit_18 (by decide) (fun c_9 => ?_) (fun c_9 => ?_)
    · have c_9 : (G.1 2 12).toInt < 90 := xI_lt rfl rfl c_9
      refine lv_aload_n hx hb dX2_passUnit_30 rfl (lv_at hl 0 rfl) ?_
      refine lv_dup hx hb dX2_passUnit_31 rfl ?_
      refine S_getI (v := (G.1 4 2)) (C := RX2) (T := TX2) (N := 3) hx hb hg iX2 hown hK hW kd_4 rfl 2 (by decide) (hg (Cond.fieldLink RX2 19 "SlabWalk$Formulas" "units" "I") m303) (fun _ h9 => h9) rfl rfl dX2_passUnit_32 ?_
      refine lv_iconst (v := 1) hx hb dX2_passUnit_35 (by decide) ?_
      refine lv_iadd hx hb dX2_passUnit_36 ?_
      refine lv_topi (fun y_10 ey_10 => ?_)
      have ty_10 : y_10.toInt = (G.1 4 2).toInt + 1 := xI_add rfl rfl ey_10 (by omega) (by omega)
      refine S_putI (ty := .int) (C := RX2) (T := TX2) (N := 3) hx hb hg iX2 tyX2 tyX2_ok nmX2 hown hK hW hS kd_4 rfl 2 (by decide) (hg (Cond.fieldLink RX2 19 "SlabWalk$Formulas" "units" "I") m303) (fun _ h9 => h9) rfl (by decide +kernel) rfl rfl rfl dX2_passUnit_37 (fun G_11 H locs eG_11 hW hS => ?_)
      have hB_G_11 : Bd G_11 := hB_G.put (V := y_10.toInt) (lo := 0) (hi := 30) eG_11 rfl rfl rfl (by omega) (by omega) (hB_G.2.put eG_11 rfl)
      have hF := hF.put eG_11 (Or.inr (by decide))
      refine lv_aload_n hx hb dX2_passUnit_40 rfl (lv_at hl 0 rfl) ?_
      refine S_getV (n := 2) (C := RX2) (T := TX2) (N := 3) hx hb hg iX2 hown hK hW kd_4 rfl 1 (by decide) (hg (Cond.fieldLink RX2 15 "SlabWalk$Formulas" "paving" "LSlabWalk$Paving;") m302) (fun _ h9 => h9) rfl (((congrFun (congrFun (congrArg (fun q => q.2.2) eG_11) 4) 1)).trans (hv_4_1)) dX2_passUnit_41 ?_
      refine lv_dup hx hb dX2_passUnit_44 rfl ?_
      refine S_getI (v := (G.1 2 12)) (C := RX6) (T := TX6) (N := 17) hx hb hg iX6 hown hK hW kd_2 rfl 12 (by decide) (hg (Cond.fieldLink RX2 66 "SlabWalk$Paving" "units" "I") m197) (fun _ h9 => h9) rfl ((gp_ne eG_11 (by decide)).trans (rfl)) dX2_passUnit_45 ?_
      refine lv_iconst (v := 1) hx hb dX2_passUnit_48 (by decide) ?_
      refine lv_iadd hx hb dX2_passUnit_49 ?_
      refine lv_topi (fun y_12 ey_12 => ?_)
      have ty_12 : y_12.toInt = (G.1 2 12).toInt + 1 := xI_add rfl rfl ey_12 (by omega) (by omega)
      refine S_putI (ty := .int) (C := RX6) (T := TX6) (N := 17) hx hb hg iX6 tyX6 tyX6_ok nmX6 hown hK hW hS kd_2 rfl 12 (by decide) (hg (Cond.fieldLink RX2 66 "SlabWalk$Paving" "units" "I") m197) (fun _ h9 => h9) rfl (by decide +kernel) rfl rfl rfl dX2_passUnit_50 (fun G_13 H locs eG_13 hW hS => ?_)
      have hB_G_13 : Bd G_13 := hB_G_11.put (V := y_12.toInt) (lo := 0) (hi := 90) eG_13 rfl rfl rfl (by omega) (by omega) (hB_G_11.2.put eG_13 rfl)
      have hF := hF.put eG_13 (Or.inr (by decide))
      refine lv_aload_n hx hb dX2_passUnit_53 rfl (lv_at hl 0 rfl) ?_
      refine S_getR (n := 3) (C := RX2) (T := TX2) (N := 3) hx hb hg iX2 hown hK hW kd_4 rfl 0 (by decide) (hg (Cond.fieldLink RX2 9 "SlabWalk$Formulas" "tokens" "LSlabWalk$Tokens;") m301) (fun _ h9 => h9) rfl dX2_passUnit_54 ?_
      refine S_getI (v := (G.1 3 3)) (C := RX9) (T := TX9) (N := 9) hx hb hg iX9 hown hK hW kd_3 rfl 3 (by decide) (hg (Cond.fieldLink RX2 30 "SlabWalk$Tokens" "kind" "I") m263) (fun _ h9 => h9) rfl ((gp_ne eG_13 (by decide)).trans (gp_ne eG_11 (by decide))) dX2_passUnit_57 ?_
      by_cases c_14 : (G.1 3 3) = 40
      · refine lv_lookup (tgt := 160) hx hb dX2_passUnit_60 (by decide) (off := 100) (by rw [c_14]; decide) (by decide) ?_
        have c_14 : (G.1 3 3).toInt = 40 := xI_eq rfl rfl c_14
        refine lv_aload_n hx hb dX2_passUnit_160 rfl (lv_at hl 0 rfl) ?_
        refine lv_iload_n hx hb dX2_passUnit_161 rfl (lv_at hl 1 rfl) ?_
        refine S_calli (va_runV (As := [.int p0]) (rest := []) ⟨hx, hb, hml, hown, hts⟩ (k_fBracket_2_s l D k A a z fn ln n hE hO G_13 p0 ⟨by omega, by omega⟩ ((((congrFun (congrFun (congrArg (fun q => q.2.2) eG_13) 4) 1).trans (congrFun (congrFun (congrArg (fun q => q.2.2) eG_11) 4) 1))).trans (hv_4_1)) (by omega)) (cwV 1 hts (gd_V hgd m850 m852 m23 m121 m853) rfl rfl rfl (by decide +kernel) ⟨show fn + 7 + 1 ≤ fn + 8 from by omega, show 8 + (2 + 11) + (ln + 148) ≤ ln + 169 from by omega⟩) (pre_V hW hB_G_13 hK hZ hS kd_4 rfl) rfl rfl hl.1 rfl (lv_room (Nat.le_of_ble_eq_true rfl)) dX2_passUnit_162 ⟨Nat.le_of_ble_eq_true rfl, Nat.le_of_ble_eq_true rfl⟩) hS (fun r_15 G_16 H locs hpo hW hS => ?_)
        obtain ⟨hB_G_16, hq_17, f_19⟩ := hpo
        have hF := hF.call hq_17 (by decide) (by decide)
        exact W.zret (v := r_15) hx hb hr (nar_z (by omega) (by omega)) (fun t ht _ => ⟨⟨r_15, G_16, rfl, ⟨hB_G_16, hF, ⟨by omega, by omega⟩⟩, wd_t ht hW⟩, hS.F ht⟩) hS.2.2 dX2_passUnit_165
      by_cases c_20 : (G.1 3 3) = 139
      · refine lv_lookup (tgt := 191) hx hb dX2_passUnit_60 (by decide) (off := 131) (by rw [c_20]; decide) (by decide) ?_
        have c_20 : (G.1 3 3).toInt = 139 := xI_eq rfl rfl c_20
        refine lv_aload_n hx hb dX2_passUnit_191 rfl (lv_at hl 0 rfl) ?_
        refine S_getV (n := 2) (C := RX2) (T := TX2) (N := 3) hx hb hg iX2 hown hK hW kd_4 rfl 1 (by decide) (hg (Cond.fieldLink RX2 15 "SlabWalk$Formulas" "paving" "LSlabWalk$Paving;") m302) (fun _ h9 => h9) rfl ((((congrFun (congrFun (congrArg (fun q => q.2.2) eG_13) 4) 1).trans (congrFun (congrFun (congrArg (fun q => q.2.2) eG_11) 4) 1))).trans (hv_4_1)) dX2_passUnit_192 ?_
        refine lv_aload_n hx hb dX2_passUnit_195 rfl (lv_at hl 0 rfl) ?_
        refine S_getR (n := 3) (C := RX2) (T := TX2) (N := 3) hx hb hg iX2 hown hK hW kd_4 rfl 0 (by decide) (hg (Cond.fieldLink RX2 9 "SlabWalk$Formulas" "tokens" "LSlabWalk$Tokens;") m301) (fun _ h9 => h9) rfl dX2_passUnit_196 ?_
        refine S_getI (v := (G.1 3 3)) (C := RX9) (T := TX9) (N := 9) hx hb hg iX9 hown hK hW kd_3 rfl 3 (by decide) (hg (Cond.fieldLink RX2 30 "SlabWalk$Tokens" "kind" "I") m263) (fun _ h9 => h9) rfl ((gp_ne eG_13 (by decide)).trans ((gp_ne eG_11 (by decide)).trans (rfl))) dX2_passUnit_199 ?_
        refine lv_iconst (v := 0) hx hb dX2_passUnit_202 (by decide) ?_
        refine S_callv (va_runV (As := [.int (G.1 3 3), .int 0]) (rest := []) ⟨hx, hb, hml, hown, hts⟩ (k_emit_2 l D k A a z G_13 (G.1 3 3) 0 ) (cwV 2 hts (gd_V hgd m855 m856 m857 m118 m858) rfl rfl rfl (by decide +kernel) ⟨show 0 + 1 ≤ fn + 8 from by omega, show 8 + (3 + 11) + (0) ≤ ln + 169 from by omega⟩) (pre_V hW hB_G_13 hK hZ hS kd_2 rfl) rfl rfl hl.1 rfl (lv_room (Nat.le_of_ble_eq_true rfl)) dX2_passUnit_203 ⟨Nat.le_of_ble_eq_true rfl, Nat.le_of_ble_eq_true rfl⟩) hS (fun G_22 H locs hpo hW hS => ?_)
        obtain ⟨hB_G_22, hq_23⟩ := hpo
        have hF := hF.call hq_23 (by decide) (by decide)
        refine lv_aload_n hx hb dX2_passUnit_206 rfl (lv_at hl 0 rfl) ?_
        refine S_getR (n := 3) (C := RX2) (T := TX2) (N := 3) hx hb hg iX2 hown hK hW kd_4 rfl 0 (by decide) (hg (Cond.fieldLink RX2 9 "SlabWalk$Formulas" "tokens" "LSlabWalk$Tokens;") m301) (fun _ h9 => h9) rfl dX2_passUnit_207 ?_
        refine S_calli (va_runV (As := []) (rest := []) ⟨hx, hb, hml, hown, hts⟩ (k_tAdvance l D k A a z G_22  ) (cwV 0 hts (gd_V hgd m854 m639 m640 m120 m641) rfl rfl rfl (by decide +kernel) ⟨show 6 + 1 ≤ fn + 8 from by omega, show 8 + (2 + 11) + (127) ≤ ln + 169 from by omega⟩) (pre_V hW hB_G_22 hK hZ hS kd_3 rfl) rfl rfl hl.1 rfl (lv_room (Nat.le_of_ble_eq_true rfl)) dX2_passUnit_210 ⟨Nat.le_of_ble_eq_true rfl, Nat.le_of_ble_eq_true rfl⟩) hS (fun r_25 G_26 H locs hpo hW hS => ?_)
        obtain ⟨hB_G_26, hq_27, f_29⟩ := hpo
        have hF := hF.call hq_27 (by decide) (by decide)
        exact W.zret (v := r_25) hx hb hr (nar_z (by omega) (by omega)) (fun t ht _ => ⟨⟨r_25, G_26, rfl, ⟨hB_G_26, hF, ⟨by omega, by omega⟩⟩, wd_t ht hW⟩, hS.F ht⟩) hS.2.2 dX2_passUnit_213
      by_cases c_30 : (G.1 3 3) = 140
      · refine lv_lookup (tgt := 191) hx hb dX2_passUnit_60 (by decide) (off := 131) (by rw [c_30]; decide) (by decide) ?_
        have c_30 : (G.1 3 3).toInt = 140 := xI_eq rfl rfl c_30
        refine lv_aload_n hx hb dX2_passUnit_191 rfl (lv_at hl 0 rfl) ?_
        refine S_getV (n := 2) (C := RX2) (T := TX2) (N := 3) hx hb hg iX2 hown hK hW kd_4 rfl 1 (by decide) (hg (Cond.fieldLink RX2 15 "SlabWalk$Formulas" "paving" "LSlabWalk$Paving;") m302) (fun _ h9 => h9) rfl ((((congrFun (congrFun (congrArg (fun q => q.2.2) eG_13) 4) 1).trans (congrFun (congrFun (congrArg (fun q => q.2.2) eG_11) 4) 1))).trans (hv_4_1)) dX2_passUnit_192 ?_
        refine lv_aload_n hx hb dX2_passUnit_195 rfl (lv_at hl 0 rfl) ?_
        refine S_getR (n := 3) (C := RX2) (T := TX2) (N := 3) hx hb hg iX2 hown hK hW kd_4 rfl 0 (by decide) (hg (Cond.fieldLink RX2 9 "SlabWalk$Formulas" "tokens" "LSlabWalk$Tokens;") m301) (fun _ h9 => h9) rfl dX2_passUnit_196 ?_
        refine S_getI (v := (G.1 3 3)) (C := RX9) (T := TX9) (N := 9) hx hb hg iX9 hown hK hW kd_3 rfl 3 (by decide) (hg (Cond.fieldLink RX2 30 "SlabWalk$Tokens" "kind" "I") m263) (fun _ h9 => h9) rfl ((gp_ne eG_13 (by decide)).trans ((gp_ne eG_11 (by decide)).trans (rfl))) dX2_passUnit_199 ?_
        refine lv_iconst (v := 0) hx hb dX2_passUnit_202 (by decide) ?_
        refine S_callv (va_runV (As := [.int (G.1 3 3), .int 0]) (rest := []) ⟨hx, hb, hml, hown, hts⟩ (k_emit_2 l D k A a z G_13 (G.1 3 3) 0 ) (cwV 2 hts (gd_V hgd m855 m856 m857 m118 m858) rfl rfl rfl (by decide +kernel) ⟨show 0 + 1 ≤ fn + 8 from by omega, show 8 + (3 + 11) + (0) ≤ ln + 169 from by omega⟩) (pre_V hW hB_G_13 hK hZ hS kd_2 rfl) rfl rfl hl.1 rfl (lv_room (Nat.le_of_ble_eq_true rfl)) dX2_passUnit_203 ⟨Nat.le_of_ble_eq_true rfl, Nat.le_of_ble_eq_true rfl⟩) hS (fun G_32 H locs hpo hW hS => ?_)
        obtain ⟨hB_G_32, hq_33⟩ := hpo
        have hF := hF.call hq_33 (by decide) (by decide)
        refine lv_aload_n hx hb dX2_passUnit_206 rfl (lv_at hl 0 rfl) ?_
        refine S_getR (n := 3) (C := RX2) (T := TX2) (N := 3) hx hb hg iX2 hown hK hW kd_4 rfl 0 (by decide) (hg (Cond.fieldLink RX2 9 "SlabWalk$Formulas" "tokens" "LSlabWalk$Tokens;") m301) (fun _ h9 => h9) rfl dX2_passUnit_207 ?_
        refine S_calli (va_runV (As := []) (rest := []) ⟨hx, hb, hml, hown, hts⟩ (k_tAdvance l D k A a z G_32  ) (cwV 0 hts (gd_V hgd m854 m639 m640 m120 m641) rfl rfl rfl (by decide +kernel) ⟨show 6 + 1 ≤ fn + 8 from by omega, show 8 + (2 + 11) + (127) ≤ ln + 169 from by omega⟩) (pre_V hW hB_G_32 hK hZ hS kd_3 rfl) rfl rfl hl.1 rfl (lv_room (Nat.le_of_ble_eq_true rfl)) dX2_passUnit_210 ⟨Nat.le_of_ble_eq_true rfl, Nat.le_of_ble_eq_true rfl⟩) hS (fun r_35 G_36 H locs hpo hW hS => ?_)
        obtain ⟨hB_G_36, hq_37, f_39⟩ := hpo
        have hF := hF.call hq_37 (by decide) (by decide)
        exact W.zret (v := r_35) hx hb hr (nar_z (by omega) (by omega)) (fun t ht _ => ⟨⟨r_35, G_36, rfl, ⟨hB_G_36, hF, ⟨by omega, by omega⟩⟩, wd_t ht hW⟩, hS.F ht⟩) hS.2.2 dX2_passUnit_213
      by_cases c_40 : (G.1 3 3) = 141
      · refine lv_lookup (tgt := 191) hx hb dX2_passUnit_60 (by decide) (off := 131) (by rw [c_40]; decide) (by decide) ?_
        have c_40 : (G.1 3 3).toInt = 141 := xI_eq rfl rfl c_40
        refine lv_aload_n hx hb dX2_passUnit_191 rfl (lv_at hl 0 rfl) ?_
        refine S_getV (n := 2) (C := RX2) (T := TX2) (N := 3) hx hb hg iX2 hown hK hW kd_4 rfl 1 (by decide) (hg (Cond.fieldLink RX2 15 "SlabWalk$Formulas" "paving" "LSlabWalk$Paving;") m302) (fun _ h9 => h9) rfl ((((congrFun (congrFun (congrArg (fun q => q.2.2) eG_13) 4) 1).trans (congrFun (congrFun (congrArg (fun q => q.2.2) eG_11) 4) 1))).trans (hv_4_1)) dX2_passUnit_192 ?_
        refine lv_aload_n hx hb dX2_passUnit_195 rfl (lv_at hl 0 rfl) ?_
        refine S_getR (n := 3) (C := RX2) (T := TX2) (N := 3) hx hb hg iX2 hown hK hW kd_4 rfl 0 (by decide) (hg (Cond.fieldLink RX2 9 "SlabWalk$Formulas" "tokens" "LSlabWalk$Tokens;") m301) (fun _ h9 => h9) rfl dX2_passUnit_196 ?_
        refine S_getI (v := (G.1 3 3)) (C := RX9) (T := TX9) (N := 9) hx hb hg iX9 hown hK hW kd_3 rfl 3 (by decide) (hg (Cond.fieldLink RX2 30 "SlabWalk$Tokens" "kind" "I") m263) (fun _ h9 => h9) rfl ((gp_ne eG_13 (by decide)).trans ((gp_ne eG_11 (by decide)).trans (rfl))) dX2_passUnit_199 ?_
        refine lv_iconst (v := 0) hx hb dX2_passUnit_202 (by decide) ?_
        refine S_callv (va_runV (As := [.int (G.1 3 3), .int 0]) (rest := []) ⟨hx, hb, hml, hown, hts⟩ (k_emit_2 l D k A a z G_13 (G.1 3 3) 0 ) (cwV 2 hts (gd_V hgd m855 m856 m857 m118 m858) rfl rfl rfl (by decide +kernel) ⟨show 0 + 1 ≤ fn + 8 from by omega, show 8 + (3 + 11) + (0) ≤ ln + 169 from by omega⟩) (pre_V hW hB_G_13 hK hZ hS kd_2 rfl) rfl rfl hl.1 rfl (lv_room (Nat.le_of_ble_eq_true rfl)) dX2_passUnit_203 ⟨Nat.le_of_ble_eq_true rfl, Nat.le_of_ble_eq_true rfl⟩) hS (fun G_42 H locs hpo hW hS => ?_)
        obtain ⟨hB_G_42, hq_43⟩ := hpo
        have hF := hF.call hq_43 (by decide) (by decide)
        refine lv_aload_n hx hb dX2_passUnit_206 rfl (lv_at hl 0 rfl) ?_
        refine S_getR (n := 3) (C := RX2) (T := TX2) (N := 3) hx hb hg iX2 hown hK hW kd_4 rfl 0 (by decide) (hg (Cond.fieldLink RX2 9 "SlabWalk$Formulas" "tokens" "LSlabWalk$Tokens;") m301) (fun _ h9 => h9) rfl dX2_passUnit_207 ?_
        refine S_calli (va_runV (As := []) (rest := []) ⟨hx, hb, hml, hown, hts⟩ (k_tAdvance l D k A a z G_42  ) (cwV 0 hts (gd_V hgd m854 m639 m640 m120 m641) rfl rfl rfl (by decide +kernel) ⟨show 6 + 1 ≤ fn + 8 from by omega, show 8 + (2 + 11) + (127) ≤ ln + 169 from by omega⟩) (pre_V hW hB_G_42 hK hZ hS kd_3 rfl) rfl rfl hl.1 rfl (lv_room (Nat.le_of_ble_eq_true rfl)) dX2_passUnit_210 ⟨Nat.le_of_ble_eq_true rfl, Nat.le_of_ble_eq_true rfl⟩) hS (fun r_45 G_46 H locs hpo hW hS => ?_)
        obtain ⟨hB_G_46, hq_47, f_49⟩ := hpo
        have hF := hF.call hq_47 (by decide) (by decide)
        exact W.zret (v := r_45) hx hb hr (nar_z (by omega) (by omega)) (fun t ht _ => ⟨⟨r_45, G_46, rfl, ⟨hB_G_46, hF, ⟨by omega, by omega⟩⟩, wd_t ht hW⟩, hS.F ht⟩) hS.2.2 dX2_passUnit_213
      by_cases c_50 : (G.1 3 3) = 142
      · refine lv_lookup (tgt := 191) hx hb dX2_passUnit_60 (by decide) (off := 131) (by rw [c_50]; decide) (by decide) ?_
        have c_50 : (G.1 3 3).toInt = 142 := xI_eq rfl rfl c_50
        refine lv_aload_n hx hb dX2_passUnit_191 rfl (lv_at hl 0 rfl) ?_
        refine S_getV (n := 2) (C := RX2) (T := TX2) (N := 3) hx hb hg iX2 hown hK hW kd_4 rfl 1 (by decide) (hg (Cond.fieldLink RX2 15 "SlabWalk$Formulas" "paving" "LSlabWalk$Paving;") m302) (fun _ h9 => h9) rfl ((((congrFun (congrFun (congrArg (fun q => q.2.2) eG_13) 4) 1).trans (congrFun (congrFun (congrArg (fun q => q.2.2) eG_11) 4) 1))).trans (hv_4_1)) dX2_passUnit_192 ?_
        refine lv_aload_n hx hb dX2_passUnit_195 rfl (lv_at hl 0 rfl) ?_
        refine S_getR (n := 3) (C := RX2) (T := TX2) (N := 3) hx hb hg iX2 hown hK hW kd_4 rfl 0 (by decide) (hg (Cond.fieldLink RX2 9 "SlabWalk$Formulas" "tokens" "LSlabWalk$Tokens;") m301) (fun _ h9 => h9) rfl dX2_passUnit_196 ?_
        refine S_getI (v := (G.1 3 3)) (C := RX9) (T := TX9) (N := 9) hx hb hg iX9 hown hK hW kd_3 rfl 3 (by decide) (hg (Cond.fieldLink RX2 30 "SlabWalk$Tokens" "kind" "I") m263) (fun _ h9 => h9) rfl ((gp_ne eG_13 (by decide)).trans ((gp_ne eG_11 (by decide)).trans (rfl))) dX2_passUnit_199 ?_
        refine lv_iconst (v := 0) hx hb dX2_passUnit_202 (by decide) ?_
        refine S_callv (va_runV (As := [.int (G.1 3 3), .int 0]) (rest := []) ⟨hx, hb, hml, hown, hts⟩ (k_emit_2 l D k A a z G_13 (G.1 3 3) 0 ) (cwV 2 hts (gd_V hgd m855 m856 m857 m118 m858) rfl rfl rfl (by decide +kernel) ⟨show 0 + 1 ≤ fn + 8 from by omega, show 8 + (3 + 11) + (0) ≤ ln + 169 from by omega⟩) (pre_V hW hB_G_13 hK hZ hS kd_2 rfl) rfl rfl hl.1 rfl (lv_room (Nat.le_of_ble_eq_true rfl)) dX2_passUnit_203 ⟨Nat.le_of_ble_eq_true rfl, Nat.le_of_ble_eq_true rfl⟩) hS (fun G_52 H locs hpo hW hS => ?_)
        obtain ⟨hB_G_52, hq_53⟩ := hpo
        have hF := hF.call hq_53 (by decide) (by decide)
        refine lv_aload_n hx hb dX2_passUnit_206 rfl (lv_at hl 0 rfl) ?_
        refine S_getR (n := 3) (C := RX2) (T := TX2) (N := 3) hx hb hg iX2 hown hK hW kd_4 rfl 0 (by decide) (hg (Cond.fieldLink RX2 9 "SlabWalk$Formulas" "tokens" "LSlabWalk$Tokens;") m301) (fun _ h9 => h9) rfl dX2_passUnit_207 ?_
        refine S_calli (va_runV (As := []) (rest := []) ⟨hx, hb, hml, hown, hts⟩ (k_tAdvance l D k A a z G_52  ) (cwV 0 hts (gd_V hgd m854 m639 m640 m120 m641) rfl rfl rfl (by decide +kernel) ⟨show 6 + 1 ≤ fn + 8 from by omega, show 8 + (2 + 11) + (127) ≤ ln + 169 from by omega⟩) (pre_V hW hB_G_52 hK hZ hS kd_3 rfl) rfl rfl hl.1 rfl (lv_room (Nat.le_of_ble_eq_true rfl)) dX2_passUnit_210 ⟨Nat.le_of_ble_eq_true rfl, Nat.le_of_ble_eq_true rfl⟩) hS (fun r_55 G_56 H locs hpo hW hS => ?_)
        obtain ⟨hB_G_56, hq_57, f_59⟩ := hpo
        have hF := hF.call hq_57 (by decide) (by decide)
        exact W.zret (v := r_55) hx hb hr (nar_z (by omega) (by omega)) (fun t ht _ => ⟨⟨r_55, G_56, rfl, ⟨hB_G_56, hF, ⟨by omega, by omega⟩⟩, wd_t ht hW⟩, hS.F ht⟩) hS.2.2 dX2_passUnit_213
      by_cases c_60 : (G.1 3 3) = 143
      · refine lv_lookup (tgt := 191) hx hb dX2_passUnit_60 (by decide) (off := 131) (by rw [c_60]; decide) (by decide) ?_
        have c_60 : (G.1 3 3).toInt = 143 := xI_eq rfl rfl c_60
        refine lv_aload_n hx hb dX2_passUnit_191 rfl (lv_at hl 0 rfl) ?_
        refine S_getV (n := 2) (C := RX2) (T := TX2) (N := 3) hx hb hg iX2 hown hK hW kd_4 rfl 1 (by decide) (hg (Cond.fieldLink RX2 15 "SlabWalk$Formulas" "paving" "LSlabWalk$Paving;") m302) (fun _ h9 => h9) rfl ((((congrFun (congrFun (congrArg (fun q => q.2.2) eG_13) 4) 1).trans (congrFun (congrFun (congrArg (fun q => q.2.2) eG_11) 4) 1))).trans (hv_4_1)) dX2_passUnit_192 ?_
        refine lv_aload_n hx hb dX2_passUnit_195 rfl (lv_at hl 0 rfl) ?_
        refine S_getR (n := 3) (C := RX2) (T := TX2) (N := 3) hx hb hg iX2 hown hK hW kd_4 rfl 0 (by decide) (hg (Cond.fieldLink RX2 9 "SlabWalk$Formulas" "tokens" "LSlabWalk$Tokens;") m301) (fun _ h9 => h9) rfl dX2_passUnit_196 ?_
        refine S_getI (v := (G.1 3 3)) (C := RX9) (T := TX9) (N := 9) hx hb hg iX9 hown hK hW kd_3 rfl 3 (by decide) (hg (Cond.fieldLink RX2 30 "SlabWalk$Tokens" "kind" "I") m263) (fun _ h9 => h9) rfl ((gp_ne eG_13 (by decide)).trans ((gp_ne eG_11 (by decide)).trans (rfl))) dX2_passUnit_199 ?_
        refine lv_iconst (v := 0) hx hb dX2_passUnit_202 (by decide) ?_
        refine S_callv (va_runV (As := [.int (G.1 3 3), .int 0]) (rest := []) ⟨hx, hb, hml, hown, hts⟩ (k_emit_2 l D k A a z G_13 (G.1 3 3) 0 ) (cwV 2 hts (gd_V hgd m855 m856 m857 m118 m858) rfl rfl rfl (by decide +kernel) ⟨show 0 + 1 ≤ fn + 8 from by omega, show 8 + (3 + 11) + (0) ≤ ln + 169 from by omega⟩) (pre_V hW hB_G_13 hK hZ hS kd_2 rfl) rfl rfl hl.1 rfl (lv_room (Nat.le_of_ble_eq_true rfl)) dX2_passUnit_203 ⟨Nat.le_of_ble_eq_true rfl, Nat.le_of_ble_eq_true rfl⟩) hS (fun G_62 H locs hpo hW hS => ?_)
        obtain ⟨hB_G_62, hq_63⟩ := hpo
        have hF := hF.call hq_63 (by decide) (by decide)
        refine lv_aload_n hx hb dX2_passUnit_206 rfl (lv_at hl 0 rfl) ?_
        refine S_getR (n := 3) (C := RX2) (T := TX2) (N := 3) hx hb hg iX2 hown hK hW kd_4 rfl 0 (by decide) (hg (Cond.fieldLink RX2 9 "SlabWalk$Formulas" "tokens" "LSlabWalk$Tokens;") m301) (fun _ h9 => h9) rfl dX2_passUnit_207 ?_
        refine S_calli (va_runV (As := []) (rest := []) ⟨hx, hb, hml, hown, hts⟩ (k_tAdvance l D k A a z G_62  ) (cwV 0 hts (gd_V hgd m854 m639 m640 m120 m641) rfl rfl rfl (by decide +kernel) ⟨show 6 + 1 ≤ fn + 8 from by omega, show 8 + (2 + 11) + (127) ≤ ln + 169 from by omega⟩) (pre_V hW hB_G_62 hK hZ hS kd_3 rfl) rfl rfl hl.1 rfl (lv_room (Nat.le_of_ble_eq_true rfl)) dX2_passUnit_210 ⟨Nat.le_of_ble_eq_true rfl, Nat.le_of_ble_eq_true rfl⟩) hS (fun r_65 G_66 H locs hpo hW hS => ?_)
        obtain ⟨hB_G_66, hq_67, f_69⟩ := hpo
        have hF := hF.call hq_67 (by decide) (by decide)
        exact W.zret (v := r_65) hx hb hr (nar_z (by omega) (by omega)) (fun t ht _ => ⟨⟨r_65, G_66, rfl, ⟨hB_G_66, hF, ⟨by omega, by omega⟩⟩, wd_t ht hW⟩, hS.F ht⟩) hS.2.2 dX2_passUnit_213
      by_cases c_70 : (G.1 3 3) = 147
      · refine lv_lookup (tgt := 191) hx hb dX2_passUnit_60 (by decide) (off := 131) (by rw [c_70]; decide) (by decide) ?_
        have c_70 : (G.1 3 3).toInt = 147 := xI_eq rfl rfl c_70
        refine lv_aload_n hx hb dX2_passUnit_191 rfl (lv_at hl 0 rfl) ?_
        refine S_getV (n := 2) (C := RX2) (T := TX2) (N := 3) hx hb hg iX2 hown hK hW kd_4 rfl 1 (by decide) (hg (Cond.fieldLink RX2 15 "SlabWalk$Formulas" "paving" "LSlabWalk$Paving;") m302) (fun _ h9 => h9) rfl ((((congrFun (congrFun (congrArg (fun q => q.2.2) eG_13) 4) 1).trans (congrFun (congrFun (congrArg (fun q => q.2.2) eG_11) 4) 1))).trans (hv_4_1)) dX2_passUnit_192 ?_
        refine lv_aload_n hx hb dX2_passUnit_195 rfl (lv_at hl 0 rfl) ?_
        refine S_getR (n := 3) (C := RX2) (T := TX2) (N := 3) hx hb hg iX2 hown hK hW kd_4 rfl 0 (by decide) (hg (Cond.fieldLink RX2 9 "SlabWalk$Formulas" "tokens" "LSlabWalk$Tokens;") m301) (fun _ h9 => h9) rfl dX2_passUnit_196 ?_
        refine S_getI (v := (G.1 3 3)) (C := RX9) (T := TX9) (N := 9) hx hb hg iX9 hown hK hW kd_3 rfl 3 (by decide) (hg (Cond.fieldLink RX2 30 "SlabWalk$Tokens" "kind" "I") m263) (fun _ h9 => h9) rfl ((gp_ne eG_13 (by decide)).trans ((gp_ne eG_11 (by decide)).trans (rfl))) dX2_passUnit_199 ?_
        refine lv_iconst (v := 0) hx hb dX2_passUnit_202 (by decide) ?_
        refine S_callv (va_runV (As := [.int (G.1 3 3), .int 0]) (rest := []) ⟨hx, hb, hml, hown, hts⟩ (k_emit_2 l D k A a z G_13 (G.1 3 3) 0 ) (cwV 2 hts (gd_V hgd m855 m856 m857 m118 m858) rfl rfl rfl (by decide +kernel) ⟨show 0 + 1 ≤ fn + 8 from by omega, show 8 + (3 + 11) + (0) ≤ ln + 169 from by omega⟩) (pre_V hW hB_G_13 hK hZ hS kd_2 rfl) rfl rfl hl.1 rfl (lv_room (Nat.le_of_ble_eq_true rfl)) dX2_passUnit_203 ⟨Nat.le_of_ble_eq_true rfl, Nat.le_of_ble_eq_true rfl⟩) hS (fun G_72 H locs hpo hW hS => ?_)
        obtain ⟨hB_G_72, hq_73⟩ := hpo
        have hF := hF.call hq_73 (by decide) (by decide)
        refine lv_aload_n hx hb dX2_passUnit_206 rfl (lv_at hl 0 rfl) ?_
        refine S_getR (n := 3) (C := RX2) (T := TX2) (N := 3) hx hb hg iX2 hown hK hW kd_4 rfl 0 (by decide) (hg (Cond.fieldLink RX2 9 "SlabWalk$Formulas" "tokens" "LSlabWalk$Tokens;") m301) (fun _ h9 => h9) rfl dX2_passUnit_207 ?_
        refine S_calli (va_runV (As := []) (rest := []) ⟨hx, hb, hml, hown, hts⟩ (k_tAdvance l D k A a z G_72  ) (cwV 0 hts (gd_V hgd m854 m639 m640 m120 m641) rfl rfl rfl (by decide +kernel) ⟨show 6 + 1 ≤ fn + 8 from by omega, show 8 + (2 + 11) + (127) ≤ ln + 169 from by omega⟩) (pre_V hW hB_G_72 hK hZ hS kd_3 rfl) rfl rfl hl.1 rfl (lv_room (Nat.le_of_ble_eq_true rfl)) dX2_passUnit_210 ⟨Nat.le_of_ble_eq_true rfl, Nat.le_of_ble_eq_true rfl⟩) hS (fun r_75 G_76 H locs hpo hW hS => ?_)
        obtain ⟨hB_G_76, hq_77, f_79⟩ := hpo
        have hF := hF.call hq_77 (by decide) (by decide)
        exact W.zret (v := r_75) hx hb hr (nar_z (by omega) (by omega)) (fun t ht _ => ⟨⟨r_75, G_76, rfl, ⟨hB_G_76, hF, ⟨by omega, by omega⟩⟩, wd_t ht hW⟩, hS.F ht⟩) hS.2.2 dX2_passUnit_213
      by_cases c_80 : (G.1 3 3) = 148
      · refine lv_lookup (tgt := 191) hx hb dX2_passUnit_60 (by decide) (off := 131) (by rw [c_80]; decide) (by decide) ?_
        have c_80 : (G.1 3 3).toInt = 148 := xI_eq rfl rfl c_80
        refine lv_aload_n hx hb dX2_passUnit_191 rfl (lv_at hl 0 rfl) ?_
        refine S_getV (n := 2) (C := RX2) (T := TX2) (N := 3) hx hb hg iX2 hown hK hW kd_4 rfl 1 (by decide) (hg (Cond.fieldLink RX2 15 "SlabWalk$Formulas" "paving" "LSlabWalk$Paving;") m302) (fun _ h9 => h9) rfl ((((congrFun (congrFun (congrArg (fun q => q.2.2) eG_13) 4) 1).trans (congrFun (congrFun (congrArg (fun q => q.2.2) eG_11) 4) 1))).trans (hv_4_1)) dX2_passUnit_192 ?_
        refine lv_aload_n hx hb dX2_passUnit_195 rfl (lv_at hl 0 rfl) ?_
        refine S_getR (n := 3) (C := RX2) (T := TX2) (N := 3) hx hb hg iX2 hown hK hW kd_4 rfl 0 (by decide) (hg (Cond.fieldLink RX2 9 "SlabWalk$Formulas" "tokens" "LSlabWalk$Tokens;") m301) (fun _ h9 => h9) rfl dX2_passUnit_196 ?_
        refine S_getI (v := (G.1 3 3)) (C := RX9) (T := TX9) (N := 9) hx hb hg iX9 hown hK hW kd_3 rfl 3 (by decide) (hg (Cond.fieldLink RX2 30 "SlabWalk$Tokens" "kind" "I") m263) (fun _ h9 => h9) rfl ((gp_ne eG_13 (by decide)).trans ((gp_ne eG_11 (by decide)).trans (rfl))) dX2_passUnit_199 ?_
        refine lv_iconst (v := 0) hx hb dX2_passUnit_202 (by decide) ?_
        refine S_callv (va_runV (As := [.int (G.1 3 3), .int 0]) (rest := []) ⟨hx, hb, hml, hown, hts⟩ (k_emit_2 l D k A a z G_13 (G.1 3 3) 0 ) (cwV 2 hts (gd_V hgd m855 m856 m857 m118 m858) rfl rfl rfl (by decide +kernel) ⟨show 0 + 1 ≤ fn + 8 from by omega, show 8 + (3 + 11) + (0) ≤ ln + 169 from by omega⟩) (pre_V hW hB_G_13 hK hZ hS kd_2 rfl) rfl rfl hl.1 rfl (lv_room (Nat.le_of_ble_eq_true rfl)) dX2_passUnit_203 ⟨Nat.le_of_ble_eq_true rfl, Nat.le_of_ble_eq_true rfl⟩) hS (fun G_82 H locs hpo hW hS => ?_)
        obtain ⟨hB_G_82, hq_83⟩ := hpo
        have hF := hF.call hq_83 (by decide) (by decide)
        refine lv_aload_n hx hb dX2_passUnit_206 rfl (lv_at hl 0 rfl) ?_
        refine S_getR (n := 3) (C := RX2) (T := TX2) (N := 3) hx hb hg iX2 hown hK hW kd_4 rfl 0 (by decide) (hg (Cond.fieldLink RX2 9 "SlabWalk$Formulas" "tokens" "LSlabWalk$Tokens;") m301) (fun _ h9 => h9) rfl dX2_passUnit_207 ?_
        refine S_calli (va_runV (As := []) (rest := []) ⟨hx, hb, hml, hown, hts⟩ (k_tAdvance l D k A a z G_82  ) (cwV 0 hts (gd_V hgd m854 m639 m640 m120 m641) rfl rfl rfl (by decide +kernel) ⟨show 6 + 1 ≤ fn + 8 from by omega, show 8 + (2 + 11) + (127) ≤ ln + 169 from by omega⟩) (pre_V hW hB_G_82 hK hZ hS kd_3 rfl) rfl rfl hl.1 rfl (lv_room (Nat.le_of_ble_eq_true rfl)) dX2_passUnit_210 ⟨Nat.le_of_ble_eq_true rfl, Nat.le_of_ble_eq_true rfl⟩) hS (fun r_85 G_86 H locs hpo hW hS => ?_)
        obtain ⟨hB_G_86, hq_87, f_89⟩ := hpo
        have hF := hF.call hq_87 (by decide) (by decide)
        exact W.zret (v := r_85) hx hb hr (nar_z (by omega) (by omega)) (fun t ht _ => ⟨⟨r_85, G_86, rfl, ⟨hB_G_86, hF, ⟨by omega, by omega⟩⟩, wd_t ht hW⟩, hS.F ht⟩) hS.2.2 dX2_passUnit_213
      by_cases c_90 : (G.1 3 3) = 149
      · refine lv_lookup (tgt := 191) hx hb dX2_passUnit_60 (by decide) (off := 131) (by rw [c_90]; decide) (by decide) ?_
        have c_90 : (G.1 3 3).toInt = 149 := xI_eq rfl rfl c_90
        refine lv_aload_n hx hb dX2_passUnit_191 rfl (lv_at hl 0 rfl) ?_
        refine S_getV (n := 2) (C := RX2) (T := TX2) (N := 3) hx hb hg iX2 hown hK hW kd_4 rfl 1 (by decide) (hg (Cond.fieldLink RX2 15 "SlabWalk$Formulas" "paving" "LSlabWalk$Paving;") m302) (fun _ h9 => h9) rfl ((((congrFun (congrFun (congrArg (fun q => q.2.2) eG_13) 4) 1).trans (congrFun (congrFun (congrArg (fun q => q.2.2) eG_11) 4) 1))).trans (hv_4_1)) dX2_passUnit_192 ?_
        refine lv_aload_n hx hb dX2_passUnit_195 rfl (lv_at hl 0 rfl) ?_
        refine S_getR (n := 3) (C := RX2) (T := TX2) (N := 3) hx hb hg iX2 hown hK hW kd_4 rfl 0 (by decide) (hg (Cond.fieldLink RX2 9 "SlabWalk$Formulas" "tokens" "LSlabWalk$Tokens;") m301) (fun _ h9 => h9) rfl dX2_passUnit_196 ?_
        refine S_getI (v := (G.1 3 3)) (C := RX9) (T := TX9) (N := 9) hx hb hg iX9 hown hK hW kd_3 rfl 3 (by decide) (hg (Cond.fieldLink RX2 30 "SlabWalk$Tokens" "kind" "I") m263) (fun _ h9 => h9) rfl ((gp_ne eG_13 (by decide)).trans ((gp_ne eG_11 (by decide)).trans (rfl))) dX2_passUnit_199 ?_
        refine lv_iconst (v := 0) hx hb dX2_passUnit_202 (by decide) ?_
        refine S_callv (va_runV (As := [.int (G.1 3 3), .int 0]) (rest := []) ⟨hx, hb, hml, hown, hts⟩ (k_emit_2 l D k A a z G_13 (G.1 3 3) 0 ) (cwV 2 hts (gd_V hgd m855 m856 m857 m118 m858) rfl rfl rfl (by decide +kernel) ⟨show 0 + 1 ≤ fn + 8 from by omega, show 8 + (3 + 11) + (0) ≤ ln + 169 from by omega⟩) (pre_V hW hB_G_13 hK hZ hS kd_2 rfl) rfl rfl hl.1 rfl (lv_room (Nat.le_of_ble_eq_true rfl)) dX2_passUnit_203 ⟨Nat.le_of_ble_eq_true rfl, Nat.le_of_ble_eq_true rfl⟩) hS (fun G_92 H locs hpo hW hS => ?_)
        obtain ⟨hB_G_92, hq_93⟩ := hpo
        have hF := hF.call hq_93 (by decide) (by decide)
        refine lv_aload_n hx hb dX2_passUnit_206 rfl (lv_at hl 0 rfl) ?_
        refine S_getR (n := 3) (C := RX2) (T := TX2) (N := 3) hx hb hg iX2 hown hK hW kd_4 rfl 0 (by decide) (hg (Cond.fieldLink RX2 9 "SlabWalk$Formulas" "tokens" "LSlabWalk$Tokens;") m301) (fun _ h9 => h9) rfl dX2_passUnit_207 ?_
        refine S_calli (va_runV (As := []) (rest := []) ⟨hx, hb, hml, hown, hts⟩ (k_tAdvance l D k A a z G_92  ) (cwV 0 hts (gd_V hgd m854 m639 m640 m120 m641) rfl rfl rfl (by decide +kernel) ⟨show 6 + 1 ≤ fn + 8 from by omega, show 8 + (2 + 11) + (127) ≤ ln + 169 from by omega⟩) (pre_V hW hB_G_92 hK hZ hS kd_3 rfl) rfl rfl hl.1 rfl (lv_room (Nat.le_of_ble_eq_true rfl)) dX2_passUnit_210 ⟨Nat.le_of_ble_eq_true rfl, Nat.le_of_ble_eq_true rfl⟩) hS (fun r_95 G_96 H locs hpo hW hS => ?_)
        obtain ⟨hB_G_96, hq_97, f_99⟩ := hpo
        have hF := hF.call hq_97 (by decide) (by decide)
        exact W.zret (v := r_95) hx hb hr (nar_z (by omega) (by omega)) (fun t ht _ => ⟨⟨r_95, G_96, rfl, ⟨hB_G_96, hF, ⟨by omega, by omega⟩⟩, wd_t ht hW⟩, hS.F ht⟩) hS.2.2 dX2_passUnit_213
      by_cases c_100 : (G.1 3 3) = 150
      · refine lv_lookup (tgt := 191) hx hb dX2_passUnit_60 (by decide) (off := 131) (by rw [c_100]; decide) (by decide) ?_
        have c_100 : (G.1 3 3).toInt = 150 := xI_eq rfl rfl c_100
        refine lv_aload_n hx hb dX2_passUnit_191 rfl (lv_at hl 0 rfl) ?_
        refine S_getV (n := 2) (C := RX2) (T := TX2) (N := 3) hx hb hg iX2 hown hK hW kd_4 rfl 1 (by decide) (hg (Cond.fieldLink RX2 15 "SlabWalk$Formulas" "paving" "LSlabWalk$Paving;") m302) (fun _ h9 => h9) rfl ((((congrFun (congrFun (congrArg (fun q => q.2.2) eG_13) 4) 1).trans (congrFun (congrFun (congrArg (fun q => q.2.2) eG_11) 4) 1))).trans (hv_4_1)) dX2_passUnit_192 ?_
        refine lv_aload_n hx hb dX2_passUnit_195 rfl (lv_at hl 0 rfl) ?_
        refine S_getR (n := 3) (C := RX2) (T := TX2) (N := 3) hx hb hg iX2 hown hK hW kd_4 rfl 0 (by decide) (hg (Cond.fieldLink RX2 9 "SlabWalk$Formulas" "tokens" "LSlabWalk$Tokens;") m301) (fun _ h9 => h9) rfl dX2_passUnit_196 ?_
        refine S_getI (v := (G.1 3 3)) (C := RX9) (T := TX9) (N := 9) hx hb hg iX9 hown hK hW kd_3 rfl 3 (by decide) (hg (Cond.fieldLink RX2 30 "SlabWalk$Tokens" "kind" "I") m263) (fun _ h9 => h9) rfl ((gp_ne eG_13 (by decide)).trans ((gp_ne eG_11 (by decide)).trans (rfl))) dX2_passUnit_199 ?_
        refine lv_iconst (v := 0) hx hb dX2_passUnit_202 (by decide) ?_
        refine S_callv (va_runV (As := [.int (G.1 3 3), .int 0]) (rest := []) ⟨hx, hb, hml, hown, hts⟩ (k_emit_2 l D k A a z G_13 (G.1 3 3) 0 ) (cwV 2 hts (gd_V hgd m855 m856 m857 m118 m858) rfl rfl rfl (by decide +kernel) ⟨show 0 + 1 ≤ fn + 8 from by omega, show 8 + (3 + 11) + (0) ≤ ln + 169 from by omega⟩) (pre_V hW hB_G_13 hK hZ hS kd_2 rfl) rfl rfl hl.1 rfl (lv_room (Nat.le_of_ble_eq_true rfl)) dX2_passUnit_203 ⟨Nat.le_of_ble_eq_true rfl, Nat.le_of_ble_eq_true rfl⟩) hS (fun G_102 H locs hpo hW hS => ?_)
        obtain ⟨hB_G_102, hq_103⟩ := hpo
        have hF := hF.call hq_103 (by decide) (by decide)
        refine lv_aload_n hx hb dX2_passUnit_206 rfl (lv_at hl 0 rfl) ?_
        refine S_getR (n := 3) (C := RX2) (T := TX2) (N := 3) hx hb hg iX2 hown hK hW kd_4 rfl 0 (by decide) (hg (Cond.fieldLink RX2 9 "SlabWalk$Formulas" "tokens" "LSlabWalk$Tokens;") m301) (fun _ h9 => h9) rfl dX2_passUnit_207 ?_
        refine S_calli (va_runV (As := []) (rest := []) ⟨hx, hb, hml, hown, hts⟩ (k_tAdvance l D k A a z G_102  ) (cwV 0 hts (gd_V hgd m854 m639 m640 m120 m641) rfl rfl rfl (by decide +kernel) ⟨show 6 + 1 ≤ fn + 8 from by omega, show 8 + (2 + 11) + (127) ≤ ln + 169 from by omega⟩) (pre_V hW hB_G_102 hK hZ hS kd_3 rfl) rfl rfl hl.1 rfl (lv_room (Nat.le_of_ble_eq_true rfl)) dX2_passUnit_210 ⟨Nat.le_of_ble_eq_true rfl, Nat.le_of_ble_eq_true rfl⟩) hS (fun r_105 G_106 H locs hpo hW hS => ?_)
        obtain ⟨hB_G_106, hq_107, f_109⟩ := hpo
        have hF := hF.call hq_107 (by decide) (by decide)
        exact W.zret (v := r_105) hx hb hr (nar_z (by omega) (by omega)) (fun t ht _ => ⟨⟨r_105, G_106, rfl, ⟨hB_G_106, hF, ⟨by omega, by omega⟩⟩, wd_t ht hW⟩, hS.F ht⟩) hS.2.2 dX2_passUnit_213
      by_cases c_110 : (G.1 3 3) = 201
      · refine lv_lookup (tgt := 166) hx hb dX2_passUnit_60 (by decide) (off := 106) (by rw [c_110]; decide) (by decide) ?_
        have c_110 : (G.1 3 3).toInt = 201 := xI_eq rfl rfl c_110
        refine lv_aload_n hx hb dX2_passUnit_166 rfl (lv_at hl 0 rfl) ?_
        refine S_getV (n := 2) (C := RX2) (T := TX2) (N := 3) hx hb hg iX2 hown hK hW kd_4 rfl 1 (by decide) (hg (Cond.fieldLink RX2 15 "SlabWalk$Formulas" "paving" "LSlabWalk$Paving;") m302) (fun _ h9 => h9) rfl ((((congrFun (congrFun (congrArg (fun q => q.2.2) eG_13) 4) 1).trans (congrFun (congrFun (congrArg (fun q => q.2.2) eG_11) 4) 1))).trans (hv_4_1)) dX2_passUnit_167 ?_
        refine lv_sipush (v := 201) hx hb dX2_passUnit_170 (by decide) ?_
        refine lv_aload_n hx hb dX2_passUnit_173 rfl (lv_at hl 0 rfl) ?_
        refine S_getR (n := 3) (C := RX2) (T := TX2) (N := 3) hx hb hg iX2 hown hK hW kd_4 rfl 0 (by decide) (hg (Cond.fieldLink RX2 9 "SlabWalk$Formulas" "tokens" "LSlabWalk$Tokens;") m301) (fun _ h9 => h9) rfl dX2_passUnit_174 ?_
        refine S_getI (v := (G.1 3 5)) (C := RX9) (T := TX9) (N := 9) hx hb hg iX9 hown hK hW kd_3 rfl 5 (by decide) (hg (Cond.fieldLink RX2 70 "SlabWalk$Tokens" "number" "I") m267) (fun _ h9 => h9) rfl ((gp_ne eG_13 (by decide)).trans (gp_ne eG_11 (by decide))) dX2_passUnit_177 ?_
        refine S_callv (va_runV (As := [.int 201, .int (G.1 3 5)]) (rest := []) ⟨hx, hb, hml, hown, hts⟩ (k_emit_2 l D k A a z G_13 201 (G.1 3 5) ) (cwV 2 hts (gd_V hgd m855 m856 m857 m118 m858) rfl rfl rfl (by decide +kernel) ⟨show 0 + 1 ≤ fn + 8 from by omega, show 8 + (3 + 11) + (0) ≤ ln + 169 from by omega⟩) (pre_V hW hB_G_13 hK hZ hS kd_2 rfl) rfl rfl hl.1 rfl (lv_room (Nat.le_of_ble_eq_true rfl)) dX2_passUnit_180 ⟨Nat.le_of_ble_eq_true rfl, Nat.le_of_ble_eq_true rfl⟩) hS (fun G_112 H locs hpo hW hS => ?_)
        obtain ⟨hB_G_112, hq_113⟩ := hpo
        have hF := hF.call hq_113 (by decide) (by decide)
        refine lv_aload_n hx hb dX2_passUnit_183 rfl (lv_at hl 0 rfl) ?_
        refine S_getR (n := 3) (C := RX2) (T := TX2) (N := 3) hx hb hg iX2 hown hK hW kd_4 rfl 0 (by decide) (hg (Cond.fieldLink RX2 9 "SlabWalk$Formulas" "tokens" "LSlabWalk$Tokens;") m301) (fun _ h9 => h9) rfl dX2_passUnit_184 ?_
        refine S_calli (va_runV (As := []) (rest := []) ⟨hx, hb, hml, hown, hts⟩ (k_tAdvance l D k A a z G_112  ) (cwV 0 hts (gd_V hgd m854 m639 m640 m120 m641) rfl rfl rfl (by decide +kernel) ⟨show 6 + 1 ≤ fn + 8 from by omega, show 8 + (2 + 11) + (127) ≤ ln + 169 from by omega⟩) (pre_V hW hB_G_112 hK hZ hS kd_3 rfl) rfl rfl hl.1 rfl (lv_room (Nat.le_of_ble_eq_true rfl)) dX2_passUnit_187 ⟨Nat.le_of_ble_eq_true rfl, Nat.le_of_ble_eq_true rfl⟩) hS (fun r_115 G_116 H locs hpo hW hS => ?_)
        obtain ⟨hB_G_116, hq_117, f_119⟩ := hpo
        have hF := hF.call hq_117 (by decide) (by decide)
        exact W.zret (v := r_115) hx hb hr (nar_z (by omega) (by omega)) (fun t ht _ => ⟨⟨r_115, G_116, rfl, ⟨hB_G_116, hF, ⟨by omega, by omega⟩⟩, wd_t ht hW⟩, hS.F ht⟩) hS.2.2 dX2_passUnit_190
      refine lv_lookup (tgt := 214) hx hb dX2_passUnit_60 (by decide) (off := 154) (by show Op.lookupswitch.offset [(40, 100), (139, 131), (140, 131), (141, 131), (142, 131), (143, 131), (147, 131), (148, 131), (149, 131), (150, 131), (201, 106)] _ _ = _; have c_14 := xI_ne (Y := 40) rfl rfl c_14; have c_20 := xI_ne (Y := 139) rfl rfl c_20; have c_30 := xI_ne (Y := 140) rfl rfl c_30; have c_40 := xI_ne (Y := 141) rfl rfl c_40; have c_50 := xI_ne (Y := 142) rfl rfl c_50; have c_60 := xI_ne (Y := 143) rfl rfl c_60; have c_70 := xI_ne (Y := 147) rfl rfl c_70; have c_80 := xI_ne (Y := 148) rfl rfl c_80; have c_90 := xI_ne (Y := 149) rfl rfl c_90; have c_100 := xI_ne (Y := 150) rfl rfl c_100; have c_110 := xI_ne (Y := 201) rfl rfl c_110; rw [Op.lookupswitch.offset_cons, if_neg (by omega), Op.lookupswitch.offset_cons, if_neg (by omega), Op.lookupswitch.offset_cons, if_neg (by omega), Op.lookupswitch.offset_cons, if_neg (by omega), Op.lookupswitch.offset_cons, if_neg (by omega), Op.lookupswitch.offset_cons, if_neg (by omega), Op.lookupswitch.offset_cons, if_neg (by omega), Op.lookupswitch.offset_cons, if_neg (by omega), Op.lookupswitch.offset_cons, if_neg (by omega), Op.lookupswitch.offset_cons, if_neg (by omega), Op.lookupswitch.offset_cons, if_neg (by omega), Op.lookupswitch.offset_nil]) (by decide) ?_
      have c_14 := xI_ne (Y := 40) rfl rfl c_14
      have c_20 := xI_ne (Y := 139) rfl rfl c_20
      have c_30 := xI_ne (Y := 140) rfl rfl c_30
      have c_40 := xI_ne (Y := 141) rfl rfl c_40
      have c_50 := xI_ne (Y := 142) rfl rfl c_50
      have c_60 := xI_ne (Y := 143) rfl rfl c_60
      have c_70 := xI_ne (Y := 147) rfl rfl c_70
      have c_80 := xI_ne (Y := 148) rfl rfl c_80
      have c_90 := xI_ne (Y := 149) rfl rfl c_90
      have c_100 := xI_ne (Y := 150) rfl rfl c_100
      have c_110 := xI_ne (Y := 201) rfl rfl c_110
      refine lv_aload_n hx hb dX2_passUnit_214 rfl (lv_at hl 0 rfl) ?_
      refine S_getR (n := 3) (C := RX2) (T := TX2) (N := 3) hx hb hg iX2 hown hK hW kd_4 rfl 0 (by decide) (hg (Cond.fieldLink RX2 9 "SlabWalk$Formulas" "tokens" "LSlabWalk$Tokens;") m301) (fun _ h9 => h9) rfl dX2_passUnit_215 ?_
      refine lv_iconst (v := 2) hx hb dX2_passUnit_218 (by decide) ?_
      refine S_calli (va_runV (As := [.int 2]) (rest := []) ⟨hx, hb, hml, hown, hts⟩ (k_tRefuse l D k A a z G_13 2 ⟨by decide, by decide⟩) (cwV 1 hts (gd_V hgd m849 m779 m780 m120 m781) rfl rfl rfl (by decide +kernel) ⟨show 0 + 1 ≤ fn + 8 from by omega, show 8 + (2 + 11) + (0) ≤ ln + 169 from by omega⟩) (pre_V hW hB_G_13 hK hZ hS kd_3 rfl) rfl rfl hl.1 rfl (lv_room (Nat.le_of_ble_eq_true rfl)) dX2_passUnit_219 ⟨Nat.le_of_ble_eq_true rfl, Nat.le_of_ble_eq_true rfl⟩) hS (fun r_120 G_121 H locs hpo hW hS => ?_)
      obtain ⟨hB_G_121, hq_122, f_124⟩ := hpo
      have hF := hF.call hq_122 (by decide) (by decide)
      exact W.zret (v := r_120) hx hb hr (nar_z (by omega) (by omega)) (fun t ht _ => ⟨⟨r_120, G_121, rfl, ⟨hB_G_121, hF, ⟨by omega, by omega⟩⟩, wd_t ht hW⟩, hS.F ht⟩) hS.2.2 dX2_passUnit_222
    · have c_9 : 90 ≤ (G.1 2 12).toInt := xI_nlt rfl rfl c_9
      refine lv_aload_n hx hb dX2_passUnit_21 rfl (lv_at hl 0 rfl) ?_
      refine S_getR (n := 3) (C := RX2) (T := TX2) (N := 3) hx hb hg iX2 hown hK hW kd_4 rfl 0 (by decide) (hg (Cond.fieldLink RX2 9 "SlabWalk$Formulas" "tokens" "LSlabWalk$Tokens;") m301) (fun _ h9 => h9) rfl dX2_passUnit_22 ?_
      refine lv_iconst (v := 2) hx hb dX2_passUnit_25 (by decide) ?_
      refine S_calli (va_runV (As := [.int 2]) (rest := []) ⟨hx, hb, hml, hown, hts⟩ (k_tRefuse l D k A a z G 2 ⟨by decide, by decide⟩) (cwV 1 hts (gd_V hgd m849 m779 m780 m120 m781) rfl rfl rfl (by decide +kernel) ⟨show 0 + 1 ≤ fn + 8 from by omega, show 8 + (2 + 11) + (0) ≤ ln + 169 from by omega⟩) (pre_V hW hB_G hK hZ hS kd_3 rfl) rfl rfl hl.1 rfl (lv_room (Nat.le_of_ble_eq_true rfl)) dX2_passUnit_26 ⟨Nat.le_of_ble_eq_true rfl, Nat.le_of_ble_eq_true rfl⟩) hS (fun r_125 G_126 H locs hpo hW hS => ?_)
      obtain ⟨hB_G_126, hq_127, f_129⟩ := hpo
      have hF := hF.call hq_127 (by decide) (by decide)
      exact W.zret (v := r_125) hx hb hr (nar_z (by omega) (by omega)) (fun t ht _ => ⟨⟨r_125, G_126, rfl, ⟨hB_G_126, hF, ⟨by omega, by omega⟩⟩, wd_t ht hW⟩, hS.F ht⟩) hS.2.2 dX2_passUnit_29

set_option maxHeartbeats 4000000 in
set_option maxRecDepth 100000 in
theorem k_fTerm_2_s (l : Launch) (D : va_G) (k : KT) (A : Nat → Prop) (a : Nat → Nat) (z : SK) (fn ln n : Nat) (hE : ∀ (G : GS) (p0 : Int32) (ha_p0 : 0 ≤ p0.toInt ∧ p0.toInt ≤ 7) (hv_4_1 : G.2.2 4 1 = 2) (hd : 7 ≤ p0.toInt + (n : Int)), Met l yX2_passEither (WS yX2_passEither cX2_passEither 3 (some .boolean)) ({ frames := fn + 2, cells := 0, slots := 0, locals := ln + 43 }) (va_Pc [.ref (a 4), .int p0] (cW D k A a z G)) (va_Qi (fun (r : Int32) (G1 : GS) => Bd G1 ∧ Fr [27] [(2, 12), (2, 13), (3, 2), (3, 3), (3, 4), (3, 5), (3, 6), (3, 7), (3, 8), (4, 2)] G G1 ∧ (0 ≤ r.toInt ∧ r.toInt ≤ 1)) (fun (G1 : GS) t => Wd D k A a G1 t.heap) A) 0 0 A) (hO : ∀ (G : GS) (p0 : Int32) (ha_p0 : 0 ≤ p0.toInt ∧ p0.toInt ≤ 7) (hv_4_1 : G.2.2 4 1 = 2) (hd : 7 ≤ p0.toInt + (n : Int)), Met l yX2_passOne (WS yX2_passOne cX2_passOne 2 (some .boolean)) ({ frames := fn + 0, cells := 0, slots := 0, locals := ln + 0 }) (va_Pc [.ref (a 4), .int p0] (cW D k A a z G)) (va_Qi (fun (r : Int32) (G1 : GS) => Bd G1 ∧ Fr [27] [(2, 12), (2, 13), (3, 2), (3, 3), (3, 4), (3, 5), (3, 6), (3, 7), (3, 8), (4, 2)] G G1 ∧ (0 ≤ r.toInt ∧ r.toInt ≤ 1)) (fun (G1 : GS) t => Wd D k A a G1 t.heap) A) 0 0 A) (G : GS) (p0 : Int32) (ha_p0 : 0 ≤ p0.toInt ∧ p0.toInt ≤ 7) (hv_4_1 : G.2.2 4 1 = 2) (hd : 7 ≤ p0.toInt + (n : Int) + 1) : Met l yX2_passTerm (WS yX2_passTerm cX2_passTerm 4 (some .boolean)) ({ frames := fn + 9, cells := 0, slots := 0, locals := ln + 190 }) (va_Pc [.ref (a 4), .int p0] (cW D k A a z G)) (va_Qi (fun (r : Int32) (G1 : GS) => Bd G1 ∧ Fr [27] [(2, 12), (2, 13), (3, 2), (3, 3), (3, 4), (3, 5), (3, 6), (3, 7), (3, 8), (4, 2)] G G1 ∧ (0 ≤ r.toInt ∧ r.toInt ≤ 1)) (fun (G1 : GS) t => Wd D k A a G1 t.heap) A) 0 0 A := by
  refine Met.ofW (cc := cX2_passTerm) (maxL := 4) (ret := (some .boolean)) (by decide) rfl ?_
  intro p e s m args below meth c s₁ B hml hv
  obtain ⟨rfl, hW, hB_G, hK, hZ⟩ := hv
  have hx := B.exec
  have hb := B.bytes
  have hr := B.returns
  have hts := atoms_spec (ws := WS yX2_passTerm cX2_passTerm 4 (some .boolean)) B.pre
  have hgd : ∀ w ∈ gd, w ∈ WS yX2_passTerm cX2_passTerm 4 (some .boolean) := fun w h => List.mem_cons_of_mem _ h
  have hg : ∀ w ∈ gd, w.before _ s = true := fun w h => hts w (hgd w h)
  have hown : s.vm.findClass RX2 = some m.cls := findClass_of_methodNamed B.named
  have hS : va_S A s.heap s.heap [] := va_S.rf
  have hF : Fr [27] [(2, 12), (2, 13), (3, 2), (3, 3), (3, 4), (3, 5), (3, 6), (3, 7), (3, 8), (4, 2)] G G := Fr.rf
  have hl := lv_entry ([.ref (a 4), .int p0]) (n := 4) (Nat.le_of_ble_eq_true rfl)
  rw [lg_entry_eq]
  generalize (lg_sl ([.ref (a 4), .int p0]) ++ List.replicate (4 - (lg_sl ([.ref (a 4), .int p0])).length) Slot.unset).toArray = ls at hl ⊢
  have hl : lv_has ls 4 [(0, .ref (a 4)), (1, .int p0)] := hl
  refine lv_aload_n hx hb dX2_passTerm_0 rfl (lv_at hl 0 rfl) ?_
  refine lv_iload_n hx hb dX2_passTerm_1 rfl (lv_at hl 1 rfl) ?_
  refine S_calli (va_runV (As := [.int p0]) (rest := []) ⟨hx, hb, hml, hown, hts⟩ (k_fUnit_2_s l D k A a z fn ln n hE hO G p0 ⟨by omega, by omega⟩ hv_4_1 (by omega)) (cwV 1 hts (gd_V hgd m845 m847 m22 m121 m848) rfl rfl rfl (by decide +kernel) ⟨show fn + 8 + 1 ≤ fn + 9 from by omega, show 8 + (2 + 11) + (ln + 169) ≤ ln + 190 from by omega⟩) (pre_V hW hB_G hK hZ hS kd_4 rfl) rfl rfl hl.1 rfl (lv_room (Nat.le_of_ble_eq_true rfl)) dX2_passTerm_2 ⟨Nat.le_of_ble_eq_true rfl, Nat.le_of_ble_eq_true rfl⟩) hS (fun r_1 G_2 H locs hpo hW hS => ?_)
  obtain ⟨hB_G_2, hq_3, f_5⟩ := hpo
  have hF := hF.call hq_3 (by decide) (by decide)
  refine lv_if_ne (tgt := 10) hx hb dX2_passTerm_5 (by decide) (fun c_6 => ?_) (fun c_6 => ?_)
  · have c_6 : r_1.toInt ≠ 0 := xI_ne rfl rfl c_6
    refine lv_iconst (v := 0) hx hb dX2_passTerm_10 (by decide) ?_
    refine lv_istore_n (lv' := [(2, .int 0), (0, .ref (a 4)), (1, .int p0)]) hx hb dX2_passTerm_11 rfl hl (by decide) rfl (fun ls hl => ?_)
    have qc_12 : (0 : Int32).toInt = 0 := rfl
    refine loop_N (Inv := fun n H locs ls => ∃ (G_7 : GS) (x_11 : Int32), (n : Int) = 1600 - x_11.toInt ∧ (0 ≤ x_11.toInt ∧ x_11.toInt ≤ 1600) ∧ Wd D k A a G_7 H ∧ Bd G_7 ∧ Fr [27] [(2, 12), (2, 13), (3, 2), (3, 3), (3, 4), (3, 5), (3, 6), (3, 7), (3, 8), (4, 2)] G G_7 ∧ Fr [27] [(2, 12), (2, 13), (3, 2), (3, 3), (3, 4), (3, 5), (3, 6), (3, 7), (3, 8), (4, 2)] G_2 G_7 ∧ va_S A s.heap H locs ∧ lv_has ls 4 [(2, .int x_11), (0, .ref (a 4)), (1, .int p0)]) (fun n_10 H locs ls ih_9 hI => ?_) (1600 - 0 : Int).toNat ⟨G_2, 0, (Int.toNat_of_nonneg (by omega)), ⟨by omega, by omega⟩, hW, hB_G_2, hF, Fr.rf, hS, lv_sub hl [0, 1, 2] rfl⟩
    obtain ⟨G_7, x_11, hn_14, f_13, hW, hB_G_7, hF, hq_8, hS, hl⟩ := hI
    refine lv_iload_n hx hb dX2_passTerm_12 rfl (lv_at hl 0 rfl) ?_
    refine lv_sipush (v := 1600) hx hb dX2_passTerm_13 (by decide) ?_
    refine lv_icmp_ge (tgt := 73) hx hb dX2_passTerm_16 (by decide) (fun c_15 => ?_) (fun c_15 => ?_)
    · have c_15 : 1600 ≤ x_11.toInt := xI_le rfl rfl c_15
      refine lv_iconst (v := 1) hx hb dX2_passTerm_73 (by decide) ?_
      exact W.zret (v := 1) hx hb hr (by decide) (fun t ht _ => ⟨⟨1, G_7, rfl, ⟨hB_G_7, hF, ⟨by decide, by decide⟩⟩, wd_t ht hW⟩, hS.F ht⟩) hS.2.2 dX2_passTerm_74
    · have c_15 : x_11.toInt < 1600 := xI_nle rfl rfl c_15
      refine lv_aload_n hx hb dX2_passTerm_19 rfl (lv_at hl 1 rfl) ?_
      refine S_getR (n := 3) (C := RX2) (T := TX2) (N := 3) hx hb hg iX2 hown hK hW kd_4 rfl 0 (by decide) (hg (Cond.fieldLink RX2 9 "SlabWalk$Formulas" "tokens" "LSlabWalk$Tokens;") m301) (fun _ h9 => h9) rfl dX2_passTerm_20 ?_
      refine S_getI (v := (G_7.1 3 3)) (C := RX9) (T := TX9) (N := 9) hx hb hg iX9 hown hK hW kd_3 rfl 3 (by decide) (hg (Cond.fieldLink RX2 30 "SlabWalk$Tokens" "kind" "I") m263) (fun _ h9 => h9) rfl rfl dX2_passTerm_23 ?_
      refine S_calli (va_runS (As := [.int (G_7.1 3 3)]) (rest := []) ⟨hx, hb, hml, hown, hts⟩ (k_fTimes l D k A a z G_7 (G_7.1 3 3) ) (va_cwS 1 hts (gd_S hgd m859 m860 m121 m861) rfl rfl rfl (by decide +kernel) ⟨show 0 + 1 ≤ fn + 9 from by omega, show 8 + (1 + 11) + (0) ≤ ln + 190 from by omega⟩) (pre_S hW hB_G_7 hK hZ hS) rfl rfl hl.1 rfl (lv_room (Nat.le_of_ble_eq_true rfl)) dX2_passTerm_26 ⟨Nat.le_of_ble_eq_true rfl, Nat.le_of_ble_eq_true rfl⟩) hS (fun r_16 G_17 H locs hpo hW hS => ?_)
      obtain ⟨hB_G_17, hq_18, f_20⟩ := hpo
      have hF := hF.call hq_18 (by decide) (by decide)
      refine lv_if_eq (tgt := 73) hx hb dX2_passTerm_29 (by decide) (fun c_21 => ?_) (fun c_21 => ?_)
      · have c_21 : r_16.toInt = 0 := xI_eq rfl rfl c_21
        refine lv_iconst (v := 1) hx hb dX2_passTerm_73 (by decide) ?_
        exact W.zret (v := 1) hx hb hr (by decide) (fun t ht _ => ⟨⟨1, G_17, rfl, ⟨hB_G_17, hF, ⟨by decide, by decide⟩⟩, wd_t ht hW⟩, hS.F ht⟩) hS.2.2 dX2_passTerm_74
      · have c_21 : r_16.toInt ≠ 0 := xI_ne rfl rfl c_21
        refine lv_aload_n hx hb dX2_passTerm_32 rfl (lv_at hl 1 rfl) ?_
        refine S_getR (n := 3) (C := RX2) (T := TX2) (N := 3) hx hb hg iX2 hown hK hW kd_4 rfl 0 (by decide) (hg (Cond.fieldLink RX2 9 "SlabWalk$Formulas" "tokens" "LSlabWalk$Tokens;") m301) (fun _ h9 => h9) rfl dX2_passTerm_33 ?_
        refine S_getI (v := (G_7.1 3 3)) (C := RX9) (T := TX9) (N := 9) hx hb hg iX9 hown hK hW kd_3 rfl 3 (by decide) (hg (Cond.fieldLink RX2 30 "SlabWalk$Tokens" "kind" "I") m263) (fun _ h9 => h9) rfl ((hq_18.i 3 3 (by decide) (by decide)).trans (rfl)) dX2_passTerm_36 ?_
        refine lv_istore_n (lv' := [(3, .int (G_7.1 3 3)), (2, .int x_11), (0, .ref (a 4)), (1, .int p0)]) hx hb dX2_passTerm_39 rfl hl (by decide) rfl (fun ls hl => ?_)
        refine lv_aload_n hx hb dX2_passTerm_40 rfl (lv_at hl 2 rfl) ?_
        refine S_getR (n := 3) (C := RX2) (T := TX2) (N := 3) hx hb hg iX2 hown hK hW kd_4 rfl 0 (by decide) (hg (Cond.fieldLink RX2 9 "SlabWalk$Formulas" "tokens" "LSlabWalk$Tokens;") m301) (fun _ h9 => h9) rfl dX2_passTerm_41 ?_
        refine S_calli (va_runV (As := []) (rest := []) ⟨hx, hb, hml, hown, hts⟩ (k_tAdvance l D k A a z G_17  ) (cwV 0 hts (gd_V hgd m854 m639 m640 m120 m641) rfl rfl rfl (by decide +kernel) ⟨show 6 + 1 ≤ fn + 9 from by omega, show 8 + (2 + 11) + (127) ≤ ln + 190 from by omega⟩) (pre_V hW hB_G_17 hK hZ hS kd_3 rfl) rfl rfl hl.1 rfl (lv_room (Nat.le_of_ble_eq_true rfl)) dX2_passTerm_44 ⟨Nat.le_of_ble_eq_true rfl, Nat.le_of_ble_eq_true rfl⟩) hS (fun r_22 G_23 H locs hpo hW hS => ?_)
        obtain ⟨hB_G_23, hq_24, f_26⟩ := hpo
        have hF := hF.call hq_24 (by decide) (by decide)
        refine lv_pop hx hb dX2_passTerm_47 rfl ?_
        refine lv_aload_n hx hb dX2_passTerm_48 rfl (lv_at hl 2 rfl) ?_
        refine lv_iload_n hx hb dX2_passTerm_49 rfl (lv_at hl 3 rfl) ?_
        refine S_calli (va_runV (As := [.int p0]) (rest := []) ⟨hx, hb, hml, hown, hts⟩ (k_fUnit_2_s l D k A a z fn ln n hE hO G_23 p0 ⟨by omega, by omega⟩ ((((hq_24.r 4 1 (by decide) (by decide)).trans ((hq_18.r 4 1 (by decide) (by decide)).trans ((hq_8.r 4 1 (by decide) (by decide)).trans (hq_3.r 4 1 (by decide) (by decide)))))).trans (hv_4_1)) (by omega)) (cwV 1 hts (gd_V hgd m845 m847 m22 m121 m848) rfl rfl rfl (by decide +kernel) ⟨show fn + 8 + 1 ≤ fn + 9 from by omega, show 8 + (2 + 11) + (ln + 169) ≤ ln + 190 from by omega⟩) (pre_V hW hB_G_23 hK hZ hS kd_4 rfl) rfl rfl hl.1 rfl (lv_room (Nat.le_of_ble_eq_true rfl)) dX2_passTerm_50 ⟨Nat.le_of_ble_eq_true rfl, Nat.le_of_ble_eq_true rfl⟩) hS (fun r_27 G_28 H locs hpo hW hS => ?_)
        obtain ⟨hB_G_28, hq_29, f_31⟩ := hpo
        have hF := hF.call hq_29 (by decide) (by decide)
        refine lv_if_ne (tgt := 58) hx hb dX2_passTerm_53 (by decide) (fun c_32 => ?_) (fun c_32 => ?_)
        · have c_32 : r_27.toInt ≠ 0 := xI_ne rfl rfl c_32
          refine lv_aload_n hx hb dX2_passTerm_58 rfl (lv_at hl 2 rfl) ?_
          refine S_getV (n := 2) (C := RX2) (T := TX2) (N := 3) hx hb hg iX2 hown hK hW kd_4 rfl 1 (by decide) (hg (Cond.fieldLink RX2 15 "SlabWalk$Formulas" "paving" "LSlabWalk$Paving;") m302) (fun _ h9 => h9) rfl ((((hq_29.r 4 1 (by decide) (by decide)).trans ((hq_24.r 4 1 (by decide) (by decide)).trans ((hq_18.r 4 1 (by decide) (by decide)).trans ((hq_8.r 4 1 (by decide) (by decide)).trans (hq_3.r 4 1 (by decide) (by decide))))))).trans (hv_4_1)) dX2_passTerm_59 ?_
          refine lv_iload_n hx hb dX2_passTerm_62 rfl (lv_at hl 0 rfl) ?_
          refine lv_iconst (v := 0) hx hb dX2_passTerm_63 (by decide) ?_
          refine S_callv (va_runV (As := [.int (G_7.1 3 3), .int 0]) (rest := []) ⟨hx, hb, hml, hown, hts⟩ (k_emit_2 l D k A a z G_28 (G_7.1 3 3) 0 ) (cwV 2 hts (gd_V hgd m855 m856 m857 m118 m858) rfl rfl rfl (by decide +kernel) ⟨show 0 + 1 ≤ fn + 9 from by omega, show 8 + (3 + 11) + (0) ≤ ln + 190 from by omega⟩) (pre_V hW hB_G_28 hK hZ hS kd_2 rfl) rfl rfl hl.1 rfl (lv_room (Nat.le_of_ble_eq_true rfl)) dX2_passTerm_64 ⟨Nat.le_of_ble_eq_true rfl, Nat.le_of_ble_eq_true rfl⟩) hS (fun G_34 H locs hpo hW hS => ?_)
          obtain ⟨hB_G_34, hq_35⟩ := hpo
          have hF := hF.call hq_35 (by decide) (by decide)
          obtain ⟨y_37, ey_37⟩ : ∃ q, q = x_11 + 1 := ⟨_, rfl⟩
          have ty_37 : y_37.toInt = x_11.toInt + 1 := xI_add rfl rfl ey_37 (by omega) (by omega)
          refine lv_iinc (v := y_37) (lv' := [(2, .int y_37), (3, .int (G_7.1 3 3)), (0, .ref (a 4)), (1, .int p0)]) hx hb dX2_passTerm_67 hl (k := 1) rfl (by rw [ey_37]; rfl) (by decide) rfl (fun ls hl => ?_)
          refine lv_goto (tgt := 12) hx hb dX2_passTerm_70 (by decide) ?_
          exact ih_9 (1600 - y_37.toInt : Int).toNat (by omega) _ _ _ ⟨G_34, y_37, (Int.toNat_of_nonneg (by omega)), ⟨by omega, by omega⟩, hW, hB_G_34, hF, (((((Fr.rf.call hq_8 (by decide) (by decide)).call hq_18 (by decide) (by decide)).call hq_24 (by decide) (by decide)).call hq_29 (by decide) (by decide)).call hq_35 (by decide) (by decide)), hS, lv_sub hl [0, 2, 3] rfl⟩
        · have c_32 : r_27.toInt = 0 := xI_eq rfl rfl c_32
          refine lv_iconst (v := 0) hx hb dX2_passTerm_56 (by decide) ?_
          exact W.zret (v := 0) hx hb hr (by decide) (fun t ht _ => ⟨⟨0, G_28, rfl, ⟨hB_G_28, hF, ⟨by decide, by decide⟩⟩, wd_t ht hW⟩, hS.F ht⟩) hS.2.2 dX2_passTerm_57
  · have c_6 : r_1.toInt = 0 := xI_eq rfl rfl c_6
    refine lv_iconst (v := 0) hx hb dX2_passTerm_8 (by decide) ?_
    exact W.zret (v := 0) hx hb hr (by decide) (fun t ht _ => ⟨⟨0, G_2, rfl, ⟨hB_G_2, hF, ⟨by decide, by decide⟩⟩, wd_t ht hW⟩, hS.F ht⟩) hS.2.2 dX2_passTerm_9

set_option maxHeartbeats 4000000 in
set_option maxRecDepth 100000 in
theorem k_fSum_2_s (l : Launch) (D : va_G) (k : KT) (A : Nat → Prop) (a : Nat → Nat) (z : SK) (fn ln n : Nat) (hE : ∀ (G : GS) (p0 : Int32) (ha_p0 : 0 ≤ p0.toInt ∧ p0.toInt ≤ 7) (hv_4_1 : G.2.2 4 1 = 2) (hd : 7 ≤ p0.toInt + (n : Int)), Met l yX2_passEither (WS yX2_passEither cX2_passEither 3 (some .boolean)) ({ frames := fn + 2, cells := 0, slots := 0, locals := ln + 43 }) (va_Pc [.ref (a 4), .int p0] (cW D k A a z G)) (va_Qi (fun (r : Int32) (G1 : GS) => Bd G1 ∧ Fr [27] [(2, 12), (2, 13), (3, 2), (3, 3), (3, 4), (3, 5), (3, 6), (3, 7), (3, 8), (4, 2)] G G1 ∧ (0 ≤ r.toInt ∧ r.toInt ≤ 1)) (fun (G1 : GS) t => Wd D k A a G1 t.heap) A) 0 0 A) (hO : ∀ (G : GS) (p0 : Int32) (ha_p0 : 0 ≤ p0.toInt ∧ p0.toInt ≤ 7) (hv_4_1 : G.2.2 4 1 = 2) (hd : 7 ≤ p0.toInt + (n : Int)), Met l yX2_passOne (WS yX2_passOne cX2_passOne 2 (some .boolean)) ({ frames := fn + 0, cells := 0, slots := 0, locals := ln + 0 }) (va_Pc [.ref (a 4), .int p0] (cW D k A a z G)) (va_Qi (fun (r : Int32) (G1 : GS) => Bd G1 ∧ Fr [27] [(2, 12), (2, 13), (3, 2), (3, 3), (3, 4), (3, 5), (3, 6), (3, 7), (3, 8), (4, 2)] G G1 ∧ (0 ≤ r.toInt ∧ r.toInt ≤ 1)) (fun (G1 : GS) t => Wd D k A a G1 t.heap) A) 0 0 A) (G : GS) (p0 : Int32) (ha_p0 : 0 ≤ p0.toInt ∧ p0.toInt ≤ 7) (hv_4_1 : G.2.2 4 1 = 2) (hd : 7 ≤ p0.toInt + (n : Int) + 1) : Met l yX2_passSum (WS yX2_passSum cX2_passSum 4 (some .boolean)) ({ frames := fn + 10, cells := 0, slots := 0, locals := ln + 213 }) (va_Pc [.ref (a 4), .int p0] (cW D k A a z G)) (va_Qi (fun (r : Int32) (G1 : GS) => Bd G1 ∧ Fr [27] [(2, 12), (2, 13), (3, 2), (3, 3), (3, 4), (3, 5), (3, 6), (3, 7), (3, 8), (4, 2)] G G1 ∧ (0 ≤ r.toInt ∧ r.toInt ≤ 1)) (fun (G1 : GS) t => Wd D k A a G1 t.heap) A) 0 0 A := by
  refine Met.ofW (cc := cX2_passSum) (maxL := 4) (ret := (some .boolean)) (by decide) rfl ?_
  intro p e s m args below meth c s₁ B hml hv
  obtain ⟨rfl, hW, hB_G, hK, hZ⟩ := hv
  have hx := B.exec
  have hb := B.bytes
  have hr := B.returns
  have hts := atoms_spec (ws := WS yX2_passSum cX2_passSum 4 (some .boolean)) B.pre
  have hgd : ∀ w ∈ gd, w ∈ WS yX2_passSum cX2_passSum 4 (some .boolean) := fun w h => List.mem_cons_of_mem _ h
  have hg : ∀ w ∈ gd, w.before _ s = true := fun w h => hts w (hgd w h)
  have hown : s.vm.findClass RX2 = some m.cls := findClass_of_methodNamed B.named
  have hS : va_S A s.heap s.heap [] := va_S.rf
  have hF : Fr [27] [(2, 12), (2, 13), (3, 2), (3, 3), (3, 4), (3, 5), (3, 6), (3, 7), (3, 8), (4, 2)] G G := Fr.rf
  have hl := lv_entry ([.ref (a 4), .int p0]) (n := 4) (Nat.le_of_ble_eq_true rfl)
  rw [lg_entry_eq]
  generalize (lg_sl ([.ref (a 4), .int p0]) ++ List.replicate (4 - (lg_sl ([.ref (a 4), .int p0])).length) Slot.unset).toArray = ls at hl ⊢
  have hl : lv_has ls 4 [(0, .ref (a 4)), (1, .int p0)] := hl
  refine lv_aload_n hx hb dX2_passSum_0 rfl (lv_at hl 0 rfl) ?_
  refine lv_iload_n hx hb dX2_passSum_1 rfl (lv_at hl 1 rfl) ?_
  refine S_calli (va_runV (As := [.int p0]) (rest := []) ⟨hx, hb, hml, hown, hts⟩ (k_fTerm_2_s l D k A a z fn ln n hE hO G p0 ⟨by omega, by omega⟩ hv_4_1 (by omega)) (cwV 1 hts (gd_V hgd m841 m843 m21 m121 m844) rfl rfl rfl (by decide +kernel) ⟨show fn + 9 + 1 ≤ fn + 10 from by omega, show 8 + (4 + 11) + (ln + 190) ≤ ln + 213 from by omega⟩) (pre_V hW hB_G hK hZ hS kd_4 rfl) rfl rfl hl.1 rfl (lv_room (Nat.le_of_ble_eq_true rfl)) dX2_passSum_2 ⟨Nat.le_of_ble_eq_true rfl, Nat.le_of_ble_eq_true rfl⟩) hS (fun r_1 G_2 H locs hpo hW hS => ?_)
  obtain ⟨hB_G_2, hq_3, f_5⟩ := hpo
  have hF := hF.call hq_3 (by decide) (by decide)
  refine lv_if_ne (tgt := 10) hx hb dX2_passSum_5 (by decide) (fun c_6 => ?_) (fun c_6 => ?_)
  · have c_6 : r_1.toInt ≠ 0 := xI_ne rfl rfl c_6
    refine lv_iconst (v := 0) hx hb dX2_passSum_10 (by decide) ?_
    refine lv_istore_n (lv' := [(2, .int 0), (0, .ref (a 4)), (1, .int p0)]) hx hb dX2_passSum_11 rfl hl (by decide) rfl (fun ls hl => ?_)
    have qc_12 : (0 : Int32).toInt = 0 := rfl
    refine loop_N (Inv := fun n H locs ls => ∃ (G_7 : GS) (x_11 : Int32), (n : Int) = 1600 - x_11.toInt ∧ (0 ≤ x_11.toInt ∧ x_11.toInt ≤ 1600) ∧ Wd D k A a G_7 H ∧ Bd G_7 ∧ Fr [27] [(2, 12), (2, 13), (3, 2), (3, 3), (3, 4), (3, 5), (3, 6), (3, 7), (3, 8), (4, 2)] G G_7 ∧ Fr [27] [(2, 12), (2, 13), (3, 2), (3, 3), (3, 4), (3, 5), (3, 6), (3, 7), (3, 8), (4, 2)] G_2 G_7 ∧ va_S A s.heap H locs ∧ lv_has ls 4 [(2, .int x_11), (0, .ref (a 4)), (1, .int p0)]) (fun n_10 H locs ls ih_9 hI => ?_) (1600 - 0 : Int).toNat ⟨G_2, 0, (Int.toNat_of_nonneg (by omega)), ⟨by omega, by omega⟩, hW, hB_G_2, hF, Fr.rf, hS, lv_sub hl [0, 1, 2] rfl⟩
    obtain ⟨G_7, x_11, hn_14, f_13, hW, hB_G_7, hF, hq_8, hS, hl⟩ := hI
    refine lv_iload_n hx hb dX2_passSum_12 rfl (lv_at hl 0 rfl) ?_
    refine lv_sipush (v := 1600) hx hb dX2_passSum_13 (by decide) ?_
    refine lv_icmp_ge (tgt := 84) hx hb dX2_passSum_16 (by decide) (fun c_15 => ?_) (fun c_15 => ?_)
    · have c_15 : 1600 ≤ x_11.toInt := xI_le rfl rfl c_15
      refine lv_iconst (v := 1) hx hb dX2_passSum_84 (by decide) ?_
      exact W.zret (v := 1) hx hb hr (by decide) (fun t ht _ => ⟨⟨1, G_7, rfl, ⟨hB_G_7, hF, ⟨by decide, by decide⟩⟩, wd_t ht hW⟩, hS.F ht⟩) hS.2.2 dX2_passSum_85
    · have c_15 : x_11.toInt < 1600 := xI_nle rfl rfl c_15
      refine lv_aload_n hx hb dX2_passSum_19 rfl (lv_at hl 1 rfl) ?_
      refine S_getR (n := 3) (C := RX2) (T := TX2) (N := 3) hx hb hg iX2 hown hK hW kd_4 rfl 0 (by decide) (hg (Cond.fieldLink RX2 9 "SlabWalk$Formulas" "tokens" "LSlabWalk$Tokens;") m301) (fun _ h9 => h9) rfl dX2_passSum_20 ?_
      refine S_getI (v := (G_7.1 3 3)) (C := RX9) (T := TX9) (N := 9) hx hb hg iX9 hown hK hW kd_3 rfl 3 (by decide) (hg (Cond.fieldLink RX2 30 "SlabWalk$Tokens" "kind" "I") m263) (fun _ h9 => h9) rfl rfl dX2_passSum_23 ?_
      refine lv_bipush (v := 43) hx hb dX2_passSum_26 (by decide) ?_
      refine W.cut (σ := Unit) (pcJ := 43) (J := fun y H locs ls => ∃ (G_19 : GS), Wd D k A a G_19 H ∧ Bd G_19 ∧ Fr [27] [(2, 12), (2, 13), (3, 2), (3, 3), (3, 4), (3, 5), (3, 6), (3, 7), (3, 8), (4, 2)] G G_19 ∧ Fr [] [] G_7 G_19 ∧ va_S A s.heap H locs ∧ lv_has ls 4 [(2, .int x_11), (0, .ref (a 4)), (1, .int p0)]) (stJ := fun _ => []) ?_ (fun hJ_20 => ?_)
      · intro y H locs ls hI
        obtain ⟨G_19, hW, hB_G_19, hF, hq_21, hS, hl⟩ := hI
        refine lv_aload_n hx hb dX2_passSum_43 rfl (lv_at hl 1 rfl) ?_
        refine S_getR (n := 3) (C := RX2) (T := TX2) (N := 3) hx hb hg iX2 hown hK hW kd_4 rfl 0 (by decide) (hg (Cond.fieldLink RX2 9 "SlabWalk$Formulas" "tokens" "LSlabWalk$Tokens;") m301) (fun _ h9 => h9) rfl dX2_passSum_44 ?_
        refine S_getI (v := (G_7.1 3 3)) (C := RX9) (T := TX9) (N := 9) hx hb hg iX9 hown hK hW kd_3 rfl 3 (by decide) (hg (Cond.fieldLink RX2 30 "SlabWalk$Tokens" "kind" "I") m263) (fun _ h9 => h9) rfl ((hq_21.i 3 3 (by decide) (by decide)).trans (rfl)) dX2_passSum_47 ?_
        refine lv_istore_n (lv' := [(3, .int (G_7.1 3 3)), (2, .int x_11), (0, .ref (a 4)), (1, .int p0)]) hx hb dX2_passSum_50 rfl hl (by decide) rfl (fun ls hl => ?_)
        refine lv_aload_n hx hb dX2_passSum_51 rfl (lv_at hl 2 rfl) ?_
        refine S_getR (n := 3) (C := RX2) (T := TX2) (N := 3) hx hb hg iX2 hown hK hW kd_4 rfl 0 (by decide) (hg (Cond.fieldLink RX2 9 "SlabWalk$Formulas" "tokens" "LSlabWalk$Tokens;") m301) (fun _ h9 => h9) rfl dX2_passSum_52 ?_
        refine S_calli (va_runV (As := []) (rest := []) ⟨hx, hb, hml, hown, hts⟩ (k_tAdvance l D k A a z G_19  ) (cwV 0 hts (gd_V hgd m854 m639 m640 m120 m641) rfl rfl rfl (by decide +kernel) ⟨show 6 + 1 ≤ fn + 10 from by omega, show 8 + (2 + 11) + (127) ≤ ln + 213 from by omega⟩) (pre_V hW hB_G_19 hK hZ hS kd_3 rfl) rfl rfl hl.1 rfl (lv_room (Nat.le_of_ble_eq_true rfl)) dX2_passSum_55 ⟨Nat.le_of_ble_eq_true rfl, Nat.le_of_ble_eq_true rfl⟩) hS (fun r_22 G_23 H locs hpo hW hS => ?_)
        obtain ⟨hB_G_23, hq_24, f_26⟩ := hpo
        have hF := hF.call hq_24 (by decide) (by decide)
        refine lv_pop hx hb dX2_passSum_58 rfl ?_
        refine lv_aload_n hx hb dX2_passSum_59 rfl (lv_at hl 2 rfl) ?_
        refine lv_iload_n hx hb dX2_passSum_60 rfl (lv_at hl 3 rfl) ?_
        refine S_calli (va_runV (As := [.int p0]) (rest := []) ⟨hx, hb, hml, hown, hts⟩ (k_fTerm_2_s l D k A a z fn ln n hE hO G_23 p0 ⟨by omega, by omega⟩ ((((hq_24.r 4 1 (by decide) (by decide)).trans ((hq_21.r 4 1 (by decide) (by decide)).trans ((hq_8.r 4 1 (by decide) (by decide)).trans (hq_3.r 4 1 (by decide) (by decide)))))).trans (hv_4_1)) (by omega)) (cwV 1 hts (gd_V hgd m841 m843 m21 m121 m844) rfl rfl rfl (by decide +kernel) ⟨show fn + 9 + 1 ≤ fn + 10 from by omega, show 8 + (4 + 11) + (ln + 190) ≤ ln + 213 from by omega⟩) (pre_V hW hB_G_23 hK hZ hS kd_4 rfl) rfl rfl hl.1 rfl (lv_room (Nat.le_of_ble_eq_true rfl)) dX2_passSum_61 ⟨Nat.le_of_ble_eq_true rfl, Nat.le_of_ble_eq_true rfl⟩) hS (fun r_27 G_28 H locs hpo hW hS => ?_)
        obtain ⟨hB_G_28, hq_29, f_31⟩ := hpo
        have hF := hF.call hq_29 (by decide) (by decide)
        refine lv_if_ne (tgt := 69) hx hb dX2_passSum_64 (by decide) (fun c_32 => ?_) (fun c_32 => ?_)
        · have c_32 : r_27.toInt ≠ 0 := xI_ne rfl rfl c_32
          refine lv_aload_n hx hb dX2_passSum_69 rfl (lv_at hl 2 rfl) ?_
          refine S_getV (n := 2) (C := RX2) (T := TX2) (N := 3) hx hb hg iX2 hown hK hW kd_4 rfl 1 (by decide) (hg (Cond.fieldLink RX2 15 "SlabWalk$Formulas" "paving" "LSlabWalk$Paving;") m302) (fun _ h9 => h9) rfl ((((hq_29.r 4 1 (by decide) (by decide)).trans ((hq_24.r 4 1 (by decide) (by decide)).trans ((hq_21.r 4 1 (by decide) (by decide)).trans ((hq_8.r 4 1 (by decide) (by decide)).trans (hq_3.r 4 1 (by decide) (by decide))))))).trans (hv_4_1)) dX2_passSum_70 ?_
          refine lv_iload_n hx hb dX2_passSum_73 rfl (lv_at hl 0 rfl) ?_
          refine lv_iconst (v := 0) hx hb dX2_passSum_74 (by decide) ?_
          refine S_callv (va_runV (As := [.int (G_7.1 3 3), .int 0]) (rest := []) ⟨hx, hb, hml, hown, hts⟩ (k_emit_2 l D k A a z G_28 (G_7.1 3 3) 0 ) (cwV 2 hts (gd_V hgd m855 m856 m857 m118 m858) rfl rfl rfl (by decide +kernel) ⟨show 0 + 1 ≤ fn + 10 from by omega, show 8 + (3 + 11) + (0) ≤ ln + 213 from by omega⟩) (pre_V hW hB_G_28 hK hZ hS kd_2 rfl) rfl rfl hl.1 rfl (lv_room (Nat.le_of_ble_eq_true rfl)) dX2_passSum_75 ⟨Nat.le_of_ble_eq_true rfl, Nat.le_of_ble_eq_true rfl⟩) hS (fun G_34 H locs hpo hW hS => ?_)
          obtain ⟨hB_G_34, hq_35⟩ := hpo
          have hF := hF.call hq_35 (by decide) (by decide)
          obtain ⟨y_37, ey_37⟩ : ∃ q, q = x_11 + 1 := ⟨_, rfl⟩
          have ty_37 : y_37.toInt = x_11.toInt + 1 := xI_add rfl rfl ey_37 (by omega) (by omega)
          refine lv_iinc (v := y_37) (lv' := [(2, .int y_37), (3, .int (G_7.1 3 3)), (0, .ref (a 4)), (1, .int p0)]) hx hb dX2_passSum_78 hl (k := 1) rfl (by rw [ey_37]; rfl) (by decide) rfl (fun ls hl => ?_)
          refine lv_goto (tgt := 12) hx hb dX2_passSum_81 (by decide) ?_
          exact ih_9 (1600 - y_37.toInt : Int).toNat (by omega) _ _ _ ⟨G_34, y_37, (Int.toNat_of_nonneg (by omega)), ⟨by omega, by omega⟩, hW, hB_G_34, hF, (((((Fr.rf.call hq_8 (by decide) (by decide)).call hq_21 (by decide) (by decide)).call hq_24 (by decide) (by decide)).call hq_29 (by decide) (by decide)).call hq_35 (by decide) (by decide)), hS, lv_sub hl [0, 2, 3] rfl⟩
        · have c_32 : r_27.toInt = 0 := xI_eq rfl rfl c_32
          refine lv_iconst (v := 0) hx hb dX2_passSum_67 (by decide) ?_
          exact W.zret (v := 0) hx hb hr (by decide) (fun t ht _ => ⟨⟨0, G_28, rfl, ⟨hB_G_28, hF, ⟨by decide, by decide⟩⟩, wd_t ht hW⟩, hS.F ht⟩) hS.2.2 dX2_passSum_68
      refine lv_icmp_eq (tgt := 43) hx hb dX2_passSum_28 (by decide) (fun c_38 => ?_) (fun c_38 => ?_)
      · have c_38 : (G_7.1 3 3).toInt = 43 := xI_eq rfl rfl c_38
        exact hJ_20 () _ _ _ ⟨G_7, hW, hB_G_7, hF, Fr.rf, hS, lv_sub hl [0, 1, 2] rfl⟩
      · have c_38 : (G_7.1 3 3).toInt ≠ 43 := xI_ne rfl rfl c_38
        refine lv_aload_n hx hb dX2_passSum_31 rfl (lv_at hl 1 rfl) ?_
        refine S_getR (n := 3) (C := RX2) (T := TX2) (N := 3) hx hb hg iX2 hown hK hW kd_4 rfl 0 (by decide) (hg (Cond.fieldLink RX2 9 "SlabWalk$Formulas" "tokens" "LSlabWalk$Tokens;") m301) (fun _ h9 => h9) rfl dX2_passSum_32 ?_
        refine S_getI (v := (G_7.1 3 3)) (C := RX9) (T := TX9) (N := 9) hx hb hg iX9 hown hK hW kd_3 rfl 3 (by decide) (hg (Cond.fieldLink RX2 30 "SlabWalk$Tokens" "kind" "I") m263) (fun _ h9 => h9) rfl rfl dX2_passSum_35 ?_
        refine lv_bipush (v := 45) hx hb dX2_passSum_38 (by decide) ?_
        refine lv_icmp_ne (tgt := 84) hx hb dX2_passSum_40 (by decide) (fun c_39 => ?_) (fun c_39 => ?_)
        · have c_39 : (G_7.1 3 3).toInt ≠ 45 := xI_ne rfl rfl c_39
          refine lv_iconst (v := 1) hx hb dX2_passSum_84 (by decide) ?_
          exact W.zret (v := 1) hx hb hr (by decide) (fun t ht _ => ⟨⟨1, G_7, rfl, ⟨hB_G_7, hF, ⟨by decide, by decide⟩⟩, wd_t ht hW⟩, hS.F ht⟩) hS.2.2 dX2_passSum_85
        · have c_39 : (G_7.1 3 3).toInt = 45 := xI_eq rfl rfl c_39
          exact hJ_20 () _ _ _ ⟨G_7, hW, hB_G_7, hF, Fr.rf, hS, lv_sub hl [0, 1, 2] rfl⟩
  · have c_6 : r_1.toInt = 0 := xI_eq rfl rfl c_6
    refine lv_iconst (v := 0) hx hb dX2_passSum_8 (by decide) ?_
    exact W.zret (v := 0) hx hb hr (by decide) (fun t ht _ => ⟨⟨0, G_2, rfl, ⟨hB_G_2, hF, ⟨by decide, by decide⟩⟩, wd_t ht hW⟩, hS.F ht⟩) hS.2.2 dX2_passSum_9

set_option maxHeartbeats 4000000 in
set_option maxRecDepth 100000 in
theorem k_fRelation_2_s (l : Launch) (D : va_G) (k : KT) (A : Nat → Prop) (a : Nat → Nat) (z : SK) (fn ln n : Nat) (hE : ∀ (G : GS) (p0 : Int32) (ha_p0 : 0 ≤ p0.toInt ∧ p0.toInt ≤ 7) (hv_4_1 : G.2.2 4 1 = 2) (hd : 7 ≤ p0.toInt + (n : Int)), Met l yX2_passEither (WS yX2_passEither cX2_passEither 3 (some .boolean)) ({ frames := fn + 2, cells := 0, slots := 0, locals := ln + 43 }) (va_Pc [.ref (a 4), .int p0] (cW D k A a z G)) (va_Qi (fun (r : Int32) (G1 : GS) => Bd G1 ∧ Fr [27] [(2, 12), (2, 13), (3, 2), (3, 3), (3, 4), (3, 5), (3, 6), (3, 7), (3, 8), (4, 2)] G G1 ∧ (0 ≤ r.toInt ∧ r.toInt ≤ 1)) (fun (G1 : GS) t => Wd D k A a G1 t.heap) A) 0 0 A) (hO : ∀ (G : GS) (p0 : Int32) (ha_p0 : 0 ≤ p0.toInt ∧ p0.toInt ≤ 7) (hv_4_1 : G.2.2 4 1 = 2) (hd : 7 ≤ p0.toInt + (n : Int)), Met l yX2_passOne (WS yX2_passOne cX2_passOne 2 (some .boolean)) ({ frames := fn + 0, cells := 0, slots := 0, locals := ln + 0 }) (va_Pc [.ref (a 4), .int p0] (cW D k A a z G)) (va_Qi (fun (r : Int32) (G1 : GS) => Bd G1 ∧ Fr [27] [(2, 12), (2, 13), (3, 2), (3, 3), (3, 4), (3, 5), (3, 6), (3, 7), (3, 8), (4, 2)] G G1 ∧ (0 ≤ r.toInt ∧ r.toInt ≤ 1)) (fun (G1 : GS) t => Wd D k A a G1 t.heap) A) 0 0 A) (G : GS) (p0 : Int32) (ha_p0 : 0 ≤ p0.toInt ∧ p0.toInt ≤ 7) (hv_4_1 : G.2.2 4 1 = 2) (hd : 7 ≤ p0.toInt + (n : Int) + 1) : Met l yX2_passRelation (WS yX2_passRelation cX2_passRelation 3 (some .boolean)) ({ frames := fn + 11, cells := 0, slots := 0, locals := ln + 236 }) (va_Pc [.ref (a 4), .int p0] (cW D k A a z G)) (va_Qi (fun (r : Int32) (G1 : GS) => Bd G1 ∧ Fr [27] [(2, 12), (2, 13), (3, 2), (3, 3), (3, 4), (3, 5), (3, 6), (3, 7), (3, 8), (4, 2)] G G1 ∧ (0 ≤ r.toInt ∧ r.toInt ≤ 1)) (fun (G1 : GS) t => Wd D k A a G1 t.heap) A) 0 0 A := by
  refine Met.ofW (cc := cX2_passRelation) (maxL := 3) (ret := (some .boolean)) (by decide) rfl ?_
  intro p e s m args below meth c s₁ B hml hv
  obtain ⟨rfl, hW, hB_G, hK, hZ⟩ := hv
  have hx := B.exec
  have hb := B.bytes
  have hr := B.returns
  have hts := atoms_spec (ws := WS yX2_passRelation cX2_passRelation 3 (some .boolean)) B.pre
  have hgd : ∀ w ∈ gd, w ∈ WS yX2_passRelation cX2_passRelation 3 (some .boolean) := fun w h => List.mem_cons_of_mem _ h
  have hg : ∀ w ∈ gd, w.before _ s = true := fun w h => hts w (hgd w h)
  have hown : s.vm.findClass RX2 = some m.cls := findClass_of_methodNamed B.named
  have hS : va_S A s.heap s.heap [] := va_S.rf
  have hF : Fr [27] [(2, 12), (2, 13), (3, 2), (3, 3), (3, 4), (3, 5), (3, 6), (3, 7), (3, 8), (4, 2)] G G := Fr.rf
  have hl := lv_entry ([.ref (a 4), .int p0]) (n := 3) (Nat.le_of_ble_eq_true rfl)
  rw [lg_entry_eq]
  generalize (lg_sl ([.ref (a 4), .int p0]) ++ List.replicate (3 - (lg_sl ([.ref (a 4), .int p0])).length) Slot.unset).toArray = ls at hl ⊢
  have hl : lv_has ls 3 [(0, .ref (a 4)), (1, .int p0)] := hl
  refine lv_aload_n hx hb dX2_passRelation_0 rfl (lv_at hl 0 rfl) ?_
  refine lv_iload_n hx hb dX2_passRelation_1 rfl (lv_at hl 1 rfl) ?_
  refine S_calli (va_runV (As := [.int p0]) (rest := []) ⟨hx, hb, hml, hown, hts⟩ (k_fSum_2_s l D k A a z fn ln n hE hO G p0 ⟨by omega, by omega⟩ hv_4_1 (by omega)) (cwV 1 hts (gd_V hgd m837 m839 m20 m121 m840) rfl rfl rfl (by decide +kernel) ⟨show fn + 10 + 1 ≤ fn + 11 from by omega, show 8 + (4 + 11) + (ln + 213) ≤ ln + 236 from by omega⟩) (pre_V hW hB_G hK hZ hS kd_4 rfl) rfl rfl hl.1 rfl (lv_room (Nat.le_of_ble_eq_true rfl)) dX2_passRelation_2 ⟨Nat.le_of_ble_eq_true rfl, Nat.le_of_ble_eq_true rfl⟩) hS (fun r_1 G_2 H locs hpo hW hS => ?_)
  obtain ⟨hB_G_2, hq_3, f_5⟩ := hpo
  have hF := hF.call hq_3 (by decide) (by decide)
  refine lv_if_ne (tgt := 10) hx hb dX2_passRelation_5 (by decide) (fun c_6 => ?_) (fun c_6 => ?_)
  · have c_6 : r_1.toInt ≠ 0 := xI_ne rfl rfl c_6
    refine lv_aload_n hx hb dX2_passRelation_10 rfl (lv_at hl 0 rfl) ?_
    refine S_getR (n := 3) (C := RX2) (T := TX2) (N := 3) hx hb hg iX2 hown hK hW kd_4 rfl 0 (by decide) (hg (Cond.fieldLink RX2 9 "SlabWalk$Formulas" "tokens" "LSlabWalk$Tokens;") m301) (fun _ h9 => h9) rfl dX2_passRelation_11 ?_
    refine S_getI (v := (G_2.1 3 3)) (C := RX9) (T := TX9) (N := 9) hx hb hg iX9 hown hK hW kd_3 rfl 3 (by decide) (hg (Cond.fieldLink RX2 30 "SlabWalk$Tokens" "kind" "I") m263) (fun _ h9 => h9) rfl rfl dX2_passRelation_14 ?_
    refine lv_istore_n (lv' := [(2, .int (G_2.1 3 3)), (0, .ref (a 4)), (1, .int p0)]) hx hb dX2_passRelation_17 rfl hl (by decide) rfl (fun ls hl => ?_)
    refine lv_iload_n hx hb dX2_passRelation_18 rfl (lv_at hl 0 rfl) ?_
    refine lv_bipush (v := 60) hx hb dX2_passRelation_19 (by decide) ?_
    refine W.cut (σ := Unit) (pcJ := 38) (J := fun y H locs ls => ∃ (G_10 : GS), Wd D k A a G_10 H ∧ Bd G_10 ∧ Fr [27] [(2, 12), (2, 13), (3, 2), (3, 3), (3, 4), (3, 5), (3, 6), (3, 7), (3, 8), (4, 2)] G G_10 ∧ Fr [] [] G_2 G_10 ∧ va_S A s.heap H locs ∧ lv_has ls 3 [(2, .int (G_2.1 3 3)), (0, .ref (a 4)), (1, .int p0)]) (stJ := fun _ => []) ?_ (fun hJ_11 => ?_)
    · intro y H locs ls hI
      obtain ⟨G_10, hW, hB_G_10, hF, hq_12, hS, hl⟩ := hI
      refine lv_aload_n hx hb dX2_passRelation_38 rfl (lv_at hl 1 rfl) ?_
      refine S_getR (n := 3) (C := RX2) (T := TX2) (N := 3) hx hb hg iX2 hown hK hW kd_4 rfl 0 (by decide) (hg (Cond.fieldLink RX2 9 "SlabWalk$Formulas" "tokens" "LSlabWalk$Tokens;") m301) (fun _ h9 => h9) rfl dX2_passRelation_39 ?_
      refine S_calli (va_runV (As := []) (rest := []) ⟨hx, hb, hml, hown, hts⟩ (k_tAdvance l D k A a z G_10  ) (cwV 0 hts (gd_V hgd m854 m639 m640 m120 m641) rfl rfl rfl (by decide +kernel) ⟨show 6 + 1 ≤ fn + 11 from by omega, show 8 + (2 + 11) + (127) ≤ ln + 236 from by omega⟩) (pre_V hW hB_G_10 hK hZ hS kd_3 rfl) rfl rfl hl.1 rfl (lv_room (Nat.le_of_ble_eq_true rfl)) dX2_passRelation_42 ⟨Nat.le_of_ble_eq_true rfl, Nat.le_of_ble_eq_true rfl⟩) hS (fun r_13 G_14 H locs hpo hW hS => ?_)
      obtain ⟨hB_G_14, hq_15, f_17⟩ := hpo
      have hF := hF.call hq_15 (by decide) (by decide)
      refine lv_pop hx hb dX2_passRelation_45 rfl ?_
      refine lv_aload_n hx hb dX2_passRelation_46 rfl (lv_at hl 1 rfl) ?_
      refine lv_iload_n hx hb dX2_passRelation_47 rfl (lv_at hl 2 rfl) ?_
      refine S_calli (va_runV (As := [.int p0]) (rest := []) ⟨hx, hb, hml, hown, hts⟩ (k_fSum_2_s l D k A a z fn ln n hE hO G_14 p0 ⟨by omega, by omega⟩ ((((hq_15.r 4 1 (by decide) (by decide)).trans ((hq_12.r 4 1 (by decide) (by decide)).trans (hq_3.r 4 1 (by decide) (by decide))))).trans (hv_4_1)) (by omega)) (cwV 1 hts (gd_V hgd m837 m839 m20 m121 m840) rfl rfl rfl (by decide +kernel) ⟨show fn + 10 + 1 ≤ fn + 11 from by omega, show 8 + (4 + 11) + (ln + 213) ≤ ln + 236 from by omega⟩) (pre_V hW hB_G_14 hK hZ hS kd_4 rfl) rfl rfl hl.1 rfl (lv_room (Nat.le_of_ble_eq_true rfl)) dX2_passRelation_48 ⟨Nat.le_of_ble_eq_true rfl, Nat.le_of_ble_eq_true rfl⟩) hS (fun r_18 G_19 H locs hpo hW hS => ?_)
      obtain ⟨hB_G_19, hq_20, f_22⟩ := hpo
      have hF := hF.call hq_20 (by decide) (by decide)
      refine lv_if_ne (tgt := 56) hx hb dX2_passRelation_51 (by decide) (fun c_23 => ?_) (fun c_23 => ?_)
      · have c_23 : r_18.toInt ≠ 0 := xI_ne rfl rfl c_23
        refine lv_aload_n hx hb dX2_passRelation_56 rfl (lv_at hl 1 rfl) ?_
        refine S_getV (n := 2) (C := RX2) (T := TX2) (N := 3) hx hb hg iX2 hown hK hW kd_4 rfl 1 (by decide) (hg (Cond.fieldLink RX2 15 "SlabWalk$Formulas" "paving" "LSlabWalk$Paving;") m302) (fun _ h9 => h9) rfl ((((hq_20.r 4 1 (by decide) (by decide)).trans ((hq_15.r 4 1 (by decide) (by decide)).trans ((hq_12.r 4 1 (by decide) (by decide)).trans (hq_3.r 4 1 (by decide) (by decide)))))).trans (hv_4_1)) dX2_passRelation_57 ?_
        refine lv_iload_n hx hb dX2_passRelation_60 rfl (lv_at hl 0 rfl) ?_
        refine lv_iconst (v := 0) hx hb dX2_passRelation_61 (by decide) ?_
        refine S_callv (va_runV (As := [.int (G_2.1 3 3), .int 0]) (rest := []) ⟨hx, hb, hml, hown, hts⟩ (k_emit_2 l D k A a z G_19 (G_2.1 3 3) 0 ) (cwV 2 hts (gd_V hgd m855 m856 m857 m118 m858) rfl rfl rfl (by decide +kernel) ⟨show 0 + 1 ≤ fn + 11 from by omega, show 8 + (3 + 11) + (0) ≤ ln + 236 from by omega⟩) (pre_V hW hB_G_19 hK hZ hS kd_2 rfl) rfl rfl hl.1 rfl (lv_room (Nat.le_of_ble_eq_true rfl)) dX2_passRelation_62 ⟨Nat.le_of_ble_eq_true rfl, Nat.le_of_ble_eq_true rfl⟩) hS (fun G_25 H locs hpo hW hS => ?_)
        obtain ⟨hB_G_25, hq_26⟩ := hpo
        have hF := hF.call hq_26 (by decide) (by decide)
        refine lv_iconst (v := 1) hx hb dX2_passRelation_65 (by decide) ?_
        exact W.zret (v := 1) hx hb hr (by decide) (fun t ht _ => ⟨⟨1, G_25, rfl, ⟨hB_G_25, hF, ⟨by decide, by decide⟩⟩, wd_t ht hW⟩, hS.F ht⟩) hS.2.2 dX2_passRelation_66
      · have c_23 : r_18.toInt = 0 := xI_eq rfl rfl c_23
        refine lv_iconst (v := 0) hx hb dX2_passRelation_54 (by decide) ?_
        exact W.zret (v := 0) hx hb hr (by decide) (fun t ht _ => ⟨⟨0, G_19, rfl, ⟨hB_G_19, hF, ⟨by decide, by decide⟩⟩, wd_t ht hW⟩, hS.F ht⟩) hS.2.2 dX2_passRelation_55
    refine lv_icmp_eq (tgt := 38) hx hb dX2_passRelation_21 (by decide) (fun c_28 => ?_) (fun c_28 => ?_)
    · have c_28 : (G_2.1 3 3).toInt = 60 := xI_eq rfl rfl c_28
      exact hJ_11 () _ _ _ ⟨G_2, hW, hB_G_2, hF, Fr.rf, hS, lv_sub hl [0, 1, 2] rfl⟩
    · have c_28 : (G_2.1 3 3).toInt ≠ 60 := xI_ne rfl rfl c_28
      refine lv_iload_n hx hb dX2_passRelation_24 rfl (lv_at hl 0 rfl) ?_
      refine lv_bipush (v := 62) hx hb dX2_passRelation_25 (by decide) ?_
      refine lv_icmp_eq (tgt := 38) hx hb dX2_passRelation_27 (by decide) (fun c_29 => ?_) (fun c_29 => ?_)
      · have c_29 : (G_2.1 3 3).toInt = 62 := xI_eq rfl rfl c_29
        exact hJ_11 () _ _ _ ⟨G_2, hW, hB_G_2, hF, Fr.rf, hS, lv_sub hl [0, 1, 2] rfl⟩
      · have c_29 : (G_2.1 3 3).toInt ≠ 62 := xI_ne rfl rfl c_29
        refine lv_iload_n hx hb dX2_passRelation_30 rfl (lv_at hl 0 rfl) ?_
        refine lv_bipush (v := 61) hx hb dX2_passRelation_31 (by decide) ?_
        refine lv_icmp_eq (tgt := 38) hx hb dX2_passRelation_33 (by decide) (fun c_30 => ?_) (fun c_30 => ?_)
        · have c_30 : (G_2.1 3 3).toInt = 61 := xI_eq rfl rfl c_30
          exact hJ_11 () _ _ _ ⟨G_2, hW, hB_G_2, hF, Fr.rf, hS, lv_sub hl [0, 1, 2] rfl⟩
        · have c_30 : (G_2.1 3 3).toInt ≠ 61 := xI_ne rfl rfl c_30
          refine lv_iconst (v := 1) hx hb dX2_passRelation_36 (by decide) ?_
          exact W.zret (v := 1) hx hb hr (by decide) (fun t ht _ => ⟨⟨1, G_2, rfl, ⟨hB_G_2, hF, ⟨by decide, by decide⟩⟩, wd_t ht hW⟩, hS.F ht⟩) hS.2.2 dX2_passRelation_37
  · have c_6 : r_1.toInt = 0 := xI_eq rfl rfl c_6
    refine lv_iconst (v := 0) hx hb dX2_passRelation_8 (by decide) ?_
    exact W.zret (v := 0) hx hb hr (by decide) (fun t ht _ => ⟨⟨0, G_2, rfl, ⟨hB_G_2, hF, ⟨by decide, by decide⟩⟩, wd_t ht hW⟩, hS.F ht⟩) hS.2.2 dX2_passRelation_9

set_option maxHeartbeats 4000000 in
set_option maxRecDepth 100000 in
theorem k_fOne_2_s (l : Launch) (D : va_G) (k : KT) (A : Nat → Prop) (a : Nat → Nat) (z : SK) (fn ln n : Nat) (hE : ∀ (G : GS) (p0 : Int32) (ha_p0 : 0 ≤ p0.toInt ∧ p0.toInt ≤ 7) (hv_4_1 : G.2.2 4 1 = 2) (hd : 7 ≤ p0.toInt + (n : Int)), Met l yX2_passEither (WS yX2_passEither cX2_passEither 3 (some .boolean)) ({ frames := fn + 2, cells := 0, slots := 0, locals := ln + 43 }) (va_Pc [.ref (a 4), .int p0] (cW D k A a z G)) (va_Qi (fun (r : Int32) (G1 : GS) => Bd G1 ∧ Fr [27] [(2, 12), (2, 13), (3, 2), (3, 3), (3, 4), (3, 5), (3, 6), (3, 7), (3, 8), (4, 2)] G G1 ∧ (0 ≤ r.toInt ∧ r.toInt ≤ 1)) (fun (G1 : GS) t => Wd D k A a G1 t.heap) A) 0 0 A) (hO : ∀ (G : GS) (p0 : Int32) (ha_p0 : 0 ≤ p0.toInt ∧ p0.toInt ≤ 7) (hv_4_1 : G.2.2 4 1 = 2) (hd : 7 ≤ p0.toInt + (n : Int)), Met l yX2_passOne (WS yX2_passOne cX2_passOne 2 (some .boolean)) ({ frames := fn + 0, cells := 0, slots := 0, locals := ln + 0 }) (va_Pc [.ref (a 4), .int p0] (cW D k A a z G)) (va_Qi (fun (r : Int32) (G1 : GS) => Bd G1 ∧ Fr [27] [(2, 12), (2, 13), (3, 2), (3, 3), (3, 4), (3, 5), (3, 6), (3, 7), (3, 8), (4, 2)] G G1 ∧ (0 ≤ r.toInt ∧ r.toInt ≤ 1)) (fun (G1 : GS) t => Wd D k A a G1 t.heap) A) 0 0 A) (G : GS) (p0 : Int32) (ha_p0 : 0 ≤ p0.toInt ∧ p0.toInt ≤ 7) (hv_4_1 : G.2.2 4 1 = 2) (hd : 7 ≤ p0.toInt + (n : Int) + 1) : Met l yX2_passOne (WS yX2_passOne cX2_passOne 2 (some .boolean)) ({ frames := fn + 12, cells := 0, slots := 0, locals := ln + 258 }) (va_Pc [.ref (a 4), .int p0] (cW D k A a z G)) (va_Qi (fun (r : Int32) (G1 : GS) => Bd G1 ∧ Fr [27] [(2, 12), (2, 13), (3, 2), (3, 3), (3, 4), (3, 5), (3, 6), (3, 7), (3, 8), (4, 2)] G G1 ∧ (0 ≤ r.toInt ∧ r.toInt ≤ 1)) (fun (G1 : GS) t => Wd D k A a G1 t.heap) A) 0 0 A := by
  refine Met.ofW (cc := cX2_passOne) (maxL := 2) (ret := (some .boolean)) (by decide) rfl ?_
  intro p e s m args below meth c s₁ B hml hv
  obtain ⟨rfl, hW, hB_G, hK, hZ⟩ := hv
  have hx := B.exec
  have hb := B.bytes
  have hr := B.returns
  have hts := atoms_spec (ws := WS yX2_passOne cX2_passOne 2 (some .boolean)) B.pre
  have hgd : ∀ w ∈ gd, w ∈ WS yX2_passOne cX2_passOne 2 (some .boolean) := fun w h => List.mem_cons_of_mem _ h
  have hg : ∀ w ∈ gd, w.before _ s = true := fun w h => hts w (hgd w h)
  have hown : s.vm.findClass RX2 = some m.cls := findClass_of_methodNamed B.named
  have hS : va_S A s.heap s.heap [] := va_S.rf
  have hF : Fr [27] [(2, 12), (2, 13), (3, 2), (3, 3), (3, 4), (3, 5), (3, 6), (3, 7), (3, 8), (4, 2)] G G := Fr.rf
  have hl := lv_entry ([.ref (a 4), .int p0]) (n := 2) (Nat.le_of_ble_eq_true rfl)
  rw [lg_entry_eq]
  generalize (lg_sl ([.ref (a 4), .int p0]) ++ List.replicate (2 - (lg_sl ([.ref (a 4), .int p0])).length) Slot.unset).toArray = ls at hl ⊢
  have hl : lv_has ls 2 [(0, .ref (a 4)), (1, .int p0)] := hl
  refine lv_aload_n hx hb dX2_passOne_0 rfl (lv_at hl 0 rfl) ?_
  refine S_getR (n := 3) (C := RX2) (T := TX2) (N := 3) hx hb hg iX2 hown hK hW kd_4 rfl 0 (by decide) (hg (Cond.fieldLink RX2 9 "SlabWalk$Formulas" "tokens" "LSlabWalk$Tokens;") m301) (fun _ h9 => h9) rfl dX2_passOne_1 ?_
  refine S_getI (v := (G.1 3 3)) (C := RX9) (T := TX9) (N := 9) hx hb hg iX9 hown hK hW kd_3 rfl 3 (by decide) (hg (Cond.fieldLink RX2 30 "SlabWalk$Tokens" "kind" "I") m263) (fun _ h9 => h9) rfl rfl dX2_passOne_4 ?_
  refine lv_sipush (v := 146) hx hb dX2_passOne_7 (by decide) ?_
  refine lv_icmp_eq (tgt := 19) hx hb dX2_passOne_10 (by decide) (fun c_1 => ?_) (fun c_1 => ?_)
  · have c_1 : (G.1 3 3).toInt = 146 := xI_eq rfl rfl c_1
    refine lv_iload_n hx hb dX2_passOne_19 rfl (lv_at hl 1 rfl) ?_
    refine lv_bipush (v := 6) hx hb dX2_passOne_20 (by decide) ?_
    refine lv_icmp_le (tgt := 34) hx hb dX2_passOne_22 (by decide) (fun c_2 => ?_) (fun c_2 => ?_)
    · have c_2 : p0.toInt ≤ 6 := xI_le rfl rfl c_2
      refine lv_aload_n hx hb dX2_passOne_34 rfl (lv_at hl 0 rfl) ?_
      refine S_getR (n := 3) (C := RX2) (T := TX2) (N := 3) hx hb hg iX2 hown hK hW kd_4 rfl 0 (by decide) (hg (Cond.fieldLink RX2 9 "SlabWalk$Formulas" "tokens" "LSlabWalk$Tokens;") m301) (fun _ h9 => h9) rfl dX2_passOne_35 ?_
      refine S_calli (va_runV (As := []) (rest := []) ⟨hx, hb, hml, hown, hts⟩ (k_tAdvance l D k A a z G  ) (cwV 0 hts (gd_V hgd m854 m639 m640 m120 m641) rfl rfl rfl (by decide +kernel) ⟨show 6 + 1 ≤ fn + 12 from by omega, show 8 + (2 + 11) + (127) ≤ ln + 258 from by omega⟩) (pre_V hW hB_G hK hZ hS kd_3 rfl) rfl rfl hl.1 rfl (lv_room (Nat.le_of_ble_eq_true rfl)) dX2_passOne_38 ⟨Nat.le_of_ble_eq_true rfl, Nat.le_of_ble_eq_true rfl⟩) hS (fun r_3 G_4 H locs hpo hW hS => ?_)
      obtain ⟨hB_G_4, hq_5, f_7⟩ := hpo
      have hF := hF.call hq_5 (by decide) (by decide)
      refine lv_pop hx hb dX2_passOne_41 rfl ?_
      refine lv_aload_n hx hb dX2_passOne_42 rfl (lv_at hl 0 rfl) ?_
      refine lv_iload_n hx hb dX2_passOne_43 rfl (lv_at hl 1 rfl) ?_
      refine lv_iconst (v := 1) hx hb dX2_passOne_44 (by decide) ?_
      refine lv_iadd hx hb dX2_passOne_45 ?_
      refine lv_topi (fun y_8 ey_8 => ?_)
      have ty_8 : y_8.toInt = p0.toInt + 1 := xI_add rfl rfl ey_8 (by omega) (by omega)
      refine S_calli (va_runV (As := [.int y_8]) (rest := []) ⟨hx, hb, hml, hown, hts⟩ (hO G_4 y_8 ⟨by omega, by omega⟩ (((hq_5.r 4 1 (by decide) (by decide))).trans (hv_4_1)) (by omega)) (cwV 1 hts (gd_V hgd m829 m831 m18 m121 m832) rfl rfl rfl (by decide +kernel) ⟨show fn + 0 + 1 ≤ fn + 12 from by omega, show 8 + (2 + 11) + (ln + 0) ≤ ln + 258 from by omega⟩) (pre_V hW hB_G_4 hK hZ hS kd_4 rfl) rfl rfl hl.1 rfl (lv_room (Nat.le_of_ble_eq_true rfl)) dX2_passOne_46 ⟨Nat.le_of_ble_eq_true rfl, Nat.le_of_ble_eq_true rfl⟩) hS (fun r_9 G_10 H locs hpo hW hS => ?_)
      obtain ⟨hB_G_10, hq_11, f_13⟩ := hpo
      have hF := hF.call hq_11 (by decide) (by decide)
      refine lv_if_ne (tgt := 54) hx hb dX2_passOne_49 (by decide) (fun c_14 => ?_) (fun c_14 => ?_)
      · have c_14 : r_9.toInt ≠ 0 := xI_ne rfl rfl c_14
        refine lv_aload_n hx hb dX2_passOne_54 rfl (lv_at hl 0 rfl) ?_
        refine S_getV (n := 2) (C := RX2) (T := TX2) (N := 3) hx hb hg iX2 hown hK hW kd_4 rfl 1 (by decide) (hg (Cond.fieldLink RX2 15 "SlabWalk$Formulas" "paving" "LSlabWalk$Paving;") m302) (fun _ h9 => h9) rfl ((((hq_11.r 4 1 (by decide) (by decide)).trans (hq_5.r 4 1 (by decide) (by decide)))).trans (hv_4_1)) dX2_passOne_55 ?_
        refine lv_sipush (v := 146) hx hb dX2_passOne_58 (by decide) ?_
        refine lv_iconst (v := 0) hx hb dX2_passOne_61 (by decide) ?_
        refine S_callv (va_runV (As := [.int 146, .int 0]) (rest := []) ⟨hx, hb, hml, hown, hts⟩ (k_emit_2 l D k A a z G_10 146 0 ) (cwV 2 hts (gd_V hgd m855 m856 m857 m118 m858) rfl rfl rfl (by decide +kernel) ⟨show 0 + 1 ≤ fn + 12 from by omega, show 8 + (3 + 11) + (0) ≤ ln + 258 from by omega⟩) (pre_V hW hB_G_10 hK hZ hS kd_2 rfl) rfl rfl hl.1 rfl (lv_room (Nat.le_of_ble_eq_true rfl)) dX2_passOne_62 ⟨Nat.le_of_ble_eq_true rfl, Nat.le_of_ble_eq_true rfl⟩) hS (fun G_16 H locs hpo hW hS => ?_)
        obtain ⟨hB_G_16, hq_17⟩ := hpo
        have hF := hF.call hq_17 (by decide) (by decide)
        refine lv_iconst (v := 1) hx hb dX2_passOne_65 (by decide) ?_
        exact W.zret (v := 1) hx hb hr (by decide) (fun t ht _ => ⟨⟨1, G_16, rfl, ⟨hB_G_16, hF, ⟨by decide, by decide⟩⟩, wd_t ht hW⟩, hS.F ht⟩) hS.2.2 dX2_passOne_66
      · have c_14 : r_9.toInt = 0 := xI_eq rfl rfl c_14
        refine lv_iconst (v := 0) hx hb dX2_passOne_52 (by decide) ?_
        exact W.zret (v := 0) hx hb hr (by decide) (fun t ht _ => ⟨⟨0, G_10, rfl, ⟨hB_G_10, hF, ⟨by decide, by decide⟩⟩, wd_t ht hW⟩, hS.F ht⟩) hS.2.2 dX2_passOne_53
    · have c_2 : 6 < p0.toInt := xI_nle rfl rfl c_2
      refine lv_aload_n hx hb dX2_passOne_25 rfl (lv_at hl 0 rfl) ?_
      refine S_getR (n := 3) (C := RX2) (T := TX2) (N := 3) hx hb hg iX2 hown hK hW kd_4 rfl 0 (by decide) (hg (Cond.fieldLink RX2 9 "SlabWalk$Formulas" "tokens" "LSlabWalk$Tokens;") m301) (fun _ h9 => h9) rfl dX2_passOne_26 ?_
      refine lv_iconst (v := 2) hx hb dX2_passOne_29 (by decide) ?_
      refine S_calli (va_runV (As := [.int 2]) (rest := []) ⟨hx, hb, hml, hown, hts⟩ (k_tRefuse l D k A a z G 2 ⟨by decide, by decide⟩) (cwV 1 hts (gd_V hgd m849 m779 m780 m120 m781) rfl rfl rfl (by decide +kernel) ⟨show 0 + 1 ≤ fn + 12 from by omega, show 8 + (2 + 11) + (0) ≤ ln + 258 from by omega⟩) (pre_V hW hB_G hK hZ hS kd_3 rfl) rfl rfl hl.1 rfl (lv_room (Nat.le_of_ble_eq_true rfl)) dX2_passOne_30 ⟨Nat.le_of_ble_eq_true rfl, Nat.le_of_ble_eq_true rfl⟩) hS (fun r_19 G_20 H locs hpo hW hS => ?_)
      obtain ⟨hB_G_20, hq_21, f_23⟩ := hpo
      have hF := hF.call hq_21 (by decide) (by decide)
      exact W.zret (v := r_19) hx hb hr (nar_z (by omega) (by omega)) (fun t ht _ => ⟨⟨r_19, G_20, rfl, ⟨hB_G_20, hF, ⟨by omega, by omega⟩⟩, wd_t ht hW⟩, hS.F ht⟩) hS.2.2 dX2_passOne_33
  · have c_1 : (G.1 3 3).toInt ≠ 146 := xI_ne rfl rfl c_1
    refine lv_aload_n hx hb dX2_passOne_13 rfl (lv_at hl 0 rfl) ?_
    refine lv_iload_n hx hb dX2_passOne_14 rfl (lv_at hl 1 rfl) ?_
    refine S_calli (va_runV (As := [.int p0]) (rest := []) ⟨hx, hb, hml, hown, hts⟩ (k_fRelation_2_s l D k A a z fn ln n hE hO G p0 ⟨by omega, by omega⟩ hv_4_1 (by omega)) (cwV 1 hts (gd_V hgd m833 m835 m19 m121 m836) rfl rfl rfl (by decide +kernel) ⟨show fn + 11 + 1 ≤ fn + 12 from by omega, show 8 + (3 + 11) + (ln + 236) ≤ ln + 258 from by omega⟩) (pre_V hW hB_G hK hZ hS kd_4 rfl) rfl rfl hl.1 rfl (lv_room (Nat.le_of_ble_eq_true rfl)) dX2_passOne_15 ⟨Nat.le_of_ble_eq_true rfl, Nat.le_of_ble_eq_true rfl⟩) hS (fun r_24 G_25 H locs hpo hW hS => ?_)
    obtain ⟨hB_G_25, hq_26, f_28⟩ := hpo
    have hF := hF.call hq_26 (by decide) (by decide)
    exact W.zret (v := r_24) hx hb hr (nar_z (by omega) (by omega)) (fun t ht _ => ⟨⟨r_24, G_25, rfl, ⟨hB_G_25, hF, ⟨by omega, by omega⟩⟩, wd_t ht hW⟩, hS.F ht⟩) hS.2.2 dX2_passOne_18

set_option maxHeartbeats 4000000 in
set_option maxRecDepth 100000 in
theorem k_fBoth_2_s (l : Launch) (D : va_G) (k : KT) (A : Nat → Prop) (a : Nat → Nat) (z : SK) (fn ln n : Nat) (hE : ∀ (G : GS) (p0 : Int32) (ha_p0 : 0 ≤ p0.toInt ∧ p0.toInt ≤ 7) (hv_4_1 : G.2.2 4 1 = 2) (hd : 7 ≤ p0.toInt + (n : Int)), Met l yX2_passEither (WS yX2_passEither cX2_passEither 3 (some .boolean)) ({ frames := fn + 2, cells := 0, slots := 0, locals := ln + 43 }) (va_Pc [.ref (a 4), .int p0] (cW D k A a z G)) (va_Qi (fun (r : Int32) (G1 : GS) => Bd G1 ∧ Fr [27] [(2, 12), (2, 13), (3, 2), (3, 3), (3, 4), (3, 5), (3, 6), (3, 7), (3, 8), (4, 2)] G G1 ∧ (0 ≤ r.toInt ∧ r.toInt ≤ 1)) (fun (G1 : GS) t => Wd D k A a G1 t.heap) A) 0 0 A) (hO : ∀ (G : GS) (p0 : Int32) (ha_p0 : 0 ≤ p0.toInt ∧ p0.toInt ≤ 7) (hv_4_1 : G.2.2 4 1 = 2) (hd : 7 ≤ p0.toInt + (n : Int)), Met l yX2_passOne (WS yX2_passOne cX2_passOne 2 (some .boolean)) ({ frames := fn + 0, cells := 0, slots := 0, locals := ln + 0 }) (va_Pc [.ref (a 4), .int p0] (cW D k A a z G)) (va_Qi (fun (r : Int32) (G1 : GS) => Bd G1 ∧ Fr [27] [(2, 12), (2, 13), (3, 2), (3, 3), (3, 4), (3, 5), (3, 6), (3, 7), (3, 8), (4, 2)] G G1 ∧ (0 ≤ r.toInt ∧ r.toInt ≤ 1)) (fun (G1 : GS) t => Wd D k A a G1 t.heap) A) 0 0 A) (G : GS) (p0 : Int32) (ha_p0 : 0 ≤ p0.toInt ∧ p0.toInt ≤ 7) (hv_4_1 : G.2.2 4 1 = 2) (hd : 7 ≤ p0.toInt + (n : Int) + 1) : Met l yX2_passBoth (WS yX2_passBoth cX2_passBoth 3 (some .boolean)) ({ frames := fn + 13, cells := 0, slots := 0, locals := ln + 279 }) (va_Pc [.ref (a 4), .int p0] (cW D k A a z G)) (va_Qi (fun (r : Int32) (G1 : GS) => Bd G1 ∧ Fr [27] [(2, 12), (2, 13), (3, 2), (3, 3), (3, 4), (3, 5), (3, 6), (3, 7), (3, 8), (4, 2)] G G1 ∧ (0 ≤ r.toInt ∧ r.toInt ≤ 1)) (fun (G1 : GS) t => Wd D k A a G1 t.heap) A) 0 0 A := by
  refine Met.ofW (cc := cX2_passBoth) (maxL := 3) (ret := (some .boolean)) (by decide) rfl ?_
  intro p e s m args below meth c s₁ B hml hv
  obtain ⟨rfl, hW, hB_G, hK, hZ⟩ := hv
  have hx := B.exec
  have hb := B.bytes
  have hr := B.returns
  have hts := atoms_spec (ws := WS yX2_passBoth cX2_passBoth 3 (some .boolean)) B.pre
  have hgd : ∀ w ∈ gd, w ∈ WS yX2_passBoth cX2_passBoth 3 (some .boolean) := fun w h => List.mem_cons_of_mem _ h
  have hg : ∀ w ∈ gd, w.before _ s = true := fun w h => hts w (hgd w h)
  have hown : s.vm.findClass RX2 = some m.cls := findClass_of_methodNamed B.named
  have hS : va_S A s.heap s.heap [] := va_S.rf
  have hF : Fr [27] [(2, 12), (2, 13), (3, 2), (3, 3), (3, 4), (3, 5), (3, 6), (3, 7), (3, 8), (4, 2)] G G := Fr.rf
  have hl := lv_entry ([.ref (a 4), .int p0]) (n := 3) (Nat.le_of_ble_eq_true rfl)
  rw [lg_entry_eq]
  generalize (lg_sl ([.ref (a 4), .int p0]) ++ List.replicate (3 - (lg_sl ([.ref (a 4), .int p0])).length) Slot.unset).toArray = ls at hl ⊢
  have hl : lv_has ls 3 [(0, .ref (a 4)), (1, .int p0)] := hl
  refine lv_aload_n hx hb dX2_passBoth_0 rfl (lv_at hl 0 rfl) ?_
  refine lv_iload_n hx hb dX2_passBoth_1 rfl (lv_at hl 1 rfl) ?_
  refine S_calli (va_runV (As := [.int p0]) (rest := []) ⟨hx, hb, hml, hown, hts⟩ (k_fOne_2_s l D k A a z fn ln n hE hO G p0 ⟨by omega, by omega⟩ hv_4_1 (by omega)) (cwV 1 hts (gd_V hgd m829 m831 m18 m121 m832) rfl rfl rfl (by decide +kernel) ⟨show fn + 12 + 1 ≤ fn + 13 from by omega, show 8 + (2 + 11) + (ln + 258) ≤ ln + 279 from by omega⟩) (pre_V hW hB_G hK hZ hS kd_4 rfl) rfl rfl hl.1 rfl (lv_room (Nat.le_of_ble_eq_true rfl)) dX2_passBoth_2 ⟨Nat.le_of_ble_eq_true rfl, Nat.le_of_ble_eq_true rfl⟩) hS (fun r_1 G_2 H locs hpo hW hS => ?_)
  obtain ⟨hB_G_2, hq_3, f_5⟩ := hpo
  have hF := hF.call hq_3 (by decide) (by decide)
  refine lv_if_ne (tgt := 10) hx hb dX2_passBoth_5 (by decide) (fun c_6 => ?_) (fun c_6 => ?_)
  · have c_6 : r_1.toInt ≠ 0 := xI_ne rfl rfl c_6
    refine lv_iconst (v := 0) hx hb dX2_passBoth_10 (by decide) ?_
    refine lv_istore_n (lv' := [(2, .int 0), (0, .ref (a 4)), (1, .int p0)]) hx hb dX2_passBoth_11 rfl hl (by decide) rfl (fun ls hl => ?_)
    have qc_12 : (0 : Int32).toInt = 0 := rfl
    refine loop_N (Inv := fun n H locs ls => ∃ (G_7 : GS) (x_11 : Int32), (n : Int) = 1600 - x_11.toInt ∧ (0 ≤ x_11.toInt ∧ x_11.toInt ≤ 1600) ∧ Wd D k A a G_7 H ∧ Bd G_7 ∧ Fr [27] [(2, 12), (2, 13), (3, 2), (3, 3), (3, 4), (3, 5), (3, 6), (3, 7), (3, 8), (4, 2)] G G_7 ∧ Fr [27] [(2, 12), (2, 13), (3, 2), (3, 3), (3, 4), (3, 5), (3, 6), (3, 7), (3, 8), (4, 2)] G_2 G_7 ∧ va_S A s.heap H locs ∧ lv_has ls 3 [(2, .int x_11), (0, .ref (a 4)), (1, .int p0)]) (fun n_10 H locs ls ih_9 hI => ?_) (1600 - 0 : Int).toNat ⟨G_2, 0, (Int.toNat_of_nonneg (by omega)), ⟨by omega, by omega⟩, hW, hB_G_2, hF, Fr.rf, hS, lv_sub hl [0, 1, 2] rfl⟩
    obtain ⟨G_7, x_11, hn_14, f_13, hW, hB_G_7, hF, hq_8, hS, hl⟩ := hI
    refine lv_iload_n hx hb dX2_passBoth_12 rfl (lv_at hl 0 rfl) ?_
    refine lv_sipush (v := 1600) hx hb dX2_passBoth_13 (by decide) ?_
    refine lv_icmp_ge (tgt := 67) hx hb dX2_passBoth_16 (by decide) (fun c_15 => ?_) (fun c_15 => ?_)
    · have c_15 : 1600 ≤ x_11.toInt := xI_le rfl rfl c_15
      refine lv_iconst (v := 1) hx hb dX2_passBoth_67 (by decide) ?_
      exact W.zret (v := 1) hx hb hr (by decide) (fun t ht _ => ⟨⟨1, G_7, rfl, ⟨hB_G_7, hF, ⟨by decide, by decide⟩⟩, wd_t ht hW⟩, hS.F ht⟩) hS.2.2 dX2_passBoth_68
    · have c_15 : x_11.toInt < 1600 := xI_nle rfl rfl c_15
      refine lv_aload_n hx hb dX2_passBoth_19 rfl (lv_at hl 1 rfl) ?_
      refine S_getR (n := 3) (C := RX2) (T := TX2) (N := 3) hx hb hg iX2 hown hK hW kd_4 rfl 0 (by decide) (hg (Cond.fieldLink RX2 9 "SlabWalk$Formulas" "tokens" "LSlabWalk$Tokens;") m301) (fun _ h9 => h9) rfl dX2_passBoth_20 ?_
      refine S_getI (v := (G_7.1 3 3)) (C := RX9) (T := TX9) (N := 9) hx hb hg iX9 hown hK hW kd_3 rfl 3 (by decide) (hg (Cond.fieldLink RX2 30 "SlabWalk$Tokens" "kind" "I") m263) (fun _ h9 => h9) rfl rfl dX2_passBoth_23 ?_
      refine lv_sipush (v := 145) hx hb dX2_passBoth_26 (by decide) ?_
      refine lv_icmp_ne (tgt := 67) hx hb dX2_passBoth_29 (by decide) (fun c_16 => ?_) (fun c_16 => ?_)
      · have c_16 : (G_7.1 3 3).toInt ≠ 145 := xI_ne rfl rfl c_16
        refine lv_iconst (v := 1) hx hb dX2_passBoth_67 (by decide) ?_
        exact W.zret (v := 1) hx hb hr (by decide) (fun t ht _ => ⟨⟨1, G_7, rfl, ⟨hB_G_7, hF, ⟨by decide, by decide⟩⟩, wd_t ht hW⟩, hS.F ht⟩) hS.2.2 dX2_passBoth_68
      · have c_16 : (G_7.1 3 3).toInt = 145 := xI_eq rfl rfl c_16
        refine lv_aload_n hx hb dX2_passBoth_32 rfl (lv_at hl 1 rfl) ?_
        refine S_getR (n := 3) (C := RX2) (T := TX2) (N := 3) hx hb hg iX2 hown hK hW kd_4 rfl 0 (by decide) (hg (Cond.fieldLink RX2 9 "SlabWalk$Formulas" "tokens" "LSlabWalk$Tokens;") m301) (fun _ h9 => h9) rfl dX2_passBoth_33 ?_
        refine S_calli (va_runV (As := []) (rest := []) ⟨hx, hb, hml, hown, hts⟩ (k_tAdvance l D k A a z G_7  ) (cwV 0 hts (gd_V hgd m854 m639 m640 m120 m641) rfl rfl rfl (by decide +kernel) ⟨show 6 + 1 ≤ fn + 13 from by omega, show 8 + (2 + 11) + (127) ≤ ln + 279 from by omega⟩) (pre_V hW hB_G_7 hK hZ hS kd_3 rfl) rfl rfl hl.1 rfl (lv_room (Nat.le_of_ble_eq_true rfl)) dX2_passBoth_36 ⟨Nat.le_of_ble_eq_true rfl, Nat.le_of_ble_eq_true rfl⟩) hS (fun r_17 G_18 H locs hpo hW hS => ?_)
        obtain ⟨hB_G_18, hq_19, f_21⟩ := hpo
        have hF := hF.call hq_19 (by decide) (by decide)
        refine lv_pop hx hb dX2_passBoth_39 rfl ?_
        refine lv_aload_n hx hb dX2_passBoth_40 rfl (lv_at hl 1 rfl) ?_
        refine lv_iload_n hx hb dX2_passBoth_41 rfl (lv_at hl 2 rfl) ?_
        refine S_calli (va_runV (As := [.int p0]) (rest := []) ⟨hx, hb, hml, hown, hts⟩ (k_fOne_2_s l D k A a z fn ln n hE hO G_18 p0 ⟨by omega, by omega⟩ ((((hq_19.r 4 1 (by decide) (by decide)).trans ((hq_8.r 4 1 (by decide) (by decide)).trans (hq_3.r 4 1 (by decide) (by decide))))).trans (hv_4_1)) (by omega)) (cwV 1 hts (gd_V hgd m829 m831 m18 m121 m832) rfl rfl rfl (by decide +kernel) ⟨show fn + 12 + 1 ≤ fn + 13 from by omega, show 8 + (2 + 11) + (ln + 258) ≤ ln + 279 from by omega⟩) (pre_V hW hB_G_18 hK hZ hS kd_4 rfl) rfl rfl hl.1 rfl (lv_room (Nat.le_of_ble_eq_true rfl)) dX2_passBoth_42 ⟨Nat.le_of_ble_eq_true rfl, Nat.le_of_ble_eq_true rfl⟩) hS (fun r_22 G_23 H locs hpo hW hS => ?_)
        obtain ⟨hB_G_23, hq_24, f_26⟩ := hpo
        have hF := hF.call hq_24 (by decide) (by decide)
        refine lv_if_ne (tgt := 50) hx hb dX2_passBoth_45 (by decide) (fun c_27 => ?_) (fun c_27 => ?_)
        · have c_27 : r_22.toInt ≠ 0 := xI_ne rfl rfl c_27
          refine lv_aload_n hx hb dX2_passBoth_50 rfl (lv_at hl 1 rfl) ?_
          refine S_getV (n := 2) (C := RX2) (T := TX2) (N := 3) hx hb hg iX2 hown hK hW kd_4 rfl 1 (by decide) (hg (Cond.fieldLink RX2 15 "SlabWalk$Formulas" "paving" "LSlabWalk$Paving;") m302) (fun _ h9 => h9) rfl ((((hq_24.r 4 1 (by decide) (by decide)).trans ((hq_19.r 4 1 (by decide) (by decide)).trans ((hq_8.r 4 1 (by decide) (by decide)).trans (hq_3.r 4 1 (by decide) (by decide)))))).trans (hv_4_1)) dX2_passBoth_51 ?_
          refine lv_sipush (v := 145) hx hb dX2_passBoth_54 (by decide) ?_
          refine lv_iconst (v := 0) hx hb dX2_passBoth_57 (by decide) ?_
          refine S_callv (va_runV (As := [.int 145, .int 0]) (rest := []) ⟨hx, hb, hml, hown, hts⟩ (k_emit_2 l D k A a z G_23 145 0 ) (cwV 2 hts (gd_V hgd m855 m856 m857 m118 m858) rfl rfl rfl (by decide +kernel) ⟨show 0 + 1 ≤ fn + 13 from by omega, show 8 + (3 + 11) + (0) ≤ ln + 279 from by omega⟩) (pre_V hW hB_G_23 hK hZ hS kd_2 rfl) rfl rfl hl.1 rfl (lv_room (Nat.le_of_ble_eq_true rfl)) dX2_passBoth_58 ⟨Nat.le_of_ble_eq_true rfl, Nat.le_of_ble_eq_true rfl⟩) hS (fun G_29 H locs hpo hW hS => ?_)
          obtain ⟨hB_G_29, hq_30⟩ := hpo
          have hF := hF.call hq_30 (by decide) (by decide)
          obtain ⟨y_32, ey_32⟩ : ∃ q, q = x_11 + 1 := ⟨_, rfl⟩
          have ty_32 : y_32.toInt = x_11.toInt + 1 := xI_add rfl rfl ey_32 (by omega) (by omega)
          refine lv_iinc (v := y_32) (lv' := [(2, .int y_32), (0, .ref (a 4)), (1, .int p0)]) hx hb dX2_passBoth_61 hl (k := 0) rfl (by rw [ey_32]; rfl) (by decide) rfl (fun ls hl => ?_)
          refine lv_goto (tgt := 12) hx hb dX2_passBoth_64 (by decide) ?_
          exact ih_9 (1600 - y_32.toInt : Int).toNat (by omega) _ _ _ ⟨G_29, y_32, (Int.toNat_of_nonneg (by omega)), ⟨by omega, by omega⟩, hW, hB_G_29, hF, ((((Fr.rf.call hq_8 (by decide) (by decide)).call hq_19 (by decide) (by decide)).call hq_24 (by decide) (by decide)).call hq_30 (by decide) (by decide)), hS, lv_sub hl [0, 1, 2] rfl⟩
        · have c_27 : r_22.toInt = 0 := xI_eq rfl rfl c_27
          refine lv_iconst (v := 0) hx hb dX2_passBoth_48 (by decide) ?_
          exact W.zret (v := 0) hx hb hr (by decide) (fun t ht _ => ⟨⟨0, G_23, rfl, ⟨hB_G_23, hF, ⟨by decide, by decide⟩⟩, wd_t ht hW⟩, hS.F ht⟩) hS.2.2 dX2_passBoth_49
  · have c_6 : r_1.toInt = 0 := xI_eq rfl rfl c_6
    refine lv_iconst (v := 0) hx hb dX2_passBoth_8 (by decide) ?_
    exact W.zret (v := 0) hx hb hr (by decide) (fun t ht _ => ⟨⟨0, G_2, rfl, ⟨hB_G_2, hF, ⟨by decide, by decide⟩⟩, wd_t ht hW⟩, hS.F ht⟩) hS.2.2 dX2_passBoth_9

set_option maxHeartbeats 4000000 in
set_option maxRecDepth 100000 in
theorem k_fEither_2_s (l : Launch) (D : va_G) (k : KT) (A : Nat → Prop) (a : Nat → Nat) (z : SK) (fn ln n : Nat) (hE : ∀ (G : GS) (p0 : Int32) (ha_p0 : 0 ≤ p0.toInt ∧ p0.toInt ≤ 7) (hv_4_1 : G.2.2 4 1 = 2) (hd : 7 ≤ p0.toInt + (n : Int)), Met l yX2_passEither (WS yX2_passEither cX2_passEither 3 (some .boolean)) ({ frames := fn + 2, cells := 0, slots := 0, locals := ln + 43 }) (va_Pc [.ref (a 4), .int p0] (cW D k A a z G)) (va_Qi (fun (r : Int32) (G1 : GS) => Bd G1 ∧ Fr [27] [(2, 12), (2, 13), (3, 2), (3, 3), (3, 4), (3, 5), (3, 6), (3, 7), (3, 8), (4, 2)] G G1 ∧ (0 ≤ r.toInt ∧ r.toInt ≤ 1)) (fun (G1 : GS) t => Wd D k A a G1 t.heap) A) 0 0 A) (hO : ∀ (G : GS) (p0 : Int32) (ha_p0 : 0 ≤ p0.toInt ∧ p0.toInt ≤ 7) (hv_4_1 : G.2.2 4 1 = 2) (hd : 7 ≤ p0.toInt + (n : Int)), Met l yX2_passOne (WS yX2_passOne cX2_passOne 2 (some .boolean)) ({ frames := fn + 0, cells := 0, slots := 0, locals := ln + 0 }) (va_Pc [.ref (a 4), .int p0] (cW D k A a z G)) (va_Qi (fun (r : Int32) (G1 : GS) => Bd G1 ∧ Fr [27] [(2, 12), (2, 13), (3, 2), (3, 3), (3, 4), (3, 5), (3, 6), (3, 7), (3, 8), (4, 2)] G G1 ∧ (0 ≤ r.toInt ∧ r.toInt ≤ 1)) (fun (G1 : GS) t => Wd D k A a G1 t.heap) A) 0 0 A) (G : GS) (p0 : Int32) (ha_p0 : 0 ≤ p0.toInt ∧ p0.toInt ≤ 7) (hv_4_1 : G.2.2 4 1 = 2) (hd : 7 ≤ p0.toInt + (n : Int) + 1) : Met l yX2_passEither (WS yX2_passEither cX2_passEither 3 (some .boolean)) ({ frames := fn + 14, cells := 0, slots := 0, locals := ln + 301 }) (va_Pc [.ref (a 4), .int p0] (cW D k A a z G)) (va_Qi (fun (r : Int32) (G1 : GS) => Bd G1 ∧ Fr [27] [(2, 12), (2, 13), (3, 2), (3, 3), (3, 4), (3, 5), (3, 6), (3, 7), (3, 8), (4, 2)] G G1 ∧ (0 ≤ r.toInt ∧ r.toInt ≤ 1)) (fun (G1 : GS) t => Wd D k A a G1 t.heap) A) 0 0 A := by
  refine Met.ofW (cc := cX2_passEither) (maxL := 3) (ret := (some .boolean)) (by decide) rfl ?_
  intro p e s m args below meth c s₁ B hml hv
  obtain ⟨rfl, hW, hB_G, hK, hZ⟩ := hv
  have hx := B.exec
  have hb := B.bytes
  have hr := B.returns
  have hts := atoms_spec (ws := WS yX2_passEither cX2_passEither 3 (some .boolean)) B.pre
  have hgd : ∀ w ∈ gd, w ∈ WS yX2_passEither cX2_passEither 3 (some .boolean) := fun w h => List.mem_cons_of_mem _ h
  have hg : ∀ w ∈ gd, w.before _ s = true := fun w h => hts w (hgd w h)
  have hown : s.vm.findClass RX2 = some m.cls := findClass_of_methodNamed B.named
  have hS : va_S A s.heap s.heap [] := va_S.rf
  have hF : Fr [27] [(2, 12), (2, 13), (3, 2), (3, 3), (3, 4), (3, 5), (3, 6), (3, 7), (3, 8), (4, 2)] G G := Fr.rf
  have hl := lv_entry ([.ref (a 4), .int p0]) (n := 3) (Nat.le_of_ble_eq_true rfl)
  rw [lg_entry_eq]
  generalize (lg_sl ([.ref (a 4), .int p0]) ++ List.replicate (3 - (lg_sl ([.ref (a 4), .int p0])).length) Slot.unset).toArray = ls at hl ⊢
  have hl : lv_has ls 3 [(0, .ref (a 4)), (1, .int p0)] := hl
  refine lv_aload_n hx hb dX2_passEither_0 rfl (lv_at hl 0 rfl) ?_
  refine lv_iload_n hx hb dX2_passEither_1 rfl (lv_at hl 1 rfl) ?_
  refine S_calli (va_runV (As := [.int p0]) (rest := []) ⟨hx, hb, hml, hown, hts⟩ (k_fBoth_2_s l D k A a z fn ln n hE hO G p0 ⟨by omega, by omega⟩ hv_4_1 (by omega)) (cwV 1 hts (gd_V hgd m825 m827 m17 m121 m828) rfl rfl rfl (by decide +kernel) ⟨show fn + 13 + 1 ≤ fn + 14 from by omega, show 8 + (3 + 11) + (ln + 279) ≤ ln + 301 from by omega⟩) (pre_V hW hB_G hK hZ hS kd_4 rfl) rfl rfl hl.1 rfl (lv_room (Nat.le_of_ble_eq_true rfl)) dX2_passEither_2 ⟨Nat.le_of_ble_eq_true rfl, Nat.le_of_ble_eq_true rfl⟩) hS (fun r_1 G_2 H locs hpo hW hS => ?_)
  obtain ⟨hB_G_2, hq_3, f_5⟩ := hpo
  have hF := hF.call hq_3 (by decide) (by decide)
  refine lv_if_ne (tgt := 10) hx hb dX2_passEither_5 (by decide) (fun c_6 => ?_) (fun c_6 => ?_)
  · have c_6 : r_1.toInt ≠ 0 := xI_ne rfl rfl c_6
    refine lv_iconst (v := 0) hx hb dX2_passEither_10 (by decide) ?_
    refine lv_istore_n (lv' := [(2, .int 0), (0, .ref (a 4)), (1, .int p0)]) hx hb dX2_passEither_11 rfl hl (by decide) rfl (fun ls hl => ?_)
    have qc_12 : (0 : Int32).toInt = 0 := rfl
    refine loop_N (Inv := fun n H locs ls => ∃ (G_7 : GS) (x_11 : Int32), (n : Int) = 1600 - x_11.toInt ∧ (0 ≤ x_11.toInt ∧ x_11.toInt ≤ 1600) ∧ Wd D k A a G_7 H ∧ Bd G_7 ∧ Fr [27] [(2, 12), (2, 13), (3, 2), (3, 3), (3, 4), (3, 5), (3, 6), (3, 7), (3, 8), (4, 2)] G G_7 ∧ Fr [27] [(2, 12), (2, 13), (3, 2), (3, 3), (3, 4), (3, 5), (3, 6), (3, 7), (3, 8), (4, 2)] G_2 G_7 ∧ va_S A s.heap H locs ∧ lv_has ls 3 [(2, .int x_11), (0, .ref (a 4)), (1, .int p0)]) (fun n_10 H locs ls ih_9 hI => ?_) (1600 - 0 : Int).toNat ⟨G_2, 0, (Int.toNat_of_nonneg (by omega)), ⟨by omega, by omega⟩, hW, hB_G_2, hF, Fr.rf, hS, lv_sub hl [0, 1, 2] rfl⟩
    obtain ⟨G_7, x_11, hn_14, f_13, hW, hB_G_7, hF, hq_8, hS, hl⟩ := hI
    refine lv_iload_n hx hb dX2_passEither_12 rfl (lv_at hl 0 rfl) ?_
    refine lv_sipush (v := 1600) hx hb dX2_passEither_13 (by decide) ?_
    refine lv_icmp_ge (tgt := 67) hx hb dX2_passEither_16 (by decide) (fun c_15 => ?_) (fun c_15 => ?_)
    · have c_15 : 1600 ≤ x_11.toInt := xI_le rfl rfl c_15
      refine lv_iconst (v := 1) hx hb dX2_passEither_67 (by decide) ?_
      exact W.zret (v := 1) hx hb hr (by decide) (fun t ht _ => ⟨⟨1, G_7, rfl, ⟨hB_G_7, hF, ⟨by decide, by decide⟩⟩, wd_t ht hW⟩, hS.F ht⟩) hS.2.2 dX2_passEither_68
    · have c_15 : x_11.toInt < 1600 := xI_nle rfl rfl c_15
      refine lv_aload_n hx hb dX2_passEither_19 rfl (lv_at hl 1 rfl) ?_
      refine S_getR (n := 3) (C := RX2) (T := TX2) (N := 3) hx hb hg iX2 hown hK hW kd_4 rfl 0 (by decide) (hg (Cond.fieldLink RX2 9 "SlabWalk$Formulas" "tokens" "LSlabWalk$Tokens;") m301) (fun _ h9 => h9) rfl dX2_passEither_20 ?_
      refine S_getI (v := (G_7.1 3 3)) (C := RX9) (T := TX9) (N := 9) hx hb hg iX9 hown hK hW kd_3 rfl 3 (by decide) (hg (Cond.fieldLink RX2 30 "SlabWalk$Tokens" "kind" "I") m263) (fun _ h9 => h9) rfl rfl dX2_passEither_23 ?_
      refine lv_sipush (v := 144) hx hb dX2_passEither_26 (by decide) ?_
      refine lv_icmp_ne (tgt := 67) hx hb dX2_passEither_29 (by decide) (fun c_16 => ?_) (fun c_16 => ?_)
      · have c_16 : (G_7.1 3 3).toInt ≠ 144 := xI_ne rfl rfl c_16
        refine lv_iconst (v := 1) hx hb dX2_passEither_67 (by decide) ?_
        exact W.zret (v := 1) hx hb hr (by decide) (fun t ht _ => ⟨⟨1, G_7, rfl, ⟨hB_G_7, hF, ⟨by decide, by decide⟩⟩, wd_t ht hW⟩, hS.F ht⟩) hS.2.2 dX2_passEither_68
      · have c_16 : (G_7.1 3 3).toInt = 144 := xI_eq rfl rfl c_16
        refine lv_aload_n hx hb dX2_passEither_32 rfl (lv_at hl 1 rfl) ?_
        refine S_getR (n := 3) (C := RX2) (T := TX2) (N := 3) hx hb hg iX2 hown hK hW kd_4 rfl 0 (by decide) (hg (Cond.fieldLink RX2 9 "SlabWalk$Formulas" "tokens" "LSlabWalk$Tokens;") m301) (fun _ h9 => h9) rfl dX2_passEither_33 ?_
        refine S_calli (va_runV (As := []) (rest := []) ⟨hx, hb, hml, hown, hts⟩ (k_tAdvance l D k A a z G_7  ) (cwV 0 hts (gd_V hgd m854 m639 m640 m120 m641) rfl rfl rfl (by decide +kernel) ⟨show 6 + 1 ≤ fn + 14 from by omega, show 8 + (2 + 11) + (127) ≤ ln + 301 from by omega⟩) (pre_V hW hB_G_7 hK hZ hS kd_3 rfl) rfl rfl hl.1 rfl (lv_room (Nat.le_of_ble_eq_true rfl)) dX2_passEither_36 ⟨Nat.le_of_ble_eq_true rfl, Nat.le_of_ble_eq_true rfl⟩) hS (fun r_17 G_18 H locs hpo hW hS => ?_)
        obtain ⟨hB_G_18, hq_19, f_21⟩ := hpo
        have hF := hF.call hq_19 (by decide) (by decide)
        refine lv_pop hx hb dX2_passEither_39 rfl ?_
        refine lv_aload_n hx hb dX2_passEither_40 rfl (lv_at hl 1 rfl) ?_
        refine lv_iload_n hx hb dX2_passEither_41 rfl (lv_at hl 2 rfl) ?_
        refine S_calli (va_runV (As := [.int p0]) (rest := []) ⟨hx, hb, hml, hown, hts⟩ (k_fBoth_2_s l D k A a z fn ln n hE hO G_18 p0 ⟨by omega, by omega⟩ ((((hq_19.r 4 1 (by decide) (by decide)).trans ((hq_8.r 4 1 (by decide) (by decide)).trans (hq_3.r 4 1 (by decide) (by decide))))).trans (hv_4_1)) (by omega)) (cwV 1 hts (gd_V hgd m825 m827 m17 m121 m828) rfl rfl rfl (by decide +kernel) ⟨show fn + 13 + 1 ≤ fn + 14 from by omega, show 8 + (3 + 11) + (ln + 279) ≤ ln + 301 from by omega⟩) (pre_V hW hB_G_18 hK hZ hS kd_4 rfl) rfl rfl hl.1 rfl (lv_room (Nat.le_of_ble_eq_true rfl)) dX2_passEither_42 ⟨Nat.le_of_ble_eq_true rfl, Nat.le_of_ble_eq_true rfl⟩) hS (fun r_22 G_23 H locs hpo hW hS => ?_)
        obtain ⟨hB_G_23, hq_24, f_26⟩ := hpo
        have hF := hF.call hq_24 (by decide) (by decide)
        refine lv_if_ne (tgt := 50) hx hb dX2_passEither_45 (by decide) (fun c_27 => ?_) (fun c_27 => ?_)
        · have c_27 : r_22.toInt ≠ 0 := xI_ne rfl rfl c_27
          refine lv_aload_n hx hb dX2_passEither_50 rfl (lv_at hl 1 rfl) ?_
          refine S_getV (n := 2) (C := RX2) (T := TX2) (N := 3) hx hb hg iX2 hown hK hW kd_4 rfl 1 (by decide) (hg (Cond.fieldLink RX2 15 "SlabWalk$Formulas" "paving" "LSlabWalk$Paving;") m302) (fun _ h9 => h9) rfl ((((hq_24.r 4 1 (by decide) (by decide)).trans ((hq_19.r 4 1 (by decide) (by decide)).trans ((hq_8.r 4 1 (by decide) (by decide)).trans (hq_3.r 4 1 (by decide) (by decide)))))).trans (hv_4_1)) dX2_passEither_51 ?_
          refine lv_sipush (v := 144) hx hb dX2_passEither_54 (by decide) ?_
          refine lv_iconst (v := 0) hx hb dX2_passEither_57 (by decide) ?_
          refine S_callv (va_runV (As := [.int 144, .int 0]) (rest := []) ⟨hx, hb, hml, hown, hts⟩ (k_emit_2 l D k A a z G_23 144 0 ) (cwV 2 hts (gd_V hgd m855 m856 m857 m118 m858) rfl rfl rfl (by decide +kernel) ⟨show 0 + 1 ≤ fn + 14 from by omega, show 8 + (3 + 11) + (0) ≤ ln + 301 from by omega⟩) (pre_V hW hB_G_23 hK hZ hS kd_2 rfl) rfl rfl hl.1 rfl (lv_room (Nat.le_of_ble_eq_true rfl)) dX2_passEither_58 ⟨Nat.le_of_ble_eq_true rfl, Nat.le_of_ble_eq_true rfl⟩) hS (fun G_29 H locs hpo hW hS => ?_)
          obtain ⟨hB_G_29, hq_30⟩ := hpo
          have hF := hF.call hq_30 (by decide) (by decide)
          obtain ⟨y_32, ey_32⟩ : ∃ q, q = x_11 + 1 := ⟨_, rfl⟩
          have ty_32 : y_32.toInt = x_11.toInt + 1 := xI_add rfl rfl ey_32 (by omega) (by omega)
          refine lv_iinc (v := y_32) (lv' := [(2, .int y_32), (0, .ref (a 4)), (1, .int p0)]) hx hb dX2_passEither_61 hl (k := 0) rfl (by rw [ey_32]; rfl) (by decide) rfl (fun ls hl => ?_)
          refine lv_goto (tgt := 12) hx hb dX2_passEither_64 (by decide) ?_
          exact ih_9 (1600 - y_32.toInt : Int).toNat (by omega) _ _ _ ⟨G_29, y_32, (Int.toNat_of_nonneg (by omega)), ⟨by omega, by omega⟩, hW, hB_G_29, hF, ((((Fr.rf.call hq_8 (by decide) (by decide)).call hq_19 (by decide) (by decide)).call hq_24 (by decide) (by decide)).call hq_30 (by decide) (by decide)), hS, lv_sub hl [0, 1, 2] rfl⟩
        · have c_27 : r_22.toInt = 0 := xI_eq rfl rfl c_27
          refine lv_iconst (v := 0) hx hb dX2_passEither_48 (by decide) ?_
          exact W.zret (v := 0) hx hb hr (by decide) (fun t ht _ => ⟨⟨0, G_23, rfl, ⟨hB_G_23, hF, ⟨by decide, by decide⟩⟩, wd_t ht hW⟩, hS.F ht⟩) hS.2.2 dX2_passEither_49
  · have c_6 : r_1.toInt = 0 := xI_eq rfl rfl c_6
    refine lv_iconst (v := 0) hx hb dX2_passEither_8 (by decide) ?_
    exact W.zret (v := 0) hx hb hr (by decide) (fun t ht _ => ⟨⟨0, G_2, rfl, ⟨hB_G_2, hF, ⟨by decide, by decide⟩⟩, wd_t ht hW⟩, hS.F ht⟩) hS.2.2 dX2_passEither_9
