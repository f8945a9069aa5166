

set_option maxHeartbeats 4000000 in
set_option maxRecDepth 100000 in
theorem k_fBracket_2_s (l : Launch) (D : va_G) (k : KT) (A : Nat → Prop) (a : Nat → Nat) (z : SK) (fn ln n : Nat) (E O : XR) (hEb : ∀ (p0 : Int32) (G : GS) (r : Int32) (G1 : GS), E p0 G r G1 → Bd G1 ∧ Fr [27] [(2, 12), (2, 13), (3, 2), (3, 3), (3, 4), (3, 5), (3, 6), (3, 7), (3, 8), (4, 2)] G G1 ∧ (0 ≤ r.toInt ∧ r.toInt ≤ 1)) (hOb : ∀ (p0 : Int32) (G : GS) (r : Int32) (G1 : GS), O p0 G r G1 → Bd G1 ∧ Fr [27] [(2, 12), (2, 13), (3, 2), (3, 3), (3, 4), (3, 5), (3, 6), (3, 7), (3, 8), (4, 2)] G G1 ∧ (0 ≤ r.toInt ∧ r.toInt ≤ 1)) (hE : ∀ (G : GS) (p0 : Int32) (ha_p0 : 0 ≤ p0.toInt ∧ p0.toInt ≤ 7) (hv_4_1 : G.2.2 4 1 = 2) (hd : 8 ≤ p0.toInt + (n : Int)), Met l yX2_passEither (WS yX2_passEither cX2_passEither 3 (some .boolean)) ({ frames := fn + 2, cells := 0, slots := 0, locals := ln + 43 }) (va_Pc [.ref (a 4), .int p0] (cW D k A a z G)) (va_Qi (fun (r : Int32) (G1 : GS) => E p0 G r G1) (fun (G1 : GS) t => Wd D k A a G1 t.heap) A) 0 0 A) (hO : ∀ (G : GS) (p0 : Int32) (ha_p0 : 0 ≤ p0.toInt ∧ p0.toInt ≤ 7) (hv_4_1 : G.2.2 4 1 = 2) (hd : 8 ≤ p0.toInt + (n : Int)), Met l yX2_passOne (WS yX2_passOne cX2_passOne 2 (some .boolean)) ({ frames := fn + 0, cells := 0, slots := 0, locals := ln + 0 }) (va_Pc [.ref (a 4), .int p0] (cW D k A a z G)) (va_Qi (fun (r : Int32) (G1 : GS) => O p0 G r G1) (fun (G1 : GS) t => Wd D k A a G1 t.heap) A) 0 0 A) (G : GS) (p0 : Int32) (ha_p0 : 0 ≤ p0.toInt ∧ p0.toInt ≤ 7) (hv_4_1 : G.2.2 4 1 = 2) (hd : 8 ≤ p0.toInt + (n : Int) + 1) : Met l yX2_passBracket (WS yX2_passBracket cX2_passBracket 2 (some .boolean)) ({ frames := fn + 7, cells := 0, slots := 0, locals := ln + 148 }) (va_Pc [.ref (a 4), .int p0] (cW D k A a z G)) (va_Qi (fun (r : Int32) (G1 : GS) => P_fBracket_2_s E O p0 G r G1) (fun (G1 : GS) t => Wd D k A a G1 t.heap) A) 0 0 A := by
  refine Met.ofW (cc := cX2_passBracket) (maxL := 2) (ret := (some .boolean)) (by decide) rfl ?_
  intro p e s m args below meth c s₁ B hml hv
  obtain ⟨rfl, hW, hB_G, hK, hZ⟩ := hv
  have hx := B.exec
  have hb := B.bytes
  have hr := B.returns
  have hts := atoms_spec (ws := WS yX2_passBracket cX2_passBracket 2 (some .boolean)) B.pre
  have hgd : ∀ w ∈ gd, w ∈ WS yX2_passBracket cX2_passBracket 2 (some .boolean) := fun w h => List.mem_cons_of_mem _ h
  have hg : ∀ w ∈ gd, w.before _ s = true := fun w h => hts w (hgd w h)
  have hown : s.vm.findClass RX2 = some m.cls := findClass_of_methodNamed B.named
  have hS : va_S A s.heap s.heap [] := va_S.rf
  have hF : Fr [27] [(2, 12), (2, 13), (3, 2), (3, 3), (3, 4), (3, 5), (3, 6), (3, 7), (3, 8), (4, 2)] G G := Fr.rf
  have hl := lv_entry ([.ref (a 4), .int p0]) (n := 2) (Nat.le_of_ble_eq_true rfl)
  rw [lg_entry_eq]
  generalize (lg_sl ([.ref (a 4), .int p0]) ++ List.replicate (2 - (lg_sl ([.ref (a 4), .int p0])).length) Slot.unset).toArray = ls at hl ⊢
  have hl : lv_has ls 2 [(0, .ref (a 4)), (1, .int p0)] := hl
  refine lv_iload_n hx hb dX2_passBracket_0 rfl (lv_at hl 1 rfl) ?_
  refine lv_bipush (v := 6) hx hb dX2_passBracket_1 (by decide) ?_
  refine lv_icmp_le (tgt := 15) hx hb dX2_passBracket_3 rfl (fun c_1 => ?_) (fun c_1 => ?_)
  · have c_1 : p0.toInt ≤ 6 := xI_le rfl rfl c_1
    refine lv_aload_n hx hb dX2_passBracket_15 rfl (lv_at hl 0 rfl) ?_
    refine S_getR (n := 3) (C := RX2) (T := TX2) (N := 3) hx hb hg iX2 hown hK hW kd_4 rfl 0 (lt_b rfl) (hg (Cond.fieldLink RX2 9 "SlabWalk$Formulas" "tokens" "LSlabWalk$Tokens;") m301) (fun _ h9 => h9) rfl dX2_passBracket_16 ?_
    refine S_calli (va_runV (As := []) (rest := []) ⟨hx, hb, hml, hown, hts⟩ (k_tAdvance l D k A a z G  ) (cwV 0 hts (gd_V hgd m854 m639 m640 m120 m641) rfl rfl rfl hd_X9_advance ⟨show 6 + 1 ≤ fn + 7 from sy_1 fn (Nat.le_of_ble_eq_true rfl), show 8 + (2 + 11) + (127) ≤ ln + 148 from sy_1 ln (Nat.le_of_ble_eq_true rfl)⟩) (pre_W hW hB_G hK hZ hS kd_3 rfl) rfl rfl hl.1 rfl (lv_room (Nat.le_of_ble_eq_true rfl)) dX2_passBracket_19 ⟨Nat.le_of_ble_eq_true rfl, Nat.le_of_ble_eq_true rfl⟩) hS (fun r_2 G_3 H locs hpo hW hS => ?_)
    have hX_6 : P_tAdvance G r_2 G_3 := hpo
    obtain ⟨hB_G_3, hq_4, f_7, -⟩ := hpo
    have hF := hF.call9 hq_4 rfl rfl
    refine lv_pop hx hb dX2_passBracket_22 rfl ?_
    refine lv_aload_n hx hb dX2_passBracket_23 rfl (lv_at hl 0 rfl) ?_
    refine lv_iload_n hx hb dX2_passBracket_24 rfl (lv_at hl 1 rfl) ?_
    refine ic_1 hx hb dX2_passBracket_25 ?_
    refine lv_iadd hx hb dX2_passBracket_26 ?_
    refine lv_topi (fun y_8 ey_8 => ?_)
    have ty_8 : y_8.toInt = p0.toInt + 1 := xI_add rfl rfl ey_8 ((by first | exact ok_21 ha_p0.1 | omega)) ((by first | exact ok_381 ha_p0.2 | omega))
    refine S_calli (va_runV (As := [.int y_8]) (rest := []) ⟨hx, hb, hml, hown, hts⟩ (hE G_3 y_8 ⟨(by first | exact ok_23 ha_p0.1 ty_8 | omega), (by first | exact ok_382 ha_p0.2 c_1 ty_8 | omega)⟩ (((hq_4.r9 4 1 rfl rfl)).trans (hv_4_1)) ((by first | exact ok_383 hd ty_8 | omega))) (cwV 1 hts (gd_V hgd m821 m823 m16 m121 m824) rfl rfl rfl hd_X2_passEither ⟨show fn + 2 + 1 ≤ fn + 7 from sy_2 fn (Nat.le_of_ble_eq_true rfl), show 8 + (3 + 11) + (ln + 43) ≤ ln + 148 from sy_3 ln (Nat.le_of_ble_eq_true rfl)⟩) (pre_W hW hB_G_3 hK hZ hS kd_4 rfl) rfl rfl hl.1 rfl (lv_room (Nat.le_of_ble_eq_true rfl)) dX2_passBracket_27 ⟨Nat.le_of_ble_eq_true rfl, Nat.le_of_ble_eq_true rfl⟩) hS (fun r_9 G_10 H locs hpo hW hS => ?_)
    have hX_13 : E y_8 G_3 r_9 G_10 := hpo
    obtain ⟨hB_G_10, hq_11, f_14⟩ := hEb _ _ _ _ hpo
    have hF := hF.call9 hq_11 rfl rfl
    refine lv_if_ne (tgt := 35) hx hb dX2_passBracket_30 rfl (fun c_15 => ?_) (fun c_15 => ?_)
    · have c_15 : r_9.toInt ≠ 0 := xI_ne rfl rfl c_15
      refine lv_aload_n hx hb dX2_passBracket_35 rfl (lv_at hl 0 rfl) ?_
      refine S_getR (n := 3) (C := RX2) (T := TX2) (N := 3) hx hb hg iX2 hown hK hW kd_4 rfl 0 (lt_b rfl) (hg (Cond.fieldLink RX2 9 "SlabWalk$Formulas" "tokens" "LSlabWalk$Tokens;") m301) (fun _ h9 => h9) rfl dX2_passBracket_36 ?_
      refine S_getI (v := (G_10.1 3 3)) (C := RX9) (T := TX9) (N := 9) hx hb hg iX9 hown hK hW kd_3 rfl 3 (lt_b rfl) (hg (Cond.fieldLink RX2 30 "SlabWalk$Tokens" "kind" "I") m263) (fun _ h9 => h9) rfl rfl dX2_passBracket_39 ?_
      refine lv_bipush (v := 41) hx hb dX2_passBracket_42 (by decide) ?_
      refine lv_icmp_ne (tgt := 57) hx hb dX2_passBracket_44 rfl (fun c_16 => ?_) (fun c_16 => ?_)
      · have c_16 : (G_10.1 3 3).toInt ≠ 41 := xI_ne rfl rfl c_16
        refine lv_aload_n hx hb dX2_passBracket_57 rfl (lv_at hl 0 rfl) ?_
        refine S_getR (n := 3) (C := RX2) (T := TX2) (N := 3) hx hb hg iX2 hown hK hW kd_4 rfl 0 (lt_b rfl) (hg (Cond.fieldLink RX2 9 "SlabWalk$Formulas" "tokens" "LSlabWalk$Tokens;") m301) (fun _ h9 => h9) rfl dX2_passBracket_58 ?_
        refine ic_2 hx hb dX2_passBracket_61 ?_
        refine S_calli (va_runV (As := [.int 2]) (rest := []) ⟨hx, hb, hml, hown, hts⟩ (k_tRefuse l D k A a z G_10 2 ⟨by decide, by decide⟩) (cwV 1 hts (gd_V hgd m849 m779 m780 m120 m781) rfl rfl rfl hd_X9_refuse ⟨show 0 + 1 ≤ fn + 7 from sy_1 fn (Nat.le_of_ble_eq_true rfl), show 8 + (2 + 11) + (0) ≤ ln + 148 from sy_1 ln (Nat.le_of_ble_eq_true rfl)⟩) (pre_W hW hB_G_10 hK hZ hS kd_3 rfl) rfl rfl hl.1 rfl (lv_room (Nat.le_of_ble_eq_true rfl)) dX2_passBracket_62 ⟨Nat.le_of_ble_eq_true rfl, Nat.le_of_ble_eq_true rfl⟩) hS (fun r_17 G_18 H locs hpo hW hS => ?_)
        have hX_21 : P_tRefuse 2 G_10 r_17 G_18 := hpo
        obtain ⟨hB_G_18, hq_19, f_22, -⟩ := hpo
        have hF := hF.call9 hq_19 rfl rfl
        exact W.zret (v := r_17) hx hb hr (nar_z ((by first | exact f_22.1 | omega)) ((by first | exact ok_130 f_22.2 | omega))) (fun t ht _ => ⟨⟨r_17, G_18, rfl, (P_fBracket_2_s_mk ⟨hB_G_18, hF, ⟨(by first | exact f_22.1 | omega), (by first | exact ok_130 f_22.2 | omega)⟩, (Or.inl ⟨c_1, ⟨r_2, G_3, hX_6, ⟨y_8, ty_8, ⟨r_9, G_10, hX_13, (Or.inr ⟨c_15, (Or.inr ⟨c_16, ⟨r_17, G_18, hX_21, ⟨rfl, rfl⟩⟩⟩)⟩)⟩⟩⟩⟩)⟩), wd_t ht hW⟩, hS.F ht⟩) hS.2.2 dX2_passBracket_65
      · have c_16 : (G_10.1 3 3).toInt = 41 := xI_eq rfl rfl c_16
        refine lv_aload_n hx hb dX2_passBracket_47 rfl (lv_at hl 0 rfl) ?_
        refine S_getR (n := 3) (C := RX2) (T := TX2) (N := 3) hx hb hg iX2 hown hK hW kd_4 rfl 0 (lt_b rfl) (hg (Cond.fieldLink RX2 9 "SlabWalk$Formulas" "tokens" "LSlabWalk$Tokens;") m301) (fun _ h9 => h9) rfl dX2_passBracket_48 ?_
        refine S_calli (va_runV (As := []) (rest := []) ⟨hx, hb, hml, hown, hts⟩ (k_tAdvance l D k A a z G_10  ) (cwV 0 hts (gd_V hgd m854 m639 m640 m120 m641) rfl rfl rfl hd_X9_advance ⟨show 6 + 1 ≤ fn + 7 from sy_1 fn (Nat.le_of_ble_eq_true rfl), show 8 + (2 + 11) + (127) ≤ ln + 148 from sy_1 ln (Nat.le_of_ble_eq_true rfl)⟩) (pre_W hW hB_G_10 hK hZ hS kd_3 rfl) rfl rfl hl.1 rfl (lv_room (Nat.le_of_ble_eq_true rfl)) dX2_passBracket_51 ⟨Nat.le_of_ble_eq_true rfl, Nat.le_of_ble_eq_true rfl⟩) hS (fun r_23 G_24 H locs hpo hW hS => ?_)
        have hX_27 : P_tAdvance G_10 r_23 G_24 := hpo
        obtain ⟨hB_G_24, hq_25, f_28, -⟩ := hpo
        have hF := hF.call9 hq_25 rfl rfl
        refine lv_goto (tgt := 65) hx hb dX2_passBracket_54 rfl ?_
        exact W.zret (v := r_23) hx hb hr (nar_z ((by first | exact ok_131 f_28.1 | omega)) ((by first | exact f_28.2 | omega))) (fun t ht _ => ⟨⟨r_23, G_24, rfl, (P_fBracket_2_s_mk ⟨hB_G_24, hF, ⟨(by first | exact ok_131 f_28.1 | omega), (by first | exact f_28.2 | omega)⟩, (Or.inl ⟨c_1, ⟨r_2, G_3, hX_6, ⟨y_8, ty_8, ⟨r_9, G_10, hX_13, (Or.inr ⟨c_15, (Or.inl ⟨c_16, ⟨r_23, G_24, hX_27, ⟨rfl, rfl⟩⟩⟩)⟩)⟩⟩⟩⟩)⟩), wd_t ht hW⟩, hS.F ht⟩) hS.2.2 dX2_passBracket_65
    · have c_15 : r_9.toInt = 0 := xI_eq rfl rfl c_15
      refine ic_0 hx hb dX2_passBracket_33 ?_
      exact W.zret (v := 0) hx hb hr (by decide) (fun t ht _ => ⟨⟨0, G_10, rfl, (P_fBracket_2_s_mk ⟨hB_G_10, hF, ⟨by decide, by decide⟩, (Or.inl ⟨c_1, ⟨r_2, G_3, hX_6, ⟨y_8, ty_8, ⟨r_9, G_10, hX_13, (Or.inl ⟨c_15, ⟨rfl, rfl⟩⟩)⟩⟩⟩⟩)⟩), wd_t ht hW⟩, hS.F ht⟩) hS.2.2 dX2_passBracket_34
  · have c_1 : 6 < p0.toInt := xI_nle rfl rfl c_1
    refine lv_aload_n hx hb dX2_passBracket_6 rfl (lv_at hl 0 rfl) ?_
    refine S_getR (n := 3) (C := RX2) (T := TX2) (N := 3) hx hb hg iX2 hown hK hW kd_4 rfl 0 (lt_b rfl) (hg (Cond.fieldLink RX2 9 "SlabWalk$Formulas" "tokens" "LSlabWalk$Tokens;") m301) (fun _ h9 => h9) rfl dX2_passBracket_7 ?_
    refine ic_2 hx hb dX2_passBracket_10 ?_
    refine S_calli (va_runV (As := [.int 2]) (rest := []) ⟨hx, hb, hml, hown, hts⟩ (k_tRefuse l D k A a z G 2 ⟨by decide, by decide⟩) (cwV 1 hts (gd_V hgd m849 m779 m780 m120 m781) rfl rfl rfl hd_X9_refuse ⟨show 0 + 1 ≤ fn + 7 from sy_1 fn (Nat.le_of_ble_eq_true rfl), show 8 + (2 + 11) + (0) ≤ ln + 148 from sy_1 ln (Nat.le_of_ble_eq_true rfl)⟩) (pre_W hW hB_G hK hZ hS kd_3 rfl) rfl rfl hl.1 rfl (lv_room (Nat.le_of_ble_eq_true rfl)) dX2_passBracket_11 ⟨Nat.le_of_ble_eq_true rfl, Nat.le_of_ble_eq_true rfl⟩) hS (fun r_29 G_30 H locs hpo hW hS => ?_)
    have hX_33 : P_tRefuse 2 G r_29 G_30 := hpo
    obtain ⟨hB_G_30, hq_31, f_34, -⟩ := hpo
    have hF := hF.call9 hq_31 rfl rfl
    exact W.zret (v := r_29) hx hb hr (nar_z ((by first | exact f_34.1 | omega)) ((by first | exact ok_130 f_34.2 | omega))) (fun t ht _ => ⟨⟨r_29, G_30, rfl, (P_fBracket_2_s_mk ⟨hB_G_30, hF, ⟨(by first | exact f_34.1 | omega), (by first | exact ok_130 f_34.2 | omega)⟩, (Or.inr ⟨c_1, ⟨r_29, G_30, hX_33, ⟨rfl, rfl⟩⟩⟩)⟩), wd_t ht hW⟩, hS.F ht⟩) hS.2.2 dX2_passBracket_14

set_option maxHeartbeats 4000000 in
set_option maxRecDepth 100000 in
theorem k_fUnit_2_s (l : Launch) (D : va_G) (k : KT) (A : Nat → Prop) (a : Nat → Nat) (z : SK) (fn ln n : Nat) (E O : XR) (hEb : ∀ (p0 : Int32) (G : GS) (r : Int32) (G1 : GS), E p0 G r G1 → Bd G1 ∧ Fr [27] [(2, 12), (2, 13), (3, 2), (3, 3), (3, 4), (3, 5), (3, 6), (3, 7), (3, 8), (4, 2)] G G1 ∧ (0 ≤ r.toInt ∧ r.toInt ≤ 1)) (hOb : ∀ (p0 : Int32) (G : GS) (r : Int32) (G1 : GS), O p0 G r G1 → Bd G1 ∧ Fr [27] [(2, 12), (2, 13), (3, 2), (3, 3), (3, 4), (3, 5), (3, 6), (3, 7), (3, 8), (4, 2)] G G1 ∧ (0 ≤ r.toInt ∧ r.toInt ≤ 1)) (hE : ∀ (G : GS) (p0 : Int32) (ha_p0 : 0 ≤ p0.toInt ∧ p0.toInt ≤ 7) (hv_4_1 : G.2.2 4 1 = 2) (hd : 8 ≤ p0.toInt + (n : Int)), Met l yX2_passEither (WS yX2_passEither cX2_passEither 3 (some .boolean)) ({ frames := fn + 2, cells := 0, slots := 0, locals := ln + 43 }) (va_Pc [.ref (a 4), .int p0] (cW D k A a z G)) (va_Qi (fun (r : Int32) (G1 : GS) => E p0 G r G1) (fun (G1 : GS) t => Wd D k A a G1 t.heap) A) 0 0 A) (hO : ∀ (G : GS) (p0 : Int32) (ha_p0 : 0 ≤ p0.toInt ∧ p0.toInt ≤ 7) (hv_4_1 : G.2.2 4 1 = 2) (hd : 8 ≤ p0.toInt + (n : Int)), Met l yX2_passOne (WS yX2_passOne cX2_passOne 2 (some .boolean)) ({ frames := fn + 0, cells := 0, slots := 0, locals := ln + 0 }) (va_Pc [.ref (a 4), .int p0] (cW D k A a z G)) (va_Qi (fun (r : Int32) (G1 : GS) => O p0 G r G1) (fun (G1 : GS) t => Wd D k A a G1 t.heap) A) 0 0 A) (G : GS) (p0 : Int32) (ha_p0 : 0 ≤ p0.toInt ∧ p0.toInt ≤ 7) (hv_4_1 : G.2.2 4 1 = 2) (hd : 8 ≤ p0.toInt + (n : Int) + 1) : Met l yX2_passUnit (WS yX2_passUnit cX2_passUnit 2 (some .boolean)) ({ frames := fn + 8, cells := 0, slots := 0, locals := ln + 169 }) (va_Pc [.ref (a 4), .int p0] (cW D k A a z G)) (va_Qi (fun (r : Int32) (G1 : GS) => P_fUnit_2_s E O p0 G r G1) (fun (G1 : GS) t => Wd D k A a G1 t.heap) A) 0 0 A := by
  refine Met.ofW (cc := cX2_passUnit) (maxL := 2) (ret := (some .boolean)) (by decide) rfl ?_
  intro p e s m args below meth c s₁ B hml hv
  obtain ⟨rfl, hW, hB_G, hK, hZ⟩ := hv
  have hx := B.exec
  have hb := B.bytes
  have hr := B.returns
  have hts := atoms_spec (ws := WS yX2_passUnit cX2_passUnit 2 (some .boolean)) B.pre
  have hgd : ∀ w ∈ gd, w ∈ WS yX2_passUnit cX2_passUnit 2 (some .boolean) := fun w h => List.mem_cons_of_mem _ h
  have hg : ∀ w ∈ gd, w.before _ s = true := fun w h => hts w (hgd w h)
  have hown : s.vm.findClass RX2 = some m.cls := findClass_of_methodNamed B.named
  have hS : va_S A s.heap s.heap [] := va_S.rf
  have hF : Fr [27] [(2, 12), (2, 13), (3, 2), (3, 3), (3, 4), (3, 5), (3, 6), (3, 7), (3, 8), (4, 2)] G G := Fr.rf
  have hl := lv_entry ([.ref (a 4), .int p0]) (n := 2) (Nat.le_of_ble_eq_true rfl)
  rw [lg_entry_eq]
  generalize (lg_sl ([.ref (a 4), .int p0]) ++ List.replicate (2 - (lg_sl ([.ref (a 4), .int p0])).length) Slot.unset).toArray = ls at hl ⊢
  have hl : lv_has ls 2 [(0, .ref (a 4)), (1, .int p0)] := hl
  refine lv_aload_n hx hb dX2_passUnit_0 rfl (lv_at hl 0 rfl) ?_
  have b_1 : 0 ≤ (G.1 4 2).toInt ∧ (G.1 4 2).toInt ≤ 30 := bd_4_2 hB_G
  refine S_getI (v := (G.1 4 2)) (C := RX2) (T := TX2) (N := 3) hx hb hg iX2 hown hK hW kd_4 rfl 2 (lt_b rfl) (hg (Cond.fieldLink RX2 19 "SlabWalk$Formulas" "units" "I") m303) (fun _ h9 => h9) rfl rfl dX2_passUnit_1 ?_
  refine lv_bipush (v := 30) hx hb dX2_passUnit_4 (by decide) ?_
  refine lv_icmp_ge (tgt := 21) hx hb dX2_passUnit_6 rfl (fun c_2 => ?_) (fun c_2 => ?_)
  · have c_2 : 30 ≤ (G.1 4 2).toInt := xI_le rfl rfl c_2
    refine lv_aload_n hx hb dX2_passUnit_21 rfl (lv_at hl 0 rfl) ?_
    refine S_getR (n := 3) (C := RX2) (T := TX2) (N := 3) hx hb hg iX2 hown hK hW kd_4 rfl 0 (lt_b rfl) (hg (Cond.fieldLink RX2 9 "SlabWalk$Formulas" "tokens" "LSlabWalk$Tokens;") m301) (fun _ h9 => h9) rfl dX2_passUnit_22 ?_
    refine ic_2 hx hb dX2_passUnit_25 ?_
    refine S_calli (va_runV (As := [.int 2]) (rest := []) ⟨hx, hb, hml, hown, hts⟩ (k_tRefuse l D k A a z G 2 ⟨by decide, by decide⟩) (cwV 1 hts (gd_V hgd m849 m779 m780 m120 m781) rfl rfl rfl hd_X9_refuse ⟨show 0 + 1 ≤ fn + 8 from sy_1 fn (Nat.le_of_ble_eq_true rfl), show 8 + (2 + 11) + (0) ≤ ln + 169 from sy_1 ln (Nat.le_of_ble_eq_true rfl)⟩) (pre_W hW hB_G hK hZ hS kd_3 rfl) rfl rfl hl.1 rfl (lv_room (Nat.le_of_ble_eq_true rfl)) dX2_passUnit_26 ⟨Nat.le_of_ble_eq_true rfl, Nat.le_of_ble_eq_true rfl⟩) hS (fun r_3 G_4 H locs hpo hW hS => ?_)
    have hX_7 : P_tRefuse 2 G r_3 G_4 := hpo
    obtain ⟨hB_G_4, hq_5, f_8, -⟩ := hpo
    have hF := hF.call9 hq_5 rfl rfl
    exact W.zret (v := r_3) hx hb hr (nar_z ((by first | exact f_8.1 | omega)) ((by first | exact ok_130 f_8.2 | omega))) (fun t ht _ => ⟨⟨r_3, G_4, rfl, (P_fUnit_2_s_mk ⟨hB_G_4, hF, ⟨(by first | exact f_8.1 | omega), (by first | exact ok_130 f_8.2 | omega)⟩, (Or.inl ⟨c_2, ⟨r_3, G_4, hX_7, ⟨rfl, rfl⟩⟩⟩)⟩), wd_t ht hW⟩, hS.F ht⟩) hS.2.2 dX2_passUnit_29
  · have c_2 : (G.1 4 2).toInt < 30 := xI_nle rfl rfl c_2
    refine lv_aload_n hx hb dX2_passUnit_9 rfl (lv_at hl 0 rfl) ?_
    refine S_getV (n := 2) (C := RX2) (T := TX2) (N := 3) hx hb hg iX2 hown hK hW kd_4 rfl 1 (lt_b rfl) (hg (Cond.fieldLink RX2 15 "SlabWalk$Formulas" "paving" "LSlabWalk$Paving;") m302) (fun _ h9 => h9) rfl hv_4_1 dX2_passUnit_10 ?_
    have b_9 : 0 ≤ (G.1 2 12).toInt ∧ (G.1 2 12).toInt ≤ 90 := bd_2_12 hB_G
    refine S_getI (v := (G.1 2 12)) (C := RX6) (T := TX6) (N := 17) hx hb hg iX6 hown hK hW kd_2 rfl 12 (lt_b rfl) (hg (Cond.fieldLink RX2 66 "SlabWalk$Paving" "units" "I") m197) (fun _ h9 => h9) rfl rfl dX2_passUnit_13 ?_
    refine lv_bipush (v := 90) hx hb dX2_passUnit_16 (by decide) ?_
    refine lv_icmp_lt (tgt := 30) hx hb dX2_passUnit_18 rfl (fun c_10 => ?_) (fun c_10 => ?_)
    · have c_10 : (G.1 2 12).toInt < 90 := xI_lt rfl rfl c_10
      refine lv_aload_n hx hb dX2_passUnit_30 rfl (lv_at hl 0 rfl) ?_
      refine lv_dup hx hb dX2_passUnit_31 rfl ?_
      refine S_getI (v := (G.1 4 2)) (C := RX2) (T := TX2) (N := 3) hx hb hg iX2 hown hK hW kd_4 rfl 2 (lt_b rfl) (hg (Cond.fieldLink RX2 19 "SlabWalk$Formulas" "units" "I") m303) (fun _ h9 => h9) rfl rfl dX2_passUnit_32 ?_
      refine ic_1 hx hb dX2_passUnit_35 ?_
      refine lv_iadd hx hb dX2_passUnit_36 ?_
      refine lv_topi (fun y_11 ey_11 => ?_)
      have ty_11 : y_11.toInt = (G.1 4 2).toInt + 1 := xI_add rfl rfl ey_11 ((by first | exact ok_21 b_1.1 | omega)) ((by first | exact ok_384 b_1.2 | omega))
      refine S_putI (ty := .int) (C := RX2) (T := TX2) (N := 3) hx hb hg iX2 tyX2 tyX2_ok nmX2 hown hK hW hS kd_4 rfl 2 (lt_b rfl) (hg (Cond.fieldLink RX2 19 "SlabWalk$Formulas" "units" "I") m303) (fun _ h9 => h9) rfl (by decide +kernel) rfl rfl rfl dX2_passUnit_37 (fun G_12 H locs eG_12 hW hS => ?_)
      have hB_G_12 : Bd G_12 := hB_G.put (V := y_11.toInt) (lo := 0) (hi := 30) eG_12 rfl rfl rfl ((by first | exact ok_23 b_1.1 ty_11 | omega)) ((by first | exact ok_385 b_1.2 c_2 ty_11 | omega)) (hB_G.2.put eG_12 rfl)
      have hF := hF.put eG_12 (Or.inr (by decide))
      refine lv_aload_n hx hb dX2_passUnit_40 rfl (lv_at hl 0 rfl) ?_
      refine S_getV (n := 2) (C := RX2) (T := TX2) (N := 3) hx hb hg iX2 hown hK hW kd_4 rfl 1 (lt_b rfl) (hg (Cond.fieldLink RX2 15 "SlabWalk$Formulas" "paving" "LSlabWalk$Paving;") m302) (fun _ h9 => h9) rfl (((congrFun (congrFun (congrArg (fun q => q.2.2) eG_12) 4) 1)).trans (hv_4_1)) dX2_passUnit_41 ?_
      refine lv_dup hx hb dX2_passUnit_44 rfl ?_
      refine S_getI (v := (G.1 2 12)) (C := RX6) (T := TX6) (N := 17) hx hb hg iX6 hown hK hW kd_2 rfl 12 (lt_b rfl) (hg (Cond.fieldLink RX2 66 "SlabWalk$Paving" "units" "I") m197) (fun _ h9 => h9) rfl ((gp_ne eG_12 (by decide)).trans (rfl)) dX2_passUnit_45 ?_
      refine ic_1 hx hb dX2_passUnit_48 ?_
      refine lv_iadd hx hb dX2_passUnit_49 ?_
      refine lv_topi (fun y_13 ey_13 => ?_)
      have ty_13 : y_13.toInt = (G.1 2 12).toInt + 1 := xI_add rfl rfl ey_13 ((by first | exact ok_21 b_9.1 | omega)) ((by first | exact ok_386 b_9.2 | omega))
      refine S_putI (ty := .int) (C := RX6) (T := TX6) (N := 17) hx hb hg iX6 tyX6 tyX6_ok nmX6 hown hK hW hS kd_2 rfl 12 (lt_b rfl) (hg (Cond.fieldLink RX2 66 "SlabWalk$Paving" "units" "I") m197) (fun _ h9 => h9) rfl (by decide +kernel) rfl rfl rfl dX2_passUnit_50 (fun G_14 H locs eG_14 hW hS => ?_)
      have hB_G_14 : Bd G_14 := hB_G_12.put (V := y_13.toInt) (lo := 0) (hi := 90) eG_14 rfl rfl rfl ((by first | exact ok_23 b_9.1 ty_13 | omega)) ((by first | exact ok_387 b_9.2 c_10 ty_13 | omega)) (hB_G_12.2.put eG_14 rfl)
      have hF := hF.put eG_14 (Or.inr (by decide))
      refine lv_aload_n hx hb dX2_passUnit_53 rfl (lv_at hl 0 rfl) ?_
      refine S_getR (n := 3) (C := RX2) (T := TX2) (N := 3) hx hb hg iX2 hown hK hW kd_4 rfl 0 (lt_b rfl) (hg (Cond.fieldLink RX2 9 "SlabWalk$Formulas" "tokens" "LSlabWalk$Tokens;") m301) (fun _ h9 => h9) rfl dX2_passUnit_54 ?_
      refine S_getI (v := (G.1 3 3)) (C := RX9) (T := TX9) (N := 9) hx hb hg iX9 hown hK hW kd_3 rfl 3 (lt_b rfl) (hg (Cond.fieldLink RX2 30 "SlabWalk$Tokens" "kind" "I") m263) (fun _ h9 => h9) rfl ((gp_ne eG_14 (by decide)).trans (gp_ne eG_12 (by decide))) dX2_passUnit_57 ?_
      by_cases c_15 : (G.1 3 3) = 40
      · refine lv_lookup (tgt := 160) hx hb dX2_passUnit_60 (by decide) (off := 100) (by rw [c_15]; decide) (by decide) ?_
        have c_15 : (G.1 3 3).toInt = 40 := xI_eq rfl rfl c_15
        refine lv_aload_n hx hb dX2_passUnit_160 rfl (lv_at hl 0 rfl) ?_
        refine lv_iload_n hx hb dX2_passUnit_161 rfl (lv_at hl 1 rfl) ?_
        refine S_calli (va_runV (As := [.int p0]) (rest := []) ⟨hx, hb, hml, hown, hts⟩ (k_fBracket_2_s l D k A a z fn ln n E O hEb hOb hE hO G_14 p0 ⟨(by first | exact ha_p0.1 | omega), (by first | exact ha_p0.2 | omega)⟩ ((((congrFun (congrFun (congrArg (fun q => q.2.2) eG_14) 4) 1).trans (congrFun (congrFun (congrArg (fun q => q.2.2) eG_12) 4) 1))).trans (hv_4_1)) ((by first | exact hd | omega))) (cwV 1 hts (gd_V hgd m850 m852 m23 m121 m853) rfl rfl rfl hd_X2_passBracket ⟨show fn + 7 + 1 ≤ fn + 8 from sy_2 fn (Nat.le_of_ble_eq_true rfl), show 8 + (2 + 11) + (ln + 148) ≤ ln + 169 from sy_3 ln (Nat.le_of_ble_eq_true rfl)⟩) (pre_W hW hB_G_14 hK hZ hS kd_4 rfl) rfl rfl hl.1 rfl (lv_room (Nat.le_of_ble_eq_true rfl)) dX2_passUnit_162 ⟨Nat.le_of_ble_eq_true rfl, Nat.le_of_ble_eq_true rfl⟩) hS (fun r_16 G_17 H locs hpo hW hS => ?_)
        have hX_20 : P_fBracket_2_s E O p0 G_14 r_16 G_17 := hpo
        obtain ⟨hB_G_17, hq_18, f_21, -⟩ := hpo
        have hF := hF.call9 hq_18 rfl rfl
        exact W.zret (v := r_16) hx hb hr (nar_z ((by first | exact f_21.1 | omega)) ((by first | exact f_21.2 | omega))) (fun t ht _ => ⟨⟨r_16, G_17, rfl, (P_fUnit_2_s_mk ⟨hB_G_17, hF, ⟨(by first | exact f_21.1 | omega), (by first | exact f_21.2 | omega)⟩, (Or.inr ⟨c_2, (Or.inl ⟨c_10, ⟨y_11, ty_11, ⟨y_13, ty_13, (Or.inl ⟨c_15, ⟨G_14, hB_G_14, (Fr.put (rs := []) (fs := [(2, 12), (4, 2)]) (Fr.put (rs := []) (fs := [(2, 12), (4, 2)]) Fr.rf eG_12 (Or.inr (by decide))) eG_14 (Or.inr (by decide))), (gp_eq eG_14), ((gp_ne eG_14 (by decide)).trans (gp_eq eG_12)), ⟨r_16, G_17, hX_20, ⟨rfl, rfl⟩⟩⟩⟩)⟩⟩⟩)⟩)⟩), wd_t ht hW⟩, hS.F ht⟩) hS.2.2 dX2_passUnit_165
      by_cases c_22 : (G.1 3 3) = 139
      · refine lv_lookup (tgt := 191) hx hb dX2_passUnit_60 (by decide) (off := 131) (by rw [c_22]; decide) (by decide) ?_
        have c_22 : (G.1 3 3).toInt = 139 := xI_eq rfl rfl c_22
        refine lv_aload_n hx hb dX2_passUnit_191 rfl (lv_at hl 0 rfl) ?_
        refine S_getV (n := 2) (C := RX2) (T := TX2) (N := 3) hx hb hg iX2 hown hK hW kd_4 rfl 1 (lt_b rfl) (hg (Cond.fieldLink RX2 15 "SlabWalk$Formulas" "paving" "LSlabWalk$Paving;") m302) (fun _ h9 => h9) rfl ((((congrFun (congrFun (congrArg (fun q => q.2.2) eG_14) 4) 1).trans (congrFun (congrFun (congrArg (fun q => q.2.2) eG_12) 4) 1))).trans (hv_4_1)) dX2_passUnit_192 ?_
        refine lv_aload_n hx hb dX2_passUnit_195 rfl (lv_at hl 0 rfl) ?_
        refine S_getR (n := 3) (C := RX2) (T := TX2) (N := 3) hx hb hg iX2 hown hK hW kd_4 rfl 0 (lt_b rfl) (hg (Cond.fieldLink RX2 9 "SlabWalk$Formulas" "tokens" "LSlabWalk$Tokens;") m301) (fun _ h9 => h9) rfl dX2_passUnit_196 ?_
        refine S_getI (v := (G.1 3 3)) (C := RX9) (T := TX9) (N := 9) hx hb hg iX9 hown hK hW kd_3 rfl 3 (lt_b rfl) (hg (Cond.fieldLink RX2 30 "SlabWalk$Tokens" "kind" "I") m263) (fun _ h9 => h9) rfl ((gp_ne eG_14 (by decide)).trans ((gp_ne eG_12 (by decide)).trans (rfl))) dX2_passUnit_199 ?_
        refine ic_0 hx hb dX2_passUnit_202 ?_
        refine S_callv (va_runV (As := [.int (G.1 3 3), .int 0]) (rest := []) ⟨hx, hb, hml, hown, hts⟩ (k_emit_2 l D k A a z G_14 (G.1 3 3) 0 ) (cwV 2 hts (gd_V hgd m855 m856 m857 m118 m858) rfl rfl rfl hd_X6_emit ⟨show 0 + 1 ≤ fn + 8 from sy_1 fn (Nat.le_of_ble_eq_true rfl), show 8 + (3 + 11) + (0) ≤ ln + 169 from sy_1 ln (Nat.le_of_ble_eq_true rfl)⟩) (pre_W hW hB_G_14 hK hZ hS kd_2 rfl) rfl rfl hl.1 rfl (lv_room (Nat.le_of_ble_eq_true rfl)) dX2_passUnit_203 ⟨Nat.le_of_ble_eq_true rfl, Nat.le_of_ble_eq_true rfl⟩) hS (fun G_24 H locs hpo hW hS => ?_)
        have hX_27 : P_emit_2 (G.1 3 3) 0 G_14 G_24 := hpo
        obtain ⟨hB_G_24, hq_25, -⟩ := hpo
        have hF := hF.call9 hq_25 rfl rfl
        refine lv_aload_n hx hb dX2_passUnit_206 rfl (lv_at hl 0 rfl) ?_
        refine S_getR (n := 3) (C := RX2) (T := TX2) (N := 3) hx hb hg iX2 hown hK hW kd_4 rfl 0 (lt_b rfl) (hg (Cond.fieldLink RX2 9 "SlabWalk$Formulas" "tokens" "LSlabWalk$Tokens;") m301) (fun _ h9 => h9) rfl dX2_passUnit_207 ?_
        refine S_calli (va_runV (As := []) (rest := []) ⟨hx, hb, hml, hown, hts⟩ (k_tAdvance l D k A a z G_24  ) (cwV 0 hts (gd_V hgd m854 m639 m640 m120 m641) rfl rfl rfl hd_X9_advance ⟨show 6 + 1 ≤ fn + 8 from sy_1 fn (Nat.le_of_ble_eq_true rfl), show 8 + (2 + 11) + (127) ≤ ln + 169 from sy_1 ln (Nat.le_of_ble_eq_true rfl)⟩) (pre_W hW hB_G_24 hK hZ hS kd_3 rfl) rfl rfl hl.1 rfl (lv_room (Nat.le_of_ble_eq_true rfl)) dX2_passUnit_210 ⟨Nat.le_of_ble_eq_true rfl, Nat.le_of_ble_eq_true rfl⟩) hS (fun r_28 G_29 H locs hpo hW hS => ?_)
        have hX_32 : P_tAdvance G_24 r_28 G_29 := hpo
        obtain ⟨hB_G_29, hq_30, f_33, -⟩ := hpo
        have hF := hF.call9 hq_30 rfl rfl
        exact W.zret (v := r_28) hx hb hr (nar_z ((by first | exact ok_131 f_33.1 | omega)) ((by first | exact f_33.2 | omega))) (fun t ht _ => ⟨⟨r_28, G_29, rfl, (P_fUnit_2_s_mk ⟨hB_G_29, hF, ⟨(by first | exact ok_131 f_33.1 | omega), (by first | exact f_33.2 | omega)⟩, (Or.inr ⟨c_2, (Or.inl ⟨c_10, ⟨y_11, ty_11, ⟨y_13, ty_13, (Or.inr ⟨(xI_ne (Y := 40) rfl rfl c_15), (Or.inl ⟨c_22, ⟨G_14, hB_G_14, (Fr.put (rs := []) (fs := [(2, 12), (4, 2)]) (Fr.put (rs := []) (fs := [(2, 12), (4, 2)]) Fr.rf eG_12 (Or.inr (by decide))) eG_14 (Or.inr (by decide))), (gp_eq eG_14), ((gp_ne eG_14 (by decide)).trans (gp_eq eG_12)), ⟨G_24, hX_27, ⟨r_28, G_29, hX_32, ⟨rfl, rfl⟩⟩⟩⟩⟩)⟩)⟩⟩⟩)⟩)⟩), wd_t ht hW⟩, hS.F ht⟩) hS.2.2 dX2_passUnit_213
      by_cases c_34 : (G.1 3 3) = 140
      · refine lv_lookup (tgt := 191) hx hb dX2_passUnit_60 (by decide) (off := 131) (by rw [c_34]; decide) (by decide) ?_
        have c_34 : (G.1 3 3).toInt = 140 := xI_eq rfl rfl c_34
        refine lv_aload_n hx hb dX2_passUnit_191 rfl (lv_at hl 0 rfl) ?_
        refine S_getV (n := 2) (C := RX2) (T := TX2) (N := 3) hx hb hg iX2 hown hK hW kd_4 rfl 1 (lt_b rfl) (hg (Cond.fieldLink RX2 15 "SlabWalk$Formulas" "paving" "LSlabWalk$Paving;") m302) (fun _ h9 => h9) rfl ((((congrFun (congrFun (congrArg (fun q => q.2.2) eG_14) 4) 1).trans (congrFun (congrFun (congrArg (fun q => q.2.2) eG_12) 4) 1))).trans (hv_4_1)) dX2_passUnit_192 ?_
        refine lv_aload_n hx hb dX2_passUnit_195 rfl (lv_at hl 0 rfl) ?_
        refine S_getR (n := 3) (C := RX2) (T := TX2) (N := 3) hx hb hg iX2 hown hK hW kd_4 rfl 0 (lt_b rfl) (hg (Cond.fieldLink RX2 9 "SlabWalk$Formulas" "tokens" "LSlabWalk$Tokens;") m301) (fun _ h9 => h9) rfl dX2_passUnit_196 ?_
        refine S_getI (v := (G.1 3 3)) (C := RX9) (T := TX9) (N := 9) hx hb hg iX9 hown hK hW kd_3 rfl 3 (lt_b rfl) (hg (Cond.fieldLink RX2 30 "SlabWalk$Tokens" "kind" "I") m263) (fun _ h9 => h9) rfl ((gp_ne eG_14 (by decide)).trans ((gp_ne eG_12 (by decide)).trans (rfl))) dX2_passUnit_199 ?_
        refine ic_0 hx hb dX2_passUnit_202 ?_
        refine S_callv (va_runV (As := [.int (G.1 3 3), .int 0]) (rest := []) ⟨hx, hb, hml, hown, hts⟩ (k_emit_2 l D k A a z G_14 (G.1 3 3) 0 ) (cwV 2 hts (gd_V hgd m855 m856 m857 m118 m858) rfl rfl rfl hd_X6_emit ⟨show 0 + 1 ≤ fn + 8 from sy_1 fn (Nat.le_of_ble_eq_true rfl), show 8 + (3 + 11) + (0) ≤ ln + 169 from sy_1 ln (Nat.le_of_ble_eq_true rfl)⟩) (pre_W hW hB_G_14 hK hZ hS kd_2 rfl) rfl rfl hl.1 rfl (lv_room (Nat.le_of_ble_eq_true rfl)) dX2_passUnit_203 ⟨Nat.le_of_ble_eq_true rfl, Nat.le_of_ble_eq_true rfl⟩) hS (fun G_36 H locs hpo hW hS => ?_)
        have hX_39 : P_emit_2 (G.1 3 3) 0 G_14 G_36 := hpo
        obtain ⟨hB_G_36, hq_37, -⟩ := hpo
        have hF := hF.call9 hq_37 rfl rfl
        refine lv_aload_n hx hb dX2_passUnit_206 rfl (lv_at hl 0 rfl) ?_
        refine S_getR (n := 3) (C := RX2) (T := TX2) (N := 3) hx hb hg iX2 hown hK hW kd_4 rfl 0 (lt_b rfl) (hg (Cond.fieldLink RX2 9 "SlabWalk$Formulas" "tokens" "LSlabWalk$Tokens;") m301) (fun _ h9 => h9) rfl dX2_passUnit_207 ?_
        refine S_calli (va_runV (As := []) (rest := []) ⟨hx, hb, hml, hown, hts⟩ (k_tAdvance l D k A a z G_36  ) (cwV 0 hts (gd_V hgd m854 m639 m640 m120 m641) rfl rfl rfl hd_X9_advance ⟨show 6 + 1 ≤ fn + 8 from sy_1 fn (Nat.le_of_ble_eq_true rfl), show 8 + (2 + 11) + (127) ≤ ln + 169 from sy_1 ln (Nat.le_of_ble_eq_true rfl)⟩) (pre_W hW hB_G_36 hK hZ hS kd_3 rfl) rfl rfl hl.1 rfl (lv_room (Nat.le_of_ble_eq_true rfl)) dX2_passUnit_210 ⟨Nat.le_of_ble_eq_true rfl, Nat.le_of_ble_eq_true rfl⟩) hS (fun r_40 G_41 H locs hpo hW hS => ?_)
        have hX_44 : P_tAdvance G_36 r_40 G_41 := hpo
        obtain ⟨hB_G_41, hq_42, f_45, -⟩ := hpo
        have hF := hF.call9 hq_42 rfl rfl
        exact W.zret (v := r_40) hx hb hr (nar_z ((by first | exact ok_131 f_45.1 | omega)) ((by first | exact f_45.2 | omega))) (fun t ht _ => ⟨⟨r_40, G_41, rfl, (P_fUnit_2_s_mk ⟨hB_G_41, hF, ⟨(by first | exact ok_131 f_45.1 | omega), (by first | exact f_45.2 | omega)⟩, (Or.inr ⟨c_2, (Or.inl ⟨c_10, ⟨y_11, ty_11, ⟨y_13, ty_13, (Or.inr ⟨(xI_ne (Y := 40) rfl rfl c_15), (Or.inr ⟨(xI_ne (Y := 139) rfl rfl c_22), (Or.inl ⟨c_34, ⟨G_14, hB_G_14, (Fr.put (rs := []) (fs := [(2, 12), (4, 2)]) (Fr.put (rs := []) (fs := [(2, 12), (4, 2)]) Fr.rf eG_12 (Or.inr (by decide))) eG_14 (Or.inr (by decide))), (gp_eq eG_14), ((gp_ne eG_14 (by decide)).trans (gp_eq eG_12)), ⟨G_36, hX_39, ⟨r_40, G_41, hX_44, ⟨rfl, rfl⟩⟩⟩⟩⟩)⟩)⟩)⟩⟩⟩)⟩)⟩), wd_t ht hW⟩, hS.F ht⟩) hS.2.2 dX2_passUnit_213
      by_cases c_46 : (G.1 3 3) = 141
      · refine lv_lookup (tgt := 191) hx hb dX2_passUnit_60 (by decide) (off := 131) (by rw [c_46]; decide) (by decide) ?_
        have c_46 : (G.1 3 3).toInt = 141 := xI_eq rfl rfl c_46
        refine lv_aload_n hx hb dX2_passUnit_191 rfl (lv_at hl 0 rfl) ?_
        refine S_getV (n := 2) (C := RX2) (T := TX2) (N := 3) hx hb hg iX2 hown hK hW kd_4 rfl 1 (lt_b rfl) (hg (Cond.fieldLink RX2 15 "SlabWalk$Formulas" "paving" "LSlabWalk$Paving;") m302) (fun _ h9 => h9) rfl ((((congrFun (congrFun (congrArg (fun q => q.2.2) eG_14) 4) 1).trans (congrFun (congrFun (congrArg (fun q => q.2.2) eG_12) 4) 1))).trans (hv_4_1)) dX2_passUnit_192 ?_
        refine lv_aload_n hx hb dX2_passUnit_195 rfl (lv_at hl 0 rfl) ?_
        refine S_getR (n := 3) (C := RX2) (T := TX2) (N := 3) hx hb hg iX2 hown hK hW kd_4 rfl 0 (lt_b rfl) (hg (Cond.fieldLink RX2 9 "SlabWalk$Formulas" "tokens" "LSlabWalk$Tokens;") m301) (fun _ h9 => h9) rfl dX2_passUnit_196 ?_
        refine S_getI (v := (G.1 3 3)) (C := RX9) (T := TX9) (N := 9) hx hb hg iX9 hown hK hW kd_3 rfl 3 (lt_b rfl) (hg (Cond.fieldLink RX2 30 "SlabWalk$Tokens" "kind" "I") m263) (fun _ h9 => h9) rfl ((gp_ne eG_14 (by decide)).trans ((gp_ne eG_12 (by decide)).trans (rfl))) dX2_passUnit_199 ?_
        refine ic_0 hx hb dX2_passUnit_202 ?_
        refine S_callv (va_runV (As := [.int (G.1 3 3), .int 0]) (rest := []) ⟨hx, hb, hml, hown, hts⟩ (k_emit_2 l D k A a z G_14 (G.1 3 3) 0 ) (cwV 2 hts (gd_V hgd m855 m856 m857 m118 m858) rfl rfl rfl hd_X6_emit ⟨show 0 + 1 ≤ fn + 8 from sy_1 fn (Nat.le_of_ble_eq_true rfl), show 8 + (3 + 11) + (0) ≤ ln + 169 from sy_1 ln (Nat.le_of_ble_eq_true rfl)⟩) (pre_W hW hB_G_14 hK hZ hS kd_2 rfl) rfl rfl hl.1 rfl (lv_room (Nat.le_of_ble_eq_true rfl)) dX2_passUnit_203 ⟨Nat.le_of_ble_eq_true rfl, Nat.le_of_ble_eq_true rfl⟩) hS (fun G_48 H locs hpo hW hS => ?_)
        have hX_51 : P_emit_2 (G.1 3 3) 0 G_14 G_48 := hpo
        obtain ⟨hB_G_48, hq_49, -⟩ := hpo
        have hF := hF.call9 hq_49 rfl rfl
        refine lv_aload_n hx hb dX2_passUnit_206 rfl (lv_at hl 0 rfl) ?_
        refine S_getR (n := 3) (C := RX2) (T := TX2) (N := 3) hx hb hg iX2 hown hK hW kd_4 rfl 0 (lt_b rfl) (hg (Cond.fieldLink RX2 9 "SlabWalk$Formulas" "tokens" "LSlabWalk$Tokens;") m301) (fun _ h9 => h9) rfl dX2_passUnit_207 ?_
        refine S_calli (va_runV (As := []) (rest := []) ⟨hx, hb, hml, hown, hts⟩ (k_tAdvance l D k A a z G_48  ) (cwV 0 hts (gd_V hgd m854 m639 m640 m120 m641) rfl rfl rfl hd_X9_advance ⟨show 6 + 1 ≤ fn + 8 from sy_1 fn (Nat.le_of_ble_eq_true rfl), show 8 + (2 + 11) + (127) ≤ ln + 169 from sy_1 ln (Nat.le_of_ble_eq_true rfl)⟩) (pre_W hW hB_G_48 hK hZ hS kd_3 rfl) rfl rfl hl.1 rfl (lv_room (Nat.le_of_ble_eq_true rfl)) dX2_passUnit_210 ⟨Nat.le_of_ble_eq_true rfl, Nat.le_of_ble_eq_true rfl⟩) hS (fun r_52 G_53 H locs hpo hW hS => ?_)
        have hX_56 : P_tAdvance G_48 r_52 G_53 := hpo
        obtain ⟨hB_G_53, hq_54, f_57, -⟩ := hpo
        have hF := hF.call9 hq_54 rfl rfl
        exact W.zret (v := r_52) hx hb hr (nar_z ((by first | exact ok_131 f_57.1 | omega)) ((by first | exact f_57.2 | omega))) (fun t ht _ => ⟨⟨r_52, G_53, rfl, (P_fUnit_2_s_mk ⟨hB_G_53, hF, ⟨(by first | exact ok_131 f_57.1 | omega), (by first | exact f_57.2 | omega)⟩, (Or.inr ⟨c_2, (Or.inl ⟨c_10, ⟨y_11, ty_11, ⟨y_13, ty_13, (Or.inr ⟨(xI_ne (Y := 40) rfl rfl c_15), (Or.inr ⟨(xI_ne (Y := 139) rfl rfl c_22), (Or.inr ⟨(xI_ne (Y := 140) rfl rfl c_34), (Or.inl ⟨c_46, ⟨G_14, hB_G_14, (Fr.put (rs := []) (fs := [(2, 12), (4, 2)]) (Fr.put (rs := []) (fs := [(2, 12), (4, 2)]) Fr.rf eG_12 (Or.inr (by decide))) eG_14 (Or.inr (by decide))), (gp_eq eG_14), ((gp_ne eG_14 (by decide)).trans (gp_eq eG_12)), ⟨G_48, hX_51, ⟨r_52, G_53, hX_56, ⟨rfl, rfl⟩⟩⟩⟩⟩)⟩)⟩)⟩)⟩⟩⟩)⟩)⟩), wd_t ht hW⟩, hS.F ht⟩) hS.2.2 dX2_passUnit_213
      by_cases c_58 : (G.1 3 3) = 142
      · refine lv_lookup (tgt := 191) hx hb dX2_passUnit_60 (by decide) (off := 131) (by rw [c_58]; decide) (by decide) ?_
        have c_58 : (G.1 3 3).toInt = 142 := xI_eq rfl rfl c_58
        refine lv_aload_n hx hb dX2_passUnit_191 rfl (lv_at hl 0 rfl) ?_
        refine S_getV (n := 2) (C := RX2) (T := TX2) (N := 3) hx hb hg iX2 hown hK hW kd_4 rfl 1 (lt_b rfl) (hg (Cond.fieldLink RX2 15 "SlabWalk$Formulas" "paving" "LSlabWalk$Paving;") m302) (fun _ h9 => h9) rfl ((((congrFun (congrFun (congrArg (fun q => q.2.2) eG_14) 4) 1).trans (congrFun (congrFun (congrArg (fun q => q.2.2) eG_12) 4) 1))).trans (hv_4_1)) dX2_passUnit_192 ?_
        refine lv_aload_n hx hb dX2_passUnit_195 rfl (lv_at hl 0 rfl) ?_
        refine S_getR (n := 3) (C := RX2) (T := TX2) (N := 3) hx hb hg iX2 hown hK hW kd_4 rfl 0 (lt_b rfl) (hg (Cond.fieldLink RX2 9 "SlabWalk$Formulas" "tokens" "LSlabWalk$Tokens;") m301) (fun _ h9 => h9) rfl dX2_passUnit_196 ?_
        refine S_getI (v := (G.1 3 3)) (C := RX9) (T := TX9) (N := 9) hx hb hg iX9 hown hK hW kd_3 rfl 3 (lt_b rfl) (hg (Cond.fieldLink RX2 30 "SlabWalk$Tokens" "kind" "I") m263) (fun _ h9 => h9) rfl ((gp_ne eG_14 (by decide)).trans ((gp_ne eG_12 (by decide)).trans (rfl))) dX2_passUnit_199 ?_
        refine ic_0 hx hb dX2_passUnit_202 ?_
        refine S_callv (va_runV (As := [.int (G.1 3 3), .int 0]) (rest := []) ⟨hx, hb, hml, hown, hts⟩ (k_emit_2 l D k A a z G_14 (G.1 3 3) 0 ) (cwV 2 hts (gd_V hgd m855 m856 m857 m118 m858) rfl rfl rfl hd_X6_emit ⟨show 0 + 1 ≤ fn + 8 from sy_1 fn (Nat.le_of_ble_eq_true rfl), show 8 + (3 + 11) + (0) ≤ ln + 169 from sy_1 ln (Nat.le_of_ble_eq_true rfl)⟩) (pre_W hW hB_G_14 hK hZ hS kd_2 rfl) rfl rfl hl.1 rfl (lv_room (Nat.le_of_ble_eq_true rfl)) dX2_passUnit_203 ⟨Nat.le_of_ble_eq_true rfl, Nat.le_of_ble_eq_true rfl⟩) hS (fun G_60 H locs hpo hW hS => ?_)
        have hX_63 : P_emit_2 (G.1 3 3) 0 G_14 G_60 := hpo
        obtain ⟨hB_G_60, hq_61, -⟩ := hpo
        have hF := hF.call9 hq_61 rfl rfl
        refine lv_aload_n hx hb dX2_passUnit_206 rfl (lv_at hl 0 rfl) ?_
        refine S_getR (n := 3) (C := RX2) (T := TX2) (N := 3) hx hb hg iX2 hown hK hW kd_4 rfl 0 (lt_b rfl) (hg (Cond.fieldLink RX2 9 "SlabWalk$Formulas" "tokens" "LSlabWalk$Tokens;") m301) (fun _ h9 => h9) rfl dX2_passUnit_207 ?_
        refine S_calli (va_runV (As := []) (rest := []) ⟨hx, hb, hml, hown, hts⟩ (k_tAdvance l D k A a z G_60  ) (cwV 0 hts (gd_V hgd m854 m639 m640 m120 m641) rfl rfl rfl hd_X9_advance ⟨show 6 + 1 ≤ fn + 8 from sy_1 fn (Nat.le_of_ble_eq_true rfl), show 8 + (2 + 11) + (127) ≤ ln + 169 from sy_1 ln (Nat.le_of_ble_eq_true rfl)⟩) (pre_W hW hB_G_60 hK hZ hS kd_3 rfl) rfl rfl hl.1 rfl (lv_room (Nat.le_of_ble_eq_true rfl)) dX2_passUnit_210 ⟨Nat.le_of_ble_eq_true rfl, Nat.le_of_ble_eq_true rfl⟩) hS (fun r_64 G_65 H locs hpo hW hS => ?_)
        have hX_68 : P_tAdvance G_60 r_64 G_65 := hpo
        obtain ⟨hB_G_65, hq_66, f_69, -⟩ := hpo
        have hF := hF.call9 hq_66 rfl rfl
        exact W.zret (v := r_64) hx hb hr (nar_z ((by first | exact ok_131 f_69.1 | omega)) ((by first | exact f_69.2 | omega))) (fun t ht _ => ⟨⟨r_64, G_65, rfl, (P_fUnit_2_s_mk ⟨hB_G_65, hF, ⟨(by first | exact ok_131 f_69.1 | omega), (by first | exact f_69.2 | omega)⟩, (Or.inr ⟨c_2, (Or.inl ⟨c_10, ⟨y_11, ty_11, ⟨y_13, ty_13, (Or.inr ⟨(xI_ne (Y := 40) rfl rfl c_15), (Or.inr ⟨(xI_ne (Y := 139) rfl rfl c_22), (Or.inr ⟨(xI_ne (Y := 140) rfl rfl c_34), (Or.inr ⟨(xI_ne (Y := 141) rfl rfl c_46), (Or.inl ⟨c_58, ⟨G_14, hB_G_14, (Fr.put (rs := []) (fs := [(2, 12), (4, 2)]) (Fr.put (rs := []) (fs := [(2, 12), (4, 2)]) Fr.rf eG_12 (Or.inr (by decide))) eG_14 (Or.inr (by decide))), (gp_eq eG_14), ((gp_ne eG_14 (by decide)).trans (gp_eq eG_12)), ⟨G_60, hX_63, ⟨r_64, G_65, hX_68, ⟨rfl, rfl⟩⟩⟩⟩⟩)⟩)⟩)⟩)⟩)⟩⟩⟩)⟩)⟩), wd_t ht hW⟩, hS.F ht⟩) hS.2.2 dX2_passUnit_213
      by_cases c_70 : (G.1 3 3) = 143
      · refine lv_lookup (tgt := 191) hx hb dX2_passUnit_60 (by decide) (off := 131) (by rw [c_70]; decide) (by decide) ?_
        have c_70 : (G.1 3 3).toInt = 143 := xI_eq rfl rfl c_70
        refine lv_aload_n hx hb dX2_passUnit_191 rfl (lv_at hl 0 rfl) ?_
        refine S_getV (n := 2) (C := RX2) (T := TX2) (N := 3) hx hb hg iX2 hown hK hW kd_4 rfl 1 (lt_b rfl) (hg (Cond.fieldLink RX2 15 "SlabWalk$Formulas" "paving" "LSlabWalk$Paving;") m302) (fun _ h9 => h9) rfl ((((congrFun (congrFun (congrArg (fun q => q.2.2) eG_14) 4) 1).trans (congrFun (congrFun (congrArg (fun q => q.2.2) eG_12) 4) 1))).trans (hv_4_1)) dX2_passUnit_192 ?_
        refine lv_aload_n hx hb dX2_passUnit_195 rfl (lv_at hl 0 rfl) ?_
        refine S_getR (n := 3) (C := RX2) (T := TX2) (N := 3) hx hb hg iX2 hown hK hW kd_4 rfl 0 (lt_b rfl) (hg (Cond.fieldLink RX2 9 "SlabWalk$Formulas" "tokens" "LSlabWalk$Tokens;") m301) (fun _ h9 => h9) rfl dX2_passUnit_196 ?_
        refine S_getI (v := (G.1 3 3)) (C := RX9) (T := TX9) (N := 9) hx hb hg iX9 hown hK hW kd_3 rfl 3 (lt_b rfl) (hg (Cond.fieldLink RX2 30 "SlabWalk$Tokens" "kind" "I") m263) (fun _ h9 => h9) rfl ((gp_ne eG_14 (by decide)).trans ((gp_ne eG_12 (by decide)).trans (rfl))) dX2_passUnit_199 ?_
        refine ic_0 hx hb dX2_passUnit_202 ?_
        refine S_callv (va_runV (As := [.int (G.1 3 3), .int 0]) (rest := []) ⟨hx, hb, hml, hown, hts⟩ (k_emit_2 l D k A a z G_14 (G.1 3 3) 0 ) (cwV 2 hts (gd_V hgd m855 m856 m857 m118 m858) rfl rfl rfl hd_X6_emit ⟨show 0 + 1 ≤ fn + 8 from sy_1 fn (Nat.le_of_ble_eq_true rfl), show 8 + (3 + 11) + (0) ≤ ln + 169 from sy_1 ln (Nat.le_of_ble_eq_true rfl)⟩) (pre_W hW hB_G_14 hK hZ hS kd_2 rfl) rfl rfl hl.1 rfl (lv_room (Nat.le_of_ble_eq_true rfl)) dX2_passUnit_203 ⟨Nat.le_of_ble_eq_true rfl, Nat.le_of_ble_eq_true rfl⟩) hS (fun G_72 H locs hpo hW hS => ?_)
        have hX_75 : P_emit_2 (G.1 3 3) 0 G_14 G_72 := hpo
        obtain ⟨hB_G_72, hq_73, -⟩ := hpo
        have hF := hF.call9 hq_73 rfl rfl
        refine lv_aload_n hx hb dX2_passUnit_206 rfl (lv_at hl 0 rfl) ?_
        refine S_getR (n := 3) (C := RX2) (T := TX2) (N := 3) hx hb hg iX2 hown hK hW kd_4 rfl 0 (lt_b rfl) (hg (Cond.fieldLink RX2 9 "SlabWalk$Formulas" "tokens" "LSlabWalk$Tokens;") m301) (fun _ h9 => h9) rfl dX2_passUnit_207 ?_
        refine S_calli (va_runV (As := []) (rest := []) ⟨hx, hb, hml, hown, hts⟩ (k_tAdvance l D k A a z G_72  ) (cwV 0 hts (gd_V hgd m854 m639 m640 m120 m641) rfl rfl rfl hd_X9_advance ⟨show 6 + 1 ≤ fn + 8 from sy_1 fn (Nat.le_of_ble_eq_true rfl), show 8 + (2 + 11) + (127) ≤ ln + 169 from sy_1 ln (Nat.le_of_ble_eq_true rfl)⟩) (pre_W hW hB_G_72 hK hZ hS kd_3 rfl) rfl rfl hl.1 rfl (lv_room (Nat.le_of_ble_eq_true rfl)) dX2_passUnit_210 ⟨Nat.le_of_ble_eq_true rfl, Nat.le_of_ble_eq_true rfl⟩) hS (fun r_76 G_77 H locs hpo hW hS => ?_)
        have hX_80 : P_tAdvance G_72 r_76 G_77 := hpo
        obtain ⟨hB_G_77, hq_78, f_81, -⟩ := hpo
        have hF := hF.call9 hq_78 rfl rfl
        exact W.zret (v := r_76) hx hb hr (nar_z ((by first | exact ok_131 f_81.1 | omega)) ((by first | exact f_81.2 | omega))) (fun t ht _ => ⟨⟨r_76, G_77, rfl, (P_fUnit_2_s_mk ⟨hB_G_77, hF, ⟨(by first | exact ok_131 f_81.1 | omega), (by first | exact f_81.2 | omega)⟩, (Or.inr ⟨c_2, (Or.inl ⟨c_10, ⟨y_11, ty_11, ⟨y_13, ty_13, (Or.inr ⟨(xI_ne (Y := 40) rfl rfl c_15), (Or.inr ⟨(xI_ne (Y := 139) rfl rfl c_22), (Or.inr ⟨(xI_ne (Y := 140) rfl rfl c_34), (Or.inr ⟨(xI_ne (Y := 141) rfl rfl c_46), (Or.inr ⟨(xI_ne (Y := 142) rfl rfl c_58), (Or.inl ⟨c_70, ⟨G_14, hB_G_14, (Fr.put (rs := []) (fs := [(2, 12), (4, 2)]) (Fr.put (rs := []) (fs := [(2, 12), (4, 2)]) Fr.rf eG_12 (Or.inr (by decide))) eG_14 (Or.inr (by decide))), (gp_eq eG_14), ((gp_ne eG_14 (by decide)).trans (gp_eq eG_12)), ⟨G_72, hX_75, ⟨r_76, G_77, hX_80, ⟨rfl, rfl⟩⟩⟩⟩⟩)⟩)⟩)⟩)⟩)⟩)⟩⟩⟩)⟩)⟩), wd_t ht hW⟩, hS.F ht⟩) hS.2.2 dX2_passUnit_213
      by_cases c_82 : (G.1 3 3) = 147
      · refine lv_lookup (tgt := 191) hx hb dX2_passUnit_60 (by decide) (off := 131) (by rw [c_82]; decide) (by decide) ?_
        have c_82 : (G.1 3 3).toInt = 147 := xI_eq rfl rfl c_82
        refine lv_aload_n hx hb dX2_passUnit_191 rfl (lv_at hl 0 rfl) ?_
        refine S_getV (n := 2) (C := RX2) (T := TX2) (N := 3) hx hb hg iX2 hown hK hW kd_4 rfl 1 (lt_b rfl) (hg (Cond.fieldLink RX2 15 "SlabWalk$Formulas" "paving" "LSlabWalk$Paving;") m302) (fun _ h9 => h9) rfl ((((congrFun (congrFun (congrArg (fun q => q.2.2) eG_14) 4) 1).trans (congrFun (congrFun (congrArg (fun q => q.2.2) eG_12) 4) 1))).trans (hv_4_1)) dX2_passUnit_192 ?_
        refine lv_aload_n hx hb dX2_passUnit_195 rfl (lv_at hl 0 rfl) ?_
        refine S_getR (n := 3) (C := RX2) (T := TX2) (N := 3) hx hb hg iX2 hown hK hW kd_4 rfl 0 (lt_b rfl) (hg (Cond.fieldLink RX2 9 "SlabWalk$Formulas" "tokens" "LSlabWalk$Tokens;") m301) (fun _ h9 => h9) rfl dX2_passUnit_196 ?_
        refine S_getI (v := (G.1 3 3)) (C := RX9) (T := TX9) (N := 9) hx hb hg iX9 hown hK hW kd_3 rfl 3 (lt_b rfl) (hg (Cond.fieldLink RX2 30 "SlabWalk$Tokens" "kind" "I") m263) (fun _ h9 => h9) rfl ((gp_ne eG_14 (by decide)).trans ((gp_ne eG_12 (by decide)).trans (rfl))) dX2_passUnit_199 ?_
        refine ic_0 hx hb dX2_passUnit_202 ?_
        refine S_callv (va_runV (As := [.int (G.1 3 3), .int 0]) (rest := []) ⟨hx, hb, hml, hown, hts⟩ (k_emit_2 l D k A a z G_14 (G.1 3 3) 0 ) (cwV 2 hts (gd_V hgd m855 m856 m857 m118 m858) rfl rfl rfl hd_X6_emit ⟨show 0 + 1 ≤ fn + 8 from sy_1 fn (Nat.le_of_ble_eq_true rfl), show 8 + (3 + 11) + (0) ≤ ln + 169 from sy_1 ln (Nat.le_of_ble_eq_true rfl)⟩) (pre_W hW hB_G_14 hK hZ hS kd_2 rfl) rfl rfl hl.1 rfl (lv_room (Nat.le_of_ble_eq_true rfl)) dX2_passUnit_203 ⟨Nat.le_of_ble_eq_true rfl, Nat.le_of_ble_eq_true rfl⟩) hS (fun G_84 H locs hpo hW hS => ?_)
        have hX_87 : P_emit_2 (G.1 3 3) 0 G_14 G_84 := hpo
        obtain ⟨hB_G_84, hq_85, -⟩ := hpo
        have hF := hF.call9 hq_85 rfl rfl
        refine lv_aload_n hx hb dX2_passUnit_206 rfl (lv_at hl 0 rfl) ?_
        refine S_getR (n := 3) (C := RX2) (T := TX2) (N := 3) hx hb hg iX2 hown hK hW kd_4 rfl 0 (lt_b rfl) (hg (Cond.fieldLink RX2 9 "SlabWalk$Formulas" "tokens" "LSlabWalk$Tokens;") m301) (fun _ h9 => h9) rfl dX2_passUnit_207 ?_
        refine S_calli (va_runV (As := []) (rest := []) ⟨hx, hb, hml, hown, hts⟩ (k_tAdvance l D k A a z G_84  ) (cwV 0 hts (gd_V hgd m854 m639 m640 m120 m641) rfl rfl rfl hd_X9_advance ⟨show 6 + 1 ≤ fn + 8 from sy_1 fn (Nat.le_of_ble_eq_true rfl), show 8 + (2 + 11) + (127) ≤ ln + 169 from sy_1 ln (Nat.le_of_ble_eq_true rfl)⟩) (pre_W hW hB_G_84 hK hZ hS kd_3 rfl) rfl rfl hl.1 rfl (lv_room (Nat.le_of_ble_eq_true rfl)) dX2_passUnit_210 ⟨Nat.le_of_ble_eq_true rfl, Nat.le_of_ble_eq_true rfl⟩) hS (fun r_88 G_89 H locs hpo hW hS => ?_)
        have hX_92 : P_tAdvance G_84 r_88 G_89 := hpo
        obtain ⟨hB_G_89, hq_90, f_93, -⟩ := hpo
        have hF := hF.call9 hq_90 rfl rfl
        exact W.zret (v := r_88) hx hb hr (nar_z ((by first | exact ok_131 f_93.1 | omega)) ((by first | exact f_93.2 | omega))) (fun t ht _ => ⟨⟨r_88, G_89, rfl, (P_fUnit_2_s_mk ⟨hB_G_89, hF, ⟨(by first | exact ok_131 f_93.1 | omega), (by first | exact f_93.2 | omega)⟩, (Or.inr ⟨c_2, (Or.inl ⟨c_10, ⟨y_11, ty_11, ⟨y_13, ty_13, (Or.inr ⟨(xI_ne (Y := 40) rfl rfl c_15), (Or.inr ⟨(xI_ne (Y := 139) rfl rfl c_22), (Or.inr ⟨(xI_ne (Y := 140) rfl rfl c_34), (Or.inr ⟨(xI_ne (Y := 141) rfl rfl c_46), (Or.inr ⟨(xI_ne (Y := 142) rfl rfl c_58), (Or.inr ⟨(xI_ne (Y := 143) rfl rfl c_70), (Or.inl ⟨c_82, ⟨G_14, hB_G_14, (Fr.put (rs := []) (fs := [(2, 12), (4, 2)]) (Fr.put (rs := []) (fs := [(2, 12), (4, 2)]) Fr.rf eG_12 (Or.inr (by decide))) eG_14 (Or.inr (by decide))), (gp_eq eG_14), ((gp_ne eG_14 (by decide)).trans (gp_eq eG_12)), ⟨G_84, hX_87, ⟨r_88, G_89, hX_92, ⟨rfl, rfl⟩⟩⟩⟩⟩)⟩)⟩)⟩)⟩)⟩)⟩)⟩⟩⟩)⟩)⟩), wd_t ht hW⟩, hS.F ht⟩) hS.2.2 dX2_passUnit_213
      by_cases c_94 : (G.1 3 3) = 148
      · refine lv_lookup (tgt := 191) hx hb dX2_passUnit_60 (by decide) (off := 131) (by rw [c_94]; decide) (by decide) ?_
        have c_94 : (G.1 3 3).toInt = 148 := xI_eq rfl rfl c_94
        refine lv_aload_n hx hb dX2_passUnit_191 rfl (lv_at hl 0 rfl) ?_
        refine S_getV (n := 2) (C := RX2) (T := TX2) (N := 3) hx hb hg iX2 hown hK hW kd_4 rfl 1 (lt_b rfl) (hg (Cond.fieldLink RX2 15 "SlabWalk$Formulas" "paving" "LSlabWalk$Paving;") m302) (fun _ h9 => h9) rfl ((((congrFun (congrFun (congrArg (fun q => q.2.2) eG_14) 4) 1).trans (congrFun (congrFun (congrArg (fun q => q.2.2) eG_12) 4) 1))).trans (hv_4_1)) dX2_passUnit_192 ?_
        refine lv_aload_n hx hb dX2_passUnit_195 rfl (lv_at hl 0 rfl) ?_
        refine S_getR (n := 3) (C := RX2) (T := TX2) (N := 3) hx hb hg iX2 hown hK hW kd_4 rfl 0 (lt_b rfl) (hg (Cond.fieldLink RX2 9 "SlabWalk$Formulas" "tokens" "LSlabWalk$Tokens;") m301) (fun _ h9 => h9) rfl dX2_passUnit_196 ?_
        refine S_getI (v := (G.1 3 3)) (C := RX9) (T := TX9) (N := 9) hx hb hg iX9 hown hK hW kd_3 rfl 3 (lt_b rfl) (hg (Cond.fieldLink RX2 30 "SlabWalk$Tokens" "kind" "I") m263) (fun _ h9 => h9) rfl ((gp_ne eG_14 (by decide)).trans ((gp_ne eG_12 (by decide)).trans (rfl))) dX2_passUnit_199 ?_
        refine ic_0 hx hb dX2_passUnit_202 ?_
        refine S_callv (va_runV (As := [.int (G.1 3 3), .int 0]) (rest := []) ⟨hx, hb, hml, hown, hts⟩ (k_emit_2 l D k A a z G_14 (G.1 3 3) 0 ) (cwV 2 hts (gd_V hgd m855 m856 m857 m118 m858) rfl rfl rfl hd_X6_emit ⟨show 0 + 1 ≤ fn + 8 from sy_1 fn (Nat.le_of_ble_eq_true rfl), show 8 + (3 + 11) + (0) ≤ ln + 169 from sy_1 ln (Nat.le_of_ble_eq_true rfl)⟩) (pre_W hW hB_G_14 hK hZ hS kd_2 rfl) rfl rfl hl.1 rfl (lv_room (Nat.le_of_ble_eq_true rfl)) dX2_passUnit_203 ⟨Nat.le_of_ble_eq_true rfl, Nat.le_of_ble_eq_true rfl⟩) hS (fun G_96 H locs hpo hW hS => ?_)
        have hX_99 : P_emit_2 (G.1 3 3) 0 G_14 G_96 := hpo
        obtain ⟨hB_G_96, hq_97, -⟩ := hpo
        have hF := hF.call9 hq_97 rfl rfl
        refine lv_aload_n hx hb dX2_passUnit_206 rfl (lv_at hl 0 rfl) ?_
        refine S_getR (n := 3) (C := RX2) (T := TX2) (N := 3) hx hb hg iX2 hown hK hW kd_4 rfl 0 (lt_b rfl) (hg (Cond.fieldLink RX2 9 "SlabWalk$Formulas" "tokens" "LSlabWalk$Tokens;") m301) (fun _ h9 => h9) rfl dX2_passUnit_207 ?_
        refine S_calli (va_runV (As := []) (rest := []) ⟨hx, hb, hml, hown, hts⟩ (k_tAdvance l D k A a z G_96  ) (cwV 0 hts (gd_V hgd m854 m639 m640 m120 m641) rfl rfl rfl hd_X9_advance ⟨show 6 + 1 ≤ fn + 8 from sy_1 fn (Nat.le_of_ble_eq_true rfl), show 8 + (2 + 11) + (127) ≤ ln + 169 from sy_1 ln (Nat.le_of_ble_eq_true rfl)⟩) (pre_W hW hB_G_96 hK hZ hS kd_3 rfl) rfl rfl hl.1 rfl (lv_room (Nat.le_of_ble_eq_true rfl)) dX2_passUnit_210 ⟨Nat.le_of_ble_eq_true rfl, Nat.le_of_ble_eq_true rfl⟩) hS (fun r_100 G_101 H locs hpo hW hS => ?_)
        have hX_104 : P_tAdvance G_96 r_100 G_101 := hpo
        obtain ⟨hB_G_101, hq_102, f_105, -⟩ := hpo
        have hF := hF.call9 hq_102 rfl rfl
        exact W.zret (v := r_100) hx hb hr (nar_z ((by first | exact ok_131 f_105.1 | omega)) ((by first | exact f_105.2 | omega))) (fun t ht _ => ⟨⟨r_100, G_101, rfl, (P_fUnit_2_s_mk ⟨hB_G_101, hF, ⟨(by first | exact ok_131 f_105.1 | omega), (by first | exact f_105.2 | omega)⟩, (Or.inr ⟨c_2, (Or.inl ⟨c_10, ⟨y_11, ty_11, ⟨y_13, ty_13, (Or.inr ⟨(xI_ne (Y := 40) rfl rfl c_15), (Or.inr ⟨(xI_ne (Y := 139) rfl rfl c_22), (Or.inr ⟨(xI_ne (Y := 140) rfl rfl c_34), (Or.inr ⟨(xI_ne (Y := 141) rfl rfl c_46), (Or.inr ⟨(xI_ne (Y := 142) rfl rfl c_58), (Or.inr ⟨(xI_ne (Y := 143) rfl rfl c_70), (Or.inr ⟨(xI_ne (Y := 147) rfl rfl c_82), (Or.inl ⟨c_94, ⟨G_14, hB_G_14, (Fr.put (rs := []) (fs := [(2, 12), (4, 2)]) (Fr.put (rs := []) (fs := [(2, 12), (4, 2)]) Fr.rf eG_12 (Or.inr (by decide))) eG_14 (Or.inr (by decide))), (gp_eq eG_14), ((gp_ne eG_14 (by decide)).trans (gp_eq eG_12)), ⟨G_96, hX_99, ⟨r_100, G_101, hX_104, ⟨rfl, rfl⟩⟩⟩⟩⟩)⟩)⟩)⟩)⟩)⟩)⟩)⟩)⟩⟩⟩)⟩)⟩), wd_t ht hW⟩, hS.F ht⟩) hS.2.2 dX2_passUnit_213
      by_cases c_106 : (G.1 3 3) = 149
      · refine lv_lookup (tgt := 191) hx hb dX2_passUnit_60 (by decide) (off := 131) (by rw [c_106]; decide) (by decide) ?_
        have c_106 : (G.1 3 3).toInt = 149 := xI_eq rfl rfl c_106
        refine lv_aload_n hx hb dX2_passUnit_191 rfl (lv_at hl 0 rfl) ?_
        refine S_getV (n := 2) (C := RX2) (T := TX2) (N := 3) hx hb hg iX2 hown hK hW kd_4 rfl 1 (lt_b rfl) (hg (Cond.fieldLink RX2 15 "SlabWalk$Formulas" "paving" "LSlabWalk$Paving;") m302) (fun _ h9 => h9) rfl ((((congrFun (congrFun (congrArg (fun q => q.2.2) eG_14) 4) 1).trans (congrFun (congrFun (congrArg (fun q => q.2.2) eG_12) 4) 1))).trans (hv_4_1)) dX2_passUnit_192 ?_
        refine lv_aload_n hx hb dX2_passUnit_195 rfl (lv_at hl 0 rfl) ?_
        refine S_getR (n := 3) (C := RX2) (T := TX2) (N := 3) hx hb hg iX2 hown hK hW kd_4 rfl 0 (lt_b rfl) (hg (Cond.fieldLink RX2 9 "SlabWalk$Formulas" "tokens" "LSlabWalk$Tokens;") m301) (fun _ h9 => h9) rfl dX2_passUnit_196 ?_
        refine S_getI (v := (G.1 3 3)) (C := RX9) (T := TX9) (N := 9) hx hb hg iX9 hown hK hW kd_3 rfl 3 (lt_b rfl) (hg (Cond.fieldLink RX2 30 "SlabWalk$Tokens" "kind" "I") m263) (fun _ h9 => h9) rfl ((gp_ne eG_14 (by decide)).trans ((gp_ne eG_12 (by decide)).trans (rfl))) dX2_passUnit_199 ?_
        refine ic_0 hx hb dX2_passUnit_202 ?_
        refine S_callv (va_runV (As := [.int (G.1 3 3), .int 0]) (rest := []) ⟨hx, hb, hml, hown, hts⟩ (k_emit_2 l D k A a z G_14 (G.1 3 3) 0 ) (cwV 2 hts (gd_V hgd m855 m856 m857 m118 m858) rfl rfl rfl hd_X6_emit ⟨show 0 + 1 ≤ fn + 8 from sy_1 fn (Nat.le_of_ble_eq_true rfl), show 8 + (3 + 11) + (0) ≤ ln + 169 from sy_1 ln (Nat.le_of_ble_eq_true rfl)⟩) (pre_W hW hB_G_14 hK hZ hS kd_2 rfl) rfl rfl hl.1 rfl (lv_room (Nat.le_of_ble_eq_true rfl)) dX2_passUnit_203 ⟨Nat.le_of_ble_eq_true rfl, Nat.le_of_ble_eq_true rfl⟩) hS (fun G_108 H locs hpo hW hS => ?_)
        have hX_111 : P_emit_2 (G.1 3 3) 0 G_14 G_108 := hpo
        obtain ⟨hB_G_108, hq_109, -⟩ := hpo
        have hF := hF.call9 hq_109 rfl rfl
        refine lv_aload_n hx hb dX2_passUnit_206 rfl (lv_at hl 0 rfl) ?_
        refine S_getR (n := 3) (C := RX2) (T := TX2) (N := 3) hx hb hg iX2 hown hK hW kd_4 rfl 0 (lt_b rfl) (hg (Cond.fieldLink RX2 9 "SlabWalk$Formulas" "tokens" "LSlabWalk$Tokens;") m301) (fun _ h9 => h9) rfl dX2_passUnit_207 ?_
        refine S_calli (va_runV (As := []) (rest := []) ⟨hx, hb, hml, hown, hts⟩ (k_tAdvance l D k A a z G_108  ) (cwV 0 hts (gd_V hgd m854 m639 m640 m120 m641) rfl rfl rfl hd_X9_advance ⟨show 6 + 1 ≤ fn + 8 from sy_1 fn (Nat.le_of_ble_eq_true rfl), show 8 + (2 + 11) + (127) ≤ ln + 169 from sy_1 ln (Nat.le_of_ble_eq_true rfl)⟩) (pre_W hW hB_G_108 hK hZ hS kd_3 rfl) rfl rfl hl.1 rfl (lv_room (Nat.le_of_ble_eq_true rfl)) dX2_passUnit_210 ⟨Nat.le_of_ble_eq_true rfl, Nat.le_of_ble_eq_true rfl⟩) hS (fun r_112 G_113 H locs hpo hW hS => ?_)
        have hX_116 : P_tAdvance G_108 r_112 G_113 := hpo
        obtain ⟨hB_G_113, hq_114, f_117, -⟩ := hpo
        have hF := hF.call9 hq_114 rfl rfl
        exact W.zret (v := r_112) hx hb hr (nar_z ((by first | exact ok_131 f_117.1 | omega)) ((by first | exact f_117.2 | omega))) (fun t ht _ => ⟨⟨r_112, G_113, rfl, (P_fUnit_2_s_mk ⟨hB_G_113, hF, ⟨(by first | exact ok_131 f_117.1 | omega), (by first | exact f_117.2 | omega)⟩, (Or.inr ⟨c_2, (Or.inl ⟨c_10, ⟨y_11, ty_11, ⟨y_13, ty_13, (Or.inr ⟨(xI_ne (Y := 40) rfl rfl c_15), (Or.inr ⟨(xI_ne (Y := 139) rfl rfl c_22), (Or.inr ⟨(xI_ne (Y := 140) rfl rfl c_34), (Or.inr ⟨(xI_ne (Y := 141) rfl rfl c_46), (Or.inr ⟨(xI_ne (Y := 142) rfl rfl c_58), (Or.inr ⟨(xI_ne (Y := 143) rfl rfl c_70), (Or.inr ⟨(xI_ne (Y := 147) rfl rfl c_82), (Or.inr ⟨(xI_ne (Y := 148) rfl rfl c_94), (Or.inl ⟨c_106, ⟨G_14, hB_G_14, (Fr.put (rs := []) (fs := [(2, 12), (4, 2)]) (Fr.put (rs := []) (fs := [(2, 12), (4, 2)]) Fr.rf eG_12 (Or.inr (by decide))) eG_14 (Or.inr (by decide))), (gp_eq eG_14), ((gp_ne eG_14 (by decide)).trans (gp_eq eG_12)), ⟨G_108, hX_111, ⟨r_112, G_113, hX_116, ⟨rfl, rfl⟩⟩⟩⟩⟩)⟩)⟩)⟩)⟩)⟩)⟩)⟩)⟩)⟩⟩⟩)⟩)⟩), wd_t ht hW⟩, hS.F ht⟩) hS.2.2 dX2_passUnit_213
      by_cases c_118 : (G.1 3 3) = 150
      · refine lv_lookup (tgt := 191) hx hb dX2_passUnit_60 (by decide) (off := 131) (by rw [c_118]; decide) (by decide) ?_
        have c_118 : (G.1 3 3).toInt = 150 := xI_eq rfl rfl c_118
        refine lv_aload_n hx hb dX2_passUnit_191 rfl (lv_at hl 0 rfl) ?_
        refine S_getV (n := 2) (C := RX2) (T := TX2) (N := 3) hx hb hg iX2 hown hK hW kd_4 rfl 1 (lt_b rfl) (hg (Cond.fieldLink RX2 15 "SlabWalk$Formulas" "paving" "LSlabWalk$Paving;") m302) (fun _ h9 => h9) rfl ((((congrFun (congrFun (congrArg (fun q => q.2.2) eG_14) 4) 1).trans (congrFun (congrFun (congrArg (fun q => q.2.2) eG_12) 4) 1))).trans (hv_4_1)) dX2_passUnit_192 ?_
        refine lv_aload_n hx hb dX2_passUnit_195 rfl (lv_at hl 0 rfl) ?_
        refine S_getR (n := 3) (C := RX2) (T := TX2) (N := 3) hx hb hg iX2 hown hK hW kd_4 rfl 0 (lt_b rfl) (hg (Cond.fieldLink RX2 9 "SlabWalk$Formulas" "tokens" "LSlabWalk$Tokens;") m301) (fun _ h9 => h9) rfl dX2_passUnit_196 ?_
        refine S_getI (v := (G.1 3 3)) (C := RX9) (T := TX9) (N := 9) hx hb hg iX9 hown hK hW kd_3 rfl 3 (lt_b rfl) (hg (Cond.fieldLink RX2 30 "SlabWalk$Tokens" "kind" "I") m263) (fun _ h9 => h9) rfl ((gp_ne eG_14 (by decide)).trans ((gp_ne eG_12 (by decide)).trans (rfl))) dX2_passUnit_199 ?_
        refine ic_0 hx hb dX2_passUnit_202 ?_
        refine S_callv (va_runV (As := [.int (G.1 3 3), .int 0]) (rest := []) ⟨hx, hb, hml, hown, hts⟩ (k_emit_2 l D k A a z G_14 (G.1 3 3) 0 ) (cwV 2 hts (gd_V hgd m855 m856 m857 m118 m858) rfl rfl rfl hd_X6_emit ⟨show 0 + 1 ≤ fn + 8 from sy_1 fn (Nat.le_of_ble_eq_true rfl), show 8 + (3 + 11) + (0) ≤ ln + 169 from sy_1 ln (Nat.le_of_ble_eq_true rfl)⟩) (pre_W hW hB_G_14 hK hZ hS kd_2 rfl) rfl rfl hl.1 rfl (lv_room (Nat.le_of_ble_eq_true rfl)) dX2_passUnit_203 ⟨Nat.le_of_ble_eq_true rfl, Nat.le_of_ble_eq_true rfl⟩) hS (fun G_120 H locs hpo hW hS => ?_)
        have hX_123 : P_emit_2 (G.1 3 3) 0 G_14 G_120 := hpo
        obtain ⟨hB_G_120, hq_121, -⟩ := hpo
        have hF := hF.call9 hq_121 rfl rfl
        refine lv_aload_n hx hb dX2_passUnit_206 rfl (lv_at hl 0 rfl) ?_
        refine S_getR (n := 3) (C := RX2) (T := TX2) (N := 3) hx hb hg iX2 hown hK hW kd_4 rfl 0 (lt_b rfl) (hg (Cond.fieldLink RX2 9 "SlabWalk$Formulas" "tokens" "LSlabWalk$Tokens;") m301) (fun _ h9 => h9) rfl dX2_passUnit_207 ?_
        refine S_calli (va_runV (As := []) (rest := []) ⟨hx, hb, hml, hown, hts⟩ (k_tAdvance l D k A a z G_120  ) (cwV 0 hts (gd_V hgd m854 m639 m640 m120 m641) rfl rfl rfl hd_X9_advance ⟨show 6 + 1 ≤ fn + 8 from sy_1 fn (Nat.le_of_ble_eq_true rfl), show 8 + (2 + 11) + (127) ≤ ln + 169 from sy_1 ln (Nat.le_of_ble_eq_true rfl)⟩) (pre_W hW hB_G_120 hK hZ hS kd_3 rfl) rfl rfl hl.1 rfl (lv_room (Nat.le_of_ble_eq_true rfl)) dX2_passUnit_210 ⟨Nat.le_of_ble_eq_true rfl, Nat.le_of_ble_eq_true rfl⟩) hS (fun r_124 G_125 H locs hpo hW hS => ?_)
        have hX_128 : P_tAdvance G_120 r_124 G_125 := hpo
        obtain ⟨hB_G_125, hq_126, f_129, -⟩ := hpo
        have hF := hF.call9 hq_126 rfl rfl
        exact W.zret (v := r_124) hx hb hr (nar_z ((by first | exact ok_131 f_129.1 | omega)) ((by first | exact f_129.2 | omega))) (fun t ht _ => ⟨⟨r_124, G_125, rfl, (P_fUnit_2_s_mk ⟨hB_G_125, hF, ⟨(by first | exact ok_131 f_129.1 | omega), (by first | exact f_129.2 | omega)⟩, (Or.inr ⟨c_2, (Or.inl ⟨c_10, ⟨y_11, ty_11, ⟨y_13, ty_13, (Or.inr ⟨(xI_ne (Y := 40) rfl rfl c_15), (Or.inr ⟨(xI_ne (Y := 139) rfl rfl c_22), (Or.inr ⟨(xI_ne (Y := 140) rfl rfl c_34), (Or.inr ⟨(xI_ne (Y := 141) rfl rfl c_46), (Or.inr ⟨(xI_ne (Y := 142) rfl rfl c_58), (Or.inr ⟨(xI_ne (Y := 143) rfl rfl c_70), (Or.inr ⟨(xI_ne (Y := 147) rfl rfl c_82), (Or.inr ⟨(xI_ne (Y := 148) rfl rfl c_94), (Or.inr ⟨(xI_ne (Y := 149) rfl rfl c_106), (Or.inl ⟨c_118, ⟨G_14, hB_G_14, (Fr.put (rs := []) (fs := [(2, 12), (4, 2)]) (Fr.put (rs := []) (fs := [(2, 12), (4, 2)]) Fr.rf eG_12 (Or.inr (by decide))) eG_14 (Or.inr (by decide))), (gp_eq eG_14), ((gp_ne eG_14 (by decide)).trans (gp_eq eG_12)), ⟨G_120, hX_123, ⟨r_124, G_125, hX_128, ⟨rfl, rfl⟩⟩⟩⟩⟩)⟩)⟩)⟩)⟩)⟩)⟩)⟩)⟩)⟩)⟩⟩⟩)⟩)⟩), wd_t ht hW⟩, hS.F ht⟩) hS.2.2 dX2_passUnit_213
      by_cases c_130 : (G.1 3 3) = 201
      · refine lv_lookup (tgt := 166) hx hb dX2_passUnit_60 (by decide) (off := 106) (by rw [c_130]; decide) (by decide) ?_
        have c_130 : (G.1 3 3).toInt = 201 := xI_eq rfl rfl c_130
        refine lv_aload_n hx hb dX2_passUnit_166 rfl (lv_at hl 0 rfl) ?_
        refine S_getV (n := 2) (C := RX2) (T := TX2) (N := 3) hx hb hg iX2 hown hK hW kd_4 rfl 1 (lt_b rfl) (hg (Cond.fieldLink RX2 15 "SlabWalk$Formulas" "paving" "LSlabWalk$Paving;") m302) (fun _ h9 => h9) rfl ((((congrFun (congrFun (congrArg (fun q => q.2.2) eG_14) 4) 1).trans (congrFun (congrFun (congrArg (fun q => q.2.2) eG_12) 4) 1))).trans (hv_4_1)) dX2_passUnit_167 ?_
        refine lv_sipush (v := 201) hx hb dX2_passUnit_170 (by decide) ?_
        refine lv_aload_n hx hb dX2_passUnit_173 rfl (lv_at hl 0 rfl) ?_
        refine S_getR (n := 3) (C := RX2) (T := TX2) (N := 3) hx hb hg iX2 hown hK hW kd_4 rfl 0 (lt_b rfl) (hg (Cond.fieldLink RX2 9 "SlabWalk$Formulas" "tokens" "LSlabWalk$Tokens;") m301) (fun _ h9 => h9) rfl dX2_passUnit_174 ?_
        refine S_getI (v := (G.1 3 5)) (C := RX9) (T := TX9) (N := 9) hx hb hg iX9 hown hK hW kd_3 rfl 5 (lt_b rfl) (hg (Cond.fieldLink RX2 70 "SlabWalk$Tokens" "number" "I") m267) (fun _ h9 => h9) rfl ((gp_ne eG_14 (by decide)).trans (gp_ne eG_12 (by decide))) dX2_passUnit_177 ?_
        refine S_callv (va_runV (As := [.int 201, .int (G.1 3 5)]) (rest := []) ⟨hx, hb, hml, hown, hts⟩ (k_emit_2 l D k A a z G_14 201 (G.1 3 5) ) (cwV 2 hts (gd_V hgd m855 m856 m857 m118 m858) rfl rfl rfl hd_X6_emit ⟨show 0 + 1 ≤ fn + 8 from sy_1 fn (Nat.le_of_ble_eq_true rfl), show 8 + (3 + 11) + (0) ≤ ln + 169 from sy_1 ln (Nat.le_of_ble_eq_true rfl)⟩) (pre_W hW hB_G_14 hK hZ hS kd_2 rfl) rfl rfl hl.1 rfl (lv_room (Nat.le_of_ble_eq_true rfl)) dX2_passUnit_180 ⟨Nat.le_of_ble_eq_true rfl, Nat.le_of_ble_eq_true rfl⟩) hS (fun G_132 H locs hpo hW hS => ?_)
        have hX_135 : P_emit_2 201 (G.1 3 5) G_14 G_132 := hpo
        obtain ⟨hB_G_132, hq_133, -⟩ := hpo
        have hF := hF.call9 hq_133 rfl rfl
        refine lv_aload_n hx hb dX2_passUnit_183 rfl (lv_at hl 0 rfl) ?_
        refine S_getR (n := 3) (C := RX2) (T := TX2) (N := 3) hx hb hg iX2 hown hK hW kd_4 rfl 0 (lt_b rfl) (hg (Cond.fieldLink RX2 9 "SlabWalk$Formulas" "tokens" "LSlabWalk$Tokens;") m301) (fun _ h9 => h9) rfl dX2_passUnit_184 ?_
        refine S_calli (va_runV (As := []) (rest := []) ⟨hx, hb, hml, hown, hts⟩ (k_tAdvance l D k A a z G_132  ) (cwV 0 hts (gd_V hgd m854 m639 m640 m120 m641) rfl rfl rfl hd_X9_advance ⟨show 6 + 1 ≤ fn + 8 from sy_1 fn (Nat.le_of_ble_eq_true rfl), show 8 + (2 + 11) + (127) ≤ ln + 169 from sy_1 ln (Nat.le_of_ble_eq_true rfl)⟩) (pre_W hW hB_G_132 hK hZ hS kd_3 rfl) rfl rfl hl.1 rfl (lv_room (Nat.le_of_ble_eq_true rfl)) dX2_passUnit_187 ⟨Nat.le_of_ble_eq_true rfl, Nat.le_of_ble_eq_true rfl⟩) hS (fun r_136 G_137 H locs hpo hW hS => ?_)
        have hX_140 : P_tAdvance G_132 r_136 G_137 := hpo
        obtain ⟨hB_G_137, hq_138, f_141, -⟩ := hpo
        have hF := hF.call9 hq_138 rfl rfl
        exact W.zret (v := r_136) hx hb hr (nar_z ((by first | exact ok_131 f_141.1 | omega)) ((by first | exact f_141.2 | omega))) (fun t ht _ => ⟨⟨r_136, G_137, rfl, (P_fUnit_2_s_mk ⟨hB_G_137, hF, ⟨(by first | exact ok_131 f_141.1 | omega), (by first | exact f_141.2 | omega)⟩, (Or.inr ⟨c_2, (Or.inl ⟨c_10, ⟨y_11, ty_11, ⟨y_13, ty_13, (Or.inr ⟨(xI_ne (Y := 40) rfl rfl c_15), (Or.inr ⟨(xI_ne (Y := 139) rfl rfl c_22), (Or.inr ⟨(xI_ne (Y := 140) rfl rfl c_34), (Or.inr ⟨(xI_ne (Y := 141) rfl rfl c_46), (Or.inr ⟨(xI_ne (Y := 142) rfl rfl c_58), (Or.inr ⟨(xI_ne (Y := 143) rfl rfl c_70), (Or.inr ⟨(xI_ne (Y := 147) rfl rfl c_82), (Or.inr ⟨(xI_ne (Y := 148) rfl rfl c_94), (Or.inr ⟨(xI_ne (Y := 149) rfl rfl c_106), (Or.inr ⟨(xI_ne (Y := 150) rfl rfl c_118), (Or.inl ⟨c_130, ⟨G_14, hB_G_14, (Fr.put (rs := []) (fs := [(2, 12), (4, 2)]) (Fr.put (rs := []) (fs := [(2, 12), (4, 2)]) Fr.rf eG_12 (Or.inr (by decide))) eG_14 (Or.inr (by decide))), (gp_eq eG_14), ((gp_ne eG_14 (by decide)).trans (gp_eq eG_12)), ⟨G_132, hX_135, ⟨r_136, G_137, hX_140, ⟨rfl, rfl⟩⟩⟩⟩⟩)⟩)⟩)⟩)⟩)⟩)⟩)⟩)⟩)⟩)⟩)⟩⟩⟩)⟩)⟩), wd_t ht hW⟩, hS.F ht⟩) hS.2.2 dX2_passUnit_190
      refine lv_lookup (tgt := 214) hx hb dX2_passUnit_60 (by decide) (off := 154) (by show Op.lookupswitch.offset [(40, 100), (139, 131), (140, 131), (141, 131), (142, 131), (143, 131), (147, 131), (148, 131), (149, 131), (150, 131), (201, 106)] _ _ = _; have c_15 := xI_ne (Y := 40) rfl rfl c_15; have c_22 := xI_ne (Y := 139) rfl rfl c_22; have c_34 := xI_ne (Y := 140) rfl rfl c_34; have c_46 := xI_ne (Y := 141) rfl rfl c_46; have c_58 := xI_ne (Y := 142) rfl rfl c_58; have c_70 := xI_ne (Y := 143) rfl rfl c_70; have c_82 := xI_ne (Y := 147) rfl rfl c_82; have c_94 := xI_ne (Y := 148) rfl rfl c_94; have c_106 := xI_ne (Y := 149) rfl rfl c_106; have c_118 := xI_ne (Y := 150) rfl rfl c_118; have c_130 := xI_ne (Y := 201) rfl rfl c_130; rw [Op.lookupswitch.offset_cons, if_neg (by omega), Op.lookupswitch.offset_cons, if_neg (by omega), Op.lookupswitch.offset_cons, if_neg (by omega), Op.lookupswitch.offset_cons, if_neg (by omega), Op.lookupswitch.offset_cons, if_neg (by omega), Op.lookupswitch.offset_cons, if_neg (by omega), Op.lookupswitch.offset_cons, if_neg (by omega), Op.lookupswitch.offset_cons, if_neg (by omega), Op.lookupswitch.offset_cons, if_neg (by omega), Op.lookupswitch.offset_cons, if_neg (by omega), Op.lookupswitch.offset_cons, if_neg (by omega), Op.lookupswitch.offset_nil]) (by decide) ?_
      have c_15 := xI_ne (Y := 40) rfl rfl c_15
      have c_22 := xI_ne (Y := 139) rfl rfl c_22
      have c_34 := xI_ne (Y := 140) rfl rfl c_34
      have c_46 := xI_ne (Y := 141) rfl rfl c_46
      have c_58 := xI_ne (Y := 142) rfl rfl c_58
      have c_70 := xI_ne (Y := 143) rfl rfl c_70
      have c_82 := xI_ne (Y := 147) rfl rfl c_82
      have c_94 := xI_ne (Y := 148) rfl rfl c_94
      have c_106 := xI_ne (Y := 149) rfl rfl c_106
      have c_118 := xI_ne (Y := 150) rfl rfl c_118
      have c_130 := xI_ne (Y := 201) rfl rfl c_130
      refine lv_aload_n hx hb dX2_passUnit_214 rfl (lv_at hl 0 rfl) ?_
      refine S_getR (n := 3) (C := RX2) (T := TX2) (N := 3) hx hb hg iX2 hown hK hW kd_4 rfl 0 (lt_b rfl) (hg (Cond.fieldLink RX2 9 "SlabWalk$Formulas" "tokens" "LSlabWalk$Tokens;") m301) (fun _ h9 => h9) rfl dX2_passUnit_215 ?_
      refine ic_2 hx hb dX2_passUnit_218 ?_
      refine S_calli (va_runV (As := [.int 2]) (rest := []) ⟨hx, hb, hml, hown, hts⟩ (k_tRefuse l D k A a z G_14 2 ⟨by decide, by decide⟩) (cwV 1 hts (gd_V hgd m849 m779 m780 m120 m781) rfl rfl rfl hd_X9_refuse ⟨show 0 + 1 ≤ fn + 8 from sy_1 fn (Nat.le_of_ble_eq_true rfl), show 8 + (2 + 11) + (0) ≤ ln + 169 from sy_1 ln (Nat.le_of_ble_eq_true rfl)⟩) (pre_W hW hB_G_14 hK hZ hS kd_3 rfl) rfl rfl hl.1 rfl (lv_room (Nat.le_of_ble_eq_true rfl)) dX2_passUnit_219 ⟨Nat.le_of_ble_eq_true rfl, Nat.le_of_ble_eq_true rfl⟩) hS (fun r_142 G_143 H locs hpo hW hS => ?_)
      have hX_146 : P_tRefuse 2 G_14 r_142 G_143 := hpo
      obtain ⟨hB_G_143, hq_144, f_147, -⟩ := hpo
      have hF := hF.call9 hq_144 rfl rfl
      exact W.zret (v := r_142) hx hb hr (nar_z ((by first | exact f_147.1 | omega)) ((by first | exact ok_130 f_147.2 | omega))) (fun t ht _ => ⟨⟨r_142, G_143, rfl, (P_fUnit_2_s_mk ⟨hB_G_143, hF, ⟨(by first | exact f_147.1 | omega), (by first | exact ok_130 f_147.2 | omega)⟩, (Or.inr ⟨c_2, (Or.inl ⟨c_10, ⟨y_11, ty_11, ⟨y_13, ty_13, (Or.inr ⟨c_15, (Or.inr ⟨c_22, (Or.inr ⟨c_34, (Or.inr ⟨c_46, (Or.inr ⟨c_58, (Or.inr ⟨c_70, (Or.inr ⟨c_82, (Or.inr ⟨c_94, (Or.inr ⟨c_106, (Or.inr ⟨c_118, (Or.inr ⟨c_130, ⟨G_14, hB_G_14, (Fr.put (rs := []) (fs := [(2, 12), (4, 2)]) (Fr.put (rs := []) (fs := [(2, 12), (4, 2)]) Fr.rf eG_12 (Or.inr (by decide))) eG_14 (Or.inr (by decide))), (gp_eq eG_14), ((gp_ne eG_14 (by decide)).trans (gp_eq eG_12)), ⟨r_142, G_143, hX_146, ⟨rfl, rfl⟩⟩⟩⟩)⟩)⟩)⟩)⟩)⟩)⟩)⟩)⟩)⟩)⟩)⟩⟩⟩)⟩)⟩), wd_t ht hW⟩, hS.F ht⟩) hS.2.2 dX2_passUnit_222
    · have c_10 : 90 ≤ (G.1 2 12).toInt := xI_nlt rfl rfl c_10
      refine lv_aload_n hx hb dX2_passUnit_21 rfl (lv_at hl 0 rfl) ?_
      refine S_getR (n := 3) (C := RX2) (T := TX2) (N := 3) hx hb hg iX2 hown hK hW kd_4 rfl 0 (lt_b rfl) (hg (Cond.fieldLink RX2 9 "SlabWalk$Formulas" "tokens" "LSlabWalk$Tokens;") m301) (fun _ h9 => h9) rfl dX2_passUnit_22 ?_
      refine ic_2 hx hb dX2_passUnit_25 ?_
      refine S_calli (va_runV (As := [.int 2]) (rest := []) ⟨hx, hb, hml, hown, hts⟩ (k_tRefuse l D k A a z G 2 ⟨by decide, by decide⟩) (cwV 1 hts (gd_V hgd m849 m779 m780 m120 m781) rfl rfl rfl hd_X9_refuse ⟨show 0 + 1 ≤ fn + 8 from sy_1 fn (Nat.le_of_ble_eq_true rfl), show 8 + (2 + 11) + (0) ≤ ln + 169 from sy_1 ln (Nat.le_of_ble_eq_true rfl)⟩) (pre_W hW hB_G hK hZ hS kd_3 rfl) rfl rfl hl.1 rfl (lv_room (Nat.le_of_ble_eq_true rfl)) dX2_passUnit_26 ⟨Nat.le_of_ble_eq_true rfl, Nat.le_of_ble_eq_true rfl⟩) hS (fun r_148 G_149 H locs hpo hW hS => ?_)
      have hX_152 : P_tRefuse 2 G r_148 G_149 := hpo
      obtain ⟨hB_G_149, hq_150, f_153, -⟩ := hpo
      have hF := hF.call9 hq_150 rfl rfl
      exact W.zret (v := r_148) hx hb hr (nar_z ((by first | exact f_153.1 | omega)) ((by first | exact ok_130 f_153.2 | omega))) (fun t ht _ => ⟨⟨r_148, G_149, rfl, (P_fUnit_2_s_mk ⟨hB_G_149, hF, ⟨(by first | exact f_153.1 | omega), (by first | exact ok_130 f_153.2 | omega)⟩, (Or.inr ⟨c_2, (Or.inr ⟨c_10, ⟨r_148, G_149, hX_152, ⟨rfl, rfl⟩⟩⟩)⟩)⟩), wd_t ht hW⟩, hS.F ht⟩) hS.2.2 dX2_passUnit_29

set_option maxHeartbeats 4000000 in
set_option maxRecDepth 100000 in
theorem k_fTerm_2_s (l : Launch) (D : va_G) (k : KT) (A : Nat → Prop) (a : Nat → Nat) (z : SK) (fn ln n : Nat) (E O : XR) (hEb : ∀ (p0 : Int32) (G : GS) (r : Int32) (G1 : GS), E p0 G r G1 → Bd G1 ∧ Fr [27] [(2, 12), (2, 13), (3, 2), (3, 3), (3, 4), (3, 5), (3, 6), (3, 7), (3, 8), (4, 2)] G G1 ∧ (0 ≤ r.toInt ∧ r.toInt ≤ 1)) (hOb : ∀ (p0 : Int32) (G : GS) (r : Int32) (G1 : GS), O p0 G r G1 → Bd G1 ∧ Fr [27] [(2, 12), (2, 13), (3, 2), (3, 3), (3, 4), (3, 5), (3, 6), (3, 7), (3, 8), (4, 2)] G G1 ∧ (0 ≤ r.toInt ∧ r.toInt ≤ 1)) (hE : ∀ (G : GS) (p0 : Int32) (ha_p0 : 0 ≤ p0.toInt ∧ p0.toInt ≤ 7) (hv_4_1 : G.2.2 4 1 = 2) (hd : 8 ≤ p0.toInt + (n : Int)), Met l yX2_passEither (WS yX2_passEither cX2_passEither 3 (some .boolean)) ({ frames := fn + 2, cells := 0, slots := 0, locals := ln + 43 }) (va_Pc [.ref (a 4), .int p0] (cW D k A a z G)) (va_Qi (fun (r : Int32) (G1 : GS) => E p0 G r G1) (fun (G1 : GS) t => Wd D k A a G1 t.heap) A) 0 0 A) (hO : ∀ (G : GS) (p0 : Int32) (ha_p0 : 0 ≤ p0.toInt ∧ p0.toInt ≤ 7) (hv_4_1 : G.2.2 4 1 = 2) (hd : 8 ≤ p0.toInt + (n : Int)), Met l yX2_passOne (WS yX2_passOne cX2_passOne 2 (some .boolean)) ({ frames := fn + 0, cells := 0, slots := 0, locals := ln + 0 }) (va_Pc [.ref (a 4), .int p0] (cW D k A a z G)) (va_Qi (fun (r : Int32) (G1 : GS) => O p0 G r G1) (fun (G1 : GS) t => Wd D k A a G1 t.heap) A) 0 0 A) (G : GS) (p0 : Int32) (ha_p0 : 0 ≤ p0.toInt ∧ p0.toInt ≤ 7) (hv_4_1 : G.2.2 4 1 = 2) (hd : 8 ≤ p0.toInt + (n : Int) + 1) : Met l yX2_passTerm (WS yX2_passTerm cX2_passTerm 4 (some .boolean)) ({ frames := fn + 9, cells := 0, slots := 0, locals := ln + 190 }) (va_Pc [.ref (a 4), .int p0] (cW D k A a z G)) (va_Qi (fun (r : Int32) (G1 : GS) => P_fTerm_2_s E O p0 G r G1) (fun (G1 : GS) t => Wd D k A a G1 t.heap) A) 0 0 A := by
  refine Met.ofW (cc := cX2_passTerm) (maxL := 4) (ret := (some .boolean)) (by decide) rfl ?_
  intro p e s m args below meth c s₁ B hml hv
  obtain ⟨rfl, hW, hB_G, hK, hZ⟩ := hv
  have hx := B.exec
  have hb := B.bytes
  have hr := B.returns
  have hts := atoms_spec (ws := WS yX2_passTerm cX2_passTerm 4 (some .boolean)) B.pre
  have hgd : ∀ w ∈ gd, w ∈ WS yX2_passTerm cX2_passTerm 4 (some .boolean) := fun w h => List.mem_cons_of_mem _ h
  have hg : ∀ w ∈ gd, w.before _ s = true := fun w h => hts w (hgd w h)
  have hown : s.vm.findClass RX2 = some m.cls := findClass_of_methodNamed B.named
  have hS : va_S A s.heap s.heap [] := va_S.rf
  have hF : Fr [27] [(2, 12), (2, 13), (3, 2), (3, 3), (3, 4), (3, 5), (3, 6), (3, 7), (3, 8), (4, 2)] G G := Fr.rf
  have hl := lv_entry ([.ref (a 4), .int p0]) (n := 4) (Nat.le_of_ble_eq_true rfl)
  rw [lg_entry_eq]
  generalize (lg_sl ([.ref (a 4), .int p0]) ++ List.replicate (4 - (lg_sl ([.ref (a 4), .int p0])).length) Slot.unset).toArray = ls at hl ⊢
  have hl : lv_has ls 4 [(0, .ref (a 4)), (1, .int p0)] := hl
  refine lv_aload_n hx hb dX2_passTerm_0 rfl (lv_at hl 0 rfl) ?_
  refine lv_iload_n hx hb dX2_passTerm_1 rfl (lv_at hl 1 rfl) ?_
  refine S_calli (va_runV (As := [.int p0]) (rest := []) ⟨hx, hb, hml, hown, hts⟩ (k_fUnit_2_s l D k A a z fn ln n E O hEb hOb hE hO G p0 ⟨(by first | exact ha_p0.1 | omega), (by first | exact ha_p0.2 | omega)⟩ hv_4_1 ((by first | exact hd | omega))) (cwV 1 hts (gd_V hgd m845 m847 m22 m121 m848) rfl rfl rfl hd_X2_passUnit ⟨show fn + 8 + 1 ≤ fn + 9 from sy_2 fn (Nat.le_of_ble_eq_true rfl), show 8 + (2 + 11) + (ln + 169) ≤ ln + 190 from sy_3 ln (Nat.le_of_ble_eq_true rfl)⟩) (pre_W hW hB_G hK hZ hS kd_4 rfl) rfl rfl hl.1 rfl (lv_room (Nat.le_of_ble_eq_true rfl)) dX2_passTerm_2 ⟨Nat.le_of_ble_eq_true rfl, Nat.le_of_ble_eq_true rfl⟩) hS (fun r_1 G_2 H locs hpo hW hS => ?_)
  have hX_5 : P_fUnit_2_s E O p0 G r_1 G_2 := hpo
  obtain ⟨hB_G_2, hq_3, f_6, -⟩ := hpo
  have hF := hF.call9 hq_3 rfl rfl
  refine lv_if_ne (tgt := 10) hx hb dX2_passTerm_5 rfl (fun c_7 => ?_) (fun c_7 => ?_)
  · have c_7 : r_1.toInt ≠ 0 := xI_ne rfl rfl c_7
    refine ic_0 hx hb dX2_passTerm_10 ?_
    refine lv_istore_n (lv' := [(2, .int 0), (0, .ref (a 4)), (1, .int p0)]) hx hb dX2_passTerm_11 rfl hl (lt_b rfl) rfl (fun ls hl => ?_)
    have qc_14 : (0 : Int32).toInt = 0 := rfl
    refine loop_N (Inv := fun n H locs ls => ∃ (G_8 : GS) (x_12 : Int32), (n : Int) = 1600 - x_12.toInt ∧ (0 ≤ x_12.toInt ∧ x_12.toInt ≤ 1600) ∧ Rc (St_k_fTerm_2_s_1 E O p0) (0, G_2) (x_12, G_8) ∧ Wd D k A a G_8 H ∧ Bd G_8 ∧ Fr [27] [(2, 12), (2, 13), (3, 2), (3, 3), (3, 4), (3, 5), (3, 6), (3, 7), (3, 8), (4, 2)] G G_8 ∧ Fr [27] [(2, 12), (2, 13), (3, 2), (3, 3), (3, 4), (3, 5), (3, 6), (3, 7), (3, 8), (4, 2)] G_2 G_8 ∧ va_S A s.heap H locs ∧ lv_has ls 4 [(2, .int x_12), (0, .ref (a 4)), (1, .int p0)]) (fun n_11 H locs ls ih_10 hI => ?_) (1600 - 0 : Int).toNat ⟨G_2, 0, (Int.toNat_of_nonneg ((by decide))), ⟨(by decide), (by decide)⟩, Rc.rf, hW, hB_G_2, hF, Fr.rf, hS, lv_sub hl [0, 1, 2] rfl⟩
    obtain ⟨G_8, x_12, hn_16, f_15, hX_13, hW, hB_G_8, hF, hq_9, hS, hl⟩ := hI
    refine lv_iload_n hx hb dX2_passTerm_12 rfl (lv_at hl 0 rfl) ?_
    refine lv_sipush (v := 1600) hx hb dX2_passTerm_13 (by decide) ?_
    refine lv_icmp_ge (tgt := 73) hx hb dX2_passTerm_16 rfl (fun c_17 => ?_) (fun c_17 => ?_)
    · have c_17 : 1600 ≤ x_12.toInt := xI_le rfl rfl c_17
      refine ic_1 hx hb dX2_passTerm_73 ?_
      exact W.zret (v := 1) hx hb hr (by decide) (fun t ht _ => ⟨⟨1, G_8, rfl, (P_fTerm_2_s_mk ⟨hB_G_8, hF, ⟨by decide, by decide⟩, ⟨r_1, G_2, hX_5, (Or.inr ⟨c_7, ⟨x_12, G_8, hX_13, f_15, hB_G_8, hq_9, (Or.inl ⟨c_17, ⟨rfl, rfl⟩⟩)⟩⟩)⟩⟩), wd_t ht hW⟩, hS.F ht⟩) hS.2.2 dX2_passTerm_74
    · have c_17 : x_12.toInt < 1600 := xI_nle rfl rfl c_17
      refine lv_aload_n hx hb dX2_passTerm_19 rfl (lv_at hl 1 rfl) ?_
      refine S_getR (n := 3) (C := RX2) (T := TX2) (N := 3) hx hb hg iX2 hown hK hW kd_4 rfl 0 (lt_b rfl) (hg (Cond.fieldLink RX2 9 "SlabWalk$Formulas" "tokens" "LSlabWalk$Tokens;") m301) (fun _ h9 => h9) rfl dX2_passTerm_20 ?_
      refine S_getI (v := (G_8.1 3 3)) (C := RX9) (T := TX9) (N := 9) hx hb hg iX9 hown hK hW kd_3 rfl 3 (lt_b rfl) (hg (Cond.fieldLink RX2 30 "SlabWalk$Tokens" "kind" "I") m263) (fun _ h9 => h9) rfl rfl dX2_passTerm_23 ?_
      refine S_calli (va_runS (As := [.int (G_8.1 3 3)]) (rest := []) ⟨hx, hb, hml, hown, hts⟩ (k_fTimes l D k A a z G_8 (G_8.1 3 3) ) (va_cwS 1 hts (gd_S hgd m859 m860 m121 m861) rfl rfl rfl hd_X2_isTimes.2 ⟨show 0 + 1 ≤ fn + 9 from sy_1 fn (Nat.le_of_ble_eq_true rfl), show 8 + (1 + 11) + (0) ≤ ln + 190 from sy_1 ln (Nat.le_of_ble_eq_true rfl)⟩) (pre_S hW hB_G_8 hK hZ hS) rfl rfl hl.1 rfl (lv_room (Nat.le_of_ble_eq_true rfl)) dX2_passTerm_26 ⟨Nat.le_of_ble_eq_true rfl, Nat.le_of_ble_eq_true rfl⟩) hS (fun r_18 G_19 H locs hpo hW hS => ?_)
      have hX_22 : P_fTimes (G_8.1 3 3) G_8 r_18 G_19 := hpo
      obtain ⟨hB_G_19, hq_20, f_23, -⟩ := hpo
      have hF := hF.call9 hq_20 rfl rfl
      refine lv_if_eq (tgt := 73) hx hb dX2_passTerm_29 rfl (fun c_24 => ?_) (fun c_24 => ?_)
      · have c_24 : r_18.toInt = 0 := xI_eq rfl rfl c_24
        refine ic_1 hx hb dX2_passTerm_73 ?_
        exact W.zret (v := 1) hx hb hr (by decide) (fun t ht _ => ⟨⟨1, G_19, rfl, (P_fTerm_2_s_mk ⟨hB_G_19, hF, ⟨by decide, by decide⟩, ⟨r_1, G_2, hX_5, (Or.inr ⟨c_7, ⟨x_12, G_8, hX_13, f_15, hB_G_8, hq_9, (Or.inr ⟨c_17, ⟨r_18, G_19, hX_22, (Or.inl ⟨c_24, ⟨rfl, rfl⟩⟩)⟩⟩)⟩⟩)⟩⟩), wd_t ht hW⟩, hS.F ht⟩) hS.2.2 dX2_passTerm_74
      · have c_24 : r_18.toInt ≠ 0 := xI_ne rfl rfl c_24
        refine lv_aload_n hx hb dX2_passTerm_32 rfl (lv_at hl 1 rfl) ?_
        refine S_getR (n := 3) (C := RX2) (T := TX2) (N := 3) hx hb hg iX2 hown hK hW kd_4 rfl 0 (lt_b rfl) (hg (Cond.fieldLink RX2 9 "SlabWalk$Formulas" "tokens" "LSlabWalk$Tokens;") m301) (fun _ h9 => h9) rfl dX2_passTerm_33 ?_
        refine S_getI (v := (G_8.1 3 3)) (C := RX9) (T := TX9) (N := 9) hx hb hg iX9 hown hK hW kd_3 rfl 3 (lt_b rfl) (hg (Cond.fieldLink RX2 30 "SlabWalk$Tokens" "kind" "I") m263) (fun _ h9 => h9) rfl ((hq_20.i9 3 3 rfl rfl).trans (rfl)) dX2_passTerm_36 ?_
        refine lv_istore_n (lv' := [(3, .int (G_8.1 3 3)), (2, .int x_12), (0, .ref (a 4)), (1, .int p0)]) hx hb dX2_passTerm_39 rfl hl (lt_b rfl) rfl (fun ls hl => ?_)
        refine lv_aload_n hx hb dX2_passTerm_40 rfl (lv_at hl 2 rfl) ?_
        refine S_getR (n := 3) (C := RX2) (T := TX2) (N := 3) hx hb hg iX2 hown hK hW kd_4 rfl 0 (lt_b rfl) (hg (Cond.fieldLink RX2 9 "SlabWalk$Formulas" "tokens" "LSlabWalk$Tokens;") m301) (fun _ h9 => h9) rfl dX2_passTerm_41 ?_
        refine S_calli (va_runV (As := []) (rest := []) ⟨hx, hb, hml, hown, hts⟩ (k_tAdvance l D k A a z G_19  ) (cwV 0 hts (gd_V hgd m854 m639 m640 m120 m641) rfl rfl rfl hd_X9_advance ⟨show 6 + 1 ≤ fn + 9 from sy_1 fn (Nat.le_of_ble_eq_true rfl), show 8 + (2 + 11) + (127) ≤ ln + 190 from sy_1 ln (Nat.le_of_ble_eq_true rfl)⟩) (pre_W hW hB_G_19 hK hZ hS kd_3 rfl) rfl rfl hl.1 rfl (lv_room (Nat.le_of_ble_eq_true rfl)) dX2_passTerm_44 ⟨Nat.le_of_ble_eq_true rfl, Nat.le_of_ble_eq_true rfl⟩) hS (fun r_25 G_26 H locs hpo hW hS => ?_)
        have hX_29 : P_tAdvance G_19 r_25 G_26 := hpo
        obtain ⟨hB_G_26, hq_27, f_30, -⟩ := hpo
        have hF := hF.call9 hq_27 rfl rfl
        refine lv_pop hx hb dX2_passTerm_47 rfl ?_
        refine lv_aload_n hx hb dX2_passTerm_48 rfl (lv_at hl 2 rfl) ?_
        refine lv_iload_n hx hb dX2_passTerm_49 rfl (lv_at hl 3 rfl) ?_
        refine S_calli (va_runV (As := [.int p0]) (rest := []) ⟨hx, hb, hml, hown, hts⟩ (k_fUnit_2_s l D k A a z fn ln n E O hEb hOb hE hO G_26 p0 ⟨(by first | exact ha_p0.1 | omega), (by first | exact ha_p0.2 | omega)⟩ ((((hq_27.r9 4 1 rfl rfl).trans ((hq_20.r9 4 1 rfl rfl).trans ((hq_9.r9 4 1 rfl rfl).trans (hq_3.r9 4 1 rfl rfl))))).trans (hv_4_1)) ((by first | exact hd | omega))) (cwV 1 hts (gd_V hgd m845 m847 m22 m121 m848) rfl rfl rfl hd_X2_passUnit ⟨show fn + 8 + 1 ≤ fn + 9 from sy_2 fn (Nat.le_of_ble_eq_true rfl), show 8 + (2 + 11) + (ln + 169) ≤ ln + 190 from sy_3 ln (Nat.le_of_ble_eq_true rfl)⟩) (pre_W hW hB_G_26 hK hZ hS kd_4 rfl) rfl rfl hl.1 rfl (lv_room (Nat.le_of_ble_eq_true rfl)) dX2_passTerm_50 ⟨Nat.le_of_ble_eq_true rfl, Nat.le_of_ble_eq_true rfl⟩) hS (fun r_31 G_32 H locs hpo hW hS => ?_)
        have hX_35 : P_fUnit_2_s E O p0 G_26 r_31 G_32 := hpo
        obtain ⟨hB_G_32, hq_33, f_36, -⟩ := hpo
        have hF := hF.call9 hq_33 rfl rfl
        refine lv_if_ne (tgt := 58) hx hb dX2_passTerm_53 rfl (fun c_37 => ?_) (fun c_37 => ?_)
        · have c_37 : r_31.toInt ≠ 0 := xI_ne rfl rfl c_37
          refine lv_aload_n hx hb dX2_passTerm_58 rfl (lv_at hl 2 rfl) ?_
          refine S_getV (n := 2) (C := RX2) (T := TX2) (N := 3) hx hb hg iX2 hown hK hW kd_4 rfl 1 (lt_b rfl) (hg (Cond.fieldLink RX2 15 "SlabWalk$Formulas" "paving" "LSlabWalk$Paving;") m302) (fun _ h9 => h9) rfl ((((hq_33.r9 4 1 rfl rfl).trans ((hq_27.r9 4 1 rfl rfl).trans ((hq_20.r9 4 1 rfl rfl).trans ((hq_9.r9 4 1 rfl rfl).trans (hq_3.r9 4 1 rfl rfl)))))).trans (hv_4_1)) dX2_passTerm_59 ?_
          refine lv_iload_n hx hb dX2_passTerm_62 rfl (lv_at hl 0 rfl) ?_
          refine ic_0 hx hb dX2_passTerm_63 ?_
          refine S_callv (va_runV (As := [.int (G_8.1 3 3), .int 0]) (rest := []) ⟨hx, hb, hml, hown, hts⟩ (k_emit_2 l D k A a z G_32 (G_8.1 3 3) 0 ) (cwV 2 hts (gd_V hgd m855 m856 m857 m118 m858) rfl rfl rfl hd_X6_emit ⟨show 0 + 1 ≤ fn + 9 from sy_1 fn (Nat.le_of_ble_eq_true rfl), show 8 + (3 + 11) + (0) ≤ ln + 190 from sy_1 ln (Nat.le_of_ble_eq_true rfl)⟩) (pre_W hW hB_G_32 hK hZ hS kd_2 rfl) rfl rfl hl.1 rfl (lv_room (Nat.le_of_ble_eq_true rfl)) dX2_passTerm_64 ⟨Nat.le_of_ble_eq_true rfl, Nat.le_of_ble_eq_true rfl⟩) hS (fun G_39 H locs hpo hW hS => ?_)
          have hX_42 : P_emit_2 (G_8.1 3 3) 0 G_32 G_39 := hpo
          obtain ⟨hB_G_39, hq_40, -⟩ := hpo
          have hF := hF.call9 hq_40 rfl rfl
          obtain ⟨y_43, ey_43⟩ : ∃ q, q = x_12 + 1 := ⟨_, rfl⟩
          have ty_43 : y_43.toInt = x_12.toInt + 1 := xI_add rfl rfl ey_43 ((by first | exact ok_21 f_15.1 | omega)) ((by first | exact ok_122 f_15.2 | omega))
          refine lv_iinc (v := y_43) (lv' := [(2, .int y_43), (3, .int (G_8.1 3 3)), (0, .ref (a 4)), (1, .int p0)]) hx hb dX2_passTerm_67 hl (k := 1) rfl (by rw [ey_43]; rfl) (lt_b rfl) rfl (fun ls hl => ?_)
          refine lv_goto (tgt := 12) hx hb dX2_passTerm_70 rfl ?_
          exact ih_10 (1600 - y_43.toInt : Int).toNat ((by first | (clear ha_p0 hd f_6 c_7 f_23 c_24 f_30 f_36 c_37; omega) | omega)) _ _ _ ⟨G_39, y_43, (Int.toNat_of_nonneg ((by first | exact ok_388 f_15.2 c_17 ty_43 | omega))), ⟨(by first | exact ok_23 f_15.1 ty_43 | omega), (by first | exact ok_389 f_15.2 c_17 ty_43 | omega)⟩, (hX_13.st (St_k_fTerm_2_s_1_mk ⟨x_12, G_8, y_43, G_39, rfl, rfl, f_15, hB_G_8, ⟨c_17, ⟨r_18, G_19, hX_22, ⟨c_24, ⟨r_25, G_26, hX_29, ⟨r_31, G_32, hX_35, ⟨c_37, ⟨G_39, hX_42, ⟨y_43, ty_43, ⟨rfl, rfl⟩⟩⟩⟩⟩⟩⟩⟩⟩⟩)), hW, hB_G_39, hF, (Fr.call9 (rs := [27]) (fs := [(2, 12), (2, 13), (3, 2), (3, 3), (3, 4), (3, 5), (3, 6), (3, 7), (3, 8), (4, 2)]) (Fr.call9 (rs := [27]) (fs := [(2, 12), (2, 13), (3, 2), (3, 3), (3, 4), (3, 5), (3, 6), (3, 7), (3, 8), (4, 2)]) (Fr.call9 (rs := [27]) (fs := [(2, 12), (2, 13), (3, 2), (3, 3), (3, 4), (3, 5), (3, 6), (3, 7), (3, 8), (4, 2)]) (Fr.call9 (rs := [27]) (fs := [(2, 12), (2, 13), (3, 2), (3, 3), (3, 4), (3, 5), (3, 6), (3, 7), (3, 8), (4, 2)]) (Fr.call9 (rs := [27]) (fs := [(2, 12), (2, 13), (3, 2), (3, 3), (3, 4), (3, 5), (3, 6), (3, 7), (3, 8), (4, 2)]) Fr.rf hq_9 rfl rfl) hq_20 rfl rfl) hq_27 rfl rfl) hq_33 rfl rfl) hq_40 rfl rfl), hS, lv_sub hl [0, 2, 3] rfl⟩
        · have c_37 : r_31.toInt = 0 := xI_eq rfl rfl c_37
          refine ic_0 hx hb dX2_passTerm_56 ?_
          exact W.zret (v := 0) hx hb hr (by decide) (fun t ht _ => ⟨⟨0, G_32, rfl, (P_fTerm_2_s_mk ⟨hB_G_32, hF, ⟨by decide, by decide⟩, ⟨r_1, G_2, hX_5, (Or.inr ⟨c_7, ⟨x_12, G_8, hX_13, f_15, hB_G_8, hq_9, (Or.inr ⟨c_17, ⟨r_18, G_19, hX_22, (Or.inr ⟨c_24, ⟨r_25, G_26, hX_29, ⟨r_31, G_32, hX_35, ⟨c_37, ⟨rfl, rfl⟩⟩⟩⟩⟩)⟩⟩)⟩⟩)⟩⟩), wd_t ht hW⟩, hS.F ht⟩) hS.2.2 dX2_passTerm_57
  · have c_7 : r_1.toInt = 0 := xI_eq rfl rfl c_7
    refine ic_0 hx hb dX2_passTerm_8 ?_
    exact W.zret (v := 0) hx hb hr (by decide) (fun t ht _ => ⟨⟨0, G_2, rfl, (P_fTerm_2_s_mk ⟨hB_G_2, hF, ⟨by decide, by decide⟩, ⟨r_1, G_2, hX_5, (Or.inl ⟨c_7, ⟨rfl, rfl⟩⟩)⟩⟩), wd_t ht hW⟩, hS.F ht⟩) hS.2.2 dX2_passTerm_9

set_option maxHeartbeats 4000000 in
set_option maxRecDepth 100000 in
theorem k_fSum_2_s (l : Launch) (D : va_G) (k : KT) (A : Nat → Prop) (a : Nat → Nat) (z : SK) (fn ln n : Nat) (E O : XR) (hEb : ∀ (p0 : Int32) (G : GS) (r : Int32) (G1 : GS), E p0 G r G1 → Bd G1 ∧ Fr [27] [(2, 12), (2, 13), (3, 2), (3, 3), (3, 4), (3, 5), (3, 6), (3, 7), (3, 8), (4, 2)] G G1 ∧ (0 ≤ r.toInt ∧ r.toInt ≤ 1)) (hOb : ∀ (p0 : Int32) (G : GS) (r : Int32) (G1 : GS), O p0 G r G1 → Bd G1 ∧ Fr [27] [(2, 12), (2, 13), (3, 2), (3, 3), (3, 4), (3, 5), (3, 6), (3, 7), (3, 8), (4, 2)] G G1 ∧ (0 ≤ r.toInt ∧ r.toInt ≤ 1)) (hE : ∀ (G : GS) (p0 : Int32) (ha_p0 : 0 ≤ p0.toInt ∧ p0.toInt ≤ 7) (hv_4_1 : G.2.2 4 1 = 2) (hd : 8 ≤ p0.toInt + (n : Int)), Met l yX2_passEither (WS yX2_passEither cX2_passEither 3 (some .boolean)) ({ frames := fn + 2, cells := 0, slots := 0, locals := ln + 43 }) (va_Pc [.ref (a 4), .int p0] (cW D k A a z G)) (va_Qi (fun (r : Int32) (G1 : GS) => E p0 G r G1) (fun (G1 : GS) t => Wd D k A a G1 t.heap) A) 0 0 A) (hO : ∀ (G : GS) (p0 : Int32) (ha_p0 : 0 ≤ p0.toInt ∧ p0.toInt ≤ 7) (hv_4_1 : G.2.2 4 1 = 2) (hd : 8 ≤ p0.toInt + (n : Int)), Met l yX2_passOne (WS yX2_passOne cX2_passOne 2 (some .boolean)) ({ frames := fn + 0, cells := 0, slots := 0, locals := ln + 0 }) (va_Pc [.ref (a 4), .int p0] (cW D k A a z G)) (va_Qi (fun (r : Int32) (G1 : GS) => O p0 G r G1) (fun (G1 : GS) t => Wd D k A a G1 t.heap) A) 0 0 A) (G : GS) (p0 : Int32) (ha_p0 : 0 ≤ p0.toInt ∧ p0.toInt ≤ 7) (hv_4_1 : G.2.2 4 1 = 2) (hd : 8 ≤ p0.toInt + (n : Int) + 1) : Met l yX2_passSum (WS yX2_passSum cX2_passSum 4 (some .boolean)) ({ frames := fn + 10, cells := 0, slots := 0, locals := ln + 213 }) (va_Pc [.ref (a 4), .int p0] (cW D k A a z G)) (va_Qi (fun (r : Int32) (G1 : GS) => P_fSum_2_s E O p0 G r G1) (fun (G1 : GS) t => Wd D k A a G1 t.heap) A) 0 0 A := by
  refine Met.ofW (cc := cX2_passSum) (maxL := 4) (ret := (some .boolean)) (by decide) rfl ?_
  intro p e s m args below meth c s₁ B hml hv
  obtain ⟨rfl, hW, hB_G, hK, hZ⟩ := hv
  have hx := B.exec
  have hb := B.bytes
  have hr := B.returns
  have hts := atoms_spec (ws := WS yX2_passSum cX2_passSum 4 (some .boolean)) B.pre
  have hgd : ∀ w ∈ gd, w ∈ WS yX2_passSum cX2_passSum 4 (some .boolean) := fun w h => List.mem_cons_of_mem _ h
  have hg : ∀ w ∈ gd, w.before _ s = true := fun w h => hts w (hgd w h)
  have hown : s.vm.findClass RX2 = some m.cls := findClass_of_methodNamed B.named
  have hS : va_S A s.heap s.heap [] := va_S.rf
  have hF : Fr [27] [(2, 12), (2, 13), (3, 2), (3, 3), (3, 4), (3, 5), (3, 6), (3, 7), (3, 8), (4, 2)] G G := Fr.rf
  have hl := lv_entry ([.ref (a 4), .int p0]) (n := 4) (Nat.le_of_ble_eq_true rfl)
  rw [lg_entry_eq]
  generalize (lg_sl ([.ref (a 4), .int p0]) ++ List.replicate (4 - (lg_sl ([.ref (a 4), .int p0])).length) Slot.unset).toArray = ls at hl ⊢
  have hl : lv_has ls 4 [(0, .ref (a 4)), (1, .int p0)] := hl
  refine lv_aload_n hx hb dX2_passSum_0 rfl (lv_at hl 0 rfl) ?_
  refine lv_iload_n hx hb dX2_passSum_1 rfl (lv_at hl 1 rfl) ?_
  refine S_calli (va_runV (As := [.int p0]) (rest := []) ⟨hx, hb, hml, hown, hts⟩ (k_fTerm_2_s l D k A a z fn ln n E O hEb hOb hE hO G p0 ⟨(by first | exact ha_p0.1 | omega), (by first | exact ha_p0.2 | omega)⟩ hv_4_1 ((by first | exact hd | omega))) (cwV 1 hts (gd_V hgd m841 m843 m21 m121 m844) rfl rfl rfl hd_X2_passTerm ⟨show fn + 9 + 1 ≤ fn + 10 from sy_2 fn (Nat.le_of_ble_eq_true rfl), show 8 + (4 + 11) + (ln + 190) ≤ ln + 213 from sy_3 ln (Nat.le_of_ble_eq_true rfl)⟩) (pre_W hW hB_G hK hZ hS kd_4 rfl) rfl rfl hl.1 rfl (lv_room (Nat.le_of_ble_eq_true rfl)) dX2_passSum_2 ⟨Nat.le_of_ble_eq_true rfl, Nat.le_of_ble_eq_true rfl⟩) hS (fun r_1 G_2 H locs hpo hW hS => ?_)
  have hX_5 : P_fTerm_2_s E O p0 G r_1 G_2 := hpo
  obtain ⟨hB_G_2, hq_3, f_6, -⟩ := hpo
  have hF := hF.call9 hq_3 rfl rfl
  refine lv_if_ne (tgt := 10) hx hb dX2_passSum_5 rfl (fun c_7 => ?_) (fun c_7 => ?_)
  · have c_7 : r_1.toInt ≠ 0 := xI_ne rfl rfl c_7
    refine ic_0 hx hb dX2_passSum_10 ?_
    refine lv_istore_n (lv' := [(2, .int 0), (0, .ref (a 4)), (1, .int p0)]) hx hb dX2_passSum_11 rfl hl (lt_b rfl) rfl (fun ls hl => ?_)
    have qc_14 : (0 : Int32).toInt = 0 := rfl
    refine loop_N (Inv := fun n H locs ls => ∃ (G_8 : GS) (x_12 : Int32), (n : Int) = 1600 - x_12.toInt ∧ (0 ≤ x_12.toInt ∧ x_12.toInt ≤ 1600) ∧ Rc (St_k_fSum_2_s_1 E O p0) (0, G_2) (x_12, G_8) ∧ Wd D k A a G_8 H ∧ Bd G_8 ∧ Fr [27] [(2, 12), (2, 13), (3, 2), (3, 3), (3, 4), (3, 5), (3, 6), (3, 7), (3, 8), (4, 2)] G G_8 ∧ Fr [27] [(2, 12), (2, 13), (3, 2), (3, 3), (3, 4), (3, 5), (3, 6), (3, 7), (3, 8), (4, 2)] G_2 G_8 ∧ va_S A s.heap H locs ∧ lv_has ls 4 [(2, .int x_12), (0, .ref (a 4)), (1, .int p0)]) (fun n_11 H locs ls ih_10 hI => ?_) (1600 - 0 : Int).toNat ⟨G_2, 0, (Int.toNat_of_nonneg ((by decide))), ⟨(by decide), (by decide)⟩, Rc.rf, hW, hB_G_2, hF, Fr.rf, hS, lv_sub hl [0, 1, 2] rfl⟩
    obtain ⟨G_8, x_12, hn_16, f_15, hX_13, hW, hB_G_8, hF, hq_9, hS, hl⟩ := hI
    refine lv_iload_n hx hb dX2_passSum_12 rfl (lv_at hl 0 rfl) ?_
    refine lv_sipush (v := 1600) hx hb dX2_passSum_13 (by decide) ?_
    refine lv_icmp_ge (tgt := 84) hx hb dX2_passSum_16 rfl (fun c_17 => ?_) (fun c_17 => ?_)
    · have c_17 : 1600 ≤ x_12.toInt := xI_le rfl rfl c_17
      refine ic_1 hx hb dX2_passSum_84 ?_
      exact W.zret (v := 1) hx hb hr (by decide) (fun t ht _ => ⟨⟨1, G_8, rfl, (P_fSum_2_s_mk ⟨hB_G_8, hF, ⟨by decide, by decide⟩, ⟨r_1, G_2, hX_5, (Or.inr ⟨c_7, ⟨x_12, G_8, hX_13, f_15, hB_G_8, hq_9, (Or.inl ⟨c_17, ⟨rfl, rfl⟩⟩)⟩⟩)⟩⟩), wd_t ht hW⟩, hS.F ht⟩) hS.2.2 dX2_passSum_85
    · have c_17 : x_12.toInt < 1600 := xI_nle rfl rfl c_17
      refine lv_aload_n hx hb dX2_passSum_19 rfl (lv_at hl 1 rfl) ?_
      refine S_getR (n := 3) (C := RX2) (T := TX2) (N := 3) hx hb hg iX2 hown hK hW kd_4 rfl 0 (lt_b rfl) (hg (Cond.fieldLink RX2 9 "SlabWalk$Formulas" "tokens" "LSlabWalk$Tokens;") m301) (fun _ h9 => h9) rfl dX2_passSum_20 ?_
      refine S_getI (v := (G_8.1 3 3)) (C := RX9) (T := TX9) (N := 9) hx hb hg iX9 hown hK hW kd_3 rfl 3 (lt_b rfl) (hg (Cond.fieldLink RX2 30 "SlabWalk$Tokens" "kind" "I") m263) (fun _ h9 => h9) rfl rfl dX2_passSum_23 ?_
      refine lv_bipush (v := 43) hx hb dX2_passSum_26 (by decide) ?_
      refine W.cut (σ := Unit) (pcJ := 43) (J := fun y H locs ls => ∃ (G_21 : GS), Jn_k_fSum_2_s_2 E O G_8 G_21 ∧ Wd D k A a G_21 H ∧ Bd G_21 ∧ Fr [27] [(2, 12), (2, 13), (3, 2), (3, 3), (3, 4), (3, 5), (3, 6), (3, 7), (3, 8), (4, 2)] G G_21 ∧ Fr [] [] G_8 G_21 ∧ va_S A s.heap H locs ∧ lv_has ls 4 [(2, .int x_12), (0, .ref (a 4)), (1, .int p0)]) (stJ := fun _ => []) ?_ (fun hJ_22 => ?_)
      · intro y H locs ls hI
        obtain ⟨G_21, hX_24, hW, hB_G_21, hF, hq_23, hS, hl⟩ := hI
        refine lv_aload_n hx hb dX2_passSum_43 rfl (lv_at hl 1 rfl) ?_
        refine S_getR (n := 3) (C := RX2) (T := TX2) (N := 3) hx hb hg iX2 hown hK hW kd_4 rfl 0 (lt_b rfl) (hg (Cond.fieldLink RX2 9 "SlabWalk$Formulas" "tokens" "LSlabWalk$Tokens;") m301) (fun _ h9 => h9) rfl dX2_passSum_44 ?_
        refine S_getI (v := (G_8.1 3 3)) (C := RX9) (T := TX9) (N := 9) hx hb hg iX9 hown hK hW kd_3 rfl 3 (lt_b rfl) (hg (Cond.fieldLink RX2 30 "SlabWalk$Tokens" "kind" "I") m263) (fun _ h9 => h9) rfl ((hq_23.i9 3 3 rfl rfl).trans (rfl)) dX2_passSum_47 ?_
        refine lv_istore_n (lv' := [(3, .int (G_8.1 3 3)), (2, .int x_12), (0, .ref (a 4)), (1, .int p0)]) hx hb dX2_passSum_50 rfl hl (lt_b rfl) rfl (fun ls hl => ?_)
        refine lv_aload_n hx hb dX2_passSum_51 rfl (lv_at hl 2 rfl) ?_
        refine S_getR (n := 3) (C := RX2) (T := TX2) (N := 3) hx hb hg iX2 hown hK hW kd_4 rfl 0 (lt_b rfl) (hg (Cond.fieldLink RX2 9 "SlabWalk$Formulas" "tokens" "LSlabWalk$Tokens;") m301) (fun _ h9 => h9) rfl dX2_passSum_52 ?_
        refine S_calli (va_runV (As := []) (rest := []) ⟨hx, hb, hml, hown, hts⟩ (k_tAdvance l D k A a z G_21  ) (cwV 0 hts (gd_V hgd m854 m639 m640 m120 m641) rfl rfl rfl hd_X9_advance ⟨show 6 + 1 ≤ fn + 10 from sy_1 fn (Nat.le_of_ble_eq_true rfl), show 8 + (2 + 11) + (127) ≤ ln + 213 from sy_1 ln (Nat.le_of_ble_eq_true rfl)⟩) (pre_W hW hB_G_21 hK hZ hS kd_3 rfl) rfl rfl hl.1 rfl (lv_room (Nat.le_of_ble_eq_true rfl)) dX2_passSum_55 ⟨Nat.le_of_ble_eq_true rfl, Nat.le_of_ble_eq_true rfl⟩) hS (fun r_25 G_26 H locs hpo hW hS => ?_)
        have hX_29 : P_tAdvance G_21 r_25 G_26 := hpo
        obtain ⟨hB_G_26, hq_27, f_30, -⟩ := hpo
        have hF := hF.call9 hq_27 rfl rfl
        refine lv_pop hx hb dX2_passSum_58 rfl ?_
        refine lv_aload_n hx hb dX2_passSum_59 rfl (lv_at hl 2 rfl) ?_
        refine lv_iload_n hx hb dX2_passSum_60 rfl (lv_at hl 3 rfl) ?_
        refine S_calli (va_runV (As := [.int p0]) (rest := []) ⟨hx, hb, hml, hown, hts⟩ (k_fTerm_2_s l D k A a z fn ln n E O hEb hOb hE hO G_26 p0 ⟨(by first | exact ha_p0.1 | omega), (by first | exact ha_p0.2 | omega)⟩ ((((hq_27.r9 4 1 rfl rfl).trans ((hq_23.r9 4 1 rfl rfl).trans ((hq_9.r9 4 1 rfl rfl).trans (hq_3.r9 4 1 rfl rfl))))).trans (hv_4_1)) ((by first | exact hd | omega))) (cwV 1 hts (gd_V hgd m841 m843 m21 m121 m844) rfl rfl rfl hd_X2_passTerm ⟨show fn + 9 + 1 ≤ fn + 10 from sy_2 fn (Nat.le_of_ble_eq_true rfl), show 8 + (4 + 11) + (ln + 190) ≤ ln + 213 from sy_3 ln (Nat.le_of_ble_eq_true rfl)⟩) (pre_W hW hB_G_26 hK hZ hS kd_4 rfl) rfl rfl hl.1 rfl (lv_room (Nat.le_of_ble_eq_true rfl)) dX2_passSum_61 ⟨Nat.le_of_ble_eq_true rfl, Nat.le_of_ble_eq_true rfl⟩) hS (fun r_31 G_32 H locs hpo hW hS => ?_)
        have hX_35 : P_fTerm_2_s E O p0 G_26 r_31 G_32 := hpo
        obtain ⟨hB_G_32, hq_33, f_36, -⟩ := hpo
        have hF := hF.call9 hq_33 rfl rfl
        refine lv_if_ne (tgt := 69) hx hb dX2_passSum_64 rfl (fun c_37 => ?_) (fun c_37 => ?_)
        · have c_37 : r_31.toInt ≠ 0 := xI_ne rfl rfl c_37
          refine lv_aload_n hx hb dX2_passSum_69 rfl (lv_at hl 2 rfl) ?_
          refine S_getV (n := 2) (C := RX2) (T := TX2) (N := 3) hx hb hg iX2 hown hK hW kd_4 rfl 1 (lt_b rfl) (hg (Cond.fieldLink RX2 15 "SlabWalk$Formulas" "paving" "LSlabWalk$Paving;") m302) (fun _ h9 => h9) rfl ((((hq_33.r9 4 1 rfl rfl).trans ((hq_27.r9 4 1 rfl rfl).trans ((hq_23.r9 4 1 rfl rfl).trans ((hq_9.r9 4 1 rfl rfl).trans (hq_3.r9 4 1 rfl rfl)))))).trans (hv_4_1)) dX2_passSum_70 ?_
          refine lv_iload_n hx hb dX2_passSum_73 rfl (lv_at hl 0 rfl) ?_
          refine ic_0 hx hb dX2_passSum_74 ?_
          refine S_callv (va_runV (As := [.int (G_8.1 3 3), .int 0]) (rest := []) ⟨hx, hb, hml, hown, hts⟩ (k_emit_2 l D k A a z G_32 (G_8.1 3 3) 0 ) (cwV 2 hts (gd_V hgd m855 m856 m857 m118 m858) rfl rfl rfl hd_X6_emit ⟨show 0 + 1 ≤ fn + 10 from sy_1 fn (Nat.le_of_ble_eq_true rfl), show 8 + (3 + 11) + (0) ≤ ln + 213 from sy_1 ln (Nat.le_of_ble_eq_true rfl)⟩) (pre_W hW hB_G_32 hK hZ hS kd_2 rfl) rfl rfl hl.1 rfl (lv_room (Nat.le_of_ble_eq_true rfl)) dX2_passSum_75 ⟨Nat.le_of_ble_eq_true rfl, Nat.le_of_ble_eq_true rfl⟩) hS (fun G_39 H locs hpo hW hS => ?_)
          have hX_42 : P_emit_2 (G_8.1 3 3) 0 G_32 G_39 := hpo
          obtain ⟨hB_G_39, hq_40, -⟩ := hpo
          have hF := hF.call9 hq_40 rfl rfl
          obtain ⟨y_43, ey_43⟩ : ∃ q, q = x_12 + 1 := ⟨_, rfl⟩
          have ty_43 : y_43.toInt = x_12.toInt + 1 := xI_add rfl rfl ey_43 ((by first | exact ok_21 f_15.1 | omega)) ((by first | exact ok_122 f_15.2 | omega))
          refine lv_iinc (v := y_43) (lv' := [(2, .int y_43), (3, .int (G_8.1 3 3)), (0, .ref (a 4)), (1, .int p0)]) hx hb dX2_passSum_78 hl (k := 1) rfl (by rw [ey_43]; rfl) (lt_b rfl) rfl (fun ls hl => ?_)
          refine lv_goto (tgt := 12) hx hb dX2_passSum_81 rfl ?_
          exact ih_10 (1600 - y_43.toInt : Int).toNat ((by first | (clear ha_p0 hd f_6 c_7 f_30 f_36 c_37; omega) | omega)) _ _ _ ⟨G_39, y_43, (Int.toNat_of_nonneg ((by first | exact ok_388 f_15.2 c_17 ty_43 | omega))), ⟨(by first | exact ok_23 f_15.1 ty_43 | omega), (by first | exact ok_389 f_15.2 c_17 ty_43 | omega)⟩, (hX_13.st (St_k_fSum_2_s_1_mk ⟨x_12, G_8, y_43, G_39, rfl, rfl, f_15, hB_G_8, ⟨c_17, ⟨G_21, hX_24, hB_G_21, hq_23, ⟨r_25, G_26, hX_29, ⟨r_31, G_32, hX_35, ⟨c_37, ⟨G_39, hX_42, ⟨y_43, ty_43, ⟨rfl, rfl⟩⟩⟩⟩⟩⟩⟩⟩⟩)), hW, hB_G_39, hF, (Fr.call9 (rs := [27]) (fs := [(2, 12), (2, 13), (3, 2), (3, 3), (3, 4), (3, 5), (3, 6), (3, 7), (3, 8), (4, 2)]) (Fr.call9 (rs := [27]) (fs := [(2, 12), (2, 13), (3, 2), (3, 3), (3, 4), (3, 5), (3, 6), (3, 7), (3, 8), (4, 2)]) (Fr.call9 (rs := [27]) (fs := [(2, 12), (2, 13), (3, 2), (3, 3), (3, 4), (3, 5), (3, 6), (3, 7), (3, 8), (4, 2)]) (Fr.call9 (rs := [27]) (fs := [(2, 12), (2, 13), (3, 2), (3, 3), (3, 4), (3, 5), (3, 6), (3, 7), (3, 8), (4, 2)]) (Fr.call9 (rs := [27]) (fs := [(2, 12), (2, 13), (3, 2), (3, 3), (3, 4), (3, 5), (3, 6), (3, 7), (3, 8), (4, 2)]) Fr.rf hq_9 rfl rfl) hq_23 rfl rfl) hq_27 rfl rfl) hq_33 rfl rfl) hq_40 rfl rfl), hS, lv_sub hl [0, 2, 3] rfl⟩
        · have c_37 : r_31.toInt = 0 := xI_eq rfl rfl c_37
          refine ic_0 hx hb dX2_passSum_67 ?_
          exact W.zret (v := 0) hx hb hr (by decide) (fun t ht _ => ⟨⟨0, G_32, rfl, (P_fSum_2_s_mk ⟨hB_G_32, hF, ⟨by decide, by decide⟩, ⟨r_1, G_2, hX_5, (Or.inr ⟨c_7, ⟨x_12, G_8, hX_13, f_15, hB_G_8, hq_9, (Or.inr ⟨c_17, (Or.inr ⟨G_21, hX_24, hB_G_21, hq_23, ⟨r_25, G_26, hX_29, ⟨r_31, G_32, hX_35, ⟨c_37, ⟨rfl, rfl⟩⟩⟩⟩⟩)⟩)⟩⟩)⟩⟩), wd_t ht hW⟩, hS.F ht⟩) hS.2.2 dX2_passSum_68
      refine lv_icmp_eq (tgt := 43) hx hb dX2_passSum_28 rfl (fun c_44 => ?_) (fun c_44 => ?_)
      · have c_44 : (G_8.1 3 3).toInt = 43 := xI_eq rfl rfl c_44
        exact hJ_22 () _ _ _ ⟨G_8, (Jn_k_fSum_2_s_2_mk (Or.inl ⟨c_44, rfl⟩)), hW, hB_G_8, hF, (Fr.rf (rs := []) (fs := [])), hS, lv_sub hl [0, 1, 2] rfl⟩
      · have c_44 : (G_8.1 3 3).toInt ≠ 43 := xI_ne rfl rfl c_44
        refine lv_aload_n hx hb dX2_passSum_31 rfl (lv_at hl 1 rfl) ?_
        refine S_getR (n := 3) (C := RX2) (T := TX2) (N := 3) hx hb hg iX2 hown hK hW kd_4 rfl 0 (lt_b rfl) (hg (Cond.fieldLink RX2 9 "SlabWalk$Formulas" "tokens" "LSlabWalk$Tokens;") m301) (fun _ h9 => h9) rfl dX2_passSum_32 ?_
        refine S_getI (v := (G_8.1 3 3)) (C := RX9) (T := TX9) (N := 9) hx hb hg iX9 hown hK hW kd_3 rfl 3 (lt_b rfl) (hg (Cond.fieldLink RX2 30 "SlabWalk$Tokens" "kind" "I") m263) (fun _ h9 => h9) rfl rfl dX2_passSum_35 ?_
        refine lv_bipush (v := 45) hx hb dX2_passSum_38 (by decide) ?_
        refine lv_icmp_ne (tgt := 84) hx hb dX2_passSum_40 rfl (fun c_45 => ?_) (fun c_45 => ?_)
        · have c_45 : (G_8.1 3 3).toInt ≠ 45 := xI_ne rfl rfl c_45
          refine ic_1 hx hb dX2_passSum_84 ?_
          exact W.zret (v := 1) hx hb hr (by decide) (fun t ht _ => ⟨⟨1, G_8, rfl, (P_fSum_2_s_mk ⟨hB_G_8, hF, ⟨by decide, by decide⟩, ⟨r_1, G_2, hX_5, (Or.inr ⟨c_7, ⟨x_12, G_8, hX_13, f_15, hB_G_8, hq_9, (Or.inr ⟨c_17, (Or.inl ⟨c_44, ⟨c_45, ⟨rfl, rfl⟩⟩⟩)⟩)⟩⟩)⟩⟩), wd_t ht hW⟩, hS.F ht⟩) hS.2.2 dX2_passSum_85
        · have c_45 : (G_8.1 3 3).toInt = 45 := xI_eq rfl rfl c_45
          exact hJ_22 () _ _ _ ⟨G_8, (Jn_k_fSum_2_s_2_mk (Or.inr ⟨c_44, ⟨c_45, rfl⟩⟩)), hW, hB_G_8, hF, (Fr.rf (rs := []) (fs := [])), hS, lv_sub hl [0, 1, 2] rfl⟩
  · have c_7 : r_1.toInt = 0 := xI_eq rfl rfl c_7
    refine ic_0 hx hb dX2_passSum_8 ?_
    exact W.zret (v := 0) hx hb hr (by decide) (fun t ht _ => ⟨⟨0, G_2, rfl, (P_fSum_2_s_mk ⟨hB_G_2, hF, ⟨by decide, by decide⟩, ⟨r_1, G_2, hX_5, (Or.inl ⟨c_7, ⟨rfl, rfl⟩⟩)⟩⟩), wd_t ht hW⟩, hS.F ht⟩) hS.2.2 dX2_passSum_9

set_option maxHeartbeats 4000000 in
set_option maxRecDepth 100000 in
theorem k_fRelation_2_s (l : Launch) (D : va_G) (k : KT) (A : Nat → Prop) (a : Nat → Nat) (z : SK) (fn ln n : Nat) (E O : XR) (hEb : ∀ (p0 : Int32) (G : GS) (r : Int32) (G1 : GS), E p0 G r G1 → Bd G1 ∧ Fr [27] [(2, 12), (2, 13), (3, 2), (3, 3), (3, 4), (3, 5), (3, 6), (3, 7), (3, 8), (4, 2)] G G1 ∧ (0 ≤ r.toInt ∧ r.toInt ≤ 1)) (hOb : ∀ (p0 : Int32) (G : GS) (r : Int32) (G1 : GS), O p0 G r G1 → Bd G1 ∧ Fr [27] [(2, 12), (2, 13), (3, 2), (3, 3), (3, 4), (3, 5), (3, 6), (3, 7), (3, 8), (4, 2)] G G1 ∧ (0 ≤ r.toInt ∧ r.toInt ≤ 1)) (hE : ∀ (G : GS) (p0 : Int32) (ha_p0 : 0 ≤ p0.toInt ∧ p0.toInt ≤ 7) (hv_4_1 : G.2.2 4 1 = 2) (hd : 8 ≤ p0.toInt + (n : Int)), Met l yX2_passEither (WS yX2_passEither cX2_passEither 3 (some .boolean)) ({ frames := fn + 2, cells := 0, slots := 0, locals := ln + 43 }) (va_Pc [.ref (a 4), .int p0] (cW D k A a z G)) (va_Qi (fun (r : Int32) (G1 : GS) => E p0 G r G1) (fun (G1 : GS) t => Wd D k A a G1 t.heap) A) 0 0 A) (hO : ∀ (G : GS) (p0 : Int32) (ha_p0 : 0 ≤ p0.toInt ∧ p0.toInt ≤ 7) (hv_4_1 : G.2.2 4 1 = 2) (hd : 8 ≤ p0.toInt + (n : Int)), Met l yX2_passOne (WS yX2_passOne cX2_passOne 2 (some .boolean)) ({ frames := fn + 0, cells := 0, slots := 0, locals := ln + 0 }) (va_Pc [.ref (a 4), .int p0] (cW D k A a z G)) (va_Qi (fun (r : Int32) (G1 : GS) => O p0 G r G1) (fun (G1 : GS) t => Wd D k A a G1 t.heap) A) 0 0 A) (G : GS) (p0 : Int32) (ha_p0 : 0 ≤ p0.toInt ∧ p0.toInt ≤ 7) (hv_4_1 : G.2.2 4 1 = 2) (hd : 8 ≤ p0.toInt + (n : Int) + 1) : Met l yX2_passRelation (WS yX2_passRelation cX2_passRelation 3 (some .boolean)) ({ frames := fn + 11, cells := 0, slots := 0, locals := ln + 236 }) (va_Pc [.ref (a 4), .int p0] (cW D k A a z G)) (va_Qi (fun (r : Int32) (G1 : GS) => P_fRelation_2_s E O p0 G r G1) (fun (G1 : GS) t => Wd D k A a G1 t.heap) A) 0 0 A := by
  refine Met.ofW (cc := cX2_passRelation) (maxL := 3) (ret := (some .boolean)) (by decide) rfl ?_
  intro p e s m args below meth c s₁ B hml hv
  obtain ⟨rfl, hW, hB_G, hK, hZ⟩ := hv
  have hx := B.exec
  have hb := B.bytes
  have hr := B.returns
  have hts := atoms_spec (ws := WS yX2_passRelation cX2_passRelation 3 (some .boolean)) B.pre
  have hgd : ∀ w ∈ gd, w ∈ WS yX2_passRelation cX2_passRelation 3 (some .boolean) := fun w h => List.mem_cons_of_mem _ h
  have hg : ∀ w ∈ gd, w.before _ s = true := fun w h => hts w (hgd w h)
  have hown : s.vm.findClass RX2 = some m.cls := findClass_of_methodNamed B.named
  have hS : va_S A s.heap s.heap [] := va_S.rf
  have hF : Fr [27] [(2, 12), (2, 13), (3, 2), (3, 3), (3, 4), (3, 5), (3, 6), (3, 7), (3, 8), (4, 2)] G G := Fr.rf
  have hl := lv_entry ([.ref (a 4), .int p0]) (n := 3) (Nat.le_of_ble_eq_true rfl)
  rw [lg_entry_eq]
  generalize (lg_sl ([.ref (a 4), .int p0]) ++ List.replicate (3 - (lg_sl ([.ref (a 4), .int p0])).length) Slot.unset).toArray = ls at hl ⊢
  have hl : lv_has ls 3 [(0, .ref (a 4)), (1, .int p0)] := hl
  refine lv_aload_n hx hb dX2_passRelation_0 rfl (lv_at hl 0 rfl) ?_
  refine lv_iload_n hx hb dX2_passRelation_1 rfl (lv_at hl 1 rfl) ?_
  refine S_calli (va_runV (As := [.int p0]) (rest := []) ⟨hx, hb, hml, hown, hts⟩ (k_fSum_2_s l D k A a z fn ln n E O hEb hOb hE hO G p0 ⟨(by first | exact ha_p0.1 | omega), (by first | exact ha_p0.2 | omega)⟩ hv_4_1 ((by first | exact hd | omega))) (cwV 1 hts (gd_V hgd m837 m839 m20 m121 m840) rfl rfl rfl hd_X2_passSum ⟨show fn + 10 + 1 ≤ fn + 11 from sy_2 fn (Nat.le_of_ble_eq_true rfl), show 8 + (4 + 11) + (ln + 213) ≤ ln + 236 from sy_3 ln (Nat.le_of_ble_eq_true rfl)⟩) (pre_W hW hB_G hK hZ hS kd_4 rfl) rfl rfl hl.1 rfl (lv_room (Nat.le_of_ble_eq_true rfl)) dX2_passRelation_2 ⟨Nat.le_of_ble_eq_true rfl, Nat.le_of_ble_eq_true rfl⟩) hS (fun r_1 G_2 H locs hpo hW hS => ?_)
  have hX_5 : P_fSum_2_s E O p0 G r_1 G_2 := hpo
  obtain ⟨hB_G_2, hq_3, f_6, -⟩ := hpo
  have hF := hF.call9 hq_3 rfl rfl
  refine lv_if_ne (tgt := 10) hx hb dX2_passRelation_5 rfl (fun c_7 => ?_) (fun c_7 => ?_)
  · have c_7 : r_1.toInt ≠ 0 := xI_ne rfl rfl c_7
    refine lv_aload_n hx hb dX2_passRelation_10 rfl (lv_at hl 0 rfl) ?_
    refine S_getR (n := 3) (C := RX2) (T := TX2) (N := 3) hx hb hg iX2 hown hK hW kd_4 rfl 0 (lt_b rfl) (hg (Cond.fieldLink RX2 9 "SlabWalk$Formulas" "tokens" "LSlabWalk$Tokens;") m301) (fun _ h9 => h9) rfl dX2_passRelation_11 ?_
    refine S_getI (v := (G_2.1 3 3)) (C := RX9) (T := TX9) (N := 9) hx hb hg iX9 hown hK hW kd_3 rfl 3 (lt_b rfl) (hg (Cond.fieldLink RX2 30 "SlabWalk$Tokens" "kind" "I") m263) (fun _ h9 => h9) rfl rfl dX2_passRelation_14 ?_
    refine lv_istore_n (lv' := [(2, .int (G_2.1 3 3)), (0, .ref (a 4)), (1, .int p0)]) hx hb dX2_passRelation_17 rfl hl (lt_b rfl) rfl (fun ls hl => ?_)
    refine lv_iload_n hx hb dX2_passRelation_18 rfl (lv_at hl 0 rfl) ?_
    refine lv_bipush (v := 60) hx hb dX2_passRelation_19 (by decide) ?_
    refine W.cut (σ := Unit) (pcJ := 38) (J := fun y H locs ls => ∃ (G_11 : GS), Jn_k_fRelation_2_s_1 E O G_2 G_11 ∧ Wd D k A a G_11 H ∧ Bd G_11 ∧ Fr [27] [(2, 12), (2, 13), (3, 2), (3, 3), (3, 4), (3, 5), (3, 6), (3, 7), (3, 8), (4, 2)] G G_11 ∧ Fr [] [] G_2 G_11 ∧ va_S A s.heap H locs ∧ lv_has ls 3 [(2, .int (G_2.1 3 3)), (0, .ref (a 4)), (1, .int p0)]) (stJ := fun _ => []) ?_ (fun hJ_12 => ?_)
    · intro y H locs ls hI
      obtain ⟨G_11, hX_14, hW, hB_G_11, hF, hq_13, hS, hl⟩ := hI
      refine lv_aload_n hx hb dX2_passRelation_38 rfl (lv_at hl 1 rfl) ?_
      refine S_getR (n := 3) (C := RX2) (T := TX2) (N := 3) hx hb hg iX2 hown hK hW kd_4 rfl 0 (lt_b rfl) (hg (Cond.fieldLink RX2 9 "SlabWalk$Formulas" "tokens" "LSlabWalk$Tokens;") m301) (fun _ h9 => h9) rfl dX2_passRelation_39 ?_
      refine S_calli (va_runV (As := []) (rest := []) ⟨hx, hb, hml, hown, hts⟩ (k_tAdvance l D k A a z G_11  ) (cwV 0 hts (gd_V hgd m854 m639 m640 m120 m641) rfl rfl rfl hd_X9_advance ⟨show 6 + 1 ≤ fn + 11 from sy_1 fn (Nat.le_of_ble_eq_true rfl), show 8 + (2 + 11) + (127) ≤ ln + 236 from sy_1 ln (Nat.le_of_ble_eq_true rfl)⟩) (pre_W hW hB_G_11 hK hZ hS kd_3 rfl) rfl rfl hl.1 rfl (lv_room (Nat.le_of_ble_eq_true rfl)) dX2_passRelation_42 ⟨Nat.le_of_ble_eq_true rfl, Nat.le_of_ble_eq_true rfl⟩) hS (fun r_15 G_16 H locs hpo hW hS => ?_)
      have hX_19 : P_tAdvance G_11 r_15 G_16 := hpo
      obtain ⟨hB_G_16, hq_17, f_20, -⟩ := hpo
      have hF := hF.call9 hq_17 rfl rfl
      refine lv_pop hx hb dX2_passRelation_45 rfl ?_
      refine lv_aload_n hx hb dX2_passRelation_46 rfl (lv_at hl 1 rfl) ?_
      refine lv_iload_n hx hb dX2_passRelation_47 rfl (lv_at hl 2 rfl) ?_
      refine S_calli (va_runV (As := [.int p0]) (rest := []) ⟨hx, hb, hml, hown, hts⟩ (k_fSum_2_s l D k A a z fn ln n E O hEb hOb hE hO G_16 p0 ⟨(by first | exact ha_p0.1 | omega), (by first | exact ha_p0.2 | omega)⟩ ((((hq_17.r9 4 1 rfl rfl).trans ((hq_13.r9 4 1 rfl rfl).trans (hq_3.r9 4 1 rfl rfl)))).trans (hv_4_1)) ((by first | exact hd | omega))) (cwV 1 hts (gd_V hgd m837 m839 m20 m121 m840) rfl rfl rfl hd_X2_passSum ⟨show fn + 10 + 1 ≤ fn + 11 from sy_2 fn (Nat.le_of_ble_eq_true rfl), show 8 + (4 + 11) + (ln + 213) ≤ ln + 236 from sy_3 ln (Nat.le_of_ble_eq_true rfl)⟩) (pre_W hW hB_G_16 hK hZ hS kd_4 rfl) rfl rfl hl.1 rfl (lv_room (Nat.le_of_ble_eq_true rfl)) dX2_passRelation_48 ⟨Nat.le_of_ble_eq_true rfl, Nat.le_of_ble_eq_true rfl⟩) hS (fun r_21 G_22 H locs hpo hW hS => ?_)
      have hX_25 : P_fSum_2_s E O p0 G_16 r_21 G_22 := hpo
      obtain ⟨hB_G_22, hq_23, f_26, -⟩ := hpo
      have hF := hF.call9 hq_23 rfl rfl
      refine lv_if_ne (tgt := 56) hx hb dX2_passRelation_51 rfl (fun c_27 => ?_) (fun c_27 => ?_)
      · have c_27 : r_21.toInt ≠ 0 := xI_ne rfl rfl c_27
        refine lv_aload_n hx hb dX2_passRelation_56 rfl (lv_at hl 1 rfl) ?_
        refine S_getV (n := 2) (C := RX2) (T := TX2) (N := 3) hx hb hg iX2 hown hK hW kd_4 rfl 1 (lt_b rfl) (hg (Cond.fieldLink RX2 15 "SlabWalk$Formulas" "paving" "LSlabWalk$Paving;") m302) (fun _ h9 => h9) rfl ((((hq_23.r9 4 1 rfl rfl).trans ((hq_17.r9 4 1 rfl rfl).trans ((hq_13.r9 4 1 rfl rfl).trans (hq_3.r9 4 1 rfl rfl))))).trans (hv_4_1)) dX2_passRelation_57 ?_
        refine lv_iload_n hx hb dX2_passRelation_60 rfl (lv_at hl 0 rfl) ?_
        refine ic_0 hx hb dX2_passRelation_61 ?_
        refine S_callv (va_runV (As := [.int (G_2.1 3 3), .int 0]) (rest := []) ⟨hx, hb, hml, hown, hts⟩ (k_emit_2 l D k A a z G_22 (G_2.1 3 3) 0 ) (cwV 2 hts (gd_V hgd m855 m856 m857 m118 m858) rfl rfl rfl hd_X6_emit ⟨show 0 + 1 ≤ fn + 11 from sy_1 fn (Nat.le_of_ble_eq_true rfl), show 8 + (3 + 11) + (0) ≤ ln + 236 from sy_1 ln (Nat.le_of_ble_eq_true rfl)⟩) (pre_W hW hB_G_22 hK hZ hS kd_2 rfl) rfl rfl hl.1 rfl (lv_room (Nat.le_of_ble_eq_true rfl)) dX2_passRelation_62 ⟨Nat.le_of_ble_eq_true rfl, Nat.le_of_ble_eq_true rfl⟩) hS (fun G_29 H locs hpo hW hS => ?_)
        have hX_32 : P_emit_2 (G_2.1 3 3) 0 G_22 G_29 := hpo
        obtain ⟨hB_G_29, hq_30, -⟩ := hpo
        have hF := hF.call9 hq_30 rfl rfl
        refine ic_1 hx hb dX2_passRelation_65 ?_
        exact W.zret (v := 1) hx hb hr (by decide) (fun t ht _ => ⟨⟨1, G_29, rfl, (P_fRelation_2_s_mk ⟨hB_G_29, hF, ⟨by decide, by decide⟩, ⟨r_1, G_2, hX_5, (Or.inr ⟨c_7, (Or.inr ⟨G_11, hX_14, hB_G_11, hq_13, ⟨r_15, G_16, hX_19, ⟨r_21, G_22, hX_25, (Or.inr ⟨c_27, ⟨G_29, hX_32, ⟨rfl, rfl⟩⟩⟩)⟩⟩⟩)⟩)⟩⟩), wd_t ht hW⟩, hS.F ht⟩) hS.2.2 dX2_passRelation_66
      · have c_27 : r_21.toInt = 0 := xI_eq rfl rfl c_27
        refine ic_0 hx hb dX2_passRelation_54 ?_
        exact W.zret (v := 0) hx hb hr (by decide) (fun t ht _ => ⟨⟨0, G_22, rfl, (P_fRelation_2_s_mk ⟨hB_G_22, hF, ⟨by decide, by decide⟩, ⟨r_1, G_2, hX_5, (Or.inr ⟨c_7, (Or.inr ⟨G_11, hX_14, hB_G_11, hq_13, ⟨r_15, G_16, hX_19, ⟨r_21, G_22, hX_25, (Or.inl ⟨c_27, ⟨rfl, rfl⟩⟩)⟩⟩⟩)⟩)⟩⟩), wd_t ht hW⟩, hS.F ht⟩) hS.2.2 dX2_passRelation_55
    refine lv_icmp_eq (tgt := 38) hx hb dX2_passRelation_21 rfl (fun c_33 => ?_) (fun c_33 => ?_)
    · have c_33 : (G_2.1 3 3).toInt = 60 := xI_eq rfl rfl c_33
      exact hJ_12 () _ _ _ ⟨G_2, (Jn_k_fRelation_2_s_1_mk (Or.inl ⟨c_33, rfl⟩)), hW, hB_G_2, hF, (Fr.rf (rs := []) (fs := [])), hS, lv_sub hl [0, 1, 2] rfl⟩
    · have c_33 : (G_2.1 3 3).toInt ≠ 60 := xI_ne rfl rfl c_33
      refine lv_iload_n hx hb dX2_passRelation_24 rfl (lv_at hl 0 rfl) ?_
      refine lv_bipush (v := 62) hx hb dX2_passRelation_25 (by decide) ?_
      refine lv_icmp_eq (tgt := 38) hx hb dX2_passRelation_27 rfl (fun c_34 => ?_) (fun c_34 => ?_)
      · have c_34 : (G_2.1 3 3).toInt = 62 := xI_eq rfl rfl c_34
        exact hJ_12 () _ _ _ ⟨G_2, (Jn_k_fRelation_2_s_1_mk (Or.inr ⟨c_33, (Or.inl ⟨c_34, rfl⟩)⟩)), hW, hB_G_2, hF, (Fr.rf (rs := []) (fs := [])), hS, lv_sub hl [0, 1, 2] rfl⟩
      · have c_34 : (G_2.1 3 3).toInt ≠ 62 := xI_ne rfl rfl c_34
        refine lv_iload_n hx hb dX2_passRelation_30 rfl (lv_at hl 0 rfl) ?_
        refine lv_bipush (v := 61) hx hb dX2_passRelation_31 (by decide) ?_
        refine lv_icmp_eq (tgt := 38) hx hb dX2_passRelation_33 rfl (fun c_35 => ?_) (fun c_35 => ?_)
        · have c_35 : (G_2.1 3 3).toInt = 61 := xI_eq rfl rfl c_35
          exact hJ_12 () _ _ _ ⟨G_2, (Jn_k_fRelation_2_s_1_mk (Or.inr ⟨c_33, (Or.inr ⟨c_34, ⟨c_35, rfl⟩⟩)⟩)), hW, hB_G_2, hF, (Fr.rf (rs := []) (fs := [])), hS, lv_sub hl [0, 1, 2] rfl⟩
        · have c_35 : (G_2.1 3 3).toInt ≠ 61 := xI_ne rfl rfl c_35
          refine ic_1 hx hb dX2_passRelation_36 ?_
          exact W.zret (v := 1) hx hb hr (by decide) (fun t ht _ => ⟨⟨1, G_2, rfl, (P_fRelation_2_s_mk ⟨hB_G_2, hF, ⟨by decide, by decide⟩, ⟨r_1, G_2, hX_5, (Or.inr ⟨c_7, (Or.inl ⟨c_33, ⟨c_34, ⟨c_35, ⟨rfl, rfl⟩⟩⟩⟩)⟩)⟩⟩), wd_t ht hW⟩, hS.F ht⟩) hS.2.2 dX2_passRelation_37
  · have c_7 : r_1.toInt = 0 := xI_eq rfl rfl c_7
    refine ic_0 hx hb dX2_passRelation_8 ?_
    exact W.zret (v := 0) hx hb hr (by decide) (fun t ht _ => ⟨⟨0, G_2, rfl, (P_fRelation_2_s_mk ⟨hB_G_2, hF, ⟨by decide, by decide⟩, ⟨r_1, G_2, hX_5, (Or.inl ⟨c_7, ⟨rfl, rfl⟩⟩)⟩⟩), wd_t ht hW⟩, hS.F ht⟩) hS.2.2 dX2_passRelation_9

set_option maxHeartbeats 4000000 in
set_option maxRecDepth 100000 in
theorem k_fOne_2_s (l : Launch) (D : va_G) (k : KT) (A : Nat → Prop) (a : Nat → Nat) (z : SK) (fn ln n : Nat) (E O : XR) (hEb : ∀ (p0 : Int32) (G : GS) (r : Int32) (G1 : GS), E p0 G r G1 → Bd G1 ∧ Fr [27] [(2, 12), (2, 13), (3, 2), (3, 3), (3, 4), (3, 5), (3, 6), (3, 7), (3, 8), (4, 2)] G G1 ∧ (0 ≤ r.toInt ∧ r.toInt ≤ 1)) (hOb : ∀ (p0 : Int32) (G : GS) (r : Int32) (G1 : GS), O p0 G r G1 → Bd G1 ∧ Fr [27] [(2, 12), (2, 13), (3, 2), (3, 3), (3, 4), (3, 5), (3, 6), (3, 7), (3, 8), (4, 2)] G G1 ∧ (0 ≤ r.toInt ∧ r.toInt ≤ 1)) (hE : ∀ (G : GS) (p0 : Int32) (ha_p0 : 0 ≤ p0.toInt ∧ p0.toInt ≤ 7) (hv_4_1 : G.2.2 4 1 = 2) (hd : 8 ≤ p0.toInt + (n : Int)), Met l yX2_passEither (WS yX2_passEither cX2_passEither 3 (some .boolean)) ({ frames := fn + 2, cells := 0, slots := 0, locals := ln + 43 }) (va_Pc [.ref (a 4), .int p0] (cW D k A a z G)) (va_Qi (fun (r : Int32) (G1 : GS) => E p0 G r G1) (fun (G1 : GS) t => Wd D k A a G1 t.heap) A) 0 0 A) (hO : ∀ (G : GS) (p0 : Int32) (ha_p0 : 0 ≤ p0.toInt ∧ p0.toInt ≤ 7) (hv_4_1 : G.2.2 4 1 = 2) (hd : 8 ≤ p0.toInt + (n : Int)), Met l yX2_passOne (WS yX2_passOne cX2_passOne 2 (some .boolean)) ({ frames := fn + 0, cells := 0, slots := 0, locals := ln + 0 }) (va_Pc [.ref (a 4), .int p0] (cW D k A a z G)) (va_Qi (fun (r : Int32) (G1 : GS) => O p0 G r G1) (fun (G1 : GS) t => Wd D k A a G1 t.heap) A) 0 0 A) (G : GS) (p0 : Int32) (ha_p0 : 0 ≤ p0.toInt ∧ p0.toInt ≤ 7) (hv_4_1 : G.2.2 4 1 = 2) (hd : 8 ≤ p0.toInt + (n : Int) + 1) : Met l yX2_passOne (WS yX2_passOne cX2_passOne 2 (some .boolean)) ({ frames := fn + 12, cells := 0, slots := 0, locals := ln + 258 }) (va_Pc [.ref (a 4), .int p0] (cW D k A a z G)) (va_Qi (fun (r : Int32) (G1 : GS) => P_fOne_2_s E O p0 G r G1) (fun (G1 : GS) t => Wd D k A a G1 t.heap) A) 0 0 A := by
  refine Met.ofW (cc := cX2_passOne) (maxL := 2) (ret := (some .boolean)) (by decide) rfl ?_
  intro p e s m args below meth c s₁ B hml hv
  obtain ⟨rfl, hW, hB_G, hK, hZ⟩ := hv
  have hx := B.exec
  have hb := B.bytes
  have hr := B.returns
  have hts := atoms_spec (ws := WS yX2_passOne cX2_passOne 2 (some .boolean)) B.pre
  have hgd : ∀ w ∈ gd, w ∈ WS yX2_passOne cX2_passOne 2 (some .boolean) := fun w h => List.mem_cons_of_mem _ h
  have hg : ∀ w ∈ gd, w.before _ s = true := fun w h => hts w (hgd w h)
  have hown : s.vm.findClass RX2 = some m.cls := findClass_of_methodNamed B.named
  have hS : va_S A s.heap s.heap [] := va_S.rf
  have hF : Fr [27] [(2, 12), (2, 13), (3, 2), (3, 3), (3, 4), (3, 5), (3, 6), (3, 7), (3, 8), (4, 2)] G G := Fr.rf
  have hl := lv_entry ([.ref (a 4), .int p0]) (n := 2) (Nat.le_of_ble_eq_true rfl)
  rw [lg_entry_eq]
  generalize (lg_sl ([.ref (a 4), .int p0]) ++ List.replicate (2 - (lg_sl ([.ref (a 4), .int p0])).length) Slot.unset).toArray = ls at hl ⊢
  have hl : lv_has ls 2 [(0, .ref (a 4)), (1, .int p0)] := hl
  refine lv_aload_n hx hb dX2_passOne_0 rfl (lv_at hl 0 rfl) ?_
  refine S_getR (n := 3) (C := RX2) (T := TX2) (N := 3) hx hb hg iX2 hown hK hW kd_4 rfl 0 (lt_b rfl) (hg (Cond.fieldLink RX2 9 "SlabWalk$Formulas" "tokens" "LSlabWalk$Tokens;") m301) (fun _ h9 => h9) rfl dX2_passOne_1 ?_
  refine S_getI (v := (G.1 3 3)) (C := RX9) (T := TX9) (N := 9) hx hb hg iX9 hown hK hW kd_3 rfl 3 (lt_b rfl) (hg (Cond.fieldLink RX2 30 "SlabWalk$Tokens" "kind" "I") m263) (fun _ h9 => h9) rfl rfl dX2_passOne_4 ?_
  refine lv_sipush (v := 146) hx hb dX2_passOne_7 (by decide) ?_
  refine lv_icmp_eq (tgt := 19) hx hb dX2_passOne_10 rfl (fun c_1 => ?_) (fun c_1 => ?_)
  · have c_1 : (G.1 3 3).toInt = 146 := xI_eq rfl rfl c_1
    refine lv_iload_n hx hb dX2_passOne_19 rfl (lv_at hl 1 rfl) ?_
    refine lv_bipush (v := 6) hx hb dX2_passOne_20 (by decide) ?_
    refine lv_icmp_le (tgt := 34) hx hb dX2_passOne_22 rfl (fun c_2 => ?_) (fun c_2 => ?_)
    · have c_2 : p0.toInt ≤ 6 := xI_le rfl rfl c_2
      refine lv_aload_n hx hb dX2_passOne_34 rfl (lv_at hl 0 rfl) ?_
      refine S_getR (n := 3) (C := RX2) (T := TX2) (N := 3) hx hb hg iX2 hown hK hW kd_4 rfl 0 (lt_b rfl) (hg (Cond.fieldLink RX2 9 "SlabWalk$Formulas" "tokens" "LSlabWalk$Tokens;") m301) (fun _ h9 => h9) rfl dX2_passOne_35 ?_
      refine S_calli (va_runV (As := []) (rest := []) ⟨hx, hb, hml, hown, hts⟩ (k_tAdvance l D k A a z G  ) (cwV 0 hts (gd_V hgd m854 m639 m640 m120 m641) rfl rfl rfl hd_X9_advance ⟨show 6 + 1 ≤ fn + 12 from sy_1 fn (Nat.le_of_ble_eq_true rfl), show 8 + (2 + 11) + (127) ≤ ln + 258 from sy_1 ln (Nat.le_of_ble_eq_true rfl)⟩) (pre_W hW hB_G hK hZ hS kd_3 rfl) rfl rfl hl.1 rfl (lv_room (Nat.le_of_ble_eq_true rfl)) dX2_passOne_38 ⟨Nat.le_of_ble_eq_true rfl, Nat.le_of_ble_eq_true rfl⟩) hS (fun r_3 G_4 H locs hpo hW hS => ?_)
      have hX_7 : P_tAdvance G r_3 G_4 := hpo
      obtain ⟨hB_G_4, hq_5, f_8, -⟩ := hpo
      have hF := hF.call9 hq_5 rfl rfl
      refine lv_pop hx hb dX2_passOne_41 rfl ?_
      refine lv_aload_n hx hb dX2_passOne_42 rfl (lv_at hl 0 rfl) ?_
      refine lv_iload_n hx hb dX2_passOne_43 rfl (lv_at hl 1 rfl) ?_
      refine ic_1 hx hb dX2_passOne_44 ?_
      refine lv_iadd hx hb dX2_passOne_45 ?_
      refine lv_topi (fun y_9 ey_9 => ?_)
      have ty_9 : y_9.toInt = p0.toInt + 1 := xI_add rfl rfl ey_9 ((by first | exact ok_21 ha_p0.1 | omega)) ((by first | exact ok_381 ha_p0.2 | omega))
      refine S_calli (va_runV (As := [.int y_9]) (rest := []) ⟨hx, hb, hml, hown, hts⟩ (hO G_4 y_9 ⟨(by first | exact ok_23 ha_p0.1 ty_9 | omega), (by first | exact ok_382 ha_p0.2 c_2 ty_9 | omega)⟩ (((hq_5.r9 4 1 rfl rfl)).trans (hv_4_1)) ((by first | exact ok_383 hd ty_9 | omega))) (cwV 1 hts (gd_V hgd m829 m831 m18 m121 m832) rfl rfl rfl hd_X2_passOne ⟨show fn + 0 + 1 ≤ fn + 12 from by omega, show 8 + (2 + 11) + (ln + 0) ≤ ln + 258 from by omega⟩) (pre_W hW hB_G_4 hK hZ hS kd_4 rfl) rfl rfl hl.1 rfl (lv_room (Nat.le_of_ble_eq_true rfl)) dX2_passOne_46 ⟨Nat.le_of_ble_eq_true rfl, Nat.le_of_ble_eq_true rfl⟩) hS (fun r_10 G_11 H locs hpo hW hS => ?_)
      have hX_14 : O y_9 G_4 r_10 G_11 := hpo
      obtain ⟨hB_G_11, hq_12, f_15⟩ := hOb _ _ _ _ hpo
      have hF := hF.call9 hq_12 rfl rfl
      refine lv_if_ne (tgt := 54) hx hb dX2_passOne_49 rfl (fun c_16 => ?_) (fun c_16 => ?_)
      · have c_16 : r_10.toInt ≠ 0 := xI_ne rfl rfl c_16
        refine lv_aload_n hx hb dX2_passOne_54 rfl (lv_at hl 0 rfl) ?_
        refine S_getV (n := 2) (C := RX2) (T := TX2) (N := 3) hx hb hg iX2 hown hK hW kd_4 rfl 1 (lt_b rfl) (hg (Cond.fieldLink RX2 15 "SlabWalk$Formulas" "paving" "LSlabWalk$Paving;") m302) (fun _ h9 => h9) rfl ((((hq_12.r9 4 1 rfl rfl).trans (hq_5.r9 4 1 rfl rfl))).trans (hv_4_1)) dX2_passOne_55 ?_
        refine lv_sipush (v := 146) hx hb dX2_passOne_58 (by decide) ?_
        refine ic_0 hx hb dX2_passOne_61 ?_
        refine S_callv (va_runV (As := [.int 146, .int 0]) (rest := []) ⟨hx, hb, hml, hown, hts⟩ (k_emit_2 l D k A a z G_11 146 0 ) (cwV 2 hts (gd_V hgd m855 m856 m857 m118 m858) rfl rfl rfl hd_X6_emit ⟨show 0 + 1 ≤ fn + 12 from sy_1 fn (Nat.le_of_ble_eq_true rfl), show 8 + (3 + 11) + (0) ≤ ln + 258 from sy_1 ln (Nat.le_of_ble_eq_true rfl)⟩) (pre_W hW hB_G_11 hK hZ hS kd_2 rfl) rfl rfl hl.1 rfl (lv_room (Nat.le_of_ble_eq_true rfl)) dX2_passOne_62 ⟨Nat.le_of_ble_eq_true rfl, Nat.le_of_ble_eq_true rfl⟩) hS (fun G_18 H locs hpo hW hS => ?_)
        have hX_21 : P_emit_2 146 0 G_11 G_18 := hpo
        obtain ⟨hB_G_18, hq_19, -⟩ := hpo
        have hF := hF.call9 hq_19 rfl rfl
        refine ic_1 hx hb dX2_passOne_65 ?_
        exact W.zret (v := 1) hx hb hr (by decide) (fun t ht _ => ⟨⟨1, G_18, rfl, (P_fOne_2_s_mk ⟨hB_G_18, hF, ⟨by decide, by decide⟩, (Or.inl ⟨c_1, (Or.inl ⟨c_2, ⟨r_3, G_4, hX_7, ⟨y_9, ty_9, ⟨r_10, G_11, hX_14, (Or.inr ⟨c_16, ⟨G_18, hX_21, ⟨rfl, rfl⟩⟩⟩)⟩⟩⟩⟩)⟩)⟩), wd_t ht hW⟩, hS.F ht⟩) hS.2.2 dX2_passOne_66
      · have c_16 : r_10.toInt = 0 := xI_eq rfl rfl c_16
        refine ic_0 hx hb dX2_passOne_52 ?_
        exact W.zret (v := 0) hx hb hr (by decide) (fun t ht _ => ⟨⟨0, G_11, rfl, (P_fOne_2_s_mk ⟨hB_G_11, hF, ⟨by decide, by decide⟩, (Or.inl ⟨c_1, (Or.inl ⟨c_2, ⟨r_3, G_4, hX_7, ⟨y_9, ty_9, ⟨r_10, G_11, hX_14, (Or.inl ⟨c_16, ⟨rfl, rfl⟩⟩)⟩⟩⟩⟩)⟩)⟩), wd_t ht hW⟩, hS.F ht⟩) hS.2.2 dX2_passOne_53
    · have c_2 : 6 < p0.toInt := xI_nle rfl rfl c_2
      refine lv_aload_n hx hb dX2_passOne_25 rfl (lv_at hl 0 rfl) ?_
      refine S_getR (n := 3) (C := RX2) (T := TX2) (N := 3) hx hb hg iX2 hown hK hW kd_4 rfl 0 (lt_b rfl) (hg (Cond.fieldLink RX2 9 "SlabWalk$Formulas" "tokens" "LSlabWalk$Tokens;") m301) (fun _ h9 => h9) rfl dX2_passOne_26 ?_
      refine ic_2 hx hb dX2_passOne_29 ?_
      refine S_calli (va_runV (As := [.int 2]) (rest := []) ⟨hx, hb, hml, hown, hts⟩ (k_tRefuse l D k A a z G 2 ⟨by decide, by decide⟩) (cwV 1 hts (gd_V hgd m849 m779 m780 m120 m781) rfl rfl rfl hd_X9_refuse ⟨show 0 + 1 ≤ fn + 12 from sy_1 fn (Nat.le_of_ble_eq_true rfl), show 8 + (2 + 11) + (0) ≤ ln + 258 from sy_1 ln (Nat.le_of_ble_eq_true rfl)⟩) (pre_W hW hB_G hK hZ hS kd_3 rfl) rfl rfl hl.1 rfl (lv_room (Nat.le_of_ble_eq_true rfl)) dX2_passOne_30 ⟨Nat.le_of_ble_eq_true rfl, Nat.le_of_ble_eq_true rfl⟩) hS (fun r_22 G_23 H locs hpo hW hS => ?_)
      have hX_26 : P_tRefuse 2 G r_22 G_23 := hpo
      obtain ⟨hB_G_23, hq_24, f_27, -⟩ := hpo
      have hF := hF.call9 hq_24 rfl rfl
      exact W.zret (v := r_22) hx hb hr (nar_z ((by first | exact f_27.1 | omega)) ((by first | exact ok_130 f_27.2 | omega))) (fun t ht _ => ⟨⟨r_22, G_23, rfl, (P_fOne_2_s_mk ⟨hB_G_23, hF, ⟨(by first | exact f_27.1 | omega), (by first | exact ok_130 f_27.2 | omega)⟩, (Or.inl ⟨c_1, (Or.inr ⟨c_2, ⟨r_22, G_23, hX_26, ⟨rfl, rfl⟩⟩⟩)⟩)⟩), wd_t ht hW⟩, hS.F ht⟩) hS.2.2 dX2_passOne_33
  · have c_1 : (G.1 3 3).toInt ≠ 146 := xI_ne rfl rfl c_1
    refine lv_aload_n hx hb dX2_passOne_13 rfl (lv_at hl 0 rfl) ?_
    refine lv_iload_n hx hb dX2_passOne_14 rfl (lv_at hl 1 rfl) ?_
    refine S_calli (va_runV (As := [.int p0]) (rest := []) ⟨hx, hb, hml, hown, hts⟩ (k_fRelation_2_s l D k A a z fn ln n E O hEb hOb hE hO G p0 ⟨(by first | exact ha_p0.1 | omega), (by first | exact ha_p0.2 | omega)⟩ hv_4_1 ((by first | exact hd | omega))) (cwV 1 hts (gd_V hgd m833 m835 m19 m121 m836) rfl rfl rfl hd_X2_passRelation ⟨show fn + 11 + 1 ≤ fn + 12 from sy_2 fn (Nat.le_of_ble_eq_true rfl), show 8 + (3 + 11) + (ln + 236) ≤ ln + 258 from sy_3 ln (Nat.le_of_ble_eq_true rfl)⟩) (pre_W hW hB_G hK hZ hS kd_4 rfl) rfl rfl hl.1 rfl (lv_room (Nat.le_of_ble_eq_true rfl)) dX2_passOne_15 ⟨Nat.le_of_ble_eq_true rfl, Nat.le_of_ble_eq_true rfl⟩) hS (fun r_28 G_29 H locs hpo hW hS => ?_)
    have hX_32 : P_fRelation_2_s E O p0 G r_28 G_29 := hpo
    obtain ⟨hB_G_29, hq_30, f_33, -⟩ := hpo
    have hF := hF.call9 hq_30 rfl rfl
    exact W.zret (v := r_28) hx hb hr (nar_z ((by first | exact f_33.1 | omega)) ((by first | exact f_33.2 | omega))) (fun t ht _ => ⟨⟨r_28, G_29, rfl, (P_fOne_2_s_mk ⟨hB_G_29, hF, ⟨(by first | exact f_33.1 | omega), (by first | exact f_33.2 | omega)⟩, (Or.inr ⟨c_1, ⟨r_28, G_29, hX_32, ⟨rfl, rfl⟩⟩⟩)⟩), wd_t ht hW⟩, hS.F ht⟩) hS.2.2 dX2_passOne_18

set_option maxHeartbeats 4000000 in
set_option maxRecDepth 100000 in
theorem k_fBoth_2_s (l : Launch) (D : va_G) (k : KT) (A : Nat → Prop) (a : Nat → Nat) (z : SK) (fn ln n : Nat) (E O : XR) (hEb : ∀ (p0 : Int32) (G : GS) (r : Int32) (G1 : GS), E p0 G r G1 → Bd G1 ∧ Fr [27] [(2, 12), (2, 13), (3, 2), (3, 3), (3, 4), (3, 5), (3, 6), (3, 7), (3, 8), (4, 2)] G G1 ∧ (0 ≤ r.toInt ∧ r.toInt ≤ 1)) (hOb : ∀ (p0 : Int32) (G : GS) (r : Int32) (G1 : GS), O p0 G r G1 → Bd G1 ∧ Fr [27] [(2, 12), (2, 13), (3, 2), (3, 3), (3, 4), (3, 5), (3, 6), (3, 7), (3, 8), (4, 2)] G G1 ∧ (0 ≤ r.toInt ∧ r.toInt ≤ 1)) (hE : ∀ (G : GS) (p0 : Int32) (ha_p0 : 0 ≤ p0.toInt ∧ p0.toInt ≤ 7) (hv_4_1 : G.2.2 4 1 = 2) (hd : 8 ≤ p0.toInt + (n : Int)), Met l yX2_passEither (WS yX2_passEither cX2_passEither 3 (some .boolean)) ({ frames := fn + 2, cells := 0, slots := 0, locals := ln + 43 }) (va_Pc [.ref (a 4), .int p0] (cW D k A a z G)) (va_Qi (fun (r : Int32) (G1 : GS) => E p0 G r G1) (fun (G1 : GS) t => Wd D k A a G1 t.heap) A) 0 0 A) (hO : ∀ (G : GS) (p0 : Int32) (ha_p0 : 0 ≤ p0.toInt ∧ p0.toInt ≤ 7) (hv_4_1 : G.2.2 4 1 = 2) (hd : 8 ≤ p0.toInt + (n : Int)), Met l yX2_passOne (WS yX2_passOne cX2_passOne 2 (some .boolean)) ({ frames := fn + 0, cells := 0, slots := 0, locals := ln + 0 }) (va_Pc [.ref (a 4), .int p0] (cW D k A a z G)) (va_Qi (fun (r : Int32) (G1 : GS) => O p0 G r G1) (fun (G1 : GS) t => Wd D k A a G1 t.heap) A) 0 0 A) (G : GS) (p0 : Int32) (ha_p0 : 0 ≤ p0.toInt ∧ p0.toInt ≤ 7) (hv_4_1 : G.2.2 4 1 = 2) (hd : 8 ≤ p0.toInt + (n : Int) + 1) : Met l yX2_passBoth (WS yX2_passBoth cX2_passBoth 3 (some .boolean)) ({ frames := fn + 13, cells := 0, slots := 0, locals := ln + 279 }) (va_Pc [.ref (a 4), .int p0] (cW D k A a z G)) (va_Qi (fun (r : Int32) (G1 : GS) => P_fBoth_2_s E O p0 G r G1) (fun (G1 : GS) t => Wd D k A a G1 t.heap) A) 0 0 A := by
  refine Met.ofW (cc := cX2_passBoth) (maxL := 3) (ret := (some .boolean)) (by decide) rfl ?_
  intro p e s m args below meth c s₁ B hml hv
  obtain ⟨rfl, hW, hB_G, hK, hZ⟩ := hv
  have hx := B.exec
  have hb := B.bytes
  have hr := B.returns
  have hts := atoms_spec (ws := WS yX2_passBoth cX2_passBoth 3 (some .boolean)) B.pre
  have hgd : ∀ w ∈ gd, w ∈ WS yX2_passBoth cX2_passBoth 3 (some .boolean) := fun w h => List.mem_cons_of_mem _ h
  have hg : ∀ w ∈ gd, w.before _ s = true := fun w h => hts w (hgd w h)
  have hown : s.vm.findClass RX2 = some m.cls := findClass_of_methodNamed B.named
  have hS : va_S A s.heap s.heap [] := va_S.rf
  have hF : Fr [27] [(2, 12), (2, 13), (3, 2), (3, 3), (3, 4), (3, 5), (3, 6), (3, 7), (3, 8), (4, 2)] G G := Fr.rf
  have hl := lv_entry ([.ref (a 4), .int p0]) (n := 3) (Nat.le_of_ble_eq_true rfl)
  rw [lg_entry_eq]
  generalize (lg_sl ([.ref (a 4), .int p0]) ++ List.replicate (3 - (lg_sl ([.ref (a 4), .int p0])).length) Slot.unset).toArray = ls at hl ⊢
  have hl : lv_has ls 3 [(0, .ref (a 4)), (1, .int p0)] := hl
  refine lv_aload_n hx hb dX2_passBoth_0 rfl (lv_at hl 0 rfl) ?_
  refine lv_iload_n hx hb dX2_passBoth_1 rfl (lv_at hl 1 rfl) ?_
  refine S_calli (va_runV (As := [.int p0]) (rest := []) ⟨hx, hb, hml, hown, hts⟩ (k_fOne_2_s l D k A a z fn ln n E O hEb hOb hE hO G p0 ⟨(by first | exact ha_p0.1 | omega), (by first | exact ha_p0.2 | omega)⟩ hv_4_1 ((by first | exact hd | omega))) (cwV 1 hts (gd_V hgd m829 m831 m18 m121 m832) rfl rfl rfl hd_X2_passOne ⟨show fn + 12 + 1 ≤ fn + 13 from sy_2 fn (Nat.le_of_ble_eq_true rfl), show 8 + (2 + 11) + (ln + 258) ≤ ln + 279 from sy_3 ln (Nat.le_of_ble_eq_true rfl)⟩) (pre_W hW hB_G hK hZ hS kd_4 rfl) rfl rfl hl.1 rfl (lv_room (Nat.le_of_ble_eq_true rfl)) dX2_passBoth_2 ⟨Nat.le_of_ble_eq_true rfl, Nat.le_of_ble_eq_true rfl⟩) hS (fun r_1 G_2 H locs hpo hW hS => ?_)
  have hX_5 : P_fOne_2_s E O p0 G r_1 G_2 := hpo
  obtain ⟨hB_G_2, hq_3, f_6, -⟩ := hpo
  have hF := hF.call9 hq_3 rfl rfl
  refine lv_if_ne (tgt := 10) hx hb dX2_passBoth_5 rfl (fun c_7 => ?_) (fun c_7 => ?_)
  · have c_7 : r_1.toInt ≠ 0 := xI_ne rfl rfl c_7
    refine ic_0 hx hb dX2_passBoth_10 ?_
    refine lv_istore_n (lv' := [(2, .int 0), (0, .ref (a 4)), (1, .int p0)]) hx hb dX2_passBoth_11 rfl hl (lt_b rfl) rfl (fun ls hl => ?_)
    have qc_14 : (0 : Int32).toInt = 0 := rfl
    refine loop_N (Inv := fun n H locs ls => ∃ (G_8 : GS) (x_12 : Int32), (n : Int) = 1600 - x_12.toInt ∧ (0 ≤ x_12.toInt ∧ x_12.toInt ≤ 1600) ∧ Rc (St_k_fBoth_2_s_1 E O p0) (0, G_2) (x_12, G_8) ∧ Wd D k A a G_8 H ∧ Bd G_8 ∧ Fr [27] [(2, 12), (2, 13), (3, 2), (3, 3), (3, 4), (3, 5), (3, 6), (3, 7), (3, 8), (4, 2)] G G_8 ∧ Fr [27] [(2, 12), (2, 13), (3, 2), (3, 3), (3, 4), (3, 5), (3, 6), (3, 7), (3, 8), (4, 2)] G_2 G_8 ∧ va_S A s.heap H locs ∧ lv_has ls 3 [(2, .int x_12), (0, .ref (a 4)), (1, .int p0)]) (fun n_11 H locs ls ih_10 hI => ?_) (1600 - 0 : Int).toNat ⟨G_2, 0, (Int.toNat_of_nonneg ((by decide))), ⟨(by decide), (by decide)⟩, Rc.rf, hW, hB_G_2, hF, Fr.rf, hS, lv_sub hl [0, 1, 2] rfl⟩
    obtain ⟨G_8, x_12, hn_16, f_15, hX_13, hW, hB_G_8, hF, hq_9, hS, hl⟩ := hI
    refine lv_iload_n hx hb dX2_passBoth_12 rfl (lv_at hl 0 rfl) ?_
    refine lv_sipush (v := 1600) hx hb dX2_passBoth_13 (by decide) ?_
    refine lv_icmp_ge (tgt := 67) hx hb dX2_passBoth_16 rfl (fun c_17 => ?_) (fun c_17 => ?_)
    · have c_17 : 1600 ≤ x_12.toInt := xI_le rfl rfl c_17
      refine ic_1 hx hb dX2_passBoth_67 ?_
      exact W.zret (v := 1) hx hb hr (by decide) (fun t ht _ => ⟨⟨1, G_8, rfl, (P_fBoth_2_s_mk ⟨hB_G_8, hF, ⟨by decide, by decide⟩, ⟨r_1, G_2, hX_5, (Or.inr ⟨c_7, ⟨x_12, G_8, hX_13, f_15, hB_G_8, hq_9, (Or.inl ⟨c_17, ⟨rfl, rfl⟩⟩)⟩⟩)⟩⟩), wd_t ht hW⟩, hS.F ht⟩) hS.2.2 dX2_passBoth_68
    · have c_17 : x_12.toInt < 1600 := xI_nle rfl rfl c_17
      refine lv_aload_n hx hb dX2_passBoth_19 rfl (lv_at hl 1 rfl) ?_
      refine S_getR (n := 3) (C := RX2) (T := TX2) (N := 3) hx hb hg iX2 hown hK hW kd_4 rfl 0 (lt_b rfl) (hg (Cond.fieldLink RX2 9 "SlabWalk$Formulas" "tokens" "LSlabWalk$Tokens;") m301) (fun _ h9 => h9) rfl dX2_passBoth_20 ?_
      refine S_getI (v := (G_8.1 3 3)) (C := RX9) (T := TX9) (N := 9) hx hb hg iX9 hown hK hW kd_3 rfl 3 (lt_b rfl) (hg (Cond.fieldLink RX2 30 "SlabWalk$Tokens" "kind" "I") m263) (fun _ h9 => h9) rfl rfl dX2_passBoth_23 ?_
      refine lv_sipush (v := 145) hx hb dX2_passBoth_26 (by decide) ?_
      refine lv_icmp_ne (tgt := 67) hx hb dX2_passBoth_29 rfl (fun c_18 => ?_) (fun c_18 => ?_)
      · have c_18 : (G_8.1 3 3).toInt ≠ 145 := xI_ne rfl rfl c_18
        refine ic_1 hx hb dX2_passBoth_67 ?_
        exact W.zret (v := 1) hx hb hr (by decide) (fun t ht _ => ⟨⟨1, G_8, rfl, (P_fBoth_2_s_mk ⟨hB_G_8, hF, ⟨by decide, by decide⟩, ⟨r_1, G_2, hX_5, (Or.inr ⟨c_7, ⟨x_12, G_8, hX_13, f_15, hB_G_8, hq_9, (Or.inr ⟨c_17, (Or.inr ⟨c_18, ⟨rfl, rfl⟩⟩)⟩)⟩⟩)⟩⟩), wd_t ht hW⟩, hS.F ht⟩) hS.2.2 dX2_passBoth_68
      · have c_18 : (G_8.1 3 3).toInt = 145 := xI_eq rfl rfl c_18
        refine lv_aload_n hx hb dX2_passBoth_32 rfl (lv_at hl 1 rfl) ?_
        refine S_getR (n := 3) (C := RX2) (T := TX2) (N := 3) hx hb hg iX2 hown hK hW kd_4 rfl 0 (lt_b rfl) (hg (Cond.fieldLink RX2 9 "SlabWalk$Formulas" "tokens" "LSlabWalk$Tokens;") m301) (fun _ h9 => h9) rfl dX2_passBoth_33 ?_
        refine S_calli (va_runV (As := []) (rest := []) ⟨hx, hb, hml, hown, hts⟩ (k_tAdvance l D k A a z G_8  ) (cwV 0 hts (gd_V hgd m854 m639 m640 m120 m641) rfl rfl rfl hd_X9_advance ⟨show 6 + 1 ≤ fn + 13 from sy_1 fn (Nat.le_of_ble_eq_true rfl), show 8 + (2 + 11) + (127) ≤ ln + 279 from sy_1 ln (Nat.le_of_ble_eq_true rfl)⟩) (pre_W hW hB_G_8 hK hZ hS kd_3 rfl) rfl rfl hl.1 rfl (lv_room (Nat.le_of_ble_eq_true rfl)) dX2_passBoth_36 ⟨Nat.le_of_ble_eq_true rfl, Nat.le_of_ble_eq_true rfl⟩) hS (fun r_19 G_20 H locs hpo hW hS => ?_)
        have hX_23 : P_tAdvance G_8 r_19 G_20 := hpo
        obtain ⟨hB_G_20, hq_21, f_24, -⟩ := hpo
        have hF := hF.call9 hq_21 rfl rfl
        refine lv_pop hx hb dX2_passBoth_39 rfl ?_
        refine lv_aload_n hx hb dX2_passBoth_40 rfl (lv_at hl 1 rfl) ?_
        refine lv_iload_n hx hb dX2_passBoth_41 rfl (lv_at hl 2 rfl) ?_
        refine S_calli (va_runV (As := [.int p0]) (rest := []) ⟨hx, hb, hml, hown, hts⟩ (k_fOne_2_s l D k A a z fn ln n E O hEb hOb hE hO G_20 p0 ⟨(by first | exact ha_p0.1 | omega), (by first | exact ha_p0.2 | omega)⟩ ((((hq_21.r9 4 1 rfl rfl).trans ((hq_9.r9 4 1 rfl rfl).trans (hq_3.r9 4 1 rfl rfl)))).trans (hv_4_1)) ((by first | exact hd | omega))) (cwV 1 hts (gd_V hgd m829 m831 m18 m121 m832) rfl rfl rfl hd_X2_passOne ⟨show fn + 12 + 1 ≤ fn + 13 from sy_2 fn (Nat.le_of_ble_eq_true rfl), show 8 + (2 + 11) + (ln + 258) ≤ ln + 279 from sy_3 ln (Nat.le_of_ble_eq_true rfl)⟩) (pre_W hW hB_G_20 hK hZ hS kd_4 rfl) rfl rfl hl.1 rfl (lv_room (Nat.le_of_ble_eq_true rfl)) dX2_passBoth_42 ⟨Nat.le_of_ble_eq_true rfl, Nat.le_of_ble_eq_true rfl⟩) hS (fun r_25 G_26 H locs hpo hW hS => ?_)
        have hX_29 : P_fOne_2_s E O p0 G_20 r_25 G_26 := hpo
        obtain ⟨hB_G_26, hq_27, f_30, -⟩ := hpo
        have hF := hF.call9 hq_27 rfl rfl
        refine lv_if_ne (tgt := 50) hx hb dX2_passBoth_45 rfl (fun c_31 => ?_) (fun c_31 => ?_)
        · have c_31 : r_25.toInt ≠ 0 := xI_ne rfl rfl c_31
          refine lv_aload_n hx hb dX2_passBoth_50 rfl (lv_at hl 1 rfl) ?_
          refine S_getV (n := 2) (C := RX2) (T := TX2) (N := 3) hx hb hg iX2 hown hK hW kd_4 rfl 1 (lt_b rfl) (hg (Cond.fieldLink RX2 15 "SlabWalk$Formulas" "paving" "LSlabWalk$Paving;") m302) (fun _ h9 => h9) rfl ((((hq_27.r9 4 1 rfl rfl).trans ((hq_21.r9 4 1 rfl rfl).trans ((hq_9.r9 4 1 rfl rfl).trans (hq_3.r9 4 1 rfl rfl))))).trans (hv_4_1)) dX2_passBoth_51 ?_
          refine lv_sipush (v := 145) hx hb dX2_passBoth_54 (by decide) ?_
          refine ic_0 hx hb dX2_passBoth_57 ?_
          refine S_callv (va_runV (As := [.int 145, .int 0]) (rest := []) ⟨hx, hb, hml, hown, hts⟩ (k_emit_2 l D k A a z G_26 145 0 ) (cwV 2 hts (gd_V hgd m855 m856 m857 m118 m858) rfl rfl rfl hd_X6_emit ⟨show 0 + 1 ≤ fn + 13 from sy_1 fn (Nat.le_of_ble_eq_true rfl), show 8 + (3 + 11) + (0) ≤ ln + 279 from sy_1 ln (Nat.le_of_ble_eq_true rfl)⟩) (pre_W hW hB_G_26 hK hZ hS kd_2 rfl) rfl rfl hl.1 rfl (lv_room (Nat.le_of_ble_eq_true rfl)) dX2_passBoth_58 ⟨Nat.le_of_ble_eq_true rfl, Nat.le_of_ble_eq_true rfl⟩) hS (fun G_33 H locs hpo hW hS => ?_)
          have hX_36 : P_emit_2 145 0 G_26 G_33 := hpo
          obtain ⟨hB_G_33, hq_34, -⟩ := hpo
          have hF := hF.call9 hq_34 rfl rfl
          obtain ⟨y_37, ey_37⟩ : ∃ q, q = x_12 + 1 := ⟨_, rfl⟩
          have ty_37 : y_37.toInt = x_12.toInt + 1 := xI_add rfl rfl ey_37 ((by first | exact ok_21 f_15.1 | omega)) ((by first | exact ok_122 f_15.2 | omega))
          refine lv_iinc (v := y_37) (lv' := [(2, .int y_37), (0, .ref (a 4)), (1, .int p0)]) hx hb dX2_passBoth_61 hl (k := 0) rfl (by rw [ey_37]; rfl) (lt_b rfl) rfl (fun ls hl => ?_)
          refine lv_goto (tgt := 12) hx hb dX2_passBoth_64 rfl ?_
          exact ih_10 (1600 - y_37.toInt : Int).toNat ((by first | (clear ha_p0 hd f_6 c_7 c_18 f_24 f_30 c_31; omega) | omega)) _ _ _ ⟨G_33, y_37, (Int.toNat_of_nonneg ((by first | exact ok_388 f_15.2 c_17 ty_37 | omega))), ⟨(by first | exact ok_23 f_15.1 ty_37 | omega), (by first | exact ok_389 f_15.2 c_17 ty_37 | omega)⟩, (hX_13.st (St_k_fBoth_2_s_1_mk ⟨x_12, G_8, y_37, G_33, rfl, rfl, f_15, hB_G_8, ⟨c_17, ⟨c_18, ⟨r_19, G_20, hX_23, ⟨r_25, G_26, hX_29, ⟨c_31, ⟨G_33, hX_36, ⟨y_37, ty_37, ⟨rfl, rfl⟩⟩⟩⟩⟩⟩⟩⟩⟩)), hW, hB_G_33, hF, (Fr.call9 (rs := [27]) (fs := [(2, 12), (2, 13), (3, 2), (3, 3), (3, 4), (3, 5), (3, 6), (3, 7), (3, 8), (4, 2)]) (Fr.call9 (rs := [27]) (fs := [(2, 12), (2, 13), (3, 2), (3, 3), (3, 4), (3, 5), (3, 6), (3, 7), (3, 8), (4, 2)]) (Fr.call9 (rs := [27]) (fs := [(2, 12), (2, 13), (3, 2), (3, 3), (3, 4), (3, 5), (3, 6), (3, 7), (3, 8), (4, 2)]) (Fr.call9 (rs := [27]) (fs := [(2, 12), (2, 13), (3, 2), (3, 3), (3, 4), (3, 5), (3, 6), (3, 7), (3, 8), (4, 2)]) Fr.rf hq_9 rfl rfl) hq_21 rfl rfl) hq_27 rfl rfl) hq_34 rfl rfl), hS, lv_sub hl [0, 1, 2] rfl⟩
        · have c_31 : r_25.toInt = 0 := xI_eq rfl rfl c_31
          refine ic_0 hx hb dX2_passBoth_48 ?_
          exact W.zret (v := 0) hx hb hr (by decide) (fun t ht _ => ⟨⟨0, G_26, rfl, (P_fBoth_2_s_mk ⟨hB_G_26, hF, ⟨by decide, by decide⟩, ⟨r_1, G_2, hX_5, (Or.inr ⟨c_7, ⟨x_12, G_8, hX_13, f_15, hB_G_8, hq_9, (Or.inr ⟨c_17, (Or.inl ⟨c_18, ⟨r_19, G_20, hX_23, ⟨r_25, G_26, hX_29, ⟨c_31, ⟨rfl, rfl⟩⟩⟩⟩⟩)⟩)⟩⟩)⟩⟩), wd_t ht hW⟩, hS.F ht⟩) hS.2.2 dX2_passBoth_49
  · have c_7 : r_1.toInt = 0 := xI_eq rfl rfl c_7
    refine ic_0 hx hb dX2_passBoth_8 ?_
    exact W.zret (v := 0) hx hb hr (by decide) (fun t ht _ => ⟨⟨0, G_2, rfl, (P_fBoth_2_s_mk ⟨hB_G_2, hF, ⟨by decide, by decide⟩, ⟨r_1, G_2, hX_5, (Or.inl ⟨c_7, ⟨rfl, rfl⟩⟩)⟩⟩), wd_t ht hW⟩, hS.F ht⟩) hS.2.2 dX2_passBoth_9

set_option maxHeartbeats 4000000 in
set_option maxRecDepth 100000 in
theorem k_fEither_2_s (l : Launch) (D : va_G) (k : KT) (A : Nat → Prop) (a : Nat → Nat) (z : SK) (fn ln n : Nat) (E O : XR) (hEb : ∀ (p0 : Int32) (G : GS) (r : Int32) (G1 : GS), E p0 G r G1 → Bd G1 ∧ Fr [27] [(2, 12), (2, 13), (3, 2), (3, 3), (3, 4), (3, 5), (3, 6), (3, 7), (3, 8), (4, 2)] G G1 ∧ (0 ≤ r.toInt ∧ r.toInt ≤ 1)) (hOb : ∀ (p0 : Int32) (G : GS) (r : Int32) (G1 : GS), O p0 G r G1 → Bd G1 ∧ Fr [27] [(2, 12), (2, 13), (3, 2), (3, 3), (3, 4), (3, 5), (3, 6), (3, 7), (3, 8), (4, 2)] G G1 ∧ (0 ≤ r.toInt ∧ r.toInt ≤ 1)) (hE : ∀ (G : GS) (p0 : Int32) (ha_p0 : 0 ≤ p0.toInt ∧ p0.toInt ≤ 7) (hv_4_1 : G.2.2 4 1 = 2) (hd : 8 ≤ p0.toInt + (n : Int)), Met l yX2_passEither (WS yX2_passEither cX2_passEither 3 (some .boolean)) ({ frames := fn + 2, cells := 0, slots := 0, locals := ln + 43 }) (va_Pc [.ref (a 4), .int p0] (cW D k A a z G)) (va_Qi (fun (r : Int32) (G1 : GS) => E p0 G r G1) (fun (G1 : GS) t => Wd D k A a G1 t.heap) A) 0 0 A) (hO : ∀ (G : GS) (p0 : Int32) (ha_p0 : 0 ≤ p0.toInt ∧ p0.toInt ≤ 7) (hv_4_1 : G.2.2 4 1 = 2) (hd : 8 ≤ p0.toInt + (n : Int)), Met l yX2_passOne (WS yX2_passOne cX2_passOne 2 (some .boolean)) ({ frames := fn + 0, cells := 0, slots := 0, locals := ln + 0 }) (va_Pc [.ref (a 4), .int p0] (cW D k A a z G)) (va_Qi (fun (r : Int32) (G1 : GS) => O p0 G r G1) (fun (G1 : GS) t => Wd D k A a G1 t.heap) A) 0 0 A) (G : GS) (p0 : Int32) (ha_p0 : 0 ≤ p0.toInt ∧ p0.toInt ≤ 7) (hv_4_1 : G.2.2 4 1 = 2) (hd : 8 ≤ p0.toInt + (n : Int) + 1) : Met l yX2_passEither (WS yX2_passEither cX2_passEither 3 (some .boolean)) ({ frames := fn + 14, cells := 0, slots := 0, locals := ln + 301 }) (va_Pc [.ref (a 4), .int p0] (cW D k A a z G)) (va_Qi (fun (r : Int32) (G1 : GS) => P_fEither_2_s E O p0 G r G1) (fun (G1 : GS) t => Wd D k A a G1 t.heap) A) 0 0 A := by
  refine Met.ofW (cc := cX2_passEither) (maxL := 3) (ret := (some .boolean)) (by decide) rfl ?_
  intro p e s m args below meth c s₁ B hml hv
  obtain ⟨rfl, hW, hB_G, hK, hZ⟩ := hv
  have hx := B.exec
  have hb := B.bytes
  have hr := B.returns
  have hts := atoms_spec (ws := WS yX2_passEither cX2_passEither 3 (some .boolean)) B.pre
  have hgd : ∀ w ∈ gd, w ∈ WS yX2_passEither cX2_passEither 3 (some .boolean) := fun w h => List.mem_cons_of_mem _ h
  have hg : ∀ w ∈ gd, w.before _ s = true := fun w h => hts w (hgd w h)
  have hown : s.vm.findClass RX2 = some m.cls := findClass_of_methodNamed B.named
  have hS : va_S A s.heap s.heap [] := va_S.rf
  have hF : Fr [27] [(2, 12), (2, 13), (3, 2), (3, 3), (3, 4), (3, 5), (3, 6), (3, 7), (3, 8), (4, 2)] G G := Fr.rf
  have hl := lv_entry ([.ref (a 4), .int p0]) (n := 3) (Nat.le_of_ble_eq_true rfl)
  rw [lg_entry_eq]
  generalize (lg_sl ([.ref (a 4), .int p0]) ++ List.replicate (3 - (lg_sl ([.ref (a 4), .int p0])).length) Slot.unset).toArray = ls at hl ⊢
  have hl : lv_has ls 3 [(0, .ref (a 4)), (1, .int p0)] := hl
  refine lv_aload_n hx hb dX2_passEither_0 rfl (lv_at hl 0 rfl) ?_
  refine lv_iload_n hx hb dX2_passEither_1 rfl (lv_at hl 1 rfl) ?_
  refine S_calli (va_runV (As := [.int p0]) (rest := []) ⟨hx, hb, hml, hown, hts⟩ (k_fBoth_2_s l D k A a z fn ln n E O hEb hOb hE hO G p0 ⟨(by first | exact ha_p0.1 | omega), (by first | exact ha_p0.2 | omega)⟩ hv_4_1 ((by first | exact hd | omega))) (cwV 1 hts (gd_V hgd m825 m827 m17 m121 m828) rfl rfl rfl hd_X2_passBoth ⟨show fn + 13 + 1 ≤ fn + 14 from sy_2 fn (Nat.le_of_ble_eq_true rfl), show 8 + (3 + 11) + (ln + 279) ≤ ln + 301 from sy_3 ln (Nat.le_of_ble_eq_true rfl)⟩) (pre_W hW hB_G hK hZ hS kd_4 rfl) rfl rfl hl.1 rfl (lv_room (Nat.le_of_ble_eq_true rfl)) dX2_passEither_2 ⟨Nat.le_of_ble_eq_true rfl, Nat.le_of_ble_eq_true rfl⟩) hS (fun r_1 G_2 H locs hpo hW hS => ?_)
  have hX_5 : P_fBoth_2_s E O p0 G r_1 G_2 := hpo
  obtain ⟨hB_G_2, hq_3, f_6, -⟩ := hpo
  have hF := hF.call9 hq_3 rfl rfl
  refine lv_if_ne (tgt := 10) hx hb dX2_passEither_5 rfl (fun c_7 => ?_) (fun c_7 => ?_)
  · have c_7 : r_1.toInt ≠ 0 := xI_ne rfl rfl c_7
    refine ic_0 hx hb dX2_passEither_10 ?_
    refine lv_istore_n (lv' := [(2, .int 0), (0, .ref (a 4)), (1, .int p0)]) hx hb dX2_passEither_11 rfl hl (lt_b rfl) rfl (fun ls hl => ?_)
    have qc_14 : (0 : Int32).toInt = 0 := rfl
    refine loop_N (Inv := fun n H locs ls => ∃ (G_8 : GS) (x_12 : Int32), (n : Int) = 1600 - x_12.toInt ∧ (0 ≤ x_12.toInt ∧ x_12.toInt ≤ 1600) ∧ Rc (St_k_fEither_2_s_1 E O p0) (0, G_2) (x_12, G_8) ∧ Wd D k A a G_8 H ∧ Bd G_8 ∧ Fr [27] [(2, 12), (2, 13), (3, 2), (3, 3), (3, 4), (3, 5), (3, 6), (3, 7), (3, 8), (4, 2)] G G_8 ∧ Fr [27] [(2, 12), (2, 13), (3, 2), (3, 3), (3, 4), (3, 5), (3, 6), (3, 7), (3, 8), (4, 2)] G_2 G_8 ∧ va_S A s.heap H locs ∧ lv_has ls 3 [(2, .int x_12), (0, .ref (a 4)), (1, .int p0)]) (fun n_11 H locs ls ih_10 hI => ?_) (1600 - 0 : Int).toNat ⟨G_2, 0, (Int.toNat_of_nonneg ((by decide))), ⟨(by decide), (by decide)⟩, Rc.rf, hW, hB_G_2, hF, Fr.rf, hS, lv_sub hl [0, 1, 2] rfl⟩
    obtain ⟨G_8, x_12, hn_16, f_15, hX_13, hW, hB_G_8, hF, hq_9, hS, hl⟩ := hI
    refine lv_iload_n hx hb dX2_passEither_12 rfl (lv_at hl 0 rfl) ?_
    refine lv_sipush (v := 1600) hx hb dX2_passEither_13 (by decide) ?_
    refine lv_icmp_ge (tgt := 67) hx hb dX2_passEither_16 rfl (fun c_17 => ?_) (fun c_17 => ?_)
    · have c_17 : 1600 ≤ x_12.toInt := xI_le rfl rfl c_17
      refine ic_1 hx hb dX2_passEither_67 ?_
      exact W.zret (v := 1) hx hb hr (by decide) (fun t ht _ => ⟨⟨1, G_8, rfl, (P_fEither_2_s_mk ⟨hB_G_8, hF, ⟨by decide, by decide⟩, ⟨r_1, G_2, hX_5, (Or.inr ⟨c_7, ⟨x_12, G_8, hX_13, f_15, hB_G_8, hq_9, (Or.inl ⟨c_17, ⟨rfl, rfl⟩⟩)⟩⟩)⟩⟩), wd_t ht hW⟩, hS.F ht⟩) hS.2.2 dX2_passEither_68
    · have c_17 : x_12.toInt < 1600 := xI_nle rfl rfl c_17
      refine lv_aload_n hx hb dX2_passEither_19 rfl (lv_at hl 1 rfl) ?_
      refine S_getR (n := 3) (C := RX2) (T := TX2) (N := 3) hx hb hg iX2 hown hK hW kd_4 rfl 0 (lt_b rfl) (hg (Cond.fieldLink RX2 9 "SlabWalk$Formulas" "tokens" "LSlabWalk$Tokens;") m301) (fun _ h9 => h9) rfl dX2_passEither_20 ?_
      refine S_getI (v := (G_8.1 3 3)) (C := RX9) (T := TX9) (N := 9) hx hb hg iX9 hown hK hW kd_3 rfl 3 (lt_b rfl) (hg (Cond.fieldLink RX2 30 "SlabWalk$Tokens" "kind" "I") m263) (fun _ h9 => h9) rfl rfl dX2_passEither_23 ?_
      refine lv_sipush (v := 144) hx hb dX2_passEither_26 (by decide) ?_
      refine lv_icmp_ne (tgt := 67) hx hb dX2_passEither_29 rfl (fun c_18 => ?_) (fun c_18 => ?_)
      · have c_18 : (G_8.1 3 3).toInt ≠ 144 := xI_ne rfl rfl c_18
        refine ic_1 hx hb dX2_passEither_67 ?_
        exact W.zret (v := 1) hx hb hr (by decide) (fun t ht _ => ⟨⟨1, G_8, rfl, (P_fEither_2_s_mk ⟨hB_G_8, hF, ⟨by decide, by decide⟩, ⟨r_1, G_2, hX_5, (Or.inr ⟨c_7, ⟨x_12, G_8, hX_13, f_15, hB_G_8, hq_9, (Or.inr ⟨c_17, (Or.inr ⟨c_18, ⟨rfl, rfl⟩⟩)⟩)⟩⟩)⟩⟩), wd_t ht hW⟩, hS.F ht⟩) hS.2.2 dX2_passEither_68
      · have c_18 : (G_8.1 3 3).toInt = 144 := xI_eq rfl rfl c_18
        refine lv_aload_n hx hb dX2_passEither_32 rfl (lv_at hl 1 rfl) ?_
        refine S_getR (n := 3) (C := RX2) (T := TX2) (N := 3) hx hb hg iX2 hown hK hW kd_4 rfl 0 (lt_b rfl) (hg (Cond.fieldLink RX2 9 "SlabWalk$Formulas" "tokens" "LSlabWalk$Tokens;") m301) (fun _ h9 => h9) rfl dX2_passEither_33 ?_
        refine S_calli (va_runV (As := []) (rest := []) ⟨hx, hb, hml, hown, hts⟩ (k_tAdvance l D k A a z G_8  ) (cwV 0 hts (gd_V hgd m854 m639 m640 m120 m641) rfl rfl rfl hd_X9_advance ⟨show 6 + 1 ≤ fn + 14 from sy_1 fn (Nat.le_of_ble_eq_true rfl), show 8 + (2 + 11) + (127) ≤ ln + 301 from sy_1 ln (Nat.le_of_ble_eq_true rfl)⟩) (pre_W hW hB_G_8 hK hZ hS kd_3 rfl) rfl rfl hl.1 rfl (lv_room (Nat.le_of_ble_eq_true rfl)) dX2_passEither_36 ⟨Nat.le_of_ble_eq_true rfl, Nat.le_of_ble_eq_true rfl⟩) hS (fun r_19 G_20 H locs hpo hW hS => ?_)
        have hX_23 : P_tAdvance G_8 r_19 G_20 := hpo
        obtain ⟨hB_G_20, hq_21, f_24, -⟩ := hpo
        have hF := hF.call9 hq_21 rfl rfl
        refine lv_pop hx hb dX2_passEither_39 rfl ?_
        refine lv_aload_n hx hb dX2_passEither_40 rfl (lv_at hl 1 rfl) ?_
        refine lv_iload_n hx hb dX2_passEither_41 rfl (lv_at hl 2 rfl) ?_
        refine S_calli (va_runV (As := [.int p0]) (rest := []) ⟨hx, hb, hml, hown, hts⟩ (k_fBoth_2_s l D k A a z fn ln n E O hEb hOb hE hO G_20 p0 ⟨(by first | exact ha_p0.1 | omega), (by first | exact ha_p0.2 | omega)⟩ ((((hq_21.r9 4 1 rfl rfl).trans ((hq_9.r9 4 1 rfl rfl).trans (hq_3.r9 4 1 rfl rfl)))).trans (hv_4_1)) ((by first | exact hd | omega))) (cwV 1 hts (gd_V hgd m825 m827 m17 m121 m828) rfl rfl rfl hd_X2_passBoth ⟨show fn + 13 + 1 ≤ fn + 14 from sy_2 fn (Nat.le_of_ble_eq_true rfl), show 8 + (3 + 11) + (ln + 279) ≤ ln + 301 from sy_3 ln (Nat.le_of_ble_eq_true rfl)⟩) (pre_W hW hB_G_20 hK hZ hS kd_4 rfl) rfl rfl hl.1 rfl (lv_room (Nat.le_of_ble_eq_true rfl)) dX2_passEither_42 ⟨Nat.le_of_ble_eq_true rfl, Nat.le_of_ble_eq_true rfl⟩) hS (fun r_25 G_26 H locs hpo hW hS => ?_)
        have hX_29 : P_fBoth_2_s E O p0 G_20 r_25 G_26 := hpo
        obtain ⟨hB_G_26, hq_27, f_30, -⟩ := hpo
        have hF := hF.call9 hq_27 rfl rfl
        refine lv_if_ne (tgt := 50) hx hb dX2_passEither_45 rfl (fun c_31 => ?_) (fun c_31 => ?_)
        · have c_31 : r_25.toInt ≠ 0 := xI_ne rfl rfl c_31
          refine lv_aload_n hx hb dX2_passEither_50 rfl (lv_at hl 1 rfl) ?_
          refine S_getV (n := 2) (C := RX2) (T := TX2) (N := 3) hx hb hg iX2 hown hK hW kd_4 rfl 1 (lt_b rfl) (hg (Cond.fieldLink RX2 15 "SlabWalk$Formulas" "paving" "LSlabWalk$Paving;") m302) (fun _ h9 => h9) rfl ((((hq_27.r9 4 1 rfl rfl).trans ((hq_21.r9 4 1 rfl rfl).trans ((hq_9.r9 4 1 rfl rfl).trans (hq_3.r9 4 1 rfl rfl))))).trans (hv_4_1)) dX2_passEither_51 ?_
          refine lv_sipush (v := 144) hx hb dX2_passEither_54 (by decide) ?_
          refine ic_0 hx hb dX2_passEither_57 ?_
          refine S_callv (va_runV (As := [.int 144, .int 0]) (rest := []) ⟨hx, hb, hml, hown, hts⟩ (k_emit_2 l D k A a z G_26 144 0 ) (cwV 2 hts (gd_V hgd m855 m856 m857 m118 m858) rfl rfl rfl hd_X6_emit ⟨show 0 + 1 ≤ fn + 14 from sy_1 fn (Nat.le_of_ble_eq_true rfl), show 8 + (3 + 11) + (0) ≤ ln + 301 from sy_1 ln (Nat.le_of_ble_eq_true rfl)⟩) (pre_W hW hB_G_26 hK hZ hS kd_2 rfl) rfl rfl hl.1 rfl (lv_room (Nat.le_of_ble_eq_true rfl)) dX2_passEither_58 ⟨Nat.le_of_ble_eq_true rfl, Nat.le_of_ble_eq_true rfl⟩) hS (fun G_33 H locs hpo hW hS => ?_)
          have hX_36 : P_emit_2 144 0 G_26 G_33 := hpo
          obtain ⟨hB_G_33, hq_34, -⟩ := hpo
          have hF := hF.call9 hq_34 rfl rfl
          obtain ⟨y_37, ey_37⟩ : ∃ q, q = x_12 + 1 := ⟨_, rfl⟩
          have ty_37 : y_37.toInt = x_12.toInt + 1 := xI_add rfl rfl ey_37 ((by first | exact ok_21 f_15.1 | omega)) ((by first | exact ok_122 f_15.2 | omega))
          refine lv_iinc (v := y_37) (lv' := [(2, .int y_37), (0, .ref (a 4)), (1, .int p0)]) hx hb dX2_passEither_61 hl (k := 0) rfl (by rw [ey_37]; rfl) (lt_b rfl) rfl (fun ls hl => ?_)
          refine lv_goto (tgt := 12) hx hb dX2_passEither_64 rfl ?_
          exact ih_10 (1600 - y_37.toInt : Int).toNat ((by first | (clear ha_p0 hd f_6 c_7 c_18 f_24 f_30 c_31; omega) | omega)) _ _ _ ⟨G_33, y_37, (Int.toNat_of_nonneg ((by first | exact ok_388 f_15.2 c_17 ty_37 | omega))), ⟨(by first | exact ok_23 f_15.1 ty_37 | omega), (by first | exact ok_389 f_15.2 c_17 ty_37 | omega)⟩, (hX_13.st (St_k_fEither_2_s_1_mk ⟨x_12, G_8, y_37, G_33, rfl, rfl, f_15, hB_G_8, ⟨c_17, ⟨c_18, ⟨r_19, G_20, hX_23, ⟨r_25, G_26, hX_29, ⟨c_31, ⟨G_33, hX_36, ⟨y_37, ty_37, ⟨rfl, rfl⟩⟩⟩⟩⟩⟩⟩⟩⟩)), hW, hB_G_33, hF, (Fr.call9 (rs := [27]) (fs := [(2, 12), (2, 13), (3, 2), (3, 3), (3, 4), (3, 5), (3, 6), (3, 7), (3, 8), (4, 2)]) (Fr.call9 (rs := [27]) (fs := [(2, 12), (2, 13), (3, 2), (3, 3), (3, 4), (3, 5), (3, 6), (3, 7), (3, 8), (4, 2)]) (Fr.call9 (rs := [27]) (fs := [(2, 12), (2, 13), (3, 2), (3, 3), (3, 4), (3, 5), (3, 6), (3, 7), (3, 8), (4, 2)]) (Fr.call9 (rs := [27]) (fs := [(2, 12), (2, 13), (3, 2), (3, 3), (3, 4), (3, 5), (3, 6), (3, 7), (3, 8), (4, 2)]) Fr.rf hq_9 rfl rfl) hq_21 rfl rfl) hq_27 rfl rfl) hq_34 rfl rfl), hS, lv_sub hl [0, 1, 2] rfl⟩
        · have c_31 : r_25.toInt = 0 := xI_eq rfl rfl c_31
          refine ic_0 hx hb dX2_passEither_48 ?_
          exact W.zret (v := 0) hx hb hr (by decide) (fun t ht _ => ⟨⟨0, G_26, rfl, (P_fEither_2_s_mk ⟨hB_G_26, hF, ⟨by decide, by decide⟩, ⟨r_1, G_2, hX_5, (Or.inr ⟨c_7, ⟨x_12, G_8, hX_13, f_15, hB_G_8, hq_9, (Or.inr ⟨c_17, (Or.inl ⟨c_18, ⟨r_19, G_20, hX_23, ⟨r_25, G_26, hX_29, ⟨c_31, ⟨rfl, rfl⟩⟩⟩⟩⟩)⟩)⟩⟩)⟩⟩), wd_t ht hW⟩, hS.F ht⟩) hS.2.2 dX2_passEither_49
  · have c_7 : r_1.toInt = 0 := xI_eq rfl rfl c_7
    refine ic_0 hx hb dX2_passEither_8 ?_
    exact W.zret (v := 0) hx hb hr (by decide) (fun t ht _ => ⟨⟨0, G_2, rfl, (P_fEither_2_s_mk ⟨hB_G_2, hF, ⟨by decide, by decide⟩, ⟨r_1, G_2, hX_5, (Or.inl ⟨c_7, ⟨rfl, rfl⟩⟩)⟩⟩), wd_t ht hW⟩, hS.F ht⟩) hS.2.2 dX2_passEither_9



theorem PPf_1_b1 (n : Nat) : ∀ (p0 : Int32) (G : GS) (r : Int32) (G1 : GS), (PPf_1 n).1 p0 G r G1 → Bd G1 ∧ Fr [17] [(1, 12), (1, 13), (3, 2), (3, 3), (3, 4), (3, 5), (3, 6), (3, 7), (3, 8), (4, 2)] G G1 ∧ (0 ≤ r.toInt ∧ r.toInt ≤ 1) := by
  intro p0 G r G1 h
  cases n with
  | zero => exact h.elim
  | succ n => exact ⟨h.1, h.2.1, h.2.2.1⟩
theorem PPf_1_b2 (n : Nat) : ∀ (p0 : Int32) (G : GS) (r : Int32) (G1 : GS), (PPf_1 n).2 p0 G r G1 → Bd G1 ∧ Fr [17] [(1, 12), (1, 13), (3, 2), (3, 3), (3, 4), (3, 5), (3, 6), (3, 7), (3, 8), (4, 2)] G G1 ∧ (0 ≤ r.toInt ∧ r.toInt ≤ 1) := by
  intro p0 G r G1 h
  cases n with
  | zero => exact h.elim
  | succ n => exact ⟨h.1, h.2.1, h.2.2.1⟩
theorem k_fGrp_1 (l : Launch) (D : va_G) (k : KT) (A : Nat → Prop) (a : Nat → Nat) (z : SK) (n : Nat) : (∀ (G : GS) (p0 : Int32) (ha_p0 : 0 ≤ p0.toInt ∧ p0.toInt ≤ 7) (hv_4_1 : G.2.2 4 1 = 1) (hd : 8 ≤ p0.toInt + (n : Int)), Met l yX2_passEither (WS yX2_passEither cX2_passEither 3 (some .boolean)) ({ frames := 12 * n + 2, cells := 0, slots := 0, locals := 258 * n + 43 }) (va_Pc [.ref (a 4), .int p0] (cW D k A a z G)) (va_Qi (fun (r : Int32) (G1 : GS) => (PPf_1 n).1 p0 G r G1) (fun (G1 : GS) t => Wd D k A a G1 t.heap) A) 0 0 A) ∧ (∀ (G : GS) (p0 : Int32) (ha_p0 : 0 ≤ p0.toInt ∧ p0.toInt ≤ 7) (hv_4_1 : G.2.2 4 1 = 1) (hd : 8 ≤ p0.toInt + (n : Int)), Met l yX2_passOne (WS yX2_passOne cX2_passOne 2 (some .boolean)) ({ frames := 12 * n, cells := 0, slots := 0, locals := 258 * n }) (va_Pc [.ref (a 4), .int p0] (cW D k A a z G)) (va_Qi (fun (r : Int32) (G1 : GS) => (PPf_1 n).2 p0 G r G1) (fun (G1 : GS) t => Wd D k A a G1 t.heap) A) 0 0 A) := by
  induction n with
  | zero => exact ⟨fun G p0 ha_p0 hv_4_1 hd => by exfalso; omega, fun G p0 ha_p0 hv_4_1 hd => by exfalso; omega⟩
  | succ n ih =>
    obtain ⟨hE, hO⟩ := ih
    refine ⟨fun G p0 ha_p0 hv_4_1 hd => ?_, fun G p0 ha_p0 hv_4_1 hd => ?_⟩
    · have h9 := k_fEither_1_s l D k A a z (12 * n) (258 * n) n (PPf_1 n).1 (PPf_1 n).2 (PPf_1_b1 n) (PPf_1_b2 n) (fun G p0 ha_p0 hv_4_1 hd => by have := hE G p0 ha_p0 hv_4_1 hd; exact this) (fun G p0 ha_p0 hv_4_1 hd => by have := hO G p0 ha_p0 hv_4_1 hd; exact this) G p0 ha_p0 hv_4_1 (by omega)
      rw [show 12 * n + 14 = 12 * (n + 1) + 2 by omega, show 258 * n + 301 = 258 * (n + 1) + 43 by omega] at h9
      exact h9
    · have h9 := k_fOne_1_s l D k A a z (12 * n) (258 * n) n (PPf_1 n).1 (PPf_1 n).2 (PPf_1_b1 n) (PPf_1_b2 n) (fun G p0 ha_p0 hv_4_1 hd => by have := hE G p0 ha_p0 hv_4_1 hd; exact this) (fun G p0 ha_p0 hv_4_1 hd => by have := hO G p0 ha_p0 hv_4_1 hd; exact this) G p0 ha_p0 hv_4_1 (by omega)
      rw [show 12 * n + 12 = 12 * (n + 1) by omega, show 258 * n + 258 = 258 * (n + 1) by omega] at h9
      exact h9
theorem k_fEither_1 (l : Launch) (D : va_G) (k : KT) (A : Nat → Prop) (a : Nat → Nat) (z : SK) (G : GS) (p0 : Int32) (ha_p0 : 0 ≤ p0.toInt ∧ p0.toInt ≤ 7) (hv_4_1 : G.2.2 4 1 = 1) : Met l yX2_passEither (WS yX2_passEither cX2_passEither 3 (some .boolean)) ({ frames := 98, cells := 0, slots := 0, locals := 2107 }) (va_Pc [.ref (a 4), .int p0] (cW D k A a z G)) (va_Qi (fun (r : Int32) (G1 : GS) => P_fEither_1 p0 G r G1) (fun (G1 : GS) t => Wd D k A a G1 t.heap) A) 0 0 A := by
  have h9 := k_fEither_1_s l D k A a z (12 * 7) (258 * 7) 7 (PPf_1 7).1 (PPf_1 7).2 (PPf_1_b1 7) (PPf_1_b2 7) (k_fGrp_1 l D k A a z 7).1 (k_fGrp_1 l D k A a z 7).2 G p0 ha_p0 hv_4_1 (by omega)
  exact h9


noncomputable def rbX2_read_0 : List (Nat × List Nat) := [(0, [42]), (1, [43]), (2, [181, 0, 15]), (5, [42]), (6, [3]), (7, [181, 0, 19]), (10, [42]), (11, [3]), (12, [182, 0, 23]), (15, [172])]
theorem rcX2_read_0 : dgo (lb cX2_read) 0 rbX2_read_0 = true := by decide +kernel
theorem dX2_read_0 : decode cX2_read 0 = .ok (.aload_n 0, 1) := dk_42 (dw rcX2_read_0 0 rfl)
theorem dX2_read_1 : decode cX2_read 1 = .ok (.aload_n 1, 1) := dk_43 (dw rcX2_read_0 1 rfl)
theorem dX2_read_2 : decode cX2_read 2 = .ok (.putfield 15, 3) := dk_181 (dw rcX2_read_0 2 rfl) rfl
theorem dX2_read_5 : decode cX2_read 5 = .ok (.aload_n 0, 1) := dk_42 (dw rcX2_read_0 3 rfl)
theorem dX2_read_6 : decode cX2_read 6 = .ok (.iconst 0, 1) := dk_3 (dw rcX2_read_0 4 rfl)
theorem dX2_read_7 : decode cX2_read 7 = .ok (.putfield 19, 3) := dk_181 (dw rcX2_read_0 5 rfl) rfl
theorem dX2_read_10 : decode cX2_read 10 = .ok (.aload_n 0, 1) := dk_42 (dw rcX2_read_0 6 rfl)
theorem dX2_read_11 : decode cX2_read 11 = .ok (.iconst 0, 1) := dk_3 (dw rcX2_read_0 7 rfl)
theorem dX2_read_12 : decode cX2_read 12 = .ok (.invokevirtual 23, 3) := dk_182 (dw rcX2_read_0 8 rfl) rfl
theorem dX2_read_15 : decode cX2_read 15 = .ok (.ireturn, 1) := dk_172 (dw rcX2_read_0 9 rfl)
set_option maxHeartbeats 4000000 in
set_option maxRecDepth 100000 in
theorem k_fRead_1 (l : Launch) (D : va_G) (k : KT) (A : Nat → Prop) (a : Nat → Nat) (z : SK) (G : GS)   : Met l yX2_read (WS yX2_read cX2_read 2 (some .boolean)) ({ frames := 99, cells := 0, slots := 0, locals := 2129 }) (va_Pc [.ref (a 4), .ref (a 1)] (cW D k A a z G)) (va_Qi (fun (r : Int32) (G1 : GS) => P_fRead_1 G r G1) (fun (G1 : GS) t => Wd D k A a G1 t.heap) A) 0 0 A := by
  refine Met.ofW (cc := cX2_read) (maxL := 2) (ret := (some .boolean)) (by decide) rfl ?_
  intro p e s m args below meth c s₁ B hml hv
  obtain ⟨rfl, hW, hB_G, hK, hZ⟩ := hv
  have hx := B.exec
  have hb := B.bytes
  have hr := B.returns
  have hts := atoms_spec (ws := WS yX2_read cX2_read 2 (some .boolean)) B.pre
  have hgd : ∀ w ∈ gd, w ∈ WS yX2_read cX2_read 2 (some .boolean) := fun w h => List.mem_cons_of_mem _ h
  have hg : ∀ w ∈ gd, w.before _ s = true := fun w h => hts w (hgd w h)
  have hown : s.vm.findClass RX2 = some m.cls := findClass_of_methodNamed B.named
  have hS : va_S A s.heap s.heap [] := va_S.rf
  have hF : Fr [17] [(1, 12), (1, 13), (3, 2), (3, 3), (3, 4), (3, 5), (3, 6), (3, 7), (3, 8), (4, 1), (4, 2)] G G := Fr.rf
  have hl := lv_entry ([.ref (a 4), .ref (a 1)]) (n := 2) (Nat.le_of_ble_eq_true rfl)
  rw [lg_entry_eq]
  generalize (lg_sl ([.ref (a 4), .ref (a 1)]) ++ List.replicate (2 - (lg_sl ([.ref (a 4), .ref (a 1)])).length) Slot.unset).toArray = ls at hl ⊢
  have hl : lv_has ls 2 [(0, .ref (a 4)), (1, .ref (a 1))] := hl
  refine lv_aload_n hx hb dX2_read_0 rfl (lv_at hl 0 rfl) ?_
  refine lv_aload_n hx hb dX2_read_1 rfl (lv_at hl 1 rfl) ?_
  refine S_putV (ty := .object "SlabWalk$Paving") (n := 1) (C := RX2) (T := TX2) (N := 3) hx hb hg iX2 tyX2 tyX2_ok nmX2 hown hK hW hS kd_4 rfl 1 (lt_b rfl) (hg (Cond.fieldLink RX2 15 "SlabWalk$Formulas" "paving" "LSlabWalk$Paving;") m302) (fun _ h9 => h9) rfl (by decide +kernel) rfl rfl rfl dX2_read_2 (fun G_1 H locs eG_1 hW hS => ?_)
  have hB_G_1 : Bd G_1 := hB_G.putr eG_1 (by decide) (by decide)
  have hF := hF.putr eG_1 (Or.inr (by decide))
  refine lv_aload_n hx hb dX2_read_5 rfl (lv_at hl 0 rfl) ?_
  refine ic_0 hx hb dX2_read_6 ?_
  refine S_putI (ty := .int) (C := RX2) (T := TX2) (N := 3) hx hb hg iX2 tyX2 tyX2_ok nmX2 hown hK hW hS kd_4 rfl 2 (lt_b rfl) (hg (Cond.fieldLink RX2 19 "SlabWalk$Formulas" "units" "I") m303) (fun _ h9 => h9) rfl (by decide +kernel) rfl rfl rfl dX2_read_7 (fun G_2 H locs eG_2 hW hS => ?_)
  have hB_G_2 : Bd G_2 := hB_G_1.put (V := 0) (lo := 0) (hi := 30) eG_2 rfl rfl rfl (by decide) (by decide) (hB_G_1.2.put eG_2 rfl)
  have hF := hF.put eG_2 (Or.inr (by decide))
  refine lv_aload_n hx hb dX2_read_10 rfl (lv_at hl 0 rfl) ?_
  refine ic_0 hx hb dX2_read_11 ?_
  refine S_calli (va_runV (As := [.int 0]) (rest := []) ⟨hx, hb, hml, hown, hts⟩ (k_fEither_1 l D k A a z G_2 0 ⟨by decide, by decide⟩ ((congrFun (congrFun (congrArg (fun q => q.2.2) eG_2) 4) 1).trans (gp_re eG_1))) (cwV 1 hts (gd_V hgd m821 m823 m16 m121 m824) rfl rfl rfl hd_X2_passEither ⟨Nat.le_of_ble_eq_true rfl, Nat.le_of_ble_eq_true rfl⟩) (pre_W hW hB_G_2 hK hZ hS kd_4 rfl) rfl rfl hl.1 rfl (lv_room (Nat.le_of_ble_eq_true rfl)) dX2_read_12 ⟨Nat.le_of_ble_eq_true rfl, Nat.le_of_ble_eq_true rfl⟩) hS (fun r_3 G_4 H locs hpo hW hS => ?_)
  have hX_7 : P_fEither_1 0 G_2 r_3 G_4 := hpo
  obtain ⟨hB_G_4, hq_5, f_8, -⟩ := hpo
  have hF := hF.call9 hq_5 rfl rfl
  exact W.zret (v := r_3) hx hb hr (nar_z ((by first | exact f_8.1 | omega)) ((by first | exact f_8.2 | omega))) (fun t ht _ => ⟨⟨r_3, G_4, rfl, (P_fRead_1_mk ⟨hB_G_4, hF, ⟨(by first | exact f_8.1 | omega), (by first | exact f_8.2 | omega)⟩, ⟨G_2, hB_G_2, (Fr.put (rs := []) (fs := [(4, 1), (4, 2)]) (Fr.putr (rs := []) (fs := [(4, 1), (4, 2)]) Fr.rf eG_1 (Or.inr (by decide))) eG_2 (Or.inr (by decide))), ((congrFun (congrFun (congrArg (fun q => q.2.2) eG_2) 4) 1).trans (gp_re eG_1)), (gp_eq eG_2), ⟨r_3, G_4, hX_7, ⟨rfl, rfl⟩⟩⟩⟩), wd_t ht hW⟩, hS.F ht⟩) hS.2.2 dX2_read_15



theorem PPf_2_b1 (n : Nat) : ∀ (p0 : Int32) (G : GS) (r : Int32) (G1 : GS), (PPf_2 n).1 p0 G r G1 → Bd G1 ∧ Fr [27] [(2, 12), (2, 13), (3, 2), (3, 3), (3, 4), (3, 5), (3, 6), (3, 7), (3, 8), (4, 2)] G G1 ∧ (0 ≤ r.toInt ∧ r.toInt ≤ 1) := by
  intro p0 G r G1 h
  cases n with
  | zero => exact h.elim
  | succ n => exact ⟨h.1, h.2.1, h.2.2.1⟩
theorem PPf_2_b2 (n : Nat) : ∀ (p0 : Int32) (G : GS) (r : Int32) (G1 : GS), (PPf_2 n).2 p0 G r G1 → Bd G1 ∧ Fr [27] [(2, 12), (2, 13), (3, 2), (3, 3), (3, 4), (3, 5), (3, 6), (3, 7), (3, 8), (4, 2)] G G1 ∧ (0 ≤ r.toInt ∧ r.toInt ≤ 1) := by
  intro p0 G r G1 h
  cases n with
  | zero => exact h.elim
  | succ n => exact ⟨h.1, h.2.1, h.2.2.1⟩
theorem k_fGrp_2 (l : Launch) (D : va_G) (k : KT) (A : Nat → Prop) (a : Nat → Nat) (z : SK) (n : Nat) : (∀ (G : GS) (p0 : Int32) (ha_p0 : 0 ≤ p0.toInt ∧ p0.toInt ≤ 7) (hv_4_1 : G.2.2 4 1 = 2) (hd : 8 ≤ p0.toInt + (n : Int)), Met l yX2_passEither (WS yX2_passEither cX2_passEither 3 (some .boolean)) ({ frames := 12 * n + 2, cells := 0, slots := 0, locals := 258 * n + 43 }) (va_Pc [.ref (a 4), .int p0] (cW D k A a z G)) (va_Qi (fun (r : Int32) (G1 : GS) => (PPf_2 n).1 p0 G r G1) (fun (G1 : GS) t => Wd D k A a G1 t.heap) A) 0 0 A) ∧ (∀ (G : GS) (p0 : Int32) (ha_p0 : 0 ≤ p0.toInt ∧ p0.toInt ≤ 7) (hv_4_1 : G.2.2 4 1 = 2) (hd : 8 ≤ p0.toInt + (n : Int)), Met l yX2_passOne (WS yX2_passOne cX2_passOne 2 (some .boolean)) ({ frames := 12 * n, cells := 0, slots := 0, locals := 258 * n }) (va_Pc [.ref (a 4), .int p0] (cW D k A a z G)) (va_Qi (fun (r : Int32) (G1 : GS) => (PPf_2 n).2 p0 G r G1) (fun (G1 : GS) t => Wd D k A a G1 t.heap) A) 0 0 A) := by
  induction n with
  | zero => exact ⟨fun G p0 ha_p0 hv_4_1 hd => by exfalso; omega, fun G p0 ha_p0 hv_4_1 hd => by exfalso; omega⟩
  | succ n ih =>
    obtain ⟨hE, hO⟩ := ih
    refine ⟨fun G p0 ha_p0 hv_4_1 hd => ?_, fun G p0 ha_p0 hv_4_1 hd => ?_⟩
    · have h9 := k_fEither_2_s l D k A a z (12 * n) (258 * n) n (PPf_2 n).1 (PPf_2 n).2 (PPf_2_b1 n) (PPf_2_b2 n) (fun G p0 ha_p0 hv_4_1 hd => by have := hE G p0 ha_p0 hv_4_1 hd; exact this) (fun G p0 ha_p0 hv_4_1 hd => by have := hO G p0 ha_p0 hv_4_1 hd; exact this) G p0 ha_p0 hv_4_1 (by omega)
      rw [show 12 * n + 14 = 12 * (n + 1) + 2 by omega, show 258 * n + 301 = 258 * (n + 1) + 43 by omega] at h9
      exact h9
    · have h9 := k_fOne_2_s l D k A a z (12 * n) (258 * n) n (PPf_2 n).1 (PPf_2 n).2 (PPf_2_b1 n) (PPf_2_b2 n) (fun G p0 ha_p0 hv_4_1 hd => by have := hE G p0 ha_p0 hv_4_1 hd; exact this) (fun G p0 ha_p0 hv_4_1 hd => by have := hO G p0 ha_p0 hv_4_1 hd; exact this) G p0 ha_p0 hv_4_1 (by omega)
      rw [show 12 * n + 12 = 12 * (n + 1) by omega, show 258 * n + 258 = 258 * (n + 1) by omega] at h9
      exact h9
theorem k_fEither_2 (l : Launch) (D : va_G) (k : KT) (A : Nat → Prop) (a : Nat → Nat) (z : SK) (G : GS) (p0 : Int32) (ha_p0 : 0 ≤ p0.toInt ∧ p0.toInt ≤ 7) (hv_4_1 : G.2.2 4 1 = 2) : Met l yX2_passEither (WS yX2_passEither cX2_passEither 3 (some .boolean)) ({ frames := 98, cells := 0, slots := 0, locals := 2107 }) (va_Pc [.ref (a 4), .int p0] (cW D k A a z G)) (va_Qi (fun (r : Int32) (G1 : GS) => P_fEither_2 p0 G r G1) (fun (G1 : GS) t => Wd D k A a G1 t.heap) A) 0 0 A := by
  have h9 := k_fEither_2_s l D k A a z (12 * 7) (258 * 7) 7 (PPf_2 7).1 (PPf_2 7).2 (PPf_2_b1 7) (PPf_2_b2 7) (k_fGrp_2 l D k A a z 7).1 (k_fGrp_2 l D k A a z 7).2 G p0 ha_p0 hv_4_1 (by omega)
  exact h9



set_option maxHeartbeats 4000000 in
set_option maxRecDepth 100000 in
theorem k_fRead_2 (l : Launch) (D : va_G) (k : KT) (A : Nat → Prop) (a : Nat → Nat) (z : SK) (G : GS)   : Met l yX2_read (WS yX2_read cX2_read 2 (some .boolean)) ({ frames := 99, cells := 0, slots := 0, locals := 2129 }) (va_Pc [.ref (a 4), .ref (a 2)] (cW D k A a z G)) (va_Qi (fun (r : Int32) (G1 : GS) => P_fRead_2 G r G1) (fun (G1 : GS) t => Wd D k A a G1 t.heap) A) 0 0 A := by
  refine Met.ofW (cc := cX2_read) (maxL := 2) (ret := (some .boolean)) (by decide) rfl ?_
  intro p e s m args below meth c s₁ B hml hv
  obtain ⟨rfl, hW, hB_G, hK, hZ⟩ := hv
  have hx := B.exec
  have hb := B.bytes
  have hr := B.returns
  have hts := atoms_spec (ws := WS yX2_read cX2_read 2 (some .boolean)) B.pre
  have hgd : ∀ w ∈ gd, w ∈ WS yX2_read cX2_read 2 (some .boolean) := fun w h => List.mem_cons_of_mem _ h
  have hg : ∀ w ∈ gd, w.before _ s = true := fun w h => hts w (hgd w h)
  have hown : s.vm.findClass RX2 = some m.cls := findClass_of_methodNamed B.named
  have hS : va_S A s.heap s.heap [] := va_S.rf
  have hF : Fr [27] [(2, 12), (2, 13), (3, 2), (3, 3), (3, 4), (3, 5), (3, 6), (3, 7), (3, 8), (4, 1), (4, 2)] G G := Fr.rf
  have hl := lv_entry ([.ref (a 4), .ref (a 2)]) (n := 2) (Nat.le_of_ble_eq_true rfl)
  rw [lg_entry_eq]
  generalize (lg_sl ([.ref (a 4), .ref (a 2)]) ++ List.replicate (2 - (lg_sl ([.ref (a 4), .ref (a 2)])).length) Slot.unset).toArray = ls at hl ⊢
  have hl : lv_has ls 2 [(0, .ref (a 4)), (1, .ref (a 2))] := hl
  refine lv_aload_n hx hb dX2_read_0 rfl (lv_at hl 0 rfl) ?_
  refine lv_aload_n hx hb dX2_read_1 rfl (lv_at hl 1 rfl) ?_
  refine S_putV (ty := .object "SlabWalk$Paving") (n := 2) (C := RX2) (T := TX2) (N := 3) hx hb hg iX2 tyX2 tyX2_ok nmX2 hown hK hW hS kd_4 rfl 1 (lt_b rfl) (hg (Cond.fieldLink RX2 15 "SlabWalk$Formulas" "paving" "LSlabWalk$Paving;") m302) (fun _ h9 => h9) rfl (by decide +kernel) rfl rfl rfl dX2_read_2 (fun G_1 H locs eG_1 hW hS => ?_)
  have hB_G_1 : Bd G_1 := hB_G.putr eG_1 (by decide) (by decide)
  have hF := hF.putr eG_1 (Or.inr (by decide))
  refine lv_aload_n hx hb dX2_read_5 rfl (lv_at hl 0 rfl) ?_
  refine ic_0 hx hb dX2_read_6 ?_
  refine S_putI (ty := .int) (C := RX2) (T := TX2) (N := 3) hx hb hg iX2 tyX2 tyX2_ok nmX2 hown hK hW hS kd_4 rfl 2 (lt_b rfl) (hg (Cond.fieldLink RX2 19 "SlabWalk$Formulas" "units" "I") m303) (fun _ h9 => h9) rfl (by decide +kernel) rfl rfl rfl dX2_read_7 (fun G_2 H locs eG_2 hW hS => ?_)
  have hB_G_2 : Bd G_2 := hB_G_1.put (V := 0) (lo := 0) (hi := 30) eG_2 rfl rfl rfl (by decide) (by decide) (hB_G_1.2.put eG_2 rfl)
  have hF := hF.put eG_2 (Or.inr (by decide))
  refine lv_aload_n hx hb dX2_read_10 rfl (lv_at hl 0 rfl) ?_
  refine ic_0 hx hb dX2_read_11 ?_
  refine S_calli (va_runV (As := [.int 0]) (rest := []) ⟨hx, hb, hml, hown, hts⟩ (k_fEither_2 l D k A a z G_2 0 ⟨by decide, by decide⟩ ((congrFun (congrFun (congrArg (fun q => q.2.2) eG_2) 4) 1).trans (gp_re eG_1))) (cwV 1 hts (gd_V hgd m821 m823 m16 m121 m824) rfl rfl rfl hd_X2_passEither ⟨Nat.le_of_ble_eq_true rfl, Nat.le_of_ble_eq_true rfl⟩) (pre_W hW hB_G_2 hK hZ hS kd_4 rfl) rfl rfl hl.1 rfl (lv_room (Nat.le_of_ble_eq_true rfl)) dX2_read_12 ⟨Nat.le_of_ble_eq_true rfl, Nat.le_of_ble_eq_true rfl⟩) hS (fun r_3 G_4 H locs hpo hW hS => ?_)
  have hX_7 : P_fEither_2 0 G_2 r_3 G_4 := hpo
  obtain ⟨hB_G_4, hq_5, f_8, -⟩ := hpo
  have hF := hF.call9 hq_5 rfl rfl
  exact W.zret (v := r_3) hx hb hr (nar_z ((by first | exact f_8.1 | omega)) ((by first | exact f_8.2 | omega))) (fun t ht _ => ⟨⟨r_3, G_4, rfl, (P_fRead_2_mk ⟨hB_G_4, hF, ⟨(by first | exact f_8.1 | omega), (by first | exact f_8.2 | omega)⟩, ⟨G_2, hB_G_2, (Fr.put (rs := []) (fs := [(4, 1), (4, 2)]) (Fr.putr (rs := []) (fs := [(4, 1), (4, 2)]) Fr.rf eG_1 (Or.inr (by decide))) eG_2 (Or.inr (by decide))), ((congrFun (congrFun (congrArg (fun q => q.2.2) eG_2) 4) 1).trans (gp_re eG_1)), (gp_eq eG_2), ⟨r_3, G_4, hX_7, ⟨rfl, rfl⟩⟩⟩⟩), wd_t ht hW⟩, hS.F ht⟩) hS.2.2 dX2_read_15

theorem m12 : Cond.selects RX7 yX7_isNumber yX7_isNumber ∈ gd := gds_1 12 rfl
theorem m119 : Cond.initialized RX7 ∈ gd := gdc_1_0 3 rfl gw_initialized
theorem m261 : Cond.fieldLink RX7 62 "SlabWalk$Tokens" "kind" "I" ∈ gd := gdc_1_9 1 rfl gw_fieldLink
theorem m265 : Cond.fieldLink RX7 96 "SlabWalk$Tokens" "number" "I" ∈ gd := gdc_1_9 5 rfl gw_fieldLink
theorem m268 : Cond.fieldLink RX7 92 "SlabWalk$Tokens" "word" "J" ∈ gd := gdc_1_9 8 rfl gw_fieldLink
theorem m311 : Cond.fieldLink RX7 26 "SlabWalk$Reader" "tokens" "LSlabWalk$Tokens;" ∈ gd := gdc_1_12 3 rfl gw_fieldLink
theorem m321 : Cond.fieldLink RX7 99 "SlabWalk$Reader" "number" "I" ∈ gd := gdc_1_12 13 rfl gw_fieldLink
theorem m777 : Cond.methodLink RX7 89 yX9_advance ∈ gd := gdc_3_11 5 rfl gw_methodLink
theorem m778 : Cond.methodLink RX7 85 yX9_refuse ∈ gd := gdc_3_11 6 rfl gw_methodLink
theorem m795 : Cond.methodLink RX7 100 yX7_isNumber ∈ gd := gdc_3_12 7 rfl gw_methodLink
theorem m797 : Cond.instanceMethod yX7_isNumber ∈ gd := gdc_3_12 9 rfl gw_instanceMethod
theorem m798 : Cond.code yX7_isNumber cX7_isNumber 3 (some .boolean) ∈ gd := gdc_3_12 10 rfl gw_code
noncomputable def rbX7_isNumber_0 : List (Nat × List Nat) := [(0, [42]), (1, [180, 0, 26]), (4, [180, 0, 62]), (7, [17, 0, 201]), (10, [159, 0, 12]), (13, [42]), (14, [180, 0, 26]), (17, [5]), (18, [182, 0, 85]), (21, [172]), (22, [42]), (23, [180, 0, 26]), (26, [180, 0, 96]), (29, [27]), (30, [161, 0, 14]), (33, [42]), (34, [180, 0, 26]), (37, [180, 0, 96]), (40, [28]), (41, [164, 0, 12]), (44, [42]), (45, [180, 0, 26]), (48, [7]), (49, [182, 0, 85])]
theorem rcX7_isNumber_0 : dgo (lb cX7_isNumber) 0 rbX7_isNumber_0 = true := by decide +kernel
theorem dX7_isNumber_0 : decode cX7_isNumber 0 = .ok (.aload_n 0, 1) := dk_42 (dw rcX7_isNumber_0 0 rfl)
theorem dX7_isNumber_1 : decode cX7_isNumber 1 = .ok (.getfield 26, 3) := dk_180 (dw rcX7_isNumber_0 1 rfl) rfl
theorem dX7_isNumber_4 : decode cX7_isNumber 4 = .ok (.getfield 62, 3) := dk_180 (dw rcX7_isNumber_0 2 rfl) rfl
theorem dX7_isNumber_7 : decode cX7_isNumber 7 = .ok (.sipush 201, 3) := dk_17 (dw rcX7_isNumber_0 3 rfl) rfl
theorem dX7_isNumber_10 : decode cX7_isNumber 10 = .ok (.if_icmp .eq 12, 3) := dk_159 (dw rcX7_isNumber_0 4 rfl) rfl
theorem dX7_isNumber_13 : decode cX7_isNumber 13 = .ok (.aload_n 0, 1) := dk_42 (dw rcX7_isNumber_0 5 rfl)
theorem dX7_isNumber_14 : decode cX7_isNumber 14 = .ok (.getfield 26, 3) := dk_180 (dw rcX7_isNumber_0 6 rfl) rfl
theorem dX7_isNumber_17 : decode cX7_isNumber 17 = .ok (.iconst 2, 1) := dk_5 (dw rcX7_isNumber_0 7 rfl)
theorem dX7_isNumber_18 : decode cX7_isNumber 18 = .ok (.invokevirtual 85, 3) := dk_182 (dw rcX7_isNumber_0 8 rfl) rfl
theorem dX7_isNumber_21 : decode cX7_isNumber 21 = .ok (.ireturn, 1) := dk_172 (dw rcX7_isNumber_0 9 rfl)
theorem dX7_isNumber_22 : decode cX7_isNumber 22 = .ok (.aload_n 0, 1) := dk_42 (dw rcX7_isNumber_0 10 rfl)
theorem dX7_isNumber_23 : decode cX7_isNumber 23 = .ok (.getfield 26, 3) := dk_180 (dw rcX7_isNumber_0 11 rfl) rfl
theorem dX7_isNumber_26 : decode cX7_isNumber 26 = .ok (.getfield 96, 3) := dk_180 (dw rcX7_isNumber_0 12 rfl) rfl
theorem dX7_isNumber_29 : decode cX7_isNumber 29 = .ok (.iload_n 1, 1) := dk_27 (dw rcX7_isNumber_0 13 rfl)
theorem dX7_isNumber_30 : decode cX7_isNumber 30 = .ok (.if_icmp .lt 14, 3) := dk_161 (dw rcX7_isNumber_0 14 rfl) rfl
theorem dX7_isNumber_33 : decode cX7_isNumber 33 = .ok (.aload_n 0, 1) := dk_42 (dw rcX7_isNumber_0 15 rfl)
theorem dX7_isNumber_34 : decode cX7_isNumber 34 = .ok (.getfield 26, 3) := dk_180 (dw rcX7_isNumber_0 16 rfl) rfl
theorem dX7_isNumber_37 : decode cX7_isNumber 37 = .ok (.getfield 96, 3) := dk_180 (dw rcX7_isNumber_0 17 rfl) rfl
theorem dX7_isNumber_40 : decode cX7_isNumber 40 = .ok (.iload_n 2, 1) := dk_28 (dw rcX7_isNumber_0 18 rfl)
theorem dX7_isNumber_41 : decode cX7_isNumber 41 = .ok (.if_icmp .le 12, 3) := dk_164 (dw rcX7_isNumber_0 19 rfl) rfl
theorem dX7_isNumber_44 : decode cX7_isNumber 44 = .ok (.aload_n 0, 1) := dk_42 (dw rcX7_isNumber_0 20 rfl)
theorem dX7_isNumber_45 : decode cX7_isNumber 45 = .ok (.getfield 26, 3) := dk_180 (dw rcX7_isNumber_0 21 rfl) rfl
theorem dX7_isNumber_48 : decode cX7_isNumber 48 = .ok (.iconst 4, 1) := dk_7 (dw rcX7_isNumber_0 22 rfl)
theorem dX7_isNumber_49 : decode cX7_isNumber 49 = .ok (.invokevirtual 85, 3) := dk_182 (dw rcX7_isNumber_0 23 rfl) rfl
noncomputable def rbX7_isNumber_52 : List (Nat × List Nat) := [(52, [172]), (53, [42]), (54, [42]), (55, [180, 0, 26]), (58, [180, 0, 96]), (61, [181, 0, 99]), (64, [4]), (65, [172])]
theorem rcX7_isNumber_52 : dgo (lb cX7_isNumber) 0 rbX7_isNumber_52 = true := by decide +kernel
theorem dX7_isNumber_52 : decode cX7_isNumber 52 = .ok (.ireturn, 1) := dk_172 (dw rcX7_isNumber_52 0 rfl)
theorem dX7_isNumber_53 : decode cX7_isNumber 53 = .ok (.aload_n 0, 1) := dk_42 (dw rcX7_isNumber_52 1 rfl)
theorem dX7_isNumber_54 : decode cX7_isNumber 54 = .ok (.aload_n 0, 1) := dk_42 (dw rcX7_isNumber_52 2 rfl)
theorem dX7_isNumber_55 : decode cX7_isNumber 55 = .ok (.getfield 26, 3) := dk_180 (dw rcX7_isNumber_52 3 rfl) rfl
theorem dX7_isNumber_58 : decode cX7_isNumber 58 = .ok (.getfield 96, 3) := dk_180 (dw rcX7_isNumber_52 4 rfl) rfl
theorem dX7_isNumber_61 : decode cX7_isNumber 61 = .ok (.putfield 99, 3) := dk_181 (dw rcX7_isNumber_52 5 rfl) rfl
theorem dX7_isNumber_64 : decode cX7_isNumber 64 = .ok (.iconst 1, 1) := dk_4 (dw rcX7_isNumber_52 6 rfl)
theorem dX7_isNumber_65 : decode cX7_isNumber 65 = .ok (.ireturn, 1) := dk_172 (dw rcX7_isNumber_52 7 rfl)
noncomputable def rbX7_passFirst_0 : List (Nat × List Nat) := [(0, [27]), (1, [153, 0, 13]), (4, [42]), (5, [180, 0, 26]), (8, [182, 0, 89]), (11, [167, 0, 11]), (14, [42]), (15, [180, 0, 26]), (18, [5]), (19, [182, 0, 85]), (22, [172])]
theorem rcX7_passFirst_0 : dgo (lb cX7_passFirst) 0 rbX7_passFirst_0 = true := by decide +kernel
theorem dX7_passFirst_0 : decode cX7_passFirst 0 = .ok (.iload_n 1, 1) := dk_27 (dw rcX7_passFirst_0 0 rfl)
theorem dX7_passFirst_1 : decode cX7_passFirst 1 = .ok (.ifCond .eq 13, 3) := dk_153 (dw rcX7_passFirst_0 1 rfl) rfl
theorem dX7_passFirst_4 : decode cX7_passFirst 4 = .ok (.aload_n 0, 1) := dk_42 (dw rcX7_passFirst_0 2 rfl)
theorem dX7_passFirst_5 : decode cX7_passFirst 5 = .ok (.getfield 26, 3) := dk_180 (dw rcX7_passFirst_0 3 rfl) rfl
theorem dX7_passFirst_8 : decode cX7_passFirst 8 = .ok (.invokevirtual 89, 3) := dk_182 (dw rcX7_passFirst_0 4 rfl) rfl
theorem dX7_passFirst_11 : decode cX7_passFirst 11 = .ok (.goto 11, 3) := dk_167 (dw rcX7_passFirst_0 5 rfl) rfl
theorem dX7_passFirst_14 : decode cX7_passFirst 14 = .ok (.aload_n 0, 1) := dk_42 (dw rcX7_passFirst_0 6 rfl)
theorem dX7_passFirst_15 : decode cX7_passFirst 15 = .ok (.getfield 26, 3) := dk_180 (dw rcX7_passFirst_0 7 rfl) rfl
theorem dX7_passFirst_18 : decode cX7_passFirst 18 = .ok (.iconst 2, 1) := dk_5 (dw rcX7_passFirst_0 8 rfl)
theorem dX7_passFirst_19 : decode cX7_passFirst 19 = .ok (.invokevirtual 85, 3) := dk_182 (dw rcX7_passFirst_0 9 rfl) rfl
theorem dX7_passFirst_22 : decode cX7_passFirst 22 = .ok (.ireturn, 1) := dk_172 (dw rcX7_passFirst_0 10 rfl)
noncomputable def rbX7_passName_0 : List (Nat × List Nat) := [(0, [42]), (1, [180, 0, 26]), (4, [180, 0, 62]), (7, [17, 0, 200]), (10, [160, 0, 9]), (13, [28]), (14, [43]), (15, [190]), (16, [161, 0, 12]), (19, [42]), (20, [180, 0, 26]), (23, [5]), (24, [182, 0, 85]), (27, [172]), (28, [3]), (29, [62]), (30, [29]), (31, [28]), (32, [162, 0, 32]), (35, [43]), (36, [29]), (37, [47]), (38, [42]), (39, [180, 0, 26])]
theorem rcX7_passName_0 : dgo (lb cX7_passName) 0 rbX7_passName_0 = true := by decide +kernel
theorem dX7_passName_0 : decode cX7_passName 0 = .ok (.aload_n 0, 1) := dk_42 (dw rcX7_passName_0 0 rfl)
theorem dX7_passName_1 : decode cX7_passName 1 = .ok (.getfield 26, 3) := dk_180 (dw rcX7_passName_0 1 rfl) rfl
theorem dX7_passName_4 : decode cX7_passName 4 = .ok (.getfield 62, 3) := dk_180 (dw rcX7_passName_0 2 rfl) rfl
theorem dX7_passName_7 : decode cX7_passName 7 = .ok (.sipush 200, 3) := dk_17 (dw rcX7_passName_0 3 rfl) rfl
theorem dX7_passName_10 : decode cX7_passName 10 = .ok (.if_icmp .ne 9, 3) := dk_160 (dw rcX7_passName_0 4 rfl) rfl
theorem dX7_passName_13 : decode cX7_passName 13 = .ok (.iload_n 2, 1) := dk_28 (dw rcX7_passName_0 5 rfl)
theorem dX7_passName_14 : decode cX7_passName 14 = .ok (.aload_n 1, 1) := dk_43 (dw rcX7_passName_0 6 rfl)
theorem dX7_passName_15 : decode cX7_passName 15 = .ok (.arraylength, 1) := dk_190 (dw rcX7_passName_0 7 rfl)
theorem dX7_passName_16 : decode cX7_passName 16 = .ok (.if_icmp .lt 12, 3) := dk_161 (dw rcX7_passName_0 8 rfl) rfl
theorem dX7_passName_19 : decode cX7_passName 19 = .ok (.aload_n 0, 1) := dk_42 (dw rcX7_passName_0 9 rfl)
theorem dX7_passName_20 : decode cX7_passName 20 = .ok (.getfield 26, 3) := dk_180 (dw rcX7_passName_0 10 rfl) rfl
theorem dX7_passName_23 : decode cX7_passName 23 = .ok (.iconst 2, 1) := dk_5 (dw rcX7_passName_0 11 rfl)
theorem dX7_passName_24 : decode cX7_passName 24 = .ok (.invokevirtual 85, 3) := dk_182 (dw rcX7_passName_0 12 rfl) rfl
theorem dX7_passName_27 : decode cX7_passName 27 = .ok (.ireturn, 1) := dk_172 (dw rcX7_passName_0 13 rfl)
theorem dX7_passName_28 : decode cX7_passName 28 = .ok (.iconst 0, 1) := dk_3 (dw rcX7_passName_0 14 rfl)
theorem dX7_passName_29 : decode cX7_passName 29 = .ok (.istore_n 3, 1) := dk_62 (dw rcX7_passName_0 15 rfl)
theorem dX7_passName_30 : decode cX7_passName 30 = .ok (.iload_n 3, 1) := dk_29 (dw rcX7_passName_0 16 rfl)
theorem dX7_passName_31 : decode cX7_passName 31 = .ok (.iload_n 2, 1) := dk_28 (dw rcX7_passName_0 17 rfl)
theorem dX7_passName_32 : decode cX7_passName 32 = .ok (.if_icmp .ge 32, 3) := dk_162 (dw rcX7_passName_0 18 rfl) rfl
theorem dX7_passName_35 : decode cX7_passName 35 = .ok (.aload_n 1, 1) := dk_43 (dw rcX7_passName_0 19 rfl)
theorem dX7_passName_36 : decode cX7_passName 36 = .ok (.iload_n 3, 1) := dk_29 (dw rcX7_passName_0 20 rfl)
theorem dX7_passName_37 : decode cX7_passName 37 = .ok (.laload, 1) := dk_47 (dw rcX7_passName_0 21 rfl)
theorem dX7_passName_38 : decode cX7_passName 38 = .ok (.aload_n 0, 1) := dk_42 (dw rcX7_passName_0 22 rfl)
theorem dX7_passName_39 : decode cX7_passName 39 = .ok (.getfield 26, 3) := dk_180 (dw rcX7_passName_0 23 rfl) rfl
noncomputable def rbX7_passName_42 : List (Nat × List Nat) := [(42, [180, 0, 92]), (45, [148]), (46, [154, 0, 12]), (49, [42]), (50, [180, 0, 26]), (53, [6]), (54, [182, 0, 85]), (57, [172]), (58, [132, 3, 1]), (61, [167, 255, 225]), (64, [43]), (65, [28]), (66, [42]), (67, [180, 0, 26]), (70, [180, 0, 92]), (73, [80]), (74, [42]), (75, [180, 0, 26]), (78, [182, 0, 89]), (81, [172])]
theorem rcX7_passName_42 : dgo (lb cX7_passName) 0 rbX7_passName_42 = true := by decide +kernel
theorem dX7_passName_42 : decode cX7_passName 42 = .ok (.getfield 92, 3) := dk_180 (dw rcX7_passName_42 0 rfl) rfl
theorem dX7_passName_45 : decode cX7_passName 45 = .ok (.lcmp, 1) := dk_148 (dw rcX7_passName_42 1 rfl)
theorem dX7_passName_46 : decode cX7_passName 46 = .ok (.ifCond .ne 12, 3) := dk_154 (dw rcX7_passName_42 2 rfl) rfl
theorem dX7_passName_49 : decode cX7_passName 49 = .ok (.aload_n 0, 1) := dk_42 (dw rcX7_passName_42 3 rfl)
theorem dX7_passName_50 : decode cX7_passName 50 = .ok (.getfield 26, 3) := dk_180 (dw rcX7_passName_42 4 rfl) rfl
theorem dX7_passName_53 : decode cX7_passName 53 = .ok (.iconst 3, 1) := dk_6 (dw rcX7_passName_42 5 rfl)
theorem dX7_passName_54 : decode cX7_passName 54 = .ok (.invokevirtual 85, 3) := dk_182 (dw rcX7_passName_42 6 rfl) rfl
theorem dX7_passName_57 : decode cX7_passName 57 = .ok (.ireturn, 1) := dk_172 (dw rcX7_passName_42 7 rfl)
theorem dX7_passName_58 : decode cX7_passName 58 = .ok (.iinc 3 1, 3) := dk_132 (dw rcX7_passName_42 8 rfl) rfl
theorem dX7_passName_61 : decode cX7_passName 61 = .ok (.goto (-31), 3) := dk_167 (dw rcX7_passName_42 9 rfl) rfl
theorem dX7_passName_64 : decode cX7_passName 64 = .ok (.aload_n 1, 1) := dk_43 (dw rcX7_passName_42 10 rfl)
theorem dX7_passName_65 : decode cX7_passName 65 = .ok (.iload_n 2, 1) := dk_28 (dw rcX7_passName_42 11 rfl)
theorem dX7_passName_66 : decode cX7_passName 66 = .ok (.aload_n 0, 1) := dk_42 (dw rcX7_passName_42 12 rfl)
theorem dX7_passName_67 : decode cX7_passName 67 = .ok (.getfield 26, 3) := dk_180 (dw rcX7_passName_42 13 rfl) rfl
theorem dX7_passName_70 : decode cX7_passName 70 = .ok (.getfield 92, 3) := dk_180 (dw rcX7_passName_42 14 rfl) rfl
theorem dX7_passName_73 : decode cX7_passName 73 = .ok (.lastore, 1) := dk_80 (dw rcX7_passName_42 15 rfl)
theorem dX7_passName_74 : decode cX7_passName 74 = .ok (.aload_n 0, 1) := dk_42 (dw rcX7_passName_42 16 rfl)
theorem dX7_passName_75 : decode cX7_passName 75 = .ok (.getfield 26, 3) := dk_180 (dw rcX7_passName_42 17 rfl) rfl
theorem dX7_passName_78 : decode cX7_passName 78 = .ok (.invokevirtual 89, 3) := dk_182 (dw rcX7_passName_42 18 rfl) rfl
theorem dX7_passName_81 : decode cX7_passName 81 = .ok (.ireturn, 1) := dk_172 (dw rcX7_passName_42 19 rfl)
noncomputable def rbX7_passNumber_0 : List (Nat × List Nat) := [(0, [42]), (1, [27]), (2, [28]), (3, [182, 0, 100]), (6, [153, 0, 17]), (9, [42]), (10, [180, 0, 26]), (13, [182, 0, 89]), (16, [153, 0, 7]), (19, [4]), (20, [167, 0, 4]), (23, [3]), (24, [172])]
theorem rcX7_passNumber_0 : dgo (lb cX7_passNumber) 0 rbX7_passNumber_0 = true := by decide +kernel
theorem dX7_passNumber_0 : decode cX7_passNumber 0 = .ok (.aload_n 0, 1) := dk_42 (dw rcX7_passNumber_0 0 rfl)
theorem dX7_passNumber_1 : decode cX7_passNumber 1 = .ok (.iload_n 1, 1) := dk_27 (dw rcX7_passNumber_0 1 rfl)
theorem dX7_passNumber_2 : decode cX7_passNumber 2 = .ok (.iload_n 2, 1) := dk_28 (dw rcX7_passNumber_0 2 rfl)
theorem dX7_passNumber_3 : decode cX7_passNumber 3 = .ok (.invokevirtual 100, 3) := dk_182 (dw rcX7_passNumber_0 3 rfl) rfl
theorem dX7_passNumber_6 : decode cX7_passNumber 6 = .ok (.ifCond .eq 17, 3) := dk_153 (dw rcX7_passNumber_0 4 rfl) rfl
theorem dX7_passNumber_9 : decode cX7_passNumber 9 = .ok (.aload_n 0, 1) := dk_42 (dw rcX7_passNumber_0 5 rfl)
theorem dX7_passNumber_10 : decode cX7_passNumber 10 = .ok (.getfield 26, 3) := dk_180 (dw rcX7_passNumber_0 6 rfl) rfl
theorem dX7_passNumber_13 : decode cX7_passNumber 13 = .ok (.invokevirtual 89, 3) := dk_182 (dw rcX7_passNumber_0 7 rfl) rfl
theorem dX7_passNumber_16 : decode cX7_passNumber 16 = .ok (.ifCond .eq 7, 3) := dk_153 (dw rcX7_passNumber_0 8 rfl) rfl
theorem dX7_passNumber_19 : decode cX7_passNumber 19 = .ok (.iconst 1, 1) := dk_4 (dw rcX7_passNumber_0 9 rfl)
theorem dX7_passNumber_20 : decode cX7_passNumber 20 = .ok (.goto 4, 3) := dk_167 (dw rcX7_passNumber_0 10 rfl) rfl
theorem dX7_passNumber_23 : decode cX7_passNumber 23 = .ok (.iconst 0, 1) := dk_3 (dw rcX7_passNumber_0 11 rfl)
theorem dX7_passNumber_24 : decode cX7_passNumber 24 = .ok (.ireturn, 1) := dk_172 (dw rcX7_passNumber_0 12 rfl)
set_option maxHeartbeats 4000000 in
set_option maxRecDepth 100000 in
theorem k_rFirst (l : Launch) (D : va_G) (k : KT) (A : Nat → Prop) (a : Nat → Nat) (z : SK) (G : GS) (p0 : Int32) (ha_p0 : 0 ≤ p0.toInt ∧ p0.toInt ≤ 1) : Met l yX7_passFirst (WS yX7_passFirst cX7_passFirst 2 (some .boolean)) ({ frames := 7, cells := 0, slots := 0, locals := 148 }) (va_Pc [.ref (a 5), .int p0] (cW D k A a z G)) (va_Qi (fun (r : Int32) (G1 : GS) => P_rFirst p0 G r G1) (fun (G1 : GS) t => Wd D k A a G1 t.heap) A) 0 0 A := by
  refine Met.ofW (cc := cX7_passFirst) (maxL := 2) (ret := (some .boolean)) (by decide) rfl ?_
  intro p e s m args below meth c s₁ B hml hv
  obtain ⟨rfl, hW, hB_G, hK, hZ⟩ := hv
  have hx := B.exec
  have hb := B.bytes
  have hr := B.returns
  have hts := atoms_spec (ws := WS yX7_passFirst cX7_passFirst 2 (some .boolean)) B.pre
  have hgd : ∀ w ∈ gd, w ∈ WS yX7_passFirst cX7_passFirst 2 (some .boolean) := fun w h => List.mem_cons_of_mem _ h
  have hg : ∀ w ∈ gd, w.before _ s = true := fun w h => hts w (hgd w h)
  have hown : s.vm.findClass RX7 = some m.cls := findClass_of_methodNamed B.named
  have hS : va_S A s.heap s.heap [] := va_S.rf
  have hF : Fr [] [(3, 2), (3, 3), (3, 4), (3, 5), (3, 6), (3, 7), (3, 8)] G G := Fr.rf
  have hl := lv_entry ([.ref (a 5), .int p0]) (n := 2) (Nat.le_of_ble_eq_true rfl)
  rw [lg_entry_eq]
  generalize (lg_sl ([.ref (a 5), .int p0]) ++ List.replicate (2 - (lg_sl ([.ref (a 5), .int p0])).length) Slot.unset).toArray = ls at hl ⊢
  have hl : lv_has ls 2 [(0, .ref (a 5)), (1, .int p0)] := hl
  refine lv_iload_n hx hb dX7_passFirst_0 rfl (lv_at hl 1 rfl) ?_
  refine lv_if_eq (tgt := 14) hx hb dX7_passFirst_1 rfl (fun c_1 => ?_) (fun c_1 => ?_)
  · have c_1 : p0.toInt = 0 := xI_eq rfl rfl c_1
    refine lv_aload_n hx hb dX7_passFirst_14 rfl (lv_at hl 0 rfl) ?_
    refine S_getR (n := 3) (C := RX7) (T := TX7) (N := 10) hx hb hg iX7 hown hK hW kd_5 rfl 0 (lt_b rfl) (hg (Cond.fieldLink RX7 26 "SlabWalk$Reader" "tokens" "LSlabWalk$Tokens;") m311) (fun _ h9 => h9) rfl dX7_passFirst_15 ?_
    refine ic_2 hx hb dX7_passFirst_18 ?_
    refine S_calli (va_runV (As := [.int 2]) (rest := []) ⟨hx, hb, hml, hown, hts⟩ (k_tRefuse l D k A a z G 2 ⟨by decide, by decide⟩) (cwV 1 hts (gd_V hgd m778 m779 m780 m120 m781) rfl rfl rfl hd_X9_refuse ⟨Nat.le_of_ble_eq_true rfl, Nat.le_of_ble_eq_true rfl⟩) (pre_W hW hB_G hK hZ hS kd_3 rfl) rfl rfl hl.1 rfl (lv_room (Nat.le_of_ble_eq_true rfl)) dX7_passFirst_19 ⟨Nat.le_of_ble_eq_true rfl, Nat.le_of_ble_eq_true rfl⟩) hS (fun r_2 G_3 H locs hpo hW hS => ?_)
    have hX_6 : P_tRefuse 2 G r_2 G_3 := hpo
    obtain ⟨hB_G_3, hq_4, f_7, -⟩ := hpo
    have hF := hF.call9 hq_4 rfl rfl
    exact W.zret (v := r_2) hx hb hr (nar_z ((by first | exact f_7.1 | omega)) ((by first | exact ok_130 f_7.2 | omega))) (fun t ht _ => ⟨⟨r_2, G_3, rfl, (P_rFirst_mk ⟨hB_G_3, hF, ⟨(by first | exact f_7.1 | omega), (by first | exact ok_130 f_7.2 | omega)⟩, (by omega), (Or.inl ⟨c_1, ⟨r_2, G_3, hX_6, ⟨rfl, rfl⟩⟩⟩)⟩), wd_t ht hW⟩, hS.F ht⟩) hS.2.2 dX7_passFirst_22
  · have c_1 : p0.toInt ≠ 0 := xI_ne rfl rfl c_1
    refine lv_aload_n hx hb dX7_passFirst_4 rfl (lv_at hl 0 rfl) ?_
    refine S_getR (n := 3) (C := RX7) (T := TX7) (N := 10) hx hb hg iX7 hown hK hW kd_5 rfl 0 (lt_b rfl) (hg (Cond.fieldLink RX7 26 "SlabWalk$Reader" "tokens" "LSlabWalk$Tokens;") m311) (fun _ h9 => h9) rfl dX7_passFirst_5 ?_
    refine S_calli (va_runV (As := []) (rest := []) ⟨hx, hb, hml, hown, hts⟩ (k_tAdvance l D k A a z G  ) (cwV 0 hts (gd_V hgd m777 m639 m640 m120 m641) rfl rfl rfl hd_X9_advance ⟨Nat.le_of_ble_eq_true rfl, Nat.le_of_ble_eq_true rfl⟩) (pre_W hW hB_G hK hZ hS kd_3 rfl) rfl rfl hl.1 rfl (lv_room (Nat.le_of_ble_eq_true rfl)) dX7_passFirst_8 ⟨Nat.le_of_ble_eq_true rfl, Nat.le_of_ble_eq_true rfl⟩) hS (fun r_8 G_9 H locs hpo hW hS => ?_)
    have hX_12 : P_tAdvance G r_8 G_9 := hpo
    obtain ⟨hB_G_9, hq_10, f_13, -⟩ := hpo
    have hF := hF.call9 hq_10 rfl rfl
    refine lv_goto (tgt := 22) hx hb dX7_passFirst_11 rfl ?_
    exact W.zret (v := r_8) hx hb hr (nar_z ((by first | exact ok_131 f_13.1 | omega)) ((by first | exact f_13.2 | omega))) (fun t ht _ => ⟨⟨r_8, G_9, rfl, (P_rFirst_mk ⟨hB_G_9, hF, ⟨(by first | exact ok_131 f_13.1 | omega), (by first | exact f_13.2 | omega)⟩, (by omega), (Or.inr ⟨c_1, ⟨r_8, G_9, hX_12, ⟨rfl, rfl⟩⟩⟩)⟩), wd_t ht hW⟩, hS.F ht⟩) hS.2.2 dX7_passFirst_22

set_option maxHeartbeats 4000000 in
set_option maxRecDepth 100000 in
theorem k_rName_34 (l : Launch) (D : va_G) (k : KT) (A : Nat → Prop) (a : Nat → Nat) (z : SK) (G : GS) (p0 : Int32) (ha_p0 : 0 ≤ p0.toInt ∧ p0.toInt ≤ 6) : Met l yX7_passName (WS yX7_passName cX7_passName 4 (some .boolean)) ({ frames := 7, cells := 0, slots := 0, locals := 148 }) (va_Pc [.ref (a 5), .ref (a 34), .int p0] (cW D k A a z G)) (va_Qi (fun (r : Int32) (G1 : GS) => P_rName_34 p0 G r G1) (fun (G1 : GS) t => Wd D k A a G1 t.heap) A) 0 0 A := by
  refine Met.ofW (cc := cX7_passName) (maxL := 4) (ret := (some .boolean)) (by decide) rfl ?_
  intro p e s m args below meth c s₁ B hml hv
  obtain ⟨rfl, hW, hB_G, hK, hZ⟩ := hv
  have hx := B.exec
  have hb := B.bytes
  have hr := B.returns
  have hts := atoms_spec (ws := WS yX7_passName cX7_passName 4 (some .boolean)) B.pre
  have hgd : ∀ w ∈ gd, w ∈ WS yX7_passName cX7_passName 4 (some .boolean) := fun w h => List.mem_cons_of_mem _ h
  have hg : ∀ w ∈ gd, w.before _ s = true := fun w h => hts w (hgd w h)
  have hown : s.vm.findClass RX7 = some m.cls := findClass_of_methodNamed B.named
  have hS : va_S A s.heap s.heap [] := va_S.rf
  have hF : Fr [34] [(3, 2), (3, 3), (3, 4), (3, 5), (3, 6), (3, 7), (3, 8)] G G := Fr.rf
  have hl := lv_entry ([.ref (a 5), .ref (a 34), .int p0]) (n := 4) (Nat.le_of_ble_eq_true rfl)
  rw [lg_entry_eq]
  generalize (lg_sl ([.ref (a 5), .ref (a 34), .int p0]) ++ List.replicate (4 - (lg_sl ([.ref (a 5), .ref (a 34), .int p0])).length) Slot.unset).toArray = ls at hl ⊢
  have hl : lv_has ls 4 [(0, .ref (a 5)), (1, .ref (a 34)), (2, .int p0)] := hl
  refine lv_aload_n hx hb dX7_passName_0 rfl (lv_at hl 0 rfl) ?_
  refine S_getR (n := 3) (C := RX7) (T := TX7) (N := 10) hx hb hg iX7 hown hK hW kd_5 rfl 0 (lt_b rfl) (hg (Cond.fieldLink RX7 26 "SlabWalk$Reader" "tokens" "LSlabWalk$Tokens;") m311) (fun _ h9 => h9) rfl dX7_passName_1 ?_
  refine S_getI (v := (G.1 3 3)) (C := RX9) (T := TX9) (N := 9) hx hb hg iX9 hown hK hW kd_3 rfl 3 (lt_b rfl) (hg (Cond.fieldLink RX7 62 "SlabWalk$Tokens" "kind" "I") m261) (fun _ h9 => h9) rfl rfl dX7_passName_4 ?_
  refine lv_sipush (v := 200) hx hb dX7_passName_7 (by decide) ?_
  refine lv_icmp_ne (tgt := 19) hx hb dX7_passName_10 rfl (fun c_1 => ?_) (fun c_1 => ?_)
  · have c_1 : (G.1 3 3).toInt ≠ 200 := xI_ne rfl rfl c_1
    refine lv_aload_n hx hb dX7_passName_19 rfl (lv_at hl 0 rfl) ?_
    refine S_getR (n := 3) (C := RX7) (T := TX7) (N := 10) hx hb hg iX7 hown hK hW kd_5 rfl 0 (lt_b rfl) (hg (Cond.fieldLink RX7 26 "SlabWalk$Reader" "tokens" "LSlabWalk$Tokens;") m311) (fun _ h9 => h9) rfl dX7_passName_20 ?_
    refine ic_2 hx hb dX7_passName_23 ?_
    refine S_calli (va_runV (As := [.int 2]) (rest := []) ⟨hx, hb, hml, hown, hts⟩ (k_tRefuse l D k A a z G 2 ⟨by decide, by decide⟩) (cwV 1 hts (gd_V hgd m778 m779 m780 m120 m781) rfl rfl rfl hd_X9_refuse ⟨Nat.le_of_ble_eq_true rfl, Nat.le_of_ble_eq_true rfl⟩) (pre_W hW hB_G hK hZ hS kd_3 rfl) rfl rfl hl.1 rfl (lv_room (Nat.le_of_ble_eq_true rfl)) dX7_passName_24 ⟨Nat.le_of_ble_eq_true rfl, Nat.le_of_ble_eq_true rfl⟩) hS (fun r_2 G_3 H locs hpo hW hS => ?_)
    have hX_6 : P_tRefuse 2 G r_2 G_3 := hpo
    obtain ⟨hB_G_3, hq_4, f_7, -⟩ := hpo
    have hF := hF.call9 hq_4 rfl rfl
    exact W.zret (v := r_2) hx hb hr (nar_z ((by first | exact f_7.1 | omega)) ((by first | exact ok_130 f_7.2 | omega))) (fun t ht _ => ⟨⟨r_2, G_3, rfl, (P_rName_34_mk ⟨hB_G_3, hF, ⟨(by first | exact f_7.1 | omega), (by first | exact ok_130 f_7.2 | omega)⟩, (Or.inr ⟨c_1, ⟨r_2, G_3, hX_6, ⟨rfl, rfl⟩⟩⟩)⟩), wd_t ht hW⟩, hS.F ht⟩) hS.2.2 dX7_passName_27
  · have c_1 : (G.1 3 3).toInt = 200 := xI_eq rfl rfl c_1
    refine lv_iload_n hx hb dX7_passName_13 rfl (lv_at hl 2 rfl) ?_
    refine lv_aload_n hx hb dX7_passName_14 rfl (lv_at hl 1 rfl) ?_
    refine S_alen (v := 3) hx hb hK hW kd_34 2 rfl rfl dX7_passName_15 ?_
    refine lv_icmp_lt (tgt := 28) hx hb dX7_passName_16 rfl (fun c_8 => ?_) (fun c_8 => ?_)
    · have c_8 : p0.toInt < 3 := xI_lt rfl rfl c_8
      refine ic_0 hx hb dX7_passName_28 ?_
      refine lv_istore_n (lv' := [(3, .int 0), (0, .ref (a 5)), (1, .ref (a 34)), (2, .int p0)]) hx hb dX7_passName_29 rfl hl (lt_b rfl) rfl (fun ls hl => ?_)
      have qc_15 : (0 : Int32).toInt = 0 := rfl
      refine loop_N (Inv := fun n H locs ls => ∃ (G_9 : GS) (x_13 : Int32), (n : Int) = 2 - x_13.toInt ∧ (0 ≤ x_13.toInt ∧ x_13.toInt ≤ 2) ∧ Rc (St_k_rName_34_1 p0 G) (0, G) (x_13, G_9) ∧ Wd D k A a G_9 H ∧ Bd G_9 ∧ Fr [34] [(3, 2), (3, 3), (3, 4), (3, 5), (3, 6), (3, 7), (3, 8)] G G_9 ∧ Fr [] [] G G_9 ∧ va_S A s.heap H locs ∧ lv_has ls 4 [(3, .int x_13), (0, .ref (a 5)), (1, .ref (a 34)), (2, .int p0)]) (fun n_12 H locs ls ih_11 hI => ?_) (2 - 0 : Int).toNat ⟨G, 0, (Int.toNat_of_nonneg ((by decide))), ⟨(by decide), (by decide)⟩, Rc.rf, hW, hB_G, hF, Fr.rf, hS, lv_sub hl [0, 1, 2, 3] rfl⟩
      obtain ⟨G_9, x_13, hn_17, f_16, hX_14, hW, hB_G_9, hF, hq_10, hS, hl⟩ := hI
      refine lv_iload_n hx hb dX7_passName_30 rfl (lv_at hl 0 rfl) ?_
      refine lv_iload_n hx hb dX7_passName_31 rfl (lv_at hl 3 rfl) ?_
      refine lv_icmp_ge (tgt := 64) hx hb dX7_passName_32 rfl (fun c_18 => ?_) (fun c_18 => ?_)
      · have c_18 : p0.toInt ≤ x_13.toInt := xI_le rfl rfl c_18
        refine lv_aload_n hx hb dX7_passName_64 rfl (lv_at hl 2 rfl) ?_
        refine lv_iload_n hx hb dX7_passName_65 rfl (lv_at hl 3 rfl) ?_
        refine lv_aload_n hx hb dX7_passName_66 rfl (lv_at hl 1 rfl) ?_
        refine S_getR (n := 3) (C := RX7) (T := TX7) (N := 10) hx hb hg iX7 hown hK hW kd_5 rfl 0 (lt_b rfl) (hg (Cond.fieldLink RX7 26 "SlabWalk$Reader" "tokens" "LSlabWalk$Tokens;") m311) (fun _ h9 => h9) rfl dX7_passName_67 ?_
        obtain ⟨y_19, ey_19⟩ : ∃ q, G_9.2.1 3 6 = q := ⟨_, rfl⟩
        refine S_getL (v := y_19) (C := RX9) (T := TX9) (N := 9) hx hb hg iX9 hown hK hW kd_3 rfl 6 (lt_b rfl) (hg (Cond.fieldLink RX7 92 "SlabWalk$Tokens" "word" "J") m268) (fun _ h9 => h9) rfl ey_19 dX7_passName_70 ?_
        refine S_last hx hb hK hW hS kd_34 (vin ((by first | exact ha_p0.1 | omega)) ((by first | exact ok_390 c_8 | omega))) dX7_passName_73 (fun G_20 H locs eG_20 hW hS => ?_)
        have hB_G_20 : Bd G_20 := hB_G_9.putl eG_20
        have hF := hF.putl eG_20 (Or.inl (by decide))
        refine lv_aload_n hx hb dX7_passName_74 rfl (lv_at hl 1 rfl) ?_
        refine S_getR (n := 3) (C := RX7) (T := TX7) (N := 10) hx hb hg iX7 hown hK hW kd_5 rfl 0 (lt_b rfl) (hg (Cond.fieldLink RX7 26 "SlabWalk$Reader" "tokens" "LSlabWalk$Tokens;") m311) (fun _ h9 => h9) rfl dX7_passName_75 ?_
        refine S_calli (va_runV (As := []) (rest := []) ⟨hx, hb, hml, hown, hts⟩ (k_tAdvance l D k A a z G_20  ) (cwV 0 hts (gd_V hgd m777 m639 m640 m120 m641) rfl rfl rfl hd_X9_advance ⟨Nat.le_of_ble_eq_true rfl, Nat.le_of_ble_eq_true rfl⟩) (pre_W hW hB_G_20 hK hZ hS kd_3 rfl) rfl rfl hl.1 rfl (lv_room (Nat.le_of_ble_eq_true rfl)) dX7_passName_78 ⟨Nat.le_of_ble_eq_true rfl, Nat.le_of_ble_eq_true rfl⟩) hS (fun r_21 G_22 H locs hpo hW hS => ?_)
        have hX_25 : P_tAdvance G_20 r_21 G_22 := hpo
        obtain ⟨hB_G_22, hq_23, f_26, -⟩ := hpo
        have hF := hF.call9 hq_23 rfl rfl
        exact W.zret (v := r_21) hx hb hr (nar_z ((by first | exact ok_131 f_26.1 | omega)) ((by first | exact f_26.2 | omega))) (fun t ht _ => ⟨⟨r_21, G_22, rfl, (P_rName_34_mk ⟨hB_G_22, hF, ⟨(by first | exact ok_131 f_26.1 | omega), (by first | exact f_26.2 | omega)⟩, (Or.inl ⟨c_1, (Or.inl ⟨c_8, ⟨x_13, G_9, hX_14, f_16, hB_G_9, hq_10, (Or.inl ⟨c_18, ⟨y_19, ey_19.symm.trans ((hq_10.l9 3 6 rfl rfl)), ⟨G_20, hB_G_20, (Fr.putl (rs := [34]) (fs := []) Fr.rf eG_20 (Or.inl (by decide))), rl_ast eG_20, ⟨r_21, G_22, hX_25, ⟨rfl, rfl⟩⟩⟩⟩⟩)⟩⟩)⟩)⟩), wd_t ht hW⟩, hS.F ht⟩) hS.2.2 dX7_passName_81
      · have c_18 : x_13.toInt < p0.toInt := xI_nle rfl rfl c_18
        refine lv_aload_n hx hb dX7_passName_35 rfl (lv_at hl 2 rfl) ?_
        refine lv_iload_n hx hb dX7_passName_36 rfl (lv_at hl 0 rfl) ?_
        refine S_lald hx hb hK hW kd_34 (vin ((by first | exact f_16.1 | omega)) ((by first | exact ok_174 f_16.2 | omega))) dX7_passName_37 (fun y_27 ey_27 => ?_)
        refine lv_aload_n hx hb dX7_passName_38 rfl (lv_at hl 1 rfl) ?_
        refine S_getR (n := 3) (C := RX7) (T := TX7) (N := 10) hx hb hg iX7 hown hK hW kd_5 rfl 0 (lt_b rfl) (hg (Cond.fieldLink RX7 26 "SlabWalk$Reader" "tokens" "LSlabWalk$Tokens;") m311) (fun _ h9 => h9) rfl dX7_passName_39 ?_
        obtain ⟨y_28, ey_28⟩ : ∃ q, G_9.2.1 3 6 = q := ⟨_, rfl⟩
        refine S_getL (v := y_28) (C := RX9) (T := TX9) (N := 9) hx hb hg iX9 hown hK hW kd_3 rfl 6 (lt_b rfl) (hg (Cond.fieldLink RX7 92 "SlabWalk$Tokens" "word" "J") m268) (fun _ h9 => h9) rfl ey_28 dX7_passName_42 ?_
        refine W.lcmp hx hb dX7_passName_45 ?_
        refine lv_topi (fun y_29 ey_29 => ?_)
        have ty_29 := lcmp_rng ey_29
        refine lv_if_ne (tgt := 58) hx hb dX7_passName_46 rfl (fun c_30 => ?_) (fun c_30 => ?_)
        · have c_30 : y_29.toInt ≠ 0 := xI_ne rfl rfl c_30
          obtain ⟨y_31, ey_31⟩ : ∃ q, q = x_13 + 1 := ⟨_, rfl⟩
          have ty_31 : y_31.toInt = x_13.toInt + 1 := xI_add rfl rfl ey_31 ((by first | exact ok_21 f_16.1 | omega)) ((by first | exact ok_391 f_16.2 | omega))
          refine lv_iinc (v := y_31) (lv' := [(3, .int y_31), (0, .ref (a 5)), (1, .ref (a 34)), (2, .int p0)]) hx hb dX7_passName_58 hl (k := 0) rfl (by rw [ey_31]; rfl) (lt_b rfl) rfl (fun ls hl => ?_)
          refine lv_goto (tgt := 30) hx hb dX7_passName_61 rfl ?_
          exact ih_11 (2 - y_31.toInt : Int).toNat ((by first | (clear c_1 ty_29 c_30; omega) | omega)) _ _ _ ⟨G_9, y_31, (Int.toNat_of_nonneg ((by first | exact ok_392 c_8 f_16.2 c_18 ty_31 | omega))), ⟨(by first | exact ok_23 f_16.1 ty_31 | omega), (by first | exact ok_393 c_8 f_16.2 c_18 ty_31 | omega)⟩, (hX_14.st (St_k_rName_34_1_mk ⟨x_13, G_9, y_31, G_9, rfl, rfl, f_16, hB_G_9, ⟨c_18, ⟨y_27, ey_27, ⟨y_28, ey_28.symm.trans ((hq_10.l9 3 6 rfl rfl)), ⟨y_29, ey_29, ⟨c_30, ⟨y_31, ty_31, ⟨rfl, rfl⟩⟩⟩⟩⟩⟩⟩⟩)), hW, hB_G_9, hF, (Fr.call9 (rs := []) (fs := []) Fr.rf hq_10 rfl rfl), hS, lv_sub hl [0, 1, 2, 3] rfl⟩
        · have c_30 : y_29.toInt = 0 := xI_eq rfl rfl c_30
          refine lv_aload_n hx hb dX7_passName_49 rfl (lv_at hl 1 rfl) ?_
          refine S_getR (n := 3) (C := RX7) (T := TX7) (N := 10) hx hb hg iX7 hown hK hW kd_5 rfl 0 (lt_b rfl) (hg (Cond.fieldLink RX7 26 "SlabWalk$Reader" "tokens" "LSlabWalk$Tokens;") m311) (fun _ h9 => h9) rfl dX7_passName_50 ?_
          refine ic_3 hx hb dX7_passName_53 ?_
          refine S_calli (va_runV (As := [.int 3]) (rest := []) ⟨hx, hb, hml, hown, hts⟩ (k_tRefuse l D k A a z G_9 3 ⟨by decide, by decide⟩) (cwV 1 hts (gd_V hgd m778 m779 m780 m120 m781) rfl rfl rfl hd_X9_refuse ⟨Nat.le_of_ble_eq_true rfl, Nat.le_of_ble_eq_true rfl⟩) (pre_W hW hB_G_9 hK hZ hS kd_3 rfl) rfl rfl hl.1 rfl (lv_room (Nat.le_of_ble_eq_true rfl)) dX7_passName_54 ⟨Nat.le_of_ble_eq_true rfl, Nat.le_of_ble_eq_true rfl⟩) hS (fun r_32 G_33 H locs hpo hW hS => ?_)
          have hX_36 : P_tRefuse 3 G_9 r_32 G_33 := hpo
          obtain ⟨hB_G_33, hq_34, f_37, -⟩ := hpo
          have hF := hF.call9 hq_34 rfl rfl
          exact W.zret (v := r_32) hx hb hr (nar_z ((by first | exact f_37.1 | omega)) ((by first | exact ok_130 f_37.2 | omega))) (fun t ht _ => ⟨⟨r_32, G_33, rfl, (P_rName_34_mk ⟨hB_G_33, hF, ⟨(by first | exact f_37.1 | omega), (by first | exact ok_130 f_37.2 | omega)⟩, (Or.inl ⟨c_1, (Or.inl ⟨c_8, ⟨x_13, G_9, hX_14, f_16, hB_G_9, hq_10, (Or.inr ⟨c_18, ⟨y_27, ey_27, ⟨y_28, ey_28.symm.trans ((hq_10.l9 3 6 rfl rfl)), ⟨y_29, ey_29, ⟨c_30, ⟨r_32, G_33, hX_36, ⟨rfl, rfl⟩⟩⟩⟩⟩⟩⟩)⟩⟩)⟩)⟩), wd_t ht hW⟩, hS.F ht⟩) hS.2.2 dX7_passName_57
    · have c_8 : 3 ≤ p0.toInt := xI_nlt rfl rfl c_8
      refine lv_aload_n hx hb dX7_passName_19 rfl (lv_at hl 0 rfl) ?_
      refine S_getR (n := 3) (C := RX7) (T := TX7) (N := 10) hx hb hg iX7 hown hK hW kd_5 rfl 0 (lt_b rfl) (hg (Cond.fieldLink RX7 26 "SlabWalk$Reader" "tokens" "LSlabWalk$Tokens;") m311) (fun _ h9 => h9) rfl dX7_passName_20 ?_
      refine ic_2 hx hb dX7_passName_23 ?_
      refine S_calli (va_runV (As := [.int 2]) (rest := []) ⟨hx, hb, hml, hown, hts⟩ (k_tRefuse l D k A a z G 2 ⟨by decide, by decide⟩) (cwV 1 hts (gd_V hgd m778 m779 m780 m120 m781) rfl rfl rfl hd_X9_refuse ⟨Nat.le_of_ble_eq_true rfl, Nat.le_of_ble_eq_true rfl⟩) (pre_W hW hB_G hK hZ hS kd_3 rfl) rfl rfl hl.1 rfl (lv_room (Nat.le_of_ble_eq_true rfl)) dX7_passName_24 ⟨Nat.le_of_ble_eq_true rfl, Nat.le_of_ble_eq_true rfl⟩) hS (fun r_38 G_39 H locs hpo hW hS => ?_)
      have hX_42 : P_tRefuse 2 G r_38 G_39 := hpo
      obtain ⟨hB_G_39, hq_40, f_43, -⟩ := hpo
      have hF := hF.call9 hq_40 rfl rfl
      exact W.zret (v := r_38) hx hb hr (nar_z ((by first | exact f_43.1 | omega)) ((by first | exact ok_130 f_43.2 | omega))) (fun t ht _ => ⟨⟨r_38, G_39, rfl, (P_rName_34_mk ⟨hB_G_39, hF, ⟨(by first | exact f_43.1 | omega), (by first | exact ok_130 f_43.2 | omega)⟩, (Or.inl ⟨c_1, (Or.inr ⟨c_8, ⟨r_38, G_39, hX_42, ⟨rfl, rfl⟩⟩⟩)⟩)⟩), wd_t ht hW⟩, hS.F ht⟩) hS.2.2 dX7_passName_27

set_option maxHeartbeats 4000000 in
set_option maxRecDepth 100000 in
theorem k_rName_35 (l : Launch) (D : va_G) (k : KT) (A : Nat → Prop) (a : Nat → Nat) (z : SK) (G : GS) (p0 : Int32) (ha_p0 : 0 ≤ p0.toInt ∧ p0.toInt ≤ 6) : Met l yX7_passName (WS yX7_passName cX7_passName 4 (some .boolean)) ({ frames := 7, cells := 0, slots := 0, locals := 148 }) (va_Pc [.ref (a 5), .ref (a 35), .int p0] (cW D k A a z G)) (va_Qi (fun (r : Int32) (G1 : GS) => P_rName_35 p0 G r G1) (fun (G1 : GS) t => Wd D k A a G1 t.heap) A) 0 0 A := by
  refine Met.ofW (cc := cX7_passName) (maxL := 4) (ret := (some .boolean)) (by decide) rfl ?_
  intro p e s m args below meth c s₁ B hml hv
  obtain ⟨rfl, hW, hB_G, hK, hZ⟩ := hv
  have hx := B.exec
  have hb := B.bytes
  have hr := B.returns
  have hts := atoms_spec (ws := WS yX7_passName cX7_passName 4 (some .boolean)) B.pre
  have hgd : ∀ w ∈ gd, w ∈ WS yX7_passName cX7_passName 4 (some .boolean) := fun w h => List.mem_cons_of_mem _ h
  have hg : ∀ w ∈ gd, w.before _ s = true := fun w h => hts w (hgd w h)
  have hown : s.vm.findClass RX7 = some m.cls := findClass_of_methodNamed B.named
  have hS : va_S A s.heap s.heap [] := va_S.rf
  have hF : Fr [35] [(3, 2), (3, 3), (3, 4), (3, 5), (3, 6), (3, 7), (3, 8)] G G := Fr.rf
  have hl := lv_entry ([.ref (a 5), .ref (a 35), .int p0]) (n := 4) (Nat.le_of_ble_eq_true rfl)
  rw [lg_entry_eq]
  generalize (lg_sl ([.ref (a 5), .ref (a 35), .int p0]) ++ List.replicate (4 - (lg_sl ([.ref (a 5), .ref (a 35), .int p0])).length) Slot.unset).toArray = ls at hl ⊢
  have hl : lv_has ls 4 [(0, .ref (a 5)), (1, .ref (a 35)), (2, .int p0)] := hl
  refine lv_aload_n hx hb dX7_passName_0 rfl (lv_at hl 0 rfl) ?_
  refine S_getR (n := 3) (C := RX7) (T := TX7) (N := 10) hx hb hg iX7 hown hK hW kd_5 rfl 0 (lt_b rfl) (hg (Cond.fieldLink RX7 26 "SlabWalk$Reader" "tokens" "LSlabWalk$Tokens;") m311) (fun _ h9 => h9) rfl dX7_passName_1 ?_
  refine S_getI (v := (G.1 3 3)) (C := RX9) (T := TX9) (N := 9) hx hb hg iX9 hown hK hW kd_3 rfl 3 (lt_b rfl) (hg (Cond.fieldLink RX7 62 "SlabWalk$Tokens" "kind" "I") m261) (fun _ h9 => h9) rfl rfl dX7_passName_4 ?_
  refine lv_sipush (v := 200) hx hb dX7_passName_7 (by decide) ?_
  refine lv_icmp_ne (tgt := 19) hx hb dX7_passName_10 rfl (fun c_1 => ?_) (fun c_1 => ?_)
  · have c_1 : (G.1 3 3).toInt ≠ 200 := xI_ne rfl rfl c_1
    refine lv_aload_n hx hb dX7_passName_19 rfl (lv_at hl 0 rfl) ?_
    refine S_getR (n := 3) (C := RX7) (T := TX7) (N := 10) hx hb hg iX7 hown hK hW kd_5 rfl 0 (lt_b rfl) (hg (Cond.fieldLink RX7 26 "SlabWalk$Reader" "tokens" "LSlabWalk$Tokens;") m311) (fun _ h9 => h9) rfl dX7_passName_20 ?_
    refine ic_2 hx hb dX7_passName_23 ?_
    refine S_calli (va_runV (As := [.int 2]) (rest := []) ⟨hx, hb, hml, hown, hts⟩ (k_tRefuse l D k A a z G 2 ⟨by decide, by decide⟩) (cwV 1 hts (gd_V hgd m778 m779 m780 m120 m781) rfl rfl rfl hd_X9_refuse ⟨Nat.le_of_ble_eq_true rfl, Nat.le_of_ble_eq_true rfl⟩) (pre_W hW hB_G hK hZ hS kd_3 rfl) rfl rfl hl.1 rfl (lv_room (Nat.le_of_ble_eq_true rfl)) dX7_passName_24 ⟨Nat.le_of_ble_eq_true rfl, Nat.le_of_ble_eq_true rfl⟩) hS (fun r_2 G_3 H locs hpo hW hS => ?_)
    have hX_6 : P_tRefuse 2 G r_2 G_3 := hpo
    obtain ⟨hB_G_3, hq_4, f_7, -⟩ := hpo
    have hF := hF.call9 hq_4 rfl rfl
    exact W.zret (v := r_2) hx hb hr (nar_z ((by first | exact f_7.1 | omega)) ((by first | exact ok_130 f_7.2 | omega))) (fun t ht _ => ⟨⟨r_2, G_3, rfl, (P_rName_35_mk ⟨hB_G_3, hF, ⟨(by first | exact f_7.1 | omega), (by first | exact ok_130 f_7.2 | omega)⟩, (Or.inr ⟨c_1, ⟨r_2, G_3, hX_6, ⟨rfl, rfl⟩⟩⟩)⟩), wd_t ht hW⟩, hS.F ht⟩) hS.2.2 dX7_passName_27
  · have c_1 : (G.1 3 3).toInt = 200 := xI_eq rfl rfl c_1
    refine lv_iload_n hx hb dX7_passName_13 rfl (lv_at hl 2 rfl) ?_
    refine lv_aload_n hx hb dX7_passName_14 rfl (lv_at hl 1 rfl) ?_
    refine S_alen (v := 4) hx hb hK hW kd_35 2 rfl rfl dX7_passName_15 ?_
    refine lv_icmp_lt (tgt := 28) hx hb dX7_passName_16 rfl (fun c_8 => ?_) (fun c_8 => ?_)
    · have c_8 : p0.toInt < 4 := xI_lt rfl rfl c_8
      refine ic_0 hx hb dX7_passName_28 ?_
      refine lv_istore_n (lv' := [(3, .int 0), (0, .ref (a 5)), (1, .ref (a 35)), (2, .int p0)]) hx hb dX7_passName_29 rfl hl (lt_b rfl) rfl (fun ls hl => ?_)
      have qc_15 : (0 : Int32).toInt = 0 := rfl
      refine loop_N (Inv := fun n H locs ls => ∃ (G_9 : GS) (x_13 : Int32), (n : Int) = 3 - x_13.toInt ∧ (0 ≤ x_13.toInt ∧ x_13.toInt ≤ 3) ∧ Rc (St_k_rName_35_1 p0 G) (0, G) (x_13, G_9) ∧ Wd D k A a G_9 H ∧ Bd G_9 ∧ Fr [35] [(3, 2), (3, 3), (3, 4), (3, 5), (3, 6), (3, 7), (3, 8)] G G_9 ∧ Fr [] [] G G_9 ∧ va_S A s.heap H locs ∧ lv_has ls 4 [(3, .int x_13), (0, .ref (a 5)), (1, .ref (a 35)), (2, .int p0)]) (fun n_12 H locs ls ih_11 hI => ?_) (3 - 0 : Int).toNat ⟨G, 0, (Int.toNat_of_nonneg ((by decide))), ⟨(by decide), (by decide)⟩, Rc.rf, hW, hB_G, hF, Fr.rf, hS, lv_sub hl [0, 1, 2, 3] rfl⟩
      obtain ⟨G_9, x_13, hn_17, f_16, hX_14, hW, hB_G_9, hF, hq_10, hS, hl⟩ := hI
      refine lv_iload_n hx hb dX7_passName_30 rfl (lv_at hl 0 rfl) ?_
      refine lv_iload_n hx hb dX7_passName_31 rfl (lv_at hl 3 rfl) ?_
      refine lv_icmp_ge (tgt := 64) hx hb dX7_passName_32 rfl (fun c_18 => ?_) (fun c_18 => ?_)
      · have c_18 : p0.toInt ≤ x_13.toInt := xI_le rfl rfl c_18
        refine lv_aload_n hx hb dX7_passName_64 rfl (lv_at hl 2 rfl) ?_
        refine lv_iload_n hx hb dX7_passName_65 rfl (lv_at hl 3 rfl) ?_
        refine lv_aload_n hx hb dX7_passName_66 rfl (lv_at hl 1 rfl) ?_
        refine S_getR (n := 3) (C := RX7) (T := TX7) (N := 10) hx hb hg iX7 hown hK hW kd_5 rfl 0 (lt_b rfl) (hg (Cond.fieldLink RX7 26 "SlabWalk$Reader" "tokens" "LSlabWalk$Tokens;") m311) (fun _ h9 => h9) rfl dX7_passName_67 ?_
        obtain ⟨y_19, ey_19⟩ : ∃ q, G_9.2.1 3 6 = q := ⟨_, rfl⟩
        refine S_getL (v := y_19) (C := RX9) (T := TX9) (N := 9) hx hb hg iX9 hown hK hW kd_3 rfl 6 (lt_b rfl) (hg (Cond.fieldLink RX7 92 "SlabWalk$Tokens" "word" "J") m268) (fun _ h9 => h9) rfl ey_19 dX7_passName_70 ?_
        refine S_last hx hb hK hW hS kd_35 (vin ((by first | exact ha_p0.1 | omega)) ((by first | exact ok_394 ha_p0.2 c_8 | omega))) dX7_passName_73 (fun G_20 H locs eG_20 hW hS => ?_)
        have hB_G_20 : Bd G_20 := hB_G_9.putl eG_20
        have hF := hF.putl eG_20 (Or.inl (by decide))
        refine lv_aload_n hx hb dX7_passName_74 rfl (lv_at hl 1 rfl) ?_
        refine S_getR (n := 3) (C := RX7) (T := TX7) (N := 10) hx hb hg iX7 hown hK hW kd_5 rfl 0 (lt_b rfl) (hg (Cond.fieldLink RX7 26 "SlabWalk$Reader" "tokens" "LSlabWalk$Tokens;") m311) (fun _ h9 => h9) rfl dX7_passName_75 ?_
        refine S_calli (va_runV (As := []) (rest := []) ⟨hx, hb, hml, hown, hts⟩ (k_tAdvance l D k A a z G_20  ) (cwV 0 hts (gd_V hgd m777 m639 m640 m120 m641) rfl rfl rfl hd_X9_advance ⟨Nat.le_of_ble_eq_true rfl, Nat.le_of_ble_eq_true rfl⟩) (pre_W hW hB_G_20 hK hZ hS kd_3 rfl) rfl rfl hl.1 rfl (lv_room (Nat.le_of_ble_eq_true rfl)) dX7_passName_78 ⟨Nat.le_of_ble_eq_true rfl, Nat.le_of_ble_eq_true rfl⟩) hS (fun r_21 G_22 H locs hpo hW hS => ?_)
        have hX_25 : P_tAdvance G_20 r_21 G_22 := hpo
        obtain ⟨hB_G_22, hq_23, f_26, -⟩ := hpo
        have hF := hF.call9 hq_23 rfl rfl
        exact W.zret (v := r_21) hx hb hr (nar_z ((by first | exact ok_131 f_26.1 | omega)) ((by first | exact f_26.2 | omega))) (fun t ht _ => ⟨⟨r_21, G_22, rfl, (P_rName_35_mk ⟨hB_G_22, hF, ⟨(by first | exact ok_131 f_26.1 | omega), (by first | exact f_26.2 | omega)⟩, (Or.inl ⟨c_1, (Or.inl ⟨c_8, ⟨x_13, G_9, hX_14, f_16, hB_G_9, hq_10, (Or.inl ⟨c_18, ⟨y_19, ey_19.symm.trans ((hq_10.l9 3 6 rfl rfl)), ⟨G_20, hB_G_20, (Fr.putl (rs := [35]) (fs := []) Fr.rf eG_20 (Or.inl (by decide))), rl_ast eG_20, ⟨r_21, G_22, hX_25, ⟨rfl, rfl⟩⟩⟩⟩⟩)⟩⟩)⟩)⟩), wd_t ht hW⟩, hS.F ht⟩) hS.2.2 dX7_passName_81
      · have c_18 : x_13.toInt < p0.toInt := xI_nle rfl rfl c_18
        refine lv_aload_n hx hb dX7_passName_35 rfl (lv_at hl 2 rfl) ?_
        refine lv_iload_n hx hb dX7_passName_36 rfl (lv_at hl 0 rfl) ?_
        refine S_lald hx hb hK hW kd_35 (vin ((by first | exact f_16.1 | omega)) ((by first | exact ok_175 f_16.2 | omega))) dX7_passName_37 (fun y_27 ey_27 => ?_)
        refine lv_aload_n hx hb dX7_passName_38 rfl (lv_at hl 1 rfl) ?_
        refine S_getR (n := 3) (C := RX7) (T := TX7) (N := 10) hx hb hg iX7 hown hK hW kd_5 rfl 0 (lt_b rfl) (hg (Cond.fieldLink RX7 26 "SlabWalk$Reader" "tokens" "LSlabWalk$Tokens;") m311) (fun _ h9 => h9) rfl dX7_passName_39 ?_
        obtain ⟨y_28, ey_28⟩ : ∃ q, G_9.2.1 3 6 = q := ⟨_, rfl⟩
        refine S_getL (v := y_28) (C := RX9) (T := TX9) (N := 9) hx hb hg iX9 hown hK hW kd_3 rfl 6 (lt_b rfl) (hg (Cond.fieldLink RX7 92 "SlabWalk$Tokens" "word" "J") m268) (fun _ h9 => h9) rfl ey_28 dX7_passName_42 ?_
        refine W.lcmp hx hb dX7_passName_45 ?_
        refine lv_topi (fun y_29 ey_29 => ?_)
        have ty_29 := lcmp_rng ey_29
        refine lv_if_ne (tgt := 58) hx hb dX7_passName_46 rfl (fun c_30 => ?_) (fun c_30 => ?_)
        · have c_30 : y_29.toInt ≠ 0 := xI_ne rfl rfl c_30
          obtain ⟨y_31, ey_31⟩ : ∃ q, q = x_13 + 1 := ⟨_, rfl⟩
          have ty_31 : y_31.toInt = x_13.toInt + 1 := xI_add rfl rfl ey_31 ((by first | exact ok_21 f_16.1 | omega)) ((by first | exact ok_43 f_16.2 | omega))
          refine lv_iinc (v := y_31) (lv' := [(3, .int y_31), (0, .ref (a 5)), (1, .ref (a 35)), (2, .int p0)]) hx hb dX7_passName_58 hl (k := 0) rfl (by rw [ey_31]; rfl) (lt_b rfl) rfl (fun ls hl => ?_)
          refine lv_goto (tgt := 30) hx hb dX7_passName_61 rfl ?_
          exact ih_11 (3 - y_31.toInt : Int).toNat ((by first | (clear c_1 ty_29 c_30; omega) | omega)) _ _ _ ⟨G_9, y_31, (Int.toNat_of_nonneg ((by first | exact ok_395 c_8 f_16.2 c_18 ty_31 | omega))), ⟨(by first | exact ok_23 f_16.1 ty_31 | omega), (by first | exact ok_396 c_8 f_16.2 c_18 ty_31 | omega)⟩, (hX_14.st (St_k_rName_35_1_mk ⟨x_13, G_9, y_31, G_9, rfl, rfl, f_16, hB_G_9, ⟨c_18, ⟨y_27, ey_27, ⟨y_28, ey_28.symm.trans ((hq_10.l9 3 6 rfl rfl)), ⟨y_29, ey_29, ⟨c_30, ⟨y_31, ty_31, ⟨rfl, rfl⟩⟩⟩⟩⟩⟩⟩⟩)), hW, hB_G_9, hF, (Fr.call9 (rs := []) (fs := []) Fr.rf hq_10 rfl rfl), hS, lv_sub hl [0, 1, 2, 3] rfl⟩
        · have c_30 : y_29.toInt = 0 := xI_eq rfl rfl c_30
          refine lv_aload_n hx hb dX7_passName_49 rfl (lv_at hl 1 rfl) ?_
          refine S_getR (n := 3) (C := RX7) (T := TX7) (N := 10) hx hb hg iX7 hown hK hW kd_5 rfl 0 (lt_b rfl) (hg (Cond.fieldLink RX7 26 "SlabWalk$Reader" "tokens" "LSlabWalk$Tokens;") m311) (fun _ h9 => h9) rfl dX7_passName_50 ?_
          refine ic_3 hx hb dX7_passName_53 ?_
          refine S_calli (va_runV (As := [.int 3]) (rest := []) ⟨hx, hb, hml, hown, hts⟩ (k_tRefuse l D k A a z G_9 3 ⟨by decide, by decide⟩) (cwV 1 hts (gd_V hgd m778 m779 m780 m120 m781) rfl rfl rfl hd_X9_refuse ⟨Nat.le_of_ble_eq_true rfl, Nat.le_of_ble_eq_true rfl⟩) (pre_W hW hB_G_9 hK hZ hS kd_3 rfl) rfl rfl hl.1 rfl (lv_room (Nat.le_of_ble_eq_true rfl)) dX7_passName_54 ⟨Nat.le_of_ble_eq_true rfl, Nat.le_of_ble_eq_true rfl⟩) hS (fun r_32 G_33 H locs hpo hW hS => ?_)
          have hX_36 : P_tRefuse 3 G_9 r_32 G_33 := hpo
          obtain ⟨hB_G_33, hq_34, f_37, -⟩ := hpo
          have hF := hF.call9 hq_34 rfl rfl
          exact W.zret (v := r_32) hx hb hr (nar_z ((by first | exact f_37.1 | omega)) ((by first | exact ok_130 f_37.2 | omega))) (fun t ht _ => ⟨⟨r_32, G_33, rfl, (P_rName_35_mk ⟨hB_G_33, hF, ⟨(by first | exact f_37.1 | omega), (by first | exact ok_130 f_37.2 | omega)⟩, (Or.inl ⟨c_1, (Or.inl ⟨c_8, ⟨x_13, G_9, hX_14, f_16, hB_G_9, hq_10, (Or.inr ⟨c_18, ⟨y_27, ey_27, ⟨y_28, ey_28.symm.trans ((hq_10.l9 3 6 rfl rfl)), ⟨y_29, ey_29, ⟨c_30, ⟨r_32, G_33, hX_36, ⟨rfl, rfl⟩⟩⟩⟩⟩⟩⟩)⟩⟩)⟩)⟩), wd_t ht hW⟩, hS.F ht⟩) hS.2.2 dX7_passName_57
    · have c_8 : 4 ≤ p0.toInt := xI_nlt rfl rfl c_8
      refine lv_aload_n hx hb dX7_passName_19 rfl (lv_at hl 0 rfl) ?_
      refine S_getR (n := 3) (C := RX7) (T := TX7) (N := 10) hx hb hg iX7 hown hK hW kd_5 rfl 0 (lt_b rfl) (hg (Cond.fieldLink RX7 26 "SlabWalk$Reader" "tokens" "LSlabWalk$Tokens;") m311) (fun _ h9 => h9) rfl dX7_passName_20 ?_
      refine ic_2 hx hb dX7_passName_23 ?_
      refine S_calli (va_runV (As := [.int 2]) (rest := []) ⟨hx, hb, hml, hown, hts⟩ (k_tRefuse l D k A a z G 2 ⟨by decide, by decide⟩) (cwV 1 hts (gd_V hgd m778 m779 m780 m120 m781) rfl rfl rfl hd_X9_refuse ⟨Nat.le_of_ble_eq_true rfl, Nat.le_of_ble_eq_true rfl⟩) (pre_W hW hB_G hK hZ hS kd_3 rfl) rfl rfl hl.1 rfl (lv_room (Nat.le_of_ble_eq_true rfl)) dX7_passName_24 ⟨Nat.le_of_ble_eq_true rfl, Nat.le_of_ble_eq_true rfl⟩) hS (fun r_38 G_39 H locs hpo hW hS => ?_)
      have hX_42 : P_tRefuse 2 G r_38 G_39 := hpo
      obtain ⟨hB_G_39, hq_40, f_43, -⟩ := hpo
      have hF := hF.call9 hq_40 rfl rfl
      exact W.zret (v := r_38) hx hb hr (nar_z ((by first | exact f_43.1 | omega)) ((by first | exact ok_130 f_43.2 | omega))) (fun t ht _ => ⟨⟨r_38, G_39, rfl, (P_rName_35_mk ⟨hB_G_39, hF, ⟨(by first | exact f_43.1 | omega), (by first | exact ok_130 f_43.2 | omega)⟩, (Or.inl ⟨c_1, (Or.inr ⟨c_8, ⟨r_38, G_39, hX_42, ⟨rfl, rfl⟩⟩⟩)⟩)⟩), wd_t ht hW⟩, hS.F ht⟩) hS.2.2 dX7_passName_27

set_option maxHeartbeats 4000000 in
set_option maxRecDepth 100000 in
theorem k_rName_36 (l : Launch) (D : va_G) (k : KT) (A : Nat → Prop) (a : Nat → Nat) (z : SK) (G : GS) (p0 : Int32) (ha_p0 : 0 ≤ p0.toInt ∧ p0.toInt ≤ 6) : Met l yX7_passName (WS yX7_passName cX7_passName 4 (some .boolean)) ({ frames := 7, cells := 0, slots := 0, locals := 148 }) (va_Pc [.ref (a 5), .ref (a 36), .int p0] (cW D k A a z G)) (va_Qi (fun (r : Int32) (G1 : GS) => P_rName_36 p0 G r G1) (fun (G1 : GS) t => Wd D k A a G1 t.heap) A) 0 0 A := by
  refine Met.ofW (cc := cX7_passName) (maxL := 4) (ret := (some .boolean)) (by decide) rfl ?_
  intro p e s m args below meth c s₁ B hml hv
  obtain ⟨rfl, hW, hB_G, hK, hZ⟩ := hv
  have hx := B.exec
  have hb := B.bytes
  have hr := B.returns
  have hts := atoms_spec (ws := WS yX7_passName cX7_passName 4 (some .boolean)) B.pre
  have hgd : ∀ w ∈ gd, w ∈ WS yX7_passName cX7_passName 4 (some .boolean) := fun w h => List.mem_cons_of_mem _ h
  have hg : ∀ w ∈ gd, w.before _ s = true := fun w h => hts w (hgd w h)
  have hown : s.vm.findClass RX7 = some m.cls := findClass_of_methodNamed B.named
  have hS : va_S A s.heap s.heap [] := va_S.rf
  have hF : Fr [36] [(3, 2), (3, 3), (3, 4), (3, 5), (3, 6), (3, 7), (3, 8)] G G := Fr.rf
  have hl := lv_entry ([.ref (a 5), .ref (a 36), .int p0]) (n := 4) (Nat.le_of_ble_eq_true rfl)
  rw [lg_entry_eq]
  generalize (lg_sl ([.ref (a 5), .ref (a 36), .int p0]) ++ List.replicate (4 - (lg_sl ([.ref (a 5), .ref (a 36), .int p0])).length) Slot.unset).toArray = ls at hl ⊢
  have hl : lv_has ls 4 [(0, .ref (a 5)), (1, .ref (a 36)), (2, .int p0)] := hl
  refine lv_aload_n hx hb dX7_passName_0 rfl (lv_at hl 0 rfl) ?_
  refine S_getR (n := 3) (C := RX7) (T := TX7) (N := 10) hx hb hg iX7 hown hK hW kd_5 rfl 0 (lt_b rfl) (hg (Cond.fieldLink RX7 26 "SlabWalk$Reader" "tokens" "LSlabWalk$Tokens;") m311) (fun _ h9 => h9) rfl dX7_passName_1 ?_
  refine S_getI (v := (G.1 3 3)) (C := RX9) (T := TX9) (N := 9) hx hb hg iX9 hown hK hW kd_3 rfl 3 (lt_b rfl) (hg (Cond.fieldLink RX7 62 "SlabWalk$Tokens" "kind" "I") m261) (fun _ h9 => h9) rfl rfl dX7_passName_4 ?_
  refine lv_sipush (v := 200) hx hb dX7_passName_7 (by decide) ?_
  refine lv_icmp_ne (tgt := 19) hx hb dX7_passName_10 rfl (fun c_1 => ?_) (fun c_1 => ?_)
  · have c_1 : (G.1 3 3).toInt ≠ 200 := xI_ne rfl rfl c_1
    refine lv_aload_n hx hb dX7_passName_19 rfl (lv_at hl 0 rfl) ?_
    refine S_getR (n := 3) (C := RX7) (T := TX7) (N := 10) hx hb hg iX7 hown hK hW kd_5 rfl 0 (lt_b rfl) (hg (Cond.fieldLink RX7 26 "SlabWalk$Reader" "tokens" "LSlabWalk$Tokens;") m311) (fun _ h9 => h9) rfl dX7_passName_20 ?_
    refine ic_2 hx hb dX7_passName_23 ?_
    refine S_calli (va_runV (As := [.int 2]) (rest := []) ⟨hx, hb, hml, hown, hts⟩ (k_tRefuse l D k A a z G 2 ⟨by decide, by decide⟩) (cwV 1 hts (gd_V hgd m778 m779 m780 m120 m781) rfl rfl rfl hd_X9_refuse ⟨Nat.le_of_ble_eq_true rfl, Nat.le_of_ble_eq_true rfl⟩) (pre_W hW hB_G hK hZ hS kd_3 rfl) rfl rfl hl.1 rfl (lv_room (Nat.le_of_ble_eq_true rfl)) dX7_passName_24 ⟨Nat.le_of_ble_eq_true rfl, Nat.le_of_ble_eq_true rfl⟩) hS (fun r_2 G_3 H locs hpo hW hS => ?_)
    have hX_6 : P_tRefuse 2 G r_2 G_3 := hpo
    obtain ⟨hB_G_3, hq_4, f_7, -⟩ := hpo
    have hF := hF.call9 hq_4 rfl rfl
    exact W.zret (v := r_2) hx hb hr (nar_z ((by first | exact f_7.1 | omega)) ((by first | exact ok_130 f_7.2 | omega))) (fun t ht _ => ⟨⟨r_2, G_3, rfl, (P_rName_36_mk ⟨hB_G_3, hF, ⟨(by first | exact f_7.1 | omega), (by first | exact ok_130 f_7.2 | omega)⟩, (Or.inr ⟨c_1, ⟨r_2, G_3, hX_6, ⟨rfl, rfl⟩⟩⟩)⟩), wd_t ht hW⟩, hS.F ht⟩) hS.2.2 dX7_passName_27
  · have c_1 : (G.1 3 3).toInt = 200 := xI_eq rfl rfl c_1
    refine lv_iload_n hx hb dX7_passName_13 rfl (lv_at hl 2 rfl) ?_
    refine lv_aload_n hx hb dX7_passName_14 rfl (lv_at hl 1 rfl) ?_
    refine S_alen (v := 6) hx hb hK hW kd_36 2 rfl rfl dX7_passName_15 ?_
    refine lv_icmp_lt (tgt := 28) hx hb dX7_passName_16 rfl (fun c_8 => ?_) (fun c_8 => ?_)
    · have c_8 : p0.toInt < 6 := xI_lt rfl rfl c_8
      refine ic_0 hx hb dX7_passName_28 ?_
      refine lv_istore_n (lv' := [(3, .int 0), (0, .ref (a 5)), (1, .ref (a 36)), (2, .int p0)]) hx hb dX7_passName_29 rfl hl (lt_b rfl) rfl (fun ls hl => ?_)
      have qc_15 : (0 : Int32).toInt = 0 := rfl
      refine loop_N (Inv := fun n H locs ls => ∃ (G_9 : GS) (x_13 : Int32), (n : Int) = 5 - x_13.toInt ∧ (0 ≤ x_13.toInt ∧ x_13.toInt ≤ 5) ∧ Rc (St_k_rName_36_1 p0 G) (0, G) (x_13, G_9) ∧ Wd D k A a G_9 H ∧ Bd G_9 ∧ Fr [36] [(3, 2), (3, 3), (3, 4), (3, 5), (3, 6), (3, 7), (3, 8)] G G_9 ∧ Fr [] [] G G_9 ∧ va_S A s.heap H locs ∧ lv_has ls 4 [(3, .int x_13), (0, .ref (a 5)), (1, .ref (a 36)), (2, .int p0)]) (fun n_12 H locs ls ih_11 hI => ?_) (5 - 0 : Int).toNat ⟨G, 0, (Int.toNat_of_nonneg ((by decide))), ⟨(by decide), (by decide)⟩, Rc.rf, hW, hB_G, hF, Fr.rf, hS, lv_sub hl [0, 1, 2, 3] rfl⟩
      obtain ⟨G_9, x_13, hn_17, f_16, hX_14, hW, hB_G_9, hF, hq_10, hS, hl⟩ := hI
      refine lv_iload_n hx hb dX7_passName_30 rfl (lv_at hl 0 rfl) ?_
      refine lv_iload_n hx hb dX7_passName_31 rfl (lv_at hl 3 rfl) ?_
      refine lv_icmp_ge (tgt := 64) hx hb dX7_passName_32 rfl (fun c_18 => ?_) (fun c_18 => ?_)
      · have c_18 : p0.toInt ≤ x_13.toInt := xI_le rfl rfl c_18
        refine lv_aload_n hx hb dX7_passName_64 rfl (lv_at hl 2 rfl) ?_
        refine lv_iload_n hx hb dX7_passName_65 rfl (lv_at hl 3 rfl) ?_
        refine lv_aload_n hx hb dX7_passName_66 rfl (lv_at hl 1 rfl) ?_
        refine S_getR (n := 3) (C := RX7) (T := TX7) (N := 10) hx hb hg iX7 hown hK hW kd_5 rfl 0 (lt_b rfl) (hg (Cond.fieldLink RX7 26 "SlabWalk$Reader" "tokens" "LSlabWalk$Tokens;") m311) (fun _ h9 => h9) rfl dX7_passName_67 ?_
        obtain ⟨y_19, ey_19⟩ : ∃ q, G_9.2.1 3 6 = q := ⟨_, rfl⟩
        refine S_getL (v := y_19) (C := RX9) (T := TX9) (N := 9) hx hb hg iX9 hown hK hW kd_3 rfl 6 (lt_b rfl) (hg (Cond.fieldLink RX7 92 "SlabWalk$Tokens" "word" "J") m268) (fun _ h9 => h9) rfl ey_19 dX7_passName_70 ?_
        refine S_last hx hb hK hW hS kd_36 (vin ((by first | exact ha_p0.1 | omega)) ((by first | exact ok_397 ha_p0.2 c_8 | omega))) dX7_passName_73 (fun G_20 H locs eG_20 hW hS => ?_)
        have hB_G_20 : Bd G_20 := hB_G_9.putl eG_20
        have hF := hF.putl eG_20 (Or.inl (by decide))
        refine lv_aload_n hx hb dX7_passName_74 rfl (lv_at hl 1 rfl) ?_
        refine S_getR (n := 3) (C := RX7) (T := TX7) (N := 10) hx hb hg iX7 hown hK hW kd_5 rfl 0 (lt_b rfl) (hg (Cond.fieldLink RX7 26 "SlabWalk$Reader" "tokens" "LSlabWalk$Tokens;") m311) (fun _ h9 => h9) rfl dX7_passName_75 ?_
        refine S_calli (va_runV (As := []) (rest := []) ⟨hx, hb, hml, hown, hts⟩ (k_tAdvance l D k A a z G_20  ) (cwV 0 hts (gd_V hgd m777 m639 m640 m120 m641) rfl rfl rfl hd_X9_advance ⟨Nat.le_of_ble_eq_true rfl, Nat.le_of_ble_eq_true rfl⟩) (pre_W hW hB_G_20 hK hZ hS kd_3 rfl) rfl rfl hl.1 rfl (lv_room (Nat.le_of_ble_eq_true rfl)) dX7_passName_78 ⟨Nat.le_of_ble_eq_true rfl, Nat.le_of_ble_eq_true rfl⟩) hS (fun r_21 G_22 H locs hpo hW hS => ?_)
        have hX_25 : P_tAdvance G_20 r_21 G_22 := hpo
        obtain ⟨hB_G_22, hq_23, f_26, -⟩ := hpo
        have hF := hF.call9 hq_23 rfl rfl
        exact W.zret (v := r_21) hx hb hr (nar_z ((by first | exact ok_131 f_26.1 | omega)) ((by first | exact f_26.2 | omega))) (fun t ht _ => ⟨⟨r_21, G_22, rfl, (P_rName_36_mk ⟨hB_G_22, hF, ⟨(by first | exact ok_131 f_26.1 | omega), (by first | exact f_26.2 | omega)⟩, (Or.inl ⟨c_1, (Or.inl ⟨c_8, ⟨x_13, G_9, hX_14, f_16, hB_G_9, hq_10, (Or.inl ⟨c_18, ⟨y_19, ey_19.symm.trans ((hq_10.l9 3 6 rfl rfl)), ⟨G_20, hB_G_20, (Fr.putl (rs := [36]) (fs := []) Fr.rf eG_20 (Or.inl (by decide))), rl_ast eG_20, ⟨r_21, G_22, hX_25, ⟨rfl, rfl⟩⟩⟩⟩⟩)⟩⟩)⟩)⟩), wd_t ht hW⟩, hS.F ht⟩) hS.2.2 dX7_passName_81
      · have c_18 : x_13.toInt < p0.toInt := xI_nle rfl rfl c_18
        refine lv_aload_n hx hb dX7_passName_35 rfl (lv_at hl 2 rfl) ?_
        refine lv_iload_n hx hb dX7_passName_36 rfl (lv_at hl 0 rfl) ?_
        refine S_lald hx hb hK hW kd_36 (vin ((by first | exact f_16.1 | omega)) ((by first | exact ok_398 f_16.2 | omega))) dX7_passName_37 (fun y_27 ey_27 => ?_)
        refine lv_aload_n hx hb dX7_passName_38 rfl (lv_at hl 1 rfl) ?_
        refine S_getR (n := 3) (C := RX7) (T := TX7) (N := 10) hx hb hg iX7 hown hK hW kd_5 rfl 0 (lt_b rfl) (hg (Cond.fieldLink RX7 26 "SlabWalk$Reader" "tokens" "LSlabWalk$Tokens;") m311) (fun _ h9 => h9) rfl dX7_passName_39 ?_
        obtain ⟨y_28, ey_28⟩ : ∃ q, G_9.2.1 3 6 = q := ⟨_, rfl⟩
        refine S_getL (v := y_28) (C := RX9) (T := TX9) (N := 9) hx hb hg iX9 hown hK hW kd_3 rfl 6 (lt_b rfl) (hg (Cond.fieldLink RX7 92 "SlabWalk$Tokens" "word" "J") m268) (fun _ h9 => h9) rfl ey_28 dX7_passName_42 ?_
        refine W.lcmp hx hb dX7_passName_45 ?_
        refine lv_topi (fun y_29 ey_29 => ?_)
        have ty_29 := lcmp_rng ey_29
        refine lv_if_ne (tgt := 58) hx hb dX7_passName_46 rfl (fun c_30 => ?_) (fun c_30 => ?_)
        · have c_30 : y_29.toInt ≠ 0 := xI_ne rfl rfl c_30
          obtain ⟨y_31, ey_31⟩ : ∃ q, q = x_13 + 1 := ⟨_, rfl⟩
          have ty_31 : y_31.toInt = x_13.toInt + 1 := xI_add rfl rfl ey_31 ((by first | exact ok_21 f_16.1 | omega)) ((by first | exact ok_144 f_16.2 | omega))
          refine lv_iinc (v := y_31) (lv' := [(3, .int y_31), (0, .ref (a 5)), (1, .ref (a 36)), (2, .int p0)]) hx hb dX7_passName_58 hl (k := 0) rfl (by rw [ey_31]; rfl) (lt_b rfl) rfl (fun ls hl => ?_)
          refine lv_goto (tgt := 30) hx hb dX7_passName_61 rfl ?_
          exact ih_11 (5 - y_31.toInt : Int).toNat ((by first | (clear c_1 ty_29 c_30; omega) | omega)) _ _ _ ⟨G_9, y_31, (Int.toNat_of_nonneg ((by first | exact ok_399 c_8 f_16.2 c_18 ty_31 | omega))), ⟨(by first | exact ok_23 f_16.1 ty_31 | omega), (by first | exact ok_400 c_8 f_16.2 c_18 ty_31 | omega)⟩, (hX_14.st (St_k_rName_36_1_mk ⟨x_13, G_9, y_31, G_9, rfl, rfl, f_16, hB_G_9, ⟨c_18, ⟨y_27, ey_27, ⟨y_28, ey_28.symm.trans ((hq_10.l9 3 6 rfl rfl)), ⟨y_29, ey_29, ⟨c_30, ⟨y_31, ty_31, ⟨rfl, rfl⟩⟩⟩⟩⟩⟩⟩⟩)), hW, hB_G_9, hF, (Fr.call9 (rs := []) (fs := []) Fr.rf hq_10 rfl rfl), hS, lv_sub hl [0, 1, 2, 3] rfl⟩
        · have c_30 : y_29.toInt = 0 := xI_eq rfl rfl c_30
          refine lv_aload_n hx hb dX7_passName_49 rfl (lv_at hl 1 rfl) ?_
          refine S_getR (n := 3) (C := RX7) (T := TX7) (N := 10) hx hb hg iX7 hown hK hW kd_5 rfl 0 (lt_b rfl) (hg (Cond.fieldLink RX7 26 "SlabWalk$Reader" "tokens" "LSlabWalk$Tokens;") m311) (fun _ h9 => h9) rfl dX7_passName_50 ?_
          refine ic_3 hx hb dX7_passName_53 ?_
          refine S_calli (va_runV (As := [.int 3]) (rest := []) ⟨hx, hb, hml, hown, hts⟩ (k_tRefuse l D k A a z G_9 3 ⟨by decide, by decide⟩) (cwV 1 hts (gd_V hgd m778 m779 m780 m120 m781) rfl rfl rfl hd_X9_refuse ⟨Nat.le_of_ble_eq_true rfl, Nat.le_of_ble_eq_true rfl⟩) (pre_W hW hB_G_9 hK hZ hS kd_3 rfl) rfl rfl hl.1 rfl (lv_room (Nat.le_of_ble_eq_true rfl)) dX7_passName_54 ⟨Nat.le_of_ble_eq_true rfl, Nat.le_of_ble_eq_true rfl⟩) hS (fun r_32 G_33 H locs hpo hW hS => ?_)
          have hX_36 : P_tRefuse 3 G_9 r_32 G_33 := hpo
          obtain ⟨hB_G_33, hq_34, f_37, -⟩ := hpo
          have hF := hF.call9 hq_34 rfl rfl
          exact W.zret (v := r_32) hx hb hr (nar_z ((by first | exact f_37.1 | omega)) ((by first | exact ok_130 f_37.2 | omega))) (fun t ht _ => ⟨⟨r_32, G_33, rfl, (P_rName_36_mk ⟨hB_G_33, hF, ⟨(by first | exact f_37.1 | omega), (by first | exact ok_130 f_37.2 | omega)⟩, (Or.inl ⟨c_1, (Or.inl ⟨c_8, ⟨x_13, G_9, hX_14, f_16, hB_G_9, hq_10, (Or.inr ⟨c_18, ⟨y_27, ey_27, ⟨y_28, ey_28.symm.trans ((hq_10.l9 3 6 rfl rfl)), ⟨y_29, ey_29, ⟨c_30, ⟨r_32, G_33, hX_36, ⟨rfl, rfl⟩⟩⟩⟩⟩⟩⟩)⟩⟩)⟩)⟩), wd_t ht hW⟩, hS.F ht⟩) hS.2.2 dX7_passName_57
    · have c_8 : 6 ≤ p0.toInt := xI_nlt rfl rfl c_8
      refine lv_aload_n hx hb dX7_passName_19 rfl (lv_at hl 0 rfl) ?_
      refine S_getR (n := 3) (C := RX7) (T := TX7) (N := 10) hx hb hg iX7 hown hK hW kd_5 rfl 0 (lt_b rfl) (hg (Cond.fieldLink RX7 26 "SlabWalk$Reader" "tokens" "LSlabWalk$Tokens;") m311) (fun _ h9 => h9) rfl dX7_passName_20 ?_
      refine ic_2 hx hb dX7_passName_23 ?_
      refine S_calli (va_runV (As := [.int 2]) (rest := []) ⟨hx, hb, hml, hown, hts⟩ (k_tRefuse l D k A a z G 2 ⟨by decide, by decide⟩) (cwV 1 hts (gd_V hgd m778 m779 m780 m120 m781) rfl rfl rfl hd_X9_refuse ⟨Nat.le_of_ble_eq_true rfl, Nat.le_of_ble_eq_true rfl⟩) (pre_W hW hB_G hK hZ hS kd_3 rfl) rfl rfl hl.1 rfl (lv_room (Nat.le_of_ble_eq_true rfl)) dX7_passName_24 ⟨Nat.le_of_ble_eq_true rfl, Nat.le_of_ble_eq_true rfl⟩) hS (fun r_38 G_39 H locs hpo hW hS => ?_)
      have hX_42 : P_tRefuse 2 G r_38 G_39 := hpo
      obtain ⟨hB_G_39, hq_40, f_43, -⟩ := hpo
      have hF := hF.call9 hq_40 rfl rfl
      exact W.zret (v := r_38) hx hb hr (nar_z ((by first | exact f_43.1 | omega)) ((by first | exact ok_130 f_43.2 | omega))) (fun t ht _ => ⟨⟨r_38, G_39, rfl, (P_rName_36_mk ⟨hB_G_39, hF, ⟨(by first | exact f_43.1 | omega), (by first | exact ok_130 f_43.2 | omega)⟩, (Or.inl ⟨c_1, (Or.inr ⟨c_8, ⟨r_38, G_39, hX_42, ⟨rfl, rfl⟩⟩⟩)⟩)⟩), wd_t ht hW⟩, hS.F ht⟩) hS.2.2 dX7_passName_27

set_option maxHeartbeats 4000000 in
set_option maxRecDepth 100000 in
theorem k_rIsNum (l : Launch) (D : va_G) (k : KT) (A : Nat → Prop) (a : Nat → Nat) (z : SK) (G : GS) (p0 : Int32) (p1 : Int32)  : Met l yX7_isNumber (WS yX7_isNumber cX7_isNumber 3 (some .boolean)) ({ frames := 1, cells := 0, slots := 0, locals := 21 }) (va_Pc [.ref (a 5), .int p0, .int p1] (cW D k A a z G)) (va_Qi (fun (r : Int32) (G1 : GS) => P_rIsNum p0 p1 G r G1) (fun (G1 : GS) t => Wd D k A a G1 t.heap) A) 0 0 A := by
  refine Met.ofW (cc := cX7_isNumber) (maxL := 3) (ret := (some .boolean)) (by decide) rfl ?_
  intro p e s m args below meth c s₁ B hml hv
  obtain ⟨rfl, hW, hB_G, hK, hZ⟩ := hv
  have hx := B.exec
  have hb := B.bytes
  have hr := B.returns
  have hts := atoms_spec (ws := WS yX7_isNumber cX7_isNumber 3 (some .boolean)) B.pre
  have hgd : ∀ w ∈ gd, w ∈ WS yX7_isNumber cX7_isNumber 3 (some .boolean) := fun w h => List.mem_cons_of_mem _ h
  have hg : ∀ w ∈ gd, w.before _ s = true := fun w h => hts w (hgd w h)
  have hown : s.vm.findClass RX7 = some m.cls := findClass_of_methodNamed B.named
  have hS : va_S A s.heap s.heap [] := va_S.rf
  have hF : Fr [] [(3, 7), (3, 8), (5, 9)] G G := Fr.rf
  have hl := lv_entry ([.ref (a 5), .int p0, .int p1]) (n := 3) (Nat.le_of_ble_eq_true rfl)
  rw [lg_entry_eq]
  generalize (lg_sl ([.ref (a 5), .int p0, .int p1]) ++ List.replicate (3 - (lg_sl ([.ref (a 5), .int p0, .int p1])).length) Slot.unset).toArray = ls at hl ⊢
  have hl : lv_has ls 3 [(0, .ref (a 5)), (1, .int p0), (2, .int p1)] := hl
  refine lv_aload_n hx hb dX7_isNumber_0 rfl (lv_at hl 0 rfl) ?_
  refine S_getR (n := 3) (C := RX7) (T := TX7) (N := 10) hx hb hg iX7 hown hK hW kd_5 rfl 0 (lt_b rfl) (hg (Cond.fieldLink RX7 26 "SlabWalk$Reader" "tokens" "LSlabWalk$Tokens;") m311) (fun _ h9 => h9) rfl dX7_isNumber_1 ?_
  refine S_getI (v := (G.1 3 3)) (C := RX9) (T := TX9) (N := 9) hx hb hg iX9 hown hK hW kd_3 rfl 3 (lt_b rfl) (hg (Cond.fieldLink RX7 62 "SlabWalk$Tokens" "kind" "I") m261) (fun _ h9 => h9) rfl rfl dX7_isNumber_4 ?_
  refine lv_sipush (v := 201) hx hb dX7_isNumber_7 (by decide) ?_
  refine lv_icmp_eq (tgt := 22) hx hb dX7_isNumber_10 rfl (fun c_1 => ?_) (fun c_1 => ?_)
  · have c_1 : (G.1 3 3).toInt = 201 := xI_eq rfl rfl c_1
    refine lv_aload_n hx hb dX7_isNumber_22 rfl (lv_at hl 0 rfl) ?_
    refine S_getR (n := 3) (C := RX7) (T := TX7) (N := 10) hx hb hg iX7 hown hK hW kd_5 rfl 0 (lt_b rfl) (hg (Cond.fieldLink RX7 26 "SlabWalk$Reader" "tokens" "LSlabWalk$Tokens;") m311) (fun _ h9 => h9) rfl dX7_isNumber_23 ?_
    refine S_getI (v := (G.1 3 5)) (C := RX9) (T := TX9) (N := 9) hx hb hg iX9 hown hK hW kd_3 rfl 5 (lt_b rfl) (hg (Cond.fieldLink RX7 96 "SlabWalk$Tokens" "number" "I") m265) (fun _ h9 => h9) rfl rfl dX7_isNumber_26 ?_
    refine lv_iload_n hx hb dX7_isNumber_29 rfl (lv_at hl 1 rfl) ?_
    refine lv_icmp_lt (tgt := 44) hx hb dX7_isNumber_30 rfl (fun c_2 => ?_) (fun c_2 => ?_)
    · have c_2 : (G.1 3 5).toInt < p0.toInt := xI_lt rfl rfl c_2
      refine lv_aload_n hx hb dX7_isNumber_44 rfl (lv_at hl 0 rfl) ?_
      refine S_getR (n := 3) (C := RX7) (T := TX7) (N := 10) hx hb hg iX7 hown hK hW kd_5 rfl 0 (lt_b rfl) (hg (Cond.fieldLink RX7 26 "SlabWalk$Reader" "tokens" "LSlabWalk$Tokens;") m311) (fun _ h9 => h9) rfl dX7_isNumber_45 ?_
      refine ic_4 hx hb dX7_isNumber_48 ?_
      refine S_calli (va_runV (As := [.int 4]) (rest := []) ⟨hx, hb, hml, hown, hts⟩ (k_tRefuse l D k A a z G 4 ⟨by decide, by decide⟩) (cwV 1 hts (gd_V hgd m778 m779 m780 m120 m781) rfl rfl rfl hd_X9_refuse ⟨Nat.le_of_ble_eq_true rfl, Nat.le_of_ble_eq_true rfl⟩) (pre_W hW hB_G hK hZ hS kd_3 rfl) rfl rfl hl.1 rfl (lv_room (Nat.le_of_ble_eq_true rfl)) dX7_isNumber_49 ⟨Nat.le_of_ble_eq_true rfl, Nat.le_of_ble_eq_true rfl⟩) hS (fun r_3 G_4 H locs hpo hW hS => ?_)
      have hX_7 : P_tRefuse 4 G r_3 G_4 := hpo
      obtain ⟨hB_G_4, hq_5, f_8, -⟩ := hpo
      have hF := hF.call9 hq_5 rfl rfl
      have g_9 : (G_4.1 5 9).toInt = (G.1 5 9).toInt := (congrArg Int32.toInt (show G_4.1 5 9 = (G.1 5 9) from (hq_5.i9 5 9 rfl rfl)))
      exact W.zret (v := r_3) hx hb hr (nar_z ((by first | exact f_8.1 | omega)) ((by first | exact ok_130 f_8.2 | omega))) (fun t ht _ => ⟨⟨r_3, G_4, rfl, (P_rIsNum_mk ⟨hB_G_4, hF, ⟨(by first | exact f_8.1 | omega), (by first | exact ok_130 f_8.2 | omega)⟩, ((by first | exact (fun h9 => ⟨(by omega), (by omega)⟩) | omega)), (Or.inl ⟨c_1, (Or.inl ⟨c_2, ⟨r_3, G_4, hX_7, ⟨rfl, rfl⟩⟩⟩)⟩)⟩), wd_t ht hW⟩, hS.F ht⟩) hS.2.2 dX7_isNumber_52
    · have c_2 : p0.toInt ≤ (G.1 3 5).toInt := xI_nlt rfl rfl c_2
      refine lv_aload_n hx hb dX7_isNumber_33 rfl (lv_at hl 0 rfl) ?_
      refine S_getR (n := 3) (C := RX7) (T := TX7) (N := 10) hx hb hg iX7 hown hK hW kd_5 rfl 0 (lt_b rfl) (hg (Cond.fieldLink RX7 26 "SlabWalk$Reader" "tokens" "LSlabWalk$Tokens;") m311) (fun _ h9 => h9) rfl dX7_isNumber_34 ?_
      refine S_getI (v := (G.1 3 5)) (C := RX9) (T := TX9) (N := 9) hx hb hg iX9 hown hK hW kd_3 rfl 5 (lt_b rfl) (hg (Cond.fieldLink RX7 96 "SlabWalk$Tokens" "number" "I") m265) (fun _ h9 => h9) rfl rfl dX7_isNumber_37 ?_
      refine lv_iload_n hx hb dX7_isNumber_40 rfl (lv_at hl 2 rfl) ?_
      refine lv_icmp_le (tgt := 53) hx hb dX7_isNumber_41 rfl (fun c_10 => ?_) (fun c_10 => ?_)
      · have c_10 : (G.1 3 5).toInt ≤ p1.toInt := xI_le rfl rfl c_10
        refine lv_aload_n hx hb dX7_isNumber_53 rfl (lv_at hl 0 rfl) ?_
        refine lv_aload_n hx hb dX7_isNumber_54 rfl (lv_at hl 0 rfl) ?_
        refine S_getR (n := 3) (C := RX7) (T := TX7) (N := 10) hx hb hg iX7 hown hK hW kd_5 rfl 0 (lt_b rfl) (hg (Cond.fieldLink RX7 26 "SlabWalk$Reader" "tokens" "LSlabWalk$Tokens;") m311) (fun _ h9 => h9) rfl dX7_isNumber_55 ?_
        refine S_getI (v := (G.1 3 5)) (C := RX9) (T := TX9) (N := 9) hx hb hg iX9 hown hK hW kd_3 rfl 5 (lt_b rfl) (hg (Cond.fieldLink RX7 96 "SlabWalk$Tokens" "number" "I") m265) (fun _ h9 => h9) rfl rfl dX7_isNumber_58 ?_
        refine S_putI (ty := .int) (C := RX7) (T := TX7) (N := 10) hx hb hg iX7 tyX7 tyX7_ok nmX7 hown hK hW hS kd_5 rfl 9 (lt_b rfl) (hg (Cond.fieldLink RX7 99 "SlabWalk$Reader" "number" "I") m321) (fun _ h9 => h9) rfl (by decide +kernel) rfl rfl rfl dX7_isNumber_61 (fun G_11 H locs eG_11 hW hS => ?_)
        have hB_G_11 : Bd G_11 := hB_G.put (lo := (-2147483648)) (hi := 2147483647) eG_11 rfl rfl rfl (tI_rng _).1 (tI_rng _).2 (hB_G.2.put eG_11 rfl)
        have hF := hF.put eG_11 (Or.inr (by decide))
        refine ic_1 hx hb dX7_isNumber_64 ?_
        have g_12 : (G_11.1 5 9).toInt = (G.1 3 5).toInt := (congrArg Int32.toInt (show G_11.1 5 9 = (G.1 3 5) from (gp_eq eG_11)))
        exact W.zret (v := 1) hx hb hr (by decide) (fun t ht _ => ⟨⟨1, G_11, rfl, (P_rIsNum_mk ⟨hB_G_11, hF, ⟨by decide, by decide⟩, (by have hq : (1 : Int32).toInt = 1 := rfl; (try dsimp only); omega), (Or.inl ⟨c_1, (Or.inr ⟨c_2, (Or.inl ⟨c_10, ⟨rfl, (Fr.put (rs := []) (fs := [(5, 9)]) Fr.rf eG_11 (Or.inr (by decide))), (gp_eq eG_11)⟩⟩)⟩)⟩)⟩), wd_t ht hW⟩, hS.F ht⟩) hS.2.2 dX7_isNumber_65
      · have c_10 : p1.toInt < (G.1 3 5).toInt := xI_nle rfl rfl c_10
        refine lv_aload_n hx hb dX7_isNumber_44 rfl (lv_at hl 0 rfl) ?_
        refine S_getR (n := 3) (C := RX7) (T := TX7) (N := 10) hx hb hg iX7 hown hK hW kd_5 rfl 0 (lt_b rfl) (hg (Cond.fieldLink RX7 26 "SlabWalk$Reader" "tokens" "LSlabWalk$Tokens;") m311) (fun _ h9 => h9) rfl dX7_isNumber_45 ?_
        refine ic_4 hx hb dX7_isNumber_48 ?_
        refine S_calli (va_runV (As := [.int 4]) (rest := []) ⟨hx, hb, hml, hown, hts⟩ (k_tRefuse l D k A a z G 4 ⟨by decide, by decide⟩) (cwV 1 hts (gd_V hgd m778 m779 m780 m120 m781) rfl rfl rfl hd_X9_refuse ⟨Nat.le_of_ble_eq_true rfl, Nat.le_of_ble_eq_true rfl⟩) (pre_W hW hB_G hK hZ hS kd_3 rfl) rfl rfl hl.1 rfl (lv_room (Nat.le_of_ble_eq_true rfl)) dX7_isNumber_49 ⟨Nat.le_of_ble_eq_true rfl, Nat.le_of_ble_eq_true rfl⟩) hS (fun r_13 G_14 H locs hpo hW hS => ?_)
        have hX_17 : P_tRefuse 4 G r_13 G_14 := hpo
        obtain ⟨hB_G_14, hq_15, f_18, -⟩ := hpo
        have hF := hF.call9 hq_15 rfl rfl
        have g_19 : (G_14.1 5 9).toInt = (G.1 5 9).toInt := (congrArg Int32.toInt (show G_14.1 5 9 = (G.1 5 9) from (hq_15.i9 5 9 rfl rfl)))
        exact W.zret (v := r_13) hx hb hr (nar_z ((by first | exact f_18.1 | omega)) ((by first | exact ok_130 f_18.2 | omega))) (fun t ht _ => ⟨⟨r_13, G_14, rfl, (P_rIsNum_mk ⟨hB_G_14, hF, ⟨(by first | exact f_18.1 | omega), (by first | exact ok_130 f_18.2 | omega)⟩, ((by first | exact (fun h9 => ⟨(by omega), (by omega)⟩) | omega)), (Or.inl ⟨c_1, (Or.inr ⟨c_2, (Or.inr ⟨c_10, ⟨r_13, G_14, hX_17, ⟨rfl, rfl⟩⟩⟩)⟩)⟩)⟩), wd_t ht hW⟩, hS.F ht⟩) hS.2.2 dX7_isNumber_52
  · have c_1 : (G.1 3 3).toInt ≠ 201 := xI_ne rfl rfl c_1
    refine lv_aload_n hx hb dX7_isNumber_13 rfl (lv_at hl 0 rfl) ?_
    refine S_getR (n := 3) (C := RX7) (T := TX7) (N := 10) hx hb hg iX7 hown hK hW kd_5 rfl 0 (lt_b rfl) (hg (Cond.fieldLink RX7 26 "SlabWalk$Reader" "tokens" "LSlabWalk$Tokens;") m311) (fun _ h9 => h9) rfl dX7_isNumber_14 ?_
    refine ic_2 hx hb dX7_isNumber_17 ?_
    refine S_calli (va_runV (As := [.int 2]) (rest := []) ⟨hx, hb, hml, hown, hts⟩ (k_tRefuse l D k A a z G 2 ⟨by decide, by decide⟩) (cwV 1 hts (gd_V hgd m778 m779 m780 m120 m781) rfl rfl rfl hd_X9_refuse ⟨Nat.le_of_ble_eq_true rfl, Nat.le_of_ble_eq_true rfl⟩) (pre_W hW hB_G hK hZ hS kd_3 rfl) rfl rfl hl.1 rfl (lv_room (Nat.le_of_ble_eq_true rfl)) dX7_isNumber_18 ⟨Nat.le_of_ble_eq_true rfl, Nat.le_of_ble_eq_true rfl⟩) hS (fun r_20 G_21 H locs hpo hW hS => ?_)
    have hX_24 : P_tRefuse 2 G r_20 G_21 := hpo
    obtain ⟨hB_G_21, hq_22, f_25, -⟩ := hpo
    have hF := hF.call9 hq_22 rfl rfl
    have g_26 : (G_21.1 5 9).toInt = (G.1 5 9).toInt := (congrArg Int32.toInt (show G_21.1 5 9 = (G.1 5 9) from (hq_22.i9 5 9 rfl rfl)))
    exact W.zret (v := r_20) hx hb hr (nar_z ((by first | exact f_25.1 | omega)) ((by first | exact ok_130 f_25.2 | omega))) (fun t ht _ => ⟨⟨r_20, G_21, rfl, (P_rIsNum_mk ⟨hB_G_21, hF, ⟨(by first | exact f_25.1 | omega), (by first | exact ok_130 f_25.2 | omega)⟩, ((by first | exact (fun h9 => ⟨(by omega), (by omega)⟩) | omega)), (Or.inr ⟨c_1, ⟨r_20, G_21, hX_24, ⟨rfl, rfl⟩⟩⟩)⟩), wd_t ht hW⟩, hS.F ht⟩) hS.2.2 dX7_isNumber_21

set_option maxHeartbeats 4000000 in
set_option maxRecDepth 100000 in
theorem k_rNum (l : Launch) (D : va_G) (k : KT) (A : Nat → Prop) (a : Nat → Nat) (z : SK) (G : GS) (p0 : Int32) (p1 : Int32)  : Met l yX7_passNumber (WS yX7_passNumber cX7_passNumber 3 (some .boolean)) ({ frames := 7, cells := 0, slots := 0, locals := 148 }) (va_Pc [.ref (a 5), .int p0, .int p1] (cW D k A a z G)) (va_Qi (fun (r : Int32) (G1 : GS) => P_rNum p0 p1 G r G1) (fun (G1 : GS) t => Wd D k A a G1 t.heap) A) 0 0 A := by
  refine Met.ofW (cc := cX7_passNumber) (maxL := 3) (ret := (some .boolean)) (by decide) rfl ?_
  intro p e s m args below meth c s₁ B hml hv
  obtain ⟨rfl, hW, hB_G, hK, hZ⟩ := hv
  have hx := B.exec
  have hb := B.bytes
  have hr := B.returns
  have hts := atoms_spec (ws := WS yX7_passNumber cX7_passNumber 3 (some .boolean)) B.pre
  have hgd : ∀ w ∈ gd, w ∈ WS yX7_passNumber cX7_passNumber 3 (some .boolean) := fun w h => List.mem_cons_of_mem _ h
  have hg : ∀ w ∈ gd, w.before _ s = true := fun w h => hts w (hgd w h)
  have hown : s.vm.findClass RX7 = some m.cls := findClass_of_methodNamed B.named
  have hS : va_S A s.heap s.heap [] := va_S.rf
  have hF : Fr [] [(3, 2), (3, 3), (3, 4), (3, 5), (3, 6), (3, 7), (3, 8), (5, 9)] G G := Fr.rf
  have hl := lv_entry ([.ref (a 5), .int p0, .int p1]) (n := 3) (Nat.le_of_ble_eq_true rfl)
  rw [lg_entry_eq]
  generalize (lg_sl ([.ref (a 5), .int p0, .int p1]) ++ List.replicate (3 - (lg_sl ([.ref (a 5), .int p0, .int p1])).length) Slot.unset).toArray = ls at hl ⊢
  have hl : lv_has ls 3 [(0, .ref (a 5)), (1, .int p0), (2, .int p1)] := hl
  refine lv_aload_n hx hb dX7_passNumber_0 rfl (lv_at hl 0 rfl) ?_
  refine lv_iload_n hx hb dX7_passNumber_1 rfl (lv_at hl 1 rfl) ?_
  refine lv_iload_n hx hb dX7_passNumber_2 rfl (lv_at hl 2 rfl) ?_
  refine S_calli (va_runV (As := [.int p0, .int p1]) (rest := []) ⟨hx, hb, hml, hown, hts⟩ (k_rIsNum l D k A a z G p0 p1 ) (cwV 2 hts (gd_V hgd m795 m797 m12 m119 m798) rfl rfl rfl hd_X7_isNumber ⟨Nat.le_of_ble_eq_true rfl, Nat.le_of_ble_eq_true rfl⟩) (pre_W hW hB_G hK hZ hS kd_5 rfl) rfl rfl hl.1 rfl (lv_room (Nat.le_of_ble_eq_true rfl)) dX7_passNumber_3 ⟨Nat.le_of_ble_eq_true rfl, Nat.le_of_ble_eq_true rfl⟩) hS (fun r_1 G_2 H locs hpo hW hS => ?_)
  have hX_5 : P_rIsNum p0 p1 G r_1 G_2 := hpo
  obtain ⟨hB_G_2, hq_3, f_6, hp_4, -⟩ := hpo
  have hF := hF.call9 hq_3 rfl rfl
  refine lv_if_eq (tgt := 23) hx hb dX7_passNumber_6 rfl (fun c_7 => ?_) (fun c_7 => ?_)
  · have c_7 : r_1.toInt = 0 := xI_eq rfl rfl c_7
    refine ic_0 hx hb dX7_passNumber_23 ?_
    exact W.zret (v := 0) hx hb hr (by decide) (fun t ht _ => ⟨⟨0, G_2, rfl, (P_rNum_mk ⟨hB_G_2, hF, ⟨by decide, by decide⟩, (by have hq : (0 : Int32).toInt = 0 := rfl; (try dsimp only); omega), ⟨r_1, G_2, hX_5, (Or.inl ⟨c_7, ⟨rfl, rfl⟩⟩)⟩⟩), wd_t ht hW⟩, hS.F ht⟩) hS.2.2 dX7_passNumber_24
  · have c_7 : r_1.toInt ≠ 0 := xI_ne rfl rfl c_7
    refine lv_aload_n hx hb dX7_passNumber_9 rfl (lv_at hl 0 rfl) ?_
    refine S_getR (n := 3) (C := RX7) (T := TX7) (N := 10) hx hb hg iX7 hown hK hW kd_5 rfl 0 (lt_b rfl) (hg (Cond.fieldLink RX7 26 "SlabWalk$Reader" "tokens" "LSlabWalk$Tokens;") m311) (fun _ h9 => h9) rfl dX7_passNumber_10 ?_
    refine S_calli (va_runV (As := []) (rest := []) ⟨hx, hb, hml, hown, hts⟩ (k_tAdvance l D k A a z G_2  ) (cwV 0 hts (gd_V hgd m777 m639 m640 m120 m641) rfl rfl rfl hd_X9_advance ⟨Nat.le_of_ble_eq_true rfl, Nat.le_of_ble_eq_true rfl⟩) (pre_W hW hB_G_2 hK hZ hS kd_3 rfl) rfl rfl hl.1 rfl (lv_room (Nat.le_of_ble_eq_true rfl)) dX7_passNumber_13 ⟨Nat.le_of_ble_eq_true rfl, Nat.le_of_ble_eq_true rfl⟩) hS (fun r_8 G_9 H locs hpo hW hS => ?_)
    have hX_12 : P_tAdvance G_2 r_8 G_9 := hpo
    obtain ⟨hB_G_9, hq_10, f_13, -⟩ := hpo
    have hF := hF.call9 hq_10 rfl rfl
    refine lv_if_eq (tgt := 23) hx hb dX7_passNumber_16 rfl (fun c_14 => ?_) (fun c_14 => ?_)
    · have c_14 : r_8.toInt = 0 := xI_eq rfl rfl c_14
      exfalso; first | exact ok_74 f_13.1 c_14 | omega
    · have c_14 : r_8.toInt ≠ 0 := xI_ne rfl rfl c_14
      refine ic_1 hx hb dX7_passNumber_19 ?_
      refine lv_goto (tgt := 24) hx hb dX7_passNumber_20 rfl ?_
      have g_15 : (G_9.1 5 9).toInt = (G_2.1 5 9).toInt := (congrArg Int32.toInt (show G_9.1 5 9 = (G_2.1 5 9) from (hq_10.i9 5 9 rfl rfl)))
      exact W.zret (v := 1) hx hb hr (by decide) (fun t ht _ => ⟨⟨1, G_9, rfl, (P_rNum_mk ⟨hB_G_9, hF, ⟨by decide, by decide⟩, (by have hq : (1 : Int32).toInt = 1 := rfl; (try dsimp only); omega), ⟨r_1, G_2, hX_5, (Or.inr ⟨c_7, ⟨r_8, G_9, hX_12, ⟨rfl, rfl⟩⟩⟩)⟩⟩), wd_t ht hW⟩, hS.F ht⟩) hS.2.2 dX7_passNumber_24
