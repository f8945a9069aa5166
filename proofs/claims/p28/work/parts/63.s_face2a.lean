

set_option maxHeartbeats 4000000 in
set_option maxRecDepth 100000 in
theorem k_Winch_2 (l : Launch) (D : va_G) (k : KT) (A : Nat → Prop) (a : Nat → Nat) (z : SK) (G : GS) (p0 : Int32) (p1 : Int32) (p2 : Int32) (hv_0_0 : G.2.2 0 0 = 2) (hv_0_1 : G.2.2 0 1 = 1) (hv_6_4 : G.2.2 6 4 = 2) : Met l yX11_inch (WS yX11_inch cX11_inch 4 (some .int)) ({ frames := 3, cells := 0, slots := 0, locals := 65 }) (va_Pc [.ref (a 0), .int p0, .int p1, .int p2] (cW D k A a z G)) (va_Qi (fun (r : Int32) (G1 : GS) => P_Winch_2 p0 p1 p2 G r G1) (fun (G1 : GS) t => Wd D k A a G1 t.heap) A) 0 0 A := by
  refine Met.ofW (cc := cX11_inch) (maxL := 4) (ret := (some .int)) (by decide) rfl ?_
  intro p e s m args below meth c s₁ B hml hv
  obtain ⟨rfl, hW, hB_G, hK, hZ⟩ := hv
  have hx := B.exec
  have hb := B.bytes
  have hr := B.returns
  have hts := atoms_spec (ws := WS yX11_inch cX11_inch 4 (some .int)) B.pre
  have hgd : ∀ w ∈ gd, w ∈ WS yX11_inch cX11_inch 4 (some .int) := fun w h => List.mem_cons_of_mem _ h
  have hg : ∀ w ∈ gd, w.before _ s = true := fun w h => hts w (hgd w h)
  have hown : s.vm.findClass RX11 = some m.cls := findClass_of_methodNamed B.named
  have hS : va_S A s.heap s.heap [] := va_S.rf
  have hF : Fr [] [] G G := Fr.rf
  have hl := lv_entry ([.ref (a 0), .int p0, .int p1, .int p2]) (n := 4) (Nat.le_of_ble_eq_true rfl)
  rw [lg_entry_eq]
  generalize (lg_sl ([.ref (a 0), .int p0, .int p1, .int p2]) ++ List.replicate (4 - (lg_sl ([.ref (a 0), .int p0, .int p1, .int p2])).length) Slot.unset).toArray = ls at hl ⊢
  have hl : lv_has ls 4 [(0, .ref (a 0)), (1, .int p0), (2, .int p1), (3, .int p2)] := hl
  refine lv_aload_n hx hb dX11_inch_0 rfl (lv_at hl 0 rfl) ?_
  refine S_getV (n := 2) (C := RX11) (T := TX11) (N := 13) hx hb hg iX11 hown hK hW kd_0 rfl 0 (lt_b rfl) (hg (Cond.fieldLink RX11 10 "SlabWalk" "paving" "LSlabWalk$Paving;") m570) (fun _ h9 => h9) rfl hv_0_0 dX11_inch_1 ?_
  refine lv_iload_n hx hb dX11_inch_4 rfl (lv_at hl 1 rfl) ?_
  refine lv_iload_n hx hb dX11_inch_5 rfl (lv_at hl 2 rfl) ?_
  refine S_calli (va_runV (As := [.int p0, .int p1]) (rest := []) ⟨hx, hb, hml, hown, hts⟩ (k_hasInch_2 l D k A a z G p0 p1 ) (cwV 2 hts (gd_V hgd m882 m883 m884 m118 m885) rfl rfl rfl hd_X6_hasInch ⟨Nat.le_of_ble_eq_true rfl, Nat.le_of_ble_eq_true rfl⟩) (pre_W hW hB_G hK hZ hS kd_2 rfl) rfl rfl hl.1 rfl (lv_room (Nat.le_of_ble_eq_true rfl)) dX11_inch_6 ⟨Nat.le_of_ble_eq_true rfl, Nat.le_of_ble_eq_true rfl⟩) hS (fun r_1 G_2 H locs hpo hW hS => ?_)
  have hX_5 : P_hasInch_2 p0 p1 G r_1 G_2 := hpo
  obtain ⟨hB_G_2, hq_3, f_6, hp_4, -⟩ := hpo
  have hF := hF.call9 hq_3 rfl rfl
  refine lv_if_eq (tgt := 21) hx hb dX11_inch_9 rfl (fun c_7 => ?_) (fun c_7 => ?_)
  · have c_7 : r_1.toInt = 0 := xI_eq rfl rfl c_7
    refine ic_m1 hx hb dX11_inch_21 ?_
    exact W.iret (v := (-1)) hx hb hr (fun t ht _ => ⟨⟨(-1), G_2, rfl, (P_Winch_2_mk ⟨hB_G_2, hF, ⟨r_1, G_2, hX_5, (Or.inl ⟨c_7, ⟨rfl, rfl⟩⟩)⟩⟩), wd_t ht hW⟩, hS.F ht⟩) hS.2.2 dX11_inch_22
  · have c_7 : r_1.toInt ≠ 0 := xI_ne rfl rfl c_7
    refine lv_iload_n hx hb dX11_inch_12 rfl (lv_at hl 3 rfl) ?_
    refine lv_if_lt (tgt := 21) hx hb dX11_inch_13 rfl (fun c_8 => ?_) (fun c_8 => ?_)
    · have c_8 : p2.toInt < 0 := xI_lt rfl rfl c_8
      refine ic_m1 hx hb dX11_inch_21 ?_
      exact W.iret (v := (-1)) hx hb hr (fun t ht _ => ⟨⟨(-1), G_2, rfl, (P_Winch_2_mk ⟨hB_G_2, hF, ⟨r_1, G_2, hX_5, (Or.inr ⟨c_7, (Or.inl ⟨c_8, ⟨rfl, rfl⟩⟩)⟩)⟩⟩), wd_t ht hW⟩, hS.F ht⟩) hS.2.2 dX11_inch_22
    · have c_8 : 0 ≤ p2.toInt := xI_nlt rfl rfl c_8
      refine lv_iload_n hx hb dX11_inch_16 rfl (lv_at hl 3 rfl) ?_
      refine ic_4 hx hb dX11_inch_17 ?_
      refine lv_icmp_le (tgt := 23) hx hb dX11_inch_18 rfl (fun c_9 => ?_) (fun c_9 => ?_)
      · have c_9 : p2.toInt ≤ 4 := xI_le rfl rfl c_9
        refine lv_aload_n hx hb dX11_inch_23 rfl (lv_at hl 0 rfl) ?_
        refine S_getV (n := 2) (C := RX11) (T := TX11) (N := 13) hx hb hg iX11 hown hK hW kd_0 rfl 0 (lt_b rfl) (hg (Cond.fieldLink RX11 10 "SlabWalk" "paving" "LSlabWalk$Paving;") m570) (fun _ h9 => h9) rfl (((hq_3.r9 0 0 rfl rfl)).trans (hv_0_0)) dX11_inch_24 ?_
        refine lv_iload_n hx hb dX11_inch_27 rfl (lv_at hl 1 rfl) ?_
        refine lv_iload_n hx hb dX11_inch_28 rfl (lv_at hl 2 rfl) ?_
        refine S_calli (va_runV (As := [.int p0, .int p1]) (rest := []) ⟨hx, hb, hml, hown, hts⟩ (k_inchAt_2 l D k A a z G_2 p0 p1 ) (cwV 2 hts (gd_V hgd m890 m891 m892 m118 m893) rfl rfl rfl hd_X6_inchAt ⟨Nat.le_of_ble_eq_true rfl, Nat.le_of_ble_eq_true rfl⟩) (pre_W hW hB_G_2 hK hZ hS kd_2 rfl) rfl rfl hl.1 rfl (lv_room (Nat.le_of_ble_eq_true rfl)) dX11_inch_29 ⟨Nat.le_of_ble_eq_true rfl, Nat.le_of_ble_eq_true rfl⟩) hS (fun r_10 G_11 H locs hpo hW hS => ?_)
        have hX_14 : P_inchAt_2 p0 p1 G_2 r_10 G_11 := hpo
        obtain ⟨hB_G_11, hq_12, -⟩ := hpo
        have hF := hF.call9 hq_12 rfl rfl
        refine lv_iload_n hx hb dX11_inch_32 rfl (lv_at hl 3 rfl) ?_
        refine S_calli (va_runS (As := [.int r_10, .int p2]) (rest := []) ⟨hx, hb, hml, hown, hts⟩ (k_part l D k A a z G_11 r_10 p2 ) (va_cwS 2 hts (gd_S hgd m895 m896 m118 m897) rfl rfl rfl hd_X6_part.2 ⟨Nat.le_of_ble_eq_true rfl, Nat.le_of_ble_eq_true rfl⟩) (pre_S hW hB_G_11 hK hZ hS) rfl rfl hl.1 rfl (lv_room (Nat.le_of_ble_eq_true rfl)) dX11_inch_33 ⟨Nat.le_of_ble_eq_true rfl, Nat.le_of_ble_eq_true rfl⟩) hS (fun r_15 G_16 H locs hpo hW hS => ?_)
        have hX_19 : P_part r_10 p2 G_11 r_15 G_16 := hpo
        obtain ⟨hB_G_16, hq_17, -⟩ := hpo
        have hF := hF.call9 hq_17 rfl rfl
        exact W.iret (v := r_15) hx hb hr (fun t ht _ => ⟨⟨r_15, G_16, rfl, (P_Winch_2_mk ⟨hB_G_16, hF, ⟨r_1, G_2, hX_5, (Or.inr ⟨c_7, (Or.inr ⟨c_8, (Or.inl ⟨c_9, ⟨r_10, G_11, hX_14, ⟨r_15, G_16, hX_19, ⟨rfl, rfl⟩⟩⟩⟩)⟩)⟩)⟩⟩), wd_t ht hW⟩, hS.F ht⟩) hS.2.2 dX11_inch_36
      · have c_9 : 4 < p2.toInt := xI_nle rfl rfl c_9
        refine ic_m1 hx hb dX11_inch_21 ?_
        exact W.iret (v := (-1)) hx hb hr (fun t ht _ => ⟨⟨(-1), G_2, rfl, (P_Winch_2_mk ⟨hB_G_2, hF, ⟨r_1, G_2, hX_5, (Or.inr ⟨c_7, (Or.inr ⟨c_8, (Or.inr ⟨c_9, ⟨rfl, rfl⟩⟩)⟩)⟩)⟩⟩), wd_t ht hW⟩, hS.F ht⟩) hS.2.2 dX11_inch_22

set_option maxHeartbeats 4000000 in
set_option maxRecDepth 100000 in
theorem k_Wlength_2 (l : Launch) (D : va_G) (k : KT) (A : Nat → Prop) (a : Nat → Nat) (z : SK) (G : GS) (p0 : Int32) (hv_0_0 : G.2.2 0 0 = 2) (hv_0_1 : G.2.2 0 1 = 1) (hv_6_4 : G.2.2 6 4 = 2) : Met l yX11_length (WS yX11_length cX11_length 2 (some .int)) ({ frames := 1, cells := 0, slots := 0, locals := 21 }) (va_Pc [.ref (a 0), .int p0] (cW D k A a z G)) (va_Qi (fun (r : Int32) (G1 : GS) => P_Wlength_2 p0 G r G1) (fun (G1 : GS) t => Wd D k A a G1 t.heap) A) 0 0 A := by
  refine Met.ofW (cc := cX11_length) (maxL := 2) (ret := (some .int)) (by decide) rfl ?_
  intro p e s m args below meth c s₁ B hml hv
  obtain ⟨rfl, hW, hB_G, hK, hZ⟩ := hv
  have hx := B.exec
  have hb := B.bytes
  have hr := B.returns
  have hts := atoms_spec (ws := WS yX11_length cX11_length 2 (some .int)) B.pre
  have hgd : ∀ w ∈ gd, w ∈ WS yX11_length cX11_length 2 (some .int) := fun w h => List.mem_cons_of_mem _ h
  have hg : ∀ w ∈ gd, w.before _ s = true := fun w h => hts w (hgd w h)
  have hown : s.vm.findClass RX11 = some m.cls := findClass_of_methodNamed B.named
  have hS : va_S A s.heap s.heap [] := va_S.rf
  have hF : Fr [] [] G G := Fr.rf
  have hl := lv_entry ([.ref (a 0), .int p0]) (n := 2) (Nat.le_of_ble_eq_true rfl)
  rw [lg_entry_eq]
  generalize (lg_sl ([.ref (a 0), .int p0]) ++ List.replicate (2 - (lg_sl ([.ref (a 0), .int p0])).length) Slot.unset).toArray = ls at hl ⊢
  have hl : lv_has ls 2 [(0, .ref (a 0)), (1, .int p0)] := hl
  refine lv_aload_n hx hb dX11_length_0 rfl (lv_at hl 0 rfl) ?_
  refine S_getV (n := 2) (C := RX11) (T := TX11) (N := 13) hx hb hg iX11 hown hK hW kd_0 rfl 0 (lt_b rfl) (hg (Cond.fieldLink RX11 10 "SlabWalk" "paving" "LSlabWalk$Paving;") m570) (fun _ h9 => h9) rfl hv_0_0 dX11_length_1 ?_
  refine lv_iload_n hx hb dX11_length_4 rfl (lv_at hl 1 rfl) ?_
  refine S_calli (va_runV (As := [.int p0]) (rest := []) ⟨hx, hb, hml, hown, hts⟩ (k_hasStreet_2 l D k A a z G p0 ) (cwV 1 hts (gd_V hgd m902 m887 m888 m118 m889) rfl rfl rfl hd_X6_hasStreet ⟨Nat.le_of_ble_eq_true rfl, Nat.le_of_ble_eq_true rfl⟩) (pre_W hW hB_G hK hZ hS kd_2 rfl) rfl rfl hl.1 rfl (lv_room (Nat.le_of_ble_eq_true rfl)) dX11_length_5 ⟨Nat.le_of_ble_eq_true rfl, Nat.le_of_ble_eq_true rfl⟩) hS (fun r_1 G_2 H locs hpo hW hS => ?_)
  have hX_5 : P_hasStreet_2 p0 G r_1 G_2 := hpo
  obtain ⟨hB_G_2, hq_3, f_6, hp_4, -⟩ := hpo
  have hF := hF.call9 hq_3 rfl rfl
  refine lv_if_eq (tgt := 23) hx hb dX11_length_8 rfl (fun c_7 => ?_) (fun c_7 => ?_)
  · have c_7 : r_1.toInt = 0 := xI_eq rfl rfl c_7
    refine ic_m1 hx hb dX11_length_23 ?_
    exact W.iret (v := (-1)) hx hb hr (fun t ht _ => ⟨⟨(-1), G_2, rfl, (P_Wlength_2_mk ⟨hB_G_2, hF, ⟨r_1, G_2, hX_5, (Or.inl ⟨c_7, ⟨rfl, rfl⟩⟩)⟩⟩), wd_t ht hW⟩, hS.F ht⟩) hS.2.2 dX11_length_24
  · have c_7 : r_1.toInt ≠ 0 := xI_ne rfl rfl c_7
    refine lv_aload_n hx hb dX11_length_11 rfl (lv_at hl 0 rfl) ?_
    refine S_getV (n := 2) (C := RX11) (T := TX11) (N := 13) hx hb hg iX11 hown hK hW kd_0 rfl 0 (lt_b rfl) (hg (Cond.fieldLink RX11 10 "SlabWalk" "paving" "LSlabWalk$Paving;") m570) (fun _ h9 => h9) rfl (((hq_3.r9 0 0 rfl rfl)).trans (hv_0_0)) dX11_length_12 ?_
    refine S_getR (n := 20) (C := RX6) (T := TX6) (N := 17) hx hb hg iX6 hown hK hW kd_2 rfl 0 (lt_b rfl) (hg (Cond.fieldLink RX11 125 "SlabWalk$Paving" "length" "[I") m159) (fun _ h9 => h9) rfl dX11_length_15 ?_
    refine lv_iload_n hx hb dX11_length_18 rfl (lv_at hl 1 rfl) ?_
    refine S_iald hx hb hK hW kd_20 (vin ((by first | exact ok_3 f_6.1 f_6.2 hp_4 c_7 | omega)) ((by first | exact ok_4 f_6.1 f_6.2 hp_4 c_7 | omega))) dX11_length_19 (fun y_8 ey_8 => ?_)
    have ty_8 : 0 ≤ y_8.toInt ∧ y_8.toInt ≤ 400 := bv_20 hB_G_2 ey_8
    refine lv_goto (tgt := 24) hx hb dX11_length_20 rfl ?_
    exact W.iret (v := y_8) hx hb hr (fun t ht _ => ⟨⟨y_8, G_2, rfl, (P_Wlength_2_mk ⟨hB_G_2, hF, ⟨r_1, G_2, hX_5, (Or.inr ⟨c_7, ⟨y_8, ey_8, ⟨rfl, rfl⟩⟩⟩)⟩⟩), wd_t ht hW⟩, hS.F ht⟩) hS.2.2 dX11_length_24

set_option maxHeartbeats 4000000 in
set_option maxRecDepth 100000 in
theorem k_Wline_2 (l : Launch) (D : va_G) (k : KT) (A : Nat → Prop) (a : Nat → Nat) (z : SK) (G : GS) (p0 : Int32) (p1 : Int32) (p2 : Int32) (hv_0_0 : G.2.2 0 0 = 2) (hv_0_1 : G.2.2 0 1 = 1) (hv_6_4 : G.2.2 6 4 = 2) : Met l yX11_line (WS yX11_line cX11_line 4 (some .int)) ({ frames := 4, cells := 0, slots := 0, locals := 96 }) (va_Pc [.ref (a 0), .int p0, .int p1, .int p2] (cW D k A a z G)) (va_Qi (fun (r : Int32) (G1 : GS) => P_Wline_2 p0 p1 p2 G r G1) (fun (G1 : GS) t => Wd D k A a G1 t.heap) A) 0 0 A := by
  refine Met.ofW (cc := cX11_line) (maxL := 4) (ret := (some .int)) (by decide) rfl ?_
  intro p e s m args below meth c s₁ B hml hv
  obtain ⟨rfl, hW, hB_G, hK, hZ⟩ := hv
  have hx := B.exec
  have hb := B.bytes
  have hr := B.returns
  have hts := atoms_spec (ws := WS yX11_line cX11_line 4 (some .int)) B.pre
  have hgd : ∀ w ∈ gd, w ∈ WS yX11_line cX11_line 4 (some .int) := fun w h => List.mem_cons_of_mem _ h
  have hg : ∀ w ∈ gd, w.before _ s = true := fun w h => hts w (hgd w h)
  have hown : s.vm.findClass RX11 = some m.cls := findClass_of_methodNamed B.named
  have hS : va_S A s.heap s.heap [] := va_S.rf
  have hF : Fr [37, 38, 39] [(6, 3)] G G := Fr.rf
  have hl := lv_entry ([.ref (a 0), .int p0, .int p1, .int p2]) (n := 4) (Nat.le_of_ble_eq_true rfl)
  rw [lg_entry_eq]
  generalize (lg_sl ([.ref (a 0), .int p0, .int p1, .int p2]) ++ List.replicate (4 - (lg_sl ([.ref (a 0), .int p0, .int p1, .int p2])).length) Slot.unset).toArray = ls at hl ⊢
  have hl : lv_has ls 4 [(0, .ref (a 0)), (1, .int p0), (2, .int p1), (3, .int p2)] := hl
  refine lv_aload_n hx hb dX11_line_0 rfl (lv_at hl 0 rfl) ?_
  refine S_getV (n := 2) (C := RX11) (T := TX11) (N := 13) hx hb hg iX11 hown hK hW kd_0 rfl 0 (lt_b rfl) (hg (Cond.fieldLink RX11 10 "SlabWalk" "paving" "LSlabWalk$Paving;") m570) (fun _ h9 => h9) rfl hv_0_0 dX11_line_1 ?_
  refine lv_iload_n hx hb dX11_line_4 rfl (lv_at hl 1 rfl) ?_
  refine lv_iload_n hx hb dX11_line_5 rfl (lv_at hl 3 rfl) ?_
  refine S_calli (va_runV (As := [.int p0, .int p2]) (rest := []) ⟨hx, hb, hml, hown, hts⟩ (k_hasInch_2 l D k A a z G p0 p2 ) (cwV 2 hts (gd_V hgd m882 m883 m884 m118 m885) rfl rfl rfl hd_X6_hasInch ⟨Nat.le_of_ble_eq_true rfl, Nat.le_of_ble_eq_true rfl⟩) (pre_W hW hB_G hK hZ hS kd_2 rfl) rfl rfl hl.1 rfl (lv_room (Nat.le_of_ble_eq_true rfl)) dX11_line_6 ⟨Nat.le_of_ble_eq_true rfl, Nat.le_of_ble_eq_true rfl⟩) hS (fun r_1 G_2 H locs hpo hW hS => ?_)
  have hX_5 : P_hasInch_2 p0 p2 G r_1 G_2 := hpo
  obtain ⟨hB_G_2, hq_3, f_6, hp_4, -⟩ := hpo
  have hF := hF.call9 hq_3 rfl rfl
  refine lv_if_eq (tgt := 23) hx hb dX11_line_9 rfl (fun c_7 => ?_) (fun c_7 => ?_)
  · have c_7 : r_1.toInt = 0 := xI_eq rfl rfl c_7
    refine ic_m1 hx hb dX11_line_23 ?_
    exact W.iret (v := (-1)) hx hb hr (fun t ht _ => ⟨⟨(-1), G_2, rfl, (P_Wline_2_mk ⟨hB_G_2, hF, ⟨r_1, G_2, hX_5, (Or.inl ⟨c_7, ⟨rfl, rfl⟩⟩)⟩⟩), wd_t ht hW⟩, hS.F ht⟩) hS.2.2 dX11_line_24
  · have c_7 : r_1.toInt ≠ 0 := xI_ne rfl rfl c_7
    refine lv_aload_n hx hb dX11_line_12 rfl (lv_at hl 0 rfl) ?_
    refine S_getV (n := 2) (C := RX11) (T := TX11) (N := 13) hx hb hg iX11 hown hK hW kd_0 rfl 0 (lt_b rfl) (hg (Cond.fieldLink RX11 10 "SlabWalk" "paving" "LSlabWalk$Paving;") m570) (fun _ h9 => h9) rfl (((hq_3.r9 0 0 rfl rfl)).trans (hv_0_0)) dX11_line_13 ?_
    refine lv_iload_n hx hb dX11_line_16 rfl (lv_at hl 2 rfl) ?_
    refine S_calli (va_runV (As := [.int p1]) (rest := []) ⟨hx, hb, hml, hown, hts⟩ (k_hasSet_2 l D k A a z G_2 p1 ) (cwV 1 hts (gd_V hgd m907 m908 m909 m118 m910) rfl rfl rfl hd_X6_hasSet ⟨Nat.le_of_ble_eq_true rfl, Nat.le_of_ble_eq_true rfl⟩) (pre_W hW hB_G_2 hK hZ hS kd_2 rfl) rfl rfl hl.1 rfl (lv_room (Nat.le_of_ble_eq_true rfl)) dX11_line_17 ⟨Nat.le_of_ble_eq_true rfl, Nat.le_of_ble_eq_true rfl⟩) hS (fun r_8 G_9 H locs hpo hW hS => ?_)
    have hX_12 : P_hasSet_2 p1 G_2 r_8 G_9 := hpo
    obtain ⟨hB_G_9, hq_10, f_13, hp_11, -⟩ := hpo
    have hF := hF.call9 hq_10 rfl rfl
    refine lv_if_ne (tgt := 25) hx hb dX11_line_20 rfl (fun c_14 => ?_) (fun c_14 => ?_)
    · have c_14 : r_8.toInt ≠ 0 := xI_ne rfl rfl c_14
      refine lv_aload_n hx hb dX11_line_25 rfl (lv_at hl 0 rfl) ?_
      refine S_getR (n := 6) (C := RX11) (T := TX11) (N := 13) hx hb hg iX11 hown hK hW kd_0 rfl 4 (lt_b rfl) (hg (Cond.fieldLink RX11 37 "SlabWalk" "lines" "LSlabWalk$Lines;") m574) (fun _ h9 => h9) rfl dX11_line_26 ?_
      refine lv_iload_n hx hb dX11_line_29 rfl (lv_at hl 1 rfl) ?_
      refine lv_aload_n hx hb dX11_line_30 rfl (lv_at hl 0 rfl) ?_
      refine S_calli (va_runV (As := []) (rest := [.int p0, .ref (a 6)]) ⟨hx, hb, hml, hown, hts⟩ (k_wToday l D k A a z G_9  ) (cwV 0 hts (gd_V hgd m911 m913 m27 m117 m914) rfl rfl rfl hd_X11_today ⟨Nat.le_of_ble_eq_true rfl, Nat.le_of_ble_eq_true rfl⟩) (pre_W hW hB_G_9 hK hZ hS kd_0 rfl) rfl rfl hl.1 rfl (lv_room (Nat.le_of_ble_eq_true rfl)) dX11_line_31 ⟨Nat.le_of_ble_eq_true rfl, Nat.le_of_ble_eq_true rfl⟩) hS (fun r_15 G_16 H locs hpo hW hS => ?_)
      have hX_19 : P_wToday G_9 r_15 G_16 := hpo
      obtain ⟨hB_G_16, hq_17, -⟩ := hpo
      have hF := hF.call9 hq_17 rfl rfl
      refine S_callv (va_runV (As := [.int p0, .int r_15]) (rest := []) ⟨hx, hb, hml, hown, hts⟩ (k_lFind_2 l D k A a z G_16 p0 r_15 ((((hq_17.r9 6 4 rfl rfl).trans ((hq_10.r9 6 4 rfl rfl).trans (hq_3.r9 6 4 rfl rfl)))).trans (hv_6_4))) (cwV 2 hts (gd_V hgd m915 m916 m917 m122 m918) rfl rfl rfl hd_X3_findFor ⟨Nat.le_of_ble_eq_true rfl, Nat.le_of_ble_eq_true rfl⟩) (pre_W hW hB_G_16 hK hZ hS kd_6 rfl) rfl rfl hl.1 rfl (lv_room (Nat.le_of_ble_eq_true rfl)) dX11_line_34 ⟨Nat.le_of_ble_eq_true rfl, Nat.le_of_ble_eq_true rfl⟩) hS (fun G_21 H locs hpo hW hS => ?_)
      have hX_24 : P_lFind_2 p0 r_15 G_16 G_21 := hpo
      obtain ⟨hB_G_21, hq_22, -⟩ := hpo
      have hF := hF.call9 hq_22 rfl rfl
      refine lv_aload_n hx hb dX11_line_37 rfl (lv_at hl 0 rfl) ?_
      refine S_getR (n := 6) (C := RX11) (T := TX11) (N := 13) hx hb hg iX11 hown hK hW kd_0 rfl 4 (lt_b rfl) (hg (Cond.fieldLink RX11 37 "SlabWalk" "lines" "LSlabWalk$Lines;") m574) (fun _ h9 => h9) rfl dX11_line_38 ?_
      refine lv_iload_n hx hb dX11_line_41 rfl (lv_at hl 1 rfl) ?_
      refine lv_iload_n hx hb dX11_line_42 rfl (lv_at hl 2 rfl) ?_
      refine lv_iload_n hx hb dX11_line_43 rfl (lv_at hl 3 rfl) ?_
      refine S_calli (va_runV (As := [.int p0, .int p1, .int p2]) (rest := []) ⟨hx, hb, hml, hown, hts⟩ (k_lIsLine_2 l D k A a z G_21 p0 p1 p2 ((((hq_22.r9 6 4 rfl rfl).trans ((hq_17.r9 6 4 rfl rfl).trans ((hq_10.r9 6 4 rfl rfl).trans (hq_3.r9 6 4 rfl rfl))))).trans (hv_6_4))) (cwV 3 hts (gd_V hgd m940 m941 m942 m122 m943) rfl rfl rfl hd_X3_isLine ⟨Nat.le_of_ble_eq_true rfl, Nat.le_of_ble_eq_true rfl⟩) (pre_W hW hB_G_21 hK hZ hS kd_6 rfl) rfl rfl hl.1 rfl (lv_room (Nat.le_of_ble_eq_true rfl)) dX11_line_44 ⟨Nat.le_of_ble_eq_true rfl, Nat.le_of_ble_eq_true rfl⟩) hS (fun r_25 G_26 H locs hpo hW hS => ?_)
      have hX_29 : P_lIsLine_2 p0 p1 p2 G_21 r_25 G_26 := hpo
      obtain ⟨hB_G_26, hq_27, f_30, -⟩ := hpo
      have hF := hF.call9 hq_27 rfl rfl
      refine lv_if_eq (tgt := 54) hx hb dX11_line_47 rfl (fun c_31 => ?_) (fun c_31 => ?_)
      · have c_31 : r_25.toInt = 0 := xI_eq rfl rfl c_31
        refine ic_0 hx hb dX11_line_54 ?_
        exact W.iret (v := 0) hx hb hr (fun t ht _ => ⟨⟨0, G_26, rfl, (P_Wline_2_mk ⟨hB_G_26, hF, ⟨r_1, G_2, hX_5, (Or.inr ⟨c_7, ⟨r_8, G_9, hX_12, (Or.inr ⟨c_14, ⟨r_15, G_16, hX_19, ⟨G_21, hX_24, ⟨r_25, G_26, hX_29, (Or.inl ⟨c_31, ⟨rfl, rfl⟩⟩)⟩⟩⟩⟩)⟩⟩)⟩⟩), wd_t ht hW⟩, hS.F ht⟩) hS.2.2 dX11_line_55
      · have c_31 : r_25.toInt ≠ 0 := xI_ne rfl rfl c_31
        refine ic_1 hx hb dX11_line_50 ?_
        refine lv_goto (tgt := 55) hx hb dX11_line_51 rfl ?_
        exact W.iret (v := 1) hx hb hr (fun t ht _ => ⟨⟨1, G_26, rfl, (P_Wline_2_mk ⟨hB_G_26, hF, ⟨r_1, G_2, hX_5, (Or.inr ⟨c_7, ⟨r_8, G_9, hX_12, (Or.inr ⟨c_14, ⟨r_15, G_16, hX_19, ⟨G_21, hX_24, ⟨r_25, G_26, hX_29, (Or.inr ⟨c_31, ⟨rfl, rfl⟩⟩)⟩⟩⟩⟩)⟩⟩)⟩⟩), wd_t ht hW⟩, hS.F ht⟩) hS.2.2 dX11_line_55
    · have c_14 : r_8.toInt = 0 := xI_eq rfl rfl c_14
      refine ic_m1 hx hb dX11_line_23 ?_
      exact W.iret (v := (-1)) hx hb hr (fun t ht _ => ⟨⟨(-1), G_9, rfl, (P_Wline_2_mk ⟨hB_G_9, hF, ⟨r_1, G_2, hX_5, (Or.inr ⟨c_7, ⟨r_8, G_9, hX_12, (Or.inl ⟨c_14, ⟨rfl, rfl⟩⟩)⟩⟩)⟩⟩), wd_t ht hW⟩, hS.F ht⟩) hS.2.2 dX11_line_24

set_option maxHeartbeats 4000000 in
set_option maxRecDepth 100000 in
theorem k_Wgap_2 (l : Launch) (D : va_G) (k : KT) (A : Nat → Prop) (a : Nat → Nat) (z : SK) (G : GS) (p0 : Int32) (p1 : Int32) (p2 : Int32) (hv_0_0 : G.2.2 0 0 = 2) (hv_0_1 : G.2.2 0 1 = 1) (hv_6_4 : G.2.2 6 4 = 2) : Met l yX11_gap (WS yX11_gap cX11_gap 10 (some .int)) ({ frames := 4, cells := 0, slots := 0, locals := 96 }) (va_Pc [.ref (a 0), .int p0, .int p1, .int p2] (cW D k A a z G)) (va_Qi (fun (r : Int32) (G1 : GS) => P_Wgap_2 p0 p1 p2 G r G1) (fun (G1 : GS) t => Wd D k A a G1 t.heap) A) 0 0 A := by
  refine Met.ofW (cc := cX11_gap) (maxL := 10) (ret := (some .int)) (by decide) rfl ?_
  intro p e s m args below meth c s₁ B hml hv
  obtain ⟨rfl, hW, hB_G, hK, hZ⟩ := hv
  have hx := B.exec
  have hb := B.bytes
  have hr := B.returns
  have hts := atoms_spec (ws := WS yX11_gap cX11_gap 10 (some .int)) B.pre
  have hgd : ∀ w ∈ gd, w ∈ WS yX11_gap cX11_gap 10 (some .int) := fun w h => List.mem_cons_of_mem _ h
  have hg : ∀ w ∈ gd, w.before _ s = true := fun w h => hts w (hgd w h)
  have hown : s.vm.findClass RX11 = some m.cls := findClass_of_methodNamed B.named
  have hS : va_S A s.heap s.heap [] := va_S.rf
  have hF : Fr [37, 38, 39] [(6, 3)] G G := Fr.rf
  have hl := lv_entry ([.ref (a 0), .int p0, .int p1, .int p2]) (n := 10) (Nat.le_of_ble_eq_true rfl)
  rw [lg_entry_eq]
  generalize (lg_sl ([.ref (a 0), .int p0, .int p1, .int p2]) ++ List.replicate (10 - (lg_sl ([.ref (a 0), .int p0, .int p1, .int p2])).length) Slot.unset).toArray = ls at hl ⊢
  have hl : lv_has ls 10 [(0, .ref (a 0)), (1, .int p0), (2, .int p1), (3, .int p2)] := hl
  refine lv_aload_n hx hb dX11_gap_0 rfl (lv_at hl 0 rfl) ?_
  refine S_getV (n := 2) (C := RX11) (T := TX11) (N := 13) hx hb hg iX11 hown hK hW kd_0 rfl 0 (lt_b rfl) (hg (Cond.fieldLink RX11 10 "SlabWalk" "paving" "LSlabWalk$Paving;") m570) (fun _ h9 => h9) rfl hv_0_0 dX11_gap_1 ?_
  refine lv_iload_n hx hb dX11_gap_4 rfl (lv_at hl 1 rfl) ?_
  refine S_calli (va_runV (As := [.int p0]) (rest := []) ⟨hx, hb, hml, hown, hts⟩ (k_hasStreet_2 l D k A a z G p0 ) (cwV 1 hts (gd_V hgd m902 m887 m888 m118 m889) rfl rfl rfl hd_X6_hasStreet ⟨Nat.le_of_ble_eq_true rfl, Nat.le_of_ble_eq_true rfl⟩) (pre_W hW hB_G hK hZ hS kd_2 rfl) rfl rfl hl.1 rfl (lv_room (Nat.le_of_ble_eq_true rfl)) dX11_gap_5 ⟨Nat.le_of_ble_eq_true rfl, Nat.le_of_ble_eq_true rfl⟩) hS (fun r_1 G_2 H locs hpo hW hS => ?_)
  have hX_5 : P_hasStreet_2 p0 G r_1 G_2 := hpo
  obtain ⟨hB_G_2, hq_3, f_6, hp_4, -⟩ := hpo
  have hF := hF.call9 hq_3 rfl rfl
  refine lv_if_eq (tgt := 22) hx hb dX11_gap_8 rfl (fun c_7 => ?_) (fun c_7 => ?_)
  · have c_7 : r_1.toInt = 0 := xI_eq rfl rfl c_7
    refine ic_m1 hx hb dX11_gap_22 ?_
    exact W.iret (v := (-1)) hx hb hr (fun t ht _ => ⟨⟨(-1), G_2, rfl, (P_Wgap_2_mk ⟨hB_G_2, hF, ⟨r_1, G_2, hX_5, (Or.inl ⟨c_7, ⟨rfl, rfl⟩⟩)⟩⟩), wd_t ht hW⟩, hS.F ht⟩) hS.2.2 dX11_gap_23
  · have c_7 : r_1.toInt ≠ 0 := xI_ne rfl rfl c_7
    refine lv_aload_n hx hb dX11_gap_11 rfl (lv_at hl 0 rfl) ?_
    refine S_getV (n := 2) (C := RX11) (T := TX11) (N := 13) hx hb hg iX11 hown hK hW kd_0 rfl 0 (lt_b rfl) (hg (Cond.fieldLink RX11 10 "SlabWalk" "paving" "LSlabWalk$Paving;") m570) (fun _ h9 => h9) rfl (((hq_3.r9 0 0 rfl rfl)).trans (hv_0_0)) dX11_gap_12 ?_
    refine lv_iload_n hx hb dX11_gap_15 rfl (lv_at hl 2 rfl) ?_
    refine S_calli (va_runV (As := [.int p1]) (rest := []) ⟨hx, hb, hml, hown, hts⟩ (k_hasSet_2 l D k A a z G_2 p1 ) (cwV 1 hts (gd_V hgd m907 m908 m909 m118 m910) rfl rfl rfl hd_X6_hasSet ⟨Nat.le_of_ble_eq_true rfl, Nat.le_of_ble_eq_true rfl⟩) (pre_W hW hB_G_2 hK hZ hS kd_2 rfl) rfl rfl hl.1 rfl (lv_room (Nat.le_of_ble_eq_true rfl)) dX11_gap_16 ⟨Nat.le_of_ble_eq_true rfl, Nat.le_of_ble_eq_true rfl⟩) hS (fun r_8 G_9 H locs hpo hW hS => ?_)
    have hX_12 : P_hasSet_2 p1 G_2 r_8 G_9 := hpo
    obtain ⟨hB_G_9, hq_10, f_13, hp_11, -⟩ := hpo
    have hF := hF.call9 hq_10 rfl rfl
    refine lv_if_ne (tgt := 24) hx hb dX11_gap_19 rfl (fun c_14 => ?_) (fun c_14 => ?_)
    · have c_14 : r_8.toInt ≠ 0 := xI_ne rfl rfl c_14
      refine lv_aload_n hx hb dX11_gap_24 rfl (lv_at hl 0 rfl) ?_
      refine S_getR (n := 6) (C := RX11) (T := TX11) (N := 13) hx hb hg iX11 hown hK hW kd_0 rfl 4 (lt_b rfl) (hg (Cond.fieldLink RX11 37 "SlabWalk" "lines" "LSlabWalk$Lines;") m574) (fun _ h9 => h9) rfl dX11_gap_25 ?_
      refine lv_iload_n hx hb dX11_gap_28 rfl (lv_at hl 1 rfl) ?_
      refine lv_aload_n hx hb dX11_gap_29 rfl (lv_at hl 0 rfl) ?_
      refine S_calli (va_runV (As := []) (rest := [.int p0, .ref (a 6)]) ⟨hx, hb, hml, hown, hts⟩ (k_wToday l D k A a z G_9  ) (cwV 0 hts (gd_V hgd m911 m913 m27 m117 m914) rfl rfl rfl hd_X11_today ⟨Nat.le_of_ble_eq_true rfl, Nat.le_of_ble_eq_true rfl⟩) (pre_W hW hB_G_9 hK hZ hS kd_0 rfl) rfl rfl hl.1 rfl (lv_room (Nat.le_of_ble_eq_true rfl)) dX11_gap_30 ⟨Nat.le_of_ble_eq_true rfl, Nat.le_of_ble_eq_true rfl⟩) hS (fun r_15 G_16 H locs hpo hW hS => ?_)
      have hX_19 : P_wToday G_9 r_15 G_16 := hpo
      obtain ⟨hB_G_16, hq_17, -⟩ := hpo
      have hF := hF.call9 hq_17 rfl rfl
      refine S_callv (va_runV (As := [.int p0, .int r_15]) (rest := []) ⟨hx, hb, hml, hown, hts⟩ (k_lFind_2 l D k A a z G_16 p0 r_15 ((((hq_17.r9 6 4 rfl rfl).trans ((hq_10.r9 6 4 rfl rfl).trans (hq_3.r9 6 4 rfl rfl)))).trans (hv_6_4))) (cwV 2 hts (gd_V hgd m915 m916 m917 m122 m918) rfl rfl rfl hd_X3_findFor ⟨Nat.le_of_ble_eq_true rfl, Nat.le_of_ble_eq_true rfl⟩) (pre_W hW hB_G_16 hK hZ hS kd_6 rfl) rfl rfl hl.1 rfl (lv_room (Nat.le_of_ble_eq_true rfl)) dX11_gap_33 ⟨Nat.le_of_ble_eq_true rfl, Nat.le_of_ble_eq_true rfl⟩) hS (fun G_21 H locs hpo hW hS => ?_)
      have hX_24 : P_lFind_2 p0 r_15 G_16 G_21 := hpo
      obtain ⟨hB_G_21, hq_22, -⟩ := hpo
      have hF := hF.call9 hq_22 rfl rfl
      refine ic_0 hx hb dX11_gap_36 ?_
      refine lv_istore (lv' := [(4, .int 0), (0, .ref (a 0)), (1, .int p0), (2, .int p1), (3, .int p2)]) hx hb dX11_gap_37 hl (lt_b rfl) rfl (fun ls hl => ?_)
      refine ic_m1 hx hb dX11_gap_39 ?_
      refine lv_istore (lv' := [(5, .int (-1)), (4, .int 0), (0, .ref (a 0)), (1, .int p0), (2, .int p1), (3, .int p2)]) hx hb dX11_gap_40 hl (lt_b rfl) rfl (fun ls hl => ?_)
      refine ic_0 hx hb dX11_gap_42 ?_
      refine lv_istore (lv' := [(6, .int 0), (5, .int (-1)), (4, .int 0), (0, .ref (a 0)), (1, .int p0), (2, .int p1), (3, .int p2)]) hx hb dX11_gap_43 hl (lt_b rfl) rfl (fun ls hl => ?_)
      refine ic_0 hx hb dX11_gap_45 ?_
      refine lv_istore (lv' := [(7, .int 0), (6, .int 0), (5, .int (-1)), (4, .int 0), (0, .ref (a 0)), (1, .int p0), (2, .int p1), (3, .int p2)]) hx hb dX11_gap_46 hl (lt_b rfl) rfl (fun ls hl => ?_)
      refine ic_0 hx hb dX11_gap_48 ?_
      refine lv_istore (lv' := [(8, .int 0), (7, .int 0), (6, .int 0), (5, .int (-1)), (4, .int 0), (0, .ref (a 0)), (1, .int p0), (2, .int p1), (3, .int p2)]) hx hb dX11_gap_49 hl (lt_b rfl) rfl (fun ls hl => ?_)
      have qc_35 : ((-1) : Int32).toInt = (-1) := rfl
      have qc_36 : (0 : Int32).toInt = 0 := rfl
      refine loop_N (Inv := fun n H locs ls => ∃ (G_25 : GS) (x_29 : Int32) (x_30 : Int32) (x_31 : Int32) (x_32 : Int32) (x_33 : Int32), (n : Int) = 400 - x_29.toInt ∧ (0 ≤ x_29.toInt ∧ x_29.toInt ≤ 400) ∧ (x_32.toInt ≤ 400) ∧ (0 ≤ x_33.toInt) ∧ Rc (St_k_Wgap_2_1 p0 p1) (0, 0, 0, (-1), 0, G_21) (x_29, x_30, x_31, x_32, x_33, G_25) ∧ Wd D k A a G_25 H ∧ Bd G_25 ∧ Fr [37, 38, 39] [(6, 3)] G G_25 ∧ Fr [] [] G_21 G_25 ∧ va_S A s.heap H locs ∧ lv_has ls 10 [(8, .int x_29), (7, .int x_30), (6, .int x_31), (5, .int x_32), (4, .int x_33), (0, .ref (a 0)), (1, .int p0), (2, .int p1), (3, .int p2)]) (fun n_28 H locs ls ih_27 hI => ?_) (400 - 0 : Int).toNat ⟨G_21, 0, 0, 0, (-1), 0, (Int.toNat_of_nonneg ((by decide))), ⟨(by decide), (by decide)⟩, ((by decide)), ((by decide)), Rc.rf, hW, hB_G_21, hF, Fr.rf, hS, lv_sub hl [0, 1, 2, 3, 4, 5, 6, 7, 8] rfl⟩
      obtain ⟨G_25, x_29, x_30, x_31, x_32, x_33, hn_40, f_37, f_38, f_39, hX_34, hW, hB_G_25, hF, hq_26, hS, hl⟩ := hI
      refine lv_iload hx hb dX11_gap_51 (lv_at hl 0 rfl) ?_
      refine lv_aload_n hx hb dX11_gap_53 rfl (lv_at hl 5 rfl) ?_
      refine S_getV (n := 2) (C := RX11) (T := TX11) (N := 13) hx hb hg iX11 hown hK hW kd_0 rfl 0 (lt_b rfl) (hg (Cond.fieldLink RX11 10 "SlabWalk" "paving" "LSlabWalk$Paving;") m570) (fun _ h9 => h9) rfl ((((hq_26.r9 0 0 rfl rfl).trans ((hq_22.r9 0 0 rfl rfl).trans ((hq_17.r9 0 0 rfl rfl).trans ((hq_10.r9 0 0 rfl rfl).trans (hq_3.r9 0 0 rfl rfl)))))).trans (hv_0_0)) dX11_gap_54 ?_
      refine S_getR (n := 20) (C := RX6) (T := TX6) (N := 17) hx hb hg iX6 hown hK hW kd_2 rfl 0 (lt_b rfl) (hg (Cond.fieldLink RX11 125 "SlabWalk$Paving" "length" "[I") m159) (fun _ h9 => h9) rfl dX11_gap_57 ?_
      refine lv_iload_n hx hb dX11_gap_60 rfl (lv_at hl 6 rfl) ?_
      refine S_iald hx hb hK hW kd_20 (vin ((by first | exact ok_3 f_6.1 f_6.2 hp_4 c_7 | omega)) ((by first | exact ok_4 f_6.1 f_6.2 hp_4 c_7 | omega))) dX11_gap_61 (fun y_41 ey_41 => ?_)
      have ty_41 : 0 ≤ y_41.toInt ∧ y_41.toInt ≤ 400 := bv_20 hB_G_25 ey_41
      refine lv_icmp_ge (tgt := 134) hx hb dX11_gap_62 rfl (fun c_42 => ?_) (fun c_42 => ?_)
      · have c_42 : y_41.toInt ≤ x_29.toInt := xI_le rfl rfl c_42
        refine lv_iload_n hx hb dX11_gap_134 rfl (lv_at hl 8 rfl) ?_
        refine lv_if_ne (tgt := 143) hx hb dX11_gap_135 rfl (fun c_43 => ?_) (fun c_43 => ?_)
        · have c_43 : p2.toInt ≠ 0 := xI_ne rfl rfl c_43
          refine lv_iload_n hx hb dX11_gap_143 rfl (lv_at hl 8 rfl) ?_
          refine ic_1 hx hb dX11_gap_144 ?_
          refine lv_icmp_ne (tgt := 153) hx hb dX11_gap_145 rfl (fun c_44 => ?_) (fun c_44 => ?_)
          · have c_44 : p2.toInt ≠ 1 := xI_ne rfl rfl c_44
            refine lv_iload_n hx hb dX11_gap_153 rfl (lv_at hl 8 rfl) ?_
            refine ic_2 hx hb dX11_gap_154 ?_
            refine lv_icmp_ne (tgt := 163) hx hb dX11_gap_155 rfl (fun c_45 => ?_) (fun c_45 => ?_)
            · have c_45 : p2.toInt ≠ 2 := xI_ne rfl rfl c_45
              refine ic_m1 hx hb dX11_gap_163 ?_
              exact W.iret (v := (-1)) hx hb hr (fun t ht _ => ⟨⟨(-1), G_25, rfl, (P_Wgap_2_mk ⟨hB_G_25, hF, ⟨r_1, G_2, hX_5, (Or.inr ⟨c_7, ⟨r_8, G_9, hX_12, (Or.inr ⟨c_14, ⟨r_15, G_16, hX_19, ⟨G_21, hX_24, ⟨x_29, x_30, x_31, x_32, x_33, G_25, hX_34, f_37, f_38, f_39, hB_G_25, hq_26, ⟨y_41, ey_41, ⟨c_42, (Or.inr ⟨c_43, (Or.inr ⟨c_44, (Or.inr ⟨c_45, ⟨rfl, rfl⟩⟩)⟩)⟩)⟩⟩⟩⟩⟩⟩)⟩⟩)⟩⟩), wd_t ht hW⟩, hS.F ht⟩) hS.2.2 dX11_gap_164
            · have c_45 : p2.toInt = 2 := xI_eq rfl rfl c_45
              refine lv_iload hx hb dX11_gap_158 (lv_at hl 2 rfl) ?_
              refine lv_goto (tgt := 164) hx hb dX11_gap_160 rfl ?_
              exact W.iret (v := x_31) hx hb hr (fun t ht _ => ⟨⟨x_31, G_25, rfl, (P_Wgap_2_mk ⟨hB_G_25, hF, ⟨r_1, G_2, hX_5, (Or.inr ⟨c_7, ⟨r_8, G_9, hX_12, (Or.inr ⟨c_14, ⟨r_15, G_16, hX_19, ⟨G_21, hX_24, ⟨x_29, x_30, x_31, x_32, x_33, G_25, hX_34, f_37, f_38, f_39, hB_G_25, hq_26, ⟨y_41, ey_41, ⟨c_42, (Or.inr ⟨c_43, (Or.inr ⟨c_44, (Or.inl ⟨c_45, ⟨rfl, rfl⟩⟩)⟩)⟩)⟩⟩⟩⟩⟩⟩)⟩⟩)⟩⟩), wd_t ht hW⟩, hS.F ht⟩) hS.2.2 dX11_gap_164
          · have c_44 : p2.toInt = 1 := xI_eq rfl rfl c_44
            refine lv_iload hx hb dX11_gap_148 (lv_at hl 3 rfl) ?_
            refine lv_goto (tgt := 164) hx hb dX11_gap_150 rfl ?_
            exact W.iret (v := x_32) hx hb hr (fun t ht _ => ⟨⟨x_32, G_25, rfl, (P_Wgap_2_mk ⟨hB_G_25, hF, ⟨r_1, G_2, hX_5, (Or.inr ⟨c_7, ⟨r_8, G_9, hX_12, (Or.inr ⟨c_14, ⟨r_15, G_16, hX_19, ⟨G_21, hX_24, ⟨x_29, x_30, x_31, x_32, x_33, G_25, hX_34, f_37, f_38, f_39, hB_G_25, hq_26, ⟨y_41, ey_41, ⟨c_42, (Or.inr ⟨c_43, (Or.inl ⟨c_44, ⟨rfl, rfl⟩⟩)⟩)⟩⟩⟩⟩⟩⟩)⟩⟩)⟩⟩), wd_t ht hW⟩, hS.F ht⟩) hS.2.2 dX11_gap_164
        · have c_43 : p2.toInt = 0 := xI_eq rfl rfl c_43
          refine lv_iload hx hb dX11_gap_138 (lv_at hl 4 rfl) ?_
          refine lv_goto (tgt := 164) hx hb dX11_gap_140 rfl ?_
          exact W.iret (v := x_33) hx hb hr (fun t ht _ => ⟨⟨x_33, G_25, rfl, (P_Wgap_2_mk ⟨hB_G_25, hF, ⟨r_1, G_2, hX_5, (Or.inr ⟨c_7, ⟨r_8, G_9, hX_12, (Or.inr ⟨c_14, ⟨r_15, G_16, hX_19, ⟨G_21, hX_24, ⟨x_29, x_30, x_31, x_32, x_33, G_25, hX_34, f_37, f_38, f_39, hB_G_25, hq_26, ⟨y_41, ey_41, ⟨c_42, (Or.inl ⟨c_43, ⟨rfl, rfl⟩⟩)⟩⟩⟩⟩⟩⟩)⟩⟩)⟩⟩), wd_t ht hW⟩, hS.F ht⟩) hS.2.2 dX11_gap_164
      · have c_42 : x_29.toInt < y_41.toInt := xI_nle rfl rfl c_42
        refine lv_aload_n hx hb dX11_gap_65 rfl (lv_at hl 5 rfl) ?_
        refine S_getR (n := 6) (C := RX11) (T := TX11) (N := 13) hx hb hg iX11 hown hK hW kd_0 rfl 4 (lt_b rfl) (hg (Cond.fieldLink RX11 37 "SlabWalk" "lines" "LSlabWalk$Lines;") m574) (fun _ h9 => h9) rfl dX11_gap_66 ?_
        refine lv_iload_n hx hb dX11_gap_69 rfl (lv_at hl 6 rfl) ?_
        refine lv_iload_n hx hb dX11_gap_70 rfl (lv_at hl 7 rfl) ?_
        refine lv_iload hx hb dX11_gap_71 (lv_at hl 0 rfl) ?_
        refine S_calli (va_runV (As := [.int p0, .int p1, .int x_29]) (rest := []) ⟨hx, hb, hml, hown, hts⟩ (k_lIsLine_2 l D k A a z G_25 p0 p1 x_29 ((((hq_26.r9 6 4 rfl rfl).trans ((hq_22.r9 6 4 rfl rfl).trans ((hq_17.r9 6 4 rfl rfl).trans ((hq_10.r9 6 4 rfl rfl).trans (hq_3.r9 6 4 rfl rfl)))))).trans (hv_6_4))) (cwV 3 hts (gd_V hgd m940 m941 m942 m122 m943) rfl rfl rfl hd_X3_isLine ⟨Nat.le_of_ble_eq_true rfl, Nat.le_of_ble_eq_true rfl⟩) (pre_W hW hB_G_25 hK hZ hS kd_6 rfl) rfl rfl hl.1 rfl (lv_room (Nat.le_of_ble_eq_true rfl)) dX11_gap_73 ⟨Nat.le_of_ble_eq_true rfl, Nat.le_of_ble_eq_true rfl⟩) hS (fun r_46 G_47 H locs hpo hW hS => ?_)
        have hX_50 : P_lIsLine_2 p0 p1 x_29 G_25 r_46 G_47 := hpo
        obtain ⟨hB_G_47, hq_48, f_51, -⟩ := hpo
        have hF := hF.call9 hq_48 rfl rfl
        refine lv_istore (lv' := [(9, .int r_46), (8, .int x_29), (7, .int x_30), (6, .int x_31), (5, .int x_32), (4, .int x_33), (0, .ref (a 0)), (1, .int p0), (2, .int p1), (3, .int p2)]) hx hb dX11_gap_76 hl (lt_b rfl) rfl (fun ls hl => ?_)
        refine lv_iload hx hb dX11_gap_78 (lv_at hl 3 rfl) ?_
        refine lv_iload hx hb dX11_gap_80 (lv_at hl 0 rfl) ?_
        refine W.cut (σ := Int32) (pcJ := 90) (J := fun y H locs ls => ∃ (G_63 : GS), (0 ≤ y.toInt ∧ y.toInt ≤ 1) ∧ Jn_k_Wgap_2_2 r_46 G_47 y G_63 ∧ Wd D k A a G_63 H ∧ Bd G_63 ∧ Fr [37, 38, 39] [(6, 3)] G G_63 ∧ Fr [] [] G_47 G_63 ∧ va_S A s.heap H locs ∧ lv_has ls 10 [(9, .int r_46), (8, .int x_29), (7, .int x_30), (5, .int x_32), (4, .int x_33), (0, .ref (a 0)), (1, .int p0), (2, .int p1), (3, .int p2)]) (stJ := fun y => [.int y, .int x_31]) ?_ (fun hJ_64 => ?_)
        · intro y H locs ls hI
          obtain ⟨w_61, hy⟩ : ∃ q, q = y := ⟨_, rfl⟩
          subst hy
          obtain ⟨G_63, f_67, hX_66, hW, hB_G_63, hF, hq_65, hS, hl⟩ := hI
          refine lv_iadd hx hb dX11_gap_90 ?_
          refine lv_topi (fun y_68 ey_68 => ?_)
          refine lv_istore (lv' := [(6, .int y_68), (9, .int r_46), (8, .int x_29), (7, .int x_30), (5, .int x_32), (4, .int x_33), (0, .ref (a 0)), (1, .int p0), (2, .int p1), (3, .int p2)]) hx hb dX11_gap_91 hl (lt_b rfl) rfl (fun ls hl => ?_)
          refine lv_iload hx hb dX11_gap_93 (lv_at hl 1 rfl) ?_
          refine lv_if_eq (tgt := 102) hx hb dX11_gap_95 rfl (fun c_69 => ?_) (fun c_69 => ?_)
          · have c_69 : r_46.toInt = 0 := xI_eq rfl rfl c_69
            refine lv_iload hx hb dX11_gap_102 (lv_at hl 3 rfl) ?_
            refine ic_1 hx hb dX11_gap_104 ?_
            refine lv_iadd hx hb dX11_gap_105 ?_
            refine lv_topi (fun y_70 ey_70 => ?_)
            refine lv_istore (lv' := [(7, .int y_70), (6, .int y_68), (9, .int r_46), (8, .int x_29), (5, .int x_32), (4, .int x_33), (0, .ref (a 0)), (1, .int p0), (2, .int p1), (3, .int p2)]) hx hb dX11_gap_106 hl (lt_b rfl) rfl (fun ls hl => ?_)
            refine lv_iload hx hb dX11_gap_108 (lv_at hl 0 rfl) ?_
            refine lv_iload hx hb dX11_gap_110 (lv_at hl 5 rfl) ?_
            refine lv_icmp_le (tgt := 128) hx hb dX11_gap_112 rfl (fun c_71 => ?_) (fun c_71 => ?_)
            · have c_71 : y_70.toInt ≤ x_33.toInt := xI_le rfl rfl c_71
              obtain ⟨y_72, ey_72⟩ : ∃ q, q = x_29 + 1 := ⟨_, rfl⟩
              have ty_72 : y_72.toInt = x_29.toInt + 1 := xI_add rfl rfl ey_72 ((by first | exact ok_21 f_37.1 | omega)) ((by first | exact ok_40 f_37.2 | omega))
              refine lv_iinc (v := y_72) (lv' := [(8, .int y_72), (7, .int y_70), (6, .int y_68), (9, .int r_46), (5, .int x_32), (4, .int x_33), (0, .ref (a 0)), (1, .int p0), (2, .int p1), (3, .int p2)]) hx hb dX11_gap_128 hl (k := 3) rfl (by rw [ey_72]; rfl) (lt_b rfl) rfl (fun ls hl => ?_)
              refine lv_goto (tgt := 51) hx hb dX11_gap_131 rfl ?_
              exact ih_27 (400 - y_72.toInt : Int).toNat ((by first | (clear f_6 hp_4 c_7 f_13 hp_11 c_14 f_38 f_39 f_51 f_67 c_69 c_71; omega) | omega)) _ _ _ ⟨G_63, y_72, y_70, y_68, x_32, x_33, (Int.toNat_of_nonneg ((by first | exact ok_155 f_37.2 ty_41.2 c_42 ty_72 | omega))), ⟨(by first | exact ok_23 f_37.1 ty_72 | omega), (by first | exact ok_64 f_37.2 ty_41.2 c_42 ty_72 | omega)⟩, ((by first | exact f_38 | omega)), ((by first | exact f_39 | omega)), (hX_34.st (St_k_Wgap_2_1_mk ⟨x_29, x_30, x_31, x_32, x_33, G_25, y_72, y_70, y_68, x_32, x_33, G_63, rfl, rfl, f_37, f_38, f_39, hB_G_25, ⟨y_41, ey_41, ⟨c_42, ⟨r_46, G_47, hX_50, ⟨w_61, G_63, hX_66, f_67, hB_G_63, hq_65, ⟨y_68, ey_68, (Or.inl ⟨c_69, ⟨y_70, ey_70, (Or.inl ⟨c_71, ⟨y_72, ty_72, ⟨rfl, rfl, rfl, rfl, rfl, rfl⟩⟩⟩)⟩⟩)⟩⟩⟩⟩⟩⟩)), hW, hB_G_63, hF, (Fr.call9 (rs := []) (fs := []) (Fr.call9 (rs := []) (fs := []) (Fr.call9 (rs := []) (fs := []) Fr.rf hq_26 rfl rfl) hq_48 rfl rfl) hq_65 rfl rfl), hS, lv_sub hl [0, 1, 2, 4, 5, 6, 7, 8, 9] rfl⟩
            · have c_71 : x_33.toInt < y_70.toInt := xI_nle rfl rfl c_71
              refine lv_iload hx hb dX11_gap_115 (lv_at hl 0 rfl) ?_
              refine lv_istore (lv' := [(4, .int y_70), (7, .int y_70), (6, .int y_68), (9, .int r_46), (8, .int x_29), (5, .int x_32), (0, .ref (a 0)), (1, .int p0), (2, .int p1), (3, .int p2)]) hx hb dX11_gap_117 hl (lt_b rfl) rfl (fun ls hl => ?_)
              refine lv_iload hx hb dX11_gap_119 (lv_at hl 4 rfl) ?_
              refine lv_iload hx hb dX11_gap_121 (lv_at hl 1 rfl) ?_
              refine lv_isub hx hb dX11_gap_123 ?_
              refine lv_topi (fun y_73 ey_73 => ?_)
              have e_74 := tI_rng y_70
              have ty_73 : y_73.toInt = x_29.toInt - y_70.toInt := xI_sub rfl rfl ey_73 ((by first | exact ok_524 f_37.1 e_74.2 | omega)) ((by first | (clear f_6 hp_4 c_7 f_13 hp_11 c_14 hn_40 f_38 f_51 f_67 c_69; omega) | omega))
              refine ic_1 hx hb dX11_gap_124 ?_
              refine lv_iadd hx hb dX11_gap_125 ?_
              refine lv_topi (fun y_75 ey_75 => ?_)
              have e_76 := tI_rng y_73
              have ty_75 : y_75.toInt = y_73.toInt + 1 := xI_add rfl rfl ey_75 ((by first | exact ok_525 e_76.1 | omega)) ((by first | (clear f_6 hp_4 c_7 f_13 hp_11 c_14 hn_40 f_38 f_51 f_67 c_69; omega) | omega))
              refine lv_istore (lv' := [(5, .int y_75), (4, .int y_70), (7, .int y_70), (6, .int y_68), (9, .int r_46), (8, .int x_29), (0, .ref (a 0)), (1, .int p0), (2, .int p1), (3, .int p2)]) hx hb dX11_gap_126 hl (lt_b rfl) rfl (fun ls hl => ?_)
              obtain ⟨y_77, ey_77⟩ : ∃ q, q = x_29 + 1 := ⟨_, rfl⟩
              have ty_77 : y_77.toInt = x_29.toInt + 1 := xI_add rfl rfl ey_77 ((by first | exact ok_21 f_37.1 | omega)) ((by first | exact ok_40 f_37.2 | omega))
              refine lv_iinc (v := y_77) (lv' := [(8, .int y_77), (5, .int y_75), (4, .int y_70), (7, .int y_70), (6, .int y_68), (9, .int r_46), (0, .ref (a 0)), (1, .int p0), (2, .int p1), (3, .int p2)]) hx hb dX11_gap_128 hl (k := 5) rfl (by rw [ey_77]; rfl) (lt_b rfl) rfl (fun ls hl => ?_)
              refine lv_goto (tgt := 51) hx hb dX11_gap_131 rfl ?_
              exact ih_27 (400 - y_77.toInt : Int).toNat ((by first | (clear f_6 hp_4 c_7 f_13 hp_11 c_14 f_38 f_51 f_67 c_69; omega) | omega)) _ _ _ ⟨G_63, y_77, y_70, y_68, y_75, y_70, (Int.toNat_of_nonneg ((by first | exact ok_155 f_37.2 ty_41.2 c_42 ty_77 | omega))), ⟨(by first | exact ok_23 f_37.1 ty_77 | omega), (by first | exact ok_64 f_37.2 ty_41.2 c_42 ty_77 | omega)⟩, ((by first | exact ok_526 f_37.2 f_39 c_71 ty_73 ty_75 | omega)), ((by first | exact ok_527 f_39 c_71 | omega)), (hX_34.st (St_k_Wgap_2_1_mk ⟨x_29, x_30, x_31, x_32, x_33, G_25, y_77, y_70, y_68, y_75, y_70, G_63, rfl, rfl, f_37, f_38, f_39, hB_G_25, ⟨y_41, ey_41, ⟨c_42, ⟨r_46, G_47, hX_50, ⟨w_61, G_63, hX_66, f_67, hB_G_63, hq_65, ⟨y_68, ey_68, (Or.inl ⟨c_69, ⟨y_70, ey_70, (Or.inr ⟨c_71, ⟨y_73, ty_73, ⟨y_75, ty_75, ⟨y_77, ty_77, ⟨rfl, rfl, rfl, rfl, rfl, rfl⟩⟩⟩⟩⟩)⟩⟩)⟩⟩⟩⟩⟩⟩)), hW, hB_G_63, hF, (Fr.call9 (rs := []) (fs := []) (Fr.call9 (rs := []) (fs := []) (Fr.call9 (rs := []) (fs := []) Fr.rf hq_26 rfl rfl) hq_48 rfl rfl) hq_65 rfl rfl), hS, lv_sub hl [0, 3, 4, 1, 2, 6, 7, 8, 9] rfl⟩
          · have c_69 : r_46.toInt ≠ 0 := xI_ne rfl rfl c_69
            refine ic_0 hx hb dX11_gap_98 ?_
            refine lv_goto (tgt := 106) hx hb dX11_gap_99 rfl ?_
            refine lv_istore (lv' := [(7, .int 0), (6, .int y_68), (9, .int r_46), (8, .int x_29), (5, .int x_32), (4, .int x_33), (0, .ref (a 0)), (1, .int p0), (2, .int p1), (3, .int p2)]) hx hb dX11_gap_106 hl (lt_b rfl) rfl (fun ls hl => ?_)
            refine lv_iload hx hb dX11_gap_108 (lv_at hl 0 rfl) ?_
            refine lv_iload hx hb dX11_gap_110 (lv_at hl 5 rfl) ?_
            refine lv_icmp_le (tgt := 128) hx hb dX11_gap_112 rfl (fun c_78 => ?_) (fun c_78 => ?_)
            · have c_78 : 0 ≤ x_33.toInt := xI_le rfl rfl c_78
              obtain ⟨y_79, ey_79⟩ : ∃ q, q = x_29 + 1 := ⟨_, rfl⟩
              have ty_79 : y_79.toInt = x_29.toInt + 1 := xI_add rfl rfl ey_79 ((by first | exact ok_21 f_37.1 | omega)) ((by first | exact ok_40 f_37.2 | omega))
              refine lv_iinc (v := y_79) (lv' := [(8, .int y_79), (7, .int 0), (6, .int y_68), (9, .int r_46), (5, .int x_32), (4, .int x_33), (0, .ref (a 0)), (1, .int p0), (2, .int p1), (3, .int p2)]) hx hb dX11_gap_128 hl (k := 3) rfl (by rw [ey_79]; rfl) (lt_b rfl) rfl (fun ls hl => ?_)
              refine lv_goto (tgt := 51) hx hb dX11_gap_131 rfl ?_
              have qc_80 : (0 : Int32).toInt = 0 := rfl
              exact ih_27 (400 - y_79.toInt : Int).toNat ((by first | (clear f_6 hp_4 c_7 f_13 hp_11 c_14 f_38 f_39 f_51 f_67 c_69 c_78; omega) | omega)) _ _ _ ⟨G_63, y_79, 0, y_68, x_32, x_33, (Int.toNat_of_nonneg ((by first | exact ok_155 f_37.2 ty_41.2 c_42 ty_79 | omega))), ⟨(by first | exact ok_23 f_37.1 ty_79 | omega), (by first | exact ok_64 f_37.2 ty_41.2 c_42 ty_79 | omega)⟩, ((by first | exact f_38 | omega)), ((by first | exact c_78 | omega)), (hX_34.st (St_k_Wgap_2_1_mk ⟨x_29, x_30, x_31, x_32, x_33, G_25, y_79, 0, y_68, x_32, x_33, G_63, rfl, rfl, f_37, f_38, f_39, hB_G_25, ⟨y_41, ey_41, ⟨c_42, ⟨r_46, G_47, hX_50, ⟨w_61, G_63, hX_66, f_67, hB_G_63, hq_65, ⟨y_68, ey_68, (Or.inr ⟨c_69, ⟨y_79, ty_79, ⟨rfl, rfl, rfl, rfl, rfl, rfl⟩⟩⟩)⟩⟩⟩⟩⟩⟩)), hW, hB_G_63, hF, (Fr.call9 (rs := []) (fs := []) (Fr.call9 (rs := []) (fs := []) (Fr.call9 (rs := []) (fs := []) Fr.rf hq_26 rfl rfl) hq_48 rfl rfl) hq_65 rfl rfl), hS, lv_sub hl [0, 1, 2, 4, 5, 6, 7, 8, 9] rfl⟩
            · have c_78 : x_33.toInt < 0 := xI_nle rfl rfl c_78
              exfalso; first | exact ok_528 f_39 c_78 | omega
        refine lv_if_eq (tgt := 89) hx hb dX11_gap_82 rfl (fun c_81 => ?_) (fun c_81 => ?_)
        · have c_81 : r_46.toInt = 0 := xI_eq rfl rfl c_81
          refine ic_0 hx hb dX11_gap_89 ?_
          have qc_82 : (0 : Int32).toInt = 0 := rfl
          exact hJ_64 0 _ _ _ ⟨G_47, ⟨(by decide), (by decide)⟩, (Jn_k_Wgap_2_2_mk (Or.inl ⟨c_81, ⟨rfl, rfl⟩⟩)), hW, hB_G_47, hF, (Fr.rf (rs := []) (fs := [])), hS, lv_sub hl [0, 1, 2, 4, 5, 6, 7, 8, 9] rfl⟩
        · have c_81 : r_46.toInt ≠ 0 := xI_ne rfl rfl c_81
          refine ic_1 hx hb dX11_gap_85 ?_
          refine lv_goto (tgt := 90) hx hb dX11_gap_86 rfl ?_
          have qc_83 : (1 : Int32).toInt = 1 := rfl
          exact hJ_64 1 _ _ _ ⟨G_47, ⟨(by decide), (by decide)⟩, (Jn_k_Wgap_2_2_mk (Or.inr ⟨c_81, ⟨rfl, rfl⟩⟩)), hW, hB_G_47, hF, (Fr.rf (rs := []) (fs := [])), hS, lv_sub hl [0, 1, 2, 4, 5, 6, 7, 8, 9] rfl⟩
    · have c_14 : r_8.toInt = 0 := xI_eq rfl rfl c_14
      refine ic_m1 hx hb dX11_gap_22 ?_
      exact W.iret (v := (-1)) hx hb hr (fun t ht _ => ⟨⟨(-1), G_9, rfl, (P_Wgap_2_mk ⟨hB_G_9, hF, ⟨r_1, G_2, hX_5, (Or.inr ⟨c_7, ⟨r_8, G_9, hX_12, (Or.inl ⟨c_14, ⟨rfl, rfl⟩⟩)⟩⟩)⟩⟩), wd_t ht hW⟩, hS.F ht⟩) hS.2.2 dX11_gap_23

set_option maxHeartbeats 4000000 in
set_option maxRecDepth 100000 in
theorem k_Wfoot_2 (l : Launch) (D : va_G) (k : KT) (A : Nat → Prop) (a : Nat → Nat) (z : SK) (G : GS) (p0 : Int32) (p1 : Int32) (p2 : Int32) (p3 : Int32) (hv_0_0 : G.2.2 0 0 = 2) (hv_0_1 : G.2.2 0 1 = 1) (hv_6_4 : G.2.2 6 4 = 2) : Met l yX11_foot (WS yX11_foot cX11_foot 5 (some .int)) ({ frames := 4, cells := 0, slots := 0, locals := 96 }) (va_Pc [.ref (a 0), .int p0, .int p1, .int p2, .int p3] (cW D k A a z G)) (va_Qi (fun (r : Int32) (G1 : GS) => P_Wfoot_2 p0 p1 p2 p3 G r G1) (fun (G1 : GS) t => Wd D k A a G1 t.heap) A) 0 0 A := by
  refine Met.ofW (cc := cX11_foot) (maxL := 5) (ret := (some .int)) (by decide) rfl ?_
  intro p e s m args below meth c s₁ B hml hv
  obtain ⟨rfl, hW, hB_G, hK, hZ⟩ := hv
  have hx := B.exec
  have hb := B.bytes
  have hr := B.returns
  have hts := atoms_spec (ws := WS yX11_foot cX11_foot 5 (some .int)) B.pre
  have hgd : ∀ w ∈ gd, w ∈ WS yX11_foot cX11_foot 5 (some .int) := fun w h => List.mem_cons_of_mem _ h
  have hg : ∀ w ∈ gd, w.before _ s = true := fun w h => hts w (hgd w h)
  have hown : s.vm.findClass RX11 = some m.cls := findClass_of_methodNamed B.named
  have hS : va_S A s.heap s.heap [] := va_S.rf
  have hF : Fr [37, 38, 39] [(6, 3)] G G := Fr.rf
  have hl := lv_entry ([.ref (a 0), .int p0, .int p1, .int p2, .int p3]) (n := 5) (Nat.le_of_ble_eq_true rfl)
  rw [lg_entry_eq]
  generalize (lg_sl ([.ref (a 0), .int p0, .int p1, .int p2, .int p3]) ++ List.replicate (5 - (lg_sl ([.ref (a 0), .int p0, .int p1, .int p2, .int p3])).length) Slot.unset).toArray = ls at hl ⊢
  have hl : lv_has ls 5 [(0, .ref (a 0)), (1, .int p0), (2, .int p1), (3, .int p2), (4, .int p3)] := hl
  refine lv_aload_n hx hb dX11_foot_0 rfl (lv_at hl 0 rfl) ?_
  refine lv_iload_n hx hb dX11_foot_1 rfl (lv_at hl 1 rfl) ?_
  refine lv_iload_n hx hb dX11_foot_2 rfl (lv_at hl 2 rfl) ?_
  refine lv_iload_n hx hb dX11_foot_3 rfl (lv_at hl 3 rfl) ?_
  refine S_calli (va_runV (As := [.int p0, .int p1, .int p2]) (rest := []) ⟨hx, hb, hml, hown, hts⟩ (k_wAsk_2 l D k A a z G p0 p1 p2 hv_0_0 hv_0_1 hv_6_4) (cwV 3 hts (gd_V hgd m953 m955 m31 m117 m956) rfl rfl rfl hd_X11_canAsk ⟨Nat.le_of_ble_eq_true rfl, Nat.le_of_ble_eq_true rfl⟩) (pre_W hW hB_G hK hZ hS kd_0 rfl) rfl rfl hl.1 rfl (lv_room (Nat.le_of_ble_eq_true rfl)) dX11_foot_4 ⟨Nat.le_of_ble_eq_true rfl, Nat.le_of_ble_eq_true rfl⟩) hS (fun r_1 G_2 H locs hpo hW hS => ?_)
  have hX_5 : P_wAsk_2 p0 p1 p2 G r_1 G_2 := hpo
  obtain ⟨hB_G_2, hq_3, f_6, hp_4, -⟩ := hpo
  have hF := hF.call9 hq_3 rfl rfl
  refine lv_if_eq (tgt := 23) hx hb dX11_foot_7 rfl (fun c_7 => ?_) (fun c_7 => ?_)
  · have c_7 : r_1.toInt = 0 := xI_eq rfl rfl c_7
    refine ic_m1 hx hb dX11_foot_23 ?_
    exact W.iret (v := (-1)) hx hb hr (fun t ht _ => ⟨⟨(-1), G_2, rfl, (P_Wfoot_2_mk ⟨hB_G_2, hF, ⟨r_1, G_2, hX_5, (Or.inl ⟨c_7, ⟨rfl, rfl⟩⟩)⟩⟩), wd_t ht hW⟩, hS.F ht⟩) hS.2.2 dX11_foot_24
  · have c_7 : r_1.toInt ≠ 0 := xI_ne rfl rfl c_7
    refine lv_aload_n hx hb dX11_foot_10 rfl (lv_at hl 0 rfl) ?_
    refine S_getV (n := 2) (C := RX11) (T := TX11) (N := 13) hx hb hg iX11 hown hK hW kd_0 rfl 0 (lt_b rfl) (hg (Cond.fieldLink RX11 10 "SlabWalk" "paving" "LSlabWalk$Paving;") m570) (fun _ h9 => h9) rfl (((hq_3.r9 0 0 rfl rfl)).trans (hv_0_0)) dX11_foot_11 ?_
    refine lv_iload_n hx hb dX11_foot_14 rfl (lv_at hl 2 rfl) ?_
    refine lv_iload hx hb dX11_foot_15 (lv_at hl 4 rfl) ?_
    refine S_calli (va_runV (As := [.int p1, .int p3]) (rest := []) ⟨hx, hb, hml, hown, hts⟩ (k_hasInch_2 l D k A a z G_2 p1 p3 ) (cwV 2 hts (gd_V hgd m882 m883 m884 m118 m885) rfl rfl rfl hd_X6_hasInch ⟨Nat.le_of_ble_eq_true rfl, Nat.le_of_ble_eq_true rfl⟩) (pre_W hW hB_G_2 hK hZ hS kd_2 rfl) rfl rfl hl.1 rfl (lv_room (Nat.le_of_ble_eq_true rfl)) dX11_foot_17 ⟨Nat.le_of_ble_eq_true rfl, Nat.le_of_ble_eq_true rfl⟩) hS (fun r_8 G_9 H locs hpo hW hS => ?_)
    have hX_12 : P_hasInch_2 p1 p3 G_2 r_8 G_9 := hpo
    obtain ⟨hB_G_9, hq_10, f_13, hp_11, -⟩ := hpo
    have hF := hF.call9 hq_10 rfl rfl
    refine lv_if_ne (tgt := 25) hx hb dX11_foot_20 rfl (fun c_14 => ?_) (fun c_14 => ?_)
    · have c_14 : r_8.toInt ≠ 0 := xI_ne rfl rfl c_14
      refine lv_aload_n hx hb dX11_foot_25 rfl (lv_at hl 0 rfl) ?_
      refine S_getR (n := 6) (C := RX11) (T := TX11) (N := 13) hx hb hg iX11 hown hK hW kd_0 rfl 4 (lt_b rfl) (hg (Cond.fieldLink RX11 37 "SlabWalk" "lines" "LSlabWalk$Lines;") m574) (fun _ h9 => h9) rfl dX11_foot_26 ?_
      refine lv_iload_n hx hb dX11_foot_29 rfl (lv_at hl 2 rfl) ?_
      refine lv_aload_n hx hb dX11_foot_30 rfl (lv_at hl 0 rfl) ?_
      refine S_calli (va_runV (As := []) (rest := [.int p1, .ref (a 6)]) ⟨hx, hb, hml, hown, hts⟩ (k_wToday l D k A a z G_9  ) (cwV 0 hts (gd_V hgd m911 m913 m27 m117 m914) rfl rfl rfl hd_X11_today ⟨Nat.le_of_ble_eq_true rfl, Nat.le_of_ble_eq_true rfl⟩) (pre_W hW hB_G_9 hK hZ hS kd_0 rfl) rfl rfl hl.1 rfl (lv_room (Nat.le_of_ble_eq_true rfl)) dX11_foot_31 ⟨Nat.le_of_ble_eq_true rfl, Nat.le_of_ble_eq_true rfl⟩) hS (fun r_15 G_16 H locs hpo hW hS => ?_)
      have hX_19 : P_wToday G_9 r_15 G_16 := hpo
      obtain ⟨hB_G_16, hq_17, -⟩ := hpo
      have hF := hF.call9 hq_17 rfl rfl
      refine S_callv (va_runV (As := [.int p1, .int r_15]) (rest := []) ⟨hx, hb, hml, hown, hts⟩ (k_lFind_2 l D k A a z G_16 p1 r_15 ((((hq_17.r9 6 4 rfl rfl).trans ((hq_10.r9 6 4 rfl rfl).trans (hq_3.r9 6 4 rfl rfl)))).trans (hv_6_4))) (cwV 2 hts (gd_V hgd m915 m916 m917 m122 m918) rfl rfl rfl hd_X3_findFor ⟨Nat.le_of_ble_eq_true rfl, Nat.le_of_ble_eq_true rfl⟩) (pre_W hW hB_G_16 hK hZ hS kd_6 rfl) rfl rfl hl.1 rfl (lv_room (Nat.le_of_ble_eq_true rfl)) dX11_foot_34 ⟨Nat.le_of_ble_eq_true rfl, Nat.le_of_ble_eq_true rfl⟩) hS (fun G_21 H locs hpo hW hS => ?_)
      have hX_24 : P_lFind_2 p1 r_15 G_16 G_21 := hpo
      obtain ⟨hB_G_21, hq_22, -⟩ := hpo
      have hF := hF.call9 hq_22 rfl rfl
      refine lv_aload_n hx hb dX11_foot_37 rfl (lv_at hl 0 rfl) ?_
      refine S_getR (n := 6) (C := RX11) (T := TX11) (N := 13) hx hb hg iX11 hown hK hW kd_0 rfl 4 (lt_b rfl) (hg (Cond.fieldLink RX11 37 "SlabWalk" "lines" "LSlabWalk$Lines;") m574) (fun _ h9 => h9) rfl dX11_foot_38 ?_
      refine lv_iload_n hx hb dX11_foot_41 rfl (lv_at hl 1 rfl) ?_
      refine lv_iload_n hx hb dX11_foot_42 rfl (lv_at hl 2 rfl) ?_
      refine lv_iload_n hx hb dX11_foot_43 rfl (lv_at hl 3 rfl) ?_
      refine lv_iload hx hb dX11_foot_44 (lv_at hl 4 rfl) ?_
      refine S_calli (va_runV (As := [.int p0, .int p1, .int p2, .int p3]) (rest := []) ⟨hx, hb, hml, hown, hts⟩ (k_lIsLawful_2 l D k A a z G_21 p0 p1 p2 p3 ((((hq_22.r9 6 4 rfl rfl).trans ((hq_17.r9 6 4 rfl rfl).trans ((hq_10.r9 6 4 rfl rfl).trans (hq_3.r9 6 4 rfl rfl))))).trans (hv_6_4))) (cwV 4 hts (gd_V hgd m961 m962 m963 m122 m964) rfl rfl rfl hd_X3_isLawful ⟨Nat.le_of_ble_eq_true rfl, Nat.le_of_ble_eq_true rfl⟩) (pre_W hW hB_G_21 hK hZ hS kd_6 rfl) rfl rfl hl.1 rfl (lv_room (Nat.le_of_ble_eq_true rfl)) dX11_foot_46 ⟨Nat.le_of_ble_eq_true rfl, Nat.le_of_ble_eq_true rfl⟩) hS (fun r_25 G_26 H locs hpo hW hS => ?_)
      have hX_29 : P_lIsLawful_2 p0 p1 p2 p3 G_21 r_25 G_26 := hpo
      obtain ⟨hB_G_26, hq_27, f_30, -⟩ := hpo
      have hF := hF.call9 hq_27 rfl rfl
      refine lv_if_eq (tgt := 56) hx hb dX11_foot_49 rfl (fun c_31 => ?_) (fun c_31 => ?_)
      · have c_31 : r_25.toInt = 0 := xI_eq rfl rfl c_31
        refine ic_0 hx hb dX11_foot_56 ?_
        exact W.iret (v := 0) hx hb hr (fun t ht _ => ⟨⟨0, G_26, rfl, (P_Wfoot_2_mk ⟨hB_G_26, hF, ⟨r_1, G_2, hX_5, (Or.inr ⟨c_7, ⟨r_8, G_9, hX_12, (Or.inr ⟨c_14, ⟨r_15, G_16, hX_19, ⟨G_21, hX_24, ⟨r_25, G_26, hX_29, (Or.inl ⟨c_31, ⟨rfl, rfl⟩⟩)⟩⟩⟩⟩)⟩⟩)⟩⟩), wd_t ht hW⟩, hS.F ht⟩) hS.2.2 dX11_foot_57
      · have c_31 : r_25.toInt ≠ 0 := xI_ne rfl rfl c_31
        refine ic_1 hx hb dX11_foot_52 ?_
        refine lv_goto (tgt := 57) hx hb dX11_foot_53 rfl ?_
        exact W.iret (v := 1) hx hb hr (fun t ht _ => ⟨⟨1, G_26, rfl, (P_Wfoot_2_mk ⟨hB_G_26, hF, ⟨r_1, G_2, hX_5, (Or.inr ⟨c_7, ⟨r_8, G_9, hX_12, (Or.inr ⟨c_14, ⟨r_15, G_16, hX_19, ⟨G_21, hX_24, ⟨r_25, G_26, hX_29, (Or.inr ⟨c_31, ⟨rfl, rfl⟩⟩)⟩⟩⟩⟩)⟩⟩)⟩⟩), wd_t ht hW⟩, hS.F ht⟩) hS.2.2 dX11_foot_57
    · have c_14 : r_8.toInt = 0 := xI_eq rfl rfl c_14
      refine ic_m1 hx hb dX11_foot_23 ?_
      exact W.iret (v := (-1)) hx hb hr (fun t ht _ => ⟨⟨(-1), G_9, rfl, (P_Wfoot_2_mk ⟨hB_G_9, hF, ⟨r_1, G_2, hX_5, (Or.inr ⟨c_7, ⟨r_8, G_9, hX_12, (Or.inl ⟨c_14, ⟨rfl, rfl⟩⟩)⟩⟩)⟩⟩), wd_t ht hW⟩, hS.F ht⟩) hS.2.2 dX11_foot_24

set_option maxHeartbeats 4000000 in
set_option maxRecDepth 100000 in
theorem k_Wabout_2 (l : Launch) (D : va_G) (k : KT) (A : Nat → Prop) (a : Nat → Nat) (z : SK) (G : GS) (p0 : Int32) (hv_0_0 : G.2.2 0 0 = 2) (hv_0_1 : G.2.2 0 1 = 1) (hv_6_4 : G.2.2 6 4 = 2) : Met l yX11_about (WS yX11_about cX11_about 2 (some .int)) ({ frames := 1, cells := 0, slots := 0, locals := 20 }) (va_Pc [.ref (a 0), .int p0] (cW D k A a z G)) (va_Qi (fun (r : Int32) (G1 : GS) => P_Wabout_2 p0 G r G1) (fun (G1 : GS) t => Wd D k A a G1 t.heap) A) 0 0 A := by
  refine Met.ofW (cc := cX11_about) (maxL := 2) (ret := (some .int)) (by decide) rfl ?_
  intro p e s m args below meth c s₁ B hml hv
  obtain ⟨rfl, hW, hB_G, hK, hZ⟩ := hv
  have hx := B.exec
  have hb := B.bytes
  have hr := B.returns
  have hts := atoms_spec (ws := WS yX11_about cX11_about 2 (some .int)) B.pre
  have hgd : ∀ w ∈ gd, w ∈ WS yX11_about cX11_about 2 (some .int) := fun w h => List.mem_cons_of_mem _ h
  have hg : ∀ w ∈ gd, w.before _ s = true := fun w h => hts w (hgd w h)
  have hown : s.vm.findClass RX11 = some m.cls := findClass_of_methodNamed B.named
  have hS : va_S A s.heap s.heap [] := va_S.rf
  have hF : Fr [] [] G G := Fr.rf
  have hl := lv_entry ([.ref (a 0), .int p0]) (n := 2) (Nat.le_of_ble_eq_true rfl)
  rw [lg_entry_eq]
  generalize (lg_sl ([.ref (a 0), .int p0]) ++ List.replicate (2 - (lg_sl ([.ref (a 0), .int p0])).length) Slot.unset).toArray = ls at hl ⊢
  have hl : lv_has ls 2 [(0, .ref (a 0)), (1, .int p0)] := hl
  refine lv_iload_n hx hb dX11_about_0 rfl (lv_at hl 1 rfl) ?_
  by_cases c_1 : p0 = 0
  · refine lv_tableIn (tgt := 76) hx hb dX11_about_1 (by rw [c_1]; decide) (by rw [c_1]; decide) (off := 75) (by rw [c_1]; decide) (by decide) ?_
    have c_1 : p0.toInt = 0 := xI_eq rfl rfl c_1
    refine lv_aload_n hx hb dX11_about_76 rfl (lv_at hl 0 rfl) ?_
    refine S_getV (n := 2) (C := RX11) (T := TX11) (N := 13) hx hb hg iX11 hown hK hW kd_0 rfl 0 (lt_b rfl) (hg (Cond.fieldLink RX11 10 "SlabWalk" "paving" "LSlabWalk$Paving;") m570) (fun _ h9 => h9) rfl hv_0_0 dX11_about_77 ?_
    have b_2 : 0 ≤ (G.1 2 9).toInt ∧ (G.1 2 9).toInt ≤ 3 := bd_2_9 hB_G
    refine S_getI (v := (G.1 2 9)) (C := RX6) (T := TX6) (N := 17) hx hb hg iX6 hown hK hW kd_2 rfl 9 (lt_b rfl) (hg (Cond.fieldLink RX11 95 "SlabWalk$Paving" "streets" "I") m187) (fun _ h9 => h9) rfl rfl dX11_about_80 ?_
    exact W.iret (v := (G.1 2 9)) hx hb hr (fun t ht _ => ⟨⟨(G.1 2 9), G, rfl, (P_Wabout_2_mk ⟨hB_G, hF, (Or.inl ⟨c_1, ⟨rfl, rfl⟩⟩)⟩), wd_t ht hW⟩, hS.F ht⟩) hS.2.2 dX11_about_83
  by_cases c_3 : p0 = 1
  · refine lv_tableIn (tgt := 84) hx hb dX11_about_1 (by rw [c_3]; decide) (by rw [c_3]; decide) (off := 83) (by rw [c_3]; decide) (by decide) ?_
    have c_3 : p0.toInt = 1 := xI_eq rfl rfl c_3
    refine lv_aload_n hx hb dX11_about_84 rfl (lv_at hl 0 rfl) ?_
    refine S_getV (n := 2) (C := RX11) (T := TX11) (N := 13) hx hb hg iX11 hown hK hW kd_0 rfl 0 (lt_b rfl) (hg (Cond.fieldLink RX11 10 "SlabWalk" "paving" "LSlabWalk$Paving;") m570) (fun _ h9 => h9) rfl hv_0_0 dX11_about_85 ?_
    have b_4 : 0 ≤ (G.1 2 10).toInt ∧ (G.1 2 10).toInt ≤ 4 := bd_2_10 hB_G
    refine S_getI (v := (G.1 2 10)) (C := RX6) (T := TX6) (N := 17) hx hb hg iX6 hown hK hW kd_2 rfl 10 (lt_b rfl) (hg (Cond.fieldLink RX11 305 "SlabWalk$Paving" "walkers" "I") m191) (fun _ h9 => h9) rfl rfl dX11_about_88 ?_
    exact W.iret (v := (G.1 2 10)) hx hb hr (fun t ht _ => ⟨⟨(G.1 2 10), G, rfl, (P_Wabout_2_mk ⟨hB_G, hF, (Or.inr ⟨(xI_ne (Y := 0) rfl rfl c_1), (Or.inl ⟨c_3, ⟨rfl, rfl⟩⟩)⟩)⟩), wd_t ht hW⟩, hS.F ht⟩) hS.2.2 dX11_about_91
  by_cases c_5 : p0 = 2
  · refine lv_tableIn (tgt := 92) hx hb dX11_about_1 (by rw [c_5]; decide) (by rw [c_5]; decide) (off := 91) (by rw [c_5]; decide) (by decide) ?_
    have c_5 : p0.toInt = 2 := xI_eq rfl rfl c_5
    refine lv_aload_n hx hb dX11_about_92 rfl (lv_at hl 0 rfl) ?_
    refine S_getV (n := 2) (C := RX11) (T := TX11) (N := 13) hx hb hg iX11 hown hK hW kd_0 rfl 0 (lt_b rfl) (hg (Cond.fieldLink RX11 10 "SlabWalk" "paving" "LSlabWalk$Paving;") m570) (fun _ h9 => h9) rfl hv_0_0 dX11_about_93 ?_
    have b_6 : 0 ≤ (G.1 2 11).toInt ∧ (G.1 2 11).toInt ≤ 6 := bd_2_11 hB_G
    refine S_getI (v := (G.1 2 11)) (C := RX6) (T := TX6) (N := 17) hx hb hg iX6 hown hK hW kd_2 rfl 11 (lt_b rfl) (hg (Cond.fieldLink RX11 228 "SlabWalk$Paving" "rules" "I") m195) (fun _ h9 => h9) rfl rfl dX11_about_96 ?_
    exact W.iret (v := (G.1 2 11)) hx hb hr (fun t ht _ => ⟨⟨(G.1 2 11), G, rfl, (P_Wabout_2_mk ⟨hB_G, hF, (Or.inr ⟨(xI_ne (Y := 0) rfl rfl c_1), (Or.inr ⟨(xI_ne (Y := 1) rfl rfl c_3), (Or.inl ⟨c_5, ⟨rfl, rfl⟩⟩)⟩)⟩)⟩), wd_t ht hW⟩, hS.F ht⟩) hS.2.2 dX11_about_99
  by_cases c_7 : p0 = 3
  · refine lv_tableIn (tgt := 100) hx hb dX11_about_1 (by rw [c_7]; decide) (by rw [c_7]; decide) (off := 99) (by rw [c_7]; decide) (by decide) ?_
    have c_7 : p0.toInt = 3 := xI_eq rfl rfl c_7
    refine lv_aload_n hx hb dX11_about_100 rfl (lv_at hl 0 rfl) ?_
    refine S_calli (va_runV (As := []) (rest := []) ⟨hx, hb, hml, hown, hts⟩ (k_wToday l D k A a z G  ) (cwV 0 hts (gd_V hgd m911 m913 m27 m117 m914) rfl rfl rfl hd_X11_today ⟨Nat.le_of_ble_eq_true rfl, Nat.le_of_ble_eq_true rfl⟩) (pre_W hW hB_G hK hZ hS kd_0 rfl) rfl rfl hl.1 rfl (lv_room (Nat.le_of_ble_eq_true rfl)) dX11_about_101 ⟨Nat.le_of_ble_eq_true rfl, Nat.le_of_ble_eq_true rfl⟩) hS (fun r_8 G_9 H locs hpo hW hS => ?_)
    have hX_12 : P_wToday G r_8 G_9 := hpo
    obtain ⟨hB_G_9, hq_10, -⟩ := hpo
    have hF := hF.call9 hq_10 rfl rfl
    exact W.iret (v := r_8) hx hb hr (fun t ht _ => ⟨⟨r_8, G_9, rfl, (P_Wabout_2_mk ⟨hB_G_9, hF, (Or.inr ⟨(xI_ne (Y := 0) rfl rfl c_1), (Or.inr ⟨(xI_ne (Y := 1) rfl rfl c_3), (Or.inr ⟨(xI_ne (Y := 2) rfl rfl c_5), (Or.inl ⟨c_7, ⟨r_8, G_9, hX_12, ⟨rfl, rfl⟩⟩⟩)⟩)⟩)⟩)⟩), wd_t ht hW⟩, hS.F ht⟩) hS.2.2 dX11_about_104
  by_cases c_13 : p0 = 4
  · refine lv_tableIn (tgt := 105) hx hb dX11_about_1 (by rw [c_13]; decide) (by rw [c_13]; decide) (off := 104) (by rw [c_13]; decide) (by decide) ?_
    have c_13 : p0.toInt = 4 := xI_eq rfl rfl c_13
    refine lv_aload_n hx hb dX11_about_105 rfl (lv_at hl 0 rfl) ?_
    refine S_getR (n := 30) (C := RX11) (T := TX11) (N := 13) hx hb hg iX11 hown hK hW kd_0 rfl 8 (lt_b rfl) (hg (Cond.fieldLink RX11 65 "SlabWalk" "earnest" "LSlabWalk$Earnest;") m578) (fun _ h9 => h9) rfl dX11_about_106 ?_
    refine S_getR (n := 58) (C := RX1) (T := TX1) (N := 6) hx hb hg iX1 hown hK hW kd_30 rfl 0 (lt_b rfl) (hg (Cond.fieldLink RX11 246 "SlabWalk$Earnest" "now" "[I") m493) (fun _ h9 => h9) rfl dX11_about_109 ?_
    refine lv_bipush (v := 7) hx hb dX11_about_112 (by decide) ?_
    refine S_iald hx hb hK hW kd_58 (vin (by decide) (by decide)) dX11_about_114 (fun y_14 ey_14 => ?_)
    exact W.iret (v := y_14) hx hb hr (fun t ht _ => ⟨⟨y_14, G, rfl, (P_Wabout_2_mk ⟨hB_G, hF, (Or.inr ⟨(xI_ne (Y := 0) rfl rfl c_1), (Or.inr ⟨(xI_ne (Y := 1) rfl rfl c_3), (Or.inr ⟨(xI_ne (Y := 2) rfl rfl c_5), (Or.inr ⟨(xI_ne (Y := 3) rfl rfl c_7), (Or.inl ⟨c_13, ⟨y_14, ey_14, ⟨rfl, rfl⟩⟩⟩)⟩)⟩)⟩)⟩)⟩), wd_t ht hW⟩, hS.F ht⟩) hS.2.2 dX11_about_115
  by_cases c_15 : p0 = 5
  · refine lv_tableIn (tgt := 116) hx hb dX11_about_1 (by rw [c_15]; decide) (by rw [c_15]; decide) (off := 115) (by rw [c_15]; decide) (by decide) ?_
    have c_15 : p0.toInt = 5 := xI_eq rfl rfl c_15
    refine lv_aload_n hx hb dX11_about_116 rfl (lv_at hl 0 rfl) ?_
    refine S_getR (n := 30) (C := RX11) (T := TX11) (N := 13) hx hb hg iX11 hown hK hW kd_0 rfl 8 (lt_b rfl) (hg (Cond.fieldLink RX11 65 "SlabWalk" "earnest" "LSlabWalk$Earnest;") m578) (fun _ h9 => h9) rfl dX11_about_117 ?_
    refine S_getR (n := 58) (C := RX1) (T := TX1) (N := 6) hx hb hg iX1 hown hK hW kd_30 rfl 0 (lt_b rfl) (hg (Cond.fieldLink RX11 246 "SlabWalk$Earnest" "now" "[I") m493) (fun _ h9 => h9) rfl dX11_about_120 ?_
    refine lv_bipush (v := 8) hx hb dX11_about_123 (by decide) ?_
    refine S_iald hx hb hK hW kd_58 (vin (by decide) (by decide)) dX11_about_125 (fun y_16 ey_16 => ?_)
    exact W.iret (v := y_16) hx hb hr (fun t ht _ => ⟨⟨y_16, G, rfl, (P_Wabout_2_mk ⟨hB_G, hF, (Or.inr ⟨(xI_ne (Y := 0) rfl rfl c_1), (Or.inr ⟨(xI_ne (Y := 1) rfl rfl c_3), (Or.inr ⟨(xI_ne (Y := 2) rfl rfl c_5), (Or.inr ⟨(xI_ne (Y := 3) rfl rfl c_7), (Or.inr ⟨(xI_ne (Y := 4) rfl rfl c_13), (Or.inl ⟨c_15, ⟨y_16, ey_16, ⟨rfl, rfl⟩⟩⟩)⟩)⟩)⟩)⟩)⟩)⟩), wd_t ht hW⟩, hS.F ht⟩) hS.2.2 dX11_about_126
  by_cases c_17 : p0 = 6
  · refine lv_tableIn (tgt := 127) hx hb dX11_about_1 (by rw [c_17]; decide) (by rw [c_17]; decide) (off := 126) (by rw [c_17]; decide) (by decide) ?_
    have c_17 : p0.toInt = 6 := xI_eq rfl rfl c_17
    refine lv_aload_n hx hb dX11_about_127 rfl (lv_at hl 0 rfl) ?_
    refine S_getR (n := 30) (C := RX11) (T := TX11) (N := 13) hx hb hg iX11 hown hK hW kd_0 rfl 8 (lt_b rfl) (hg (Cond.fieldLink RX11 65 "SlabWalk" "earnest" "LSlabWalk$Earnest;") m578) (fun _ h9 => h9) rfl dX11_about_128 ?_
    refine S_getR (n := 58) (C := RX1) (T := TX1) (N := 6) hx hb hg iX1 hown hK hW kd_30 rfl 0 (lt_b rfl) (hg (Cond.fieldLink RX11 246 "SlabWalk$Earnest" "now" "[I") m493) (fun _ h9 => h9) rfl dX11_about_131 ?_
    refine lv_bipush (v := 9) hx hb dX11_about_134 (by decide) ?_
    refine S_iald hx hb hK hW kd_58 (vin (by decide) (by decide)) dX11_about_136 (fun y_18 ey_18 => ?_)
    exact W.iret (v := y_18) hx hb hr (fun t ht _ => ⟨⟨y_18, G, rfl, (P_Wabout_2_mk ⟨hB_G, hF, (Or.inr ⟨(xI_ne (Y := 0) rfl rfl c_1), (Or.inr ⟨(xI_ne (Y := 1) rfl rfl c_3), (Or.inr ⟨(xI_ne (Y := 2) rfl rfl c_5), (Or.inr ⟨(xI_ne (Y := 3) rfl rfl c_7), (Or.inr ⟨(xI_ne (Y := 4) rfl rfl c_13), (Or.inr ⟨(xI_ne (Y := 5) rfl rfl c_15), (Or.inl ⟨c_17, ⟨y_18, ey_18, ⟨rfl, rfl⟩⟩⟩)⟩)⟩)⟩)⟩)⟩)⟩)⟩), wd_t ht hW⟩, hS.F ht⟩) hS.2.2 dX11_about_137
  by_cases c_19 : p0 = 7
  · refine lv_tableIn (tgt := 138) hx hb dX11_about_1 (by rw [c_19]; decide) (by rw [c_19]; decide) (off := 137) (by rw [c_19]; decide) (by decide) ?_
    have c_19 : p0.toInt = 7 := xI_eq rfl rfl c_19
    refine lv_aload_n hx hb dX11_about_138 rfl (lv_at hl 0 rfl) ?_
    refine S_getR (n := 30) (C := RX11) (T := TX11) (N := 13) hx hb hg iX11 hown hK hW kd_0 rfl 8 (lt_b rfl) (hg (Cond.fieldLink RX11 65 "SlabWalk" "earnest" "LSlabWalk$Earnest;") m578) (fun _ h9 => h9) rfl dX11_about_139 ?_
    have b_20 : 0 ≤ (G.1 30 4).toInt ∧ (G.1 30 4).toInt ≤ 40 := bd_30_4 hB_G
    refine S_getI (v := (G.1 30 4)) (C := RX1) (T := TX1) (N := 6) hx hb hg iX1 hown hK hW kd_30 rfl 4 (lt_b rfl) (hg (Cond.fieldLink RX11 308 "SlabWalk$Earnest" "done" "I") m498) (fun _ h9 => h9) rfl rfl dX11_about_142 ?_
    exact W.iret (v := (G.1 30 4)) hx hb hr (fun t ht _ => ⟨⟨(G.1 30 4), G, rfl, (P_Wabout_2_mk ⟨hB_G, hF, (Or.inr ⟨(xI_ne (Y := 0) rfl rfl c_1), (Or.inr ⟨(xI_ne (Y := 1) rfl rfl c_3), (Or.inr ⟨(xI_ne (Y := 2) rfl rfl c_5), (Or.inr ⟨(xI_ne (Y := 3) rfl rfl c_7), (Or.inr ⟨(xI_ne (Y := 4) rfl rfl c_13), (Or.inr ⟨(xI_ne (Y := 5) rfl rfl c_15), (Or.inr ⟨(xI_ne (Y := 6) rfl rfl c_17), (Or.inl ⟨c_19, ⟨rfl, rfl⟩⟩)⟩)⟩)⟩)⟩)⟩)⟩)⟩)⟩), wd_t ht hW⟩, hS.F ht⟩) hS.2.2 dX11_about_145
  by_cases c_21 : p0 = 8
  · refine lv_tableIn (tgt := 146) hx hb dX11_about_1 (by rw [c_21]; decide) (by rw [c_21]; decide) (off := 145) (by rw [c_21]; decide) (by decide) ?_
    have c_21 : p0.toInt = 8 := xI_eq rfl rfl c_21
    refine lv_aload_n hx hb dX11_about_146 rfl (lv_at hl 0 rfl) ?_
    refine S_getR (n := 30) (C := RX11) (T := TX11) (N := 13) hx hb hg iX11 hown hK hW kd_0 rfl 8 (lt_b rfl) (hg (Cond.fieldLink RX11 65 "SlabWalk" "earnest" "LSlabWalk$Earnest;") m578) (fun _ h9 => h9) rfl dX11_about_147 ?_
    have b_22 : 0 ≤ (G.1 30 5).toInt ∧ (G.1 30 5).toInt ≤ 40 := bd_30_5 hB_G
    refine S_getI (v := (G.1 30 5)) (C := RX1) (T := TX1) (N := 6) hx hb hg iX1 hown hK hW kd_30 rfl 5 (lt_b rfl) (hg (Cond.fieldLink RX11 311 "SlabWalk$Earnest" "undone" "I") m500) (fun _ h9 => h9) rfl rfl dX11_about_150 ?_
    exact W.iret (v := (G.1 30 5)) hx hb hr (fun t ht _ => ⟨⟨(G.1 30 5), G, rfl, (P_Wabout_2_mk ⟨hB_G, hF, (Or.inr ⟨(xI_ne (Y := 0) rfl rfl c_1), (Or.inr ⟨(xI_ne (Y := 1) rfl rfl c_3), (Or.inr ⟨(xI_ne (Y := 2) rfl rfl c_5), (Or.inr ⟨(xI_ne (Y := 3) rfl rfl c_7), (Or.inr ⟨(xI_ne (Y := 4) rfl rfl c_13), (Or.inr ⟨(xI_ne (Y := 5) rfl rfl c_15), (Or.inr ⟨(xI_ne (Y := 6) rfl rfl c_17), (Or.inr ⟨(xI_ne (Y := 7) rfl rfl c_19), (Or.inl ⟨c_21, ⟨rfl, rfl⟩⟩)⟩)⟩)⟩)⟩)⟩)⟩)⟩)⟩)⟩), wd_t ht hW⟩, hS.F ht⟩) hS.2.2 dX11_about_153
  by_cases c_23 : p0 = 9
  · refine lv_tableIn (tgt := 154) hx hb dX11_about_1 (by rw [c_23]; decide) (by rw [c_23]; decide) (off := 153) (by rw [c_23]; decide) (by decide) ?_
    have c_23 : p0.toInt = 9 := xI_eq rfl rfl c_23
    refine lv_aload_n hx hb dX11_about_154 rfl (lv_at hl 0 rfl) ?_
    refine S_getR (n := 31) (C := RX11) (T := TX11) (N := 13) hx hb hg iX11 hown hK hW kd_0 rfl 9 (lt_b rfl) (hg (Cond.fieldLink RX11 72 "SlabWalk" "sights" "LSlabWalk$Sights;") m579) (fun _ h9 => h9) rfl dX11_about_155 ?_
    have b_24 : 0 ≤ (G.1 31 5).toInt ∧ (G.1 31 5).toInt ≤ 20 := bd_31_5 hB_G
    refine S_getI (v := (G.1 31 5)) (C := RX8) (T := TX8) (N := 7) hx hb hg iX8 hown hK hW kd_31 rfl 5 (lt_b rfl) (hg (Cond.fieldLink RX11 285 "SlabWalk$Sights" "count" "I") m529) (fun _ h9 => h9) rfl rfl dX11_about_158 ?_
    exact W.iret (v := (G.1 31 5)) hx hb hr (fun t ht _ => ⟨⟨(G.1 31 5), G, rfl, (P_Wabout_2_mk ⟨hB_G, hF, (Or.inr ⟨(xI_ne (Y := 0) rfl rfl c_1), (Or.inr ⟨(xI_ne (Y := 1) rfl rfl c_3), (Or.inr ⟨(xI_ne (Y := 2) rfl rfl c_5), (Or.inr ⟨(xI_ne (Y := 3) rfl rfl c_7), (Or.inr ⟨(xI_ne (Y := 4) rfl rfl c_13), (Or.inr ⟨(xI_ne (Y := 5) rfl rfl c_15), (Or.inr ⟨(xI_ne (Y := 6) rfl rfl c_17), (Or.inr ⟨(xI_ne (Y := 7) rfl rfl c_19), (Or.inr ⟨(xI_ne (Y := 8) rfl rfl c_21), (Or.inl ⟨c_23, ⟨rfl, rfl⟩⟩)⟩)⟩)⟩)⟩)⟩)⟩)⟩)⟩)⟩)⟩), wd_t ht hW⟩, hS.F ht⟩) hS.2.2 dX11_about_161
  by_cases c_25 : p0 = 10
  · refine lv_tableIn (tgt := 162) hx hb dX11_about_1 (by rw [c_25]; decide) (by rw [c_25]; decide) (off := 161) (by rw [c_25]; decide) (by decide) ?_
    have c_25 : p0.toInt = 10 := xI_eq rfl rfl c_25
    refine lv_aload_n hx hb dX11_about_162 rfl (lv_at hl 0 rfl) ?_
    refine S_getR (n := 31) (C := RX11) (T := TX11) (N := 13) hx hb hg iX11 hown hK hW kd_0 rfl 9 (lt_b rfl) (hg (Cond.fieldLink RX11 72 "SlabWalk" "sights" "LSlabWalk$Sights;") m579) (fun _ h9 => h9) rfl dX11_about_163 ?_
    have b_26 : 0 ≤ (G.1 31 6).toInt ∧ (G.1 31 6).toInt ≤ 100000 := bd_31_6 hB_G
    refine S_getI (v := (G.1 31 6)) (C := RX8) (T := TX8) (N := 7) hx hb hg iX8 hown hK hW kd_31 rfl 6 (lt_b rfl) (hg (Cond.fieldLink RX11 278 "SlabWalk$Sights" "time" "I") m531) (fun _ h9 => h9) rfl rfl dX11_about_166 ?_
    exact W.iret (v := (G.1 31 6)) hx hb hr (fun t ht _ => ⟨⟨(G.1 31 6), G, rfl, (P_Wabout_2_mk ⟨hB_G, hF, (Or.inr ⟨(xI_ne (Y := 0) rfl rfl c_1), (Or.inr ⟨(xI_ne (Y := 1) rfl rfl c_3), (Or.inr ⟨(xI_ne (Y := 2) rfl rfl c_5), (Or.inr ⟨(xI_ne (Y := 3) rfl rfl c_7), (Or.inr ⟨(xI_ne (Y := 4) rfl rfl c_13), (Or.inr ⟨(xI_ne (Y := 5) rfl rfl c_15), (Or.inr ⟨(xI_ne (Y := 6) rfl rfl c_17), (Or.inr ⟨(xI_ne (Y := 7) rfl rfl c_19), (Or.inr ⟨(xI_ne (Y := 8) rfl rfl c_21), (Or.inr ⟨(xI_ne (Y := 9) rfl rfl c_23), (Or.inl ⟨c_25, ⟨rfl, rfl⟩⟩)⟩)⟩)⟩)⟩)⟩)⟩)⟩)⟩)⟩)⟩)⟩), wd_t ht hW⟩, hS.F ht⟩) hS.2.2 dX11_about_169
  by_cases c_27 : p0 = 11
  · refine lv_tableIn (tgt := 170) hx hb dX11_about_1 (by rw [c_27]; decide) (by rw [c_27]; decide) (off := 169) (by rw [c_27]; decide) (by decide) ?_
    have c_27 : p0.toInt = 11 := xI_eq rfl rfl c_27
    refine lv_aload_n hx hb dX11_about_170 rfl (lv_at hl 0 rfl) ?_
    have b_28 : 0 ≤ (G.1 0 11).toInt ∧ (G.1 0 11).toInt ≤ 1600 := bd_0_11 hB_G
    refine S_getI (v := (G.1 0 11)) (C := RX11) (T := TX11) (N := 13) hx hb hg iX11 hown hK hW kd_0 rfl 11 (lt_b rfl) (hg (Cond.fieldLink RX11 83 "SlabWalk" "taped" "I") m581) (fun _ h9 => h9) rfl rfl dX11_about_171 ?_
    exact W.iret (v := (G.1 0 11)) hx hb hr (fun t ht _ => ⟨⟨(G.1 0 11), G, rfl, (P_Wabout_2_mk ⟨hB_G, hF, (Or.inr ⟨(xI_ne (Y := 0) rfl rfl c_1), (Or.inr ⟨(xI_ne (Y := 1) rfl rfl c_3), (Or.inr ⟨(xI_ne (Y := 2) rfl rfl c_5), (Or.inr ⟨(xI_ne (Y := 3) rfl rfl c_7), (Or.inr ⟨(xI_ne (Y := 4) rfl rfl c_13), (Or.inr ⟨(xI_ne (Y := 5) rfl rfl c_15), (Or.inr ⟨(xI_ne (Y := 6) rfl rfl c_17), (Or.inr ⟨(xI_ne (Y := 7) rfl rfl c_19), (Or.inr ⟨(xI_ne (Y := 8) rfl rfl c_21), (Or.inr ⟨(xI_ne (Y := 9) rfl rfl c_23), (Or.inr ⟨(xI_ne (Y := 10) rfl rfl c_25), (Or.inl ⟨c_27, ⟨rfl, rfl⟩⟩)⟩)⟩)⟩)⟩)⟩)⟩)⟩)⟩)⟩)⟩)⟩)⟩), wd_t ht hW⟩, hS.F ht⟩) hS.2.2 dX11_about_174
  by_cases c_29 : p0 = 12
  · refine lv_tableIn (tgt := 175) hx hb dX11_about_1 (by rw [c_29]; decide) (by rw [c_29]; decide) (off := 174) (by rw [c_29]; decide) (by decide) ?_
    have c_29 : p0.toInt = 12 := xI_eq rfl rfl c_29
    refine lv_aload_n hx hb dX11_about_175 rfl (lv_at hl 0 rfl) ?_
    refine S_getV (n := 2) (C := RX11) (T := TX11) (N := 13) hx hb hg iX11 hown hK hW kd_0 rfl 0 (lt_b rfl) (hg (Cond.fieldLink RX11 10 "SlabWalk" "paving" "LSlabWalk$Paving;") m570) (fun _ h9 => h9) rfl hv_0_0 dX11_about_176 ?_
    have b_30 : 0 ≤ (G.1 2 12).toInt ∧ (G.1 2 12).toInt ≤ 90 := bd_2_12 hB_G
    refine S_getI (v := (G.1 2 12)) (C := RX6) (T := TX6) (N := 17) hx hb hg iX6 hown hK hW kd_2 rfl 12 (lt_b rfl) (hg (Cond.fieldLink RX11 314 "SlabWalk$Paving" "units" "I") m198) (fun _ h9 => h9) rfl rfl dX11_about_179 ?_
    exact W.iret (v := (G.1 2 12)) hx hb hr (fun t ht _ => ⟨⟨(G.1 2 12), G, rfl, (P_Wabout_2_mk ⟨hB_G, hF, (Or.inr ⟨(xI_ne (Y := 0) rfl rfl c_1), (Or.inr ⟨(xI_ne (Y := 1) rfl rfl c_3), (Or.inr ⟨(xI_ne (Y := 2) rfl rfl c_5), (Or.inr ⟨(xI_ne (Y := 3) rfl rfl c_7), (Or.inr ⟨(xI_ne (Y := 4) rfl rfl c_13), (Or.inr ⟨(xI_ne (Y := 5) rfl rfl c_15), (Or.inr ⟨(xI_ne (Y := 6) rfl rfl c_17), (Or.inr ⟨(xI_ne (Y := 7) rfl rfl c_19), (Or.inr ⟨(xI_ne (Y := 8) rfl rfl c_21), (Or.inr ⟨(xI_ne (Y := 9) rfl rfl c_23), (Or.inr ⟨(xI_ne (Y := 10) rfl rfl c_25), (Or.inr ⟨(xI_ne (Y := 11) rfl rfl c_27), (Or.inl ⟨c_29, ⟨rfl, rfl⟩⟩)⟩)⟩)⟩)⟩)⟩)⟩)⟩)⟩)⟩)⟩)⟩)⟩)⟩), wd_t ht hW⟩, hS.F ht⟩) hS.2.2 dX11_about_182
  by_cases c_31 : p0 = 13
  · refine lv_tableIn (tgt := 183) hx hb dX11_about_1 (by rw [c_31]; decide) (by rw [c_31]; decide) (off := 182) (by rw [c_31]; decide) (by decide) ?_
    have c_31 : p0.toInt = 13 := xI_eq rfl rfl c_31
    refine lv_aload_n hx hb dX11_about_183 rfl (lv_at hl 0 rfl) ?_
    have b_32 : 0 ≤ (G.1 0 12).toInt ∧ (G.1 0 12).toInt ≤ 400 := bd_0_12 hB_G
    refine S_getI (v := (G.1 0 12)) (C := RX11) (T := TX11) (N := 13) hx hb hg iX11 hown hK hW kd_0 rfl 12 (lt_b rfl) (hg (Cond.fieldLink RX11 150 "SlabWalk" "lie" "I") m582) (fun _ h9 => h9) rfl rfl dX11_about_184 ?_
    exact W.iret (v := (G.1 0 12)) hx hb hr (fun t ht _ => ⟨⟨(G.1 0 12), G, rfl, (P_Wabout_2_mk ⟨hB_G, hF, (Or.inr ⟨(xI_ne (Y := 0) rfl rfl c_1), (Or.inr ⟨(xI_ne (Y := 1) rfl rfl c_3), (Or.inr ⟨(xI_ne (Y := 2) rfl rfl c_5), (Or.inr ⟨(xI_ne (Y := 3) rfl rfl c_7), (Or.inr ⟨(xI_ne (Y := 4) rfl rfl c_13), (Or.inr ⟨(xI_ne (Y := 5) rfl rfl c_15), (Or.inr ⟨(xI_ne (Y := 6) rfl rfl c_17), (Or.inr ⟨(xI_ne (Y := 7) rfl rfl c_19), (Or.inr ⟨(xI_ne (Y := 8) rfl rfl c_21), (Or.inr ⟨(xI_ne (Y := 9) rfl rfl c_23), (Or.inr ⟨(xI_ne (Y := 10) rfl rfl c_25), (Or.inr ⟨(xI_ne (Y := 11) rfl rfl c_27), (Or.inr ⟨(xI_ne (Y := 12) rfl rfl c_29), (Or.inl ⟨c_31, ⟨rfl, rfl⟩⟩)⟩)⟩)⟩)⟩)⟩)⟩)⟩)⟩)⟩)⟩)⟩)⟩)⟩)⟩), wd_t ht hW⟩, hS.F ht⟩) hS.2.2 dX11_about_187
  by_cases c_33 : p0 = 14
  · refine lv_tableIn (tgt := 188) hx hb dX11_about_1 (by rw [c_33]; decide) (by rw [c_33]; decide) (off := 187) (by rw [c_33]; decide) (by decide) ?_
    have c_33 : p0.toInt = 14 := xI_eq rfl rfl c_33
    refine lv_aload_n hx hb dX11_about_188 rfl (lv_at hl 0 rfl) ?_
    refine S_getV (n := 2) (C := RX11) (T := TX11) (N := 13) hx hb hg iX11 hown hK hW kd_0 rfl 0 (lt_b rfl) (hg (Cond.fieldLink RX11 10 "SlabWalk" "paving" "LSlabWalk$Paving;") m570) (fun _ h9 => h9) rfl hv_0_0 dX11_about_189 ?_
    refine S_calli (va_runV (As := []) (rest := []) ⟨hx, hb, hml, hown, hts⟩ (k_allSlips_2 l D k A a z G  ) (cwV 0 hts (gd_V hgd m1307 m1199 m1200 m118 m1201) rfl rfl rfl hd_X6_allSlips ⟨Nat.le_of_ble_eq_true rfl, Nat.le_of_ble_eq_true rfl⟩) (pre_W hW hB_G hK hZ hS kd_2 rfl) rfl rfl hl.1 rfl (lv_room (Nat.le_of_ble_eq_true rfl)) dX11_about_192 ⟨Nat.le_of_ble_eq_true rfl, Nat.le_of_ble_eq_true rfl⟩) hS (fun r_34 G_35 H locs hpo hW hS => ?_)
    have hX_38 : P_allSlips_2 G r_34 G_35 := hpo
    obtain ⟨hB_G_35, hq_36, f_39, -⟩ := hpo
    have hF := hF.call9 hq_36 rfl rfl
    exact W.iret (v := r_34) hx hb hr (fun t ht _ => ⟨⟨r_34, G_35, rfl, (P_Wabout_2_mk ⟨hB_G_35, hF, (Or.inr ⟨(xI_ne (Y := 0) rfl rfl c_1), (Or.inr ⟨(xI_ne (Y := 1) rfl rfl c_3), (Or.inr ⟨(xI_ne (Y := 2) rfl rfl c_5), (Or.inr ⟨(xI_ne (Y := 3) rfl rfl c_7), (Or.inr ⟨(xI_ne (Y := 4) rfl rfl c_13), (Or.inr ⟨(xI_ne (Y := 5) rfl rfl c_15), (Or.inr ⟨(xI_ne (Y := 6) rfl rfl c_17), (Or.inr ⟨(xI_ne (Y := 7) rfl rfl c_19), (Or.inr ⟨(xI_ne (Y := 8) rfl rfl c_21), (Or.inr ⟨(xI_ne (Y := 9) rfl rfl c_23), (Or.inr ⟨(xI_ne (Y := 10) rfl rfl c_25), (Or.inr ⟨(xI_ne (Y := 11) rfl rfl c_27), (Or.inr ⟨(xI_ne (Y := 12) rfl rfl c_29), (Or.inr ⟨(xI_ne (Y := 13) rfl rfl c_31), (Or.inl ⟨c_33, ⟨r_34, G_35, hX_38, ⟨rfl, rfl⟩⟩⟩)⟩)⟩)⟩)⟩)⟩)⟩)⟩)⟩)⟩)⟩)⟩)⟩)⟩)⟩)⟩), wd_t ht hW⟩, hS.F ht⟩) hS.2.2 dX11_about_195
  refine lv_tableOut (tgt := 196) hx hb dX11_about_1 (tb_out (lo := 0) (hi := 14) (by have c_1 := xI_ne (Y := 0) rfl rfl c_1; have c_3 := xI_ne (Y := 1) rfl rfl c_3; have c_5 := xI_ne (Y := 2) rfl rfl c_5; have c_7 := xI_ne (Y := 3) rfl rfl c_7; have c_13 := xI_ne (Y := 4) rfl rfl c_13; have c_15 := xI_ne (Y := 5) rfl rfl c_15; have c_17 := xI_ne (Y := 6) rfl rfl c_17; have c_19 := xI_ne (Y := 7) rfl rfl c_19; have c_21 := xI_ne (Y := 8) rfl rfl c_21; have c_23 := xI_ne (Y := 9) rfl rfl c_23; have c_25 := xI_ne (Y := 10) rfl rfl c_25; have c_27 := xI_ne (Y := 11) rfl rfl c_27; have c_29 := xI_ne (Y := 12) rfl rfl c_29; have c_31 := xI_ne (Y := 13) rfl rfl c_31; have c_33 := xI_ne (Y := 14) rfl rfl c_33; omega)) (by decide) ?_
  have c_1 := xI_ne (Y := 0) rfl rfl c_1
  have c_3 := xI_ne (Y := 1) rfl rfl c_3
  have c_5 := xI_ne (Y := 2) rfl rfl c_5
  have c_7 := xI_ne (Y := 3) rfl rfl c_7
  have c_13 := xI_ne (Y := 4) rfl rfl c_13
  have c_15 := xI_ne (Y := 5) rfl rfl c_15
  have c_17 := xI_ne (Y := 6) rfl rfl c_17
  have c_19 := xI_ne (Y := 7) rfl rfl c_19
  have c_21 := xI_ne (Y := 8) rfl rfl c_21
  have c_23 := xI_ne (Y := 9) rfl rfl c_23
  have c_25 := xI_ne (Y := 10) rfl rfl c_25
  have c_27 := xI_ne (Y := 11) rfl rfl c_27
  have c_29 := xI_ne (Y := 12) rfl rfl c_29
  have c_31 := xI_ne (Y := 13) rfl rfl c_31
  have c_33 := xI_ne (Y := 14) rfl rfl c_33
  refine ic_m1 hx hb dX11_about_196 ?_
  exact W.iret (v := (-1)) hx hb hr (fun t ht _ => ⟨⟨(-1), G, rfl, (P_Wabout_2_mk ⟨hB_G, hF, (Or.inr ⟨c_1, (Or.inr ⟨c_3, (Or.inr ⟨c_5, (Or.inr ⟨c_7, (Or.inr ⟨c_13, (Or.inr ⟨c_15, (Or.inr ⟨c_17, (Or.inr ⟨c_19, (Or.inr ⟨c_21, (Or.inr ⟨c_23, (Or.inr ⟨c_25, (Or.inr ⟨c_27, (Or.inr ⟨c_29, (Or.inr ⟨c_31, (Or.inr ⟨c_33, ⟨rfl, rfl⟩⟩)⟩)⟩)⟩)⟩)⟩)⟩)⟩)⟩)⟩)⟩)⟩)⟩)⟩)⟩)⟩), wd_t ht hW⟩, hS.F ht⟩) hS.2.2 dX11_about_197

set_option maxHeartbeats 4000000 in
set_option maxRecDepth 100000 in
theorem k_Wforce_2 (l : Launch) (D : va_G) (k : KT) (A : Nat → Prop) (a : Nat → Nat) (z : SK) (G : GS) (p0 : Int32) (hv_0_0 : G.2.2 0 0 = 2) (hv_0_1 : G.2.2 0 1 = 1) (hv_6_4 : G.2.2 6 4 = 2) (he : (G.1 30 4).toInt + (G.1 30 5).toInt ≤ 40) : Met l yX11_force (WS yX11_force cX11_force 2 (some .int)) ({ frames := 2, cells := 0, slots := 0, locals := 60 }) (va_Pc [.ref (a 0), .int p0] (cW D k A a z G)) (va_Qi (fun (r : Int32) (G1 : GS) => P_Wforce_2 p0 G r G1) (fun (G1 : GS) t => Wd D k A a G1 t.heap) A) 0 0 A := by
  refine Met.ofW (cc := cX11_force) (maxL := 2) (ret := (some .int)) (by decide) rfl ?_
  intro p e s m args below meth c s₁ B hml hv
  obtain ⟨rfl, hW, hB_G, hK, hZ⟩ := hv
  have hx := B.exec
  have hb := B.bytes
  have hr := B.returns
  have hts := atoms_spec (ws := WS yX11_force cX11_force 2 (some .int)) B.pre
  have hgd : ∀ w ∈ gd, w ∈ WS yX11_force cX11_force 2 (some .int) := fun w h => List.mem_cons_of_mem _ h
  have hg : ∀ w ∈ gd, w.before _ s = true := fun w h => hts w (hgd w h)
  have hown : s.vm.findClass RX11 = some m.cls := findClass_of_methodNamed B.named
  have hS : va_S A s.heap s.heap [] := va_S.rf
  have hF : Fr [58, 59] [(30, 4), (30, 5)] G G := Fr.rf
  have hl := lv_entry ([.ref (a 0), .int p0]) (n := 2) (Nat.le_of_ble_eq_true rfl)
  rw [lg_entry_eq]
  generalize (lg_sl ([.ref (a 0), .int p0]) ++ List.replicate (2 - (lg_sl ([.ref (a 0), .int p0])).length) Slot.unset).toArray = ls at hl ⊢
  have hl : lv_has ls 2 [(0, .ref (a 0)), (1, .int p0)] := hl
  refine lv_aload_n hx hb dX11_force_0 rfl (lv_at hl 0 rfl) ?_
  refine S_getV (n := 2) (C := RX11) (T := TX11) (N := 13) hx hb hg iX11 hown hK hW kd_0 rfl 0 (lt_b rfl) (hg (Cond.fieldLink RX11 10 "SlabWalk" "paving" "LSlabWalk$Paving;") m570) (fun _ h9 => h9) rfl hv_0_0 dX11_force_1 ?_
  refine lv_iload_n hx hb dX11_force_4 rfl (lv_at hl 1 rfl) ?_
  refine S_calli (va_runV (As := [.int p0]) (rest := []) ⟨hx, hb, hml, hown, hts⟩ (k_hasRule_2 l D k A a z G p0 ) (cwV 1 hts (gd_V hgd m1206 m1207 m1208 m118 m1209) rfl rfl rfl hd_X6_hasRule ⟨Nat.le_of_ble_eq_true rfl, Nat.le_of_ble_eq_true rfl⟩) (pre_W hW hB_G hK hZ hS kd_2 rfl) rfl rfl hl.1 rfl (lv_room (Nat.le_of_ble_eq_true rfl)) dX11_force_5 ⟨Nat.le_of_ble_eq_true rfl, Nat.le_of_ble_eq_true rfl⟩) hS (fun r_1 G_2 H locs hpo hW hS => ?_)
  have hX_5 : P_hasRule_2 p0 G r_1 G_2 := hpo
  obtain ⟨hB_G_2, hq_3, f_6, hp_4, -⟩ := hpo
  have hF := hF.call9 hq_3 rfl rfl
  refine lv_if_ne (tgt := 13) hx hb dX11_force_8 rfl (fun c_7 => ?_) (fun c_7 => ?_)
  · have c_7 : r_1.toInt ≠ 0 := xI_ne rfl rfl c_7
    refine lv_aload_n hx hb dX11_force_13 rfl (lv_at hl 0 rfl) ?_
    refine S_getR (n := 30) (C := RX11) (T := TX11) (N := 13) hx hb hg iX11 hown hK hW kd_0 rfl 8 (lt_b rfl) (hg (Cond.fieldLink RX11 65 "SlabWalk" "earnest" "LSlabWalk$Earnest;") m578) (fun _ h9 => h9) rfl dX11_force_14 ?_
    refine S_getR (n := 58) (C := RX1) (T := TX1) (N := 6) hx hb hg iX1 hown hK hW kd_30 rfl 0 (lt_b rfl) (hg (Cond.fieldLink RX11 246 "SlabWalk$Earnest" "now" "[I") m493) (fun _ h9 => h9) rfl dX11_force_17 ?_
    refine lv_bipush (v := 8) hx hb dX11_force_20 (by decide) ?_
    refine lv_dup2_11 hx hb dX11_force_22 rfl rfl ?_
    refine S_iald hx hb hK hW kd_58 (vin (by decide) (by decide)) dX11_force_23 (fun y_8 ey_8 => ?_)
    refine ic_1 hx hb dX11_force_24 ?_
    refine lv_iload_n hx hb dX11_force_25 rfl (lv_at hl 1 rfl) ?_
    refine lv_ishl hx hb dX11_force_26 ?_
    refine lv_topi (fun y_9 ey_9 => ?_)
    have ty_9 := sh5 (Y := p0.toInt) rfl ey_9 rfl (by omega) (by omega)
    refine lv_ixor hx hb dX11_force_27 ?_
    refine lv_topi (fun y_10 ey_10 => ?_)
    refine S_iast hx hb hK hW hS kd_58 (vin (by decide) (by decide)) dX11_force_28 (fun G_11 H locs eG_11 hW hS => ?_)
    have hB_G_11 : Bd G_11 := hB_G_2.put (lo := (-2147483648)) (hi := 2147483647) eG_11 rfl rfl rfl (tI_rng _).1 (tI_rng _).2 (hB_G_2.2.put eG_11 rfl)
    have hF := hF.put eG_11 (Or.inl (by decide))
    refine lv_aload_n hx hb dX11_force_29 rfl (lv_at hl 0 rfl) ?_
    refine S_getR (n := 30) (C := RX11) (T := TX11) (N := 13) hx hb hg iX11 hown hK hW kd_0 rfl 8 (lt_b rfl) (hg (Cond.fieldLink RX11 65 "SlabWalk" "earnest" "LSlabWalk$Earnest;") m578) (fun _ h9 => h9) rfl dX11_force_30 ?_
    refine S_callv (va_runV (As := []) (rest := []) ⟨hx, hb, hml, hown, hts⟩ (k_eKeep l D k A a z G_11  ) (cwV 0 hts (gd_V hgd m1178 m1179 m1180 m127 m1181) rfl rfl rfl hd_X1_keepAct ⟨Nat.le_of_ble_eq_true rfl, Nat.le_of_ble_eq_true rfl⟩) (pre_W hW hB_G_11 hK hZ hS kd_30 rfl) rfl rfl hl.1 rfl (lv_room (Nat.le_of_ble_eq_true rfl)) dX11_force_33 ⟨Nat.le_of_ble_eq_true rfl, Nat.le_of_ble_eq_true rfl⟩) hS (fun G_13 H locs hpo hW hS => ?_)
    have hX_16 : P_eKeep G_11 G_13 := hpo
    obtain ⟨hB_G_13, hq_14, hp_15, -⟩ := hpo
    have hF := hF.call9 hq_14 rfl rfl
    refine lv_aload_n hx hb dX11_force_36 rfl (lv_at hl 0 rfl) ?_
    refine S_getR (n := 30) (C := RX11) (T := TX11) (N := 13) hx hb hg iX11 hown hK hW kd_0 rfl 8 (lt_b rfl) (hg (Cond.fieldLink RX11 65 "SlabWalk" "earnest" "LSlabWalk$Earnest;") m578) (fun _ h9 => h9) rfl dX11_force_37 ?_
    refine S_getR (n := 58) (C := RX1) (T := TX1) (N := 6) hx hb hg iX1 hown hK hW kd_30 rfl 0 (lt_b rfl) (hg (Cond.fieldLink RX11 246 "SlabWalk$Earnest" "now" "[I") m493) (fun _ h9 => h9) rfl dX11_force_40 ?_
    refine lv_bipush (v := 8) hx hb dX11_force_43 (by decide) ?_
    refine S_iald hx hb hK hW kd_58 (vin (by decide) (by decide)) dX11_force_45 (fun y_17 ey_17 => ?_)
    refine lv_iload_n hx hb dX11_force_46 rfl (lv_at hl 1 rfl) ?_
    refine lv_ishr hx hb dX11_force_47 ?_
    refine lv_topi (fun y_18 ey_18 => ?_)
    refine ic_1 hx hb dX11_force_48 ?_
    refine lv_iand hx hb dX11_force_49 ?_
    refine lv_topi (fun y_19 ey_19 => ?_)
    have ty_19 := xI_and (Y := 1) rfl ey_19 (by decide)
    have b_20 : 0 ≤ (G_13.1 30 4).toInt ∧ (G_13.1 30 4).toInt ≤ 40 := bd_30_4 hB_G_13
    have b_21 : 0 ≤ (G_13.1 30 5).toInt ∧ (G_13.1 30 5).toInt ≤ 40 := bd_30_5 hB_G_13
    exact W.iret (v := y_19) hx hb hr (fun t ht _ => ⟨⟨y_19, G_13, rfl, (P_Wforce_2_mk ⟨hB_G_13, hF, ((by first | exact hp_15 | omega)), ⟨r_1, G_2, hX_5, (Or.inr ⟨c_7, ⟨y_8, ey_8, ⟨y_9, ey_9, ⟨y_10, ey_10, ⟨G_11, hB_G_11, (Fr.put (rs := [58]) (fs := []) Fr.rf eG_11 (Or.inl (by decide))), rw_ast eG_11, ⟨G_13, hX_16, ⟨y_17, ey_17, ⟨y_18, ey_18, ⟨y_19, ey_19, ⟨rfl, rfl⟩⟩⟩⟩⟩⟩⟩⟩⟩⟩)⟩⟩), wd_t ht hW⟩, hS.F ht⟩) hS.2.2 dX11_force_50
  · have c_7 : r_1.toInt = 0 := xI_eq rfl rfl c_7
    refine ic_m1 hx hb dX11_force_11 ?_
    have b_22 : 0 ≤ (G.1 30 4).toInt ∧ (G.1 30 4).toInt ≤ 40 := bd_30_4 hB_G
    have g_23 : (G_2.1 30 4).toInt = (G.1 30 4).toInt := (congrArg Int32.toInt (show G_2.1 30 4 = (G.1 30 4) from (hq_3.i9 30 4 rfl rfl)))
    have b_24 : 0 ≤ (G.1 30 5).toInt ∧ (G.1 30 5).toInt ≤ 40 := bd_30_5 hB_G
    have g_25 : (G_2.1 30 5).toInt = (G.1 30 5).toInt := (congrArg Int32.toInt (show G_2.1 30 5 = (G.1 30 5) from (hq_3.i9 30 5 rfl rfl)))
    exact W.iret (v := (-1)) hx hb hr (fun t ht _ => ⟨⟨(-1), G_2, rfl, (P_Wforce_2_mk ⟨hB_G_2, hF, (by have hq : ((-1) : Int32).toInt = (-1) := rfl; (try dsimp only); omega), ⟨r_1, G_2, hX_5, (Or.inl ⟨c_7, ⟨rfl, rfl⟩⟩)⟩⟩), wd_t ht hW⟩, hS.F ht⟩) hS.2.2 dX11_force_12

set_option maxHeartbeats 4000000 in
set_option maxRecDepth 100000 in
theorem k_Wsight_2 (l : Launch) (D : va_G) (k : KT) (A : Nat → Prop) (a : Nat → Nat) (z : SK) (G : GS) (p0 : Int32) (p1 : Int32) (p2 : Int32) (hv_0_0 : G.2.2 0 0 = 2) (hv_0_1 : G.2.2 0 1 = 1) (hv_6_4 : G.2.2 6 4 = 2) : Met l yX11_sight (WS yX11_sight cX11_sight 4 (some .int)) ({ frames := 2, cells := 0, slots := 0, locals := 44 }) (va_Pc [.ref (a 0), .int p0, .int p1, .int p2] (cW D k A a z G)) (va_Qi (fun (r : Int32) (G1 : GS) => P_Wsight_2 p0 p1 p2 G r G1) (fun (G1 : GS) t => Wd D k A a G1 t.heap) A) 0 0 A := by
  refine Met.ofW (cc := cX11_sight) (maxL := 4) (ret := (some .int)) (by decide) rfl ?_
  intro p e s m args below meth c s₁ B hml hv
  obtain ⟨rfl, hW, hB_G, hK, hZ⟩ := hv
  have hx := B.exec
  have hb := B.bytes
  have hr := B.returns
  have hts := atoms_spec (ws := WS yX11_sight cX11_sight 4 (some .int)) B.pre
  have hgd : ∀ w ∈ gd, w ∈ WS yX11_sight cX11_sight 4 (some .int) := fun w h => List.mem_cons_of_mem _ h
  have hg : ∀ w ∈ gd, w.before _ s = true := fun w h => hts w (hgd w h)
  have hown : s.vm.findClass RX11 = some m.cls := findClass_of_methodNamed B.named
  have hS : va_S A s.heap s.heap [] := va_S.rf
  have hF : Fr [61, 62, 63, 64, 65] [(31, 5)] G G := Fr.rf
  have hl := lv_entry ([.ref (a 0), .int p0, .int p1, .int p2]) (n := 4) (Nat.le_of_ble_eq_true rfl)
  rw [lg_entry_eq]
  generalize (lg_sl ([.ref (a 0), .int p0, .int p1, .int p2]) ++ List.replicate (4 - (lg_sl ([.ref (a 0), .int p0, .int p1, .int p2])).length) Slot.unset).toArray = ls at hl ⊢
  have hl : lv_has ls 4 [(0, .ref (a 0)), (1, .int p0), (2, .int p1), (3, .int p2)] := hl
  refine lv_aload_n hx hb dX11_sight_0 rfl (lv_at hl 0 rfl) ?_
  refine S_getV (n := 2) (C := RX11) (T := TX11) (N := 13) hx hb hg iX11 hown hK hW kd_0 rfl 0 (lt_b rfl) (hg (Cond.fieldLink RX11 10 "SlabWalk" "paving" "LSlabWalk$Paving;") m570) (fun _ h9 => h9) rfl hv_0_0 dX11_sight_1 ?_
  refine lv_iload_n hx hb dX11_sight_4 rfl (lv_at hl 1 rfl) ?_
  refine lv_iload_n hx hb dX11_sight_5 rfl (lv_at hl 2 rfl) ?_
  refine lv_iload_n hx hb dX11_sight_6 rfl (lv_at hl 3 rfl) ?_
  refine S_calli (va_runV (As := [.int p0, .int p1, .int p2]) (rest := []) ⟨hx, hb, hml, hown, hts⟩ (k_stands_2 l D k A a z G p0 p1 p2 ) (cwV 3 hts (gd_V hgd m1121 m966 m967 m118 m968) rfl rfl rfl hd_X6_stands ⟨Nat.le_of_ble_eq_true rfl, Nat.le_of_ble_eq_true rfl⟩) (pre_W hW hB_G hK hZ hS kd_2 rfl) rfl rfl hl.1 rfl (lv_room (Nat.le_of_ble_eq_true rfl)) dX11_sight_7 ⟨Nat.le_of_ble_eq_true rfl, Nat.le_of_ble_eq_true rfl⟩) hS (fun r_1 G_2 H locs hpo hW hS => ?_)
  have hX_5 : P_stands_2 p0 p1 p2 G r_1 G_2 := hpo
  obtain ⟨hB_G_2, hq_3, f_6, hp_4, -⟩ := hpo
  have hF := hF.call9 hq_3 rfl rfl
  refine lv_if_eq (tgt := 26) hx hb dX11_sight_10 rfl (fun c_7 => ?_) (fun c_7 => ?_)
  · have c_7 : r_1.toInt = 0 := xI_eq rfl rfl c_7
    refine ic_m1 hx hb dX11_sight_26 ?_
    exact W.iret (v := (-1)) hx hb hr (fun t ht _ => ⟨⟨(-1), G_2, rfl, (P_Wsight_2_mk ⟨hB_G_2, hF, ⟨r_1, G_2, hX_5, (Or.inl ⟨c_7, ⟨rfl, rfl⟩⟩)⟩⟩), wd_t ht hW⟩, hS.F ht⟩) hS.2.2 dX11_sight_27
  · have c_7 : r_1.toInt ≠ 0 := xI_ne rfl rfl c_7
    refine lv_aload_n hx hb dX11_sight_13 rfl (lv_at hl 0 rfl) ?_
    refine S_getR (n := 31) (C := RX11) (T := TX11) (N := 13) hx hb hg iX11 hown hK hW kd_0 rfl 9 (lt_b rfl) (hg (Cond.fieldLink RX11 72 "SlabWalk" "sights" "LSlabWalk$Sights;") m579) (fun _ h9 => h9) rfl dX11_sight_14 ?_
    refine lv_iload_n hx hb dX11_sight_17 rfl (lv_at hl 1 rfl) ?_
    refine lv_iload_n hx hb dX11_sight_18 rfl (lv_at hl 2 rfl) ?_
    refine lv_iload_n hx hb dX11_sight_19 rfl (lv_at hl 3 rfl) ?_
    refine S_calli (va_runV (As := [.int p0, .int p1, .int p2]) (rest := []) ⟨hx, hb, hml, hown, hts⟩ (k_sTell l D k A a z G_2 p0 p1 p2 ) (cwV 3 hts (gd_V hgd m1246 m1247 m1248 m128 m1249) rfl rfl rfl hd_X8_tell ⟨Nat.le_of_ble_eq_true rfl, Nat.le_of_ble_eq_true rfl⟩) (pre_W hW hB_G_2 hK hZ hS kd_31 rfl) rfl rfl hl.1 rfl (lv_room (Nat.le_of_ble_eq_true rfl)) dX11_sight_20 ⟨Nat.le_of_ble_eq_true rfl, Nat.le_of_ble_eq_true rfl⟩) hS (fun r_8 G_9 H locs hpo hW hS => ?_)
    have hX_12 : P_sTell p0 p1 p2 G_2 r_8 G_9 := hpo
    obtain ⟨hB_G_9, hq_10, -⟩ := hpo
    have hF := hF.call9 hq_10 rfl rfl
    refine lv_goto (tgt := 27) hx hb dX11_sight_23 rfl ?_
    exact W.iret (v := r_8) hx hb hr (fun t ht _ => ⟨⟨r_8, G_9, rfl, (P_Wsight_2_mk ⟨hB_G_9, hF, ⟨r_1, G_2, hX_5, (Or.inr ⟨c_7, ⟨r_8, G_9, hX_12, ⟨rfl, rfl⟩⟩⟩)⟩⟩), wd_t ht hW⟩, hS.F ht⟩) hS.2.2 dX11_sight_27

set_option maxHeartbeats 4000000 in
set_option maxRecDepth 100000 in
theorem k_Wwalk_2 (l : Launch) (D : va_G) (k : KT) (A : Nat → Prop) (a : Nat → Nat) (z : SK) (G : GS) (p0 : Int32) (p1 : Int32) (p2 : Int32) (hv_0_0 : G.2.2 0 0 = 2) (hv_0_1 : G.2.2 0 1 = 1) (hv_6_4 : G.2.2 6 4 = 2) (he : (G.1 30 4).toInt + (G.1 30 5).toInt ≤ 40) : Met l yX11_walk (WS yX11_walk cX11_walk 4 (some .int)) ({ frames := 5, cells := 0, slots := 0, locals := 118 }) (va_Pc [.ref (a 0), .int p0, .int p1, .int p2] (cW D k A a z G)) (va_Qi (fun (r : Int32) (G1 : GS) => P_Wwalk_2 p0 p1 p2 G r G1) (fun (G1 : GS) t => Wd D k A a G1 t.heap) A) 0 0 A := by
  refine Met.ofW (cc := cX11_walk) (maxL := 4) (ret := (some .int)) (by decide) rfl ?_
  intro p e s m args below meth c s₁ B hml hv
  obtain ⟨rfl, hW, hB_G, hK, hZ⟩ := hv
  have hx := B.exec
  have hb := B.bytes
  have hr := B.returns
  have hts := atoms_spec (ws := WS yX11_walk cX11_walk 4 (some .int)) B.pre
  have hgd : ∀ w ∈ gd, w ∈ WS yX11_walk cX11_walk 4 (some .int) := fun w h => List.mem_cons_of_mem _ h
  have hg : ∀ w ∈ gd, w.before _ s = true := fun w h => hts w (hgd w h)
  have hown : s.vm.findClass RX11 = some m.cls := findClass_of_methodNamed B.named
  have hS : va_S A s.heap s.heap [] := va_S.rf
  have hF : Fr [37, 38, 39, 58, 59] [(6, 3), (30, 4), (30, 5)] G G := Fr.rf
  have hl := lv_entry ([.ref (a 0), .int p0, .int p1, .int p2]) (n := 4) (Nat.le_of_ble_eq_true rfl)
  rw [lg_entry_eq]
  generalize (lg_sl ([.ref (a 0), .int p0, .int p1, .int p2]) ++ List.replicate (4 - (lg_sl ([.ref (a 0), .int p0, .int p1, .int p2])).length) Slot.unset).toArray = ls at hl ⊢
  have hl : lv_has ls 4 [(0, .ref (a 0)), (1, .int p0), (2, .int p1), (3, .int p2)] := hl
  refine lv_aload_n hx hb dX11_walk_0 rfl (lv_at hl 0 rfl) ?_
  refine S_getV (n := 2) (C := RX11) (T := TX11) (N := 13) hx hb hg iX11 hown hK hW kd_0 rfl 0 (lt_b rfl) (hg (Cond.fieldLink RX11 10 "SlabWalk" "paving" "LSlabWalk$Paving;") m570) (fun _ h9 => h9) rfl hv_0_0 dX11_walk_1 ?_
  refine lv_iload_n hx hb dX11_walk_4 rfl (lv_at hl 1 rfl) ?_
  refine lv_iload_n hx hb dX11_walk_5 rfl (lv_at hl 2 rfl) ?_
  refine lv_iload_n hx hb dX11_walk_6 rfl (lv_at hl 3 rfl) ?_
  refine S_calli (va_runV (As := [.int p0, .int p1, .int p2]) (rest := []) ⟨hx, hb, hml, hown, hts⟩ (k_stands_2 l D k A a z G p0 p1 p2 ) (cwV 3 hts (gd_V hgd m1121 m966 m967 m118 m968) rfl rfl rfl hd_X6_stands ⟨Nat.le_of_ble_eq_true rfl, Nat.le_of_ble_eq_true rfl⟩) (pre_W hW hB_G hK hZ hS kd_2 rfl) rfl rfl hl.1 rfl (lv_room (Nat.le_of_ble_eq_true rfl)) dX11_walk_7 ⟨Nat.le_of_ble_eq_true rfl, Nat.le_of_ble_eq_true rfl⟩) hS (fun r_1 G_2 H locs hpo hW hS => ?_)
  have hX_5 : P_stands_2 p0 p1 p2 G r_1 G_2 := hpo
  obtain ⟨hB_G_2, hq_3, f_6, hp_4, -⟩ := hpo
  have hF := hF.call9 hq_3 rfl rfl
  refine lv_if_eq (tgt := 26) hx hb dX11_walk_10 rfl (fun c_7 => ?_) (fun c_7 => ?_)
  · have c_7 : r_1.toInt = 0 := xI_eq rfl rfl c_7
    refine ic_m1 hx hb dX11_walk_26 ?_
    have b_8 : 0 ≤ (G.1 30 4).toInt ∧ (G.1 30 4).toInt ≤ 40 := bd_30_4 hB_G
    have g_9 : (G_2.1 30 4).toInt = (G.1 30 4).toInt := (congrArg Int32.toInt (show G_2.1 30 4 = (G.1 30 4) from (hq_3.i9 30 4 rfl rfl)))
    have b_10 : 0 ≤ (G.1 30 5).toInt ∧ (G.1 30 5).toInt ≤ 40 := bd_30_5 hB_G
    have g_11 : (G_2.1 30 5).toInt = (G.1 30 5).toInt := (congrArg Int32.toInt (show G_2.1 30 5 = (G.1 30 5) from (hq_3.i9 30 5 rfl rfl)))
    exact W.iret (v := (-1)) hx hb hr (fun t ht _ => ⟨⟨(-1), G_2, rfl, (P_Wwalk_2_mk ⟨hB_G_2, hF, (by have hq : ((-1) : Int32).toInt = (-1) := rfl; (try dsimp only); omega), ⟨r_1, G_2, hX_5, (Or.inl ⟨c_7, ⟨rfl, rfl⟩⟩)⟩⟩), wd_t ht hW⟩, hS.F ht⟩) hS.2.2 dX11_walk_27
  · have c_7 : r_1.toInt ≠ 0 := xI_ne rfl rfl c_7
    refine lv_iload_n hx hb dX11_walk_13 rfl (lv_at hl 3 rfl) ?_
    refine lv_aload_n hx hb dX11_walk_14 rfl (lv_at hl 0 rfl) ?_
    refine S_getV (n := 2) (C := RX11) (T := TX11) (N := 13) hx hb hg iX11 hown hK hW kd_0 rfl 0 (lt_b rfl) (hg (Cond.fieldLink RX11 10 "SlabWalk" "paving" "LSlabWalk$Paving;") m570) (fun _ h9 => h9) rfl (((hq_3.r9 0 0 rfl rfl)).trans (hv_0_0)) dX11_walk_15 ?_
    refine S_getR (n := 24) (C := RX6) (T := TX6) (N := 17) hx hb hg iX6 hown hK hW kd_2 rfl 4 (lt_b rfl) (hg (Cond.fieldLink RX11 237 "SlabWalk$Paving" "most" "[I") m173) (fun _ h9 => h9) rfl dX11_walk_18 ?_
    refine lv_iload_n hx hb dX11_walk_21 rfl (lv_at hl 1 rfl) ?_
    refine S_iald hx hb hK hW kd_24 (vin ((by first | exact ok_163 f_6.1 f_6.2 hp_4 c_7 | omega)) ((by first | exact ok_164 f_6.1 f_6.2 hp_4 c_7 | omega))) dX11_walk_22 (fun y_12 ey_12 => ?_)
    have ty_12 : 0 ≤ y_12.toInt ∧ y_12.toInt ≤ 60 := bv_24 hB_G_2 ey_12
    refine lv_icmp_lt (tgt := 28) hx hb dX11_walk_23 rfl (fun c_13 => ?_) (fun c_13 => ?_)
    · have c_13 : p2.toInt < y_12.toInt := xI_lt rfl rfl c_13
      refine lv_aload_n hx hb dX11_walk_28 rfl (lv_at hl 0 rfl) ?_
      refine S_getR (n := 30) (C := RX11) (T := TX11) (N := 13) hx hb hg iX11 hown hK hW kd_0 rfl 8 (lt_b rfl) (hg (Cond.fieldLink RX11 65 "SlabWalk" "earnest" "LSlabWalk$Earnest;") m578) (fun _ h9 => h9) rfl dX11_walk_29 ?_
      refine lv_iload_n hx hb dX11_walk_32 rfl (lv_at hl 1 rfl) ?_
      refine lv_iload_n hx hb dX11_walk_33 rfl (lv_at hl 2 rfl) ?_
      refine lv_iload_n hx hb dX11_walk_34 rfl (lv_at hl 3 rfl) ?_
      refine S_callv (va_runV (As := [.int p0, .int p1, .int p2]) (rest := []) ⟨hx, hb, hml, hown, hts⟩ (k_eSetOut l D k A a z G_2 p0 p1 p2 ) (cwV 3 hts (gd_V hgd m1170 m1171 m1172 m127 m1173) rfl rfl rfl hd_X1_setOut ⟨Nat.le_of_ble_eq_true rfl, Nat.le_of_ble_eq_true rfl⟩) (pre_W hW hB_G_2 hK hZ hS kd_30 rfl) rfl rfl hl.1 rfl (lv_room (Nat.le_of_ble_eq_true rfl)) dX11_walk_35 ⟨Nat.le_of_ble_eq_true rfl, Nat.le_of_ble_eq_true rfl⟩) hS (fun G_15 H locs hpo hW hS => ?_)
      have hX_18 : P_eSetOut p0 p1 p2 G_2 G_15 := hpo
      obtain ⟨hB_G_15, hq_16, -⟩ := hpo
      have hF := hF.call9 hq_16 rfl rfl
      refine lv_aload_n hx hb dX11_walk_38 rfl (lv_at hl 0 rfl) ?_
      refine S_calli (va_runV (As := []) (rest := []) ⟨hx, hb, hml, hown, hts⟩ (k_wLawful_2 l D k A a z G_15  ((((hq_16.r9 0 0 rfl rfl).trans (hq_3.r9 0 0 rfl rfl))).trans (hv_0_0)) ((((hq_16.r9 0 1 rfl rfl).trans (hq_3.r9 0 1 rfl rfl))).trans (hv_0_1)) ((((hq_16.r9 6 4 rfl rfl).trans (hq_3.r9 6 4 rfl rfl))).trans (hv_6_4))) (cwV 0 hts (gd_V hgd m1174 m1176 m43 m117 m1177) rfl rfl rfl hd_X11_isLawfulNow ⟨Nat.le_of_ble_eq_true rfl, Nat.le_of_ble_eq_true rfl⟩) (pre_W hW hB_G_15 hK hZ hS kd_0 rfl) rfl rfl hl.1 rfl (lv_room (Nat.le_of_ble_eq_true rfl)) dX11_walk_39 ⟨Nat.le_of_ble_eq_true rfl, Nat.le_of_ble_eq_true rfl⟩) hS (fun r_19 G_20 H locs hpo hW hS => ?_)
      have hX_23 : P_wLawful_2 G_15 r_19 G_20 := hpo
      obtain ⟨hB_G_20, hq_21, f_24, -⟩ := hpo
      have hF := hF.call9 hq_21 rfl rfl
      refine lv_if_ne (tgt := 55) hx hb dX11_walk_42 rfl (fun c_25 => ?_) (fun c_25 => ?_)
      · have c_25 : r_19.toInt ≠ 0 := xI_ne rfl rfl c_25
        refine lv_aload_n hx hb dX11_walk_55 rfl (lv_at hl 0 rfl) ?_
        refine S_getR (n := 30) (C := RX11) (T := TX11) (N := 13) hx hb hg iX11 hown hK hW kd_0 rfl 8 (lt_b rfl) (hg (Cond.fieldLink RX11 65 "SlabWalk" "earnest" "LSlabWalk$Earnest;") m578) (fun _ h9 => h9) rfl dX11_walk_56 ?_
        refine S_callv (va_runV (As := []) (rest := []) ⟨hx, hb, hml, hown, hts⟩ (k_eKeep l D k A a z G_20  ) (cwV 0 hts (gd_V hgd m1178 m1179 m1180 m127 m1181) rfl rfl rfl hd_X1_keepAct ⟨Nat.le_of_ble_eq_true rfl, Nat.le_of_ble_eq_true rfl⟩) (pre_W hW hB_G_20 hK hZ hS kd_30 rfl) rfl rfl hl.1 rfl (lv_room (Nat.le_of_ble_eq_true rfl)) dX11_walk_59 ⟨Nat.le_of_ble_eq_true rfl, Nat.le_of_ble_eq_true rfl⟩) hS (fun G_27 H locs hpo hW hS => ?_)
        have hX_30 : P_eKeep G_20 G_27 := hpo
        obtain ⟨hB_G_27, hq_28, hp_29, -⟩ := hpo
        have hF := hF.call9 hq_28 rfl rfl
        refine lv_aload_n hx hb dX11_walk_62 rfl (lv_at hl 0 rfl) ?_
        refine S_getR (n := 30) (C := RX11) (T := TX11) (N := 13) hx hb hg iX11 hown hK hW kd_0 rfl 8 (lt_b rfl) (hg (Cond.fieldLink RX11 65 "SlabWalk" "earnest" "LSlabWalk$Earnest;") m578) (fun _ h9 => h9) rfl dX11_walk_63 ?_
        refine S_getR (n := 58) (C := RX1) (T := TX1) (N := 6) hx hb hg iX1 hown hK hW kd_30 rfl 0 (lt_b rfl) (hg (Cond.fieldLink RX11 246 "SlabWalk$Earnest" "now" "[I") m493) (fun _ h9 => h9) rfl dX11_walk_66 ?_
        refine ic_4 hx hb dX11_walk_69 ?_
        refine S_iald hx hb hK hW kd_58 (vin (by decide) (by decide)) dX11_walk_70 (fun y_31 ey_31 => ?_)
        have b_32 : 0 ≤ (G_27.1 30 4).toInt ∧ (G_27.1 30 4).toInt ≤ 40 := bd_30_4 hB_G_27
        have b_33 : 0 ≤ (G_27.1 30 5).toInt ∧ (G_27.1 30 5).toInt ≤ 40 := bd_30_5 hB_G_27
        exact W.iret (v := y_31) hx hb hr (fun t ht _ => ⟨⟨y_31, G_27, rfl, (P_Wwalk_2_mk ⟨hB_G_27, hF, ((by first | exact hp_29 | omega)), ⟨r_1, G_2, hX_5, (Or.inr ⟨c_7, ⟨y_12, ey_12, (Or.inl ⟨c_13, ⟨G_15, hX_18, ⟨r_19, G_20, hX_23, (Or.inr ⟨c_25, ⟨G_27, hX_30, ⟨y_31, ey_31, ⟨rfl, rfl⟩⟩⟩⟩)⟩⟩⟩)⟩⟩)⟩⟩), wd_t ht hW⟩, hS.F ht⟩) hS.2.2 dX11_walk_71
      · have c_25 : r_19.toInt = 0 := xI_eq rfl rfl c_25
        refine lv_aload_n hx hb dX11_walk_45 rfl (lv_at hl 0 rfl) ?_
        refine S_getR (n := 30) (C := RX11) (T := TX11) (N := 13) hx hb hg iX11 hown hK hW kd_0 rfl 8 (lt_b rfl) (hg (Cond.fieldLink RX11 65 "SlabWalk" "earnest" "LSlabWalk$Earnest;") m578) (fun _ h9 => h9) rfl dX11_walk_46 ?_
        refine S_getR (n := 58) (C := RX1) (T := TX1) (N := 6) hx hb hg iX1 hown hK hW kd_30 rfl 0 (lt_b rfl) (hg (Cond.fieldLink RX11 246 "SlabWalk$Earnest" "now" "[I") m493) (fun _ h9 => h9) rfl dX11_walk_49 ?_
        refine ic_4 hx hb dX11_walk_52 ?_
        refine ic_0 hx hb dX11_walk_53 ?_
        refine S_iast hx hb hK hW hS kd_58 (vin (by decide) (by decide)) dX11_walk_54 (fun G_34 H locs eG_34 hW hS => ?_)
        have hB_G_34 : Bd G_34 := hB_G_20.put (lo := (-2147483648)) (hi := 2147483647) eG_34 rfl rfl rfl (tI_rng _).1 (tI_rng _).2 (hB_G_20.2.put eG_34 rfl)
        have hF := hF.put eG_34 (Or.inl (by decide))
        refine lv_aload_n hx hb dX11_walk_55 rfl (lv_at hl 0 rfl) ?_
        refine S_getR (n := 30) (C := RX11) (T := TX11) (N := 13) hx hb hg iX11 hown hK hW kd_0 rfl 8 (lt_b rfl) (hg (Cond.fieldLink RX11 65 "SlabWalk" "earnest" "LSlabWalk$Earnest;") m578) (fun _ h9 => h9) rfl dX11_walk_56 ?_
        refine S_callv (va_runV (As := []) (rest := []) ⟨hx, hb, hml, hown, hts⟩ (k_eKeep l D k A a z G_34  ) (cwV 0 hts (gd_V hgd m1178 m1179 m1180 m127 m1181) rfl rfl rfl hd_X1_keepAct ⟨Nat.le_of_ble_eq_true rfl, Nat.le_of_ble_eq_true rfl⟩) (pre_W hW hB_G_34 hK hZ hS kd_30 rfl) rfl rfl hl.1 rfl (lv_room (Nat.le_of_ble_eq_true rfl)) dX11_walk_59 ⟨Nat.le_of_ble_eq_true rfl, Nat.le_of_ble_eq_true rfl⟩) hS (fun G_36 H locs hpo hW hS => ?_)
        have hX_39 : P_eKeep G_34 G_36 := hpo
        obtain ⟨hB_G_36, hq_37, hp_38, -⟩ := hpo
        have hF := hF.call9 hq_37 rfl rfl
        refine lv_aload_n hx hb dX11_walk_62 rfl (lv_at hl 0 rfl) ?_
        refine S_getR (n := 30) (C := RX11) (T := TX11) (N := 13) hx hb hg iX11 hown hK hW kd_0 rfl 8 (lt_b rfl) (hg (Cond.fieldLink RX11 65 "SlabWalk" "earnest" "LSlabWalk$Earnest;") m578) (fun _ h9 => h9) rfl dX11_walk_63 ?_
        refine S_getR (n := 58) (C := RX1) (T := TX1) (N := 6) hx hb hg iX1 hown hK hW kd_30 rfl 0 (lt_b rfl) (hg (Cond.fieldLink RX11 246 "SlabWalk$Earnest" "now" "[I") m493) (fun _ h9 => h9) rfl dX11_walk_66 ?_
        refine ic_4 hx hb dX11_walk_69 ?_
        refine S_iald hx hb hK hW kd_58 (vin (by decide) (by decide)) dX11_walk_70 (fun y_40 ey_40 => ?_)
        have b_41 : 0 ≤ (G_36.1 30 4).toInt ∧ (G_36.1 30 4).toInt ≤ 40 := bd_30_4 hB_G_36
        have b_42 : 0 ≤ (G_36.1 30 5).toInt ∧ (G_36.1 30 5).toInt ≤ 40 := bd_30_5 hB_G_36
        exact W.iret (v := y_40) hx hb hr (fun t ht _ => ⟨⟨y_40, G_36, rfl, (P_Wwalk_2_mk ⟨hB_G_36, hF, ((by first | exact hp_38 | omega)), ⟨r_1, G_2, hX_5, (Or.inr ⟨c_7, ⟨y_12, ey_12, (Or.inl ⟨c_13, ⟨G_15, hX_18, ⟨r_19, G_20, hX_23, (Or.inl ⟨c_25, ⟨G_34, hB_G_34, (Fr.put (rs := [58]) (fs := []) Fr.rf eG_34 (Or.inl (by decide))), rw_ast eG_34, ⟨G_36, hX_39, ⟨y_40, ey_40, ⟨rfl, rfl⟩⟩⟩⟩⟩)⟩⟩⟩)⟩⟩)⟩⟩), wd_t ht hW⟩, hS.F ht⟩) hS.2.2 dX11_walk_71
    · have c_13 : y_12.toInt ≤ p2.toInt := xI_nlt rfl rfl c_13
      refine ic_m1 hx hb dX11_walk_26 ?_
      have b_43 : 0 ≤ (G.1 30 4).toInt ∧ (G.1 30 4).toInt ≤ 40 := bd_30_4 hB_G
      have g_44 : (G_2.1 30 4).toInt = (G.1 30 4).toInt := (congrArg Int32.toInt (show G_2.1 30 4 = (G.1 30 4) from (hq_3.i9 30 4 rfl rfl)))
      have b_45 : 0 ≤ (G.1 30 5).toInt ∧ (G.1 30 5).toInt ≤ 40 := bd_30_5 hB_G
      have g_46 : (G_2.1 30 5).toInt = (G.1 30 5).toInt := (congrArg Int32.toInt (show G_2.1 30 5 = (G.1 30 5) from (hq_3.i9 30 5 rfl rfl)))
      exact W.iret (v := (-1)) hx hb hr (fun t ht _ => ⟨⟨(-1), G_2, rfl, (P_Wwalk_2_mk ⟨hB_G_2, hF, (by have hq : ((-1) : Int32).toInt = (-1) := rfl; (try dsimp only); omega), ⟨r_1, G_2, hX_5, (Or.inr ⟨c_7, ⟨y_12, ey_12, (Or.inr ⟨c_13, ⟨rfl, rfl⟩⟩)⟩⟩)⟩⟩), wd_t ht hW⟩, hS.F ht⟩) hS.2.2 dX11_walk_27

set_option maxHeartbeats 4000000 in
set_option maxRecDepth 100000 in
theorem k_Wgo_2 (l : Launch) (D : va_G) (k : KT) (A : Nat → Prop) (a : Nat → Nat) (z : SK) (G : GS) (p0 : Int32) (hv_0_0 : G.2.2 0 0 = 2) (hv_0_1 : G.2.2 0 1 = 1) (hv_6_4 : G.2.2 6 4 = 2) (he : (G.1 30 4).toInt + (G.1 30 5).toInt ≤ 40) : Met l yX11_go (WS yX11_go cX11_go 5 (some .int)) ({ frames := 5, cells := 0, slots := 0, locals := 118 }) (va_Pc [.ref (a 0), .int p0] (cW D k A a z G)) (va_Qi (fun (r : Int32) (G1 : GS) => P_Wgo_2 p0 G r G1) (fun (G1 : GS) t => Wd D k A a G1 t.heap) A) 0 0 A := by
  refine Met.ofW (cc := cX11_go) (maxL := 5) (ret := (some .int)) (by decide) rfl ?_
  intro p e s m args below meth c s₁ B hml hv
  obtain ⟨rfl, hW, hB_G, hK, hZ⟩ := hv
  have hx := B.exec
  have hb := B.bytes
  have hr := B.returns
  have hts := atoms_spec (ws := WS yX11_go cX11_go 5 (some .int)) B.pre
  have hgd : ∀ w ∈ gd, w ∈ WS yX11_go cX11_go 5 (some .int) := fun w h => List.mem_cons_of_mem _ h
  have hg : ∀ w ∈ gd, w.before _ s = true := fun w h => hts w (hgd w h)
  have hown : s.vm.findClass RX11 = some m.cls := findClass_of_methodNamed B.named
  have hS : va_S A s.heap s.heap [] := va_S.rf
  have hF : Fr [37, 38, 39, 58, 59] [(6, 3), (30, 4), (30, 5)] G G := Fr.rf
  have hl := lv_entry ([.ref (a 0), .int p0]) (n := 5) (Nat.le_of_ble_eq_true rfl)
  rw [lg_entry_eq]
  generalize (lg_sl ([.ref (a 0), .int p0]) ++ List.replicate (5 - (lg_sl ([.ref (a 0), .int p0])).length) Slot.unset).toArray = ls at hl ⊢
  have hl : lv_has ls 5 [(0, .ref (a 0)), (1, .int p0)] := hl
  refine lv_aload_n hx hb dX11_go_0 rfl (lv_at hl 0 rfl) ?_
  refine lv_iload_n hx hb dX11_go_1 rfl (lv_at hl 1 rfl) ?_
  refine S_calli (va_runV (As := [.int p0]) (rest := []) ⟨hx, hb, hml, hown, hts⟩ (k_wGo_2 l D k A a z G p0 hv_0_0 hv_0_1 hv_6_4) (cwV 1 hts (gd_V hgd m1186 m1188 m44 m117 m1189) rfl rfl rfl hd_X11_canGo ⟨Nat.le_of_ble_eq_true rfl, Nat.le_of_ble_eq_true rfl⟩) (pre_W hW hB_G hK hZ hS kd_0 rfl) rfl rfl hl.1 rfl (lv_room (Nat.le_of_ble_eq_true rfl)) dX11_go_2 ⟨Nat.le_of_ble_eq_true rfl, Nat.le_of_ble_eq_true rfl⟩) hS (fun r_1 G_2 H locs hpo hW hS => ?_)
  have hX_5 : P_wGo_2 p0 G r_1 G_2 := hpo
  obtain ⟨hB_G_2, hq_3, f_6, hp_4, -⟩ := hpo
  have hF := hF.call9 hq_3 rfl rfl
  refine lv_if_ne (tgt := 10) hx hb dX11_go_5 rfl (fun c_7 => ?_) (fun c_7 => ?_)
  · have c_7 : r_1.toInt ≠ 0 := xI_ne rfl rfl c_7
    refine lv_aload_n hx hb dX11_go_10 rfl (lv_at hl 0 rfl) ?_
    refine S_getR (n := 30) (C := RX11) (T := TX11) (N := 13) hx hb hg iX11 hown hK hW kd_0 rfl 8 (lt_b rfl) (hg (Cond.fieldLink RX11 65 "SlabWalk" "earnest" "LSlabWalk$Earnest;") m578) (fun _ h9 => h9) rfl dX11_go_11 ?_
    refine S_getR (n := 58) (C := RX1) (T := TX1) (N := 6) hx hb hg iX1 hown hK hW kd_30 rfl 0 (lt_b rfl) (hg (Cond.fieldLink RX11 246 "SlabWalk$Earnest" "now" "[I") m493) (fun _ h9 => h9) rfl dX11_go_14 ?_
    refine lv_astore_n (lv' := [(2, .ref (a 58)), (0, .ref (a 0)), (1, .int p0)]) hx hb dX11_go_17 rfl hl (lt_b rfl) rfl (fun ls hl => ?_)
    refine lv_aload_n hx hb dX11_go_18 rfl (lv_at hl 0 rfl) ?_
    refine ic_0 hx hb dX11_go_19 ?_
    refine S_iald hx hb hK hW kd_58 (vin (by decide) (by decide)) dX11_go_20 (fun y_8 ey_8 => ?_)
    have u_9 : y_8.toInt = (G.1 58 0).toInt := congrArg Int32.toInt (ey_8.trans ((hq_3.i9 58 0 rfl rfl)))
    refine lv_istore_n (lv' := [(3, .int y_8), (2, .ref (a 58)), (0, .ref (a 0)), (1, .int p0)]) hx hb dX11_go_21 rfl hl (lt_b rfl) rfl (fun ls hl => ?_)
    refine lv_aload_n hx hb dX11_go_22 rfl (lv_at hl 2 rfl) ?_
    refine S_getR (n := 30) (C := RX11) (T := TX11) (N := 13) hx hb hg iX11 hown hK hW kd_0 rfl 8 (lt_b rfl) (hg (Cond.fieldLink RX11 65 "SlabWalk" "earnest" "LSlabWalk$Earnest;") m578) (fun _ h9 => h9) rfl dX11_go_23 ?_
    refine S_callv (va_runV (As := []) (rest := []) ⟨hx, hb, hml, hown, hts⟩ (k_eDraw l D k A a z G_2  ) (cwV 0 hts (gd_V hgd m1190 m1191 m1192 m127 m1193) rfl rfl rfl hd_X1_drawSeed ⟨Nat.le_of_ble_eq_true rfl, Nat.le_of_ble_eq_true rfl⟩) (pre_W hW hB_G_2 hK hZ hS kd_30 rfl) rfl rfl hl.1 rfl (lv_room (Nat.le_of_ble_eq_true rfl)) dX11_go_26 ⟨Nat.le_of_ble_eq_true rfl, Nat.le_of_ble_eq_true rfl⟩) hS (fun G_11 H locs hpo hW hS => ?_)
    have hX_14 : P_eDraw G_2 G_11 := hpo
    obtain ⟨hB_G_11, hq_12, -⟩ := hpo
    have hF := hF.call9 hq_12 rfl rfl
    refine lv_aload_n hx hb dX11_go_29 rfl (lv_at hl 1 rfl) ?_
    refine ic_2 hx hb dX11_go_30 ?_
    refine S_iald hx hb hK hW kd_58 (vin (by decide) (by decide)) dX11_go_31 (fun y_15 ey_15 => ?_)
    refine lv_iload_n hx hb dX11_go_32 rfl (lv_at hl 3 rfl) ?_
    refine lv_iadd hx hb dX11_go_33 ?_
    refine lv_topi (fun y_16 ey_16 => ?_)
    refine lv_aload_n hx hb dX11_go_34 rfl (lv_at hl 2 rfl) ?_
    refine S_getV (n := 2) (C := RX11) (T := TX11) (N := 13) hx hb hg iX11 hown hK hW kd_0 rfl 0 (lt_b rfl) (hg (Cond.fieldLink RX11 10 "SlabWalk" "paving" "LSlabWalk$Paving;") m570) (fun _ h9 => h9) rfl ((((hq_12.r9 0 0 rfl rfl).trans (hq_3.r9 0 0 rfl rfl))).trans (hv_0_0)) dX11_go_35 ?_
    refine lv_aload_n hx hb dX11_go_38 rfl (lv_at hl 1 rfl) ?_
    refine lv_bipush (v := 7) hx hb dX11_go_39 (by decide) ?_
    refine S_iald hx hb hK hW kd_58 (vin (by decide) (by decide)) dX11_go_41 (fun y_17 ey_17 => ?_)
    refine S_calli (va_runV (As := [.int y_17]) (rest := [.int y_16]) ⟨hx, hb, hml, hown, hts⟩ (k_slipBy_2 l D k A a z G_11 y_17 ) (cwV 1 hts (gd_V hgd m1194 m1195 m1196 m118 m1197) rfl rfl rfl hd_X6_slipBy ⟨Nat.le_of_ble_eq_true rfl, Nat.le_of_ble_eq_true rfl⟩) (pre_W hW hB_G_11 hK hZ hS kd_2 rfl) rfl rfl hl.1 rfl (lv_room (Nat.le_of_ble_eq_true rfl)) dX11_go_42 ⟨Nat.le_of_ble_eq_true rfl, Nat.le_of_ble_eq_true rfl⟩) hS (fun r_18 G_19 H locs hpo hW hS => ?_)
    have hX_22 : P_slipBy_2 y_17 G_11 r_18 G_19 := hpo
    obtain ⟨hB_G_19, hq_20, f_23, -⟩ := hpo
    have hF := hF.call9 hq_20 rfl rfl
    refine lv_iadd hx hb dX11_go_45 ?_
    refine lv_topi (fun y_24 ey_24 => ?_)
    refine lv_istore (lv' := [(4, .int y_24), (3, .int y_8), (2, .ref (a 58)), (0, .ref (a 0)), (1, .int p0)]) hx hb dX11_go_46 hl (lt_b rfl) rfl (fun ls hl => ?_)
    refine lv_aload_n hx hb dX11_go_48 rfl (lv_at hl 2 rfl) ?_
    refine ic_5 hx hb dX11_go_49 ?_
    refine lv_iload_n hx hb dX11_go_50 rfl (lv_at hl 4 rfl) ?_
    refine lv_aload_n hx hb dX11_go_51 rfl (lv_at hl 3 rfl) ?_
    refine S_getV (n := 2) (C := RX11) (T := TX11) (N := 13) hx hb hg iX11 hown hK hW kd_0 rfl 0 (lt_b rfl) (hg (Cond.fieldLink RX11 10 "SlabWalk" "paving" "LSlabWalk$Paving;") m570) (fun _ h9 => h9) rfl ((((hq_20.r9 0 0 rfl rfl).trans ((hq_12.r9 0 0 rfl rfl).trans (hq_3.r9 0 0 rfl rfl)))).trans (hv_0_0)) dX11_go_52 ?_
    refine S_getR (n := 24) (C := RX6) (T := TX6) (N := 17) hx hb hg iX6 hown hK hW kd_2 rfl 4 (lt_b rfl) (hg (Cond.fieldLink RX11 237 "SlabWalk$Paving" "most" "[I") m173) (fun _ h9 => h9) rfl dX11_go_55 ?_
    refine lv_iload_n hx hb dX11_go_58 rfl (lv_at hl 1 rfl) ?_
    refine S_iald hx hb hK hW kd_24 (vin ((by first | exact ok_529 f_6.1 f_6.2 hp_4 c_7 u_9 | omega)) ((by first | exact ok_530 f_6.1 f_6.2 hp_4 c_7 u_9 | omega))) dX11_go_59 (fun y_25 ey_25 => ?_)
    have ty_25 : 0 ≤ y_25.toInt ∧ y_25.toInt ≤ 60 := bv_24 hB_G_19 ey_25
    refine W.cut (σ := Int32) (pcJ := 68) (J := fun y H locs ls => ∃ (G_33 : GS) (x_26 : Int32), (0 ≤ y.toInt ∧ y.toInt ≤ 1) ∧ Jn_k_Wgo_2_1 p0 y_24 y_25 G_19 x_26 y G_33 ∧ Wd D k A a G_33 H ∧ Bd G_33 ∧ Fr [37, 38, 39, 58, 59] [(6, 3), (30, 4), (30, 5)] G G_33 ∧ Fr [] [] G_19 G_33 ∧ va_S A s.heap H locs ∧ lv_has ls 5 [(4, .int x_26), (3, .int y_8), (2, .ref (a 58)), (0, .ref (a 0))]) (stJ := fun y => [.int y, .int 5, .ref (a 58)]) ?_ (fun hJ_34 => ?_)
    · intro y H locs ls hI
      obtain ⟨w_30, hy⟩ : ∃ q, q = y := ⟨_, rfl⟩
      subst hy
      obtain ⟨G_33, x_26, f_37, hX_36, hW, hB_G_33, hF, hq_35, hS, hl⟩ := hI
      refine S_iast hx hb hK hW hS kd_58 (vin (by decide) (by decide)) dX11_go_68 (fun G_38 H locs eG_38 hW hS => ?_)
      have hB_G_38 : Bd G_38 := hB_G_33.put (lo := (-2147483648)) (hi := 2147483647) eG_38 rfl rfl rfl (tI_rng _).1 (tI_rng _).2 (hB_G_33.2.put eG_38 rfl)
      have hF := hF.put eG_38 (Or.inl (by decide))
      refine lv_aload_n hx hb dX11_go_69 rfl (lv_at hl 3 rfl) ?_
      refine S_getV (n := 2) (C := RX11) (T := TX11) (N := 13) hx hb hg iX11 hown hK hW kd_0 rfl 0 (lt_b rfl) (hg (Cond.fieldLink RX11 10 "SlabWalk" "paving" "LSlabWalk$Paving;") m570) (fun _ h9 => h9) rfl ((((congrFun (congrFun (congrArg (fun q => q.2.2) eG_38) 0) 0).trans ((hq_35.r9 0 0 rfl rfl).trans ((hq_20.r9 0 0 rfl rfl).trans ((hq_12.r9 0 0 rfl rfl).trans (hq_3.r9 0 0 rfl rfl)))))).trans (hv_0_0)) dX11_go_70 ?_
      refine lv_iload_n hx hb dX11_go_73 rfl (lv_at hl 1 rfl) ?_
      refine lv_aload_n hx hb dX11_go_74 rfl (lv_at hl 2 rfl) ?_
      refine ic_1 hx hb dX11_go_75 ?_
      refine S_iald hx hb hK hW kd_58 (vin (by decide) (by decide)) dX11_go_76 (fun y_39 ey_39 => ?_)
      refine lv_iload hx hb dX11_go_77 (lv_at hl 0 rfl) ?_
      have b_40 : 0 ≤ (G.1 2 10).toInt ∧ (G.1 2 10).toInt ≤ 4 := bd_2_10 hB_G
      have g_41 : (G_38.1 2 10).toInt = (G.1 2 10).toInt := (congrArg Int32.toInt (show G_38.1 2 10 = (G.1 2 10) from ((gp_ne eG_38 (fun q => absurd q.1 (Nat.ne_of_beq_eq_false rfl))).trans ((hq_35.i9 2 10 rfl rfl).trans ((hq_20.i9 2 10 rfl rfl).trans ((hq_12.i9 2 10 rfl rfl).trans (hq_3.i9 2 10 rfl rfl)))))))
      refine S_calli (va_runV (As := [.int y_8, .int y_39, .int x_26]) (rest := []) ⟨hx, hb, hml, hown, hts⟩ (k_stands_2 l D k A a z G_38 y_8 y_39 x_26 ) (cwV 3 hts (gd_V hgd m1121 m966 m967 m118 m968) rfl rfl rfl hd_X6_stands ⟨Nat.le_of_ble_eq_true rfl, Nat.le_of_ble_eq_true rfl⟩) (pre_W hW hB_G_38 hK hZ hS kd_2 rfl) rfl rfl hl.1 rfl (lv_room (Nat.le_of_ble_eq_true rfl)) dX11_go_79 ⟨Nat.le_of_ble_eq_true rfl, Nat.le_of_ble_eq_true rfl⟩) hS (fun r_42 G_43 H locs hpo hW hS => ?_)
      have hX_46 : P_stands_2 y_8 y_39 x_26 G_38 r_42 G_43 := hpo
      obtain ⟨hB_G_43, hq_44, f_47, hp_45, -⟩ := hpo
      have hF := hF.call9 hq_44 rfl rfl
      refine lv_if_eq (tgt := 115) hx hb dX11_go_82 rfl (fun c_48 => ?_) (fun c_48 => ?_)
      · have c_48 : r_42.toInt = 0 := xI_eq rfl rfl c_48
        refine lv_aload_n hx hb dX11_go_115 rfl (lv_at hl 2 rfl) ?_
        refine ic_4 hx hb dX11_go_116 ?_
        refine ic_2 hx hb dX11_go_117 ?_
        refine S_iast hx hb hK hW hS kd_58 (vin (by decide) (by decide)) dX11_go_118 (fun G_49 H locs eG_49 hW hS => ?_)
        have hB_G_49 : Bd G_49 := hB_G_43.put (lo := (-2147483648)) (hi := 2147483647) eG_49 rfl rfl rfl (tI_rng _).1 (tI_rng _).2 (hB_G_43.2.put eG_49 rfl)
        have hF := hF.put eG_49 (Or.inl (by decide))
        refine lv_aload_n hx hb dX11_go_119 rfl (lv_at hl 3 rfl) ?_
        refine S_getR (n := 30) (C := RX11) (T := TX11) (N := 13) hx hb hg iX11 hown hK hW kd_0 rfl 8 (lt_b rfl) (hg (Cond.fieldLink RX11 65 "SlabWalk" "earnest" "LSlabWalk$Earnest;") m578) (fun _ h9 => h9) rfl dX11_go_120 ?_
        refine S_callv (va_runV (As := []) (rest := []) ⟨hx, hb, hml, hown, hts⟩ (k_eKeep l D k A a z G_49  ) (cwV 0 hts (gd_V hgd m1178 m1179 m1180 m127 m1181) rfl rfl rfl hd_X1_keepAct ⟨Nat.le_of_ble_eq_true rfl, Nat.le_of_ble_eq_true rfl⟩) (pre_W hW hB_G_49 hK hZ hS kd_30 rfl) rfl rfl hl.1 rfl (lv_room (Nat.le_of_ble_eq_true rfl)) dX11_go_123 ⟨Nat.le_of_ble_eq_true rfl, Nat.le_of_ble_eq_true rfl⟩) hS (fun G_51 H locs hpo hW hS => ?_)
        have hX_54 : P_eKeep G_49 G_51 := hpo
        obtain ⟨hB_G_51, hq_52, hp_53, -⟩ := hpo
        have hF := hF.call9 hq_52 rfl rfl
        refine lv_aload_n hx hb dX11_go_126 rfl (lv_at hl 2 rfl) ?_
        refine ic_4 hx hb dX11_go_127 ?_
        refine S_iald hx hb hK hW kd_58 (vin (by decide) (by decide)) dX11_go_128 (fun y_55 ey_55 => ?_)
        have b_56 : 0 ≤ (G_51.1 30 4).toInt ∧ (G_51.1 30 4).toInt ≤ 40 := bd_30_4 hB_G_51
        have b_57 : 0 ≤ (G_51.1 30 5).toInt ∧ (G_51.1 30 5).toInt ≤ 40 := bd_30_5 hB_G_51
        exact W.iret (v := y_55) hx hb hr (fun t ht _ => ⟨⟨y_55, G_51, rfl, (P_Wgo_2_mk ⟨hB_G_51, hF, ((by first | exact hp_53 | omega)), ⟨r_1, G_2, hX_5, (Or.inr ⟨c_7, ⟨y_8, ey_8, ⟨G_11, hX_14, ⟨y_15, ey_15, ⟨y_16, ey_16, ⟨y_17, ey_17, ⟨r_18, G_19, hX_22, ⟨y_24, ey_24, ⟨y_25, ey_25, ⟨x_26, w_30, G_33, hX_36, f_37, hB_G_33, hq_35, ⟨y_39, ey_39.trans (congrFun (rw_ast eG_38) _), ⟨G_38, hB_G_38, (Fr.put (rs := [58]) (fs := []) Fr.rf eG_38 (Or.inl (by decide))), rw_ast eG_38, ⟨r_42, G_43, hX_46, (Or.inl ⟨c_48, ⟨G_49, hB_G_49, (Fr.put (rs := [58]) (fs := []) Fr.rf eG_49 (Or.inl (by decide))), rw_ast eG_49, ⟨G_51, hX_54, ⟨y_55, ey_55, ⟨rfl, rfl⟩⟩⟩⟩⟩)⟩⟩⟩⟩⟩⟩⟩⟩⟩⟩⟩⟩⟩)⟩⟩), wd_t ht hW⟩, hS.F ht⟩) hS.2.2 dX11_go_129
      · have c_48 : r_42.toInt ≠ 0 := xI_ne rfl rfl c_48
        refine lv_aload_n hx hb dX11_go_85 rfl (lv_at hl 2 rfl) ?_
        refine ic_2 hx hb dX11_go_86 ?_
        refine lv_iload hx hb dX11_go_87 (lv_at hl 0 rfl) ?_
        refine S_iast hx hb hK hW hS kd_58 (vin (by decide) (by decide)) dX11_go_89 (fun G_58 H locs eG_58 hW hS => ?_)
        have hB_G_58 : Bd G_58 := hB_G_43.put (lo := (-2147483648)) (hi := 2147483647) eG_58 rfl rfl rfl (tI_rng _).1 (tI_rng _).2 (hB_G_43.2.put eG_58 rfl)
        have hF := hF.put eG_58 (Or.inl (by decide))
        refine lv_aload_n hx hb dX11_go_90 rfl (lv_at hl 2 rfl) ?_
        refine ic_3 hx hb dX11_go_91 ?_
        refine lv_dup2_11 hx hb dX11_go_92 rfl rfl ?_
        refine S_iald hx hb hK hW kd_58 (vin (by decide) (by decide)) dX11_go_93 (fun y_59 ey_59 => ?_)
        refine ic_1 hx hb dX11_go_94 ?_
        refine lv_iadd hx hb dX11_go_95 ?_
        refine lv_topi (fun y_60 ey_60 => ?_)
        refine S_iast hx hb hK hW hS kd_58 (vin (by decide) (by decide)) dX11_go_96 (fun G_61 H locs eG_61 hW hS => ?_)
        have hB_G_61 : Bd G_61 := hB_G_58.put (lo := (-2147483648)) (hi := 2147483647) eG_61 rfl rfl rfl (tI_rng _).1 (tI_rng _).2 (hB_G_58.2.put eG_61 rfl)
        have hF := hF.put eG_61 (Or.inl (by decide))
        refine lv_aload_n hx hb dX11_go_97 rfl (lv_at hl 2 rfl) ?_
        refine ic_4 hx hb dX11_go_98 ?_
        refine lv_aload_n hx hb dX11_go_99 rfl (lv_at hl 3 rfl) ?_
        refine S_calli (va_runV (As := []) (rest := [.int 4, .ref (a 58)]) ⟨hx, hb, hml, hown, hts⟩ (k_wLawful_2 l D k A a z G_61  ((((congrFun (congrFun (congrArg (fun q => q.2.2) eG_61) 0) 0).trans ((congrFun (congrFun (congrArg (fun q => q.2.2) eG_58) 0) 0).trans ((hq_44.r9 0 0 rfl rfl).trans ((congrFun (congrFun (congrArg (fun q => q.2.2) eG_38) 0) 0).trans ((hq_35.r9 0 0 rfl rfl).trans ((hq_20.r9 0 0 rfl rfl).trans ((hq_12.r9 0 0 rfl rfl).trans (hq_3.r9 0 0 rfl rfl))))))))).trans (hv_0_0)) ((((congrFun (congrFun (congrArg (fun q => q.2.2) eG_61) 0) 1).trans ((congrFun (congrFun (congrArg (fun q => q.2.2) eG_58) 0) 1).trans ((hq_44.r9 0 1 rfl rfl).trans ((congrFun (congrFun (congrArg (fun q => q.2.2) eG_38) 0) 1).trans ((hq_35.r9 0 1 rfl rfl).trans ((hq_20.r9 0 1 rfl rfl).trans ((hq_12.r9 0 1 rfl rfl).trans (hq_3.r9 0 1 rfl rfl))))))))).trans (hv_0_1)) ((((congrFun (congrFun (congrArg (fun q => q.2.2) eG_61) 6) 4).trans ((congrFun (congrFun (congrArg (fun q => q.2.2) eG_58) 6) 4).trans ((hq_44.r9 6 4 rfl rfl).trans ((congrFun (congrFun (congrArg (fun q => q.2.2) eG_38) 6) 4).trans ((hq_35.r9 6 4 rfl rfl).trans ((hq_20.r9 6 4 rfl rfl).trans ((hq_12.r9 6 4 rfl rfl).trans (hq_3.r9 6 4 rfl rfl))))))))).trans (hv_6_4))) (cwV 0 hts (gd_V hgd m1174 m1176 m43 m117 m1177) rfl rfl rfl hd_X11_isLawfulNow ⟨Nat.le_of_ble_eq_true rfl, Nat.le_of_ble_eq_true rfl⟩) (pre_W hW hB_G_61 hK hZ hS kd_0 rfl) rfl rfl hl.1 rfl (lv_room (Nat.le_of_ble_eq_true rfl)) dX11_go_100 ⟨Nat.le_of_ble_eq_true rfl, Nat.le_of_ble_eq_true rfl⟩) hS (fun r_62 G_63 H locs hpo hW hS => ?_)
        have hX_66 : P_wLawful_2 G_61 r_62 G_63 := hpo
        obtain ⟨hB_G_63, hq_64, f_67, -⟩ := hpo
        have hF := hF.call9 hq_64 rfl rfl
        refine lv_if_eq (tgt := 110) hx hb dX11_go_103 rfl (fun c_68 => ?_) (fun c_68 => ?_)
        · have c_68 : r_62.toInt = 0 := xI_eq rfl rfl c_68
          refine ic_0 hx hb dX11_go_110 ?_
          refine S_iast hx hb hK hW hS kd_58 (vin (by decide) (by decide)) dX11_go_111 (fun G_69 H locs eG_69 hW hS => ?_)
          have hB_G_69 : Bd G_69 := hB_G_63.put (lo := (-2147483648)) (hi := 2147483647) eG_69 rfl rfl rfl (tI_rng _).1 (tI_rng _).2 (hB_G_63.2.put eG_69 rfl)
          have hF := hF.put eG_69 (Or.inl (by decide))
          refine lv_goto (tgt := 119) hx hb dX11_go_112 rfl ?_
          refine lv_aload_n hx hb dX11_go_119 rfl (lv_at hl 3 rfl) ?_
          refine S_getR (n := 30) (C := RX11) (T := TX11) (N := 13) hx hb hg iX11 hown hK hW kd_0 rfl 8 (lt_b rfl) (hg (Cond.fieldLink RX11 65 "SlabWalk" "earnest" "LSlabWalk$Earnest;") m578) (fun _ h9 => h9) rfl dX11_go_120 ?_
          refine S_callv (va_runV (As := []) (rest := []) ⟨hx, hb, hml, hown, hts⟩ (k_eKeep l D k A a z G_69  ) (cwV 0 hts (gd_V hgd m1178 m1179 m1180 m127 m1181) rfl rfl rfl hd_X1_keepAct ⟨Nat.le_of_ble_eq_true rfl, Nat.le_of_ble_eq_true rfl⟩) (pre_W hW hB_G_69 hK hZ hS kd_30 rfl) rfl rfl hl.1 rfl (lv_room (Nat.le_of_ble_eq_true rfl)) dX11_go_123 ⟨Nat.le_of_ble_eq_true rfl, Nat.le_of_ble_eq_true rfl⟩) hS (fun G_71 H locs hpo hW hS => ?_)
          have hX_74 : P_eKeep G_69 G_71 := hpo
          obtain ⟨hB_G_71, hq_72, hp_73, -⟩ := hpo
          have hF := hF.call9 hq_72 rfl rfl
          refine lv_aload_n hx hb dX11_go_126 rfl (lv_at hl 2 rfl) ?_
          refine ic_4 hx hb dX11_go_127 ?_
          refine S_iald hx hb hK hW kd_58 (vin (by decide) (by decide)) dX11_go_128 (fun y_75 ey_75 => ?_)
          have b_76 : 0 ≤ (G_71.1 30 4).toInt ∧ (G_71.1 30 4).toInt ≤ 40 := bd_30_4 hB_G_71
          have b_77 : 0 ≤ (G_71.1 30 5).toInt ∧ (G_71.1 30 5).toInt ≤ 40 := bd_30_5 hB_G_71
          exact W.iret (v := y_75) hx hb hr (fun t ht _ => ⟨⟨y_75, G_71, rfl, (P_Wgo_2_mk ⟨hB_G_71, hF, ((by first | exact hp_73 | omega)), ⟨r_1, G_2, hX_5, (Or.inr ⟨c_7, ⟨y_8, ey_8, ⟨G_11, hX_14, ⟨y_15, ey_15, ⟨y_16, ey_16, ⟨y_17, ey_17, ⟨r_18, G_19, hX_22, ⟨y_24, ey_24, ⟨y_25, ey_25, ⟨x_26, w_30, G_33, hX_36, f_37, hB_G_33, hq_35, ⟨y_39, ey_39.trans (congrFun (rw_ast eG_38) _), ⟨G_38, hB_G_38, (Fr.put (rs := [58]) (fs := []) Fr.rf eG_38 (Or.inl (by decide))), rw_ast eG_38, ⟨r_42, G_43, hX_46, (Or.inr ⟨c_48, ⟨y_59, ey_59.trans (congrFun (rw_ast eG_58) _), ⟨y_60, ey_60, ⟨G_61, hB_G_61, (Fr.put (rs := [58]) (fs := []) (Fr.put (rs := [58]) (fs := []) Fr.rf eG_58 (Or.inl (by decide))) eG_61 (Or.inl (by decide))), (rw_ast eG_61).trans (congrArg (fun q => upd q ((3 : Int32).toNatClampNeg) y_60) (rw_ast eG_58)), ⟨r_62, G_63, hX_66, (Or.inl ⟨c_68, ⟨G_69, hB_G_69, (Fr.put (rs := [58]) (fs := []) Fr.rf eG_69 (Or.inl (by decide))), rw_ast eG_69, ⟨G_71, hX_74, ⟨y_75, ey_75, ⟨rfl, rfl⟩⟩⟩⟩⟩)⟩⟩⟩⟩⟩)⟩⟩⟩⟩⟩⟩⟩⟩⟩⟩⟩⟩⟩)⟩⟩), wd_t ht hW⟩, hS.F ht⟩) hS.2.2 dX11_go_129
        · have c_68 : r_62.toInt ≠ 0 := xI_ne rfl rfl c_68
          refine ic_1 hx hb dX11_go_106 ?_
          refine lv_goto (tgt := 111) hx hb dX11_go_107 rfl ?_
          refine S_iast hx hb hK hW hS kd_58 (vin (by decide) (by decide)) dX11_go_111 (fun G_78 H locs eG_78 hW hS => ?_)
          have hB_G_78 : Bd G_78 := hB_G_63.put (lo := (-2147483648)) (hi := 2147483647) eG_78 rfl rfl rfl (tI_rng _).1 (tI_rng _).2 (hB_G_63.2.put eG_78 rfl)
          have hF := hF.put eG_78 (Or.inl (by decide))
          refine lv_goto (tgt := 119) hx hb dX11_go_112 rfl ?_
          refine lv_aload_n hx hb dX11_go_119 rfl (lv_at hl 3 rfl) ?_
          refine S_getR (n := 30) (C := RX11) (T := TX11) (N := 13) hx hb hg iX11 hown hK hW kd_0 rfl 8 (lt_b rfl) (hg (Cond.fieldLink RX11 65 "SlabWalk" "earnest" "LSlabWalk$Earnest;") m578) (fun _ h9 => h9) rfl dX11_go_120 ?_
          refine S_callv (va_runV (As := []) (rest := []) ⟨hx, hb, hml, hown, hts⟩ (k_eKeep l D k A a z G_78  ) (cwV 0 hts (gd_V hgd m1178 m1179 m1180 m127 m1181) rfl rfl rfl hd_X1_keepAct ⟨Nat.le_of_ble_eq_true rfl, Nat.le_of_ble_eq_true rfl⟩) (pre_W hW hB_G_78 hK hZ hS kd_30 rfl) rfl rfl hl.1 rfl (lv_room (Nat.le_of_ble_eq_true rfl)) dX11_go_123 ⟨Nat.le_of_ble_eq_true rfl, Nat.le_of_ble_eq_true rfl⟩) hS (fun G_80 H locs hpo hW hS => ?_)
          have hX_83 : P_eKeep G_78 G_80 := hpo
          obtain ⟨hB_G_80, hq_81, hp_82, -⟩ := hpo
          have hF := hF.call9 hq_81 rfl rfl
          refine lv_aload_n hx hb dX11_go_126 rfl (lv_at hl 2 rfl) ?_
          refine ic_4 hx hb dX11_go_127 ?_
          refine S_iald hx hb hK hW kd_58 (vin (by decide) (by decide)) dX11_go_128 (fun y_84 ey_84 => ?_)
          have b_85 : 0 ≤ (G_80.1 30 4).toInt ∧ (G_80.1 30 4).toInt ≤ 40 := bd_30_4 hB_G_80
          have b_86 : 0 ≤ (G_80.1 30 5).toInt ∧ (G_80.1 30 5).toInt ≤ 40 := bd_30_5 hB_G_80
          exact W.iret (v := y_84) hx hb hr (fun t ht _ => ⟨⟨y_84, G_80, rfl, (P_Wgo_2_mk ⟨hB_G_80, hF, ((by first | exact hp_82 | omega)), ⟨r_1, G_2, hX_5, (Or.inr ⟨c_7, ⟨y_8, ey_8, ⟨G_11, hX_14, ⟨y_15, ey_15, ⟨y_16, ey_16, ⟨y_17, ey_17, ⟨r_18, G_19, hX_22, ⟨y_24, ey_24, ⟨y_25, ey_25, ⟨x_26, w_30, G_33, hX_36, f_37, hB_G_33, hq_35, ⟨y_39, ey_39.trans (congrFun (rw_ast eG_38) _), ⟨G_38, hB_G_38, (Fr.put (rs := [58]) (fs := []) Fr.rf eG_38 (Or.inl (by decide))), rw_ast eG_38, ⟨r_42, G_43, hX_46, (Or.inr ⟨c_48, ⟨y_59, ey_59.trans (congrFun (rw_ast eG_58) _), ⟨y_60, ey_60, ⟨G_61, hB_G_61, (Fr.put (rs := [58]) (fs := []) (Fr.put (rs := [58]) (fs := []) Fr.rf eG_58 (Or.inl (by decide))) eG_61 (Or.inl (by decide))), (rw_ast eG_61).trans (congrArg (fun q => upd q ((3 : Int32).toNatClampNeg) y_60) (rw_ast eG_58)), ⟨r_62, G_63, hX_66, (Or.inr ⟨c_68, ⟨G_78, hB_G_78, (Fr.put (rs := [58]) (fs := []) Fr.rf eG_78 (Or.inl (by decide))), rw_ast eG_78, ⟨G_80, hX_83, ⟨y_84, ey_84, ⟨rfl, rfl⟩⟩⟩⟩⟩)⟩⟩⟩⟩⟩)⟩⟩⟩⟩⟩⟩⟩⟩⟩⟩⟩⟩⟩)⟩⟩), wd_t ht hW⟩, hS.F ht⟩) hS.2.2 dX11_go_129
    refine lv_icmp_le (tgt := 67) hx hb dX11_go_60 rfl (fun c_87 => ?_) (fun c_87 => ?_)
    · have c_87 : p0.toInt ≤ y_25.toInt := xI_le rfl rfl c_87
      refine ic_0 hx hb dX11_go_67 ?_
      have qc_88 : (0 : Int32).toInt = 0 := rfl
      exact hJ_34 0 _ _ _ ⟨G_19, y_24, ⟨(by decide), (by decide)⟩, (Jn_k_Wgo_2_1_mk (Or.inl ⟨c_87, ⟨rfl, rfl, rfl⟩⟩)), hW, hB_G_19, hF, (Fr.rf (rs := []) (fs := [])), hS, lv_sub hl [0, 1, 2, 3] rfl⟩
    · have c_87 : y_25.toInt < p0.toInt := xI_nle rfl rfl c_87
      refine ic_1 hx hb dX11_go_63 ?_
      refine lv_goto (tgt := 68) hx hb dX11_go_64 rfl ?_
      have qc_89 : (1 : Int32).toInt = 1 := rfl
      exact hJ_34 1 _ _ _ ⟨G_19, y_24, ⟨(by decide), (by decide)⟩, (Jn_k_Wgo_2_1_mk (Or.inr ⟨c_87, ⟨rfl, rfl, rfl⟩⟩)), hW, hB_G_19, hF, (Fr.rf (rs := []) (fs := [])), hS, lv_sub hl [0, 1, 2, 3] rfl⟩
  · have c_7 : r_1.toInt = 0 := xI_eq rfl rfl c_7
    refine ic_m1 hx hb dX11_go_8 ?_
    have b_90 : 0 ≤ (G.1 30 4).toInt ∧ (G.1 30 4).toInt ≤ 40 := bd_30_4 hB_G
    have g_91 : (G_2.1 30 4).toInt = (G.1 30 4).toInt := (congrArg Int32.toInt (show G_2.1 30 4 = (G.1 30 4) from (hq_3.i9 30 4 rfl rfl)))
    have b_92 : 0 ≤ (G.1 30 5).toInt ∧ (G.1 30 5).toInt ≤ 40 := bd_30_5 hB_G
    have g_93 : (G_2.1 30 5).toInt = (G.1 30 5).toInt := (congrArg Int32.toInt (show G_2.1 30 5 = (G.1 30 5) from (hq_3.i9 30 5 rfl rfl)))
    exact W.iret (v := (-1)) hx hb hr (fun t ht _ => ⟨⟨(-1), G_2, rfl, (P_Wgo_2_mk ⟨hB_G_2, hF, (by have hq : ((-1) : Int32).toInt = (-1) := rfl; (try dsimp only); omega), ⟨r_1, G_2, hX_5, (Or.inl ⟨c_7, ⟨rfl, rfl⟩⟩)⟩⟩), wd_t ht hW⟩, hS.F ht⟩) hS.2.2 dX11_go_9



set_option maxHeartbeats 4000000 in
set_option maxRecDepth 100000 in
theorem k_Wfewest_2 (l : Launch) (D : va_G) (k : KT) (A : Nat → Prop) (a : Nat → Nat) (z : SK) (G : GS) (p0 : Int32) (p1 : Int32) (p2 : Int32) (p3 : Int32) (hv_0_0 : G.2.2 0 0 = 2) (hv_0_1 : G.2.2 0 1 = 1) (hv_6_4 : G.2.2 6 4 = 2) : Met l yX11_fewest (WS yX11_fewest cX11_fewest 6 (some .int)) ({ frames := 5, cells := 0, slots := 0, locals := 119 }) (va_Pc [.ref (a 0), .int p0, .int p1, .int p2, .int p3] (cW D k A a z G)) (va_Qi (fun (r : Int32) (G1 : GS) => P_Wfewest_2 p0 p1 p2 p3 G r G1) (fun (G1 : GS) t => Wd D k A a G1 t.heap) A) 0 0 A := by
  refine Met.ofW (cc := cX11_fewest) (maxL := 6) (ret := (some .int)) (by decide) rfl ?_
  intro p e s m args below meth c s₁ B hml hv
  obtain ⟨rfl, hW, hB_G, hK, hZ⟩ := hv
  have hx := B.exec
  have hb := B.bytes
  have hr := B.returns
  have hts := atoms_spec (ws := WS yX11_fewest cX11_fewest 6 (some .int)) B.pre
  have hgd : ∀ w ∈ gd, w ∈ WS yX11_fewest cX11_fewest 6 (some .int) := fun w h => List.mem_cons_of_mem _ h
  have hg : ∀ w ∈ gd, w.before _ s = true := fun w h => hts w (hgd w h)
  have hown : s.vm.findClass RX11 = some m.cls := findClass_of_methodNamed B.named
  have hS : va_S A s.heap s.heap [] := va_S.rf
  have hF : Fr [33, 37, 38, 39, 40, 42, 43, 44, 45] [(0, 12), (6, 3), (7, 1), (7, 2), (7, 3), (7, 4), (7, 5), (7, 6), (7, 7)] G G := Fr.rf
  have hl := lv_entry ([.ref (a 0), .int p0, .int p1, .int p2, .int p3]) (n := 6) (Nat.le_of_ble_eq_true rfl)
  rw [lg_entry_eq]
  generalize (lg_sl ([.ref (a 0), .int p0, .int p1, .int p2, .int p3]) ++ List.replicate (6 - (lg_sl ([.ref (a 0), .int p0, .int p1, .int p2, .int p3])).length) Slot.unset).toArray = ls at hl ⊢
  have hl : lv_has ls 6 [(0, .ref (a 0)), (1, .int p0), (2, .int p1), (3, .int p2), (4, .int p3)] := hl
  refine lv_aload_n hx hb dX11_fewest_0 rfl (lv_at hl 0 rfl) ?_
  refine ic_0 hx hb dX11_fewest_1 ?_
  refine S_putI (ty := .int) (C := RX11) (T := TX11) (N := 13) hx hb hg iX11 tyX11 tyX11_ok nmX11 hown hK hW hS kd_0 rfl 12 (lt_b rfl) (hg (Cond.fieldLink RX11 150 "SlabWalk" "lie" "I") m582) (fun _ h9 => h9) rfl (by decide +kernel) rfl rfl rfl dX11_fewest_2 (fun G_1 H locs eG_1 hW hS => ?_)
  have hB_G_1 : Bd G_1 := hB_G.put (V := 0) (lo := 0) (hi := 400) eG_1 rfl rfl rfl (by decide) (by decide) (hB_G.2.put eG_1 rfl)
  have hF := hF.put eG_1 (Or.inr (by decide))
  refine lv_aload_n hx hb dX11_fewest_5 rfl (lv_at hl 0 rfl) ?_
  refine lv_iload_n hx hb dX11_fewest_6 rfl (lv_at hl 1 rfl) ?_
  refine lv_iload_n hx hb dX11_fewest_7 rfl (lv_at hl 2 rfl) ?_
  refine lv_iload_n hx hb dX11_fewest_8 rfl (lv_at hl 3 rfl) ?_
  have b_2 : 0 ≤ (G.1 2 10).toInt ∧ (G.1 2 10).toInt ≤ 4 := bd_2_10 hB_G
  have g_3 : (G_1.1 2 10).toInt = (G.1 2 10).toInt := (congrArg Int32.toInt (show G_1.1 2 10 = (G.1 2 10) from (gp_ne eG_1 (by decide))))
  refine S_calli (va_runV (As := [.int p0, .int p1, .int p2]) (rest := []) ⟨hx, hb, hml, hown, hts⟩ (k_wAsk_2 l D k A a z G_1 p0 p1 p2 (((congrFun (congrFun (congrArg (fun q => q.2.2) eG_1) 0) 0)).trans (hv_0_0)) (((congrFun (congrFun (congrArg (fun q => q.2.2) eG_1) 0) 1)).trans (hv_0_1)) (((congrFun (congrFun (congrArg (fun q => q.2.2) eG_1) 6) 4)).trans (hv_6_4))) (cwV 3 hts (gd_V hgd m953 m955 m31 m117 m956) rfl rfl rfl hd_X11_canAsk ⟨Nat.le_of_ble_eq_true rfl, Nat.le_of_ble_eq_true rfl⟩) (pre_W hW hB_G_1 hK hZ hS kd_0 rfl) rfl rfl hl.1 rfl (lv_room (Nat.le_of_ble_eq_true rfl)) dX11_fewest_9 ⟨Nat.le_of_ble_eq_true rfl, Nat.le_of_ble_eq_true rfl⟩) hS (fun r_4 G_5 H locs hpo hW hS => ?_)
  have hX_8 : P_wAsk_2 p0 p1 p2 G_1 r_4 G_5 := hpo
  obtain ⟨hB_G_5, hq_6, f_9, hp_7, -⟩ := hpo
  have hF := hF.call9 hq_6 rfl rfl
  refine lv_if_eq (tgt := 26) hx hb dX11_fewest_12 rfl (fun c_10 => ?_) (fun c_10 => ?_)
  · have c_10 : r_4.toInt = 0 := xI_eq rfl rfl c_10
    refine ic_m1 hx hb dX11_fewest_26 ?_
    exact W.iret (v := (-1)) hx hb hr (fun t ht _ => ⟨⟨(-1), G_5, rfl, (P_Wfewest_2_mk ⟨hB_G_5, hF, ⟨G_1, hB_G_1, (Fr.put (rs := []) (fs := [(0, 12)]) Fr.rf eG_1 (Or.inr (by decide))), (gp_eq eG_1), ⟨r_4, G_5, hX_8, (Or.inl ⟨c_10, ⟨rfl, rfl⟩⟩)⟩⟩⟩), wd_t ht hW⟩, hS.F ht⟩) hS.2.2 dX11_fewest_27
  · have c_10 : r_4.toInt ≠ 0 := xI_ne rfl rfl c_10
    refine lv_iload hx hb dX11_fewest_15 (lv_at hl 4 rfl) ?_
    refine lv_if_lt (tgt := 26) hx hb dX11_fewest_17 rfl (fun c_11 => ?_) (fun c_11 => ?_)
    · have c_11 : p3.toInt < 0 := xI_lt rfl rfl c_11
      refine ic_m1 hx hb dX11_fewest_26 ?_
      exact W.iret (v := (-1)) hx hb hr (fun t ht _ => ⟨⟨(-1), G_5, rfl, (P_Wfewest_2_mk ⟨hB_G_5, hF, ⟨G_1, hB_G_1, (Fr.put (rs := []) (fs := [(0, 12)]) Fr.rf eG_1 (Or.inr (by decide))), (gp_eq eG_1), ⟨r_4, G_5, hX_8, (Or.inr ⟨c_10, (Or.inl ⟨c_11, ⟨rfl, rfl⟩⟩)⟩)⟩⟩⟩), wd_t ht hW⟩, hS.F ht⟩) hS.2.2 dX11_fewest_27
    · have c_11 : 0 ≤ p3.toInt := xI_nlt rfl rfl c_11
      refine lv_iload hx hb dX11_fewest_20 (lv_at hl 4 rfl) ?_
      refine ic_2 hx hb dX11_fewest_22 ?_
      refine lv_icmp_le (tgt := 28) hx hb dX11_fewest_23 rfl (fun c_12 => ?_) (fun c_12 => ?_)
      · have c_12 : p3.toInt ≤ 2 := xI_le rfl rfl c_12
        refine lv_aload_n hx hb dX11_fewest_28 rfl (lv_at hl 0 rfl) ?_
        refine lv_iload_n hx hb dX11_fewest_29 rfl (lv_at hl 1 rfl) ?_
        refine lv_iload_n hx hb dX11_fewest_30 rfl (lv_at hl 2 rfl) ?_
        refine lv_iload_n hx hb dX11_fewest_31 rfl (lv_at hl 3 rfl) ?_
        have g_13 : (G_5.1 2 10).toInt = (G.1 2 10).toInt := (congrArg Int32.toInt (show G_5.1 2 10 = (G.1 2 10) from ((hq_6.i9 2 10 rfl rfl).trans ((gp_ne eG_1 (by decide)).trans (rfl)))))
        refine S_callv (va_runV (As := [.int p0, .int p1, .int p2]) (rest := []) ⟨hx, hb, hml, hown, hts⟩ (k_wPrep_2 l D k A a z G_5 p0 p1 p2 ⟨(by first | exact ok_531 f_9.1 f_9.2 hp_7 c_10 | omega), (by first | exact ok_532 f_9.1 f_9.2 hp_7 c_10 | omega)⟩ ⟨(by first | exact ok_533 f_9.1 f_9.2 hp_7 c_10 | omega), (by first | exact ok_534 f_9.1 f_9.2 hp_7 c_10 | omega)⟩ ((((hq_6.r9 0 0 rfl rfl).trans (congrFun (congrFun (congrArg (fun q => q.2.2) eG_1) 0) 0))).trans (hv_0_0)) ((((hq_6.r9 0 1 rfl rfl).trans (congrFun (congrFun (congrArg (fun q => q.2.2) eG_1) 0) 1))).trans (hv_0_1)) ((((hq_6.r9 6 4 rfl rfl).trans (congrFun (congrFun (congrArg (fun q => q.2.2) eG_1) 6) 4))).trans (hv_6_4)) ((by first | exact ok_535 g_3 f_9.1 f_9.2 hp_7 c_10 g_13 | omega))) (cwV 3 hts (gd_V hgd m975 m977 m32 m117 m978) rfl rfl rfl hd_X11_prepare ⟨Nat.le_of_ble_eq_true rfl, Nat.le_of_ble_eq_true rfl⟩) (pre_W hW hB_G_5 hK hZ hS kd_0 rfl) rfl rfl hl.1 rfl (lv_room (Nat.le_of_ble_eq_true rfl)) dX11_fewest_32 ⟨Nat.le_of_ble_eq_true rfl, Nat.le_of_ble_eq_true rfl⟩) hS (fun G_15 H locs hpo hW hS => ?_)
        have hX_18 : P_wPrep_2 p0 p1 p2 G_5 G_15 := hpo
        obtain ⟨hB_G_15, hq_16, hp_17, -⟩ := hpo
        have hF := hF.call9 hq_16 rfl rfl
        refine lv_aload_n hx hb dX11_fewest_35 rfl (lv_at hl 0 rfl) ?_
        refine S_getR (n := 8) (C := RX11) (T := TX11) (N := 13) hx hb hg iX11 hown hK hW kd_0 rfl 6 (lt_b rfl) (hg (Cond.fieldLink RX11 51 "SlabWalk" "trails" "LSlabWalk$Trails;") m576) (fun _ h9 => h9) rfl dX11_fewest_36 ?_
        refine lv_aload_n hx hb dX11_fewest_39 rfl (lv_at hl 0 rfl) ?_
        refine S_getR (n := 7) (C := RX11) (T := TX11) (N := 13) hx hb hg iX11 hown hK hW kd_0 rfl 5 (lt_b rfl) (hg (Cond.fieldLink RX11 44 "SlabWalk" "course" "LSlabWalk$Course;") m575) (fun _ h9 => h9) rfl dX11_fewest_40 ?_
        refine lv_iload hx hb dX11_fewest_43 (lv_at hl 4 rfl) ?_
        have b_19 : 0 ≤ (G_15.1 7 3).toInt ∧ (G_15.1 7 3).toInt ≤ 60 := bd_7_3 hB_G_15
        have b_20 : 0 ≤ (G_15.1 7 4).toInt ∧ (G_15.1 7 4).toInt ≤ 60 := bd_7_4 hB_G_15
        have b_21 : (-1) ≤ (G_15.1 7 6).toInt ∧ (G_15.1 7 6).toInt ≤ 400 := bd_7_6 hB_G_15
        have b_22 : 0 ≤ (G_15.1 7 7).toInt ∧ (G_15.1 7 7).toInt ≤ 400 := bd_7_7 hB_G_15
        refine S_calli (va_runV (As := [.ref (a 7), .int p3]) (rest := []) ⟨hx, hb, hml, hown, hts⟩ (k_tFewest l D k A a z G_15 p3 ((by first | exact ⟨(by first | exact hp_17.1 | omega), ⟨(by first | exact hp_17.2.1 | omega), (by first | exact hp_17.2.2 | omega)⟩⟩ | omega))) (cwV 2 hts (gd_V hgd m989 m990 m991 m124 m992) rfl rfl rfl hd_X10_fewestFeet ⟨Nat.le_of_ble_eq_true rfl, Nat.le_of_ble_eq_true rfl⟩) (pre_W hW hB_G_15 hK hZ hS kd_8 rfl) rfl rfl hl.1 rfl (lv_room (Nat.le_of_ble_eq_true rfl)) dX11_fewest_45 ⟨Nat.le_of_ble_eq_true rfl, Nat.le_of_ble_eq_true rfl⟩) hS (fun r_23 G_24 H locs hpo hW hS => ?_)
        have hX_27 : P_tFewest p3 G_15 r_23 G_24 := hpo
        obtain ⟨hB_G_24, hq_25, -⟩ := hpo
        have hF := hF.call9 hq_25 rfl rfl
        refine lv_istore (lv' := [(5, .int r_23), (0, .ref (a 0)), (1, .int p0), (2, .int p1), (3, .int p2), (4, .int p3)]) hx hb dX11_fewest_48 hl (lt_b rfl) rfl (fun ls hl => ?_)
        refine lv_iload hx hb dX11_fewest_50 (lv_at hl 0 rfl) ?_
        refine ic_m1 hx hb dX11_fewest_52 ?_
        refine lv_icmp_ne (tgt := 58) hx hb dX11_fewest_53 rfl (fun c_28 => ?_) (fun c_28 => ?_)
        · have c_28 : r_23.toInt ≠ (-1) := xI_ne rfl rfl c_28
          refine lv_aload_n hx hb dX11_fewest_58 rfl (lv_at hl 1 rfl) ?_
          refine lv_aload_n hx hb dX11_fewest_59 rfl (lv_at hl 1 rfl) ?_
          refine S_getR (n := 8) (C := RX11) (T := TX11) (N := 13) hx hb hg iX11 hown hK hW kd_0 rfl 6 (lt_b rfl) (hg (Cond.fieldLink RX11 51 "SlabWalk" "trails" "LSlabWalk$Trails;") m576) (fun _ h9 => h9) rfl dX11_fewest_60 ?_
          refine lv_aload_n hx hb dX11_fewest_63 rfl (lv_at hl 1 rfl) ?_
          refine S_getR (n := 7) (C := RX11) (T := TX11) (N := 13) hx hb hg iX11 hown hK hW kd_0 rfl 5 (lt_b rfl) (hg (Cond.fieldLink RX11 44 "SlabWalk" "course" "LSlabWalk$Course;") m575) (fun _ h9 => h9) rfl dX11_fewest_64 ?_
          refine lv_iload hx hb dX11_fewest_67 (lv_at hl 0 rfl) ?_
          refine lv_aload_n hx hb dX11_fewest_69 rfl (lv_at hl 1 rfl) ?_
          refine S_getR (n := 33) (C := RX11) (T := TX11) (N := 13) hx hb hg iX11 hown hK hW kd_0 rfl 10 (lt_b rfl) (hg (Cond.fieldLink RX11 76 "SlabWalk" "lying" "[I") m580) (fun _ h9 => h9) rfl dX11_fewest_70 ?_
          have g_29 : (G_24.1 7 3).toInt = (G_15.1 7 3).toInt := (congrArg Int32.toInt (show G_24.1 7 3 = (G_15.1 7 3) from ((hq_25.i9 7 3 rfl rfl).trans (rfl))))
          have g_30 : (G_24.1 7 4).toInt = (G_15.1 7 4).toInt := (congrArg Int32.toInt (show G_24.1 7 4 = (G_15.1 7 4) from ((hq_25.i9 7 4 rfl rfl).trans (rfl))))
          have g_31 : (G_24.1 7 6).toInt = (G_15.1 7 6).toInt := (congrArg Int32.toInt (show G_24.1 7 6 = (G_15.1 7 6) from ((hq_25.i9 7 6 rfl rfl).trans (rfl))))
          have g_32 : (G_24.1 7 7).toInt = (G_15.1 7 7).toInt := (congrArg Int32.toInt (show G_24.1 7 7 = (G_15.1 7 7) from ((hq_25.i9 7 7 rfl rfl).trans (rfl))))
          refine S_calli (va_runV (As := [.ref (a 7), .int r_23, .ref (a 33)]) (rest := [.ref (a 0)]) ⟨hx, hb, hml, hown, hts⟩ (k_tLay l D k A a z G_24 r_23 ((by first | exact ⟨(by first | exact ok_235 hp_17.1 g_31 | omega), ⟨(by first | exact ok_185 hp_17.2.1 g_29 g_30 | omega), (by first | exact ok_236 hp_17.2.2 g_30 g_31 g_32 | omega)⟩⟩ | omega))) (cwV 3 hts (gd_V hgd m1007 m1008 m1009 m124 m1010) rfl rfl rfl hd_X10_layHeels ⟨Nat.le_of_ble_eq_true rfl, Nat.le_of_ble_eq_true rfl⟩) (pre_W hW hB_G_24 hK hZ hS kd_8 rfl) rfl rfl hl.1 rfl (lv_room (Nat.le_of_ble_eq_true rfl)) dX11_fewest_73 ⟨Nat.le_of_ble_eq_true rfl, Nat.le_of_ble_eq_true rfl⟩) hS (fun r_33 G_34 H locs hpo hW hS => ?_)
          have hX_37 : P_tLay r_23 G_24 r_33 G_34 := hpo
          obtain ⟨hB_G_34, hq_35, f_38, -⟩ := hpo
          have hF := hF.call9 hq_35 rfl rfl
          refine S_putI (ty := .int) (C := RX11) (T := TX11) (N := 13) hx hb hg iX11 tyX11 tyX11_ok nmX11 hown hK hW hS kd_0 rfl 12 (lt_b rfl) (hg (Cond.fieldLink RX11 150 "SlabWalk" "lie" "I") m582) (fun _ h9 => h9) rfl (by decide +kernel) rfl rfl rfl dX11_fewest_76 (fun G_39 H locs eG_39 hW hS => ?_)
          have hB_G_39 : Bd G_39 := hB_G_34.put (V := r_33.toInt) (lo := 0) (hi := 400) eG_39 rfl rfl rfl ((by first | exact f_38.1 | omega)) ((by first | exact f_38.2 | omega)) (hB_G_34.2.put eG_39 rfl)
          have hF := hF.put eG_39 (Or.inr (by decide))
          refine lv_iload hx hb dX11_fewest_79 (lv_at hl 0 rfl) ?_
          exact W.iret (v := r_23) hx hb hr (fun t ht _ => ⟨⟨r_23, G_39, rfl, (P_Wfewest_2_mk ⟨hB_G_39, hF, ⟨G_1, hB_G_1, (Fr.put (rs := []) (fs := [(0, 12)]) Fr.rf eG_1 (Or.inr (by decide))), (gp_eq eG_1), ⟨r_4, G_5, hX_8, (Or.inr ⟨c_10, (Or.inr ⟨c_11, (Or.inl ⟨c_12, ⟨G_15, hX_18, ⟨r_23, G_24, hX_27, (Or.inr ⟨c_28, ⟨r_33, G_34, hX_37, ⟨rfl, (Fr.put (rs := []) (fs := [(0, 12)]) Fr.rf eG_39 (Or.inr (by decide))), (gp_eq eG_39)⟩⟩⟩)⟩⟩⟩)⟩)⟩)⟩⟩⟩), wd_t ht hW⟩, hS.F ht⟩) hS.2.2 dX11_fewest_81
        · have c_28 : r_23.toInt = (-1) := xI_eq rfl rfl c_28
          refine ic_m1 hx hb dX11_fewest_56 ?_
          exact W.iret (v := (-1)) hx hb hr (fun t ht _ => ⟨⟨(-1), G_24, rfl, (P_Wfewest_2_mk ⟨hB_G_24, hF, ⟨G_1, hB_G_1, (Fr.put (rs := []) (fs := [(0, 12)]) Fr.rf eG_1 (Or.inr (by decide))), (gp_eq eG_1), ⟨r_4, G_5, hX_8, (Or.inr ⟨c_10, (Or.inr ⟨c_11, (Or.inl ⟨c_12, ⟨G_15, hX_18, ⟨r_23, G_24, hX_27, (Or.inl ⟨c_28, ⟨rfl, rfl⟩⟩)⟩⟩⟩)⟩)⟩)⟩⟩⟩), wd_t ht hW⟩, hS.F ht⟩) hS.2.2 dX11_fewest_57
      · have c_12 : 2 < p3.toInt := xI_nle rfl rfl c_12
        refine ic_m1 hx hb dX11_fewest_26 ?_
        exact W.iret (v := (-1)) hx hb hr (fun t ht _ => ⟨⟨(-1), G_5, rfl, (P_Wfewest_2_mk ⟨hB_G_5, hF, ⟨G_1, hB_G_1, (Fr.put (rs := []) (fs := [(0, 12)]) Fr.rf eG_1 (Or.inr (by decide))), (gp_eq eG_1), ⟨r_4, G_5, hX_8, (Or.inr ⟨c_10, (Or.inr ⟨c_11, (Or.inr ⟨c_12, ⟨rfl, rfl⟩⟩)⟩)⟩)⟩⟩⟩), wd_t ht hW⟩, hS.F ht⟩) hS.2.2 dX11_fewest_27

set_option maxHeartbeats 4000000 in
set_option maxRecDepth 100000 in
theorem k_Wways_2 (l : Launch) (D : va_G) (k : KT) (A : Nat → Prop) (a : Nat → Nat) (z : SK) (G : GS) (p0 : Int32) (p1 : Int32) (p2 : Int32) (p3 : Int32) (hv_0_0 : G.2.2 0 0 = 2) (hv_0_1 : G.2.2 0 1 = 1) (hv_6_4 : G.2.2 6 4 = 2) : Met l yX11_ways (WS yX11_ways cX11_ways 5 (some .long)) ({ frames := 5, cells := 0, slots := 0, locals := 119 }) (va_Pc [.ref (a 0), .int p0, .int p1, .int p2, .int p3] (cW D k A a z G)) (va_Ql (fun (r : Int64) (G1 : GS) => P_Wways_2 p0 p1 p2 p3 G r G1) (fun (G1 : GS) t => Wd D k A a G1 t.heap) A) 0 0 A := by
  refine Met.ofW (cc := cX11_ways) (maxL := 5) (ret := (some .long)) (by decide) rfl ?_
  intro p e s m args below meth c s₁ B hml hv
  obtain ⟨rfl, hW, hB_G, hK, hZ⟩ := hv
  have hx := B.exec
  have hb := B.bytes
  have hr := B.returns
  have hts := atoms_spec (ws := WS yX11_ways cX11_ways 5 (some .long)) B.pre
  have hgd : ∀ w ∈ gd, w ∈ WS yX11_ways cX11_ways 5 (some .long) := fun w h => List.mem_cons_of_mem _ h
  have hg : ∀ w ∈ gd, w.before _ s = true := fun w h => hts w (hgd w h)
  have hown : s.vm.findClass RX11 = some m.cls := findClass_of_methodNamed B.named
  have hS : va_S A s.heap s.heap [] := va_S.rf
  have hF : Fr [37, 38, 39, 40, 52, 53, 54, 55] [(6, 3), (7, 1), (7, 2), (7, 3), (7, 4), (7, 5), (7, 6), (7, 7)] G G := Fr.rf
  have hl := lv_entry ([.ref (a 0), .int p0, .int p1, .int p2, .int p3]) (n := 5) (Nat.le_of_ble_eq_true rfl)
  rw [lg_entry_eq]
  generalize (lg_sl ([.ref (a 0), .int p0, .int p1, .int p2, .int p3]) ++ List.replicate (5 - (lg_sl ([.ref (a 0), .int p0, .int p1, .int p2, .int p3])).length) Slot.unset).toArray = ls at hl ⊢
  have hl : lv_has ls 5 [(0, .ref (a 0)), (1, .int p0), (2, .int p1), (3, .int p2), (4, .int p3)] := hl
  refine lv_aload_n hx hb dX11_ways_0 rfl (lv_at hl 0 rfl) ?_
  refine lv_iload_n hx hb dX11_ways_1 rfl (lv_at hl 1 rfl) ?_
  refine lv_iload_n hx hb dX11_ways_2 rfl (lv_at hl 2 rfl) ?_
  refine lv_iload_n hx hb dX11_ways_3 rfl (lv_at hl 3 rfl) ?_
  refine S_calli (va_runV (As := [.int p0, .int p1, .int p2]) (rest := []) ⟨hx, hb, hml, hown, hts⟩ (k_wAsk_2 l D k A a z G p0 p1 p2 hv_0_0 hv_0_1 hv_6_4) (cwV 3 hts (gd_V hgd m953 m955 m31 m117 m956) rfl rfl rfl hd_X11_canAsk ⟨Nat.le_of_ble_eq_true rfl, Nat.le_of_ble_eq_true rfl⟩) (pre_W hW hB_G hK hZ hS kd_0 rfl) rfl rfl hl.1 rfl (lv_room (Nat.le_of_ble_eq_true rfl)) dX11_ways_4 ⟨Nat.le_of_ble_eq_true rfl, Nat.le_of_ble_eq_true rfl⟩) hS (fun r_1 G_2 H locs hpo hW hS => ?_)
  have hX_5 : P_wAsk_2 p0 p1 p2 G r_1 G_2 := hpo
  obtain ⟨hB_G_2, hq_3, f_6, hp_4, -⟩ := hpo
  have hF := hF.call9 hq_3 rfl rfl
  refine lv_if_eq (tgt := 23) hx hb dX11_ways_7 rfl (fun c_7 => ?_) (fun c_7 => ?_)
  · have c_7 : r_1.toInt = 0 := xI_eq rfl rfl c_7
    refine lv_ldc2 (v := (-1)) hx hb hown (hg (Cond.constantLong RX11 165 (-1)) m1018) dX11_ways_23 ?_
    exact W.lret (v := (-1)) hx hb hr (fun t ht _ => ⟨⟨(-1), G_2, rfl, (P_Wways_2_mk ⟨hB_G_2, hF, ⟨r_1, G_2, hX_5, (Or.inl ⟨c_7, ⟨rfl, rfl⟩⟩)⟩⟩), wd_t ht hW⟩, hS.F ht⟩) hS.2.2 dX11_ways_26
  · have c_7 : r_1.toInt ≠ 0 := xI_ne rfl rfl c_7
    refine lv_iload hx hb dX11_ways_10 (lv_at hl 4 rfl) ?_
    refine ic_1 hx hb dX11_ways_12 ?_
    refine lv_icmp_lt (tgt := 23) hx hb dX11_ways_13 rfl (fun c_8 => ?_) (fun c_8 => ?_)
    · have c_8 : p3.toInt < 1 := xI_lt rfl rfl c_8
      refine lv_ldc2 (v := (-1)) hx hb hown (hg (Cond.constantLong RX11 165 (-1)) m1018) dX11_ways_23 ?_
      exact W.lret (v := (-1)) hx hb hr (fun t ht _ => ⟨⟨(-1), G_2, rfl, (P_Wways_2_mk ⟨hB_G_2, hF, ⟨r_1, G_2, hX_5, (Or.inr ⟨c_7, (Or.inl ⟨c_8, ⟨rfl, rfl⟩⟩)⟩)⟩⟩), wd_t ht hW⟩, hS.F ht⟩) hS.2.2 dX11_ways_26
    · have c_8 : 1 ≤ p3.toInt := xI_nlt rfl rfl c_8
      refine lv_iload hx hb dX11_ways_16 (lv_at hl 4 rfl) ?_
      refine lv_bipush (v := 60) hx hb dX11_ways_18 (by decide) ?_
      refine lv_icmp_le (tgt := 27) hx hb dX11_ways_20 rfl (fun c_9 => ?_) (fun c_9 => ?_)
      · have c_9 : p3.toInt ≤ 60 := xI_le rfl rfl c_9
        refine lv_aload_n hx hb dX11_ways_27 rfl (lv_at hl 0 rfl) ?_
        refine lv_iload_n hx hb dX11_ways_28 rfl (lv_at hl 1 rfl) ?_
        refine lv_iload_n hx hb dX11_ways_29 rfl (lv_at hl 2 rfl) ?_
        refine lv_iload_n hx hb dX11_ways_30 rfl (lv_at hl 3 rfl) ?_
        have b_10 : 0 ≤ (G.1 2 10).toInt ∧ (G.1 2 10).toInt ≤ 4 := bd_2_10 hB_G
        have g_11 : (G_2.1 2 10).toInt = (G.1 2 10).toInt := (congrArg Int32.toInt (show G_2.1 2 10 = (G.1 2 10) from (hq_3.i9 2 10 rfl rfl)))
        refine S_callv (va_runV (As := [.int p0, .int p1, .int p2]) (rest := []) ⟨hx, hb, hml, hown, hts⟩ (k_wPrep_2 l D k A a z G_2 p0 p1 p2 ⟨(by first | exact ok_531 f_6.1 f_6.2 hp_4 c_7 | omega), (by first | exact ok_532 f_6.1 f_6.2 hp_4 c_7 | omega)⟩ ⟨(by first | exact ok_533 f_6.1 f_6.2 hp_4 c_7 | omega), (by first | exact ok_534 f_6.1 f_6.2 hp_4 c_7 | omega)⟩ (((hq_3.r9 0 0 rfl rfl)).trans (hv_0_0)) (((hq_3.r9 0 1 rfl rfl)).trans (hv_0_1)) (((hq_3.r9 6 4 rfl rfl)).trans (hv_6_4)) ((by first | exact ok_536 f_6.1 f_6.2 hp_4 c_7 g_11 | omega))) (cwV 3 hts (gd_V hgd m975 m977 m32 m117 m978) rfl rfl rfl hd_X11_prepare ⟨Nat.le_of_ble_eq_true rfl, Nat.le_of_ble_eq_true rfl⟩) (pre_W hW hB_G_2 hK hZ hS kd_0 rfl) rfl rfl hl.1 rfl (lv_room (Nat.le_of_ble_eq_true rfl)) dX11_ways_31 ⟨Nat.le_of_ble_eq_true rfl, Nat.le_of_ble_eq_true rfl⟩) hS (fun G_13 H locs hpo hW hS => ?_)
        have hX_16 : P_wPrep_2 p0 p1 p2 G_2 G_13 := hpo
        obtain ⟨hB_G_13, hq_14, hp_15, -⟩ := hpo
        have hF := hF.call9 hq_14 rfl rfl
        refine lv_aload_n hx hb dX11_ways_34 rfl (lv_at hl 0 rfl) ?_
        refine S_getR (n := 29) (C := RX11) (T := TX11) (N := 13) hx hb hg iX11 hown hK hW kd_0 rfl 7 (lt_b rfl) (hg (Cond.fieldLink RX11 58 "SlabWalk" "odds" "LSlabWalk$Odds;") m577) (fun _ h9 => h9) rfl dX11_ways_35 ?_
        refine lv_aload_n hx hb dX11_ways_38 rfl (lv_at hl 0 rfl) ?_
        refine S_getR (n := 7) (C := RX11) (T := TX11) (N := 13) hx hb hg iX11 hown hK hW kd_0 rfl 5 (lt_b rfl) (hg (Cond.fieldLink RX11 44 "SlabWalk" "course" "LSlabWalk$Course;") m575) (fun _ h9 => h9) rfl dX11_ways_39 ?_
        refine lv_iload hx hb dX11_ways_42 (lv_at hl 4 rfl) ?_
        have b_17 : 0 ≤ (G_13.1 7 3).toInt ∧ (G_13.1 7 3).toInt ≤ 60 := bd_7_3 hB_G_13
        have b_18 : 0 ≤ (G_13.1 7 4).toInt ∧ (G_13.1 7 4).toInt ≤ 60 := bd_7_4 hB_G_13
        have b_19 : (-1) ≤ (G_13.1 7 6).toInt ∧ (G_13.1 7 6).toInt ≤ 400 := bd_7_6 hB_G_13
        have b_20 : 0 ≤ (G_13.1 7 7).toInt ∧ (G_13.1 7 7).toInt ≤ 400 := bd_7_7 hB_G_13
        refine S_calll (va_runV (As := [.ref (a 7), .int p3]) (rest := []) ⟨hx, hb, hml, hown, hts⟩ (k_oCount l D k A a z G_13 p3 ⟨(by first | exact c_8 | omega), (by first | exact c_9 | omega)⟩ ((by first | exact ⟨(by first | exact hp_15.1 | omega), ⟨(by first | exact hp_15.2.1 | omega), (by first | exact hp_15.2.2 | omega)⟩⟩ | omega))) (cwV 2 hts (gd_V hgd m1019 m1020 m1021 m126 m1022) rfl rfl rfl hd_X5_countWays ⟨Nat.le_of_ble_eq_true rfl, Nat.le_of_ble_eq_true rfl⟩) (pre_W hW hB_G_13 hK hZ hS kd_29 rfl) rfl rfl hl.1 rfl (lv_room (Nat.le_of_ble_eq_true rfl)) dX11_ways_44 ⟨Nat.le_of_ble_eq_true rfl, Nat.le_of_ble_eq_true rfl⟩) hS (fun r_21 G_22 H locs hpo hW hS => ?_)
        have hX_25 : P_oCount p3 G_13 r_21 G_22 := hpo
        obtain ⟨hB_G_22, hq_23, -⟩ := hpo
        have hF := hF.call9 hq_23 rfl rfl
        exact W.lret (v := r_21) hx hb hr (fun t ht _ => ⟨⟨r_21, G_22, rfl, (P_Wways_2_mk ⟨hB_G_22, hF, ⟨r_1, G_2, hX_5, (Or.inr ⟨c_7, (Or.inr ⟨c_8, (Or.inl ⟨c_9, ⟨G_13, hX_16, ⟨r_21, G_22, hX_25, ⟨rfl, rfl⟩⟩⟩⟩)⟩)⟩)⟩⟩), wd_t ht hW⟩, hS.F ht⟩) hS.2.2 dX11_ways_47
      · have c_9 : 60 < p3.toInt := xI_nle rfl rfl c_9
        refine lv_ldc2 (v := (-1)) hx hb hown (hg (Cond.constantLong RX11 165 (-1)) m1018) dX11_ways_23 ?_
        exact W.lret (v := (-1)) hx hb hr (fun t ht _ => ⟨⟨(-1), G_2, rfl, (P_Wways_2_mk ⟨hB_G_2, hF, ⟨r_1, G_2, hX_5, (Or.inr ⟨c_7, (Or.inr ⟨c_8, (Or.inr ⟨c_9, ⟨rfl, rfl⟩⟩)⟩)⟩)⟩⟩), wd_t ht hW⟩, hS.F ht⟩) hS.2.2 dX11_ways_26

set_option maxHeartbeats 4000000 in
set_option maxRecDepth 100000 in
theorem k_Wevenest_2 (l : Launch) (D : va_G) (k : KT) (A : Nat → Prop) (a : Nat → Nat) (z : SK) (G : GS) (p0 : Int32) (p1 : Int32) (p2 : Int32) (p3 : Int32) (hv_0_0 : G.2.2 0 0 = 2) (hv_0_1 : G.2.2 0 1 = 1) (hv_6_4 : G.2.2 6 4 = 2) : Met l yX11_evenest (WS yX11_evenest cX11_evenest 5 (some .int)) ({ frames := 5, cells := 0, slots := 0, locals := 119 }) (va_Pc [.ref (a 0), .int p0, .int p1, .int p2, .int p3] (cW D k A a z G)) (va_Qi (fun (r : Int32) (G1 : GS) => P_Wevenest_2 p0 p1 p2 p3 G r G1) (fun (G1 : GS) t => Wd D k A a G1 t.heap) A) 0 0 A := by
  refine Met.ofW (cc := cX11_evenest) (maxL := 5) (ret := (some .int)) (by decide) rfl ?_
  intro p e s m args below meth c s₁ B hml hv
  obtain ⟨rfl, hW, hB_G, hK, hZ⟩ := hv
  have hx := B.exec
  have hb := B.bytes
  have hr := B.returns
  have hts := atoms_spec (ws := WS yX11_evenest cX11_evenest 5 (some .int)) B.pre
  have hgd : ∀ w ∈ gd, w ∈ WS yX11_evenest cX11_evenest 5 (some .int) := fun w h => List.mem_cons_of_mem _ h
  have hg : ∀ w ∈ gd, w.before _ s = true := fun w h => hts w (hgd w h)
  have hown : s.vm.findClass RX11 = some m.cls := findClass_of_methodNamed B.named
  have hS : va_S A s.heap s.heap [] := va_S.rf
  have hF : Fr [37, 38, 39, 40, 42] [(6, 3), (7, 1), (7, 2), (7, 3), (7, 4), (7, 5), (7, 6), (7, 7)] G G := Fr.rf
  have hl := lv_entry ([.ref (a 0), .int p0, .int p1, .int p2, .int p3]) (n := 5) (Nat.le_of_ble_eq_true rfl)
  rw [lg_entry_eq]
  generalize (lg_sl ([.ref (a 0), .int p0, .int p1, .int p2, .int p3]) ++ List.replicate (5 - (lg_sl ([.ref (a 0), .int p0, .int p1, .int p2, .int p3])).length) Slot.unset).toArray = ls at hl ⊢
  have hl : lv_has ls 5 [(0, .ref (a 0)), (1, .int p0), (2, .int p1), (3, .int p2), (4, .int p3)] := hl
  refine lv_aload_n hx hb dX11_evenest_0 rfl (lv_at hl 0 rfl) ?_
  refine lv_iload_n hx hb dX11_evenest_1 rfl (lv_at hl 1 rfl) ?_
  refine lv_iload_n hx hb dX11_evenest_2 rfl (lv_at hl 2 rfl) ?_
  refine lv_iload_n hx hb dX11_evenest_3 rfl (lv_at hl 3 rfl) ?_
  refine S_calli (va_runV (As := [.int p0, .int p1, .int p2]) (rest := []) ⟨hx, hb, hml, hown, hts⟩ (k_wAsk_2 l D k A a z G p0 p1 p2 hv_0_0 hv_0_1 hv_6_4) (cwV 3 hts (gd_V hgd m953 m955 m31 m117 m956) rfl rfl rfl hd_X11_canAsk ⟨Nat.le_of_ble_eq_true rfl, Nat.le_of_ble_eq_true rfl⟩) (pre_W hW hB_G hK hZ hS kd_0 rfl) rfl rfl hl.1 rfl (lv_room (Nat.le_of_ble_eq_true rfl)) dX11_evenest_4 ⟨Nat.le_of_ble_eq_true rfl, Nat.le_of_ble_eq_true rfl⟩) hS (fun r_1 G_2 H locs hpo hW hS => ?_)
  have hX_5 : P_wAsk_2 p0 p1 p2 G r_1 G_2 := hpo
  obtain ⟨hB_G_2, hq_3, f_6, hp_4, -⟩ := hpo
  have hF := hF.call9 hq_3 rfl rfl
  refine lv_if_eq (tgt := 21) hx hb dX11_evenest_7 rfl (fun c_7 => ?_) (fun c_7 => ?_)
  · have c_7 : r_1.toInt = 0 := xI_eq rfl rfl c_7
    refine ic_m1 hx hb dX11_evenest_21 ?_
    exact W.iret (v := (-1)) hx hb hr (fun t ht _ => ⟨⟨(-1), G_2, rfl, (P_Wevenest_2_mk ⟨hB_G_2, hF, ⟨r_1, G_2, hX_5, (Or.inl ⟨c_7, ⟨rfl, rfl⟩⟩)⟩⟩), wd_t ht hW⟩, hS.F ht⟩) hS.2.2 dX11_evenest_22
  · have c_7 : r_1.toInt ≠ 0 := xI_ne rfl rfl c_7
    refine lv_iload hx hb dX11_evenest_10 (lv_at hl 4 rfl) ?_
    refine lv_if_lt (tgt := 21) hx hb dX11_evenest_12 rfl (fun c_8 => ?_) (fun c_8 => ?_)
    · have c_8 : p3.toInt < 0 := xI_lt rfl rfl c_8
      refine ic_m1 hx hb dX11_evenest_21 ?_
      exact W.iret (v := (-1)) hx hb hr (fun t ht _ => ⟨⟨(-1), G_2, rfl, (P_Wevenest_2_mk ⟨hB_G_2, hF, ⟨r_1, G_2, hX_5, (Or.inr ⟨c_7, (Or.inl ⟨c_8, ⟨rfl, rfl⟩⟩)⟩)⟩⟩), wd_t ht hW⟩, hS.F ht⟩) hS.2.2 dX11_evenest_22
    · have c_8 : 0 ≤ p3.toInt := xI_nlt rfl rfl c_8
      refine lv_iload hx hb dX11_evenest_15 (lv_at hl 4 rfl) ?_
      refine ic_1 hx hb dX11_evenest_17 ?_
      refine lv_icmp_le (tgt := 23) hx hb dX11_evenest_18 rfl (fun c_9 => ?_) (fun c_9 => ?_)
      · have c_9 : p3.toInt ≤ 1 := xI_le rfl rfl c_9
        refine lv_aload_n hx hb dX11_evenest_23 rfl (lv_at hl 0 rfl) ?_
        refine lv_iload_n hx hb dX11_evenest_24 rfl (lv_at hl 1 rfl) ?_
        refine lv_iload_n hx hb dX11_evenest_25 rfl (lv_at hl 2 rfl) ?_
        refine lv_iload_n hx hb dX11_evenest_26 rfl (lv_at hl 3 rfl) ?_
        have b_10 : 0 ≤ (G.1 2 10).toInt ∧ (G.1 2 10).toInt ≤ 4 := bd_2_10 hB_G
        have g_11 : (G_2.1 2 10).toInt = (G.1 2 10).toInt := (congrArg Int32.toInt (show G_2.1 2 10 = (G.1 2 10) from (hq_3.i9 2 10 rfl rfl)))
        refine S_callv (va_runV (As := [.int p0, .int p1, .int p2]) (rest := []) ⟨hx, hb, hml, hown, hts⟩ (k_wPrep_2 l D k A a z G_2 p0 p1 p2 ⟨(by first | exact ok_531 f_6.1 f_6.2 hp_4 c_7 | omega), (by first | exact ok_532 f_6.1 f_6.2 hp_4 c_7 | omega)⟩ ⟨(by first | exact ok_533 f_6.1 f_6.2 hp_4 c_7 | omega), (by first | exact ok_534 f_6.1 f_6.2 hp_4 c_7 | omega)⟩ (((hq_3.r9 0 0 rfl rfl)).trans (hv_0_0)) (((hq_3.r9 0 1 rfl rfl)).trans (hv_0_1)) (((hq_3.r9 6 4 rfl rfl)).trans (hv_6_4)) ((by first | exact ok_536 f_6.1 f_6.2 hp_4 c_7 g_11 | omega))) (cwV 3 hts (gd_V hgd m975 m977 m32 m117 m978) rfl rfl rfl hd_X11_prepare ⟨Nat.le_of_ble_eq_true rfl, Nat.le_of_ble_eq_true rfl⟩) (pre_W hW hB_G_2 hK hZ hS kd_0 rfl) rfl rfl hl.1 rfl (lv_room (Nat.le_of_ble_eq_true rfl)) dX11_evenest_27 ⟨Nat.le_of_ble_eq_true rfl, Nat.le_of_ble_eq_true rfl⟩) hS (fun G_13 H locs hpo hW hS => ?_)
        have hX_16 : P_wPrep_2 p0 p1 p2 G_2 G_13 := hpo
        obtain ⟨hB_G_13, hq_14, hp_15, -⟩ := hpo
        have hF := hF.call9 hq_14 rfl rfl
        refine lv_aload_n hx hb dX11_evenest_30 rfl (lv_at hl 0 rfl) ?_
        refine S_getR (n := 8) (C := RX11) (T := TX11) (N := 13) hx hb hg iX11 hown hK hW kd_0 rfl 6 (lt_b rfl) (hg (Cond.fieldLink RX11 51 "SlabWalk" "trails" "LSlabWalk$Trails;") m576) (fun _ h9 => h9) rfl dX11_evenest_31 ?_
        refine lv_aload_n hx hb dX11_evenest_34 rfl (lv_at hl 0 rfl) ?_
        refine S_getR (n := 7) (C := RX11) (T := TX11) (N := 13) hx hb hg iX11 hown hK hW kd_0 rfl 5 (lt_b rfl) (hg (Cond.fieldLink RX11 44 "SlabWalk" "course" "LSlabWalk$Course;") m575) (fun _ h9 => h9) rfl dX11_evenest_35 ?_
        refine lv_iload hx hb dX11_evenest_38 (lv_at hl 4 rfl) ?_
        have b_17 : 0 ≤ (G_13.1 7 3).toInt ∧ (G_13.1 7 3).toInt ≤ 60 := bd_7_3 hB_G_13
        have b_18 : 0 ≤ (G_13.1 7 4).toInt ∧ (G_13.1 7 4).toInt ≤ 60 := bd_7_4 hB_G_13
        have b_19 : (-1) ≤ (G_13.1 7 6).toInt ∧ (G_13.1 7 6).toInt ≤ 400 := bd_7_6 hB_G_13
        have b_20 : 0 ≤ (G_13.1 7 7).toInt ∧ (G_13.1 7 7).toInt ≤ 400 := bd_7_7 hB_G_13
        refine S_calli (va_runV (As := [.ref (a 7), .int p3]) (rest := []) ⟨hx, hb, hml, hown, hts⟩ (k_tMost l D k A a z G_13 p3 ((by first | exact ⟨(by first | exact hp_15.1 | omega), ⟨(by first | exact hp_15.2.1 | omega), (by first | exact hp_15.2.2 | omega)⟩⟩ | omega))) (cwV 2 hts (gd_V hgd m1040 m1041 m1042 m124 m1043) rfl rfl rfl hd_X10_mostEven ⟨Nat.le_of_ble_eq_true rfl, Nat.le_of_ble_eq_true rfl⟩) (pre_W hW hB_G_13 hK hZ hS kd_8 rfl) rfl rfl hl.1 rfl (lv_room (Nat.le_of_ble_eq_true rfl)) dX11_evenest_40 ⟨Nat.le_of_ble_eq_true rfl, Nat.le_of_ble_eq_true rfl⟩) hS (fun r_21 G_22 H locs hpo hW hS => ?_)
        have hX_25 : P_tMost p3 G_13 r_21 G_22 := hpo
        obtain ⟨hB_G_22, hq_23, -⟩ := hpo
        have hF := hF.call9 hq_23 rfl rfl
        exact W.iret (v := r_21) hx hb hr (fun t ht _ => ⟨⟨r_21, G_22, rfl, (P_Wevenest_2_mk ⟨hB_G_22, hF, ⟨r_1, G_2, hX_5, (Or.inr ⟨c_7, (Or.inr ⟨c_8, (Or.inl ⟨c_9, ⟨G_13, hX_16, ⟨r_21, G_22, hX_25, ⟨rfl, rfl⟩⟩⟩⟩)⟩)⟩)⟩⟩), wd_t ht hW⟩, hS.F ht⟩) hS.2.2 dX11_evenest_43
      · have c_9 : 1 < p3.toInt := xI_nle rfl rfl c_9
        refine ic_m1 hx hb dX11_evenest_21 ?_
        exact W.iret (v := (-1)) hx hb hr (fun t ht _ => ⟨⟨(-1), G_2, rfl, (P_Wevenest_2_mk ⟨hB_G_2, hF, ⟨r_1, G_2, hX_5, (Or.inr ⟨c_7, (Or.inr ⟨c_8, (Or.inr ⟨c_9, ⟨rfl, rfl⟩⟩)⟩)⟩)⟩⟩), wd_t ht hW⟩, hS.F ht⟩) hS.2.2 dX11_evenest_22

set_option maxHeartbeats 4000000 in
set_option maxRecDepth 100000 in
theorem k_Weven_2 (l : Launch) (D : va_G) (k : KT) (A : Nat → Prop) (a : Nat → Nat) (z : SK) (G : GS) (p0 : Int32) (p1 : Int32) (p2 : Int32) (p3 : Int32) (p4 : Int32) (hv_0_0 : G.2.2 0 0 = 2) (hv_0_1 : G.2.2 0 1 = 1) (hv_6_4 : G.2.2 6 4 = 2) : Met l yX11_even (WS yX11_even cX11_even 8 (some .int)) ({ frames := 5, cells := 0, slots := 0, locals := 119 }) (va_Pc [.ref (a 0), .int p0, .int p1, .int p2, .int p3, .int p4] (cW D k A a z G)) (va_Qi (fun (r : Int32) (G1 : GS) => P_Weven_2 p0 p1 p2 p3 p4 G r G1) (fun (G1 : GS) t => Wd D k A a G1 t.heap) A) 0 0 A := by
  refine Met.ofW (cc := cX11_even) (maxL := 8) (ret := (some .int)) (by decide) rfl ?_
  intro p e s m args below meth c s₁ B hml hv
  obtain ⟨rfl, hW, hB_G, hK, hZ⟩ := hv
  have hx := B.exec
  have hb := B.bytes
  have hr := B.returns
  have hts := atoms_spec (ws := WS yX11_even cX11_even 8 (some .int)) B.pre
  have hgd : ∀ w ∈ gd, w ∈ WS yX11_even cX11_even 8 (some .int) := fun w h => List.mem_cons_of_mem _ h
  have hg : ∀ w ∈ gd, w.before _ s = true := fun w h => hts w (hgd w h)
  have hown : s.vm.findClass RX11 = some m.cls := findClass_of_methodNamed B.named
  have hS : va_S A s.heap s.heap [] := va_S.rf
  have hF : Fr [37, 38, 39, 40] [(6, 3), (7, 1), (7, 2), (7, 3), (7, 4), (7, 5), (7, 6), (7, 7)] G G := Fr.rf
  have hl := lv_entry ([.ref (a 0), .int p0, .int p1, .int p2, .int p3, .int p4]) (n := 8) (Nat.le_of_ble_eq_true rfl)
  rw [lg_entry_eq]
  generalize (lg_sl ([.ref (a 0), .int p0, .int p1, .int p2, .int p3, .int p4]) ++ List.replicate (8 - (lg_sl ([.ref (a 0), .int p0, .int p1, .int p2, .int p3, .int p4])).length) Slot.unset).toArray = ls at hl ⊢
  have hl : lv_has ls 8 [(0, .ref (a 0)), (1, .int p0), (2, .int p1), (3, .int p2), (4, .int p3), (5, .int p4)] := hl
  refine lv_aload_n hx hb dX11_even_0 rfl (lv_at hl 0 rfl) ?_
  refine lv_iload_n hx hb dX11_even_1 rfl (lv_at hl 1 rfl) ?_
  refine lv_iload_n hx hb dX11_even_2 rfl (lv_at hl 2 rfl) ?_
  refine lv_iload_n hx hb dX11_even_3 rfl (lv_at hl 3 rfl) ?_
  refine S_calli (va_runV (As := [.int p0, .int p1, .int p2]) (rest := []) ⟨hx, hb, hml, hown, hts⟩ (k_wAsk_2 l D k A a z G p0 p1 p2 hv_0_0 hv_0_1 hv_6_4) (cwV 3 hts (gd_V hgd m953 m955 m31 m117 m956) rfl rfl rfl hd_X11_canAsk ⟨Nat.le_of_ble_eq_true rfl, Nat.le_of_ble_eq_true rfl⟩) (pre_W hW hB_G hK hZ hS kd_0 rfl) rfl rfl hl.1 rfl (lv_room (Nat.le_of_ble_eq_true rfl)) dX11_even_4 ⟨Nat.le_of_ble_eq_true rfl, Nat.le_of_ble_eq_true rfl⟩) hS (fun r_1 G_2 H locs hpo hW hS => ?_)
  have hX_5 : P_wAsk_2 p0 p1 p2 G r_1 G_2 := hpo
  obtain ⟨hB_G_2, hq_3, f_6, hp_4, -⟩ := hpo
  have hF := hF.call9 hq_3 rfl rfl
  refine lv_if_eq (tgt := 36) hx hb dX11_even_7 rfl (fun c_7 => ?_) (fun c_7 => ?_)
  · have c_7 : r_1.toInt = 0 := xI_eq rfl rfl c_7
    refine ic_m1 hx hb dX11_even_36 ?_
    exact W.iret (v := (-1)) hx hb hr (fun t ht _ => ⟨⟨(-1), G_2, rfl, (P_Weven_2_mk ⟨hB_G_2, hF, ⟨r_1, G_2, hX_5, (Or.inl ⟨c_7, ⟨rfl, rfl⟩⟩)⟩⟩), wd_t ht hW⟩, hS.F ht⟩) hS.2.2 dX11_even_37
  · have c_7 : r_1.toInt ≠ 0 := xI_ne rfl rfl c_7
    refine lv_aload_n hx hb dX11_even_10 rfl (lv_at hl 0 rfl) ?_
    refine S_getV (n := 2) (C := RX11) (T := TX11) (N := 13) hx hb hg iX11 hown hK hW kd_0 rfl 0 (lt_b rfl) (hg (Cond.fieldLink RX11 10 "SlabWalk" "paving" "LSlabWalk$Paving;") m570) (fun _ h9 => h9) rfl (((hq_3.r9 0 0 rfl rfl)).trans (hv_0_0)) dX11_even_11 ?_
    refine lv_iload_n hx hb dX11_even_14 rfl (lv_at hl 2 rfl) ?_
    refine lv_iload hx hb dX11_even_15 (lv_at hl 4 rfl) ?_
    refine S_calli (va_runV (As := [.int p1, .int p3]) (rest := []) ⟨hx, hb, hml, hown, hts⟩ (k_hasInch_2 l D k A a z G_2 p1 p3 ) (cwV 2 hts (gd_V hgd m882 m883 m884 m118 m885) rfl rfl rfl hd_X6_hasInch ⟨Nat.le_of_ble_eq_true rfl, Nat.le_of_ble_eq_true rfl⟩) (pre_W hW hB_G_2 hK hZ hS kd_2 rfl) rfl rfl hl.1 rfl (lv_room (Nat.le_of_ble_eq_true rfl)) dX11_even_17 ⟨Nat.le_of_ble_eq_true rfl, Nat.le_of_ble_eq_true rfl⟩) hS (fun r_8 G_9 H locs hpo hW hS => ?_)
    have hX_12 : P_hasInch_2 p1 p3 G_2 r_8 G_9 := hpo
    obtain ⟨hB_G_9, hq_10, f_13, hp_11, -⟩ := hpo
    have hF := hF.call9 hq_10 rfl rfl
    refine lv_if_eq (tgt := 36) hx hb dX11_even_20 rfl (fun c_14 => ?_) (fun c_14 => ?_)
    · have c_14 : r_8.toInt = 0 := xI_eq rfl rfl c_14
      refine ic_m1 hx hb dX11_even_36 ?_
      exact W.iret (v := (-1)) hx hb hr (fun t ht _ => ⟨⟨(-1), G_9, rfl, (P_Weven_2_mk ⟨hB_G_9, hF, ⟨r_1, G_2, hX_5, (Or.inr ⟨c_7, ⟨r_8, G_9, hX_12, (Or.inl ⟨c_14, ⟨rfl, rfl⟩⟩)⟩⟩)⟩⟩), wd_t ht hW⟩, hS.F ht⟩) hS.2.2 dX11_even_37
    · have c_14 : r_8.toInt ≠ 0 := xI_ne rfl rfl c_14
      refine lv_iload hx hb dX11_even_23 (lv_at hl 5 rfl) ?_
      refine ic_1 hx hb dX11_even_25 ?_
      refine lv_icmp_lt (tgt := 36) hx hb dX11_even_26 rfl (fun c_15 => ?_) (fun c_15 => ?_)
      · have c_15 : p4.toInt < 1 := xI_lt rfl rfl c_15
        refine ic_m1 hx hb dX11_even_36 ?_
        exact W.iret (v := (-1)) hx hb hr (fun t ht _ => ⟨⟨(-1), G_9, rfl, (P_Weven_2_mk ⟨hB_G_9, hF, ⟨r_1, G_2, hX_5, (Or.inr ⟨c_7, ⟨r_8, G_9, hX_12, (Or.inr ⟨c_14, (Or.inl ⟨c_15, ⟨rfl, rfl⟩⟩)⟩)⟩⟩)⟩⟩), wd_t ht hW⟩, hS.F ht⟩) hS.2.2 dX11_even_37
      · have c_15 : 1 ≤ p4.toInt := xI_nlt rfl rfl c_15
        refine lv_iload hx hb dX11_even_29 (lv_at hl 5 rfl) ?_
        refine lv_bipush (v := 99) hx hb dX11_even_31 (by decide) ?_
        refine lv_icmp_le (tgt := 38) hx hb dX11_even_33 rfl (fun c_16 => ?_) (fun c_16 => ?_)
        · have c_16 : p4.toInt ≤ 99 := xI_le rfl rfl c_16
          refine lv_aload_n hx hb dX11_even_38 rfl (lv_at hl 0 rfl) ?_
          refine lv_iload_n hx hb dX11_even_39 rfl (lv_at hl 1 rfl) ?_
          refine lv_iload_n hx hb dX11_even_40 rfl (lv_at hl 2 rfl) ?_
          refine lv_iload_n hx hb dX11_even_41 rfl (lv_at hl 3 rfl) ?_
          have b_17 : 0 ≤ (G.1 2 10).toInt ∧ (G.1 2 10).toInt ≤ 4 := bd_2_10 hB_G
          have g_18 : (G_9.1 2 10).toInt = (G.1 2 10).toInt := (congrArg Int32.toInt (show G_9.1 2 10 = (G.1 2 10) from ((hq_10.i9 2 10 rfl rfl).trans (hq_3.i9 2 10 rfl rfl))))
          refine S_callv (va_runV (As := [.int p0, .int p1, .int p2]) (rest := []) ⟨hx, hb, hml, hown, hts⟩ (k_wPrep_2 l D k A a z G_9 p0 p1 p2 ⟨(by first | exact ok_531 f_6.1 f_6.2 hp_4 c_7 | omega), (by first | exact ok_532 f_6.1 f_6.2 hp_4 c_7 | omega)⟩ ⟨(by first | exact ok_533 f_6.1 f_6.2 hp_4 c_7 | omega), (by first | exact ok_534 f_6.1 f_6.2 hp_4 c_7 | omega)⟩ ((((hq_10.r9 0 0 rfl rfl).trans (hq_3.r9 0 0 rfl rfl))).trans (hv_0_0)) ((((hq_10.r9 0 1 rfl rfl).trans (hq_3.r9 0 1 rfl rfl))).trans (hv_0_1)) ((((hq_10.r9 6 4 rfl rfl).trans (hq_3.r9 6 4 rfl rfl))).trans (hv_6_4)) ((by first | exact ok_536 f_6.1 f_6.2 hp_4 c_7 g_18 | omega))) (cwV 3 hts (gd_V hgd m975 m977 m32 m117 m978) rfl rfl rfl hd_X11_prepare ⟨Nat.le_of_ble_eq_true rfl, Nat.le_of_ble_eq_true rfl⟩) (pre_W hW hB_G_9 hK hZ hS kd_0 rfl) rfl rfl hl.1 rfl (lv_room (Nat.le_of_ble_eq_true rfl)) dX11_even_42 ⟨Nat.le_of_ble_eq_true rfl, Nat.le_of_ble_eq_true rfl⟩) hS (fun G_20 H locs hpo hW hS => ?_)
          have hX_23 : P_wPrep_2 p0 p1 p2 G_9 G_20 := hpo
          obtain ⟨hB_G_20, hq_21, hp_22, -⟩ := hpo
          have hF := hF.call9 hq_21 rfl rfl
          refine ic_0 hx hb dX11_even_45 ?_
          refine lv_istore (lv' := [(6, .int 0), (0, .ref (a 0)), (1, .int p0), (2, .int p1), (3, .int p2), (4, .int p3), (5, .int p4)]) hx hb dX11_even_46 hl (lt_b rfl) rfl (fun ls hl => ?_)
          refine lv_iload hx hb dX11_even_48 (lv_at hl 5 rfl) ?_
          refine lv_istore (lv' := [(7, .int p3), (6, .int 0), (0, .ref (a 0)), (1, .int p0), (2, .int p1), (3, .int p2), (4, .int p3), (5, .int p4)]) hx hb dX11_even_50 hl (lt_b rfl) rfl (fun ls hl => ?_)
          have qc_31 : (0 : Int32).toInt = 0 := rfl
          refine loop_N (Inv := fun n H locs ls => ∃ (G_24 : GS) (x_28 : Int32) (x_29 : Int32), (n : Int) = 498 - x_28.toInt ∧ (0 ≤ x_28.toInt ∧ x_28.toInt ≤ 498) ∧ (0 ≤ x_29.toInt ∧ x_29.toInt ≤ 498) ∧ (x_29.toInt ≤ x_28.toInt) ∧ Rc (St_k_Weven_2_1 p4 G_20) (p3, 0, G_20) (x_28, x_29, G_24) ∧ Wd D k A a G_24 H ∧ Bd G_24 ∧ Fr [37, 38, 39, 40] [(6, 3), (7, 1), (7, 2), (7, 3), (7, 4), (7, 5), (7, 6), (7, 7)] G G_24 ∧ Fr [] [] G_20 G_24 ∧ va_S A s.heap H locs ∧ lv_has ls 8 [(7, .int x_28), (6, .int x_29), (0, .ref (a 0)), (5, .int p4)]) (fun n_27 H locs ls ih_26 hI => ?_) (498 - p3.toInt : Int).toNat ⟨G_20, p3, 0, (Int.toNat_of_nonneg ((by first | exact ok_537 f_13.1 f_13.2 hp_11 c_14 | omega))), ⟨(by first | exact ok_538 f_13.1 f_13.2 hp_11 c_14 | omega), (by first | exact ok_539 f_13.1 f_13.2 hp_11 c_14 | omega)⟩, ⟨(by decide), (by decide)⟩, ((by first | exact ok_538 f_13.1 f_13.2 hp_11 c_14 | omega)), Rc.rf, hW, hB_G_20, hF, Fr.rf, hS, lv_sub hl [0, 1, 2, 7] rfl⟩
          obtain ⟨G_24, x_28, x_29, hn_35, f_32, f_33, f_34, hX_30, hW, hB_G_24, hF, hq_25, hS, hl⟩ := hI
          refine lv_iload hx hb dX11_even_52 (lv_at hl 0 rfl) ?_
          refine lv_aload_n hx hb dX11_even_54 rfl (lv_at hl 2 rfl) ?_
          refine S_getR (n := 7) (C := RX11) (T := TX11) (N := 13) hx hb hg iX11 hown hK hW kd_0 rfl 5 (lt_b rfl) (hg (Cond.fieldLink RX11 44 "SlabWalk" "course" "LSlabWalk$Course;") m575) (fun _ h9 => h9) rfl dX11_even_55 ?_
          have b_36 : (-1) ≤ (G_20.1 7 6).toInt ∧ (G_20.1 7 6).toInt ≤ 400 := bd_7_6 hB_G_20
          refine S_getI (v := (G_20.1 7 6)) (C := RX0) (T := TX0) (N := 8) hx hb hg iX0 hown hK hW kd_7 rfl 6 (lt_b rfl) (hg (Cond.fieldLink RX11 174 "SlabWalk$Course" "last" "I") m391) (fun _ h9 => h9) rfl (hq_25.i9 7 6 rfl rfl) dX11_even_58 ?_
          refine lv_icmp_gt (tgt := 90) hx hb dX11_even_61 rfl (fun c_37 => ?_) (fun c_37 => ?_)
          · have c_37 : (G_20.1 7 6).toInt < x_28.toInt := xI_lt rfl rfl c_37
            refine lv_iload hx hb dX11_even_90 (lv_at hl 1 rfl) ?_
            exact W.iret (v := x_29) hx hb hr (fun t ht _ => ⟨⟨x_29, G_24, rfl, (P_Weven_2_mk ⟨hB_G_24, hF, ⟨r_1, G_2, hX_5, (Or.inr ⟨c_7, ⟨r_8, G_9, hX_12, (Or.inr ⟨c_14, (Or.inr ⟨c_15, (Or.inl ⟨c_16, ⟨G_20, hX_23, ⟨x_28, x_29, G_24, hX_30, f_32, f_33, f_34, hB_G_24, hq_25, (Or.inl ⟨c_37, ⟨rfl, rfl⟩⟩)⟩⟩⟩)⟩)⟩)⟩⟩)⟩⟩), wd_t ht hW⟩, hS.F ht⟩) hS.2.2 dX11_even_92
          · have c_37 : x_28.toInt ≤ (G_20.1 7 6).toInt := xI_nlt rfl rfl c_37
            refine lv_aload_n hx hb dX11_even_64 rfl (lv_at hl 2 rfl) ?_
            refine S_getR (n := 7) (C := RX11) (T := TX11) (N := 13) hx hb hg iX11 hown hK hW kd_0 rfl 5 (lt_b rfl) (hg (Cond.fieldLink RX11 44 "SlabWalk" "course" "LSlabWalk$Course;") m575) (fun _ h9 => h9) rfl dX11_even_65 ?_
            refine S_getR (n := 40) (C := RX0) (T := TX0) (N := 8) hx hb hg iX0 hown hK hW kd_7 rfl 0 (lt_b rfl) (hg (Cond.fieldLink RX11 177 "SlabWalk$Course" "lawful" "[Z") m374) (fun _ h9 => h9) rfl dX11_even_68 ?_
            refine lv_iload hx hb dX11_even_71 (lv_at hl 0 rfl) ?_
            refine S_zald hx hb hK hW kd_40 (vin ((by first | exact f_32.1 | omega)) ((by first | exact ok_540 hp_22.1 f_32.2 c_37 | omega))) dX11_even_73 (fun y_38 ey_38 => ?_)
            have ty_38 : 0 ≤ y_38.toInt ∧ y_38.toInt ≤ 1 := bv_40 hB_G_24 ey_38
            refine lv_if_eq (tgt := 90) hx hb dX11_even_74 rfl (fun c_39 => ?_) (fun c_39 => ?_)
            · have c_39 : y_38.toInt = 0 := xI_eq rfl rfl c_39
              refine lv_iload hx hb dX11_even_90 (lv_at hl 1 rfl) ?_
              exact W.iret (v := x_29) hx hb hr (fun t ht _ => ⟨⟨x_29, G_24, rfl, (P_Weven_2_mk ⟨hB_G_24, hF, ⟨r_1, G_2, hX_5, (Or.inr ⟨c_7, ⟨r_8, G_9, hX_12, (Or.inr ⟨c_14, (Or.inr ⟨c_15, (Or.inl ⟨c_16, ⟨G_20, hX_23, ⟨x_28, x_29, G_24, hX_30, f_32, f_33, f_34, hB_G_24, hq_25, (Or.inr ⟨c_37, ⟨y_38, ey_38, ⟨c_39, ⟨rfl, rfl⟩⟩⟩⟩)⟩⟩⟩)⟩)⟩)⟩⟩)⟩⟩), wd_t ht hW⟩, hS.F ht⟩) hS.2.2 dX11_even_92
            · have c_39 : y_38.toInt ≠ 0 := xI_ne rfl rfl c_39
              obtain ⟨y_40, ey_40⟩ : ∃ q, q = x_29 + 1 := ⟨_, rfl⟩
              have ty_40 : y_40.toInt = x_29.toInt + 1 := xI_add rfl rfl ey_40 ((by first | exact ok_21 f_33.1 | omega)) ((by first | exact ok_541 f_33.2 | omega))
              refine lv_iinc (v := y_40) (lv' := [(6, .int y_40), (7, .int x_28), (0, .ref (a 0)), (5, .int p4)]) hx hb dX11_even_77 hl (k := 1) rfl (by rw [ey_40]; rfl) (lt_b rfl) rfl (fun ls hl => ?_)
              refine lv_iload hx hb dX11_even_80 (lv_at hl 1 rfl) ?_
              refine lv_iload hx hb dX11_even_82 (lv_at hl 3 rfl) ?_
              refine lv_iadd hx hb dX11_even_84 ?_
              refine lv_topi (fun y_41 ey_41 => ?_)
              have ty_41 : y_41.toInt = x_28.toInt + p4.toInt := xI_add rfl rfl ey_41 ((by first | exact ok_542 c_15 f_32.1 | omega)) ((by first | exact ok_543 c_16 f_32.2 | omega))
              refine lv_istore (lv' := [(7, .int y_41), (6, .int y_40), (0, .ref (a 0)), (5, .int p4)]) hx hb dX11_even_85 hl (lt_b rfl) rfl (fun ls hl => ?_)
              refine lv_goto (tgt := 52) hx hb dX11_even_87 rfl ?_
              exact ih_26 (498 - y_41.toInt : Int).toNat ((by first | (clear f_6 hp_4 c_7 f_13 hp_11 c_14 b_17 g_18 ty_38 c_39; omega) | omega)) _ _ _ ⟨G_24, y_41, y_40, (Int.toNat_of_nonneg ((by first | exact ok_544 c_16 hp_22.1 f_32.2 c_37 ty_41 | omega))), ⟨(by first | exact ok_545 c_15 f_32.1 ty_41 | omega), (by first | exact ok_546 c_16 hp_22.1 f_32.2 c_37 ty_41 | omega)⟩, ⟨(by first | exact ok_23 f_33.1 ty_40 | omega), (by first | exact ok_547 hp_22.1 f_33.2 f_34 c_37 ty_40 | omega)⟩, ((by first | exact ok_548 c_15 f_34 ty_40 ty_41 | omega)), (hX_30.st (St_k_Weven_2_1_mk ⟨x_28, x_29, G_24, y_41, y_40, G_24, rfl, rfl, f_32, f_33, f_34, hB_G_24, ⟨c_37, ⟨y_38, ey_38, ⟨c_39, ⟨y_40, ty_40, ⟨y_41, ty_41, ⟨rfl, rfl, rfl⟩⟩⟩⟩⟩⟩⟩)), hW, hB_G_24, hF, (Fr.call9 (rs := []) (fs := []) Fr.rf hq_25 rfl rfl), hS, lv_sub hl [0, 1, 2, 3] rfl⟩
        · have c_16 : 99 < p4.toInt := xI_nle rfl rfl c_16
          refine ic_m1 hx hb dX11_even_36 ?_
          exact W.iret (v := (-1)) hx hb hr (fun t ht _ => ⟨⟨(-1), G_9, rfl, (P_Weven_2_mk ⟨hB_G_9, hF, ⟨r_1, G_2, hX_5, (Or.inr ⟨c_7, ⟨r_8, G_9, hX_12, (Or.inr ⟨c_14, (Or.inr ⟨c_15, (Or.inr ⟨c_16, ⟨rfl, rfl⟩⟩)⟩)⟩)⟩⟩)⟩⟩), wd_t ht hW⟩, hS.F ht⟩) hS.2.2 dX11_even_37

set_option maxHeartbeats 4000000 in
set_option maxRecDepth 100000 in
theorem k_Wevens_2 (l : Launch) (D : va_G) (k : KT) (A : Nat → Prop) (a : Nat → Nat) (z : SK) (G : GS) (p0 : Int32) (p1 : Int32) (p2 : Int32) (hv_0_0 : G.2.2 0 0 = 2) (hv_0_1 : G.2.2 0 1 = 1) (hv_6_4 : G.2.2 6 4 = 2) : Met l yX11_evens (WS yX11_evens cX11_evens 5 (some .int)) ({ frames := 5, cells := 0, slots := 0, locals := 119 }) (va_Pc [.ref (a 0), .int p0, .int p1, .int p2] (cW D k A a z G)) (va_Qi (fun (r : Int32) (G1 : GS) => P_Wevens_2 p0 p1 p2 G r G1) (fun (G1 : GS) t => Wd D k A a G1 t.heap) A) 0 0 A := by
  refine Met.ofW (cc := cX11_evens) (maxL := 5) (ret := (some .int)) (by decide) rfl ?_
  intro p e s m args below meth c s₁ B hml hv
  obtain ⟨rfl, hW, hB_G, hK, hZ⟩ := hv
  have hx := B.exec
  have hb := B.bytes
  have hr := B.returns
  have hts := atoms_spec (ws := WS yX11_evens cX11_evens 5 (some .int)) B.pre
  have hgd : ∀ w ∈ gd, w ∈ WS yX11_evens cX11_evens 5 (some .int) := fun w h => List.mem_cons_of_mem _ h
  have hg : ∀ w ∈ gd, w.before _ s = true := fun w h => hts w (hgd w h)
  have hown : s.vm.findClass RX11 = some m.cls := findClass_of_methodNamed B.named
  have hS : va_S A s.heap s.heap [] := va_S.rf
  have hF : Fr [33, 37, 38, 39, 40, 42] [(0, 12), (6, 3), (7, 1), (7, 2), (7, 3), (7, 4), (7, 5), (7, 6), (7, 7)] G G := Fr.rf
  have hl := lv_entry ([.ref (a 0), .int p0, .int p1, .int p2]) (n := 5) (Nat.le_of_ble_eq_true rfl)
  rw [lg_entry_eq]
  generalize (lg_sl ([.ref (a 0), .int p0, .int p1, .int p2]) ++ List.replicate (5 - (lg_sl ([.ref (a 0), .int p0, .int p1, .int p2])).length) Slot.unset).toArray = ls at hl ⊢
  have hl : lv_has ls 5 [(0, .ref (a 0)), (1, .int p0), (2, .int p1), (3, .int p2)] := hl
  refine lv_aload_n hx hb dX11_evens_0 rfl (lv_at hl 0 rfl) ?_
  refine ic_0 hx hb dX11_evens_1 ?_
  refine S_putI (ty := .int) (C := RX11) (T := TX11) (N := 13) hx hb hg iX11 tyX11 tyX11_ok nmX11 hown hK hW hS kd_0 rfl 12 (lt_b rfl) (hg (Cond.fieldLink RX11 150 "SlabWalk" "lie" "I") m582) (fun _ h9 => h9) rfl (by decide +kernel) rfl rfl rfl dX11_evens_2 (fun G_1 H locs eG_1 hW hS => ?_)
  have hB_G_1 : Bd G_1 := hB_G.put (V := 0) (lo := 0) (hi := 400) eG_1 rfl rfl rfl (by decide) (by decide) (hB_G.2.put eG_1 rfl)
  have hF := hF.put eG_1 (Or.inr (by decide))
  refine lv_aload_n hx hb dX11_evens_5 rfl (lv_at hl 0 rfl) ?_
  refine lv_iload_n hx hb dX11_evens_6 rfl (lv_at hl 1 rfl) ?_
  refine lv_iload_n hx hb dX11_evens_7 rfl (lv_at hl 2 rfl) ?_
  refine lv_iload_n hx hb dX11_evens_8 rfl (lv_at hl 3 rfl) ?_
  have b_2 : 0 ≤ (G.1 2 10).toInt ∧ (G.1 2 10).toInt ≤ 4 := bd_2_10 hB_G
  have g_3 : (G_1.1 2 10).toInt = (G.1 2 10).toInt := (congrArg Int32.toInt (show G_1.1 2 10 = (G.1 2 10) from (gp_ne eG_1 (by decide))))
  refine S_calli (va_runV (As := [.int p0, .int p1, .int p2]) (rest := []) ⟨hx, hb, hml, hown, hts⟩ (k_wAsk_2 l D k A a z G_1 p0 p1 p2 (((congrFun (congrFun (congrArg (fun q => q.2.2) eG_1) 0) 0)).trans (hv_0_0)) (((congrFun (congrFun (congrArg (fun q => q.2.2) eG_1) 0) 1)).trans (hv_0_1)) (((congrFun (congrFun (congrArg (fun q => q.2.2) eG_1) 6) 4)).trans (hv_6_4))) (cwV 3 hts (gd_V hgd m953 m955 m31 m117 m956) rfl rfl rfl hd_X11_canAsk ⟨Nat.le_of_ble_eq_true rfl, Nat.le_of_ble_eq_true rfl⟩) (pre_W hW hB_G_1 hK hZ hS kd_0 rfl) rfl rfl hl.1 rfl (lv_room (Nat.le_of_ble_eq_true rfl)) dX11_evens_9 ⟨Nat.le_of_ble_eq_true rfl, Nat.le_of_ble_eq_true rfl⟩) hS (fun r_4 G_5 H locs hpo hW hS => ?_)
  have hX_8 : P_wAsk_2 p0 p1 p2 G_1 r_4 G_5 := hpo
  obtain ⟨hB_G_5, hq_6, f_9, hp_7, -⟩ := hpo
  have hF := hF.call9 hq_6 rfl rfl
  refine lv_if_ne (tgt := 17) hx hb dX11_evens_12 rfl (fun c_10 => ?_) (fun c_10 => ?_)
  · have c_10 : r_4.toInt ≠ 0 := xI_ne rfl rfl c_10
    refine lv_aload_n hx hb dX11_evens_17 rfl (lv_at hl 0 rfl) ?_
    refine lv_iload_n hx hb dX11_evens_18 rfl (lv_at hl 1 rfl) ?_
    refine lv_iload_n hx hb dX11_evens_19 rfl (lv_at hl 2 rfl) ?_
    refine lv_iload_n hx hb dX11_evens_20 rfl (lv_at hl 3 rfl) ?_
    have g_11 : (G_5.1 2 10).toInt = (G.1 2 10).toInt := (congrArg Int32.toInt (show G_5.1 2 10 = (G.1 2 10) from ((hq_6.i9 2 10 rfl rfl).trans ((gp_ne eG_1 (by decide)).trans (rfl)))))
    refine S_callv (va_runV (As := [.int p0, .int p1, .int p2]) (rest := []) ⟨hx, hb, hml, hown, hts⟩ (k_wPrep_2 l D k A a z G_5 p0 p1 p2 ⟨(by first | exact ok_531 f_9.1 f_9.2 hp_7 c_10 | omega), (by first | exact ok_532 f_9.1 f_9.2 hp_7 c_10 | omega)⟩ ⟨(by first | exact ok_533 f_9.1 f_9.2 hp_7 c_10 | omega), (by first | exact ok_534 f_9.1 f_9.2 hp_7 c_10 | omega)⟩ ((((hq_6.r9 0 0 rfl rfl).trans (congrFun (congrFun (congrArg (fun q => q.2.2) eG_1) 0) 0))).trans (hv_0_0)) ((((hq_6.r9 0 1 rfl rfl).trans (congrFun (congrFun (congrArg (fun q => q.2.2) eG_1) 0) 1))).trans (hv_0_1)) ((((hq_6.r9 6 4 rfl rfl).trans (congrFun (congrFun (congrArg (fun q => q.2.2) eG_1) 6) 4))).trans (hv_6_4)) ((by first | exact ok_535 g_3 f_9.1 f_9.2 hp_7 c_10 g_11 | omega))) (cwV 3 hts (gd_V hgd m975 m977 m32 m117 m978) rfl rfl rfl hd_X11_prepare ⟨Nat.le_of_ble_eq_true rfl, Nat.le_of_ble_eq_true rfl⟩) (pre_W hW hB_G_5 hK hZ hS kd_0 rfl) rfl rfl hl.1 rfl (lv_room (Nat.le_of_ble_eq_true rfl)) dX11_evens_21 ⟨Nat.le_of_ble_eq_true rfl, Nat.le_of_ble_eq_true rfl⟩) hS (fun G_13 H locs hpo hW hS => ?_)
    have hX_16 : P_wPrep_2 p0 p1 p2 G_5 G_13 := hpo
    obtain ⟨hB_G_13, hq_14, hp_15, -⟩ := hpo
    have hF := hF.call9 hq_14 rfl rfl
    refine lv_aload_n hx hb dX11_evens_24 rfl (lv_at hl 0 rfl) ?_
    refine S_getR (n := 7) (C := RX11) (T := TX11) (N := 13) hx hb hg iX11 hown hK hW kd_0 rfl 5 (lt_b rfl) (hg (Cond.fieldLink RX11 44 "SlabWalk" "course" "LSlabWalk$Course;") m575) (fun _ h9 => h9) rfl dX11_evens_25 ?_
    have b_17 : 0 ≤ (G_13.1 7 3).toInt ∧ (G_13.1 7 3).toInt ≤ 60 := bd_7_3 hB_G_13
    refine S_getI (v := (G_13.1 7 3)) (C := RX0) (T := TX0) (N := 8) hx hb hg iX0 hown hK hW kd_7 rfl 3 (lt_b rfl) (hg (Cond.fieldLink RX11 181 "SlabWalk$Course" "least" "I") m380) (fun _ h9 => h9) rfl rfl dX11_evens_28 ?_
    refine lv_istore (lv' := [(4, .int (G_13.1 7 3)), (0, .ref (a 0)), (1, .int p0), (2, .int p1), (3, .int p2)]) hx hb dX11_evens_31 hl (lt_b rfl) rfl (fun ls hl => ?_)
    refine loop_N (Inv := fun n H locs ls => ∃ (G_18 : GS) (x_22 : Int32), (n : Int) = 61 - x_22.toInt ∧ (0 ≤ x_22.toInt ∧ x_22.toInt ≤ 61) ∧ Rc (St_k_Wevens_2_1 G_13) ((G_13.1 7 3), G_13) (x_22, G_18) ∧ Wd D k A a G_18 H ∧ Bd G_18 ∧ Fr [33, 37, 38, 39, 40, 42] [(0, 12), (6, 3), (7, 1), (7, 2), (7, 3), (7, 4), (7, 5), (7, 6), (7, 7)] G G_18 ∧ Fr [33, 42] [(0, 12)] G_13 G_18 ∧ va_S A s.heap H locs ∧ lv_has ls 5 [(4, .int x_22), (0, .ref (a 0))]) (fun n_21 H locs ls ih_20 hI => ?_) (61 - (G_13.1 7 3).toInt : Int).toNat ⟨G_13, (G_13.1 7 3), (Int.toNat_of_nonneg ((by first | exact ok_337 b_17.2 | omega))), ⟨(by first | exact b_17.1 | omega), (by first | exact ok_338 b_17.2 | omega)⟩, Rc.rf, hW, hB_G_13, hF, Fr.rf, hS, lv_sub hl [0, 1] rfl⟩
    obtain ⟨G_18, x_22, hn_25, f_24, hX_23, hW, hB_G_18, hF, hq_19, hS, hl⟩ := hI
    refine lv_iload hx hb dX11_evens_33 (lv_at hl 0 rfl) ?_
    refine lv_aload_n hx hb dX11_evens_35 rfl (lv_at hl 1 rfl) ?_
    refine S_getR (n := 7) (C := RX11) (T := TX11) (N := 13) hx hb hg iX11 hown hK hW kd_0 rfl 5 (lt_b rfl) (hg (Cond.fieldLink RX11 44 "SlabWalk" "course" "LSlabWalk$Course;") m575) (fun _ h9 => h9) rfl dX11_evens_36 ?_
    have b_26 : 0 ≤ (G_13.1 7 4).toInt ∧ (G_13.1 7 4).toInt ≤ 60 := bd_7_4 hB_G_13
    refine S_getI (v := (G_13.1 7 4)) (C := RX0) (T := TX0) (N := 8) hx hb hg iX0 hown hK hW kd_7 rfl 4 (lt_b rfl) (hg (Cond.fieldLink RX11 184 "SlabWalk$Course" "most" "I") m384) (fun _ h9 => h9) rfl (hq_19.i9 7 4 rfl rfl) dX11_evens_39 ?_
    refine lv_icmp_gt (tgt := 73) hx hb dX11_evens_42 rfl (fun c_27 => ?_) (fun c_27 => ?_)
    · have c_27 : (G_13.1 7 4).toInt < x_22.toInt := xI_lt rfl rfl c_27
      refine lv_aload_n hx hb dX11_evens_73 rfl (lv_at hl 1 rfl) ?_
      have b_28 : 0 ≤ (G_18.1 0 12).toInt ∧ (G_18.1 0 12).toInt ≤ 400 := bd_0_12 hB_G_18
      refine S_getI (v := (G_18.1 0 12)) (C := RX11) (T := TX11) (N := 13) hx hb hg iX11 hown hK hW kd_0 rfl 12 (lt_b rfl) (hg (Cond.fieldLink RX11 150 "SlabWalk" "lie" "I") m582) (fun _ h9 => h9) rfl rfl dX11_evens_74 ?_
      exact W.iret (v := (G_18.1 0 12)) hx hb hr (fun t ht _ => ⟨⟨(G_18.1 0 12), G_18, rfl, (P_Wevens_2_mk ⟨hB_G_18, hF, ⟨G_1, hB_G_1, (Fr.put (rs := []) (fs := [(0, 12)]) Fr.rf eG_1 (Or.inr (by decide))), (gp_eq eG_1), ⟨r_4, G_5, hX_8, (Or.inr ⟨c_10, ⟨G_13, hX_16, ⟨x_22, G_18, hX_23, f_24, hB_G_18, hq_19, ⟨c_27, ⟨rfl, rfl⟩⟩⟩⟩⟩)⟩⟩⟩), wd_t ht hW⟩, hS.F ht⟩) hS.2.2 dX11_evens_77
    · have c_27 : x_22.toInt ≤ (G_13.1 7 4).toInt := xI_nlt rfl rfl c_27
      refine lv_aload_n hx hb dX11_evens_45 rfl (lv_at hl 1 rfl) ?_
      refine S_getR (n := 8) (C := RX11) (T := TX11) (N := 13) hx hb hg iX11 hown hK hW kd_0 rfl 6 (lt_b rfl) (hg (Cond.fieldLink RX11 51 "SlabWalk" "trails" "LSlabWalk$Trails;") m576) (fun _ h9 => h9) rfl dX11_evens_46 ?_
      refine lv_aload_n hx hb dX11_evens_49 rfl (lv_at hl 1 rfl) ?_
      refine S_getR (n := 7) (C := RX11) (T := TX11) (N := 13) hx hb hg iX11 hown hK hW kd_0 rfl 5 (lt_b rfl) (hg (Cond.fieldLink RX11 44 "SlabWalk" "course" "LSlabWalk$Course;") m575) (fun _ h9 => h9) rfl dX11_evens_50 ?_
      refine lv_iload hx hb dX11_evens_53 (lv_at hl 0 rfl) ?_
      have g_29 : (G_18.1 7 3).toInt = (G_13.1 7 3).toInt := (congrArg Int32.toInt (show G_18.1 7 3 = (G_13.1 7 3) from ((hq_19.i9 7 3 rfl rfl).trans (rfl))))
      have g_30 : (G_18.1 7 4).toInt = (G_13.1 7 4).toInt := (congrArg Int32.toInt (show G_18.1 7 4 = (G_13.1 7 4) from ((hq_19.i9 7 4 rfl rfl).trans (rfl))))
      have b_31 : (-1) ≤ (G_13.1 7 6).toInt ∧ (G_13.1 7 6).toInt ≤ 400 := bd_7_6 hB_G_13
      have g_32 : (G_18.1 7 6).toInt = (G_13.1 7 6).toInt := (congrArg Int32.toInt (show G_18.1 7 6 = (G_13.1 7 6) from (hq_19.i9 7 6 rfl rfl)))
      have b_33 : 0 ≤ (G_13.1 7 7).toInt ∧ (G_13.1 7 7).toInt ≤ 400 := bd_7_7 hB_G_13
      have g_34 : (G_18.1 7 7).toInt = (G_13.1 7 7).toInt := (congrArg Int32.toInt (show G_18.1 7 7 = (G_13.1 7 7) from (hq_19.i9 7 7 rfl rfl)))
      have g_35 : (G_18.1 7 4).toInt = (G_13.1 7 4).toInt := (congrArg Int32.toInt (show G_18.1 7 4 = (G_13.1 7 4) from ((hq_19.i9 7 4 rfl rfl).trans (rfl))))
      refine S_calli (va_runV (As := [.ref (a 7), .int x_22]) (rest := []) ⟨hx, hb, hml, hown, hts⟩ (k_tEvenly l D k A a z G_18 x_22 ⟨(by first | exact f_24.1 | omega), (by first | exact ok_549 f_24.2 b_26.2 c_27 | omega)⟩ ((by first | exact ⟨(by first | exact ok_235 hp_15.1 g_32 | omega), ⟨(by first | exact ok_185 hp_15.2.1 g_29 g_30 | omega), (by first | exact ok_236 hp_15.2.2 g_30 g_32 g_34 | omega)⟩⟩ | omega)) ((by first | exact ok_347 c_27 g_30 | omega))) (cwV 2 hts (gd_V hgd m1057 m1058 m1059 m124 m1060) rfl rfl rfl hd_X10_comesEvenly ⟨Nat.le_of_ble_eq_true rfl, Nat.le_of_ble_eq_true rfl⟩) (pre_W hW hB_G_18 hK hZ hS kd_8 rfl) rfl rfl hl.1 rfl (lv_room (Nat.le_of_ble_eq_true rfl)) dX11_evens_55 ⟨Nat.le_of_ble_eq_true rfl, Nat.le_of_ble_eq_true rfl⟩) hS (fun r_36 G_37 H locs hpo hW hS => ?_)
      have hX_40 : P_tEvenly x_22 G_18 r_36 G_37 := hpo
      obtain ⟨hB_G_37, hq_38, f_41, -⟩ := hpo
      have hF := hF.call9 hq_38 rfl rfl
      refine lv_if_eq (tgt := 67) hx hb dX11_evens_58 rfl (fun c_42 => ?_) (fun c_42 => ?_)
      · have c_42 : r_36.toInt = 0 := xI_eq rfl rfl c_42
        obtain ⟨y_43, ey_43⟩ : ∃ q, q = x_22 + 1 := ⟨_, rfl⟩
        have ty_43 : y_43.toInt = x_22.toInt + 1 := xI_add rfl rfl ey_43 ((by first | exact ok_21 f_24.1 | omega)) ((by first | exact ok_256 f_24.2 | omega))
        refine lv_iinc (v := y_43) (lv' := [(4, .int y_43), (0, .ref (a 0))]) hx hb dX11_evens_67 hl (k := 0) rfl (by rw [ey_43]; rfl) (lt_b rfl) rfl (fun ls hl => ?_)
        refine lv_goto (tgt := 33) hx hb dX11_evens_70 rfl ?_
        exact ih_20 (61 - y_43.toInt : Int).toNat ((by first | (clear b_2 g_3 f_9 hp_7 c_10 g_11 b_17 b_31 b_33 f_41 c_42; omega) | omega)) _ _ _ ⟨G_37, y_43, (Int.toNat_of_nonneg ((by first | exact ok_550 f_24.2 b_26.2 c_27 ty_43 | omega))), ⟨(by first | exact ok_23 f_24.1 ty_43 | omega), (by first | exact ok_551 f_24.2 b_26.2 c_27 ty_43 | omega)⟩, (hX_23.st (St_k_Wevens_2_1_mk ⟨x_22, G_18, y_43, G_37, rfl, rfl, f_24, hB_G_18, ⟨c_27, ⟨r_36, G_37, hX_40, (Or.inl ⟨c_42, ⟨y_43, ty_43, ⟨rfl, rfl⟩⟩⟩)⟩⟩⟩)), hW, hB_G_37, hF, (Fr.call9 (rs := [33, 42]) (fs := [(0, 12)]) (Fr.call9 (rs := [33, 42]) (fs := [(0, 12)]) Fr.rf hq_19 rfl rfl) hq_38 rfl rfl), hS, lv_sub hl [0, 1] rfl⟩
      · have c_42 : r_36.toInt ≠ 0 := xI_ne rfl rfl c_42
        refine lv_aload_n hx hb dX11_evens_61 rfl (lv_at hl 1 rfl) ?_
        refine lv_iload hx hb dX11_evens_62 (lv_at hl 0 rfl) ?_
        refine S_callv (va_runV (As := [.int x_22]) (rest := []) ⟨hx, hb, hml, hown, hts⟩ (k_wLay l D k A a z G_37 x_22 ) (cwV 1 hts (gd_V hgd m1061 m1063 m36 m117 m1064) rfl rfl rfl hd_X11_layDown ⟨Nat.le_of_ble_eq_true rfl, Nat.le_of_ble_eq_true rfl⟩) (pre_W hW hB_G_37 hK hZ hS kd_0 rfl) rfl rfl hl.1 rfl (lv_room (Nat.le_of_ble_eq_true rfl)) dX11_evens_64 ⟨Nat.le_of_ble_eq_true rfl, Nat.le_of_ble_eq_true rfl⟩) hS (fun G_45 H locs hpo hW hS => ?_)
        have hX_48 : P_wLay x_22 G_37 G_45 := hpo
        obtain ⟨hB_G_45, hq_46, -⟩ := hpo
        have hF := hF.call9 hq_46 rfl rfl
        obtain ⟨y_49, ey_49⟩ : ∃ q, q = x_22 + 1 := ⟨_, rfl⟩
        have ty_49 : y_49.toInt = x_22.toInt + 1 := xI_add rfl rfl ey_49 ((by first | exact ok_21 f_24.1 | omega)) ((by first | exact ok_256 f_24.2 | omega))
        refine lv_iinc (v := y_49) (lv' := [(4, .int y_49), (0, .ref (a 0))]) hx hb dX11_evens_67 hl (k := 0) rfl (by rw [ey_49]; rfl) (lt_b rfl) rfl (fun ls hl => ?_)
        refine lv_goto (tgt := 33) hx hb dX11_evens_70 rfl ?_
        exact ih_20 (61 - y_49.toInt : Int).toNat ((by first | (clear b_2 g_3 f_9 hp_7 c_10 g_11 b_17 b_31 b_33 f_41 c_42; omega) | omega)) _ _ _ ⟨G_45, y_49, (Int.toNat_of_nonneg ((by first | exact ok_550 f_24.2 b_26.2 c_27 ty_49 | omega))), ⟨(by first | exact ok_23 f_24.1 ty_49 | omega), (by first | exact ok_551 f_24.2 b_26.2 c_27 ty_49 | omega)⟩, (hX_23.st (St_k_Wevens_2_1_mk ⟨x_22, G_18, y_49, G_45, rfl, rfl, f_24, hB_G_18, ⟨c_27, ⟨r_36, G_37, hX_40, (Or.inr ⟨c_42, ⟨G_45, hX_48, ⟨y_49, ty_49, ⟨rfl, rfl⟩⟩⟩⟩)⟩⟩⟩)), hW, hB_G_45, hF, (Fr.call9 (rs := [33, 42]) (fs := [(0, 12)]) (Fr.call9 (rs := [33, 42]) (fs := [(0, 12)]) (Fr.call9 (rs := [33, 42]) (fs := [(0, 12)]) Fr.rf hq_19 rfl rfl) hq_38 rfl rfl) hq_46 rfl rfl), hS, lv_sub hl [0, 1] rfl⟩
  · have c_10 : r_4.toInt = 0 := xI_eq rfl rfl c_10
    refine ic_m1 hx hb dX11_evens_15 ?_
    exact W.iret (v := (-1)) hx hb hr (fun t ht _ => ⟨⟨(-1), G_5, rfl, (P_Wevens_2_mk ⟨hB_G_5, hF, ⟨G_1, hB_G_1, (Fr.put (rs := []) (fs := [(0, 12)]) Fr.rf eG_1 (Or.inr (by decide))), (gp_eq eG_1), ⟨r_4, G_5, hX_8, (Or.inl ⟨c_10, ⟨rfl, rfl⟩⟩)⟩⟩⟩), wd_t ht hW⟩, hS.F ht⟩) hS.2.2 dX11_evens_16

set_option maxHeartbeats 4000000 in
set_option maxRecDepth 100000 in
theorem k_Wkeeps_2 (l : Launch) (D : va_G) (k : KT) (A : Nat → Prop) (a : Nat → Nat) (z : SK) (G : GS) (p0 : Int32) (p1 : Int32) (p2 : Int32) (hv_0_0 : G.2.2 0 0 = 2) (hv_0_1 : G.2.2 0 1 = 1) (hv_6_4 : G.2.2 6 4 = 2) : Met l yX11_keeps (WS yX11_keeps cX11_keeps 4 (some .int)) ({ frames := 5, cells := 0, slots := 0, locals := 119 }) (va_Pc [.ref (a 0), .int p0, .int p1, .int p2] (cW D k A a z G)) (va_Qi (fun (r : Int32) (G1 : GS) => P_Wkeeps_2 p0 p1 p2 G r G1) (fun (G1 : GS) t => Wd D k A a G1 t.heap) A) 0 0 A := by
  refine Met.ofW (cc := cX11_keeps) (maxL := 4) (ret := (some .int)) (by decide) rfl ?_
  intro p e s m args below meth c s₁ B hml hv
  obtain ⟨rfl, hW, hB_G, hK, hZ⟩ := hv
  have hx := B.exec
  have hb := B.bytes
  have hr := B.returns
  have hts := atoms_spec (ws := WS yX11_keeps cX11_keeps 4 (some .int)) B.pre
  have hgd : ∀ w ∈ gd, w ∈ WS yX11_keeps cX11_keeps 4 (some .int) := fun w h => List.mem_cons_of_mem _ h
  have hg : ∀ w ∈ gd, w.before _ s = true := fun w h => hts w (hgd w h)
  have hown : s.vm.findClass RX11 = some m.cls := findClass_of_methodNamed B.named
  have hS : va_S A s.heap s.heap [] := va_S.rf
  have hF : Fr [37, 38, 39, 40, 42, 43, 44, 45, 48, 49, 50, 51] [(6, 3), (7, 1), (7, 2), (7, 3), (7, 4), (7, 5), (7, 6), (7, 7), (9, 2), (9, 3), (19, 2), (19, 3)] G G := Fr.rf
  have hl := lv_entry ([.ref (a 0), .int p0, .int p1, .int p2]) (n := 4) (Nat.le_of_ble_eq_true rfl)
  rw [lg_entry_eq]
  generalize (lg_sl ([.ref (a 0), .int p0, .int p1, .int p2]) ++ List.replicate (4 - (lg_sl ([.ref (a 0), .int p0, .int p1, .int p2])).length) Slot.unset).toArray = ls at hl ⊢
  have hl : lv_has ls 4 [(0, .ref (a 0)), (1, .int p0), (2, .int p1), (3, .int p2)] := hl
  refine lv_aload_n hx hb dX11_keeps_0 rfl (lv_at hl 0 rfl) ?_
  refine lv_iload_n hx hb dX11_keeps_1 rfl (lv_at hl 1 rfl) ?_
  refine lv_iload_n hx hb dX11_keeps_2 rfl (lv_at hl 2 rfl) ?_
  refine lv_iload_n hx hb dX11_keeps_3 rfl (lv_at hl 3 rfl) ?_
  refine S_calli (va_runV (As := [.int p0, .int p1, .int p2]) (rest := []) ⟨hx, hb, hml, hown, hts⟩ (k_wAsk_2 l D k A a z G p0 p1 p2 hv_0_0 hv_0_1 hv_6_4) (cwV 3 hts (gd_V hgd m953 m955 m31 m117 m956) rfl rfl rfl hd_X11_canAsk ⟨Nat.le_of_ble_eq_true rfl, Nat.le_of_ble_eq_true rfl⟩) (pre_W hW hB_G hK hZ hS kd_0 rfl) rfl rfl hl.1 rfl (lv_room (Nat.le_of_ble_eq_true rfl)) dX11_keeps_4 ⟨Nat.le_of_ble_eq_true rfl, Nat.le_of_ble_eq_true rfl⟩) hS (fun r_1 G_2 H locs hpo hW hS => ?_)
  have hX_5 : P_wAsk_2 p0 p1 p2 G r_1 G_2 := hpo
  obtain ⟨hB_G_2, hq_3, f_6, hp_4, -⟩ := hpo
  have hF := hF.call9 hq_3 rfl rfl
  refine lv_if_ne (tgt := 12) hx hb dX11_keeps_7 rfl (fun c_7 => ?_) (fun c_7 => ?_)
  · have c_7 : r_1.toInt ≠ 0 := xI_ne rfl rfl c_7
    refine lv_aload_n hx hb dX11_keeps_12 rfl (lv_at hl 0 rfl) ?_
    refine lv_iload_n hx hb dX11_keeps_13 rfl (lv_at hl 1 rfl) ?_
    refine lv_iload_n hx hb dX11_keeps_14 rfl (lv_at hl 2 rfl) ?_
    refine lv_iload_n hx hb dX11_keeps_15 rfl (lv_at hl 3 rfl) ?_
    have b_8 : 0 ≤ (G.1 2 10).toInt ∧ (G.1 2 10).toInt ≤ 4 := bd_2_10 hB_G
    have g_9 : (G_2.1 2 10).toInt = (G.1 2 10).toInt := (congrArg Int32.toInt (show G_2.1 2 10 = (G.1 2 10) from (hq_3.i9 2 10 rfl rfl)))
    refine S_callv (va_runV (As := [.int p0, .int p1, .int p2]) (rest := []) ⟨hx, hb, hml, hown, hts⟩ (k_wPrep_2 l D k A a z G_2 p0 p1 p2 ⟨(by first | exact ok_531 f_6.1 f_6.2 hp_4 c_7 | omega), (by first | exact ok_532 f_6.1 f_6.2 hp_4 c_7 | omega)⟩ ⟨(by first | exact ok_533 f_6.1 f_6.2 hp_4 c_7 | omega), (by first | exact ok_534 f_6.1 f_6.2 hp_4 c_7 | omega)⟩ (((hq_3.r9 0 0 rfl rfl)).trans (hv_0_0)) (((hq_3.r9 0 1 rfl rfl)).trans (hv_0_1)) (((hq_3.r9 6 4 rfl rfl)).trans (hv_6_4)) ((by first | exact ok_536 f_6.1 f_6.2 hp_4 c_7 g_9 | omega))) (cwV 3 hts (gd_V hgd m975 m977 m32 m117 m978) rfl rfl rfl hd_X11_prepare ⟨Nat.le_of_ble_eq_true rfl, Nat.le_of_ble_eq_true rfl⟩) (pre_W hW hB_G_2 hK hZ hS kd_0 rfl) rfl rfl hl.1 rfl (lv_room (Nat.le_of_ble_eq_true rfl)) dX11_keeps_16 ⟨Nat.le_of_ble_eq_true rfl, Nat.le_of_ble_eq_true rfl⟩) hS (fun G_11 H locs hpo hW hS => ?_)
    have hX_14 : P_wPrep_2 p0 p1 p2 G_2 G_11 := hpo
    obtain ⟨hB_G_11, hq_12, hp_13, -⟩ := hpo
    have hF := hF.call9 hq_12 rfl rfl
    refine lv_aload_n hx hb dX11_keeps_19 rfl (lv_at hl 0 rfl) ?_
    refine S_getR (n := 8) (C := RX11) (T := TX11) (N := 13) hx hb hg iX11 hown hK hW kd_0 rfl 6 (lt_b rfl) (hg (Cond.fieldLink RX11 51 "SlabWalk" "trails" "LSlabWalk$Trails;") m576) (fun _ h9 => h9) rfl dX11_keeps_20 ?_
    refine lv_aload_n hx hb dX11_keeps_23 rfl (lv_at hl 0 rfl) ?_
    refine S_getR (n := 7) (C := RX11) (T := TX11) (N := 13) hx hb hg iX11 hown hK hW kd_0 rfl 5 (lt_b rfl) (hg (Cond.fieldLink RX11 44 "SlabWalk" "course" "LSlabWalk$Course;") m575) (fun _ h9 => h9) rfl dX11_keeps_24 ?_
    refine lv_aload_n hx hb dX11_keeps_27 rfl (lv_at hl 0 rfl) ?_
    refine S_getV (n := 2) (C := RX11) (T := TX11) (N := 13) hx hb hg iX11 hown hK hW kd_0 rfl 0 (lt_b rfl) (hg (Cond.fieldLink RX11 10 "SlabWalk" "paving" "LSlabWalk$Paving;") m570) (fun _ h9 => h9) rfl ((((hq_12.r9 0 0 rfl rfl).trans (hq_3.r9 0 0 rfl rfl))).trans (hv_0_0)) dX11_keeps_28 ?_
    have b_15 : 0 ≤ (G.1 2 14).toInt ∧ (G.1 2 14).toInt ≤ 99 := bd_2_14 hB_G
    refine S_getI (v := (G.1 2 14)) (C := RX6) (T := TX6) (N := 17) hx hb hg iX6 hown hK hW kd_2 rfl 14 (lt_b rfl) (hg (Cond.fieldLink RX11 201 "SlabWalk$Paving" "hand" "I") m203) (fun _ h9 => h9) rfl ((hq_12.i9 2 14 rfl rfl).trans (hq_3.i9 2 14 rfl rfl)) dX11_keeps_31 ?_
    refine lv_aload_n hx hb dX11_keeps_34 rfl (lv_at hl 0 rfl) ?_
    refine S_getV (n := 2) (C := RX11) (T := TX11) (N := 13) hx hb hg iX11 hown hK hW kd_0 rfl 0 (lt_b rfl) (hg (Cond.fieldLink RX11 10 "SlabWalk" "paving" "LSlabWalk$Paving;") m570) (fun _ h9 => h9) rfl ((((hq_12.r9 0 0 rfl rfl).trans (hq_3.r9 0 0 rfl rfl))).trans (hv_0_0)) dX11_keeps_35 ?_
    have b_16 : 0 ≤ (G.1 2 15).toInt ∧ (G.1 2 15).toInt ≤ 99 := bd_2_15 hB_G
    refine S_getI (v := (G.1 2 15)) (C := RX6) (T := TX6) (N := 17) hx hb hg iX6 hown hK hW kd_2 rfl 15 (lt_b rfl) (hg (Cond.fieldLink RX11 204 "SlabWalk$Paving" "slack" "I") m206) (fun _ h9 => h9) rfl ((hq_12.i9 2 15 rfl rfl).trans (hq_3.i9 2 15 rfl rfl)) dX11_keeps_38 ?_
    have b_17 : 0 ≤ (G_11.1 7 3).toInt ∧ (G_11.1 7 3).toInt ≤ 60 := bd_7_3 hB_G_11
    have b_18 : 0 ≤ (G_11.1 7 4).toInt ∧ (G_11.1 7 4).toInt ≤ 60 := bd_7_4 hB_G_11
    have b_19 : (-1) ≤ (G_11.1 7 6).toInt ∧ (G_11.1 7 6).toInt ≤ 400 := bd_7_6 hB_G_11
    have b_20 : 0 ≤ (G_11.1 7 7).toInt ∧ (G_11.1 7 7).toInt ≤ 400 := bd_7_7 hB_G_11
    refine S_calli (va_runV (As := [.ref (a 7), .int (G.1 2 14), .int (G.1 2 15)]) (rest := []) ⟨hx, hb, hml, hown, hts⟩ (k_tLeaps l D k A a z G_11 (G.1 2 14) (G.1 2 15) ⟨(by first | exact b_15.1 | omega), (by first | exact b_15.2 | omega)⟩ ⟨(by first | exact b_16.1 | omega), (by first | exact b_16.2 | omega)⟩ ((by first | exact ⟨(by first | exact hp_13.1 | omega), ⟨(by first | exact hp_13.2.1 | omega), (by first | exact hp_13.2.2 | omega)⟩⟩ | omega))) (cwV 3 hts (gd_V hgd m1091 m1092 m1093 m124 m1094) rfl rfl rfl hd_X10_fewestLeaps ⟨Nat.le_of_ble_eq_true rfl, Nat.le_of_ble_eq_true rfl⟩) (pre_W hW hB_G_11 hK hZ hS kd_8 rfl) rfl rfl hl.1 rfl (lv_room (Nat.le_of_ble_eq_true rfl)) dX11_keeps_41 ⟨Nat.le_of_ble_eq_true rfl, Nat.le_of_ble_eq_true rfl⟩) hS (fun r_21 G_22 H locs hpo hW hS => ?_)
    have hX_25 : P_tLeaps (G.1 2 14) (G.1 2 15) G_11 r_21 G_22 := hpo
    obtain ⟨hB_G_22, hq_23, -⟩ := hpo
    have hF := hF.call9 hq_23 rfl rfl
    exact W.iret (v := r_21) hx hb hr (fun t ht _ => ⟨⟨r_21, G_22, rfl, (P_Wkeeps_2_mk ⟨hB_G_22, hF, ⟨r_1, G_2, hX_5, (Or.inr ⟨c_7, ⟨G_11, hX_14, ⟨r_21, G_22, hX_25, ⟨rfl, rfl⟩⟩⟩⟩)⟩⟩), wd_t ht hW⟩, hS.F ht⟩) hS.2.2 dX11_keeps_44
  · have c_7 : r_1.toInt = 0 := xI_eq rfl rfl c_7
    refine ic_m1 hx hb dX11_keeps_10 ?_
    exact W.iret (v := (-1)) hx hb hr (fun t ht _ => ⟨⟨(-1), G_2, rfl, (P_Wkeeps_2_mk ⟨hB_G_2, hF, ⟨r_1, G_2, hX_5, (Or.inl ⟨c_7, ⟨rfl, rfl⟩⟩)⟩⟩), wd_t ht hW⟩, hS.F ht⟩) hS.2.2 dX11_keeps_11

set_option maxHeartbeats 4000000 in
set_option maxRecDepth 100000 in
theorem k_Wbrave_2 (l : Launch) (D : va_G) (k : KT) (A : Nat → Prop) (a : Nat → Nat) (z : SK) (G : GS) (p0 : Int32) (p1 : Int32) (p2 : Int32) (p3 : Int32) (p4 : Int32) (hv_0_0 : G.2.2 0 0 = 2) (hv_0_1 : G.2.2 0 1 = 1) (hv_6_4 : G.2.2 6 4 = 2) : Met l yX11_brave (WS yX11_brave cX11_brave 6 (some .long)) ({ frames := 5, cells := 0, slots := 0, locals := 119 }) (va_Pc [.ref (a 0), .int p0, .int p1, .int p2, .int p3, .int p4] (cW D k A a z G)) (va_Ql (fun (r : Int64) (G1 : GS) => P_Wbrave_2 p0 p1 p2 p3 p4 G r G1) (fun (G1 : GS) t => Wd D k A a G1 t.heap) A) 0 0 A := by
  refine Met.ofW (cc := cX11_brave) (maxL := 6) (ret := (some .long)) (by decide) rfl ?_
  intro p e s m args below meth c s₁ B hml hv
  obtain ⟨rfl, hW, hB_G, hK, hZ⟩ := hv
  have hx := B.exec
  have hb := B.bytes
  have hr := B.returns
  have hts := atoms_spec (ws := WS yX11_brave cX11_brave 6 (some .long)) B.pre
  have hgd : ∀ w ∈ gd, w ∈ WS yX11_brave cX11_brave 6 (some .long) := fun w h => List.mem_cons_of_mem _ h
  have hg : ∀ w ∈ gd, w.before _ s = true := fun w h => hts w (hgd w h)
  have hown : s.vm.findClass RX11 = some m.cls := findClass_of_methodNamed B.named
  have hS : va_S A s.heap s.heap [] := va_S.rf
  have hF : Fr [37, 38, 39, 40, 56, 57] [(6, 3), (7, 1), (7, 2), (7, 3), (7, 4), (7, 5), (7, 6), (7, 7), (29, 6)] G G := Fr.rf
  have hl := lv_entry ([.ref (a 0), .int p0, .int p1, .int p2, .int p3, .int p4]) (n := 6) (Nat.le_of_ble_eq_true rfl)
  rw [lg_entry_eq]
  generalize (lg_sl ([.ref (a 0), .int p0, .int p1, .int p2, .int p3, .int p4]) ++ List.replicate (6 - (lg_sl ([.ref (a 0), .int p0, .int p1, .int p2, .int p3, .int p4])).length) Slot.unset).toArray = ls at hl ⊢
  have hl : lv_has ls 6 [(0, .ref (a 0)), (1, .int p0), (2, .int p1), (3, .int p2), (4, .int p3), (5, .int p4)] := hl
  refine lv_aload_n hx hb dX11_brave_0 rfl (lv_at hl 0 rfl) ?_
  refine lv_iload_n hx hb dX11_brave_1 rfl (lv_at hl 1 rfl) ?_
  refine lv_iload_n hx hb dX11_brave_2 rfl (lv_at hl 2 rfl) ?_
  refine lv_iload_n hx hb dX11_brave_3 rfl (lv_at hl 3 rfl) ?_
  refine lv_iload hx hb dX11_brave_4 (lv_at hl 4 rfl) ?_
  refine lv_iload hx hb dX11_brave_6 (lv_at hl 5 rfl) ?_
  refine S_calli (va_runV (As := [.int p0, .int p1, .int p2, .int p3, .int p4]) (rest := []) ⟨hx, hb, hml, hown, hts⟩ (k_wBrave_2 l D k A a z G p0 p1 p2 p3 p4 hv_0_0 hv_0_1 hv_6_4) (cwV 5 hts (gd_V hgd m1117 m1119 m38 m117 m1120) rfl rfl rfl hd_X11_canBeBrave ⟨Nat.le_of_ble_eq_true rfl, Nat.le_of_ble_eq_true rfl⟩) (pre_W hW hB_G hK hZ hS kd_0 rfl) rfl rfl hl.1 rfl (lv_room (Nat.le_of_ble_eq_true rfl)) dX11_brave_8 ⟨Nat.le_of_ble_eq_true rfl, Nat.le_of_ble_eq_true rfl⟩) hS (fun r_1 G_2 H locs hpo hW hS => ?_)
  have hX_5 : P_wBrave_2 p0 p1 p2 p3 p4 G r_1 G_2 := hpo
  obtain ⟨hB_G_2, hq_3, f_6, hp_4, -⟩ := hpo
  have hF := hF.call9 hq_3 rfl rfl
  refine lv_if_ne (tgt := 18) hx hb dX11_brave_11 rfl (fun c_7 => ?_) (fun c_7 => ?_)
  · have c_7 : r_1.toInt ≠ 0 := xI_ne rfl rfl c_7
    refine lv_aload_n hx hb dX11_brave_18 rfl (lv_at hl 0 rfl) ?_
    refine lv_iload_n hx hb dX11_brave_19 rfl (lv_at hl 1 rfl) ?_
    refine lv_iload_n hx hb dX11_brave_20 rfl (lv_at hl 2 rfl) ?_
    refine lv_iload_n hx hb dX11_brave_21 rfl (lv_at hl 3 rfl) ?_
    have b_8 : 0 ≤ (G.1 2 10).toInt ∧ (G.1 2 10).toInt ≤ 4 := bd_2_10 hB_G
    have g_9 : (G_2.1 2 10).toInt = (G.1 2 10).toInt := (congrArg Int32.toInt (show G_2.1 2 10 = (G.1 2 10) from (hq_3.i9 2 10 rfl rfl)))
    refine S_callv (va_runV (As := [.int p0, .int p1, .int p2]) (rest := []) ⟨hx, hb, hml, hown, hts⟩ (k_wPrep_2 l D k A a z G_2 p0 p1 p2 ⟨(by first | exact ok_552 f_6.1 f_6.2 hp_4 c_7 | omega), (by first | exact ok_553 f_6.1 f_6.2 hp_4 c_7 | omega)⟩ ⟨(by first | exact ok_554 f_6.1 f_6.2 hp_4 c_7 | omega), (by first | exact ok_555 f_6.1 f_6.2 hp_4 c_7 | omega)⟩ (((hq_3.r9 0 0 rfl rfl)).trans (hv_0_0)) (((hq_3.r9 0 1 rfl rfl)).trans (hv_0_1)) (((hq_3.r9 6 4 rfl rfl)).trans (hv_6_4)) ((by first | exact ok_556 f_6.1 f_6.2 hp_4 c_7 g_9 | omega))) (cwV 3 hts (gd_V hgd m975 m977 m32 m117 m978) rfl rfl rfl hd_X11_prepare ⟨Nat.le_of_ble_eq_true rfl, Nat.le_of_ble_eq_true rfl⟩) (pre_W hW hB_G_2 hK hZ hS kd_0 rfl) rfl rfl hl.1 rfl (lv_room (Nat.le_of_ble_eq_true rfl)) dX11_brave_22 ⟨Nat.le_of_ble_eq_true rfl, Nat.le_of_ble_eq_true rfl⟩) hS (fun G_11 H locs hpo hW hS => ?_)
    have hX_14 : P_wPrep_2 p0 p1 p2 G_2 G_11 := hpo
    obtain ⟨hB_G_11, hq_12, hp_13, -⟩ := hpo
    have hF := hF.call9 hq_12 rfl rfl
    refine lv_aload_n hx hb dX11_brave_25 rfl (lv_at hl 0 rfl) ?_
    refine S_getR (n := 29) (C := RX11) (T := TX11) (N := 13) hx hb hg iX11 hown hK hW kd_0 rfl 7 (lt_b rfl) (hg (Cond.fieldLink RX11 58 "SlabWalk" "odds" "LSlabWalk$Odds;") m577) (fun _ h9 => h9) rfl dX11_brave_26 ?_
    refine lv_aload_n hx hb dX11_brave_29 rfl (lv_at hl 0 rfl) ?_
    refine S_getR (n := 7) (C := RX11) (T := TX11) (N := 13) hx hb hg iX11 hown hK hW kd_0 rfl 5 (lt_b rfl) (hg (Cond.fieldLink RX11 44 "SlabWalk" "course" "LSlabWalk$Course;") m575) (fun _ h9 => h9) rfl dX11_brave_30 ?_
    refine lv_aload_n hx hb dX11_brave_33 rfl (lv_at hl 0 rfl) ?_
    refine S_getV (n := 2) (C := RX11) (T := TX11) (N := 13) hx hb hg iX11 hown hK hW kd_0 rfl 0 (lt_b rfl) (hg (Cond.fieldLink RX11 10 "SlabWalk" "paving" "LSlabWalk$Paving;") m570) (fun _ h9 => h9) rfl ((((hq_12.r9 0 0 rfl rfl).trans (hq_3.r9 0 0 rfl rfl))).trans (hv_0_0)) dX11_brave_34 ?_
    refine S_getR (n := 26) (C := RX6) (T := TX6) (N := 17) hx hb hg iX6 hown hK hW kd_2 rfl 6 (lt_b rfl) (hg (Cond.fieldLink RX11 215 "SlabWalk$Paving" "slip" "[I") m180) (fun _ h9 => h9) rfl dX11_brave_37 ?_
    refine lv_iload hx hb dX11_brave_40 (lv_at hl 4 rfl) ?_
    refine lv_iload hx hb dX11_brave_42 (lv_at hl 5 rfl) ?_
    have b_15 : 0 ≤ (G_11.1 7 3).toInt ∧ (G_11.1 7 3).toInt ≤ 60 := bd_7_3 hB_G_11
    have b_16 : 0 ≤ (G_11.1 7 4).toInt ∧ (G_11.1 7 4).toInt ≤ 60 := bd_7_4 hB_G_11
    have b_17 : (-1) ≤ (G_11.1 7 6).toInt ∧ (G_11.1 7 6).toInt ≤ 400 := bd_7_6 hB_G_11
    have b_18 : 0 ≤ (G_11.1 7 7).toInt ∧ (G_11.1 7 7).toInt ≤ 400 := bd_7_7 hB_G_11
    refine S_calll (va_runV (As := [.ref (a 7), .ref (a 26), .int p3, .int p4]) (rest := []) ⟨hx, hb, hml, hown, hts⟩ (k_oBrave_2 l D k A a z G_11 p3 p4 ⟨(by first | exact ok_557 f_6.1 f_6.2 hp_4 c_7 | omega), (by first | exact ok_558 f_6.1 f_6.2 hp_4 c_7 | omega)⟩ ⟨(by first | exact ok_559 f_6.1 f_6.2 hp_4 c_7 | omega), (by first | exact ok_560 f_6.1 f_6.2 hp_4 c_7 | omega)⟩ ((by first | exact ⟨(by first | exact hp_13.1 | omega), ⟨(by first | exact hp_13.2.1 | omega), (by first | exact hp_13.2.2 | omega)⟩⟩ | omega))) (cwV 4 hts (gd_V hgd m1122 m1123 m1124 m126 m1125) rfl rfl rfl hd_X5_bravest ⟨Nat.le_of_ble_eq_true rfl, Nat.le_of_ble_eq_true rfl⟩) (pre_W hW hB_G_11 hK hZ hS kd_29 rfl) rfl rfl hl.1 rfl (lv_room (Nat.le_of_ble_eq_true rfl)) dX11_brave_44 ⟨Nat.le_of_ble_eq_true rfl, Nat.le_of_ble_eq_true rfl⟩) hS (fun r_19 G_20 H locs hpo hW hS => ?_)
    have hX_23 : P_oBrave_2 p3 p4 G_11 r_19 G_20 := hpo
    obtain ⟨hB_G_20, hq_21, -⟩ := hpo
    have hF := hF.call9 hq_21 rfl rfl
    exact W.lret (v := r_19) hx hb hr (fun t ht _ => ⟨⟨r_19, G_20, rfl, (P_Wbrave_2_mk ⟨hB_G_20, hF, ⟨r_1, G_2, hX_5, (Or.inr ⟨c_7, ⟨G_11, hX_14, ⟨r_19, G_20, hX_23, ⟨rfl, rfl⟩⟩⟩⟩)⟩⟩), wd_t ht hW⟩, hS.F ht⟩) hS.2.2 dX11_brave_47
  · have c_7 : r_1.toInt = 0 := xI_eq rfl rfl c_7
    refine lv_ldc2 (v := (-1)) hx hb hown (hg (Cond.constantLong RX11 165 (-1)) m1018) dX11_brave_14 ?_
    exact W.lret (v := (-1)) hx hb hr (fun t ht _ => ⟨⟨(-1), G_2, rfl, (P_Wbrave_2_mk ⟨hB_G_2, hF, ⟨r_1, G_2, hX_5, (Or.inl ⟨c_7, ⟨rfl, rfl⟩⟩)⟩⟩), wd_t ht hW⟩, hS.F ht⟩) hS.2.2 dX11_brave_17

set_option maxHeartbeats 4000000 in
set_option maxRecDepth 100000 in
theorem k_Wboldest_2 (l : Launch) (D : va_G) (k : KT) (A : Nat → Prop) (a : Nat → Nat) (z : SK) (G : GS) (p0 : Int32) (p1 : Int32) (p2 : Int32) (p3 : Int32) (p4 : Int32) (hv_0_0 : G.2.2 0 0 = 2) (hv_0_1 : G.2.2 0 1 = 1) (hv_6_4 : G.2.2 6 4 = 2) : Met l yX11_boldest (WS yX11_boldest cX11_boldest 6 (some .int)) ({ frames := 5, cells := 0, slots := 0, locals := 119 }) (va_Pc [.ref (a 0), .int p0, .int p1, .int p2, .int p3, .int p4] (cW D k A a z G)) (va_Qi (fun (r : Int32) (G1 : GS) => P_Wboldest_2 p0 p1 p2 p3 p4 G r G1) (fun (G1 : GS) t => Wd D k A a G1 t.heap) A) 0 0 A := by
  refine Met.ofW (cc := cX11_boldest) (maxL := 6) (ret := (some .int)) (by decide) rfl ?_
  intro p e s m args below meth c s₁ B hml hv
  obtain ⟨rfl, hW, hB_G, hK, hZ⟩ := hv
  have hx := B.exec
  have hb := B.bytes
  have hr := B.returns
  have hts := atoms_spec (ws := WS yX11_boldest cX11_boldest 6 (some .int)) B.pre
  have hgd : ∀ w ∈ gd, w ∈ WS yX11_boldest cX11_boldest 6 (some .int) := fun w h => List.mem_cons_of_mem _ h
  have hg : ∀ w ∈ gd, w.before _ s = true := fun w h => hts w (hgd w h)
  have hown : s.vm.findClass RX11 = some m.cls := findClass_of_methodNamed B.named
  have hS : va_S A s.heap s.heap [] := va_S.rf
  have hF : Fr [37, 38, 39, 40, 56, 57] [(6, 3), (7, 1), (7, 2), (7, 3), (7, 4), (7, 5), (7, 6), (7, 7), (29, 6)] G G := Fr.rf
  have hl := lv_entry ([.ref (a 0), .int p0, .int p1, .int p2, .int p3, .int p4]) (n := 6) (Nat.le_of_ble_eq_true rfl)
  rw [lg_entry_eq]
  generalize (lg_sl ([.ref (a 0), .int p0, .int p1, .int p2, .int p3, .int p4]) ++ List.replicate (6 - (lg_sl ([.ref (a 0), .int p0, .int p1, .int p2, .int p3, .int p4])).length) Slot.unset).toArray = ls at hl ⊢
  have hl : lv_has ls 6 [(0, .ref (a 0)), (1, .int p0), (2, .int p1), (3, .int p2), (4, .int p3), (5, .int p4)] := hl
  refine lv_aload_n hx hb dX11_boldest_0 rfl (lv_at hl 0 rfl) ?_
  refine lv_iload_n hx hb dX11_boldest_1 rfl (lv_at hl 1 rfl) ?_
  refine lv_iload_n hx hb dX11_boldest_2 rfl (lv_at hl 2 rfl) ?_
  refine lv_iload_n hx hb dX11_boldest_3 rfl (lv_at hl 3 rfl) ?_
  refine lv_iload hx hb dX11_boldest_4 (lv_at hl 4 rfl) ?_
  refine lv_iload hx hb dX11_boldest_6 (lv_at hl 5 rfl) ?_
  refine S_calli (va_runV (As := [.int p0, .int p1, .int p2, .int p3, .int p4]) (rest := []) ⟨hx, hb, hml, hown, hts⟩ (k_wBrave_2 l D k A a z G p0 p1 p2 p3 p4 hv_0_0 hv_0_1 hv_6_4) (cwV 5 hts (gd_V hgd m1117 m1119 m38 m117 m1120) rfl rfl rfl hd_X11_canBeBrave ⟨Nat.le_of_ble_eq_true rfl, Nat.le_of_ble_eq_true rfl⟩) (pre_W hW hB_G hK hZ hS kd_0 rfl) rfl rfl hl.1 rfl (lv_room (Nat.le_of_ble_eq_true rfl)) dX11_boldest_8 ⟨Nat.le_of_ble_eq_true rfl, Nat.le_of_ble_eq_true rfl⟩) hS (fun r_1 G_2 H locs hpo hW hS => ?_)
  have hX_5 : P_wBrave_2 p0 p1 p2 p3 p4 G r_1 G_2 := hpo
  obtain ⟨hB_G_2, hq_3, f_6, hp_4, -⟩ := hpo
  have hF := hF.call9 hq_3 rfl rfl
  refine lv_if_ne (tgt := 16) hx hb dX11_boldest_11 rfl (fun c_7 => ?_) (fun c_7 => ?_)
  · have c_7 : r_1.toInt ≠ 0 := xI_ne rfl rfl c_7
    refine lv_aload_n hx hb dX11_boldest_16 rfl (lv_at hl 0 rfl) ?_
    refine lv_iload_n hx hb dX11_boldest_17 rfl (lv_at hl 1 rfl) ?_
    refine lv_iload_n hx hb dX11_boldest_18 rfl (lv_at hl 2 rfl) ?_
    refine lv_iload_n hx hb dX11_boldest_19 rfl (lv_at hl 3 rfl) ?_
    have b_8 : 0 ≤ (G.1 2 10).toInt ∧ (G.1 2 10).toInt ≤ 4 := bd_2_10 hB_G
    have g_9 : (G_2.1 2 10).toInt = (G.1 2 10).toInt := (congrArg Int32.toInt (show G_2.1 2 10 = (G.1 2 10) from (hq_3.i9 2 10 rfl rfl)))
    refine S_callv (va_runV (As := [.int p0, .int p1, .int p2]) (rest := []) ⟨hx, hb, hml, hown, hts⟩ (k_wPrep_2 l D k A a z G_2 p0 p1 p2 ⟨(by first | exact ok_552 f_6.1 f_6.2 hp_4 c_7 | omega), (by first | exact ok_553 f_6.1 f_6.2 hp_4 c_7 | omega)⟩ ⟨(by first | exact ok_554 f_6.1 f_6.2 hp_4 c_7 | omega), (by first | exact ok_555 f_6.1 f_6.2 hp_4 c_7 | omega)⟩ (((hq_3.r9 0 0 rfl rfl)).trans (hv_0_0)) (((hq_3.r9 0 1 rfl rfl)).trans (hv_0_1)) (((hq_3.r9 6 4 rfl rfl)).trans (hv_6_4)) ((by first | exact ok_556 f_6.1 f_6.2 hp_4 c_7 g_9 | omega))) (cwV 3 hts (gd_V hgd m975 m977 m32 m117 m978) rfl rfl rfl hd_X11_prepare ⟨Nat.le_of_ble_eq_true rfl, Nat.le_of_ble_eq_true rfl⟩) (pre_W hW hB_G_2 hK hZ hS kd_0 rfl) rfl rfl hl.1 rfl (lv_room (Nat.le_of_ble_eq_true rfl)) dX11_boldest_20 ⟨Nat.le_of_ble_eq_true rfl, Nat.le_of_ble_eq_true rfl⟩) hS (fun G_11 H locs hpo hW hS => ?_)
    have hX_14 : P_wPrep_2 p0 p1 p2 G_2 G_11 := hpo
    obtain ⟨hB_G_11, hq_12, hp_13, -⟩ := hpo
    have hF := hF.call9 hq_12 rfl rfl
    refine lv_aload_n hx hb dX11_boldest_23 rfl (lv_at hl 0 rfl) ?_
    refine S_getR (n := 29) (C := RX11) (T := TX11) (N := 13) hx hb hg iX11 hown hK hW kd_0 rfl 7 (lt_b rfl) (hg (Cond.fieldLink RX11 58 "SlabWalk" "odds" "LSlabWalk$Odds;") m577) (fun _ h9 => h9) rfl dX11_boldest_24 ?_
    refine lv_aload_n hx hb dX11_boldest_27 rfl (lv_at hl 0 rfl) ?_
    refine S_getR (n := 7) (C := RX11) (T := TX11) (N := 13) hx hb hg iX11 hown hK hW kd_0 rfl 5 (lt_b rfl) (hg (Cond.fieldLink RX11 44 "SlabWalk" "course" "LSlabWalk$Course;") m575) (fun _ h9 => h9) rfl dX11_boldest_28 ?_
    refine lv_aload_n hx hb dX11_boldest_31 rfl (lv_at hl 0 rfl) ?_
    refine S_getV (n := 2) (C := RX11) (T := TX11) (N := 13) hx hb hg iX11 hown hK hW kd_0 rfl 0 (lt_b rfl) (hg (Cond.fieldLink RX11 10 "SlabWalk" "paving" "LSlabWalk$Paving;") m570) (fun _ h9 => h9) rfl ((((hq_12.r9 0 0 rfl rfl).trans (hq_3.r9 0 0 rfl rfl))).trans (hv_0_0)) dX11_boldest_32 ?_
    refine S_getR (n := 26) (C := RX6) (T := TX6) (N := 17) hx hb hg iX6 hown hK hW kd_2 rfl 6 (lt_b rfl) (hg (Cond.fieldLink RX11 215 "SlabWalk$Paving" "slip" "[I") m180) (fun _ h9 => h9) rfl dX11_boldest_35 ?_
    refine lv_iload hx hb dX11_boldest_38 (lv_at hl 4 rfl) ?_
    refine lv_iload hx hb dX11_boldest_40 (lv_at hl 5 rfl) ?_
    have b_15 : 0 ≤ (G_11.1 7 3).toInt ∧ (G_11.1 7 3).toInt ≤ 60 := bd_7_3 hB_G_11
    have b_16 : 0 ≤ (G_11.1 7 4).toInt ∧ (G_11.1 7 4).toInt ≤ 60 := bd_7_4 hB_G_11
    have b_17 : (-1) ≤ (G_11.1 7 6).toInt ∧ (G_11.1 7 6).toInt ≤ 400 := bd_7_6 hB_G_11
    have b_18 : 0 ≤ (G_11.1 7 7).toInt ∧ (G_11.1 7 7).toInt ≤ 400 := bd_7_7 hB_G_11
    refine S_calll (va_runV (As := [.ref (a 7), .ref (a 26), .int p3, .int p4]) (rest := []) ⟨hx, hb, hml, hown, hts⟩ (k_oBrave_2 l D k A a z G_11 p3 p4 ⟨(by first | exact ok_557 f_6.1 f_6.2 hp_4 c_7 | omega), (by first | exact ok_558 f_6.1 f_6.2 hp_4 c_7 | omega)⟩ ⟨(by first | exact ok_559 f_6.1 f_6.2 hp_4 c_7 | omega), (by first | exact ok_560 f_6.1 f_6.2 hp_4 c_7 | omega)⟩ ((by first | exact ⟨(by first | exact hp_13.1 | omega), ⟨(by first | exact hp_13.2.1 | omega), (by first | exact hp_13.2.2 | omega)⟩⟩ | omega))) (cwV 4 hts (gd_V hgd m1122 m1123 m1124 m126 m1125) rfl rfl rfl hd_X5_bravest ⟨Nat.le_of_ble_eq_true rfl, Nat.le_of_ble_eq_true rfl⟩) (pre_W hW hB_G_11 hK hZ hS kd_29 rfl) rfl rfl hl.1 rfl (lv_room (Nat.le_of_ble_eq_true rfl)) dX11_boldest_42 ⟨Nat.le_of_ble_eq_true rfl, Nat.le_of_ble_eq_true rfl⟩) hS (fun r_19 G_20 H locs hpo hW hS => ?_)
    have hX_23 : P_oBrave_2 p3 p4 G_11 r_19 G_20 := hpo
    obtain ⟨hB_G_20, hq_21, -⟩ := hpo
    have hF := hF.call9 hq_21 rfl rfl
    refine lv_pop2_2 hx hb dX11_boldest_45 rfl ?_
    refine lv_aload_n hx hb dX11_boldest_46 rfl (lv_at hl 0 rfl) ?_
    refine S_getR (n := 29) (C := RX11) (T := TX11) (N := 13) hx hb hg iX11 hown hK hW kd_0 rfl 7 (lt_b rfl) (hg (Cond.fieldLink RX11 58 "SlabWalk" "odds" "LSlabWalk$Odds;") m577) (fun _ h9 => h9) rfl dX11_boldest_47 ?_
    refine S_calli (va_runV (As := []) (rest := []) ⟨hx, hb, hml, hown, hts⟩ (k_oBoldest l D k A a z G_20  ) (cwV 0 hts (gd_V hgd m1138 m1139 m1140 m126 m1141) rfl rfl rfl hd_X5_boldestStep ⟨Nat.le_of_ble_eq_true rfl, Nat.le_of_ble_eq_true rfl⟩) (pre_W hW hB_G_20 hK hZ hS kd_29 rfl) rfl rfl hl.1 rfl (lv_room (Nat.le_of_ble_eq_true rfl)) dX11_boldest_50 ⟨Nat.le_of_ble_eq_true rfl, Nat.le_of_ble_eq_true rfl⟩) hS (fun r_24 G_25 H locs hpo hW hS => ?_)
    have hX_28 : P_oBoldest G_20 r_24 G_25 := hpo
    obtain ⟨hB_G_25, hq_26, -⟩ := hpo
    have hF := hF.call9 hq_26 rfl rfl
    exact W.iret (v := r_24) hx hb hr (fun t ht _ => ⟨⟨r_24, G_25, rfl, (P_Wboldest_2_mk ⟨hB_G_25, hF, ⟨r_1, G_2, hX_5, (Or.inr ⟨c_7, ⟨G_11, hX_14, ⟨r_19, G_20, hX_23, ⟨r_24, G_25, hX_28, ⟨rfl, rfl⟩⟩⟩⟩⟩)⟩⟩), wd_t ht hW⟩, hS.F ht⟩) hS.2.2 dX11_boldest_53
  · have c_7 : r_1.toInt = 0 := xI_eq rfl rfl c_7
    refine ic_m1 hx hb dX11_boldest_14 ?_
    exact W.iret (v := (-1)) hx hb hr (fun t ht _ => ⟨⟨(-1), G_2, rfl, (P_Wboldest_2_mk ⟨hB_G_2, hF, ⟨r_1, G_2, hX_5, (Or.inl ⟨c_7, ⟨rfl, rfl⟩⟩)⟩⟩), wd_t ht hW⟩, hS.F ht⟩) hS.2.2 dX11_boldest_15

set_option maxHeartbeats 4000000 in
set_option maxRecDepth 100000 in
theorem k_Wwager_2 (l : Launch) (D : va_G) (k : KT) (A : Nat → Prop) (a : Nat → Nat) (z : SK) (G : GS) (p0 : Int32) (p1 : Int32) (p2 : Int32) (p3 : Int32) (hv_0_0 : G.2.2 0 0 = 2) (hv_0_1 : G.2.2 0 1 = 1) (hv_6_4 : G.2.2 6 4 = 2) : Met l yX11_wager (WS yX11_wager cX11_wager 6 (some .int)) ({ frames := 6, cells := 0, slots := 0, locals := 137 }) (va_Pc [.ref (a 0), .int p0, .int p1, .int p2, .int p3] (cW D k A a z G)) (va_Qi (fun (r : Int32) (G1 : GS) => P_Wwager_2 p0 p1 p2 p3 G r G1) (fun (G1 : GS) t => Wd D k A a G1 t.heap) A) 0 0 A := by
  refine Met.ofW (cc := cX11_wager) (maxL := 6) (ret := (some .int)) (by decide) rfl ?_
  intro p e s m args below meth c s₁ B hml hv
  obtain ⟨rfl, hW, hB_G, hK, hZ⟩ := hv
  have hx := B.exec
  have hb := B.bytes
  have hr := B.returns
  have hts := atoms_spec (ws := WS yX11_wager cX11_wager 6 (some .int)) B.pre
  have hgd : ∀ w ∈ gd, w ∈ WS yX11_wager cX11_wager 6 (some .int) := fun w h => List.mem_cons_of_mem _ h
  have hg : ∀ w ∈ gd, w.before _ s = true := fun w h => hts w (hgd w h)
  have hown : s.vm.findClass RX11 = some m.cls := findClass_of_methodNamed B.named
  have hS : va_S A s.heap s.heap [] := va_S.rf
  have hF : Fr [37, 38, 39, 40, 42, 43, 46, 47] [(6, 3), (7, 1), (7, 2), (7, 3), (7, 4), (7, 5), (7, 6), (7, 7)] G G := Fr.rf
  have hl := lv_entry ([.ref (a 0), .int p0, .int p1, .int p2, .int p3]) (n := 6) (Nat.le_of_ble_eq_true rfl)
  rw [lg_entry_eq]
  generalize (lg_sl ([.ref (a 0), .int p0, .int p1, .int p2, .int p3]) ++ List.replicate (6 - (lg_sl ([.ref (a 0), .int p0, .int p1, .int p2, .int p3])).length) Slot.unset).toArray = ls at hl ⊢
  have hl : lv_has ls 6 [(0, .ref (a 0)), (1, .int p0), (2, .int p1), (3, .int p2), (4, .int p3)] := hl
  refine lv_aload_n hx hb dX11_wager_0 rfl (lv_at hl 0 rfl) ?_
  refine lv_iload_n hx hb dX11_wager_1 rfl (lv_at hl 1 rfl) ?_
  refine lv_iload_n hx hb dX11_wager_2 rfl (lv_at hl 2 rfl) ?_
  refine lv_iload_n hx hb dX11_wager_3 rfl (lv_at hl 3 rfl) ?_
  refine S_calli (va_runV (As := [.int p0, .int p1, .int p2]) (rest := []) ⟨hx, hb, hml, hown, hts⟩ (k_wAsk_2 l D k A a z G p0 p1 p2 hv_0_0 hv_0_1 hv_6_4) (cwV 3 hts (gd_V hgd m953 m955 m31 m117 m956) rfl rfl rfl hd_X11_canAsk ⟨Nat.le_of_ble_eq_true rfl, Nat.le_of_ble_eq_true rfl⟩) (pre_W hW hB_G hK hZ hS kd_0 rfl) rfl rfl hl.1 rfl (lv_room (Nat.le_of_ble_eq_true rfl)) dX11_wager_4 ⟨Nat.le_of_ble_eq_true rfl, Nat.le_of_ble_eq_true rfl⟩) hS (fun r_1 G_2 H locs hpo hW hS => ?_)
  have hX_5 : P_wAsk_2 p0 p1 p2 G r_1 G_2 := hpo
  obtain ⟨hB_G_2, hq_3, f_6, hp_4, -⟩ := hpo
  have hF := hF.call9 hq_3 rfl rfl
  refine lv_if_eq (tgt := 21) hx hb dX11_wager_7 rfl (fun c_7 => ?_) (fun c_7 => ?_)
  · have c_7 : r_1.toInt = 0 := xI_eq rfl rfl c_7
    refine ic_m1 hx hb dX11_wager_21 ?_
    exact W.iret (v := (-1)) hx hb hr (fun t ht _ => ⟨⟨(-1), G_2, rfl, (P_Wwager_2_mk ⟨hB_G_2, hF, ⟨r_1, G_2, hX_5, (Or.inl ⟨c_7, ⟨rfl, rfl⟩⟩)⟩⟩), wd_t ht hW⟩, hS.F ht⟩) hS.2.2 dX11_wager_22
  · have c_7 : r_1.toInt ≠ 0 := xI_ne rfl rfl c_7
    refine lv_iload hx hb dX11_wager_10 (lv_at hl 4 rfl) ?_
    refine lv_if_lt (tgt := 21) hx hb dX11_wager_12 rfl (fun c_8 => ?_) (fun c_8 => ?_)
    · have c_8 : p3.toInt < 0 := xI_lt rfl rfl c_8
      refine ic_m1 hx hb dX11_wager_21 ?_
      exact W.iret (v := (-1)) hx hb hr (fun t ht _ => ⟨⟨(-1), G_2, rfl, (P_Wwager_2_mk ⟨hB_G_2, hF, ⟨r_1, G_2, hX_5, (Or.inr ⟨c_7, (Or.inl ⟨c_8, ⟨rfl, rfl⟩⟩)⟩)⟩⟩), wd_t ht hW⟩, hS.F ht⟩) hS.2.2 dX11_wager_22
    · have c_8 : 0 ≤ p3.toInt := xI_nlt rfl rfl c_8
      refine lv_iload hx hb dX11_wager_15 (lv_at hl 4 rfl) ?_
      refine ic_1 hx hb dX11_wager_17 ?_
      refine lv_icmp_le (tgt := 23) hx hb dX11_wager_18 rfl (fun c_9 => ?_) (fun c_9 => ?_)
      · have c_9 : p3.toInt ≤ 1 := xI_le rfl rfl c_9
        refine lv_aload_n hx hb dX11_wager_23 rfl (lv_at hl 0 rfl) ?_
        refine lv_iload_n hx hb dX11_wager_24 rfl (lv_at hl 1 rfl) ?_
        refine lv_iload_n hx hb dX11_wager_25 rfl (lv_at hl 2 rfl) ?_
        refine lv_iload_n hx hb dX11_wager_26 rfl (lv_at hl 3 rfl) ?_
        have b_10 : 0 ≤ (G.1 2 10).toInt ∧ (G.1 2 10).toInt ≤ 4 := bd_2_10 hB_G
        have g_11 : (G_2.1 2 10).toInt = (G.1 2 10).toInt := (congrArg Int32.toInt (show G_2.1 2 10 = (G.1 2 10) from (hq_3.i9 2 10 rfl rfl)))
        refine S_callv (va_runV (As := [.int p0, .int p1, .int p2]) (rest := []) ⟨hx, hb, hml, hown, hts⟩ (k_wPrep_2 l D k A a z G_2 p0 p1 p2 ⟨(by first | exact ok_531 f_6.1 f_6.2 hp_4 c_7 | omega), (by first | exact ok_532 f_6.1 f_6.2 hp_4 c_7 | omega)⟩ ⟨(by first | exact ok_533 f_6.1 f_6.2 hp_4 c_7 | omega), (by first | exact ok_534 f_6.1 f_6.2 hp_4 c_7 | omega)⟩ (((hq_3.r9 0 0 rfl rfl)).trans (hv_0_0)) (((hq_3.r9 0 1 rfl rfl)).trans (hv_0_1)) (((hq_3.r9 6 4 rfl rfl)).trans (hv_6_4)) ((by first | exact ok_536 f_6.1 f_6.2 hp_4 c_7 g_11 | omega))) (cwV 3 hts (gd_V hgd m975 m977 m32 m117 m978) rfl rfl rfl hd_X11_prepare ⟨Nat.le_of_ble_eq_true rfl, Nat.le_of_ble_eq_true rfl⟩) (pre_W hW hB_G_2 hK hZ hS kd_0 rfl) rfl rfl hl.1 rfl (lv_room (Nat.le_of_ble_eq_true rfl)) dX11_wager_27 ⟨Nat.le_of_ble_eq_true rfl, Nat.le_of_ble_eq_true rfl⟩) hS (fun G_13 H locs hpo hW hS => ?_)
        have hX_16 : P_wPrep_2 p0 p1 p2 G_2 G_13 := hpo
        obtain ⟨hB_G_13, hq_14, hp_15, -⟩ := hpo
        have hF := hF.call9 hq_14 rfl rfl
        refine lv_aload_n hx hb dX11_wager_30 rfl (lv_at hl 0 rfl) ?_
        refine lv_iload_n hx hb dX11_wager_31 rfl (lv_at hl 2 rfl) ?_
        refine lv_iload_n hx hb dX11_wager_32 rfl (lv_at hl 3 rfl) ?_
        have b_17 : 0 ≤ (G_13.1 7 3).toInt ∧ (G_13.1 7 3).toInt ≤ 60 := bd_7_3 hB_G_13
        have b_18 : 0 ≤ (G_13.1 7 4).toInt ∧ (G_13.1 7 4).toInt ≤ 60 := bd_7_4 hB_G_13
        have b_19 : (-1) ≤ (G_13.1 7 6).toInt ∧ (G_13.1 7 6).toInt ≤ 400 := bd_7_6 hB_G_13
        have b_20 : 0 ≤ (G_13.1 7 7).toInt ∧ (G_13.1 7 7).toInt ≤ 400 := bd_7_7 hB_G_13
        refine S_calli (va_runV (As := [.int p1, .int p2]) (rest := []) ⟨hx, hb, hml, hown, hts⟩ (k_wWin_2 l D k A a z G_13 p1 p2 ⟨(by first | exact ok_561 f_6.1 f_6.2 hp_4 c_7 | omega), (by first | exact ok_562 f_6.1 f_6.2 hp_4 c_7 | omega)⟩ ((((hq_14.r9 0 0 rfl rfl).trans (hq_3.r9 0 0 rfl rfl))).trans (hv_0_0)) ((((hq_14.r9 0 1 rfl rfl).trans (hq_3.r9 0 1 rfl rfl))).trans (hv_0_1)) ((((hq_14.r9 6 4 rfl rfl).trans (hq_3.r9 6 4 rfl rfl))).trans (hv_6_4)) ((by first | exact ⟨(by first | exact hp_15.1 | omega), ⟨(by first | exact hp_15.2.1 | omega), (by first | exact hp_15.2.2 | omega)⟩⟩ | omega))) (cwV 2 hts (gd_V hgd m1146 m1148 m41 m117 m1149) rfl rfl rfl hd_X11_winningRule ⟨Nat.le_of_ble_eq_true rfl, Nat.le_of_ble_eq_true rfl⟩) (pre_W hW hB_G_13 hK hZ hS kd_0 rfl) rfl rfl hl.1 rfl (lv_room (Nat.le_of_ble_eq_true rfl)) dX11_wager_33 ⟨Nat.le_of_ble_eq_true rfl, Nat.le_of_ble_eq_true rfl⟩) hS (fun r_21 G_22 H locs hpo hW hS => ?_)
        have hX_25 : P_wWin_2 p1 p2 G_13 r_21 G_22 := hpo
        obtain ⟨hB_G_22, hq_23, -⟩ := hpo
        have hF := hF.call9 hq_23 rfl rfl
        refine lv_istore (lv' := [(5, .int r_21), (0, .ref (a 0)), (1, .int p0), (2, .int p1), (3, .int p2), (4, .int p3)]) hx hb dX11_wager_36 hl (lt_b rfl) rfl (fun ls hl => ?_)
        refine lv_iload hx hb dX11_wager_38 (lv_at hl 5 rfl) ?_
        refine ic_1 hx hb dX11_wager_40 ?_
        refine lv_icmp_ne (tgt := 49) hx hb dX11_wager_41 rfl (fun c_26 => ?_) (fun c_26 => ?_)
        · have c_26 : p3.toInt ≠ 1 := xI_ne rfl rfl c_26
          refine lv_iload hx hb dX11_wager_49 (lv_at hl 0 rfl) ?_
          refine ic_m1 hx hb dX11_wager_51 ?_
          refine lv_icmp_ne (tgt := 59) hx hb dX11_wager_52 rfl (fun c_27 => ?_) (fun c_27 => ?_)
          · have c_27 : r_21.toInt ≠ (-1) := xI_ne rfl rfl c_27
            refine ic_1 hx hb dX11_wager_59 ?_
            exact W.iret (v := 1) hx hb hr (fun t ht _ => ⟨⟨1, G_22, rfl, (P_Wwager_2_mk ⟨hB_G_22, hF, ⟨r_1, G_2, hX_5, (Or.inr ⟨c_7, (Or.inr ⟨c_8, (Or.inl ⟨c_9, ⟨G_13, hX_16, ⟨r_21, G_22, hX_25, (Or.inr ⟨c_26, (Or.inr ⟨c_27, ⟨rfl, rfl⟩⟩)⟩)⟩⟩⟩)⟩)⟩)⟩⟩), wd_t ht hW⟩, hS.F ht⟩) hS.2.2 dX11_wager_60
          · have c_27 : r_21.toInt = (-1) := xI_eq rfl rfl c_27
            refine ic_0 hx hb dX11_wager_55 ?_
            refine lv_goto (tgt := 60) hx hb dX11_wager_56 rfl ?_
            exact W.iret (v := 0) hx hb hr (fun t ht _ => ⟨⟨0, G_22, rfl, (P_Wwager_2_mk ⟨hB_G_22, hF, ⟨r_1, G_2, hX_5, (Or.inr ⟨c_7, (Or.inr ⟨c_8, (Or.inl ⟨c_9, ⟨G_13, hX_16, ⟨r_21, G_22, hX_25, (Or.inr ⟨c_26, (Or.inl ⟨c_27, ⟨rfl, rfl⟩⟩)⟩)⟩⟩⟩)⟩)⟩)⟩⟩), wd_t ht hW⟩, hS.F ht⟩) hS.2.2 dX11_wager_60
        · have c_26 : p3.toInt = 1 := xI_eq rfl rfl c_26
          refine lv_iload hx hb dX11_wager_44 (lv_at hl 0 rfl) ?_
          refine lv_goto (tgt := 60) hx hb dX11_wager_46 rfl ?_
          exact W.iret (v := r_21) hx hb hr (fun t ht _ => ⟨⟨r_21, G_22, rfl, (P_Wwager_2_mk ⟨hB_G_22, hF, ⟨r_1, G_2, hX_5, (Or.inr ⟨c_7, (Or.inr ⟨c_8, (Or.inl ⟨c_9, ⟨G_13, hX_16, ⟨r_21, G_22, hX_25, (Or.inl ⟨c_26, ⟨rfl, rfl⟩⟩)⟩⟩⟩)⟩)⟩)⟩⟩), wd_t ht hW⟩, hS.F ht⟩) hS.2.2 dX11_wager_60
      · have c_9 : 1 < p3.toInt := xI_nle rfl rfl c_9
        refine ic_m1 hx hb dX11_wager_21 ?_
        exact W.iret (v := (-1)) hx hb hr (fun t ht _ => ⟨⟨(-1), G_2, rfl, (P_Wwager_2_mk ⟨hB_G_2, hF, ⟨r_1, G_2, hX_5, (Or.inr ⟨c_7, (Or.inr ⟨c_8, (Or.inr ⟨c_9, ⟨rfl, rfl⟩⟩)⟩)⟩)⟩⟩), wd_t ht hW⟩, hS.F ht⟩) hS.2.2 dX11_wager_22

set_option maxHeartbeats 4000000 in
set_option maxRecDepth 100000 in
theorem k_Wleave_2 (l : Launch) (D : va_G) (k : KT) (A : Nat → Prop) (a : Nat → Nat) (z : SK) (G : GS) (p0 : Int32) (p1 : Int32) (hv_0_0 : G.2.2 0 0 = 2) (hv_0_1 : G.2.2 0 1 = 1) (hv_6_4 : G.2.2 6 4 = 2) : Met l yX11_leave (WS yX11_leave cX11_leave 5 (some .int)) ({ frames := 5, cells := 0, slots := 0, locals := 119 }) (va_Pc [.ref (a 0), .int p0, .int p1] (cW D k A a z G)) (va_Qi (fun (r : Int32) (G1 : GS) => P_Wleave_2 p0 p1 G r G1) (fun (G1 : GS) t => Wd D k A a G1 t.heap) A) 0 0 A := by
  refine Met.ofW (cc := cX11_leave) (maxL := 5) (ret := (some .int)) (by decide) rfl ?_
  intro p e s m args below meth c s₁ B hml hv
  obtain ⟨rfl, hW, hB_G, hK, hZ⟩ := hv
  have hx := B.exec
  have hb := B.bytes
  have hr := B.returns
  have hts := atoms_spec (ws := WS yX11_leave cX11_leave 5 (some .int)) B.pre
  have hgd : ∀ w ∈ gd, w ∈ WS yX11_leave cX11_leave 5 (some .int) := fun w h => List.mem_cons_of_mem _ h
  have hg : ∀ w ∈ gd, w.before _ s = true := fun w h => hts w (hgd w h)
  have hown : s.vm.findClass RX11 = some m.cls := findClass_of_methodNamed B.named
  have hS : va_S A s.heap s.heap [] := va_S.rf
  have hF : Fr [37, 38, 39, 40, 42, 43] [(6, 3), (7, 1), (7, 2), (7, 3), (7, 4), (7, 5), (7, 6), (7, 7)] G G := Fr.rf
  have hl := lv_entry ([.ref (a 0), .int p0, .int p1]) (n := 5) (Nat.le_of_ble_eq_true rfl)
  rw [lg_entry_eq]
  generalize (lg_sl ([.ref (a 0), .int p0, .int p1]) ++ List.replicate (5 - (lg_sl ([.ref (a 0), .int p0, .int p1])).length) Slot.unset).toArray = ls at hl ⊢
  have hl : lv_has ls 5 [(0, .ref (a 0)), (1, .int p0), (2, .int p1)] := hl
  refine lv_aload_n hx hb dX11_leave_0 rfl (lv_at hl 0 rfl) ?_
  refine lv_iload_n hx hb dX11_leave_1 rfl (lv_at hl 1 rfl) ?_
  refine lv_iload_n hx hb dX11_leave_2 rfl (lv_at hl 2 rfl) ?_
  refine ic_0 hx hb dX11_leave_3 ?_
  have qc_1 : (0 : Int32).toInt = 0 := rfl
  refine S_calli (va_runV (As := [.int p0, .int p1, .int 0]) (rest := []) ⟨hx, hb, hml, hown, hts⟩ (k_wAsk_2 l D k A a z G p0 p1 0 hv_0_0 hv_0_1 hv_6_4) (cwV 3 hts (gd_V hgd m953 m955 m31 m117 m956) rfl rfl rfl hd_X11_canAsk ⟨Nat.le_of_ble_eq_true rfl, Nat.le_of_ble_eq_true rfl⟩) (pre_W hW hB_G hK hZ hS kd_0 rfl) rfl rfl hl.1 rfl (lv_room (Nat.le_of_ble_eq_true rfl)) dX11_leave_4 ⟨Nat.le_of_ble_eq_true rfl, Nat.le_of_ble_eq_true rfl⟩) hS (fun r_2 G_3 H locs hpo hW hS => ?_)
  have hX_6 : P_wAsk_2 p0 p1 0 G r_2 G_3 := hpo
  obtain ⟨hB_G_3, hq_4, f_7, hp_5, -⟩ := hpo
  have hF := hF.call9 hq_4 rfl rfl
  refine lv_if_ne (tgt := 12) hx hb dX11_leave_7 rfl (fun c_8 => ?_) (fun c_8 => ?_)
  · have c_8 : r_2.toInt ≠ 0 := xI_ne rfl rfl c_8
    refine lv_aload_n hx hb dX11_leave_12 rfl (lv_at hl 0 rfl) ?_
    refine lv_iload_n hx hb dX11_leave_13 rfl (lv_at hl 1 rfl) ?_
    refine lv_iload_n hx hb dX11_leave_14 rfl (lv_at hl 2 rfl) ?_
    refine ic_0 hx hb dX11_leave_15 ?_
    have b_9 : 0 ≤ (G.1 2 10).toInt ∧ (G.1 2 10).toInt ≤ 4 := bd_2_10 hB_G
    have g_10 : (G_3.1 2 10).toInt = (G.1 2 10).toInt := (congrArg Int32.toInt (show G_3.1 2 10 = (G.1 2 10) from (hq_4.i9 2 10 rfl rfl)))
    have qc_11 : (0 : Int32).toInt = 0 := rfl
    refine S_callv (va_runV (As := [.int p0, .int p1, .int 0]) (rest := []) ⟨hx, hb, hml, hown, hts⟩ (k_wPrep_2 l D k A a z G_3 p0 p1 0 ⟨(by first | exact ok_531 f_7.1 f_7.2 hp_5 c_8 | omega), (by first | exact ok_532 f_7.1 f_7.2 hp_5 c_8 | omega)⟩ ⟨(by first | exact ok_533 f_7.1 f_7.2 hp_5 c_8 | omega), (by first | exact ok_534 f_7.1 f_7.2 hp_5 c_8 | omega)⟩ (((hq_4.r9 0 0 rfl rfl)).trans (hv_0_0)) (((hq_4.r9 0 1 rfl rfl)).trans (hv_0_1)) (((hq_4.r9 6 4 rfl rfl)).trans (hv_6_4)) ((by first | exact ok_536 f_7.1 f_7.2 hp_5 c_8 g_10 | omega))) (cwV 3 hts (gd_V hgd m975 m977 m32 m117 m978) rfl rfl rfl hd_X11_prepare ⟨Nat.le_of_ble_eq_true rfl, Nat.le_of_ble_eq_true rfl⟩) (pre_W hW hB_G_3 hK hZ hS kd_0 rfl) rfl rfl hl.1 rfl (lv_room (Nat.le_of_ble_eq_true rfl)) dX11_leave_16 ⟨Nat.le_of_ble_eq_true rfl, Nat.le_of_ble_eq_true rfl⟩) hS (fun G_13 H locs hpo hW hS => ?_)
    have hX_16 : P_wPrep_2 p0 p1 0 G_3 G_13 := hpo
    obtain ⟨hB_G_13, hq_14, hp_15, -⟩ := hpo
    have hF := hF.call9 hq_14 rfl rfl
    refine ic_0 hx hb dX11_leave_19 ?_
    refine lv_istore_n (lv' := [(3, .int 0), (0, .ref (a 0)), (1, .int p0), (2, .int p1)]) hx hb dX11_leave_20 rfl hl (lt_b rfl) rfl (fun ls hl => ?_)
    refine ic_0 hx hb dX11_leave_21 ?_
    refine lv_istore (lv' := [(4, .int 0), (3, .int 0), (0, .ref (a 0)), (1, .int p0), (2, .int p1)]) hx hb dX11_leave_22 hl (lt_b rfl) rfl (fun ls hl => ?_)
    have qc_24 : (0 : Int32).toInt = 0 := rfl
    refine loop_N (Inv := fun n H locs ls => ∃ (G_17 : GS) (x_21 : Int32) (x_22 : Int32), (n : Int) = 64 - x_21.toInt ∧ (0 ≤ x_21.toInt ∧ x_21.toInt ≤ 64) ∧ Rc (St_k_Wleave_2_1 p1 G) (0, 0, G_13) (x_21, x_22, G_17) ∧ Wd D k A a G_17 H ∧ Bd G_17 ∧ Fr [37, 38, 39, 40, 42, 43] [(6, 3), (7, 1), (7, 2), (7, 3), (7, 4), (7, 5), (7, 6), (7, 7)] G G_17 ∧ Fr [40, 42, 43] [] G_13 G_17 ∧ va_S A s.heap H locs ∧ lv_has ls 5 [(4, .int x_21), (3, .int x_22), (0, .ref (a 0)), (2, .int p1)]) (fun n_20 H locs ls ih_19 hI => ?_) (64 - 0 : Int).toNat ⟨G_13, 0, 0, (Int.toNat_of_nonneg ((by decide))), ⟨(by decide), (by decide)⟩, Rc.rf, hW, hB_G_13, hF, Fr.rf, hS, lv_sub hl [0, 1, 2, 4] rfl⟩
    obtain ⟨G_17, x_21, x_22, hn_26, f_25, hX_23, hW, hB_G_17, hF, hq_18, hS, hl⟩ := hI
    refine lv_iload hx hb dX11_leave_24 (lv_at hl 0 rfl) ?_
    refine ic_1 hx hb dX11_leave_26 ?_
    refine lv_aload_n hx hb dX11_leave_27 rfl (lv_at hl 2 rfl) ?_
    refine S_getV (n := 2) (C := RX11) (T := TX11) (N := 13) hx hb hg iX11 hown hK hW kd_0 rfl 0 (lt_b rfl) (hg (Cond.fieldLink RX11 10 "SlabWalk" "paving" "LSlabWalk$Paving;") m570) (fun _ h9 => h9) rfl ((((hq_18.r9 0 0 rfl rfl).trans ((hq_14.r9 0 0 rfl rfl).trans (hq_4.r9 0 0 rfl rfl)))).trans (hv_0_0)) dX11_leave_28 ?_
    have b_27 : 0 ≤ (G.1 2 11).toInt ∧ (G.1 2 11).toInt ≤ 6 := bd_2_11 hB_G
    refine S_getI (v := (G.1 2 11)) (C := RX6) (T := TX6) (N := 17) hx hb hg iX6 hown hK hW kd_2 rfl 11 (lt_b rfl) (hg (Cond.fieldLink RX11 228 "SlabWalk$Paving" "rules" "I") m195) (fun _ h9 => h9) rfl ((hq_18.i9 2 11 rfl rfl).trans ((hq_14.i9 2 11 rfl rfl).trans (hq_4.i9 2 11 rfl rfl))) dX11_leave_31 ?_
    refine lv_ishl hx hb dX11_leave_34 ?_
    refine lv_topi (fun y_28 ey_28 => ?_)
    have ty_28 := sh6 (Y := (G.1 2 11).toInt) rfl ey_28 rfl (by first | (clear f_7 hp_5 c_8 b_9 g_10 hp_15 hn_26 f_25; omega) | omega) (by first | (clear f_7 hp_5 c_8 b_9 g_10 hp_15 hn_26 f_25; omega) | omega)
    refine lv_icmp_ge (tgt := 62) hx hb dX11_leave_35 rfl (fun c_29 => ?_) (fun c_29 => ?_)
    · have c_29 : y_28.toInt ≤ x_21.toInt := xI_le rfl rfl c_29
      refine lv_iload_n hx hb dX11_leave_62 rfl (lv_at hl 1 rfl) ?_
      exact W.iret (v := x_22) hx hb hr (fun t ht _ => ⟨⟨x_22, G_17, rfl, (P_Wleave_2_mk ⟨hB_G_17, hF, ⟨r_2, G_3, hX_6, (Or.inr ⟨c_8, ⟨G_13, hX_16, ⟨x_21, x_22, G_17, hX_23, f_25, hB_G_17, hq_18, ⟨y_28, ey_28, ⟨c_29, ⟨rfl, rfl⟩⟩⟩⟩⟩⟩)⟩⟩), wd_t ht hW⟩, hS.F ht⟩) hS.2.2 dX11_leave_63
    · have c_29 : x_21.toInt < y_28.toInt := xI_nle rfl rfl c_29
      refine lv_iload_n hx hb dX11_leave_38 rfl (lv_at hl 1 rfl) ?_
      refine lv_aload_n hx hb dX11_leave_39 rfl (lv_at hl 2 rfl) ?_
      refine lv_iload_n hx hb dX11_leave_40 rfl (lv_at hl 3 rfl) ?_
      refine lv_iload hx hb dX11_leave_41 (lv_at hl 0 rfl) ?_
      have b_30 : 0 ≤ (G_13.1 7 3).toInt ∧ (G_13.1 7 3).toInt ≤ 60 := bd_7_3 hB_G_13
      have g_31 : (G_17.1 7 3).toInt = (G_13.1 7 3).toInt := (congrArg Int32.toInt (show G_17.1 7 3 = (G_13.1 7 3) from (hq_18.i9 7 3 rfl rfl)))
      have b_32 : 0 ≤ (G_13.1 7 4).toInt ∧ (G_13.1 7 4).toInt ≤ 60 := bd_7_4 hB_G_13
      have g_33 : (G_17.1 7 4).toInt = (G_13.1 7 4).toInt := (congrArg Int32.toInt (show G_17.1 7 4 = (G_13.1 7 4) from (hq_18.i9 7 4 rfl rfl)))
      have b_34 : (-1) ≤ (G_13.1 7 6).toInt ∧ (G_13.1 7 6).toInt ≤ 400 := bd_7_6 hB_G_13
      have g_35 : (G_17.1 7 6).toInt = (G_13.1 7 6).toInt := (congrArg Int32.toInt (show G_17.1 7 6 = (G_13.1 7 6) from (hq_18.i9 7 6 rfl rfl)))
      have b_36 : 0 ≤ (G_13.1 7 7).toInt ∧ (G_13.1 7 7).toInt ≤ 400 := bd_7_7 hB_G_13
      have g_37 : (G_17.1 7 7).toInt = (G_13.1 7 7).toInt := (congrArg Int32.toInt (show G_17.1 7 7 = (G_13.1 7 7) from (hq_18.i9 7 7 rfl rfl)))
      refine S_calli (va_runV (As := [.int p1, .int x_21]) (rest := [.int x_22]) ⟨hx, hb, hml, hown, hts⟩ (k_wLeaves_2 l D k A a z G_17 p1 x_21 ((((hq_18.r9 0 0 rfl rfl).trans ((hq_14.r9 0 0 rfl rfl).trans (hq_4.r9 0 0 rfl rfl)))).trans (hv_0_0)) ((((hq_18.r9 0 1 rfl rfl).trans ((hq_14.r9 0 1 rfl rfl).trans (hq_4.r9 0 1 rfl rfl)))).trans (hv_0_1)) ((((hq_18.r9 6 4 rfl rfl).trans ((hq_14.r9 6 4 rfl rfl).trans (hq_4.r9 6 4 rfl rfl)))).trans (hv_6_4)) ((by first | exact ⟨(by first | exact ok_235 hp_15.1 g_35 | omega), ⟨(by first | exact ok_185 hp_15.2.1 g_31 g_33 | omega), (by first | exact ok_236 hp_15.2.2 g_33 g_35 g_37 | omega)⟩⟩ | omega))) (cwV 2 hts (gd_V hgd m1154 m1156 m42 m117 m1157) rfl rfl rfl hd_X11_leavesWay ⟨Nat.le_of_ble_eq_true rfl, Nat.le_of_ble_eq_true rfl⟩) (pre_W hW hB_G_17 hK hZ hS kd_0 rfl) rfl rfl hl.1 rfl (lv_room (Nat.le_of_ble_eq_true rfl)) dX11_leave_43 ⟨Nat.le_of_ble_eq_true rfl, Nat.le_of_ble_eq_true rfl⟩) hS (fun r_38 G_39 H locs hpo hW hS => ?_)
      have hX_42 : P_wLeaves_2 p1 x_21 G_17 r_38 G_39 := hpo
      obtain ⟨hB_G_39, hq_40, f_43, hp_41, -⟩ := hpo
      have hF := hF.call9 hq_40 rfl rfl
      refine lv_if_eq (tgt := 53) hx hb dX11_leave_46 rfl (fun c_44 => ?_) (fun c_44 => ?_)
      · have c_44 : r_38.toInt = 0 := xI_eq rfl rfl c_44
        refine ic_0 hx hb dX11_leave_53 ?_
        refine lv_iadd hx hb dX11_leave_54 ?_
        refine lv_topi (fun y_45 ey_45 => ?_)
        have e_46 := tI_rng x_22
        have ty_45 : y_45.toInt = x_22.toInt + 0 := xI_add rfl rfl ey_45 ((by first | exact ok_563 e_46.1 | omega)) ((by first | exact ok_564 e_46.2 | omega))
        refine lv_istore_n (lv' := [(3, .int y_45), (4, .int x_21), (0, .ref (a 0)), (2, .int p1)]) hx hb dX11_leave_55 rfl hl (lt_b rfl) rfl (fun ls hl => ?_)
        obtain ⟨y_47, ey_47⟩ : ∃ q, q = x_21 + 1 := ⟨_, rfl⟩
        have ty_47 : y_47.toInt = x_21.toInt + 1 := xI_add rfl rfl ey_47 ((by first | exact ok_21 f_25.1 | omega)) ((by first | exact ok_565 f_25.2 | omega))
        refine lv_iinc (v := y_47) (lv' := [(4, .int y_47), (3, .int y_45), (0, .ref (a 0)), (2, .int p1)]) hx hb dX11_leave_56 hl (k := 1) rfl (by rw [ey_47]; rfl) (lt_b rfl) rfl (fun ls hl => ?_)
        refine lv_goto (tgt := 24) hx hb dX11_leave_59 rfl ?_
        exact ih_19 (64 - y_47.toInt : Int).toNat ((by first | (clear f_7 hp_5 c_8 b_9 g_10 hp_15 b_27 b_30 g_31 b_32 g_33 b_34 g_35 b_36 g_37 f_43 hp_41 c_44 e_46 ty_45; omega) | omega)) _ _ _ ⟨G_39, y_47, y_45, (Int.toNat_of_nonneg ((by first | exact ok_566 f_25.2 ty_28.2 c_29 ty_47 | omega))), ⟨(by first | exact ok_23 f_25.1 ty_47 | omega), (by first | exact ok_567 f_25.2 ty_28.2 c_29 ty_47 | omega)⟩, (hX_23.st (St_k_Wleave_2_1_mk ⟨x_21, x_22, G_17, y_47, y_45, G_39, rfl, rfl, f_25, hB_G_17, ⟨y_28, ey_28, ⟨c_29, ⟨r_38, G_39, hX_42, (Or.inl ⟨c_44, ⟨y_45, ty_45, ⟨y_47, ty_47, ⟨rfl, rfl, rfl⟩⟩⟩⟩)⟩⟩⟩⟩)), hW, hB_G_39, hF, (Fr.call9 (rs := [40, 42, 43]) (fs := []) (Fr.call9 (rs := [40, 42, 43]) (fs := []) Fr.rf hq_18 rfl rfl) hq_40 rfl rfl), hS, lv_sub hl [0, 1, 2, 3] rfl⟩
      · have c_44 : r_38.toInt ≠ 0 := xI_ne rfl rfl c_44
        refine ic_1 hx hb dX11_leave_49 ?_
        refine lv_goto (tgt := 54) hx hb dX11_leave_50 rfl ?_
        refine lv_iadd hx hb dX11_leave_54 ?_
        refine lv_topi (fun y_48 ey_48 => ?_)
        refine lv_istore_n (lv' := [(3, .int y_48), (4, .int x_21), (0, .ref (a 0)), (2, .int p1)]) hx hb dX11_leave_55 rfl hl (lt_b rfl) rfl (fun ls hl => ?_)
        obtain ⟨y_49, ey_49⟩ : ∃ q, q = x_21 + 1 := ⟨_, rfl⟩
        have ty_49 : y_49.toInt = x_21.toInt + 1 := xI_add rfl rfl ey_49 ((by first | exact ok_21 f_25.1 | omega)) ((by first | exact ok_565 f_25.2 | omega))
        refine lv_iinc (v := y_49) (lv' := [(4, .int y_49), (3, .int y_48), (0, .ref (a 0)), (2, .int p1)]) hx hb dX11_leave_56 hl (k := 1) rfl (by rw [ey_49]; rfl) (lt_b rfl) rfl (fun ls hl => ?_)
        refine lv_goto (tgt := 24) hx hb dX11_leave_59 rfl ?_
        exact ih_19 (64 - y_49.toInt : Int).toNat ((by first | (clear f_7 hp_5 c_8 b_9 g_10 hp_15 b_27 b_30 g_31 b_32 g_33 b_34 g_35 b_36 g_37 f_43 hp_41 c_44; omega) | omega)) _ _ _ ⟨G_39, y_49, y_48, (Int.toNat_of_nonneg ((by first | exact ok_566 f_25.2 ty_28.2 c_29 ty_49 | omega))), ⟨(by first | exact ok_23 f_25.1 ty_49 | omega), (by first | exact ok_567 f_25.2 ty_28.2 c_29 ty_49 | omega)⟩, (hX_23.st (St_k_Wleave_2_1_mk ⟨x_21, x_22, G_17, y_49, y_48, G_39, rfl, rfl, f_25, hB_G_17, ⟨y_28, ey_28, ⟨c_29, ⟨r_38, G_39, hX_42, (Or.inr ⟨c_44, ⟨y_48, ey_48, ⟨y_49, ty_49, ⟨rfl, rfl, rfl⟩⟩⟩⟩)⟩⟩⟩⟩)), hW, hB_G_39, hF, (Fr.call9 (rs := [40, 42, 43]) (fs := []) (Fr.call9 (rs := [40, 42, 43]) (fs := []) Fr.rf hq_18 rfl rfl) hq_40 rfl rfl), hS, lv_sub hl [0, 1, 2, 3] rfl⟩
  · have c_8 : r_2.toInt = 0 := xI_eq rfl rfl c_8
    refine ic_m1 hx hb dX11_leave_10 ?_
    exact W.iret (v := (-1)) hx hb hr (fun t ht _ => ⟨⟨(-1), G_3, rfl, (P_Wleave_2_mk ⟨hB_G_3, hF, ⟨r_2, G_3, hX_6, (Or.inl ⟨c_8, ⟨rfl, rfl⟩⟩)⟩⟩), wd_t ht hW⟩, hS.F ht⟩) hS.2.2 dX11_leave_11

set_option maxHeartbeats 4000000 in
set_option maxRecDepth 100000 in
theorem k_Wfits_2 (l : Launch) (D : va_G) (k : KT) (A : Nat → Prop) (a : Nat → Nat) (z : SK) (G : GS) (p0 : Int32) (hv_0_0 : G.2.2 0 0 = 2) (hv_0_1 : G.2.2 0 1 = 1) (hv_6_4 : G.2.2 6 4 = 2) : Met l yX11_fits (WS yX11_fits cX11_fits 4 (some .int)) ({ frames := 6, cells := 0, slots := 0, locals := 143 }) (va_Pc [.ref (a 0), .int p0] (cW D k A a z G)) (va_Qi (fun (r : Int32) (G1 : GS) => P_Wfits_2 p0 G r G1) (fun (G1 : GS) t => Wd D k A a G1 t.heap) A) 0 0 A := by
  refine Met.ofW (cc := cX11_fits) (maxL := 4) (ret := (some .int)) (by decide) rfl ?_
  intro p e s m args below meth c s₁ B hml hv
  obtain ⟨rfl, hW, hB_G, hK, hZ⟩ := hv
  have hx := B.exec
  have hb := B.bytes
  have hr := B.returns
  have hts := atoms_spec (ws := WS yX11_fits cX11_fits 4 (some .int)) B.pre
  have hgd : ∀ w ∈ gd, w ∈ WS yX11_fits cX11_fits 4 (some .int) := fun w h => List.mem_cons_of_mem _ h
  have hg : ∀ w ∈ gd, w.before _ s = true := fun w h => hts w (hgd w h)
  have hown : s.vm.findClass RX11 = some m.cls := findClass_of_methodNamed B.named
  have hS : va_S A s.heap s.heap [] := va_S.rf
  have hF : Fr [37, 38, 39] [(6, 3)] G G := Fr.rf
  have hl := lv_entry ([.ref (a 0), .int p0]) (n := 4) (Nat.le_of_ble_eq_true rfl)
  rw [lg_entry_eq]
  generalize (lg_sl ([.ref (a 0), .int p0]) ++ List.replicate (4 - (lg_sl ([.ref (a 0), .int p0])).length) Slot.unset).toArray = ls at hl ⊢
  have hl : lv_has ls 4 [(0, .ref (a 0)), (1, .int p0)] := hl
  refine ic_0 hx hb dX11_fits_0 ?_
  refine lv_istore_n (lv' := [(2, .int 0), (0, .ref (a 0)), (1, .int p0)]) hx hb dX11_fits_1 rfl hl (lt_b rfl) rfl (fun ls hl => ?_)
  refine ic_0 hx hb dX11_fits_2 ?_
  refine lv_istore_n (lv' := [(3, .int 0), (2, .int 0), (0, .ref (a 0)), (1, .int p0)]) hx hb dX11_fits_3 rfl hl (lt_b rfl) rfl (fun ls hl => ?_)
  have qc_8 : (0 : Int32).toInt = 0 := rfl
  refine loop_N (Inv := fun n H locs ls => ∃ (G_1 : GS) (x_5 : Int32) (x_6 : Int32), (n : Int) = 6 - x_5.toInt ∧ (0 ≤ x_5.toInt ∧ x_5.toInt ≤ 6) ∧ (0 ≤ x_6.toInt ∧ x_6.toInt ≤ 63) ∧ Rc (St_k_Wfits_2_1 p0 G) (0, 0, G) (x_5, x_6, G_1) ∧ Wd D k A a G_1 H ∧ Bd G_1 ∧ Fr [37, 38, 39] [(6, 3)] G G_1 ∧ Fr [37, 38, 39] [(6, 3)] G G_1 ∧ va_S A s.heap H locs ∧ lv_has ls 4 [(3, .int x_5), (2, .int x_6), (0, .ref (a 0)), (1, .int p0)]) (fun n_4 H locs ls ih_3 hI => ?_) (6 - 0 : Int).toNat ⟨G, 0, 0, (Int.toNat_of_nonneg ((by decide))), ⟨(by decide), (by decide)⟩, ⟨(by decide), (by decide)⟩, Rc.rf, hW, hB_G, hF, Fr.rf, hS, lv_sub hl [0, 1, 2, 3] rfl⟩
  obtain ⟨G_1, x_5, x_6, hn_11, f_9, f_10, hX_7, hW, hB_G_1, hF, hq_2, hS, hl⟩ := hI
  refine lv_iload_n hx hb dX11_fits_4 rfl (lv_at hl 0 rfl) ?_
  refine lv_aload_n hx hb dX11_fits_5 rfl (lv_at hl 2 rfl) ?_
  refine S_getV (n := 2) (C := RX11) (T := TX11) (N := 13) hx hb hg iX11 hown hK hW kd_0 rfl 0 (lt_b rfl) (hg (Cond.fieldLink RX11 10 "SlabWalk" "paving" "LSlabWalk$Paving;") m570) (fun _ h9 => h9) rfl (((hq_2.r9 0 0 rfl rfl)).trans (hv_0_0)) dX11_fits_6 ?_
  have b_12 : 0 ≤ (G.1 2 11).toInt ∧ (G.1 2 11).toInt ≤ 6 := bd_2_11 hB_G
  refine S_getI (v := (G.1 2 11)) (C := RX6) (T := TX6) (N := 17) hx hb hg iX6 hown hK hW kd_2 rfl 11 (lt_b rfl) (hg (Cond.fieldLink RX11 228 "SlabWalk$Paving" "rules" "I") m195) (fun _ h9 => h9) rfl (hq_2.i9 2 11 rfl rfl) dX11_fits_9 ?_
  refine lv_icmp_ge (tgt := 40) hx hb dX11_fits_12 rfl (fun c_13 => ?_) (fun c_13 => ?_)
  · have c_13 : (G.1 2 11).toInt ≤ x_5.toInt := xI_le rfl rfl c_13
    refine lv_iload_n hx hb dX11_fits_40 rfl (lv_at hl 1 rfl) ?_
    exact W.iret (v := x_6) hx hb hr (fun t ht _ => ⟨⟨x_6, G_1, rfl, (P_Wfits_2_mk ⟨hB_G_1, hF, ⟨x_5, x_6, G_1, hX_7, f_9, f_10, hB_G_1, hq_2, ⟨c_13, ⟨rfl, rfl⟩⟩⟩⟩), wd_t ht hW⟩, hS.F ht⟩) hS.2.2 dX11_fits_41
  · have c_13 : x_5.toInt < (G.1 2 11).toInt := xI_nle rfl rfl c_13
    refine lv_iload_n hx hb dX11_fits_15 rfl (lv_at hl 1 rfl) ?_
    refine lv_aload_n hx hb dX11_fits_16 rfl (lv_at hl 2 rfl) ?_
    refine lv_iload_n hx hb dX11_fits_17 rfl (lv_at hl 0 rfl) ?_
    refine lv_iload_n hx hb dX11_fits_18 rfl (lv_at hl 3 rfl) ?_
    refine S_calli (va_runV (As := [.int x_5, .int p0]) (rest := [.int x_6]) ⟨hx, hb, hml, hown, hts⟩ (k_wFitsAll_2 l D k A a z G_1 x_5 p0 (((hq_2.r9 0 0 rfl rfl)).trans (hv_0_0)) (((hq_2.r9 0 1 rfl rfl)).trans (hv_0_1)) (((hq_2.r9 6 4 rfl rfl)).trans (hv_6_4))) (cwV 2 hts (gd_V hgd m1267 m1269 m45 m117 m1270) rfl rfl rfl hd_X11_fitsAll ⟨Nat.le_of_ble_eq_true rfl, Nat.le_of_ble_eq_true rfl⟩) (pre_W hW hB_G_1 hK hZ hS kd_0 rfl) rfl rfl hl.1 rfl (lv_room (Nat.le_of_ble_eq_true rfl)) dX11_fits_19 ⟨Nat.le_of_ble_eq_true rfl, Nat.le_of_ble_eq_true rfl⟩) hS (fun r_14 G_15 H locs hpo hW hS => ?_)
    have hX_18 : P_wFitsAll_2 x_5 p0 G_1 r_14 G_15 := hpo
    obtain ⟨hB_G_15, hq_16, f_19, -⟩ := hpo
    have hF := hF.call9 hq_16 rfl rfl
    refine lv_if_eq (tgt := 31) hx hb dX11_fits_22 rfl (fun c_20 => ?_) (fun c_20 => ?_)
    · have c_20 : r_14.toInt = 0 := xI_eq rfl rfl c_20
      refine ic_0 hx hb dX11_fits_31 ?_
      refine lv_ior hx hb dX11_fits_32 ?_
      refine lv_topi (fun y_21 ey_21 => ?_)
      have ty_21 := or6 ey_21 ⟨by omega, by omega⟩ ⟨by omega, by omega⟩
      refine lv_istore_n (lv' := [(2, .int y_21), (3, .int x_5), (0, .ref (a 0)), (1, .int p0)]) hx hb dX11_fits_33 rfl hl (lt_b rfl) rfl (fun ls hl => ?_)
      obtain ⟨y_22, ey_22⟩ : ∃ q, q = x_5 + 1 := ⟨_, rfl⟩
      have ty_22 : y_22.toInt = x_5.toInt + 1 := xI_add rfl rfl ey_22 ((by first | exact ok_21 f_9.1 | omega)) ((by first | exact ok_157 f_9.2 | omega))
      refine lv_iinc (v := y_22) (lv' := [(3, .int y_22), (2, .int y_21), (0, .ref (a 0)), (1, .int p0)]) hx hb dX11_fits_34 hl (k := 1) rfl (by rw [ey_22]; rfl) (lt_b rfl) rfl (fun ls hl => ?_)
      refine lv_goto (tgt := 4) hx hb dX11_fits_37 rfl ?_
      exact ih_3 (6 - y_22.toInt : Int).toNat ((by first | (clear f_10 f_19 c_20 ty_21; omega) | omega)) _ _ _ ⟨G_15, y_22, y_21, (Int.toNat_of_nonneg ((by first | exact ok_568 f_9.2 b_12.2 c_13 ty_22 | omega))), ⟨(by first | exact ok_23 f_9.1 ty_22 | omega), (by first | exact ok_569 f_9.2 b_12.2 c_13 ty_22 | omega)⟩, ⟨(by first | exact ty_21.1 | omega), (by first | exact ty_21.2 | omega)⟩, (hX_7.st (St_k_Wfits_2_1_mk ⟨x_5, x_6, G_1, y_22, y_21, G_15, rfl, rfl, f_9, f_10, hB_G_1, ⟨c_13, ⟨r_14, G_15, hX_18, (Or.inl ⟨c_20, ⟨y_21, ey_21, ⟨y_22, ty_22, ⟨rfl, rfl, rfl⟩⟩⟩⟩)⟩⟩⟩)), hW, hB_G_15, hF, (Fr.call9 (rs := [37, 38, 39]) (fs := [(6, 3)]) (Fr.call9 (rs := [37, 38, 39]) (fs := [(6, 3)]) Fr.rf hq_2 rfl rfl) hq_16 rfl rfl), hS, lv_sub hl [0, 1, 2, 3] rfl⟩
    · have c_20 : r_14.toInt ≠ 0 := xI_ne rfl rfl c_20
      refine ic_1 hx hb dX11_fits_25 ?_
      refine lv_iload_n hx hb dX11_fits_26 rfl (lv_at hl 0 rfl) ?_
      refine lv_ishl hx hb dX11_fits_27 ?_
      refine lv_topi (fun y_23 ey_23 => ?_)
      have ty_23 := sh5 (Y := x_5.toInt) rfl ey_23 rfl (by first | (clear hn_11 f_10 f_19 c_20; omega) | omega) (by first | (clear hn_11 f_10 f_19 c_20; omega) | omega)
      refine lv_goto (tgt := 32) hx hb dX11_fits_28 rfl ?_
      refine lv_ior hx hb dX11_fits_32 ?_
      refine lv_topi (fun y_24 ey_24 => ?_)
      have ty_24 := or6 ey_24 ⟨by omega, by omega⟩ ⟨by omega, by omega⟩
      refine lv_istore_n (lv' := [(2, .int y_24), (3, .int x_5), (0, .ref (a 0)), (1, .int p0)]) hx hb dX11_fits_33 rfl hl (lt_b rfl) rfl (fun ls hl => ?_)
      obtain ⟨y_25, ey_25⟩ : ∃ q, q = x_5 + 1 := ⟨_, rfl⟩
      have ty_25 : y_25.toInt = x_5.toInt + 1 := xI_add rfl rfl ey_25 ((by first | exact ok_21 f_9.1 | omega)) ((by first | exact ok_157 f_9.2 | omega))
      refine lv_iinc (v := y_25) (lv' := [(3, .int y_25), (2, .int y_24), (0, .ref (a 0)), (1, .int p0)]) hx hb dX11_fits_34 hl (k := 1) rfl (by rw [ey_25]; rfl) (lt_b rfl) rfl (fun ls hl => ?_)
      refine lv_goto (tgt := 4) hx hb dX11_fits_37 rfl ?_
      exact ih_3 (6 - y_25.toInt : Int).toNat ((by first | (clear f_10 f_19 c_20 ty_23 ty_24; omega) | omega)) _ _ _ ⟨G_15, y_25, y_24, (Int.toNat_of_nonneg ((by first | exact ok_568 f_9.2 b_12.2 c_13 ty_25 | omega))), ⟨(by first | exact ok_23 f_9.1 ty_25 | omega), (by first | exact ok_569 f_9.2 b_12.2 c_13 ty_25 | omega)⟩, ⟨(by first | exact ty_24.1 | omega), (by first | exact ty_24.2 | omega)⟩, (hX_7.st (St_k_Wfits_2_1_mk ⟨x_5, x_6, G_1, y_25, y_24, G_15, rfl, rfl, f_9, f_10, hB_G_1, ⟨c_13, ⟨r_14, G_15, hX_18, (Or.inr ⟨c_20, ⟨y_23, ey_23, ⟨y_24, ey_24, ⟨y_25, ty_25, ⟨rfl, rfl, rfl⟩⟩⟩⟩⟩)⟩⟩⟩)), hW, hB_G_15, hF, (Fr.call9 (rs := [37, 38, 39]) (fs := [(6, 3)]) (Fr.call9 (rs := [37, 38, 39]) (fs := [(6, 3)]) Fr.rf hq_2 rfl rfl) hq_16 rfl rfl), hS, lv_sub hl [0, 1, 2, 3] rfl⟩

set_option maxHeartbeats 4000000 in
set_option maxRecDepth 100000 in
theorem k_Wchance_2 (l : Launch) (D : va_G) (k : KT) (A : Nat → Prop) (a : Nat → Nat) (z : SK) (G : GS) (p0 : Int32) (p1 : Int32) (p2 : Int32) (hv_0_0 : G.2.2 0 0 = 2) (hv_0_1 : G.2.2 0 1 = 1) (hv_6_4 : G.2.2 6 4 = 2) : Met l yX11_chance (WS yX11_chance cX11_chance 10 (some .long)) ({ frames := 6, cells := 0, slots := 0, locals := 145 }) (va_Pc [.ref (a 0), .int p0, .int p1, .int p2] (cW D k A a z G)) (va_Ql (fun (r : Int64) (G1 : GS) => P_Wchance_2 p0 p1 p2 G r G1) (fun (G1 : GS) t => Wd D k A a G1 t.heap) A) 0 0 A := by
  refine Met.ofW (cc := cX11_chance) (maxL := 10) (ret := (some .long)) (by decide) rfl ?_
  intro p e s m args below meth c s₁ B hml hv
  obtain ⟨rfl, hW, hB_G, hK, hZ⟩ := hv
  have hx := B.exec
  have hb := B.bytes
  have hr := B.returns
  have hts := atoms_spec (ws := WS yX11_chance cX11_chance 10 (some .long)) B.pre
  have hgd : ∀ w ∈ gd, w ∈ WS yX11_chance cX11_chance 10 (some .long) := fun w h => List.mem_cons_of_mem _ h
  have hg : ∀ w ∈ gd, w.before _ s = true := fun w h => hts w (hgd w h)
  have hown : s.vm.findClass RX11 = some m.cls := findClass_of_methodNamed B.named
  have hS : va_S A s.heap s.heap [] := va_S.rf
  have hF : Fr [37, 38, 39] [(6, 3)] G G := Fr.rf
  have hl := lv_entry ([.ref (a 0), .int p0, .int p1, .int p2]) (n := 10) (Nat.le_of_ble_eq_true rfl)
  rw [lg_entry_eq]
  generalize (lg_sl ([.ref (a 0), .int p0, .int p1, .int p2]) ++ List.replicate (10 - (lg_sl ([.ref (a 0), .int p0, .int p1, .int p2])).length) Slot.unset).toArray = ls at hl ⊢
  have hl : lv_has ls 10 [(0, .ref (a 0)), (1, .int p0), (2, .int p1), (3, .int p2)] := hl
  refine lv_aload_n hx hb dX11_chance_0 rfl (lv_at hl 0 rfl) ?_
  refine S_getV (n := 2) (C := RX11) (T := TX11) (N := 13) hx hb hg iX11 hown hK hW kd_0 rfl 0 (lt_b rfl) (hg (Cond.fieldLink RX11 10 "SlabWalk" "paving" "LSlabWalk$Paving;") m570) (fun _ h9 => h9) rfl hv_0_0 dX11_chance_1 ?_
  refine lv_iload_n hx hb dX11_chance_4 rfl (lv_at hl 1 rfl) ?_
  refine S_calli (va_runV (As := [.int p0]) (rest := []) ⟨hx, hb, hml, hown, hts⟩ (k_hasRule_2 l D k A a z G p0 ) (cwV 1 hts (gd_V hgd m1206 m1207 m1208 m118 m1209) rfl rfl rfl hd_X6_hasRule ⟨Nat.le_of_ble_eq_true rfl, Nat.le_of_ble_eq_true rfl⟩) (pre_W hW hB_G hK hZ hS kd_2 rfl) rfl rfl hl.1 rfl (lv_room (Nat.le_of_ble_eq_true rfl)) dX11_chance_5 ⟨Nat.le_of_ble_eq_true rfl, Nat.le_of_ble_eq_true rfl⟩) hS (fun r_1 G_2 H locs hpo hW hS => ?_)
  have hX_5 : P_hasRule_2 p0 G r_1 G_2 := hpo
  obtain ⟨hB_G_2, hq_3, f_6, hp_4, -⟩ := hpo
  have hF := hF.call9 hq_3 rfl rfl
  refine lv_if_eq (tgt := 20) hx hb dX11_chance_8 rfl (fun c_7 => ?_) (fun c_7 => ?_)
  · have c_7 : r_1.toInt = 0 := xI_eq rfl rfl c_7
    refine lv_ldc2 (v := (-1)) hx hb hown (hg (Cond.constantLong RX11 165 (-1)) m1018) dX11_chance_20 ?_
    exact W.lret (v := (-1)) hx hb hr (fun t ht _ => ⟨⟨(-1), G_2, rfl, (P_Wchance_2_mk ⟨hB_G_2, hF, ⟨r_1, G_2, hX_5, (Or.inl ⟨c_7, ⟨rfl, rfl⟩⟩)⟩⟩), wd_t ht hW⟩, hS.F ht⟩) hS.2.2 dX11_chance_23
  · have c_7 : r_1.toInt ≠ 0 := xI_ne rfl rfl c_7
    refine lv_iload_n hx hb dX11_chance_11 rfl (lv_at hl 2 rfl) ?_
    refine lv_if_lt (tgt := 20) hx hb dX11_chance_12 rfl (fun c_8 => ?_) (fun c_8 => ?_)
    · have c_8 : p1.toInt < 0 := xI_lt rfl rfl c_8
      refine lv_ldc2 (v := (-1)) hx hb hown (hg (Cond.constantLong RX11 165 (-1)) m1018) dX11_chance_20 ?_
      exact W.lret (v := (-1)) hx hb hr (fun t ht _ => ⟨⟨(-1), G_2, rfl, (P_Wchance_2_mk ⟨hB_G_2, hF, ⟨r_1, G_2, hX_5, (Or.inr ⟨c_7, (Or.inl ⟨c_8, ⟨rfl, rfl⟩⟩)⟩)⟩⟩), wd_t ht hW⟩, hS.F ht⟩) hS.2.2 dX11_chance_23
    · have c_8 : 0 ≤ p1.toInt := xI_nlt rfl rfl c_8
      refine lv_iload_n hx hb dX11_chance_15 rfl (lv_at hl 2 rfl) ?_
      refine ic_1 hx hb dX11_chance_16 ?_
      refine lv_icmp_le (tgt := 24) hx hb dX11_chance_17 rfl (fun c_9 => ?_) (fun c_9 => ?_)
      · have c_9 : p1.toInt ≤ 1 := xI_le rfl rfl c_9
        refine lv_lconst (v := 1) hx hb dX11_chance_24 (by decide) ?_
        refine lv_lstore (lv' := [(4, .long 1), (0, .ref (a 0)), (1, .int p0), (2, .int p1), (3, .int p2)]) hx hb dX11_chance_25 hl (lt_b rfl) rfl (fun ls hl => ?_)
        refine lv_lconst (v := 1) hx hb dX11_chance_27 (by decide) ?_
        refine lv_lstore (lv' := [(6, .long 1), (4, .long 1), (0, .ref (a 0)), (1, .int p0), (2, .int p1), (3, .int p2)]) hx hb dX11_chance_28 hl (lt_b rfl) rfl (fun ls hl => ?_)
        refine ic_0 hx hb dX11_chance_30 ?_
        refine lv_istore (lv' := [(8, .int 0), (6, .long 1), (4, .long 1), (0, .ref (a 0)), (1, .int p0), (2, .int p1), (3, .int p2)]) hx hb dX11_chance_31 hl (lt_b rfl) rfl (fun ls hl => ?_)
        have qc_18 : (0 : Int32).toInt = 0 := rfl
        refine loop_N (Inv := fun n H locs ls => ∃ (G_10 : GS) (x_14 : Int32) (x_15 : Int64) (x_16 : Int64), (n : Int) = 20 - x_14.toInt ∧ (0 ≤ x_14.toInt ∧ x_14.toInt ≤ 20) ∧ Rc (St_k_Wchance_2_1 p0 p2 G) (0, 1, 1, G_2) (x_14, x_15, x_16, G_10) ∧ Wd D k A a G_10 H ∧ Bd G_10 ∧ Fr [37, 38, 39] [(6, 3)] G G_10 ∧ Fr [37, 38, 39] [(6, 3)] G_2 G_10 ∧ va_S A s.heap H locs ∧ lv_has ls 10 [(8, .int x_14), (6, .long x_15), (4, .long x_16), (0, .ref (a 0)), (1, .int p0), (2, .int p1), (3, .int p2)]) (fun n_13 H locs ls ih_12 hI => ?_) (20 - 0 : Int).toNat ⟨G_2, 0, 1, 1, (Int.toNat_of_nonneg ((by decide))), ⟨(by decide), (by decide)⟩, Rc.rf, hW, hB_G_2, hF, Fr.rf, hS, lv_sub hl [0, 1, 2, 3, 4, 5, 6] rfl⟩
        obtain ⟨G_10, x_14, x_15, x_16, hn_20, f_19, hX_17, hW, hB_G_10, hF, hq_11, hS, hl⟩ := hI
        refine lv_iload hx hb dX11_chance_33 (lv_at hl 0 rfl) ?_
        refine lv_aload_n hx hb dX11_chance_35 rfl (lv_at hl 3 rfl) ?_
        refine S_getR (n := 31) (C := RX11) (T := TX11) (N := 13) hx hb hg iX11 hown hK hW kd_0 rfl 9 (lt_b rfl) (hg (Cond.fieldLink RX11 72 "SlabWalk" "sights" "LSlabWalk$Sights;") m579) (fun _ h9 => h9) rfl dX11_chance_36 ?_
        have b_21 : 0 ≤ (G.1 31 5).toInt ∧ (G.1 31 5).toInt ≤ 20 := bd_31_5 hB_G
        refine S_getI (v := (G.1 31 5)) (C := RX8) (T := TX8) (N := 7) hx hb hg iX8 hown hK hW kd_31 rfl 5 (lt_b rfl) (hg (Cond.fieldLink RX11 285 "SlabWalk$Sights" "count" "I") m529) (fun _ h9 => h9) rfl ((hq_11.i9 31 5 rfl rfl).trans (hq_3.i9 31 5 rfl rfl)) dX11_chance_39 ?_
        refine lv_icmp_ge (tgt := 92) hx hb dX11_chance_42 rfl (fun c_22 => ?_) (fun c_22 => ?_)
        · have c_22 : (G.1 31 5).toInt ≤ x_14.toInt := xI_le rfl rfl c_22
          refine lv_lload hx hb dX11_chance_92 (lv_at hl 1 rfl) ?_
          refine lv_lload hx hb dX11_chance_94 (lv_at hl 2 rfl) ?_
          refine S_calll (va_runS (As := [.long x_15, .long x_16]) (rest := []) ⟨hx, hb, hml, hown, hts⟩ (k_gcd l D k A a z G_10 x_15 x_16 ) (va_cwS 2 hts (gd_S hgd m1079 m1080 m117 m1081) rfl rfl rfl hd_X11_commonDivisor.2 ⟨Nat.le_of_ble_eq_true rfl, Nat.le_of_ble_eq_true rfl⟩) (pre_S hW hB_G_10 hK hZ hS) rfl rfl hl.1 rfl (lv_room (Nat.le_of_ble_eq_true rfl)) dX11_chance_96 ⟨Nat.le_of_ble_eq_true rfl, Nat.le_of_ble_eq_true rfl⟩) hS (fun r_23 G_24 H locs hpo hW hS => ?_)
          have hX_27 : P_gcd x_15 x_16 G_10 r_23 G_24 := hpo
          obtain ⟨hB_G_24, hq_25, -⟩ := hpo
          have hF := hF.call9 hq_25 rfl rfl
          refine lv_lstore (lv' := [(8, .long r_23), (6, .long x_15), (4, .long x_16), (0, .ref (a 0)), (1, .int p0), (2, .int p1), (3, .int p2)]) hx hb dX11_chance_99 hl (lt_b rfl) rfl (fun ls hl => ?_)
          refine lv_lload hx hb dX11_chance_101 (lv_at hl 0 rfl) ?_
          refine lv_lconst (v := 0) hx hb dX11_chance_103 (by decide) ?_
          refine W.lcmp hx hb dX11_chance_104 ?_
          refine lv_topi (fun y_28 ey_28 => ?_)
          have ty_28 := lcmp_rng ey_28
          refine lv_if_ne (tgt := 112) hx hb dX11_chance_105 rfl (fun c_29 => ?_) (fun c_29 => ?_)
          · have c_29 : y_28.toInt ≠ 0 := xI_ne rfl rfl c_29
            refine lv_iload_n hx hb dX11_chance_112 rfl (lv_at hl 5 rfl) ?_
            refine lv_if_ne (tgt := 124) hx hb dX11_chance_113 rfl (fun c_30 => ?_) (fun c_30 => ?_)
            · have c_30 : p1.toInt ≠ 0 := xI_ne rfl rfl c_30
              refine lv_lload hx hb dX11_chance_124 (lv_at hl 1 rfl) ?_
              refine lv_lload hx hb dX11_chance_126 (lv_at hl 0 rfl) ?_
              refine lv_ldiv hx hb dX11_chance_128 (lc_ne ey_28 (by first | (clear f_6 hp_4 c_7 c_8 c_9 hn_20 f_19 b_21 c_22 c_30; omega) | omega)) ?_
              refine lv_topl (fun y_31 ey_31 => ?_)
              exact W.lret (v := y_31) hx hb hr (fun t ht _ => ⟨⟨y_31, G_24, rfl, (P_Wchance_2_mk ⟨hB_G_24, hF, ⟨r_1, G_2, hX_5, (Or.inr ⟨c_7, (Or.inr ⟨c_8, (Or.inl ⟨c_9, ⟨x_14, x_15, x_16, G_10, hX_17, f_19, hB_G_10, hq_11, ⟨c_22, ⟨r_23, G_24, hX_27, ⟨y_28, ey_28, (Or.inr ⟨c_29, (Or.inr ⟨c_30, ⟨y_31, ey_31, ⟨rfl, rfl⟩⟩⟩)⟩)⟩⟩⟩⟩⟩)⟩)⟩)⟩⟩), wd_t ht hW⟩, hS.F ht⟩) hS.2.2 dX11_chance_129
            · have c_30 : p1.toInt = 0 := xI_eq rfl rfl c_30
              refine lv_lload hx hb dX11_chance_116 (lv_at hl 2 rfl) ?_
              refine lv_lload hx hb dX11_chance_118 (lv_at hl 0 rfl) ?_
              refine lv_ldiv hx hb dX11_chance_120 (lc_ne ey_28 (by first | (clear f_6 hp_4 c_7 c_8 c_9 hn_20 f_19 b_21 c_22 c_30; omega) | omega)) ?_
              refine lv_topl (fun y_32 ey_32 => ?_)
              refine lv_goto (tgt := 129) hx hb dX11_chance_121 rfl ?_
              exact W.lret (v := y_32) hx hb hr (fun t ht _ => ⟨⟨y_32, G_24, rfl, (P_Wchance_2_mk ⟨hB_G_24, hF, ⟨r_1, G_2, hX_5, (Or.inr ⟨c_7, (Or.inr ⟨c_8, (Or.inl ⟨c_9, ⟨x_14, x_15, x_16, G_10, hX_17, f_19, hB_G_10, hq_11, ⟨c_22, ⟨r_23, G_24, hX_27, ⟨y_28, ey_28, (Or.inr ⟨c_29, (Or.inl ⟨c_30, ⟨y_32, ey_32, ⟨rfl, rfl⟩⟩⟩)⟩)⟩⟩⟩⟩⟩)⟩)⟩)⟩⟩), wd_t ht hW⟩, hS.F ht⟩) hS.2.2 dX11_chance_129
          · have c_29 : y_28.toInt = 0 := xI_eq rfl rfl c_29
            refine lv_ldc2 (v := (-1)) hx hb hown (hg (Cond.constantLong RX11 165 (-1)) m1018) dX11_chance_108 ?_
            exact W.lret (v := (-1)) hx hb hr (fun t ht _ => ⟨⟨(-1), G_24, rfl, (P_Wchance_2_mk ⟨hB_G_24, hF, ⟨r_1, G_2, hX_5, (Or.inr ⟨c_7, (Or.inr ⟨c_8, (Or.inl ⟨c_9, ⟨x_14, x_15, x_16, G_10, hX_17, f_19, hB_G_10, hq_11, ⟨c_22, ⟨r_23, G_24, hX_27, ⟨y_28, ey_28, (Or.inl ⟨c_29, ⟨rfl, rfl⟩⟩)⟩⟩⟩⟩⟩)⟩)⟩)⟩⟩), wd_t ht hW⟩, hS.F ht⟩) hS.2.2 dX11_chance_111
        · have c_22 : x_14.toInt < (G.1 31 5).toInt := xI_nle rfl rfl c_22
          refine lv_aload_n hx hb dX11_chance_45 rfl (lv_at hl 3 rfl) ?_
          refine S_getR (n := 31) (C := RX11) (T := TX11) (N := 13) hx hb hg iX11 hown hK hW kd_0 rfl 9 (lt_b rfl) (hg (Cond.fieldLink RX11 72 "SlabWalk" "sights" "LSlabWalk$Sights;") m579) (fun _ h9 => h9) rfl dX11_chance_46 ?_
          refine lv_iload hx hb dX11_chance_49 (lv_at hl 0 rfl) ?_
          refine lv_iload_n hx hb dX11_chance_51 rfl (lv_at hl 6 rfl) ?_
          refine S_calli (va_runV (As := [.int x_14, .int p2]) (rest := []) ⟨hx, hb, hml, hown, hts⟩ (k_sCounts l D k A a z G_10 x_14 p2 ⟨(by first | exact f_19.1 | omega), (by first | exact ok_472 f_19.2 b_21.2 c_22 | omega)⟩) (cwV 2 hts (gd_V hgd m1271 m1272 m1273 m128 m1274) rfl rfl rfl hd_X8_counts ⟨Nat.le_of_ble_eq_true rfl, Nat.le_of_ble_eq_true rfl⟩) (pre_W hW hB_G_10 hK hZ hS kd_31 rfl) rfl rfl hl.1 rfl (lv_room (Nat.le_of_ble_eq_true rfl)) dX11_chance_52 ⟨Nat.le_of_ble_eq_true rfl, Nat.le_of_ble_eq_true rfl⟩) hS (fun r_33 G_34 H locs hpo hW hS => ?_)
          have hX_37 : P_sCounts x_14 p2 G_10 r_33 G_34 := hpo
          obtain ⟨hB_G_34, hq_35, f_38, -⟩ := hpo
          have hF := hF.call9 hq_35 rfl rfl
          refine lv_if_eq (tgt := 86) hx hb dX11_chance_55 rfl (fun c_39 => ?_) (fun c_39 => ?_)
          · have c_39 : r_33.toInt = 0 := xI_eq rfl rfl c_39
            obtain ⟨y_40, ey_40⟩ : ∃ q, q = x_14 + 1 := ⟨_, rfl⟩
            have ty_40 : y_40.toInt = x_14.toInt + 1 := xI_add rfl rfl ey_40 ((by first | exact ok_21 f_19.1 | omega)) ((by first | exact ok_196 f_19.2 | omega))
            refine lv_iinc (v := y_40) (lv' := [(8, .int y_40), (6, .long x_15), (4, .long x_16), (0, .ref (a 0)), (1, .int p0), (2, .int p1), (3, .int p2)]) hx hb dX11_chance_86 hl (k := 0) rfl (by rw [ey_40]; rfl) (lt_b rfl) rfl (fun ls hl => ?_)
            refine lv_goto (tgt := 33) hx hb dX11_chance_89 rfl ?_
            exact ih_12 (20 - y_40.toInt : Int).toNat ((by first | (clear f_6 hp_4 c_7 c_8 c_9 f_38 c_39; omega) | omega)) _ _ _ ⟨G_34, y_40, x_15, x_16, (Int.toNat_of_nonneg ((by first | exact ok_473 f_19.2 b_21.2 c_22 ty_40 | omega))), ⟨(by first | exact ok_23 f_19.1 ty_40 | omega), (by first | exact ok_474 f_19.2 b_21.2 c_22 ty_40 | omega)⟩, (hX_17.st (St_k_Wchance_2_1_mk ⟨x_14, x_15, x_16, G_10, y_40, x_15, x_16, G_34, rfl, rfl, f_19, hB_G_10, ⟨c_22, ⟨r_33, G_34, hX_37, (Or.inl ⟨c_39, ⟨y_40, ty_40, ⟨rfl, rfl, rfl, rfl⟩⟩⟩)⟩⟩⟩)), hW, hB_G_34, hF, (Fr.call9 (rs := [37, 38, 39]) (fs := [(6, 3)]) (Fr.call9 (rs := [37, 38, 39]) (fs := [(6, 3)]) Fr.rf hq_11 rfl rfl) hq_35 rfl rfl), hS, lv_sub hl [0, 1, 2, 3, 4, 5, 6] rfl⟩
          · have c_39 : r_33.toInt ≠ 0 := xI_ne rfl rfl c_39
            refine lv_lload hx hb dX11_chance_58 (lv_at hl 2 rfl) ?_
            refine lv_aload_n hx hb dX11_chance_60 rfl (lv_at hl 3 rfl) ?_
            refine lv_iload hx hb dX11_chance_61 (lv_at hl 0 rfl) ?_
            refine lv_iload_n hx hb dX11_chance_63 rfl (lv_at hl 4 rfl) ?_
            refine ic_1 hx hb dX11_chance_64 ?_
            refine S_calli (va_runV (As := [.int x_14, .int p0, .int 1]) (rest := [.long x_16]) ⟨hx, hb, hml, hown, hts⟩ (k_wNear_2 l D k A a z G_34 x_14 p0 1 ⟨(by first | exact f_19.1 | omega), (by first | exact ok_472 f_19.2 b_21.2 c_22 | omega)⟩ ⟨by decide, by decide⟩ ((((hq_35.r9 0 0 rfl rfl).trans ((hq_11.r9 0 0 rfl rfl).trans (hq_3.r9 0 0 rfl rfl)))).trans (hv_0_0)) ((((hq_35.r9 0 1 rfl rfl).trans ((hq_11.r9 0 1 rfl rfl).trans (hq_3.r9 0 1 rfl rfl)))).trans (hv_0_1)) ((((hq_35.r9 6 4 rfl rfl).trans ((hq_11.r9 6 4 rfl rfl).trans (hq_3.r9 6 4 rfl rfl)))).trans (hv_6_4))) (cwV 3 hts (gd_V hgd m1283 m1285 m47 m117 m1286) rfl rfl rfl hd_X11_heelsNear ⟨Nat.le_of_ble_eq_true rfl, Nat.le_of_ble_eq_true rfl⟩) (pre_W hW hB_G_34 hK hZ hS kd_0 rfl) rfl rfl hl.1 rfl (lv_room (Nat.le_of_ble_eq_true rfl)) dX11_chance_65 ⟨Nat.le_of_ble_eq_true rfl, Nat.le_of_ble_eq_true rfl⟩) hS (fun r_41 G_42 H locs hpo hW hS => ?_)
            have hX_45 : P_wNear_2 x_14 p0 1 G_34 r_41 G_42 := hpo
            obtain ⟨hB_G_42, hq_43, -⟩ := hpo
            have hF := hF.call9 hq_43 rfl rfl
            refine lv_i2l hx hb dX11_chance_68 rfl ?_
            refine lv_topl (fun y_46 ey_46 => ?_)
            refine lv_lmul hx hb dX11_chance_69 ?_
            refine lv_topl (fun y_47 ey_47 => ?_)
            refine lv_lstore (lv' := [(4, .long y_47), (8, .int x_14), (6, .long x_15), (0, .ref (a 0)), (1, .int p0), (2, .int p1), (3, .int p2)]) hx hb dX11_chance_70 hl (lt_b rfl) rfl (fun ls hl => ?_)
            refine lv_lload hx hb dX11_chance_72 (lv_at hl 2 rfl) ?_
            refine lv_aload_n hx hb dX11_chance_74 rfl (lv_at hl 3 rfl) ?_
            refine lv_iload hx hb dX11_chance_75 (lv_at hl 1 rfl) ?_
            refine lv_iload_n hx hb dX11_chance_77 rfl (lv_at hl 4 rfl) ?_
            refine ic_0 hx hb dX11_chance_78 ?_
            refine S_calli (va_runV (As := [.int x_14, .int p0, .int 0]) (rest := [.long x_15]) ⟨hx, hb, hml, hown, hts⟩ (k_wNear_2 l D k A a z G_42 x_14 p0 0 ⟨(by first | exact f_19.1 | omega), (by first | exact ok_472 f_19.2 b_21.2 c_22 | omega)⟩ ⟨by decide, by decide⟩ ((((hq_43.r9 0 0 rfl rfl).trans ((hq_35.r9 0 0 rfl rfl).trans ((hq_11.r9 0 0 rfl rfl).trans (hq_3.r9 0 0 rfl rfl))))).trans (hv_0_0)) ((((hq_43.r9 0 1 rfl rfl).trans ((hq_35.r9 0 1 rfl rfl).trans ((hq_11.r9 0 1 rfl rfl).trans (hq_3.r9 0 1 rfl rfl))))).trans (hv_0_1)) ((((hq_43.r9 6 4 rfl rfl).trans ((hq_35.r9 6 4 rfl rfl).trans ((hq_11.r9 6 4 rfl rfl).trans (hq_3.r9 6 4 rfl rfl))))).trans (hv_6_4))) (cwV 3 hts (gd_V hgd m1283 m1285 m47 m117 m1286) rfl rfl rfl hd_X11_heelsNear ⟨Nat.le_of_ble_eq_true rfl, Nat.le_of_ble_eq_true rfl⟩) (pre_W hW hB_G_42 hK hZ hS kd_0 rfl) rfl rfl hl.1 rfl (lv_room (Nat.le_of_ble_eq_true rfl)) dX11_chance_79 ⟨Nat.le_of_ble_eq_true rfl, Nat.le_of_ble_eq_true rfl⟩) hS (fun r_48 G_49 H locs hpo hW hS => ?_)
            have hX_52 : P_wNear_2 x_14 p0 0 G_42 r_48 G_49 := hpo
            obtain ⟨hB_G_49, hq_50, -⟩ := hpo
            have hF := hF.call9 hq_50 rfl rfl
            refine lv_i2l hx hb dX11_chance_82 rfl ?_
            refine lv_topl (fun y_53 ey_53 => ?_)
            refine lv_lmul hx hb dX11_chance_83 ?_
            refine lv_topl (fun y_54 ey_54 => ?_)
            refine lv_lstore (lv' := [(6, .long y_54), (4, .long y_47), (8, .int x_14), (0, .ref (a 0)), (1, .int p0), (2, .int p1), (3, .int p2)]) hx hb dX11_chance_84 hl (lt_b rfl) rfl (fun ls hl => ?_)
            obtain ⟨y_55, ey_55⟩ : ∃ q, q = x_14 + 1 := ⟨_, rfl⟩
            have ty_55 : y_55.toInt = x_14.toInt + 1 := xI_add rfl rfl ey_55 ((by first | exact ok_21 f_19.1 | omega)) ((by first | exact ok_196 f_19.2 | omega))
            refine lv_iinc (v := y_55) (lv' := [(8, .int y_55), (6, .long y_54), (4, .long y_47), (0, .ref (a 0)), (1, .int p0), (2, .int p1), (3, .int p2)]) hx hb dX11_chance_86 hl (k := 2) rfl (by rw [ey_55]; rfl) (lt_b rfl) rfl (fun ls hl => ?_)
            refine lv_goto (tgt := 33) hx hb dX11_chance_89 rfl ?_
            exact ih_12 (20 - y_55.toInt : Int).toNat ((by first | (clear f_6 hp_4 c_7 c_8 c_9 f_38 c_39; omega) | omega)) _ _ _ ⟨G_49, y_55, y_54, y_47, (Int.toNat_of_nonneg ((by first | exact ok_473 f_19.2 b_21.2 c_22 ty_55 | omega))), ⟨(by first | exact ok_23 f_19.1 ty_55 | omega), (by first | exact ok_474 f_19.2 b_21.2 c_22 ty_55 | omega)⟩, (hX_17.st (St_k_Wchance_2_1_mk ⟨x_14, x_15, x_16, G_10, y_55, y_54, y_47, G_49, rfl, rfl, f_19, hB_G_10, ⟨c_22, ⟨r_33, G_34, hX_37, (Or.inr ⟨c_39, ⟨r_41, G_42, hX_45, ⟨y_46, ey_46, ⟨y_47, ey_47, ⟨r_48, G_49, hX_52, ⟨y_53, ey_53, ⟨y_54, ey_54, ⟨y_55, ty_55, ⟨rfl, rfl, rfl, rfl⟩⟩⟩⟩⟩⟩⟩⟩⟩)⟩⟩⟩)), hW, hB_G_49, hF, (Fr.call9 (rs := [37, 38, 39]) (fs := [(6, 3)]) (Fr.call9 (rs := [37, 38, 39]) (fs := [(6, 3)]) (Fr.call9 (rs := [37, 38, 39]) (fs := [(6, 3)]) (Fr.call9 (rs := [37, 38, 39]) (fs := [(6, 3)]) Fr.rf hq_11 rfl rfl) hq_35 rfl rfl) hq_43 rfl rfl) hq_50 rfl rfl), hS, lv_sub hl [0, 1, 2, 3, 4, 5, 6] rfl⟩
      · have c_9 : 1 < p1.toInt := xI_nle rfl rfl c_9
        refine lv_ldc2 (v := (-1)) hx hb hown (hg (Cond.constantLong RX11 165 (-1)) m1018) dX11_chance_20 ?_
        exact W.lret (v := (-1)) hx hb hr (fun t ht _ => ⟨⟨(-1), G_2, rfl, (P_Wchance_2_mk ⟨hB_G_2, hF, ⟨r_1, G_2, hX_5, (Or.inr ⟨c_7, (Or.inr ⟨c_8, (Or.inr ⟨c_9, ⟨rfl, rfl⟩⟩)⟩)⟩)⟩⟩), wd_t ht hW⟩, hS.F ht⟩) hS.2.2 dX11_chance_23



set_option maxHeartbeats 4000000 in
set_option maxRecDepth 100000 in
theorem k_Wpavement_2 (l : Launch) (D : va_G) (k : KT) (A : Nat → Prop) (a : Nat → Nat) (z : SK) (G : GS)  (hv_0_0 : G.2.2 0 0 = 2) (hv_0_1 : G.2.2 0 1 = 1) (hv_6_4 : G.2.2 6 4 = 2) (he : (G.1 30 4).toInt + (G.1 30 5).toInt ≤ 40) : Met l yX11_pavement (WS yX11_pavement cX11_pavement 3 (some .int)) ({ frames := 102, cells := 0, slots := 0, locals := 2194 }) (va_Pc [.ref (a 0)] (cW D k A a z G)) (va_Qi (fun (r : Int32) (G1 : GS) => P_Wpavement_2 G r G1) (fun (G1 : GS) t => Wd D k A a G1 t.heap) A) 0 0 A := by
  refine Met.ofW (cc := cX11_pavement) (maxL := 3) (ret := (some .int)) (by decide) rfl ?_
  intro p e s m args below meth c s₁ B hml hv
  obtain ⟨rfl, hW, hB_G, hK, hZ⟩ := hv
  have hx := B.exec
  have hb := B.bytes
  have hr := B.returns
  have hts := atoms_spec (ws := WS yX11_pavement cX11_pavement 3 (some .int)) B.pre
  have hgd : ∀ w ∈ gd, w ∈ WS yX11_pavement cX11_pavement 3 (some .int) := fun w h => List.mem_cons_of_mem _ h
  have hg : ∀ w ∈ gd, w.before _ s = true := fun w h => hts w (hgd w h)
  have hown : s.vm.findClass RX11 = some m.cls := findClass_of_methodNamed B.named
  have hS : va_S A s.heap s.heap [] := va_S.rf
  have hF : Fr [10, 11, 12, 13, 14, 15, 16, 17, 18, 34, 35, 36, 38, 58, 59] [(0, 0), (0, 1), (0, 11), (0, 12), (1, 9), (1, 10), (1, 11), (1, 12), (1, 13), (1, 14), (1, 15), (1, 16), (3, 1), (3, 2), (3, 3), (3, 4), (3, 5), (3, 6), (3, 7), (3, 8), (4, 1), (4, 2), (5, 5), (5, 6), (5, 7), (5, 8), (5, 9), (6, 4), (30, 3), (30, 4), (30, 5), (31, 5)] G G := Fr.rf
  have hl := lv_entry ([.ref (a 0)]) (n := 3) (Nat.le_of_ble_eq_true rfl)
  rw [lg_entry_eq]
  generalize (lg_sl ([.ref (a 0)]) ++ List.replicate (3 - (lg_sl ([.ref (a 0)])).length) Slot.unset).toArray = ls at hl ⊢
  have hl : lv_has ls 3 [(0, .ref (a 0))] := hl
  refine lv_aload_n hx hb dX11_pavement_0 rfl (lv_at hl 0 rfl) ?_
  refine S_getR (n := 5) (C := RX11) (T := TX11) (N := 13) hx hb hg iX11 hown hK hW kd_0 rfl 3 (lt_b rfl) (hg (Cond.fieldLink RX11 28 "SlabWalk" "reader" "LSlabWalk$Reader;") m573) (fun _ h9 => h9) rfl dX11_pavement_1 ?_
  refine lv_aload_n hx hb dX11_pavement_4 rfl (lv_at hl 0 rfl) ?_
  have b_1 : 0 ≤ (G.1 0 11).toInt ∧ (G.1 0 11).toInt ≤ 1600 := bd_0_11 hB_G
  refine S_getI (v := (G.1 0 11)) (C := RX11) (T := TX11) (N := 13) hx hb hg iX11 hown hK hW kd_0 rfl 11 (lt_b rfl) (hg (Cond.fieldLink RX11 83 "SlabWalk" "taped" "I") m581) (fun _ h9 => h9) rfl rfl dX11_pavement_5 ?_
  refine lv_aload_n hx hb dX11_pavement_8 rfl (lv_at hl 0 rfl) ?_
  refine S_getV (n := 1) (C := RX11) (T := TX11) (N := 13) hx hb hg iX11 hown hK hW kd_0 rfl 1 (lt_b rfl) (hg (Cond.fieldLink RX11 16 "SlabWalk" "spare" "LSlabWalk$Paving;") m571) (fun _ h9 => h9) rfl hv_0_1 dX11_pavement_9 ?_
  refine S_calli (va_runV (As := [.int (G.1 0 11), .ref (a 1)]) (rest := []) ⟨hx, hb, hml, hown, hts⟩ (k_rRead_1 l D k A a z G (G.1 0 11) ⟨(by first | exact b_1.1 | omega), (by first | exact b_1.2 | omega)⟩) (cwV 2 hts (gd_V hgd m626 m627 m628 m119 m629) rfl rfl rfl hd_X7_read ⟨Nat.le_of_ble_eq_true rfl, Nat.le_of_ble_eq_true rfl⟩) (pre_W hW hB_G hK hZ hS kd_5 rfl) rfl rfl hl.1 rfl (lv_room (Nat.le_of_ble_eq_true rfl)) dX11_pavement_12 ⟨Nat.le_of_ble_eq_true rfl, Nat.le_of_ble_eq_true rfl⟩) hS (fun r_2 G_3 H locs hpo hW hS => ?_)
  have hX_6 : P_rRead_1 (G.1 0 11) G r_2 G_3 := hpo
  obtain ⟨hB_G_3, hq_4, f_7, -⟩ := hpo
  have hF := hF.call9 hq_4 rfl rfl
  refine lv_istore_n (lv' := [(1, .int r_2), (0, .ref (a 0))]) hx hb dX11_pavement_15 rfl hl (lt_b rfl) rfl (fun ls hl => ?_)
  refine lv_aload_n hx hb dX11_pavement_16 rfl (lv_at hl 1 rfl) ?_
  refine ic_0 hx hb dX11_pavement_17 ?_
  refine S_putI (ty := .int) (C := RX11) (T := TX11) (N := 13) hx hb hg iX11 tyX11 tyX11_ok nmX11 hown hK hW hS kd_0 rfl 11 (lt_b rfl) (hg (Cond.fieldLink RX11 83 "SlabWalk" "taped" "I") m581) (fun _ h9 => h9) rfl (by decide +kernel) rfl rfl rfl dX11_pavement_18 (fun G_8 H locs eG_8 hW hS => ?_)
  have hB_G_8 : Bd G_8 := hB_G_3.put (V := 0) (lo := 0) (hi := 1600) eG_8 rfl rfl rfl (by decide) (by decide) (hB_G_3.2.put eG_8 rfl)
  have hF := hF.put eG_8 (Or.inr (by decide))
  refine lv_iload_n hx hb dX11_pavement_21 rfl (lv_at hl 0 rfl) ?_
  refine lv_if_ne (tgt := 27) hx hb dX11_pavement_22 rfl (fun c_9 => ?_) (fun c_9 => ?_)
  · have c_9 : r_2.toInt ≠ 0 := xI_ne rfl rfl c_9
    refine lv_aload_n hx hb dX11_pavement_27 rfl (lv_at hl 1 rfl) ?_
    refine S_getV (n := 1) (C := RX11) (T := TX11) (N := 13) hx hb hg iX11 hown hK hW kd_0 rfl 1 (lt_b rfl) (hg (Cond.fieldLink RX11 16 "SlabWalk" "spare" "LSlabWalk$Paving;") m571) (fun _ h9 => h9) rfl ((((congrFun (congrFun (congrArg (fun q => q.2.2) eG_8) 0) 1).trans (hq_4.r9 0 1 rfl rfl))).trans (hv_0_1)) dX11_pavement_28 ?_
    refine lv_astore_n (lv' := [(2, .ref (a 1)), (1, .int r_2), (0, .ref (a 0))]) hx hb dX11_pavement_31 rfl hl (lt_b rfl) rfl (fun ls hl => ?_)
    refine lv_aload_n hx hb dX11_pavement_32 rfl (lv_at hl 2 rfl) ?_
    refine lv_aload_n hx hb dX11_pavement_33 rfl (lv_at hl 2 rfl) ?_
    refine S_getV (n := 2) (C := RX11) (T := TX11) (N := 13) hx hb hg iX11 hown hK hW kd_0 rfl 0 (lt_b rfl) (hg (Cond.fieldLink RX11 10 "SlabWalk" "paving" "LSlabWalk$Paving;") m570) (fun _ h9 => h9) rfl ((((congrFun (congrFun (congrArg (fun q => q.2.2) eG_8) 0) 0).trans (hq_4.r9 0 0 rfl rfl))).trans (hv_0_0)) dX11_pavement_34 ?_
    refine S_putV (ty := .object "SlabWalk$Paving") (n := 2) (C := RX11) (T := TX11) (N := 13) hx hb hg iX11 tyX11 tyX11_ok nmX11 hown hK hW hS kd_0 rfl 1 (lt_b rfl) (hg (Cond.fieldLink RX11 16 "SlabWalk" "spare" "LSlabWalk$Paving;") m571) (fun _ h9 => h9) rfl (by decide +kernel) rfl rfl rfl dX11_pavement_37 (fun G_10 H locs eG_10 hW hS => ?_)
    have hB_G_10 : Bd G_10 := hB_G_8.putr eG_10 (by decide) (by decide)
    have hF := hF.putr eG_10 (Or.inr (by decide))
    refine lv_aload_n hx hb dX11_pavement_40 rfl (lv_at hl 2 rfl) ?_
    refine lv_aload_n hx hb dX11_pavement_41 rfl (lv_at hl 0 rfl) ?_
    refine S_putV (ty := .object "SlabWalk$Paving") (n := 1) (C := RX11) (T := TX11) (N := 13) hx hb hg iX11 tyX11 tyX11_ok nmX11 hown hK hW hS kd_0 rfl 0 (lt_b rfl) (hg (Cond.fieldLink RX11 10 "SlabWalk" "paving" "LSlabWalk$Paving;") m570) (fun _ h9 => h9) rfl (by decide +kernel) rfl rfl rfl dX11_pavement_42 (fun G_11 H locs eG_11 hW hS => ?_)
    have hB_G_11 : Bd G_11 := hB_G_10.putr eG_11 (by decide) (by decide)
    have hF := hF.putr eG_11 (Or.inr (by decide))
    refine lv_aload_n hx hb dX11_pavement_45 rfl (lv_at hl 2 rfl) ?_
    refine S_callv (va_runV (As := []) (rest := []) ⟨hx, hb, hml, hown, hts⟩ (k_wStart_1 l D k A a z G_11  (gp_re eG_11)) (cwV 0 hts (gd_V hgd m547 m549 m0 m117 m550) rfl rfl rfl hd_X11_startAnew ⟨Nat.le_of_ble_eq_true rfl, Nat.le_of_ble_eq_true rfl⟩) (pre_W hW hB_G_11 hK hZ hS kd_0 rfl) rfl rfl hl.1 rfl (lv_room (Nat.le_of_ble_eq_true rfl)) dX11_pavement_46 ⟨Nat.le_of_ble_eq_true rfl, Nat.le_of_ble_eq_true rfl⟩) hS (fun G_13 H locs hpo hW hS => ?_)
    have hX_16 : P_wStart_1 G_11 G_13 := hpo
    obtain ⟨hB_G_13, hq_14, hp_15, -⟩ := hpo
    have hF := hF.call9 hq_14 rfl rfl
    refine lv_aload_n hx hb dX11_pavement_49 rfl (lv_at hl 2 rfl) ?_
    refine S_getV (n := 1) (C := RX11) (T := TX11) (N := 13) hx hb hg iX11 hown hK hW kd_0 rfl 0 (lt_b rfl) (hg (Cond.fieldLink RX11 10 "SlabWalk" "paving" "LSlabWalk$Paving;") m570) (fun _ h9 => h9) rfl ((hq_14.r9 0 0 rfl rfl).trans (gp_re eG_11)) dX11_pavement_50 ?_
    have b_17 : 0 ≤ (G_3.1 1 9).toInt ∧ (G_3.1 1 9).toInt ≤ 3 := bd_1_9 hB_G_3
    refine S_getI (v := (G_3.1 1 9)) (C := RX6) (T := TX6) (N := 17) hx hb hg iX6 hown hK hW kd_1 rfl 9 (lt_b rfl) (hg (Cond.fieldLink RX11 95 "SlabWalk$Paving" "streets" "I") m187) (fun _ h9 => h9) rfl ((hq_14.i9 1 9 rfl rfl).trans ((congrFun (congrFun (gp_r eG_11).1 1) 9).trans ((congrFun (congrFun (gp_r eG_10).1 1) 9).trans (gp_ne eG_8 (by decide))))) dX11_pavement_53 ?_
    have g_18 : (G_13.1 0 11).toInt = 0 := (congrArg Int32.toInt (show G_13.1 0 11 = 0 from ((hq_14.i9 0 11 rfl rfl).trans ((congrFun (congrFun (gp_r eG_11).1 0) 11).trans ((congrFun (congrFun (gp_r eG_10).1 0) 11).trans (gp_eq eG_8)))))).trans rfl
    have b_19 : 0 ≤ (G_13.1 30 4).toInt ∧ (G_13.1 30 4).toInt ≤ 40 := bd_30_4 hB_G_13
    have b_20 : 0 ≤ (G_13.1 30 5).toInt ∧ (G_13.1 30 5).toInt ≤ 40 := bd_30_5 hB_G_13
    exact W.iret (v := (G_3.1 1 9)) hx hb hr (fun t ht _ => ⟨⟨(G_3.1 1 9), G_13, rfl, (P_Wpavement_2_mk ⟨hB_G_13, hF, (⟨by omega, by omega, Or.inr ⟨((hq_14.r9 0 0 rfl rfl).trans (gp_re eG_11)), ((hq_14.r9 0 1 rfl rfl).trans ((gp_rn eG_11 (by decide)).trans (gp_re eG_10))), hp_15.2⟩⟩), ⟨r_2, G_3, hX_6, (Or.inr ⟨c_9, ⟨G_11, hB_G_11, (Fr.putr (rs := []) (fs := [(0, 0), (0, 1), (0, 11)]) (Fr.putr (rs := []) (fs := [(0, 0), (0, 1), (0, 11)]) (Fr.put (rs := []) (fs := [(0, 0), (0, 1), (0, 11)]) Fr.rf eG_8 (Or.inr (by decide))) eG_10 (Or.inr (by decide))) eG_11 (Or.inr (by decide))), (gp_re eG_11), ((gp_rn eG_11 (by decide)).trans (gp_re eG_10)), ((congrFun (congrFun (gp_r eG_11).1 0) 11).trans ((congrFun (congrFun (gp_r eG_10).1 0) 11).trans (gp_eq eG_8))), ⟨G_13, hX_16, ⟨rfl, rfl⟩⟩⟩⟩)⟩⟩), wd_t ht hW⟩, hS.F ht⟩) hS.2.2 dX11_pavement_56
  · have c_9 : r_2.toInt = 0 := xI_eq rfl rfl c_9
    refine ic_m1 hx hb dX11_pavement_25 ?_
    have g_21 : (G_8.1 0 11).toInt = 0 := (congrArg Int32.toInt (show G_8.1 0 11 = 0 from (gp_eq eG_8))).trans rfl
    have b_22 : 0 ≤ (G.1 30 4).toInt ∧ (G.1 30 4).toInt ≤ 40 := bd_30_4 hB_G
    have g_23 : (G_8.1 30 4).toInt = (G.1 30 4).toInt := (congrArg Int32.toInt (show G_8.1 30 4 = (G.1 30 4) from ((gp_ne eG_8 (by decide)).trans (hq_4.i9 30 4 rfl rfl))))
    have b_24 : 0 ≤ (G.1 30 5).toInt ∧ (G.1 30 5).toInt ≤ 40 := bd_30_5 hB_G
    have g_25 : (G_8.1 30 5).toInt = (G.1 30 5).toInt := (congrArg Int32.toInt (show G_8.1 30 5 = (G.1 30 5) from ((gp_ne eG_8 (by decide)).trans (hq_4.i9 30 5 rfl rfl))))
    exact W.iret (v := (-1)) hx hb hr (fun t ht _ => ⟨⟨(-1), G_8, rfl, (P_Wpavement_2_mk ⟨hB_G_8, hF, (⟨by omega, by omega, Or.inl ⟨(((congrFun (congrFun (congrArg (fun q => q.2.2) eG_8) 0) 0).trans (hq_4.r9 0 0 rfl rfl))).trans hv_0_0, (((congrFun (congrFun (congrArg (fun q => q.2.2) eG_8) 0) 1).trans (hq_4.r9 0 1 rfl rfl))).trans hv_0_1, (((congrFun (congrFun (congrArg (fun q => q.2.2) eG_8) 6) 4).trans (hq_4.r9 6 4 rfl rfl))).trans hv_6_4⟩⟩), ⟨r_2, G_3, hX_6, (Or.inl ⟨c_9, ⟨rfl, (Fr.put (rs := []) (fs := [(0, 11)]) Fr.rf eG_8 (Or.inr (by decide))), (gp_eq eG_8)⟩⟩)⟩⟩), wd_t ht hW⟩, hS.F ht⟩) hS.2.2 dX11_pavement_26
