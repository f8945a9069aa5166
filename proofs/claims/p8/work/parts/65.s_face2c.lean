

set_option maxHeartbeats 4000000 in
set_option maxRecDepth 100000 in
theorem k_Wpavement_2 (l : Launch) (D : va_G) (k : KT) (A : Nat → Prop) (a : Nat → Nat) (z : SK) (G : GS)  (hv_0_0 : G.2.2 0 0 = 2) (hv_0_1 : G.2.2 0 1 = 1) (hv_6_4 : G.2.2 6 4 = 2) (he : (G.1 30 4).toInt + (G.1 30 5).toInt ≤ 40) : Met l yX11_pavement (WS yX11_pavement cX11_pavement 3 (some .int)) ({ frames := 102, cells := 0, slots := 0, locals := 2194 }) (va_Pc [.ref (a 0)] (cW D k A a z G)) (va_Qi (fun (r : Int32) (G1 : GS) => P_Wpavement_2 G r G1) (fun (G1 : GS) t => Wd D k A a G1 t.heap) A) 0 0 A := by
  refine Met.ofW (cc := cX11_pavement) (maxL := 3) (ret := (some .int)) (by decide) rfl ?_
  intro p e s m args below meth c s₁ B hml hv
  obtain ⟨rfl, hW, hB_G, hK, hZ⟩ := hv
  have hx := B.exec
  have hb := B.bytes
  have hr := B.returns
  have hts := atoms_spec (ws := WS yX11_pavement cX11_pavement 3 (some .int)) B.pre
  have hgd : ∀ w ∈ gd, w ∈ WS yX11_pavement cX11_pavement 3 (some .int) := fun w h => List.mem_cons_of_mem _ h
  have hg : ∀ w ∈ gd, w.before _ s = true := fun w h => hts w (hgd w h)
  have hown : s.vm.findClass RX11 = some m.cls := findClass_of_methodNamed B.named
  have hS : va_S A s.heap s.heap [] := va_S.rf
  have hF : Fr [10, 11, 12, 13, 14, 15, 16, 17, 18, 34, 35, 36, 38, 58, 59] [(0, 0), (0, 1), (0, 11), (0, 12), (1, 9), (1, 10), (1, 11), (1, 12), (1, 13), (1, 14), (1, 15), (1, 16), (3, 1), (3, 2), (3, 3), (3, 4), (3, 5), (3, 6), (3, 7), (3, 8), (4, 1), (4, 2), (5, 5), (5, 6), (5, 7), (5, 8), (5, 9), (6, 4), (30, 3), (30, 4), (30, 5), (31, 5)] G G := Fr.rf
  have hl := lv_entry ([.ref (a 0)]) (n := 3) (Nat.le_of_ble_eq_true rfl)
  rw [lg_entry_eq]
  generalize (lg_sl ([.ref (a 0)]) ++ List.replicate (3 - (lg_sl ([.ref (a 0)])).length) Slot.unset).toArray = ls at hl ⊢
  have hl : lv_has ls 3 [(0, .ref (a 0))] := hl
  refine lv_aload_n hx hb dX11_pavement_0 rfl (lv_at hl 0 rfl) ?_
  refine S_getR (n := 5) (C := RX11) (T := TX11) (N := 13) hx hb hg iX11 hown hK hW kd_0 rfl 3 (lt_b rfl) (hg (Cond.fieldLink RX11 28 "SlabWalk" "reader" "LSlabWalk$Reader;") m573) (fun _ h9 => h9) rfl dX11_pavement_1 ?_
  refine lv_aload_n hx hb dX11_pavement_4 rfl (lv_at hl 0 rfl) ?_
  have b_1 : 0 ≤ (G.1 0 11).toInt ∧ (G.1 0 11).toInt ≤ 1600 := bd_0_11 hB_G
  refine S_getI (v := (G.1 0 11)) (C := RX11) (T := TX11) (N := 13) hx hb hg iX11 hown hK hW kd_0 rfl 11 (lt_b rfl) (hg (Cond.fieldLink RX11 83 "SlabWalk" "taped" "I") m581) (fun _ h9 => h9) rfl rfl dX11_pavement_5 ?_
  refine lv_aload_n hx hb dX11_pavement_8 rfl (lv_at hl 0 rfl) ?_
  refine S_getV (n := 1) (C := RX11) (T := TX11) (N := 13) hx hb hg iX11 hown hK hW kd_0 rfl 1 (lt_b rfl) (hg (Cond.fieldLink RX11 16 "SlabWalk" "spare" "LSlabWalk$Paving;") m571) (fun _ h9 => h9) rfl hv_0_1 dX11_pavement_9 ?_
  refine S_calli (va_runV (As := [.int (G.1 0 11), .ref (a 1)]) (rest := []) ⟨hx, hb, hml, hown, hts⟩ (k_rRead_1 l D k A a z G (G.1 0 11) ⟨by omega, by omega⟩) (cwV 2 hts (gd_V hgd m626 m627 m628 m119 m629) rfl rfl rfl hd_X7_read ⟨Nat.le_of_ble_eq_true rfl, Nat.le_of_ble_eq_true rfl⟩) (pre_W hW hB_G hK hZ hS kd_5 rfl) rfl rfl hl.1 rfl (lv_room (Nat.le_of_ble_eq_true rfl)) dX11_pavement_12 ⟨Nat.le_of_ble_eq_true rfl, Nat.le_of_ble_eq_true rfl⟩) hS (fun r_2 G_3 H locs hpo hW hS => ?_)
  have hX_6 : P_rRead_1 (G.1 0 11) G r_2 G_3 := hpo
  obtain ⟨hB_G_3, hq_4, f_7, -⟩ := hpo
  have hF := hF.call9 hq_4 rfl rfl
  refine lv_istore_n (lv' := [(1, .int r_2), (0, .ref (a 0))]) hx hb dX11_pavement_15 rfl hl (lt_b rfl) rfl (fun ls hl => ?_)
  refine lv_aload_n hx hb dX11_pavement_16 rfl (lv_at hl 1 rfl) ?_
  refine ic_0 hx hb dX11_pavement_17 ?_
  refine S_putI (ty := .int) (C := RX11) (T := TX11) (N := 13) hx hb hg iX11 tyX11 tyX11_ok nmX11 hown hK hW hS kd_0 rfl 11 (lt_b rfl) (hg (Cond.fieldLink RX11 83 "SlabWalk" "taped" "I") m581) (fun _ h9 => h9) rfl (by decide +kernel) rfl rfl rfl dX11_pavement_18 (fun G_8 H locs eG_8 hW hS => ?_)
  have hB_G_8 : Bd G_8 := hB_G_3.put (V := 0) (lo := 0) (hi := 1600) eG_8 rfl rfl rfl (by decide) (by decide) (hB_G_3.2.put eG_8 rfl)
  have hF := hF.put eG_8 (Or.inr (by decide))
  refine lv_iload_n hx hb dX11_pavement_21 rfl (lv_at hl 0 rfl) ?_
  refine lv_if_ne (tgt := 27) hx hb dX11_pavement_22 rfl (fun c_9 => ?_) (fun c_9 => ?_)
  · have c_9 : r_2.toInt ≠ 0 := xI_ne rfl rfl c_9
    refine lv_aload_n hx hb dX11_pavement_27 rfl (lv_at hl 1 rfl) ?_
    refine S_getV (n := 1) (C := RX11) (T := TX11) (N := 13) hx hb hg iX11 hown hK hW kd_0 rfl 1 (lt_b rfl) (hg (Cond.fieldLink RX11 16 "SlabWalk" "spare" "LSlabWalk$Paving;") m571) (fun _ h9 => h9) rfl ((((congrFun (congrFun (congrArg (fun q => q.2.2) eG_8) 0) 1).trans (hq_4.r9 0 1 rfl rfl))).trans (hv_0_1)) dX11_pavement_28 ?_
    refine lv_astore_n (lv' := [(2, .ref (a 1)), (1, .int r_2), (0, .ref (a 0))]) hx hb dX11_pavement_31 rfl hl (lt_b rfl) rfl (fun ls hl => ?_)
    refine lv_aload_n hx hb dX11_pavement_32 rfl (lv_at hl 2 rfl) ?_
    refine lv_aload_n hx hb dX11_pavement_33 rfl (lv_at hl 2 rfl) ?_
    refine S_getV (n := 2) (C := RX11) (T := TX11) (N := 13) hx hb hg iX11 hown hK hW kd_0 rfl 0 (lt_b rfl) (hg (Cond.fieldLink RX11 10 "SlabWalk" "paving" "LSlabWalk$Paving;") m570) (fun _ h9 => h9) rfl ((((congrFun (congrFun (congrArg (fun q => q.2.2) eG_8) 0) 0).trans (hq_4.r9 0 0 rfl rfl))).trans (hv_0_0)) dX11_pavement_34 ?_
    refine S_putV (ty := .object "SlabWalk$Paving") (n := 2) (C := RX11) (T := TX11) (N := 13) hx hb hg iX11 tyX11 tyX11_ok nmX11 hown hK hW hS kd_0 rfl 1 (lt_b rfl) (hg (Cond.fieldLink RX11 16 "SlabWalk" "spare" "LSlabWalk$Paving;") m571) (fun _ h9 => h9) rfl (by decide +kernel) rfl rfl rfl dX11_pavement_37 (fun G_10 H locs eG_10 hW hS => ?_)
    have hB_G_10 : Bd G_10 := hB_G_8.putr eG_10 (by decide) (by decide)
    have hF := hF.putr eG_10 (Or.inr (by decide))
    refine lv_aload_n hx hb dX11_pavement_40 rfl (lv_at hl 2 rfl) ?_
    refine lv_aload_n hx hb dX11_pavement_41 rfl (lv_at hl 0 rfl) ?_
    refine S_putV (ty := .object "SlabWalk$Paving") (n := 1) (C := RX11) (T := TX11) (N := 13) hx hb hg iX11 tyX11 tyX11_ok nmX11 hown hK hW hS kd_0 rfl 0 (lt_b rfl) (hg (Cond.fieldLink RX11 10 "SlabWalk" "paving" "LSlabWalk$Paving;") m570) (fun _ h9 => h9) rfl (by decide +kernel) rfl rfl rfl dX11_pavement_42 (fun G_11 H locs eG_11 hW hS => ?_)
    have hB_G_11 : Bd G_11 := hB_G_10.putr eG_11 (by decide) (by decide)
    have hF := hF.putr eG_11 (Or.inr (by decide))
    refine lv_aload_n hx hb dX11_pavement_45 rfl (lv_at hl 2 rfl) ?_
    refine S_callv (va_runV (As := []) (rest := []) ⟨hx, hb, hml, hown, hts⟩ (k_wStart_1 l D k A a z G_11  (gp_re eG_11)) (cwV 0 hts (gd_V hgd m547 m549 m0 m117 m550) rfl rfl rfl hd_X11_startAnew ⟨Nat.le_of_ble_eq_true rfl, Nat.le_of_ble_eq_true rfl⟩) (pre_W hW hB_G_11 hK hZ hS kd_0 rfl) rfl rfl hl.1 rfl (lv_room (Nat.le_of_ble_eq_true rfl)) dX11_pavement_46 ⟨Nat.le_of_ble_eq_true rfl, Nat.le_of_ble_eq_true rfl⟩) hS (fun G_13 H locs hpo hW hS => ?_)
    have hX_16 : P_wStart_1 G_11 G_13 := hpo
    obtain ⟨hB_G_13, hq_14, hp_15, -⟩ := hpo
    have hF := hF.call9 hq_14 rfl rfl
    refine lv_aload_n hx hb dX11_pavement_49 rfl (lv_at hl 2 rfl) ?_
    refine S_getV (n := 1) (C := RX11) (T := TX11) (N := 13) hx hb hg iX11 hown hK hW kd_0 rfl 0 (lt_b rfl) (hg (Cond.fieldLink RX11 10 "SlabWalk" "paving" "LSlabWalk$Paving;") m570) (fun _ h9 => h9) rfl ((hq_14.r9 0 0 rfl rfl).trans (gp_re eG_11)) dX11_pavement_50 ?_
    have b_17 : 0 ≤ (G_3.1 1 9).toInt ∧ (G_3.1 1 9).toInt ≤ 3 := bd_1_9 hB_G_3
    refine S_getI (v := (G_3.1 1 9)) (C := RX6) (T := TX6) (N := 17) hx hb hg iX6 hown hK hW kd_1 rfl 9 (lt_b rfl) (hg (Cond.fieldLink RX11 95 "SlabWalk$Paving" "streets" "I") m187) (fun _ h9 => h9) rfl ((hq_14.i9 1 9 rfl rfl).trans ((congrFun (congrFun (gp_r eG_11).1 1) 9).trans ((congrFun (congrFun (gp_r eG_10).1 1) 9).trans (gp_ne eG_8 (by decide))))) dX11_pavement_53 ?_
    have g_18 : (G_13.1 0 11).toInt = 0 := (congrArg Int32.toInt (show G_13.1 0 11 = 0 from ((hq_14.i9 0 11 rfl rfl).trans ((congrFun (congrFun (gp_r eG_11).1 0) 11).trans ((congrFun (congrFun (gp_r eG_10).1 0) 11).trans (gp_eq eG_8)))))).trans rfl
    have b_19 : 0 ≤ (G_13.1 30 4).toInt ∧ (G_13.1 30 4).toInt ≤ 40 := bd_30_4 hB_G_13
    have b_20 : 0 ≤ (G_13.1 30 5).toInt ∧ (G_13.1 30 5).toInt ≤ 40 := bd_30_5 hB_G_13
    exact W.iret (v := (G_3.1 1 9)) hx hb hr (fun t ht _ => ⟨⟨(G_3.1 1 9), G_13, rfl, (P_Wpavement_2_mk ⟨hB_G_13, hF, (⟨by omega, by omega, Or.inr ⟨((hq_14.r9 0 0 rfl rfl).trans (gp_re eG_11)), ((hq_14.r9 0 1 rfl rfl).trans ((gp_rn eG_11 (by decide)).trans (gp_re eG_10))), hp_15.2⟩⟩), ⟨r_2, G_3, hX_6, (Or.inr ⟨c_9, ⟨G_11, hB_G_11, (Fr.putr (rs := []) (fs := [(0, 0), (0, 1), (0, 11)]) (Fr.putr (rs := []) (fs := [(0, 0), (0, 1), (0, 11)]) (Fr.put (rs := []) (fs := [(0, 0), (0, 1), (0, 11)]) Fr.rf eG_8 (Or.inr (by decide))) eG_10 (Or.inr (by decide))) eG_11 (Or.inr (by decide))), (gp_re eG_11), ((gp_rn eG_11 (by decide)).trans (gp_re eG_10)), ((congrFun (congrFun (gp_r eG_11).1 0) 11).trans ((congrFun (congrFun (gp_r eG_10).1 0) 11).trans (gp_eq eG_8))), ⟨G_13, hX_16, ⟨rfl, rfl⟩⟩⟩⟩)⟩⟩), wd_t ht hW⟩, hS.F ht⟩) hS.2.2 dX11_pavement_56
  · have c_9 : r_2.toInt = 0 := xI_eq rfl rfl c_9
    refine ic_m1 hx hb dX11_pavement_25 ?_
    have g_21 : (G_8.1 0 11).toInt = 0 := (congrArg Int32.toInt (show G_8.1 0 11 = 0 from (gp_eq eG_8))).trans rfl
    have b_22 : 0 ≤ (G.1 30 4).toInt ∧ (G.1 30 4).toInt ≤ 40 := bd_30_4 hB_G
    have g_23 : (G_8.1 30 4).toInt = (G.1 30 4).toInt := (congrArg Int32.toInt (show G_8.1 30 4 = (G.1 30 4) from ((gp_ne eG_8 (by decide)).trans (hq_4.i9 30 4 rfl rfl))))
    have b_24 : 0 ≤ (G.1 30 5).toInt ∧ (G.1 30 5).toInt ≤ 40 := bd_30_5 hB_G
    have g_25 : (G_8.1 30 5).toInt = (G.1 30 5).toInt := (congrArg Int32.toInt (show G_8.1 30 5 = (G.1 30 5) from ((gp_ne eG_8 (by decide)).trans (hq_4.i9 30 5 rfl rfl))))
    exact W.iret (v := (-1)) hx hb hr (fun t ht _ => ⟨⟨(-1), G_8, rfl, (P_Wpavement_2_mk ⟨hB_G_8, hF, (⟨by omega, by omega, Or.inl ⟨(((congrFun (congrFun (congrArg (fun q => q.2.2) eG_8) 0) 0).trans (hq_4.r9 0 0 rfl rfl))).trans hv_0_0, (((congrFun (congrFun (congrArg (fun q => q.2.2) eG_8) 0) 1).trans (hq_4.r9 0 1 rfl rfl))).trans hv_0_1, (((congrFun (congrFun (congrArg (fun q => q.2.2) eG_8) 6) 4).trans (hq_4.r9 6 4 rfl rfl))).trans hv_6_4⟩⟩), ⟨r_2, G_3, hX_6, (Or.inl ⟨c_9, ⟨rfl, (Fr.put (rs := []) (fs := [(0, 11)]) Fr.rf eG_8 (Or.inr (by decide))), (gp_eq eG_8)⟩⟩)⟩⟩), wd_t ht hW⟩, hS.F ht⟩) hS.2.2 dX11_pavement_26
