

set_option maxHeartbeats 4000000 in
set_option maxRecDepth 100000 in
theorem k_Wfewest_2 (l : Launch) (D : va_G) (k : KT) (A : Nat → Prop) (a : Nat → Nat) (z : SK) (G : GS) (p0 : Int32) (p1 : Int32) (p2 : Int32) (p3 : Int32) (hv_0_0 : G.2.2 0 0 = 2) (hv_0_1 : G.2.2 0 1 = 1) (hv_6_4 : G.2.2 6 4 = 2) : Met l yX11_fewest (WS yX11_fewest cX11_fewest 6 (some .int)) ({ frames := 5, cells := 0, slots := 0, locals := 119 }) (va_Pc [.ref (a 0), .int p0, .int p1, .int p2, .int p3] (cW D k A a z G)) (va_Qi (fun (r : Int32) (G1 : GS) => P_Wfewest_2 p0 p1 p2 p3 G r G1) (fun (G1 : GS) t => Wd D k A a G1 t.heap) A) 0 0 A := by
  refine Met.ofW (cc := cX11_fewest) (maxL := 6) (ret := (some .int)) (by decide) rfl ?_
  intro p e s m args below meth c s₁ B hml hv
  obtain ⟨rfl, hW, hB_G, hK, hZ⟩ := hv
  have hx := B.exec
  have hb := B.bytes
  have hr := B.returns
  have hts := atoms_spec (ws := WS yX11_fewest cX11_fewest 6 (some .int)) B.pre
  have hgd : ∀ w ∈ gd, w ∈ WS yX11_fewest cX11_fewest 6 (some .int) := fun w h => List.mem_cons_of_mem _ h
  have hg : ∀ w ∈ gd, w.before _ s = true := fun w h => hts w (hgd w h)
  have hown : s.vm.findClass RX11 = some m.cls := findClass_of_methodNamed B.named
  have hS : va_S A s.heap s.heap [] := va_S.rf
  have hF : Fr [33, 37, 38, 39, 40, 42, 43, 44, 45] [(0, 12), (6, 3), (7, 1), (7, 2), (7, 3), (7, 4), (7, 5), (7, 6), (7, 7)] G G := Fr.rf
  have hl := lv_entry ([.ref (a 0), .int p0, .int p1, .int p2, .int p3]) (n := 6) (Nat.le_of_ble_eq_true rfl)
  rw [lg_entry_eq]
  generalize (lg_sl ([.ref (a 0), .int p0, .int p1, .int p2, .int p3]) ++ List.replicate (6 - (lg_sl ([.ref (a 0), .int p0, .int p1, .int p2, .int p3])).length) Slot.unset).toArray = ls at hl ⊢
  have hl : lv_has ls 6 [(0, .ref (a 0)), (1, .int p0), (2, .int p1), (3, .int p2), (4, .int p3)] := hl
  refine lv_aload_n hx hb dX11_fewest_0 rfl (lv_at hl 0 rfl) ?_
  refine ic_0 hx hb dX11_fewest_1 ?_
  refine S_putI (ty := .int) (C := RX11) (T := TX11) (N := 13) hx hb hg iX11 tyX11 tyX11_ok nmX11 hown hK hW hS kd_0 rfl 12 (lt_b rfl) (hg (Cond.fieldLink RX11 150 "SlabWalk" "lie" "I") m582) (fun _ h9 => h9) rfl (by decide +kernel) rfl rfl rfl dX11_fewest_2 (fun G_1 H locs eG_1 hW hS => ?_)
  have hB_G_1 : Bd G_1 := hB_G.put (V := 0) (lo := 0) (hi := 400) eG_1 rfl rfl rfl (by decide) (by decide) (hB_G.2.put eG_1 rfl)
  have hF := hF.put eG_1 (Or.inr (by decide))
  refine lv_aload_n hx hb dX11_fewest_5 rfl (lv_at hl 0 rfl) ?_
  refine lv_iload_n hx hb dX11_fewest_6 rfl (lv_at hl 1 rfl) ?_
  refine lv_iload_n hx hb dX11_fewest_7 rfl (lv_at hl 2 rfl) ?_
  refine lv_iload_n hx hb dX11_fewest_8 rfl (lv_at hl 3 rfl) ?_
  have b_2 : 0 ≤ (G.1 2 10).toInt ∧ (G.1 2 10).toInt ≤ 4 := bd_2_10 hB_G
  have g_3 : (G_1.1 2 10).toInt = (G.1 2 10).toInt := (congrArg Int32.toInt (show G_1.1 2 10 = (G.1 2 10) from (gp_ne eG_1 (by decide))))
  refine S_calli (va_runV (As := [.int p0, .int p1, .int p2]) (rest := []) ⟨hx, hb, hml, hown, hts⟩ (k_wAsk_2 l D k A a z G_1 p0 p1 p2 (((congrFun (congrFun (congrArg (fun q => q.2.2) eG_1) 0) 0)).trans (hv_0_0)) (((congrFun (congrFun (congrArg (fun q => q.2.2) eG_1) 0) 1)).trans (hv_0_1)) (((congrFun (congrFun (congrArg (fun q => q.2.2) eG_1) 6) 4)).trans (hv_6_4))) (cwV 3 hts (gd_V hgd m953 m955 m31 m117 m956) rfl rfl rfl hd_X11_canAsk ⟨Nat.le_of_ble_eq_true rfl, Nat.le_of_ble_eq_true rfl⟩) (pre_W hW hB_G_1 hK hZ hS kd_0 rfl) rfl rfl hl.1 rfl (lv_room (Nat.le_of_ble_eq_true rfl)) dX11_fewest_9 ⟨Nat.le_of_ble_eq_true rfl, Nat.le_of_ble_eq_true rfl⟩) hS (fun r_4 G_5 H locs hpo hW hS => ?_)
  have hX_8 : P_wAsk_2 p0 p1 p2 G_1 r_4 G_5 := hpo
  obtain ⟨hB_G_5, hq_6, f_9, hp_7, -⟩ := hpo
  have hF := hF.call9 hq_6 rfl rfl
  refine lv_if_eq (tgt := 26) hx hb dX11_fewest_12 rfl (fun c_10 => ?_) (fun c_10 => ?_)
  · have c_10 : r_4.toInt = 0 := xI_eq rfl rfl c_10
    refine ic_m1 hx hb dX11_fewest_26 ?_
    exact W.iret (v := (-1)) hx hb hr (fun t ht _ => ⟨⟨(-1), G_5, rfl, (P_Wfewest_2_mk ⟨hB_G_5, hF, ⟨G_1, hB_G_1, (Fr.put (rs := []) (fs := [(0, 12)]) Fr.rf eG_1 (Or.inr (by decide))), (gp_eq eG_1), ⟨r_4, G_5, hX_8, (Or.inl ⟨c_10, ⟨rfl, rfl⟩⟩)⟩⟩⟩), wd_t ht hW⟩, hS.F ht⟩) hS.2.2 dX11_fewest_27
  · have c_10 : r_4.toInt ≠ 0 := xI_ne rfl rfl c_10
    refine lv_iload hx hb dX11_fewest_15 (lv_at hl 4 rfl) ?_
    refine lv_if_lt (tgt := 26) hx hb dX11_fewest_17 rfl (fun c_11 => ?_) (fun c_11 => ?_)
    · have c_11 : p3.toInt < 0 := xI_lt rfl rfl c_11
      refine ic_m1 hx hb dX11_fewest_26 ?_
      exact W.iret (v := (-1)) hx hb hr (fun t ht _ => ⟨⟨(-1), G_5, rfl, (P_Wfewest_2_mk ⟨hB_G_5, hF, ⟨G_1, hB_G_1, (Fr.put (rs := []) (fs := [(0, 12)]) Fr.rf eG_1 (Or.inr (by decide))), (gp_eq eG_1), ⟨r_4, G_5, hX_8, (Or.inr ⟨c_10, (Or.inl ⟨c_11, ⟨rfl, rfl⟩⟩)⟩)⟩⟩⟩), wd_t ht hW⟩, hS.F ht⟩) hS.2.2 dX11_fewest_27
    · have c_11 : 0 ≤ p3.toInt := xI_nlt rfl rfl c_11
      refine lv_iload hx hb dX11_fewest_20 (lv_at hl 4 rfl) ?_
      refine ic_2 hx hb dX11_fewest_22 ?_
      refine lv_icmp_le (tgt := 28) hx hb dX11_fewest_23 rfl (fun c_12 => ?_) (fun c_12 => ?_)
      · have c_12 : p3.toInt ≤ 2 := xI_le rfl rfl c_12
        refine lv_aload_n hx hb dX11_fewest_28 rfl (lv_at hl 0 rfl) ?_
        refine lv_iload_n hx hb dX11_fewest_29 rfl (lv_at hl 1 rfl) ?_
        refine lv_iload_n hx hb dX11_fewest_30 rfl (lv_at hl 2 rfl) ?_
        refine lv_iload_n hx hb dX11_fewest_31 rfl (lv_at hl 3 rfl) ?_
        have g_13 : (G_5.1 2 10).toInt = (G.1 2 10).toInt := (congrArg Int32.toInt (show G_5.1 2 10 = (G.1 2 10) from ((hq_6.i9 2 10 rfl rfl).trans ((gp_ne eG_1 (by decide)).trans (rfl)))))
        refine S_callv (va_runV (As := [.int p0, .int p1, .int p2]) (rest := []) ⟨hx, hb, hml, hown, hts⟩ (k_wPrep_2 l D k A a z G_5 p0 p1 p2 ⟨by omega, by omega⟩ ⟨by omega, by omega⟩ ((((hq_6.r9 0 0 rfl rfl).trans (congrFun (congrFun (congrArg (fun q => q.2.2) eG_1) 0) 0))).trans (hv_0_0)) ((((hq_6.r9 0 1 rfl rfl).trans (congrFun (congrFun (congrArg (fun q => q.2.2) eG_1) 0) 1))).trans (hv_0_1)) ((((hq_6.r9 6 4 rfl rfl).trans (congrFun (congrFun (congrArg (fun q => q.2.2) eG_1) 6) 4))).trans (hv_6_4)) (by omega)) (cwV 3 hts (gd_V hgd m975 m977 m32 m117 m978) rfl rfl rfl hd_X11_prepare ⟨Nat.le_of_ble_eq_true rfl, Nat.le_of_ble_eq_true rfl⟩) (pre_W hW hB_G_5 hK hZ hS kd_0 rfl) rfl rfl hl.1 rfl (lv_room (Nat.le_of_ble_eq_true rfl)) dX11_fewest_32 ⟨Nat.le_of_ble_eq_true rfl, Nat.le_of_ble_eq_true rfl⟩) hS (fun G_15 H locs hpo hW hS => ?_)
        have hX_18 : P_wPrep_2 p0 p1 p2 G_5 G_15 := hpo
        obtain ⟨hB_G_15, hq_16, hp_17, -⟩ := hpo
        have hF := hF.call9 hq_16 rfl rfl
        refine lv_aload_n hx hb dX11_fewest_35 rfl (lv_at hl 0 rfl) ?_
        refine S_getR (n := 8) (C := RX11) (T := TX11) (N := 13) hx hb hg iX11 hown hK hW kd_0 rfl 6 (lt_b rfl) (hg (Cond.fieldLink RX11 51 "SlabWalk" "trails" "LSlabWalk$Trails;") m576) (fun _ h9 => h9) rfl dX11_fewest_36 ?_
        refine lv_aload_n hx hb dX11_fewest_39 rfl (lv_at hl 0 rfl) ?_
        refine S_getR (n := 7) (C := RX11) (T := TX11) (N := 13) hx hb hg iX11 hown hK hW kd_0 rfl 5 (lt_b rfl) (hg (Cond.fieldLink RX11 44 "SlabWalk" "course" "LSlabWalk$Course;") m575) (fun _ h9 => h9) rfl dX11_fewest_40 ?_
        refine lv_iload hx hb dX11_fewest_43 (lv_at hl 4 rfl) ?_
        have b_19 : 0 ≤ (G_15.1 7 3).toInt ∧ (G_15.1 7 3).toInt ≤ 60 := bd_7_3 hB_G_15
        have b_20 : 0 ≤ (G_15.1 7 4).toInt ∧ (G_15.1 7 4).toInt ≤ 60 := bd_7_4 hB_G_15
        have b_21 : (-1) ≤ (G_15.1 7 6).toInt ∧ (G_15.1 7 6).toInt ≤ 400 := bd_7_6 hB_G_15
        have b_22 : 0 ≤ (G_15.1 7 7).toInt ∧ (G_15.1 7 7).toInt ≤ 400 := bd_7_7 hB_G_15
        refine S_calli (va_runV (As := [.ref (a 7), .int p3]) (rest := []) ⟨hx, hb, hml, hown, hts⟩ (k_tFewest l D k A a z G_15 p3 ((by first | exact ⟨((by first | (clear b_2 g_3 f_9 hp_7 c_10 c_11 c_12 g_13; omega) | omega)), ⟨((by first | (clear b_2 g_3 f_9 hp_7 c_10 c_11 c_12 g_13; omega) | omega)), ((by first | (clear b_2 g_3 f_9 hp_7 c_10 c_11 c_12 g_13; omega) | omega))⟩⟩ | omega))) (cwV 2 hts (gd_V hgd m989 m990 m991 m124 m992) rfl rfl rfl hd_X10_fewestFeet ⟨Nat.le_of_ble_eq_true rfl, Nat.le_of_ble_eq_true rfl⟩) (pre_W hW hB_G_15 hK hZ hS kd_8 rfl) rfl rfl hl.1 rfl (lv_room (Nat.le_of_ble_eq_true rfl)) dX11_fewest_45 ⟨Nat.le_of_ble_eq_true rfl, Nat.le_of_ble_eq_true rfl⟩) hS (fun r_23 G_24 H locs hpo hW hS => ?_)
        have hX_27 : P_tFewest p3 G_15 r_23 G_24 := hpo
        obtain ⟨hB_G_24, hq_25, -⟩ := hpo
        have hF := hF.call9 hq_25 rfl rfl
        refine lv_istore (lv' := [(5, .int r_23), (0, .ref (a 0)), (1, .int p0), (2, .int p1), (3, .int p2), (4, .int p3)]) hx hb dX11_fewest_48 hl (lt_b rfl) rfl (fun ls hl => ?_)
        refine lv_iload hx hb dX11_fewest_50 (lv_at hl 0 rfl) ?_
        refine ic_m1 hx hb dX11_fewest_52 ?_
        refine lv_icmp_ne (tgt := 58) hx hb dX11_fewest_53 rfl (fun c_28 => ?_) (fun c_28 => ?_)
        · have c_28 : r_23.toInt ≠ (-1) := xI_ne rfl rfl c_28
          refine lv_aload_n hx hb dX11_fewest_58 rfl (lv_at hl 1 rfl) ?_
          refine lv_aload_n hx hb dX11_fewest_59 rfl (lv_at hl 1 rfl) ?_
          refine S_getR (n := 8) (C := RX11) (T := TX11) (N := 13) hx hb hg iX11 hown hK hW kd_0 rfl 6 (lt_b rfl) (hg (Cond.fieldLink RX11 51 "SlabWalk" "trails" "LSlabWalk$Trails;") m576) (fun _ h9 => h9) rfl dX11_fewest_60 ?_
          refine lv_aload_n hx hb dX11_fewest_63 rfl (lv_at hl 1 rfl) ?_
          refine S_getR (n := 7) (C := RX11) (T := TX11) (N := 13) hx hb hg iX11 hown hK hW kd_0 rfl 5 (lt_b rfl) (hg (Cond.fieldLink RX11 44 "SlabWalk" "course" "LSlabWalk$Course;") m575) (fun _ h9 => h9) rfl dX11_fewest_64 ?_
          refine lv_iload hx hb dX11_fewest_67 (lv_at hl 0 rfl) ?_
          refine lv_aload_n hx hb dX11_fewest_69 rfl (lv_at hl 1 rfl) ?_
          refine S_getR (n := 33) (C := RX11) (T := TX11) (N := 13) hx hb hg iX11 hown hK hW kd_0 rfl 10 (lt_b rfl) (hg (Cond.fieldLink RX11 76 "SlabWalk" "lying" "[I") m580) (fun _ h9 => h9) rfl dX11_fewest_70 ?_
          have g_29 : (G_24.1 7 3).toInt = (G_15.1 7 3).toInt := (congrArg Int32.toInt (show G_24.1 7 3 = (G_15.1 7 3) from ((hq_25.i9 7 3 rfl rfl).trans (rfl))))
          have g_30 : (G_24.1 7 4).toInt = (G_15.1 7 4).toInt := (congrArg Int32.toInt (show G_24.1 7 4 = (G_15.1 7 4) from ((hq_25.i9 7 4 rfl rfl).trans (rfl))))
          have g_31 : (G_24.1 7 6).toInt = (G_15.1 7 6).toInt := (congrArg Int32.toInt (show G_24.1 7 6 = (G_15.1 7 6) from ((hq_25.i9 7 6 rfl rfl).trans (rfl))))
          have g_32 : (G_24.1 7 7).toInt = (G_15.1 7 7).toInt := (congrArg Int32.toInt (show G_24.1 7 7 = (G_15.1 7 7) from ((hq_25.i9 7 7 rfl rfl).trans (rfl))))
          refine S_calli (va_runV (As := [.ref (a 7), .int r_23, .ref (a 33)]) (rest := [.ref (a 0)]) ⟨hx, hb, hml, hown, hts⟩ (k_tLay l D k A a z G_24 r_23 ((by first | exact ⟨((by first | (clear b_2 g_3 f_9 hp_7 c_10 c_11 c_12 g_13 c_28; omega) | omega)), ⟨((by first | (clear b_2 g_3 f_9 hp_7 c_10 c_11 c_12 g_13 c_28; omega) | omega)), ((by first | (clear b_2 g_3 f_9 hp_7 c_10 c_11 c_12 g_13 c_28; omega) | omega))⟩⟩ | omega))) (cwV 3 hts (gd_V hgd m1007 m1008 m1009 m124 m1010) rfl rfl rfl hd_X10_layHeels ⟨Nat.le_of_ble_eq_true rfl, Nat.le_of_ble_eq_true rfl⟩) (pre_W hW hB_G_24 hK hZ hS kd_8 rfl) rfl rfl hl.1 rfl (lv_room (Nat.le_of_ble_eq_true rfl)) dX11_fewest_73 ⟨Nat.le_of_ble_eq_true rfl, Nat.le_of_ble_eq_true rfl⟩) hS (fun r_33 G_34 H locs hpo hW hS => ?_)
          have hX_37 : P_tLay r_23 G_24 r_33 G_34 := hpo
          obtain ⟨hB_G_34, hq_35, f_38, -⟩ := hpo
          have hF := hF.call9 hq_35 rfl rfl
          refine S_putI (ty := .int) (C := RX11) (T := TX11) (N := 13) hx hb hg iX11 tyX11 tyX11_ok nmX11 hown hK hW hS kd_0 rfl 12 (lt_b rfl) (hg (Cond.fieldLink RX11 150 "SlabWalk" "lie" "I") m582) (fun _ h9 => h9) rfl (by decide +kernel) rfl rfl rfl dX11_fewest_76 (fun G_39 H locs eG_39 hW hS => ?_)
          have hB_G_39 : Bd G_39 := hB_G_34.put (V := r_33.toInt) (lo := 0) (hi := 400) eG_39 rfl rfl rfl ((by first | (clear b_2 g_3 f_9 hp_7 c_10 c_11 c_12 g_13 hp_17 b_19 b_20 b_21 b_22 c_28 g_29 g_30 g_31 g_32; omega) | omega)) ((by first | (clear b_2 g_3 f_9 hp_7 c_10 c_11 c_12 g_13 hp_17 b_19 b_20 b_21 b_22 c_28 g_29 g_30 g_31 g_32; omega) | omega)) (hB_G_34.2.put eG_39 rfl)
          have hF := hF.put eG_39 (Or.inr (by decide))
          refine lv_iload hx hb dX11_fewest_79 (lv_at hl 0 rfl) ?_
          exact W.iret (v := r_23) hx hb hr (fun t ht _ => ⟨⟨r_23, G_39, rfl, (P_Wfewest_2_mk ⟨hB_G_39, hF, ⟨G_1, hB_G_1, (Fr.put (rs := []) (fs := [(0, 12)]) Fr.rf eG_1 (Or.inr (by decide))), (gp_eq eG_1), ⟨r_4, G_5, hX_8, (Or.inr ⟨c_10, (Or.inr ⟨c_11, (Or.inl ⟨c_12, ⟨G_15, hX_18, ⟨r_23, G_24, hX_27, (Or.inr ⟨c_28, ⟨r_33, G_34, hX_37, ⟨rfl, (Fr.put (rs := []) (fs := [(0, 12)]) Fr.rf eG_39 (Or.inr (by decide))), (gp_eq eG_39)⟩⟩⟩)⟩⟩⟩)⟩)⟩)⟩⟩⟩), wd_t ht hW⟩, hS.F ht⟩) hS.2.2 dX11_fewest_81
        · have c_28 : r_23.toInt = (-1) := xI_eq rfl rfl c_28
          refine ic_m1 hx hb dX11_fewest_56 ?_
          exact W.iret (v := (-1)) hx hb hr (fun t ht _ => ⟨⟨(-1), G_24, rfl, (P_Wfewest_2_mk ⟨hB_G_24, hF, ⟨G_1, hB_G_1, (Fr.put (rs := []) (fs := [(0, 12)]) Fr.rf eG_1 (Or.inr (by decide))), (gp_eq eG_1), ⟨r_4, G_5, hX_8, (Or.inr ⟨c_10, (Or.inr ⟨c_11, (Or.inl ⟨c_12, ⟨G_15, hX_18, ⟨r_23, G_24, hX_27, (Or.inl ⟨c_28, ⟨rfl, rfl⟩⟩)⟩⟩⟩)⟩)⟩)⟩⟩⟩), wd_t ht hW⟩, hS.F ht⟩) hS.2.2 dX11_fewest_57
      · have c_12 : 2 < p3.toInt := xI_nle rfl rfl c_12
        refine ic_m1 hx hb dX11_fewest_26 ?_
        exact W.iret (v := (-1)) hx hb hr (fun t ht _ => ⟨⟨(-1), G_5, rfl, (P_Wfewest_2_mk ⟨hB_G_5, hF, ⟨G_1, hB_G_1, (Fr.put (rs := []) (fs := [(0, 12)]) Fr.rf eG_1 (Or.inr (by decide))), (gp_eq eG_1), ⟨r_4, G_5, hX_8, (Or.inr ⟨c_10, (Or.inr ⟨c_11, (Or.inr ⟨c_12, ⟨rfl, rfl⟩⟩)⟩)⟩)⟩⟩⟩), wd_t ht hW⟩, hS.F ht⟩) hS.2.2 dX11_fewest_27

set_option maxHeartbeats 4000000 in
set_option maxRecDepth 100000 in
theorem k_Wways_2 (l : Launch) (D : va_G) (k : KT) (A : Nat → Prop) (a : Nat → Nat) (z : SK) (G : GS) (p0 : Int32) (p1 : Int32) (p2 : Int32) (p3 : Int32) (hv_0_0 : G.2.2 0 0 = 2) (hv_0_1 : G.2.2 0 1 = 1) (hv_6_4 : G.2.2 6 4 = 2) : Met l yX11_ways (WS yX11_ways cX11_ways 5 (some .long)) ({ frames := 5, cells := 0, slots := 0, locals := 119 }) (va_Pc [.ref (a 0), .int p0, .int p1, .int p2, .int p3] (cW D k A a z G)) (va_Ql (fun (r : Int64) (G1 : GS) => P_Wways_2 p0 p1 p2 p3 G r G1) (fun (G1 : GS) t => Wd D k A a G1 t.heap) A) 0 0 A := by
  refine Met.ofW (cc := cX11_ways) (maxL := 5) (ret := (some .long)) (by decide) rfl ?_
  intro p e s m args below meth c s₁ B hml hv
  obtain ⟨rfl, hW, hB_G, hK, hZ⟩ := hv
  have hx := B.exec
  have hb := B.bytes
  have hr := B.returns
  have hts := atoms_spec (ws := WS yX11_ways cX11_ways 5 (some .long)) B.pre
  have hgd : ∀ w ∈ gd, w ∈ WS yX11_ways cX11_ways 5 (some .long) := fun w h => List.mem_cons_of_mem _ h
  have hg : ∀ w ∈ gd, w.before _ s = true := fun w h => hts w (hgd w h)
  have hown : s.vm.findClass RX11 = some m.cls := findClass_of_methodNamed B.named
  have hS : va_S A s.heap s.heap [] := va_S.rf
  have hF : Fr [37, 38, 39, 40, 52, 53, 54, 55] [(6, 3), (7, 1), (7, 2), (7, 3), (7, 4), (7, 5), (7, 6), (7, 7)] G G := Fr.rf
  have hl := lv_entry ([.ref (a 0), .int p0, .int p1, .int p2, .int p3]) (n := 5) (Nat.le_of_ble_eq_true rfl)
  rw [lg_entry_eq]
  generalize (lg_sl ([.ref (a 0), .int p0, .int p1, .int p2, .int p3]) ++ List.replicate (5 - (lg_sl ([.ref (a 0), .int p0, .int p1, .int p2, .int p3])).length) Slot.unset).toArray = ls at hl ⊢
  have hl : lv_has ls 5 [(0, .ref (a 0)), (1, .int p0), (2, .int p1), (3, .int p2), (4, .int p3)] := hl
  refine lv_aload_n hx hb dX11_ways_0 rfl (lv_at hl 0 rfl) ?_
  refine lv_iload_n hx hb dX11_ways_1 rfl (lv_at hl 1 rfl) ?_
  refine lv_iload_n hx hb dX11_ways_2 rfl (lv_at hl 2 rfl) ?_
  refine lv_iload_n hx hb dX11_ways_3 rfl (lv_at hl 3 rfl) ?_
  refine S_calli (va_runV (As := [.int p0, .int p1, .int p2]) (rest := []) ⟨hx, hb, hml, hown, hts⟩ (k_wAsk_2 l D k A a z G p0 p1 p2 hv_0_0 hv_0_1 hv_6_4) (cwV 3 hts (gd_V hgd m953 m955 m31 m117 m956) rfl rfl rfl hd_X11_canAsk ⟨Nat.le_of_ble_eq_true rfl, Nat.le_of_ble_eq_true rfl⟩) (pre_W hW hB_G hK hZ hS kd_0 rfl) rfl rfl hl.1 rfl (lv_room (Nat.le_of_ble_eq_true rfl)) dX11_ways_4 ⟨Nat.le_of_ble_eq_true rfl, Nat.le_of_ble_eq_true rfl⟩) hS (fun r_1 G_2 H locs hpo hW hS => ?_)
  have hX_5 : P_wAsk_2 p0 p1 p2 G r_1 G_2 := hpo
  obtain ⟨hB_G_2, hq_3, f_6, hp_4, -⟩ := hpo
  have hF := hF.call9 hq_3 rfl rfl
  refine lv_if_eq (tgt := 23) hx hb dX11_ways_7 rfl (fun c_7 => ?_) (fun c_7 => ?_)
  · have c_7 : r_1.toInt = 0 := xI_eq rfl rfl c_7
    refine lv_ldc2 (v := (-1)) hx hb hown (hg (Cond.constantLong RX11 165 (-1)) m1018) dX11_ways_23 ?_
    exact W.lret (v := (-1)) hx hb hr (fun t ht _ => ⟨⟨(-1), G_2, rfl, (P_Wways_2_mk ⟨hB_G_2, hF, ⟨r_1, G_2, hX_5, (Or.inl ⟨c_7, ⟨rfl, rfl⟩⟩)⟩⟩), wd_t ht hW⟩, hS.F ht⟩) hS.2.2 dX11_ways_26
  · have c_7 : r_1.toInt ≠ 0 := xI_ne rfl rfl c_7
    refine lv_iload hx hb dX11_ways_10 (lv_at hl 4 rfl) ?_
    refine ic_1 hx hb dX11_ways_12 ?_
    refine lv_icmp_lt (tgt := 23) hx hb dX11_ways_13 rfl (fun c_8 => ?_) (fun c_8 => ?_)
    · have c_8 : p3.toInt < 1 := xI_lt rfl rfl c_8
      refine lv_ldc2 (v := (-1)) hx hb hown (hg (Cond.constantLong RX11 165 (-1)) m1018) dX11_ways_23 ?_
      exact W.lret (v := (-1)) hx hb hr (fun t ht _ => ⟨⟨(-1), G_2, rfl, (P_Wways_2_mk ⟨hB_G_2, hF, ⟨r_1, G_2, hX_5, (Or.inr ⟨c_7, (Or.inl ⟨c_8, ⟨rfl, rfl⟩⟩)⟩)⟩⟩), wd_t ht hW⟩, hS.F ht⟩) hS.2.2 dX11_ways_26
    · have c_8 : 1 ≤ p3.toInt := xI_nlt rfl rfl c_8
      refine lv_iload hx hb dX11_ways_16 (lv_at hl 4 rfl) ?_
      refine lv_bipush (v := 60) hx hb dX11_ways_18 (by decide) ?_
      refine lv_icmp_le (tgt := 27) hx hb dX11_ways_20 rfl (fun c_9 => ?_) (fun c_9 => ?_)
      · have c_9 : p3.toInt ≤ 60 := xI_le rfl rfl c_9
        refine lv_aload_n hx hb dX11_ways_27 rfl (lv_at hl 0 rfl) ?_
        refine lv_iload_n hx hb dX11_ways_28 rfl (lv_at hl 1 rfl) ?_
        refine lv_iload_n hx hb dX11_ways_29 rfl (lv_at hl 2 rfl) ?_
        refine lv_iload_n hx hb dX11_ways_30 rfl (lv_at hl 3 rfl) ?_
        have b_10 : 0 ≤ (G.1 2 10).toInt ∧ (G.1 2 10).toInt ≤ 4 := bd_2_10 hB_G
        have g_11 : (G_2.1 2 10).toInt = (G.1 2 10).toInt := (congrArg Int32.toInt (show G_2.1 2 10 = (G.1 2 10) from (hq_3.i9 2 10 rfl rfl)))
        refine S_callv (va_runV (As := [.int p0, .int p1, .int p2]) (rest := []) ⟨hx, hb, hml, hown, hts⟩ (k_wPrep_2 l D k A a z G_2 p0 p1 p2 ⟨by omega, by omega⟩ ⟨by omega, by omega⟩ (((hq_3.r9 0 0 rfl rfl)).trans (hv_0_0)) (((hq_3.r9 0 1 rfl rfl)).trans (hv_0_1)) (((hq_3.r9 6 4 rfl rfl)).trans (hv_6_4)) (by omega)) (cwV 3 hts (gd_V hgd m975 m977 m32 m117 m978) rfl rfl rfl hd_X11_prepare ⟨Nat.le_of_ble_eq_true rfl, Nat.le_of_ble_eq_true rfl⟩) (pre_W hW hB_G_2 hK hZ hS kd_0 rfl) rfl rfl hl.1 rfl (lv_room (Nat.le_of_ble_eq_true rfl)) dX11_ways_31 ⟨Nat.le_of_ble_eq_true rfl, Nat.le_of_ble_eq_true rfl⟩) hS (fun G_13 H locs hpo hW hS => ?_)
        have hX_16 : P_wPrep_2 p0 p1 p2 G_2 G_13 := hpo
        obtain ⟨hB_G_13, hq_14, hp_15, -⟩ := hpo
        have hF := hF.call9 hq_14 rfl rfl
        refine lv_aload_n hx hb dX11_ways_34 rfl (lv_at hl 0 rfl) ?_
        refine S_getR (n := 29) (C := RX11) (T := TX11) (N := 13) hx hb hg iX11 hown hK hW kd_0 rfl 7 (lt_b rfl) (hg (Cond.fieldLink RX11 58 "SlabWalk" "odds" "LSlabWalk$Odds;") m577) (fun _ h9 => h9) rfl dX11_ways_35 ?_
        refine lv_aload_n hx hb dX11_ways_38 rfl (lv_at hl 0 rfl) ?_
        refine S_getR (n := 7) (C := RX11) (T := TX11) (N := 13) hx hb hg iX11 hown hK hW kd_0 rfl 5 (lt_b rfl) (hg (Cond.fieldLink RX11 44 "SlabWalk" "course" "LSlabWalk$Course;") m575) (fun _ h9 => h9) rfl dX11_ways_39 ?_
        refine lv_iload hx hb dX11_ways_42 (lv_at hl 4 rfl) ?_
        have b_17 : 0 ≤ (G_13.1 7 3).toInt ∧ (G_13.1 7 3).toInt ≤ 60 := bd_7_3 hB_G_13
        have b_18 : 0 ≤ (G_13.1 7 4).toInt ∧ (G_13.1 7 4).toInt ≤ 60 := bd_7_4 hB_G_13
        have b_19 : (-1) ≤ (G_13.1 7 6).toInt ∧ (G_13.1 7 6).toInt ≤ 400 := bd_7_6 hB_G_13
        have b_20 : 0 ≤ (G_13.1 7 7).toInt ∧ (G_13.1 7 7).toInt ≤ 400 := bd_7_7 hB_G_13
        refine S_calll (va_runV (As := [.ref (a 7), .int p3]) (rest := []) ⟨hx, hb, hml, hown, hts⟩ (k_oCount l D k A a z G_13 p3 ⟨(by first | (clear f_6 hp_4 c_7 b_10 g_11 hp_15 b_17 b_18 b_19 b_20; omega) | omega), (by first | (clear f_6 hp_4 c_7 b_10 g_11 hp_15 b_17 b_18 b_19 b_20; omega) | omega)⟩ ((by first | exact ⟨((by first | (clear f_6 hp_4 c_7 c_8 c_9 b_10 g_11; omega) | omega)), ⟨((by first | (clear f_6 hp_4 c_7 c_8 c_9 b_10 g_11; omega) | omega)), ((by first | (clear f_6 hp_4 c_7 c_8 c_9 b_10 g_11; omega) | omega))⟩⟩ | omega))) (cwV 2 hts (gd_V hgd m1019 m1020 m1021 m126 m1022) rfl rfl rfl hd_X5_countWays ⟨Nat.le_of_ble_eq_true rfl, Nat.le_of_ble_eq_true rfl⟩) (pre_W hW hB_G_13 hK hZ hS kd_29 rfl) rfl rfl hl.1 rfl (lv_room (Nat.le_of_ble_eq_true rfl)) dX11_ways_44 ⟨Nat.le_of_ble_eq_true rfl, Nat.le_of_ble_eq_true rfl⟩) hS (fun r_21 G_22 H locs hpo hW hS => ?_)
        have hX_25 : P_oCount p3 G_13 r_21 G_22 := hpo
        obtain ⟨hB_G_22, hq_23, -⟩ := hpo
        have hF := hF.call9 hq_23 rfl rfl
        exact W.lret (v := r_21) hx hb hr (fun t ht _ => ⟨⟨r_21, G_22, rfl, (P_Wways_2_mk ⟨hB_G_22, hF, ⟨r_1, G_2, hX_5, (Or.inr ⟨c_7, (Or.inr ⟨c_8, (Or.inl ⟨c_9, ⟨G_13, hX_16, ⟨r_21, G_22, hX_25, ⟨rfl, rfl⟩⟩⟩⟩)⟩)⟩)⟩⟩), wd_t ht hW⟩, hS.F ht⟩) hS.2.2 dX11_ways_47
      · have c_9 : 60 < p3.toInt := xI_nle rfl rfl c_9
        refine lv_ldc2 (v := (-1)) hx hb hown (hg (Cond.constantLong RX11 165 (-1)) m1018) dX11_ways_23 ?_
        exact W.lret (v := (-1)) hx hb hr (fun t ht _ => ⟨⟨(-1), G_2, rfl, (P_Wways_2_mk ⟨hB_G_2, hF, ⟨r_1, G_2, hX_5, (Or.inr ⟨c_7, (Or.inr ⟨c_8, (Or.inr ⟨c_9, ⟨rfl, rfl⟩⟩)⟩)⟩)⟩⟩), wd_t ht hW⟩, hS.F ht⟩) hS.2.2 dX11_ways_26

set_option maxHeartbeats 4000000 in
set_option maxRecDepth 100000 in
theorem k_Wevenest_2 (l : Launch) (D : va_G) (k : KT) (A : Nat → Prop) (a : Nat → Nat) (z : SK) (G : GS) (p0 : Int32) (p1 : Int32) (p2 : Int32) (p3 : Int32) (hv_0_0 : G.2.2 0 0 = 2) (hv_0_1 : G.2.2 0 1 = 1) (hv_6_4 : G.2.2 6 4 = 2) : Met l yX11_evenest (WS yX11_evenest cX11_evenest 5 (some .int)) ({ frames := 5, cells := 0, slots := 0, locals := 119 }) (va_Pc [.ref (a 0), .int p0, .int p1, .int p2, .int p3] (cW D k A a z G)) (va_Qi (fun (r : Int32) (G1 : GS) => P_Wevenest_2 p0 p1 p2 p3 G r G1) (fun (G1 : GS) t => Wd D k A a G1 t.heap) A) 0 0 A := by
  refine Met.ofW (cc := cX11_evenest) (maxL := 5) (ret := (some .int)) (by decide) rfl ?_
  intro p e s m args below meth c s₁ B hml hv
  obtain ⟨rfl, hW, hB_G, hK, hZ⟩ := hv
  have hx := B.exec
  have hb := B.bytes
  have hr := B.returns
  have hts := atoms_spec (ws := WS yX11_evenest cX11_evenest 5 (some .int)) B.pre
  have hgd : ∀ w ∈ gd, w ∈ WS yX11_evenest cX11_evenest 5 (some .int) := fun w h => List.mem_cons_of_mem _ h
  have hg : ∀ w ∈ gd, w.before _ s = true := fun w h => hts w (hgd w h)
  have hown : s.vm.findClass RX11 = some m.cls := findClass_of_methodNamed B.named
  have hS : va_S A s.heap s.heap [] := va_S.rf
  have hF : Fr [37, 38, 39, 40, 42] [(6, 3), (7, 1), (7, 2), (7, 3), (7, 4), (7, 5), (7, 6), (7, 7)] G G := Fr.rf
  have hl := lv_entry ([.ref (a 0), .int p0, .int p1, .int p2, .int p3]) (n := 5) (Nat.le_of_ble_eq_true rfl)
  rw [lg_entry_eq]
  generalize (lg_sl ([.ref (a 0), .int p0, .int p1, .int p2, .int p3]) ++ List.replicate (5 - (lg_sl ([.ref (a 0), .int p0, .int p1, .int p2, .int p3])).length) Slot.unset).toArray = ls at hl ⊢
  have hl : lv_has ls 5 [(0, .ref (a 0)), (1, .int p0), (2, .int p1), (3, .int p2), (4, .int p3)] := hl
  refine lv_aload_n hx hb dX11_evenest_0 rfl (lv_at hl 0 rfl) ?_
  refine lv_iload_n hx hb dX11_evenest_1 rfl (lv_at hl 1 rfl) ?_
  refine lv_iload_n hx hb dX11_evenest_2 rfl (lv_at hl 2 rfl) ?_
  refine lv_iload_n hx hb dX11_evenest_3 rfl (lv_at hl 3 rfl) ?_
  refine S_calli (va_runV (As := [.int p0, .int p1, .int p2]) (rest := []) ⟨hx, hb, hml, hown, hts⟩ (k_wAsk_2 l D k A a z G p0 p1 p2 hv_0_0 hv_0_1 hv_6_4) (cwV 3 hts (gd_V hgd m953 m955 m31 m117 m956) rfl rfl rfl hd_X11_canAsk ⟨Nat.le_of_ble_eq_true rfl, Nat.le_of_ble_eq_true rfl⟩) (pre_W hW hB_G hK hZ hS kd_0 rfl) rfl rfl hl.1 rfl (lv_room (Nat.le_of_ble_eq_true rfl)) dX11_evenest_4 ⟨Nat.le_of_ble_eq_true rfl, Nat.le_of_ble_eq_true rfl⟩) hS (fun r_1 G_2 H locs hpo hW hS => ?_)
  have hX_5 : P_wAsk_2 p0 p1 p2 G r_1 G_2 := hpo
  obtain ⟨hB_G_2, hq_3, f_6, hp_4, -⟩ := hpo
  have hF := hF.call9 hq_3 rfl rfl
  refine lv_if_eq (tgt := 21) hx hb dX11_evenest_7 rfl (fun c_7 => ?_) (fun c_7 => ?_)
  · have c_7 : r_1.toInt = 0 := xI_eq rfl rfl c_7
    refine ic_m1 hx hb dX11_evenest_21 ?_
    exact W.iret (v := (-1)) hx hb hr (fun t ht _ => ⟨⟨(-1), G_2, rfl, (P_Wevenest_2_mk ⟨hB_G_2, hF, ⟨r_1, G_2, hX_5, (Or.inl ⟨c_7, ⟨rfl, rfl⟩⟩)⟩⟩), wd_t ht hW⟩, hS.F ht⟩) hS.2.2 dX11_evenest_22
  · have c_7 : r_1.toInt ≠ 0 := xI_ne rfl rfl c_7
    refine lv_iload hx hb dX11_evenest_10 (lv_at hl 4 rfl) ?_
    refine lv_if_lt (tgt := 21) hx hb dX11_evenest_12 rfl (fun c_8 => ?_) (fun c_8 => ?_)
    · have c_8 : p3.toInt < 0 := xI_lt rfl rfl c_8
      refine ic_m1 hx hb dX11_evenest_21 ?_
      exact W.iret (v := (-1)) hx hb hr (fun t ht _ => ⟨⟨(-1), G_2, rfl, (P_Wevenest_2_mk ⟨hB_G_2, hF, ⟨r_1, G_2, hX_5, (Or.inr ⟨c_7, (Or.inl ⟨c_8, ⟨rfl, rfl⟩⟩)⟩)⟩⟩), wd_t ht hW⟩, hS.F ht⟩) hS.2.2 dX11_evenest_22
    · have c_8 : 0 ≤ p3.toInt := xI_nlt rfl rfl c_8
      refine lv_iload hx hb dX11_evenest_15 (lv_at hl 4 rfl) ?_
      refine ic_1 hx hb dX11_evenest_17 ?_
      refine lv_icmp_le (tgt := 23) hx hb dX11_evenest_18 rfl (fun c_9 => ?_) (fun c_9 => ?_)
      · have c_9 : p3.toInt ≤ 1 := xI_le rfl rfl c_9
        refine lv_aload_n hx hb dX11_evenest_23 rfl (lv_at hl 0 rfl) ?_
        refine lv_iload_n hx hb dX11_evenest_24 rfl (lv_at hl 1 rfl) ?_
        refine lv_iload_n hx hb dX11_evenest_25 rfl (lv_at hl 2 rfl) ?_
        refine lv_iload_n hx hb dX11_evenest_26 rfl (lv_at hl 3 rfl) ?_
        have b_10 : 0 ≤ (G.1 2 10).toInt ∧ (G.1 2 10).toInt ≤ 4 := bd_2_10 hB_G
        have g_11 : (G_2.1 2 10).toInt = (G.1 2 10).toInt := (congrArg Int32.toInt (show G_2.1 2 10 = (G.1 2 10) from (hq_3.i9 2 10 rfl rfl)))
        refine S_callv (va_runV (As := [.int p0, .int p1, .int p2]) (rest := []) ⟨hx, hb, hml, hown, hts⟩ (k_wPrep_2 l D k A a z G_2 p0 p1 p2 ⟨by omega, by omega⟩ ⟨by omega, by omega⟩ (((hq_3.r9 0 0 rfl rfl)).trans (hv_0_0)) (((hq_3.r9 0 1 rfl rfl)).trans (hv_0_1)) (((hq_3.r9 6 4 rfl rfl)).trans (hv_6_4)) (by omega)) (cwV 3 hts (gd_V hgd m975 m977 m32 m117 m978) rfl rfl rfl hd_X11_prepare ⟨Nat.le_of_ble_eq_true rfl, Nat.le_of_ble_eq_true rfl⟩) (pre_W hW hB_G_2 hK hZ hS kd_0 rfl) rfl rfl hl.1 rfl (lv_room (Nat.le_of_ble_eq_true rfl)) dX11_evenest_27 ⟨Nat.le_of_ble_eq_true rfl, Nat.le_of_ble_eq_true rfl⟩) hS (fun G_13 H locs hpo hW hS => ?_)
        have hX_16 : P_wPrep_2 p0 p1 p2 G_2 G_13 := hpo
        obtain ⟨hB_G_13, hq_14, hp_15, -⟩ := hpo
        have hF := hF.call9 hq_14 rfl rfl
        refine lv_aload_n hx hb dX11_evenest_30 rfl (lv_at hl 0 rfl) ?_
        refine S_getR (n := 8) (C := RX11) (T := TX11) (N := 13) hx hb hg iX11 hown hK hW kd_0 rfl 6 (lt_b rfl) (hg (Cond.fieldLink RX11 51 "SlabWalk" "trails" "LSlabWalk$Trails;") m576) (fun _ h9 => h9) rfl dX11_evenest_31 ?_
        refine lv_aload_n hx hb dX11_evenest_34 rfl (lv_at hl 0 rfl) ?_
        refine S_getR (n := 7) (C := RX11) (T := TX11) (N := 13) hx hb hg iX11 hown hK hW kd_0 rfl 5 (lt_b rfl) (hg (Cond.fieldLink RX11 44 "SlabWalk" "course" "LSlabWalk$Course;") m575) (fun _ h9 => h9) rfl dX11_evenest_35 ?_
        refine lv_iload hx hb dX11_evenest_38 (lv_at hl 4 rfl) ?_
        have b_17 : 0 ≤ (G_13.1 7 3).toInt ∧ (G_13.1 7 3).toInt ≤ 60 := bd_7_3 hB_G_13
        have b_18 : 0 ≤ (G_13.1 7 4).toInt ∧ (G_13.1 7 4).toInt ≤ 60 := bd_7_4 hB_G_13
        have b_19 : (-1) ≤ (G_13.1 7 6).toInt ∧ (G_13.1 7 6).toInt ≤ 400 := bd_7_6 hB_G_13
        have b_20 : 0 ≤ (G_13.1 7 7).toInt ∧ (G_13.1 7 7).toInt ≤ 400 := bd_7_7 hB_G_13
        refine S_calli (va_runV (As := [.ref (a 7), .int p3]) (rest := []) ⟨hx, hb, hml, hown, hts⟩ (k_tMost l D k A a z G_13 p3 ((by first | exact ⟨((by first | (clear f_6 hp_4 c_7 c_8 c_9 b_10 g_11; omega) | omega)), ⟨((by first | (clear f_6 hp_4 c_7 c_8 c_9 b_10 g_11; omega) | omega)), ((by first | (clear f_6 hp_4 c_7 c_8 c_9 b_10 g_11; omega) | omega))⟩⟩ | omega))) (cwV 2 hts (gd_V hgd m1040 m1041 m1042 m124 m1043) rfl rfl rfl hd_X10_mostEven ⟨Nat.le_of_ble_eq_true rfl, Nat.le_of_ble_eq_true rfl⟩) (pre_W hW hB_G_13 hK hZ hS kd_8 rfl) rfl rfl hl.1 rfl (lv_room (Nat.le_of_ble_eq_true rfl)) dX11_evenest_40 ⟨Nat.le_of_ble_eq_true rfl, Nat.le_of_ble_eq_true rfl⟩) hS (fun r_21 G_22 H locs hpo hW hS => ?_)
        have hX_25 : P_tMost p3 G_13 r_21 G_22 := hpo
        obtain ⟨hB_G_22, hq_23, -⟩ := hpo
        have hF := hF.call9 hq_23 rfl rfl
        exact W.iret (v := r_21) hx hb hr (fun t ht _ => ⟨⟨r_21, G_22, rfl, (P_Wevenest_2_mk ⟨hB_G_22, hF, ⟨r_1, G_2, hX_5, (Or.inr ⟨c_7, (Or.inr ⟨c_8, (Or.inl ⟨c_9, ⟨G_13, hX_16, ⟨r_21, G_22, hX_25, ⟨rfl, rfl⟩⟩⟩⟩)⟩)⟩)⟩⟩), wd_t ht hW⟩, hS.F ht⟩) hS.2.2 dX11_evenest_43
      · have c_9 : 1 < p3.toInt := xI_nle rfl rfl c_9
        refine ic_m1 hx hb dX11_evenest_21 ?_
        exact W.iret (v := (-1)) hx hb hr (fun t ht _ => ⟨⟨(-1), G_2, rfl, (P_Wevenest_2_mk ⟨hB_G_2, hF, ⟨r_1, G_2, hX_5, (Or.inr ⟨c_7, (Or.inr ⟨c_8, (Or.inr ⟨c_9, ⟨rfl, rfl⟩⟩)⟩)⟩)⟩⟩), wd_t ht hW⟩, hS.F ht⟩) hS.2.2 dX11_evenest_22

set_option maxHeartbeats 4000000 in
set_option maxRecDepth 100000 in
theorem k_Weven_2 (l : Launch) (D : va_G) (k : KT) (A : Nat → Prop) (a : Nat → Nat) (z : SK) (G : GS) (p0 : Int32) (p1 : Int32) (p2 : Int32) (p3 : Int32) (p4 : Int32) (hv_0_0 : G.2.2 0 0 = 2) (hv_0_1 : G.2.2 0 1 = 1) (hv_6_4 : G.2.2 6 4 = 2) : Met l yX11_even (WS yX11_even cX11_even 8 (some .int)) ({ frames := 5, cells := 0, slots := 0, locals := 119 }) (va_Pc [.ref (a 0), .int p0, .int p1, .int p2, .int p3, .int p4] (cW D k A a z G)) (va_Qi (fun (r : Int32) (G1 : GS) => P_Weven_2 p0 p1 p2 p3 p4 G r G1) (fun (G1 : GS) t => Wd D k A a G1 t.heap) A) 0 0 A := by
  refine Met.ofW (cc := cX11_even) (maxL := 8) (ret := (some .int)) (by decide) rfl ?_
  intro p e s m args below meth c s₁ B hml hv
  obtain ⟨rfl, hW, hB_G, hK, hZ⟩ := hv
  have hx := B.exec
  have hb := B.bytes
  have hr := B.returns
  have hts := atoms_spec (ws := WS yX11_even cX11_even 8 (some .int)) B.pre
  have hgd : ∀ w ∈ gd, w ∈ WS yX11_even cX11_even 8 (some .int) := fun w h => List.mem_cons_of_mem _ h
  have hg : ∀ w ∈ gd, w.before _ s = true := fun w h => hts w (hgd w h)
  have hown : s.vm.findClass RX11 = some m.cls := findClass_of_methodNamed B.named
  have hS : va_S A s.heap s.heap [] := va_S.rf
  have hF : Fr [37, 38, 39, 40] [(6, 3), (7, 1), (7, 2), (7, 3), (7, 4), (7, 5), (7, 6), (7, 7)] G G := Fr.rf
  have hl := lv_entry ([.ref (a 0), .int p0, .int p1, .int p2, .int p3, .int p4]) (n := 8) (Nat.le_of_ble_eq_true rfl)
  rw [lg_entry_eq]
  generalize (lg_sl ([.ref (a 0), .int p0, .int p1, .int p2, .int p3, .int p4]) ++ List.replicate (8 - (lg_sl ([.ref (a 0), .int p0, .int p1, .int p2, .int p3, .int p4])).length) Slot.unset).toArray = ls at hl ⊢
  have hl : lv_has ls 8 [(0, .ref (a 0)), (1, .int p0), (2, .int p1), (3, .int p2), (4, .int p3), (5, .int p4)] := hl
  refine lv_aload_n hx hb dX11_even_0 rfl (lv_at hl 0 rfl) ?_
  refine lv_iload_n hx hb dX11_even_1 rfl (lv_at hl 1 rfl) ?_
  refine lv_iload_n hx hb dX11_even_2 rfl (lv_at hl 2 rfl) ?_
  refine lv_iload_n hx hb dX11_even_3 rfl (lv_at hl 3 rfl) ?_
  refine S_calli (va_runV (As := [.int p0, .int p1, .int p2]) (rest := []) ⟨hx, hb, hml, hown, hts⟩ (k_wAsk_2 l D k A a z G p0 p1 p2 hv_0_0 hv_0_1 hv_6_4) (cwV 3 hts (gd_V hgd m953 m955 m31 m117 m956) rfl rfl rfl hd_X11_canAsk ⟨Nat.le_of_ble_eq_true rfl, Nat.le_of_ble_eq_true rfl⟩) (pre_W hW hB_G hK hZ hS kd_0 rfl) rfl rfl hl.1 rfl (lv_room (Nat.le_of_ble_eq_true rfl)) dX11_even_4 ⟨Nat.le_of_ble_eq_true rfl, Nat.le_of_ble_eq_true rfl⟩) hS (fun r_1 G_2 H locs hpo hW hS => ?_)
  have hX_5 : P_wAsk_2 p0 p1 p2 G r_1 G_2 := hpo
  obtain ⟨hB_G_2, hq_3, f_6, hp_4, -⟩ := hpo
  have hF := hF.call9 hq_3 rfl rfl
  refine lv_if_eq (tgt := 36) hx hb dX11_even_7 rfl (fun c_7 => ?_) (fun c_7 => ?_)
  · have c_7 : r_1.toInt = 0 := xI_eq rfl rfl c_7
    refine ic_m1 hx hb dX11_even_36 ?_
    exact W.iret (v := (-1)) hx hb hr (fun t ht _ => ⟨⟨(-1), G_2, rfl, (P_Weven_2_mk ⟨hB_G_2, hF, ⟨r_1, G_2, hX_5, (Or.inl ⟨c_7, ⟨rfl, rfl⟩⟩)⟩⟩), wd_t ht hW⟩, hS.F ht⟩) hS.2.2 dX11_even_37
  · have c_7 : r_1.toInt ≠ 0 := xI_ne rfl rfl c_7
    refine lv_aload_n hx hb dX11_even_10 rfl (lv_at hl 0 rfl) ?_
    refine S_getV (n := 2) (C := RX11) (T := TX11) (N := 13) hx hb hg iX11 hown hK hW kd_0 rfl 0 (lt_b rfl) (hg (Cond.fieldLink RX11 10 "SlabWalk" "paving" "LSlabWalk$Paving;") m570) (fun _ h9 => h9) rfl (((hq_3.r9 0 0 rfl rfl)).trans (hv_0_0)) dX11_even_11 ?_
    refine lv_iload_n hx hb dX11_even_14 rfl (lv_at hl 2 rfl) ?_
    refine lv_iload hx hb dX11_even_15 (lv_at hl 4 rfl) ?_
    refine S_calli (va_runV (As := [.int p1, .int p3]) (rest := []) ⟨hx, hb, hml, hown, hts⟩ (k_hasInch_2 l D k A a z G_2 p1 p3 ) (cwV 2 hts (gd_V hgd m882 m883 m884 m118 m885) rfl rfl rfl hd_X6_hasInch ⟨Nat.le_of_ble_eq_true rfl, Nat.le_of_ble_eq_true rfl⟩) (pre_W hW hB_G_2 hK hZ hS kd_2 rfl) rfl rfl hl.1 rfl (lv_room (Nat.le_of_ble_eq_true rfl)) dX11_even_17 ⟨Nat.le_of_ble_eq_true rfl, Nat.le_of_ble_eq_true rfl⟩) hS (fun r_8 G_9 H locs hpo hW hS => ?_)
    have hX_12 : P_hasInch_2 p1 p3 G_2 r_8 G_9 := hpo
    obtain ⟨hB_G_9, hq_10, f_13, hp_11, -⟩ := hpo
    have hF := hF.call9 hq_10 rfl rfl
    refine lv_if_eq (tgt := 36) hx hb dX11_even_20 rfl (fun c_14 => ?_) (fun c_14 => ?_)
    · have c_14 : r_8.toInt = 0 := xI_eq rfl rfl c_14
      refine ic_m1 hx hb dX11_even_36 ?_
      exact W.iret (v := (-1)) hx hb hr (fun t ht _ => ⟨⟨(-1), G_9, rfl, (P_Weven_2_mk ⟨hB_G_9, hF, ⟨r_1, G_2, hX_5, (Or.inr ⟨c_7, ⟨r_8, G_9, hX_12, (Or.inl ⟨c_14, ⟨rfl, rfl⟩⟩)⟩⟩)⟩⟩), wd_t ht hW⟩, hS.F ht⟩) hS.2.2 dX11_even_37
    · have c_14 : r_8.toInt ≠ 0 := xI_ne rfl rfl c_14
      refine lv_iload hx hb dX11_even_23 (lv_at hl 5 rfl) ?_
      refine ic_1 hx hb dX11_even_25 ?_
      refine lv_icmp_lt (tgt := 36) hx hb dX11_even_26 rfl (fun c_15 => ?_) (fun c_15 => ?_)
      · have c_15 : p4.toInt < 1 := xI_lt rfl rfl c_15
        refine ic_m1 hx hb dX11_even_36 ?_
        exact W.iret (v := (-1)) hx hb hr (fun t ht _ => ⟨⟨(-1), G_9, rfl, (P_Weven_2_mk ⟨hB_G_9, hF, ⟨r_1, G_2, hX_5, (Or.inr ⟨c_7, ⟨r_8, G_9, hX_12, (Or.inr ⟨c_14, (Or.inl ⟨c_15, ⟨rfl, rfl⟩⟩)⟩)⟩⟩)⟩⟩), wd_t ht hW⟩, hS.F ht⟩) hS.2.2 dX11_even_37
      · have c_15 : 1 ≤ p4.toInt := xI_nlt rfl rfl c_15
        refine lv_iload hx hb dX11_even_29 (lv_at hl 5 rfl) ?_
        refine lv_bipush (v := 99) hx hb dX11_even_31 (by decide) ?_
        refine lv_icmp_le (tgt := 38) hx hb dX11_even_33 rfl (fun c_16 => ?_) (fun c_16 => ?_)
        · have c_16 : p4.toInt ≤ 99 := xI_le rfl rfl c_16
          refine lv_aload_n hx hb dX11_even_38 rfl (lv_at hl 0 rfl) ?_
          refine lv_iload_n hx hb dX11_even_39 rfl (lv_at hl 1 rfl) ?_
          refine lv_iload_n hx hb dX11_even_40 rfl (lv_at hl 2 rfl) ?_
          refine lv_iload_n hx hb dX11_even_41 rfl (lv_at hl 3 rfl) ?_
          have b_17 : 0 ≤ (G.1 2 10).toInt ∧ (G.1 2 10).toInt ≤ 4 := bd_2_10 hB_G
          have g_18 : (G_9.1 2 10).toInt = (G.1 2 10).toInt := (congrArg Int32.toInt (show G_9.1 2 10 = (G.1 2 10) from ((hq_10.i9 2 10 rfl rfl).trans (hq_3.i9 2 10 rfl rfl))))
          refine S_callv (va_runV (As := [.int p0, .int p1, .int p2]) (rest := []) ⟨hx, hb, hml, hown, hts⟩ (k_wPrep_2 l D k A a z G_9 p0 p1 p2 ⟨(by first | (clear f_13 hp_11 c_14 c_15 c_16; omega) | omega), (by first | (clear f_13 hp_11 c_14 c_15 c_16; omega) | omega)⟩ ⟨(by first | (clear f_13 hp_11 c_14 c_15 c_16; omega) | omega), (by first | (clear f_13 hp_11 c_14 c_15 c_16; omega) | omega)⟩ ((((hq_10.r9 0 0 rfl rfl).trans (hq_3.r9 0 0 rfl rfl))).trans (hv_0_0)) ((((hq_10.r9 0 1 rfl rfl).trans (hq_3.r9 0 1 rfl rfl))).trans (hv_0_1)) ((((hq_10.r9 6 4 rfl rfl).trans (hq_3.r9 6 4 rfl rfl))).trans (hv_6_4)) ((by first | (clear f_13 hp_11 c_14 c_15 c_16; omega) | omega))) (cwV 3 hts (gd_V hgd m975 m977 m32 m117 m978) rfl rfl rfl hd_X11_prepare ⟨Nat.le_of_ble_eq_true rfl, Nat.le_of_ble_eq_true rfl⟩) (pre_W hW hB_G_9 hK hZ hS kd_0 rfl) rfl rfl hl.1 rfl (lv_room (Nat.le_of_ble_eq_true rfl)) dX11_even_42 ⟨Nat.le_of_ble_eq_true rfl, Nat.le_of_ble_eq_true rfl⟩) hS (fun G_20 H locs hpo hW hS => ?_)
          have hX_23 : P_wPrep_2 p0 p1 p2 G_9 G_20 := hpo
          obtain ⟨hB_G_20, hq_21, hp_22, -⟩ := hpo
          have hF := hF.call9 hq_21 rfl rfl
          refine ic_0 hx hb dX11_even_45 ?_
          refine lv_istore (lv' := [(6, .int 0), (0, .ref (a 0)), (1, .int p0), (2, .int p1), (3, .int p2), (4, .int p3), (5, .int p4)]) hx hb dX11_even_46 hl (lt_b rfl) rfl (fun ls hl => ?_)
          refine lv_iload hx hb dX11_even_48 (lv_at hl 5 rfl) ?_
          refine lv_istore (lv' := [(7, .int p3), (6, .int 0), (0, .ref (a 0)), (1, .int p0), (2, .int p1), (3, .int p2), (4, .int p3), (5, .int p4)]) hx hb dX11_even_50 hl (lt_b rfl) rfl (fun ls hl => ?_)
          have qc_31 : (0 : Int32).toInt = 0 := rfl
          refine loop_N (Inv := fun n H locs ls => ∃ (G_24 : GS) (x_28 : Int32) (x_29 : Int32), (n : Int) = 498 - x_28.toInt ∧ (0 ≤ x_28.toInt ∧ x_28.toInt ≤ 498) ∧ (0 ≤ x_29.toInt ∧ x_29.toInt ≤ 498) ∧ (x_29.toInt ≤ x_28.toInt) ∧ Rc (St_k_Weven_2_1 p4 G_20) (p3, 0, G_20) (x_28, x_29, G_24) ∧ Wd D k A a G_24 H ∧ Bd G_24 ∧ Fr [37, 38, 39, 40] [(6, 3), (7, 1), (7, 2), (7, 3), (7, 4), (7, 5), (7, 6), (7, 7)] G G_24 ∧ Fr [] [] G_20 G_24 ∧ va_S A s.heap H locs ∧ lv_has ls 8 [(7, .int x_28), (6, .int x_29), (0, .ref (a 0)), (5, .int p4)]) (fun n_27 H locs ls ih_26 hI => ?_) (498 - p3.toInt : Int).toNat ⟨G_20, p3, 0, (Int.toNat_of_nonneg ((by first | (clear f_6 hp_4 c_7 c_15 c_16 b_17 g_18 hp_22; omega) | omega))), ⟨(by first | (clear f_6 hp_4 c_7 c_15 c_16 b_17 g_18 hp_22; omega) | omega), (by first | (clear f_6 hp_4 c_7 c_15 c_16 b_17 g_18 hp_22; omega) | omega)⟩, ⟨(by first | (clear f_6 hp_4 c_7 f_13 hp_11 c_14 c_15 c_16 b_17 g_18 hp_22; omega) | omega), (by first | (clear f_6 hp_4 c_7 f_13 hp_11 c_14 c_15 c_16 b_17 g_18 hp_22; omega) | omega)⟩, ((by first | (clear f_6 hp_4 c_7 c_15 c_16 b_17 g_18 hp_22; omega) | omega)), Rc.rf, hW, hB_G_20, hF, Fr.rf, hS, lv_sub hl [0, 1, 2, 7] rfl⟩
          obtain ⟨G_24, x_28, x_29, hn_35, f_32, f_33, f_34, hX_30, hW, hB_G_24, hF, hq_25, hS, hl⟩ := hI
          refine lv_iload hx hb dX11_even_52 (lv_at hl 0 rfl) ?_
          refine lv_aload_n hx hb dX11_even_54 rfl (lv_at hl 2 rfl) ?_
          refine S_getR (n := 7) (C := RX11) (T := TX11) (N := 13) hx hb hg iX11 hown hK hW kd_0 rfl 5 (lt_b rfl) (hg (Cond.fieldLink RX11 44 "SlabWalk" "course" "LSlabWalk$Course;") m575) (fun _ h9 => h9) rfl dX11_even_55 ?_
          have b_36 : (-1) ≤ (G_20.1 7 6).toInt ∧ (G_20.1 7 6).toInt ≤ 400 := bd_7_6 hB_G_20
          refine S_getI (v := (G_20.1 7 6)) (C := RX0) (T := TX0) (N := 8) hx hb hg iX0 hown hK hW kd_7 rfl 6 (lt_b rfl) (hg (Cond.fieldLink RX11 174 "SlabWalk$Course" "last" "I") m391) (fun _ h9 => h9) rfl (hq_25.i9 7 6 rfl rfl) dX11_even_58 ?_
          refine lv_icmp_gt (tgt := 90) hx hb dX11_even_61 rfl (fun c_37 => ?_) (fun c_37 => ?_)
          · have c_37 : (G_20.1 7 6).toInt < x_28.toInt := xI_lt rfl rfl c_37
            refine lv_iload hx hb dX11_even_90 (lv_at hl 1 rfl) ?_
            exact W.iret (v := x_29) hx hb hr (fun t ht _ => ⟨⟨x_29, G_24, rfl, (P_Weven_2_mk ⟨hB_G_24, hF, ⟨r_1, G_2, hX_5, (Or.inr ⟨c_7, ⟨r_8, G_9, hX_12, (Or.inr ⟨c_14, (Or.inr ⟨c_15, (Or.inl ⟨c_16, ⟨G_20, hX_23, ⟨x_28, x_29, G_24, hX_30, f_32, f_33, f_34, hB_G_24, hq_25, (Or.inl ⟨c_37, ⟨rfl, rfl⟩⟩)⟩⟩⟩)⟩)⟩)⟩⟩)⟩⟩), wd_t ht hW⟩, hS.F ht⟩) hS.2.2 dX11_even_92
          · have c_37 : x_28.toInt ≤ (G_20.1 7 6).toInt := xI_nlt rfl rfl c_37
            refine lv_aload_n hx hb dX11_even_64 rfl (lv_at hl 2 rfl) ?_
            refine S_getR (n := 7) (C := RX11) (T := TX11) (N := 13) hx hb hg iX11 hown hK hW kd_0 rfl 5 (lt_b rfl) (hg (Cond.fieldLink RX11 44 "SlabWalk" "course" "LSlabWalk$Course;") m575) (fun _ h9 => h9) rfl dX11_even_65 ?_
            refine S_getR (n := 40) (C := RX0) (T := TX0) (N := 8) hx hb hg iX0 hown hK hW kd_7 rfl 0 (lt_b rfl) (hg (Cond.fieldLink RX11 177 "SlabWalk$Course" "lawful" "[Z") m374) (fun _ h9 => h9) rfl dX11_even_68 ?_
            refine lv_iload hx hb dX11_even_71 (lv_at hl 0 rfl) ?_
            refine S_zald hx hb hK hW kd_40 (vin ((by first | (clear f_6 hp_4 c_7 f_13 hp_11 c_14 c_15 c_16 b_17 g_18 hn_35; omega) | omega)) ((by first | (clear f_6 hp_4 c_7 f_13 hp_11 c_14 c_15 c_16 b_17 g_18 hn_35; omega) | omega))) dX11_even_73 (fun y_38 ey_38 => ?_)
            have ty_38 : 0 ≤ y_38.toInt ∧ y_38.toInt ≤ 1 := bv_40 hB_G_24 ey_38
            refine lv_if_eq (tgt := 90) hx hb dX11_even_74 rfl (fun c_39 => ?_) (fun c_39 => ?_)
            · have c_39 : y_38.toInt = 0 := xI_eq rfl rfl c_39
              refine lv_iload hx hb dX11_even_90 (lv_at hl 1 rfl) ?_
              exact W.iret (v := x_29) hx hb hr (fun t ht _ => ⟨⟨x_29, G_24, rfl, (P_Weven_2_mk ⟨hB_G_24, hF, ⟨r_1, G_2, hX_5, (Or.inr ⟨c_7, ⟨r_8, G_9, hX_12, (Or.inr ⟨c_14, (Or.inr ⟨c_15, (Or.inl ⟨c_16, ⟨G_20, hX_23, ⟨x_28, x_29, G_24, hX_30, f_32, f_33, f_34, hB_G_24, hq_25, (Or.inr ⟨c_37, ⟨y_38, ey_38, ⟨c_39, ⟨rfl, rfl⟩⟩⟩⟩)⟩⟩⟩)⟩)⟩)⟩⟩)⟩⟩), wd_t ht hW⟩, hS.F ht⟩) hS.2.2 dX11_even_92
            · have c_39 : y_38.toInt ≠ 0 := xI_ne rfl rfl c_39
              obtain ⟨y_40, ey_40⟩ : ∃ q, q = x_29 + 1 := ⟨_, rfl⟩
              have ty_40 : y_40.toInt = x_29.toInt + 1 := xI_add rfl rfl ey_40 ((by first | (clear f_6 hp_4 c_7 f_13 hp_11 c_14 c_15 c_16 b_17 g_18 hp_22 hn_35 b_36 ty_38 c_39; omega) | omega)) ((by first | (clear f_6 hp_4 c_7 f_13 hp_11 c_14 c_15 c_16 b_17 g_18 hp_22 hn_35 b_36 ty_38 c_39; omega) | omega))
              refine lv_iinc (v := y_40) (lv' := [(6, .int y_40), (7, .int x_28), (0, .ref (a 0)), (5, .int p4)]) hx hb dX11_even_77 hl (k := 1) rfl (by rw [ey_40]; rfl) (lt_b rfl) rfl (fun ls hl => ?_)
              refine lv_iload hx hb dX11_even_80 (lv_at hl 1 rfl) ?_
              refine lv_iload hx hb dX11_even_82 (lv_at hl 3 rfl) ?_
              refine lv_iadd hx hb dX11_even_84 ?_
              refine lv_topi (fun y_41 ey_41 => ?_)
              have ty_41 : y_41.toInt = x_28.toInt + p4.toInt := xI_add rfl rfl ey_41 ((by first | (clear f_6 hp_4 c_7 f_13 hp_11 c_14 b_17 g_18 hn_35 ty_38 c_39; omega) | omega)) ((by first | (clear f_6 hp_4 c_7 f_13 hp_11 c_14 b_17 g_18 hn_35 ty_38 c_39; omega) | omega))
              refine lv_istore (lv' := [(7, .int y_41), (6, .int y_40), (0, .ref (a 0)), (5, .int p4)]) hx hb dX11_even_85 hl (lt_b rfl) rfl (fun ls hl => ?_)
              refine lv_goto (tgt := 52) hx hb dX11_even_87 rfl ?_
              exact ih_26 (498 - y_41.toInt : Int).toNat ((by first | (clear f_6 hp_4 c_7 f_13 hp_11 c_14 b_17 g_18 ty_38 c_39; omega) | omega)) _ _ _ ⟨G_24, y_41, y_40, (Int.toNat_of_nonneg ((by first | (clear f_6 hp_4 c_7 f_13 hp_11 c_14 b_17 g_18 hn_35 ty_38 c_39; omega) | omega))), ⟨(by first | (clear f_6 hp_4 c_7 f_13 hp_11 c_14 b_17 g_18 hn_35 ty_38 c_39; omega) | omega), (by first | (clear f_6 hp_4 c_7 f_13 hp_11 c_14 b_17 g_18 hn_35 ty_38 c_39; omega) | omega)⟩, ⟨(by first | (clear f_6 hp_4 c_7 f_13 hp_11 c_14 b_17 g_18 hp_22 hn_35 b_36 ty_38 c_39; omega) | omega), (by first | (clear f_6 hp_4 c_7 f_13 hp_11 c_14 b_17 g_18 hp_22 hn_35 b_36 ty_38 c_39; omega) | omega)⟩, ((by first | (clear f_6 hp_4 c_7 f_13 hp_11 c_14 b_17 g_18 hn_35 ty_38 c_39; omega) | omega)), (hX_30.st (St_k_Weven_2_1_mk ⟨x_28, x_29, G_24, y_41, y_40, G_24, rfl, rfl, f_32, f_33, f_34, hB_G_24, ⟨c_37, ⟨y_38, ey_38, ⟨c_39, ⟨y_40, ty_40, ⟨y_41, ty_41, ⟨rfl, rfl, rfl⟩⟩⟩⟩⟩⟩⟩)), hW, hB_G_24, hF, (Fr.call9 (rs := []) (fs := []) Fr.rf hq_25 rfl rfl), hS, lv_sub hl [0, 1, 2, 3] rfl⟩
        · have c_16 : 99 < p4.toInt := xI_nle rfl rfl c_16
          refine ic_m1 hx hb dX11_even_36 ?_
          exact W.iret (v := (-1)) hx hb hr (fun t ht _ => ⟨⟨(-1), G_9, rfl, (P_Weven_2_mk ⟨hB_G_9, hF, ⟨r_1, G_2, hX_5, (Or.inr ⟨c_7, ⟨r_8, G_9, hX_12, (Or.inr ⟨c_14, (Or.inr ⟨c_15, (Or.inr ⟨c_16, ⟨rfl, rfl⟩⟩)⟩)⟩)⟩⟩)⟩⟩), wd_t ht hW⟩, hS.F ht⟩) hS.2.2 dX11_even_37

set_option maxHeartbeats 4000000 in
set_option maxRecDepth 100000 in
theorem k_Wevens_2 (l : Launch) (D : va_G) (k : KT) (A : Nat → Prop) (a : Nat → Nat) (z : SK) (G : GS) (p0 : Int32) (p1 : Int32) (p2 : Int32) (hv_0_0 : G.2.2 0 0 = 2) (hv_0_1 : G.2.2 0 1 = 1) (hv_6_4 : G.2.2 6 4 = 2) : Met l yX11_evens (WS yX11_evens cX11_evens 5 (some .int)) ({ frames := 5, cells := 0, slots := 0, locals := 119 }) (va_Pc [.ref (a 0), .int p0, .int p1, .int p2] (cW D k A a z G)) (va_Qi (fun (r : Int32) (G1 : GS) => P_Wevens_2 p0 p1 p2 G r G1) (fun (G1 : GS) t => Wd D k A a G1 t.heap) A) 0 0 A := by
  refine Met.ofW (cc := cX11_evens) (maxL := 5) (ret := (some .int)) (by decide) rfl ?_
  intro p e s m args below meth c s₁ B hml hv
  obtain ⟨rfl, hW, hB_G, hK, hZ⟩ := hv
  have hx := B.exec
  have hb := B.bytes
  have hr := B.returns
  have hts := atoms_spec (ws := WS yX11_evens cX11_evens 5 (some .int)) B.pre
  have hgd : ∀ w ∈ gd, w ∈ WS yX11_evens cX11_evens 5 (some .int) := fun w h => List.mem_cons_of_mem _ h
  have hg : ∀ w ∈ gd, w.before _ s = true := fun w h => hts w (hgd w h)
  have hown : s.vm.findClass RX11 = some m.cls := findClass_of_methodNamed B.named
  have hS : va_S A s.heap s.heap [] := va_S.rf
  have hF : Fr [33, 37, 38, 39, 40, 42] [(0, 12), (6, 3), (7, 1), (7, 2), (7, 3), (7, 4), (7, 5), (7, 6), (7, 7)] G G := Fr.rf
  have hl := lv_entry ([.ref (a 0), .int p0, .int p1, .int p2]) (n := 5) (Nat.le_of_ble_eq_true rfl)
  rw [lg_entry_eq]
  generalize (lg_sl ([.ref (a 0), .int p0, .int p1, .int p2]) ++ List.replicate (5 - (lg_sl ([.ref (a 0), .int p0, .int p1, .int p2])).length) Slot.unset).toArray = ls at hl ⊢
  have hl : lv_has ls 5 [(0, .ref (a 0)), (1, .int p0), (2, .int p1), (3, .int p2)] := hl
  refine lv_aload_n hx hb dX11_evens_0 rfl (lv_at hl 0 rfl) ?_
  refine ic_0 hx hb dX11_evens_1 ?_
  refine S_putI (ty := .int) (C := RX11) (T := TX11) (N := 13) hx hb hg iX11 tyX11 tyX11_ok nmX11 hown hK hW hS kd_0 rfl 12 (lt_b rfl) (hg (Cond.fieldLink RX11 150 "SlabWalk" "lie" "I") m582) (fun _ h9 => h9) rfl (by decide +kernel) rfl rfl rfl dX11_evens_2 (fun G_1 H locs eG_1 hW hS => ?_)
  have hB_G_1 : Bd G_1 := hB_G.put (V := 0) (lo := 0) (hi := 400) eG_1 rfl rfl rfl (by decide) (by decide) (hB_G.2.put eG_1 rfl)
  have hF := hF.put eG_1 (Or.inr (by decide))
  refine lv_aload_n hx hb dX11_evens_5 rfl (lv_at hl 0 rfl) ?_
  refine lv_iload_n hx hb dX11_evens_6 rfl (lv_at hl 1 rfl) ?_
  refine lv_iload_n hx hb dX11_evens_7 rfl (lv_at hl 2 rfl) ?_
  refine lv_iload_n hx hb dX11_evens_8 rfl (lv_at hl 3 rfl) ?_
  have b_2 : 0 ≤ (G.1 2 10).toInt ∧ (G.1 2 10).toInt ≤ 4 := bd_2_10 hB_G
  have g_3 : (G_1.1 2 10).toInt = (G.1 2 10).toInt := (congrArg Int32.toInt (show G_1.1 2 10 = (G.1 2 10) from (gp_ne eG_1 (by decide))))
  refine S_calli (va_runV (As := [.int p0, .int p1, .int p2]) (rest := []) ⟨hx, hb, hml, hown, hts⟩ (k_wAsk_2 l D k A a z G_1 p0 p1 p2 (((congrFun (congrFun (congrArg (fun q => q.2.2) eG_1) 0) 0)).trans (hv_0_0)) (((congrFun (congrFun (congrArg (fun q => q.2.2) eG_1) 0) 1)).trans (hv_0_1)) (((congrFun (congrFun (congrArg (fun q => q.2.2) eG_1) 6) 4)).trans (hv_6_4))) (cwV 3 hts (gd_V hgd m953 m955 m31 m117 m956) rfl rfl rfl hd_X11_canAsk ⟨Nat.le_of_ble_eq_true rfl, Nat.le_of_ble_eq_true rfl⟩) (pre_W hW hB_G_1 hK hZ hS kd_0 rfl) rfl rfl hl.1 rfl (lv_room (Nat.le_of_ble_eq_true rfl)) dX11_evens_9 ⟨Nat.le_of_ble_eq_true rfl, Nat.le_of_ble_eq_true rfl⟩) hS (fun r_4 G_5 H locs hpo hW hS => ?_)
  have hX_8 : P_wAsk_2 p0 p1 p2 G_1 r_4 G_5 := hpo
  obtain ⟨hB_G_5, hq_6, f_9, hp_7, -⟩ := hpo
  have hF := hF.call9 hq_6 rfl rfl
  refine lv_if_ne (tgt := 17) hx hb dX11_evens_12 rfl (fun c_10 => ?_) (fun c_10 => ?_)
  · have c_10 : r_4.toInt ≠ 0 := xI_ne rfl rfl c_10
    refine lv_aload_n hx hb dX11_evens_17 rfl (lv_at hl 0 rfl) ?_
    refine lv_iload_n hx hb dX11_evens_18 rfl (lv_at hl 1 rfl) ?_
    refine lv_iload_n hx hb dX11_evens_19 rfl (lv_at hl 2 rfl) ?_
    refine lv_iload_n hx hb dX11_evens_20 rfl (lv_at hl 3 rfl) ?_
    have g_11 : (G_5.1 2 10).toInt = (G.1 2 10).toInt := (congrArg Int32.toInt (show G_5.1 2 10 = (G.1 2 10) from ((hq_6.i9 2 10 rfl rfl).trans ((gp_ne eG_1 (by decide)).trans (rfl)))))
    refine S_callv (va_runV (As := [.int p0, .int p1, .int p2]) (rest := []) ⟨hx, hb, hml, hown, hts⟩ (k_wPrep_2 l D k A a z G_5 p0 p1 p2 ⟨by omega, by omega⟩ ⟨by omega, by omega⟩ ((((hq_6.r9 0 0 rfl rfl).trans (congrFun (congrFun (congrArg (fun q => q.2.2) eG_1) 0) 0))).trans (hv_0_0)) ((((hq_6.r9 0 1 rfl rfl).trans (congrFun (congrFun (congrArg (fun q => q.2.2) eG_1) 0) 1))).trans (hv_0_1)) ((((hq_6.r9 6 4 rfl rfl).trans (congrFun (congrFun (congrArg (fun q => q.2.2) eG_1) 6) 4))).trans (hv_6_4)) (by omega)) (cwV 3 hts (gd_V hgd m975 m977 m32 m117 m978) rfl rfl rfl hd_X11_prepare ⟨Nat.le_of_ble_eq_true rfl, Nat.le_of_ble_eq_true rfl⟩) (pre_W hW hB_G_5 hK hZ hS kd_0 rfl) rfl rfl hl.1 rfl (lv_room (Nat.le_of_ble_eq_true rfl)) dX11_evens_21 ⟨Nat.le_of_ble_eq_true rfl, Nat.le_of_ble_eq_true rfl⟩) hS (fun G_13 H locs hpo hW hS => ?_)
    have hX_16 : P_wPrep_2 p0 p1 p2 G_5 G_13 := hpo
    obtain ⟨hB_G_13, hq_14, hp_15, -⟩ := hpo
    have hF := hF.call9 hq_14 rfl rfl
    refine lv_aload_n hx hb dX11_evens_24 rfl (lv_at hl 0 rfl) ?_
    refine S_getR (n := 7) (C := RX11) (T := TX11) (N := 13) hx hb hg iX11 hown hK hW kd_0 rfl 5 (lt_b rfl) (hg (Cond.fieldLink RX11 44 "SlabWalk" "course" "LSlabWalk$Course;") m575) (fun _ h9 => h9) rfl dX11_evens_25 ?_
    have b_17 : 0 ≤ (G_13.1 7 3).toInt ∧ (G_13.1 7 3).toInt ≤ 60 := bd_7_3 hB_G_13
    refine S_getI (v := (G_13.1 7 3)) (C := RX0) (T := TX0) (N := 8) hx hb hg iX0 hown hK hW kd_7 rfl 3 (lt_b rfl) (hg (Cond.fieldLink RX11 181 "SlabWalk$Course" "least" "I") m380) (fun _ h9 => h9) rfl rfl dX11_evens_28 ?_
    refine lv_istore (lv' := [(4, .int (G_13.1 7 3)), (0, .ref (a 0)), (1, .int p0), (2, .int p1), (3, .int p2)]) hx hb dX11_evens_31 hl (lt_b rfl) rfl (fun ls hl => ?_)
    refine loop_N (Inv := fun n H locs ls => ∃ (G_18 : GS) (x_22 : Int32), (n : Int) = 61 - x_22.toInt ∧ (0 ≤ x_22.toInt ∧ x_22.toInt ≤ 61) ∧ Rc (St_k_Wevens_2_1 G_13) ((G_13.1 7 3), G_13) (x_22, G_18) ∧ Wd D k A a G_18 H ∧ Bd G_18 ∧ Fr [33, 37, 38, 39, 40, 42] [(0, 12), (6, 3), (7, 1), (7, 2), (7, 3), (7, 4), (7, 5), (7, 6), (7, 7)] G G_18 ∧ Fr [33, 42] [(0, 12)] G_13 G_18 ∧ va_S A s.heap H locs ∧ lv_has ls 5 [(4, .int x_22), (0, .ref (a 0))]) (fun n_21 H locs ls ih_20 hI => ?_) (61 - (G_13.1 7 3).toInt : Int).toNat ⟨G_13, (G_13.1 7 3), (Int.toNat_of_nonneg ((by first | (clear b_2 g_3 f_9 hp_7 c_10 g_11; omega) | omega))), ⟨(by first | (clear b_2 g_3 f_9 hp_7 c_10 g_11; omega) | omega), (by first | (clear b_2 g_3 f_9 hp_7 c_10 g_11; omega) | omega)⟩, Rc.rf, hW, hB_G_13, hF, Fr.rf, hS, lv_sub hl [0, 1] rfl⟩
    obtain ⟨G_18, x_22, hn_25, f_24, hX_23, hW, hB_G_18, hF, hq_19, hS, hl⟩ := hI
    refine lv_iload hx hb dX11_evens_33 (lv_at hl 0 rfl) ?_
    refine lv_aload_n hx hb dX11_evens_35 rfl (lv_at hl 1 rfl) ?_
    refine S_getR (n := 7) (C := RX11) (T := TX11) (N := 13) hx hb hg iX11 hown hK hW kd_0 rfl 5 (lt_b rfl) (hg (Cond.fieldLink RX11 44 "SlabWalk" "course" "LSlabWalk$Course;") m575) (fun _ h9 => h9) rfl dX11_evens_36 ?_
    have b_26 : 0 ≤ (G_13.1 7 4).toInt ∧ (G_13.1 7 4).toInt ≤ 60 := bd_7_4 hB_G_13
    refine S_getI (v := (G_13.1 7 4)) (C := RX0) (T := TX0) (N := 8) hx hb hg iX0 hown hK hW kd_7 rfl 4 (lt_b rfl) (hg (Cond.fieldLink RX11 184 "SlabWalk$Course" "most" "I") m384) (fun _ h9 => h9) rfl (hq_19.i9 7 4 rfl rfl) dX11_evens_39 ?_
    refine lv_icmp_gt (tgt := 73) hx hb dX11_evens_42 rfl (fun c_27 => ?_) (fun c_27 => ?_)
    · have c_27 : (G_13.1 7 4).toInt < x_22.toInt := xI_lt rfl rfl c_27
      refine lv_aload_n hx hb dX11_evens_73 rfl (lv_at hl 1 rfl) ?_
      have b_28 : 0 ≤ (G_18.1 0 12).toInt ∧ (G_18.1 0 12).toInt ≤ 400 := bd_0_12 hB_G_18
      refine S_getI (v := (G_18.1 0 12)) (C := RX11) (T := TX11) (N := 13) hx hb hg iX11 hown hK hW kd_0 rfl 12 (lt_b rfl) (hg (Cond.fieldLink RX11 150 "SlabWalk" "lie" "I") m582) (fun _ h9 => h9) rfl rfl dX11_evens_74 ?_
      exact W.iret (v := (G_18.1 0 12)) hx hb hr (fun t ht _ => ⟨⟨(G_18.1 0 12), G_18, rfl, (P_Wevens_2_mk ⟨hB_G_18, hF, ⟨G_1, hB_G_1, (Fr.put (rs := []) (fs := [(0, 12)]) Fr.rf eG_1 (Or.inr (by decide))), (gp_eq eG_1), ⟨r_4, G_5, hX_8, (Or.inr ⟨c_10, ⟨G_13, hX_16, ⟨x_22, G_18, hX_23, f_24, hB_G_18, hq_19, ⟨c_27, ⟨rfl, rfl⟩⟩⟩⟩⟩)⟩⟩⟩), wd_t ht hW⟩, hS.F ht⟩) hS.2.2 dX11_evens_77
    · have c_27 : x_22.toInt ≤ (G_13.1 7 4).toInt := xI_nlt rfl rfl c_27
      refine lv_aload_n hx hb dX11_evens_45 rfl (lv_at hl 1 rfl) ?_
      refine S_getR (n := 8) (C := RX11) (T := TX11) (N := 13) hx hb hg iX11 hown hK hW kd_0 rfl 6 (lt_b rfl) (hg (Cond.fieldLink RX11 51 "SlabWalk" "trails" "LSlabWalk$Trails;") m576) (fun _ h9 => h9) rfl dX11_evens_46 ?_
      refine lv_aload_n hx hb dX11_evens_49 rfl (lv_at hl 1 rfl) ?_
      refine S_getR (n := 7) (C := RX11) (T := TX11) (N := 13) hx hb hg iX11 hown hK hW kd_0 rfl 5 (lt_b rfl) (hg (Cond.fieldLink RX11 44 "SlabWalk" "course" "LSlabWalk$Course;") m575) (fun _ h9 => h9) rfl dX11_evens_50 ?_
      refine lv_iload hx hb dX11_evens_53 (lv_at hl 0 rfl) ?_
      have g_29 : (G_18.1 7 3).toInt = (G_13.1 7 3).toInt := (congrArg Int32.toInt (show G_18.1 7 3 = (G_13.1 7 3) from ((hq_19.i9 7 3 rfl rfl).trans (rfl))))
      have g_30 : (G_18.1 7 4).toInt = (G_13.1 7 4).toInt := (congrArg Int32.toInt (show G_18.1 7 4 = (G_13.1 7 4) from ((hq_19.i9 7 4 rfl rfl).trans (rfl))))
      have b_31 : (-1) ≤ (G_13.1 7 6).toInt ∧ (G_13.1 7 6).toInt ≤ 400 := bd_7_6 hB_G_13
      have g_32 : (G_18.1 7 6).toInt = (G_13.1 7 6).toInt := (congrArg Int32.toInt (show G_18.1 7 6 = (G_13.1 7 6) from (hq_19.i9 7 6 rfl rfl)))
      have b_33 : 0 ≤ (G_13.1 7 7).toInt ∧ (G_13.1 7 7).toInt ≤ 400 := bd_7_7 hB_G_13
      have g_34 : (G_18.1 7 7).toInt = (G_13.1 7 7).toInt := (congrArg Int32.toInt (show G_18.1 7 7 = (G_13.1 7 7) from (hq_19.i9 7 7 rfl rfl)))
      have g_35 : (G_18.1 7 4).toInt = (G_13.1 7 4).toInt := (congrArg Int32.toInt (show G_18.1 7 4 = (G_13.1 7 4) from ((hq_19.i9 7 4 rfl rfl).trans (rfl))))
      refine S_calli (va_runV (As := [.ref (a 7), .int x_22]) (rest := []) ⟨hx, hb, hml, hown, hts⟩ (k_tEvenly l D k A a z G_18 x_22 ⟨(by first | (clear b_2 g_3 f_9 hp_7 c_10 g_11 b_17 hn_25 b_31 b_33; omega) | omega), (by first | (clear b_2 g_3 f_9 hp_7 c_10 g_11 b_17 hn_25 b_31 b_33; omega) | omega)⟩ ((by first | exact ⟨((by first | (clear b_2 g_3 f_9 hp_7 c_10 g_11 hn_25 f_24; omega) | omega)), ⟨((by first | (clear b_2 g_3 f_9 hp_7 c_10 g_11 hn_25; omega) | omega)), ((by first | (clear b_2 g_3 f_9 hp_7 c_10 g_11 hn_25; omega) | omega))⟩⟩ | omega)) ((by first | (clear b_2 g_3 f_9 hp_7 c_10 g_11 hn_25; omega) | omega))) (cwV 2 hts (gd_V hgd m1057 m1058 m1059 m124 m1060) rfl rfl rfl hd_X10_comesEvenly ⟨Nat.le_of_ble_eq_true rfl, Nat.le_of_ble_eq_true rfl⟩) (pre_W hW hB_G_18 hK hZ hS kd_8 rfl) rfl rfl hl.1 rfl (lv_room (Nat.le_of_ble_eq_true rfl)) dX11_evens_55 ⟨Nat.le_of_ble_eq_true rfl, Nat.le_of_ble_eq_true rfl⟩) hS (fun r_36 G_37 H locs hpo hW hS => ?_)
      have hX_40 : P_tEvenly x_22 G_18 r_36 G_37 := hpo
      obtain ⟨hB_G_37, hq_38, f_41, -⟩ := hpo
      have hF := hF.call9 hq_38 rfl rfl
      refine lv_if_eq (tgt := 67) hx hb dX11_evens_58 rfl (fun c_42 => ?_) (fun c_42 => ?_)
      · have c_42 : r_36.toInt = 0 := xI_eq rfl rfl c_42
        obtain ⟨y_43, ey_43⟩ : ∃ q, q = x_22 + 1 := ⟨_, rfl⟩
        have ty_43 : y_43.toInt = x_22.toInt + 1 := xI_add rfl rfl ey_43 ((by first | (clear b_2 g_3 f_9 hp_7 c_10 g_11 b_17 hn_25 b_31 b_33 f_41 c_42; omega) | omega)) ((by first | (clear b_2 g_3 f_9 hp_7 c_10 g_11 b_17 hn_25 b_31 b_33 f_41 c_42; omega) | omega))
        refine lv_iinc (v := y_43) (lv' := [(4, .int y_43), (0, .ref (a 0))]) hx hb dX11_evens_67 hl (k := 0) rfl (by rw [ey_43]; rfl) (lt_b rfl) rfl (fun ls hl => ?_)
        refine lv_goto (tgt := 33) hx hb dX11_evens_70 rfl ?_
        exact ih_20 (61 - y_43.toInt : Int).toNat ((by first | (clear b_2 g_3 f_9 hp_7 c_10 g_11 b_17 b_31 b_33 f_41 c_42; omega) | omega)) _ _ _ ⟨G_37, y_43, (Int.toNat_of_nonneg ((by first | (clear b_2 g_3 f_9 hp_7 c_10 g_11 b_17 hn_25 b_31 b_33 f_41 c_42; omega) | omega))), ⟨(by first | (clear b_2 g_3 f_9 hp_7 c_10 g_11 b_17 hn_25 b_31 b_33 f_41 c_42; omega) | omega), (by first | (clear b_2 g_3 f_9 hp_7 c_10 g_11 b_17 hn_25 b_31 b_33 f_41 c_42; omega) | omega)⟩, (hX_23.st (St_k_Wevens_2_1_mk ⟨x_22, G_18, y_43, G_37, rfl, rfl, f_24, hB_G_18, ⟨c_27, ⟨r_36, G_37, hX_40, (Or.inl ⟨c_42, ⟨y_43, ty_43, ⟨rfl, rfl⟩⟩⟩)⟩⟩⟩)), hW, hB_G_37, hF, (Fr.call9 (rs := [33, 42]) (fs := [(0, 12)]) (Fr.call9 (rs := [33, 42]) (fs := [(0, 12)]) Fr.rf hq_19 rfl rfl) hq_38 rfl rfl), hS, lv_sub hl [0, 1] rfl⟩
      · have c_42 : r_36.toInt ≠ 0 := xI_ne rfl rfl c_42
        refine lv_aload_n hx hb dX11_evens_61 rfl (lv_at hl 1 rfl) ?_
        refine lv_iload hx hb dX11_evens_62 (lv_at hl 0 rfl) ?_
        refine S_callv (va_runV (As := [.int x_22]) (rest := []) ⟨hx, hb, hml, hown, hts⟩ (k_wLay l D k A a z G_37 x_22 ) (cwV 1 hts (gd_V hgd m1061 m1063 m36 m117 m1064) rfl rfl rfl hd_X11_layDown ⟨Nat.le_of_ble_eq_true rfl, Nat.le_of_ble_eq_true rfl⟩) (pre_W hW hB_G_37 hK hZ hS kd_0 rfl) rfl rfl hl.1 rfl (lv_room (Nat.le_of_ble_eq_true rfl)) dX11_evens_64 ⟨Nat.le_of_ble_eq_true rfl, Nat.le_of_ble_eq_true rfl⟩) hS (fun G_45 H locs hpo hW hS => ?_)
        have hX_48 : P_wLay x_22 G_37 G_45 := hpo
        obtain ⟨hB_G_45, hq_46, -⟩ := hpo
        have hF := hF.call9 hq_46 rfl rfl
        obtain ⟨y_49, ey_49⟩ : ∃ q, q = x_22 + 1 := ⟨_, rfl⟩
        have ty_49 : y_49.toInt = x_22.toInt + 1 := xI_add rfl rfl ey_49 ((by first | (clear b_2 g_3 f_9 hp_7 c_10 g_11 b_17 hn_25 b_31 b_33 f_41 c_42; omega) | omega)) ((by first | (clear b_2 g_3 f_9 hp_7 c_10 g_11 b_17 hn_25 b_31 b_33 f_41 c_42; omega) | omega))
        refine lv_iinc (v := y_49) (lv' := [(4, .int y_49), (0, .ref (a 0))]) hx hb dX11_evens_67 hl (k := 0) rfl (by rw [ey_49]; rfl) (lt_b rfl) rfl (fun ls hl => ?_)
        refine lv_goto (tgt := 33) hx hb dX11_evens_70 rfl ?_
        exact ih_20 (61 - y_49.toInt : Int).toNat ((by first | (clear b_2 g_3 f_9 hp_7 c_10 g_11 b_17 b_31 b_33 f_41 c_42; omega) | omega)) _ _ _ ⟨G_45, y_49, (Int.toNat_of_nonneg ((by first | (clear b_2 g_3 f_9 hp_7 c_10 g_11 b_17 hn_25 b_31 b_33 f_41 c_42; omega) | omega))), ⟨(by first | (clear b_2 g_3 f_9 hp_7 c_10 g_11 b_17 hn_25 b_31 b_33 f_41 c_42; omega) | omega), (by first | (clear b_2 g_3 f_9 hp_7 c_10 g_11 b_17 hn_25 b_31 b_33 f_41 c_42; omega) | omega)⟩, (hX_23.st (St_k_Wevens_2_1_mk ⟨x_22, G_18, y_49, G_45, rfl, rfl, f_24, hB_G_18, ⟨c_27, ⟨r_36, G_37, hX_40, (Or.inr ⟨c_42, ⟨G_45, hX_48, ⟨y_49, ty_49, ⟨rfl, rfl⟩⟩⟩⟩)⟩⟩⟩)), hW, hB_G_45, hF, (Fr.call9 (rs := [33, 42]) (fs := [(0, 12)]) (Fr.call9 (rs := [33, 42]) (fs := [(0, 12)]) (Fr.call9 (rs := [33, 42]) (fs := [(0, 12)]) Fr.rf hq_19 rfl rfl) hq_38 rfl rfl) hq_46 rfl rfl), hS, lv_sub hl [0, 1] rfl⟩
  · have c_10 : r_4.toInt = 0 := xI_eq rfl rfl c_10
    refine ic_m1 hx hb dX11_evens_15 ?_
    exact W.iret (v := (-1)) hx hb hr (fun t ht _ => ⟨⟨(-1), G_5, rfl, (P_Wevens_2_mk ⟨hB_G_5, hF, ⟨G_1, hB_G_1, (Fr.put (rs := []) (fs := [(0, 12)]) Fr.rf eG_1 (Or.inr (by decide))), (gp_eq eG_1), ⟨r_4, G_5, hX_8, (Or.inl ⟨c_10, ⟨rfl, rfl⟩⟩)⟩⟩⟩), wd_t ht hW⟩, hS.F ht⟩) hS.2.2 dX11_evens_16

set_option maxHeartbeats 4000000 in
set_option maxRecDepth 100000 in
theorem k_Wkeeps_2 (l : Launch) (D : va_G) (k : KT) (A : Nat → Prop) (a : Nat → Nat) (z : SK) (G : GS) (p0 : Int32) (p1 : Int32) (p2 : Int32) (hv_0_0 : G.2.2 0 0 = 2) (hv_0_1 : G.2.2 0 1 = 1) (hv_6_4 : G.2.2 6 4 = 2) : Met l yX11_keeps (WS yX11_keeps cX11_keeps 4 (some .int)) ({ frames := 5, cells := 0, slots := 0, locals := 119 }) (va_Pc [.ref (a 0), .int p0, .int p1, .int p2] (cW D k A a z G)) (va_Qi (fun (r : Int32) (G1 : GS) => P_Wkeeps_2 p0 p1 p2 G r G1) (fun (G1 : GS) t => Wd D k A a G1 t.heap) A) 0 0 A := by
  refine Met.ofW (cc := cX11_keeps) (maxL := 4) (ret := (some .int)) (by decide) rfl ?_
  intro p e s m args below meth c s₁ B hml hv
  obtain ⟨rfl, hW, hB_G, hK, hZ⟩ := hv
  have hx := B.exec
  have hb := B.bytes
  have hr := B.returns
  have hts := atoms_spec (ws := WS yX11_keeps cX11_keeps 4 (some .int)) B.pre
  have hgd : ∀ w ∈ gd, w ∈ WS yX11_keeps cX11_keeps 4 (some .int) := fun w h => List.mem_cons_of_mem _ h
  have hg : ∀ w ∈ gd, w.before _ s = true := fun w h => hts w (hgd w h)
  have hown : s.vm.findClass RX11 = some m.cls := findClass_of_methodNamed B.named
  have hS : va_S A s.heap s.heap [] := va_S.rf
  have hF : Fr [37, 38, 39, 40, 42, 43, 44, 45, 48, 49, 50, 51] [(6, 3), (7, 1), (7, 2), (7, 3), (7, 4), (7, 5), (7, 6), (7, 7), (9, 2), (9, 3), (19, 2), (19, 3)] G G := Fr.rf
  have hl := lv_entry ([.ref (a 0), .int p0, .int p1, .int p2]) (n := 4) (Nat.le_of_ble_eq_true rfl)
  rw [lg_entry_eq]
  generalize (lg_sl ([.ref (a 0), .int p0, .int p1, .int p2]) ++ List.replicate (4 - (lg_sl ([.ref (a 0), .int p0, .int p1, .int p2])).length) Slot.unset).toArray = ls at hl ⊢
  have hl : lv_has ls 4 [(0, .ref (a 0)), (1, .int p0), (2, .int p1), (3, .int p2)] := hl
  refine lv_aload_n hx hb dX11_keeps_0 rfl (lv_at hl 0 rfl) ?_
  refine lv_iload_n hx hb dX11_keeps_1 rfl (lv_at hl 1 rfl) ?_
  refine lv_iload_n hx hb dX11_keeps_2 rfl (lv_at hl 2 rfl) ?_
  refine lv_iload_n hx hb dX11_keeps_3 rfl (lv_at hl 3 rfl) ?_
  refine S_calli (va_runV (As := [.int p0, .int p1, .int p2]) (rest := []) ⟨hx, hb, hml, hown, hts⟩ (k_wAsk_2 l D k A a z G p0 p1 p2 hv_0_0 hv_0_1 hv_6_4) (cwV 3 hts (gd_V hgd m953 m955 m31 m117 m956) rfl rfl rfl hd_X11_canAsk ⟨Nat.le_of_ble_eq_true rfl, Nat.le_of_ble_eq_true rfl⟩) (pre_W hW hB_G hK hZ hS kd_0 rfl) rfl rfl hl.1 rfl (lv_room (Nat.le_of_ble_eq_true rfl)) dX11_keeps_4 ⟨Nat.le_of_ble_eq_true rfl, Nat.le_of_ble_eq_true rfl⟩) hS (fun r_1 G_2 H locs hpo hW hS => ?_)
  have hX_5 : P_wAsk_2 p0 p1 p2 G r_1 G_2 := hpo
  obtain ⟨hB_G_2, hq_3, f_6, hp_4, -⟩ := hpo
  have hF := hF.call9 hq_3 rfl rfl
  refine lv_if_ne (tgt := 12) hx hb dX11_keeps_7 rfl (fun c_7 => ?_) (fun c_7 => ?_)
  · have c_7 : r_1.toInt ≠ 0 := xI_ne rfl rfl c_7
    refine lv_aload_n hx hb dX11_keeps_12 rfl (lv_at hl 0 rfl) ?_
    refine lv_iload_n hx hb dX11_keeps_13 rfl (lv_at hl 1 rfl) ?_
    refine lv_iload_n hx hb dX11_keeps_14 rfl (lv_at hl 2 rfl) ?_
    refine lv_iload_n hx hb dX11_keeps_15 rfl (lv_at hl 3 rfl) ?_
    have b_8 : 0 ≤ (G.1 2 10).toInt ∧ (G.1 2 10).toInt ≤ 4 := bd_2_10 hB_G
    have g_9 : (G_2.1 2 10).toInt = (G.1 2 10).toInt := (congrArg Int32.toInt (show G_2.1 2 10 = (G.1 2 10) from (hq_3.i9 2 10 rfl rfl)))
    refine S_callv (va_runV (As := [.int p0, .int p1, .int p2]) (rest := []) ⟨hx, hb, hml, hown, hts⟩ (k_wPrep_2 l D k A a z G_2 p0 p1 p2 ⟨by omega, by omega⟩ ⟨by omega, by omega⟩ (((hq_3.r9 0 0 rfl rfl)).trans (hv_0_0)) (((hq_3.r9 0 1 rfl rfl)).trans (hv_0_1)) (((hq_3.r9 6 4 rfl rfl)).trans (hv_6_4)) (by omega)) (cwV 3 hts (gd_V hgd m975 m977 m32 m117 m978) rfl rfl rfl hd_X11_prepare ⟨Nat.le_of_ble_eq_true rfl, Nat.le_of_ble_eq_true rfl⟩) (pre_W hW hB_G_2 hK hZ hS kd_0 rfl) rfl rfl hl.1 rfl (lv_room (Nat.le_of_ble_eq_true rfl)) dX11_keeps_16 ⟨Nat.le_of_ble_eq_true rfl, Nat.le_of_ble_eq_true rfl⟩) hS (fun G_11 H locs hpo hW hS => ?_)
    have hX_14 : P_wPrep_2 p0 p1 p2 G_2 G_11 := hpo
    obtain ⟨hB_G_11, hq_12, hp_13, -⟩ := hpo
    have hF := hF.call9 hq_12 rfl rfl
    refine lv_aload_n hx hb dX11_keeps_19 rfl (lv_at hl 0 rfl) ?_
    refine S_getR (n := 8) (C := RX11) (T := TX11) (N := 13) hx hb hg iX11 hown hK hW kd_0 rfl 6 (lt_b rfl) (hg (Cond.fieldLink RX11 51 "SlabWalk" "trails" "LSlabWalk$Trails;") m576) (fun _ h9 => h9) rfl dX11_keeps_20 ?_
    refine lv_aload_n hx hb dX11_keeps_23 rfl (lv_at hl 0 rfl) ?_
    refine S_getR (n := 7) (C := RX11) (T := TX11) (N := 13) hx hb hg iX11 hown hK hW kd_0 rfl 5 (lt_b rfl) (hg (Cond.fieldLink RX11 44 "SlabWalk" "course" "LSlabWalk$Course;") m575) (fun _ h9 => h9) rfl dX11_keeps_24 ?_
    refine lv_aload_n hx hb dX11_keeps_27 rfl (lv_at hl 0 rfl) ?_
    refine S_getV (n := 2) (C := RX11) (T := TX11) (N := 13) hx hb hg iX11 hown hK hW kd_0 rfl 0 (lt_b rfl) (hg (Cond.fieldLink RX11 10 "SlabWalk" "paving" "LSlabWalk$Paving;") m570) (fun _ h9 => h9) rfl ((((hq_12.r9 0 0 rfl rfl).trans (hq_3.r9 0 0 rfl rfl))).trans (hv_0_0)) dX11_keeps_28 ?_
    have b_15 : 0 ≤ (G.1 2 14).toInt ∧ (G.1 2 14).toInt ≤ 99 := bd_2_14 hB_G
    refine S_getI (v := (G.1 2 14)) (C := RX6) (T := TX6) (N := 17) hx hb hg iX6 hown hK hW kd_2 rfl 14 (lt_b rfl) (hg (Cond.fieldLink RX11 201 "SlabWalk$Paving" "hand" "I") m203) (fun _ h9 => h9) rfl ((hq_12.i9 2 14 rfl rfl).trans (hq_3.i9 2 14 rfl rfl)) dX11_keeps_31 ?_
    refine lv_aload_n hx hb dX11_keeps_34 rfl (lv_at hl 0 rfl) ?_
    refine S_getV (n := 2) (C := RX11) (T := TX11) (N := 13) hx hb hg iX11 hown hK hW kd_0 rfl 0 (lt_b rfl) (hg (Cond.fieldLink RX11 10 "SlabWalk" "paving" "LSlabWalk$Paving;") m570) (fun _ h9 => h9) rfl ((((hq_12.r9 0 0 rfl rfl).trans (hq_3.r9 0 0 rfl rfl))).trans (hv_0_0)) dX11_keeps_35 ?_
    have b_16 : 0 ≤ (G.1 2 15).toInt ∧ (G.1 2 15).toInt ≤ 99 := bd_2_15 hB_G
    refine S_getI (v := (G.1 2 15)) (C := RX6) (T := TX6) (N := 17) hx hb hg iX6 hown hK hW kd_2 rfl 15 (lt_b rfl) (hg (Cond.fieldLink RX11 204 "SlabWalk$Paving" "slack" "I") m206) (fun _ h9 => h9) rfl ((hq_12.i9 2 15 rfl rfl).trans (hq_3.i9 2 15 rfl rfl)) dX11_keeps_38 ?_
    have b_17 : 0 ≤ (G_11.1 7 3).toInt ∧ (G_11.1 7 3).toInt ≤ 60 := bd_7_3 hB_G_11
    have b_18 : 0 ≤ (G_11.1 7 4).toInt ∧ (G_11.1 7 4).toInt ≤ 60 := bd_7_4 hB_G_11
    have b_19 : (-1) ≤ (G_11.1 7 6).toInt ∧ (G_11.1 7 6).toInt ≤ 400 := bd_7_6 hB_G_11
    have b_20 : 0 ≤ (G_11.1 7 7).toInt ∧ (G_11.1 7 7).toInt ≤ 400 := bd_7_7 hB_G_11
    refine S_calli (va_runV (As := [.ref (a 7), .int (G.1 2 14), .int (G.1 2 15)]) (rest := []) ⟨hx, hb, hml, hown, hts⟩ (k_tLeaps l D k A a z G_11 (G.1 2 14) (G.1 2 15) ⟨(by first | (clear f_6 hp_4 c_7 b_8 g_9 hp_13 b_16 b_17 b_18 b_19 b_20; omega) | omega), (by first | (clear f_6 hp_4 c_7 b_8 g_9 hp_13 b_16 b_17 b_18 b_19 b_20; omega) | omega)⟩ ⟨(by first | (clear f_6 hp_4 c_7 b_8 g_9 hp_13 b_15 b_17 b_18 b_19 b_20; omega) | omega), (by first | (clear f_6 hp_4 c_7 b_8 g_9 hp_13 b_15 b_17 b_18 b_19 b_20; omega) | omega)⟩ ((by first | exact ⟨((by first | (clear f_6 hp_4 c_7 b_8 g_9 b_15 b_16; omega) | omega)), ⟨((by first | (clear f_6 hp_4 c_7 b_8 g_9 b_15 b_16; omega) | omega)), ((by first | (clear f_6 hp_4 c_7 b_8 g_9 b_15 b_16; omega) | omega))⟩⟩ | omega))) (cwV 3 hts (gd_V hgd m1091 m1092 m1093 m124 m1094) rfl rfl rfl hd_X10_fewestLeaps ⟨Nat.le_of_ble_eq_true rfl, Nat.le_of_ble_eq_true rfl⟩) (pre_W hW hB_G_11 hK hZ hS kd_8 rfl) rfl rfl hl.1 rfl (lv_room (Nat.le_of_ble_eq_true rfl)) dX11_keeps_41 ⟨Nat.le_of_ble_eq_true rfl, Nat.le_of_ble_eq_true rfl⟩) hS (fun r_21 G_22 H locs hpo hW hS => ?_)
    have hX_25 : P_tLeaps (G.1 2 14) (G.1 2 15) G_11 r_21 G_22 := hpo
    obtain ⟨hB_G_22, hq_23, -⟩ := hpo
    have hF := hF.call9 hq_23 rfl rfl
    exact W.iret (v := r_21) hx hb hr (fun t ht _ => ⟨⟨r_21, G_22, rfl, (P_Wkeeps_2_mk ⟨hB_G_22, hF, ⟨r_1, G_2, hX_5, (Or.inr ⟨c_7, ⟨G_11, hX_14, ⟨r_21, G_22, hX_25, ⟨rfl, rfl⟩⟩⟩⟩)⟩⟩), wd_t ht hW⟩, hS.F ht⟩) hS.2.2 dX11_keeps_44
  · have c_7 : r_1.toInt = 0 := xI_eq rfl rfl c_7
    refine ic_m1 hx hb dX11_keeps_10 ?_
    exact W.iret (v := (-1)) hx hb hr (fun t ht _ => ⟨⟨(-1), G_2, rfl, (P_Wkeeps_2_mk ⟨hB_G_2, hF, ⟨r_1, G_2, hX_5, (Or.inl ⟨c_7, ⟨rfl, rfl⟩⟩)⟩⟩), wd_t ht hW⟩, hS.F ht⟩) hS.2.2 dX11_keeps_11

set_option maxHeartbeats 4000000 in
set_option maxRecDepth 100000 in
theorem k_Wbrave_2 (l : Launch) (D : va_G) (k : KT) (A : Nat → Prop) (a : Nat → Nat) (z : SK) (G : GS) (p0 : Int32) (p1 : Int32) (p2 : Int32) (p3 : Int32) (p4 : Int32) (hv_0_0 : G.2.2 0 0 = 2) (hv_0_1 : G.2.2 0 1 = 1) (hv_6_4 : G.2.2 6 4 = 2) : Met l yX11_brave (WS yX11_brave cX11_brave 6 (some .long)) ({ frames := 5, cells := 0, slots := 0, locals := 119 }) (va_Pc [.ref (a 0), .int p0, .int p1, .int p2, .int p3, .int p4] (cW D k A a z G)) (va_Ql (fun (r : Int64) (G1 : GS) => P_Wbrave_2 p0 p1 p2 p3 p4 G r G1) (fun (G1 : GS) t => Wd D k A a G1 t.heap) A) 0 0 A := by
  refine Met.ofW (cc := cX11_brave) (maxL := 6) (ret := (some .long)) (by decide) rfl ?_
  intro p e s m args below meth c s₁ B hml hv
  obtain ⟨rfl, hW, hB_G, hK, hZ⟩ := hv
  have hx := B.exec
  have hb := B.bytes
  have hr := B.returns
  have hts := atoms_spec (ws := WS yX11_brave cX11_brave 6 (some .long)) B.pre
  have hgd : ∀ w ∈ gd, w ∈ WS yX11_brave cX11_brave 6 (some .long) := fun w h => List.mem_cons_of_mem _ h
  have hg : ∀ w ∈ gd, w.before _ s = true := fun w h => hts w (hgd w h)
  have hown : s.vm.findClass RX11 = some m.cls := findClass_of_methodNamed B.named
  have hS : va_S A s.heap s.heap [] := va_S.rf
  have hF : Fr [37, 38, 39, 40, 56, 57] [(6, 3), (7, 1), (7, 2), (7, 3), (7, 4), (7, 5), (7, 6), (7, 7), (29, 6)] G G := Fr.rf
  have hl := lv_entry ([.ref (a 0), .int p0, .int p1, .int p2, .int p3, .int p4]) (n := 6) (Nat.le_of_ble_eq_true rfl)
  rw [lg_entry_eq]
  generalize (lg_sl ([.ref (a 0), .int p0, .int p1, .int p2, .int p3, .int p4]) ++ List.replicate (6 - (lg_sl ([.ref (a 0), .int p0, .int p1, .int p2, .int p3, .int p4])).length) Slot.unset).toArray = ls at hl ⊢
  have hl : lv_has ls 6 [(0, .ref (a 0)), (1, .int p0), (2, .int p1), (3, .int p2), (4, .int p3), (5, .int p4)] := hl
  refine lv_aload_n hx hb dX11_brave_0 rfl (lv_at hl 0 rfl) ?_
  refine lv_iload_n hx hb dX11_brave_1 rfl (lv_at hl 1 rfl) ?_
  refine lv_iload_n hx hb dX11_brave_2 rfl (lv_at hl 2 rfl) ?_
  refine lv_iload_n hx hb dX11_brave_3 rfl (lv_at hl 3 rfl) ?_
  refine lv_iload hx hb dX11_brave_4 (lv_at hl 4 rfl) ?_
  refine lv_iload hx hb dX11_brave_6 (lv_at hl 5 rfl) ?_
  refine S_calli (va_runV (As := [.int p0, .int p1, .int p2, .int p3, .int p4]) (rest := []) ⟨hx, hb, hml, hown, hts⟩ (k_wBrave_2 l D k A a z G p0 p1 p2 p3 p4 hv_0_0 hv_0_1 hv_6_4) (cwV 5 hts (gd_V hgd m1117 m1119 m38 m117 m1120) rfl rfl rfl hd_X11_canBeBrave ⟨Nat.le_of_ble_eq_true rfl, Nat.le_of_ble_eq_true rfl⟩) (pre_W hW hB_G hK hZ hS kd_0 rfl) rfl rfl hl.1 rfl (lv_room (Nat.le_of_ble_eq_true rfl)) dX11_brave_8 ⟨Nat.le_of_ble_eq_true rfl, Nat.le_of_ble_eq_true rfl⟩) hS (fun r_1 G_2 H locs hpo hW hS => ?_)
  have hX_5 : P_wBrave_2 p0 p1 p2 p3 p4 G r_1 G_2 := hpo
  obtain ⟨hB_G_2, hq_3, f_6, hp_4, -⟩ := hpo
  have hF := hF.call9 hq_3 rfl rfl
  refine lv_if_ne (tgt := 18) hx hb dX11_brave_11 rfl (fun c_7 => ?_) (fun c_7 => ?_)
  · have c_7 : r_1.toInt ≠ 0 := xI_ne rfl rfl c_7
    refine lv_aload_n hx hb dX11_brave_18 rfl (lv_at hl 0 rfl) ?_
    refine lv_iload_n hx hb dX11_brave_19 rfl (lv_at hl 1 rfl) ?_
    refine lv_iload_n hx hb dX11_brave_20 rfl (lv_at hl 2 rfl) ?_
    refine lv_iload_n hx hb dX11_brave_21 rfl (lv_at hl 3 rfl) ?_
    have b_8 : 0 ≤ (G.1 2 10).toInt ∧ (G.1 2 10).toInt ≤ 4 := bd_2_10 hB_G
    have g_9 : (G_2.1 2 10).toInt = (G.1 2 10).toInt := (congrArg Int32.toInt (show G_2.1 2 10 = (G.1 2 10) from (hq_3.i9 2 10 rfl rfl)))
    refine S_callv (va_runV (As := [.int p0, .int p1, .int p2]) (rest := []) ⟨hx, hb, hml, hown, hts⟩ (k_wPrep_2 l D k A a z G_2 p0 p1 p2 ⟨by omega, by omega⟩ ⟨by omega, by omega⟩ (((hq_3.r9 0 0 rfl rfl)).trans (hv_0_0)) (((hq_3.r9 0 1 rfl rfl)).trans (hv_0_1)) (((hq_3.r9 6 4 rfl rfl)).trans (hv_6_4)) (by omega)) (cwV 3 hts (gd_V hgd m975 m977 m32 m117 m978) rfl rfl rfl hd_X11_prepare ⟨Nat.le_of_ble_eq_true rfl, Nat.le_of_ble_eq_true rfl⟩) (pre_W hW hB_G_2 hK hZ hS kd_0 rfl) rfl rfl hl.1 rfl (lv_room (Nat.le_of_ble_eq_true rfl)) dX11_brave_22 ⟨Nat.le_of_ble_eq_true rfl, Nat.le_of_ble_eq_true rfl⟩) hS (fun G_11 H locs hpo hW hS => ?_)
    have hX_14 : P_wPrep_2 p0 p1 p2 G_2 G_11 := hpo
    obtain ⟨hB_G_11, hq_12, hp_13, -⟩ := hpo
    have hF := hF.call9 hq_12 rfl rfl
    refine lv_aload_n hx hb dX11_brave_25 rfl (lv_at hl 0 rfl) ?_
    refine S_getR (n := 29) (C := RX11) (T := TX11) (N := 13) hx hb hg iX11 hown hK hW kd_0 rfl 7 (lt_b rfl) (hg (Cond.fieldLink RX11 58 "SlabWalk" "odds" "LSlabWalk$Odds;") m577) (fun _ h9 => h9) rfl dX11_brave_26 ?_
    refine lv_aload_n hx hb dX11_brave_29 rfl (lv_at hl 0 rfl) ?_
    refine S_getR (n := 7) (C := RX11) (T := TX11) (N := 13) hx hb hg iX11 hown hK hW kd_0 rfl 5 (lt_b rfl) (hg (Cond.fieldLink RX11 44 "SlabWalk" "course" "LSlabWalk$Course;") m575) (fun _ h9 => h9) rfl dX11_brave_30 ?_
    refine lv_aload_n hx hb dX11_brave_33 rfl (lv_at hl 0 rfl) ?_
    refine S_getV (n := 2) (C := RX11) (T := TX11) (N := 13) hx hb hg iX11 hown hK hW kd_0 rfl 0 (lt_b rfl) (hg (Cond.fieldLink RX11 10 "SlabWalk" "paving" "LSlabWalk$Paving;") m570) (fun _ h9 => h9) rfl ((((hq_12.r9 0 0 rfl rfl).trans (hq_3.r9 0 0 rfl rfl))).trans (hv_0_0)) dX11_brave_34 ?_
    refine S_getR (n := 26) (C := RX6) (T := TX6) (N := 17) hx hb hg iX6 hown hK hW kd_2 rfl 6 (lt_b rfl) (hg (Cond.fieldLink RX11 215 "SlabWalk$Paving" "slip" "[I") m180) (fun _ h9 => h9) rfl dX11_brave_37 ?_
    refine lv_iload hx hb dX11_brave_40 (lv_at hl 4 rfl) ?_
    refine lv_iload hx hb dX11_brave_42 (lv_at hl 5 rfl) ?_
    have b_15 : 0 ≤ (G_11.1 7 3).toInt ∧ (G_11.1 7 3).toInt ≤ 60 := bd_7_3 hB_G_11
    have b_16 : 0 ≤ (G_11.1 7 4).toInt ∧ (G_11.1 7 4).toInt ≤ 60 := bd_7_4 hB_G_11
    have b_17 : (-1) ≤ (G_11.1 7 6).toInt ∧ (G_11.1 7 6).toInt ≤ 400 := bd_7_6 hB_G_11
    have b_18 : 0 ≤ (G_11.1 7 7).toInt ∧ (G_11.1 7 7).toInt ≤ 400 := bd_7_7 hB_G_11
    refine S_calll (va_runV (As := [.ref (a 7), .ref (a 26), .int p3, .int p4]) (rest := []) ⟨hx, hb, hml, hown, hts⟩ (k_oBrave_2 l D k A a z G_11 p3 p4 ⟨(by first | (clear hp_13 b_15 b_16 b_17 b_18; omega) | omega), (by first | (clear hp_13 b_15 b_16 b_17 b_18; omega) | omega)⟩ ⟨(by first | (clear hp_13 b_15 b_16 b_17 b_18; omega) | omega), (by first | (clear hp_13 b_15 b_16 b_17 b_18; omega) | omega)⟩ ((by first | exact ⟨((by first | (clear f_6 hp_4 c_7 b_8 g_9; omega) | omega)), ⟨((by first | (clear f_6 hp_4 c_7 b_8 g_9; omega) | omega)), ((by first | (clear f_6 hp_4 c_7 b_8 g_9; omega) | omega))⟩⟩ | omega))) (cwV 4 hts (gd_V hgd m1122 m1123 m1124 m126 m1125) rfl rfl rfl hd_X5_bravest ⟨Nat.le_of_ble_eq_true rfl, Nat.le_of_ble_eq_true rfl⟩) (pre_W hW hB_G_11 hK hZ hS kd_29 rfl) rfl rfl hl.1 rfl (lv_room (Nat.le_of_ble_eq_true rfl)) dX11_brave_44 ⟨Nat.le_of_ble_eq_true rfl, Nat.le_of_ble_eq_true rfl⟩) hS (fun r_19 G_20 H locs hpo hW hS => ?_)
    have hX_23 : P_oBrave_2 p3 p4 G_11 r_19 G_20 := hpo
    obtain ⟨hB_G_20, hq_21, -⟩ := hpo
    have hF := hF.call9 hq_21 rfl rfl
    exact W.lret (v := r_19) hx hb hr (fun t ht _ => ⟨⟨r_19, G_20, rfl, (P_Wbrave_2_mk ⟨hB_G_20, hF, ⟨r_1, G_2, hX_5, (Or.inr ⟨c_7, ⟨G_11, hX_14, ⟨r_19, G_20, hX_23, ⟨rfl, rfl⟩⟩⟩⟩)⟩⟩), wd_t ht hW⟩, hS.F ht⟩) hS.2.2 dX11_brave_47
  · have c_7 : r_1.toInt = 0 := xI_eq rfl rfl c_7
    refine lv_ldc2 (v := (-1)) hx hb hown (hg (Cond.constantLong RX11 165 (-1)) m1018) dX11_brave_14 ?_
    exact W.lret (v := (-1)) hx hb hr (fun t ht _ => ⟨⟨(-1), G_2, rfl, (P_Wbrave_2_mk ⟨hB_G_2, hF, ⟨r_1, G_2, hX_5, (Or.inl ⟨c_7, ⟨rfl, rfl⟩⟩)⟩⟩), wd_t ht hW⟩, hS.F ht⟩) hS.2.2 dX11_brave_17

set_option maxHeartbeats 4000000 in
set_option maxRecDepth 100000 in
theorem k_Wboldest_2 (l : Launch) (D : va_G) (k : KT) (A : Nat → Prop) (a : Nat → Nat) (z : SK) (G : GS) (p0 : Int32) (p1 : Int32) (p2 : Int32) (p3 : Int32) (p4 : Int32) (hv_0_0 : G.2.2 0 0 = 2) (hv_0_1 : G.2.2 0 1 = 1) (hv_6_4 : G.2.2 6 4 = 2) : Met l yX11_boldest (WS yX11_boldest cX11_boldest 6 (some .int)) ({ frames := 5, cells := 0, slots := 0, locals := 119 }) (va_Pc [.ref (a 0), .int p0, .int p1, .int p2, .int p3, .int p4] (cW D k A a z G)) (va_Qi (fun (r : Int32) (G1 : GS) => P_Wboldest_2 p0 p1 p2 p3 p4 G r G1) (fun (G1 : GS) t => Wd D k A a G1 t.heap) A) 0 0 A := by
  refine Met.ofW (cc := cX11_boldest) (maxL := 6) (ret := (some .int)) (by decide) rfl ?_
  intro p e s m args below meth c s₁ B hml hv
  obtain ⟨rfl, hW, hB_G, hK, hZ⟩ := hv
  have hx := B.exec
  have hb := B.bytes
  have hr := B.returns
  have hts := atoms_spec (ws := WS yX11_boldest cX11_boldest 6 (some .int)) B.pre
  have hgd : ∀ w ∈ gd, w ∈ WS yX11_boldest cX11_boldest 6 (some .int) := fun w h => List.mem_cons_of_mem _ h
  have hg : ∀ w ∈ gd, w.before _ s = true := fun w h => hts w (hgd w h)
  have hown : s.vm.findClass RX11 = some m.cls := findClass_of_methodNamed B.named
  have hS : va_S A s.heap s.heap [] := va_S.rf
  have hF : Fr [37, 38, 39, 40, 56, 57] [(6, 3), (7, 1), (7, 2), (7, 3), (7, 4), (7, 5), (7, 6), (7, 7), (29, 6)] G G := Fr.rf
  have hl := lv_entry ([.ref (a 0), .int p0, .int p1, .int p2, .int p3, .int p4]) (n := 6) (Nat.le_of_ble_eq_true rfl)
  rw [lg_entry_eq]
  generalize (lg_sl ([.ref (a 0), .int p0, .int p1, .int p2, .int p3, .int p4]) ++ List.replicate (6 - (lg_sl ([.ref (a 0), .int p0, .int p1, .int p2, .int p3, .int p4])).length) Slot.unset).toArray = ls at hl ⊢
  have hl : lv_has ls 6 [(0, .ref (a 0)), (1, .int p0), (2, .int p1), (3, .int p2), (4, .int p3), (5, .int p4)] := hl
  refine lv_aload_n hx hb dX11_boldest_0 rfl (lv_at hl 0 rfl) ?_
  refine lv_iload_n hx hb dX11_boldest_1 rfl (lv_at hl 1 rfl) ?_
  refine lv_iload_n hx hb dX11_boldest_2 rfl (lv_at hl 2 rfl) ?_
  refine lv_iload_n hx hb dX11_boldest_3 rfl (lv_at hl 3 rfl) ?_
  refine lv_iload hx hb dX11_boldest_4 (lv_at hl 4 rfl) ?_
  refine lv_iload hx hb dX11_boldest_6 (lv_at hl 5 rfl) ?_
  refine S_calli (va_runV (As := [.int p0, .int p1, .int p2, .int p3, .int p4]) (rest := []) ⟨hx, hb, hml, hown, hts⟩ (k_wBrave_2 l D k A a z G p0 p1 p2 p3 p4 hv_0_0 hv_0_1 hv_6_4) (cwV 5 hts (gd_V hgd m1117 m1119 m38 m117 m1120) rfl rfl rfl hd_X11_canBeBrave ⟨Nat.le_of_ble_eq_true rfl, Nat.le_of_ble_eq_true rfl⟩) (pre_W hW hB_G hK hZ hS kd_0 rfl) rfl rfl hl.1 rfl (lv_room (Nat.le_of_ble_eq_true rfl)) dX11_boldest_8 ⟨Nat.le_of_ble_eq_true rfl, Nat.le_of_ble_eq_true rfl⟩) hS (fun r_1 G_2 H locs hpo hW hS => ?_)
  have hX_5 : P_wBrave_2 p0 p1 p2 p3 p4 G r_1 G_2 := hpo
  obtain ⟨hB_G_2, hq_3, f_6, hp_4, -⟩ := hpo
  have hF := hF.call9 hq_3 rfl rfl
  refine lv_if_ne (tgt := 16) hx hb dX11_boldest_11 rfl (fun c_7 => ?_) (fun c_7 => ?_)
  · have c_7 : r_1.toInt ≠ 0 := xI_ne rfl rfl c_7
    refine lv_aload_n hx hb dX11_boldest_16 rfl (lv_at hl 0 rfl) ?_
    refine lv_iload_n hx hb dX11_boldest_17 rfl (lv_at hl 1 rfl) ?_
    refine lv_iload_n hx hb dX11_boldest_18 rfl (lv_at hl 2 rfl) ?_
    refine lv_iload_n hx hb dX11_boldest_19 rfl (lv_at hl 3 rfl) ?_
    have b_8 : 0 ≤ (G.1 2 10).toInt ∧ (G.1 2 10).toInt ≤ 4 := bd_2_10 hB_G
    have g_9 : (G_2.1 2 10).toInt = (G.1 2 10).toInt := (congrArg Int32.toInt (show G_2.1 2 10 = (G.1 2 10) from (hq_3.i9 2 10 rfl rfl)))
    refine S_callv (va_runV (As := [.int p0, .int p1, .int p2]) (rest := []) ⟨hx, hb, hml, hown, hts⟩ (k_wPrep_2 l D k A a z G_2 p0 p1 p2 ⟨by omega, by omega⟩ ⟨by omega, by omega⟩ (((hq_3.r9 0 0 rfl rfl)).trans (hv_0_0)) (((hq_3.r9 0 1 rfl rfl)).trans (hv_0_1)) (((hq_3.r9 6 4 rfl rfl)).trans (hv_6_4)) (by omega)) (cwV 3 hts (gd_V hgd m975 m977 m32 m117 m978) rfl rfl rfl hd_X11_prepare ⟨Nat.le_of_ble_eq_true rfl, Nat.le_of_ble_eq_true rfl⟩) (pre_W hW hB_G_2 hK hZ hS kd_0 rfl) rfl rfl hl.1 rfl (lv_room (Nat.le_of_ble_eq_true rfl)) dX11_boldest_20 ⟨Nat.le_of_ble_eq_true rfl, Nat.le_of_ble_eq_true rfl⟩) hS (fun G_11 H locs hpo hW hS => ?_)
    have hX_14 : P_wPrep_2 p0 p1 p2 G_2 G_11 := hpo
    obtain ⟨hB_G_11, hq_12, hp_13, -⟩ := hpo
    have hF := hF.call9 hq_12 rfl rfl
    refine lv_aload_n hx hb dX11_boldest_23 rfl (lv_at hl 0 rfl) ?_
    refine S_getR (n := 29) (C := RX11) (T := TX11) (N := 13) hx hb hg iX11 hown hK hW kd_0 rfl 7 (lt_b rfl) (hg (Cond.fieldLink RX11 58 "SlabWalk" "odds" "LSlabWalk$Odds;") m577) (fun _ h9 => h9) rfl dX11_boldest_24 ?_
    refine lv_aload_n hx hb dX11_boldest_27 rfl (lv_at hl 0 rfl) ?_
    refine S_getR (n := 7) (C := RX11) (T := TX11) (N := 13) hx hb hg iX11 hown hK hW kd_0 rfl 5 (lt_b rfl) (hg (Cond.fieldLink RX11 44 "SlabWalk" "course" "LSlabWalk$Course;") m575) (fun _ h9 => h9) rfl dX11_boldest_28 ?_
    refine lv_aload_n hx hb dX11_boldest_31 rfl (lv_at hl 0 rfl) ?_
    refine S_getV (n := 2) (C := RX11) (T := TX11) (N := 13) hx hb hg iX11 hown hK hW kd_0 rfl 0 (lt_b rfl) (hg (Cond.fieldLink RX11 10 "SlabWalk" "paving" "LSlabWalk$Paving;") m570) (fun _ h9 => h9) rfl ((((hq_12.r9 0 0 rfl rfl).trans (hq_3.r9 0 0 rfl rfl))).trans (hv_0_0)) dX11_boldest_32 ?_
    refine S_getR (n := 26) (C := RX6) (T := TX6) (N := 17) hx hb hg iX6 hown hK hW kd_2 rfl 6 (lt_b rfl) (hg (Cond.fieldLink RX11 215 "SlabWalk$Paving" "slip" "[I") m180) (fun _ h9 => h9) rfl dX11_boldest_35 ?_
    refine lv_iload hx hb dX11_boldest_38 (lv_at hl 4 rfl) ?_
    refine lv_iload hx hb dX11_boldest_40 (lv_at hl 5 rfl) ?_
    have b_15 : 0 ≤ (G_11.1 7 3).toInt ∧ (G_11.1 7 3).toInt ≤ 60 := bd_7_3 hB_G_11
    have b_16 : 0 ≤ (G_11.1 7 4).toInt ∧ (G_11.1 7 4).toInt ≤ 60 := bd_7_4 hB_G_11
    have b_17 : (-1) ≤ (G_11.1 7 6).toInt ∧ (G_11.1 7 6).toInt ≤ 400 := bd_7_6 hB_G_11
    have b_18 : 0 ≤ (G_11.1 7 7).toInt ∧ (G_11.1 7 7).toInt ≤ 400 := bd_7_7 hB_G_11
    refine S_calll (va_runV (As := [.ref (a 7), .ref (a 26), .int p3, .int p4]) (rest := []) ⟨hx, hb, hml, hown, hts⟩ (k_oBrave_2 l D k A a z G_11 p3 p4 ⟨(by first | (clear hp_13 b_15 b_16 b_17 b_18; omega) | omega), (by first | (clear hp_13 b_15 b_16 b_17 b_18; omega) | omega)⟩ ⟨(by first | (clear hp_13 b_15 b_16 b_17 b_18; omega) | omega), (by first | (clear hp_13 b_15 b_16 b_17 b_18; omega) | omega)⟩ ((by first | exact ⟨((by first | (clear f_6 hp_4 c_7 b_8 g_9; omega) | omega)), ⟨((by first | (clear f_6 hp_4 c_7 b_8 g_9; omega) | omega)), ((by first | (clear f_6 hp_4 c_7 b_8 g_9; omega) | omega))⟩⟩ | omega))) (cwV 4 hts (gd_V hgd m1122 m1123 m1124 m126 m1125) rfl rfl rfl hd_X5_bravest ⟨Nat.le_of_ble_eq_true rfl, Nat.le_of_ble_eq_true rfl⟩) (pre_W hW hB_G_11 hK hZ hS kd_29 rfl) rfl rfl hl.1 rfl (lv_room (Nat.le_of_ble_eq_true rfl)) dX11_boldest_42 ⟨Nat.le_of_ble_eq_true rfl, Nat.le_of_ble_eq_true rfl⟩) hS (fun r_19 G_20 H locs hpo hW hS => ?_)
    have hX_23 : P_oBrave_2 p3 p4 G_11 r_19 G_20 := hpo
    obtain ⟨hB_G_20, hq_21, -⟩ := hpo
    have hF := hF.call9 hq_21 rfl rfl
    refine lv_pop2_2 hx hb dX11_boldest_45 rfl ?_
    refine lv_aload_n hx hb dX11_boldest_46 rfl (lv_at hl 0 rfl) ?_
    refine S_getR (n := 29) (C := RX11) (T := TX11) (N := 13) hx hb hg iX11 hown hK hW kd_0 rfl 7 (lt_b rfl) (hg (Cond.fieldLink RX11 58 "SlabWalk" "odds" "LSlabWalk$Odds;") m577) (fun _ h9 => h9) rfl dX11_boldest_47 ?_
    refine S_calli (va_runV (As := []) (rest := []) ⟨hx, hb, hml, hown, hts⟩ (k_oBoldest l D k A a z G_20  ) (cwV 0 hts (gd_V hgd m1138 m1139 m1140 m126 m1141) rfl rfl rfl hd_X5_boldestStep ⟨Nat.le_of_ble_eq_true rfl, Nat.le_of_ble_eq_true rfl⟩) (pre_W hW hB_G_20 hK hZ hS kd_29 rfl) rfl rfl hl.1 rfl (lv_room (Nat.le_of_ble_eq_true rfl)) dX11_boldest_50 ⟨Nat.le_of_ble_eq_true rfl, Nat.le_of_ble_eq_true rfl⟩) hS (fun r_24 G_25 H locs hpo hW hS => ?_)
    have hX_28 : P_oBoldest G_20 r_24 G_25 := hpo
    obtain ⟨hB_G_25, hq_26, -⟩ := hpo
    have hF := hF.call9 hq_26 rfl rfl
    exact W.iret (v := r_24) hx hb hr (fun t ht _ => ⟨⟨r_24, G_25, rfl, (P_Wboldest_2_mk ⟨hB_G_25, hF, ⟨r_1, G_2, hX_5, (Or.inr ⟨c_7, ⟨G_11, hX_14, ⟨r_19, G_20, hX_23, ⟨r_24, G_25, hX_28, ⟨rfl, rfl⟩⟩⟩⟩⟩)⟩⟩), wd_t ht hW⟩, hS.F ht⟩) hS.2.2 dX11_boldest_53
  · have c_7 : r_1.toInt = 0 := xI_eq rfl rfl c_7
    refine ic_m1 hx hb dX11_boldest_14 ?_
    exact W.iret (v := (-1)) hx hb hr (fun t ht _ => ⟨⟨(-1), G_2, rfl, (P_Wboldest_2_mk ⟨hB_G_2, hF, ⟨r_1, G_2, hX_5, (Or.inl ⟨c_7, ⟨rfl, rfl⟩⟩)⟩⟩), wd_t ht hW⟩, hS.F ht⟩) hS.2.2 dX11_boldest_15

set_option maxHeartbeats 4000000 in
set_option maxRecDepth 100000 in
theorem k_Wwager_2 (l : Launch) (D : va_G) (k : KT) (A : Nat → Prop) (a : Nat → Nat) (z : SK) (G : GS) (p0 : Int32) (p1 : Int32) (p2 : Int32) (p3 : Int32) (hv_0_0 : G.2.2 0 0 = 2) (hv_0_1 : G.2.2 0 1 = 1) (hv_6_4 : G.2.2 6 4 = 2) : Met l yX11_wager (WS yX11_wager cX11_wager 6 (some .int)) ({ frames := 6, cells := 0, slots := 0, locals := 137 }) (va_Pc [.ref (a 0), .int p0, .int p1, .int p2, .int p3] (cW D k A a z G)) (va_Qi (fun (r : Int32) (G1 : GS) => P_Wwager_2 p0 p1 p2 p3 G r G1) (fun (G1 : GS) t => Wd D k A a G1 t.heap) A) 0 0 A := by
  refine Met.ofW (cc := cX11_wager) (maxL := 6) (ret := (some .int)) (by decide) rfl ?_
  intro p e s m args below meth c s₁ B hml hv
  obtain ⟨rfl, hW, hB_G, hK, hZ⟩ := hv
  have hx := B.exec
  have hb := B.bytes
  have hr := B.returns
  have hts := atoms_spec (ws := WS yX11_wager cX11_wager 6 (some .int)) B.pre
  have hgd : ∀ w ∈ gd, w ∈ WS yX11_wager cX11_wager 6 (some .int) := fun w h => List.mem_cons_of_mem _ h
  have hg : ∀ w ∈ gd, w.before _ s = true := fun w h => hts w (hgd w h)
  have hown : s.vm.findClass RX11 = some m.cls := findClass_of_methodNamed B.named
  have hS : va_S A s.heap s.heap [] := va_S.rf
  have hF : Fr [37, 38, 39, 40, 42, 43, 46, 47] [(6, 3), (7, 1), (7, 2), (7, 3), (7, 4), (7, 5), (7, 6), (7, 7)] G G := Fr.rf
  have hl := lv_entry ([.ref (a 0), .int p0, .int p1, .int p2, .int p3]) (n := 6) (Nat.le_of_ble_eq_true rfl)
  rw [lg_entry_eq]
  generalize (lg_sl ([.ref (a 0), .int p0, .int p1, .int p2, .int p3]) ++ List.replicate (6 - (lg_sl ([.ref (a 0), .int p0, .int p1, .int p2, .int p3])).length) Slot.unset).toArray = ls at hl ⊢
  have hl : lv_has ls 6 [(0, .ref (a 0)), (1, .int p0), (2, .int p1), (3, .int p2), (4, .int p3)] := hl
  refine lv_aload_n hx hb dX11_wager_0 rfl (lv_at hl 0 rfl) ?_
  refine lv_iload_n hx hb dX11_wager_1 rfl (lv_at hl 1 rfl) ?_
  refine lv_iload_n hx hb dX11_wager_2 rfl (lv_at hl 2 rfl) ?_
  refine lv_iload_n hx hb dX11_wager_3 rfl (lv_at hl 3 rfl) ?_
  refine S_calli (va_runV (As := [.int p0, .int p1, .int p2]) (rest := []) ⟨hx, hb, hml, hown, hts⟩ (k_wAsk_2 l D k A a z G p0 p1 p2 hv_0_0 hv_0_1 hv_6_4) (cwV 3 hts (gd_V hgd m953 m955 m31 m117 m956) rfl rfl rfl hd_X11_canAsk ⟨Nat.le_of_ble_eq_true rfl, Nat.le_of_ble_eq_true rfl⟩) (pre_W hW hB_G hK hZ hS kd_0 rfl) rfl rfl hl.1 rfl (lv_room (Nat.le_of_ble_eq_true rfl)) dX11_wager_4 ⟨Nat.le_of_ble_eq_true rfl, Nat.le_of_ble_eq_true rfl⟩) hS (fun r_1 G_2 H locs hpo hW hS => ?_)
  have hX_5 : P_wAsk_2 p0 p1 p2 G r_1 G_2 := hpo
  obtain ⟨hB_G_2, hq_3, f_6, hp_4, -⟩ := hpo
  have hF := hF.call9 hq_3 rfl rfl
  refine lv_if_eq (tgt := 21) hx hb dX11_wager_7 rfl (fun c_7 => ?_) (fun c_7 => ?_)
  · have c_7 : r_1.toInt = 0 := xI_eq rfl rfl c_7
    refine ic_m1 hx hb dX11_wager_21 ?_
    exact W.iret (v := (-1)) hx hb hr (fun t ht _ => ⟨⟨(-1), G_2, rfl, (P_Wwager_2_mk ⟨hB_G_2, hF, ⟨r_1, G_2, hX_5, (Or.inl ⟨c_7, ⟨rfl, rfl⟩⟩)⟩⟩), wd_t ht hW⟩, hS.F ht⟩) hS.2.2 dX11_wager_22
  · have c_7 : r_1.toInt ≠ 0 := xI_ne rfl rfl c_7
    refine lv_iload hx hb dX11_wager_10 (lv_at hl 4 rfl) ?_
    refine lv_if_lt (tgt := 21) hx hb dX11_wager_12 rfl (fun c_8 => ?_) (fun c_8 => ?_)
    · have c_8 : p3.toInt < 0 := xI_lt rfl rfl c_8
      refine ic_m1 hx hb dX11_wager_21 ?_
      exact W.iret (v := (-1)) hx hb hr (fun t ht _ => ⟨⟨(-1), G_2, rfl, (P_Wwager_2_mk ⟨hB_G_2, hF, ⟨r_1, G_2, hX_5, (Or.inr ⟨c_7, (Or.inl ⟨c_8, ⟨rfl, rfl⟩⟩)⟩)⟩⟩), wd_t ht hW⟩, hS.F ht⟩) hS.2.2 dX11_wager_22
    · have c_8 : 0 ≤ p3.toInt := xI_nlt rfl rfl c_8
      refine lv_iload hx hb dX11_wager_15 (lv_at hl 4 rfl) ?_
      refine ic_1 hx hb dX11_wager_17 ?_
      refine lv_icmp_le (tgt := 23) hx hb dX11_wager_18 rfl (fun c_9 => ?_) (fun c_9 => ?_)
      · have c_9 : p3.toInt ≤ 1 := xI_le rfl rfl c_9
        refine lv_aload_n hx hb dX11_wager_23 rfl (lv_at hl 0 rfl) ?_
        refine lv_iload_n hx hb dX11_wager_24 rfl (lv_at hl 1 rfl) ?_
        refine lv_iload_n hx hb dX11_wager_25 rfl (lv_at hl 2 rfl) ?_
        refine lv_iload_n hx hb dX11_wager_26 rfl (lv_at hl 3 rfl) ?_
        have b_10 : 0 ≤ (G.1 2 10).toInt ∧ (G.1 2 10).toInt ≤ 4 := bd_2_10 hB_G
        have g_11 : (G_2.1 2 10).toInt = (G.1 2 10).toInt := (congrArg Int32.toInt (show G_2.1 2 10 = (G.1 2 10) from (hq_3.i9 2 10 rfl rfl)))
        refine S_callv (va_runV (As := [.int p0, .int p1, .int p2]) (rest := []) ⟨hx, hb, hml, hown, hts⟩ (k_wPrep_2 l D k A a z G_2 p0 p1 p2 ⟨by omega, by omega⟩ ⟨by omega, by omega⟩ (((hq_3.r9 0 0 rfl rfl)).trans (hv_0_0)) (((hq_3.r9 0 1 rfl rfl)).trans (hv_0_1)) (((hq_3.r9 6 4 rfl rfl)).trans (hv_6_4)) (by omega)) (cwV 3 hts (gd_V hgd m975 m977 m32 m117 m978) rfl rfl rfl hd_X11_prepare ⟨Nat.le_of_ble_eq_true rfl, Nat.le_of_ble_eq_true rfl⟩) (pre_W hW hB_G_2 hK hZ hS kd_0 rfl) rfl rfl hl.1 rfl (lv_room (Nat.le_of_ble_eq_true rfl)) dX11_wager_27 ⟨Nat.le_of_ble_eq_true rfl, Nat.le_of_ble_eq_true rfl⟩) hS (fun G_13 H locs hpo hW hS => ?_)
        have hX_16 : P_wPrep_2 p0 p1 p2 G_2 G_13 := hpo
        obtain ⟨hB_G_13, hq_14, hp_15, -⟩ := hpo
        have hF := hF.call9 hq_14 rfl rfl
        refine lv_aload_n hx hb dX11_wager_30 rfl (lv_at hl 0 rfl) ?_
        refine lv_iload_n hx hb dX11_wager_31 rfl (lv_at hl 2 rfl) ?_
        refine lv_iload_n hx hb dX11_wager_32 rfl (lv_at hl 3 rfl) ?_
        have b_17 : 0 ≤ (G_13.1 7 3).toInt ∧ (G_13.1 7 3).toInt ≤ 60 := bd_7_3 hB_G_13
        have b_18 : 0 ≤ (G_13.1 7 4).toInt ∧ (G_13.1 7 4).toInt ≤ 60 := bd_7_4 hB_G_13
        have b_19 : (-1) ≤ (G_13.1 7 6).toInt ∧ (G_13.1 7 6).toInt ≤ 400 := bd_7_6 hB_G_13
        have b_20 : 0 ≤ (G_13.1 7 7).toInt ∧ (G_13.1 7 7).toInt ≤ 400 := bd_7_7 hB_G_13
        refine S_calli (va_runV (As := [.int p1, .int p2]) (rest := []) ⟨hx, hb, hml, hown, hts⟩ (k_wWin_2 l D k A a z G_13 p1 p2 ⟨(by first | (clear c_8 c_9 hp_15 b_17 b_18 b_19 b_20; omega) | omega), (by first | (clear c_8 c_9 hp_15 b_17 b_18 b_19 b_20; omega) | omega)⟩ ((((hq_14.r9 0 0 rfl rfl).trans (hq_3.r9 0 0 rfl rfl))).trans (hv_0_0)) ((((hq_14.r9 0 1 rfl rfl).trans (hq_3.r9 0 1 rfl rfl))).trans (hv_0_1)) ((((hq_14.r9 6 4 rfl rfl).trans (hq_3.r9 6 4 rfl rfl))).trans (hv_6_4)) ((by first | exact ⟨((by first | (clear f_6 hp_4 c_7 c_8 c_9 b_10 g_11; omega) | omega)), ⟨((by first | (clear f_6 hp_4 c_7 c_8 c_9 b_10 g_11; omega) | omega)), ((by first | (clear f_6 hp_4 c_7 c_8 c_9 b_10 g_11; omega) | omega))⟩⟩ | omega))) (cwV 2 hts (gd_V hgd m1146 m1148 m41 m117 m1149) rfl rfl rfl hd_X11_winningRule ⟨Nat.le_of_ble_eq_true rfl, Nat.le_of_ble_eq_true rfl⟩) (pre_W hW hB_G_13 hK hZ hS kd_0 rfl) rfl rfl hl.1 rfl (lv_room (Nat.le_of_ble_eq_true rfl)) dX11_wager_33 ⟨Nat.le_of_ble_eq_true rfl, Nat.le_of_ble_eq_true rfl⟩) hS (fun r_21 G_22 H locs hpo hW hS => ?_)
        have hX_25 : P_wWin_2 p1 p2 G_13 r_21 G_22 := hpo
        obtain ⟨hB_G_22, hq_23, -⟩ := hpo
        have hF := hF.call9 hq_23 rfl rfl
        refine lv_istore (lv' := [(5, .int r_21), (0, .ref (a 0)), (1, .int p0), (2, .int p1), (3, .int p2), (4, .int p3)]) hx hb dX11_wager_36 hl (lt_b rfl) rfl (fun ls hl => ?_)
        refine lv_iload hx hb dX11_wager_38 (lv_at hl 5 rfl) ?_
        refine ic_1 hx hb dX11_wager_40 ?_
        refine lv_icmp_ne (tgt := 49) hx hb dX11_wager_41 rfl (fun c_26 => ?_) (fun c_26 => ?_)
        · have c_26 : p3.toInt ≠ 1 := xI_ne rfl rfl c_26
          refine lv_iload hx hb dX11_wager_49 (lv_at hl 0 rfl) ?_
          refine ic_m1 hx hb dX11_wager_51 ?_
          refine lv_icmp_ne (tgt := 59) hx hb dX11_wager_52 rfl (fun c_27 => ?_) (fun c_27 => ?_)
          · have c_27 : r_21.toInt ≠ (-1) := xI_ne rfl rfl c_27
            refine ic_1 hx hb dX11_wager_59 ?_
            exact W.iret (v := 1) hx hb hr (fun t ht _ => ⟨⟨1, G_22, rfl, (P_Wwager_2_mk ⟨hB_G_22, hF, ⟨r_1, G_2, hX_5, (Or.inr ⟨c_7, (Or.inr ⟨c_8, (Or.inl ⟨c_9, ⟨G_13, hX_16, ⟨r_21, G_22, hX_25, (Or.inr ⟨c_26, (Or.inr ⟨c_27, ⟨rfl, rfl⟩⟩)⟩)⟩⟩⟩)⟩)⟩)⟩⟩), wd_t ht hW⟩, hS.F ht⟩) hS.2.2 dX11_wager_60
          · have c_27 : r_21.toInt = (-1) := xI_eq rfl rfl c_27
            refine ic_0 hx hb dX11_wager_55 ?_
            refine lv_goto (tgt := 60) hx hb dX11_wager_56 rfl ?_
            exact W.iret (v := 0) hx hb hr (fun t ht _ => ⟨⟨0, G_22, rfl, (P_Wwager_2_mk ⟨hB_G_22, hF, ⟨r_1, G_2, hX_5, (Or.inr ⟨c_7, (Or.inr ⟨c_8, (Or.inl ⟨c_9, ⟨G_13, hX_16, ⟨r_21, G_22, hX_25, (Or.inr ⟨c_26, (Or.inl ⟨c_27, ⟨rfl, rfl⟩⟩)⟩)⟩⟩⟩)⟩)⟩)⟩⟩), wd_t ht hW⟩, hS.F ht⟩) hS.2.2 dX11_wager_60
        · have c_26 : p3.toInt = 1 := xI_eq rfl rfl c_26
          refine lv_iload hx hb dX11_wager_44 (lv_at hl 0 rfl) ?_
          refine lv_goto (tgt := 60) hx hb dX11_wager_46 rfl ?_
          exact W.iret (v := r_21) hx hb hr (fun t ht _ => ⟨⟨r_21, G_22, rfl, (P_Wwager_2_mk ⟨hB_G_22, hF, ⟨r_1, G_2, hX_5, (Or.inr ⟨c_7, (Or.inr ⟨c_8, (Or.inl ⟨c_9, ⟨G_13, hX_16, ⟨r_21, G_22, hX_25, (Or.inl ⟨c_26, ⟨rfl, rfl⟩⟩)⟩⟩⟩)⟩)⟩)⟩⟩), wd_t ht hW⟩, hS.F ht⟩) hS.2.2 dX11_wager_60
      · have c_9 : 1 < p3.toInt := xI_nle rfl rfl c_9
        refine ic_m1 hx hb dX11_wager_21 ?_
        exact W.iret (v := (-1)) hx hb hr (fun t ht _ => ⟨⟨(-1), G_2, rfl, (P_Wwager_2_mk ⟨hB_G_2, hF, ⟨r_1, G_2, hX_5, (Or.inr ⟨c_7, (Or.inr ⟨c_8, (Or.inr ⟨c_9, ⟨rfl, rfl⟩⟩)⟩)⟩)⟩⟩), wd_t ht hW⟩, hS.F ht⟩) hS.2.2 dX11_wager_22

set_option maxHeartbeats 4000000 in
set_option maxRecDepth 100000 in
theorem k_Wleave_2 (l : Launch) (D : va_G) (k : KT) (A : Nat → Prop) (a : Nat → Nat) (z : SK) (G : GS) (p0 : Int32) (p1 : Int32) (hv_0_0 : G.2.2 0 0 = 2) (hv_0_1 : G.2.2 0 1 = 1) (hv_6_4 : G.2.2 6 4 = 2) : Met l yX11_leave (WS yX11_leave cX11_leave 5 (some .int)) ({ frames := 5, cells := 0, slots := 0, locals := 119 }) (va_Pc [.ref (a 0), .int p0, .int p1] (cW D k A a z G)) (va_Qi (fun (r : Int32) (G1 : GS) => P_Wleave_2 p0 p1 G r G1) (fun (G1 : GS) t => Wd D k A a G1 t.heap) A) 0 0 A := by
  refine Met.ofW (cc := cX11_leave) (maxL := 5) (ret := (some .int)) (by decide) rfl ?_
  intro p e s m args below meth c s₁ B hml hv
  obtain ⟨rfl, hW, hB_G, hK, hZ⟩ := hv
  have hx := B.exec
  have hb := B.bytes
  have hr := B.returns
  have hts := atoms_spec (ws := WS yX11_leave cX11_leave 5 (some .int)) B.pre
  have hgd : ∀ w ∈ gd, w ∈ WS yX11_leave cX11_leave 5 (some .int) := fun w h => List.mem_cons_of_mem _ h
  have hg : ∀ w ∈ gd, w.before _ s = true := fun w h => hts w (hgd w h)
  have hown : s.vm.findClass RX11 = some m.cls := findClass_of_methodNamed B.named
  have hS : va_S A s.heap s.heap [] := va_S.rf
  have hF : Fr [37, 38, 39, 40, 42, 43] [(6, 3), (7, 1), (7, 2), (7, 3), (7, 4), (7, 5), (7, 6), (7, 7)] G G := Fr.rf
  have hl := lv_entry ([.ref (a 0), .int p0, .int p1]) (n := 5) (Nat.le_of_ble_eq_true rfl)
  rw [lg_entry_eq]
  generalize (lg_sl ([.ref (a 0), .int p0, .int p1]) ++ List.replicate (5 - (lg_sl ([.ref (a 0), .int p0, .int p1])).length) Slot.unset).toArray = ls at hl ⊢
  have hl : lv_has ls 5 [(0, .ref (a 0)), (1, .int p0), (2, .int p1)] := hl
  refine lv_aload_n hx hb dX11_leave_0 rfl (lv_at hl 0 rfl) ?_
  refine lv_iload_n hx hb dX11_leave_1 rfl (lv_at hl 1 rfl) ?_
  refine lv_iload_n hx hb dX11_leave_2 rfl (lv_at hl 2 rfl) ?_
  refine ic_0 hx hb dX11_leave_3 ?_
  have qc_1 : (0 : Int32).toInt = 0 := rfl
  refine S_calli (va_runV (As := [.int p0, .int p1, .int 0]) (rest := []) ⟨hx, hb, hml, hown, hts⟩ (k_wAsk_2 l D k A a z G p0 p1 0 hv_0_0 hv_0_1 hv_6_4) (cwV 3 hts (gd_V hgd m953 m955 m31 m117 m956) rfl rfl rfl hd_X11_canAsk ⟨Nat.le_of_ble_eq_true rfl, Nat.le_of_ble_eq_true rfl⟩) (pre_W hW hB_G hK hZ hS kd_0 rfl) rfl rfl hl.1 rfl (lv_room (Nat.le_of_ble_eq_true rfl)) dX11_leave_4 ⟨Nat.le_of_ble_eq_true rfl, Nat.le_of_ble_eq_true rfl⟩) hS (fun r_2 G_3 H locs hpo hW hS => ?_)
  have hX_6 : P_wAsk_2 p0 p1 0 G r_2 G_3 := hpo
  obtain ⟨hB_G_3, hq_4, f_7, hp_5, -⟩ := hpo
  have hF := hF.call9 hq_4 rfl rfl
  refine lv_if_ne (tgt := 12) hx hb dX11_leave_7 rfl (fun c_8 => ?_) (fun c_8 => ?_)
  · have c_8 : r_2.toInt ≠ 0 := xI_ne rfl rfl c_8
    refine lv_aload_n hx hb dX11_leave_12 rfl (lv_at hl 0 rfl) ?_
    refine lv_iload_n hx hb dX11_leave_13 rfl (lv_at hl 1 rfl) ?_
    refine lv_iload_n hx hb dX11_leave_14 rfl (lv_at hl 2 rfl) ?_
    refine ic_0 hx hb dX11_leave_15 ?_
    have b_9 : 0 ≤ (G.1 2 10).toInt ∧ (G.1 2 10).toInt ≤ 4 := bd_2_10 hB_G
    have g_10 : (G_3.1 2 10).toInt = (G.1 2 10).toInt := (congrArg Int32.toInt (show G_3.1 2 10 = (G.1 2 10) from (hq_4.i9 2 10 rfl rfl)))
    have qc_11 : (0 : Int32).toInt = 0 := rfl
    refine S_callv (va_runV (As := [.int p0, .int p1, .int 0]) (rest := []) ⟨hx, hb, hml, hown, hts⟩ (k_wPrep_2 l D k A a z G_3 p0 p1 0 ⟨by omega, by omega⟩ ⟨by omega, by omega⟩ (((hq_4.r9 0 0 rfl rfl)).trans (hv_0_0)) (((hq_4.r9 0 1 rfl rfl)).trans (hv_0_1)) (((hq_4.r9 6 4 rfl rfl)).trans (hv_6_4)) (by omega)) (cwV 3 hts (gd_V hgd m975 m977 m32 m117 m978) rfl rfl rfl hd_X11_prepare ⟨Nat.le_of_ble_eq_true rfl, Nat.le_of_ble_eq_true rfl⟩) (pre_W hW hB_G_3 hK hZ hS kd_0 rfl) rfl rfl hl.1 rfl (lv_room (Nat.le_of_ble_eq_true rfl)) dX11_leave_16 ⟨Nat.le_of_ble_eq_true rfl, Nat.le_of_ble_eq_true rfl⟩) hS (fun G_13 H locs hpo hW hS => ?_)
    have hX_16 : P_wPrep_2 p0 p1 0 G_3 G_13 := hpo
    obtain ⟨hB_G_13, hq_14, hp_15, -⟩ := hpo
    have hF := hF.call9 hq_14 rfl rfl
    refine ic_0 hx hb dX11_leave_19 ?_
    refine lv_istore_n (lv' := [(3, .int 0), (0, .ref (a 0)), (1, .int p0), (2, .int p1)]) hx hb dX11_leave_20 rfl hl (lt_b rfl) rfl (fun ls hl => ?_)
    refine ic_0 hx hb dX11_leave_21 ?_
    refine lv_istore (lv' := [(4, .int 0), (3, .int 0), (0, .ref (a 0)), (1, .int p0), (2, .int p1)]) hx hb dX11_leave_22 hl (lt_b rfl) rfl (fun ls hl => ?_)
    have qc_24 : (0 : Int32).toInt = 0 := rfl
    refine loop_N (Inv := fun n H locs ls => ∃ (G_17 : GS) (x_21 : Int32) (x_22 : Int32), (n : Int) = 64 - x_21.toInt ∧ (0 ≤ x_21.toInt ∧ x_21.toInt ≤ 64) ∧ Rc (St_k_Wleave_2_1 p1 G) (0, 0, G_13) (x_21, x_22, G_17) ∧ Wd D k A a G_17 H ∧ Bd G_17 ∧ Fr [37, 38, 39, 40, 42, 43] [(6, 3), (7, 1), (7, 2), (7, 3), (7, 4), (7, 5), (7, 6), (7, 7)] G G_17 ∧ Fr [40, 42, 43] [] G_13 G_17 ∧ va_S A s.heap H locs ∧ lv_has ls 5 [(4, .int x_21), (3, .int x_22), (0, .ref (a 0)), (2, .int p1)]) (fun n_20 H locs ls ih_19 hI => ?_) (64 - 0 : Int).toNat ⟨G_13, 0, 0, (Int.toNat_of_nonneg ((by first | (clear f_7 hp_5 c_8 b_9 g_10 hp_15; omega) | omega))), ⟨(by first | (clear f_7 hp_5 c_8 b_9 g_10 hp_15; omega) | omega), (by first | (clear f_7 hp_5 c_8 b_9 g_10 hp_15; omega) | omega)⟩, Rc.rf, hW, hB_G_13, hF, Fr.rf, hS, lv_sub hl [0, 1, 2, 4] rfl⟩
    obtain ⟨G_17, x_21, x_22, hn_26, f_25, hX_23, hW, hB_G_17, hF, hq_18, hS, hl⟩ := hI
    refine lv_iload hx hb dX11_leave_24 (lv_at hl 0 rfl) ?_
    refine ic_1 hx hb dX11_leave_26 ?_
    refine lv_aload_n hx hb dX11_leave_27 rfl (lv_at hl 2 rfl) ?_
    refine S_getV (n := 2) (C := RX11) (T := TX11) (N := 13) hx hb hg iX11 hown hK hW kd_0 rfl 0 (lt_b rfl) (hg (Cond.fieldLink RX11 10 "SlabWalk" "paving" "LSlabWalk$Paving;") m570) (fun _ h9 => h9) rfl ((((hq_18.r9 0 0 rfl rfl).trans ((hq_14.r9 0 0 rfl rfl).trans (hq_4.r9 0 0 rfl rfl)))).trans (hv_0_0)) dX11_leave_28 ?_
    have b_27 : 0 ≤ (G.1 2 11).toInt ∧ (G.1 2 11).toInt ≤ 6 := bd_2_11 hB_G
    refine S_getI (v := (G.1 2 11)) (C := RX6) (T := TX6) (N := 17) hx hb hg iX6 hown hK hW kd_2 rfl 11 (lt_b rfl) (hg (Cond.fieldLink RX11 228 "SlabWalk$Paving" "rules" "I") m195) (fun _ h9 => h9) rfl ((hq_18.i9 2 11 rfl rfl).trans ((hq_14.i9 2 11 rfl rfl).trans (hq_4.i9 2 11 rfl rfl))) dX11_leave_31 ?_
    refine lv_ishl hx hb dX11_leave_34 ?_
    refine lv_topi (fun y_28 ey_28 => ?_)
    have ty_28 := sh6 (Y := (G.1 2 11).toInt) rfl ey_28 rfl (by first | (clear f_7 hp_5 c_8 b_9 g_10 hp_15 hn_26 f_25; omega) | omega) (by first | (clear f_7 hp_5 c_8 b_9 g_10 hp_15 hn_26 f_25; omega) | omega)
    refine lv_icmp_ge (tgt := 62) hx hb dX11_leave_35 rfl (fun c_29 => ?_) (fun c_29 => ?_)
    · have c_29 : y_28.toInt ≤ x_21.toInt := xI_le rfl rfl c_29
      refine lv_iload_n hx hb dX11_leave_62 rfl (lv_at hl 1 rfl) ?_
      exact W.iret (v := x_22) hx hb hr (fun t ht _ => ⟨⟨x_22, G_17, rfl, (P_Wleave_2_mk ⟨hB_G_17, hF, ⟨r_2, G_3, hX_6, (Or.inr ⟨c_8, ⟨G_13, hX_16, ⟨x_21, x_22, G_17, hX_23, f_25, hB_G_17, hq_18, ⟨y_28, ey_28, ⟨c_29, ⟨rfl, rfl⟩⟩⟩⟩⟩⟩)⟩⟩), wd_t ht hW⟩, hS.F ht⟩) hS.2.2 dX11_leave_63
    · have c_29 : x_21.toInt < y_28.toInt := xI_nle rfl rfl c_29
      refine lv_iload_n hx hb dX11_leave_38 rfl (lv_at hl 1 rfl) ?_
      refine lv_aload_n hx hb dX11_leave_39 rfl (lv_at hl 2 rfl) ?_
      refine lv_iload_n hx hb dX11_leave_40 rfl (lv_at hl 3 rfl) ?_
      refine lv_iload hx hb dX11_leave_41 (lv_at hl 0 rfl) ?_
      have b_30 : 0 ≤ (G_13.1 7 3).toInt ∧ (G_13.1 7 3).toInt ≤ 60 := bd_7_3 hB_G_13
      have g_31 : (G_17.1 7 3).toInt = (G_13.1 7 3).toInt := (congrArg Int32.toInt (show G_17.1 7 3 = (G_13.1 7 3) from (hq_18.i9 7 3 rfl rfl)))
      have b_32 : 0 ≤ (G_13.1 7 4).toInt ∧ (G_13.1 7 4).toInt ≤ 60 := bd_7_4 hB_G_13
      have g_33 : (G_17.1 7 4).toInt = (G_13.1 7 4).toInt := (congrArg Int32.toInt (show G_17.1 7 4 = (G_13.1 7 4) from (hq_18.i9 7 4 rfl rfl)))
      have b_34 : (-1) ≤ (G_13.1 7 6).toInt ∧ (G_13.1 7 6).toInt ≤ 400 := bd_7_6 hB_G_13
      have g_35 : (G_17.1 7 6).toInt = (G_13.1 7 6).toInt := (congrArg Int32.toInt (show G_17.1 7 6 = (G_13.1 7 6) from (hq_18.i9 7 6 rfl rfl)))
      have b_36 : 0 ≤ (G_13.1 7 7).toInt ∧ (G_13.1 7 7).toInt ≤ 400 := bd_7_7 hB_G_13
      have g_37 : (G_17.1 7 7).toInt = (G_13.1 7 7).toInt := (congrArg Int32.toInt (show G_17.1 7 7 = (G_13.1 7 7) from (hq_18.i9 7 7 rfl rfl)))
      refine S_calli (va_runV (As := [.int p1, .int x_21]) (rest := [.int x_22]) ⟨hx, hb, hml, hown, hts⟩ (k_wLeaves_2 l D k A a z G_17 p1 x_21 ((((hq_18.r9 0 0 rfl rfl).trans ((hq_14.r9 0 0 rfl rfl).trans (hq_4.r9 0 0 rfl rfl)))).trans (hv_0_0)) ((((hq_18.r9 0 1 rfl rfl).trans ((hq_14.r9 0 1 rfl rfl).trans (hq_4.r9 0 1 rfl rfl)))).trans (hv_0_1)) ((((hq_18.r9 6 4 rfl rfl).trans ((hq_14.r9 6 4 rfl rfl).trans (hq_4.r9 6 4 rfl rfl)))).trans (hv_6_4)) ((by first | exact ⟨((by first | (clear f_7 hp_5 c_8 b_9 g_10 hn_26 f_25 b_27 c_29; omega) | omega)), ⟨((by first | (clear f_7 hp_5 c_8 b_9 g_10 hn_26 f_25 b_27 c_29; omega) | omega)), ((by first | (clear f_7 hp_5 c_8 b_9 g_10 hn_26 f_25 b_27 c_29; omega) | omega))⟩⟩ | omega))) (cwV 2 hts (gd_V hgd m1154 m1156 m42 m117 m1157) rfl rfl rfl hd_X11_leavesWay ⟨Nat.le_of_ble_eq_true rfl, Nat.le_of_ble_eq_true rfl⟩) (pre_W hW hB_G_17 hK hZ hS kd_0 rfl) rfl rfl hl.1 rfl (lv_room (Nat.le_of_ble_eq_true rfl)) dX11_leave_43 ⟨Nat.le_of_ble_eq_true rfl, Nat.le_of_ble_eq_true rfl⟩) hS (fun r_38 G_39 H locs hpo hW hS => ?_)
      have hX_42 : P_wLeaves_2 p1 x_21 G_17 r_38 G_39 := hpo
      obtain ⟨hB_G_39, hq_40, f_43, hp_41, -⟩ := hpo
      have hF := hF.call9 hq_40 rfl rfl
      refine lv_if_eq (tgt := 53) hx hb dX11_leave_46 rfl (fun c_44 => ?_) (fun c_44 => ?_)
      · have c_44 : r_38.toInt = 0 := xI_eq rfl rfl c_44
        refine ic_0 hx hb dX11_leave_53 ?_
        refine lv_iadd hx hb dX11_leave_54 ?_
        refine lv_topi (fun y_45 ey_45 => ?_)
        have e_46 := tI_rng x_22
        have ty_45 : y_45.toInt = x_22.toInt + 0 := xI_add rfl rfl ey_45 ((by first | (clear f_7 hp_5 c_8 b_9 g_10 hp_15 hn_26 f_25 b_27 c_29 b_30 g_31 b_32 g_33 b_34 g_35 b_36 g_37 f_43 hp_41 c_44; omega) | omega)) ((by first | (clear f_7 hp_5 c_8 b_9 g_10 hp_15 hn_26 f_25 b_27 c_29 b_30 g_31 b_32 g_33 b_34 g_35 b_36 g_37 f_43 hp_41 c_44; omega) | omega))
        refine lv_istore_n (lv' := [(3, .int y_45), (4, .int x_21), (0, .ref (a 0)), (2, .int p1)]) hx hb dX11_leave_55 rfl hl (lt_b rfl) rfl (fun ls hl => ?_)
        obtain ⟨y_47, ey_47⟩ : ∃ q, q = x_21 + 1 := ⟨_, rfl⟩
        have ty_47 : y_47.toInt = x_21.toInt + 1 := xI_add rfl rfl ey_47 ((by first | (clear f_7 hp_5 c_8 b_9 g_10 hp_15 hn_26 b_27 b_30 g_31 b_32 g_33 b_34 g_35 b_36 g_37 f_43 hp_41 c_44 ty_45; omega) | omega)) ((by first | (clear f_7 hp_5 c_8 b_9 g_10 hp_15 hn_26 b_27 b_30 g_31 b_32 g_33 b_34 g_35 b_36 g_37 f_43 hp_41 c_44 ty_45; omega) | omega))
        refine lv_iinc (v := y_47) (lv' := [(4, .int y_47), (3, .int y_45), (0, .ref (a 0)), (2, .int p1)]) hx hb dX11_leave_56 hl (k := 1) rfl (by rw [ey_47]; rfl) (lt_b rfl) rfl (fun ls hl => ?_)
        refine lv_goto (tgt := 24) hx hb dX11_leave_59 rfl ?_
        exact ih_19 (64 - y_47.toInt : Int).toNat ((by first | (clear f_7 hp_5 c_8 b_9 g_10 hp_15 b_27 b_30 g_31 b_32 g_33 b_34 g_35 b_36 g_37 f_43 hp_41 c_44 ty_45; omega) | omega)) _ _ _ ⟨G_39, y_47, y_45, (Int.toNat_of_nonneg ((by first | (clear f_7 hp_5 c_8 b_9 g_10 hp_15 hn_26 b_27 b_30 g_31 b_32 g_33 b_34 g_35 b_36 g_37 f_43 hp_41 c_44 ty_45; omega) | omega))), ⟨(by first | (clear f_7 hp_5 c_8 b_9 g_10 hp_15 hn_26 b_27 b_30 g_31 b_32 g_33 b_34 g_35 b_36 g_37 f_43 hp_41 c_44 ty_45; omega) | omega), (by first | (clear f_7 hp_5 c_8 b_9 g_10 hp_15 hn_26 b_27 b_30 g_31 b_32 g_33 b_34 g_35 b_36 g_37 f_43 hp_41 c_44 ty_45; omega) | omega)⟩, (hX_23.st (St_k_Wleave_2_1_mk ⟨x_21, x_22, G_17, y_47, y_45, G_39, rfl, rfl, f_25, hB_G_17, ⟨y_28, ey_28, ⟨c_29, ⟨r_38, G_39, hX_42, (Or.inl ⟨c_44, ⟨y_45, ty_45, ⟨y_47, ty_47, ⟨rfl, rfl, rfl⟩⟩⟩⟩)⟩⟩⟩⟩)), hW, hB_G_39, hF, (Fr.call9 (rs := [40, 42, 43]) (fs := []) (Fr.call9 (rs := [40, 42, 43]) (fs := []) Fr.rf hq_18 rfl rfl) hq_40 rfl rfl), hS, lv_sub hl [0, 1, 2, 3] rfl⟩
      · have c_44 : r_38.toInt ≠ 0 := xI_ne rfl rfl c_44
        refine ic_1 hx hb dX11_leave_49 ?_
        refine lv_goto (tgt := 54) hx hb dX11_leave_50 rfl ?_
        refine lv_iadd hx hb dX11_leave_54 ?_
        refine lv_topi (fun y_48 ey_48 => ?_)
        refine lv_istore_n (lv' := [(3, .int y_48), (4, .int x_21), (0, .ref (a 0)), (2, .int p1)]) hx hb dX11_leave_55 rfl hl (lt_b rfl) rfl (fun ls hl => ?_)
        obtain ⟨y_49, ey_49⟩ : ∃ q, q = x_21 + 1 := ⟨_, rfl⟩
        have ty_49 : y_49.toInt = x_21.toInt + 1 := xI_add rfl rfl ey_49 ((by first | (clear f_7 hp_5 c_8 b_9 g_10 hp_15 hn_26 b_27 b_30 g_31 b_32 g_33 b_34 g_35 b_36 g_37 f_43 hp_41 c_44; omega) | omega)) ((by first | (clear f_7 hp_5 c_8 b_9 g_10 hp_15 hn_26 b_27 b_30 g_31 b_32 g_33 b_34 g_35 b_36 g_37 f_43 hp_41 c_44; omega) | omega))
        refine lv_iinc (v := y_49) (lv' := [(4, .int y_49), (3, .int y_48), (0, .ref (a 0)), (2, .int p1)]) hx hb dX11_leave_56 hl (k := 1) rfl (by rw [ey_49]; rfl) (lt_b rfl) rfl (fun ls hl => ?_)
        refine lv_goto (tgt := 24) hx hb dX11_leave_59 rfl ?_
        exact ih_19 (64 - y_49.toInt : Int).toNat ((by first | (clear f_7 hp_5 c_8 b_9 g_10 hp_15 b_27 b_30 g_31 b_32 g_33 b_34 g_35 b_36 g_37 f_43 hp_41 c_44; omega) | omega)) _ _ _ ⟨G_39, y_49, y_48, (Int.toNat_of_nonneg ((by first | (clear f_7 hp_5 c_8 b_9 g_10 hp_15 hn_26 b_27 b_30 g_31 b_32 g_33 b_34 g_35 b_36 g_37 f_43 hp_41 c_44; omega) | omega))), ⟨(by first | (clear f_7 hp_5 c_8 b_9 g_10 hp_15 hn_26 b_27 b_30 g_31 b_32 g_33 b_34 g_35 b_36 g_37 f_43 hp_41 c_44; omega) | omega), (by first | (clear f_7 hp_5 c_8 b_9 g_10 hp_15 hn_26 b_27 b_30 g_31 b_32 g_33 b_34 g_35 b_36 g_37 f_43 hp_41 c_44; omega) | omega)⟩, (hX_23.st (St_k_Wleave_2_1_mk ⟨x_21, x_22, G_17, y_49, y_48, G_39, rfl, rfl, f_25, hB_G_17, ⟨y_28, ey_28, ⟨c_29, ⟨r_38, G_39, hX_42, (Or.inr ⟨c_44, ⟨y_48, ey_48, ⟨y_49, ty_49, ⟨rfl, rfl, rfl⟩⟩⟩⟩)⟩⟩⟩⟩)), hW, hB_G_39, hF, (Fr.call9 (rs := [40, 42, 43]) (fs := []) (Fr.call9 (rs := [40, 42, 43]) (fs := []) Fr.rf hq_18 rfl rfl) hq_40 rfl rfl), hS, lv_sub hl [0, 1, 2, 3] rfl⟩
  · have c_8 : r_2.toInt = 0 := xI_eq rfl rfl c_8
    refine ic_m1 hx hb dX11_leave_10 ?_
    exact W.iret (v := (-1)) hx hb hr (fun t ht _ => ⟨⟨(-1), G_3, rfl, (P_Wleave_2_mk ⟨hB_G_3, hF, ⟨r_2, G_3, hX_6, (Or.inl ⟨c_8, ⟨rfl, rfl⟩⟩)⟩⟩), wd_t ht hW⟩, hS.F ht⟩) hS.2.2 dX11_leave_11

set_option maxHeartbeats 4000000 in
set_option maxRecDepth 100000 in
theorem k_Wfits_2 (l : Launch) (D : va_G) (k : KT) (A : Nat → Prop) (a : Nat → Nat) (z : SK) (G : GS) (p0 : Int32) (hv_0_0 : G.2.2 0 0 = 2) (hv_0_1 : G.2.2 0 1 = 1) (hv_6_4 : G.2.2 6 4 = 2) : Met l yX11_fits (WS yX11_fits cX11_fits 4 (some .int)) ({ frames := 6, cells := 0, slots := 0, locals := 143 }) (va_Pc [.ref (a 0), .int p0] (cW D k A a z G)) (va_Qi (fun (r : Int32) (G1 : GS) => P_Wfits_2 p0 G r G1) (fun (G1 : GS) t => Wd D k A a G1 t.heap) A) 0 0 A := by
  refine Met.ofW (cc := cX11_fits) (maxL := 4) (ret := (some .int)) (by decide) rfl ?_
  intro p e s m args below meth c s₁ B hml hv
  obtain ⟨rfl, hW, hB_G, hK, hZ⟩ := hv
  have hx := B.exec
  have hb := B.bytes
  have hr := B.returns
  have hts := atoms_spec (ws := WS yX11_fits cX11_fits 4 (some .int)) B.pre
  have hgd : ∀ w ∈ gd, w ∈ WS yX11_fits cX11_fits 4 (some .int) := fun w h => List.mem_cons_of_mem _ h
  have hg : ∀ w ∈ gd, w.before _ s = true := fun w h => hts w (hgd w h)
  have hown : s.vm.findClass RX11 = some m.cls := findClass_of_methodNamed B.named
  have hS : va_S A s.heap s.heap [] := va_S.rf
  have hF : Fr [37, 38, 39] [(6, 3)] G G := Fr.rf
  have hl := lv_entry ([.ref (a 0), .int p0]) (n := 4) (Nat.le_of_ble_eq_true rfl)
  rw [lg_entry_eq]
  generalize (lg_sl ([.ref (a 0), .int p0]) ++ List.replicate (4 - (lg_sl ([.ref (a 0), .int p0])).length) Slot.unset).toArray = ls at hl ⊢
  have hl : lv_has ls 4 [(0, .ref (a 0)), (1, .int p0)] := hl
  refine ic_0 hx hb dX11_fits_0 ?_
  refine lv_istore_n (lv' := [(2, .int 0), (0, .ref (a 0)), (1, .int p0)]) hx hb dX11_fits_1 rfl hl (lt_b rfl) rfl (fun ls hl => ?_)
  refine ic_0 hx hb dX11_fits_2 ?_
  refine lv_istore_n (lv' := [(3, .int 0), (2, .int 0), (0, .ref (a 0)), (1, .int p0)]) hx hb dX11_fits_3 rfl hl (lt_b rfl) rfl (fun ls hl => ?_)
  have qc_8 : (0 : Int32).toInt = 0 := rfl
  refine loop_N (Inv := fun n H locs ls => ∃ (G_1 : GS) (x_5 : Int32) (x_6 : Int32), (n : Int) = 6 - x_5.toInt ∧ (0 ≤ x_5.toInt ∧ x_5.toInt ≤ 6) ∧ (0 ≤ x_6.toInt ∧ x_6.toInt ≤ 63) ∧ Rc (St_k_Wfits_2_1 p0 G) (0, 0, G) (x_5, x_6, G_1) ∧ Wd D k A a G_1 H ∧ Bd G_1 ∧ Fr [37, 38, 39] [(6, 3)] G G_1 ∧ Fr [37, 38, 39] [(6, 3)] G G_1 ∧ va_S A s.heap H locs ∧ lv_has ls 4 [(3, .int x_5), (2, .int x_6), (0, .ref (a 0)), (1, .int p0)]) (fun n_4 H locs ls ih_3 hI => ?_) (6 - 0 : Int).toNat ⟨G, 0, 0, (Int.toNat_of_nonneg (by omega)), ⟨by omega, by omega⟩, ⟨by omega, by omega⟩, Rc.rf, hW, hB_G, hF, Fr.rf, hS, lv_sub hl [0, 1, 2, 3] rfl⟩
  obtain ⟨G_1, x_5, x_6, hn_11, f_9, f_10, hX_7, hW, hB_G_1, hF, hq_2, hS, hl⟩ := hI
  refine lv_iload_n hx hb dX11_fits_4 rfl (lv_at hl 0 rfl) ?_
  refine lv_aload_n hx hb dX11_fits_5 rfl (lv_at hl 2 rfl) ?_
  refine S_getV (n := 2) (C := RX11) (T := TX11) (N := 13) hx hb hg iX11 hown hK hW kd_0 rfl 0 (lt_b rfl) (hg (Cond.fieldLink RX11 10 "SlabWalk" "paving" "LSlabWalk$Paving;") m570) (fun _ h9 => h9) rfl (((hq_2.r9 0 0 rfl rfl)).trans (hv_0_0)) dX11_fits_6 ?_
  have b_12 : 0 ≤ (G.1 2 11).toInt ∧ (G.1 2 11).toInt ≤ 6 := bd_2_11 hB_G
  refine S_getI (v := (G.1 2 11)) (C := RX6) (T := TX6) (N := 17) hx hb hg iX6 hown hK hW kd_2 rfl 11 (lt_b rfl) (hg (Cond.fieldLink RX11 228 "SlabWalk$Paving" "rules" "I") m195) (fun _ h9 => h9) rfl (hq_2.i9 2 11 rfl rfl) dX11_fits_9 ?_
  refine lv_icmp_ge (tgt := 40) hx hb dX11_fits_12 rfl (fun c_13 => ?_) (fun c_13 => ?_)
  · have c_13 : (G.1 2 11).toInt ≤ x_5.toInt := xI_le rfl rfl c_13
    refine lv_iload_n hx hb dX11_fits_40 rfl (lv_at hl 1 rfl) ?_
    exact W.iret (v := x_6) hx hb hr (fun t ht _ => ⟨⟨x_6, G_1, rfl, (P_Wfits_2_mk ⟨hB_G_1, hF, ⟨x_5, x_6, G_1, hX_7, f_9, f_10, hB_G_1, hq_2, ⟨c_13, ⟨rfl, rfl⟩⟩⟩⟩), wd_t ht hW⟩, hS.F ht⟩) hS.2.2 dX11_fits_41
  · have c_13 : x_5.toInt < (G.1 2 11).toInt := xI_nle rfl rfl c_13
    refine lv_iload_n hx hb dX11_fits_15 rfl (lv_at hl 1 rfl) ?_
    refine lv_aload_n hx hb dX11_fits_16 rfl (lv_at hl 2 rfl) ?_
    refine lv_iload_n hx hb dX11_fits_17 rfl (lv_at hl 0 rfl) ?_
    refine lv_iload_n hx hb dX11_fits_18 rfl (lv_at hl 3 rfl) ?_
    refine S_calli (va_runV (As := [.int x_5, .int p0]) (rest := [.int x_6]) ⟨hx, hb, hml, hown, hts⟩ (k_wFitsAll_2 l D k A a z G_1 x_5 p0 (((hq_2.r9 0 0 rfl rfl)).trans (hv_0_0)) (((hq_2.r9 0 1 rfl rfl)).trans (hv_0_1)) (((hq_2.r9 6 4 rfl rfl)).trans (hv_6_4))) (cwV 2 hts (gd_V hgd m1267 m1269 m45 m117 m1270) rfl rfl rfl hd_X11_fitsAll ⟨Nat.le_of_ble_eq_true rfl, Nat.le_of_ble_eq_true rfl⟩) (pre_W hW hB_G_1 hK hZ hS kd_0 rfl) rfl rfl hl.1 rfl (lv_room (Nat.le_of_ble_eq_true rfl)) dX11_fits_19 ⟨Nat.le_of_ble_eq_true rfl, Nat.le_of_ble_eq_true rfl⟩) hS (fun r_14 G_15 H locs hpo hW hS => ?_)
    have hX_18 : P_wFitsAll_2 x_5 p0 G_1 r_14 G_15 := hpo
    obtain ⟨hB_G_15, hq_16, f_19, -⟩ := hpo
    have hF := hF.call9 hq_16 rfl rfl
    refine lv_if_eq (tgt := 31) hx hb dX11_fits_22 rfl (fun c_20 => ?_) (fun c_20 => ?_)
    · have c_20 : r_14.toInt = 0 := xI_eq rfl rfl c_20
      refine ic_0 hx hb dX11_fits_31 ?_
      refine lv_ior hx hb dX11_fits_32 ?_
      refine lv_topi (fun y_21 ey_21 => ?_)
      have ty_21 := or6 ey_21 ⟨by omega, by omega⟩ ⟨by omega, by omega⟩
      refine lv_istore_n (lv' := [(2, .int y_21), (3, .int x_5), (0, .ref (a 0)), (1, .int p0)]) hx hb dX11_fits_33 rfl hl (lt_b rfl) rfl (fun ls hl => ?_)
      obtain ⟨y_22, ey_22⟩ : ∃ q, q = x_5 + 1 := ⟨_, rfl⟩
      have ty_22 : y_22.toInt = x_5.toInt + 1 := xI_add rfl rfl ey_22 ((by first | (clear hn_11 f_10 f_19 c_20; omega) | omega)) ((by first | (clear hn_11 f_10 f_19 c_20; omega) | omega))
      refine lv_iinc (v := y_22) (lv' := [(3, .int y_22), (2, .int y_21), (0, .ref (a 0)), (1, .int p0)]) hx hb dX11_fits_34 hl (k := 1) rfl (by rw [ey_22]; rfl) (lt_b rfl) rfl (fun ls hl => ?_)
      refine lv_goto (tgt := 4) hx hb dX11_fits_37 rfl ?_
      exact ih_3 (6 - y_22.toInt : Int).toNat ((by first | (clear f_10 f_19 c_20; omega) | omega)) _ _ _ ⟨G_15, y_22, y_21, (Int.toNat_of_nonneg ((by first | (clear hn_11 f_10 f_19 c_20; omega) | omega))), ⟨(by first | (clear hn_11 f_10 f_19 c_20; omega) | omega), (by first | (clear hn_11 f_10 f_19 c_20; omega) | omega)⟩, ⟨(by first | (clear hn_11 f_9 f_10 b_12 c_13 f_19 c_20 ty_22; omega) | omega), (by first | (clear hn_11 f_9 f_10 b_12 c_13 f_19 c_20 ty_22; omega) | omega)⟩, (hX_7.st (St_k_Wfits_2_1_mk ⟨x_5, x_6, G_1, y_22, y_21, G_15, rfl, rfl, f_9, f_10, hB_G_1, ⟨c_13, ⟨r_14, G_15, hX_18, (Or.inl ⟨c_20, ⟨y_21, ey_21, ⟨y_22, ty_22, ⟨rfl, rfl, rfl⟩⟩⟩⟩)⟩⟩⟩)), hW, hB_G_15, hF, (Fr.call9 (rs := [37, 38, 39]) (fs := [(6, 3)]) (Fr.call9 (rs := [37, 38, 39]) (fs := [(6, 3)]) Fr.rf hq_2 rfl rfl) hq_16 rfl rfl), hS, lv_sub hl [0, 1, 2, 3] rfl⟩
    · have c_20 : r_14.toInt ≠ 0 := xI_ne rfl rfl c_20
      refine ic_1 hx hb dX11_fits_25 ?_
      refine lv_iload_n hx hb dX11_fits_26 rfl (lv_at hl 0 rfl) ?_
      refine lv_ishl hx hb dX11_fits_27 ?_
      refine lv_topi (fun y_23 ey_23 => ?_)
      have ty_23 := sh5 (Y := x_5.toInt) rfl ey_23 rfl (by first | (clear hn_11 f_10 f_19 c_20; omega) | omega) (by first | (clear hn_11 f_10 f_19 c_20; omega) | omega)
      refine lv_goto (tgt := 32) hx hb dX11_fits_28 rfl ?_
      refine lv_ior hx hb dX11_fits_32 ?_
      refine lv_topi (fun y_24 ey_24 => ?_)
      have ty_24 := or6 ey_24 ⟨by omega, by omega⟩ ⟨by omega, by omega⟩
      refine lv_istore_n (lv' := [(2, .int y_24), (3, .int x_5), (0, .ref (a 0)), (1, .int p0)]) hx hb dX11_fits_33 rfl hl (lt_b rfl) rfl (fun ls hl => ?_)
      obtain ⟨y_25, ey_25⟩ : ∃ q, q = x_5 + 1 := ⟨_, rfl⟩
      have ty_25 : y_25.toInt = x_5.toInt + 1 := xI_add rfl rfl ey_25 ((by first | (clear hn_11 f_10 f_19 c_20; omega) | omega)) ((by first | (clear hn_11 f_10 f_19 c_20; omega) | omega))
      refine lv_iinc (v := y_25) (lv' := [(3, .int y_25), (2, .int y_24), (0, .ref (a 0)), (1, .int p0)]) hx hb dX11_fits_34 hl (k := 1) rfl (by rw [ey_25]; rfl) (lt_b rfl) rfl (fun ls hl => ?_)
      refine lv_goto (tgt := 4) hx hb dX11_fits_37 rfl ?_
      exact ih_3 (6 - y_25.toInt : Int).toNat ((by first | (clear f_10 f_19 c_20; omega) | omega)) _ _ _ ⟨G_15, y_25, y_24, (Int.toNat_of_nonneg ((by first | (clear hn_11 f_10 f_19 c_20; omega) | omega))), ⟨(by first | (clear hn_11 f_10 f_19 c_20; omega) | omega), (by first | (clear hn_11 f_10 f_19 c_20; omega) | omega)⟩, ⟨(by first | (clear hn_11 f_9 f_10 b_12 c_13 f_19 c_20 ty_25; omega) | omega), (by first | (clear hn_11 f_9 f_10 b_12 c_13 f_19 c_20 ty_25; omega) | omega)⟩, (hX_7.st (St_k_Wfits_2_1_mk ⟨x_5, x_6, G_1, y_25, y_24, G_15, rfl, rfl, f_9, f_10, hB_G_1, ⟨c_13, ⟨r_14, G_15, hX_18, (Or.inr ⟨c_20, ⟨y_23, ey_23, ⟨y_24, ey_24, ⟨y_25, ty_25, ⟨rfl, rfl, rfl⟩⟩⟩⟩⟩)⟩⟩⟩)), hW, hB_G_15, hF, (Fr.call9 (rs := [37, 38, 39]) (fs := [(6, 3)]) (Fr.call9 (rs := [37, 38, 39]) (fs := [(6, 3)]) Fr.rf hq_2 rfl rfl) hq_16 rfl rfl), hS, lv_sub hl [0, 1, 2, 3] rfl⟩

set_option maxHeartbeats 4000000 in
set_option maxRecDepth 100000 in
theorem k_Wchance_2 (l : Launch) (D : va_G) (k : KT) (A : Nat → Prop) (a : Nat → Nat) (z : SK) (G : GS) (p0 : Int32) (p1 : Int32) (p2 : Int32) (hv_0_0 : G.2.2 0 0 = 2) (hv_0_1 : G.2.2 0 1 = 1) (hv_6_4 : G.2.2 6 4 = 2) : Met l yX11_chance (WS yX11_chance cX11_chance 10 (some .long)) ({ frames := 6, cells := 0, slots := 0, locals := 145 }) (va_Pc [.ref (a 0), .int p0, .int p1, .int p2] (cW D k A a z G)) (va_Ql (fun (r : Int64) (G1 : GS) => P_Wchance_2 p0 p1 p2 G r G1) (fun (G1 : GS) t => Wd D k A a G1 t.heap) A) 0 0 A := by
  refine Met.ofW (cc := cX11_chance) (maxL := 10) (ret := (some .long)) (by decide) rfl ?_
  intro p e s m args below meth c s₁ B hml hv
  obtain ⟨rfl, hW, hB_G, hK, hZ⟩ := hv
  have hx := B.exec
  have hb := B.bytes
  have hr := B.returns
  have hts := atoms_spec (ws := WS yX11_chance cX11_chance 10 (some .long)) B.pre
  have hgd : ∀ w ∈ gd, w ∈ WS yX11_chance cX11_chance 10 (some .long) := fun w h => List.mem_cons_of_mem _ h
  have hg : ∀ w ∈ gd, w.before _ s = true := fun w h => hts w (hgd w h)
  have hown : s.vm.findClass RX11 = some m.cls := findClass_of_methodNamed B.named
  have hS : va_S A s.heap s.heap [] := va_S.rf
  have hF : Fr [37, 38, 39] [(6, 3)] G G := Fr.rf
  have hl := lv_entry ([.ref (a 0), .int p0, .int p1, .int p2]) (n := 10) (Nat.le_of_ble_eq_true rfl)
  rw [lg_entry_eq]
  generalize (lg_sl ([.ref (a 0), .int p0, .int p1, .int p2]) ++ List.replicate (10 - (lg_sl ([.ref (a 0), .int p0, .int p1, .int p2])).length) Slot.unset).toArray = ls at hl ⊢
  have hl : lv_has ls 10 [(0, .ref (a 0)), (1, .int p0), (2, .int p1), (3, .int p2)] := hl
  refine lv_aload_n hx hb dX11_chance_0 rfl (lv_at hl 0 rfl) ?_
  refine S_getV (n := 2) (C := RX11) (T := TX11) (N := 13) hx hb hg iX11 hown hK hW kd_0 rfl 0 (lt_b rfl) (hg (Cond.fieldLink RX11 10 "SlabWalk" "paving" "LSlabWalk$Paving;") m570) (fun _ h9 => h9) rfl hv_0_0 dX11_chance_1 ?_
  refine lv_iload_n hx hb dX11_chance_4 rfl (lv_at hl 1 rfl) ?_
  refine S_calli (va_runV (As := [.int p0]) (rest := []) ⟨hx, hb, hml, hown, hts⟩ (k_hasRule_2 l D k A a z G p0 ) (cwV 1 hts (gd_V hgd m1206 m1207 m1208 m118 m1209) rfl rfl rfl hd_X6_hasRule ⟨Nat.le_of_ble_eq_true rfl, Nat.le_of_ble_eq_true rfl⟩) (pre_W hW hB_G hK hZ hS kd_2 rfl) rfl rfl hl.1 rfl (lv_room (Nat.le_of_ble_eq_true rfl)) dX11_chance_5 ⟨Nat.le_of_ble_eq_true rfl, Nat.le_of_ble_eq_true rfl⟩) hS (fun r_1 G_2 H locs hpo hW hS => ?_)
  have hX_5 : P_hasRule_2 p0 G r_1 G_2 := hpo
  obtain ⟨hB_G_2, hq_3, f_6, hp_4, -⟩ := hpo
  have hF := hF.call9 hq_3 rfl rfl
  refine lv_if_eq (tgt := 20) hx hb dX11_chance_8 rfl (fun c_7 => ?_) (fun c_7 => ?_)
  · have c_7 : r_1.toInt = 0 := xI_eq rfl rfl c_7
    refine lv_ldc2 (v := (-1)) hx hb hown (hg (Cond.constantLong RX11 165 (-1)) m1018) dX11_chance_20 ?_
    exact W.lret (v := (-1)) hx hb hr (fun t ht _ => ⟨⟨(-1), G_2, rfl, (P_Wchance_2_mk ⟨hB_G_2, hF, ⟨r_1, G_2, hX_5, (Or.inl ⟨c_7, ⟨rfl, rfl⟩⟩)⟩⟩), wd_t ht hW⟩, hS.F ht⟩) hS.2.2 dX11_chance_23
  · have c_7 : r_1.toInt ≠ 0 := xI_ne rfl rfl c_7
    refine lv_iload_n hx hb dX11_chance_11 rfl (lv_at hl 2 rfl) ?_
    refine lv_if_lt (tgt := 20) hx hb dX11_chance_12 rfl (fun c_8 => ?_) (fun c_8 => ?_)
    · have c_8 : p1.toInt < 0 := xI_lt rfl rfl c_8
      refine lv_ldc2 (v := (-1)) hx hb hown (hg (Cond.constantLong RX11 165 (-1)) m1018) dX11_chance_20 ?_
      exact W.lret (v := (-1)) hx hb hr (fun t ht _ => ⟨⟨(-1), G_2, rfl, (P_Wchance_2_mk ⟨hB_G_2, hF, ⟨r_1, G_2, hX_5, (Or.inr ⟨c_7, (Or.inl ⟨c_8, ⟨rfl, rfl⟩⟩)⟩)⟩⟩), wd_t ht hW⟩, hS.F ht⟩) hS.2.2 dX11_chance_23
    · have c_8 : 0 ≤ p1.toInt := xI_nlt rfl rfl c_8
      refine lv_iload_n hx hb dX11_chance_15 rfl (lv_at hl 2 rfl) ?_
      refine ic_1 hx hb dX11_chance_16 ?_
      refine lv_icmp_le (tgt := 24) hx hb dX11_chance_17 rfl (fun c_9 => ?_) (fun c_9 => ?_)
      · have c_9 : p1.toInt ≤ 1 := xI_le rfl rfl c_9
        refine lv_lconst (v := 1) hx hb dX11_chance_24 (by decide) ?_
        refine lv_lstore (lv' := [(4, .long 1), (0, .ref (a 0)), (1, .int p0), (2, .int p1), (3, .int p2)]) hx hb dX11_chance_25 hl (lt_b rfl) rfl (fun ls hl => ?_)
        refine lv_lconst (v := 1) hx hb dX11_chance_27 (by decide) ?_
        refine lv_lstore (lv' := [(6, .long 1), (4, .long 1), (0, .ref (a 0)), (1, .int p0), (2, .int p1), (3, .int p2)]) hx hb dX11_chance_28 hl (lt_b rfl) rfl (fun ls hl => ?_)
        refine ic_0 hx hb dX11_chance_30 ?_
        refine lv_istore (lv' := [(8, .int 0), (6, .long 1), (4, .long 1), (0, .ref (a 0)), (1, .int p0), (2, .int p1), (3, .int p2)]) hx hb dX11_chance_31 hl (lt_b rfl) rfl (fun ls hl => ?_)
        have qc_18 : (0 : Int32).toInt = 0 := rfl
        refine loop_N (Inv := fun n H locs ls => ∃ (G_10 : GS) (x_14 : Int32) (x_15 : Int64) (x_16 : Int64), (n : Int) = 20 - x_14.toInt ∧ (0 ≤ x_14.toInt ∧ x_14.toInt ≤ 20) ∧ Rc (St_k_Wchance_2_1 p0 p2 G) (0, 1, 1, G_2) (x_14, x_15, x_16, G_10) ∧ Wd D k A a G_10 H ∧ Bd G_10 ∧ Fr [37, 38, 39] [(6, 3)] G G_10 ∧ Fr [37, 38, 39] [(6, 3)] G_2 G_10 ∧ va_S A s.heap H locs ∧ lv_has ls 10 [(8, .int x_14), (6, .long x_15), (4, .long x_16), (0, .ref (a 0)), (1, .int p0), (2, .int p1), (3, .int p2)]) (fun n_13 H locs ls ih_12 hI => ?_) (20 - 0 : Int).toNat ⟨G_2, 0, 1, 1, (Int.toNat_of_nonneg ((by first | (clear f_6 hp_4 c_7 c_8 c_9; omega) | omega))), ⟨(by first | (clear f_6 hp_4 c_7 c_8 c_9; omega) | omega), (by first | (clear f_6 hp_4 c_7 c_8 c_9; omega) | omega)⟩, Rc.rf, hW, hB_G_2, hF, Fr.rf, hS, lv_sub hl [0, 1, 2, 3, 4, 5, 6] rfl⟩
        obtain ⟨G_10, x_14, x_15, x_16, hn_20, f_19, hX_17, hW, hB_G_10, hF, hq_11, hS, hl⟩ := hI
        refine lv_iload hx hb dX11_chance_33 (lv_at hl 0 rfl) ?_
        refine lv_aload_n hx hb dX11_chance_35 rfl (lv_at hl 3 rfl) ?_
        refine S_getR (n := 31) (C := RX11) (T := TX11) (N := 13) hx hb hg iX11 hown hK hW kd_0 rfl 9 (lt_b rfl) (hg (Cond.fieldLink RX11 72 "SlabWalk" "sights" "LSlabWalk$Sights;") m579) (fun _ h9 => h9) rfl dX11_chance_36 ?_
        have b_21 : 0 ≤ (G.1 31 5).toInt ∧ (G.1 31 5).toInt ≤ 20 := bd_31_5 hB_G
        refine S_getI (v := (G.1 31 5)) (C := RX8) (T := TX8) (N := 7) hx hb hg iX8 hown hK hW kd_31 rfl 5 (lt_b rfl) (hg (Cond.fieldLink RX11 285 "SlabWalk$Sights" "count" "I") m529) (fun _ h9 => h9) rfl ((hq_11.i9 31 5 rfl rfl).trans (hq_3.i9 31 5 rfl rfl)) dX11_chance_39 ?_
        refine lv_icmp_ge (tgt := 92) hx hb dX11_chance_42 rfl (fun c_22 => ?_) (fun c_22 => ?_)
        · have c_22 : (G.1 31 5).toInt ≤ x_14.toInt := xI_le rfl rfl c_22
          refine lv_lload hx hb dX11_chance_92 (lv_at hl 1 rfl) ?_
          refine lv_lload hx hb dX11_chance_94 (lv_at hl 2 rfl) ?_
          refine S_calll (va_runS (As := [.long x_15, .long x_16]) (rest := []) ⟨hx, hb, hml, hown, hts⟩ (k_gcd l D k A a z G_10 x_15 x_16 ) (va_cwS 2 hts (gd_S hgd m1079 m1080 m117 m1081) rfl rfl rfl hd_X11_commonDivisor.2 ⟨Nat.le_of_ble_eq_true rfl, Nat.le_of_ble_eq_true rfl⟩) (pre_S hW hB_G_10 hK hZ hS) rfl rfl hl.1 rfl (lv_room (Nat.le_of_ble_eq_true rfl)) dX11_chance_96 ⟨Nat.le_of_ble_eq_true rfl, Nat.le_of_ble_eq_true rfl⟩) hS (fun r_23 G_24 H locs hpo hW hS => ?_)
          have hX_27 : P_gcd x_15 x_16 G_10 r_23 G_24 := hpo
          obtain ⟨hB_G_24, hq_25, -⟩ := hpo
          have hF := hF.call9 hq_25 rfl rfl
          refine lv_lstore (lv' := [(8, .long r_23), (6, .long x_15), (4, .long x_16), (0, .ref (a 0)), (1, .int p0), (2, .int p1), (3, .int p2)]) hx hb dX11_chance_99 hl (lt_b rfl) rfl (fun ls hl => ?_)
          refine lv_lload hx hb dX11_chance_101 (lv_at hl 0 rfl) ?_
          refine lv_lconst (v := 0) hx hb dX11_chance_103 (by decide) ?_
          refine W.lcmp hx hb dX11_chance_104 ?_
          refine lv_topi (fun y_28 ey_28 => ?_)
          have ty_28 := lcmp_rng ey_28
          refine lv_if_ne (tgt := 112) hx hb dX11_chance_105 rfl (fun c_29 => ?_) (fun c_29 => ?_)
          · have c_29 : y_28.toInt ≠ 0 := xI_ne rfl rfl c_29
            refine lv_iload_n hx hb dX11_chance_112 rfl (lv_at hl 5 rfl) ?_
            refine lv_if_ne (tgt := 124) hx hb dX11_chance_113 rfl (fun c_30 => ?_) (fun c_30 => ?_)
            · have c_30 : p1.toInt ≠ 0 := xI_ne rfl rfl c_30
              refine lv_lload hx hb dX11_chance_124 (lv_at hl 1 rfl) ?_
              refine lv_lload hx hb dX11_chance_126 (lv_at hl 0 rfl) ?_
              refine lv_ldiv hx hb dX11_chance_128 (lc_ne ey_28 (by first | (clear f_6 hp_4 c_7 c_8 c_9 hn_20 f_19 b_21 c_22 c_30; omega) | omega)) ?_
              refine lv_topl (fun y_31 ey_31 => ?_)
              exact W.lret (v := y_31) hx hb hr (fun t ht _ => ⟨⟨y_31, G_24, rfl, (P_Wchance_2_mk ⟨hB_G_24, hF, ⟨r_1, G_2, hX_5, (Or.inr ⟨c_7, (Or.inr ⟨c_8, (Or.inl ⟨c_9, ⟨x_14, x_15, x_16, G_10, hX_17, f_19, hB_G_10, hq_11, ⟨c_22, ⟨r_23, G_24, hX_27, ⟨y_28, ey_28, (Or.inr ⟨c_29, (Or.inr ⟨c_30, ⟨y_31, ey_31, ⟨rfl, rfl⟩⟩⟩)⟩)⟩⟩⟩⟩⟩)⟩)⟩)⟩⟩), wd_t ht hW⟩, hS.F ht⟩) hS.2.2 dX11_chance_129
            · have c_30 : p1.toInt = 0 := xI_eq rfl rfl c_30
              refine lv_lload hx hb dX11_chance_116 (lv_at hl 2 rfl) ?_
              refine lv_lload hx hb dX11_chance_118 (lv_at hl 0 rfl) ?_
              refine lv_ldiv hx hb dX11_chance_120 (lc_ne ey_28 (by first | (clear f_6 hp_4 c_7 c_8 c_9 hn_20 f_19 b_21 c_22 c_30; omega) | omega)) ?_
              refine lv_topl (fun y_32 ey_32 => ?_)
              refine lv_goto (tgt := 129) hx hb dX11_chance_121 rfl ?_
              exact W.lret (v := y_32) hx hb hr (fun t ht _ => ⟨⟨y_32, G_24, rfl, (P_Wchance_2_mk ⟨hB_G_24, hF, ⟨r_1, G_2, hX_5, (Or.inr ⟨c_7, (Or.inr ⟨c_8, (Or.inl ⟨c_9, ⟨x_14, x_15, x_16, G_10, hX_17, f_19, hB_G_10, hq_11, ⟨c_22, ⟨r_23, G_24, hX_27, ⟨y_28, ey_28, (Or.inr ⟨c_29, (Or.inl ⟨c_30, ⟨y_32, ey_32, ⟨rfl, rfl⟩⟩⟩)⟩)⟩⟩⟩⟩⟩)⟩)⟩)⟩⟩), wd_t ht hW⟩, hS.F ht⟩) hS.2.2 dX11_chance_129
          · have c_29 : y_28.toInt = 0 := xI_eq rfl rfl c_29
            refine lv_ldc2 (v := (-1)) hx hb hown (hg (Cond.constantLong RX11 165 (-1)) m1018) dX11_chance_108 ?_
            exact W.lret (v := (-1)) hx hb hr (fun t ht _ => ⟨⟨(-1), G_24, rfl, (P_Wchance_2_mk ⟨hB_G_24, hF, ⟨r_1, G_2, hX_5, (Or.inr ⟨c_7, (Or.inr ⟨c_8, (Or.inl ⟨c_9, ⟨x_14, x_15, x_16, G_10, hX_17, f_19, hB_G_10, hq_11, ⟨c_22, ⟨r_23, G_24, hX_27, ⟨y_28, ey_28, (Or.inl ⟨c_29, ⟨rfl, rfl⟩⟩)⟩⟩⟩⟩⟩)⟩)⟩)⟩⟩), wd_t ht hW⟩, hS.F ht⟩) hS.2.2 dX11_chance_111
        · have c_22 : x_14.toInt < (G.1 31 5).toInt := xI_nle rfl rfl c_22
          refine lv_aload_n hx hb dX11_chance_45 rfl (lv_at hl 3 rfl) ?_
          refine S_getR (n := 31) (C := RX11) (T := TX11) (N := 13) hx hb hg iX11 hown hK hW kd_0 rfl 9 (lt_b rfl) (hg (Cond.fieldLink RX11 72 "SlabWalk" "sights" "LSlabWalk$Sights;") m579) (fun _ h9 => h9) rfl dX11_chance_46 ?_
          refine lv_iload hx hb dX11_chance_49 (lv_at hl 0 rfl) ?_
          refine lv_iload_n hx hb dX11_chance_51 rfl (lv_at hl 6 rfl) ?_
          refine S_calli (va_runV (As := [.int x_14, .int p2]) (rest := []) ⟨hx, hb, hml, hown, hts⟩ (k_sCounts l D k A a z G_10 x_14 p2 ⟨(by first | (clear f_6 hp_4 c_7 c_8 c_9 hn_20; omega) | omega), (by first | (clear f_6 hp_4 c_7 c_8 c_9 hn_20; omega) | omega)⟩) (cwV 2 hts (gd_V hgd m1271 m1272 m1273 m128 m1274) rfl rfl rfl hd_X8_counts ⟨Nat.le_of_ble_eq_true rfl, Nat.le_of_ble_eq_true rfl⟩) (pre_W hW hB_G_10 hK hZ hS kd_31 rfl) rfl rfl hl.1 rfl (lv_room (Nat.le_of_ble_eq_true rfl)) dX11_chance_52 ⟨Nat.le_of_ble_eq_true rfl, Nat.le_of_ble_eq_true rfl⟩) hS (fun r_33 G_34 H locs hpo hW hS => ?_)
          have hX_37 : P_sCounts x_14 p2 G_10 r_33 G_34 := hpo
          obtain ⟨hB_G_34, hq_35, f_38, -⟩ := hpo
          have hF := hF.call9 hq_35 rfl rfl
          refine lv_if_eq (tgt := 86) hx hb dX11_chance_55 rfl (fun c_39 => ?_) (fun c_39 => ?_)
          · have c_39 : r_33.toInt = 0 := xI_eq rfl rfl c_39
            obtain ⟨y_40, ey_40⟩ : ∃ q, q = x_14 + 1 := ⟨_, rfl⟩
            have ty_40 : y_40.toInt = x_14.toInt + 1 := xI_add rfl rfl ey_40 ((by first | (clear f_6 hp_4 c_7 c_8 c_9 hn_20 f_38 c_39; omega) | omega)) ((by first | (clear f_6 hp_4 c_7 c_8 c_9 hn_20 f_38 c_39; omega) | omega))
            refine lv_iinc (v := y_40) (lv' := [(8, .int y_40), (6, .long x_15), (4, .long x_16), (0, .ref (a 0)), (1, .int p0), (2, .int p1), (3, .int p2)]) hx hb dX11_chance_86 hl (k := 0) rfl (by rw [ey_40]; rfl) (lt_b rfl) rfl (fun ls hl => ?_)
            refine lv_goto (tgt := 33) hx hb dX11_chance_89 rfl ?_
            exact ih_12 (20 - y_40.toInt : Int).toNat ((by first | (clear f_6 hp_4 c_7 c_8 c_9 f_38 c_39; omega) | omega)) _ _ _ ⟨G_34, y_40, x_15, x_16, (Int.toNat_of_nonneg ((by first | (clear f_6 hp_4 c_7 c_8 c_9 hn_20 f_38 c_39; omega) | omega))), ⟨(by first | (clear f_6 hp_4 c_7 c_8 c_9 hn_20 f_38 c_39; omega) | omega), (by first | (clear f_6 hp_4 c_7 c_8 c_9 hn_20 f_38 c_39; omega) | omega)⟩, (hX_17.st (St_k_Wchance_2_1_mk ⟨x_14, x_15, x_16, G_10, y_40, x_15, x_16, G_34, rfl, rfl, f_19, hB_G_10, ⟨c_22, ⟨r_33, G_34, hX_37, (Or.inl ⟨c_39, ⟨y_40, ty_40, ⟨rfl, rfl, rfl, rfl⟩⟩⟩)⟩⟩⟩)), hW, hB_G_34, hF, (Fr.call9 (rs := [37, 38, 39]) (fs := [(6, 3)]) (Fr.call9 (rs := [37, 38, 39]) (fs := [(6, 3)]) Fr.rf hq_11 rfl rfl) hq_35 rfl rfl), hS, lv_sub hl [0, 1, 2, 3, 4, 5, 6] rfl⟩
          · have c_39 : r_33.toInt ≠ 0 := xI_ne rfl rfl c_39
            refine lv_lload hx hb dX11_chance_58 (lv_at hl 2 rfl) ?_
            refine lv_aload_n hx hb dX11_chance_60 rfl (lv_at hl 3 rfl) ?_
            refine lv_iload hx hb dX11_chance_61 (lv_at hl 0 rfl) ?_
            refine lv_iload_n hx hb dX11_chance_63 rfl (lv_at hl 4 rfl) ?_
            refine ic_1 hx hb dX11_chance_64 ?_
            refine S_calli (va_runV (As := [.int x_14, .int p0, .int 1]) (rest := [.long x_16]) ⟨hx, hb, hml, hown, hts⟩ (k_wNear_2 l D k A a z G_34 x_14 p0 1 ⟨(by first | (clear f_6 hp_4 c_7 c_8 c_9 hn_20 f_38 c_39; omega) | omega), (by first | (clear f_6 hp_4 c_7 c_8 c_9 hn_20 f_38 c_39; omega) | omega)⟩ ⟨by decide, by decide⟩ ((((hq_35.r9 0 0 rfl rfl).trans ((hq_11.r9 0 0 rfl rfl).trans (hq_3.r9 0 0 rfl rfl)))).trans (hv_0_0)) ((((hq_35.r9 0 1 rfl rfl).trans ((hq_11.r9 0 1 rfl rfl).trans (hq_3.r9 0 1 rfl rfl)))).trans (hv_0_1)) ((((hq_35.r9 6 4 rfl rfl).trans ((hq_11.r9 6 4 rfl rfl).trans (hq_3.r9 6 4 rfl rfl)))).trans (hv_6_4))) (cwV 3 hts (gd_V hgd m1283 m1285 m47 m117 m1286) rfl rfl rfl hd_X11_heelsNear ⟨Nat.le_of_ble_eq_true rfl, Nat.le_of_ble_eq_true rfl⟩) (pre_W hW hB_G_34 hK hZ hS kd_0 rfl) rfl rfl hl.1 rfl (lv_room (Nat.le_of_ble_eq_true rfl)) dX11_chance_65 ⟨Nat.le_of_ble_eq_true rfl, Nat.le_of_ble_eq_true rfl⟩) hS (fun r_41 G_42 H locs hpo hW hS => ?_)
            have hX_45 : P_wNear_2 x_14 p0 1 G_34 r_41 G_42 := hpo
            obtain ⟨hB_G_42, hq_43, -⟩ := hpo
            have hF := hF.call9 hq_43 rfl rfl
            refine lv_i2l hx hb dX11_chance_68 rfl ?_
            refine lv_topl (fun y_46 ey_46 => ?_)
            refine lv_lmul hx hb dX11_chance_69 ?_
            refine lv_topl (fun y_47 ey_47 => ?_)
            refine lv_lstore (lv' := [(4, .long y_47), (8, .int x_14), (6, .long x_15), (0, .ref (a 0)), (1, .int p0), (2, .int p1), (3, .int p2)]) hx hb dX11_chance_70 hl (lt_b rfl) rfl (fun ls hl => ?_)
            refine lv_lload hx hb dX11_chance_72 (lv_at hl 2 rfl) ?_
            refine lv_aload_n hx hb dX11_chance_74 rfl (lv_at hl 3 rfl) ?_
            refine lv_iload hx hb dX11_chance_75 (lv_at hl 1 rfl) ?_
            refine lv_iload_n hx hb dX11_chance_77 rfl (lv_at hl 4 rfl) ?_
            refine ic_0 hx hb dX11_chance_78 ?_
            refine S_calli (va_runV (As := [.int x_14, .int p0, .int 0]) (rest := [.long x_15]) ⟨hx, hb, hml, hown, hts⟩ (k_wNear_2 l D k A a z G_42 x_14 p0 0 ⟨(by first | (clear f_6 hp_4 c_7 c_8 c_9 hn_20 f_38 c_39; omega) | omega), (by first | (clear f_6 hp_4 c_7 c_8 c_9 hn_20 f_38 c_39; omega) | omega)⟩ ⟨by decide, by decide⟩ ((((hq_43.r9 0 0 rfl rfl).trans ((hq_35.r9 0 0 rfl rfl).trans ((hq_11.r9 0 0 rfl rfl).trans (hq_3.r9 0 0 rfl rfl))))).trans (hv_0_0)) ((((hq_43.r9 0 1 rfl rfl).trans ((hq_35.r9 0 1 rfl rfl).trans ((hq_11.r9 0 1 rfl rfl).trans (hq_3.r9 0 1 rfl rfl))))).trans (hv_0_1)) ((((hq_43.r9 6 4 rfl rfl).trans ((hq_35.r9 6 4 rfl rfl).trans ((hq_11.r9 6 4 rfl rfl).trans (hq_3.r9 6 4 rfl rfl))))).trans (hv_6_4))) (cwV 3 hts (gd_V hgd m1283 m1285 m47 m117 m1286) rfl rfl rfl hd_X11_heelsNear ⟨Nat.le_of_ble_eq_true rfl, Nat.le_of_ble_eq_true rfl⟩) (pre_W hW hB_G_42 hK hZ hS kd_0 rfl) rfl rfl hl.1 rfl (lv_room (Nat.le_of_ble_eq_true rfl)) dX11_chance_79 ⟨Nat.le_of_ble_eq_true rfl, Nat.le_of_ble_eq_true rfl⟩) hS (fun r_48 G_49 H locs hpo hW hS => ?_)
            have hX_52 : P_wNear_2 x_14 p0 0 G_42 r_48 G_49 := hpo
            obtain ⟨hB_G_49, hq_50, -⟩ := hpo
            have hF := hF.call9 hq_50 rfl rfl
            refine lv_i2l hx hb dX11_chance_82 rfl ?_
            refine lv_topl (fun y_53 ey_53 => ?_)
            refine lv_lmul hx hb dX11_chance_83 ?_
            refine lv_topl (fun y_54 ey_54 => ?_)
            refine lv_lstore (lv' := [(6, .long y_54), (4, .long y_47), (8, .int x_14), (0, .ref (a 0)), (1, .int p0), (2, .int p1), (3, .int p2)]) hx hb dX11_chance_84 hl (lt_b rfl) rfl (fun ls hl => ?_)
            obtain ⟨y_55, ey_55⟩ : ∃ q, q = x_14 + 1 := ⟨_, rfl⟩
            have ty_55 : y_55.toInt = x_14.toInt + 1 := xI_add rfl rfl ey_55 ((by first | (clear f_6 hp_4 c_7 c_8 c_9 hn_20 f_38 c_39; omega) | omega)) ((by first | (clear f_6 hp_4 c_7 c_8 c_9 hn_20 f_38 c_39; omega) | omega))
            refine lv_iinc (v := y_55) (lv' := [(8, .int y_55), (6, .long y_54), (4, .long y_47), (0, .ref (a 0)), (1, .int p0), (2, .int p1), (3, .int p2)]) hx hb dX11_chance_86 hl (k := 2) rfl (by rw [ey_55]; rfl) (lt_b rfl) rfl (fun ls hl => ?_)
            refine lv_goto (tgt := 33) hx hb dX11_chance_89 rfl ?_
            exact ih_12 (20 - y_55.toInt : Int).toNat ((by first | (clear f_6 hp_4 c_7 c_8 c_9 f_38 c_39; omega) | omega)) _ _ _ ⟨G_49, y_55, y_54, y_47, (Int.toNat_of_nonneg ((by first | (clear f_6 hp_4 c_7 c_8 c_9 hn_20 f_38 c_39; omega) | omega))), ⟨(by first | (clear f_6 hp_4 c_7 c_8 c_9 hn_20 f_38 c_39; omega) | omega), (by first | (clear f_6 hp_4 c_7 c_8 c_9 hn_20 f_38 c_39; omega) | omega)⟩, (hX_17.st (St_k_Wchance_2_1_mk ⟨x_14, x_15, x_16, G_10, y_55, y_54, y_47, G_49, rfl, rfl, f_19, hB_G_10, ⟨c_22, ⟨r_33, G_34, hX_37, (Or.inr ⟨c_39, ⟨r_41, G_42, hX_45, ⟨y_46, ey_46, ⟨y_47, ey_47, ⟨r_48, G_49, hX_52, ⟨y_53, ey_53, ⟨y_54, ey_54, ⟨y_55, ty_55, ⟨rfl, rfl, rfl, rfl⟩⟩⟩⟩⟩⟩⟩⟩⟩)⟩⟩⟩)), hW, hB_G_49, hF, (Fr.call9 (rs := [37, 38, 39]) (fs := [(6, 3)]) (Fr.call9 (rs := [37, 38, 39]) (fs := [(6, 3)]) (Fr.call9 (rs := [37, 38, 39]) (fs := [(6, 3)]) (Fr.call9 (rs := [37, 38, 39]) (fs := [(6, 3)]) Fr.rf hq_11 rfl rfl) hq_35 rfl rfl) hq_43 rfl rfl) hq_50 rfl rfl), hS, lv_sub hl [0, 1, 2, 3, 4, 5, 6] rfl⟩
      · have c_9 : 1 < p1.toInt := xI_nle rfl rfl c_9
        refine lv_ldc2 (v := (-1)) hx hb hown (hg (Cond.constantLong RX11 165 (-1)) m1018) dX11_chance_20 ?_
        exact W.lret (v := (-1)) hx hb hr (fun t ht _ => ⟨⟨(-1), G_2, rfl, (P_Wchance_2_mk ⟨hB_G_2, hF, ⟨r_1, G_2, hX_5, (Or.inr ⟨c_7, (Or.inr ⟨c_8, (Or.inr ⟨c_9, ⟨rfl, rfl⟩⟩)⟩)⟩)⟩⟩), wd_t ht hW⟩, hS.F ht⟩) hS.2.2 dX11_chance_23



set_option maxHeartbeats 4000000 in
set_option maxRecDepth 100000 in
theorem k_Wpavement_2 (l : Launch) (D : va_G) (k : KT) (A : Nat → Prop) (a : Nat → Nat) (z : SK) (G : GS)  (hv_0_0 : G.2.2 0 0 = 2) (hv_0_1 : G.2.2 0 1 = 1) (hv_6_4 : G.2.2 6 4 = 2) (he : (G.1 30 4).toInt + (G.1 30 5).toInt ≤ 40) : Met l yX11_pavement (WS yX11_pavement cX11_pavement 3 (some .int)) ({ frames := 102, cells := 0, slots := 0, locals := 2194 }) (va_Pc [.ref (a 0)] (cW D k A a z G)) (va_Qi (fun (r : Int32) (G1 : GS) => P_Wpavement_2 G r G1) (fun (G1 : GS) t => Wd D k A a G1 t.heap) A) 0 0 A := by
  refine Met.ofW (cc := cX11_pavement) (maxL := 3) (ret := (some .int)) (by decide) rfl ?_
  intro p e s m args below meth c s₁ B hml hv
  obtain ⟨rfl, hW, hB_G, hK, hZ⟩ := hv
  have hx := B.exec
  have hb := B.bytes
  have hr := B.returns
  have hts := atoms_spec (ws := WS yX11_pavement cX11_pavement 3 (some .int)) B.pre
  have hgd : ∀ w ∈ gd, w ∈ WS yX11_pavement cX11_pavement 3 (some .int) := fun w h => List.mem_cons_of_mem _ h
  have hg : ∀ w ∈ gd, w.before _ s = true := fun w h => hts w (hgd w h)
  have hown : s.vm.findClass RX11 = some m.cls := findClass_of_methodNamed B.named
  have hS : va_S A s.heap s.heap [] := va_S.rf
  have hF : Fr [10, 11, 12, 13, 14, 15, 16, 17, 18, 34, 35, 36, 38, 58, 59] [(0, 0), (0, 1), (0, 11), (0, 12), (1, 9), (1, 10), (1, 11), (1, 12), (1, 13), (1, 14), (1, 15), (1, 16), (3, 1), (3, 2), (3, 3), (3, 4), (3, 5), (3, 6), (3, 7), (3, 8), (4, 1), (4, 2), (5, 5), (5, 6), (5, 7), (5, 8), (5, 9), (6, 4), (30, 3), (30, 4), (30, 5), (31, 5)] G G := Fr.rf
  have hl := lv_entry ([.ref (a 0)]) (n := 3) (Nat.le_of_ble_eq_true rfl)
  rw [lg_entry_eq]
  generalize (lg_sl ([.ref (a 0)]) ++ List.replicate (3 - (lg_sl ([.ref (a 0)])).length) Slot.unset).toArray = ls at hl ⊢
  have hl : lv_has ls 3 [(0, .ref (a 0))] := hl
  refine lv_aload_n hx hb dX11_pavement_0 rfl (lv_at hl 0 rfl) ?_
  refine S_getR (n := 5) (C := RX11) (T := TX11) (N := 13) hx hb hg iX11 hown hK hW kd_0 rfl 3 (lt_b rfl) (hg (Cond.fieldLink RX11 28 "SlabWalk" "reader" "LSlabWalk$Reader;") m573) (fun _ h9 => h9) rfl dX11_pavement_1 ?_
  refine lv_aload_n hx hb dX11_pavement_4 rfl (lv_at hl 0 rfl) ?_
  have b_1 : 0 ≤ (G.1 0 11).toInt ∧ (G.1 0 11).toInt ≤ 1600 := bd_0_11 hB_G
  refine S_getI (v := (G.1 0 11)) (C := RX11) (T := TX11) (N := 13) hx hb hg iX11 hown hK hW kd_0 rfl 11 (lt_b rfl) (hg (Cond.fieldLink RX11 83 "SlabWalk" "taped" "I") m581) (fun _ h9 => h9) rfl rfl dX11_pavement_5 ?_
  refine lv_aload_n hx hb dX11_pavement_8 rfl (lv_at hl 0 rfl) ?_
  refine S_getV (n := 1) (C := RX11) (T := TX11) (N := 13) hx hb hg iX11 hown hK hW kd_0 rfl 1 (lt_b rfl) (hg (Cond.fieldLink RX11 16 "SlabWalk" "spare" "LSlabWalk$Paving;") m571) (fun _ h9 => h9) rfl hv_0_1 dX11_pavement_9 ?_
  refine S_calli (va_runV (As := [.int (G.1 0 11), .ref (a 1)]) (rest := []) ⟨hx, hb, hml, hown, hts⟩ (k_rRead_1 l D k A a z G (G.1 0 11) ⟨by omega, by omega⟩) (cwV 2 hts (gd_V hgd m626 m627 m628 m119 m629) rfl rfl rfl hd_X7_read ⟨Nat.le_of_ble_eq_true rfl, Nat.le_of_ble_eq_true rfl⟩) (pre_W hW hB_G hK hZ hS kd_5 rfl) rfl rfl hl.1 rfl (lv_room (Nat.le_of_ble_eq_true rfl)) dX11_pavement_12 ⟨Nat.le_of_ble_eq_true rfl, Nat.le_of_ble_eq_true rfl⟩) hS (fun r_2 G_3 H locs hpo hW hS => ?_)
  have hX_6 : P_rRead_1 (G.1 0 11) G r_2 G_3 := hpo
  obtain ⟨hB_G_3, hq_4, f_7, -⟩ := hpo
  have hF := hF.call9 hq_4 rfl rfl
  refine lv_istore_n (lv' := [(1, .int r_2), (0, .ref (a 0))]) hx hb dX11_pavement_15 rfl hl (lt_b rfl) rfl (fun ls hl => ?_)
  refine lv_aload_n hx hb dX11_pavement_16 rfl (lv_at hl 1 rfl) ?_
  refine ic_0 hx hb dX11_pavement_17 ?_
  refine S_putI (ty := .int) (C := RX11) (T := TX11) (N := 13) hx hb hg iX11 tyX11 tyX11_ok nmX11 hown hK hW hS kd_0 rfl 11 (lt_b rfl) (hg (Cond.fieldLink RX11 83 "SlabWalk" "taped" "I") m581) (fun _ h9 => h9) rfl (by decide +kernel) rfl rfl rfl dX11_pavement_18 (fun G_8 H locs eG_8 hW hS => ?_)
  have hB_G_8 : Bd G_8 := hB_G_3.put (V := 0) (lo := 0) (hi := 1600) eG_8 rfl rfl rfl (by decide) (by decide) (hB_G_3.2.put eG_8 rfl)
  have hF := hF.put eG_8 (Or.inr (by decide))
  refine lv_iload_n hx hb dX11_pavement_21 rfl (lv_at hl 0 rfl) ?_
  refine lv_if_ne (tgt := 27) hx hb dX11_pavement_22 rfl (fun c_9 => ?_) (fun c_9 => ?_)
  · have c_9 : r_2.toInt ≠ 0 := xI_ne rfl rfl c_9
    refine lv_aload_n hx hb dX11_pavement_27 rfl (lv_at hl 1 rfl) ?_
    refine S_getV (n := 1) (C := RX11) (T := TX11) (N := 13) hx hb hg iX11 hown hK hW kd_0 rfl 1 (lt_b rfl) (hg (Cond.fieldLink RX11 16 "SlabWalk" "spare" "LSlabWalk$Paving;") m571) (fun _ h9 => h9) rfl ((((congrFun (congrFun (congrArg (fun q => q.2.2) eG_8) 0) 1).trans (hq_4.r9 0 1 rfl rfl))).trans (hv_0_1)) dX11_pavement_28 ?_
    refine lv_astore_n (lv' := [(2, .ref (a 1)), (1, .int r_2), (0, .ref (a 0))]) hx hb dX11_pavement_31 rfl hl (lt_b rfl) rfl (fun ls hl => ?_)
    refine lv_aload_n hx hb dX11_pavement_32 rfl (lv_at hl 2 rfl) ?_
    refine lv_aload_n hx hb dX11_pavement_33 rfl (lv_at hl 2 rfl) ?_
    refine S_getV (n := 2) (C := RX11) (T := TX11) (N := 13) hx hb hg iX11 hown hK hW kd_0 rfl 0 (lt_b rfl) (hg (Cond.fieldLink RX11 10 "SlabWalk" "paving" "LSlabWalk$Paving;") m570) (fun _ h9 => h9) rfl ((((congrFun (congrFun (congrArg (fun q => q.2.2) eG_8) 0) 0).trans (hq_4.r9 0 0 rfl rfl))).trans (hv_0_0)) dX11_pavement_34 ?_
    refine S_putV (ty := .object "SlabWalk$Paving") (n := 2) (C := RX11) (T := TX11) (N := 13) hx hb hg iX11 tyX11 tyX11_ok nmX11 hown hK hW hS kd_0 rfl 1 (lt_b rfl) (hg (Cond.fieldLink RX11 16 "SlabWalk" "spare" "LSlabWalk$Paving;") m571) (fun _ h9 => h9) rfl (by decide +kernel) rfl rfl rfl dX11_pavement_37 (fun G_10 H locs eG_10 hW hS => ?_)
    have hB_G_10 : Bd G_10 := hB_G_8.putr eG_10 (by decide) (by decide)
    have hF := hF.putr eG_10 (Or.inr (by decide))
    refine lv_aload_n hx hb dX11_pavement_40 rfl (lv_at hl 2 rfl) ?_
    refine lv_aload_n hx hb dX11_pavement_41 rfl (lv_at hl 0 rfl) ?_
    refine S_putV (ty := .object "SlabWalk$Paving") (n := 1) (C := RX11) (T := TX11) (N := 13) hx hb hg iX11 tyX11 tyX11_ok nmX11 hown hK hW hS kd_0 rfl 0 (lt_b rfl) (hg (Cond.fieldLink RX11 10 "SlabWalk" "paving" "LSlabWalk$Paving;") m570) (fun _ h9 => h9) rfl (by decide +kernel) rfl rfl rfl dX11_pavement_42 (fun G_11 H locs eG_11 hW hS => ?_)
    have hB_G_11 : Bd G_11 := hB_G_10.putr eG_11 (by decide) (by decide)
    have hF := hF.putr eG_11 (Or.inr (by decide))
    refine lv_aload_n hx hb dX11_pavement_45 rfl (lv_at hl 2 rfl) ?_
    refine S_callv (va_runV (As := []) (rest := []) ⟨hx, hb, hml, hown, hts⟩ (k_wStart_1 l D k A a z G_11  (gp_re eG_11)) (cwV 0 hts (gd_V hgd m547 m549 m0 m117 m550) rfl rfl rfl hd_X11_startAnew ⟨Nat.le_of_ble_eq_true rfl, Nat.le_of_ble_eq_true rfl⟩) (pre_W hW hB_G_11 hK hZ hS kd_0 rfl) rfl rfl hl.1 rfl (lv_room (Nat.le_of_ble_eq_true rfl)) dX11_pavement_46 ⟨Nat.le_of_ble_eq_true rfl, Nat.le_of_ble_eq_true rfl⟩) hS (fun G_13 H locs hpo hW hS => ?_)
    have hX_16 : P_wStart_1 G_11 G_13 := hpo
    obtain ⟨hB_G_13, hq_14, hp_15, -⟩ := hpo
    have hF := hF.call9 hq_14 rfl rfl
    refine lv_aload_n hx hb dX11_pavement_49 rfl (lv_at hl 2 rfl) ?_
    refine S_getV (n := 1) (C := RX11) (T := TX11) (N := 13) hx hb hg iX11 hown hK hW kd_0 rfl 0 (lt_b rfl) (hg (Cond.fieldLink RX11 10 "SlabWalk" "paving" "LSlabWalk$Paving;") m570) (fun _ h9 => h9) rfl ((hq_14.r9 0 0 rfl rfl).trans (gp_re eG_11)) dX11_pavement_50 ?_
    have b_17 : 0 ≤ (G_3.1 1 9).toInt ∧ (G_3.1 1 9).toInt ≤ 3 := bd_1_9 hB_G_3
    refine S_getI (v := (G_3.1 1 9)) (C := RX6) (T := TX6) (N := 17) hx hb hg iX6 hown hK hW kd_1 rfl 9 (lt_b rfl) (hg (Cond.fieldLink RX11 95 "SlabWalk$Paving" "streets" "I") m187) (fun _ h9 => h9) rfl ((hq_14.i9 1 9 rfl rfl).trans ((congrFun (congrFun (gp_r eG_11).1 1) 9).trans ((congrFun (congrFun (gp_r eG_10).1 1) 9).trans (gp_ne eG_8 (by decide))))) dX11_pavement_53 ?_
    have g_18 : (G_13.1 0 11).toInt = 0 := (congrArg Int32.toInt (show G_13.1 0 11 = 0 from ((hq_14.i9 0 11 rfl rfl).trans ((congrFun (congrFun (gp_r eG_11).1 0) 11).trans ((congrFun (congrFun (gp_r eG_10).1 0) 11).trans (gp_eq eG_8)))))).trans rfl
    have b_19 : 0 ≤ (G_13.1 30 4).toInt ∧ (G_13.1 30 4).toInt ≤ 40 := bd_30_4 hB_G_13
    have b_20 : 0 ≤ (G_13.1 30 5).toInt ∧ (G_13.1 30 5).toInt ≤ 40 := bd_30_5 hB_G_13
    exact W.iret (v := (G_3.1 1 9)) hx hb hr (fun t ht _ => ⟨⟨(G_3.1 1 9), G_13, rfl, (P_Wpavement_2_mk ⟨hB_G_13, hF, (⟨by omega, by omega, Or.inr ⟨((hq_14.r9 0 0 rfl rfl).trans (gp_re eG_11)), ((hq_14.r9 0 1 rfl rfl).trans ((gp_rn eG_11 (by decide)).trans (gp_re eG_10))), hp_15.2⟩⟩), ⟨r_2, G_3, hX_6, (Or.inr ⟨c_9, ⟨G_11, hB_G_11, (Fr.putr (rs := []) (fs := [(0, 0), (0, 1), (0, 11)]) (Fr.putr (rs := []) (fs := [(0, 0), (0, 1), (0, 11)]) (Fr.put (rs := []) (fs := [(0, 0), (0, 1), (0, 11)]) Fr.rf eG_8 (Or.inr (by decide))) eG_10 (Or.inr (by decide))) eG_11 (Or.inr (by decide))), (gp_re eG_11), ((gp_rn eG_11 (by decide)).trans (gp_re eG_10)), ((congrFun (congrFun (gp_r eG_11).1 0) 11).trans ((congrFun (congrFun (gp_r eG_10).1 0) 11).trans (gp_eq eG_8))), ⟨G_13, hX_16, ⟨rfl, rfl⟩⟩⟩⟩)⟩⟩), wd_t ht hW⟩, hS.F ht⟩) hS.2.2 dX11_pavement_56
  · have c_9 : r_2.toInt = 0 := xI_eq rfl rfl c_9
    refine ic_m1 hx hb dX11_pavement_25 ?_
    have g_21 : (G_8.1 0 11).toInt = 0 := (congrArg Int32.toInt (show G_8.1 0 11 = 0 from (gp_eq eG_8))).trans rfl
    have b_22 : 0 ≤ (G.1 30 4).toInt ∧ (G.1 30 4).toInt ≤ 40 := bd_30_4 hB_G
    have g_23 : (G_8.1 30 4).toInt = (G.1 30 4).toInt := (congrArg Int32.toInt (show G_8.1 30 4 = (G.1 30 4) from ((gp_ne eG_8 (by decide)).trans (hq_4.i9 30 4 rfl rfl))))
    have b_24 : 0 ≤ (G.1 30 5).toInt ∧ (G.1 30 5).toInt ≤ 40 := bd_30_5 hB_G
    have g_25 : (G_8.1 30 5).toInt = (G.1 30 5).toInt := (congrArg Int32.toInt (show G_8.1 30 5 = (G.1 30 5) from ((gp_ne eG_8 (by decide)).trans (hq_4.i9 30 5 rfl rfl))))
    exact W.iret (v := (-1)) hx hb hr (fun t ht _ => ⟨⟨(-1), G_8, rfl, (P_Wpavement_2_mk ⟨hB_G_8, hF, (⟨by omega, by omega, Or.inl ⟨(((congrFun (congrFun (congrArg (fun q => q.2.2) eG_8) 0) 0).trans (hq_4.r9 0 0 rfl rfl))).trans hv_0_0, (((congrFun (congrFun (congrArg (fun q => q.2.2) eG_8) 0) 1).trans (hq_4.r9 0 1 rfl rfl))).trans hv_0_1, (((congrFun (congrFun (congrArg (fun q => q.2.2) eG_8) 6) 4).trans (hq_4.r9 6 4 rfl rfl))).trans hv_6_4⟩⟩), ⟨r_2, G_3, hX_6, (Or.inl ⟨c_9, ⟨rfl, (Fr.put (rs := []) (fs := [(0, 11)]) Fr.rf eG_8 (Or.inr (by decide))), (gp_eq eG_8)⟩⟩)⟩⟩), wd_t ht hW⟩, hS.F ht⟩) hS.2.2 dX11_pavement_26
