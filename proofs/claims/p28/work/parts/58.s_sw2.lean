

set_option maxHeartbeats 4000000 in
set_option maxRecDepth 100000 in
theorem k_wStart_2 (l : Launch) (D : va_G) (k : KT) (A : Nat → Prop) (a : Nat → Nat) (z : SK) (G : GS)  (hv_0_0 : G.2.2 0 0 = 2) : Met l yX11_startAnew (WS yX11_startAnew cX11_startAnew 1 none) ({ frames := 3, cells := 0, slots := 0, locals := 81 }) (va_Pc [.ref (a 0)] (cW D k A a z G)) (va_Qv (fun (G1 : GS) => P_wStart_2 G G1) (fun (G1 : GS) t => Wd D k A a G1 t.heap) A) 0 0 A := by
  refine Met.ofW (cc := cX11_startAnew) (maxL := 1) (ret := none) (by decide) rfl ?_
  intro p e s m args below meth c s₁ B hml hv
  obtain ⟨rfl, hW, hB_G, hK, hZ⟩ := hv
  have hx := B.exec
  have hb := B.bytes
  have hr := B.returns
  have hts := atoms_spec (ws := WS yX11_startAnew cX11_startAnew 1 none) B.pre
  have hgd : ∀ w ∈ gd, w ∈ WS yX11_startAnew cX11_startAnew 1 none := fun w h => List.mem_cons_of_mem _ h
  have hg : ∀ w ∈ gd, w.before _ s = true := fun w h => hts w (hgd w h)
  have hown : s.vm.findClass RX11 = some m.cls := findClass_of_methodNamed B.named
  have hS : va_S A s.heap s.heap [] := va_S.rf
  have hF : Fr [38, 58, 59] [(0, 12), (6, 4), (30, 3), (30, 4), (30, 5), (31, 5)] G G := Fr.rf
  have hl := lv_entry ([.ref (a 0)]) (n := 1) (Nat.le_of_ble_eq_true rfl)
  rw [lg_entry_eq]
  generalize (lg_sl ([.ref (a 0)]) ++ List.replicate (1 - (lg_sl ([.ref (a 0)])).length) Slot.unset).toArray = ls at hl ⊢
  have hl : lv_has ls 1 [(0, .ref (a 0))] := hl
  refine lv_aload_n hx hb dX11_startAnew_0 rfl (lv_at hl 0 rfl) ?_
  refine S_getR (n := 6) (C := RX11) (T := TX11) (N := 13) hx hb hg iX11 hown hK hW kd_0 rfl 4 (lt_b rfl) (hg (Cond.fieldLink RX11 37 "SlabWalk" "lines" "LSlabWalk$Lines;") m574) (fun _ h9 => h9) rfl dX11_startAnew_1 ?_
  refine lv_aload_n hx hb dX11_startAnew_4 rfl (lv_at hl 0 rfl) ?_
  refine S_getV (n := 2) (C := RX11) (T := TX11) (N := 13) hx hb hg iX11 hown hK hW kd_0 rfl 0 (lt_b rfl) (hg (Cond.fieldLink RX11 10 "SlabWalk" "paving" "LSlabWalk$Paving;") m570) (fun _ h9 => h9) rfl hv_0_0 dX11_startAnew_5 ?_
  refine S_callv (va_runV (As := [.ref (a 2)]) (rest := []) ⟨hx, hb, hml, hown, hts⟩ (k_lLookB_2 l D k A a z G  ) (cwV 1 hts (gd_V hgd m551 m552 m553 m122 m554) rfl rfl rfl hd_X3_lookAt ⟨Nat.le_of_ble_eq_true rfl, Nat.le_of_ble_eq_true rfl⟩) (pre_W hW hB_G hK hZ hS kd_6 rfl) rfl rfl hl.1 rfl (lv_room (Nat.le_of_ble_eq_true rfl)) dX11_startAnew_8 ⟨Nat.le_of_ble_eq_true rfl, Nat.le_of_ble_eq_true rfl⟩) hS (fun G_2 H locs hpo hW hS => ?_)
  have hX_5 : P_lLookB_2 G G_2 := hpo
  obtain ⟨hB_G_2, hq_3, hp_4, -⟩ := hpo
  have hF := hF.call9 hq_3 rfl rfl
  refine lv_aload_n hx hb dX11_startAnew_11 rfl (lv_at hl 0 rfl) ?_
  refine S_getR (n := 30) (C := RX11) (T := TX11) (N := 13) hx hb hg iX11 hown hK hW kd_0 rfl 8 (lt_b rfl) (hg (Cond.fieldLink RX11 65 "SlabWalk" "earnest" "LSlabWalk$Earnest;") m578) (fun _ h9 => h9) rfl dX11_startAnew_12 ?_
  refine lv_aload_n hx hb dX11_startAnew_15 rfl (lv_at hl 0 rfl) ?_
  refine S_getV (n := 2) (C := RX11) (T := TX11) (N := 13) hx hb hg iX11 hown hK hW kd_0 rfl 0 (lt_b rfl) (hg (Cond.fieldLink RX11 10 "SlabWalk" "paving" "LSlabWalk$Paving;") m570) (fun _ h9 => h9) rfl (((hq_3.r9 0 0 rfl rfl)).trans (hv_0_0)) dX11_startAnew_16 ?_
  have b_6 : 0 ≤ (G.1 2 16).toInt ∧ (G.1 2 16).toInt ≤ 999 := bd_2_16 hB_G
  refine S_getI (v := (G.1 2 16)) (C := RX6) (T := TX6) (N := 17) hx hb hg iX6 hown hK hW kd_2 rfl 16 (lt_b rfl) (hg (Cond.fieldLink RX11 323 "SlabWalk$Paving" "draw" "I") m209) (fun _ h9 => h9) rfl (hq_3.i9 2 16 rfl rfl) dX11_startAnew_19 ?_
  refine S_callv (va_runV (As := [.int (G.1 2 16)]) (rest := []) ⟨hx, hb, hml, hown, hts⟩ (k_eStart l D k A a z G_2 (G.1 2 16) ) (cwV 1 hts (gd_V hgd m558 m559 m560 m127 m561) rfl rfl rfl hd_X1_startAnew ⟨Nat.le_of_ble_eq_true rfl, Nat.le_of_ble_eq_true rfl⟩) (pre_W hW hB_G_2 hK hZ hS kd_30 rfl) rfl rfl hl.1 rfl (lv_room (Nat.le_of_ble_eq_true rfl)) dX11_startAnew_22 ⟨Nat.le_of_ble_eq_true rfl, Nat.le_of_ble_eq_true rfl⟩) hS (fun G_8 H locs hpo hW hS => ?_)
  have hX_11 : P_eStart (G.1 2 16) G_2 G_8 := hpo
  obtain ⟨hB_G_8, hq_9, hp_10, -⟩ := hpo
  have hF := hF.call9 hq_9 rfl rfl
  refine lv_aload_n hx hb dX11_startAnew_25 rfl (lv_at hl 0 rfl) ?_
  refine S_getR (n := 31) (C := RX11) (T := TX11) (N := 13) hx hb hg iX11 hown hK hW kd_0 rfl 9 (lt_b rfl) (hg (Cond.fieldLink RX11 72 "SlabWalk" "sights" "LSlabWalk$Sights;") m579) (fun _ h9 => h9) rfl dX11_startAnew_26 ?_
  refine ic_0 hx hb dX11_startAnew_29 ?_
  refine S_putI (ty := .int) (C := RX8) (T := TX8) (N := 7) hx hb hg iX8 tyX8 tyX8_ok nmX8 hown hK hW hS kd_31 rfl 5 (lt_b rfl) (hg (Cond.fieldLink RX11 285 "SlabWalk$Sights" "count" "I") m529) (fun _ h9 => h9) rfl (by decide +kernel) rfl rfl rfl dX11_startAnew_30 (fun G_12 H locs eG_12 hW hS => ?_)
  have hB_G_12 : Bd G_12 := hB_G_8.put (V := 0) (lo := 0) (hi := 20) eG_12 rfl rfl rfl (by decide) (by decide) (hB_G_8.2.put eG_12 rfl)
  have hF := hF.put eG_12 (Or.inr (by decide))
  refine lv_aload_n hx hb dX11_startAnew_33 rfl (lv_at hl 0 rfl) ?_
  refine ic_0 hx hb dX11_startAnew_34 ?_
  refine S_putI (ty := .int) (C := RX11) (T := TX11) (N := 13) hx hb hg iX11 tyX11 tyX11_ok nmX11 hown hK hW hS kd_0 rfl 12 (lt_b rfl) (hg (Cond.fieldLink RX11 150 "SlabWalk" "lie" "I") m582) (fun _ h9 => h9) rfl (by decide +kernel) rfl rfl rfl dX11_startAnew_35 (fun G_13 H locs eG_13 hW hS => ?_)
  have hB_G_13 : Bd G_13 := hB_G_12.put (V := 0) (lo := 0) (hi := 400) eG_13 rfl rfl rfl (by decide) (by decide) (hB_G_12.2.put eG_13 rfl)
  have hF := hF.put eG_13 (Or.inr (by decide))
  have b_14 : 0 ≤ (G_8.1 30 4).toInt ∧ (G_8.1 30 4).toInt ≤ 40 := bd_30_4 hB_G_8
  have g_15 : (G_13.1 30 4).toInt = (G_8.1 30 4).toInt := (congrArg Int32.toInt (show G_13.1 30 4 = (G_8.1 30 4) from ((gp_ne eG_13 (by decide)).trans (gp_ne eG_12 (by decide)))))
  have b_16 : 0 ≤ (G_8.1 30 5).toInt ∧ (G_8.1 30 5).toInt ≤ 40 := bd_30_5 hB_G_8
  have g_17 : (G_13.1 30 5).toInt = (G_8.1 30 5).toInt := (congrArg Int32.toInt (show G_13.1 30 5 = (G_8.1 30 5) from ((gp_ne eG_13 (by decide)).trans (gp_ne eG_12 (by decide)))))
  exact W.vret hx hb hr (fun t ht _ => ⟨⟨G_13, rfl, (P_wStart_2_mk ⟨hB_G_13, hF, (⟨by omega, (((congrFun (congrFun (congrArg (fun q => q.2.2) eG_13) 6) 4).trans ((congrFun (congrFun (congrArg (fun q => q.2.2) eG_12) 6) 4).trans (hq_9.r9 6 4 rfl rfl)))).trans hp_4⟩), ⟨G_2, hX_5, ⟨G_8, hX_11, ⟨(Fr.put (rs := []) (fs := [(0, 12), (31, 5)]) (Fr.put (rs := []) (fs := [(0, 12), (31, 5)]) Fr.rf eG_12 (Or.inr (by decide))) eG_13 (Or.inr (by decide))), (gp_eq eG_13), ((gp_ne eG_13 (by decide)).trans (gp_eq eG_12))⟩⟩⟩⟩), wd_t ht hW⟩, hS.F ht⟩) hS.2.2 dX11_startAnew_38

set_option maxHeartbeats 4000000 in
set_option maxRecDepth 100000 in
theorem k_wAsk_2 (l : Launch) (D : va_G) (k : KT) (A : Nat → Prop) (a : Nat → Nat) (z : SK) (G : GS) (p0 : Int32) (p1 : Int32) (p2 : Int32) (hv_0_0 : G.2.2 0 0 = 2) (hv_0_1 : G.2.2 0 1 = 1) (hv_6_4 : G.2.2 6 4 = 2) : Met l yX11_canAsk (WS yX11_canAsk cX11_canAsk 4 (some .boolean)) ({ frames := 1, cells := 0, slots := 0, locals := 21 }) (va_Pc [.ref (a 0), .int p0, .int p1, .int p2] (cW D k A a z G)) (va_Qi (fun (r : Int32) (G1 : GS) => P_wAsk_2 p0 p1 p2 G r G1) (fun (G1 : GS) t => Wd D k A a G1 t.heap) A) 0 0 A := by
  refine Met.ofW (cc := cX11_canAsk) (maxL := 4) (ret := (some .boolean)) (by decide) rfl ?_
  intro p e s m args below meth c s₁ B hml hv
  obtain ⟨rfl, hW, hB_G, hK, hZ⟩ := hv
  have hx := B.exec
  have hb := B.bytes
  have hr := B.returns
  have hts := atoms_spec (ws := WS yX11_canAsk cX11_canAsk 4 (some .boolean)) B.pre
  have hgd : ∀ w ∈ gd, w ∈ WS yX11_canAsk cX11_canAsk 4 (some .boolean) := fun w h => List.mem_cons_of_mem _ h
  have hg : ∀ w ∈ gd, w.before _ s = true := fun w h => hts w (hgd w h)
  have hown : s.vm.findClass RX11 = some m.cls := findClass_of_methodNamed B.named
  have hS : va_S A s.heap s.heap [] := va_S.rf
  have hF : Fr [] [] G G := Fr.rf
  have hl := lv_entry ([.ref (a 0), .int p0, .int p1, .int p2]) (n := 4) (Nat.le_of_ble_eq_true rfl)
  rw [lg_entry_eq]
  generalize (lg_sl ([.ref (a 0), .int p0, .int p1, .int p2]) ++ List.replicate (4 - (lg_sl ([.ref (a 0), .int p0, .int p1, .int p2])).length) Slot.unset).toArray = ls at hl ⊢
  have hl : lv_has ls 4 [(0, .ref (a 0)), (1, .int p0), (2, .int p1), (3, .int p2)] := hl
  refine lv_aload_n hx hb dX11_canAsk_0 rfl (lv_at hl 0 rfl) ?_
  refine S_getV (n := 2) (C := RX11) (T := TX11) (N := 13) hx hb hg iX11 hown hK hW kd_0 rfl 0 (lt_b rfl) (hg (Cond.fieldLink RX11 10 "SlabWalk" "paving" "LSlabWalk$Paving;") m570) (fun _ h9 => h9) rfl hv_0_0 dX11_canAsk_1 ?_
  refine lv_iload_n hx hb dX11_canAsk_4 rfl (lv_at hl 1 rfl) ?_
  refine S_calli (va_runV (As := [.int p0]) (rest := []) ⟨hx, hb, hml, hown, hts⟩ (k_hasWalker_2 l D k A a z G p0 ) (cwV 1 hts (gd_V hgd m957 m958 m959 m118 m960) rfl rfl rfl hd_X6_hasWalker ⟨Nat.le_of_ble_eq_true rfl, Nat.le_of_ble_eq_true rfl⟩) (pre_W hW hB_G hK hZ hS kd_2 rfl) rfl rfl hl.1 rfl (lv_room (Nat.le_of_ble_eq_true rfl)) dX11_canAsk_5 ⟨Nat.le_of_ble_eq_true rfl, Nat.le_of_ble_eq_true rfl⟩) hS (fun r_1 G_2 H locs hpo hW hS => ?_)
  have hX_5 : P_hasWalker_2 p0 G r_1 G_2 := hpo
  obtain ⟨hB_G_2, hq_3, f_6, hp_4, -⟩ := hpo
  have hF := hF.call9 hq_3 rfl rfl
  refine lv_if_eq (tgt := 37) hx hb dX11_canAsk_8 rfl (fun c_7 => ?_) (fun c_7 => ?_)
  · have c_7 : r_1.toInt = 0 := xI_eq rfl rfl c_7
    refine ic_0 hx hb dX11_canAsk_37 ?_
    exact W.zret (v := 0) hx hb hr (by decide) (fun t ht _ => ⟨⟨0, G_2, rfl, (P_wAsk_2_mk ⟨hB_G_2, hF, ⟨by decide, by decide⟩, (by have hq : (0 : Int32).toInt = 0 := rfl; (try dsimp only); omega), ⟨r_1, G_2, hX_5, (Or.inl ⟨c_7, ⟨rfl, rfl⟩⟩)⟩⟩), wd_t ht hW⟩, hS.F ht⟩) hS.2.2 dX11_canAsk_38
  · have c_7 : r_1.toInt ≠ 0 := xI_ne rfl rfl c_7
    refine lv_aload_n hx hb dX11_canAsk_11 rfl (lv_at hl 0 rfl) ?_
    refine S_getV (n := 2) (C := RX11) (T := TX11) (N := 13) hx hb hg iX11 hown hK hW kd_0 rfl 0 (lt_b rfl) (hg (Cond.fieldLink RX11 10 "SlabWalk" "paving" "LSlabWalk$Paving;") m570) (fun _ h9 => h9) rfl (((hq_3.r9 0 0 rfl rfl)).trans (hv_0_0)) dX11_canAsk_12 ?_
    refine lv_iload_n hx hb dX11_canAsk_15 rfl (lv_at hl 2 rfl) ?_
    have b_8 : 0 ≤ (G.1 2 9).toInt ∧ (G.1 2 9).toInt ≤ 3 := bd_2_9 hB_G
    have g_9 : (G_2.1 2 9).toInt = (G.1 2 9).toInt := (congrArg Int32.toInt (show G_2.1 2 9 = (G.1 2 9) from (hq_3.i9 2 9 rfl rfl)))
    refine S_calli (va_runV (As := [.int p1]) (rest := []) ⟨hx, hb, hml, hown, hts⟩ (k_hasStreet_2 l D k A a z G_2 p1 ) (cwV 1 hts (gd_V hgd m902 m887 m888 m118 m889) rfl rfl rfl hd_X6_hasStreet ⟨Nat.le_of_ble_eq_true rfl, Nat.le_of_ble_eq_true rfl⟩) (pre_W hW hB_G_2 hK hZ hS kd_2 rfl) rfl rfl hl.1 rfl (lv_room (Nat.le_of_ble_eq_true rfl)) dX11_canAsk_16 ⟨Nat.le_of_ble_eq_true rfl, Nat.le_of_ble_eq_true rfl⟩) hS (fun r_10 G_11 H locs hpo hW hS => ?_)
    have hX_14 : P_hasStreet_2 p1 G_2 r_10 G_11 := hpo
    obtain ⟨hB_G_11, hq_12, f_15, hp_13, -⟩ := hpo
    have hF := hF.call9 hq_12 rfl rfl
    refine lv_if_eq (tgt := 37) hx hb dX11_canAsk_19 rfl (fun c_16 => ?_) (fun c_16 => ?_)
    · have c_16 : r_10.toInt = 0 := xI_eq rfl rfl c_16
      refine ic_0 hx hb dX11_canAsk_37 ?_
      exact W.zret (v := 0) hx hb hr (by decide) (fun t ht _ => ⟨⟨0, G_11, rfl, (P_wAsk_2_mk ⟨hB_G_11, hF, ⟨by decide, by decide⟩, (by have hq : (0 : Int32).toInt = 0 := rfl; (try dsimp only); omega), ⟨r_1, G_2, hX_5, (Or.inr ⟨c_7, ⟨r_10, G_11, hX_14, (Or.inl ⟨c_16, ⟨rfl, rfl⟩⟩)⟩⟩)⟩⟩), wd_t ht hW⟩, hS.F ht⟩) hS.2.2 dX11_canAsk_38
    · have c_16 : r_10.toInt ≠ 0 := xI_ne rfl rfl c_16
      refine lv_aload_n hx hb dX11_canAsk_22 rfl (lv_at hl 0 rfl) ?_
      refine S_getV (n := 2) (C := RX11) (T := TX11) (N := 13) hx hb hg iX11 hown hK hW kd_0 rfl 0 (lt_b rfl) (hg (Cond.fieldLink RX11 10 "SlabWalk" "paving" "LSlabWalk$Paving;") m570) (fun _ h9 => h9) rfl ((((hq_12.r9 0 0 rfl rfl).trans (hq_3.r9 0 0 rfl rfl))).trans (hv_0_0)) dX11_canAsk_23 ?_
      refine lv_iload_n hx hb dX11_canAsk_26 rfl (lv_at hl 3 rfl) ?_
      refine S_calli (va_runV (As := [.int p2]) (rest := []) ⟨hx, hb, hml, hown, hts⟩ (k_hasSet_2 l D k A a z G_11 p2 ) (cwV 1 hts (gd_V hgd m907 m908 m909 m118 m910) rfl rfl rfl hd_X6_hasSet ⟨Nat.le_of_ble_eq_true rfl, Nat.le_of_ble_eq_true rfl⟩) (pre_W hW hB_G_11 hK hZ hS kd_2 rfl) rfl rfl hl.1 rfl (lv_room (Nat.le_of_ble_eq_true rfl)) dX11_canAsk_27 ⟨Nat.le_of_ble_eq_true rfl, Nat.le_of_ble_eq_true rfl⟩) hS (fun r_17 G_18 H locs hpo hW hS => ?_)
      have hX_21 : P_hasSet_2 p2 G_11 r_17 G_18 := hpo
      obtain ⟨hB_G_18, hq_19, f_22, hp_20, -⟩ := hpo
      have hF := hF.call9 hq_19 rfl rfl
      refine lv_if_eq (tgt := 37) hx hb dX11_canAsk_30 rfl (fun c_23 => ?_) (fun c_23 => ?_)
      · have c_23 : r_17.toInt = 0 := xI_eq rfl rfl c_23
        refine ic_0 hx hb dX11_canAsk_37 ?_
        exact W.zret (v := 0) hx hb hr (by decide) (fun t ht _ => ⟨⟨0, G_18, rfl, (P_wAsk_2_mk ⟨hB_G_18, hF, ⟨by decide, by decide⟩, (by have hq : (0 : Int32).toInt = 0 := rfl; (try dsimp only); omega), ⟨r_1, G_2, hX_5, (Or.inr ⟨c_7, ⟨r_10, G_11, hX_14, (Or.inr ⟨c_16, ⟨r_17, G_18, hX_21, (Or.inl ⟨c_23, ⟨rfl, rfl⟩⟩)⟩⟩)⟩⟩)⟩⟩), wd_t ht hW⟩, hS.F ht⟩) hS.2.2 dX11_canAsk_38
      · have c_23 : r_17.toInt ≠ 0 := xI_ne rfl rfl c_23
        refine ic_1 hx hb dX11_canAsk_33 ?_
        refine lv_goto (tgt := 38) hx hb dX11_canAsk_34 rfl ?_
        exact W.zret (v := 1) hx hb hr (by decide) (fun t ht _ => ⟨⟨1, G_18, rfl, (P_wAsk_2_mk ⟨hB_G_18, hF, ⟨by decide, by decide⟩, (by have hq : (1 : Int32).toInt = 1 := rfl; (try dsimp only); omega), ⟨r_1, G_2, hX_5, (Or.inr ⟨c_7, ⟨r_10, G_11, hX_14, (Or.inr ⟨c_16, ⟨r_17, G_18, hX_21, (Or.inr ⟨c_23, ⟨rfl, rfl⟩⟩)⟩⟩)⟩⟩)⟩⟩), wd_t ht hW⟩, hS.F ht⟩) hS.2.2 dX11_canAsk_38

set_option maxHeartbeats 4000000 in
set_option maxRecDepth 100000 in
theorem k_wBrave_2 (l : Launch) (D : va_G) (k : KT) (A : Nat → Prop) (a : Nat → Nat) (z : SK) (G : GS) (p0 : Int32) (p1 : Int32) (p2 : Int32) (p3 : Int32) (p4 : Int32) (hv_0_0 : G.2.2 0 0 = 2) (hv_0_1 : G.2.2 0 1 = 1) (hv_6_4 : G.2.2 6 4 = 2) : Met l yX11_canBeBrave (WS yX11_canBeBrave cX11_canBeBrave 6 (some .boolean)) ({ frames := 2, cells := 0, slots := 0, locals := 44 }) (va_Pc [.ref (a 0), .int p0, .int p1, .int p2, .int p3, .int p4] (cW D k A a z G)) (va_Qi (fun (r : Int32) (G1 : GS) => P_wBrave_2 p0 p1 p2 p3 p4 G r G1) (fun (G1 : GS) t => Wd D k A a G1 t.heap) A) 0 0 A := by
  refine Met.ofW (cc := cX11_canBeBrave) (maxL := 6) (ret := (some .boolean)) (by decide) rfl ?_
  intro p e s m args below meth c s₁ B hml hv
  obtain ⟨rfl, hW, hB_G, hK, hZ⟩ := hv
  have hx := B.exec
  have hb := B.bytes
  have hr := B.returns
  have hts := atoms_spec (ws := WS yX11_canBeBrave cX11_canBeBrave 6 (some .boolean)) B.pre
  have hgd : ∀ w ∈ gd, w ∈ WS yX11_canBeBrave cX11_canBeBrave 6 (some .boolean) := fun w h => List.mem_cons_of_mem _ h
  have hg : ∀ w ∈ gd, w.before _ s = true := fun w h => hts w (hgd w h)
  have hown : s.vm.findClass RX11 = some m.cls := findClass_of_methodNamed B.named
  have hS : va_S A s.heap s.heap [] := va_S.rf
  have hF : Fr [] [] G G := Fr.rf
  have hl := lv_entry ([.ref (a 0), .int p0, .int p1, .int p2, .int p3, .int p4]) (n := 6) (Nat.le_of_ble_eq_true rfl)
  rw [lg_entry_eq]
  generalize (lg_sl ([.ref (a 0), .int p0, .int p1, .int p2, .int p3, .int p4]) ++ List.replicate (6 - (lg_sl ([.ref (a 0), .int p0, .int p1, .int p2, .int p3, .int p4])).length) Slot.unset).toArray = ls at hl ⊢
  have hl : lv_has ls 6 [(0, .ref (a 0)), (1, .int p0), (2, .int p1), (3, .int p2), (4, .int p3), (5, .int p4)] := hl
  refine lv_aload_n hx hb dX11_canBeBrave_0 rfl (lv_at hl 0 rfl) ?_
  refine lv_iload_n hx hb dX11_canBeBrave_1 rfl (lv_at hl 1 rfl) ?_
  refine lv_iload_n hx hb dX11_canBeBrave_2 rfl (lv_at hl 2 rfl) ?_
  refine lv_iload_n hx hb dX11_canBeBrave_3 rfl (lv_at hl 3 rfl) ?_
  refine S_calli (va_runV (As := [.int p0, .int p1, .int p2]) (rest := []) ⟨hx, hb, hml, hown, hts⟩ (k_wAsk_2 l D k A a z G p0 p1 p2 hv_0_0 hv_0_1 hv_6_4) (cwV 3 hts (gd_V hgd m953 m955 m31 m117 m956) rfl rfl rfl hd_X11_canAsk ⟨Nat.le_of_ble_eq_true rfl, Nat.le_of_ble_eq_true rfl⟩) (pre_W hW hB_G hK hZ hS kd_0 rfl) rfl rfl hl.1 rfl (lv_room (Nat.le_of_ble_eq_true rfl)) dX11_canBeBrave_4 ⟨Nat.le_of_ble_eq_true rfl, Nat.le_of_ble_eq_true rfl⟩) hS (fun r_1 G_2 H locs hpo hW hS => ?_)
  have hX_5 : P_wAsk_2 p0 p1 p2 G r_1 G_2 := hpo
  obtain ⟨hB_G_2, hq_3, f_6, hp_4, -⟩ := hpo
  have hF := hF.call9 hq_3 rfl rfl
  refine lv_if_eq (tgt := 41) hx hb dX11_canBeBrave_7 rfl (fun c_7 => ?_) (fun c_7 => ?_)
  · have c_7 : r_1.toInt = 0 := xI_eq rfl rfl c_7
    refine ic_0 hx hb dX11_canBeBrave_41 ?_
    exact W.zret (v := 0) hx hb hr (by decide) (fun t ht _ => ⟨⟨0, G_2, rfl, (P_wBrave_2_mk ⟨hB_G_2, hF, ⟨by decide, by decide⟩, (by have hq : (0 : Int32).toInt = 0 := rfl; (try dsimp only); omega), ⟨r_1, G_2, hX_5, (Or.inl ⟨c_7, ⟨rfl, rfl⟩⟩)⟩⟩), wd_t ht hW⟩, hS.F ht⟩) hS.2.2 dX11_canBeBrave_42
  · have c_7 : r_1.toInt ≠ 0 := xI_ne rfl rfl c_7
    refine lv_aload_n hx hb dX11_canBeBrave_10 rfl (lv_at hl 0 rfl) ?_
    refine S_getV (n := 2) (C := RX11) (T := TX11) (N := 13) hx hb hg iX11 hown hK hW kd_0 rfl 0 (lt_b rfl) (hg (Cond.fieldLink RX11 10 "SlabWalk" "paving" "LSlabWalk$Paving;") m570) (fun _ h9 => h9) rfl (((hq_3.r9 0 0 rfl rfl)).trans (hv_0_0)) dX11_canBeBrave_11 ?_
    refine lv_iload_n hx hb dX11_canBeBrave_14 rfl (lv_at hl 1 rfl) ?_
    refine lv_iload_n hx hb dX11_canBeBrave_15 rfl (lv_at hl 2 rfl) ?_
    refine lv_iload hx hb dX11_canBeBrave_16 (lv_at hl 4 rfl) ?_
    have b_8 : 0 ≤ (G.1 2 10).toInt ∧ (G.1 2 10).toInt ≤ 4 := bd_2_10 hB_G
    have g_9 : (G_2.1 2 10).toInt = (G.1 2 10).toInt := (congrArg Int32.toInt (show G_2.1 2 10 = (G.1 2 10) from (hq_3.i9 2 10 rfl rfl)))
    refine S_calli (va_runV (As := [.int p0, .int p1, .int p3]) (rest := []) ⟨hx, hb, hml, hown, hts⟩ (k_stands_2 l D k A a z G_2 p0 p1 p3 ) (cwV 3 hts (gd_V hgd m1121 m966 m967 m118 m968) rfl rfl rfl hd_X6_stands ⟨Nat.le_of_ble_eq_true rfl, Nat.le_of_ble_eq_true rfl⟩) (pre_W hW hB_G_2 hK hZ hS kd_2 rfl) rfl rfl hl.1 rfl (lv_room (Nat.le_of_ble_eq_true rfl)) dX11_canBeBrave_18 ⟨Nat.le_of_ble_eq_true rfl, Nat.le_of_ble_eq_true rfl⟩) hS (fun r_10 G_11 H locs hpo hW hS => ?_)
    have hX_14 : P_stands_2 p0 p1 p3 G_2 r_10 G_11 := hpo
    obtain ⟨hB_G_11, hq_12, f_15, hp_13, -⟩ := hpo
    have hF := hF.call9 hq_12 rfl rfl
    refine lv_if_eq (tgt := 41) hx hb dX11_canBeBrave_21 rfl (fun c_16 => ?_) (fun c_16 => ?_)
    · have c_16 : r_10.toInt = 0 := xI_eq rfl rfl c_16
      refine ic_0 hx hb dX11_canBeBrave_41 ?_
      exact W.zret (v := 0) hx hb hr (by decide) (fun t ht _ => ⟨⟨0, G_11, rfl, (P_wBrave_2_mk ⟨hB_G_11, hF, ⟨by decide, by decide⟩, (by have hq : (0 : Int32).toInt = 0 := rfl; (try dsimp only); omega), ⟨r_1, G_2, hX_5, (Or.inr ⟨c_7, ⟨r_10, G_11, hX_14, (Or.inl ⟨c_16, ⟨rfl, rfl⟩⟩)⟩⟩)⟩⟩), wd_t ht hW⟩, hS.F ht⟩) hS.2.2 dX11_canBeBrave_42
    · have c_16 : r_10.toInt ≠ 0 := xI_ne rfl rfl c_16
      refine lv_iload hx hb dX11_canBeBrave_24 (lv_at hl 5 rfl) ?_
      refine ic_1 hx hb dX11_canBeBrave_26 ?_
      refine lv_icmp_lt (tgt := 41) hx hb dX11_canBeBrave_27 rfl (fun c_17 => ?_) (fun c_17 => ?_)
      · have c_17 : p4.toInt < 1 := xI_lt rfl rfl c_17
        refine ic_0 hx hb dX11_canBeBrave_41 ?_
        exact W.zret (v := 0) hx hb hr (by decide) (fun t ht _ => ⟨⟨0, G_11, rfl, (P_wBrave_2_mk ⟨hB_G_11, hF, ⟨by decide, by decide⟩, (by have hq : (0 : Int32).toInt = 0 := rfl; (try dsimp only); omega), ⟨r_1, G_2, hX_5, (Or.inr ⟨c_7, ⟨r_10, G_11, hX_14, (Or.inr ⟨c_16, (Or.inl ⟨c_17, ⟨rfl, rfl⟩⟩)⟩)⟩⟩)⟩⟩), wd_t ht hW⟩, hS.F ht⟩) hS.2.2 dX11_canBeBrave_42
      · have c_17 : 1 ≤ p4.toInt := xI_nlt rfl rfl c_17
        refine lv_iload hx hb dX11_canBeBrave_30 (lv_at hl 5 rfl) ?_
        refine lv_bipush (v := 8) hx hb dX11_canBeBrave_32 (by decide) ?_
        refine lv_icmp_gt (tgt := 41) hx hb dX11_canBeBrave_34 rfl (fun c_18 => ?_) (fun c_18 => ?_)
        · have c_18 : 8 < p4.toInt := xI_lt rfl rfl c_18
          refine ic_0 hx hb dX11_canBeBrave_41 ?_
          exact W.zret (v := 0) hx hb hr (by decide) (fun t ht _ => ⟨⟨0, G_11, rfl, (P_wBrave_2_mk ⟨hB_G_11, hF, ⟨by decide, by decide⟩, (by have hq : (0 : Int32).toInt = 0 := rfl; (try dsimp only); omega), ⟨r_1, G_2, hX_5, (Or.inr ⟨c_7, ⟨r_10, G_11, hX_14, (Or.inr ⟨c_16, (Or.inr ⟨c_17, (Or.inl ⟨c_18, ⟨rfl, rfl⟩⟩)⟩)⟩)⟩⟩)⟩⟩), wd_t ht hW⟩, hS.F ht⟩) hS.2.2 dX11_canBeBrave_42
        · have c_18 : p4.toInt ≤ 8 := xI_nlt rfl rfl c_18
          refine ic_1 hx hb dX11_canBeBrave_37 ?_
          refine lv_goto (tgt := 42) hx hb dX11_canBeBrave_38 rfl ?_
          exact W.zret (v := 1) hx hb hr (by decide) (fun t ht _ => ⟨⟨1, G_11, rfl, (P_wBrave_2_mk ⟨hB_G_11, hF, ⟨by decide, by decide⟩, (by have hq : (1 : Int32).toInt = 1 := rfl; (try dsimp only); omega), ⟨r_1, G_2, hX_5, (Or.inr ⟨c_7, ⟨r_10, G_11, hX_14, (Or.inr ⟨c_16, (Or.inr ⟨c_17, (Or.inr ⟨c_18, ⟨rfl, rfl⟩⟩)⟩)⟩)⟩⟩)⟩⟩), wd_t ht hW⟩, hS.F ht⟩) hS.2.2 dX11_canBeBrave_42

set_option maxHeartbeats 4000000 in
set_option maxRecDepth 100000 in
theorem k_wGo_2 (l : Launch) (D : va_G) (k : KT) (A : Nat → Prop) (a : Nat → Nat) (z : SK) (G : GS) (p0 : Int32) (hv_0_0 : G.2.2 0 0 = 2) (hv_0_1 : G.2.2 0 1 = 1) (hv_6_4 : G.2.2 6 4 = 2) : Met l yX11_canGo (WS yX11_canGo cX11_canGo 4 (some .boolean)) ({ frames := 1, cells := 0, slots := 0, locals := 21 }) (va_Pc [.ref (a 0), .int p0] (cW D k A a z G)) (va_Qi (fun (r : Int32) (G1 : GS) => P_wGo_2 p0 G r G1) (fun (G1 : GS) t => Wd D k A a G1 t.heap) A) 0 0 A := by
  refine Met.ofW (cc := cX11_canGo) (maxL := 4) (ret := (some .boolean)) (by decide) rfl ?_
  intro p e s m args below meth c s₁ B hml hv
  obtain ⟨rfl, hW, hB_G, hK, hZ⟩ := hv
  have hx := B.exec
  have hb := B.bytes
  have hr := B.returns
  have hts := atoms_spec (ws := WS yX11_canGo cX11_canGo 4 (some .boolean)) B.pre
  have hgd : ∀ w ∈ gd, w ∈ WS yX11_canGo cX11_canGo 4 (some .boolean) := fun w h => List.mem_cons_of_mem _ h
  have hg : ∀ w ∈ gd, w.before _ s = true := fun w h => hts w (hgd w h)
  have hown : s.vm.findClass RX11 = some m.cls := findClass_of_methodNamed B.named
  have hS : va_S A s.heap s.heap [] := va_S.rf
  have hF : Fr [] [] G G := Fr.rf
  have hl := lv_entry ([.ref (a 0), .int p0]) (n := 4) (Nat.le_of_ble_eq_true rfl)
  rw [lg_entry_eq]
  generalize (lg_sl ([.ref (a 0), .int p0]) ++ List.replicate (4 - (lg_sl ([.ref (a 0), .int p0])).length) Slot.unset).toArray = ls at hl ⊢
  have hl : lv_has ls 4 [(0, .ref (a 0)), (1, .int p0)] := hl
  refine lv_aload_n hx hb dX11_canGo_0 rfl (lv_at hl 0 rfl) ?_
  refine S_getR (n := 30) (C := RX11) (T := TX11) (N := 13) hx hb hg iX11 hown hK hW kd_0 rfl 8 (lt_b rfl) (hg (Cond.fieldLink RX11 65 "SlabWalk" "earnest" "LSlabWalk$Earnest;") m578) (fun _ h9 => h9) rfl dX11_canGo_1 ?_
  refine S_getR (n := 58) (C := RX1) (T := TX1) (N := 6) hx hb hg iX1 hown hK hW kd_30 rfl 0 (lt_b rfl) (hg (Cond.fieldLink RX11 246 "SlabWalk$Earnest" "now" "[I") m493) (fun _ h9 => h9) rfl dX11_canGo_4 ?_
  refine ic_0 hx hb dX11_canGo_7 ?_
  refine S_iald hx hb hK hW kd_58 (vin (by decide) (by decide)) dX11_canGo_8 (fun y_1 ey_1 => ?_)
  have u_2 : y_1.toInt = (G.1 58 0).toInt := congrArg Int32.toInt (ey_1)
  refine lv_istore_n (lv' := [(2, .int y_1), (0, .ref (a 0)), (1, .int p0)]) hx hb dX11_canGo_9 rfl hl (lt_b rfl) rfl (fun ls hl => ?_)
  refine lv_aload_n hx hb dX11_canGo_10 rfl (lv_at hl 1 rfl) ?_
  refine S_getV (n := 2) (C := RX11) (T := TX11) (N := 13) hx hb hg iX11 hown hK hW kd_0 rfl 0 (lt_b rfl) (hg (Cond.fieldLink RX11 10 "SlabWalk" "paving" "LSlabWalk$Paving;") m570) (fun _ h9 => h9) rfl hv_0_0 dX11_canGo_11 ?_
  refine lv_iload_n hx hb dX11_canGo_14 rfl (lv_at hl 0 rfl) ?_
  refine S_calli (va_runV (As := [.int y_1]) (rest := []) ⟨hx, hb, hml, hown, hts⟩ (k_hasWalker_2 l D k A a z G y_1 ) (cwV 1 hts (gd_V hgd m957 m958 m959 m118 m960) rfl rfl rfl hd_X6_hasWalker ⟨Nat.le_of_ble_eq_true rfl, Nat.le_of_ble_eq_true rfl⟩) (pre_W hW hB_G hK hZ hS kd_2 rfl) rfl rfl hl.1 rfl (lv_room (Nat.le_of_ble_eq_true rfl)) dX11_canGo_15 ⟨Nat.le_of_ble_eq_true rfl, Nat.le_of_ble_eq_true rfl⟩) hS (fun r_3 G_4 H locs hpo hW hS => ?_)
  have hX_7 : P_hasWalker_2 y_1 G r_3 G_4 := hpo
  obtain ⟨hB_G_4, hq_5, f_8, hp_6, -⟩ := hpo
  have hF := hF.call9 hq_5 rfl rfl
  refine lv_if_eq (tgt := 47) hx hb dX11_canGo_18 rfl (fun c_9 => ?_) (fun c_9 => ?_)
  · have c_9 : r_3.toInt = 0 := xI_eq rfl rfl c_9
    refine ic_0 hx hb dX11_canGo_47 ?_
    exact W.zret (v := 0) hx hb hr (by decide) (fun t ht _ => ⟨⟨0, G_4, rfl, (P_wGo_2_mk ⟨hB_G_4, hF, ⟨by decide, by decide⟩, (by have hq : (0 : Int32).toInt = 0 := rfl; (try dsimp only); omega), ⟨y_1, ey_1, ⟨r_3, G_4, hX_7, (Or.inl ⟨c_9, ⟨rfl, rfl⟩⟩)⟩⟩⟩), wd_t ht hW⟩, hS.F ht⟩) hS.2.2 dX11_canGo_48
  · have c_9 : r_3.toInt ≠ 0 := xI_ne rfl rfl c_9
    refine lv_aload_n hx hb dX11_canGo_21 rfl (lv_at hl 1 rfl) ?_
    refine S_getR (n := 30) (C := RX11) (T := TX11) (N := 13) hx hb hg iX11 hown hK hW kd_0 rfl 8 (lt_b rfl) (hg (Cond.fieldLink RX11 65 "SlabWalk" "earnest" "LSlabWalk$Earnest;") m578) (fun _ h9 => h9) rfl dX11_canGo_22 ?_
    refine S_getR (n := 58) (C := RX1) (T := TX1) (N := 6) hx hb hg iX1 hown hK hW kd_30 rfl 0 (lt_b rfl) (hg (Cond.fieldLink RX11 246 "SlabWalk$Earnest" "now" "[I") m493) (fun _ h9 => h9) rfl dX11_canGo_25 ?_
    refine ic_4 hx hb dX11_canGo_28 ?_
    refine S_iald hx hb hK hW kd_58 (vin (by decide) (by decide)) dX11_canGo_29 (fun y_10 ey_10 => ?_)
    refine ic_1 hx hb dX11_canGo_30 ?_
    refine lv_icmp_ne (tgt := 47) hx hb dX11_canGo_31 rfl (fun c_11 => ?_) (fun c_11 => ?_)
    · have c_11 : y_10.toInt ≠ 1 := xI_ne rfl rfl c_11
      refine ic_0 hx hb dX11_canGo_47 ?_
      exact W.zret (v := 0) hx hb hr (by decide) (fun t ht _ => ⟨⟨0, G_4, rfl, (P_wGo_2_mk ⟨hB_G_4, hF, ⟨by decide, by decide⟩, (by have hq : (0 : Int32).toInt = 0 := rfl; (try dsimp only); omega), ⟨y_1, ey_1, ⟨r_3, G_4, hX_7, (Or.inr ⟨c_9, ⟨y_10, ey_10, (Or.inr ⟨c_11, ⟨rfl, rfl⟩⟩)⟩⟩)⟩⟩⟩), wd_t ht hW⟩, hS.F ht⟩) hS.2.2 dX11_canGo_48
    · have c_11 : y_10.toInt = 1 := xI_eq rfl rfl c_11
      refine lv_iload_n hx hb dX11_canGo_34 rfl (lv_at hl 2 rfl) ?_
      refine lv_aload_n hx hb dX11_canGo_35 rfl (lv_at hl 1 rfl) ?_
      refine S_getV (n := 2) (C := RX11) (T := TX11) (N := 13) hx hb hg iX11 hown hK hW kd_0 rfl 0 (lt_b rfl) (hg (Cond.fieldLink RX11 10 "SlabWalk" "paving" "LSlabWalk$Paving;") m570) (fun _ h9 => h9) rfl (((hq_5.r9 0 0 rfl rfl)).trans (hv_0_0)) dX11_canGo_36 ?_
      refine S_getR (n := 23) (C := RX6) (T := TX6) (N := 17) hx hb hg iX6 hown hK hW kd_2 rfl 3 (lt_b rfl) (hg (Cond.fieldLink RX11 331 "SlabWalk$Paving" "least" "[I") m169) (fun _ h9 => h9) rfl dX11_canGo_39 ?_
      refine lv_iload_n hx hb dX11_canGo_42 rfl (lv_at hl 0 rfl) ?_
      refine S_iald hx hb hK hW kd_23 (vin ((by first | exact ok_5 f_8.1 f_8.2 hp_6 c_9 | omega)) ((by first | exact ok_6 f_8.1 f_8.2 hp_6 c_9 | omega))) dX11_canGo_43 (fun y_12 ey_12 => ?_)
      have ty_12 : 0 ≤ y_12.toInt ∧ y_12.toInt ≤ 60 := bv_23 hB_G_4 ey_12
      refine lv_icmp_ge (tgt := 49) hx hb dX11_canGo_44 rfl (fun c_13 => ?_) (fun c_13 => ?_)
      · have c_13 : y_12.toInt ≤ p0.toInt := xI_le rfl rfl c_13
        refine lv_aload_n hx hb dX11_canGo_49 rfl (lv_at hl 1 rfl) ?_
        refine S_getR (n := 30) (C := RX11) (T := TX11) (N := 13) hx hb hg iX11 hown hK hW kd_0 rfl 8 (lt_b rfl) (hg (Cond.fieldLink RX11 65 "SlabWalk" "earnest" "LSlabWalk$Earnest;") m578) (fun _ h9 => h9) rfl dX11_canGo_50 ?_
        refine S_getR (n := 58) (C := RX1) (T := TX1) (N := 6) hx hb hg iX1 hown hK hW kd_30 rfl 0 (lt_b rfl) (hg (Cond.fieldLink RX11 246 "SlabWalk$Earnest" "now" "[I") m493) (fun _ h9 => h9) rfl dX11_canGo_53 ?_
        refine ic_5 hx hb dX11_canGo_56 ?_
        refine S_iald hx hb hK hW kd_58 (vin (by decide) (by decide)) dX11_canGo_57 (fun y_14 ey_14 => ?_)
        refine ic_1 hx hb dX11_canGo_58 ?_
        refine W.cut (σ := Int32) (pcJ := 67) (J := fun y H locs ls => ∃ (G_19 : GS), (0 ≤ y.toInt ∧ y.toInt ≤ 1) ∧ Jn_k_wGo_2_1 y_14 G_4 y G_19 ∧ Wd D k A a G_19 H ∧ Bd G_19 ∧ Fr [] [] G G_19 ∧ Fr [] [] G_4 G_19 ∧ va_S A s.heap H locs ∧ lv_has ls 4 [(2, .int y_1), (0, .ref (a 0)), (1, .int p0)]) (stJ := fun y => [.int y]) ?_ (fun hJ_20 => ?_)
        · intro y H locs ls hI
          obtain ⟨w_18, hy⟩ : ∃ q, q = y := ⟨_, rfl⟩
          subst hy
          obtain ⟨G_19, f_23, hX_22, hW, hB_G_19, hF, hq_21, hS, hl⟩ := hI
          refine lv_istore_n (lv' := [(3, .int w_18), (2, .int y_1), (0, .ref (a 0)), (1, .int p0)]) hx hb dX11_canGo_67 rfl hl (lt_b rfl) rfl (fun ls hl => ?_)
          refine lv_iload_n hx hb dX11_canGo_68 rfl (lv_at hl 3 rfl) ?_
          refine lv_iload_n hx hb dX11_canGo_69 rfl (lv_at hl 0 rfl) ?_
          refine lv_if_eq (tgt := 85) hx hb dX11_canGo_70 rfl (fun c_24 => ?_) (fun c_24 => ?_)
          · have c_24 : w_18.toInt = 0 := xI_eq rfl rfl c_24
            refine lv_aload_n hx hb dX11_canGo_85 rfl (lv_at hl 2 rfl) ?_
            refine S_getV (n := 2) (C := RX11) (T := TX11) (N := 13) hx hb hg iX11 hown hK hW kd_0 rfl 0 (lt_b rfl) (hg (Cond.fieldLink RX11 10 "SlabWalk" "paving" "LSlabWalk$Paving;") m570) (fun _ h9 => h9) rfl ((((hq_21.r9 0 0 rfl rfl).trans (hq_5.r9 0 0 rfl rfl))).trans (hv_0_0)) dX11_canGo_86 ?_
            refine S_getR (n := 25) (C := RX6) (T := TX6) (N := 17) hx hb hg iX6 hown hK hW kd_2 rfl 5 (lt_b rfl) (hg (Cond.fieldLink RX11 333 "SlabWalk$Paving" "leap" "[I") m177) (fun _ h9 => h9) rfl dX11_canGo_89 ?_
            refine lv_iload_n hx hb dX11_canGo_92 rfl (lv_at hl 1 rfl) ?_
            refine S_iald hx hb hK hW kd_25 (vin ((by first | exact ok_5 f_8.1 f_8.2 hp_6 c_9 | omega)) ((by first | exact ok_6 f_8.1 f_8.2 hp_6 c_9 | omega))) dX11_canGo_93 (fun y_25 ey_25 => ?_)
            have ty_25 : 0 ≤ y_25.toInt ∧ y_25.toInt ≤ 99 := bv_25 hB_G_19 ey_25
            refine lv_icmp_gt (tgt := 101) hx hb dX11_canGo_94 rfl (fun c_26 => ?_) (fun c_26 => ?_)
            · have c_26 : y_25.toInt < p0.toInt := xI_lt rfl rfl c_26
              refine ic_0 hx hb dX11_canGo_101 ?_
              exact W.zret (v := 0) hx hb hr (by decide) (fun t ht _ => ⟨⟨0, G_19, rfl, (P_wGo_2_mk ⟨hB_G_19, hF, ⟨by decide, by decide⟩, (by have hq : (0 : Int32).toInt = 0 := rfl; (try dsimp only); omega), ⟨y_1, ey_1, ⟨r_3, G_4, hX_7, (Or.inr ⟨c_9, ⟨y_10, ey_10, (Or.inl ⟨c_11, ⟨y_12, ey_12, (Or.inl ⟨c_13, ⟨y_14, ey_14, ⟨w_18, G_19, hX_22, f_23, hB_G_19, hq_21, (Or.inl ⟨c_24, ⟨y_25, ey_25, (Or.inl ⟨c_26, ⟨rfl, rfl⟩⟩)⟩⟩)⟩⟩⟩)⟩⟩)⟩⟩)⟩⟩⟩), wd_t ht hW⟩, hS.F ht⟩) hS.2.2 dX11_canGo_102
            · have c_26 : p0.toInt ≤ y_25.toInt := xI_nlt rfl rfl c_26
              refine ic_1 hx hb dX11_canGo_97 ?_
              refine lv_goto (tgt := 102) hx hb dX11_canGo_98 rfl ?_
              exact W.zret (v := 1) hx hb hr (by decide) (fun t ht _ => ⟨⟨1, G_19, rfl, (P_wGo_2_mk ⟨hB_G_19, hF, ⟨by decide, by decide⟩, (by have hq : (1 : Int32).toInt = 1 := rfl; (try dsimp only); omega), ⟨y_1, ey_1, ⟨r_3, G_4, hX_7, (Or.inr ⟨c_9, ⟨y_10, ey_10, (Or.inl ⟨c_11, ⟨y_12, ey_12, (Or.inl ⟨c_13, ⟨y_14, ey_14, ⟨w_18, G_19, hX_22, f_23, hB_G_19, hq_21, (Or.inl ⟨c_24, ⟨y_25, ey_25, (Or.inr ⟨c_26, ⟨rfl, rfl⟩⟩)⟩⟩)⟩⟩⟩)⟩⟩)⟩⟩)⟩⟩⟩), wd_t ht hW⟩, hS.F ht⟩) hS.2.2 dX11_canGo_102
          · have c_24 : w_18.toInt ≠ 0 := xI_ne rfl rfl c_24
            refine lv_aload_n hx hb dX11_canGo_73 rfl (lv_at hl 2 rfl) ?_
            refine S_getV (n := 2) (C := RX11) (T := TX11) (N := 13) hx hb hg iX11 hown hK hW kd_0 rfl 0 (lt_b rfl) (hg (Cond.fieldLink RX11 10 "SlabWalk" "paving" "LSlabWalk$Paving;") m570) (fun _ h9 => h9) rfl ((((hq_21.r9 0 0 rfl rfl).trans (hq_5.r9 0 0 rfl rfl))).trans (hv_0_0)) dX11_canGo_74 ?_
            refine S_getR (n := 24) (C := RX6) (T := TX6) (N := 17) hx hb hg iX6 hown hK hW kd_2 rfl 4 (lt_b rfl) (hg (Cond.fieldLink RX11 237 "SlabWalk$Paving" "most" "[I") m173) (fun _ h9 => h9) rfl dX11_canGo_77 ?_
            refine lv_iload_n hx hb dX11_canGo_80 rfl (lv_at hl 1 rfl) ?_
            refine S_iald hx hb hK hW kd_24 (vin ((by first | exact ok_5 f_8.1 f_8.2 hp_6 c_9 | omega)) ((by first | exact ok_6 f_8.1 f_8.2 hp_6 c_9 | omega))) dX11_canGo_81 (fun y_27 ey_27 => ?_)
            have ty_27 : 0 ≤ y_27.toInt ∧ y_27.toInt ≤ 60 := bv_24 hB_G_19 ey_27
            refine lv_goto (tgt := 94) hx hb dX11_canGo_82 rfl ?_
            refine lv_icmp_gt (tgt := 101) hx hb dX11_canGo_94 rfl (fun c_28 => ?_) (fun c_28 => ?_)
            · have c_28 : y_27.toInt < p0.toInt := xI_lt rfl rfl c_28
              refine ic_0 hx hb dX11_canGo_101 ?_
              exact W.zret (v := 0) hx hb hr (by decide) (fun t ht _ => ⟨⟨0, G_19, rfl, (P_wGo_2_mk ⟨hB_G_19, hF, ⟨by decide, by decide⟩, (by have hq : (0 : Int32).toInt = 0 := rfl; (try dsimp only); omega), ⟨y_1, ey_1, ⟨r_3, G_4, hX_7, (Or.inr ⟨c_9, ⟨y_10, ey_10, (Or.inl ⟨c_11, ⟨y_12, ey_12, (Or.inl ⟨c_13, ⟨y_14, ey_14, ⟨w_18, G_19, hX_22, f_23, hB_G_19, hq_21, (Or.inr ⟨c_24, ⟨y_27, ey_27, (Or.inl ⟨c_28, ⟨rfl, rfl⟩⟩)⟩⟩)⟩⟩⟩)⟩⟩)⟩⟩)⟩⟩⟩), wd_t ht hW⟩, hS.F ht⟩) hS.2.2 dX11_canGo_102
            · have c_28 : p0.toInt ≤ y_27.toInt := xI_nlt rfl rfl c_28
              refine ic_1 hx hb dX11_canGo_97 ?_
              refine lv_goto (tgt := 102) hx hb dX11_canGo_98 rfl ?_
              exact W.zret (v := 1) hx hb hr (by decide) (fun t ht _ => ⟨⟨1, G_19, rfl, (P_wGo_2_mk ⟨hB_G_19, hF, ⟨by decide, by decide⟩, (by have hq : (1 : Int32).toInt = 1 := rfl; (try dsimp only); omega), ⟨y_1, ey_1, ⟨r_3, G_4, hX_7, (Or.inr ⟨c_9, ⟨y_10, ey_10, (Or.inl ⟨c_11, ⟨y_12, ey_12, (Or.inl ⟨c_13, ⟨y_14, ey_14, ⟨w_18, G_19, hX_22, f_23, hB_G_19, hq_21, (Or.inr ⟨c_24, ⟨y_27, ey_27, (Or.inr ⟨c_28, ⟨rfl, rfl⟩⟩)⟩⟩)⟩⟩⟩)⟩⟩)⟩⟩)⟩⟩⟩), wd_t ht hW⟩, hS.F ht⟩) hS.2.2 dX11_canGo_102
        refine lv_icmp_ne (tgt := 66) hx hb dX11_canGo_59 rfl (fun c_29 => ?_) (fun c_29 => ?_)
        · have c_29 : y_14.toInt ≠ 1 := xI_ne rfl rfl c_29
          refine ic_0 hx hb dX11_canGo_66 ?_
          have qc_30 : (0 : Int32).toInt = 0 := rfl
          exact hJ_20 0 _ _ _ ⟨G_4, ⟨(by decide), (by decide)⟩, (Jn_k_wGo_2_1_mk (Or.inr ⟨c_29, ⟨rfl, rfl⟩⟩)), hW, hB_G_4, hF, (Fr.rf (rs := []) (fs := [])), hS, lv_sub hl [0, 1, 2] rfl⟩
        · have c_29 : y_14.toInt = 1 := xI_eq rfl rfl c_29
          refine ic_1 hx hb dX11_canGo_62 ?_
          refine lv_goto (tgt := 67) hx hb dX11_canGo_63 rfl ?_
          have qc_31 : (1 : Int32).toInt = 1 := rfl
          exact hJ_20 1 _ _ _ ⟨G_4, ⟨(by decide), (by decide)⟩, (Jn_k_wGo_2_1_mk (Or.inl ⟨c_29, ⟨rfl, rfl⟩⟩)), hW, hB_G_4, hF, (Fr.rf (rs := []) (fs := [])), hS, lv_sub hl [0, 1, 2] rfl⟩
      · have c_13 : p0.toInt < y_12.toInt := xI_nle rfl rfl c_13
        refine ic_0 hx hb dX11_canGo_47 ?_
        exact W.zret (v := 0) hx hb hr (by decide) (fun t ht _ => ⟨⟨0, G_4, rfl, (P_wGo_2_mk ⟨hB_G_4, hF, ⟨by decide, by decide⟩, (by have hq : (0 : Int32).toInt = 0 := rfl; (try dsimp only); omega), ⟨y_1, ey_1, ⟨r_3, G_4, hX_7, (Or.inr ⟨c_9, ⟨y_10, ey_10, (Or.inl ⟨c_11, ⟨y_12, ey_12, (Or.inr ⟨c_13, ⟨rfl, rfl⟩⟩)⟩⟩)⟩⟩)⟩⟩⟩), wd_t ht hW⟩, hS.F ht⟩) hS.2.2 dX11_canGo_48

set_option maxHeartbeats 4000000 in
set_option maxRecDepth 100000 in
theorem k_wLawful_2 (l : Launch) (D : va_G) (k : KT) (A : Nat → Prop) (a : Nat → Nat) (z : SK) (G : GS)  (hv_0_0 : G.2.2 0 0 = 2) (hv_0_1 : G.2.2 0 1 = 1) (hv_6_4 : G.2.2 6 4 = 2) : Met l yX11_isLawfulNow (WS yX11_isLawfulNow cX11_isLawfulNow 3 (some .boolean)) ({ frames := 4, cells := 0, slots := 0, locals := 96 }) (va_Pc [.ref (a 0)] (cW D k A a z G)) (va_Qi (fun (r : Int32) (G1 : GS) => P_wLawful_2 G r G1) (fun (G1 : GS) t => Wd D k A a G1 t.heap) A) 0 0 A := by
  refine Met.ofW (cc := cX11_isLawfulNow) (maxL := 3) (ret := (some .boolean)) (by decide) rfl ?_
  intro p e s m args below meth c s₁ B hml hv
  obtain ⟨rfl, hW, hB_G, hK, hZ⟩ := hv
  have hx := B.exec
  have hb := B.bytes
  have hr := B.returns
  have hts := atoms_spec (ws := WS yX11_isLawfulNow cX11_isLawfulNow 3 (some .boolean)) B.pre
  have hgd : ∀ w ∈ gd, w ∈ WS yX11_isLawfulNow cX11_isLawfulNow 3 (some .boolean) := fun w h => List.mem_cons_of_mem _ h
  have hg : ∀ w ∈ gd, w.before _ s = true := fun w h => hts w (hgd w h)
  have hown : s.vm.findClass RX11 = some m.cls := findClass_of_methodNamed B.named
  have hS : va_S A s.heap s.heap [] := va_S.rf
  have hF : Fr [37, 38, 39] [(6, 3)] G G := Fr.rf
  have hl := lv_entry ([.ref (a 0)]) (n := 3) (Nat.le_of_ble_eq_true rfl)
  rw [lg_entry_eq]
  generalize (lg_sl ([.ref (a 0)]) ++ List.replicate (3 - (lg_sl ([.ref (a 0)])).length) Slot.unset).toArray = ls at hl ⊢
  have hl : lv_has ls 3 [(0, .ref (a 0))] := hl
  refine lv_aload_n hx hb dX11_isLawfulNow_0 rfl (lv_at hl 0 rfl) ?_
  refine S_getR (n := 30) (C := RX11) (T := TX11) (N := 13) hx hb hg iX11 hown hK hW kd_0 rfl 8 (lt_b rfl) (hg (Cond.fieldLink RX11 65 "SlabWalk" "earnest" "LSlabWalk$Earnest;") m578) (fun _ h9 => h9) rfl dX11_isLawfulNow_1 ?_
  refine S_getR (n := 58) (C := RX1) (T := TX1) (N := 6) hx hb hg iX1 hown hK hW kd_30 rfl 0 (lt_b rfl) (hg (Cond.fieldLink RX11 246 "SlabWalk$Earnest" "now" "[I") m493) (fun _ h9 => h9) rfl dX11_isLawfulNow_4 ?_
  refine lv_astore_n (lv' := [(1, .ref (a 58)), (0, .ref (a 0))]) hx hb dX11_isLawfulNow_7 rfl hl (lt_b rfl) rfl (fun ls hl => ?_)
  refine lv_aload_n hx hb dX11_isLawfulNow_8 rfl (lv_at hl 0 rfl) ?_
  refine ic_1 hx hb dX11_isLawfulNow_9 ?_
  refine S_iald hx hb hK hW kd_58 (vin (by decide) (by decide)) dX11_isLawfulNow_10 (fun y_1 ey_1 => ?_)
  refine lv_istore_n (lv' := [(2, .int y_1), (1, .ref (a 58)), (0, .ref (a 0))]) hx hb dX11_isLawfulNow_11 rfl hl (lt_b rfl) rfl (fun ls hl => ?_)
  refine lv_aload_n hx hb dX11_isLawfulNow_12 rfl (lv_at hl 2 rfl) ?_
  refine S_getR (n := 6) (C := RX11) (T := TX11) (N := 13) hx hb hg iX11 hown hK hW kd_0 rfl 4 (lt_b rfl) (hg (Cond.fieldLink RX11 37 "SlabWalk" "lines" "LSlabWalk$Lines;") m574) (fun _ h9 => h9) rfl dX11_isLawfulNow_13 ?_
  refine lv_iload_n hx hb dX11_isLawfulNow_16 rfl (lv_at hl 0 rfl) ?_
  refine lv_aload_n hx hb dX11_isLawfulNow_17 rfl (lv_at hl 2 rfl) ?_
  refine S_calli (va_runV (As := []) (rest := [.int y_1, .ref (a 6)]) ⟨hx, hb, hml, hown, hts⟩ (k_wToday l D k A a z G  ) (cwV 0 hts (gd_V hgd m911 m913 m27 m117 m914) rfl rfl rfl hd_X11_today ⟨Nat.le_of_ble_eq_true rfl, Nat.le_of_ble_eq_true rfl⟩) (pre_W hW hB_G hK hZ hS kd_0 rfl) rfl rfl hl.1 rfl (lv_room (Nat.le_of_ble_eq_true rfl)) dX11_isLawfulNow_18 ⟨Nat.le_of_ble_eq_true rfl, Nat.le_of_ble_eq_true rfl⟩) hS (fun r_2 G_3 H locs hpo hW hS => ?_)
  have hX_6 : P_wToday G r_2 G_3 := hpo
  obtain ⟨hB_G_3, hq_4, -⟩ := hpo
  have hF := hF.call9 hq_4 rfl rfl
  refine S_callv (va_runV (As := [.int y_1, .int r_2]) (rest := []) ⟨hx, hb, hml, hown, hts⟩ (k_lFind_2 l D k A a z G_3 y_1 r_2 (((hq_4.r9 6 4 rfl rfl)).trans (hv_6_4))) (cwV 2 hts (gd_V hgd m915 m916 m917 m122 m918) rfl rfl rfl hd_X3_findFor ⟨Nat.le_of_ble_eq_true rfl, Nat.le_of_ble_eq_true rfl⟩) (pre_W hW hB_G_3 hK hZ hS kd_6 rfl) rfl rfl hl.1 rfl (lv_room (Nat.le_of_ble_eq_true rfl)) dX11_isLawfulNow_21 ⟨Nat.le_of_ble_eq_true rfl, Nat.le_of_ble_eq_true rfl⟩) hS (fun G_8 H locs hpo hW hS => ?_)
  have hX_11 : P_lFind_2 y_1 r_2 G_3 G_8 := hpo
  obtain ⟨hB_G_8, hq_9, -⟩ := hpo
  have hF := hF.call9 hq_9 rfl rfl
  refine lv_aload_n hx hb dX11_isLawfulNow_24 rfl (lv_at hl 1 rfl) ?_
  refine lv_bipush (v := 9) hx hb dX11_isLawfulNow_25 (by decide) ?_
  refine S_iald hx hb hK hW kd_58 (vin (by decide) (by decide)) dX11_isLawfulNow_27 (fun y_12 ey_12 => ?_)
  refine ic_1 hx hb dX11_isLawfulNow_28 ?_
  refine lv_icmp_eq (tgt := 53) hx hb dX11_isLawfulNow_29 rfl (fun c_13 => ?_) (fun c_13 => ?_)
  · have c_13 : y_12.toInt = 1 := xI_eq rfl rfl c_13
    refine ic_1 hx hb dX11_isLawfulNow_53 ?_
    refine lv_goto (tgt := 58) hx hb dX11_isLawfulNow_54 rfl ?_
    exact W.zret (v := 1) hx hb hr (by decide) (fun t ht _ => ⟨⟨1, G_8, rfl, (P_wLawful_2_mk ⟨hB_G_8, hF, ⟨by decide, by decide⟩, ⟨y_1, ey_1, ⟨r_2, G_3, hX_6, ⟨G_8, hX_11, ⟨y_12, ey_12, (Or.inl ⟨c_13, ⟨rfl, rfl⟩⟩)⟩⟩⟩⟩⟩), wd_t ht hW⟩, hS.F ht⟩) hS.2.2 dX11_isLawfulNow_58
  · have c_13 : y_12.toInt ≠ 1 := xI_ne rfl rfl c_13
    refine lv_aload_n hx hb dX11_isLawfulNow_32 rfl (lv_at hl 2 rfl) ?_
    refine S_getR (n := 6) (C := RX11) (T := TX11) (N := 13) hx hb hg iX11 hown hK hW kd_0 rfl 4 (lt_b rfl) (hg (Cond.fieldLink RX11 37 "SlabWalk" "lines" "LSlabWalk$Lines;") m574) (fun _ h9 => h9) rfl dX11_isLawfulNow_33 ?_
    refine lv_aload_n hx hb dX11_isLawfulNow_36 rfl (lv_at hl 1 rfl) ?_
    refine ic_0 hx hb dX11_isLawfulNow_37 ?_
    refine S_iald hx hb hK hW kd_58 (vin (by decide) (by decide)) dX11_isLawfulNow_38 (fun y_14 ey_14 => ?_)
    refine lv_iload_n hx hb dX11_isLawfulNow_39 rfl (lv_at hl 0 rfl) ?_
    refine lv_aload_n hx hb dX11_isLawfulNow_40 rfl (lv_at hl 1 rfl) ?_
    refine lv_bipush (v := 8) hx hb dX11_isLawfulNow_41 (by decide) ?_
    refine S_iald hx hb hK hW kd_58 (vin (by decide) (by decide)) dX11_isLawfulNow_43 (fun y_15 ey_15 => ?_)
    refine lv_aload_n hx hb dX11_isLawfulNow_44 rfl (lv_at hl 1 rfl) ?_
    refine ic_2 hx hb dX11_isLawfulNow_45 ?_
    refine S_iald hx hb hK hW kd_58 (vin (by decide) (by decide)) dX11_isLawfulNow_46 (fun y_16 ey_16 => ?_)
    refine S_calli (va_runV (As := [.int y_14, .int y_1, .int y_15, .int y_16]) (rest := []) ⟨hx, hb, hml, hown, hts⟩ (k_lIsLawful_2 l D k A a z G_8 y_14 y_1 y_15 y_16 ((((hq_9.r9 6 4 rfl rfl).trans (hq_4.r9 6 4 rfl rfl))).trans (hv_6_4))) (cwV 4 hts (gd_V hgd m961 m962 m963 m122 m964) rfl rfl rfl hd_X3_isLawful ⟨Nat.le_of_ble_eq_true rfl, Nat.le_of_ble_eq_true rfl⟩) (pre_W hW hB_G_8 hK hZ hS kd_6 rfl) rfl rfl hl.1 rfl (lv_room (Nat.le_of_ble_eq_true rfl)) dX11_isLawfulNow_47 ⟨Nat.le_of_ble_eq_true rfl, Nat.le_of_ble_eq_true rfl⟩) hS (fun r_17 G_18 H locs hpo hW hS => ?_)
    have hX_21 : P_lIsLawful_2 y_14 y_1 y_15 y_16 G_8 r_17 G_18 := hpo
    obtain ⟨hB_G_18, hq_19, f_22, -⟩ := hpo
    have hF := hF.call9 hq_19 rfl rfl
    refine lv_if_eq (tgt := 57) hx hb dX11_isLawfulNow_50 rfl (fun c_23 => ?_) (fun c_23 => ?_)
    · have c_23 : r_17.toInt = 0 := xI_eq rfl rfl c_23
      refine ic_0 hx hb dX11_isLawfulNow_57 ?_
      exact W.zret (v := 0) hx hb hr (by decide) (fun t ht _ => ⟨⟨0, G_18, rfl, (P_wLawful_2_mk ⟨hB_G_18, hF, ⟨by decide, by decide⟩, ⟨y_1, ey_1, ⟨r_2, G_3, hX_6, ⟨G_8, hX_11, ⟨y_12, ey_12, (Or.inr ⟨c_13, ⟨y_14, ey_14, ⟨y_15, ey_15, ⟨y_16, ey_16, ⟨r_17, G_18, hX_21, (Or.inl ⟨c_23, ⟨rfl, rfl⟩⟩)⟩⟩⟩⟩⟩)⟩⟩⟩⟩⟩), wd_t ht hW⟩, hS.F ht⟩) hS.2.2 dX11_isLawfulNow_58
    · have c_23 : r_17.toInt ≠ 0 := xI_ne rfl rfl c_23
      refine ic_1 hx hb dX11_isLawfulNow_53 ?_
      refine lv_goto (tgt := 58) hx hb dX11_isLawfulNow_54 rfl ?_
      exact W.zret (v := 1) hx hb hr (by decide) (fun t ht _ => ⟨⟨1, G_18, rfl, (P_wLawful_2_mk ⟨hB_G_18, hF, ⟨by decide, by decide⟩, ⟨y_1, ey_1, ⟨r_2, G_3, hX_6, ⟨G_8, hX_11, ⟨y_12, ey_12, (Or.inr ⟨c_13, ⟨y_14, ey_14, ⟨y_15, ey_15, ⟨y_16, ey_16, ⟨r_17, G_18, hX_21, (Or.inr ⟨c_23, ⟨rfl, rfl⟩⟩)⟩⟩⟩⟩⟩)⟩⟩⟩⟩⟩), wd_t ht hW⟩, hS.F ht⟩) hS.2.2 dX11_isLawfulNow_58

set_option maxHeartbeats 4000000 in
set_option maxRecDepth 100000 in
theorem k_wPrep_2 (l : Launch) (D : va_G) (k : KT) (A : Nat → Prop) (a : Nat → Nat) (z : SK) (G : GS) (p0 : Int32) (p1 : Int32) (p2 : Int32) (ha_p0 : 0 ≤ p0.toInt ∧ p0.toInt ≤ 3) (ha_p1 : 0 ≤ p1.toInt ∧ p1.toInt ≤ 2) (hv_0_0 : G.2.2 0 0 = 2) (hv_0_1 : G.2.2 0 1 = 1) (hv_6_4 : G.2.2 6 4 = 2) (hw : p0.toInt < (G.1 2 10).toInt) : Met l yX11_prepare (WS yX11_prepare cX11_prepare 4 none) ({ frames := 4, cells := 0, slots := 0, locals := 96 }) (va_Pc [.ref (a 0), .int p0, .int p1, .int p2] (cW D k A a z G)) (va_Qv (fun (G1 : GS) => P_wPrep_2 p0 p1 p2 G G1) (fun (G1 : GS) t => Wd D k A a G1 t.heap) A) 0 0 A := by
  refine Met.ofW (cc := cX11_prepare) (maxL := 4) (ret := none) (by decide) rfl ?_
  intro p e s m args below meth c s₁ B hml hv
  obtain ⟨rfl, hW, hB_G, hK, hZ⟩ := hv
  have hx := B.exec
  have hb := B.bytes
  have hr := B.returns
  have hts := atoms_spec (ws := WS yX11_prepare cX11_prepare 4 none) B.pre
  have hgd : ∀ w ∈ gd, w ∈ WS yX11_prepare cX11_prepare 4 none := fun w h => List.mem_cons_of_mem _ h
  have hg : ∀ w ∈ gd, w.before _ s = true := fun w h => hts w (hgd w h)
  have hown : s.vm.findClass RX11 = some m.cls := findClass_of_methodNamed B.named
  have hS : va_S A s.heap s.heap [] := va_S.rf
  have hF : Fr [37, 38, 39, 40] [(6, 3), (7, 1), (7, 2), (7, 3), (7, 4), (7, 5), (7, 6), (7, 7)] G G := Fr.rf
  have hl := lv_entry ([.ref (a 0), .int p0, .int p1, .int p2]) (n := 4) (Nat.le_of_ble_eq_true rfl)
  rw [lg_entry_eq]
  generalize (lg_sl ([.ref (a 0), .int p0, .int p1, .int p2]) ++ List.replicate (4 - (lg_sl ([.ref (a 0), .int p0, .int p1, .int p2])).length) Slot.unset).toArray = ls at hl ⊢
  have hl : lv_has ls 4 [(0, .ref (a 0)), (1, .int p0), (2, .int p1), (3, .int p2)] := hl
  refine lv_aload_n hx hb dX11_prepare_0 rfl (lv_at hl 0 rfl) ?_
  refine S_getR (n := 6) (C := RX11) (T := TX11) (N := 13) hx hb hg iX11 hown hK hW kd_0 rfl 4 (lt_b rfl) (hg (Cond.fieldLink RX11 37 "SlabWalk" "lines" "LSlabWalk$Lines;") m574) (fun _ h9 => h9) rfl dX11_prepare_1 ?_
  refine lv_iload_n hx hb dX11_prepare_4 rfl (lv_at hl 2 rfl) ?_
  refine lv_aload_n hx hb dX11_prepare_5 rfl (lv_at hl 0 rfl) ?_
  refine S_calli (va_runV (As := []) (rest := [.int p1, .ref (a 6)]) ⟨hx, hb, hml, hown, hts⟩ (k_wToday l D k A a z G  ) (cwV 0 hts (gd_V hgd m911 m913 m27 m117 m914) rfl rfl rfl hd_X11_today ⟨Nat.le_of_ble_eq_true rfl, Nat.le_of_ble_eq_true rfl⟩) (pre_W hW hB_G hK hZ hS kd_0 rfl) rfl rfl hl.1 rfl (lv_room (Nat.le_of_ble_eq_true rfl)) dX11_prepare_6 ⟨Nat.le_of_ble_eq_true rfl, Nat.le_of_ble_eq_true rfl⟩) hS (fun r_1 G_2 H locs hpo hW hS => ?_)
  have hX_5 : P_wToday G r_1 G_2 := hpo
  obtain ⟨hB_G_2, hq_3, -⟩ := hpo
  have hF := hF.call9 hq_3 rfl rfl
  refine S_callv (va_runV (As := [.int p1, .int r_1]) (rest := []) ⟨hx, hb, hml, hown, hts⟩ (k_lFind_2 l D k A a z G_2 p1 r_1 (((hq_3.r9 6 4 rfl rfl)).trans (hv_6_4))) (cwV 2 hts (gd_V hgd m915 m916 m917 m122 m918) rfl rfl rfl hd_X3_findFor ⟨Nat.le_of_ble_eq_true rfl, Nat.le_of_ble_eq_true rfl⟩) (pre_W hW hB_G_2 hK hZ hS kd_6 rfl) rfl rfl hl.1 rfl (lv_room (Nat.le_of_ble_eq_true rfl)) dX11_prepare_9 ⟨Nat.le_of_ble_eq_true rfl, Nat.le_of_ble_eq_true rfl⟩) hS (fun G_7 H locs hpo hW hS => ?_)
  have hX_10 : P_lFind_2 p1 r_1 G_2 G_7 := hpo
  obtain ⟨hB_G_7, hq_8, -⟩ := hpo
  have hF := hF.call9 hq_8 rfl rfl
  refine lv_aload_n hx hb dX11_prepare_12 rfl (lv_at hl 0 rfl) ?_
  refine S_getR (n := 7) (C := RX11) (T := TX11) (N := 13) hx hb hg iX11 hown hK hW kd_0 rfl 5 (lt_b rfl) (hg (Cond.fieldLink RX11 44 "SlabWalk" "course" "LSlabWalk$Course;") m575) (fun _ h9 => h9) rfl dX11_prepare_13 ?_
  refine lv_aload_n hx hb dX11_prepare_16 rfl (lv_at hl 0 rfl) ?_
  refine S_getV (n := 2) (C := RX11) (T := TX11) (N := 13) hx hb hg iX11 hown hK hW kd_0 rfl 0 (lt_b rfl) (hg (Cond.fieldLink RX11 10 "SlabWalk" "paving" "LSlabWalk$Paving;") m570) (fun _ h9 => h9) rfl ((((hq_8.r9 0 0 rfl rfl).trans (hq_3.r9 0 0 rfl rfl))).trans (hv_0_0)) dX11_prepare_17 ?_
  refine lv_iload_n hx hb dX11_prepare_20 rfl (lv_at hl 1 rfl) ?_
  refine lv_iload_n hx hb dX11_prepare_21 rfl (lv_at hl 2 rfl) ?_
  have b_11 : 0 ≤ (G.1 2 10).toInt ∧ (G.1 2 10).toInt ≤ 4 := bd_2_10 hB_G
  have g_12 : (G_7.1 2 10).toInt = (G.1 2 10).toInt := (congrArg Int32.toInt (show G_7.1 2 10 = (G.1 2 10) from ((hq_8.i9 2 10 rfl rfl).trans (hq_3.i9 2 10 rfl rfl))))
  refine S_callv (va_runV (As := [.ref (a 2), .int p0, .int p1]) (rest := []) ⟨hx, hb, hml, hown, hts⟩ (k_cLook_2 l D k A a z G_7 p0 p1 ⟨(by first | exact ha_p0.1 | omega), (by first | exact ha_p0.2 | omega)⟩ ⟨(by first | exact ha_p1.1 | omega), (by first | exact ha_p1.2 | omega)⟩ ((by first | exact ok_461 hw g_12 | omega))) (cwV 3 hts (gd_V hgd m979 m980 m981 m123 m982) rfl rfl rfl hd_X0_lookAt ⟨Nat.le_of_ble_eq_true rfl, Nat.le_of_ble_eq_true rfl⟩) (pre_W hW hB_G_7 hK hZ hS kd_7 rfl) rfl rfl hl.1 rfl (lv_room (Nat.le_of_ble_eq_true rfl)) dX11_prepare_22 ⟨Nat.le_of_ble_eq_true rfl, Nat.le_of_ble_eq_true rfl⟩) hS (fun G_14 H locs hpo hW hS => ?_)
  have hX_17 : P_cLook_2 p0 p1 G_7 G_14 := hpo
  obtain ⟨hB_G_14, hq_15, hp_16, -⟩ := hpo
  have hF := hF.call9 hq_15 rfl rfl
  refine lv_aload_n hx hb dX11_prepare_25 rfl (lv_at hl 0 rfl) ?_
  refine S_getR (n := 7) (C := RX11) (T := TX11) (N := 13) hx hb hg iX11 hown hK hW kd_0 rfl 5 (lt_b rfl) (hg (Cond.fieldLink RX11 44 "SlabWalk" "course" "LSlabWalk$Course;") m575) (fun _ h9 => h9) rfl dX11_prepare_26 ?_
  refine lv_aload_n hx hb dX11_prepare_29 rfl (lv_at hl 0 rfl) ?_
  refine S_getR (n := 6) (C := RX11) (T := TX11) (N := 13) hx hb hg iX11 hown hK hW kd_0 rfl 4 (lt_b rfl) (hg (Cond.fieldLink RX11 37 "SlabWalk" "lines" "LSlabWalk$Lines;") m574) (fun _ h9 => h9) rfl dX11_prepare_30 ?_
  refine lv_iload_n hx hb dX11_prepare_33 rfl (lv_at hl 2 rfl) ?_
  refine lv_iload_n hx hb dX11_prepare_34 rfl (lv_at hl 3 rfl) ?_
  refine S_callv (va_runV (As := [.ref (a 6), .int p1, .int p2]) (rest := []) ⟨hx, hb, hml, hown, hts⟩ (k_cFind_2 l D k A a z G_14 p1 p2 ((((hq_15.r9 6 4 rfl rfl).trans ((hq_8.r9 6 4 rfl rfl).trans (hq_3.r9 6 4 rfl rfl)))).trans (hv_6_4))) (cwV 3 hts (gd_V hgd m984 m985 m986 m123 m987) rfl rfl rfl hd_X0_findLawful ⟨Nat.le_of_ble_eq_true rfl, Nat.le_of_ble_eq_true rfl⟩) (pre_W hW hB_G_14 hK hZ hS kd_7 rfl) rfl rfl hl.1 rfl (lv_room (Nat.le_of_ble_eq_true rfl)) dX11_prepare_35 ⟨Nat.le_of_ble_eq_true rfl, Nat.le_of_ble_eq_true rfl⟩) hS (fun G_19 H locs hpo hW hS => ?_)
  have hX_22 : P_cFind_2 p1 p2 G_14 G_19 := hpo
  obtain ⟨hB_G_19, hq_20, -⟩ := hpo
  have hF := hF.call9 hq_20 rfl rfl
  have b_23 : 0 ≤ (G_14.1 7 3).toInt ∧ (G_14.1 7 3).toInt ≤ 60 := bd_7_3 hB_G_14
  have g_24 : (G_19.1 7 3).toInt = (G_14.1 7 3).toInt := (congrArg Int32.toInt (show G_19.1 7 3 = (G_14.1 7 3) from (hq_20.i9 7 3 rfl rfl)))
  have b_25 : 0 ≤ (G_14.1 7 4).toInt ∧ (G_14.1 7 4).toInt ≤ 60 := bd_7_4 hB_G_14
  have g_26 : (G_19.1 7 4).toInt = (G_14.1 7 4).toInt := (congrArg Int32.toInt (show G_19.1 7 4 = (G_14.1 7 4) from (hq_20.i9 7 4 rfl rfl)))
  have b_27 : (-1) ≤ (G_14.1 7 6).toInt ∧ (G_14.1 7 6).toInt ≤ 400 := bd_7_6 hB_G_14
  have g_28 : (G_19.1 7 6).toInt = (G_14.1 7 6).toInt := (congrArg Int32.toInt (show G_19.1 7 6 = (G_14.1 7 6) from (hq_20.i9 7 6 rfl rfl)))
  have b_29 : 0 ≤ (G_14.1 7 7).toInt ∧ (G_14.1 7 7).toInt ≤ 400 := bd_7_7 hB_G_14
  have g_30 : (G_19.1 7 7).toInt = (G_14.1 7 7).toInt := (congrArg Int32.toInt (show G_19.1 7 7 = (G_14.1 7 7) from (hq_20.i9 7 7 rfl rfl)))
  exact W.vret hx hb hr (fun t ht _ => ⟨⟨G_19, rfl, (P_wPrep_2_mk ⟨hB_G_19, hF, ((by first | exact ⟨(by first | exact ok_235 hp_16.1 g_28 | omega), ⟨(by first | exact ok_185 hp_16.2.1 g_24 g_26 | omega), (by first | exact ok_236 hp_16.2.2 g_26 g_28 g_30 | omega)⟩⟩ | omega)), ⟨r_1, G_2, hX_5, ⟨G_7, hX_10, ⟨G_14, hX_17, ⟨G_19, hX_22, rfl⟩⟩⟩⟩⟩), wd_t ht hW⟩, hS.F ht⟩) hS.2.2 dX11_prepare_38

set_option maxHeartbeats 4000000 in
set_option maxRecDepth 100000 in
theorem k_wLeaves_2 (l : Launch) (D : va_G) (k : KT) (A : Nat → Prop) (a : Nat → Nat) (z : SK) (G : GS) (p0 : Int32) (p1 : Int32) (hv_0_0 : G.2.2 0 0 = 2) (hv_0_1 : G.2.2 0 1 = 1) (hv_6_4 : G.2.2 6 4 = 2) (hci : (G.1 7 6).toInt ≤ 399 ∧ (G.1 7 3).toInt ≤ (G.1 7 4).toInt ∧ ((G.1 7 7).toInt ≤ 0 ∨ (G.1 7 7).toInt + (G.1 7 4).toInt ≤ (G.1 7 6).toInt + 1)) : Met l yX11_leavesWay (WS yX11_leavesWay cX11_leavesWay 3 (some .boolean)) ({ frames := 4, cells := 0, slots := 0, locals := 91 }) (va_Pc [.ref (a 0), .int p0, .int p1] (cW D k A a z G)) (va_Qi (fun (r : Int32) (G1 : GS) => P_wLeaves_2 p0 p1 G r G1) (fun (G1 : GS) t => Wd D k A a G1 t.heap) A) 0 0 A := by
  refine Met.ofW (cc := cX11_leavesWay) (maxL := 3) (ret := (some .boolean)) (by decide) rfl ?_
  intro p e s m args below meth c s₁ B hml hv
  obtain ⟨rfl, hW, hB_G, hK, hZ⟩ := hv
  have hx := B.exec
  have hb := B.bytes
  have hr := B.returns
  have hts := atoms_spec (ws := WS yX11_leavesWay cX11_leavesWay 3 (some .boolean)) B.pre
  have hgd : ∀ w ∈ gd, w ∈ WS yX11_leavesWay cX11_leavesWay 3 (some .boolean) := fun w h => List.mem_cons_of_mem _ h
  have hg : ∀ w ∈ gd, w.before _ s = true := fun w h => hts w (hgd w h)
  have hown : s.vm.findClass RX11 = some m.cls := findClass_of_methodNamed B.named
  have hS : va_S A s.heap s.heap [] := va_S.rf
  have hF : Fr [40, 42, 43] [] G G := Fr.rf
  have hl := lv_entry ([.ref (a 0), .int p0, .int p1]) (n := 3) (Nat.le_of_ble_eq_true rfl)
  rw [lg_entry_eq]
  generalize (lg_sl ([.ref (a 0), .int p0, .int p1]) ++ List.replicate (3 - (lg_sl ([.ref (a 0), .int p0, .int p1])).length) Slot.unset).toArray = ls at hl ⊢
  have hl : lv_has ls 3 [(0, .ref (a 0)), (1, .int p0), (2, .int p1)] := hl
  have b_1 : (-1) ≤ (G.1 7 6).toInt ∧ (G.1 7 6).toInt ≤ 400 := bd_7_6 hB_G
  refine lv_aload_n hx hb dX11_leavesWay_0 rfl (lv_at hl 0 rfl) ?_
  refine S_getR (n := 7) (C := RX11) (T := TX11) (N := 13) hx hb hg iX11 hown hK hW kd_0 rfl 5 (lt_b rfl) (hg (Cond.fieldLink RX11 44 "SlabWalk" "course" "LSlabWalk$Course;") m575) (fun _ h9 => h9) rfl dX11_leavesWay_1 ?_
  refine lv_aload_n hx hb dX11_leavesWay_4 rfl (lv_at hl 0 rfl) ?_
  refine S_getR (n := 6) (C := RX11) (T := TX11) (N := 13) hx hb hg iX11 hown hK hW kd_0 rfl 4 (lt_b rfl) (hg (Cond.fieldLink RX11 37 "SlabWalk" "lines" "LSlabWalk$Lines;") m574) (fun _ h9 => h9) rfl dX11_leavesWay_5 ?_
  refine lv_iload_n hx hb dX11_leavesWay_8 rfl (lv_at hl 1 rfl) ?_
  refine lv_iload_n hx hb dX11_leavesWay_9 rfl (lv_at hl 2 rfl) ?_
  refine S_callv (va_runV (As := [.ref (a 6), .int p0, .int p1]) (rest := []) ⟨hx, hb, hml, hown, hts⟩ (k_cFind_2 l D k A a z G p0 p1 hv_6_4) (cwV 3 hts (gd_V hgd m984 m985 m986 m123 m987) rfl rfl rfl hd_X0_findLawful ⟨Nat.le_of_ble_eq_true rfl, Nat.le_of_ble_eq_true rfl⟩) (pre_W hW hB_G hK hZ hS kd_7 rfl) rfl rfl hl.1 rfl (lv_room (Nat.le_of_ble_eq_true rfl)) dX11_leavesWay_10 ⟨Nat.le_of_ble_eq_true rfl, Nat.le_of_ble_eq_true rfl⟩) hS (fun G_3 H locs hpo hW hS => ?_)
  have hX_6 : P_cFind_2 p0 p1 G G_3 := hpo
  obtain ⟨hB_G_3, hq_4, -⟩ := hpo
  have hF := hF.call9 hq_4 rfl rfl
  refine lv_aload_n hx hb dX11_leavesWay_13 rfl (lv_at hl 0 rfl) ?_
  refine S_getR (n := 8) (C := RX11) (T := TX11) (N := 13) hx hb hg iX11 hown hK hW kd_0 rfl 6 (lt_b rfl) (hg (Cond.fieldLink RX11 51 "SlabWalk" "trails" "LSlabWalk$Trails;") m576) (fun _ h9 => h9) rfl dX11_leavesWay_14 ?_
  refine lv_aload_n hx hb dX11_leavesWay_17 rfl (lv_at hl 0 rfl) ?_
  refine S_getR (n := 7) (C := RX11) (T := TX11) (N := 13) hx hb hg iX11 hown hK hW kd_0 rfl 5 (lt_b rfl) (hg (Cond.fieldLink RX11 44 "SlabWalk" "course" "LSlabWalk$Course;") m575) (fun _ h9 => h9) rfl dX11_leavesWay_18 ?_
  have b_7 : 0 ≤ (G.1 7 3).toInt ∧ (G.1 7 3).toInt ≤ 60 := bd_7_3 hB_G
  have g_8 : (G_3.1 7 3).toInt = (G.1 7 3).toInt := (congrArg Int32.toInt (show G_3.1 7 3 = (G.1 7 3) from (hq_4.i9 7 3 rfl rfl)))
  have b_9 : 0 ≤ (G.1 7 4).toInt ∧ (G.1 7 4).toInt ≤ 60 := bd_7_4 hB_G
  have g_10 : (G_3.1 7 4).toInt = (G.1 7 4).toInt := (congrArg Int32.toInt (show G_3.1 7 4 = (G.1 7 4) from (hq_4.i9 7 4 rfl rfl)))
  have g_11 : (G_3.1 7 6).toInt = (G.1 7 6).toInt := (congrArg Int32.toInt (show G_3.1 7 6 = (G.1 7 6) from ((hq_4.i9 7 6 rfl rfl).trans (rfl))))
  have b_12 : 0 ≤ (G.1 7 7).toInt ∧ (G.1 7 7).toInt ≤ 400 := bd_7_7 hB_G
  have g_13 : (G_3.1 7 7).toInt = (G.1 7 7).toInt := (congrArg Int32.toInt (show G_3.1 7 7 = (G.1 7 7) from (hq_4.i9 7 7 rfl rfl)))
  refine S_calli (va_runV (As := [.ref (a 7)]) (rest := []) ⟨hx, hb, hml, hown, hts⟩ (k_tThere l D k A a z G_3  ((by first | exact ⟨(by first | exact ok_235 hci.1 g_11 | omega), ⟨(by first | exact ok_185 hci.2.1 g_8 g_10 | omega), (by first | exact ok_236 hci.2.2 g_10 g_11 g_13 | omega)⟩⟩ | omega))) (cwV 1 hts (gd_V hgd m1158 m1159 m1160 m124 m1161) rfl rfl rfl hd_X10_isThereWay ⟨Nat.le_of_ble_eq_true rfl, Nat.le_of_ble_eq_true rfl⟩) (pre_W hW hB_G_3 hK hZ hS kd_8 rfl) rfl rfl hl.1 rfl (lv_room (Nat.le_of_ble_eq_true rfl)) dX11_leavesWay_21 ⟨Nat.le_of_ble_eq_true rfl, Nat.le_of_ble_eq_true rfl⟩) hS (fun r_14 G_15 H locs hpo hW hS => ?_)
  have hX_18 : P_tThere G_3 r_14 G_15 := hpo
  obtain ⟨hB_G_15, hq_16, f_19, -⟩ := hpo
  have hF := hF.call9 hq_16 rfl rfl
  have g_20 : (G_15.1 7 3).toInt = (G.1 7 3).toInt := (congrArg Int32.toInt (show G_15.1 7 3 = (G.1 7 3) from ((hq_16.i9 7 3 rfl rfl).trans ((hq_4.i9 7 3 rfl rfl).trans (rfl)))))
  have g_21 : (G_15.1 7 4).toInt = (G.1 7 4).toInt := (congrArg Int32.toInt (show G_15.1 7 4 = (G.1 7 4) from ((hq_16.i9 7 4 rfl rfl).trans ((hq_4.i9 7 4 rfl rfl).trans (rfl)))))
  have g_22 : (G_15.1 7 6).toInt = (G.1 7 6).toInt := (congrArg Int32.toInt (show G_15.1 7 6 = (G.1 7 6) from ((hq_16.i9 7 6 rfl rfl).trans ((hq_4.i9 7 6 rfl rfl).trans (rfl)))))
  have g_23 : (G_15.1 7 7).toInt = (G.1 7 7).toInt := (congrArg Int32.toInt (show G_15.1 7 7 = (G.1 7 7) from ((hq_16.i9 7 7 rfl rfl).trans ((hq_4.i9 7 7 rfl rfl).trans (rfl)))))
  exact W.zret (v := r_14) hx hb hr (nar_z ((by first | exact f_19.1 | omega)) ((by first | exact f_19.2 | omega))) (fun t ht _ => ⟨⟨r_14, G_15, rfl, (P_wLeaves_2_mk ⟨hB_G_15, hF, ⟨(by first | exact f_19.1 | omega), (by first | exact f_19.2 | omega)⟩, ((by first | exact ⟨(by first | exact ok_235 hci.1 g_22 | omega), ⟨(by first | exact ok_185 hci.2.1 g_20 g_21 | omega), (by first | exact ok_236 hci.2.2 g_21 g_22 g_23 | omega)⟩⟩ | omega)), ⟨G_3, hX_6, ⟨r_14, G_15, hX_18, ⟨rfl, rfl⟩⟩⟩⟩), wd_t ht hW⟩, hS.F ht⟩) hS.2.2 dX11_leavesWay_24

set_option maxHeartbeats 4000000 in
set_option maxRecDepth 100000 in
theorem k_wWin_2 (l : Launch) (D : va_G) (k : KT) (A : Nat → Prop) (a : Nat → Nat) (z : SK) (G : GS) (p0 : Int32) (p1 : Int32) (ha_p1 : 0 ≤ p1.toInt ∧ p1.toInt ≤ 63) (hv_0_0 : G.2.2 0 0 = 2) (hv_0_1 : G.2.2 0 1 = 1) (hv_6_4 : G.2.2 6 4 = 2) (hci : (G.1 7 6).toInt ≤ 399 ∧ (G.1 7 3).toInt ≤ (G.1 7 4).toInt ∧ ((G.1 7 7).toInt ≤ 0 ∨ (G.1 7 7).toInt + (G.1 7 4).toInt ≤ (G.1 7 6).toInt + 1)) : Met l yX11_winningRule (WS yX11_winningRule cX11_winningRule 5 (some .int)) ({ frames := 5, cells := 0, slots := 0, locals := 113 }) (va_Pc [.ref (a 0), .int p0, .int p1] (cW D k A a z G)) (va_Qi (fun (r : Int32) (G1 : GS) => P_wWin_2 p0 p1 G r G1) (fun (G1 : GS) t => Wd D k A a G1 t.heap) A) 0 0 A := by
  refine Met.ofW (cc := cX11_winningRule) (maxL := 5) (ret := (some .int)) (by decide) rfl ?_
  intro p e s m args below meth c s₁ B hml hv
  obtain ⟨rfl, hW, hB_G, hK, hZ⟩ := hv
  have hx := B.exec
  have hb := B.bytes
  have hr := B.returns
  have hts := atoms_spec (ws := WS yX11_winningRule cX11_winningRule 5 (some .int)) B.pre
  have hgd : ∀ w ∈ gd, w ∈ WS yX11_winningRule cX11_winningRule 5 (some .int) := fun w h => List.mem_cons_of_mem _ h
  have hg : ∀ w ∈ gd, w.before _ s = true := fun w h => hts w (hgd w h)
  have hown : s.vm.findClass RX11 = some m.cls := findClass_of_methodNamed B.named
  have hS : va_S A s.heap s.heap [] := va_S.rf
  have hF : Fr [40, 42, 43, 46, 47] [] G G := Fr.rf
  have hl := lv_entry ([.ref (a 0), .int p0, .int p1]) (n := 5) (Nat.le_of_ble_eq_true rfl)
  rw [lg_entry_eq]
  generalize (lg_sl ([.ref (a 0), .int p0, .int p1]) ++ List.replicate (5 - (lg_sl ([.ref (a 0), .int p0, .int p1])).length) Slot.unset).toArray = ls at hl ⊢
  have hl : lv_has ls 5 [(0, .ref (a 0)), (1, .int p0), (2, .int p1)] := hl
  have b_1 : (-1) ≤ (G.1 7 6).toInt ∧ (G.1 7 6).toInt ≤ 400 := bd_7_6 hB_G
  refine ic_1 hx hb dX11_winningRule_0 ?_
  refine lv_aload_n hx hb dX11_winningRule_1 rfl (lv_at hl 0 rfl) ?_
  refine S_getV (n := 2) (C := RX11) (T := TX11) (N := 13) hx hb hg iX11 hown hK hW kd_0 rfl 0 (lt_b rfl) (hg (Cond.fieldLink RX11 10 "SlabWalk" "paving" "LSlabWalk$Paving;") m570) (fun _ h9 => h9) rfl hv_0_0 dX11_winningRule_2 ?_
  have b_2 : 0 ≤ (G.1 2 11).toInt ∧ (G.1 2 11).toInt ≤ 6 := bd_2_11 hB_G
  refine S_getI (v := (G.1 2 11)) (C := RX6) (T := TX6) (N := 17) hx hb hg iX6 hown hK hW kd_2 rfl 11 (lt_b rfl) (hg (Cond.fieldLink RX11 228 "SlabWalk$Paving" "rules" "I") m195) (fun _ h9 => h9) rfl rfl dX11_winningRule_5 ?_
  refine lv_ishl hx hb dX11_winningRule_8 ?_
  refine lv_topi (fun y_3 ey_3 => ?_)
  have ty_3 := sh6 (Y := (G.1 2 11).toInt) rfl ey_3 rfl (by first | (clear ha_p1 hci b_1; omega) | omega) (by first | (clear ha_p1 hci b_1; omega) | omega)
  refine ic_1 hx hb dX11_winningRule_9 ?_
  refine lv_isub hx hb dX11_winningRule_10 ?_
  refine lv_topi (fun y_4 ey_4 => ?_)
  have ty_4 : y_4.toInt = y_3.toInt - 1 := xI_sub rfl rfl ey_4 ((by first | exact ok_275 ty_3.1 | omega)) ((by first | exact ok_462 ty_3.2 | omega))
  refine lv_istore_n (lv' := [(3, .int y_4), (0, .ref (a 0)), (1, .int p0), (2, .int p1)]) hx hb dX11_winningRule_11 rfl hl (lt_b rfl) rfl (fun ls hl => ?_)
  refine lv_iload_n hx hb dX11_winningRule_12 rfl (lv_at hl 0 rfl) ?_
  refine lv_istore (lv' := [(4, .int y_4), (3, .int y_4), (0, .ref (a 0)), (1, .int p0), (2, .int p1)]) hx hb dX11_winningRule_13 hl (lt_b rfl) rfl (fun ls hl => ?_)
  refine loop_N (Inv := fun n H locs ls => ∃ (G_5 : GS) (x_9 : Int32), (n : Int) = x_9.toInt - (-1) ∧ ((-1) ≤ x_9.toInt ∧ x_9.toInt ≤ 63) ∧ Rc (St_k_wWin_2_1 p0 p1 y_4) (y_4, G) (x_9, G_5) ∧ Wd D k A a G_5 H ∧ Bd G_5 ∧ Fr [40, 42, 43, 46, 47] [] G G_5 ∧ Fr [40, 42, 43, 46, 47] [] G G_5 ∧ va_S A s.heap H locs ∧ lv_has ls 5 [(4, .int x_9), (3, .int y_4), (0, .ref (a 0)), (1, .int p0), (2, .int p1)]) (fun n_8 H locs ls ih_7 hI => ?_) (y_4.toInt - (-1) : Int).toNat ⟨G, y_4, (Int.toNat_of_nonneg ((by first | exact ok_463 ty_3.1 ty_4 | omega))), ⟨(by first | exact ok_464 ty_3.1 ty_4 | omega), (by first | exact ok_465 ty_3.2 ty_4 | omega)⟩, Rc.rf, hW, hB_G, hF, Fr.rf, hS, lv_sub hl [0, 1, 2, 3, 4] rfl⟩
  obtain ⟨G_5, x_9, hn_12, f_11, hX_10, hW, hB_G_5, hF, hq_6, hS, hl⟩ := hI
  refine lv_iload hx hb dX11_winningRule_15 (lv_at hl 0 rfl) ?_
  refine lv_iload_n hx hb dX11_winningRule_17 rfl (lv_at hl 4 rfl) ?_
  refine lv_icmp_lt (tgt := 72) hx hb dX11_winningRule_18 rfl (fun c_13 => ?_) (fun c_13 => ?_)
  · have c_13 : x_9.toInt < p1.toInt := xI_lt rfl rfl c_13
    refine lv_aload_n hx hb dX11_winningRule_72 rfl (lv_at hl 2 rfl) ?_
    refine S_getR (n := 8) (C := RX11) (T := TX11) (N := 13) hx hb hg iX11 hown hK hW kd_0 rfl 6 (lt_b rfl) (hg (Cond.fieldLink RX11 51 "SlabWalk" "trails" "LSlabWalk$Trails;") m576) (fun _ h9 => h9) rfl dX11_winningRule_73 ?_
    refine S_getR (n := 46) (C := RX10) (T := TX10) (N := 5) hx hb hg iX10 hown hK hW kd_8 rfl 3 (lt_b rfl) (hg (Cond.fieldLink RX11 347 "SlabWalk$Trails" "winning" "[I") m444) (fun _ h9 => h9) rfl dX11_winningRule_76 ?_
    refine lv_iload_n hx hb dX11_winningRule_79 rfl (lv_at hl 4 rfl) ?_
    refine S_iald hx hb hK hW kd_46 (vin ((by first | exact ha_p1.1 | omega)) ((by first | exact ok_380 ha_p1.2 | omega))) dX11_winningRule_80 (fun y_14 ey_14 => ?_)
    exact W.iret (v := y_14) hx hb hr (fun t ht _ => ⟨⟨y_14, G_5, rfl, (P_wWin_2_mk ⟨hB_G_5, hF, ⟨y_3, ey_3, ⟨y_4, ty_4, ⟨x_9, G_5, hX_10, f_11, hB_G_5, hq_6, ⟨c_13, ⟨y_14, ey_14, ⟨rfl, rfl⟩⟩⟩⟩⟩⟩⟩), wd_t ht hW⟩, hS.F ht⟩) hS.2.2 dX11_winningRule_81
  · have c_13 : p1.toInt ≤ x_9.toInt := xI_nlt rfl rfl c_13
    refine lv_iload hx hb dX11_winningRule_21 (lv_at hl 0 rfl) ?_
    refine lv_iload_n hx hb dX11_winningRule_23 rfl (lv_at hl 4 rfl) ?_
    refine lv_iand hx hb dX11_winningRule_24 ?_
    refine lv_topi (fun y_15 ey_15 => ?_)
    refine lv_iload_n hx hb dX11_winningRule_25 rfl (lv_at hl 4 rfl) ?_
    refine lv_icmp_ne (tgt := 66) hx hb dX11_winningRule_26 rfl (fun c_16 => ?_) (fun c_16 => ?_)
    · have c_16 : y_15.toInt ≠ p1.toInt := xI_ne rfl rfl c_16
      obtain ⟨y_17, ey_17⟩ : ∃ q, q = x_9 + (-1) := ⟨_, rfl⟩
      have ty_17 : y_17.toInt = x_9.toInt + (-1) := xI_add rfl rfl ey_17 ((by first | exact ok_466 f_11.1 | omega)) ((by first | exact ok_467 f_11.2 | omega))
      refine lv_iinc (v := y_17) (lv' := [(4, .int y_17), (3, .int y_4), (0, .ref (a 0)), (1, .int p0), (2, .int p1)]) hx hb dX11_winningRule_66 hl (k := 0) rfl (by rw [ey_17]; rfl) (lt_b rfl) rfl (fun ls hl => ?_)
      refine lv_goto (tgt := 15) hx hb dX11_winningRule_69 rfl ?_
      exact ih_7 (y_17.toInt - (-1) : Int).toNat ((by first | (clear hci b_1 b_2 ty_3 ty_4; omega) | omega)) _ _ _ ⟨G_5, y_17, (Int.toNat_of_nonneg ((by first | exact ok_468 ha_p1.1 f_11.1 c_13 ty_17 | omega))), ⟨(by first | exact ok_469 ha_p1.1 f_11.1 c_13 ty_17 | omega), (by first | exact ok_470 f_11.2 ty_17 | omega)⟩, (hX_10.st (St_k_wWin_2_1_mk ⟨x_9, G_5, y_17, G_5, rfl, rfl, f_11, hB_G_5, ⟨c_13, ⟨y_15, ey_15, (Or.inr ⟨c_16, ⟨y_17, ty_17, ⟨rfl, rfl⟩⟩⟩)⟩⟩⟩)), hW, hB_G_5, hF, (Fr.call9 (rs := [40, 42, 43, 46, 47]) (fs := []) Fr.rf hq_6 rfl rfl), hS, lv_sub hl [0, 1, 2, 3, 4] rfl⟩
    · have c_16 : y_15.toInt = p1.toInt := xI_eq rfl rfl c_16
      refine lv_aload_n hx hb dX11_winningRule_29 rfl (lv_at hl 2 rfl) ?_
      refine S_getR (n := 8) (C := RX11) (T := TX11) (N := 13) hx hb hg iX11 hown hK hW kd_0 rfl 6 (lt_b rfl) (hg (Cond.fieldLink RX11 51 "SlabWalk" "trails" "LSlabWalk$Trails;") m576) (fun _ h9 => h9) rfl dX11_winningRule_30 ?_
      refine S_getR (n := 46) (C := RX10) (T := TX10) (N := 5) hx hb hg iX10 hown hK hW kd_8 rfl 3 (lt_b rfl) (hg (Cond.fieldLink RX11 347 "SlabWalk$Trails" "winning" "[I") m444) (fun _ h9 => h9) rfl dX11_winningRule_33 ?_
      refine lv_iload hx hb dX11_winningRule_36 (lv_at hl 0 rfl) ?_
      refine lv_aload_n hx hb dX11_winningRule_38 rfl (lv_at hl 2 rfl) ?_
      refine S_getR (n := 8) (C := RX11) (T := TX11) (N := 13) hx hb hg iX11 hown hK hW kd_0 rfl 6 (lt_b rfl) (hg (Cond.fieldLink RX11 51 "SlabWalk" "trails" "LSlabWalk$Trails;") m576) (fun _ h9 => h9) rfl dX11_winningRule_39 ?_
      refine lv_iload hx hb dX11_winningRule_42 (lv_at hl 0 rfl) ?_
      refine lv_iload_n hx hb dX11_winningRule_44 rfl (lv_at hl 1 rfl) ?_
      refine S_calli (va_runV (As := [.int x_9, .int y_4]) (rest := [.int x_9, .ref (a 46)]) ⟨hx, hb, hml, hown, hts⟩ (k_tWin l D k A a z G_5 x_9 y_4 ⟨(by first | exact ok_471 ha_p1.1 f_11.1 c_13 | omega), (by first | exact f_11.2 | omega)⟩ ⟨(by first | exact ok_277 ty_3.1 ty_4 | omega), (by first | exact ok_465 ty_3.2 ty_4 | omega)⟩) (cwV 2 hts (gd_V hgd m1150 m1151 m1152 m124 m1153) rfl rfl rfl hd_X10_winningFrom ⟨Nat.le_of_ble_eq_true rfl, Nat.le_of_ble_eq_true rfl⟩) (pre_W hW hB_G_5 hK hZ hS kd_8 rfl) rfl rfl hl.1 rfl (lv_room (Nat.le_of_ble_eq_true rfl)) dX11_winningRule_45 ⟨Nat.le_of_ble_eq_true rfl, Nat.le_of_ble_eq_true rfl⟩) hS (fun r_18 G_19 H locs hpo hW hS => ?_)
      have hX_22 : P_tWin x_9 y_4 G_5 r_18 G_19 := hpo
      obtain ⟨hB_G_19, hq_20, -⟩ := hpo
      have hF := hF.call9 hq_20 rfl rfl
      refine S_iast hx hb hK hW hS kd_46 (vin ((by first | exact ok_471 ha_p1.1 f_11.1 c_13 | omega)) ((by first | exact ok_380 f_11.2 | omega))) dX11_winningRule_48 (fun G_23 H locs eG_23 hW hS => ?_)
      have hB_G_23 : Bd G_23 := hB_G_19.put (lo := (-2147483648)) (hi := 2147483647) eG_23 rfl rfl rfl (tI_rng _).1 (tI_rng _).2 (hB_G_19.2.put eG_23 rfl)
      have hF := hF.put eG_23 (Or.inl (by decide))
      refine lv_aload_n hx hb dX11_winningRule_49 rfl (lv_at hl 2 rfl) ?_
      refine S_getR (n := 8) (C := RX11) (T := TX11) (N := 13) hx hb hg iX11 hown hK hW kd_0 rfl 6 (lt_b rfl) (hg (Cond.fieldLink RX11 51 "SlabWalk" "trails" "LSlabWalk$Trails;") m576) (fun _ h9 => h9) rfl dX11_winningRule_50 ?_
      refine S_getR (n := 47) (C := RX10) (T := TX10) (N := 5) hx hb hg iX10 hown hK hW kd_8 rfl 4 (lt_b rfl) (hg (Cond.fieldLink RX11 353 "SlabWalk$Trails" "leaving" "[Z") m446) (fun _ h9 => h9) rfl dX11_winningRule_53 ?_
      refine lv_iload hx hb dX11_winningRule_56 (lv_at hl 0 rfl) ?_
      refine lv_aload_n hx hb dX11_winningRule_58 rfl (lv_at hl 2 rfl) ?_
      refine lv_iload_n hx hb dX11_winningRule_59 rfl (lv_at hl 3 rfl) ?_
      refine lv_iload hx hb dX11_winningRule_60 (lv_at hl 0 rfl) ?_
      have b_24 : 0 ≤ (G.1 7 3).toInt ∧ (G.1 7 3).toInt ≤ 60 := bd_7_3 hB_G
      have g_25 : (G_23.1 7 3).toInt = (G.1 7 3).toInt := (congrArg Int32.toInt (show G_23.1 7 3 = (G.1 7 3) from ((gp_ne eG_23 (fun q => absurd q.1 (Nat.ne_of_beq_eq_false rfl))).trans ((hq_20.i9 7 3 rfl rfl).trans (hq_6.i9 7 3 rfl rfl)))))
      have b_26 : 0 ≤ (G.1 7 4).toInt ∧ (G.1 7 4).toInt ≤ 60 := bd_7_4 hB_G
      have g_27 : (G_23.1 7 4).toInt = (G.1 7 4).toInt := (congrArg Int32.toInt (show G_23.1 7 4 = (G.1 7 4) from ((gp_ne eG_23 (fun q => absurd q.1 (Nat.ne_of_beq_eq_false rfl))).trans ((hq_20.i9 7 4 rfl rfl).trans (hq_6.i9 7 4 rfl rfl)))))
      have g_28 : (G_23.1 7 6).toInt = (G.1 7 6).toInt := (congrArg Int32.toInt (show G_23.1 7 6 = (G.1 7 6) from ((gp_ne eG_23 (fun q => absurd q.1 (Nat.ne_of_beq_eq_false rfl))).trans ((hq_20.i9 7 6 rfl rfl).trans ((hq_6.i9 7 6 rfl rfl).trans (rfl))))))
      have b_29 : 0 ≤ (G.1 7 7).toInt ∧ (G.1 7 7).toInt ≤ 400 := bd_7_7 hB_G
      have g_30 : (G_23.1 7 7).toInt = (G.1 7 7).toInt := (congrArg Int32.toInt (show G_23.1 7 7 = (G.1 7 7) from ((gp_ne eG_23 (fun q => absurd q.1 (Nat.ne_of_beq_eq_false rfl))).trans ((hq_20.i9 7 7 rfl rfl).trans (hq_6.i9 7 7 rfl rfl)))))
      refine S_calli (va_runV (As := [.int p0, .int x_9]) (rest := [.int x_9, .ref (a 47)]) ⟨hx, hb, hml, hown, hts⟩ (k_wLeaves_2 l D k A a z G_23 p0 x_9 ((((congrFun (congrFun (congrArg (fun q => q.2.2) eG_23) 0) 0).trans ((hq_20.r9 0 0 rfl rfl).trans (hq_6.r9 0 0 rfl rfl)))).trans (hv_0_0)) ((((congrFun (congrFun (congrArg (fun q => q.2.2) eG_23) 0) 1).trans ((hq_20.r9 0 1 rfl rfl).trans (hq_6.r9 0 1 rfl rfl)))).trans (hv_0_1)) ((((congrFun (congrFun (congrArg (fun q => q.2.2) eG_23) 6) 4).trans ((hq_20.r9 6 4 rfl rfl).trans (hq_6.r9 6 4 rfl rfl)))).trans (hv_6_4)) ((by first | exact ⟨(by first | exact ok_235 hci.1 g_28 | omega), ⟨(by first | exact ok_185 hci.2.1 g_25 g_27 | omega), (by first | exact ok_236 hci.2.2 g_27 g_28 g_30 | omega)⟩⟩ | omega))) (cwV 2 hts (gd_V hgd m1154 m1156 m42 m117 m1157) rfl rfl rfl hd_X11_leavesWay ⟨Nat.le_of_ble_eq_true rfl, Nat.le_of_ble_eq_true rfl⟩) (pre_W hW hB_G_23 hK hZ hS kd_0 rfl) rfl rfl hl.1 rfl (lv_room (Nat.le_of_ble_eq_true rfl)) dX11_winningRule_62 ⟨Nat.le_of_ble_eq_true rfl, Nat.le_of_ble_eq_true rfl⟩) hS (fun r_31 G_32 H locs hpo hW hS => ?_)
      have hX_35 : P_wLeaves_2 p0 x_9 G_23 r_31 G_32 := hpo
      obtain ⟨hB_G_32, hq_33, f_36, hp_34, -⟩ := hpo
      have hF := hF.call9 hq_33 rfl rfl
      refine S_zast hx hb hK hW hS kd_47 (vin ((by first | exact ok_471 ha_p1.1 f_11.1 c_13 | omega)) ((by first | exact ok_380 f_11.2 | omega))) dX11_winningRule_65 (fun G_37 H locs eG_37 hW hS => ?_)
      have hB_G_37 : Bd G_37 := hB_G_32.put (lo := 0) (hi := 1) eG_37 rfl rfl rfl nz_bool.1 nz_bool.2 (hB_G_32.2.put eG_37 rfl)
      have hF := hF.put eG_37 (Or.inl (by decide))
      obtain ⟨y_38, ey_38⟩ : ∃ q, q = x_9 + (-1) := ⟨_, rfl⟩
      have ty_38 : y_38.toInt = x_9.toInt + (-1) := xI_add rfl rfl ey_38 ((by first | exact ok_466 f_11.1 | omega)) ((by first | exact ok_467 f_11.2 | omega))
      refine lv_iinc (v := y_38) (lv' := [(4, .int y_38), (3, .int y_4), (0, .ref (a 0)), (1, .int p0), (2, .int p1)]) hx hb dX11_winningRule_66 hl (k := 0) rfl (by rw [ey_38]; rfl) (lt_b rfl) rfl (fun ls hl => ?_)
      refine lv_goto (tgt := 15) hx hb dX11_winningRule_69 rfl ?_
      exact ih_7 (y_38.toInt - (-1) : Int).toNat ((by first | (clear hci b_1 b_2 ty_3 ty_4 b_24 g_25 b_26 g_27 g_28 b_29 g_30 f_36 hp_34; omega) | omega)) _ _ _ ⟨G_37, y_38, (Int.toNat_of_nonneg ((by first | exact ok_468 ha_p1.1 f_11.1 c_13 ty_38 | omega))), ⟨(by first | exact ok_469 ha_p1.1 f_11.1 c_13 ty_38 | omega), (by first | exact ok_470 f_11.2 ty_38 | omega)⟩, (hX_10.st (St_k_wWin_2_1_mk ⟨x_9, G_5, y_38, G_37, rfl, rfl, f_11, hB_G_5, ⟨c_13, ⟨y_15, ey_15, (Or.inl ⟨c_16, ⟨r_18, G_19, hX_22, ⟨G_23, hB_G_23, (Fr.put (rs := [46]) (fs := []) Fr.rf eG_23 (Or.inl (by decide))), rw_ast eG_23, ⟨r_31, G_32, hX_35, ⟨y_38, ty_38, ⟨rfl, (Fr.put (rs := [47]) (fs := []) Fr.rf eG_37 (Or.inl (by decide))), rw_ast eG_37⟩⟩⟩⟩⟩⟩)⟩⟩⟩)), hW, hB_G_37, hF, (Fr.put (rs := [40, 42, 43, 46, 47]) (fs := []) (Fr.call9 (rs := [40, 42, 43, 46, 47]) (fs := []) (Fr.put (rs := [40, 42, 43, 46, 47]) (fs := []) (Fr.call9 (rs := [40, 42, 43, 46, 47]) (fs := []) (Fr.call9 (rs := [40, 42, 43, 46, 47]) (fs := []) Fr.rf hq_6 rfl rfl) hq_20 rfl rfl) eG_23 (Or.inl (by decide))) hq_33 rfl rfl) eG_37 (Or.inl (by decide))), hS, lv_sub hl [0, 1, 2, 3, 4] rfl⟩

set_option maxHeartbeats 4000000 in
set_option maxRecDepth 100000 in
theorem k_wLSight_2 (l : Launch) (D : va_G) (k : KT) (A : Nat → Prop) (a : Nat → Nat) (z : SK) (G : GS) (p0 : Int32) (p1 : Int32) (p2 : Int32) (ha_p0 : 0 ≤ p0.toInt ∧ p0.toInt ≤ 19) (ha_p2 : -3 ≤ p2.toInt ∧ p2.toInt ≤ 3) (hv_0_0 : G.2.2 0 0 = 2) (hv_0_1 : G.2.2 0 1 = 1) (hv_6_4 : G.2.2 6 4 = 2) : Met l yX11_isLawfulSight (WS yX11_isLawfulSight cX11_isLawfulSight 5 (some .boolean)) ({ frames := 4, cells := 0, slots := 0, locals := 96 }) (va_Pc [.ref (a 0), .int p0, .int p1, .int p2] (cW D k A a z G)) (va_Qi (fun (r : Int32) (G1 : GS) => P_wLSight_2 p0 p1 p2 G r G1) (fun (G1 : GS) t => Wd D k A a G1 t.heap) A) 0 0 A := by
  refine Met.ofW (cc := cX11_isLawfulSight) (maxL := 5) (ret := (some .boolean)) (by decide) rfl ?_
  intro p e s m args below meth c s₁ B hml hv
  obtain ⟨rfl, hW, hB_G, hK, hZ⟩ := hv
  have hx := B.exec
  have hb := B.bytes
  have hr := B.returns
  have hts := atoms_spec (ws := WS yX11_isLawfulSight cX11_isLawfulSight 5 (some .boolean)) B.pre
  have hgd : ∀ w ∈ gd, w ∈ WS yX11_isLawfulSight cX11_isLawfulSight 5 (some .boolean) := fun w h => List.mem_cons_of_mem _ h
  have hg : ∀ w ∈ gd, w.before _ s = true := fun w h => hts w (hgd w h)
  have hown : s.vm.findClass RX11 = some m.cls := findClass_of_methodNamed B.named
  have hS : va_S A s.heap s.heap [] := va_S.rf
  have hF : Fr [37, 38, 39] [(6, 3)] G G := Fr.rf
  have hl := lv_entry ([.ref (a 0), .int p0, .int p1, .int p2]) (n := 5) (Nat.le_of_ble_eq_true rfl)
  rw [lg_entry_eq]
  generalize (lg_sl ([.ref (a 0), .int p0, .int p1, .int p2]) ++ List.replicate (5 - (lg_sl ([.ref (a 0), .int p0, .int p1, .int p2])).length) Slot.unset).toArray = ls at hl ⊢
  have hl : lv_has ls 5 [(0, .ref (a 0)), (1, .int p0), (2, .int p1), (3, .int p2)] := hl
  refine lv_aload_n hx hb dX11_isLawfulSight_0 rfl (lv_at hl 0 rfl) ?_
  refine S_getR (n := 31) (C := RX11) (T := TX11) (N := 13) hx hb hg iX11 hown hK hW kd_0 rfl 9 (lt_b rfl) (hg (Cond.fieldLink RX11 72 "SlabWalk" "sights" "LSlabWalk$Sights;") m579) (fun _ h9 => h9) rfl dX11_isLawfulSight_1 ?_
  refine S_getR (n := 63) (C := RX8) (T := TX8) (N := 7) hx hb hg iX8 hown hK hW kd_31 rfl 2 (lt_b rfl) (hg (Cond.fieldLink RX11 359 "SlabWalk$Sights" "heel" "[I") m525) (fun _ h9 => h9) rfl dX11_isLawfulSight_4 ?_
  refine lv_iload_n hx hb dX11_isLawfulSight_7 rfl (lv_at hl 1 rfl) ?_
  refine S_iald hx hb hK hW kd_63 (vin ((by first | exact ha_p0.1 | omega)) ((by first | exact ok_199 ha_p0.2 | omega))) dX11_isLawfulSight_8 (fun y_1 ey_1 => ?_)
  refine lv_iload_n hx hb dX11_isLawfulSight_9 rfl (lv_at hl 3 rfl) ?_
  refine lv_iadd hx hb dX11_isLawfulSight_10 ?_
  refine lv_topi (fun y_2 ey_2 => ?_)
  refine lv_istore (lv' := [(4, .int y_2), (0, .ref (a 0)), (1, .int p0), (2, .int p1), (3, .int p2)]) hx hb dX11_isLawfulSight_11 hl (lt_b rfl) rfl (fun ls hl => ?_)
  refine lv_aload_n hx hb dX11_isLawfulSight_13 rfl (lv_at hl 1 rfl) ?_
  refine S_getR (n := 6) (C := RX11) (T := TX11) (N := 13) hx hb hg iX11 hown hK hW kd_0 rfl 4 (lt_b rfl) (hg (Cond.fieldLink RX11 37 "SlabWalk" "lines" "LSlabWalk$Lines;") m574) (fun _ h9 => h9) rfl dX11_isLawfulSight_14 ?_
  refine lv_aload_n hx hb dX11_isLawfulSight_17 rfl (lv_at hl 1 rfl) ?_
  refine S_getR (n := 31) (C := RX11) (T := TX11) (N := 13) hx hb hg iX11 hown hK hW kd_0 rfl 9 (lt_b rfl) (hg (Cond.fieldLink RX11 72 "SlabWalk" "sights" "LSlabWalk$Sights;") m579) (fun _ h9 => h9) rfl dX11_isLawfulSight_18 ?_
  refine S_getR (n := 62) (C := RX8) (T := TX8) (N := 7) hx hb hg iX8 hown hK hW kd_31 rfl 1 (lt_b rfl) (hg (Cond.fieldLink RX11 362 "SlabWalk$Sights" "street" "[I") m523) (fun _ h9 => h9) rfl dX11_isLawfulSight_21 ?_
  refine lv_iload_n hx hb dX11_isLawfulSight_24 rfl (lv_at hl 2 rfl) ?_
  refine S_iald hx hb hK hW kd_62 (vin ((by first | exact ha_p0.1 | omega)) ((by first | exact ok_199 ha_p0.2 | omega))) dX11_isLawfulSight_25 (fun y_3 ey_3 => ?_)
  refine lv_aload_n hx hb dX11_isLawfulSight_26 rfl (lv_at hl 1 rfl) ?_
  refine S_calli (va_runV (As := []) (rest := [.int y_3, .ref (a 6)]) ⟨hx, hb, hml, hown, hts⟩ (k_wToday l D k A a z G  ) (cwV 0 hts (gd_V hgd m911 m913 m27 m117 m914) rfl rfl rfl hd_X11_today ⟨Nat.le_of_ble_eq_true rfl, Nat.le_of_ble_eq_true rfl⟩) (pre_W hW hB_G hK hZ hS kd_0 rfl) rfl rfl hl.1 rfl (lv_room (Nat.le_of_ble_eq_true rfl)) dX11_isLawfulSight_27 ⟨Nat.le_of_ble_eq_true rfl, Nat.le_of_ble_eq_true rfl⟩) hS (fun r_4 G_5 H locs hpo hW hS => ?_)
  have hX_8 : P_wToday G r_4 G_5 := hpo
  obtain ⟨hB_G_5, hq_6, -⟩ := hpo
  have hF := hF.call9 hq_6 rfl rfl
  refine S_callv (va_runV (As := [.int y_3, .int r_4]) (rest := []) ⟨hx, hb, hml, hown, hts⟩ (k_lFind_2 l D k A a z G_5 y_3 r_4 (((hq_6.r9 6 4 rfl rfl)).trans (hv_6_4))) (cwV 2 hts (gd_V hgd m915 m916 m917 m122 m918) rfl rfl rfl hd_X3_findFor ⟨Nat.le_of_ble_eq_true rfl, Nat.le_of_ble_eq_true rfl⟩) (pre_W hW hB_G_5 hK hZ hS kd_6 rfl) rfl rfl hl.1 rfl (lv_room (Nat.le_of_ble_eq_true rfl)) dX11_isLawfulSight_30 ⟨Nat.le_of_ble_eq_true rfl, Nat.le_of_ble_eq_true rfl⟩) hS (fun G_10 H locs hpo hW hS => ?_)
  have hX_13 : P_lFind_2 y_3 r_4 G_5 G_10 := hpo
  obtain ⟨hB_G_10, hq_11, -⟩ := hpo
  have hF := hF.call9 hq_11 rfl rfl
  refine lv_aload_n hx hb dX11_isLawfulSight_33 rfl (lv_at hl 1 rfl) ?_
  refine S_getR (n := 6) (C := RX11) (T := TX11) (N := 13) hx hb hg iX11 hown hK hW kd_0 rfl 4 (lt_b rfl) (hg (Cond.fieldLink RX11 37 "SlabWalk" "lines" "LSlabWalk$Lines;") m574) (fun _ h9 => h9) rfl dX11_isLawfulSight_34 ?_
  refine lv_aload_n hx hb dX11_isLawfulSight_37 rfl (lv_at hl 1 rfl) ?_
  refine S_getR (n := 31) (C := RX11) (T := TX11) (N := 13) hx hb hg iX11 hown hK hW kd_0 rfl 9 (lt_b rfl) (hg (Cond.fieldLink RX11 72 "SlabWalk" "sights" "LSlabWalk$Sights;") m579) (fun _ h9 => h9) rfl dX11_isLawfulSight_38 ?_
  refine S_getR (n := 61) (C := RX8) (T := TX8) (N := 7) hx hb hg iX8 hown hK hW kd_31 rfl 0 (lt_b rfl) (hg (Cond.fieldLink RX11 365 "SlabWalk$Sights" "walker" "[I") m521) (fun _ h9 => h9) rfl dX11_isLawfulSight_41 ?_
  refine lv_iload_n hx hb dX11_isLawfulSight_44 rfl (lv_at hl 2 rfl) ?_
  refine S_iald hx hb hK hW kd_61 (vin ((by first | exact ha_p0.1 | omega)) ((by first | exact ok_199 ha_p0.2 | omega))) dX11_isLawfulSight_45 (fun y_14 ey_14 => ?_)
  refine lv_aload_n hx hb dX11_isLawfulSight_46 rfl (lv_at hl 1 rfl) ?_
  refine S_getR (n := 31) (C := RX11) (T := TX11) (N := 13) hx hb hg iX11 hown hK hW kd_0 rfl 9 (lt_b rfl) (hg (Cond.fieldLink RX11 72 "SlabWalk" "sights" "LSlabWalk$Sights;") m579) (fun _ h9 => h9) rfl dX11_isLawfulSight_47 ?_
  refine S_getR (n := 62) (C := RX8) (T := TX8) (N := 7) hx hb hg iX8 hown hK hW kd_31 rfl 1 (lt_b rfl) (hg (Cond.fieldLink RX11 362 "SlabWalk$Sights" "street" "[I") m523) (fun _ h9 => h9) rfl dX11_isLawfulSight_50 ?_
  refine lv_iload_n hx hb dX11_isLawfulSight_53 rfl (lv_at hl 2 rfl) ?_
  refine S_iald hx hb hK hW kd_62 (vin ((by first | exact ha_p0.1 | omega)) ((by first | exact ok_199 ha_p0.2 | omega))) dX11_isLawfulSight_54 (fun y_15 ey_15 => ?_)
  refine ic_1 hx hb dX11_isLawfulSight_55 ?_
  refine lv_iload_n hx hb dX11_isLawfulSight_56 rfl (lv_at hl 3 rfl) ?_
  refine lv_ishl hx hb dX11_isLawfulSight_57 ?_
  refine lv_topi (fun y_16 ey_16 => ?_)
  refine lv_iload hx hb dX11_isLawfulSight_58 (lv_at hl 0 rfl) ?_
  refine S_calli (va_runV (As := [.int y_14, .int y_15, .int y_16, .int y_2]) (rest := []) ⟨hx, hb, hml, hown, hts⟩ (k_lIsLawful_2 l D k A a z G_10 y_14 y_15 y_16 y_2 ((((hq_11.r9 6 4 rfl rfl).trans (hq_6.r9 6 4 rfl rfl))).trans (hv_6_4))) (cwV 4 hts (gd_V hgd m961 m962 m963 m122 m964) rfl rfl rfl hd_X3_isLawful ⟨Nat.le_of_ble_eq_true rfl, Nat.le_of_ble_eq_true rfl⟩) (pre_W hW hB_G_10 hK hZ hS kd_6 rfl) rfl rfl hl.1 rfl (lv_room (Nat.le_of_ble_eq_true rfl)) dX11_isLawfulSight_60 ⟨Nat.le_of_ble_eq_true rfl, Nat.le_of_ble_eq_true rfl⟩) hS (fun r_17 G_18 H locs hpo hW hS => ?_)
  have hX_21 : P_lIsLawful_2 y_14 y_15 y_16 y_2 G_10 r_17 G_18 := hpo
  obtain ⟨hB_G_18, hq_19, f_22, -⟩ := hpo
  have hF := hF.call9 hq_19 rfl rfl
  exact W.zret (v := r_17) hx hb hr (nar_z ((by first | exact f_22.1 | omega)) ((by first | exact f_22.2 | omega))) (fun t ht _ => ⟨⟨r_17, G_18, rfl, (P_wLSight_2_mk ⟨hB_G_18, hF, ⟨(by first | exact f_22.1 | omega), (by first | exact f_22.2 | omega)⟩, ⟨y_1, ey_1, ⟨y_2, ey_2, ⟨y_3, ey_3, ⟨r_4, G_5, hX_8, ⟨G_10, hX_13, ⟨y_14, ey_14, ⟨y_15, ey_15, ⟨y_16, ey_16, ⟨r_17, G_18, hX_21, ⟨rfl, rfl⟩⟩⟩⟩⟩⟩⟩⟩⟩⟩⟩), wd_t ht hW⟩, hS.F ht⟩) hS.2.2 dX11_isLawfulSight_63

set_option maxHeartbeats 4000000 in
set_option maxRecDepth 100000 in
theorem k_wFitsAll_2 (l : Launch) (D : va_G) (k : KT) (A : Nat → Prop) (a : Nat → Nat) (z : SK) (G : GS) (p0 : Int32) (p1 : Int32) (hv_0_0 : G.2.2 0 0 = 2) (hv_0_1 : G.2.2 0 1 = 1) (hv_6_4 : G.2.2 6 4 = 2) : Met l yX11_fitsAll (WS yX11_fitsAll cX11_fitsAll 4 (some .boolean)) ({ frames := 5, cells := 0, slots := 0, locals := 120 }) (va_Pc [.ref (a 0), .int p0, .int p1] (cW D k A a z G)) (va_Qi (fun (r : Int32) (G1 : GS) => P_wFitsAll_2 p0 p1 G r G1) (fun (G1 : GS) t => Wd D k A a G1 t.heap) A) 0 0 A := by
  refine Met.ofW (cc := cX11_fitsAll) (maxL := 4) (ret := (some .boolean)) (by decide) rfl ?_
  intro p e s m args below meth c s₁ B hml hv
  obtain ⟨rfl, hW, hB_G, hK, hZ⟩ := hv
  have hx := B.exec
  have hb := B.bytes
  have hr := B.returns
  have hts := atoms_spec (ws := WS yX11_fitsAll cX11_fitsAll 4 (some .boolean)) B.pre
  have hgd : ∀ w ∈ gd, w ∈ WS yX11_fitsAll cX11_fitsAll 4 (some .boolean) := fun w h => List.mem_cons_of_mem _ h
  have hg : ∀ w ∈ gd, w.before _ s = true := fun w h => hts w (hgd w h)
  have hown : s.vm.findClass RX11 = some m.cls := findClass_of_methodNamed B.named
  have hS : va_S A s.heap s.heap [] := va_S.rf
  have hF : Fr [37, 38, 39] [(6, 3)] G G := Fr.rf
  have hl := lv_entry ([.ref (a 0), .int p0, .int p1]) (n := 4) (Nat.le_of_ble_eq_true rfl)
  rw [lg_entry_eq]
  generalize (lg_sl ([.ref (a 0), .int p0, .int p1]) ++ List.replicate (4 - (lg_sl ([.ref (a 0), .int p0, .int p1])).length) Slot.unset).toArray = ls at hl ⊢
  have hl : lv_has ls 4 [(0, .ref (a 0)), (1, .int p0), (2, .int p1)] := hl
  refine ic_0 hx hb dX11_fitsAll_0 ?_
  refine lv_istore_n (lv' := [(3, .int 0), (0, .ref (a 0)), (1, .int p0), (2, .int p1)]) hx hb dX11_fitsAll_1 rfl hl (lt_b rfl) rfl (fun ls hl => ?_)
  have qc_7 : (0 : Int32).toInt = 0 := rfl
  refine loop_N (Inv := fun n H locs ls => ∃ (G_1 : GS) (x_5 : Int32), (n : Int) = 20 - x_5.toInt ∧ (0 ≤ x_5.toInt ∧ x_5.toInt ≤ 20) ∧ Rc (St_k_wFitsAll_2_1 p0 p1 G) (0, G) (x_5, G_1) ∧ Wd D k A a G_1 H ∧ Bd G_1 ∧ Fr [37, 38, 39] [(6, 3)] G G_1 ∧ Fr [37, 38, 39] [(6, 3)] G G_1 ∧ va_S A s.heap H locs ∧ lv_has ls 4 [(3, .int x_5), (0, .ref (a 0)), (1, .int p0), (2, .int p1)]) (fun n_4 H locs ls ih_3 hI => ?_) (20 - 0 : Int).toNat ⟨G, 0, (Int.toNat_of_nonneg ((by decide))), ⟨(by decide), (by decide)⟩, Rc.rf, hW, hB_G, hF, Fr.rf, hS, lv_sub hl [0, 1, 2, 3] rfl⟩
  obtain ⟨G_1, x_5, hn_9, f_8, hX_6, hW, hB_G_1, hF, hq_2, hS, hl⟩ := hI
  refine lv_iload_n hx hb dX11_fitsAll_2 rfl (lv_at hl 0 rfl) ?_
  refine lv_aload_n hx hb dX11_fitsAll_3 rfl (lv_at hl 1 rfl) ?_
  refine S_getR (n := 31) (C := RX11) (T := TX11) (N := 13) hx hb hg iX11 hown hK hW kd_0 rfl 9 (lt_b rfl) (hg (Cond.fieldLink RX11 72 "SlabWalk" "sights" "LSlabWalk$Sights;") m579) (fun _ h9 => h9) rfl dX11_fitsAll_4 ?_
  have b_10 : 0 ≤ (G.1 31 5).toInt ∧ (G.1 31 5).toInt ≤ 20 := bd_31_5 hB_G
  refine S_getI (v := (G.1 31 5)) (C := RX8) (T := TX8) (N := 7) hx hb hg iX8 hown hK hW kd_31 rfl 5 (lt_b rfl) (hg (Cond.fieldLink RX11 285 "SlabWalk$Sights" "count" "I") m529) (fun _ h9 => h9) rfl (hq_2.i9 31 5 rfl rfl) dX11_fitsAll_7 ?_
  refine lv_icmp_ge (tgt := 43) hx hb dX11_fitsAll_10 rfl (fun c_11 => ?_) (fun c_11 => ?_)
  · have c_11 : (G.1 31 5).toInt ≤ x_5.toInt := xI_le rfl rfl c_11
    refine ic_1 hx hb dX11_fitsAll_43 ?_
    exact W.zret (v := 1) hx hb hr (by decide) (fun t ht _ => ⟨⟨1, G_1, rfl, (P_wFitsAll_2_mk ⟨hB_G_1, hF, ⟨by decide, by decide⟩, ⟨x_5, G_1, hX_6, f_8, hB_G_1, hq_2, (Or.inl ⟨c_11, ⟨rfl, rfl⟩⟩)⟩⟩), wd_t ht hW⟩, hS.F ht⟩) hS.2.2 dX11_fitsAll_44
  · have c_11 : x_5.toInt < (G.1 31 5).toInt := xI_nle rfl rfl c_11
    refine lv_aload_n hx hb dX11_fitsAll_13 rfl (lv_at hl 1 rfl) ?_
    refine S_getR (n := 31) (C := RX11) (T := TX11) (N := 13) hx hb hg iX11 hown hK hW kd_0 rfl 9 (lt_b rfl) (hg (Cond.fieldLink RX11 72 "SlabWalk" "sights" "LSlabWalk$Sights;") m579) (fun _ h9 => h9) rfl dX11_fitsAll_14 ?_
    refine lv_iload_n hx hb dX11_fitsAll_17 rfl (lv_at hl 0 rfl) ?_
    refine lv_iload_n hx hb dX11_fitsAll_18 rfl (lv_at hl 3 rfl) ?_
    refine S_calli (va_runV (As := [.int x_5, .int p1]) (rest := []) ⟨hx, hb, hml, hown, hts⟩ (k_sCounts l D k A a z G_1 x_5 p1 ⟨(by first | exact f_8.1 | omega), (by first | exact ok_472 f_8.2 b_10.2 c_11 | omega)⟩) (cwV 2 hts (gd_V hgd m1271 m1272 m1273 m128 m1274) rfl rfl rfl hd_X8_counts ⟨Nat.le_of_ble_eq_true rfl, Nat.le_of_ble_eq_true rfl⟩) (pre_W hW hB_G_1 hK hZ hS kd_31 rfl) rfl rfl hl.1 rfl (lv_room (Nat.le_of_ble_eq_true rfl)) dX11_fitsAll_19 ⟨Nat.le_of_ble_eq_true rfl, Nat.le_of_ble_eq_true rfl⟩) hS (fun r_12 G_13 H locs hpo hW hS => ?_)
    have hX_16 : P_sCounts x_5 p1 G_1 r_12 G_13 := hpo
    obtain ⟨hB_G_13, hq_14, f_17, -⟩ := hpo
    have hF := hF.call9 hq_14 rfl rfl
    refine lv_if_eq (tgt := 37) hx hb dX11_fitsAll_22 rfl (fun c_18 => ?_) (fun c_18 => ?_)
    · have c_18 : r_12.toInt = 0 := xI_eq rfl rfl c_18
      obtain ⟨y_19, ey_19⟩ : ∃ q, q = x_5 + 1 := ⟨_, rfl⟩
      have ty_19 : y_19.toInt = x_5.toInt + 1 := xI_add rfl rfl ey_19 ((by first | exact ok_21 f_8.1 | omega)) ((by first | exact ok_196 f_8.2 | omega))
      refine lv_iinc (v := y_19) (lv' := [(3, .int y_19), (0, .ref (a 0)), (1, .int p0), (2, .int p1)]) hx hb dX11_fitsAll_37 hl (k := 0) rfl (by rw [ey_19]; rfl) (lt_b rfl) rfl (fun ls hl => ?_)
      refine lv_goto (tgt := 2) hx hb dX11_fitsAll_40 rfl ?_
      exact ih_3 (20 - y_19.toInt : Int).toNat (by omega) _ _ _ ⟨G_13, y_19, (Int.toNat_of_nonneg ((by first | exact ok_473 f_8.2 b_10.2 c_11 ty_19 | omega))), ⟨(by first | exact ok_23 f_8.1 ty_19 | omega), (by first | exact ok_474 f_8.2 b_10.2 c_11 ty_19 | omega)⟩, (hX_6.st (St_k_wFitsAll_2_1_mk ⟨x_5, G_1, y_19, G_13, rfl, rfl, f_8, hB_G_1, ⟨c_11, ⟨r_12, G_13, hX_16, (Or.inl ⟨c_18, ⟨y_19, ty_19, ⟨rfl, rfl⟩⟩⟩)⟩⟩⟩)), hW, hB_G_13, hF, (Fr.call9 (rs := [37, 38, 39]) (fs := [(6, 3)]) (Fr.call9 (rs := [37, 38, 39]) (fs := [(6, 3)]) Fr.rf hq_2 rfl rfl) hq_14 rfl rfl), hS, lv_sub hl [0, 1, 2, 3] rfl⟩
    · have c_18 : r_12.toInt ≠ 0 := xI_ne rfl rfl c_18
      refine lv_aload_n hx hb dX11_fitsAll_25 rfl (lv_at hl 1 rfl) ?_
      refine lv_iload_n hx hb dX11_fitsAll_26 rfl (lv_at hl 0 rfl) ?_
      refine lv_iload_n hx hb dX11_fitsAll_27 rfl (lv_at hl 2 rfl) ?_
      refine ic_0 hx hb dX11_fitsAll_28 ?_
      refine S_calli (va_runV (As := [.int x_5, .int p0, .int 0]) (rest := []) ⟨hx, hb, hml, hown, hts⟩ (k_wLSight_2 l D k A a z G_13 x_5 p0 0 ⟨(by first | exact f_8.1 | omega), (by first | exact ok_472 f_8.2 b_10.2 c_11 | omega)⟩ ⟨by decide, by decide⟩ ((((hq_14.r9 0 0 rfl rfl).trans (hq_2.r9 0 0 rfl rfl))).trans (hv_0_0)) ((((hq_14.r9 0 1 rfl rfl).trans (hq_2.r9 0 1 rfl rfl))).trans (hv_0_1)) ((((hq_14.r9 6 4 rfl rfl).trans (hq_2.r9 6 4 rfl rfl))).trans (hv_6_4))) (cwV 3 hts (gd_V hgd m1275 m1277 m46 m117 m1278) rfl rfl rfl hd_X11_isLawfulSight ⟨Nat.le_of_ble_eq_true rfl, Nat.le_of_ble_eq_true rfl⟩) (pre_W hW hB_G_13 hK hZ hS kd_0 rfl) rfl rfl hl.1 rfl (lv_room (Nat.le_of_ble_eq_true rfl)) dX11_fitsAll_29 ⟨Nat.le_of_ble_eq_true rfl, Nat.le_of_ble_eq_true rfl⟩) hS (fun r_20 G_21 H locs hpo hW hS => ?_)
      have hX_24 : P_wLSight_2 x_5 p0 0 G_13 r_20 G_21 := hpo
      obtain ⟨hB_G_21, hq_22, f_25, -⟩ := hpo
      have hF := hF.call9 hq_22 rfl rfl
      refine lv_if_ne (tgt := 37) hx hb dX11_fitsAll_32 rfl (fun c_26 => ?_) (fun c_26 => ?_)
      · have c_26 : r_20.toInt ≠ 0 := xI_ne rfl rfl c_26
        obtain ⟨y_27, ey_27⟩ : ∃ q, q = x_5 + 1 := ⟨_, rfl⟩
        have ty_27 : y_27.toInt = x_5.toInt + 1 := xI_add rfl rfl ey_27 ((by first | exact ok_21 f_8.1 | omega)) ((by first | exact ok_196 f_8.2 | omega))
        refine lv_iinc (v := y_27) (lv' := [(3, .int y_27), (0, .ref (a 0)), (1, .int p0), (2, .int p1)]) hx hb dX11_fitsAll_37 hl (k := 0) rfl (by rw [ey_27]; rfl) (lt_b rfl) rfl (fun ls hl => ?_)
        refine lv_goto (tgt := 2) hx hb dX11_fitsAll_40 rfl ?_
        exact ih_3 (20 - y_27.toInt : Int).toNat ((by first | (clear f_17 c_18 f_25 c_26; omega) | omega)) _ _ _ ⟨G_21, y_27, (Int.toNat_of_nonneg ((by first | exact ok_473 f_8.2 b_10.2 c_11 ty_27 | omega))), ⟨(by first | exact ok_23 f_8.1 ty_27 | omega), (by first | exact ok_474 f_8.2 b_10.2 c_11 ty_27 | omega)⟩, (hX_6.st (St_k_wFitsAll_2_1_mk ⟨x_5, G_1, y_27, G_21, rfl, rfl, f_8, hB_G_1, ⟨c_11, ⟨r_12, G_13, hX_16, (Or.inr ⟨c_18, ⟨r_20, G_21, hX_24, ⟨c_26, ⟨y_27, ty_27, ⟨rfl, rfl⟩⟩⟩⟩⟩)⟩⟩⟩)), hW, hB_G_21, hF, (Fr.call9 (rs := [37, 38, 39]) (fs := [(6, 3)]) (Fr.call9 (rs := [37, 38, 39]) (fs := [(6, 3)]) (Fr.call9 (rs := [37, 38, 39]) (fs := [(6, 3)]) Fr.rf hq_2 rfl rfl) hq_14 rfl rfl) hq_22 rfl rfl), hS, lv_sub hl [0, 1, 2, 3] rfl⟩
      · have c_26 : r_20.toInt = 0 := xI_eq rfl rfl c_26
        refine ic_0 hx hb dX11_fitsAll_35 ?_
        exact W.zret (v := 0) hx hb hr (by decide) (fun t ht _ => ⟨⟨0, G_21, rfl, (P_wFitsAll_2_mk ⟨hB_G_21, hF, ⟨by decide, by decide⟩, ⟨x_5, G_1, hX_6, f_8, hB_G_1, hq_2, (Or.inr ⟨c_11, ⟨r_12, G_13, hX_16, ⟨c_18, ⟨r_20, G_21, hX_24, ⟨c_26, ⟨rfl, rfl⟩⟩⟩⟩⟩⟩)⟩⟩), wd_t ht hW⟩, hS.F ht⟩) hS.2.2 dX11_fitsAll_36

set_option maxHeartbeats 4000000 in
set_option maxRecDepth 100000 in
theorem k_wNear_2 (l : Launch) (D : va_G) (k : KT) (A : Nat → Prop) (a : Nat → Nat) (z : SK) (G : GS) (p0 : Int32) (p1 : Int32) (p2 : Int32) (ha_p0 : 0 ≤ p0.toInt ∧ p0.toInt ≤ 19) (ha_p2 : 0 ≤ p2.toInt ∧ p2.toInt ≤ 1) (hv_0_0 : G.2.2 0 0 = 2) (hv_0_1 : G.2.2 0 1 = 1) (hv_6_4 : G.2.2 6 4 = 2) : Met l yX11_heelsNear (WS yX11_heelsNear cX11_heelsNear 6 (some .int)) ({ frames := 5, cells := 0, slots := 0, locals := 120 }) (va_Pc [.ref (a 0), .int p0, .int p1, .int p2] (cW D k A a z G)) (va_Qi (fun (r : Int32) (G1 : GS) => P_wNear_2 p0 p1 p2 G r G1) (fun (G1 : GS) t => Wd D k A a G1 t.heap) A) 0 0 A := by
  refine Met.ofW (cc := cX11_heelsNear) (maxL := 6) (ret := (some .int)) (by decide) rfl ?_
  intro p e s m args below meth c s₁ B hml hv
  obtain ⟨rfl, hW, hB_G, hK, hZ⟩ := hv
  have hx := B.exec
  have hb := B.bytes
  have hr := B.returns
  have hts := atoms_spec (ws := WS yX11_heelsNear cX11_heelsNear 6 (some .int)) B.pre
  have hgd : ∀ w ∈ gd, w ∈ WS yX11_heelsNear cX11_heelsNear 6 (some .int) := fun w h => List.mem_cons_of_mem _ h
  have hg : ∀ w ∈ gd, w.before _ s = true := fun w h => hts w (hgd w h)
  have hown : s.vm.findClass RX11 = some m.cls := findClass_of_methodNamed B.named
  have hS : va_S A s.heap s.heap [] := va_S.rf
  have hF : Fr [37, 38, 39] [(6, 3)] G G := Fr.rf
  have hl := lv_entry ([.ref (a 0), .int p0, .int p1, .int p2]) (n := 6) (Nat.le_of_ble_eq_true rfl)
  rw [lg_entry_eq]
  generalize (lg_sl ([.ref (a 0), .int p0, .int p1, .int p2]) ++ List.replicate (6 - (lg_sl ([.ref (a 0), .int p0, .int p1, .int p2])).length) Slot.unset).toArray = ls at hl ⊢
  have hl : lv_has ls 6 [(0, .ref (a 0)), (1, .int p0), (2, .int p1), (3, .int p2)] := hl
  refine ic_0 hx hb dX11_heelsNear_0 ?_
  refine lv_istore (lv' := [(4, .int 0), (0, .ref (a 0)), (1, .int p0), (2, .int p1), (3, .int p2)]) hx hb dX11_heelsNear_1 hl (lt_b rfl) rfl (fun ls hl => ?_)
  refine lv_bipush (v := (-3)) hx hb dX11_heelsNear_3 (by decide) ?_
  refine lv_istore (lv' := [(5, .int (-3)), (4, .int 0), (0, .ref (a 0)), (1, .int p0), (2, .int p1), (3, .int p2)]) hx hb dX11_heelsNear_5 hl (lt_b rfl) rfl (fun ls hl => ?_)
  have qc_8 : ((-3) : Int32).toInt = (-3) := rfl
  have qc_9 : (0 : Int32).toInt = 0 := rfl
  refine loop_N (Inv := fun n H locs ls => ∃ (G_1 : GS) (x_5 : Int32) (x_6 : Int32), (n : Int) = 4 - x_5.toInt ∧ ((-3) ≤ x_5.toInt ∧ x_5.toInt ≤ 4) ∧ Rc (St_k_wNear_2_1 p0 p1 p2) ((-3), 0, G) (x_5, x_6, G_1) ∧ Wd D k A a G_1 H ∧ Bd G_1 ∧ Fr [37, 38, 39] [(6, 3)] G G_1 ∧ Fr [37, 38, 39] [(6, 3)] G G_1 ∧ va_S A s.heap H locs ∧ lv_has ls 6 [(5, .int x_5), (4, .int x_6), (0, .ref (a 0)), (1, .int p0), (2, .int p1), (3, .int p2)]) (fun n_4 H locs ls ih_3 hI => ?_) (4 - (-3) : Int).toNat ⟨G, (-3), 0, (Int.toNat_of_nonneg ((by decide))), ⟨(by decide), (by decide)⟩, Rc.rf, hW, hB_G, hF, Fr.rf, hS, lv_sub hl [0, 1, 2, 3, 4, 5] rfl⟩
  obtain ⟨G_1, x_5, x_6, hn_11, f_10, hX_7, hW, hB_G_1, hF, hq_2, hS, hl⟩ := hI
  refine lv_iload hx hb dX11_heelsNear_7 (lv_at hl 0 rfl) ?_
  refine ic_3 hx hb dX11_heelsNear_9 ?_
  refine lv_icmp_gt (tgt := 77) hx hb dX11_heelsNear_10 rfl (fun c_12 => ?_) (fun c_12 => ?_)
  · have c_12 : 3 < x_5.toInt := xI_lt rfl rfl c_12
    refine lv_iload hx hb dX11_heelsNear_77 (lv_at hl 1 rfl) ?_
    exact W.iret (v := x_6) hx hb hr (fun t ht _ => ⟨⟨x_6, G_1, rfl, (P_wNear_2_mk ⟨hB_G_1, hF, ⟨x_5, x_6, G_1, hX_7, f_10, hB_G_1, hq_2, ⟨c_12, ⟨rfl, rfl⟩⟩⟩⟩), wd_t ht hW⟩, hS.F ht⟩) hS.2.2 dX11_heelsNear_79
  · have c_12 : x_5.toInt ≤ 3 := xI_nlt rfl rfl c_12
    refine lv_aload_n hx hb dX11_heelsNear_13 rfl (lv_at hl 2 rfl) ?_
    refine S_getV (n := 2) (C := RX11) (T := TX11) (N := 13) hx hb hg iX11 hown hK hW kd_0 rfl 0 (lt_b rfl) (hg (Cond.fieldLink RX11 10 "SlabWalk" "paving" "LSlabWalk$Paving;") m570) (fun _ h9 => h9) rfl (((hq_2.r9 0 0 rfl rfl)).trans (hv_0_0)) dX11_heelsNear_14 ?_
    refine lv_aload_n hx hb dX11_heelsNear_17 rfl (lv_at hl 2 rfl) ?_
    refine S_getR (n := 31) (C := RX11) (T := TX11) (N := 13) hx hb hg iX11 hown hK hW kd_0 rfl 9 (lt_b rfl) (hg (Cond.fieldLink RX11 72 "SlabWalk" "sights" "LSlabWalk$Sights;") m579) (fun _ h9 => h9) rfl dX11_heelsNear_18 ?_
    refine S_getR (n := 61) (C := RX8) (T := TX8) (N := 7) hx hb hg iX8 hown hK hW kd_31 rfl 0 (lt_b rfl) (hg (Cond.fieldLink RX11 365 "SlabWalk$Sights" "walker" "[I") m521) (fun _ h9 => h9) rfl dX11_heelsNear_21 ?_
    refine lv_iload_n hx hb dX11_heelsNear_24 rfl (lv_at hl 3 rfl) ?_
    refine S_iald hx hb hK hW kd_61 (vin ((by first | exact ha_p0.1 | omega)) ((by first | exact ok_199 ha_p0.2 | omega))) dX11_heelsNear_25 (fun y_13 ey_13 => ?_)
    refine lv_aload_n hx hb dX11_heelsNear_26 rfl (lv_at hl 2 rfl) ?_
    refine S_getR (n := 31) (C := RX11) (T := TX11) (N := 13) hx hb hg iX11 hown hK hW kd_0 rfl 9 (lt_b rfl) (hg (Cond.fieldLink RX11 72 "SlabWalk" "sights" "LSlabWalk$Sights;") m579) (fun _ h9 => h9) rfl dX11_heelsNear_27 ?_
    refine S_getR (n := 62) (C := RX8) (T := TX8) (N := 7) hx hb hg iX8 hown hK hW kd_31 rfl 1 (lt_b rfl) (hg (Cond.fieldLink RX11 362 "SlabWalk$Sights" "street" "[I") m523) (fun _ h9 => h9) rfl dX11_heelsNear_30 ?_
    refine lv_iload_n hx hb dX11_heelsNear_33 rfl (lv_at hl 3 rfl) ?_
    refine S_iald hx hb hK hW kd_62 (vin ((by first | exact ha_p0.1 | omega)) ((by first | exact ok_199 ha_p0.2 | omega))) dX11_heelsNear_34 (fun y_14 ey_14 => ?_)
    refine lv_aload_n hx hb dX11_heelsNear_35 rfl (lv_at hl 2 rfl) ?_
    refine S_getR (n := 31) (C := RX11) (T := TX11) (N := 13) hx hb hg iX11 hown hK hW kd_0 rfl 9 (lt_b rfl) (hg (Cond.fieldLink RX11 72 "SlabWalk" "sights" "LSlabWalk$Sights;") m579) (fun _ h9 => h9) rfl dX11_heelsNear_36 ?_
    refine S_getR (n := 63) (C := RX8) (T := TX8) (N := 7) hx hb hg iX8 hown hK hW kd_31 rfl 2 (lt_b rfl) (hg (Cond.fieldLink RX11 359 "SlabWalk$Sights" "heel" "[I") m525) (fun _ h9 => h9) rfl dX11_heelsNear_39 ?_
    refine lv_iload_n hx hb dX11_heelsNear_42 rfl (lv_at hl 3 rfl) ?_
    refine S_iald hx hb hK hW kd_63 (vin ((by first | exact ha_p0.1 | omega)) ((by first | exact ok_199 ha_p0.2 | omega))) dX11_heelsNear_43 (fun y_15 ey_15 => ?_)
    refine lv_iload hx hb dX11_heelsNear_44 (lv_at hl 0 rfl) ?_
    refine lv_iadd hx hb dX11_heelsNear_46 ?_
    refine lv_topi (fun y_16 ey_16 => ?_)
    have b_17 : 0 ≤ (G.1 2 10).toInt ∧ (G.1 2 10).toInt ≤ 4 := bd_2_10 hB_G
    have g_18 : (G_1.1 2 10).toInt = (G.1 2 10).toInt := (congrArg Int32.toInt (show G_1.1 2 10 = (G.1 2 10) from (hq_2.i9 2 10 rfl rfl)))
    refine S_calli (va_runV (As := [.int y_13, .int y_14, .int y_16]) (rest := []) ⟨hx, hb, hml, hown, hts⟩ (k_stands_2 l D k A a z G_1 y_13 y_14 y_16 ) (cwV 3 hts (gd_V hgd m1121 m966 m967 m118 m968) rfl rfl rfl hd_X6_stands ⟨Nat.le_of_ble_eq_true rfl, Nat.le_of_ble_eq_true rfl⟩) (pre_W hW hB_G_1 hK hZ hS kd_2 rfl) rfl rfl hl.1 rfl (lv_room (Nat.le_of_ble_eq_true rfl)) dX11_heelsNear_47 ⟨Nat.le_of_ble_eq_true rfl, Nat.le_of_ble_eq_true rfl⟩) hS (fun r_19 G_20 H locs hpo hW hS => ?_)
    have hX_23 : P_stands_2 y_13 y_14 y_16 G_1 r_19 G_20 := hpo
    obtain ⟨hB_G_20, hq_21, f_24, hp_22, -⟩ := hpo
    have hF := hF.call9 hq_21 rfl rfl
    refine lv_if_eq (tgt := 71) hx hb dX11_heelsNear_50 rfl (fun c_25 => ?_) (fun c_25 => ?_)
    · have c_25 : r_19.toInt = 0 := xI_eq rfl rfl c_25
      obtain ⟨y_26, ey_26⟩ : ∃ q, q = x_5 + 1 := ⟨_, rfl⟩
      have ty_26 : y_26.toInt = x_5.toInt + 1 := xI_add rfl rfl ey_26 ((by first | exact ok_475 f_10.1 | omega)) ((by first | exact ok_427 f_10.2 | omega))
      refine lv_iinc (v := y_26) (lv' := [(5, .int y_26), (4, .int x_6), (0, .ref (a 0)), (1, .int p0), (2, .int p1), (3, .int p2)]) hx hb dX11_heelsNear_71 hl (k := 0) rfl (by rw [ey_26]; rfl) (lt_b rfl) rfl (fun ls hl => ?_)
      refine lv_goto (tgt := 7) hx hb dX11_heelsNear_74 rfl ?_
      exact ih_3 (4 - y_26.toInt : Int).toNat ((by first | (clear ha_p0 ha_p2 b_17 g_18 f_24 hp_22 c_25; omega) | omega)) _ _ _ ⟨G_20, y_26, x_6, (Int.toNat_of_nonneg ((by first | exact ok_476 f_10.2 c_12 ty_26 | omega))), ⟨(by first | exact ok_477 f_10.1 ty_26 | omega), (by first | exact ok_478 f_10.2 c_12 ty_26 | omega)⟩, (hX_7.st (St_k_wNear_2_1_mk ⟨x_5, x_6, G_1, y_26, x_6, G_20, rfl, rfl, f_10, hB_G_1, ⟨c_12, ⟨y_13, ey_13, ⟨y_14, ey_14, ⟨y_15, ey_15, ⟨y_16, ey_16, ⟨r_19, G_20, hX_23, (Or.inl ⟨c_25, ⟨y_26, ty_26, ⟨rfl, rfl, rfl⟩⟩⟩)⟩⟩⟩⟩⟩⟩⟩)), hW, hB_G_20, hF, (Fr.call9 (rs := [37, 38, 39]) (fs := [(6, 3)]) (Fr.call9 (rs := [37, 38, 39]) (fs := [(6, 3)]) Fr.rf hq_2 rfl rfl) hq_21 rfl rfl), hS, lv_sub hl [0, 1, 2, 3, 4, 5] rfl⟩
    · have c_25 : r_19.toInt ≠ 0 := xI_ne rfl rfl c_25
      refine lv_iload_n hx hb dX11_heelsNear_53 rfl (lv_at hl 5 rfl) ?_
      refine lv_if_eq (tgt := 68) hx hb dX11_heelsNear_54 rfl (fun c_27 => ?_) (fun c_27 => ?_)
      · have c_27 : p2.toInt = 0 := xI_eq rfl rfl c_27
        obtain ⟨y_28, ey_28⟩ : ∃ q, q = x_6 + 1 := ⟨_, rfl⟩
        refine lv_iinc (v := y_28) (lv' := [(4, .int y_28), (5, .int x_5), (0, .ref (a 0)), (1, .int p0), (2, .int p1), (3, .int p2)]) hx hb dX11_heelsNear_68 hl (k := 1) rfl (by rw [ey_28]; rfl) (lt_b rfl) rfl (fun ls hl => ?_)
        obtain ⟨y_29, ey_29⟩ : ∃ q, q = x_5 + 1 := ⟨_, rfl⟩
        have ty_29 : y_29.toInt = x_5.toInt + 1 := xI_add rfl rfl ey_29 ((by first | exact ok_475 f_10.1 | omega)) ((by first | exact ok_427 f_10.2 | omega))
        refine lv_iinc (v := y_29) (lv' := [(5, .int y_29), (4, .int y_28), (0, .ref (a 0)), (1, .int p0), (2, .int p1), (3, .int p2)]) hx hb dX11_heelsNear_71 hl (k := 1) rfl (by rw [ey_29]; rfl) (lt_b rfl) rfl (fun ls hl => ?_)
        refine lv_goto (tgt := 7) hx hb dX11_heelsNear_74 rfl ?_
        exact ih_3 (4 - y_29.toInt : Int).toNat ((by first | (clear ha_p0 ha_p2 b_17 g_18 f_24 hp_22 c_25 c_27; omega) | omega)) _ _ _ ⟨G_20, y_29, y_28, (Int.toNat_of_nonneg ((by first | exact ok_476 f_10.2 c_12 ty_29 | omega))), ⟨(by first | exact ok_477 f_10.1 ty_29 | omega), (by first | exact ok_478 f_10.2 c_12 ty_29 | omega)⟩, (hX_7.st (St_k_wNear_2_1_mk ⟨x_5, x_6, G_1, y_29, y_28, G_20, rfl, rfl, f_10, hB_G_1, ⟨c_12, ⟨y_13, ey_13, ⟨y_14, ey_14, ⟨y_15, ey_15, ⟨y_16, ey_16, ⟨r_19, G_20, hX_23, (Or.inr ⟨c_25, (Or.inl ⟨c_27, ⟨y_28, ey_28, ⟨y_29, ty_29, ⟨rfl, rfl, rfl⟩⟩⟩⟩)⟩)⟩⟩⟩⟩⟩⟩⟩)), hW, hB_G_20, hF, (Fr.call9 (rs := [37, 38, 39]) (fs := [(6, 3)]) (Fr.call9 (rs := [37, 38, 39]) (fs := [(6, 3)]) Fr.rf hq_2 rfl rfl) hq_21 rfl rfl), hS, lv_sub hl [0, 1, 2, 3, 4, 5] rfl⟩
      · have c_27 : p2.toInt ≠ 0 := xI_ne rfl rfl c_27
        refine lv_aload_n hx hb dX11_heelsNear_57 rfl (lv_at hl 2 rfl) ?_
        refine lv_iload_n hx hb dX11_heelsNear_58 rfl (lv_at hl 3 rfl) ?_
        refine lv_iload_n hx hb dX11_heelsNear_59 rfl (lv_at hl 4 rfl) ?_
        refine lv_iload hx hb dX11_heelsNear_60 (lv_at hl 0 rfl) ?_
        refine S_calli (va_runV (As := [.int p0, .int p1, .int x_5]) (rest := []) ⟨hx, hb, hml, hown, hts⟩ (k_wLSight_2 l D k A a z G_20 p0 p1 x_5 ⟨(by first | exact ha_p0.1 | omega), (by first | exact ha_p0.2 | omega)⟩ ⟨(by first | exact f_10.1 | omega), (by first | exact c_12 | omega)⟩ ((((hq_21.r9 0 0 rfl rfl).trans (hq_2.r9 0 0 rfl rfl))).trans (hv_0_0)) ((((hq_21.r9 0 1 rfl rfl).trans (hq_2.r9 0 1 rfl rfl))).trans (hv_0_1)) ((((hq_21.r9 6 4 rfl rfl).trans (hq_2.r9 6 4 rfl rfl))).trans (hv_6_4))) (cwV 3 hts (gd_V hgd m1275 m1277 m46 m117 m1278) rfl rfl rfl hd_X11_isLawfulSight ⟨Nat.le_of_ble_eq_true rfl, Nat.le_of_ble_eq_true rfl⟩) (pre_W hW hB_G_20 hK hZ hS kd_0 rfl) rfl rfl hl.1 rfl (lv_room (Nat.le_of_ble_eq_true rfl)) dX11_heelsNear_62 ⟨Nat.le_of_ble_eq_true rfl, Nat.le_of_ble_eq_true rfl⟩) hS (fun r_30 G_31 H locs hpo hW hS => ?_)
        have hX_34 : P_wLSight_2 p0 p1 x_5 G_20 r_30 G_31 := hpo
        obtain ⟨hB_G_31, hq_32, f_35, -⟩ := hpo
        have hF := hF.call9 hq_32 rfl rfl
        refine lv_if_eq (tgt := 71) hx hb dX11_heelsNear_65 rfl (fun c_36 => ?_) (fun c_36 => ?_)
        · have c_36 : r_30.toInt = 0 := xI_eq rfl rfl c_36
          obtain ⟨y_37, ey_37⟩ : ∃ q, q = x_5 + 1 := ⟨_, rfl⟩
          have ty_37 : y_37.toInt = x_5.toInt + 1 := xI_add rfl rfl ey_37 ((by first | exact ok_475 f_10.1 | omega)) ((by first | exact ok_427 f_10.2 | omega))
          refine lv_iinc (v := y_37) (lv' := [(5, .int y_37), (4, .int x_6), (0, .ref (a 0)), (1, .int p0), (2, .int p1), (3, .int p2)]) hx hb dX11_heelsNear_71 hl (k := 0) rfl (by rw [ey_37]; rfl) (lt_b rfl) rfl (fun ls hl => ?_)
          refine lv_goto (tgt := 7) hx hb dX11_heelsNear_74 rfl ?_
          exact ih_3 (4 - y_37.toInt : Int).toNat ((by first | (clear ha_p0 ha_p2 b_17 g_18 f_24 hp_22 c_25 c_27 f_35 c_36; omega) | omega)) _ _ _ ⟨G_31, y_37, x_6, (Int.toNat_of_nonneg ((by first | exact ok_476 f_10.2 c_12 ty_37 | omega))), ⟨(by first | exact ok_477 f_10.1 ty_37 | omega), (by first | exact ok_478 f_10.2 c_12 ty_37 | omega)⟩, (hX_7.st (St_k_wNear_2_1_mk ⟨x_5, x_6, G_1, y_37, x_6, G_31, rfl, rfl, f_10, hB_G_1, ⟨c_12, ⟨y_13, ey_13, ⟨y_14, ey_14, ⟨y_15, ey_15, ⟨y_16, ey_16, ⟨r_19, G_20, hX_23, (Or.inr ⟨c_25, (Or.inr ⟨c_27, ⟨r_30, G_31, hX_34, (Or.inl ⟨c_36, ⟨y_37, ty_37, ⟨rfl, rfl, rfl⟩⟩⟩)⟩⟩)⟩)⟩⟩⟩⟩⟩⟩⟩)), hW, hB_G_31, hF, (Fr.call9 (rs := [37, 38, 39]) (fs := [(6, 3)]) (Fr.call9 (rs := [37, 38, 39]) (fs := [(6, 3)]) (Fr.call9 (rs := [37, 38, 39]) (fs := [(6, 3)]) Fr.rf hq_2 rfl rfl) hq_21 rfl rfl) hq_32 rfl rfl), hS, lv_sub hl [0, 1, 2, 3, 4, 5] rfl⟩
        · have c_36 : r_30.toInt ≠ 0 := xI_ne rfl rfl c_36
          obtain ⟨y_38, ey_38⟩ : ∃ q, q = x_6 + 1 := ⟨_, rfl⟩
          refine lv_iinc (v := y_38) (lv' := [(4, .int y_38), (5, .int x_5), (0, .ref (a 0)), (1, .int p0), (2, .int p1), (3, .int p2)]) hx hb dX11_heelsNear_68 hl (k := 1) rfl (by rw [ey_38]; rfl) (lt_b rfl) rfl (fun ls hl => ?_)
          obtain ⟨y_39, ey_39⟩ : ∃ q, q = x_5 + 1 := ⟨_, rfl⟩
          have ty_39 : y_39.toInt = x_5.toInt + 1 := xI_add rfl rfl ey_39 ((by first | exact ok_475 f_10.1 | omega)) ((by first | exact ok_427 f_10.2 | omega))
          refine lv_iinc (v := y_39) (lv' := [(5, .int y_39), (4, .int y_38), (0, .ref (a 0)), (1, .int p0), (2, .int p1), (3, .int p2)]) hx hb dX11_heelsNear_71 hl (k := 1) rfl (by rw [ey_39]; rfl) (lt_b rfl) rfl (fun ls hl => ?_)
          refine lv_goto (tgt := 7) hx hb dX11_heelsNear_74 rfl ?_
          exact ih_3 (4 - y_39.toInt : Int).toNat ((by first | (clear ha_p0 ha_p2 b_17 g_18 f_24 hp_22 c_25 c_27 f_35 c_36; omega) | omega)) _ _ _ ⟨G_31, y_39, y_38, (Int.toNat_of_nonneg ((by first | exact ok_476 f_10.2 c_12 ty_39 | omega))), ⟨(by first | exact ok_477 f_10.1 ty_39 | omega), (by first | exact ok_478 f_10.2 c_12 ty_39 | omega)⟩, (hX_7.st (St_k_wNear_2_1_mk ⟨x_5, x_6, G_1, y_39, y_38, G_31, rfl, rfl, f_10, hB_G_1, ⟨c_12, ⟨y_13, ey_13, ⟨y_14, ey_14, ⟨y_15, ey_15, ⟨y_16, ey_16, ⟨r_19, G_20, hX_23, (Or.inr ⟨c_25, (Or.inr ⟨c_27, ⟨r_30, G_31, hX_34, (Or.inr ⟨c_36, ⟨y_38, ey_38, ⟨y_39, ty_39, ⟨rfl, rfl, rfl⟩⟩⟩⟩)⟩⟩)⟩)⟩⟩⟩⟩⟩⟩⟩)), hW, hB_G_31, hF, (Fr.call9 (rs := [37, 38, 39]) (fs := [(6, 3)]) (Fr.call9 (rs := [37, 38, 39]) (fs := [(6, 3)]) (Fr.call9 (rs := [37, 38, 39]) (fs := [(6, 3)]) Fr.rf hq_2 rfl rfl) hq_21 rfl rfl) hq_32 rfl rfl), hS, lv_sub hl [0, 1, 2, 3, 4, 5] rfl⟩

theorem m2 : Cond.selects RX11 yX11_putOnTape yX11_putOnTape ∈ gd := gds_1 2 rfl
theorem m271 : Cond.fieldLink RX11 102 "SlabWalk$Tokens" "fault" "I" ∈ gd := gdc_1_9 11 rfl gw_fieldLink
theorem m273 : Cond.fieldLink RX11 107 "SlabWalk$Tokens" "faultPlace" "I" ∈ gd := gdc_1_9 13 rfl gw_fieldLink
theorem m312 : Cond.fieldLink RX11 98 "SlabWalk$Reader" "tokens" "LSlabWalk$Tokens;" ∈ gd := gdc_1_12 4 rfl gw_fieldLink
theorem m531 : Cond.fieldLink RX11 278 "SlabWalk$Sights" "time" "I" ∈ gd := gdc_2_10 15 rfl gw_fieldLink
theorem m573 : Cond.fieldLink RX11 28 "SlabWalk" "reader" "LSlabWalk$Reader;" ∈ gd := gdc_2_13 9 rfl gw_fieldLink
theorem m614 : Cond.methodLink RX11 87 yX11_putOnTape ∈ gd := gdc_3_1 2 rfl gw_methodLink
theorem m616 : Cond.instanceMethod yX11_putOnTape ∈ gd := gdc_3_1 4 rfl gw_instanceMethod
theorem m617 : Cond.code yX11_putOnTape cX11_putOnTape 3 none ∈ gd := gdc_3_1 5 rfl gw_code
theorem m1018 : Cond.constantLong RX11 165 (-1) ∈ gd := gdc_4_11 6 rfl gw_constantLong
theorem m1069 : Cond.methodLink RX11 194 yX11_isEndless ∈ gd := gdc_4_14 9 rfl gw_methodLink
theorem m1070 : Cond.static yX11_isEndless ∈ gd := gdc_4_14 10 rfl gw_static
theorem m1071 : Cond.code yX11_isEndless cX11_isEndless 3 (some .boolean) ∈ gd := gdc_4_14 11 rfl gw_code
theorem m1076 : Cond.methodLink RX11 197 yX11_beginnings ∈ gd := gdc_5_0 0 rfl gw_methodLink
theorem m1077 : Cond.static yX11_beginnings ∈ gd := gdc_5_0 1 rfl gw_static
theorem m1078 : Cond.code yX11_beginnings cX11_beginnings 6 (some .int) ∈ gd := gdc_5_0 2 rfl gw_code
theorem m1079 : Cond.methodLink RX11 295 yX11_commonDivisor ∈ gd := gdc_5_0 3 rfl gw_methodLink
theorem m1080 : Cond.static yX11_commonDivisor ∈ gd := gdc_5_0 4 rfl gw_static
theorem m1081 : Cond.code yX11_commonDivisor cX11_commonDivisor 7 (some .long) ∈ gd := gdc_5_0 5 rfl gw_code
theorem m1082 : Cond.methodLink RX11 368 Lib.Math.max.name ∈ gd := gdc_5_0 6 rfl gw_methodLink
theorem m1178 : Cond.methodLink RX11 249 yX1_keepAct ∈ gd := gdc_5_6 6 rfl gw_methodLink
theorem m1179 : Cond.instanceMethod yX1_keepAct ∈ gd := gdc_5_6 7 rfl gw_instanceMethod
theorem m1180 : Cond.selects RX1 yX1_keepAct yX1_keepAct ∈ gd := gdc_5_6 8 rfl gw_selects
theorem m1181 : Cond.code yX1_keepAct cX1_keepAct 1 none ∈ gd := gdc_5_6 9 rfl gw_code
theorem m1222 : Cond.methodLink RX11 265 yX1_takeBack ∈ gd := gdc_5_9 2 rfl gw_methodLink
theorem m1223 : Cond.instanceMethod yX1_takeBack ∈ gd := gdc_5_9 3 rfl gw_instanceMethod
theorem m1224 : Cond.selects RX1 yX1_takeBack yX1_takeBack ∈ gd := gdc_5_9 4 rfl gw_selects
theorem m1225 : Cond.code yX1_takeBack cX1_takeBack 1 (some .boolean) ∈ gd := gdc_5_9 5 rfl gw_code
theorem m1230 : Cond.methodLink RX11 268 yX1_doAgain ∈ gd := gdc_5_9 10 rfl gw_methodLink
theorem m1231 : Cond.instanceMethod yX1_doAgain ∈ gd := gdc_5_9 11 rfl gw_instanceMethod
theorem m1232 : Cond.selects RX1 yX1_doAgain yX1_doAgain ∈ gd := gdc_5_9 12 rfl gw_selects
theorem m1233 : Cond.code yX1_doAgain cX1_doAgain 1 (some .boolean) ∈ gd := gdc_5_9 13 rfl gw_code
theorem m1254 : Cond.methodLink RX11 275 yX8_takeFrom ∈ gd := gdc_5_11 2 rfl gw_methodLink
theorem m1255 : Cond.instanceMethod yX8_takeFrom ∈ gd := gdc_5_11 3 rfl gw_instanceMethod
theorem m1256 : Cond.selects RX8 yX8_takeFrom yX8_takeFrom ∈ gd := gdc_5_11 4 rfl gw_selects
theorem m1257 : Cond.code yX8_takeFrom cX8_takeFrom 2 (some .boolean) ∈ gd := gdc_5_11 5 rfl gw_code
theorem m1262 : Cond.constant RX11 281 100000 ∈ gd := gdc_5_11 10 rfl gw_constant
theorem m1291 : Cond.methodLink RX11 299 yX1_keepIn ∈ gd := gdc_5_13 7 rfl gw_methodLink
theorem m1292 : Cond.instanceMethod yX1_keepIn ∈ gd := gdc_5_13 8 rfl gw_instanceMethod
theorem m1293 : Cond.selects RX1 yX1_keepIn yX1_keepIn ∈ gd := gdc_5_13 9 rfl gw_selects
theorem m1294 : Cond.code yX1_keepIn cX1_keepIn 2 (some .boolean) ∈ gd := gdc_5_13 10 rfl gw_code
theorem m1299 : Cond.methodLink RX11 302 yX1_bringFrom ∈ gd := gdc_5_13 15 rfl gw_methodLink
theorem m1300 : Cond.instanceMethod yX1_bringFrom ∈ gd := gdc_5_14 0 rfl gw_instanceMethod
theorem m1301 : Cond.selects RX1 yX1_bringFrom yX1_bringFrom ∈ gd := gdc_5_14 1 rfl gw_selects
theorem m1302 : Cond.code yX1_bringFrom cX1_bringFrom 2 (some .boolean) ∈ gd := gdc_5_14 2 rfl gw_code
noncomputable def rbX11_back_0 : List (Nat × List Nat) := [(0, [42]), (1, [180, 0, 65]), (4, [27]), (5, [182, 1, 46]), (8, [153, 0, 10]), (11, [42]), (12, [182, 0, 131]), (15, [167, 0, 4]), (18, [2]), (19, [172])]
theorem rcX11_back_0 : dgo (lb cX11_back) 0 rbX11_back_0 = true := by decide +kernel
theorem dX11_back_0 : decode cX11_back 0 = .ok (.aload_n 0, 1) := dk_42 (dw rcX11_back_0 0 rfl)
theorem dX11_back_1 : decode cX11_back 1 = .ok (.getfield 65, 3) := dk_180 (dw rcX11_back_0 1 rfl) rfl
theorem dX11_back_4 : decode cX11_back 4 = .ok (.iload_n 1, 1) := dk_27 (dw rcX11_back_0 2 rfl)
theorem dX11_back_5 : decode cX11_back 5 = .ok (.invokevirtual 302, 3) := dk_182 (dw rcX11_back_0 3 rfl) rfl
theorem dX11_back_8 : decode cX11_back 8 = .ok (.ifCond .eq 10, 3) := dk_153 (dw rcX11_back_0 4 rfl) rfl
theorem dX11_back_11 : decode cX11_back 11 = .ok (.aload_n 0, 1) := dk_42 (dw rcX11_back_0 5 rfl)
theorem dX11_back_12 : decode cX11_back 12 = .ok (.invokevirtual 131, 3) := dk_182 (dw rcX11_back_0 6 rfl) rfl
theorem dX11_back_15 : decode cX11_back 15 = .ok (.goto 4, 3) := dk_167 (dw rcX11_back_0 7 rfl) rfl
theorem dX11_back_18 : decode cX11_back 18 = .ok (.iconst (-1), 1) := dk_2 (dw rcX11_back_0 8 rfl)
theorem dX11_back_19 : decode cX11_back 19 = .ok (.ireturn, 1) := dk_172 (dw rcX11_back_0 9 rfl)
noncomputable def rbX11_begin_0 : List (Nat × List Nat) := [(0, [27]), (1, [28]), (2, [29]), (3, [184, 0, 194]), (6, [153, 0, 16]), (9, [21, 4]), (11, [4]), (12, [161, 0, 10]), (15, [21, 4]), (17, [16, 99]), (19, [164, 0, 5]), (22, [2]), (23, [172]), (24, [27]), (25, [28]), (26, [29]), (27, [21, 4]), (29, [184, 0, 197]), (32, [172])]
theorem rcX11_begin_0 : dgo (lb cX11_begin) 0 rbX11_begin_0 = true := by decide +kernel
theorem dX11_begin_0 : decode cX11_begin 0 = .ok (.iload_n 1, 1) := dk_27 (dw rcX11_begin_0 0 rfl)
theorem dX11_begin_1 : decode cX11_begin 1 = .ok (.iload_n 2, 1) := dk_28 (dw rcX11_begin_0 1 rfl)
theorem dX11_begin_2 : decode cX11_begin 2 = .ok (.iload_n 3, 1) := dk_29 (dw rcX11_begin_0 2 rfl)
theorem dX11_begin_3 : decode cX11_begin 3 = .ok (.invokestatic 194, 3) := dk_184 (dw rcX11_begin_0 3 rfl) rfl
theorem dX11_begin_6 : decode cX11_begin 6 = .ok (.ifCond .eq 16, 3) := dk_153 (dw rcX11_begin_0 4 rfl) rfl
theorem dX11_begin_9 : decode cX11_begin 9 = .ok (.iload 4, 2) := dk_21 (dw rcX11_begin_0 5 rfl)
theorem dX11_begin_11 : decode cX11_begin 11 = .ok (.iconst 1, 1) := dk_4 (dw rcX11_begin_0 6 rfl)
theorem dX11_begin_12 : decode cX11_begin 12 = .ok (.if_icmp .lt 10, 3) := dk_161 (dw rcX11_begin_0 7 rfl) rfl
theorem dX11_begin_15 : decode cX11_begin 15 = .ok (.iload 4, 2) := dk_21 (dw rcX11_begin_0 8 rfl)
theorem dX11_begin_17 : decode cX11_begin 17 = .ok (.bipush 99, 2) := dk_16 (dw rcX11_begin_0 9 rfl) rfl
theorem dX11_begin_19 : decode cX11_begin 19 = .ok (.if_icmp .le 5, 3) := dk_164 (dw rcX11_begin_0 10 rfl) rfl
theorem dX11_begin_22 : decode cX11_begin 22 = .ok (.iconst (-1), 1) := dk_2 (dw rcX11_begin_0 11 rfl)
theorem dX11_begin_23 : decode cX11_begin 23 = .ok (.ireturn, 1) := dk_172 (dw rcX11_begin_0 12 rfl)
theorem dX11_begin_24 : decode cX11_begin 24 = .ok (.iload_n 1, 1) := dk_27 (dw rcX11_begin_0 13 rfl)
theorem dX11_begin_25 : decode cX11_begin 25 = .ok (.iload_n 2, 1) := dk_28 (dw rcX11_begin_0 14 rfl)
theorem dX11_begin_26 : decode cX11_begin 26 = .ok (.iload_n 3, 1) := dk_29 (dw rcX11_begin_0 15 rfl)
theorem dX11_begin_27 : decode cX11_begin 27 = .ok (.iload 4, 2) := dk_21 (dw rcX11_begin_0 16 rfl)
theorem dX11_begin_29 : decode cX11_begin 29 = .ok (.invokestatic 197, 3) := dk_184 (dw rcX11_begin_0 17 rfl) rfl
theorem dX11_begin_32 : decode cX11_begin 32 = .ok (.ireturn, 1) := dk_172 (dw rcX11_begin_0 18 rfl)
noncomputable def rbX11_beginnings_0 : List (Nat × List Nat) := [(0, [26]), (1, [27]), (2, [96]), (3, [54, 4]), (5, [21, 4]), (7, [133]), (8, [29]), (9, [133]), (10, [184, 1, 39]), (13, [136]), (14, [54, 5]), (16, [27]), (17, [153, 0, 8]), (20, [21, 5]), (22, [154, 0, 6]), (25, [21, 4]), (27, [172]), (28, [3]), (29, [21, 5]), (31, [27]), (32, [100]), (33, [28]), (34, [100]), (35, [4])]
theorem rcX11_beginnings_0 : dgo (lb cX11_beginnings) 0 rbX11_beginnings_0 = true := by decide +kernel
theorem dX11_beginnings_0 : decode cX11_beginnings 0 = .ok (.iload_n 0, 1) := dk_26 (dw rcX11_beginnings_0 0 rfl)
theorem dX11_beginnings_1 : decode cX11_beginnings 1 = .ok (.iload_n 1, 1) := dk_27 (dw rcX11_beginnings_0 1 rfl)
theorem dX11_beginnings_2 : decode cX11_beginnings 2 = .ok (.iadd, 1) := dk_96 (dw rcX11_beginnings_0 2 rfl)
theorem dX11_beginnings_3 : decode cX11_beginnings 3 = .ok (.istore 4, 2) := dk_54 (dw rcX11_beginnings_0 3 rfl)
theorem dX11_beginnings_5 : decode cX11_beginnings 5 = .ok (.iload 4, 2) := dk_21 (dw rcX11_beginnings_0 4 rfl)
theorem dX11_beginnings_7 : decode cX11_beginnings 7 = .ok (.i2l, 1) := dk_133 (dw rcX11_beginnings_0 5 rfl)
theorem dX11_beginnings_8 : decode cX11_beginnings 8 = .ok (.iload_n 3, 1) := dk_29 (dw rcX11_beginnings_0 6 rfl)
theorem dX11_beginnings_9 : decode cX11_beginnings 9 = .ok (.i2l, 1) := dk_133 (dw rcX11_beginnings_0 7 rfl)
theorem dX11_beginnings_10 : decode cX11_beginnings 10 = .ok (.invokestatic 295, 3) := dk_184 (dw rcX11_beginnings_0 8 rfl) rfl
theorem dX11_beginnings_13 : decode cX11_beginnings 13 = .ok (.l2i, 1) := dk_136 (dw rcX11_beginnings_0 9 rfl)
theorem dX11_beginnings_14 : decode cX11_beginnings 14 = .ok (.istore 5, 2) := dk_54 (dw rcX11_beginnings_0 10 rfl)
theorem dX11_beginnings_16 : decode cX11_beginnings 16 = .ok (.iload_n 1, 1) := dk_27 (dw rcX11_beginnings_0 11 rfl)
theorem dX11_beginnings_17 : decode cX11_beginnings 17 = .ok (.ifCond .eq 8, 3) := dk_153 (dw rcX11_beginnings_0 12 rfl) rfl
theorem dX11_beginnings_20 : decode cX11_beginnings 20 = .ok (.iload 5, 2) := dk_21 (dw rcX11_beginnings_0 13 rfl)
theorem dX11_beginnings_22 : decode cX11_beginnings 22 = .ok (.ifCond .ne 6, 3) := dk_154 (dw rcX11_beginnings_0 14 rfl) rfl
theorem dX11_beginnings_25 : decode cX11_beginnings 25 = .ok (.iload 4, 2) := dk_21 (dw rcX11_beginnings_0 15 rfl)
theorem dX11_beginnings_27 : decode cX11_beginnings 27 = .ok (.ireturn, 1) := dk_172 (dw rcX11_beginnings_0 16 rfl)
theorem dX11_beginnings_28 : decode cX11_beginnings 28 = .ok (.iconst 0, 1) := dk_3 (dw rcX11_beginnings_0 17 rfl)
theorem dX11_beginnings_29 : decode cX11_beginnings 29 = .ok (.iload 5, 2) := dk_21 (dw rcX11_beginnings_0 18 rfl)
theorem dX11_beginnings_31 : decode cX11_beginnings 31 = .ok (.iload_n 1, 1) := dk_27 (dw rcX11_beginnings_0 19 rfl)
theorem dX11_beginnings_32 : decode cX11_beginnings 32 = .ok (.isub, 1) := dk_100 (dw rcX11_beginnings_0 20 rfl)
theorem dX11_beginnings_33 : decode cX11_beginnings 33 = .ok (.iload_n 2, 1) := dk_28 (dw rcX11_beginnings_0 21 rfl)
theorem dX11_beginnings_34 : decode cX11_beginnings 34 = .ok (.isub, 1) := dk_100 (dw rcX11_beginnings_0 22 rfl)
theorem dX11_beginnings_35 : decode cX11_beginnings 35 = .ok (.iconst 1, 1) := dk_4 (dw rcX11_beginnings_0 23 rfl)
noncomputable def rbX11_beginnings_36 : List (Nat × List Nat) := [(36, [96]), (37, [184, 1, 112]), (40, [21, 4]), (42, [21, 5]), (44, [108]), (45, [104]), (46, [172])]
theorem rcX11_beginnings_36 : dgo (lb cX11_beginnings) 0 rbX11_beginnings_36 = true := by decide +kernel
theorem dX11_beginnings_36 : decode cX11_beginnings 36 = .ok (.iadd, 1) := dk_96 (dw rcX11_beginnings_36 0 rfl)
theorem dX11_beginnings_37 : decode cX11_beginnings 37 = .ok (.invokestatic 368, 3) := dk_184 (dw rcX11_beginnings_36 1 rfl) rfl
theorem dX11_beginnings_40 : decode cX11_beginnings 40 = .ok (.iload 4, 2) := dk_21 (dw rcX11_beginnings_36 2 rfl)
theorem dX11_beginnings_42 : decode cX11_beginnings 42 = .ok (.iload 5, 2) := dk_21 (dw rcX11_beginnings_36 3 rfl)
theorem dX11_beginnings_44 : decode cX11_beginnings 44 = .ok (.idiv, 1) := dk_108 (dw rcX11_beginnings_36 4 rfl)
theorem dX11_beginnings_45 : decode cX11_beginnings 45 = .ok (.imul, 1) := dk_104 (dw rcX11_beginnings_36 5 rfl)
theorem dX11_beginnings_46 : decode cX11_beginnings 46 = .ok (.ireturn, 1) := dk_172 (dw rcX11_beginnings_36 6 rfl)
noncomputable def rbX11_day_0 : List (Nat × List Nat) := [(0, [42]), (1, [182, 0, 131]), (4, [17, 3, 232]), (7, [161, 0, 5]), (10, [2]), (11, [172]), (12, [42]), (13, [180, 0, 65]), (16, [180, 0, 246]), (19, [16, 6]), (21, [92]), (22, [46]), (23, [4]), (24, [96]), (25, [79]), (26, [42]), (27, [180, 0, 65]), (30, [182, 0, 249]), (33, [42]), (34, [182, 0, 131]), (37, [172])]
theorem rcX11_day_0 : dgo (lb cX11_day) 0 rbX11_day_0 = true := by decide +kernel
theorem dX11_day_0 : decode cX11_day 0 = .ok (.aload_n 0, 1) := dk_42 (dw rcX11_day_0 0 rfl)
theorem dX11_day_1 : decode cX11_day 1 = .ok (.invokevirtual 131, 3) := dk_182 (dw rcX11_day_0 1 rfl) rfl
theorem dX11_day_4 : decode cX11_day 4 = .ok (.sipush 1000, 3) := dk_17 (dw rcX11_day_0 2 rfl) rfl
theorem dX11_day_7 : decode cX11_day 7 = .ok (.if_icmp .lt 5, 3) := dk_161 (dw rcX11_day_0 3 rfl) rfl
theorem dX11_day_10 : decode cX11_day 10 = .ok (.iconst (-1), 1) := dk_2 (dw rcX11_day_0 4 rfl)
theorem dX11_day_11 : decode cX11_day 11 = .ok (.ireturn, 1) := dk_172 (dw rcX11_day_0 5 rfl)
theorem dX11_day_12 : decode cX11_day 12 = .ok (.aload_n 0, 1) := dk_42 (dw rcX11_day_0 6 rfl)
theorem dX11_day_13 : decode cX11_day 13 = .ok (.getfield 65, 3) := dk_180 (dw rcX11_day_0 7 rfl) rfl
theorem dX11_day_16 : decode cX11_day 16 = .ok (.getfield 246, 3) := dk_180 (dw rcX11_day_0 8 rfl) rfl
theorem dX11_day_19 : decode cX11_day 19 = .ok (.bipush 6, 2) := dk_16 (dw rcX11_day_0 9 rfl) rfl
theorem dX11_day_21 : decode cX11_day 21 = .ok (.dup2, 1) := dk_92 (dw rcX11_day_0 10 rfl)
theorem dX11_day_22 : decode cX11_day 22 = .ok (.iaload, 1) := dk_46 (dw rcX11_day_0 11 rfl)
theorem dX11_day_23 : decode cX11_day 23 = .ok (.iconst 1, 1) := dk_4 (dw rcX11_day_0 12 rfl)
theorem dX11_day_24 : decode cX11_day 24 = .ok (.iadd, 1) := dk_96 (dw rcX11_day_0 13 rfl)
theorem dX11_day_25 : decode cX11_day 25 = .ok (.iastore, 1) := dk_79 (dw rcX11_day_0 14 rfl)
theorem dX11_day_26 : decode cX11_day 26 = .ok (.aload_n 0, 1) := dk_42 (dw rcX11_day_0 15 rfl)
theorem dX11_day_27 : decode cX11_day 27 = .ok (.getfield 65, 3) := dk_180 (dw rcX11_day_0 16 rfl) rfl
theorem dX11_day_30 : decode cX11_day 30 = .ok (.invokevirtual 249, 3) := dk_182 (dw rcX11_day_0 17 rfl) rfl
theorem dX11_day_33 : decode cX11_day 33 = .ok (.aload_n 0, 1) := dk_42 (dw rcX11_day_0 18 rfl)
theorem dX11_day_34 : decode cX11_day 34 = .ok (.invokevirtual 131, 3) := dk_182 (dw rcX11_day_0 19 rfl) rfl
theorem dX11_day_37 : decode cX11_day 37 = .ok (.ireturn, 1) := dk_172 (dw rcX11_day_0 20 rfl)
noncomputable def rbX11_end_0 : List (Nat × List Nat) := [(0, [27]), (1, [155, 0, 11]), (4, [27]), (5, [42]), (6, [180, 0, 83]), (9, [164, 0, 5]), (12, [2]), (13, [172]), (14, [42]), (15, [27]), (16, [181, 0, 83]), (19, [27]), (20, [172])]
theorem rcX11_end_0 : dgo (lb cX11_end) 0 rbX11_end_0 = true := by decide +kernel
theorem dX11_end_0 : decode cX11_end 0 = .ok (.iload_n 1, 1) := dk_27 (dw rcX11_end_0 0 rfl)
theorem dX11_end_1 : decode cX11_end 1 = .ok (.ifCond .lt 11, 3) := dk_155 (dw rcX11_end_0 1 rfl) rfl
theorem dX11_end_4 : decode cX11_end 4 = .ok (.iload_n 1, 1) := dk_27 (dw rcX11_end_0 2 rfl)
theorem dX11_end_5 : decode cX11_end 5 = .ok (.aload_n 0, 1) := dk_42 (dw rcX11_end_0 3 rfl)
theorem dX11_end_6 : decode cX11_end 6 = .ok (.getfield 83, 3) := dk_180 (dw rcX11_end_0 4 rfl) rfl
theorem dX11_end_9 : decode cX11_end 9 = .ok (.if_icmp .le 5, 3) := dk_164 (dw rcX11_end_0 5 rfl) rfl
theorem dX11_end_12 : decode cX11_end 12 = .ok (.iconst (-1), 1) := dk_2 (dw rcX11_end_0 6 rfl)
theorem dX11_end_13 : decode cX11_end 13 = .ok (.ireturn, 1) := dk_172 (dw rcX11_end_0 7 rfl)
theorem dX11_end_14 : decode cX11_end 14 = .ok (.aload_n 0, 1) := dk_42 (dw rcX11_end_0 8 rfl)
theorem dX11_end_15 : decode cX11_end 15 = .ok (.iload_n 1, 1) := dk_27 (dw rcX11_end_0 9 rfl)
theorem dX11_end_16 : decode cX11_end 16 = .ok (.putfield 83, 3) := dk_181 (dw rcX11_end_0 10 rfl) rfl
theorem dX11_end_19 : decode cX11_end 19 = .ok (.iload_n 1, 1) := dk_27 (dw rcX11_end_0 11 rfl)
theorem dX11_end_20 : decode cX11_end 20 = .ok (.ireturn, 1) := dk_172 (dw rcX11_end_0 12 rfl)
noncomputable def rbX11_fault_0 : List (Nat × List Nat) := [(0, [27]), (1, [154, 0, 16]), (4, [42]), (5, [180, 0, 28]), (8, [180, 0, 98]), (11, [180, 0, 102]), (14, [167, 0, 22]), (17, [27]), (18, [4]), (19, [160, 0, 16]), (22, [42]), (23, [180, 0, 28]), (26, [180, 0, 98]), (29, [180, 0, 107]), (32, [167, 0, 4]), (35, [2]), (36, [172])]
theorem rcX11_fault_0 : dgo (lb cX11_fault) 0 rbX11_fault_0 = true := by decide +kernel
theorem dX11_fault_0 : decode cX11_fault 0 = .ok (.iload_n 1, 1) := dk_27 (dw rcX11_fault_0 0 rfl)
theorem dX11_fault_1 : decode cX11_fault 1 = .ok (.ifCond .ne 16, 3) := dk_154 (dw rcX11_fault_0 1 rfl) rfl
theorem dX11_fault_4 : decode cX11_fault 4 = .ok (.aload_n 0, 1) := dk_42 (dw rcX11_fault_0 2 rfl)
theorem dX11_fault_5 : decode cX11_fault 5 = .ok (.getfield 28, 3) := dk_180 (dw rcX11_fault_0 3 rfl) rfl
theorem dX11_fault_8 : decode cX11_fault 8 = .ok (.getfield 98, 3) := dk_180 (dw rcX11_fault_0 4 rfl) rfl
theorem dX11_fault_11 : decode cX11_fault 11 = .ok (.getfield 102, 3) := dk_180 (dw rcX11_fault_0 5 rfl) rfl
theorem dX11_fault_14 : decode cX11_fault 14 = .ok (.goto 22, 3) := dk_167 (dw rcX11_fault_0 6 rfl) rfl
theorem dX11_fault_17 : decode cX11_fault 17 = .ok (.iload_n 1, 1) := dk_27 (dw rcX11_fault_0 7 rfl)
theorem dX11_fault_18 : decode cX11_fault 18 = .ok (.iconst 1, 1) := dk_4 (dw rcX11_fault_0 8 rfl)
theorem dX11_fault_19 : decode cX11_fault 19 = .ok (.if_icmp .ne 16, 3) := dk_160 (dw rcX11_fault_0 9 rfl) rfl
theorem dX11_fault_22 : decode cX11_fault 22 = .ok (.aload_n 0, 1) := dk_42 (dw rcX11_fault_0 10 rfl)
theorem dX11_fault_23 : decode cX11_fault 23 = .ok (.getfield 28, 3) := dk_180 (dw rcX11_fault_0 11 rfl) rfl
theorem dX11_fault_26 : decode cX11_fault 26 = .ok (.getfield 98, 3) := dk_180 (dw rcX11_fault_0 12 rfl) rfl
theorem dX11_fault_29 : decode cX11_fault 29 = .ok (.getfield 107, 3) := dk_180 (dw rcX11_fault_0 13 rfl) rfl
theorem dX11_fault_32 : decode cX11_fault 32 = .ok (.goto 4, 3) := dk_167 (dw rcX11_fault_0 14 rfl) rfl
theorem dX11_fault_35 : decode cX11_fault 35 = .ok (.iconst (-1), 1) := dk_2 (dw rcX11_fault_0 15 rfl)
theorem dX11_fault_36 : decode cX11_fault 36 = .ok (.ireturn, 1) := dk_172 (dw rcX11_fault_0 16 rfl)
noncomputable def rbX11_feed_0 : List (Nat × List Nat) := [(0, [42]), (1, [180, 0, 83]), (4, [16, 20]), (6, [96]), (7, [17, 6, 64]), (10, [164, 0, 5]), (13, [2]), (14, [172]), (15, [42]), (16, [27]), (17, [182, 0, 87]), (20, [42]), (21, [28]), (22, [182, 0, 87]), (25, [42]), (26, [29]), (27, [182, 0, 87]), (30, [42]), (31, [21, 4]), (33, [182, 0, 87]), (36, [42]), (37, [21, 5]), (39, [182, 0, 87]), (42, [42])]
theorem rcX11_feed_0 : dgo (lb cX11_feed) 0 rbX11_feed_0 = true := by decide +kernel
theorem dX11_feed_0 : decode cX11_feed 0 = .ok (.aload_n 0, 1) := dk_42 (dw rcX11_feed_0 0 rfl)
theorem dX11_feed_1 : decode cX11_feed 1 = .ok (.getfield 83, 3) := dk_180 (dw rcX11_feed_0 1 rfl) rfl
theorem dX11_feed_4 : decode cX11_feed 4 = .ok (.bipush 20, 2) := dk_16 (dw rcX11_feed_0 2 rfl) rfl
theorem dX11_feed_6 : decode cX11_feed 6 = .ok (.iadd, 1) := dk_96 (dw rcX11_feed_0 3 rfl)
theorem dX11_feed_7 : decode cX11_feed 7 = .ok (.sipush 1600, 3) := dk_17 (dw rcX11_feed_0 4 rfl) rfl
theorem dX11_feed_10 : decode cX11_feed 10 = .ok (.if_icmp .le 5, 3) := dk_164 (dw rcX11_feed_0 5 rfl) rfl
theorem dX11_feed_13 : decode cX11_feed 13 = .ok (.iconst (-1), 1) := dk_2 (dw rcX11_feed_0 6 rfl)
theorem dX11_feed_14 : decode cX11_feed 14 = .ok (.ireturn, 1) := dk_172 (dw rcX11_feed_0 7 rfl)
theorem dX11_feed_15 : decode cX11_feed 15 = .ok (.aload_n 0, 1) := dk_42 (dw rcX11_feed_0 8 rfl)
theorem dX11_feed_16 : decode cX11_feed 16 = .ok (.iload_n 1, 1) := dk_27 (dw rcX11_feed_0 9 rfl)
theorem dX11_feed_17 : decode cX11_feed 17 = .ok (.invokevirtual 87, 3) := dk_182 (dw rcX11_feed_0 10 rfl) rfl
theorem dX11_feed_20 : decode cX11_feed 20 = .ok (.aload_n 0, 1) := dk_42 (dw rcX11_feed_0 11 rfl)
theorem dX11_feed_21 : decode cX11_feed 21 = .ok (.iload_n 2, 1) := dk_28 (dw rcX11_feed_0 12 rfl)
theorem dX11_feed_22 : decode cX11_feed 22 = .ok (.invokevirtual 87, 3) := dk_182 (dw rcX11_feed_0 13 rfl) rfl
theorem dX11_feed_25 : decode cX11_feed 25 = .ok (.aload_n 0, 1) := dk_42 (dw rcX11_feed_0 14 rfl)
theorem dX11_feed_26 : decode cX11_feed 26 = .ok (.iload_n 3, 1) := dk_29 (dw rcX11_feed_0 15 rfl)
theorem dX11_feed_27 : decode cX11_feed 27 = .ok (.invokevirtual 87, 3) := dk_182 (dw rcX11_feed_0 16 rfl) rfl
theorem dX11_feed_30 : decode cX11_feed 30 = .ok (.aload_n 0, 1) := dk_42 (dw rcX11_feed_0 17 rfl)
theorem dX11_feed_31 : decode cX11_feed 31 = .ok (.iload 4, 2) := dk_21 (dw rcX11_feed_0 18 rfl)
theorem dX11_feed_33 : decode cX11_feed 33 = .ok (.invokevirtual 87, 3) := dk_182 (dw rcX11_feed_0 19 rfl) rfl
theorem dX11_feed_36 : decode cX11_feed 36 = .ok (.aload_n 0, 1) := dk_42 (dw rcX11_feed_0 20 rfl)
theorem dX11_feed_37 : decode cX11_feed 37 = .ok (.iload 5, 2) := dk_21 (dw rcX11_feed_0 21 rfl)
theorem dX11_feed_39 : decode cX11_feed 39 = .ok (.invokevirtual 87, 3) := dk_182 (dw rcX11_feed_0 22 rfl) rfl
theorem dX11_feed_42 : decode cX11_feed 42 = .ok (.aload_n 0, 1) := dk_42 (dw rcX11_feed_0 23 rfl)
noncomputable def rbX11_feed_43 : List (Nat × List Nat) := [(43, [180, 0, 83]), (46, [172])]
theorem rcX11_feed_43 : dgo (lb cX11_feed) 0 rbX11_feed_43 = true := by decide +kernel
theorem dX11_feed_43 : decode cX11_feed 43 = .ok (.getfield 83, 3) := dk_180 (dw rcX11_feed_43 0 rfl) rfl
theorem dX11_feed_46 : decode cX11_feed 46 = .ok (.ireturn, 1) := dk_172 (dw rcX11_feed_43 1 rfl)
noncomputable def rbX11_first_0 : List (Nat × List Nat) := [(0, [27]), (1, [28]), (2, [29]), (3, [184, 0, 194]), (6, [153, 0, 29]), (9, [21, 4]), (11, [4]), (12, [161, 0, 23]), (15, [21, 4]), (17, [16, 99]), (19, [163, 0, 16]), (22, [21, 5]), (24, [155, 0, 11]), (27, [21, 5]), (29, [27]), (30, [28]), (31, [96]), (32, [161, 0, 6]), (35, [16, 254]), (37, [172]), (38, [27]), (39, [28]), (40, [96]), (41, [54, 6])]
theorem rcX11_first_0 : dgo (lb cX11_first) 0 rbX11_first_0 = true := by decide +kernel
theorem dX11_first_0 : decode cX11_first 0 = .ok (.iload_n 1, 1) := dk_27 (dw rcX11_first_0 0 rfl)
theorem dX11_first_1 : decode cX11_first 1 = .ok (.iload_n 2, 1) := dk_28 (dw rcX11_first_0 1 rfl)
theorem dX11_first_2 : decode cX11_first 2 = .ok (.iload_n 3, 1) := dk_29 (dw rcX11_first_0 2 rfl)
theorem dX11_first_3 : decode cX11_first 3 = .ok (.invokestatic 194, 3) := dk_184 (dw rcX11_first_0 3 rfl) rfl
theorem dX11_first_6 : decode cX11_first 6 = .ok (.ifCond .eq 29, 3) := dk_153 (dw rcX11_first_0 4 rfl) rfl
theorem dX11_first_9 : decode cX11_first 9 = .ok (.iload 4, 2) := dk_21 (dw rcX11_first_0 5 rfl)
theorem dX11_first_11 : decode cX11_first 11 = .ok (.iconst 1, 1) := dk_4 (dw rcX11_first_0 6 rfl)
theorem dX11_first_12 : decode cX11_first 12 = .ok (.if_icmp .lt 23, 3) := dk_161 (dw rcX11_first_0 7 rfl) rfl
theorem dX11_first_15 : decode cX11_first 15 = .ok (.iload 4, 2) := dk_21 (dw rcX11_first_0 8 rfl)
theorem dX11_first_17 : decode cX11_first 17 = .ok (.bipush 99, 2) := dk_16 (dw rcX11_first_0 9 rfl) rfl
theorem dX11_first_19 : decode cX11_first 19 = .ok (.if_icmp .gt 16, 3) := dk_163 (dw rcX11_first_0 10 rfl) rfl
theorem dX11_first_22 : decode cX11_first 22 = .ok (.iload 5, 2) := dk_21 (dw rcX11_first_0 11 rfl)
theorem dX11_first_24 : decode cX11_first 24 = .ok (.ifCond .lt 11, 3) := dk_155 (dw rcX11_first_0 12 rfl) rfl
theorem dX11_first_27 : decode cX11_first 27 = .ok (.iload 5, 2) := dk_21 (dw rcX11_first_0 13 rfl)
theorem dX11_first_29 : decode cX11_first 29 = .ok (.iload_n 1, 1) := dk_27 (dw rcX11_first_0 14 rfl)
theorem dX11_first_30 : decode cX11_first 30 = .ok (.iload_n 2, 1) := dk_28 (dw rcX11_first_0 15 rfl)
theorem dX11_first_31 : decode cX11_first 31 = .ok (.iadd, 1) := dk_96 (dw rcX11_first_0 16 rfl)
theorem dX11_first_32 : decode cX11_first 32 = .ok (.if_icmp .lt 6, 3) := dk_161 (dw rcX11_first_0 17 rfl) rfl
theorem dX11_first_35 : decode cX11_first 35 = .ok (.bipush (-2), 2) := dk_16 (dw rcX11_first_0 18 rfl) rfl
theorem dX11_first_37 : decode cX11_first 37 = .ok (.ireturn, 1) := dk_172 (dw rcX11_first_0 19 rfl)
theorem dX11_first_38 : decode cX11_first 38 = .ok (.iload_n 1, 1) := dk_27 (dw rcX11_first_0 20 rfl)
theorem dX11_first_39 : decode cX11_first 39 = .ok (.iload_n 2, 1) := dk_28 (dw rcX11_first_0 21 rfl)
theorem dX11_first_40 : decode cX11_first 40 = .ok (.iadd, 1) := dk_96 (dw rcX11_first_0 22 rfl)
theorem dX11_first_41 : decode cX11_first 41 = .ok (.istore 6, 2) := dk_54 (dw rcX11_first_0 23 rfl)
noncomputable def rbX11_first_43 : List (Nat × List Nat) := [(43, [21, 5]), (45, [54, 7]), (47, [3]), (48, [54, 8]), (50, [21, 8]), (52, [21, 6]), (54, [162, 0, 34]), (57, [28]), (58, [158, 0, 14]), (61, [21, 7]), (63, [29]), (64, [96]), (65, [27]), (66, [164, 0, 6]), (69, [21, 8]), (71, [172]), (72, [21, 7]), (74, [21, 4]), (76, [96]), (77, [21, 6]), (79, [112]), (80, [54, 7]), (82, [132, 8, 1]), (85, [167, 255, 221])]
theorem rcX11_first_43 : dgo (lb cX11_first) 0 rbX11_first_43 = true := by decide +kernel
theorem dX11_first_43 : decode cX11_first 43 = .ok (.iload 5, 2) := dk_21 (dw rcX11_first_43 0 rfl)
theorem dX11_first_45 : decode cX11_first 45 = .ok (.istore 7, 2) := dk_54 (dw rcX11_first_43 1 rfl)
theorem dX11_first_47 : decode cX11_first 47 = .ok (.iconst 0, 1) := dk_3 (dw rcX11_first_43 2 rfl)
theorem dX11_first_48 : decode cX11_first 48 = .ok (.istore 8, 2) := dk_54 (dw rcX11_first_43 3 rfl)
theorem dX11_first_50 : decode cX11_first 50 = .ok (.iload 8, 2) := dk_21 (dw rcX11_first_43 4 rfl)
theorem dX11_first_52 : decode cX11_first 52 = .ok (.iload 6, 2) := dk_21 (dw rcX11_first_43 5 rfl)
theorem dX11_first_54 : decode cX11_first 54 = .ok (.if_icmp .ge 34, 3) := dk_162 (dw rcX11_first_43 6 rfl) rfl
theorem dX11_first_57 : decode cX11_first 57 = .ok (.iload_n 2, 1) := dk_28 (dw rcX11_first_43 7 rfl)
theorem dX11_first_58 : decode cX11_first 58 = .ok (.ifCond .le 14, 3) := dk_158 (dw rcX11_first_43 8 rfl) rfl
theorem dX11_first_61 : decode cX11_first 61 = .ok (.iload 7, 2) := dk_21 (dw rcX11_first_43 9 rfl)
theorem dX11_first_63 : decode cX11_first 63 = .ok (.iload_n 3, 1) := dk_29 (dw rcX11_first_43 10 rfl)
theorem dX11_first_64 : decode cX11_first 64 = .ok (.iadd, 1) := dk_96 (dw rcX11_first_43 11 rfl)
theorem dX11_first_65 : decode cX11_first 65 = .ok (.iload_n 1, 1) := dk_27 (dw rcX11_first_43 12 rfl)
theorem dX11_first_66 : decode cX11_first 66 = .ok (.if_icmp .le 6, 3) := dk_164 (dw rcX11_first_43 13 rfl) rfl
theorem dX11_first_69 : decode cX11_first 69 = .ok (.iload 8, 2) := dk_21 (dw rcX11_first_43 14 rfl)
theorem dX11_first_71 : decode cX11_first 71 = .ok (.ireturn, 1) := dk_172 (dw rcX11_first_43 15 rfl)
theorem dX11_first_72 : decode cX11_first 72 = .ok (.iload 7, 2) := dk_21 (dw rcX11_first_43 16 rfl)
theorem dX11_first_74 : decode cX11_first 74 = .ok (.iload 4, 2) := dk_21 (dw rcX11_first_43 17 rfl)
theorem dX11_first_76 : decode cX11_first 76 = .ok (.iadd, 1) := dk_96 (dw rcX11_first_43 18 rfl)
theorem dX11_first_77 : decode cX11_first 77 = .ok (.iload 6, 2) := dk_21 (dw rcX11_first_43 19 rfl)
theorem dX11_first_79 : decode cX11_first 79 = .ok (.irem, 1) := dk_112 (dw rcX11_first_43 20 rfl)
theorem dX11_first_80 : decode cX11_first 80 = .ok (.istore 7, 2) := dk_54 (dw rcX11_first_43 21 rfl)
theorem dX11_first_82 : decode cX11_first 82 = .ok (.iinc 8 1, 3) := dk_132 (dw rcX11_first_43 22 rfl) rfl
theorem dX11_first_85 : decode cX11_first 85 = .ok (.goto (-35), 3) := dk_167 (dw rcX11_first_43 23 rfl) rfl
noncomputable def rbX11_first_88 : List (Nat × List Nat) := [(88, [2]), (89, [172])]
theorem rcX11_first_88 : dgo (lb cX11_first) 0 rbX11_first_88 = true := by decide +kernel
theorem dX11_first_88 : decode cX11_first 88 = .ok (.iconst (-1), 1) := dk_2 (dw rcX11_first_88 0 rfl)
theorem dX11_first_89 : decode cX11_first 89 = .ok (.ireturn, 1) := dk_172 (dw rcX11_first_88 1 rfl)
noncomputable def rbX11_image_0 : List (Nat × List Nat) := [(0, [42]), (1, [180, 0, 65]), (4, [27]), (5, [182, 1, 43]), (8, [153, 0, 10]), (11, [42]), (12, [182, 0, 131]), (15, [167, 0, 4]), (18, [2]), (19, [172])]
theorem rcX11_image_0 : dgo (lb cX11_image) 0 rbX11_image_0 = true := by decide +kernel
theorem dX11_image_0 : decode cX11_image 0 = .ok (.aload_n 0, 1) := dk_42 (dw rcX11_image_0 0 rfl)
theorem dX11_image_1 : decode cX11_image 1 = .ok (.getfield 65, 3) := dk_180 (dw rcX11_image_0 1 rfl) rfl
theorem dX11_image_4 : decode cX11_image 4 = .ok (.iload_n 1, 1) := dk_27 (dw rcX11_image_0 2 rfl)
theorem dX11_image_5 : decode cX11_image 5 = .ok (.invokevirtual 299, 3) := dk_182 (dw rcX11_image_0 3 rfl) rfl
theorem dX11_image_8 : decode cX11_image 8 = .ok (.ifCond .eq 10, 3) := dk_153 (dw rcX11_image_0 4 rfl) rfl
theorem dX11_image_11 : decode cX11_image 11 = .ok (.aload_n 0, 1) := dk_42 (dw rcX11_image_0 5 rfl)
theorem dX11_image_12 : decode cX11_image 12 = .ok (.invokevirtual 131, 3) := dk_182 (dw rcX11_image_0 6 rfl) rfl
theorem dX11_image_15 : decode cX11_image 15 = .ok (.goto 4, 3) := dk_167 (dw rcX11_image_0 7 rfl) rfl
theorem dX11_image_18 : decode cX11_image 18 = .ok (.iconst (-1), 1) := dk_2 (dw rcX11_image_0 8 rfl)
theorem dX11_image_19 : decode cX11_image 19 = .ok (.ireturn, 1) := dk_172 (dw rcX11_image_0 9 rfl)
noncomputable def rbX11_isEndless_0 : List (Nat × List Nat) := [(0, [26]), (1, [4]), (2, [161, 0, 34]), (5, [26]), (6, [16, 60]), (8, [163, 0, 28]), (11, [27]), (12, [155, 0, 24]), (15, [27]), (16, [16, 9]), (18, [163, 0, 18]), (21, [28]), (22, [4]), (23, [161, 0, 13]), (26, [28]), (27, [16, 12]), (29, [163, 0, 7]), (32, [4]), (33, [167, 0, 4]), (36, [3]), (37, [172])]
theorem rcX11_isEndless_0 : dgo (lb cX11_isEndless) 0 rbX11_isEndless_0 = true := by decide +kernel
theorem dX11_isEndless_0 : decode cX11_isEndless 0 = .ok (.iload_n 0, 1) := dk_26 (dw rcX11_isEndless_0 0 rfl)
theorem dX11_isEndless_1 : decode cX11_isEndless 1 = .ok (.iconst 1, 1) := dk_4 (dw rcX11_isEndless_0 1 rfl)
theorem dX11_isEndless_2 : decode cX11_isEndless 2 = .ok (.if_icmp .lt 34, 3) := dk_161 (dw rcX11_isEndless_0 2 rfl) rfl
theorem dX11_isEndless_5 : decode cX11_isEndless 5 = .ok (.iload_n 0, 1) := dk_26 (dw rcX11_isEndless_0 3 rfl)
theorem dX11_isEndless_6 : decode cX11_isEndless 6 = .ok (.bipush 60, 2) := dk_16 (dw rcX11_isEndless_0 4 rfl) rfl
theorem dX11_isEndless_8 : decode cX11_isEndless 8 = .ok (.if_icmp .gt 28, 3) := dk_163 (dw rcX11_isEndless_0 5 rfl) rfl
theorem dX11_isEndless_11 : decode cX11_isEndless 11 = .ok (.iload_n 1, 1) := dk_27 (dw rcX11_isEndless_0 6 rfl)
theorem dX11_isEndless_12 : decode cX11_isEndless 12 = .ok (.ifCond .lt 24, 3) := dk_155 (dw rcX11_isEndless_0 7 rfl) rfl
theorem dX11_isEndless_15 : decode cX11_isEndless 15 = .ok (.iload_n 1, 1) := dk_27 (dw rcX11_isEndless_0 8 rfl)
theorem dX11_isEndless_16 : decode cX11_isEndless 16 = .ok (.bipush 9, 2) := dk_16 (dw rcX11_isEndless_0 9 rfl) rfl
theorem dX11_isEndless_18 : decode cX11_isEndless 18 = .ok (.if_icmp .gt 18, 3) := dk_163 (dw rcX11_isEndless_0 10 rfl) rfl
theorem dX11_isEndless_21 : decode cX11_isEndless 21 = .ok (.iload_n 2, 1) := dk_28 (dw rcX11_isEndless_0 11 rfl)
theorem dX11_isEndless_22 : decode cX11_isEndless 22 = .ok (.iconst 1, 1) := dk_4 (dw rcX11_isEndless_0 12 rfl)
theorem dX11_isEndless_23 : decode cX11_isEndless 23 = .ok (.if_icmp .lt 13, 3) := dk_161 (dw rcX11_isEndless_0 13 rfl) rfl
theorem dX11_isEndless_26 : decode cX11_isEndless 26 = .ok (.iload_n 2, 1) := dk_28 (dw rcX11_isEndless_0 14 rfl)
theorem dX11_isEndless_27 : decode cX11_isEndless 27 = .ok (.bipush 12, 2) := dk_16 (dw rcX11_isEndless_0 15 rfl) rfl
theorem dX11_isEndless_29 : decode cX11_isEndless 29 = .ok (.if_icmp .gt 7, 3) := dk_163 (dw rcX11_isEndless_0 16 rfl) rfl
theorem dX11_isEndless_32 : decode cX11_isEndless 32 = .ok (.iconst 1, 1) := dk_4 (dw rcX11_isEndless_0 17 rfl)
theorem dX11_isEndless_33 : decode cX11_isEndless 33 = .ok (.goto 4, 3) := dk_167 (dw rcX11_isEndless_0 18 rfl) rfl
theorem dX11_isEndless_36 : decode cX11_isEndless 36 = .ok (.iconst 0, 1) := dk_3 (dw rcX11_isEndless_0 19 rfl)
theorem dX11_isEndless_37 : decode cX11_isEndless 37 = .ok (.ireturn, 1) := dk_172 (dw rcX11_isEndless_0 20 rfl)
noncomputable def rbX11_later_0 : List (Nat × List Nat) := [(0, [27]), (1, [155, 0, 25]), (4, [27]), (5, [17, 3, 232]), (8, [163, 0, 18]), (11, [42]), (12, [180, 0, 72]), (15, [180, 1, 22]), (18, [27]), (19, [96]), (20, [19, 1, 25]), (23, [164, 0, 5]), (26, [2]), (27, [172]), (28, [42]), (29, [180, 0, 72]), (32, [89]), (33, [180, 1, 22]), (36, [27]), (37, [96]), (38, [181, 1, 22]), (41, [42]), (42, [180, 0, 72]), (45, [180, 1, 22])]
theorem rcX11_later_0 : dgo (lb cX11_later) 0 rbX11_later_0 = true := by decide +kernel
theorem dX11_later_0 : decode cX11_later 0 = .ok (.iload_n 1, 1) := dk_27 (dw rcX11_later_0 0 rfl)
theorem dX11_later_1 : decode cX11_later 1 = .ok (.ifCond .lt 25, 3) := dk_155 (dw rcX11_later_0 1 rfl) rfl
theorem dX11_later_4 : decode cX11_later 4 = .ok (.iload_n 1, 1) := dk_27 (dw rcX11_later_0 2 rfl)
theorem dX11_later_5 : decode cX11_later 5 = .ok (.sipush 1000, 3) := dk_17 (dw rcX11_later_0 3 rfl) rfl
theorem dX11_later_8 : decode cX11_later 8 = .ok (.if_icmp .gt 18, 3) := dk_163 (dw rcX11_later_0 4 rfl) rfl
theorem dX11_later_11 : decode cX11_later 11 = .ok (.aload_n 0, 1) := dk_42 (dw rcX11_later_0 5 rfl)
theorem dX11_later_12 : decode cX11_later 12 = .ok (.getfield 72, 3) := dk_180 (dw rcX11_later_0 6 rfl) rfl
theorem dX11_later_15 : decode cX11_later 15 = .ok (.getfield 278, 3) := dk_180 (dw rcX11_later_0 7 rfl) rfl
theorem dX11_later_18 : decode cX11_later 18 = .ok (.iload_n 1, 1) := dk_27 (dw rcX11_later_0 8 rfl)
theorem dX11_later_19 : decode cX11_later 19 = .ok (.iadd, 1) := dk_96 (dw rcX11_later_0 9 rfl)
theorem dX11_later_20 : decode cX11_later 20 = .ok (.ldc_w 281, 3) := dk_19 (dw rcX11_later_0 10 rfl) rfl
theorem dX11_later_23 : decode cX11_later 23 = .ok (.if_icmp .le 5, 3) := dk_164 (dw rcX11_later_0 11 rfl) rfl
theorem dX11_later_26 : decode cX11_later 26 = .ok (.iconst (-1), 1) := dk_2 (dw rcX11_later_0 12 rfl)
theorem dX11_later_27 : decode cX11_later 27 = .ok (.ireturn, 1) := dk_172 (dw rcX11_later_0 13 rfl)
theorem dX11_later_28 : decode cX11_later 28 = .ok (.aload_n 0, 1) := dk_42 (dw rcX11_later_0 14 rfl)
theorem dX11_later_29 : decode cX11_later 29 = .ok (.getfield 72, 3) := dk_180 (dw rcX11_later_0 15 rfl) rfl
theorem dX11_later_32 : decode cX11_later 32 = .ok (.dup, 1) := dk_89 (dw rcX11_later_0 16 rfl)
theorem dX11_later_33 : decode cX11_later 33 = .ok (.getfield 278, 3) := dk_180 (dw rcX11_later_0 17 rfl) rfl
theorem dX11_later_36 : decode cX11_later 36 = .ok (.iload_n 1, 1) := dk_27 (dw rcX11_later_0 18 rfl)
theorem dX11_later_37 : decode cX11_later 37 = .ok (.iadd, 1) := dk_96 (dw rcX11_later_0 19 rfl)
theorem dX11_later_38 : decode cX11_later 38 = .ok (.putfield 278, 3) := dk_181 (dw rcX11_later_0 20 rfl) rfl
theorem dX11_later_41 : decode cX11_later 41 = .ok (.aload_n 0, 1) := dk_42 (dw rcX11_later_0 21 rfl)
theorem dX11_later_42 : decode cX11_later 42 = .ok (.getfield 72, 3) := dk_180 (dw rcX11_later_0 22 rfl) rfl
theorem dX11_later_45 : decode cX11_later 45 = .ok (.getfield 278, 3) := dk_180 (dw rcX11_later_0 23 rfl) rfl
theorem dX11_later_48 : decode cX11_later 48 = .ok (.ireturn, 1) := dq_of (by decide +kernel)
noncomputable def rbX11_lies_0 : List (Nat × List Nat) := [(0, [27]), (1, [155, 0, 20]), (4, [27]), (5, [42]), (6, [180, 0, 150]), (9, [162, 0, 12]), (12, [42]), (13, [180, 0, 76]), (16, [27]), (17, [46]), (18, [167, 0, 4]), (21, [2]), (22, [172])]
theorem rcX11_lies_0 : dgo (lb cX11_lies) 0 rbX11_lies_0 = true := by decide +kernel
theorem dX11_lies_0 : decode cX11_lies 0 = .ok (.iload_n 1, 1) := dk_27 (dw rcX11_lies_0 0 rfl)
theorem dX11_lies_1 : decode cX11_lies 1 = .ok (.ifCond .lt 20, 3) := dk_155 (dw rcX11_lies_0 1 rfl) rfl
theorem dX11_lies_4 : decode cX11_lies 4 = .ok (.iload_n 1, 1) := dk_27 (dw rcX11_lies_0 2 rfl)
theorem dX11_lies_5 : decode cX11_lies 5 = .ok (.aload_n 0, 1) := dk_42 (dw rcX11_lies_0 3 rfl)
theorem dX11_lies_6 : decode cX11_lies 6 = .ok (.getfield 150, 3) := dk_180 (dw rcX11_lies_0 4 rfl) rfl
theorem dX11_lies_9 : decode cX11_lies 9 = .ok (.if_icmp .ge 12, 3) := dk_162 (dw rcX11_lies_0 5 rfl) rfl
theorem dX11_lies_12 : decode cX11_lies 12 = .ok (.aload_n 0, 1) := dk_42 (dw rcX11_lies_0 6 rfl)
theorem dX11_lies_13 : decode cX11_lies 13 = .ok (.getfield 76, 3) := dk_180 (dw rcX11_lies_0 7 rfl) rfl
theorem dX11_lies_16 : decode cX11_lies 16 = .ok (.iload_n 1, 1) := dk_27 (dw rcX11_lies_0 8 rfl)
theorem dX11_lies_17 : decode cX11_lies 17 = .ok (.iaload, 1) := dk_46 (dw rcX11_lies_0 9 rfl)
theorem dX11_lies_18 : decode cX11_lies 18 = .ok (.goto 4, 3) := dk_167 (dw rcX11_lies_0 10 rfl) rfl
theorem dX11_lies_21 : decode cX11_lies 21 = .ok (.iconst (-1), 1) := dk_2 (dw rcX11_lies_0 11 rfl)
theorem dX11_lies_22 : decode cX11_lies 22 = .ok (.ireturn, 1) := dk_172 (dw rcX11_lies_0 12 rfl)
noncomputable def rbX11_rain_0 : List (Nat × List Nat) := [(0, [42]), (1, [180, 0, 65]), (4, [180, 0, 246]), (7, [16, 9]), (9, [92]), (10, [46]), (11, [4]), (12, [130]), (13, [79]), (14, [42]), (15, [180, 0, 65]), (18, [182, 0, 249]), (21, [42]), (22, [180, 0, 65]), (25, [180, 0, 246]), (28, [16, 9]), (30, [46]), (31, [4]), (32, [160, 0, 7]), (35, [4]), (36, [167, 0, 4]), (39, [3]), (40, [172])]
theorem rcX11_rain_0 : dgo (lb cX11_rain) 0 rbX11_rain_0 = true := by decide +kernel
theorem dX11_rain_0 : decode cX11_rain 0 = .ok (.aload_n 0, 1) := dk_42 (dw rcX11_rain_0 0 rfl)
theorem dX11_rain_1 : decode cX11_rain 1 = .ok (.getfield 65, 3) := dk_180 (dw rcX11_rain_0 1 rfl) rfl
theorem dX11_rain_4 : decode cX11_rain 4 = .ok (.getfield 246, 3) := dk_180 (dw rcX11_rain_0 2 rfl) rfl
theorem dX11_rain_7 : decode cX11_rain 7 = .ok (.bipush 9, 2) := dk_16 (dw rcX11_rain_0 3 rfl) rfl
theorem dX11_rain_9 : decode cX11_rain 9 = .ok (.dup2, 1) := dk_92 (dw rcX11_rain_0 4 rfl)
theorem dX11_rain_10 : decode cX11_rain 10 = .ok (.iaload, 1) := dk_46 (dw rcX11_rain_0 5 rfl)
theorem dX11_rain_11 : decode cX11_rain 11 = .ok (.iconst 1, 1) := dk_4 (dw rcX11_rain_0 6 rfl)
theorem dX11_rain_12 : decode cX11_rain 12 = .ok (.ixor, 1) := dk_130 (dw rcX11_rain_0 7 rfl)
theorem dX11_rain_13 : decode cX11_rain 13 = .ok (.iastore, 1) := dk_79 (dw rcX11_rain_0 8 rfl)
theorem dX11_rain_14 : decode cX11_rain 14 = .ok (.aload_n 0, 1) := dk_42 (dw rcX11_rain_0 9 rfl)
theorem dX11_rain_15 : decode cX11_rain 15 = .ok (.getfield 65, 3) := dk_180 (dw rcX11_rain_0 10 rfl) rfl
theorem dX11_rain_18 : decode cX11_rain 18 = .ok (.invokevirtual 249, 3) := dk_182 (dw rcX11_rain_0 11 rfl) rfl
theorem dX11_rain_21 : decode cX11_rain 21 = .ok (.aload_n 0, 1) := dk_42 (dw rcX11_rain_0 12 rfl)
theorem dX11_rain_22 : decode cX11_rain 22 = .ok (.getfield 65, 3) := dk_180 (dw rcX11_rain_0 13 rfl) rfl
theorem dX11_rain_25 : decode cX11_rain 25 = .ok (.getfield 246, 3) := dk_180 (dw rcX11_rain_0 14 rfl) rfl
theorem dX11_rain_28 : decode cX11_rain 28 = .ok (.bipush 9, 2) := dk_16 (dw rcX11_rain_0 15 rfl) rfl
theorem dX11_rain_30 : decode cX11_rain 30 = .ok (.iaload, 1) := dk_46 (dw rcX11_rain_0 16 rfl)
theorem dX11_rain_31 : decode cX11_rain 31 = .ok (.iconst 1, 1) := dk_4 (dw rcX11_rain_0 17 rfl)
theorem dX11_rain_32 : decode cX11_rain 32 = .ok (.if_icmp .ne 7, 3) := dk_160 (dw rcX11_rain_0 18 rfl) rfl
theorem dX11_rain_35 : decode cX11_rain 35 = .ok (.iconst 1, 1) := dk_4 (dw rcX11_rain_0 19 rfl)
theorem dX11_rain_36 : decode cX11_rain 36 = .ok (.goto 4, 3) := dk_167 (dw rcX11_rain_0 20 rfl) rfl
theorem dX11_rain_39 : decode cX11_rain 39 = .ok (.iconst 0, 1) := dk_3 (dw rcX11_rain_0 21 rfl)
theorem dX11_rain_40 : decode cX11_rain 40 = .ok (.ireturn, 1) := dk_172 (dw rcX11_rain_0 22 rfl)
noncomputable def rbX11_redo_0 : List (Nat × List Nat) := [(0, [42]), (1, [180, 0, 65]), (4, [182, 1, 12]), (7, [172])]
theorem rcX11_redo_0 : dgo (lb cX11_redo) 0 rbX11_redo_0 = true := by decide +kernel
theorem dX11_redo_0 : decode cX11_redo 0 = .ok (.aload_n 0, 1) := dk_42 (dw rcX11_redo_0 0 rfl)
theorem dX11_redo_1 : decode cX11_redo 1 = .ok (.getfield 65, 3) := dk_180 (dw rcX11_redo_0 1 rfl) rfl
theorem dX11_redo_4 : decode cX11_redo 4 = .ok (.invokevirtual 268, 3) := dk_182 (dw rcX11_redo_0 2 rfl) rfl
theorem dX11_redo_7 : decode cX11_redo 7 = .ok (.ireturn, 1) := dk_172 (dw rcX11_redo_0 3 rfl)
noncomputable def rbX11_suits_0 : List (Nat × List Nat) := [(0, [27]), (1, [28]), (2, [21, 5]), (4, [184, 0, 194]), (7, [153, 0, 14]), (10, [29]), (11, [21, 4]), (13, [21, 5]), (15, [184, 0, 194]), (18, [154, 0, 7]), (21, [20, 0, 165]), (24, [173]), (25, [9]), (26, [55, 6]), (28, [4]), (29, [54, 8]), (31, [21, 8]), (33, [16, 60]), (35, [163, 0, 45]), (38, [27]), (39, [28]), (40, [21, 5]), (42, [21, 8]), (44, [184, 0, 197])]
theorem rcX11_suits_0 : dgo (lb cX11_suits) 0 rbX11_suits_0 = true := by decide +kernel
theorem dX11_suits_0 : decode cX11_suits 0 = .ok (.iload_n 1, 1) := dk_27 (dw rcX11_suits_0 0 rfl)
theorem dX11_suits_1 : decode cX11_suits 1 = .ok (.iload_n 2, 1) := dk_28 (dw rcX11_suits_0 1 rfl)
theorem dX11_suits_2 : decode cX11_suits 2 = .ok (.iload 5, 2) := dk_21 (dw rcX11_suits_0 2 rfl)
theorem dX11_suits_4 : decode cX11_suits 4 = .ok (.invokestatic 194, 3) := dk_184 (dw rcX11_suits_0 3 rfl) rfl
theorem dX11_suits_7 : decode cX11_suits 7 = .ok (.ifCond .eq 14, 3) := dk_153 (dw rcX11_suits_0 4 rfl) rfl
theorem dX11_suits_10 : decode cX11_suits 10 = .ok (.iload_n 3, 1) := dk_29 (dw rcX11_suits_0 5 rfl)
theorem dX11_suits_11 : decode cX11_suits 11 = .ok (.iload 4, 2) := dk_21 (dw rcX11_suits_0 6 rfl)
theorem dX11_suits_13 : decode cX11_suits 13 = .ok (.iload 5, 2) := dk_21 (dw rcX11_suits_0 7 rfl)
theorem dX11_suits_15 : decode cX11_suits 15 = .ok (.invokestatic 194, 3) := dk_184 (dw rcX11_suits_0 8 rfl) rfl
theorem dX11_suits_18 : decode cX11_suits 18 = .ok (.ifCond .ne 7, 3) := dk_154 (dw rcX11_suits_0 9 rfl) rfl
theorem dX11_suits_21 : decode cX11_suits 21 = .ok (.ldc2_w 165, 3) := dk_20 (dw rcX11_suits_0 10 rfl) rfl
theorem dX11_suits_24 : decode cX11_suits 24 = .ok (.lreturn, 1) := dk_173 (dw rcX11_suits_0 11 rfl)
theorem dX11_suits_25 : decode cX11_suits 25 = .ok (.lconst 0, 1) := dk_9 (dw rcX11_suits_0 12 rfl)
theorem dX11_suits_26 : decode cX11_suits 26 = .ok (.lstore 6, 2) := dk_55 (dw rcX11_suits_0 13 rfl)
theorem dX11_suits_28 : decode cX11_suits 28 = .ok (.iconst 1, 1) := dk_4 (dw rcX11_suits_0 14 rfl)
theorem dX11_suits_29 : decode cX11_suits 29 = .ok (.istore 8, 2) := dk_54 (dw rcX11_suits_0 15 rfl)
theorem dX11_suits_31 : decode cX11_suits 31 = .ok (.iload 8, 2) := dk_21 (dw rcX11_suits_0 16 rfl)
theorem dX11_suits_33 : decode cX11_suits 33 = .ok (.bipush 60, 2) := dk_16 (dw rcX11_suits_0 17 rfl) rfl
theorem dX11_suits_35 : decode cX11_suits 35 = .ok (.if_icmp .gt 45, 3) := dk_163 (dw rcX11_suits_0 18 rfl) rfl
theorem dX11_suits_38 : decode cX11_suits 38 = .ok (.iload_n 1, 1) := dk_27 (dw rcX11_suits_0 19 rfl)
theorem dX11_suits_39 : decode cX11_suits 39 = .ok (.iload_n 2, 1) := dk_28 (dw rcX11_suits_0 20 rfl)
theorem dX11_suits_40 : decode cX11_suits 40 = .ok (.iload 5, 2) := dk_21 (dw rcX11_suits_0 21 rfl)
theorem dX11_suits_42 : decode cX11_suits 42 = .ok (.iload 8, 2) := dk_21 (dw rcX11_suits_0 22 rfl)
theorem dX11_suits_44 : decode cX11_suits 44 = .ok (.invokestatic 197, 3) := dk_184 (dw rcX11_suits_0 23 rfl) rfl
noncomputable def rbX11_suits_47 : List (Nat × List Nat) := [(47, [153, 0, 27]), (50, [29]), (51, [21, 4]), (53, [21, 5]), (55, [21, 8]), (57, [184, 0, 197]), (60, [153, 0, 14]), (63, [22, 6]), (65, [10]), (66, [21, 8]), (68, [4]), (69, [100]), (70, [121]), (71, [129]), (72, [55, 6]), (74, [132, 8, 1]), (77, [167, 255, 210]), (80, [22, 6]), (82, [173])]
theorem rcX11_suits_47 : dgo (lb cX11_suits) 0 rbX11_suits_47 = true := by decide +kernel
theorem dX11_suits_47 : decode cX11_suits 47 = .ok (.ifCond .eq 27, 3) := dk_153 (dw rcX11_suits_47 0 rfl) rfl
theorem dX11_suits_50 : decode cX11_suits 50 = .ok (.iload_n 3, 1) := dk_29 (dw rcX11_suits_47 1 rfl)
theorem dX11_suits_51 : decode cX11_suits 51 = .ok (.iload 4, 2) := dk_21 (dw rcX11_suits_47 2 rfl)
theorem dX11_suits_53 : decode cX11_suits 53 = .ok (.iload 5, 2) := dk_21 (dw rcX11_suits_47 3 rfl)
theorem dX11_suits_55 : decode cX11_suits 55 = .ok (.iload 8, 2) := dk_21 (dw rcX11_suits_47 4 rfl)
theorem dX11_suits_57 : decode cX11_suits 57 = .ok (.invokestatic 197, 3) := dk_184 (dw rcX11_suits_47 5 rfl) rfl
theorem dX11_suits_60 : decode cX11_suits 60 = .ok (.ifCond .eq 14, 3) := dk_153 (dw rcX11_suits_47 6 rfl) rfl
theorem dX11_suits_63 : decode cX11_suits 63 = .ok (.lload 6, 2) := dk_22 (dw rcX11_suits_47 7 rfl)
theorem dX11_suits_65 : decode cX11_suits 65 = .ok (.lconst 1, 1) := dk_10 (dw rcX11_suits_47 8 rfl)
theorem dX11_suits_66 : decode cX11_suits 66 = .ok (.iload 8, 2) := dk_21 (dw rcX11_suits_47 9 rfl)
theorem dX11_suits_68 : decode cX11_suits 68 = .ok (.iconst 1, 1) := dk_4 (dw rcX11_suits_47 10 rfl)
theorem dX11_suits_69 : decode cX11_suits 69 = .ok (.isub, 1) := dk_100 (dw rcX11_suits_47 11 rfl)
theorem dX11_suits_70 : decode cX11_suits 70 = .ok (.lshl, 1) := dk_121 (dw rcX11_suits_47 12 rfl)
theorem dX11_suits_71 : decode cX11_suits 71 = .ok (.lor, 1) := dk_129 (dw rcX11_suits_47 13 rfl)
theorem dX11_suits_72 : decode cX11_suits 72 = .ok (.lstore 6, 2) := dk_55 (dw rcX11_suits_47 14 rfl)
theorem dX11_suits_74 : decode cX11_suits 74 = .ok (.iinc 8 1, 3) := dk_132 (dw rcX11_suits_47 15 rfl) rfl
theorem dX11_suits_77 : decode cX11_suits 77 = .ok (.goto (-46), 3) := dk_167 (dw rcX11_suits_47 16 rfl) rfl
theorem dX11_suits_80 : decode cX11_suits 80 = .ok (.lload 6, 2) := dk_22 (dw rcX11_suits_47 17 rfl)
theorem dX11_suits_82 : decode cX11_suits 82 = .ok (.lreturn, 1) := dk_173 (dw rcX11_suits_47 18 rfl)
noncomputable def rbX11_undo_0 : List (Nat × List Nat) := [(0, [42]), (1, [180, 0, 65]), (4, [182, 1, 9]), (7, [172])]
theorem rcX11_undo_0 : dgo (lb cX11_undo) 0 rbX11_undo_0 = true := by decide +kernel
theorem dX11_undo_0 : decode cX11_undo 0 = .ok (.aload_n 0, 1) := dk_42 (dw rcX11_undo_0 0 rfl)
theorem dX11_undo_1 : decode cX11_undo 1 = .ok (.getfield 65, 3) := dk_180 (dw rcX11_undo_0 1 rfl) rfl
theorem dX11_undo_4 : decode cX11_undo 4 = .ok (.invokevirtual 265, 3) := dk_182 (dw rcX11_undo_0 2 rfl) rfl
theorem dX11_undo_7 : decode cX11_undo 7 = .ok (.ireturn, 1) := dk_172 (dw rcX11_undo_0 3 rfl)
noncomputable def rbX11_untell_0 : List (Nat × List Nat) := [(0, [42]), (1, [180, 0, 72]), (4, [27]), (5, [182, 1, 19]), (8, [172])]
theorem rcX11_untell_0 : dgo (lb cX11_untell) 0 rbX11_untell_0 = true := by decide +kernel
theorem dX11_untell_0 : decode cX11_untell 0 = .ok (.aload_n 0, 1) := dk_42 (dw rcX11_untell_0 0 rfl)
theorem dX11_untell_1 : decode cX11_untell 1 = .ok (.getfield 72, 3) := dk_180 (dw rcX11_untell_0 1 rfl) rfl
theorem dX11_untell_4 : decode cX11_untell 4 = .ok (.iload_n 1, 1) := dk_27 (dw rcX11_untell_0 2 rfl)
theorem dX11_untell_5 : decode cX11_untell 5 = .ok (.invokevirtual 275, 3) := dk_182 (dw rcX11_untell_0 3 rfl) rfl
theorem dX11_untell_8 : decode cX11_untell 8 = .ok (.ireturn, 1) := dk_172 (dw rcX11_untell_0 4 rfl)
noncomputable def rbX11_walker_0 : List (Nat × List Nat) := [(0, [42]), (1, [180, 0, 65]), (4, [180, 0, 246]), (7, [3]), (8, [46]), (9, [2]), (10, [159, 0, 12]), (13, [27]), (14, [155, 0, 8]), (17, [27]), (18, [8]), (19, [164, 0, 5]), (22, [2]), (23, [172]), (24, [42]), (25, [180, 0, 65]), (28, [180, 0, 246]), (31, [27]), (32, [46]), (33, [172])]
theorem rcX11_walker_0 : dgo (lb cX11_walker) 0 rbX11_walker_0 = true := by decide +kernel
theorem dX11_walker_0 : decode cX11_walker 0 = .ok (.aload_n 0, 1) := dk_42 (dw rcX11_walker_0 0 rfl)
theorem dX11_walker_1 : decode cX11_walker 1 = .ok (.getfield 65, 3) := dk_180 (dw rcX11_walker_0 1 rfl) rfl
theorem dX11_walker_4 : decode cX11_walker 4 = .ok (.getfield 246, 3) := dk_180 (dw rcX11_walker_0 2 rfl) rfl
theorem dX11_walker_7 : decode cX11_walker 7 = .ok (.iconst 0, 1) := dk_3 (dw rcX11_walker_0 3 rfl)
theorem dX11_walker_8 : decode cX11_walker 8 = .ok (.iaload, 1) := dk_46 (dw rcX11_walker_0 4 rfl)
theorem dX11_walker_9 : decode cX11_walker 9 = .ok (.iconst (-1), 1) := dk_2 (dw rcX11_walker_0 5 rfl)
theorem dX11_walker_10 : decode cX11_walker 10 = .ok (.if_icmp .eq 12, 3) := dk_159 (dw rcX11_walker_0 6 rfl) rfl
theorem dX11_walker_13 : decode cX11_walker 13 = .ok (.iload_n 1, 1) := dk_27 (dw rcX11_walker_0 7 rfl)
theorem dX11_walker_14 : decode cX11_walker 14 = .ok (.ifCond .lt 8, 3) := dk_155 (dw rcX11_walker_0 8 rfl) rfl
theorem dX11_walker_17 : decode cX11_walker 17 = .ok (.iload_n 1, 1) := dk_27 (dw rcX11_walker_0 9 rfl)
theorem dX11_walker_18 : decode cX11_walker 18 = .ok (.iconst 5, 1) := dk_8 (dw rcX11_walker_0 10 rfl)
theorem dX11_walker_19 : decode cX11_walker 19 = .ok (.if_icmp .le 5, 3) := dk_164 (dw rcX11_walker_0 11 rfl) rfl
theorem dX11_walker_22 : decode cX11_walker 22 = .ok (.iconst (-1), 1) := dk_2 (dw rcX11_walker_0 12 rfl)
theorem dX11_walker_23 : decode cX11_walker 23 = .ok (.ireturn, 1) := dk_172 (dw rcX11_walker_0 13 rfl)
theorem dX11_walker_24 : decode cX11_walker 24 = .ok (.aload_n 0, 1) := dk_42 (dw rcX11_walker_0 14 rfl)
theorem dX11_walker_25 : decode cX11_walker 25 = .ok (.getfield 65, 3) := dk_180 (dw rcX11_walker_0 15 rfl) rfl
theorem dX11_walker_28 : decode cX11_walker 28 = .ok (.getfield 246, 3) := dk_180 (dw rcX11_walker_0 16 rfl) rfl
theorem dX11_walker_31 : decode cX11_walker 31 = .ok (.iload_n 1, 1) := dk_27 (dw rcX11_walker_0 17 rfl)
theorem dX11_walker_32 : decode cX11_walker 32 = .ok (.iaload, 1) := dk_46 (dw rcX11_walker_0 18 rfl)
theorem dX11_walker_33 : decode cX11_walker 33 = .ok (.ireturn, 1) := dk_172 (dw rcX11_walker_0 19 rfl)
set_option maxHeartbeats 4000000 in
set_option maxRecDepth 100000 in
theorem k_endless (l : Launch) (D : va_G) (k : KT) (A : Nat → Prop) (a : Nat → Nat) (z : SK) (G : GS) (p0 : Int32) (p1 : Int32) (p2 : Int32)  : Met l yX11_isEndless (WS yX11_isEndless cX11_isEndless 3 (some .boolean)) ({ frames := 0, cells := 0, slots := 0, locals := 0 }) (va_Pc [.int p0, .int p1, .int p2] (cW D k A a z G)) (va_Qi (fun (r : Int32) (G1 : GS) => P_endless p0 p1 p2 G r G1) (fun (G1 : GS) t => Wd D k A a G1 t.heap) A) 0 0 A := by
  refine Met.ofW (cc := cX11_isEndless) (maxL := 3) (ret := (some .boolean)) (by decide) rfl ?_
  intro p e s m args below meth c s₁ B hml hv
  obtain ⟨rfl, hW, hB_G, hK, hZ⟩ := hv
  have hx := B.exec
  have hb := B.bytes
  have hr := B.returns
  have hts := atoms_spec (ws := WS yX11_isEndless cX11_isEndless 3 (some .boolean)) B.pre
  have hgd : ∀ w ∈ gd, w ∈ WS yX11_isEndless cX11_isEndless 3 (some .boolean) := fun w h => List.mem_cons_of_mem _ h
  have hg : ∀ w ∈ gd, w.before _ s = true := fun w h => hts w (hgd w h)
  have hown : s.vm.findClass RX11 = some m.cls := findClass_of_methodNamed B.named
  have hS : va_S A s.heap s.heap [] := va_S.rf
  have hF : Fr [] [] G G := Fr.rf
  have hl := lv_entry ([.int p0, .int p1, .int p2]) (n := 3) (Nat.le_of_ble_eq_true rfl)
  rw [lg_entry_eq]
  generalize (lg_sl ([.int p0, .int p1, .int p2]) ++ List.replicate (3 - (lg_sl ([.int p0, .int p1, .int p2])).length) Slot.unset).toArray = ls at hl ⊢
  have hl : lv_has ls 3 [(0, .int p0), (1, .int p1), (2, .int p2)] := hl
  refine lv_iload_n hx hb dX11_isEndless_0 rfl (lv_at hl 0 rfl) ?_
  refine ic_1 hx hb dX11_isEndless_1 ?_
  refine lv_icmp_lt (tgt := 36) hx hb dX11_isEndless_2 rfl (fun c_1 => ?_) (fun c_1 => ?_)
  · have c_1 : p0.toInt < 1 := xI_lt rfl rfl c_1
    refine ic_0 hx hb dX11_isEndless_36 ?_
    exact W.zret (v := 0) hx hb hr (by decide) (fun t ht _ => ⟨⟨0, G, rfl, (P_endless_mk ⟨hB_G, hF, ⟨by decide, by decide⟩, (by have hq : (0 : Int32).toInt = 0 := rfl; (try dsimp only); omega), (Or.inl ⟨c_1, ⟨rfl, rfl⟩⟩)⟩), wd_t ht hW⟩, hS.F ht⟩) hS.2.2 dX11_isEndless_37
  · have c_1 : 1 ≤ p0.toInt := xI_nlt rfl rfl c_1
    refine lv_iload_n hx hb dX11_isEndless_5 rfl (lv_at hl 0 rfl) ?_
    refine lv_bipush (v := 60) hx hb dX11_isEndless_6 (by decide) ?_
    refine lv_icmp_gt (tgt := 36) hx hb dX11_isEndless_8 rfl (fun c_2 => ?_) (fun c_2 => ?_)
    · have c_2 : 60 < p0.toInt := xI_lt rfl rfl c_2
      refine ic_0 hx hb dX11_isEndless_36 ?_
      exact W.zret (v := 0) hx hb hr (by decide) (fun t ht _ => ⟨⟨0, G, rfl, (P_endless_mk ⟨hB_G, hF, ⟨by decide, by decide⟩, (by have hq : (0 : Int32).toInt = 0 := rfl; (try dsimp only); omega), (Or.inr ⟨c_1, (Or.inl ⟨c_2, ⟨rfl, rfl⟩⟩)⟩)⟩), wd_t ht hW⟩, hS.F ht⟩) hS.2.2 dX11_isEndless_37
    · have c_2 : p0.toInt ≤ 60 := xI_nlt rfl rfl c_2
      refine lv_iload_n hx hb dX11_isEndless_11 rfl (lv_at hl 1 rfl) ?_
      refine lv_if_lt (tgt := 36) hx hb dX11_isEndless_12 rfl (fun c_3 => ?_) (fun c_3 => ?_)
      · have c_3 : p1.toInt < 0 := xI_lt rfl rfl c_3
        refine ic_0 hx hb dX11_isEndless_36 ?_
        exact W.zret (v := 0) hx hb hr (by decide) (fun t ht _ => ⟨⟨0, G, rfl, (P_endless_mk ⟨hB_G, hF, ⟨by decide, by decide⟩, (by have hq : (0 : Int32).toInt = 0 := rfl; (try dsimp only); omega), (Or.inr ⟨c_1, (Or.inr ⟨c_2, (Or.inl ⟨c_3, ⟨rfl, rfl⟩⟩)⟩)⟩)⟩), wd_t ht hW⟩, hS.F ht⟩) hS.2.2 dX11_isEndless_37
      · have c_3 : 0 ≤ p1.toInt := xI_nlt rfl rfl c_3
        refine lv_iload_n hx hb dX11_isEndless_15 rfl (lv_at hl 1 rfl) ?_
        refine lv_bipush (v := 9) hx hb dX11_isEndless_16 (by decide) ?_
        refine lv_icmp_gt (tgt := 36) hx hb dX11_isEndless_18 rfl (fun c_4 => ?_) (fun c_4 => ?_)
        · have c_4 : 9 < p1.toInt := xI_lt rfl rfl c_4
          refine ic_0 hx hb dX11_isEndless_36 ?_
          exact W.zret (v := 0) hx hb hr (by decide) (fun t ht _ => ⟨⟨0, G, rfl, (P_endless_mk ⟨hB_G, hF, ⟨by decide, by decide⟩, (by have hq : (0 : Int32).toInt = 0 := rfl; (try dsimp only); omega), (Or.inr ⟨c_1, (Or.inr ⟨c_2, (Or.inr ⟨c_3, (Or.inl ⟨c_4, ⟨rfl, rfl⟩⟩)⟩)⟩)⟩)⟩), wd_t ht hW⟩, hS.F ht⟩) hS.2.2 dX11_isEndless_37
        · have c_4 : p1.toInt ≤ 9 := xI_nlt rfl rfl c_4
          refine lv_iload_n hx hb dX11_isEndless_21 rfl (lv_at hl 2 rfl) ?_
          refine ic_1 hx hb dX11_isEndless_22 ?_
          refine lv_icmp_lt (tgt := 36) hx hb dX11_isEndless_23 rfl (fun c_5 => ?_) (fun c_5 => ?_)
          · have c_5 : p2.toInt < 1 := xI_lt rfl rfl c_5
            refine ic_0 hx hb dX11_isEndless_36 ?_
            exact W.zret (v := 0) hx hb hr (by decide) (fun t ht _ => ⟨⟨0, G, rfl, (P_endless_mk ⟨hB_G, hF, ⟨by decide, by decide⟩, (by have hq : (0 : Int32).toInt = 0 := rfl; (try dsimp only); omega), (Or.inr ⟨c_1, (Or.inr ⟨c_2, (Or.inr ⟨c_3, (Or.inr ⟨c_4, (Or.inl ⟨c_5, ⟨rfl, rfl⟩⟩)⟩)⟩)⟩)⟩)⟩), wd_t ht hW⟩, hS.F ht⟩) hS.2.2 dX11_isEndless_37
          · have c_5 : 1 ≤ p2.toInt := xI_nlt rfl rfl c_5
            refine lv_iload_n hx hb dX11_isEndless_26 rfl (lv_at hl 2 rfl) ?_
            refine lv_bipush (v := 12) hx hb dX11_isEndless_27 (by decide) ?_
            refine lv_icmp_gt (tgt := 36) hx hb dX11_isEndless_29 rfl (fun c_6 => ?_) (fun c_6 => ?_)
            · have c_6 : 12 < p2.toInt := xI_lt rfl rfl c_6
              refine ic_0 hx hb dX11_isEndless_36 ?_
              exact W.zret (v := 0) hx hb hr (by decide) (fun t ht _ => ⟨⟨0, G, rfl, (P_endless_mk ⟨hB_G, hF, ⟨by decide, by decide⟩, (by have hq : (0 : Int32).toInt = 0 := rfl; (try dsimp only); omega), (Or.inr ⟨c_1, (Or.inr ⟨c_2, (Or.inr ⟨c_3, (Or.inr ⟨c_4, (Or.inr ⟨c_5, (Or.inl ⟨c_6, ⟨rfl, rfl⟩⟩)⟩)⟩)⟩)⟩)⟩)⟩), wd_t ht hW⟩, hS.F ht⟩) hS.2.2 dX11_isEndless_37
            · have c_6 : p2.toInt ≤ 12 := xI_nlt rfl rfl c_6
              refine ic_1 hx hb dX11_isEndless_32 ?_
              refine lv_goto (tgt := 37) hx hb dX11_isEndless_33 rfl ?_
              exact W.zret (v := 1) hx hb hr (by decide) (fun t ht _ => ⟨⟨1, G, rfl, (P_endless_mk ⟨hB_G, hF, ⟨by decide, by decide⟩, (by have hq : (1 : Int32).toInt = 1 := rfl; (try dsimp only); omega), (Or.inr ⟨c_1, (Or.inr ⟨c_2, (Or.inr ⟨c_3, (Or.inr ⟨c_4, (Or.inr ⟨c_5, (Or.inr ⟨c_6, ⟨rfl, rfl⟩⟩)⟩)⟩)⟩)⟩)⟩)⟩), wd_t ht hW⟩, hS.F ht⟩) hS.2.2 dX11_isEndless_37

set_option maxHeartbeats 4000000 in
set_option maxRecDepth 100000 in
theorem k_begin (l : Launch) (D : va_G) (k : KT) (A : Nat → Prop) (a : Nat → Nat) (z : SK) (G : GS) (p0 : Int32) (p1 : Int32) (p2 : Int32) (p3 : Int32) (ha_p0 : 1 ≤ p0.toInt ∧ p0.toInt ≤ 60) (ha_p1 : 0 ≤ p1.toInt ∧ p1.toInt ≤ 9) (ha_p2 : 1 ≤ p2.toInt ∧ p2.toInt ≤ 12) (ha_p3 : 1 ≤ p3.toInt ∧ p3.toInt ≤ 99) : Met l yX11_beginnings (WS yX11_beginnings cX11_beginnings 6 (some .int)) ({ frames := 1, cells := 0, slots := 0, locals := 26 }) (va_Pc [.int p0, .int p1, .int p2, .int p3] (cW D k A a z G)) (va_Qi (fun (r : Int32) (G1 : GS) => P_begin p0 p1 p2 p3 G r G1) (fun (G1 : GS) t => Wd D k A a G1 t.heap) A) 0 0 A := by
  refine Met.ofW (cc := cX11_beginnings) (maxL := 6) (ret := (some .int)) (by decide) rfl ?_
  intro p e s m args below meth c s₁ B hml hv
  obtain ⟨rfl, hW, hB_G, hK, hZ⟩ := hv
  have hx := B.exec
  have hb := B.bytes
  have hr := B.returns
  have hts := atoms_spec (ws := WS yX11_beginnings cX11_beginnings 6 (some .int)) B.pre
  have hgd : ∀ w ∈ gd, w ∈ WS yX11_beginnings cX11_beginnings 6 (some .int) := fun w h => List.mem_cons_of_mem _ h
  have hg : ∀ w ∈ gd, w.before _ s = true := fun w h => hts w (hgd w h)
  have hown : s.vm.findClass RX11 = some m.cls := findClass_of_methodNamed B.named
  have hS : va_S A s.heap s.heap [] := va_S.rf
  have hF : Fr [] [] G G := Fr.rf
  have hl := lv_entry ([.int p0, .int p1, .int p2, .int p3]) (n := 6) (Nat.le_of_ble_eq_true rfl)
  rw [lg_entry_eq]
  generalize (lg_sl ([.int p0, .int p1, .int p2, .int p3]) ++ List.replicate (6 - (lg_sl ([.int p0, .int p1, .int p2, .int p3])).length) Slot.unset).toArray = ls at hl ⊢
  have hl : lv_has ls 6 [(0, .int p0), (1, .int p1), (2, .int p2), (3, .int p3)] := hl
  refine lv_iload_n hx hb dX11_beginnings_0 rfl (lv_at hl 0 rfl) ?_
  refine lv_iload_n hx hb dX11_beginnings_1 rfl (lv_at hl 1 rfl) ?_
  refine lv_iadd hx hb dX11_beginnings_2 ?_
  refine lv_topi (fun y_1 ey_1 => ?_)
  have ty_1 : y_1.toInt = p0.toInt + p1.toInt := xI_add rfl rfl ey_1 ((by first | exact ok_479 ha_p0.1 ha_p1.1 | omega)) ((by first | exact ok_480 ha_p0.2 ha_p1.2 | omega))
  refine lv_istore (lv' := [(4, .int y_1), (0, .int p0), (1, .int p1), (2, .int p2), (3, .int p3)]) hx hb dX11_beginnings_3 hl (lt_b rfl) rfl (fun ls hl => ?_)
  refine lv_iload hx hb dX11_beginnings_5 (lv_at hl 0 rfl) ?_
  refine lv_i2l hx hb dX11_beginnings_7 rfl ?_
  refine lv_topl (fun y_2 ey_2 => ?_)
  refine lv_iload_n hx hb dX11_beginnings_8 rfl (lv_at hl 4 rfl) ?_
  refine lv_i2l hx hb dX11_beginnings_9 rfl ?_
  refine lv_topl (fun y_3 ey_3 => ?_)
  refine S_calll (va_runS (As := [.long y_2, .long y_3]) (rest := []) ⟨hx, hb, hml, hown, hts⟩ (k_gcd l D k A a z G y_2 y_3 ) (va_cwS 2 hts (gd_S hgd m1079 m1080 m117 m1081) rfl rfl rfl hd_X11_commonDivisor.2 ⟨Nat.le_of_ble_eq_true rfl, Nat.le_of_ble_eq_true rfl⟩) (pre_S hW hB_G hK hZ hS) rfl rfl hl.1 rfl (lv_room (Nat.le_of_ble_eq_true rfl)) dX11_beginnings_10 ⟨Nat.le_of_ble_eq_true rfl, Nat.le_of_ble_eq_true rfl⟩) hS (fun r_4 G_5 H locs hpo hW hS => ?_)
  have hX_8 : P_gcd y_2 y_3 G r_4 G_5 := hpo
  obtain ⟨hB_G_5, hq_6, -⟩ := hpo
  have hF := hF.call9 hq_6 rfl rfl
  refine lv_l2i hx hb dX11_beginnings_13 rfl ?_
  refine lv_topi (fun y_9 ey_9 => ?_)
  refine lv_istore (lv' := [(5, .int y_9), (4, .int y_1), (0, .int p0), (1, .int p1), (2, .int p2), (3, .int p3)]) hx hb dX11_beginnings_14 hl (lt_b rfl) rfl (fun ls hl => ?_)
  refine lv_iload_n hx hb dX11_beginnings_16 rfl (lv_at hl 3 rfl) ?_
  refine lv_if_eq (tgt := 25) hx hb dX11_beginnings_17 rfl (fun c_10 => ?_) (fun c_10 => ?_)
  · have c_10 : p1.toInt = 0 := xI_eq rfl rfl c_10
    refine lv_iload hx hb dX11_beginnings_25 (lv_at hl 1 rfl) ?_
    exact W.iret (v := y_1) hx hb hr (fun t ht _ => ⟨⟨y_1, G_5, rfl, (P_begin_mk ⟨hB_G_5, hF, ⟨y_1, ty_1, ⟨y_2, ey_2, ⟨y_3, ey_3, ⟨r_4, G_5, hX_8, ⟨y_9, ey_9, (Or.inl ⟨c_10, ⟨rfl, rfl⟩⟩)⟩⟩⟩⟩⟩⟩), wd_t ht hW⟩, hS.F ht⟩) hS.2.2 dX11_beginnings_27
  · have c_10 : p1.toInt ≠ 0 := xI_ne rfl rfl c_10
    refine lv_iload hx hb dX11_beginnings_20 (lv_at hl 0 rfl) ?_
    refine lv_if_ne (tgt := 28) hx hb dX11_beginnings_22 rfl (fun c_11 => ?_) (fun c_11 => ?_)
    · have c_11 : y_9.toInt ≠ 0 := xI_ne rfl rfl c_11
      refine ic_0 hx hb dX11_beginnings_28 ?_
      refine lv_iload hx hb dX11_beginnings_29 (lv_at hl 0 rfl) ?_
      refine lv_iload_n hx hb dX11_beginnings_31 rfl (lv_at hl 3 rfl) ?_
      refine lv_isub hx hb dX11_beginnings_32 ?_
      refine lv_topi (fun y_12 ey_12 => ?_)
      refine lv_iload_n hx hb dX11_beginnings_33 rfl (lv_at hl 4 rfl) ?_
      refine lv_isub hx hb dX11_beginnings_34 ?_
      refine lv_topi (fun y_13 ey_13 => ?_)
      refine ic_1 hx hb dX11_beginnings_35 ?_
      refine lv_iadd hx hb dX11_beginnings_36 ?_
      refine lv_topi (fun y_14 ey_14 => ?_)
      refine va_mmax hx hb (by rw [hml]; exact hl.1.symm) hown (hg (Cond.methodLink RX11 368 Lib.Math.max.name) m1082) (hg (Cond.static Lib.Math.max.name) m728) (hg (Cond.initialized "java/lang/Math") m132) (hg (Cond.code Lib.Math.max.name Lib.Math.max.code 2 (some .int)) m729) (Nat.le_of_ble_eq_true rfl) (Nat.le_of_ble_eq_true rfl) (Nat.le_of_ble_eq_true rfl) (Nat.le_of_ble_eq_true rfl) dX11_beginnings_37 ?_
      refine lv_topi (fun y_15 ey_15 => ?_)
      have ty_15 := xI_max (X := 0) (Y := y_14.toInt) rfl rfl ey_15
      refine lv_iload hx hb dX11_beginnings_40 (lv_at hl 1 rfl) ?_
      refine lv_iload hx hb dX11_beginnings_42 (lv_at hl 0 rfl) ?_
      refine lv_idiv hx hb dX11_beginnings_44 (fun q => by have q := xI_eq (Y := 0) rfl rfl q; omega) ?_
      refine lv_topi (fun y_16 ey_16 => ?_)
      refine lv_imul hx hb dX11_beginnings_45 ?_
      refine lv_topi (fun y_17 ey_17 => ?_)
      exact W.iret (v := y_17) hx hb hr (fun t ht _ => ⟨⟨y_17, G_5, rfl, (P_begin_mk ⟨hB_G_5, hF, ⟨y_1, ty_1, ⟨y_2, ey_2, ⟨y_3, ey_3, ⟨r_4, G_5, hX_8, ⟨y_9, ey_9, (Or.inr ⟨c_10, (Or.inr ⟨c_11, ⟨y_12, ey_12, ⟨y_13, ey_13, ⟨y_14, ey_14, ⟨y_15, ty_15, ⟨y_16, ey_16, ⟨y_17, ey_17, ⟨rfl, rfl⟩⟩⟩⟩⟩⟩⟩⟩)⟩)⟩⟩⟩⟩⟩⟩), wd_t ht hW⟩, hS.F ht⟩) hS.2.2 dX11_beginnings_46
    · have c_11 : y_9.toInt = 0 := xI_eq rfl rfl c_11
      refine lv_iload hx hb dX11_beginnings_25 (lv_at hl 1 rfl) ?_
      exact W.iret (v := y_1) hx hb hr (fun t ht _ => ⟨⟨y_1, G_5, rfl, (P_begin_mk ⟨hB_G_5, hF, ⟨y_1, ty_1, ⟨y_2, ey_2, ⟨y_3, ey_3, ⟨r_4, G_5, hX_8, ⟨y_9, ey_9, (Or.inr ⟨c_10, (Or.inl ⟨c_11, ⟨rfl, rfl⟩⟩)⟩)⟩⟩⟩⟩⟩⟩), wd_t ht hW⟩, hS.F ht⟩) hS.2.2 dX11_beginnings_27

set_option maxHeartbeats 4000000 in
set_option maxRecDepth 100000 in
theorem k_Wfeed1 (l : Launch) (D : va_G) (k : KT) (A : Nat → Prop) (a : Nat → Nat) (z : SK) (G : GS) (p0 : Int32) (ht : (G.1 0 11).toInt ≤ 1596) : Met l yX11_putOnTape (WS yX11_putOnTape cX11_putOnTape 3 none) ({ frames := 0, cells := 0, slots := 0, locals := 0 }) (va_Pc [.ref (a 0), .int p0] (cW D k A a z G)) (va_Qv (fun (G1 : GS) => P_Wfeed1 p0 G G1) (fun (G1 : GS) t => Wd D k A a G1 t.heap) A) 0 0 A := by
  refine Met.ofW (cc := cX11_putOnTape) (maxL := 3) (ret := none) (by decide) rfl ?_
  intro p e s m args below meth c s₁ B hml hv
  obtain ⟨rfl, hW, hB_G, hK, hZ⟩ := hv
  have hx := B.exec
  have hb := B.bytes
  have hr := B.returns
  have hts := atoms_spec (ws := WS yX11_putOnTape cX11_putOnTape 3 none) B.pre
  have hgd : ∀ w ∈ gd, w ∈ WS yX11_putOnTape cX11_putOnTape 3 none := fun w h => List.mem_cons_of_mem _ h
  have hg : ∀ w ∈ gd, w.before _ s = true := fun w h => hts w (hgd w h)
  have hown : s.vm.findClass RX11 = some m.cls := findClass_of_methodNamed B.named
  have hS : va_S A s.heap s.heap [] := va_S.rf
  have hF : Fr [32] [(0, 11)] G G := Fr.rf
  have hl := lv_entry ([.ref (a 0), .int p0]) (n := 3) (Nat.le_of_ble_eq_true rfl)
  rw [lg_entry_eq]
  generalize (lg_sl ([.ref (a 0), .int p0]) ++ List.replicate (3 - (lg_sl ([.ref (a 0), .int p0])).length) Slot.unset).toArray = ls at hl ⊢
  have hl : lv_has ls 3 [(0, .ref (a 0)), (1, .int p0)] := hl
  refine lv_bipush (v := 24) hx hb dX11_putOnTape_0 (by decide) ?_
  refine lv_istore_n (lv' := [(2, .int 24), (0, .ref (a 0)), (1, .int p0)]) hx hb dX11_putOnTape_2 rfl hl (lt_b rfl) rfl (fun ls hl => ?_)
  have b_7 : 0 ≤ (G.1 0 11).toInt ∧ (G.1 0 11).toInt ≤ 1600 := bd_0_11 hB_G
  have qc_8 : (24 : Int32).toInt = 24 := rfl
  refine loop_N (Inv := fun n H locs ls => ∃ (G_1 : GS) (x_5 : Int32), (n : Int) = x_5.toInt - (-8) ∧ ((-8) ≤ x_5.toInt ∧ x_5.toInt ≤ 24) ∧ (8 * (G_1.1 0 11).toInt + x_5.toInt = 8 * (G.1 0 11).toInt + 24) ∧ (x_5.toInt % 8 = 0) ∧ Rc (St_k_Wfeed1_1 p0 G) (24, G) (x_5, G_1) ∧ Wd D k A a G_1 H ∧ Bd G_1 ∧ Fr [32] [(0, 11)] G G_1 ∧ Fr [32] [(0, 11)] G G_1 ∧ va_S A s.heap H locs ∧ lv_has ls 3 [(2, .int x_5), (0, .ref (a 0)), (1, .int p0)]) (fun n_4 H locs ls ih_3 hI => ?_) (24 - (-8) : Int).toNat ⟨G, 24, (Int.toNat_of_nonneg ((by decide))), ⟨(by decide), (by decide)⟩, ((by first | exact ok_481 | omega)), (by omega), Rc.rf, hW, hB_G, hF, Fr.rf, hS, lv_sub hl [0, 1, 2] rfl⟩
  obtain ⟨G_1, x_5, hn_12, f_9, f_10, f_11, hX_6, hW, hB_G_1, hF, hq_2, hS, hl⟩ := hI
  have b_13 : 0 ≤ (G_1.1 0 11).toInt ∧ (G_1.1 0 11).toInt ≤ 1600 := bd_0_11 hB_G_1
  refine lv_iload_n hx hb dX11_putOnTape_3 rfl (lv_at hl 0 rfl) ?_
  refine lv_if_lt (tgt := 43) hx hb dX11_putOnTape_4 rfl (fun c_14 => ?_) (fun c_14 => ?_)
  · have c_14 : x_5.toInt < 0 := xI_lt rfl rfl c_14
    exact W.vret hx hb hr (fun t ht _ => ⟨⟨G_1, rfl, (P_Wfeed1_mk ⟨hB_G_1, hF, ((by first | exact ok_482 f_9.1 f_10 c_14 | omega)), ⟨x_5, G_1, hX_6, f_9, f_10, f_11, hB_G_1, hq_2, ⟨c_14, rfl⟩⟩⟩), wd_t ht hW⟩, hS.F ht⟩) hS.2.2 dX11_putOnTape_43
  · have c_14 : 0 ≤ x_5.toInt := xI_nlt rfl rfl c_14
    refine lv_aload_n hx hb dX11_putOnTape_7 rfl (lv_at hl 1 rfl) ?_
    refine S_getI (v := (G_1.1 0 11)) (C := RX11) (T := TX11) (N := 13) hx hb hg iX11 hown hK hW kd_0 rfl 11 (lt_b rfl) (hg (Cond.fieldLink RX11 83 "SlabWalk" "taped" "I") m581) (fun _ h9 => h9) rfl rfl dX11_putOnTape_8 ?_
    refine lv_sipush (v := 1600) hx hb dX11_putOnTape_11 (by decide) ?_
    refine lv_icmp_ge (tgt := 37) hx hb dX11_putOnTape_14 rfl (fun c_15 => ?_) (fun c_15 => ?_)
    · have c_15 : 1600 ≤ (G_1.1 0 11).toInt := xI_le rfl rfl c_15
      obtain ⟨y_16, ey_16⟩ : ∃ q, q = x_5 + (-8) := ⟨_, rfl⟩
      have ty_16 : y_16.toInt = x_5.toInt + (-8) := xI_add rfl rfl ey_16 ((by first | exact ok_455 c_14 | omega)) ((by first | exact ok_456 f_9.2 | omega))
      refine lv_iinc (v := y_16) (lv' := [(2, .int y_16), (0, .ref (a 0)), (1, .int p0)]) hx hb dX11_putOnTape_37 hl (k := 0) rfl (by rw [ey_16]; rfl) (lt_b rfl) rfl (fun ls hl => ?_)
      refine lv_goto (tgt := 3) hx hb dX11_putOnTape_40 rfl ?_
      exact ih_3 (y_16.toInt - (-8) : Int).toNat (by omega) _ _ _ ⟨G_1, y_16, (Int.toNat_of_nonneg ((by first | exact ok_457 c_14 ty_16 | omega))), ⟨(by first | exact ok_458 c_14 ty_16 | omega), (by first | exact ok_459 f_9.2 ty_16 | omega)⟩, (by omega), (by omega), (hX_6.st (St_k_Wfeed1_1_mk ⟨x_5, G_1, y_16, G_1, rfl, rfl, f_9, f_10, f_11, hB_G_1, ⟨c_14, (Or.inl ⟨c_15, ⟨y_16, ty_16, ⟨rfl, rfl⟩⟩⟩)⟩⟩)), hW, hB_G_1, hF, (Fr.call9 (rs := [32]) (fs := [(0, 11)]) Fr.rf hq_2 rfl rfl), hS, lv_sub hl [0, 1, 2] rfl⟩
    · have c_15 : (G_1.1 0 11).toInt < 1600 := xI_nle rfl rfl c_15
      refine lv_aload_n hx hb dX11_putOnTape_17 rfl (lv_at hl 1 rfl) ?_
      refine S_getR (n := 32) (C := RX11) (T := TX11) (N := 13) hx hb hg iX11 hown hK hW kd_0 rfl 2 (lt_b rfl) (hg (Cond.fieldLink RX11 19 "SlabWalk" "tape" "[B") m572) (fun _ h9 => h9) rfl dX11_putOnTape_18 ?_
      refine lv_aload_n hx hb dX11_putOnTape_21 rfl (lv_at hl 1 rfl) ?_
      refine lv_dup hx hb dX11_putOnTape_22 rfl ?_
      refine S_getI (v := (G_1.1 0 11)) (C := RX11) (T := TX11) (N := 13) hx hb hg iX11 hown hK hW kd_0 rfl 11 (lt_b rfl) (hg (Cond.fieldLink RX11 83 "SlabWalk" "taped" "I") m581) (fun _ h9 => h9) rfl rfl dX11_putOnTape_23 ?_
      refine lv_dup_x1 hx hb dX11_putOnTape_26 rfl rfl ?_
      refine ic_1 hx hb dX11_putOnTape_27 ?_
      refine lv_iadd hx hb dX11_putOnTape_28 ?_
      refine lv_topi (fun y_17 ey_17 => ?_)
      have ty_17 : y_17.toInt = (G_1.1 0 11).toInt + 1 := xI_add rfl rfl ey_17 ((by first | exact ok_21 b_13.1 | omega)) ((by first | exact ok_122 b_13.2 | omega))
      refine S_putI (ty := .int) (C := RX11) (T := TX11) (N := 13) hx hb hg iX11 tyX11 tyX11_ok nmX11 hown hK hW hS kd_0 rfl 11 (lt_b rfl) (hg (Cond.fieldLink RX11 83 "SlabWalk" "taped" "I") m581) (fun _ h9 => h9) rfl (by decide +kernel) rfl rfl rfl dX11_putOnTape_29 (fun G_18 H locs eG_18 hW hS => ?_)
      have hB_G_18 : Bd G_18 := hB_G_1.put (V := y_17.toInt) (lo := 0) (hi := 1600) eG_18 rfl rfl rfl ((by first | exact ok_23 b_13.1 ty_17 | omega)) ((by first | exact ok_389 b_13.2 c_15 ty_17 | omega)) (hB_G_1.2.put eG_18 rfl)
      have hF := hF.put eG_18 (Or.inr (by decide))
      refine lv_iload_n hx hb dX11_putOnTape_32 rfl (lv_at hl 2 rfl) ?_
      refine lv_iload_n hx hb dX11_putOnTape_33 rfl (lv_at hl 0 rfl) ?_
      refine lv_ishr hx hb dX11_putOnTape_34 ?_
      refine lv_topi (fun y_19 ey_19 => ?_)
      refine lv_i2b hx hb dX11_putOnTape_35 rfl ?_
      refine lv_topi (fun y_20 ey_20 => ?_)
      refine S_bast hx hb hK hW hS kd_32 (vin ((by first | exact b_13.1 | omega)) ((by first | exact ok_460 b_13.2 c_15 | omega))) dX11_putOnTape_36 (fun G_21 H locs eG_21 hW hS => ?_)
      have hB_G_21 : Bd G_21 := hB_G_18.put (lo := (-128)) (hi := 127) eG_21 rfl rfl rfl nz_byte.1 nz_byte.2 (hB_G_18.2.put eG_21 rfl)
      have hF := hF.put eG_21 (Or.inl (by decide))
      obtain ⟨y_22, ey_22⟩ : ∃ q, q = x_5 + (-8) := ⟨_, rfl⟩
      have ty_22 : y_22.toInt = x_5.toInt + (-8) := xI_add rfl rfl ey_22 ((by first | exact ok_455 c_14 | omega)) ((by first | exact ok_456 f_9.2 | omega))
      refine lv_iinc (v := y_22) (lv' := [(2, .int y_22), (0, .ref (a 0)), (1, .int p0)]) hx hb dX11_putOnTape_37 hl (k := 0) rfl (by rw [ey_22]; rfl) (lt_b rfl) rfl (fun ls hl => ?_)
      refine lv_goto (tgt := 3) hx hb dX11_putOnTape_40 rfl ?_
      have g_23 : (G_21.1 0 11).toInt = y_17.toInt := (congrArg Int32.toInt (show G_21.1 0 11 = y_17 from ((gp_ne eG_21 (fun q => absurd q.1 (Nat.ne_of_beq_eq_false rfl))).trans (gp_eq eG_18))))
      exact ih_3 (y_22.toInt - (-8) : Int).toNat (by omega) _ _ _ ⟨G_21, y_22, (Int.toNat_of_nonneg ((by first | exact ok_457 c_14 ty_22 | omega))), ⟨(by first | exact ok_458 c_14 ty_22 | omega), (by first | exact ok_459 f_9.2 ty_22 | omega)⟩, ((by first | exact ok_483 f_10 ty_17 ty_22 g_23 | omega)), (by omega), (hX_6.st (St_k_Wfeed1_1_mk ⟨x_5, G_1, y_22, G_21, rfl, rfl, f_9, f_10, f_11, hB_G_1, ⟨c_14, (Or.inr ⟨c_15, ⟨y_17, ty_17, ⟨y_19, ey_19, ⟨y_20, ey_20, ⟨y_22, ty_22, ⟨rfl, (Fr.put (rs := [32]) (fs := [(0, 11)]) (Fr.put (rs := [32]) (fs := [(0, 11)]) Fr.rf eG_18 (Or.inr (by decide))) eG_21 (Or.inl (by decide))), ((gp_ne eG_21 (fun q => absurd q.1 (Nat.ne_of_beq_eq_false rfl))).trans (gp_eq eG_18)), (rw_ast eG_21).trans (congrArg (fun q => upd q ((G_1.1 0 11).toNatClampNeg) (vp_nar .byte y_20)) (rw_put eG_18 (by decide)))⟩⟩⟩⟩⟩⟩)⟩⟩)), hW, hB_G_21, hF, (Fr.put (rs := [32]) (fs := [(0, 11)]) (Fr.put (rs := [32]) (fs := [(0, 11)]) (Fr.call9 (rs := [32]) (fs := [(0, 11)]) Fr.rf hq_2 rfl rfl) eG_18 (Or.inr (by decide))) eG_21 (Or.inl (by decide))), hS, lv_sub hl [0, 1, 2] rfl⟩

set_option maxHeartbeats 4000000 in
set_option maxRecDepth 100000 in
theorem k_Wfeed (l : Launch) (D : va_G) (k : KT) (A : Nat → Prop) (a : Nat → Nat) (z : SK) (G : GS) (p0 : Int32) (p1 : Int32) (p2 : Int32) (p3 : Int32) (p4 : Int32)  : Met l yX11_feed (WS yX11_feed cX11_feed 6 (some .int)) ({ frames := 1, cells := 0, slots := 0, locals := 22 }) (va_Pc [.ref (a 0), .int p0, .int p1, .int p2, .int p3, .int p4] (cW D k A a z G)) (va_Qi (fun (r : Int32) (G1 : GS) => P_Wfeed p0 p1 p2 p3 p4 G r G1) (fun (G1 : GS) t => Wd D k A a G1 t.heap) A) 0 0 A := by
  refine Met.ofW (cc := cX11_feed) (maxL := 6) (ret := (some .int)) (by decide) rfl ?_
  intro p e s m args below meth c s₁ B hml hv
  obtain ⟨rfl, hW, hB_G, hK, hZ⟩ := hv
  have hx := B.exec
  have hb := B.bytes
  have hr := B.returns
  have hts := atoms_spec (ws := WS yX11_feed cX11_feed 6 (some .int)) B.pre
  have hgd : ∀ w ∈ gd, w ∈ WS yX11_feed cX11_feed 6 (some .int) := fun w h => List.mem_cons_of_mem _ h
  have hg : ∀ w ∈ gd, w.before _ s = true := fun w h => hts w (hgd w h)
  have hown : s.vm.findClass RX11 = some m.cls := findClass_of_methodNamed B.named
  have hS : va_S A s.heap s.heap [] := va_S.rf
  have hF : Fr [32] [(0, 11)] G G := Fr.rf
  have hl := lv_entry ([.ref (a 0), .int p0, .int p1, .int p2, .int p3, .int p4]) (n := 6) (Nat.le_of_ble_eq_true rfl)
  rw [lg_entry_eq]
  generalize (lg_sl ([.ref (a 0), .int p0, .int p1, .int p2, .int p3, .int p4]) ++ List.replicate (6 - (lg_sl ([.ref (a 0), .int p0, .int p1, .int p2, .int p3, .int p4])).length) Slot.unset).toArray = ls at hl ⊢
  have hl : lv_has ls 6 [(0, .ref (a 0)), (1, .int p0), (2, .int p1), (3, .int p2), (4, .int p3), (5, .int p4)] := hl
  refine lv_aload_n hx hb dX11_feed_0 rfl (lv_at hl 0 rfl) ?_
  have b_1 : 0 ≤ (G.1 0 11).toInt ∧ (G.1 0 11).toInt ≤ 1600 := bd_0_11 hB_G
  refine S_getI (v := (G.1 0 11)) (C := RX11) (T := TX11) (N := 13) hx hb hg iX11 hown hK hW kd_0 rfl 11 (lt_b rfl) (hg (Cond.fieldLink RX11 83 "SlabWalk" "taped" "I") m581) (fun _ h9 => h9) rfl rfl dX11_feed_1 ?_
  refine lv_bipush (v := 20) hx hb dX11_feed_4 (by decide) ?_
  refine lv_iadd hx hb dX11_feed_6 ?_
  refine lv_topi (fun y_2 ey_2 => ?_)
  have ty_2 : y_2.toInt = (G.1 0 11).toInt + 20 := xI_add rfl rfl ey_2 ((by first | exact ok_484 b_1.1 | omega)) ((by first | exact ok_485 b_1.2 | omega))
  refine lv_sipush (v := 1600) hx hb dX11_feed_7 (by decide) ?_
  refine lv_icmp_le (tgt := 15) hx hb dX11_feed_10 rfl (fun c_3 => ?_) (fun c_3 => ?_)
  · have c_3 : y_2.toInt ≤ 1600 := xI_le rfl rfl c_3
    refine lv_aload_n hx hb dX11_feed_15 rfl (lv_at hl 0 rfl) ?_
    refine lv_iload_n hx hb dX11_feed_16 rfl (lv_at hl 1 rfl) ?_
    refine S_callv (va_runV (As := [.int p0]) (rest := []) ⟨hx, hb, hml, hown, hts⟩ (k_Wfeed1 l D k A a z G p0 ((by first | exact ok_486 b_1.2 ty_2 c_3 | omega))) (cwV 1 hts (gd_V hgd m614 m616 m2 m117 m617) rfl rfl rfl hd_X11_putOnTape ⟨Nat.le_of_ble_eq_true rfl, Nat.le_of_ble_eq_true rfl⟩) (pre_W hW hB_G hK hZ hS kd_0 rfl) rfl rfl hl.1 rfl (lv_room (Nat.le_of_ble_eq_true rfl)) dX11_feed_17 ⟨Nat.le_of_ble_eq_true rfl, Nat.le_of_ble_eq_true rfl⟩) hS (fun G_5 H locs hpo hW hS => ?_)
    have hX_8 : P_Wfeed1 p0 G G_5 := hpo
    obtain ⟨hB_G_5, hq_6, hp_7, -⟩ := hpo
    have hF := hF.call9 hq_6 rfl rfl
    refine lv_aload_n hx hb dX11_feed_20 rfl (lv_at hl 0 rfl) ?_
    refine lv_iload_n hx hb dX11_feed_21 rfl (lv_at hl 2 rfl) ?_
    have b_9 : 0 ≤ (G_5.1 0 11).toInt ∧ (G_5.1 0 11).toInt ≤ 1600 := bd_0_11 hB_G_5
    refine S_callv (va_runV (As := [.int p1]) (rest := []) ⟨hx, hb, hml, hown, hts⟩ (k_Wfeed1 l D k A a z G_5 p1 ((by first | exact ok_487 ty_2 c_3 hp_7 b_9.2 | omega))) (cwV 1 hts (gd_V hgd m614 m616 m2 m117 m617) rfl rfl rfl hd_X11_putOnTape ⟨Nat.le_of_ble_eq_true rfl, Nat.le_of_ble_eq_true rfl⟩) (pre_W hW hB_G_5 hK hZ hS kd_0 rfl) rfl rfl hl.1 rfl (lv_room (Nat.le_of_ble_eq_true rfl)) dX11_feed_22 ⟨Nat.le_of_ble_eq_true rfl, Nat.le_of_ble_eq_true rfl⟩) hS (fun G_11 H locs hpo hW hS => ?_)
    have hX_14 : P_Wfeed1 p1 G_5 G_11 := hpo
    obtain ⟨hB_G_11, hq_12, hp_13, -⟩ := hpo
    have hF := hF.call9 hq_12 rfl rfl
    refine lv_aload_n hx hb dX11_feed_25 rfl (lv_at hl 0 rfl) ?_
    refine lv_iload_n hx hb dX11_feed_26 rfl (lv_at hl 3 rfl) ?_
    have b_15 : 0 ≤ (G_11.1 0 11).toInt ∧ (G_11.1 0 11).toInt ≤ 1600 := bd_0_11 hB_G_11
    refine S_callv (va_runV (As := [.int p2]) (rest := []) ⟨hx, hb, hml, hown, hts⟩ (k_Wfeed1 l D k A a z G_11 p2 ((by first | exact ok_488 ty_2 c_3 hp_7 hp_13 b_15.2 | omega))) (cwV 1 hts (gd_V hgd m614 m616 m2 m117 m617) rfl rfl rfl hd_X11_putOnTape ⟨Nat.le_of_ble_eq_true rfl, Nat.le_of_ble_eq_true rfl⟩) (pre_W hW hB_G_11 hK hZ hS kd_0 rfl) rfl rfl hl.1 rfl (lv_room (Nat.le_of_ble_eq_true rfl)) dX11_feed_27 ⟨Nat.le_of_ble_eq_true rfl, Nat.le_of_ble_eq_true rfl⟩) hS (fun G_17 H locs hpo hW hS => ?_)
    have hX_20 : P_Wfeed1 p2 G_11 G_17 := hpo
    obtain ⟨hB_G_17, hq_18, hp_19, -⟩ := hpo
    have hF := hF.call9 hq_18 rfl rfl
    refine lv_aload_n hx hb dX11_feed_30 rfl (lv_at hl 0 rfl) ?_
    refine lv_iload hx hb dX11_feed_31 (lv_at hl 4 rfl) ?_
    have b_21 : 0 ≤ (G_17.1 0 11).toInt ∧ (G_17.1 0 11).toInt ≤ 1600 := bd_0_11 hB_G_17
    refine S_callv (va_runV (As := [.int p3]) (rest := []) ⟨hx, hb, hml, hown, hts⟩ (k_Wfeed1 l D k A a z G_17 p3 ((by first | exact ok_489 ty_2 c_3 hp_7 hp_13 hp_19 b_21.2 | omega))) (cwV 1 hts (gd_V hgd m614 m616 m2 m117 m617) rfl rfl rfl hd_X11_putOnTape ⟨Nat.le_of_ble_eq_true rfl, Nat.le_of_ble_eq_true rfl⟩) (pre_W hW hB_G_17 hK hZ hS kd_0 rfl) rfl rfl hl.1 rfl (lv_room (Nat.le_of_ble_eq_true rfl)) dX11_feed_33 ⟨Nat.le_of_ble_eq_true rfl, Nat.le_of_ble_eq_true rfl⟩) hS (fun G_23 H locs hpo hW hS => ?_)
    have hX_26 : P_Wfeed1 p3 G_17 G_23 := hpo
    obtain ⟨hB_G_23, hq_24, hp_25, -⟩ := hpo
    have hF := hF.call9 hq_24 rfl rfl
    refine lv_aload_n hx hb dX11_feed_36 rfl (lv_at hl 0 rfl) ?_
    refine lv_iload hx hb dX11_feed_37 (lv_at hl 5 rfl) ?_
    have b_27 : 0 ≤ (G_23.1 0 11).toInt ∧ (G_23.1 0 11).toInt ≤ 1600 := bd_0_11 hB_G_23
    refine S_callv (va_runV (As := [.int p4]) (rest := []) ⟨hx, hb, hml, hown, hts⟩ (k_Wfeed1 l D k A a z G_23 p4 ((by first | exact ok_490 ty_2 c_3 hp_7 hp_13 hp_19 hp_25 b_27.2 | omega))) (cwV 1 hts (gd_V hgd m614 m616 m2 m117 m617) rfl rfl rfl hd_X11_putOnTape ⟨Nat.le_of_ble_eq_true rfl, Nat.le_of_ble_eq_true rfl⟩) (pre_W hW hB_G_23 hK hZ hS kd_0 rfl) rfl rfl hl.1 rfl (lv_room (Nat.le_of_ble_eq_true rfl)) dX11_feed_39 ⟨Nat.le_of_ble_eq_true rfl, Nat.le_of_ble_eq_true rfl⟩) hS (fun G_29 H locs hpo hW hS => ?_)
    have hX_32 : P_Wfeed1 p4 G_23 G_29 := hpo
    obtain ⟨hB_G_29, hq_30, hp_31, -⟩ := hpo
    have hF := hF.call9 hq_30 rfl rfl
    refine lv_aload_n hx hb dX11_feed_42 rfl (lv_at hl 0 rfl) ?_
    have b_33 : 0 ≤ (G_29.1 0 11).toInt ∧ (G_29.1 0 11).toInt ≤ 1600 := bd_0_11 hB_G_29
    refine S_getI (v := (G_29.1 0 11)) (C := RX11) (T := TX11) (N := 13) hx hb hg iX11 hown hK hW kd_0 rfl 11 (lt_b rfl) (hg (Cond.fieldLink RX11 83 "SlabWalk" "taped" "I") m581) (fun _ h9 => h9) rfl rfl dX11_feed_43 ?_
    exact W.iret (v := (G_29.1 0 11)) hx hb hr (fun t ht _ => ⟨⟨(G_29.1 0 11), G_29, rfl, (P_Wfeed_mk ⟨hB_G_29, hF, ((by first | exact ⟨(fun h9 => ⟨(by first | exact ok_491 b_1.1 hp_7 hp_13 hp_19 hp_25 hp_31 b_33.1 b_33.2 h9 | omega), (by first | exact ok_491 b_1.1 hp_7 hp_13 hp_19 hp_25 hp_31 b_33.1 b_33.2 h9 | omega)⟩), (fun h9 => ⟨(by first | exact ok_492 ty_2 c_3 b_33.1 b_33.2 h9 | omega), (by first | exact ok_493 b_1.2 ty_2 c_3 hp_7 hp_13 hp_19 hp_25 hp_31 b_33.1 b_33.2 h9 | omega)⟩)⟩ | omega)), ⟨y_2, ty_2, (Or.inl ⟨c_3, ⟨G_5, hX_8, ⟨G_11, hX_14, ⟨G_17, hX_20, ⟨G_23, hX_26, ⟨G_29, hX_32, ⟨rfl, rfl⟩⟩⟩⟩⟩⟩⟩)⟩⟩), wd_t ht hW⟩, hS.F ht⟩) hS.2.2 dX11_feed_46
  · have c_3 : 1600 < y_2.toInt := xI_nle rfl rfl c_3
    refine ic_m1 hx hb dX11_feed_13 ?_
    exact W.iret (v := (-1)) hx hb hr (fun t ht _ => ⟨⟨(-1), G, rfl, (P_Wfeed_mk ⟨hB_G, hF, (by have hq : ((-1) : Int32).toInt = (-1) := rfl; (try dsimp only); omega), ⟨y_2, ty_2, (Or.inr ⟨c_3, ⟨rfl, rfl⟩⟩)⟩⟩), wd_t ht hW⟩, hS.F ht⟩) hS.2.2 dX11_feed_14

set_option maxHeartbeats 4000000 in
set_option maxRecDepth 100000 in
theorem k_Wend (l : Launch) (D : va_G) (k : KT) (A : Nat → Prop) (a : Nat → Nat) (z : SK) (G : GS) (p0 : Int32)  : Met l yX11_end (WS yX11_end cX11_end 2 (some .int)) ({ frames := 0, cells := 0, slots := 0, locals := 0 }) (va_Pc [.ref (a 0), .int p0] (cW D k A a z G)) (va_Qi (fun (r : Int32) (G1 : GS) => P_Wend p0 G r G1) (fun (G1 : GS) t => Wd D k A a G1 t.heap) A) 0 0 A := by
  refine Met.ofW (cc := cX11_end) (maxL := 2) (ret := (some .int)) (by decide) rfl ?_
  intro p e s m args below meth c s₁ B hml hv
  obtain ⟨rfl, hW, hB_G, hK, hZ⟩ := hv
  have hx := B.exec
  have hb := B.bytes
  have hr := B.returns
  have hts := atoms_spec (ws := WS yX11_end cX11_end 2 (some .int)) B.pre
  have hgd : ∀ w ∈ gd, w ∈ WS yX11_end cX11_end 2 (some .int) := fun w h => List.mem_cons_of_mem _ h
  have hg : ∀ w ∈ gd, w.before _ s = true := fun w h => hts w (hgd w h)
  have hown : s.vm.findClass RX11 = some m.cls := findClass_of_methodNamed B.named
  have hS : va_S A s.heap s.heap [] := va_S.rf
  have hF : Fr [] [(0, 11)] G G := Fr.rf
  have hl := lv_entry ([.ref (a 0), .int p0]) (n := 2) (Nat.le_of_ble_eq_true rfl)
  rw [lg_entry_eq]
  generalize (lg_sl ([.ref (a 0), .int p0]) ++ List.replicate (2 - (lg_sl ([.ref (a 0), .int p0])).length) Slot.unset).toArray = ls at hl ⊢
  have hl : lv_has ls 2 [(0, .ref (a 0)), (1, .int p0)] := hl
  refine lv_iload_n hx hb dX11_end_0 rfl (lv_at hl 1 rfl) ?_
  refine lv_if_lt (tgt := 12) hx hb dX11_end_1 rfl (fun c_1 => ?_) (fun c_1 => ?_)
  · have c_1 : p0.toInt < 0 := xI_lt rfl rfl c_1
    refine ic_m1 hx hb dX11_end_12 ?_
    have b_2 : 0 ≤ (G.1 0 11).toInt ∧ (G.1 0 11).toInt ≤ 1600 := bd_0_11 hB_G
    exact W.iret (v := (-1)) hx hb hr (fun t ht _ => ⟨⟨(-1), G, rfl, (P_Wend_mk ⟨hB_G, hF, (by have hq : ((-1) : Int32).toInt = (-1) := rfl; (try dsimp only); omega), (Or.inl ⟨c_1, ⟨rfl, rfl⟩⟩)⟩), wd_t ht hW⟩, hS.F ht⟩) hS.2.2 dX11_end_13
  · have c_1 : 0 ≤ p0.toInt := xI_nlt rfl rfl c_1
    refine lv_iload_n hx hb dX11_end_4 rfl (lv_at hl 1 rfl) ?_
    refine lv_aload_n hx hb dX11_end_5 rfl (lv_at hl 0 rfl) ?_
    have b_3 : 0 ≤ (G.1 0 11).toInt ∧ (G.1 0 11).toInt ≤ 1600 := bd_0_11 hB_G
    refine S_getI (v := (G.1 0 11)) (C := RX11) (T := TX11) (N := 13) hx hb hg iX11 hown hK hW kd_0 rfl 11 (lt_b rfl) (hg (Cond.fieldLink RX11 83 "SlabWalk" "taped" "I") m581) (fun _ h9 => h9) rfl rfl dX11_end_6 ?_
    refine lv_icmp_le (tgt := 14) hx hb dX11_end_9 rfl (fun c_4 => ?_) (fun c_4 => ?_)
    · have c_4 : p0.toInt ≤ (G.1 0 11).toInt := xI_le rfl rfl c_4
      refine lv_aload_n hx hb dX11_end_14 rfl (lv_at hl 0 rfl) ?_
      refine lv_iload_n hx hb dX11_end_15 rfl (lv_at hl 1 rfl) ?_
      refine S_putI (ty := .int) (C := RX11) (T := TX11) (N := 13) hx hb hg iX11 tyX11 tyX11_ok nmX11 hown hK hW hS kd_0 rfl 11 (lt_b rfl) (hg (Cond.fieldLink RX11 83 "SlabWalk" "taped" "I") m581) (fun _ h9 => h9) rfl (by decide +kernel) rfl rfl rfl dX11_end_16 (fun G_5 H locs eG_5 hW hS => ?_)
      have hB_G_5 : Bd G_5 := hB_G.put (V := p0.toInt) (lo := 0) (hi := 1600) eG_5 rfl rfl rfl ((by first | exact c_1 | omega)) ((by first | exact ok_494 b_3.2 c_4 | omega)) (hB_G.2.put eG_5 rfl)
      have hF := hF.put eG_5 (Or.inr (by decide))
      refine lv_iload_n hx hb dX11_end_19 rfl (lv_at hl 1 rfl) ?_
      have g_6 : (G_5.1 0 11).toInt = p0.toInt := (congrArg Int32.toInt (show G_5.1 0 11 = p0 from (gp_eq eG_5)))
      exact W.iret (v := p0) hx hb hr (fun t ht _ => ⟨⟨p0, G_5, rfl, (P_Wend_mk ⟨hB_G_5, hF, ((by first | exact ⟨(fun h9 => ⟨(by first | exact ok_495 | omega), (by first | exact g_6 | omega)⟩), (fun h9 => ⟨(by first | exact ok_496 c_1 b_3.2 c_4 h9 | omega), (by first | exact ok_497 c_1 b_3.2 c_4 g_6 h9 | omega)⟩)⟩ | omega)), (Or.inr ⟨c_1, (Or.inl ⟨c_4, ⟨rfl, (Fr.put (rs := []) (fs := [(0, 11)]) Fr.rf eG_5 (Or.inr (by decide))), (gp_eq eG_5)⟩⟩)⟩)⟩), wd_t ht hW⟩, hS.F ht⟩) hS.2.2 dX11_end_20
    · have c_4 : (G.1 0 11).toInt < p0.toInt := xI_nle rfl rfl c_4
      refine ic_m1 hx hb dX11_end_12 ?_
      exact W.iret (v := (-1)) hx hb hr (fun t ht _ => ⟨⟨(-1), G, rfl, (P_Wend_mk ⟨hB_G, hF, (by have hq : ((-1) : Int32).toInt = (-1) := rfl; (try dsimp only); omega), (Or.inr ⟨c_1, (Or.inr ⟨c_4, ⟨rfl, rfl⟩⟩)⟩)⟩), wd_t ht hW⟩, hS.F ht⟩) hS.2.2 dX11_end_13

set_option maxHeartbeats 4000000 in
set_option maxRecDepth 100000 in
theorem k_Wfault (l : Launch) (D : va_G) (k : KT) (A : Nat → Prop) (a : Nat → Nat) (z : SK) (G : GS) (p0 : Int32)  : Met l yX11_fault (WS yX11_fault cX11_fault 2 (some .int)) ({ frames := 0, cells := 0, slots := 0, locals := 0 }) (va_Pc [.ref (a 0), .int p0] (cW D k A a z G)) (va_Qi (fun (r : Int32) (G1 : GS) => P_Wfault p0 G r G1) (fun (G1 : GS) t => Wd D k A a G1 t.heap) A) 0 0 A := by
  refine Met.ofW (cc := cX11_fault) (maxL := 2) (ret := (some .int)) (by decide) rfl ?_
  intro p e s m args below meth c s₁ B hml hv
  obtain ⟨rfl, hW, hB_G, hK, hZ⟩ := hv
  have hx := B.exec
  have hb := B.bytes
  have hr := B.returns
  have hts := atoms_spec (ws := WS yX11_fault cX11_fault 2 (some .int)) B.pre
  have hgd : ∀ w ∈ gd, w ∈ WS yX11_fault cX11_fault 2 (some .int) := fun w h => List.mem_cons_of_mem _ h
  have hg : ∀ w ∈ gd, w.before _ s = true := fun w h => hts w (hgd w h)
  have hown : s.vm.findClass RX11 = some m.cls := findClass_of_methodNamed B.named
  have hS : va_S A s.heap s.heap [] := va_S.rf
  have hF : Fr [] [] G G := Fr.rf
  have hl := lv_entry ([.ref (a 0), .int p0]) (n := 2) (Nat.le_of_ble_eq_true rfl)
  rw [lg_entry_eq]
  generalize (lg_sl ([.ref (a 0), .int p0]) ++ List.replicate (2 - (lg_sl ([.ref (a 0), .int p0])).length) Slot.unset).toArray = ls at hl ⊢
  have hl : lv_has ls 2 [(0, .ref (a 0)), (1, .int p0)] := hl
  refine lv_iload_n hx hb dX11_fault_0 rfl (lv_at hl 1 rfl) ?_
  refine lv_if_ne (tgt := 17) hx hb dX11_fault_1 rfl (fun c_1 => ?_) (fun c_1 => ?_)
  · have c_1 : p0.toInt ≠ 0 := xI_ne rfl rfl c_1
    refine lv_iload_n hx hb dX11_fault_17 rfl (lv_at hl 1 rfl) ?_
    refine ic_1 hx hb dX11_fault_18 ?_
    refine lv_icmp_ne (tgt := 35) hx hb dX11_fault_19 rfl (fun c_2 => ?_) (fun c_2 => ?_)
    · have c_2 : p0.toInt ≠ 1 := xI_ne rfl rfl c_2
      refine ic_m1 hx hb dX11_fault_35 ?_
      exact W.iret (v := (-1)) hx hb hr (fun t ht _ => ⟨⟨(-1), G, rfl, (P_Wfault_mk ⟨hB_G, hF, (Or.inr ⟨c_1, (Or.inr ⟨c_2, ⟨rfl, rfl⟩⟩)⟩)⟩), wd_t ht hW⟩, hS.F ht⟩) hS.2.2 dX11_fault_36
    · have c_2 : p0.toInt = 1 := xI_eq rfl rfl c_2
      refine lv_aload_n hx hb dX11_fault_22 rfl (lv_at hl 0 rfl) ?_
      refine S_getR (n := 5) (C := RX11) (T := TX11) (N := 13) hx hb hg iX11 hown hK hW kd_0 rfl 3 (lt_b rfl) (hg (Cond.fieldLink RX11 28 "SlabWalk" "reader" "LSlabWalk$Reader;") m573) (fun _ h9 => h9) rfl dX11_fault_23 ?_
      refine S_getR (n := 3) (C := RX7) (T := TX7) (N := 10) hx hb hg iX7 hown hK hW kd_5 rfl 0 (lt_b rfl) (hg (Cond.fieldLink RX11 98 "SlabWalk$Reader" "tokens" "LSlabWalk$Tokens;") m312) (fun _ h9 => h9) rfl dX11_fault_26 ?_
      have b_3 : (-1) ≤ (G.1 3 8).toInt ∧ (G.1 3 8).toInt ≤ 1600 := bd_3_8 hB_G
      refine S_getI (v := (G.1 3 8)) (C := RX9) (T := TX9) (N := 9) hx hb hg iX9 hown hK hW kd_3 rfl 8 (lt_b rfl) (hg (Cond.fieldLink RX11 107 "SlabWalk$Tokens" "faultPlace" "I") m273) (fun _ h9 => h9) rfl rfl dX11_fault_29 ?_
      refine lv_goto (tgt := 36) hx hb dX11_fault_32 rfl ?_
      exact W.iret (v := (G.1 3 8)) hx hb hr (fun t ht _ => ⟨⟨(G.1 3 8), G, rfl, (P_Wfault_mk ⟨hB_G, hF, (Or.inr ⟨c_1, (Or.inl ⟨c_2, ⟨rfl, rfl⟩⟩)⟩)⟩), wd_t ht hW⟩, hS.F ht⟩) hS.2.2 dX11_fault_36
  · have c_1 : p0.toInt = 0 := xI_eq rfl rfl c_1
    refine lv_aload_n hx hb dX11_fault_4 rfl (lv_at hl 0 rfl) ?_
    refine S_getR (n := 5) (C := RX11) (T := TX11) (N := 13) hx hb hg iX11 hown hK hW kd_0 rfl 3 (lt_b rfl) (hg (Cond.fieldLink RX11 28 "SlabWalk" "reader" "LSlabWalk$Reader;") m573) (fun _ h9 => h9) rfl dX11_fault_5 ?_
    refine S_getR (n := 3) (C := RX7) (T := TX7) (N := 10) hx hb hg iX7 hown hK hW kd_5 rfl 0 (lt_b rfl) (hg (Cond.fieldLink RX11 98 "SlabWalk$Reader" "tokens" "LSlabWalk$Tokens;") m312) (fun _ h9 => h9) rfl dX11_fault_8 ?_
    have b_4 : 0 ≤ (G.1 3 7).toInt ∧ (G.1 3 7).toInt ≤ 4 := bd_3_7 hB_G
    refine S_getI (v := (G.1 3 7)) (C := RX9) (T := TX9) (N := 9) hx hb hg iX9 hown hK hW kd_3 rfl 7 (lt_b rfl) (hg (Cond.fieldLink RX11 102 "SlabWalk$Tokens" "fault" "I") m271) (fun _ h9 => h9) rfl rfl dX11_fault_11 ?_
    refine lv_goto (tgt := 36) hx hb dX11_fault_14 rfl ?_
    exact W.iret (v := (G.1 3 7)) hx hb hr (fun t ht _ => ⟨⟨(G.1 3 7), G, rfl, (P_Wfault_mk ⟨hB_G, hF, (Or.inl ⟨c_1, ⟨rfl, rfl⟩⟩)⟩), wd_t ht hW⟩, hS.F ht⟩) hS.2.2 dX11_fault_36

set_option maxHeartbeats 4000000 in
set_option maxRecDepth 100000 in
theorem k_Wlies (l : Launch) (D : va_G) (k : KT) (A : Nat → Prop) (a : Nat → Nat) (z : SK) (G : GS) (p0 : Int32)  : Met l yX11_lies (WS yX11_lies cX11_lies 2 (some .int)) ({ frames := 0, cells := 0, slots := 0, locals := 0 }) (va_Pc [.ref (a 0), .int p0] (cW D k A a z G)) (va_Qi (fun (r : Int32) (G1 : GS) => P_Wlies p0 G r G1) (fun (G1 : GS) t => Wd D k A a G1 t.heap) A) 0 0 A := by
  refine Met.ofW (cc := cX11_lies) (maxL := 2) (ret := (some .int)) (by decide) rfl ?_
  intro p e s m args below meth c s₁ B hml hv
  obtain ⟨rfl, hW, hB_G, hK, hZ⟩ := hv
  have hx := B.exec
  have hb := B.bytes
  have hr := B.returns
  have hts := atoms_spec (ws := WS yX11_lies cX11_lies 2 (some .int)) B.pre
  have hgd : ∀ w ∈ gd, w ∈ WS yX11_lies cX11_lies 2 (some .int) := fun w h => List.mem_cons_of_mem _ h
  have hg : ∀ w ∈ gd, w.before _ s = true := fun w h => hts w (hgd w h)
  have hown : s.vm.findClass RX11 = some m.cls := findClass_of_methodNamed B.named
  have hS : va_S A s.heap s.heap [] := va_S.rf
  have hF : Fr [] [] G G := Fr.rf
  have hl := lv_entry ([.ref (a 0), .int p0]) (n := 2) (Nat.le_of_ble_eq_true rfl)
  rw [lg_entry_eq]
  generalize (lg_sl ([.ref (a 0), .int p0]) ++ List.replicate (2 - (lg_sl ([.ref (a 0), .int p0])).length) Slot.unset).toArray = ls at hl ⊢
  have hl : lv_has ls 2 [(0, .ref (a 0)), (1, .int p0)] := hl
  refine lv_iload_n hx hb dX11_lies_0 rfl (lv_at hl 1 rfl) ?_
  refine lv_if_lt (tgt := 21) hx hb dX11_lies_1 rfl (fun c_1 => ?_) (fun c_1 => ?_)
  · have c_1 : p0.toInt < 0 := xI_lt rfl rfl c_1
    refine ic_m1 hx hb dX11_lies_21 ?_
    exact W.iret (v := (-1)) hx hb hr (fun t ht _ => ⟨⟨(-1), G, rfl, (P_Wlies_mk ⟨hB_G, hF, (Or.inl ⟨c_1, ⟨rfl, rfl⟩⟩)⟩), wd_t ht hW⟩, hS.F ht⟩) hS.2.2 dX11_lies_22
  · have c_1 : 0 ≤ p0.toInt := xI_nlt rfl rfl c_1
    refine lv_iload_n hx hb dX11_lies_4 rfl (lv_at hl 1 rfl) ?_
    refine lv_aload_n hx hb dX11_lies_5 rfl (lv_at hl 0 rfl) ?_
    have b_2 : 0 ≤ (G.1 0 12).toInt ∧ (G.1 0 12).toInt ≤ 400 := bd_0_12 hB_G
    refine S_getI (v := (G.1 0 12)) (C := RX11) (T := TX11) (N := 13) hx hb hg iX11 hown hK hW kd_0 rfl 12 (lt_b rfl) (hg (Cond.fieldLink RX11 150 "SlabWalk" "lie" "I") m582) (fun _ h9 => h9) rfl rfl dX11_lies_6 ?_
    refine lv_icmp_ge (tgt := 21) hx hb dX11_lies_9 rfl (fun c_3 => ?_) (fun c_3 => ?_)
    · have c_3 : (G.1 0 12).toInt ≤ p0.toInt := xI_le rfl rfl c_3
      refine ic_m1 hx hb dX11_lies_21 ?_
      exact W.iret (v := (-1)) hx hb hr (fun t ht _ => ⟨⟨(-1), G, rfl, (P_Wlies_mk ⟨hB_G, hF, (Or.inr ⟨c_1, (Or.inl ⟨c_3, ⟨rfl, rfl⟩⟩)⟩)⟩), wd_t ht hW⟩, hS.F ht⟩) hS.2.2 dX11_lies_22
    · have c_3 : p0.toInt < (G.1 0 12).toInt := xI_nle rfl rfl c_3
      refine lv_aload_n hx hb dX11_lies_12 rfl (lv_at hl 0 rfl) ?_
      refine S_getR (n := 33) (C := RX11) (T := TX11) (N := 13) hx hb hg iX11 hown hK hW kd_0 rfl 10 (lt_b rfl) (hg (Cond.fieldLink RX11 76 "SlabWalk" "lying" "[I") m580) (fun _ h9 => h9) rfl dX11_lies_13 ?_
      refine lv_iload_n hx hb dX11_lies_16 rfl (lv_at hl 1 rfl) ?_
      refine S_iald hx hb hK hW kd_33 (vin ((by first | exact c_1 | omega)) ((by first | exact ok_498 b_2.2 c_3 | omega))) dX11_lies_17 (fun y_4 ey_4 => ?_)
      refine lv_goto (tgt := 22) hx hb dX11_lies_18 rfl ?_
      exact W.iret (v := y_4) hx hb hr (fun t ht _ => ⟨⟨y_4, G, rfl, (P_Wlies_mk ⟨hB_G, hF, (Or.inr ⟨c_1, (Or.inr ⟨c_3, ⟨y_4, ey_4, ⟨rfl, rfl⟩⟩⟩)⟩)⟩), wd_t ht hW⟩, hS.F ht⟩) hS.2.2 dX11_lies_22

set_option maxHeartbeats 4000000 in
set_option maxRecDepth 100000 in
theorem k_Wlater (l : Launch) (D : va_G) (k : KT) (A : Nat → Prop) (a : Nat → Nat) (z : SK) (G : GS) (p0 : Int32)  : Met l yX11_later (WS yX11_later cX11_later 2 (some .int)) ({ frames := 0, cells := 0, slots := 0, locals := 0 }) (va_Pc [.ref (a 0), .int p0] (cW D k A a z G)) (va_Qi (fun (r : Int32) (G1 : GS) => P_Wlater p0 G r G1) (fun (G1 : GS) t => Wd D k A a G1 t.heap) A) 0 0 A := by
  refine Met.ofW (cc := cX11_later) (maxL := 2) (ret := (some .int)) (by decide) rfl ?_
  intro p e s m args below meth c s₁ B hml hv
  obtain ⟨rfl, hW, hB_G, hK, hZ⟩ := hv
  have hx := B.exec
  have hb := B.bytes
  have hr := B.returns
  have hts := atoms_spec (ws := WS yX11_later cX11_later 2 (some .int)) B.pre
  have hgd : ∀ w ∈ gd, w ∈ WS yX11_later cX11_later 2 (some .int) := fun w h => List.mem_cons_of_mem _ h
  have hg : ∀ w ∈ gd, w.before _ s = true := fun w h => hts w (hgd w h)
  have hown : s.vm.findClass RX11 = some m.cls := findClass_of_methodNamed B.named
  have hS : va_S A s.heap s.heap [] := va_S.rf
  have hF : Fr [] [(31, 6)] G G := Fr.rf
  have hl := lv_entry ([.ref (a 0), .int p0]) (n := 2) (Nat.le_of_ble_eq_true rfl)
  rw [lg_entry_eq]
  generalize (lg_sl ([.ref (a 0), .int p0]) ++ List.replicate (2 - (lg_sl ([.ref (a 0), .int p0])).length) Slot.unset).toArray = ls at hl ⊢
  have hl : lv_has ls 2 [(0, .ref (a 0)), (1, .int p0)] := hl
  refine lv_iload_n hx hb dX11_later_0 rfl (lv_at hl 1 rfl) ?_
  refine lv_if_lt (tgt := 26) hx hb dX11_later_1 rfl (fun c_1 => ?_) (fun c_1 => ?_)
  · have c_1 : p0.toInt < 0 := xI_lt rfl rfl c_1
    refine ic_m1 hx hb dX11_later_26 ?_
    have b_2 : 0 ≤ (G.1 31 6).toInt ∧ (G.1 31 6).toInt ≤ 100000 := bd_31_6 hB_G
    exact W.iret (v := (-1)) hx hb hr (fun t ht _ => ⟨⟨(-1), G, rfl, (P_Wlater_mk ⟨hB_G, hF, (by have hq : ((-1) : Int32).toInt = (-1) := rfl; (try dsimp only); omega), (Or.inl ⟨c_1, ⟨rfl, rfl⟩⟩)⟩), wd_t ht hW⟩, hS.F ht⟩) hS.2.2 dX11_later_27
  · have c_1 : 0 ≤ p0.toInt := xI_nlt rfl rfl c_1
    refine lv_iload_n hx hb dX11_later_4 rfl (lv_at hl 1 rfl) ?_
    refine lv_sipush (v := 1000) hx hb dX11_later_5 (by decide) ?_
    refine lv_icmp_gt (tgt := 26) hx hb dX11_later_8 rfl (fun c_3 => ?_) (fun c_3 => ?_)
    · have c_3 : 1000 < p0.toInt := xI_lt rfl rfl c_3
      refine ic_m1 hx hb dX11_later_26 ?_
      have b_4 : 0 ≤ (G.1 31 6).toInt ∧ (G.1 31 6).toInt ≤ 100000 := bd_31_6 hB_G
      exact W.iret (v := (-1)) hx hb hr (fun t ht _ => ⟨⟨(-1), G, rfl, (P_Wlater_mk ⟨hB_G, hF, (by have hq : ((-1) : Int32).toInt = (-1) := rfl; (try dsimp only); omega), (Or.inr ⟨c_1, (Or.inl ⟨c_3, ⟨rfl, rfl⟩⟩)⟩)⟩), wd_t ht hW⟩, hS.F ht⟩) hS.2.2 dX11_later_27
    · have c_3 : p0.toInt ≤ 1000 := xI_nlt rfl rfl c_3
      refine lv_aload_n hx hb dX11_later_11 rfl (lv_at hl 0 rfl) ?_
      refine S_getR (n := 31) (C := RX11) (T := TX11) (N := 13) hx hb hg iX11 hown hK hW kd_0 rfl 9 (lt_b rfl) (hg (Cond.fieldLink RX11 72 "SlabWalk" "sights" "LSlabWalk$Sights;") m579) (fun _ h9 => h9) rfl dX11_later_12 ?_
      have b_5 : 0 ≤ (G.1 31 6).toInt ∧ (G.1 31 6).toInt ≤ 100000 := bd_31_6 hB_G
      refine S_getI (v := (G.1 31 6)) (C := RX8) (T := TX8) (N := 7) hx hb hg iX8 hown hK hW kd_31 rfl 6 (lt_b rfl) (hg (Cond.fieldLink RX11 278 "SlabWalk$Sights" "time" "I") m531) (fun _ h9 => h9) rfl rfl dX11_later_15 ?_
      refine lv_iload_n hx hb dX11_later_18 rfl (lv_at hl 1 rfl) ?_
      refine lv_iadd hx hb dX11_later_19 ?_
      refine lv_topi (fun y_6 ey_6 => ?_)
      have ty_6 : y_6.toInt = (G.1 31 6).toInt + p0.toInt := xI_add rfl rfl ey_6 ((by first | exact ok_27 c_1 b_5.1 | omega)) ((by first | exact ok_499 c_3 b_5.2 | omega))
      refine lv_ldcw (v := 100000) hx hb hown (hg (Cond.constant RX11 281 100000) m1262) dX11_later_20 ?_
      refine lv_icmp_le (tgt := 28) hx hb dX11_later_23 rfl (fun c_7 => ?_) (fun c_7 => ?_)
      · have c_7 : y_6.toInt ≤ 100000 := xI_le rfl rfl c_7
        refine lv_aload_n hx hb dX11_later_28 rfl (lv_at hl 0 rfl) ?_
        refine S_getR (n := 31) (C := RX11) (T := TX11) (N := 13) hx hb hg iX11 hown hK hW kd_0 rfl 9 (lt_b rfl) (hg (Cond.fieldLink RX11 72 "SlabWalk" "sights" "LSlabWalk$Sights;") m579) (fun _ h9 => h9) rfl dX11_later_29 ?_
        refine lv_dup hx hb dX11_later_32 rfl ?_
        refine S_getI (v := (G.1 31 6)) (C := RX8) (T := TX8) (N := 7) hx hb hg iX8 hown hK hW kd_31 rfl 6 (lt_b rfl) (hg (Cond.fieldLink RX11 278 "SlabWalk$Sights" "time" "I") m531) (fun _ h9 => h9) rfl rfl dX11_later_33 ?_
        refine lv_iload_n hx hb dX11_later_36 rfl (lv_at hl 1 rfl) ?_
        refine lv_iadd hx hb dX11_later_37 ?_
        refine lv_topi (fun y_8 ey_8 => ?_)
        have ty_8 : y_8.toInt = (G.1 31 6).toInt + p0.toInt := xI_add rfl rfl ey_8 ((by first | exact ok_27 c_1 b_5.1 | omega)) ((by first | exact ok_499 c_3 b_5.2 | omega))
        refine S_putI (ty := .int) (C := RX8) (T := TX8) (N := 7) hx hb hg iX8 tyX8 tyX8_ok nmX8 hown hK hW hS kd_31 rfl 6 (lt_b rfl) (hg (Cond.fieldLink RX11 278 "SlabWalk$Sights" "time" "I") m531) (fun _ h9 => h9) rfl (by decide +kernel) rfl rfl rfl dX11_later_38 (fun G_9 H locs eG_9 hW hS => ?_)
        have hB_G_9 : Bd G_9 := hB_G.put (V := y_8.toInt) (lo := 0) (hi := 100000) eG_9 rfl rfl rfl ((by first | exact ok_116 c_1 b_5.1 ty_8 | omega)) ((by first | exact ok_500 c_3 b_5.2 ty_6 c_7 ty_8 | omega)) (hB_G.2.put eG_9 rfl)
        have hF := hF.put eG_9 (Or.inr (by decide))
        refine lv_aload_n hx hb dX11_later_41 rfl (lv_at hl 0 rfl) ?_
        refine S_getR (n := 31) (C := RX11) (T := TX11) (N := 13) hx hb hg iX11 hown hK hW kd_0 rfl 9 (lt_b rfl) (hg (Cond.fieldLink RX11 72 "SlabWalk" "sights" "LSlabWalk$Sights;") m579) (fun _ h9 => h9) rfl dX11_later_42 ?_
        refine S_getI (v := y_8) (C := RX8) (T := TX8) (N := 7) hx hb hg iX8 hown hK hW kd_31 rfl 6 (lt_b rfl) (hg (Cond.fieldLink RX11 278 "SlabWalk$Sights" "time" "I") m531) (fun _ h9 => h9) rfl (gp_eq eG_9) dX11_later_45 ?_
        have g_10 : (G_9.1 31 6).toInt = y_8.toInt := (congrArg Int32.toInt (show G_9.1 31 6 = y_8 from (gp_eq eG_9)))
        exact W.iret (v := y_8) hx hb hr (fun t ht _ => ⟨⟨y_8, G_9, rfl, (P_Wlater_mk ⟨hB_G_9, hF, ((by first | exact ⟨(fun h9 => ⟨(by first | exact ty_8 | omega), (by first | exact ok_501 ty_8 g_10 | omega)⟩), (fun h9 => ⟨(by first | exact ok_502 c_1 c_3 b_5.1 b_5.2 ty_6 c_7 ty_8 h9 | omega), (by first | exact ok_503 c_1 c_3 ty_6 c_7 ty_8 g_10 h9 | omega)⟩)⟩ | omega)), (Or.inr ⟨c_1, (Or.inr ⟨c_3, ⟨y_6, ty_6, (Or.inl ⟨c_7, ⟨y_8, ty_8, ⟨rfl, (Fr.put (rs := []) (fs := [(31, 6)]) Fr.rf eG_9 (Or.inr (by decide))), (gp_eq eG_9)⟩⟩⟩)⟩⟩)⟩)⟩), wd_t ht hW⟩, hS.F ht⟩) hS.2.2 dX11_later_48
      · have c_7 : 100000 < y_6.toInt := xI_nle rfl rfl c_7
        refine ic_m1 hx hb dX11_later_26 ?_
        exact W.iret (v := (-1)) hx hb hr (fun t ht _ => ⟨⟨(-1), G, rfl, (P_Wlater_mk ⟨hB_G, hF, (by have hq : ((-1) : Int32).toInt = (-1) := rfl; (try dsimp only); omega), (Or.inr ⟨c_1, (Or.inr ⟨c_3, ⟨y_6, ty_6, (Or.inr ⟨c_7, ⟨rfl, rfl⟩⟩)⟩⟩)⟩)⟩), wd_t ht hW⟩, hS.F ht⟩) hS.2.2 dX11_later_27

set_option maxHeartbeats 4000000 in
set_option maxRecDepth 100000 in
theorem k_Wuntell (l : Launch) (D : va_G) (k : KT) (A : Nat → Prop) (a : Nat → Nat) (z : SK) (G : GS) (p0 : Int32)  : Met l yX11_untell (WS yX11_untell cX11_untell 2 (some .boolean)) ({ frames := 1, cells := 0, slots := 0, locals := 21 }) (va_Pc [.ref (a 0), .int p0] (cW D k A a z G)) (va_Qi (fun (r : Int32) (G1 : GS) => P_Wuntell p0 G r G1) (fun (G1 : GS) t => Wd D k A a G1 t.heap) A) 0 0 A := by
  refine Met.ofW (cc := cX11_untell) (maxL := 2) (ret := (some .boolean)) (by decide) rfl ?_
  intro p e s m args below meth c s₁ B hml hv
  obtain ⟨rfl, hW, hB_G, hK, hZ⟩ := hv
  have hx := B.exec
  have hb := B.bytes
  have hr := B.returns
  have hts := atoms_spec (ws := WS yX11_untell cX11_untell 2 (some .boolean)) B.pre
  have hgd : ∀ w ∈ gd, w ∈ WS yX11_untell cX11_untell 2 (some .boolean) := fun w h => List.mem_cons_of_mem _ h
  have hg : ∀ w ∈ gd, w.before _ s = true := fun w h => hts w (hgd w h)
  have hown : s.vm.findClass RX11 = some m.cls := findClass_of_methodNamed B.named
  have hS : va_S A s.heap s.heap [] := va_S.rf
  have hF : Fr [65] [] G G := Fr.rf
  have hl := lv_entry ([.ref (a 0), .int p0]) (n := 2) (Nat.le_of_ble_eq_true rfl)
  rw [lg_entry_eq]
  generalize (lg_sl ([.ref (a 0), .int p0]) ++ List.replicate (2 - (lg_sl ([.ref (a 0), .int p0])).length) Slot.unset).toArray = ls at hl ⊢
  have hl : lv_has ls 2 [(0, .ref (a 0)), (1, .int p0)] := hl
  refine lv_aload_n hx hb dX11_untell_0 rfl (lv_at hl 0 rfl) ?_
  refine S_getR (n := 31) (C := RX11) (T := TX11) (N := 13) hx hb hg iX11 hown hK hW kd_0 rfl 9 (lt_b rfl) (hg (Cond.fieldLink RX11 72 "SlabWalk" "sights" "LSlabWalk$Sights;") m579) (fun _ h9 => h9) rfl dX11_untell_1 ?_
  refine lv_iload_n hx hb dX11_untell_4 rfl (lv_at hl 1 rfl) ?_
  refine S_calli (va_runV (As := [.int p0]) (rest := []) ⟨hx, hb, hml, hown, hts⟩ (k_sTake l D k A a z G p0 ) (cwV 1 hts (gd_V hgd m1254 m1255 m1256 m128 m1257) rfl rfl rfl hd_X8_takeFrom ⟨Nat.le_of_ble_eq_true rfl, Nat.le_of_ble_eq_true rfl⟩) (pre_W hW hB_G hK hZ hS kd_31 rfl) rfl rfl hl.1 rfl (lv_room (Nat.le_of_ble_eq_true rfl)) dX11_untell_5 ⟨Nat.le_of_ble_eq_true rfl, Nat.le_of_ble_eq_true rfl⟩) hS (fun r_1 G_2 H locs hpo hW hS => ?_)
  have hX_5 : P_sTake p0 G r_1 G_2 := hpo
  obtain ⟨hB_G_2, hq_3, f_6, -⟩ := hpo
  have hF := hF.call9 hq_3 rfl rfl
  exact W.zret (v := r_1) hx hb hr (nar_z ((by first | exact f_6.1 | omega)) ((by first | exact f_6.2 | omega))) (fun t ht _ => ⟨⟨r_1, G_2, rfl, (P_Wuntell_mk ⟨hB_G_2, hF, ⟨(by first | exact f_6.1 | omega), (by first | exact f_6.2 | omega)⟩, ⟨r_1, G_2, hX_5, ⟨rfl, rfl⟩⟩⟩), wd_t ht hW⟩, hS.F ht⟩) hS.2.2 dX11_untell_8

set_option maxHeartbeats 4000000 in
set_option maxRecDepth 100000 in
theorem k_Wrain (l : Launch) (D : va_G) (k : KT) (A : Nat → Prop) (a : Nat → Nat) (z : SK) (G : GS)   : Met l yX11_rain (WS yX11_rain cX11_rain 1 (some .boolean)) ({ frames := 2, cells := 0, slots := 0, locals := 60 }) (va_Pc [.ref (a 0)] (cW D k A a z G)) (va_Qi (fun (r : Int32) (G1 : GS) => P_Wrain G r G1) (fun (G1 : GS) t => Wd D k A a G1 t.heap) A) 0 0 A := by
  refine Met.ofW (cc := cX11_rain) (maxL := 1) (ret := (some .boolean)) (by decide) rfl ?_
  intro p e s m args below meth c s₁ B hml hv
  obtain ⟨rfl, hW, hB_G, hK, hZ⟩ := hv
  have hx := B.exec
  have hb := B.bytes
  have hr := B.returns
  have hts := atoms_spec (ws := WS yX11_rain cX11_rain 1 (some .boolean)) B.pre
  have hgd : ∀ w ∈ gd, w ∈ WS yX11_rain cX11_rain 1 (some .boolean) := fun w h => List.mem_cons_of_mem _ h
  have hg : ∀ w ∈ gd, w.before _ s = true := fun w h => hts w (hgd w h)
  have hown : s.vm.findClass RX11 = some m.cls := findClass_of_methodNamed B.named
  have hS : va_S A s.heap s.heap [] := va_S.rf
  have hF : Fr [58, 59] [(30, 4), (30, 5)] G G := Fr.rf
  have hl := lv_entry ([.ref (a 0)]) (n := 1) (Nat.le_of_ble_eq_true rfl)
  rw [lg_entry_eq]
  generalize (lg_sl ([.ref (a 0)]) ++ List.replicate (1 - (lg_sl ([.ref (a 0)])).length) Slot.unset).toArray = ls at hl ⊢
  have hl : lv_has ls 1 [(0, .ref (a 0))] := hl
  refine lv_aload_n hx hb dX11_rain_0 rfl (lv_at hl 0 rfl) ?_
  refine S_getR (n := 30) (C := RX11) (T := TX11) (N := 13) hx hb hg iX11 hown hK hW kd_0 rfl 8 (lt_b rfl) (hg (Cond.fieldLink RX11 65 "SlabWalk" "earnest" "LSlabWalk$Earnest;") m578) (fun _ h9 => h9) rfl dX11_rain_1 ?_
  refine S_getR (n := 58) (C := RX1) (T := TX1) (N := 6) hx hb hg iX1 hown hK hW kd_30 rfl 0 (lt_b rfl) (hg (Cond.fieldLink RX11 246 "SlabWalk$Earnest" "now" "[I") m493) (fun _ h9 => h9) rfl dX11_rain_4 ?_
  refine lv_bipush (v := 9) hx hb dX11_rain_7 (by decide) ?_
  refine lv_dup2_11 hx hb dX11_rain_9 rfl rfl ?_
  refine S_iald hx hb hK hW kd_58 (vin (by decide) (by decide)) dX11_rain_10 (fun y_1 ey_1 => ?_)
  refine ic_1 hx hb dX11_rain_11 ?_
  refine lv_ixor hx hb dX11_rain_12 ?_
  refine lv_topi (fun y_2 ey_2 => ?_)
  refine S_iast hx hb hK hW hS kd_58 (vin (by decide) (by decide)) dX11_rain_13 (fun G_3 H locs eG_3 hW hS => ?_)
  have hB_G_3 : Bd G_3 := hB_G.put (lo := (-2147483648)) (hi := 2147483647) eG_3 rfl rfl rfl (tI_rng _).1 (tI_rng _).2 (hB_G.2.put eG_3 rfl)
  have hF := hF.put eG_3 (Or.inl (by decide))
  refine lv_aload_n hx hb dX11_rain_14 rfl (lv_at hl 0 rfl) ?_
  refine S_getR (n := 30) (C := RX11) (T := TX11) (N := 13) hx hb hg iX11 hown hK hW kd_0 rfl 8 (lt_b rfl) (hg (Cond.fieldLink RX11 65 "SlabWalk" "earnest" "LSlabWalk$Earnest;") m578) (fun _ h9 => h9) rfl dX11_rain_15 ?_
  refine S_callv (va_runV (As := []) (rest := []) ⟨hx, hb, hml, hown, hts⟩ (k_eKeep l D k A a z G_3  ) (cwV 0 hts (gd_V hgd m1178 m1179 m1180 m127 m1181) rfl rfl rfl hd_X1_keepAct ⟨Nat.le_of_ble_eq_true rfl, Nat.le_of_ble_eq_true rfl⟩) (pre_W hW hB_G_3 hK hZ hS kd_30 rfl) rfl rfl hl.1 rfl (lv_room (Nat.le_of_ble_eq_true rfl)) dX11_rain_18 ⟨Nat.le_of_ble_eq_true rfl, Nat.le_of_ble_eq_true rfl⟩) hS (fun G_5 H locs hpo hW hS => ?_)
  have hX_8 : P_eKeep G_3 G_5 := hpo
  obtain ⟨hB_G_5, hq_6, hp_7, -⟩ := hpo
  have hF := hF.call9 hq_6 rfl rfl
  refine lv_aload_n hx hb dX11_rain_21 rfl (lv_at hl 0 rfl) ?_
  refine S_getR (n := 30) (C := RX11) (T := TX11) (N := 13) hx hb hg iX11 hown hK hW kd_0 rfl 8 (lt_b rfl) (hg (Cond.fieldLink RX11 65 "SlabWalk" "earnest" "LSlabWalk$Earnest;") m578) (fun _ h9 => h9) rfl dX11_rain_22 ?_
  refine S_getR (n := 58) (C := RX1) (T := TX1) (N := 6) hx hb hg iX1 hown hK hW kd_30 rfl 0 (lt_b rfl) (hg (Cond.fieldLink RX11 246 "SlabWalk$Earnest" "now" "[I") m493) (fun _ h9 => h9) rfl dX11_rain_25 ?_
  refine lv_bipush (v := 9) hx hb dX11_rain_28 (by decide) ?_
  refine S_iald hx hb hK hW kd_58 (vin (by decide) (by decide)) dX11_rain_30 (fun y_9 ey_9 => ?_)
  refine ic_1 hx hb dX11_rain_31 ?_
  refine lv_icmp_ne (tgt := 39) hx hb dX11_rain_32 rfl (fun c_10 => ?_) (fun c_10 => ?_)
  · have c_10 : y_9.toInt ≠ 1 := xI_ne rfl rfl c_10
    refine ic_0 hx hb dX11_rain_39 ?_
    have b_11 : 0 ≤ (G_5.1 30 4).toInt ∧ (G_5.1 30 4).toInt ≤ 40 := bd_30_4 hB_G_5
    have b_12 : 0 ≤ (G_5.1 30 5).toInt ∧ (G_5.1 30 5).toInt ≤ 40 := bd_30_5 hB_G_5
    exact W.zret (v := 0) hx hb hr (by decide) (fun t ht _ => ⟨⟨0, G_5, rfl, (P_Wrain_mk ⟨hB_G_5, hF, ⟨by decide, by decide⟩, (by have hq : (0 : Int32).toInt = 0 := rfl; (try dsimp only); omega), ⟨y_1, ey_1, ⟨y_2, ey_2, ⟨G_3, hB_G_3, (Fr.put (rs := [58]) (fs := []) Fr.rf eG_3 (Or.inl (by decide))), rw_ast eG_3, ⟨G_5, hX_8, ⟨y_9, ey_9, (Or.inr ⟨c_10, ⟨rfl, rfl⟩⟩)⟩⟩⟩⟩⟩⟩), wd_t ht hW⟩, hS.F ht⟩) hS.2.2 dX11_rain_40
  · have c_10 : y_9.toInt = 1 := xI_eq rfl rfl c_10
    refine ic_1 hx hb dX11_rain_35 ?_
    refine lv_goto (tgt := 40) hx hb dX11_rain_36 rfl ?_
    have b_13 : 0 ≤ (G_5.1 30 4).toInt ∧ (G_5.1 30 4).toInt ≤ 40 := bd_30_4 hB_G_5
    have b_14 : 0 ≤ (G_5.1 30 5).toInt ∧ (G_5.1 30 5).toInt ≤ 40 := bd_30_5 hB_G_5
    exact W.zret (v := 1) hx hb hr (by decide) (fun t ht _ => ⟨⟨1, G_5, rfl, (P_Wrain_mk ⟨hB_G_5, hF, ⟨by decide, by decide⟩, (by have hq : (1 : Int32).toInt = 1 := rfl; (try dsimp only); omega), ⟨y_1, ey_1, ⟨y_2, ey_2, ⟨G_3, hB_G_3, (Fr.put (rs := [58]) (fs := []) Fr.rf eG_3 (Or.inl (by decide))), rw_ast eG_3, ⟨G_5, hX_8, ⟨y_9, ey_9, (Or.inl ⟨c_10, ⟨rfl, rfl⟩⟩)⟩⟩⟩⟩⟩⟩), wd_t ht hW⟩, hS.F ht⟩) hS.2.2 dX11_rain_40

set_option maxHeartbeats 4000000 in
set_option maxRecDepth 100000 in
theorem k_Wday (l : Launch) (D : va_G) (k : KT) (A : Nat → Prop) (a : Nat → Nat) (z : SK) (G : GS)  (he : (G.1 30 4).toInt + (G.1 30 5).toInt ≤ 40) : Met l yX11_day (WS yX11_day cX11_day 1 (some .int)) ({ frames := 2, cells := 0, slots := 0, locals := 60 }) (va_Pc [.ref (a 0)] (cW D k A a z G)) (va_Qi (fun (r : Int32) (G1 : GS) => P_Wday G r G1) (fun (G1 : GS) t => Wd D k A a G1 t.heap) A) 0 0 A := by
  refine Met.ofW (cc := cX11_day) (maxL := 1) (ret := (some .int)) (by decide) rfl ?_
  intro p e s m args below meth c s₁ B hml hv
  obtain ⟨rfl, hW, hB_G, hK, hZ⟩ := hv
  have hx := B.exec
  have hb := B.bytes
  have hr := B.returns
  have hts := atoms_spec (ws := WS yX11_day cX11_day 1 (some .int)) B.pre
  have hgd : ∀ w ∈ gd, w ∈ WS yX11_day cX11_day 1 (some .int) := fun w h => List.mem_cons_of_mem _ h
  have hg : ∀ w ∈ gd, w.before _ s = true := fun w h => hts w (hgd w h)
  have hown : s.vm.findClass RX11 = some m.cls := findClass_of_methodNamed B.named
  have hS : va_S A s.heap s.heap [] := va_S.rf
  have hF : Fr [58, 59] [(30, 4), (30, 5)] G G := Fr.rf
  have hl := lv_entry ([.ref (a 0)]) (n := 1) (Nat.le_of_ble_eq_true rfl)
  rw [lg_entry_eq]
  generalize (lg_sl ([.ref (a 0)]) ++ List.replicate (1 - (lg_sl ([.ref (a 0)])).length) Slot.unset).toArray = ls at hl ⊢
  have hl : lv_has ls 1 [(0, .ref (a 0))] := hl
  refine lv_aload_n hx hb dX11_day_0 rfl (lv_at hl 0 rfl) ?_
  refine S_calli (va_runV (As := []) (rest := []) ⟨hx, hb, hml, hown, hts⟩ (k_wToday l D k A a z G  ) (cwV 0 hts (gd_V hgd m911 m913 m27 m117 m914) rfl rfl rfl hd_X11_today ⟨Nat.le_of_ble_eq_true rfl, Nat.le_of_ble_eq_true rfl⟩) (pre_W hW hB_G hK hZ hS kd_0 rfl) rfl rfl hl.1 rfl (lv_room (Nat.le_of_ble_eq_true rfl)) dX11_day_1 ⟨Nat.le_of_ble_eq_true rfl, Nat.le_of_ble_eq_true rfl⟩) hS (fun r_1 G_2 H locs hpo hW hS => ?_)
  have hX_5 : P_wToday G r_1 G_2 := hpo
  obtain ⟨hB_G_2, hq_3, -⟩ := hpo
  have hF := hF.call9 hq_3 rfl rfl
  refine lv_sipush (v := 1000) hx hb dX11_day_4 (by decide) ?_
  refine lv_icmp_lt (tgt := 12) hx hb dX11_day_7 rfl (fun c_6 => ?_) (fun c_6 => ?_)
  · have c_6 : r_1.toInt < 1000 := xI_lt rfl rfl c_6
    refine lv_aload_n hx hb dX11_day_12 rfl (lv_at hl 0 rfl) ?_
    refine S_getR (n := 30) (C := RX11) (T := TX11) (N := 13) hx hb hg iX11 hown hK hW kd_0 rfl 8 (lt_b rfl) (hg (Cond.fieldLink RX11 65 "SlabWalk" "earnest" "LSlabWalk$Earnest;") m578) (fun _ h9 => h9) rfl dX11_day_13 ?_
    refine S_getR (n := 58) (C := RX1) (T := TX1) (N := 6) hx hb hg iX1 hown hK hW kd_30 rfl 0 (lt_b rfl) (hg (Cond.fieldLink RX11 246 "SlabWalk$Earnest" "now" "[I") m493) (fun _ h9 => h9) rfl dX11_day_16 ?_
    refine lv_bipush (v := 6) hx hb dX11_day_19 (by decide) ?_
    refine lv_dup2_11 hx hb dX11_day_21 rfl rfl ?_
    refine S_iald hx hb hK hW kd_58 (vin (by decide) (by decide)) dX11_day_22 (fun y_7 ey_7 => ?_)
    refine ic_1 hx hb dX11_day_23 ?_
    refine lv_iadd hx hb dX11_day_24 ?_
    refine lv_topi (fun y_8 ey_8 => ?_)
    refine S_iast hx hb hK hW hS kd_58 (vin (by decide) (by decide)) dX11_day_25 (fun G_9 H locs eG_9 hW hS => ?_)
    have hB_G_9 : Bd G_9 := hB_G_2.put (lo := (-2147483648)) (hi := 2147483647) eG_9 rfl rfl rfl (tI_rng _).1 (tI_rng _).2 (hB_G_2.2.put eG_9 rfl)
    have hF := hF.put eG_9 (Or.inl (by decide))
    refine lv_aload_n hx hb dX11_day_26 rfl (lv_at hl 0 rfl) ?_
    refine S_getR (n := 30) (C := RX11) (T := TX11) (N := 13) hx hb hg iX11 hown hK hW kd_0 rfl 8 (lt_b rfl) (hg (Cond.fieldLink RX11 65 "SlabWalk" "earnest" "LSlabWalk$Earnest;") m578) (fun _ h9 => h9) rfl dX11_day_27 ?_
    refine S_callv (va_runV (As := []) (rest := []) ⟨hx, hb, hml, hown, hts⟩ (k_eKeep l D k A a z G_9  ) (cwV 0 hts (gd_V hgd m1178 m1179 m1180 m127 m1181) rfl rfl rfl hd_X1_keepAct ⟨Nat.le_of_ble_eq_true rfl, Nat.le_of_ble_eq_true rfl⟩) (pre_W hW hB_G_9 hK hZ hS kd_30 rfl) rfl rfl hl.1 rfl (lv_room (Nat.le_of_ble_eq_true rfl)) dX11_day_30 ⟨Nat.le_of_ble_eq_true rfl, Nat.le_of_ble_eq_true rfl⟩) hS (fun G_11 H locs hpo hW hS => ?_)
    have hX_14 : P_eKeep G_9 G_11 := hpo
    obtain ⟨hB_G_11, hq_12, hp_13, -⟩ := hpo
    have hF := hF.call9 hq_12 rfl rfl
    refine lv_aload_n hx hb dX11_day_33 rfl (lv_at hl 0 rfl) ?_
    refine S_calli (va_runV (As := []) (rest := []) ⟨hx, hb, hml, hown, hts⟩ (k_wToday l D k A a z G_11  ) (cwV 0 hts (gd_V hgd m911 m913 m27 m117 m914) rfl rfl rfl hd_X11_today ⟨Nat.le_of_ble_eq_true rfl, Nat.le_of_ble_eq_true rfl⟩) (pre_W hW hB_G_11 hK hZ hS kd_0 rfl) rfl rfl hl.1 rfl (lv_room (Nat.le_of_ble_eq_true rfl)) dX11_day_34 ⟨Nat.le_of_ble_eq_true rfl, Nat.le_of_ble_eq_true rfl⟩) hS (fun r_15 G_16 H locs hpo hW hS => ?_)
    have hX_19 : P_wToday G_11 r_15 G_16 := hpo
    obtain ⟨hB_G_16, hq_17, -⟩ := hpo
    have hF := hF.call9 hq_17 rfl rfl
    have b_20 : 0 ≤ (G_11.1 30 4).toInt ∧ (G_11.1 30 4).toInt ≤ 40 := bd_30_4 hB_G_11
    have g_21 : (G_16.1 30 4).toInt = (G_11.1 30 4).toInt := (congrArg Int32.toInt (show G_16.1 30 4 = (G_11.1 30 4) from (hq_17.i9 30 4 rfl rfl)))
    have b_22 : 0 ≤ (G_11.1 30 5).toInt ∧ (G_11.1 30 5).toInt ≤ 40 := bd_30_5 hB_G_11
    have g_23 : (G_16.1 30 5).toInt = (G_11.1 30 5).toInt := (congrArg Int32.toInt (show G_16.1 30 5 = (G_11.1 30 5) from (hq_17.i9 30 5 rfl rfl)))
    exact W.iret (v := r_15) hx hb hr (fun t ht _ => ⟨⟨r_15, G_16, rfl, (P_Wday_mk ⟨hB_G_16, hF, ((by first | exact ok_504 hp_13 g_21 g_23 | omega)), ⟨r_1, G_2, hX_5, (Or.inl ⟨c_6, ⟨y_7, ey_7, ⟨y_8, ey_8, ⟨G_9, hB_G_9, (Fr.put (rs := [58]) (fs := []) Fr.rf eG_9 (Or.inl (by decide))), rw_ast eG_9, ⟨G_11, hX_14, ⟨r_15, G_16, hX_19, ⟨rfl, rfl⟩⟩⟩⟩⟩⟩⟩)⟩⟩), wd_t ht hW⟩, hS.F ht⟩) hS.2.2 dX11_day_37
  · have c_6 : 1000 ≤ r_1.toInt := xI_nlt rfl rfl c_6
    refine ic_m1 hx hb dX11_day_10 ?_
    have b_24 : 0 ≤ (G.1 30 4).toInt ∧ (G.1 30 4).toInt ≤ 40 := bd_30_4 hB_G
    have g_25 : (G_2.1 30 4).toInt = (G.1 30 4).toInt := (congrArg Int32.toInt (show G_2.1 30 4 = (G.1 30 4) from (hq_3.i9 30 4 rfl rfl)))
    have b_26 : 0 ≤ (G.1 30 5).toInt ∧ (G.1 30 5).toInt ≤ 40 := bd_30_5 hB_G
    have g_27 : (G_2.1 30 5).toInt = (G.1 30 5).toInt := (congrArg Int32.toInt (show G_2.1 30 5 = (G.1 30 5) from (hq_3.i9 30 5 rfl rfl)))
    exact W.iret (v := (-1)) hx hb hr (fun t ht _ => ⟨⟨(-1), G_2, rfl, (P_Wday_mk ⟨hB_G_2, hF, (by have hq : ((-1) : Int32).toInt = (-1) := rfl; (try dsimp only); omega), ⟨r_1, G_2, hX_5, (Or.inr ⟨c_6, ⟨rfl, rfl⟩⟩)⟩⟩), wd_t ht hW⟩, hS.F ht⟩) hS.2.2 dX11_day_11

set_option maxHeartbeats 4000000 in
set_option maxRecDepth 100000 in
theorem k_Wundo (l : Launch) (D : va_G) (k : KT) (A : Nat → Prop) (a : Nat → Nat) (z : SK) (G : GS)  (he : (G.1 30 4).toInt + (G.1 30 5).toInt ≤ 40) : Met l yX11_undo (WS yX11_undo cX11_undo 1 (some .boolean)) ({ frames := 2, cells := 0, slots := 0, locals := 60 }) (va_Pc [.ref (a 0)] (cW D k A a z G)) (va_Qi (fun (r : Int32) (G1 : GS) => P_Wundo G r G1) (fun (G1 : GS) t => Wd D k A a G1 t.heap) A) 0 0 A := by
  refine Met.ofW (cc := cX11_undo) (maxL := 1) (ret := (some .boolean)) (by decide) rfl ?_
  intro p e s m args below meth c s₁ B hml hv
  obtain ⟨rfl, hW, hB_G, hK, hZ⟩ := hv
  have hx := B.exec
  have hb := B.bytes
  have hr := B.returns
  have hts := atoms_spec (ws := WS yX11_undo cX11_undo 1 (some .boolean)) B.pre
  have hgd : ∀ w ∈ gd, w ∈ WS yX11_undo cX11_undo 1 (some .boolean) := fun w h => List.mem_cons_of_mem _ h
  have hg : ∀ w ∈ gd, w.before _ s = true := fun w h => hts w (hgd w h)
  have hown : s.vm.findClass RX11 = some m.cls := findClass_of_methodNamed B.named
  have hS : va_S A s.heap s.heap [] := va_S.rf
  have hF : Fr [58] [(30, 4), (30, 5)] G G := Fr.rf
  have hl := lv_entry ([.ref (a 0)]) (n := 1) (Nat.le_of_ble_eq_true rfl)
  rw [lg_entry_eq]
  generalize (lg_sl ([.ref (a 0)]) ++ List.replicate (1 - (lg_sl ([.ref (a 0)])).length) Slot.unset).toArray = ls at hl ⊢
  have hl : lv_has ls 1 [(0, .ref (a 0))] := hl
  refine lv_aload_n hx hb dX11_undo_0 rfl (lv_at hl 0 rfl) ?_
  refine S_getR (n := 30) (C := RX11) (T := TX11) (N := 13) hx hb hg iX11 hown hK hW kd_0 rfl 8 (lt_b rfl) (hg (Cond.fieldLink RX11 65 "SlabWalk" "earnest" "LSlabWalk$Earnest;") m578) (fun _ h9 => h9) rfl dX11_undo_1 ?_
  have b_1 : 0 ≤ (G.1 30 4).toInt ∧ (G.1 30 4).toInt ≤ 40 := bd_30_4 hB_G
  have b_2 : 0 ≤ (G.1 30 5).toInt ∧ (G.1 30 5).toInt ≤ 40 := bd_30_5 hB_G
  refine S_calli (va_runV (As := []) (rest := []) ⟨hx, hb, hml, hown, hts⟩ (k_eBack l D k A a z G  ((by first | exact he | omega))) (cwV 0 hts (gd_V hgd m1222 m1223 m1224 m127 m1225) rfl rfl rfl hd_X1_takeBack ⟨Nat.le_of_ble_eq_true rfl, Nat.le_of_ble_eq_true rfl⟩) (pre_W hW hB_G hK hZ hS kd_30 rfl) rfl rfl hl.1 rfl (lv_room (Nat.le_of_ble_eq_true rfl)) dX11_undo_4 ⟨Nat.le_of_ble_eq_true rfl, Nat.le_of_ble_eq_true rfl⟩) hS (fun r_3 G_4 H locs hpo hW hS => ?_)
  have hX_7 : P_eBack G r_3 G_4 := hpo
  obtain ⟨hB_G_4, hq_5, f_8, hp_6, -⟩ := hpo
  have hF := hF.call9 hq_5 rfl rfl
  have b_9 : 0 ≤ (G_4.1 30 4).toInt ∧ (G_4.1 30 4).toInt ≤ 40 := bd_30_4 hB_G_4
  have b_10 : 0 ≤ (G_4.1 30 5).toInt ∧ (G_4.1 30 5).toInt ≤ 40 := bd_30_5 hB_G_4
  exact W.zret (v := r_3) hx hb hr (nar_z ((by first | exact f_8.1 | omega)) ((by first | exact f_8.2 | omega))) (fun t ht _ => ⟨⟨r_3, G_4, rfl, (P_Wundo_mk ⟨hB_G_4, hF, ⟨(by first | exact f_8.1 | omega), (by first | exact f_8.2 | omega)⟩, ((by first | exact hp_6 | omega)), ⟨r_3, G_4, hX_7, ⟨rfl, rfl⟩⟩⟩), wd_t ht hW⟩, hS.F ht⟩) hS.2.2 dX11_undo_7

set_option maxHeartbeats 4000000 in
set_option maxRecDepth 100000 in
theorem k_Wredo (l : Launch) (D : va_G) (k : KT) (A : Nat → Prop) (a : Nat → Nat) (z : SK) (G : GS)  (he : (G.1 30 4).toInt + (G.1 30 5).toInt ≤ 40) : Met l yX11_redo (WS yX11_redo cX11_redo 1 (some .boolean)) ({ frames := 2, cells := 0, slots := 0, locals := 60 }) (va_Pc [.ref (a 0)] (cW D k A a z G)) (va_Qi (fun (r : Int32) (G1 : GS) => P_Wredo G r G1) (fun (G1 : GS) t => Wd D k A a G1 t.heap) A) 0 0 A := by
  refine Met.ofW (cc := cX11_redo) (maxL := 1) (ret := (some .boolean)) (by decide) rfl ?_
  intro p e s m args below meth c s₁ B hml hv
  obtain ⟨rfl, hW, hB_G, hK, hZ⟩ := hv
  have hx := B.exec
  have hb := B.bytes
  have hr := B.returns
  have hts := atoms_spec (ws := WS yX11_redo cX11_redo 1 (some .boolean)) B.pre
  have hgd : ∀ w ∈ gd, w ∈ WS yX11_redo cX11_redo 1 (some .boolean) := fun w h => List.mem_cons_of_mem _ h
  have hg : ∀ w ∈ gd, w.before _ s = true := fun w h => hts w (hgd w h)
  have hown : s.vm.findClass RX11 = some m.cls := findClass_of_methodNamed B.named
  have hS : va_S A s.heap s.heap [] := va_S.rf
  have hF : Fr [58] [(30, 4), (30, 5)] G G := Fr.rf
  have hl := lv_entry ([.ref (a 0)]) (n := 1) (Nat.le_of_ble_eq_true rfl)
  rw [lg_entry_eq]
  generalize (lg_sl ([.ref (a 0)]) ++ List.replicate (1 - (lg_sl ([.ref (a 0)])).length) Slot.unset).toArray = ls at hl ⊢
  have hl : lv_has ls 1 [(0, .ref (a 0))] := hl
  refine lv_aload_n hx hb dX11_redo_0 rfl (lv_at hl 0 rfl) ?_
  refine S_getR (n := 30) (C := RX11) (T := TX11) (N := 13) hx hb hg iX11 hown hK hW kd_0 rfl 8 (lt_b rfl) (hg (Cond.fieldLink RX11 65 "SlabWalk" "earnest" "LSlabWalk$Earnest;") m578) (fun _ h9 => h9) rfl dX11_redo_1 ?_
  have b_1 : 0 ≤ (G.1 30 4).toInt ∧ (G.1 30 4).toInt ≤ 40 := bd_30_4 hB_G
  have b_2 : 0 ≤ (G.1 30 5).toInt ∧ (G.1 30 5).toInt ≤ 40 := bd_30_5 hB_G
  refine S_calli (va_runV (As := []) (rest := []) ⟨hx, hb, hml, hown, hts⟩ (k_eAgain l D k A a z G  ((by first | exact he | omega))) (cwV 0 hts (gd_V hgd m1230 m1231 m1232 m127 m1233) rfl rfl rfl hd_X1_doAgain ⟨Nat.le_of_ble_eq_true rfl, Nat.le_of_ble_eq_true rfl⟩) (pre_W hW hB_G hK hZ hS kd_30 rfl) rfl rfl hl.1 rfl (lv_room (Nat.le_of_ble_eq_true rfl)) dX11_redo_4 ⟨Nat.le_of_ble_eq_true rfl, Nat.le_of_ble_eq_true rfl⟩) hS (fun r_3 G_4 H locs hpo hW hS => ?_)
  have hX_7 : P_eAgain G r_3 G_4 := hpo
  obtain ⟨hB_G_4, hq_5, f_8, hp_6, -⟩ := hpo
  have hF := hF.call9 hq_5 rfl rfl
  have b_9 : 0 ≤ (G_4.1 30 4).toInt ∧ (G_4.1 30 4).toInt ≤ 40 := bd_30_4 hB_G_4
  have b_10 : 0 ≤ (G_4.1 30 5).toInt ∧ (G_4.1 30 5).toInt ≤ 40 := bd_30_5 hB_G_4
  exact W.zret (v := r_3) hx hb hr (nar_z ((by first | exact f_8.1 | omega)) ((by first | exact f_8.2 | omega))) (fun t ht _ => ⟨⟨r_3, G_4, rfl, (P_Wredo_mk ⟨hB_G_4, hF, ⟨(by first | exact f_8.1 | omega), (by first | exact f_8.2 | omega)⟩, ((by first | exact hp_6 | omega)), ⟨r_3, G_4, hX_7, ⟨rfl, rfl⟩⟩⟩), wd_t ht hW⟩, hS.F ht⟩) hS.2.2 dX11_redo_7

set_option maxHeartbeats 4000000 in
set_option maxRecDepth 100000 in
theorem k_Wwalker (l : Launch) (D : va_G) (k : KT) (A : Nat → Prop) (a : Nat → Nat) (z : SK) (G : GS) (p0 : Int32)  : Met l yX11_walker (WS yX11_walker cX11_walker 2 (some .int)) ({ frames := 0, cells := 0, slots := 0, locals := 0 }) (va_Pc [.ref (a 0), .int p0] (cW D k A a z G)) (va_Qi (fun (r : Int32) (G1 : GS) => P_Wwalker p0 G r G1) (fun (G1 : GS) t => Wd D k A a G1 t.heap) A) 0 0 A := by
  refine Met.ofW (cc := cX11_walker) (maxL := 2) (ret := (some .int)) (by decide) rfl ?_
  intro p e s m args below meth c s₁ B hml hv
  obtain ⟨rfl, hW, hB_G, hK, hZ⟩ := hv
  have hx := B.exec
  have hb := B.bytes
  have hr := B.returns
  have hts := atoms_spec (ws := WS yX11_walker cX11_walker 2 (some .int)) B.pre
  have hgd : ∀ w ∈ gd, w ∈ WS yX11_walker cX11_walker 2 (some .int) := fun w h => List.mem_cons_of_mem _ h
  have hg : ∀ w ∈ gd, w.before _ s = true := fun w h => hts w (hgd w h)
  have hown : s.vm.findClass RX11 = some m.cls := findClass_of_methodNamed B.named
  have hS : va_S A s.heap s.heap [] := va_S.rf
  have hF : Fr [] [] G G := Fr.rf
  have hl := lv_entry ([.ref (a 0), .int p0]) (n := 2) (Nat.le_of_ble_eq_true rfl)
  rw [lg_entry_eq]
  generalize (lg_sl ([.ref (a 0), .int p0]) ++ List.replicate (2 - (lg_sl ([.ref (a 0), .int p0])).length) Slot.unset).toArray = ls at hl ⊢
  have hl : lv_has ls 2 [(0, .ref (a 0)), (1, .int p0)] := hl
  refine lv_aload_n hx hb dX11_walker_0 rfl (lv_at hl 0 rfl) ?_
  refine S_getR (n := 30) (C := RX11) (T := TX11) (N := 13) hx hb hg iX11 hown hK hW kd_0 rfl 8 (lt_b rfl) (hg (Cond.fieldLink RX11 65 "SlabWalk" "earnest" "LSlabWalk$Earnest;") m578) (fun _ h9 => h9) rfl dX11_walker_1 ?_
  refine S_getR (n := 58) (C := RX1) (T := TX1) (N := 6) hx hb hg iX1 hown hK hW kd_30 rfl 0 (lt_b rfl) (hg (Cond.fieldLink RX11 246 "SlabWalk$Earnest" "now" "[I") m493) (fun _ h9 => h9) rfl dX11_walker_4 ?_
  refine ic_0 hx hb dX11_walker_7 ?_
  refine S_iald hx hb hK hW kd_58 (vin (by decide) (by decide)) dX11_walker_8 (fun y_1 ey_1 => ?_)
  refine ic_m1 hx hb dX11_walker_9 ?_
  refine lv_icmp_eq (tgt := 22) hx hb dX11_walker_10 rfl (fun c_2 => ?_) (fun c_2 => ?_)
  · have c_2 : y_1.toInt = (-1) := xI_eq rfl rfl c_2
    refine ic_m1 hx hb dX11_walker_22 ?_
    exact W.iret (v := (-1)) hx hb hr (fun t ht _ => ⟨⟨(-1), G, rfl, (P_Wwalker_mk ⟨hB_G, hF, ⟨y_1, ey_1, (Or.inl ⟨c_2, ⟨rfl, rfl⟩⟩)⟩⟩), wd_t ht hW⟩, hS.F ht⟩) hS.2.2 dX11_walker_23
  · have c_2 : y_1.toInt ≠ (-1) := xI_ne rfl rfl c_2
    refine lv_iload_n hx hb dX11_walker_13 rfl (lv_at hl 1 rfl) ?_
    refine lv_if_lt (tgt := 22) hx hb dX11_walker_14 rfl (fun c_3 => ?_) (fun c_3 => ?_)
    · have c_3 : p0.toInt < 0 := xI_lt rfl rfl c_3
      refine ic_m1 hx hb dX11_walker_22 ?_
      exact W.iret (v := (-1)) hx hb hr (fun t ht _ => ⟨⟨(-1), G, rfl, (P_Wwalker_mk ⟨hB_G, hF, ⟨y_1, ey_1, (Or.inr ⟨c_2, (Or.inl ⟨c_3, ⟨rfl, rfl⟩⟩)⟩)⟩⟩), wd_t ht hW⟩, hS.F ht⟩) hS.2.2 dX11_walker_23
    · have c_3 : 0 ≤ p0.toInt := xI_nlt rfl rfl c_3
      refine lv_iload_n hx hb dX11_walker_17 rfl (lv_at hl 1 rfl) ?_
      refine ic_5 hx hb dX11_walker_18 ?_
      refine lv_icmp_le (tgt := 24) hx hb dX11_walker_19 rfl (fun c_4 => ?_) (fun c_4 => ?_)
      · have c_4 : p0.toInt ≤ 5 := xI_le rfl rfl c_4
        refine lv_aload_n hx hb dX11_walker_24 rfl (lv_at hl 0 rfl) ?_
        refine S_getR (n := 30) (C := RX11) (T := TX11) (N := 13) hx hb hg iX11 hown hK hW kd_0 rfl 8 (lt_b rfl) (hg (Cond.fieldLink RX11 65 "SlabWalk" "earnest" "LSlabWalk$Earnest;") m578) (fun _ h9 => h9) rfl dX11_walker_25 ?_
        refine S_getR (n := 58) (C := RX1) (T := TX1) (N := 6) hx hb hg iX1 hown hK hW kd_30 rfl 0 (lt_b rfl) (hg (Cond.fieldLink RX11 246 "SlabWalk$Earnest" "now" "[I") m493) (fun _ h9 => h9) rfl dX11_walker_28 ?_
        refine lv_iload_n hx hb dX11_walker_31 rfl (lv_at hl 1 rfl) ?_
        refine S_iald hx hb hK hW kd_58 (vin ((by first | exact c_3 | omega)) ((by first | exact ok_505 c_4 | omega))) dX11_walker_32 (fun y_5 ey_5 => ?_)
        exact W.iret (v := y_5) hx hb hr (fun t ht _ => ⟨⟨y_5, G, rfl, (P_Wwalker_mk ⟨hB_G, hF, ⟨y_1, ey_1, (Or.inr ⟨c_2, (Or.inr ⟨c_3, (Or.inl ⟨c_4, ⟨y_5, ey_5, ⟨rfl, rfl⟩⟩⟩)⟩)⟩)⟩⟩), wd_t ht hW⟩, hS.F ht⟩) hS.2.2 dX11_walker_33
      · have c_4 : 5 < p0.toInt := xI_nle rfl rfl c_4
        refine ic_m1 hx hb dX11_walker_22 ?_
        exact W.iret (v := (-1)) hx hb hr (fun t ht _ => ⟨⟨(-1), G, rfl, (P_Wwalker_mk ⟨hB_G, hF, ⟨y_1, ey_1, (Or.inr ⟨c_2, (Or.inr ⟨c_3, (Or.inr ⟨c_4, ⟨rfl, rfl⟩⟩)⟩)⟩)⟩⟩), wd_t ht hW⟩, hS.F ht⟩) hS.2.2 dX11_walker_23

set_option maxHeartbeats 4000000 in
set_option maxRecDepth 100000 in
theorem k_Wimage (l : Launch) (D : va_G) (k : KT) (A : Nat → Prop) (a : Nat → Nat) (z : SK) (G : GS) (p0 : Int32) (he : (G.1 30 4).toInt + (G.1 30 5).toInt ≤ 40) : Met l yX11_image (WS yX11_image cX11_image 2 (some .int)) ({ frames := 2, cells := 0, slots := 0, locals := 61 }) (va_Pc [.ref (a 0), .int p0] (cW D k A a z G)) (va_Qi (fun (r : Int32) (G1 : GS) => P_Wimage p0 G r G1) (fun (G1 : GS) t => Wd D k A a G1 t.heap) A) 0 0 A := by
  refine Met.ofW (cc := cX11_image) (maxL := 2) (ret := (some .int)) (by decide) rfl ?_
  intro p e s m args below meth c s₁ B hml hv
  obtain ⟨rfl, hW, hB_G, hK, hZ⟩ := hv
  have hx := B.exec
  have hb := B.bytes
  have hr := B.returns
  have hts := atoms_spec (ws := WS yX11_image cX11_image 2 (some .int)) B.pre
  have hgd : ∀ w ∈ gd, w ∈ WS yX11_image cX11_image 2 (some .int) := fun w h => List.mem_cons_of_mem _ h
  have hg : ∀ w ∈ gd, w.before _ s = true := fun w h => hts w (hgd w h)
  have hown : s.vm.findClass RX11 = some m.cls := findClass_of_methodNamed B.named
  have hS : va_S A s.heap s.heap [] := va_S.rf
  have hF : Fr [60] [(30, 3)] G G := Fr.rf
  have hl := lv_entry ([.ref (a 0), .int p0]) (n := 2) (Nat.le_of_ble_eq_true rfl)
  rw [lg_entry_eq]
  generalize (lg_sl ([.ref (a 0), .int p0]) ++ List.replicate (2 - (lg_sl ([.ref (a 0), .int p0])).length) Slot.unset).toArray = ls at hl ⊢
  have hl : lv_has ls 2 [(0, .ref (a 0)), (1, .int p0)] := hl
  refine lv_aload_n hx hb dX11_image_0 rfl (lv_at hl 0 rfl) ?_
  refine S_getR (n := 30) (C := RX11) (T := TX11) (N := 13) hx hb hg iX11 hown hK hW kd_0 rfl 8 (lt_b rfl) (hg (Cond.fieldLink RX11 65 "SlabWalk" "earnest" "LSlabWalk$Earnest;") m578) (fun _ h9 => h9) rfl dX11_image_1 ?_
  refine lv_iload_n hx hb dX11_image_4 rfl (lv_at hl 1 rfl) ?_
  have b_1 : 0 ≤ (G.1 30 4).toInt ∧ (G.1 30 4).toInt ≤ 40 := bd_30_4 hB_G
  have b_2 : 0 ≤ (G.1 30 5).toInt ∧ (G.1 30 5).toInt ≤ 40 := bd_30_5 hB_G
  refine S_calli (va_runV (As := [.int p0]) (rest := []) ⟨hx, hb, hml, hown, hts⟩ (k_eIn l D k A a z G p0 ((by first | exact he | omega))) (cwV 1 hts (gd_V hgd m1291 m1292 m1293 m127 m1294) rfl rfl rfl hd_X1_keepIn ⟨Nat.le_of_ble_eq_true rfl, Nat.le_of_ble_eq_true rfl⟩) (pre_W hW hB_G hK hZ hS kd_30 rfl) rfl rfl hl.1 rfl (lv_room (Nat.le_of_ble_eq_true rfl)) dX11_image_5 ⟨Nat.le_of_ble_eq_true rfl, Nat.le_of_ble_eq_true rfl⟩) hS (fun r_3 G_4 H locs hpo hW hS => ?_)
  have hX_7 : P_eIn p0 G r_3 G_4 := hpo
  obtain ⟨hB_G_4, hq_5, f_8, hp_6, -⟩ := hpo
  have hF := hF.call9 hq_5 rfl rfl
  refine lv_if_eq (tgt := 18) hx hb dX11_image_8 rfl (fun c_9 => ?_) (fun c_9 => ?_)
  · have c_9 : r_3.toInt = 0 := xI_eq rfl rfl c_9
    refine ic_m1 hx hb dX11_image_18 ?_
    have g_10 : (G_4.1 30 4).toInt = (G.1 30 4).toInt := (congrArg Int32.toInt (show G_4.1 30 4 = (G.1 30 4) from ((hq_5.i9 30 4 rfl rfl).trans (rfl))))
    have g_11 : (G_4.1 30 5).toInt = (G.1 30 5).toInt := (congrArg Int32.toInt (show G_4.1 30 5 = (G.1 30 5) from ((hq_5.i9 30 5 rfl rfl).trans (rfl))))
    exact W.iret (v := (-1)) hx hb hr (fun t ht _ => ⟨⟨(-1), G_4, rfl, (P_Wimage_mk ⟨hB_G_4, hF, (by have hq : ((-1) : Int32).toInt = (-1) := rfl; (try dsimp only); omega), ⟨r_3, G_4, hX_7, (Or.inl ⟨c_9, ⟨rfl, rfl⟩⟩)⟩⟩), wd_t ht hW⟩, hS.F ht⟩) hS.2.2 dX11_image_19
  · have c_9 : r_3.toInt ≠ 0 := xI_ne rfl rfl c_9
    refine lv_aload_n hx hb dX11_image_11 rfl (lv_at hl 0 rfl) ?_
    refine S_calli (va_runV (As := []) (rest := []) ⟨hx, hb, hml, hown, hts⟩ (k_wToday l D k A a z G_4  ) (cwV 0 hts (gd_V hgd m911 m913 m27 m117 m914) rfl rfl rfl hd_X11_today ⟨Nat.le_of_ble_eq_true rfl, Nat.le_of_ble_eq_true rfl⟩) (pre_W hW hB_G_4 hK hZ hS kd_0 rfl) rfl rfl hl.1 rfl (lv_room (Nat.le_of_ble_eq_true rfl)) dX11_image_12 ⟨Nat.le_of_ble_eq_true rfl, Nat.le_of_ble_eq_true rfl⟩) hS (fun r_12 G_13 H locs hpo hW hS => ?_)
    have hX_16 : P_wToday G_4 r_12 G_13 := hpo
    obtain ⟨hB_G_13, hq_14, -⟩ := hpo
    have hF := hF.call9 hq_14 rfl rfl
    refine lv_goto (tgt := 19) hx hb dX11_image_15 rfl ?_
    have g_17 : (G_13.1 30 4).toInt = (G.1 30 4).toInt := (congrArg Int32.toInt (show G_13.1 30 4 = (G.1 30 4) from ((hq_14.i9 30 4 rfl rfl).trans ((hq_5.i9 30 4 rfl rfl).trans (rfl)))))
    have g_18 : (G_13.1 30 5).toInt = (G.1 30 5).toInt := (congrArg Int32.toInt (show G_13.1 30 5 = (G.1 30 5) from ((hq_14.i9 30 5 rfl rfl).trans ((hq_5.i9 30 5 rfl rfl).trans (rfl)))))
    exact W.iret (v := r_12) hx hb hr (fun t ht _ => ⟨⟨r_12, G_13, rfl, (P_Wimage_mk ⟨hB_G_13, hF, ((by first | exact ok_504 he g_17 g_18 | omega)), ⟨r_3, G_4, hX_7, (Or.inr ⟨c_9, ⟨r_12, G_13, hX_16, ⟨rfl, rfl⟩⟩⟩)⟩⟩), wd_t ht hW⟩, hS.F ht⟩) hS.2.2 dX11_image_19

set_option maxHeartbeats 4000000 in
set_option maxRecDepth 100000 in
theorem k_Wback (l : Launch) (D : va_G) (k : KT) (A : Nat → Prop) (a : Nat → Nat) (z : SK) (G : GS) (p0 : Int32) (he : (G.1 30 4).toInt + (G.1 30 5).toInt ≤ 40) : Met l yX11_back (WS yX11_back cX11_back 2 (some .int)) ({ frames := 3, cells := 0, slots := 0, locals := 81 }) (va_Pc [.ref (a 0), .int p0] (cW D k A a z G)) (va_Qi (fun (r : Int32) (G1 : GS) => P_Wback p0 G r G1) (fun (G1 : GS) t => Wd D k A a G1 t.heap) A) 0 0 A := by
  refine Met.ofW (cc := cX11_back) (maxL := 2) (ret := (some .int)) (by decide) rfl ?_
  intro p e s m args below meth c s₁ B hml hv
  obtain ⟨rfl, hW, hB_G, hK, hZ⟩ := hv
  have hx := B.exec
  have hb := B.bytes
  have hr := B.returns
  have hts := atoms_spec (ws := WS yX11_back cX11_back 2 (some .int)) B.pre
  have hgd : ∀ w ∈ gd, w ∈ WS yX11_back cX11_back 2 (some .int) := fun w h => List.mem_cons_of_mem _ h
  have hg : ∀ w ∈ gd, w.before _ s = true := fun w h => hts w (hgd w h)
  have hown : s.vm.findClass RX11 = some m.cls := findClass_of_methodNamed B.named
  have hS : va_S A s.heap s.heap [] := va_S.rf
  have hF : Fr [58, 59] [(30, 4), (30, 5)] G G := Fr.rf
  have hl := lv_entry ([.ref (a 0), .int p0]) (n := 2) (Nat.le_of_ble_eq_true rfl)
  rw [lg_entry_eq]
  generalize (lg_sl ([.ref (a 0), .int p0]) ++ List.replicate (2 - (lg_sl ([.ref (a 0), .int p0])).length) Slot.unset).toArray = ls at hl ⊢
  have hl : lv_has ls 2 [(0, .ref (a 0)), (1, .int p0)] := hl
  refine lv_aload_n hx hb dX11_back_0 rfl (lv_at hl 0 rfl) ?_
  refine S_getR (n := 30) (C := RX11) (T := TX11) (N := 13) hx hb hg iX11 hown hK hW kd_0 rfl 8 (lt_b rfl) (hg (Cond.fieldLink RX11 65 "SlabWalk" "earnest" "LSlabWalk$Earnest;") m578) (fun _ h9 => h9) rfl dX11_back_1 ?_
  refine lv_iload_n hx hb dX11_back_4 rfl (lv_at hl 1 rfl) ?_
  have b_1 : 0 ≤ (G.1 30 4).toInt ∧ (G.1 30 4).toInt ≤ 40 := bd_30_4 hB_G
  have b_2 : 0 ≤ (G.1 30 5).toInt ∧ (G.1 30 5).toInt ≤ 40 := bd_30_5 hB_G
  refine S_calli (va_runV (As := [.int p0]) (rest := []) ⟨hx, hb, hml, hown, hts⟩ (k_eFrom l D k A a z G p0 ((by first | exact he | omega))) (cwV 1 hts (gd_V hgd m1299 m1300 m1301 m127 m1302) rfl rfl rfl hd_X1_bringFrom ⟨Nat.le_of_ble_eq_true rfl, Nat.le_of_ble_eq_true rfl⟩) (pre_W hW hB_G hK hZ hS kd_30 rfl) rfl rfl hl.1 rfl (lv_room (Nat.le_of_ble_eq_true rfl)) dX11_back_5 ⟨Nat.le_of_ble_eq_true rfl, Nat.le_of_ble_eq_true rfl⟩) hS (fun r_3 G_4 H locs hpo hW hS => ?_)
  have hX_7 : P_eFrom p0 G r_3 G_4 := hpo
  obtain ⟨hB_G_4, hq_5, f_8, hp_6, -⟩ := hpo
  have hF := hF.call9 hq_5 rfl rfl
  refine lv_if_eq (tgt := 18) hx hb dX11_back_8 rfl (fun c_9 => ?_) (fun c_9 => ?_)
  · have c_9 : r_3.toInt = 0 := xI_eq rfl rfl c_9
    refine ic_m1 hx hb dX11_back_18 ?_
    have b_10 : 0 ≤ (G_4.1 30 4).toInt ∧ (G_4.1 30 4).toInt ≤ 40 := bd_30_4 hB_G_4
    have b_11 : 0 ≤ (G_4.1 30 5).toInt ∧ (G_4.1 30 5).toInt ≤ 40 := bd_30_5 hB_G_4
    exact W.iret (v := (-1)) hx hb hr (fun t ht _ => ⟨⟨(-1), G_4, rfl, (P_Wback_mk ⟨hB_G_4, hF, (by have hq : ((-1) : Int32).toInt = (-1) := rfl; (try dsimp only); omega), ⟨r_3, G_4, hX_7, (Or.inl ⟨c_9, ⟨rfl, rfl⟩⟩)⟩⟩), wd_t ht hW⟩, hS.F ht⟩) hS.2.2 dX11_back_19
  · have c_9 : r_3.toInt ≠ 0 := xI_ne rfl rfl c_9
    refine lv_aload_n hx hb dX11_back_11 rfl (lv_at hl 0 rfl) ?_
    refine S_calli (va_runV (As := []) (rest := []) ⟨hx, hb, hml, hown, hts⟩ (k_wToday l D k A a z G_4  ) (cwV 0 hts (gd_V hgd m911 m913 m27 m117 m914) rfl rfl rfl hd_X11_today ⟨Nat.le_of_ble_eq_true rfl, Nat.le_of_ble_eq_true rfl⟩) (pre_W hW hB_G_4 hK hZ hS kd_0 rfl) rfl rfl hl.1 rfl (lv_room (Nat.le_of_ble_eq_true rfl)) dX11_back_12 ⟨Nat.le_of_ble_eq_true rfl, Nat.le_of_ble_eq_true rfl⟩) hS (fun r_12 G_13 H locs hpo hW hS => ?_)
    have hX_16 : P_wToday G_4 r_12 G_13 := hpo
    obtain ⟨hB_G_13, hq_14, -⟩ := hpo
    have hF := hF.call9 hq_14 rfl rfl
    refine lv_goto (tgt := 19) hx hb dX11_back_15 rfl ?_
    have b_17 : 0 ≤ (G_4.1 30 4).toInt ∧ (G_4.1 30 4).toInt ≤ 40 := bd_30_4 hB_G_4
    have g_18 : (G_13.1 30 4).toInt = (G_4.1 30 4).toInt := (congrArg Int32.toInt (show G_13.1 30 4 = (G_4.1 30 4) from (hq_14.i9 30 4 rfl rfl)))
    have b_19 : 0 ≤ (G_4.1 30 5).toInt ∧ (G_4.1 30 5).toInt ≤ 40 := bd_30_5 hB_G_4
    have g_20 : (G_13.1 30 5).toInt = (G_4.1 30 5).toInt := (congrArg Int32.toInt (show G_13.1 30 5 = (G_4.1 30 5) from (hq_14.i9 30 5 rfl rfl)))
    exact W.iret (v := r_12) hx hb hr (fun t ht _ => ⟨⟨r_12, G_13, rfl, (P_Wback_mk ⟨hB_G_13, hF, ((by first | exact ok_504 hp_6 g_18 g_20 | omega)), ⟨r_3, G_4, hX_7, (Or.inr ⟨c_9, ⟨r_12, G_13, hX_16, ⟨rfl, rfl⟩⟩⟩)⟩⟩), wd_t ht hW⟩, hS.F ht⟩) hS.2.2 dX11_back_19

set_option maxHeartbeats 4000000 in
set_option maxRecDepth 100000 in
theorem k_Wfirst (l : Launch) (D : va_G) (k : KT) (A : Nat → Prop) (a : Nat → Nat) (z : SK) (G : GS) (p0 : Int32) (p1 : Int32) (p2 : Int32) (p3 : Int32) (p4 : Int32)  : Met l yX11_first (WS yX11_first cX11_first 9 (some .int)) ({ frames := 1, cells := 0, slots := 0, locals := 22 }) (va_Pc [.ref (a 0), .int p0, .int p1, .int p2, .int p3, .int p4] (cW D k A a z G)) (va_Qi (fun (r : Int32) (G1 : GS) => P_Wfirst p0 p1 p2 p3 p4 G r G1) (fun (G1 : GS) t => Wd D k A a G1 t.heap) A) 0 0 A := by
  refine Met.ofW (cc := cX11_first) (maxL := 9) (ret := (some .int)) (by decide) rfl ?_
  intro p e s m args below meth c s₁ B hml hv
  obtain ⟨rfl, hW, hB_G, hK, hZ⟩ := hv
  have hx := B.exec
  have hb := B.bytes
  have hr := B.returns
  have hts := atoms_spec (ws := WS yX11_first cX11_first 9 (some .int)) B.pre
  have hgd : ∀ w ∈ gd, w ∈ WS yX11_first cX11_first 9 (some .int) := fun w h => List.mem_cons_of_mem _ h
  have hg : ∀ w ∈ gd, w.before _ s = true := fun w h => hts w (hgd w h)
  have hown : s.vm.findClass RX11 = some m.cls := findClass_of_methodNamed B.named
  have hS : va_S A s.heap s.heap [] := va_S.rf
  have hF : Fr [] [] G G := Fr.rf
  have hl := lv_entry ([.ref (a 0), .int p0, .int p1, .int p2, .int p3, .int p4]) (n := 9) (Nat.le_of_ble_eq_true rfl)
  rw [lg_entry_eq]
  generalize (lg_sl ([.ref (a 0), .int p0, .int p1, .int p2, .int p3, .int p4]) ++ List.replicate (9 - (lg_sl ([.ref (a 0), .int p0, .int p1, .int p2, .int p3, .int p4])).length) Slot.unset).toArray = ls at hl ⊢
  have hl : lv_has ls 9 [(0, .ref (a 0)), (1, .int p0), (2, .int p1), (3, .int p2), (4, .int p3), (5, .int p4)] := hl
  refine lv_iload_n hx hb dX11_first_0 rfl (lv_at hl 1 rfl) ?_
  refine lv_iload_n hx hb dX11_first_1 rfl (lv_at hl 2 rfl) ?_
  refine lv_iload_n hx hb dX11_first_2 rfl (lv_at hl 3 rfl) ?_
  refine S_calli (va_runS (As := [.int p0, .int p1, .int p2]) (rest := []) ⟨hx, hb, hml, hown, hts⟩ (k_endless l D k A a z G p0 p1 p2 ) (va_cwS 3 hts (gd_S hgd m1069 m1070 m117 m1071) rfl rfl rfl hd_X11_isEndless.2 ⟨Nat.le_of_ble_eq_true rfl, Nat.le_of_ble_eq_true rfl⟩) (pre_S hW hB_G hK hZ hS) rfl rfl hl.1 rfl (lv_room (Nat.le_of_ble_eq_true rfl)) dX11_first_3 ⟨Nat.le_of_ble_eq_true rfl, Nat.le_of_ble_eq_true rfl⟩) hS (fun r_1 G_2 H locs hpo hW hS => ?_)
  have hX_5 : P_endless p0 p1 p2 G r_1 G_2 := hpo
  obtain ⟨hB_G_2, hq_3, f_6, hp_4, -⟩ := hpo
  have hF := hF.call9 hq_3 rfl rfl
  refine lv_if_eq (tgt := 35) hx hb dX11_first_6 rfl (fun c_7 => ?_) (fun c_7 => ?_)
  · have c_7 : r_1.toInt = 0 := xI_eq rfl rfl c_7
    refine lv_bipush (v := (-2)) hx hb dX11_first_35 (by decide) ?_
    exact W.iret (v := (-2)) hx hb hr (fun t ht _ => ⟨⟨(-2), G_2, rfl, (P_Wfirst_mk ⟨hB_G_2, hF, ⟨r_1, G_2, hX_5, (Or.inl ⟨c_7, ⟨rfl, rfl⟩⟩)⟩⟩), wd_t ht hW⟩, hS.F ht⟩) hS.2.2 dX11_first_37
  · have c_7 : r_1.toInt ≠ 0 := xI_ne rfl rfl c_7
    refine lv_iload hx hb dX11_first_9 (lv_at hl 4 rfl) ?_
    refine ic_1 hx hb dX11_first_11 ?_
    refine lv_icmp_lt (tgt := 35) hx hb dX11_first_12 rfl (fun c_8 => ?_) (fun c_8 => ?_)
    · have c_8 : p3.toInt < 1 := xI_lt rfl rfl c_8
      refine lv_bipush (v := (-2)) hx hb dX11_first_35 (by decide) ?_
      exact W.iret (v := (-2)) hx hb hr (fun t ht _ => ⟨⟨(-2), G_2, rfl, (P_Wfirst_mk ⟨hB_G_2, hF, ⟨r_1, G_2, hX_5, (Or.inr ⟨c_7, (Or.inl ⟨c_8, ⟨rfl, rfl⟩⟩)⟩)⟩⟩), wd_t ht hW⟩, hS.F ht⟩) hS.2.2 dX11_first_37
    · have c_8 : 1 ≤ p3.toInt := xI_nlt rfl rfl c_8
      refine lv_iload hx hb dX11_first_15 (lv_at hl 4 rfl) ?_
      refine lv_bipush (v := 99) hx hb dX11_first_17 (by decide) ?_
      refine lv_icmp_gt (tgt := 35) hx hb dX11_first_19 rfl (fun c_9 => ?_) (fun c_9 => ?_)
      · have c_9 : 99 < p3.toInt := xI_lt rfl rfl c_9
        refine lv_bipush (v := (-2)) hx hb dX11_first_35 (by decide) ?_
        exact W.iret (v := (-2)) hx hb hr (fun t ht _ => ⟨⟨(-2), G_2, rfl, (P_Wfirst_mk ⟨hB_G_2, hF, ⟨r_1, G_2, hX_5, (Or.inr ⟨c_7, (Or.inr ⟨c_8, (Or.inl ⟨c_9, ⟨rfl, rfl⟩⟩)⟩)⟩)⟩⟩), wd_t ht hW⟩, hS.F ht⟩) hS.2.2 dX11_first_37
      · have c_9 : p3.toInt ≤ 99 := xI_nlt rfl rfl c_9
        refine lv_iload hx hb dX11_first_22 (lv_at hl 5 rfl) ?_
        refine lv_if_lt (tgt := 35) hx hb dX11_first_24 rfl (fun c_10 => ?_) (fun c_10 => ?_)
        · have c_10 : p4.toInt < 0 := xI_lt rfl rfl c_10
          refine lv_bipush (v := (-2)) hx hb dX11_first_35 (by decide) ?_
          exact W.iret (v := (-2)) hx hb hr (fun t ht _ => ⟨⟨(-2), G_2, rfl, (P_Wfirst_mk ⟨hB_G_2, hF, ⟨r_1, G_2, hX_5, (Or.inr ⟨c_7, (Or.inr ⟨c_8, (Or.inr ⟨c_9, (Or.inl ⟨c_10, ⟨rfl, rfl⟩⟩)⟩)⟩)⟩)⟩⟩), wd_t ht hW⟩, hS.F ht⟩) hS.2.2 dX11_first_37
        · have c_10 : 0 ≤ p4.toInt := xI_nlt rfl rfl c_10
          refine lv_iload hx hb dX11_first_27 (lv_at hl 5 rfl) ?_
          refine lv_iload_n hx hb dX11_first_29 rfl (lv_at hl 1 rfl) ?_
          refine lv_iload_n hx hb dX11_first_30 rfl (lv_at hl 2 rfl) ?_
          refine lv_iadd hx hb dX11_first_31 ?_
          refine lv_topi (fun y_11 ey_11 => ?_)
          have ty_11 : y_11.toInt = p0.toInt + p1.toInt := xI_add rfl rfl ey_11 ((by first | exact ok_506 f_6.1 f_6.2 hp_4 c_7 | omega)) ((by first | exact ok_507 f_6.1 f_6.2 hp_4 c_7 | omega))
          refine lv_icmp_lt (tgt := 38) hx hb dX11_first_32 rfl (fun c_12 => ?_) (fun c_12 => ?_)
          · have c_12 : p4.toInt < y_11.toInt := xI_lt rfl rfl c_12
            refine lv_iload_n hx hb dX11_first_38 rfl (lv_at hl 1 rfl) ?_
            refine lv_iload_n hx hb dX11_first_39 rfl (lv_at hl 2 rfl) ?_
            refine lv_iadd hx hb dX11_first_40 ?_
            refine lv_topi (fun y_13 ey_13 => ?_)
            have ty_13 : y_13.toInt = p0.toInt + p1.toInt := xI_add rfl rfl ey_13 ((by first | exact ok_508 c_10 ty_11 c_12 | omega)) ((by first | exact ok_507 f_6.1 f_6.2 hp_4 c_7 | omega))
            refine lv_istore (lv' := [(6, .int y_13), (0, .ref (a 0)), (1, .int p0), (2, .int p1), (3, .int p2), (4, .int p3), (5, .int p4)]) hx hb dX11_first_41 hl (lt_b rfl) rfl (fun ls hl => ?_)
            refine lv_iload hx hb dX11_first_43 (lv_at hl 6 rfl) ?_
            refine lv_istore (lv' := [(7, .int p4), (6, .int y_13), (0, .ref (a 0)), (1, .int p0), (2, .int p1), (3, .int p2), (4, .int p3), (5, .int p4)]) hx hb dX11_first_45 hl (lt_b rfl) rfl (fun ls hl => ?_)
            refine ic_0 hx hb dX11_first_47 ?_
            refine lv_istore (lv' := [(8, .int 0), (7, .int p4), (6, .int y_13), (0, .ref (a 0)), (1, .int p0), (2, .int p1), (3, .int p2), (4, .int p3), (5, .int p4)]) hx hb dX11_first_48 hl (lt_b rfl) rfl (fun ls hl => ?_)
            have qc_21 : (0 : Int32).toInt = 0 := rfl
            refine loop_N (Inv := fun n H locs ls => ∃ (G_14 : GS) (x_18 : Int32) (x_19 : Int32), (n : Int) = 69 - x_18.toInt ∧ (0 ≤ x_18.toInt ∧ x_18.toInt ≤ 69) ∧ Rc (St_k_Wfirst_1 p0 p1 p2 p3 y_13) (0, p4, G_2) (x_18, x_19, G_14) ∧ Wd D k A a G_14 H ∧ Bd G_14 ∧ Fr [] [] G G_14 ∧ Fr [] [] G_2 G_14 ∧ va_S A s.heap H locs ∧ lv_has ls 9 [(8, .int x_18), (7, .int x_19), (6, .int y_13), (1, .int p0), (2, .int p1), (3, .int p2), (4, .int p3)]) (fun n_17 H locs ls ih_16 hI => ?_) (69 - 0 : Int).toNat ⟨G_2, 0, p4, (Int.toNat_of_nonneg ((by decide))), ⟨(by decide), (by decide)⟩, Rc.rf, hW, hB_G_2, hF, Fr.rf, hS, lv_sub hl [0, 1, 2, 4, 5, 6, 7] rfl⟩
            obtain ⟨G_14, x_18, x_19, hn_23, f_22, hX_20, hW, hB_G_14, hF, hq_15, hS, hl⟩ := hI
            refine lv_iload hx hb dX11_first_50 (lv_at hl 0 rfl) ?_
            refine lv_iload hx hb dX11_first_52 (lv_at hl 2 rfl) ?_
            refine lv_icmp_ge (tgt := 88) hx hb dX11_first_54 rfl (fun c_24 => ?_) (fun c_24 => ?_)
            · have c_24 : y_13.toInt ≤ x_18.toInt := xI_le rfl rfl c_24
              refine ic_m1 hx hb dX11_first_88 ?_
              exact W.iret (v := (-1)) hx hb hr (fun t ht _ => ⟨⟨(-1), G_14, rfl, (P_Wfirst_mk ⟨hB_G_14, hF, ⟨r_1, G_2, hX_5, (Or.inr ⟨c_7, (Or.inr ⟨c_8, (Or.inr ⟨c_9, (Or.inr ⟨c_10, ⟨y_11, ty_11, (Or.inl ⟨c_12, ⟨y_13, ty_13, ⟨x_18, x_19, G_14, hX_20, f_22, hB_G_14, hq_15, (Or.inl ⟨c_24, ⟨rfl, rfl⟩⟩)⟩⟩⟩)⟩⟩)⟩)⟩)⟩)⟩⟩), wd_t ht hW⟩, hS.F ht⟩) hS.2.2 dX11_first_89
            · have c_24 : x_18.toInt < y_13.toInt := xI_nle rfl rfl c_24
              refine lv_iload_n hx hb dX11_first_57 rfl (lv_at hl 4 rfl) ?_
              refine lv_if_le (tgt := 72) hx hb dX11_first_58 rfl (fun c_25 => ?_) (fun c_25 => ?_)
              · have c_25 : p1.toInt ≤ 0 := xI_le rfl rfl c_25
                refine lv_iload hx hb dX11_first_72 (lv_at hl 1 rfl) ?_
                refine lv_iload hx hb dX11_first_74 (lv_at hl 6 rfl) ?_
                refine lv_iadd hx hb dX11_first_76 ?_
                refine lv_topi (fun y_26 ey_26 => ?_)
                refine lv_iload hx hb dX11_first_77 (lv_at hl 2 rfl) ?_
                refine lv_irem hx hb dX11_first_79 (fun q => by have q := xI_eq (Y := 0) rfl rfl q; omega) ?_
                refine lv_topi (fun y_27 ey_27 => ?_)
                refine lv_istore (lv' := [(7, .int y_27), (8, .int x_18), (6, .int y_13), (1, .int p0), (2, .int p1), (3, .int p2), (4, .int p3)]) hx hb dX11_first_80 hl (lt_b rfl) rfl (fun ls hl => ?_)
                obtain ⟨y_28, ey_28⟩ : ∃ q, q = x_18 + 1 := ⟨_, rfl⟩
                have ty_28 : y_28.toInt = x_18.toInt + 1 := xI_add rfl rfl ey_28 ((by first | exact ok_21 f_22.1 | omega)) ((by first | exact ok_509 f_22.2 | omega))
                refine lv_iinc (v := y_28) (lv' := [(8, .int y_28), (7, .int y_27), (6, .int y_13), (1, .int p0), (2, .int p1), (3, .int p2), (4, .int p3)]) hx hb dX11_first_82 hl (k := 1) rfl (by rw [ey_28]; rfl) (lt_b rfl) rfl (fun ls hl => ?_)
                refine lv_goto (tgt := 50) hx hb dX11_first_85 rfl ?_
                exact ih_16 (69 - y_28.toInt : Int).toNat ((by first | (clear f_6 c_7 c_8 c_9 c_10; omega) | omega)) _ _ _ ⟨G_14, y_28, y_27, (Int.toNat_of_nonneg ((by first | exact ok_510 f_6.1 f_6.2 hp_4 c_7 ty_13 f_22.2 c_24 c_25 ty_28 | omega))), ⟨(by first | exact ok_23 f_22.1 ty_28 | omega), (by first | exact ok_511 f_6.1 f_6.2 hp_4 c_7 ty_13 f_22.2 c_24 c_25 ty_28 | omega)⟩, (hX_20.st (St_k_Wfirst_1_mk ⟨x_18, x_19, G_14, y_28, y_27, G_14, rfl, rfl, f_22, hB_G_14, ⟨c_24, (Or.inl ⟨c_25, ⟨y_26, ey_26, ⟨y_27, ey_27, ⟨y_28, ty_28, ⟨rfl, rfl, rfl⟩⟩⟩⟩⟩)⟩⟩)), hW, hB_G_14, hF, (Fr.call9 (rs := []) (fs := []) Fr.rf hq_15 rfl rfl), hS, lv_sub hl [0, 1, 2, 3, 4, 5, 6] rfl⟩
              · have c_25 : 0 < p1.toInt := xI_nle rfl rfl c_25
                refine lv_iload hx hb dX11_first_61 (lv_at hl 1 rfl) ?_
                refine lv_iload_n hx hb dX11_first_63 rfl (lv_at hl 5 rfl) ?_
                refine lv_iadd hx hb dX11_first_64 ?_
                refine lv_topi (fun y_29 ey_29 => ?_)
                refine lv_iload_n hx hb dX11_first_65 rfl (lv_at hl 3 rfl) ?_
                refine lv_icmp_le (tgt := 72) hx hb dX11_first_66 rfl (fun c_30 => ?_) (fun c_30 => ?_)
                · have c_30 : y_29.toInt ≤ p0.toInt := xI_le rfl rfl c_30
                  refine lv_iload hx hb dX11_first_72 (lv_at hl 1 rfl) ?_
                  refine lv_iload hx hb dX11_first_74 (lv_at hl 6 rfl) ?_
                  refine lv_iadd hx hb dX11_first_76 ?_
                  refine lv_topi (fun y_31 ey_31 => ?_)
                  refine lv_iload hx hb dX11_first_77 (lv_at hl 2 rfl) ?_
                  refine lv_irem hx hb dX11_first_79 (fun q => by have q := xI_eq (Y := 0) rfl rfl q; omega) ?_
                  refine lv_topi (fun y_32 ey_32 => ?_)
                  refine lv_istore (lv' := [(7, .int y_32), (8, .int x_18), (6, .int y_13), (1, .int p0), (2, .int p1), (3, .int p2), (4, .int p3)]) hx hb dX11_first_80 hl (lt_b rfl) rfl (fun ls hl => ?_)
                  obtain ⟨y_33, ey_33⟩ : ∃ q, q = x_18 + 1 := ⟨_, rfl⟩
                  have ty_33 : y_33.toInt = x_18.toInt + 1 := xI_add rfl rfl ey_33 ((by first | exact ok_21 f_22.1 | omega)) ((by first | exact ok_509 f_22.2 | omega))
                  refine lv_iinc (v := y_33) (lv' := [(8, .int y_33), (7, .int y_32), (6, .int y_13), (1, .int p0), (2, .int p1), (3, .int p2), (4, .int p3)]) hx hb dX11_first_82 hl (k := 1) rfl (by rw [ey_33]; rfl) (lt_b rfl) rfl (fun ls hl => ?_)
                  refine lv_goto (tgt := 50) hx hb dX11_first_85 rfl ?_
                  exact ih_16 (69 - y_33.toInt : Int).toNat ((by first | (clear f_6 c_7 c_8 c_9 c_10; omega) | omega)) _ _ _ ⟨G_14, y_33, y_32, (Int.toNat_of_nonneg ((by first | exact ok_512 f_6.1 f_6.2 hp_4 c_7 ty_13 f_22.2 c_24 ty_33 | omega))), ⟨(by first | exact ok_23 f_22.1 ty_33 | omega), (by first | exact ok_513 f_6.1 f_6.2 hp_4 c_7 ty_13 f_22.2 c_24 ty_33 | omega)⟩, (hX_20.st (St_k_Wfirst_1_mk ⟨x_18, x_19, G_14, y_33, y_32, G_14, rfl, rfl, f_22, hB_G_14, ⟨c_24, (Or.inr ⟨c_25, ⟨y_29, ey_29, ⟨c_30, ⟨y_31, ey_31, ⟨y_32, ey_32, ⟨y_33, ty_33, ⟨rfl, rfl, rfl⟩⟩⟩⟩⟩⟩⟩)⟩⟩)), hW, hB_G_14, hF, (Fr.call9 (rs := []) (fs := []) Fr.rf hq_15 rfl rfl), hS, lv_sub hl [0, 1, 2, 3, 4, 5, 6] rfl⟩
                · have c_30 : p0.toInt < y_29.toInt := xI_nle rfl rfl c_30
                  refine lv_iload hx hb dX11_first_69 (lv_at hl 0 rfl) ?_
                  exact W.iret (v := x_18) hx hb hr (fun t ht _ => ⟨⟨x_18, G_14, rfl, (P_Wfirst_mk ⟨hB_G_14, hF, ⟨r_1, G_2, hX_5, (Or.inr ⟨c_7, (Or.inr ⟨c_8, (Or.inr ⟨c_9, (Or.inr ⟨c_10, ⟨y_11, ty_11, (Or.inl ⟨c_12, ⟨y_13, ty_13, ⟨x_18, x_19, G_14, hX_20, f_22, hB_G_14, hq_15, (Or.inr ⟨c_24, ⟨c_25, ⟨y_29, ey_29, ⟨c_30, ⟨rfl, rfl⟩⟩⟩⟩⟩)⟩⟩⟩)⟩⟩)⟩)⟩)⟩)⟩⟩), wd_t ht hW⟩, hS.F ht⟩) hS.2.2 dX11_first_71
          · have c_12 : y_11.toInt ≤ p4.toInt := xI_nlt rfl rfl c_12
            refine lv_bipush (v := (-2)) hx hb dX11_first_35 (by decide) ?_
            exact W.iret (v := (-2)) hx hb hr (fun t ht _ => ⟨⟨(-2), G_2, rfl, (P_Wfirst_mk ⟨hB_G_2, hF, ⟨r_1, G_2, hX_5, (Or.inr ⟨c_7, (Or.inr ⟨c_8, (Or.inr ⟨c_9, (Or.inr ⟨c_10, ⟨y_11, ty_11, (Or.inr ⟨c_12, ⟨rfl, rfl⟩⟩)⟩⟩)⟩)⟩)⟩)⟩⟩), wd_t ht hW⟩, hS.F ht⟩) hS.2.2 dX11_first_37

set_option maxHeartbeats 4000000 in
set_option maxRecDepth 100000 in
theorem k_Wbegin (l : Launch) (D : va_G) (k : KT) (A : Nat → Prop) (a : Nat → Nat) (z : SK) (G : GS) (p0 : Int32) (p1 : Int32) (p2 : Int32) (p3 : Int32)  : Met l yX11_begin (WS yX11_begin cX11_begin 5 (some .int)) ({ frames := 2, cells := 0, slots := 0, locals := 51 }) (va_Pc [.ref (a 0), .int p0, .int p1, .int p2, .int p3] (cW D k A a z G)) (va_Qi (fun (r : Int32) (G1 : GS) => P_Wbegin p0 p1 p2 p3 G r G1) (fun (G1 : GS) t => Wd D k A a G1 t.heap) A) 0 0 A := by
  refine Met.ofW (cc := cX11_begin) (maxL := 5) (ret := (some .int)) (by decide) rfl ?_
  intro p e s m args below meth c s₁ B hml hv
  obtain ⟨rfl, hW, hB_G, hK, hZ⟩ := hv
  have hx := B.exec
  have hb := B.bytes
  have hr := B.returns
  have hts := atoms_spec (ws := WS yX11_begin cX11_begin 5 (some .int)) B.pre
  have hgd : ∀ w ∈ gd, w ∈ WS yX11_begin cX11_begin 5 (some .int) := fun w h => List.mem_cons_of_mem _ h
  have hg : ∀ w ∈ gd, w.before _ s = true := fun w h => hts w (hgd w h)
  have hown : s.vm.findClass RX11 = some m.cls := findClass_of_methodNamed B.named
  have hS : va_S A s.heap s.heap [] := va_S.rf
  have hF : Fr [] [] G G := Fr.rf
  have hl := lv_entry ([.ref (a 0), .int p0, .int p1, .int p2, .int p3]) (n := 5) (Nat.le_of_ble_eq_true rfl)
  rw [lg_entry_eq]
  generalize (lg_sl ([.ref (a 0), .int p0, .int p1, .int p2, .int p3]) ++ List.replicate (5 - (lg_sl ([.ref (a 0), .int p0, .int p1, .int p2, .int p3])).length) Slot.unset).toArray = ls at hl ⊢
  have hl : lv_has ls 5 [(0, .ref (a 0)), (1, .int p0), (2, .int p1), (3, .int p2), (4, .int p3)] := hl
  refine lv_iload_n hx hb dX11_begin_0 rfl (lv_at hl 1 rfl) ?_
  refine lv_iload_n hx hb dX11_begin_1 rfl (lv_at hl 2 rfl) ?_
  refine lv_iload_n hx hb dX11_begin_2 rfl (lv_at hl 3 rfl) ?_
  refine S_calli (va_runS (As := [.int p0, .int p1, .int p2]) (rest := []) ⟨hx, hb, hml, hown, hts⟩ (k_endless l D k A a z G p0 p1 p2 ) (va_cwS 3 hts (gd_S hgd m1069 m1070 m117 m1071) rfl rfl rfl hd_X11_isEndless.2 ⟨Nat.le_of_ble_eq_true rfl, Nat.le_of_ble_eq_true rfl⟩) (pre_S hW hB_G hK hZ hS) rfl rfl hl.1 rfl (lv_room (Nat.le_of_ble_eq_true rfl)) dX11_begin_3 ⟨Nat.le_of_ble_eq_true rfl, Nat.le_of_ble_eq_true rfl⟩) hS (fun r_1 G_2 H locs hpo hW hS => ?_)
  have hX_5 : P_endless p0 p1 p2 G r_1 G_2 := hpo
  obtain ⟨hB_G_2, hq_3, f_6, hp_4, -⟩ := hpo
  have hF := hF.call9 hq_3 rfl rfl
  refine lv_if_eq (tgt := 22) hx hb dX11_begin_6 rfl (fun c_7 => ?_) (fun c_7 => ?_)
  · have c_7 : r_1.toInt = 0 := xI_eq rfl rfl c_7
    refine ic_m1 hx hb dX11_begin_22 ?_
    exact W.iret (v := (-1)) hx hb hr (fun t ht _ => ⟨⟨(-1), G_2, rfl, (P_Wbegin_mk ⟨hB_G_2, hF, ⟨r_1, G_2, hX_5, (Or.inl ⟨c_7, ⟨rfl, rfl⟩⟩)⟩⟩), wd_t ht hW⟩, hS.F ht⟩) hS.2.2 dX11_begin_23
  · have c_7 : r_1.toInt ≠ 0 := xI_ne rfl rfl c_7
    refine lv_iload hx hb dX11_begin_9 (lv_at hl 4 rfl) ?_
    refine ic_1 hx hb dX11_begin_11 ?_
    refine lv_icmp_lt (tgt := 22) hx hb dX11_begin_12 rfl (fun c_8 => ?_) (fun c_8 => ?_)
    · have c_8 : p3.toInt < 1 := xI_lt rfl rfl c_8
      refine ic_m1 hx hb dX11_begin_22 ?_
      exact W.iret (v := (-1)) hx hb hr (fun t ht _ => ⟨⟨(-1), G_2, rfl, (P_Wbegin_mk ⟨hB_G_2, hF, ⟨r_1, G_2, hX_5, (Or.inr ⟨c_7, (Or.inl ⟨c_8, ⟨rfl, rfl⟩⟩)⟩)⟩⟩), wd_t ht hW⟩, hS.F ht⟩) hS.2.2 dX11_begin_23
    · have c_8 : 1 ≤ p3.toInt := xI_nlt rfl rfl c_8
      refine lv_iload hx hb dX11_begin_15 (lv_at hl 4 rfl) ?_
      refine lv_bipush (v := 99) hx hb dX11_begin_17 (by decide) ?_
      refine lv_icmp_le (tgt := 24) hx hb dX11_begin_19 rfl (fun c_9 => ?_) (fun c_9 => ?_)
      · have c_9 : p3.toInt ≤ 99 := xI_le rfl rfl c_9
        refine lv_iload_n hx hb dX11_begin_24 rfl (lv_at hl 1 rfl) ?_
        refine lv_iload_n hx hb dX11_begin_25 rfl (lv_at hl 2 rfl) ?_
        refine lv_iload_n hx hb dX11_begin_26 rfl (lv_at hl 3 rfl) ?_
        refine lv_iload hx hb dX11_begin_27 (lv_at hl 4 rfl) ?_
        refine S_calli (va_runS (As := [.int p0, .int p1, .int p2, .int p3]) (rest := []) ⟨hx, hb, hml, hown, hts⟩ (k_begin l D k A a z G_2 p0 p1 p2 p3 ⟨(by first | exact ok_514 f_6.1 f_6.2 hp_4 c_7 | omega), (by first | exact ok_515 f_6.1 f_6.2 hp_4 c_7 | omega)⟩ ⟨(by first | exact ok_516 f_6.1 f_6.2 hp_4 c_7 | omega), (by first | exact ok_517 f_6.1 f_6.2 hp_4 c_7 | omega)⟩ ⟨(by first | exact ok_518 f_6.1 f_6.2 hp_4 c_7 | omega), (by first | exact ok_519 f_6.1 f_6.2 hp_4 c_7 | omega)⟩ ⟨(by first | exact c_8 | omega), (by first | exact c_9 | omega)⟩) (va_cwS 4 hts (gd_S hgd m1076 m1077 m117 m1078) rfl rfl rfl hd_X11_beginnings.2 ⟨Nat.le_of_ble_eq_true rfl, Nat.le_of_ble_eq_true rfl⟩) (pre_S hW hB_G_2 hK hZ hS) rfl rfl hl.1 rfl (lv_room (Nat.le_of_ble_eq_true rfl)) dX11_begin_29 ⟨Nat.le_of_ble_eq_true rfl, Nat.le_of_ble_eq_true rfl⟩) hS (fun r_10 G_11 H locs hpo hW hS => ?_)
        have hX_14 : P_begin p0 p1 p2 p3 G_2 r_10 G_11 := hpo
        obtain ⟨hB_G_11, hq_12, -⟩ := hpo
        have hF := hF.call9 hq_12 rfl rfl
        exact W.iret (v := r_10) hx hb hr (fun t ht _ => ⟨⟨r_10, G_11, rfl, (P_Wbegin_mk ⟨hB_G_11, hF, ⟨r_1, G_2, hX_5, (Or.inr ⟨c_7, (Or.inr ⟨c_8, (Or.inl ⟨c_9, ⟨r_10, G_11, hX_14, ⟨rfl, rfl⟩⟩⟩)⟩)⟩)⟩⟩), wd_t ht hW⟩, hS.F ht⟩) hS.2.2 dX11_begin_32
      · have c_9 : 99 < p3.toInt := xI_nle rfl rfl c_9
        refine ic_m1 hx hb dX11_begin_22 ?_
        exact W.iret (v := (-1)) hx hb hr (fun t ht _ => ⟨⟨(-1), G_2, rfl, (P_Wbegin_mk ⟨hB_G_2, hF, ⟨r_1, G_2, hX_5, (Or.inr ⟨c_7, (Or.inr ⟨c_8, (Or.inr ⟨c_9, ⟨rfl, rfl⟩⟩)⟩)⟩)⟩⟩), wd_t ht hW⟩, hS.F ht⟩) hS.2.2 dX11_begin_23

set_option maxHeartbeats 4000000 in
set_option maxRecDepth 100000 in
theorem k_Wsuits (l : Launch) (D : va_G) (k : KT) (A : Nat → Prop) (a : Nat → Nat) (z : SK) (G : GS) (p0 : Int32) (p1 : Int32) (p2 : Int32) (p3 : Int32) (p4 : Int32)  : Met l yX11_suits (WS yX11_suits cX11_suits 9 (some .long)) ({ frames := 2, cells := 0, slots := 0, locals := 51 }) (va_Pc [.ref (a 0), .int p0, .int p1, .int p2, .int p3, .int p4] (cW D k A a z G)) (va_Ql (fun (r : Int64) (G1 : GS) => P_Wsuits p0 p1 p2 p3 p4 G r G1) (fun (G1 : GS) t => Wd D k A a G1 t.heap) A) 0 0 A := by
  refine Met.ofW (cc := cX11_suits) (maxL := 9) (ret := (some .long)) (by decide) rfl ?_
  intro p e s m args below meth c s₁ B hml hv
  obtain ⟨rfl, hW, hB_G, hK, hZ⟩ := hv
  have hx := B.exec
  have hb := B.bytes
  have hr := B.returns
  have hts := atoms_spec (ws := WS yX11_suits cX11_suits 9 (some .long)) B.pre
  have hgd : ∀ w ∈ gd, w ∈ WS yX11_suits cX11_suits 9 (some .long) := fun w h => List.mem_cons_of_mem _ h
  have hg : ∀ w ∈ gd, w.before _ s = true := fun w h => hts w (hgd w h)
  have hown : s.vm.findClass RX11 = some m.cls := findClass_of_methodNamed B.named
  have hS : va_S A s.heap s.heap [] := va_S.rf
  have hF : Fr [] [] G G := Fr.rf
  have hl := lv_entry ([.ref (a 0), .int p0, .int p1, .int p2, .int p3, .int p4]) (n := 9) (Nat.le_of_ble_eq_true rfl)
  rw [lg_entry_eq]
  generalize (lg_sl ([.ref (a 0), .int p0, .int p1, .int p2, .int p3, .int p4]) ++ List.replicate (9 - (lg_sl ([.ref (a 0), .int p0, .int p1, .int p2, .int p3, .int p4])).length) Slot.unset).toArray = ls at hl ⊢
  have hl : lv_has ls 9 [(0, .ref (a 0)), (1, .int p0), (2, .int p1), (3, .int p2), (4, .int p3), (5, .int p4)] := hl
  refine lv_iload_n hx hb dX11_suits_0 rfl (lv_at hl 1 rfl) ?_
  refine lv_iload_n hx hb dX11_suits_1 rfl (lv_at hl 2 rfl) ?_
  refine lv_iload hx hb dX11_suits_2 (lv_at hl 5 rfl) ?_
  refine S_calli (va_runS (As := [.int p0, .int p1, .int p4]) (rest := []) ⟨hx, hb, hml, hown, hts⟩ (k_endless l D k A a z G p0 p1 p4 ) (va_cwS 3 hts (gd_S hgd m1069 m1070 m117 m1071) rfl rfl rfl hd_X11_isEndless.2 ⟨Nat.le_of_ble_eq_true rfl, Nat.le_of_ble_eq_true rfl⟩) (pre_S hW hB_G hK hZ hS) rfl rfl hl.1 rfl (lv_room (Nat.le_of_ble_eq_true rfl)) dX11_suits_4 ⟨Nat.le_of_ble_eq_true rfl, Nat.le_of_ble_eq_true rfl⟩) hS (fun r_1 G_2 H locs hpo hW hS => ?_)
  have hX_5 : P_endless p0 p1 p4 G r_1 G_2 := hpo
  obtain ⟨hB_G_2, hq_3, f_6, hp_4, -⟩ := hpo
  have hF := hF.call9 hq_3 rfl rfl
  refine lv_if_eq (tgt := 21) hx hb dX11_suits_7 rfl (fun c_7 => ?_) (fun c_7 => ?_)
  · have c_7 : r_1.toInt = 0 := xI_eq rfl rfl c_7
    refine lv_ldc2 (v := (-1)) hx hb hown (hg (Cond.constantLong RX11 165 (-1)) m1018) dX11_suits_21 ?_
    exact W.lret (v := (-1)) hx hb hr (fun t ht _ => ⟨⟨(-1), G_2, rfl, (P_Wsuits_mk ⟨hB_G_2, hF, ⟨r_1, G_2, hX_5, (Or.inl ⟨c_7, ⟨rfl, rfl⟩⟩)⟩⟩), wd_t ht hW⟩, hS.F ht⟩) hS.2.2 dX11_suits_24
  · have c_7 : r_1.toInt ≠ 0 := xI_ne rfl rfl c_7
    refine lv_iload_n hx hb dX11_suits_10 rfl (lv_at hl 3 rfl) ?_
    refine lv_iload hx hb dX11_suits_11 (lv_at hl 4 rfl) ?_
    refine lv_iload hx hb dX11_suits_13 (lv_at hl 5 rfl) ?_
    refine S_calli (va_runS (As := [.int p2, .int p3, .int p4]) (rest := []) ⟨hx, hb, hml, hown, hts⟩ (k_endless l D k A a z G_2 p2 p3 p4 ) (va_cwS 3 hts (gd_S hgd m1069 m1070 m117 m1071) rfl rfl rfl hd_X11_isEndless.2 ⟨Nat.le_of_ble_eq_true rfl, Nat.le_of_ble_eq_true rfl⟩) (pre_S hW hB_G_2 hK hZ hS) rfl rfl hl.1 rfl (lv_room (Nat.le_of_ble_eq_true rfl)) dX11_suits_15 ⟨Nat.le_of_ble_eq_true rfl, Nat.le_of_ble_eq_true rfl⟩) hS (fun r_8 G_9 H locs hpo hW hS => ?_)
    have hX_12 : P_endless p2 p3 p4 G_2 r_8 G_9 := hpo
    obtain ⟨hB_G_9, hq_10, f_13, hp_11, -⟩ := hpo
    have hF := hF.call9 hq_10 rfl rfl
    refine lv_if_ne (tgt := 25) hx hb dX11_suits_18 rfl (fun c_14 => ?_) (fun c_14 => ?_)
    · have c_14 : r_8.toInt ≠ 0 := xI_ne rfl rfl c_14
      refine lv_lconst (v := 0) hx hb dX11_suits_25 (by decide) ?_
      refine lv_lstore (lv' := [(6, .long 0), (0, .ref (a 0)), (1, .int p0), (2, .int p1), (3, .int p2), (4, .int p3), (5, .int p4)]) hx hb dX11_suits_26 hl (lt_b rfl) rfl (fun ls hl => ?_)
      refine ic_1 hx hb dX11_suits_28 ?_
      refine lv_istore (lv' := [(8, .int 1), (6, .long 0), (0, .ref (a 0)), (1, .int p0), (2, .int p1), (3, .int p2), (4, .int p3), (5, .int p4)]) hx hb dX11_suits_29 hl (lt_b rfl) rfl (fun ls hl => ?_)
      have qc_22 : (1 : Int32).toInt = 1 := rfl
      refine loop_N (Inv := fun n H locs ls => ∃ (G_15 : GS) (x_19 : Int32) (x_20 : Int64), (n : Int) = 61 - x_19.toInt ∧ (1 ≤ x_19.toInt ∧ x_19.toInt ≤ 61) ∧ Rc (St_k_Wsuits_1 p0 p1 p2 p3 p4) (1, 0, G_9) (x_19, x_20, G_15) ∧ Wd D k A a G_15 H ∧ Bd G_15 ∧ Fr [] [] G G_15 ∧ Fr [] [] G_9 G_15 ∧ va_S A s.heap H locs ∧ lv_has ls 9 [(8, .int x_19), (6, .long x_20), (1, .int p0), (2, .int p1), (3, .int p2), (4, .int p3), (5, .int p4)]) (fun n_18 H locs ls ih_17 hI => ?_) (61 - 1 : Int).toNat ⟨G_9, 1, 0, (Int.toNat_of_nonneg ((by decide))), ⟨(by decide), (by decide)⟩, Rc.rf, hW, hB_G_9, hF, Fr.rf, hS, lv_sub hl [0, 1, 3, 4, 5, 6, 7] rfl⟩
      obtain ⟨G_15, x_19, x_20, hn_24, f_23, hX_21, hW, hB_G_15, hF, hq_16, hS, hl⟩ := hI
      refine lv_iload hx hb dX11_suits_31 (lv_at hl 0 rfl) ?_
      refine lv_bipush (v := 60) hx hb dX11_suits_33 (by decide) ?_
      refine lv_icmp_gt (tgt := 80) hx hb dX11_suits_35 rfl (fun c_25 => ?_) (fun c_25 => ?_)
      · have c_25 : 60 < x_19.toInt := xI_lt rfl rfl c_25
        refine lv_lload hx hb dX11_suits_80 (lv_at hl 1 rfl) ?_
        exact W.lret (v := x_20) hx hb hr (fun t ht _ => ⟨⟨x_20, G_15, rfl, (P_Wsuits_mk ⟨hB_G_15, hF, ⟨r_1, G_2, hX_5, (Or.inr ⟨c_7, ⟨r_8, G_9, hX_12, (Or.inr ⟨c_14, ⟨x_19, x_20, G_15, hX_21, f_23, hB_G_15, hq_16, ⟨c_25, ⟨rfl, rfl⟩⟩⟩⟩)⟩⟩)⟩⟩), wd_t ht hW⟩, hS.F ht⟩) hS.2.2 dX11_suits_82
      · have c_25 : x_19.toInt ≤ 60 := xI_nlt rfl rfl c_25
        refine lv_iload_n hx hb dX11_suits_38 rfl (lv_at hl 2 rfl) ?_
        refine lv_iload_n hx hb dX11_suits_39 rfl (lv_at hl 3 rfl) ?_
        refine lv_iload hx hb dX11_suits_40 (lv_at hl 6 rfl) ?_
        refine lv_iload hx hb dX11_suits_42 (lv_at hl 0 rfl) ?_
        refine S_calli (va_runS (As := [.int p0, .int p1, .int p4, .int x_19]) (rest := []) ⟨hx, hb, hml, hown, hts⟩ (k_begin l D k A a z G_15 p0 p1 p4 x_19 ⟨(by first | exact ok_514 f_6.1 f_6.2 hp_4 c_7 | omega), (by first | exact ok_515 f_6.1 f_6.2 hp_4 c_7 | omega)⟩ ⟨(by first | exact ok_516 f_6.1 f_6.2 hp_4 c_7 | omega), (by first | exact ok_517 f_6.1 f_6.2 hp_4 c_7 | omega)⟩ ⟨(by first | exact ok_518 f_6.1 f_6.2 hp_4 c_7 | omega), (by first | exact ok_519 f_6.1 f_6.2 hp_4 c_7 | omega)⟩ ⟨(by first | exact f_23.1 | omega), (by first | exact ok_520 f_23.2 | omega)⟩) (va_cwS 4 hts (gd_S hgd m1076 m1077 m117 m1078) rfl rfl rfl hd_X11_beginnings.2 ⟨Nat.le_of_ble_eq_true rfl, Nat.le_of_ble_eq_true rfl⟩) (pre_S hW hB_G_15 hK hZ hS) rfl rfl hl.1 rfl (lv_room (Nat.le_of_ble_eq_true rfl)) dX11_suits_44 ⟨Nat.le_of_ble_eq_true rfl, Nat.le_of_ble_eq_true rfl⟩) hS (fun r_26 G_27 H locs hpo hW hS => ?_)
        have hX_30 : P_begin p0 p1 p4 x_19 G_15 r_26 G_27 := hpo
        obtain ⟨hB_G_27, hq_28, -⟩ := hpo
        have hF := hF.call9 hq_28 rfl rfl
        refine lv_if_eq (tgt := 74) hx hb dX11_suits_47 rfl (fun c_31 => ?_) (fun c_31 => ?_)
        · have c_31 : r_26.toInt = 0 := xI_eq rfl rfl c_31
          obtain ⟨y_32, ey_32⟩ : ∃ q, q = x_19 + 1 := ⟨_, rfl⟩
          have ty_32 : y_32.toInt = x_19.toInt + 1 := xI_add rfl rfl ey_32 ((by first | exact ok_237 f_23.1 | omega)) ((by first | exact ok_256 f_23.2 | omega))
          refine lv_iinc (v := y_32) (lv' := [(8, .int y_32), (6, .long x_20), (1, .int p0), (2, .int p1), (3, .int p2), (4, .int p3), (5, .int p4)]) hx hb dX11_suits_74 hl (k := 0) rfl (by rw [ey_32]; rfl) (lt_b rfl) rfl (fun ls hl => ?_)
          refine lv_goto (tgt := 31) hx hb dX11_suits_77 rfl ?_
          exact ih_17 (61 - y_32.toInt : Int).toNat ((by first | (clear f_6 hp_4 c_7 f_13 hp_11 c_14 c_31; omega) | omega)) _ _ _ ⟨G_27, y_32, x_20, (Int.toNat_of_nonneg ((by first | exact ok_521 f_23.2 c_25 ty_32 | omega))), ⟨(by first | exact ok_240 f_23.1 ty_32 | omega), (by first | exact ok_522 f_23.2 c_25 ty_32 | omega)⟩, (hX_21.st (St_k_Wsuits_1_mk ⟨x_19, x_20, G_15, y_32, x_20, G_27, rfl, rfl, f_23, hB_G_15, ⟨c_25, ⟨r_26, G_27, hX_30, (Or.inl ⟨c_31, ⟨y_32, ty_32, ⟨rfl, rfl, rfl⟩⟩⟩)⟩⟩⟩)), hW, hB_G_27, hF, (Fr.call9 (rs := []) (fs := []) (Fr.call9 (rs := []) (fs := []) Fr.rf hq_16 rfl rfl) hq_28 rfl rfl), hS, lv_sub hl [0, 1, 2, 3, 4, 5, 6] rfl⟩
        · have c_31 : r_26.toInt ≠ 0 := xI_ne rfl rfl c_31
          refine lv_iload_n hx hb dX11_suits_50 rfl (lv_at hl 4 rfl) ?_
          refine lv_iload hx hb dX11_suits_51 (lv_at hl 5 rfl) ?_
          refine lv_iload hx hb dX11_suits_53 (lv_at hl 6 rfl) ?_
          refine lv_iload hx hb dX11_suits_55 (lv_at hl 0 rfl) ?_
          refine S_calli (va_runS (As := [.int p2, .int p3, .int p4, .int x_19]) (rest := []) ⟨hx, hb, hml, hown, hts⟩ (k_begin l D k A a z G_27 p2 p3 p4 x_19 ⟨(by first | exact ok_514 f_13.1 f_13.2 hp_11 c_14 | omega), (by first | exact ok_515 f_13.1 f_13.2 hp_11 c_14 | omega)⟩ ⟨(by first | exact ok_516 f_13.1 f_13.2 hp_11 c_14 | omega), (by first | exact ok_517 f_13.1 f_13.2 hp_11 c_14 | omega)⟩ ⟨(by first | exact ok_518 f_6.1 f_6.2 hp_4 c_7 | omega), (by first | exact ok_519 f_6.1 f_6.2 hp_4 c_7 | omega)⟩ ⟨(by first | exact f_23.1 | omega), (by first | exact ok_520 f_23.2 | omega)⟩) (va_cwS 4 hts (gd_S hgd m1076 m1077 m117 m1078) rfl rfl rfl hd_X11_beginnings.2 ⟨Nat.le_of_ble_eq_true rfl, Nat.le_of_ble_eq_true rfl⟩) (pre_S hW hB_G_27 hK hZ hS) rfl rfl hl.1 rfl (lv_room (Nat.le_of_ble_eq_true rfl)) dX11_suits_57 ⟨Nat.le_of_ble_eq_true rfl, Nat.le_of_ble_eq_true rfl⟩) hS (fun r_33 G_34 H locs hpo hW hS => ?_)
          have hX_37 : P_begin p2 p3 p4 x_19 G_27 r_33 G_34 := hpo
          obtain ⟨hB_G_34, hq_35, -⟩ := hpo
          have hF := hF.call9 hq_35 rfl rfl
          refine lv_if_eq (tgt := 74) hx hb dX11_suits_60 rfl (fun c_38 => ?_) (fun c_38 => ?_)
          · have c_38 : r_33.toInt = 0 := xI_eq rfl rfl c_38
            obtain ⟨y_39, ey_39⟩ : ∃ q, q = x_19 + 1 := ⟨_, rfl⟩
            have ty_39 : y_39.toInt = x_19.toInt + 1 := xI_add rfl rfl ey_39 ((by first | exact ok_237 f_23.1 | omega)) ((by first | exact ok_256 f_23.2 | omega))
            refine lv_iinc (v := y_39) (lv' := [(8, .int y_39), (6, .long x_20), (1, .int p0), (2, .int p1), (3, .int p2), (4, .int p3), (5, .int p4)]) hx hb dX11_suits_74 hl (k := 0) rfl (by rw [ey_39]; rfl) (lt_b rfl) rfl (fun ls hl => ?_)
            refine lv_goto (tgt := 31) hx hb dX11_suits_77 rfl ?_
            exact ih_17 (61 - y_39.toInt : Int).toNat ((by first | (clear f_6 hp_4 c_7 f_13 hp_11 c_14 c_31 c_38; omega) | omega)) _ _ _ ⟨G_34, y_39, x_20, (Int.toNat_of_nonneg ((by first | exact ok_521 f_23.2 c_25 ty_39 | omega))), ⟨(by first | exact ok_240 f_23.1 ty_39 | omega), (by first | exact ok_522 f_23.2 c_25 ty_39 | omega)⟩, (hX_21.st (St_k_Wsuits_1_mk ⟨x_19, x_20, G_15, y_39, x_20, G_34, rfl, rfl, f_23, hB_G_15, ⟨c_25, ⟨r_26, G_27, hX_30, (Or.inr ⟨c_31, ⟨r_33, G_34, hX_37, (Or.inl ⟨c_38, ⟨y_39, ty_39, ⟨rfl, rfl, rfl⟩⟩⟩)⟩⟩)⟩⟩⟩)), hW, hB_G_34, hF, (Fr.call9 (rs := []) (fs := []) (Fr.call9 (rs := []) (fs := []) (Fr.call9 (rs := []) (fs := []) Fr.rf hq_16 rfl rfl) hq_28 rfl rfl) hq_35 rfl rfl), hS, lv_sub hl [0, 1, 2, 3, 4, 5, 6] rfl⟩
          · have c_38 : r_33.toInt ≠ 0 := xI_ne rfl rfl c_38
            refine lv_lload hx hb dX11_suits_63 (lv_at hl 1 rfl) ?_
            refine lv_lconst (v := 1) hx hb dX11_suits_65 (by decide) ?_
            refine lv_iload hx hb dX11_suits_66 (lv_at hl 0 rfl) ?_
            refine ic_1 hx hb dX11_suits_68 ?_
            refine lv_isub hx hb dX11_suits_69 ?_
            refine lv_topi (fun y_40 ey_40 => ?_)
            have ty_40 : y_40.toInt = x_19.toInt - 1 := xI_sub rfl rfl ey_40 ((by first | exact ok_275 f_23.1 | omega)) ((by first | exact ok_523 f_23.2 | omega))
            refine lv_lshl hx hb dX11_suits_70 rfl ?_
            refine lv_topl (fun y_41 ey_41 => ?_)
            refine lv_lor hx hb dX11_suits_71 ?_
            refine lv_topl (fun y_42 ey_42 => ?_)
            refine lv_lstore (lv' := [(6, .long y_42), (8, .int x_19), (1, .int p0), (2, .int p1), (3, .int p2), (4, .int p3), (5, .int p4)]) hx hb dX11_suits_72 hl (lt_b rfl) rfl (fun ls hl => ?_)
            obtain ⟨y_43, ey_43⟩ : ∃ q, q = x_19 + 1 := ⟨_, rfl⟩
            have ty_43 : y_43.toInt = x_19.toInt + 1 := xI_add rfl rfl ey_43 ((by first | exact ok_237 f_23.1 | omega)) ((by first | exact ok_256 f_23.2 | omega))
            refine lv_iinc (v := y_43) (lv' := [(8, .int y_43), (6, .long y_42), (1, .int p0), (2, .int p1), (3, .int p2), (4, .int p3), (5, .int p4)]) hx hb dX11_suits_74 hl (k := 1) rfl (by rw [ey_43]; rfl) (lt_b rfl) rfl (fun ls hl => ?_)
            refine lv_goto (tgt := 31) hx hb dX11_suits_77 rfl ?_
            exact ih_17 (61 - y_43.toInt : Int).toNat ((by first | (clear f_6 hp_4 c_7 f_13 hp_11 c_14 c_31 c_38; omega) | omega)) _ _ _ ⟨G_34, y_43, y_42, (Int.toNat_of_nonneg ((by first | exact ok_521 f_23.2 c_25 ty_43 | omega))), ⟨(by first | exact ok_240 f_23.1 ty_43 | omega), (by first | exact ok_522 f_23.2 c_25 ty_43 | omega)⟩, (hX_21.st (St_k_Wsuits_1_mk ⟨x_19, x_20, G_15, y_43, y_42, G_34, rfl, rfl, f_23, hB_G_15, ⟨c_25, ⟨r_26, G_27, hX_30, (Or.inr ⟨c_31, ⟨r_33, G_34, hX_37, (Or.inr ⟨c_38, ⟨y_40, ty_40, ⟨y_41, ey_41, ⟨y_42, ey_42, ⟨y_43, ty_43, ⟨rfl, rfl, rfl⟩⟩⟩⟩⟩⟩)⟩⟩)⟩⟩⟩)), hW, hB_G_34, hF, (Fr.call9 (rs := []) (fs := []) (Fr.call9 (rs := []) (fs := []) (Fr.call9 (rs := []) (fs := []) Fr.rf hq_16 rfl rfl) hq_28 rfl rfl) hq_35 rfl rfl), hS, lv_sub hl [0, 1, 2, 3, 4, 5, 6] rfl⟩
    · have c_14 : r_8.toInt = 0 := xI_eq rfl rfl c_14
      refine lv_ldc2 (v := (-1)) hx hb hown (hg (Cond.constantLong RX11 165 (-1)) m1018) dX11_suits_21 ?_
      exact W.lret (v := (-1)) hx hb hr (fun t ht _ => ⟨⟨(-1), G_9, rfl, (P_Wsuits_mk ⟨hB_G_9, hF, ⟨r_1, G_2, hX_5, (Or.inr ⟨c_7, ⟨r_8, G_9, hX_12, (Or.inl ⟨c_14, ⟨rfl, rfl⟩⟩)⟩⟩)⟩⟩), wd_t ht hW⟩, hS.F ht⟩) hS.2.2 dX11_suits_24
