

set_option maxHeartbeats 4000000 in
set_option maxRecDepth 100000 in
theorem k_wStart_2 (l : Launch) (D : va_G) (k : KT) (A : Nat → Prop) (a : Nat → Nat) (z : SK) (G : GS)  (hv_0_0 : G.2.2 0 0 = 2) : Met l yX11_startAnew (WS yX11_startAnew cX11_startAnew 1 none) ({ frames := 3, cells := 0, slots := 0, locals := 81 }) (va_Pc [.ref (a 0)] (cW D k A a z G)) (va_Qv (fun (G1 : GS) => P_wStart_2 G G1) (fun (G1 : GS) t => Wd D k A a G1 t.heap) A) 0 0 A := by
  refine Met.ofW (cc := cX11_startAnew) (maxL := 1) (ret := none) (by decide) rfl ?_
  intro p e s m args below meth c s₁ B hml hv
  obtain ⟨rfl, hW, hB_G, hK, hZ⟩ := hv
  have hx := B.exec
  have hb := B.bytes
  have hr := B.returns
  have hts := atoms_spec (ws := WS yX11_startAnew cX11_startAnew 1 none) B.pre
  have hgd : ∀ w ∈ gd, w ∈ WS yX11_startAnew cX11_startAnew 1 none := fun w h => List.mem_cons_of_mem _ h
  have hg : ∀ w ∈ gd, w.before _ s = true := fun w h => hts w (hgd w h)
  have hown : s.vm.findClass RX11 = some m.cls := findClass_of_methodNamed B.named
  have hS : va_S A s.heap s.heap [] := va_S.rf
  have hF : Fr [38, 58, 59] [(0, 12), (6, 4), (30, 3), (30, 4), (30, 5), (31, 5)] G G := Fr.rf
  have hl := lv_entry ([.ref (a 0)]) (n := 1) (Nat.le_of_ble_eq_true rfl)
  rw [lg_entry_eq]
  generalize (lg_sl ([.ref (a 0)]) ++ List.replicate (1 - (lg_sl ([.ref (a 0)])).length) Slot.unset).toArray = ls at hl ⊢
  have hl : lv_has ls 1 [(0, .ref (a 0))] := hl
  refine lv_aload_n hx hb dX11_startAnew_0 rfl (lv_at hl 0 rfl) ?_
  refine S_getR (n := 6) (C := RX11) (T := TX11) (N := 13) hx hb hg iX11 hown hK hW kd_0 rfl 4 (lt_b rfl) (hg (Cond.fieldLink RX11 37 "SlabWalk" "lines" "LSlabWalk$Lines;") m574) (fun _ h9 => h9) rfl dX11_startAnew_1 ?_
  refine lv_aload_n hx hb dX11_startAnew_4 rfl (lv_at hl 0 rfl) ?_
  refine S_getV (n := 2) (C := RX11) (T := TX11) (N := 13) hx hb hg iX11 hown hK hW kd_0 rfl 0 (lt_b rfl) (hg (Cond.fieldLink RX11 10 "SlabWalk" "paving" "LSlabWalk$Paving;") m570) (fun _ h9 => h9) rfl hv_0_0 dX11_startAnew_5 ?_
  refine S_callv (va_runV (As := [.ref (a 2)]) (rest := []) ⟨hx, hb, hml, hown, hts⟩ (k_lLookB_2 l D k A a z G  ) (cwV 1 hts (gd_V hgd m551 m552 m553 m122 m554) rfl rfl rfl hd_X3_lookAt ⟨Nat.le_of_ble_eq_true rfl, Nat.le_of_ble_eq_true rfl⟩) (pre_W hW hB_G hK hZ hS kd_6 rfl) rfl rfl hl.1 rfl (lv_room (Nat.le_of_ble_eq_true rfl)) dX11_startAnew_8 ⟨Nat.le_of_ble_eq_true rfl, Nat.le_of_ble_eq_true rfl⟩) hS (fun G_2 H locs hpo hW hS => ?_)
  have hX_5 : P_lLookB_2 G G_2 := hpo
  obtain ⟨hB_G_2, hq_3, hp_4, -⟩ := hpo
  have hF := hF.call9 hq_3 rfl rfl
  refine lv_aload_n hx hb dX11_startAnew_11 rfl (lv_at hl 0 rfl) ?_
  refine S_getR (n := 30) (C := RX11) (T := TX11) (N := 13) hx hb hg iX11 hown hK hW kd_0 rfl 8 (lt_b rfl) (hg (Cond.fieldLink RX11 65 "SlabWalk" "earnest" "LSlabWalk$Earnest;") m578) (fun _ h9 => h9) rfl dX11_startAnew_12 ?_
  refine lv_aload_n hx hb dX11_startAnew_15 rfl (lv_at hl 0 rfl) ?_
  refine S_getV (n := 2) (C := RX11) (T := TX11) (N := 13) hx hb hg iX11 hown hK hW kd_0 rfl 0 (lt_b rfl) (hg (Cond.fieldLink RX11 10 "SlabWalk" "paving" "LSlabWalk$Paving;") m570) (fun _ h9 => h9) rfl (((hq_3.r9 0 0 rfl rfl)).trans (hv_0_0)) dX11_startAnew_16 ?_
  have b_6 : 0 ≤ (G.1 2 16).toInt ∧ (G.1 2 16).toInt ≤ 999 := bd_2_16 hB_G
  refine S_getI (v := (G.1 2 16)) (C := RX6) (T := TX6) (N := 17) hx hb hg iX6 hown hK hW kd_2 rfl 16 (lt_b rfl) (hg (Cond.fieldLink RX11 323 "SlabWalk$Paving" "draw" "I") m209) (fun _ h9 => h9) rfl (hq_3.i9 2 16 rfl rfl) dX11_startAnew_19 ?_
  refine S_callv (va_runV (As := [.int (G.1 2 16)]) (rest := []) ⟨hx, hb, hml, hown, hts⟩ (k_eStart l D k A a z G_2 (G.1 2 16) ) (cwV 1 hts (gd_V hgd m558 m559 m560 m127 m561) rfl rfl rfl hd_X1_startAnew ⟨Nat.le_of_ble_eq_true rfl, Nat.le_of_ble_eq_true rfl⟩) (pre_W hW hB_G_2 hK hZ hS kd_30 rfl) rfl rfl hl.1 rfl (lv_room (Nat.le_of_ble_eq_true rfl)) dX11_startAnew_22 ⟨Nat.le_of_ble_eq_true rfl, Nat.le_of_ble_eq_true rfl⟩) hS (fun G_8 H locs hpo hW hS => ?_)
  have hX_11 : P_eStart (G.1 2 16) G_2 G_8 := hpo
  obtain ⟨hB_G_8, hq_9, hp_10, -⟩ := hpo
  have hF := hF.call9 hq_9 rfl rfl
  refine lv_aload_n hx hb dX11_startAnew_25 rfl (lv_at hl 0 rfl) ?_
  refine S_getR (n := 31) (C := RX11) (T := TX11) (N := 13) hx hb hg iX11 hown hK hW kd_0 rfl 9 (lt_b rfl) (hg (Cond.fieldLink RX11 72 "SlabWalk" "sights" "LSlabWalk$Sights;") m579) (fun _ h9 => h9) rfl dX11_startAnew_26 ?_
  refine ic_0 hx hb dX11_startAnew_29 ?_
  refine S_putI (ty := .int) (C := RX8) (T := TX8) (N := 7) hx hb hg iX8 tyX8 tyX8_ok nmX8 hown hK hW hS kd_31 rfl 5 (lt_b rfl) (hg (Cond.fieldLink RX11 285 "SlabWalk$Sights" "count" "I") m529) (fun _ h9 => h9) rfl (by decide +kernel) rfl rfl rfl dX11_startAnew_30 (fun G_12 H locs eG_12 hW hS => ?_)
  have hB_G_12 : Bd G_12 := hB_G_8.put (V := 0) (lo := 0) (hi := 20) eG_12 rfl rfl rfl (by decide) (by decide) (hB_G_8.2.put eG_12 rfl)
  have hF := hF.put eG_12 (Or.inr (by decide))
  refine lv_aload_n hx hb dX11_startAnew_33 rfl (lv_at hl 0 rfl) ?_
  refine ic_0 hx hb dX11_startAnew_34 ?_
  refine S_putI (ty := .int) (C := RX11) (T := TX11) (N := 13) hx hb hg iX11 tyX11 tyX11_ok nmX11 hown hK hW hS kd_0 rfl 12 (lt_b rfl) (hg (Cond.fieldLink RX11 150 "SlabWalk" "lie" "I") m582) (fun _ h9 => h9) rfl (by decide +kernel) rfl rfl rfl dX11_startAnew_35 (fun G_13 H locs eG_13 hW hS => ?_)
  have hB_G_13 : Bd G_13 := hB_G_12.put (V := 0) (lo := 0) (hi := 400) eG_13 rfl rfl rfl (by decide) (by decide) (hB_G_12.2.put eG_13 rfl)
  have hF := hF.put eG_13 (Or.inr (by decide))
  have b_14 : 0 ≤ (G_8.1 30 4).toInt ∧ (G_8.1 30 4).toInt ≤ 40 := bd_30_4 hB_G_8
  have g_15 : (G_13.1 30 4).toInt = (G_8.1 30 4).toInt := (congrArg Int32.toInt (show G_13.1 30 4 = (G_8.1 30 4) from ((gp_ne eG_13 (by decide)).trans (gp_ne eG_12 (by decide)))))
  have b_16 : 0 ≤ (G_8.1 30 5).toInt ∧ (G_8.1 30 5).toInt ≤ 40 := bd_30_5 hB_G_8
  have g_17 : (G_13.1 30 5).toInt = (G_8.1 30 5).toInt := (congrArg Int32.toInt (show G_13.1 30 5 = (G_8.1 30 5) from ((gp_ne eG_13 (by decide)).trans (gp_ne eG_12 (by decide)))))
  exact W.vret hx hb hr (fun t ht _ => ⟨⟨G_13, rfl, (P_wStart_2_mk ⟨hB_G_13, hF, (⟨by omega, (((congrFun (congrFun (congrArg (fun q => q.2.2) eG_13) 6) 4).trans ((congrFun (congrFun (congrArg (fun q => q.2.2) eG_12) 6) 4).trans (hq_9.r9 6 4 rfl rfl)))).trans hp_4⟩), ⟨G_2, hX_5, ⟨G_8, hX_11, ⟨(Fr.put (rs := []) (fs := [(0, 12), (31, 5)]) (Fr.put (rs := []) (fs := [(0, 12), (31, 5)]) Fr.rf eG_12 (Or.inr (by decide))) eG_13 (Or.inr (by decide))), (gp_eq eG_13), ((gp_ne eG_13 (by decide)).trans (gp_eq eG_12))⟩⟩⟩⟩), wd_t ht hW⟩, hS.F ht⟩) hS.2.2 dX11_startAnew_38

set_option maxHeartbeats 4000000 in
set_option maxRecDepth 100000 in
theorem k_wAsk_2 (l : Launch) (D : va_G) (k : KT) (A : Nat → Prop) (a : Nat → Nat) (z : SK) (G : GS) (p0 : Int32) (p1 : Int32) (p2 : Int32) (hv_0_0 : G.2.2 0 0 = 2) (hv_0_1 : G.2.2 0 1 = 1) (hv_6_4 : G.2.2 6 4 = 2) : Met l yX11_canAsk (WS yX11_canAsk cX11_canAsk 4 (some .boolean)) ({ frames := 1, cells := 0, slots := 0, locals := 21 }) (va_Pc [.ref (a 0), .int p0, .int p1, .int p2] (cW D k A a z G)) (va_Qi (fun (r : Int32) (G1 : GS) => P_wAsk_2 p0 p1 p2 G r G1) (fun (G1 : GS) t => Wd D k A a G1 t.heap) A) 0 0 A := by
  refine Met.ofW (cc := cX11_canAsk) (maxL := 4) (ret := (some .boolean)) (by decide) rfl ?_
  intro p e s m args below meth c s₁ B hml hv
  obtain ⟨rfl, hW, hB_G, hK, hZ⟩ := hv
  have hx := B.exec
  have hb := B.bytes
  have hr := B.returns
  have hts := atoms_spec (ws := WS yX11_canAsk cX11_canAsk 4 (some .boolean)) B.pre
  have hgd : ∀ w ∈ gd, w ∈ WS yX11_canAsk cX11_canAsk 4 (some .boolean) := fun w h => List.mem_cons_of_mem _ h
  have hg : ∀ w ∈ gd, w.before _ s = true := fun w h => hts w (hgd w h)
  have hown : s.vm.findClass RX11 = some m.cls := findClass_of_methodNamed B.named
  have hS : va_S A s.heap s.heap [] := va_S.rf
  have hF : Fr [] [] G G := Fr.rf
  have hl := lv_entry ([.ref (a 0), .int p0, .int p1, .int p2]) (n := 4) (Nat.le_of_ble_eq_true rfl)
  rw [lg_entry_eq]
  generalize (lg_sl ([.ref (a 0), .int p0, .int p1, .int p2]) ++ List.replicate (4 - (lg_sl ([.ref (a 0), .int p0, .int p1, .int p2])).length) Slot.unset).toArray = ls at hl ⊢
  have hl : lv_has ls 4 [(0, .ref (a 0)), (1, .int p0), (2, .int p1), (3, .int p2)] := hl
  refine lv_aload_n hx hb dX11_canAsk_0 rfl (lv_at hl 0 rfl) ?_
  refine S_getV (n := 2) (C := RX11) (T := TX11) (N := 13) hx hb hg iX11 hown hK hW kd_0 rfl 0 (lt_b rfl) (hg (Cond.fieldLink RX11 10 "SlabWalk" "paving" "LSlabWalk$Paving;") m570) (fun _ h9 => h9) rfl hv_0_0 dX11_canAsk_1 ?_
  refine lv_iload_n hx hb dX11_canAsk_4 rfl (lv_at hl 1 rfl) ?_
  refine S_calli (va_runV (As := [.int p0]) (rest := []) ⟨hx, hb, hml, hown, hts⟩ (k_hasWalker_2 l D k A a z G p0 ) (cwV 1 hts (gd_V hgd m957 m958 m959 m118 m960) rfl rfl rfl hd_X6_hasWalker ⟨Nat.le_of_ble_eq_true rfl, Nat.le_of_ble_eq_true rfl⟩) (pre_W hW hB_G hK hZ hS kd_2 rfl) rfl rfl hl.1 rfl (lv_room (Nat.le_of_ble_eq_true rfl)) dX11_canAsk_5 ⟨Nat.le_of_ble_eq_true rfl, Nat.le_of_ble_eq_true rfl⟩) hS (fun r_1 G_2 H locs hpo hW hS => ?_)
  have hX_5 : P_hasWalker_2 p0 G r_1 G_2 := hpo
  obtain ⟨hB_G_2, hq_3, f_6, hp_4, -⟩ := hpo
  have hF := hF.call9 hq_3 rfl rfl
  refine lv_if_eq (tgt := 37) hx hb dX11_canAsk_8 rfl (fun c_7 => ?_) (fun c_7 => ?_)
  · have c_7 : r_1.toInt = 0 := xI_eq rfl rfl c_7
    refine ic_0 hx hb dX11_canAsk_37 ?_
    exact W.zret (v := 0) hx hb hr (by decide) (fun t ht _ => ⟨⟨0, G_2, rfl, (P_wAsk_2_mk ⟨hB_G_2, hF, ⟨by decide, by decide⟩, (by have hq : (0 : Int32).toInt = 0 := rfl; (try dsimp only); omega), ⟨r_1, G_2, hX_5, (Or.inl ⟨c_7, ⟨rfl, rfl⟩⟩)⟩⟩), wd_t ht hW⟩, hS.F ht⟩) hS.2.2 dX11_canAsk_38
  · have c_7 : r_1.toInt ≠ 0 := xI_ne rfl rfl c_7
    refine lv_aload_n hx hb dX11_canAsk_11 rfl (lv_at hl 0 rfl) ?_
    refine S_getV (n := 2) (C := RX11) (T := TX11) (N := 13) hx hb hg iX11 hown hK hW kd_0 rfl 0 (lt_b rfl) (hg (Cond.fieldLink RX11 10 "SlabWalk" "paving" "LSlabWalk$Paving;") m570) (fun _ h9 => h9) rfl (((hq_3.r9 0 0 rfl rfl)).trans (hv_0_0)) dX11_canAsk_12 ?_
    refine lv_iload_n hx hb dX11_canAsk_15 rfl (lv_at hl 2 rfl) ?_
    have b_8 : 0 ≤ (G.1 2 9).toInt ∧ (G.1 2 9).toInt ≤ 3 := bd_2_9 hB_G
    have g_9 : (G_2.1 2 9).toInt = (G.1 2 9).toInt := (congrArg Int32.toInt (show G_2.1 2 9 = (G.1 2 9) from (hq_3.i9 2 9 rfl rfl)))
    refine S_calli (va_runV (As := [.int p1]) (rest := []) ⟨hx, hb, hml, hown, hts⟩ (k_hasStreet_2 l D k A a z G_2 p1 ) (cwV 1 hts (gd_V hgd m902 m887 m888 m118 m889) rfl rfl rfl hd_X6_hasStreet ⟨Nat.le_of_ble_eq_true rfl, Nat.le_of_ble_eq_true rfl⟩) (pre_W hW hB_G_2 hK hZ hS kd_2 rfl) rfl rfl hl.1 rfl (lv_room (Nat.le_of_ble_eq_true rfl)) dX11_canAsk_16 ⟨Nat.le_of_ble_eq_true rfl, Nat.le_of_ble_eq_true rfl⟩) hS (fun r_10 G_11 H locs hpo hW hS => ?_)
    have hX_14 : P_hasStreet_2 p1 G_2 r_10 G_11 := hpo
    obtain ⟨hB_G_11, hq_12, f_15, hp_13, -⟩ := hpo
    have hF := hF.call9 hq_12 rfl rfl
    refine lv_if_eq (tgt := 37) hx hb dX11_canAsk_19 rfl (fun c_16 => ?_) (fun c_16 => ?_)
    · have c_16 : r_10.toInt = 0 := xI_eq rfl rfl c_16
      refine ic_0 hx hb dX11_canAsk_37 ?_
      exact W.zret (v := 0) hx hb hr (by decide) (fun t ht _ => ⟨⟨0, G_11, rfl, (P_wAsk_2_mk ⟨hB_G_11, hF, ⟨by decide, by decide⟩, (by have hq : (0 : Int32).toInt = 0 := rfl; (try dsimp only); omega), ⟨r_1, G_2, hX_5, (Or.inr ⟨c_7, ⟨r_10, G_11, hX_14, (Or.inl ⟨c_16, ⟨rfl, rfl⟩⟩)⟩⟩)⟩⟩), wd_t ht hW⟩, hS.F ht⟩) hS.2.2 dX11_canAsk_38
    · have c_16 : r_10.toInt ≠ 0 := xI_ne rfl rfl c_16
      refine lv_aload_n hx hb dX11_canAsk_22 rfl (lv_at hl 0 rfl) ?_
      refine S_getV (n := 2) (C := RX11) (T := TX11) (N := 13) hx hb hg iX11 hown hK hW kd_0 rfl 0 (lt_b rfl) (hg (Cond.fieldLink RX11 10 "SlabWalk" "paving" "LSlabWalk$Paving;") m570) (fun _ h9 => h9) rfl ((((hq_12.r9 0 0 rfl rfl).trans (hq_3.r9 0 0 rfl rfl))).trans (hv_0_0)) dX11_canAsk_23 ?_
      refine lv_iload_n hx hb dX11_canAsk_26 rfl (lv_at hl 3 rfl) ?_
      refine S_calli (va_runV (As := [.int p2]) (rest := []) ⟨hx, hb, hml, hown, hts⟩ (k_hasSet_2 l D k A a z G_11 p2 ) (cwV 1 hts (gd_V hgd m907 m908 m909 m118 m910) rfl rfl rfl hd_X6_hasSet ⟨Nat.le_of_ble_eq_true rfl, Nat.le_of_ble_eq_true rfl⟩) (pre_W hW hB_G_11 hK hZ hS kd_2 rfl) rfl rfl hl.1 rfl (lv_room (Nat.le_of_ble_eq_true rfl)) dX11_canAsk_27 ⟨Nat.le_of_ble_eq_true rfl, Nat.le_of_ble_eq_true rfl⟩) hS (fun r_17 G_18 H locs hpo hW hS => ?_)
      have hX_21 : P_hasSet_2 p2 G_11 r_17 G_18 := hpo
      obtain ⟨hB_G_18, hq_19, f_22, hp_20, -⟩ := hpo
      have hF := hF.call9 hq_19 rfl rfl
      refine lv_if_eq (tgt := 37) hx hb dX11_canAsk_30 rfl (fun c_23 => ?_) (fun c_23 => ?_)
      · have c_23 : r_17.toInt = 0 := xI_eq rfl rfl c_23
        refine ic_0 hx hb dX11_canAsk_37 ?_
        exact W.zret (v := 0) hx hb hr (by decide) (fun t ht _ => ⟨⟨0, G_18, rfl, (P_wAsk_2_mk ⟨hB_G_18, hF, ⟨by decide, by decide⟩, (by have hq : (0 : Int32).toInt = 0 := rfl; (try dsimp only); omega), ⟨r_1, G_2, hX_5, (Or.inr ⟨c_7, ⟨r_10, G_11, hX_14, (Or.inr ⟨c_16, ⟨r_17, G_18, hX_21, (Or.inl ⟨c_23, ⟨rfl, rfl⟩⟩)⟩⟩)⟩⟩)⟩⟩), wd_t ht hW⟩, hS.F ht⟩) hS.2.2 dX11_canAsk_38
      · have c_23 : r_17.toInt ≠ 0 := xI_ne rfl rfl c_23
        refine ic_1 hx hb dX11_canAsk_33 ?_
        refine lv_goto (tgt := 38) hx hb dX11_canAsk_34 rfl ?_
        exact W.zret (v := 1) hx hb hr (by decide) (fun t ht _ => ⟨⟨1, G_18, rfl, (P_wAsk_2_mk ⟨hB_G_18, hF, ⟨by decide, by decide⟩, (by have hq : (1 : Int32).toInt = 1 := rfl; (try dsimp only); omega), ⟨r_1, G_2, hX_5, (Or.inr ⟨c_7, ⟨r_10, G_11, hX_14, (Or.inr ⟨c_16, ⟨r_17, G_18, hX_21, (Or.inr ⟨c_23, ⟨rfl, rfl⟩⟩)⟩⟩)⟩⟩)⟩⟩), wd_t ht hW⟩, hS.F ht⟩) hS.2.2 dX11_canAsk_38

set_option maxHeartbeats 4000000 in
set_option maxRecDepth 100000 in
theorem k_wBrave_2 (l : Launch) (D : va_G) (k : KT) (A : Nat → Prop) (a : Nat → Nat) (z : SK) (G : GS) (p0 : Int32) (p1 : Int32) (p2 : Int32) (p3 : Int32) (p4 : Int32) (hv_0_0 : G.2.2 0 0 = 2) (hv_0_1 : G.2.2 0 1 = 1) (hv_6_4 : G.2.2 6 4 = 2) : Met l yX11_canBeBrave (WS yX11_canBeBrave cX11_canBeBrave 6 (some .boolean)) ({ frames := 2, cells := 0, slots := 0, locals := 44 }) (va_Pc [.ref (a 0), .int p0, .int p1, .int p2, .int p3, .int p4] (cW D k A a z G)) (va_Qi (fun (r : Int32) (G1 : GS) => P_wBrave_2 p0 p1 p2 p3 p4 G r G1) (fun (G1 : GS) t => Wd D k A a G1 t.heap) A) 0 0 A := by
  refine Met.ofW (cc := cX11_canBeBrave) (maxL := 6) (ret := (some .boolean)) (by decide) rfl ?_
  intro p e s m args below meth c s₁ B hml hv
  obtain ⟨rfl, hW, hB_G, hK, hZ⟩ := hv
  have hx := B.exec
  have hb := B.bytes
  have hr := B.returns
  have hts := atoms_spec (ws := WS yX11_canBeBrave cX11_canBeBrave 6 (some .boolean)) B.pre
  have hgd : ∀ w ∈ gd, w ∈ WS yX11_canBeBrave cX11_canBeBrave 6 (some .boolean) := fun w h => List.mem_cons_of_mem _ h
  have hg : ∀ w ∈ gd, w.before _ s = true := fun w h => hts w (hgd w h)
  have hown : s.vm.findClass RX11 = some m.cls := findClass_of_methodNamed B.named
  have hS : va_S A s.heap s.heap [] := va_S.rf
  have hF : Fr [] [] G G := Fr.rf
  have hl := lv_entry ([.ref (a 0), .int p0, .int p1, .int p2, .int p3, .int p4]) (n := 6) (Nat.le_of_ble_eq_true rfl)
  rw [lg_entry_eq]
  generalize (lg_sl ([.ref (a 0), .int p0, .int p1, .int p2, .int p3, .int p4]) ++ List.replicate (6 - (lg_sl ([.ref (a 0), .int p0, .int p1, .int p2, .int p3, .int p4])).length) Slot.unset).toArray = ls at hl ⊢
  have hl : lv_has ls 6 [(0, .ref (a 0)), (1, .int p0), (2, .int p1), (3, .int p2), (4, .int p3), (5, .int p4)] := hl
  refine lv_aload_n hx hb dX11_canBeBrave_0 rfl (lv_at hl 0 rfl) ?_
  refine lv_iload_n hx hb dX11_canBeBrave_1 rfl (lv_at hl 1 rfl) ?_
  refine lv_iload_n hx hb dX11_canBeBrave_2 rfl (lv_at hl 2 rfl) ?_
  refine lv_iload_n hx hb dX11_canBeBrave_3 rfl (lv_at hl 3 rfl) ?_
  refine S_calli (va_runV (As := [.int p0, .int p1, .int p2]) (rest := []) ⟨hx, hb, hml, hown, hts⟩ (k_wAsk_2 l D k A a z G p0 p1 p2 hv_0_0 hv_0_1 hv_6_4) (cwV 3 hts (gd_V hgd m953 m955 m31 m117 m956) rfl rfl rfl hd_X11_canAsk ⟨Nat.le_of_ble_eq_true rfl, Nat.le_of_ble_eq_true rfl⟩) (pre_W hW hB_G hK hZ hS kd_0 rfl) rfl rfl hl.1 rfl (lv_room (Nat.le_of_ble_eq_true rfl)) dX11_canBeBrave_4 ⟨Nat.le_of_ble_eq_true rfl, Nat.le_of_ble_eq_true rfl⟩) hS (fun r_1 G_2 H locs hpo hW hS => ?_)
  have hX_5 : P_wAsk_2 p0 p1 p2 G r_1 G_2 := hpo
  obtain ⟨hB_G_2, hq_3, f_6, hp_4, -⟩ := hpo
  have hF := hF.call9 hq_3 rfl rfl
  refine lv_if_eq (tgt := 41) hx hb dX11_canBeBrave_7 rfl (fun c_7 => ?_) (fun c_7 => ?_)
  · have c_7 : r_1.toInt = 0 := xI_eq rfl rfl c_7
    refine ic_0 hx hb dX11_canBeBrave_41 ?_
    exact W.zret (v := 0) hx hb hr (by decide) (fun t ht _ => ⟨⟨0, G_2, rfl, (P_wBrave_2_mk ⟨hB_G_2, hF, ⟨by decide, by decide⟩, (by have hq : (0 : Int32).toInt = 0 := rfl; (try dsimp only); omega), ⟨r_1, G_2, hX_5, (Or.inl ⟨c_7, ⟨rfl, rfl⟩⟩)⟩⟩), wd_t ht hW⟩, hS.F ht⟩) hS.2.2 dX11_canBeBrave_42
  · have c_7 : r_1.toInt ≠ 0 := xI_ne rfl rfl c_7
    refine lv_aload_n hx hb dX11_canBeBrave_10 rfl (lv_at hl 0 rfl) ?_
    refine S_getV (n := 2) (C := RX11) (T := TX11) (N := 13) hx hb hg iX11 hown hK hW kd_0 rfl 0 (lt_b rfl) (hg (Cond.fieldLink RX11 10 "SlabWalk" "paving" "LSlabWalk$Paving;") m570) (fun _ h9 => h9) rfl (((hq_3.r9 0 0 rfl rfl)).trans (hv_0_0)) dX11_canBeBrave_11 ?_
    refine lv_iload_n hx hb dX11_canBeBrave_14 rfl (lv_at hl 1 rfl) ?_
    refine lv_iload_n hx hb dX11_canBeBrave_15 rfl (lv_at hl 2 rfl) ?_
    refine lv_iload hx hb dX11_canBeBrave_16 (lv_at hl 4 rfl) ?_
    have b_8 : 0 ≤ (G.1 2 10).toInt ∧ (G.1 2 10).toInt ≤ 4 := bd_2_10 hB_G
    have g_9 : (G_2.1 2 10).toInt = (G.1 2 10).toInt := (congrArg Int32.toInt (show G_2.1 2 10 = (G.1 2 10) from (hq_3.i9 2 10 rfl rfl)))
    refine S_calli (va_runV (As := [.int p0, .int p1, .int p3]) (rest := []) ⟨hx, hb, hml, hown, hts⟩ (k_stands_2 l D k A a z G_2 p0 p1 p3 ) (cwV 3 hts (gd_V hgd m1121 m966 m967 m118 m968) rfl rfl rfl hd_X6_stands ⟨Nat.le_of_ble_eq_true rfl, Nat.le_of_ble_eq_true rfl⟩) (pre_W hW hB_G_2 hK hZ hS kd_2 rfl) rfl rfl hl.1 rfl (lv_room (Nat.le_of_ble_eq_true rfl)) dX11_canBeBrave_18 ⟨Nat.le_of_ble_eq_true rfl, Nat.le_of_ble_eq_true rfl⟩) hS (fun r_10 G_11 H locs hpo hW hS => ?_)
    have hX_14 : P_stands_2 p0 p1 p3 G_2 r_10 G_11 := hpo
    obtain ⟨hB_G_11, hq_12, f_15, hp_13, -⟩ := hpo
    have hF := hF.call9 hq_12 rfl rfl
    refine lv_if_eq (tgt := 41) hx hb dX11_canBeBrave_21 rfl (fun c_16 => ?_) (fun c_16 => ?_)
    · have c_16 : r_10.toInt = 0 := xI_eq rfl rfl c_16
      refine ic_0 hx hb dX11_canBeBrave_41 ?_
      exact W.zret (v := 0) hx hb hr (by decide) (fun t ht _ => ⟨⟨0, G_11, rfl, (P_wBrave_2_mk ⟨hB_G_11, hF, ⟨by decide, by decide⟩, (by have hq : (0 : Int32).toInt = 0 := rfl; (try dsimp only); omega), ⟨r_1, G_2, hX_5, (Or.inr ⟨c_7, ⟨r_10, G_11, hX_14, (Or.inl ⟨c_16, ⟨rfl, rfl⟩⟩)⟩⟩)⟩⟩), wd_t ht hW⟩, hS.F ht⟩) hS.2.2 dX11_canBeBrave_42
    · have c_16 : r_10.toInt ≠ 0 := xI_ne rfl rfl c_16
      refine lv_iload hx hb dX11_canBeBrave_24 (lv_at hl 5 rfl) ?_
      refine ic_1 hx hb dX11_canBeBrave_26 ?_
      refine lv_icmp_lt (tgt := 41) hx hb dX11_canBeBrave_27 rfl (fun c_17 => ?_) (fun c_17 => ?_)
      · have c_17 : p4.toInt < 1 := xI_lt rfl rfl c_17
        refine ic_0 hx hb dX11_canBeBrave_41 ?_
        exact W.zret (v := 0) hx hb hr (by decide) (fun t ht _ => ⟨⟨0, G_11, rfl, (P_wBrave_2_mk ⟨hB_G_11, hF, ⟨by decide, by decide⟩, (by have hq : (0 : Int32).toInt = 0 := rfl; (try dsimp only); omega), ⟨r_1, G_2, hX_5, (Or.inr ⟨c_7, ⟨r_10, G_11, hX_14, (Or.inr ⟨c_16, (Or.inl ⟨c_17, ⟨rfl, rfl⟩⟩)⟩)⟩⟩)⟩⟩), wd_t ht hW⟩, hS.F ht⟩) hS.2.2 dX11_canBeBrave_42
      · have c_17 : 1 ≤ p4.toInt := xI_nlt rfl rfl c_17
        refine lv_iload hx hb dX11_canBeBrave_30 (lv_at hl 5 rfl) ?_
        refine lv_bipush (v := 8) hx hb dX11_canBeBrave_32 (by decide) ?_
        refine lv_icmp_gt (tgt := 41) hx hb dX11_canBeBrave_34 rfl (fun c_18 => ?_) (fun c_18 => ?_)
        · have c_18 : 8 < p4.toInt := xI_lt rfl rfl c_18
          refine ic_0 hx hb dX11_canBeBrave_41 ?_
          exact W.zret (v := 0) hx hb hr (by decide) (fun t ht _ => ⟨⟨0, G_11, rfl, (P_wBrave_2_mk ⟨hB_G_11, hF, ⟨by decide, by decide⟩, (by have hq : (0 : Int32).toInt = 0 := rfl; (try dsimp only); omega), ⟨r_1, G_2, hX_5, (Or.inr ⟨c_7, ⟨r_10, G_11, hX_14, (Or.inr ⟨c_16, (Or.inr ⟨c_17, (Or.inl ⟨c_18, ⟨rfl, rfl⟩⟩)⟩)⟩)⟩⟩)⟩⟩), wd_t ht hW⟩, hS.F ht⟩) hS.2.2 dX11_canBeBrave_42
        · have c_18 : p4.toInt ≤ 8 := xI_nlt rfl rfl c_18
          refine ic_1 hx hb dX11_canBeBrave_37 ?_
          refine lv_goto (tgt := 42) hx hb dX11_canBeBrave_38 rfl ?_
          exact W.zret (v := 1) hx hb hr (by decide) (fun t ht _ => ⟨⟨1, G_11, rfl, (P_wBrave_2_mk ⟨hB_G_11, hF, ⟨by decide, by decide⟩, (by have hq : (1 : Int32).toInt = 1 := rfl; (try dsimp only); omega), ⟨r_1, G_2, hX_5, (Or.inr ⟨c_7, ⟨r_10, G_11, hX_14, (Or.inr ⟨c_16, (Or.inr ⟨c_17, (Or.inr ⟨c_18, ⟨rfl, rfl⟩⟩)⟩)⟩)⟩⟩)⟩⟩), wd_t ht hW⟩, hS.F ht⟩) hS.2.2 dX11_canBeBrave_42

set_option maxHeartbeats 4000000 in
set_option maxRecDepth 100000 in
theorem k_wGo_2 (l : Launch) (D : va_G) (k : KT) (A : Nat → Prop) (a : Nat → Nat) (z : SK) (G : GS) (p0 : Int32) (hv_0_0 : G.2.2 0 0 = 2) (hv_0_1 : G.2.2 0 1 = 1) (hv_6_4 : G.2.2 6 4 = 2) : Met l yX11_canGo (WS yX11_canGo cX11_canGo 4 (some .boolean)) ({ frames := 1, cells := 0, slots := 0, locals := 21 }) (va_Pc [.ref (a 0), .int p0] (cW D k A a z G)) (va_Qi (fun (r : Int32) (G1 : GS) => P_wGo_2 p0 G r G1) (fun (G1 : GS) t => Wd D k A a G1 t.heap) A) 0 0 A := by
  refine Met.ofW (cc := cX11_canGo) (maxL := 4) (ret := (some .boolean)) (by decide) rfl ?_
  intro p e s m args below meth c s₁ B hml hv
  obtain ⟨rfl, hW, hB_G, hK, hZ⟩ := hv
  have hx := B.exec
  have hb := B.bytes
  have hr := B.returns
  have hts := atoms_spec (ws := WS yX11_canGo cX11_canGo 4 (some .boolean)) B.pre
  have hgd : ∀ w ∈ gd, w ∈ WS yX11_canGo cX11_canGo 4 (some .boolean) := fun w h => List.mem_cons_of_mem _ h
  have hg : ∀ w ∈ gd, w.before _ s = true := fun w h => hts w (hgd w h)
  have hown : s.vm.findClass RX11 = some m.cls := findClass_of_methodNamed B.named
  have hS : va_S A s.heap s.heap [] := va_S.rf
  have hF : Fr [] [] G G := Fr.rf
  have hl := lv_entry ([.ref (a 0), .int p0]) (n := 4) (Nat.le_of_ble_eq_true rfl)
  rw [lg_entry_eq]
  generalize (lg_sl ([.ref (a 0), .int p0]) ++ List.replicate (4 - (lg_sl ([.ref (a 0), .int p0])).length) Slot.unset).toArray = ls at hl ⊢
  have hl : lv_has ls 4 [(0, .ref (a 0)), (1, .int p0)] := hl
  refine lv_aload_n hx hb dX11_canGo_0 rfl (lv_at hl 0 rfl) ?_
  refine S_getR (n := 30) (C := RX11) (T := TX11) (N := 13) hx hb hg iX11 hown hK hW kd_0 rfl 8 (lt_b rfl) (hg (Cond.fieldLink RX11 65 "SlabWalk" "earnest" "LSlabWalk$Earnest;") m578) (fun _ h9 => h9) rfl dX11_canGo_1 ?_
  refine S_getR (n := 58) (C := RX1) (T := TX1) (N := 6) hx hb hg iX1 hown hK hW kd_30 rfl 0 (lt_b rfl) (hg (Cond.fieldLink RX11 246 "SlabWalk$Earnest" "now" "[I") m493) (fun _ h9 => h9) rfl dX11_canGo_4 ?_
  refine ic_0 hx hb dX11_canGo_7 ?_
  refine S_iald hx hb hK hW kd_58 (vin (by decide) (by decide)) dX11_canGo_8 (fun y_1 ey_1 => ?_)
  have u_2 : y_1.toInt = (G.1 58 0).toInt := congrArg Int32.toInt (ey_1)
  refine lv_istore_n (lv' := [(2, .int y_1), (0, .ref (a 0)), (1, .int p0)]) hx hb dX11_canGo_9 rfl hl (lt_b rfl) rfl (fun ls hl => ?_)
  refine lv_aload_n hx hb dX11_canGo_10 rfl (lv_at hl 1 rfl) ?_
  refine S_getV (n := 2) (C := RX11) (T := TX11) (N := 13) hx hb hg iX11 hown hK hW kd_0 rfl 0 (lt_b rfl) (hg (Cond.fieldLink RX11 10 "SlabWalk" "paving" "LSlabWalk$Paving;") m570) (fun _ h9 => h9) rfl hv_0_0 dX11_canGo_11 ?_
  refine lv_iload_n hx hb dX11_canGo_14 rfl (lv_at hl 0 rfl) ?_
  refine S_calli (va_runV (As := [.int y_1]) (rest := []) ⟨hx, hb, hml, hown, hts⟩ (k_hasWalker_2 l D k A a z G y_1 ) (cwV 1 hts (gd_V hgd m957 m958 m959 m118 m960) rfl rfl rfl hd_X6_hasWalker ⟨Nat.le_of_ble_eq_true rfl, Nat.le_of_ble_eq_true rfl⟩) (pre_W hW hB_G hK hZ hS kd_2 rfl) rfl rfl hl.1 rfl (lv_room (Nat.le_of_ble_eq_true rfl)) dX11_canGo_15 ⟨Nat.le_of_ble_eq_true rfl, Nat.le_of_ble_eq_true rfl⟩) hS (fun r_3 G_4 H locs hpo hW hS => ?_)
  have hX_7 : P_hasWalker_2 y_1 G r_3 G_4 := hpo
  obtain ⟨hB_G_4, hq_5, f_8, hp_6, -⟩ := hpo
  have hF := hF.call9 hq_5 rfl rfl
  refine lv_if_eq (tgt := 47) hx hb dX11_canGo_18 rfl (fun c_9 => ?_) (fun c_9 => ?_)
  · have c_9 : r_3.toInt = 0 := xI_eq rfl rfl c_9
    refine ic_0 hx hb dX11_canGo_47 ?_
    exact W.zret (v := 0) hx hb hr (by decide) (fun t ht _ => ⟨⟨0, G_4, rfl, (P_wGo_2_mk ⟨hB_G_4, hF, ⟨by decide, by decide⟩, (by have hq : (0 : Int32).toInt = 0 := rfl; (try dsimp only); omega), ⟨y_1, ey_1, ⟨r_3, G_4, hX_7, (Or.inl ⟨c_9, ⟨rfl, rfl⟩⟩)⟩⟩⟩), wd_t ht hW⟩, hS.F ht⟩) hS.2.2 dX11_canGo_48
  · have c_9 : r_3.toInt ≠ 0 := xI_ne rfl rfl c_9
    refine lv_aload_n hx hb dX11_canGo_21 rfl (lv_at hl 1 rfl) ?_
    refine S_getR (n := 30) (C := RX11) (T := TX11) (N := 13) hx hb hg iX11 hown hK hW kd_0 rfl 8 (lt_b rfl) (hg (Cond.fieldLink RX11 65 "SlabWalk" "earnest" "LSlabWalk$Earnest;") m578) (fun _ h9 => h9) rfl dX11_canGo_22 ?_
    refine S_getR (n := 58) (C := RX1) (T := TX1) (N := 6) hx hb hg iX1 hown hK hW kd_30 rfl 0 (lt_b rfl) (hg (Cond.fieldLink RX11 246 "SlabWalk$Earnest" "now" "[I") m493) (fun _ h9 => h9) rfl dX11_canGo_25 ?_
    refine ic_4 hx hb dX11_canGo_28 ?_
    refine S_iald hx hb hK hW kd_58 (vin (by decide) (by decide)) dX11_canGo_29 (fun y_10 ey_10 => ?_)
    refine ic_1 hx hb dX11_canGo_30 ?_
    refine lv_icmp_ne (tgt := 47) hx hb dX11_canGo_31 rfl (fun c_11 => ?_) (fun c_11 => ?_)
    · have c_11 : y_10.toInt ≠ 1 := xI_ne rfl rfl c_11
      refine ic_0 hx hb dX11_canGo_47 ?_
      exact W.zret (v := 0) hx hb hr (by decide) (fun t ht _ => ⟨⟨0, G_4, rfl, (P_wGo_2_mk ⟨hB_G_4, hF, ⟨by decide, by decide⟩, (by have hq : (0 : Int32).toInt = 0 := rfl; (try dsimp only); omega), ⟨y_1, ey_1, ⟨r_3, G_4, hX_7, (Or.inr ⟨c_9, ⟨y_10, ey_10, (Or.inr ⟨c_11, ⟨rfl, rfl⟩⟩)⟩⟩)⟩⟩⟩), wd_t ht hW⟩, hS.F ht⟩) hS.2.2 dX11_canGo_48
    · have c_11 : y_10.toInt = 1 := xI_eq rfl rfl c_11
      refine lv_iload_n hx hb dX11_canGo_34 rfl (lv_at hl 2 rfl) ?_
      refine lv_aload_n hx hb dX11_canGo_35 rfl (lv_at hl 1 rfl) ?_
      refine S_getV (n := 2) (C := RX11) (T := TX11) (N := 13) hx hb hg iX11 hown hK hW kd_0 rfl 0 (lt_b rfl) (hg (Cond.fieldLink RX11 10 "SlabWalk" "paving" "LSlabWalk$Paving;") m570) (fun _ h9 => h9) rfl (((hq_5.r9 0 0 rfl rfl)).trans (hv_0_0)) dX11_canGo_36 ?_
      refine S_getR (n := 23) (C := RX6) (T := TX6) (N := 17) hx hb hg iX6 hown hK hW kd_2 rfl 3 (lt_b rfl) (hg (Cond.fieldLink RX11 331 "SlabWalk$Paving" "least" "[I") m169) (fun _ h9 => h9) rfl dX11_canGo_39 ?_
      refine lv_iload_n hx hb dX11_canGo_42 rfl (lv_at hl 0 rfl) ?_
      refine S_iald hx hb hK hW kd_23 (vin (by omega) (by omega)) dX11_canGo_43 (fun y_12 ey_12 => ?_)
      have ty_12 : 0 ≤ y_12.toInt ∧ y_12.toInt ≤ 60 := bv_23 hB_G_4 ey_12
      refine lv_icmp_ge (tgt := 49) hx hb dX11_canGo_44 rfl (fun c_13 => ?_) (fun c_13 => ?_)
      · have c_13 : y_12.toInt ≤ p0.toInt := xI_le rfl rfl c_13
        refine lv_aload_n hx hb dX11_canGo_49 rfl (lv_at hl 1 rfl) ?_
        refine S_getR (n := 30) (C := RX11) (T := TX11) (N := 13) hx hb hg iX11 hown hK hW kd_0 rfl 8 (lt_b rfl) (hg (Cond.fieldLink RX11 65 "SlabWalk" "earnest" "LSlabWalk$Earnest;") m578) (fun _ h9 => h9) rfl dX11_canGo_50 ?_
        refine S_getR (n := 58) (C := RX1) (T := TX1) (N := 6) hx hb hg iX1 hown hK hW kd_30 rfl 0 (lt_b rfl) (hg (Cond.fieldLink RX11 246 "SlabWalk$Earnest" "now" "[I") m493) (fun _ h9 => h9) rfl dX11_canGo_53 ?_
        refine ic_5 hx hb dX11_canGo_56 ?_
        refine S_iald hx hb hK hW kd_58 (vin (by decide) (by decide)) dX11_canGo_57 (fun y_14 ey_14 => ?_)
        refine ic_1 hx hb dX11_canGo_58 ?_
        refine W.cut (σ := Int32) (pcJ := 67) (J := fun y H locs ls => ∃ (G_19 : GS), (0 ≤ y.toInt ∧ y.toInt ≤ 1) ∧ Jn_k_wGo_2_1 y_14 G_4 y G_19 ∧ Wd D k A a G_19 H ∧ Bd G_19 ∧ Fr [] [] G G_19 ∧ Fr [] [] G_4 G_19 ∧ va_S A s.heap H locs ∧ lv_has ls 4 [(2, .int y_1), (0, .ref (a 0)), (1, .int p0)]) (stJ := fun y => [.int y]) ?_ (fun hJ_20 => ?_)
        · intro y H locs ls hI
          obtain ⟨w_18, hy⟩ : ∃ q, q = y := ⟨_, rfl⟩
          subst hy
          obtain ⟨G_19, f_23, hX_22, hW, hB_G_19, hF, hq_21, hS, hl⟩ := hI
          refine lv_istore_n (lv' := [(3, .int w_18), (2, .int y_1), (0, .ref (a 0)), (1, .int p0)]) hx hb dX11_canGo_67 rfl hl (lt_b rfl) rfl (fun ls hl => ?_)
          refine lv_iload_n hx hb dX11_canGo_68 rfl (lv_at hl 3 rfl) ?_
          refine lv_iload_n hx hb dX11_canGo_69 rfl (lv_at hl 0 rfl) ?_
          refine lv_if_eq (tgt := 85) hx hb dX11_canGo_70 rfl (fun c_24 => ?_) (fun c_24 => ?_)
          · have c_24 : w_18.toInt = 0 := xI_eq rfl rfl c_24
            refine lv_aload_n hx hb dX11_canGo_85 rfl (lv_at hl 2 rfl) ?_
            refine S_getV (n := 2) (C := RX11) (T := TX11) (N := 13) hx hb hg iX11 hown hK hW kd_0 rfl 0 (lt_b rfl) (hg (Cond.fieldLink RX11 10 "SlabWalk" "paving" "LSlabWalk$Paving;") m570) (fun _ h9 => h9) rfl ((((hq_21.r9 0 0 rfl rfl).trans (hq_5.r9 0 0 rfl rfl))).trans (hv_0_0)) dX11_canGo_86 ?_
            refine S_getR (n := 25) (C := RX6) (T := TX6) (N := 17) hx hb hg iX6 hown hK hW kd_2 rfl 5 (lt_b rfl) (hg (Cond.fieldLink RX11 333 "SlabWalk$Paving" "leap" "[I") m177) (fun _ h9 => h9) rfl dX11_canGo_89 ?_
            refine lv_iload_n hx hb dX11_canGo_92 rfl (lv_at hl 1 rfl) ?_
            refine S_iald hx hb hK hW kd_25 (vin ((by first | (clear c_11 ty_12 c_13 f_23 c_24; omega) | omega)) ((by first | (clear c_11 ty_12 c_13 f_23 c_24; omega) | omega))) dX11_canGo_93 (fun y_25 ey_25 => ?_)
            have ty_25 : 0 ≤ y_25.toInt ∧ y_25.toInt ≤ 99 := bv_25 hB_G_19 ey_25
            refine lv_icmp_gt (tgt := 101) hx hb dX11_canGo_94 rfl (fun c_26 => ?_) (fun c_26 => ?_)
            · have c_26 : y_25.toInt < p0.toInt := xI_lt rfl rfl c_26
              refine ic_0 hx hb dX11_canGo_101 ?_
              exact W.zret (v := 0) hx hb hr (by decide) (fun t ht _ => ⟨⟨0, G_19, rfl, (P_wGo_2_mk ⟨hB_G_19, hF, ⟨by decide, by decide⟩, (by have hq : (0 : Int32).toInt = 0 := rfl; (try dsimp only); omega), ⟨y_1, ey_1, ⟨r_3, G_4, hX_7, (Or.inr ⟨c_9, ⟨y_10, ey_10, (Or.inl ⟨c_11, ⟨y_12, ey_12, (Or.inl ⟨c_13, ⟨y_14, ey_14, ⟨w_18, G_19, hX_22, f_23, hB_G_19, hq_21, (Or.inl ⟨c_24, ⟨y_25, ey_25, (Or.inl ⟨c_26, ⟨rfl, rfl⟩⟩)⟩⟩)⟩⟩⟩)⟩⟩)⟩⟩)⟩⟩⟩), wd_t ht hW⟩, hS.F ht⟩) hS.2.2 dX11_canGo_102
            · have c_26 : p0.toInt ≤ y_25.toInt := xI_nlt rfl rfl c_26
              refine ic_1 hx hb dX11_canGo_97 ?_
              refine lv_goto (tgt := 102) hx hb dX11_canGo_98 rfl ?_
              exact W.zret (v := 1) hx hb hr (by decide) (fun t ht _ => ⟨⟨1, G_19, rfl, (P_wGo_2_mk ⟨hB_G_19, hF, ⟨by decide, by decide⟩, (by have hq : (1 : Int32).toInt = 1 := rfl; (try dsimp only); omega), ⟨y_1, ey_1, ⟨r_3, G_4, hX_7, (Or.inr ⟨c_9, ⟨y_10, ey_10, (Or.inl ⟨c_11, ⟨y_12, ey_12, (Or.inl ⟨c_13, ⟨y_14, ey_14, ⟨w_18, G_19, hX_22, f_23, hB_G_19, hq_21, (Or.inl ⟨c_24, ⟨y_25, ey_25, (Or.inr ⟨c_26, ⟨rfl, rfl⟩⟩)⟩⟩)⟩⟩⟩)⟩⟩)⟩⟩)⟩⟩⟩), wd_t ht hW⟩, hS.F ht⟩) hS.2.2 dX11_canGo_102
          · have c_24 : w_18.toInt ≠ 0 := xI_ne rfl rfl c_24
            refine lv_aload_n hx hb dX11_canGo_73 rfl (lv_at hl 2 rfl) ?_
            refine S_getV (n := 2) (C := RX11) (T := TX11) (N := 13) hx hb hg iX11 hown hK hW kd_0 rfl 0 (lt_b rfl) (hg (Cond.fieldLink RX11 10 "SlabWalk" "paving" "LSlabWalk$Paving;") m570) (fun _ h9 => h9) rfl ((((hq_21.r9 0 0 rfl rfl).trans (hq_5.r9 0 0 rfl rfl))).trans (hv_0_0)) dX11_canGo_74 ?_
            refine S_getR (n := 24) (C := RX6) (T := TX6) (N := 17) hx hb hg iX6 hown hK hW kd_2 rfl 4 (lt_b rfl) (hg (Cond.fieldLink RX11 237 "SlabWalk$Paving" "most" "[I") m173) (fun _ h9 => h9) rfl dX11_canGo_77 ?_
            refine lv_iload_n hx hb dX11_canGo_80 rfl (lv_at hl 1 rfl) ?_
            refine S_iald hx hb hK hW kd_24 (vin ((by first | (clear c_11 ty_12 c_13 f_23 c_24; omega) | omega)) ((by first | (clear c_11 ty_12 c_13 f_23 c_24; omega) | omega))) dX11_canGo_81 (fun y_27 ey_27 => ?_)
            have ty_27 : 0 ≤ y_27.toInt ∧ y_27.toInt ≤ 60 := bv_24 hB_G_19 ey_27
            refine lv_goto (tgt := 94) hx hb dX11_canGo_82 rfl ?_
            refine lv_icmp_gt (tgt := 101) hx hb dX11_canGo_94 rfl (fun c_28 => ?_) (fun c_28 => ?_)
            · have c_28 : y_27.toInt < p0.toInt := xI_lt rfl rfl c_28
              refine ic_0 hx hb dX11_canGo_101 ?_
              exact W.zret (v := 0) hx hb hr (by decide) (fun t ht _ => ⟨⟨0, G_19, rfl, (P_wGo_2_mk ⟨hB_G_19, hF, ⟨by decide, by decide⟩, (by have hq : (0 : Int32).toInt = 0 := rfl; (try dsimp only); omega), ⟨y_1, ey_1, ⟨r_3, G_4, hX_7, (Or.inr ⟨c_9, ⟨y_10, ey_10, (Or.inl ⟨c_11, ⟨y_12, ey_12, (Or.inl ⟨c_13, ⟨y_14, ey_14, ⟨w_18, G_19, hX_22, f_23, hB_G_19, hq_21, (Or.inr ⟨c_24, ⟨y_27, ey_27, (Or.inl ⟨c_28, ⟨rfl, rfl⟩⟩)⟩⟩)⟩⟩⟩)⟩⟩)⟩⟩)⟩⟩⟩), wd_t ht hW⟩, hS.F ht⟩) hS.2.2 dX11_canGo_102
            · have c_28 : p0.toInt ≤ y_27.toInt := xI_nlt rfl rfl c_28
              refine ic_1 hx hb dX11_canGo_97 ?_
              refine lv_goto (tgt := 102) hx hb dX11_canGo_98 rfl ?_
              exact W.zret (v := 1) hx hb hr (by decide) (fun t ht _ => ⟨⟨1, G_19, rfl, (P_wGo_2_mk ⟨hB_G_19, hF, ⟨by decide, by decide⟩, (by have hq : (1 : Int32).toInt = 1 := rfl; (try dsimp only); omega), ⟨y_1, ey_1, ⟨r_3, G_4, hX_7, (Or.inr ⟨c_9, ⟨y_10, ey_10, (Or.inl ⟨c_11, ⟨y_12, ey_12, (Or.inl ⟨c_13, ⟨y_14, ey_14, ⟨w_18, G_19, hX_22, f_23, hB_G_19, hq_21, (Or.inr ⟨c_24, ⟨y_27, ey_27, (Or.inr ⟨c_28, ⟨rfl, rfl⟩⟩)⟩⟩)⟩⟩⟩)⟩⟩)⟩⟩)⟩⟩⟩), wd_t ht hW⟩, hS.F ht⟩) hS.2.2 dX11_canGo_102
        refine lv_icmp_ne (tgt := 66) hx hb dX11_canGo_59 rfl (fun c_29 => ?_) (fun c_29 => ?_)
        · have c_29 : y_14.toInt ≠ 1 := xI_ne rfl rfl c_29
          refine ic_0 hx hb dX11_canGo_66 ?_
          have qc_30 : (0 : Int32).toInt = 0 := rfl
          exact hJ_20 0 _ _ _ ⟨G_4, ⟨(by first | (clear u_2 f_8 hp_6 c_9 c_11 ty_12 c_13 c_29; omega) | omega), (by first | (clear u_2 f_8 hp_6 c_9 c_11 ty_12 c_13 c_29; omega) | omega)⟩, (Jn_k_wGo_2_1_mk (Or.inr ⟨c_29, ⟨rfl, rfl⟩⟩)), hW, hB_G_4, hF, (Fr.rf (rs := []) (fs := [])), hS, lv_sub hl [0, 1, 2] rfl⟩
        · have c_29 : y_14.toInt = 1 := xI_eq rfl rfl c_29
          refine ic_1 hx hb dX11_canGo_62 ?_
          refine lv_goto (tgt := 67) hx hb dX11_canGo_63 rfl ?_
          have qc_31 : (1 : Int32).toInt = 1 := rfl
          exact hJ_20 1 _ _ _ ⟨G_4, ⟨(by first | (clear u_2 f_8 hp_6 c_9 c_11 ty_12 c_13 c_29; omega) | omega), (by first | (clear u_2 f_8 hp_6 c_9 c_11 ty_12 c_13 c_29; omega) | omega)⟩, (Jn_k_wGo_2_1_mk (Or.inl ⟨c_29, ⟨rfl, rfl⟩⟩)), hW, hB_G_4, hF, (Fr.rf (rs := []) (fs := [])), hS, lv_sub hl [0, 1, 2] rfl⟩
      · have c_13 : p0.toInt < y_12.toInt := xI_nle rfl rfl c_13
        refine ic_0 hx hb dX11_canGo_47 ?_
        exact W.zret (v := 0) hx hb hr (by decide) (fun t ht _ => ⟨⟨0, G_4, rfl, (P_wGo_2_mk ⟨hB_G_4, hF, ⟨by decide, by decide⟩, (by have hq : (0 : Int32).toInt = 0 := rfl; (try dsimp only); omega), ⟨y_1, ey_1, ⟨r_3, G_4, hX_7, (Or.inr ⟨c_9, ⟨y_10, ey_10, (Or.inl ⟨c_11, ⟨y_12, ey_12, (Or.inr ⟨c_13, ⟨rfl, rfl⟩⟩)⟩⟩)⟩⟩)⟩⟩⟩), wd_t ht hW⟩, hS.F ht⟩) hS.2.2 dX11_canGo_48

set_option maxHeartbeats 4000000 in
set_option maxRecDepth 100000 in
theorem k_wLawful_2 (l : Launch) (D : va_G) (k : KT) (A : Nat → Prop) (a : Nat → Nat) (z : SK) (G : GS)  (hv_0_0 : G.2.2 0 0 = 2) (hv_0_1 : G.2.2 0 1 = 1) (hv_6_4 : G.2.2 6 4 = 2) : Met l yX11_isLawfulNow (WS yX11_isLawfulNow cX11_isLawfulNow 3 (some .boolean)) ({ frames := 4, cells := 0, slots := 0, locals := 96 }) (va_Pc [.ref (a 0)] (cW D k A a z G)) (va_Qi (fun (r : Int32) (G1 : GS) => P_wLawful_2 G r G1) (fun (G1 : GS) t => Wd D k A a G1 t.heap) A) 0 0 A := by
  refine Met.ofW (cc := cX11_isLawfulNow) (maxL := 3) (ret := (some .boolean)) (by decide) rfl ?_
  intro p e s m args below meth c s₁ B hml hv
  obtain ⟨rfl, hW, hB_G, hK, hZ⟩ := hv
  have hx := B.exec
  have hb := B.bytes
  have hr := B.returns
  have hts := atoms_spec (ws := WS yX11_isLawfulNow cX11_isLawfulNow 3 (some .boolean)) B.pre
  have hgd : ∀ w ∈ gd, w ∈ WS yX11_isLawfulNow cX11_isLawfulNow 3 (some .boolean) := fun w h => List.mem_cons_of_mem _ h
  have hg : ∀ w ∈ gd, w.before _ s = true := fun w h => hts w (hgd w h)
  have hown : s.vm.findClass RX11 = some m.cls := findClass_of_methodNamed B.named
  have hS : va_S A s.heap s.heap [] := va_S.rf
  have hF : Fr [37, 38, 39] [(6, 3)] G G := Fr.rf
  have hl := lv_entry ([.ref (a 0)]) (n := 3) (Nat.le_of_ble_eq_true rfl)
  rw [lg_entry_eq]
  generalize (lg_sl ([.ref (a 0)]) ++ List.replicate (3 - (lg_sl ([.ref (a 0)])).length) Slot.unset).toArray = ls at hl ⊢
  have hl : lv_has ls 3 [(0, .ref (a 0))] := hl
  refine lv_aload_n hx hb dX11_isLawfulNow_0 rfl (lv_at hl 0 rfl) ?_
  refine S_getR (n := 30) (C := RX11) (T := TX11) (N := 13) hx hb hg iX11 hown hK hW kd_0 rfl 8 (lt_b rfl) (hg (Cond.fieldLink RX11 65 "SlabWalk" "earnest" "LSlabWalk$Earnest;") m578) (fun _ h9 => h9) rfl dX11_isLawfulNow_1 ?_
  refine S_getR (n := 58) (C := RX1) (T := TX1) (N := 6) hx hb hg iX1 hown hK hW kd_30 rfl 0 (lt_b rfl) (hg (Cond.fieldLink RX11 246 "SlabWalk$Earnest" "now" "[I") m493) (fun _ h9 => h9) rfl dX11_isLawfulNow_4 ?_
  refine lv_astore_n (lv' := [(1, .ref (a 58)), (0, .ref (a 0))]) hx hb dX11_isLawfulNow_7 rfl hl (lt_b rfl) rfl (fun ls hl => ?_)
  refine lv_aload_n hx hb dX11_isLawfulNow_8 rfl (lv_at hl 0 rfl) ?_
  refine ic_1 hx hb dX11_isLawfulNow_9 ?_
  refine S_iald hx hb hK hW kd_58 (vin (by decide) (by decide)) dX11_isLawfulNow_10 (fun y_1 ey_1 => ?_)
  refine lv_istore_n (lv' := [(2, .int y_1), (1, .ref (a 58)), (0, .ref (a 0))]) hx hb dX11_isLawfulNow_11 rfl hl (lt_b rfl) rfl (fun ls hl => ?_)
  refine lv_aload_n hx hb dX11_isLawfulNow_12 rfl (lv_at hl 2 rfl) ?_
  refine S_getR (n := 6) (C := RX11) (T := TX11) (N := 13) hx hb hg iX11 hown hK hW kd_0 rfl 4 (lt_b rfl) (hg (Cond.fieldLink RX11 37 "SlabWalk" "lines" "LSlabWalk$Lines;") m574) (fun _ h9 => h9) rfl dX11_isLawfulNow_13 ?_
  refine lv_iload_n hx hb dX11_isLawfulNow_16 rfl (lv_at hl 0 rfl) ?_
  refine lv_aload_n hx hb dX11_isLawfulNow_17 rfl (lv_at hl 2 rfl) ?_
  refine S_calli (va_runV (As := []) (rest := [.int y_1, .ref (a 6)]) ⟨hx, hb, hml, hown, hts⟩ (k_wToday l D k A a z G  ) (cwV 0 hts (gd_V hgd m911 m913 m27 m117 m914) rfl rfl rfl hd_X11_today ⟨Nat.le_of_ble_eq_true rfl, Nat.le_of_ble_eq_true rfl⟩) (pre_W hW hB_G hK hZ hS kd_0 rfl) rfl rfl hl.1 rfl (lv_room (Nat.le_of_ble_eq_true rfl)) dX11_isLawfulNow_18 ⟨Nat.le_of_ble_eq_true rfl, Nat.le_of_ble_eq_true rfl⟩) hS (fun r_2 G_3 H locs hpo hW hS => ?_)
  have hX_6 : P_wToday G r_2 G_3 := hpo
  obtain ⟨hB_G_3, hq_4, -⟩ := hpo
  have hF := hF.call9 hq_4 rfl rfl
  refine S_callv (va_runV (As := [.int y_1, .int r_2]) (rest := []) ⟨hx, hb, hml, hown, hts⟩ (k_lFind_2 l D k A a z G_3 y_1 r_2 (((hq_4.r9 6 4 rfl rfl)).trans (hv_6_4))) (cwV 2 hts (gd_V hgd m915 m916 m917 m122 m918) rfl rfl rfl hd_X3_findFor ⟨Nat.le_of_ble_eq_true rfl, Nat.le_of_ble_eq_true rfl⟩) (pre_W hW hB_G_3 hK hZ hS kd_6 rfl) rfl rfl hl.1 rfl (lv_room (Nat.le_of_ble_eq_true rfl)) dX11_isLawfulNow_21 ⟨Nat.le_of_ble_eq_true rfl, Nat.le_of_ble_eq_true rfl⟩) hS (fun G_8 H locs hpo hW hS => ?_)
  have hX_11 : P_lFind_2 y_1 r_2 G_3 G_8 := hpo
  obtain ⟨hB_G_8, hq_9, -⟩ := hpo
  have hF := hF.call9 hq_9 rfl rfl
  refine lv_aload_n hx hb dX11_isLawfulNow_24 rfl (lv_at hl 1 rfl) ?_
  refine lv_bipush (v := 9) hx hb dX11_isLawfulNow_25 (by decide) ?_
  refine S_iald hx hb hK hW kd_58 (vin (by decide) (by decide)) dX11_isLawfulNow_27 (fun y_12 ey_12 => ?_)
  refine ic_1 hx hb dX11_isLawfulNow_28 ?_
  refine lv_icmp_eq (tgt := 53) hx hb dX11_isLawfulNow_29 rfl (fun c_13 => ?_) (fun c_13 => ?_)
  · have c_13 : y_12.toInt = 1 := xI_eq rfl rfl c_13
    refine ic_1 hx hb dX11_isLawfulNow_53 ?_
    refine lv_goto (tgt := 58) hx hb dX11_isLawfulNow_54 rfl ?_
    exact W.zret (v := 1) hx hb hr (by decide) (fun t ht _ => ⟨⟨1, G_8, rfl, (P_wLawful_2_mk ⟨hB_G_8, hF, ⟨by decide, by decide⟩, ⟨y_1, ey_1, ⟨r_2, G_3, hX_6, ⟨G_8, hX_11, ⟨y_12, ey_12, (Or.inl ⟨c_13, ⟨rfl, rfl⟩⟩)⟩⟩⟩⟩⟩), wd_t ht hW⟩, hS.F ht⟩) hS.2.2 dX11_isLawfulNow_58
  · have c_13 : y_12.toInt ≠ 1 := xI_ne rfl rfl c_13
    refine lv_aload_n hx hb dX11_isLawfulNow_32 rfl (lv_at hl 2 rfl) ?_
    refine S_getR (n := 6) (C := RX11) (T := TX11) (N := 13) hx hb hg iX11 hown hK hW kd_0 rfl 4 (lt_b rfl) (hg (Cond.fieldLink RX11 37 "SlabWalk" "lines" "LSlabWalk$Lines;") m574) (fun _ h9 => h9) rfl dX11_isLawfulNow_33 ?_
    refine lv_aload_n hx hb dX11_isLawfulNow_36 rfl (lv_at hl 1 rfl) ?_
    refine ic_0 hx hb dX11_isLawfulNow_37 ?_
    refine S_iald hx hb hK hW kd_58 (vin (by decide) (by decide)) dX11_isLawfulNow_38 (fun y_14 ey_14 => ?_)
    refine lv_iload_n hx hb dX11_isLawfulNow_39 rfl (lv_at hl 0 rfl) ?_
    refine lv_aload_n hx hb dX11_isLawfulNow_40 rfl (lv_at hl 1 rfl) ?_
    refine lv_bipush (v := 8) hx hb dX11_isLawfulNow_41 (by decide) ?_
    refine S_iald hx hb hK hW kd_58 (vin (by decide) (by decide)) dX11_isLawfulNow_43 (fun y_15 ey_15 => ?_)
    refine lv_aload_n hx hb dX11_isLawfulNow_44 rfl (lv_at hl 1 rfl) ?_
    refine ic_2 hx hb dX11_isLawfulNow_45 ?_
    refine S_iald hx hb hK hW kd_58 (vin (by decide) (by decide)) dX11_isLawfulNow_46 (fun y_16 ey_16 => ?_)
    refine S_calli (va_runV (As := [.int y_14, .int y_1, .int y_15, .int y_16]) (rest := []) ⟨hx, hb, hml, hown, hts⟩ (k_lIsLawful_2 l D k A a z G_8 y_14 y_1 y_15 y_16 ((((hq_9.r9 6 4 rfl rfl).trans (hq_4.r9 6 4 rfl rfl))).trans (hv_6_4))) (cwV 4 hts (gd_V hgd m961 m962 m963 m122 m964) rfl rfl rfl hd_X3_isLawful ⟨Nat.le_of_ble_eq_true rfl, Nat.le_of_ble_eq_true rfl⟩) (pre_W hW hB_G_8 hK hZ hS kd_6 rfl) rfl rfl hl.1 rfl (lv_room (Nat.le_of_ble_eq_true rfl)) dX11_isLawfulNow_47 ⟨Nat.le_of_ble_eq_true rfl, Nat.le_of_ble_eq_true rfl⟩) hS (fun r_17 G_18 H locs hpo hW hS => ?_)
    have hX_21 : P_lIsLawful_2 y_14 y_1 y_15 y_16 G_8 r_17 G_18 := hpo
    obtain ⟨hB_G_18, hq_19, f_22, -⟩ := hpo
    have hF := hF.call9 hq_19 rfl rfl
    refine lv_if_eq (tgt := 57) hx hb dX11_isLawfulNow_50 rfl (fun c_23 => ?_) (fun c_23 => ?_)
    · have c_23 : r_17.toInt = 0 := xI_eq rfl rfl c_23
      refine ic_0 hx hb dX11_isLawfulNow_57 ?_
      exact W.zret (v := 0) hx hb hr (by decide) (fun t ht _ => ⟨⟨0, G_18, rfl, (P_wLawful_2_mk ⟨hB_G_18, hF, ⟨by decide, by decide⟩, ⟨y_1, ey_1, ⟨r_2, G_3, hX_6, ⟨G_8, hX_11, ⟨y_12, ey_12, (Or.inr ⟨c_13, ⟨y_14, ey_14, ⟨y_15, ey_15, ⟨y_16, ey_16, ⟨r_17, G_18, hX_21, (Or.inl ⟨c_23, ⟨rfl, rfl⟩⟩)⟩⟩⟩⟩⟩)⟩⟩⟩⟩⟩), wd_t ht hW⟩, hS.F ht⟩) hS.2.2 dX11_isLawfulNow_58
    · have c_23 : r_17.toInt ≠ 0 := xI_ne rfl rfl c_23
      refine ic_1 hx hb dX11_isLawfulNow_53 ?_
      refine lv_goto (tgt := 58) hx hb dX11_isLawfulNow_54 rfl ?_
      exact W.zret (v := 1) hx hb hr (by decide) (fun t ht _ => ⟨⟨1, G_18, rfl, (P_wLawful_2_mk ⟨hB_G_18, hF, ⟨by decide, by decide⟩, ⟨y_1, ey_1, ⟨r_2, G_3, hX_6, ⟨G_8, hX_11, ⟨y_12, ey_12, (Or.inr ⟨c_13, ⟨y_14, ey_14, ⟨y_15, ey_15, ⟨y_16, ey_16, ⟨r_17, G_18, hX_21, (Or.inr ⟨c_23, ⟨rfl, rfl⟩⟩)⟩⟩⟩⟩⟩)⟩⟩⟩⟩⟩), wd_t ht hW⟩, hS.F ht⟩) hS.2.2 dX11_isLawfulNow_58

set_option maxHeartbeats 4000000 in
set_option maxRecDepth 100000 in
theorem k_wPrep_2 (l : Launch) (D : va_G) (k : KT) (A : Nat → Prop) (a : Nat → Nat) (z : SK) (G : GS) (p0 : Int32) (p1 : Int32) (p2 : Int32) (ha_p0 : 0 ≤ p0.toInt ∧ p0.toInt ≤ 3) (ha_p1 : 0 ≤ p1.toInt ∧ p1.toInt ≤ 2) (hv_0_0 : G.2.2 0 0 = 2) (hv_0_1 : G.2.2 0 1 = 1) (hv_6_4 : G.2.2 6 4 = 2) (hw : p0.toInt < (G.1 2 10).toInt) : Met l yX11_prepare (WS yX11_prepare cX11_prepare 4 none) ({ frames := 4, cells := 0, slots := 0, locals := 96 }) (va_Pc [.ref (a 0), .int p0, .int p1, .int p2] (cW D k A a z G)) (va_Qv (fun (G1 : GS) => P_wPrep_2 p0 p1 p2 G G1) (fun (G1 : GS) t => Wd D k A a G1 t.heap) A) 0 0 A := by
  refine Met.ofW (cc := cX11_prepare) (maxL := 4) (ret := none) (by decide) rfl ?_
  intro p e s m args below meth c s₁ B hml hv
  obtain ⟨rfl, hW, hB_G, hK, hZ⟩ := hv
  have hx := B.exec
  have hb := B.bytes
  have hr := B.returns
  have hts := atoms_spec (ws := WS yX11_prepare cX11_prepare 4 none) B.pre
  have hgd : ∀ w ∈ gd, w ∈ WS yX11_prepare cX11_prepare 4 none := fun w h => List.mem_cons_of_mem _ h
  have hg : ∀ w ∈ gd, w.before _ s = true := fun w h => hts w (hgd w h)
  have hown : s.vm.findClass RX11 = some m.cls := findClass_of_methodNamed B.named
  have hS : va_S A s.heap s.heap [] := va_S.rf
  have hF : Fr [37, 38, 39, 40] [(6, 3), (7, 1), (7, 2), (7, 3), (7, 4), (7, 5), (7, 6), (7, 7)] G G := Fr.rf
  have hl := lv_entry ([.ref (a 0), .int p0, .int p1, .int p2]) (n := 4) (Nat.le_of_ble_eq_true rfl)
  rw [lg_entry_eq]
  generalize (lg_sl ([.ref (a 0), .int p0, .int p1, .int p2]) ++ List.replicate (4 - (lg_sl ([.ref (a 0), .int p0, .int p1, .int p2])).length) Slot.unset).toArray = ls at hl ⊢
  have hl : lv_has ls 4 [(0, .ref (a 0)), (1, .int p0), (2, .int p1), (3, .int p2)] := hl
  refine lv_aload_n hx hb dX11_prepare_0 rfl (lv_at hl 0 rfl) ?_
  refine S_getR (n := 6) (C := RX11) (T := TX11) (N := 13) hx hb hg iX11 hown hK hW kd_0 rfl 4 (lt_b rfl) (hg (Cond.fieldLink RX11 37 "SlabWalk" "lines" "LSlabWalk$Lines;") m574) (fun _ h9 => h9) rfl dX11_prepare_1 ?_
  refine lv_iload_n hx hb dX11_prepare_4 rfl (lv_at hl 2 rfl) ?_
  refine lv_aload_n hx hb dX11_prepare_5 rfl (lv_at hl 0 rfl) ?_
  refine S_calli (va_runV (As := []) (rest := [.int p1, .ref (a 6)]) ⟨hx, hb, hml, hown, hts⟩ (k_wToday l D k A a z G  ) (cwV 0 hts (gd_V hgd m911 m913 m27 m117 m914) rfl rfl rfl hd_X11_today ⟨Nat.le_of_ble_eq_true rfl, Nat.le_of_ble_eq_true rfl⟩) (pre_W hW hB_G hK hZ hS kd_0 rfl) rfl rfl hl.1 rfl (lv_room (Nat.le_of_ble_eq_true rfl)) dX11_prepare_6 ⟨Nat.le_of_ble_eq_true rfl, Nat.le_of_ble_eq_true rfl⟩) hS (fun r_1 G_2 H locs hpo hW hS => ?_)
  have hX_5 : P_wToday G r_1 G_2 := hpo
  obtain ⟨hB_G_2, hq_3, -⟩ := hpo
  have hF := hF.call9 hq_3 rfl rfl
  refine S_callv (va_runV (As := [.int p1, .int r_1]) (rest := []) ⟨hx, hb, hml, hown, hts⟩ (k_lFind_2 l D k A a z G_2 p1 r_1 (((hq_3.r9 6 4 rfl rfl)).trans (hv_6_4))) (cwV 2 hts (gd_V hgd m915 m916 m917 m122 m918) rfl rfl rfl hd_X3_findFor ⟨Nat.le_of_ble_eq_true rfl, Nat.le_of_ble_eq_true rfl⟩) (pre_W hW hB_G_2 hK hZ hS kd_6 rfl) rfl rfl hl.1 rfl (lv_room (Nat.le_of_ble_eq_true rfl)) dX11_prepare_9 ⟨Nat.le_of_ble_eq_true rfl, Nat.le_of_ble_eq_true rfl⟩) hS (fun G_7 H locs hpo hW hS => ?_)
  have hX_10 : P_lFind_2 p1 r_1 G_2 G_7 := hpo
  obtain ⟨hB_G_7, hq_8, -⟩ := hpo
  have hF := hF.call9 hq_8 rfl rfl
  refine lv_aload_n hx hb dX11_prepare_12 rfl (lv_at hl 0 rfl) ?_
  refine S_getR (n := 7) (C := RX11) (T := TX11) (N := 13) hx hb hg iX11 hown hK hW kd_0 rfl 5 (lt_b rfl) (hg (Cond.fieldLink RX11 44 "SlabWalk" "course" "LSlabWalk$Course;") m575) (fun _ h9 => h9) rfl dX11_prepare_13 ?_
  refine lv_aload_n hx hb dX11_prepare_16 rfl (lv_at hl 0 rfl) ?_
  refine S_getV (n := 2) (C := RX11) (T := TX11) (N := 13) hx hb hg iX11 hown hK hW kd_0 rfl 0 (lt_b rfl) (hg (Cond.fieldLink RX11 10 "SlabWalk" "paving" "LSlabWalk$Paving;") m570) (fun _ h9 => h9) rfl ((((hq_8.r9 0 0 rfl rfl).trans (hq_3.r9 0 0 rfl rfl))).trans (hv_0_0)) dX11_prepare_17 ?_
  refine lv_iload_n hx hb dX11_prepare_20 rfl (lv_at hl 1 rfl) ?_
  refine lv_iload_n hx hb dX11_prepare_21 rfl (lv_at hl 2 rfl) ?_
  have b_11 : 0 ≤ (G.1 2 10).toInt ∧ (G.1 2 10).toInt ≤ 4 := bd_2_10 hB_G
  have g_12 : (G_7.1 2 10).toInt = (G.1 2 10).toInt := (congrArg Int32.toInt (show G_7.1 2 10 = (G.1 2 10) from ((hq_8.i9 2 10 rfl rfl).trans (hq_3.i9 2 10 rfl rfl))))
  refine S_callv (va_runV (As := [.ref (a 2), .int p0, .int p1]) (rest := []) ⟨hx, hb, hml, hown, hts⟩ (k_cLook_2 l D k A a z G_7 p0 p1 ⟨by omega, by omega⟩ ⟨(by first | (clear ha_p0 hw b_11 g_12; omega) | omega), (by first | (clear ha_p0 hw b_11 g_12; omega) | omega)⟩ (by omega)) (cwV 3 hts (gd_V hgd m979 m980 m981 m123 m982) rfl rfl rfl hd_X0_lookAt ⟨Nat.le_of_ble_eq_true rfl, Nat.le_of_ble_eq_true rfl⟩) (pre_W hW hB_G_7 hK hZ hS kd_7 rfl) rfl rfl hl.1 rfl (lv_room (Nat.le_of_ble_eq_true rfl)) dX11_prepare_22 ⟨Nat.le_of_ble_eq_true rfl, Nat.le_of_ble_eq_true rfl⟩) hS (fun G_14 H locs hpo hW hS => ?_)
  have hX_17 : P_cLook_2 p0 p1 G_7 G_14 := hpo
  obtain ⟨hB_G_14, hq_15, hp_16, -⟩ := hpo
  have hF := hF.call9 hq_15 rfl rfl
  refine lv_aload_n hx hb dX11_prepare_25 rfl (lv_at hl 0 rfl) ?_
  refine S_getR (n := 7) (C := RX11) (T := TX11) (N := 13) hx hb hg iX11 hown hK hW kd_0 rfl 5 (lt_b rfl) (hg (Cond.fieldLink RX11 44 "SlabWalk" "course" "LSlabWalk$Course;") m575) (fun _ h9 => h9) rfl dX11_prepare_26 ?_
  refine lv_aload_n hx hb dX11_prepare_29 rfl (lv_at hl 0 rfl) ?_
  refine S_getR (n := 6) (C := RX11) (T := TX11) (N := 13) hx hb hg iX11 hown hK hW kd_0 rfl 4 (lt_b rfl) (hg (Cond.fieldLink RX11 37 "SlabWalk" "lines" "LSlabWalk$Lines;") m574) (fun _ h9 => h9) rfl dX11_prepare_30 ?_
  refine lv_iload_n hx hb dX11_prepare_33 rfl (lv_at hl 2 rfl) ?_
  refine lv_iload_n hx hb dX11_prepare_34 rfl (lv_at hl 3 rfl) ?_
  refine S_callv (va_runV (As := [.ref (a 6), .int p1, .int p2]) (rest := []) ⟨hx, hb, hml, hown, hts⟩ (k_cFind_2 l D k A a z G_14 p1 p2 ((((hq_15.r9 6 4 rfl rfl).trans ((hq_8.r9 6 4 rfl rfl).trans (hq_3.r9 6 4 rfl rfl)))).trans (hv_6_4))) (cwV 3 hts (gd_V hgd m984 m985 m986 m123 m987) rfl rfl rfl hd_X0_findLawful ⟨Nat.le_of_ble_eq_true rfl, Nat.le_of_ble_eq_true rfl⟩) (pre_W hW hB_G_14 hK hZ hS kd_7 rfl) rfl rfl hl.1 rfl (lv_room (Nat.le_of_ble_eq_true rfl)) dX11_prepare_35 ⟨Nat.le_of_ble_eq_true rfl, Nat.le_of_ble_eq_true rfl⟩) hS (fun G_19 H locs hpo hW hS => ?_)
  have hX_22 : P_cFind_2 p1 p2 G_14 G_19 := hpo
  obtain ⟨hB_G_19, hq_20, -⟩ := hpo
  have hF := hF.call9 hq_20 rfl rfl
  have b_23 : 0 ≤ (G_14.1 7 3).toInt ∧ (G_14.1 7 3).toInt ≤ 60 := bd_7_3 hB_G_14
  have g_24 : (G_19.1 7 3).toInt = (G_14.1 7 3).toInt := (congrArg Int32.toInt (show G_19.1 7 3 = (G_14.1 7 3) from (hq_20.i9 7 3 rfl rfl)))
  have b_25 : 0 ≤ (G_14.1 7 4).toInt ∧ (G_14.1 7 4).toInt ≤ 60 := bd_7_4 hB_G_14
  have g_26 : (G_19.1 7 4).toInt = (G_14.1 7 4).toInt := (congrArg Int32.toInt (show G_19.1 7 4 = (G_14.1 7 4) from (hq_20.i9 7 4 rfl rfl)))
  have b_27 : (-1) ≤ (G_14.1 7 6).toInt ∧ (G_14.1 7 6).toInt ≤ 400 := bd_7_6 hB_G_14
  have g_28 : (G_19.1 7 6).toInt = (G_14.1 7 6).toInt := (congrArg Int32.toInt (show G_19.1 7 6 = (G_14.1 7 6) from (hq_20.i9 7 6 rfl rfl)))
  have b_29 : 0 ≤ (G_14.1 7 7).toInt ∧ (G_14.1 7 7).toInt ≤ 400 := bd_7_7 hB_G_14
  have g_30 : (G_19.1 7 7).toInt = (G_14.1 7 7).toInt := (congrArg Int32.toInt (show G_19.1 7 7 = (G_14.1 7 7) from (hq_20.i9 7 7 rfl rfl)))
  exact W.vret hx hb hr (fun t ht _ => ⟨⟨G_19, rfl, (P_wPrep_2_mk ⟨hB_G_19, hF, ((by first | exact ⟨((by first | (clear ha_p0 ha_p1 hw b_11 g_12; omega) | omega)), ⟨((by first | (clear ha_p0 ha_p1 hw b_11 g_12; omega) | omega)), ((by first | (clear ha_p0 ha_p1 hw b_11 g_12; omega) | omega))⟩⟩ | omega)), ⟨r_1, G_2, hX_5, ⟨G_7, hX_10, ⟨G_14, hX_17, ⟨G_19, hX_22, rfl⟩⟩⟩⟩⟩), wd_t ht hW⟩, hS.F ht⟩) hS.2.2 dX11_prepare_38

set_option maxHeartbeats 4000000 in
set_option maxRecDepth 100000 in
theorem k_wLeaves_2 (l : Launch) (D : va_G) (k : KT) (A : Nat → Prop) (a : Nat → Nat) (z : SK) (G : GS) (p0 : Int32) (p1 : Int32) (hv_0_0 : G.2.2 0 0 = 2) (hv_0_1 : G.2.2 0 1 = 1) (hv_6_4 : G.2.2 6 4 = 2) (hci : (G.1 7 6).toInt ≤ 399 ∧ (G.1 7 3).toInt ≤ (G.1 7 4).toInt ∧ ((G.1 7 7).toInt ≤ 0 ∨ (G.1 7 7).toInt + (G.1 7 4).toInt ≤ (G.1 7 6).toInt + 1)) : Met l yX11_leavesWay (WS yX11_leavesWay cX11_leavesWay 3 (some .boolean)) ({ frames := 4, cells := 0, slots := 0, locals := 91 }) (va_Pc [.ref (a 0), .int p0, .int p1] (cW D k A a z G)) (va_Qi (fun (r : Int32) (G1 : GS) => P_wLeaves_2 p0 p1 G r G1) (fun (G1 : GS) t => Wd D k A a G1 t.heap) A) 0 0 A := by
  refine Met.ofW (cc := cX11_leavesWay) (maxL := 3) (ret := (some .boolean)) (by decide) rfl ?_
  intro p e s m args below meth c s₁ B hml hv
  obtain ⟨rfl, hW, hB_G, hK, hZ⟩ := hv
  have hx := B.exec
  have hb := B.bytes
  have hr := B.returns
  have hts := atoms_spec (ws := WS yX11_leavesWay cX11_leavesWay 3 (some .boolean)) B.pre
  have hgd : ∀ w ∈ gd, w ∈ WS yX11_leavesWay cX11_leavesWay 3 (some .boolean) := fun w h => List.mem_cons_of_mem _ h
  have hg : ∀ w ∈ gd, w.before _ s = true := fun w h => hts w (hgd w h)
  have hown : s.vm.findClass RX11 = some m.cls := findClass_of_methodNamed B.named
  have hS : va_S A s.heap s.heap [] := va_S.rf
  have hF : Fr [40, 42, 43] [] G G := Fr.rf
  have hl := lv_entry ([.ref (a 0), .int p0, .int p1]) (n := 3) (Nat.le_of_ble_eq_true rfl)
  rw [lg_entry_eq]
  generalize (lg_sl ([.ref (a 0), .int p0, .int p1]) ++ List.replicate (3 - (lg_sl ([.ref (a 0), .int p0, .int p1])).length) Slot.unset).toArray = ls at hl ⊢
  have hl : lv_has ls 3 [(0, .ref (a 0)), (1, .int p0), (2, .int p1)] := hl
  have b_1 : (-1) ≤ (G.1 7 6).toInt ∧ (G.1 7 6).toInt ≤ 400 := bd_7_6 hB_G
  refine lv_aload_n hx hb dX11_leavesWay_0 rfl (lv_at hl 0 rfl) ?_
  refine S_getR (n := 7) (C := RX11) (T := TX11) (N := 13) hx hb hg iX11 hown hK hW kd_0 rfl 5 (lt_b rfl) (hg (Cond.fieldLink RX11 44 "SlabWalk" "course" "LSlabWalk$Course;") m575) (fun _ h9 => h9) rfl dX11_leavesWay_1 ?_
  refine lv_aload_n hx hb dX11_leavesWay_4 rfl (lv_at hl 0 rfl) ?_
  refine S_getR (n := 6) (C := RX11) (T := TX11) (N := 13) hx hb hg iX11 hown hK hW kd_0 rfl 4 (lt_b rfl) (hg (Cond.fieldLink RX11 37 "SlabWalk" "lines" "LSlabWalk$Lines;") m574) (fun _ h9 => h9) rfl dX11_leavesWay_5 ?_
  refine lv_iload_n hx hb dX11_leavesWay_8 rfl (lv_at hl 1 rfl) ?_
  refine lv_iload_n hx hb dX11_leavesWay_9 rfl (lv_at hl 2 rfl) ?_
  refine S_callv (va_runV (As := [.ref (a 6), .int p0, .int p1]) (rest := []) ⟨hx, hb, hml, hown, hts⟩ (k_cFind_2 l D k A a z G p0 p1 hv_6_4) (cwV 3 hts (gd_V hgd m984 m985 m986 m123 m987) rfl rfl rfl hd_X0_findLawful ⟨Nat.le_of_ble_eq_true rfl, Nat.le_of_ble_eq_true rfl⟩) (pre_W hW hB_G hK hZ hS kd_7 rfl) rfl rfl hl.1 rfl (lv_room (Nat.le_of_ble_eq_true rfl)) dX11_leavesWay_10 ⟨Nat.le_of_ble_eq_true rfl, Nat.le_of_ble_eq_true rfl⟩) hS (fun G_3 H locs hpo hW hS => ?_)
  have hX_6 : P_cFind_2 p0 p1 G G_3 := hpo
  obtain ⟨hB_G_3, hq_4, -⟩ := hpo
  have hF := hF.call9 hq_4 rfl rfl
  refine lv_aload_n hx hb dX11_leavesWay_13 rfl (lv_at hl 0 rfl) ?_
  refine S_getR (n := 8) (C := RX11) (T := TX11) (N := 13) hx hb hg iX11 hown hK hW kd_0 rfl 6 (lt_b rfl) (hg (Cond.fieldLink RX11 51 "SlabWalk" "trails" "LSlabWalk$Trails;") m576) (fun _ h9 => h9) rfl dX11_leavesWay_14 ?_
  refine lv_aload_n hx hb dX11_leavesWay_17 rfl (lv_at hl 0 rfl) ?_
  refine S_getR (n := 7) (C := RX11) (T := TX11) (N := 13) hx hb hg iX11 hown hK hW kd_0 rfl 5 (lt_b rfl) (hg (Cond.fieldLink RX11 44 "SlabWalk" "course" "LSlabWalk$Course;") m575) (fun _ h9 => h9) rfl dX11_leavesWay_18 ?_
  have b_7 : 0 ≤ (G.1 7 3).toInt ∧ (G.1 7 3).toInt ≤ 60 := bd_7_3 hB_G
  have g_8 : (G_3.1 7 3).toInt = (G.1 7 3).toInt := (congrArg Int32.toInt (show G_3.1 7 3 = (G.1 7 3) from (hq_4.i9 7 3 rfl rfl)))
  have b_9 : 0 ≤ (G.1 7 4).toInt ∧ (G.1 7 4).toInt ≤ 60 := bd_7_4 hB_G
  have g_10 : (G_3.1 7 4).toInt = (G.1 7 4).toInt := (congrArg Int32.toInt (show G_3.1 7 4 = (G.1 7 4) from (hq_4.i9 7 4 rfl rfl)))
  have g_11 : (G_3.1 7 6).toInt = (G.1 7 6).toInt := (congrArg Int32.toInt (show G_3.1 7 6 = (G.1 7 6) from ((hq_4.i9 7 6 rfl rfl).trans (rfl))))
  have b_12 : 0 ≤ (G.1 7 7).toInt ∧ (G.1 7 7).toInt ≤ 400 := bd_7_7 hB_G
  have g_13 : (G_3.1 7 7).toInt = (G.1 7 7).toInt := (congrArg Int32.toInt (show G_3.1 7 7 = (G.1 7 7) from (hq_4.i9 7 7 rfl rfl)))
  refine S_calli (va_runV (As := [.ref (a 7)]) (rest := []) ⟨hx, hb, hml, hown, hts⟩ (k_tThere l D k A a z G_3  ((by first | exact ⟨(by omega), ⟨(by omega), (by omega)⟩⟩ | omega))) (cwV 1 hts (gd_V hgd m1158 m1159 m1160 m124 m1161) rfl rfl rfl hd_X10_isThereWay ⟨Nat.le_of_ble_eq_true rfl, Nat.le_of_ble_eq_true rfl⟩) (pre_W hW hB_G_3 hK hZ hS kd_8 rfl) rfl rfl hl.1 rfl (lv_room (Nat.le_of_ble_eq_true rfl)) dX11_leavesWay_21 ⟨Nat.le_of_ble_eq_true rfl, Nat.le_of_ble_eq_true rfl⟩) hS (fun r_14 G_15 H locs hpo hW hS => ?_)
  have hX_18 : P_tThere G_3 r_14 G_15 := hpo
  obtain ⟨hB_G_15, hq_16, f_19, -⟩ := hpo
  have hF := hF.call9 hq_16 rfl rfl
  have g_20 : (G_15.1 7 3).toInt = (G.1 7 3).toInt := (congrArg Int32.toInt (show G_15.1 7 3 = (G.1 7 3) from ((hq_16.i9 7 3 rfl rfl).trans ((hq_4.i9 7 3 rfl rfl).trans (rfl)))))
  have g_21 : (G_15.1 7 4).toInt = (G.1 7 4).toInt := (congrArg Int32.toInt (show G_15.1 7 4 = (G.1 7 4) from ((hq_16.i9 7 4 rfl rfl).trans ((hq_4.i9 7 4 rfl rfl).trans (rfl)))))
  have g_22 : (G_15.1 7 6).toInt = (G.1 7 6).toInt := (congrArg Int32.toInt (show G_15.1 7 6 = (G.1 7 6) from ((hq_16.i9 7 6 rfl rfl).trans ((hq_4.i9 7 6 rfl rfl).trans (rfl)))))
  have g_23 : (G_15.1 7 7).toInt = (G.1 7 7).toInt := (congrArg Int32.toInt (show G_15.1 7 7 = (G.1 7 7) from ((hq_16.i9 7 7 rfl rfl).trans ((hq_4.i9 7 7 rfl rfl).trans (rfl)))))
  exact W.zret (v := r_14) hx hb hr (nar_z ((by first | (clear hci b_1 b_7 g_8 b_9 g_10 g_11 b_12 g_13 g_20 g_21 g_22 g_23; omega) | omega)) ((by first | (clear hci b_1 b_7 g_8 b_9 g_10 g_11 b_12 g_13 g_20 g_21 g_22 g_23; omega) | omega))) (fun t ht _ => ⟨⟨r_14, G_15, rfl, (P_wLeaves_2_mk ⟨hB_G_15, hF, ⟨(by first | (clear hci b_1 b_7 g_8 b_9 g_10 g_11 b_12 g_13 g_20 g_21 g_22 g_23; omega) | omega), (by first | (clear hci b_1 b_7 g_8 b_9 g_10 g_11 b_12 g_13 g_20 g_21 g_22 g_23; omega) | omega)⟩, ((by first | exact ⟨(by omega), ⟨(by omega), (by omega)⟩⟩ | omega)), ⟨G_3, hX_6, ⟨r_14, G_15, hX_18, ⟨rfl, rfl⟩⟩⟩⟩), wd_t ht hW⟩, hS.F ht⟩) hS.2.2 dX11_leavesWay_24

set_option maxHeartbeats 4000000 in
set_option maxRecDepth 100000 in
theorem k_wWin_2 (l : Launch) (D : va_G) (k : KT) (A : Nat → Prop) (a : Nat → Nat) (z : SK) (G : GS) (p0 : Int32) (p1 : Int32) (ha_p1 : 0 ≤ p1.toInt ∧ p1.toInt ≤ 63) (hv_0_0 : G.2.2 0 0 = 2) (hv_0_1 : G.2.2 0 1 = 1) (hv_6_4 : G.2.2 6 4 = 2) (hci : (G.1 7 6).toInt ≤ 399 ∧ (G.1 7 3).toInt ≤ (G.1 7 4).toInt ∧ ((G.1 7 7).toInt ≤ 0 ∨ (G.1 7 7).toInt + (G.1 7 4).toInt ≤ (G.1 7 6).toInt + 1)) : Met l yX11_winningRule (WS yX11_winningRule cX11_winningRule 5 (some .int)) ({ frames := 5, cells := 0, slots := 0, locals := 113 }) (va_Pc [.ref (a 0), .int p0, .int p1] (cW D k A a z G)) (va_Qi (fun (r : Int32) (G1 : GS) => P_wWin_2 p0 p1 G r G1) (fun (G1 : GS) t => Wd D k A a G1 t.heap) A) 0 0 A := by
  refine Met.ofW (cc := cX11_winningRule) (maxL := 5) (ret := (some .int)) (by decide) rfl ?_
  intro p e s m args below meth c s₁ B hml hv
  obtain ⟨rfl, hW, hB_G, hK, hZ⟩ := hv
  have hx := B.exec
  have hb := B.bytes
  have hr := B.returns
  have hts := atoms_spec (ws := WS yX11_winningRule cX11_winningRule 5 (some .int)) B.pre
  have hgd : ∀ w ∈ gd, w ∈ WS yX11_winningRule cX11_winningRule 5 (some .int) := fun w h => List.mem_cons_of_mem _ h
  have hg : ∀ w ∈ gd, w.before _ s = true := fun w h => hts w (hgd w h)
  have hown : s.vm.findClass RX11 = some m.cls := findClass_of_methodNamed B.named
  have hS : va_S A s.heap s.heap [] := va_S.rf
  have hF : Fr [40, 42, 43, 46, 47] [] G G := Fr.rf
  have hl := lv_entry ([.ref (a 0), .int p0, .int p1]) (n := 5) (Nat.le_of_ble_eq_true rfl)
  rw [lg_entry_eq]
  generalize (lg_sl ([.ref (a 0), .int p0, .int p1]) ++ List.replicate (5 - (lg_sl ([.ref (a 0), .int p0, .int p1])).length) Slot.unset).toArray = ls at hl ⊢
  have hl : lv_has ls 5 [(0, .ref (a 0)), (1, .int p0), (2, .int p1)] := hl
  have b_1 : (-1) ≤ (G.1 7 6).toInt ∧ (G.1 7 6).toInt ≤ 400 := bd_7_6 hB_G
  refine ic_1 hx hb dX11_winningRule_0 ?_
  refine lv_aload_n hx hb dX11_winningRule_1 rfl (lv_at hl 0 rfl) ?_
  refine S_getV (n := 2) (C := RX11) (T := TX11) (N := 13) hx hb hg iX11 hown hK hW kd_0 rfl 0 (lt_b rfl) (hg (Cond.fieldLink RX11 10 "SlabWalk" "paving" "LSlabWalk$Paving;") m570) (fun _ h9 => h9) rfl hv_0_0 dX11_winningRule_2 ?_
  have b_2 : 0 ≤ (G.1 2 11).toInt ∧ (G.1 2 11).toInt ≤ 6 := bd_2_11 hB_G
  refine S_getI (v := (G.1 2 11)) (C := RX6) (T := TX6) (N := 17) hx hb hg iX6 hown hK hW kd_2 rfl 11 (lt_b rfl) (hg (Cond.fieldLink RX11 228 "SlabWalk$Paving" "rules" "I") m195) (fun _ h9 => h9) rfl rfl dX11_winningRule_5 ?_
  refine lv_ishl hx hb dX11_winningRule_8 ?_
  refine lv_topi (fun y_3 ey_3 => ?_)
  have ty_3 := sh6 (Y := (G.1 2 11).toInt) rfl ey_3 rfl (by omega) (by omega)
  refine ic_1 hx hb dX11_winningRule_9 ?_
  refine lv_isub hx hb dX11_winningRule_10 ?_
  refine lv_topi (fun y_4 ey_4 => ?_)
  have ty_4 : y_4.toInt = y_3.toInt - 1 := xI_sub rfl rfl ey_4 ((by first | (clear ha_p1 hci b_1 b_2; omega) | omega)) ((by first | (clear ha_p1 hci b_1 b_2; omega) | omega))
  refine lv_istore_n (lv' := [(3, .int y_4), (0, .ref (a 0)), (1, .int p0), (2, .int p1)]) hx hb dX11_winningRule_11 rfl hl (lt_b rfl) rfl (fun ls hl => ?_)
  refine lv_iload_n hx hb dX11_winningRule_12 rfl (lv_at hl 0 rfl) ?_
  refine lv_istore (lv' := [(4, .int y_4), (3, .int y_4), (0, .ref (a 0)), (1, .int p0), (2, .int p1)]) hx hb dX11_winningRule_13 hl (lt_b rfl) rfl (fun ls hl => ?_)
  refine loop_N (Inv := fun n H locs ls => ∃ (G_5 : GS) (x_9 : Int32), (n : Int) = x_9.toInt - (-1) ∧ ((-1) ≤ x_9.toInt ∧ x_9.toInt ≤ 63) ∧ Rc (St_k_wWin_2_1 p0 p1 y_4) (y_4, G) (x_9, G_5) ∧ Wd D k A a G_5 H ∧ Bd G_5 ∧ Fr [40, 42, 43, 46, 47] [] G G_5 ∧ Fr [40, 42, 43, 46, 47] [] G G_5 ∧ va_S A s.heap H locs ∧ lv_has ls 5 [(4, .int x_9), (3, .int y_4), (0, .ref (a 0)), (1, .int p0), (2, .int p1)]) (fun n_8 H locs ls ih_7 hI => ?_) (y_4.toInt - (-1) : Int).toNat ⟨G, y_4, (Int.toNat_of_nonneg ((by first | (clear ha_p1 hci b_1 b_2; omega) | omega))), ⟨(by first | (clear ha_p1 hci b_1 b_2; omega) | omega), (by first | (clear ha_p1 hci b_1 b_2; omega) | omega)⟩, Rc.rf, hW, hB_G, hF, Fr.rf, hS, lv_sub hl [0, 1, 2, 3, 4] rfl⟩
  obtain ⟨G_5, x_9, hn_12, f_11, hX_10, hW, hB_G_5, hF, hq_6, hS, hl⟩ := hI
  refine lv_iload hx hb dX11_winningRule_15 (lv_at hl 0 rfl) ?_
  refine lv_iload_n hx hb dX11_winningRule_17 rfl (lv_at hl 4 rfl) ?_
  refine lv_icmp_lt (tgt := 72) hx hb dX11_winningRule_18 rfl (fun c_13 => ?_) (fun c_13 => ?_)
  · have c_13 : x_9.toInt < p1.toInt := xI_lt rfl rfl c_13
    refine lv_aload_n hx hb dX11_winningRule_72 rfl (lv_at hl 2 rfl) ?_
    refine S_getR (n := 8) (C := RX11) (T := TX11) (N := 13) hx hb hg iX11 hown hK hW kd_0 rfl 6 (lt_b rfl) (hg (Cond.fieldLink RX11 51 "SlabWalk" "trails" "LSlabWalk$Trails;") m576) (fun _ h9 => h9) rfl dX11_winningRule_73 ?_
    refine S_getR (n := 46) (C := RX10) (T := TX10) (N := 5) hx hb hg iX10 hown hK hW kd_8 rfl 3 (lt_b rfl) (hg (Cond.fieldLink RX11 347 "SlabWalk$Trails" "winning" "[I") m444) (fun _ h9 => h9) rfl dX11_winningRule_76 ?_
    refine lv_iload_n hx hb dX11_winningRule_79 rfl (lv_at hl 4 rfl) ?_
    refine S_iald hx hb hK hW kd_46 (vin ((by first | (clear hci b_1 b_2 ty_4 hn_12; omega) | omega)) ((by first | (clear hci b_1 b_2 ty_4 hn_12; omega) | omega))) dX11_winningRule_80 (fun y_14 ey_14 => ?_)
    exact W.iret (v := y_14) hx hb hr (fun t ht _ => ⟨⟨y_14, G_5, rfl, (P_wWin_2_mk ⟨hB_G_5, hF, ⟨y_3, ey_3, ⟨y_4, ty_4, ⟨x_9, G_5, hX_10, f_11, hB_G_5, hq_6, ⟨c_13, ⟨y_14, ey_14, ⟨rfl, rfl⟩⟩⟩⟩⟩⟩⟩), wd_t ht hW⟩, hS.F ht⟩) hS.2.2 dX11_winningRule_81
  · have c_13 : p1.toInt ≤ x_9.toInt := xI_nlt rfl rfl c_13
    refine lv_iload hx hb dX11_winningRule_21 (lv_at hl 0 rfl) ?_
    refine lv_iload_n hx hb dX11_winningRule_23 rfl (lv_at hl 4 rfl) ?_
    refine lv_iand hx hb dX11_winningRule_24 ?_
    refine lv_topi (fun y_15 ey_15 => ?_)
    refine lv_iload_n hx hb dX11_winningRule_25 rfl (lv_at hl 4 rfl) ?_
    refine lv_icmp_ne (tgt := 66) hx hb dX11_winningRule_26 rfl (fun c_16 => ?_) (fun c_16 => ?_)
    · have c_16 : y_15.toInt ≠ p1.toInt := xI_ne rfl rfl c_16
      obtain ⟨y_17, ey_17⟩ : ∃ q, q = x_9 + (-1) := ⟨_, rfl⟩
      have ty_17 : y_17.toInt = x_9.toInt + (-1) := xI_add rfl rfl ey_17 ((by first | (clear hci b_1 b_2 ty_4 hn_12; omega) | omega)) ((by first | (clear hci b_1 b_2 ty_4 hn_12; omega) | omega))
      refine lv_iinc (v := y_17) (lv' := [(4, .int y_17), (3, .int y_4), (0, .ref (a 0)), (1, .int p0), (2, .int p1)]) hx hb dX11_winningRule_66 hl (k := 0) rfl (by rw [ey_17]; rfl) (lt_b rfl) rfl (fun ls hl => ?_)
      refine lv_goto (tgt := 15) hx hb dX11_winningRule_69 rfl ?_
      exact ih_7 (y_17.toInt - (-1) : Int).toNat ((by first | (clear hci b_1 b_2 ty_4; omega) | omega)) _ _ _ ⟨G_5, y_17, (Int.toNat_of_nonneg ((by first | (clear hci b_1 b_2 ty_4 hn_12; omega) | omega))), ⟨(by first | (clear hci b_1 b_2 ty_4 hn_12; omega) | omega), (by first | (clear hci b_1 b_2 ty_4 hn_12; omega) | omega)⟩, (hX_10.st (St_k_wWin_2_1_mk ⟨x_9, G_5, y_17, G_5, rfl, rfl, f_11, hB_G_5, ⟨c_13, ⟨y_15, ey_15, (Or.inr ⟨c_16, ⟨y_17, ty_17, ⟨rfl, rfl⟩⟩⟩)⟩⟩⟩)), hW, hB_G_5, hF, (Fr.call9 (rs := [40, 42, 43, 46, 47]) (fs := []) Fr.rf hq_6 rfl rfl), hS, lv_sub hl [0, 1, 2, 3, 4] rfl⟩
    · have c_16 : y_15.toInt = p1.toInt := xI_eq rfl rfl c_16
      refine lv_aload_n hx hb dX11_winningRule_29 rfl (lv_at hl 2 rfl) ?_
      refine S_getR (n := 8) (C := RX11) (T := TX11) (N := 13) hx hb hg iX11 hown hK hW kd_0 rfl 6 (lt_b rfl) (hg (Cond.fieldLink RX11 51 "SlabWalk" "trails" "LSlabWalk$Trails;") m576) (fun _ h9 => h9) rfl dX11_winningRule_30 ?_
      refine S_getR (n := 46) (C := RX10) (T := TX10) (N := 5) hx hb hg iX10 hown hK hW kd_8 rfl 3 (lt_b rfl) (hg (Cond.fieldLink RX11 347 "SlabWalk$Trails" "winning" "[I") m444) (fun _ h9 => h9) rfl dX11_winningRule_33 ?_
      refine lv_iload hx hb dX11_winningRule_36 (lv_at hl 0 rfl) ?_
      refine lv_aload_n hx hb dX11_winningRule_38 rfl (lv_at hl 2 rfl) ?_
      refine S_getR (n := 8) (C := RX11) (T := TX11) (N := 13) hx hb hg iX11 hown hK hW kd_0 rfl 6 (lt_b rfl) (hg (Cond.fieldLink RX11 51 "SlabWalk" "trails" "LSlabWalk$Trails;") m576) (fun _ h9 => h9) rfl dX11_winningRule_39 ?_
      refine lv_iload hx hb dX11_winningRule_42 (lv_at hl 0 rfl) ?_
      refine lv_iload_n hx hb dX11_winningRule_44 rfl (lv_at hl 1 rfl) ?_
      refine S_calli (va_runV (As := [.int x_9, .int y_4]) (rest := [.int x_9, .ref (a 46)]) ⟨hx, hb, hml, hown, hts⟩ (k_tWin l D k A a z G_5 x_9 y_4 ⟨(by first | (clear hci b_1 b_2 ty_4 hn_12; omega) | omega), (by first | (clear hci b_1 b_2 ty_4 hn_12; omega) | omega)⟩ ⟨(by first | (clear ha_p1 hci b_1 b_2 hn_12 f_11 c_13 c_16; omega) | omega), (by first | (clear ha_p1 hci b_1 b_2 hn_12 f_11 c_13 c_16; omega) | omega)⟩) (cwV 2 hts (gd_V hgd m1150 m1151 m1152 m124 m1153) rfl rfl rfl hd_X10_winningFrom ⟨Nat.le_of_ble_eq_true rfl, Nat.le_of_ble_eq_true rfl⟩) (pre_W hW hB_G_5 hK hZ hS kd_8 rfl) rfl rfl hl.1 rfl (lv_room (Nat.le_of_ble_eq_true rfl)) dX11_winningRule_45 ⟨Nat.le_of_ble_eq_true rfl, Nat.le_of_ble_eq_true rfl⟩) hS (fun r_18 G_19 H locs hpo hW hS => ?_)
      have hX_22 : P_tWin x_9 y_4 G_5 r_18 G_19 := hpo
      obtain ⟨hB_G_19, hq_20, -⟩ := hpo
      have hF := hF.call9 hq_20 rfl rfl
      refine S_iast hx hb hK hW hS kd_46 (vin ((by first | (clear hci b_1 b_2 ty_4 hn_12; omega) | omega)) ((by first | (clear hci b_1 b_2 ty_4 hn_12; omega) | omega))) dX11_winningRule_48 (fun G_23 H locs eG_23 hW hS => ?_)
      have hB_G_23 : Bd G_23 := hB_G_19.put (lo := (-2147483648)) (hi := 2147483647) eG_23 rfl rfl rfl (tI_rng _).1 (tI_rng _).2 (hB_G_19.2.put eG_23 rfl)
      have hF := hF.put eG_23 (Or.inl (by decide))
      refine lv_aload_n hx hb dX11_winningRule_49 rfl (lv_at hl 2 rfl) ?_
      refine S_getR (n := 8) (C := RX11) (T := TX11) (N := 13) hx hb hg iX11 hown hK hW kd_0 rfl 6 (lt_b rfl) (hg (Cond.fieldLink RX11 51 "SlabWalk" "trails" "LSlabWalk$Trails;") m576) (fun _ h9 => h9) rfl dX11_winningRule_50 ?_
      refine S_getR (n := 47) (C := RX10) (T := TX10) (N := 5) hx hb hg iX10 hown hK hW kd_8 rfl 4 (lt_b rfl) (hg (Cond.fieldLink RX11 353 "SlabWalk$Trails" "leaving" "[Z") m446) (fun _ h9 => h9) rfl dX11_winningRule_53 ?_
      refine lv_iload hx hb dX11_winningRule_56 (lv_at hl 0 rfl) ?_
      refine lv_aload_n hx hb dX11_winningRule_58 rfl (lv_at hl 2 rfl) ?_
      refine lv_iload_n hx hb dX11_winningRule_59 rfl (lv_at hl 3 rfl) ?_
      refine lv_iload hx hb dX11_winningRule_60 (lv_at hl 0 rfl) ?_
      have b_24 : 0 ≤ (G.1 7 3).toInt ∧ (G.1 7 3).toInt ≤ 60 := bd_7_3 hB_G
      have g_25 : (G_23.1 7 3).toInt = (G.1 7 3).toInt := (congrArg Int32.toInt (show G_23.1 7 3 = (G.1 7 3) from ((gp_ne eG_23 (fun q => absurd q.1 (Nat.ne_of_beq_eq_false rfl))).trans ((hq_20.i9 7 3 rfl rfl).trans (hq_6.i9 7 3 rfl rfl)))))
      have b_26 : 0 ≤ (G.1 7 4).toInt ∧ (G.1 7 4).toInt ≤ 60 := bd_7_4 hB_G
      have g_27 : (G_23.1 7 4).toInt = (G.1 7 4).toInt := (congrArg Int32.toInt (show G_23.1 7 4 = (G.1 7 4) from ((gp_ne eG_23 (fun q => absurd q.1 (Nat.ne_of_beq_eq_false rfl))).trans ((hq_20.i9 7 4 rfl rfl).trans (hq_6.i9 7 4 rfl rfl)))))
      have g_28 : (G_23.1 7 6).toInt = (G.1 7 6).toInt := (congrArg Int32.toInt (show G_23.1 7 6 = (G.1 7 6) from ((gp_ne eG_23 (fun q => absurd q.1 (Nat.ne_of_beq_eq_false rfl))).trans ((hq_20.i9 7 6 rfl rfl).trans ((hq_6.i9 7 6 rfl rfl).trans (rfl))))))
      have b_29 : 0 ≤ (G.1 7 7).toInt ∧ (G.1 7 7).toInt ≤ 400 := bd_7_7 hB_G
      have g_30 : (G_23.1 7 7).toInt = (G.1 7 7).toInt := (congrArg Int32.toInt (show G_23.1 7 7 = (G.1 7 7) from ((gp_ne eG_23 (fun q => absurd q.1 (Nat.ne_of_beq_eq_false rfl))).trans ((hq_20.i9 7 7 rfl rfl).trans (hq_6.i9 7 7 rfl rfl)))))
      refine S_calli (va_runV (As := [.int p0, .int x_9]) (rest := [.int x_9, .ref (a 47)]) ⟨hx, hb, hml, hown, hts⟩ (k_wLeaves_2 l D k A a z G_23 p0 x_9 ((((congrFun (congrFun (congrArg (fun q => q.2.2) eG_23) 0) 0).trans ((hq_20.r9 0 0 rfl rfl).trans (hq_6.r9 0 0 rfl rfl)))).trans (hv_0_0)) ((((congrFun (congrFun (congrArg (fun q => q.2.2) eG_23) 0) 1).trans ((hq_20.r9 0 1 rfl rfl).trans (hq_6.r9 0 1 rfl rfl)))).trans (hv_0_1)) ((((congrFun (congrFun (congrArg (fun q => q.2.2) eG_23) 6) 4).trans ((hq_20.r9 6 4 rfl rfl).trans (hq_6.r9 6 4 rfl rfl)))).trans (hv_6_4)) ((by first | exact ⟨((by first | (clear ha_p1 b_2 ty_4 hn_12 f_11 c_13 c_16; omega) | omega)), ⟨((by first | (clear ha_p1 b_2 ty_4 hn_12 f_11 c_13 c_16; omega) | omega)), ((by first | (clear ha_p1 b_2 ty_4 hn_12 f_11 c_13 c_16; omega) | omega))⟩⟩ | omega))) (cwV 2 hts (gd_V hgd m1154 m1156 m42 m117 m1157) rfl rfl rfl hd_X11_leavesWay ⟨Nat.le_of_ble_eq_true rfl, Nat.le_of_ble_eq_true rfl⟩) (pre_W hW hB_G_23 hK hZ hS kd_0 rfl) rfl rfl hl.1 rfl (lv_room (Nat.le_of_ble_eq_true rfl)) dX11_winningRule_62 ⟨Nat.le_of_ble_eq_true rfl, Nat.le_of_ble_eq_true rfl⟩) hS (fun r_31 G_32 H locs hpo hW hS => ?_)
      have hX_35 : P_wLeaves_2 p0 x_9 G_23 r_31 G_32 := hpo
      obtain ⟨hB_G_32, hq_33, f_36, hp_34, -⟩ := hpo
      have hF := hF.call9 hq_33 rfl rfl
      refine S_zast hx hb hK hW hS kd_47 (vin ((by first | (clear hci b_1 b_2 ty_4 hn_12 b_24 g_25 b_26 g_27 g_28 b_29 g_30 f_36 hp_34; omega) | omega)) ((by first | (clear hci b_1 b_2 ty_4 hn_12 b_24 g_25 b_26 g_27 g_28 b_29 g_30 f_36 hp_34; omega) | omega))) dX11_winningRule_65 (fun G_37 H locs eG_37 hW hS => ?_)
      have hB_G_37 : Bd G_37 := hB_G_32.put (lo := 0) (hi := 1) eG_37 rfl rfl rfl nz_bool.1 nz_bool.2 (hB_G_32.2.put eG_37 rfl)
      have hF := hF.put eG_37 (Or.inl (by decide))
      obtain ⟨y_38, ey_38⟩ : ∃ q, q = x_9 + (-1) := ⟨_, rfl⟩
      have ty_38 : y_38.toInt = x_9.toInt + (-1) := xI_add rfl rfl ey_38 ((by first | (clear hci b_1 b_2 ty_4 hn_12 b_24 g_25 b_26 g_27 g_28 b_29 g_30 f_36 hp_34; omega) | omega)) ((by first | (clear hci b_1 b_2 ty_4 hn_12 b_24 g_25 b_26 g_27 g_28 b_29 g_30 f_36 hp_34; omega) | omega))
      refine lv_iinc (v := y_38) (lv' := [(4, .int y_38), (3, .int y_4), (0, .ref (a 0)), (1, .int p0), (2, .int p1)]) hx hb dX11_winningRule_66 hl (k := 0) rfl (by rw [ey_38]; rfl) (lt_b rfl) rfl (fun ls hl => ?_)
      refine lv_goto (tgt := 15) hx hb dX11_winningRule_69 rfl ?_
      exact ih_7 (y_38.toInt - (-1) : Int).toNat ((by first | (clear hci b_1 b_2 ty_4 b_24 g_25 b_26 g_27 g_28 b_29 g_30 f_36 hp_34; omega) | omega)) _ _ _ ⟨G_37, y_38, (Int.toNat_of_nonneg ((by first | (clear hci b_1 b_2 ty_4 hn_12 b_24 g_25 b_26 g_27 g_28 b_29 g_30 f_36 hp_34; omega) | omega))), ⟨(by first | (clear hci b_1 b_2 ty_4 hn_12 b_24 g_25 b_26 g_27 g_28 b_29 g_30 f_36 hp_34; omega) | omega), (by first | (clear hci b_1 b_2 ty_4 hn_12 b_24 g_25 b_26 g_27 g_28 b_29 g_30 f_36 hp_34; omega) | omega)⟩, (hX_10.st (St_k_wWin_2_1_mk ⟨x_9, G_5, y_38, G_37, rfl, rfl, f_11, hB_G_5, ⟨c_13, ⟨y_15, ey_15, (Or.inl ⟨c_16, ⟨r_18, G_19, hX_22, ⟨G_23, hB_G_23, (Fr.put (rs := [46]) (fs := []) Fr.rf eG_23 (Or.inl (by decide))), rw_ast eG_23, ⟨r_31, G_32, hX_35, ⟨y_38, ty_38, ⟨rfl, (Fr.put (rs := [47]) (fs := []) Fr.rf eG_37 (Or.inl (by decide))), rw_ast eG_37⟩⟩⟩⟩⟩⟩)⟩⟩⟩)), hW, hB_G_37, hF, (Fr.put (rs := [40, 42, 43, 46, 47]) (fs := []) (Fr.call9 (rs := [40, 42, 43, 46, 47]) (fs := []) (Fr.put (rs := [40, 42, 43, 46, 47]) (fs := []) (Fr.call9 (rs := [40, 42, 43, 46, 47]) (fs := []) (Fr.call9 (rs := [40, 42, 43, 46, 47]) (fs := []) Fr.rf hq_6 rfl rfl) hq_20 rfl rfl) eG_23 (Or.inl (by decide))) hq_33 rfl rfl) eG_37 (Or.inl (by decide))), hS, lv_sub hl [0, 1, 2, 3, 4] rfl⟩

set_option maxHeartbeats 4000000 in
set_option maxRecDepth 100000 in
theorem k_wLSight_2 (l : Launch) (D : va_G) (k : KT) (A : Nat → Prop) (a : Nat → Nat) (z : SK) (G : GS) (p0 : Int32) (p1 : Int32) (p2 : Int32) (ha_p0 : 0 ≤ p0.toInt ∧ p0.toInt ≤ 19) (ha_p2 : -3 ≤ p2.toInt ∧ p2.toInt ≤ 3) (hv_0_0 : G.2.2 0 0 = 2) (hv_0_1 : G.2.2 0 1 = 1) (hv_6_4 : G.2.2 6 4 = 2) : Met l yX11_isLawfulSight (WS yX11_isLawfulSight cX11_isLawfulSight 5 (some .boolean)) ({ frames := 4, cells := 0, slots := 0, locals := 96 }) (va_Pc [.ref (a 0), .int p0, .int p1, .int p2] (cW D k A a z G)) (va_Qi (fun (r : Int32) (G1 : GS) => P_wLSight_2 p0 p1 p2 G r G1) (fun (G1 : GS) t => Wd D k A a G1 t.heap) A) 0 0 A := by
  refine Met.ofW (cc := cX11_isLawfulSight) (maxL := 5) (ret := (some .boolean)) (by decide) rfl ?_
  intro p e s m args below meth c s₁ B hml hv
  obtain ⟨rfl, hW, hB_G, hK, hZ⟩ := hv
  have hx := B.exec
  have hb := B.bytes
  have hr := B.returns
  have hts := atoms_spec (ws := WS yX11_isLawfulSight cX11_isLawfulSight 5 (some .boolean)) B.pre
  have hgd : ∀ w ∈ gd, w ∈ WS yX11_isLawfulSight cX11_isLawfulSight 5 (some .boolean) := fun w h => List.mem_cons_of_mem _ h
  have hg : ∀ w ∈ gd, w.before _ s = true := fun w h => hts w (hgd w h)
  have hown : s.vm.findClass RX11 = some m.cls := findClass_of_methodNamed B.named
  have hS : va_S A s.heap s.heap [] := va_S.rf
  have hF : Fr [37, 38, 39] [(6, 3)] G G := Fr.rf
  have hl := lv_entry ([.ref (a 0), .int p0, .int p1, .int p2]) (n := 5) (Nat.le_of_ble_eq_true rfl)
  rw [lg_entry_eq]
  generalize (lg_sl ([.ref (a 0), .int p0, .int p1, .int p2]) ++ List.replicate (5 - (lg_sl ([.ref (a 0), .int p0, .int p1, .int p2])).length) Slot.unset).toArray = ls at hl ⊢
  have hl : lv_has ls 5 [(0, .ref (a 0)), (1, .int p0), (2, .int p1), (3, .int p2)] := hl
  refine lv_aload_n hx hb dX11_isLawfulSight_0 rfl (lv_at hl 0 rfl) ?_
  refine S_getR (n := 31) (C := RX11) (T := TX11) (N := 13) hx hb hg iX11 hown hK hW kd_0 rfl 9 (lt_b rfl) (hg (Cond.fieldLink RX11 72 "SlabWalk" "sights" "LSlabWalk$Sights;") m579) (fun _ h9 => h9) rfl dX11_isLawfulSight_1 ?_
  refine S_getR (n := 63) (C := RX8) (T := TX8) (N := 7) hx hb hg iX8 hown hK hW kd_31 rfl 2 (lt_b rfl) (hg (Cond.fieldLink RX11 359 "SlabWalk$Sights" "heel" "[I") m525) (fun _ h9 => h9) rfl dX11_isLawfulSight_4 ?_
  refine lv_iload_n hx hb dX11_isLawfulSight_7 rfl (lv_at hl 1 rfl) ?_
  refine S_iald hx hb hK hW kd_63 (vin (by omega) (by omega)) dX11_isLawfulSight_8 (fun y_1 ey_1 => ?_)
  refine lv_iload_n hx hb dX11_isLawfulSight_9 rfl (lv_at hl 3 rfl) ?_
  refine lv_iadd hx hb dX11_isLawfulSight_10 ?_
  refine lv_topi (fun y_2 ey_2 => ?_)
  refine lv_istore (lv' := [(4, .int y_2), (0, .ref (a 0)), (1, .int p0), (2, .int p1), (3, .int p2)]) hx hb dX11_isLawfulSight_11 hl (lt_b rfl) rfl (fun ls hl => ?_)
  refine lv_aload_n hx hb dX11_isLawfulSight_13 rfl (lv_at hl 1 rfl) ?_
  refine S_getR (n := 6) (C := RX11) (T := TX11) (N := 13) hx hb hg iX11 hown hK hW kd_0 rfl 4 (lt_b rfl) (hg (Cond.fieldLink RX11 37 "SlabWalk" "lines" "LSlabWalk$Lines;") m574) (fun _ h9 => h9) rfl dX11_isLawfulSight_14 ?_
  refine lv_aload_n hx hb dX11_isLawfulSight_17 rfl (lv_at hl 1 rfl) ?_
  refine S_getR (n := 31) (C := RX11) (T := TX11) (N := 13) hx hb hg iX11 hown hK hW kd_0 rfl 9 (lt_b rfl) (hg (Cond.fieldLink RX11 72 "SlabWalk" "sights" "LSlabWalk$Sights;") m579) (fun _ h9 => h9) rfl dX11_isLawfulSight_18 ?_
  refine S_getR (n := 62) (C := RX8) (T := TX8) (N := 7) hx hb hg iX8 hown hK hW kd_31 rfl 1 (lt_b rfl) (hg (Cond.fieldLink RX11 362 "SlabWalk$Sights" "street" "[I") m523) (fun _ h9 => h9) rfl dX11_isLawfulSight_21 ?_
  refine lv_iload_n hx hb dX11_isLawfulSight_24 rfl (lv_at hl 2 rfl) ?_
  refine S_iald hx hb hK hW kd_62 (vin (by omega) (by omega)) dX11_isLawfulSight_25 (fun y_3 ey_3 => ?_)
  refine lv_aload_n hx hb dX11_isLawfulSight_26 rfl (lv_at hl 1 rfl) ?_
  refine S_calli (va_runV (As := []) (rest := [.int y_3, .ref (a 6)]) ⟨hx, hb, hml, hown, hts⟩ (k_wToday l D k A a z G  ) (cwV 0 hts (gd_V hgd m911 m913 m27 m117 m914) rfl rfl rfl hd_X11_today ⟨Nat.le_of_ble_eq_true rfl, Nat.le_of_ble_eq_true rfl⟩) (pre_W hW hB_G hK hZ hS kd_0 rfl) rfl rfl hl.1 rfl (lv_room (Nat.le_of_ble_eq_true rfl)) dX11_isLawfulSight_27 ⟨Nat.le_of_ble_eq_true rfl, Nat.le_of_ble_eq_true rfl⟩) hS (fun r_4 G_5 H locs hpo hW hS => ?_)
  have hX_8 : P_wToday G r_4 G_5 := hpo
  obtain ⟨hB_G_5, hq_6, -⟩ := hpo
  have hF := hF.call9 hq_6 rfl rfl
  refine S_callv (va_runV (As := [.int y_3, .int r_4]) (rest := []) ⟨hx, hb, hml, hown, hts⟩ (k_lFind_2 l D k A a z G_5 y_3 r_4 (((hq_6.r9 6 4 rfl rfl)).trans (hv_6_4))) (cwV 2 hts (gd_V hgd m915 m916 m917 m122 m918) rfl rfl rfl hd_X3_findFor ⟨Nat.le_of_ble_eq_true rfl, Nat.le_of_ble_eq_true rfl⟩) (pre_W hW hB_G_5 hK hZ hS kd_6 rfl) rfl rfl hl.1 rfl (lv_room (Nat.le_of_ble_eq_true rfl)) dX11_isLawfulSight_30 ⟨Nat.le_of_ble_eq_true rfl, Nat.le_of_ble_eq_true rfl⟩) hS (fun G_10 H locs hpo hW hS => ?_)
  have hX_13 : P_lFind_2 y_3 r_4 G_5 G_10 := hpo
  obtain ⟨hB_G_10, hq_11, -⟩ := hpo
  have hF := hF.call9 hq_11 rfl rfl
  refine lv_aload_n hx hb dX11_isLawfulSight_33 rfl (lv_at hl 1 rfl) ?_
  refine S_getR (n := 6) (C := RX11) (T := TX11) (N := 13) hx hb hg iX11 hown hK hW kd_0 rfl 4 (lt_b rfl) (hg (Cond.fieldLink RX11 37 "SlabWalk" "lines" "LSlabWalk$Lines;") m574) (fun _ h9 => h9) rfl dX11_isLawfulSight_34 ?_
  refine lv_aload_n hx hb dX11_isLawfulSight_37 rfl (lv_at hl 1 rfl) ?_
  refine S_getR (n := 31) (C := RX11) (T := TX11) (N := 13) hx hb hg iX11 hown hK hW kd_0 rfl 9 (lt_b rfl) (hg (Cond.fieldLink RX11 72 "SlabWalk" "sights" "LSlabWalk$Sights;") m579) (fun _ h9 => h9) rfl dX11_isLawfulSight_38 ?_
  refine S_getR (n := 61) (C := RX8) (T := TX8) (N := 7) hx hb hg iX8 hown hK hW kd_31 rfl 0 (lt_b rfl) (hg (Cond.fieldLink RX11 365 "SlabWalk$Sights" "walker" "[I") m521) (fun _ h9 => h9) rfl dX11_isLawfulSight_41 ?_
  refine lv_iload_n hx hb dX11_isLawfulSight_44 rfl (lv_at hl 2 rfl) ?_
  refine S_iald hx hb hK hW kd_61 (vin (by omega) (by omega)) dX11_isLawfulSight_45 (fun y_14 ey_14 => ?_)
  refine lv_aload_n hx hb dX11_isLawfulSight_46 rfl (lv_at hl 1 rfl) ?_
  refine S_getR (n := 31) (C := RX11) (T := TX11) (N := 13) hx hb hg iX11 hown hK hW kd_0 rfl 9 (lt_b rfl) (hg (Cond.fieldLink RX11 72 "SlabWalk" "sights" "LSlabWalk$Sights;") m579) (fun _ h9 => h9) rfl dX11_isLawfulSight_47 ?_
  refine S_getR (n := 62) (C := RX8) (T := TX8) (N := 7) hx hb hg iX8 hown hK hW kd_31 rfl 1 (lt_b rfl) (hg (Cond.fieldLink RX11 362 "SlabWalk$Sights" "street" "[I") m523) (fun _ h9 => h9) rfl dX11_isLawfulSight_50 ?_
  refine lv_iload_n hx hb dX11_isLawfulSight_53 rfl (lv_at hl 2 rfl) ?_
  refine S_iald hx hb hK hW kd_62 (vin (by omega) (by omega)) dX11_isLawfulSight_54 (fun y_15 ey_15 => ?_)
  refine ic_1 hx hb dX11_isLawfulSight_55 ?_
  refine lv_iload_n hx hb dX11_isLawfulSight_56 rfl (lv_at hl 3 rfl) ?_
  refine lv_ishl hx hb dX11_isLawfulSight_57 ?_
  refine lv_topi (fun y_16 ey_16 => ?_)
  refine lv_iload hx hb dX11_isLawfulSight_58 (lv_at hl 0 rfl) ?_
  refine S_calli (va_runV (As := [.int y_14, .int y_15, .int y_16, .int y_2]) (rest := []) ⟨hx, hb, hml, hown, hts⟩ (k_lIsLawful_2 l D k A a z G_10 y_14 y_15 y_16 y_2 ((((hq_11.r9 6 4 rfl rfl).trans (hq_6.r9 6 4 rfl rfl))).trans (hv_6_4))) (cwV 4 hts (gd_V hgd m961 m962 m963 m122 m964) rfl rfl rfl hd_X3_isLawful ⟨Nat.le_of_ble_eq_true rfl, Nat.le_of_ble_eq_true rfl⟩) (pre_W hW hB_G_10 hK hZ hS kd_6 rfl) rfl rfl hl.1 rfl (lv_room (Nat.le_of_ble_eq_true rfl)) dX11_isLawfulSight_60 ⟨Nat.le_of_ble_eq_true rfl, Nat.le_of_ble_eq_true rfl⟩) hS (fun r_17 G_18 H locs hpo hW hS => ?_)
  have hX_21 : P_lIsLawful_2 y_14 y_15 y_16 y_2 G_10 r_17 G_18 := hpo
  obtain ⟨hB_G_18, hq_19, f_22, -⟩ := hpo
  have hF := hF.call9 hq_19 rfl rfl
  exact W.zret (v := r_17) hx hb hr (nar_z (by omega) (by omega)) (fun t ht _ => ⟨⟨r_17, G_18, rfl, (P_wLSight_2_mk ⟨hB_G_18, hF, ⟨by omega, by omega⟩, ⟨y_1, ey_1, ⟨y_2, ey_2, ⟨y_3, ey_3, ⟨r_4, G_5, hX_8, ⟨G_10, hX_13, ⟨y_14, ey_14, ⟨y_15, ey_15, ⟨y_16, ey_16, ⟨r_17, G_18, hX_21, ⟨rfl, rfl⟩⟩⟩⟩⟩⟩⟩⟩⟩⟩⟩), wd_t ht hW⟩, hS.F ht⟩) hS.2.2 dX11_isLawfulSight_63

set_option maxHeartbeats 4000000 in
set_option maxRecDepth 100000 in
theorem k_wFitsAll_2 (l : Launch) (D : va_G) (k : KT) (A : Nat → Prop) (a : Nat → Nat) (z : SK) (G : GS) (p0 : Int32) (p1 : Int32) (hv_0_0 : G.2.2 0 0 = 2) (hv_0_1 : G.2.2 0 1 = 1) (hv_6_4 : G.2.2 6 4 = 2) : Met l yX11_fitsAll (WS yX11_fitsAll cX11_fitsAll 4 (some .boolean)) ({ frames := 5, cells := 0, slots := 0, locals := 120 }) (va_Pc [.ref (a 0), .int p0, .int p1] (cW D k A a z G)) (va_Qi (fun (r : Int32) (G1 : GS) => P_wFitsAll_2 p0 p1 G r G1) (fun (G1 : GS) t => Wd D k A a G1 t.heap) A) 0 0 A := by
  refine Met.ofW (cc := cX11_fitsAll) (maxL := 4) (ret := (some .boolean)) (by decide) rfl ?_
  intro p e s m args below meth c s₁ B hml hv
  obtain ⟨rfl, hW, hB_G, hK, hZ⟩ := hv
  have hx := B.exec
  have hb := B.bytes
  have hr := B.returns
  have hts := atoms_spec (ws := WS yX11_fitsAll cX11_fitsAll 4 (some .boolean)) B.pre
  have hgd : ∀ w ∈ gd, w ∈ WS yX11_fitsAll cX11_fitsAll 4 (some .boolean) := fun w h => List.mem_cons_of_mem _ h
  have hg : ∀ w ∈ gd, w.before _ s = true := fun w h => hts w (hgd w h)
  have hown : s.vm.findClass RX11 = some m.cls := findClass_of_methodNamed B.named
  have hS : va_S A s.heap s.heap [] := va_S.rf
  have hF : Fr [37, 38, 39] [(6, 3)] G G := Fr.rf
  have hl := lv_entry ([.ref (a 0), .int p0, .int p1]) (n := 4) (Nat.le_of_ble_eq_true rfl)
  rw [lg_entry_eq]
  generalize (lg_sl ([.ref (a 0), .int p0, .int p1]) ++ List.replicate (4 - (lg_sl ([.ref (a 0), .int p0, .int p1])).length) Slot.unset).toArray = ls at hl ⊢
  have hl : lv_has ls 4 [(0, .ref (a 0)), (1, .int p0), (2, .int p1)] := hl
  refine ic_0 hx hb dX11_fitsAll_0 ?_
  refine lv_istore_n (lv' := [(3, .int 0), (0, .ref (a 0)), (1, .int p0), (2, .int p1)]) hx hb dX11_fitsAll_1 rfl hl (lt_b rfl) rfl (fun ls hl => ?_)
  have qc_7 : (0 : Int32).toInt = 0 := rfl
  refine loop_N (Inv := fun n H locs ls => ∃ (G_1 : GS) (x_5 : Int32), (n : Int) = 20 - x_5.toInt ∧ (0 ≤ x_5.toInt ∧ x_5.toInt ≤ 20) ∧ Rc (St_k_wFitsAll_2_1 p0 p1 G) (0, G) (x_5, G_1) ∧ Wd D k A a G_1 H ∧ Bd G_1 ∧ Fr [37, 38, 39] [(6, 3)] G G_1 ∧ Fr [37, 38, 39] [(6, 3)] G G_1 ∧ va_S A s.heap H locs ∧ lv_has ls 4 [(3, .int x_5), (0, .ref (a 0)), (1, .int p0), (2, .int p1)]) (fun n_4 H locs ls ih_3 hI => ?_) (20 - 0 : Int).toNat ⟨G, 0, (Int.toNat_of_nonneg (by omega)), ⟨by omega, by omega⟩, Rc.rf, hW, hB_G, hF, Fr.rf, hS, lv_sub hl [0, 1, 2, 3] rfl⟩
  obtain ⟨G_1, x_5, hn_9, f_8, hX_6, hW, hB_G_1, hF, hq_2, hS, hl⟩ := hI
  refine lv_iload_n hx hb dX11_fitsAll_2 rfl (lv_at hl 0 rfl) ?_
  refine lv_aload_n hx hb dX11_fitsAll_3 rfl (lv_at hl 1 rfl) ?_
  refine S_getR (n := 31) (C := RX11) (T := TX11) (N := 13) hx hb hg iX11 hown hK hW kd_0 rfl 9 (lt_b rfl) (hg (Cond.fieldLink RX11 72 "SlabWalk" "sights" "LSlabWalk$Sights;") m579) (fun _ h9 => h9) rfl dX11_fitsAll_4 ?_
  have b_10 : 0 ≤ (G.1 31 5).toInt ∧ (G.1 31 5).toInt ≤ 20 := bd_31_5 hB_G
  refine S_getI (v := (G.1 31 5)) (C := RX8) (T := TX8) (N := 7) hx hb hg iX8 hown hK hW kd_31 rfl 5 (lt_b rfl) (hg (Cond.fieldLink RX11 285 "SlabWalk$Sights" "count" "I") m529) (fun _ h9 => h9) rfl (hq_2.i9 31 5 rfl rfl) dX11_fitsAll_7 ?_
  refine lv_icmp_ge (tgt := 43) hx hb dX11_fitsAll_10 rfl (fun c_11 => ?_) (fun c_11 => ?_)
  · have c_11 : (G.1 31 5).toInt ≤ x_5.toInt := xI_le rfl rfl c_11
    refine ic_1 hx hb dX11_fitsAll_43 ?_
    exact W.zret (v := 1) hx hb hr (by decide) (fun t ht _ => ⟨⟨1, G_1, rfl, (P_wFitsAll_2_mk ⟨hB_G_1, hF, ⟨by decide, by decide⟩, ⟨x_5, G_1, hX_6, f_8, hB_G_1, hq_2, (Or.inl ⟨c_11, ⟨rfl, rfl⟩⟩)⟩⟩), wd_t ht hW⟩, hS.F ht⟩) hS.2.2 dX11_fitsAll_44
  · have c_11 : x_5.toInt < (G.1 31 5).toInt := xI_nle rfl rfl c_11
    refine lv_aload_n hx hb dX11_fitsAll_13 rfl (lv_at hl 1 rfl) ?_
    refine S_getR (n := 31) (C := RX11) (T := TX11) (N := 13) hx hb hg iX11 hown hK hW kd_0 rfl 9 (lt_b rfl) (hg (Cond.fieldLink RX11 72 "SlabWalk" "sights" "LSlabWalk$Sights;") m579) (fun _ h9 => h9) rfl dX11_fitsAll_14 ?_
    refine lv_iload_n hx hb dX11_fitsAll_17 rfl (lv_at hl 0 rfl) ?_
    refine lv_iload_n hx hb dX11_fitsAll_18 rfl (lv_at hl 3 rfl) ?_
    refine S_calli (va_runV (As := [.int x_5, .int p1]) (rest := []) ⟨hx, hb, hml, hown, hts⟩ (k_sCounts l D k A a z G_1 x_5 p1 ⟨by omega, by omega⟩) (cwV 2 hts (gd_V hgd m1271 m1272 m1273 m128 m1274) rfl rfl rfl hd_X8_counts ⟨Nat.le_of_ble_eq_true rfl, Nat.le_of_ble_eq_true rfl⟩) (pre_W hW hB_G_1 hK hZ hS kd_31 rfl) rfl rfl hl.1 rfl (lv_room (Nat.le_of_ble_eq_true rfl)) dX11_fitsAll_19 ⟨Nat.le_of_ble_eq_true rfl, Nat.le_of_ble_eq_true rfl⟩) hS (fun r_12 G_13 H locs hpo hW hS => ?_)
    have hX_16 : P_sCounts x_5 p1 G_1 r_12 G_13 := hpo
    obtain ⟨hB_G_13, hq_14, f_17, -⟩ := hpo
    have hF := hF.call9 hq_14 rfl rfl
    refine lv_if_eq (tgt := 37) hx hb dX11_fitsAll_22 rfl (fun c_18 => ?_) (fun c_18 => ?_)
    · have c_18 : r_12.toInt = 0 := xI_eq rfl rfl c_18
      obtain ⟨y_19, ey_19⟩ : ∃ q, q = x_5 + 1 := ⟨_, rfl⟩
      have ty_19 : y_19.toInt = x_5.toInt + 1 := xI_add rfl rfl ey_19 ((by first | (clear hn_9 f_17 c_18; omega) | omega)) ((by first | (clear hn_9 f_17 c_18; omega) | omega))
      refine lv_iinc (v := y_19) (lv' := [(3, .int y_19), (0, .ref (a 0)), (1, .int p0), (2, .int p1)]) hx hb dX11_fitsAll_37 hl (k := 0) rfl (by rw [ey_19]; rfl) (lt_b rfl) rfl (fun ls hl => ?_)
      refine lv_goto (tgt := 2) hx hb dX11_fitsAll_40 rfl ?_
      exact ih_3 (20 - y_19.toInt : Int).toNat (by omega) _ _ _ ⟨G_13, y_19, (Int.toNat_of_nonneg ((by first | (clear hn_9 f_17 c_18; omega) | omega))), ⟨(by first | (clear hn_9 f_17 c_18; omega) | omega), (by first | (clear hn_9 f_17 c_18; omega) | omega)⟩, (hX_6.st (St_k_wFitsAll_2_1_mk ⟨x_5, G_1, y_19, G_13, rfl, rfl, f_8, hB_G_1, ⟨c_11, ⟨r_12, G_13, hX_16, (Or.inl ⟨c_18, ⟨y_19, ty_19, ⟨rfl, rfl⟩⟩⟩)⟩⟩⟩)), hW, hB_G_13, hF, (Fr.call9 (rs := [37, 38, 39]) (fs := [(6, 3)]) (Fr.call9 (rs := [37, 38, 39]) (fs := [(6, 3)]) Fr.rf hq_2 rfl rfl) hq_14 rfl rfl), hS, lv_sub hl [0, 1, 2, 3] rfl⟩
    · have c_18 : r_12.toInt ≠ 0 := xI_ne rfl rfl c_18
      refine lv_aload_n hx hb dX11_fitsAll_25 rfl (lv_at hl 1 rfl) ?_
      refine lv_iload_n hx hb dX11_fitsAll_26 rfl (lv_at hl 0 rfl) ?_
      refine lv_iload_n hx hb dX11_fitsAll_27 rfl (lv_at hl 2 rfl) ?_
      refine ic_0 hx hb dX11_fitsAll_28 ?_
      refine S_calli (va_runV (As := [.int x_5, .int p0, .int 0]) (rest := []) ⟨hx, hb, hml, hown, hts⟩ (k_wLSight_2 l D k A a z G_13 x_5 p0 0 ⟨(by first | (clear hn_9 f_17 c_18; omega) | omega), (by first | (clear hn_9 f_17 c_18; omega) | omega)⟩ ⟨by decide, by decide⟩ ((((hq_14.r9 0 0 rfl rfl).trans (hq_2.r9 0 0 rfl rfl))).trans (hv_0_0)) ((((hq_14.r9 0 1 rfl rfl).trans (hq_2.r9 0 1 rfl rfl))).trans (hv_0_1)) ((((hq_14.r9 6 4 rfl rfl).trans (hq_2.r9 6 4 rfl rfl))).trans (hv_6_4))) (cwV 3 hts (gd_V hgd m1275 m1277 m46 m117 m1278) rfl rfl rfl hd_X11_isLawfulSight ⟨Nat.le_of_ble_eq_true rfl, Nat.le_of_ble_eq_true rfl⟩) (pre_W hW hB_G_13 hK hZ hS kd_0 rfl) rfl rfl hl.1 rfl (lv_room (Nat.le_of_ble_eq_true rfl)) dX11_fitsAll_29 ⟨Nat.le_of_ble_eq_true rfl, Nat.le_of_ble_eq_true rfl⟩) hS (fun r_20 G_21 H locs hpo hW hS => ?_)
      have hX_24 : P_wLSight_2 x_5 p0 0 G_13 r_20 G_21 := hpo
      obtain ⟨hB_G_21, hq_22, f_25, -⟩ := hpo
      have hF := hF.call9 hq_22 rfl rfl
      refine lv_if_ne (tgt := 37) hx hb dX11_fitsAll_32 rfl (fun c_26 => ?_) (fun c_26 => ?_)
      · have c_26 : r_20.toInt ≠ 0 := xI_ne rfl rfl c_26
        obtain ⟨y_27, ey_27⟩ : ∃ q, q = x_5 + 1 := ⟨_, rfl⟩
        have ty_27 : y_27.toInt = x_5.toInt + 1 := xI_add rfl rfl ey_27 ((by first | (clear hn_9 f_17 c_18 f_25 c_26; omega) | omega)) ((by first | (clear hn_9 f_17 c_18 f_25 c_26; omega) | omega))
        refine lv_iinc (v := y_27) (lv' := [(3, .int y_27), (0, .ref (a 0)), (1, .int p0), (2, .int p1)]) hx hb dX11_fitsAll_37 hl (k := 0) rfl (by rw [ey_27]; rfl) (lt_b rfl) rfl (fun ls hl => ?_)
        refine lv_goto (tgt := 2) hx hb dX11_fitsAll_40 rfl ?_
        exact ih_3 (20 - y_27.toInt : Int).toNat ((by first | (clear f_17 c_18 f_25 c_26; omega) | omega)) _ _ _ ⟨G_21, y_27, (Int.toNat_of_nonneg ((by first | (clear hn_9 f_17 c_18 f_25 c_26; omega) | omega))), ⟨(by first | (clear hn_9 f_17 c_18 f_25 c_26; omega) | omega), (by first | (clear hn_9 f_17 c_18 f_25 c_26; omega) | omega)⟩, (hX_6.st (St_k_wFitsAll_2_1_mk ⟨x_5, G_1, y_27, G_21, rfl, rfl, f_8, hB_G_1, ⟨c_11, ⟨r_12, G_13, hX_16, (Or.inr ⟨c_18, ⟨r_20, G_21, hX_24, ⟨c_26, ⟨y_27, ty_27, ⟨rfl, rfl⟩⟩⟩⟩⟩)⟩⟩⟩)), hW, hB_G_21, hF, (Fr.call9 (rs := [37, 38, 39]) (fs := [(6, 3)]) (Fr.call9 (rs := [37, 38, 39]) (fs := [(6, 3)]) (Fr.call9 (rs := [37, 38, 39]) (fs := [(6, 3)]) Fr.rf hq_2 rfl rfl) hq_14 rfl rfl) hq_22 rfl rfl), hS, lv_sub hl [0, 1, 2, 3] rfl⟩
      · have c_26 : r_20.toInt = 0 := xI_eq rfl rfl c_26
        refine ic_0 hx hb dX11_fitsAll_35 ?_
        exact W.zret (v := 0) hx hb hr (by decide) (fun t ht _ => ⟨⟨0, G_21, rfl, (P_wFitsAll_2_mk ⟨hB_G_21, hF, ⟨by decide, by decide⟩, ⟨x_5, G_1, hX_6, f_8, hB_G_1, hq_2, (Or.inr ⟨c_11, ⟨r_12, G_13, hX_16, ⟨c_18, ⟨r_20, G_21, hX_24, ⟨c_26, ⟨rfl, rfl⟩⟩⟩⟩⟩⟩)⟩⟩), wd_t ht hW⟩, hS.F ht⟩) hS.2.2 dX11_fitsAll_36

set_option maxHeartbeats 4000000 in
set_option maxRecDepth 100000 in
theorem k_wNear_2 (l : Launch) (D : va_G) (k : KT) (A : Nat → Prop) (a : Nat → Nat) (z : SK) (G : GS) (p0 : Int32) (p1 : Int32) (p2 : Int32) (ha_p0 : 0 ≤ p0.toInt ∧ p0.toInt ≤ 19) (ha_p2 : 0 ≤ p2.toInt ∧ p2.toInt ≤ 1) (hv_0_0 : G.2.2 0 0 = 2) (hv_0_1 : G.2.2 0 1 = 1) (hv_6_4 : G.2.2 6 4 = 2) : Met l yX11_heelsNear (WS yX11_heelsNear cX11_heelsNear 6 (some .int)) ({ frames := 5, cells := 0, slots := 0, locals := 120 }) (va_Pc [.ref (a 0), .int p0, .int p1, .int p2] (cW D k A a z G)) (va_Qi (fun (r : Int32) (G1 : GS) => P_wNear_2 p0 p1 p2 G r G1) (fun (G1 : GS) t => Wd D k A a G1 t.heap) A) 0 0 A := by
  refine Met.ofW (cc := cX11_heelsNear) (maxL := 6) (ret := (some .int)) (by decide) rfl ?_
  intro p e s m args below meth c s₁ B hml hv
  obtain ⟨rfl, hW, hB_G, hK, hZ⟩ := hv
  have hx := B.exec
  have hb := B.bytes
  have hr := B.returns
  have hts := atoms_spec (ws := WS yX11_heelsNear cX11_heelsNear 6 (some .int)) B.pre
  have hgd : ∀ w ∈ gd, w ∈ WS yX11_heelsNear cX11_heelsNear 6 (some .int) := fun w h => List.mem_cons_of_mem _ h
  have hg : ∀ w ∈ gd, w.before _ s = true := fun w h => hts w (hgd w h)
  have hown : s.vm.findClass RX11 = some m.cls := findClass_of_methodNamed B.named
  have hS : va_S A s.heap s.heap [] := va_S.rf
  have hF : Fr [37, 38, 39] [(6, 3)] G G := Fr.rf
  have hl := lv_entry ([.ref (a 0), .int p0, .int p1, .int p2]) (n := 6) (Nat.le_of_ble_eq_true rfl)
  rw [lg_entry_eq]
  generalize (lg_sl ([.ref (a 0), .int p0, .int p1, .int p2]) ++ List.replicate (6 - (lg_sl ([.ref (a 0), .int p0, .int p1, .int p2])).length) Slot.unset).toArray = ls at hl ⊢
  have hl : lv_has ls 6 [(0, .ref (a 0)), (1, .int p0), (2, .int p1), (3, .int p2)] := hl
  refine ic_0 hx hb dX11_heelsNear_0 ?_
  refine lv_istore (lv' := [(4, .int 0), (0, .ref (a 0)), (1, .int p0), (2, .int p1), (3, .int p2)]) hx hb dX11_heelsNear_1 hl (lt_b rfl) rfl (fun ls hl => ?_)
  refine lv_bipush (v := (-3)) hx hb dX11_heelsNear_3 (by decide) ?_
  refine lv_istore (lv' := [(5, .int (-3)), (4, .int 0), (0, .ref (a 0)), (1, .int p0), (2, .int p1), (3, .int p2)]) hx hb dX11_heelsNear_5 hl (lt_b rfl) rfl (fun ls hl => ?_)
  have qc_8 : ((-3) : Int32).toInt = (-3) := rfl
  have qc_9 : (0 : Int32).toInt = 0 := rfl
  refine loop_N (Inv := fun n H locs ls => ∃ (G_1 : GS) (x_5 : Int32) (x_6 : Int32), (n : Int) = 4 - x_5.toInt ∧ ((-3) ≤ x_5.toInt ∧ x_5.toInt ≤ 4) ∧ Rc (St_k_wNear_2_1 p0 p1 p2) ((-3), 0, G) (x_5, x_6, G_1) ∧ Wd D k A a G_1 H ∧ Bd G_1 ∧ Fr [37, 38, 39] [(6, 3)] G G_1 ∧ Fr [37, 38, 39] [(6, 3)] G G_1 ∧ va_S A s.heap H locs ∧ lv_has ls 6 [(5, .int x_5), (4, .int x_6), (0, .ref (a 0)), (1, .int p0), (2, .int p1), (3, .int p2)]) (fun n_4 H locs ls ih_3 hI => ?_) (4 - (-3) : Int).toNat ⟨G, (-3), 0, (Int.toNat_of_nonneg (by omega)), ⟨by omega, by omega⟩, Rc.rf, hW, hB_G, hF, Fr.rf, hS, lv_sub hl [0, 1, 2, 3, 4, 5] rfl⟩
  obtain ⟨G_1, x_5, x_6, hn_11, f_10, hX_7, hW, hB_G_1, hF, hq_2, hS, hl⟩ := hI
  refine lv_iload hx hb dX11_heelsNear_7 (lv_at hl 0 rfl) ?_
  refine ic_3 hx hb dX11_heelsNear_9 ?_
  refine lv_icmp_gt (tgt := 77) hx hb dX11_heelsNear_10 rfl (fun c_12 => ?_) (fun c_12 => ?_)
  · have c_12 : 3 < x_5.toInt := xI_lt rfl rfl c_12
    refine lv_iload hx hb dX11_heelsNear_77 (lv_at hl 1 rfl) ?_
    exact W.iret (v := x_6) hx hb hr (fun t ht _ => ⟨⟨x_6, G_1, rfl, (P_wNear_2_mk ⟨hB_G_1, hF, ⟨x_5, x_6, G_1, hX_7, f_10, hB_G_1, hq_2, ⟨c_12, ⟨rfl, rfl⟩⟩⟩⟩), wd_t ht hW⟩, hS.F ht⟩) hS.2.2 dX11_heelsNear_79
  · have c_12 : x_5.toInt ≤ 3 := xI_nlt rfl rfl c_12
    refine lv_aload_n hx hb dX11_heelsNear_13 rfl (lv_at hl 2 rfl) ?_
    refine S_getV (n := 2) (C := RX11) (T := TX11) (N := 13) hx hb hg iX11 hown hK hW kd_0 rfl 0 (lt_b rfl) (hg (Cond.fieldLink RX11 10 "SlabWalk" "paving" "LSlabWalk$Paving;") m570) (fun _ h9 => h9) rfl (((hq_2.r9 0 0 rfl rfl)).trans (hv_0_0)) dX11_heelsNear_14 ?_
    refine lv_aload_n hx hb dX11_heelsNear_17 rfl (lv_at hl 2 rfl) ?_
    refine S_getR (n := 31) (C := RX11) (T := TX11) (N := 13) hx hb hg iX11 hown hK hW kd_0 rfl 9 (lt_b rfl) (hg (Cond.fieldLink RX11 72 "SlabWalk" "sights" "LSlabWalk$Sights;") m579) (fun _ h9 => h9) rfl dX11_heelsNear_18 ?_
    refine S_getR (n := 61) (C := RX8) (T := TX8) (N := 7) hx hb hg iX8 hown hK hW kd_31 rfl 0 (lt_b rfl) (hg (Cond.fieldLink RX11 365 "SlabWalk$Sights" "walker" "[I") m521) (fun _ h9 => h9) rfl dX11_heelsNear_21 ?_
    refine lv_iload_n hx hb dX11_heelsNear_24 rfl (lv_at hl 3 rfl) ?_
    refine S_iald hx hb hK hW kd_61 (vin ((by first | (clear ha_p2 hn_11 f_10 c_12; omega) | omega)) ((by first | (clear ha_p2 hn_11 f_10 c_12; omega) | omega))) dX11_heelsNear_25 (fun y_13 ey_13 => ?_)
    refine lv_aload_n hx hb dX11_heelsNear_26 rfl (lv_at hl 2 rfl) ?_
    refine S_getR (n := 31) (C := RX11) (T := TX11) (N := 13) hx hb hg iX11 hown hK hW kd_0 rfl 9 (lt_b rfl) (hg (Cond.fieldLink RX11 72 "SlabWalk" "sights" "LSlabWalk$Sights;") m579) (fun _ h9 => h9) rfl dX11_heelsNear_27 ?_
    refine S_getR (n := 62) (C := RX8) (T := TX8) (N := 7) hx hb hg iX8 hown hK hW kd_31 rfl 1 (lt_b rfl) (hg (Cond.fieldLink RX11 362 "SlabWalk$Sights" "street" "[I") m523) (fun _ h9 => h9) rfl dX11_heelsNear_30 ?_
    refine lv_iload_n hx hb dX11_heelsNear_33 rfl (lv_at hl 3 rfl) ?_
    refine S_iald hx hb hK hW kd_62 (vin ((by first | (clear ha_p2 hn_11 f_10 c_12; omega) | omega)) ((by first | (clear ha_p2 hn_11 f_10 c_12; omega) | omega))) dX11_heelsNear_34 (fun y_14 ey_14 => ?_)
    refine lv_aload_n hx hb dX11_heelsNear_35 rfl (lv_at hl 2 rfl) ?_
    refine S_getR (n := 31) (C := RX11) (T := TX11) (N := 13) hx hb hg iX11 hown hK hW kd_0 rfl 9 (lt_b rfl) (hg (Cond.fieldLink RX11 72 "SlabWalk" "sights" "LSlabWalk$Sights;") m579) (fun _ h9 => h9) rfl dX11_heelsNear_36 ?_
    refine S_getR (n := 63) (C := RX8) (T := TX8) (N := 7) hx hb hg iX8 hown hK hW kd_31 rfl 2 (lt_b rfl) (hg (Cond.fieldLink RX11 359 "SlabWalk$Sights" "heel" "[I") m525) (fun _ h9 => h9) rfl dX11_heelsNear_39 ?_
    refine lv_iload_n hx hb dX11_heelsNear_42 rfl (lv_at hl 3 rfl) ?_
    refine S_iald hx hb hK hW kd_63 (vin ((by first | (clear ha_p2 hn_11 f_10 c_12; omega) | omega)) ((by first | (clear ha_p2 hn_11 f_10 c_12; omega) | omega))) dX11_heelsNear_43 (fun y_15 ey_15 => ?_)
    refine lv_iload hx hb dX11_heelsNear_44 (lv_at hl 0 rfl) ?_
    refine lv_iadd hx hb dX11_heelsNear_46 ?_
    refine lv_topi (fun y_16 ey_16 => ?_)
    have b_17 : 0 ≤ (G.1 2 10).toInt ∧ (G.1 2 10).toInt ≤ 4 := bd_2_10 hB_G
    have g_18 : (G_1.1 2 10).toInt = (G.1 2 10).toInt := (congrArg Int32.toInt (show G_1.1 2 10 = (G.1 2 10) from (hq_2.i9 2 10 rfl rfl)))
    refine S_calli (va_runV (As := [.int y_13, .int y_14, .int y_16]) (rest := []) ⟨hx, hb, hml, hown, hts⟩ (k_stands_2 l D k A a z G_1 y_13 y_14 y_16 ) (cwV 3 hts (gd_V hgd m1121 m966 m967 m118 m968) rfl rfl rfl hd_X6_stands ⟨Nat.le_of_ble_eq_true rfl, Nat.le_of_ble_eq_true rfl⟩) (pre_W hW hB_G_1 hK hZ hS kd_2 rfl) rfl rfl hl.1 rfl (lv_room (Nat.le_of_ble_eq_true rfl)) dX11_heelsNear_47 ⟨Nat.le_of_ble_eq_true rfl, Nat.le_of_ble_eq_true rfl⟩) hS (fun r_19 G_20 H locs hpo hW hS => ?_)
    have hX_23 : P_stands_2 y_13 y_14 y_16 G_1 r_19 G_20 := hpo
    obtain ⟨hB_G_20, hq_21, f_24, hp_22, -⟩ := hpo
    have hF := hF.call9 hq_21 rfl rfl
    refine lv_if_eq (tgt := 71) hx hb dX11_heelsNear_50 rfl (fun c_25 => ?_) (fun c_25 => ?_)
    · have c_25 : r_19.toInt = 0 := xI_eq rfl rfl c_25
      obtain ⟨y_26, ey_26⟩ : ∃ q, q = x_5 + 1 := ⟨_, rfl⟩
      have ty_26 : y_26.toInt = x_5.toInt + 1 := xI_add rfl rfl ey_26 ((by first | (clear ha_p0 ha_p2 hn_11 b_17 g_18 f_24 hp_22 c_25; omega) | omega)) ((by first | (clear ha_p0 ha_p2 hn_11 b_17 g_18 f_24 hp_22 c_25; omega) | omega))
      refine lv_iinc (v := y_26) (lv' := [(5, .int y_26), (4, .int x_6), (0, .ref (a 0)), (1, .int p0), (2, .int p1), (3, .int p2)]) hx hb dX11_heelsNear_71 hl (k := 0) rfl (by rw [ey_26]; rfl) (lt_b rfl) rfl (fun ls hl => ?_)
      refine lv_goto (tgt := 7) hx hb dX11_heelsNear_74 rfl ?_
      exact ih_3 (4 - y_26.toInt : Int).toNat ((by first | (clear ha_p0 ha_p2 b_17 g_18 f_24 hp_22 c_25; omega) | omega)) _ _ _ ⟨G_20, y_26, x_6, (Int.toNat_of_nonneg ((by first | (clear ha_p0 ha_p2 hn_11 b_17 g_18 f_24 hp_22 c_25; omega) | omega))), ⟨(by first | (clear ha_p0 ha_p2 hn_11 b_17 g_18 f_24 hp_22 c_25; omega) | omega), (by first | (clear ha_p0 ha_p2 hn_11 b_17 g_18 f_24 hp_22 c_25; omega) | omega)⟩, (hX_7.st (St_k_wNear_2_1_mk ⟨x_5, x_6, G_1, y_26, x_6, G_20, rfl, rfl, f_10, hB_G_1, ⟨c_12, ⟨y_13, ey_13, ⟨y_14, ey_14, ⟨y_15, ey_15, ⟨y_16, ey_16, ⟨r_19, G_20, hX_23, (Or.inl ⟨c_25, ⟨y_26, ty_26, ⟨rfl, rfl, rfl⟩⟩⟩)⟩⟩⟩⟩⟩⟩⟩)), hW, hB_G_20, hF, (Fr.call9 (rs := [37, 38, 39]) (fs := [(6, 3)]) (Fr.call9 (rs := [37, 38, 39]) (fs := [(6, 3)]) Fr.rf hq_2 rfl rfl) hq_21 rfl rfl), hS, lv_sub hl [0, 1, 2, 3, 4, 5] rfl⟩
    · have c_25 : r_19.toInt ≠ 0 := xI_ne rfl rfl c_25
      refine lv_iload_n hx hb dX11_heelsNear_53 rfl (lv_at hl 5 rfl) ?_
      refine lv_if_eq (tgt := 68) hx hb dX11_heelsNear_54 rfl (fun c_27 => ?_) (fun c_27 => ?_)
      · have c_27 : p2.toInt = 0 := xI_eq rfl rfl c_27
        obtain ⟨y_28, ey_28⟩ : ∃ q, q = x_6 + 1 := ⟨_, rfl⟩
        refine lv_iinc (v := y_28) (lv' := [(4, .int y_28), (5, .int x_5), (0, .ref (a 0)), (1, .int p0), (2, .int p1), (3, .int p2)]) hx hb dX11_heelsNear_68 hl (k := 1) rfl (by rw [ey_28]; rfl) (lt_b rfl) rfl (fun ls hl => ?_)
        obtain ⟨y_29, ey_29⟩ : ∃ q, q = x_5 + 1 := ⟨_, rfl⟩
        have ty_29 : y_29.toInt = x_5.toInt + 1 := xI_add rfl rfl ey_29 ((by first | (clear ha_p0 ha_p2 hn_11 b_17 g_18 f_24 hp_22 c_25 c_27; omega) | omega)) ((by first | (clear ha_p0 ha_p2 hn_11 b_17 g_18 f_24 hp_22 c_25 c_27; omega) | omega))
        refine lv_iinc (v := y_29) (lv' := [(5, .int y_29), (4, .int y_28), (0, .ref (a 0)), (1, .int p0), (2, .int p1), (3, .int p2)]) hx hb dX11_heelsNear_71 hl (k := 1) rfl (by rw [ey_29]; rfl) (lt_b rfl) rfl (fun ls hl => ?_)
        refine lv_goto (tgt := 7) hx hb dX11_heelsNear_74 rfl ?_
        exact ih_3 (4 - y_29.toInt : Int).toNat ((by first | (clear ha_p0 ha_p2 b_17 g_18 f_24 hp_22 c_25 c_27; omega) | omega)) _ _ _ ⟨G_20, y_29, y_28, (Int.toNat_of_nonneg ((by first | (clear ha_p0 ha_p2 hn_11 b_17 g_18 f_24 hp_22 c_25 c_27; omega) | omega))), ⟨(by first | (clear ha_p0 ha_p2 hn_11 b_17 g_18 f_24 hp_22 c_25 c_27; omega) | omega), (by first | (clear ha_p0 ha_p2 hn_11 b_17 g_18 f_24 hp_22 c_25 c_27; omega) | omega)⟩, (hX_7.st (St_k_wNear_2_1_mk ⟨x_5, x_6, G_1, y_29, y_28, G_20, rfl, rfl, f_10, hB_G_1, ⟨c_12, ⟨y_13, ey_13, ⟨y_14, ey_14, ⟨y_15, ey_15, ⟨y_16, ey_16, ⟨r_19, G_20, hX_23, (Or.inr ⟨c_25, (Or.inl ⟨c_27, ⟨y_28, ey_28, ⟨y_29, ty_29, ⟨rfl, rfl, rfl⟩⟩⟩⟩)⟩)⟩⟩⟩⟩⟩⟩⟩)), hW, hB_G_20, hF, (Fr.call9 (rs := [37, 38, 39]) (fs := [(6, 3)]) (Fr.call9 (rs := [37, 38, 39]) (fs := [(6, 3)]) Fr.rf hq_2 rfl rfl) hq_21 rfl rfl), hS, lv_sub hl [0, 1, 2, 3, 4, 5] rfl⟩
      · have c_27 : p2.toInt ≠ 0 := xI_ne rfl rfl c_27
        refine lv_aload_n hx hb dX11_heelsNear_57 rfl (lv_at hl 2 rfl) ?_
        refine lv_iload_n hx hb dX11_heelsNear_58 rfl (lv_at hl 3 rfl) ?_
        refine lv_iload_n hx hb dX11_heelsNear_59 rfl (lv_at hl 4 rfl) ?_
        refine lv_iload hx hb dX11_heelsNear_60 (lv_at hl 0 rfl) ?_
        refine S_calli (va_runV (As := [.int p0, .int p1, .int x_5]) (rest := []) ⟨hx, hb, hml, hown, hts⟩ (k_wLSight_2 l D k A a z G_20 p0 p1 x_5 ⟨(by first | (clear ha_p2 hn_11 f_10 c_12 b_17 g_18 f_24 hp_22 c_25 c_27; omega) | omega), (by first | (clear ha_p2 hn_11 f_10 c_12 b_17 g_18 f_24 hp_22 c_25 c_27; omega) | omega)⟩ ⟨(by first | (clear ha_p0 ha_p2 hn_11 b_17 g_18 f_24 hp_22 c_25 c_27; omega) | omega), (by first | (clear ha_p0 ha_p2 hn_11 b_17 g_18 f_24 hp_22 c_25 c_27; omega) | omega)⟩ ((((hq_21.r9 0 0 rfl rfl).trans (hq_2.r9 0 0 rfl rfl))).trans (hv_0_0)) ((((hq_21.r9 0 1 rfl rfl).trans (hq_2.r9 0 1 rfl rfl))).trans (hv_0_1)) ((((hq_21.r9 6 4 rfl rfl).trans (hq_2.r9 6 4 rfl rfl))).trans (hv_6_4))) (cwV 3 hts (gd_V hgd m1275 m1277 m46 m117 m1278) rfl rfl rfl hd_X11_isLawfulSight ⟨Nat.le_of_ble_eq_true rfl, Nat.le_of_ble_eq_true rfl⟩) (pre_W hW hB_G_20 hK hZ hS kd_0 rfl) rfl rfl hl.1 rfl (lv_room (Nat.le_of_ble_eq_true rfl)) dX11_heelsNear_62 ⟨Nat.le_of_ble_eq_true rfl, Nat.le_of_ble_eq_true rfl⟩) hS (fun r_30 G_31 H locs hpo hW hS => ?_)
        have hX_34 : P_wLSight_2 p0 p1 x_5 G_20 r_30 G_31 := hpo
        obtain ⟨hB_G_31, hq_32, f_35, -⟩ := hpo
        have hF := hF.call9 hq_32 rfl rfl
        refine lv_if_eq (tgt := 71) hx hb dX11_heelsNear_65 rfl (fun c_36 => ?_) (fun c_36 => ?_)
        · have c_36 : r_30.toInt = 0 := xI_eq rfl rfl c_36
          obtain ⟨y_37, ey_37⟩ : ∃ q, q = x_5 + 1 := ⟨_, rfl⟩
          have ty_37 : y_37.toInt = x_5.toInt + 1 := xI_add rfl rfl ey_37 ((by first | (clear ha_p0 ha_p2 hn_11 b_17 g_18 f_24 hp_22 c_25 c_27 f_35 c_36; omega) | omega)) ((by first | (clear ha_p0 ha_p2 hn_11 b_17 g_18 f_24 hp_22 c_25 c_27 f_35 c_36; omega) | omega))
          refine lv_iinc (v := y_37) (lv' := [(5, .int y_37), (4, .int x_6), (0, .ref (a 0)), (1, .int p0), (2, .int p1), (3, .int p2)]) hx hb dX11_heelsNear_71 hl (k := 0) rfl (by rw [ey_37]; rfl) (lt_b rfl) rfl (fun ls hl => ?_)
          refine lv_goto (tgt := 7) hx hb dX11_heelsNear_74 rfl ?_
          exact ih_3 (4 - y_37.toInt : Int).toNat ((by first | (clear ha_p0 ha_p2 b_17 g_18 f_24 hp_22 c_25 c_27 f_35 c_36; omega) | omega)) _ _ _ ⟨G_31, y_37, x_6, (Int.toNat_of_nonneg ((by first | (clear ha_p0 ha_p2 hn_11 b_17 g_18 f_24 hp_22 c_25 c_27 f_35 c_36; omega) | omega))), ⟨(by first | (clear ha_p0 ha_p2 hn_11 b_17 g_18 f_24 hp_22 c_25 c_27 f_35 c_36; omega) | omega), (by first | (clear ha_p0 ha_p2 hn_11 b_17 g_18 f_24 hp_22 c_25 c_27 f_35 c_36; omega) | omega)⟩, (hX_7.st (St_k_wNear_2_1_mk ⟨x_5, x_6, G_1, y_37, x_6, G_31, rfl, rfl, f_10, hB_G_1, ⟨c_12, ⟨y_13, ey_13, ⟨y_14, ey_14, ⟨y_15, ey_15, ⟨y_16, ey_16, ⟨r_19, G_20, hX_23, (Or.inr ⟨c_25, (Or.inr ⟨c_27, ⟨r_30, G_31, hX_34, (Or.inl ⟨c_36, ⟨y_37, ty_37, ⟨rfl, rfl, rfl⟩⟩⟩)⟩⟩)⟩)⟩⟩⟩⟩⟩⟩⟩)), hW, hB_G_31, hF, (Fr.call9 (rs := [37, 38, 39]) (fs := [(6, 3)]) (Fr.call9 (rs := [37, 38, 39]) (fs := [(6, 3)]) (Fr.call9 (rs := [37, 38, 39]) (fs := [(6, 3)]) Fr.rf hq_2 rfl rfl) hq_21 rfl rfl) hq_32 rfl rfl), hS, lv_sub hl [0, 1, 2, 3, 4, 5] rfl⟩
        · have c_36 : r_30.toInt ≠ 0 := xI_ne rfl rfl c_36
          obtain ⟨y_38, ey_38⟩ : ∃ q, q = x_6 + 1 := ⟨_, rfl⟩
          refine lv_iinc (v := y_38) (lv' := [(4, .int y_38), (5, .int x_5), (0, .ref (a 0)), (1, .int p0), (2, .int p1), (3, .int p2)]) hx hb dX11_heelsNear_68 hl (k := 1) rfl (by rw [ey_38]; rfl) (lt_b rfl) rfl (fun ls hl => ?_)
          obtain ⟨y_39, ey_39⟩ : ∃ q, q = x_5 + 1 := ⟨_, rfl⟩
          have ty_39 : y_39.toInt = x_5.toInt + 1 := xI_add rfl rfl ey_39 ((by first | (clear ha_p0 ha_p2 hn_11 b_17 g_18 f_24 hp_22 c_25 c_27 f_35 c_36; omega) | omega)) ((by first | (clear ha_p0 ha_p2 hn_11 b_17 g_18 f_24 hp_22 c_25 c_27 f_35 c_36; omega) | omega))
          refine lv_iinc (v := y_39) (lv' := [(5, .int y_39), (4, .int y_38), (0, .ref (a 0)), (1, .int p0), (2, .int p1), (3, .int p2)]) hx hb dX11_heelsNear_71 hl (k := 1) rfl (by rw [ey_39]; rfl) (lt_b rfl) rfl (fun ls hl => ?_)
          refine lv_goto (tgt := 7) hx hb dX11_heelsNear_74 rfl ?_
          exact ih_3 (4 - y_39.toInt : Int).toNat ((by first | (clear ha_p0 ha_p2 b_17 g_18 f_24 hp_22 c_25 c_27 f_35 c_36; omega) | omega)) _ _ _ ⟨G_31, y_39, y_38, (Int.toNat_of_nonneg ((by first | (clear ha_p0 ha_p2 hn_11 b_17 g_18 f_24 hp_22 c_25 c_27 f_35 c_36; omega) | omega))), ⟨(by first | (clear ha_p0 ha_p2 hn_11 b_17 g_18 f_24 hp_22 c_25 c_27 f_35 c_36; omega) | omega), (by first | (clear ha_p0 ha_p2 hn_11 b_17 g_18 f_24 hp_22 c_25 c_27 f_35 c_36; omega) | omega)⟩, (hX_7.st (St_k_wNear_2_1_mk ⟨x_5, x_6, G_1, y_39, y_38, G_31, rfl, rfl, f_10, hB_G_1, ⟨c_12, ⟨y_13, ey_13, ⟨y_14, ey_14, ⟨y_15, ey_15, ⟨y_16, ey_16, ⟨r_19, G_20, hX_23, (Or.inr ⟨c_25, (Or.inr ⟨c_27, ⟨r_30, G_31, hX_34, (Or.inr ⟨c_36, ⟨y_38, ey_38, ⟨y_39, ty_39, ⟨rfl, rfl, rfl⟩⟩⟩⟩)⟩⟩)⟩)⟩⟩⟩⟩⟩⟩⟩)), hW, hB_G_31, hF, (Fr.call9 (rs := [37, 38, 39]) (fs := [(6, 3)]) (Fr.call9 (rs := [37, 38, 39]) (fs := [(6, 3)]) (Fr.call9 (rs := [37, 38, 39]) (fs := [(6, 3)]) Fr.rf hq_2 rfl rfl) hq_21 rfl rfl) hq_32 rfl rfl), hS, lv_sub hl [0, 1, 2, 3, 4, 5] rfl⟩
