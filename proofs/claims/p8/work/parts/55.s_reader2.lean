

set_option maxHeartbeats 4000000 in
set_option maxRecDepth 100000 in
theorem k_rHand_2 (l : Launch) (D : va_G) (k : KT) (A : Nat → Prop) (a : Nat → Nat) (z : SK) (G : GS)  (hv_5_5 : G.2.2 5 5 = 2) : Met l yX7_readHand (WS yX7_readHand cX7_readHand 1 (some .boolean)) ({ frames := 8, cells := 0, slots := 0, locals := 170 }) (va_Pc [.ref (a 5)] (cW D k A a z G)) (va_Qi (fun (r : Int32) (G1 : GS) => P_rHand_2 G r G1) (fun (G1 : GS) t => Wd D k A a G1 t.heap) A) 0 0 A := by
  refine Met.ofW (cc := cX7_readHand) (maxL := 1) (ret := (some .boolean)) (by decide) rfl ?_
  intro p e s m args below meth c s₁ B hml hv
  obtain ⟨rfl, hW, hB_G, hK, hZ⟩ := hv
  have hx := B.exec
  have hb := B.bytes
  have hr := B.returns
  have hts := atoms_spec (ws := WS yX7_readHand cX7_readHand 1 (some .boolean)) B.pre
  have hgd : ∀ w ∈ gd, w ∈ WS yX7_readHand cX7_readHand 1 (some .boolean) := fun w h => List.mem_cons_of_mem _ h
  have hg : ∀ w ∈ gd, w.before _ s = true := fun w h => hts w (hgd w h)
  have hown : s.vm.findClass RX7 = some m.cls := findClass_of_methodNamed B.named
  have hS : va_S A s.heap s.heap [] := va_S.rf
  have hF : Fr [] [(2, 14), (2, 15), (3, 2), (3, 3), (3, 4), (3, 5), (3, 6), (3, 7), (3, 8), (5, 7), (5, 9)] G G := Fr.rf
  have hl := lv_entry ([.ref (a 5)]) (n := 1) (Nat.le_of_ble_eq_true rfl)
  rw [lg_entry_eq]
  generalize (lg_sl ([.ref (a 5)]) ++ List.replicate (1 - (lg_sl ([.ref (a 5)])).length) Slot.unset).toArray = ls at hl ⊢
  have hl : lv_has ls 1 [(0, .ref (a 5))] := hl
  refine lv_aload_n hx hb dX7_readHand_0 rfl (lv_at hl 0 rfl) ?_
  refine lv_aload_n hx hb dX7_readHand_1 rfl (lv_at hl 0 rfl) ?_
  have b_1 : 0 ≤ (G.1 5 7).toInt ∧ (G.1 5 7).toInt ≤ 1 := bd_5_7 hB_G
  refine S_getI (v := (G.1 5 7)) (C := RX7) (T := TX7) (N := 10) hx hb hg iX7 hown hK hW kd_5 rfl 7 (lt_b rfl) (hg (Cond.fieldLink RX7 52 "SlabWalk$Reader" "handTold" "Z") m319) (fun _ h9 => h9) rfl rfl dX7_readHand_2 ?_
  refine W.cut (σ := Int32) (pcJ := 13) (J := fun y H locs ls => ∃ (G_5 : GS), (0 ≤ y.toInt ∧ y.toInt ≤ 1) ∧ Jn_k_rHand_2_1 G y G_5 ∧ Wd D k A a G_5 H ∧ Bd G_5 ∧ Fr [] [(2, 14), (2, 15), (3, 2), (3, 3), (3, 4), (3, 5), (3, 6), (3, 7), (3, 8), (5, 7), (5, 9)] G G_5 ∧ Fr [] [] G G_5 ∧ va_S A s.heap H locs ∧ lv_has ls 1 [(0, .ref (a 5))]) (stJ := fun y => [.int y, .ref (a 5)]) ?_ (fun hJ_6 => ?_)
  · intro y H locs ls hI
    obtain ⟨w_3, hy⟩ : ∃ q, q = y := ⟨_, rfl⟩
    subst hy
    obtain ⟨G_5, f_9, hX_8, hW, hB_G_5, hF, hq_7, hS, hl⟩ := hI
    refine S_calli (va_runV (As := [.int w_3]) (rest := []) ⟨hx, hb, hml, hown, hts⟩ (k_rFirst l D k A a z G_5 w_3 ⟨by omega, by omega⟩) (cwV 1 hts (gd_V hgd m773 m775 m9 m119 m776) rfl rfl rfl hd_X7_passFirst ⟨Nat.le_of_ble_eq_true rfl, Nat.le_of_ble_eq_true rfl⟩) (pre_W hW hB_G_5 hK hZ hS kd_5 rfl) rfl rfl hl.1 rfl (lv_room (Nat.le_of_ble_eq_true rfl)) dX7_readHand_13 ⟨Nat.le_of_ble_eq_true rfl, Nat.le_of_ble_eq_true rfl⟩) hS (fun r_10 G_11 H locs hpo hW hS => ?_)
    have hX_14 : P_rFirst w_3 G_5 r_10 G_11 := hpo
    obtain ⟨hB_G_11, hq_12, f_15, hp_13, -⟩ := hpo
    have hF := hF.call9 hq_12 rfl rfl
    refine lv_if_eq (tgt := 29) hx hb dX7_readHand_16 rfl (fun c_16 => ?_) (fun c_16 => ?_)
    · have c_16 : r_10.toInt = 0 := xI_eq rfl rfl c_16
      refine ic_0 hx hb dX7_readHand_29 ?_
      exact W.zret (v := 0) hx hb hr (by decide) (fun t ht _ => ⟨⟨0, G_11, rfl, (P_rHand_2_mk ⟨hB_G_11, hF, ⟨by decide, by decide⟩, ⟨w_3, G_5, hX_8, f_9, hB_G_5, hq_7, ⟨r_10, G_11, hX_14, (Or.inl ⟨c_16, ⟨rfl, rfl⟩⟩)⟩⟩⟩), wd_t ht hW⟩, hS.F ht⟩) hS.2.2 dX7_readHand_30
    · have c_16 : r_10.toInt ≠ 0 := xI_ne rfl rfl c_16
      refine lv_aload_n hx hb dX7_readHand_19 rfl (lv_at hl 0 rfl) ?_
      refine ic_1 hx hb dX7_readHand_20 ?_
      refine lv_bipush (v := 99) hx hb dX7_readHand_21 (by decide) ?_
      have qc_17 : (1 : Int32).toInt = 1 := rfl
      have qc_18 : (99 : Int32).toInt = 99 := rfl
      refine S_calli (va_runV (As := [.int 1, .int 99]) (rest := []) ⟨hx, hb, hml, hown, hts⟩ (k_rNum l D k A a z G_11 1 99 ) (cwV 2 hts (gd_V hgd m791 m793 m11 m119 m794) rfl rfl rfl hd_X7_passNumber ⟨Nat.le_of_ble_eq_true rfl, Nat.le_of_ble_eq_true rfl⟩) (pre_W hW hB_G_11 hK hZ hS kd_5 rfl) rfl rfl hl.1 rfl (lv_room (Nat.le_of_ble_eq_true rfl)) dX7_readHand_23 ⟨Nat.le_of_ble_eq_true rfl, Nat.le_of_ble_eq_true rfl⟩) hS (fun r_19 G_20 H locs hpo hW hS => ?_)
      have hX_23 : P_rNum 1 99 G_11 r_19 G_20 := hpo
      obtain ⟨hB_G_20, hq_21, f_24, hp_22, -⟩ := hpo
      have hF := hF.call9 hq_21 rfl rfl
      refine lv_if_ne (tgt := 31) hx hb dX7_readHand_26 rfl (fun c_25 => ?_) (fun c_25 => ?_)
      · have c_25 : r_19.toInt ≠ 0 := xI_ne rfl rfl c_25
        refine lv_aload_n hx hb dX7_readHand_31 rfl (lv_at hl 0 rfl) ?_
        refine ic_1 hx hb dX7_readHand_32 ?_
        refine S_putI (ty := .boolean) (C := RX7) (T := TX7) (N := 10) hx hb hg iX7 tyX7 tyX7_ok nmX7 hown hK hW hS kd_5 rfl 7 (lt_b rfl) (hg (Cond.fieldLink RX7 52 "SlabWalk$Reader" "handTold" "Z") m319) (fun _ h9 => h9) rfl (by decide +kernel) (by decide) rfl rfl dX7_readHand_33 (fun G_26 H locs eG_26 hW hS => ?_)
        have hB_G_26 : Bd G_26 := hB_G_20.put (V := 1) (lo := 0) (hi := 1) eG_26 rfl rfl rfl (by decide) (by decide) (hB_G_20.2.put eG_26 rfl)
        have hF := hF.put eG_26 (Or.inr (by decide))
        refine lv_aload_n hx hb dX7_readHand_36 rfl (lv_at hl 0 rfl) ?_
        refine S_getV (n := 2) (C := RX7) (T := TX7) (N := 10) hx hb hg iX7 hown hK hW kd_5 rfl 5 (lt_b rfl) (hg (Cond.fieldLink RX7 39 "SlabWalk$Reader" "paving" "LSlabWalk$Paving;") m317) (fun _ h9 => h9) rfl ((((congrFun (congrFun (congrArg (fun q => q.2.2) eG_26) 5) 5).trans ((hq_21.r9 5 5 rfl rfl).trans ((hq_12.r9 5 5 rfl rfl).trans (hq_7.r9 5 5 rfl rfl))))).trans (hv_5_5)) dX7_readHand_37 ?_
        refine lv_aload_n hx hb dX7_readHand_40 rfl (lv_at hl 0 rfl) ?_
        refine S_getI (v := (G_20.1 5 9)) (C := RX7) (T := TX7) (N := 10) hx hb hg iX7 hown hK hW kd_5 rfl 9 (lt_b rfl) (hg (Cond.fieldLink RX7 99 "SlabWalk$Reader" "number" "I") m321) (fun _ h9 => h9) rfl (gp_ne eG_26 (by decide)) dX7_readHand_41 ?_
        refine S_putI (ty := .int) (C := RX6) (T := TX6) (N := 17) hx hb hg iX6 tyX6 tyX6_ok nmX6 hown hK hW hS kd_2 rfl 14 (lt_b rfl) (hg (Cond.fieldLink RX7 169 "SlabWalk$Paving" "hand" "I") m202) (fun _ h9 => h9) rfl (by decide +kernel) rfl rfl rfl dX7_readHand_44 (fun G_27 H locs eG_27 hW hS => ?_)
        have hB_G_27 : Bd G_27 := hB_G_26.put (V := (G_20.1 5 9).toInt) (lo := 0) (hi := 99) eG_27 rfl rfl rfl ((by first | (clear b_1 f_9 f_15 hp_13 c_16; omega) | omega)) ((by first | (clear b_1 f_9 f_15 hp_13 c_16; omega) | omega)) (hB_G_26.2.put eG_27 rfl)
        have hF := hF.put eG_27 (Or.inr (by decide))
        refine lv_aload_n hx hb dX7_readHand_47 rfl (lv_at hl 0 rfl) ?_
        refine S_getR (n := 3) (C := RX7) (T := TX7) (N := 10) hx hb hg iX7 hown hK hW kd_5 rfl 0 (lt_b rfl) (hg (Cond.fieldLink RX7 26 "SlabWalk$Reader" "tokens" "LSlabWalk$Tokens;") m311) (fun _ h9 => h9) rfl dX7_readHand_48 ?_
        refine lv_sipush (v := 137) hx hb dX7_readHand_51 (by decide) ?_
        refine S_calli (va_runV (As := [.int 137]) (rest := []) ⟨hx, hb, hml, hown, hts⟩ (k_tPass l D k A a z G_27 137 ) (cwV 1 hts (gd_V hgd m786 m787 m788 m120 m789) rfl rfl rfl hd_X9_pass ⟨Nat.le_of_ble_eq_true rfl, Nat.le_of_ble_eq_true rfl⟩) (pre_W hW hB_G_27 hK hZ hS kd_3 rfl) rfl rfl hl.1 rfl (lv_room (Nat.le_of_ble_eq_true rfl)) dX7_readHand_54 ⟨Nat.le_of_ble_eq_true rfl, Nat.le_of_ble_eq_true rfl⟩) hS (fun r_28 G_29 H locs hpo hW hS => ?_)
        have hX_32 : P_tPass 137 G_27 r_28 G_29 := hpo
        obtain ⟨hB_G_29, hq_30, f_33, -⟩ := hpo
        have hF := hF.call9 hq_30 rfl rfl
        refine lv_if_eq (tgt := 70) hx hb dX7_readHand_57 rfl (fun c_34 => ?_) (fun c_34 => ?_)
        · have c_34 : r_28.toInt = 0 := xI_eq rfl rfl c_34
          refine ic_0 hx hb dX7_readHand_70 ?_
          exact W.zret (v := 0) hx hb hr (by decide) (fun t ht _ => ⟨⟨0, G_29, rfl, (P_rHand_2_mk ⟨hB_G_29, hF, ⟨by decide, by decide⟩, ⟨w_3, G_5, hX_8, f_9, hB_G_5, hq_7, ⟨r_10, G_11, hX_14, (Or.inr ⟨c_16, ⟨r_19, G_20, hX_23, (Or.inr ⟨c_25, ⟨G_27, hB_G_27, (Fr.put (rs := []) (fs := [(2, 14), (5, 7)]) (Fr.put (rs := []) (fs := [(2, 14), (5, 7)]) Fr.rf eG_26 (Or.inr (by decide))) eG_27 (Or.inr (by decide))), (gp_eq eG_27), ((gp_ne eG_27 (by decide)).trans (gp_eq eG_26)), ⟨r_28, G_29, hX_32, (Or.inl ⟨c_34, ⟨rfl, rfl⟩⟩)⟩⟩⟩)⟩⟩)⟩⟩⟩), wd_t ht hW⟩, hS.F ht⟩) hS.2.2 dX7_readHand_71
        · have c_34 : r_28.toInt ≠ 0 := xI_ne rfl rfl c_34
          refine lv_aload_n hx hb dX7_readHand_60 rfl (lv_at hl 0 rfl) ?_
          refine ic_0 hx hb dX7_readHand_61 ?_
          refine lv_bipush (v := 99) hx hb dX7_readHand_62 (by decide) ?_
          have qc_35 : (0 : Int32).toInt = 0 := rfl
          have qc_36 : (99 : Int32).toInt = 99 := rfl
          refine S_calli (va_runV (As := [.int 0, .int 99]) (rest := []) ⟨hx, hb, hml, hown, hts⟩ (k_rNum l D k A a z G_29 0 99 ) (cwV 2 hts (gd_V hgd m791 m793 m11 m119 m794) rfl rfl rfl hd_X7_passNumber ⟨Nat.le_of_ble_eq_true rfl, Nat.le_of_ble_eq_true rfl⟩) (pre_W hW hB_G_29 hK hZ hS kd_5 rfl) rfl rfl hl.1 rfl (lv_room (Nat.le_of_ble_eq_true rfl)) dX7_readHand_64 ⟨Nat.le_of_ble_eq_true rfl, Nat.le_of_ble_eq_true rfl⟩) hS (fun r_37 G_38 H locs hpo hW hS => ?_)
          have hX_41 : P_rNum 0 99 G_29 r_37 G_38 := hpo
          obtain ⟨hB_G_38, hq_39, f_42, hp_40, -⟩ := hpo
          have hF := hF.call9 hq_39 rfl rfl
          refine lv_if_ne (tgt := 72) hx hb dX7_readHand_67 rfl (fun c_43 => ?_) (fun c_43 => ?_)
          · have c_43 : r_37.toInt ≠ 0 := xI_ne rfl rfl c_43
            refine lv_aload_n hx hb dX7_readHand_72 rfl (lv_at hl 0 rfl) ?_
            refine S_getV (n := 2) (C := RX7) (T := TX7) (N := 10) hx hb hg iX7 hown hK hW kd_5 rfl 5 (lt_b rfl) (hg (Cond.fieldLink RX7 39 "SlabWalk$Reader" "paving" "LSlabWalk$Paving;") m317) (fun _ h9 => h9) rfl ((((hq_39.r9 5 5 rfl rfl).trans ((hq_30.r9 5 5 rfl rfl).trans ((congrFun (congrFun (congrArg (fun q => q.2.2) eG_27) 5) 5).trans ((congrFun (congrFun (congrArg (fun q => q.2.2) eG_26) 5) 5).trans ((hq_21.r9 5 5 rfl rfl).trans ((hq_12.r9 5 5 rfl rfl).trans (hq_7.r9 5 5 rfl rfl)))))))).trans (hv_5_5)) dX7_readHand_73 ?_
            refine lv_aload_n hx hb dX7_readHand_76 rfl (lv_at hl 0 rfl) ?_
            refine S_getI (v := (G_38.1 5 9)) (C := RX7) (T := TX7) (N := 10) hx hb hg iX7 hown hK hW kd_5 rfl 9 (lt_b rfl) (hg (Cond.fieldLink RX7 99 "SlabWalk$Reader" "number" "I") m321) (fun _ h9 => h9) rfl rfl dX7_readHand_77 ?_
            refine S_putI (ty := .int) (C := RX6) (T := TX6) (N := 17) hx hb hg iX6 tyX6 tyX6_ok nmX6 hown hK hW hS kd_2 rfl 15 (lt_b rfl) (hg (Cond.fieldLink RX7 172 "SlabWalk$Paving" "slack" "I") m205) (fun _ h9 => h9) rfl (by decide +kernel) rfl rfl rfl dX7_readHand_80 (fun G_44 H locs eG_44 hW hS => ?_)
            have hB_G_44 : Bd G_44 := hB_G_38.put (V := (G_38.1 5 9).toInt) (lo := 0) (hi := 99) eG_44 rfl rfl rfl ((by first | (clear b_1 f_9 f_15 hp_13 c_16 f_24 hp_22 c_25 f_33 c_34; omega) | omega)) ((by first | (clear b_1 f_9 f_15 hp_13 c_16 f_24 hp_22 c_25 f_33 c_34; omega) | omega)) (hB_G_38.2.put eG_44 rfl)
            have hF := hF.put eG_44 (Or.inr (by decide))
            refine lv_aload_n hx hb dX7_readHand_83 rfl (lv_at hl 0 rfl) ?_
            refine S_getR (n := 3) (C := RX7) (T := TX7) (N := 10) hx hb hg iX7 hown hK hW kd_5 rfl 0 (lt_b rfl) (hg (Cond.fieldLink RX7 26 "SlabWalk$Reader" "tokens" "LSlabWalk$Tokens;") m311) (fun _ h9 => h9) rfl dX7_readHand_84 ?_
            refine lv_bipush (v := 59) hx hb dX7_readHand_87 (by decide) ?_
            refine S_calli (va_runV (As := [.int 59]) (rest := []) ⟨hx, hb, hml, hown, hts⟩ (k_tPass l D k A a z G_44 59 ) (cwV 1 hts (gd_V hgd m786 m787 m788 m120 m789) rfl rfl rfl hd_X9_pass ⟨Nat.le_of_ble_eq_true rfl, Nat.le_of_ble_eq_true rfl⟩) (pre_W hW hB_G_44 hK hZ hS kd_3 rfl) rfl rfl hl.1 rfl (lv_room (Nat.le_of_ble_eq_true rfl)) dX7_readHand_89 ⟨Nat.le_of_ble_eq_true rfl, Nat.le_of_ble_eq_true rfl⟩) hS (fun r_45 G_46 H locs hpo hW hS => ?_)
            have hX_49 : P_tPass 59 G_44 r_45 G_46 := hpo
            obtain ⟨hB_G_46, hq_47, f_50, -⟩ := hpo
            have hF := hF.call9 hq_47 rfl rfl
            exact W.zret (v := r_45) hx hb hr (nar_z ((by first | (clear b_1 f_9 f_15 hp_13 c_16 f_24 hp_22 c_25 f_33 c_34 f_42 hp_40 c_43; omega) | omega)) ((by first | (clear b_1 f_9 f_15 hp_13 c_16 f_24 hp_22 c_25 f_33 c_34 f_42 hp_40 c_43; omega) | omega))) (fun t ht _ => ⟨⟨r_45, G_46, rfl, (P_rHand_2_mk ⟨hB_G_46, hF, ⟨(by first | (clear b_1 f_9 f_15 hp_13 c_16 f_24 hp_22 c_25 f_33 c_34 f_42 hp_40 c_43; omega) | omega), (by first | (clear b_1 f_9 f_15 hp_13 c_16 f_24 hp_22 c_25 f_33 c_34 f_42 hp_40 c_43; omega) | omega)⟩, ⟨w_3, G_5, hX_8, f_9, hB_G_5, hq_7, ⟨r_10, G_11, hX_14, (Or.inr ⟨c_16, ⟨r_19, G_20, hX_23, (Or.inr ⟨c_25, ⟨G_27, hB_G_27, (Fr.put (rs := []) (fs := [(2, 14), (5, 7)]) (Fr.put (rs := []) (fs := [(2, 14), (5, 7)]) Fr.rf eG_26 (Or.inr (by decide))) eG_27 (Or.inr (by decide))), (gp_eq eG_27), ((gp_ne eG_27 (by decide)).trans (gp_eq eG_26)), ⟨r_28, G_29, hX_32, (Or.inr ⟨c_34, ⟨r_37, G_38, hX_41, (Or.inr ⟨c_43, ⟨G_44, hB_G_44, (Fr.put (rs := []) (fs := [(2, 15)]) Fr.rf eG_44 (Or.inr (by decide))), (gp_eq eG_44), ⟨r_45, G_46, hX_49, ⟨rfl, rfl⟩⟩⟩⟩)⟩⟩)⟩⟩⟩)⟩⟩)⟩⟩⟩), wd_t ht hW⟩, hS.F ht⟩) hS.2.2 dX7_readHand_92
          · have c_43 : r_37.toInt = 0 := xI_eq rfl rfl c_43
            refine ic_0 hx hb dX7_readHand_70 ?_
            exact W.zret (v := 0) hx hb hr (by decide) (fun t ht _ => ⟨⟨0, G_38, rfl, (P_rHand_2_mk ⟨hB_G_38, hF, ⟨by decide, by decide⟩, ⟨w_3, G_5, hX_8, f_9, hB_G_5, hq_7, ⟨r_10, G_11, hX_14, (Or.inr ⟨c_16, ⟨r_19, G_20, hX_23, (Or.inr ⟨c_25, ⟨G_27, hB_G_27, (Fr.put (rs := []) (fs := [(2, 14), (5, 7)]) (Fr.put (rs := []) (fs := [(2, 14), (5, 7)]) Fr.rf eG_26 (Or.inr (by decide))) eG_27 (Or.inr (by decide))), (gp_eq eG_27), ((gp_ne eG_27 (by decide)).trans (gp_eq eG_26)), ⟨r_28, G_29, hX_32, (Or.inr ⟨c_34, ⟨r_37, G_38, hX_41, (Or.inl ⟨c_43, ⟨rfl, rfl⟩⟩)⟩⟩)⟩⟩⟩)⟩⟩)⟩⟩⟩), wd_t ht hW⟩, hS.F ht⟩) hS.2.2 dX7_readHand_71
      · have c_25 : r_19.toInt = 0 := xI_eq rfl rfl c_25
        refine ic_0 hx hb dX7_readHand_29 ?_
        exact W.zret (v := 0) hx hb hr (by decide) (fun t ht _ => ⟨⟨0, G_20, rfl, (P_rHand_2_mk ⟨hB_G_20, hF, ⟨by decide, by decide⟩, ⟨w_3, G_5, hX_8, f_9, hB_G_5, hq_7, ⟨r_10, G_11, hX_14, (Or.inr ⟨c_16, ⟨r_19, G_20, hX_23, (Or.inl ⟨c_25, ⟨rfl, rfl⟩⟩)⟩⟩)⟩⟩⟩), wd_t ht hW⟩, hS.F ht⟩) hS.2.2 dX7_readHand_30
  refine lv_if_ne (tgt := 12) hx hb dX7_readHand_5 rfl (fun c_51 => ?_) (fun c_51 => ?_)
  · have c_51 : (G.1 5 7).toInt ≠ 0 := xI_ne rfl rfl c_51
    refine ic_0 hx hb dX7_readHand_12 ?_
    have qc_52 : (0 : Int32).toInt = 0 := rfl
    exact hJ_6 0 _ _ _ ⟨G, ⟨by omega, by omega⟩, (Jn_k_rHand_2_1_mk (Or.inr ⟨c_51, ⟨rfl, rfl⟩⟩)), hW, hB_G, hF, (Fr.rf (rs := []) (fs := [])), hS, lv_sub hl [0] rfl⟩
  · have c_51 : (G.1 5 7).toInt = 0 := xI_eq rfl rfl c_51
    refine ic_1 hx hb dX7_readHand_8 ?_
    refine lv_goto (tgt := 13) hx hb dX7_readHand_9 rfl ?_
    have qc_53 : (1 : Int32).toInt = 1 := rfl
    exact hJ_6 1 _ _ _ ⟨G, ⟨by omega, by omega⟩, (Jn_k_rHand_2_1_mk (Or.inl ⟨c_51, ⟨rfl, rfl⟩⟩)), hW, hB_G, hF, (Fr.rf (rs := []) (fs := [])), hS, lv_sub hl [0] rfl⟩

set_option maxHeartbeats 4000000 in
set_option maxRecDepth 100000 in
theorem k_rDraw_2 (l : Launch) (D : va_G) (k : KT) (A : Nat → Prop) (a : Nat → Nat) (z : SK) (G : GS)  (hv_5_5 : G.2.2 5 5 = 2) : Met l yX7_readDraw (WS yX7_readDraw cX7_readDraw 1 (some .boolean)) ({ frames := 8, cells := 0, slots := 0, locals := 170 }) (va_Pc [.ref (a 5)] (cW D k A a z G)) (va_Qi (fun (r : Int32) (G1 : GS) => P_rDraw_2 G r G1) (fun (G1 : GS) t => Wd D k A a G1 t.heap) A) 0 0 A := by
  refine Met.ofW (cc := cX7_readDraw) (maxL := 1) (ret := (some .boolean)) (by decide) rfl ?_
  intro p e s m args below meth c s₁ B hml hv
  obtain ⟨rfl, hW, hB_G, hK, hZ⟩ := hv
  have hx := B.exec
  have hb := B.bytes
  have hr := B.returns
  have hts := atoms_spec (ws := WS yX7_readDraw cX7_readDraw 1 (some .boolean)) B.pre
  have hgd : ∀ w ∈ gd, w ∈ WS yX7_readDraw cX7_readDraw 1 (some .boolean) := fun w h => List.mem_cons_of_mem _ h
  have hg : ∀ w ∈ gd, w.before _ s = true := fun w h => hts w (hgd w h)
  have hown : s.vm.findClass RX7 = some m.cls := findClass_of_methodNamed B.named
  have hS : va_S A s.heap s.heap [] := va_S.rf
  have hF : Fr [] [(2, 16), (3, 2), (3, 3), (3, 4), (3, 5), (3, 6), (3, 7), (3, 8), (5, 8), (5, 9)] G G := Fr.rf
  have hl := lv_entry ([.ref (a 5)]) (n := 1) (Nat.le_of_ble_eq_true rfl)
  rw [lg_entry_eq]
  generalize (lg_sl ([.ref (a 5)]) ++ List.replicate (1 - (lg_sl ([.ref (a 5)])).length) Slot.unset).toArray = ls at hl ⊢
  have hl : lv_has ls 1 [(0, .ref (a 5))] := hl
  refine lv_aload_n hx hb dX7_readDraw_0 rfl (lv_at hl 0 rfl) ?_
  refine lv_aload_n hx hb dX7_readDraw_1 rfl (lv_at hl 0 rfl) ?_
  have b_1 : 0 ≤ (G.1 5 8).toInt ∧ (G.1 5 8).toInt ≤ 1 := bd_5_8 hB_G
  refine S_getI (v := (G.1 5 8)) (C := RX7) (T := TX7) (N := 10) hx hb hg iX7 hown hK hW kd_5 rfl 8 (lt_b rfl) (hg (Cond.fieldLink RX7 55 "SlabWalk$Reader" "drawTold" "Z") m320) (fun _ h9 => h9) rfl rfl dX7_readDraw_2 ?_
  refine W.cut (σ := Int32) (pcJ := 13) (J := fun y H locs ls => ∃ (G_5 : GS), (0 ≤ y.toInt ∧ y.toInt ≤ 1) ∧ Jn_k_rDraw_2_1 G y G_5 ∧ Wd D k A a G_5 H ∧ Bd G_5 ∧ Fr [] [(2, 16), (3, 2), (3, 3), (3, 4), (3, 5), (3, 6), (3, 7), (3, 8), (5, 8), (5, 9)] G G_5 ∧ Fr [] [] G G_5 ∧ va_S A s.heap H locs ∧ lv_has ls 1 [(0, .ref (a 5))]) (stJ := fun y => [.int y, .ref (a 5)]) ?_ (fun hJ_6 => ?_)
  · intro y H locs ls hI
    obtain ⟨w_3, hy⟩ : ∃ q, q = y := ⟨_, rfl⟩
    subst hy
    obtain ⟨G_5, f_9, hX_8, hW, hB_G_5, hF, hq_7, hS, hl⟩ := hI
    refine S_calli (va_runV (As := [.int w_3]) (rest := []) ⟨hx, hb, hml, hown, hts⟩ (k_rFirst l D k A a z G_5 w_3 ⟨by omega, by omega⟩) (cwV 1 hts (gd_V hgd m773 m775 m9 m119 m776) rfl rfl rfl hd_X7_passFirst ⟨Nat.le_of_ble_eq_true rfl, Nat.le_of_ble_eq_true rfl⟩) (pre_W hW hB_G_5 hK hZ hS kd_5 rfl) rfl rfl hl.1 rfl (lv_room (Nat.le_of_ble_eq_true rfl)) dX7_readDraw_13 ⟨Nat.le_of_ble_eq_true rfl, Nat.le_of_ble_eq_true rfl⟩) hS (fun r_10 G_11 H locs hpo hW hS => ?_)
    have hX_14 : P_rFirst w_3 G_5 r_10 G_11 := hpo
    obtain ⟨hB_G_11, hq_12, f_15, hp_13, -⟩ := hpo
    have hF := hF.call9 hq_12 rfl rfl
    refine lv_if_eq (tgt := 30) hx hb dX7_readDraw_16 rfl (fun c_16 => ?_) (fun c_16 => ?_)
    · have c_16 : r_10.toInt = 0 := xI_eq rfl rfl c_16
      refine ic_0 hx hb dX7_readDraw_30 ?_
      exact W.zret (v := 0) hx hb hr (by decide) (fun t ht _ => ⟨⟨0, G_11, rfl, (P_rDraw_2_mk ⟨hB_G_11, hF, ⟨by decide, by decide⟩, ⟨w_3, G_5, hX_8, f_9, hB_G_5, hq_7, ⟨r_10, G_11, hX_14, (Or.inl ⟨c_16, ⟨rfl, rfl⟩⟩)⟩⟩⟩), wd_t ht hW⟩, hS.F ht⟩) hS.2.2 dX7_readDraw_31
    · have c_16 : r_10.toInt ≠ 0 := xI_ne rfl rfl c_16
      refine lv_aload_n hx hb dX7_readDraw_19 rfl (lv_at hl 0 rfl) ?_
      refine ic_0 hx hb dX7_readDraw_20 ?_
      refine lv_sipush (v := 999) hx hb dX7_readDraw_21 (by decide) ?_
      have qc_17 : (0 : Int32).toInt = 0 := rfl
      have qc_18 : (999 : Int32).toInt = 999 := rfl
      refine S_calli (va_runV (As := [.int 0, .int 999]) (rest := []) ⟨hx, hb, hml, hown, hts⟩ (k_rNum l D k A a z G_11 0 999 ) (cwV 2 hts (gd_V hgd m791 m793 m11 m119 m794) rfl rfl rfl hd_X7_passNumber ⟨Nat.le_of_ble_eq_true rfl, Nat.le_of_ble_eq_true rfl⟩) (pre_W hW hB_G_11 hK hZ hS kd_5 rfl) rfl rfl hl.1 rfl (lv_room (Nat.le_of_ble_eq_true rfl)) dX7_readDraw_24 ⟨Nat.le_of_ble_eq_true rfl, Nat.le_of_ble_eq_true rfl⟩) hS (fun r_19 G_20 H locs hpo hW hS => ?_)
      have hX_23 : P_rNum 0 999 G_11 r_19 G_20 := hpo
      obtain ⟨hB_G_20, hq_21, f_24, hp_22, -⟩ := hpo
      have hF := hF.call9 hq_21 rfl rfl
      refine lv_if_ne (tgt := 32) hx hb dX7_readDraw_27 rfl (fun c_25 => ?_) (fun c_25 => ?_)
      · have c_25 : r_19.toInt ≠ 0 := xI_ne rfl rfl c_25
        refine lv_aload_n hx hb dX7_readDraw_32 rfl (lv_at hl 0 rfl) ?_
        refine ic_1 hx hb dX7_readDraw_33 ?_
        refine S_putI (ty := .boolean) (C := RX7) (T := TX7) (N := 10) hx hb hg iX7 tyX7 tyX7_ok nmX7 hown hK hW hS kd_5 rfl 8 (lt_b rfl) (hg (Cond.fieldLink RX7 55 "SlabWalk$Reader" "drawTold" "Z") m320) (fun _ h9 => h9) rfl (by decide +kernel) (by decide) rfl rfl dX7_readDraw_34 (fun G_26 H locs eG_26 hW hS => ?_)
        have hB_G_26 : Bd G_26 := hB_G_20.put (V := 1) (lo := 0) (hi := 1) eG_26 rfl rfl rfl (by decide) (by decide) (hB_G_20.2.put eG_26 rfl)
        have hF := hF.put eG_26 (Or.inr (by decide))
        refine lv_aload_n hx hb dX7_readDraw_37 rfl (lv_at hl 0 rfl) ?_
        refine S_getV (n := 2) (C := RX7) (T := TX7) (N := 10) hx hb hg iX7 hown hK hW kd_5 rfl 5 (lt_b rfl) (hg (Cond.fieldLink RX7 39 "SlabWalk$Reader" "paving" "LSlabWalk$Paving;") m317) (fun _ h9 => h9) rfl ((((congrFun (congrFun (congrArg (fun q => q.2.2) eG_26) 5) 5).trans ((hq_21.r9 5 5 rfl rfl).trans ((hq_12.r9 5 5 rfl rfl).trans (hq_7.r9 5 5 rfl rfl))))).trans (hv_5_5)) dX7_readDraw_38 ?_
        refine lv_aload_n hx hb dX7_readDraw_41 rfl (lv_at hl 0 rfl) ?_
        refine S_getI (v := (G_20.1 5 9)) (C := RX7) (T := TX7) (N := 10) hx hb hg iX7 hown hK hW kd_5 rfl 9 (lt_b rfl) (hg (Cond.fieldLink RX7 99 "SlabWalk$Reader" "number" "I") m321) (fun _ h9 => h9) rfl (gp_ne eG_26 (by decide)) dX7_readDraw_42 ?_
        refine S_putI (ty := .int) (C := RX6) (T := TX6) (N := 17) hx hb hg iX6 tyX6 tyX6_ok nmX6 hown hK hW hS kd_2 rfl 16 (lt_b rfl) (hg (Cond.fieldLink RX7 175 "SlabWalk$Paving" "draw" "I") m208) (fun _ h9 => h9) rfl (by decide +kernel) rfl rfl rfl dX7_readDraw_45 (fun G_27 H locs eG_27 hW hS => ?_)
        have hB_G_27 : Bd G_27 := hB_G_26.put (V := (G_20.1 5 9).toInt) (lo := 0) (hi := 999) eG_27 rfl rfl rfl ((by first | (clear b_1 f_9 f_15 hp_13 c_16; omega) | omega)) ((by first | (clear b_1 f_9 f_15 hp_13 c_16; omega) | omega)) (hB_G_26.2.put eG_27 rfl)
        have hF := hF.put eG_27 (Or.inr (by decide))
        refine lv_aload_n hx hb dX7_readDraw_48 rfl (lv_at hl 0 rfl) ?_
        refine S_getR (n := 3) (C := RX7) (T := TX7) (N := 10) hx hb hg iX7 hown hK hW kd_5 rfl 0 (lt_b rfl) (hg (Cond.fieldLink RX7 26 "SlabWalk$Reader" "tokens" "LSlabWalk$Tokens;") m311) (fun _ h9 => h9) rfl dX7_readDraw_49 ?_
        refine lv_bipush (v := 59) hx hb dX7_readDraw_52 (by decide) ?_
        refine S_calli (va_runV (As := [.int 59]) (rest := []) ⟨hx, hb, hml, hown, hts⟩ (k_tPass l D k A a z G_27 59 ) (cwV 1 hts (gd_V hgd m786 m787 m788 m120 m789) rfl rfl rfl hd_X9_pass ⟨Nat.le_of_ble_eq_true rfl, Nat.le_of_ble_eq_true rfl⟩) (pre_W hW hB_G_27 hK hZ hS kd_3 rfl) rfl rfl hl.1 rfl (lv_room (Nat.le_of_ble_eq_true rfl)) dX7_readDraw_54 ⟨Nat.le_of_ble_eq_true rfl, Nat.le_of_ble_eq_true rfl⟩) hS (fun r_28 G_29 H locs hpo hW hS => ?_)
        have hX_32 : P_tPass 59 G_27 r_28 G_29 := hpo
        obtain ⟨hB_G_29, hq_30, f_33, -⟩ := hpo
        have hF := hF.call9 hq_30 rfl rfl
        exact W.zret (v := r_28) hx hb hr (nar_z ((by first | (clear b_1 f_9 f_15 hp_13 c_16 f_24 hp_22 c_25; omega) | omega)) ((by first | (clear b_1 f_9 f_15 hp_13 c_16 f_24 hp_22 c_25; omega) | omega))) (fun t ht _ => ⟨⟨r_28, G_29, rfl, (P_rDraw_2_mk ⟨hB_G_29, hF, ⟨(by first | (clear b_1 f_9 f_15 hp_13 c_16 f_24 hp_22 c_25; omega) | omega), (by first | (clear b_1 f_9 f_15 hp_13 c_16 f_24 hp_22 c_25; omega) | omega)⟩, ⟨w_3, G_5, hX_8, f_9, hB_G_5, hq_7, ⟨r_10, G_11, hX_14, (Or.inr ⟨c_16, ⟨r_19, G_20, hX_23, (Or.inr ⟨c_25, ⟨G_27, hB_G_27, (Fr.put (rs := []) (fs := [(2, 16), (5, 8)]) (Fr.put (rs := []) (fs := [(2, 16), (5, 8)]) Fr.rf eG_26 (Or.inr (by decide))) eG_27 (Or.inr (by decide))), (gp_eq eG_27), ((gp_ne eG_27 (by decide)).trans (gp_eq eG_26)), ⟨r_28, G_29, hX_32, ⟨rfl, rfl⟩⟩⟩⟩)⟩⟩)⟩⟩⟩), wd_t ht hW⟩, hS.F ht⟩) hS.2.2 dX7_readDraw_57
      · have c_25 : r_19.toInt = 0 := xI_eq rfl rfl c_25
        refine ic_0 hx hb dX7_readDraw_30 ?_
        exact W.zret (v := 0) hx hb hr (by decide) (fun t ht _ => ⟨⟨0, G_20, rfl, (P_rDraw_2_mk ⟨hB_G_20, hF, ⟨by decide, by decide⟩, ⟨w_3, G_5, hX_8, f_9, hB_G_5, hq_7, ⟨r_10, G_11, hX_14, (Or.inr ⟨c_16, ⟨r_19, G_20, hX_23, (Or.inl ⟨c_25, ⟨rfl, rfl⟩⟩)⟩⟩)⟩⟩⟩), wd_t ht hW⟩, hS.F ht⟩) hS.2.2 dX7_readDraw_31
  refine lv_if_ne (tgt := 12) hx hb dX7_readDraw_5 rfl (fun c_34 => ?_) (fun c_34 => ?_)
  · have c_34 : (G.1 5 8).toInt ≠ 0 := xI_ne rfl rfl c_34
    refine ic_0 hx hb dX7_readDraw_12 ?_
    have qc_35 : (0 : Int32).toInt = 0 := rfl
    exact hJ_6 0 _ _ _ ⟨G, ⟨by omega, by omega⟩, (Jn_k_rDraw_2_1_mk (Or.inr ⟨c_34, ⟨rfl, rfl⟩⟩)), hW, hB_G, hF, (Fr.rf (rs := []) (fs := [])), hS, lv_sub hl [0] rfl⟩
  · have c_34 : (G.1 5 8).toInt = 0 := xI_eq rfl rfl c_34
    refine ic_1 hx hb dX7_readDraw_8 ?_
    refine lv_goto (tgt := 13) hx hb dX7_readDraw_9 rfl ?_
    have qc_36 : (1 : Int32).toInt = 1 := rfl
    exact hJ_6 1 _ _ _ ⟨G, ⟨by omega, by omega⟩, (Jn_k_rDraw_2_1_mk (Or.inl ⟨c_34, ⟨rfl, rfl⟩⟩)), hW, hB_G, hF, (Fr.rf (rs := []) (fs := [])), hS, lv_sub hl [0] rfl⟩

set_option maxHeartbeats 4000000 in
set_option maxRecDepth 100000 in
theorem k_rRead_2 (l : Launch) (D : va_G) (k : KT) (A : Nat → Prop) (a : Nat → Nat) (z : SK) (G : GS) (p0 : Int32) (ha_p0 : 0 ≤ p0.toInt ∧ p0.toInt ≤ 1600) : Met l yX7_read (WS yX7_read cX7_read 5 (some .boolean)) ({ frames := 101, cells := 0, slots := 0, locals := 2170 }) (va_Pc [.ref (a 5), .int p0, .ref (a 2)] (cW D k A a z G)) (va_Qi (fun (r : Int32) (G1 : GS) => P_rRead_2 p0 G r G1) (fun (G1 : GS) t => Wd D k A a G1 t.heap) A) 0 0 A := by
  refine Met.ofW (cc := cX7_read) (maxL := 5) (ret := (some .boolean)) (by decide) rfl ?_
  intro p e s m args below meth c s₁ B hml hv
  obtain ⟨rfl, hW, hB_G, hK, hZ⟩ := hv
  have hx := B.exec
  have hb := B.bytes
  have hr := B.returns
  have hts := atoms_spec (ws := WS yX7_read cX7_read 5 (some .boolean)) B.pre
  have hgd : ∀ w ∈ gd, w ∈ WS yX7_read cX7_read 5 (some .boolean) := fun w h => List.mem_cons_of_mem _ h
  have hg : ∀ w ∈ gd, w.before _ s = true := fun w h => hts w (hgd w h)
  have hown : s.vm.findClass RX7 = some m.cls := findClass_of_methodNamed B.named
  have hS : va_S A s.heap s.heap [] := va_S.rf
  have hF : Fr [20, 21, 22, 23, 24, 25, 26, 27, 28, 34, 35, 36] [(2, 9), (2, 10), (2, 11), (2, 12), (2, 13), (2, 14), (2, 15), (2, 16), (3, 1), (3, 2), (3, 3), (3, 4), (3, 5), (3, 6), (3, 7), (3, 8), (4, 1), (4, 2), (5, 5), (5, 6), (5, 7), (5, 8), (5, 9)] G G := Fr.rf
  have hl := lv_entry ([.ref (a 5), .int p0, .ref (a 2)]) (n := 5) (Nat.le_of_ble_eq_true rfl)
  rw [lg_entry_eq]
  generalize (lg_sl ([.ref (a 5), .int p0, .ref (a 2)]) ++ List.replicate (5 - (lg_sl ([.ref (a 5), .int p0, .ref (a 2)])).length) Slot.unset).toArray = ls at hl ⊢
  have hl : lv_has ls 5 [(0, .ref (a 5)), (1, .int p0), (2, .ref (a 2))] := hl
  refine lv_aload_n hx hb dX7_read_0 rfl (lv_at hl 0 rfl) ?_
  refine lv_aload_n hx hb dX7_read_1 rfl (lv_at hl 2 rfl) ?_
  refine S_putV (ty := .object "SlabWalk$Paving") (n := 2) (C := RX7) (T := TX7) (N := 10) hx hb hg iX7 tyX7 tyX7_ok nmX7 hown hK hW hS kd_5 rfl 5 (lt_b rfl) (hg (Cond.fieldLink RX7 39 "SlabWalk$Reader" "paving" "LSlabWalk$Paving;") m317) (fun _ h9 => h9) rfl (by decide +kernel) rfl rfl rfl dX7_read_2 (fun G_1 H locs eG_1 hW hS => ?_)
  have hB_G_1 : Bd G_1 := hB_G.putr eG_1 (by decide) (by decide)
  have hF := hF.putr eG_1 (Or.inr (by decide))
  refine lv_aload_n hx hb dX7_read_5 rfl (lv_at hl 0 rfl) ?_
  refine S_getV (n := 2) (C := RX7) (T := TX7) (N := 10) hx hb hg iX7 hown hK hW kd_5 rfl 5 (lt_b rfl) (hg (Cond.fieldLink RX7 39 "SlabWalk$Reader" "paving" "LSlabWalk$Paving;") m317) (fun _ h9 => h9) rfl (gp_re eG_1) dX7_read_6 ?_
  refine S_callv (va_runV (As := []) (rest := []) ⟨hx, hb, hml, hown, hts⟩ (k_empty_2 l D k A a z G_1  ) (cwV 0 hts (gd_V hgd m630 m153 m154 m118 m155) rfl rfl rfl hd_X6_empty ⟨Nat.le_of_ble_eq_true rfl, Nat.le_of_ble_eq_true rfl⟩) (pre_W hW hB_G_1 hK hZ hS kd_2 rfl) rfl rfl hl.1 rfl (lv_room (Nat.le_of_ble_eq_true rfl)) dX7_read_9 ⟨Nat.le_of_ble_eq_true rfl, Nat.le_of_ble_eq_true rfl⟩) hS (fun G_3 H locs hpo hW hS => ?_)
  have hX_6 : P_empty_2 G_1 G_3 := hpo
  obtain ⟨hB_G_3, hq_4, -⟩ := hpo
  have hF := hF.call9 hq_4 rfl rfl
  refine lv_aload_n hx hb dX7_read_12 rfl (lv_at hl 0 rfl) ?_
  refine ic_0 hx hb dX7_read_13 ?_
  refine S_putI (ty := .boolean) (C := RX7) (T := TX7) (N := 10) hx hb hg iX7 tyX7 tyX7_ok nmX7 hown hK hW hS kd_5 rfl 6 (lt_b rfl) (hg (Cond.fieldLink RX7 48 "SlabWalk$Reader" "slipTold" "Z") m318) (fun _ h9 => h9) rfl (by decide +kernel) (by decide) rfl rfl dX7_read_14 (fun G_7 H locs eG_7 hW hS => ?_)
  have hB_G_7 : Bd G_7 := hB_G_3.put (V := 0) (lo := 0) (hi := 1) eG_7 rfl rfl rfl (by decide) (by decide) (hB_G_3.2.put eG_7 rfl)
  have hF := hF.put eG_7 (Or.inr (by decide))
  refine lv_aload_n hx hb dX7_read_17 rfl (lv_at hl 0 rfl) ?_
  refine ic_0 hx hb dX7_read_18 ?_
  refine S_putI (ty := .boolean) (C := RX7) (T := TX7) (N := 10) hx hb hg iX7 tyX7 tyX7_ok nmX7 hown hK hW hS kd_5 rfl 7 (lt_b rfl) (hg (Cond.fieldLink RX7 52 "SlabWalk$Reader" "handTold" "Z") m319) (fun _ h9 => h9) rfl (by decide +kernel) (by decide) rfl rfl dX7_read_19 (fun G_8 H locs eG_8 hW hS => ?_)
  have hB_G_8 : Bd G_8 := hB_G_7.put (V := 0) (lo := 0) (hi := 1) eG_8 rfl rfl rfl (by decide) (by decide) (hB_G_7.2.put eG_8 rfl)
  have hF := hF.put eG_8 (Or.inr (by decide))
  refine lv_aload_n hx hb dX7_read_22 rfl (lv_at hl 0 rfl) ?_
  refine ic_0 hx hb dX7_read_23 ?_
  refine S_putI (ty := .boolean) (C := RX7) (T := TX7) (N := 10) hx hb hg iX7 tyX7 tyX7_ok nmX7 hown hK hW hS kd_5 rfl 8 (lt_b rfl) (hg (Cond.fieldLink RX7 55 "SlabWalk$Reader" "drawTold" "Z") m320) (fun _ h9 => h9) rfl (by decide +kernel) (by decide) rfl rfl dX7_read_24 (fun G_9 H locs eG_9 hW hS => ?_)
  have hB_G_9 : Bd G_9 := hB_G_8.put (V := 0) (lo := 0) (hi := 1) eG_9 rfl rfl rfl (by decide) (by decide) (hB_G_8.2.put eG_9 rfl)
  have hF := hF.put eG_9 (Or.inr (by decide))
  refine lv_aload_n hx hb dX7_read_27 rfl (lv_at hl 0 rfl) ?_
  refine S_getR (n := 3) (C := RX7) (T := TX7) (N := 10) hx hb hg iX7 hown hK hW kd_5 rfl 0 (lt_b rfl) (hg (Cond.fieldLink RX7 26 "SlabWalk$Reader" "tokens" "LSlabWalk$Tokens;") m311) (fun _ h9 => h9) rfl dX7_read_28 ?_
  refine lv_iload_n hx hb dX7_read_31 rfl (lv_at hl 1 rfl) ?_
  refine S_callv (va_runV (As := [.int p0]) (rest := []) ⟨hx, hb, hml, hown, hts⟩ (k_tOpen l D k A a z G_9 p0 ⟨by omega, by omega⟩) (cwV 1 hts (gd_V hgd m631 m632 m633 m120 m634) rfl rfl rfl hd_X9_open ⟨Nat.le_of_ble_eq_true rfl, Nat.le_of_ble_eq_true rfl⟩) (pre_W hW hB_G_9 hK hZ hS kd_3 rfl) rfl rfl hl.1 rfl (lv_room (Nat.le_of_ble_eq_true rfl)) dX7_read_32 ⟨Nat.le_of_ble_eq_true rfl, Nat.le_of_ble_eq_true rfl⟩) hS (fun G_11 H locs hpo hW hS => ?_)
  have hX_14 : P_tOpen p0 G_9 G_11 := hpo
  obtain ⟨hB_G_11, hq_12, -⟩ := hpo
  have hF := hF.call9 hq_12 rfl rfl
  refine ic_1 hx hb dX7_read_35 ?_
  refine lv_istore_n (lv' := [(3, .int 1), (0, .ref (a 5)), (1, .int p0), (2, .ref (a 2))]) hx hb dX7_read_36 rfl hl (lt_b rfl) rfl (fun ls hl => ?_)
  refine ic_0 hx hb dX7_read_37 ?_
  refine lv_istore (lv' := [(4, .int 0), (3, .int 1), (0, .ref (a 5)), (1, .int p0), (2, .ref (a 2))]) hx hb dX7_read_38 hl (lt_b rfl) rfl (fun ls hl => ?_)
  have qc_22 : (0 : Int32).toInt = 0 := rfl
  have qc_23 : (1 : Int32).toInt = 1 := rfl
  refine loop_N (Inv := fun n H locs ls => ∃ (G_15 : GS) (x_19 : Int32) (x_20 : Int32), (n : Int) = 1600 - x_19.toInt ∧ (0 ≤ x_19.toInt ∧ x_19.toInt ≤ 1600) ∧ (0 ≤ x_20.toInt ∧ x_20.toInt ≤ 1) ∧ Rc (St_k_rRead_2_1) (0, 1, G_11) (x_19, x_20, G_15) ∧ Wd D k A a G_15 H ∧ Bd G_15 ∧ Fr [20, 21, 22, 23, 24, 25, 26, 27, 28, 34, 35, 36] [(2, 9), (2, 10), (2, 11), (2, 12), (2, 13), (2, 14), (2, 15), (2, 16), (3, 1), (3, 2), (3, 3), (3, 4), (3, 5), (3, 6), (3, 7), (3, 8), (4, 1), (4, 2), (5, 5), (5, 6), (5, 7), (5, 8), (5, 9)] G G_15 ∧ Fr [20, 21, 22, 23, 24, 25, 26, 27, 28, 34, 35, 36] [(2, 9), (2, 10), (2, 11), (2, 12), (2, 13), (2, 14), (2, 15), (2, 16), (3, 2), (3, 3), (3, 4), (3, 5), (3, 6), (3, 7), (3, 8), (4, 1), (4, 2), (5, 6), (5, 7), (5, 8), (5, 9)] G_11 G_15 ∧ va_S A s.heap H locs ∧ lv_has ls 5 [(4, .int x_19), (3, .int x_20), (0, .ref (a 5))]) (fun n_18 H locs ls ih_17 hI => ?_) (1600 - 0 : Int).toNat ⟨G_11, 0, 1, (Int.toNat_of_nonneg (by omega)), ⟨by omega, by omega⟩, ⟨by omega, by omega⟩, Rc.rf, hW, hB_G_11, hF, Fr.rf, hS, lv_sub hl [0, 1, 2] rfl⟩
  obtain ⟨G_15, x_19, x_20, hn_26, f_24, f_25, hX_21, hW, hB_G_15, hF, hq_16, hS, hl⟩ := hI
  refine lv_iload_n hx hb dX7_read_40 rfl (lv_at hl 1 rfl) ?_
  refine lv_if_eq (tgt := 195) hx hb dX7_read_41 rfl (fun c_27 => ?_) (fun c_27 => ?_)
  · have c_27 : x_20.toInt = 0 := xI_eq rfl rfl c_27
    refine lv_iload_n hx hb dX7_read_195 rfl (lv_at hl 1 rfl) ?_
    exact W.zret (v := x_20) hx hb hr (nar_z ((by first | (clear ha_p0 hn_26 f_24; omega) | omega)) ((by first | (clear ha_p0 hn_26 f_24; omega) | omega))) (fun t ht _ => ⟨⟨x_20, G_15, rfl, (P_rRead_2_mk ⟨hB_G_15, hF, ⟨(by first | (clear ha_p0 hn_26 f_24; omega) | omega), (by first | (clear ha_p0 hn_26 f_24; omega) | omega)⟩, ⟨G_1, hB_G_1, (Fr.putr (rs := []) (fs := [(5, 5)]) Fr.rf eG_1 (Or.inr (by decide))), (gp_re eG_1), ⟨G_3, hX_6, ⟨G_9, hB_G_9, (Fr.put (rs := []) (fs := [(5, 6), (5, 7), (5, 8)]) (Fr.put (rs := []) (fs := [(5, 6), (5, 7), (5, 8)]) (Fr.put (rs := []) (fs := [(5, 6), (5, 7), (5, 8)]) Fr.rf eG_7 (Or.inr (by decide))) eG_8 (Or.inr (by decide))) eG_9 (Or.inr (by decide))), ((gp_ne eG_9 (by decide)).trans ((gp_ne eG_8 (by decide)).trans (gp_eq eG_7))), ((gp_ne eG_9 (by decide)).trans (gp_eq eG_8)), (gp_eq eG_9), ⟨G_11, hX_14, ⟨x_19, x_20, G_15, hX_21, f_24, f_25, hB_G_15, hq_16, (Or.inl ⟨c_27, ⟨rfl, rfl⟩⟩)⟩⟩⟩⟩⟩⟩), wd_t ht hW⟩, hS.F ht⟩) hS.2.2 dX7_read_196
  · have c_27 : x_20.toInt ≠ 0 := xI_ne rfl rfl c_27
    refine lv_iload hx hb dX7_read_44 (lv_at hl 0 rfl) ?_
    refine lv_sipush (v := 1600) hx hb dX7_read_46 (by decide) ?_
    refine lv_icmp_ge (tgt := 195) hx hb dX7_read_49 rfl (fun c_28 => ?_) (fun c_28 => ?_)
    · have c_28 : 1600 ≤ x_19.toInt := xI_le rfl rfl c_28
      refine lv_iload_n hx hb dX7_read_195 rfl (lv_at hl 1 rfl) ?_
      exact W.zret (v := x_20) hx hb hr (nar_z ((by first | (clear ha_p0 hn_26 f_24 c_28; omega) | omega)) ((by first | (clear ha_p0 hn_26 f_24 c_28; omega) | omega))) (fun t ht _ => ⟨⟨x_20, G_15, rfl, (P_rRead_2_mk ⟨hB_G_15, hF, ⟨(by first | (clear ha_p0 hn_26 f_24 c_28; omega) | omega), (by first | (clear ha_p0 hn_26 f_24 c_28; omega) | omega)⟩, ⟨G_1, hB_G_1, (Fr.putr (rs := []) (fs := [(5, 5)]) Fr.rf eG_1 (Or.inr (by decide))), (gp_re eG_1), ⟨G_3, hX_6, ⟨G_9, hB_G_9, (Fr.put (rs := []) (fs := [(5, 6), (5, 7), (5, 8)]) (Fr.put (rs := []) (fs := [(5, 6), (5, 7), (5, 8)]) (Fr.put (rs := []) (fs := [(5, 6), (5, 7), (5, 8)]) Fr.rf eG_7 (Or.inr (by decide))) eG_8 (Or.inr (by decide))) eG_9 (Or.inr (by decide))), ((gp_ne eG_9 (by decide)).trans ((gp_ne eG_8 (by decide)).trans (gp_eq eG_7))), ((gp_ne eG_9 (by decide)).trans (gp_eq eG_8)), (gp_eq eG_9), ⟨G_11, hX_14, ⟨x_19, x_20, G_15, hX_21, f_24, f_25, hB_G_15, hq_16, (Or.inr ⟨c_27, (Or.inl ⟨c_28, ⟨rfl, rfl⟩⟩)⟩)⟩⟩⟩⟩⟩⟩), wd_t ht hW⟩, hS.F ht⟩) hS.2.2 dX7_read_196
    · have c_28 : x_19.toInt < 1600 := xI_nle rfl rfl c_28
      refine lv_aload_n hx hb dX7_read_52 rfl (lv_at hl 2 rfl) ?_
      refine S_getR (n := 3) (C := RX7) (T := TX7) (N := 10) hx hb hg iX7 hown hK hW kd_5 rfl 0 (lt_b rfl) (hg (Cond.fieldLink RX7 26 "SlabWalk$Reader" "tokens" "LSlabWalk$Tokens;") m311) (fun _ h9 => h9) rfl dX7_read_53 ?_
      refine S_getI (v := (G_15.1 3 3)) (C := RX9) (T := TX9) (N := 9) hx hb hg iX9 hown hK hW kd_3 rfl 3 (lt_b rfl) (hg (Cond.fieldLink RX7 62 "SlabWalk$Tokens" "kind" "I") m261) (fun _ h9 => h9) rfl rfl dX7_read_56 ?_
      refine lv_sipush (v := 203) hx hb dX7_read_59 (by decide) ?_
      refine lv_icmp_eq (tgt := 195) hx hb dX7_read_62 rfl (fun c_29 => ?_) (fun c_29 => ?_)
      · have c_29 : (G_15.1 3 3).toInt = 203 := xI_eq rfl rfl c_29
        refine lv_iload_n hx hb dX7_read_195 rfl (lv_at hl 1 rfl) ?_
        exact W.zret (v := x_20) hx hb hr (nar_z ((by first | (clear ha_p0 hn_26 f_24 c_28 c_29; omega) | omega)) ((by first | (clear ha_p0 hn_26 f_24 c_28 c_29; omega) | omega))) (fun t ht _ => ⟨⟨x_20, G_15, rfl, (P_rRead_2_mk ⟨hB_G_15, hF, ⟨(by first | (clear ha_p0 hn_26 f_24 c_28 c_29; omega) | omega), (by first | (clear ha_p0 hn_26 f_24 c_28 c_29; omega) | omega)⟩, ⟨G_1, hB_G_1, (Fr.putr (rs := []) (fs := [(5, 5)]) Fr.rf eG_1 (Or.inr (by decide))), (gp_re eG_1), ⟨G_3, hX_6, ⟨G_9, hB_G_9, (Fr.put (rs := []) (fs := [(5, 6), (5, 7), (5, 8)]) (Fr.put (rs := []) (fs := [(5, 6), (5, 7), (5, 8)]) (Fr.put (rs := []) (fs := [(5, 6), (5, 7), (5, 8)]) Fr.rf eG_7 (Or.inr (by decide))) eG_8 (Or.inr (by decide))) eG_9 (Or.inr (by decide))), ((gp_ne eG_9 (by decide)).trans ((gp_ne eG_8 (by decide)).trans (gp_eq eG_7))), ((gp_ne eG_9 (by decide)).trans (gp_eq eG_8)), (gp_eq eG_9), ⟨G_11, hX_14, ⟨x_19, x_20, G_15, hX_21, f_24, f_25, hB_G_15, hq_16, (Or.inr ⟨c_27, (Or.inr ⟨c_28, ⟨c_29, ⟨rfl, rfl⟩⟩⟩)⟩)⟩⟩⟩⟩⟩⟩), wd_t ht hW⟩, hS.F ht⟩) hS.2.2 dX7_read_196
      · have c_29 : (G_15.1 3 3).toInt ≠ 203 := xI_ne rfl rfl c_29
        refine lv_aload_n hx hb dX7_read_65 rfl (lv_at hl 2 rfl) ?_
        refine S_getR (n := 3) (C := RX7) (T := TX7) (N := 10) hx hb hg iX7 hown hK hW kd_5 rfl 0 (lt_b rfl) (hg (Cond.fieldLink RX7 26 "SlabWalk$Reader" "tokens" "LSlabWalk$Tokens;") m311) (fun _ h9 => h9) rfl dX7_read_66 ?_
        refine S_getI (v := (G_15.1 3 3)) (C := RX9) (T := TX9) (N := 9) hx hb hg iX9 hown hK hW kd_3 rfl 3 (lt_b rfl) (hg (Cond.fieldLink RX7 62 "SlabWalk$Tokens" "kind" "I") m261) (fun _ h9 => h9) rfl rfl dX7_read_69 ?_
        by_cases c_30 : (G_15.1 3 3) = 128
        · refine lv_tableIn (tgt := 132) hx hb dX7_read_72 (by rw [c_30]; decide) (by rw [c_30]; decide) (off := 60) (by rw [c_30]; decide) (by decide) ?_
          have c_30 : (G_15.1 3 3).toInt = 128 := xI_eq rfl rfl c_30
          refine lv_aload_n hx hb dX7_read_132 rfl (lv_at hl 2 rfl) ?_
          refine S_calli (va_runV (As := []) (rest := []) ⟨hx, hb, hml, hown, hts⟩ (k_rStreet_2 l D k A a z G_15  ((hq_16.r9 5 5 rfl rfl).trans ((hq_12.r9 5 5 rfl rfl).trans ((congrFun (congrFun (congrArg (fun q => q.2.2) eG_9) 5) 5).trans ((congrFun (congrFun (congrArg (fun q => q.2.2) eG_8) 5) 5).trans ((congrFun (congrFun (congrArg (fun q => q.2.2) eG_7) 5) 5).trans ((hq_4.r9 5 5 rfl rfl).trans (gp_re eG_1)))))))) (cwV 0 hts (gd_V hgd m769 m771 m8 m119 m772) rfl rfl rfl hd_X7_readStreet ⟨Nat.le_of_ble_eq_true rfl, Nat.le_of_ble_eq_true rfl⟩) (pre_W hW hB_G_15 hK hZ hS kd_5 rfl) rfl rfl hl.1 rfl (lv_room (Nat.le_of_ble_eq_true rfl)) dX7_read_133 ⟨Nat.le_of_ble_eq_true rfl, Nat.le_of_ble_eq_true rfl⟩) hS (fun r_31 G_32 H locs hpo hW hS => ?_)
          have hX_35 : P_rStreet_2 G_15 r_31 G_32 := hpo
          obtain ⟨hB_G_32, hq_33, f_36, -⟩ := hpo
          have hF := hF.call9 hq_33 rfl rfl
          refine lv_istore_n (lv' := [(3, .int r_31), (4, .int x_19), (0, .ref (a 5))]) hx hb dX7_read_136 rfl hl (lt_b rfl) rfl (fun ls hl => ?_)
          refine lv_goto (tgt := 189) hx hb dX7_read_137 rfl ?_
          obtain ⟨y_37, ey_37⟩ : ∃ q, q = x_19 + 1 := ⟨_, rfl⟩
          have ty_37 : y_37.toInt = x_19.toInt + 1 := xI_add rfl rfl ey_37 ((by first | (clear ha_p0 hn_26 f_25 c_27 c_29 c_30 f_36; omega) | omega)) ((by first | (clear ha_p0 hn_26 f_25 c_27 c_29 c_30 f_36; omega) | omega))
          refine lv_iinc (v := y_37) (lv' := [(4, .int y_37), (3, .int r_31), (0, .ref (a 5))]) hx hb dX7_read_189 hl (k := 1) rfl (by rw [ey_37]; rfl) (lt_b rfl) rfl (fun ls hl => ?_)
          refine lv_goto (tgt := 40) hx hb dX7_read_192 rfl ?_
          exact ih_17 (1600 - y_37.toInt : Int).toNat ((by first | (clear ha_p0 f_25 c_27 c_29 c_30 f_36; omega) | omega)) _ _ _ ⟨G_32, y_37, r_31, (Int.toNat_of_nonneg ((by first | (clear ha_p0 hn_26 f_25 c_27 c_29 c_30 f_36; omega) | omega))), ⟨(by first | (clear ha_p0 hn_26 f_25 c_27 c_29 c_30 f_36; omega) | omega), (by first | (clear ha_p0 hn_26 f_25 c_27 c_29 c_30 f_36; omega) | omega)⟩, ⟨(by first | (clear ha_p0 hn_26 f_24 f_25 c_27 c_28 c_29 c_30 ty_37; omega) | omega), (by first | (clear ha_p0 hn_26 f_24 f_25 c_27 c_28 c_29 c_30 ty_37; omega) | omega)⟩, (hX_21.st (St_k_rRead_2_1_mk ⟨x_19, x_20, G_15, y_37, r_31, G_32, rfl, rfl, f_24, f_25, hB_G_15, ⟨c_27, ⟨c_28, ⟨c_29, (Or.inl ⟨c_30, ⟨r_31, G_32, hX_35, ⟨y_37, ty_37, ⟨rfl, rfl, rfl⟩⟩⟩⟩)⟩⟩⟩⟩)), hW, hB_G_32, hF, (Fr.call9 (rs := [20, 21, 22, 23, 24, 25, 26, 27, 28, 34, 35, 36]) (fs := [(2, 9), (2, 10), (2, 11), (2, 12), (2, 13), (2, 14), (2, 15), (2, 16), (3, 2), (3, 3), (3, 4), (3, 5), (3, 6), (3, 7), (3, 8), (4, 1), (4, 2), (5, 6), (5, 7), (5, 8), (5, 9)]) (Fr.call9 (rs := [20, 21, 22, 23, 24, 25, 26, 27, 28, 34, 35, 36]) (fs := [(2, 9), (2, 10), (2, 11), (2, 12), (2, 13), (2, 14), (2, 15), (2, 16), (3, 2), (3, 3), (3, 4), (3, 5), (3, 6), (3, 7), (3, 8), (4, 1), (4, 2), (5, 6), (5, 7), (5, 8), (5, 9)]) Fr.rf hq_16 rfl rfl) hq_33 rfl rfl), hS, lv_sub hl [0, 1, 2] rfl⟩
        by_cases c_38 : (G_15.1 3 3) = 129
        · refine lv_tableIn (tgt := 140) hx hb dX7_read_72 (by rw [c_38]; decide) (by rw [c_38]; decide) (off := 68) (by rw [c_38]; decide) (by decide) ?_
          have c_38 : (G_15.1 3 3).toInt = 129 := xI_eq rfl rfl c_38
          refine lv_aload_n hx hb dX7_read_140 rfl (lv_at hl 2 rfl) ?_
          refine S_calli (va_runV (As := []) (rest := []) ⟨hx, hb, hml, hown, hts⟩ (k_rWalker_2 l D k A a z G_15  ((hq_16.r9 5 5 rfl rfl).trans ((hq_12.r9 5 5 rfl rfl).trans ((congrFun (congrFun (congrArg (fun q => q.2.2) eG_9) 5) 5).trans ((congrFun (congrFun (congrArg (fun q => q.2.2) eG_8) 5) 5).trans ((congrFun (congrFun (congrArg (fun q => q.2.2) eG_7) 5) 5).trans ((hq_4.r9 5 5 rfl rfl).trans (gp_re eG_1)))))))) (cwV 0 hts (gd_V hgd m809 m811 m14 m119 m812) rfl rfl rfl hd_X7_readWalker ⟨Nat.le_of_ble_eq_true rfl, Nat.le_of_ble_eq_true rfl⟩) (pre_W hW hB_G_15 hK hZ hS kd_5 rfl) rfl rfl hl.1 rfl (lv_room (Nat.le_of_ble_eq_true rfl)) dX7_read_141 ⟨Nat.le_of_ble_eq_true rfl, Nat.le_of_ble_eq_true rfl⟩) hS (fun r_39 G_40 H locs hpo hW hS => ?_)
          have hX_43 : P_rWalker_2 G_15 r_39 G_40 := hpo
          obtain ⟨hB_G_40, hq_41, f_44, -⟩ := hpo
          have hF := hF.call9 hq_41 rfl rfl
          refine lv_istore_n (lv' := [(3, .int r_39), (4, .int x_19), (0, .ref (a 5))]) hx hb dX7_read_144 rfl hl (lt_b rfl) rfl (fun ls hl => ?_)
          refine lv_goto (tgt := 189) hx hb dX7_read_145 rfl ?_
          obtain ⟨y_45, ey_45⟩ : ∃ q, q = x_19 + 1 := ⟨_, rfl⟩
          have ty_45 : y_45.toInt = x_19.toInt + 1 := xI_add rfl rfl ey_45 ((by first | (clear ha_p0 hn_26 f_25 c_27 c_29 c_38 f_44; omega) | omega)) ((by first | (clear ha_p0 hn_26 f_25 c_27 c_29 c_38 f_44; omega) | omega))
          refine lv_iinc (v := y_45) (lv' := [(4, .int y_45), (3, .int r_39), (0, .ref (a 5))]) hx hb dX7_read_189 hl (k := 1) rfl (by rw [ey_45]; rfl) (lt_b rfl) rfl (fun ls hl => ?_)
          refine lv_goto (tgt := 40) hx hb dX7_read_192 rfl ?_
          exact ih_17 (1600 - y_45.toInt : Int).toNat ((by first | (clear ha_p0 f_25 c_27 c_29 c_38 f_44; omega) | omega)) _ _ _ ⟨G_40, y_45, r_39, (Int.toNat_of_nonneg ((by first | (clear ha_p0 hn_26 f_25 c_27 c_29 c_38 f_44; omega) | omega))), ⟨(by first | (clear ha_p0 hn_26 f_25 c_27 c_29 c_38 f_44; omega) | omega), (by first | (clear ha_p0 hn_26 f_25 c_27 c_29 c_38 f_44; omega) | omega)⟩, ⟨(by first | (clear ha_p0 hn_26 f_24 f_25 c_27 c_28 c_29 c_38 ty_45; omega) | omega), (by first | (clear ha_p0 hn_26 f_24 f_25 c_27 c_28 c_29 c_38 ty_45; omega) | omega)⟩, (hX_21.st (St_k_rRead_2_1_mk ⟨x_19, x_20, G_15, y_45, r_39, G_40, rfl, rfl, f_24, f_25, hB_G_15, ⟨c_27, ⟨c_28, ⟨c_29, (Or.inr ⟨(xI_ne (Y := 128) rfl rfl c_30), (Or.inl ⟨c_38, ⟨r_39, G_40, hX_43, ⟨y_45, ty_45, ⟨rfl, rfl, rfl⟩⟩⟩⟩)⟩)⟩⟩⟩⟩)), hW, hB_G_40, hF, (Fr.call9 (rs := [20, 21, 22, 23, 24, 25, 26, 27, 28, 34, 35, 36]) (fs := [(2, 9), (2, 10), (2, 11), (2, 12), (2, 13), (2, 14), (2, 15), (2, 16), (3, 2), (3, 3), (3, 4), (3, 5), (3, 6), (3, 7), (3, 8), (4, 1), (4, 2), (5, 6), (5, 7), (5, 8), (5, 9)]) (Fr.call9 (rs := [20, 21, 22, 23, 24, 25, 26, 27, 28, 34, 35, 36]) (fs := [(2, 9), (2, 10), (2, 11), (2, 12), (2, 13), (2, 14), (2, 15), (2, 16), (3, 2), (3, 3), (3, 4), (3, 5), (3, 6), (3, 7), (3, 8), (4, 1), (4, 2), (5, 6), (5, 7), (5, 8), (5, 9)]) Fr.rf hq_16 rfl rfl) hq_41 rfl rfl), hS, lv_sub hl [0, 1, 2] rfl⟩
        by_cases c_46 : (G_15.1 3 3) = 130
        · refine lv_tableIn (tgt := 180) hx hb dX7_read_72 (by rw [c_46]; decide) (by rw [c_46]; decide) (off := 108) (by rw [c_46]; decide) (by decide) ?_
          have c_46 : (G_15.1 3 3).toInt = 130 := xI_eq rfl rfl c_46
          refine lv_aload_n hx hb dX7_read_180 rfl (lv_at hl 2 rfl) ?_
          refine S_getR (n := 3) (C := RX7) (T := TX7) (N := 10) hx hb hg iX7 hown hK hW kd_5 rfl 0 (lt_b rfl) (hg (Cond.fieldLink RX7 26 "SlabWalk$Reader" "tokens" "LSlabWalk$Tokens;") m311) (fun _ h9 => h9) rfl dX7_read_181 ?_
          refine ic_2 hx hb dX7_read_184 ?_
          refine S_calli (va_runV (As := [.int 2]) (rest := []) ⟨hx, hb, hml, hown, hts⟩ (k_tRefuse l D k A a z G_15 2 ⟨by decide, by decide⟩) (cwV 1 hts (gd_V hgd m778 m779 m780 m120 m781) rfl rfl rfl hd_X9_refuse ⟨Nat.le_of_ble_eq_true rfl, Nat.le_of_ble_eq_true rfl⟩) (pre_W hW hB_G_15 hK hZ hS kd_3 rfl) rfl rfl hl.1 rfl (lv_room (Nat.le_of_ble_eq_true rfl)) dX7_read_185 ⟨Nat.le_of_ble_eq_true rfl, Nat.le_of_ble_eq_true rfl⟩) hS (fun r_47 G_48 H locs hpo hW hS => ?_)
          have hX_51 : P_tRefuse 2 G_15 r_47 G_48 := hpo
          obtain ⟨hB_G_48, hq_49, f_52, -⟩ := hpo
          have hF := hF.call9 hq_49 rfl rfl
          refine lv_istore_n (lv' := [(3, .int r_47), (4, .int x_19), (0, .ref (a 5))]) hx hb dX7_read_188 rfl hl (lt_b rfl) rfl (fun ls hl => ?_)
          obtain ⟨y_53, ey_53⟩ : ∃ q, q = x_19 + 1 := ⟨_, rfl⟩
          have ty_53 : y_53.toInt = x_19.toInt + 1 := xI_add rfl rfl ey_53 ((by first | (clear ha_p0 hn_26 f_25 c_27 c_29 c_46 f_52; omega) | omega)) ((by first | (clear ha_p0 hn_26 f_25 c_27 c_29 c_46 f_52; omega) | omega))
          refine lv_iinc (v := y_53) (lv' := [(4, .int y_53), (3, .int r_47), (0, .ref (a 5))]) hx hb dX7_read_189 hl (k := 1) rfl (by rw [ey_53]; rfl) (lt_b rfl) rfl (fun ls hl => ?_)
          refine lv_goto (tgt := 40) hx hb dX7_read_192 rfl ?_
          exact ih_17 (1600 - y_53.toInt : Int).toNat ((by first | (clear ha_p0 f_25 c_27 c_29 c_46 f_52; omega) | omega)) _ _ _ ⟨G_48, y_53, r_47, (Int.toNat_of_nonneg ((by first | (clear ha_p0 hn_26 f_25 c_27 c_29 c_46 f_52; omega) | omega))), ⟨(by first | (clear ha_p0 hn_26 f_25 c_27 c_29 c_46 f_52; omega) | omega), (by first | (clear ha_p0 hn_26 f_25 c_27 c_29 c_46 f_52; omega) | omega)⟩, ⟨(by first | (clear ha_p0 hn_26 f_24 f_25 c_27 c_28 c_29 c_46 ty_53; omega) | omega), (by first | (clear ha_p0 hn_26 f_24 f_25 c_27 c_28 c_29 c_46 ty_53; omega) | omega)⟩, (hX_21.st (St_k_rRead_2_1_mk ⟨x_19, x_20, G_15, y_53, r_47, G_48, rfl, rfl, f_24, f_25, hB_G_15, ⟨c_27, ⟨c_28, ⟨c_29, (Or.inr ⟨(xI_ne (Y := 128) rfl rfl c_30), (Or.inr ⟨(xI_ne (Y := 129) rfl rfl c_38), (Or.inl ⟨c_46, ⟨r_47, G_48, hX_51, ⟨y_53, ty_53, ⟨rfl, rfl, rfl⟩⟩⟩⟩)⟩)⟩)⟩⟩⟩⟩)), hW, hB_G_48, hF, (Fr.call9 (rs := [20, 21, 22, 23, 24, 25, 26, 27, 28, 34, 35, 36]) (fs := [(2, 9), (2, 10), (2, 11), (2, 12), (2, 13), (2, 14), (2, 15), (2, 16), (3, 2), (3, 3), (3, 4), (3, 5), (3, 6), (3, 7), (3, 8), (4, 1), (4, 2), (5, 6), (5, 7), (5, 8), (5, 9)]) (Fr.call9 (rs := [20, 21, 22, 23, 24, 25, 26, 27, 28, 34, 35, 36]) (fs := [(2, 9), (2, 10), (2, 11), (2, 12), (2, 13), (2, 14), (2, 15), (2, 16), (3, 2), (3, 3), (3, 4), (3, 5), (3, 6), (3, 7), (3, 8), (4, 1), (4, 2), (5, 6), (5, 7), (5, 8), (5, 9)]) Fr.rf hq_16 rfl rfl) hq_49 rfl rfl), hS, lv_sub hl [0, 1, 2] rfl⟩
        by_cases c_54 : (G_15.1 3 3) = 131
        · refine lv_tableIn (tgt := 180) hx hb dX7_read_72 (by rw [c_54]; decide) (by rw [c_54]; decide) (off := 108) (by rw [c_54]; decide) (by decide) ?_
          have c_54 : (G_15.1 3 3).toInt = 131 := xI_eq rfl rfl c_54
          refine lv_aload_n hx hb dX7_read_180 rfl (lv_at hl 2 rfl) ?_
          refine S_getR (n := 3) (C := RX7) (T := TX7) (N := 10) hx hb hg iX7 hown hK hW kd_5 rfl 0 (lt_b rfl) (hg (Cond.fieldLink RX7 26 "SlabWalk$Reader" "tokens" "LSlabWalk$Tokens;") m311) (fun _ h9 => h9) rfl dX7_read_181 ?_
          refine ic_2 hx hb dX7_read_184 ?_
          refine S_calli (va_runV (As := [.int 2]) (rest := []) ⟨hx, hb, hml, hown, hts⟩ (k_tRefuse l D k A a z G_15 2 ⟨by decide, by decide⟩) (cwV 1 hts (gd_V hgd m778 m779 m780 m120 m781) rfl rfl rfl hd_X9_refuse ⟨Nat.le_of_ble_eq_true rfl, Nat.le_of_ble_eq_true rfl⟩) (pre_W hW hB_G_15 hK hZ hS kd_3 rfl) rfl rfl hl.1 rfl (lv_room (Nat.le_of_ble_eq_true rfl)) dX7_read_185 ⟨Nat.le_of_ble_eq_true rfl, Nat.le_of_ble_eq_true rfl⟩) hS (fun r_55 G_56 H locs hpo hW hS => ?_)
          have hX_59 : P_tRefuse 2 G_15 r_55 G_56 := hpo
          obtain ⟨hB_G_56, hq_57, f_60, -⟩ := hpo
          have hF := hF.call9 hq_57 rfl rfl
          refine lv_istore_n (lv' := [(3, .int r_55), (4, .int x_19), (0, .ref (a 5))]) hx hb dX7_read_188 rfl hl (lt_b rfl) rfl (fun ls hl => ?_)
          obtain ⟨y_61, ey_61⟩ : ∃ q, q = x_19 + 1 := ⟨_, rfl⟩
          have ty_61 : y_61.toInt = x_19.toInt + 1 := xI_add rfl rfl ey_61 ((by first | (clear ha_p0 hn_26 f_25 c_27 c_29 c_54 f_60; omega) | omega)) ((by first | (clear ha_p0 hn_26 f_25 c_27 c_29 c_54 f_60; omega) | omega))
          refine lv_iinc (v := y_61) (lv' := [(4, .int y_61), (3, .int r_55), (0, .ref (a 5))]) hx hb dX7_read_189 hl (k := 1) rfl (by rw [ey_61]; rfl) (lt_b rfl) rfl (fun ls hl => ?_)
          refine lv_goto (tgt := 40) hx hb dX7_read_192 rfl ?_
          exact ih_17 (1600 - y_61.toInt : Int).toNat ((by first | (clear ha_p0 f_25 c_27 c_29 c_54 f_60; omega) | omega)) _ _ _ ⟨G_56, y_61, r_55, (Int.toNat_of_nonneg ((by first | (clear ha_p0 hn_26 f_25 c_27 c_29 c_54 f_60; omega) | omega))), ⟨(by first | (clear ha_p0 hn_26 f_25 c_27 c_29 c_54 f_60; omega) | omega), (by first | (clear ha_p0 hn_26 f_25 c_27 c_29 c_54 f_60; omega) | omega)⟩, ⟨(by first | (clear ha_p0 hn_26 f_24 f_25 c_27 c_28 c_29 c_54 ty_61; omega) | omega), (by first | (clear ha_p0 hn_26 f_24 f_25 c_27 c_28 c_29 c_54 ty_61; omega) | omega)⟩, (hX_21.st (St_k_rRead_2_1_mk ⟨x_19, x_20, G_15, y_61, r_55, G_56, rfl, rfl, f_24, f_25, hB_G_15, ⟨c_27, ⟨c_28, ⟨c_29, (Or.inr ⟨(xI_ne (Y := 128) rfl rfl c_30), (Or.inr ⟨(xI_ne (Y := 129) rfl rfl c_38), (Or.inr ⟨(xI_ne (Y := 130) rfl rfl c_46), (Or.inl ⟨c_54, ⟨r_55, G_56, hX_59, ⟨y_61, ty_61, ⟨rfl, rfl, rfl⟩⟩⟩⟩)⟩)⟩)⟩)⟩⟩⟩⟩)), hW, hB_G_56, hF, (Fr.call9 (rs := [20, 21, 22, 23, 24, 25, 26, 27, 28, 34, 35, 36]) (fs := [(2, 9), (2, 10), (2, 11), (2, 12), (2, 13), (2, 14), (2, 15), (2, 16), (3, 2), (3, 3), (3, 4), (3, 5), (3, 6), (3, 7), (3, 8), (4, 1), (4, 2), (5, 6), (5, 7), (5, 8), (5, 9)]) (Fr.call9 (rs := [20, 21, 22, 23, 24, 25, 26, 27, 28, 34, 35, 36]) (fs := [(2, 9), (2, 10), (2, 11), (2, 12), (2, 13), (2, 14), (2, 15), (2, 16), (3, 2), (3, 3), (3, 4), (3, 5), (3, 6), (3, 7), (3, 8), (4, 1), (4, 2), (5, 6), (5, 7), (5, 8), (5, 9)]) Fr.rf hq_16 rfl rfl) hq_57 rfl rfl), hS, lv_sub hl [0, 1, 2] rfl⟩
        by_cases c_62 : (G_15.1 3 3) = 132
        · refine lv_tableIn (tgt := 180) hx hb dX7_read_72 (by rw [c_62]; decide) (by rw [c_62]; decide) (off := 108) (by rw [c_62]; decide) (by decide) ?_
          have c_62 : (G_15.1 3 3).toInt = 132 := xI_eq rfl rfl c_62
          refine lv_aload_n hx hb dX7_read_180 rfl (lv_at hl 2 rfl) ?_
          refine S_getR (n := 3) (C := RX7) (T := TX7) (N := 10) hx hb hg iX7 hown hK hW kd_5 rfl 0 (lt_b rfl) (hg (Cond.fieldLink RX7 26 "SlabWalk$Reader" "tokens" "LSlabWalk$Tokens;") m311) (fun _ h9 => h9) rfl dX7_read_181 ?_
          refine ic_2 hx hb dX7_read_184 ?_
          refine S_calli (va_runV (As := [.int 2]) (rest := []) ⟨hx, hb, hml, hown, hts⟩ (k_tRefuse l D k A a z G_15 2 ⟨by decide, by decide⟩) (cwV 1 hts (gd_V hgd m778 m779 m780 m120 m781) rfl rfl rfl hd_X9_refuse ⟨Nat.le_of_ble_eq_true rfl, Nat.le_of_ble_eq_true rfl⟩) (pre_W hW hB_G_15 hK hZ hS kd_3 rfl) rfl rfl hl.1 rfl (lv_room (Nat.le_of_ble_eq_true rfl)) dX7_read_185 ⟨Nat.le_of_ble_eq_true rfl, Nat.le_of_ble_eq_true rfl⟩) hS (fun r_63 G_64 H locs hpo hW hS => ?_)
          have hX_67 : P_tRefuse 2 G_15 r_63 G_64 := hpo
          obtain ⟨hB_G_64, hq_65, f_68, -⟩ := hpo
          have hF := hF.call9 hq_65 rfl rfl
          refine lv_istore_n (lv' := [(3, .int r_63), (4, .int x_19), (0, .ref (a 5))]) hx hb dX7_read_188 rfl hl (lt_b rfl) rfl (fun ls hl => ?_)
          obtain ⟨y_69, ey_69⟩ : ∃ q, q = x_19 + 1 := ⟨_, rfl⟩
          have ty_69 : y_69.toInt = x_19.toInt + 1 := xI_add rfl rfl ey_69 ((by first | (clear ha_p0 hn_26 f_25 c_27 c_29 c_62 f_68; omega) | omega)) ((by first | (clear ha_p0 hn_26 f_25 c_27 c_29 c_62 f_68; omega) | omega))
          refine lv_iinc (v := y_69) (lv' := [(4, .int y_69), (3, .int r_63), (0, .ref (a 5))]) hx hb dX7_read_189 hl (k := 1) rfl (by rw [ey_69]; rfl) (lt_b rfl) rfl (fun ls hl => ?_)
          refine lv_goto (tgt := 40) hx hb dX7_read_192 rfl ?_
          exact ih_17 (1600 - y_69.toInt : Int).toNat ((by first | (clear ha_p0 f_25 c_27 c_29 c_62 f_68; omega) | omega)) _ _ _ ⟨G_64, y_69, r_63, (Int.toNat_of_nonneg ((by first | (clear ha_p0 hn_26 f_25 c_27 c_29 c_62 f_68; omega) | omega))), ⟨(by first | (clear ha_p0 hn_26 f_25 c_27 c_29 c_62 f_68; omega) | omega), (by first | (clear ha_p0 hn_26 f_25 c_27 c_29 c_62 f_68; omega) | omega)⟩, ⟨(by first | (clear ha_p0 hn_26 f_24 f_25 c_27 c_28 c_29 c_62 ty_69; omega) | omega), (by first | (clear ha_p0 hn_26 f_24 f_25 c_27 c_28 c_29 c_62 ty_69; omega) | omega)⟩, (hX_21.st (St_k_rRead_2_1_mk ⟨x_19, x_20, G_15, y_69, r_63, G_64, rfl, rfl, f_24, f_25, hB_G_15, ⟨c_27, ⟨c_28, ⟨c_29, (Or.inr ⟨(xI_ne (Y := 128) rfl rfl c_30), (Or.inr ⟨(xI_ne (Y := 129) rfl rfl c_38), (Or.inr ⟨(xI_ne (Y := 130) rfl rfl c_46), (Or.inr ⟨(xI_ne (Y := 131) rfl rfl c_54), (Or.inl ⟨c_62, ⟨r_63, G_64, hX_67, ⟨y_69, ty_69, ⟨rfl, rfl, rfl⟩⟩⟩⟩)⟩)⟩)⟩)⟩)⟩⟩⟩⟩)), hW, hB_G_64, hF, (Fr.call9 (rs := [20, 21, 22, 23, 24, 25, 26, 27, 28, 34, 35, 36]) (fs := [(2, 9), (2, 10), (2, 11), (2, 12), (2, 13), (2, 14), (2, 15), (2, 16), (3, 2), (3, 3), (3, 4), (3, 5), (3, 6), (3, 7), (3, 8), (4, 1), (4, 2), (5, 6), (5, 7), (5, 8), (5, 9)]) (Fr.call9 (rs := [20, 21, 22, 23, 24, 25, 26, 27, 28, 34, 35, 36]) (fs := [(2, 9), (2, 10), (2, 11), (2, 12), (2, 13), (2, 14), (2, 15), (2, 16), (3, 2), (3, 3), (3, 4), (3, 5), (3, 6), (3, 7), (3, 8), (4, 1), (4, 2), (5, 6), (5, 7), (5, 8), (5, 9)]) Fr.rf hq_16 rfl rfl) hq_65 rfl rfl), hS, lv_sub hl [0, 1, 2] rfl⟩
        by_cases c_70 : (G_15.1 3 3) = 133
        · refine lv_tableIn (tgt := 180) hx hb dX7_read_72 (by rw [c_70]; decide) (by rw [c_70]; decide) (off := 108) (by rw [c_70]; decide) (by decide) ?_
          have c_70 : (G_15.1 3 3).toInt = 133 := xI_eq rfl rfl c_70
          refine lv_aload_n hx hb dX7_read_180 rfl (lv_at hl 2 rfl) ?_
          refine S_getR (n := 3) (C := RX7) (T := TX7) (N := 10) hx hb hg iX7 hown hK hW kd_5 rfl 0 (lt_b rfl) (hg (Cond.fieldLink RX7 26 "SlabWalk$Reader" "tokens" "LSlabWalk$Tokens;") m311) (fun _ h9 => h9) rfl dX7_read_181 ?_
          refine ic_2 hx hb dX7_read_184 ?_
          refine S_calli (va_runV (As := [.int 2]) (rest := []) ⟨hx, hb, hml, hown, hts⟩ (k_tRefuse l D k A a z G_15 2 ⟨by decide, by decide⟩) (cwV 1 hts (gd_V hgd m778 m779 m780 m120 m781) rfl rfl rfl hd_X9_refuse ⟨Nat.le_of_ble_eq_true rfl, Nat.le_of_ble_eq_true rfl⟩) (pre_W hW hB_G_15 hK hZ hS kd_3 rfl) rfl rfl hl.1 rfl (lv_room (Nat.le_of_ble_eq_true rfl)) dX7_read_185 ⟨Nat.le_of_ble_eq_true rfl, Nat.le_of_ble_eq_true rfl⟩) hS (fun r_71 G_72 H locs hpo hW hS => ?_)
          have hX_75 : P_tRefuse 2 G_15 r_71 G_72 := hpo
          obtain ⟨hB_G_72, hq_73, f_76, -⟩ := hpo
          have hF := hF.call9 hq_73 rfl rfl
          refine lv_istore_n (lv' := [(3, .int r_71), (4, .int x_19), (0, .ref (a 5))]) hx hb dX7_read_188 rfl hl (lt_b rfl) rfl (fun ls hl => ?_)
          obtain ⟨y_77, ey_77⟩ : ∃ q, q = x_19 + 1 := ⟨_, rfl⟩
          have ty_77 : y_77.toInt = x_19.toInt + 1 := xI_add rfl rfl ey_77 ((by first | (clear ha_p0 hn_26 f_25 c_27 c_29 c_70 f_76; omega) | omega)) ((by first | (clear ha_p0 hn_26 f_25 c_27 c_29 c_70 f_76; omega) | omega))
          refine lv_iinc (v := y_77) (lv' := [(4, .int y_77), (3, .int r_71), (0, .ref (a 5))]) hx hb dX7_read_189 hl (k := 1) rfl (by rw [ey_77]; rfl) (lt_b rfl) rfl (fun ls hl => ?_)
          refine lv_goto (tgt := 40) hx hb dX7_read_192 rfl ?_
          exact ih_17 (1600 - y_77.toInt : Int).toNat ((by first | (clear ha_p0 f_25 c_27 c_29 c_70 f_76; omega) | omega)) _ _ _ ⟨G_72, y_77, r_71, (Int.toNat_of_nonneg ((by first | (clear ha_p0 hn_26 f_25 c_27 c_29 c_70 f_76; omega) | omega))), ⟨(by first | (clear ha_p0 hn_26 f_25 c_27 c_29 c_70 f_76; omega) | omega), (by first | (clear ha_p0 hn_26 f_25 c_27 c_29 c_70 f_76; omega) | omega)⟩, ⟨(by first | (clear ha_p0 hn_26 f_24 f_25 c_27 c_28 c_29 c_70 ty_77; omega) | omega), (by first | (clear ha_p0 hn_26 f_24 f_25 c_27 c_28 c_29 c_70 ty_77; omega) | omega)⟩, (hX_21.st (St_k_rRead_2_1_mk ⟨x_19, x_20, G_15, y_77, r_71, G_72, rfl, rfl, f_24, f_25, hB_G_15, ⟨c_27, ⟨c_28, ⟨c_29, (Or.inr ⟨(xI_ne (Y := 128) rfl rfl c_30), (Or.inr ⟨(xI_ne (Y := 129) rfl rfl c_38), (Or.inr ⟨(xI_ne (Y := 130) rfl rfl c_46), (Or.inr ⟨(xI_ne (Y := 131) rfl rfl c_54), (Or.inr ⟨(xI_ne (Y := 132) rfl rfl c_62), (Or.inl ⟨c_70, ⟨r_71, G_72, hX_75, ⟨y_77, ty_77, ⟨rfl, rfl, rfl⟩⟩⟩⟩)⟩)⟩)⟩)⟩)⟩)⟩⟩⟩⟩)), hW, hB_G_72, hF, (Fr.call9 (rs := [20, 21, 22, 23, 24, 25, 26, 27, 28, 34, 35, 36]) (fs := [(2, 9), (2, 10), (2, 11), (2, 12), (2, 13), (2, 14), (2, 15), (2, 16), (3, 2), (3, 3), (3, 4), (3, 5), (3, 6), (3, 7), (3, 8), (4, 1), (4, 2), (5, 6), (5, 7), (5, 8), (5, 9)]) (Fr.call9 (rs := [20, 21, 22, 23, 24, 25, 26, 27, 28, 34, 35, 36]) (fs := [(2, 9), (2, 10), (2, 11), (2, 12), (2, 13), (2, 14), (2, 15), (2, 16), (3, 2), (3, 3), (3, 4), (3, 5), (3, 6), (3, 7), (3, 8), (4, 1), (4, 2), (5, 6), (5, 7), (5, 8), (5, 9)]) Fr.rf hq_16 rfl rfl) hq_73 rfl rfl), hS, lv_sub hl [0, 1, 2] rfl⟩
        by_cases c_78 : (G_15.1 3 3) = 134
        · refine lv_tableIn (tgt := 148) hx hb dX7_read_72 (by rw [c_78]; decide) (by rw [c_78]; decide) (off := 76) (by rw [c_78]; decide) (by decide) ?_
          have c_78 : (G_15.1 3 3).toInt = 134 := xI_eq rfl rfl c_78
          refine lv_aload_n hx hb dX7_read_148 rfl (lv_at hl 2 rfl) ?_
          refine S_calli (va_runV (As := []) (rest := []) ⟨hx, hb, hml, hown, hts⟩ (k_rRule_2 l D k A a z G_15  ((hq_16.r9 5 5 rfl rfl).trans ((hq_12.r9 5 5 rfl rfl).trans ((congrFun (congrFun (congrArg (fun q => q.2.2) eG_9) 5) 5).trans ((congrFun (congrFun (congrArg (fun q => q.2.2) eG_8) 5) 5).trans ((congrFun (congrFun (congrArg (fun q => q.2.2) eG_7) 5) 5).trans ((hq_4.r9 5 5 rfl rfl).trans (gp_re eG_1)))))))) (cwV 0 hts (gd_V hgd m813 m815 m15 m119 m816) rfl rfl rfl hd_X7_readRule ⟨Nat.le_of_ble_eq_true rfl, Nat.le_of_ble_eq_true rfl⟩) (pre_W hW hB_G_15 hK hZ hS kd_5 rfl) rfl rfl hl.1 rfl (lv_room (Nat.le_of_ble_eq_true rfl)) dX7_read_149 ⟨Nat.le_of_ble_eq_true rfl, Nat.le_of_ble_eq_true rfl⟩) hS (fun r_79 G_80 H locs hpo hW hS => ?_)
          have hX_83 : P_rRule_2 G_15 r_79 G_80 := hpo
          obtain ⟨hB_G_80, hq_81, f_84, -⟩ := hpo
          have hF := hF.call9 hq_81 rfl rfl
          refine lv_istore_n (lv' := [(3, .int r_79), (4, .int x_19), (0, .ref (a 5))]) hx hb dX7_read_152 rfl hl (lt_b rfl) rfl (fun ls hl => ?_)
          refine lv_goto (tgt := 189) hx hb dX7_read_153 rfl ?_
          obtain ⟨y_85, ey_85⟩ : ∃ q, q = x_19 + 1 := ⟨_, rfl⟩
          have ty_85 : y_85.toInt = x_19.toInt + 1 := xI_add rfl rfl ey_85 ((by first | (clear ha_p0 hn_26 f_25 c_27 c_29 c_78 f_84; omega) | omega)) ((by first | (clear ha_p0 hn_26 f_25 c_27 c_29 c_78 f_84; omega) | omega))
          refine lv_iinc (v := y_85) (lv' := [(4, .int y_85), (3, .int r_79), (0, .ref (a 5))]) hx hb dX7_read_189 hl (k := 1) rfl (by rw [ey_85]; rfl) (lt_b rfl) rfl (fun ls hl => ?_)
          refine lv_goto (tgt := 40) hx hb dX7_read_192 rfl ?_
          exact ih_17 (1600 - y_85.toInt : Int).toNat ((by first | (clear ha_p0 f_25 c_27 c_29 c_78 f_84; omega) | omega)) _ _ _ ⟨G_80, y_85, r_79, (Int.toNat_of_nonneg ((by first | (clear ha_p0 hn_26 f_25 c_27 c_29 c_78 f_84; omega) | omega))), ⟨(by first | (clear ha_p0 hn_26 f_25 c_27 c_29 c_78 f_84; omega) | omega), (by first | (clear ha_p0 hn_26 f_25 c_27 c_29 c_78 f_84; omega) | omega)⟩, ⟨(by first | (clear ha_p0 hn_26 f_24 f_25 c_27 c_28 c_29 c_78 ty_85; omega) | omega), (by first | (clear ha_p0 hn_26 f_24 f_25 c_27 c_28 c_29 c_78 ty_85; omega) | omega)⟩, (hX_21.st (St_k_rRead_2_1_mk ⟨x_19, x_20, G_15, y_85, r_79, G_80, rfl, rfl, f_24, f_25, hB_G_15, ⟨c_27, ⟨c_28, ⟨c_29, (Or.inr ⟨(xI_ne (Y := 128) rfl rfl c_30), (Or.inr ⟨(xI_ne (Y := 129) rfl rfl c_38), (Or.inr ⟨(xI_ne (Y := 130) rfl rfl c_46), (Or.inr ⟨(xI_ne (Y := 131) rfl rfl c_54), (Or.inr ⟨(xI_ne (Y := 132) rfl rfl c_62), (Or.inr ⟨(xI_ne (Y := 133) rfl rfl c_70), (Or.inl ⟨c_78, ⟨r_79, G_80, hX_83, ⟨y_85, ty_85, ⟨rfl, rfl, rfl⟩⟩⟩⟩)⟩)⟩)⟩)⟩)⟩)⟩)⟩⟩⟩⟩)), hW, hB_G_80, hF, (Fr.call9 (rs := [20, 21, 22, 23, 24, 25, 26, 27, 28, 34, 35, 36]) (fs := [(2, 9), (2, 10), (2, 11), (2, 12), (2, 13), (2, 14), (2, 15), (2, 16), (3, 2), (3, 3), (3, 4), (3, 5), (3, 6), (3, 7), (3, 8), (4, 1), (4, 2), (5, 6), (5, 7), (5, 8), (5, 9)]) (Fr.call9 (rs := [20, 21, 22, 23, 24, 25, 26, 27, 28, 34, 35, 36]) (fs := [(2, 9), (2, 10), (2, 11), (2, 12), (2, 13), (2, 14), (2, 15), (2, 16), (3, 2), (3, 3), (3, 4), (3, 5), (3, 6), (3, 7), (3, 8), (4, 1), (4, 2), (5, 6), (5, 7), (5, 8), (5, 9)]) Fr.rf hq_16 rfl rfl) hq_81 rfl rfl), hS, lv_sub hl [0, 1, 2] rfl⟩
        by_cases c_86 : (G_15.1 3 3) = 135
        · refine lv_tableIn (tgt := 156) hx hb dX7_read_72 (by rw [c_86]; decide) (by rw [c_86]; decide) (off := 84) (by rw [c_86]; decide) (by decide) ?_
          have c_86 : (G_15.1 3 3).toInt = 135 := xI_eq rfl rfl c_86
          refine lv_aload_n hx hb dX7_read_156 rfl (lv_at hl 2 rfl) ?_
          refine S_calli (va_runV (As := []) (rest := []) ⟨hx, hb, hml, hown, hts⟩ (k_rSlip_2 l D k A a z G_15  ((hq_16.r9 5 5 rfl rfl).trans ((hq_12.r9 5 5 rfl rfl).trans ((congrFun (congrFun (congrArg (fun q => q.2.2) eG_9) 5) 5).trans ((congrFun (congrFun (congrArg (fun q => q.2.2) eG_8) 5) 5).trans ((congrFun (congrFun (congrArg (fun q => q.2.2) eG_7) 5) 5).trans ((hq_4.r9 5 5 rfl rfl).trans (gp_re eG_1)))))))) (cwV 0 hts (gd_V hgd m862 m864 m24 m119 m865) rfl rfl rfl hd_X7_readSlip ⟨Nat.le_of_ble_eq_true rfl, Nat.le_of_ble_eq_true rfl⟩) (pre_W hW hB_G_15 hK hZ hS kd_5 rfl) rfl rfl hl.1 rfl (lv_room (Nat.le_of_ble_eq_true rfl)) dX7_read_157 ⟨Nat.le_of_ble_eq_true rfl, Nat.le_of_ble_eq_true rfl⟩) hS (fun r_87 G_88 H locs hpo hW hS => ?_)
          have hX_91 : P_rSlip_2 G_15 r_87 G_88 := hpo
          obtain ⟨hB_G_88, hq_89, f_92, -⟩ := hpo
          have hF := hF.call9 hq_89 rfl rfl
          refine lv_istore_n (lv' := [(3, .int r_87), (4, .int x_19), (0, .ref (a 5))]) hx hb dX7_read_160 rfl hl (lt_b rfl) rfl (fun ls hl => ?_)
          refine lv_goto (tgt := 189) hx hb dX7_read_161 rfl ?_
          obtain ⟨y_93, ey_93⟩ : ∃ q, q = x_19 + 1 := ⟨_, rfl⟩
          have ty_93 : y_93.toInt = x_19.toInt + 1 := xI_add rfl rfl ey_93 ((by first | (clear ha_p0 hn_26 f_25 c_27 c_29 c_86 f_92; omega) | omega)) ((by first | (clear ha_p0 hn_26 f_25 c_27 c_29 c_86 f_92; omega) | omega))
          refine lv_iinc (v := y_93) (lv' := [(4, .int y_93), (3, .int r_87), (0, .ref (a 5))]) hx hb dX7_read_189 hl (k := 1) rfl (by rw [ey_93]; rfl) (lt_b rfl) rfl (fun ls hl => ?_)
          refine lv_goto (tgt := 40) hx hb dX7_read_192 rfl ?_
          exact ih_17 (1600 - y_93.toInt : Int).toNat ((by first | (clear ha_p0 f_25 c_27 c_29 c_86 f_92; omega) | omega)) _ _ _ ⟨G_88, y_93, r_87, (Int.toNat_of_nonneg ((by first | (clear ha_p0 hn_26 f_25 c_27 c_29 c_86 f_92; omega) | omega))), ⟨(by first | (clear ha_p0 hn_26 f_25 c_27 c_29 c_86 f_92; omega) | omega), (by first | (clear ha_p0 hn_26 f_25 c_27 c_29 c_86 f_92; omega) | omega)⟩, ⟨(by first | (clear ha_p0 hn_26 f_24 f_25 c_27 c_28 c_29 c_86 ty_93; omega) | omega), (by first | (clear ha_p0 hn_26 f_24 f_25 c_27 c_28 c_29 c_86 ty_93; omega) | omega)⟩, (hX_21.st (St_k_rRead_2_1_mk ⟨x_19, x_20, G_15, y_93, r_87, G_88, rfl, rfl, f_24, f_25, hB_G_15, ⟨c_27, ⟨c_28, ⟨c_29, (Or.inr ⟨(xI_ne (Y := 128) rfl rfl c_30), (Or.inr ⟨(xI_ne (Y := 129) rfl rfl c_38), (Or.inr ⟨(xI_ne (Y := 130) rfl rfl c_46), (Or.inr ⟨(xI_ne (Y := 131) rfl rfl c_54), (Or.inr ⟨(xI_ne (Y := 132) rfl rfl c_62), (Or.inr ⟨(xI_ne (Y := 133) rfl rfl c_70), (Or.inr ⟨(xI_ne (Y := 134) rfl rfl c_78), (Or.inl ⟨c_86, ⟨r_87, G_88, hX_91, ⟨y_93, ty_93, ⟨rfl, rfl, rfl⟩⟩⟩⟩)⟩)⟩)⟩)⟩)⟩)⟩)⟩)⟩⟩⟩⟩)), hW, hB_G_88, hF, (Fr.call9 (rs := [20, 21, 22, 23, 24, 25, 26, 27, 28, 34, 35, 36]) (fs := [(2, 9), (2, 10), (2, 11), (2, 12), (2, 13), (2, 14), (2, 15), (2, 16), (3, 2), (3, 3), (3, 4), (3, 5), (3, 6), (3, 7), (3, 8), (4, 1), (4, 2), (5, 6), (5, 7), (5, 8), (5, 9)]) (Fr.call9 (rs := [20, 21, 22, 23, 24, 25, 26, 27, 28, 34, 35, 36]) (fs := [(2, 9), (2, 10), (2, 11), (2, 12), (2, 13), (2, 14), (2, 15), (2, 16), (3, 2), (3, 3), (3, 4), (3, 5), (3, 6), (3, 7), (3, 8), (4, 1), (4, 2), (5, 6), (5, 7), (5, 8), (5, 9)]) Fr.rf hq_16 rfl rfl) hq_89 rfl rfl), hS, lv_sub hl [0, 1, 2] rfl⟩
        by_cases c_94 : (G_15.1 3 3) = 136
        · refine lv_tableIn (tgt := 164) hx hb dX7_read_72 (by rw [c_94]; decide) (by rw [c_94]; decide) (off := 92) (by rw [c_94]; decide) (by decide) ?_
          have c_94 : (G_15.1 3 3).toInt = 136 := xI_eq rfl rfl c_94
          refine lv_aload_n hx hb dX7_read_164 rfl (lv_at hl 2 rfl) ?_
          refine S_calli (va_runV (As := []) (rest := []) ⟨hx, hb, hml, hown, hts⟩ (k_rHand_2 l D k A a z G_15  ((hq_16.r9 5 5 rfl rfl).trans ((hq_12.r9 5 5 rfl rfl).trans ((congrFun (congrFun (congrArg (fun q => q.2.2) eG_9) 5) 5).trans ((congrFun (congrFun (congrArg (fun q => q.2.2) eG_8) 5) 5).trans ((congrFun (congrFun (congrArg (fun q => q.2.2) eG_7) 5) 5).trans ((hq_4.r9 5 5 rfl rfl).trans (gp_re eG_1)))))))) (cwV 0 hts (gd_V hgd m866 m868 m25 m119 m869) rfl rfl rfl hd_X7_readHand ⟨Nat.le_of_ble_eq_true rfl, Nat.le_of_ble_eq_true rfl⟩) (pre_W hW hB_G_15 hK hZ hS kd_5 rfl) rfl rfl hl.1 rfl (lv_room (Nat.le_of_ble_eq_true rfl)) dX7_read_165 ⟨Nat.le_of_ble_eq_true rfl, Nat.le_of_ble_eq_true rfl⟩) hS (fun r_95 G_96 H locs hpo hW hS => ?_)
          have hX_99 : P_rHand_2 G_15 r_95 G_96 := hpo
          obtain ⟨hB_G_96, hq_97, f_100, -⟩ := hpo
          have hF := hF.call9 hq_97 rfl rfl
          refine lv_istore_n (lv' := [(3, .int r_95), (4, .int x_19), (0, .ref (a 5))]) hx hb dX7_read_168 rfl hl (lt_b rfl) rfl (fun ls hl => ?_)
          refine lv_goto (tgt := 189) hx hb dX7_read_169 rfl ?_
          obtain ⟨y_101, ey_101⟩ : ∃ q, q = x_19 + 1 := ⟨_, rfl⟩
          have ty_101 : y_101.toInt = x_19.toInt + 1 := xI_add rfl rfl ey_101 ((by first | (clear ha_p0 hn_26 f_25 c_27 c_29 c_94 f_100; omega) | omega)) ((by first | (clear ha_p0 hn_26 f_25 c_27 c_29 c_94 f_100; omega) | omega))
          refine lv_iinc (v := y_101) (lv' := [(4, .int y_101), (3, .int r_95), (0, .ref (a 5))]) hx hb dX7_read_189 hl (k := 1) rfl (by rw [ey_101]; rfl) (lt_b rfl) rfl (fun ls hl => ?_)
          refine lv_goto (tgt := 40) hx hb dX7_read_192 rfl ?_
          exact ih_17 (1600 - y_101.toInt : Int).toNat ((by first | (clear ha_p0 f_25 c_27 c_29 c_94 f_100; omega) | omega)) _ _ _ ⟨G_96, y_101, r_95, (Int.toNat_of_nonneg ((by first | (clear ha_p0 hn_26 f_25 c_27 c_29 c_94 f_100; omega) | omega))), ⟨(by first | (clear ha_p0 hn_26 f_25 c_27 c_29 c_94 f_100; omega) | omega), (by first | (clear ha_p0 hn_26 f_25 c_27 c_29 c_94 f_100; omega) | omega)⟩, ⟨(by first | (clear ha_p0 hn_26 f_24 f_25 c_27 c_28 c_29 c_94 ty_101; omega) | omega), (by first | (clear ha_p0 hn_26 f_24 f_25 c_27 c_28 c_29 c_94 ty_101; omega) | omega)⟩, (hX_21.st (St_k_rRead_2_1_mk ⟨x_19, x_20, G_15, y_101, r_95, G_96, rfl, rfl, f_24, f_25, hB_G_15, ⟨c_27, ⟨c_28, ⟨c_29, (Or.inr ⟨(xI_ne (Y := 128) rfl rfl c_30), (Or.inr ⟨(xI_ne (Y := 129) rfl rfl c_38), (Or.inr ⟨(xI_ne (Y := 130) rfl rfl c_46), (Or.inr ⟨(xI_ne (Y := 131) rfl rfl c_54), (Or.inr ⟨(xI_ne (Y := 132) rfl rfl c_62), (Or.inr ⟨(xI_ne (Y := 133) rfl rfl c_70), (Or.inr ⟨(xI_ne (Y := 134) rfl rfl c_78), (Or.inr ⟨(xI_ne (Y := 135) rfl rfl c_86), (Or.inl ⟨c_94, ⟨r_95, G_96, hX_99, ⟨y_101, ty_101, ⟨rfl, rfl, rfl⟩⟩⟩⟩)⟩)⟩)⟩)⟩)⟩)⟩)⟩)⟩)⟩⟩⟩⟩)), hW, hB_G_96, hF, (Fr.call9 (rs := [20, 21, 22, 23, 24, 25, 26, 27, 28, 34, 35, 36]) (fs := [(2, 9), (2, 10), (2, 11), (2, 12), (2, 13), (2, 14), (2, 15), (2, 16), (3, 2), (3, 3), (3, 4), (3, 5), (3, 6), (3, 7), (3, 8), (4, 1), (4, 2), (5, 6), (5, 7), (5, 8), (5, 9)]) (Fr.call9 (rs := [20, 21, 22, 23, 24, 25, 26, 27, 28, 34, 35, 36]) (fs := [(2, 9), (2, 10), (2, 11), (2, 12), (2, 13), (2, 14), (2, 15), (2, 16), (3, 2), (3, 3), (3, 4), (3, 5), (3, 6), (3, 7), (3, 8), (4, 1), (4, 2), (5, 6), (5, 7), (5, 8), (5, 9)]) Fr.rf hq_16 rfl rfl) hq_97 rfl rfl), hS, lv_sub hl [0, 1, 2] rfl⟩
        by_cases c_102 : (G_15.1 3 3) = 137
        · refine lv_tableIn (tgt := 180) hx hb dX7_read_72 (by rw [c_102]; decide) (by rw [c_102]; decide) (off := 108) (by rw [c_102]; decide) (by decide) ?_
          have c_102 : (G_15.1 3 3).toInt = 137 := xI_eq rfl rfl c_102
          refine lv_aload_n hx hb dX7_read_180 rfl (lv_at hl 2 rfl) ?_
          refine S_getR (n := 3) (C := RX7) (T := TX7) (N := 10) hx hb hg iX7 hown hK hW kd_5 rfl 0 (lt_b rfl) (hg (Cond.fieldLink RX7 26 "SlabWalk$Reader" "tokens" "LSlabWalk$Tokens;") m311) (fun _ h9 => h9) rfl dX7_read_181 ?_
          refine ic_2 hx hb dX7_read_184 ?_
          refine S_calli (va_runV (As := [.int 2]) (rest := []) ⟨hx, hb, hml, hown, hts⟩ (k_tRefuse l D k A a z G_15 2 ⟨by decide, by decide⟩) (cwV 1 hts (gd_V hgd m778 m779 m780 m120 m781) rfl rfl rfl hd_X9_refuse ⟨Nat.le_of_ble_eq_true rfl, Nat.le_of_ble_eq_true rfl⟩) (pre_W hW hB_G_15 hK hZ hS kd_3 rfl) rfl rfl hl.1 rfl (lv_room (Nat.le_of_ble_eq_true rfl)) dX7_read_185 ⟨Nat.le_of_ble_eq_true rfl, Nat.le_of_ble_eq_true rfl⟩) hS (fun r_103 G_104 H locs hpo hW hS => ?_)
          have hX_107 : P_tRefuse 2 G_15 r_103 G_104 := hpo
          obtain ⟨hB_G_104, hq_105, f_108, -⟩ := hpo
          have hF := hF.call9 hq_105 rfl rfl
          refine lv_istore_n (lv' := [(3, .int r_103), (4, .int x_19), (0, .ref (a 5))]) hx hb dX7_read_188 rfl hl (lt_b rfl) rfl (fun ls hl => ?_)
          obtain ⟨y_109, ey_109⟩ : ∃ q, q = x_19 + 1 := ⟨_, rfl⟩
          have ty_109 : y_109.toInt = x_19.toInt + 1 := xI_add rfl rfl ey_109 ((by first | (clear ha_p0 hn_26 f_25 c_27 c_29 c_102 f_108; omega) | omega)) ((by first | (clear ha_p0 hn_26 f_25 c_27 c_29 c_102 f_108; omega) | omega))
          refine lv_iinc (v := y_109) (lv' := [(4, .int y_109), (3, .int r_103), (0, .ref (a 5))]) hx hb dX7_read_189 hl (k := 1) rfl (by rw [ey_109]; rfl) (lt_b rfl) rfl (fun ls hl => ?_)
          refine lv_goto (tgt := 40) hx hb dX7_read_192 rfl ?_
          exact ih_17 (1600 - y_109.toInt : Int).toNat ((by first | (clear ha_p0 f_25 c_27 c_29 c_102 f_108; omega) | omega)) _ _ _ ⟨G_104, y_109, r_103, (Int.toNat_of_nonneg ((by first | (clear ha_p0 hn_26 f_25 c_27 c_29 c_102 f_108; omega) | omega))), ⟨(by first | (clear ha_p0 hn_26 f_25 c_27 c_29 c_102 f_108; omega) | omega), (by first | (clear ha_p0 hn_26 f_25 c_27 c_29 c_102 f_108; omega) | omega)⟩, ⟨(by first | (clear ha_p0 hn_26 f_24 f_25 c_27 c_28 c_29 c_102 ty_109; omega) | omega), (by first | (clear ha_p0 hn_26 f_24 f_25 c_27 c_28 c_29 c_102 ty_109; omega) | omega)⟩, (hX_21.st (St_k_rRead_2_1_mk ⟨x_19, x_20, G_15, y_109, r_103, G_104, rfl, rfl, f_24, f_25, hB_G_15, ⟨c_27, ⟨c_28, ⟨c_29, (Or.inr ⟨(xI_ne (Y := 128) rfl rfl c_30), (Or.inr ⟨(xI_ne (Y := 129) rfl rfl c_38), (Or.inr ⟨(xI_ne (Y := 130) rfl rfl c_46), (Or.inr ⟨(xI_ne (Y := 131) rfl rfl c_54), (Or.inr ⟨(xI_ne (Y := 132) rfl rfl c_62), (Or.inr ⟨(xI_ne (Y := 133) rfl rfl c_70), (Or.inr ⟨(xI_ne (Y := 134) rfl rfl c_78), (Or.inr ⟨(xI_ne (Y := 135) rfl rfl c_86), (Or.inr ⟨(xI_ne (Y := 136) rfl rfl c_94), (Or.inl ⟨c_102, ⟨r_103, G_104, hX_107, ⟨y_109, ty_109, ⟨rfl, rfl, rfl⟩⟩⟩⟩)⟩)⟩)⟩)⟩)⟩)⟩)⟩)⟩)⟩)⟩⟩⟩⟩)), hW, hB_G_104, hF, (Fr.call9 (rs := [20, 21, 22, 23, 24, 25, 26, 27, 28, 34, 35, 36]) (fs := [(2, 9), (2, 10), (2, 11), (2, 12), (2, 13), (2, 14), (2, 15), (2, 16), (3, 2), (3, 3), (3, 4), (3, 5), (3, 6), (3, 7), (3, 8), (4, 1), (4, 2), (5, 6), (5, 7), (5, 8), (5, 9)]) (Fr.call9 (rs := [20, 21, 22, 23, 24, 25, 26, 27, 28, 34, 35, 36]) (fs := [(2, 9), (2, 10), (2, 11), (2, 12), (2, 13), (2, 14), (2, 15), (2, 16), (3, 2), (3, 3), (3, 4), (3, 5), (3, 6), (3, 7), (3, 8), (4, 1), (4, 2), (5, 6), (5, 7), (5, 8), (5, 9)]) Fr.rf hq_16 rfl rfl) hq_105 rfl rfl), hS, lv_sub hl [0, 1, 2] rfl⟩
        by_cases c_110 : (G_15.1 3 3) = 138
        · refine lv_tableIn (tgt := 172) hx hb dX7_read_72 (by rw [c_110]; decide) (by rw [c_110]; decide) (off := 100) (by rw [c_110]; decide) (by decide) ?_
          have c_110 : (G_15.1 3 3).toInt = 138 := xI_eq rfl rfl c_110
          refine lv_aload_n hx hb dX7_read_172 rfl (lv_at hl 2 rfl) ?_
          refine S_calli (va_runV (As := []) (rest := []) ⟨hx, hb, hml, hown, hts⟩ (k_rDraw_2 l D k A a z G_15  ((hq_16.r9 5 5 rfl rfl).trans ((hq_12.r9 5 5 rfl rfl).trans ((congrFun (congrFun (congrArg (fun q => q.2.2) eG_9) 5) 5).trans ((congrFun (congrFun (congrArg (fun q => q.2.2) eG_8) 5) 5).trans ((congrFun (congrFun (congrArg (fun q => q.2.2) eG_7) 5) 5).trans ((hq_4.r9 5 5 rfl rfl).trans (gp_re eG_1)))))))) (cwV 0 hts (gd_V hgd m870 m872 m26 m119 m873) rfl rfl rfl hd_X7_readDraw ⟨Nat.le_of_ble_eq_true rfl, Nat.le_of_ble_eq_true rfl⟩) (pre_W hW hB_G_15 hK hZ hS kd_5 rfl) rfl rfl hl.1 rfl (lv_room (Nat.le_of_ble_eq_true rfl)) dX7_read_173 ⟨Nat.le_of_ble_eq_true rfl, Nat.le_of_ble_eq_true rfl⟩) hS (fun r_111 G_112 H locs hpo hW hS => ?_)
          have hX_115 : P_rDraw_2 G_15 r_111 G_112 := hpo
          obtain ⟨hB_G_112, hq_113, f_116, -⟩ := hpo
          have hF := hF.call9 hq_113 rfl rfl
          refine lv_istore_n (lv' := [(3, .int r_111), (4, .int x_19), (0, .ref (a 5))]) hx hb dX7_read_176 rfl hl (lt_b rfl) rfl (fun ls hl => ?_)
          refine lv_goto (tgt := 189) hx hb dX7_read_177 rfl ?_
          obtain ⟨y_117, ey_117⟩ : ∃ q, q = x_19 + 1 := ⟨_, rfl⟩
          have ty_117 : y_117.toInt = x_19.toInt + 1 := xI_add rfl rfl ey_117 ((by first | (clear ha_p0 hn_26 f_25 c_27 c_29 c_110 f_116; omega) | omega)) ((by first | (clear ha_p0 hn_26 f_25 c_27 c_29 c_110 f_116; omega) | omega))
          refine lv_iinc (v := y_117) (lv' := [(4, .int y_117), (3, .int r_111), (0, .ref (a 5))]) hx hb dX7_read_189 hl (k := 1) rfl (by rw [ey_117]; rfl) (lt_b rfl) rfl (fun ls hl => ?_)
          refine lv_goto (tgt := 40) hx hb dX7_read_192 rfl ?_
          exact ih_17 (1600 - y_117.toInt : Int).toNat ((by first | (clear ha_p0 f_25 c_27 c_29 c_110 f_116; omega) | omega)) _ _ _ ⟨G_112, y_117, r_111, (Int.toNat_of_nonneg ((by first | (clear ha_p0 hn_26 f_25 c_27 c_29 c_110 f_116; omega) | omega))), ⟨(by first | (clear ha_p0 hn_26 f_25 c_27 c_29 c_110 f_116; omega) | omega), (by first | (clear ha_p0 hn_26 f_25 c_27 c_29 c_110 f_116; omega) | omega)⟩, ⟨(by first | (clear ha_p0 hn_26 f_24 f_25 c_27 c_28 c_29 c_110 ty_117; omega) | omega), (by first | (clear ha_p0 hn_26 f_24 f_25 c_27 c_28 c_29 c_110 ty_117; omega) | omega)⟩, (hX_21.st (St_k_rRead_2_1_mk ⟨x_19, x_20, G_15, y_117, r_111, G_112, rfl, rfl, f_24, f_25, hB_G_15, ⟨c_27, ⟨c_28, ⟨c_29, (Or.inr ⟨(xI_ne (Y := 128) rfl rfl c_30), (Or.inr ⟨(xI_ne (Y := 129) rfl rfl c_38), (Or.inr ⟨(xI_ne (Y := 130) rfl rfl c_46), (Or.inr ⟨(xI_ne (Y := 131) rfl rfl c_54), (Or.inr ⟨(xI_ne (Y := 132) rfl rfl c_62), (Or.inr ⟨(xI_ne (Y := 133) rfl rfl c_70), (Or.inr ⟨(xI_ne (Y := 134) rfl rfl c_78), (Or.inr ⟨(xI_ne (Y := 135) rfl rfl c_86), (Or.inr ⟨(xI_ne (Y := 136) rfl rfl c_94), (Or.inr ⟨(xI_ne (Y := 137) rfl rfl c_102), (Or.inl ⟨c_110, ⟨r_111, G_112, hX_115, ⟨y_117, ty_117, ⟨rfl, rfl, rfl⟩⟩⟩⟩)⟩)⟩)⟩)⟩)⟩)⟩)⟩)⟩)⟩)⟩)⟩⟩⟩⟩)), hW, hB_G_112, hF, (Fr.call9 (rs := [20, 21, 22, 23, 24, 25, 26, 27, 28, 34, 35, 36]) (fs := [(2, 9), (2, 10), (2, 11), (2, 12), (2, 13), (2, 14), (2, 15), (2, 16), (3, 2), (3, 3), (3, 4), (3, 5), (3, 6), (3, 7), (3, 8), (4, 1), (4, 2), (5, 6), (5, 7), (5, 8), (5, 9)]) (Fr.call9 (rs := [20, 21, 22, 23, 24, 25, 26, 27, 28, 34, 35, 36]) (fs := [(2, 9), (2, 10), (2, 11), (2, 12), (2, 13), (2, 14), (2, 15), (2, 16), (3, 2), (3, 3), (3, 4), (3, 5), (3, 6), (3, 7), (3, 8), (4, 1), (4, 2), (5, 6), (5, 7), (5, 8), (5, 9)]) Fr.rf hq_16 rfl rfl) hq_113 rfl rfl), hS, lv_sub hl [0, 1, 2] rfl⟩
        refine lv_tableOut (tgt := 180) hx hb dX7_read_72 (tb_out (lo := 128) (hi := 138) (by have c_30 := xI_ne (Y := 128) rfl rfl c_30; have c_38 := xI_ne (Y := 129) rfl rfl c_38; have c_46 := xI_ne (Y := 130) rfl rfl c_46; have c_54 := xI_ne (Y := 131) rfl rfl c_54; have c_62 := xI_ne (Y := 132) rfl rfl c_62; have c_70 := xI_ne (Y := 133) rfl rfl c_70; have c_78 := xI_ne (Y := 134) rfl rfl c_78; have c_86 := xI_ne (Y := 135) rfl rfl c_86; have c_94 := xI_ne (Y := 136) rfl rfl c_94; have c_102 := xI_ne (Y := 137) rfl rfl c_102; have c_110 := xI_ne (Y := 138) rfl rfl c_110; omega)) (by decide) ?_
        have c_30 := xI_ne (Y := 128) rfl rfl c_30
        have c_38 := xI_ne (Y := 129) rfl rfl c_38
        have c_46 := xI_ne (Y := 130) rfl rfl c_46
        have c_54 := xI_ne (Y := 131) rfl rfl c_54
        have c_62 := xI_ne (Y := 132) rfl rfl c_62
        have c_70 := xI_ne (Y := 133) rfl rfl c_70
        have c_78 := xI_ne (Y := 134) rfl rfl c_78
        have c_86 := xI_ne (Y := 135) rfl rfl c_86
        have c_94 := xI_ne (Y := 136) rfl rfl c_94
        have c_102 := xI_ne (Y := 137) rfl rfl c_102
        have c_110 := xI_ne (Y := 138) rfl rfl c_110
        refine lv_aload_n hx hb dX7_read_180 rfl (lv_at hl 2 rfl) ?_
        refine S_getR (n := 3) (C := RX7) (T := TX7) (N := 10) hx hb hg iX7 hown hK hW kd_5 rfl 0 (lt_b rfl) (hg (Cond.fieldLink RX7 26 "SlabWalk$Reader" "tokens" "LSlabWalk$Tokens;") m311) (fun _ h9 => h9) rfl dX7_read_181 ?_
        refine ic_2 hx hb dX7_read_184 ?_
        refine S_calli (va_runV (As := [.int 2]) (rest := []) ⟨hx, hb, hml, hown, hts⟩ (k_tRefuse l D k A a z G_15 2 ⟨by decide, by decide⟩) (cwV 1 hts (gd_V hgd m778 m779 m780 m120 m781) rfl rfl rfl hd_X9_refuse ⟨Nat.le_of_ble_eq_true rfl, Nat.le_of_ble_eq_true rfl⟩) (pre_W hW hB_G_15 hK hZ hS kd_3 rfl) rfl rfl hl.1 rfl (lv_room (Nat.le_of_ble_eq_true rfl)) dX7_read_185 ⟨Nat.le_of_ble_eq_true rfl, Nat.le_of_ble_eq_true rfl⟩) hS (fun r_118 G_119 H locs hpo hW hS => ?_)
        have hX_122 : P_tRefuse 2 G_15 r_118 G_119 := hpo
        obtain ⟨hB_G_119, hq_120, f_123, -⟩ := hpo
        have hF := hF.call9 hq_120 rfl rfl
        refine lv_istore_n (lv' := [(3, .int r_118), (4, .int x_19), (0, .ref (a 5))]) hx hb dX7_read_188 rfl hl (lt_b rfl) rfl (fun ls hl => ?_)
        obtain ⟨y_124, ey_124⟩ : ∃ q, q = x_19 + 1 := ⟨_, rfl⟩
        have ty_124 : y_124.toInt = x_19.toInt + 1 := xI_add rfl rfl ey_124 ((by first | (clear ha_p0 hn_26 f_25 c_27 c_29 f_123; omega) | omega)) ((by first | (clear ha_p0 hn_26 f_25 c_27 c_29 f_123; omega) | omega))
        refine lv_iinc (v := y_124) (lv' := [(4, .int y_124), (3, .int r_118), (0, .ref (a 5))]) hx hb dX7_read_189 hl (k := 1) rfl (by rw [ey_124]; rfl) (lt_b rfl) rfl (fun ls hl => ?_)
        refine lv_goto (tgt := 40) hx hb dX7_read_192 rfl ?_
        exact ih_17 (1600 - y_124.toInt : Int).toNat ((by first | (clear ha_p0 f_25 c_27 c_29 f_123; omega) | omega)) _ _ _ ⟨G_119, y_124, r_118, (Int.toNat_of_nonneg ((by first | (clear ha_p0 hn_26 f_25 c_27 c_29 f_123; omega) | omega))), ⟨(by first | (clear ha_p0 hn_26 f_25 c_27 c_29 f_123; omega) | omega), (by first | (clear ha_p0 hn_26 f_25 c_27 c_29 f_123; omega) | omega)⟩, ⟨(by first | (clear ha_p0 hn_26 f_24 f_25 c_27 c_28 c_29 ty_124; omega) | omega), (by first | (clear ha_p0 hn_26 f_24 f_25 c_27 c_28 c_29 ty_124; omega) | omega)⟩, (hX_21.st (St_k_rRead_2_1_mk ⟨x_19, x_20, G_15, y_124, r_118, G_119, rfl, rfl, f_24, f_25, hB_G_15, ⟨c_27, ⟨c_28, ⟨c_29, (Or.inr ⟨c_30, (Or.inr ⟨c_38, (Or.inr ⟨c_46, (Or.inr ⟨c_54, (Or.inr ⟨c_62, (Or.inr ⟨c_70, (Or.inr ⟨c_78, (Or.inr ⟨c_86, (Or.inr ⟨c_94, (Or.inr ⟨c_102, (Or.inr ⟨c_110, ⟨r_118, G_119, hX_122, ⟨y_124, ty_124, ⟨rfl, rfl, rfl⟩⟩⟩⟩)⟩)⟩)⟩)⟩)⟩)⟩)⟩)⟩)⟩)⟩)⟩⟩⟩⟩)), hW, hB_G_119, hF, (Fr.call9 (rs := [20, 21, 22, 23, 24, 25, 26, 27, 28, 34, 35, 36]) (fs := [(2, 9), (2, 10), (2, 11), (2, 12), (2, 13), (2, 14), (2, 15), (2, 16), (3, 2), (3, 3), (3, 4), (3, 5), (3, 6), (3, 7), (3, 8), (4, 1), (4, 2), (5, 6), (5, 7), (5, 8), (5, 9)]) (Fr.call9 (rs := [20, 21, 22, 23, 24, 25, 26, 27, 28, 34, 35, 36]) (fs := [(2, 9), (2, 10), (2, 11), (2, 12), (2, 13), (2, 14), (2, 15), (2, 16), (3, 2), (3, 3), (3, 4), (3, 5), (3, 6), (3, 7), (3, 8), (4, 1), (4, 2), (5, 6), (5, 7), (5, 8), (5, 9)]) Fr.rf hq_16 rfl rfl) hq_120 rfl rfl), hS, lv_sub hl [0, 1, 2] rfl⟩
